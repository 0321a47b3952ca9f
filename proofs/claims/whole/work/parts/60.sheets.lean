def sfN (zt zl zi : Int32) : Int32 := if zt = 0 then 1 else if 0 ≤ zi ∧ zi ≤ zl - 1 then 0 else 2
def saN (zt za zl zv zi : Int32) : Int32 := if ¬ zt = 0 ∧ ¬ za = zv then 3 else sfN zt zl zi
def lnC (za zv : Int32) : Int32 := if za = 0 then zv.toInt8.toInt32 else if za = 1 then zv.toInt16.toInt32 else zv
theorem sf_0 {zt zl zi : Int32} (h : sfN zt zl zi = 0) : ¬ zt = 0 ∧ 0 ≤ zi ∧ zi ≤ zl - 1 := by
  unfold sfN at h
  by_cases h1 : zt = 0
  · rw [if_pos h1] at h; exact absurd h (by decide)
  · rw [if_neg h1] at h
    by_cases h2 : 0 ≤ zi ∧ zi ≤ zl - 1
    · exact ⟨h1, h2⟩
    · rw [if_neg h2] at h; exact absurd h (by decide)
theorem i_00 {zn : Int32} (h0 : ¬ zn < 0) (h1 : ¬ 0 < zn) : 0 = zn := by
  rw [i_lt, i_z0] at *
  apply Int32.toInt_inj.mp
  rw [i_z0]
  omega
theorem cn_X7_isLane (E : ME) (h : AH) (zv : Int32)  : Con E mX7_isLane 1 0 0 [.int zv] h (fun r h' => r = some (.int (bI (0 ≤ zv ∧ zv ≤ 2))) ∧ h' = h) := by
  refine con_of2 (L := [some (.int zv)]) rfl (Nat.le_of_ble_eq_true rfl) rfl ?_
  refine ev_iload_n (pc := 0) dX7_isLane_0 rfl ?_
  refine ev_iconst (pc := 1) (v := 0) dX7_isLane_1 (by decide) ?_
  refine ev_iconst (pc := 2) (v := 2) dX7_isLane_2 (by decide) ?_
  refine ev_callSv (S := []) (pc := 3) dX7_isLane_3 kX10_within lX7_15 sX10_within (cn_X10_within E h zv 0 2) rfl rfl (Nat.le_of_ble_eq_true rfl) ⟨Nat.le_of_ble_eq_true rfl, Nat.le_of_ble_eq_true rfl⟩ ⟨Nat.le_of_ble_eq_true rfl, Nat.le_of_ble_eq_true rfl⟩ ?_
  refine ev_iret (pc := 6) dX7_isLane_6 rfl ?_ ?_
  · first | rfl | exact nar_bI _ | (simp only [*]; exact nar_bI _) | (simp [narrow, *]; done)
  · exact ⟨rfl, rfl⟩
theorem cn_X10_torn (E : ME) (h : AH)  (hw : WF h) : Con E mX10_torn 0 0 0 [.ref 0] h (fun r h' => r = some (.int (h.2.1 0 11)) ∧ h' = h) := by
  refine con_of2 (L := [some (.ref 0)]) rfl (Nat.le_of_ble_eq_true rfl) rfl ?_
  refine ev_aload_n (pc := 0) dX10_torn_0 rfl ?_
  refine ev_getI (pc := 1) dX10_torn_1 fX10_393 rfl (wlt hw (by decide)) ?_
  refine ev_iret (pc := 4) dX10_torn_4 rfl ?_ ?_
  · rfl
  · exact ⟨rfl, rfl⟩
theorem cn_X7_isThere_41 (E : ME) (h : AH)  (hw : WF h) (ht : h.2.1 41 1 = 0 ∨ h.2.1 41 1 = 1) : Con E mX7_isThere 0 0 0 [.ref 41] h (fun r h' => r = some (.int (h.2.1 41 1)) ∧ h' = h) := by
  refine con_of2 (L := [some (.ref 41)]) rfl (Nat.le_of_ble_eq_true rfl) rfl ?_
  refine ev_aload_n (pc := 0) dX7_isThere_0 rfl ?_
  refine ev_getI (pc := 1) dX7_isThere_1 fX7_19 rfl (wlt hw (by decide)) ?_
  refine ev_iret (pc := 4) dX7_isThere_4 rfl ?_ ?_
  · rcases ht with z | z <;> rw [z] <;> rfl
  · exact ⟨rfl, rfl⟩
theorem cn_X7_length_41 (E : ME) (h : AH)  (hw : WF h) : Con E mX7_length 0 0 0 [.ref 41] h (fun r h' => r = some (.int (h.2.1 41 3)) ∧ h' = h) := by
  refine con_of2 (L := [some (.ref 41)]) rfl (Nat.le_of_ble_eq_true rfl) rfl ?_
  refine ev_aload_n (pc := 0) dX7_length_0 rfl ?_
  refine ev_getI (pc := 1) dX7_length_1 fX7_23 rfl (wlt hw (by decide)) ?_
  refine ev_iret (pc := 4) dX7_length_4 rfl ?_ ?_
  · rfl
  · exact ⟨rfl, rfl⟩
theorem cn_X7_faultOf_41 (E : ME) (h : AH) (zi : Int32) (hw : WF h) : Con E mX7_faultOf 1 0 0 [.ref 41, .int zi] h (fun r h' => r = some (.int (sfN (h.2.1 41 1) (h.2.1 41 3) zi)) ∧ h' = h) := by
  refine con_of2 (L := [some (.ref 41), some (.int zi)]) rfl (Nat.le_of_ble_eq_true rfl) rfl ?_
  refine ev_aload_n (pc := 0) dX7_faultOf_0 rfl ?_
  refine ev_getI (pc := 1) dX7_faultOf_1 fX7_19 rfl (wlt hw (by decide)) ?_
  refine ev_if_ne (pc := 4) (tgt := 9) dX7_faultOf_4 (by decide) (fun zc4 => ?_) (fun zc4 => ?_)
  · -- ne at 4: taken
    refine ev_iload_n (pc := 9) dX7_faultOf_9 rfl ?_
    refine ev_iconst (pc := 10) (v := 0) dX7_faultOf_10 (by decide) ?_
    refine ev_aload_n (pc := 11) dX7_faultOf_11 rfl ?_
    refine ev_getI (pc := 12) dX7_faultOf_12 fX7_23 rfl (wlt hw (by decide)) ?_
    refine ev_iconst (pc := 15) (v := 1) dX7_faultOf_15 (by decide) ?_
    refine ev_isub (pc := 16) dX7_faultOf_16 ?_
    refine ev_callSv (S := []) (pc := 17) dX7_faultOf_17 kX10_within lX7_15 sX10_within (cn_X10_within E h zi 0 ((h.2.1 41 3) - 1)) rfl rfl (Nat.le_of_ble_eq_true rfl) ⟨Nat.le_of_ble_eq_true rfl, Nat.le_of_ble_eq_true rfl⟩ ⟨Nat.le_of_ble_eq_true rfl, Nat.le_of_ble_eq_true rfl⟩ ?_
    refine ev_if_eq (pc := 20) (tgt := 27) dX7_faultOf_20 (by decide) (fun zc20 => ?_) (fun zc20 => ?_)
    · -- eq at 20: taken
      refine ev_iconst (pc := 27) (v := 2) dX7_faultOf_27 (by decide) ?_
      refine ev_iret (pc := 28) dX7_faultOf_28 rfl ?_ ?_
      · rfl
      · refine ⟨?_, rfl⟩
        unfold sfN
        rw [if_neg zc4, if_neg (bI_0.mp zc20)]
    · -- eq at 20: not taken
      refine ev_iconst (pc := 23) (v := 0) dX7_faultOf_23 (by decide) ?_
      refine ev_goto (pc := 24) (tgt := 28) dX7_faultOf_24 (by decide) ?_
      refine ev_iret (pc := 28) dX7_faultOf_28 rfl ?_ ?_
      · rfl
      · refine ⟨?_, rfl⟩
        unfold sfN
        rw [if_neg zc4, if_pos (bI_n0.mp zc20)]
  · -- ne at 4: not taken
    refine ev_iconst (pc := 7) (v := 1) dX7_faultOf_7 (by decide) ?_
    refine ev_iret (pc := 8) dX7_faultOf_8 rfl ?_ ?_
    · rfl
    · refine ⟨?_, rfl⟩
      unfold sfN
      rw [if_pos zc4]
theorem cn_X7_faultAs_41 (E : ME) (h : AH) (zv zi : Int32) (hw : WF h) : Con E mX7_faultAs 2 0 0 [.ref 41, .int zv, .int zi] h (fun r h' => r = some (.int (saN (h.2.1 41 1) (h.2.1 41 2) (h.2.1 41 3) zv zi)) ∧ h' = h) := by
  refine con_of2 (L := [some (.ref 41), some (.int zv), some (.int zi)]) rfl (Nat.le_of_ble_eq_true rfl) rfl ?_
  refine ev_aload_n (pc := 0) dX7_faultAs_0 rfl ?_
  refine ev_getI (pc := 1) dX7_faultAs_1 fX7_19 rfl (wlt hw (by decide)) ?_
  refine ev_if_eq (pc := 4) (tgt := 19) dX7_faultAs_4 (by decide) (fun zc4 => ?_) (fun zc4 => ?_)
  · -- eq at 4: taken
    refine ev_aload_n (pc := 19) dX7_faultAs_19 rfl ?_
    refine ev_iload_n (pc := 20) dX7_faultAs_20 rfl ?_
    refine ev_callVv (S := []) (pc := 21) dX7_faultAs_21 kX7_faultOf lX7_45 vX7_faultOf (cn_X7_faultOf_41 E h zi hw) rfl rfl (wlt hw (by decide)) rfl rfl (Nat.le_of_ble_eq_true rfl) ⟨Nat.le_of_ble_eq_true rfl, Nat.le_of_ble_eq_true rfl⟩ ⟨Nat.le_of_ble_eq_true rfl, Nat.le_of_ble_eq_true rfl⟩ ?_
    refine ev_iret (pc := 24) dX7_faultAs_24 rfl ?_ ?_
    · rfl
    · refine ⟨?_, rfl⟩
      unfold saN
      rw [if_neg (fun z => z.1 zc4)]
  · -- eq at 4: not taken
    refine ev_aload_n (pc := 7) dX7_faultAs_7 rfl ?_
    refine ev_getI (pc := 8) dX7_faultAs_8 fX7_33 rfl (wlt hw (by decide)) ?_
    refine ev_iload_n (pc := 11) dX7_faultAs_11 rfl ?_
    refine ev_icmp_eq (pc := 12) (tgt := 19) dX7_faultAs_12 (by decide) (fun zc12 => ?_) (fun zc12 => ?_)
    · -- eq at 12: taken
      refine ev_aload_n (pc := 19) dX7_faultAs_19 rfl ?_
      refine ev_iload_n (pc := 20) dX7_faultAs_20 rfl ?_
      refine ev_callVv (S := []) (pc := 21) dX7_faultAs_21 kX7_faultOf lX7_45 vX7_faultOf (cn_X7_faultOf_41 E h zi hw) rfl rfl (wlt hw (by decide)) rfl rfl (Nat.le_of_ble_eq_true rfl) ⟨Nat.le_of_ble_eq_true rfl, Nat.le_of_ble_eq_true rfl⟩ ⟨Nat.le_of_ble_eq_true rfl, Nat.le_of_ble_eq_true rfl⟩ ?_
      refine ev_iret (pc := 24) dX7_faultAs_24 rfl ?_ ?_
      · rfl
      · refine ⟨?_, rfl⟩
        unfold saN
        rw [if_neg (fun z => z.2 zc12)]
    · -- eq at 12: not taken
      refine ev_iconst (pc := 15) (v := 3) dX7_faultAs_15 (by decide) ?_
      refine ev_goto (pc := 16) (tgt := 24) dX7_faultAs_16 (by decide) ?_
      refine ev_iret (pc := 24) dX7_faultAs_24 rfl ?_ ?_
      · rfl
      · refine ⟨?_, rfl⟩
        unfold saN
        rw [if_pos ⟨zc4, zc12⟩]
theorem cn_X7_valueAt_41 (E : ME) (h : AH) (zi : Int32) (zl : Nat) (hw : WF h) (hl : h.2.1 41 3 = nI zl) (hl2 : zl ≤ 64) : Con E mX7_valueAt 2 0 0 [.ref 41, .int zi] h (fun r h' => r = some (.int (if sfN (h.2.1 41 1) (h.2.1 41 3) zi = 0 then h.2.1 42 zi.toNatClampNeg else -1)) ∧ h' = h) := by
  refine con_of2 (L := [some (.ref 41), some (.int zi)]) rfl (Nat.le_of_ble_eq_true rfl) rfl ?_
  refine ev_aload_n (pc := 0) dX7_valueAt_0 rfl ?_
  refine ev_iload_n (pc := 1) dX7_valueAt_1 rfl ?_
  refine ev_callVv (S := []) (pc := 2) dX7_valueAt_2 kX7_faultOf lX7_45 vX7_faultOf (cn_X7_faultOf_41 E h zi hw) rfl rfl (wlt hw (by decide)) rfl rfl (Nat.le_of_ble_eq_true rfl) ⟨Nat.le_of_ble_eq_true rfl, Nat.le_of_ble_eq_true rfl⟩ ⟨Nat.le_of_ble_eq_true rfl, Nat.le_of_ble_eq_true rfl⟩ ?_
  refine ev_if_ne (pc := 5) (tgt := 17) dX7_valueAt_5 (by decide) (fun zc5 => ?_) (fun zc5 => ?_)
  · -- ne at 5: taken
    refine ev_iconst (pc := 17) (v := (-1)) dX7_valueAt_17 (by decide) ?_
    refine ev_iret (pc := 18) dX7_valueAt_18 rfl ?_ ?_
    · rfl
    · refine ⟨?_, rfl⟩
      rw [if_neg zc5]
  · -- ne at 5: not taken
    refine ev_aload_n (pc := 8) dX7_valueAt_8 rfl ?_
    refine ev_getR (pc := 9) (q := 42) dX7_valueAt_9 fX7_9 rfl (wlt hw (by decide)) (wr hw rfl) ?_
    refine ev_iload_n (pc := 12) dX7_valueAt_12 rfl ?_
    refine ev_iald (pc := 13) dX7_valueAt_13 rfl (wlt hw (by decide)) (vp_th 64 (sf_0 zc5).2.1 (by have z1 := (sf_0 zc5).2.2; rwa [hl] at z1) hl2 (by decide)) ?_
    refine ev_goto (pc := 14) (tgt := 18) dX7_valueAt_14 (by decide) ?_
    refine ev_iret (pc := 18) dX7_valueAt_18 rfl ?_ ?_
    · rfl
    · refine ⟨?_, rfl⟩
      rw [if_pos zc5]
theorem cn_X7_store_41 (E : ME) (h : AH) (zi zv : Int32) (zl : Nat) (hw : WF h) (hl : h.2.1 41 3 = nI zl) (hl2 : zl ≤ 64) : Con E mX7_store 2 0 0 [.ref 41, .int zi, .int zv] h (fun r h' => r = none ∧ h' = if sfN (h.2.1 41 1) (h.2.1 41 3) zi = 0 then sI h 42 (upd (h.2.1 42) zi.toNatClampNeg (lnC (h.2.1 41 2) zv)) else h) := by
  refine con_of2 (L := [some (.ref 41), some (.int zi), some (.int zv)]) rfl (Nat.le_of_ble_eq_true rfl) rfl ?_
  refine ev_aload_n (pc := 0) dX7_store_0 rfl ?_
  refine ev_iload_n (pc := 1) dX7_store_1 rfl ?_
  refine ev_callVv (S := []) (pc := 2) dX7_store_2 kX7_faultOf lX7_45 vX7_faultOf (cn_X7_faultOf_41 E h zi hw) rfl rfl (wlt hw (by decide)) rfl rfl (Nat.le_of_ble_eq_true rfl) ⟨Nat.le_of_ble_eq_true rfl, Nat.le_of_ble_eq_true rfl⟩ ⟨Nat.le_of_ble_eq_true rfl, Nat.le_of_ble_eq_true rfl⟩ ?_
  refine ev_if_ne (pc := 5) (tgt := 40) dX7_store_5 (by decide) (fun zc5 => ?_) (fun zc5 => ?_)
  · -- ne at 5: taken
    refine ev_ret (pc := 40) dX7_store_40 rfl ?_
    · rw [if_neg zc5]
      exact ⟨rfl, rfl⟩
  · -- ne at 5: not taken
    refine ev_aload_n (pc := 8) dX7_store_8 rfl ?_
    refine ev_getR (pc := 9) (q := 42) dX7_store_9 fX7_9 rfl (wlt hw (by decide)) (wr hw rfl) ?_
    refine ev_iload_n (pc := 12) dX7_store_12 rfl ?_
    refine ev_aload_n (pc := 13) dX7_store_13 rfl ?_
    refine ev_getI (pc := 14) dX7_store_14 fX7_33 rfl (wlt hw (by decide)) ?_
    refine ev_if_ne (pc := 17) (tgt := 25) dX7_store_17 (by decide) (fun zc17 => ?_) (fun zc17 => ?_)
    · -- ne at 17: taken
      refine ev_aload_n (pc := 25) dX7_store_25 rfl ?_
      refine ev_getI (pc := 26) dX7_store_26 fX7_33 rfl (wlt hw (by decide)) ?_
      refine ev_iconst (pc := 29) (v := 1) dX7_store_29 (by decide) ?_
      refine ev_icmp_ne (pc := 30) (tgt := 38) dX7_store_30 (by decide) (fun zc30 => ?_) (fun zc30 => ?_)
      · -- ne at 30: taken
        refine ev_iload_n (pc := 38) dX7_store_38 rfl ?_
        refine ev_iast (pc := 39) dX7_store_39 rfl (wlt hw (by decide)) (vp_th 64 (sf_0 zc5).2.1 (by have z1 := (sf_0 zc5).2.2; rwa [hl] at z1) hl2 (by decide)) ?_
        refine ev_eqH (h' := sI h 42 (upd (h.2.1 42) (Int32.toNatClampNeg zi) zv)) (by rfl) ?_
        refine ev_ret (pc := 40) dX7_store_40 rfl ?_
        · rw [if_pos zc5]
          unfold lnC
          rw [if_neg zc17, if_neg zc30]
          exact ⟨rfl, rfl⟩
      · -- ne at 30: not taken
        refine ev_iload_n (pc := 33) dX7_store_33 rfl ?_
        refine ev_i2s (pc := 34) dX7_store_34 ?_
        refine ev_goto (pc := 35) (tgt := 39) dX7_store_35 (by decide) ?_
        refine ev_iast (pc := 39) dX7_store_39 rfl (wlt hw (by decide)) (vp_th 64 (sf_0 zc5).2.1 (by have z1 := (sf_0 zc5).2.2; rwa [hl] at z1) hl2 (by decide)) ?_
        refine ev_eqH (h' := sI h 42 (upd (h.2.1 42) (Int32.toNatClampNeg zi) ((Int32.toInt16 zv).toInt32))) (by rfl) ?_
        refine ev_ret (pc := 40) dX7_store_40 rfl ?_
        · rw [if_pos zc5]
          unfold lnC
          rw [if_neg zc17, if_pos zc30]
          exact ⟨rfl, rfl⟩
    · -- ne at 17: not taken
      refine ev_iload_n (pc := 20) dX7_store_20 rfl ?_
      refine ev_i2b (pc := 21) dX7_store_21 ?_
      refine ev_goto (pc := 22) (tgt := 39) dX7_store_22 (by decide) ?_
      refine ev_iast (pc := 39) dX7_store_39 rfl (wlt hw (by decide)) (vp_th 64 (sf_0 zc5).2.1 (by have z1 := (sf_0 zc5).2.2; rwa [hl] at z1) hl2 (by decide)) ?_
      refine ev_eqH (h' := sI h 42 (upd (h.2.1 42) (Int32.toNatClampNeg zi) ((Int32.toInt8 zv).toInt32))) (by rfl) ?_
      refine ev_ret (pc := 40) dX7_store_40 rfl ?_
      · rw [if_pos zc5]
        unfold lnC
        rw [if_pos zc17]
        exact ⟨rfl, rfl⟩
theorem cn_X7_renew_41 (E : ME) (h : AH) (zv zn : Int32) (hw : WF h) (h0 : ¬ zn < 0) (h64 : zn ≤ 64) : Con E mX7_renew 1 0 0 [.ref 41, .int zv, .int zn] h (fun r h' => r = none ∧ h' = sI (sI h 42 (flI 0 (h.2.1 42) 64)) 41 (upd (upd (upd (h.2.1 41) 1 1) 2 zv) 3 zn)) := by
  refine con_of2 (L := [some (.ref 41), some (.int zv), some (.int zn)]) rfl (Nat.le_of_ble_eq_true rfl) rfl ?_
  refine ev_aload_n (pc := 0) dX7_renew_0 rfl ?_
  refine ev_getR (pc := 1) (q := 42) dX7_renew_1 fX7_9 rfl (wlt hw (by decide)) (wr hw rfl) ?_
  refine ev_iconst (pc := 4) (v := 0) dX7_renew_4 (by decide) ?_
  refine ev_callS0 (S := []) (pc := 5) dX7_renew_5 kJ7_fill_53178 lX7_27 sJ7_fill_53178 (cn_J7_fill_53178 E h 42 64 0 hw rfl (wlt hw (by decide)) (by decide)) rfl rfl (Nat.le_of_ble_eq_true rfl) ⟨Nat.le_of_ble_eq_true rfl, Nat.le_of_ble_eq_true rfl⟩ ⟨Nat.le_of_ble_eq_true rfl, Nat.le_of_ble_eq_true rfl⟩ ?_
  refine ev_eqH (h' := sI h 42 (flI 0 (h.2.1 42) 64)) rfl ?_
  refine ev_aload_n (pc := 8) dX7_renew_8 rfl ?_
  refine ev_iconst (pc := 9) (v := 1) dX7_renew_9 (by decide) ?_
  refine ev_putZ (pc := 10) dX7_renew_10 fX7_19 rfl (wlt (wf_sI hw) (by decide)) (by decide) ?_
  refine ev_eqH (h' := sI (sI h 42 (flI 0 (h.2.1 42) 64)) 41 (upd (h.2.1 41) 1 1)) (by rfl) ?_
  refine ev_aload_n (pc := 13) dX7_renew_13 rfl ?_
  refine ev_iload_n (pc := 14) dX7_renew_14 rfl ?_
  refine ev_putI (pc := 15) dX7_renew_15 fX7_33 rfl (wlt (wf_sI (wf_sI hw)) (by decide)) ?_
  refine ev_eqH (h' := sI (sI h 42 (flI 0 (h.2.1 42) 64)) 41 (upd (upd (h.2.1 41) 1 1) 2 zv)) (by exact sI_sI _ _ _ _) ?_
  refine ev_aload_n (pc := 18) dX7_renew_18 rfl ?_
  refine ev_iconst (pc := 19) (v := 0) dX7_renew_19 (by decide) ?_
  refine ev_iload_n (pc := 20) dX7_renew_20 rfl ?_
  refine ev_bipush (pc := 21) (v := 64) dX7_renew_21 (by decide) ?_
  refine ev_mmin (pc := 23) dX7_renew_23 (tw5 174 rfl (by decide +kernel)) (Nat.le_of_ble_eq_true rfl) ⟨Nat.le_of_ble_eq_true rfl, Nat.le_of_ble_eq_true rfl⟩ ⟨Nat.le_of_ble_eq_true rfl, Nat.le_of_ble_eq_true rfl⟩ ?_
  refine ev_eqI (e' := zn) (if_neg (fun z => (i_le2 _ _).mpr z h64)) ?_
  refine ev_mmax (pc := 26) dX7_renew_26 (tw5 175 rfl (by decide +kernel)) (Nat.le_of_ble_eq_true rfl) ⟨Nat.le_of_ble_eq_true rfl, Nat.le_of_ble_eq_true rfl⟩ ⟨Nat.le_of_ble_eq_true rfl, Nat.le_of_ble_eq_true rfl⟩ ?_
  refine ev_eqI (e' := zn) (by by_cases z : (0 : Int32) < zn; rw [if_pos z]; rw [if_neg z]; exact i_00 h0 z) ?_
  refine ev_putI (pc := 29) dX7_renew_29 fX7_23 rfl (wlt (wf_sI (wf_sI hw)) (by decide)) ?_
  refine ev_eqH (h' := sI (sI h 42 (flI 0 (h.2.1 42) 64)) 41 (upd (upd (upd (h.2.1 41) 1 1) 2 zv) 3 zn)) (by exact sI_sI _ _ _ _) ?_
  refine ev_ret (pc := 32) dX7_renew_32 rfl ?_
  · exact ⟨rfl, rfl⟩
theorem cn_X7_isThere_43 (E : ME) (h : AH)  (hw : WF h) (ht : h.2.1 43 1 = 0 ∨ h.2.1 43 1 = 1) : Con E mX7_isThere 0 0 0 [.ref 43] h (fun r h' => r = some (.int (h.2.1 43 1)) ∧ h' = h) := by
  refine con_of2 (L := [some (.ref 43)]) rfl (Nat.le_of_ble_eq_true rfl) rfl ?_
  refine ev_aload_n (pc := 0) dX7_isThere_0 rfl ?_
  refine ev_getI (pc := 1) dX7_isThere_1 fX7_19 rfl (wlt hw (by decide)) ?_
  refine ev_iret (pc := 4) dX7_isThere_4 rfl ?_ ?_
  · rcases ht with z | z <;> rw [z] <;> rfl
  · exact ⟨rfl, rfl⟩
theorem cn_X7_length_43 (E : ME) (h : AH)  (hw : WF h) : Con E mX7_length 0 0 0 [.ref 43] h (fun r h' => r = some (.int (h.2.1 43 3)) ∧ h' = h) := by
  refine con_of2 (L := [some (.ref 43)]) rfl (Nat.le_of_ble_eq_true rfl) rfl ?_
  refine ev_aload_n (pc := 0) dX7_length_0 rfl ?_
  refine ev_getI (pc := 1) dX7_length_1 fX7_23 rfl (wlt hw (by decide)) ?_
  refine ev_iret (pc := 4) dX7_length_4 rfl ?_ ?_
  · rfl
  · exact ⟨rfl, rfl⟩
theorem cn_X7_faultOf_43 (E : ME) (h : AH) (zi : Int32) (hw : WF h) : Con E mX7_faultOf 1 0 0 [.ref 43, .int zi] h (fun r h' => r = some (.int (sfN (h.2.1 43 1) (h.2.1 43 3) zi)) ∧ h' = h) := by
  refine con_of2 (L := [some (.ref 43), some (.int zi)]) rfl (Nat.le_of_ble_eq_true rfl) rfl ?_
  refine ev_aload_n (pc := 0) dX7_faultOf_0 rfl ?_
  refine ev_getI (pc := 1) dX7_faultOf_1 fX7_19 rfl (wlt hw (by decide)) ?_
  refine ev_if_ne (pc := 4) (tgt := 9) dX7_faultOf_4 (by decide) (fun zc4 => ?_) (fun zc4 => ?_)
  · -- ne at 4: taken
    refine ev_iload_n (pc := 9) dX7_faultOf_9 rfl ?_
    refine ev_iconst (pc := 10) (v := 0) dX7_faultOf_10 (by decide) ?_
    refine ev_aload_n (pc := 11) dX7_faultOf_11 rfl ?_
    refine ev_getI (pc := 12) dX7_faultOf_12 fX7_23 rfl (wlt hw (by decide)) ?_
    refine ev_iconst (pc := 15) (v := 1) dX7_faultOf_15 (by decide) ?_
    refine ev_isub (pc := 16) dX7_faultOf_16 ?_
    refine ev_callSv (S := []) (pc := 17) dX7_faultOf_17 kX10_within lX7_15 sX10_within (cn_X10_within E h zi 0 ((h.2.1 43 3) - 1)) rfl rfl (Nat.le_of_ble_eq_true rfl) ⟨Nat.le_of_ble_eq_true rfl, Nat.le_of_ble_eq_true rfl⟩ ⟨Nat.le_of_ble_eq_true rfl, Nat.le_of_ble_eq_true rfl⟩ ?_
    refine ev_if_eq (pc := 20) (tgt := 27) dX7_faultOf_20 (by decide) (fun zc20 => ?_) (fun zc20 => ?_)
    · -- eq at 20: taken
      refine ev_iconst (pc := 27) (v := 2) dX7_faultOf_27 (by decide) ?_
      refine ev_iret (pc := 28) dX7_faultOf_28 rfl ?_ ?_
      · rfl
      · refine ⟨?_, rfl⟩
        unfold sfN
        rw [if_neg zc4, if_neg (bI_0.mp zc20)]
    · -- eq at 20: not taken
      refine ev_iconst (pc := 23) (v := 0) dX7_faultOf_23 (by decide) ?_
      refine ev_goto (pc := 24) (tgt := 28) dX7_faultOf_24 (by decide) ?_
      refine ev_iret (pc := 28) dX7_faultOf_28 rfl ?_ ?_
      · rfl
      · refine ⟨?_, rfl⟩
        unfold sfN
        rw [if_neg zc4, if_pos (bI_n0.mp zc20)]
  · -- ne at 4: not taken
    refine ev_iconst (pc := 7) (v := 1) dX7_faultOf_7 (by decide) ?_
    refine ev_iret (pc := 8) dX7_faultOf_8 rfl ?_ ?_
    · rfl
    · refine ⟨?_, rfl⟩
      unfold sfN
      rw [if_pos zc4]
theorem cn_X7_faultAs_43 (E : ME) (h : AH) (zv zi : Int32) (hw : WF h) : Con E mX7_faultAs 2 0 0 [.ref 43, .int zv, .int zi] h (fun r h' => r = some (.int (saN (h.2.1 43 1) (h.2.1 43 2) (h.2.1 43 3) zv zi)) ∧ h' = h) := by
  refine con_of2 (L := [some (.ref 43), some (.int zv), some (.int zi)]) rfl (Nat.le_of_ble_eq_true rfl) rfl ?_
  refine ev_aload_n (pc := 0) dX7_faultAs_0 rfl ?_
  refine ev_getI (pc := 1) dX7_faultAs_1 fX7_19 rfl (wlt hw (by decide)) ?_
  refine ev_if_eq (pc := 4) (tgt := 19) dX7_faultAs_4 (by decide) (fun zc4 => ?_) (fun zc4 => ?_)
  · -- eq at 4: taken
    refine ev_aload_n (pc := 19) dX7_faultAs_19 rfl ?_
    refine ev_iload_n (pc := 20) dX7_faultAs_20 rfl ?_
    refine ev_callVv (S := []) (pc := 21) dX7_faultAs_21 kX7_faultOf lX7_45 vX7_faultOf (cn_X7_faultOf_43 E h zi hw) rfl rfl (wlt hw (by decide)) rfl rfl (Nat.le_of_ble_eq_true rfl) ⟨Nat.le_of_ble_eq_true rfl, Nat.le_of_ble_eq_true rfl⟩ ⟨Nat.le_of_ble_eq_true rfl, Nat.le_of_ble_eq_true rfl⟩ ?_
    refine ev_iret (pc := 24) dX7_faultAs_24 rfl ?_ ?_
    · rfl
    · refine ⟨?_, rfl⟩
      unfold saN
      rw [if_neg (fun z => z.1 zc4)]
  · -- eq at 4: not taken
    refine ev_aload_n (pc := 7) dX7_faultAs_7 rfl ?_
    refine ev_getI (pc := 8) dX7_faultAs_8 fX7_33 rfl (wlt hw (by decide)) ?_
    refine ev_iload_n (pc := 11) dX7_faultAs_11 rfl ?_
    refine ev_icmp_eq (pc := 12) (tgt := 19) dX7_faultAs_12 (by decide) (fun zc12 => ?_) (fun zc12 => ?_)
    · -- eq at 12: taken
      refine ev_aload_n (pc := 19) dX7_faultAs_19 rfl ?_
      refine ev_iload_n (pc := 20) dX7_faultAs_20 rfl ?_
      refine ev_callVv (S := []) (pc := 21) dX7_faultAs_21 kX7_faultOf lX7_45 vX7_faultOf (cn_X7_faultOf_43 E h zi hw) rfl rfl (wlt hw (by decide)) rfl rfl (Nat.le_of_ble_eq_true rfl) ⟨Nat.le_of_ble_eq_true rfl, Nat.le_of_ble_eq_true rfl⟩ ⟨Nat.le_of_ble_eq_true rfl, Nat.le_of_ble_eq_true rfl⟩ ?_
      refine ev_iret (pc := 24) dX7_faultAs_24 rfl ?_ ?_
      · rfl
      · refine ⟨?_, rfl⟩
        unfold saN
        rw [if_neg (fun z => z.2 zc12)]
    · -- eq at 12: not taken
      refine ev_iconst (pc := 15) (v := 3) dX7_faultAs_15 (by decide) ?_
      refine ev_goto (pc := 16) (tgt := 24) dX7_faultAs_16 (by decide) ?_
      refine ev_iret (pc := 24) dX7_faultAs_24 rfl ?_ ?_
      · rfl
      · refine ⟨?_, rfl⟩
        unfold saN
        rw [if_pos ⟨zc4, zc12⟩]
theorem cn_X7_valueAt_43 (E : ME) (h : AH) (zi : Int32) (zl : Nat) (hw : WF h) (hl : h.2.1 43 3 = nI zl) (hl2 : zl ≤ 64) : Con E mX7_valueAt 2 0 0 [.ref 43, .int zi] h (fun r h' => r = some (.int (if sfN (h.2.1 43 1) (h.2.1 43 3) zi = 0 then h.2.1 44 zi.toNatClampNeg else -1)) ∧ h' = h) := by
  refine con_of2 (L := [some (.ref 43), some (.int zi)]) rfl (Nat.le_of_ble_eq_true rfl) rfl ?_
  refine ev_aload_n (pc := 0) dX7_valueAt_0 rfl ?_
  refine ev_iload_n (pc := 1) dX7_valueAt_1 rfl ?_
  refine ev_callVv (S := []) (pc := 2) dX7_valueAt_2 kX7_faultOf lX7_45 vX7_faultOf (cn_X7_faultOf_43 E h zi hw) rfl rfl (wlt hw (by decide)) rfl rfl (Nat.le_of_ble_eq_true rfl) ⟨Nat.le_of_ble_eq_true rfl, Nat.le_of_ble_eq_true rfl⟩ ⟨Nat.le_of_ble_eq_true rfl, Nat.le_of_ble_eq_true rfl⟩ ?_
  refine ev_if_ne (pc := 5) (tgt := 17) dX7_valueAt_5 (by decide) (fun zc5 => ?_) (fun zc5 => ?_)
  · -- ne at 5: taken
    refine ev_iconst (pc := 17) (v := (-1)) dX7_valueAt_17 (by decide) ?_
    refine ev_iret (pc := 18) dX7_valueAt_18 rfl ?_ ?_
    · rfl
    · refine ⟨?_, rfl⟩
      rw [if_neg zc5]
  · -- ne at 5: not taken
    refine ev_aload_n (pc := 8) dX7_valueAt_8 rfl ?_
    refine ev_getR (pc := 9) (q := 44) dX7_valueAt_9 fX7_9 rfl (wlt hw (by decide)) (wr hw rfl) ?_
    refine ev_iload_n (pc := 12) dX7_valueAt_12 rfl ?_
    refine ev_iald (pc := 13) dX7_valueAt_13 rfl (wlt hw (by decide)) (vp_th 64 (sf_0 zc5).2.1 (by have z1 := (sf_0 zc5).2.2; rwa [hl] at z1) hl2 (by decide)) ?_
    refine ev_goto (pc := 14) (tgt := 18) dX7_valueAt_14 (by decide) ?_
    refine ev_iret (pc := 18) dX7_valueAt_18 rfl ?_ ?_
    · rfl
    · refine ⟨?_, rfl⟩
      rw [if_pos zc5]
theorem cn_X7_store_43 (E : ME) (h : AH) (zi zv : Int32) (zl : Nat) (hw : WF h) (hl : h.2.1 43 3 = nI zl) (hl2 : zl ≤ 64) : Con E mX7_store 2 0 0 [.ref 43, .int zi, .int zv] h (fun r h' => r = none ∧ h' = if sfN (h.2.1 43 1) (h.2.1 43 3) zi = 0 then sI h 44 (upd (h.2.1 44) zi.toNatClampNeg (lnC (h.2.1 43 2) zv)) else h) := by
  refine con_of2 (L := [some (.ref 43), some (.int zi), some (.int zv)]) rfl (Nat.le_of_ble_eq_true rfl) rfl ?_
  refine ev_aload_n (pc := 0) dX7_store_0 rfl ?_
  refine ev_iload_n (pc := 1) dX7_store_1 rfl ?_
  refine ev_callVv (S := []) (pc := 2) dX7_store_2 kX7_faultOf lX7_45 vX7_faultOf (cn_X7_faultOf_43 E h zi hw) rfl rfl (wlt hw (by decide)) rfl rfl (Nat.le_of_ble_eq_true rfl) ⟨Nat.le_of_ble_eq_true rfl, Nat.le_of_ble_eq_true rfl⟩ ⟨Nat.le_of_ble_eq_true rfl, Nat.le_of_ble_eq_true rfl⟩ ?_
  refine ev_if_ne (pc := 5) (tgt := 40) dX7_store_5 (by decide) (fun zc5 => ?_) (fun zc5 => ?_)
  · -- ne at 5: taken
    refine ev_ret (pc := 40) dX7_store_40 rfl ?_
    · rw [if_neg zc5]
      exact ⟨rfl, rfl⟩
  · -- ne at 5: not taken
    refine ev_aload_n (pc := 8) dX7_store_8 rfl ?_
    refine ev_getR (pc := 9) (q := 44) dX7_store_9 fX7_9 rfl (wlt hw (by decide)) (wr hw rfl) ?_
    refine ev_iload_n (pc := 12) dX7_store_12 rfl ?_
    refine ev_aload_n (pc := 13) dX7_store_13 rfl ?_
    refine ev_getI (pc := 14) dX7_store_14 fX7_33 rfl (wlt hw (by decide)) ?_
    refine ev_if_ne (pc := 17) (tgt := 25) dX7_store_17 (by decide) (fun zc17 => ?_) (fun zc17 => ?_)
    · -- ne at 17: taken
      refine ev_aload_n (pc := 25) dX7_store_25 rfl ?_
      refine ev_getI (pc := 26) dX7_store_26 fX7_33 rfl (wlt hw (by decide)) ?_
      refine ev_iconst (pc := 29) (v := 1) dX7_store_29 (by decide) ?_
      refine ev_icmp_ne (pc := 30) (tgt := 38) dX7_store_30 (by decide) (fun zc30 => ?_) (fun zc30 => ?_)
      · -- ne at 30: taken
        refine ev_iload_n (pc := 38) dX7_store_38 rfl ?_
        refine ev_iast (pc := 39) dX7_store_39 rfl (wlt hw (by decide)) (vp_th 64 (sf_0 zc5).2.1 (by have z1 := (sf_0 zc5).2.2; rwa [hl] at z1) hl2 (by decide)) ?_
        refine ev_eqH (h' := sI h 44 (upd (h.2.1 44) (Int32.toNatClampNeg zi) zv)) (by rfl) ?_
        refine ev_ret (pc := 40) dX7_store_40 rfl ?_
        · rw [if_pos zc5]
          unfold lnC
          rw [if_neg zc17, if_neg zc30]
          exact ⟨rfl, rfl⟩
      · -- ne at 30: not taken
        refine ev_iload_n (pc := 33) dX7_store_33 rfl ?_
        refine ev_i2s (pc := 34) dX7_store_34 ?_
        refine ev_goto (pc := 35) (tgt := 39) dX7_store_35 (by decide) ?_
        refine ev_iast (pc := 39) dX7_store_39 rfl (wlt hw (by decide)) (vp_th 64 (sf_0 zc5).2.1 (by have z1 := (sf_0 zc5).2.2; rwa [hl] at z1) hl2 (by decide)) ?_
        refine ev_eqH (h' := sI h 44 (upd (h.2.1 44) (Int32.toNatClampNeg zi) ((Int32.toInt16 zv).toInt32))) (by rfl) ?_
        refine ev_ret (pc := 40) dX7_store_40 rfl ?_
        · rw [if_pos zc5]
          unfold lnC
          rw [if_neg zc17, if_pos zc30]
          exact ⟨rfl, rfl⟩
    · -- ne at 17: not taken
      refine ev_iload_n (pc := 20) dX7_store_20 rfl ?_
      refine ev_i2b (pc := 21) dX7_store_21 ?_
      refine ev_goto (pc := 22) (tgt := 39) dX7_store_22 (by decide) ?_
      refine ev_iast (pc := 39) dX7_store_39 rfl (wlt hw (by decide)) (vp_th 64 (sf_0 zc5).2.1 (by have z1 := (sf_0 zc5).2.2; rwa [hl] at z1) hl2 (by decide)) ?_
      refine ev_eqH (h' := sI h 44 (upd (h.2.1 44) (Int32.toNatClampNeg zi) ((Int32.toInt8 zv).toInt32))) (by rfl) ?_
      refine ev_ret (pc := 40) dX7_store_40 rfl ?_
      · rw [if_pos zc5]
        unfold lnC
        rw [if_pos zc17]
        exact ⟨rfl, rfl⟩
theorem cn_X7_renew_43 (E : ME) (h : AH) (zv zn : Int32) (hw : WF h) (h0 : ¬ zn < 0) (h64 : zn ≤ 64) : Con E mX7_renew 1 0 0 [.ref 43, .int zv, .int zn] h (fun r h' => r = none ∧ h' = sI (sI h 44 (flI 0 (h.2.1 44) 64)) 43 (upd (upd (upd (h.2.1 43) 1 1) 2 zv) 3 zn)) := by
  refine con_of2 (L := [some (.ref 43), some (.int zv), some (.int zn)]) rfl (Nat.le_of_ble_eq_true rfl) rfl ?_
  refine ev_aload_n (pc := 0) dX7_renew_0 rfl ?_
  refine ev_getR (pc := 1) (q := 44) dX7_renew_1 fX7_9 rfl (wlt hw (by decide)) (wr hw rfl) ?_
  refine ev_iconst (pc := 4) (v := 0) dX7_renew_4 (by decide) ?_
  refine ev_callS0 (S := []) (pc := 5) dX7_renew_5 kJ7_fill_53178 lX7_27 sJ7_fill_53178 (cn_J7_fill_53178 E h 44 64 0 hw rfl (wlt hw (by decide)) (by decide)) rfl rfl (Nat.le_of_ble_eq_true rfl) ⟨Nat.le_of_ble_eq_true rfl, Nat.le_of_ble_eq_true rfl⟩ ⟨Nat.le_of_ble_eq_true rfl, Nat.le_of_ble_eq_true rfl⟩ ?_
  refine ev_eqH (h' := sI h 44 (flI 0 (h.2.1 44) 64)) rfl ?_
  refine ev_aload_n (pc := 8) dX7_renew_8 rfl ?_
  refine ev_iconst (pc := 9) (v := 1) dX7_renew_9 (by decide) ?_
  refine ev_putZ (pc := 10) dX7_renew_10 fX7_19 rfl (wlt (wf_sI hw) (by decide)) (by decide) ?_
  refine ev_eqH (h' := sI (sI h 44 (flI 0 (h.2.1 44) 64)) 43 (upd (h.2.1 43) 1 1)) (by rfl) ?_
  refine ev_aload_n (pc := 13) dX7_renew_13 rfl ?_
  refine ev_iload_n (pc := 14) dX7_renew_14 rfl ?_
  refine ev_putI (pc := 15) dX7_renew_15 fX7_33 rfl (wlt (wf_sI (wf_sI hw)) (by decide)) ?_
  refine ev_eqH (h' := sI (sI h 44 (flI 0 (h.2.1 44) 64)) 43 (upd (upd (h.2.1 43) 1 1) 2 zv)) (by exact sI_sI _ _ _ _) ?_
  refine ev_aload_n (pc := 18) dX7_renew_18 rfl ?_
  refine ev_iconst (pc := 19) (v := 0) dX7_renew_19 (by decide) ?_
  refine ev_iload_n (pc := 20) dX7_renew_20 rfl ?_
  refine ev_bipush (pc := 21) (v := 64) dX7_renew_21 (by decide) ?_
  refine ev_mmin (pc := 23) dX7_renew_23 (tw5 174 rfl (by decide +kernel)) (Nat.le_of_ble_eq_true rfl) ⟨Nat.le_of_ble_eq_true rfl, Nat.le_of_ble_eq_true rfl⟩ ⟨Nat.le_of_ble_eq_true rfl, Nat.le_of_ble_eq_true rfl⟩ ?_
  refine ev_eqI (e' := zn) (if_neg (fun z => (i_le2 _ _).mpr z h64)) ?_
  refine ev_mmax (pc := 26) dX7_renew_26 (tw5 175 rfl (by decide +kernel)) (Nat.le_of_ble_eq_true rfl) ⟨Nat.le_of_ble_eq_true rfl, Nat.le_of_ble_eq_true rfl⟩ ⟨Nat.le_of_ble_eq_true rfl, Nat.le_of_ble_eq_true rfl⟩ ?_
  refine ev_eqI (e' := zn) (by by_cases z : (0 : Int32) < zn; rw [if_pos z]; rw [if_neg z]; exact i_00 h0 z) ?_
  refine ev_putI (pc := 29) dX7_renew_29 fX7_23 rfl (wlt (wf_sI (wf_sI hw)) (by decide)) ?_
  refine ev_eqH (h' := sI (sI h 44 (flI 0 (h.2.1 44) 64)) 43 (upd (upd (upd (h.2.1 43) 1 1) 2 zv) 3 zn)) (by exact sI_sI _ _ _ _) ?_
  refine ev_ret (pc := 32) dX7_renew_32 rfl ?_
  · exact ⟨rfl, rfl⟩
theorem cn_X7_isThere_45 (E : ME) (h : AH)  (hw : WF h) (ht : h.2.1 45 1 = 0 ∨ h.2.1 45 1 = 1) : Con E mX7_isThere 0 0 0 [.ref 45] h (fun r h' => r = some (.int (h.2.1 45 1)) ∧ h' = h) := by
  refine con_of2 (L := [some (.ref 45)]) rfl (Nat.le_of_ble_eq_true rfl) rfl ?_
  refine ev_aload_n (pc := 0) dX7_isThere_0 rfl ?_
  refine ev_getI (pc := 1) dX7_isThere_1 fX7_19 rfl (wlt hw (by decide)) ?_
  refine ev_iret (pc := 4) dX7_isThere_4 rfl ?_ ?_
  · rcases ht with z | z <;> rw [z] <;> rfl
  · exact ⟨rfl, rfl⟩
theorem cn_X7_length_45 (E : ME) (h : AH)  (hw : WF h) : Con E mX7_length 0 0 0 [.ref 45] h (fun r h' => r = some (.int (h.2.1 45 3)) ∧ h' = h) := by
  refine con_of2 (L := [some (.ref 45)]) rfl (Nat.le_of_ble_eq_true rfl) rfl ?_
  refine ev_aload_n (pc := 0) dX7_length_0 rfl ?_
  refine ev_getI (pc := 1) dX7_length_1 fX7_23 rfl (wlt hw (by decide)) ?_
  refine ev_iret (pc := 4) dX7_length_4 rfl ?_ ?_
  · rfl
  · exact ⟨rfl, rfl⟩
theorem cn_X7_faultOf_45 (E : ME) (h : AH) (zi : Int32) (hw : WF h) : Con E mX7_faultOf 1 0 0 [.ref 45, .int zi] h (fun r h' => r = some (.int (sfN (h.2.1 45 1) (h.2.1 45 3) zi)) ∧ h' = h) := by
  refine con_of2 (L := [some (.ref 45), some (.int zi)]) rfl (Nat.le_of_ble_eq_true rfl) rfl ?_
  refine ev_aload_n (pc := 0) dX7_faultOf_0 rfl ?_
  refine ev_getI (pc := 1) dX7_faultOf_1 fX7_19 rfl (wlt hw (by decide)) ?_
  refine ev_if_ne (pc := 4) (tgt := 9) dX7_faultOf_4 (by decide) (fun zc4 => ?_) (fun zc4 => ?_)
  · -- ne at 4: taken
    refine ev_iload_n (pc := 9) dX7_faultOf_9 rfl ?_
    refine ev_iconst (pc := 10) (v := 0) dX7_faultOf_10 (by decide) ?_
    refine ev_aload_n (pc := 11) dX7_faultOf_11 rfl ?_
    refine ev_getI (pc := 12) dX7_faultOf_12 fX7_23 rfl (wlt hw (by decide)) ?_
    refine ev_iconst (pc := 15) (v := 1) dX7_faultOf_15 (by decide) ?_
    refine ev_isub (pc := 16) dX7_faultOf_16 ?_
    refine ev_callSv (S := []) (pc := 17) dX7_faultOf_17 kX10_within lX7_15 sX10_within (cn_X10_within E h zi 0 ((h.2.1 45 3) - 1)) rfl rfl (Nat.le_of_ble_eq_true rfl) ⟨Nat.le_of_ble_eq_true rfl, Nat.le_of_ble_eq_true rfl⟩ ⟨Nat.le_of_ble_eq_true rfl, Nat.le_of_ble_eq_true rfl⟩ ?_
    refine ev_if_eq (pc := 20) (tgt := 27) dX7_faultOf_20 (by decide) (fun zc20 => ?_) (fun zc20 => ?_)
    · -- eq at 20: taken
      refine ev_iconst (pc := 27) (v := 2) dX7_faultOf_27 (by decide) ?_
      refine ev_iret (pc := 28) dX7_faultOf_28 rfl ?_ ?_
      · rfl
      · refine ⟨?_, rfl⟩
        unfold sfN
        rw [if_neg zc4, if_neg (bI_0.mp zc20)]
    · -- eq at 20: not taken
      refine ev_iconst (pc := 23) (v := 0) dX7_faultOf_23 (by decide) ?_
      refine ev_goto (pc := 24) (tgt := 28) dX7_faultOf_24 (by decide) ?_
      refine ev_iret (pc := 28) dX7_faultOf_28 rfl ?_ ?_
      · rfl
      · refine ⟨?_, rfl⟩
        unfold sfN
        rw [if_neg zc4, if_pos (bI_n0.mp zc20)]
  · -- ne at 4: not taken
    refine ev_iconst (pc := 7) (v := 1) dX7_faultOf_7 (by decide) ?_
    refine ev_iret (pc := 8) dX7_faultOf_8 rfl ?_ ?_
    · rfl
    · refine ⟨?_, rfl⟩
      unfold sfN
      rw [if_pos zc4]
theorem cn_X7_faultAs_45 (E : ME) (h : AH) (zv zi : Int32) (hw : WF h) : Con E mX7_faultAs 2 0 0 [.ref 45, .int zv, .int zi] h (fun r h' => r = some (.int (saN (h.2.1 45 1) (h.2.1 45 2) (h.2.1 45 3) zv zi)) ∧ h' = h) := by
  refine con_of2 (L := [some (.ref 45), some (.int zv), some (.int zi)]) rfl (Nat.le_of_ble_eq_true rfl) rfl ?_
  refine ev_aload_n (pc := 0) dX7_faultAs_0 rfl ?_
  refine ev_getI (pc := 1) dX7_faultAs_1 fX7_19 rfl (wlt hw (by decide)) ?_
  refine ev_if_eq (pc := 4) (tgt := 19) dX7_faultAs_4 (by decide) (fun zc4 => ?_) (fun zc4 => ?_)
  · -- eq at 4: taken
    refine ev_aload_n (pc := 19) dX7_faultAs_19 rfl ?_
    refine ev_iload_n (pc := 20) dX7_faultAs_20 rfl ?_
    refine ev_callVv (S := []) (pc := 21) dX7_faultAs_21 kX7_faultOf lX7_45 vX7_faultOf (cn_X7_faultOf_45 E h zi hw) rfl rfl (wlt hw (by decide)) rfl rfl (Nat.le_of_ble_eq_true rfl) ⟨Nat.le_of_ble_eq_true rfl, Nat.le_of_ble_eq_true rfl⟩ ⟨Nat.le_of_ble_eq_true rfl, Nat.le_of_ble_eq_true rfl⟩ ?_
    refine ev_iret (pc := 24) dX7_faultAs_24 rfl ?_ ?_
    · rfl
    · refine ⟨?_, rfl⟩
      unfold saN
      rw [if_neg (fun z => z.1 zc4)]
  · -- eq at 4: not taken
    refine ev_aload_n (pc := 7) dX7_faultAs_7 rfl ?_
    refine ev_getI (pc := 8) dX7_faultAs_8 fX7_33 rfl (wlt hw (by decide)) ?_
    refine ev_iload_n (pc := 11) dX7_faultAs_11 rfl ?_
    refine ev_icmp_eq (pc := 12) (tgt := 19) dX7_faultAs_12 (by decide) (fun zc12 => ?_) (fun zc12 => ?_)
    · -- eq at 12: taken
      refine ev_aload_n (pc := 19) dX7_faultAs_19 rfl ?_
      refine ev_iload_n (pc := 20) dX7_faultAs_20 rfl ?_
      refine ev_callVv (S := []) (pc := 21) dX7_faultAs_21 kX7_faultOf lX7_45 vX7_faultOf (cn_X7_faultOf_45 E h zi hw) rfl rfl (wlt hw (by decide)) rfl rfl (Nat.le_of_ble_eq_true rfl) ⟨Nat.le_of_ble_eq_true rfl, Nat.le_of_ble_eq_true rfl⟩ ⟨Nat.le_of_ble_eq_true rfl, Nat.le_of_ble_eq_true rfl⟩ ?_
      refine ev_iret (pc := 24) dX7_faultAs_24 rfl ?_ ?_
      · rfl
      · refine ⟨?_, rfl⟩
        unfold saN
        rw [if_neg (fun z => z.2 zc12)]
    · -- eq at 12: not taken
      refine ev_iconst (pc := 15) (v := 3) dX7_faultAs_15 (by decide) ?_
      refine ev_goto (pc := 16) (tgt := 24) dX7_faultAs_16 (by decide) ?_
      refine ev_iret (pc := 24) dX7_faultAs_24 rfl ?_ ?_
      · rfl
      · refine ⟨?_, rfl⟩
        unfold saN
        rw [if_pos ⟨zc4, zc12⟩]
theorem cn_X7_valueAt_45 (E : ME) (h : AH) (zi : Int32) (zl : Nat) (hw : WF h) (hl : h.2.1 45 3 = nI zl) (hl2 : zl ≤ 64) : Con E mX7_valueAt 2 0 0 [.ref 45, .int zi] h (fun r h' => r = some (.int (if sfN (h.2.1 45 1) (h.2.1 45 3) zi = 0 then h.2.1 46 zi.toNatClampNeg else -1)) ∧ h' = h) := by
  refine con_of2 (L := [some (.ref 45), some (.int zi)]) rfl (Nat.le_of_ble_eq_true rfl) rfl ?_
  refine ev_aload_n (pc := 0) dX7_valueAt_0 rfl ?_
  refine ev_iload_n (pc := 1) dX7_valueAt_1 rfl ?_
  refine ev_callVv (S := []) (pc := 2) dX7_valueAt_2 kX7_faultOf lX7_45 vX7_faultOf (cn_X7_faultOf_45 E h zi hw) rfl rfl (wlt hw (by decide)) rfl rfl (Nat.le_of_ble_eq_true rfl) ⟨Nat.le_of_ble_eq_true rfl, Nat.le_of_ble_eq_true rfl⟩ ⟨Nat.le_of_ble_eq_true rfl, Nat.le_of_ble_eq_true rfl⟩ ?_
  refine ev_if_ne (pc := 5) (tgt := 17) dX7_valueAt_5 (by decide) (fun zc5 => ?_) (fun zc5 => ?_)
  · -- ne at 5: taken
    refine ev_iconst (pc := 17) (v := (-1)) dX7_valueAt_17 (by decide) ?_
    refine ev_iret (pc := 18) dX7_valueAt_18 rfl ?_ ?_
    · rfl
    · refine ⟨?_, rfl⟩
      rw [if_neg zc5]
  · -- ne at 5: not taken
    refine ev_aload_n (pc := 8) dX7_valueAt_8 rfl ?_
    refine ev_getR (pc := 9) (q := 46) dX7_valueAt_9 fX7_9 rfl (wlt hw (by decide)) (wr hw rfl) ?_
    refine ev_iload_n (pc := 12) dX7_valueAt_12 rfl ?_
    refine ev_iald (pc := 13) dX7_valueAt_13 rfl (wlt hw (by decide)) (vp_th 64 (sf_0 zc5).2.1 (by have z1 := (sf_0 zc5).2.2; rwa [hl] at z1) hl2 (by decide)) ?_
    refine ev_goto (pc := 14) (tgt := 18) dX7_valueAt_14 (by decide) ?_
    refine ev_iret (pc := 18) dX7_valueAt_18 rfl ?_ ?_
    · rfl
    · refine ⟨?_, rfl⟩
      rw [if_pos zc5]
theorem cn_X7_store_45 (E : ME) (h : AH) (zi zv : Int32) (zl : Nat) (hw : WF h) (hl : h.2.1 45 3 = nI zl) (hl2 : zl ≤ 64) : Con E mX7_store 2 0 0 [.ref 45, .int zi, .int zv] h (fun r h' => r = none ∧ h' = if sfN (h.2.1 45 1) (h.2.1 45 3) zi = 0 then sI h 46 (upd (h.2.1 46) zi.toNatClampNeg (lnC (h.2.1 45 2) zv)) else h) := by
  refine con_of2 (L := [some (.ref 45), some (.int zi), some (.int zv)]) rfl (Nat.le_of_ble_eq_true rfl) rfl ?_
  refine ev_aload_n (pc := 0) dX7_store_0 rfl ?_
  refine ev_iload_n (pc := 1) dX7_store_1 rfl ?_
  refine ev_callVv (S := []) (pc := 2) dX7_store_2 kX7_faultOf lX7_45 vX7_faultOf (cn_X7_faultOf_45 E h zi hw) rfl rfl (wlt hw (by decide)) rfl rfl (Nat.le_of_ble_eq_true rfl) ⟨Nat.le_of_ble_eq_true rfl, Nat.le_of_ble_eq_true rfl⟩ ⟨Nat.le_of_ble_eq_true rfl, Nat.le_of_ble_eq_true rfl⟩ ?_
  refine ev_if_ne (pc := 5) (tgt := 40) dX7_store_5 (by decide) (fun zc5 => ?_) (fun zc5 => ?_)
  · -- ne at 5: taken
    refine ev_ret (pc := 40) dX7_store_40 rfl ?_
    · rw [if_neg zc5]
      exact ⟨rfl, rfl⟩
  · -- ne at 5: not taken
    refine ev_aload_n (pc := 8) dX7_store_8 rfl ?_
    refine ev_getR (pc := 9) (q := 46) dX7_store_9 fX7_9 rfl (wlt hw (by decide)) (wr hw rfl) ?_
    refine ev_iload_n (pc := 12) dX7_store_12 rfl ?_
    refine ev_aload_n (pc := 13) dX7_store_13 rfl ?_
    refine ev_getI (pc := 14) dX7_store_14 fX7_33 rfl (wlt hw (by decide)) ?_
    refine ev_if_ne (pc := 17) (tgt := 25) dX7_store_17 (by decide) (fun zc17 => ?_) (fun zc17 => ?_)
    · -- ne at 17: taken
      refine ev_aload_n (pc := 25) dX7_store_25 rfl ?_
      refine ev_getI (pc := 26) dX7_store_26 fX7_33 rfl (wlt hw (by decide)) ?_
      refine ev_iconst (pc := 29) (v := 1) dX7_store_29 (by decide) ?_
      refine ev_icmp_ne (pc := 30) (tgt := 38) dX7_store_30 (by decide) (fun zc30 => ?_) (fun zc30 => ?_)
      · -- ne at 30: taken
        refine ev_iload_n (pc := 38) dX7_store_38 rfl ?_
        refine ev_iast (pc := 39) dX7_store_39 rfl (wlt hw (by decide)) (vp_th 64 (sf_0 zc5).2.1 (by have z1 := (sf_0 zc5).2.2; rwa [hl] at z1) hl2 (by decide)) ?_
        refine ev_eqH (h' := sI h 46 (upd (h.2.1 46) (Int32.toNatClampNeg zi) zv)) (by rfl) ?_
        refine ev_ret (pc := 40) dX7_store_40 rfl ?_
        · rw [if_pos zc5]
          unfold lnC
          rw [if_neg zc17, if_neg zc30]
          exact ⟨rfl, rfl⟩
      · -- ne at 30: not taken
        refine ev_iload_n (pc := 33) dX7_store_33 rfl ?_
        refine ev_i2s (pc := 34) dX7_store_34 ?_
        refine ev_goto (pc := 35) (tgt := 39) dX7_store_35 (by decide) ?_
        refine ev_iast (pc := 39) dX7_store_39 rfl (wlt hw (by decide)) (vp_th 64 (sf_0 zc5).2.1 (by have z1 := (sf_0 zc5).2.2; rwa [hl] at z1) hl2 (by decide)) ?_
        refine ev_eqH (h' := sI h 46 (upd (h.2.1 46) (Int32.toNatClampNeg zi) ((Int32.toInt16 zv).toInt32))) (by rfl) ?_
        refine ev_ret (pc := 40) dX7_store_40 rfl ?_
        · rw [if_pos zc5]
          unfold lnC
          rw [if_neg zc17, if_pos zc30]
          exact ⟨rfl, rfl⟩
    · -- ne at 17: not taken
      refine ev_iload_n (pc := 20) dX7_store_20 rfl ?_
      refine ev_i2b (pc := 21) dX7_store_21 ?_
      refine ev_goto (pc := 22) (tgt := 39) dX7_store_22 (by decide) ?_
      refine ev_iast (pc := 39) dX7_store_39 rfl (wlt hw (by decide)) (vp_th 64 (sf_0 zc5).2.1 (by have z1 := (sf_0 zc5).2.2; rwa [hl] at z1) hl2 (by decide)) ?_
      refine ev_eqH (h' := sI h 46 (upd (h.2.1 46) (Int32.toNatClampNeg zi) ((Int32.toInt8 zv).toInt32))) (by rfl) ?_
      refine ev_ret (pc := 40) dX7_store_40 rfl ?_
      · rw [if_pos zc5]
        unfold lnC
        rw [if_pos zc17]
        exact ⟨rfl, rfl⟩
theorem cn_X7_renew_45 (E : ME) (h : AH) (zv zn : Int32) (hw : WF h) (h0 : ¬ zn < 0) (h64 : zn ≤ 64) : Con E mX7_renew 1 0 0 [.ref 45, .int zv, .int zn] h (fun r h' => r = none ∧ h' = sI (sI h 46 (flI 0 (h.2.1 46) 64)) 45 (upd (upd (upd (h.2.1 45) 1 1) 2 zv) 3 zn)) := by
  refine con_of2 (L := [some (.ref 45), some (.int zv), some (.int zn)]) rfl (Nat.le_of_ble_eq_true rfl) rfl ?_
  refine ev_aload_n (pc := 0) dX7_renew_0 rfl ?_
  refine ev_getR (pc := 1) (q := 46) dX7_renew_1 fX7_9 rfl (wlt hw (by decide)) (wr hw rfl) ?_
  refine ev_iconst (pc := 4) (v := 0) dX7_renew_4 (by decide) ?_
  refine ev_callS0 (S := []) (pc := 5) dX7_renew_5 kJ7_fill_53178 lX7_27 sJ7_fill_53178 (cn_J7_fill_53178 E h 46 64 0 hw rfl (wlt hw (by decide)) (by decide)) rfl rfl (Nat.le_of_ble_eq_true rfl) ⟨Nat.le_of_ble_eq_true rfl, Nat.le_of_ble_eq_true rfl⟩ ⟨Nat.le_of_ble_eq_true rfl, Nat.le_of_ble_eq_true rfl⟩ ?_
  refine ev_eqH (h' := sI h 46 (flI 0 (h.2.1 46) 64)) rfl ?_
  refine ev_aload_n (pc := 8) dX7_renew_8 rfl ?_
  refine ev_iconst (pc := 9) (v := 1) dX7_renew_9 (by decide) ?_
  refine ev_putZ (pc := 10) dX7_renew_10 fX7_19 rfl (wlt (wf_sI hw) (by decide)) (by decide) ?_
  refine ev_eqH (h' := sI (sI h 46 (flI 0 (h.2.1 46) 64)) 45 (upd (h.2.1 45) 1 1)) (by rfl) ?_
  refine ev_aload_n (pc := 13) dX7_renew_13 rfl ?_
  refine ev_iload_n (pc := 14) dX7_renew_14 rfl ?_
  refine ev_putI (pc := 15) dX7_renew_15 fX7_33 rfl (wlt (wf_sI (wf_sI hw)) (by decide)) ?_
  refine ev_eqH (h' := sI (sI h 46 (flI 0 (h.2.1 46) 64)) 45 (upd (upd (h.2.1 45) 1 1) 2 zv)) (by exact sI_sI _ _ _ _) ?_
  refine ev_aload_n (pc := 18) dX7_renew_18 rfl ?_
  refine ev_iconst (pc := 19) (v := 0) dX7_renew_19 (by decide) ?_
  refine ev_iload_n (pc := 20) dX7_renew_20 rfl ?_
  refine ev_bipush (pc := 21) (v := 64) dX7_renew_21 (by decide) ?_
  refine ev_mmin (pc := 23) dX7_renew_23 (tw5 174 rfl (by decide +kernel)) (Nat.le_of_ble_eq_true rfl) ⟨Nat.le_of_ble_eq_true rfl, Nat.le_of_ble_eq_true rfl⟩ ⟨Nat.le_of_ble_eq_true rfl, Nat.le_of_ble_eq_true rfl⟩ ?_
  refine ev_eqI (e' := zn) (if_neg (fun z => (i_le2 _ _).mpr z h64)) ?_
  refine ev_mmax (pc := 26) dX7_renew_26 (tw5 175 rfl (by decide +kernel)) (Nat.le_of_ble_eq_true rfl) ⟨Nat.le_of_ble_eq_true rfl, Nat.le_of_ble_eq_true rfl⟩ ⟨Nat.le_of_ble_eq_true rfl, Nat.le_of_ble_eq_true rfl⟩ ?_
  refine ev_eqI (e' := zn) (by by_cases z : (0 : Int32) < zn; rw [if_pos z]; rw [if_neg z]; exact i_00 h0 z) ?_
  refine ev_putI (pc := 29) dX7_renew_29 fX7_23 rfl (wlt (wf_sI (wf_sI hw)) (by decide)) ?_
  refine ev_eqH (h' := sI (sI h 46 (flI 0 (h.2.1 46) 64)) 45 (upd (upd (upd (h.2.1 45) 1 1) 2 zv) 3 zn)) (by exact sI_sI _ _ _ _) ?_
  refine ev_ret (pc := 32) dX7_renew_32 rfl ?_
  · exact ⟨rfl, rfl⟩
theorem cn_X7_isThere_47 (E : ME) (h : AH)  (hw : WF h) (ht : h.2.1 47 1 = 0 ∨ h.2.1 47 1 = 1) : Con E mX7_isThere 0 0 0 [.ref 47] h (fun r h' => r = some (.int (h.2.1 47 1)) ∧ h' = h) := by
  refine con_of2 (L := [some (.ref 47)]) rfl (Nat.le_of_ble_eq_true rfl) rfl ?_
  refine ev_aload_n (pc := 0) dX7_isThere_0 rfl ?_
  refine ev_getI (pc := 1) dX7_isThere_1 fX7_19 rfl (wlt hw (by decide)) ?_
  refine ev_iret (pc := 4) dX7_isThere_4 rfl ?_ ?_
  · rcases ht with z | z <;> rw [z] <;> rfl
  · exact ⟨rfl, rfl⟩
theorem cn_X7_length_47 (E : ME) (h : AH)  (hw : WF h) : Con E mX7_length 0 0 0 [.ref 47] h (fun r h' => r = some (.int (h.2.1 47 3)) ∧ h' = h) := by
  refine con_of2 (L := [some (.ref 47)]) rfl (Nat.le_of_ble_eq_true rfl) rfl ?_
  refine ev_aload_n (pc := 0) dX7_length_0 rfl ?_
  refine ev_getI (pc := 1) dX7_length_1 fX7_23 rfl (wlt hw (by decide)) ?_
  refine ev_iret (pc := 4) dX7_length_4 rfl ?_ ?_
  · rfl
  · exact ⟨rfl, rfl⟩
theorem cn_X7_faultOf_47 (E : ME) (h : AH) (zi : Int32) (hw : WF h) : Con E mX7_faultOf 1 0 0 [.ref 47, .int zi] h (fun r h' => r = some (.int (sfN (h.2.1 47 1) (h.2.1 47 3) zi)) ∧ h' = h) := by
  refine con_of2 (L := [some (.ref 47), some (.int zi)]) rfl (Nat.le_of_ble_eq_true rfl) rfl ?_
  refine ev_aload_n (pc := 0) dX7_faultOf_0 rfl ?_
  refine ev_getI (pc := 1) dX7_faultOf_1 fX7_19 rfl (wlt hw (by decide)) ?_
  refine ev_if_ne (pc := 4) (tgt := 9) dX7_faultOf_4 (by decide) (fun zc4 => ?_) (fun zc4 => ?_)
  · -- ne at 4: taken
    refine ev_iload_n (pc := 9) dX7_faultOf_9 rfl ?_
    refine ev_iconst (pc := 10) (v := 0) dX7_faultOf_10 (by decide) ?_
    refine ev_aload_n (pc := 11) dX7_faultOf_11 rfl ?_
    refine ev_getI (pc := 12) dX7_faultOf_12 fX7_23 rfl (wlt hw (by decide)) ?_
    refine ev_iconst (pc := 15) (v := 1) dX7_faultOf_15 (by decide) ?_
    refine ev_isub (pc := 16) dX7_faultOf_16 ?_
    refine ev_callSv (S := []) (pc := 17) dX7_faultOf_17 kX10_within lX7_15 sX10_within (cn_X10_within E h zi 0 ((h.2.1 47 3) - 1)) rfl rfl (Nat.le_of_ble_eq_true rfl) ⟨Nat.le_of_ble_eq_true rfl, Nat.le_of_ble_eq_true rfl⟩ ⟨Nat.le_of_ble_eq_true rfl, Nat.le_of_ble_eq_true rfl⟩ ?_
    refine ev_if_eq (pc := 20) (tgt := 27) dX7_faultOf_20 (by decide) (fun zc20 => ?_) (fun zc20 => ?_)
    · -- eq at 20: taken
      refine ev_iconst (pc := 27) (v := 2) dX7_faultOf_27 (by decide) ?_
      refine ev_iret (pc := 28) dX7_faultOf_28 rfl ?_ ?_
      · rfl
      · refine ⟨?_, rfl⟩
        unfold sfN
        rw [if_neg zc4, if_neg (bI_0.mp zc20)]
    · -- eq at 20: not taken
      refine ev_iconst (pc := 23) (v := 0) dX7_faultOf_23 (by decide) ?_
      refine ev_goto (pc := 24) (tgt := 28) dX7_faultOf_24 (by decide) ?_
      refine ev_iret (pc := 28) dX7_faultOf_28 rfl ?_ ?_
      · rfl
      · refine ⟨?_, rfl⟩
        unfold sfN
        rw [if_neg zc4, if_pos (bI_n0.mp zc20)]
  · -- ne at 4: not taken
    refine ev_iconst (pc := 7) (v := 1) dX7_faultOf_7 (by decide) ?_
    refine ev_iret (pc := 8) dX7_faultOf_8 rfl ?_ ?_
    · rfl
    · refine ⟨?_, rfl⟩
      unfold sfN
      rw [if_pos zc4]
theorem cn_X7_faultAs_47 (E : ME) (h : AH) (zv zi : Int32) (hw : WF h) : Con E mX7_faultAs 2 0 0 [.ref 47, .int zv, .int zi] h (fun r h' => r = some (.int (saN (h.2.1 47 1) (h.2.1 47 2) (h.2.1 47 3) zv zi)) ∧ h' = h) := by
  refine con_of2 (L := [some (.ref 47), some (.int zv), some (.int zi)]) rfl (Nat.le_of_ble_eq_true rfl) rfl ?_
  refine ev_aload_n (pc := 0) dX7_faultAs_0 rfl ?_
  refine ev_getI (pc := 1) dX7_faultAs_1 fX7_19 rfl (wlt hw (by decide)) ?_
  refine ev_if_eq (pc := 4) (tgt := 19) dX7_faultAs_4 (by decide) (fun zc4 => ?_) (fun zc4 => ?_)
  · -- eq at 4: taken
    refine ev_aload_n (pc := 19) dX7_faultAs_19 rfl ?_
    refine ev_iload_n (pc := 20) dX7_faultAs_20 rfl ?_
    refine ev_callVv (S := []) (pc := 21) dX7_faultAs_21 kX7_faultOf lX7_45 vX7_faultOf (cn_X7_faultOf_47 E h zi hw) rfl rfl (wlt hw (by decide)) rfl rfl (Nat.le_of_ble_eq_true rfl) ⟨Nat.le_of_ble_eq_true rfl, Nat.le_of_ble_eq_true rfl⟩ ⟨Nat.le_of_ble_eq_true rfl, Nat.le_of_ble_eq_true rfl⟩ ?_
    refine ev_iret (pc := 24) dX7_faultAs_24 rfl ?_ ?_
    · rfl
    · refine ⟨?_, rfl⟩
      unfold saN
      rw [if_neg (fun z => z.1 zc4)]
  · -- eq at 4: not taken
    refine ev_aload_n (pc := 7) dX7_faultAs_7 rfl ?_
    refine ev_getI (pc := 8) dX7_faultAs_8 fX7_33 rfl (wlt hw (by decide)) ?_
    refine ev_iload_n (pc := 11) dX7_faultAs_11 rfl ?_
    refine ev_icmp_eq (pc := 12) (tgt := 19) dX7_faultAs_12 (by decide) (fun zc12 => ?_) (fun zc12 => ?_)
    · -- eq at 12: taken
      refine ev_aload_n (pc := 19) dX7_faultAs_19 rfl ?_
      refine ev_iload_n (pc := 20) dX7_faultAs_20 rfl ?_
      refine ev_callVv (S := []) (pc := 21) dX7_faultAs_21 kX7_faultOf lX7_45 vX7_faultOf (cn_X7_faultOf_47 E h zi hw) rfl rfl (wlt hw (by decide)) rfl rfl (Nat.le_of_ble_eq_true rfl) ⟨Nat.le_of_ble_eq_true rfl, Nat.le_of_ble_eq_true rfl⟩ ⟨Nat.le_of_ble_eq_true rfl, Nat.le_of_ble_eq_true rfl⟩ ?_
      refine ev_iret (pc := 24) dX7_faultAs_24 rfl ?_ ?_
      · rfl
      · refine ⟨?_, rfl⟩
        unfold saN
        rw [if_neg (fun z => z.2 zc12)]
    · -- eq at 12: not taken
      refine ev_iconst (pc := 15) (v := 3) dX7_faultAs_15 (by decide) ?_
      refine ev_goto (pc := 16) (tgt := 24) dX7_faultAs_16 (by decide) ?_
      refine ev_iret (pc := 24) dX7_faultAs_24 rfl ?_ ?_
      · rfl
      · refine ⟨?_, rfl⟩
        unfold saN
        rw [if_pos ⟨zc4, zc12⟩]
theorem cn_X7_valueAt_47 (E : ME) (h : AH) (zi : Int32) (zl : Nat) (hw : WF h) (hl : h.2.1 47 3 = nI zl) (hl2 : zl ≤ 64) : Con E mX7_valueAt 2 0 0 [.ref 47, .int zi] h (fun r h' => r = some (.int (if sfN (h.2.1 47 1) (h.2.1 47 3) zi = 0 then h.2.1 48 zi.toNatClampNeg else -1)) ∧ h' = h) := by
  refine con_of2 (L := [some (.ref 47), some (.int zi)]) rfl (Nat.le_of_ble_eq_true rfl) rfl ?_
  refine ev_aload_n (pc := 0) dX7_valueAt_0 rfl ?_
  refine ev_iload_n (pc := 1) dX7_valueAt_1 rfl ?_
  refine ev_callVv (S := []) (pc := 2) dX7_valueAt_2 kX7_faultOf lX7_45 vX7_faultOf (cn_X7_faultOf_47 E h zi hw) rfl rfl (wlt hw (by decide)) rfl rfl (Nat.le_of_ble_eq_true rfl) ⟨Nat.le_of_ble_eq_true rfl, Nat.le_of_ble_eq_true rfl⟩ ⟨Nat.le_of_ble_eq_true rfl, Nat.le_of_ble_eq_true rfl⟩ ?_
  refine ev_if_ne (pc := 5) (tgt := 17) dX7_valueAt_5 (by decide) (fun zc5 => ?_) (fun zc5 => ?_)
  · -- ne at 5: taken
    refine ev_iconst (pc := 17) (v := (-1)) dX7_valueAt_17 (by decide) ?_
    refine ev_iret (pc := 18) dX7_valueAt_18 rfl ?_ ?_
    · rfl
    · refine ⟨?_, rfl⟩
      rw [if_neg zc5]
  · -- ne at 5: not taken
    refine ev_aload_n (pc := 8) dX7_valueAt_8 rfl ?_
    refine ev_getR (pc := 9) (q := 48) dX7_valueAt_9 fX7_9 rfl (wlt hw (by decide)) (wr hw rfl) ?_
    refine ev_iload_n (pc := 12) dX7_valueAt_12 rfl ?_
    refine ev_iald (pc := 13) dX7_valueAt_13 rfl (wlt hw (by decide)) (vp_th 64 (sf_0 zc5).2.1 (by have z1 := (sf_0 zc5).2.2; rwa [hl] at z1) hl2 (by decide)) ?_
    refine ev_goto (pc := 14) (tgt := 18) dX7_valueAt_14 (by decide) ?_
    refine ev_iret (pc := 18) dX7_valueAt_18 rfl ?_ ?_
    · rfl
    · refine ⟨?_, rfl⟩
      rw [if_pos zc5]
theorem cn_X7_store_47 (E : ME) (h : AH) (zi zv : Int32) (zl : Nat) (hw : WF h) (hl : h.2.1 47 3 = nI zl) (hl2 : zl ≤ 64) : Con E mX7_store 2 0 0 [.ref 47, .int zi, .int zv] h (fun r h' => r = none ∧ h' = if sfN (h.2.1 47 1) (h.2.1 47 3) zi = 0 then sI h 48 (upd (h.2.1 48) zi.toNatClampNeg (lnC (h.2.1 47 2) zv)) else h) := by
  refine con_of2 (L := [some (.ref 47), some (.int zi), some (.int zv)]) rfl (Nat.le_of_ble_eq_true rfl) rfl ?_
  refine ev_aload_n (pc := 0) dX7_store_0 rfl ?_
  refine ev_iload_n (pc := 1) dX7_store_1 rfl ?_
  refine ev_callVv (S := []) (pc := 2) dX7_store_2 kX7_faultOf lX7_45 vX7_faultOf (cn_X7_faultOf_47 E h zi hw) rfl rfl (wlt hw (by decide)) rfl rfl (Nat.le_of_ble_eq_true rfl) ⟨Nat.le_of_ble_eq_true rfl, Nat.le_of_ble_eq_true rfl⟩ ⟨Nat.le_of_ble_eq_true rfl, Nat.le_of_ble_eq_true rfl⟩ ?_
  refine ev_if_ne (pc := 5) (tgt := 40) dX7_store_5 (by decide) (fun zc5 => ?_) (fun zc5 => ?_)
  · -- ne at 5: taken
    refine ev_ret (pc := 40) dX7_store_40 rfl ?_
    · rw [if_neg zc5]
      exact ⟨rfl, rfl⟩
  · -- ne at 5: not taken
    refine ev_aload_n (pc := 8) dX7_store_8 rfl ?_
    refine ev_getR (pc := 9) (q := 48) dX7_store_9 fX7_9 rfl (wlt hw (by decide)) (wr hw rfl) ?_
    refine ev_iload_n (pc := 12) dX7_store_12 rfl ?_
    refine ev_aload_n (pc := 13) dX7_store_13 rfl ?_
    refine ev_getI (pc := 14) dX7_store_14 fX7_33 rfl (wlt hw (by decide)) ?_
    refine ev_if_ne (pc := 17) (tgt := 25) dX7_store_17 (by decide) (fun zc17 => ?_) (fun zc17 => ?_)
    · -- ne at 17: taken
      refine ev_aload_n (pc := 25) dX7_store_25 rfl ?_
      refine ev_getI (pc := 26) dX7_store_26 fX7_33 rfl (wlt hw (by decide)) ?_
      refine ev_iconst (pc := 29) (v := 1) dX7_store_29 (by decide) ?_
      refine ev_icmp_ne (pc := 30) (tgt := 38) dX7_store_30 (by decide) (fun zc30 => ?_) (fun zc30 => ?_)
      · -- ne at 30: taken
        refine ev_iload_n (pc := 38) dX7_store_38 rfl ?_
        refine ev_iast (pc := 39) dX7_store_39 rfl (wlt hw (by decide)) (vp_th 64 (sf_0 zc5).2.1 (by have z1 := (sf_0 zc5).2.2; rwa [hl] at z1) hl2 (by decide)) ?_
        refine ev_eqH (h' := sI h 48 (upd (h.2.1 48) (Int32.toNatClampNeg zi) zv)) (by rfl) ?_
        refine ev_ret (pc := 40) dX7_store_40 rfl ?_
        · rw [if_pos zc5]
          unfold lnC
          rw [if_neg zc17, if_neg zc30]
          exact ⟨rfl, rfl⟩
      · -- ne at 30: not taken
        refine ev_iload_n (pc := 33) dX7_store_33 rfl ?_
        refine ev_i2s (pc := 34) dX7_store_34 ?_
        refine ev_goto (pc := 35) (tgt := 39) dX7_store_35 (by decide) ?_
        refine ev_iast (pc := 39) dX7_store_39 rfl (wlt hw (by decide)) (vp_th 64 (sf_0 zc5).2.1 (by have z1 := (sf_0 zc5).2.2; rwa [hl] at z1) hl2 (by decide)) ?_
        refine ev_eqH (h' := sI h 48 (upd (h.2.1 48) (Int32.toNatClampNeg zi) ((Int32.toInt16 zv).toInt32))) (by rfl) ?_
        refine ev_ret (pc := 40) dX7_store_40 rfl ?_
        · rw [if_pos zc5]
          unfold lnC
          rw [if_neg zc17, if_pos zc30]
          exact ⟨rfl, rfl⟩
    · -- ne at 17: not taken
      refine ev_iload_n (pc := 20) dX7_store_20 rfl ?_
      refine ev_i2b (pc := 21) dX7_store_21 ?_
      refine ev_goto (pc := 22) (tgt := 39) dX7_store_22 (by decide) ?_
      refine ev_iast (pc := 39) dX7_store_39 rfl (wlt hw (by decide)) (vp_th 64 (sf_0 zc5).2.1 (by have z1 := (sf_0 zc5).2.2; rwa [hl] at z1) hl2 (by decide)) ?_
      refine ev_eqH (h' := sI h 48 (upd (h.2.1 48) (Int32.toNatClampNeg zi) ((Int32.toInt8 zv).toInt32))) (by rfl) ?_
      refine ev_ret (pc := 40) dX7_store_40 rfl ?_
      · rw [if_pos zc5]
        unfold lnC
        rw [if_pos zc17]
        exact ⟨rfl, rfl⟩
theorem cn_X7_renew_47 (E : ME) (h : AH) (zv zn : Int32) (hw : WF h) (h0 : ¬ zn < 0) (h64 : zn ≤ 64) : Con E mX7_renew 1 0 0 [.ref 47, .int zv, .int zn] h (fun r h' => r = none ∧ h' = sI (sI h 48 (flI 0 (h.2.1 48) 64)) 47 (upd (upd (upd (h.2.1 47) 1 1) 2 zv) 3 zn)) := by
  refine con_of2 (L := [some (.ref 47), some (.int zv), some (.int zn)]) rfl (Nat.le_of_ble_eq_true rfl) rfl ?_
  refine ev_aload_n (pc := 0) dX7_renew_0 rfl ?_
  refine ev_getR (pc := 1) (q := 48) dX7_renew_1 fX7_9 rfl (wlt hw (by decide)) (wr hw rfl) ?_
  refine ev_iconst (pc := 4) (v := 0) dX7_renew_4 (by decide) ?_
  refine ev_callS0 (S := []) (pc := 5) dX7_renew_5 kJ7_fill_53178 lX7_27 sJ7_fill_53178 (cn_J7_fill_53178 E h 48 64 0 hw rfl (wlt hw (by decide)) (by decide)) rfl rfl (Nat.le_of_ble_eq_true rfl) ⟨Nat.le_of_ble_eq_true rfl, Nat.le_of_ble_eq_true rfl⟩ ⟨Nat.le_of_ble_eq_true rfl, Nat.le_of_ble_eq_true rfl⟩ ?_
  refine ev_eqH (h' := sI h 48 (flI 0 (h.2.1 48) 64)) rfl ?_
  refine ev_aload_n (pc := 8) dX7_renew_8 rfl ?_
  refine ev_iconst (pc := 9) (v := 1) dX7_renew_9 (by decide) ?_
  refine ev_putZ (pc := 10) dX7_renew_10 fX7_19 rfl (wlt (wf_sI hw) (by decide)) (by decide) ?_
  refine ev_eqH (h' := sI (sI h 48 (flI 0 (h.2.1 48) 64)) 47 (upd (h.2.1 47) 1 1)) (by rfl) ?_
  refine ev_aload_n (pc := 13) dX7_renew_13 rfl ?_
  refine ev_iload_n (pc := 14) dX7_renew_14 rfl ?_
  refine ev_putI (pc := 15) dX7_renew_15 fX7_33 rfl (wlt (wf_sI (wf_sI hw)) (by decide)) ?_
  refine ev_eqH (h' := sI (sI h 48 (flI 0 (h.2.1 48) 64)) 47 (upd (upd (h.2.1 47) 1 1) 2 zv)) (by exact sI_sI _ _ _ _) ?_
  refine ev_aload_n (pc := 18) dX7_renew_18 rfl ?_
  refine ev_iconst (pc := 19) (v := 0) dX7_renew_19 (by decide) ?_
  refine ev_iload_n (pc := 20) dX7_renew_20 rfl ?_
  refine ev_bipush (pc := 21) (v := 64) dX7_renew_21 (by decide) ?_
  refine ev_mmin (pc := 23) dX7_renew_23 (tw5 174 rfl (by decide +kernel)) (Nat.le_of_ble_eq_true rfl) ⟨Nat.le_of_ble_eq_true rfl, Nat.le_of_ble_eq_true rfl⟩ ⟨Nat.le_of_ble_eq_true rfl, Nat.le_of_ble_eq_true rfl⟩ ?_
  refine ev_eqI (e' := zn) (if_neg (fun z => (i_le2 _ _).mpr z h64)) ?_
  refine ev_mmax (pc := 26) dX7_renew_26 (tw5 175 rfl (by decide +kernel)) (Nat.le_of_ble_eq_true rfl) ⟨Nat.le_of_ble_eq_true rfl, Nat.le_of_ble_eq_true rfl⟩ ⟨Nat.le_of_ble_eq_true rfl, Nat.le_of_ble_eq_true rfl⟩ ?_
  refine ev_eqI (e' := zn) (by by_cases z : (0 : Int32) < zn; rw [if_pos z]; rw [if_neg z]; exact i_00 h0 z) ?_
  refine ev_putI (pc := 29) dX7_renew_29 fX7_23 rfl (wlt (wf_sI (wf_sI hw)) (by decide)) ?_
  refine ev_eqH (h' := sI (sI h 48 (flI 0 (h.2.1 48) 64)) 47 (upd (upd (upd (h.2.1 47) 1 1) 2 zv) 3 zn)) (by exact sI_sI _ _ _ _) ?_
  refine ev_ret (pc := 32) dX7_renew_32 rfl ?_
  · exact ⟨rfl, rfl⟩
