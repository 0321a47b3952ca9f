theorem cn_X11_in (E : ME) (h : AH) (v a b : Int64)  : Con E mX11_in 0 0 0 [.long v, .long a, .long b] h (fun r h' => r = some (.int (bI (a ≤ v ∧ v ≤ b))) ∧ h' = h) := by
  refine con_of2 (L := [some (.long v), none, some (.long a), none, some (.long b), none]) rfl (Nat.le_of_ble_eq_true rfl) rfl ?_
  refine ev_lload_n (pc := 0) dX11_in_0 rfl ?_
  refine ev_lload_n (pc := 1) dX11_in_1 rfl ?_
  refine ev_lcmp (pc := 2) dX11_in_2 ?_
  refine ev_if_lt (pc := 3) (tgt := 17) dX11_in_3 (by decide) (fun zc3 => ?_) (fun zc3 => ?_)
  · -- lt at 3: taken
    refine ev_iconst (pc := 17) (v := 0) dX11_in_17 (by decide) ?_
    refine ev_iret (pc := 18) dX11_in_18 rfl ?_ ?_
    · first | rfl | exact nar_bI _ | (simp only [*]; exact nar_bI _) | (simp [narrow, *]; done)
    · refine ⟨?_, rfl⟩
      simp only [bI, lc_lt, lc_gt, l_le, l_lt] at *
      (try split) <;> first | rfl | (exfalso; omega)
  · -- lt at 3: not taken
    refine ev_lload_n (pc := 6) dX11_in_6 rfl ?_
    refine ev_lload (pc := 7) dX11_in_7 rfl ?_
    refine ev_lcmp (pc := 9) dX11_in_9 ?_
    refine ev_if_gt (pc := 10) (tgt := 17) dX11_in_10 (by decide) (fun zc10 => ?_) (fun zc10 => ?_)
    · -- gt at 10: taken
      refine ev_iconst (pc := 17) (v := 0) dX11_in_17 (by decide) ?_
      refine ev_iret (pc := 18) dX11_in_18 rfl ?_ ?_
      · first | rfl | exact nar_bI _ | (simp only [*]; exact nar_bI _) | (simp [narrow, *]; done)
      · refine ⟨?_, rfl⟩
        simp only [bI, lc_lt, lc_gt, l_le, l_lt] at *
        (try split) <;> first | rfl | (exfalso; omega)
    · -- gt at 10: not taken
      refine ev_iconst (pc := 13) (v := 1) dX11_in_13 (by decide) ?_
      refine ev_goto (pc := 14) (tgt := 18) dX11_in_14 (by decide) ?_
      refine ev_iret (pc := 18) dX11_in_18 rfl ?_ ?_
      · first | rfl | exact nar_bI _ | (simp only [*]; exact nar_bI _) | (simp [narrow, *]; done)
      · refine ⟨?_, rfl⟩
        simp only [bI, lc_lt, lc_gt, l_le, l_lt] at *
        (try split) <;> first | rfl | (exfalso; omega)
theorem cn_X11_inC (E : ME) (h : AH) (v a b : Int32) (v' a' b' : Int64) (e1 : v.toInt64 = v') (e2 : a.toInt64 = a') (e3 : b.toInt64 = b') : Con E mX11_in 0 0 0 [.long v', .long a', .long b'] h (fun r h' => r = some (.int (bI (a ≤ v ∧ v ≤ b))) ∧ h' = h) := by
  subst e1 e2 e3
  have k := cn_X11_in E h v.toInt64 a.toInt64 b.toInt64
  rw [bI_c (q := a ≤ v ∧ v ≤ b) (by rw [tl_le, tl_le])] at k
  exact k
theorem cn_X11_isColour (E : ME) (h : AH) (c : Int32)  : Con E mX11_isColour 1 0 0 [.int c] h (fun r h' => r = some (.int (bI (0 ≤ c ∧ c ≤ 5))) ∧ h' = h) := by
  refine con_of2 (L := [some (.int c)]) rfl (Nat.le_of_ble_eq_true rfl) rfl ?_
  refine ev_iload_n (pc := 0) dX11_isColour_0 rfl ?_
  refine ev_i2l (pc := 1) dX11_isColour_1 ?_
  refine ev_lconst (pc := 2) (v := 0) dX11_isColour_2 (by decide) ?_
  refine ev_ldc2 (pc := 3) (v := 5) dX11_isColour_3 kcX11_144 ?_
  refine ev_callSv (S := []) (pc := 6) dX11_isColour_6 kX11_in lX11_96 sX11_in (cn_X11_inC E h c 0 5 _ _ _ rfl (by decide) (by decide)) rfl rfl (Nat.le_of_ble_eq_true rfl) ⟨Nat.le_of_ble_eq_true rfl, Nat.le_of_ble_eq_true rfl⟩ ⟨Nat.le_of_ble_eq_true rfl, Nat.le_of_ble_eq_true rfl⟩ ?_
  refine ev_iret (pc := 9) dX11_isColour_9 rfl ?_ ?_
  · first | rfl | exact nar_bI _ | (simp only [*]; exact nar_bI _) | (simp [narrow, *]; done)
  · exact ⟨rfl, rfl⟩
theorem cn_X11_isCell (E : ME) (h : AH) (c : Int32)  : Con E mX11_isCell 1 0 0 [.int c] h (fun r h' => r = some (.int (bI (0 ≤ c ∧ c ≤ 63))) ∧ h' = h) := by
  refine con_of2 (L := [some (.int c)]) rfl (Nat.le_of_ble_eq_true rfl) rfl ?_
  refine ev_iload_n (pc := 0) dX11_isCell_0 rfl ?_
  refine ev_i2l (pc := 1) dX11_isCell_1 ?_
  refine ev_lconst (pc := 2) (v := 0) dX11_isCell_2 (by decide) ?_
  refine ev_ldc2 (pc := 3) (v := 63) dX11_isCell_3 kcX11_252 ?_
  refine ev_callSv (S := []) (pc := 6) dX11_isCell_6 kX11_in lX11_96 sX11_in (cn_X11_inC E h c 0 63 _ _ _ rfl (by decide) (by decide)) rfl rfl (Nat.le_of_ble_eq_true rfl) ⟨Nat.le_of_ble_eq_true rfl, Nat.le_of_ble_eq_true rfl⟩ ⟨Nat.le_of_ble_eq_true rfl, Nat.le_of_ble_eq_true rfl⟩ ?_
  refine ev_iret (pc := 9) dX11_isCell_9 rfl ?_ ?_
  · first | rfl | exact nar_bI _ | (simp only [*]; exact nar_bI _) | (simp [narrow, *]; done)
  · exact ⟨rfl, rfl⟩
theorem cn_X11_isThing (E : ME) (h : AH) (t : Int32) (hw : WF h) : Con E mX11_isThing 1 0 0 [.ref 49, .int t] h (fun r h' => r = some (.int (bI (0 ≤ t ∧ t ≤ h.2.1 49 14 - 1))) ∧ h' = h) := by
  refine con_of2 (L := [some (.ref 49), some (.int t)]) rfl (Nat.le_of_ble_eq_true rfl) rfl ?_
  refine ev_iload_n (pc := 0) dX11_isThing_0 rfl ?_
  refine ev_i2l (pc := 1) dX11_isThing_1 ?_
  refine ev_lconst (pc := 2) (v := 0) dX11_isThing_2 (by decide) ?_
  refine ev_aload_n (pc := 3) dX11_isThing_3 rfl ?_
  refine ev_getI (pc := 4) dX11_isThing_4 fX11_184 rfl (wlt hw (by decide)) ?_
  refine ev_iconst (pc := 7) (v := 1) dX11_isThing_7 (by decide) ?_
  refine ev_isub (pc := 8) dX11_isThing_8 ?_
  refine ev_i2l (pc := 9) dX11_isThing_9 ?_
  refine ev_callSv (S := []) (pc := 10) dX11_isThing_10 kX11_in lX11_96 sX11_in (cn_X11_inC E h t 0 ((h.2.1 49 14) - 1) _ _ _ rfl (by decide) rfl) rfl rfl (Nat.le_of_ble_eq_true rfl) ⟨Nat.le_of_ble_eq_true rfl, Nat.le_of_ble_eq_true rfl⟩ ⟨Nat.le_of_ble_eq_true rfl, Nat.le_of_ble_eq_true rfl⟩ ?_
  refine ev_iret (pc := 13) dX11_isThing_13 rfl ?_ ?_
  · first | rfl | exact nar_bI _ | (simp only [*]; exact nar_bI _) | (simp [narrow, *]; done)
  · exact ⟨rfl, rfl⟩
theorem cn_X11_isPattern (E : ME) (h : AH) (t : Int32) (hw : WF h) : Con E mX11_isPattern 1 0 0 [.ref 49, .int t] h (fun r h' => r = some (.int (bI (0 ≤ t ∧ t ≤ h.2.1 49 16 - 1))) ∧ h' = h) := by
  refine con_of2 (L := [some (.ref 49), some (.int t)]) rfl (Nat.le_of_ble_eq_true rfl) rfl ?_
  refine ev_iload_n (pc := 0) dX11_isPattern_0 rfl ?_
  refine ev_i2l (pc := 1) dX11_isPattern_1 ?_
  refine ev_lconst (pc := 2) (v := 0) dX11_isPattern_2 (by decide) ?_
  refine ev_aload_n (pc := 3) dX11_isPattern_3 rfl ?_
  refine ev_getI (pc := 4) dX11_isPattern_4 fX11_187 rfl (wlt hw (by decide)) ?_
  refine ev_iconst (pc := 7) (v := 1) dX11_isPattern_7 (by decide) ?_
  refine ev_isub (pc := 8) dX11_isPattern_8 ?_
  refine ev_i2l (pc := 9) dX11_isPattern_9 ?_
  refine ev_callSv (S := []) (pc := 10) dX11_isPattern_10 kX11_in lX11_96 sX11_in (cn_X11_inC E h t 0 ((h.2.1 49 16) - 1) _ _ _ rfl (by decide) rfl) rfl rfl (Nat.le_of_ble_eq_true rfl) ⟨Nat.le_of_ble_eq_true rfl, Nat.le_of_ble_eq_true rfl⟩ ⟨Nat.le_of_ble_eq_true rfl, Nat.le_of_ble_eq_true rfl⟩ ?_
  refine ev_iret (pc := 13) dX11_isPattern_13 rfl ?_ ?_
  · first | rfl | exact nar_bI _ | (simp only [*]; exact nar_bI _) | (simp [narrow, *]; done)
  · exact ⟨rfl, rfl⟩
theorem cn_X11_fault (E : ME) (h : AH)  (hw : WF h) : Con E mX11_fault 0 0 0 [.ref 49] h (fun r h' => r = some (.int (h.2.1 49 2)) ∧ h' = h) := by
  refine con_of2 (L := [some (.ref 49)]) rfl (Nat.le_of_ble_eq_true rfl) rfl ?_
  refine ev_aload_n (pc := 0) dX11_fault_0 rfl ?_
  refine ev_getI (pc := 1) dX11_fault_1 fX11_181 rfl (wlt hw (by decide)) ?_
  refine ev_iret (pc := 4) dX11_fault_4 rfl ?_ ?_
  · rfl
  · exact ⟨rfl, rfl⟩
theorem cn_X11_torn (E : ME) (h : AH)  (hw : WF h) : Con E mX11_torn 0 0 0 [.ref 49] h (fun r h' => r = some (.int (h.2.1 49 48)) ∧ h' = h) := by
  refine con_of2 (L := [some (.ref 49)]) rfl (Nat.le_of_ble_eq_true rfl) rfl ?_
  refine ev_aload_n (pc := 0) dX11_torn_0 rfl ?_
  refine ev_getI (pc := 1) dX11_torn_1 fX11_341 rfl (wlt hw (by decide)) ?_
  refine ev_iret (pc := 4) dX11_torn_4 rfl ?_ ?_
  · rfl
  · exact ⟨rfl, rfl⟩
theorem cn_X11_wipe (E : ME) (h : AH)  (hw : WF h) : Con E mX11_wipe 0 0 0 [.ref 49] h (fun r h' => r = some (.int (h.2.1 49 35)) ∧ h' = sI h 49 (upd (h.2.1 49) 35 0)) := by
  refine con_of2 (L := [some (.ref 49), none]) rfl (Nat.le_of_ble_eq_true rfl) rfl ?_
  refine ev_aload_n (pc := 0) dX11_wipe_0 rfl ?_
  refine ev_getI (pc := 1) dX11_wipe_1 fX11_240 rfl (wlt hw (by decide)) ?_
  refine ev_istore_n (pc := 4) (L' := [some (.ref 49), some (.int (h.2.1 49 35))]) dX11_wipe_4 (Nat.le_of_ble_eq_true rfl) rfl ?_
  refine ev_aload_n (pc := 5) dX11_wipe_5 rfl ?_
  refine ev_iconst (pc := 6) (v := 0) dX11_wipe_6 (by decide) ?_
  refine ev_putI (pc := 7) dX11_wipe_7 fX11_240 rfl (wlt hw (by decide)) ?_
  refine ev_eqH (h' := sI h 49 (upd (h.2.1 49) 35 0)) (by rfl) ?_
  refine ev_iload_n (pc := 10) dX11_wipe_10 rfl ?_
  refine ev_iret (pc := 11) dX11_wipe_11 rfl ?_ ?_
  · rfl
  · exact ⟨rfl, rfl⟩
theorem cn_X11_end (E : ME) (h : AH) (n : Int32) (hw : WF h) : Con E mX11_end 1 0 0 [.ref 49, .int n] h (fun r h' => r = some (.int (if 0 ≤ n ∧ n ≤ h.2.1 49 1 then h.2.1 49 1 else -1)) ∧ h' = if 0 ≤ n ∧ n ≤ h.2.1 49 1 then sI h 49 (upd (h.2.1 49) 1 n) else h) := by
  refine con_of2 (L := [some (.ref 49), some (.int n), none]) rfl (Nat.le_of_ble_eq_true rfl) rfl ?_
  refine ev_iload_n (pc := 0) dX11_end_0 rfl ?_
  refine ev_i2l (pc := 1) dX11_end_1 ?_
  refine ev_lconst (pc := 2) (v := 0) dX11_end_2 (by decide) ?_
  refine ev_aload_n (pc := 3) dX11_end_3 rfl ?_
  refine ev_getI (pc := 4) dX11_end_4 fX11_93 rfl (wlt hw (by decide)) ?_
  refine ev_i2l (pc := 7) dX11_end_7 ?_
  refine ev_callSv (S := []) (pc := 8) dX11_end_8 kX11_in lX11_96 sX11_in (cn_X11_inC E h n 0 (h.2.1 49 1) _ _ _ rfl (by decide) rfl) rfl rfl (Nat.le_of_ble_eq_true rfl) ⟨Nat.le_of_ble_eq_true rfl, Nat.le_of_ble_eq_true rfl⟩ ⟨Nat.le_of_ble_eq_true rfl, Nat.le_of_ble_eq_true rfl⟩ ?_
  refine ev_if_ne (pc := 11) (tgt := 16) dX11_end_11 (by decide) (fun zc11 => ?_) (fun zc11 => ?_)
  · -- ne at 11: taken
    refine ev_aload_n (pc := 16) dX11_end_16 rfl ?_
    refine ev_getI (pc := 17) dX11_end_17 fX11_93 rfl (wlt hw (by decide)) ?_
    refine ev_istore_n (pc := 20) (L' := [some (.ref 49), some (.int n), some (.int (h.2.1 49 1))]) dX11_end_20 (Nat.le_of_ble_eq_true rfl) rfl ?_
    refine ev_aload_n (pc := 21) dX11_end_21 rfl ?_
    refine ev_iload_n (pc := 22) dX11_end_22 rfl ?_
    refine ev_putI (pc := 23) dX11_end_23 fX11_93 rfl (wlt hw (by decide)) ?_
    refine ev_eqH (h' := sI h 49 (upd (h.2.1 49) 1 n)) (by rfl) ?_
    refine ev_iload_n (pc := 26) dX11_end_26 rfl ?_
    refine ev_iret (pc := 27) dX11_end_27 rfl ?_ ?_
    · rfl
    · first | (rw [bI_n0] at zc11; rw [if_pos zc11, if_pos zc11]; exact ⟨rfl, rfl⟩) | (rw [bI_0] at zc11; rw [if_neg zc11, if_neg zc11]; exact ⟨rfl, rfl⟩)
  · -- ne at 11: not taken
    refine ev_iconst (pc := 14) (v := (-1)) dX11_end_14 (by decide) ?_
    refine ev_iret (pc := 15) dX11_end_15 rfl ?_ ?_
    · rfl
    · first | (rw [bI_n0] at zc11; rw [if_pos zc11, if_pos zc11]; exact ⟨rfl, rfl⟩) | (rw [bI_0] at zc11; rw [if_neg zc11, if_neg zc11]; exact ⟨rfl, rfl⟩)
theorem cn_X11_byteAt (E : ME) (h : AH) (k : Int32) (hw : WF h) (hk : 0 ≤ k) (ht : h.2.1 49 1 ≤ 400) : Con E mX11_byteAt 0 0 0 [.ref 49, .int k] h (fun r h' => r = some (.int (if k < h.2.1 49 1 then h.2.1 50 k.toNatClampNeg else -4)) ∧ h' = h) := by
  refine con_of2 (L := [some (.ref 49), some (.int k)]) rfl (Nat.le_of_ble_eq_true rfl) rfl ?_
  refine ev_iload_n (pc := 0) dX11_byteAt_0 rfl ?_
  refine ev_aload_n (pc := 1) dX11_byteAt_1 rfl ?_
  refine ev_getI (pc := 2) dX11_byteAt_2 fX11_93 rfl (wlt hw (by decide)) ?_
  refine ev_icmp_ge (pc := 5) (tgt := 17) dX11_byteAt_5 (by decide) (fun zc5 => ?_) (fun zc5 => ?_)
  · -- ge at 5: taken
    refine ev_bipush (pc := 17) (v := (-4)) dX11_byteAt_17 (by decide) ?_
    refine ev_iret (pc := 19) dX11_byteAt_19 rfl ?_ ?_
    · rfl
    · first | (rw [if_pos (by rw [i_lt]; rw [i_le] at zc5; omega)]; exact ⟨rfl, rfl⟩) | (rw [if_neg (by rw [i_lt]; rw [i_le] at zc5; omega)]; exact ⟨rfl, rfl⟩)
  · -- ge at 5: not taken
    refine ev_aload_n (pc := 8) dX11_byteAt_8 rfl ?_
    refine ev_getR (pc := 9) (q := 50) dX11_byteAt_9 fX11_7 rfl (wlt hw (by decide)) (wr hw rfl) ?_
    refine ev_iload_n (pc := 12) dX11_byteAt_12 rfl ?_
    refine ev_iald (pc := 13) dX11_byteAt_13 rfl (wlt hw (by decide)) (by rw [vp_in_iff]; simp only [i_le, i_lt] at *; simp at *; omega) ?_
    refine ev_goto (pc := 14) (tgt := 19) dX11_byteAt_14 (by decide) ?_
    refine ev_iret (pc := 19) dX11_byteAt_19 rfl ?_ ?_
    · rfl
    · first | (rw [if_pos (by rw [i_lt]; rw [i_le] at zc5; omega)]; exact ⟨rfl, rfl⟩) | (rw [if_neg (by rw [i_lt]; rw [i_le] at zc5; omega)]; exact ⟨rfl, rfl⟩)
theorem cn_X11_fails (E : ME) (h : AH) (c : Int32) (hw : WF h) : Con E mX11_fails 0 0 0 [.ref 49, .int c] h (fun r h' => r = none ∧ h' = if h.2.1 49 3 = 0 then sI h 49 (upd (upd (h.2.1 49) 3 c) 4 (h.2.1 49 6)) else h) := by
  refine con_of2 (L := [some (.ref 49), some (.int c)]) rfl (Nat.le_of_ble_eq_true rfl) rfl ?_
  refine ev_aload_n (pc := 0) dX11_fails_0 rfl ?_
  refine ev_getI (pc := 1) dX11_fails_1 fX11_100 rfl (wlt hw (by decide)) ?_
  refine ev_if_ne (pc := 4) (tgt := 20) dX11_fails_4 (by decide) (fun zc4 => ?_) (fun zc4 => ?_)
  · -- ne at 4: taken
    refine ev_ret (pc := 20) dX11_fails_20 rfl ?_
    · first | (rw [if_neg zc4]; exact ⟨rfl, rfl⟩) | (rw [if_pos (by simpa using zc4)]; exact ⟨rfl, rfl⟩)
  · -- ne at 4: not taken
    refine ev_aload_n (pc := 7) dX11_fails_7 rfl ?_
    refine ev_iload_n (pc := 8) dX11_fails_8 rfl ?_
    refine ev_putI (pc := 9) dX11_fails_9 fX11_100 rfl (wlt hw (by decide)) ?_
    refine ev_eqH (h' := sI h 49 (upd (h.2.1 49) 3 c)) (by rfl) ?_
    refine ev_aload_n (pc := 12) dX11_fails_12 rfl ?_
    refine ev_aload_n (pc := 13) dX11_fails_13 rfl ?_
    refine ev_getI (pc := 14) dX11_fails_14 fX11_103 rfl (wlt (wf_sI hw) (by decide)) ?_
    refine ev_eqI (e' := h.2.1 49 6) (by rfl) ?_
    refine ev_putI (pc := 17) dX11_fails_17 fX11_106 rfl (wlt (wf_sI hw) (by decide)) ?_
    refine ev_eqH (h' := sI h 49 (upd (upd (h.2.1 49) 3 c) 4 (h.2.1 49 6))) (by exact sI_sI _ _ _ _) ?_
    refine ev_ret (pc := 20) dX11_fails_20 rfl ?_
    · first | (rw [if_neg zc4]; exact ⟨rfl, rfl⟩) | (rw [if_pos (by simpa using zc4)]; exact ⟨rfl, rfl⟩)
