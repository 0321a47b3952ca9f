theorem cn_X9_length (E : ME) (h : AH)  (hw : WF h) : Con E mX9_length 0 0 0 [.ref 1] h (fun r h' => r = some (.int (h.2.1 1 1)) ∧ h' = h) := by
  refine con_of2 (L := [some (.ref 1)]) rfl (Nat.le_of_ble_eq_true rfl) rfl ?_
  refine ev_aload_n (pc := 0) dX9_length_0 rfl ?_
  refine ev_getI (pc := 1) dX9_length_1 fX9_13 rfl (wlt hw (by decide)) ?_
  refine ev_iret (pc := 4) dX9_length_4 rfl ?_ ?_
  · rfl
  · exact ⟨rfl, rfl⟩
theorem cn_X9_keep (E : ME) (h : AH) (zi : Int32) (hw : WF h) : Con E mX9_keep 0 0 0 [.ref 1, .int zi] h (fun r h' => r = some (.int (bI (0 ≤ zi ∧ zi ≤ h.2.1 1 1))) ∧ h' = if 0 ≤ zi ∧ zi ≤ h.2.1 1 1 then sI h 1 (upd (h.2.1 1) 1 zi) else h) := by
  refine con_of2 (L := [some (.ref 1), some (.int zi)]) rfl (Nat.le_of_ble_eq_true rfl) rfl ?_
  refine ev_iload_n (pc := 0) dX9_keep_0 rfl ?_
  refine ev_if_lt (pc := 1) (tgt := 12) dX9_keep_1 (by decide) (fun zc1 => ?_) (fun zc1 => ?_)
  · -- lt at 1: taken
    refine ev_iconst (pc := 12) (v := 0) dX9_keep_12 (by decide) ?_
    refine ev_iret (pc := 13) dX9_keep_13 rfl ?_ ?_
    · first | rfl | exact nar_bI _ | (simp only [*]; exact nar_bI _) | (simp [narrow, *]; done)
    · have hC : ¬ (0 ≤ zi ∧ zi ≤ h.2.1 1 1) := fun z => (i_lt2 _ _).mpr z.1 zc1
      rw [bI_f hC, if_neg hC]
      exact ⟨rfl, rfl⟩
  · -- lt at 1: not taken
    refine ev_iload_n (pc := 4) dX9_keep_4 rfl ?_
    refine ev_aload_n (pc := 5) dX9_keep_5 rfl ?_
    refine ev_getI (pc := 6) dX9_keep_6 fX9_13 rfl (wlt hw (by decide)) ?_
    refine ev_icmp_le (pc := 9) (tgt := 14) dX9_keep_9 (by decide) (fun zc9 => ?_) (fun zc9 => ?_)
    · -- le at 9: taken
      refine ev_aload_n (pc := 14) dX9_keep_14 rfl ?_
      refine ev_iload_n (pc := 15) dX9_keep_15 rfl ?_
      refine ev_putI (pc := 16) dX9_keep_16 fX9_13 rfl (wlt hw (by decide)) ?_
      refine ev_eqH (h' := sI h 1 (upd (h.2.1 1) 1 zi)) (by rfl) ?_
      refine ev_iconst (pc := 19) (v := 1) dX9_keep_19 (by decide) ?_
      refine ev_iret (pc := 20) dX9_keep_20 rfl ?_ ?_
      · first | rfl | exact nar_bI _ | (simp only [*]; exact nar_bI _) | (simp [narrow, *]; done)
      · have hC : 0 ≤ zi ∧ zi ≤ h.2.1 1 1 := ⟨(i_lt2 _ _).mp zc1, zc9⟩
        rw [bI_t hC, if_pos hC]
        exact ⟨rfl, rfl⟩
    · -- le at 9: not taken
      refine ev_iconst (pc := 12) (v := 0) dX9_keep_12 (by decide) ?_
      refine ev_iret (pc := 13) dX9_keep_13 rfl ?_ ?_
      · first | rfl | exact nar_bI _ | (simp only [*]; exact nar_bI _) | (simp [narrow, *]; done)
      · have hC : ¬ (0 ≤ zi ∧ zi ≤ h.2.1 1 1) := fun z => zc9 z.2
        rw [bI_f hC, if_neg hC]
        exact ⟨rfl, rfl⟩
theorem cn_X9_rewind (E : ME) (h : AH)  (hw : WF h) : Con E mX9_rewind 0 0 0 [.ref 1] h (fun r h' => r = none ∧ h' = sI h 1 (upd (upd (h.2.1 1) 2 0) 3 0)) := by
  refine con_of2 (L := [some (.ref 1)]) rfl (Nat.le_of_ble_eq_true rfl) rfl ?_
  refine ev_aload_n (pc := 0) dX9_rewind_0 rfl ?_
  refine ev_iconst (pc := 1) (v := 0) dX9_rewind_1 (by decide) ?_
  refine ev_putI (pc := 2) dX9_rewind_2 fX9_17 rfl (wlt hw (by decide)) ?_
  refine ev_eqH (h' := sI h 1 (upd (h.2.1 1) 2 0)) (by rfl) ?_
  refine ev_aload_n (pc := 5) dX9_rewind_5 rfl ?_
  refine ev_iconst (pc := 6) (v := 0) dX9_rewind_6 (by decide) ?_
  refine ev_putI (pc := 7) dX9_rewind_7 fX9_20 rfl (wlt (wf_sI hw) (by decide)) ?_
  refine ev_eqH (h' := sI h 1 (upd (upd (h.2.1 1) 2 0) 3 0)) (by exact sI_sI _ _ _ _) ?_
  refine ev_ret (pc := 10) dX9_rewind_10 rfl ?_
  · exact ⟨rfl, rfl⟩
theorem cn_X10_end (E : ME) (h : AH) (zi : Int32) (hw : WF h) : Con E mX10_end 1 0 0 [.ref 0, .int zi] h (fun r h' => r = some (.int (if 0 ≤ zi ∧ zi ≤ h.2.1 1 1 then h.2.1 1 1 else -1)) ∧ h' = if 0 ≤ zi ∧ zi ≤ h.2.1 1 1 then sI h 1 (upd (h.2.1 1) 1 zi) else h) := by
  refine con_of2 (L := [some (.ref 0), some (.int zi), none]) rfl (Nat.le_of_ble_eq_true rfl) rfl ?_
  refine ev_aload_n (pc := 0) dX10_end_0 rfl ?_
  refine ev_getR (pc := 1) (q := 1) dX10_end_1 fX10_10 rfl (wlt hw (by decide)) (wr hw rfl) ?_
  refine ev_callVv (S := []) (pc := 4) dX10_end_4 kX9_length lX10_88 vX9_length (cn_X9_length E h hw) rfl rfl (wlt hw (by decide)) rfl rfl (Nat.le_of_ble_eq_true rfl) ⟨Nat.le_of_ble_eq_true rfl, Nat.le_of_ble_eq_true rfl⟩ ⟨Nat.le_of_ble_eq_true rfl, Nat.le_of_ble_eq_true rfl⟩ ?_
  refine ev_istore_n (pc := 7) (L' := [some (.ref 0), some (.int zi), some (.int (h.2.1 1 1))]) dX10_end_7 (Nat.le_of_ble_eq_true rfl) rfl ?_
  refine ev_aload_n (pc := 8) dX10_end_8 rfl ?_
  refine ev_getR (pc := 9) (q := 1) dX10_end_9 fX10_10 rfl (wlt hw (by decide)) (wr hw rfl) ?_
  refine ev_iload_n (pc := 12) dX10_end_12 rfl ?_
  refine ev_callV (S := []) (pc := 13) dX10_end_13 kX9_keep lX10_92 vX9_keep (cn_X9_keep E h zi hw) rfl rfl (wlt hw (by decide)) rfl rfl (Nat.le_of_ble_eq_true rfl) ⟨Nat.le_of_ble_eq_true rfl, Nat.le_of_ble_eq_true rfl⟩ ⟨Nat.le_of_ble_eq_true rfl, Nat.le_of_ble_eq_true rfl⟩ ?_
  rintro _ zh ⟨rfl, ezh⟩
  refine ev_if_eq (pc := 16) (tgt := 23) dX10_end_16 (by decide) (fun zc16 => ?_) (fun zc16 => ?_)
  · -- eq at 16: taken
    refine ev_iconst (pc := 23) (v := (-1)) dX10_end_23 (by decide) ?_
    refine ev_iret (pc := 24) dX10_end_24 rfl ?_ ?_
    · rfl
    · rw [if_neg (bI_0.mp zc16)] at ezh
      rw [if_neg (bI_0.mp zc16), if_neg (bI_0.mp zc16)]
      exact ⟨rfl, ezh⟩
  · -- eq at 16: not taken
    refine ev_iload_n (pc := 19) dX10_end_19 rfl ?_
    refine ev_goto (pc := 20) (tgt := 24) dX10_end_20 (by decide) ?_
    refine ev_iret (pc := 24) dX10_end_24 rfl ?_ ?_
    · rfl
    · rw [if_pos (bI_n0.mp zc16)] at ezh
      rw [if_pos (bI_n0.mp zc16), if_pos (bI_n0.mp zc16)]
      exact ⟨rfl, ezh⟩
def cdB (zv : Int64) (zi : Nat) : Int32 := ((zv.toUInt64 >>> ((Int32.toInt64 (nI (56 - 8 * zi))).toUInt64 &&& Int64.toUInt64 63)).toInt64).toInt32.toInt8.toInt32
def cdF (zf : Nat → Int32) (zv : Int64) (zq : Nat) : Nat → Nat → Int32
  | 0 => zf
  | zi + 1 => upd (cdF zf zv zq zi) (zq + zi) (cdB zv zi)
theorem lp_append_17 (E : ME) (h : AH) (zv : Int64) (zq : Nat) (hw : WF h) (hq : h.2.1 1 1 = nI zq) (hq2 : zq + 8 ≤ 400) {post : PO} (K : Ev E mX9_append (rmm 0 0 0) (QM E 0 0 post) 0 0 51 [some (.ref 1), some (.long zv), none, some (.int (nI 8))] [] (sI h 2 (cdF (h.2.1 2) zv zq 8))) : ∀ n i : Nat, i + n = 8 → Ev E mX9_append (rmm 0 0 0) (QM E 0 0 post) 0 0 17 [some (.ref 1), some (.long zv), none, some (.int (nI i))] [] (sI h 2 (cdF (h.2.1 2) zv zq i)) := by
  intro n
  induction n with
  | zero =>
    intro i hi
    obtain rfl : 8 = i := by omega
    refine ev_iload_n (pc := 17) dX9_append_17 rfl ?_
    refine ev_bipush (pc := 18) (v := 8) dX9_append_18 (by decide) ?_
    refine ev_icmp_ge (pc := 20) (tgt := 51) dX9_append_20 (by decide) (fun zc20 => ?_) (fun zc20 => absurd (by decide) zc20)
    exact K
  | succ n ih =>
    intro i hi
    have hlt : i < 8 := by omega
    refine ev_iload_n (pc := 17) dX9_append_17 rfl ?_
    refine ev_bipush (pc := 18) (v := 8) dX9_append_18 (by decide) ?_
    refine ev_icmp_ge (pc := 20) (tgt := 51) dX9_append_20 (by decide) (fun zc20 => absurd zc20 (nI_ge (a := i) (b := 8) hlt (by decide))) (fun zc20 => ?_)
    refine ev_aload_n (pc := 23) dX9_append_23 rfl ?_
    refine ev_getR (pc := 24) (q := 2) dX9_append_24 fX9_9 rfl (wlt (wf_sI hw) (by decide)) (wr (wf_sI hw) rfl) ?_
    refine ev_aload_n (pc := 27) dX9_append_27 rfl ?_
    refine ev_getI (pc := 28) dX9_append_28 fX9_13 rfl (wlt (wf_sI hw) (by decide)) ?_
    refine ev_eqI (e' := h.2.1 1 1) (by rfl) ?_
    refine ev_eqI (e' := nI zq) hq ?_
    refine ev_iload_n (pc := 31) dX9_append_31 rfl ?_
    refine ev_iadd (pc := 32) dX9_append_32 ?_
    refine ev_eqI (e' := nI (zq + i)) (nI_add zq i) ?_
    refine ev_lload_n (pc := 33) dX9_append_33 rfl ?_
    refine ev_bipush (pc := 34) (v := 56) dX9_append_34 (by decide) ?_
    refine ev_bipush (pc := 36) (v := 8) dX9_append_36 (by decide) ?_
    refine ev_iload_n (pc := 38) dX9_append_38 rfl ?_
    refine ev_imul (pc := 39) dX9_append_39 ?_
    refine ev_eqI (e' := nI (8 * i)) (pk_mul 8 i) ?_
    refine ev_isub (pc := 40) dX9_append_40 ?_
    refine ev_eqI (e' := nI (56 - 8 * i)) (pk_sub (a := 56) (b := 8 * i) (by omega)) ?_
    refine ev_lushr (pc := 41) dX9_append_41 ?_
    refine ev_l2i (pc := 42) dX9_append_42 ?_
    refine ev_i2b (pc := 43) dX9_append_43 ?_
    refine ev_bast (pc := 44) dX9_append_44 rfl (wlt (wf_sI hw) (by decide)) (vp_in_nI (by omega) (by decide)) ?_
    refine ev_eqH (h' := sI h 2 (upd (cdF (h.2.1 2) zv zq i) (zq + i) ((Int32.toInt8 ((Int32.toInt8 (Int64.toInt32 ((Int64.toUInt64 zv >>> ((Int32.toInt64 (nI (56 - 8 * i))).toUInt64 &&& Int64.toUInt64 63)).toInt64))).toInt32)).toInt32))) (by rw [show Int32.toNatClampNeg (nI (zq + i)) = zq + i from nI_clamp (by omega)]; exact sI_sI _ _ _ _) ?_
    refine ev_iinc (pc := 45) (v := nI (i + 1)) (L' := [some (.ref 1), some (.long zv), none, some (.int (nI (i + 1)))]) dX9_append_45 rfl (nI_1 _) (Nat.le_of_ble_eq_true rfl) rfl ?_
    refine ev_goto (pc := 48) (tgt := 17) dX9_append_48 (by decide) ?_
    refine ev_eqH (h' := sI h 2 (cdF (h.2.1 2) zv zq (i + 1))) (by rw [cdF, cdB]; exact congrArg (fun zx => sI h 2 (upd (cdF (h.2.1 2) zv zq i) (zq + i) zx)) (fb_byte_twice _)) ?_
    exact ih (i + 1) (by omega)
theorem cn_X9_append (E : ME) (h : AH) (zv : Int64) (zq : Nat) (hw : WF h) (hq : h.2.1 1 1 = nI zq) (hq4 : zq ≤ 400) : Con E mX9_append 0 0 0 [.ref 1, .long zv] h (fun r h' => r = some (.int (bI (zq + 8 ≤ 400))) ∧ h' = if zq + 8 ≤ 400 then sI (sI h 2 (cdF (h.2.1 2) zv zq 8)) 1 (upd (h.2.1 1) 1 (nI (zq + 8))) else h) := by
  refine con_of2 (L := [some (.ref 1), some (.long zv), none, none]) rfl (Nat.le_of_ble_eq_true rfl) rfl ?_
  refine ev_aload_n (pc := 0) dX9_append_0 rfl ?_
  refine ev_getI (pc := 1) dX9_append_1 fX9_13 rfl (wlt hw (by decide)) ?_
  refine ev_eqI (e' := nI zq) hq ?_
  refine ev_bipush (pc := 4) (v := 8) dX9_append_4 (by decide) ?_
  refine ev_iadd (pc := 6) dX9_append_6 ?_
  refine ev_eqI (e' := nI (zq + 8)) (nI_add zq 8) ?_
  refine ev_sipush (pc := 7) (v := 400) dX9_append_7 (by decide) ?_
  refine ev_icmp_le (pc := 10) (tgt := 15) dX9_append_10 (by decide) (fun zc10 => ?_) (fun zc10 => ?_)
  · -- le at 10: taken
    refine ev_iconst (pc := 15) (v := 0) dX9_append_15 (by decide) ?_
    refine ev_istore_n (pc := 16) (L' := [some (.ref 1), some (.long zv), none, some (.int 0)]) dX9_append_16 (Nat.le_of_ble_eq_true rfl) rfl ?_
    have hq2 : zq + 8 ≤ 400 := (nI_leI (a := zq + 8) (b := 400) (by omega) (by decide)).mp zc10
    refine ev_eqH (sI_id h 2).symm ?_
    refine lp_append_17 E h zv zq hw hq hq2 ?_ 8 0 (Nat.zero_add _)
    refine ev_aload_n (pc := 51) dX9_append_51 rfl ?_
    refine ev_dup (pc := 52) dX9_append_52 rfl ?_
    refine ev_getI (pc := 53) dX9_append_53 fX9_13 rfl (wlt (wf_sI hw) (by decide)) ?_
    refine ev_eqI (e' := h.2.1 1 1) (by rfl) ?_
    refine ev_eqI (e' := nI zq) hq ?_
    refine ev_bipush (pc := 56) (v := 8) dX9_append_56 (by decide) ?_
    refine ev_iadd (pc := 58) dX9_append_58 ?_
    refine ev_eqI (e' := nI (zq + 8)) (nI_add zq 8) ?_
    refine ev_putI (pc := 59) dX9_append_59 fX9_13 rfl (wlt (wf_sI hw) (by decide)) ?_
    refine ev_eqH (h' := sI (sI h 2 (cdF (h.2.1 2) zv zq 8)) 1 (upd (h.2.1 1) 1 (nI (zq + 8)))) (by rfl) ?_
    refine ev_iconst (pc := 62) (v := 1) dX9_append_62 (by decide) ?_
    refine ev_iret (pc := 63) dX9_append_63 rfl ?_ ?_
    · first | rfl | exact nar_bI _ | (simp only [*]; exact nar_bI _) | (simp [narrow, *]; done)
    · rw [bI_t hq2, if_pos hq2]
      exact ⟨rfl, rfl⟩
  · -- le at 10: not taken
    refine ev_iconst (pc := 13) (v := 0) dX9_append_13 (by decide) ?_
    refine ev_iret (pc := 14) dX9_append_14 rfl ?_ ?_
    · first | rfl | exact nar_bI _ | (simp only [*]; exact nar_bI _) | (simp [narrow, *]; done)
    · have hC : ¬ zq + 8 ≤ 400 := fun z => zc10 ((nI_leI (a := zq + 8) (b := 400) (by omega) (by decide)).mpr z)
      rw [bI_f hC, if_neg hC]
      exact ⟨rfl, rfl⟩
theorem cn_X10_feed (E : ME) (h : AH) (zv : Int64) (zq : Nat) (hw : WF h) (hq : h.2.1 1 1 = nI zq) (hq4 : zq ≤ 400) : Con E mX10_feed 1 0 0 [.ref 0, .long zv] h (fun r h' => r = some (.int (if zq + 8 ≤ 400 then nI (zq + 8) else -3)) ∧ h' = if zq + 8 ≤ 400 then sI (sI h 2 (cdF (h.2.1 2) zv zq 8)) 1 (upd (h.2.1 1) 1 (nI (zq + 8))) else h) := by
  refine con_of2 (L := [some (.ref 0), some (.long zv), none]) rfl (Nat.le_of_ble_eq_true rfl) rfl ?_
  refine ev_aload_n (pc := 0) dX10_feed_0 rfl ?_
  refine ev_getR (pc := 1) (q := 1) dX10_feed_1 fX10_10 rfl (wlt hw (by decide)) (wr hw rfl) ?_
  refine ev_lload_n (pc := 4) dX10_feed_4 rfl ?_
  refine ev_callV (S := []) (pc := 5) dX10_feed_5 kX9_append lX10_84 vX9_append (cn_X9_append E h zv zq hw hq hq4) rfl rfl (wlt hw (by decide)) rfl rfl (Nat.le_of_ble_eq_true rfl) ⟨Nat.le_of_ble_eq_true rfl, Nat.le_of_ble_eq_true rfl⟩ ⟨Nat.le_of_ble_eq_true rfl, Nat.le_of_ble_eq_true rfl⟩ ?_
  rintro _ zh ⟨rfl, ezh⟩
  have wzh : WF zh := by rw [ezh]; split; exact wf_sI (wf_sI hw); exact hw
  refine ev_if_eq (pc := 8) (tgt := 21) dX10_feed_8 (by decide) (fun zc8 => ?_) (fun zc8 => ?_)
  · -- eq at 8: taken
    refine ev_bipush (pc := 21) (v := (-3)) dX10_feed_21 (by decide) ?_
    refine ev_iret (pc := 23) dX10_feed_23 rfl ?_ ?_
    · rfl
    · rw [if_neg (bI_0.mp zc8)] at ezh
      rw [if_neg (bI_0.mp zc8), if_neg (bI_0.mp zc8)]
      exact ⟨rfl, ezh⟩
  · -- eq at 8: not taken
    refine ev_aload_n (pc := 11) dX10_feed_11 rfl ?_
    refine ev_getR (pc := 12) (q := 1) dX10_feed_12 fX10_10 rfl (wlt wzh (by decide)) (wr wzh rfl) ?_
    refine ev_callVv (S := []) (pc := 15) dX10_feed_15 kX9_length lX10_88 vX9_length (cn_X9_length E zh wzh) rfl rfl (wlt wzh (by decide)) rfl rfl (Nat.le_of_ble_eq_true rfl) ⟨Nat.le_of_ble_eq_true rfl, Nat.le_of_ble_eq_true rfl⟩ ⟨Nat.le_of_ble_eq_true rfl, Nat.le_of_ble_eq_true rfl⟩ ?_
    refine ev_goto (pc := 18) (tgt := 23) dX10_feed_18 (by decide) ?_
    refine ev_iret (pc := 23) dX10_feed_23 rfl ?_ ?_
    · rfl
    · rw [if_pos (bI_n0.mp zc8)] at ezh
      rw [if_pos (bI_n0.mp zc8), if_pos (bI_n0.mp zc8)]
      rw [ezh]
      exact ⟨rfl, rfl⟩
theorem cn_X5_faultFound (E : ME) (h : AH)  (hw : WF h) : Con E mX5_faultFound 0 0 0 [.ref 19] h (fun r h' => r = some (.int (h.2.1 19 3)) ∧ h' = h) := by
  refine con_of2 (L := [some (.ref 19)]) rfl (Nat.le_of_ble_eq_true rfl) rfl ?_
  refine ev_aload_n (pc := 0) dX5_faultFound_0 rfl ?_
  refine ev_getI (pc := 1) dX5_faultFound_1 fX5_19 rfl (wlt hw (by decide)) ?_
  refine ev_iret (pc := 4) dX5_faultFound_4 rfl ?_ ?_
  · rfl
  · exact ⟨rfl, rfl⟩
theorem cn_X10_fault (E : ME) (h : AH)  (hw : WF h) : Con E mX10_fault 1 0 0 [.ref 0] h (fun r h' => r = some (.int (h.2.1 19 3)) ∧ h' = h) := by
  refine con_of2 (L := [some (.ref 0)]) rfl (Nat.le_of_ble_eq_true rfl) rfl ?_
  refine ev_aload_n (pc := 0) dX10_fault_0 rfl ?_
  refine ev_getR (pc := 1) (q := 19) dX10_fault_1 fX10_31 rfl (wlt hw (by decide)) (wr hw rfl) ?_
  refine ev_callVv (S := []) (pc := 4) dX10_fault_4 kX5_faultFound lX10_104 vX5_faultFound (cn_X5_faultFound E h hw) rfl rfl (wlt hw (by decide)) rfl rfl (Nat.le_of_ble_eq_true rfl) ⟨Nat.le_of_ble_eq_true rfl, Nat.le_of_ble_eq_true rfl⟩ ⟨Nat.le_of_ble_eq_true rfl, Nat.le_of_ble_eq_true rfl⟩ ?_
  refine ev_iret (pc := 7) dX10_fault_7 rfl ?_ ?_
  · rfl
  · exact ⟨rfl, rfl⟩
theorem lp_shared_9 (E : ME) (h : AH) (zu zd : Int64) (zg : Nat) (hw : WF h) {post : PO} (K : ∀ zs : Nat, Ev E mX10_sharedDivisor (rmm 1 0 0) (QM E 0 0 post) 0 0 44 [some (.long zu), none, some (.long zd), none, some (.long (lN zg)), none, some (.long 0), none, some (.int (nI zs)), none, none] [] h) : ∀ (zk zx zy zs : Nat), zy < 2 ^ zk → zs + 2 * zk ≤ 99 → zx < 2 ^ 62 → zy < 2 ^ 62 → Nat.gcd zx zy = zg → Ev E mX10_sharedDivisor (rmm 1 0 0) (QM E 0 0 post) 0 0 9 [some (.long zu), none, some (.long zd), none, some (.long (lN zx)), none, some (.long (lN zy)), none, some (.int (nI zs)), none, none] [] h := by
  intro zk
  induction zk with
  | zero =>
    intro zx zy zs h1 h2 hx hy hg
    obtain rfl : zy = 0 := by
      rw [Nat.pow_zero] at h1
      omega
    rw [Nat.gcd_zero_right] at hg
    subst hg
    refine ev_iload (pc := 9) dX10_sharedDivisor_9 rfl ?_
    refine ev_bipush (pc := 11) (v := 100) dX10_sharedDivisor_11 (by decide) ?_
    refine ev_icmp_ge (pc := 13) (tgt := 44) dX10_sharedDivisor_13 (by decide) (fun zc13 => absurd zc13 (nI_ge (a := zs) (b := 100) (by omega) (by decide))) (fun zc13 => ?_)
    refine ev_lload (pc := 16) dX10_sharedDivisor_16 rfl ?_
    refine ev_lconst (pc := 18) (v := 0) dX10_sharedDivisor_18 (by decide) ?_
    refine ev_lcmp (pc := 19) dX10_sharedDivisor_19 ?_
    refine ev_if_eq (pc := 20) (tgt := 44) dX10_sharedDivisor_20 (by decide) (fun zc20 => ?_) (fun zc20 => absurd ((lc_eq _ _).mpr rfl) zc20)
    exact K zs
  | succ zk ih =>
    intro zx zy zs h1 h2 hx hy hg
    rcases Nat.eq_zero_or_pos zy with h0 | h0
    · subst h0
      rw [Nat.gcd_zero_right] at hg
      subst hg
      refine ev_iload (pc := 9) dX10_sharedDivisor_9 rfl ?_
      refine ev_bipush (pc := 11) (v := 100) dX10_sharedDivisor_11 (by decide) ?_
      refine ev_icmp_ge (pc := 13) (tgt := 44) dX10_sharedDivisor_13 (by decide) (fun zc13 => absurd zc13 (nI_ge (a := zs) (b := 100) (by omega) (by decide))) (fun zc13 => ?_)
      refine ev_lload (pc := 16) dX10_sharedDivisor_16 rfl ?_
      refine ev_lconst (pc := 18) (v := 0) dX10_sharedDivisor_18 (by decide) ?_
      refine ev_lcmp (pc := 19) dX10_sharedDivisor_19 ?_
      refine ev_if_eq (pc := 20) (tgt := 44) dX10_sharedDivisor_20 (by decide) (fun zc20 => ?_) (fun zc20 => absurd ((lc_eq _ _).mpr rfl) zc20)
      exact K zs
    · have hne : ¬ lN zy = 0 := fun z => by
        have := (pk_lEQ (a := zy) (b := 0) (by omega) (by omega)).mp z
        omega
      have hr := Nat.mod_lt zx h0
      have hg2 : Nat.gcd zy (zx % zy) = zg := by rw [← hg, Nat.gcd_comm zy, ← Nat.gcd_rec, Nat.gcd_comm]
      refine ev_iload (pc := 9) dX10_sharedDivisor_9 rfl ?_
      refine ev_bipush (pc := 11) (v := 100) dX10_sharedDivisor_11 (by decide) ?_
      refine ev_icmp_ge (pc := 13) (tgt := 44) dX10_sharedDivisor_13 (by decide) (fun zc13 => absurd zc13 (nI_ge (a := zs) (b := 100) (by omega) (by decide))) (fun zc13 => ?_)
      refine ev_lload (pc := 16) dX10_sharedDivisor_16 rfl ?_
      refine ev_lconst (pc := 18) (v := 0) dX10_sharedDivisor_18 (by decide) ?_
      refine ev_lcmp (pc := 19) dX10_sharedDivisor_19 ?_
      refine ev_if_eq (pc := 20) (tgt := 44) dX10_sharedDivisor_20 (by decide) (fun zc20 => absurd zc20 (fun z => hne ((lc_eq _ _).mp z))) (fun zc20 => ?_)
      refine ev_lload (pc := 23) dX10_sharedDivisor_23 rfl ?_
      refine ev_lload (pc := 25) dX10_sharedDivisor_25 rfl ?_
      refine ev_lrem (pc := 27) dX10_sharedDivisor_27 hne ?_
      refine ev_eqJ (e' := lN (zx % zy)) (pk_lRem (by omega) h0 (by omega)) ?_
      refine ev_lstore (pc := 28) (L' := [some (.long zu), none, some (.long zd), none, some (.long (lN zx)), none, some (.long (lN zy)), none, some (.int (nI zs)), some (.long (lN (zx % zy))), none]) dX10_sharedDivisor_28 (Nat.le_of_ble_eq_true rfl) rfl ?_
      refine ev_lload (pc := 30) dX10_sharedDivisor_30 rfl ?_
      refine ev_lstore (pc := 32) (L' := [some (.long zu), none, some (.long zd), none, some (.long (lN zy)), none, some (.long (lN zy)), none, some (.int (nI zs)), some (.long (lN (zx % zy))), none]) dX10_sharedDivisor_32 (Nat.le_of_ble_eq_true rfl) rfl ?_
      refine ev_lload (pc := 34) dX10_sharedDivisor_34 rfl ?_
      refine ev_lstore (pc := 36) (L' := [some (.long zu), none, some (.long zd), none, some (.long (lN zy)), none, some (.long (lN (zx % zy))), none, some (.int (nI zs)), some (.long (lN (zx % zy))), none]) dX10_sharedDivisor_36 (Nat.le_of_ble_eq_true rfl) rfl ?_
      refine ev_iinc (pc := 38) (v := nI (zs + 1)) (L' := [some (.long zu), none, some (.long zd), none, some (.long (lN zy)), none, some (.long (lN (zx % zy))), none, some (.int (nI (zs + 1))), some (.long (lN (zx % zy))), none]) dX10_sharedDivisor_38 rfl (nI_1 _) (Nat.le_of_ble_eq_true rfl) rfl ?_
      refine ev_goto (pc := 41) (tgt := 9) dX10_sharedDivisor_41 (by decide) ?_
      refine ev_less (L' := [some (.long zu), none, some (.long zd), none, some (.long (lN zy)), none, some (.long (lN (zx % zy))), none, some (.int (nI (zs + 1))), none, none]) (ls_keep (ls_keep (ls_keep (ls_keep (ls_keep (ls_keep (ls_keep (ls_keep (ls_keep (ls_drop (ls_keep (ls_nil _)))))))))))) ?_
      rcases Nat.eq_zero_or_pos (zx % zy) with h3 | h3
      · rw [h3, Nat.gcd_zero_right] at hg2
        subst hg2
        rw [h3]
        refine ev_iload (pc := 9) dX10_sharedDivisor_9 rfl ?_
        refine ev_bipush (pc := 11) (v := 100) dX10_sharedDivisor_11 (by decide) ?_
        refine ev_icmp_ge (pc := 13) (tgt := 44) dX10_sharedDivisor_13 (by decide) (fun zc13 => absurd zc13 (nI_ge (a := zs + 1) (b := 100) (by omega) (by decide))) (fun zc13 => ?_)
        refine ev_lload (pc := 16) dX10_sharedDivisor_16 rfl ?_
        refine ev_lconst (pc := 18) (v := 0) dX10_sharedDivisor_18 (by decide) ?_
        refine ev_lcmp (pc := 19) dX10_sharedDivisor_19 ?_
        refine ev_if_eq (pc := 20) (tgt := 44) dX10_sharedDivisor_20 (by decide) (fun zc20 => ?_) (fun zc20 => absurd ((lc_eq _ _).mpr rfl) zc20)
        exact K (zs + 1)
      · have hne2 : ¬ lN (zx % zy) = 0 := fun z => by
          have := (pk_lEQ (a := zx % zy) (b := 0) (by omega) (by omega)).mp z
          omega
        have hr2 := Nat.mod_lt zy h3
        have hd := Nat.mod_add_div zy (zx % zy)
        have hdv : 1 ≤ zy / (zx % zy) := (Nat.one_le_div_iff h3).mpr (Nat.le_of_lt hr)
        have hml : zx % zy ≤ zx % zy * (zy / (zx % zy)) := Nat.le_mul_of_pos_right _ hdv
        have hg3 : Nat.gcd (zx % zy) (zy % (zx % zy)) = zg := by rw [← hg2, Nat.gcd_comm (zx % zy), ← Nat.gcd_rec, Nat.gcd_comm]
        refine ev_iload (pc := 9) dX10_sharedDivisor_9 rfl ?_
        refine ev_bipush (pc := 11) (v := 100) dX10_sharedDivisor_11 (by decide) ?_
        refine ev_icmp_ge (pc := 13) (tgt := 44) dX10_sharedDivisor_13 (by decide) (fun zc13 => absurd zc13 (nI_ge (a := zs + 1) (b := 100) (by omega) (by decide))) (fun zc13 => ?_)
        refine ev_lload (pc := 16) dX10_sharedDivisor_16 rfl ?_
        refine ev_lconst (pc := 18) (v := 0) dX10_sharedDivisor_18 (by decide) ?_
        refine ev_lcmp (pc := 19) dX10_sharedDivisor_19 ?_
        refine ev_if_eq (pc := 20) (tgt := 44) dX10_sharedDivisor_20 (by decide) (fun zc20 => absurd zc20 (fun z => hne2 ((lc_eq _ _).mp z))) (fun zc20 => ?_)
        refine ev_lload (pc := 23) dX10_sharedDivisor_23 rfl ?_
        refine ev_lload (pc := 25) dX10_sharedDivisor_25 rfl ?_
        refine ev_lrem (pc := 27) dX10_sharedDivisor_27 hne2 ?_
        refine ev_eqJ (e' := lN (zy % (zx % zy))) (pk_lRem (by omega) h3 (by omega)) ?_
        refine ev_lstore (pc := 28) (L' := [some (.long zu), none, some (.long zd), none, some (.long (lN zy)), none, some (.long (lN (zx % zy))), none, some (.int (nI (zs + 1))), some (.long (lN (zy % (zx % zy)))), none]) dX10_sharedDivisor_28 (Nat.le_of_ble_eq_true rfl) rfl ?_
        refine ev_lload (pc := 30) dX10_sharedDivisor_30 rfl ?_
        refine ev_lstore (pc := 32) (L' := [some (.long zu), none, some (.long zd), none, some (.long (lN (zx % zy))), none, some (.long (lN (zx % zy))), none, some (.int (nI (zs + 1))), some (.long (lN (zy % (zx % zy)))), none]) dX10_sharedDivisor_32 (Nat.le_of_ble_eq_true rfl) rfl ?_
        refine ev_lload (pc := 34) dX10_sharedDivisor_34 rfl ?_
        refine ev_lstore (pc := 36) (L' := [some (.long zu), none, some (.long zd), none, some (.long (lN (zx % zy))), none, some (.long (lN (zy % (zx % zy)))), none, some (.int (nI (zs + 1))), some (.long (lN (zy % (zx % zy)))), none]) dX10_sharedDivisor_36 (Nat.le_of_ble_eq_true rfl) rfl ?_
        refine ev_iinc (pc := 38) (v := nI (zs + 1 + 1)) (L' := [some (.long zu), none, some (.long zd), none, some (.long (lN (zx % zy))), none, some (.long (lN (zy % (zx % zy)))), none, some (.int (nI (zs + 1 + 1))), some (.long (lN (zy % (zx % zy)))), none]) dX10_sharedDivisor_38 rfl (nI_1 _) (Nat.le_of_ble_eq_true rfl) rfl ?_
        refine ev_goto (pc := 41) (tgt := 9) dX10_sharedDivisor_41 (by decide) ?_
        refine ev_less (L' := [some (.long zu), none, some (.long zd), none, some (.long (lN (zx % zy))), none, some (.long (lN (zy % (zx % zy)))), none, some (.int (nI (zs + 1 + 1))), none, none]) (ls_keep (ls_keep (ls_keep (ls_keep (ls_keep (ls_keep (ls_keep (ls_keep (ls_keep (ls_drop (ls_keep (ls_nil _)))))))))))) ?_
        exact ih (zx % zy) (zy % (zx % zy)) (zs + 1 + 1) (by rw [Nat.pow_succ] at h1; omega) (by omega) (by omega) (by omega) hg3
theorem cn_X10_sharedDivisor (E : ME) (h : AH) (zx zy : Nat) (hw : WF h) (hx : zx < 2 ^ 62) (hy : zy < 2 ^ 47) (h0 : 0 < Nat.gcd zx zy) : Con E mX10_sharedDivisor 1 0 0 [.long (lN zx), .long (lN zy)] h (fun r h' => r = some (.long (lN (Nat.gcd zx zy))) ∧ h' = h) := by
  refine con_of2 (L := [some (.long (lN zx)), none, some (.long (lN zy)), none, none, none, none, none, none, none, none]) rfl (Nat.le_of_ble_eq_true rfl) rfl ?_
  refine ev_lload_n (pc := 0) dX10_sharedDivisor_0 rfl ?_
  refine ev_lstore (pc := 1) (L' := [some (.long (lN zx)), none, some (.long (lN zy)), none, some (.long (lN zx)), none, none, none, none, none, none]) dX10_sharedDivisor_1 (Nat.le_of_ble_eq_true rfl) rfl ?_
  refine ev_lload_n (pc := 3) dX10_sharedDivisor_3 rfl ?_
  refine ev_lstore (pc := 4) (L' := [some (.long (lN zx)), none, some (.long (lN zy)), none, some (.long (lN zx)), none, some (.long (lN zy)), none, none, none, none]) dX10_sharedDivisor_4 (Nat.le_of_ble_eq_true rfl) rfl ?_
  refine ev_iconst (pc := 6) (v := 0) dX10_sharedDivisor_6 (by decide) ?_
  refine ev_istore (pc := 7) (L' := [some (.long (lN zx)), none, some (.long (lN zy)), none, some (.long (lN zx)), none, some (.long (lN zy)), none, some (.int 0), none, none]) dX10_sharedDivisor_7 (Nat.le_of_ble_eq_true rfl) rfl ?_
  refine lp_shared_9 E h (lN zx) (lN zy) (Nat.gcd zx zy) hw (fun zs => ?_) 47 zx zy 0 hy (by decide) hx (by omega) rfl
  refine ev_lconst (pc := 44) (v := 1) dX10_sharedDivisor_44 (by decide) ?_
  refine ev_lload (pc := 45) dX10_sharedDivisor_45 rfl ?_
  refine ev_mmaxL (pc := 47) dX10_sharedDivisor_47 (tw4 55 rfl (by decide +kernel)) (Nat.le_of_ble_eq_true rfl) ⟨Nat.le_of_ble_eq_true rfl, Nat.le_of_ble_eq_true rfl⟩ ⟨Nat.le_of_ble_eq_true rfl, Nat.le_of_ble_eq_true rfl⟩ ?_
  refine ev_lret (pc := 50) dX10_sharedDivisor_50 rfl ?_
  · refine ⟨?_, rfl⟩
    rw [if_neg]
    intro z
    have z1 := (pk_lLT (a := Nat.gcd zx zy) (b := 1) (by rcases Nat.eq_zero_or_pos zy with z2 | z2; rw [z2, Nat.gcd_zero_right]; omega; have := Nat.gcd_le_right zx z2; omega) (by decide)).mp z
    omega
