theorem cn_X11_slips0 (E : ME) (h : AH) (zk zv : Int32) (hw : WF h) (hq : h.2.1 49 35 = 0) : Con E mX11_slips 2 0 0 [.ref 49, .int zk, .int zv] h (fun r h' => r = some (.int (if (1 ≤ zk ∧ zk ≤ 99) ∧ (0 ≤ zv ∧ zv ≤ 2) then -1000002 else -1000000)) ∧ h' = h) := by
  refine con_of2 (L := [some (.ref 49), some (.int zk), some (.int zv), none, none]) rfl (Nat.le_of_ble_eq_true rfl) rfl ?_
  refine ev_iload_n (pc := 0) dX11_slips_0 rfl ?_
  refine ev_i2l (pc := 1) dX11_slips_1 ?_
  refine ev_lconst (pc := 2) (v := 1) dX11_slips_2 (by decide) ?_
  refine ev_ldc2 (pc := 3) (v := 99) dX11_slips_3 kcX11_243 ?_
  refine ev_callSv (S := []) (pc := 6) dX11_slips_6 kX11_in lX11_96 sX11_in (cn_X11_inC E h zk 1 99 _ _ _ rfl (by decide) (by decide)) rfl rfl (Nat.le_of_ble_eq_true rfl) ⟨Nat.le_of_ble_eq_true rfl, Nat.le_of_ble_eq_true rfl⟩ ⟨Nat.le_of_ble_eq_true rfl, Nat.le_of_ble_eq_true rfl⟩ ?_
  refine ev_if_eq (pc := 9) (tgt := 24) dX11_slips_9 (by decide) (fun zc9 => ?_) (fun zc9 => ?_)
  · -- eq at 9: taken
    refine ev_ldc (pc := 24) (v := (-1000000)) dX11_slips_24 kcX11_247 ?_
    refine ev_iret (pc := 26) dX11_slips_26 rfl ?_ ?_
    · rfl
    · refine ⟨?_, rfl⟩
      simp only [bI_0, bI_n0, Classical.not_not] at *
      have hC : ¬ ((1 ≤ zk ∧ zk ≤ 99) ∧ (0 ≤ zv ∧ zv ≤ 2)) := fun q => by first | exact zc9 q.1 | exact zc21 q.2
      rw [if_neg hC]
  · -- eq at 9: not taken
    refine ev_iload_n (pc := 12) dX11_slips_12 rfl ?_
    refine ev_i2l (pc := 13) dX11_slips_13 ?_
    refine ev_lconst (pc := 14) (v := 0) dX11_slips_14 (by decide) ?_
    refine ev_ldc2 (pc := 15) (v := 2) dX11_slips_15 kcX11_245 ?_
    refine ev_callSv (S := []) (pc := 18) dX11_slips_18 kX11_in lX11_96 sX11_in (cn_X11_inC E h zv 0 2 _ _ _ rfl (by decide) (by decide)) rfl rfl (Nat.le_of_ble_eq_true rfl) ⟨Nat.le_of_ble_eq_true rfl, Nat.le_of_ble_eq_true rfl⟩ ⟨Nat.le_of_ble_eq_true rfl, Nat.le_of_ble_eq_true rfl⟩ ?_
    refine ev_if_ne (pc := 21) (tgt := 27) dX11_slips_21 (by decide) (fun zc21 => ?_) (fun zc21 => ?_)
    · -- ne at 21: taken
      refine ev_aload_n (pc := 27) dX11_slips_27 rfl ?_
      refine ev_getI (pc := 28) dX11_slips_28 fX11_240 rfl (wlt hw (by decide)) ?_
      refine ev_iconst (pc := 31) (v := 2) dX11_slips_31 (by decide) ?_
      refine ev_icmp_ge (pc := 32) (tgt := 38) dX11_slips_32 (by decide) (fun zc32 => absurd zc32 (by rw [hq]; decide)) (fun zc32 => ?_)
      refine ev_ldc (pc := 35) (v := (-1000002)) dX11_slips_35 kcX11_248 ?_
      refine ev_iret (pc := 37) dX11_slips_37 rfl ?_ ?_
      · rfl
      · refine ⟨?_, rfl⟩
        simp only [bI_0, bI_n0, Classical.not_not] at *
        have hC : (1 ≤ zk ∧ zk ≤ 99) ∧ (0 ≤ zv ∧ zv ≤ 2) := ⟨zc9, zc21⟩
        rw [if_pos hC]
        skip
    · -- ne at 21: not taken
      refine ev_ldc (pc := 24) (v := (-1000000)) dX11_slips_24 kcX11_247 ?_
      refine ev_iret (pc := 26) dX11_slips_26 rfl ?_ ?_
      · rfl
      · refine ⟨?_, rfl⟩
        simp only [bI_0, bI_n0, Classical.not_not] at *
        have hC : ¬ ((1 ≤ zk ∧ zk ≤ 99) ∧ (0 ≤ zv ∧ zv ≤ 2)) := fun q => by first | exact zc9 q.1 | exact zc21 q.2
        rw [if_neg hC]
theorem cn_X11_knots0 (E : ME) (h : AH)  (hw : WF h) (hq : h.2.1 49 35 = 0) : Con E mX11_knots 1 0 0 [.ref 49] h (fun r h' => r = some (.int ((-2))) ∧ h' = h) := by
  refine con_of2 (L := [some (.ref 49), none, none]) rfl (Nat.le_of_ble_eq_true rfl) rfl ?_
  refine ev_aload_n (pc := 0) dX11_knots_0 rfl ?_
  refine ev_getI (pc := 1) dX11_knots_1 fX11_240 rfl (wlt hw (by decide)) ?_
  refine ev_iconst (pc := 4) (v := 2) dX11_knots_4 (by decide) ?_
  refine ev_icmp_ge (pc := 5) (tgt := 11) dX11_knots_5 (by decide) (fun zc5 => absurd zc5 (by rw [hq]; decide)) (fun zc5 => ?_)
  refine ev_bipush (pc := 8) (v := (-2)) dX11_knots_8 (by decide) ?_
  refine ev_iret (pc := 10) dX11_knots_10 rfl ?_ ?_
  · rfl
  · exact ⟨rfl, rfl⟩
theorem cn_X1_length (E : ME) (h : AH)  (hw : WF h) : Con E mX1_length 0 0 0 [.ref 34] h (fun r h' => r = some (.int (h.2.1 34 1)) ∧ h' = h) := by
  refine con_of2 (L := [some (.ref 34)]) rfl (Nat.le_of_ble_eq_true rfl) rfl ?_
  refine ev_aload_n (pc := 0) dX1_length_0 rfl ?_
  refine ev_getI (pc := 1) dX1_length_1 fX1_15 rfl (wlt hw (by decide)) ?_
  refine ev_iret (pc := 4) dX1_length_4 rfl ?_ ?_
  · rfl
  · exact ⟨rfl, rfl⟩
theorem cn_X1_clear (E : ME) (h : AH)  (hw : WF h) : Con E mX1_clear 0 0 0 [.ref 34] h (fun r h' => r = some (.int (h.2.1 34 1)) ∧ h' = sI h 34 (upd (h.2.1 34) 1 0)) := by
  refine con_of2 (L := [some (.ref 34), none]) rfl (Nat.le_of_ble_eq_true rfl) rfl ?_
  refine ev_aload_n (pc := 0) dX1_clear_0 rfl ?_
  refine ev_getI (pc := 1) dX1_clear_1 fX1_15 rfl (wlt hw (by decide)) ?_
  refine ev_istore_n (pc := 4) (L' := [some (.ref 34), some (.int (h.2.1 34 1))]) dX1_clear_4 (Nat.le_of_ble_eq_true rfl) rfl ?_
  refine ev_aload_n (pc := 5) dX1_clear_5 rfl ?_
  refine ev_iconst (pc := 6) (v := 0) dX1_clear_6 (by decide) ?_
  refine ev_putI (pc := 7) dX1_clear_7 fX1_15 rfl (wlt hw (by decide)) ?_
  refine ev_eqH (h' := sI h 34 (upd (h.2.1 34) 1 0)) (by rfl) ?_
  refine ev_iload_n (pc := 10) dX1_clear_10 rfl ?_
  refine ev_iret (pc := 11) dX1_clear_11 rfl ?_ ?_
  · rfl
  · exact ⟨rfl, rfl⟩
theorem cn_X1_isBeyond (E : ME) (h : AH) (za : Int32) (zq : Nat) (hw : WF h) (hq : h.2.1 34 1 = nI zq) (hq2 : zq ≤ 24) : Con E mX1_isBeyond 1 0 0 [.ref 34, .int za] h (fun r h' => r = some (.int (bI ((0 ≤ za ∧ za ≤ 999) ∧ (zq = 0 ∨ h.2.1 35 (zq - 1) < za)))) ∧ h' = h) := by
  refine con_of2 (L := [some (.ref 34), some (.int za)]) rfl (Nat.le_of_ble_eq_true rfl) rfl ?_
  refine ev_iload_n (pc := 0) dX1_isBeyond_0 rfl ?_
  refine ev_iconst (pc := 1) (v := 0) dX1_isBeyond_1 (by decide) ?_
  refine ev_sipush (pc := 2) (v := 999) dX1_isBeyond_2 (by decide) ?_
  refine ev_callSv (S := []) (pc := 5) dX1_isBeyond_5 kX10_within lX1_19 sX10_within (cn_X10_within E h za 0 999) rfl rfl (Nat.le_of_ble_eq_true rfl) ⟨Nat.le_of_ble_eq_true rfl, Nat.le_of_ble_eq_true rfl⟩ ⟨Nat.le_of_ble_eq_true rfl, Nat.le_of_ble_eq_true rfl⟩ ?_
  refine ev_if_eq (pc := 8) (tgt := 37) dX1_isBeyond_8 (by decide) (fun zc8 => ?_) (fun zc8 => ?_)
  · -- eq at 8: taken
    refine ev_iconst (pc := 37) (v := 0) dX1_isBeyond_37 (by decide) ?_
    refine ev_iret (pc := 38) dX1_isBeyond_38 rfl ?_ ?_
    · first | rfl | exact nar_bI _ | (simp only [*]; exact nar_bI _) | (simp [narrow, *]; done)
    · refine ⟨?_, rfl⟩
      rw [bI_f (fun q => bI_0.mp zc8 q.1)]
  · -- eq at 8: not taken
    refine ev_aload_n (pc := 11) dX1_isBeyond_11 rfl ?_
    refine ev_getI (pc := 12) dX1_isBeyond_12 fX1_15 rfl (wlt hw (by decide)) ?_
    refine ev_eqI (e' := nI zq) hq ?_
    refine ev_if_eq (pc := 15) (tgt := 33) dX1_isBeyond_15 (by decide) (fun zc15 => ?_) (fun zc15 => ?_)
    · -- eq at 15: taken
      refine ev_iconst (pc := 33) (v := 1) dX1_isBeyond_33 (by decide) ?_
      refine ev_goto (pc := 34) (tgt := 38) dX1_isBeyond_34 (by decide) ?_
      refine ev_iret (pc := 38) dX1_isBeyond_38 rfl ?_ ?_
      · first | rfl | exact nar_bI _ | (simp only [*]; exact nar_bI _) | (simp [narrow, *]; done)
      · refine ⟨?_, rfl⟩
        rw [bI_t ⟨bI_n0.mp zc8, Or.inl ((nI_eq (a := zq) (b := 0) (by omega) (by decide)).mp zc15)⟩]
    · -- eq at 15: not taken
      have zq1 : 1 ≤ zq := Nat.pos_of_ne_zero (fun z => zc15 (by rw [z]; rfl))
      refine ev_iload_n (pc := 18) dX1_isBeyond_18 rfl ?_
      refine ev_aload_n (pc := 19) dX1_isBeyond_19 rfl ?_
      refine ev_getR (pc := 20) (q := 35) dX1_isBeyond_20 fX1_11 rfl (wlt hw (by decide)) (wr hw rfl) ?_
      refine ev_aload_n (pc := 23) dX1_isBeyond_23 rfl ?_
      refine ev_getI (pc := 24) dX1_isBeyond_24 fX1_15 rfl (wlt hw (by decide)) ?_
      refine ev_eqI (e' := nI zq) hq ?_
      refine ev_iconst (pc := 27) (v := 1) dX1_isBeyond_27 (by decide) ?_
      refine ev_isub (pc := 28) dX1_isBeyond_28 ?_
      refine ev_eqI (e' := nI (zq - 1)) (pk_sub (a := zq) (b := 1) (by omega)) ?_
      refine ev_iald (pc := 29) dX1_isBeyond_29 rfl (wlt hw (by decide)) (vp_in_nI (by omega) (by decide)) ?_
      refine ev_eqI (e' := h.2.1 35 (zq - 1)) (by rw [show Int32.toNatClampNeg (nI (zq - 1)) = zq - 1 from nI_clamp (by omega)] <;> rfl) ?_
      refine ev_icmp_le (pc := 30) (tgt := 37) dX1_isBeyond_30 (by decide) (fun zc30 => ?_) (fun zc30 => ?_)
      · -- le at 30: taken
        refine ev_iconst (pc := 37) (v := 0) dX1_isBeyond_37 (by decide) ?_
        refine ev_iret (pc := 38) dX1_isBeyond_38 rfl ?_ ?_
        · first | rfl | exact nar_bI _ | (simp only [*]; exact nar_bI _) | (simp [narrow, *]; done)
        · refine ⟨?_, rfl⟩
          rw [bI_f (fun q => by rcases q.2 with z | z; exact (by omega); exact (i_lt2 _ _).mpr zc30 z)]
      · -- le at 30: not taken
        refine ev_iconst (pc := 33) (v := 1) dX1_isBeyond_33 (by decide) ?_
        refine ev_goto (pc := 34) (tgt := 38) dX1_isBeyond_34 (by decide) ?_
        refine ev_iret (pc := 38) dX1_isBeyond_38 rfl ?_ ?_
        · first | rfl | exact nar_bI _ | (simp only [*]; exact nar_bI _) | (simp [narrow, *]; done)
        · refine ⟨?_, rfl⟩
          rw [bI_t ⟨bI_n0.mp zc8, Or.inr ((i_le2 _ _).mp zc30)⟩]
theorem cn_X1_append (E : ME) (h : AH) (za : Int32) (zq : Nat) (hw : WF h) (hq : h.2.1 34 1 = nI zq) (hq2 : zq ≤ 24) : Con E mX1_append 0 0 0 [.ref 34, .int za] h (fun r h' => r = some (.int (bI (zq < 24))) ∧ h' = if zq < 24 then sI (sI h 35 (upd (h.2.1 35) zq za)) 34 (upd (h.2.1 34) 1 (nI (zq + 1))) else h) := by
  refine con_of2 (L := [some (.ref 34), some (.int za)]) rfl (Nat.le_of_ble_eq_true rfl) rfl ?_
  refine ev_aload_n (pc := 0) dX1_append_0 rfl ?_
  refine ev_getI (pc := 1) dX1_append_1 fX1_15 rfl (wlt hw (by decide)) ?_
  refine ev_eqI (e' := nI zq) hq ?_
  refine ev_bipush (pc := 4) (v := 24) dX1_append_4 (by decide) ?_
  refine ev_icmp_lt (pc := 6) (tgt := 11) dX1_append_6 (by decide) (fun zc6 => ?_) (fun zc6 => ?_)
  · -- lt at 6: taken
    have zq1 : zq < 24 := (nI_ltI (a := zq) (b := 24) (by omega) (by decide)).mp zc6
    refine ev_aload_n (pc := 11) dX1_append_11 rfl ?_
    refine ev_getR (pc := 12) (q := 35) dX1_append_12 fX1_11 rfl (wlt hw (by decide)) (wr hw rfl) ?_
    refine ev_aload_n (pc := 15) dX1_append_15 rfl ?_
    refine ev_getI (pc := 16) dX1_append_16 fX1_15 rfl (wlt hw (by decide)) ?_
    refine ev_eqI (e' := nI zq) hq ?_
    refine ev_iload_n (pc := 19) dX1_append_19 rfl ?_
    refine ev_iast (pc := 20) dX1_append_20 rfl (wlt hw (by decide)) (vp_in_nI (by omega) (by decide)) ?_
    refine ev_eqH (h' := sI h 35 (upd (h.2.1 35) zq za)) (by rw [show Int32.toNatClampNeg (nI zq) = zq from nI_clamp (by omega)] <;> rfl) ?_
    refine ev_aload_n (pc := 21) dX1_append_21 rfl ?_
    refine ev_dup (pc := 22) dX1_append_22 rfl ?_
    refine ev_getI (pc := 23) dX1_append_23 fX1_15 rfl (wlt (wf_sI hw) (by decide)) ?_
    refine ev_eqI (e' := h.2.1 34 1) (by rfl) ?_
    refine ev_eqI (e' := nI zq) hq ?_
    refine ev_iconst (pc := 26) (v := 1) dX1_append_26 (by decide) ?_
    refine ev_iadd (pc := 27) dX1_append_27 ?_
    refine ev_eqI (e' := nI (zq + 1)) (nI_add zq 1) ?_
    refine ev_putI (pc := 28) dX1_append_28 fX1_15 rfl (wlt (wf_sI hw) (by decide)) ?_
    refine ev_eqH (h' := sI (sI h 35 (upd (h.2.1 35) zq za)) 34 (upd (h.2.1 34) 1 (nI (zq + 1)))) (by rfl) ?_
    refine ev_iconst (pc := 31) (v := 1) dX1_append_31 (by decide) ?_
    refine ev_iret (pc := 32) dX1_append_32 rfl ?_ ?_
    · first | rfl | exact nar_bI _ | (simp only [*]; exact nar_bI _) | (simp [narrow, *]; done)
    · rw [bI_t zq1, if_pos zq1]
      exact ⟨rfl, rfl⟩
  · -- lt at 6: not taken
    refine ev_iconst (pc := 9) (v := 0) dX1_append_9 (by decide) ?_
    refine ev_iret (pc := 10) dX1_append_10 rfl ?_ ?_
    · first | rfl | exact nar_bI _ | (simp only [*]; exact nar_bI _) | (simp [narrow, *]; done)
    · have zq1 : ¬ zq < 24 := fun z => zc6 ((nI_ltI (a := zq) (b := 24) (by omega) (by decide)).mpr z)
      rw [bI_f zq1, if_neg zq1]
      exact ⟨rfl, rfl⟩
theorem lp_slipsBy_4 (E : ME) (h : AH) (zq : Nat) (zk : Int32) (hw : WF h) (hq : h.2.1 34 1 = nI (zq + 1)) (hq2 : zq + 1 ≤ 24) {post : PO} (K : Ev E mX1_slipsBy (rmm 0 0 0) (QM E 0 0 post) 0 0 42 [some (.ref 34), some (.int zk), some (.int (slF (h.2.1 35) zk zq)), some (.int (nI zq))] [] h) : ∀ n i : Nat, i + n = zq → Ev E mX1_slipsBy (rmm 0 0 0) (QM E 0 0 post) 0 0 4 [some (.ref 34), some (.int zk), some (.int (slF (h.2.1 35) zk i)), some (.int (nI i))] [] h := by
  intro n
  induction n with
  | zero =>
    intro i hi
    obtain rfl : zq = i := by omega
    refine ev_iload_n (pc := 4) dX1_slipsBy_4 rfl ?_
    refine ev_iconst (pc := 5) (v := 1) dX1_slipsBy_5 (by decide) ?_
    refine ev_iadd (pc := 6) dX1_slipsBy_6 ?_
    refine ev_eqI (e' := nI (zq + 1)) (nI_add zq 1) ?_
    refine ev_aload_n (pc := 7) dX1_slipsBy_7 rfl ?_
    refine ev_getI (pc := 8) dX1_slipsBy_8 fX1_15 rfl (wlt hw (by decide)) ?_
    refine ev_eqI (e' := nI (zq + 1)) hq ?_
    refine ev_icmp_ge (pc := 11) (tgt := 42) dX1_slipsBy_11 (by decide) (fun zc11 => ?_) (fun zc11 => absurd (nI_le (Nat.le_refl _) (by omega)) zc11)
    exact K
  | succ n ih =>
    intro i hi
    have hlt : i < zq := by omega
    refine ev_iload_n (pc := 4) dX1_slipsBy_4 rfl ?_
    refine ev_iconst (pc := 5) (v := 1) dX1_slipsBy_5 (by decide) ?_
    refine ev_iadd (pc := 6) dX1_slipsBy_6 ?_
    refine ev_eqI (e' := nI (i + 1)) (nI_add i 1) ?_
    refine ev_aload_n (pc := 7) dX1_slipsBy_7 rfl ?_
    refine ev_getI (pc := 8) dX1_slipsBy_8 fX1_15 rfl (wlt hw (by decide)) ?_
    refine ev_eqI (e' := nI (zq + 1)) hq ?_
    refine ev_icmp_ge (pc := 11) (tgt := 42) dX1_slipsBy_11 (by decide) (fun zc11 => absurd zc11 (nI_ge (a := i + 1) (b := zq + 1) (by omega) (by omega))) (fun zc11 => ?_)
    refine ev_aload_n (pc := 14) dX1_slipsBy_14 rfl ?_
    refine ev_getR (pc := 15) (q := 35) dX1_slipsBy_15 fX1_11 rfl (wlt hw (by decide)) (wr hw rfl) ?_
    refine ev_iload_n (pc := 18) dX1_slipsBy_18 rfl ?_
    refine ev_iconst (pc := 19) (v := 1) dX1_slipsBy_19 (by decide) ?_
    refine ev_iadd (pc := 20) dX1_slipsBy_20 ?_
    refine ev_eqI (e' := nI (i + 1)) (nI_add i 1) ?_
    refine ev_iald (pc := 21) dX1_slipsBy_21 rfl (wlt hw (by decide)) (vp_in_nI (by omega) (by decide)) ?_
    refine ev_eqI (e' := h.2.1 35 (i + 1)) (by rw [show Int32.toNatClampNeg (nI (i + 1)) = i + 1 from nI_clamp (by omega)] <;> rfl) ?_
    refine ev_aload_n (pc := 22) dX1_slipsBy_22 rfl ?_
    refine ev_getR (pc := 23) (q := 35) dX1_slipsBy_23 fX1_11 rfl (wlt hw (by decide)) (wr hw rfl) ?_
    refine ev_iload_n (pc := 26) dX1_slipsBy_26 rfl ?_
    refine ev_iald (pc := 27) dX1_slipsBy_27 rfl (wlt hw (by decide)) (vp_in_nI (by omega) (by decide)) ?_
    refine ev_eqI (e' := h.2.1 35 i) (by rw [show Int32.toNatClampNeg (nI i) = i from nI_clamp (by omega)] <;> rfl) ?_
    refine ev_isub (pc := 28) dX1_slipsBy_28 ?_
    refine ev_iload_n (pc := 29) dX1_slipsBy_29 rfl ?_
    refine ev_icmp_eq (pc := 30) (tgt := 36) dX1_slipsBy_30 (by decide) (fun zc30 => ?_) (fun zc30 => ?_)
    · -- eq at 30: taken
      refine ev_iinc (pc := 36) (v := nI (i + 1)) (L' := [some (.ref 34), some (.int zk), some (.int (slF (h.2.1 35) zk i)), some (.int (nI (i + 1)))]) dX1_slipsBy_36 rfl (nI_1 _) (Nat.le_of_ble_eq_true rfl) rfl ?_
      refine ev_goto (pc := 39) (tgt := 4) dX1_slipsBy_39 (by decide) ?_
      refine ev_eqL (L' := [some (.ref 34), some (.int zk), some (.int (slF (h.2.1 35) zk (i + 1))), some (.int (nI (i + 1)))]) (by rw [slF]; first | rw [if_pos zc30, Int32.add_zero] | rw [if_neg zc30]) ?_
      exact ih (i + 1) (by omega)
    · -- eq at 30: not taken
      refine ev_iinc (pc := 33) (v := (slF (h.2.1 35) zk i) + 1) (L' := [some (.ref 34), some (.int zk), some (.int ((slF (h.2.1 35) zk i) + 1)), some (.int (nI i))]) dX1_slipsBy_33 rfl rfl (Nat.le_of_ble_eq_true rfl) rfl ?_
      refine ev_iinc (pc := 36) (v := nI (i + 1)) (L' := [some (.ref 34), some (.int zk), some (.int ((slF (h.2.1 35) zk i) + 1)), some (.int (nI (i + 1)))]) dX1_slipsBy_36 rfl (nI_1 _) (Nat.le_of_ble_eq_true rfl) rfl ?_
      refine ev_goto (pc := 39) (tgt := 4) dX1_slipsBy_39 (by decide) ?_
      refine ev_eqL (L' := [some (.ref 34), some (.int zk), some (.int (slF (h.2.1 35) zk (i + 1))), some (.int (nI (i + 1)))]) (by rw [slF]; first | rw [if_pos zc30, Int32.add_zero] | rw [if_neg zc30]) ?_
      exact ih (i + 1) (by omega)
theorem cn_X1_slipsBy (E : ME) (h : AH) (zk : Int32) (zq : Nat) (hw : WF h) (hq : h.2.1 34 1 = nI (zq + 1)) (hq2 : zq + 1 ≤ 24) : Con E mX1_slipsBy 0 0 0 [.ref 34, .int zk] h (fun r h' => r = some (.int (slF (h.2.1 35) zk zq)) ∧ h' = h) := by
  refine con_of2 (L := [some (.ref 34), some (.int zk), none, none]) rfl (Nat.le_of_ble_eq_true rfl) rfl ?_
  refine ev_iconst (pc := 0) (v := 0) dX1_slipsBy_0 (by decide) ?_
  refine ev_istore_n (pc := 1) (L' := [some (.ref 34), some (.int zk), some (.int 0), none]) dX1_slipsBy_1 (Nat.le_of_ble_eq_true rfl) rfl ?_
  refine ev_iconst (pc := 2) (v := 0) dX1_slipsBy_2 (by decide) ?_
  refine ev_istore_n (pc := 3) (L' := [some (.ref 34), some (.int zk), some (.int 0), some (.int 0)]) dX1_slipsBy_3 (Nat.le_of_ble_eq_true rfl) rfl ?_
  refine lp_slipsBy_4 E h zq zk hw hq hq2 ?_ zq 0 (Nat.zero_add _)
  refine ev_iload_n (pc := 42) dX1_slipsBy_42 rfl ?_
  refine ev_iret (pc := 43) dX1_slipsBy_43 rfl ?_ ?_
  · rfl
  · exact ⟨rfl, rfl⟩
theorem lp_firstSlip_2 (E : ME) (h : AH) (zq : Nat) (zk : Int32) (hw : WF h) (hq : h.2.1 34 1 = nI (zq + 1)) (hq2 : zq + 1 ≤ 24) {post : PO} : ∀ zn zi : Nat, zi + zn = zq → post (some (.int (fsD (h.2.1 35) zk zi zn))) h → Ev E mX1_firstSlipBy (rmm 0 0 0) (QM E 0 0 post) 0 0 2 [some (.ref 34), some (.int zk), some (.int (nI zi))] [] h := by
  intro zn
  induction zn with
  | zero =>
    intro zi hi hp
    obtain rfl : zq = zi := by omega
    refine ev_iload_n (pc := 2) dX1_firstSlipBy_2 rfl ?_
    refine ev_iconst (pc := 3) (v := 1) dX1_firstSlipBy_3 (by decide) ?_
    refine ev_iadd (pc := 4) dX1_firstSlipBy_4 ?_
    refine ev_eqI (e' := nI (zq + 1)) (nI_add zq 1) ?_
    refine ev_aload_n (pc := 5) dX1_firstSlipBy_5 rfl ?_
    refine ev_getI (pc := 6) dX1_firstSlipBy_6 fX1_15 rfl (wlt hw (by decide)) ?_
    refine ev_eqI (e' := nI (zq + 1)) hq ?_
    refine ev_icmp_ge (pc := 9) (tgt := 39) dX1_firstSlipBy_9 (by decide) (fun zc9 => ?_) (fun zc9 => absurd (nI_le (Nat.le_refl _) (by omega)) zc9)
    refine ev_bipush (pc := 39) (v := (-4)) dX1_firstSlipBy_39 (by decide) ?_
    refine ev_iret (pc := 41) dX1_firstSlipBy_41 rfl ?_ ?_
    · rfl
    · exact hp
  | succ zn ih =>
    intro zi hi hp
    refine ev_iload_n (pc := 2) dX1_firstSlipBy_2 rfl ?_
    refine ev_iconst (pc := 3) (v := 1) dX1_firstSlipBy_3 (by decide) ?_
    refine ev_iadd (pc := 4) dX1_firstSlipBy_4 ?_
    refine ev_eqI (e' := nI (zi + 1)) (nI_add zi 1) ?_
    refine ev_aload_n (pc := 5) dX1_firstSlipBy_5 rfl ?_
    refine ev_getI (pc := 6) dX1_firstSlipBy_6 fX1_15 rfl (wlt hw (by decide)) ?_
    refine ev_eqI (e' := nI (zq + 1)) hq ?_
    refine ev_icmp_ge (pc := 9) (tgt := 39) dX1_firstSlipBy_9 (by decide) (fun zc9 => absurd zc9 (nI_ge (a := zi + 1) (b := zq + 1) (by omega) (by omega))) (fun zc9 => ?_)
    refine ev_aload_n (pc := 12) dX1_firstSlipBy_12 rfl ?_
    refine ev_getR (pc := 13) (q := 35) dX1_firstSlipBy_13 fX1_11 rfl (wlt hw (by decide)) (wr hw rfl) ?_
    refine ev_iload_n (pc := 16) dX1_firstSlipBy_16 rfl ?_
    refine ev_iconst (pc := 17) (v := 1) dX1_firstSlipBy_17 (by decide) ?_
    refine ev_iadd (pc := 18) dX1_firstSlipBy_18 ?_
    refine ev_eqI (e' := nI (zi + 1)) (nI_add zi 1) ?_
    refine ev_iald (pc := 19) dX1_firstSlipBy_19 rfl (wlt hw (by decide)) (vp_in_nI (by omega) (by decide)) ?_
    refine ev_eqI (e' := h.2.1 35 (zi + 1)) (by rw [show Int32.toNatClampNeg (nI (zi + 1)) = zi + 1 from nI_clamp (by omega)] <;> rfl) ?_
    refine ev_aload_n (pc := 20) dX1_firstSlipBy_20 rfl ?_
    refine ev_getR (pc := 21) (q := 35) dX1_firstSlipBy_21 fX1_11 rfl (wlt hw (by decide)) (wr hw rfl) ?_
    refine ev_iload_n (pc := 24) dX1_firstSlipBy_24 rfl ?_
    refine ev_iald (pc := 25) dX1_firstSlipBy_25 rfl (wlt hw (by decide)) (vp_in_nI (by omega) (by decide)) ?_
    refine ev_eqI (e' := h.2.1 35 zi) (by rw [show Int32.toNatClampNeg (nI zi) = zi from nI_clamp (by omega)] <;> rfl) ?_
    refine ev_isub (pc := 26) dX1_firstSlipBy_26 ?_
    refine ev_iload_n (pc := 27) dX1_firstSlipBy_27 rfl ?_
    refine ev_icmp_eq (pc := 28) (tgt := 33) dX1_firstSlipBy_28 (by decide) (fun zc28 => ?_) (fun zc28 => ?_)
    · -- eq at 28: taken
      refine ev_iinc (pc := 33) (v := nI (zi + 1)) (L' := [some (.ref 34), some (.int zk), some (.int (nI (zi + 1)))]) dX1_firstSlipBy_33 rfl (nI_1 _) (Nat.le_of_ble_eq_true rfl) rfl ?_
      refine ev_goto (pc := 36) (tgt := 2) dX1_firstSlipBy_36 (by decide) ?_
      rw [fsD, if_pos zc28] at hp
      exact ih (zi + 1) (by omega) hp
    · -- eq at 28: not taken
      refine ev_iload_n (pc := 31) dX1_firstSlipBy_31 rfl ?_
      refine ev_iret (pc := 32) dX1_firstSlipBy_32 rfl ?_ ?_
      · rfl
      · rw [fsD, if_neg zc28] at hp
        exact hp
theorem cn_X1_firstSlipBy (E : ME) (h : AH) (zk : Int32) (zq : Nat) (hw : WF h) (hq : h.2.1 34 1 = nI (zq + 1)) (hq2 : zq + 1 ≤ 24) : Con E mX1_firstSlipBy 0 0 0 [.ref 34, .int zk] h (fun r h' => r = some (.int (fsD (h.2.1 35) zk 0 zq)) ∧ h' = h) := by
  refine con_of2 (L := [some (.ref 34), some (.int zk), none]) rfl (Nat.le_of_ble_eq_true rfl) rfl ?_
  refine ev_iconst (pc := 0) (v := 0) dX1_firstSlipBy_0 (by decide) ?_
  refine ev_istore_n (pc := 1) (L' := [some (.ref 34), some (.int zk), some (.int 0)]) dX1_firstSlipBy_1 (Nat.le_of_ble_eq_true rfl) rfl ?_
  exact lp_firstSlip_2 E h zq zk hw hq hq2 zq 0 (Nat.zero_add _) ⟨rfl, rfl⟩
theorem cn_X1_driftBy (E : ME) (h : AH) (zk : Int32) (zq : Nat) (hw : WF h) (hq : h.2.1 34 1 = nI (zq + 1)) (hq2 : zq + 1 ≤ 24) : Con E mX1_driftBy 0 0 0 [.ref 34, .int zk] h (fun r h' => r = some (.int (h.2.1 35 zq - h.2.1 35 0 - zk * nI zq)) ∧ h' = h) := by
  refine con_of2 (L := [some (.ref 34), some (.int zk)]) rfl (Nat.le_of_ble_eq_true rfl) rfl ?_
  refine ev_aload_n (pc := 0) dX1_driftBy_0 rfl ?_
  refine ev_getI (pc := 1) dX1_driftBy_1 fX1_15 rfl (wlt hw (by decide)) ?_
  refine ev_eqI (e' := nI (zq + 1)) hq ?_
  refine ev_iconst (pc := 4) (v := 1) dX1_driftBy_4 (by decide) ?_
  refine ev_icmp_ge (pc := 5) (tgt := 12) dX1_driftBy_5 (by decide) (fun zc5 => ?_) (fun zc5 => absurd (nI_le (a := 1) (b := zq + 1) (by omega) (by omega)) zc5)
  refine ev_aload_n (pc := 12) dX1_driftBy_12 rfl ?_
  refine ev_getR (pc := 13) (q := 35) dX1_driftBy_13 fX1_11 rfl (wlt hw (by decide)) (wr hw rfl) ?_
  refine ev_aload_n (pc := 16) dX1_driftBy_16 rfl ?_
  refine ev_getI (pc := 17) dX1_driftBy_17 fX1_15 rfl (wlt hw (by decide)) ?_
  refine ev_eqI (e' := nI (zq + 1)) hq ?_
  refine ev_iconst (pc := 20) (v := 1) dX1_driftBy_20 (by decide) ?_
  refine ev_isub (pc := 21) dX1_driftBy_21 ?_
  refine ev_eqI (e' := nI zq) (nI_pred _) ?_
  refine ev_iald (pc := 22) dX1_driftBy_22 rfl (wlt hw (by decide)) (vp_in_nI (by omega) (by decide)) ?_
  refine ev_eqI (e' := h.2.1 35 zq) (by rw [show Int32.toNatClampNeg (nI zq) = zq from nI_clamp (by omega)] <;> rfl) ?_
  refine ev_aload_n (pc := 23) dX1_driftBy_23 rfl ?_
  refine ev_getR (pc := 24) (q := 35) dX1_driftBy_24 fX1_11 rfl (wlt hw (by decide)) (wr hw rfl) ?_
  refine ev_iconst (pc := 27) (v := 0) dX1_driftBy_27 (by decide) ?_
  refine ev_iald (pc := 28) dX1_driftBy_28 rfl (wlt hw (by decide)) (vp_in_nI (n := 0) (by decide) (by decide)) ?_
  refine ev_eqI (e' := h.2.1 35 0) (by rfl) ?_
  refine ev_isub (pc := 29) dX1_driftBy_29 ?_
  refine ev_iload_n (pc := 30) dX1_driftBy_30 rfl ?_
  refine ev_aload_n (pc := 31) dX1_driftBy_31 rfl ?_
  refine ev_getI (pc := 32) dX1_driftBy_32 fX1_15 rfl (wlt hw (by decide)) ?_
  refine ev_eqI (e' := nI (zq + 1)) hq ?_
  refine ev_iconst (pc := 35) (v := 1) dX1_driftBy_35 (by decide) ?_
  refine ev_isub (pc := 36) dX1_driftBy_36 ?_
  refine ev_eqI (e' := nI zq) (nI_pred _) ?_
  refine ev_imul (pc := 37) dX1_driftBy_37 ?_
  refine ev_isub (pc := 38) dX1_driftBy_38 ?_
  refine ev_iret (pc := 39) dX1_driftBy_39 rfl ?_ ?_
  · rfl
  · exact ⟨rfl, rfl⟩
theorem lp_bestLength_10 (E : ME) (h : AH) (zq : Nat) (hw : WF h) (hq : h.2.1 34 1 = nI (zq + 1)) (hq2 : zq + 1 ≤ 24) {post : PO} (K : Ev E mX1_bestLength (rmm 1 0 0) (QM E 0 0 post) 0 0 40 [some (.ref 34), some (.int (bkF (fun z => slF (h.2.1 35) z zq) 98)), some (.int (slF (h.2.1 35) (bkF (fun z => slF (h.2.1 35) z zq) 98) zq)), some (.int (nI (98 + 2))), none] [] h) : ∀ n i : Nat, i + n = 98 → Ev E mX1_bestLength (rmm 1 0 0) (QM E 0 0 post) 0 0 10 [some (.ref 34), some (.int (bkF (fun z => slF (h.2.1 35) z zq) i)), some (.int (slF (h.2.1 35) (bkF (fun z => slF (h.2.1 35) z zq) i) zq)), some (.int (nI (i + 2))), none] [] h := by
  intro n
  induction n with
  | zero =>
    intro i hi
    obtain rfl : 98 = i := by omega
    refine ev_iload_n (pc := 10) dX1_bestLength_10 rfl ?_
    refine ev_bipush (pc := 11) (v := 99) dX1_bestLength_11 (by decide) ?_
    refine ev_icmp_gt (pc := 13) (tgt := 40) dX1_bestLength_13 (by decide) (fun zc13 => ?_) (fun zc13 => absurd (by decide) zc13)
    exact K
  | succ n ih =>
    intro i hi
    have hlt : i < 98 := by omega
    refine ev_iload_n (pc := 10) dX1_bestLength_10 rfl ?_
    refine ev_bipush (pc := 11) (v := 99) dX1_bestLength_11 (by decide) ?_
    refine ev_icmp_gt (pc := 13) (tgt := 40) dX1_bestLength_13 (by decide) (fun zc13 => absurd zc13 (nI_nlt (a := 99) (b := i + 2) (by omega) (by decide))) (fun zc13 => ?_)
    refine ev_aload_n (pc := 16) dX1_bestLength_16 rfl ?_
    refine ev_iload_n (pc := 17) dX1_bestLength_17 rfl ?_
    refine ev_callVv (S := []) (pc := 18) dX1_bestLength_18 kX1_slipsBy lX1_23 vX1_slipsBy (cn_X1_slipsBy E h (nI (i + 2)) zq hw hq hq2) rfl rfl (wlt hw (by decide)) rfl rfl (Nat.le_of_ble_eq_true rfl) ⟨Nat.le_of_ble_eq_true rfl, Nat.le_of_ble_eq_true rfl⟩ ⟨Nat.le_of_ble_eq_true rfl, Nat.le_of_ble_eq_true rfl⟩ ?_
    refine ev_istore (pc := 21) (L' := [some (.ref 34), some (.int (bkF (fun z => slF (h.2.1 35) z zq) i)), some (.int (slF (h.2.1 35) (bkF (fun z => slF (h.2.1 35) z zq) i) zq)), some (.int (nI (i + 2))), some (.int (slF (h.2.1 35) (nI (i + 2)) zq))]) dX1_bestLength_21 (Nat.le_of_ble_eq_true rfl) rfl ?_
    refine ev_iload (pc := 23) dX1_bestLength_23 rfl ?_
    refine ev_iload_n (pc := 25) dX1_bestLength_25 rfl ?_
    refine ev_icmp_ge (pc := 26) (tgt := 34) dX1_bestLength_26 (by decide) (fun zc26 => ?_) (fun zc26 => ?_)
    · -- ge at 26: taken
      refine ev_iinc (pc := 34) (v := nI (i + 2 + 1)) (L' := [some (.ref 34), some (.int (bkF (fun z => slF (h.2.1 35) z zq) i)), some (.int (slF (h.2.1 35) (bkF (fun z => slF (h.2.1 35) z zq) i) zq)), some (.int (nI (i + 2 + 1))), some (.int (slF (h.2.1 35) (nI (i + 2)) zq))]) dX1_bestLength_34 rfl (nI_1 _) (Nat.le_of_ble_eq_true rfl) rfl ?_
      refine ev_goto (pc := 37) (tgt := 10) dX1_bestLength_37 (by decide) ?_
      refine ev_less (L' := [some (.ref 34), some (.int (bkF (fun z => slF (h.2.1 35) z zq) i)), some (.int (slF (h.2.1 35) (bkF (fun z => slF (h.2.1 35) z zq) i) zq)), some (.int (nI (i + 2 + 1))), none]) (ls_keep (ls_keep (ls_keep (ls_keep (ls_drop (ls_nil _)))))) ?_
      refine ev_eqL (L' := [some (.ref 34), some (.int (bkF (fun z => slF (h.2.1 35) z zq) (i + 1))), some (.int (slF (h.2.1 35) (bkF (fun z => slF (h.2.1 35) z zq) (i + 1)) zq)), some (.int (nI ((i + 1) + 2))), none]) (by simp only [bkF]; first | rw [if_neg ((i_lt2 _ _).mpr zc26)] | rw [if_pos ((i_le2 _ _).mp zc26)]) ?_
      exact ih (i + 1) (by omega)
    · -- ge at 26: not taken
      refine ev_iload_n (pc := 29) dX1_bestLength_29 rfl ?_
      refine ev_istore_n (pc := 30) (L' := [some (.ref 34), some (.int (nI (i + 2))), some (.int (slF (h.2.1 35) (bkF (fun z => slF (h.2.1 35) z zq) i) zq)), some (.int (nI (i + 2))), some (.int (slF (h.2.1 35) (nI (i + 2)) zq))]) dX1_bestLength_30 (Nat.le_of_ble_eq_true rfl) rfl ?_
      refine ev_iload (pc := 31) dX1_bestLength_31 rfl ?_
      refine ev_istore_n (pc := 33) (L' := [some (.ref 34), some (.int (nI (i + 2))), some (.int (slF (h.2.1 35) (nI (i + 2)) zq)), some (.int (nI (i + 2))), some (.int (slF (h.2.1 35) (nI (i + 2)) zq))]) dX1_bestLength_33 (Nat.le_of_ble_eq_true rfl) rfl ?_
      refine ev_iinc (pc := 34) (v := nI (i + 2 + 1)) (L' := [some (.ref 34), some (.int (nI (i + 2))), some (.int (slF (h.2.1 35) (nI (i + 2)) zq)), some (.int (nI (i + 2 + 1))), some (.int (slF (h.2.1 35) (nI (i + 2)) zq))]) dX1_bestLength_34 rfl (nI_1 _) (Nat.le_of_ble_eq_true rfl) rfl ?_
      refine ev_goto (pc := 37) (tgt := 10) dX1_bestLength_37 (by decide) ?_
      refine ev_less (L' := [some (.ref 34), some (.int (nI (i + 2))), some (.int (slF (h.2.1 35) (nI (i + 2)) zq)), some (.int (nI (i + 2 + 1))), none]) (ls_keep (ls_keep (ls_keep (ls_keep (ls_drop (ls_nil _)))))) ?_
      refine ev_eqL (L' := [some (.ref 34), some (.int (bkF (fun z => slF (h.2.1 35) z zq) (i + 1))), some (.int (slF (h.2.1 35) (bkF (fun z => slF (h.2.1 35) z zq) (i + 1)) zq)), some (.int (nI ((i + 1) + 2))), none]) (by simp only [bkF]; first | rw [if_neg ((i_lt2 _ _).mpr zc26)] | rw [if_pos ((i_le2 _ _).mp zc26)]) ?_
      exact ih (i + 1) (by omega)
theorem cn_X1_bestLength (E : ME) (h : AH) (zq : Nat) (hw : WF h) (hq : h.2.1 34 1 = nI (zq + 1)) (hq2 : zq + 1 ≤ 24) : Con E mX1_bestLength 1 0 0 [.ref 34] h (fun r h' => r = some (.int (bkF (fun z => slF (h.2.1 35) z zq) 98)) ∧ h' = h) := by
  refine con_of2 (L := [some (.ref 34), none, none, none, none]) rfl (Nat.le_of_ble_eq_true rfl) rfl ?_
  refine ev_iconst (pc := 0) (v := 1) dX1_bestLength_0 (by decide) ?_
  refine ev_istore_n (pc := 1) (L' := [some (.ref 34), some (.int 1), none, none, none]) dX1_bestLength_1 (Nat.le_of_ble_eq_true rfl) rfl ?_
  refine ev_aload_n (pc := 2) dX1_bestLength_2 rfl ?_
  refine ev_iconst (pc := 3) (v := 1) dX1_bestLength_3 (by decide) ?_
  refine ev_callVv (S := []) (pc := 4) dX1_bestLength_4 kX1_slipsBy lX1_23 vX1_slipsBy (cn_X1_slipsBy E h 1 zq hw hq hq2) rfl rfl (wlt hw (by decide)) rfl rfl (Nat.le_of_ble_eq_true rfl) ⟨Nat.le_of_ble_eq_true rfl, Nat.le_of_ble_eq_true rfl⟩ ⟨Nat.le_of_ble_eq_true rfl, Nat.le_of_ble_eq_true rfl⟩ ?_
  refine ev_istore_n (pc := 7) (L' := [some (.ref 34), some (.int 1), some (.int (slF (h.2.1 35) 1 zq)), none, none]) dX1_bestLength_7 (Nat.le_of_ble_eq_true rfl) rfl ?_
  refine ev_iconst (pc := 8) (v := 2) dX1_bestLength_8 (by decide) ?_
  refine ev_istore_n (pc := 9) (L' := [some (.ref 34), some (.int 1), some (.int (slF (h.2.1 35) 1 zq)), some (.int 2), none]) dX1_bestLength_9 (Nat.le_of_ble_eq_true rfl) rfl ?_
  refine lp_bestLength_10 E h zq hw hq hq2 ?_ 98 0 (Nat.zero_add _)
  refine ev_iload_n (pc := 40) dX1_bestLength_40 rfl ?_
  refine ev_iret (pc := 41) dX1_bestLength_41 rfl ?_ ?_
  · rfl
  · exact ⟨rfl, rfl⟩
theorem cn_X10_wipe (E : ME) (h : AH)  (hw : WF h) : Con E mX10_wipe 1 0 0 [.ref 0] h (fun r h' => r = some (.int (h.2.1 34 1)) ∧ h' = sI h 34 (upd (h.2.1 34) 1 0)) := by
  refine con_of2 (L := [some (.ref 0)]) rfl (Nat.le_of_ble_eq_true rfl) rfl ?_
  refine ev_aload_n (pc := 0) dX10_wipe_0 rfl ?_
  refine ev_getR (pc := 1) (q := 34) dX10_wipe_1 fX10_66 rfl (wlt hw (by decide)) (wr hw rfl) ?_
  refine ev_callVv (S := []) (pc := 4) dX10_wipe_4 kX1_clear lX10_255 vX1_clear (cn_X1_clear E h hw) rfl rfl (wlt hw (by decide)) rfl rfl (Nat.le_of_ble_eq_true rfl) ⟨Nat.le_of_ble_eq_true rfl, Nat.le_of_ble_eq_true rfl⟩ ⟨Nat.le_of_ble_eq_true rfl, Nat.le_of_ble_eq_true rfl⟩ ?_
  refine ev_eqH (h' := sI h 34 (upd (h.2.1 34) 1 0)) rfl ?_
  refine ev_iret (pc := 7) dX10_wipe_7 rfl ?_ ?_
  · rfl
  · exact ⟨rfl, rfl⟩
theorem cn_X10_knot (E : ME) (h : AH) (za : Int32) (zq : Nat) (hw : WF h) (hq : h.2.1 34 1 = nI zq) (hq2 : zq ≤ 24) : Con E mX10_knot 2 0 0 [.ref 0, .int za] h (fun r h' => r = some (.int (if (0 ≤ za ∧ za ≤ 999) ∧ (zq = 0 ∨ h.2.1 35 (zq - 1) < za) then (if zq = 24 then -3 else nI (zq + 1)) else -1)) ∧ h' = if (0 ≤ za ∧ za ≤ 999) ∧ (zq = 0 ∨ h.2.1 35 (zq - 1) < za) then (if zq = 24 then h else sI (sI h 35 (upd (h.2.1 35) zq za)) 34 (upd (h.2.1 34) 1 (nI (zq + 1)))) else h) := by
  refine con_of2 (L := [some (.ref 0), some (.int za)]) rfl (Nat.le_of_ble_eq_true rfl) rfl ?_
  refine ev_aload_n (pc := 0) dX10_knot_0 rfl ?_
  refine ev_getR (pc := 1) (q := 34) dX10_knot_1 fX10_66 rfl (wlt hw (by decide)) (wr hw rfl) ?_
  refine ev_iload_n (pc := 4) dX10_knot_4 rfl ?_
  refine ev_callVv (S := []) (pc := 5) dX10_knot_5 kX1_isBeyond lX10_249 vX1_isBeyond (cn_X1_isBeyond E h za zq hw hq hq2) rfl rfl (wlt hw (by decide)) rfl rfl (Nat.le_of_ble_eq_true rfl) ⟨Nat.le_of_ble_eq_true rfl, Nat.le_of_ble_eq_true rfl⟩ ⟨Nat.le_of_ble_eq_true rfl, Nat.le_of_ble_eq_true rfl⟩ ?_
  refine ev_if_ne (pc := 8) (tgt := 13) dX10_knot_8 (by decide) (fun zc8 => ?_) (fun zc8 => ?_)
  · -- ne at 8: taken
    refine ev_aload_n (pc := 13) dX10_knot_13 rfl ?_
    refine ev_getR (pc := 14) (q := 34) dX10_knot_14 fX10_66 rfl (wlt hw (by decide)) (wr hw rfl) ?_
    refine ev_iload_n (pc := 17) dX10_knot_17 rfl ?_
    refine ev_callV (S := []) (pc := 18) dX10_knot_18 kX1_append lX10_252 vX1_append (cn_X1_append E h za zq hw hq hq2) rfl rfl (wlt hw (by decide)) rfl rfl (Nat.le_of_ble_eq_true rfl) ⟨Nat.le_of_ble_eq_true rfl, Nat.le_of_ble_eq_true rfl⟩ ⟨Nat.le_of_ble_eq_true rfl, Nat.le_of_ble_eq_true rfl⟩ ?_
    rintro _ zh ⟨rfl, ezh⟩
    have wzh : WF zh := by rw [ezh]; split; exact (wf_sI (wf_sI hw)); exact hw
    refine ev_if_eq (pc := 21) (tgt := 34) dX10_knot_21 (by decide) (fun zc21 => ?_) (fun zc21 => ?_)
    · -- eq at 21: taken
      refine ev_bipush (pc := 34) (v := (-3)) dX10_knot_34 (by decide) ?_
      refine ev_iret (pc := 36) dX10_knot_36 rfl ?_ ?_
      · rfl
      · rw [if_pos (bI_n0.mp zc8), if_pos (bI_n0.mp zc8)]
        have z24 : zq = 24 := by have z1 := bI_0.mp zc21; omega
        rw [if_neg (bI_0.mp zc21)] at ezh
        rw [if_pos z24, if_pos z24]
        exact ⟨rfl, ezh⟩
    · -- eq at 21: not taken
      refine ev_aload_n (pc := 24) dX10_knot_24 rfl ?_
      refine ev_getR (pc := 25) (q := 34) dX10_knot_25 fX10_66 rfl (wlt wzh (by decide)) (wr wzh rfl) ?_
      refine ev_callVv (S := []) (pc := 28) dX10_knot_28 kX1_length lX10_254 vX1_length (cn_X1_length E zh wzh) rfl rfl (wlt wzh (by decide)) rfl rfl (Nat.le_of_ble_eq_true rfl) ⟨Nat.le_of_ble_eq_true rfl, Nat.le_of_ble_eq_true rfl⟩ ⟨Nat.le_of_ble_eq_true rfl, Nat.le_of_ble_eq_true rfl⟩ ?_
      refine ev_goto (pc := 31) (tgt := 36) dX10_knot_31 (by decide) ?_
      refine ev_iret (pc := 36) dX10_knot_36 rfl ?_ ?_
      · rfl
      · rw [if_pos (bI_n0.mp zc8), if_pos (bI_n0.mp zc8)]
        have z24 : ¬ zq = 24 := by have z1 := bI_n0.mp zc21; omega
        rw [if_pos (bI_n0.mp zc21)] at ezh
        rw [if_neg z24, if_neg z24, ezh]
        exact ⟨rfl, rfl⟩
  · -- ne at 8: not taken
    refine ev_iconst (pc := 11) (v := (-1)) dX10_knot_11 (by decide) ?_
    refine ev_iret (pc := 12) dX10_knot_12 rfl ?_ ?_
    · rfl
    · rw [if_neg (bI_0.mp zc8), if_neg (bI_0.mp zc8)]
      exact ⟨rfl, rfl⟩
theorem cn_X10_slips (E : ME) (h : AH) (zk zv : Int32) (zq : Nat) (hw : WF h) (hq : h.2.1 34 1 = nI (zq + 1)) (hq2 : zq + 1 ≤ 24) : Con E mX10_slips 1 0 0 [.ref 0, .int zk, .int zv] h (fun r h' => r = some (.int (if (1 ≤ zk ∧ zk ≤ 99) ∧ (0 ≤ zv ∧ zv ≤ 2) then (if zq < 1 then -1000002 else if zv = 0 then slF (h.2.1 35) zk zq else if zv = 1 then fsD (h.2.1 35) zk 0 zq else h.2.1 35 zq - h.2.1 35 0 - zk * nI zq) else -1000000)) ∧ h' = h) := by
  refine con_of2 (L := [some (.ref 0), some (.int zk), some (.int zv)]) rfl (Nat.le_of_ble_eq_true rfl) rfl ?_
  refine ev_iload_n (pc := 0) dX10_slips_0 rfl ?_
  refine ev_iconst (pc := 1) (v := 1) dX10_slips_1 (by decide) ?_
  refine ev_bipush (pc := 2) (v := 99) dX10_slips_2 (by decide) ?_
  refine ev_callSv (S := []) (pc := 4) dX10_slips_4 kX10_within lX10_123 sX10_within (cn_X10_within E h zk 1 99) rfl rfl (Nat.le_of_ble_eq_true rfl) ⟨Nat.le_of_ble_eq_true rfl, Nat.le_of_ble_eq_true rfl⟩ ⟨Nat.le_of_ble_eq_true rfl, Nat.le_of_ble_eq_true rfl⟩ ?_
  refine ev_if_eq (pc := 7) (tgt := 19) dX10_slips_7 (by decide) (fun zc7 => ?_) (fun zc7 => ?_)
  · -- eq at 7: taken
    refine ev_ldcw (pc := 19) (v := (-1000000)) dX10_slips_19 kcX10_258 ?_
    refine ev_iret (pc := 22) dX10_slips_22 rfl ?_ ?_
    · rfl
    · refine ⟨?_, rfl⟩
      simp only [bI_0, bI_n0, Classical.not_not] at *
      rw [if_neg (fun q => by first | exact zc7 q.1 | exact zc16 q.2)]
  · -- eq at 7: not taken
    refine ev_iload_n (pc := 10) dX10_slips_10 rfl ?_
    refine ev_iconst (pc := 11) (v := 0) dX10_slips_11 (by decide) ?_
    refine ev_iconst (pc := 12) (v := 2) dX10_slips_12 (by decide) ?_
    refine ev_callSv (S := []) (pc := 13) dX10_slips_13 kX10_within lX10_123 sX10_within (cn_X10_within E h zv 0 2) rfl rfl (Nat.le_of_ble_eq_true rfl) ⟨Nat.le_of_ble_eq_true rfl, Nat.le_of_ble_eq_true rfl⟩ ⟨Nat.le_of_ble_eq_true rfl, Nat.le_of_ble_eq_true rfl⟩ ?_
    refine ev_if_ne (pc := 16) (tgt := 23) dX10_slips_16 (by decide) (fun zc16 => ?_) (fun zc16 => ?_)
    · -- ne at 16: taken
      refine ev_aload_n (pc := 23) dX10_slips_23 rfl ?_
      refine ev_getR (pc := 24) (q := 34) dX10_slips_24 fX10_66 rfl (wlt hw (by decide)) (wr hw rfl) ?_
      refine ev_callVv (S := []) (pc := 27) dX10_slips_27 kX1_length lX10_254 vX1_length (cn_X1_length E h hw) rfl rfl (wlt hw (by decide)) rfl rfl (Nat.le_of_ble_eq_true rfl) ⟨Nat.le_of_ble_eq_true rfl, Nat.le_of_ble_eq_true rfl⟩ ⟨Nat.le_of_ble_eq_true rfl, Nat.le_of_ble_eq_true rfl⟩ ?_
      refine ev_eqI (e' := nI (zq + 1)) hq ?_
      refine ev_iconst (pc := 30) (v := 2) dX10_slips_30 (by decide) ?_
      refine ev_icmp_ge (pc := 31) (tgt := 38) dX10_slips_31 (by decide) (fun zc31 => ?_) (fun zc31 => ?_)
      · -- ge at 31: taken
        refine ev_iload_n (pc := 38) dX10_slips_38 rfl ?_
        refine ev_nmI (fun zsv ezsv => ?_)
        by_cases zq0 : zsv = 0
        · subst zq0
          refine ev_look (pc := 39) (tgt := 64) dX10_slips_39 (by decide +kernel) rfl (by decide) ?_
          refine ev_aload_n (pc := 64) dX10_slips_64 rfl ?_
          refine ev_getR (pc := 65) (q := 34) dX10_slips_65 fX10_66 rfl (wlt hw (by decide)) (wr hw rfl) ?_
          refine ev_iload_n (pc := 68) dX10_slips_68 rfl ?_
          refine ev_callVv (S := []) (pc := 69) dX10_slips_69 kX1_slipsBy lX10_260 vX1_slipsBy (cn_X1_slipsBy E h zk zq hw hq hq2) rfl rfl (wlt hw (by decide)) rfl rfl (Nat.le_of_ble_eq_true rfl) ⟨Nat.le_of_ble_eq_true rfl, Nat.le_of_ble_eq_true rfl⟩ ⟨Nat.le_of_ble_eq_true rfl, Nat.le_of_ble_eq_true rfl⟩ ?_
          refine ev_iret (pc := 72) dX10_slips_72 rfl ?_ ?_
          · rfl
          · refine ⟨?_, rfl⟩
            rw [if_pos ⟨bI_n0.mp zc7, bI_n0.mp zc16⟩]
            rw [if_neg (by have z1 := (nI_leI (a := 2) (b := zq + 1) (by decide) (by omega)).mp zc31; omega)]
            subst ezsv
            rfl
        by_cases zq1 : zsv = 1
        · subst zq1
          refine ev_look (pc := 39) (tgt := 73) dX10_slips_39 (by decide +kernel) rfl (by decide) ?_
          refine ev_aload_n (pc := 73) dX10_slips_73 rfl ?_
          refine ev_getR (pc := 74) (q := 34) dX10_slips_74 fX10_66 rfl (wlt hw (by decide)) (wr hw rfl) ?_
          refine ev_iload_n (pc := 77) dX10_slips_77 rfl ?_
          refine ev_callVv (S := []) (pc := 78) dX10_slips_78 kX1_firstSlipBy lX10_263 vX1_firstSlipBy (cn_X1_firstSlipBy E h zk zq hw hq hq2) rfl rfl (wlt hw (by decide)) rfl rfl (Nat.le_of_ble_eq_true rfl) ⟨Nat.le_of_ble_eq_true rfl, Nat.le_of_ble_eq_true rfl⟩ ⟨Nat.le_of_ble_eq_true rfl, Nat.le_of_ble_eq_true rfl⟩ ?_
          refine ev_iret (pc := 81) dX10_slips_81 rfl ?_ ?_
          · rfl
          · refine ⟨?_, rfl⟩
            rw [if_pos ⟨bI_n0.mp zc7, bI_n0.mp zc16⟩]
            rw [if_neg (by have z1 := (nI_leI (a := 2) (b := zq + 1) (by decide) (by omega)).mp zc31; omega)]
            subst ezsv
            rfl
        refine ev_look (pc := 39) (tgt := 82) dX10_slips_39 (by decide +kernel) (off := 43) ?_ (by decide) ?_
        · simp [Op.lookupswitch.offset, show ¬ (0 : Int) = zsv.toInt from fun z => i32_ne zq0 z.symm, show ¬ (1 : Int) = zsv.toInt from fun z => i32_ne zq1 z.symm]
        refine ev_aload_n (pc := 82) dX10_slips_82 rfl ?_
        refine ev_getR (pc := 83) (q := 34) dX10_slips_83 fX10_66 rfl (wlt hw (by decide)) (wr hw rfl) ?_
        refine ev_iload_n (pc := 86) dX10_slips_86 rfl ?_
        refine ev_callVv (S := []) (pc := 87) dX10_slips_87 kX1_driftBy lX10_266 vX1_driftBy (cn_X1_driftBy E h zk zq hw hq hq2) rfl rfl (wlt hw (by decide)) rfl rfl (Nat.le_of_ble_eq_true rfl) ⟨Nat.le_of_ble_eq_true rfl, Nat.le_of_ble_eq_true rfl⟩ ⟨Nat.le_of_ble_eq_true rfl, Nat.le_of_ble_eq_true rfl⟩ ?_
        refine ev_iret (pc := 90) dX10_slips_90 rfl ?_ ?_
        · rfl
        · refine ⟨?_, rfl⟩
          rw [if_pos ⟨bI_n0.mp zc7, bI_n0.mp zc16⟩]
          rw [if_neg (by have z1 := (nI_leI (a := 2) (b := zq + 1) (by decide) (by omega)).mp zc31; omega)]
          subst ezsv
          rw [if_neg zq0, if_neg zq1]
      · -- ge at 31: not taken
        refine ev_ldcw (pc := 34) (v := (-1000002)) dX10_slips_34 kcX10_259 ?_
        refine ev_iret (pc := 37) dX10_slips_37 rfl ?_ ?_
        · rfl
        · refine ⟨?_, rfl⟩
          rw [if_pos ⟨bI_n0.mp zc7, bI_n0.mp zc16⟩]
          rw [if_pos (Nat.not_le.mp (fun z => zc31 (nI_le (a := 2) (b := zq + 1) (by omega) (by omega))))]
    · -- ne at 16: not taken
      refine ev_ldcw (pc := 19) (v := (-1000000)) dX10_slips_19 kcX10_258 ?_
      refine ev_iret (pc := 22) dX10_slips_22 rfl ?_ ?_
      · rfl
      · refine ⟨?_, rfl⟩
        simp only [bI_0, bI_n0, Classical.not_not] at *
        rw [if_neg (fun q => by first | exact zc7 q.1 | exact zc16 q.2)]
theorem cn_X10_slips0 (E : ME) (h : AH) (zk zv : Int32) (hw : WF h) (hq : h.2.1 34 1 = 0) : Con E mX10_slips 1 0 0 [.ref 0, .int zk, .int zv] h (fun r h' => r = some (.int (if (1 ≤ zk ∧ zk ≤ 99) ∧ (0 ≤ zv ∧ zv ≤ 2) then -1000002 else -1000000)) ∧ h' = h) := by
  refine con_of2 (L := [some (.ref 0), some (.int zk), some (.int zv)]) rfl (Nat.le_of_ble_eq_true rfl) rfl ?_
  refine ev_iload_n (pc := 0) dX10_slips_0 rfl ?_
  refine ev_iconst (pc := 1) (v := 1) dX10_slips_1 (by decide) ?_
  refine ev_bipush (pc := 2) (v := 99) dX10_slips_2 (by decide) ?_
  refine ev_callSv (S := []) (pc := 4) dX10_slips_4 kX10_within lX10_123 sX10_within (cn_X10_within E h zk 1 99) rfl rfl (Nat.le_of_ble_eq_true rfl) ⟨Nat.le_of_ble_eq_true rfl, Nat.le_of_ble_eq_true rfl⟩ ⟨Nat.le_of_ble_eq_true rfl, Nat.le_of_ble_eq_true rfl⟩ ?_
  refine ev_if_eq (pc := 7) (tgt := 19) dX10_slips_7 (by decide) (fun zc7 => ?_) (fun zc7 => ?_)
  · -- eq at 7: taken
    refine ev_ldcw (pc := 19) (v := (-1000000)) dX10_slips_19 kcX10_258 ?_
    refine ev_iret (pc := 22) dX10_slips_22 rfl ?_ ?_
    · rfl
    · refine ⟨?_, rfl⟩
      simp only [bI_0, bI_n0, Classical.not_not] at *
      have hC : ¬ ((1 ≤ zk ∧ zk ≤ 99) ∧ (0 ≤ zv ∧ zv ≤ 2)) := fun q => by first | exact zc7 q.1 | exact zc16 q.2
      rw [if_neg hC]
  · -- eq at 7: not taken
    refine ev_iload_n (pc := 10) dX10_slips_10 rfl ?_
    refine ev_iconst (pc := 11) (v := 0) dX10_slips_11 (by decide) ?_
    refine ev_iconst (pc := 12) (v := 2) dX10_slips_12 (by decide) ?_
    refine ev_callSv (S := []) (pc := 13) dX10_slips_13 kX10_within lX10_123 sX10_within (cn_X10_within E h zv 0 2) rfl rfl (Nat.le_of_ble_eq_true rfl) ⟨Nat.le_of_ble_eq_true rfl, Nat.le_of_ble_eq_true rfl⟩ ⟨Nat.le_of_ble_eq_true rfl, Nat.le_of_ble_eq_true rfl⟩ ?_
    refine ev_if_ne (pc := 16) (tgt := 23) dX10_slips_16 (by decide) (fun zc16 => ?_) (fun zc16 => ?_)
    · -- ne at 16: taken
      refine ev_aload_n (pc := 23) dX10_slips_23 rfl ?_
      refine ev_getR (pc := 24) (q := 34) dX10_slips_24 fX10_66 rfl (wlt hw (by decide)) (wr hw rfl) ?_
      refine ev_callVv (S := []) (pc := 27) dX10_slips_27 kX1_length lX10_254 vX1_length (cn_X1_length E h hw) rfl rfl (wlt hw (by decide)) rfl rfl (Nat.le_of_ble_eq_true rfl) ⟨Nat.le_of_ble_eq_true rfl, Nat.le_of_ble_eq_true rfl⟩ ⟨Nat.le_of_ble_eq_true rfl, Nat.le_of_ble_eq_true rfl⟩ ?_
      refine ev_iconst (pc := 30) (v := 2) dX10_slips_30 (by decide) ?_
      refine ev_icmp_ge (pc := 31) (tgt := 38) dX10_slips_31 (by decide) (fun zc31 => absurd zc31 (by rw [hq]; decide)) (fun zc31 => ?_)
      refine ev_ldcw (pc := 34) (v := (-1000002)) dX10_slips_34 kcX10_259 ?_
      refine ev_iret (pc := 37) dX10_slips_37 rfl ?_ ?_
      · rfl
      · refine ⟨?_, rfl⟩
        simp only [bI_0, bI_n0, Classical.not_not] at *
        have hC : (1 ≤ zk ∧ zk ≤ 99) ∧ (0 ≤ zv ∧ zv ≤ 2) := ⟨zc7, zc16⟩
        rw [if_pos hC]
        skip
    · -- ne at 16: not taken
      refine ev_ldcw (pc := 19) (v := (-1000000)) dX10_slips_19 kcX10_258 ?_
      refine ev_iret (pc := 22) dX10_slips_22 rfl ?_ ?_
      · rfl
      · refine ⟨?_, rfl⟩
        simp only [bI_0, bI_n0, Classical.not_not] at *
        have hC : ¬ ((1 ≤ zk ∧ zk ≤ 99) ∧ (0 ≤ zv ∧ zv ≤ 2)) := fun q => by first | exact zc7 q.1 | exact zc16 q.2
        rw [if_neg hC]
theorem cn_X10_knots (E : ME) (h : AH) (zq : Nat) (hw : WF h) (hq : h.2.1 34 1 = nI (zq + 1)) (hq2 : zq + 1 ≤ 24) : Con E mX10_knots 2 0 0 [.ref 0] h (fun r h' => r = some (.int (if zq < 1 then -2 else bkF (fun z => slF (h.2.1 35) z zq) 98)) ∧ h' = h) := by
  refine con_of2 (L := [some (.ref 0)]) rfl (Nat.le_of_ble_eq_true rfl) rfl ?_
  refine ev_aload_n (pc := 0) dX10_knots_0 rfl ?_
  refine ev_getR (pc := 1) (q := 34) dX10_knots_1 fX10_66 rfl (wlt hw (by decide)) (wr hw rfl) ?_
  refine ev_callVv (S := []) (pc := 4) dX10_knots_4 kX1_length lX10_254 vX1_length (cn_X1_length E h hw) rfl rfl (wlt hw (by decide)) rfl rfl (Nat.le_of_ble_eq_true rfl) ⟨Nat.le_of_ble_eq_true rfl, Nat.le_of_ble_eq_true rfl⟩ ⟨Nat.le_of_ble_eq_true rfl, Nat.le_of_ble_eq_true rfl⟩ ?_
  refine ev_eqI (e' := nI (zq + 1)) hq ?_
  refine ev_iconst (pc := 7) (v := 2) dX10_knots_7 (by decide) ?_
  refine ev_icmp_ge (pc := 8) (tgt := 16) dX10_knots_8 (by decide) (fun zc8 => ?_) (fun zc8 => ?_)
  · -- ge at 8: taken
    refine ev_aload_n (pc := 16) dX10_knots_16 rfl ?_
    refine ev_getR (pc := 17) (q := 34) dX10_knots_17 fX10_66 rfl (wlt hw (by decide)) (wr hw rfl) ?_
    refine ev_callVv (S := []) (pc := 20) dX10_knots_20 kX1_bestLength lX10_269 vX1_bestLength (cn_X1_bestLength E h zq hw hq hq2) rfl rfl (wlt hw (by decide)) rfl rfl (Nat.le_of_ble_eq_true rfl) ⟨Nat.le_of_ble_eq_true rfl, Nat.le_of_ble_eq_true rfl⟩ ⟨Nat.le_of_ble_eq_true rfl, Nat.le_of_ble_eq_true rfl⟩ ?_
    refine ev_iret (pc := 23) dX10_knots_23 rfl ?_ ?_
    · rfl
    · refine ⟨?_, rfl⟩
      rw [if_neg (by have z1 := (nI_leI (a := 2) (b := zq + 1) (by decide) (by omega)).mp zc8; omega)]
  · -- ge at 8: not taken
    refine ev_bipush (pc := 11) (v := (-2)) dX10_knots_11 (by decide) ?_
    refine ev_goto (pc := 13) (tgt := 23) dX10_knots_13 (by decide) ?_
    refine ev_iret (pc := 23) dX10_knots_23 rfl ?_ ?_
    · rfl
    · refine ⟨?_, rfl⟩
      rw [if_pos (Nat.not_le.mp (fun z => zc8 (nI_le (a := 2) (b := zq + 1) (by omega) (by omega))))]
theorem cn_X10_knots0 (E : ME) (h : AH)  (hw : WF h) (hq : h.2.1 34 1 = 0) : Con E mX10_knots 2 0 0 [.ref 0] h (fun r h' => r = some (.int ((-2))) ∧ h' = h) := by
  refine con_of2 (L := [some (.ref 0)]) rfl (Nat.le_of_ble_eq_true rfl) rfl ?_
  refine ev_aload_n (pc := 0) dX10_knots_0 rfl ?_
  refine ev_getR (pc := 1) (q := 34) dX10_knots_1 fX10_66 rfl (wlt hw (by decide)) (wr hw rfl) ?_
  refine ev_callVv (S := []) (pc := 4) dX10_knots_4 kX1_length lX10_254 vX1_length (cn_X1_length E h hw) rfl rfl (wlt hw (by decide)) rfl rfl (Nat.le_of_ble_eq_true rfl) ⟨Nat.le_of_ble_eq_true rfl, Nat.le_of_ble_eq_true rfl⟩ ⟨Nat.le_of_ble_eq_true rfl, Nat.le_of_ble_eq_true rfl⟩ ?_
  refine ev_iconst (pc := 7) (v := 2) dX10_knots_7 (by decide) ?_
  refine ev_icmp_ge (pc := 8) (tgt := 16) dX10_knots_8 (by decide) (fun zc8 => absurd zc8 (by rw [hq]; decide)) (fun zc8 => ?_)
  refine ev_bipush (pc := 11) (v := (-2)) dX10_knots_11 (by decide) ?_
  refine ev_goto (pc := 13) (tgt := 23) dX10_knots_13 (by decide) ?_
  refine ev_iret (pc := 23) dX10_knots_23 rfl ?_ ?_
  · rfl
  · exact ⟨rfl, rfl⟩
