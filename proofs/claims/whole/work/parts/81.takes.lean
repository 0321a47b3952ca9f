theorem cn_X4_bestSum (E : ME) (h : AH)  (hw : WF h) : Con E mX4_bestSum 0 0 0 [.ref 36] h (fun r h' => r = some (.int (h.2.1 36 3)) ∧ h' = h) := by
  refine con_of2 (L := [some (.ref 36)]) rfl (Nat.le_of_ble_eq_true rfl) rfl ?_
  refine ev_aload_n (pc := 0) dX4_bestSum_0 rfl ?_
  refine ev_getI (pc := 1) dX4_bestSum_1 fX4_33 rfl (wlt hw (by decide)) ?_
  refine ev_iret (pc := 4) dX4_bestSum_4 rfl ?_ ?_
  · rfl
  · exact ⟨rfl, rfl⟩
theorem cn_X4_bestPlaces (E : ME) (h : AH)  (hw : WF h) : Con E mX4_bestPlaces 0 0 0 [.ref 36] h (fun r h' => r = some (.int (h.2.1 36 4)) ∧ h' = h) := by
  refine con_of2 (L := [some (.ref 36)]) rfl (Nat.le_of_ble_eq_true rfl) rfl ?_
  refine ev_aload_n (pc := 0) dX4_bestPlaces_0 rfl ?_
  refine ev_getI (pc := 1) dX4_bestPlaces_1 fX4_36 rfl (wlt hw (by decide)) ?_
  refine ev_iret (pc := 4) dX4_bestPlaces_4 rfl ?_ ?_
  · rfl
  · exact ⟨rfl, rfl⟩
theorem cn_X4_bestTurns (E : ME) (h : AH)  (hw : WF h) : Con E mX4_bestTurns 0 0 0 [.ref 36] h (fun r h' => r = some (.int (h.2.1 36 5)) ∧ h' = h) := by
  refine con_of2 (L := [some (.ref 36)]) rfl (Nat.le_of_ble_eq_true rfl) rfl ?_
  refine ev_aload_n (pc := 0) dX4_bestTurns_0 rfl ?_
  refine ev_getI (pc := 1) dX4_bestTurns_1 fX4_39 rfl (wlt hw (by decide)) ?_
  refine ev_iret (pc := 4) dX4_bestTurns_4 rfl ?_ ?_
  · rfl
  · exact ⟨rfl, rfl⟩
theorem cn_X4_bestWays (E : ME) (h : AH)  (hw : WF h) : Con E mX4_bestWays 0 0 0 [.ref 36] h (fun r h' => r = some (.int (h.2.1 36 6)) ∧ h' = h) := by
  refine con_of2 (L := [some (.ref 36)]) rfl (Nat.le_of_ble_eq_true rfl) rfl ?_
  refine ev_aload_n (pc := 0) dX4_bestWays_0 rfl ?_
  refine ev_getI (pc := 1) dX4_bestWays_1 fX4_42 rfl (wlt hw (by decide)) ?_
  refine ev_iret (pc := 4) dX4_bestWays_4 rfl ?_ ?_
  · rfl
  · exact ⟨rfl, rfl⟩
theorem cn_X8_apartIsTold_3 (E : ME) (h : AH) (zP : Prop) [Decidable zP] (hw : WF h) (ha : h.2.1 3 10 = bI zP) : Con E mX8_apartIsTold 0 0 0 [.ref 3] h (fun r h' => r = some (.int (bI zP)) ∧ h' = h) := by
  refine con_of2 (L := [some (.ref 3)]) rfl (Nat.le_of_ble_eq_true rfl) rfl ?_
  refine ev_aload_n (pc := 0) dX8_apartIsTold_0 rfl ?_
  refine ev_getI (pc := 1) dX8_apartIsTold_1 fX8_52 rfl (wlt hw (by decide)) ?_
  refine ev_eqI (e' := bI zP) ha ?_
  refine ev_iret (pc := 4) dX8_apartIsTold_4 rfl ?_ ?_
  · first | rfl | exact nar_bI _ | (simp only [*]; exact nar_bI _) | (simp [narrow, *]; done)
  · exact ⟨rfl, rfl⟩
theorem cn_X8_quarryIsTold_3 (E : ME) (h : AH) (za : Int32) (hw : WF h) : Con E mX8_quarryIsTold 1 0 0 [.ref 3, .int za] h (fun r h' => r = some (.int (bI (¬ (h.2.1 3 11 >>> (za &&& 31)) &&& 1 = 0))) ∧ h' = h) := by
  refine con_of2 (L := [some (.ref 3), some (.int za)]) rfl (Nat.le_of_ble_eq_true rfl) rfl ?_
  refine ev_aload_n (pc := 0) dX8_quarryIsTold_0 rfl ?_
  refine ev_getI (pc := 1) dX8_quarryIsTold_1 fX8_56 rfl (wlt hw (by decide)) ?_
  refine ev_iload_n (pc := 4) dX8_quarryIsTold_4 rfl ?_
  refine ev_callSv (S := []) (pc := 5) dX8_quarryIsTold_5 kX10_has lX8_70 sX10_has (cn_X10_has E h (h.2.1 3 11) za) rfl rfl (Nat.le_of_ble_eq_true rfl) ⟨Nat.le_of_ble_eq_true rfl, Nat.le_of_ble_eq_true rfl⟩ ⟨Nat.le_of_ble_eq_true rfl, Nat.le_of_ble_eq_true rfl⟩ ?_
  refine ev_iret (pc := 8) dX8_quarryIsTold_8 rfl ?_ ?_
  · first | rfl | exact nar_bI _ | (simp only [*]; exact nar_bI _) | (simp [narrow, *]; done)
  · exact ⟨rfl, rfl⟩
theorem cn_X8_tellApart_3 (E : ME) (h : AH) (za : Int32) (hw : WF h) : Con E mX8_tellApart 0 0 0 [.ref 3, .int za] h (fun r h' => r = none ∧ h' = sI h 3 (upd (upd (h.2.1 3) 9 za) 10 1)) := by
  refine con_of2 (L := [some (.ref 3), some (.int za)]) rfl (Nat.le_of_ble_eq_true rfl) rfl ?_
  refine ev_aload_n (pc := 0) dX8_tellApart_0 rfl ?_
  refine ev_iload_n (pc := 1) dX8_tellApart_1 rfl ?_
  refine ev_putI (pc := 2) dX8_tellApart_2 fX8_49 rfl (wlt hw (by decide)) ?_
  refine ev_eqH (h' := sI h 3 (upd (h.2.1 3) 9 za)) (by rfl) ?_
  refine ev_aload_n (pc := 5) dX8_tellApart_5 rfl ?_
  refine ev_iconst (pc := 6) (v := 1) dX8_tellApart_6 (by decide) ?_
  refine ev_putZ (pc := 7) dX8_tellApart_7 fX8_52 rfl (wlt (wf_sI hw) (by decide)) (by decide) ?_
  refine ev_eqH (h' := sI h 3 (upd (upd (h.2.1 3) 9 za) 10 1)) (by exact sI_sI _ _ _ _) ?_
  refine ev_ret (pc := 10) dX8_tellApart_10 rfl ?_
  · exact ⟨rfl, rfl⟩
theorem cn_X8_addRow_3 (E : ME) (h : AH) (za zb : Int32) (zn : Nat) (hw : WF h) (hn : h.2.1 3 7 = nI zn) (hn2 : zn < 12) : Con E mX8_addRow 0 0 0 [.ref 3, .int za, .int zb] h (fun r h' => r = none ∧ h' = sI (sI (sI h 4 (upd (h.2.1 4) zn za)) 5 (upd (h.2.1 5) zn zb)) 3 (upd (h.2.1 3) 7 (nI (zn + 1)))) := by
  refine con_of2 (L := [some (.ref 3), some (.int za), some (.int zb)]) rfl (Nat.le_of_ble_eq_true rfl) rfl ?_
  refine ev_aload_n (pc := 0) dX8_addRow_0 rfl ?_
  refine ev_getI (pc := 1) dX8_addRow_1 fX8_42 rfl (wlt hw (by decide)) ?_
  refine ev_eqI (e' := nI zn) hn ?_
  refine ev_bipush (pc := 4) (v := 12) dX8_addRow_4 (by decide) ?_
  refine ev_icmp_ge (pc := 6) (tgt := 39) dX8_addRow_6 (by decide) (fun zc6 => absurd zc6 (nI_ge (b := 12) hn2 (by decide))) (fun zc6 => ?_)
  refine ev_aload_n (pc := 9) dX8_addRow_9 rfl ?_
  refine ev_getR (pc := 10) (q := 4) dX8_addRow_10 fX8_9 rfl (wlt hw (by decide)) (wr hw rfl) ?_
  refine ev_aload_n (pc := 13) dX8_addRow_13 rfl ?_
  refine ev_getI (pc := 14) dX8_addRow_14 fX8_42 rfl (wlt hw (by decide)) ?_
  refine ev_eqI (e' := nI zn) hn ?_
  refine ev_iload_n (pc := 17) dX8_addRow_17 rfl ?_
  refine ev_iast (pc := 18) dX8_addRow_18 rfl (wlt hw (by decide)) (vp_in_nI (by omega) (by decide)) ?_
  refine ev_eqH (h' := sI h 4 (upd (h.2.1 4) zn za)) (by rw [show Int32.toNatClampNeg (nI zn) = zn from nI_clamp (by omega)] <;> rfl) ?_
  refine ev_aload_n (pc := 19) dX8_addRow_19 rfl ?_
  refine ev_getR (pc := 20) (q := 5) dX8_addRow_20 fX8_15 rfl (wlt (wf_sI hw) (by decide)) (wr (wf_sI hw) rfl) ?_
  refine ev_aload_n (pc := 23) dX8_addRow_23 rfl ?_
  refine ev_getI (pc := 24) dX8_addRow_24 fX8_42 rfl (wlt (wf_sI hw) (by decide)) ?_
  refine ev_eqI (e' := h.2.1 3 7) (by rfl) ?_
  refine ev_eqI (e' := nI zn) hn ?_
  refine ev_iload_n (pc := 27) dX8_addRow_27 rfl ?_
  refine ev_iast (pc := 28) dX8_addRow_28 rfl (wlt (wf_sI hw) (by decide)) (vp_in_nI (by omega) (by decide)) ?_
  refine ev_eqH (h' := sI (sI h 4 (upd (h.2.1 4) zn za)) 5 (upd (h.2.1 5) zn zb)) (by rw [show Int32.toNatClampNeg (nI zn) = zn from nI_clamp (by omega)] <;> rfl) ?_
  refine ev_aload_n (pc := 29) dX8_addRow_29 rfl ?_
  refine ev_dup (pc := 30) dX8_addRow_30 rfl ?_
  refine ev_getI (pc := 31) dX8_addRow_31 fX8_42 rfl (wlt (wf_sI (wf_sI hw)) (by decide)) ?_
  refine ev_eqI (e' := h.2.1 3 7) (by rfl) ?_
  refine ev_eqI (e' := nI zn) hn ?_
  refine ev_iconst (pc := 34) (v := 1) dX8_addRow_34 (by decide) ?_
  refine ev_iadd (pc := 35) dX8_addRow_35 ?_
  refine ev_eqI (e' := nI (zn + 1)) (nI_add zn 1) ?_
  refine ev_putI (pc := 36) dX8_addRow_36 fX8_42 rfl (wlt (wf_sI (wf_sI hw)) (by decide)) ?_
  refine ev_eqH (h' := sI (sI (sI h 4 (upd (h.2.1 4) zn za)) 5 (upd (h.2.1 5) zn zb)) 3 (upd (h.2.1 3) 7 (nI (zn + 1)))) (by rfl) ?_
  refine ev_ret (pc := 39) dX8_addRow_39 rfl ?_
  · exact ⟨rfl, rfl⟩
theorem cn_X8_addPatch_3 (E : ME) (h : AH) (za : Int32) (zn : Nat) (hw : WF h) (hn : h.2.1 3 7 = nI zn) (hn2 : zn < 12) : Con E mX8_addPatch 0 0 0 [.ref 3, .int za] h (fun r h' => r = none ∧ h' = sI (sI h 6 (upd (h.2.1 6) zn za)) 3 (upd (h.2.1 3) 7 (nI (zn + 1)))) := by
  refine con_of2 (L := [some (.ref 3), some (.int za)]) rfl (Nat.le_of_ble_eq_true rfl) rfl ?_
  refine ev_aload_n (pc := 0) dX8_addPatch_0 rfl ?_
  refine ev_getI (pc := 1) dX8_addPatch_1 fX8_42 rfl (wlt hw (by decide)) ?_
  refine ev_eqI (e' := nI zn) hn ?_
  refine ev_bipush (pc := 4) (v := 12) dX8_addPatch_4 (by decide) ?_
  refine ev_icmp_ge (pc := 6) (tgt := 29) dX8_addPatch_6 (by decide) (fun zc6 => absurd zc6 (nI_ge (b := 12) hn2 (by decide))) (fun zc6 => ?_)
  refine ev_aload_n (pc := 9) dX8_addPatch_9 rfl ?_
  refine ev_getR (pc := 10) (q := 6) dX8_addPatch_10 fX8_18 rfl (wlt hw (by decide)) (wr hw rfl) ?_
  refine ev_aload_n (pc := 13) dX8_addPatch_13 rfl ?_
  refine ev_getI (pc := 14) dX8_addPatch_14 fX8_42 rfl (wlt hw (by decide)) ?_
  refine ev_eqI (e' := nI zn) hn ?_
  refine ev_iload_n (pc := 17) dX8_addPatch_17 rfl ?_
  refine ev_iast (pc := 18) dX8_addPatch_18 rfl (wlt hw (by decide)) (vp_in_nI (by omega) (by decide)) ?_
  refine ev_eqH (h' := sI h 6 (upd (h.2.1 6) zn za)) (by rw [show Int32.toNatClampNeg (nI zn) = zn from nI_clamp (by omega)] <;> rfl) ?_
  refine ev_aload_n (pc := 19) dX8_addPatch_19 rfl ?_
  refine ev_dup (pc := 20) dX8_addPatch_20 rfl ?_
  refine ev_getI (pc := 21) dX8_addPatch_21 fX8_42 rfl (wlt (wf_sI hw) (by decide)) ?_
  refine ev_eqI (e' := h.2.1 3 7) (by rfl) ?_
  refine ev_eqI (e' := nI zn) hn ?_
  refine ev_iconst (pc := 24) (v := 1) dX8_addPatch_24 (by decide) ?_
  refine ev_iadd (pc := 25) dX8_addPatch_25 ?_
  refine ev_eqI (e' := nI (zn + 1)) (nI_add zn 1) ?_
  refine ev_putI (pc := 26) dX8_addPatch_26 fX8_42 rfl (wlt (wf_sI hw) (by decide)) ?_
  refine ev_eqH (h' := sI (sI h 6 (upd (h.2.1 6) zn za)) 3 (upd (h.2.1 3) 7 (nI (zn + 1)))) (by rfl) ?_
  refine ev_ret (pc := 29) dX8_addPatch_29 rfl ?_
  · exact ⟨rfl, rfl⟩
theorem cn_X8_addPattern_3 (E : ME) (h : AH) (zn : Nat) (hw : WF h) (hn : h.2.1 3 8 = nI zn) (hn2 : zn < 4) : Con E mX8_addPattern 0 0 0 [.ref 3] h (fun r h' => r = none ∧ h' = sI h 3 (upd (h.2.1 3) 8 (nI (zn + 1)))) := by
  refine con_of2 (L := [some (.ref 3)]) rfl (Nat.le_of_ble_eq_true rfl) rfl ?_
  refine ev_aload_n (pc := 0) dX8_addPattern_0 rfl ?_
  refine ev_getI (pc := 1) dX8_addPattern_1 fX8_46 rfl (wlt hw (by decide)) ?_
  refine ev_eqI (e' := nI zn) hn ?_
  refine ev_iconst (pc := 4) (v := 4) dX8_addPattern_4 (by decide) ?_
  refine ev_icmp_ge (pc := 5) (tgt := 18) dX8_addPattern_5 (by decide) (fun zc5 => absurd zc5 (nI_ge (b := 4) hn2 (by decide))) (fun zc5 => ?_)
  refine ev_aload_n (pc := 8) dX8_addPattern_8 rfl ?_
  refine ev_dup (pc := 9) dX8_addPattern_9 rfl ?_
  refine ev_getI (pc := 10) dX8_addPattern_10 fX8_46 rfl (wlt hw (by decide)) ?_
  refine ev_eqI (e' := nI zn) hn ?_
  refine ev_iconst (pc := 13) (v := 1) dX8_addPattern_13 (by decide) ?_
  refine ev_iadd (pc := 14) dX8_addPattern_14 ?_
  refine ev_eqI (e' := nI (zn + 1)) (nI_add zn 1) ?_
  refine ev_putI (pc := 15) dX8_addPattern_15 fX8_46 rfl (wlt hw (by decide)) ?_
  refine ev_eqH (h' := sI h 3 (upd (h.2.1 3) 8 (nI (zn + 1)))) (by rfl) ?_
  refine ev_ret (pc := 18) dX8_addPattern_18 rfl ?_
  · exact ⟨rfl, rfl⟩
theorem cn_X8_tellPatternCell_3 (E : ME) (h : AH) (zi zn : Nat) (za : Int32) (hw : WF h) (hn : h.2.1 3 8 = nI zn) (hn2 : zn < 4) (hi : zi < 16) : Con E mX8_tellPatternCell 1 0 0 [.ref 3, .int (nI zi), .int za] h (fun r h' => r = none ∧ h' = sI h 10 (upd (h.2.1 10) (zn * 16 + zi) za)) := by
  refine con_of2 (L := [some (.ref 3), some (.int (nI zi)), some (.int za)]) rfl (Nat.le_of_ble_eq_true rfl) rfl ?_
  refine ev_aload_n (pc := 0) dX8_tellPatternCell_0 rfl ?_
  refine ev_getI (pc := 1) dX8_tellPatternCell_1 fX8_46 rfl (wlt hw (by decide)) ?_
  refine ev_eqI (e' := nI zn) hn ?_
  refine ev_iconst (pc := 4) (v := 4) dX8_tellPatternCell_4 (by decide) ?_
  refine ev_icmp_ge (pc := 5) (tgt := 33) dX8_tellPatternCell_5 (by decide) (fun zc5 => absurd zc5 (nI_ge (b := 4) hn2 (by decide))) (fun zc5 => ?_)
  refine ev_iload_n (pc := 8) dX8_tellPatternCell_8 rfl ?_
  refine ev_iconst (pc := 9) (v := 0) dX8_tellPatternCell_9 (by decide) ?_
  refine ev_bipush (pc := 10) (v := 15) dX8_tellPatternCell_10 (by decide) ?_
  refine ev_callSv (S := []) (pc := 12) dX8_tellPatternCell_12 kX10_within lX8_59 sX10_within (cn_X10_within E h (nI zi) 0 15) rfl rfl (Nat.le_of_ble_eq_true rfl) ⟨Nat.le_of_ble_eq_true rfl, Nat.le_of_ble_eq_true rfl⟩ ⟨Nat.le_of_ble_eq_true rfl, Nat.le_of_ble_eq_true rfl⟩ ?_
  refine ev_if_eq (pc := 15) (tgt := 33) dX8_tellPatternCell_15 (by decide) (fun zc15 => absurd zc15 (bI_n0.mpr ⟨nI_pos' (by omega), nI_le (b := 15) (by omega) (by decide)⟩)) (fun zc15 => ?_)
  refine ev_aload_n (pc := 18) dX8_tellPatternCell_18 rfl ?_
  refine ev_getR (pc := 19) (q := 10) dX8_tellPatternCell_19 fX8_30 rfl (wlt hw (by decide)) (wr hw rfl) ?_
  refine ev_aload_n (pc := 22) dX8_tellPatternCell_22 rfl ?_
  refine ev_getI (pc := 23) dX8_tellPatternCell_23 fX8_46 rfl (wlt hw (by decide)) ?_
  refine ev_eqI (e' := nI zn) hn ?_
  refine ev_bipush (pc := 26) (v := 16) dX8_tellPatternCell_26 (by decide) ?_
  refine ev_imul (pc := 28) dX8_tellPatternCell_28 ?_
  refine ev_eqI (e' := nI (zn * 16)) (pk_mul zn 16) ?_
  refine ev_iload_n (pc := 29) dX8_tellPatternCell_29 rfl ?_
  refine ev_iadd (pc := 30) dX8_tellPatternCell_30 ?_
  refine ev_eqI (e' := nI ((zn * 16) + zi)) (nI_add (zn * 16) zi) ?_
  refine ev_iload_n (pc := 31) dX8_tellPatternCell_31 rfl ?_
  refine ev_iast (pc := 32) dX8_tellPatternCell_32 rfl (wlt hw (by decide)) (vp_in_nI (by omega) (by decide)) ?_
  refine ev_eqH (h' := sI h 10 (upd (h.2.1 10) ((zn * 16) + zi) za)) (by rw [show Int32.toNatClampNeg (nI ((zn * 16) + zi)) = (zn * 16) + zi from nI_clamp (by omega)] <;> rfl) ?_
  refine ev_ret (pc := 33) dX8_tellPatternCell_33 rfl ?_
  · exact ⟨rfl, rfl⟩
theorem cn_X8_tellQuarry_3 (E : ME) (h : AH) (za zb zc : Int32) (hw : WF h) : Con E mX8_tellQuarry 1 0 0 [.ref 3, .int za, .int zb, .int zc] h (fun r h' => r = none ∧ h' = if (0 ≤ za ∧ za ≤ 5) then sI (sI (sI h 8 (upd (h.2.1 8) za.toNatClampNeg zb)) 9 (upd (h.2.1 9) za.toNatClampNeg zc)) 3 (upd (h.2.1 3) 11 (h.2.1 3 11 ||| 1 <<< (za &&& 31))) else h) := by
  refine con_of2 (L := [some (.ref 3), some (.int za), some (.int zb), some (.int zc)]) rfl (Nat.le_of_ble_eq_true rfl) rfl ?_
  refine ev_iload_n (pc := 0) dX8_tellQuarry_0 rfl ?_
  refine ev_iconst (pc := 1) (v := 0) dX8_tellQuarry_1 (by decide) ?_
  refine ev_iconst (pc := 2) (v := 5) dX8_tellQuarry_2 (by decide) ?_
  refine ev_callSv (S := []) (pc := 3) dX8_tellQuarry_3 kX10_within lX8_59 sX10_within (cn_X10_within E h za 0 5) rfl rfl (Nat.le_of_ble_eq_true rfl) ⟨Nat.le_of_ble_eq_true rfl, Nat.le_of_ble_eq_true rfl⟩ ⟨Nat.le_of_ble_eq_true rfl, Nat.le_of_ble_eq_true rfl⟩ ?_
  refine ev_if_eq (pc := 6) (tgt := 35) dX8_tellQuarry_6 (by decide) (fun zc6 => ?_) (fun zc6 => ?_)
  · -- eq at 6: taken
    refine ev_ret (pc := 35) dX8_tellQuarry_35 rfl ?_
    · refine ⟨rfl, ?_⟩
      rw [if_neg (bI_0.mp zc6)]
  · -- eq at 6: not taken
    refine ev_aload_n (pc := 9) dX8_tellQuarry_9 rfl ?_
    refine ev_getR (pc := 10) (q := 8) dX8_tellQuarry_10 fX8_24 rfl (wlt hw (by decide)) (wr hw rfl) ?_
    refine ev_iload_n (pc := 13) dX8_tellQuarry_13 rfl ?_
    refine ev_iload_n (pc := 14) dX8_tellQuarry_14 rfl ?_
    refine ev_iast (pc := 15) dX8_tellQuarry_15 rfl (wlt hw (by decide)) (vp_sm (N := 6) (bI_n0.mp zc6).1 (bI_n0.mp zc6).2 (by decide) (by decide)) ?_
    refine ev_eqH (h' := sI h 8 (upd (h.2.1 8) (Int32.toNatClampNeg za) zb)) (by rfl) ?_
    refine ev_aload_n (pc := 16) dX8_tellQuarry_16 rfl ?_
    refine ev_getR (pc := 17) (q := 9) dX8_tellQuarry_17 fX8_27 rfl (wlt (wf_sI hw) (by decide)) (wr (wf_sI hw) rfl) ?_
    refine ev_iload_n (pc := 20) dX8_tellQuarry_20 rfl ?_
    refine ev_iload_n (pc := 21) dX8_tellQuarry_21 rfl ?_
    refine ev_iast (pc := 22) dX8_tellQuarry_22 rfl (wlt (wf_sI hw) (by decide)) (vp_sm (N := 6) (bI_n0.mp zc6).1 (bI_n0.mp zc6).2 (by decide) (by decide)) ?_
    refine ev_eqH (h' := sI (sI h 8 (upd (h.2.1 8) (Int32.toNatClampNeg za) zb)) 9 (upd (h.2.1 9) (Int32.toNatClampNeg za) zc)) (by rfl) ?_
    refine ev_aload_n (pc := 23) dX8_tellQuarry_23 rfl ?_
    refine ev_dup (pc := 24) dX8_tellQuarry_24 rfl ?_
    refine ev_getI (pc := 25) dX8_tellQuarry_25 fX8_56 rfl (wlt (wf_sI (wf_sI hw)) (by decide)) ?_
    refine ev_eqI (e' := h.2.1 3 11) (by rfl) ?_
    refine ev_iconst (pc := 28) (v := 1) dX8_tellQuarry_28 (by decide) ?_
    refine ev_iload_n (pc := 29) dX8_tellQuarry_29 rfl ?_
    refine ev_ishl (pc := 30) dX8_tellQuarry_30 ?_
    refine ev_ior (pc := 31) dX8_tellQuarry_31 ?_
    refine ev_putI (pc := 32) dX8_tellQuarry_32 fX8_56 rfl (wlt (wf_sI (wf_sI hw)) (by decide)) ?_
    refine ev_eqH (h' := sI (sI (sI h 8 (upd (h.2.1 8) (Int32.toNatClampNeg za) zb)) 9 (upd (h.2.1 9) (Int32.toNatClampNeg za) zc)) 3 (upd (h.2.1 3) 11 ((h.2.1 3 11) ||| (1 <<< (za &&& 31))))) (by rfl) ?_
    refine ev_ret (pc := 35) dX8_tellQuarry_35 rfl ?_
    · refine ⟨rfl, ?_⟩
      rw [if_pos (bI_n0.mp zc6)]
theorem cn_X8_addGives_3 (E : ME) (h : AH) (zt : PSt) (za zb : Int32) (hw : WF h) (hY : STz zt 3 h) (hO : POK zt) : Con E mX8_addGives 2 0 0 [.ref 3, .int za, .int zb] h (fun r h' => r = some (.int (bI (thg zt za ∧ (h.2.1 7 za.toNatClampNeg >>> (zb &&& 31)) &&& 1 = 0))) ∧ h' = if thg zt za ∧ (h.2.1 7 za.toNatClampNeg >>> (zb &&& 31)) &&& 1 = 0 then sI h 7 (upd (h.2.1 7) za.toNatClampNeg (h.2.1 7 za.toNatClampNeg ||| 1 <<< (zb &&& 31))) else h) := by
  refine con_of2 (L := [some (.ref 3), some (.int za), some (.int zb)]) rfl (Nat.le_of_ble_eq_true rfl) rfl ?_
  refine ev_aload_n (pc := 0) dX8_addGives_0 rfl ?_
  refine ev_iload_n (pc := 1) dX8_addGives_1 rfl ?_
  refine ev_callVv (S := []) (pc := 2) dX8_addGives_2 kX8_hasThing lX8_63 vX8_hasThing (cn_X8_hasThing_3 E h zt za hw hY hO) rfl rfl (wlt hw (by decide)) rfl rfl (Nat.le_of_ble_eq_true rfl) ⟨Nat.le_of_ble_eq_true rfl, Nat.le_of_ble_eq_true rfl⟩ ⟨Nat.le_of_ble_eq_true rfl, Nat.le_of_ble_eq_true rfl⟩ ?_
  refine ev_if_eq (pc := 5) (tgt := 21) dX8_addGives_5 (by decide) (fun zc5 => ?_) (fun zc5 => ?_)
  · -- eq at 5: taken
    refine ev_iconst (pc := 21) (v := 0) dX8_addGives_21 (by decide) ?_
    refine ev_iret (pc := 22) dX8_addGives_22 rfl ?_ ?_
    · first | rfl | exact nar_bI _ | (simp only [*]; exact nar_bI _) | (simp [narrow, *]; done)
    · have zn : ¬ (thg zt za ∧ (h.2.1 7 za.toNatClampNeg >>> (zb &&& 31)) &&& 1 = 0) := fun z => bI_0.mp zc5 z.1
      rw [bI_f zn, if_neg zn]
      exact ⟨rfl, rfl⟩
  · -- eq at 5: not taken
    refine ev_aload_n (pc := 8) dX8_addGives_8 rfl ?_
    refine ev_getR (pc := 9) (q := 7) dX8_addGives_9 fX8_21 rfl (wlt hw (by decide)) (wr hw rfl) ?_
    refine ev_iload_n (pc := 12) dX8_addGives_12 rfl ?_
    refine ev_iald (pc := 13) dX8_addGives_13 rfl (wlt hw (by decide)) (vp_th 12 (bI_n0.mp zc5).1 (bI_n0.mp zc5).2 hO.1 (by decide)) ?_
    refine ev_iload_n (pc := 14) dX8_addGives_14 rfl ?_
    refine ev_callSv (S := []) (pc := 15) dX8_addGives_15 kX10_has lX8_70 sX10_has (cn_X10_has E h (h.2.1 7 (Int32.toNatClampNeg za)) zb) rfl rfl (Nat.le_of_ble_eq_true rfl) ⟨Nat.le_of_ble_eq_true rfl, Nat.le_of_ble_eq_true rfl⟩ ⟨Nat.le_of_ble_eq_true rfl, Nat.le_of_ble_eq_true rfl⟩ ?_
    refine ev_if_eq (pc := 18) (tgt := 23) dX8_addGives_18 (by decide) (fun zc18 => ?_) (fun zc18 => ?_)
    · -- eq at 18: taken
      refine ev_aload_n (pc := 23) dX8_addGives_23 rfl ?_
      refine ev_getR (pc := 24) (q := 7) dX8_addGives_24 fX8_21 rfl (wlt hw (by decide)) (wr hw rfl) ?_
      refine ev_iload_n (pc := 27) dX8_addGives_27 rfl ?_
      refine ev_dup2 (pc := 28) dX8_addGives_28 rfl rfl ?_
      refine ev_iald (pc := 29) dX8_addGives_29 rfl (wlt hw (by decide)) (vp_th 12 (bI_n0.mp zc5).1 (bI_n0.mp zc5).2 hO.1 (by decide)) ?_
      refine ev_iconst (pc := 30) (v := 1) dX8_addGives_30 (by decide) ?_
      refine ev_iload_n (pc := 31) dX8_addGives_31 rfl ?_
      refine ev_ishl (pc := 32) dX8_addGives_32 ?_
      refine ev_ior (pc := 33) dX8_addGives_33 ?_
      refine ev_iast (pc := 34) dX8_addGives_34 rfl (wlt hw (by decide)) (vp_th 12 (bI_n0.mp zc5).1 (bI_n0.mp zc5).2 hO.1 (by decide)) ?_
      refine ev_eqH (h' := sI h 7 (upd (h.2.1 7) (Int32.toNatClampNeg za) ((h.2.1 7 (Int32.toNatClampNeg za)) ||| (1 <<< (zb &&& 31))))) (by rfl) ?_
      refine ev_iconst (pc := 35) (v := 1) dX8_addGives_35 (by decide) ?_
      refine ev_iret (pc := 36) dX8_addGives_36 rfl ?_ ?_
      · first | rfl | exact nar_bI _ | (simp only [*]; exact nar_bI _) | (simp [narrow, *]; done)
      · have zy : thg zt za ∧ (h.2.1 7 za.toNatClampNeg >>> (zb &&& 31)) &&& 1 = 0 := ⟨bI_n0.mp zc5, Decidable.not_not.mp (bI_0.mp zc18)⟩
        rw [bI_t zy, if_pos zy]
        exact ⟨rfl, rfl⟩
    · -- eq at 18: not taken
      refine ev_iconst (pc := 21) (v := 0) dX8_addGives_21 (by decide) ?_
      refine ev_iret (pc := 22) dX8_addGives_22 rfl ?_ ?_
      · first | rfl | exact nar_bI _ | (simp only [*]; exact nar_bI _) | (simp [narrow, *]; done)
      · have zn : ¬ (thg zt za ∧ (h.2.1 7 za.toNatClampNeg >>> (zb &&& 31)) &&& 1 = 0) := fun z => bI_n0.mp zc18 z.2
        rw [bI_f zn, if_neg zn]
        exact ⟨rfl, rfl⟩
theorem cn_X8_apartIsTold_11 (E : ME) (h : AH) (zP : Prop) [Decidable zP] (hw : WF h) (ha : h.2.1 11 10 = bI zP) : Con E mX8_apartIsTold 0 0 0 [.ref 11] h (fun r h' => r = some (.int (bI zP)) ∧ h' = h) := by
  refine con_of2 (L := [some (.ref 11)]) rfl (Nat.le_of_ble_eq_true rfl) rfl ?_
  refine ev_aload_n (pc := 0) dX8_apartIsTold_0 rfl ?_
  refine ev_getI (pc := 1) dX8_apartIsTold_1 fX8_52 rfl (wlt hw (by decide)) ?_
  refine ev_eqI (e' := bI zP) ha ?_
  refine ev_iret (pc := 4) dX8_apartIsTold_4 rfl ?_ ?_
  · first | rfl | exact nar_bI _ | (simp only [*]; exact nar_bI _) | (simp [narrow, *]; done)
  · exact ⟨rfl, rfl⟩
theorem cn_X8_quarryIsTold_11 (E : ME) (h : AH) (za : Int32) (hw : WF h) : Con E mX8_quarryIsTold 1 0 0 [.ref 11, .int za] h (fun r h' => r = some (.int (bI (¬ (h.2.1 11 11 >>> (za &&& 31)) &&& 1 = 0))) ∧ h' = h) := by
  refine con_of2 (L := [some (.ref 11), some (.int za)]) rfl (Nat.le_of_ble_eq_true rfl) rfl ?_
  refine ev_aload_n (pc := 0) dX8_quarryIsTold_0 rfl ?_
  refine ev_getI (pc := 1) dX8_quarryIsTold_1 fX8_56 rfl (wlt hw (by decide)) ?_
  refine ev_iload_n (pc := 4) dX8_quarryIsTold_4 rfl ?_
  refine ev_callSv (S := []) (pc := 5) dX8_quarryIsTold_5 kX10_has lX8_70 sX10_has (cn_X10_has E h (h.2.1 11 11) za) rfl rfl (Nat.le_of_ble_eq_true rfl) ⟨Nat.le_of_ble_eq_true rfl, Nat.le_of_ble_eq_true rfl⟩ ⟨Nat.le_of_ble_eq_true rfl, Nat.le_of_ble_eq_true rfl⟩ ?_
  refine ev_iret (pc := 8) dX8_quarryIsTold_8 rfl ?_ ?_
  · first | rfl | exact nar_bI _ | (simp only [*]; exact nar_bI _) | (simp [narrow, *]; done)
  · exact ⟨rfl, rfl⟩
theorem cn_X8_tellApart_11 (E : ME) (h : AH) (za : Int32) (hw : WF h) : Con E mX8_tellApart 0 0 0 [.ref 11, .int za] h (fun r h' => r = none ∧ h' = sI h 11 (upd (upd (h.2.1 11) 9 za) 10 1)) := by
  refine con_of2 (L := [some (.ref 11), some (.int za)]) rfl (Nat.le_of_ble_eq_true rfl) rfl ?_
  refine ev_aload_n (pc := 0) dX8_tellApart_0 rfl ?_
  refine ev_iload_n (pc := 1) dX8_tellApart_1 rfl ?_
  refine ev_putI (pc := 2) dX8_tellApart_2 fX8_49 rfl (wlt hw (by decide)) ?_
  refine ev_eqH (h' := sI h 11 (upd (h.2.1 11) 9 za)) (by rfl) ?_
  refine ev_aload_n (pc := 5) dX8_tellApart_5 rfl ?_
  refine ev_iconst (pc := 6) (v := 1) dX8_tellApart_6 (by decide) ?_
  refine ev_putZ (pc := 7) dX8_tellApart_7 fX8_52 rfl (wlt (wf_sI hw) (by decide)) (by decide) ?_
  refine ev_eqH (h' := sI h 11 (upd (upd (h.2.1 11) 9 za) 10 1)) (by exact sI_sI _ _ _ _) ?_
  refine ev_ret (pc := 10) dX8_tellApart_10 rfl ?_
  · exact ⟨rfl, rfl⟩
theorem cn_X8_addRow_11 (E : ME) (h : AH) (za zb : Int32) (zn : Nat) (hw : WF h) (hn : h.2.1 11 7 = nI zn) (hn2 : zn < 12) : Con E mX8_addRow 0 0 0 [.ref 11, .int za, .int zb] h (fun r h' => r = none ∧ h' = sI (sI (sI h 12 (upd (h.2.1 12) zn za)) 13 (upd (h.2.1 13) zn zb)) 11 (upd (h.2.1 11) 7 (nI (zn + 1)))) := by
  refine con_of2 (L := [some (.ref 11), some (.int za), some (.int zb)]) rfl (Nat.le_of_ble_eq_true rfl) rfl ?_
  refine ev_aload_n (pc := 0) dX8_addRow_0 rfl ?_
  refine ev_getI (pc := 1) dX8_addRow_1 fX8_42 rfl (wlt hw (by decide)) ?_
  refine ev_eqI (e' := nI zn) hn ?_
  refine ev_bipush (pc := 4) (v := 12) dX8_addRow_4 (by decide) ?_
  refine ev_icmp_ge (pc := 6) (tgt := 39) dX8_addRow_6 (by decide) (fun zc6 => absurd zc6 (nI_ge (b := 12) hn2 (by decide))) (fun zc6 => ?_)
  refine ev_aload_n (pc := 9) dX8_addRow_9 rfl ?_
  refine ev_getR (pc := 10) (q := 12) dX8_addRow_10 fX8_9 rfl (wlt hw (by decide)) (wr hw rfl) ?_
  refine ev_aload_n (pc := 13) dX8_addRow_13 rfl ?_
  refine ev_getI (pc := 14) dX8_addRow_14 fX8_42 rfl (wlt hw (by decide)) ?_
  refine ev_eqI (e' := nI zn) hn ?_
  refine ev_iload_n (pc := 17) dX8_addRow_17 rfl ?_
  refine ev_iast (pc := 18) dX8_addRow_18 rfl (wlt hw (by decide)) (vp_in_nI (by omega) (by decide)) ?_
  refine ev_eqH (h' := sI h 12 (upd (h.2.1 12) zn za)) (by rw [show Int32.toNatClampNeg (nI zn) = zn from nI_clamp (by omega)] <;> rfl) ?_
  refine ev_aload_n (pc := 19) dX8_addRow_19 rfl ?_
  refine ev_getR (pc := 20) (q := 13) dX8_addRow_20 fX8_15 rfl (wlt (wf_sI hw) (by decide)) (wr (wf_sI hw) rfl) ?_
  refine ev_aload_n (pc := 23) dX8_addRow_23 rfl ?_
  refine ev_getI (pc := 24) dX8_addRow_24 fX8_42 rfl (wlt (wf_sI hw) (by decide)) ?_
  refine ev_eqI (e' := h.2.1 11 7) (by rfl) ?_
  refine ev_eqI (e' := nI zn) hn ?_
  refine ev_iload_n (pc := 27) dX8_addRow_27 rfl ?_
  refine ev_iast (pc := 28) dX8_addRow_28 rfl (wlt (wf_sI hw) (by decide)) (vp_in_nI (by omega) (by decide)) ?_
  refine ev_eqH (h' := sI (sI h 12 (upd (h.2.1 12) zn za)) 13 (upd (h.2.1 13) zn zb)) (by rw [show Int32.toNatClampNeg (nI zn) = zn from nI_clamp (by omega)] <;> rfl) ?_
  refine ev_aload_n (pc := 29) dX8_addRow_29 rfl ?_
  refine ev_dup (pc := 30) dX8_addRow_30 rfl ?_
  refine ev_getI (pc := 31) dX8_addRow_31 fX8_42 rfl (wlt (wf_sI (wf_sI hw)) (by decide)) ?_
  refine ev_eqI (e' := h.2.1 11 7) (by rfl) ?_
  refine ev_eqI (e' := nI zn) hn ?_
  refine ev_iconst (pc := 34) (v := 1) dX8_addRow_34 (by decide) ?_
  refine ev_iadd (pc := 35) dX8_addRow_35 ?_
  refine ev_eqI (e' := nI (zn + 1)) (nI_add zn 1) ?_
  refine ev_putI (pc := 36) dX8_addRow_36 fX8_42 rfl (wlt (wf_sI (wf_sI hw)) (by decide)) ?_
  refine ev_eqH (h' := sI (sI (sI h 12 (upd (h.2.1 12) zn za)) 13 (upd (h.2.1 13) zn zb)) 11 (upd (h.2.1 11) 7 (nI (zn + 1)))) (by rfl) ?_
  refine ev_ret (pc := 39) dX8_addRow_39 rfl ?_
  · exact ⟨rfl, rfl⟩
theorem cn_X8_addPatch_11 (E : ME) (h : AH) (za : Int32) (zn : Nat) (hw : WF h) (hn : h.2.1 11 7 = nI zn) (hn2 : zn < 12) : Con E mX8_addPatch 0 0 0 [.ref 11, .int za] h (fun r h' => r = none ∧ h' = sI (sI h 14 (upd (h.2.1 14) zn za)) 11 (upd (h.2.1 11) 7 (nI (zn + 1)))) := by
  refine con_of2 (L := [some (.ref 11), some (.int za)]) rfl (Nat.le_of_ble_eq_true rfl) rfl ?_
  refine ev_aload_n (pc := 0) dX8_addPatch_0 rfl ?_
  refine ev_getI (pc := 1) dX8_addPatch_1 fX8_42 rfl (wlt hw (by decide)) ?_
  refine ev_eqI (e' := nI zn) hn ?_
  refine ev_bipush (pc := 4) (v := 12) dX8_addPatch_4 (by decide) ?_
  refine ev_icmp_ge (pc := 6) (tgt := 29) dX8_addPatch_6 (by decide) (fun zc6 => absurd zc6 (nI_ge (b := 12) hn2 (by decide))) (fun zc6 => ?_)
  refine ev_aload_n (pc := 9) dX8_addPatch_9 rfl ?_
  refine ev_getR (pc := 10) (q := 14) dX8_addPatch_10 fX8_18 rfl (wlt hw (by decide)) (wr hw rfl) ?_
  refine ev_aload_n (pc := 13) dX8_addPatch_13 rfl ?_
  refine ev_getI (pc := 14) dX8_addPatch_14 fX8_42 rfl (wlt hw (by decide)) ?_
  refine ev_eqI (e' := nI zn) hn ?_
  refine ev_iload_n (pc := 17) dX8_addPatch_17 rfl ?_
  refine ev_iast (pc := 18) dX8_addPatch_18 rfl (wlt hw (by decide)) (vp_in_nI (by omega) (by decide)) ?_
  refine ev_eqH (h' := sI h 14 (upd (h.2.1 14) zn za)) (by rw [show Int32.toNatClampNeg (nI zn) = zn from nI_clamp (by omega)] <;> rfl) ?_
  refine ev_aload_n (pc := 19) dX8_addPatch_19 rfl ?_
  refine ev_dup (pc := 20) dX8_addPatch_20 rfl ?_
  refine ev_getI (pc := 21) dX8_addPatch_21 fX8_42 rfl (wlt (wf_sI hw) (by decide)) ?_
  refine ev_eqI (e' := h.2.1 11 7) (by rfl) ?_
  refine ev_eqI (e' := nI zn) hn ?_
  refine ev_iconst (pc := 24) (v := 1) dX8_addPatch_24 (by decide) ?_
  refine ev_iadd (pc := 25) dX8_addPatch_25 ?_
  refine ev_eqI (e' := nI (zn + 1)) (nI_add zn 1) ?_
  refine ev_putI (pc := 26) dX8_addPatch_26 fX8_42 rfl (wlt (wf_sI hw) (by decide)) ?_
  refine ev_eqH (h' := sI (sI h 14 (upd (h.2.1 14) zn za)) 11 (upd (h.2.1 11) 7 (nI (zn + 1)))) (by rfl) ?_
  refine ev_ret (pc := 29) dX8_addPatch_29 rfl ?_
  · exact ⟨rfl, rfl⟩
theorem cn_X8_addPattern_11 (E : ME) (h : AH) (zn : Nat) (hw : WF h) (hn : h.2.1 11 8 = nI zn) (hn2 : zn < 4) : Con E mX8_addPattern 0 0 0 [.ref 11] h (fun r h' => r = none ∧ h' = sI h 11 (upd (h.2.1 11) 8 (nI (zn + 1)))) := by
  refine con_of2 (L := [some (.ref 11)]) rfl (Nat.le_of_ble_eq_true rfl) rfl ?_
  refine ev_aload_n (pc := 0) dX8_addPattern_0 rfl ?_
  refine ev_getI (pc := 1) dX8_addPattern_1 fX8_46 rfl (wlt hw (by decide)) ?_
  refine ev_eqI (e' := nI zn) hn ?_
  refine ev_iconst (pc := 4) (v := 4) dX8_addPattern_4 (by decide) ?_
  refine ev_icmp_ge (pc := 5) (tgt := 18) dX8_addPattern_5 (by decide) (fun zc5 => absurd zc5 (nI_ge (b := 4) hn2 (by decide))) (fun zc5 => ?_)
  refine ev_aload_n (pc := 8) dX8_addPattern_8 rfl ?_
  refine ev_dup (pc := 9) dX8_addPattern_9 rfl ?_
  refine ev_getI (pc := 10) dX8_addPattern_10 fX8_46 rfl (wlt hw (by decide)) ?_
  refine ev_eqI (e' := nI zn) hn ?_
  refine ev_iconst (pc := 13) (v := 1) dX8_addPattern_13 (by decide) ?_
  refine ev_iadd (pc := 14) dX8_addPattern_14 ?_
  refine ev_eqI (e' := nI (zn + 1)) (nI_add zn 1) ?_
  refine ev_putI (pc := 15) dX8_addPattern_15 fX8_46 rfl (wlt hw (by decide)) ?_
  refine ev_eqH (h' := sI h 11 (upd (h.2.1 11) 8 (nI (zn + 1)))) (by rfl) ?_
  refine ev_ret (pc := 18) dX8_addPattern_18 rfl ?_
  · exact ⟨rfl, rfl⟩
theorem cn_X8_tellPatternCell_11 (E : ME) (h : AH) (zi zn : Nat) (za : Int32) (hw : WF h) (hn : h.2.1 11 8 = nI zn) (hn2 : zn < 4) (hi : zi < 16) : Con E mX8_tellPatternCell 1 0 0 [.ref 11, .int (nI zi), .int za] h (fun r h' => r = none ∧ h' = sI h 18 (upd (h.2.1 18) (zn * 16 + zi) za)) := by
  refine con_of2 (L := [some (.ref 11), some (.int (nI zi)), some (.int za)]) rfl (Nat.le_of_ble_eq_true rfl) rfl ?_
  refine ev_aload_n (pc := 0) dX8_tellPatternCell_0 rfl ?_
  refine ev_getI (pc := 1) dX8_tellPatternCell_1 fX8_46 rfl (wlt hw (by decide)) ?_
  refine ev_eqI (e' := nI zn) hn ?_
  refine ev_iconst (pc := 4) (v := 4) dX8_tellPatternCell_4 (by decide) ?_
  refine ev_icmp_ge (pc := 5) (tgt := 33) dX8_tellPatternCell_5 (by decide) (fun zc5 => absurd zc5 (nI_ge (b := 4) hn2 (by decide))) (fun zc5 => ?_)
  refine ev_iload_n (pc := 8) dX8_tellPatternCell_8 rfl ?_
  refine ev_iconst (pc := 9) (v := 0) dX8_tellPatternCell_9 (by decide) ?_
  refine ev_bipush (pc := 10) (v := 15) dX8_tellPatternCell_10 (by decide) ?_
  refine ev_callSv (S := []) (pc := 12) dX8_tellPatternCell_12 kX10_within lX8_59 sX10_within (cn_X10_within E h (nI zi) 0 15) rfl rfl (Nat.le_of_ble_eq_true rfl) ⟨Nat.le_of_ble_eq_true rfl, Nat.le_of_ble_eq_true rfl⟩ ⟨Nat.le_of_ble_eq_true rfl, Nat.le_of_ble_eq_true rfl⟩ ?_
  refine ev_if_eq (pc := 15) (tgt := 33) dX8_tellPatternCell_15 (by decide) (fun zc15 => absurd zc15 (bI_n0.mpr ⟨nI_pos' (by omega), nI_le (b := 15) (by omega) (by decide)⟩)) (fun zc15 => ?_)
  refine ev_aload_n (pc := 18) dX8_tellPatternCell_18 rfl ?_
  refine ev_getR (pc := 19) (q := 18) dX8_tellPatternCell_19 fX8_30 rfl (wlt hw (by decide)) (wr hw rfl) ?_
  refine ev_aload_n (pc := 22) dX8_tellPatternCell_22 rfl ?_
  refine ev_getI (pc := 23) dX8_tellPatternCell_23 fX8_46 rfl (wlt hw (by decide)) ?_
  refine ev_eqI (e' := nI zn) hn ?_
  refine ev_bipush (pc := 26) (v := 16) dX8_tellPatternCell_26 (by decide) ?_
  refine ev_imul (pc := 28) dX8_tellPatternCell_28 ?_
  refine ev_eqI (e' := nI (zn * 16)) (pk_mul zn 16) ?_
  refine ev_iload_n (pc := 29) dX8_tellPatternCell_29 rfl ?_
  refine ev_iadd (pc := 30) dX8_tellPatternCell_30 ?_
  refine ev_eqI (e' := nI ((zn * 16) + zi)) (nI_add (zn * 16) zi) ?_
  refine ev_iload_n (pc := 31) dX8_tellPatternCell_31 rfl ?_
  refine ev_iast (pc := 32) dX8_tellPatternCell_32 rfl (wlt hw (by decide)) (vp_in_nI (by omega) (by decide)) ?_
  refine ev_eqH (h' := sI h 18 (upd (h.2.1 18) ((zn * 16) + zi) za)) (by rw [show Int32.toNatClampNeg (nI ((zn * 16) + zi)) = (zn * 16) + zi from nI_clamp (by omega)] <;> rfl) ?_
  refine ev_ret (pc := 33) dX8_tellPatternCell_33 rfl ?_
  · exact ⟨rfl, rfl⟩
theorem cn_X8_tellQuarry_11 (E : ME) (h : AH) (za zb zc : Int32) (hw : WF h) : Con E mX8_tellQuarry 1 0 0 [.ref 11, .int za, .int zb, .int zc] h (fun r h' => r = none ∧ h' = if (0 ≤ za ∧ za ≤ 5) then sI (sI (sI h 16 (upd (h.2.1 16) za.toNatClampNeg zb)) 17 (upd (h.2.1 17) za.toNatClampNeg zc)) 11 (upd (h.2.1 11) 11 (h.2.1 11 11 ||| 1 <<< (za &&& 31))) else h) := by
  refine con_of2 (L := [some (.ref 11), some (.int za), some (.int zb), some (.int zc)]) rfl (Nat.le_of_ble_eq_true rfl) rfl ?_
  refine ev_iload_n (pc := 0) dX8_tellQuarry_0 rfl ?_
  refine ev_iconst (pc := 1) (v := 0) dX8_tellQuarry_1 (by decide) ?_
  refine ev_iconst (pc := 2) (v := 5) dX8_tellQuarry_2 (by decide) ?_
  refine ev_callSv (S := []) (pc := 3) dX8_tellQuarry_3 kX10_within lX8_59 sX10_within (cn_X10_within E h za 0 5) rfl rfl (Nat.le_of_ble_eq_true rfl) ⟨Nat.le_of_ble_eq_true rfl, Nat.le_of_ble_eq_true rfl⟩ ⟨Nat.le_of_ble_eq_true rfl, Nat.le_of_ble_eq_true rfl⟩ ?_
  refine ev_if_eq (pc := 6) (tgt := 35) dX8_tellQuarry_6 (by decide) (fun zc6 => ?_) (fun zc6 => ?_)
  · -- eq at 6: taken
    refine ev_ret (pc := 35) dX8_tellQuarry_35 rfl ?_
    · refine ⟨rfl, ?_⟩
      rw [if_neg (bI_0.mp zc6)]
  · -- eq at 6: not taken
    refine ev_aload_n (pc := 9) dX8_tellQuarry_9 rfl ?_
    refine ev_getR (pc := 10) (q := 16) dX8_tellQuarry_10 fX8_24 rfl (wlt hw (by decide)) (wr hw rfl) ?_
    refine ev_iload_n (pc := 13) dX8_tellQuarry_13 rfl ?_
    refine ev_iload_n (pc := 14) dX8_tellQuarry_14 rfl ?_
    refine ev_iast (pc := 15) dX8_tellQuarry_15 rfl (wlt hw (by decide)) (vp_sm (N := 6) (bI_n0.mp zc6).1 (bI_n0.mp zc6).2 (by decide) (by decide)) ?_
    refine ev_eqH (h' := sI h 16 (upd (h.2.1 16) (Int32.toNatClampNeg za) zb)) (by rfl) ?_
    refine ev_aload_n (pc := 16) dX8_tellQuarry_16 rfl ?_
    refine ev_getR (pc := 17) (q := 17) dX8_tellQuarry_17 fX8_27 rfl (wlt (wf_sI hw) (by decide)) (wr (wf_sI hw) rfl) ?_
    refine ev_iload_n (pc := 20) dX8_tellQuarry_20 rfl ?_
    refine ev_iload_n (pc := 21) dX8_tellQuarry_21 rfl ?_
    refine ev_iast (pc := 22) dX8_tellQuarry_22 rfl (wlt (wf_sI hw) (by decide)) (vp_sm (N := 6) (bI_n0.mp zc6).1 (bI_n0.mp zc6).2 (by decide) (by decide)) ?_
    refine ev_eqH (h' := sI (sI h 16 (upd (h.2.1 16) (Int32.toNatClampNeg za) zb)) 17 (upd (h.2.1 17) (Int32.toNatClampNeg za) zc)) (by rfl) ?_
    refine ev_aload_n (pc := 23) dX8_tellQuarry_23 rfl ?_
    refine ev_dup (pc := 24) dX8_tellQuarry_24 rfl ?_
    refine ev_getI (pc := 25) dX8_tellQuarry_25 fX8_56 rfl (wlt (wf_sI (wf_sI hw)) (by decide)) ?_
    refine ev_eqI (e' := h.2.1 11 11) (by rfl) ?_
    refine ev_iconst (pc := 28) (v := 1) dX8_tellQuarry_28 (by decide) ?_
    refine ev_iload_n (pc := 29) dX8_tellQuarry_29 rfl ?_
    refine ev_ishl (pc := 30) dX8_tellQuarry_30 ?_
    refine ev_ior (pc := 31) dX8_tellQuarry_31 ?_
    refine ev_putI (pc := 32) dX8_tellQuarry_32 fX8_56 rfl (wlt (wf_sI (wf_sI hw)) (by decide)) ?_
    refine ev_eqH (h' := sI (sI (sI h 16 (upd (h.2.1 16) (Int32.toNatClampNeg za) zb)) 17 (upd (h.2.1 17) (Int32.toNatClampNeg za) zc)) 11 (upd (h.2.1 11) 11 ((h.2.1 11 11) ||| (1 <<< (za &&& 31))))) (by rfl) ?_
    refine ev_ret (pc := 35) dX8_tellQuarry_35 rfl ?_
    · refine ⟨rfl, ?_⟩
      rw [if_pos (bI_n0.mp zc6)]
theorem cn_X8_addGives_11 (E : ME) (h : AH) (zt : PSt) (za zb : Int32) (hw : WF h) (hY : STz zt 11 h) (hO : POK zt) : Con E mX8_addGives 2 0 0 [.ref 11, .int za, .int zb] h (fun r h' => r = some (.int (bI (thg zt za ∧ (h.2.1 15 za.toNatClampNeg >>> (zb &&& 31)) &&& 1 = 0))) ∧ h' = if thg zt za ∧ (h.2.1 15 za.toNatClampNeg >>> (zb &&& 31)) &&& 1 = 0 then sI h 15 (upd (h.2.1 15) za.toNatClampNeg (h.2.1 15 za.toNatClampNeg ||| 1 <<< (zb &&& 31))) else h) := by
  refine con_of2 (L := [some (.ref 11), some (.int za), some (.int zb)]) rfl (Nat.le_of_ble_eq_true rfl) rfl ?_
  refine ev_aload_n (pc := 0) dX8_addGives_0 rfl ?_
  refine ev_iload_n (pc := 1) dX8_addGives_1 rfl ?_
  refine ev_callVv (S := []) (pc := 2) dX8_addGives_2 kX8_hasThing lX8_63 vX8_hasThing (cn_X8_hasThing_11 E h zt za hw hY hO) rfl rfl (wlt hw (by decide)) rfl rfl (Nat.le_of_ble_eq_true rfl) ⟨Nat.le_of_ble_eq_true rfl, Nat.le_of_ble_eq_true rfl⟩ ⟨Nat.le_of_ble_eq_true rfl, Nat.le_of_ble_eq_true rfl⟩ ?_
  refine ev_if_eq (pc := 5) (tgt := 21) dX8_addGives_5 (by decide) (fun zc5 => ?_) (fun zc5 => ?_)
  · -- eq at 5: taken
    refine ev_iconst (pc := 21) (v := 0) dX8_addGives_21 (by decide) ?_
    refine ev_iret (pc := 22) dX8_addGives_22 rfl ?_ ?_
    · first | rfl | exact nar_bI _ | (simp only [*]; exact nar_bI _) | (simp [narrow, *]; done)
    · have zn : ¬ (thg zt za ∧ (h.2.1 15 za.toNatClampNeg >>> (zb &&& 31)) &&& 1 = 0) := fun z => bI_0.mp zc5 z.1
      rw [bI_f zn, if_neg zn]
      exact ⟨rfl, rfl⟩
  · -- eq at 5: not taken
    refine ev_aload_n (pc := 8) dX8_addGives_8 rfl ?_
    refine ev_getR (pc := 9) (q := 15) dX8_addGives_9 fX8_21 rfl (wlt hw (by decide)) (wr hw rfl) ?_
    refine ev_iload_n (pc := 12) dX8_addGives_12 rfl ?_
    refine ev_iald (pc := 13) dX8_addGives_13 rfl (wlt hw (by decide)) (vp_th 12 (bI_n0.mp zc5).1 (bI_n0.mp zc5).2 hO.1 (by decide)) ?_
    refine ev_iload_n (pc := 14) dX8_addGives_14 rfl ?_
    refine ev_callSv (S := []) (pc := 15) dX8_addGives_15 kX10_has lX8_70 sX10_has (cn_X10_has E h (h.2.1 15 (Int32.toNatClampNeg za)) zb) rfl rfl (Nat.le_of_ble_eq_true rfl) ⟨Nat.le_of_ble_eq_true rfl, Nat.le_of_ble_eq_true rfl⟩ ⟨Nat.le_of_ble_eq_true rfl, Nat.le_of_ble_eq_true rfl⟩ ?_
    refine ev_if_eq (pc := 18) (tgt := 23) dX8_addGives_18 (by decide) (fun zc18 => ?_) (fun zc18 => ?_)
    · -- eq at 18: taken
      refine ev_aload_n (pc := 23) dX8_addGives_23 rfl ?_
      refine ev_getR (pc := 24) (q := 15) dX8_addGives_24 fX8_21 rfl (wlt hw (by decide)) (wr hw rfl) ?_
      refine ev_iload_n (pc := 27) dX8_addGives_27 rfl ?_
      refine ev_dup2 (pc := 28) dX8_addGives_28 rfl rfl ?_
      refine ev_iald (pc := 29) dX8_addGives_29 rfl (wlt hw (by decide)) (vp_th 12 (bI_n0.mp zc5).1 (bI_n0.mp zc5).2 hO.1 (by decide)) ?_
      refine ev_iconst (pc := 30) (v := 1) dX8_addGives_30 (by decide) ?_
      refine ev_iload_n (pc := 31) dX8_addGives_31 rfl ?_
      refine ev_ishl (pc := 32) dX8_addGives_32 ?_
      refine ev_ior (pc := 33) dX8_addGives_33 ?_
      refine ev_iast (pc := 34) dX8_addGives_34 rfl (wlt hw (by decide)) (vp_th 12 (bI_n0.mp zc5).1 (bI_n0.mp zc5).2 hO.1 (by decide)) ?_
      refine ev_eqH (h' := sI h 15 (upd (h.2.1 15) (Int32.toNatClampNeg za) ((h.2.1 15 (Int32.toNatClampNeg za)) ||| (1 <<< (zb &&& 31))))) (by rfl) ?_
      refine ev_iconst (pc := 35) (v := 1) dX8_addGives_35 (by decide) ?_
      refine ev_iret (pc := 36) dX8_addGives_36 rfl ?_ ?_
      · first | rfl | exact nar_bI _ | (simp only [*]; exact nar_bI _) | (simp [narrow, *]; done)
      · have zy : thg zt za ∧ (h.2.1 15 za.toNatClampNeg >>> (zb &&& 31)) &&& 1 = 0 := ⟨bI_n0.mp zc5, Decidable.not_not.mp (bI_0.mp zc18)⟩
        rw [bI_t zy, if_pos zy]
        exact ⟨rfl, rfl⟩
    · -- eq at 18: not taken
      refine ev_iconst (pc := 21) (v := 0) dX8_addGives_21 (by decide) ?_
      refine ev_iret (pc := 22) dX8_addGives_22 rfl ?_ ?_
      · first | rfl | exact nar_bI _ | (simp only [*]; exact nar_bI _) | (simp [narrow, *]; done)
      · have zn : ¬ (thg zt za ∧ (h.2.1 15 za.toNatClampNeg >>> (zb &&& 31)) &&& 1 = 0) := fun z => bI_n0.mp zc18 z.2
        rw [bI_f zn, if_neg zn]
        exact ⟨rfl, rfl⟩
def clH_3 (h : AH) : AH := sI (sI (sI (sI (sI (sI (sI (sI h 4 (flI 0 (h.2.1 4) 12)) 5 (flI 0 (h.2.1 5) 12)) 6 (flI 0 (h.2.1 6) 12)) 7 (flI 0 (h.2.1 7) 12)) 8 (flI 1 (h.2.1 8) 6)) 9 (flI 10 (h.2.1 9) 6)) 10 (flI (-1) (h.2.1 10) 64)) 3 (upd (upd (upd (upd (upd (h.2.1 3) 7 0) 8 0) 9 10) 10 0) 11 0)
theorem cn_X8_clear_3 (E : ME) (h : AH)  (hw : WF h) : Con E mX8_clear 1 0 0 [.ref 3] h (fun r h' => r = none ∧ h' = clH_3 h) := by
  refine con_of2 (L := [some (.ref 3)]) rfl (Nat.le_of_ble_eq_true rfl) rfl ?_
  refine ev_aload_n (pc := 0) dX8_clear_0 rfl ?_
  refine ev_getR (pc := 1) (q := 4) dX8_clear_1 fX8_9 rfl (wlt hw (by decide)) (wr hw rfl) ?_
  refine ev_iconst (pc := 4) (v := 0) dX8_clear_4 (by decide) ?_
  refine ev_callS0 (S := []) (pc := 5) dX8_clear_5 kJ7_fill_53178 lX8_36 sJ7_fill_53178 (cn_J7_fill_53178 E h 4 12 0 hw rfl (wlt hw (by decide)) (by decide)) rfl rfl (Nat.le_of_ble_eq_true rfl) ⟨Nat.le_of_ble_eq_true rfl, Nat.le_of_ble_eq_true rfl⟩ ⟨Nat.le_of_ble_eq_true rfl, Nat.le_of_ble_eq_true rfl⟩ ?_
  refine ev_eqH (h' := sI h 4 (flI 0 (h.2.1 4) 12)) rfl ?_
  refine ev_aload_n (pc := 8) dX8_clear_8 rfl ?_
  refine ev_getR (pc := 9) (q := 5) dX8_clear_9 fX8_15 rfl (wlt (wf_sI hw) (by decide)) (wr (wf_sI hw) rfl) ?_
  refine ev_iconst (pc := 12) (v := 0) dX8_clear_12 (by decide) ?_
  refine ev_callS0 (S := []) (pc := 13) dX8_clear_13 kJ7_fill_53178 lX8_36 sJ7_fill_53178 (cn_J7_fill_53178 E (sI h 4 (flI 0 (h.2.1 4) 12)) 5 12 0 (wf_sI hw) rfl (wlt (wf_sI hw) (by decide)) (by decide)) rfl rfl (Nat.le_of_ble_eq_true rfl) ⟨Nat.le_of_ble_eq_true rfl, Nat.le_of_ble_eq_true rfl⟩ ⟨Nat.le_of_ble_eq_true rfl, Nat.le_of_ble_eq_true rfl⟩ ?_
  refine ev_eqH (h' := sI (sI h 4 (flI 0 (h.2.1 4) 12)) 5 (flI 0 (h.2.1 5) 12)) rfl ?_
  refine ev_aload_n (pc := 16) dX8_clear_16 rfl ?_
  refine ev_getR (pc := 17) (q := 6) dX8_clear_17 fX8_18 rfl (wlt (wf_sI (wf_sI hw)) (by decide)) (wr (wf_sI (wf_sI hw)) rfl) ?_
  refine ev_iconst (pc := 20) (v := 0) dX8_clear_20 (by decide) ?_
  refine ev_callS0 (S := []) (pc := 21) dX8_clear_21 kJ7_fill_53178 lX8_36 sJ7_fill_53178 (cn_J7_fill_53178 E (sI (sI h 4 (flI 0 (h.2.1 4) 12)) 5 (flI 0 (h.2.1 5) 12)) 6 12 0 (wf_sI (wf_sI hw)) rfl (wlt (wf_sI (wf_sI hw)) (by decide)) (by decide)) rfl rfl (Nat.le_of_ble_eq_true rfl) ⟨Nat.le_of_ble_eq_true rfl, Nat.le_of_ble_eq_true rfl⟩ ⟨Nat.le_of_ble_eq_true rfl, Nat.le_of_ble_eq_true rfl⟩ ?_
  refine ev_eqH (h' := sI (sI (sI h 4 (flI 0 (h.2.1 4) 12)) 5 (flI 0 (h.2.1 5) 12)) 6 (flI 0 (h.2.1 6) 12)) rfl ?_
  refine ev_aload_n (pc := 24) dX8_clear_24 rfl ?_
  refine ev_getR (pc := 25) (q := 7) dX8_clear_25 fX8_21 rfl (wlt (wf_sI (wf_sI (wf_sI hw))) (by decide)) (wr (wf_sI (wf_sI (wf_sI hw))) rfl) ?_
  refine ev_iconst (pc := 28) (v := 0) dX8_clear_28 (by decide) ?_
  refine ev_callS0 (S := []) (pc := 29) dX8_clear_29 kJ7_fill_53178 lX8_36 sJ7_fill_53178 (cn_J7_fill_53178 E (sI (sI (sI h 4 (flI 0 (h.2.1 4) 12)) 5 (flI 0 (h.2.1 5) 12)) 6 (flI 0 (h.2.1 6) 12)) 7 12 0 (wf_sI (wf_sI (wf_sI hw))) rfl (wlt (wf_sI (wf_sI (wf_sI hw))) (by decide)) (by decide)) rfl rfl (Nat.le_of_ble_eq_true rfl) ⟨Nat.le_of_ble_eq_true rfl, Nat.le_of_ble_eq_true rfl⟩ ⟨Nat.le_of_ble_eq_true rfl, Nat.le_of_ble_eq_true rfl⟩ ?_
  refine ev_eqH (h' := sI (sI (sI (sI h 4 (flI 0 (h.2.1 4) 12)) 5 (flI 0 (h.2.1 5) 12)) 6 (flI 0 (h.2.1 6) 12)) 7 (flI 0 (h.2.1 7) 12)) rfl ?_
  refine ev_aload_n (pc := 32) dX8_clear_32 rfl ?_
  refine ev_getR (pc := 33) (q := 8) dX8_clear_33 fX8_24 rfl (wlt (wf_sI (wf_sI (wf_sI (wf_sI hw)))) (by decide)) (wr (wf_sI (wf_sI (wf_sI (wf_sI hw)))) rfl) ?_
  refine ev_iconst (pc := 36) (v := 1) dX8_clear_36 (by decide) ?_
  refine ev_callS0 (S := []) (pc := 37) dX8_clear_37 kJ7_fill_53178 lX8_36 sJ7_fill_53178 (cn_J7_fill_53178 E (sI (sI (sI (sI h 4 (flI 0 (h.2.1 4) 12)) 5 (flI 0 (h.2.1 5) 12)) 6 (flI 0 (h.2.1 6) 12)) 7 (flI 0 (h.2.1 7) 12)) 8 6 1 (wf_sI (wf_sI (wf_sI (wf_sI hw)))) rfl (wlt (wf_sI (wf_sI (wf_sI (wf_sI hw)))) (by decide)) (by decide)) rfl rfl (Nat.le_of_ble_eq_true rfl) ⟨Nat.le_of_ble_eq_true rfl, Nat.le_of_ble_eq_true rfl⟩ ⟨Nat.le_of_ble_eq_true rfl, Nat.le_of_ble_eq_true rfl⟩ ?_
  refine ev_eqH (h' := sI (sI (sI (sI (sI h 4 (flI 0 (h.2.1 4) 12)) 5 (flI 0 (h.2.1 5) 12)) 6 (flI 0 (h.2.1 6) 12)) 7 (flI 0 (h.2.1 7) 12)) 8 (flI 1 (h.2.1 8) 6)) rfl ?_
  refine ev_aload_n (pc := 40) dX8_clear_40 rfl ?_
  refine ev_getR (pc := 41) (q := 9) dX8_clear_41 fX8_27 rfl (wlt (wf_sI (wf_sI (wf_sI (wf_sI (wf_sI hw))))) (by decide)) (wr (wf_sI (wf_sI (wf_sI (wf_sI (wf_sI hw))))) rfl) ?_
  refine ev_bipush (pc := 44) (v := 10) dX8_clear_44 (by decide) ?_
  refine ev_callS0 (S := []) (pc := 46) dX8_clear_46 kJ7_fill_53178 lX8_36 sJ7_fill_53178 (cn_J7_fill_53178 E (sI (sI (sI (sI (sI h 4 (flI 0 (h.2.1 4) 12)) 5 (flI 0 (h.2.1 5) 12)) 6 (flI 0 (h.2.1 6) 12)) 7 (flI 0 (h.2.1 7) 12)) 8 (flI 1 (h.2.1 8) 6)) 9 6 10 (wf_sI (wf_sI (wf_sI (wf_sI (wf_sI hw))))) rfl (wlt (wf_sI (wf_sI (wf_sI (wf_sI (wf_sI hw))))) (by decide)) (by decide)) rfl rfl (Nat.le_of_ble_eq_true rfl) ⟨Nat.le_of_ble_eq_true rfl, Nat.le_of_ble_eq_true rfl⟩ ⟨Nat.le_of_ble_eq_true rfl, Nat.le_of_ble_eq_true rfl⟩ ?_
  refine ev_eqH (h' := sI (sI (sI (sI (sI (sI h 4 (flI 0 (h.2.1 4) 12)) 5 (flI 0 (h.2.1 5) 12)) 6 (flI 0 (h.2.1 6) 12)) 7 (flI 0 (h.2.1 7) 12)) 8 (flI 1 (h.2.1 8) 6)) 9 (flI 10 (h.2.1 9) 6)) rfl ?_
  refine ev_aload_n (pc := 49) dX8_clear_49 rfl ?_
  refine ev_getR (pc := 50) (q := 10) dX8_clear_50 fX8_30 rfl (wlt (wf_sI (wf_sI (wf_sI (wf_sI (wf_sI (wf_sI hw)))))) (by decide)) (wr (wf_sI (wf_sI (wf_sI (wf_sI (wf_sI (wf_sI hw)))))) rfl) ?_
  refine ev_iconst (pc := 53) (v := (-1)) dX8_clear_53 (by decide) ?_
  refine ev_callS0 (S := []) (pc := 54) dX8_clear_54 kJ7_fill_53178 lX8_36 sJ7_fill_53178 (cn_J7_fill_53178 E (sI (sI (sI (sI (sI (sI h 4 (flI 0 (h.2.1 4) 12)) 5 (flI 0 (h.2.1 5) 12)) 6 (flI 0 (h.2.1 6) 12)) 7 (flI 0 (h.2.1 7) 12)) 8 (flI 1 (h.2.1 8) 6)) 9 (flI 10 (h.2.1 9) 6)) 10 64 (-1) (wf_sI (wf_sI (wf_sI (wf_sI (wf_sI (wf_sI hw)))))) rfl (wlt (wf_sI (wf_sI (wf_sI (wf_sI (wf_sI (wf_sI hw)))))) (by decide)) (by decide)) rfl rfl (Nat.le_of_ble_eq_true rfl) ⟨Nat.le_of_ble_eq_true rfl, Nat.le_of_ble_eq_true rfl⟩ ⟨Nat.le_of_ble_eq_true rfl, Nat.le_of_ble_eq_true rfl⟩ ?_
  refine ev_eqH (h' := sI (sI (sI (sI (sI (sI (sI h 4 (flI 0 (h.2.1 4) 12)) 5 (flI 0 (h.2.1 5) 12)) 6 (flI 0 (h.2.1 6) 12)) 7 (flI 0 (h.2.1 7) 12)) 8 (flI 1 (h.2.1 8) 6)) 9 (flI 10 (h.2.1 9) 6)) 10 (flI (-1) (h.2.1 10) 64)) rfl ?_
  refine ev_aload_n (pc := 57) dX8_clear_57 rfl ?_
  refine ev_iconst (pc := 58) (v := 0) dX8_clear_58 (by decide) ?_
  refine ev_putI (pc := 59) dX8_clear_59 fX8_42 rfl (wlt (wf_sI (wf_sI (wf_sI (wf_sI (wf_sI (wf_sI (wf_sI hw))))))) (by decide)) ?_
  refine ev_eqH (h' := sI (sI (sI (sI (sI (sI (sI (sI h 4 (flI 0 (h.2.1 4) 12)) 5 (flI 0 (h.2.1 5) 12)) 6 (flI 0 (h.2.1 6) 12)) 7 (flI 0 (h.2.1 7) 12)) 8 (flI 1 (h.2.1 8) 6)) 9 (flI 10 (h.2.1 9) 6)) 10 (flI (-1) (h.2.1 10) 64)) 3 (upd (h.2.1 3) 7 0)) (by rfl) ?_
  refine ev_aload_n (pc := 62) dX8_clear_62 rfl ?_
  refine ev_iconst (pc := 63) (v := 0) dX8_clear_63 (by decide) ?_
  refine ev_putI (pc := 64) dX8_clear_64 fX8_46 rfl (wlt (wf_sI (wf_sI (wf_sI (wf_sI (wf_sI (wf_sI (wf_sI (wf_sI hw)))))))) (by decide)) ?_
  refine ev_eqH (h' := sI (sI (sI (sI (sI (sI (sI (sI h 4 (flI 0 (h.2.1 4) 12)) 5 (flI 0 (h.2.1 5) 12)) 6 (flI 0 (h.2.1 6) 12)) 7 (flI 0 (h.2.1 7) 12)) 8 (flI 1 (h.2.1 8) 6)) 9 (flI 10 (h.2.1 9) 6)) 10 (flI (-1) (h.2.1 10) 64)) 3 (upd (upd (h.2.1 3) 7 0) 8 0)) (by exact sI_sI _ _ _ _) ?_
  refine ev_aload_n (pc := 67) dX8_clear_67 rfl ?_
  refine ev_bipush (pc := 68) (v := 10) dX8_clear_68 (by decide) ?_
  refine ev_putI (pc := 70) dX8_clear_70 fX8_49 rfl (wlt (wf_sI (wf_sI (wf_sI (wf_sI (wf_sI (wf_sI (wf_sI (wf_sI hw)))))))) (by decide)) ?_
  refine ev_eqH (h' := sI (sI (sI (sI (sI (sI (sI (sI h 4 (flI 0 (h.2.1 4) 12)) 5 (flI 0 (h.2.1 5) 12)) 6 (flI 0 (h.2.1 6) 12)) 7 (flI 0 (h.2.1 7) 12)) 8 (flI 1 (h.2.1 8) 6)) 9 (flI 10 (h.2.1 9) 6)) 10 (flI (-1) (h.2.1 10) 64)) 3 (upd (upd (upd (h.2.1 3) 7 0) 8 0) 9 10)) (by exact sI_sI _ _ _ _) ?_
  refine ev_aload_n (pc := 73) dX8_clear_73 rfl ?_
  refine ev_iconst (pc := 74) (v := 0) dX8_clear_74 (by decide) ?_
  refine ev_putZ (pc := 75) dX8_clear_75 fX8_52 rfl (wlt (wf_sI (wf_sI (wf_sI (wf_sI (wf_sI (wf_sI (wf_sI (wf_sI hw)))))))) (by decide)) (by decide) ?_
  refine ev_eqH (h' := sI (sI (sI (sI (sI (sI (sI (sI h 4 (flI 0 (h.2.1 4) 12)) 5 (flI 0 (h.2.1 5) 12)) 6 (flI 0 (h.2.1 6) 12)) 7 (flI 0 (h.2.1 7) 12)) 8 (flI 1 (h.2.1 8) 6)) 9 (flI 10 (h.2.1 9) 6)) 10 (flI (-1) (h.2.1 10) 64)) 3 (upd (upd (upd (upd (h.2.1 3) 7 0) 8 0) 9 10) 10 0)) (by exact sI_sI _ _ _ _) ?_
  refine ev_aload_n (pc := 78) dX8_clear_78 rfl ?_
  refine ev_iconst (pc := 79) (v := 0) dX8_clear_79 (by decide) ?_
  refine ev_putI (pc := 80) dX8_clear_80 fX8_56 rfl (wlt (wf_sI (wf_sI (wf_sI (wf_sI (wf_sI (wf_sI (wf_sI (wf_sI hw)))))))) (by decide)) ?_
  refine ev_eqH (h' := sI (sI (sI (sI (sI (sI (sI (sI h 4 (flI 0 (h.2.1 4) 12)) 5 (flI 0 (h.2.1 5) 12)) 6 (flI 0 (h.2.1 6) 12)) 7 (flI 0 (h.2.1 7) 12)) 8 (flI 1 (h.2.1 8) 6)) 9 (flI 10 (h.2.1 9) 6)) 10 (flI (-1) (h.2.1 10) 64)) 3 (upd (upd (upd (upd (upd (h.2.1 3) 7 0) 8 0) 9 10) 10 0) 11 0)) (by exact sI_sI _ _ _ _) ?_
  refine ev_ret (pc := 83) dX8_clear_83 rfl ?_
  · exact ⟨rfl, rfl⟩
def clH_11 (h : AH) : AH := sI (sI (sI (sI (sI (sI (sI (sI h 12 (flI 0 (h.2.1 12) 12)) 13 (flI 0 (h.2.1 13) 12)) 14 (flI 0 (h.2.1 14) 12)) 15 (flI 0 (h.2.1 15) 12)) 16 (flI 1 (h.2.1 16) 6)) 17 (flI 10 (h.2.1 17) 6)) 18 (flI (-1) (h.2.1 18) 64)) 11 (upd (upd (upd (upd (upd (h.2.1 11) 7 0) 8 0) 9 10) 10 0) 11 0)
theorem cn_X8_clear_11 (E : ME) (h : AH)  (hw : WF h) : Con E mX8_clear 1 0 0 [.ref 11] h (fun r h' => r = none ∧ h' = clH_11 h) := by
  refine con_of2 (L := [some (.ref 11)]) rfl (Nat.le_of_ble_eq_true rfl) rfl ?_
  refine ev_aload_n (pc := 0) dX8_clear_0 rfl ?_
  refine ev_getR (pc := 1) (q := 12) dX8_clear_1 fX8_9 rfl (wlt hw (by decide)) (wr hw rfl) ?_
  refine ev_iconst (pc := 4) (v := 0) dX8_clear_4 (by decide) ?_
  refine ev_callS0 (S := []) (pc := 5) dX8_clear_5 kJ7_fill_53178 lX8_36 sJ7_fill_53178 (cn_J7_fill_53178 E h 12 12 0 hw rfl (wlt hw (by decide)) (by decide)) rfl rfl (Nat.le_of_ble_eq_true rfl) ⟨Nat.le_of_ble_eq_true rfl, Nat.le_of_ble_eq_true rfl⟩ ⟨Nat.le_of_ble_eq_true rfl, Nat.le_of_ble_eq_true rfl⟩ ?_
  refine ev_eqH (h' := sI h 12 (flI 0 (h.2.1 12) 12)) rfl ?_
  refine ev_aload_n (pc := 8) dX8_clear_8 rfl ?_
  refine ev_getR (pc := 9) (q := 13) dX8_clear_9 fX8_15 rfl (wlt (wf_sI hw) (by decide)) (wr (wf_sI hw) rfl) ?_
  refine ev_iconst (pc := 12) (v := 0) dX8_clear_12 (by decide) ?_
  refine ev_callS0 (S := []) (pc := 13) dX8_clear_13 kJ7_fill_53178 lX8_36 sJ7_fill_53178 (cn_J7_fill_53178 E (sI h 12 (flI 0 (h.2.1 12) 12)) 13 12 0 (wf_sI hw) rfl (wlt (wf_sI hw) (by decide)) (by decide)) rfl rfl (Nat.le_of_ble_eq_true rfl) ⟨Nat.le_of_ble_eq_true rfl, Nat.le_of_ble_eq_true rfl⟩ ⟨Nat.le_of_ble_eq_true rfl, Nat.le_of_ble_eq_true rfl⟩ ?_
  refine ev_eqH (h' := sI (sI h 12 (flI 0 (h.2.1 12) 12)) 13 (flI 0 (h.2.1 13) 12)) rfl ?_
  refine ev_aload_n (pc := 16) dX8_clear_16 rfl ?_
  refine ev_getR (pc := 17) (q := 14) dX8_clear_17 fX8_18 rfl (wlt (wf_sI (wf_sI hw)) (by decide)) (wr (wf_sI (wf_sI hw)) rfl) ?_
  refine ev_iconst (pc := 20) (v := 0) dX8_clear_20 (by decide) ?_
  refine ev_callS0 (S := []) (pc := 21) dX8_clear_21 kJ7_fill_53178 lX8_36 sJ7_fill_53178 (cn_J7_fill_53178 E (sI (sI h 12 (flI 0 (h.2.1 12) 12)) 13 (flI 0 (h.2.1 13) 12)) 14 12 0 (wf_sI (wf_sI hw)) rfl (wlt (wf_sI (wf_sI hw)) (by decide)) (by decide)) rfl rfl (Nat.le_of_ble_eq_true rfl) ⟨Nat.le_of_ble_eq_true rfl, Nat.le_of_ble_eq_true rfl⟩ ⟨Nat.le_of_ble_eq_true rfl, Nat.le_of_ble_eq_true rfl⟩ ?_
  refine ev_eqH (h' := sI (sI (sI h 12 (flI 0 (h.2.1 12) 12)) 13 (flI 0 (h.2.1 13) 12)) 14 (flI 0 (h.2.1 14) 12)) rfl ?_
  refine ev_aload_n (pc := 24) dX8_clear_24 rfl ?_
  refine ev_getR (pc := 25) (q := 15) dX8_clear_25 fX8_21 rfl (wlt (wf_sI (wf_sI (wf_sI hw))) (by decide)) (wr (wf_sI (wf_sI (wf_sI hw))) rfl) ?_
  refine ev_iconst (pc := 28) (v := 0) dX8_clear_28 (by decide) ?_
  refine ev_callS0 (S := []) (pc := 29) dX8_clear_29 kJ7_fill_53178 lX8_36 sJ7_fill_53178 (cn_J7_fill_53178 E (sI (sI (sI h 12 (flI 0 (h.2.1 12) 12)) 13 (flI 0 (h.2.1 13) 12)) 14 (flI 0 (h.2.1 14) 12)) 15 12 0 (wf_sI (wf_sI (wf_sI hw))) rfl (wlt (wf_sI (wf_sI (wf_sI hw))) (by decide)) (by decide)) rfl rfl (Nat.le_of_ble_eq_true rfl) ⟨Nat.le_of_ble_eq_true rfl, Nat.le_of_ble_eq_true rfl⟩ ⟨Nat.le_of_ble_eq_true rfl, Nat.le_of_ble_eq_true rfl⟩ ?_
  refine ev_eqH (h' := sI (sI (sI (sI h 12 (flI 0 (h.2.1 12) 12)) 13 (flI 0 (h.2.1 13) 12)) 14 (flI 0 (h.2.1 14) 12)) 15 (flI 0 (h.2.1 15) 12)) rfl ?_
  refine ev_aload_n (pc := 32) dX8_clear_32 rfl ?_
  refine ev_getR (pc := 33) (q := 16) dX8_clear_33 fX8_24 rfl (wlt (wf_sI (wf_sI (wf_sI (wf_sI hw)))) (by decide)) (wr (wf_sI (wf_sI (wf_sI (wf_sI hw)))) rfl) ?_
  refine ev_iconst (pc := 36) (v := 1) dX8_clear_36 (by decide) ?_
  refine ev_callS0 (S := []) (pc := 37) dX8_clear_37 kJ7_fill_53178 lX8_36 sJ7_fill_53178 (cn_J7_fill_53178 E (sI (sI (sI (sI h 12 (flI 0 (h.2.1 12) 12)) 13 (flI 0 (h.2.1 13) 12)) 14 (flI 0 (h.2.1 14) 12)) 15 (flI 0 (h.2.1 15) 12)) 16 6 1 (wf_sI (wf_sI (wf_sI (wf_sI hw)))) rfl (wlt (wf_sI (wf_sI (wf_sI (wf_sI hw)))) (by decide)) (by decide)) rfl rfl (Nat.le_of_ble_eq_true rfl) ⟨Nat.le_of_ble_eq_true rfl, Nat.le_of_ble_eq_true rfl⟩ ⟨Nat.le_of_ble_eq_true rfl, Nat.le_of_ble_eq_true rfl⟩ ?_
  refine ev_eqH (h' := sI (sI (sI (sI (sI h 12 (flI 0 (h.2.1 12) 12)) 13 (flI 0 (h.2.1 13) 12)) 14 (flI 0 (h.2.1 14) 12)) 15 (flI 0 (h.2.1 15) 12)) 16 (flI 1 (h.2.1 16) 6)) rfl ?_
  refine ev_aload_n (pc := 40) dX8_clear_40 rfl ?_
  refine ev_getR (pc := 41) (q := 17) dX8_clear_41 fX8_27 rfl (wlt (wf_sI (wf_sI (wf_sI (wf_sI (wf_sI hw))))) (by decide)) (wr (wf_sI (wf_sI (wf_sI (wf_sI (wf_sI hw))))) rfl) ?_
  refine ev_bipush (pc := 44) (v := 10) dX8_clear_44 (by decide) ?_
  refine ev_callS0 (S := []) (pc := 46) dX8_clear_46 kJ7_fill_53178 lX8_36 sJ7_fill_53178 (cn_J7_fill_53178 E (sI (sI (sI (sI (sI h 12 (flI 0 (h.2.1 12) 12)) 13 (flI 0 (h.2.1 13) 12)) 14 (flI 0 (h.2.1 14) 12)) 15 (flI 0 (h.2.1 15) 12)) 16 (flI 1 (h.2.1 16) 6)) 17 6 10 (wf_sI (wf_sI (wf_sI (wf_sI (wf_sI hw))))) rfl (wlt (wf_sI (wf_sI (wf_sI (wf_sI (wf_sI hw))))) (by decide)) (by decide)) rfl rfl (Nat.le_of_ble_eq_true rfl) ⟨Nat.le_of_ble_eq_true rfl, Nat.le_of_ble_eq_true rfl⟩ ⟨Nat.le_of_ble_eq_true rfl, Nat.le_of_ble_eq_true rfl⟩ ?_
  refine ev_eqH (h' := sI (sI (sI (sI (sI (sI h 12 (flI 0 (h.2.1 12) 12)) 13 (flI 0 (h.2.1 13) 12)) 14 (flI 0 (h.2.1 14) 12)) 15 (flI 0 (h.2.1 15) 12)) 16 (flI 1 (h.2.1 16) 6)) 17 (flI 10 (h.2.1 17) 6)) rfl ?_
  refine ev_aload_n (pc := 49) dX8_clear_49 rfl ?_
  refine ev_getR (pc := 50) (q := 18) dX8_clear_50 fX8_30 rfl (wlt (wf_sI (wf_sI (wf_sI (wf_sI (wf_sI (wf_sI hw)))))) (by decide)) (wr (wf_sI (wf_sI (wf_sI (wf_sI (wf_sI (wf_sI hw)))))) rfl) ?_
  refine ev_iconst (pc := 53) (v := (-1)) dX8_clear_53 (by decide) ?_
  refine ev_callS0 (S := []) (pc := 54) dX8_clear_54 kJ7_fill_53178 lX8_36 sJ7_fill_53178 (cn_J7_fill_53178 E (sI (sI (sI (sI (sI (sI h 12 (flI 0 (h.2.1 12) 12)) 13 (flI 0 (h.2.1 13) 12)) 14 (flI 0 (h.2.1 14) 12)) 15 (flI 0 (h.2.1 15) 12)) 16 (flI 1 (h.2.1 16) 6)) 17 (flI 10 (h.2.1 17) 6)) 18 64 (-1) (wf_sI (wf_sI (wf_sI (wf_sI (wf_sI (wf_sI hw)))))) rfl (wlt (wf_sI (wf_sI (wf_sI (wf_sI (wf_sI (wf_sI hw)))))) (by decide)) (by decide)) rfl rfl (Nat.le_of_ble_eq_true rfl) ⟨Nat.le_of_ble_eq_true rfl, Nat.le_of_ble_eq_true rfl⟩ ⟨Nat.le_of_ble_eq_true rfl, Nat.le_of_ble_eq_true rfl⟩ ?_
  refine ev_eqH (h' := sI (sI (sI (sI (sI (sI (sI h 12 (flI 0 (h.2.1 12) 12)) 13 (flI 0 (h.2.1 13) 12)) 14 (flI 0 (h.2.1 14) 12)) 15 (flI 0 (h.2.1 15) 12)) 16 (flI 1 (h.2.1 16) 6)) 17 (flI 10 (h.2.1 17) 6)) 18 (flI (-1) (h.2.1 18) 64)) rfl ?_
  refine ev_aload_n (pc := 57) dX8_clear_57 rfl ?_
  refine ev_iconst (pc := 58) (v := 0) dX8_clear_58 (by decide) ?_
  refine ev_putI (pc := 59) dX8_clear_59 fX8_42 rfl (wlt (wf_sI (wf_sI (wf_sI (wf_sI (wf_sI (wf_sI (wf_sI hw))))))) (by decide)) ?_
  refine ev_eqH (h' := sI (sI (sI (sI (sI (sI (sI (sI h 12 (flI 0 (h.2.1 12) 12)) 13 (flI 0 (h.2.1 13) 12)) 14 (flI 0 (h.2.1 14) 12)) 15 (flI 0 (h.2.1 15) 12)) 16 (flI 1 (h.2.1 16) 6)) 17 (flI 10 (h.2.1 17) 6)) 18 (flI (-1) (h.2.1 18) 64)) 11 (upd (h.2.1 11) 7 0)) (by rfl) ?_
  refine ev_aload_n (pc := 62) dX8_clear_62 rfl ?_
  refine ev_iconst (pc := 63) (v := 0) dX8_clear_63 (by decide) ?_
  refine ev_putI (pc := 64) dX8_clear_64 fX8_46 rfl (wlt (wf_sI (wf_sI (wf_sI (wf_sI (wf_sI (wf_sI (wf_sI (wf_sI hw)))))))) (by decide)) ?_
  refine ev_eqH (h' := sI (sI (sI (sI (sI (sI (sI (sI h 12 (flI 0 (h.2.1 12) 12)) 13 (flI 0 (h.2.1 13) 12)) 14 (flI 0 (h.2.1 14) 12)) 15 (flI 0 (h.2.1 15) 12)) 16 (flI 1 (h.2.1 16) 6)) 17 (flI 10 (h.2.1 17) 6)) 18 (flI (-1) (h.2.1 18) 64)) 11 (upd (upd (h.2.1 11) 7 0) 8 0)) (by exact sI_sI _ _ _ _) ?_
  refine ev_aload_n (pc := 67) dX8_clear_67 rfl ?_
  refine ev_bipush (pc := 68) (v := 10) dX8_clear_68 (by decide) ?_
  refine ev_putI (pc := 70) dX8_clear_70 fX8_49 rfl (wlt (wf_sI (wf_sI (wf_sI (wf_sI (wf_sI (wf_sI (wf_sI (wf_sI hw)))))))) (by decide)) ?_
  refine ev_eqH (h' := sI (sI (sI (sI (sI (sI (sI (sI h 12 (flI 0 (h.2.1 12) 12)) 13 (flI 0 (h.2.1 13) 12)) 14 (flI 0 (h.2.1 14) 12)) 15 (flI 0 (h.2.1 15) 12)) 16 (flI 1 (h.2.1 16) 6)) 17 (flI 10 (h.2.1 17) 6)) 18 (flI (-1) (h.2.1 18) 64)) 11 (upd (upd (upd (h.2.1 11) 7 0) 8 0) 9 10)) (by exact sI_sI _ _ _ _) ?_
  refine ev_aload_n (pc := 73) dX8_clear_73 rfl ?_
  refine ev_iconst (pc := 74) (v := 0) dX8_clear_74 (by decide) ?_
  refine ev_putZ (pc := 75) dX8_clear_75 fX8_52 rfl (wlt (wf_sI (wf_sI (wf_sI (wf_sI (wf_sI (wf_sI (wf_sI (wf_sI hw)))))))) (by decide)) (by decide) ?_
  refine ev_eqH (h' := sI (sI (sI (sI (sI (sI (sI (sI h 12 (flI 0 (h.2.1 12) 12)) 13 (flI 0 (h.2.1 13) 12)) 14 (flI 0 (h.2.1 14) 12)) 15 (flI 0 (h.2.1 15) 12)) 16 (flI 1 (h.2.1 16) 6)) 17 (flI 10 (h.2.1 17) 6)) 18 (flI (-1) (h.2.1 18) 64)) 11 (upd (upd (upd (upd (h.2.1 11) 7 0) 8 0) 9 10) 10 0)) (by exact sI_sI _ _ _ _) ?_
  refine ev_aload_n (pc := 78) dX8_clear_78 rfl ?_
  refine ev_iconst (pc := 79) (v := 0) dX8_clear_79 (by decide) ?_
  refine ev_putI (pc := 80) dX8_clear_80 fX8_56 rfl (wlt (wf_sI (wf_sI (wf_sI (wf_sI (wf_sI (wf_sI (wf_sI (wf_sI hw)))))))) (by decide)) ?_
  refine ev_eqH (h' := sI (sI (sI (sI (sI (sI (sI (sI h 12 (flI 0 (h.2.1 12) 12)) 13 (flI 0 (h.2.1 13) 12)) 14 (flI 0 (h.2.1 14) 12)) 15 (flI 0 (h.2.1 15) 12)) 16 (flI 1 (h.2.1 16) 6)) 17 (flI 10 (h.2.1 17) 6)) 18 (flI (-1) (h.2.1 18) 64)) 11 (upd (upd (upd (upd (upd (h.2.1 11) 7 0) 8 0) 9 10) 10 0) 11 0)) (by exact sI_sI _ _ _ _) ?_
  refine ev_ret (pc := 83) dX8_clear_83 rfl ?_
  · exact ⟨rfl, rfl⟩
