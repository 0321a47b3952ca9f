def toH (h : AH) : AH := if h.2.1 36 7 = h.2.1 25 7 then h else seH h
theorem wf_to {h : AH} (hw : WF h) : WF (toH h) := by
  unfold toH
  by_cases e : h.2.1 36 7 = h.2.1 25 7
  · rw [if_pos e]; exact hw
  · rw [if_neg e]; exact wf_sI (wf_seG hw)
theorem cn_X10_together (E : ME) (h : AH) (zv : Int32) (hw : WF h) : Con E mX10_together 5 0 0 [.ref 0, .int zv] h (fun r h' => r = some (.int (if 0 ≤ zv ∧ zv ≤ 3 then (if zv = 0 then (toH h).2.1 36 3 else if zv = 1 then (toH h).2.1 36 4 else if zv = 2 then (toH h).2.1 36 5 else (toH h).2.1 36 6) else -1)) ∧ h' = if 0 ≤ zv ∧ zv ≤ 3 then toH h else h) := by
  refine con_of2 (L := [some (.ref 0), some (.int zv)]) rfl (Nat.le_of_ble_eq_true rfl) rfl ?_
  refine ev_iload_n (pc := 0) dX10_together_0 rfl ?_
  refine ev_iconst (pc := 1) (v := 0) dX10_together_1 (by decide) ?_
  refine ev_iconst (pc := 2) (v := 3) dX10_together_2 (by decide) ?_
  refine ev_callSv (S := []) (pc := 3) dX10_together_3 kX10_within lX10_123 sX10_within (cn_X10_within E h zv 0 3) rfl rfl (Nat.le_of_ble_eq_true rfl) ⟨Nat.le_of_ble_eq_true rfl, Nat.le_of_ble_eq_true rfl⟩ ⟨Nat.le_of_ble_eq_true rfl, Nat.le_of_ble_eq_true rfl⟩ ?_
  refine ev_if_ne (pc := 6) (tgt := 11) dX10_together_6 (by decide) (fun zc6 => ?_) (fun zc6 => ?_)
  · -- ne at 6: taken
    refine ev_aload_n (pc := 11) dX10_together_11 rfl ?_
    refine ev_getR (pc := 12) (q := 36) dX10_together_12 fX10_73 rfl (wlt hw (by decide)) (wr hw rfl) ?_
    refine ev_aload_n (pc := 15) dX10_together_15 rfl ?_
    refine ev_getR (pc := 16) (q := 25) dX10_together_16 fX10_45 rfl (wlt hw (by decide)) (wr hw rfl) ?_
    refine ev_callV0 (S := []) (pc := 19) dX10_together_19 kX4_search lX10_356 vX4_search (cn_X4_search E h hw) rfl rfl (wlt hw (by decide)) rfl rfl (Nat.le_of_ble_eq_true rfl) ⟨Nat.le_of_ble_eq_true rfl, Nat.le_of_ble_eq_true rfl⟩ ⟨Nat.le_of_ble_eq_true rfl, Nat.le_of_ble_eq_true rfl⟩ ?_
    refine ev_eqH (h' := (toH h)) rfl ?_
    refine ev_iload_n (pc := 22) dX10_together_22 rfl ?_
    refine ev_nmI (fun zsv ezsv => ?_)
    by_cases zq0 : zsv = 0
    · subst zq0
      refine ev_tabIn (pc := 23) (off := 25) (tgt := 48) dX10_together_23 (by decide) (by decide) (by decide +kernel) (by decide) ?_
      refine ev_aload_n (pc := 48) dX10_together_48 rfl ?_
      refine ev_getR (pc := 49) (q := 36) dX10_together_49 fX10_73 rfl (wlt (wf_to hw) (by decide)) (wr (wf_to hw) rfl) ?_
      refine ev_callVv (S := []) (pc := 52) dX10_together_52 kX4_bestSum lX10_360 vX4_bestSum (cn_X4_bestSum E (toH h) (wf_to hw)) rfl rfl (wlt (wf_to hw) (by decide)) rfl rfl (Nat.le_of_ble_eq_true rfl) ⟨Nat.le_of_ble_eq_true rfl, Nat.le_of_ble_eq_true rfl⟩ ⟨Nat.le_of_ble_eq_true rfl, Nat.le_of_ble_eq_true rfl⟩ ?_
      refine ev_iret (pc := 55) dX10_together_55 rfl ?_ ?_
      · rfl
      · have hG := bI_n0.mp zc6
        subst ezsv
        rw [if_pos hG, if_pos hG]
        exact ⟨rfl, rfl⟩
    by_cases zq1 : zsv = 1
    · subst zq1
      refine ev_tabIn (pc := 23) (off := 33) (tgt := 56) dX10_together_23 (by decide) (by decide) (by decide +kernel) (by decide) ?_
      refine ev_aload_n (pc := 56) dX10_together_56 rfl ?_
      refine ev_getR (pc := 57) (q := 36) dX10_together_57 fX10_73 rfl (wlt (wf_to hw) (by decide)) (wr (wf_to hw) rfl) ?_
      refine ev_callVv (S := []) (pc := 60) dX10_together_60 kX4_bestPlaces lX10_363 vX4_bestPlaces (cn_X4_bestPlaces E (toH h) (wf_to hw)) rfl rfl (wlt (wf_to hw) (by decide)) rfl rfl (Nat.le_of_ble_eq_true rfl) ⟨Nat.le_of_ble_eq_true rfl, Nat.le_of_ble_eq_true rfl⟩ ⟨Nat.le_of_ble_eq_true rfl, Nat.le_of_ble_eq_true rfl⟩ ?_
      refine ev_iret (pc := 63) dX10_together_63 rfl ?_ ?_
      · rfl
      · have hG := bI_n0.mp zc6
        subst ezsv
        rw [if_pos hG, if_pos hG]
        exact ⟨rfl, rfl⟩
    by_cases zq2 : zsv = 2
    · subst zq2
      refine ev_tabIn (pc := 23) (off := 41) (tgt := 64) dX10_together_23 (by decide) (by decide) (by decide +kernel) (by decide) ?_
      refine ev_aload_n (pc := 64) dX10_together_64 rfl ?_
      refine ev_getR (pc := 65) (q := 36) dX10_together_65 fX10_73 rfl (wlt (wf_to hw) (by decide)) (wr (wf_to hw) rfl) ?_
      refine ev_callVv (S := []) (pc := 68) dX10_together_68 kX4_bestTurns lX10_366 vX4_bestTurns (cn_X4_bestTurns E (toH h) (wf_to hw)) rfl rfl (wlt (wf_to hw) (by decide)) rfl rfl (Nat.le_of_ble_eq_true rfl) ⟨Nat.le_of_ble_eq_true rfl, Nat.le_of_ble_eq_true rfl⟩ ⟨Nat.le_of_ble_eq_true rfl, Nat.le_of_ble_eq_true rfl⟩ ?_
      refine ev_iret (pc := 71) dX10_together_71 rfl ?_ ?_
      · rfl
      · have hG := bI_n0.mp zc6
        subst ezsv
        rw [if_pos hG, if_pos hG]
        exact ⟨rfl, rfl⟩
    have zhout : zsv.toInt < 0 ∨ 2 < zsv.toInt := by
      have nzq0 := i32_ne zq0
      have nzq1 := i32_ne zq1
      have nzq2 := i32_ne zq2
      replace nzq0 : ¬ zsv.toInt = 0 := nzq0
      replace nzq1 : ¬ zsv.toInt = 1 := nzq1
      replace nzq2 : ¬ zsv.toInt = 2 := nzq2
      omega
    refine ev_tabOut (pc := 23) (tgt := 72) dX10_together_23 zhout (by decide) ?_
    refine ev_aload_n (pc := 72) dX10_together_72 rfl ?_
    refine ev_getR (pc := 73) (q := 36) dX10_together_73 fX10_73 rfl (wlt (wf_to hw) (by decide)) (wr (wf_to hw) rfl) ?_
    refine ev_callVv (S := []) (pc := 76) dX10_together_76 kX4_bestWays lX10_369 vX4_bestWays (cn_X4_bestWays E (toH h) (wf_to hw)) rfl rfl (wlt (wf_to hw) (by decide)) rfl rfl (Nat.le_of_ble_eq_true rfl) ⟨Nat.le_of_ble_eq_true rfl, Nat.le_of_ble_eq_true rfl⟩ ⟨Nat.le_of_ble_eq_true rfl, Nat.le_of_ble_eq_true rfl⟩ ?_
    refine ev_iret (pc := 79) dX10_together_79 rfl ?_ ?_
    · rfl
    · have hG := bI_n0.mp zc6
      subst ezsv
      rw [if_pos hG, if_pos hG]
      rw [if_neg zq0, if_neg zq1, if_neg zq2]
      exact ⟨rfl, rfl⟩
  · -- ne at 6: not taken
    refine ev_iconst (pc := 9) (v := (-1)) dX10_together_9 (by decide) ?_
    refine ev_iret (pc := 10) dX10_together_10 rfl ?_ ?_
    · rfl
    · rw [if_neg (bI_0.mp zc6), if_neg (bI_0.mp zc6)]
      exact ⟨rfl, rfl⟩
