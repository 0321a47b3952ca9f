theorem cn_X10_within (E : ME) (h : AH) (v a b : Int32)  : Con E mX10_within 0 0 0 [.int v, .int a, .int b] h (fun r h' => r = some (.int (bI (a ≤ v ∧ v ≤ b))) ∧ h' = h) := by
  refine con_of2 (L := [some (.int v), some (.int a), some (.int b)]) rfl (Nat.le_of_ble_eq_true rfl) rfl ?_
  refine ev_iload_n (pc := 0) dX10_within_0 rfl ?_
  refine ev_iload_n (pc := 1) dX10_within_1 rfl ?_
  refine ev_icmp_lt (pc := 2) (tgt := 14) dX10_within_2 (by decide) (fun zc2 => ?_) (fun zc2 => ?_)
  · -- lt at 2: taken
    refine ev_iconst (pc := 14) (v := 0) dX10_within_14 (by decide) ?_
    refine ev_iret (pc := 15) dX10_within_15 rfl ?_ ?_
    · first | rfl | exact nar_bI _ | (simp only [*]; exact nar_bI _) | (simp [narrow, *]; done)
    · refine ⟨?_, rfl⟩
      simp only [bI, i_le, i_lt] at *
      (try split) <;> first | rfl | (exfalso; omega)
  · -- lt at 2: not taken
    refine ev_iload_n (pc := 5) dX10_within_5 rfl ?_
    refine ev_iload_n (pc := 6) dX10_within_6 rfl ?_
    refine ev_icmp_gt (pc := 7) (tgt := 14) dX10_within_7 (by decide) (fun zc7 => ?_) (fun zc7 => ?_)
    · -- gt at 7: taken
      refine ev_iconst (pc := 14) (v := 0) dX10_within_14 (by decide) ?_
      refine ev_iret (pc := 15) dX10_within_15 rfl ?_ ?_
      · first | rfl | exact nar_bI _ | (simp only [*]; exact nar_bI _) | (simp [narrow, *]; done)
      · refine ⟨?_, rfl⟩
        simp only [bI, i_le, i_lt] at *
        (try split) <;> first | rfl | (exfalso; omega)
    · -- gt at 7: not taken
      refine ev_iconst (pc := 10) (v := 1) dX10_within_10 (by decide) ?_
      refine ev_goto (pc := 11) (tgt := 15) dX10_within_11 (by decide) ?_
      refine ev_iret (pc := 15) dX10_within_15 rfl ?_ ?_
      · first | rfl | exact nar_bI _ | (simp only [*]; exact nar_bI _) | (simp [narrow, *]; done)
      · refine ⟨?_, rfl⟩
        simp only [bI, i_le, i_lt] at *
        (try split) <;> first | rfl | (exfalso; omega)
theorem cn_X10_isCell (E : ME) (h : AH) (v : Int32)  : Con E mX10_isCell 0 0 0 [.int v] h (fun r h' => r = some (.int (bI (0 ≤ v ∧ v < 64))) ∧ h' = h) := by
  refine con_of2 (L := [some (.int v)]) rfl (Nat.le_of_ble_eq_true rfl) rfl ?_
  refine ev_iload_n (pc := 0) dX10_isCell_0 rfl ?_
  refine ev_if_lt (pc := 1) (tgt := 14) dX10_isCell_1 (by decide) (fun zc1 => ?_) (fun zc1 => ?_)
  · -- lt at 1: taken
    refine ev_iconst (pc := 14) (v := 0) dX10_isCell_14 (by decide) ?_
    refine ev_iret (pc := 15) dX10_isCell_15 rfl ?_ ?_
    · first | rfl | exact nar_bI _ | (simp only [*]; exact nar_bI _) | (simp [narrow, *]; done)
    · refine ⟨?_, rfl⟩
      simp only [bI, i_le, i_lt] at *
      (try split) <;> first | rfl | (exfalso; omega)
  · -- lt at 1: not taken
    refine ev_iload_n (pc := 4) dX10_isCell_4 rfl ?_
    refine ev_bipush (pc := 5) (v := 64) dX10_isCell_5 (by decide) ?_
    refine ev_icmp_ge (pc := 7) (tgt := 14) dX10_isCell_7 (by decide) (fun zc7 => ?_) (fun zc7 => ?_)
    · -- ge at 7: taken
      refine ev_iconst (pc := 14) (v := 0) dX10_isCell_14 (by decide) ?_
      refine ev_iret (pc := 15) dX10_isCell_15 rfl ?_ ?_
      · first | rfl | exact nar_bI _ | (simp only [*]; exact nar_bI _) | (simp [narrow, *]; done)
      · refine ⟨?_, rfl⟩
        simp only [bI, i_le, i_lt] at *
        (try split) <;> first | rfl | (exfalso; omega)
    · -- ge at 7: not taken
      refine ev_iconst (pc := 10) (v := 1) dX10_isCell_10 (by decide) ?_
      refine ev_goto (pc := 11) (tgt := 15) dX10_isCell_11 (by decide) ?_
      refine ev_iret (pc := 15) dX10_isCell_15 rfl ?_ ?_
      · first | rfl | exact nar_bI _ | (simp only [*]; exact nar_bI _) | (simp [narrow, *]; done)
      · refine ⟨?_, rfl⟩
        simp only [bI, i_le, i_lt] at *
        (try split) <;> first | rfl | (exfalso; omega)
theorem cn_X10_isSheet (E : ME) (h : AH) (v : Int32)  : Con E mX10_isSheet 1 0 0 [.int v] h (fun r h' => r = some (.int (bI (0 ≤ v ∧ v ≤ 3))) ∧ h' = h) := by
  refine con_of2 (L := [some (.int v)]) rfl (Nat.le_of_ble_eq_true rfl) rfl ?_
  refine ev_iload_n (pc := 0) dX10_isSheet_0 rfl ?_
  refine ev_iconst (pc := 1) (v := 0) dX10_isSheet_1 (by decide) ?_
  refine ev_iconst (pc := 2) (v := 3) dX10_isSheet_2 (by decide) ?_
  refine ev_callSv (S := []) (pc := 3) dX10_isSheet_3 kX10_within lX10_123 sX10_within (cn_X10_within E h v 0 3) rfl rfl (Nat.le_of_ble_eq_true rfl) ⟨Nat.le_of_ble_eq_true rfl, Nat.le_of_ble_eq_true rfl⟩ ⟨Nat.le_of_ble_eq_true rfl, Nat.le_of_ble_eq_true rfl⟩ ?_
  refine ev_iret (pc := 6) dX10_isSheet_6 rfl ?_ ?_
  · first | rfl | exact nar_bI _ | (simp only [*]; exact nar_bI _) | (simp [narrow, *]; done)
  · exact ⟨rfl, rfl⟩
theorem cn_X10_has (E : ME) (h : AH) (a b : Int32)  : Con E mX10_has 0 0 0 [.int a, .int b] h (fun r h' => r = some (.int (bI (¬ (a >>> (b &&& 31)) &&& 1 = 0))) ∧ h' = h) := by
  refine con_of2 (L := [some (.int a), some (.int b)]) rfl (Nat.le_of_ble_eq_true rfl) rfl ?_
  refine ev_iload_n (pc := 0) dX10_has_0 rfl ?_
  refine ev_iload_n (pc := 1) dX10_has_1 rfl ?_
  refine ev_ishr (pc := 2) dX10_has_2 ?_
  refine ev_iconst (pc := 3) (v := 1) dX10_has_3 (by decide) ?_
  refine ev_iand (pc := 4) dX10_has_4 ?_
  refine ev_if_eq (pc := 5) (tgt := 12) dX10_has_5 (by decide) (fun zc5 => ?_) (fun zc5 => ?_)
  · -- eq at 5: taken
    refine ev_iconst (pc := 12) (v := 0) dX10_has_12 (by decide) ?_
    refine ev_iret (pc := 13) dX10_has_13 rfl ?_ ?_
    · first | rfl | exact nar_bI _ | (simp only [*]; exact nar_bI _) | (simp [narrow, *]; done)
    · refine ⟨?_, rfl⟩
      first | (rw [bI_f (by simpa using zc5)]) | (rw [bI_t (by simpa using zc5)])
  · -- eq at 5: not taken
    refine ev_iconst (pc := 8) (v := 1) dX10_has_8 (by decide) ?_
    refine ev_goto (pc := 9) (tgt := 13) dX10_has_9 (by decide) ?_
    refine ev_iret (pc := 13) dX10_has_13 rfl ?_ ?_
    · first | rfl | exact nar_bI _ | (simp only [*]; exact nar_bI _) | (simp [narrow, *]; done)
    · refine ⟨?_, rfl⟩
      first | (rw [bI_f (by simpa using zc5)]) | (rw [bI_t (by simpa using zc5)])
