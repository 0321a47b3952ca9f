/-- a byte's kind: letter, digit, end of a line, none -/
def kdI (zc : Int32) : Int32 := if 97 ≤ zc ∧ zc ≤ 122 then 2 else if 48 ≤ zc ∧ zc ≤ 57 then 3 else if zc = 59 then 4 else 0
theorem nlt_le {za zb : Int32} (h : ¬ za < zb) : zb ≤ za := by
  rw [i_le]
  rw [i_lt] at h
  omega
theorem le_nlt {za zb : Int32} (h : zb ≤ za) : ¬ za < zb := by
  rw [i_le] at h
  rw [i_lt]
  omega
theorem cn_X9_tokenPlace (E : ME) (h : AH)  (hw : WF h) : Con E mX9_tokenPlace 0 0 0 [.ref 1] h (fun r h' => r = some (.int (h.2.1 1 2)) ∧ h' = h) := by
  refine con_of2 (L := [some (.ref 1)]) rfl (Nat.le_of_ble_eq_true rfl) rfl ?_
  refine ev_aload_n (pc := 0) dX9_tokenPlace_0 rfl ?_
  refine ev_getI (pc := 1) dX9_tokenPlace_1 fX9_17 rfl (wlt hw (by decide)) ?_
  refine ev_iret (pc := 4) dX9_tokenPlace_4 rfl ?_ ?_
  · rfl
  · exact ⟨rfl, rfl⟩
theorem cn_X9_tokenLength (E : ME) (h : AH)  (hw : WF h) : Con E mX9_tokenLength 0 0 0 [.ref 1] h (fun r h' => r = some (.int (h.2.1 1 3 - h.2.1 1 2)) ∧ h' = h) := by
  refine con_of2 (L := [some (.ref 1)]) rfl (Nat.le_of_ble_eq_true rfl) rfl ?_
  refine ev_aload_n (pc := 0) dX9_tokenLength_0 rfl ?_
  refine ev_getI (pc := 1) dX9_tokenLength_1 fX9_20 rfl (wlt hw (by decide)) ?_
  refine ev_aload_n (pc := 4) dX9_tokenLength_4 rfl ?_
  refine ev_getI (pc := 5) dX9_tokenLength_5 fX9_17 rfl (wlt hw (by decide)) ?_
  refine ev_isub (pc := 8) dX9_tokenLength_8 ?_
  refine ev_iret (pc := 9) dX9_tokenLength_9 rfl ?_ ?_
  · rfl
  · exact ⟨rfl, rfl⟩
theorem cn_X9_kindOf (E : ME) (h : AH) (zc : Int32)  : Con E mX9_kindOf 0 0 0 [.int zc] h (fun r h' => r = some (.int (kdI zc)) ∧ h' = h) := by
  refine con_of2 (L := [some (.int zc)]) rfl (Nat.le_of_ble_eq_true rfl) rfl ?_
  refine ev_iload_n (pc := 0) dX9_kindOf_0 rfl ?_
  refine ev_bipush (pc := 1) (v := 97) dX9_kindOf_1 (by decide) ?_
  refine ev_icmp_lt (pc := 3) (tgt := 14) dX9_kindOf_3 (by decide) (fun zc3 => ?_) (fun zc3 => ?_)
  · -- lt at 3: taken
    refine ev_iload_n (pc := 14) dX9_kindOf_14 rfl ?_
    refine ev_bipush (pc := 15) (v := 48) dX9_kindOf_15 (by decide) ?_
    refine ev_icmp_lt (pc := 17) (tgt := 28) dX9_kindOf_17 (by decide) (fun zc17 => ?_) (fun zc17 => ?_)
    · -- lt at 17: taken
      refine ev_iload_n (pc := 28) dX9_kindOf_28 rfl ?_
      refine ev_bipush (pc := 29) (v := 59) dX9_kindOf_29 (by decide) ?_
      refine ev_icmp_ne (pc := 31) (tgt := 38) dX9_kindOf_31 (by decide) (fun zc31 => ?_) (fun zc31 => ?_)
      · -- ne at 31: taken
        refine ev_iconst (pc := 38) (v := 0) dX9_kindOf_38 (by decide) ?_
        refine ev_iret (pc := 39) dX9_kindOf_39 rfl ?_ ?_
        · rfl
        · refine ⟨?_, rfl⟩
          unfold kdI
          rw [if_neg (fun z => le_nlt z.1 zc3), if_neg (fun z => le_nlt z.1 zc17), if_neg zc31]
      · -- ne at 31: not taken
        refine ev_iconst (pc := 34) (v := 4) dX9_kindOf_34 (by decide) ?_
        refine ev_goto (pc := 35) (tgt := 39) dX9_kindOf_35 (by decide) ?_
        refine ev_iret (pc := 39) dX9_kindOf_39 rfl ?_ ?_
        · rfl
        · refine ⟨?_, rfl⟩
          unfold kdI
          rw [if_neg (fun z => le_nlt z.1 zc3), if_neg (fun z => le_nlt z.1 zc17), if_pos zc31]
    · -- lt at 17: not taken
      refine ev_iload_n (pc := 20) dX9_kindOf_20 rfl ?_
      refine ev_bipush (pc := 21) (v := 57) dX9_kindOf_21 (by decide) ?_
      refine ev_icmp_gt (pc := 23) (tgt := 28) dX9_kindOf_23 (by decide) (fun zc23 => ?_) (fun zc23 => ?_)
      · -- gt at 23: taken
        refine ev_iload_n (pc := 28) dX9_kindOf_28 rfl ?_
        refine ev_bipush (pc := 29) (v := 59) dX9_kindOf_29 (by decide) ?_
        refine ev_icmp_ne (pc := 31) (tgt := 38) dX9_kindOf_31 (by decide) (fun zc31 => ?_) (fun zc31 => ?_)
        · -- ne at 31: taken
          refine ev_iconst (pc := 38) (v := 0) dX9_kindOf_38 (by decide) ?_
          refine ev_iret (pc := 39) dX9_kindOf_39 rfl ?_ ?_
          · rfl
          · refine ⟨?_, rfl⟩
            unfold kdI
            rw [if_neg (fun z => le_nlt z.1 zc3), if_neg (fun z => le_nlt z.2 zc23), if_neg zc31]
        · -- ne at 31: not taken
          refine ev_iconst (pc := 34) (v := 4) dX9_kindOf_34 (by decide) ?_
          refine ev_goto (pc := 35) (tgt := 39) dX9_kindOf_35 (by decide) ?_
          refine ev_iret (pc := 39) dX9_kindOf_39 rfl ?_ ?_
          · rfl
          · refine ⟨?_, rfl⟩
            unfold kdI
            rw [if_neg (fun z => le_nlt z.1 zc3), if_neg (fun z => le_nlt z.2 zc23), if_pos zc31]
      · -- gt at 23: not taken
        refine ev_iconst (pc := 26) (v := 3) dX9_kindOf_26 (by decide) ?_
        refine ev_iret (pc := 27) dX9_kindOf_27 rfl ?_ ?_
        · rfl
        · refine ⟨?_, rfl⟩
          unfold kdI
          rw [if_neg (fun z => le_nlt z.1 zc3), if_pos ⟨nlt_le zc17, nlt_le zc23⟩]
  · -- lt at 3: not taken
    refine ev_iload_n (pc := 6) dX9_kindOf_6 rfl ?_
    refine ev_bipush (pc := 7) (v := 122) dX9_kindOf_7 (by decide) ?_
    refine ev_icmp_gt (pc := 9) (tgt := 14) dX9_kindOf_9 (by decide) (fun zc9 => ?_) (fun zc9 => ?_)
    · -- gt at 9: taken
      refine ev_iload_n (pc := 14) dX9_kindOf_14 rfl ?_
      refine ev_bipush (pc := 15) (v := 48) dX9_kindOf_15 (by decide) ?_
      refine ev_icmp_lt (pc := 17) (tgt := 28) dX9_kindOf_17 (by decide) (fun zc17 => ?_) (fun zc17 => ?_)
      · -- lt at 17: taken
        refine ev_iload_n (pc := 28) dX9_kindOf_28 rfl ?_
        refine ev_bipush (pc := 29) (v := 59) dX9_kindOf_29 (by decide) ?_
        refine ev_icmp_ne (pc := 31) (tgt := 38) dX9_kindOf_31 (by decide) (fun zc31 => ?_) (fun zc31 => ?_)
        · -- ne at 31: taken
          refine ev_iconst (pc := 38) (v := 0) dX9_kindOf_38 (by decide) ?_
          refine ev_iret (pc := 39) dX9_kindOf_39 rfl ?_ ?_
          · rfl
          · refine ⟨?_, rfl⟩
            unfold kdI
            rw [if_neg (fun z => le_nlt z.2 zc9), if_neg (fun z => le_nlt z.1 zc17), if_neg zc31]
        · -- ne at 31: not taken
          refine ev_iconst (pc := 34) (v := 4) dX9_kindOf_34 (by decide) ?_
          refine ev_goto (pc := 35) (tgt := 39) dX9_kindOf_35 (by decide) ?_
          refine ev_iret (pc := 39) dX9_kindOf_39 rfl ?_ ?_
          · rfl
          · refine ⟨?_, rfl⟩
            unfold kdI
            rw [if_neg (fun z => le_nlt z.2 zc9), if_neg (fun z => le_nlt z.1 zc17), if_pos zc31]
      · -- lt at 17: not taken
        refine ev_iload_n (pc := 20) dX9_kindOf_20 rfl ?_
        refine ev_bipush (pc := 21) (v := 57) dX9_kindOf_21 (by decide) ?_
        refine ev_icmp_gt (pc := 23) (tgt := 28) dX9_kindOf_23 (by decide) (fun zc23 => ?_) (fun zc23 => ?_)
        · -- gt at 23: taken
          refine ev_iload_n (pc := 28) dX9_kindOf_28 rfl ?_
          refine ev_bipush (pc := 29) (v := 59) dX9_kindOf_29 (by decide) ?_
          refine ev_icmp_ne (pc := 31) (tgt := 38) dX9_kindOf_31 (by decide) (fun zc31 => ?_) (fun zc31 => ?_)
          · -- ne at 31: taken
            refine ev_iconst (pc := 38) (v := 0) dX9_kindOf_38 (by decide) ?_
            refine ev_iret (pc := 39) dX9_kindOf_39 rfl ?_ ?_
            · rfl
            · refine ⟨?_, rfl⟩
              unfold kdI
              rw [if_neg (fun z => le_nlt z.2 zc9), if_neg (fun z => le_nlt z.2 zc23), if_neg zc31]
          · -- ne at 31: not taken
            refine ev_iconst (pc := 34) (v := 4) dX9_kindOf_34 (by decide) ?_
            refine ev_goto (pc := 35) (tgt := 39) dX9_kindOf_35 (by decide) ?_
            refine ev_iret (pc := 39) dX9_kindOf_39 rfl ?_ ?_
            · rfl
            · refine ⟨?_, rfl⟩
              unfold kdI
              rw [if_neg (fun z => le_nlt z.2 zc9), if_neg (fun z => le_nlt z.2 zc23), if_pos zc31]
        · -- gt at 23: not taken
          refine ev_iconst (pc := 26) (v := 3) dX9_kindOf_26 (by decide) ?_
          refine ev_iret (pc := 27) dX9_kindOf_27 rfl ?_ ?_
          · rfl
          · refine ⟨?_, rfl⟩
            unfold kdI
            rw [if_neg (fun z => le_nlt z.2 zc9), if_pos ⟨nlt_le zc17, nlt_le zc23⟩]
    · -- gt at 9: not taken
      refine ev_iconst (pc := 12) (v := 2) dX9_kindOf_12 (by decide) ?_
      refine ev_iret (pc := 13) dX9_kindOf_13 rfl ?_ ?_
      · rfl
      · refine ⟨?_, rfl⟩
        unfold kdI
        rw [if_pos ⟨nlt_le zc3, nlt_le zc9⟩]
