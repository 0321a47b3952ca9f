theorem cn_X11_thing (E : ME) (h : AH) (t what : Int32) (m : Nat) (hw : WF h) (hm : h.2.1 49 14 = nI m) (hm2 : m ≤ 12) : Con E mX11_thing 2 0 0 [.ref 49, .int t, .int what] h (fun r h' => r = some (.int (if (0 ≤ t ∧ t ≤ h.2.1 49 14 - 1) ∧ (0 ≤ what ∧ what ≤ 3) then (if what = 0 then h.2.1 53 t.toNatClampNeg else if what = 1 then h.2.1 54 t.toNatClampNeg else if what = 2 then h.2.1 55 t.toNatClampNeg else befF m (h.2.1 55) (h.2.1 66) t.toNatClampNeg) else -1)) ∧ h' = if (0 ≤ t ∧ t ≤ h.2.1 49 14 - 1) ∧ (0 ≤ what ∧ what ≤ 3) then sI h 66 (befF m (h.2.1 55) (h.2.1 66)) else h) := by
  refine con_of2 (L := [some (.ref 49), some (.int t), some (.int what)]) rfl (Nat.le_of_ble_eq_true rfl) rfl ?_
  refine ev_aload_n (pc := 0) dX11_thing_0 rfl ?_
  refine ev_iload_n (pc := 1) dX11_thing_1 rfl ?_
  refine ev_callVv (S := []) (pc := 2) dX11_thing_2 kX11_isThing lX11_194 vX11_isThing (cn_X11_isThing E h t hw) rfl rfl (wlt hw (by decide)) rfl rfl (Nat.le_of_ble_eq_true rfl) ⟨Nat.le_of_ble_eq_true rfl, Nat.le_of_ble_eq_true rfl⟩ ⟨Nat.le_of_ble_eq_true rfl, Nat.le_of_ble_eq_true rfl⟩ ?_
  refine ev_if_eq (pc := 5) (tgt := 20) dX11_thing_5 (by decide) (fun zc5 => ?_) (fun zc5 => ?_)
  · -- eq at 5: taken
    refine ev_iconst (pc := 20) (v := (-1)) dX11_thing_20 (by decide) ?_
    refine ev_iret (pc := 21) dX11_thing_21 rfl ?_ ?_
    · rfl
    · simp only [bI_0, bI_n0, Classical.not_not] at *
      have hC : ¬ ((0 ≤ t ∧ t ≤ h.2.1 49 14 - 1) ∧ (0 ≤ what ∧ what ≤ 3)) := fun q => by first | exact zc5 q.1 | exact zc17 q.2
      rw [if_neg hC]
      try rw [if_neg hC]
      exact ⟨rfl, rfl⟩
  · -- eq at 5: not taken
    refine ev_iload_n (pc := 8) dX11_thing_8 rfl ?_
    refine ev_i2l (pc := 9) dX11_thing_9 ?_
    refine ev_lconst (pc := 10) (v := 0) dX11_thing_10 (by decide) ?_
    refine ev_ldc2 (pc := 11) (v := 3) dX11_thing_11 kcX11_197 ?_
    refine ev_callSv (S := []) (pc := 14) dX11_thing_14 kX11_in lX11_96 sX11_in (cn_X11_inC E h what 0 3 _ _ _ rfl (by decide) (by decide)) rfl rfl (Nat.le_of_ble_eq_true rfl) ⟨Nat.le_of_ble_eq_true rfl, Nat.le_of_ble_eq_true rfl⟩ ⟨Nat.le_of_ble_eq_true rfl, Nat.le_of_ble_eq_true rfl⟩ ?_
    refine ev_if_ne (pc := 17) (tgt := 22) dX11_thing_17 (by decide) (fun zc17 => ?_) (fun zc17 => ?_)
    · -- ne at 17: taken
      refine ev_aload_n (pc := 22) dX11_thing_22 rfl ?_
      refine ev_callV0 (S := []) (pc := 23) dX11_thing_23 kX11_layBefore lX11_199 vX11_layBefore (cn_X11_layBefore E h m hw hm hm2) rfl rfl (wlt hw (by decide)) rfl rfl (Nat.le_of_ble_eq_true rfl) ⟨Nat.le_of_ble_eq_true rfl, Nat.le_of_ble_eq_true rfl⟩ ⟨Nat.le_of_ble_eq_true rfl, Nat.le_of_ble_eq_true rfl⟩ ?_
      refine ev_eqH (h' := sI h 66 (befF m (h.2.1 55) (h.2.1 66))) rfl ?_
      refine ev_iload_n (pc := 26) dX11_thing_26 rfl ?_
      refine ev_if_ne (pc := 27) (tgt := 39) dX11_thing_27 (by decide) (fun zc27 => ?_) (fun zc27 => ?_)
      · -- ne at 27: taken
        refine ev_iload_n (pc := 39) dX11_thing_39 rfl ?_
        refine ev_iconst (pc := 40) (v := 1) dX11_thing_40 (by decide) ?_
        refine ev_icmp_ne (pc := 41) (tgt := 53) dX11_thing_41 (by decide) (fun zc41 => ?_) (fun zc41 => ?_)
        · -- ne at 41: taken
          refine ev_iload_n (pc := 53) dX11_thing_53 rfl ?_
          refine ev_iconst (pc := 54) (v := 2) dX11_thing_54 (by decide) ?_
          refine ev_icmp_ne (pc := 55) (tgt := 67) dX11_thing_55 (by decide) (fun zc55 => ?_) (fun zc55 => ?_)
          · -- ne at 55: taken
            refine ev_aload_n (pc := 67) dX11_thing_67 rfl ?_
            refine ev_getR (pc := 68) (q := 66) dX11_thing_68 fX11_62 rfl (wlt (wf_sI hw) (by decide)) (wr (wf_sI hw) rfl) ?_
            refine ev_iload_n (pc := 71) dX11_thing_71 rfl ?_
            refine ev_iald (pc := 72) dX11_thing_72 rfl (wlt (wf_sI hw) (by decide)) (by simp only [bI_0, bI_n0, Classical.not_not] at *; rw [hm] at zc5; exact vp_th 12 zc5.1 zc5.2 hm2 (by decide)) ?_
            refine ev_eqI (e' := (befF m (h.2.1 55) (h.2.1 66)) (Int32.toNatClampNeg t)) (by rfl) ?_
            refine ev_iret (pc := 73) dX11_thing_73 rfl ?_ ?_
            · rfl
            · simp only [bI_0, bI_n0, Classical.not_not] at *
              have hC : (0 ≤ t ∧ t ≤ h.2.1 49 14 - 1) ∧ (0 ≤ what ∧ what ≤ 3) := ⟨zc5, zc17⟩
              rw [if_pos hC]
              try rw [if_pos hC]
              refine ⟨?_, rfl⟩
              simp [*, sI_at]
          · -- ne at 55: not taken
            refine ev_aload_n (pc := 58) dX11_thing_58 rfl ?_
            refine ev_getR (pc := 59) (q := 55) dX11_thing_59 fX11_25 rfl (wlt (wf_sI hw) (by decide)) (wr (wf_sI hw) rfl) ?_
            refine ev_iload_n (pc := 62) dX11_thing_62 rfl ?_
            refine ev_iald (pc := 63) dX11_thing_63 rfl (wlt (wf_sI hw) (by decide)) (by simp only [bI_0, bI_n0, Classical.not_not] at *; rw [hm] at zc5; exact vp_th 12 zc5.1 zc5.2 hm2 (by decide)) ?_
            refine ev_eqI (e' := h.2.1 55 (Int32.toNatClampNeg t)) (by rfl) ?_
            refine ev_goto (pc := 64) (tgt := 73) dX11_thing_64 (by decide) ?_
            refine ev_iret (pc := 73) dX11_thing_73 rfl ?_ ?_
            · rfl
            · simp only [bI_0, bI_n0, Classical.not_not] at *
              have hC : (0 ≤ t ∧ t ≤ h.2.1 49 14 - 1) ∧ (0 ≤ what ∧ what ≤ 3) := ⟨zc5, zc17⟩
              rw [if_pos hC]
              try rw [if_pos hC]
              refine ⟨?_, rfl⟩
              simp [*, sI_at]
        · -- ne at 41: not taken
          refine ev_aload_n (pc := 44) dX11_thing_44 rfl ?_
          refine ev_getR (pc := 45) (q := 54) dX11_thing_45 fX11_22 rfl (wlt (wf_sI hw) (by decide)) (wr (wf_sI hw) rfl) ?_
          refine ev_iload_n (pc := 48) dX11_thing_48 rfl ?_
          refine ev_iald (pc := 49) dX11_thing_49 rfl (wlt (wf_sI hw) (by decide)) (by simp only [bI_0, bI_n0, Classical.not_not] at *; rw [hm] at zc5; exact vp_th 12 zc5.1 zc5.2 hm2 (by decide)) ?_
          refine ev_eqI (e' := h.2.1 54 (Int32.toNatClampNeg t)) (by rfl) ?_
          refine ev_goto (pc := 50) (tgt := 73) dX11_thing_50 (by decide) ?_
          refine ev_iret (pc := 73) dX11_thing_73 rfl ?_ ?_
          · rfl
          · simp only [bI_0, bI_n0, Classical.not_not] at *
            have hC : (0 ≤ t ∧ t ≤ h.2.1 49 14 - 1) ∧ (0 ≤ what ∧ what ≤ 3) := ⟨zc5, zc17⟩
            rw [if_pos hC]
            try rw [if_pos hC]
            refine ⟨?_, rfl⟩
            simp [*, sI_at]
      · -- ne at 27: not taken
        refine ev_aload_n (pc := 30) dX11_thing_30 rfl ?_
        refine ev_getR (pc := 31) (q := 53) dX11_thing_31 fX11_19 rfl (wlt (wf_sI hw) (by decide)) (wr (wf_sI hw) rfl) ?_
        refine ev_iload_n (pc := 34) dX11_thing_34 rfl ?_
        refine ev_iald (pc := 35) dX11_thing_35 rfl (wlt (wf_sI hw) (by decide)) (by simp only [bI_0, bI_n0, Classical.not_not] at *; rw [hm] at zc5; exact vp_th 12 zc5.1 zc5.2 hm2 (by decide)) ?_
        refine ev_eqI (e' := h.2.1 53 (Int32.toNatClampNeg t)) (by rfl) ?_
        refine ev_goto (pc := 36) (tgt := 73) dX11_thing_36 (by decide) ?_
        refine ev_iret (pc := 73) dX11_thing_73 rfl ?_ ?_
        · rfl
        · simp only [bI_0, bI_n0, Classical.not_not] at *
          have hC : (0 ≤ t ∧ t ≤ h.2.1 49 14 - 1) ∧ (0 ≤ what ∧ what ≤ 3) := ⟨zc5, zc17⟩
          rw [if_pos hC]
          try rw [if_pos hC]
          refine ⟨?_, rfl⟩
          simp [*, sI_at]
    · -- ne at 17: not taken
      refine ev_iconst (pc := 20) (v := (-1)) dX11_thing_20 (by decide) ?_
      refine ev_iret (pc := 21) dX11_thing_21 rfl ?_ ?_
      · rfl
      · simp only [bI_0, bI_n0, Classical.not_not] at *
        have hC : ¬ ((0 ≤ t ∧ t ≤ h.2.1 49 14 - 1) ∧ (0 ≤ what ∧ what ≤ 3)) := fun q => by first | exact zc5 q.1 | exact zc17 q.2
        rw [if_neg hC]
        try rw [if_neg hC]
        exact ⟨rfl, rfl⟩
theorem cn_X11_ahead (E : ME) (h : AH) (a b : Int32) (m : Nat) (hw : WF h) (hm : h.2.1 49 14 = nI m) (hm2 : m ≤ 12) : Con E mX11_ahead 2 0 0 [.ref 49, .int a, .int b] h (fun r h' => r = some (.int (if (0 ≤ a ∧ a ≤ h.2.1 49 14 - 1) ∧ (0 ≤ b ∧ b ≤ h.2.1 49 14 - 1) ∧ ¬ a = b then (befF m (h.2.1 55) (h.2.1 66) b.toNatClampNeg >>> (a &&& 31)) &&& 1 else -1)) ∧ h' = if (0 ≤ a ∧ a ≤ h.2.1 49 14 - 1) ∧ (0 ≤ b ∧ b ≤ h.2.1 49 14 - 1) ∧ ¬ a = b then sI h 66 (befF m (h.2.1 55) (h.2.1 66)) else h) := by
  refine con_of2 (L := [some (.ref 49), some (.int a), some (.int b)]) rfl (Nat.le_of_ble_eq_true rfl) rfl ?_
  refine ev_aload_n (pc := 0) dX11_ahead_0 rfl ?_
  refine ev_iload_n (pc := 1) dX11_ahead_1 rfl ?_
  refine ev_callVv (S := []) (pc := 2) dX11_ahead_2 kX11_isThing lX11_194 vX11_isThing (cn_X11_isThing E h a hw) rfl rfl (wlt hw (by decide)) rfl rfl (Nat.le_of_ble_eq_true rfl) ⟨Nat.le_of_ble_eq_true rfl, Nat.le_of_ble_eq_true rfl⟩ ⟨Nat.le_of_ble_eq_true rfl, Nat.le_of_ble_eq_true rfl⟩ ?_
  refine ev_if_eq (pc := 5) (tgt := 21) dX11_ahead_5 (by decide) (fun zc5 => ?_) (fun zc5 => ?_)
  · -- eq at 5: taken
    refine ev_iconst (pc := 21) (v := (-1)) dX11_ahead_21 (by decide) ?_
    refine ev_iret (pc := 22) dX11_ahead_22 rfl ?_ ?_
    · rfl
    · simp only [bI_0, bI_n0, Classical.not_not] at *
      have hC : ¬ ((0 ≤ a ∧ a ≤ h.2.1 49 14 - 1) ∧ (0 ≤ b ∧ b ≤ h.2.1 49 14 - 1) ∧ ¬ a = b) := fun q => by first | exact zc5 q.1 | exact zc13 q.2.1 | exact q.2.2 zc18
      rw [if_neg hC]
      try rw [if_neg hC]
      exact ⟨rfl, rfl⟩
  · -- eq at 5: not taken
    refine ev_aload_n (pc := 8) dX11_ahead_8 rfl ?_
    refine ev_iload_n (pc := 9) dX11_ahead_9 rfl ?_
    refine ev_callVv (S := []) (pc := 10) dX11_ahead_10 kX11_isThing lX11_194 vX11_isThing (cn_X11_isThing E h b hw) rfl rfl (wlt hw (by decide)) rfl rfl (Nat.le_of_ble_eq_true rfl) ⟨Nat.le_of_ble_eq_true rfl, Nat.le_of_ble_eq_true rfl⟩ ⟨Nat.le_of_ble_eq_true rfl, Nat.le_of_ble_eq_true rfl⟩ ?_
    refine ev_if_eq (pc := 13) (tgt := 21) dX11_ahead_13 (by decide) (fun zc13 => ?_) (fun zc13 => ?_)
    · -- eq at 13: taken
      refine ev_iconst (pc := 21) (v := (-1)) dX11_ahead_21 (by decide) ?_
      refine ev_iret (pc := 22) dX11_ahead_22 rfl ?_ ?_
      · rfl
      · simp only [bI_0, bI_n0, Classical.not_not] at *
        have hC : ¬ ((0 ≤ a ∧ a ≤ h.2.1 49 14 - 1) ∧ (0 ≤ b ∧ b ≤ h.2.1 49 14 - 1) ∧ ¬ a = b) := fun q => by first | exact zc5 q.1 | exact zc13 q.2.1 | exact q.2.2 zc18
        rw [if_neg hC]
        try rw [if_neg hC]
        exact ⟨rfl, rfl⟩
    · -- eq at 13: not taken
      refine ev_iload_n (pc := 16) dX11_ahead_16 rfl ?_
      refine ev_iload_n (pc := 17) dX11_ahead_17 rfl ?_
      refine ev_icmp_ne (pc := 18) (tgt := 23) dX11_ahead_18 (by decide) (fun zc18 => ?_) (fun zc18 => ?_)
      · -- ne at 18: taken
        refine ev_aload_n (pc := 23) dX11_ahead_23 rfl ?_
        refine ev_callV0 (S := []) (pc := 24) dX11_ahead_24 kX11_layBefore lX11_199 vX11_layBefore (cn_X11_layBefore E h m hw hm hm2) rfl rfl (wlt hw (by decide)) rfl rfl (Nat.le_of_ble_eq_true rfl) ⟨Nat.le_of_ble_eq_true rfl, Nat.le_of_ble_eq_true rfl⟩ ⟨Nat.le_of_ble_eq_true rfl, Nat.le_of_ble_eq_true rfl⟩ ?_
        refine ev_eqH (h' := sI h 66 (befF m (h.2.1 55) (h.2.1 66))) rfl ?_
        refine ev_aload_n (pc := 27) dX11_ahead_27 rfl ?_
        refine ev_getR (pc := 28) (q := 66) dX11_ahead_28 fX11_62 rfl (wlt (wf_sI hw) (by decide)) (wr (wf_sI hw) rfl) ?_
        refine ev_iload_n (pc := 31) dX11_ahead_31 rfl ?_
        refine ev_iald (pc := 32) dX11_ahead_32 rfl (wlt (wf_sI hw) (by decide)) (by simp only [bI_0, bI_n0, Classical.not_not] at *; rw [hm] at zc13; exact vp_th 12 zc13.1 zc13.2 hm2 (by decide)) ?_
        refine ev_eqI (e' := (befF m (h.2.1 55) (h.2.1 66)) (Int32.toNatClampNeg b)) (by rfl) ?_
        refine ev_iload_n (pc := 33) dX11_ahead_33 rfl ?_
        refine ev_ishr (pc := 34) dX11_ahead_34 ?_
        refine ev_iconst (pc := 35) (v := 1) dX11_ahead_35 (by decide) ?_
        refine ev_iand (pc := 36) dX11_ahead_36 ?_
        refine ev_iret (pc := 37) dX11_ahead_37 rfl ?_ ?_
        · rfl
        · simp only [bI_0, bI_n0, Classical.not_not] at *
          have hC : (0 ≤ a ∧ a ≤ h.2.1 49 14 - 1) ∧ (0 ≤ b ∧ b ≤ h.2.1 49 14 - 1) ∧ ¬ a = b := ⟨zc5, zc13, zc18⟩
          rw [if_pos hC]
          try rw [if_pos hC]
          exact ⟨rfl, rfl⟩
      · -- ne at 18: not taken
        refine ev_iconst (pc := 21) (v := (-1)) dX11_ahead_21 (by decide) ?_
        refine ev_iret (pc := 22) dX11_ahead_22 rfl ?_ ?_
        · rfl
        · simp only [bI_0, bI_n0, Classical.not_not] at *
          have hC : ¬ ((0 ≤ a ∧ a ≤ h.2.1 49 14 - 1) ∧ (0 ≤ b ∧ b ≤ h.2.1 49 14 - 1) ∧ ¬ a = b) := fun q => by first | exact zc5 q.1 | exact zc13 q.2.1 | exact q.2.2 zc18
          rw [if_neg hC]
          try rw [if_neg hC]
          exact ⟨rfl, rfl⟩
theorem cn_X11_rank (E : ME) (h : AH) (t what : Int32) (m : Nat) (hw : WF h) (hm : h.2.1 49 14 = nI m) (hm2 : m ≤ 12) : Con E mX11_rank 2 0 0 [.ref 49, .int t, .int what] h (fun r h' => r = some (.int (if (0 ≤ t ∧ t ≤ h.2.1 49 14 - 1) ∧ (0 ≤ what ∧ what ≤ 1) then (if rgF (befF m (h.2.1 55) (h.2.1 66)) m = 0 then (if what = 0 then cntF (befF m (h.2.1 55) (h.2.1 66) t.toNatClampNeg) 16 else h.2.1 49 14 - 1 - cntF (bhF (befF m (h.2.1 55) (h.2.1 66)) t m) 16) else -2) else -1)) ∧ h' = if (0 ≤ t ∧ t ≤ h.2.1 49 14 - 1) ∧ (0 ≤ what ∧ what ≤ 1) then sI h 66 (befF m (h.2.1 55) (h.2.1 66)) else h) := by
  refine con_of2 (L := [some (.ref 49), some (.int t), some (.int what)]) rfl (Nat.le_of_ble_eq_true rfl) rfl ?_
  refine ev_aload_n (pc := 0) dX11_rank_0 rfl ?_
  refine ev_iload_n (pc := 1) dX11_rank_1 rfl ?_
  refine ev_callVv (S := []) (pc := 2) dX11_rank_2 kX11_isThing lX11_194 vX11_isThing (cn_X11_isThing E h t hw) rfl rfl (wlt hw (by decide)) rfl rfl (Nat.le_of_ble_eq_true rfl) ⟨Nat.le_of_ble_eq_true rfl, Nat.le_of_ble_eq_true rfl⟩ ⟨Nat.le_of_ble_eq_true rfl, Nat.le_of_ble_eq_true rfl⟩ ?_
  refine ev_if_eq (pc := 5) (tgt := 18) dX11_rank_5 (by decide) (fun zc5 => ?_) (fun zc5 => ?_)
  · -- eq at 5: taken
    refine ev_iconst (pc := 18) (v := (-1)) dX11_rank_18 (by decide) ?_
    refine ev_iret (pc := 19) dX11_rank_19 rfl ?_ ?_
    · rfl
    · simp only [bI_0, bI_n0, Classical.not_not] at *
      have hC : ¬ ((0 ≤ t ∧ t ≤ h.2.1 49 14 - 1) ∧ (0 ≤ what ∧ what ≤ 1)) := fun q => by first | exact zc5 q.1 | exact zc15 q.2
      rw [if_neg hC]
      try rw [if_neg hC]
      exact ⟨rfl, rfl⟩
  · -- eq at 5: not taken
    refine ev_iload_n (pc := 8) dX11_rank_8 rfl ?_
    refine ev_i2l (pc := 9) dX11_rank_9 ?_
    refine ev_lconst (pc := 10) (v := 0) dX11_rank_10 (by decide) ?_
    refine ev_lconst (pc := 11) (v := 1) dX11_rank_11 (by decide) ?_
    refine ev_callSv (S := []) (pc := 12) dX11_rank_12 kX11_in lX11_96 sX11_in (cn_X11_inC E h what 0 1 _ _ _ rfl (by decide) (by decide)) rfl rfl (Nat.le_of_ble_eq_true rfl) ⟨Nat.le_of_ble_eq_true rfl, Nat.le_of_ble_eq_true rfl⟩ ⟨Nat.le_of_ble_eq_true rfl, Nat.le_of_ble_eq_true rfl⟩ ?_
    refine ev_if_ne (pc := 15) (tgt := 20) dX11_rank_15 (by decide) (fun zc15 => ?_) (fun zc15 => ?_)
    · -- ne at 15: taken
      refine ev_aload_n (pc := 20) dX11_rank_20 rfl ?_
      refine ev_callV0 (S := []) (pc := 21) dX11_rank_21 kX11_layBefore lX11_199 vX11_layBefore (cn_X11_layBefore E h m hw hm hm2) rfl rfl (wlt hw (by decide)) rfl rfl (Nat.le_of_ble_eq_true rfl) ⟨Nat.le_of_ble_eq_true rfl, Nat.le_of_ble_eq_true rfl⟩ ⟨Nat.le_of_ble_eq_true rfl, Nat.le_of_ble_eq_true rfl⟩ ?_
      refine ev_eqH (h' := sI h 66 (befF m (h.2.1 55) (h.2.1 66))) rfl ?_
      refine ev_aload_n (pc := 24) dX11_rank_24 rfl ?_
      refine ev_callVv (S := []) (pc := 25) dX11_rank_25 kX11_ringed lX11_202 vX11_ringed (cn_X11_ringed E (sI h 66 (befF m (h.2.1 55) (h.2.1 66))) m (wf_sI hw) hm hm2) rfl rfl (wlt (wf_sI hw) (by decide)) rfl rfl (Nat.le_of_ble_eq_true rfl) ⟨Nat.le_of_ble_eq_true rfl, Nat.le_of_ble_eq_true rfl⟩ ⟨Nat.le_of_ble_eq_true rfl, Nat.le_of_ble_eq_true rfl⟩ ?_
      refine ev_nmI (fun zr25 ezr25 => ?_)
      refine ev_if_eq (pc := 28) (tgt := 34) dX11_rank_28 (by decide) (fun zc28 => ?_) (fun zc28 => ?_)
      · -- eq at 28: taken
        refine ev_iload_n (pc := 34) dX11_rank_34 rfl ?_
        refine ev_if_ne (pc := 35) (tgt := 50) dX11_rank_35 (by decide) (fun zc35 => ?_) (fun zc35 => ?_)
        · -- ne at 35: taken
          refine ev_aload_n (pc := 50) dX11_rank_50 rfl ?_
          refine ev_getI (pc := 51) dX11_rank_51 fX11_184 rfl (wlt (wf_sI hw) (by decide)) ?_
          refine ev_eqI (e' := h.2.1 49 14) (by rfl) ?_
          refine ev_iconst (pc := 54) (v := 1) dX11_rank_54 (by decide) ?_
          refine ev_isub (pc := 55) dX11_rank_55 ?_
          refine ev_aload_n (pc := 56) dX11_rank_56 rfl ?_
          refine ev_iload_n (pc := 57) dX11_rank_57 rfl ?_
          refine ev_callVv (S := [.int ((h.2.1 49 14) - 1)]) (pc := 58) dX11_rank_58 kX11_behind lX11_211 vX11_behind (cn_X11_behind E (sI h 66 (befF m (h.2.1 55) (h.2.1 66))) t m (wf_sI hw) hm hm2) rfl rfl (wlt (wf_sI hw) (by decide)) rfl rfl (Nat.le_of_ble_eq_true rfl) ⟨Nat.le_of_ble_eq_true rfl, Nat.le_of_ble_eq_true rfl⟩ ⟨Nat.le_of_ble_eq_true rfl, Nat.le_of_ble_eq_true rfl⟩ ?_
          refine ev_nmI (fun zr58 ezr58 => ?_)
          refine ev_callSv (S := [.int ((h.2.1 49 14) - 1)]) (pc := 61) dX11_rank_61 kX11_countOf lX11_208 sX11_countOf (cn_X11_countOf E (sI h 66 (befF m (h.2.1 55) (h.2.1 66))) zr58 (wf_sI hw)) rfl rfl (Nat.le_of_ble_eq_true rfl) ⟨Nat.le_of_ble_eq_true rfl, Nat.le_of_ble_eq_true rfl⟩ ⟨Nat.le_of_ble_eq_true rfl, Nat.le_of_ble_eq_true rfl⟩ ?_
          refine ev_isub (pc := 64) dX11_rank_64 ?_
          refine ev_iret (pc := 65) dX11_rank_65 rfl ?_ ?_
          · rfl
          · simp only [bI_0, bI_n0, Classical.not_not] at *
            have hC : (0 ≤ t ∧ t ≤ h.2.1 49 14 - 1) ∧ (0 ≤ what ∧ what ≤ 1) := ⟨zc5, zc15⟩
            rw [if_pos hC]
            try rw [if_pos hC]
            refine ⟨?_, rfl⟩
            simp_all [sI_at]
        · -- ne at 35: not taken
          refine ev_aload_n (pc := 38) dX11_rank_38 rfl ?_
          refine ev_getR (pc := 39) (q := 66) dX11_rank_39 fX11_62 rfl (wlt (wf_sI hw) (by decide)) (wr (wf_sI hw) rfl) ?_
          refine ev_iload_n (pc := 42) dX11_rank_42 rfl ?_
          refine ev_iald (pc := 43) dX11_rank_43 rfl (wlt (wf_sI hw) (by decide)) (by simp only [bI_0, bI_n0, Classical.not_not] at *; rw [hm] at zc5; exact vp_th 12 zc5.1 zc5.2 hm2 (by decide)) ?_
          refine ev_eqI (e' := (befF m (h.2.1 55) (h.2.1 66)) (Int32.toNatClampNeg t)) (by rfl) ?_
          refine ev_callSv (S := []) (pc := 44) dX11_rank_44 kX11_countOf lX11_208 sX11_countOf (cn_X11_countOf E (sI h 66 (befF m (h.2.1 55) (h.2.1 66))) ((befF m (h.2.1 55) (h.2.1 66)) (Int32.toNatClampNeg t)) (wf_sI hw)) rfl rfl (Nat.le_of_ble_eq_true rfl) ⟨Nat.le_of_ble_eq_true rfl, Nat.le_of_ble_eq_true rfl⟩ ⟨Nat.le_of_ble_eq_true rfl, Nat.le_of_ble_eq_true rfl⟩ ?_
          refine ev_goto (pc := 47) (tgt := 65) dX11_rank_47 (by decide) ?_
          refine ev_iret (pc := 65) dX11_rank_65 rfl ?_ ?_
          · rfl
          · simp only [bI_0, bI_n0, Classical.not_not] at *
            have hC : (0 ≤ t ∧ t ≤ h.2.1 49 14 - 1) ∧ (0 ≤ what ∧ what ≤ 1) := ⟨zc5, zc15⟩
            rw [if_pos hC]
            try rw [if_pos hC]
            refine ⟨?_, rfl⟩
            simp_all [sI_at]
      · -- eq at 28: not taken
        refine ev_bipush (pc := 31) (v := (-2)) dX11_rank_31 (by decide) ?_
        refine ev_iret (pc := 33) dX11_rank_33 rfl ?_ ?_
        · rfl
        · simp only [bI_0, bI_n0, Classical.not_not] at *
          have hC : (0 ≤ t ∧ t ≤ h.2.1 49 14 - 1) ∧ (0 ≤ what ∧ what ≤ 1) := ⟨zc5, zc15⟩
          rw [if_pos hC]
          try rw [if_pos hC]
          refine ⟨?_, rfl⟩
          simp_all [sI_at]
    · -- ne at 15: not taken
      refine ev_iconst (pc := 18) (v := (-1)) dX11_rank_18 (by decide) ?_
      refine ev_iret (pc := 19) dX11_rank_19 rfl ?_ ?_
      · rfl
      · simp only [bI_0, bI_n0, Classical.not_not] at *
        have hC : ¬ ((0 ≤ t ∧ t ≤ h.2.1 49 14 - 1) ∧ (0 ≤ what ∧ what ≤ 1)) := fun q => by first | exact zc5 q.1 | exact zc15 q.2
        rw [if_neg hC]
        try rw [if_neg hC]
        exact ⟨rfl, rfl⟩
def bgF (g : Nat → Int32) : Nat → Int32
  | 0 => 0
  | t + 1 => bgF g t ||| (if g t = 0 then 1 <<< (nI t &&& 31) else 0)
theorem lp_begins_30 (E : ME) (h : AH) (m : Nat) (what : Int32) (hw : WF h) (hm : h.2.1 49 14 = nI m) (hm2 : m ≤ 12) {post : PO} (K : Ev E mX11_begins (rmm 1 0 0) (QM E 0 0 post) 0 0 75 [some (.ref 49), some (.int what), some (.int (bgF (fun q => if what = 0 then h.2.1 66 q else bhF (h.2.1 66) (nI q) m) m)), some (.int (nI m))] [] h) : ∀ n i : Nat, i + n = m → Ev E mX11_begins (rmm 1 0 0) (QM E 0 0 post) 0 0 30 [some (.ref 49), some (.int what), some (.int (bgF (fun q => if what = 0 then h.2.1 66 q else bhF (h.2.1 66) (nI q) m) i)), some (.int (nI i))] [] h := by
  intro n
  induction n with
  | zero =>
    intro i hi
    obtain rfl : m = i := by omega
    refine ev_iload_n (pc := 30) dX11_begins_30 rfl ?_
    refine ev_aload_n (pc := 31) dX11_begins_31 rfl ?_
    refine ev_getI (pc := 32) dX11_begins_32 fX11_184 rfl (wlt hw (by decide)) ?_
    refine ev_icmp_ge (pc := 35) (tgt := 75) dX11_begins_35 (by decide) (fun zc35 => ?_) (fun zc35 => absurd (by rw [hm]; exact nI_leI (by omega) (by omega) |>.mpr (Nat.le_refl _)) zc35)
    exact K
  | succ n ih =>
    intro i hi
    have hlt : i < m := by omega
    refine ev_iload_n (pc := 30) dX11_begins_30 rfl ?_
    refine ev_aload_n (pc := 31) dX11_begins_31 rfl ?_
    refine ev_getI (pc := 32) dX11_begins_32 fX11_184 rfl (wlt hw (by decide)) ?_
    refine ev_icmp_ge (pc := 35) (tgt := 75) dX11_begins_35 (by decide) (fun zc35 => absurd zc35 (by rw [hm]; exact nI_ge hlt (by omega))) (fun zc35 => ?_)
    refine ev_iload_n (pc := 38) dX11_begins_38 rfl ?_
    refine ev_iload_n (pc := 39) dX11_begins_39 rfl ?_
    refine ev_if_ne (pc := 40) (tgt := 52) dX11_begins_40 (by decide) (fun zc40 => ?_) (fun zc40 => ?_)
    · -- ne at 40: taken
      refine ev_aload_n (pc := 52) dX11_begins_52 rfl ?_
      refine ev_iload_n (pc := 53) dX11_begins_53 rfl ?_
      refine ev_callVv (S := [.int (bgF (fun q => if what = 0 then h.2.1 66 q else bhF (h.2.1 66) (nI q) m) i)]) (pc := 54) dX11_begins_54 kX11_behind lX11_211 vX11_behind (cn_X11_behind E h (nI i) m hw hm hm2) rfl rfl (wlt hw (by decide)) rfl rfl (Nat.le_of_ble_eq_true rfl) ⟨Nat.le_of_ble_eq_true rfl, Nat.le_of_ble_eq_true rfl⟩ ⟨Nat.le_of_ble_eq_true rfl, Nat.le_of_ble_eq_true rfl⟩ ?_
      refine ev_if_ne (pc := 57) (tgt := 66) dX11_begins_57 (by decide) (fun zc57 => ?_) (fun zc57 => ?_)
      · -- ne at 57: taken
        refine ev_iconst (pc := 66) (v := 0) dX11_begins_66 (by decide) ?_
        refine ev_ior (pc := 67) dX11_begins_67 ?_
        refine ev_istore_n (pc := 68) (L' := [some (.ref 49), some (.int what), some (.int ((bgF (fun q => if what = 0 then h.2.1 66 q else bhF (h.2.1 66) (nI q) m) i) ||| 0)), some (.int (nI i))]) dX11_begins_68 (Nat.le_of_ble_eq_true rfl) rfl ?_
        refine ev_iinc (pc := 69) (v := nI (i + 1)) (L' := [some (.ref 49), some (.int what), some (.int ((bgF (fun q => if what = 0 then h.2.1 66 q else bhF (h.2.1 66) (nI q) m) i) ||| 0)), some (.int (nI (i + 1)))]) dX11_begins_69 rfl (nI_1 _) (Nat.le_of_ble_eq_true rfl) rfl ?_
        refine ev_goto (pc := 72) (tgt := 30) dX11_begins_72 (by decide) ?_
        refine ev_eqL (L' := [some (.ref 49), some (.int what), some (.int (bgF (fun q => if what = 0 then h.2.1 66 q else bhF (h.2.1 66) (nI q) m) (i + 1))), some (.int (nI (i + 1)))]) (by first | rfl | (simp only [bgF]; first | rw [if_pos zc40] | rw [if_neg zc40]; first | rw [if_pos zc57] | rw [if_neg zc57]) | (simp [bgF, zc40, zc57]; done)) ?_
        exact ih (i + 1) (by omega)
      · -- ne at 57: not taken
        refine ev_iconst (pc := 60) (v := 1) dX11_begins_60 (by decide) ?_
        refine ev_iload_n (pc := 61) dX11_begins_61 rfl ?_
        refine ev_ishl (pc := 62) dX11_begins_62 ?_
        refine ev_goto (pc := 63) (tgt := 67) dX11_begins_63 (by decide) ?_
        refine ev_ior (pc := 67) dX11_begins_67 ?_
        refine ev_istore_n (pc := 68) (L' := [some (.ref 49), some (.int what), some (.int ((bgF (fun q => if what = 0 then h.2.1 66 q else bhF (h.2.1 66) (nI q) m) i) ||| (1 <<< ((nI i) &&& 31)))), some (.int (nI i))]) dX11_begins_68 (Nat.le_of_ble_eq_true rfl) rfl ?_
        refine ev_iinc (pc := 69) (v := nI (i + 1)) (L' := [some (.ref 49), some (.int what), some (.int ((bgF (fun q => if what = 0 then h.2.1 66 q else bhF (h.2.1 66) (nI q) m) i) ||| (1 <<< ((nI i) &&& 31)))), some (.int (nI (i + 1)))]) dX11_begins_69 rfl (nI_1 _) (Nat.le_of_ble_eq_true rfl) rfl ?_
        refine ev_goto (pc := 72) (tgt := 30) dX11_begins_72 (by decide) ?_
        refine ev_eqL (L' := [some (.ref 49), some (.int what), some (.int (bgF (fun q => if what = 0 then h.2.1 66 q else bhF (h.2.1 66) (nI q) m) (i + 1))), some (.int (nI (i + 1)))]) (by first | rfl | (simp only [bgF]; first | rw [if_pos zc40] | rw [if_neg zc40]; first | rw [if_pos zc57] | rw [if_neg zc57]) | (simp [bgF, zc40, zc57]; done)) ?_
        exact ih (i + 1) (by omega)
    · -- ne at 40: not taken
      refine ev_aload_n (pc := 43) dX11_begins_43 rfl ?_
      refine ev_getR (pc := 44) (q := 66) dX11_begins_44 fX11_62 rfl (wlt hw (by decide)) (wr hw rfl) ?_
      refine ev_iload_n (pc := 47) dX11_begins_47 rfl ?_
      refine ev_iald (pc := 48) dX11_begins_48 rfl (wlt hw (by decide)) (vp_in_nI (by omega) (by decide)) ?_
      refine ev_eqI (e' := h.2.1 66 i) (by rw [show Int32.toNatClampNeg (nI i) = i from nI_clamp (by omega)] <;> rfl) ?_
      refine ev_goto (pc := 49) (tgt := 57) dX11_begins_49 (by decide) ?_
      refine ev_if_ne (pc := 57) (tgt := 66) dX11_begins_57 (by decide) (fun zc57 => ?_) (fun zc57 => ?_)
      · -- ne at 57: taken
        refine ev_iconst (pc := 66) (v := 0) dX11_begins_66 (by decide) ?_
        refine ev_ior (pc := 67) dX11_begins_67 ?_
        refine ev_istore_n (pc := 68) (L' := [some (.ref 49), some (.int what), some (.int ((bgF (fun q => if what = 0 then h.2.1 66 q else bhF (h.2.1 66) (nI q) m) i) ||| 0)), some (.int (nI i))]) dX11_begins_68 (Nat.le_of_ble_eq_true rfl) rfl ?_
        refine ev_iinc (pc := 69) (v := nI (i + 1)) (L' := [some (.ref 49), some (.int what), some (.int ((bgF (fun q => if what = 0 then h.2.1 66 q else bhF (h.2.1 66) (nI q) m) i) ||| 0)), some (.int (nI (i + 1)))]) dX11_begins_69 rfl (nI_1 _) (Nat.le_of_ble_eq_true rfl) rfl ?_
        refine ev_goto (pc := 72) (tgt := 30) dX11_begins_72 (by decide) ?_
        refine ev_eqL (L' := [some (.ref 49), some (.int what), some (.int (bgF (fun q => if what = 0 then h.2.1 66 q else bhF (h.2.1 66) (nI q) m) (i + 1))), some (.int (nI (i + 1)))]) (by first | rfl | (simp only [bgF]; first | rw [if_pos zc40] | rw [if_neg zc40]; first | rw [if_pos zc57] | rw [if_neg zc57]) | (simp [bgF, zc40, zc57]; done)) ?_
        exact ih (i + 1) (by omega)
      · -- ne at 57: not taken
        refine ev_iconst (pc := 60) (v := 1) dX11_begins_60 (by decide) ?_
        refine ev_iload_n (pc := 61) dX11_begins_61 rfl ?_
        refine ev_ishl (pc := 62) dX11_begins_62 ?_
        refine ev_goto (pc := 63) (tgt := 67) dX11_begins_63 (by decide) ?_
        refine ev_ior (pc := 67) dX11_begins_67 ?_
        refine ev_istore_n (pc := 68) (L' := [some (.ref 49), some (.int what), some (.int ((bgF (fun q => if what = 0 then h.2.1 66 q else bhF (h.2.1 66) (nI q) m) i) ||| (1 <<< ((nI i) &&& 31)))), some (.int (nI i))]) dX11_begins_68 (Nat.le_of_ble_eq_true rfl) rfl ?_
        refine ev_iinc (pc := 69) (v := nI (i + 1)) (L' := [some (.ref 49), some (.int what), some (.int ((bgF (fun q => if what = 0 then h.2.1 66 q else bhF (h.2.1 66) (nI q) m) i) ||| (1 <<< ((nI i) &&& 31)))), some (.int (nI (i + 1)))]) dX11_begins_69 rfl (nI_1 _) (Nat.le_of_ble_eq_true rfl) rfl ?_
        refine ev_goto (pc := 72) (tgt := 30) dX11_begins_72 (by decide) ?_
        refine ev_eqL (L' := [some (.ref 49), some (.int what), some (.int (bgF (fun q => if what = 0 then h.2.1 66 q else bhF (h.2.1 66) (nI q) m) (i + 1))), some (.int (nI (i + 1)))]) (by first | rfl | (simp only [bgF]; first | rw [if_pos zc40] | rw [if_neg zc40]; first | rw [if_pos zc57] | rw [if_neg zc57]) | (simp [bgF, zc40, zc57]; done)) ?_
        exact ih (i + 1) (by omega)
theorem cn_X11_begins (E : ME) (h : AH) (what : Int32) (m : Nat) (hw : WF h) (hm : h.2.1 49 14 = nI m) (hm2 : m ≤ 12) : Con E mX11_begins 1 0 0 [.ref 49, .int what] h (fun r h' => r = some (.int (if 0 ≤ what ∧ what ≤ 1 then (if rgF (befF m (h.2.1 55) (h.2.1 66)) m = 0 then bgF (fun q => if what = 0 then befF m (h.2.1 55) (h.2.1 66) q else bhF (befF m (h.2.1 55) (h.2.1 66)) (nI q) m) m else -2) else -1)) ∧ h' = if 0 ≤ what ∧ what ≤ 1 then sI h 66 (befF m (h.2.1 55) (h.2.1 66)) else h) := by
  refine con_of2 (L := [some (.ref 49), some (.int what), none, none]) rfl (Nat.le_of_ble_eq_true rfl) rfl ?_
  refine ev_iload_n (pc := 0) dX11_begins_0 rfl ?_
  refine ev_i2l (pc := 1) dX11_begins_1 ?_
  refine ev_lconst (pc := 2) (v := 0) dX11_begins_2 (by decide) ?_
  refine ev_lconst (pc := 3) (v := 1) dX11_begins_3 (by decide) ?_
  refine ev_callSv (S := []) (pc := 4) dX11_begins_4 kX11_in lX11_96 sX11_in (cn_X11_inC E h what 0 1 _ _ _ rfl (by decide) (by decide)) rfl rfl (Nat.le_of_ble_eq_true rfl) ⟨Nat.le_of_ble_eq_true rfl, Nat.le_of_ble_eq_true rfl⟩ ⟨Nat.le_of_ble_eq_true rfl, Nat.le_of_ble_eq_true rfl⟩ ?_
  refine ev_if_ne (pc := 7) (tgt := 12) dX11_begins_7 (by decide) (fun zc7 => ?_) (fun zc7 => ?_)
  · -- ne at 7: taken
    refine ev_aload_n (pc := 12) dX11_begins_12 rfl ?_
    refine ev_callV0 (S := []) (pc := 13) dX11_begins_13 kX11_layBefore lX11_199 vX11_layBefore (cn_X11_layBefore E h m hw hm hm2) rfl rfl (wlt hw (by decide)) rfl rfl (Nat.le_of_ble_eq_true rfl) ⟨Nat.le_of_ble_eq_true rfl, Nat.le_of_ble_eq_true rfl⟩ ⟨Nat.le_of_ble_eq_true rfl, Nat.le_of_ble_eq_true rfl⟩ ?_
    refine ev_eqH (h' := sI h 66 (befF m (h.2.1 55) (h.2.1 66))) rfl ?_
    refine ev_aload_n (pc := 16) dX11_begins_16 rfl ?_
    refine ev_callVv (S := []) (pc := 17) dX11_begins_17 kX11_ringed lX11_202 vX11_ringed (cn_X11_ringed E (sI h 66 (befF m (h.2.1 55) (h.2.1 66))) m (wf_sI hw) hm hm2) rfl rfl (wlt (wf_sI hw) (by decide)) rfl rfl (Nat.le_of_ble_eq_true rfl) ⟨Nat.le_of_ble_eq_true rfl, Nat.le_of_ble_eq_true rfl⟩ ⟨Nat.le_of_ble_eq_true rfl, Nat.le_of_ble_eq_true rfl⟩ ?_
    refine ev_nmI (fun zr17 ezr17 => ?_)
    refine ev_if_eq (pc := 20) (tgt := 26) dX11_begins_20 (by decide) (fun zc20 => ?_) (fun zc20 => ?_)
    · -- eq at 20: taken
      refine ev_iconst (pc := 26) (v := 0) dX11_begins_26 (by decide) ?_
      refine ev_istore_n (pc := 27) (L' := [some (.ref 49), some (.int what), some (.int 0), none]) dX11_begins_27 (Nat.le_of_ble_eq_true rfl) rfl ?_
      refine ev_iconst (pc := 28) (v := 0) dX11_begins_28 (by decide) ?_
      refine ev_istore_n (pc := 29) (L' := [some (.ref 49), some (.int what), some (.int 0), some (.int 0)]) dX11_begins_29 (Nat.le_of_ble_eq_true rfl) rfl ?_
      refine lp_begins_30 E (sI h 66 (befF m (h.2.1 55) (h.2.1 66))) m what (wf_sI hw) hm hm2 ?_ m 0 (Nat.zero_add m)
      refine ev_iload_n (pc := 75) dX11_begins_75 rfl ?_
      refine ev_iret (pc := 76) dX11_begins_76 rfl ?_ ?_
      · rfl
      · simp only [bI_0, bI_n0, Classical.not_not] at *
        have hC : 0 ≤ what ∧ what ≤ 1 := zc7
        rw [if_pos hC]
        try rw [if_pos hC]
        refine ⟨?_, rfl⟩
        simp_all [sI_at]
    · -- eq at 20: not taken
      refine ev_bipush (pc := 23) (v := (-2)) dX11_begins_23 (by decide) ?_
      refine ev_iret (pc := 25) dX11_begins_25 rfl ?_ ?_
      · rfl
      · simp only [bI_0, bI_n0, Classical.not_not] at *
        have hC : 0 ≤ what ∧ what ≤ 1 := zc7
        rw [if_pos hC]
        try rw [if_pos hC]
        refine ⟨?_, rfl⟩
        simp_all [sI_at]
  · -- ne at 7: not taken
    refine ev_iconst (pc := 10) (v := (-1)) dX11_begins_10 (by decide) ?_
    refine ev_iret (pc := 11) dX11_begins_11 rfl ?_ ?_
    · rfl
    · simp only [bI_0, bI_n0, Classical.not_not] at *
      have hC : ¬ (0 ≤ what ∧ what ≤ 1) := fun q => by first | exact zc7 q
      rw [if_neg hC]
      try rw [if_neg hC]
      exact ⟨rfl, rfl⟩
theorem cn_X11_isRow (E : ME) (h : AH) (t : Int32) (m : Nat) (hw : WF h) (hm : h.2.1 49 14 = nI m) (hm2 : m ≤ 12) : Con E mX11_isRow 2 0 0 [.ref 49, .int t] h (fun r h' => r = some (.int (bI ((0 ≤ t ∧ t ≤ h.2.1 49 14 - 1) ∧ 0 < h.2.1 53 t.toNatClampNeg))) ∧ h' = h) := by
  refine con_of2 (L := [some (.ref 49), some (.int t)]) rfl (Nat.le_of_ble_eq_true rfl) rfl ?_
  refine ev_aload_n (pc := 0) dX11_isRow_0 rfl ?_
  refine ev_iload_n (pc := 1) dX11_isRow_1 rfl ?_
  refine ev_callVv (S := []) (pc := 2) dX11_isRow_2 kX11_isThing lX11_194 vX11_isThing (cn_X11_isThing E h t hw) rfl rfl (wlt hw (by decide)) rfl rfl (Nat.le_of_ble_eq_true rfl) ⟨Nat.le_of_ble_eq_true rfl, Nat.le_of_ble_eq_true rfl⟩ ⟨Nat.le_of_ble_eq_true rfl, Nat.le_of_ble_eq_true rfl⟩ ?_
  refine ev_if_eq (pc := 5) (tgt := 21) dX11_isRow_5 (by decide) (fun zc5 => ?_) (fun zc5 => ?_)
  · -- eq at 5: taken
    refine ev_iconst (pc := 21) (v := 0) dX11_isRow_21 (by decide) ?_
    refine ev_iret (pc := 22) dX11_isRow_22 rfl ?_ ?_
    · first | rfl | exact nar_bI _ | (simp only [*]; exact nar_bI _) | (simp [narrow, *]; done)
    · refine ⟨?_, rfl⟩
      simp only [bI_0, bI_n0, Classical.not_not] at *
      first | rw [bI_f (fun q => zc5 q.1)] | rw [bI_f (fun q => (i_lt2 _ _).mpr zc14 q.2)] | rw [bI_t ⟨zc5, (i_le2 _ _).mp zc14⟩]
  · -- eq at 5: not taken
    refine ev_aload_n (pc := 8) dX11_isRow_8 rfl ?_
    refine ev_getR (pc := 9) (q := 53) dX11_isRow_9 fX11_19 rfl (wlt hw (by decide)) (wr hw rfl) ?_
    refine ev_iload_n (pc := 12) dX11_isRow_12 rfl ?_
    refine ev_iald (pc := 13) dX11_isRow_13 rfl (wlt hw (by decide)) (by simp only [bI_0, bI_n0, Classical.not_not] at *; rw [hm] at zc5; exact vp_th 12 zc5.1 zc5.2 hm2 (by decide)) ?_
    refine ev_if_le (pc := 14) (tgt := 21) dX11_isRow_14 (by decide) (fun zc14 => ?_) (fun zc14 => ?_)
    · -- le at 14: taken
      refine ev_iconst (pc := 21) (v := 0) dX11_isRow_21 (by decide) ?_
      refine ev_iret (pc := 22) dX11_isRow_22 rfl ?_ ?_
      · first | rfl | exact nar_bI _ | (simp only [*]; exact nar_bI _) | (simp [narrow, *]; done)
      · refine ⟨?_, rfl⟩
        simp only [bI_0, bI_n0, Classical.not_not] at *
        first | rw [bI_f (fun q => zc5 q.1)] | rw [bI_f (fun q => (i_lt2 _ _).mpr zc14 q.2)] | rw [bI_t ⟨zc5, (i_le2 _ _).mp zc14⟩]
    · -- le at 14: not taken
      refine ev_iconst (pc := 17) (v := 1) dX11_isRow_17 (by decide) ?_
      refine ev_goto (pc := 18) (tgt := 22) dX11_isRow_18 (by decide) ?_
      refine ev_iret (pc := 22) dX11_isRow_22 rfl ?_ ?_
      · first | rfl | exact nar_bI _ | (simp only [*]; exact nar_bI _) | (simp [narrow, *]; done)
      · refine ⟨?_, rfl⟩
        simp only [bI_0, bI_n0, Classical.not_not] at *
        first | rw [bI_f (fun q => zc5 q.1)] | rw [bI_f (fun q => (i_lt2 _ _).mpr zc14 q.2)] | rw [bI_t ⟨zc5, (i_le2 _ _).mp zc14⟩]
theorem cn_X11_above (E : ME) (h : AH) (a b : Int32) (hw : WF h) (ha : vp_in a 12) (hb : vp_in b 12) : Con E mX11_above 0 0 0 [.ref 49, .int a, .int b] h (fun r h' => r = some (.int (h.2.1 54 (Int32.toNatClampNeg a) * h.2.1 53 (Int32.toNatClampNeg b) - h.2.1 54 (Int32.toNatClampNeg b) * h.2.1 53 (Int32.toNatClampNeg a))) ∧ h' = h) := by
  refine con_of2 (L := [some (.ref 49), some (.int a), some (.int b)]) rfl (Nat.le_of_ble_eq_true rfl) rfl ?_
  refine ev_aload_n (pc := 0) dX11_above_0 rfl ?_
  refine ev_getR (pc := 1) (q := 54) dX11_above_1 fX11_22 rfl (wlt hw (by decide)) (wr hw rfl) ?_
  refine ev_iload_n (pc := 4) dX11_above_4 rfl ?_
  refine ev_iald (pc := 5) dX11_above_5 rfl (wlt hw (by decide)) ha ?_
  refine ev_aload_n (pc := 6) dX11_above_6 rfl ?_
  refine ev_getR (pc := 7) (q := 53) dX11_above_7 fX11_19 rfl (wlt hw (by decide)) (wr hw rfl) ?_
  refine ev_iload_n (pc := 10) dX11_above_10 rfl ?_
  refine ev_iald (pc := 11) dX11_above_11 rfl (wlt hw (by decide)) hb ?_
  refine ev_imul (pc := 12) dX11_above_12 ?_
  refine ev_aload_n (pc := 13) dX11_above_13 rfl ?_
  refine ev_getR (pc := 14) (q := 54) dX11_above_14 fX11_22 rfl (wlt hw (by decide)) (wr hw rfl) ?_
  refine ev_iload_n (pc := 17) dX11_above_17 rfl ?_
  refine ev_iald (pc := 18) dX11_above_18 rfl (wlt hw (by decide)) hb ?_
  refine ev_aload_n (pc := 19) dX11_above_19 rfl ?_
  refine ev_getR (pc := 20) (q := 53) dX11_above_20 fX11_19 rfl (wlt hw (by decide)) (wr hw rfl) ?_
  refine ev_iload_n (pc := 23) dX11_above_23 rfl ?_
  refine ev_iald (pc := 24) dX11_above_24 rfl (wlt hw (by decide)) ha ?_
  refine ev_imul (pc := 25) dX11_above_25 ?_
  refine ev_isub (pc := 26) dX11_above_26 ?_
  refine ev_iret (pc := 27) dX11_above_27 rfl ?_ ?_
  · rfl
  · exact ⟨rfl, rfl⟩
/-- sure to be of two hands: by the model -/
def sureP (h : AH) (a b : Int32) : Prop := h.2.1 49 17 * h.2.1 53 a.toNatClampNeg * h.2.1 53 b.toNatClampNeg < 10 * (if h.2.1 54 (Int32.toNatClampNeg a) * h.2.1 53 (Int32.toNatClampNeg b) - h.2.1 54 (Int32.toNatClampNeg b) * h.2.1 53 (Int32.toNatClampNeg a) < 0 then -(h.2.1 54 (Int32.toNatClampNeg a) * h.2.1 53 (Int32.toNatClampNeg b) - h.2.1 54 (Int32.toNatClampNeg b) * h.2.1 53 (Int32.toNatClampNeg a)) else h.2.1 54 (Int32.toNatClampNeg a) * h.2.1 53 (Int32.toNatClampNeg b) - h.2.1 54 (Int32.toNatClampNeg b) * h.2.1 53 (Int32.toNatClampNeg a))
noncomputable def surI (h : AH) (a b : Int32) : Int32 := if h.2.1 49 17 * h.2.1 53 a.toNatClampNeg * h.2.1 53 b.toNatClampNeg < 10 * (if h.2.1 54 (Int32.toNatClampNeg a) * h.2.1 53 (Int32.toNatClampNeg b) - h.2.1 54 (Int32.toNatClampNeg b) * h.2.1 53 (Int32.toNatClampNeg a) < 0 then -(h.2.1 54 (Int32.toNatClampNeg a) * h.2.1 53 (Int32.toNatClampNeg b) - h.2.1 54 (Int32.toNatClampNeg b) * h.2.1 53 (Int32.toNatClampNeg a)) else h.2.1 54 (Int32.toNatClampNeg a) * h.2.1 53 (Int32.toNatClampNeg b) - h.2.1 54 (Int32.toNatClampNeg b) * h.2.1 53 (Int32.toNatClampNeg a)) then 1 else 0
theorem cn_X11_areSure (E : ME) (h : AH) (a b : Int32) (hw : WF h) (ha : vp_in a 12) (hb : vp_in b 12) : Con E mX11_areSure 1 0 0 [.ref 49, .int a, .int b] h (fun r h' => r = some (.int (surI h a b)) ∧ h' = h) := by
  refine con_of2 (L := [some (.ref 49), some (.int a), some (.int b), none]) rfl (Nat.le_of_ble_eq_true rfl) rfl ?_
  refine ev_aload_n (pc := 0) dX11_areSure_0 rfl ?_
  refine ev_iload_n (pc := 1) dX11_areSure_1 rfl ?_
  refine ev_iload_n (pc := 2) dX11_areSure_2 rfl ?_
  refine ev_callVv (S := []) (pc := 3) dX11_areSure_3 kX11_above lX11_229 vX11_above (cn_X11_above E h a b hw ha hb) rfl rfl (wlt hw (by decide)) rfl rfl (Nat.le_of_ble_eq_true rfl) ⟨Nat.le_of_ble_eq_true rfl, Nat.le_of_ble_eq_true rfl⟩ ⟨Nat.le_of_ble_eq_true rfl, Nat.le_of_ble_eq_true rfl⟩ ?_
  refine ev_istore_n (pc := 6) (L' := [some (.ref 49), some (.int a), some (.int b), some (.int (h.2.1 54 (Int32.toNatClampNeg a) * h.2.1 53 (Int32.toNatClampNeg b) - h.2.1 54 (Int32.toNatClampNeg b) * h.2.1 53 (Int32.toNatClampNeg a)))]) dX11_areSure_6 (Nat.le_of_ble_eq_true rfl) rfl ?_
  refine ev_bipush (pc := 7) (v := 10) dX11_areSure_7 (by decide) ?_
  refine ev_iload_n (pc := 9) dX11_areSure_9 rfl ?_
  refine ev_if_ge (pc := 10) (tgt := 18) dX11_areSure_10 (by decide) (fun zc10 => ?_) (fun zc10 => ?_)
  · -- ge at 10: taken
    refine ev_iload_n (pc := 18) dX11_areSure_18 rfl ?_
    refine ev_imul (pc := 19) dX11_areSure_19 ?_
    refine ev_aload_n (pc := 20) dX11_areSure_20 rfl ?_
    refine ev_getI (pc := 21) dX11_areSure_21 fX11_31 rfl (wlt hw (by decide)) ?_
    refine ev_aload_n (pc := 24) dX11_areSure_24 rfl ?_
    refine ev_getR (pc := 25) (q := 53) dX11_areSure_25 fX11_19 rfl (wlt hw (by decide)) (wr hw rfl) ?_
    refine ev_iload_n (pc := 28) dX11_areSure_28 rfl ?_
    refine ev_iald (pc := 29) dX11_areSure_29 rfl (wlt hw (by decide)) ha ?_
    refine ev_imul (pc := 30) dX11_areSure_30 ?_
    refine ev_aload_n (pc := 31) dX11_areSure_31 rfl ?_
    refine ev_getR (pc := 32) (q := 53) dX11_areSure_32 fX11_19 rfl (wlt hw (by decide)) (wr hw rfl) ?_
    refine ev_iload_n (pc := 35) dX11_areSure_35 rfl ?_
    refine ev_iald (pc := 36) dX11_areSure_36 rfl (wlt hw (by decide)) hb ?_
    refine ev_imul (pc := 37) dX11_areSure_37 ?_
    refine ev_icmp_le (pc := 38) (tgt := 45) dX11_areSure_38 (by decide) (fun zc38 => ?_) (fun zc38 => ?_)
    · -- le at 38: taken
      refine ev_iconst (pc := 45) (v := 0) dX11_areSure_45 (by decide) ?_
      refine ev_iret (pc := 46) dX11_areSure_46 rfl ?_ ?_
      · first | rfl | exact nar_bI _ | (simp only [*]; exact nar_bI _) | (simp [narrow, *]; done)
      · refine ⟨?_, rfl⟩
        unfold surI
        first | (rw [if_neg zc10] at * <;> skip) | skip
        simp only [i_le, i_lt] at *
        (repeat' split) <;> first | rfl | (exfalso; omega)
    · -- le at 38: not taken
      refine ev_iconst (pc := 41) (v := 1) dX11_areSure_41 (by decide) ?_
      refine ev_goto (pc := 42) (tgt := 46) dX11_areSure_42 (by decide) ?_
      refine ev_iret (pc := 46) dX11_areSure_46 rfl ?_ ?_
      · first | rfl | exact nar_bI _ | (simp only [*]; exact nar_bI _) | (simp [narrow, *]; done)
      · refine ⟨?_, rfl⟩
        unfold surI
        first | (rw [if_neg zc10] at * <;> skip) | skip
        simp only [i_le, i_lt] at *
        (repeat' split) <;> first | rfl | (exfalso; omega)
  · -- ge at 10: not taken
    refine ev_iload_n (pc := 13) dX11_areSure_13 rfl ?_
    refine ev_ineg (pc := 14) dX11_areSure_14 ?_
    refine ev_goto (pc := 15) (tgt := 19) dX11_areSure_15 (by decide) ?_
    refine ev_imul (pc := 19) dX11_areSure_19 ?_
    refine ev_aload_n (pc := 20) dX11_areSure_20 rfl ?_
    refine ev_getI (pc := 21) dX11_areSure_21 fX11_31 rfl (wlt hw (by decide)) ?_
    refine ev_aload_n (pc := 24) dX11_areSure_24 rfl ?_
    refine ev_getR (pc := 25) (q := 53) dX11_areSure_25 fX11_19 rfl (wlt hw (by decide)) (wr hw rfl) ?_
    refine ev_iload_n (pc := 28) dX11_areSure_28 rfl ?_
    refine ev_iald (pc := 29) dX11_areSure_29 rfl (wlt hw (by decide)) ha ?_
    refine ev_imul (pc := 30) dX11_areSure_30 ?_
    refine ev_aload_n (pc := 31) dX11_areSure_31 rfl ?_
    refine ev_getR (pc := 32) (q := 53) dX11_areSure_32 fX11_19 rfl (wlt hw (by decide)) (wr hw rfl) ?_
    refine ev_iload_n (pc := 35) dX11_areSure_35 rfl ?_
    refine ev_iald (pc := 36) dX11_areSure_36 rfl (wlt hw (by decide)) hb ?_
    refine ev_imul (pc := 37) dX11_areSure_37 ?_
    refine ev_icmp_le (pc := 38) (tgt := 45) dX11_areSure_38 (by decide) (fun zc38 => ?_) (fun zc38 => ?_)
    · -- le at 38: taken
      refine ev_iconst (pc := 45) (v := 0) dX11_areSure_45 (by decide) ?_
      refine ev_iret (pc := 46) dX11_areSure_46 rfl ?_ ?_
      · first | rfl | exact nar_bI _ | (simp only [*]; exact nar_bI _) | (simp [narrow, *]; done)
      · refine ⟨?_, rfl⟩
        unfold surI
        first | (rw [if_neg zc10] at * <;> skip) | skip
        simp only [i_le, i_lt] at *
        (repeat' split) <;> first | rfl | (exfalso; omega)
    · -- le at 38: not taken
      refine ev_iconst (pc := 41) (v := 1) dX11_areSure_41 (by decide) ?_
      refine ev_goto (pc := 42) (tgt := 46) dX11_areSure_42 (by decide) ?_
      refine ev_iret (pc := 46) dX11_areSure_46 rfl ?_ ?_
      · first | rfl | exact nar_bI _ | (simp only [*]; exact nar_bI _) | (simp [narrow, *]; done)
      · refine ⟨?_, rfl⟩
        unfold surI
        first | (rw [if_neg zc10] at * <;> skip) | skip
        simp only [i_le, i_lt] at *
        (repeat' split) <;> first | rfl | (exfalso; omega)
theorem surI_01 (h : AH) (a b : Int32) : surI h a b = 0 ∨ surI h a b = 1 := by
  unfold surI
  exact (Decidable.em _).elim (fun z => Or.inr (if_pos z)) (fun z => Or.inl (if_neg z))
theorem cn_X11_sure (E : ME) (h : AH) (a b : Int32) (m : Nat) (hw : WF h) (hm : h.2.1 49 14 = nI m) (hm2 : m ≤ 12) : Con E mX11_sure 3 0 0 [.ref 49, .int a, .int b] h (fun r h' => r = some (.int (if ((0 ≤ a ∧ a ≤ h.2.1 49 14 - 1) ∧ 0 < h.2.1 53 (Int32.toNatClampNeg a)) ∧ ((0 ≤ b ∧ b ≤ h.2.1 49 14 - 1) ∧ 0 < h.2.1 53 (Int32.toNatClampNeg b)) ∧ ¬ a = b then surI h a b else -1)) ∧ h' = h) := by
  refine con_of2 (L := [some (.ref 49), some (.int a), some (.int b)]) rfl (Nat.le_of_ble_eq_true rfl) rfl ?_
  refine ev_aload_n (pc := 0) dX11_sure_0 rfl ?_
  refine ev_iload_n (pc := 1) dX11_sure_1 rfl ?_
  refine ev_callVv (S := []) (pc := 2) dX11_sure_2 kX11_isRow lX11_226 vX11_isRow (cn_X11_isRow E h a m hw hm hm2) rfl rfl (wlt hw (by decide)) rfl rfl (Nat.le_of_ble_eq_true rfl) ⟨Nat.le_of_ble_eq_true rfl, Nat.le_of_ble_eq_true rfl⟩ ⟨Nat.le_of_ble_eq_true rfl, Nat.le_of_ble_eq_true rfl⟩ ?_
  refine ev_if_eq (pc := 5) (tgt := 38) dX11_sure_5 (by decide) (fun zc5 => ?_) (fun zc5 => ?_)
  · -- eq at 5: taken
    refine ev_iconst (pc := 38) (v := (-1)) dX11_sure_38 (by decide) ?_
    refine ev_iret (pc := 39) dX11_sure_39 rfl ?_ ?_
    · rfl
    · simp only [bI_0, bI_n0, Classical.not_not] at zc5
      refine ⟨?_, rfl⟩
      first | (rw [if_neg (fun q => zc5 q.1)]; done) | (simp only [bI_0, bI_n0, Classical.not_not] at zc13; first | (rw [if_neg (fun q => zc13 q.2.1)]; done) | (rw [if_neg (fun q => q.2.2 zc18)]; done) | (rw [if_pos ⟨zc5, zc13, zc18⟩]; rcases surI_01 h a b with z | z <;> simp_all))
  · -- eq at 5: not taken
    refine ev_aload_n (pc := 8) dX11_sure_8 rfl ?_
    refine ev_iload_n (pc := 9) dX11_sure_9 rfl ?_
    refine ev_callVv (S := []) (pc := 10) dX11_sure_10 kX11_isRow lX11_226 vX11_isRow (cn_X11_isRow E h b m hw hm hm2) rfl rfl (wlt hw (by decide)) rfl rfl (Nat.le_of_ble_eq_true rfl) ⟨Nat.le_of_ble_eq_true rfl, Nat.le_of_ble_eq_true rfl⟩ ⟨Nat.le_of_ble_eq_true rfl, Nat.le_of_ble_eq_true rfl⟩ ?_
    refine ev_if_eq (pc := 13) (tgt := 38) dX11_sure_13 (by decide) (fun zc13 => ?_) (fun zc13 => ?_)
    · -- eq at 13: taken
      refine ev_iconst (pc := 38) (v := (-1)) dX11_sure_38 (by decide) ?_
      refine ev_iret (pc := 39) dX11_sure_39 rfl ?_ ?_
      · rfl
      · simp only [bI_0, bI_n0, Classical.not_not] at zc5
        refine ⟨?_, rfl⟩
        first | (rw [if_neg (fun q => zc5 q.1)]; done) | (simp only [bI_0, bI_n0, Classical.not_not] at zc13; first | (rw [if_neg (fun q => zc13 q.2.1)]; done) | (rw [if_neg (fun q => q.2.2 zc18)]; done) | (rw [if_pos ⟨zc5, zc13, zc18⟩]; rcases surI_01 h a b with z | z <;> simp_all))
    · -- eq at 13: not taken
      refine ev_iload_n (pc := 16) dX11_sure_16 rfl ?_
      refine ev_iload_n (pc := 17) dX11_sure_17 rfl ?_
      refine ev_icmp_eq (pc := 18) (tgt := 38) dX11_sure_18 (by decide) (fun zc18 => ?_) (fun zc18 => ?_)
      · -- eq at 18: taken
        refine ev_iconst (pc := 38) (v := (-1)) dX11_sure_38 (by decide) ?_
        refine ev_iret (pc := 39) dX11_sure_39 rfl ?_ ?_
        · rfl
        · simp only [bI_0, bI_n0, Classical.not_not] at zc5
          refine ⟨?_, rfl⟩
          first | (rw [if_neg (fun q => zc5 q.1)]; done) | (simp only [bI_0, bI_n0, Classical.not_not] at zc13; first | (rw [if_neg (fun q => zc13 q.2.1)]; done) | (rw [if_neg (fun q => q.2.2 zc18)]; done) | (rw [if_pos ⟨zc5, zc13, zc18⟩]; rcases surI_01 h a b with z | z <;> simp_all))
      · -- eq at 18: not taken
        refine ev_aload_n (pc := 21) dX11_sure_21 rfl ?_
        refine ev_iload_n (pc := 22) dX11_sure_22 rfl ?_
        refine ev_iload_n (pc := 23) dX11_sure_23 rfl ?_
        refine ev_callVv (S := []) (pc := 24) dX11_sure_24 kX11_areSure lX11_232 vX11_areSure (cn_X11_areSure E h a b hw (by simp only [bI_0, bI_n0, Classical.not_not] at *; rw [hm] at zc5; exact vp_th 12 zc5.1.1 zc5.1.2 hm2 (by decide)) (by simp only [bI_0, bI_n0, Classical.not_not] at *; rw [hm] at zc13; exact vp_th 12 zc13.1.1 zc13.1.2 hm2 (by decide))) rfl rfl (wlt hw (by decide)) rfl rfl (Nat.le_of_ble_eq_true rfl) ⟨Nat.le_of_ble_eq_true rfl, Nat.le_of_ble_eq_true rfl⟩ ⟨Nat.le_of_ble_eq_true rfl, Nat.le_of_ble_eq_true rfl⟩ ?_
        refine ev_if_eq (pc := 27) (tgt := 34) dX11_sure_27 (by decide) (fun zc27 => ?_) (fun zc27 => ?_)
        · -- eq at 27: taken
          refine ev_iconst (pc := 34) (v := 0) dX11_sure_34 (by decide) ?_
          refine ev_goto (pc := 35) (tgt := 39) dX11_sure_35 (by decide) ?_
          refine ev_iret (pc := 39) dX11_sure_39 rfl ?_ ?_
          · rfl
          · simp only [bI_0, bI_n0, Classical.not_not] at zc5
            refine ⟨?_, rfl⟩
            first | (rw [if_neg (fun q => zc5 q.1)]; done) | (simp only [bI_0, bI_n0, Classical.not_not] at zc13; first | (rw [if_neg (fun q => zc13 q.2.1)]; done) | (rw [if_neg (fun q => q.2.2 zc18)]; done) | (rw [if_pos ⟨zc5, zc13, zc18⟩]; rcases surI_01 h a b with z | z <;> simp_all))
        · -- eq at 27: not taken
          refine ev_iconst (pc := 30) (v := 1) dX11_sure_30 (by decide) ?_
          refine ev_goto (pc := 31) (tgt := 39) dX11_sure_31 (by decide) ?_
          refine ev_iret (pc := 39) dX11_sure_39 rfl ?_ ?_
          · rfl
          · simp only [bI_0, bI_n0, Classical.not_not] at zc5
            refine ⟨?_, rfl⟩
            first | (rw [if_neg (fun q => zc5 q.1)]; done) | (simp only [bI_0, bI_n0, Classical.not_not] at zc13; first | (rw [if_neg (fun q => zc13 q.2.1)]; done) | (rw [if_neg (fun q => q.2.2 zc18)]; done) | (rw [if_pos ⟨zc5, zc13, zc18⟩]; rcases surI_01 h a b with z | z <;> simp_all))
