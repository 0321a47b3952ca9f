theorem cn_X0_addCellsK (E : ME) (h : AH) (zn zk zb : Nat) (zx : Int64) (hw : WF h) (hp : h.2.1 30 1 = nI zb) (hp4 : zb ≤ 4) (hnb : zn < zb * 208) (hk : zk < 6) : Con E mX0_addCells 2 0 0 [.ref 30, .int (nI zn), .int (nI zk), .long zx] h (fun r h' => r = none ∧ h' = sL h 31 (vp_updL (h.2.2.1 31) (shN zn + zk) (h.2.2.1 31 (shN zn + zk) ||| zx))) := by
  refine con_of2 (L := [some (.ref 30), some (.int (nI zn)), some (.int (nI zk)), some (.long zx), none]) rfl (Nat.le_of_ble_eq_true rfl) rfl ?_
  have hn : zn < 832 := by omega
  have hsb := shN_b hn
  refine ev_iload_n (pc := 0) dX0_addCells_0 rfl ?_
  refine ev_iconst (pc := 1) (v := 0) dX0_addCells_1 (by decide) ?_
  refine ev_aload_n (pc := 2) dX0_addCells_2 rfl ?_
  refine ev_callVv (S := [.int 0, .int (nI zn)]) (pc := 3) dX0_addCells_3 kX0_numbers lX0_66 vX0_numbers (cn_X0_numbers E h zb hw hp hp4) rfl rfl (wlt hw (by decide)) rfl rfl (Nat.le_of_ble_eq_true rfl) ⟨Nat.le_of_ble_eq_true rfl, Nat.le_of_ble_eq_true rfl⟩ ⟨Nat.le_of_ble_eq_true rfl, Nat.le_of_ble_eq_true rfl⟩ ?_
  refine ev_iconst (pc := 6) (v := 1) dX0_addCells_6 (by decide) ?_
  refine ev_isub (pc := 7) dX0_addCells_7 ?_
  refine ev_callSv (S := []) (pc := 8) dX0_addCells_8 kX10_within lX0_29 sX10_within (cn_X10_within E h (nI zn) 0 ((nI (zb * 208)) - 1)) rfl rfl (Nat.le_of_ble_eq_true rfl) ⟨Nat.le_of_ble_eq_true rfl, Nat.le_of_ble_eq_true rfl⟩ ⟨Nat.le_of_ble_eq_true rfl, Nat.le_of_ble_eq_true rfl⟩ ?_
  refine ev_if_eq (pc := 11) (tgt := 38) dX0_addCells_11 (by decide) (fun zc11 => absurd zc11 (bI_n0.mpr ⟨nI_pos' (by omega), by rw [nI_m1 (by omega)]; exact nI_le (by omega) (by omega)⟩)) (fun zc11 => ?_)
  refine ev_iload_n (pc := 14) dX0_addCells_14 rfl ?_
  refine ev_iconst (pc := 15) (v := 0) dX0_addCells_15 (by decide) ?_
  refine ev_iconst (pc := 16) (v := 5) dX0_addCells_16 (by decide) ?_
  refine ev_callSv (S := []) (pc := 17) dX0_addCells_17 kX10_within lX0_29 sX10_within (cn_X10_within E h (nI zk) 0 5) rfl rfl (Nat.le_of_ble_eq_true rfl) ⟨Nat.le_of_ble_eq_true rfl, Nat.le_of_ble_eq_true rfl⟩ ⟨Nat.le_of_ble_eq_true rfl, Nat.le_of_ble_eq_true rfl⟩ ?_
  refine ev_if_eq (pc := 20) (tgt := 38) dX0_addCells_20 (by decide) (fun zc20 => absurd zc20 (bI_n0.mpr ⟨nI_pos' (by omega), nI_le (a := zk) (b := 5) (by omega) (by decide)⟩)) (fun zc20 => ?_)
  refine ev_aload_n (pc := 23) dX0_addCells_23 rfl ?_
  refine ev_getR (pc := 24) (q := 31) dX0_addCells_24 fX0_11 rfl (wlt hw (by decide)) (wr hw rfl) ?_
  refine ev_iload_n (pc := 27) dX0_addCells_27 rfl ?_
  refine ev_callSv (S := [.ref 31]) (pc := 28) dX0_addCells_28 kX0_shapeOf lX0_69 sX0_shapeOf (cn_X0_shapeOf E h zn hn) rfl rfl (Nat.le_of_ble_eq_true rfl) ⟨Nat.le_of_ble_eq_true rfl, Nat.le_of_ble_eq_true rfl⟩ ⟨Nat.le_of_ble_eq_true rfl, Nat.le_of_ble_eq_true rfl⟩ ?_
  refine ev_iload_n (pc := 31) dX0_addCells_31 rfl ?_
  refine ev_iadd (pc := 32) dX0_addCells_32 ?_
  refine ev_eqI (e' := nI ((shN zn) + zk)) (nI_add (shN zn) zk) ?_
  refine ev_dup2 (pc := 33) dX0_addCells_33 rfl rfl ?_
  refine ev_lald (pc := 34) dX0_addCells_34 rfl (wlt hw (by decide)) (vp_in_nI (by omega) (by decide)) ?_
  refine ev_eqJ (e' := h.2.2.1 31 ((shN zn) + zk)) (by rw [show Int32.toNatClampNeg (nI ((shN zn) + zk)) = (shN zn) + zk from nI_clamp (by omega)] <;> rfl) ?_
  refine ev_lload_n (pc := 35) dX0_addCells_35 rfl ?_
  refine ev_lor (pc := 36) dX0_addCells_36 ?_
  refine ev_last (pc := 37) dX0_addCells_37 rfl (wlt hw (by decide)) (vp_in_nI (by omega) (by decide)) ?_
  refine ev_eqH (h' := sL h 31 (vp_updL (h.2.2.1 31) ((shN zn) + zk) ((h.2.2.1 31 ((shN zn) + zk)) ||| zx))) (by rw [show Int32.toNatClampNeg (nI ((shN zn) + zk)) = (shN zn) + zk from nI_clamp (by omega)] <;> rfl) ?_
  refine ev_ret (pc := 38) dX0_addCells_38 rfl ?_
  · exact ⟨rfl, rfl⟩
theorem cn_X0_addCellsN (E : ME) (h : AH) (zn zb : Nat) (zx : Int64) (hw : WF h) (hp : h.2.1 30 1 = nI zb) (hp4 : zb ≤ 4) (hnb : zn < zb * 208) : Con E mX0_addCells 2 0 0 [.ref 30, .int (nI zn), .int ((-1)), .long zx] h (fun r h' => r = none ∧ h' = h) := by
  refine con_of2 (L := [some (.ref 30), some (.int (nI zn)), some (.int ((-1))), some (.long zx), none]) rfl (Nat.le_of_ble_eq_true rfl) rfl ?_
  have hn : zn < 832 := by omega
  have hsb := shN_b hn
  refine ev_iload_n (pc := 0) dX0_addCells_0 rfl ?_
  refine ev_iconst (pc := 1) (v := 0) dX0_addCells_1 (by decide) ?_
  refine ev_aload_n (pc := 2) dX0_addCells_2 rfl ?_
  refine ev_callVv (S := [.int 0, .int (nI zn)]) (pc := 3) dX0_addCells_3 kX0_numbers lX0_66 vX0_numbers (cn_X0_numbers E h zb hw hp hp4) rfl rfl (wlt hw (by decide)) rfl rfl (Nat.le_of_ble_eq_true rfl) ⟨Nat.le_of_ble_eq_true rfl, Nat.le_of_ble_eq_true rfl⟩ ⟨Nat.le_of_ble_eq_true rfl, Nat.le_of_ble_eq_true rfl⟩ ?_
  refine ev_iconst (pc := 6) (v := 1) dX0_addCells_6 (by decide) ?_
  refine ev_isub (pc := 7) dX0_addCells_7 ?_
  refine ev_callSv (S := []) (pc := 8) dX0_addCells_8 kX10_within lX0_29 sX10_within (cn_X10_within E h (nI zn) 0 ((nI (zb * 208)) - 1)) rfl rfl (Nat.le_of_ble_eq_true rfl) ⟨Nat.le_of_ble_eq_true rfl, Nat.le_of_ble_eq_true rfl⟩ ⟨Nat.le_of_ble_eq_true rfl, Nat.le_of_ble_eq_true rfl⟩ ?_
  refine ev_if_eq (pc := 11) (tgt := 38) dX0_addCells_11 (by decide) (fun zc11 => absurd zc11 (bI_n0.mpr ⟨nI_pos' (by omega), by rw [nI_m1 (by omega)]; exact nI_le (by omega) (by omega)⟩)) (fun zc11 => ?_)
  refine ev_iload_n (pc := 14) dX0_addCells_14 rfl ?_
  refine ev_iconst (pc := 15) (v := 0) dX0_addCells_15 (by decide) ?_
  refine ev_iconst (pc := 16) (v := 5) dX0_addCells_16 (by decide) ?_
  refine ev_callSv (S := []) (pc := 17) dX0_addCells_17 kX10_within lX0_29 sX10_within (cn_X10_within E h (-1) 0 5) rfl rfl (Nat.le_of_ble_eq_true rfl) ⟨Nat.le_of_ble_eq_true rfl, Nat.le_of_ble_eq_true rfl⟩ ⟨Nat.le_of_ble_eq_true rfl, Nat.le_of_ble_eq_true rfl⟩ ?_
  refine ev_if_eq (pc := 20) (tgt := 38) dX0_addCells_20 (by decide) (fun zc20 => ?_) (fun zc20 => absurd (by decide) zc20)
  refine ev_ret (pc := 38) dX0_addCells_38 rfl ?_
  · exact ⟨rfl, rfl⟩
