def cpS (zn : Nat) : Nat := if zn % 208 < 200 then 1 else 2
def cpW (zn : Nat) : Nat := if zn % 208 < 200 then zn % 208 / 25 else zn % 208 - 200
def cpQ (zn : Nat) : Nat := if zn % 208 < 200 then zn % 208 % 25 else 0
def cpC (zn : Nat) : Nat := cpQ zn / 5 * 8 + cpQ zn % 5
def shN (zn : Nat) : Nat := ((zn / 208 * 2 + cpS zn - 1) * 8 + cpW zn) * 6
def cnN (zp zw zs zc : Nat) : Nat := zp * 208 + (if zs = 2 then 200 + zw else zw * 25 + zc / 8 * 5 + zc % 8)
theorem cpW_8 (zn : Nat) : cpW zn < 8 := by unfold cpW; split <;> omega
theorem cpC_b (zn : Nat) : cpC zn < 64 ∧ cpC zn / 8 ≤ 4 ∧ cpC zn % 8 ≤ 4 ∧ (cpS zn = 2 → cpC zn = 0) := by
  unfold cpC cpQ cpS
  split
  · refine ⟨by omega, by omega, by omega, fun z => by omega⟩
  · refine ⟨by omega, by omega, by omega, fun z => rfl⟩
theorem cpS_12 (zn : Nat) : cpS zn = 1 ∨ cpS zn = 2 := by unfold cpS; split <;> simp
theorem shN_b {zn : Nat} (h : zn < 832) : shN zn + 6 ≤ 384 := by
  have h1 := cpW_8 zn
  have h2 := cpS_12 zn
  unfold shN
  omega
theorem cn_X0_patternOf (E : ME) (h : AH) (zn : Nat) (hn : zn < 832) : Con E mX0_patternOf 0 0 0 [.int (nI zn)] h (fun r h' => r = some (.int (nI (zn / 208))) ∧ h' = h) := by
  refine con_of2 (L := [some (.int (nI zn))]) rfl (Nat.le_of_ble_eq_true rfl) rfl ?_
  refine ev_iload_n (pc := 0) dX0_patternOf_0 rfl ?_
  refine ev_sipush (pc := 1) (v := 208) dX0_patternOf_1 (by decide) ?_
  refine ev_idiv (pc := 4) dX0_patternOf_4 (by decide) ?_
  refine ev_eqI (e' := nI (zn / 208)) (pk_div (a := zn) (d := 208) (by omega) (by omega) (by omega)) ?_
  refine ev_iret (pc := 5) dX0_patternOf_5 rfl ?_ ?_
  · rfl
  · exact ⟨rfl, rfl⟩
theorem cn_X0_scaleOf (E : ME) (h : AH) (zn : Nat) (hn : zn < 832) : Con E mX0_scaleOf 0 0 0 [.int (nI zn)] h (fun r h' => r = some (.int (nI (cpS zn))) ∧ h' = h) := by
  refine con_of2 (L := [some (.int (nI zn))]) rfl (Nat.le_of_ble_eq_true rfl) rfl ?_
  refine ev_iload_n (pc := 0) dX0_scaleOf_0 rfl ?_
  refine ev_sipush (pc := 1) (v := 208) dX0_scaleOf_1 (by decide) ?_
  refine ev_irem (pc := 4) dX0_scaleOf_4 (by decide) ?_
  refine ev_eqI (e' := nI (zn % 208)) (pk_rem (a := zn) (d := 208) (by omega) (by omega) (by omega)) ?_
  refine ev_sipush (pc := 5) (v := 200) dX0_scaleOf_5 (by decide) ?_
  refine ev_icmp_ge (pc := 8) (tgt := 15) dX0_scaleOf_8 (by decide) (fun zc8 => ?_) (fun zc8 => ?_)
  · -- ge at 8: taken
    refine ev_iconst (pc := 15) (v := 2) dX0_scaleOf_15 (by decide) ?_
    refine ev_iret (pc := 16) dX0_scaleOf_16 rfl ?_ ?_
    · rfl
    · refine ⟨?_, rfl⟩
      unfold cpS
      rw [if_neg (by have := (nI_leI (a := 200) (b := zn % 208) (by decide) (by omega)).mp zc8; omega)]; rfl
  · -- ge at 8: not taken
    refine ev_iconst (pc := 11) (v := 1) dX0_scaleOf_11 (by decide) ?_
    refine ev_goto (pc := 12) (tgt := 16) dX0_scaleOf_12 (by decide) ?_
    refine ev_iret (pc := 16) dX0_scaleOf_16 rfl ?_ ?_
    · rfl
    · refine ⟨?_, rfl⟩
      unfold cpS
      rw [if_pos (Nat.lt_of_not_le (fun z => zc8 ((nI_leI (a := 200) (b := zn % 208) (by decide) (by omega)).mpr z)))]; rfl
theorem cn_X0_wayOf (E : ME) (h : AH) (zn : Nat) (hn : zn < 832) : Con E mX0_wayOf 0 0 0 [.int (nI zn)] h (fun r h' => r = some (.int (nI (cpW zn))) ∧ h' = h) := by
  refine con_of2 (L := [some (.int (nI zn)), none]) rfl (Nat.le_of_ble_eq_true rfl) rfl ?_
  refine ev_iload_n (pc := 0) dX0_wayOf_0 rfl ?_
  refine ev_sipush (pc := 1) (v := 208) dX0_wayOf_1 (by decide) ?_
  refine ev_irem (pc := 4) dX0_wayOf_4 (by decide) ?_
  refine ev_eqI (e' := nI (zn % 208)) (pk_rem (a := zn) (d := 208) (by omega) (by omega) (by omega)) ?_
  refine ev_istore_n (pc := 5) (L' := [some (.int (nI zn)), some (.int (nI (zn % 208)))]) dX0_wayOf_5 (Nat.le_of_ble_eq_true rfl) rfl ?_
  refine ev_iload_n (pc := 6) dX0_wayOf_6 rfl ?_
  refine ev_sipush (pc := 7) (v := 200) dX0_wayOf_7 (by decide) ?_
  refine ev_icmp_ge (pc := 10) (tgt := 20) dX0_wayOf_10 (by decide) (fun zc10 => ?_) (fun zc10 => ?_)
  · -- ge at 10: taken
    refine ev_iload_n (pc := 20) dX0_wayOf_20 rfl ?_
    refine ev_sipush (pc := 21) (v := 200) dX0_wayOf_21 (by decide) ?_
    refine ev_isub (pc := 24) dX0_wayOf_24 ?_
    refine ev_eqI (e' := nI ((zn % 208) - 200)) (pk_sub (a := zn % 208) (b := 200) (by have z1 := (nI_leI (a := 200) (b := zn % 208) (by decide) (by omega)).mp zc10; omega)) ?_
    refine ev_iret (pc := 25) dX0_wayOf_25 rfl ?_ ?_
    · rfl
    · refine ⟨?_, rfl⟩
      unfold cpW
      rw [if_neg (by have := (nI_leI (a := 200) (b := zn % 208) (by decide) (by omega)).mp zc10; omega)]
  · -- ge at 10: not taken
    refine ev_iload_n (pc := 13) dX0_wayOf_13 rfl ?_
    refine ev_bipush (pc := 14) (v := 25) dX0_wayOf_14 (by decide) ?_
    refine ev_idiv (pc := 16) dX0_wayOf_16 (by decide) ?_
    refine ev_eqI (e' := nI ((zn % 208) / 25)) (pk_div (a := zn % 208) (d := 25) (by omega) (by omega) (by omega)) ?_
    refine ev_goto (pc := 17) (tgt := 25) dX0_wayOf_17 (by decide) ?_
    refine ev_iret (pc := 25) dX0_wayOf_25 rfl ?_ ?_
    · rfl
    · refine ⟨?_, rfl⟩
      unfold cpW
      rw [if_pos (Nat.lt_of_not_le (fun z => zc10 ((nI_leI (a := 200) (b := zn % 208) (by decide) (by omega)).mpr z)))]
theorem cpQ_b (zn : Nat) : cpQ zn < 25 := by unfold cpQ; split <;> omega
theorem cn_X0_cellOf (E : ME) (h : AH) (zn : Nat) (hn : zn < 832) : Con E mX0_cellOf 0 0 0 [.int (nI zn)] h (fun r h' => r = some (.int (nI (cpC zn))) ∧ h' = h) := by
  refine con_of2 (L := [some (.int (nI zn)), none, none]) rfl (Nat.le_of_ble_eq_true rfl) rfl ?_
  have zqb := cpQ_b zn
  refine ev_iload_n (pc := 0) dX0_cellOf_0 rfl ?_
  refine ev_sipush (pc := 1) (v := 208) dX0_cellOf_1 (by decide) ?_
  refine ev_irem (pc := 4) dX0_cellOf_4 (by decide) ?_
  refine ev_eqI (e' := nI (zn % 208)) (pk_rem (a := zn) (d := 208) (by omega) (by omega) (by omega)) ?_
  refine ev_istore_n (pc := 5) (L' := [some (.int (nI zn)), some (.int (nI (zn % 208))), none]) dX0_cellOf_5 (Nat.le_of_ble_eq_true rfl) rfl ?_
  refine ev_iload_n (pc := 6) dX0_cellOf_6 rfl ?_
  refine ev_sipush (pc := 7) (v := 200) dX0_cellOf_7 (by decide) ?_
  refine ev_icmp_ge (pc := 10) (tgt := 20) dX0_cellOf_10 (by decide) (fun zc10 => ?_) (fun zc10 => ?_)
  · -- ge at 10: taken
    refine ev_iconst (pc := 20) (v := 0) dX0_cellOf_20 (by decide) ?_
    refine ev_eqI (e' := nI (cpQ zn)) (by unfold cpQ; rw [if_neg (by have := (nI_leI (a := 200) (b := zn % 208) (by decide) (by omega)).mp zc10; omega)]; rfl) ?_
    refine ev_istore_n (pc := 21) (L' := [some (.int (nI zn)), some (.int (nI (zn % 208))), some (.int (nI (cpQ zn)))]) dX0_cellOf_21 (Nat.le_of_ble_eq_true rfl) rfl ?_
    refine ev_iload_n (pc := 22) dX0_cellOf_22 rfl ?_
    refine ev_iconst (pc := 23) (v := 5) dX0_cellOf_23 (by decide) ?_
    refine ev_idiv (pc := 24) dX0_cellOf_24 (by decide) ?_
    refine ev_eqI (e' := nI ((cpQ zn) / 5)) (pk_div (a := cpQ zn) (d := 5) (by omega) (by omega) (by omega)) ?_
    refine ev_bipush (pc := 25) (v := 8) dX0_cellOf_25 (by decide) ?_
    refine ev_imul (pc := 27) dX0_cellOf_27 ?_
    refine ev_eqI (e' := nI (((cpQ zn) / 5) * 8)) (pk_mul ((cpQ zn) / 5) 8) ?_
    refine ev_iload_n (pc := 28) dX0_cellOf_28 rfl ?_
    refine ev_iconst (pc := 29) (v := 5) dX0_cellOf_29 (by decide) ?_
    refine ev_irem (pc := 30) dX0_cellOf_30 (by decide) ?_
    refine ev_eqI (e' := nI ((cpQ zn) % 5)) (pk_rem (a := cpQ zn) (d := 5) (by omega) (by omega) (by omega)) ?_
    refine ev_iadd (pc := 31) dX0_cellOf_31 ?_
    refine ev_eqI (e' := nI ((((cpQ zn) / 5) * 8) + ((cpQ zn) % 5))) (nI_add (((cpQ zn) / 5) * 8) ((cpQ zn) % 5)) ?_
    refine ev_iret (pc := 32) dX0_cellOf_32 rfl ?_ ?_
    · rfl
    · exact ⟨rfl, rfl⟩
  · -- ge at 10: not taken
    refine ev_iload_n (pc := 13) dX0_cellOf_13 rfl ?_
    refine ev_bipush (pc := 14) (v := 25) dX0_cellOf_14 (by decide) ?_
    refine ev_irem (pc := 16) dX0_cellOf_16 (by decide) ?_
    refine ev_eqI (e' := nI ((zn % 208) % 25)) (pk_rem (a := zn % 208) (d := 25) (by omega) (by omega) (by omega)) ?_
    refine ev_goto (pc := 17) (tgt := 21) dX0_cellOf_17 (by decide) ?_
    refine ev_eqI (e' := nI (cpQ zn)) (by unfold cpQ; rw [if_pos (Nat.lt_of_not_le (fun z => zc10 ((nI_leI (a := 200) (b := zn % 208) (by decide) (by omega)).mpr z)))]) ?_
    refine ev_istore_n (pc := 21) (L' := [some (.int (nI zn)), some (.int (nI (zn % 208))), some (.int (nI (cpQ zn)))]) dX0_cellOf_21 (Nat.le_of_ble_eq_true rfl) rfl ?_
    refine ev_iload_n (pc := 22) dX0_cellOf_22 rfl ?_
    refine ev_iconst (pc := 23) (v := 5) dX0_cellOf_23 (by decide) ?_
    refine ev_idiv (pc := 24) dX0_cellOf_24 (by decide) ?_
    refine ev_eqI (e' := nI ((cpQ zn) / 5)) (pk_div (a := cpQ zn) (d := 5) (by omega) (by omega) (by omega)) ?_
    refine ev_bipush (pc := 25) (v := 8) dX0_cellOf_25 (by decide) ?_
    refine ev_imul (pc := 27) dX0_cellOf_27 ?_
    refine ev_eqI (e' := nI (((cpQ zn) / 5) * 8)) (pk_mul ((cpQ zn) / 5) 8) ?_
    refine ev_iload_n (pc := 28) dX0_cellOf_28 rfl ?_
    refine ev_iconst (pc := 29) (v := 5) dX0_cellOf_29 (by decide) ?_
    refine ev_irem (pc := 30) dX0_cellOf_30 (by decide) ?_
    refine ev_eqI (e' := nI ((cpQ zn) % 5)) (pk_rem (a := cpQ zn) (d := 5) (by omega) (by omega) (by omega)) ?_
    refine ev_iadd (pc := 31) dX0_cellOf_31 ?_
    refine ev_eqI (e' := nI ((((cpQ zn) / 5) * 8) + ((cpQ zn) % 5))) (nI_add (((cpQ zn) / 5) * 8) ((cpQ zn) % 5)) ?_
    refine ev_iret (pc := 32) dX0_cellOf_32 rfl ?_ ?_
    · rfl
    · exact ⟨rfl, rfl⟩
theorem cn_X0_shapeOf (E : ME) (h : AH) (zn : Nat) (hn : zn < 832) : Con E mX0_shapeOf 1 0 0 [.int (nI zn)] h (fun r h' => r = some (.int (nI (shN zn))) ∧ h' = h) := by
  refine con_of2 (L := [some (.int (nI zn))]) rfl (Nat.le_of_ble_eq_true rfl) rfl ?_
  have zs12 := cpS_12 zn
  have zw8 := cpW_8 zn
  refine ev_iload_n (pc := 0) dX0_shapeOf_0 rfl ?_
  refine ev_callSv (S := []) (pc := 1) dX0_shapeOf_1 kX0_patternOf lX0_15 sX0_patternOf (cn_X0_patternOf E h zn hn) rfl rfl (Nat.le_of_ble_eq_true rfl) ⟨Nat.le_of_ble_eq_true rfl, Nat.le_of_ble_eq_true rfl⟩ ⟨Nat.le_of_ble_eq_true rfl, Nat.le_of_ble_eq_true rfl⟩ ?_
  refine ev_iconst (pc := 4) (v := 2) dX0_shapeOf_4 (by decide) ?_
  refine ev_imul (pc := 5) dX0_shapeOf_5 ?_
  refine ev_eqI (e' := nI ((zn / 208) * 2)) (pk_mul (zn / 208) 2) ?_
  refine ev_iload_n (pc := 6) dX0_shapeOf_6 rfl ?_
  refine ev_callSv (S := [.int (nI ((zn / 208) * 2))]) (pc := 7) dX0_shapeOf_7 kX0_scaleOf lX0_19 sX0_scaleOf (cn_X0_scaleOf E h zn hn) rfl rfl (Nat.le_of_ble_eq_true rfl) ⟨Nat.le_of_ble_eq_true rfl, Nat.le_of_ble_eq_true rfl⟩ ⟨Nat.le_of_ble_eq_true rfl, Nat.le_of_ble_eq_true rfl⟩ ?_
  refine ev_iadd (pc := 10) dX0_shapeOf_10 ?_
  refine ev_eqI (e' := nI (((zn / 208) * 2) + (cpS zn))) (nI_add ((zn / 208) * 2) (cpS zn)) ?_
  refine ev_iconst (pc := 11) (v := 1) dX0_shapeOf_11 (by decide) ?_
  refine ev_isub (pc := 12) dX0_shapeOf_12 ?_
  refine ev_eqI (e' := nI (zn / 208 * 2 + cpS zn - 1)) (pk_sub (a := zn / 208 * 2 + cpS zn) (b := 1) (by omega)) ?_
  refine ev_bipush (pc := 13) (v := 8) dX0_shapeOf_13 (by decide) ?_
  refine ev_imul (pc := 15) dX0_shapeOf_15 ?_
  refine ev_eqI (e' := nI ((zn / 208 * 2 + cpS zn - 1) * 8)) (pk_mul (zn / 208 * 2 + cpS zn - 1) 8) ?_
  refine ev_iload_n (pc := 16) dX0_shapeOf_16 rfl ?_
  refine ev_callSv (S := [.int (nI ((zn / 208 * 2 + cpS zn - 1) * 8))]) (pc := 17) dX0_shapeOf_17 kX0_wayOf lX0_22 sX0_wayOf (cn_X0_wayOf E h zn hn) rfl rfl (Nat.le_of_ble_eq_true rfl) ⟨Nat.le_of_ble_eq_true rfl, Nat.le_of_ble_eq_true rfl⟩ ⟨Nat.le_of_ble_eq_true rfl, Nat.le_of_ble_eq_true rfl⟩ ?_
  refine ev_iadd (pc := 20) dX0_shapeOf_20 ?_
  refine ev_eqI (e' := nI (((zn / 208 * 2 + cpS zn - 1) * 8) + (cpW zn))) (nI_add ((zn / 208 * 2 + cpS zn - 1) * 8) (cpW zn)) ?_
  refine ev_bipush (pc := 21) (v := 6) dX0_shapeOf_21 (by decide) ?_
  refine ev_imul (pc := 23) dX0_shapeOf_23 ?_
  refine ev_eqI (e' := nI ((((zn / 208 * 2 + cpS zn - 1) * 8) + (cpW zn)) * 6)) (pk_mul (((zn / 208 * 2 + cpS zn - 1) * 8) + (cpW zn)) 6) ?_
  refine ev_iret (pc := 24) dX0_shapeOf_24 rfl ?_ ?_
  · rfl
  · exact ⟨rfl, rfl⟩
theorem cn_X0_numbers (E : ME) (h : AH) (zb : Nat) (hw : WF h) (hp : h.2.1 30 1 = nI zb) (hp4 : zb ≤ 4) : Con E mX0_numbers 0 0 0 [.ref 30] h (fun r h' => r = some (.int (nI (zb * 208))) ∧ h' = h) := by
  refine con_of2 (L := [some (.ref 30)]) rfl (Nat.le_of_ble_eq_true rfl) rfl ?_
  refine ev_aload_n (pc := 0) dX0_numbers_0 rfl ?_
  refine ev_getI (pc := 1) dX0_numbers_1 fX0_25 rfl (wlt hw (by decide)) ?_
  refine ev_eqI (e' := nI zb) hp ?_
  refine ev_sipush (pc := 4) (v := 208) dX0_numbers_4 (by decide) ?_
  refine ev_imul (pc := 7) dX0_numbers_7 ?_
  refine ev_eqI (e' := nI (zb * 208)) (pk_mul zb 208) ?_
  refine ev_iret (pc := 8) dX0_numbers_8 rfl ?_ ?_
  · rfl
  · exact ⟨rfl, rfl⟩
theorem cpy_n {zb zp zw zs zc : Nat} (hb : zb ≤ 4) (hp : zp < 4) (hs : zs < 3) (hc : zc < 64) : (nI zc / 8 + 4 * nI zs ≤ 8 ∧ nI zc - nI zc / 8 * 8 + 4 * nI zs ≤ 8) ↔ (zc / 8 + 4 * zs ≤ 8 ∧ zc % 8 + 4 * zs ≤ 8) := by
  have e1 : nI zc / 8 = nI (zc / 8) := pk_div (a := zc) (d := 8) (by omega) (by decide) (by decide)
  have e2 : nI zc - nI zc / 8 * 8 = nI (zc % 8) := pk_rem (a := zc) (d := 8) (by omega) (by decide) (by decide)
  have e3 : (4 : Int32) * nI zs = nI (4 * zs) := pk_mul 4 zs
  rw [e2, e1, e3, nI_add, nI_add]
  have e4 : ∀ zx : Nat, zx < 2 ^ 31 → (nI zx ≤ 8 ↔ zx ≤ 8) := fun zx hx => nI_leI (b := 8) hx (by decide)
  rw [e4 _ (by omega), e4 _ (by omega)]
theorem cn_X0_copyNumber (E : ME) (h : AH) (zp0 zw0 zs0 zc0 : Int32) (zb : Nat) (hw : WF h) (hp : h.2.1 30 1 = nI zb) (hp4 : zb ≤ 4) : Con E mX0_copyNumber 1 0 0 [.ref 30, .int zp0, .int zw0, .int zs0, .int zc0] h (fun r h' => r = some (.int (if cpy (nI zb) zp0 zw0 zs0 zc0 then nI (cnN zp0.toNatClampNeg zw0.toNatClampNeg zs0.toNatClampNeg zc0.toNatClampNeg) else -1)) ∧ h' = h) := by
  refine con_of2 (L := [some (.ref 30), some (.int zp0), some (.int zw0), some (.int zs0), some (.int zc0), none, none, none]) rfl (Nat.le_of_ble_eq_true rfl) rfl ?_
  refine ev_iload_n (pc := 0) dX0_copyNumber_0 rfl ?_
  refine ev_iconst (pc := 1) (v := 0) dX0_copyNumber_1 (by decide) ?_
  refine ev_aload_n (pc := 2) dX0_copyNumber_2 rfl ?_
  refine ev_getI (pc := 3) dX0_copyNumber_3 fX0_25 rfl (wlt hw (by decide)) ?_
  refine ev_eqI (e' := nI zb) hp ?_
  refine ev_iconst (pc := 6) (v := 1) dX0_copyNumber_6 (by decide) ?_
  refine ev_isub (pc := 7) dX0_copyNumber_7 ?_
  refine ev_callSv (S := []) (pc := 8) dX0_copyNumber_8 kX10_within lX0_29 sX10_within (cn_X10_within E h zp0 0 ((nI zb) - 1)) rfl rfl (Nat.le_of_ble_eq_true rfl) ⟨Nat.le_of_ble_eq_true rfl, Nat.le_of_ble_eq_true rfl⟩ ⟨Nat.le_of_ble_eq_true rfl, Nat.le_of_ble_eq_true rfl⟩ ?_
  refine ev_if_eq (pc := 11) (tgt := 41) dX0_copyNumber_11 (by decide) (fun zc11 => ?_) (fun zc11 => ?_)
  · -- eq at 11: taken
    refine ev_iconst (pc := 41) (v := (-1)) dX0_copyNumber_41 (by decide) ?_
    refine ev_iret (pc := 42) dX0_copyNumber_42 rfl ?_ ?_
    · rfl
    · refine ⟨?_, rfl⟩
      rw [if_neg (show ¬ cpy (nI zb) zp0 zw0 zs0 zc0 from fun z => bI_0.mp zc11 z.1)]
  · -- eq at 11: not taken
    refine ev_iload_n (pc := 14) dX0_copyNumber_14 rfl ?_
    refine ev_iconst (pc := 15) (v := 0) dX0_copyNumber_15 (by decide) ?_
    refine ev_bipush (pc := 16) (v := 7) dX0_copyNumber_16 (by decide) ?_
    refine ev_callSv (S := []) (pc := 18) dX0_copyNumber_18 kX10_within lX0_29 sX10_within (cn_X10_within E h zw0 0 7) rfl rfl (Nat.le_of_ble_eq_true rfl) ⟨Nat.le_of_ble_eq_true rfl, Nat.le_of_ble_eq_true rfl⟩ ⟨Nat.le_of_ble_eq_true rfl, Nat.le_of_ble_eq_true rfl⟩ ?_
    refine ev_if_eq (pc := 21) (tgt := 41) dX0_copyNumber_21 (by decide) (fun zc21 => ?_) (fun zc21 => ?_)
    · -- eq at 21: taken
      refine ev_iconst (pc := 41) (v := (-1)) dX0_copyNumber_41 (by decide) ?_
      refine ev_iret (pc := 42) dX0_copyNumber_42 rfl ?_ ?_
      · rfl
      · refine ⟨?_, rfl⟩
        rw [if_neg (show ¬ cpy (nI zb) zp0 zw0 zs0 zc0 from fun z => bI_0.mp zc21 z.2.1)]
    · -- eq at 21: not taken
      refine ev_iload_n (pc := 24) dX0_copyNumber_24 rfl ?_
      refine ev_iconst (pc := 25) (v := 1) dX0_copyNumber_25 (by decide) ?_
      refine ev_iconst (pc := 26) (v := 2) dX0_copyNumber_26 (by decide) ?_
      refine ev_callSv (S := []) (pc := 27) dX0_copyNumber_27 kX10_within lX0_29 sX10_within (cn_X10_within E h zs0 1 2) rfl rfl (Nat.le_of_ble_eq_true rfl) ⟨Nat.le_of_ble_eq_true rfl, Nat.le_of_ble_eq_true rfl⟩ ⟨Nat.le_of_ble_eq_true rfl, Nat.le_of_ble_eq_true rfl⟩ ?_
      refine ev_if_eq (pc := 30) (tgt := 41) dX0_copyNumber_30 (by decide) (fun zc30 => ?_) (fun zc30 => ?_)
      · -- eq at 30: taken
        refine ev_iconst (pc := 41) (v := (-1)) dX0_copyNumber_41 (by decide) ?_
        refine ev_iret (pc := 42) dX0_copyNumber_42 rfl ?_ ?_
        · rfl
        · refine ⟨?_, rfl⟩
          rw [if_neg (show ¬ cpy (nI zb) zp0 zw0 zs0 zc0 from fun z => bI_0.mp zc30 z.2.2.1)]
      · -- eq at 30: not taken
        refine ev_iload (pc := 33) dX0_copyNumber_33 rfl ?_
        refine ev_callSv (S := []) (pc := 35) dX0_copyNumber_35 kX10_isCell lX0_33 sX10_isCell (cn_X10_isCell E h zc0) rfl rfl (Nat.le_of_ble_eq_true rfl) ⟨Nat.le_of_ble_eq_true rfl, Nat.le_of_ble_eq_true rfl⟩ ⟨Nat.le_of_ble_eq_true rfl, Nat.le_of_ble_eq_true rfl⟩ ?_
        refine ev_if_ne (pc := 38) (tgt := 43) dX0_copyNumber_38 (by decide) (fun zc38 => ?_) (fun zc38 => ?_)
        · -- ne at 38: taken
          have z1 := bI_n0.mp zc11
          obtain ⟨zp, hzp, rfl⟩ := th_nat z1 (by omega : zb ≤ 4096)
          obtain ⟨zw, hzw, rfl⟩ := vp_in_of (vp_sm (N := 8) (bI_n0.mp zc21).1 (bI_n0.mp zc21).2 (by decide) (by decide)) (by decide)
          obtain ⟨zs, hzs, rfl⟩ := vp_in_of (vp_sm (N := 3) (bI_n0.mp zc30).1 (bI_n0.mp zc30).2 (by decide) (by decide)) (by decide)
          obtain ⟨zc, hzc, rfl⟩ := cell_in (bI_n0.mp zc38)
          have hs1 : 1 ≤ zs := (nI_leI (a := 1) (b := zs) (by decide) (by omega)).mp (bI_n0.mp zc30).1
          have hcn := cpy_n (zb := zb) (zw := zw) hp4 (show zp < 4 by omega) hzs hzc
          refine ev_iload (pc := 43) dX0_copyNumber_43 rfl ?_
          refine ev_bipush (pc := 45) (v := 8) dX0_copyNumber_45 (by decide) ?_
          refine ev_idiv (pc := 47) dX0_copyNumber_47 (by decide) ?_
          refine ev_eqI (e' := nI (zc / 8)) (pk_div (a := zc) (d := 8) (by omega) (by omega) (by omega)) ?_
          refine ev_istore (pc := 48) (L' := [some (.ref 30), some (.int (nI zp)), some (.int (nI zw)), some (.int (nI zs)), some (.int (nI zc)), some (.int (nI (zc / 8))), none, none]) dX0_copyNumber_48 (Nat.le_of_ble_eq_true rfl) rfl ?_
          refine ev_iload (pc := 50) dX0_copyNumber_50 rfl ?_
          refine ev_bipush (pc := 52) (v := 8) dX0_copyNumber_52 (by decide) ?_
          refine ev_irem (pc := 54) dX0_copyNumber_54 (by decide) ?_
          refine ev_eqI (e' := nI (zc % 8)) (pk_rem (a := zc) (d := 8) (by omega) (by omega) (by omega)) ?_
          refine ev_istore (pc := 55) (L' := [some (.ref 30), some (.int (nI zp)), some (.int (nI zw)), some (.int (nI zs)), some (.int (nI zc)), some (.int (nI (zc / 8))), some (.int (nI (zc % 8))), none]) dX0_copyNumber_55 (Nat.le_of_ble_eq_true rfl) rfl ?_
          refine ev_bipush (pc := 57) (v := 8) dX0_copyNumber_57 (by decide) ?_
          refine ev_iconst (pc := 59) (v := 4) dX0_copyNumber_59 (by decide) ?_
          refine ev_iload_n (pc := 60) dX0_copyNumber_60 rfl ?_
          refine ev_imul (pc := 61) dX0_copyNumber_61 ?_
          refine ev_eqI (e' := nI (4 * zs)) (pk_mul 4 zs) ?_
          refine ev_isub (pc := 62) dX0_copyNumber_62 ?_
          refine ev_eqI (e' := nI (8 - 4 * zs)) (pk_sub (a := 8) (b := 4 * zs) (by omega)) ?_
          refine ev_istore (pc := 63) (L' := [some (.ref 30), some (.int (nI zp)), some (.int (nI zw)), some (.int (nI zs)), some (.int (nI zc)), some (.int (nI (zc / 8))), some (.int (nI (zc % 8))), some (.int (nI (8 - 4 * zs)))]) dX0_copyNumber_63 (Nat.le_of_ble_eq_true rfl) rfl ?_
          refine ev_iload (pc := 65) dX0_copyNumber_65 rfl ?_
          refine ev_iload (pc := 67) dX0_copyNumber_67 rfl ?_
          refine ev_icmp_gt (pc := 69) (tgt := 79) dX0_copyNumber_69 (by decide) (fun zc69 => ?_) (fun zc69 => ?_)
          · -- gt at 69: taken
            refine ev_iconst (pc := 79) (v := (-1)) dX0_copyNumber_79 (by decide) ?_
            refine ev_iret (pc := 80) dX0_copyNumber_80 rfl ?_ ?_
            · rfl
            · refine ⟨?_, rfl⟩
              rw [if_neg (show ¬ cpy (nI zb) (nI zp) (nI zw) (nI zs) (nI zc) from fun z => by
                have z3 := hcn.mp z.2.2.2.2
                have z9 := (nI_ltI (a := 8 - 4 * zs) (b := zc / 8) (by omega) (by omega)).mp zc69
                omega)]
          · -- gt at 69: not taken
            refine ev_iload (pc := 72) dX0_copyNumber_72 rfl ?_
            refine ev_iload (pc := 74) dX0_copyNumber_74 rfl ?_
            refine ev_icmp_le (pc := 76) (tgt := 81) dX0_copyNumber_76 (by decide) (fun zc76 => ?_) (fun zc76 => ?_)
            · -- le at 76: taken
              refine ev_iload_n (pc := 81) dX0_copyNumber_81 rfl ?_
              refine ev_sipush (pc := 82) (v := 208) dX0_copyNumber_82 (by decide) ?_
              refine ev_imul (pc := 85) dX0_copyNumber_85 ?_
              refine ev_eqI (e' := nI (zp * 208)) (pk_mul zp 208) ?_
              refine ev_iload_n (pc := 86) dX0_copyNumber_86 rfl ?_
              refine ev_iconst (pc := 87) (v := 2) dX0_copyNumber_87 (by decide) ?_
              refine ev_icmp_ne (pc := 88) (tgt := 99) dX0_copyNumber_88 (by decide) (fun zc88 => ?_) (fun zc88 => ?_)
              · -- ne at 88: taken
                refine ev_iload_n (pc := 99) dX0_copyNumber_99 rfl ?_
                refine ev_bipush (pc := 100) (v := 25) dX0_copyNumber_100 (by decide) ?_
                refine ev_imul (pc := 102) dX0_copyNumber_102 ?_
                refine ev_eqI (e' := nI (zw * 25)) (pk_mul zw 25) ?_
                refine ev_iload (pc := 103) dX0_copyNumber_103 rfl ?_
                refine ev_iconst (pc := 105) (v := 5) dX0_copyNumber_105 (by decide) ?_
                refine ev_imul (pc := 106) dX0_copyNumber_106 ?_
                refine ev_eqI (e' := nI ((zc / 8) * 5)) (pk_mul (zc / 8) 5) ?_
                refine ev_iadd (pc := 107) dX0_copyNumber_107 ?_
                refine ev_eqI (e' := nI ((zw * 25) + ((zc / 8) * 5))) (nI_add (zw * 25) ((zc / 8) * 5)) ?_
                refine ev_iload (pc := 108) dX0_copyNumber_108 rfl ?_
                refine ev_iadd (pc := 110) dX0_copyNumber_110 ?_
                refine ev_eqI (e' := nI (((zw * 25) + ((zc / 8) * 5)) + (zc % 8))) (nI_add ((zw * 25) + ((zc / 8) * 5)) (zc % 8)) ?_
                refine ev_iadd (pc := 111) dX0_copyNumber_111 ?_
                refine ev_eqI (e' := nI ((zp * 208) + (((zw * 25) + ((zc / 8) * 5)) + (zc % 8)))) (nI_add (zp * 208) (((zw * 25) + ((zc / 8) * 5)) + (zc % 8))) ?_
                refine ev_iret (pc := 112) dX0_copyNumber_112 rfl ?_ ?_
                · rfl
                · refine ⟨?_, rfl⟩
                  have z8 : ¬ 8 - 4 * zs < zc / 8 := fun z => zc69 ((nI_ltI (a := 8 - 4 * zs) (b := zc / 8) (by omega) (by omega)).mpr z)
                  have z9 := (nI_leI (a := zc % 8) (b := 8 - 4 * zs) (by omega) (by omega)).mp zc76
                  rw [if_pos (show cpy (nI zb) (nI zp) (nI zw) (nI zs) (nI zc) from ⟨z1, bI_n0.mp zc21, bI_n0.mp zc30, (cell_63 _).mp (bI_n0.mp zc38), hcn.mpr (by omega)⟩), nI_clamp (n := zp) (by omega), nI_clamp (n := zw) (by omega), nI_clamp (n := zs) (by omega), nI_clamp (n := zc) (by omega)]
                  unfold cnN
                  rw [if_neg (fun z => zc88 (congrArg nI z))]
              · -- ne at 88: not taken
                refine ev_sipush (pc := 91) (v := 200) dX0_copyNumber_91 (by decide) ?_
                refine ev_iload_n (pc := 94) dX0_copyNumber_94 rfl ?_
                refine ev_iadd (pc := 95) dX0_copyNumber_95 ?_
                refine ev_eqI (e' := nI (200 + zw)) (nI_add 200 zw) ?_
                refine ev_goto (pc := 96) (tgt := 111) dX0_copyNumber_96 (by decide) ?_
                refine ev_iadd (pc := 111) dX0_copyNumber_111 ?_
                refine ev_eqI (e' := nI ((zp * 208) + (200 + zw))) (nI_add (zp * 208) (200 + zw)) ?_
                refine ev_iret (pc := 112) dX0_copyNumber_112 rfl ?_ ?_
                · rfl
                · refine ⟨?_, rfl⟩
                  have z8 : ¬ 8 - 4 * zs < zc / 8 := fun z => zc69 ((nI_ltI (a := 8 - 4 * zs) (b := zc / 8) (by omega) (by omega)).mpr z)
                  have z9 := (nI_leI (a := zc % 8) (b := 8 - 4 * zs) (by omega) (by omega)).mp zc76
                  rw [if_pos (show cpy (nI zb) (nI zp) (nI zw) (nI zs) (nI zc) from ⟨z1, bI_n0.mp zc21, bI_n0.mp zc30, (cell_63 _).mp (bI_n0.mp zc38), hcn.mpr (by omega)⟩), nI_clamp (n := zp) (by omega), nI_clamp (n := zw) (by omega), nI_clamp (n := zs) (by omega), nI_clamp (n := zc) (by omega)]
                  unfold cnN
                  rw [if_pos ((nI_eq (a := zs) (b := 2) (by omega) (by decide)).mp zc88)]
            · -- le at 76: not taken
              refine ev_iconst (pc := 79) (v := (-1)) dX0_copyNumber_79 (by decide) ?_
              refine ev_iret (pc := 80) dX0_copyNumber_80 rfl ?_ ?_
              · rfl
              · refine ⟨?_, rfl⟩
                rw [if_neg (show ¬ cpy (nI zb) (nI zp) (nI zw) (nI zs) (nI zc) from fun z => by
                  have z3 := hcn.mp z.2.2.2.2
                  have z9 : ¬ zc % 8 ≤ 8 - 4 * zs := fun z8 => zc76 ((nI_leI (a := zc % 8) (b := 8 - 4 * zs) (by omega) (by omega)).mpr z8)
                  omega)]
        · -- ne at 38: not taken
          refine ev_iconst (pc := 41) (v := (-1)) dX0_copyNumber_41 (by decide) ?_
          refine ev_iret (pc := 42) dX0_copyNumber_42 rfl ?_ ?_
          · rfl
          · refine ⟨?_, rfl⟩
            rw [if_neg (show ¬ cpy (nI zb) zp0 zw0 zs0 zc0 from fun z => bI_0.mp zc38 ((cell_63 _).mpr z.2.2.2.1))]
