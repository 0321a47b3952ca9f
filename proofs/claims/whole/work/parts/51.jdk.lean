section EVM
variable {E : ME} {M : MM} {R : Room} {QX : List Frame → Array Value → State → State → Prop} {x y pc : Nat} {L : List (Option Value)} {S : List Value} {h : AH}
theorem cat_sum (E : ME) (S : List Value) : ((S.map (cv E)).map fun v => v.category).sum = (S.map Value.category).sum := by
  have : (S.map (cv E)).map (fun v => v.category) = S.map Value.category := by simp [List.map_map, Function.comp_def, cv_cat]
  rw [this]
theorem ev_mmax {idx : Nat} {a b : Int32} (hd : decode M.2.1 pc = .ok (.invokestatic idx, 3)) (hw : Cond.methodLink M.1.cls idx mJ9_max_7cf53.1 ∈ tw) (hW : (S.map Value.category).sum ≤ 8) (hRm : 1 ≤ R.frames ∧ 43 ≤ R.locals) (hf : x ≤ R.cells ∧ y ≤ R.slots) (K : Ev E M R QX x y (pc + 3) L (.int (if a < b then b else a) :: S) h) : Ev E M R QX x y pc L (.int b :: .int a :: S) h := by
  intro p e s m args below meth c G H locs ls hR hS hl
  obtain ⟨hx, hb, hml, hown, hts, -⟩ := id G
  exact va_mmax hx hb (hml.trans hl.1.symm) hown (hts _ hw) (hts _ sJ9_max_7cf53) (hts _ kJ9_max_7cf53.2.1) (hts _ kJ9_max_7cf53.1) hRm.1 (by rw [cat_sum]; omega) hf.1 hf.2 hd (K p e s m args below meth c G H locs ls hR hS hl)
theorem ev_mmin {idx : Nat} {a b : Int32} (hd : decode M.2.1 pc = .ok (.invokestatic idx, 3)) (hw : Cond.methodLink M.1.cls idx mJ9_min_7cf53.1 ∈ tw) (hW : (S.map Value.category).sum ≤ 8) (hRm : 1 ≤ R.frames ∧ 43 ≤ R.locals) (hf : x ≤ R.cells ∧ y ≤ R.slots) (K : Ev E M R QX x y (pc + 3) L (.int (if b < a then b else a) :: S) h) : Ev E M R QX x y pc L (.int b :: .int a :: S) h := by
  intro p e s m args below meth c G H locs ls hR hS hl
  obtain ⟨hx, hb, hml, hown, hts, -⟩ := id G
  exact va_mmin hx hb (hml.trans hl.1.symm) hown (hts _ hw) (hts _ sJ9_min_7cf53) (hts _ kJ9_min_7cf53.2.1) (hts _ kJ9_min_7cf53.1) hRm.1 (by rw [cat_sum]; omega) hf.1 hf.2 hd (K p e s m args below meth c G H locs ls hR hS hl)
theorem ev_mabs {idx : Nat} {a : Int32} (hd : decode M.2.1 pc = .ok (.invokestatic idx, 3)) (hw : Cond.methodLink M.1.cls idx mJ9_abs_0f7a4.1 ∈ tw) (hW : (S.map Value.category).sum ≤ 8) (hRm : 1 ≤ R.frames ∧ 43 ≤ R.locals) (hf : x ≤ R.cells ∧ y ≤ R.slots) (K : Ev E M R QX x y (pc + 3) L (.int (if 0 ≤ a then a else 0 - a) :: S) h) : Ev E M R QX x y pc L (.int a :: S) h := by
  intro p e s m args below meth c G H locs ls hR hS hl
  obtain ⟨hx, hb, hml, hown, hts, -⟩ := id G
  exact va_mabs hx hb (hml.trans hl.1.symm) hown (hts _ hw) (hts _ sJ9_abs_0f7a4) (hts _ kJ9_abs_0f7a4.2.1) (hts _ kJ9_abs_0f7a4.1) hRm.1 (by rw [cat_sum]; omega) hf.1 hf.2 hd (K p e s m args below meth c G H locs ls hR hS hl)
theorem ev_mmaxL {idx : Nat} {a b : Int64} (hd : decode M.2.1 pc = .ok (.invokestatic idx, 3)) (hw : Cond.methodLink M.1.cls idx mJ9_max_f86c9.1 ∈ tw) (hW : (S.map Value.category).sum ≤ 8) (hRm : 1 ≤ R.frames ∧ 43 ≤ R.locals) (hf : x ≤ R.cells ∧ y ≤ R.slots) (K : Ev E M R QX x y (pc + 3) L (.long (if b < a then a else b) :: S) h) : Ev E M R QX x y pc L (.long b :: .long a :: S) h := by
  intro p e s m args below meth c G H locs ls hR hS hl
  obtain ⟨hx, hb, hml, hown, hts, -⟩ := id G
  exact va_mmax_long hx hb (hml.trans hl.1.symm) hown (hts _ hw) (hts _ sJ9_max_f86c9) (hts _ kJ9_max_f86c9.2.1) (hts _ kJ9_max_f86c9.1) hRm.1 (by rw [cat_sum]; omega) hf.1 hf.2 hd (K p e s m args below meth c G H locs ls hR hS hl)
end EVM
def bcL1 (za : Int64) : Int64 := za - ((za.toUInt64 >>> ((Int32.toInt64 1).toUInt64 &&& Int64.toUInt64 63)).toInt64 &&& 6148914691236517205)
def bcL2 (za : Int64) : Int64 := (za &&& 3689348814741910323) + ((za.toUInt64 >>> ((Int32.toInt64 2).toUInt64 &&& Int64.toUInt64 63)).toInt64 &&& 3689348814741910323)
def bcL3 (za : Int64) : Int64 := (za + (za.toUInt64 >>> ((Int32.toInt64 4).toUInt64 &&& Int64.toUInt64 63)).toInt64) &&& 1085102592571150095
def bcLs (zk : Int32) (za : Int64) : Int64 := za + (za.toUInt64 >>> ((Int32.toInt64 zk).toUInt64 &&& Int64.toUInt64 63)).toInt64
def bcL (za : Int64) : Int32 := (bcLs 32 (bcLs 16 (bcLs 8 (bcL3 (bcL2 (bcL1 za)))))).toInt32 &&& 127
def bcI1 (za : Int32) : Int32 := za - ((za.toUInt32 >>> (Int32.toUInt32 1 &&& Int32.toUInt32 31)).toInt32 &&& 1431655765)
def bcI2 (za : Int32) : Int32 := (za &&& 858993459) + ((za.toUInt32 >>> (Int32.toUInt32 2 &&& Int32.toUInt32 31)).toInt32 &&& 858993459)
def bcI3 (za : Int32) : Int32 := (za + (za.toUInt32 >>> (Int32.toUInt32 4 &&& Int32.toUInt32 31)).toInt32) &&& 252645135
def bcIs (zk za : Int32) : Int32 := za + (za.toUInt32 >>> (Int32.toUInt32 zk &&& Int32.toUInt32 31)).toInt32
def bcI (za : Int32) : Int32 := (bcIs 16 (bcIs 8 (bcI3 (bcI2 (bcI1 za))))) &&& 63
theorem cn_J13_bitCount_95d88 (E : ME) (h : AH) (za : Int64)  : Con E mJ13_bitCount_95d88 0 0 0 [.long za] h (fun r h' => r = some (.int (bcL za)) ∧ h' = h) := by
  refine con_of2 (L := [some (.long za), none]) rfl (Nat.le_of_ble_eq_true rfl) rfl ?_
  refine ev_lload_n (pc := 0) dJ13_bitCount_95d88_0 rfl ?_
  refine ev_lload_n (pc := 1) dJ13_bitCount_95d88_1 rfl ?_
  refine ev_iconst (pc := 2) (v := 1) dJ13_bitCount_95d88_2 (by decide) ?_
  refine ev_lushr (pc := 3) dJ13_bitCount_95d88_3 ?_
  refine ev_ldc2 (pc := 4) (v := 6148914691236517205) dJ13_bitCount_95d88_4 kcJ13_314 ?_
  refine ev_land (pc := 7) dJ13_bitCount_95d88_7 ?_
  refine ev_lsub (pc := 8) dJ13_bitCount_95d88_8 ?_
  refine ev_lstore_n (pc := 9) (L' := [some (.long (za - (((Int64.toUInt64 za >>> ((Int32.toInt64 1).toUInt64 &&& Int64.toUInt64 63)).toInt64) &&& 6148914691236517205))), none]) dJ13_bitCount_95d88_9 (Nat.le_of_ble_eq_true rfl) rfl ?_
  refine ev_lload_n (pc := 10) dJ13_bitCount_95d88_10 rfl ?_
  refine ev_ldc2 (pc := 11) (v := 3689348814741910323) dJ13_bitCount_95d88_11 kcJ13_316 ?_
  refine ev_land (pc := 14) dJ13_bitCount_95d88_14 ?_
  refine ev_lload_n (pc := 15) dJ13_bitCount_95d88_15 rfl ?_
  refine ev_iconst (pc := 16) (v := 2) dJ13_bitCount_95d88_16 (by decide) ?_
  refine ev_lushr (pc := 17) dJ13_bitCount_95d88_17 ?_
  refine ev_ldc2 (pc := 18) (v := 3689348814741910323) dJ13_bitCount_95d88_18 kcJ13_316 ?_
  refine ev_land (pc := 21) dJ13_bitCount_95d88_21 ?_
  refine ev_ladd (pc := 22) dJ13_bitCount_95d88_22 ?_
  refine ev_lstore_n (pc := 23) (L' := [some (.long (((za - (((Int64.toUInt64 za >>> ((Int32.toInt64 1).toUInt64 &&& Int64.toUInt64 63)).toInt64) &&& 6148914691236517205)) &&& 3689348814741910323) + (((Int64.toUInt64 (za - (((Int64.toUInt64 za >>> ((Int32.toInt64 1).toUInt64 &&& Int64.toUInt64 63)).toInt64) &&& 6148914691236517205)) >>> ((Int32.toInt64 2).toUInt64 &&& Int64.toUInt64 63)).toInt64) &&& 3689348814741910323))), none]) dJ13_bitCount_95d88_23 (Nat.le_of_ble_eq_true rfl) rfl ?_
  refine ev_lload_n (pc := 24) dJ13_bitCount_95d88_24 rfl ?_
  refine ev_lload_n (pc := 25) dJ13_bitCount_95d88_25 rfl ?_
  refine ev_iconst (pc := 26) (v := 4) dJ13_bitCount_95d88_26 (by decide) ?_
  refine ev_lushr (pc := 27) dJ13_bitCount_95d88_27 ?_
  refine ev_ladd (pc := 28) dJ13_bitCount_95d88_28 ?_
  refine ev_ldc2 (pc := 29) (v := 1085102592571150095) dJ13_bitCount_95d88_29 kcJ13_318 ?_
  refine ev_land (pc := 32) dJ13_bitCount_95d88_32 ?_
  refine ev_lstore_n (pc := 33) (L' := [some (.long (((((za - (((Int64.toUInt64 za >>> ((Int32.toInt64 1).toUInt64 &&& Int64.toUInt64 63)).toInt64) &&& 6148914691236517205)) &&& 3689348814741910323) + (((Int64.toUInt64 (za - (((Int64.toUInt64 za >>> ((Int32.toInt64 1).toUInt64 &&& Int64.toUInt64 63)).toInt64) &&& 6148914691236517205)) >>> ((Int32.toInt64 2).toUInt64 &&& Int64.toUInt64 63)).toInt64) &&& 3689348814741910323)) + ((Int64.toUInt64 (((za - (((Int64.toUInt64 za >>> ((Int32.toInt64 1).toUInt64 &&& Int64.toUInt64 63)).toInt64) &&& 6148914691236517205)) &&& 3689348814741910323) + (((Int64.toUInt64 (za - (((Int64.toUInt64 za >>> ((Int32.toInt64 1).toUInt64 &&& Int64.toUInt64 63)).toInt64) &&& 6148914691236517205)) >>> ((Int32.toInt64 2).toUInt64 &&& Int64.toUInt64 63)).toInt64) &&& 3689348814741910323)) >>> ((Int32.toInt64 4).toUInt64 &&& Int64.toUInt64 63)).toInt64)) &&& 1085102592571150095)), none]) dJ13_bitCount_95d88_33 (Nat.le_of_ble_eq_true rfl) rfl ?_
  refine ev_lload_n (pc := 34) dJ13_bitCount_95d88_34 rfl ?_
  refine ev_lload_n (pc := 35) dJ13_bitCount_95d88_35 rfl ?_
  refine ev_bipush (pc := 36) (v := 8) dJ13_bitCount_95d88_36 (by decide) ?_
  refine ev_lushr (pc := 38) dJ13_bitCount_95d88_38 ?_
  refine ev_ladd (pc := 39) dJ13_bitCount_95d88_39 ?_
  refine ev_lstore_n (pc := 40) (L' := [some (.long ((((((za - (((Int64.toUInt64 za >>> ((Int32.toInt64 1).toUInt64 &&& Int64.toUInt64 63)).toInt64) &&& 6148914691236517205)) &&& 3689348814741910323) + (((Int64.toUInt64 (za - (((Int64.toUInt64 za >>> ((Int32.toInt64 1).toUInt64 &&& Int64.toUInt64 63)).toInt64) &&& 6148914691236517205)) >>> ((Int32.toInt64 2).toUInt64 &&& Int64.toUInt64 63)).toInt64) &&& 3689348814741910323)) + ((Int64.toUInt64 (((za - (((Int64.toUInt64 za >>> ((Int32.toInt64 1).toUInt64 &&& Int64.toUInt64 63)).toInt64) &&& 6148914691236517205)) &&& 3689348814741910323) + (((Int64.toUInt64 (za - (((Int64.toUInt64 za >>> ((Int32.toInt64 1).toUInt64 &&& Int64.toUInt64 63)).toInt64) &&& 6148914691236517205)) >>> ((Int32.toInt64 2).toUInt64 &&& Int64.toUInt64 63)).toInt64) &&& 3689348814741910323)) >>> ((Int32.toInt64 4).toUInt64 &&& Int64.toUInt64 63)).toInt64)) &&& 1085102592571150095) + ((Int64.toUInt64 (((((za - (((Int64.toUInt64 za >>> ((Int32.toInt64 1).toUInt64 &&& Int64.toUInt64 63)).toInt64) &&& 6148914691236517205)) &&& 3689348814741910323) + (((Int64.toUInt64 (za - (((Int64.toUInt64 za >>> ((Int32.toInt64 1).toUInt64 &&& Int64.toUInt64 63)).toInt64) &&& 6148914691236517205)) >>> ((Int32.toInt64 2).toUInt64 &&& Int64.toUInt64 63)).toInt64) &&& 3689348814741910323)) + ((Int64.toUInt64 (((za - (((Int64.toUInt64 za >>> ((Int32.toInt64 1).toUInt64 &&& Int64.toUInt64 63)).toInt64) &&& 6148914691236517205)) &&& 3689348814741910323) + (((Int64.toUInt64 (za - (((Int64.toUInt64 za >>> ((Int32.toInt64 1).toUInt64 &&& Int64.toUInt64 63)).toInt64) &&& 6148914691236517205)) >>> ((Int32.toInt64 2).toUInt64 &&& Int64.toUInt64 63)).toInt64) &&& 3689348814741910323)) >>> ((Int32.toInt64 4).toUInt64 &&& Int64.toUInt64 63)).toInt64)) &&& 1085102592571150095) >>> ((Int32.toInt64 8).toUInt64 &&& Int64.toUInt64 63)).toInt64))), none]) dJ13_bitCount_95d88_40 (Nat.le_of_ble_eq_true rfl) rfl ?_
  refine ev_lload_n (pc := 41) dJ13_bitCount_95d88_41 rfl ?_
  refine ev_lload_n (pc := 42) dJ13_bitCount_95d88_42 rfl ?_
  refine ev_bipush (pc := 43) (v := 16) dJ13_bitCount_95d88_43 (by decide) ?_
  refine ev_lushr (pc := 45) dJ13_bitCount_95d88_45 ?_
  refine ev_ladd (pc := 46) dJ13_bitCount_95d88_46 ?_
  refine ev_lstore_n (pc := 47) (L' := [some (.long (((((((za - (((Int64.toUInt64 za >>> ((Int32.toInt64 1).toUInt64 &&& Int64.toUInt64 63)).toInt64) &&& 6148914691236517205)) &&& 3689348814741910323) + (((Int64.toUInt64 (za - (((Int64.toUInt64 za >>> ((Int32.toInt64 1).toUInt64 &&& Int64.toUInt64 63)).toInt64) &&& 6148914691236517205)) >>> ((Int32.toInt64 2).toUInt64 &&& Int64.toUInt64 63)).toInt64) &&& 3689348814741910323)) + ((Int64.toUInt64 (((za - (((Int64.toUInt64 za >>> ((Int32.toInt64 1).toUInt64 &&& Int64.toUInt64 63)).toInt64) &&& 6148914691236517205)) &&& 3689348814741910323) + (((Int64.toUInt64 (za - (((Int64.toUInt64 za >>> ((Int32.toInt64 1).toUInt64 &&& Int64.toUInt64 63)).toInt64) &&& 6148914691236517205)) >>> ((Int32.toInt64 2).toUInt64 &&& Int64.toUInt64 63)).toInt64) &&& 3689348814741910323)) >>> ((Int32.toInt64 4).toUInt64 &&& Int64.toUInt64 63)).toInt64)) &&& 1085102592571150095) + ((Int64.toUInt64 (((((za - (((Int64.toUInt64 za >>> ((Int32.toInt64 1).toUInt64 &&& Int64.toUInt64 63)).toInt64) &&& 6148914691236517205)) &&& 3689348814741910323) + (((Int64.toUInt64 (za - (((Int64.toUInt64 za >>> ((Int32.toInt64 1).toUInt64 &&& Int64.toUInt64 63)).toInt64) &&& 6148914691236517205)) >>> ((Int32.toInt64 2).toUInt64 &&& Int64.toUInt64 63)).toInt64) &&& 3689348814741910323)) + ((Int64.toUInt64 (((za - (((Int64.toUInt64 za >>> ((Int32.toInt64 1).toUInt64 &&& Int64.toUInt64 63)).toInt64) &&& 6148914691236517205)) &&& 3689348814741910323) + (((Int64.toUInt64 (za - (((Int64.toUInt64 za >>> ((Int32.toInt64 1).toUInt64 &&& Int64.toUInt64 63)).toInt64) &&& 6148914691236517205)) >>> ((Int32.toInt64 2).toUInt64 &&& Int64.toUInt64 63)).toInt64) &&& 3689348814741910323)) >>> ((Int32.toInt64 4).toUInt64 &&& Int64.toUInt64 63)).toInt64)) &&& 1085102592571150095) >>> ((Int32.toInt64 8).toUInt64 &&& Int64.toUInt64 63)).toInt64)) + ((Int64.toUInt64 ((((((za - (((Int64.toUInt64 za >>> ((Int32.toInt64 1).toUInt64 &&& Int64.toUInt64 63)).toInt64) &&& 6148914691236517205)) &&& 3689348814741910323) + (((Int64.toUInt64 (za - (((Int64.toUInt64 za >>> ((Int32.toInt64 1).toUInt64 &&& Int64.toUInt64 63)).toInt64) &&& 6148914691236517205)) >>> ((Int32.toInt64 2).toUInt64 &&& Int64.toUInt64 63)).toInt64) &&& 3689348814741910323)) + ((Int64.toUInt64 (((za - (((Int64.toUInt64 za >>> ((Int32.toInt64 1).toUInt64 &&& Int64.toUInt64 63)).toInt64) &&& 6148914691236517205)) &&& 3689348814741910323) + (((Int64.toUInt64 (za - (((Int64.toUInt64 za >>> ((Int32.toInt64 1).toUInt64 &&& Int64.toUInt64 63)).toInt64) &&& 6148914691236517205)) >>> ((Int32.toInt64 2).toUInt64 &&& Int64.toUInt64 63)).toInt64) &&& 3689348814741910323)) >>> ((Int32.toInt64 4).toUInt64 &&& Int64.toUInt64 63)).toInt64)) &&& 1085102592571150095) + ((Int64.toUInt64 (((((za - (((Int64.toUInt64 za >>> ((Int32.toInt64 1).toUInt64 &&& Int64.toUInt64 63)).toInt64) &&& 6148914691236517205)) &&& 3689348814741910323) + (((Int64.toUInt64 (za - (((Int64.toUInt64 za >>> ((Int32.toInt64 1).toUInt64 &&& Int64.toUInt64 63)).toInt64) &&& 6148914691236517205)) >>> ((Int32.toInt64 2).toUInt64 &&& Int64.toUInt64 63)).toInt64) &&& 3689348814741910323)) + ((Int64.toUInt64 (((za - (((Int64.toUInt64 za >>> ((Int32.toInt64 1).toUInt64 &&& Int64.toUInt64 63)).toInt64) &&& 6148914691236517205)) &&& 3689348814741910323) + (((Int64.toUInt64 (za - (((Int64.toUInt64 za >>> ((Int32.toInt64 1).toUInt64 &&& Int64.toUInt64 63)).toInt64) &&& 6148914691236517205)) >>> ((Int32.toInt64 2).toUInt64 &&& Int64.toUInt64 63)).toInt64) &&& 3689348814741910323)) >>> ((Int32.toInt64 4).toUInt64 &&& Int64.toUInt64 63)).toInt64)) &&& 1085102592571150095) >>> ((Int32.toInt64 8).toUInt64 &&& Int64.toUInt64 63)).toInt64)) >>> ((Int32.toInt64 16).toUInt64 &&& Int64.toUInt64 63)).toInt64))), none]) dJ13_bitCount_95d88_47 (Nat.le_of_ble_eq_true rfl) rfl ?_
  refine ev_lload_n (pc := 48) dJ13_bitCount_95d88_48 rfl ?_
  refine ev_lload_n (pc := 49) dJ13_bitCount_95d88_49 rfl ?_
  refine ev_bipush (pc := 50) (v := 32) dJ13_bitCount_95d88_50 (by decide) ?_
  refine ev_lushr (pc := 52) dJ13_bitCount_95d88_52 ?_
  refine ev_ladd (pc := 53) dJ13_bitCount_95d88_53 ?_
  refine ev_lstore_n (pc := 54) (L' := [some (.long ((((((((za - (((Int64.toUInt64 za >>> ((Int32.toInt64 1).toUInt64 &&& Int64.toUInt64 63)).toInt64) &&& 6148914691236517205)) &&& 3689348814741910323) + (((Int64.toUInt64 (za - (((Int64.toUInt64 za >>> ((Int32.toInt64 1).toUInt64 &&& Int64.toUInt64 63)).toInt64) &&& 6148914691236517205)) >>> ((Int32.toInt64 2).toUInt64 &&& Int64.toUInt64 63)).toInt64) &&& 3689348814741910323)) + ((Int64.toUInt64 (((za - (((Int64.toUInt64 za >>> ((Int32.toInt64 1).toUInt64 &&& Int64.toUInt64 63)).toInt64) &&& 6148914691236517205)) &&& 3689348814741910323) + (((Int64.toUInt64 (za - (((Int64.toUInt64 za >>> ((Int32.toInt64 1).toUInt64 &&& Int64.toUInt64 63)).toInt64) &&& 6148914691236517205)) >>> ((Int32.toInt64 2).toUInt64 &&& Int64.toUInt64 63)).toInt64) &&& 3689348814741910323)) >>> ((Int32.toInt64 4).toUInt64 &&& Int64.toUInt64 63)).toInt64)) &&& 1085102592571150095) + ((Int64.toUInt64 (((((za - (((Int64.toUInt64 za >>> ((Int32.toInt64 1).toUInt64 &&& Int64.toUInt64 63)).toInt64) &&& 6148914691236517205)) &&& 3689348814741910323) + (((Int64.toUInt64 (za - (((Int64.toUInt64 za >>> ((Int32.toInt64 1).toUInt64 &&& Int64.toUInt64 63)).toInt64) &&& 6148914691236517205)) >>> ((Int32.toInt64 2).toUInt64 &&& Int64.toUInt64 63)).toInt64) &&& 3689348814741910323)) + ((Int64.toUInt64 (((za - (((Int64.toUInt64 za >>> ((Int32.toInt64 1).toUInt64 &&& Int64.toUInt64 63)).toInt64) &&& 6148914691236517205)) &&& 3689348814741910323) + (((Int64.toUInt64 (za - (((Int64.toUInt64 za >>> ((Int32.toInt64 1).toUInt64 &&& Int64.toUInt64 63)).toInt64) &&& 6148914691236517205)) >>> ((Int32.toInt64 2).toUInt64 &&& Int64.toUInt64 63)).toInt64) &&& 3689348814741910323)) >>> ((Int32.toInt64 4).toUInt64 &&& Int64.toUInt64 63)).toInt64)) &&& 1085102592571150095) >>> ((Int32.toInt64 8).toUInt64 &&& Int64.toUInt64 63)).toInt64)) + ((Int64.toUInt64 ((((((za - (((Int64.toUInt64 za >>> ((Int32.toInt64 1).toUInt64 &&& Int64.toUInt64 63)).toInt64) &&& 6148914691236517205)) &&& 3689348814741910323) + (((Int64.toUInt64 (za - (((Int64.toUInt64 za >>> ((Int32.toInt64 1).toUInt64 &&& Int64.toUInt64 63)).toInt64) &&& 6148914691236517205)) >>> ((Int32.toInt64 2).toUInt64 &&& Int64.toUInt64 63)).toInt64) &&& 3689348814741910323)) + ((Int64.toUInt64 (((za - (((Int64.toUInt64 za >>> ((Int32.toInt64 1).toUInt64 &&& Int64.toUInt64 63)).toInt64) &&& 6148914691236517205)) &&& 3689348814741910323) + (((Int64.toUInt64 (za - (((Int64.toUInt64 za >>> ((Int32.toInt64 1).toUInt64 &&& Int64.toUInt64 63)).toInt64) &&& 6148914691236517205)) >>> ((Int32.toInt64 2).toUInt64 &&& Int64.toUInt64 63)).toInt64) &&& 3689348814741910323)) >>> ((Int32.toInt64 4).toUInt64 &&& Int64.toUInt64 63)).toInt64)) &&& 1085102592571150095) + ((Int64.toUInt64 (((((za - (((Int64.toUInt64 za >>> ((Int32.toInt64 1).toUInt64 &&& Int64.toUInt64 63)).toInt64) &&& 6148914691236517205)) &&& 3689348814741910323) + (((Int64.toUInt64 (za - (((Int64.toUInt64 za >>> ((Int32.toInt64 1).toUInt64 &&& Int64.toUInt64 63)).toInt64) &&& 6148914691236517205)) >>> ((Int32.toInt64 2).toUInt64 &&& Int64.toUInt64 63)).toInt64) &&& 3689348814741910323)) + ((Int64.toUInt64 (((za - (((Int64.toUInt64 za >>> ((Int32.toInt64 1).toUInt64 &&& Int64.toUInt64 63)).toInt64) &&& 6148914691236517205)) &&& 3689348814741910323) + (((Int64.toUInt64 (za - (((Int64.toUInt64 za >>> ((Int32.toInt64 1).toUInt64 &&& Int64.toUInt64 63)).toInt64) &&& 6148914691236517205)) >>> ((Int32.toInt64 2).toUInt64 &&& Int64.toUInt64 63)).toInt64) &&& 3689348814741910323)) >>> ((Int32.toInt64 4).toUInt64 &&& Int64.toUInt64 63)).toInt64)) &&& 1085102592571150095) >>> ((Int32.toInt64 8).toUInt64 &&& Int64.toUInt64 63)).toInt64)) >>> ((Int32.toInt64 16).toUInt64 &&& Int64.toUInt64 63)).toInt64)) + ((Int64.toUInt64 (((((((za - (((Int64.toUInt64 za >>> ((Int32.toInt64 1).toUInt64 &&& Int64.toUInt64 63)).toInt64) &&& 6148914691236517205)) &&& 3689348814741910323) + (((Int64.toUInt64 (za - (((Int64.toUInt64 za >>> ((Int32.toInt64 1).toUInt64 &&& Int64.toUInt64 63)).toInt64) &&& 6148914691236517205)) >>> ((Int32.toInt64 2).toUInt64 &&& Int64.toUInt64 63)).toInt64) &&& 3689348814741910323)) + ((Int64.toUInt64 (((za - (((Int64.toUInt64 za >>> ((Int32.toInt64 1).toUInt64 &&& Int64.toUInt64 63)).toInt64) &&& 6148914691236517205)) &&& 3689348814741910323) + (((Int64.toUInt64 (za - (((Int64.toUInt64 za >>> ((Int32.toInt64 1).toUInt64 &&& Int64.toUInt64 63)).toInt64) &&& 6148914691236517205)) >>> ((Int32.toInt64 2).toUInt64 &&& Int64.toUInt64 63)).toInt64) &&& 3689348814741910323)) >>> ((Int32.toInt64 4).toUInt64 &&& Int64.toUInt64 63)).toInt64)) &&& 1085102592571150095) + ((Int64.toUInt64 (((((za - (((Int64.toUInt64 za >>> ((Int32.toInt64 1).toUInt64 &&& Int64.toUInt64 63)).toInt64) &&& 6148914691236517205)) &&& 3689348814741910323) + (((Int64.toUInt64 (za - (((Int64.toUInt64 za >>> ((Int32.toInt64 1).toUInt64 &&& Int64.toUInt64 63)).toInt64) &&& 6148914691236517205)) >>> ((Int32.toInt64 2).toUInt64 &&& Int64.toUInt64 63)).toInt64) &&& 3689348814741910323)) + ((Int64.toUInt64 (((za - (((Int64.toUInt64 za >>> ((Int32.toInt64 1).toUInt64 &&& Int64.toUInt64 63)).toInt64) &&& 6148914691236517205)) &&& 3689348814741910323) + (((Int64.toUInt64 (za - (((Int64.toUInt64 za >>> ((Int32.toInt64 1).toUInt64 &&& Int64.toUInt64 63)).toInt64) &&& 6148914691236517205)) >>> ((Int32.toInt64 2).toUInt64 &&& Int64.toUInt64 63)).toInt64) &&& 3689348814741910323)) >>> ((Int32.toInt64 4).toUInt64 &&& Int64.toUInt64 63)).toInt64)) &&& 1085102592571150095) >>> ((Int32.toInt64 8).toUInt64 &&& Int64.toUInt64 63)).toInt64)) + ((Int64.toUInt64 ((((((za - (((Int64.toUInt64 za >>> ((Int32.toInt64 1).toUInt64 &&& Int64.toUInt64 63)).toInt64) &&& 6148914691236517205)) &&& 3689348814741910323) + (((Int64.toUInt64 (za - (((Int64.toUInt64 za >>> ((Int32.toInt64 1).toUInt64 &&& Int64.toUInt64 63)).toInt64) &&& 6148914691236517205)) >>> ((Int32.toInt64 2).toUInt64 &&& Int64.toUInt64 63)).toInt64) &&& 3689348814741910323)) + ((Int64.toUInt64 (((za - (((Int64.toUInt64 za >>> ((Int32.toInt64 1).toUInt64 &&& Int64.toUInt64 63)).toInt64) &&& 6148914691236517205)) &&& 3689348814741910323) + (((Int64.toUInt64 (za - (((Int64.toUInt64 za >>> ((Int32.toInt64 1).toUInt64 &&& Int64.toUInt64 63)).toInt64) &&& 6148914691236517205)) >>> ((Int32.toInt64 2).toUInt64 &&& Int64.toUInt64 63)).toInt64) &&& 3689348814741910323)) >>> ((Int32.toInt64 4).toUInt64 &&& Int64.toUInt64 63)).toInt64)) &&& 1085102592571150095) + ((Int64.toUInt64 (((((za - (((Int64.toUInt64 za >>> ((Int32.toInt64 1).toUInt64 &&& Int64.toUInt64 63)).toInt64) &&& 6148914691236517205)) &&& 3689348814741910323) + (((Int64.toUInt64 (za - (((Int64.toUInt64 za >>> ((Int32.toInt64 1).toUInt64 &&& Int64.toUInt64 63)).toInt64) &&& 6148914691236517205)) >>> ((Int32.toInt64 2).toUInt64 &&& Int64.toUInt64 63)).toInt64) &&& 3689348814741910323)) + ((Int64.toUInt64 (((za - (((Int64.toUInt64 za >>> ((Int32.toInt64 1).toUInt64 &&& Int64.toUInt64 63)).toInt64) &&& 6148914691236517205)) &&& 3689348814741910323) + (((Int64.toUInt64 (za - (((Int64.toUInt64 za >>> ((Int32.toInt64 1).toUInt64 &&& Int64.toUInt64 63)).toInt64) &&& 6148914691236517205)) >>> ((Int32.toInt64 2).toUInt64 &&& Int64.toUInt64 63)).toInt64) &&& 3689348814741910323)) >>> ((Int32.toInt64 4).toUInt64 &&& Int64.toUInt64 63)).toInt64)) &&& 1085102592571150095) >>> ((Int32.toInt64 8).toUInt64 &&& Int64.toUInt64 63)).toInt64)) >>> ((Int32.toInt64 16).toUInt64 &&& Int64.toUInt64 63)).toInt64)) >>> ((Int32.toInt64 32).toUInt64 &&& Int64.toUInt64 63)).toInt64))), none]) dJ13_bitCount_95d88_54 (Nat.le_of_ble_eq_true rfl) rfl ?_
  refine ev_lload_n (pc := 55) dJ13_bitCount_95d88_55 rfl ?_
  refine ev_l2i (pc := 56) dJ13_bitCount_95d88_56 ?_
  refine ev_bipush (pc := 57) (v := 127) dJ13_bitCount_95d88_57 (by decide) ?_
  refine ev_iand (pc := 59) dJ13_bitCount_95d88_59 ?_
  refine ev_iret (pc := 60) dJ13_bitCount_95d88_60 rfl ?_ ?_
  · rfl
  · exact ⟨rfl, rfl⟩
theorem cn_J6_bitCount_0f7a4 (E : ME) (h : AH) (za : Int32)  : Con E mJ6_bitCount_0f7a4 0 0 0 [.int za] h (fun r h' => r = some (.int (bcI za)) ∧ h' = h) := by
  refine con_of2 (L := [some (.int za)]) rfl (Nat.le_of_ble_eq_true rfl) rfl ?_
  refine ev_iload_n (pc := 0) dJ6_bitCount_0f7a4_0 rfl ?_
  refine ev_iload_n (pc := 1) dJ6_bitCount_0f7a4_1 rfl ?_
  refine ev_iconst (pc := 2) (v := 1) dJ6_bitCount_0f7a4_2 (by decide) ?_
  refine ev_iushr (pc := 3) dJ6_bitCount_0f7a4_3 ?_
  refine ev_ldcw (pc := 4) (v := 1431655765) dJ6_bitCount_0f7a4_4 kcJ6_265 ?_
  refine ev_iand (pc := 7) dJ6_bitCount_0f7a4_7 ?_
  refine ev_isub (pc := 8) dJ6_bitCount_0f7a4_8 ?_
  refine ev_istore_n (pc := 9) (L' := [some (.int (za - (((Int32.toUInt32 za >>> (Int32.toUInt32 1 &&& Int32.toUInt32 31)).toInt32) &&& 1431655765)))]) dJ6_bitCount_0f7a4_9 (Nat.le_of_ble_eq_true rfl) rfl ?_
  refine ev_iload_n (pc := 10) dJ6_bitCount_0f7a4_10 rfl ?_
  refine ev_ldcw (pc := 11) (v := 858993459) dJ6_bitCount_0f7a4_11 kcJ6_266 ?_
  refine ev_iand (pc := 14) dJ6_bitCount_0f7a4_14 ?_
  refine ev_iload_n (pc := 15) dJ6_bitCount_0f7a4_15 rfl ?_
  refine ev_iconst (pc := 16) (v := 2) dJ6_bitCount_0f7a4_16 (by decide) ?_
  refine ev_iushr (pc := 17) dJ6_bitCount_0f7a4_17 ?_
  refine ev_ldcw (pc := 18) (v := 858993459) dJ6_bitCount_0f7a4_18 kcJ6_266 ?_
  refine ev_iand (pc := 21) dJ6_bitCount_0f7a4_21 ?_
  refine ev_iadd (pc := 22) dJ6_bitCount_0f7a4_22 ?_
  refine ev_istore_n (pc := 23) (L' := [some (.int (((za - (((Int32.toUInt32 za >>> (Int32.toUInt32 1 &&& Int32.toUInt32 31)).toInt32) &&& 1431655765)) &&& 858993459) + (((Int32.toUInt32 (za - (((Int32.toUInt32 za >>> (Int32.toUInt32 1 &&& Int32.toUInt32 31)).toInt32) &&& 1431655765)) >>> (Int32.toUInt32 2 &&& Int32.toUInt32 31)).toInt32) &&& 858993459)))]) dJ6_bitCount_0f7a4_23 (Nat.le_of_ble_eq_true rfl) rfl ?_
  refine ev_iload_n (pc := 24) dJ6_bitCount_0f7a4_24 rfl ?_
  refine ev_iload_n (pc := 25) dJ6_bitCount_0f7a4_25 rfl ?_
  refine ev_iconst (pc := 26) (v := 4) dJ6_bitCount_0f7a4_26 (by decide) ?_
  refine ev_iushr (pc := 27) dJ6_bitCount_0f7a4_27 ?_
  refine ev_iadd (pc := 28) dJ6_bitCount_0f7a4_28 ?_
  refine ev_ldcw (pc := 29) (v := 252645135) dJ6_bitCount_0f7a4_29 kcJ6_267 ?_
  refine ev_iand (pc := 32) dJ6_bitCount_0f7a4_32 ?_
  refine ev_istore_n (pc := 33) (L' := [some (.int (((((za - (((Int32.toUInt32 za >>> (Int32.toUInt32 1 &&& Int32.toUInt32 31)).toInt32) &&& 1431655765)) &&& 858993459) + (((Int32.toUInt32 (za - (((Int32.toUInt32 za >>> (Int32.toUInt32 1 &&& Int32.toUInt32 31)).toInt32) &&& 1431655765)) >>> (Int32.toUInt32 2 &&& Int32.toUInt32 31)).toInt32) &&& 858993459)) + ((Int32.toUInt32 (((za - (((Int32.toUInt32 za >>> (Int32.toUInt32 1 &&& Int32.toUInt32 31)).toInt32) &&& 1431655765)) &&& 858993459) + (((Int32.toUInt32 (za - (((Int32.toUInt32 za >>> (Int32.toUInt32 1 &&& Int32.toUInt32 31)).toInt32) &&& 1431655765)) >>> (Int32.toUInt32 2 &&& Int32.toUInt32 31)).toInt32) &&& 858993459)) >>> (Int32.toUInt32 4 &&& Int32.toUInt32 31)).toInt32)) &&& 252645135))]) dJ6_bitCount_0f7a4_33 (Nat.le_of_ble_eq_true rfl) rfl ?_
  refine ev_iload_n (pc := 34) dJ6_bitCount_0f7a4_34 rfl ?_
  refine ev_iload_n (pc := 35) dJ6_bitCount_0f7a4_35 rfl ?_
  refine ev_bipush (pc := 36) (v := 8) dJ6_bitCount_0f7a4_36 (by decide) ?_
  refine ev_iushr (pc := 38) dJ6_bitCount_0f7a4_38 ?_
  refine ev_iadd (pc := 39) dJ6_bitCount_0f7a4_39 ?_
  refine ev_istore_n (pc := 40) (L' := [some (.int ((((((za - (((Int32.toUInt32 za >>> (Int32.toUInt32 1 &&& Int32.toUInt32 31)).toInt32) &&& 1431655765)) &&& 858993459) + (((Int32.toUInt32 (za - (((Int32.toUInt32 za >>> (Int32.toUInt32 1 &&& Int32.toUInt32 31)).toInt32) &&& 1431655765)) >>> (Int32.toUInt32 2 &&& Int32.toUInt32 31)).toInt32) &&& 858993459)) + ((Int32.toUInt32 (((za - (((Int32.toUInt32 za >>> (Int32.toUInt32 1 &&& Int32.toUInt32 31)).toInt32) &&& 1431655765)) &&& 858993459) + (((Int32.toUInt32 (za - (((Int32.toUInt32 za >>> (Int32.toUInt32 1 &&& Int32.toUInt32 31)).toInt32) &&& 1431655765)) >>> (Int32.toUInt32 2 &&& Int32.toUInt32 31)).toInt32) &&& 858993459)) >>> (Int32.toUInt32 4 &&& Int32.toUInt32 31)).toInt32)) &&& 252645135) + ((Int32.toUInt32 (((((za - (((Int32.toUInt32 za >>> (Int32.toUInt32 1 &&& Int32.toUInt32 31)).toInt32) &&& 1431655765)) &&& 858993459) + (((Int32.toUInt32 (za - (((Int32.toUInt32 za >>> (Int32.toUInt32 1 &&& Int32.toUInt32 31)).toInt32) &&& 1431655765)) >>> (Int32.toUInt32 2 &&& Int32.toUInt32 31)).toInt32) &&& 858993459)) + ((Int32.toUInt32 (((za - (((Int32.toUInt32 za >>> (Int32.toUInt32 1 &&& Int32.toUInt32 31)).toInt32) &&& 1431655765)) &&& 858993459) + (((Int32.toUInt32 (za - (((Int32.toUInt32 za >>> (Int32.toUInt32 1 &&& Int32.toUInt32 31)).toInt32) &&& 1431655765)) >>> (Int32.toUInt32 2 &&& Int32.toUInt32 31)).toInt32) &&& 858993459)) >>> (Int32.toUInt32 4 &&& Int32.toUInt32 31)).toInt32)) &&& 252645135) >>> (Int32.toUInt32 8 &&& Int32.toUInt32 31)).toInt32)))]) dJ6_bitCount_0f7a4_40 (Nat.le_of_ble_eq_true rfl) rfl ?_
  refine ev_iload_n (pc := 41) dJ6_bitCount_0f7a4_41 rfl ?_
  refine ev_iload_n (pc := 42) dJ6_bitCount_0f7a4_42 rfl ?_
  refine ev_bipush (pc := 43) (v := 16) dJ6_bitCount_0f7a4_43 (by decide) ?_
  refine ev_iushr (pc := 45) dJ6_bitCount_0f7a4_45 ?_
  refine ev_iadd (pc := 46) dJ6_bitCount_0f7a4_46 ?_
  refine ev_istore_n (pc := 47) (L' := [some (.int (((((((za - (((Int32.toUInt32 za >>> (Int32.toUInt32 1 &&& Int32.toUInt32 31)).toInt32) &&& 1431655765)) &&& 858993459) + (((Int32.toUInt32 (za - (((Int32.toUInt32 za >>> (Int32.toUInt32 1 &&& Int32.toUInt32 31)).toInt32) &&& 1431655765)) >>> (Int32.toUInt32 2 &&& Int32.toUInt32 31)).toInt32) &&& 858993459)) + ((Int32.toUInt32 (((za - (((Int32.toUInt32 za >>> (Int32.toUInt32 1 &&& Int32.toUInt32 31)).toInt32) &&& 1431655765)) &&& 858993459) + (((Int32.toUInt32 (za - (((Int32.toUInt32 za >>> (Int32.toUInt32 1 &&& Int32.toUInt32 31)).toInt32) &&& 1431655765)) >>> (Int32.toUInt32 2 &&& Int32.toUInt32 31)).toInt32) &&& 858993459)) >>> (Int32.toUInt32 4 &&& Int32.toUInt32 31)).toInt32)) &&& 252645135) + ((Int32.toUInt32 (((((za - (((Int32.toUInt32 za >>> (Int32.toUInt32 1 &&& Int32.toUInt32 31)).toInt32) &&& 1431655765)) &&& 858993459) + (((Int32.toUInt32 (za - (((Int32.toUInt32 za >>> (Int32.toUInt32 1 &&& Int32.toUInt32 31)).toInt32) &&& 1431655765)) >>> (Int32.toUInt32 2 &&& Int32.toUInt32 31)).toInt32) &&& 858993459)) + ((Int32.toUInt32 (((za - (((Int32.toUInt32 za >>> (Int32.toUInt32 1 &&& Int32.toUInt32 31)).toInt32) &&& 1431655765)) &&& 858993459) + (((Int32.toUInt32 (za - (((Int32.toUInt32 za >>> (Int32.toUInt32 1 &&& Int32.toUInt32 31)).toInt32) &&& 1431655765)) >>> (Int32.toUInt32 2 &&& Int32.toUInt32 31)).toInt32) &&& 858993459)) >>> (Int32.toUInt32 4 &&& Int32.toUInt32 31)).toInt32)) &&& 252645135) >>> (Int32.toUInt32 8 &&& Int32.toUInt32 31)).toInt32)) + ((Int32.toUInt32 ((((((za - (((Int32.toUInt32 za >>> (Int32.toUInt32 1 &&& Int32.toUInt32 31)).toInt32) &&& 1431655765)) &&& 858993459) + (((Int32.toUInt32 (za - (((Int32.toUInt32 za >>> (Int32.toUInt32 1 &&& Int32.toUInt32 31)).toInt32) &&& 1431655765)) >>> (Int32.toUInt32 2 &&& Int32.toUInt32 31)).toInt32) &&& 858993459)) + ((Int32.toUInt32 (((za - (((Int32.toUInt32 za >>> (Int32.toUInt32 1 &&& Int32.toUInt32 31)).toInt32) &&& 1431655765)) &&& 858993459) + (((Int32.toUInt32 (za - (((Int32.toUInt32 za >>> (Int32.toUInt32 1 &&& Int32.toUInt32 31)).toInt32) &&& 1431655765)) >>> (Int32.toUInt32 2 &&& Int32.toUInt32 31)).toInt32) &&& 858993459)) >>> (Int32.toUInt32 4 &&& Int32.toUInt32 31)).toInt32)) &&& 252645135) + ((Int32.toUInt32 (((((za - (((Int32.toUInt32 za >>> (Int32.toUInt32 1 &&& Int32.toUInt32 31)).toInt32) &&& 1431655765)) &&& 858993459) + (((Int32.toUInt32 (za - (((Int32.toUInt32 za >>> (Int32.toUInt32 1 &&& Int32.toUInt32 31)).toInt32) &&& 1431655765)) >>> (Int32.toUInt32 2 &&& Int32.toUInt32 31)).toInt32) &&& 858993459)) + ((Int32.toUInt32 (((za - (((Int32.toUInt32 za >>> (Int32.toUInt32 1 &&& Int32.toUInt32 31)).toInt32) &&& 1431655765)) &&& 858993459) + (((Int32.toUInt32 (za - (((Int32.toUInt32 za >>> (Int32.toUInt32 1 &&& Int32.toUInt32 31)).toInt32) &&& 1431655765)) >>> (Int32.toUInt32 2 &&& Int32.toUInt32 31)).toInt32) &&& 858993459)) >>> (Int32.toUInt32 4 &&& Int32.toUInt32 31)).toInt32)) &&& 252645135) >>> (Int32.toUInt32 8 &&& Int32.toUInt32 31)).toInt32)) >>> (Int32.toUInt32 16 &&& Int32.toUInt32 31)).toInt32)))]) dJ6_bitCount_0f7a4_47 (Nat.le_of_ble_eq_true rfl) rfl ?_
  refine ev_iload_n (pc := 48) dJ6_bitCount_0f7a4_48 rfl ?_
  refine ev_bipush (pc := 49) (v := 63) dJ6_bitCount_0f7a4_49 (by decide) ?_
  refine ev_iand (pc := 51) dJ6_bitCount_0f7a4_51 ?_
  refine ev_iret (pc := 52) dJ6_bitCount_0f7a4_52 rfl ?_ ?_
  · rfl
  · exact ⟨rfl, rfl⟩
def flI (zv : Int32) (zf : Nat → Int32) (zn : Nat) : Nat → Int32 := cpF (fun _ => zv) zf zn
def flL (zv : Int64) (zf : Nat → Int64) : Nat → Nat → Int64
  | 0 => zf
  | zi + 1 => vp_updL (flL zv zf zi) zi zv
theorem flL_at (zv : Int64) (zf : Nat → Int64) : ∀ zn zk, flL zv zf zn zk = if zk < zn then zv else zf zk
  | 0, zk => by rw [flL, if_neg (Nat.not_lt_zero _)]
  | zn + 1, zk => by
    rw [flL]
    unfold vp_updL
    by_cases h : zk = zn
    · rw [if_pos h, if_pos (by omega)]
    · rw [if_neg h, flL_at zv zf zn zk]
      by_cases h2 : zk < zn
      · rw [if_pos h2, if_pos (by omega)]
      · rw [if_neg h2, if_neg (by omega)]
theorem flI_at (zv : Int32) (zf : Nat → Int32) (zn zk : Nat) : flI zv zf zn zk = if zk < zn then zv else zf zk := cpF_at _ _ _ _
theorem lp_fillI (E : ME) (h : AH) (zp zn : Nat) (zv : Int32) (hw : WF h) (hsh : shp zp = (1, zn)) (hpl : zp < h.1) (hn : zn < 2 ^ 30) {post : PO} (K : Ev E mJ7_fill_53178 (rmm 0 0 0) (QM E 0 0 post) 0 0 20 [some (.ref zp), some (.int zv), some (.int (nI zn)), some (.int (nI zn))] [] (sI h zp (flI zv (h.2.1 zp) zn))) : ∀ n i : Nat, i + n = zn → Ev E mJ7_fill_53178 (rmm 0 0 0) (QM E 0 0 post) 0 0 5 [some (.ref zp), some (.int zv), some (.int (nI i)), some (.int (nI zn))] [] (sI h zp (flI zv (h.2.1 zp) i)) := by
  intro n
  induction n with
  | zero =>
    intro i hi
    obtain rfl : zn = i := by omega
    refine ev_iload_n (pc := 5) dJ7_fill_53178_5 rfl ?_
    refine ev_iload_n (pc := 6) dJ7_fill_53178_6 rfl ?_
    refine ev_icmp_ge (pc := 7) (tgt := 20) dJ7_fill_53178_7 (by decide) (fun zc7 => ?_) (fun zc7 => absurd (nI_le (Nat.le_refl _) (by omega)) zc7)
    exact K
  | succ n ih =>
    intro i hi
    have hlt : i < zn := by omega
    refine ev_iload_n (pc := 5) dJ7_fill_53178_5 rfl ?_
    refine ev_iload_n (pc := 6) dJ7_fill_53178_6 rfl ?_
    refine ev_icmp_ge (pc := 7) (tgt := 20) dJ7_fill_53178_7 (by decide) (fun zc7 => absurd zc7 (nI_ge hlt (by omega))) (fun zc7 => ?_)
    refine ev_aload_n (pc := 10) dJ7_fill_53178_10 rfl ?_
    refine ev_iload_n (pc := 11) dJ7_fill_53178_11 rfl ?_
    refine ev_iload_n (pc := 12) dJ7_fill_53178_12 rfl ?_
    refine ev_iast (pc := 13) dJ7_fill_53178_13 hsh hpl (vp_in_nI hlt (by omega)) ?_
    refine ev_eqH (h' := sI h zp (upd (flI zv (h.2.1 zp) i) i zv)) (by rw [show Int32.toNatClampNeg (nI i) = i from nI_clamp (by omega)]; rw [sI_at, sI_sI]) ?_
    refine ev_iinc (pc := 14) (v := nI (i + 1)) (L' := [some (.ref zp), some (.int zv), some (.int (nI (i + 1))), some (.int (nI zn))]) dJ7_fill_53178_14 rfl (nI_1 _) (Nat.le_of_ble_eq_true rfl) rfl ?_
    refine ev_goto (pc := 17) (tgt := 5) dJ7_fill_53178_17 (by decide) ?_
    exact ih (i + 1) (by omega)
theorem cn_J7_fill_53178 (E : ME) (h : AH) (zp zn : Nat) (zv : Int32) (hw : WF h) (hsh : shp zp = (1, zn)) (hpl : zp < h.1) (hn : zn < 2 ^ 30) : Con E mJ7_fill_53178 0 0 0 [.ref zp, .int zv] h (fun r h' => r = none ∧ h' = sI h zp (flI zv (h.2.1 zp) zn)) := by
  refine con_of2 (L := [some (.ref zp), some (.int zv), none, none]) rfl (Nat.le_of_ble_eq_true rfl) rfl ?_
  refine ev_iconst (pc := 0) (v := 0) dJ7_fill_53178_0 (by decide) ?_
  refine ev_istore_n (pc := 1) (L' := [some (.ref zp), some (.int zv), some (.int 0), none]) dJ7_fill_53178_1 (Nat.le_of_ble_eq_true rfl) rfl ?_
  refine ev_aload_n (pc := 2) dJ7_fill_53178_2 rfl ?_
  refine ev_alen (pc := 3) (v := nI zn) dJ7_fill_53178_3 hsh (by decide) hpl rfl ?_
  refine ev_istore_n (pc := 4) (L' := [some (.ref zp), some (.int zv), some (.int 0), some (.int (nI zn))]) dJ7_fill_53178_4 (Nat.le_of_ble_eq_true rfl) rfl ?_
  refine ev_eqH (sI_id h zp).symm ?_
  refine lp_fillI E h zp zn zv hw hsh hpl hn ?_ zn 0 (Nat.zero_add _)
  refine ev_ret (pc := 20) dJ7_fill_53178_20 rfl ?_
  · exact ⟨rfl, rfl⟩
theorem lp_fillL (E : ME) (h : AH) (zp zn : Nat) (zv : Int64) (hw : WF h) (hsh : shp zp = (2, zn)) (hpl : zp < h.1) (hn : zn < 2 ^ 30) {post : PO} (K : Ev E mJ7_fill_d0a16 (rmm 0 0 0) (QM E 0 0 post) 0 0 22 [some (.ref zp), some (.long zv), none, some (.int (nI zn)), some (.int (nI zn))] [] (sL h zp (flL zv (h.2.2.1 zp) zn))) : ∀ n i : Nat, i + n = zn → Ev E mJ7_fill_d0a16 (rmm 0 0 0) (QM E 0 0 post) 0 0 6 [some (.ref zp), some (.long zv), none, some (.int (nI i)), some (.int (nI zn))] [] (sL h zp (flL zv (h.2.2.1 zp) i)) := by
  intro n
  induction n with
  | zero =>
    intro i hi
    obtain rfl : zn = i := by omega
    refine ev_iload_n (pc := 6) dJ7_fill_d0a16_6 rfl ?_
    refine ev_iload (pc := 7) dJ7_fill_d0a16_7 rfl ?_
    refine ev_icmp_ge (pc := 9) (tgt := 22) dJ7_fill_d0a16_9 (by decide) (fun zc9 => ?_) (fun zc9 => absurd (nI_le (Nat.le_refl _) (by omega)) zc9)
    exact K
  | succ n ih =>
    intro i hi
    have hlt : i < zn := by omega
    refine ev_iload_n (pc := 6) dJ7_fill_d0a16_6 rfl ?_
    refine ev_iload (pc := 7) dJ7_fill_d0a16_7 rfl ?_
    refine ev_icmp_ge (pc := 9) (tgt := 22) dJ7_fill_d0a16_9 (by decide) (fun zc9 => absurd zc9 (nI_ge hlt (by omega))) (fun zc9 => ?_)
    refine ev_aload_n (pc := 12) dJ7_fill_d0a16_12 rfl ?_
    refine ev_iload_n (pc := 13) dJ7_fill_d0a16_13 rfl ?_
    refine ev_lload_n (pc := 14) dJ7_fill_d0a16_14 rfl ?_
    refine ev_last (pc := 15) dJ7_fill_d0a16_15 hsh hpl (vp_in_nI hlt (by omega)) ?_
    refine ev_eqH (h' := sL h zp (vp_updL (flL zv (h.2.2.1 zp) i) i zv)) (by rw [show Int32.toNatClampNeg (nI i) = i from nI_clamp (by omega)]; rw [sL_at, sL_sL]) ?_
    refine ev_iinc (pc := 16) (v := nI (i + 1)) (L' := [some (.ref zp), some (.long zv), none, some (.int (nI (i + 1))), some (.int (nI zn))]) dJ7_fill_d0a16_16 rfl (nI_1 _) (Nat.le_of_ble_eq_true rfl) rfl ?_
    refine ev_goto (pc := 19) (tgt := 6) dJ7_fill_d0a16_19 (by decide) ?_
    exact ih (i + 1) (by omega)
theorem sL_id (h : AH) (zk : Nat) : sL h zk (h.2.2.1 zk) = h := by
  unfold sL
  refine Prod.ext rfl (Prod.ext rfl (Prod.ext (funext fun q => ?_) rfl))
  dsimp only
  split
  · rename_i e; rw [e]
  · rfl
theorem cn_J7_fill_d0a16 (E : ME) (h : AH) (zp zn : Nat) (zv : Int64) (hw : WF h) (hsh : shp zp = (2, zn)) (hpl : zp < h.1) (hn : zn < 2 ^ 30) : Con E mJ7_fill_d0a16 0 0 0 [.ref zp, .long zv] h (fun r h' => r = none ∧ h' = sL h zp (flL zv (h.2.2.1 zp) zn)) := by
  refine con_of2 (L := [some (.ref zp), some (.long zv), none, none, none]) rfl (Nat.le_of_ble_eq_true rfl) rfl ?_
  refine ev_iconst (pc := 0) (v := 0) dJ7_fill_d0a16_0 (by decide) ?_
  refine ev_istore_n (pc := 1) (L' := [some (.ref zp), some (.long zv), none, some (.int 0), none]) dJ7_fill_d0a16_1 (Nat.le_of_ble_eq_true rfl) rfl ?_
  refine ev_aload_n (pc := 2) dJ7_fill_d0a16_2 rfl ?_
  refine ev_alen (pc := 3) (v := nI zn) dJ7_fill_d0a16_3 hsh (by decide) hpl rfl ?_
  refine ev_istore (pc := 4) (L' := [some (.ref zp), some (.long zv), none, some (.int 0), some (.int (nI zn))]) dJ7_fill_d0a16_4 (Nat.le_of_ble_eq_true rfl) rfl ?_
  refine ev_eqH (sL_id h zp).symm ?_
  refine lp_fillL E h zp zn zv hw hsh hpl hn ?_ zn 0 (Nat.zero_add _)
  refine ev_ret (pc := 22) dJ7_fill_d0a16_22 rfl ?_
  · exact ⟨rfl, rfl⟩
