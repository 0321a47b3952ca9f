def clC (zc : Nat) : Int32 := if zc = 6 then -1 else nI zc
/-- the class's story at a place tells what a text told -/
def STz (zt : PSt) (zq : Nat) (h : AH) : Prop := h.2.1 zq 7 = nI (zt.1 1) ∧ h.2.1 zq 8 = nI (zt.1 2) ∧ h.2.1 zq 9 = nI (zt.1 3) ∧ (∀ zk, zk < zt.1 1 → h.2.1 (zq + 1) zk = nI (zt.2 0 zk) ∧ h.2.1 (zq + 2) zk = nI (zt.2 1 zk) ∧ h.2.1 (zq + 3) zk = nI (zt.2 2 zk) ∧ h.2.1 (zq + 4) zk = nI (zt.2 3 zk)) ∧ (∀ zk, zk < 6 → h.2.1 (zq + 5) zk = nI (zt.2 4 zk) ∧ h.2.1 (zq + 6) zk = nI (zt.2 5 zk)) ∧ ∀ zk, zk < 16 * zt.1 2 → h.2.1 (zq + 7) zk = clC (zt.2 6 zk)
abbrev thg (zt : PSt) (zi : Int32) : Prop := 0 ≤ zi ∧ zi ≤ nI (zt.1 1) - 1
abbrev ptg (zt : PSt) (zi : Int32) : Prop := 0 ≤ zi ∧ zi ≤ nI (zt.1 2) - 1
abbrev rwg (zt : PSt) (zi : Int32) : Prop := thg zt zi ∧ 0 < zt.2 0 zi.toNatClampNeg
theorem c6_in {zi : Int32} (h : 0 ≤ zi ∧ zi ≤ 5) : ∃ zc, zc < 6 ∧ zi = nI zc := vp_in_of (vp_sm (N := 6) h.1 h.2 (by decide) (by decide)) (by decide)
theorem tl_10 {zv za : Int32} (ha : 0 ≤ za.toInt ∧ za.toInt ≤ 100) : (za ≤ zv ∧ zv ≤ za + 5) ↔ (0 ≤ zv - za ∧ zv - za ≤ 5) := by
  have hb := fb_rng zv
  have e5 : (5 : Int32).toInt = 5 := by decide
  have e1 : (za + 5).toInt = za.toInt + 5 := by rw [fb_addI (by rw [e5]; omega) (by rw [e5]; omega), e5]
  rw [i_le, i_le, i_le, i_le, i_z0, e1, e5]
  by_cases h : -2147483648 ≤ zv.toInt - za.toInt
  · rw [fb_subI h (by omega)]
    omega
  · constructor
    · intro z; omega
    · intro z
      exfalso
      have e : (zv - za).toInt = zv.toInt - za.toInt + 4294967296 := by
        rw [Int32.toInt_sub, Int.bmod_def]
        omega
      omega
theorem cl_ge {zc : Nat} (h : zc ≤ 6) : (0 ≤ clC zc ↔ clV zc = clC zc) ∧ (¬ 0 ≤ clC zc → clV zc = -4) := by
  revert h
  revert zc
  decide
theorem cn_X8_things_3 (E : ME) (h : AH) (zt : PSt) (hw : WF h) (hS : STz zt 3 h) (hO : POK zt) : Con E mX8_things 0 0 0 [.ref 3] h (fun r h' => r = some (.int (nI (zt.1 1))) ∧ h' = h) := by
  refine con_of2 (L := [some (.ref 3)]) rfl (Nat.le_of_ble_eq_true rfl) rfl ?_
  refine ev_aload_n (pc := 0) dX8_things_0 rfl ?_
  refine ev_getI (pc := 1) dX8_things_1 fX8_42 rfl (wlt hw (by decide)) ?_
  refine ev_eqI (e' := nI (zt.1 1)) hS.1 ?_
  refine ev_iret (pc := 4) dX8_things_4 rfl ?_ ?_
  · rfl
  · exact ⟨rfl, rfl⟩
theorem cn_X8_patterns_3 (E : ME) (h : AH) (zt : PSt) (hw : WF h) (hS : STz zt 3 h) (hO : POK zt) : Con E mX8_patterns 0 0 0 [.ref 3] h (fun r h' => r = some (.int (nI (zt.1 2))) ∧ h' = h) := by
  refine con_of2 (L := [some (.ref 3)]) rfl (Nat.le_of_ble_eq_true rfl) rfl ?_
  refine ev_aload_n (pc := 0) dX8_patterns_0 rfl ?_
  refine ev_getI (pc := 1) dX8_patterns_1 fX8_46 rfl (wlt hw (by decide)) ?_
  refine ev_eqI (e' := nI (zt.1 2)) hS.2.1 ?_
  refine ev_iret (pc := 4) dX8_patterns_4 rfl ?_ ?_
  · rfl
  · exact ⟨rfl, rfl⟩
theorem cn_X8_apart_3 (E : ME) (h : AH) (zt : PSt) (hw : WF h) (hS : STz zt 3 h) (hO : POK zt) : Con E mX8_apart 0 0 0 [.ref 3] h (fun r h' => r = some (.int (nI (zt.1 3))) ∧ h' = h) := by
  refine con_of2 (L := [some (.ref 3)]) rfl (Nat.le_of_ble_eq_true rfl) rfl ?_
  refine ev_aload_n (pc := 0) dX8_apart_0 rfl ?_
  refine ev_getI (pc := 1) dX8_apart_1 fX8_49 rfl (wlt hw (by decide)) ?_
  refine ev_eqI (e' := nI (zt.1 3)) hS.2.2.1 ?_
  refine ev_iret (pc := 4) dX8_apart_4 rfl ?_ ?_
  · rfl
  · exact ⟨rfl, rfl⟩
theorem cn_X8_hasThing_3 (E : ME) (h : AH) (zt : PSt) (zi : Int32) (hw : WF h) (hS : STz zt 3 h) (hO : POK zt) : Con E mX8_hasThing 1 0 0 [.ref 3, .int zi] h (fun r h' => r = some (.int (bI (thg zt zi))) ∧ h' = h) := by
  refine con_of2 (L := [some (.ref 3), some (.int zi)]) rfl (Nat.le_of_ble_eq_true rfl) rfl ?_
  refine ev_iload_n (pc := 0) dX8_hasThing_0 rfl ?_
  refine ev_iconst (pc := 1) (v := 0) dX8_hasThing_1 (by decide) ?_
  refine ev_aload_n (pc := 2) dX8_hasThing_2 rfl ?_
  refine ev_getI (pc := 3) dX8_hasThing_3 fX8_42 rfl (wlt hw (by decide)) ?_
  refine ev_eqI (e' := nI (zt.1 1)) hS.1 ?_
  refine ev_iconst (pc := 6) (v := 1) dX8_hasThing_6 (by decide) ?_
  refine ev_isub (pc := 7) dX8_hasThing_7 ?_
  refine ev_callSv (S := []) (pc := 8) dX8_hasThing_8 kX10_within lX8_59 sX10_within (cn_X10_within E h zi 0 ((nI (zt.1 1)) - 1)) rfl rfl (Nat.le_of_ble_eq_true rfl) ⟨Nat.le_of_ble_eq_true rfl, Nat.le_of_ble_eq_true rfl⟩ ⟨Nat.le_of_ble_eq_true rfl, Nat.le_of_ble_eq_true rfl⟩ ?_
  refine ev_iret (pc := 11) dX8_hasThing_11 rfl ?_ ?_
  · first | rfl | exact nar_bI _ | (simp only [*]; exact nar_bI _) | (simp [narrow, *]; done)
  · exact ⟨rfl, rfl⟩
theorem cn_X8_hasPattern_3 (E : ME) (h : AH) (zt : PSt) (zi : Int32) (hw : WF h) (hS : STz zt 3 h) (hO : POK zt) : Con E mX8_hasPattern 1 0 0 [.ref 3, .int zi] h (fun r h' => r = some (.int (bI (ptg zt zi))) ∧ h' = h) := by
  refine con_of2 (L := [some (.ref 3), some (.int zi)]) rfl (Nat.le_of_ble_eq_true rfl) rfl ?_
  refine ev_iload_n (pc := 0) dX8_hasPattern_0 rfl ?_
  refine ev_iconst (pc := 1) (v := 0) dX8_hasPattern_1 (by decide) ?_
  refine ev_aload_n (pc := 2) dX8_hasPattern_2 rfl ?_
  refine ev_getI (pc := 3) dX8_hasPattern_3 fX8_46 rfl (wlt hw (by decide)) ?_
  refine ev_eqI (e' := nI (zt.1 2)) hS.2.1 ?_
  refine ev_iconst (pc := 6) (v := 1) dX8_hasPattern_6 (by decide) ?_
  refine ev_isub (pc := 7) dX8_hasPattern_7 ?_
  refine ev_callSv (S := []) (pc := 8) dX8_hasPattern_8 kX10_within lX8_59 sX10_within (cn_X10_within E h zi 0 ((nI (zt.1 2)) - 1)) rfl rfl (Nat.le_of_ble_eq_true rfl) ⟨Nat.le_of_ble_eq_true rfl, Nat.le_of_ble_eq_true rfl⟩ ⟨Nat.le_of_ble_eq_true rfl, Nat.le_of_ble_eq_true rfl⟩ ?_
  refine ev_iret (pc := 11) dX8_hasPattern_11 rfl ?_ ?_
  · first | rfl | exact nar_bI _ | (simp only [*]; exact nar_bI _) | (simp [narrow, *]; done)
  · exact ⟨rfl, rfl⟩
theorem cn_X8_isRow_3 (E : ME) (h : AH) (zt : PSt) (zi0 : Int32) (hw : WF h) (hS : STz zt 3 h) (hO : POK zt) : Con E mX8_isRow 2 0 0 [.ref 3, .int zi0] h (fun r h' => r = some (.int (bI (rwg zt zi0))) ∧ h' = h) := by
  refine con_of2 (L := [some (.ref 3), some (.int zi0)]) rfl (Nat.le_of_ble_eq_true rfl) rfl ?_
  refine ev_aload_n (pc := 0) dX8_isRow_0 rfl ?_
  refine ev_iload_n (pc := 1) dX8_isRow_1 rfl ?_
  refine ev_callVv (S := []) (pc := 2) dX8_isRow_2 kX8_hasThing lX8_63 vX8_hasThing (cn_X8_hasThing_3 E h zt zi0 hw hS hO) rfl rfl (wlt hw (by decide)) rfl rfl (Nat.le_of_ble_eq_true rfl) ⟨Nat.le_of_ble_eq_true rfl, Nat.le_of_ble_eq_true rfl⟩ ⟨Nat.le_of_ble_eq_true rfl, Nat.le_of_ble_eq_true rfl⟩ ?_
  refine ev_if_eq (pc := 5) (tgt := 21) dX8_isRow_5 (by decide) (fun zc5 => ?_) (fun zc5 => ?_)
  · -- eq at 5: taken
    refine ev_iconst (pc := 21) (v := 0) dX8_isRow_21 (by decide) ?_
    refine ev_iret (pc := 22) dX8_isRow_22 rfl ?_ ?_
    · first | rfl | exact nar_bI _ | (simp only [*]; exact nar_bI _) | (simp [narrow, *]; done)
    · refine ⟨?_, rfl⟩
      rw [bI_f (fun z => bI_0.mp zc5 z.1)]
  · -- eq at 5: not taken
    obtain ⟨zi, hi, rfl⟩ := th_nat (bI_n0.mp zc5) (by have := hO.1; omega : zt.1 1 ≤ 4096)
    have zm12 := hO.1
    have z9 := hS.2.2.2.1 zi hi
    refine ev_aload_n (pc := 8) dX8_isRow_8 rfl ?_
    refine ev_getR (pc := 9) (q := 4) dX8_isRow_9 fX8_9 rfl (wlt hw (by decide)) (wr hw rfl) ?_
    refine ev_iload_n (pc := 12) dX8_isRow_12 rfl ?_
    refine ev_iald (pc := 13) dX8_isRow_13 rfl (wlt hw (by decide)) (vp_in_nI (by omega) (by decide)) ?_
    refine ev_eqI (e' := h.2.1 4 zi) (by rw [show Int32.toNatClampNeg (nI zi) = zi from nI_clamp (by omega)] <;> rfl) ?_
    refine ev_eqI (e' := nI (zt.2 0 zi)) z9.1 ?_
    refine ev_if_le (pc := 14) (tgt := 21) dX8_isRow_14 (by decide) (fun zc14 => ?_) (fun zc14 => ?_)
    · -- le at 14: taken
      refine ev_iconst (pc := 21) (v := 0) dX8_isRow_21 (by decide) ?_
      refine ev_iret (pc := 22) dX8_isRow_22 rfl ?_ ?_
      · first | rfl | exact nar_bI _ | (simp only [*]; exact nar_bI _) | (simp [narrow, *]; done)
      · refine ⟨?_, rfl⟩
        have zb := (hO.2.2.2.2.2.1 zi hi).1
        rw [bI_f (fun z => by have z2 := z.2; rw [nI_clamp (by omega)] at z2; exact nI_nle z2 (by omega) zc14)]
    · -- le at 14: not taken
      refine ev_iconst (pc := 17) (v := 1) dX8_isRow_17 (by decide) ?_
      refine ev_goto (pc := 18) (tgt := 22) dX8_isRow_18 (by decide) ?_
      refine ev_iret (pc := 22) dX8_isRow_22 rfl ?_ ?_
      · first | rfl | exact nar_bI _ | (simp only [*]; exact nar_bI _) | (simp [narrow, *]; done)
      · refine ⟨?_, rfl⟩
        have zb := (hO.2.2.2.2.2.1 zi hi).1
        rw [bI_t ⟨bI_n0.mp zc5, by rw [nI_clamp (by omega)]; exact Nat.pos_of_ne_zero (fun z => zc14 (by rw [z]; decide))⟩]
theorem cn_X8_cubesOf_3 (E : ME) (h : AH) (zt : PSt) (zi0 : Int32) (hw : WF h) (hS : STz zt 3 h) (hO : POK zt) : Con E mX8_cubesOf 2 0 0 [.ref 3, .int zi0] h (fun r h' => r = some (.int (if thg zt zi0 then nI (zt.2 0 zi0.toNatClampNeg) else 0)) ∧ h' = h) := by
  refine con_of2 (L := [some (.ref 3), some (.int zi0)]) rfl (Nat.le_of_ble_eq_true rfl) rfl ?_
  refine ev_aload_n (pc := 0) dX8_cubesOf_0 rfl ?_
  refine ev_iload_n (pc := 1) dX8_cubesOf_1 rfl ?_
  refine ev_callVv (S := []) (pc := 2) dX8_cubesOf_2 kX8_hasThing lX8_63 vX8_hasThing (cn_X8_hasThing_3 E h zt zi0 hw hS hO) rfl rfl (wlt hw (by decide)) rfl rfl (Nat.le_of_ble_eq_true rfl) ⟨Nat.le_of_ble_eq_true rfl, Nat.le_of_ble_eq_true rfl⟩ ⟨Nat.le_of_ble_eq_true rfl, Nat.le_of_ble_eq_true rfl⟩ ?_
  refine ev_if_eq (pc := 5) (tgt := 17) dX8_cubesOf_5 (by decide) (fun zc5 => ?_) (fun zc5 => ?_)
  · -- eq at 5: taken
    refine ev_iconst (pc := 17) (v := 0) dX8_cubesOf_17 (by decide) ?_
    refine ev_iret (pc := 18) dX8_cubesOf_18 rfl ?_ ?_
    · rfl
    · refine ⟨?_, rfl⟩
      rw [if_neg (bI_0.mp zc5)]
  · -- eq at 5: not taken
    obtain ⟨zi, hi, rfl⟩ := th_nat (bI_n0.mp zc5) (by have := hO.1; omega : zt.1 1 ≤ 4096)
    have zm12 := hO.1
    have z9 := hS.2.2.2.1 zi hi
    refine ev_aload_n (pc := 8) dX8_cubesOf_8 rfl ?_
    refine ev_getR (pc := 9) (q := 4) dX8_cubesOf_9 fX8_9 rfl (wlt hw (by decide)) (wr hw rfl) ?_
    refine ev_iload_n (pc := 12) dX8_cubesOf_12 rfl ?_
    refine ev_iald (pc := 13) dX8_cubesOf_13 rfl (wlt hw (by decide)) (vp_in_nI (by omega) (by decide)) ?_
    refine ev_eqI (e' := h.2.1 4 zi) (by rw [show Int32.toNatClampNeg (nI zi) = zi from nI_clamp (by omega)] <;> rfl) ?_
    refine ev_eqI (e' := nI (zt.2 0 zi)) z9.1 ?_
    refine ev_goto (pc := 14) (tgt := 18) dX8_cubesOf_14 (by decide) ?_
    refine ev_iret (pc := 18) dX8_cubesOf_18 rfl ?_ ?_
    · rfl
    · refine ⟨?_, rfl⟩
      rw [if_pos (bI_n0.mp zc5), nI_clamp (by omega)]
theorem cn_X8_lengthOf_3 (E : ME) (h : AH) (zt : PSt) (zi0 : Int32) (hw : WF h) (hS : STz zt 3 h) (hO : POK zt) : Con E mX8_lengthOf 2 0 0 [.ref 3, .int zi0] h (fun r h' => r = some (.int (if thg zt zi0 then nI (zt.2 1 zi0.toNatClampNeg) else 0)) ∧ h' = h) := by
  refine con_of2 (L := [some (.ref 3), some (.int zi0)]) rfl (Nat.le_of_ble_eq_true rfl) rfl ?_
  refine ev_aload_n (pc := 0) dX8_lengthOf_0 rfl ?_
  refine ev_iload_n (pc := 1) dX8_lengthOf_1 rfl ?_
  refine ev_callVv (S := []) (pc := 2) dX8_lengthOf_2 kX8_hasThing lX8_63 vX8_hasThing (cn_X8_hasThing_3 E h zt zi0 hw hS hO) rfl rfl (wlt hw (by decide)) rfl rfl (Nat.le_of_ble_eq_true rfl) ⟨Nat.le_of_ble_eq_true rfl, Nat.le_of_ble_eq_true rfl⟩ ⟨Nat.le_of_ble_eq_true rfl, Nat.le_of_ble_eq_true rfl⟩ ?_
  refine ev_if_eq (pc := 5) (tgt := 17) dX8_lengthOf_5 (by decide) (fun zc5 => ?_) (fun zc5 => ?_)
  · -- eq at 5: taken
    refine ev_iconst (pc := 17) (v := 0) dX8_lengthOf_17 (by decide) ?_
    refine ev_iret (pc := 18) dX8_lengthOf_18 rfl ?_ ?_
    · rfl
    · refine ⟨?_, rfl⟩
      rw [if_neg (bI_0.mp zc5)]
  · -- eq at 5: not taken
    obtain ⟨zi, hi, rfl⟩ := th_nat (bI_n0.mp zc5) (by have := hO.1; omega : zt.1 1 ≤ 4096)
    have zm12 := hO.1
    have z9 := hS.2.2.2.1 zi hi
    refine ev_aload_n (pc := 8) dX8_lengthOf_8 rfl ?_
    refine ev_getR (pc := 9) (q := 5) dX8_lengthOf_9 fX8_15 rfl (wlt hw (by decide)) (wr hw rfl) ?_
    refine ev_iload_n (pc := 12) dX8_lengthOf_12 rfl ?_
    refine ev_iald (pc := 13) dX8_lengthOf_13 rfl (wlt hw (by decide)) (vp_in_nI (by omega) (by decide)) ?_
    refine ev_eqI (e' := h.2.1 5 zi) (by rw [show Int32.toNatClampNeg (nI zi) = zi from nI_clamp (by omega)] <;> rfl) ?_
    refine ev_eqI (e' := nI (zt.2 1 zi)) z9.2.1 ?_
    refine ev_goto (pc := 14) (tgt := 18) dX8_lengthOf_14 (by decide) ?_
    refine ev_iret (pc := 18) dX8_lengthOf_18 rfl ?_ ?_
    · rfl
    · refine ⟨?_, rfl⟩
      rw [if_pos (bI_n0.mp zc5), nI_clamp (by omega)]
theorem cn_X8_laterThan_3 (E : ME) (h : AH) (zt : PSt) (zi0 : Int32) (hw : WF h) (hS : STz zt 3 h) (hO : POK zt) : Con E mX8_laterThan 2 0 0 [.ref 3, .int zi0] h (fun r h' => r = some (.int (if thg zt zi0 then nI (zt.2 2 zi0.toNatClampNeg ||| zt.2 3 zi0.toNatClampNeg) else 0)) ∧ h' = h) := by
  refine con_of2 (L := [some (.ref 3), some (.int zi0)]) rfl (Nat.le_of_ble_eq_true rfl) rfl ?_
  refine ev_aload_n (pc := 0) dX8_laterThan_0 rfl ?_
  refine ev_iload_n (pc := 1) dX8_laterThan_1 rfl ?_
  refine ev_callVv (S := []) (pc := 2) dX8_laterThan_2 kX8_hasThing lX8_63 vX8_hasThing (cn_X8_hasThing_3 E h zt zi0 hw hS hO) rfl rfl (wlt hw (by decide)) rfl rfl (Nat.le_of_ble_eq_true rfl) ⟨Nat.le_of_ble_eq_true rfl, Nat.le_of_ble_eq_true rfl⟩ ⟨Nat.le_of_ble_eq_true rfl, Nat.le_of_ble_eq_true rfl⟩ ?_
  refine ev_if_eq (pc := 5) (tgt := 24) dX8_laterThan_5 (by decide) (fun zc5 => ?_) (fun zc5 => ?_)
  · -- eq at 5: taken
    refine ev_iconst (pc := 24) (v := 0) dX8_laterThan_24 (by decide) ?_
    refine ev_iret (pc := 25) dX8_laterThan_25 rfl ?_ ?_
    · rfl
    · refine ⟨?_, rfl⟩
      rw [if_neg (bI_0.mp zc5)]
  · -- eq at 5: not taken
    obtain ⟨zi, hi, rfl⟩ := th_nat (bI_n0.mp zc5) (by have := hO.1; omega : zt.1 1 ≤ 4096)
    have zm12 := hO.1
    have z9 := hS.2.2.2.1 zi hi
    refine ev_aload_n (pc := 8) dX8_laterThan_8 rfl ?_
    refine ev_getR (pc := 9) (q := 6) dX8_laterThan_9 fX8_18 rfl (wlt hw (by decide)) (wr hw rfl) ?_
    refine ev_iload_n (pc := 12) dX8_laterThan_12 rfl ?_
    refine ev_iald (pc := 13) dX8_laterThan_13 rfl (wlt hw (by decide)) (vp_in_nI (by omega) (by decide)) ?_
    refine ev_eqI (e' := h.2.1 6 zi) (by rw [show Int32.toNatClampNeg (nI zi) = zi from nI_clamp (by omega)] <;> rfl) ?_
    refine ev_eqI (e' := nI (zt.2 2 zi)) z9.2.2.1 ?_
    refine ev_aload_n (pc := 14) dX8_laterThan_14 rfl ?_
    refine ev_getR (pc := 15) (q := 7) dX8_laterThan_15 fX8_21 rfl (wlt hw (by decide)) (wr hw rfl) ?_
    refine ev_iload_n (pc := 18) dX8_laterThan_18 rfl ?_
    refine ev_iald (pc := 19) dX8_laterThan_19 rfl (wlt hw (by decide)) (vp_in_nI (by omega) (by decide)) ?_
    refine ev_eqI (e' := h.2.1 7 zi) (by rw [show Int32.toNatClampNeg (nI zi) = zi from nI_clamp (by omega)] <;> rfl) ?_
    refine ev_eqI (e' := nI (zt.2 3 zi)) z9.2.2.2 ?_
    refine ev_ior (pc := 20) dX8_laterThan_20 ?_
    refine ev_eqI (e' := nI (zt.2 2 zi ||| zt.2 3 zi)) (fa_or _ _) ?_
    refine ev_goto (pc := 21) (tgt := 25) dX8_laterThan_21 (by decide) ?_
    refine ev_iret (pc := 25) dX8_laterThan_25 rfl ?_ ?_
    · rfl
    · refine ⟨?_, rfl⟩
      rw [if_pos (bI_n0.mp zc5), nI_clamp (by omega)]
theorem cn_X8_priceOf_3 (E : ME) (h : AH) (zt : PSt) (zi0 : Int32) (hw : WF h) (hS : STz zt 3 h) (hO : POK zt) : Con E mX8_priceOf 1 0 0 [.ref 3, .int zi0] h (fun r h' => r = some (.int (if 0 ≤ zi0 ∧ zi0 ≤ 5 then nI (zt.2 4 zi0.toNatClampNeg) else 0)) ∧ h' = h) := by
  refine con_of2 (L := [some (.ref 3), some (.int zi0)]) rfl (Nat.le_of_ble_eq_true rfl) rfl ?_
  refine ev_iload_n (pc := 0) dX8_priceOf_0 rfl ?_
  refine ev_iconst (pc := 1) (v := 0) dX8_priceOf_1 (by decide) ?_
  refine ev_iconst (pc := 2) (v := 5) dX8_priceOf_2 (by decide) ?_
  refine ev_callSv (S := []) (pc := 3) dX8_priceOf_3 kX10_within lX8_59 sX10_within (cn_X10_within E h zi0 0 5) rfl rfl (Nat.le_of_ble_eq_true rfl) ⟨Nat.le_of_ble_eq_true rfl, Nat.le_of_ble_eq_true rfl⟩ ⟨Nat.le_of_ble_eq_true rfl, Nat.le_of_ble_eq_true rfl⟩ ?_
  refine ev_if_eq (pc := 6) (tgt := 18) dX8_priceOf_6 (by decide) (fun zc6 => ?_) (fun zc6 => ?_)
  · -- eq at 6: taken
    refine ev_iconst (pc := 18) (v := 0) dX8_priceOf_18 (by decide) ?_
    refine ev_iret (pc := 19) dX8_priceOf_19 rfl ?_ ?_
    · rfl
    · refine ⟨?_, rfl⟩
      rw [if_neg (bI_0.mp zc6)]
  · -- eq at 6: not taken
    obtain ⟨zi, hi, rfl⟩ := c6_in (bI_n0.mp zc6)
    have z9 := hS.2.2.2.2.1 zi hi
    refine ev_aload_n (pc := 9) dX8_priceOf_9 rfl ?_
    refine ev_getR (pc := 10) (q := 8) dX8_priceOf_10 fX8_24 rfl (wlt hw (by decide)) (wr hw rfl) ?_
    refine ev_iload_n (pc := 13) dX8_priceOf_13 rfl ?_
    refine ev_iald (pc := 14) dX8_priceOf_14 rfl (wlt hw (by decide)) (vp_in_nI (by omega) (by decide)) ?_
    refine ev_eqI (e' := h.2.1 8 zi) (by rw [show Int32.toNatClampNeg (nI zi) = zi from nI_clamp (by omega)] <;> rfl) ?_
    refine ev_eqI (e' := nI (zt.2 4 zi)) z9.1 ?_
    refine ev_goto (pc := 15) (tgt := 19) dX8_priceOf_15 (by decide) ?_
    refine ev_iret (pc := 19) dX8_priceOf_19 rfl ?_ ?_
    · rfl
    · refine ⟨?_, rfl⟩
      rw [if_pos (bI_n0.mp zc6), nI_clamp (by omega)]
theorem cn_X8_dailyOf_3 (E : ME) (h : AH) (zt : PSt) (zi0 : Int32) (hw : WF h) (hS : STz zt 3 h) (hO : POK zt) : Con E mX8_dailyOf 1 0 0 [.ref 3, .int zi0] h (fun r h' => r = some (.int (if 0 ≤ zi0 ∧ zi0 ≤ 5 then nI (zt.2 5 zi0.toNatClampNeg) else 1)) ∧ h' = h) := by
  refine con_of2 (L := [some (.ref 3), some (.int zi0)]) rfl (Nat.le_of_ble_eq_true rfl) rfl ?_
  refine ev_iload_n (pc := 0) dX8_dailyOf_0 rfl ?_
  refine ev_iconst (pc := 1) (v := 0) dX8_dailyOf_1 (by decide) ?_
  refine ev_iconst (pc := 2) (v := 5) dX8_dailyOf_2 (by decide) ?_
  refine ev_callSv (S := []) (pc := 3) dX8_dailyOf_3 kX10_within lX8_59 sX10_within (cn_X10_within E h zi0 0 5) rfl rfl (Nat.le_of_ble_eq_true rfl) ⟨Nat.le_of_ble_eq_true rfl, Nat.le_of_ble_eq_true rfl⟩ ⟨Nat.le_of_ble_eq_true rfl, Nat.le_of_ble_eq_true rfl⟩ ?_
  refine ev_if_eq (pc := 6) (tgt := 18) dX8_dailyOf_6 (by decide) (fun zc6 => ?_) (fun zc6 => ?_)
  · -- eq at 6: taken
    refine ev_iconst (pc := 18) (v := 1) dX8_dailyOf_18 (by decide) ?_
    refine ev_iret (pc := 19) dX8_dailyOf_19 rfl ?_ ?_
    · rfl
    · refine ⟨?_, rfl⟩
      rw [if_neg (bI_0.mp zc6)]
  · -- eq at 6: not taken
    obtain ⟨zi, hi, rfl⟩ := c6_in (bI_n0.mp zc6)
    have z9 := hS.2.2.2.2.1 zi hi
    refine ev_aload_n (pc := 9) dX8_dailyOf_9 rfl ?_
    refine ev_getR (pc := 10) (q := 9) dX8_dailyOf_10 fX8_27 rfl (wlt hw (by decide)) (wr hw rfl) ?_
    refine ev_iload_n (pc := 13) dX8_dailyOf_13 rfl ?_
    refine ev_iald (pc := 14) dX8_dailyOf_14 rfl (wlt hw (by decide)) (vp_in_nI (by omega) (by decide)) ?_
    refine ev_eqI (e' := h.2.1 9 zi) (by rw [show Int32.toNatClampNeg (nI zi) = zi from nI_clamp (by omega)] <;> rfl) ?_
    refine ev_eqI (e' := nI (zt.2 5 zi)) z9.2 ?_
    refine ev_goto (pc := 15) (tgt := 19) dX8_dailyOf_15 (by decide) ?_
    refine ev_iret (pc := 19) dX8_dailyOf_19 rfl ?_ ?_
    · rfl
    · refine ⟨?_, rfl⟩
      rw [if_pos (bI_n0.mp zc6), nI_clamp (by omega)]
theorem cn_X8_patternColour_3 (E : ME) (h : AH) (zt : PSt) (zp zc : Nat) (hw : WF h) (hS : STz zt 3 h) (hO : POK zt) (hp : zp < zt.1 2) (hc : zc < 16) : Con E mX8_patternColour 2 0 0 [.ref 3, .int (nI zp), .int (nI zc)] h (fun r h' => r = some (.int (clC (zt.2 6 (16 * zp + zc)))) ∧ h' = h) := by
  refine con_of2 (L := [some (.ref 3), some (.int (nI zp)), some (.int (nI zc))]) rfl (Nat.le_of_ble_eq_true rfl) rfl ?_
  have zb4 := hO.2.1
  refine ev_aload_n (pc := 0) dX8_patternColour_0 rfl ?_
  refine ev_iload_n (pc := 1) dX8_patternColour_1 rfl ?_
  refine ev_callVv (S := []) (pc := 2) dX8_patternColour_2 kX8_hasPattern lX8_67 vX8_hasPattern (cn_X8_hasPattern_3 E h zt (nI zp) hw hS hO) rfl rfl (wlt hw (by decide)) rfl rfl (Nat.le_of_ble_eq_true rfl) ⟨Nat.le_of_ble_eq_true rfl, Nat.le_of_ble_eq_true rfl⟩ ⟨Nat.le_of_ble_eq_true rfl, Nat.le_of_ble_eq_true rfl⟩ ?_
  refine ev_if_eq (pc := 5) (tgt := 18) dX8_patternColour_5 (by decide) (fun zc5 => absurd zc5 (bI_n0.mpr ⟨nI_pos' (by omega), by rw [nI_m1 (by omega)]; exact nI_le (by omega) (by omega)⟩)) (fun zc5 => ?_)
  refine ev_iload_n (pc := 8) dX8_patternColour_8 rfl ?_
  refine ev_iconst (pc := 9) (v := 0) dX8_patternColour_9 (by decide) ?_
  refine ev_bipush (pc := 10) (v := 15) dX8_patternColour_10 (by decide) ?_
  refine ev_callSv (S := []) (pc := 12) dX8_patternColour_12 kX10_within lX8_59 sX10_within (cn_X10_within E h (nI zc) 0 15) rfl rfl (Nat.le_of_ble_eq_true rfl) ⟨Nat.le_of_ble_eq_true rfl, Nat.le_of_ble_eq_true rfl⟩ ⟨Nat.le_of_ble_eq_true rfl, Nat.le_of_ble_eq_true rfl⟩ ?_
  refine ev_if_ne (pc := 15) (tgt := 20) dX8_patternColour_15 (by decide) (fun zc15 => ?_) (fun zc15 => absurd zc15 (bI_n0.mpr ⟨nI_pos' (by omega), nI_le (a := zc) (b := 15) (by omega) (by decide)⟩))
  refine ev_aload_n (pc := 20) dX8_patternColour_20 rfl ?_
  refine ev_getR (pc := 21) (q := 10) dX8_patternColour_21 fX8_30 rfl (wlt hw (by decide)) (wr hw rfl) ?_
  refine ev_iload_n (pc := 24) dX8_patternColour_24 rfl ?_
  refine ev_bipush (pc := 25) (v := 16) dX8_patternColour_25 (by decide) ?_
  refine ev_imul (pc := 27) dX8_patternColour_27 ?_
  refine ev_eqI (e' := nI (zp * 16)) (pk_mul zp 16) ?_
  refine ev_iload_n (pc := 28) dX8_patternColour_28 rfl ?_
  refine ev_iadd (pc := 29) dX8_patternColour_29 ?_
  refine ev_eqI (e' := nI ((zp * 16) + zc)) (nI_add (zp * 16) zc) ?_
  refine ev_iald (pc := 30) dX8_patternColour_30 rfl (wlt hw (by decide)) (vp_in_nI (by omega) (by decide)) ?_
  refine ev_eqI (e' := h.2.1 10 ((zp * 16) + zc)) (by rw [show Int32.toNatClampNeg (nI ((zp * 16) + zc)) = (zp * 16) + zc from nI_clamp (by omega)] <;> rfl) ?_
  refine ev_eqI (e' := clC (zt.2 6 (16 * zp + zc))) (by rw [show zp * 16 + zc = 16 * zp + zc by omega]; exact hS.2.2.2.2.2 _ (by omega)) ?_
  refine ev_iret (pc := 31) dX8_patternColour_31 rfl ?_ ?_
  · rfl
  · exact ⟨rfl, rfl⟩
theorem lp_rows_3 (E : ME) (h : AH) (zt : PSt) (hw : WF h) (hS : STz zt 3 h) (hO : POK zt) {post : PO} (K : Ev E mX8_rows (rmm 0 0 0) (QM E 0 0 post) 0 0 33 [some (.ref 3), some (.int (nI (rwsN (zt.2 0) (zt.1 1)))), some (.int (nI (zt.1 1)))] [] h) : ∀ n i : Nat, i + n = (zt.1 1) → Ev E mX8_rows (rmm 0 0 0) (QM E 0 0 post) 0 0 4 [some (.ref 3), some (.int (nI (rwsN (zt.2 0) i))), some (.int (nI i))] [] h := by
  intro n
  induction n with
  | zero =>
    intro i hi
    obtain rfl : zt.1 1 = i := by omega
    refine ev_iload_n (pc := 4) dX8_rows_4 rfl ?_
    refine ev_aload_n (pc := 5) dX8_rows_5 rfl ?_
    refine ev_getI (pc := 6) dX8_rows_6 fX8_42 rfl (wlt hw (by decide)) ?_
    refine ev_eqI (e' := nI (zt.1 1)) hS.1 ?_
    refine ev_icmp_ge (pc := 9) (tgt := 33) dX8_rows_9 (by decide) (fun zc9 => ?_) (fun zc9 => absurd (nI_le (Nat.le_refl _) (by have := hO.1; omega)) zc9)
    exact K
  | succ n ih =>
    intro i hi
    have hlt : i < (zt.1 1) := by omega
    have zm12 := hO.1
    refine ev_iload_n (pc := 4) dX8_rows_4 rfl ?_
    refine ev_aload_n (pc := 5) dX8_rows_5 rfl ?_
    refine ev_getI (pc := 6) dX8_rows_6 fX8_42 rfl (wlt hw (by decide)) ?_
    refine ev_eqI (e' := nI (zt.1 1)) hS.1 ?_
    refine ev_icmp_ge (pc := 9) (tgt := 33) dX8_rows_9 (by decide) (fun zc9 => absurd zc9 (nI_ge hlt (by have := hO.1; omega))) (fun zc9 => ?_)
    refine ev_aload_n (pc := 12) dX8_rows_12 rfl ?_
    refine ev_getR (pc := 13) (q := 4) dX8_rows_13 fX8_9 rfl (wlt hw (by decide)) (wr hw rfl) ?_
    refine ev_iload_n (pc := 16) dX8_rows_16 rfl ?_
    refine ev_iald (pc := 17) dX8_rows_17 rfl (wlt hw (by decide)) (vp_in_nI (by omega) (by decide)) ?_
    refine ev_eqI (e' := h.2.1 4 i) (by rw [show Int32.toNatClampNeg (nI i) = i from nI_clamp (by omega)] <;> rfl) ?_
    refine ev_if_le (pc := 18) (tgt := 27) dX8_rows_18 (by decide) (fun zc18 => ?_) (fun zc18 => ?_)
    · -- le at 18: taken
      refine ev_iinc (pc := 27) (v := nI (i + 1)) (L' := [some (.ref 3), some (.int (nI (rwsN (zt.2 0) i))), some (.int (nI (i + 1)))]) dX8_rows_27 rfl (nI_1 _) (Nat.le_of_ble_eq_true rfl) rfl ?_
      refine ev_goto (pc := 30) (tgt := 4) dX8_rows_30 (by decide) ?_
      have z9 := hS.2.2.2.1 i hlt
      have zb := (hO.2.2.2.2.2.1 i hlt).1
      refine ev_eqL (L' := [some (.ref 3), some (.int (nI (rwsN (zt.2 0) (i + 1)))), some (.int (nI (i + 1)))]) (by rw [rwsN, ← (if_or32f (zx := rwsN (zt.2 0) i) (zn := i) (fun z => by rw [z9.1] at zc18; exact nI_nle z (by omega) zc18)), or_zero32]) ?_
      exact ih (i + 1) (by omega)
    · -- le at 18: not taken
      refine ev_iload_n (pc := 21) dX8_rows_21 rfl ?_
      refine ev_iconst (pc := 22) (v := 1) dX8_rows_22 (by decide) ?_
      refine ev_iload_n (pc := 23) dX8_rows_23 rfl ?_
      refine ev_ishl (pc := 24) dX8_rows_24 ?_
      refine ev_ior (pc := 25) dX8_rows_25 ?_
      refine ev_istore_n (pc := 26) (L' := [some (.ref 3), some (.int ((nI (rwsN (zt.2 0) i)) ||| (1 <<< ((nI i) &&& 31)))), some (.int (nI i))]) dX8_rows_26 (Nat.le_of_ble_eq_true rfl) rfl ?_
      refine ev_iinc (pc := 27) (v := nI (i + 1)) (L' := [some (.ref 3), some (.int ((nI (rwsN (zt.2 0) i)) ||| (1 <<< ((nI i) &&& 31)))), some (.int (nI (i + 1)))]) dX8_rows_27 rfl (nI_1 _) (Nat.le_of_ble_eq_true rfl) rfl ?_
      refine ev_goto (pc := 30) (tgt := 4) dX8_rows_30 (by decide) ?_
      have z9 := hS.2.2.2.1 i hlt
      have zb := (hO.2.2.2.2.2.1 i hlt).1
      refine ev_eqL (L' := [some (.ref 3), some (.int (nI (rwsN (zt.2 0) (i + 1)))), some (.int (nI (i + 1)))]) (by rw [rwsN, ← (if_or32t (zx := rwsN (zt.2 0) i) (zn := i) (by omega) (Nat.pos_of_ne_zero (fun z => zc18 (by rw [z9.1, z]; decide))))]) ?_
      exact ih (i + 1) (by omega)
theorem cn_X8_rows_3 (E : ME) (h : AH) (zt : PSt) (hw : WF h) (hS : STz zt 3 h) (hO : POK zt) : Con E mX8_rows 0 0 0 [.ref 3] h (fun r h' => r = some (.int (nI (rwsN (zt.2 0) (zt.1 1)))) ∧ h' = h) := by
  refine con_of2 (L := [some (.ref 3), none, none]) rfl (Nat.le_of_ble_eq_true rfl) rfl ?_
  refine ev_iconst (pc := 0) (v := 0) dX8_rows_0 (by decide) ?_
  refine ev_istore_n (pc := 1) (L' := [some (.ref 3), some (.int 0), none]) dX8_rows_1 (Nat.le_of_ble_eq_true rfl) rfl ?_
  refine ev_iconst (pc := 2) (v := 0) dX8_rows_2 (by decide) ?_
  refine ev_istore_n (pc := 3) (L' := [some (.ref 3), some (.int 0), some (.int 0)]) dX8_rows_3 (Nat.le_of_ble_eq_true rfl) rfl ?_
  refine lp_rows_3 E h zt hw hS hO ?_ (zt.1 1) 0 (Nat.zero_add _)
  refine ev_iload_n (pc := 33) dX8_rows_33 rfl ?_
  refine ev_iret (pc := 34) dX8_rows_34 rfl ?_ ?_
  · rfl
  · exact ⟨rfl, rfl⟩
theorem cn_X10_told_3 (E : ME) (h : AH) (zt : PSt) (zv : Int32) (hw : WF h) (hS : STz zt 3 h) (hO : POK zt) (hst : h.2.2.2 0 1 = some 3) : Con E mX10_told 2 0 0 [.ref 0, .int zv] h (fun r h' => r = some (.int (if zv = 0 then nI (zt.1 1) else if zv = 1 then nI (zt.1 2) else if zv = 2 then nI (zt.1 3) else if 0 ≤ zv - 10 ∧ zv - 10 ≤ 5 then nI (zt.2 4 (zv - 10).toNatClampNeg) else if 0 ≤ zv - 20 ∧ zv - 20 ≤ 5 then nI (zt.2 5 (zv - 20).toNatClampNeg) else -1)) ∧ h' = h) := by
  refine con_of2 (L := [some (.ref 0), some (.int zv)]) rfl (Nat.le_of_ble_eq_true rfl) rfl ?_
  refine ev_iload_n (pc := 0) dX10_told_0 rfl ?_
  refine ev_nmI (fun zsv ezsv => ?_)
  by_cases zq0 : zsv = 0
  · subst zq0
    refine ev_tabIn (pc := 1) (off := 27) (tgt := 28) dX10_told_1 (by decide) (by decide) (by decide +kernel) (by decide) ?_
    refine ev_aload_n (pc := 28) dX10_told_28 rfl ?_
    refine ev_getR (pc := 29) (q := 3) dX10_told_29 fX10_19 rfl (wlt hw (by decide)) hst ?_
    refine ev_callVv (S := []) (pc := 32) dX10_told_32 kX8_things lX10_114 vX8_things (cn_X8_things_3 E h zt hw hS hO) rfl rfl (wlt hw (by decide)) rfl rfl (Nat.le_of_ble_eq_true rfl) ⟨Nat.le_of_ble_eq_true rfl, Nat.le_of_ble_eq_true rfl⟩ ⟨Nat.le_of_ble_eq_true rfl, Nat.le_of_ble_eq_true rfl⟩ ?_
    refine ev_iret (pc := 35) dX10_told_35 rfl ?_ ?_
    · rfl
    · refine ⟨?_, rfl⟩
      subst ezsv
      rfl
  by_cases zq1 : zsv = 1
  · subst zq1
    refine ev_tabIn (pc := 1) (off := 35) (tgt := 36) dX10_told_1 (by decide) (by decide) (by decide +kernel) (by decide) ?_
    refine ev_aload_n (pc := 36) dX10_told_36 rfl ?_
    refine ev_getR (pc := 37) (q := 3) dX10_told_37 fX10_19 rfl (wlt hw (by decide)) hst ?_
    refine ev_callVv (S := []) (pc := 40) dX10_told_40 kX8_patterns lX10_117 vX8_patterns (cn_X8_patterns_3 E h zt hw hS hO) rfl rfl (wlt hw (by decide)) rfl rfl (Nat.le_of_ble_eq_true rfl) ⟨Nat.le_of_ble_eq_true rfl, Nat.le_of_ble_eq_true rfl⟩ ⟨Nat.le_of_ble_eq_true rfl, Nat.le_of_ble_eq_true rfl⟩ ?_
    refine ev_iret (pc := 43) dX10_told_43 rfl ?_ ?_
    · rfl
    · refine ⟨?_, rfl⟩
      subst ezsv
      rfl
  by_cases zq2 : zsv = 2
  · subst zq2
    refine ev_tabIn (pc := 1) (off := 43) (tgt := 44) dX10_told_1 (by decide) (by decide) (by decide +kernel) (by decide) ?_
    refine ev_aload_n (pc := 44) dX10_told_44 rfl ?_
    refine ev_getR (pc := 45) (q := 3) dX10_told_45 fX10_19 rfl (wlt hw (by decide)) hst ?_
    refine ev_callVv (S := []) (pc := 48) dX10_told_48 kX8_apart lX10_120 vX8_apart (cn_X8_apart_3 E h zt hw hS hO) rfl rfl (wlt hw (by decide)) rfl rfl (Nat.le_of_ble_eq_true rfl) ⟨Nat.le_of_ble_eq_true rfl, Nat.le_of_ble_eq_true rfl⟩ ⟨Nat.le_of_ble_eq_true rfl, Nat.le_of_ble_eq_true rfl⟩ ?_
    refine ev_iret (pc := 51) dX10_told_51 rfl ?_ ?_
    · rfl
    · refine ⟨?_, rfl⟩
      subst ezsv
      rfl
  have zhout : zsv.toInt < 0 ∨ 2 < zsv.toInt := by
    have nzq0 := i32_ne zq0
    have nzq1 := i32_ne zq1
    have nzq2 := i32_ne zq2
    replace nzq0 : ¬ zsv.toInt = 0 := nzq0
    replace nzq1 : ¬ zsv.toInt = 1 := nzq1
    replace nzq2 : ¬ zsv.toInt = 2 := nzq2
    omega
  refine ev_tabOut (pc := 1) (tgt := 52) dX10_told_1 zhout (by decide) ?_
  refine ev_iload_n (pc := 52) dX10_told_52 rfl ?_
  refine ev_bipush (pc := 53) (v := 10) dX10_told_53 (by decide) ?_
  refine ev_bipush (pc := 55) (v := 15) dX10_told_55 (by decide) ?_
  refine ev_callSv (S := []) (pc := 57) dX10_told_57 kX10_within lX10_123 sX10_within (cn_X10_within E h zv 10 15) rfl rfl (Nat.le_of_ble_eq_true rfl) ⟨Nat.le_of_ble_eq_true rfl, Nat.le_of_ble_eq_true rfl⟩ ⟨Nat.le_of_ble_eq_true rfl, Nat.le_of_ble_eq_true rfl⟩ ?_
  refine ev_if_eq (pc := 60) (tgt := 75) dX10_told_60 (by decide) (fun zc60 => ?_) (fun zc60 => ?_)
  · -- eq at 60: taken
    refine ev_iload_n (pc := 75) dX10_told_75 rfl ?_
    refine ev_bipush (pc := 76) (v := 20) dX10_told_76 (by decide) ?_
    refine ev_bipush (pc := 78) (v := 25) dX10_told_78 (by decide) ?_
    refine ev_callSv (S := []) (pc := 80) dX10_told_80 kX10_within lX10_123 sX10_within (cn_X10_within E h zv 20 25) rfl rfl (Nat.le_of_ble_eq_true rfl) ⟨Nat.le_of_ble_eq_true rfl, Nat.le_of_ble_eq_true rfl⟩ ⟨Nat.le_of_ble_eq_true rfl, Nat.le_of_ble_eq_true rfl⟩ ?_
    refine ev_if_eq (pc := 83) (tgt := 100) dX10_told_83 (by decide) (fun zc83 => ?_) (fun zc83 => ?_)
    · -- eq at 83: taken
      refine ev_iconst (pc := 100) (v := (-1)) dX10_told_100 (by decide) ?_
      refine ev_iret (pc := 101) dX10_told_101 rfl ?_ ?_
      · rfl
      · refine ⟨?_, rfl⟩
        have z1 : ¬ (0 ≤ zv - 10 ∧ zv - 10 ≤ 5) := fun z => bI_0.mp zc60 ((tl_10 (zv := zv) (za := 10) (by decide)).mpr z)
        have z2 : ¬ (0 ≤ zv - 20 ∧ zv - 20 ≤ 5) := fun z => bI_0.mp zc83 ((tl_10 (zv := zv) (za := 20) (by decide)).mpr z)
        rw [ezsv] at *
        rw [if_neg zq0, if_neg zq1, if_neg zq2, if_neg z1, if_neg z2]
    · -- eq at 83: not taken
      refine ev_aload_n (pc := 86) dX10_told_86 rfl ?_
      refine ev_getR (pc := 87) (q := 3) dX10_told_87 fX10_19 rfl (wlt hw (by decide)) hst ?_
      refine ev_iload_n (pc := 90) dX10_told_90 rfl ?_
      refine ev_bipush (pc := 91) (v := 20) dX10_told_91 (by decide) ?_
      refine ev_isub (pc := 93) dX10_told_93 ?_
      refine ev_callVv (S := []) (pc := 94) dX10_told_94 kX8_dailyOf lX10_131 vX8_dailyOf (cn_X8_dailyOf_3 E h zt (zv - 20) hw hS hO) rfl rfl (wlt hw (by decide)) rfl rfl (Nat.le_of_ble_eq_true rfl) ⟨Nat.le_of_ble_eq_true rfl, Nat.le_of_ble_eq_true rfl⟩ ⟨Nat.le_of_ble_eq_true rfl, Nat.le_of_ble_eq_true rfl⟩ ?_
      refine ev_goto (pc := 97) (tgt := 101) dX10_told_97 (by decide) ?_
      refine ev_iret (pc := 101) dX10_told_101 rfl ?_ ?_
      · rfl
      · refine ⟨?_, rfl⟩
        have z1 : ¬ (0 ≤ zv - 10 ∧ zv - 10 ≤ 5) := fun z => bI_0.mp zc60 ((tl_10 (zv := zv) (za := 10) (by decide)).mpr z)
        have z2 := (tl_10 (zv := zv) (za := 20) (by decide)).mp (bI_n0.mp zc83)
        rw [ezsv] at *
        rw [if_neg zq0, if_neg zq1, if_neg zq2, if_neg z1, if_pos z2, if_pos z2]
  · -- eq at 60: not taken
    refine ev_aload_n (pc := 63) dX10_told_63 rfl ?_
    refine ev_getR (pc := 64) (q := 3) dX10_told_64 fX10_19 rfl (wlt hw (by decide)) hst ?_
    refine ev_iload_n (pc := 67) dX10_told_67 rfl ?_
    refine ev_bipush (pc := 68) (v := 10) dX10_told_68 (by decide) ?_
    refine ev_isub (pc := 70) dX10_told_70 ?_
    refine ev_callVv (S := []) (pc := 71) dX10_told_71 kX8_priceOf lX10_127 vX8_priceOf (cn_X8_priceOf_3 E h zt (zv - 10) hw hS hO) rfl rfl (wlt hw (by decide)) rfl rfl (Nat.le_of_ble_eq_true rfl) ⟨Nat.le_of_ble_eq_true rfl, Nat.le_of_ble_eq_true rfl⟩ ⟨Nat.le_of_ble_eq_true rfl, Nat.le_of_ble_eq_true rfl⟩ ?_
    refine ev_iret (pc := 74) dX10_told_74 rfl ?_ ?_
    · rfl
    · refine ⟨?_, rfl⟩
      have z1 := (tl_10 (zv := zv) (za := 10) (by decide)).mp (bI_n0.mp zc60)
      rw [ezsv] at *
      rw [if_neg zq0, if_neg zq1, if_neg zq2, if_pos z1, if_pos z1]
theorem cn_X10_pattern_3 (E : ME) (h : AH) (zt : PSt) (zp0 zw0 ze0 : Int32) (hw : WF h) (hS : STz zt 3 h) (hO : POK zt) (hst : h.2.2.2 0 1 = some 3) : Con E mX10_pattern 3 0 0 [.ref 0, .int zp0, .int zw0, .int ze0] h (fun r h' => r = some (.int (if ptg zt zp0 ∧ (0 ≤ zw0 ∧ zw0 ≤ 7) ∧ (0 ≤ ze0 ∧ ze0 ≤ 15) then clV (zt.2 6 (16 * zp0.toNatClampNeg + srN 4 zw0.toNatClampNeg ze0.toNatClampNeg)) else -1)) ∧ h' = h) := by
  refine con_of2 (L := [some (.ref 0), some (.int zp0), some (.int zw0), some (.int ze0), none]) rfl (Nat.le_of_ble_eq_true rfl) rfl ?_
  refine ev_aload_n (pc := 0) dX10_pattern_0 rfl ?_
  refine ev_getR (pc := 1) (q := 3) dX10_pattern_1 fX10_19 rfl (wlt hw (by decide)) hst ?_
  refine ev_iload_n (pc := 4) dX10_pattern_4 rfl ?_
  refine ev_callVv (S := []) (pc := 5) dX10_pattern_5 kX8_hasPattern lX10_149 vX8_hasPattern (cn_X8_hasPattern_3 E h zt zp0 hw hS hO) rfl rfl (wlt hw (by decide)) rfl rfl (Nat.le_of_ble_eq_true rfl) ⟨Nat.le_of_ble_eq_true rfl, Nat.le_of_ble_eq_true rfl⟩ ⟨Nat.le_of_ble_eq_true rfl, Nat.le_of_ble_eq_true rfl⟩ ?_
  refine ev_if_eq (pc := 8) (tgt := 31) dX10_pattern_8 (by decide) (fun zc8 => ?_) (fun zc8 => ?_)
  · -- eq at 8: taken
    refine ev_iconst (pc := 31) (v := (-1)) dX10_pattern_31 (by decide) ?_
    refine ev_iret (pc := 32) dX10_pattern_32 rfl ?_ ?_
    · rfl
    · refine ⟨?_, rfl⟩
      rw [if_neg (show ¬ (ptg zt zp0 ∧ (0 ≤ zw0 ∧ zw0 ≤ 7) ∧ (0 ≤ ze0 ∧ ze0 ≤ 15)) from fun z => bI_0.mp zc8 z.1)]
  · -- eq at 8: not taken
    refine ev_iload_n (pc := 11) dX10_pattern_11 rfl ?_
    refine ev_iconst (pc := 12) (v := 0) dX10_pattern_12 (by decide) ?_
    refine ev_bipush (pc := 13) (v := 7) dX10_pattern_13 (by decide) ?_
    refine ev_callSv (S := []) (pc := 15) dX10_pattern_15 kX10_within lX10_123 sX10_within (cn_X10_within E h zw0 0 7) rfl rfl (Nat.le_of_ble_eq_true rfl) ⟨Nat.le_of_ble_eq_true rfl, Nat.le_of_ble_eq_true rfl⟩ ⟨Nat.le_of_ble_eq_true rfl, Nat.le_of_ble_eq_true rfl⟩ ?_
    refine ev_if_eq (pc := 18) (tgt := 31) dX10_pattern_18 (by decide) (fun zc18 => ?_) (fun zc18 => ?_)
    · -- eq at 18: taken
      refine ev_iconst (pc := 31) (v := (-1)) dX10_pattern_31 (by decide) ?_
      refine ev_iret (pc := 32) dX10_pattern_32 rfl ?_ ?_
      · rfl
      · refine ⟨?_, rfl⟩
        rw [if_neg (show ¬ (ptg zt zp0 ∧ (0 ≤ zw0 ∧ zw0 ≤ 7) ∧ (0 ≤ ze0 ∧ ze0 ≤ 15)) from fun z => bI_0.mp zc18 z.2.1)]
    · -- eq at 18: not taken
      refine ev_iload_n (pc := 21) dX10_pattern_21 rfl ?_
      refine ev_iconst (pc := 22) (v := 0) dX10_pattern_22 (by decide) ?_
      refine ev_bipush (pc := 23) (v := 15) dX10_pattern_23 (by decide) ?_
      refine ev_callSv (S := []) (pc := 25) dX10_pattern_25 kX10_within lX10_123 sX10_within (cn_X10_within E h ze0 0 15) rfl rfl (Nat.le_of_ble_eq_true rfl) ⟨Nat.le_of_ble_eq_true rfl, Nat.le_of_ble_eq_true rfl⟩ ⟨Nat.le_of_ble_eq_true rfl, Nat.le_of_ble_eq_true rfl⟩ ?_
      refine ev_if_ne (pc := 28) (tgt := 33) dX10_pattern_28 (by decide) (fun zc28 => ?_) (fun zc28 => ?_)
      · -- ne at 28: taken
        obtain ⟨zp, hzp, rfl⟩ := th_nat (bI_n0.mp zc8) (by have := hO.2.1; omega : zt.1 2 ≤ 4096)
        obtain ⟨zw, hzw, rfl⟩ := vp_in_of (vp_sm (N := 8) (bI_n0.mp zc18).1 (bI_n0.mp zc18).2 (by decide) (by decide)) (by decide)
        obtain ⟨ze, hze, rfl⟩ := vp_in_of (vp_sm (N := 16) (bI_n0.mp zc28).1 (bI_n0.mp zc28).2 (by decide) (by decide)) (by decide)
        have zb4 := hO.2.1
        have zsr := (sr4 zw hzw ze hze).2
        refine ev_aload_n (pc := 33) dX10_pattern_33 rfl ?_
        refine ev_getR (pc := 34) (q := 3) dX10_pattern_34 fX10_19 rfl (wlt hw (by decide)) hst ?_
        refine ev_iload_n (pc := 37) dX10_pattern_37 rfl ?_
        refine ev_iload_n (pc := 38) dX10_pattern_38 rfl ?_
        refine ev_iload_n (pc := 39) dX10_pattern_39 rfl ?_
        refine ev_iconst (pc := 40) (v := 4) dX10_pattern_40 (by decide) ?_
        refine ev_callSv (S := [.int (nI zp), .ref 3]) (pc := 41) dX10_pattern_41 kX10_source lX10_152 sX10_source (cn_X10_src4 E h zw ze hw (by omega) (by omega)) rfl rfl (Nat.le_of_ble_eq_true rfl) ⟨Nat.le_of_ble_eq_true rfl, Nat.le_of_ble_eq_true rfl⟩ ⟨Nat.le_of_ble_eq_true rfl, Nat.le_of_ble_eq_true rfl⟩ ?_
        refine ev_callVv (S := []) (pc := 44) dX10_pattern_44 kX8_patternColour lX10_156 vX8_patternColour (cn_X8_patternColour_3 E h zt zp (srN 4 zw ze) hw hS hO hzp zsr) rfl rfl (wlt hw (by decide)) rfl rfl (Nat.le_of_ble_eq_true rfl) ⟨Nat.le_of_ble_eq_true rfl, Nat.le_of_ble_eq_true rfl⟩ ⟨Nat.le_of_ble_eq_true rfl, Nat.le_of_ble_eq_true rfl⟩ ?_
        refine ev_istore (pc := 47) (L' := [some (.ref 0), some (.int (nI zp)), some (.int (nI zw)), some (.int (nI ze)), some (.int (clC (zt.2 6 (16 * zp + srN 4 zw ze))))]) dX10_pattern_47 (Nat.le_of_ble_eq_true rfl) rfl ?_
        refine ev_iload (pc := 49) dX10_pattern_49 rfl ?_
        refine ev_if_ge (pc := 51) (tgt := 59) dX10_pattern_51 (by decide) (fun zc51 => ?_) (fun zc51 => ?_)
        · -- ge at 51: taken
          refine ev_iload (pc := 59) dX10_pattern_59 rfl ?_
          refine ev_iret (pc := 61) dX10_pattern_61 rfl ?_ ?_
          · rfl
          · refine ⟨?_, rfl⟩
            rw [if_pos (show ptg zt (nI zp) ∧ (0 ≤ (nI zw) ∧ (nI zw) ≤ 7) ∧ (0 ≤ (nI ze) ∧ (nI ze) ≤ 15) from ⟨bI_n0.mp zc8, bI_n0.mp zc18, bI_n0.mp zc28⟩), nI_clamp (n := zp) (by omega), nI_clamp (n := zw) (by omega), nI_clamp (n := ze) (by omega)]
            have z6 := hO.2.2.2.2.2.2.2 (16 * zp + srN 4 zw ze) (by omega)
            rw [(cl_ge z6).1.mp zc51]
        · -- ge at 51: not taken
          refine ev_bipush (pc := 54) (v := (-4)) dX10_pattern_54 (by decide) ?_
          refine ev_goto (pc := 56) (tgt := 61) dX10_pattern_56 (by decide) ?_
          refine ev_iret (pc := 61) dX10_pattern_61 rfl ?_ ?_
          · rfl
          · refine ⟨?_, rfl⟩
            rw [if_pos (show ptg zt (nI zp) ∧ (0 ≤ (nI zw) ∧ (nI zw) ≤ 7) ∧ (0 ≤ (nI ze) ∧ (nI ze) ≤ 15) from ⟨bI_n0.mp zc8, bI_n0.mp zc18, bI_n0.mp zc28⟩), nI_clamp (n := zp) (by omega), nI_clamp (n := zw) (by omega), nI_clamp (n := ze) (by omega)]
            have z6 := hO.2.2.2.2.2.2.2 (16 * zp + srN 4 zw ze) (by omega)
            rw [(cl_ge z6).2 zc51]
      · -- ne at 28: not taken
        refine ev_iconst (pc := 31) (v := (-1)) dX10_pattern_31 (by decide) ?_
        refine ev_iret (pc := 32) dX10_pattern_32 rfl ?_ ?_
        · rfl
        · refine ⟨?_, rfl⟩
          rw [if_neg (show ¬ (ptg zt zp0 ∧ (0 ≤ zw0 ∧ zw0 ≤ 7) ∧ (0 ≤ ze0 ∧ ze0 ≤ 15)) from fun z => bI_0.mp zc28 z.2.2)]
theorem cn_X8_things_11 (E : ME) (h : AH) (zt : PSt) (hw : WF h) (hS : STz zt 11 h) (hO : POK zt) : Con E mX8_things 0 0 0 [.ref 11] h (fun r h' => r = some (.int (nI (zt.1 1))) ∧ h' = h) := by
  refine con_of2 (L := [some (.ref 11)]) rfl (Nat.le_of_ble_eq_true rfl) rfl ?_
  refine ev_aload_n (pc := 0) dX8_things_0 rfl ?_
  refine ev_getI (pc := 1) dX8_things_1 fX8_42 rfl (wlt hw (by decide)) ?_
  refine ev_eqI (e' := nI (zt.1 1)) hS.1 ?_
  refine ev_iret (pc := 4) dX8_things_4 rfl ?_ ?_
  · rfl
  · exact ⟨rfl, rfl⟩
theorem cn_X8_patterns_11 (E : ME) (h : AH) (zt : PSt) (hw : WF h) (hS : STz zt 11 h) (hO : POK zt) : Con E mX8_patterns 0 0 0 [.ref 11] h (fun r h' => r = some (.int (nI (zt.1 2))) ∧ h' = h) := by
  refine con_of2 (L := [some (.ref 11)]) rfl (Nat.le_of_ble_eq_true rfl) rfl ?_
  refine ev_aload_n (pc := 0) dX8_patterns_0 rfl ?_
  refine ev_getI (pc := 1) dX8_patterns_1 fX8_46 rfl (wlt hw (by decide)) ?_
  refine ev_eqI (e' := nI (zt.1 2)) hS.2.1 ?_
  refine ev_iret (pc := 4) dX8_patterns_4 rfl ?_ ?_
  · rfl
  · exact ⟨rfl, rfl⟩
theorem cn_X8_apart_11 (E : ME) (h : AH) (zt : PSt) (hw : WF h) (hS : STz zt 11 h) (hO : POK zt) : Con E mX8_apart 0 0 0 [.ref 11] h (fun r h' => r = some (.int (nI (zt.1 3))) ∧ h' = h) := by
  refine con_of2 (L := [some (.ref 11)]) rfl (Nat.le_of_ble_eq_true rfl) rfl ?_
  refine ev_aload_n (pc := 0) dX8_apart_0 rfl ?_
  refine ev_getI (pc := 1) dX8_apart_1 fX8_49 rfl (wlt hw (by decide)) ?_
  refine ev_eqI (e' := nI (zt.1 3)) hS.2.2.1 ?_
  refine ev_iret (pc := 4) dX8_apart_4 rfl ?_ ?_
  · rfl
  · exact ⟨rfl, rfl⟩
theorem cn_X8_hasThing_11 (E : ME) (h : AH) (zt : PSt) (zi : Int32) (hw : WF h) (hS : STz zt 11 h) (hO : POK zt) : Con E mX8_hasThing 1 0 0 [.ref 11, .int zi] h (fun r h' => r = some (.int (bI (thg zt zi))) ∧ h' = h) := by
  refine con_of2 (L := [some (.ref 11), some (.int zi)]) rfl (Nat.le_of_ble_eq_true rfl) rfl ?_
  refine ev_iload_n (pc := 0) dX8_hasThing_0 rfl ?_
  refine ev_iconst (pc := 1) (v := 0) dX8_hasThing_1 (by decide) ?_
  refine ev_aload_n (pc := 2) dX8_hasThing_2 rfl ?_
  refine ev_getI (pc := 3) dX8_hasThing_3 fX8_42 rfl (wlt hw (by decide)) ?_
  refine ev_eqI (e' := nI (zt.1 1)) hS.1 ?_
  refine ev_iconst (pc := 6) (v := 1) dX8_hasThing_6 (by decide) ?_
  refine ev_isub (pc := 7) dX8_hasThing_7 ?_
  refine ev_callSv (S := []) (pc := 8) dX8_hasThing_8 kX10_within lX8_59 sX10_within (cn_X10_within E h zi 0 ((nI (zt.1 1)) - 1)) rfl rfl (Nat.le_of_ble_eq_true rfl) ⟨Nat.le_of_ble_eq_true rfl, Nat.le_of_ble_eq_true rfl⟩ ⟨Nat.le_of_ble_eq_true rfl, Nat.le_of_ble_eq_true rfl⟩ ?_
  refine ev_iret (pc := 11) dX8_hasThing_11 rfl ?_ ?_
  · first | rfl | exact nar_bI _ | (simp only [*]; exact nar_bI _) | (simp [narrow, *]; done)
  · exact ⟨rfl, rfl⟩
theorem cn_X8_hasPattern_11 (E : ME) (h : AH) (zt : PSt) (zi : Int32) (hw : WF h) (hS : STz zt 11 h) (hO : POK zt) : Con E mX8_hasPattern 1 0 0 [.ref 11, .int zi] h (fun r h' => r = some (.int (bI (ptg zt zi))) ∧ h' = h) := by
  refine con_of2 (L := [some (.ref 11), some (.int zi)]) rfl (Nat.le_of_ble_eq_true rfl) rfl ?_
  refine ev_iload_n (pc := 0) dX8_hasPattern_0 rfl ?_
  refine ev_iconst (pc := 1) (v := 0) dX8_hasPattern_1 (by decide) ?_
  refine ev_aload_n (pc := 2) dX8_hasPattern_2 rfl ?_
  refine ev_getI (pc := 3) dX8_hasPattern_3 fX8_46 rfl (wlt hw (by decide)) ?_
  refine ev_eqI (e' := nI (zt.1 2)) hS.2.1 ?_
  refine ev_iconst (pc := 6) (v := 1) dX8_hasPattern_6 (by decide) ?_
  refine ev_isub (pc := 7) dX8_hasPattern_7 ?_
  refine ev_callSv (S := []) (pc := 8) dX8_hasPattern_8 kX10_within lX8_59 sX10_within (cn_X10_within E h zi 0 ((nI (zt.1 2)) - 1)) rfl rfl (Nat.le_of_ble_eq_true rfl) ⟨Nat.le_of_ble_eq_true rfl, Nat.le_of_ble_eq_true rfl⟩ ⟨Nat.le_of_ble_eq_true rfl, Nat.le_of_ble_eq_true rfl⟩ ?_
  refine ev_iret (pc := 11) dX8_hasPattern_11 rfl ?_ ?_
  · first | rfl | exact nar_bI _ | (simp only [*]; exact nar_bI _) | (simp [narrow, *]; done)
  · exact ⟨rfl, rfl⟩
theorem cn_X8_isRow_11 (E : ME) (h : AH) (zt : PSt) (zi0 : Int32) (hw : WF h) (hS : STz zt 11 h) (hO : POK zt) : Con E mX8_isRow 2 0 0 [.ref 11, .int zi0] h (fun r h' => r = some (.int (bI (rwg zt zi0))) ∧ h' = h) := by
  refine con_of2 (L := [some (.ref 11), some (.int zi0)]) rfl (Nat.le_of_ble_eq_true rfl) rfl ?_
  refine ev_aload_n (pc := 0) dX8_isRow_0 rfl ?_
  refine ev_iload_n (pc := 1) dX8_isRow_1 rfl ?_
  refine ev_callVv (S := []) (pc := 2) dX8_isRow_2 kX8_hasThing lX8_63 vX8_hasThing (cn_X8_hasThing_11 E h zt zi0 hw hS hO) rfl rfl (wlt hw (by decide)) rfl rfl (Nat.le_of_ble_eq_true rfl) ⟨Nat.le_of_ble_eq_true rfl, Nat.le_of_ble_eq_true rfl⟩ ⟨Nat.le_of_ble_eq_true rfl, Nat.le_of_ble_eq_true rfl⟩ ?_
  refine ev_if_eq (pc := 5) (tgt := 21) dX8_isRow_5 (by decide) (fun zc5 => ?_) (fun zc5 => ?_)
  · -- eq at 5: taken
    refine ev_iconst (pc := 21) (v := 0) dX8_isRow_21 (by decide) ?_
    refine ev_iret (pc := 22) dX8_isRow_22 rfl ?_ ?_
    · first | rfl | exact nar_bI _ | (simp only [*]; exact nar_bI _) | (simp [narrow, *]; done)
    · refine ⟨?_, rfl⟩
      rw [bI_f (fun z => bI_0.mp zc5 z.1)]
  · -- eq at 5: not taken
    obtain ⟨zi, hi, rfl⟩ := th_nat (bI_n0.mp zc5) (by have := hO.1; omega : zt.1 1 ≤ 4096)
    have zm12 := hO.1
    have z9 := hS.2.2.2.1 zi hi
    refine ev_aload_n (pc := 8) dX8_isRow_8 rfl ?_
    refine ev_getR (pc := 9) (q := 12) dX8_isRow_9 fX8_9 rfl (wlt hw (by decide)) (wr hw rfl) ?_
    refine ev_iload_n (pc := 12) dX8_isRow_12 rfl ?_
    refine ev_iald (pc := 13) dX8_isRow_13 rfl (wlt hw (by decide)) (vp_in_nI (by omega) (by decide)) ?_
    refine ev_eqI (e' := h.2.1 12 zi) (by rw [show Int32.toNatClampNeg (nI zi) = zi from nI_clamp (by omega)] <;> rfl) ?_
    refine ev_eqI (e' := nI (zt.2 0 zi)) z9.1 ?_
    refine ev_if_le (pc := 14) (tgt := 21) dX8_isRow_14 (by decide) (fun zc14 => ?_) (fun zc14 => ?_)
    · -- le at 14: taken
      refine ev_iconst (pc := 21) (v := 0) dX8_isRow_21 (by decide) ?_
      refine ev_iret (pc := 22) dX8_isRow_22 rfl ?_ ?_
      · first | rfl | exact nar_bI _ | (simp only [*]; exact nar_bI _) | (simp [narrow, *]; done)
      · refine ⟨?_, rfl⟩
        have zb := (hO.2.2.2.2.2.1 zi hi).1
        rw [bI_f (fun z => by have z2 := z.2; rw [nI_clamp (by omega)] at z2; exact nI_nle z2 (by omega) zc14)]
    · -- le at 14: not taken
      refine ev_iconst (pc := 17) (v := 1) dX8_isRow_17 (by decide) ?_
      refine ev_goto (pc := 18) (tgt := 22) dX8_isRow_18 (by decide) ?_
      refine ev_iret (pc := 22) dX8_isRow_22 rfl ?_ ?_
      · first | rfl | exact nar_bI _ | (simp only [*]; exact nar_bI _) | (simp [narrow, *]; done)
      · refine ⟨?_, rfl⟩
        have zb := (hO.2.2.2.2.2.1 zi hi).1
        rw [bI_t ⟨bI_n0.mp zc5, by rw [nI_clamp (by omega)]; exact Nat.pos_of_ne_zero (fun z => zc14 (by rw [z]; decide))⟩]
theorem cn_X8_cubesOf_11 (E : ME) (h : AH) (zt : PSt) (zi0 : Int32) (hw : WF h) (hS : STz zt 11 h) (hO : POK zt) : Con E mX8_cubesOf 2 0 0 [.ref 11, .int zi0] h (fun r h' => r = some (.int (if thg zt zi0 then nI (zt.2 0 zi0.toNatClampNeg) else 0)) ∧ h' = h) := by
  refine con_of2 (L := [some (.ref 11), some (.int zi0)]) rfl (Nat.le_of_ble_eq_true rfl) rfl ?_
  refine ev_aload_n (pc := 0) dX8_cubesOf_0 rfl ?_
  refine ev_iload_n (pc := 1) dX8_cubesOf_1 rfl ?_
  refine ev_callVv (S := []) (pc := 2) dX8_cubesOf_2 kX8_hasThing lX8_63 vX8_hasThing (cn_X8_hasThing_11 E h zt zi0 hw hS hO) rfl rfl (wlt hw (by decide)) rfl rfl (Nat.le_of_ble_eq_true rfl) ⟨Nat.le_of_ble_eq_true rfl, Nat.le_of_ble_eq_true rfl⟩ ⟨Nat.le_of_ble_eq_true rfl, Nat.le_of_ble_eq_true rfl⟩ ?_
  refine ev_if_eq (pc := 5) (tgt := 17) dX8_cubesOf_5 (by decide) (fun zc5 => ?_) (fun zc5 => ?_)
  · -- eq at 5: taken
    refine ev_iconst (pc := 17) (v := 0) dX8_cubesOf_17 (by decide) ?_
    refine ev_iret (pc := 18) dX8_cubesOf_18 rfl ?_ ?_
    · rfl
    · refine ⟨?_, rfl⟩
      rw [if_neg (bI_0.mp zc5)]
  · -- eq at 5: not taken
    obtain ⟨zi, hi, rfl⟩ := th_nat (bI_n0.mp zc5) (by have := hO.1; omega : zt.1 1 ≤ 4096)
    have zm12 := hO.1
    have z9 := hS.2.2.2.1 zi hi
    refine ev_aload_n (pc := 8) dX8_cubesOf_8 rfl ?_
    refine ev_getR (pc := 9) (q := 12) dX8_cubesOf_9 fX8_9 rfl (wlt hw (by decide)) (wr hw rfl) ?_
    refine ev_iload_n (pc := 12) dX8_cubesOf_12 rfl ?_
    refine ev_iald (pc := 13) dX8_cubesOf_13 rfl (wlt hw (by decide)) (vp_in_nI (by omega) (by decide)) ?_
    refine ev_eqI (e' := h.2.1 12 zi) (by rw [show Int32.toNatClampNeg (nI zi) = zi from nI_clamp (by omega)] <;> rfl) ?_
    refine ev_eqI (e' := nI (zt.2 0 zi)) z9.1 ?_
    refine ev_goto (pc := 14) (tgt := 18) dX8_cubesOf_14 (by decide) ?_
    refine ev_iret (pc := 18) dX8_cubesOf_18 rfl ?_ ?_
    · rfl
    · refine ⟨?_, rfl⟩
      rw [if_pos (bI_n0.mp zc5), nI_clamp (by omega)]
theorem cn_X8_lengthOf_11 (E : ME) (h : AH) (zt : PSt) (zi0 : Int32) (hw : WF h) (hS : STz zt 11 h) (hO : POK zt) : Con E mX8_lengthOf 2 0 0 [.ref 11, .int zi0] h (fun r h' => r = some (.int (if thg zt zi0 then nI (zt.2 1 zi0.toNatClampNeg) else 0)) ∧ h' = h) := by
  refine con_of2 (L := [some (.ref 11), some (.int zi0)]) rfl (Nat.le_of_ble_eq_true rfl) rfl ?_
  refine ev_aload_n (pc := 0) dX8_lengthOf_0 rfl ?_
  refine ev_iload_n (pc := 1) dX8_lengthOf_1 rfl ?_
  refine ev_callVv (S := []) (pc := 2) dX8_lengthOf_2 kX8_hasThing lX8_63 vX8_hasThing (cn_X8_hasThing_11 E h zt zi0 hw hS hO) rfl rfl (wlt hw (by decide)) rfl rfl (Nat.le_of_ble_eq_true rfl) ⟨Nat.le_of_ble_eq_true rfl, Nat.le_of_ble_eq_true rfl⟩ ⟨Nat.le_of_ble_eq_true rfl, Nat.le_of_ble_eq_true rfl⟩ ?_
  refine ev_if_eq (pc := 5) (tgt := 17) dX8_lengthOf_5 (by decide) (fun zc5 => ?_) (fun zc5 => ?_)
  · -- eq at 5: taken
    refine ev_iconst (pc := 17) (v := 0) dX8_lengthOf_17 (by decide) ?_
    refine ev_iret (pc := 18) dX8_lengthOf_18 rfl ?_ ?_
    · rfl
    · refine ⟨?_, rfl⟩
      rw [if_neg (bI_0.mp zc5)]
  · -- eq at 5: not taken
    obtain ⟨zi, hi, rfl⟩ := th_nat (bI_n0.mp zc5) (by have := hO.1; omega : zt.1 1 ≤ 4096)
    have zm12 := hO.1
    have z9 := hS.2.2.2.1 zi hi
    refine ev_aload_n (pc := 8) dX8_lengthOf_8 rfl ?_
    refine ev_getR (pc := 9) (q := 13) dX8_lengthOf_9 fX8_15 rfl (wlt hw (by decide)) (wr hw rfl) ?_
    refine ev_iload_n (pc := 12) dX8_lengthOf_12 rfl ?_
    refine ev_iald (pc := 13) dX8_lengthOf_13 rfl (wlt hw (by decide)) (vp_in_nI (by omega) (by decide)) ?_
    refine ev_eqI (e' := h.2.1 13 zi) (by rw [show Int32.toNatClampNeg (nI zi) = zi from nI_clamp (by omega)] <;> rfl) ?_
    refine ev_eqI (e' := nI (zt.2 1 zi)) z9.2.1 ?_
    refine ev_goto (pc := 14) (tgt := 18) dX8_lengthOf_14 (by decide) ?_
    refine ev_iret (pc := 18) dX8_lengthOf_18 rfl ?_ ?_
    · rfl
    · refine ⟨?_, rfl⟩
      rw [if_pos (bI_n0.mp zc5), nI_clamp (by omega)]
theorem cn_X8_laterThan_11 (E : ME) (h : AH) (zt : PSt) (zi0 : Int32) (hw : WF h) (hS : STz zt 11 h) (hO : POK zt) : Con E mX8_laterThan 2 0 0 [.ref 11, .int zi0] h (fun r h' => r = some (.int (if thg zt zi0 then nI (zt.2 2 zi0.toNatClampNeg ||| zt.2 3 zi0.toNatClampNeg) else 0)) ∧ h' = h) := by
  refine con_of2 (L := [some (.ref 11), some (.int zi0)]) rfl (Nat.le_of_ble_eq_true rfl) rfl ?_
  refine ev_aload_n (pc := 0) dX8_laterThan_0 rfl ?_
  refine ev_iload_n (pc := 1) dX8_laterThan_1 rfl ?_
  refine ev_callVv (S := []) (pc := 2) dX8_laterThan_2 kX8_hasThing lX8_63 vX8_hasThing (cn_X8_hasThing_11 E h zt zi0 hw hS hO) rfl rfl (wlt hw (by decide)) rfl rfl (Nat.le_of_ble_eq_true rfl) ⟨Nat.le_of_ble_eq_true rfl, Nat.le_of_ble_eq_true rfl⟩ ⟨Nat.le_of_ble_eq_true rfl, Nat.le_of_ble_eq_true rfl⟩ ?_
  refine ev_if_eq (pc := 5) (tgt := 24) dX8_laterThan_5 (by decide) (fun zc5 => ?_) (fun zc5 => ?_)
  · -- eq at 5: taken
    refine ev_iconst (pc := 24) (v := 0) dX8_laterThan_24 (by decide) ?_
    refine ev_iret (pc := 25) dX8_laterThan_25 rfl ?_ ?_
    · rfl
    · refine ⟨?_, rfl⟩
      rw [if_neg (bI_0.mp zc5)]
  · -- eq at 5: not taken
    obtain ⟨zi, hi, rfl⟩ := th_nat (bI_n0.mp zc5) (by have := hO.1; omega : zt.1 1 ≤ 4096)
    have zm12 := hO.1
    have z9 := hS.2.2.2.1 zi hi
    refine ev_aload_n (pc := 8) dX8_laterThan_8 rfl ?_
    refine ev_getR (pc := 9) (q := 14) dX8_laterThan_9 fX8_18 rfl (wlt hw (by decide)) (wr hw rfl) ?_
    refine ev_iload_n (pc := 12) dX8_laterThan_12 rfl ?_
    refine ev_iald (pc := 13) dX8_laterThan_13 rfl (wlt hw (by decide)) (vp_in_nI (by omega) (by decide)) ?_
    refine ev_eqI (e' := h.2.1 14 zi) (by rw [show Int32.toNatClampNeg (nI zi) = zi from nI_clamp (by omega)] <;> rfl) ?_
    refine ev_eqI (e' := nI (zt.2 2 zi)) z9.2.2.1 ?_
    refine ev_aload_n (pc := 14) dX8_laterThan_14 rfl ?_
    refine ev_getR (pc := 15) (q := 15) dX8_laterThan_15 fX8_21 rfl (wlt hw (by decide)) (wr hw rfl) ?_
    refine ev_iload_n (pc := 18) dX8_laterThan_18 rfl ?_
    refine ev_iald (pc := 19) dX8_laterThan_19 rfl (wlt hw (by decide)) (vp_in_nI (by omega) (by decide)) ?_
    refine ev_eqI (e' := h.2.1 15 zi) (by rw [show Int32.toNatClampNeg (nI zi) = zi from nI_clamp (by omega)] <;> rfl) ?_
    refine ev_eqI (e' := nI (zt.2 3 zi)) z9.2.2.2 ?_
    refine ev_ior (pc := 20) dX8_laterThan_20 ?_
    refine ev_eqI (e' := nI (zt.2 2 zi ||| zt.2 3 zi)) (fa_or _ _) ?_
    refine ev_goto (pc := 21) (tgt := 25) dX8_laterThan_21 (by decide) ?_
    refine ev_iret (pc := 25) dX8_laterThan_25 rfl ?_ ?_
    · rfl
    · refine ⟨?_, rfl⟩
      rw [if_pos (bI_n0.mp zc5), nI_clamp (by omega)]
theorem cn_X8_priceOf_11 (E : ME) (h : AH) (zt : PSt) (zi0 : Int32) (hw : WF h) (hS : STz zt 11 h) (hO : POK zt) : Con E mX8_priceOf 1 0 0 [.ref 11, .int zi0] h (fun r h' => r = some (.int (if 0 ≤ zi0 ∧ zi0 ≤ 5 then nI (zt.2 4 zi0.toNatClampNeg) else 0)) ∧ h' = h) := by
  refine con_of2 (L := [some (.ref 11), some (.int zi0)]) rfl (Nat.le_of_ble_eq_true rfl) rfl ?_
  refine ev_iload_n (pc := 0) dX8_priceOf_0 rfl ?_
  refine ev_iconst (pc := 1) (v := 0) dX8_priceOf_1 (by decide) ?_
  refine ev_iconst (pc := 2) (v := 5) dX8_priceOf_2 (by decide) ?_
  refine ev_callSv (S := []) (pc := 3) dX8_priceOf_3 kX10_within lX8_59 sX10_within (cn_X10_within E h zi0 0 5) rfl rfl (Nat.le_of_ble_eq_true rfl) ⟨Nat.le_of_ble_eq_true rfl, Nat.le_of_ble_eq_true rfl⟩ ⟨Nat.le_of_ble_eq_true rfl, Nat.le_of_ble_eq_true rfl⟩ ?_
  refine ev_if_eq (pc := 6) (tgt := 18) dX8_priceOf_6 (by decide) (fun zc6 => ?_) (fun zc6 => ?_)
  · -- eq at 6: taken
    refine ev_iconst (pc := 18) (v := 0) dX8_priceOf_18 (by decide) ?_
    refine ev_iret (pc := 19) dX8_priceOf_19 rfl ?_ ?_
    · rfl
    · refine ⟨?_, rfl⟩
      rw [if_neg (bI_0.mp zc6)]
  · -- eq at 6: not taken
    obtain ⟨zi, hi, rfl⟩ := c6_in (bI_n0.mp zc6)
    have z9 := hS.2.2.2.2.1 zi hi
    refine ev_aload_n (pc := 9) dX8_priceOf_9 rfl ?_
    refine ev_getR (pc := 10) (q := 16) dX8_priceOf_10 fX8_24 rfl (wlt hw (by decide)) (wr hw rfl) ?_
    refine ev_iload_n (pc := 13) dX8_priceOf_13 rfl ?_
    refine ev_iald (pc := 14) dX8_priceOf_14 rfl (wlt hw (by decide)) (vp_in_nI (by omega) (by decide)) ?_
    refine ev_eqI (e' := h.2.1 16 zi) (by rw [show Int32.toNatClampNeg (nI zi) = zi from nI_clamp (by omega)] <;> rfl) ?_
    refine ev_eqI (e' := nI (zt.2 4 zi)) z9.1 ?_
    refine ev_goto (pc := 15) (tgt := 19) dX8_priceOf_15 (by decide) ?_
    refine ev_iret (pc := 19) dX8_priceOf_19 rfl ?_ ?_
    · rfl
    · refine ⟨?_, rfl⟩
      rw [if_pos (bI_n0.mp zc6), nI_clamp (by omega)]
theorem cn_X8_dailyOf_11 (E : ME) (h : AH) (zt : PSt) (zi0 : Int32) (hw : WF h) (hS : STz zt 11 h) (hO : POK zt) : Con E mX8_dailyOf 1 0 0 [.ref 11, .int zi0] h (fun r h' => r = some (.int (if 0 ≤ zi0 ∧ zi0 ≤ 5 then nI (zt.2 5 zi0.toNatClampNeg) else 1)) ∧ h' = h) := by
  refine con_of2 (L := [some (.ref 11), some (.int zi0)]) rfl (Nat.le_of_ble_eq_true rfl) rfl ?_
  refine ev_iload_n (pc := 0) dX8_dailyOf_0 rfl ?_
  refine ev_iconst (pc := 1) (v := 0) dX8_dailyOf_1 (by decide) ?_
  refine ev_iconst (pc := 2) (v := 5) dX8_dailyOf_2 (by decide) ?_
  refine ev_callSv (S := []) (pc := 3) dX8_dailyOf_3 kX10_within lX8_59 sX10_within (cn_X10_within E h zi0 0 5) rfl rfl (Nat.le_of_ble_eq_true rfl) ⟨Nat.le_of_ble_eq_true rfl, Nat.le_of_ble_eq_true rfl⟩ ⟨Nat.le_of_ble_eq_true rfl, Nat.le_of_ble_eq_true rfl⟩ ?_
  refine ev_if_eq (pc := 6) (tgt := 18) dX8_dailyOf_6 (by decide) (fun zc6 => ?_) (fun zc6 => ?_)
  · -- eq at 6: taken
    refine ev_iconst (pc := 18) (v := 1) dX8_dailyOf_18 (by decide) ?_
    refine ev_iret (pc := 19) dX8_dailyOf_19 rfl ?_ ?_
    · rfl
    · refine ⟨?_, rfl⟩
      rw [if_neg (bI_0.mp zc6)]
  · -- eq at 6: not taken
    obtain ⟨zi, hi, rfl⟩ := c6_in (bI_n0.mp zc6)
    have z9 := hS.2.2.2.2.1 zi hi
    refine ev_aload_n (pc := 9) dX8_dailyOf_9 rfl ?_
    refine ev_getR (pc := 10) (q := 17) dX8_dailyOf_10 fX8_27 rfl (wlt hw (by decide)) (wr hw rfl) ?_
    refine ev_iload_n (pc := 13) dX8_dailyOf_13 rfl ?_
    refine ev_iald (pc := 14) dX8_dailyOf_14 rfl (wlt hw (by decide)) (vp_in_nI (by omega) (by decide)) ?_
    refine ev_eqI (e' := h.2.1 17 zi) (by rw [show Int32.toNatClampNeg (nI zi) = zi from nI_clamp (by omega)] <;> rfl) ?_
    refine ev_eqI (e' := nI (zt.2 5 zi)) z9.2 ?_
    refine ev_goto (pc := 15) (tgt := 19) dX8_dailyOf_15 (by decide) ?_
    refine ev_iret (pc := 19) dX8_dailyOf_19 rfl ?_ ?_
    · rfl
    · refine ⟨?_, rfl⟩
      rw [if_pos (bI_n0.mp zc6), nI_clamp (by omega)]
theorem cn_X8_patternColour_11 (E : ME) (h : AH) (zt : PSt) (zp zc : Nat) (hw : WF h) (hS : STz zt 11 h) (hO : POK zt) (hp : zp < zt.1 2) (hc : zc < 16) : Con E mX8_patternColour 2 0 0 [.ref 11, .int (nI zp), .int (nI zc)] h (fun r h' => r = some (.int (clC (zt.2 6 (16 * zp + zc)))) ∧ h' = h) := by
  refine con_of2 (L := [some (.ref 11), some (.int (nI zp)), some (.int (nI zc))]) rfl (Nat.le_of_ble_eq_true rfl) rfl ?_
  have zb4 := hO.2.1
  refine ev_aload_n (pc := 0) dX8_patternColour_0 rfl ?_
  refine ev_iload_n (pc := 1) dX8_patternColour_1 rfl ?_
  refine ev_callVv (S := []) (pc := 2) dX8_patternColour_2 kX8_hasPattern lX8_67 vX8_hasPattern (cn_X8_hasPattern_11 E h zt (nI zp) hw hS hO) rfl rfl (wlt hw (by decide)) rfl rfl (Nat.le_of_ble_eq_true rfl) ⟨Nat.le_of_ble_eq_true rfl, Nat.le_of_ble_eq_true rfl⟩ ⟨Nat.le_of_ble_eq_true rfl, Nat.le_of_ble_eq_true rfl⟩ ?_
  refine ev_if_eq (pc := 5) (tgt := 18) dX8_patternColour_5 (by decide) (fun zc5 => absurd zc5 (bI_n0.mpr ⟨nI_pos' (by omega), by rw [nI_m1 (by omega)]; exact nI_le (by omega) (by omega)⟩)) (fun zc5 => ?_)
  refine ev_iload_n (pc := 8) dX8_patternColour_8 rfl ?_
  refine ev_iconst (pc := 9) (v := 0) dX8_patternColour_9 (by decide) ?_
  refine ev_bipush (pc := 10) (v := 15) dX8_patternColour_10 (by decide) ?_
  refine ev_callSv (S := []) (pc := 12) dX8_patternColour_12 kX10_within lX8_59 sX10_within (cn_X10_within E h (nI zc) 0 15) rfl rfl (Nat.le_of_ble_eq_true rfl) ⟨Nat.le_of_ble_eq_true rfl, Nat.le_of_ble_eq_true rfl⟩ ⟨Nat.le_of_ble_eq_true rfl, Nat.le_of_ble_eq_true rfl⟩ ?_
  refine ev_if_ne (pc := 15) (tgt := 20) dX8_patternColour_15 (by decide) (fun zc15 => ?_) (fun zc15 => absurd zc15 (bI_n0.mpr ⟨nI_pos' (by omega), nI_le (a := zc) (b := 15) (by omega) (by decide)⟩))
  refine ev_aload_n (pc := 20) dX8_patternColour_20 rfl ?_
  refine ev_getR (pc := 21) (q := 18) dX8_patternColour_21 fX8_30 rfl (wlt hw (by decide)) (wr hw rfl) ?_
  refine ev_iload_n (pc := 24) dX8_patternColour_24 rfl ?_
  refine ev_bipush (pc := 25) (v := 16) dX8_patternColour_25 (by decide) ?_
  refine ev_imul (pc := 27) dX8_patternColour_27 ?_
  refine ev_eqI (e' := nI (zp * 16)) (pk_mul zp 16) ?_
  refine ev_iload_n (pc := 28) dX8_patternColour_28 rfl ?_
  refine ev_iadd (pc := 29) dX8_patternColour_29 ?_
  refine ev_eqI (e' := nI ((zp * 16) + zc)) (nI_add (zp * 16) zc) ?_
  refine ev_iald (pc := 30) dX8_patternColour_30 rfl (wlt hw (by decide)) (vp_in_nI (by omega) (by decide)) ?_
  refine ev_eqI (e' := h.2.1 18 ((zp * 16) + zc)) (by rw [show Int32.toNatClampNeg (nI ((zp * 16) + zc)) = (zp * 16) + zc from nI_clamp (by omega)] <;> rfl) ?_
  refine ev_eqI (e' := clC (zt.2 6 (16 * zp + zc))) (by rw [show zp * 16 + zc = 16 * zp + zc by omega]; exact hS.2.2.2.2.2 _ (by omega)) ?_
  refine ev_iret (pc := 31) dX8_patternColour_31 rfl ?_ ?_
  · rfl
  · exact ⟨rfl, rfl⟩
theorem lp_rows_11 (E : ME) (h : AH) (zt : PSt) (hw : WF h) (hS : STz zt 11 h) (hO : POK zt) {post : PO} (K : Ev E mX8_rows (rmm 0 0 0) (QM E 0 0 post) 0 0 33 [some (.ref 11), some (.int (nI (rwsN (zt.2 0) (zt.1 1)))), some (.int (nI (zt.1 1)))] [] h) : ∀ n i : Nat, i + n = (zt.1 1) → Ev E mX8_rows (rmm 0 0 0) (QM E 0 0 post) 0 0 4 [some (.ref 11), some (.int (nI (rwsN (zt.2 0) i))), some (.int (nI i))] [] h := by
  intro n
  induction n with
  | zero =>
    intro i hi
    obtain rfl : zt.1 1 = i := by omega
    refine ev_iload_n (pc := 4) dX8_rows_4 rfl ?_
    refine ev_aload_n (pc := 5) dX8_rows_5 rfl ?_
    refine ev_getI (pc := 6) dX8_rows_6 fX8_42 rfl (wlt hw (by decide)) ?_
    refine ev_eqI (e' := nI (zt.1 1)) hS.1 ?_
    refine ev_icmp_ge (pc := 9) (tgt := 33) dX8_rows_9 (by decide) (fun zc9 => ?_) (fun zc9 => absurd (nI_le (Nat.le_refl _) (by have := hO.1; omega)) zc9)
    exact K
  | succ n ih =>
    intro i hi
    have hlt : i < (zt.1 1) := by omega
    have zm12 := hO.1
    refine ev_iload_n (pc := 4) dX8_rows_4 rfl ?_
    refine ev_aload_n (pc := 5) dX8_rows_5 rfl ?_
    refine ev_getI (pc := 6) dX8_rows_6 fX8_42 rfl (wlt hw (by decide)) ?_
    refine ev_eqI (e' := nI (zt.1 1)) hS.1 ?_
    refine ev_icmp_ge (pc := 9) (tgt := 33) dX8_rows_9 (by decide) (fun zc9 => absurd zc9 (nI_ge hlt (by have := hO.1; omega))) (fun zc9 => ?_)
    refine ev_aload_n (pc := 12) dX8_rows_12 rfl ?_
    refine ev_getR (pc := 13) (q := 12) dX8_rows_13 fX8_9 rfl (wlt hw (by decide)) (wr hw rfl) ?_
    refine ev_iload_n (pc := 16) dX8_rows_16 rfl ?_
    refine ev_iald (pc := 17) dX8_rows_17 rfl (wlt hw (by decide)) (vp_in_nI (by omega) (by decide)) ?_
    refine ev_eqI (e' := h.2.1 12 i) (by rw [show Int32.toNatClampNeg (nI i) = i from nI_clamp (by omega)] <;> rfl) ?_
    refine ev_if_le (pc := 18) (tgt := 27) dX8_rows_18 (by decide) (fun zc18 => ?_) (fun zc18 => ?_)
    · -- le at 18: taken
      refine ev_iinc (pc := 27) (v := nI (i + 1)) (L' := [some (.ref 11), some (.int (nI (rwsN (zt.2 0) i))), some (.int (nI (i + 1)))]) dX8_rows_27 rfl (nI_1 _) (Nat.le_of_ble_eq_true rfl) rfl ?_
      refine ev_goto (pc := 30) (tgt := 4) dX8_rows_30 (by decide) ?_
      have z9 := hS.2.2.2.1 i hlt
      have zb := (hO.2.2.2.2.2.1 i hlt).1
      refine ev_eqL (L' := [some (.ref 11), some (.int (nI (rwsN (zt.2 0) (i + 1)))), some (.int (nI (i + 1)))]) (by rw [rwsN, ← (if_or32f (zx := rwsN (zt.2 0) i) (zn := i) (fun z => by rw [z9.1] at zc18; exact nI_nle z (by omega) zc18)), or_zero32]) ?_
      exact ih (i + 1) (by omega)
    · -- le at 18: not taken
      refine ev_iload_n (pc := 21) dX8_rows_21 rfl ?_
      refine ev_iconst (pc := 22) (v := 1) dX8_rows_22 (by decide) ?_
      refine ev_iload_n (pc := 23) dX8_rows_23 rfl ?_
      refine ev_ishl (pc := 24) dX8_rows_24 ?_
      refine ev_ior (pc := 25) dX8_rows_25 ?_
      refine ev_istore_n (pc := 26) (L' := [some (.ref 11), some (.int ((nI (rwsN (zt.2 0) i)) ||| (1 <<< ((nI i) &&& 31)))), some (.int (nI i))]) dX8_rows_26 (Nat.le_of_ble_eq_true rfl) rfl ?_
      refine ev_iinc (pc := 27) (v := nI (i + 1)) (L' := [some (.ref 11), some (.int ((nI (rwsN (zt.2 0) i)) ||| (1 <<< ((nI i) &&& 31)))), some (.int (nI (i + 1)))]) dX8_rows_27 rfl (nI_1 _) (Nat.le_of_ble_eq_true rfl) rfl ?_
      refine ev_goto (pc := 30) (tgt := 4) dX8_rows_30 (by decide) ?_
      have z9 := hS.2.2.2.1 i hlt
      have zb := (hO.2.2.2.2.2.1 i hlt).1
      refine ev_eqL (L' := [some (.ref 11), some (.int (nI (rwsN (zt.2 0) (i + 1)))), some (.int (nI (i + 1)))]) (by rw [rwsN, ← (if_or32t (zx := rwsN (zt.2 0) i) (zn := i) (by omega) (Nat.pos_of_ne_zero (fun z => zc18 (by rw [z9.1, z]; decide))))]) ?_
      exact ih (i + 1) (by omega)
theorem cn_X8_rows_11 (E : ME) (h : AH) (zt : PSt) (hw : WF h) (hS : STz zt 11 h) (hO : POK zt) : Con E mX8_rows 0 0 0 [.ref 11] h (fun r h' => r = some (.int (nI (rwsN (zt.2 0) (zt.1 1)))) ∧ h' = h) := by
  refine con_of2 (L := [some (.ref 11), none, none]) rfl (Nat.le_of_ble_eq_true rfl) rfl ?_
  refine ev_iconst (pc := 0) (v := 0) dX8_rows_0 (by decide) ?_
  refine ev_istore_n (pc := 1) (L' := [some (.ref 11), some (.int 0), none]) dX8_rows_1 (Nat.le_of_ble_eq_true rfl) rfl ?_
  refine ev_iconst (pc := 2) (v := 0) dX8_rows_2 (by decide) ?_
  refine ev_istore_n (pc := 3) (L' := [some (.ref 11), some (.int 0), some (.int 0)]) dX8_rows_3 (Nat.le_of_ble_eq_true rfl) rfl ?_
  refine lp_rows_11 E h zt hw hS hO ?_ (zt.1 1) 0 (Nat.zero_add _)
  refine ev_iload_n (pc := 33) dX8_rows_33 rfl ?_
  refine ev_iret (pc := 34) dX8_rows_34 rfl ?_ ?_
  · rfl
  · exact ⟨rfl, rfl⟩
theorem cn_X10_told_11 (E : ME) (h : AH) (zt : PSt) (zv : Int32) (hw : WF h) (hS : STz zt 11 h) (hO : POK zt) (hst : h.2.2.2 0 1 = some 11) : Con E mX10_told 2 0 0 [.ref 0, .int zv] h (fun r h' => r = some (.int (if zv = 0 then nI (zt.1 1) else if zv = 1 then nI (zt.1 2) else if zv = 2 then nI (zt.1 3) else if 0 ≤ zv - 10 ∧ zv - 10 ≤ 5 then nI (zt.2 4 (zv - 10).toNatClampNeg) else if 0 ≤ zv - 20 ∧ zv - 20 ≤ 5 then nI (zt.2 5 (zv - 20).toNatClampNeg) else -1)) ∧ h' = h) := by
  refine con_of2 (L := [some (.ref 0), some (.int zv)]) rfl (Nat.le_of_ble_eq_true rfl) rfl ?_
  refine ev_iload_n (pc := 0) dX10_told_0 rfl ?_
  refine ev_nmI (fun zsv ezsv => ?_)
  by_cases zq0 : zsv = 0
  · subst zq0
    refine ev_tabIn (pc := 1) (off := 27) (tgt := 28) dX10_told_1 (by decide) (by decide) (by decide +kernel) (by decide) ?_
    refine ev_aload_n (pc := 28) dX10_told_28 rfl ?_
    refine ev_getR (pc := 29) (q := 11) dX10_told_29 fX10_19 rfl (wlt hw (by decide)) hst ?_
    refine ev_callVv (S := []) (pc := 32) dX10_told_32 kX8_things lX10_114 vX8_things (cn_X8_things_11 E h zt hw hS hO) rfl rfl (wlt hw (by decide)) rfl rfl (Nat.le_of_ble_eq_true rfl) ⟨Nat.le_of_ble_eq_true rfl, Nat.le_of_ble_eq_true rfl⟩ ⟨Nat.le_of_ble_eq_true rfl, Nat.le_of_ble_eq_true rfl⟩ ?_
    refine ev_iret (pc := 35) dX10_told_35 rfl ?_ ?_
    · rfl
    · refine ⟨?_, rfl⟩
      subst ezsv
      rfl
  by_cases zq1 : zsv = 1
  · subst zq1
    refine ev_tabIn (pc := 1) (off := 35) (tgt := 36) dX10_told_1 (by decide) (by decide) (by decide +kernel) (by decide) ?_
    refine ev_aload_n (pc := 36) dX10_told_36 rfl ?_
    refine ev_getR (pc := 37) (q := 11) dX10_told_37 fX10_19 rfl (wlt hw (by decide)) hst ?_
    refine ev_callVv (S := []) (pc := 40) dX10_told_40 kX8_patterns lX10_117 vX8_patterns (cn_X8_patterns_11 E h zt hw hS hO) rfl rfl (wlt hw (by decide)) rfl rfl (Nat.le_of_ble_eq_true rfl) ⟨Nat.le_of_ble_eq_true rfl, Nat.le_of_ble_eq_true rfl⟩ ⟨Nat.le_of_ble_eq_true rfl, Nat.le_of_ble_eq_true rfl⟩ ?_
    refine ev_iret (pc := 43) dX10_told_43 rfl ?_ ?_
    · rfl
    · refine ⟨?_, rfl⟩
      subst ezsv
      rfl
  by_cases zq2 : zsv = 2
  · subst zq2
    refine ev_tabIn (pc := 1) (off := 43) (tgt := 44) dX10_told_1 (by decide) (by decide) (by decide +kernel) (by decide) ?_
    refine ev_aload_n (pc := 44) dX10_told_44 rfl ?_
    refine ev_getR (pc := 45) (q := 11) dX10_told_45 fX10_19 rfl (wlt hw (by decide)) hst ?_
    refine ev_callVv (S := []) (pc := 48) dX10_told_48 kX8_apart lX10_120 vX8_apart (cn_X8_apart_11 E h zt hw hS hO) rfl rfl (wlt hw (by decide)) rfl rfl (Nat.le_of_ble_eq_true rfl) ⟨Nat.le_of_ble_eq_true rfl, Nat.le_of_ble_eq_true rfl⟩ ⟨Nat.le_of_ble_eq_true rfl, Nat.le_of_ble_eq_true rfl⟩ ?_
    refine ev_iret (pc := 51) dX10_told_51 rfl ?_ ?_
    · rfl
    · refine ⟨?_, rfl⟩
      subst ezsv
      rfl
  have zhout : zsv.toInt < 0 ∨ 2 < zsv.toInt := by
    have nzq0 := i32_ne zq0
    have nzq1 := i32_ne zq1
    have nzq2 := i32_ne zq2
    replace nzq0 : ¬ zsv.toInt = 0 := nzq0
    replace nzq1 : ¬ zsv.toInt = 1 := nzq1
    replace nzq2 : ¬ zsv.toInt = 2 := nzq2
    omega
  refine ev_tabOut (pc := 1) (tgt := 52) dX10_told_1 zhout (by decide) ?_
  refine ev_iload_n (pc := 52) dX10_told_52 rfl ?_
  refine ev_bipush (pc := 53) (v := 10) dX10_told_53 (by decide) ?_
  refine ev_bipush (pc := 55) (v := 15) dX10_told_55 (by decide) ?_
  refine ev_callSv (S := []) (pc := 57) dX10_told_57 kX10_within lX10_123 sX10_within (cn_X10_within E h zv 10 15) rfl rfl (Nat.le_of_ble_eq_true rfl) ⟨Nat.le_of_ble_eq_true rfl, Nat.le_of_ble_eq_true rfl⟩ ⟨Nat.le_of_ble_eq_true rfl, Nat.le_of_ble_eq_true rfl⟩ ?_
  refine ev_if_eq (pc := 60) (tgt := 75) dX10_told_60 (by decide) (fun zc60 => ?_) (fun zc60 => ?_)
  · -- eq at 60: taken
    refine ev_iload_n (pc := 75) dX10_told_75 rfl ?_
    refine ev_bipush (pc := 76) (v := 20) dX10_told_76 (by decide) ?_
    refine ev_bipush (pc := 78) (v := 25) dX10_told_78 (by decide) ?_
    refine ev_callSv (S := []) (pc := 80) dX10_told_80 kX10_within lX10_123 sX10_within (cn_X10_within E h zv 20 25) rfl rfl (Nat.le_of_ble_eq_true rfl) ⟨Nat.le_of_ble_eq_true rfl, Nat.le_of_ble_eq_true rfl⟩ ⟨Nat.le_of_ble_eq_true rfl, Nat.le_of_ble_eq_true rfl⟩ ?_
    refine ev_if_eq (pc := 83) (tgt := 100) dX10_told_83 (by decide) (fun zc83 => ?_) (fun zc83 => ?_)
    · -- eq at 83: taken
      refine ev_iconst (pc := 100) (v := (-1)) dX10_told_100 (by decide) ?_
      refine ev_iret (pc := 101) dX10_told_101 rfl ?_ ?_
      · rfl
      · refine ⟨?_, rfl⟩
        have z1 : ¬ (0 ≤ zv - 10 ∧ zv - 10 ≤ 5) := fun z => bI_0.mp zc60 ((tl_10 (zv := zv) (za := 10) (by decide)).mpr z)
        have z2 : ¬ (0 ≤ zv - 20 ∧ zv - 20 ≤ 5) := fun z => bI_0.mp zc83 ((tl_10 (zv := zv) (za := 20) (by decide)).mpr z)
        rw [ezsv] at *
        rw [if_neg zq0, if_neg zq1, if_neg zq2, if_neg z1, if_neg z2]
    · -- eq at 83: not taken
      refine ev_aload_n (pc := 86) dX10_told_86 rfl ?_
      refine ev_getR (pc := 87) (q := 11) dX10_told_87 fX10_19 rfl (wlt hw (by decide)) hst ?_
      refine ev_iload_n (pc := 90) dX10_told_90 rfl ?_
      refine ev_bipush (pc := 91) (v := 20) dX10_told_91 (by decide) ?_
      refine ev_isub (pc := 93) dX10_told_93 ?_
      refine ev_callVv (S := []) (pc := 94) dX10_told_94 kX8_dailyOf lX10_131 vX8_dailyOf (cn_X8_dailyOf_11 E h zt (zv - 20) hw hS hO) rfl rfl (wlt hw (by decide)) rfl rfl (Nat.le_of_ble_eq_true rfl) ⟨Nat.le_of_ble_eq_true rfl, Nat.le_of_ble_eq_true rfl⟩ ⟨Nat.le_of_ble_eq_true rfl, Nat.le_of_ble_eq_true rfl⟩ ?_
      refine ev_goto (pc := 97) (tgt := 101) dX10_told_97 (by decide) ?_
      refine ev_iret (pc := 101) dX10_told_101 rfl ?_ ?_
      · rfl
      · refine ⟨?_, rfl⟩
        have z1 : ¬ (0 ≤ zv - 10 ∧ zv - 10 ≤ 5) := fun z => bI_0.mp zc60 ((tl_10 (zv := zv) (za := 10) (by decide)).mpr z)
        have z2 := (tl_10 (zv := zv) (za := 20) (by decide)).mp (bI_n0.mp zc83)
        rw [ezsv] at *
        rw [if_neg zq0, if_neg zq1, if_neg zq2, if_neg z1, if_pos z2, if_pos z2]
  · -- eq at 60: not taken
    refine ev_aload_n (pc := 63) dX10_told_63 rfl ?_
    refine ev_getR (pc := 64) (q := 11) dX10_told_64 fX10_19 rfl (wlt hw (by decide)) hst ?_
    refine ev_iload_n (pc := 67) dX10_told_67 rfl ?_
    refine ev_bipush (pc := 68) (v := 10) dX10_told_68 (by decide) ?_
    refine ev_isub (pc := 70) dX10_told_70 ?_
    refine ev_callVv (S := []) (pc := 71) dX10_told_71 kX8_priceOf lX10_127 vX8_priceOf (cn_X8_priceOf_11 E h zt (zv - 10) hw hS hO) rfl rfl (wlt hw (by decide)) rfl rfl (Nat.le_of_ble_eq_true rfl) ⟨Nat.le_of_ble_eq_true rfl, Nat.le_of_ble_eq_true rfl⟩ ⟨Nat.le_of_ble_eq_true rfl, Nat.le_of_ble_eq_true rfl⟩ ?_
    refine ev_iret (pc := 74) dX10_told_74 rfl ?_ ?_
    · rfl
    · refine ⟨?_, rfl⟩
      have z1 := (tl_10 (zv := zv) (za := 10) (by decide)).mp (bI_n0.mp zc60)
      rw [ezsv] at *
      rw [if_neg zq0, if_neg zq1, if_neg zq2, if_pos z1, if_pos z1]
theorem cn_X10_pattern_11 (E : ME) (h : AH) (zt : PSt) (zp0 zw0 ze0 : Int32) (hw : WF h) (hS : STz zt 11 h) (hO : POK zt) (hst : h.2.2.2 0 1 = some 11) : Con E mX10_pattern 3 0 0 [.ref 0, .int zp0, .int zw0, .int ze0] h (fun r h' => r = some (.int (if ptg zt zp0 ∧ (0 ≤ zw0 ∧ zw0 ≤ 7) ∧ (0 ≤ ze0 ∧ ze0 ≤ 15) then clV (zt.2 6 (16 * zp0.toNatClampNeg + srN 4 zw0.toNatClampNeg ze0.toNatClampNeg)) else -1)) ∧ h' = h) := by
  refine con_of2 (L := [some (.ref 0), some (.int zp0), some (.int zw0), some (.int ze0), none]) rfl (Nat.le_of_ble_eq_true rfl) rfl ?_
  refine ev_aload_n (pc := 0) dX10_pattern_0 rfl ?_
  refine ev_getR (pc := 1) (q := 11) dX10_pattern_1 fX10_19 rfl (wlt hw (by decide)) hst ?_
  refine ev_iload_n (pc := 4) dX10_pattern_4 rfl ?_
  refine ev_callVv (S := []) (pc := 5) dX10_pattern_5 kX8_hasPattern lX10_149 vX8_hasPattern (cn_X8_hasPattern_11 E h zt zp0 hw hS hO) rfl rfl (wlt hw (by decide)) rfl rfl (Nat.le_of_ble_eq_true rfl) ⟨Nat.le_of_ble_eq_true rfl, Nat.le_of_ble_eq_true rfl⟩ ⟨Nat.le_of_ble_eq_true rfl, Nat.le_of_ble_eq_true rfl⟩ ?_
  refine ev_if_eq (pc := 8) (tgt := 31) dX10_pattern_8 (by decide) (fun zc8 => ?_) (fun zc8 => ?_)
  · -- eq at 8: taken
    refine ev_iconst (pc := 31) (v := (-1)) dX10_pattern_31 (by decide) ?_
    refine ev_iret (pc := 32) dX10_pattern_32 rfl ?_ ?_
    · rfl
    · refine ⟨?_, rfl⟩
      rw [if_neg (show ¬ (ptg zt zp0 ∧ (0 ≤ zw0 ∧ zw0 ≤ 7) ∧ (0 ≤ ze0 ∧ ze0 ≤ 15)) from fun z => bI_0.mp zc8 z.1)]
  · -- eq at 8: not taken
    refine ev_iload_n (pc := 11) dX10_pattern_11 rfl ?_
    refine ev_iconst (pc := 12) (v := 0) dX10_pattern_12 (by decide) ?_
    refine ev_bipush (pc := 13) (v := 7) dX10_pattern_13 (by decide) ?_
    refine ev_callSv (S := []) (pc := 15) dX10_pattern_15 kX10_within lX10_123 sX10_within (cn_X10_within E h zw0 0 7) rfl rfl (Nat.le_of_ble_eq_true rfl) ⟨Nat.le_of_ble_eq_true rfl, Nat.le_of_ble_eq_true rfl⟩ ⟨Nat.le_of_ble_eq_true rfl, Nat.le_of_ble_eq_true rfl⟩ ?_
    refine ev_if_eq (pc := 18) (tgt := 31) dX10_pattern_18 (by decide) (fun zc18 => ?_) (fun zc18 => ?_)
    · -- eq at 18: taken
      refine ev_iconst (pc := 31) (v := (-1)) dX10_pattern_31 (by decide) ?_
      refine ev_iret (pc := 32) dX10_pattern_32 rfl ?_ ?_
      · rfl
      · refine ⟨?_, rfl⟩
        rw [if_neg (show ¬ (ptg zt zp0 ∧ (0 ≤ zw0 ∧ zw0 ≤ 7) ∧ (0 ≤ ze0 ∧ ze0 ≤ 15)) from fun z => bI_0.mp zc18 z.2.1)]
    · -- eq at 18: not taken
      refine ev_iload_n (pc := 21) dX10_pattern_21 rfl ?_
      refine ev_iconst (pc := 22) (v := 0) dX10_pattern_22 (by decide) ?_
      refine ev_bipush (pc := 23) (v := 15) dX10_pattern_23 (by decide) ?_
      refine ev_callSv (S := []) (pc := 25) dX10_pattern_25 kX10_within lX10_123 sX10_within (cn_X10_within E h ze0 0 15) rfl rfl (Nat.le_of_ble_eq_true rfl) ⟨Nat.le_of_ble_eq_true rfl, Nat.le_of_ble_eq_true rfl⟩ ⟨Nat.le_of_ble_eq_true rfl, Nat.le_of_ble_eq_true rfl⟩ ?_
      refine ev_if_ne (pc := 28) (tgt := 33) dX10_pattern_28 (by decide) (fun zc28 => ?_) (fun zc28 => ?_)
      · -- ne at 28: taken
        obtain ⟨zp, hzp, rfl⟩ := th_nat (bI_n0.mp zc8) (by have := hO.2.1; omega : zt.1 2 ≤ 4096)
        obtain ⟨zw, hzw, rfl⟩ := vp_in_of (vp_sm (N := 8) (bI_n0.mp zc18).1 (bI_n0.mp zc18).2 (by decide) (by decide)) (by decide)
        obtain ⟨ze, hze, rfl⟩ := vp_in_of (vp_sm (N := 16) (bI_n0.mp zc28).1 (bI_n0.mp zc28).2 (by decide) (by decide)) (by decide)
        have zb4 := hO.2.1
        have zsr := (sr4 zw hzw ze hze).2
        refine ev_aload_n (pc := 33) dX10_pattern_33 rfl ?_
        refine ev_getR (pc := 34) (q := 11) dX10_pattern_34 fX10_19 rfl (wlt hw (by decide)) hst ?_
        refine ev_iload_n (pc := 37) dX10_pattern_37 rfl ?_
        refine ev_iload_n (pc := 38) dX10_pattern_38 rfl ?_
        refine ev_iload_n (pc := 39) dX10_pattern_39 rfl ?_
        refine ev_iconst (pc := 40) (v := 4) dX10_pattern_40 (by decide) ?_
        refine ev_callSv (S := [.int (nI zp), .ref 11]) (pc := 41) dX10_pattern_41 kX10_source lX10_152 sX10_source (cn_X10_src4 E h zw ze hw (by omega) (by omega)) rfl rfl (Nat.le_of_ble_eq_true rfl) ⟨Nat.le_of_ble_eq_true rfl, Nat.le_of_ble_eq_true rfl⟩ ⟨Nat.le_of_ble_eq_true rfl, Nat.le_of_ble_eq_true rfl⟩ ?_
        refine ev_callVv (S := []) (pc := 44) dX10_pattern_44 kX8_patternColour lX10_156 vX8_patternColour (cn_X8_patternColour_11 E h zt zp (srN 4 zw ze) hw hS hO hzp zsr) rfl rfl (wlt hw (by decide)) rfl rfl (Nat.le_of_ble_eq_true rfl) ⟨Nat.le_of_ble_eq_true rfl, Nat.le_of_ble_eq_true rfl⟩ ⟨Nat.le_of_ble_eq_true rfl, Nat.le_of_ble_eq_true rfl⟩ ?_
        refine ev_istore (pc := 47) (L' := [some (.ref 0), some (.int (nI zp)), some (.int (nI zw)), some (.int (nI ze)), some (.int (clC (zt.2 6 (16 * zp + srN 4 zw ze))))]) dX10_pattern_47 (Nat.le_of_ble_eq_true rfl) rfl ?_
        refine ev_iload (pc := 49) dX10_pattern_49 rfl ?_
        refine ev_if_ge (pc := 51) (tgt := 59) dX10_pattern_51 (by decide) (fun zc51 => ?_) (fun zc51 => ?_)
        · -- ge at 51: taken
          refine ev_iload (pc := 59) dX10_pattern_59 rfl ?_
          refine ev_iret (pc := 61) dX10_pattern_61 rfl ?_ ?_
          · rfl
          · refine ⟨?_, rfl⟩
            rw [if_pos (show ptg zt (nI zp) ∧ (0 ≤ (nI zw) ∧ (nI zw) ≤ 7) ∧ (0 ≤ (nI ze) ∧ (nI ze) ≤ 15) from ⟨bI_n0.mp zc8, bI_n0.mp zc18, bI_n0.mp zc28⟩), nI_clamp (n := zp) (by omega), nI_clamp (n := zw) (by omega), nI_clamp (n := ze) (by omega)]
            have z6 := hO.2.2.2.2.2.2.2 (16 * zp + srN 4 zw ze) (by omega)
            rw [(cl_ge z6).1.mp zc51]
        · -- ge at 51: not taken
          refine ev_bipush (pc := 54) (v := (-4)) dX10_pattern_54 (by decide) ?_
          refine ev_goto (pc := 56) (tgt := 61) dX10_pattern_56 (by decide) ?_
          refine ev_iret (pc := 61) dX10_pattern_61 rfl ?_ ?_
          · rfl
          · refine ⟨?_, rfl⟩
            rw [if_pos (show ptg zt (nI zp) ∧ (0 ≤ (nI zw) ∧ (nI zw) ≤ 7) ∧ (0 ≤ (nI ze) ∧ (nI ze) ≤ 15) from ⟨bI_n0.mp zc8, bI_n0.mp zc18, bI_n0.mp zc28⟩), nI_clamp (n := zp) (by omega), nI_clamp (n := zw) (by omega), nI_clamp (n := ze) (by omega)]
            have z6 := hO.2.2.2.2.2.2.2 (16 * zp + srN 4 zw ze) (by omega)
            rw [(cl_ge z6).2 zc51]
      · -- ne at 28: not taken
        refine ev_iconst (pc := 31) (v := (-1)) dX10_pattern_31 (by decide) ?_
        refine ev_iret (pc := 32) dX10_pattern_32 rfl ?_ ?_
        · rfl
        · refine ⟨?_, rfl⟩
          rw [if_neg (show ¬ (ptg zt zp0 ∧ (0 ≤ zw0 ∧ zw0 ≤ 7) ∧ (0 ≤ ze0 ∧ ze0 ≤ 15)) from fun z => bI_0.mp zc28 z.2.2)]
