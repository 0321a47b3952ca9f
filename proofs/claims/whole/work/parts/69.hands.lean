theorem rwg_n {zt : PSt} (hO : POK zt) {za : Nat} (ha : za < zt.1 1) (h0 : 0 < zt.2 0 za) : rwg zt (nI za) := by
  have h1 := hO.1
  refine ⟨⟨nI_pos' (by omega), by rw [nI_m1 (by omega)]; exact nI_le (by omega) (by omega)⟩, ?_⟩
  rw [nI_clamp (by omega)]
  exact h0
theorem rwg_of {zt : PSt} (hO : POK zt) {zi : Int32} (h : rwg zt zi) : ∃ za, za < zt.1 1 ∧ 0 < zt.2 0 za ∧ zi = nI za := by
  have h1 := hO.1
  obtain ⟨za, ha, rfl⟩ := th_nat h.1 (by omega : zt.1 1 ≤ 4096)
  refine ⟨za, ha, ?_, rfl⟩
  have h2 := h.2
  rwa [nI_clamp (by omega)] at h2
def dfN (zx zy : Nat) : Nat := if zx < zy then zy - zx else zx - zy
theorem abs_N {zx zy : Nat} (hx : zx < 2 ^ 30) (hy : zy < 2 ^ 30) : (if 0 ≤ nI zx - nI zy then nI zx - nI zy else 0 - (nI zx - nI zy)) = nI (dfN zx zy) := by
  unfold dfN
  by_cases h : zx < zy
  · rw [if_neg (fun z => by rw [i_le, i_z0, pk_sub_toInt hx hy] at z; omega), if_pos h, ← pk_sub (by omega)]
    apply Int32.toInt_inj.mp
    rw [pk_sub_toInt hy hx, fb_subI (by rw [i_z0, pk_sub_toInt hx hy]; omega) (by rw [i_z0, pk_sub_toInt hx hy]; omega), i_z0, pk_sub_toInt hx hy]
    omega
  · rw [if_pos (by rw [i_le, i_z0, pk_sub_toInt hx hy]; omega), if_neg h, pk_sub (by omega)]
theorem sur_sym (zc zl : Nat → Nat) (zp za zb : Nat) : surN zc zl zp za zb = surN zc zl zp zb za := by
  unfold surN
  refine decide_eq_decide.mpr ?_
  rw [Nat.mul_assoc, Nat.mul_comm (zc za), ← Nat.mul_assoc]
  have e : (if zl za * zc zb < zl zb * zc za then zl zb * zc za - zl za * zc zb else zl za * zc zb - zl zb * zc za) = (if zl zb * zc za < zl za * zc zb then zl za * zc zb - zl zb * zc za else zl zb * zc za - zl za * zc zb) := by
    split <;> split <;> omega
  rw [e]
def lsW (zx : Nat) : Int32 := if zx = 13 then -1 else nI zx
theorem lsW_n {zx : Nat} (h : zx < 13) : lsW zx = nI zx := if_neg (by omega)
theorem lsW_l {zx : Nat} (h : zx ≤ 13) : lsW zx < 0 ↔ zx = 13 := by
  constructor
  · intro z
    rcases Nat.lt_or_ge zx 13 with h1 | h1
    · rw [lsW_n h1] at z
      exact absurd z (nI_pos (by omega))
    · omega
  · intro z
    rw [z]; decide
theorem has_b {zs zt : Nat} (h : zt < 32) : (¬ (nI zs >>> (nI zt &&& 31)) &&& 1 = 0) ↔ zs.testBit zt = true := by
  rw [sh1_0 _ h, bt_nI h]
  cases zs.testBit zt <;> simp
theorem cn_X8_areTwoHands_3 (E : ME) (h : AH) (zt : PSt) (za zb : Nat) (hw : WF h) (hS : STz zt 3 h) (hO : POK zt) (ha : za < zt.1 1) (hb : zb < zt.1 1) (ha0 : 0 < zt.2 0 za) (hb0 : 0 < zt.2 0 zb) : Con E mX8_areTwoHands 3 0 0 [.ref 3, .int (nI za), .int (nI zb)] h (fun r h' => r = some (.int (bI (surN (zt.2 0) (zt.2 1) (zt.1 3) za zb = true))) ∧ h' = h) := by
  refine con_of2 (L := [some (.ref 3), some (.int (nI za)), some (.int (nI zb)), none]) rfl (Nat.le_of_ble_eq_true rfl) rfl ?_
  have zm12 := hO.1
  have zba := hO.2.2.2.2.2.1 za ha
  have zbb := hO.2.2.2.2.2.1 zb hb
  have zm1 := mul_b zba.2.1 zbb.1
  have zm2 := mul_b zbb.2.1 zba.1
  have zm3 := mul_b (mul_b hO.2.2.1 zba.1) zbb.1
  have zdf : dfN (zt.2 1 za * zt.2 0 zb) (zt.2 1 zb * zt.2 0 za) ≤ 99 * 999 := by unfold dfN; split <;> omega
  refine ev_aload_n (pc := 0) dX8_areTwoHands_0 rfl ?_
  refine ev_iload_n (pc := 1) dX8_areTwoHands_1 rfl ?_
  refine ev_callVv (S := []) (pc := 2) dX8_areTwoHands_2 kX8_isRow lX8_74 vX8_isRow (cn_X8_isRow_3 E h zt (nI za) hw hS hO) rfl rfl (wlt hw (by decide)) rfl rfl (Nat.le_of_ble_eq_true rfl) ⟨Nat.le_of_ble_eq_true rfl, Nat.le_of_ble_eq_true rfl⟩ ⟨Nat.le_of_ble_eq_true rfl, Nat.le_of_ble_eq_true rfl⟩ ?_
  refine ev_if_eq (pc := 5) (tgt := 16) dX8_areTwoHands_5 (by decide) (fun zc5 => absurd zc5 (bI_n0.mpr (rwg_n hO ha ha0))) (fun zc5 => ?_)
  refine ev_aload_n (pc := 8) dX8_areTwoHands_8 rfl ?_
  refine ev_iload_n (pc := 9) dX8_areTwoHands_9 rfl ?_
  refine ev_callVv (S := []) (pc := 10) dX8_areTwoHands_10 kX8_isRow lX8_74 vX8_isRow (cn_X8_isRow_3 E h zt (nI zb) hw hS hO) rfl rfl (wlt hw (by decide)) rfl rfl (Nat.le_of_ble_eq_true rfl) ⟨Nat.le_of_ble_eq_true rfl, Nat.le_of_ble_eq_true rfl⟩ ⟨Nat.le_of_ble_eq_true rfl, Nat.le_of_ble_eq_true rfl⟩ ?_
  refine ev_if_ne (pc := 13) (tgt := 18) dX8_areTwoHands_13 (by decide) (fun zc13 => ?_) (fun zc13 => absurd zc13 (bI_n0.mpr (rwg_n hO hb hb0)))
  refine ev_aload_n (pc := 18) dX8_areTwoHands_18 rfl ?_
  refine ev_getR (pc := 19) (q := 5) dX8_areTwoHands_19 fX8_15 rfl (wlt hw (by decide)) (wr hw rfl) ?_
  refine ev_iload_n (pc := 22) dX8_areTwoHands_22 rfl ?_
  refine ev_iald (pc := 23) dX8_areTwoHands_23 rfl (wlt hw (by decide)) (vp_in_nI (by omega) (by decide)) ?_
  refine ev_eqI (e' := h.2.1 5 za) (by rw [show Int32.toNatClampNeg (nI za) = za from nI_clamp (by omega)] <;> rfl) ?_
  refine ev_eqI (e' := nI (zt.2 1 za)) (hS.2.2.2.1 za ha).2.1 ?_
  refine ev_aload_n (pc := 24) dX8_areTwoHands_24 rfl ?_
  refine ev_getR (pc := 25) (q := 4) dX8_areTwoHands_25 fX8_9 rfl (wlt hw (by decide)) (wr hw rfl) ?_
  refine ev_iload_n (pc := 28) dX8_areTwoHands_28 rfl ?_
  refine ev_iald (pc := 29) dX8_areTwoHands_29 rfl (wlt hw (by decide)) (vp_in_nI (by omega) (by decide)) ?_
  refine ev_eqI (e' := h.2.1 4 zb) (by rw [show Int32.toNatClampNeg (nI zb) = zb from nI_clamp (by omega)] <;> rfl) ?_
  refine ev_eqI (e' := nI (zt.2 0 zb)) (hS.2.2.2.1 zb hb).1 ?_
  refine ev_imul (pc := 30) dX8_areTwoHands_30 ?_
  refine ev_eqI (e' := nI ((zt.2 1 za) * (zt.2 0 zb))) (pk_mul (zt.2 1 za) (zt.2 0 zb)) ?_
  refine ev_aload_n (pc := 31) dX8_areTwoHands_31 rfl ?_
  refine ev_getR (pc := 32) (q := 5) dX8_areTwoHands_32 fX8_15 rfl (wlt hw (by decide)) (wr hw rfl) ?_
  refine ev_iload_n (pc := 35) dX8_areTwoHands_35 rfl ?_
  refine ev_iald (pc := 36) dX8_areTwoHands_36 rfl (wlt hw (by decide)) (vp_in_nI (by omega) (by decide)) ?_
  refine ev_eqI (e' := h.2.1 5 zb) (by rw [show Int32.toNatClampNeg (nI zb) = zb from nI_clamp (by omega)] <;> rfl) ?_
  refine ev_eqI (e' := nI (zt.2 1 zb)) (hS.2.2.2.1 zb hb).2.1 ?_
  refine ev_aload_n (pc := 37) dX8_areTwoHands_37 rfl ?_
  refine ev_getR (pc := 38) (q := 4) dX8_areTwoHands_38 fX8_9 rfl (wlt hw (by decide)) (wr hw rfl) ?_
  refine ev_iload_n (pc := 41) dX8_areTwoHands_41 rfl ?_
  refine ev_iald (pc := 42) dX8_areTwoHands_42 rfl (wlt hw (by decide)) (vp_in_nI (by omega) (by decide)) ?_
  refine ev_eqI (e' := h.2.1 4 za) (by rw [show Int32.toNatClampNeg (nI za) = za from nI_clamp (by omega)] <;> rfl) ?_
  refine ev_eqI (e' := nI (zt.2 0 za)) (hS.2.2.2.1 za ha).1 ?_
  refine ev_imul (pc := 43) dX8_areTwoHands_43 ?_
  refine ev_eqI (e' := nI ((zt.2 1 zb) * (zt.2 0 za))) (pk_mul (zt.2 1 zb) (zt.2 0 za)) ?_
  refine ev_isub (pc := 44) dX8_areTwoHands_44 ?_
  refine ev_mabs (pc := 45) dX8_areTwoHands_45 (tw4 99 rfl (by decide +kernel)) (Nat.le_of_ble_eq_true rfl) ⟨Nat.le_of_ble_eq_true rfl, Nat.le_of_ble_eq_true rfl⟩ ⟨Nat.le_of_ble_eq_true rfl, Nat.le_of_ble_eq_true rfl⟩ ?_
  refine ev_eqI (e' := nI (dfN (zt.2 1 za * zt.2 0 zb) (zt.2 1 zb * zt.2 0 za))) (abs_N (by omega) (by omega)) ?_
  refine ev_istore_n (pc := 48) (L' := [some (.ref 3), some (.int (nI za)), some (.int (nI zb)), some (.int (nI (dfN (zt.2 1 za * zt.2 0 zb) (zt.2 1 zb * zt.2 0 za))))]) dX8_areTwoHands_48 (Nat.le_of_ble_eq_true rfl) rfl ?_
  refine ev_iload_n (pc := 49) dX8_areTwoHands_49 rfl ?_
  refine ev_bipush (pc := 50) (v := 10) dX8_areTwoHands_50 (by decide) ?_
  refine ev_imul (pc := 52) dX8_areTwoHands_52 ?_
  refine ev_eqI (e' := nI ((dfN (zt.2 1 za * zt.2 0 zb) (zt.2 1 zb * zt.2 0 za)) * 10)) (pk_mul (dfN (zt.2 1 za * zt.2 0 zb) (zt.2 1 zb * zt.2 0 za)) 10) ?_
  refine ev_aload_n (pc := 53) dX8_areTwoHands_53 rfl ?_
  refine ev_getI (pc := 54) dX8_areTwoHands_54 fX8_49 rfl (wlt hw (by decide)) ?_
  refine ev_eqI (e' := nI (zt.1 3)) hS.2.2.1 ?_
  refine ev_aload_n (pc := 57) dX8_areTwoHands_57 rfl ?_
  refine ev_getR (pc := 58) (q := 4) dX8_areTwoHands_58 fX8_9 rfl (wlt hw (by decide)) (wr hw rfl) ?_
  refine ev_iload_n (pc := 61) dX8_areTwoHands_61 rfl ?_
  refine ev_iald (pc := 62) dX8_areTwoHands_62 rfl (wlt hw (by decide)) (vp_in_nI (by omega) (by decide)) ?_
  refine ev_eqI (e' := h.2.1 4 za) (by rw [show Int32.toNatClampNeg (nI za) = za from nI_clamp (by omega)] <;> rfl) ?_
  refine ev_eqI (e' := nI (zt.2 0 za)) (hS.2.2.2.1 za ha).1 ?_
  refine ev_imul (pc := 63) dX8_areTwoHands_63 ?_
  refine ev_eqI (e' := nI ((zt.1 3) * (zt.2 0 za))) (pk_mul (zt.1 3) (zt.2 0 za)) ?_
  refine ev_aload_n (pc := 64) dX8_areTwoHands_64 rfl ?_
  refine ev_getR (pc := 65) (q := 4) dX8_areTwoHands_65 fX8_9 rfl (wlt hw (by decide)) (wr hw rfl) ?_
  refine ev_iload_n (pc := 68) dX8_areTwoHands_68 rfl ?_
  refine ev_iald (pc := 69) dX8_areTwoHands_69 rfl (wlt hw (by decide)) (vp_in_nI (by omega) (by decide)) ?_
  refine ev_eqI (e' := h.2.1 4 zb) (by rw [show Int32.toNatClampNeg (nI zb) = zb from nI_clamp (by omega)] <;> rfl) ?_
  refine ev_eqI (e' := nI (zt.2 0 zb)) (hS.2.2.2.1 zb hb).1 ?_
  refine ev_imul (pc := 70) dX8_areTwoHands_70 ?_
  refine ev_eqI (e' := nI (((zt.1 3) * (zt.2 0 za)) * (zt.2 0 zb))) (pk_mul ((zt.1 3) * (zt.2 0 za)) (zt.2 0 zb)) ?_
  refine ev_icmp_le (pc := 71) (tgt := 78) dX8_areTwoHands_71 (by decide) (fun zc71 => ?_) (fun zc71 => ?_)
  · -- le at 71: taken
    refine ev_iconst (pc := 78) (v := 0) dX8_areTwoHands_78 (by decide) ?_
    refine ev_iret (pc := 79) dX8_areTwoHands_79 rfl ?_ ?_
    · first | rfl | exact nar_bI _ | (simp only [*]; exact nar_bI _) | (simp [narrow, *]; done)
    · refine ⟨?_, rfl⟩
      have zdd : surN (zt.2 0) (zt.2 1) (zt.1 3) za zb = decide (zt.1 3 * zt.2 0 za * zt.2 0 zb < 10 * dfN (zt.2 1 za * zt.2 0 zb) (zt.2 1 zb * zt.2 0 za)) := rfl
      rw [bI_f (fun z => by rw [zdd, decide_eq_true_iff] at z; have z1 := (nI_leI (by omega) (by omega)).mp zc71; omega)]
  · -- le at 71: not taken
    refine ev_iconst (pc := 74) (v := 1) dX8_areTwoHands_74 (by decide) ?_
    refine ev_goto (pc := 75) (tgt := 79) dX8_areTwoHands_75 (by decide) ?_
    refine ev_iret (pc := 79) dX8_areTwoHands_79 rfl ?_ ?_
    · first | rfl | exact nar_bI _ | (simp only [*]; exact nar_bI _) | (simp [narrow, *]; done)
    · refine ⟨?_, rfl⟩
      have zdd : surN (zt.2 0) (zt.2 1) (zt.1 3) za zb = decide (zt.1 3 * zt.2 0 za * zt.2 0 zb < 10 * dfN (zt.2 1 za * zt.2 0 zb) (zt.2 1 zb * zt.2 0 za)) := rfl
      rw [bI_t (by rw [zdd, decide_eq_true_iff]; have z1 : ¬ dfN (zt.2 1 za * zt.2 0 zb) (zt.2 1 zb * zt.2 0 za) * 10 ≤ zt.1 3 * zt.2 0 za * zt.2 0 zb := fun z => zc71 ((nI_leI (by omega) (by omega)).mpr z); omega)]
theorem cn_X10_sure_3 (E : ME) (h : AH) (zt : PSt) (za0 zb0 : Int32) (hw : WF h) (hS : STz zt 3 h) (hO : POK zt) (hst : h.2.2.2 0 1 = some 3) : Con E mX10_sure 4 0 0 [.ref 0, .int za0, .int zb0] h (fun r h' => r = some (.int (if rwg zt za0 ∧ rwg zt zb0 ∧ ¬ za0 = zb0 then (if surN (zt.2 0) (zt.2 1) (zt.1 3) za0.toNatClampNeg zb0.toNatClampNeg then 1 else 0) else -1)) ∧ h' = h) := by
  refine con_of2 (L := [some (.ref 0), some (.int za0), some (.int zb0)]) rfl (Nat.le_of_ble_eq_true rfl) rfl ?_
  refine ev_iload_n (pc := 0) dX10_sure_0 rfl ?_
  refine ev_iload_n (pc := 1) dX10_sure_1 rfl ?_
  refine ev_icmp_eq (pc := 2) (tgt := 27) dX10_sure_2 (by decide) (fun zc2 => ?_) (fun zc2 => ?_)
  · -- eq at 2: taken
    refine ev_iconst (pc := 27) (v := (-1)) dX10_sure_27 (by decide) ?_
    refine ev_iret (pc := 28) dX10_sure_28 rfl ?_ ?_
    · rfl
    · refine ⟨?_, rfl⟩
      rw [if_neg (show ¬ (rwg zt za0 ∧ rwg zt zb0 ∧ ¬ za0 = zb0) from fun z => z.2.2 zc2)]
  · -- eq at 2: not taken
    refine ev_aload_n (pc := 5) dX10_sure_5 rfl ?_
    refine ev_getR (pc := 6) (q := 3) dX10_sure_6 fX10_19 rfl (wlt hw (by decide)) hst ?_
    refine ev_iload_n (pc := 9) dX10_sure_9 rfl ?_
    refine ev_callVv (S := []) (pc := 10) dX10_sure_10 kX8_isRow lX10_232 vX8_isRow (cn_X8_isRow_3 E h zt za0 hw hS hO) rfl rfl (wlt hw (by decide)) rfl rfl (Nat.le_of_ble_eq_true rfl) ⟨Nat.le_of_ble_eq_true rfl, Nat.le_of_ble_eq_true rfl⟩ ⟨Nat.le_of_ble_eq_true rfl, Nat.le_of_ble_eq_true rfl⟩ ?_
    refine ev_if_eq (pc := 13) (tgt := 27) dX10_sure_13 (by decide) (fun zc13 => ?_) (fun zc13 => ?_)
    · -- eq at 13: taken
      refine ev_iconst (pc := 27) (v := (-1)) dX10_sure_27 (by decide) ?_
      refine ev_iret (pc := 28) dX10_sure_28 rfl ?_ ?_
      · rfl
      · refine ⟨?_, rfl⟩
        rw [if_neg (show ¬ (rwg zt za0 ∧ rwg zt zb0 ∧ ¬ za0 = zb0) from fun z => bI_0.mp zc13 z.1)]
    · -- eq at 13: not taken
      refine ev_aload_n (pc := 16) dX10_sure_16 rfl ?_
      refine ev_getR (pc := 17) (q := 3) dX10_sure_17 fX10_19 rfl (wlt hw (by decide)) hst ?_
      refine ev_iload_n (pc := 20) dX10_sure_20 rfl ?_
      refine ev_callVv (S := []) (pc := 21) dX10_sure_21 kX8_isRow lX10_232 vX8_isRow (cn_X8_isRow_3 E h zt zb0 hw hS hO) rfl rfl (wlt hw (by decide)) rfl rfl (Nat.le_of_ble_eq_true rfl) ⟨Nat.le_of_ble_eq_true rfl, Nat.le_of_ble_eq_true rfl⟩ ⟨Nat.le_of_ble_eq_true rfl, Nat.le_of_ble_eq_true rfl⟩ ?_
      refine ev_if_ne (pc := 24) (tgt := 29) dX10_sure_24 (by decide) (fun zc24 => ?_) (fun zc24 => ?_)
      · -- ne at 24: taken
        obtain ⟨za, ha, ha0, rfl⟩ := rwg_of hO (bI_n0.mp zc13)
        obtain ⟨zb, hb, hb0, rfl⟩ := rwg_of hO (bI_n0.mp zc24)
        have zm12 := hO.1
        refine ev_aload_n (pc := 29) dX10_sure_29 rfl ?_
        refine ev_getR (pc := 30) (q := 3) dX10_sure_30 fX10_19 rfl (wlt hw (by decide)) hst ?_
        refine ev_iload_n (pc := 33) dX10_sure_33 rfl ?_
        refine ev_iload_n (pc := 34) dX10_sure_34 rfl ?_
        refine ev_callVv (S := []) (pc := 35) dX10_sure_35 kX8_areTwoHands lX10_240 vX8_areTwoHands (cn_X8_areTwoHands_3 E h zt za zb hw hS hO ha hb ha0 hb0) rfl rfl (wlt hw (by decide)) rfl rfl (Nat.le_of_ble_eq_true rfl) ⟨Nat.le_of_ble_eq_true rfl, Nat.le_of_ble_eq_true rfl⟩ ⟨Nat.le_of_ble_eq_true rfl, Nat.le_of_ble_eq_true rfl⟩ ?_
        refine ev_if_eq (pc := 38) (tgt := 45) dX10_sure_38 (by decide) (fun zc38 => ?_) (fun zc38 => ?_)
        · -- eq at 38: taken
          refine ev_iconst (pc := 45) (v := 0) dX10_sure_45 (by decide) ?_
          refine ev_iret (pc := 46) dX10_sure_46 rfl ?_ ?_
          · rfl
          · refine ⟨?_, rfl⟩
            rw [if_pos (show rwg zt (nI za) ∧ rwg zt (nI zb) ∧ ¬ (nI za) = (nI zb) from ⟨bI_n0.mp zc13, bI_n0.mp zc24, zc2⟩), nI_clamp (n := za) (by omega), nI_clamp (n := zb) (by omega)]
            rw [if_neg (bI_0.mp zc38)]
        · -- eq at 38: not taken
          refine ev_iconst (pc := 41) (v := 1) dX10_sure_41 (by decide) ?_
          refine ev_goto (pc := 42) (tgt := 46) dX10_sure_42 (by decide) ?_
          refine ev_iret (pc := 46) dX10_sure_46 rfl ?_ ?_
          · rfl
          · refine ⟨?_, rfl⟩
            rw [if_pos (show rwg zt (nI za) ∧ rwg zt (nI zb) ∧ ¬ (nI za) = (nI zb) from ⟨bI_n0.mp zc13, bI_n0.mp zc24, zc2⟩), nI_clamp (n := za) (by omega), nI_clamp (n := zb) (by omega)]
            rw [if_pos (bI_n0.mp zc38)]
      · -- ne at 24: not taken
        refine ev_iconst (pc := 27) (v := (-1)) dX10_sure_27 (by decide) ?_
        refine ev_iret (pc := 28) dX10_sure_28 rfl ?_ ?_
        · rfl
        · refine ⟨?_, rfl⟩
          rw [if_neg (show ¬ (rwg zt za0 ∧ rwg zt zb0 ∧ ¬ za0 = zb0) from fun z => bI_0.mp zc24 z.2.1)]
theorem cn_X10_size_3 (E : ME) (h : AH) (zt : PSt) (za0 zv : Int32) (hw : WF h) (hS : STz zt 3 h) (hO : POK zt) (hst : h.2.2.2 0 1 = some 3) : Con E mX10_size 3 0 0 [.ref 0, .int za0, .int zv] h (fun r h' => r = some (.int (if rwg zt za0 ∧ (0 ≤ zv ∧ zv ≤ 1) then (if zv = 0 then nI (zt.2 1 za0.toNatClampNeg / Nat.gcd (zt.2 1 za0.toNatClampNeg) (zt.2 0 za0.toNatClampNeg)) else nI (zt.2 0 za0.toNatClampNeg / Nat.gcd (zt.2 1 za0.toNatClampNeg) (zt.2 0 za0.toNatClampNeg))) else -1)) ∧ h' = h) := by
  refine con_of2 (L := [some (.ref 0), some (.int za0), some (.int zv), none, none, none]) rfl (Nat.le_of_ble_eq_true rfl) rfl ?_
  refine ev_aload_n (pc := 0) dX10_size_0 rfl ?_
  refine ev_getR (pc := 1) (q := 3) dX10_size_1 fX10_19 rfl (wlt hw (by decide)) hst ?_
  refine ev_iload_n (pc := 4) dX10_size_4 rfl ?_
  refine ev_callVv (S := []) (pc := 5) dX10_size_5 kX8_isRow lX10_232 vX8_isRow (cn_X8_isRow_3 E h zt za0 hw hS hO) rfl rfl (wlt hw (by decide)) rfl rfl (Nat.le_of_ble_eq_true rfl) ⟨Nat.le_of_ble_eq_true rfl, Nat.le_of_ble_eq_true rfl⟩ ⟨Nat.le_of_ble_eq_true rfl, Nat.le_of_ble_eq_true rfl⟩ ?_
  refine ev_if_eq (pc := 8) (tgt := 20) dX10_size_8 (by decide) (fun zc8 => ?_) (fun zc8 => ?_)
  · -- eq at 8: taken
    refine ev_iconst (pc := 20) (v := (-1)) dX10_size_20 (by decide) ?_
    refine ev_iret (pc := 21) dX10_size_21 rfl ?_ ?_
    · rfl
    · refine ⟨?_, rfl⟩
      rw [if_neg (show ¬ (rwg zt za0 ∧ (0 ≤ zv ∧ zv ≤ 1)) from fun z => bI_0.mp zc8 z.1)]
  · -- eq at 8: not taken
    refine ev_iload_n (pc := 11) dX10_size_11 rfl ?_
    refine ev_iconst (pc := 12) (v := 0) dX10_size_12 (by decide) ?_
    refine ev_iconst (pc := 13) (v := 1) dX10_size_13 (by decide) ?_
    refine ev_callSv (S := []) (pc := 14) dX10_size_14 kX10_within lX10_123 sX10_within (cn_X10_within E h zv 0 1) rfl rfl (Nat.le_of_ble_eq_true rfl) ⟨Nat.le_of_ble_eq_true rfl, Nat.le_of_ble_eq_true rfl⟩ ⟨Nat.le_of_ble_eq_true rfl, Nat.le_of_ble_eq_true rfl⟩ ?_
    refine ev_if_ne (pc := 17) (tgt := 22) dX10_size_17 (by decide) (fun zc17 => ?_) (fun zc17 => ?_)
    · -- ne at 17: taken
      obtain ⟨za, ha, ha0, rfl⟩ := rwg_of hO (bI_n0.mp zc8)
      have zm12 := hO.1
      have zba := hO.2.2.2.2.2.1 za ha
      have zth := (bI_n0.mp zc8).1
      have zgp := gcd_pos2 (a := zt.2 1 za) ha0
      have zgl := Nat.gcd_le_right (zt.2 1 za) ha0
      refine ev_aload_n (pc := 22) dX10_size_22 rfl ?_
      refine ev_getR (pc := 23) (q := 3) dX10_size_23 fX10_19 rfl (wlt hw (by decide)) hst ?_
      refine ev_iload_n (pc := 26) dX10_size_26 rfl ?_
      refine ev_callVv (S := []) (pc := 27) dX10_size_27 kX8_lengthOf lX10_140 vX8_lengthOf (cn_X8_lengthOf_3 E h zt (nI za) hw hS hO) rfl rfl (wlt hw (by decide)) rfl rfl (Nat.le_of_ble_eq_true rfl) ⟨Nat.le_of_ble_eq_true rfl, Nat.le_of_ble_eq_true rfl⟩ ⟨Nat.le_of_ble_eq_true rfl, Nat.le_of_ble_eq_true rfl⟩ ?_
      refine ev_eqI (e' := nI (zt.2 1 za)) (by rw [if_pos zth, nI_clamp (by omega)]) ?_
      refine ev_istore_n (pc := 30) (L' := [some (.ref 0), some (.int (nI za)), some (.int zv), some (.int (nI (zt.2 1 za))), none, none]) dX10_size_30 (Nat.le_of_ble_eq_true rfl) rfl ?_
      refine ev_aload_n (pc := 31) dX10_size_31 rfl ?_
      refine ev_getR (pc := 32) (q := 3) dX10_size_32 fX10_19 rfl (wlt hw (by decide)) hst ?_
      refine ev_iload_n (pc := 35) dX10_size_35 rfl ?_
      refine ev_callVv (S := []) (pc := 36) dX10_size_36 kX8_cubesOf lX10_137 vX8_cubesOf (cn_X8_cubesOf_3 E h zt (nI za) hw hS hO) rfl rfl (wlt hw (by decide)) rfl rfl (Nat.le_of_ble_eq_true rfl) ⟨Nat.le_of_ble_eq_true rfl, Nat.le_of_ble_eq_true rfl⟩ ⟨Nat.le_of_ble_eq_true rfl, Nat.le_of_ble_eq_true rfl⟩ ?_
      refine ev_eqI (e' := nI (zt.2 0 za)) (by rw [if_pos zth, nI_clamp (by omega)]) ?_
      refine ev_istore (pc := 39) (L' := [some (.ref 0), some (.int (nI za)), some (.int zv), some (.int (nI (zt.2 1 za))), some (.int (nI (zt.2 0 za))), none]) dX10_size_39 (Nat.le_of_ble_eq_true rfl) rfl ?_
      refine ev_iload_n (pc := 41) dX10_size_41 rfl ?_
      refine ev_i2l (pc := 42) dX10_size_42 ?_
      refine ev_eqJ (e' := lN (zt.2 1 za)) (nI_l (by omega)) ?_
      refine ev_iload (pc := 43) dX10_size_43 rfl ?_
      refine ev_i2l (pc := 45) dX10_size_45 ?_
      refine ev_eqJ (e' := lN (zt.2 0 za)) (nI_l (by omega)) ?_
      refine ev_callSv (S := []) (pc := 46) dX10_size_46 kX10_sharedDivisor lX10_218 sX10_sharedDivisor (cn_X10_sharedDivisor E h (zt.2 1 za) (zt.2 0 za) hw (by omega) (by omega) zgp) rfl rfl (Nat.le_of_ble_eq_true rfl) ⟨Nat.le_of_ble_eq_true rfl, Nat.le_of_ble_eq_true rfl⟩ ⟨Nat.le_of_ble_eq_true rfl, Nat.le_of_ble_eq_true rfl⟩ ?_
      refine ev_l2i (pc := 49) dX10_size_49 ?_
      refine ev_eqI (e' := nI (Nat.gcd (zt.2 1 za) (zt.2 0 za))) (lN_i _) ?_
      refine ev_istore (pc := 50) (L' := [some (.ref 0), some (.int (nI za)), some (.int zv), some (.int (nI (zt.2 1 za))), some (.int (nI (zt.2 0 za))), some (.int (nI (Nat.gcd (zt.2 1 za) (zt.2 0 za))))]) dX10_size_50 (Nat.le_of_ble_eq_true rfl) rfl ?_
      refine ev_iload_n (pc := 52) dX10_size_52 rfl ?_
      refine ev_if_ne (pc := 53) (tgt := 60) dX10_size_53 (by decide) (fun zc53 => ?_) (fun zc53 => ?_)
      · -- ne at 53: taken
        refine ev_iload (pc := 60) dX10_size_60 rfl ?_
        refine ev_iconst (pc := 62) (v := 1) dX10_size_62 (by decide) ?_
        refine ev_iload (pc := 63) dX10_size_63 rfl ?_
        refine ev_mmax (pc := 65) dX10_size_65 (tw4 87 rfl (by decide +kernel)) (Nat.le_of_ble_eq_true rfl) ⟨Nat.le_of_ble_eq_true rfl, Nat.le_of_ble_eq_true rfl⟩ ⟨Nat.le_of_ble_eq_true rfl, Nat.le_of_ble_eq_true rfl⟩ ?_
        refine ev_eqI (e' := nI (Nat.gcd (zt.2 1 za) (zt.2 0 za))) (by split; rfl; rename_i z; have z1 : ¬ 1 < Nat.gcd (zt.2 1 za) (zt.2 0 za) := fun y => z (nI_lt (a := 1) y (by omega)); rw [show Nat.gcd (zt.2 1 za) (zt.2 0 za) = 1 by omega]; rfl) ?_
        refine ev_idiv (pc := 68) dX10_size_68 (nI_ne0 zgp (by omega)) ?_
        refine ev_eqI (e' := nI ((zt.2 0 za) / (Nat.gcd (zt.2 1 za) (zt.2 0 za)))) (pk_div (a := zt.2 0 za) (d := Nat.gcd (zt.2 1 za) (zt.2 0 za)) (by omega) (by omega) (by omega)) ?_
        refine ev_iret (pc := 69) dX10_size_69 rfl ?_ ?_
        · rfl
        · refine ⟨?_, rfl⟩
          rw [if_pos (show rwg zt (nI za) ∧ (0 ≤ zv ∧ zv ≤ 1) from ⟨bI_n0.mp zc8, bI_n0.mp zc17⟩), nI_clamp (n := za) (by omega), if_neg zc53]
      · -- ne at 53: not taken
        refine ev_iload_n (pc := 56) dX10_size_56 rfl ?_
        refine ev_goto (pc := 57) (tgt := 62) dX10_size_57 (by decide) ?_
        refine ev_iconst (pc := 62) (v := 1) dX10_size_62 (by decide) ?_
        refine ev_iload (pc := 63) dX10_size_63 rfl ?_
        refine ev_mmax (pc := 65) dX10_size_65 (tw4 87 rfl (by decide +kernel)) (Nat.le_of_ble_eq_true rfl) ⟨Nat.le_of_ble_eq_true rfl, Nat.le_of_ble_eq_true rfl⟩ ⟨Nat.le_of_ble_eq_true rfl, Nat.le_of_ble_eq_true rfl⟩ ?_
        refine ev_eqI (e' := nI (Nat.gcd (zt.2 1 za) (zt.2 0 za))) (by split; rfl; rename_i z; have z1 : ¬ 1 < Nat.gcd (zt.2 1 za) (zt.2 0 za) := fun y => z (nI_lt (a := 1) y (by omega)); rw [show Nat.gcd (zt.2 1 za) (zt.2 0 za) = 1 by omega]; rfl) ?_
        refine ev_idiv (pc := 68) dX10_size_68 (nI_ne0 zgp (by omega)) ?_
        refine ev_eqI (e' := nI ((zt.2 1 za) / (Nat.gcd (zt.2 1 za) (zt.2 0 za)))) (pk_div (a := zt.2 1 za) (d := Nat.gcd (zt.2 1 za) (zt.2 0 za)) (by omega) (by omega) (by omega)) ?_
        refine ev_iret (pc := 69) dX10_size_69 rfl ?_ ?_
        · rfl
        · refine ⟨?_, rfl⟩
          rw [if_pos (show rwg zt (nI za) ∧ (0 ≤ zv ∧ zv ≤ 1) from ⟨bI_n0.mp zc8, bI_n0.mp zc17⟩), nI_clamp (n := za) (by omega), if_pos zc53]
    · -- ne at 17: not taken
      refine ev_iconst (pc := 20) (v := (-1)) dX10_size_20 (by decide) ?_
      refine ev_iret (pc := 21) dX10_size_21 rfl ?_ ?_
      · rfl
      · refine ⟨?_, rfl⟩
        rw [if_neg (show ¬ (rwg zt za0 ∧ (0 ≤ zv ∧ zv ≤ 1)) from fun z => bI_0.mp zc17 z.2)]
theorem lp_least_3 (E : ME) (h : AH) (zt : PSt) (zs : Nat) (hw : WF h) (hS : STz zt 3 h) (hO : POK zt) {post : PO} (K : Ev E mX8_handOfLeast (rmm 4 0 0) (QM E 0 0 post) 0 0 61 [some (.ref 3), some (.int (nI zs)), some (.int (lsW (lsN (zt.2 0) (zt.2 1) zs (zt.1 1)))), some (.int (nI (zt.1 1))), none] [] h) : ∀ n i : Nat, i + n = (zt.1 1) → Ev E mX8_handOfLeast (rmm 4 0 0) (QM E 0 0 post) 0 0 4 [some (.ref 3), some (.int (nI zs)), some (.int (lsW (lsN (zt.2 0) (zt.2 1) zs i))), some (.int (nI i)), none] [] h := by
  intro n
  induction n with
  | zero =>
    intro i hi
    obtain rfl : zt.1 1 = i := by omega
    refine ev_iload_n (pc := 4) dX8_handOfLeast_4 rfl ?_
    refine ev_aload_n (pc := 5) dX8_handOfLeast_5 rfl ?_
    refine ev_getI (pc := 6) dX8_handOfLeast_6 fX8_42 rfl (wlt hw (by decide)) ?_
    refine ev_eqI (e' := nI (zt.1 1)) hS.1 ?_
    refine ev_icmp_ge (pc := 9) (tgt := 61) dX8_handOfLeast_9 (by decide) (fun zc9 => ?_) (fun zc9 => absurd (nI_le (Nat.le_refl _) (by have := hO.1; omega)) zc9)
    exact K
  | succ n ih =>
    intro i hi
    have hlt : i < (zt.1 1) := by omega
    have zm12 := hO.1
    refine ev_iload_n (pc := 4) dX8_handOfLeast_4 rfl ?_
    refine ev_aload_n (pc := 5) dX8_handOfLeast_5 rfl ?_
    refine ev_getI (pc := 6) dX8_handOfLeast_6 fX8_42 rfl (wlt hw (by decide)) ?_
    refine ev_eqI (e' := nI (zt.1 1)) hS.1 ?_
    refine ev_icmp_ge (pc := 9) (tgt := 61) dX8_handOfLeast_9 (by decide) (fun zc9 => absurd zc9 (nI_ge hlt (by have := hO.1; omega))) (fun zc9 => ?_)
    refine ev_iload_n (pc := 12) dX8_handOfLeast_12 rfl ?_
    refine ev_iload_n (pc := 13) dX8_handOfLeast_13 rfl ?_
    refine ev_callSv (S := []) (pc := 14) dX8_handOfLeast_14 kX10_has lX8_70 sX10_has (cn_X10_has E h (nI zs) (nI i)) rfl rfl (Nat.le_of_ble_eq_true rfl) ⟨Nat.le_of_ble_eq_true rfl, Nat.le_of_ble_eq_true rfl⟩ ⟨Nat.le_of_ble_eq_true rfl, Nat.le_of_ble_eq_true rfl⟩ ?_
    refine ev_if_eq (pc := 17) (tgt := 55) dX8_handOfLeast_17 (by decide) (fun zc17 => ?_) (fun zc17 => ?_)
    · -- eq at 17: taken
      refine ev_iinc (pc := 55) (v := nI (i + 1)) (L' := [some (.ref 3), some (.int (nI zs)), some (.int (lsW (lsN (zt.2 0) (zt.2 1) zs i))), some (.int (nI (i + 1))), none]) dX8_handOfLeast_55 rfl (nI_1 _) (Nat.le_of_ble_eq_true rfl) rfl ?_
      refine ev_goto (pc := 58) (tgt := 4) dX8_handOfLeast_58 (by decide) ?_
      refine ev_eqL (L' := [some (.ref 3), some (.int (nI zs)), some (.int (lsW (lsN (zt.2 0) (zt.2 1) zs (i + 1)))), some (.int (nI (i + 1))), none]) (by rw [lsN]; rw [if_neg (fun zq => bI_0.mp zc17 ((has_b (by omega)).mpr zq.1))]) ?_
      exact ih (i + 1) (by omega)
    · -- eq at 17: not taken
      refine ev_iload_n (pc := 20) dX8_handOfLeast_20 rfl ?_
      refine ev_if_lt (pc := 21) (tgt := 53) dX8_handOfLeast_21 (by decide) (fun zc21 => ?_) (fun zc21 => ?_)
      · -- lt at 21: taken
        refine ev_iload_n (pc := 53) dX8_handOfLeast_53 rfl ?_
        refine ev_istore_n (pc := 54) (L' := [some (.ref 3), some (.int (nI zs)), some (.int (nI i)), some (.int (nI i)), none]) dX8_handOfLeast_54 (Nat.le_of_ble_eq_true rfl) rfl ?_
        refine ev_iinc (pc := 55) (v := nI (i + 1)) (L' := [some (.ref 3), some (.int (nI zs)), some (.int (nI i)), some (.int (nI (i + 1))), none]) dX8_handOfLeast_55 rfl (nI_1 _) (Nat.le_of_ble_eq_true rfl) rfl ?_
        refine ev_goto (pc := 58) (tgt := 4) dX8_handOfLeast_58 (by decide) ?_
        refine ev_eqL (L' := [some (.ref 3), some (.int (nI zs)), some (.int (lsW (lsN (zt.2 0) (zt.2 1) zs (i + 1)))), some (.int (nI (i + 1))), none]) (by rw [lsN]; rw [if_pos ⟨(has_b (by omega)).mp (bI_n0.mp zc17), Or.inl ((lsW_l (ls_13 (zt.2 0) (zt.2 1) zs (by omega))).mp zc21)⟩, lsW_n (zx := i) (by omega)]) ?_
        exact ih (i + 1) (by omega)
      · -- lt at 21: not taken
        have zq13 : lsN (zt.2 0) (zt.2 1) zs i < i := by
          rcases ls_ok (zt.2 0) (zt.2 1) zs i with z | z
          · exact z.1
          · exact absurd ((lsW_l (ls_13 (zt.2 0) (zt.2 1) zs (by omega))).mpr z.1) zc21
        have z9i := hS.2.2.2.1 i hlt
        have z9q := hS.2.2.2.1 (lsN (zt.2 0) (zt.2 1) zs i) (by omega)
        have zbi := hO.2.2.2.2.2.1 i hlt
        have zbq := hO.2.2.2.2.2.1 (lsN (zt.2 0) (zt.2 1) zs i) (by omega)
        have zm1 := mul_b zbi.2.1 zbq.1
        have zm2 := mul_b zbq.2.1 zbi.1
        refine ev_eqL (L' := [some (.ref 3), some (.int (nI zs)), some (.int (nI (lsN (zt.2 0) (zt.2 1) zs i))), some (.int (nI i)), none]) (by rw [lsW_n (by omega)]) ?_
        refine ev_aload_n (pc := 24) dX8_handOfLeast_24 rfl ?_
        refine ev_getR (pc := 25) (q := 5) dX8_handOfLeast_25 fX8_15 rfl (wlt hw (by decide)) (wr hw rfl) ?_
        refine ev_iload_n (pc := 28) dX8_handOfLeast_28 rfl ?_
        refine ev_iald (pc := 29) dX8_handOfLeast_29 rfl (wlt hw (by decide)) (vp_in_nI (by omega) (by decide)) ?_
        refine ev_eqI (e' := h.2.1 5 i) (by rw [show Int32.toNatClampNeg (nI i) = i from nI_clamp (by omega)] <;> rfl) ?_
        refine ev_eqI (e' := nI (zt.2 1 i)) z9i.2.1 ?_
        refine ev_aload_n (pc := 30) dX8_handOfLeast_30 rfl ?_
        refine ev_getR (pc := 31) (q := 4) dX8_handOfLeast_31 fX8_9 rfl (wlt hw (by decide)) (wr hw rfl) ?_
        refine ev_iload_n (pc := 34) dX8_handOfLeast_34 rfl ?_
        refine ev_iald (pc := 35) dX8_handOfLeast_35 rfl (wlt hw (by decide)) (vp_in_nI (by omega) (by decide)) ?_
        refine ev_eqI (e' := h.2.1 4 (lsN (zt.2 0) (zt.2 1) zs i)) (by rw [show Int32.toNatClampNeg (nI (lsN (zt.2 0) (zt.2 1) zs i)) = lsN (zt.2 0) (zt.2 1) zs i from nI_clamp (by omega)] <;> rfl) ?_
        refine ev_eqI (e' := nI (zt.2 0 (lsN (zt.2 0) (zt.2 1) zs i))) z9q.1 ?_
        refine ev_imul (pc := 36) dX8_handOfLeast_36 ?_
        refine ev_eqI (e' := nI ((zt.2 1 i) * (zt.2 0 (lsN (zt.2 0) (zt.2 1) zs i)))) (pk_mul (zt.2 1 i) (zt.2 0 (lsN (zt.2 0) (zt.2 1) zs i))) ?_
        refine ev_aload_n (pc := 37) dX8_handOfLeast_37 rfl ?_
        refine ev_getR (pc := 38) (q := 5) dX8_handOfLeast_38 fX8_15 rfl (wlt hw (by decide)) (wr hw rfl) ?_
        refine ev_iload_n (pc := 41) dX8_handOfLeast_41 rfl ?_
        refine ev_iald (pc := 42) dX8_handOfLeast_42 rfl (wlt hw (by decide)) (vp_in_nI (by omega) (by decide)) ?_
        refine ev_eqI (e' := h.2.1 5 (lsN (zt.2 0) (zt.2 1) zs i)) (by rw [show Int32.toNatClampNeg (nI (lsN (zt.2 0) (zt.2 1) zs i)) = lsN (zt.2 0) (zt.2 1) zs i from nI_clamp (by omega)] <;> rfl) ?_
        refine ev_eqI (e' := nI (zt.2 1 (lsN (zt.2 0) (zt.2 1) zs i))) z9q.2.1 ?_
        refine ev_aload_n (pc := 43) dX8_handOfLeast_43 rfl ?_
        refine ev_getR (pc := 44) (q := 4) dX8_handOfLeast_44 fX8_9 rfl (wlt hw (by decide)) (wr hw rfl) ?_
        refine ev_iload_n (pc := 47) dX8_handOfLeast_47 rfl ?_
        refine ev_iald (pc := 48) dX8_handOfLeast_48 rfl (wlt hw (by decide)) (vp_in_nI (by omega) (by decide)) ?_
        refine ev_eqI (e' := h.2.1 4 i) (by rw [show Int32.toNatClampNeg (nI i) = i from nI_clamp (by omega)] <;> rfl) ?_
        refine ev_eqI (e' := nI (zt.2 0 i)) z9i.1 ?_
        refine ev_imul (pc := 49) dX8_handOfLeast_49 ?_
        refine ev_eqI (e' := nI ((zt.2 1 (lsN (zt.2 0) (zt.2 1) zs i)) * (zt.2 0 i))) (pk_mul (zt.2 1 (lsN (zt.2 0) (zt.2 1) zs i)) (zt.2 0 i)) ?_
        refine ev_icmp_ge (pc := 50) (tgt := 55) dX8_handOfLeast_50 (by decide) (fun zc50 => ?_) (fun zc50 => ?_)
        · -- ge at 50: taken
          refine ev_iinc (pc := 55) (v := nI (i + 1)) (L' := [some (.ref 3), some (.int (nI zs)), some (.int (nI (lsN (zt.2 0) (zt.2 1) zs i))), some (.int (nI (i + 1))), none]) dX8_handOfLeast_55 rfl (nI_1 _) (Nat.le_of_ble_eq_true rfl) rfl ?_
          refine ev_goto (pc := 58) (tgt := 4) dX8_handOfLeast_58 (by decide) ?_
          refine ev_eqL (L' := [some (.ref 3), some (.int (nI zs)), some (.int (lsW (lsN (zt.2 0) (zt.2 1) zs (i + 1)))), some (.int (nI (i + 1))), none]) (by rw [lsN]; rw [if_neg (fun zq => by rcases zq.2 with z | z; exact (by omega); exact absurd ((nI_leI (by omega) (by omega)).mp zc50) (by omega)), lsW_n (by omega)]) ?_
          exact ih (i + 1) (by omega)
        · -- ge at 50: not taken
          refine ev_iload_n (pc := 53) dX8_handOfLeast_53 rfl ?_
          refine ev_istore_n (pc := 54) (L' := [some (.ref 3), some (.int (nI zs)), some (.int (nI i)), some (.int (nI i)), none]) dX8_handOfLeast_54 (Nat.le_of_ble_eq_true rfl) rfl ?_
          refine ev_iinc (pc := 55) (v := nI (i + 1)) (L' := [some (.ref 3), some (.int (nI zs)), some (.int (nI i)), some (.int (nI (i + 1))), none]) dX8_handOfLeast_55 rfl (nI_1 _) (Nat.le_of_ble_eq_true rfl) rfl ?_
          refine ev_goto (pc := 58) (tgt := 4) dX8_handOfLeast_58 (by decide) ?_
          refine ev_eqL (L' := [some (.ref 3), some (.int (nI zs)), some (.int (lsW (lsN (zt.2 0) (zt.2 1) zs (i + 1)))), some (.int (nI (i + 1))), none]) (by rw [lsN]; rw [if_pos ⟨(has_b (by omega)).mp (bI_n0.mp zc17), Or.inr (Nat.not_le.mp (fun z => zc50 ((nI_leI (by omega) (by omega)).mpr z)))⟩, lsW_n (zx := i) (by omega)]) ?_
          exact ih (i + 1) (by omega)
theorem lp_hand_3 (E : ME) (h : AH) (zt : PSt) (zs zq : Nat) (hw : WF h) (hS : STz zt 3 h) (hO : POK zt) (hs : zs < 2 ^ zt.1 1) (hr : ∀ zi, zi < zt.1 1 → zs.testBit zi = true → 0 < zt.2 0 zi) (hq : zq < zt.1 1) (hq0 : 0 < zt.2 0 zq) {post : PO} (K : Ev E mX8_handOfLeast (rmm 4 0 0) (QM E 0 0 post) 0 0 107 [some (.ref 3), some (.int (nI zs)), some (.int (nI zq)), some (.int (nI (hdN (zt.2 0) (zt.2 1) (zt.1 3) zs zq (zt.1 1)))), some (.int (nI (zt.1 1)))] [] h) : ∀ n i : Nat, i + n = (zt.1 1) → Ev E mX8_handOfLeast (rmm 4 0 0) (QM E 0 0 post) 0 0 66 [some (.ref 3), some (.int (nI zs)), some (.int (nI zq)), some (.int (nI (hdN (zt.2 0) (zt.2 1) (zt.1 3) zs zq i))), some (.int (nI i))] [] h := by
  intro n
  induction n with
  | zero =>
    intro i hi
    obtain rfl : zt.1 1 = i := by omega
    refine ev_iload (pc := 66) dX8_handOfLeast_66 rfl ?_
    refine ev_aload_n (pc := 68) dX8_handOfLeast_68 rfl ?_
    refine ev_getI (pc := 69) dX8_handOfLeast_69 fX8_42 rfl (wlt hw (by decide)) ?_
    refine ev_eqI (e' := nI (zt.1 1)) hS.1 ?_
    refine ev_icmp_ge (pc := 72) (tgt := 107) dX8_handOfLeast_72 (by decide) (fun zc72 => ?_) (fun zc72 => absurd (nI_le (Nat.le_refl _) (by have := hO.1; omega)) zc72)
    exact K
  | succ n ih =>
    intro i hi
    have hlt : i < (zt.1 1) := by omega
    have zm12 := hO.1
    refine ev_iload (pc := 66) dX8_handOfLeast_66 rfl ?_
    refine ev_aload_n (pc := 68) dX8_handOfLeast_68 rfl ?_
    refine ev_getI (pc := 69) dX8_handOfLeast_69 fX8_42 rfl (wlt hw (by decide)) ?_
    refine ev_eqI (e' := nI (zt.1 1)) hS.1 ?_
    refine ev_icmp_ge (pc := 72) (tgt := 107) dX8_handOfLeast_72 (by decide) (fun zc72 => absurd zc72 (nI_ge hlt (by have := hO.1; omega))) (fun zc72 => ?_)
    refine ev_iload_n (pc := 75) dX8_handOfLeast_75 rfl ?_
    refine ev_iload (pc := 76) dX8_handOfLeast_76 rfl ?_
    refine ev_callSv (S := []) (pc := 78) dX8_handOfLeast_78 kX10_has lX8_70 sX10_has (cn_X10_has E h (nI zs) (nI i)) rfl rfl (Nat.le_of_ble_eq_true rfl) ⟨Nat.le_of_ble_eq_true rfl, Nat.le_of_ble_eq_true rfl⟩ ⟨Nat.le_of_ble_eq_true rfl, Nat.le_of_ble_eq_true rfl⟩ ?_
    refine ev_if_eq (pc := 81) (tgt := 101) dX8_handOfLeast_81 (by decide) (fun zc81 => ?_) (fun zc81 => ?_)
    · -- eq at 81: taken
      refine ev_iinc (pc := 101) (v := nI (i + 1)) (L' := [some (.ref 3), some (.int (nI zs)), some (.int (nI zq)), some (.int (nI (hdN (zt.2 0) (zt.2 1) (zt.1 3) zs zq i))), some (.int (nI (i + 1)))]) dX8_handOfLeast_101 rfl (nI_1 _) (Nat.le_of_ble_eq_true rfl) rfl ?_
      refine ev_goto (pc := 104) (tgt := 66) dX8_handOfLeast_104 (by decide) ?_
      refine ev_eqL (L' := [some (.ref 3), some (.int (nI zs)), some (.int (nI zq)), some (.int (nI (hdN (zt.2 0) (zt.2 1) (zt.1 3) zs zq (i + 1)))), some (.int (nI (i + 1)))]) (by rw [hdN, ← (if_or32f (zx := hdN (zt.2 0) (zt.2 1) (zt.1 3) zs zq i) (zn := i) (fun z => bI_0.mp zc81 ((has_b (by omega)).mpr z.1))), or_zero32]) ?_
      exact ih (i + 1) (by omega)
    · -- eq at 81: not taken
      refine ev_aload_n (pc := 84) dX8_handOfLeast_84 rfl ?_
      refine ev_iload_n (pc := 85) dX8_handOfLeast_85 rfl ?_
      refine ev_iload (pc := 86) dX8_handOfLeast_86 rfl ?_
      refine ev_callVv (S := []) (pc := 88) dX8_handOfLeast_88 kX8_areTwoHands lX8_83 vX8_areTwoHands (cn_X8_areTwoHands_3 E h zt zq i hw hS hO hq hlt hq0 (hr i hlt ((has_b (by omega)).mp (bI_n0.mp zc81)))) rfl rfl (wlt hw (by decide)) rfl rfl (Nat.le_of_ble_eq_true rfl) ⟨Nat.le_of_ble_eq_true rfl, Nat.le_of_ble_eq_true rfl⟩ ⟨Nat.le_of_ble_eq_true rfl, Nat.le_of_ble_eq_true rfl⟩ ?_
      refine ev_if_ne (pc := 91) (tgt := 101) dX8_handOfLeast_91 (by decide) (fun zc91 => ?_) (fun zc91 => ?_)
      · -- ne at 91: taken
        refine ev_iinc (pc := 101) (v := nI (i + 1)) (L' := [some (.ref 3), some (.int (nI zs)), some (.int (nI zq)), some (.int (nI (hdN (zt.2 0) (zt.2 1) (zt.1 3) zs zq i))), some (.int (nI (i + 1)))]) dX8_handOfLeast_101 rfl (nI_1 _) (Nat.le_of_ble_eq_true rfl) rfl ?_
        refine ev_goto (pc := 104) (tgt := 66) dX8_handOfLeast_104 (by decide) ?_
        refine ev_eqL (L' := [some (.ref 3), some (.int (nI zs)), some (.int (nI zq)), some (.int (nI (hdN (zt.2 0) (zt.2 1) (zt.1 3) zs zq (i + 1)))), some (.int (nI (i + 1)))]) (by rw [hdN, ← (if_or32f (zx := hdN (zt.2 0) (zt.2 1) (zt.1 3) zs zq i) (zn := i) (fun z => zc91 (bI_0.mpr (fun z8 => by rw [sur_sym, z.2] at z8; cases z8)))), or_zero32]) ?_
        exact ih (i + 1) (by omega)
      · -- ne at 91: not taken
        refine ev_iload_n (pc := 94) dX8_handOfLeast_94 rfl ?_
        refine ev_iconst (pc := 95) (v := 1) dX8_handOfLeast_95 (by decide) ?_
        refine ev_iload (pc := 96) dX8_handOfLeast_96 rfl ?_
        refine ev_ishl (pc := 98) dX8_handOfLeast_98 ?_
        refine ev_ior (pc := 99) dX8_handOfLeast_99 ?_
        refine ev_istore_n (pc := 100) (L' := [some (.ref 3), some (.int (nI zs)), some (.int (nI zq)), some (.int ((nI (hdN (zt.2 0) (zt.2 1) (zt.1 3) zs zq i)) ||| (1 <<< ((nI i) &&& 31)))), some (.int (nI i))]) dX8_handOfLeast_100 (Nat.le_of_ble_eq_true rfl) rfl ?_
        refine ev_iinc (pc := 101) (v := nI (i + 1)) (L' := [some (.ref 3), some (.int (nI zs)), some (.int (nI zq)), some (.int ((nI (hdN (zt.2 0) (zt.2 1) (zt.1 3) zs zq i)) ||| (1 <<< ((nI i) &&& 31)))), some (.int (nI (i + 1)))]) dX8_handOfLeast_101 rfl (nI_1 _) (Nat.le_of_ble_eq_true rfl) rfl ?_
        refine ev_goto (pc := 104) (tgt := 66) dX8_handOfLeast_104 (by decide) ?_
        refine ev_eqL (L' := [some (.ref 3), some (.int (nI zs)), some (.int (nI zq)), some (.int (nI (hdN (zt.2 0) (zt.2 1) (zt.1 3) zs zq (i + 1)))), some (.int (nI (i + 1)))]) (by rw [hdN, ← (if_or32t (zx := hdN (zt.2 0) (zt.2 1) (zt.1 3) zs zq i) (zn := i) (by omega) ⟨(has_b (by omega)).mp (bI_n0.mp zc81), by rw [sur_sym]; exact ts_nt (bI_0.mp zc91)⟩)]) ?_
        exact ih (i + 1) (by omega)
theorem cn_X8_handOfLeast_3 (E : ME) (h : AH) (zt : PSt) (zs : Nat) (hw : WF h) (hS : STz zt 3 h) (hO : POK zt) (hs : zs < 2 ^ zt.1 1) (hr : ∀ zi, zi < zt.1 1 → zs.testBit zi = true → 0 < zt.2 0 zi) (h0 : zs ≠ 0) : Con E mX8_handOfLeast 4 0 0 [.ref 3, .int (nI zs)] h (fun r h' => r = some (.int (nI (hdN (zt.2 0) (zt.2 1) (zt.1 3) zs (lsN (zt.2 0) (zt.2 1) zs (zt.1 1)) (zt.1 1)))) ∧ h' = h) := by
  refine con_of2 (L := [some (.ref 3), some (.int (nI zs)), none, none, none]) rfl (Nat.le_of_ble_eq_true rfl) rfl ?_
  refine ev_iconst (pc := 0) (v := (-1)) dX8_handOfLeast_0 (by decide) ?_
  refine ev_istore_n (pc := 1) (L' := [some (.ref 3), some (.int (nI zs)), some (.int ((-1))), none, none]) dX8_handOfLeast_1 (Nat.le_of_ble_eq_true rfl) rfl ?_
  refine ev_iconst (pc := 2) (v := 0) dX8_handOfLeast_2 (by decide) ?_
  refine ev_istore_n (pc := 3) (L' := [some (.ref 3), some (.int (nI zs)), some (.int ((-1))), some (.int 0), none]) dX8_handOfLeast_3 (Nat.le_of_ble_eq_true rfl) rfl ?_
  have zls := ls_lt (zc := zt.2 0) (zl := zt.2 1) h0 hs
  have zm12 := hO.1
  refine lp_least_3 E h zt zs hw hS hO ?_ (zt.1 1) 0 (Nat.zero_add _)
  refine ev_eqL (L' := [some (.ref 3), some (.int (nI zs)), some (.int (nI (lsN (zt.2 0) (zt.2 1) zs (zt.1 1)))), some (.int (nI (zt.1 1))), none]) (by rw [lsW_n (by omega)]) ?_
  refine ev_iconst (pc := 61) (v := 0) dX8_handOfLeast_61 (by decide) ?_
  refine ev_istore_n (pc := 62) (L' := [some (.ref 3), some (.int (nI zs)), some (.int (nI (lsN (zt.2 0) (zt.2 1) zs (zt.1 1)))), some (.int 0), none]) dX8_handOfLeast_62 (Nat.le_of_ble_eq_true rfl) rfl ?_
  refine ev_iconst (pc := 63) (v := 0) dX8_handOfLeast_63 (by decide) ?_
  refine ev_istore (pc := 64) (L' := [some (.ref 3), some (.int (nI zs)), some (.int (nI (lsN (zt.2 0) (zt.2 1) zs (zt.1 1)))), some (.int 0), some (.int 0)]) dX8_handOfLeast_64 (Nat.le_of_ble_eq_true rfl) rfl ?_
  refine lp_hand_3 E h zt zs (lsN (zt.2 0) (zt.2 1) zs (zt.1 1)) hw hS hO hs hr zls.1 (hr _ zls.1 zls.2) ?_ (zt.1 1) 0 (Nat.zero_add _)
  refine ev_iload_n (pc := 107) dX8_handOfLeast_107 rfl ?_
  refine ev_iret (pc := 108) dX8_handOfLeast_108 rfl ?_ ?_
  · rfl
  · exact ⟨rfl, rfl⟩
theorem cn_X8_areTwoHands_11 (E : ME) (h : AH) (zt : PSt) (za zb : Nat) (hw : WF h) (hS : STz zt 11 h) (hO : POK zt) (ha : za < zt.1 1) (hb : zb < zt.1 1) (ha0 : 0 < zt.2 0 za) (hb0 : 0 < zt.2 0 zb) : Con E mX8_areTwoHands 3 0 0 [.ref 11, .int (nI za), .int (nI zb)] h (fun r h' => r = some (.int (bI (surN (zt.2 0) (zt.2 1) (zt.1 3) za zb = true))) ∧ h' = h) := by
  refine con_of2 (L := [some (.ref 11), some (.int (nI za)), some (.int (nI zb)), none]) rfl (Nat.le_of_ble_eq_true rfl) rfl ?_
  have zm12 := hO.1
  have zba := hO.2.2.2.2.2.1 za ha
  have zbb := hO.2.2.2.2.2.1 zb hb
  have zm1 := mul_b zba.2.1 zbb.1
  have zm2 := mul_b zbb.2.1 zba.1
  have zm3 := mul_b (mul_b hO.2.2.1 zba.1) zbb.1
  have zdf : dfN (zt.2 1 za * zt.2 0 zb) (zt.2 1 zb * zt.2 0 za) ≤ 99 * 999 := by unfold dfN; split <;> omega
  refine ev_aload_n (pc := 0) dX8_areTwoHands_0 rfl ?_
  refine ev_iload_n (pc := 1) dX8_areTwoHands_1 rfl ?_
  refine ev_callVv (S := []) (pc := 2) dX8_areTwoHands_2 kX8_isRow lX8_74 vX8_isRow (cn_X8_isRow_11 E h zt (nI za) hw hS hO) rfl rfl (wlt hw (by decide)) rfl rfl (Nat.le_of_ble_eq_true rfl) ⟨Nat.le_of_ble_eq_true rfl, Nat.le_of_ble_eq_true rfl⟩ ⟨Nat.le_of_ble_eq_true rfl, Nat.le_of_ble_eq_true rfl⟩ ?_
  refine ev_if_eq (pc := 5) (tgt := 16) dX8_areTwoHands_5 (by decide) (fun zc5 => absurd zc5 (bI_n0.mpr (rwg_n hO ha ha0))) (fun zc5 => ?_)
  refine ev_aload_n (pc := 8) dX8_areTwoHands_8 rfl ?_
  refine ev_iload_n (pc := 9) dX8_areTwoHands_9 rfl ?_
  refine ev_callVv (S := []) (pc := 10) dX8_areTwoHands_10 kX8_isRow lX8_74 vX8_isRow (cn_X8_isRow_11 E h zt (nI zb) hw hS hO) rfl rfl (wlt hw (by decide)) rfl rfl (Nat.le_of_ble_eq_true rfl) ⟨Nat.le_of_ble_eq_true rfl, Nat.le_of_ble_eq_true rfl⟩ ⟨Nat.le_of_ble_eq_true rfl, Nat.le_of_ble_eq_true rfl⟩ ?_
  refine ev_if_ne (pc := 13) (tgt := 18) dX8_areTwoHands_13 (by decide) (fun zc13 => ?_) (fun zc13 => absurd zc13 (bI_n0.mpr (rwg_n hO hb hb0)))
  refine ev_aload_n (pc := 18) dX8_areTwoHands_18 rfl ?_
  refine ev_getR (pc := 19) (q := 13) dX8_areTwoHands_19 fX8_15 rfl (wlt hw (by decide)) (wr hw rfl) ?_
  refine ev_iload_n (pc := 22) dX8_areTwoHands_22 rfl ?_
  refine ev_iald (pc := 23) dX8_areTwoHands_23 rfl (wlt hw (by decide)) (vp_in_nI (by omega) (by decide)) ?_
  refine ev_eqI (e' := h.2.1 13 za) (by rw [show Int32.toNatClampNeg (nI za) = za from nI_clamp (by omega)] <;> rfl) ?_
  refine ev_eqI (e' := nI (zt.2 1 za)) (hS.2.2.2.1 za ha).2.1 ?_
  refine ev_aload_n (pc := 24) dX8_areTwoHands_24 rfl ?_
  refine ev_getR (pc := 25) (q := 12) dX8_areTwoHands_25 fX8_9 rfl (wlt hw (by decide)) (wr hw rfl) ?_
  refine ev_iload_n (pc := 28) dX8_areTwoHands_28 rfl ?_
  refine ev_iald (pc := 29) dX8_areTwoHands_29 rfl (wlt hw (by decide)) (vp_in_nI (by omega) (by decide)) ?_
  refine ev_eqI (e' := h.2.1 12 zb) (by rw [show Int32.toNatClampNeg (nI zb) = zb from nI_clamp (by omega)] <;> rfl) ?_
  refine ev_eqI (e' := nI (zt.2 0 zb)) (hS.2.2.2.1 zb hb).1 ?_
  refine ev_imul (pc := 30) dX8_areTwoHands_30 ?_
  refine ev_eqI (e' := nI ((zt.2 1 za) * (zt.2 0 zb))) (pk_mul (zt.2 1 za) (zt.2 0 zb)) ?_
  refine ev_aload_n (pc := 31) dX8_areTwoHands_31 rfl ?_
  refine ev_getR (pc := 32) (q := 13) dX8_areTwoHands_32 fX8_15 rfl (wlt hw (by decide)) (wr hw rfl) ?_
  refine ev_iload_n (pc := 35) dX8_areTwoHands_35 rfl ?_
  refine ev_iald (pc := 36) dX8_areTwoHands_36 rfl (wlt hw (by decide)) (vp_in_nI (by omega) (by decide)) ?_
  refine ev_eqI (e' := h.2.1 13 zb) (by rw [show Int32.toNatClampNeg (nI zb) = zb from nI_clamp (by omega)] <;> rfl) ?_
  refine ev_eqI (e' := nI (zt.2 1 zb)) (hS.2.2.2.1 zb hb).2.1 ?_
  refine ev_aload_n (pc := 37) dX8_areTwoHands_37 rfl ?_
  refine ev_getR (pc := 38) (q := 12) dX8_areTwoHands_38 fX8_9 rfl (wlt hw (by decide)) (wr hw rfl) ?_
  refine ev_iload_n (pc := 41) dX8_areTwoHands_41 rfl ?_
  refine ev_iald (pc := 42) dX8_areTwoHands_42 rfl (wlt hw (by decide)) (vp_in_nI (by omega) (by decide)) ?_
  refine ev_eqI (e' := h.2.1 12 za) (by rw [show Int32.toNatClampNeg (nI za) = za from nI_clamp (by omega)] <;> rfl) ?_
  refine ev_eqI (e' := nI (zt.2 0 za)) (hS.2.2.2.1 za ha).1 ?_
  refine ev_imul (pc := 43) dX8_areTwoHands_43 ?_
  refine ev_eqI (e' := nI ((zt.2 1 zb) * (zt.2 0 za))) (pk_mul (zt.2 1 zb) (zt.2 0 za)) ?_
  refine ev_isub (pc := 44) dX8_areTwoHands_44 ?_
  refine ev_mabs (pc := 45) dX8_areTwoHands_45 (tw4 99 rfl (by decide +kernel)) (Nat.le_of_ble_eq_true rfl) ⟨Nat.le_of_ble_eq_true rfl, Nat.le_of_ble_eq_true rfl⟩ ⟨Nat.le_of_ble_eq_true rfl, Nat.le_of_ble_eq_true rfl⟩ ?_
  refine ev_eqI (e' := nI (dfN (zt.2 1 za * zt.2 0 zb) (zt.2 1 zb * zt.2 0 za))) (abs_N (by omega) (by omega)) ?_
  refine ev_istore_n (pc := 48) (L' := [some (.ref 11), some (.int (nI za)), some (.int (nI zb)), some (.int (nI (dfN (zt.2 1 za * zt.2 0 zb) (zt.2 1 zb * zt.2 0 za))))]) dX8_areTwoHands_48 (Nat.le_of_ble_eq_true rfl) rfl ?_
  refine ev_iload_n (pc := 49) dX8_areTwoHands_49 rfl ?_
  refine ev_bipush (pc := 50) (v := 10) dX8_areTwoHands_50 (by decide) ?_
  refine ev_imul (pc := 52) dX8_areTwoHands_52 ?_
  refine ev_eqI (e' := nI ((dfN (zt.2 1 za * zt.2 0 zb) (zt.2 1 zb * zt.2 0 za)) * 10)) (pk_mul (dfN (zt.2 1 za * zt.2 0 zb) (zt.2 1 zb * zt.2 0 za)) 10) ?_
  refine ev_aload_n (pc := 53) dX8_areTwoHands_53 rfl ?_
  refine ev_getI (pc := 54) dX8_areTwoHands_54 fX8_49 rfl (wlt hw (by decide)) ?_
  refine ev_eqI (e' := nI (zt.1 3)) hS.2.2.1 ?_
  refine ev_aload_n (pc := 57) dX8_areTwoHands_57 rfl ?_
  refine ev_getR (pc := 58) (q := 12) dX8_areTwoHands_58 fX8_9 rfl (wlt hw (by decide)) (wr hw rfl) ?_
  refine ev_iload_n (pc := 61) dX8_areTwoHands_61 rfl ?_
  refine ev_iald (pc := 62) dX8_areTwoHands_62 rfl (wlt hw (by decide)) (vp_in_nI (by omega) (by decide)) ?_
  refine ev_eqI (e' := h.2.1 12 za) (by rw [show Int32.toNatClampNeg (nI za) = za from nI_clamp (by omega)] <;> rfl) ?_
  refine ev_eqI (e' := nI (zt.2 0 za)) (hS.2.2.2.1 za ha).1 ?_
  refine ev_imul (pc := 63) dX8_areTwoHands_63 ?_
  refine ev_eqI (e' := nI ((zt.1 3) * (zt.2 0 za))) (pk_mul (zt.1 3) (zt.2 0 za)) ?_
  refine ev_aload_n (pc := 64) dX8_areTwoHands_64 rfl ?_
  refine ev_getR (pc := 65) (q := 12) dX8_areTwoHands_65 fX8_9 rfl (wlt hw (by decide)) (wr hw rfl) ?_
  refine ev_iload_n (pc := 68) dX8_areTwoHands_68 rfl ?_
  refine ev_iald (pc := 69) dX8_areTwoHands_69 rfl (wlt hw (by decide)) (vp_in_nI (by omega) (by decide)) ?_
  refine ev_eqI (e' := h.2.1 12 zb) (by rw [show Int32.toNatClampNeg (nI zb) = zb from nI_clamp (by omega)] <;> rfl) ?_
  refine ev_eqI (e' := nI (zt.2 0 zb)) (hS.2.2.2.1 zb hb).1 ?_
  refine ev_imul (pc := 70) dX8_areTwoHands_70 ?_
  refine ev_eqI (e' := nI (((zt.1 3) * (zt.2 0 za)) * (zt.2 0 zb))) (pk_mul ((zt.1 3) * (zt.2 0 za)) (zt.2 0 zb)) ?_
  refine ev_icmp_le (pc := 71) (tgt := 78) dX8_areTwoHands_71 (by decide) (fun zc71 => ?_) (fun zc71 => ?_)
  · -- le at 71: taken
    refine ev_iconst (pc := 78) (v := 0) dX8_areTwoHands_78 (by decide) ?_
    refine ev_iret (pc := 79) dX8_areTwoHands_79 rfl ?_ ?_
    · first | rfl | exact nar_bI _ | (simp only [*]; exact nar_bI _) | (simp [narrow, *]; done)
    · refine ⟨?_, rfl⟩
      have zdd : surN (zt.2 0) (zt.2 1) (zt.1 3) za zb = decide (zt.1 3 * zt.2 0 za * zt.2 0 zb < 10 * dfN (zt.2 1 za * zt.2 0 zb) (zt.2 1 zb * zt.2 0 za)) := rfl
      rw [bI_f (fun z => by rw [zdd, decide_eq_true_iff] at z; have z1 := (nI_leI (by omega) (by omega)).mp zc71; omega)]
  · -- le at 71: not taken
    refine ev_iconst (pc := 74) (v := 1) dX8_areTwoHands_74 (by decide) ?_
    refine ev_goto (pc := 75) (tgt := 79) dX8_areTwoHands_75 (by decide) ?_
    refine ev_iret (pc := 79) dX8_areTwoHands_79 rfl ?_ ?_
    · first | rfl | exact nar_bI _ | (simp only [*]; exact nar_bI _) | (simp [narrow, *]; done)
    · refine ⟨?_, rfl⟩
      have zdd : surN (zt.2 0) (zt.2 1) (zt.1 3) za zb = decide (zt.1 3 * zt.2 0 za * zt.2 0 zb < 10 * dfN (zt.2 1 za * zt.2 0 zb) (zt.2 1 zb * zt.2 0 za)) := rfl
      rw [bI_t (by rw [zdd, decide_eq_true_iff]; have z1 : ¬ dfN (zt.2 1 za * zt.2 0 zb) (zt.2 1 zb * zt.2 0 za) * 10 ≤ zt.1 3 * zt.2 0 za * zt.2 0 zb := fun z => zc71 ((nI_leI (by omega) (by omega)).mpr z); omega)]
theorem cn_X10_sure_11 (E : ME) (h : AH) (zt : PSt) (za0 zb0 : Int32) (hw : WF h) (hS : STz zt 11 h) (hO : POK zt) (hst : h.2.2.2 0 1 = some 11) : Con E mX10_sure 4 0 0 [.ref 0, .int za0, .int zb0] h (fun r h' => r = some (.int (if rwg zt za0 ∧ rwg zt zb0 ∧ ¬ za0 = zb0 then (if surN (zt.2 0) (zt.2 1) (zt.1 3) za0.toNatClampNeg zb0.toNatClampNeg then 1 else 0) else -1)) ∧ h' = h) := by
  refine con_of2 (L := [some (.ref 0), some (.int za0), some (.int zb0)]) rfl (Nat.le_of_ble_eq_true rfl) rfl ?_
  refine ev_iload_n (pc := 0) dX10_sure_0 rfl ?_
  refine ev_iload_n (pc := 1) dX10_sure_1 rfl ?_
  refine ev_icmp_eq (pc := 2) (tgt := 27) dX10_sure_2 (by decide) (fun zc2 => ?_) (fun zc2 => ?_)
  · -- eq at 2: taken
    refine ev_iconst (pc := 27) (v := (-1)) dX10_sure_27 (by decide) ?_
    refine ev_iret (pc := 28) dX10_sure_28 rfl ?_ ?_
    · rfl
    · refine ⟨?_, rfl⟩
      rw [if_neg (show ¬ (rwg zt za0 ∧ rwg zt zb0 ∧ ¬ za0 = zb0) from fun z => z.2.2 zc2)]
  · -- eq at 2: not taken
    refine ev_aload_n (pc := 5) dX10_sure_5 rfl ?_
    refine ev_getR (pc := 6) (q := 11) dX10_sure_6 fX10_19 rfl (wlt hw (by decide)) hst ?_
    refine ev_iload_n (pc := 9) dX10_sure_9 rfl ?_
    refine ev_callVv (S := []) (pc := 10) dX10_sure_10 kX8_isRow lX10_232 vX8_isRow (cn_X8_isRow_11 E h zt za0 hw hS hO) rfl rfl (wlt hw (by decide)) rfl rfl (Nat.le_of_ble_eq_true rfl) ⟨Nat.le_of_ble_eq_true rfl, Nat.le_of_ble_eq_true rfl⟩ ⟨Nat.le_of_ble_eq_true rfl, Nat.le_of_ble_eq_true rfl⟩ ?_
    refine ev_if_eq (pc := 13) (tgt := 27) dX10_sure_13 (by decide) (fun zc13 => ?_) (fun zc13 => ?_)
    · -- eq at 13: taken
      refine ev_iconst (pc := 27) (v := (-1)) dX10_sure_27 (by decide) ?_
      refine ev_iret (pc := 28) dX10_sure_28 rfl ?_ ?_
      · rfl
      · refine ⟨?_, rfl⟩
        rw [if_neg (show ¬ (rwg zt za0 ∧ rwg zt zb0 ∧ ¬ za0 = zb0) from fun z => bI_0.mp zc13 z.1)]
    · -- eq at 13: not taken
      refine ev_aload_n (pc := 16) dX10_sure_16 rfl ?_
      refine ev_getR (pc := 17) (q := 11) dX10_sure_17 fX10_19 rfl (wlt hw (by decide)) hst ?_
      refine ev_iload_n (pc := 20) dX10_sure_20 rfl ?_
      refine ev_callVv (S := []) (pc := 21) dX10_sure_21 kX8_isRow lX10_232 vX8_isRow (cn_X8_isRow_11 E h zt zb0 hw hS hO) rfl rfl (wlt hw (by decide)) rfl rfl (Nat.le_of_ble_eq_true rfl) ⟨Nat.le_of_ble_eq_true rfl, Nat.le_of_ble_eq_true rfl⟩ ⟨Nat.le_of_ble_eq_true rfl, Nat.le_of_ble_eq_true rfl⟩ ?_
      refine ev_if_ne (pc := 24) (tgt := 29) dX10_sure_24 (by decide) (fun zc24 => ?_) (fun zc24 => ?_)
      · -- ne at 24: taken
        obtain ⟨za, ha, ha0, rfl⟩ := rwg_of hO (bI_n0.mp zc13)
        obtain ⟨zb, hb, hb0, rfl⟩ := rwg_of hO (bI_n0.mp zc24)
        have zm12 := hO.1
        refine ev_aload_n (pc := 29) dX10_sure_29 rfl ?_
        refine ev_getR (pc := 30) (q := 11) dX10_sure_30 fX10_19 rfl (wlt hw (by decide)) hst ?_
        refine ev_iload_n (pc := 33) dX10_sure_33 rfl ?_
        refine ev_iload_n (pc := 34) dX10_sure_34 rfl ?_
        refine ev_callVv (S := []) (pc := 35) dX10_sure_35 kX8_areTwoHands lX10_240 vX8_areTwoHands (cn_X8_areTwoHands_11 E h zt za zb hw hS hO ha hb ha0 hb0) rfl rfl (wlt hw (by decide)) rfl rfl (Nat.le_of_ble_eq_true rfl) ⟨Nat.le_of_ble_eq_true rfl, Nat.le_of_ble_eq_true rfl⟩ ⟨Nat.le_of_ble_eq_true rfl, Nat.le_of_ble_eq_true rfl⟩ ?_
        refine ev_if_eq (pc := 38) (tgt := 45) dX10_sure_38 (by decide) (fun zc38 => ?_) (fun zc38 => ?_)
        · -- eq at 38: taken
          refine ev_iconst (pc := 45) (v := 0) dX10_sure_45 (by decide) ?_
          refine ev_iret (pc := 46) dX10_sure_46 rfl ?_ ?_
          · rfl
          · refine ⟨?_, rfl⟩
            rw [if_pos (show rwg zt (nI za) ∧ rwg zt (nI zb) ∧ ¬ (nI za) = (nI zb) from ⟨bI_n0.mp zc13, bI_n0.mp zc24, zc2⟩), nI_clamp (n := za) (by omega), nI_clamp (n := zb) (by omega)]
            rw [if_neg (bI_0.mp zc38)]
        · -- eq at 38: not taken
          refine ev_iconst (pc := 41) (v := 1) dX10_sure_41 (by decide) ?_
          refine ev_goto (pc := 42) (tgt := 46) dX10_sure_42 (by decide) ?_
          refine ev_iret (pc := 46) dX10_sure_46 rfl ?_ ?_
          · rfl
          · refine ⟨?_, rfl⟩
            rw [if_pos (show rwg zt (nI za) ∧ rwg zt (nI zb) ∧ ¬ (nI za) = (nI zb) from ⟨bI_n0.mp zc13, bI_n0.mp zc24, zc2⟩), nI_clamp (n := za) (by omega), nI_clamp (n := zb) (by omega)]
            rw [if_pos (bI_n0.mp zc38)]
      · -- ne at 24: not taken
        refine ev_iconst (pc := 27) (v := (-1)) dX10_sure_27 (by decide) ?_
        refine ev_iret (pc := 28) dX10_sure_28 rfl ?_ ?_
        · rfl
        · refine ⟨?_, rfl⟩
          rw [if_neg (show ¬ (rwg zt za0 ∧ rwg zt zb0 ∧ ¬ za0 = zb0) from fun z => bI_0.mp zc24 z.2.1)]
theorem cn_X10_size_11 (E : ME) (h : AH) (zt : PSt) (za0 zv : Int32) (hw : WF h) (hS : STz zt 11 h) (hO : POK zt) (hst : h.2.2.2 0 1 = some 11) : Con E mX10_size 3 0 0 [.ref 0, .int za0, .int zv] h (fun r h' => r = some (.int (if rwg zt za0 ∧ (0 ≤ zv ∧ zv ≤ 1) then (if zv = 0 then nI (zt.2 1 za0.toNatClampNeg / Nat.gcd (zt.2 1 za0.toNatClampNeg) (zt.2 0 za0.toNatClampNeg)) else nI (zt.2 0 za0.toNatClampNeg / Nat.gcd (zt.2 1 za0.toNatClampNeg) (zt.2 0 za0.toNatClampNeg))) else -1)) ∧ h' = h) := by
  refine con_of2 (L := [some (.ref 0), some (.int za0), some (.int zv), none, none, none]) rfl (Nat.le_of_ble_eq_true rfl) rfl ?_
  refine ev_aload_n (pc := 0) dX10_size_0 rfl ?_
  refine ev_getR (pc := 1) (q := 11) dX10_size_1 fX10_19 rfl (wlt hw (by decide)) hst ?_
  refine ev_iload_n (pc := 4) dX10_size_4 rfl ?_
  refine ev_callVv (S := []) (pc := 5) dX10_size_5 kX8_isRow lX10_232 vX8_isRow (cn_X8_isRow_11 E h zt za0 hw hS hO) rfl rfl (wlt hw (by decide)) rfl rfl (Nat.le_of_ble_eq_true rfl) ⟨Nat.le_of_ble_eq_true rfl, Nat.le_of_ble_eq_true rfl⟩ ⟨Nat.le_of_ble_eq_true rfl, Nat.le_of_ble_eq_true rfl⟩ ?_
  refine ev_if_eq (pc := 8) (tgt := 20) dX10_size_8 (by decide) (fun zc8 => ?_) (fun zc8 => ?_)
  · -- eq at 8: taken
    refine ev_iconst (pc := 20) (v := (-1)) dX10_size_20 (by decide) ?_
    refine ev_iret (pc := 21) dX10_size_21 rfl ?_ ?_
    · rfl
    · refine ⟨?_, rfl⟩
      rw [if_neg (show ¬ (rwg zt za0 ∧ (0 ≤ zv ∧ zv ≤ 1)) from fun z => bI_0.mp zc8 z.1)]
  · -- eq at 8: not taken
    refine ev_iload_n (pc := 11) dX10_size_11 rfl ?_
    refine ev_iconst (pc := 12) (v := 0) dX10_size_12 (by decide) ?_
    refine ev_iconst (pc := 13) (v := 1) dX10_size_13 (by decide) ?_
    refine ev_callSv (S := []) (pc := 14) dX10_size_14 kX10_within lX10_123 sX10_within (cn_X10_within E h zv 0 1) rfl rfl (Nat.le_of_ble_eq_true rfl) ⟨Nat.le_of_ble_eq_true rfl, Nat.le_of_ble_eq_true rfl⟩ ⟨Nat.le_of_ble_eq_true rfl, Nat.le_of_ble_eq_true rfl⟩ ?_
    refine ev_if_ne (pc := 17) (tgt := 22) dX10_size_17 (by decide) (fun zc17 => ?_) (fun zc17 => ?_)
    · -- ne at 17: taken
      obtain ⟨za, ha, ha0, rfl⟩ := rwg_of hO (bI_n0.mp zc8)
      have zm12 := hO.1
      have zba := hO.2.2.2.2.2.1 za ha
      have zth := (bI_n0.mp zc8).1
      have zgp := gcd_pos2 (a := zt.2 1 za) ha0
      have zgl := Nat.gcd_le_right (zt.2 1 za) ha0
      refine ev_aload_n (pc := 22) dX10_size_22 rfl ?_
      refine ev_getR (pc := 23) (q := 11) dX10_size_23 fX10_19 rfl (wlt hw (by decide)) hst ?_
      refine ev_iload_n (pc := 26) dX10_size_26 rfl ?_
      refine ev_callVv (S := []) (pc := 27) dX10_size_27 kX8_lengthOf lX10_140 vX8_lengthOf (cn_X8_lengthOf_11 E h zt (nI za) hw hS hO) rfl rfl (wlt hw (by decide)) rfl rfl (Nat.le_of_ble_eq_true rfl) ⟨Nat.le_of_ble_eq_true rfl, Nat.le_of_ble_eq_true rfl⟩ ⟨Nat.le_of_ble_eq_true rfl, Nat.le_of_ble_eq_true rfl⟩ ?_
      refine ev_eqI (e' := nI (zt.2 1 za)) (by rw [if_pos zth, nI_clamp (by omega)]) ?_
      refine ev_istore_n (pc := 30) (L' := [some (.ref 0), some (.int (nI za)), some (.int zv), some (.int (nI (zt.2 1 za))), none, none]) dX10_size_30 (Nat.le_of_ble_eq_true rfl) rfl ?_
      refine ev_aload_n (pc := 31) dX10_size_31 rfl ?_
      refine ev_getR (pc := 32) (q := 11) dX10_size_32 fX10_19 rfl (wlt hw (by decide)) hst ?_
      refine ev_iload_n (pc := 35) dX10_size_35 rfl ?_
      refine ev_callVv (S := []) (pc := 36) dX10_size_36 kX8_cubesOf lX10_137 vX8_cubesOf (cn_X8_cubesOf_11 E h zt (nI za) hw hS hO) rfl rfl (wlt hw (by decide)) rfl rfl (Nat.le_of_ble_eq_true rfl) ⟨Nat.le_of_ble_eq_true rfl, Nat.le_of_ble_eq_true rfl⟩ ⟨Nat.le_of_ble_eq_true rfl, Nat.le_of_ble_eq_true rfl⟩ ?_
      refine ev_eqI (e' := nI (zt.2 0 za)) (by rw [if_pos zth, nI_clamp (by omega)]) ?_
      refine ev_istore (pc := 39) (L' := [some (.ref 0), some (.int (nI za)), some (.int zv), some (.int (nI (zt.2 1 za))), some (.int (nI (zt.2 0 za))), none]) dX10_size_39 (Nat.le_of_ble_eq_true rfl) rfl ?_
      refine ev_iload_n (pc := 41) dX10_size_41 rfl ?_
      refine ev_i2l (pc := 42) dX10_size_42 ?_
      refine ev_eqJ (e' := lN (zt.2 1 za)) (nI_l (by omega)) ?_
      refine ev_iload (pc := 43) dX10_size_43 rfl ?_
      refine ev_i2l (pc := 45) dX10_size_45 ?_
      refine ev_eqJ (e' := lN (zt.2 0 za)) (nI_l (by omega)) ?_
      refine ev_callSv (S := []) (pc := 46) dX10_size_46 kX10_sharedDivisor lX10_218 sX10_sharedDivisor (cn_X10_sharedDivisor E h (zt.2 1 za) (zt.2 0 za) hw (by omega) (by omega) zgp) rfl rfl (Nat.le_of_ble_eq_true rfl) ⟨Nat.le_of_ble_eq_true rfl, Nat.le_of_ble_eq_true rfl⟩ ⟨Nat.le_of_ble_eq_true rfl, Nat.le_of_ble_eq_true rfl⟩ ?_
      refine ev_l2i (pc := 49) dX10_size_49 ?_
      refine ev_eqI (e' := nI (Nat.gcd (zt.2 1 za) (zt.2 0 za))) (lN_i _) ?_
      refine ev_istore (pc := 50) (L' := [some (.ref 0), some (.int (nI za)), some (.int zv), some (.int (nI (zt.2 1 za))), some (.int (nI (zt.2 0 za))), some (.int (nI (Nat.gcd (zt.2 1 za) (zt.2 0 za))))]) dX10_size_50 (Nat.le_of_ble_eq_true rfl) rfl ?_
      refine ev_iload_n (pc := 52) dX10_size_52 rfl ?_
      refine ev_if_ne (pc := 53) (tgt := 60) dX10_size_53 (by decide) (fun zc53 => ?_) (fun zc53 => ?_)
      · -- ne at 53: taken
        refine ev_iload (pc := 60) dX10_size_60 rfl ?_
        refine ev_iconst (pc := 62) (v := 1) dX10_size_62 (by decide) ?_
        refine ev_iload (pc := 63) dX10_size_63 rfl ?_
        refine ev_mmax (pc := 65) dX10_size_65 (tw4 87 rfl (by decide +kernel)) (Nat.le_of_ble_eq_true rfl) ⟨Nat.le_of_ble_eq_true rfl, Nat.le_of_ble_eq_true rfl⟩ ⟨Nat.le_of_ble_eq_true rfl, Nat.le_of_ble_eq_true rfl⟩ ?_
        refine ev_eqI (e' := nI (Nat.gcd (zt.2 1 za) (zt.2 0 za))) (by split; rfl; rename_i z; have z1 : ¬ 1 < Nat.gcd (zt.2 1 za) (zt.2 0 za) := fun y => z (nI_lt (a := 1) y (by omega)); rw [show Nat.gcd (zt.2 1 za) (zt.2 0 za) = 1 by omega]; rfl) ?_
        refine ev_idiv (pc := 68) dX10_size_68 (nI_ne0 zgp (by omega)) ?_
        refine ev_eqI (e' := nI ((zt.2 0 za) / (Nat.gcd (zt.2 1 za) (zt.2 0 za)))) (pk_div (a := zt.2 0 za) (d := Nat.gcd (zt.2 1 za) (zt.2 0 za)) (by omega) (by omega) (by omega)) ?_
        refine ev_iret (pc := 69) dX10_size_69 rfl ?_ ?_
        · rfl
        · refine ⟨?_, rfl⟩
          rw [if_pos (show rwg zt (nI za) ∧ (0 ≤ zv ∧ zv ≤ 1) from ⟨bI_n0.mp zc8, bI_n0.mp zc17⟩), nI_clamp (n := za) (by omega), if_neg zc53]
      · -- ne at 53: not taken
        refine ev_iload_n (pc := 56) dX10_size_56 rfl ?_
        refine ev_goto (pc := 57) (tgt := 62) dX10_size_57 (by decide) ?_
        refine ev_iconst (pc := 62) (v := 1) dX10_size_62 (by decide) ?_
        refine ev_iload (pc := 63) dX10_size_63 rfl ?_
        refine ev_mmax (pc := 65) dX10_size_65 (tw4 87 rfl (by decide +kernel)) (Nat.le_of_ble_eq_true rfl) ⟨Nat.le_of_ble_eq_true rfl, Nat.le_of_ble_eq_true rfl⟩ ⟨Nat.le_of_ble_eq_true rfl, Nat.le_of_ble_eq_true rfl⟩ ?_
        refine ev_eqI (e' := nI (Nat.gcd (zt.2 1 za) (zt.2 0 za))) (by split; rfl; rename_i z; have z1 : ¬ 1 < Nat.gcd (zt.2 1 za) (zt.2 0 za) := fun y => z (nI_lt (a := 1) y (by omega)); rw [show Nat.gcd (zt.2 1 za) (zt.2 0 za) = 1 by omega]; rfl) ?_
        refine ev_idiv (pc := 68) dX10_size_68 (nI_ne0 zgp (by omega)) ?_
        refine ev_eqI (e' := nI ((zt.2 1 za) / (Nat.gcd (zt.2 1 za) (zt.2 0 za)))) (pk_div (a := zt.2 1 za) (d := Nat.gcd (zt.2 1 za) (zt.2 0 za)) (by omega) (by omega) (by omega)) ?_
        refine ev_iret (pc := 69) dX10_size_69 rfl ?_ ?_
        · rfl
        · refine ⟨?_, rfl⟩
          rw [if_pos (show rwg zt (nI za) ∧ (0 ≤ zv ∧ zv ≤ 1) from ⟨bI_n0.mp zc8, bI_n0.mp zc17⟩), nI_clamp (n := za) (by omega), if_pos zc53]
    · -- ne at 17: not taken
      refine ev_iconst (pc := 20) (v := (-1)) dX10_size_20 (by decide) ?_
      refine ev_iret (pc := 21) dX10_size_21 rfl ?_ ?_
      · rfl
      · refine ⟨?_, rfl⟩
        rw [if_neg (show ¬ (rwg zt za0 ∧ (0 ≤ zv ∧ zv ≤ 1)) from fun z => bI_0.mp zc17 z.2)]
theorem lp_least_11 (E : ME) (h : AH) (zt : PSt) (zs : Nat) (hw : WF h) (hS : STz zt 11 h) (hO : POK zt) {post : PO} (K : Ev E mX8_handOfLeast (rmm 4 0 0) (QM E 0 0 post) 0 0 61 [some (.ref 11), some (.int (nI zs)), some (.int (lsW (lsN (zt.2 0) (zt.2 1) zs (zt.1 1)))), some (.int (nI (zt.1 1))), none] [] h) : ∀ n i : Nat, i + n = (zt.1 1) → Ev E mX8_handOfLeast (rmm 4 0 0) (QM E 0 0 post) 0 0 4 [some (.ref 11), some (.int (nI zs)), some (.int (lsW (lsN (zt.2 0) (zt.2 1) zs i))), some (.int (nI i)), none] [] h := by
  intro n
  induction n with
  | zero =>
    intro i hi
    obtain rfl : zt.1 1 = i := by omega
    refine ev_iload_n (pc := 4) dX8_handOfLeast_4 rfl ?_
    refine ev_aload_n (pc := 5) dX8_handOfLeast_5 rfl ?_
    refine ev_getI (pc := 6) dX8_handOfLeast_6 fX8_42 rfl (wlt hw (by decide)) ?_
    refine ev_eqI (e' := nI (zt.1 1)) hS.1 ?_
    refine ev_icmp_ge (pc := 9) (tgt := 61) dX8_handOfLeast_9 (by decide) (fun zc9 => ?_) (fun zc9 => absurd (nI_le (Nat.le_refl _) (by have := hO.1; omega)) zc9)
    exact K
  | succ n ih =>
    intro i hi
    have hlt : i < (zt.1 1) := by omega
    have zm12 := hO.1
    refine ev_iload_n (pc := 4) dX8_handOfLeast_4 rfl ?_
    refine ev_aload_n (pc := 5) dX8_handOfLeast_5 rfl ?_
    refine ev_getI (pc := 6) dX8_handOfLeast_6 fX8_42 rfl (wlt hw (by decide)) ?_
    refine ev_eqI (e' := nI (zt.1 1)) hS.1 ?_
    refine ev_icmp_ge (pc := 9) (tgt := 61) dX8_handOfLeast_9 (by decide) (fun zc9 => absurd zc9 (nI_ge hlt (by have := hO.1; omega))) (fun zc9 => ?_)
    refine ev_iload_n (pc := 12) dX8_handOfLeast_12 rfl ?_
    refine ev_iload_n (pc := 13) dX8_handOfLeast_13 rfl ?_
    refine ev_callSv (S := []) (pc := 14) dX8_handOfLeast_14 kX10_has lX8_70 sX10_has (cn_X10_has E h (nI zs) (nI i)) rfl rfl (Nat.le_of_ble_eq_true rfl) ⟨Nat.le_of_ble_eq_true rfl, Nat.le_of_ble_eq_true rfl⟩ ⟨Nat.le_of_ble_eq_true rfl, Nat.le_of_ble_eq_true rfl⟩ ?_
    refine ev_if_eq (pc := 17) (tgt := 55) dX8_handOfLeast_17 (by decide) (fun zc17 => ?_) (fun zc17 => ?_)
    · -- eq at 17: taken
      refine ev_iinc (pc := 55) (v := nI (i + 1)) (L' := [some (.ref 11), some (.int (nI zs)), some (.int (lsW (lsN (zt.2 0) (zt.2 1) zs i))), some (.int (nI (i + 1))), none]) dX8_handOfLeast_55 rfl (nI_1 _) (Nat.le_of_ble_eq_true rfl) rfl ?_
      refine ev_goto (pc := 58) (tgt := 4) dX8_handOfLeast_58 (by decide) ?_
      refine ev_eqL (L' := [some (.ref 11), some (.int (nI zs)), some (.int (lsW (lsN (zt.2 0) (zt.2 1) zs (i + 1)))), some (.int (nI (i + 1))), none]) (by rw [lsN]; rw [if_neg (fun zq => bI_0.mp zc17 ((has_b (by omega)).mpr zq.1))]) ?_
      exact ih (i + 1) (by omega)
    · -- eq at 17: not taken
      refine ev_iload_n (pc := 20) dX8_handOfLeast_20 rfl ?_
      refine ev_if_lt (pc := 21) (tgt := 53) dX8_handOfLeast_21 (by decide) (fun zc21 => ?_) (fun zc21 => ?_)
      · -- lt at 21: taken
        refine ev_iload_n (pc := 53) dX8_handOfLeast_53 rfl ?_
        refine ev_istore_n (pc := 54) (L' := [some (.ref 11), some (.int (nI zs)), some (.int (nI i)), some (.int (nI i)), none]) dX8_handOfLeast_54 (Nat.le_of_ble_eq_true rfl) rfl ?_
        refine ev_iinc (pc := 55) (v := nI (i + 1)) (L' := [some (.ref 11), some (.int (nI zs)), some (.int (nI i)), some (.int (nI (i + 1))), none]) dX8_handOfLeast_55 rfl (nI_1 _) (Nat.le_of_ble_eq_true rfl) rfl ?_
        refine ev_goto (pc := 58) (tgt := 4) dX8_handOfLeast_58 (by decide) ?_
        refine ev_eqL (L' := [some (.ref 11), some (.int (nI zs)), some (.int (lsW (lsN (zt.2 0) (zt.2 1) zs (i + 1)))), some (.int (nI (i + 1))), none]) (by rw [lsN]; rw [if_pos ⟨(has_b (by omega)).mp (bI_n0.mp zc17), Or.inl ((lsW_l (ls_13 (zt.2 0) (zt.2 1) zs (by omega))).mp zc21)⟩, lsW_n (zx := i) (by omega)]) ?_
        exact ih (i + 1) (by omega)
      · -- lt at 21: not taken
        have zq13 : lsN (zt.2 0) (zt.2 1) zs i < i := by
          rcases ls_ok (zt.2 0) (zt.2 1) zs i with z | z
          · exact z.1
          · exact absurd ((lsW_l (ls_13 (zt.2 0) (zt.2 1) zs (by omega))).mpr z.1) zc21
        have z9i := hS.2.2.2.1 i hlt
        have z9q := hS.2.2.2.1 (lsN (zt.2 0) (zt.2 1) zs i) (by omega)
        have zbi := hO.2.2.2.2.2.1 i hlt
        have zbq := hO.2.2.2.2.2.1 (lsN (zt.2 0) (zt.2 1) zs i) (by omega)
        have zm1 := mul_b zbi.2.1 zbq.1
        have zm2 := mul_b zbq.2.1 zbi.1
        refine ev_eqL (L' := [some (.ref 11), some (.int (nI zs)), some (.int (nI (lsN (zt.2 0) (zt.2 1) zs i))), some (.int (nI i)), none]) (by rw [lsW_n (by omega)]) ?_
        refine ev_aload_n (pc := 24) dX8_handOfLeast_24 rfl ?_
        refine ev_getR (pc := 25) (q := 13) dX8_handOfLeast_25 fX8_15 rfl (wlt hw (by decide)) (wr hw rfl) ?_
        refine ev_iload_n (pc := 28) dX8_handOfLeast_28 rfl ?_
        refine ev_iald (pc := 29) dX8_handOfLeast_29 rfl (wlt hw (by decide)) (vp_in_nI (by omega) (by decide)) ?_
        refine ev_eqI (e' := h.2.1 13 i) (by rw [show Int32.toNatClampNeg (nI i) = i from nI_clamp (by omega)] <;> rfl) ?_
        refine ev_eqI (e' := nI (zt.2 1 i)) z9i.2.1 ?_
        refine ev_aload_n (pc := 30) dX8_handOfLeast_30 rfl ?_
        refine ev_getR (pc := 31) (q := 12) dX8_handOfLeast_31 fX8_9 rfl (wlt hw (by decide)) (wr hw rfl) ?_
        refine ev_iload_n (pc := 34) dX8_handOfLeast_34 rfl ?_
        refine ev_iald (pc := 35) dX8_handOfLeast_35 rfl (wlt hw (by decide)) (vp_in_nI (by omega) (by decide)) ?_
        refine ev_eqI (e' := h.2.1 12 (lsN (zt.2 0) (zt.2 1) zs i)) (by rw [show Int32.toNatClampNeg (nI (lsN (zt.2 0) (zt.2 1) zs i)) = lsN (zt.2 0) (zt.2 1) zs i from nI_clamp (by omega)] <;> rfl) ?_
        refine ev_eqI (e' := nI (zt.2 0 (lsN (zt.2 0) (zt.2 1) zs i))) z9q.1 ?_
        refine ev_imul (pc := 36) dX8_handOfLeast_36 ?_
        refine ev_eqI (e' := nI ((zt.2 1 i) * (zt.2 0 (lsN (zt.2 0) (zt.2 1) zs i)))) (pk_mul (zt.2 1 i) (zt.2 0 (lsN (zt.2 0) (zt.2 1) zs i))) ?_
        refine ev_aload_n (pc := 37) dX8_handOfLeast_37 rfl ?_
        refine ev_getR (pc := 38) (q := 13) dX8_handOfLeast_38 fX8_15 rfl (wlt hw (by decide)) (wr hw rfl) ?_
        refine ev_iload_n (pc := 41) dX8_handOfLeast_41 rfl ?_
        refine ev_iald (pc := 42) dX8_handOfLeast_42 rfl (wlt hw (by decide)) (vp_in_nI (by omega) (by decide)) ?_
        refine ev_eqI (e' := h.2.1 13 (lsN (zt.2 0) (zt.2 1) zs i)) (by rw [show Int32.toNatClampNeg (nI (lsN (zt.2 0) (zt.2 1) zs i)) = lsN (zt.2 0) (zt.2 1) zs i from nI_clamp (by omega)] <;> rfl) ?_
        refine ev_eqI (e' := nI (zt.2 1 (lsN (zt.2 0) (zt.2 1) zs i))) z9q.2.1 ?_
        refine ev_aload_n (pc := 43) dX8_handOfLeast_43 rfl ?_
        refine ev_getR (pc := 44) (q := 12) dX8_handOfLeast_44 fX8_9 rfl (wlt hw (by decide)) (wr hw rfl) ?_
        refine ev_iload_n (pc := 47) dX8_handOfLeast_47 rfl ?_
        refine ev_iald (pc := 48) dX8_handOfLeast_48 rfl (wlt hw (by decide)) (vp_in_nI (by omega) (by decide)) ?_
        refine ev_eqI (e' := h.2.1 12 i) (by rw [show Int32.toNatClampNeg (nI i) = i from nI_clamp (by omega)] <;> rfl) ?_
        refine ev_eqI (e' := nI (zt.2 0 i)) z9i.1 ?_
        refine ev_imul (pc := 49) dX8_handOfLeast_49 ?_
        refine ev_eqI (e' := nI ((zt.2 1 (lsN (zt.2 0) (zt.2 1) zs i)) * (zt.2 0 i))) (pk_mul (zt.2 1 (lsN (zt.2 0) (zt.2 1) zs i)) (zt.2 0 i)) ?_
        refine ev_icmp_ge (pc := 50) (tgt := 55) dX8_handOfLeast_50 (by decide) (fun zc50 => ?_) (fun zc50 => ?_)
        · -- ge at 50: taken
          refine ev_iinc (pc := 55) (v := nI (i + 1)) (L' := [some (.ref 11), some (.int (nI zs)), some (.int (nI (lsN (zt.2 0) (zt.2 1) zs i))), some (.int (nI (i + 1))), none]) dX8_handOfLeast_55 rfl (nI_1 _) (Nat.le_of_ble_eq_true rfl) rfl ?_
          refine ev_goto (pc := 58) (tgt := 4) dX8_handOfLeast_58 (by decide) ?_
          refine ev_eqL (L' := [some (.ref 11), some (.int (nI zs)), some (.int (lsW (lsN (zt.2 0) (zt.2 1) zs (i + 1)))), some (.int (nI (i + 1))), none]) (by rw [lsN]; rw [if_neg (fun zq => by rcases zq.2 with z | z; exact (by omega); exact absurd ((nI_leI (by omega) (by omega)).mp zc50) (by omega)), lsW_n (by omega)]) ?_
          exact ih (i + 1) (by omega)
        · -- ge at 50: not taken
          refine ev_iload_n (pc := 53) dX8_handOfLeast_53 rfl ?_
          refine ev_istore_n (pc := 54) (L' := [some (.ref 11), some (.int (nI zs)), some (.int (nI i)), some (.int (nI i)), none]) dX8_handOfLeast_54 (Nat.le_of_ble_eq_true rfl) rfl ?_
          refine ev_iinc (pc := 55) (v := nI (i + 1)) (L' := [some (.ref 11), some (.int (nI zs)), some (.int (nI i)), some (.int (nI (i + 1))), none]) dX8_handOfLeast_55 rfl (nI_1 _) (Nat.le_of_ble_eq_true rfl) rfl ?_
          refine ev_goto (pc := 58) (tgt := 4) dX8_handOfLeast_58 (by decide) ?_
          refine ev_eqL (L' := [some (.ref 11), some (.int (nI zs)), some (.int (lsW (lsN (zt.2 0) (zt.2 1) zs (i + 1)))), some (.int (nI (i + 1))), none]) (by rw [lsN]; rw [if_pos ⟨(has_b (by omega)).mp (bI_n0.mp zc17), Or.inr (Nat.not_le.mp (fun z => zc50 ((nI_leI (by omega) (by omega)).mpr z)))⟩, lsW_n (zx := i) (by omega)]) ?_
          exact ih (i + 1) (by omega)
theorem lp_hand_11 (E : ME) (h : AH) (zt : PSt) (zs zq : Nat) (hw : WF h) (hS : STz zt 11 h) (hO : POK zt) (hs : zs < 2 ^ zt.1 1) (hr : ∀ zi, zi < zt.1 1 → zs.testBit zi = true → 0 < zt.2 0 zi) (hq : zq < zt.1 1) (hq0 : 0 < zt.2 0 zq) {post : PO} (K : Ev E mX8_handOfLeast (rmm 4 0 0) (QM E 0 0 post) 0 0 107 [some (.ref 11), some (.int (nI zs)), some (.int (nI zq)), some (.int (nI (hdN (zt.2 0) (zt.2 1) (zt.1 3) zs zq (zt.1 1)))), some (.int (nI (zt.1 1)))] [] h) : ∀ n i : Nat, i + n = (zt.1 1) → Ev E mX8_handOfLeast (rmm 4 0 0) (QM E 0 0 post) 0 0 66 [some (.ref 11), some (.int (nI zs)), some (.int (nI zq)), some (.int (nI (hdN (zt.2 0) (zt.2 1) (zt.1 3) zs zq i))), some (.int (nI i))] [] h := by
  intro n
  induction n with
  | zero =>
    intro i hi
    obtain rfl : zt.1 1 = i := by omega
    refine ev_iload (pc := 66) dX8_handOfLeast_66 rfl ?_
    refine ev_aload_n (pc := 68) dX8_handOfLeast_68 rfl ?_
    refine ev_getI (pc := 69) dX8_handOfLeast_69 fX8_42 rfl (wlt hw (by decide)) ?_
    refine ev_eqI (e' := nI (zt.1 1)) hS.1 ?_
    refine ev_icmp_ge (pc := 72) (tgt := 107) dX8_handOfLeast_72 (by decide) (fun zc72 => ?_) (fun zc72 => absurd (nI_le (Nat.le_refl _) (by have := hO.1; omega)) zc72)
    exact K
  | succ n ih =>
    intro i hi
    have hlt : i < (zt.1 1) := by omega
    have zm12 := hO.1
    refine ev_iload (pc := 66) dX8_handOfLeast_66 rfl ?_
    refine ev_aload_n (pc := 68) dX8_handOfLeast_68 rfl ?_
    refine ev_getI (pc := 69) dX8_handOfLeast_69 fX8_42 rfl (wlt hw (by decide)) ?_
    refine ev_eqI (e' := nI (zt.1 1)) hS.1 ?_
    refine ev_icmp_ge (pc := 72) (tgt := 107) dX8_handOfLeast_72 (by decide) (fun zc72 => absurd zc72 (nI_ge hlt (by have := hO.1; omega))) (fun zc72 => ?_)
    refine ev_iload_n (pc := 75) dX8_handOfLeast_75 rfl ?_
    refine ev_iload (pc := 76) dX8_handOfLeast_76 rfl ?_
    refine ev_callSv (S := []) (pc := 78) dX8_handOfLeast_78 kX10_has lX8_70 sX10_has (cn_X10_has E h (nI zs) (nI i)) rfl rfl (Nat.le_of_ble_eq_true rfl) ⟨Nat.le_of_ble_eq_true rfl, Nat.le_of_ble_eq_true rfl⟩ ⟨Nat.le_of_ble_eq_true rfl, Nat.le_of_ble_eq_true rfl⟩ ?_
    refine ev_if_eq (pc := 81) (tgt := 101) dX8_handOfLeast_81 (by decide) (fun zc81 => ?_) (fun zc81 => ?_)
    · -- eq at 81: taken
      refine ev_iinc (pc := 101) (v := nI (i + 1)) (L' := [some (.ref 11), some (.int (nI zs)), some (.int (nI zq)), some (.int (nI (hdN (zt.2 0) (zt.2 1) (zt.1 3) zs zq i))), some (.int (nI (i + 1)))]) dX8_handOfLeast_101 rfl (nI_1 _) (Nat.le_of_ble_eq_true rfl) rfl ?_
      refine ev_goto (pc := 104) (tgt := 66) dX8_handOfLeast_104 (by decide) ?_
      refine ev_eqL (L' := [some (.ref 11), some (.int (nI zs)), some (.int (nI zq)), some (.int (nI (hdN (zt.2 0) (zt.2 1) (zt.1 3) zs zq (i + 1)))), some (.int (nI (i + 1)))]) (by rw [hdN, ← (if_or32f (zx := hdN (zt.2 0) (zt.2 1) (zt.1 3) zs zq i) (zn := i) (fun z => bI_0.mp zc81 ((has_b (by omega)).mpr z.1))), or_zero32]) ?_
      exact ih (i + 1) (by omega)
    · -- eq at 81: not taken
      refine ev_aload_n (pc := 84) dX8_handOfLeast_84 rfl ?_
      refine ev_iload_n (pc := 85) dX8_handOfLeast_85 rfl ?_
      refine ev_iload (pc := 86) dX8_handOfLeast_86 rfl ?_
      refine ev_callVv (S := []) (pc := 88) dX8_handOfLeast_88 kX8_areTwoHands lX8_83 vX8_areTwoHands (cn_X8_areTwoHands_11 E h zt zq i hw hS hO hq hlt hq0 (hr i hlt ((has_b (by omega)).mp (bI_n0.mp zc81)))) rfl rfl (wlt hw (by decide)) rfl rfl (Nat.le_of_ble_eq_true rfl) ⟨Nat.le_of_ble_eq_true rfl, Nat.le_of_ble_eq_true rfl⟩ ⟨Nat.le_of_ble_eq_true rfl, Nat.le_of_ble_eq_true rfl⟩ ?_
      refine ev_if_ne (pc := 91) (tgt := 101) dX8_handOfLeast_91 (by decide) (fun zc91 => ?_) (fun zc91 => ?_)
      · -- ne at 91: taken
        refine ev_iinc (pc := 101) (v := nI (i + 1)) (L' := [some (.ref 11), some (.int (nI zs)), some (.int (nI zq)), some (.int (nI (hdN (zt.2 0) (zt.2 1) (zt.1 3) zs zq i))), some (.int (nI (i + 1)))]) dX8_handOfLeast_101 rfl (nI_1 _) (Nat.le_of_ble_eq_true rfl) rfl ?_
        refine ev_goto (pc := 104) (tgt := 66) dX8_handOfLeast_104 (by decide) ?_
        refine ev_eqL (L' := [some (.ref 11), some (.int (nI zs)), some (.int (nI zq)), some (.int (nI (hdN (zt.2 0) (zt.2 1) (zt.1 3) zs zq (i + 1)))), some (.int (nI (i + 1)))]) (by rw [hdN, ← (if_or32f (zx := hdN (zt.2 0) (zt.2 1) (zt.1 3) zs zq i) (zn := i) (fun z => zc91 (bI_0.mpr (fun z8 => by rw [sur_sym, z.2] at z8; cases z8)))), or_zero32]) ?_
        exact ih (i + 1) (by omega)
      · -- ne at 91: not taken
        refine ev_iload_n (pc := 94) dX8_handOfLeast_94 rfl ?_
        refine ev_iconst (pc := 95) (v := 1) dX8_handOfLeast_95 (by decide) ?_
        refine ev_iload (pc := 96) dX8_handOfLeast_96 rfl ?_
        refine ev_ishl (pc := 98) dX8_handOfLeast_98 ?_
        refine ev_ior (pc := 99) dX8_handOfLeast_99 ?_
        refine ev_istore_n (pc := 100) (L' := [some (.ref 11), some (.int (nI zs)), some (.int (nI zq)), some (.int ((nI (hdN (zt.2 0) (zt.2 1) (zt.1 3) zs zq i)) ||| (1 <<< ((nI i) &&& 31)))), some (.int (nI i))]) dX8_handOfLeast_100 (Nat.le_of_ble_eq_true rfl) rfl ?_
        refine ev_iinc (pc := 101) (v := nI (i + 1)) (L' := [some (.ref 11), some (.int (nI zs)), some (.int (nI zq)), some (.int ((nI (hdN (zt.2 0) (zt.2 1) (zt.1 3) zs zq i)) ||| (1 <<< ((nI i) &&& 31)))), some (.int (nI (i + 1)))]) dX8_handOfLeast_101 rfl (nI_1 _) (Nat.le_of_ble_eq_true rfl) rfl ?_
        refine ev_goto (pc := 104) (tgt := 66) dX8_handOfLeast_104 (by decide) ?_
        refine ev_eqL (L' := [some (.ref 11), some (.int (nI zs)), some (.int (nI zq)), some (.int (nI (hdN (zt.2 0) (zt.2 1) (zt.1 3) zs zq (i + 1)))), some (.int (nI (i + 1)))]) (by rw [hdN, ← (if_or32t (zx := hdN (zt.2 0) (zt.2 1) (zt.1 3) zs zq i) (zn := i) (by omega) ⟨(has_b (by omega)).mp (bI_n0.mp zc81), by rw [sur_sym]; exact ts_nt (bI_0.mp zc91)⟩)]) ?_
        exact ih (i + 1) (by omega)
theorem cn_X8_handOfLeast_11 (E : ME) (h : AH) (zt : PSt) (zs : Nat) (hw : WF h) (hS : STz zt 11 h) (hO : POK zt) (hs : zs < 2 ^ zt.1 1) (hr : ∀ zi, zi < zt.1 1 → zs.testBit zi = true → 0 < zt.2 0 zi) (h0 : zs ≠ 0) : Con E mX8_handOfLeast 4 0 0 [.ref 11, .int (nI zs)] h (fun r h' => r = some (.int (nI (hdN (zt.2 0) (zt.2 1) (zt.1 3) zs (lsN (zt.2 0) (zt.2 1) zs (zt.1 1)) (zt.1 1)))) ∧ h' = h) := by
  refine con_of2 (L := [some (.ref 11), some (.int (nI zs)), none, none, none]) rfl (Nat.le_of_ble_eq_true rfl) rfl ?_
  refine ev_iconst (pc := 0) (v := (-1)) dX8_handOfLeast_0 (by decide) ?_
  refine ev_istore_n (pc := 1) (L' := [some (.ref 11), some (.int (nI zs)), some (.int ((-1))), none, none]) dX8_handOfLeast_1 (Nat.le_of_ble_eq_true rfl) rfl ?_
  refine ev_iconst (pc := 2) (v := 0) dX8_handOfLeast_2 (by decide) ?_
  refine ev_istore_n (pc := 3) (L' := [some (.ref 11), some (.int (nI zs)), some (.int ((-1))), some (.int 0), none]) dX8_handOfLeast_3 (Nat.le_of_ble_eq_true rfl) rfl ?_
  have zls := ls_lt (zc := zt.2 0) (zl := zt.2 1) h0 hs
  have zm12 := hO.1
  refine lp_least_11 E h zt zs hw hS hO ?_ (zt.1 1) 0 (Nat.zero_add _)
  refine ev_eqL (L' := [some (.ref 11), some (.int (nI zs)), some (.int (nI (lsN (zt.2 0) (zt.2 1) zs (zt.1 1)))), some (.int (nI (zt.1 1))), none]) (by rw [lsW_n (by omega)]) ?_
  refine ev_iconst (pc := 61) (v := 0) dX8_handOfLeast_61 (by decide) ?_
  refine ev_istore_n (pc := 62) (L' := [some (.ref 11), some (.int (nI zs)), some (.int (nI (lsN (zt.2 0) (zt.2 1) zs (zt.1 1)))), some (.int 0), none]) dX8_handOfLeast_62 (Nat.le_of_ble_eq_true rfl) rfl ?_
  refine ev_iconst (pc := 63) (v := 0) dX8_handOfLeast_63 (by decide) ?_
  refine ev_istore (pc := 64) (L' := [some (.ref 11), some (.int (nI zs)), some (.int (nI (lsN (zt.2 0) (zt.2 1) zs (zt.1 1)))), some (.int 0), some (.int 0)]) dX8_handOfLeast_64 (Nat.le_of_ble_eq_true rfl) rfl ?_
  refine lp_hand_11 E h zt zs (lsN (zt.2 0) (zt.2 1) zs (zt.1 1)) hw hS hO hs hr zls.1 (hr _ zls.1 zls.2) ?_ (zt.1 1) 0 (Nat.zero_add _)
  refine ev_iload_n (pc := 107) dX8_handOfLeast_107 rfl ?_
  refine ev_iret (pc := 108) dX8_handOfLeast_108 rfl ?_ ?_
  · rfl
  · exact ⟨rfl, rfl⟩
