def lbt (zx : Int64) (zi : Nat) : Bool := zx.toBitVec.getLsbD zi
theorem lb_ext {zx zy : Int64} (h : ∀ zi, zi < 64 → lbt zx zi = lbt zy zi) : zx = zy := Int64.toBitVec_inj.mp (BitVec.eq_of_getLsbD_eq (fun zi hi => h zi hi))
theorem lb_or (zx zy : Int64) (zi : Nat) : lbt (zx ||| zy) zi = (lbt zx zi || lbt zy zi) := by unfold lbt; rw [Int64.toBitVec_or, BitVec.getLsbD_or]
theorem lb_and (zx zy : Int64) (zi : Nat) : lbt (zx &&& zy) zi = (lbt zx zi && lbt zy zi) := by unfold lbt; rw [Int64.toBitVec_and, BitVec.getLsbD_and]
theorem lb_xor (zx zy : Int64) (zi : Nat) : lbt (zx ^^^ zy) zi = (lbt zx zi ^^ lbt zy zi) := by unfold lbt; rw [Int64.toBitVec_xor, BitVec.getLsbD_xor]
theorem lb_m1 : ∀ zi, zi < 64 → lbt (-1) zi = true := by decide +kernel
theorem lb_0 (zi : Nat) : lbt 0 zi = false := BitVec.getLsbD_zero
theorem lb_N {zn zi : Nat} (hi : zi < 64) : lbt (lN zn) zi = zn.testBit zi := by
  unfold lbt
  rw [wb_tb, BitVec.getLsbD_ofNat, decide_eq_true hi, Bool.true_and]
theorem lb_bit {zi zj : Nat} (hi : zi < 64) (hj : zj < 64) : lbt ((1 : Int64) <<< (Int32.toInt64 (nI zi) &&& 63)) zj = decide (zj = zi) := by
  have e : (1 : Int64) <<< (Int32.toInt64 (nI zi) &&& 63) = lN (1 * 2 ^ zi) := wb_shl 1 hi
  rw [e, lb_N hj, Nat.one_mul, Nat.testBit_two_pow]
  exact decide_eq_decide.mpr ⟨fun z => z.symm, fun z => z.symm⟩
theorem lb_clr {zi zj : Nat} (hi : zi < 64) (hj : zj < 64) (zx : Int64) : lbt (zx &&& (((1 : Int64) <<< (Int32.toInt64 (nI zi) &&& 63)) ^^^ (-1))) zj = (lbt zx zj && !decide (zj = zi)) := by
  rw [lb_and, lb_xor, lb_bit hi hj, lb_m1 zj hj, Bool.xor_true]
theorem lb_set {zi zj : Nat} (hi : zi < 64) (hj : zj < 64) (zx : Int64) : lbt (zx ||| ((1 : Int64) <<< (Int32.toInt64 (nI zi) &&& 63))) zj = (lbt zx zj || decide (zj = zi)) := by
  rw [lb_or, lb_bit hi hj]
theorem lb_has (zx : Int64) {zi : Nat} (hi : zi < 64) : ((zx.toUInt64 >>> ((Int32.toInt64 (nI zi)).toUInt64 &&& Int64.toUInt64 63)).toInt64 &&& 1) = 0 ↔ lbt zx zi = false := ts_bit hi (by rw [wb_cu zi hi]; exact u_tn (by omega))
/-- planes: a set of cells for each colour; the coloured cells -/
def PLz (zP : Nat → Int64) (zf : Nat → Int32) : Prop := ∀ zc, zc < 6 → ∀ zj, zj < 64 → lbt (zP zc) zj = decide (zf zj = nI zc)
def CLz (zx : Int64) (zf : Nat → Int32) : Prop := ∀ zj, zj < 64 → lbt zx zj = !decide (zf zj = -1)
def COz (zf : Nat → Int32) : Prop := ∀ zj, zj < 64 → zf zj = -1 ∨ ∃ zc, zc < 6 ∧ zf zj = nI zc
theorem m1_ne {zc : Nat} (h : zc < 6) : ¬ (-1 : Int32) = nI zc := by
  revert h; revert zc; decide
theorem pl_clear {zP : Nat → Int64} {zf : Nat → Int32} {zi zc : Nat} (h : PLz zP zf) (hi : zi < 64) (hc : zc < 6) (he : zf zi = nI zc) : PLz (vp_updL zP zc (zP zc &&& (((1 : Int64) <<< (Int32.toInt64 (nI zi) &&& 63)) ^^^ (-1)))) (upd zf zi (-1)) := by
  intro zd hd zj hj
  unfold vp_updL upd
  by_cases e : zd = zc
  · subst e
    rw [if_pos rfl, lb_clr hi hj, h zd hd zj hj]
    by_cases e2 : zj = zi
    · subst e2
      rw [if_pos rfl, decide_eq_true (rfl : zj = zj), decide_eq_false (m1_ne hd), Bool.not_true, Bool.and_false]
    · rw [if_neg e2, decide_eq_false e2, Bool.not_false, Bool.and_true]
  · rw [if_neg e, h zd hd zj hj]
    by_cases e2 : zj = zi
    · subst e2
      rw [if_pos rfl, he]
      refine decide_eq_decide.mpr ⟨fun z => ?_, fun z => absurd z (m1_ne hd)⟩
      exact absurd ((nI_eq (by omega) (by omega)).mp z).symm e
    · rw [if_neg e2]
theorem pl_set {zP : Nat → Int64} {zf : Nat → Int32} {zi zc : Nat} (h : PLz zP zf) (hi : zi < 64) (hc : zc < 6) (he : zf zi = -1) : PLz (vp_updL zP zc (zP zc ||| ((1 : Int64) <<< (Int32.toInt64 (nI zi) &&& 63)))) (upd zf zi (nI zc)) := by
  intro zd hd zj hj
  unfold vp_updL upd
  by_cases e : zd = zc
  · subst e
    rw [if_pos rfl, lb_set hi hj, h zd hd zj hj]
    by_cases e2 : zj = zi
    · subst e2
      rw [if_pos rfl, decide_eq_true (rfl : zj = zj), decide_eq_true (rfl : nI zd = nI zd), Bool.or_true]
    · rw [if_neg e2, decide_eq_false e2, Bool.or_false]
  · rw [if_neg e, h zd hd zj hj]
    by_cases e2 : zj = zi
    · subst e2
      rw [if_pos rfl, he]
      refine decide_eq_decide.mpr ⟨fun z => absurd z (m1_ne hd), fun z => ?_⟩
      exact absurd ((nI_eq (by omega) (by omega)).mp z).symm e
    · rw [if_neg e2]
theorem cl_clear {zx : Int64} {zf : Nat → Int32} {zi : Nat} (h : CLz zx zf) (hi : zi < 64) : CLz (zx &&& (((1 : Int64) <<< (Int32.toInt64 (nI zi) &&& 63)) ^^^ (-1))) (upd zf zi (-1)) := by
  intro zj hj
  rw [lb_clr hi hj, h zj hj]
  unfold upd
  by_cases e2 : zj = zi
  · rw [if_pos e2, decide_eq_true e2, Bool.not_true, Bool.and_false]; rfl
  · rw [if_neg e2, decide_eq_false e2, Bool.not_false, Bool.and_true]
theorem cl_set {zx : Int64} {zf : Nat → Int32} {zi zc : Nat} (h : CLz zx zf) (hi : zi < 64) (hc : zc < 6) : CLz (zx ||| ((1 : Int64) <<< (Int32.toInt64 (nI zi) &&& 63))) (upd zf zi (nI zc)) := by
  intro zj hj
  rw [lb_set hi hj, h zj hj]
  unfold upd
  by_cases e2 : zj = zi
  · rw [if_pos e2, decide_eq_true e2, Bool.or_true, decide_eq_false (fun z => m1_ne hc z.symm)]; rfl
  · rw [if_neg e2, decide_eq_false e2, Bool.or_false]
theorem co_upd {zf : Nat → Int32} {zi : Nat} {zv : Int32} (h : COz zf) (hv : zv = -1 ∨ ∃ zc, zc < 6 ∧ zv = nI zc) : COz (upd zf zi zv) := by
  intro zj hj
  unfold upd
  split
  · exact hv
  · exact h zj hj
/-- the class's floor: its cells' colours, what is filled -/
def FLz (zf : Nat → Int32) (zx : Int64) (h : AH) : Prop := (∀ zj, zj < 64 → h.2.1 26 zj = zf zj) ∧ COz zf ∧ PLz (h.2.2.1 27) zf ∧ CLz (h.2.2.1 25 4) zf ∧ h.2.2.1 25 5 = zx
/-- nothing but the floor has changed; of the floor its colours, planes, numbers -/
def FrF (h g : AH) : Prop := g.1 = h.1 ∧ g.2.2.2 = h.2.2.2 ∧ (∀ zk, zk ≠ 25 → zk ≠ 26 → g.2.1 zk = h.2.1 zk) ∧ (∀ zk, zk ≠ 25 → zk ≠ 27 → g.2.2.1 zk = h.2.2.1 zk) ∧ ∀ zj, zj ≠ 7 → g.2.1 25 zj = h.2.1 25 zj
theorem FrF_0 (h : AH) : FrF h h := ⟨rfl, rfl, fun _ _ _ => rfl, fun _ _ _ => rfl, fun _ _ => rfl⟩
theorem FrF_t {h g k : AH} (h1 : FrF h g) (h2 : FrF g k) : FrF h k := ⟨h2.1.trans h1.1, h2.2.1.trans h1.2.1, fun zk a b => (h2.2.2.1 zk a b).trans (h1.2.2.1 zk a b), fun zk a b => (h2.2.2.2.1 zk a b).trans (h1.2.2.2.1 zk a b), fun zj a => (h2.2.2.2.2 zj a).trans (h1.2.2.2.2 zj a)⟩
theorem FrF_w {h g : AH} (hs : FrF h g) (hw : WF h) : WF g := by
  refine ⟨hs.1.trans hw.1, fun k j q hq => ?_⟩
  rw [hs.2.1]
  exact hw.2 k j q hq
theorem sL_dp (h : AH) {k j : Nat} (hjk : j ≠ k) (f f' g : Nat → Int64) : sL (sL (sL h k f) j g) k f' = sL (sL h k f') j g := by
  rw [sL_cm _ (Ne.symm hjk), sL_sL]
theorem cn_X2_colourAt (E : ME) (h : AH) (zi : Int32) (hw : WF h) : Con E mX2_colourAt 1 0 0 [.ref 25, .int zi] h (fun r h' => r = some (.int (if 0 ≤ zi ∧ zi < 64 then h.2.1 26 zi.toNatClampNeg else -1)) ∧ h' = h) := by
  refine con_of2 (L := [some (.ref 25), some (.int zi)]) rfl (Nat.le_of_ble_eq_true rfl) rfl ?_
  refine ev_iload_n (pc := 0) dX2_colourAt_0 rfl ?_
  refine ev_callSv (S := []) (pc := 1) dX2_colourAt_1 kX10_isCell lX2_35 sX10_isCell (cn_X10_isCell E h zi) rfl rfl (Nat.le_of_ble_eq_true rfl) ⟨Nat.le_of_ble_eq_true rfl, Nat.le_of_ble_eq_true rfl⟩ ⟨Nat.le_of_ble_eq_true rfl, Nat.le_of_ble_eq_true rfl⟩ ?_
  refine ev_if_eq (pc := 4) (tgt := 16) dX2_colourAt_4 (by decide) (fun zc4 => ?_) (fun zc4 => ?_)
  · -- eq at 4: taken
    refine ev_iconst (pc := 16) (v := (-1)) dX2_colourAt_16 (by decide) ?_
    refine ev_iret (pc := 17) dX2_colourAt_17 rfl ?_ ?_
    · rfl
    · refine ⟨?_, rfl⟩
      first | rw [if_pos (bI_n0.mp zc4)] | rw [if_neg (bI_0.mp zc4)]
  · -- eq at 4: not taken
    refine ev_aload_n (pc := 7) dX2_colourAt_7 rfl ?_
    refine ev_getR (pc := 8) (q := 26) dX2_colourAt_8 fX2_9 rfl (wlt hw (by decide)) (wr hw rfl) ?_
    refine ev_iload_n (pc := 11) dX2_colourAt_11 rfl ?_
    refine ev_iald (pc := 12) dX2_colourAt_12 rfl (wlt hw (by decide)) (vp_sm2 (bI_n0.mp zc4).1 (bI_n0.mp zc4).2 (by decide) (by decide)) ?_
    refine ev_goto (pc := 13) (tgt := 17) dX2_colourAt_13 (by decide) ?_
    refine ev_iret (pc := 17) dX2_colourAt_17 rfl ?_ ?_
    · rfl
    · refine ⟨?_, rfl⟩
      first | rw [if_pos (bI_n0.mp zc4)] | rw [if_neg (bI_0.mp zc4)]
theorem cl_in {zi : Nat} (h : zi < 64) : (0 : Int32) ≤ nI zi ∧ nI zi < 64 := ⟨nI_pos' (by omega), nI_lt (a := zi) (b := 64) h (by decide)⟩
theorem cl_in2 {zi : Nat} (h : zi < 64) : (0 : Int32) ≤ nI zi ∧ nI zi ≤ 63 := ⟨nI_pos' (by omega), nI_le (a := zi) (b := 63) (by omega) (by decide)⟩
theorem cn_colourN (E : ME) (h : AH) (zi : Nat) (zf : Nat → Int32) (zx : Int64) (hw : WF h) (hF : FLz zf zx h) (hi : zi < 64) : Con E mX2_colourAt 1 0 0 [.ref 25, .int (nI zi)] h (fun r h' => r = some (.int (zf zi)) ∧ h' = h) := by
  have z1 := cn_X2_colourAt E h (nI zi) hw
  rw [if_pos (cl_in hi), nI_clamp (by omega), hF.1 zi hi] at z1
  exact z1
theorem cn_X2_plane (E : ME) (h : AH) (zc : Nat) (hw : WF h) (hc : zc < 6) : Con E mX2_plane 0 0 0 [.ref 25, .int (nI zc)] h (fun r h' => r = some (.long (h.2.2.1 27 zc)) ∧ h' = h) := by
  refine con_of2 (L := [some (.ref 25), some (.int (nI zc))]) rfl (Nat.le_of_ble_eq_true rfl) rfl ?_
  refine ev_iload_n (pc := 0) dX2_plane_0 rfl ?_
  refine ev_if_lt (pc := 1) (tgt := 19) dX2_plane_1 (by decide) (fun zc1 => absurd zc1 (nI_pos (by omega))) (fun zc1 => ?_)
  refine ev_iload_n (pc := 4) dX2_plane_4 rfl ?_
  refine ev_bipush (pc := 5) (v := 6) dX2_plane_5 (by decide) ?_
  refine ev_icmp_ge (pc := 7) (tgt := 19) dX2_plane_7 (by decide) (fun zc7 => absurd zc7 (nI_ge (b := 6) hc (by decide))) (fun zc7 => ?_)
  refine ev_aload_n (pc := 10) dX2_plane_10 rfl ?_
  refine ev_getR (pc := 11) (q := 27) dX2_plane_11 fX2_15 rfl (wlt hw (by decide)) (wr hw rfl) ?_
  refine ev_iload_n (pc := 14) dX2_plane_14 rfl ?_
  refine ev_lald (pc := 15) dX2_plane_15 rfl (wlt hw (by decide)) (vp_in_nI (by omega) (by decide)) ?_
  refine ev_eqJ (e' := h.2.2.1 27 zc) (by rw [show Int32.toNatClampNeg (nI zc) = zc from nI_clamp (by omega)] <;> rfl) ?_
  refine ev_goto (pc := 16) (tgt := 20) dX2_plane_16 (by decide) ?_
  refine ev_lret (pc := 20) dX2_plane_20 rfl ?_
  · exact ⟨rfl, rfl⟩
theorem cn_X2_lostCells (E : ME) (h : AH)  (hw : WF h) : Con E mX2_lostCells 0 0 0 [.ref 25] h (fun r h' => r = some (.long (h.2.2.1 25 4 ^^^ (-1))) ∧ h' = h) := by
  refine con_of2 (L := [some (.ref 25)]) rfl (Nat.le_of_ble_eq_true rfl) rfl ?_
  refine ev_aload_n (pc := 0) dX2_lostCells_0 rfl ?_
  refine ev_getL (pc := 1) dX2_lostCells_1 fX2_43 rfl (wlt hw (by decide)) ?_
  refine ev_ldc2 (pc := 4) (v := (-1)) dX2_lostCells_4 kcX2_47 ?_
  refine ev_lxor (pc := 7) dX2_lostCells_7 ?_
  refine ev_lret (pc := 8) dX2_lostCells_8 rfl ?_
  · exact ⟨rfl, rfl⟩
theorem cn_X2_changes (E : ME) (h : AH)  (hw : WF h) : Con E mX2_changes 0 0 0 [.ref 25] h (fun r h' => r = some (.int (h.2.1 25 7)) ∧ h' = h) := by
  refine con_of2 (L := [some (.ref 25)]) rfl (Nat.le_of_ble_eq_true rfl) rfl ?_
  refine ev_aload_n (pc := 0) dX2_changes_0 rfl ?_
  refine ev_getI (pc := 1) dX2_changes_1 fX2_39 rfl (wlt hw (by decide)) ?_
  refine ev_iret (pc := 4) dX2_changes_4 rfl ?_ ?_
  · rfl
  · exact ⟨rfl, rfl⟩
theorem cn_X10_hasCell (E : ME) (h : AH) (zx : Int64) (zi : Nat) (hw : WF h) (hi : zi < 64) : Con E mX10_hasCell 0 0 0 [.long zx, .int (nI zi)] h (fun r h' => r = some (.int (bI (lbt zx zi = true))) ∧ h' = h) := by
  refine con_of2 (L := [some (.long zx), none, some (.int (nI zi))]) rfl (Nat.le_of_ble_eq_true rfl) rfl ?_
  refine ev_lload_n (pc := 0) dX10_hasCell_0 rfl ?_
  refine ev_iload_n (pc := 1) dX10_hasCell_1 rfl ?_
  refine ev_lushr (pc := 2) dX10_hasCell_2 ?_
  refine ev_lconst (pc := 3) (v := 1) dX10_hasCell_3 (by decide) ?_
  refine ev_land (pc := 4) dX10_hasCell_4 ?_
  refine ev_lconst (pc := 5) (v := 0) dX10_hasCell_5 (by decide) ?_
  refine ev_lcmp (pc := 6) dX10_hasCell_6 ?_
  refine ev_if_eq (pc := 7) (tgt := 14) dX10_hasCell_7 (by decide) (fun zc7 => ?_) (fun zc7 => ?_)
  · -- eq at 7: taken
    refine ev_iconst (pc := 14) (v := 0) dX10_hasCell_14 (by decide) ?_
    refine ev_iret (pc := 15) dX10_hasCell_15 rfl ?_ ?_
    · first | rfl | exact nar_bI _ | (simp only [*]; exact nar_bI _) | (simp [narrow, *]; done)
    · refine ⟨?_, rfl⟩
      rw [bI_f (fun z => by have z1 := (lb_has zx hi).mp ((lc_eq _ _).mp zc7); rw [z] at z1; cases z1)]
  · -- eq at 7: not taken
    refine ev_iconst (pc := 10) (v := 1) dX10_hasCell_10 (by decide) ?_
    refine ev_goto (pc := 11) (tgt := 15) dX10_hasCell_11 (by decide) ?_
    refine ev_iret (pc := 15) dX10_hasCell_15 rfl ?_ ?_
    · first | rfl | exact nar_bI _ | (simp only [*]; exact nar_bI _) | (simp [narrow, *]; done)
    · refine ⟨?_, rfl⟩
      rw [bI_t (ts_nf (fun z => zc7 ((lc_eq _ _).mpr ((lb_has zx hi).mpr z))))]
