/-- the colour that a copy tells of a cell of the floor; 6: none -/
def tcN (zc : Nat → Nat → Nat) (zn zj : Nat) : Nat := if cpS zn = 1 then (if cpC zn / 8 ≤ zj / 8 ∧ zj / 8 < cpC zn / 8 + 4 ∧ cpC zn % 8 ≤ zj % 8 ∧ zj % 8 < cpC zn % 8 + 4 then zc (zn / 208) (srN 4 (cpW zn) (4 * (zj / 8 - cpC zn / 8) + (zj % 8 - cpC zn % 8))) else 6) else zc (zn / 208) (srN 4 (cpW zn) (4 * (zj / 16) + zj % 8 / 2))
def SHz (zc : Nat → Nat → Nat) (zb : Nat) (h : AH) : Prop := ∀ zp zw zk zj, zp < zb → zw < 8 → zk < 6 → zj < 64 → lbt (h.2.2.1 31 (((zp * 2 + 0) * 8 + zw) * 6 + zk)) zj = decide (zj % 8 < 4 ∧ zj / 8 < 4 ∧ zc zp (srN 4 zw (4 * (zj / 8) + zj % 8)) = zk) ∧ lbt (h.2.2.1 31 (((zp * 2 + 1) * 8 + zw) * 6 + zk)) zj = decide (zc zp (srN 4 zw (4 * (zj / 16) + zj % 8 / 2)) = zk)
theorem lb_shl (zx : Int64) {zk zj : Nat} (hk : zk < 64) (hj : zj < 64) : lbt (zx <<< (Int32.toInt64 (nI zk) &&& 63)) zj = (decide (zk ≤ zj) && lbt zx (zj - zk)) := by
  obtain ⟨zn, hn, rfl⟩ := wb_of zx
  rw [wb_shl zn hk, lb_N hj, lb_N (by omega), Nat.mul_comm, Nat.testBit_two_pow_mul]
def toL (h : AH) (zn zk : Nat) : Int64 := h.2.2.1 31 (shN zn + zk) <<< (Int32.toInt64 (nI (cpC zn)) &&& 63)
theorem to_bt {zc : Nat → Nat → Nat} {zb : Nat} {h : AH} (hS : SHz zc zb h) {zn zk zj : Nat} (hn : zn < zb * 208) (hk : zk < 6) (hj : zj < 64) : lbt (toL h zn zk) zj = decide (tcN zc zn zj = zk) := by
  have h1 := cpC_b zn
  have h2 := cpW_8 zn
  have hp : zn / 208 < zb := (Nat.div_lt_iff_lt_mul (by decide)).mpr hn
  unfold toL
  rw [lb_shl _ h1.1 hj]
  rcases cpS_12 zn with hs | hs
  · have e : shN zn + zk = ((zn / 208 * 2 + 0) * 8 + cpW zn) * 6 + zk := by unfold shN; rw [hs]; omega
    unfold tcN
    rw [e, if_pos hs]
    by_cases hc : cpC zn / 8 ≤ zj / 8 ∧ zj / 8 < cpC zn / 8 + 4 ∧ cpC zn % 8 ≤ zj % 8 ∧ zj % 8 < cpC zn % 8 + 4
    · rw [if_pos hc, decide_eq_true (show cpC zn ≤ zj by omega), Bool.true_and, (hS (zn / 208) (cpW zn) zk (zj - cpC zn) hp h2 hk (by omega)).1]
      have e1 : (zj - cpC zn) / 8 = zj / 8 - cpC zn / 8 := by omega
      have e2 : (zj - cpC zn) % 8 = zj % 8 - cpC zn % 8 := by omega
      rw [e1, e2]
      refine decide_eq_decide.mpr ⟨fun z => z.2.2, fun z => ⟨by omega, by omega, z⟩⟩
    · rw [if_neg hc, decide_eq_false (show ¬ 6 = zk by omega)]
      by_cases h9 : cpC zn ≤ zj
      · rw [decide_eq_true h9, Bool.true_and, (hS (zn / 208) (cpW zn) zk (zj - cpC zn) hp h2 hk (by omega)).1]
        refine decide_eq_false (fun z => hc ?_)
        have z1 := z.1
        have z2 := z.2.1
        omega
      · rw [decide_eq_false h9, Bool.false_and]
  · have e : shN zn + zk = ((zn / 208 * 2 + 1) * 8 + cpW zn) * 6 + zk := by unfold shN; rw [hs]; omega
    have e0 := h1.2.2.2 hs
    unfold tcN
    rw [e, if_neg (by omega), e0, decide_eq_true (Nat.zero_le zj), Bool.true_and, Nat.sub_zero]
    exact (hS (zn / 208) (cpW zn) zk zj hp h2 hk hj).2
theorem ct_step (zt : Nat → Nat) (zQ : Nat → Nat → Bool) (zi : Nat) : ∀ zn, fb_ct (fun zj => decide (zt zj < zi + 1) && zQ (zt zj) zj) zn = fb_ct (fun zj => decide (zt zj < zi) && zQ (zt zj) zj) zn + fb_ct (fun zj => decide (zt zj = zi) && zQ zi zj) zn := by
  intro zn
  rw [← fb_ct_or (fun zk _ => ?_)]
  · refine fb_ct_cong (fun zk _ => ?_)
    by_cases h1 : zt zk = zi
    · rw [h1, decide_eq_true (Nat.lt_succ_self zi), decide_eq_false (Nat.lt_irrefl zi), decide_eq_true rfl, Bool.false_and, Bool.false_or]
    · rw [decide_eq_false h1, Bool.false_and, Bool.or_false]
      congr 1
      exact decide_eq_decide.mpr (by omega)
  · rintro ⟨a, b⟩
    rw [Bool.and_eq_true, decide_eq_true_iff] at a b
    omega
def agQ (zf : Nat → Int32) (zk zj : Nat) : Bool := decide (zf zj = nI zk)
def clQ (zf : Nat → Int32) (zk zj : Nat) : Bool := !decide (zf zj = -1) && !decide (zf zj = nI zk)
def fiQ (zf : Nat → Int32) (zk zj : Nat) : Bool := decide (zf zj = -1)
/-- how many cells of which a copy tells colours below zi: agree, clash, are filled -/
def ctT (zt : Nat → Nat) (zQ : Nat → Nat → Bool) (zi : Nat) : Nat := fb_ct (fun zj => decide (zt zj < zi) && zQ (zt zj) zj) 64
theorem ctT_0 (zt : Nat → Nat) (zQ : Nat → Nat → Bool) : ctT zt zQ 0 = 0 := fb_ct_zero.mpr (fun zk _ => by rw [decide_eq_false (Nat.not_lt_zero _), Bool.false_and])
theorem ctT_s {zt : Nat → Nat} {zQ : Nat → Nat → Bool} {zi : Nat} {zx : Int64} (H : ∀ zj, zj < 64 → lbt zx zj = (decide (zt zj = zi) && zQ zi zj)) : nI (ctT zt zQ zi) + bcL zx = nI (ctT zt zQ (zi + 1)) := by
  rw [bcL_bt, nI_add]
  congr 1
  unfold ctT
  rw [ct_step]
  congr 1
  exact fb_ct_cong H
theorem ctT_b (zt : Nat → Nat) (zQ : Nat → Nat → Bool) (zi : Nat) : ctT zt zQ zi ≤ 64 := fb_ct_le _ _
theorem cn_X0_toldCells (E : ME) (h : AH) (zn zk : Nat) (zb : Nat) (hw : WF h) (hp : h.2.1 30 1 = nI zb) (hp4 : zb ≤ 4) (hnb : zn < zb * 208) (hk : zk < 6) : Con E mX0_toldCells 2 0 0 [.ref 30, .int (nI zn), .int (nI zk)] h (fun r h' => r = some (.long (toL h zn zk)) ∧ h' = h) := by
  refine con_of2 (L := [some (.ref 30), some (.int (nI zn)), some (.int (nI zk))]) rfl (Nat.le_of_ble_eq_true rfl) rfl ?_
  have hn : zn < 832 := by omega
  have hsb := shN_b hn
  refine ev_iload_n (pc := 0) dX0_toldCells_0 rfl ?_
  refine ev_iconst (pc := 1) (v := 0) dX0_toldCells_1 (by decide) ?_
  refine ev_aload_n (pc := 2) dX0_toldCells_2 rfl ?_
  refine ev_callVv (S := [.int 0, .int (nI zn)]) (pc := 3) dX0_toldCells_3 kX0_numbers lX0_66 vX0_numbers (cn_X0_numbers E h zb hw hp hp4) rfl rfl (wlt hw (by decide)) rfl rfl (Nat.le_of_ble_eq_true rfl) ⟨Nat.le_of_ble_eq_true rfl, Nat.le_of_ble_eq_true rfl⟩ ⟨Nat.le_of_ble_eq_true rfl, Nat.le_of_ble_eq_true rfl⟩ ?_
  refine ev_iconst (pc := 6) (v := 1) dX0_toldCells_6 (by decide) ?_
  refine ev_isub (pc := 7) dX0_toldCells_7 ?_
  refine ev_callSv (S := []) (pc := 8) dX0_toldCells_8 kX10_within lX0_29 sX10_within (cn_X10_within E h (nI zn) 0 ((nI (zb * 208)) - 1)) rfl rfl (Nat.le_of_ble_eq_true rfl) ⟨Nat.le_of_ble_eq_true rfl, Nat.le_of_ble_eq_true rfl⟩ ⟨Nat.le_of_ble_eq_true rfl, Nat.le_of_ble_eq_true rfl⟩ ?_
  refine ev_if_eq (pc := 11) (tgt := 23) dX0_toldCells_11 (by decide) (fun zc11 => absurd zc11 (bI_n0.mpr ⟨nI_pos' (by omega), by rw [nI_m1 (by omega)]; exact nI_le (by omega) (by omega)⟩)) (fun zc11 => ?_)
  refine ev_iload_n (pc := 14) dX0_toldCells_14 rfl ?_
  refine ev_iconst (pc := 15) (v := 0) dX0_toldCells_15 (by decide) ?_
  refine ev_iconst (pc := 16) (v := 5) dX0_toldCells_16 (by decide) ?_
  refine ev_callSv (S := []) (pc := 17) dX0_toldCells_17 kX10_within lX0_29 sX10_within (cn_X10_within E h (nI zk) 0 5) rfl rfl (Nat.le_of_ble_eq_true rfl) ⟨Nat.le_of_ble_eq_true rfl, Nat.le_of_ble_eq_true rfl⟩ ⟨Nat.le_of_ble_eq_true rfl, Nat.le_of_ble_eq_true rfl⟩ ?_
  refine ev_if_ne (pc := 20) (tgt := 25) dX0_toldCells_20 (by decide) (fun zc20 => ?_) (fun zc20 => absurd zc20 (bI_n0.mpr ⟨nI_pos' (by omega), nI_le (a := zk) (b := 5) (by omega) (by decide)⟩))
  refine ev_aload_n (pc := 25) dX0_toldCells_25 rfl ?_
  refine ev_getR (pc := 26) (q := 31) dX0_toldCells_26 fX0_11 rfl (wlt hw (by decide)) (wr hw rfl) ?_
  refine ev_iload_n (pc := 29) dX0_toldCells_29 rfl ?_
  refine ev_callSv (S := [.ref 31]) (pc := 30) dX0_toldCells_30 kX0_shapeOf lX0_69 sX0_shapeOf (cn_X0_shapeOf E h zn hn) rfl rfl (Nat.le_of_ble_eq_true rfl) ⟨Nat.le_of_ble_eq_true rfl, Nat.le_of_ble_eq_true rfl⟩ ⟨Nat.le_of_ble_eq_true rfl, Nat.le_of_ble_eq_true rfl⟩ ?_
  refine ev_iload_n (pc := 33) dX0_toldCells_33 rfl ?_
  refine ev_iadd (pc := 34) dX0_toldCells_34 ?_
  refine ev_eqI (e' := nI ((shN zn) + zk)) (nI_add (shN zn) zk) ?_
  refine ev_lald (pc := 35) dX0_toldCells_35 rfl (wlt hw (by decide)) (vp_in_nI (by omega) (by decide)) ?_
  refine ev_eqJ (e' := h.2.2.1 31 ((shN zn) + zk)) (by rw [show Int32.toNatClampNeg (nI ((shN zn) + zk)) = (shN zn) + zk from nI_clamp (by omega)] <;> rfl) ?_
  refine ev_iload_n (pc := 36) dX0_toldCells_36 rfl ?_
  refine ev_callSv (S := [.long (h.2.2.1 31 ((shN zn) + zk))]) (pc := 37) dX0_toldCells_37 kX0_cellOf lX0_72 sX0_cellOf (cn_X0_cellOf E h zn hn) rfl rfl (Nat.le_of_ble_eq_true rfl) ⟨Nat.le_of_ble_eq_true rfl, Nat.le_of_ble_eq_true rfl⟩ ⟨Nat.le_of_ble_eq_true rfl, Nat.le_of_ble_eq_true rfl⟩ ?_
  refine ev_lshl (pc := 40) dX0_toldCells_40 ?_
  refine ev_lret (pc := 41) dX0_toldCells_41 rfl ?_
  · exact ⟨rfl, rfl⟩
theorem lp_X0_agreesIn (E : ME) (h : AH) (zn : Nat) (zc : Nat → Nat → Nat) (zb : Nat) (zf : Nat → Int32) (zx : Int64) (hw : WF h) (hp : h.2.1 30 1 = nI zb) (hp4 : zb ≤ 4) (hS : SHz zc zb h) (hn : zn < zb * 208) (hF : FLz zf zx h) {post : PO} (K : Ev E mX0_agreesIn (rmm 3 0 0) (QM E 0 0 post) 0 0 38 [some (.ref 30), some (.int (nI zn)), some (.ref 25), some (.int (nI (ctT (tcN zc zn) (agQ zf) 6))), some (.int (nI 6))] [] h) : ∀ n i : Nat, i + n = 6 → Ev E mX0_agreesIn (rmm 3 0 0) (QM E 0 0 post) 0 0 5 [some (.ref 30), some (.int (nI zn)), some (.ref 25), some (.int (nI (ctT (tcN zc zn) (agQ zf) i))), some (.int (nI i))] [] h := by
  intro n
  induction n with
  | zero =>
    intro i hi
    obtain rfl : 6 = i := by omega
    refine ev_iload (pc := 5) dX0_agreesIn_5 rfl ?_
    refine ev_bipush (pc := 7) (v := 6) dX0_agreesIn_7 (by decide) ?_
    refine ev_icmp_ge (pc := 9) (tgt := 38) dX0_agreesIn_9 (by decide) (fun zc9 => ?_) (fun zc9 => absurd (by decide) zc9)
    exact K
  | succ n ih =>
    intro i hi
    have hlt : i < 6 := by omega
    refine ev_iload (pc := 5) dX0_agreesIn_5 rfl ?_
    refine ev_bipush (pc := 7) (v := 6) dX0_agreesIn_7 (by decide) ?_
    refine ev_icmp_ge (pc := 9) (tgt := 38) dX0_agreesIn_9 (by decide) (fun zc9 => absurd zc9 (nI_ge (a := i) (b := 6) hlt (by decide))) (fun zc9 => ?_)
    refine ev_iload_n (pc := 12) dX0_agreesIn_12 rfl ?_
    refine ev_aload_n (pc := 13) dX0_agreesIn_13 rfl ?_
    refine ev_iload_n (pc := 14) dX0_agreesIn_14 rfl ?_
    refine ev_iload (pc := 15) dX0_agreesIn_15 rfl ?_
    refine ev_callVv (S := [.int (nI (ctT (tcN zc zn) (agQ zf) i))]) (pc := 17) dX0_agreesIn_17 kX0_toldCells lX0_75 vX0_toldCells (cn_X0_toldCells E h zn i zb hw hp hp4 hn hlt) rfl rfl (wlt hw (by decide)) rfl rfl (Nat.le_of_ble_eq_true rfl) ⟨Nat.le_of_ble_eq_true rfl, Nat.le_of_ble_eq_true rfl⟩ ⟨Nat.le_of_ble_eq_true rfl, Nat.le_of_ble_eq_true rfl⟩ ?_
    refine ev_aload_n (pc := 20) dX0_agreesIn_20 rfl ?_
    refine ev_iload (pc := 21) dX0_agreesIn_21 rfl ?_
    refine ev_callVv (S := [.long (toL h zn i), .int (nI (ctT (tcN zc zn) (agQ zf) i))]) (pc := 23) dX0_agreesIn_23 kX2_plane lX0_79 vX2_plane (cn_X2_plane E h i hw hlt) rfl rfl (wlt hw (by decide)) rfl rfl (Nat.le_of_ble_eq_true rfl) ⟨Nat.le_of_ble_eq_true rfl, Nat.le_of_ble_eq_true rfl⟩ ⟨Nat.le_of_ble_eq_true rfl, Nat.le_of_ble_eq_true rfl⟩ ?_
    refine ev_land (pc := 26) dX0_agreesIn_26 ?_
    refine ev_callSv (S := [.int (nI (ctT (tcN zc zn) (agQ zf) i))]) (pc := 27) dX0_agreesIn_27 kJ13_bitCount_95d88 lX0_85 sJ13_bitCount_95d88 (cn_J13_bitCount_95d88 E h ((toL h zn i) &&& (h.2.2.1 27 i))) rfl rfl (Nat.le_of_ble_eq_true rfl) ⟨Nat.le_of_ble_eq_true rfl, Nat.le_of_ble_eq_true rfl⟩ ⟨Nat.le_of_ble_eq_true rfl, Nat.le_of_ble_eq_true rfl⟩ ?_
    refine ev_iadd (pc := 30) dX0_agreesIn_30 ?_
    refine ev_eqI (e' := nI (ctT (tcN zc zn) (agQ zf) (i + 1))) (ctT_s (fun zj hj => by rw [lb_and, to_bt hS hn hlt hj, hF.2.2.1 i hlt zj hj]; rfl)) ?_
    refine ev_istore_n (pc := 31) (L' := [some (.ref 30), some (.int (nI zn)), some (.ref 25), some (.int (nI (ctT (tcN zc zn) (agQ zf) (i + 1)))), some (.int (nI i))]) dX0_agreesIn_31 (Nat.le_of_ble_eq_true rfl) rfl ?_
    refine ev_iinc (pc := 32) (v := nI (i + 1)) (L' := [some (.ref 30), some (.int (nI zn)), some (.ref 25), some (.int (nI (ctT (tcN zc zn) (agQ zf) (i + 1)))), some (.int (nI (i + 1)))]) dX0_agreesIn_32 rfl (nI_1 _) (Nat.le_of_ble_eq_true rfl) rfl ?_
    refine ev_goto (pc := 35) (tgt := 5) dX0_agreesIn_35 (by decide) ?_
    exact ih (i + 1) (by omega)
theorem cn_X0_agreesIn (E : ME) (h : AH) (zn : Nat) (zc : Nat → Nat → Nat) (zb : Nat) (zf : Nat → Int32) (zx : Int64) (hw : WF h) (hp : h.2.1 30 1 = nI zb) (hp4 : zb ≤ 4) (hS : SHz zc zb h) (hn : zn < zb * 208) (hF : FLz zf zx h) : Con E mX0_agreesIn 3 0 0 [.ref 30, .int (nI zn), .ref 25] h (fun r h' => r = some (.int (nI (ctT (tcN zc zn) (agQ zf) 6))) ∧ h' = h) := by
  refine con_of2 (L := [some (.ref 30), some (.int (nI zn)), some (.ref 25), none, none]) rfl (Nat.le_of_ble_eq_true rfl) rfl ?_
  refine ev_iconst (pc := 0) (v := 0) dX0_agreesIn_0 (by decide) ?_
  refine ev_istore_n (pc := 1) (L' := [some (.ref 30), some (.int (nI zn)), some (.ref 25), some (.int 0), none]) dX0_agreesIn_1 (Nat.le_of_ble_eq_true rfl) rfl ?_
  refine ev_iconst (pc := 2) (v := 0) dX0_agreesIn_2 (by decide) ?_
  refine ev_istore (pc := 3) (L' := [some (.ref 30), some (.int (nI zn)), some (.ref 25), some (.int 0), some (.int 0)]) dX0_agreesIn_3 (Nat.le_of_ble_eq_true rfl) rfl ?_
  refine ev_eqL (L' := [some (.ref 30), some (.int (nI zn)), some (.ref 25), some (.int (nI (ctT (tcN zc zn) (agQ zf) 0))), some (.int (nI 0))]) (by rw [ctT_0]; rfl) ?_
  refine lp_X0_agreesIn E h zn zc zb zf zx hw hp hp4 hS hn hF ?_ 6 0 (Nat.zero_add _)
  refine ev_iload_n (pc := 38) dX0_agreesIn_38 rfl ?_
  refine ev_iret (pc := 39) dX0_agreesIn_39 rfl ?_ ?_
  · rfl
  · exact ⟨rfl, rfl⟩
theorem lp_X0_clashesIn (E : ME) (h : AH) (zn : Nat) (zc : Nat → Nat → Nat) (zb : Nat) (zf : Nat → Int32) (zx : Int64) (hw : WF h) (hp : h.2.1 30 1 = nI zb) (hp4 : zb ≤ 4) (hS : SHz zc zb h) (hn : zn < zb * 208) (hF : FLz zf zx h) {post : PO} (K : Ev E mX0_clashesIn (rmm 3 0 0) (QM E 0 0 post) 0 0 55 [some (.ref 30), some (.int (nI zn)), some (.ref 25), some (.int (nI (ctT (tcN zc zn) (clQ zf) 6))), some (.long ((h.2.2.1 25 4 ^^^ (-1)) ^^^ (-1))), none, some (.int (nI 6))] [] h) : ∀ n i : Nat, i + n = 6 → Ev E mX0_clashesIn (rmm 3 0 0) (QM E 0 0 post) 0 0 15 [some (.ref 30), some (.int (nI zn)), some (.ref 25), some (.int (nI (ctT (tcN zc zn) (clQ zf) i))), some (.long ((h.2.2.1 25 4 ^^^ (-1)) ^^^ (-1))), none, some (.int (nI i))] [] h := by
  intro n
  induction n with
  | zero =>
    intro i hi
    obtain rfl : 6 = i := by omega
    refine ev_iload (pc := 15) dX0_clashesIn_15 rfl ?_
    refine ev_bipush (pc := 17) (v := 6) dX0_clashesIn_17 (by decide) ?_
    refine ev_icmp_ge (pc := 19) (tgt := 55) dX0_clashesIn_19 (by decide) (fun zc19 => ?_) (fun zc19 => absurd (by decide) zc19)
    exact K
  | succ n ih =>
    intro i hi
    have hlt : i < 6 := by omega
    refine ev_iload (pc := 15) dX0_clashesIn_15 rfl ?_
    refine ev_bipush (pc := 17) (v := 6) dX0_clashesIn_17 (by decide) ?_
    refine ev_icmp_ge (pc := 19) (tgt := 55) dX0_clashesIn_19 (by decide) (fun zc19 => absurd zc19 (nI_ge (a := i) (b := 6) hlt (by decide))) (fun zc19 => ?_)
    refine ev_iload_n (pc := 22) dX0_clashesIn_22 rfl ?_
    refine ev_aload_n (pc := 23) dX0_clashesIn_23 rfl ?_
    refine ev_iload_n (pc := 24) dX0_clashesIn_24 rfl ?_
    refine ev_iload (pc := 25) dX0_clashesIn_25 rfl ?_
    refine ev_callVv (S := [.int (nI (ctT (tcN zc zn) (clQ zf) i))]) (pc := 27) dX0_clashesIn_27 kX0_toldCells lX0_75 vX0_toldCells (cn_X0_toldCells E h zn i zb hw hp hp4 hn hlt) rfl rfl (wlt hw (by decide)) rfl rfl (Nat.le_of_ble_eq_true rfl) ⟨Nat.le_of_ble_eq_true rfl, Nat.le_of_ble_eq_true rfl⟩ ⟨Nat.le_of_ble_eq_true rfl, Nat.le_of_ble_eq_true rfl⟩ ?_
    refine ev_lload (pc := 30) dX0_clashesIn_30 rfl ?_
    refine ev_land (pc := 32) dX0_clashesIn_32 ?_
    refine ev_aload_n (pc := 33) dX0_clashesIn_33 rfl ?_
    refine ev_iload (pc := 34) dX0_clashesIn_34 rfl ?_
    refine ev_callVv (S := [.long ((toL h zn i) &&& ((h.2.2.1 25 4 ^^^ (-1)) ^^^ (-1))), .int (nI (ctT (tcN zc zn) (clQ zf) i))]) (pc := 36) dX0_clashesIn_36 kX2_plane lX0_79 vX2_plane (cn_X2_plane E h i hw hlt) rfl rfl (wlt hw (by decide)) rfl rfl (Nat.le_of_ble_eq_true rfl) ⟨Nat.le_of_ble_eq_true rfl, Nat.le_of_ble_eq_true rfl⟩ ⟨Nat.le_of_ble_eq_true rfl, Nat.le_of_ble_eq_true rfl⟩ ?_
    refine ev_ldc2 (pc := 39) (v := (-1)) dX0_clashesIn_39 kcX0_95 ?_
    refine ev_lxor (pc := 42) dX0_clashesIn_42 ?_
    refine ev_land (pc := 43) dX0_clashesIn_43 ?_
    refine ev_callSv (S := [.int (nI (ctT (tcN zc zn) (clQ zf) i))]) (pc := 44) dX0_clashesIn_44 kJ13_bitCount_95d88 lX0_85 sJ13_bitCount_95d88 (cn_J13_bitCount_95d88 E h (((toL h zn i) &&& ((h.2.2.1 25 4 ^^^ (-1)) ^^^ (-1))) &&& ((h.2.2.1 27 i) ^^^ (-1)))) rfl rfl (Nat.le_of_ble_eq_true rfl) ⟨Nat.le_of_ble_eq_true rfl, Nat.le_of_ble_eq_true rfl⟩ ⟨Nat.le_of_ble_eq_true rfl, Nat.le_of_ble_eq_true rfl⟩ ?_
    refine ev_iadd (pc := 47) dX0_clashesIn_47 ?_
    refine ev_eqI (e' := nI (ctT (tcN zc zn) (clQ zf) (i + 1))) (ctT_s (fun zj hj => by rw [lb_and, lb_and, lb_xor, lb_xor, lb_xor, lb_m1 zj hj, to_bt hS hn hlt hj, hF.2.2.1 i hlt zj hj, hF.2.2.2.1 zj hj]; unfold clQ; cases decide (tcN zc zn zj = i) <;> cases decide (zf zj = -1) <;> cases decide (zf zj = nI i) <;> rfl)) ?_
    refine ev_istore_n (pc := 48) (L' := [some (.ref 30), some (.int (nI zn)), some (.ref 25), some (.int (nI (ctT (tcN zc zn) (clQ zf) (i + 1)))), some (.long ((h.2.2.1 25 4 ^^^ (-1)) ^^^ (-1))), none, some (.int (nI i))]) dX0_clashesIn_48 (Nat.le_of_ble_eq_true rfl) rfl ?_
    refine ev_iinc (pc := 49) (v := nI (i + 1)) (L' := [some (.ref 30), some (.int (nI zn)), some (.ref 25), some (.int (nI (ctT (tcN zc zn) (clQ zf) (i + 1)))), some (.long ((h.2.2.1 25 4 ^^^ (-1)) ^^^ (-1))), none, some (.int (nI (i + 1)))]) dX0_clashesIn_49 rfl (nI_1 _) (Nat.le_of_ble_eq_true rfl) rfl ?_
    refine ev_goto (pc := 52) (tgt := 15) dX0_clashesIn_52 (by decide) ?_
    exact ih (i + 1) (by omega)
theorem cn_X0_clashesIn (E : ME) (h : AH) (zn : Nat) (zc : Nat → Nat → Nat) (zb : Nat) (zf : Nat → Int32) (zx : Int64) (hw : WF h) (hp : h.2.1 30 1 = nI zb) (hp4 : zb ≤ 4) (hS : SHz zc zb h) (hn : zn < zb * 208) (hF : FLz zf zx h) : Con E mX0_clashesIn 3 0 0 [.ref 30, .int (nI zn), .ref 25] h (fun r h' => r = some (.int (nI (ctT (tcN zc zn) (clQ zf) 6))) ∧ h' = h) := by
  refine con_of2 (L := [some (.ref 30), some (.int (nI zn)), some (.ref 25), none, none, none, none]) rfl (Nat.le_of_ble_eq_true rfl) rfl ?_
  refine ev_iconst (pc := 0) (v := 0) dX0_clashesIn_0 (by decide) ?_
  refine ev_istore_n (pc := 1) (L' := [some (.ref 30), some (.int (nI zn)), some (.ref 25), some (.int 0), none, none, none]) dX0_clashesIn_1 (Nat.le_of_ble_eq_true rfl) rfl ?_
  refine ev_aload_n (pc := 2) dX0_clashesIn_2 rfl ?_
  refine ev_callVv (S := []) (pc := 3) dX0_clashesIn_3 kX2_lostCells lX0_91 vX2_lostCells (cn_X2_lostCells E h hw) rfl rfl (wlt hw (by decide)) rfl rfl (Nat.le_of_ble_eq_true rfl) ⟨Nat.le_of_ble_eq_true rfl, Nat.le_of_ble_eq_true rfl⟩ ⟨Nat.le_of_ble_eq_true rfl, Nat.le_of_ble_eq_true rfl⟩ ?_
  refine ev_ldc2 (pc := 6) (v := (-1)) dX0_clashesIn_6 kcX0_95 ?_
  refine ev_lxor (pc := 9) dX0_clashesIn_9 ?_
  refine ev_lstore (pc := 10) (L' := [some (.ref 30), some (.int (nI zn)), some (.ref 25), some (.int 0), some (.long ((h.2.2.1 25 4 ^^^ (-1)) ^^^ (-1))), none, none]) dX0_clashesIn_10 (Nat.le_of_ble_eq_true rfl) rfl ?_
  refine ev_iconst (pc := 12) (v := 0) dX0_clashesIn_12 (by decide) ?_
  refine ev_istore (pc := 13) (L' := [some (.ref 30), some (.int (nI zn)), some (.ref 25), some (.int 0), some (.long ((h.2.2.1 25 4 ^^^ (-1)) ^^^ (-1))), none, some (.int 0)]) dX0_clashesIn_13 (Nat.le_of_ble_eq_true rfl) rfl ?_
  refine ev_eqL (L' := [some (.ref 30), some (.int (nI zn)), some (.ref 25), some (.int (nI (ctT (tcN zc zn) (clQ zf) 0))), some (.long ((h.2.2.1 25 4 ^^^ (-1)) ^^^ (-1))), none, some (.int (nI 0))]) (by rw [ctT_0]; rfl) ?_
  refine lp_X0_clashesIn E h zn zc zb zf zx hw hp hp4 hS hn hF ?_ 6 0 (Nat.zero_add _)
  refine ev_iload_n (pc := 55) dX0_clashesIn_55 rfl ?_
  refine ev_iret (pc := 56) dX0_clashesIn_56 rfl ?_ ?_
  · rfl
  · exact ⟨rfl, rfl⟩
theorem lp_X0_wouldFill (E : ME) (h : AH) (zn : Nat) (zc : Nat → Nat → Nat) (zb : Nat) (zf : Nat → Int32) (zx : Int64) (hw : WF h) (hp : h.2.1 30 1 = nI zb) (hp4 : zb ≤ 4) (hS : SHz zc zb h) (hn : zn < zb * 208) (hF : FLz zf zx h) {post : PO} (K : Ev E mX0_wouldFill (rmm 3 0 0) (QM E 0 0 post) 0 0 40 [some (.ref 30), some (.int (nI zn)), some (.ref 25), some (.int (nI (ctT (tcN zc zn) (fiQ zf) 6))), some (.long (h.2.2.1 25 4 ^^^ (-1))), none, some (.int (nI 6))] [] h) : ∀ n i : Nat, i + n = 6 → Ev E mX0_wouldFill (rmm 3 0 0) (QM E 0 0 post) 0 0 11 [some (.ref 30), some (.int (nI zn)), some (.ref 25), some (.int (nI (ctT (tcN zc zn) (fiQ zf) i))), some (.long (h.2.2.1 25 4 ^^^ (-1))), none, some (.int (nI i))] [] h := by
  intro n
  induction n with
  | zero =>
    intro i hi
    obtain rfl : 6 = i := by omega
    refine ev_iload (pc := 11) dX0_wouldFill_11 rfl ?_
    refine ev_bipush (pc := 13) (v := 6) dX0_wouldFill_13 (by decide) ?_
    refine ev_icmp_ge (pc := 15) (tgt := 40) dX0_wouldFill_15 (by decide) (fun zc15 => ?_) (fun zc15 => absurd (by decide) zc15)
    exact K
  | succ n ih =>
    intro i hi
    have hlt : i < 6 := by omega
    refine ev_iload (pc := 11) dX0_wouldFill_11 rfl ?_
    refine ev_bipush (pc := 13) (v := 6) dX0_wouldFill_13 (by decide) ?_
    refine ev_icmp_ge (pc := 15) (tgt := 40) dX0_wouldFill_15 (by decide) (fun zc15 => absurd zc15 (nI_ge (a := i) (b := 6) hlt (by decide))) (fun zc15 => ?_)
    refine ev_iload_n (pc := 18) dX0_wouldFill_18 rfl ?_
    refine ev_aload_n (pc := 19) dX0_wouldFill_19 rfl ?_
    refine ev_iload_n (pc := 20) dX0_wouldFill_20 rfl ?_
    refine ev_iload (pc := 21) dX0_wouldFill_21 rfl ?_
    refine ev_callVv (S := [.int (nI (ctT (tcN zc zn) (fiQ zf) i))]) (pc := 23) dX0_wouldFill_23 kX0_toldCells lX0_75 vX0_toldCells (cn_X0_toldCells E h zn i zb hw hp hp4 hn hlt) rfl rfl (wlt hw (by decide)) rfl rfl (Nat.le_of_ble_eq_true rfl) ⟨Nat.le_of_ble_eq_true rfl, Nat.le_of_ble_eq_true rfl⟩ ⟨Nat.le_of_ble_eq_true rfl, Nat.le_of_ble_eq_true rfl⟩ ?_
    refine ev_lload (pc := 26) dX0_wouldFill_26 rfl ?_
    refine ev_land (pc := 28) dX0_wouldFill_28 ?_
    refine ev_callSv (S := [.int (nI (ctT (tcN zc zn) (fiQ zf) i))]) (pc := 29) dX0_wouldFill_29 kJ13_bitCount_95d88 lX0_85 sJ13_bitCount_95d88 (cn_J13_bitCount_95d88 E h ((toL h zn i) &&& (h.2.2.1 25 4 ^^^ (-1)))) rfl rfl (Nat.le_of_ble_eq_true rfl) ⟨Nat.le_of_ble_eq_true rfl, Nat.le_of_ble_eq_true rfl⟩ ⟨Nat.le_of_ble_eq_true rfl, Nat.le_of_ble_eq_true rfl⟩ ?_
    refine ev_iadd (pc := 32) dX0_wouldFill_32 ?_
    refine ev_eqI (e' := nI (ctT (tcN zc zn) (fiQ zf) (i + 1))) (ctT_s (fun zj hj => by rw [lb_and, lb_xor, lb_m1 zj hj, to_bt hS hn hlt hj, hF.2.2.2.1 zj hj]; unfold fiQ; cases decide (tcN zc zn zj = i) <;> cases decide (zf zj = -1) <;> rfl)) ?_
    refine ev_istore_n (pc := 33) (L' := [some (.ref 30), some (.int (nI zn)), some (.ref 25), some (.int (nI (ctT (tcN zc zn) (fiQ zf) (i + 1)))), some (.long (h.2.2.1 25 4 ^^^ (-1))), none, some (.int (nI i))]) dX0_wouldFill_33 (Nat.le_of_ble_eq_true rfl) rfl ?_
    refine ev_iinc (pc := 34) (v := nI (i + 1)) (L' := [some (.ref 30), some (.int (nI zn)), some (.ref 25), some (.int (nI (ctT (tcN zc zn) (fiQ zf) (i + 1)))), some (.long (h.2.2.1 25 4 ^^^ (-1))), none, some (.int (nI (i + 1)))]) dX0_wouldFill_34 rfl (nI_1 _) (Nat.le_of_ble_eq_true rfl) rfl ?_
    refine ev_goto (pc := 37) (tgt := 11) dX0_wouldFill_37 (by decide) ?_
    exact ih (i + 1) (by omega)
theorem cn_X0_wouldFill (E : ME) (h : AH) (zn : Nat) (zc : Nat → Nat → Nat) (zb : Nat) (zf : Nat → Int32) (zx : Int64) (hw : WF h) (hp : h.2.1 30 1 = nI zb) (hp4 : zb ≤ 4) (hS : SHz zc zb h) (hn : zn < zb * 208) (hF : FLz zf zx h) : Con E mX0_wouldFill 3 0 0 [.ref 30, .int (nI zn), .ref 25] h (fun r h' => r = some (.int (nI (ctT (tcN zc zn) (fiQ zf) 6))) ∧ h' = h) := by
  refine con_of2 (L := [some (.ref 30), some (.int (nI zn)), some (.ref 25), none, none, none, none]) rfl (Nat.le_of_ble_eq_true rfl) rfl ?_
  refine ev_iconst (pc := 0) (v := 0) dX0_wouldFill_0 (by decide) ?_
  refine ev_istore_n (pc := 1) (L' := [some (.ref 30), some (.int (nI zn)), some (.ref 25), some (.int 0), none, none, none]) dX0_wouldFill_1 (Nat.le_of_ble_eq_true rfl) rfl ?_
  refine ev_aload_n (pc := 2) dX0_wouldFill_2 rfl ?_
  refine ev_callVv (S := []) (pc := 3) dX0_wouldFill_3 kX2_lostCells lX0_91 vX2_lostCells (cn_X2_lostCells E h hw) rfl rfl (wlt hw (by decide)) rfl rfl (Nat.le_of_ble_eq_true rfl) ⟨Nat.le_of_ble_eq_true rfl, Nat.le_of_ble_eq_true rfl⟩ ⟨Nat.le_of_ble_eq_true rfl, Nat.le_of_ble_eq_true rfl⟩ ?_
  refine ev_lstore (pc := 6) (L' := [some (.ref 30), some (.int (nI zn)), some (.ref 25), some (.int 0), some (.long (h.2.2.1 25 4 ^^^ (-1))), none, none]) dX0_wouldFill_6 (Nat.le_of_ble_eq_true rfl) rfl ?_
  refine ev_iconst (pc := 8) (v := 0) dX0_wouldFill_8 (by decide) ?_
  refine ev_istore (pc := 9) (L' := [some (.ref 30), some (.int (nI zn)), some (.ref 25), some (.int 0), some (.long (h.2.2.1 25 4 ^^^ (-1))), none, some (.int 0)]) dX0_wouldFill_9 (Nat.le_of_ble_eq_true rfl) rfl ?_
  refine ev_eqL (L' := [some (.ref 30), some (.int (nI zn)), some (.ref 25), some (.int (nI (ctT (tcN zc zn) (fiQ zf) 0))), some (.long (h.2.2.1 25 4 ^^^ (-1))), none, some (.int (nI 0))]) (by rw [ctT_0]; rfl) ?_
  refine lp_X0_wouldFill E h zn zc zb zf zx hw hp hp4 hS hn hF ?_ 6 0 (Nat.zero_add _)
  refine ev_iload_n (pc := 40) dX0_wouldFill_40 rfl ?_
  refine ev_iret (pc := 41) dX0_wouldFill_41 rfl ?_ ?_
  · rfl
  · exact ⟨rfl, rfl⟩
