theorem cn_X2_changeV (E : ME) (h : AH) (zi : Nat) (zv : Int32) (zf : Nat → Int32) (zx : Int64) (hw : WF h) (hF : FLz zf zx h) (hi : zi < 64) (hv : zv = -1 ∨ ∃ zc, zc < 6 ∧ zv = nI zc) : Con E mX2_change 1 0 0 [.ref 25, .int (nI zi), .int zv] h (fun r h' => r = none ∧ FLz (upd zf zi zv) (zx &&& ((1 <<< (Int32.toInt64 (nI zi) &&& 63)) ^^^ (-1))) h' ∧ FrF h h' ∧ h'.2.1 25 7 = h.2.1 25 7 + 1) := by
  rcases hv with rfl | ⟨zc, hc, rfl⟩
  · exact cn_X2_changeL E h zi zf zx hw hF hi
  · exact cn_X2_changeC E h zi zc zf zx hw hF hi hc
theorem col_in {zv : Int32} (h : -1 ≤ zv ∧ zv ≤ 5) : zv = -1 ∨ ∃ zc, zc < 6 ∧ zv = nI zc := by
  by_cases h0 : zv = -1
  · exact Or.inl h0
  · refine Or.inr ?_
    have h1 : ¬ zv < 0 := fun z => h0 (by
      have a1 := h.1
      rw [i_le, show (-1 : Int32).toInt = -1 from by decide] at a1
      rw [i_lt, i_z0] at z
      apply Int32.toInt_inj.mp
      rw [show (-1 : Int32).toInt = -1 from by decide]
      omega)
    obtain ⟨zc, hc, rfl⟩ := nI_of h1
    exact ⟨zc, by have a2 := (nI_leI (b := 5) hc (by decide)).mp h.2; omega, rfl⟩
theorem cell_in {zi : Int32} (h : 0 ≤ zi ∧ zi < 64) : ∃ zc, zc < 64 ∧ zi = nI zc := by
  obtain ⟨zc, hc, rfl⟩ := nI_of ((i_lt2 _ _).mpr h.1)
  exact ⟨zc, (nI_ltI (b := 64) hc (by decide)).mp h.2, rfl⟩
theorem cell_63 (zi : Int32) : (0 ≤ zi ∧ zi < 64) ↔ (0 ≤ zi ∧ zi ≤ 63) := by
  rw [i_lt, i_le (a := zi), show (64 : Int32).toInt = 64 from by decide, show (63 : Int32).toInt = 63 from by decide]
  constructor
  · rintro ⟨a, b⟩; exact ⟨a, by omega⟩
  · rintro ⟨a, b⟩; exact ⟨a, by omega⟩
/-- what a change of cells leaves: the floor's new colours, what is filled, how many changes -/
def FCz (zf : Nat → Int32) (zx : Int64) (zn : Nat) (h g : AH) : Prop := FLz zf zx g ∧ FrF h g ∧ g.2.1 25 7 = h.2.1 25 7 + nI zn
theorem cn_X10_at (E : ME) (h : AH) (zi0 : Int32) (zf : Nat → Int32) (zx : Int64) (hw : WF h) (hF : FLz zf zx h) : Con E mX10_at 2 0 0 [.ref 0, .int zi0] h (fun r h' => r = some (.int (if 0 ≤ zi0 ∧ zi0 ≤ 63 then zf zi0.toNatClampNeg else -9)) ∧ h' = h) := by
  refine con_of2 (L := [some (.ref 0), some (.int zi0)]) rfl (Nat.le_of_ble_eq_true rfl) rfl ?_
  refine ev_iload_n (pc := 0) dX10_at_0 rfl ?_
  refine ev_callSv (S := []) (pc := 1) dX10_at_1 kX10_isCell lX10_160 sX10_isCell (cn_X10_isCell E h zi0) rfl rfl (Nat.le_of_ble_eq_true rfl) ⟨Nat.le_of_ble_eq_true rfl, Nat.le_of_ble_eq_true rfl⟩ ⟨Nat.le_of_ble_eq_true rfl, Nat.le_of_ble_eq_true rfl⟩ ?_
  refine ev_if_eq (pc := 4) (tgt := 18) dX10_at_4 (by decide) (fun zc4 => ?_) (fun zc4 => ?_)
  · -- eq at 4: taken
    refine ev_bipush (pc := 18) (v := (-9)) dX10_at_18 (by decide) ?_
    refine ev_iret (pc := 20) dX10_at_20 rfl ?_ ?_
    · rfl
    · refine ⟨?_, rfl⟩
      rw [if_neg (fun z => bI_0.mp zc4 ((cell_63 _).mpr z))]
  · -- eq at 4: not taken
    obtain ⟨zi, hi, rfl⟩ := cell_in (bI_n0.mp zc4)
    refine ev_aload_n (pc := 7) dX10_at_7 rfl ?_
    refine ev_getR (pc := 8) (q := 25) dX10_at_8 fX10_45 rfl (wlt hw (by decide)) (wr hw rfl) ?_
    refine ev_iload_n (pc := 11) dX10_at_11 rfl ?_
    refine ev_callVv (S := []) (pc := 12) dX10_at_12 kX2_colourAt lX10_163 vX2_colourAt (cn_colourN E h zi zf zx hw hF (by omega)) rfl rfl (wlt hw (by decide)) rfl rfl (Nat.le_of_ble_eq_true rfl) ⟨Nat.le_of_ble_eq_true rfl, Nat.le_of_ble_eq_true rfl⟩ ⟨Nat.le_of_ble_eq_true rfl, Nat.le_of_ble_eq_true rfl⟩ ?_
    refine ev_goto (pc := 15) (tgt := 20) dX10_at_15 (by decide) ?_
    refine ev_iret (pc := 20) dX10_at_20 rfl ?_ ?_
    · rfl
    · refine ⟨?_, rfl⟩
      rw [if_pos ((cell_63 _).mp (bI_n0.mp zc4)), nI_clamp (by omega)]
theorem cn_X10_put (E : ME) (h : AH) (zi0 zv : Int32) (zf : Nat → Int32) (zx : Int64) (hw : WF h) (hF : FLz zf zx h) : Con E mX10_put 2 0 0 [.ref 0, .int zi0, .int zv] h (fun r h' => r = some (.int (if (0 ≤ zi0 ∧ zi0 ≤ 63) ∧ (-1 ≤ zv ∧ zv ≤ 5) then zf zi0.toNatClampNeg else -9)) ∧ ((0 ≤ zi0 ∧ zi0 ≤ 63) ∧ (-1 ≤ zv ∧ zv ≤ 5) → FCz (upd zf zi0.toNatClampNeg zv) (zx &&& ((1 <<< (Int32.toInt64 zi0 &&& 63)) ^^^ (-1))) 1 h h') ∧ (¬ ((0 ≤ zi0 ∧ zi0 ≤ 63) ∧ (-1 ≤ zv ∧ zv ≤ 5)) → h' = h)) := by
  refine con_of2 (L := [some (.ref 0), some (.int zi0), some (.int zv), none]) rfl (Nat.le_of_ble_eq_true rfl) rfl ?_
  refine ev_iload_n (pc := 0) dX10_put_0 rfl ?_
  refine ev_callSv (S := []) (pc := 1) dX10_put_1 kX10_isCell lX10_160 sX10_isCell (cn_X10_isCell E h zi0) rfl rfl (Nat.le_of_ble_eq_true rfl) ⟨Nat.le_of_ble_eq_true rfl, Nat.le_of_ble_eq_true rfl⟩ ⟨Nat.le_of_ble_eq_true rfl, Nat.le_of_ble_eq_true rfl⟩ ?_
  refine ev_if_eq (pc := 4) (tgt := 16) dX10_put_4 (by decide) (fun zc4 => ?_) (fun zc4 => ?_)
  · -- eq at 4: taken
    refine ev_bipush (pc := 16) (v := (-9)) dX10_put_16 (by decide) ?_
    refine ev_iret (pc := 18) dX10_put_18 rfl ?_ ?_
    · rfl
    · have hC : ¬ ((0 ≤ zi0 ∧ zi0 ≤ 63) ∧ (-1 ≤ zv ∧ zv ≤ 5)) := fun z => bI_0.mp zc4 ((cell_63 _).mpr z.1)
      rw [if_neg hC]
      exact ⟨rfl, fun z => absurd z hC, fun _ => rfl⟩
  · -- eq at 4: not taken
    refine ev_iload_n (pc := 7) dX10_put_7 rfl ?_
    refine ev_iconst (pc := 8) (v := (-1)) dX10_put_8 (by decide) ?_
    refine ev_iconst (pc := 9) (v := 5) dX10_put_9 (by decide) ?_
    refine ev_callSv (S := []) (pc := 10) dX10_put_10 kX10_within lX10_123 sX10_within (cn_X10_within E h zv (-1) 5) rfl rfl (Nat.le_of_ble_eq_true rfl) ⟨Nat.le_of_ble_eq_true rfl, Nat.le_of_ble_eq_true rfl⟩ ⟨Nat.le_of_ble_eq_true rfl, Nat.le_of_ble_eq_true rfl⟩ ?_
    refine ev_if_ne (pc := 13) (tgt := 19) dX10_put_13 (by decide) (fun zc13 => ?_) (fun zc13 => ?_)
    · -- ne at 13: taken
      obtain ⟨zi, hi, rfl⟩ := cell_in (bI_n0.mp zc4)
      refine ev_aload_n (pc := 19) dX10_put_19 rfl ?_
      refine ev_getR (pc := 20) (q := 25) dX10_put_20 fX10_45 rfl (wlt hw (by decide)) (wr hw rfl) ?_
      refine ev_iload_n (pc := 23) dX10_put_23 rfl ?_
      refine ev_callVv (S := []) (pc := 24) dX10_put_24 kX2_colourAt lX10_163 vX2_colourAt (cn_colourN E h zi zf zx hw hF (by omega)) rfl rfl (wlt hw (by decide)) rfl rfl (Nat.le_of_ble_eq_true rfl) ⟨Nat.le_of_ble_eq_true rfl, Nat.le_of_ble_eq_true rfl⟩ ⟨Nat.le_of_ble_eq_true rfl, Nat.le_of_ble_eq_true rfl⟩ ?_
      refine ev_istore_n (pc := 27) (L' := [some (.ref 0), some (.int (nI zi)), some (.int zv), some (.int (zf zi))]) dX10_put_27 (Nat.le_of_ble_eq_true rfl) rfl ?_
      refine ev_aload_n (pc := 28) dX10_put_28 rfl ?_
      refine ev_getR (pc := 29) (q := 25) dX10_put_29 fX10_45 rfl (wlt hw (by decide)) (wr hw rfl) ?_
      refine ev_iload_n (pc := 32) dX10_put_32 rfl ?_
      refine ev_iload_n (pc := 33) dX10_put_33 rfl ?_
      refine ev_callV (S := []) (pc := 34) dX10_put_34 kX2_change lX10_166 vX2_change (cn_X2_changeV E h zi zv zf zx hw hF hi (col_in (bI_n0.mp zc13))) rfl rfl (wlt hw (by decide)) rfl rfl (Nat.le_of_ble_eq_true rfl) ⟨Nat.le_of_ble_eq_true rfl, Nat.le_of_ble_eq_true rfl⟩ ⟨Nat.le_of_ble_eq_true rfl, Nat.le_of_ble_eq_true rfl⟩ ?_
      rintro _ zg ⟨rfl, hF2, hR2, hn2⟩
      have wzg := FrF_w hR2 hw
      refine ev_iload_n (pc := 37) dX10_put_37 rfl ?_
      refine ev_iret (pc := 38) dX10_put_38 rfl ?_ ?_
      · rfl
      · have hC : (0 ≤ nI zi ∧ nI zi ≤ 63) ∧ (-1 ≤ zv ∧ zv ≤ 5) := ⟨(cell_63 _).mp (bI_n0.mp zc4), bI_n0.mp zc13⟩
        rw [if_pos hC, nI_clamp (by omega)]
        exact ⟨rfl, fun _ => ⟨hF2, hR2, hn2⟩, fun z => absurd hC z⟩
    · -- ne at 13: not taken
      refine ev_bipush (pc := 16) (v := (-9)) dX10_put_16 (by decide) ?_
      refine ev_iret (pc := 18) dX10_put_18 rfl ?_ ?_
      · rfl
      · have hC : ¬ ((0 ≤ zi0 ∧ zi0 ≤ 63) ∧ (-1 ≤ zv ∧ zv ≤ 5)) := fun z => bI_0.mp zc13 z.2
        rw [if_neg hC]
        exact ⟨rfl, fun z => absurd z hC, fun _ => rfl⟩
theorem cn_X2_canUndo (E : ME) (h : AH)  (hw : WF h) (hu : h.2.1 25 6 = 0 ∨ h.2.1 25 6 = 1) : Con E mX2_canUndo 0 0 0 [.ref 25] h (fun r h' => r = some (.int (h.2.1 25 6)) ∧ h' = h) := by
  refine con_of2 (L := [some (.ref 25)]) rfl (Nat.le_of_ble_eq_true rfl) rfl ?_
  refine ev_aload_n (pc := 0) dX2_canUndo_0 rfl ?_
  refine ev_getI (pc := 1) dX2_canUndo_1 fX2_56 rfl (wlt hw (by decide)) ?_
  refine ev_iret (pc := 4) dX2_canUndo_4 rfl ?_ ?_
  · rcases hu with z | z <;> rw [z] <;> rfl
  · exact ⟨rfl, rfl⟩
theorem cn_X2_noteFilled (E : ME) (h : AH) (zy : Int64) (hw : WF h) : Con E mX2_noteFilled 0 0 0 [.ref 25, .long zy] h (fun r h' => r = none ∧ h' = sI (sL h 25 (vp_updL (h.2.2.1 25) 5 zy)) 25 (upd (h.2.1 25) 6 1)) := by
  refine con_of2 (L := [some (.ref 25), some (.long zy), none]) rfl (Nat.le_of_ble_eq_true rfl) rfl ?_
  refine ev_aload_n (pc := 0) dX2_noteFilled_0 rfl ?_
  refine ev_lload_n (pc := 1) dX2_noteFilled_1 rfl ?_
  refine ev_putL (pc := 2) dX2_noteFilled_2 fX2_53 rfl (wlt hw (by decide)) ?_
  refine ev_eqH (h' := sL h 25 (vp_updL (h.2.2.1 25) 5 zy)) (by rfl) ?_
  refine ev_aload_n (pc := 5) dX2_noteFilled_5 rfl ?_
  refine ev_iconst (pc := 6) (v := 1) dX2_noteFilled_6 (by decide) ?_
  refine ev_putZ (pc := 7) dX2_noteFilled_7 fX2_56 rfl (wlt (wf_sL hw) (by decide)) (by decide) ?_
  refine ev_eqH (h' := sI (sL h 25 (vp_updL (h.2.2.1 25) 5 zy)) 25 (upd (h.2.1 25) 6 1)) (by rfl) ?_
  refine ev_ret (pc := 10) dX2_noteFilled_10 rfl ?_
  · exact ⟨rfl, rfl⟩
theorem lb_shr1 (zx : Int64) {zi : Nat} (hi : zi < 64) : ((zx >>> (Int32.toInt64 (nI zi) &&& 63)) &&& 1 = 1) ↔ lbt zx zi = true := by
  have hs : (Int32.toInt64 (nI zi) &&& 63).toBitVec.smod 64 = BitVec.ofNat 64 zi := by rw [wb_c zi hi, wb_tb, wb_sm zi hi]
  have hb : lbt (zx >>> (Int32.toInt64 (nI zi) &&& 63)) 0 = lbt zx zi := by
    unfold lbt
    rw [Int64.toBitVec_shiftRight]
    show (zx.toBitVec.sshiftRight ((Int32.toInt64 (nI zi) &&& 63).toBitVec.smod 64).toNat).getLsbD 0 = _
    rw [hs, BitVec.toNat_ofNat, Nat.mod_eq_of_lt (show zi < 2 ^ 64 by omega), BitVec.getLsbD_sshiftRight, BitVec.msb_eq_getLsbD_last]
    simp [hi]
  have h1 : ∀ zj, zj < 64 → lbt 1 zj = decide (zj = 0) := by decide +kernel
  constructor
  · intro z
    have h2 := congrArg (fun zy => lbt zy 0) z
    have h3 : lbt ((zx >>> (Int32.toInt64 (nI zi) &&& 63)) &&& 1) 0 = lbt 1 0 := h2
    rw [lb_and, hb, h1 0 (by decide)] at h3
    simpa using h3
  · intro z
    apply lb_ext
    intro zj hj
    rw [lb_and, h1 zj hj]
    by_cases e : zj = 0
    · subst e; rw [hb, z]; rfl
    · rw [decide_eq_false e, Bool.and_false]
/-- nothing but the floor has changed; of its numbers the last two may have -/
def FrG (h g : AH) : Prop := g.1 = h.1 ∧ g.2.2.2 = h.2.2.2 ∧ (∀ zk, zk ≠ 25 → zk ≠ 26 → g.2.1 zk = h.2.1 zk) ∧ (∀ zk, zk ≠ 25 → zk ≠ 27 → g.2.2.1 zk = h.2.2.1 zk) ∧ ∀ zj, zj ≠ 6 → zj ≠ 7 → g.2.1 25 zj = h.2.1 25 zj
theorem FrF_G {h g : AH} (a : FrF h g) : FrG h g := ⟨a.1, a.2.1, a.2.2.1, a.2.2.2.1, fun zj _ h7 => a.2.2.2.2 zj h7⟩
/-- cells have changed, at most so many times -/
def FNz (zf0 zf : Nat → Int32) (zx : Int64) (zm : Nat) (h g : AH) : Prop := FLz zf zx g ∧ FrF h g ∧ ∃ zn, zn ≤ zm ∧ g.2.1 25 7 = h.2.1 25 7 + nI zn ∧ (zn = 0 → zf = zf0)
theorem FN_0 {zf : Nat → Int32} {zx : Int64} {h : AH} (hF : FLz zf zx h) : FNz zf zf zx 0 h h := ⟨hF, FrF_0 h, 0, Nat.le_refl _, (Int32.add_zero _).symm, fun _ => rfl⟩
theorem FN_s {zf0 zf : Nat → Int32} {zx : Int64} {zm : Nat} {h g : AH} (hF : FNz zf0 zf zx zm h g) : FNz zf0 zf zx (zm + 1) h g := ⟨hF.1, hF.2.1, by obtain ⟨zn, a, b, c⟩ := hF.2.2; exact ⟨zn, by omega, b, c⟩⟩
theorem FN_c {zf0 zf zf2 : Nat → Int32} {zx zx2 : Int64} {zm : Nat} {h g k : AH} (hF : FNz zf0 zf zx zm h g) (h1 : FLz zf2 zx2 k) (h2 : FrF g k) (h3 : k.2.1 25 7 = g.2.1 25 7 + 1) : FNz zf0 zf2 zx2 (zm + 1) h k := by
  obtain ⟨zn, a, b, c⟩ := hF.2.2
  refine ⟨h1, FrF_t hF.2.1 h2, zn + 1, by omega, ?_, fun z => by omega⟩
  rw [h3, b, Int32.add_assoc]
  exact congrArg _ (nI_1 zn)
theorem FL_x {zf : Nat → Int32} {zx zy : Int64} {h : AH} (hF : FLz zf zx h) (e : zx = zy) : FLz zf zy h := e ▸ hF
theorem lp_unfill_7 (E : ME) (h : AH) (zf : Nat → Int32) (zx : Int64) {post : PO} (K : ∀ g : AH, WF g → FNz zf (udF zx zf 64) 0 64 h g → Ev E mX2_unfill (rmm 2 0 0) (QM E 0 0 post) 0 0 33 [some (.ref 25), some (.long zx), none, some (.int (nI 64))] [] g) : ∀ (zk zi : Nat) (zg : AH) (zy : Int64), zi + zk = 64 → WF zg → FNz zf (udF zx zf zi) zy zi h zg → (∀ zj, zj < 64 → lbt zy zj = (lbt zx zj && decide (zi ≤ zj))) → Ev E mX2_unfill (rmm 2 0 0) (QM E 0 0 post) 0 0 7 [some (.ref 25), some (.long zx), none, some (.int (nI zi))] [] zg := by
  intro zk
  induction zk with
  | zero =>
    intro zi zg zy hz hw hF hy
    obtain rfl : 64 = zi := by omega
    have e0 : zy = 0 := lb_ext (fun zj hj => by rw [hy zj hj, lb_0, decide_eq_false (by omega), Bool.and_false])
    subst e0
    refine ev_iload_n (pc := 7) dX2_unfill_7 rfl ?_
    refine ev_bipush (pc := 8) (v := 64) dX2_unfill_8 (by decide) ?_
    refine ev_icmp_ge (pc := 10) (tgt := 33) dX2_unfill_10 (by decide) (fun zc10 => ?_) (fun zc10 => absurd (by decide) zc10)
    exact K zg hw hF
  | succ zk ih =>
    intro zi zg zy hz hw hF hy
    have hi : zi < 64 := by omega
    refine ev_iload_n (pc := 7) dX2_unfill_7 rfl ?_
    refine ev_bipush (pc := 8) (v := 64) dX2_unfill_8 (by decide) ?_
    refine ev_icmp_ge (pc := 10) (tgt := 33) dX2_unfill_10 (by decide) (fun zc10 => absurd zc10 (nI_ge (a := zi) (b := 64) hi (by decide))) (fun zc10 => ?_)
    refine ev_lload_n (pc := 13) dX2_unfill_13 rfl ?_
    refine ev_iload_n (pc := 14) dX2_unfill_14 rfl ?_
    refine ev_callSv (S := []) (pc := 15) dX2_unfill_15 kX10_hasCell lX2_60 sX10_hasCell (cn_X10_hasCell E zg zx zi hw hi) rfl rfl (Nat.le_of_ble_eq_true rfl) ⟨Nat.le_of_ble_eq_true rfl, Nat.le_of_ble_eq_true rfl⟩ ⟨Nat.le_of_ble_eq_true rfl, Nat.le_of_ble_eq_true rfl⟩ ?_
    refine ev_if_eq (pc := 18) (tgt := 27) dX2_unfill_18 (by decide) (fun zc18 => ?_) (fun zc18 => ?_)
    · -- eq at 18: taken
      refine ev_iinc (pc := 27) (v := nI (zi + 1)) (L' := [some (.ref 25), some (.long zx), none, some (.int (nI (zi + 1)))]) dX2_unfill_27 rfl (nI_1 _) (Nat.le_of_ble_eq_true rfl) rfl ?_
      refine ev_goto (pc := 30) (tgt := 7) dX2_unfill_30 (by decide) ?_
      have zb := ts_nt (bI_0.mp zc18)
      refine ih (zi + 1) zg zy (by omega) hw ?_ (fun zj hj => ?_)
      · rw [udF, if_neg (fun z => bI_0.mp zc18 ((lb_shr1 zx hi).mp z))]
        exact FN_s hF
      · rw [hy zj hj]
        by_cases e : zj = zi
        · subst e; rw [zb, Bool.false_and, Bool.false_and]
        · congr 1; exact decide_eq_decide.mpr (by omega)
    · -- eq at 18: not taken
      refine ev_aload_n (pc := 21) dX2_unfill_21 rfl ?_
      refine ev_iload_n (pc := 22) dX2_unfill_22 rfl ?_
      refine ev_iconst (pc := 23) (v := (-1)) dX2_unfill_23 (by decide) ?_
      refine ev_callV (S := []) (pc := 24) dX2_unfill_24 kX2_change lX2_64 vX2_change (cn_X2_changeL E zg zi (udF zx zf zi) zy hw hF.1 hi) rfl rfl (wlt hw (by decide)) rfl rfl (Nat.le_of_ble_eq_true rfl) ⟨Nat.le_of_ble_eq_true rfl, Nat.le_of_ble_eq_true rfl⟩ ⟨Nat.le_of_ble_eq_true rfl, Nat.le_of_ble_eq_true rfl⟩ ?_
      rintro _ zg2 ⟨rfl, hF2, hR2, hn2⟩
      have wzg2 := FrF_w hR2 hw
      refine ev_iinc (pc := 27) (v := nI (zi + 1)) (L' := [some (.ref 25), some (.long zx), none, some (.int (nI (zi + 1)))]) dX2_unfill_27 rfl (nI_1 _) (Nat.le_of_ble_eq_true rfl) rfl ?_
      refine ev_goto (pc := 30) (tgt := 7) dX2_unfill_30 (by decide) ?_
      refine ih (zi + 1) zg2 (zy &&& ((1 <<< (Int32.toInt64 (nI zi) &&& 63)) ^^^ (-1))) (by omega) wzg2 ?_ (fun zj hj => ?_)
      · rw [udF, if_pos ((lb_shr1 zx hi).mpr (bI_n0.mp zc18))]
        exact FN_c hF hF2 hR2 hn2
      · rw [lb_clr hi hj, hy zj hj]
        by_cases e : zj = zi
        · subst e; rw [decide_eq_true (rfl : zj = zj), decide_eq_false (show ¬ zj + 1 ≤ zj by omega), Bool.not_true, Bool.and_false, Bool.and_false]
        · rw [decide_eq_false e, Bool.not_false, Bool.and_true]; congr 1; exact decide_eq_decide.mpr (by omega)
/-- the filled cells are lost again -/
def UNz (zf : Nat → Int32) (zx : Int64) (h g : AH) : Prop := FLz (udF zx zf 64) 0 g ∧ FrG h g ∧ g.2.1 25 6 = 0 ∧ ∃ zn, zn ≤ 64 ∧ g.2.1 25 7 = h.2.1 25 7 + nI zn ∧ (zn = 0 → udF zx zf 64 = zf)
theorem cn_X2_unfill (E : ME) (h : AH) (zf : Nat → Int32) (zx : Int64) (hw : WF h) (hF : FLz zf zx h) : Con E mX2_unfill 2 0 0 [.ref 25] h (fun r h' => r = some (.int (bcL zx)) ∧ UNz zf zx h h') := by
  refine con_of2 (L := [some (.ref 25), none, none, none]) rfl (Nat.le_of_ble_eq_true rfl) rfl ?_
  refine ev_aload_n (pc := 0) dX2_unfill_0 rfl ?_
  refine ev_getL (pc := 1) dX2_unfill_1 fX2_53 rfl (wlt hw (by decide)) ?_
  refine ev_lstore_n (pc := 4) (L' := [some (.ref 25), some (.long (h.2.2.1 25 5)), none, none]) dX2_unfill_4 (Nat.le_of_ble_eq_true rfl) rfl ?_
  refine ev_iconst (pc := 5) (v := 0) dX2_unfill_5 (by decide) ?_
  refine ev_istore_n (pc := 6) (L' := [some (.ref 25), some (.long (h.2.2.1 25 5)), none, some (.int 0)]) dX2_unfill_6 (Nat.le_of_ble_eq_true rfl) rfl ?_
  refine ev_eqL (L' := [some (.ref 25), some (.long zx), none, some (.int (nI 0))]) (by rw [hF.2.2.2.2]; rfl) ?_
  refine lp_unfill_7 E h zf zx (fun g wg hN => ?_) 64 0 h zx (by decide) hw (FN_0 hF) (fun zj hj => by rw [decide_eq_true (Nat.zero_le zj), Bool.and_true])
  refine ev_aload_n (pc := 33) dX2_unfill_33 rfl ?_
  refine ev_iconst (pc := 34) (v := 0) dX2_unfill_34 (by decide) ?_
  refine ev_putZ (pc := 35) dX2_unfill_35 fX2_56 rfl (wlt wg (by decide)) (by decide) ?_
  refine ev_eqH (h' := sI g 25 (upd (g.2.1 25) 6 0)) (by rfl) ?_
  refine ev_lload_n (pc := 38) dX2_unfill_38 rfl ?_
  refine ev_callSv (S := []) (pc := 39) dX2_unfill_39 kJ13_bitCount_95d88 lX2_68 sJ13_bitCount_95d88 (cn_J13_bitCount_95d88 E (sI g 25 (upd (g.2.1 25) 6 0)) zx) rfl rfl (Nat.le_of_ble_eq_true rfl) ⟨Nat.le_of_ble_eq_true rfl, Nat.le_of_ble_eq_true rfl⟩ ⟨Nat.le_of_ble_eq_true rfl, Nat.le_of_ble_eq_true rfl⟩ ?_
  refine ev_iret (pc := 42) dX2_unfill_42 rfl ?_ ?_
  · rfl
  · obtain ⟨n1, n2, zn, n3, n4, n5⟩ := hN
    refine ⟨rfl, n1, ⟨n2.1, n2.2.1, fun zk a b => (sI_ne _ _ a).trans (n2.2.2.1 zk a b), n2.2.2.2.1, fun zj a b => (pk_un a).trans (n2.2.2.2.2 zj b)⟩, rfl, zn, n3, n4, n5⟩
theorem cn_X10_undo (E : ME) (h : AH) (zf : Nat → Int32) (zx : Int64) (hw : WF h) (hF : FLz zf zx h) (hu : h.2.1 25 6 = 0 ∨ h.2.1 25 6 = 1) : Con E mX10_undo 3 0 0 [.ref 0] h (fun r h' => r = some (.int (if h.2.1 25 6 = 0 then -2 else bcL zx)) ∧ (h.2.1 25 6 = 0 → h' = h) ∧ (¬ h.2.1 25 6 = 0 → UNz zf zx h h')) := by
  refine con_of2 (L := [some (.ref 0)]) rfl (Nat.le_of_ble_eq_true rfl) rfl ?_
  refine ev_aload_n (pc := 0) dX10_undo_0 rfl ?_
  refine ev_getR (pc := 1) (q := 25) dX10_undo_1 fX10_45 rfl (wlt hw (by decide)) (wr hw rfl) ?_
  refine ev_callVv (S := []) (pc := 4) dX10_undo_4 kX2_canUndo lX10_330 vX2_canUndo (cn_X2_canUndo E h hw hu) rfl rfl (wlt hw (by decide)) rfl rfl (Nat.le_of_ble_eq_true rfl) ⟨Nat.le_of_ble_eq_true rfl, Nat.le_of_ble_eq_true rfl⟩ ⟨Nat.le_of_ble_eq_true rfl, Nat.le_of_ble_eq_true rfl⟩ ?_
  refine ev_if_eq (pc := 7) (tgt := 20) dX10_undo_7 (by decide) (fun zc7 => ?_) (fun zc7 => ?_)
  · -- eq at 7: taken
    refine ev_bipush (pc := 20) (v := (-2)) dX10_undo_20 (by decide) ?_
    refine ev_iret (pc := 22) dX10_undo_22 rfl ?_ ?_
    · rfl
    · rw [if_pos zc7]
      exact ⟨rfl, fun _ => rfl, fun z => absurd zc7 z⟩
  · -- eq at 7: not taken
    refine ev_aload_n (pc := 10) dX10_undo_10 rfl ?_
    refine ev_getR (pc := 11) (q := 25) dX10_undo_11 fX10_45 rfl (wlt hw (by decide)) (wr hw rfl) ?_
    refine ev_callV (S := []) (pc := 14) dX10_undo_14 kX2_unfill lX10_333 vX2_unfill (cn_X2_unfill E h zf zx hw hF) rfl rfl (wlt hw (by decide)) rfl rfl (Nat.le_of_ble_eq_true rfl) ⟨Nat.le_of_ble_eq_true rfl, Nat.le_of_ble_eq_true rfl⟩ ⟨Nat.le_of_ble_eq_true rfl, Nat.le_of_ble_eq_true rfl⟩ ?_
    rintro _ zg ⟨rfl, hU⟩
    refine ev_goto (pc := 17) (tgt := 22) dX10_undo_17 (by decide) ?_
    refine ev_iret (pc := 22) dX10_undo_22 rfl ?_ ?_
    · rfl
    · rw [if_neg zc7]
      exact ⟨rfl, fun z => absurd z zc7, fun _ => hU⟩
theorem cn_X10_stones (E : ME) (h : AH) (zc0 : Int32) (hw : WF h) : Con E mX10_stones 1 0 0 [.ref 0, .int zc0] h (fun r h' => r = some (.int (if 0 ≤ zc0 ∧ zc0 ≤ 5 then bcL (h.2.2.1 27 zc0.toNatClampNeg) else -1)) ∧ h' = h) := by
  refine con_of2 (L := [some (.ref 0), some (.int zc0)]) rfl (Nat.le_of_ble_eq_true rfl) rfl ?_
  refine ev_iload_n (pc := 0) dX10_stones_0 rfl ?_
  refine ev_iconst (pc := 1) (v := 0) dX10_stones_1 (by decide) ?_
  refine ev_iconst (pc := 2) (v := 5) dX10_stones_2 (by decide) ?_
  refine ev_callSv (S := []) (pc := 3) dX10_stones_3 kX10_within lX10_123 sX10_within (cn_X10_within E h zc0 0 5) rfl rfl (Nat.le_of_ble_eq_true rfl) ⟨Nat.le_of_ble_eq_true rfl, Nat.le_of_ble_eq_true rfl⟩ ⟨Nat.le_of_ble_eq_true rfl, Nat.le_of_ble_eq_true rfl⟩ ?_
  refine ev_if_eq (pc := 6) (tgt := 23) dX10_stones_6 (by decide) (fun zc6 => ?_) (fun zc6 => ?_)
  · -- eq at 6: taken
    refine ev_iconst (pc := 23) (v := (-1)) dX10_stones_23 (by decide) ?_
    refine ev_iret (pc := 24) dX10_stones_24 rfl ?_ ?_
    · rfl
    · refine ⟨?_, rfl⟩
      rw [if_neg (bI_0.mp zc6)]
  · -- eq at 6: not taken
    obtain ⟨zc, hc, rfl⟩ := vp_in_of (vp_sm (N := 6) (bI_n0.mp zc6).1 (bI_n0.mp zc6).2 (by decide) (by decide)) (by decide)
    refine ev_aload_n (pc := 9) dX10_stones_9 rfl ?_
    refine ev_getR (pc := 10) (q := 25) dX10_stones_10 fX10_45 rfl (wlt hw (by decide)) (wr hw rfl) ?_
    refine ev_iload_n (pc := 13) dX10_stones_13 rfl ?_
    refine ev_callVv (S := []) (pc := 14) dX10_stones_14 kX2_plane lX10_336 vX2_plane (cn_X2_plane E h zc hw hc) rfl rfl (wlt hw (by decide)) rfl rfl (Nat.le_of_ble_eq_true rfl) ⟨Nat.le_of_ble_eq_true rfl, Nat.le_of_ble_eq_true rfl⟩ ⟨Nat.le_of_ble_eq_true rfl, Nat.le_of_ble_eq_true rfl⟩ ?_
    refine ev_callSv (S := []) (pc := 17) dX10_stones_17 kJ13_bitCount_95d88 lX10_311 sJ13_bitCount_95d88 (cn_J13_bitCount_95d88 E h (h.2.2.1 27 zc)) rfl rfl (Nat.le_of_ble_eq_true rfl) ⟨Nat.le_of_ble_eq_true rfl, Nat.le_of_ble_eq_true rfl⟩ ⟨Nat.le_of_ble_eq_true rfl, Nat.le_of_ble_eq_true rfl⟩ ?_
    refine ev_goto (pc := 20) (tgt := 24) dX10_stones_20 (by decide) ?_
    refine ev_iret (pc := 24) dX10_stones_24 rfl ?_ ?_
    · rfl
    · refine ⟨?_, rfl⟩
      rw [if_pos (bI_n0.mp zc6), nI_clamp (by omega)]
