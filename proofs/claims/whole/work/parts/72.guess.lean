/-- sets of cells, one for each colour -/
def SDr (zP : Nat → Nat → Prop) (zr : Nat → Int64) : Prop := ∀ zk, zk < 6 → ∀ zj, zj < 64 → (lbt (zr zk) zj = true ↔ zP zk zj)
theorem SD_c {zP zQ : Nat → Nat → Prop} {zr : Nat → Int64} (h : SDr zP zr) (H : ∀ zk, zk < 6 → ∀ zj, zj < 64 → (zP zk zj ↔ zQ zk zj)) : SDr zQ zr := fun zk hk zj hj => (h zk hk zj hj).trans (H zk hk zj hj)
theorem cn_X3_sayC (E : ME) (h : AH) (zk : Nat) (zy : Int64) (hw : WF h) (hk : zk < 6) : Con E mX3_say 1 0 0 [.ref 32, .int (nI zk), .long zy] h (fun r h' => r = none ∧ h' = sL h 33 (vp_updL (h.2.2.1 33) zk (h.2.2.1 33 zk ||| zy))) := by
  refine con_of2 (L := [some (.ref 32), some (.int (nI zk)), some (.long zy), none]) rfl (Nat.le_of_ble_eq_true rfl) rfl ?_
  refine ev_iload_n (pc := 0) dX3_say_0 rfl ?_
  refine ev_iconst (pc := 1) (v := 0) dX3_say_1 (by decide) ?_
  refine ev_iconst (pc := 2) (v := 5) dX3_say_2 (by decide) ?_
  refine ev_callSv (S := []) (pc := 3) dX3_say_3 kX10_within lX3_29 sX10_within (cn_X10_within E h (nI zk) 0 5) rfl rfl (Nat.le_of_ble_eq_true rfl) ⟨Nat.le_of_ble_eq_true rfl, Nat.le_of_ble_eq_true rfl⟩ ⟨Nat.le_of_ble_eq_true rfl, Nat.le_of_ble_eq_true rfl⟩ ?_
  refine ev_if_eq (pc := 6) (tgt := 19) dX3_say_6 (by decide) (fun zc6 => absurd zc6 (bI_n0.mpr ⟨nI_pos' (by omega), nI_le (a := zk) (b := 5) (by omega) (by decide)⟩)) (fun zc6 => ?_)
  refine ev_aload_n (pc := 9) dX3_say_9 rfl ?_
  refine ev_getR (pc := 10) (q := 33) dX3_say_10 fX3_9 rfl (wlt hw (by decide)) (wr hw rfl) ?_
  refine ev_iload_n (pc := 13) dX3_say_13 rfl ?_
  refine ev_dup2 (pc := 14) dX3_say_14 rfl rfl ?_
  refine ev_lald (pc := 15) dX3_say_15 rfl (wlt hw (by decide)) (vp_in_nI (by omega) (by decide)) ?_
  refine ev_eqJ (e' := h.2.2.1 33 zk) (by rw [show Int32.toNatClampNeg (nI zk) = zk from nI_clamp (by omega)] <;> rfl) ?_
  refine ev_lload_n (pc := 16) dX3_say_16 rfl ?_
  refine ev_lor (pc := 17) dX3_say_17 ?_
  refine ev_last (pc := 18) dX3_say_18 rfl (wlt hw (by decide)) (vp_in_nI (by omega) (by decide)) ?_
  refine ev_eqH (h' := sL h 33 (vp_updL (h.2.2.1 33) zk ((h.2.2.1 33 zk) ||| zy))) (by rw [show Int32.toNatClampNeg (nI zk) = zk from nI_clamp (by omega)] <;> rfl) ?_
  refine ev_ret (pc := 19) dX3_say_19 rfl ?_
  · exact ⟨rfl, rfl⟩
theorem cn_X3_sayL (E : ME) (h : AH) (zy : Int64) (hw : WF h) : Con E mX3_say 1 0 0 [.ref 32, .int ((-1)), .long zy] h (fun r h' => r = none ∧ h' = h) := by
  refine con_of2 (L := [some (.ref 32), some (.int ((-1))), some (.long zy), none]) rfl (Nat.le_of_ble_eq_true rfl) rfl ?_
  refine ev_iload_n (pc := 0) dX3_say_0 rfl ?_
  refine ev_iconst (pc := 1) (v := 0) dX3_say_1 (by decide) ?_
  refine ev_iconst (pc := 2) (v := 5) dX3_say_2 (by decide) ?_
  refine ev_callSv (S := []) (pc := 3) dX3_say_3 kX10_within lX3_29 sX10_within (cn_X10_within E h (-1) 0 5) rfl rfl (Nat.le_of_ble_eq_true rfl) ⟨Nat.le_of_ble_eq_true rfl, Nat.le_of_ble_eq_true rfl⟩ ⟨Nat.le_of_ble_eq_true rfl, Nat.le_of_ble_eq_true rfl⟩ ?_
  refine ev_if_eq (pc := 6) (tgt := 19) dX3_say_6 (by decide) (fun zc6 => ?_) (fun zc6 => absurd (bI_0.mpr (by decide)) zc6)
  refine ev_ret (pc := 19) dX3_say_19 rfl ?_
  · exact ⟨rfl, rfl⟩
theorem cn_X3_sayV (E : ME) (h : AH) (zv : Int32) (zy : Int64) (zP : Nat → Nat → Prop) (zr : Nat → Int64) (hw : WF h) (hD : SDr zP zr) (hv : zv = -1 ∨ ∃ zc, zc < 6 ∧ zv = nI zc) : Con E mX3_say 1 0 0 [.ref 32, .int zv, .long zy] (sL h 33 zr) (fun r h' => r = none ∧ ∃ zr2, h' = sL h 33 zr2 ∧ SDr (fun zk zj => zP zk zj ∨ (zv = nI zk ∧ lbt zy zj = true)) zr2) := by
  rcases hv with rfl | ⟨zc, hc, rfl⟩
  · refine con_of2 (L := [some (.ref 32), some (.int ((-1))), some (.long zy), none]) rfl (Nat.le_of_ble_eq_true rfl) rfl ?_
    refine ev_iload_n (pc := 0) dX3_say_0 rfl ?_
    refine ev_iconst (pc := 1) (v := 0) dX3_say_1 (by decide) ?_
    refine ev_iconst (pc := 2) (v := 5) dX3_say_2 (by decide) ?_
    refine ev_callSv (S := []) (pc := 3) dX3_say_3 kX10_within lX3_29 sX10_within (cn_X10_within E (sL h 33 zr) (-1) 0 5) rfl rfl (Nat.le_of_ble_eq_true rfl) ⟨Nat.le_of_ble_eq_true rfl, Nat.le_of_ble_eq_true rfl⟩ ⟨Nat.le_of_ble_eq_true rfl, Nat.le_of_ble_eq_true rfl⟩ ?_
    refine ev_if_eq (pc := 6) (tgt := 19) dX3_say_6 (by decide) (fun zc6 => ?_) (fun zc6 => absurd (bI_0.mpr (by decide)) zc6)
    refine ev_ret (pc := 19) dX3_say_19 rfl ?_
    · refine ⟨rfl, zr, rfl, fun zk hk zj hj => (hD zk hk zj hj).trans ⟨Or.inl, fun z => z.elim id (fun z2 => absurd z2.1 (m1_ne hk))⟩⟩
  · refine con_of2 (L := [some (.ref 32), some (.int (nI zc)), some (.long zy), none]) rfl (Nat.le_of_ble_eq_true rfl) rfl ?_
    refine ev_iload_n (pc := 0) dX3_say_0 rfl ?_
    refine ev_iconst (pc := 1) (v := 0) dX3_say_1 (by decide) ?_
    refine ev_iconst (pc := 2) (v := 5) dX3_say_2 (by decide) ?_
    refine ev_callSv (S := []) (pc := 3) dX3_say_3 kX10_within lX3_29 sX10_within (cn_X10_within E (sL h 33 zr) (nI zc) 0 5) rfl rfl (Nat.le_of_ble_eq_true rfl) ⟨Nat.le_of_ble_eq_true rfl, Nat.le_of_ble_eq_true rfl⟩ ⟨Nat.le_of_ble_eq_true rfl, Nat.le_of_ble_eq_true rfl⟩ ?_
    refine ev_if_eq (pc := 6) (tgt := 19) dX3_say_6 (by decide) (fun zc6 => absurd zc6 (bI_n0.mpr ⟨nI_pos' (by omega), nI_le (a := zc) (b := 5) (by omega) (by decide)⟩)) (fun zc6 => ?_)
    refine ev_aload_n (pc := 9) dX3_say_9 rfl ?_
    refine ev_getR (pc := 10) (q := 33) dX3_say_10 fX3_9 rfl (wlt (wf_sL hw) (by decide)) (wr (wf_sL hw) rfl) ?_
    refine ev_iload_n (pc := 13) dX3_say_13 rfl ?_
    refine ev_dup2 (pc := 14) dX3_say_14 rfl rfl ?_
    refine ev_lald (pc := 15) dX3_say_15 rfl (wlt (wf_sL hw) (by decide)) (vp_in_nI (by omega) (by decide)) ?_
    refine ev_eqJ (e' := zr zc) (by rw [show Int32.toNatClampNeg (nI zc) = zc from nI_clamp (by omega)] <;> rfl) ?_
    refine ev_lload_n (pc := 16) dX3_say_16 rfl ?_
    refine ev_lor (pc := 17) dX3_say_17 ?_
    refine ev_last (pc := 18) dX3_say_18 rfl (wlt (wf_sL hw) (by decide)) (vp_in_nI (by omega) (by decide)) ?_
    refine ev_eqH (h' := sL h 33 (vp_updL zr zc ((zr zc) ||| zy))) (by rw [show Int32.toNatClampNeg (nI zc) = zc from nI_clamp (by omega)]; exact sL_sL _ _ _ _) ?_
    refine ev_ret (pc := 19) dX3_say_19 rfl ?_
    · refine ⟨rfl, vp_updL zr zc (zr zc ||| zy), rfl, fun zk hk zj hj => ?_⟩
      unfold vp_updL
      by_cases e : zk = zc
      · subst e
        rw [if_pos rfl, lb_or, Bool.or_eq_true, hD zk hk zj hj]
        exact ⟨fun z => z.elim Or.inl (fun z2 => Or.inr ⟨rfl, z2⟩), fun z => z.elim Or.inl (fun z2 => Or.inr z2.2)⟩
      · rw [if_neg e, hD zk hk zj hj]
        exact ⟨Or.inl, fun z => z.elim id (fun z2 => absurd ((nI_eq (by omega) (by omega)).mp z2.1).symm e)⟩
def syI (zf : Nat → Int32) (zw zn zk zj : Nat) : Prop := ∃ zi, zi < zn ∧ ((zf zi = nI zk ∧ imN zw zi = zj) ∨ (zf (imN zw zi) = nI zk ∧ zi = zj))
/-- what symmetries say of a cell, ways below zw -/
def syS (zf : Nat → Int32) (zw zk zj : Nat) : Prop := ∃ za, za < zw ∧ hoF zf (za + 1) 64 = 1 ∧ syI zf (za + 1) 64 zk zj
theorem syI_0 {zf : Nat → Int32} {zw zk zj : Nat} : ¬ syI zf zw 0 zk zj := fun z => by obtain ⟨zi, a, -⟩ := z; omega
theorem syI_s {zf : Nat → Int32} {zw zn zk zj : Nat} (hj : zj < 64) (hn : zn < 64) (hi : imN zw zn < 64) (zP : Prop) : ((zP ∨ (zf zn = nI zk ∧ lbt ((1 : Int64) <<< (Int32.toInt64 (nI (imN zw zn)) &&& 63)) zj = true)) ∨ (zf (imN zw zn) = nI zk ∧ lbt ((1 : Int64) <<< (Int32.toInt64 (nI zn) &&& 63)) zj = true)) ↔ (zP ∨ (zf zn = nI zk ∧ imN zw zn = zj) ∨ (zf (imN zw zn) = nI zk ∧ zn = zj)) := by
  rw [lb_bit hi hj, lb_bit hn hj, decide_eq_true_iff, decide_eq_true_iff, or_assoc, eq_comm (a := zj), eq_comm (a := zj)]
theorem syF_b (zf : Nat → Int32) : ∀ zn, zn ≤ 7 → ∀ zi, zi < 32 → bt (syF zf zn) zi = (decide (1 ≤ zi ∧ zi ≤ zn) && decide (hoF zf zi 64 = 1))
  | 0, _, zi, _ => by rw [syF, b_0, decide_eq_false (by omega), Bool.false_and]
  | zn + 1, hn, zi, hi => by
    rw [syF, b_or, syF_b zf zn (by omega) zi hi]
    rcases hoF_01 zf (zn + 1) 64 with z | z
    · rw [if_pos z, b_0, Bool.or_false]
      by_cases e : zi = zn + 1
      · subst e; rw [z]; simp
      · rw [show decide (1 ≤ zi ∧ zi ≤ zn) = decide (1 ≤ zi ∧ zi ≤ zn + 1) from decide_eq_decide.mpr (by omega)]
    · rw [if_neg (by rw [z]; decide), bt_sh (by omega) zi hi]
      by_cases e : zi = zn + 1
      · subst e; rw [z]; simp
      · rw [decide_eq_false e, Bool.or_false, show decide (1 ≤ zi ∧ zi ≤ zn) = decide (1 ≤ zi ∧ zi ≤ zn + 1) from decide_eq_decide.mpr (by omega)]
theorem lp_gsym_16 (E : ME) (h : AH) (zw : Nat) (zP : Nat → Nat → Prop) (zf : Nat → Int32) (zx : Int64) (hw : WF h) (hF : FLz zf zx h) (hI : IMz h) (hw8 : zw < 8) (hh : bt (syF zf 7) zw = true) {post : PO} (K : ∀ zr, SDr (fun zk zj => zP zk zj ∨ syI zf zw 64 zk zj) zr → Ev E mX3_gatherSymmetry (rmm 4 0 0) (QM E 0 0 post) 0 0 74 [some (.ref 32), some (.ref 25), some (.int (syF zf 7)), some (.int (nI zw)), none, none] [] (sL h 33 zr)) : ∀ (zq zi : Nat) (zr : Nat → Int64), zi + zq = 64 → SDr (fun zk zj => zP zk zj ∨ syI zf zw zi zk zj) zr → Ev E mX3_gatherSymmetry (rmm 4 0 0) (QM E 0 0 post) 0 0 16 [some (.ref 32), some (.ref 25), some (.int (syF zf 7)), some (.int (nI zw)), some (.int (nI zi)), none] [] (sL h 33 zr) := by
  intro zq
  induction zq with
  | zero =>
    intro zi zr hz hD
    obtain rfl : 64 = zi := by omega
    refine ev_iload (pc := 16) dX3_gatherSymmetry_16 rfl ?_
    refine ev_bipush (pc := 18) (v := 64) dX3_gatherSymmetry_18 (by decide) ?_
    refine ev_icmp_ge (pc := 20) (tgt := 74) dX3_gatherSymmetry_20 (by decide) (fun zc20 => ?_) (fun zc20 => absurd (by decide) zc20)
    refine ev_less (L' := [some (.ref 32), some (.ref 25), some (.int (syF zf 7)), some (.int (nI zw)), none, none]) (ls_keep (ls_keep (ls_keep (ls_keep (ls_drop (ls_keep (ls_nil _))))))) ?_
    exact K zr hD
  | succ zq ih =>
    intro zi zr hz hD
    have hi : zi < 64 := by omega
    have zim := (im_ok zw hw8 zi hi).1
    refine ev_iload (pc := 16) dX3_gatherSymmetry_16 rfl ?_
    refine ev_bipush (pc := 18) (v := 64) dX3_gatherSymmetry_18 (by decide) ?_
    refine ev_icmp_ge (pc := 20) (tgt := 74) dX3_gatherSymmetry_20 (by decide) (fun zc20 => absurd zc20 (nI_ge (a := zi) (b := 64) hi (by decide))) (fun zc20 => ?_)
    refine ev_iload_n (pc := 23) dX3_gatherSymmetry_23 rfl ?_
    refine ev_iload_n (pc := 24) dX3_gatherSymmetry_24 rfl ?_
    refine ev_callSv (S := []) (pc := 25) dX3_gatherSymmetry_25 kX10_has lX3_39 sX10_has (cn_X10_has E (sL h 33 zr) (syF zf 7) (nI zw)) rfl rfl (Nat.le_of_ble_eq_true rfl) ⟨Nat.le_of_ble_eq_true rfl, Nat.le_of_ble_eq_true rfl⟩ ⟨Nat.le_of_ble_eq_true rfl, Nat.le_of_ble_eq_true rfl⟩ ?_
    refine ev_if_eq (pc := 28) (tgt := 74) dX3_gatherSymmetry_28 (by decide) (fun zc28 => absurd zc28 (bI_n0.mpr (fun z => by rw [sh1_0 _ (by omega)] at z; rw [z] at hh; cases hh))) (fun zc28 => ?_)
    refine ev_aload_n (pc := 31) dX3_gatherSymmetry_31 rfl ?_
    refine ev_iload_n (pc := 32) dX3_gatherSymmetry_32 rfl ?_
    refine ev_iload (pc := 33) dX3_gatherSymmetry_33 rfl ?_
    refine ev_callVv (S := []) (pc := 35) dX3_gatherSymmetry_35 kX2_imageOf lX3_43 vX2_imageOf (cn_X2_imageOf E (sL h 33 zr) zw zi (wf_sL hw) hI hw8 hi) rfl rfl (wlt (wf_sL hw) (by decide)) rfl rfl (Nat.le_of_ble_eq_true rfl) ⟨Nat.le_of_ble_eq_true rfl, Nat.le_of_ble_eq_true rfl⟩ ⟨Nat.le_of_ble_eq_true rfl, Nat.le_of_ble_eq_true rfl⟩ ?_
    refine ev_istore (pc := 38) (L' := [some (.ref 32), some (.ref 25), some (.int (syF zf 7)), some (.int (nI zw)), some (.int (nI zi)), some (.int (nI (imN zw zi)))]) dX3_gatherSymmetry_38 (Nat.le_of_ble_eq_true rfl) rfl ?_
    refine ev_aload_n (pc := 40) dX3_gatherSymmetry_40 rfl ?_
    refine ev_aload_n (pc := 41) dX3_gatherSymmetry_41 rfl ?_
    refine ev_iload (pc := 42) dX3_gatherSymmetry_42 rfl ?_
    refine ev_callVv (S := [.ref 32]) (pc := 44) dX3_gatherSymmetry_44 kX2_colourAt lX3_47 vX2_colourAt (cn_colourN E (sL h 33 zr) zi zf zx (wf_sL hw) hF (by omega)) rfl rfl (wlt (wf_sL hw) (by decide)) rfl rfl (Nat.le_of_ble_eq_true rfl) ⟨Nat.le_of_ble_eq_true rfl, Nat.le_of_ble_eq_true rfl⟩ ⟨Nat.le_of_ble_eq_true rfl, Nat.le_of_ble_eq_true rfl⟩ ?_
    refine ev_lconst (pc := 47) (v := 1) dX3_gatherSymmetry_47 (by decide) ?_
    refine ev_iload (pc := 48) dX3_gatherSymmetry_48 rfl ?_
    refine ev_lshl (pc := 50) dX3_gatherSymmetry_50 ?_
    refine ev_callV (S := []) (pc := 51) dX3_gatherSymmetry_51 kX3_say lX3_51 vX3_say (cn_X3_sayV E h (zf zi) (1 <<< (Int32.toInt64 (nI (imN zw zi)) &&& 63)) _ zr hw hD (hF.2.1 zi hi)) rfl rfl (wlt (wf_sL hw) (by decide)) rfl rfl (Nat.le_of_ble_eq_true rfl) ⟨Nat.le_of_ble_eq_true rfl, Nat.le_of_ble_eq_true rfl⟩ ⟨Nat.le_of_ble_eq_true rfl, Nat.le_of_ble_eq_true rfl⟩ ?_
    rintro _ _ ⟨rfl, zr2, rfl, hD2⟩
    refine ev_aload_n (pc := 54) dX3_gatherSymmetry_54 rfl ?_
    refine ev_aload_n (pc := 55) dX3_gatherSymmetry_55 rfl ?_
    refine ev_iload (pc := 56) dX3_gatherSymmetry_56 rfl ?_
    refine ev_callVv (S := [.ref 32]) (pc := 58) dX3_gatherSymmetry_58 kX2_colourAt lX3_47 vX2_colourAt (cn_colourN E (sL h 33 zr2) (imN zw zi) zf zx (wf_sL hw) hF (by omega)) rfl rfl (wlt (wf_sL hw) (by decide)) rfl rfl (Nat.le_of_ble_eq_true rfl) ⟨Nat.le_of_ble_eq_true rfl, Nat.le_of_ble_eq_true rfl⟩ ⟨Nat.le_of_ble_eq_true rfl, Nat.le_of_ble_eq_true rfl⟩ ?_
    refine ev_lconst (pc := 61) (v := 1) dX3_gatherSymmetry_61 (by decide) ?_
    refine ev_iload (pc := 62) dX3_gatherSymmetry_62 rfl ?_
    refine ev_lshl (pc := 64) dX3_gatherSymmetry_64 ?_
    refine ev_callV (S := []) (pc := 65) dX3_gatherSymmetry_65 kX3_say lX3_51 vX3_say (cn_X3_sayV E h (zf (imN zw zi)) (1 <<< (Int32.toInt64 (nI zi) &&& 63)) _ zr2 hw hD2 (hF.2.1 _ zim)) rfl rfl (wlt (wf_sL hw) (by decide)) rfl rfl (Nat.le_of_ble_eq_true rfl) ⟨Nat.le_of_ble_eq_true rfl, Nat.le_of_ble_eq_true rfl⟩ ⟨Nat.le_of_ble_eq_true rfl, Nat.le_of_ble_eq_true rfl⟩ ?_
    rintro _ _ ⟨rfl, zr3, rfl, hD3⟩
    refine ev_iinc (pc := 68) (v := nI (zi + 1)) (L' := [some (.ref 32), some (.ref 25), some (.int (syF zf 7)), some (.int (nI zw)), some (.int (nI (zi + 1))), some (.int (nI (imN zw zi)))]) dX3_gatherSymmetry_68 rfl (nI_1 _) (Nat.le_of_ble_eq_true rfl) rfl ?_
    refine ev_goto (pc := 71) (tgt := 16) dX3_gatherSymmetry_71 (by decide) ?_
    refine ev_less (L' := [some (.ref 32), some (.ref 25), some (.int (syF zf 7)), some (.int (nI zw)), some (.int (nI (zi + 1))), none]) (ls_keep (ls_keep (ls_keep (ls_keep (ls_keep (ls_drop (ls_nil _))))))) ?_
    refine ih (zi + 1) zr3 (by omega) (SD_c hD3 (fun zk hk zj hj => (syI_s hj hi zim _).trans ?_))
    constructor
    · rintro ((z | z) | z)
      · exact Or.inl z
      · obtain ⟨za, a, b⟩ := z
        exact Or.inr ⟨za, by omega, b⟩
      · exact Or.inr ⟨zi, by omega, z⟩
    · rintro (z | ⟨za, a, b⟩)
      · exact Or.inl (Or.inl z)
      · by_cases e : za = zi
        · subst e; exact Or.inr b
        · exact Or.inl (Or.inr ⟨za, by omega, b⟩)
theorem lp_gsym_7 (E : ME) (h : AH) (zP : Nat → Nat → Prop) (zf : Nat → Int32) (zx : Int64) (hw : WF h) (hF : FLz zf zx h) (hI : IMz h) {post : PO} (K : ∀ zr, SDr (fun zk zj => zP zk zj ∨ syS zf 7 zk zj) zr → Ev E mX3_gatherSymmetry (rmm 4 0 0) (QM E 0 0 post) 0 0 80 [some (.ref 32), some (.ref 25), some (.int (syF zf 7)), some (.int (nI (7 + 1))), none, none] [] (sL h 33 zr)) : ∀ (zq zi : Nat) (zr : Nat → Int64), zi + zq = 7 → SDr (fun zk zj => zP zk zj ∨ syS zf zi zk zj) zr → Ev E mX3_gatherSymmetry (rmm 4 0 0) (QM E 0 0 post) 0 0 7 [some (.ref 32), some (.ref 25), some (.int (syF zf 7)), some (.int (nI (zi + 1))), none, none] [] (sL h 33 zr) := by
  intro zq
  induction zq with
  | zero =>
    intro zi zr hz hD
    obtain rfl : 7 = zi := by omega
    refine ev_iload_n (pc := 7) dX3_gatherSymmetry_7 rfl ?_
    refine ev_bipush (pc := 8) (v := 8) dX3_gatherSymmetry_8 (by decide) ?_
    refine ev_icmp_ge (pc := 10) (tgt := 80) dX3_gatherSymmetry_10 (by decide) (fun zc10 => ?_) (fun zc10 => absurd (by decide) zc10)
    exact K zr hD
  | succ zq ih =>
    intro zi zr hz hD
    have hb := syF_b zf 7 (by decide) (zi + 1) (by omega)
    rw [decide_eq_true (show 1 ≤ zi + 1 ∧ zi + 1 ≤ 7 by omega), Bool.true_and] at hb
    refine ev_iload_n (pc := 7) dX3_gatherSymmetry_7 rfl ?_
    refine ev_bipush (pc := 8) (v := 8) dX3_gatherSymmetry_8 (by decide) ?_
    refine ev_icmp_ge (pc := 10) (tgt := 80) dX3_gatherSymmetry_10 (by decide) (fun zc10 => absurd zc10 (nI_ge (a := zi + 1) (b := 8) (by omega) (by decide))) (fun zc10 => ?_)
    refine ev_iconst (pc := 13) (v := 0) dX3_gatherSymmetry_13 (by decide) ?_
    refine ev_istore (pc := 14) (L' := [some (.ref 32), some (.ref 25), some (.int (syF zf 7)), some (.int (nI (zi + 1))), some (.int 0), none]) dX3_gatherSymmetry_14 (Nat.le_of_ble_eq_true rfl) rfl ?_
    by_cases hh : bt (syF zf 7) (zi + 1) = true
    · have hh1 : hoF zf (zi + 1) 64 = 1 := by rw [hb, decide_eq_true_iff] at hh; exact hh
      refine lp_gsym_16 E h (zi + 1) (fun zk zj => zP zk zj ∨ syS zf zi zk zj) zf zx hw hF hI (by omega) hh (fun zr2 hD2 => ?_) 64 0 zr (by decide) (SD_c hD (fun zk _ zj _ => ⟨Or.inl, fun z => z.elim id (fun z2 => absurd z2 syI_0)⟩))
      refine ev_iinc (pc := 74) (v := nI (zi + 1 + 1)) (L' := [some (.ref 32), some (.ref 25), some (.int (syF zf 7)), some (.int (nI (zi + 1 + 1))), none, none]) dX3_gatherSymmetry_74 rfl (nI_1 _) (Nat.le_of_ble_eq_true rfl) rfl ?_
      refine ev_goto (pc := 77) (tgt := 7) dX3_gatherSymmetry_77 (by decide) ?_
      refine ih (zi + 1) zr2 (by omega) (SD_c hD2 (fun zk hk zj hj => ?_))
      constructor
      · rintro ((z | z) | z)
        · exact Or.inl z
        · obtain ⟨za, a, b⟩ := z
          exact Or.inr ⟨za, by omega, b⟩
        · exact Or.inr ⟨zi, by omega, hh1, z⟩
      · rintro (z | ⟨za, a, b, c⟩)
        · exact Or.inl (Or.inl z)
        · by_cases e : za = zi
          · subst e; exact Or.inr c
          · exact Or.inl (Or.inr ⟨za, by omega, b, c⟩)
    · have hh1 : ¬ hoF zf (zi + 1) 64 = 1 := fun z => hh (by rw [hb, decide_eq_true_iff]; exact z)
      refine ev_iload (pc := 16) dX3_gatherSymmetry_16 rfl ?_
      refine ev_bipush (pc := 18) (v := 64) dX3_gatherSymmetry_18 (by decide) ?_
      refine ev_icmp_ge (pc := 20) (tgt := 74) dX3_gatherSymmetry_20 (by decide) (fun zc20 => absurd zc20 (by decide)) (fun zc20 => ?_)
      refine ev_iload_n (pc := 23) dX3_gatherSymmetry_23 rfl ?_
      refine ev_iload_n (pc := 24) dX3_gatherSymmetry_24 rfl ?_
      refine ev_callSv (S := []) (pc := 25) dX3_gatherSymmetry_25 kX10_has lX3_39 sX10_has (cn_X10_has E (sL h 33 zr) (syF zf 7) (nI (zi + 1))) rfl rfl (Nat.le_of_ble_eq_true rfl) ⟨Nat.le_of_ble_eq_true rfl, Nat.le_of_ble_eq_true rfl⟩ ⟨Nat.le_of_ble_eq_true rfl, Nat.le_of_ble_eq_true rfl⟩ ?_
      refine ev_if_eq (pc := 28) (tgt := 74) dX3_gatherSymmetry_28 (by decide) (fun zc28 => ?_) (fun zc28 => absurd (bI_0.mpr (fun z => z (by rw [sh1_0 _ (by omega)]; exact ts_nt hh))) zc28)
      refine ev_iinc (pc := 74) (v := nI (zi + 1 + 1)) (L' := [some (.ref 32), some (.ref 25), some (.int (syF zf 7)), some (.int (nI (zi + 1 + 1))), some (.int 0), none]) dX3_gatherSymmetry_74 rfl (nI_1 _) (Nat.le_of_ble_eq_true rfl) rfl ?_
      refine ev_goto (pc := 77) (tgt := 7) dX3_gatherSymmetry_77 (by decide) ?_
      refine ev_less (L' := [some (.ref 32), some (.ref 25), some (.int (syF zf 7)), some (.int (nI (zi + 1 + 1))), none, none]) (ls_keep (ls_keep (ls_keep (ls_keep (ls_drop (ls_keep (ls_nil _))))))) ?_
      refine ih (zi + 1) zr (by omega) (SD_c hD (fun zk hk zj hj => ?_))
      constructor
      · rintro (z | ⟨za, a, b⟩)
        · exact Or.inl z
        · exact Or.inr ⟨za, by omega, b⟩
      · rintro (z | ⟨za, a, b, c⟩)
        · exact Or.inl z
        · by_cases e : za = zi
          · subst e; exact absurd b hh1
          · exact Or.inr ⟨za, by omega, b, c⟩
theorem cn_X3_gsym (E : ME) (h : AH) (zP : Nat → Nat → Prop) (zr : Nat → Int64) (zf : Nat → Int32) (zx : Int64) (hw : WF h) (hF : FLz zf zx h) (hI : IMz h) (hD : SDr zP zr) : Con E mX3_gatherSymmetry 4 0 0 [.ref 32, .ref 25] (sL h 33 zr) (fun r h' => r = none ∧ ∃ zr2, h' = sL h 33 zr2 ∧ SDr (fun zk zj => zP zk zj ∨ syS zf 7 zk zj) zr2) := by
  refine con_of2 (L := [some (.ref 32), some (.ref 25), none, none, none, none]) rfl (Nat.le_of_ble_eq_true rfl) rfl ?_
  refine ev_aload_n (pc := 0) dX3_gatherSymmetry_0 rfl ?_
  refine ev_callVv (S := []) (pc := 1) dX3_gatherSymmetry_1 kX2_waysThatHold lX3_33 vX2_waysThatHold (cn_X2_waysThatHold E (sL h 33 zr) zf zx (wf_sL hw) hF hI) rfl rfl (wlt (wf_sL hw) (by decide)) rfl rfl (Nat.le_of_ble_eq_true rfl) ⟨Nat.le_of_ble_eq_true rfl, Nat.le_of_ble_eq_true rfl⟩ ⟨Nat.le_of_ble_eq_true rfl, Nat.le_of_ble_eq_true rfl⟩ ?_
  refine ev_istore_n (pc := 4) (L' := [some (.ref 32), some (.ref 25), some (.int (syF zf 7)), none, none, none]) dX3_gatherSymmetry_4 (Nat.le_of_ble_eq_true rfl) rfl ?_
  refine ev_iconst (pc := 5) (v := 1) dX3_gatherSymmetry_5 (by decide) ?_
  refine ev_istore_n (pc := 6) (L' := [some (.ref 32), some (.ref 25), some (.int (syF zf 7)), some (.int 1), none, none]) dX3_gatherSymmetry_6 (Nat.le_of_ble_eq_true rfl) rfl ?_
  refine lp_gsym_7 E h zP zf zx hw hF hI (fun zr2 hD2 => ?_) 7 0 zr (by decide) (SD_c hD (fun zk _ zj _ => ⟨Or.inl, fun z => z.elim id (fun z2 => by obtain ⟨za, a, -⟩ := z2; omega)⟩))
  refine ev_ret (pc := 80) dX3_gatherSymmetry_80 rfl ?_
  · exact ⟨rfl, zr2, rfl, hD2⟩
