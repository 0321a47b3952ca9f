theorem cn_X2_changeL (E : ME) (h : AH) (zi : Nat) (zf : Nat → Int32) (zx : Int64) (hw : WF h) (hF : FLz zf zx h) (hi : zi < 64)  : Con E mX2_change 1 0 0 [.ref 25, .int (nI zi), .int (-1)] h (fun r h' => r = none ∧ FLz (upd zf zi (-1)) (zx &&& ((1 <<< (Int32.toInt64 (nI zi) &&& 63)) ^^^ (-1))) h' ∧ FrF h h' ∧ h'.2.1 25 7 = h.2.1 25 7 + 1) := by
  refine con_of2 (L := [some (.ref 25), some (.int (nI zi)), some (.int ((-1))), none, none, none]) rfl (Nat.le_of_ble_eq_true rfl) rfl ?_
  refine ev_iload_n (pc := 0) dX2_change_0 rfl ?_
  refine ev_callSv (S := []) (pc := 1) dX2_change_1 kX10_isCell lX2_35 sX10_isCell (cn_X10_isCell E h (nI zi)) rfl rfl (Nat.le_of_ble_eq_true rfl) ⟨Nat.le_of_ble_eq_true rfl, Nat.le_of_ble_eq_true rfl⟩ ⟨Nat.le_of_ble_eq_true rfl, Nat.le_of_ble_eq_true rfl⟩ ?_
  refine ev_if_eq (pc := 4) (tgt := 16) dX2_change_4 (by decide) (fun zc4 => absurd zc4 (bI_n0.mpr (cl_in hi))) (fun zc4 => ?_)
  refine ev_iload_n (pc := 7) dX2_change_7 rfl ?_
  refine ev_iconst (pc := 8) (v := (-1)) dX2_change_8 (by decide) ?_
  refine ev_iconst (pc := 9) (v := 5) dX2_change_9 (by decide) ?_
  refine ev_callSv (S := []) (pc := 10) dX2_change_10 kX10_within lX2_49 sX10_within (cn_X10_within E h (-1) (-1) 5) rfl rfl (Nat.le_of_ble_eq_true rfl) ⟨Nat.le_of_ble_eq_true rfl, Nat.le_of_ble_eq_true rfl⟩ ⟨Nat.le_of_ble_eq_true rfl, Nat.le_of_ble_eq_true rfl⟩ ?_
  refine ev_if_ne (pc := 13) (tgt := 17) dX2_change_13 (by decide) (fun zc13 => ?_) (fun zc13 => absurd zc13 (bI_n0.mpr (by decide)))
  refine ev_lconst (pc := 17) (v := 1) dX2_change_17 (by decide) ?_
  refine ev_iload_n (pc := 18) dX2_change_18 rfl ?_
  refine ev_lshl (pc := 19) dX2_change_19 ?_
  refine ev_nmJ (fun zbt ezbt => ?_)
  refine ev_lstore_n (pc := 20) (L' := [some (.ref 25), some (.int (nI zi)), some (.int ((-1))), some (.long zbt), none, none]) dX2_change_20 (Nat.le_of_ble_eq_true rfl) rfl ?_
  refine ev_aload_n (pc := 21) dX2_change_21 rfl ?_
  refine ev_getR (pc := 22) (q := 26) dX2_change_22 fX2_9 rfl (wlt hw (by decide)) (wr hw rfl) ?_
  refine ev_iload_n (pc := 25) dX2_change_25 rfl ?_
  refine ev_iald (pc := 26) dX2_change_26 rfl (wlt hw (by decide)) (vp_in_nI (by omega) (by decide)) ?_
  refine ev_eqI (e' := h.2.1 26 zi) (by rw [show Int32.toNatClampNeg (nI zi) = zi from nI_clamp (by omega)] <;> rfl) ?_
  rcases hF.2.1 zi hi with hz | ⟨zw, hzw, hz⟩
  · refine ev_eqI (e' := (-1)) (by rw [hF.1 zi hi]; exact hz) ?_
    refine ev_istore (pc := 27) (L' := [some (.ref 25), some (.int (nI zi)), some (.int ((-1))), some (.long zbt), none, some (.int ((-1)))]) dX2_change_27 (Nat.le_of_ble_eq_true rfl) rfl ?_
    refine ev_iload (pc := 29) dX2_change_29 rfl ?_
    refine ev_iconst (pc := 31) (v := 0) dX2_change_31 (by decide) ?_
    refine ev_iconst (pc := 32) (v := 5) dX2_change_32 (by decide) ?_
    refine ev_callSv (S := []) (pc := 33) dX2_change_33 kX10_within lX2_49 sX10_within (cn_X10_within E h (-1) 0 5) rfl rfl (Nat.le_of_ble_eq_true rfl) ⟨Nat.le_of_ble_eq_true rfl, Nat.le_of_ble_eq_true rfl⟩ ⟨Nat.le_of_ble_eq_true rfl, Nat.le_of_ble_eq_true rfl⟩ ?_
    refine ev_if_eq (pc := 36) (tgt := 68) dX2_change_36 (by decide) (fun zc36 => ?_) (fun zc36 => absurd (bI_0.mpr (by decide)) zc36)
    refine ev_iload_n (pc := 68) dX2_change_68 rfl ?_
    refine ev_iconst (pc := 69) (v := (-1)) dX2_change_69 (by decide) ?_
    refine ev_icmp_eq (pc := 70) (tgt := 93) dX2_change_70 (by decide) (fun zc70 => ?_) (fun zc70 => absurd rfl zc70)
    refine ev_aload_n (pc := 93) dX2_change_93 rfl ?_
    refine ev_getR (pc := 94) (q := 26) dX2_change_94 fX2_9 rfl (wlt hw (by decide)) (wr hw rfl) ?_
    refine ev_iload_n (pc := 97) dX2_change_97 rfl ?_
    refine ev_iload_n (pc := 98) dX2_change_98 rfl ?_
    refine ev_iast (pc := 99) dX2_change_99 rfl (wlt hw (by decide)) (vp_in_nI (by omega) (by decide)) ?_
    refine ev_eqH (h' := sI h 26 (upd (h.2.1 26) zi (-1))) (by rw [show Int32.toNatClampNeg (nI zi) = zi from nI_clamp (by omega)] <;> rfl) ?_
    refine ev_aload_n (pc := 100) dX2_change_100 rfl ?_
    refine ev_dup (pc := 101) dX2_change_101 rfl ?_
    refine ev_getL (pc := 102) dX2_change_102 fX2_53 rfl (wlt (wf_sI hw) (by decide)) ?_
    refine ev_eqJ (e' := h.2.2.1 25 5) (by rfl) ?_
    refine ev_lload_n (pc := 105) dX2_change_105 rfl ?_
    refine ev_ldc2 (pc := 106) (v := (-1)) dX2_change_106 kcX2_47 ?_
    refine ev_lxor (pc := 109) dX2_change_109 ?_
    refine ev_land (pc := 110) dX2_change_110 ?_
    refine ev_putL (pc := 111) dX2_change_111 fX2_53 rfl (wlt (wf_sI hw) (by decide)) ?_
    refine ev_eqH (h' := sL (sI h 26 (upd (h.2.1 26) zi (-1))) 25 (vp_updL (h.2.2.1 25) 5 ((h.2.2.1 25 5) &&& (zbt ^^^ (-1))))) (by rfl) ?_
    refine ev_aload_n (pc := 114) dX2_change_114 rfl ?_
    refine ev_dup (pc := 115) dX2_change_115 rfl ?_
    refine ev_getI (pc := 116) dX2_change_116 fX2_39 rfl (wlt (wf_sL (wf_sI hw)) (by decide)) ?_
    refine ev_eqI (e' := h.2.1 25 7) (by rfl) ?_
    refine ev_iconst (pc := 119) (v := 1) dX2_change_119 (by decide) ?_
    refine ev_iadd (pc := 120) dX2_change_120 ?_
    refine ev_putI (pc := 121) dX2_change_121 fX2_39 rfl (wlt (wf_sL (wf_sI hw)) (by decide)) ?_
    refine ev_eqH (h' := sI (sL (sI h 26 (upd (h.2.1 26) zi (-1))) 25 (vp_updL (h.2.2.1 25) 5 ((h.2.2.1 25 5) &&& (zbt ^^^ (-1))))) 25 (upd (h.2.1 25) 7 ((h.2.1 25 7) + 1))) (by rfl) ?_
    refine ev_ret (pc := 124) dX2_change_124 rfl ?_
    · subst ezbt
      have eU : upd zf zi (-1) = zf := fa_upd_same hz
      refine ⟨rfl, ⟨fun zj hj => ?_, co_upd hF.2.1 (Or.inl rfl), by rw [eU]; exact hF.2.2.1, by rw [eU]; exact hF.2.2.2.1, ?_⟩, ⟨rfl, rfl, fun zk a b => (sI_ne _ _ a).trans ((sI_ne _ _ b).trans (rfl)), fun zk a b => (sL_ne _ _ a).trans (rfl), fun zj a => pk_un a⟩, rfl⟩
      · show upd (h.2.1 26) zi (-1) zj = upd zf zi (-1) zj
        unfold upd
        split
        · rfl
        · exact hF.1 zj hj
      · show h.2.2.1 25 5 &&& ((1 <<< (Int32.toInt64 (nI zi) &&& 63)) ^^^ (-1)) = _
        rw [hF.2.2.2.2]
  · refine ev_eqI (e' := nI zw) (by rw [hF.1 zi hi]; exact hz) ?_
    refine ev_istore (pc := 27) (L' := [some (.ref 25), some (.int (nI zi)), some (.int ((-1))), some (.long zbt), none, some (.int (nI zw))]) dX2_change_27 (Nat.le_of_ble_eq_true rfl) rfl ?_
    refine ev_iload (pc := 29) dX2_change_29 rfl ?_
    refine ev_iconst (pc := 31) (v := 0) dX2_change_31 (by decide) ?_
    refine ev_iconst (pc := 32) (v := 5) dX2_change_32 (by decide) ?_
    refine ev_callSv (S := []) (pc := 33) dX2_change_33 kX10_within lX2_49 sX10_within (cn_X10_within E h (nI zw) 0 5) rfl rfl (Nat.le_of_ble_eq_true rfl) ⟨Nat.le_of_ble_eq_true rfl, Nat.le_of_ble_eq_true rfl⟩ ⟨Nat.le_of_ble_eq_true rfl, Nat.le_of_ble_eq_true rfl⟩ ?_
    refine ev_if_eq (pc := 36) (tgt := 68) dX2_change_36 (by decide) (fun zc36 => absurd zc36 (bI_n0.mpr ⟨nI_pos' (by omega), nI_le (a := zw) (b := 5) (by omega) (by decide)⟩)) (fun zc36 => ?_)
    refine ev_aload_n (pc := 39) dX2_change_39 rfl ?_
    refine ev_getR (pc := 40) (q := 27) dX2_change_40 fX2_15 rfl (wlt hw (by decide)) (wr hw rfl) ?_
    refine ev_iload (pc := 43) dX2_change_43 rfl ?_
    refine ev_dup2 (pc := 45) dX2_change_45 rfl rfl ?_
    refine ev_lald (pc := 46) dX2_change_46 rfl (wlt hw (by decide)) (vp_in_nI (by omega) (by decide)) ?_
    refine ev_eqJ (e' := h.2.2.1 27 zw) (by rw [show Int32.toNatClampNeg (nI zw) = zw from nI_clamp (by omega)] <;> rfl) ?_
    refine ev_lload_n (pc := 47) dX2_change_47 rfl ?_
    refine ev_ldc2 (pc := 48) (v := (-1)) dX2_change_48 kcX2_47 ?_
    refine ev_lxor (pc := 51) dX2_change_51 ?_
    refine ev_land (pc := 52) dX2_change_52 ?_
    refine ev_last (pc := 53) dX2_change_53 rfl (wlt hw (by decide)) (vp_in_nI (by omega) (by decide)) ?_
    refine ev_eqH (h' := sL h 27 (vp_updL (h.2.2.1 27) zw ((h.2.2.1 27 zw) &&& (zbt ^^^ (-1))))) (by rw [show Int32.toNatClampNeg (nI zw) = zw from nI_clamp (by omega)] <;> rfl) ?_
    refine ev_aload_n (pc := 54) dX2_change_54 rfl ?_
    refine ev_dup (pc := 55) dX2_change_55 rfl ?_
    refine ev_getL (pc := 56) dX2_change_56 fX2_43 rfl (wlt (wf_sL hw) (by decide)) ?_
    refine ev_eqJ (e' := h.2.2.1 25 4) (by rfl) ?_
    refine ev_lload_n (pc := 59) dX2_change_59 rfl ?_
    refine ev_ldc2 (pc := 60) (v := (-1)) dX2_change_60 kcX2_47 ?_
    refine ev_lxor (pc := 63) dX2_change_63 ?_
    refine ev_land (pc := 64) dX2_change_64 ?_
    refine ev_putL (pc := 65) dX2_change_65 fX2_43 rfl (wlt (wf_sL hw) (by decide)) ?_
    refine ev_eqH (h' := sL (sL h 27 (vp_updL (h.2.2.1 27) zw ((h.2.2.1 27 zw) &&& (zbt ^^^ (-1))))) 25 (vp_updL (h.2.2.1 25) 4 ((h.2.2.1 25 4) &&& (zbt ^^^ (-1))))) (by rfl) ?_
    refine ev_iload_n (pc := 68) dX2_change_68 rfl ?_
    refine ev_iconst (pc := 69) (v := (-1)) dX2_change_69 (by decide) ?_
    refine ev_icmp_eq (pc := 70) (tgt := 93) dX2_change_70 (by decide) (fun zc70 => ?_) (fun zc70 => absurd rfl zc70)
    refine ev_aload_n (pc := 93) dX2_change_93 rfl ?_
    refine ev_getR (pc := 94) (q := 26) dX2_change_94 fX2_9 rfl (wlt (wf_sL (wf_sL hw)) (by decide)) (wr (wf_sL (wf_sL hw)) rfl) ?_
    refine ev_iload_n (pc := 97) dX2_change_97 rfl ?_
    refine ev_iload_n (pc := 98) dX2_change_98 rfl ?_
    refine ev_iast (pc := 99) dX2_change_99 rfl (wlt (wf_sL (wf_sL hw)) (by decide)) (vp_in_nI (by omega) (by decide)) ?_
    refine ev_eqH (h' := sI (sL (sL h 27 (vp_updL (h.2.2.1 27) zw ((h.2.2.1 27 zw) &&& (zbt ^^^ (-1))))) 25 (vp_updL (h.2.2.1 25) 4 ((h.2.2.1 25 4) &&& (zbt ^^^ (-1))))) 26 (upd (h.2.1 26) zi (-1))) (by rw [show Int32.toNatClampNeg (nI zi) = zi from nI_clamp (by omega)] <;> rfl) ?_
    refine ev_aload_n (pc := 100) dX2_change_100 rfl ?_
    refine ev_dup (pc := 101) dX2_change_101 rfl ?_
    refine ev_getL (pc := 102) dX2_change_102 fX2_53 rfl (wlt (wf_sI (wf_sL (wf_sL hw))) (by decide)) ?_
    refine ev_eqJ (e' := h.2.2.1 25 5) (by rfl) ?_
    refine ev_lload_n (pc := 105) dX2_change_105 rfl ?_
    refine ev_ldc2 (pc := 106) (v := (-1)) dX2_change_106 kcX2_47 ?_
    refine ev_lxor (pc := 109) dX2_change_109 ?_
    refine ev_land (pc := 110) dX2_change_110 ?_
    refine ev_putL (pc := 111) dX2_change_111 fX2_53 rfl (wlt (wf_sI (wf_sL (wf_sL hw))) (by decide)) ?_
    refine ev_eqH (h' := sI (sL (sL h 27 (vp_updL (h.2.2.1 27) zw ((h.2.2.1 27 zw) &&& (zbt ^^^ (-1))))) 25 (vp_updL (vp_updL (h.2.2.1 25) 4 ((h.2.2.1 25 4) &&& (zbt ^^^ (-1)))) 5 ((h.2.2.1 25 5) &&& (zbt ^^^ (-1))))) 26 (upd (h.2.1 26) zi (-1))) (by exact sL_dpI _ _ _ _ _ _) ?_
    refine ev_aload_n (pc := 114) dX2_change_114 rfl ?_
    refine ev_dup (pc := 115) dX2_change_115 rfl ?_
    refine ev_getI (pc := 116) dX2_change_116 fX2_39 rfl (wlt (wf_sI (wf_sL (wf_sL hw))) (by decide)) ?_
    refine ev_eqI (e' := h.2.1 25 7) (by rfl) ?_
    refine ev_iconst (pc := 119) (v := 1) dX2_change_119 (by decide) ?_
    refine ev_iadd (pc := 120) dX2_change_120 ?_
    refine ev_putI (pc := 121) dX2_change_121 fX2_39 rfl (wlt (wf_sI (wf_sL (wf_sL hw))) (by decide)) ?_
    refine ev_eqH (h' := sI (sI (sL (sL h 27 (vp_updL (h.2.2.1 27) zw ((h.2.2.1 27 zw) &&& (zbt ^^^ (-1))))) 25 (vp_updL (vp_updL (h.2.2.1 25) 4 ((h.2.2.1 25 4) &&& (zbt ^^^ (-1)))) 5 ((h.2.2.1 25 5) &&& (zbt ^^^ (-1))))) 26 (upd (h.2.1 26) zi (-1))) 25 (upd (h.2.1 25) 7 ((h.2.1 25 7) + 1))) (by rfl) ?_
    refine ev_ret (pc := 124) dX2_change_124 rfl ?_
    · subst ezbt
      refine ⟨rfl, ⟨fun zj hj => ?_, co_upd hF.2.1 (Or.inl rfl), (pl_clear hF.2.2.1 hi hzw hz), (cl_clear hF.2.2.2.1 hi), ?_⟩, ⟨rfl, rfl, fun zk a b => (sI_ne _ _ a).trans ((sI_ne _ _ b).trans (rfl)), fun zk a b => (sL_ne _ _ a).trans ((sL_ne _ _ b).trans (rfl)), fun zj a => pk_un a⟩, rfl⟩
      · show upd (h.2.1 26) zi (-1) zj = upd zf zi (-1) zj
        unfold upd
        split
        · rfl
        · exact hF.1 zj hj
      · show h.2.2.1 25 5 &&& ((1 <<< (Int32.toInt64 (nI zi) &&& 63)) ^^^ (-1)) = _
        rw [hF.2.2.2.2]
theorem cn_X2_changeC (E : ME) (h : AH) (zi zc : Nat) (zf : Nat → Int32) (zx : Int64) (hw : WF h) (hF : FLz zf zx h) (hi : zi < 64) (hzc : zc < 6) : Con E mX2_change 1 0 0 [.ref 25, .int (nI zi), .int (nI zc)] h (fun r h' => r = none ∧ FLz (upd zf zi (nI zc)) (zx &&& ((1 <<< (Int32.toInt64 (nI zi) &&& 63)) ^^^ (-1))) h' ∧ FrF h h' ∧ h'.2.1 25 7 = h.2.1 25 7 + 1) := by
  refine con_of2 (L := [some (.ref 25), some (.int (nI zi)), some (.int (nI zc)), none, none, none]) rfl (Nat.le_of_ble_eq_true rfl) rfl ?_
  refine ev_iload_n (pc := 0) dX2_change_0 rfl ?_
  refine ev_callSv (S := []) (pc := 1) dX2_change_1 kX10_isCell lX2_35 sX10_isCell (cn_X10_isCell E h (nI zi)) rfl rfl (Nat.le_of_ble_eq_true rfl) ⟨Nat.le_of_ble_eq_true rfl, Nat.le_of_ble_eq_true rfl⟩ ⟨Nat.le_of_ble_eq_true rfl, Nat.le_of_ble_eq_true rfl⟩ ?_
  refine ev_if_eq (pc := 4) (tgt := 16) dX2_change_4 (by decide) (fun zc4 => absurd zc4 (bI_n0.mpr (cl_in hi))) (fun zc4 => ?_)
  refine ev_iload_n (pc := 7) dX2_change_7 rfl ?_
  refine ev_iconst (pc := 8) (v := (-1)) dX2_change_8 (by decide) ?_
  refine ev_iconst (pc := 9) (v := 5) dX2_change_9 (by decide) ?_
  refine ev_callSv (S := []) (pc := 10) dX2_change_10 kX10_within lX2_49 sX10_within (cn_X10_within E h (nI zc) (-1) 5) rfl rfl (Nat.le_of_ble_eq_true rfl) ⟨Nat.le_of_ble_eq_true rfl, Nat.le_of_ble_eq_true rfl⟩ ⟨Nat.le_of_ble_eq_true rfl, Nat.le_of_ble_eq_true rfl⟩ ?_
  refine ev_if_ne (pc := 13) (tgt := 17) dX2_change_13 (by decide) (fun zc13 => ?_) (fun zc13 => absurd zc13 (bI_n0.mpr ⟨by rw [i_le, nI_toInt (by omega)]; exact Int.le_trans (by decide) (Int.natCast_nonneg zc), nI_le (a := zc) (b := 5) (by omega) (by decide)⟩))
  refine ev_lconst (pc := 17) (v := 1) dX2_change_17 (by decide) ?_
  refine ev_iload_n (pc := 18) dX2_change_18 rfl ?_
  refine ev_lshl (pc := 19) dX2_change_19 ?_
  refine ev_nmJ (fun zbt ezbt => ?_)
  refine ev_lstore_n (pc := 20) (L' := [some (.ref 25), some (.int (nI zi)), some (.int (nI zc)), some (.long zbt), none, none]) dX2_change_20 (Nat.le_of_ble_eq_true rfl) rfl ?_
  refine ev_aload_n (pc := 21) dX2_change_21 rfl ?_
  refine ev_getR (pc := 22) (q := 26) dX2_change_22 fX2_9 rfl (wlt hw (by decide)) (wr hw rfl) ?_
  refine ev_iload_n (pc := 25) dX2_change_25 rfl ?_
  refine ev_iald (pc := 26) dX2_change_26 rfl (wlt hw (by decide)) (vp_in_nI (by omega) (by decide)) ?_
  refine ev_eqI (e' := h.2.1 26 zi) (by rw [show Int32.toNatClampNeg (nI zi) = zi from nI_clamp (by omega)] <;> rfl) ?_
  rcases hF.2.1 zi hi with hz | ⟨zw, hzw, hz⟩
  · refine ev_eqI (e' := (-1)) (by rw [hF.1 zi hi]; exact hz) ?_
    refine ev_istore (pc := 27) (L' := [some (.ref 25), some (.int (nI zi)), some (.int (nI zc)), some (.long zbt), none, some (.int ((-1)))]) dX2_change_27 (Nat.le_of_ble_eq_true rfl) rfl ?_
    refine ev_iload (pc := 29) dX2_change_29 rfl ?_
    refine ev_iconst (pc := 31) (v := 0) dX2_change_31 (by decide) ?_
    refine ev_iconst (pc := 32) (v := 5) dX2_change_32 (by decide) ?_
    refine ev_callSv (S := []) (pc := 33) dX2_change_33 kX10_within lX2_49 sX10_within (cn_X10_within E h (-1) 0 5) rfl rfl (Nat.le_of_ble_eq_true rfl) ⟨Nat.le_of_ble_eq_true rfl, Nat.le_of_ble_eq_true rfl⟩ ⟨Nat.le_of_ble_eq_true rfl, Nat.le_of_ble_eq_true rfl⟩ ?_
    refine ev_if_eq (pc := 36) (tgt := 68) dX2_change_36 (by decide) (fun zc36 => ?_) (fun zc36 => absurd (bI_0.mpr (by decide)) zc36)
    refine ev_iload_n (pc := 68) dX2_change_68 rfl ?_
    refine ev_iconst (pc := 69) (v := (-1)) dX2_change_69 (by decide) ?_
    refine ev_icmp_eq (pc := 70) (tgt := 93) dX2_change_70 (by decide) (fun zc70 => absurd zc70 (fun z => m1_ne hzc z.symm)) (fun zc70 => ?_)
    refine ev_aload_n (pc := 73) dX2_change_73 rfl ?_
    refine ev_getR (pc := 74) (q := 27) dX2_change_74 fX2_15 rfl (wlt hw (by decide)) (wr hw rfl) ?_
    refine ev_iload_n (pc := 77) dX2_change_77 rfl ?_
    refine ev_dup2 (pc := 78) dX2_change_78 rfl rfl ?_
    refine ev_lald (pc := 79) dX2_change_79 rfl (wlt hw (by decide)) (vp_in_nI (by omega) (by decide)) ?_
    refine ev_eqJ (e' := h.2.2.1 27 zc) (by rw [show Int32.toNatClampNeg (nI zc) = zc from nI_clamp (by omega)] <;> rfl) ?_
    refine ev_lload_n (pc := 80) dX2_change_80 rfl ?_
    refine ev_lor (pc := 81) dX2_change_81 ?_
    refine ev_last (pc := 82) dX2_change_82 rfl (wlt hw (by decide)) (vp_in_nI (by omega) (by decide)) ?_
    refine ev_eqH (h' := sL h 27 (vp_updL (h.2.2.1 27) zc ((h.2.2.1 27 zc) ||| zbt))) (by rw [show Int32.toNatClampNeg (nI zc) = zc from nI_clamp (by omega)] <;> rfl) ?_
    refine ev_aload_n (pc := 83) dX2_change_83 rfl ?_
    refine ev_dup (pc := 84) dX2_change_84 rfl ?_
    refine ev_getL (pc := 85) dX2_change_85 fX2_43 rfl (wlt (wf_sL hw) (by decide)) ?_
    refine ev_eqJ (e' := h.2.2.1 25 4) (by rfl) ?_
    refine ev_lload_n (pc := 88) dX2_change_88 rfl ?_
    refine ev_lor (pc := 89) dX2_change_89 ?_
    refine ev_putL (pc := 90) dX2_change_90 fX2_43 rfl (wlt (wf_sL hw) (by decide)) ?_
    refine ev_eqH (h' := sL (sL h 27 (vp_updL (h.2.2.1 27) zc ((h.2.2.1 27 zc) ||| zbt))) 25 (vp_updL (h.2.2.1 25) 4 ((h.2.2.1 25 4) ||| zbt))) (by rfl) ?_
    refine ev_aload_n (pc := 93) dX2_change_93 rfl ?_
    refine ev_getR (pc := 94) (q := 26) dX2_change_94 fX2_9 rfl (wlt (wf_sL (wf_sL hw)) (by decide)) (wr (wf_sL (wf_sL hw)) rfl) ?_
    refine ev_iload_n (pc := 97) dX2_change_97 rfl ?_
    refine ev_iload_n (pc := 98) dX2_change_98 rfl ?_
    refine ev_iast (pc := 99) dX2_change_99 rfl (wlt (wf_sL (wf_sL hw)) (by decide)) (vp_in_nI (by omega) (by decide)) ?_
    refine ev_eqH (h' := sI (sL (sL h 27 (vp_updL (h.2.2.1 27) zc ((h.2.2.1 27 zc) ||| zbt))) 25 (vp_updL (h.2.2.1 25) 4 ((h.2.2.1 25 4) ||| zbt))) 26 (upd (h.2.1 26) zi (nI zc))) (by rw [show Int32.toNatClampNeg (nI zi) = zi from nI_clamp (by omega)] <;> rfl) ?_
    refine ev_aload_n (pc := 100) dX2_change_100 rfl ?_
    refine ev_dup (pc := 101) dX2_change_101 rfl ?_
    refine ev_getL (pc := 102) dX2_change_102 fX2_53 rfl (wlt (wf_sI (wf_sL (wf_sL hw))) (by decide)) ?_
    refine ev_eqJ (e' := h.2.2.1 25 5) (by rfl) ?_
    refine ev_lload_n (pc := 105) dX2_change_105 rfl ?_
    refine ev_ldc2 (pc := 106) (v := (-1)) dX2_change_106 kcX2_47 ?_
    refine ev_lxor (pc := 109) dX2_change_109 ?_
    refine ev_land (pc := 110) dX2_change_110 ?_
    refine ev_putL (pc := 111) dX2_change_111 fX2_53 rfl (wlt (wf_sI (wf_sL (wf_sL hw))) (by decide)) ?_
    refine ev_eqH (h' := sI (sL (sL h 27 (vp_updL (h.2.2.1 27) zc ((h.2.2.1 27 zc) ||| zbt))) 25 (vp_updL (vp_updL (h.2.2.1 25) 4 ((h.2.2.1 25 4) ||| zbt)) 5 ((h.2.2.1 25 5) &&& (zbt ^^^ (-1))))) 26 (upd (h.2.1 26) zi (nI zc))) (by exact sL_dpI _ _ _ _ _ _) ?_
    refine ev_aload_n (pc := 114) dX2_change_114 rfl ?_
    refine ev_dup (pc := 115) dX2_change_115 rfl ?_
    refine ev_getI (pc := 116) dX2_change_116 fX2_39 rfl (wlt (wf_sI (wf_sL (wf_sL hw))) (by decide)) ?_
    refine ev_eqI (e' := h.2.1 25 7) (by rfl) ?_
    refine ev_iconst (pc := 119) (v := 1) dX2_change_119 (by decide) ?_
    refine ev_iadd (pc := 120) dX2_change_120 ?_
    refine ev_putI (pc := 121) dX2_change_121 fX2_39 rfl (wlt (wf_sI (wf_sL (wf_sL hw))) (by decide)) ?_
    refine ev_eqH (h' := sI (sI (sL (sL h 27 (vp_updL (h.2.2.1 27) zc ((h.2.2.1 27 zc) ||| zbt))) 25 (vp_updL (vp_updL (h.2.2.1 25) 4 ((h.2.2.1 25 4) ||| zbt)) 5 ((h.2.2.1 25 5) &&& (zbt ^^^ (-1))))) 26 (upd (h.2.1 26) zi (nI zc))) 25 (upd (h.2.1 25) 7 ((h.2.1 25 7) + 1))) (by rfl) ?_
    refine ev_ret (pc := 124) dX2_change_124 rfl ?_
    · subst ezbt
      refine ⟨rfl, ⟨fun zj hj => ?_, co_upd hF.2.1 (Or.inr ⟨zc, hzc, rfl⟩), pl_set hF.2.2.1 hi hzc hz, cl_set hF.2.2.2.1 hi hzc, ?_⟩, ⟨rfl, rfl, fun zk a b => (sI_ne _ _ a).trans ((sI_ne _ _ b).trans (rfl)), fun zk a b => (sL_ne _ _ a).trans ((sL_ne _ _ b).trans (rfl)), fun zj a => pk_un a⟩, rfl⟩
      · show upd (h.2.1 26) zi (nI zc) zj = upd zf zi (nI zc) zj
        unfold upd
        split
        · rfl
        · exact hF.1 zj hj
      · show h.2.2.1 25 5 &&& ((1 <<< (Int32.toInt64 (nI zi) &&& 63)) ^^^ (-1)) = _
        rw [hF.2.2.2.2]
  · refine ev_eqI (e' := nI zw) (by rw [hF.1 zi hi]; exact hz) ?_
    refine ev_istore (pc := 27) (L' := [some (.ref 25), some (.int (nI zi)), some (.int (nI zc)), some (.long zbt), none, some (.int (nI zw))]) dX2_change_27 (Nat.le_of_ble_eq_true rfl) rfl ?_
    refine ev_iload (pc := 29) dX2_change_29 rfl ?_
    refine ev_iconst (pc := 31) (v := 0) dX2_change_31 (by decide) ?_
    refine ev_iconst (pc := 32) (v := 5) dX2_change_32 (by decide) ?_
    refine ev_callSv (S := []) (pc := 33) dX2_change_33 kX10_within lX2_49 sX10_within (cn_X10_within E h (nI zw) 0 5) rfl rfl (Nat.le_of_ble_eq_true rfl) ⟨Nat.le_of_ble_eq_true rfl, Nat.le_of_ble_eq_true rfl⟩ ⟨Nat.le_of_ble_eq_true rfl, Nat.le_of_ble_eq_true rfl⟩ ?_
    refine ev_if_eq (pc := 36) (tgt := 68) dX2_change_36 (by decide) (fun zc36 => absurd zc36 (bI_n0.mpr ⟨nI_pos' (by omega), nI_le (a := zw) (b := 5) (by omega) (by decide)⟩)) (fun zc36 => ?_)
    refine ev_aload_n (pc := 39) dX2_change_39 rfl ?_
    refine ev_getR (pc := 40) (q := 27) dX2_change_40 fX2_15 rfl (wlt hw (by decide)) (wr hw rfl) ?_
    refine ev_iload (pc := 43) dX2_change_43 rfl ?_
    refine ev_dup2 (pc := 45) dX2_change_45 rfl rfl ?_
    refine ev_lald (pc := 46) dX2_change_46 rfl (wlt hw (by decide)) (vp_in_nI (by omega) (by decide)) ?_
    refine ev_eqJ (e' := h.2.2.1 27 zw) (by rw [show Int32.toNatClampNeg (nI zw) = zw from nI_clamp (by omega)] <;> rfl) ?_
    refine ev_lload_n (pc := 47) dX2_change_47 rfl ?_
    refine ev_ldc2 (pc := 48) (v := (-1)) dX2_change_48 kcX2_47 ?_
    refine ev_lxor (pc := 51) dX2_change_51 ?_
    refine ev_land (pc := 52) dX2_change_52 ?_
    refine ev_last (pc := 53) dX2_change_53 rfl (wlt hw (by decide)) (vp_in_nI (by omega) (by decide)) ?_
    refine ev_eqH (h' := sL h 27 (vp_updL (h.2.2.1 27) zw ((h.2.2.1 27 zw) &&& (zbt ^^^ (-1))))) (by rw [show Int32.toNatClampNeg (nI zw) = zw from nI_clamp (by omega)] <;> rfl) ?_
    refine ev_aload_n (pc := 54) dX2_change_54 rfl ?_
    refine ev_dup (pc := 55) dX2_change_55 rfl ?_
    refine ev_getL (pc := 56) dX2_change_56 fX2_43 rfl (wlt (wf_sL hw) (by decide)) ?_
    refine ev_eqJ (e' := h.2.2.1 25 4) (by rfl) ?_
    refine ev_lload_n (pc := 59) dX2_change_59 rfl ?_
    refine ev_ldc2 (pc := 60) (v := (-1)) dX2_change_60 kcX2_47 ?_
    refine ev_lxor (pc := 63) dX2_change_63 ?_
    refine ev_land (pc := 64) dX2_change_64 ?_
    refine ev_putL (pc := 65) dX2_change_65 fX2_43 rfl (wlt (wf_sL hw) (by decide)) ?_
    refine ev_eqH (h' := sL (sL h 27 (vp_updL (h.2.2.1 27) zw ((h.2.2.1 27 zw) &&& (zbt ^^^ (-1))))) 25 (vp_updL (h.2.2.1 25) 4 ((h.2.2.1 25 4) &&& (zbt ^^^ (-1))))) (by rfl) ?_
    refine ev_iload_n (pc := 68) dX2_change_68 rfl ?_
    refine ev_iconst (pc := 69) (v := (-1)) dX2_change_69 (by decide) ?_
    refine ev_icmp_eq (pc := 70) (tgt := 93) dX2_change_70 (by decide) (fun zc70 => absurd zc70 (fun z => m1_ne hzc z.symm)) (fun zc70 => ?_)
    refine ev_aload_n (pc := 73) dX2_change_73 rfl ?_
    refine ev_getR (pc := 74) (q := 27) dX2_change_74 fX2_15 rfl (wlt (wf_sL (wf_sL hw)) (by decide)) (wr (wf_sL (wf_sL hw)) rfl) ?_
    refine ev_iload_n (pc := 77) dX2_change_77 rfl ?_
    refine ev_dup2 (pc := 78) dX2_change_78 rfl rfl ?_
    refine ev_lald (pc := 79) dX2_change_79 rfl (wlt (wf_sL (wf_sL hw)) (by decide)) (vp_in_nI (by omega) (by decide)) ?_
    refine ev_eqJ (e' := (vp_updL (h.2.2.1 27) zw ((h.2.2.1 27 zw) &&& (zbt ^^^ (-1)))) zc) (by rw [show Int32.toNatClampNeg (nI zc) = zc from nI_clamp (by omega)] <;> rfl) ?_
    refine ev_lload_n (pc := 80) dX2_change_80 rfl ?_
    refine ev_lor (pc := 81) dX2_change_81 ?_
    refine ev_last (pc := 82) dX2_change_82 rfl (wlt (wf_sL (wf_sL hw)) (by decide)) (vp_in_nI (by omega) (by decide)) ?_
    refine ev_eqH (h' := sL (sL h 27 (vp_updL (vp_updL (h.2.2.1 27) zw ((h.2.2.1 27 zw) &&& (zbt ^^^ (-1)))) zc (((vp_updL (h.2.2.1 27) zw ((h.2.2.1 27 zw) &&& (zbt ^^^ (-1)))) zc) ||| zbt))) 25 (vp_updL (h.2.2.1 25) 4 ((h.2.2.1 25 4) &&& (zbt ^^^ (-1))))) (by rw [show Int32.toNatClampNeg (nI zc) = zc from nI_clamp (by omega)]; exact sL_dp _ (by decide) _ _ _) ?_
    refine ev_aload_n (pc := 83) dX2_change_83 rfl ?_
    refine ev_dup (pc := 84) dX2_change_84 rfl ?_
    refine ev_getL (pc := 85) dX2_change_85 fX2_43 rfl (wlt (wf_sL (wf_sL hw)) (by decide)) ?_
    refine ev_eqJ (e' := (h.2.2.1 25 4) &&& (zbt ^^^ (-1))) (by rfl) ?_
    refine ev_lload_n (pc := 88) dX2_change_88 rfl ?_
    refine ev_lor (pc := 89) dX2_change_89 ?_
    refine ev_putL (pc := 90) dX2_change_90 fX2_43 rfl (wlt (wf_sL (wf_sL hw)) (by decide)) ?_
    refine ev_eqH (h' := sL (sL h 27 (vp_updL (vp_updL (h.2.2.1 27) zw ((h.2.2.1 27 zw) &&& (zbt ^^^ (-1)))) zc (((vp_updL (h.2.2.1 27) zw ((h.2.2.1 27 zw) &&& (zbt ^^^ (-1)))) zc) ||| zbt))) 25 (vp_updL (h.2.2.1 25) 4 (((h.2.2.1 25 4) &&& (zbt ^^^ (-1))) ||| zbt))) (by refine (sL_sL _ _ _ _).trans ?_; refine congrArg _ (funext fun zj => ?_); simp only [upd, vp_updL, sL_at]; (repeat' split) <;> first | rfl | (exfalso; omega)) ?_
    refine ev_aload_n (pc := 93) dX2_change_93 rfl ?_
    refine ev_getR (pc := 94) (q := 26) dX2_change_94 fX2_9 rfl (wlt (wf_sL (wf_sL hw)) (by decide)) (wr (wf_sL (wf_sL hw)) rfl) ?_
    refine ev_iload_n (pc := 97) dX2_change_97 rfl ?_
    refine ev_iload_n (pc := 98) dX2_change_98 rfl ?_
    refine ev_iast (pc := 99) dX2_change_99 rfl (wlt (wf_sL (wf_sL hw)) (by decide)) (vp_in_nI (by omega) (by decide)) ?_
    refine ev_eqH (h' := sI (sL (sL h 27 (vp_updL (vp_updL (h.2.2.1 27) zw ((h.2.2.1 27 zw) &&& (zbt ^^^ (-1)))) zc (((vp_updL (h.2.2.1 27) zw ((h.2.2.1 27 zw) &&& (zbt ^^^ (-1)))) zc) ||| zbt))) 25 (vp_updL (h.2.2.1 25) 4 (((h.2.2.1 25 4) &&& (zbt ^^^ (-1))) ||| zbt))) 26 (upd (h.2.1 26) zi (nI zc))) (by rw [show Int32.toNatClampNeg (nI zi) = zi from nI_clamp (by omega)] <;> rfl) ?_
    refine ev_aload_n (pc := 100) dX2_change_100 rfl ?_
    refine ev_dup (pc := 101) dX2_change_101 rfl ?_
    refine ev_getL (pc := 102) dX2_change_102 fX2_53 rfl (wlt (wf_sI (wf_sL (wf_sL hw))) (by decide)) ?_
    refine ev_eqJ (e' := h.2.2.1 25 5) (by rfl) ?_
    refine ev_lload_n (pc := 105) dX2_change_105 rfl ?_
    refine ev_ldc2 (pc := 106) (v := (-1)) dX2_change_106 kcX2_47 ?_
    refine ev_lxor (pc := 109) dX2_change_109 ?_
    refine ev_land (pc := 110) dX2_change_110 ?_
    refine ev_putL (pc := 111) dX2_change_111 fX2_53 rfl (wlt (wf_sI (wf_sL (wf_sL hw))) (by decide)) ?_
    refine ev_eqH (h' := sI (sL (sL h 27 (vp_updL (vp_updL (h.2.2.1 27) zw ((h.2.2.1 27 zw) &&& (zbt ^^^ (-1)))) zc (((vp_updL (h.2.2.1 27) zw ((h.2.2.1 27 zw) &&& (zbt ^^^ (-1)))) zc) ||| zbt))) 25 (vp_updL (vp_updL (h.2.2.1 25) 4 (((h.2.2.1 25 4) &&& (zbt ^^^ (-1))) ||| zbt)) 5 ((h.2.2.1 25 5) &&& (zbt ^^^ (-1))))) 26 (upd (h.2.1 26) zi (nI zc))) (by exact sL_dpI _ _ _ _ _ _) ?_
    refine ev_aload_n (pc := 114) dX2_change_114 rfl ?_
    refine ev_dup (pc := 115) dX2_change_115 rfl ?_
    refine ev_getI (pc := 116) dX2_change_116 fX2_39 rfl (wlt (wf_sI (wf_sL (wf_sL hw))) (by decide)) ?_
    refine ev_eqI (e' := h.2.1 25 7) (by rfl) ?_
    refine ev_iconst (pc := 119) (v := 1) dX2_change_119 (by decide) ?_
    refine ev_iadd (pc := 120) dX2_change_120 ?_
    refine ev_putI (pc := 121) dX2_change_121 fX2_39 rfl (wlt (wf_sI (wf_sL (wf_sL hw))) (by decide)) ?_
    refine ev_eqH (h' := sI (sI (sL (sL h 27 (vp_updL (vp_updL (h.2.2.1 27) zw ((h.2.2.1 27 zw) &&& (zbt ^^^ (-1)))) zc (((vp_updL (h.2.2.1 27) zw ((h.2.2.1 27 zw) &&& (zbt ^^^ (-1)))) zc) ||| zbt))) 25 (vp_updL (vp_updL (h.2.2.1 25) 4 (((h.2.2.1 25 4) &&& (zbt ^^^ (-1))) ||| zbt)) 5 ((h.2.2.1 25 5) &&& (zbt ^^^ (-1))))) 26 (upd (h.2.1 26) zi (nI zc))) 25 (upd (h.2.1 25) 7 ((h.2.1 25 7) + 1))) (by rfl) ?_
    refine ev_ret (pc := 124) dX2_change_124 rfl ?_
    · subst ezbt
      have eU : upd zf zi (nI zc) = upd (upd zf zi (-1)) zi (nI zc) := (fa_upd_twice _ _ _ _).symm
      refine ⟨rfl, ⟨fun zj hj => ?_, co_upd hF.2.1 (Or.inr ⟨zc, hzc, rfl⟩), by rw [eU]; exact pl_set (pl_clear hF.2.2.1 hi hzw hz) hi hzc (pk_us), by rw [eU]; exact cl_set (cl_clear hF.2.2.2.1 hi) hi hzc, ?_⟩, ⟨rfl, rfl, fun zk a b => (sI_ne _ _ a).trans ((sI_ne _ _ b).trans (rfl)), fun zk a b => (sL_ne _ _ a).trans ((sL_ne _ _ b).trans (rfl)), fun zj a => pk_un a⟩, rfl⟩
      · show upd (h.2.1 26) zi (nI zc) zj = upd zf zi (nI zc) zj
        unfold upd
        split
        · rfl
        · exact hF.1 zj hj
      · show h.2.2.1 25 5 &&& ((1 <<< (Int32.toInt64 (nI zi) &&& 63)) ^^^ (-1)) = _
        rw [hF.2.2.2.2]
