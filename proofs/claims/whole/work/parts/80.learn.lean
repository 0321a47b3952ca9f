theorem sI_idd (h : AH) (za zb : Nat) : h = sI (sI h za (h.2.1 za)) zb (h.2.1 zb) := by
  rw [sI_id h za]
  exact (sI_id h zb).symm
theorem thg_nI {zt : PSt} {zi : Nat} (h : zi < zt.1 1) (hb : zt.1 1 ≤ 4096) : thg zt (nI zi) := by
  refine ⟨nI_pos' (by omega), ?_⟩
  rw [nI_m1 (by omega)]
  exact nI_le (by omega) (by omega)
def lsH (h : AH) (zt : PSt) : AH := sI (sI (sI (sI h 20 (upd (h.2.1 20) 4 (nI (zt.1 1)))) 21 (lb1 (fun zk => nI (zt.2 2 zk ||| zt.2 3 zk)) (h.2.1 21) (zt.1 1))) 22 (befF (zt.1 1) (fun zk => nI (zt.2 2 zk ||| zt.2 3 zk)) (h.2.1 22))) 20 (upd (upd (h.2.1 20) 4 (nI (zt.1 1))) 5 0)
theorem lp_ln_15_3 (E : ME) (h : AH) (zt : PSt) (m : Nat) (zf zg : Nat → Int32) (hw : WF h) (hY : STz zt 3 h) (hO : POK zt) (hm : h.2.1 20 4 = nI m) (hm2 : m ≤ 12) (hmt : m = zt.1 1) {post : PO} (K : Ev E mX6_learn (rmm 3 0 0) (QM E 0 0 post) 0 0 52 [some (.ref 20), some (.ref 3), some (.int (nI m)), none] [] (sI (sI h 21 (lb1 (fun zk => nI (zt.2 2 zk ||| zt.2 3 zk)) zf m)) 22 (lb1 (fun zk => nI (zt.2 2 zk ||| zt.2 3 zk)) zg m))) : ∀ n i : Nat, i + n = m → Ev E mX6_learn (rmm 3 0 0) (QM E 0 0 post) 0 0 15 [some (.ref 20), some (.ref 3), some (.int (nI i)), none] [] (sI (sI h 21 (lb1 (fun zk => nI (zt.2 2 zk ||| zt.2 3 zk)) zf i)) 22 (lb1 (fun zk => nI (zt.2 2 zk ||| zt.2 3 zk)) zg i)) := by
  intro n
  induction n with
  | zero =>
    intro i hi
    obtain rfl : m = i := by omega
    refine ev_iload_n (pc := 15) dX6_learn_15 rfl ?_
    refine ev_aload_n (pc := 16) dX6_learn_16 rfl ?_
    refine ev_getI (pc := 17) dX6_learn_17 fX6_36 rfl (wlt (wf_sI (wf_sI hw)) (by decide)) ?_
    refine ev_eqI (e' := h.2.1 20 4) (by rfl) ?_
    refine ev_eqI (e' := nI m) hm ?_
    refine ev_icmp_ge (pc := 20) (tgt := 52) dX6_learn_20 (by decide) (fun zc20 => ?_) (fun zc20 => absurd (nI_le (Nat.le_refl _) (by omega)) zc20)
    exact K
  | succ n ih =>
    intro i hi
    have hlt : i < m := by omega
    refine ev_iload_n (pc := 15) dX6_learn_15 rfl ?_
    refine ev_aload_n (pc := 16) dX6_learn_16 rfl ?_
    refine ev_getI (pc := 17) dX6_learn_17 fX6_36 rfl (wlt (wf_sI (wf_sI hw)) (by decide)) ?_
    refine ev_eqI (e' := h.2.1 20 4) (by rfl) ?_
    refine ev_eqI (e' := nI m) hm ?_
    refine ev_icmp_ge (pc := 20) (tgt := 52) dX6_learn_20 (by decide) (fun zc20 => absurd zc20 (nI_ge hlt (by omega))) (fun zc20 => ?_)
    refine ev_aload_n (pc := 23) dX6_learn_23 rfl ?_
    refine ev_getR (pc := 24) (q := 21) dX6_learn_24 fX6_9 rfl (wlt (wf_sI (wf_sI hw)) (by decide)) (wr (wf_sI (wf_sI hw)) rfl) ?_
    refine ev_iload_n (pc := 27) dX6_learn_27 rfl ?_
    refine ev_aload_n (pc := 28) dX6_learn_28 rfl ?_
    refine ev_iload_n (pc := 29) dX6_learn_29 rfl ?_
    refine ev_callVv (S := [.int (nI i), .ref 21]) (pc := 30) dX6_learn_30 kX8_laterThan lX6_39 vX8_laterThan (cn_X8_laterThan_3 E (sI (sI h 21 (lb1 (fun zk => nI (zt.2 2 zk ||| zt.2 3 zk)) zf i)) 22 (lb1 (fun zk => nI (zt.2 2 zk ||| zt.2 3 zk)) zg i)) zt (nI i) (wf_sI (wf_sI hw)) hY hO) rfl rfl (wlt (wf_sI (wf_sI hw)) (by decide)) rfl rfl (Nat.le_of_ble_eq_true rfl) ⟨Nat.le_of_ble_eq_true rfl, Nat.le_of_ble_eq_true rfl⟩ ⟨Nat.le_of_ble_eq_true rfl, Nat.le_of_ble_eq_true rfl⟩ ?_
    refine ev_eqI (e' := nI (zt.2 2 i ||| zt.2 3 i)) (by rw [if_pos (thg_nI (by omega) (by omega)), nI_clamp (by omega)]) ?_
    refine ev_iast (pc := 33) dX6_learn_33 rfl (wlt (wf_sI (wf_sI hw)) (by decide)) (vp_in_nI (by omega) (by decide)) ?_
    refine ev_eqH (h' := sI (sI h 21 (upd (lb1 (fun zk => nI (zt.2 2 zk ||| zt.2 3 zk)) zf i) i (nI (zt.2 2 i ||| zt.2 3 i)))) 22 (lb1 (fun zk => nI (zt.2 2 zk ||| zt.2 3 zk)) zg i)) (by rw [show Int32.toNatClampNeg (nI i) = i from nI_clamp (by omega)]; exact sI_dp _ (by decide) _ _ _) ?_
    refine ev_aload_n (pc := 34) dX6_learn_34 rfl ?_
    refine ev_getR (pc := 35) (q := 22) dX6_learn_35 fX6_15 rfl (wlt (wf_sI (wf_sI hw)) (by decide)) (wr (wf_sI (wf_sI hw)) rfl) ?_
    refine ev_iload_n (pc := 38) dX6_learn_38 rfl ?_
    refine ev_aload_n (pc := 39) dX6_learn_39 rfl ?_
    refine ev_getR (pc := 40) (q := 21) dX6_learn_40 fX6_9 rfl (wlt (wf_sI (wf_sI hw)) (by decide)) (wr (wf_sI (wf_sI hw)) rfl) ?_
    refine ev_iload_n (pc := 43) dX6_learn_43 rfl ?_
    refine ev_iald (pc := 44) dX6_learn_44 rfl (wlt (wf_sI (wf_sI hw)) (by decide)) (vp_in_nI (by omega) (by decide)) ?_
    refine ev_eqI (e' := nI (zt.2 2 i ||| zt.2 3 i)) (by rw [show Int32.toNatClampNeg (nI i) = i from nI_clamp (by omega)] <;> first | rfl | exact if_pos rfl) ?_
    refine ev_iast (pc := 45) dX6_learn_45 rfl (wlt (wf_sI (wf_sI hw)) (by decide)) (vp_in_nI (by omega) (by decide)) ?_
    refine ev_eqH (h' := sI (sI h 21 (upd (lb1 (fun zk => nI (zt.2 2 zk ||| zt.2 3 zk)) zf i) i (nI (zt.2 2 i ||| zt.2 3 i)))) 22 (upd (lb1 (fun zk => nI (zt.2 2 zk ||| zt.2 3 zk)) zg i) i (nI (zt.2 2 i ||| zt.2 3 i)))) (by rw [show Int32.toNatClampNeg (nI i) = i from nI_clamp (by omega)]; exact sI_sI _ _ _ _) ?_
    refine ev_iinc (pc := 46) (v := nI (i + 1)) (L' := [some (.ref 20), some (.ref 3), some (.int (nI (i + 1))), none]) dX6_learn_46 rfl (nI_1 _) (Nat.le_of_ble_eq_true rfl) rfl ?_
    refine ev_goto (pc := 49) (tgt := 15) dX6_learn_49 (by decide) ?_
    exact ih (i + 1) (by omega)
theorem lp_ln_64_3 (E : ME) (h : AH) (m zk : Nat) (zf : Nat → Int32) (hw : WF h) (hm : h.2.1 20 4 = nI m) (hm2 : m ≤ 12) (hk : zk < m) {post : PO} (K : Ev E mX6_learn (rmm 3 0 0) (QM E 0 0 post) 0 0 106 [some (.ref 20), some (.ref 3), some (.int (nI zk)), some (.int (nI m))] [] (sI h 22 (lbT zk zf m))) : ∀ n i : Nat, i + n = m → Ev E mX6_learn (rmm 3 0 0) (QM E 0 0 post) 0 0 64 [some (.ref 20), some (.ref 3), some (.int (nI zk)), some (.int (nI i))] [] (sI h 22 (lbT zk zf i)) := by
  intro n
  induction n with
  | zero =>
    intro i hi
    obtain rfl : m = i := by omega
    refine ev_iload_n (pc := 64) dX6_learn_64 rfl ?_
    refine ev_aload_n (pc := 65) dX6_learn_65 rfl ?_
    refine ev_getI (pc := 66) dX6_learn_66 fX6_36 rfl (wlt (wf_sI hw) (by decide)) ?_
    refine ev_eqI (e' := h.2.1 20 4) (by rfl) ?_
    refine ev_eqI (e' := nI m) hm ?_
    refine ev_icmp_ge (pc := 69) (tgt := 106) dX6_learn_69 (by decide) (fun zc69 => ?_) (fun zc69 => absurd (nI_le (Nat.le_refl _) (by omega)) zc69)
    exact K
  | succ n ih =>
    intro i hi
    have hlt : i < m := by omega
    refine ev_iload_n (pc := 64) dX6_learn_64 rfl ?_
    refine ev_aload_n (pc := 65) dX6_learn_65 rfl ?_
    refine ev_getI (pc := 66) dX6_learn_66 fX6_36 rfl (wlt (wf_sI hw) (by decide)) ?_
    refine ev_eqI (e' := h.2.1 20 4) (by rfl) ?_
    refine ev_eqI (e' := nI m) hm ?_
    refine ev_icmp_ge (pc := 69) (tgt := 106) dX6_learn_69 (by decide) (fun zc69 => absurd zc69 (nI_ge hlt (by omega))) (fun zc69 => ?_)
    refine ev_aload_n (pc := 72) dX6_learn_72 rfl ?_
    refine ev_getR (pc := 73) (q := 22) dX6_learn_73 fX6_15 rfl (wlt (wf_sI hw) (by decide)) (wr (wf_sI hw) rfl) ?_
    refine ev_iload_n (pc := 76) dX6_learn_76 rfl ?_
    refine ev_iald (pc := 77) dX6_learn_77 rfl (wlt (wf_sI hw) (by decide)) (vp_in_nI (by omega) (by decide)) ?_
    refine ev_eqI (e' := (lbT zk zf i) i) (by rw [show Int32.toNatClampNeg (nI i) = i from nI_clamp (by omega)] <;> rfl) ?_
    refine ev_iload_n (pc := 78) dX6_learn_78 rfl ?_
    refine ev_callSv (S := []) (pc := 79) dX6_learn_79 kX10_has lX6_42 sX10_has (cn_X10_has E (sI h 22 (lbT zk zf i)) ((lbT zk zf i) i) (nI zk)) rfl rfl (Nat.le_of_ble_eq_true rfl) ⟨Nat.le_of_ble_eq_true rfl, Nat.le_of_ble_eq_true rfl⟩ ⟨Nat.le_of_ble_eq_true rfl, Nat.le_of_ble_eq_true rfl⟩ ?_
    refine ev_if_eq (pc := 82) (tgt := 100) dX6_learn_82 (by decide) (fun zc82 => ?_) (fun zc82 => ?_)
    · -- eq at 82: taken
      refine ev_iinc (pc := 100) (v := nI (i + 1)) (L' := [some (.ref 20), some (.ref 3), some (.int (nI zk)), some (.int (nI (i + 1)))]) dX6_learn_100 rfl (nI_1 _) (Nat.le_of_ble_eq_true rfl) rfl ?_
      refine ev_goto (pc := 103) (tgt := 64) dX6_learn_103 (by decide) ?_
      refine ev_eqH (h' := sI h 22 (lbT zk zf (i + 1))) (by simp only [lbT]; first | rw [if_pos ((has_1 _).mp (bI_n0.mp zc82))] | rw [if_neg (fun z => bI_0.mp zc82 ((has_1 _).mpr z)), or_zero32, fa_upd_same rfl]) ?_
      exact ih (i + 1) (by omega)
    · -- eq at 82: not taken
      refine ev_aload_n (pc := 85) dX6_learn_85 rfl ?_
      refine ev_getR (pc := 86) (q := 22) dX6_learn_86 fX6_15 rfl (wlt (wf_sI hw) (by decide)) (wr (wf_sI hw) rfl) ?_
      refine ev_iload_n (pc := 89) dX6_learn_89 rfl ?_
      refine ev_dup2 (pc := 90) dX6_learn_90 rfl rfl ?_
      refine ev_iald (pc := 91) dX6_learn_91 rfl (wlt (wf_sI hw) (by decide)) (vp_in_nI (by omega) (by decide)) ?_
      refine ev_eqI (e' := (lbT zk zf i) i) (by rw [show Int32.toNatClampNeg (nI i) = i from nI_clamp (by omega)] <;> rfl) ?_
      refine ev_aload_n (pc := 92) dX6_learn_92 rfl ?_
      refine ev_getR (pc := 93) (q := 22) dX6_learn_93 fX6_15 rfl (wlt (wf_sI hw) (by decide)) (wr (wf_sI hw) rfl) ?_
      refine ev_iload_n (pc := 96) dX6_learn_96 rfl ?_
      refine ev_iald (pc := 97) dX6_learn_97 rfl (wlt (wf_sI hw) (by decide)) (vp_in_nI (by omega) (by decide)) ?_
      refine ev_eqI (e' := (lbT zk zf i) zk) (by rw [show Int32.toNatClampNeg (nI zk) = zk from nI_clamp (by omega)] <;> rfl) ?_
      refine ev_ior (pc := 98) dX6_learn_98 ?_
      refine ev_iast (pc := 99) dX6_learn_99 rfl (wlt (wf_sI hw) (by decide)) (vp_in_nI (by omega) (by decide)) ?_
      refine ev_eqH (h' := sI h 22 (upd (lbT zk zf i) i (((lbT zk zf i) i) ||| ((lbT zk zf i) zk)))) (by rw [show Int32.toNatClampNeg (nI i) = i from nI_clamp (by omega)]; exact sI_sI _ _ _ _) ?_
      refine ev_iinc (pc := 100) (v := nI (i + 1)) (L' := [some (.ref 20), some (.ref 3), some (.int (nI zk)), some (.int (nI (i + 1)))]) dX6_learn_100 rfl (nI_1 _) (Nat.le_of_ble_eq_true rfl) rfl ?_
      refine ev_goto (pc := 103) (tgt := 64) dX6_learn_103 (by decide) ?_
      refine ev_eqH (h' := sI h 22 (lbT zk zf (i + 1))) (by simp only [lbT]; first | rw [if_pos ((has_1 _).mp (bI_n0.mp zc82))] | rw [if_neg (fun z => bI_0.mp zc82 ((has_1 _).mpr z)), or_zero32, fa_upd_same rfl]) ?_
      exact ih (i + 1) (by omega)
theorem lp_ln_54_3 (E : ME) (h : AH) (m : Nat) (zf : Nat → Int32) (hw : WF h) (hm : h.2.1 20 4 = nI m) (hm2 : m ≤ 12) {post : PO} (K : Ev E mX6_learn (rmm 3 0 0) (QM E 0 0 post) 0 0 112 [some (.ref 20), some (.ref 3), some (.int (nI m)), none] [] (sI h 22 (lbK m zf m))) : ∀ n i : Nat, i + n = m → Ev E mX6_learn (rmm 3 0 0) (QM E 0 0 post) 0 0 54 [some (.ref 20), some (.ref 3), some (.int (nI i)), none] [] (sI h 22 (lbK m zf i)) := by
  intro n
  induction n with
  | zero =>
    intro i hi
    obtain rfl : m = i := by omega
    refine ev_iload_n (pc := 54) dX6_learn_54 rfl ?_
    refine ev_aload_n (pc := 55) dX6_learn_55 rfl ?_
    refine ev_getI (pc := 56) dX6_learn_56 fX6_36 rfl (wlt (wf_sI hw) (by decide)) ?_
    refine ev_eqI (e' := h.2.1 20 4) (by rfl) ?_
    refine ev_eqI (e' := nI m) hm ?_
    refine ev_icmp_ge (pc := 59) (tgt := 112) dX6_learn_59 (by decide) (fun zc59 => ?_) (fun zc59 => absurd (nI_le (Nat.le_refl _) (by omega)) zc59)
    exact K
  | succ n ih =>
    intro i hi
    have hlt : i < m := by omega
    refine ev_iload_n (pc := 54) dX6_learn_54 rfl ?_
    refine ev_aload_n (pc := 55) dX6_learn_55 rfl ?_
    refine ev_getI (pc := 56) dX6_learn_56 fX6_36 rfl (wlt (wf_sI hw) (by decide)) ?_
    refine ev_eqI (e' := h.2.1 20 4) (by rfl) ?_
    refine ev_eqI (e' := nI m) hm ?_
    refine ev_icmp_ge (pc := 59) (tgt := 112) dX6_learn_59 (by decide) (fun zc59 => absurd zc59 (nI_ge hlt (by omega))) (fun zc59 => ?_)
    refine ev_iconst (pc := 62) (v := 0) dX6_learn_62 (by decide) ?_
    refine ev_istore_n (pc := 63) (L' := [some (.ref 20), some (.ref 3), some (.int (nI i)), some (.int 0)]) dX6_learn_63 (Nat.le_of_ble_eq_true rfl) rfl ?_
    refine lp_ln_64_3 E h m i (lbK m zf i) hw hm hm2 hlt ?_ m 0 (Nat.zero_add _)
    refine ev_iinc (pc := 106) (v := nI (i + 1)) (L' := [some (.ref 20), some (.ref 3), some (.int (nI (i + 1))), some (.int (nI m))]) dX6_learn_106 rfl (nI_1 _) (Nat.le_of_ble_eq_true rfl) rfl ?_
    refine ev_goto (pc := 109) (tgt := 54) dX6_learn_109 (by decide) ?_
    refine ev_less (L' := [some (.ref 20), some (.ref 3), some (.int (nI (i + 1))), none]) (ls_keep (ls_keep (ls_keep (ls_drop (ls_nil _))))) ?_
    exact ih (i + 1) (by omega)
theorem cn_X6_learn_3 (E : ME) (h : AH) (zt : PSt) (hw : WF h) (hY : STz zt 3 h) (hO : POK zt) (hz : zt.1 1 ≤ 12) : Con E mX6_learn 3 0 0 [.ref 20, .ref 3] h (fun r h' => r = none ∧ h' = lsH h zt) := by
  refine con_of2 (L := [some (.ref 20), some (.ref 3), none, none]) rfl (Nat.le_of_ble_eq_true rfl) rfl ?_
  refine ev_aload_n (pc := 0) dX6_learn_0 rfl ?_
  refine ev_aload_n (pc := 1) dX6_learn_1 rfl ?_
  refine ev_callVv (S := [.ref 20]) (pc := 2) dX6_learn_2 kX8_things lX6_24 vX8_things (cn_X8_things_3 E h zt hw hY hO) rfl rfl (wlt hw (by decide)) rfl rfl (Nat.le_of_ble_eq_true rfl) ⟨Nat.le_of_ble_eq_true rfl, Nat.le_of_ble_eq_true rfl⟩ ⟨Nat.le_of_ble_eq_true rfl, Nat.le_of_ble_eq_true rfl⟩ ?_
  refine ev_bipush (pc := 5) (v := 12) dX6_learn_5 (by decide) ?_
  refine ev_mmin (pc := 7) dX6_learn_7 (tw3 64 rfl (by decide +kernel)) (Nat.le_of_ble_eq_true rfl) ⟨Nat.le_of_ble_eq_true rfl, Nat.le_of_ble_eq_true rfl⟩ ⟨Nat.le_of_ble_eq_true rfl, Nat.le_of_ble_eq_true rfl⟩ ?_
  refine ev_eqI (e' := nI (zt.1 1)) (if_neg (show ¬ (12 : Int32) < nI (zt.1 1) from nI_nlt (a := 12) (by omega) (by omega))) ?_
  refine ev_putI (pc := 10) dX6_learn_10 fX6_36 rfl (wlt hw (by decide)) ?_
  refine ev_eqH (h' := sI h 20 (upd (h.2.1 20) 4 (nI (zt.1 1)))) (by rfl) ?_
  refine ev_iconst (pc := 13) (v := 0) dX6_learn_13 (by decide) ?_
  refine ev_istore_n (pc := 14) (L' := [some (.ref 20), some (.ref 3), some (.int 0), none]) dX6_learn_14 (Nat.le_of_ble_eq_true rfl) rfl ?_
  refine ev_eqH (sI_idd (sI h 20 (upd (h.2.1 20) 4 (nI (zt.1 1)))) 21 22) ?_
  refine lp_ln_15_3 E (sI h 20 (upd (h.2.1 20) 4 (nI (zt.1 1)))) zt (zt.1 1) (h.2.1 21) (h.2.1 22) (wf_sI hw) hY hO rfl hz rfl ?_ (zt.1 1) 0 (Nat.zero_add _)
  refine ev_iconst (pc := 52) (v := 0) dX6_learn_52 (by decide) ?_
  refine ev_istore_n (pc := 53) (L' := [some (.ref 20), some (.ref 3), some (.int 0), none]) dX6_learn_53 (Nat.le_of_ble_eq_true rfl) rfl ?_
  refine lp_ln_54_3 E (sI (sI h 20 (upd (h.2.1 20) 4 (nI (zt.1 1)))) 21 (lb1 (fun zk => nI (zt.2 2 zk ||| zt.2 3 zk)) (h.2.1 21) (zt.1 1))) (zt.1 1) (lb1 (fun zk => nI (zt.2 2 zk ||| zt.2 3 zk)) (h.2.1 22) (zt.1 1)) (wf_sI (wf_sI hw)) rfl hz ?_ (zt.1 1) 0 (Nat.zero_add _)
  refine ev_aload_n (pc := 112) dX6_learn_112 rfl ?_
  refine ev_iconst (pc := 113) (v := 0) dX6_learn_113 (by decide) ?_
  refine ev_putZ (pc := 114) dX6_learn_114 fX6_46 rfl (wlt (wf_sI (wf_sI (wf_sI hw))) (by decide)) (by decide) ?_
  refine ev_eqH (h' := sI (sI (sI (sI h 20 (upd (h.2.1 20) 4 (nI (zt.1 1)))) 21 (lb1 (fun zk => nI (zt.2 2 zk ||| zt.2 3 zk)) (h.2.1 21) (zt.1 1))) 22 (befF (zt.1 1) (fun zk => nI (zt.2 2 zk ||| zt.2 3 zk)) (h.2.1 22))) 20 (upd ((sI h 20 (upd (h.2.1 20) 4 (nI (zt.1 1)))).2.1 20) 5 0)) (by rfl) ?_
  refine ev_ret (pc := 117) dX6_learn_117 rfl ?_
  · exact ⟨rfl, rfl⟩
theorem lp_ln_15_11 (E : ME) (h : AH) (zt : PSt) (m : Nat) (zf zg : Nat → Int32) (hw : WF h) (hY : STz zt 11 h) (hO : POK zt) (hm : h.2.1 20 4 = nI m) (hm2 : m ≤ 12) (hmt : m = zt.1 1) {post : PO} (K : Ev E mX6_learn (rmm 3 0 0) (QM E 0 0 post) 0 0 52 [some (.ref 20), some (.ref 11), some (.int (nI m)), none] [] (sI (sI h 21 (lb1 (fun zk => nI (zt.2 2 zk ||| zt.2 3 zk)) zf m)) 22 (lb1 (fun zk => nI (zt.2 2 zk ||| zt.2 3 zk)) zg m))) : ∀ n i : Nat, i + n = m → Ev E mX6_learn (rmm 3 0 0) (QM E 0 0 post) 0 0 15 [some (.ref 20), some (.ref 11), some (.int (nI i)), none] [] (sI (sI h 21 (lb1 (fun zk => nI (zt.2 2 zk ||| zt.2 3 zk)) zf i)) 22 (lb1 (fun zk => nI (zt.2 2 zk ||| zt.2 3 zk)) zg i)) := by
  intro n
  induction n with
  | zero =>
    intro i hi
    obtain rfl : m = i := by omega
    refine ev_iload_n (pc := 15) dX6_learn_15 rfl ?_
    refine ev_aload_n (pc := 16) dX6_learn_16 rfl ?_
    refine ev_getI (pc := 17) dX6_learn_17 fX6_36 rfl (wlt (wf_sI (wf_sI hw)) (by decide)) ?_
    refine ev_eqI (e' := h.2.1 20 4) (by rfl) ?_
    refine ev_eqI (e' := nI m) hm ?_
    refine ev_icmp_ge (pc := 20) (tgt := 52) dX6_learn_20 (by decide) (fun zc20 => ?_) (fun zc20 => absurd (nI_le (Nat.le_refl _) (by omega)) zc20)
    exact K
  | succ n ih =>
    intro i hi
    have hlt : i < m := by omega
    refine ev_iload_n (pc := 15) dX6_learn_15 rfl ?_
    refine ev_aload_n (pc := 16) dX6_learn_16 rfl ?_
    refine ev_getI (pc := 17) dX6_learn_17 fX6_36 rfl (wlt (wf_sI (wf_sI hw)) (by decide)) ?_
    refine ev_eqI (e' := h.2.1 20 4) (by rfl) ?_
    refine ev_eqI (e' := nI m) hm ?_
    refine ev_icmp_ge (pc := 20) (tgt := 52) dX6_learn_20 (by decide) (fun zc20 => absurd zc20 (nI_ge hlt (by omega))) (fun zc20 => ?_)
    refine ev_aload_n (pc := 23) dX6_learn_23 rfl ?_
    refine ev_getR (pc := 24) (q := 21) dX6_learn_24 fX6_9 rfl (wlt (wf_sI (wf_sI hw)) (by decide)) (wr (wf_sI (wf_sI hw)) rfl) ?_
    refine ev_iload_n (pc := 27) dX6_learn_27 rfl ?_
    refine ev_aload_n (pc := 28) dX6_learn_28 rfl ?_
    refine ev_iload_n (pc := 29) dX6_learn_29 rfl ?_
    refine ev_callVv (S := [.int (nI i), .ref 21]) (pc := 30) dX6_learn_30 kX8_laterThan lX6_39 vX8_laterThan (cn_X8_laterThan_11 E (sI (sI h 21 (lb1 (fun zk => nI (zt.2 2 zk ||| zt.2 3 zk)) zf i)) 22 (lb1 (fun zk => nI (zt.2 2 zk ||| zt.2 3 zk)) zg i)) zt (nI i) (wf_sI (wf_sI hw)) hY hO) rfl rfl (wlt (wf_sI (wf_sI hw)) (by decide)) rfl rfl (Nat.le_of_ble_eq_true rfl) ⟨Nat.le_of_ble_eq_true rfl, Nat.le_of_ble_eq_true rfl⟩ ⟨Nat.le_of_ble_eq_true rfl, Nat.le_of_ble_eq_true rfl⟩ ?_
    refine ev_eqI (e' := nI (zt.2 2 i ||| zt.2 3 i)) (by rw [if_pos (thg_nI (by omega) (by omega)), nI_clamp (by omega)]) ?_
    refine ev_iast (pc := 33) dX6_learn_33 rfl (wlt (wf_sI (wf_sI hw)) (by decide)) (vp_in_nI (by omega) (by decide)) ?_
    refine ev_eqH (h' := sI (sI h 21 (upd (lb1 (fun zk => nI (zt.2 2 zk ||| zt.2 3 zk)) zf i) i (nI (zt.2 2 i ||| zt.2 3 i)))) 22 (lb1 (fun zk => nI (zt.2 2 zk ||| zt.2 3 zk)) zg i)) (by rw [show Int32.toNatClampNeg (nI i) = i from nI_clamp (by omega)]; exact sI_dp _ (by decide) _ _ _) ?_
    refine ev_aload_n (pc := 34) dX6_learn_34 rfl ?_
    refine ev_getR (pc := 35) (q := 22) dX6_learn_35 fX6_15 rfl (wlt (wf_sI (wf_sI hw)) (by decide)) (wr (wf_sI (wf_sI hw)) rfl) ?_
    refine ev_iload_n (pc := 38) dX6_learn_38 rfl ?_
    refine ev_aload_n (pc := 39) dX6_learn_39 rfl ?_
    refine ev_getR (pc := 40) (q := 21) dX6_learn_40 fX6_9 rfl (wlt (wf_sI (wf_sI hw)) (by decide)) (wr (wf_sI (wf_sI hw)) rfl) ?_
    refine ev_iload_n (pc := 43) dX6_learn_43 rfl ?_
    refine ev_iald (pc := 44) dX6_learn_44 rfl (wlt (wf_sI (wf_sI hw)) (by decide)) (vp_in_nI (by omega) (by decide)) ?_
    refine ev_eqI (e' := nI (zt.2 2 i ||| zt.2 3 i)) (by rw [show Int32.toNatClampNeg (nI i) = i from nI_clamp (by omega)] <;> first | rfl | exact if_pos rfl) ?_
    refine ev_iast (pc := 45) dX6_learn_45 rfl (wlt (wf_sI (wf_sI hw)) (by decide)) (vp_in_nI (by omega) (by decide)) ?_
    refine ev_eqH (h' := sI (sI h 21 (upd (lb1 (fun zk => nI (zt.2 2 zk ||| zt.2 3 zk)) zf i) i (nI (zt.2 2 i ||| zt.2 3 i)))) 22 (upd (lb1 (fun zk => nI (zt.2 2 zk ||| zt.2 3 zk)) zg i) i (nI (zt.2 2 i ||| zt.2 3 i)))) (by rw [show Int32.toNatClampNeg (nI i) = i from nI_clamp (by omega)]; exact sI_sI _ _ _ _) ?_
    refine ev_iinc (pc := 46) (v := nI (i + 1)) (L' := [some (.ref 20), some (.ref 11), some (.int (nI (i + 1))), none]) dX6_learn_46 rfl (nI_1 _) (Nat.le_of_ble_eq_true rfl) rfl ?_
    refine ev_goto (pc := 49) (tgt := 15) dX6_learn_49 (by decide) ?_
    exact ih (i + 1) (by omega)
theorem lp_ln_64_11 (E : ME) (h : AH) (m zk : Nat) (zf : Nat → Int32) (hw : WF h) (hm : h.2.1 20 4 = nI m) (hm2 : m ≤ 12) (hk : zk < m) {post : PO} (K : Ev E mX6_learn (rmm 3 0 0) (QM E 0 0 post) 0 0 106 [some (.ref 20), some (.ref 11), some (.int (nI zk)), some (.int (nI m))] [] (sI h 22 (lbT zk zf m))) : ∀ n i : Nat, i + n = m → Ev E mX6_learn (rmm 3 0 0) (QM E 0 0 post) 0 0 64 [some (.ref 20), some (.ref 11), some (.int (nI zk)), some (.int (nI i))] [] (sI h 22 (lbT zk zf i)) := by
  intro n
  induction n with
  | zero =>
    intro i hi
    obtain rfl : m = i := by omega
    refine ev_iload_n (pc := 64) dX6_learn_64 rfl ?_
    refine ev_aload_n (pc := 65) dX6_learn_65 rfl ?_
    refine ev_getI (pc := 66) dX6_learn_66 fX6_36 rfl (wlt (wf_sI hw) (by decide)) ?_
    refine ev_eqI (e' := h.2.1 20 4) (by rfl) ?_
    refine ev_eqI (e' := nI m) hm ?_
    refine ev_icmp_ge (pc := 69) (tgt := 106) dX6_learn_69 (by decide) (fun zc69 => ?_) (fun zc69 => absurd (nI_le (Nat.le_refl _) (by omega)) zc69)
    exact K
  | succ n ih =>
    intro i hi
    have hlt : i < m := by omega
    refine ev_iload_n (pc := 64) dX6_learn_64 rfl ?_
    refine ev_aload_n (pc := 65) dX6_learn_65 rfl ?_
    refine ev_getI (pc := 66) dX6_learn_66 fX6_36 rfl (wlt (wf_sI hw) (by decide)) ?_
    refine ev_eqI (e' := h.2.1 20 4) (by rfl) ?_
    refine ev_eqI (e' := nI m) hm ?_
    refine ev_icmp_ge (pc := 69) (tgt := 106) dX6_learn_69 (by decide) (fun zc69 => absurd zc69 (nI_ge hlt (by omega))) (fun zc69 => ?_)
    refine ev_aload_n (pc := 72) dX6_learn_72 rfl ?_
    refine ev_getR (pc := 73) (q := 22) dX6_learn_73 fX6_15 rfl (wlt (wf_sI hw) (by decide)) (wr (wf_sI hw) rfl) ?_
    refine ev_iload_n (pc := 76) dX6_learn_76 rfl ?_
    refine ev_iald (pc := 77) dX6_learn_77 rfl (wlt (wf_sI hw) (by decide)) (vp_in_nI (by omega) (by decide)) ?_
    refine ev_eqI (e' := (lbT zk zf i) i) (by rw [show Int32.toNatClampNeg (nI i) = i from nI_clamp (by omega)] <;> rfl) ?_
    refine ev_iload_n (pc := 78) dX6_learn_78 rfl ?_
    refine ev_callSv (S := []) (pc := 79) dX6_learn_79 kX10_has lX6_42 sX10_has (cn_X10_has E (sI h 22 (lbT zk zf i)) ((lbT zk zf i) i) (nI zk)) rfl rfl (Nat.le_of_ble_eq_true rfl) ⟨Nat.le_of_ble_eq_true rfl, Nat.le_of_ble_eq_true rfl⟩ ⟨Nat.le_of_ble_eq_true rfl, Nat.le_of_ble_eq_true rfl⟩ ?_
    refine ev_if_eq (pc := 82) (tgt := 100) dX6_learn_82 (by decide) (fun zc82 => ?_) (fun zc82 => ?_)
    · -- eq at 82: taken
      refine ev_iinc (pc := 100) (v := nI (i + 1)) (L' := [some (.ref 20), some (.ref 11), some (.int (nI zk)), some (.int (nI (i + 1)))]) dX6_learn_100 rfl (nI_1 _) (Nat.le_of_ble_eq_true rfl) rfl ?_
      refine ev_goto (pc := 103) (tgt := 64) dX6_learn_103 (by decide) ?_
      refine ev_eqH (h' := sI h 22 (lbT zk zf (i + 1))) (by simp only [lbT]; first | rw [if_pos ((has_1 _).mp (bI_n0.mp zc82))] | rw [if_neg (fun z => bI_0.mp zc82 ((has_1 _).mpr z)), or_zero32, fa_upd_same rfl]) ?_
      exact ih (i + 1) (by omega)
    · -- eq at 82: not taken
      refine ev_aload_n (pc := 85) dX6_learn_85 rfl ?_
      refine ev_getR (pc := 86) (q := 22) dX6_learn_86 fX6_15 rfl (wlt (wf_sI hw) (by decide)) (wr (wf_sI hw) rfl) ?_
      refine ev_iload_n (pc := 89) dX6_learn_89 rfl ?_
      refine ev_dup2 (pc := 90) dX6_learn_90 rfl rfl ?_
      refine ev_iald (pc := 91) dX6_learn_91 rfl (wlt (wf_sI hw) (by decide)) (vp_in_nI (by omega) (by decide)) ?_
      refine ev_eqI (e' := (lbT zk zf i) i) (by rw [show Int32.toNatClampNeg (nI i) = i from nI_clamp (by omega)] <;> rfl) ?_
      refine ev_aload_n (pc := 92) dX6_learn_92 rfl ?_
      refine ev_getR (pc := 93) (q := 22) dX6_learn_93 fX6_15 rfl (wlt (wf_sI hw) (by decide)) (wr (wf_sI hw) rfl) ?_
      refine ev_iload_n (pc := 96) dX6_learn_96 rfl ?_
      refine ev_iald (pc := 97) dX6_learn_97 rfl (wlt (wf_sI hw) (by decide)) (vp_in_nI (by omega) (by decide)) ?_
      refine ev_eqI (e' := (lbT zk zf i) zk) (by rw [show Int32.toNatClampNeg (nI zk) = zk from nI_clamp (by omega)] <;> rfl) ?_
      refine ev_ior (pc := 98) dX6_learn_98 ?_
      refine ev_iast (pc := 99) dX6_learn_99 rfl (wlt (wf_sI hw) (by decide)) (vp_in_nI (by omega) (by decide)) ?_
      refine ev_eqH (h' := sI h 22 (upd (lbT zk zf i) i (((lbT zk zf i) i) ||| ((lbT zk zf i) zk)))) (by rw [show Int32.toNatClampNeg (nI i) = i from nI_clamp (by omega)]; exact sI_sI _ _ _ _) ?_
      refine ev_iinc (pc := 100) (v := nI (i + 1)) (L' := [some (.ref 20), some (.ref 11), some (.int (nI zk)), some (.int (nI (i + 1)))]) dX6_learn_100 rfl (nI_1 _) (Nat.le_of_ble_eq_true rfl) rfl ?_
      refine ev_goto (pc := 103) (tgt := 64) dX6_learn_103 (by decide) ?_
      refine ev_eqH (h' := sI h 22 (lbT zk zf (i + 1))) (by simp only [lbT]; first | rw [if_pos ((has_1 _).mp (bI_n0.mp zc82))] | rw [if_neg (fun z => bI_0.mp zc82 ((has_1 _).mpr z)), or_zero32, fa_upd_same rfl]) ?_
      exact ih (i + 1) (by omega)
theorem lp_ln_54_11 (E : ME) (h : AH) (m : Nat) (zf : Nat → Int32) (hw : WF h) (hm : h.2.1 20 4 = nI m) (hm2 : m ≤ 12) {post : PO} (K : Ev E mX6_learn (rmm 3 0 0) (QM E 0 0 post) 0 0 112 [some (.ref 20), some (.ref 11), some (.int (nI m)), none] [] (sI h 22 (lbK m zf m))) : ∀ n i : Nat, i + n = m → Ev E mX6_learn (rmm 3 0 0) (QM E 0 0 post) 0 0 54 [some (.ref 20), some (.ref 11), some (.int (nI i)), none] [] (sI h 22 (lbK m zf i)) := by
  intro n
  induction n with
  | zero =>
    intro i hi
    obtain rfl : m = i := by omega
    refine ev_iload_n (pc := 54) dX6_learn_54 rfl ?_
    refine ev_aload_n (pc := 55) dX6_learn_55 rfl ?_
    refine ev_getI (pc := 56) dX6_learn_56 fX6_36 rfl (wlt (wf_sI hw) (by decide)) ?_
    refine ev_eqI (e' := h.2.1 20 4) (by rfl) ?_
    refine ev_eqI (e' := nI m) hm ?_
    refine ev_icmp_ge (pc := 59) (tgt := 112) dX6_learn_59 (by decide) (fun zc59 => ?_) (fun zc59 => absurd (nI_le (Nat.le_refl _) (by omega)) zc59)
    exact K
  | succ n ih =>
    intro i hi
    have hlt : i < m := by omega
    refine ev_iload_n (pc := 54) dX6_learn_54 rfl ?_
    refine ev_aload_n (pc := 55) dX6_learn_55 rfl ?_
    refine ev_getI (pc := 56) dX6_learn_56 fX6_36 rfl (wlt (wf_sI hw) (by decide)) ?_
    refine ev_eqI (e' := h.2.1 20 4) (by rfl) ?_
    refine ev_eqI (e' := nI m) hm ?_
    refine ev_icmp_ge (pc := 59) (tgt := 112) dX6_learn_59 (by decide) (fun zc59 => absurd zc59 (nI_ge hlt (by omega))) (fun zc59 => ?_)
    refine ev_iconst (pc := 62) (v := 0) dX6_learn_62 (by decide) ?_
    refine ev_istore_n (pc := 63) (L' := [some (.ref 20), some (.ref 11), some (.int (nI i)), some (.int 0)]) dX6_learn_63 (Nat.le_of_ble_eq_true rfl) rfl ?_
    refine lp_ln_64_11 E h m i (lbK m zf i) hw hm hm2 hlt ?_ m 0 (Nat.zero_add _)
    refine ev_iinc (pc := 106) (v := nI (i + 1)) (L' := [some (.ref 20), some (.ref 11), some (.int (nI (i + 1))), some (.int (nI m))]) dX6_learn_106 rfl (nI_1 _) (Nat.le_of_ble_eq_true rfl) rfl ?_
    refine ev_goto (pc := 109) (tgt := 54) dX6_learn_109 (by decide) ?_
    refine ev_less (L' := [some (.ref 20), some (.ref 11), some (.int (nI (i + 1))), none]) (ls_keep (ls_keep (ls_keep (ls_drop (ls_nil _))))) ?_
    exact ih (i + 1) (by omega)
theorem cn_X6_learn_11 (E : ME) (h : AH) (zt : PSt) (hw : WF h) (hY : STz zt 11 h) (hO : POK zt) (hz : zt.1 1 ≤ 12) : Con E mX6_learn 3 0 0 [.ref 20, .ref 11] h (fun r h' => r = none ∧ h' = lsH h zt) := by
  refine con_of2 (L := [some (.ref 20), some (.ref 11), none, none]) rfl (Nat.le_of_ble_eq_true rfl) rfl ?_
  refine ev_aload_n (pc := 0) dX6_learn_0 rfl ?_
  refine ev_aload_n (pc := 1) dX6_learn_1 rfl ?_
  refine ev_callVv (S := [.ref 20]) (pc := 2) dX6_learn_2 kX8_things lX6_24 vX8_things (cn_X8_things_11 E h zt hw hY hO) rfl rfl (wlt hw (by decide)) rfl rfl (Nat.le_of_ble_eq_true rfl) ⟨Nat.le_of_ble_eq_true rfl, Nat.le_of_ble_eq_true rfl⟩ ⟨Nat.le_of_ble_eq_true rfl, Nat.le_of_ble_eq_true rfl⟩ ?_
  refine ev_bipush (pc := 5) (v := 12) dX6_learn_5 (by decide) ?_
  refine ev_mmin (pc := 7) dX6_learn_7 (tw3 64 rfl (by decide +kernel)) (Nat.le_of_ble_eq_true rfl) ⟨Nat.le_of_ble_eq_true rfl, Nat.le_of_ble_eq_true rfl⟩ ⟨Nat.le_of_ble_eq_true rfl, Nat.le_of_ble_eq_true rfl⟩ ?_
  refine ev_eqI (e' := nI (zt.1 1)) (if_neg (show ¬ (12 : Int32) < nI (zt.1 1) from nI_nlt (a := 12) (by omega) (by omega))) ?_
  refine ev_putI (pc := 10) dX6_learn_10 fX6_36 rfl (wlt hw (by decide)) ?_
  refine ev_eqH (h' := sI h 20 (upd (h.2.1 20) 4 (nI (zt.1 1)))) (by rfl) ?_
  refine ev_iconst (pc := 13) (v := 0) dX6_learn_13 (by decide) ?_
  refine ev_istore_n (pc := 14) (L' := [some (.ref 20), some (.ref 11), some (.int 0), none]) dX6_learn_14 (Nat.le_of_ble_eq_true rfl) rfl ?_
  refine ev_eqH (sI_idd (sI h 20 (upd (h.2.1 20) 4 (nI (zt.1 1)))) 21 22) ?_
  refine lp_ln_15_11 E (sI h 20 (upd (h.2.1 20) 4 (nI (zt.1 1)))) zt (zt.1 1) (h.2.1 21) (h.2.1 22) (wf_sI hw) hY hO rfl hz rfl ?_ (zt.1 1) 0 (Nat.zero_add _)
  refine ev_iconst (pc := 52) (v := 0) dX6_learn_52 (by decide) ?_
  refine ev_istore_n (pc := 53) (L' := [some (.ref 20), some (.ref 11), some (.int 0), none]) dX6_learn_53 (Nat.le_of_ble_eq_true rfl) rfl ?_
  refine lp_ln_54_11 E (sI (sI h 20 (upd (h.2.1 20) 4 (nI (zt.1 1)))) 21 (lb1 (fun zk => nI (zt.2 2 zk ||| zt.2 3 zk)) (h.2.1 21) (zt.1 1))) (zt.1 1) (lb1 (fun zk => nI (zt.2 2 zk ||| zt.2 3 zk)) (h.2.1 22) (zt.1 1)) (wf_sI (wf_sI hw)) rfl hz ?_ (zt.1 1) 0 (Nat.zero_add _)
  refine ev_aload_n (pc := 112) dX6_learn_112 rfl ?_
  refine ev_iconst (pc := 113) (v := 0) dX6_learn_113 (by decide) ?_
  refine ev_putZ (pc := 114) dX6_learn_114 fX6_46 rfl (wlt (wf_sI (wf_sI (wf_sI hw))) (by decide)) (by decide) ?_
  refine ev_eqH (h' := sI (sI (sI (sI h 20 (upd (h.2.1 20) 4 (nI (zt.1 1)))) 21 (lb1 (fun zk => nI (zt.2 2 zk ||| zt.2 3 zk)) (h.2.1 21) (zt.1 1))) 22 (befF (zt.1 1) (fun zk => nI (zt.2 2 zk ||| zt.2 3 zk)) (h.2.1 22))) 20 (upd ((sI h 20 (upd (h.2.1 20) 4 (nI (zt.1 1)))).2.1 20) 5 0)) (by rfl) ?_
  refine ev_ret (pc := 117) dX6_learn_117 rfl ?_
  · exact ⟨rfl, rfl⟩
