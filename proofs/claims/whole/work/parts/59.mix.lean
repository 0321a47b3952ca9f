theorem lp_mixP_2 (E : ME) (h : AH) (zp zt : Nat) (hw : WF h) {post : PO} (K : Ev E mX2_mixPanels (rmm 2 0 0) (QM E 0 0 post) 0 0 26 [some (.ref 25), some (.int (nI zp)), some (.int (nI zt)), some (.int (nI 64)), none, none, none, none] [] (sI h 29 (cpF (h.2.1 26) (h.2.1 29) 64))) : ∀ n i : Nat, i + n = 64 → Ev E mX2_mixPanels (rmm 2 0 0) (QM E 0 0 post) 0 0 2 [some (.ref 25), some (.int (nI zp)), some (.int (nI zt)), some (.int (nI i)), none, none, none, none] [] (sI h 29 (cpF (h.2.1 26) (h.2.1 29) i)) := by
  intro n
  induction n with
  | zero =>
    intro i hi
    obtain rfl : 64 = i := by omega
    refine ev_iload_n (pc := 2) dX2_mixPanels_2 rfl ?_
    refine ev_bipush (pc := 3) (v := 64) dX2_mixPanels_3 (by decide) ?_
    refine ev_icmp_ge (pc := 5) (tgt := 26) dX2_mixPanels_5 (by decide) (fun zc5 => ?_) (fun zc5 => absurd (by decide) zc5)
    exact K
  | succ n ih =>
    intro i hi
    have hlt : i < 64 := by omega
    refine ev_iload_n (pc := 2) dX2_mixPanels_2 rfl ?_
    refine ev_bipush (pc := 3) (v := 64) dX2_mixPanels_3 (by decide) ?_
    refine ev_icmp_ge (pc := 5) (tgt := 26) dX2_mixPanels_5 (by decide) (fun zc5 => absurd zc5 (nI_ge (a := i) (b := 64) hlt (by decide))) (fun zc5 => ?_)
    refine ev_aload_n (pc := 8) dX2_mixPanels_8 rfl ?_
    refine ev_getR (pc := 9) (q := 29) dX2_mixPanels_9 fX2_22 rfl (wlt (wf_sI hw) (by decide)) (wr (wf_sI hw) rfl) ?_
    refine ev_iload_n (pc := 12) dX2_mixPanels_12 rfl ?_
    refine ev_aload_n (pc := 13) dX2_mixPanels_13 rfl ?_
    refine ev_getR (pc := 14) (q := 26) dX2_mixPanels_14 fX2_9 rfl (wlt (wf_sI hw) (by decide)) (wr (wf_sI hw) rfl) ?_
    refine ev_iload_n (pc := 17) dX2_mixPanels_17 rfl ?_
    refine ev_iald (pc := 18) dX2_mixPanels_18 rfl (wlt (wf_sI hw) (by decide)) (vp_in_nI (by omega) (by decide)) ?_
    refine ev_eqI (e' := h.2.1 26 i) (by rw [show Int32.toNatClampNeg (nI i) = i from nI_clamp (by omega)] <;> rfl) ?_
    refine ev_iast (pc := 19) dX2_mixPanels_19 rfl (wlt (wf_sI hw) (by decide)) (vp_in_nI (by omega) (by decide)) ?_
    refine ev_eqH (h' := sI h 29 (upd (cpF (h.2.1 26) (h.2.1 29) i) i (h.2.1 26 i))) (by rw [show Int32.toNatClampNeg (nI i) = i from nI_clamp (by omega)]; exact sI_sI _ _ _ _) ?_
    refine ev_iinc (pc := 20) (v := nI (i + 1)) (L' := [some (.ref 25), some (.int (nI zp)), some (.int (nI zt)), some (.int (nI (i + 1))), none, none, none, none]) dX2_mixPanels_20 rfl (nI_1 _) (Nat.le_of_ble_eq_true rfl) rfl ?_
    refine ev_goto (pc := 23) (tgt := 2) dX2_mixPanels_23 (by decide) ?_
    exact ih (i + 1) (by omega)
/-- a cell that has not yet been laid -/
def ncv (zp zi zk zj : Nat) : Prop := ∀ za zc, za < 4 → zc < 16 → (za < zi ∨ (za = zi ∧ zc < zk)) → pnN (fg zp za) zc ≠ zj
def MXz (zf zg1 : Nat → Int32) (zp zi zk : Nat) (zy : Int64) (zm : Nat) (h g : AH) : Prop := FNz zf zg1 zy zm h g ∧ (∀ zj, zj < 64 → g.2.1 29 zj = zf zj) ∧ ∀ zj, zj < 64 → lbt zy zj = true → ncv zp zi zk zj
theorem lp_mixP_50 (E : ME) (h : AH) (zp zt zi zm : Nat) (zf zq : Nat → Int32) (hC : COz zf) (hp : zp < 256) (ht : zt < 256) (hi : zi < 4) {post : PO} (K : ∀ (zg : AH) (zy : Int64), WF zg → MXz zf (mxK zf zp zt zi zq 16) zp zi 16 zy (zm + 16) h zg → Ev E mX2_mixPanels (rmm 2 0 0) (QM E 0 0 post) 0 0 103 [some (.ref 25), some (.int (nI zp)), some (.int (nI zt)), some (.int (nI zi)), some (.int (nI (fg zp zi))), some (.int (nI (fg zt zi))), some (.int (nI 16)), none] [] zg) : ∀ (zn zk : Nat) (zg : AH) (zy : Int64), zk + zn = 16 → WF zg → MXz zf (mxK zf zp zt zi zq zk) zp zi zk zy (zm + zk) h zg → Ev E mX2_mixPanels (rmm 2 0 0) (QM E 0 0 post) 0 0 50 [some (.ref 25), some (.int (nI zp)), some (.int (nI zt)), some (.int (nI zi)), some (.int (nI (fg zp zi))), some (.int (nI (fg zt zi))), some (.int (nI zk)), none] [] zg := by
  intro zn
  induction zn with
  | zero =>
    intro zk zg zy hz hw hM
    obtain rfl : 16 = zk := by omega
    refine ev_iload (pc := 50) dX2_mixPanels_50 rfl ?_
    refine ev_bipush (pc := 52) (v := 16) dX2_mixPanels_52 (by decide) ?_
    refine ev_icmp_ge (pc := 54) (tgt := 103) dX2_mixPanels_54 (by decide) (fun zc54 => ?_) (fun zc54 => absurd (by decide) zc54)
    exact K zg zy hw hM
  | succ zn ih =>
    intro zk zg zy hz hw hM
    have z1 := (fg_ok zi hi zp hp).2
    have z2 := (fg_ok zi hi zt ht).2
    have z3 := (sr4 (fg zt zi) (by omega) zk (by omega)).2
    have z4 := (pn_ok zi hi (srN 4 (fg zt zi) zk) z3).2
    have z5 := (pn_ok (fg zp zi) z1 zk (by omega)).2
    refine ev_iload (pc := 50) dX2_mixPanels_50 rfl ?_
    refine ev_bipush (pc := 52) (v := 16) dX2_mixPanels_52 (by decide) ?_
    refine ev_icmp_ge (pc := 54) (tgt := 103) dX2_mixPanels_54 (by decide) (fun zc54 => absurd zc54 (nI_ge (a := zk) (b := 16) (by omega) (by decide))) (fun zc54 => ?_)
    refine ev_iload_n (pc := 57) dX2_mixPanels_57 rfl ?_
    refine ev_iload (pc := 58) dX2_mixPanels_58 rfl ?_
    refine ev_iload (pc := 60) dX2_mixPanels_60 rfl ?_
    refine ev_iconst (pc := 62) (v := 4) dX2_mixPanels_62 (by decide) ?_
    refine ev_callSv (S := [.int (nI zi)]) (pc := 63) dX2_mixPanels_63 kX10_source lX2_31 sX10_source (cn_X10_src4 E zg (fg zt zi) zk hw (by omega) (by omega)) rfl rfl (Nat.le_of_ble_eq_true rfl) ⟨Nat.le_of_ble_eq_true rfl, Nat.le_of_ble_eq_true rfl⟩ ⟨Nat.le_of_ble_eq_true rfl, Nat.le_of_ble_eq_true rfl⟩ ?_
    refine ev_callSv (S := []) (pc := 66) dX2_mixPanels_66 kX10_panelCell lX2_88 sX10_panelCell (cn_X10_pn E zg zi (srN 4 (fg zt zi) zk) (by omega) (by omega)) rfl rfl (Nat.le_of_ble_eq_true rfl) ⟨Nat.le_of_ble_eq_true rfl, Nat.le_of_ble_eq_true rfl⟩ ⟨Nat.le_of_ble_eq_true rfl, Nat.le_of_ble_eq_true rfl⟩ ?_
    refine ev_istore (pc := 69) (L' := [some (.ref 25), some (.int (nI zp)), some (.int (nI zt)), some (.int (nI zi)), some (.int (nI (fg zp zi))), some (.int (nI (fg zt zi))), some (.int (nI zk)), some (.int (nI (pnN zi (srN 4 (fg zt zi) zk))))]) dX2_mixPanels_69 (Nat.le_of_ble_eq_true rfl) rfl ?_
    refine ev_iload (pc := 71) dX2_mixPanels_71 rfl ?_
    refine ev_callSv (S := []) (pc := 73) dX2_mixPanels_73 kX10_isCell lX2_35 sX10_isCell (cn_X10_isCell E zg (nI (pnN zi (srN 4 (fg zt zi) zk)))) rfl rfl (Nat.le_of_ble_eq_true rfl) ⟨Nat.le_of_ble_eq_true rfl, Nat.le_of_ble_eq_true rfl⟩ ⟨Nat.le_of_ble_eq_true rfl, Nat.le_of_ble_eq_true rfl⟩ ?_
    refine ev_if_eq (pc := 76) (tgt := 97) dX2_mixPanels_76 (by decide) (fun zc76 => absurd zc76 (bI_n0.mpr (cl_in z4))) (fun zc76 => ?_)
    refine ev_aload_n (pc := 79) dX2_mixPanels_79 rfl ?_
    refine ev_iload (pc := 80) dX2_mixPanels_80 rfl ?_
    refine ev_iload (pc := 82) dX2_mixPanels_82 rfl ?_
    refine ev_callSv (S := [.ref 25]) (pc := 84) dX2_mixPanels_84 kX10_panelCell lX2_88 sX10_panelCell (cn_X10_pn E zg (fg zp zi) zk (by omega) (by omega)) rfl rfl (Nat.le_of_ble_eq_true rfl) ⟨Nat.le_of_ble_eq_true rfl, Nat.le_of_ble_eq_true rfl⟩ ⟨Nat.le_of_ble_eq_true rfl, Nat.le_of_ble_eq_true rfl⟩ ?_
    refine ev_aload_n (pc := 87) dX2_mixPanels_87 rfl ?_
    refine ev_getR (pc := 88) (q := 29) dX2_mixPanels_88 fX2_22 rfl (wlt hw (by decide)) (wr hw rfl) ?_
    refine ev_iload (pc := 91) dX2_mixPanels_91 rfl ?_
    refine ev_iald (pc := 93) dX2_mixPanels_93 rfl (wlt hw (by decide)) (vp_in_nI (by omega) (by decide)) ?_
    refine ev_eqI (e' := zg.2.1 29 (pnN zi (srN 4 (fg zt zi) zk))) (by rw [show Int32.toNatClampNeg (nI (pnN zi (srN 4 (fg zt zi) zk))) = pnN zi (srN 4 (fg zt zi) zk) from nI_clamp (by omega)] <;> rfl) ?_
    refine ev_eqI (e' := zf (pnN zi (srN 4 (fg zt zi) zk))) (hM.2.1 _ z4) ?_
    refine ev_callV (S := []) (pc := 94) dX2_mixPanels_94 kX2_change lX2_64 vX2_change (cn_X2_changeV E zg (pnN (fg zp zi) zk) (zf (pnN zi (srN 4 (fg zt zi) zk))) (mxK zf zp zt zi zq zk) zy hw hM.1.1 z5 (hC _ z4)) rfl rfl (wlt hw (by decide)) rfl rfl (Nat.le_of_ble_eq_true rfl) ⟨Nat.le_of_ble_eq_true rfl, Nat.le_of_ble_eq_true rfl⟩ ⟨Nat.le_of_ble_eq_true rfl, Nat.le_of_ble_eq_true rfl⟩ ?_
    rintro _ zg2 ⟨rfl, hF2, hR2, hn2⟩
    have wzg2 := FrF_w hR2 hw
    refine ev_iinc (pc := 97) (v := nI (zk + 1)) (L' := [some (.ref 25), some (.int (nI zp)), some (.int (nI zt)), some (.int (nI zi)), some (.int (nI (fg zp zi))), some (.int (nI (fg zt zi))), some (.int (nI (zk + 1))), some (.int (nI (pnN zi (srN 4 (fg zt zi) zk))))]) dX2_mixPanels_97 rfl (nI_1 _) (Nat.le_of_ble_eq_true rfl) rfl ?_
    refine ev_goto (pc := 100) (tgt := 50) dX2_mixPanels_100 (by decide) ?_
    refine ev_less (L' := [some (.ref 25), some (.int (nI zp)), some (.int (nI zt)), some (.int (nI zi)), some (.int (nI (fg zp zi))), some (.int (nI (fg zt zi))), some (.int (nI (zk + 1))), none]) (ls_keep (ls_keep (ls_keep (ls_keep (ls_keep (ls_keep (ls_keep (ls_drop (ls_nil _))))))))) ?_
    refine ih (zk + 1) zg2 (zy &&& ((1 <<< (Int32.toInt64 (nI (pnN (fg zp zi) zk)) &&& 63)) ^^^ (-1))) (by omega) wzg2 ⟨FN_c hM.1 hF2 hR2 hn2, fun zj hj => ?_, fun zj hj hb => ?_⟩
    · rw [hR2.2.2.1 29 (by decide) (by decide)]; exact hM.2.1 zj hj
    · rw [lb_clr z5 hj, Bool.and_eq_true] at hb
      have hold := hM.2.2 zj hj hb.1
      intro za zc ha hc hlt he
      rcases hlt with hlt | ⟨e1, e2⟩
      · exact hold za zc ha hc (Or.inl hlt) he
      · by_cases e3 : zc = zk
        · subst e1 e3
          have hb2 := hb.2
          rw [decide_eq_true he.symm] at hb2
          exact absurd hb2 (by decide)
        · exact hold za zc ha hc (Or.inr ⟨e1, by omega⟩) he
theorem lp_mixP_28 (E : ME) (h : AH) (zp zt : Nat) (zf : Nat → Int32) (hC : COz zf) (hp : zp < 256) (ht : zt < 256) {post : PO} (K : ∀ (zg : AH) (zy : Int64), WF zg → MXz zf (mxI zf zp zt zf 4) zp 4 0 zy (64) h zg → Ev E mX2_mixPanels (rmm 2 0 0) (QM E 0 0 post) 0 0 109 [some (.ref 25), some (.int (nI zp)), some (.int (nI zt)), some (.int (nI 4)), none, none, none, none] [] zg) : ∀ (zn zi : Nat) (zg : AH) (zy : Int64), zi + zn = 4 → WF zg → MXz zf (mxI zf zp zt zf zi) zp zi 0 zy (16 * zi) h zg → Ev E mX2_mixPanels (rmm 2 0 0) (QM E 0 0 post) 0 0 28 [some (.ref 25), some (.int (nI zp)), some (.int (nI zt)), some (.int (nI zi)), none, none, none, none] [] zg := by
  intro zn
  induction zn with
  | zero =>
    intro zi zg zy hz hw hM
    obtain rfl : 4 = zi := by omega
    refine ev_iload_n (pc := 28) dX2_mixPanels_28 rfl ?_
    refine ev_iconst (pc := 29) (v := 4) dX2_mixPanels_29 (by decide) ?_
    refine ev_icmp_ge (pc := 30) (tgt := 109) dX2_mixPanels_30 (by decide) (fun zc30 => ?_) (fun zc30 => absurd (by decide) zc30)
    exact K zg zy hw hM
  | succ zn ih =>
    intro zi zg zy hz hw hM
    have hi : zi < 4 := by omega
    refine ev_iload_n (pc := 28) dX2_mixPanels_28 rfl ?_
    refine ev_iconst (pc := 29) (v := 4) dX2_mixPanels_29 (by decide) ?_
    refine ev_icmp_ge (pc := 30) (tgt := 109) dX2_mixPanels_30 (by decide) (fun zc30 => absurd zc30 (nI_ge (a := zi) (b := 4) hi (by decide))) (fun zc30 => ?_)
    refine ev_iload_n (pc := 33) dX2_mixPanels_33 rfl ?_
    refine ev_iload_n (pc := 34) dX2_mixPanels_34 rfl ?_
    refine ev_callSv (S := []) (pc := 35) dX2_mixPanels_35 kX10_figure lX2_85 sX10_figure (cn_X10_fg E zg zp zi (by omega) (by omega)) rfl rfl (Nat.le_of_ble_eq_true rfl) ⟨Nat.le_of_ble_eq_true rfl, Nat.le_of_ble_eq_true rfl⟩ ⟨Nat.le_of_ble_eq_true rfl, Nat.le_of_ble_eq_true rfl⟩ ?_
    refine ev_istore (pc := 38) (L' := [some (.ref 25), some (.int (nI zp)), some (.int (nI zt)), some (.int (nI zi)), some (.int (nI (fg zp zi))), none, none, none]) dX2_mixPanels_38 (Nat.le_of_ble_eq_true rfl) rfl ?_
    refine ev_iload_n (pc := 40) dX2_mixPanels_40 rfl ?_
    refine ev_iload_n (pc := 41) dX2_mixPanels_41 rfl ?_
    refine ev_callSv (S := []) (pc := 42) dX2_mixPanels_42 kX10_figure lX2_85 sX10_figure (cn_X10_fg E zg zt zi (by omega) (by omega)) rfl rfl (Nat.le_of_ble_eq_true rfl) ⟨Nat.le_of_ble_eq_true rfl, Nat.le_of_ble_eq_true rfl⟩ ⟨Nat.le_of_ble_eq_true rfl, Nat.le_of_ble_eq_true rfl⟩ ?_
    refine ev_istore (pc := 45) (L' := [some (.ref 25), some (.int (nI zp)), some (.int (nI zt)), some (.int (nI zi)), some (.int (nI (fg zp zi))), some (.int (nI (fg zt zi))), none, none]) dX2_mixPanels_45 (Nat.le_of_ble_eq_true rfl) rfl ?_
    refine ev_iconst (pc := 47) (v := 0) dX2_mixPanels_47 (by decide) ?_
    refine ev_istore (pc := 48) (L' := [some (.ref 25), some (.int (nI zp)), some (.int (nI zt)), some (.int (nI zi)), some (.int (nI (fg zp zi))), some (.int (nI (fg zt zi))), some (.int 0), none]) dX2_mixPanels_48 (Nat.le_of_ble_eq_true rfl) rfl ?_
    refine lp_mixP_50 E h zp zt zi (16 * zi) zf (mxI zf zp zt zf zi) hC hp ht hi (fun zg2 zy2 wzg2 hM2 => ?_) 16 0 zg zy (by decide) hw hM
    refine ev_iinc (pc := 103) (v := nI (zi + 1)) (L' := [some (.ref 25), some (.int (nI zp)), some (.int (nI zt)), some (.int (nI (zi + 1))), some (.int (nI (fg zp zi))), some (.int (nI (fg zt zi))), some (.int (nI 16)), none]) dX2_mixPanels_103 rfl (nI_1 _) (Nat.le_of_ble_eq_true rfl) rfl ?_
    refine ev_goto (pc := 106) (tgt := 28) dX2_mixPanels_106 (by decide) ?_
    refine ev_less (L' := [some (.ref 25), some (.int (nI zp)), some (.int (nI zt)), some (.int (nI (zi + 1))), none, none, none, none]) (ls_keep (ls_keep (ls_keep (ls_keep (ls_drop (ls_drop (ls_drop (ls_keep (ls_nil _))))))))) ?_
    refine ih (zi + 1) zg2 zy2 (by omega) wzg2 ⟨?_, hM2.2.1, fun zj hj hb za zc ha hc hlt => ?_⟩
    · rw [mxI, show 16 * (zi + 1) = 16 * zi + 16 by omega]; exact hM2.1
    · rcases hlt with hlt | ⟨e1, e2⟩
      · rcases Nat.lt_or_ge za zi with z | z
        · exact hM2.2.2 zj hj hb za zc ha hc (Or.inl z)
        · exact hM2.2.2 zj hj hb za zc ha hc (Or.inr ⟨by omega, hc⟩)
      · omega
theorem unl_all : ∀ zp, zp < 256 → unl zp → ∀ zq, zq < 4 → ∃ za, za < 4 ∧ fg zp za = zq := by decide +kernel
theorem pn_all : ∀ zj, zj < 64 → ∃ zq, zq < 4 ∧ ∃ zc, zc < 16 ∧ pnN zq zc = zj := by decide +kernel
/-- the panels are mixed -/
def MIz (zf : Nat → Int32) (zp zt : Nat) (h g : AH) : Prop := FLz (mxI zf zp zt zf 4) 0 g ∧ g.1 = h.1 ∧ g.2.2.2 = h.2.2.2 ∧ (∀ zk, zk ≠ 25 → zk ≠ 26 → zk ≠ 29 → g.2.1 zk = h.2.1 zk) ∧ (∀ zk, zk ≠ 25 → zk ≠ 27 → g.2.2.1 zk = h.2.2.1 zk) ∧ (∀ zj, zj ≠ 6 → zj ≠ 7 → g.2.1 25 zj = h.2.1 25 zj) ∧ g.2.1 25 6 = 0 ∧ ∃ zn, zn ≤ 64 ∧ g.2.1 25 7 = h.2.1 25 7 + nI zn ∧ (zn = 0 → mxI zf zp zt zf 4 = zf)
theorem cn_X2_mixPanels (E : ME) (h : AH) (zp zt : Nat) (zf : Nat → Int32) (zx : Int64) (hw : WF h) (hF : FLz zf zx h) (hp : zp < 256) (ht : zt < 256) (hu : unl zp) : Con E mX2_mixPanels 2 0 0 [.ref 25, .int (nI zp), .int (nI zt)] h (fun r h' => r = none ∧ MIz zf zp zt h h') := by
  refine con_of2 (L := [some (.ref 25), some (.int (nI zp)), some (.int (nI zt)), none, none, none, none, none]) rfl (Nat.le_of_ble_eq_true rfl) rfl ?_
  refine ev_iconst (pc := 0) (v := 0) dX2_mixPanels_0 (by decide) ?_
  refine ev_istore_n (pc := 1) (L' := [some (.ref 25), some (.int (nI zp)), some (.int (nI zt)), some (.int 0), none, none, none, none]) dX2_mixPanels_1 (Nat.le_of_ble_eq_true rfl) rfl ?_
  refine ev_eqH (sI_id h 29).symm ?_
  refine lp_mixP_2 E h zp zt hw ?_ 64 0 (Nat.zero_add _)
  refine ev_nmH (fun zh ezh => ?_)
  have wzh : WF zh := by rw [ezh]; exact wf_sI hw
  have hFh : FLz zf zx zh := by rw [ezh]; exact hF
  have h29 : ∀ zj, zj < 64 → zh.2.1 29 zj = zf zj := fun zj hj => by
    rw [ezh]
    show cpF (h.2.1 26) _ 64 zj = _
    rw [cpF_at, if_pos hj]
    exact hF.1 zj hj
  refine ev_iconst (pc := 26) (v := 0) dX2_mixPanels_26 (by decide) ?_
  refine ev_istore_n (pc := 27) (L' := [some (.ref 25), some (.int (nI zp)), some (.int (nI zt)), some (.int 0), none, none, none, none]) dX2_mixPanels_27 (Nat.le_of_ble_eq_true rfl) rfl ?_
  refine ev_less (L' := [some (.ref 25), some (.int (nI zp)), some (.int (nI zt)), some (.int 0), none, none, none, none]) (ls_keep (ls_keep (ls_keep (ls_keep (ls_keep (ls_keep (ls_keep (ls_keep (ls_nil _))))))))) ?_
  refine lp_mixP_28 E zh zp zt zf hF.2.1 hp ht (fun zg zy wzg hM => ?_) 4 0 zh zx (by decide) wzh ⟨FN_0 hFh, h29, fun zj hj hb za zc ha hc hlt => by omega⟩
  refine ev_aload_n (pc := 109) dX2_mixPanels_109 rfl ?_
  refine ev_iconst (pc := 110) (v := 0) dX2_mixPanels_110 (by decide) ?_
  refine ev_putZ (pc := 111) dX2_mixPanels_111 fX2_56 rfl (wlt wzg (by decide)) (by decide) ?_
  refine ev_eqH (h' := sI zg 25 (upd (zg.2.1 25) 6 0)) (by rfl) ?_
  refine ev_ret (pc := 114) dX2_mixPanels_114 rfl ?_
  · have hy : zy = 0 := lb_ext (fun zj hj => by
      rw [lb_0]
      cases hb : lbt zy zj
      · rfl
      · obtain ⟨zq, hq, zc, hc, e⟩ := pn_all zj hj
        obtain ⟨za, ha, e2⟩ := unl_all zp hp hu zq hq
        exact absurd (by rw [e2]; exact e) (hM.2.2 zj hj hb za zc ha hc (Or.inl ha)))
    obtain ⟨n1, n2, zn, n3, n4, n5⟩ := hM.1
    rw [hy] at n1
    refine ⟨rfl, n1, n2.1.trans (by rw [ezh]; rfl), n2.2.1.trans (by rw [ezh]; rfl), fun zk a b c => ?_, fun zk a b => ?_, fun zj a b => ?_, rfl, zn, n3, ?_, n5⟩
    · refine (sI_ne _ _ a).trans ((n2.2.2.1 zk a b).trans ?_)
      rw [ezh]; exact sI_ne _ _ c
    · exact (n2.2.2.2.1 zk a b).trans (by rw [ezh]; rfl)
    · exact (pk_un a).trans ((n2.2.2.2.2 zj b).trans (by rw [ezh]; rfl))
    · exact n4.trans (by rw [ezh]; rfl)
theorem cn_X10_mix (E : ME) (h : AH) (zp0 zt0 : Int32) (zf : Nat → Int32) (zx : Int64) (hw : WF h) (hF : FLz zf zx h) : Con E mX10_mix 3 0 0 [.ref 0, .int zp0, .int zt0] h (fun r h' => r = some (.int (if (0 ≤ zp0 ∧ zp0 ≤ 255) ∧ unl (zp0).toNatClampNeg ∧ (0 ≤ zt0 ∧ zt0 ≤ 255) then 1 else -1)) ∧ ((0 ≤ zp0 ∧ zp0 ≤ 255) ∧ unl (zp0).toNatClampNeg ∧ (0 ≤ zt0 ∧ zt0 ≤ 255) → MIz zf zp0.toNatClampNeg zt0.toNatClampNeg h h') ∧ (¬ ((0 ≤ zp0 ∧ zp0 ≤ 255) ∧ unl (zp0).toNatClampNeg ∧ (0 ≤ zt0 ∧ zt0 ≤ 255)) → h' = h)) := by
  refine con_of2 (L := [some (.ref 0), some (.int zp0), some (.int zt0)]) rfl (Nat.le_of_ble_eq_true rfl) rfl ?_
  refine ev_iload_n (pc := 0) dX10_mix_0 rfl ?_
  refine ev_callSv (S := []) (pc := 1) dX10_mix_1 kX4_allUnlike lX10_347 sX4_allUnlike (cn_X4_allUnlike E h zp0 hw) rfl rfl (Nat.le_of_ble_eq_true rfl) ⟨Nat.le_of_ble_eq_true rfl, Nat.le_of_ble_eq_true rfl⟩ ⟨Nat.le_of_ble_eq_true rfl, Nat.le_of_ble_eq_true rfl⟩ ?_
  refine ev_if_eq (pc := 4) (tgt := 18) dX10_mix_4 (by decide) (fun zc4 => ?_) (fun zc4 => ?_)
  · -- eq at 4: taken
    refine ev_iconst (pc := 18) (v := (-1)) dX10_mix_18 (by decide) ?_
    refine ev_iret (pc := 19) dX10_mix_19 rfl ?_ ?_
    · rfl
    · have hC : ¬ ((0 ≤ zp0 ∧ zp0 ≤ 255) ∧ unl (zp0).toNatClampNeg ∧ (0 ≤ zt0 ∧ zt0 ≤ 255)) := fun z => bI_0.mp zc4 ⟨z.1, z.2.1⟩
      rw [if_neg hC]
      exact ⟨rfl, fun z => absurd z hC, fun _ => rfl⟩
  · -- eq at 4: not taken
    refine ev_iload_n (pc := 7) dX10_mix_7 rfl ?_
    refine ev_iconst (pc := 8) (v := 0) dX10_mix_8 (by decide) ?_
    refine ev_sipush (pc := 9) (v := 255) dX10_mix_9 (by decide) ?_
    refine ev_callSv (S := []) (pc := 12) dX10_mix_12 kX10_within lX10_123 sX10_within (cn_X10_within E h zt0 0 255) rfl rfl (Nat.le_of_ble_eq_true rfl) ⟨Nat.le_of_ble_eq_true rfl, Nat.le_of_ble_eq_true rfl⟩ ⟨Nat.le_of_ble_eq_true rfl, Nat.le_of_ble_eq_true rfl⟩ ?_
    refine ev_if_ne (pc := 15) (tgt := 20) dX10_mix_15 (by decide) (fun zc15 => ?_) (fun zc15 => ?_)
    · -- ne at 15: taken
      obtain ⟨zp, hp, rfl⟩ := vp_in_of (vp_sm (N := 256) (bI_n0.mp zc4).1.1 (bI_n0.mp zc4).1.2 (by decide) (by decide)) (by decide)
      obtain ⟨zt, ht, rfl⟩ := vp_in_of (vp_sm (N := 256) (bI_n0.mp zc15).1 (bI_n0.mp zc15).2 (by decide) (by decide)) (by decide)
      have hu : unl zp := by have z9 := (bI_n0.mp zc4).2; rwa [nI_clamp (by omega)] at z9
      refine ev_aload_n (pc := 20) dX10_mix_20 rfl ?_
      refine ev_getR (pc := 21) (q := 25) dX10_mix_21 fX10_45 rfl (wlt hw (by decide)) (wr hw rfl) ?_
      refine ev_iload_n (pc := 24) dX10_mix_24 rfl ?_
      refine ev_iload_n (pc := 25) dX10_mix_25 rfl ?_
      refine ev_callV (S := []) (pc := 26) dX10_mix_26 kX2_mixPanels lX10_350 vX2_mixPanels (cn_X2_mixPanels E h zp zt zf zx hw hF hp ht hu) rfl rfl (wlt hw (by decide)) rfl rfl (Nat.le_of_ble_eq_true rfl) ⟨Nat.le_of_ble_eq_true rfl, Nat.le_of_ble_eq_true rfl⟩ ⟨Nat.le_of_ble_eq_true rfl, Nat.le_of_ble_eq_true rfl⟩ ?_
      rintro _ zg ⟨rfl, hM⟩
      refine ev_iconst (pc := 29) (v := 1) dX10_mix_29 (by decide) ?_
      refine ev_iret (pc := 30) dX10_mix_30 rfl ?_ ?_
      · rfl
      · have hC : (0 ≤ nI zp ∧ nI zp ≤ 255) ∧ unl (nI zp).toNatClampNeg ∧ (0 ≤ nI zt ∧ nI zt ≤ 255) := ⟨(bI_n0.mp zc4).1, (bI_n0.mp zc4).2, bI_n0.mp zc15⟩
        rw [if_pos hC, nI_clamp (n := zp) (by omega), nI_clamp (n := zt) (by omega)]
        exact ⟨rfl, fun _ => hM, fun z => absurd ⟨hC.1, hu, hC.2.2⟩ z⟩
    · -- ne at 15: not taken
      refine ev_iconst (pc := 18) (v := (-1)) dX10_mix_18 (by decide) ?_
      refine ev_iret (pc := 19) dX10_mix_19 rfl ?_ ?_
      · rfl
      · have hC : ¬ ((0 ≤ zp0 ∧ zp0 ≤ 255) ∧ unl (zp0).toNatClampNeg ∧ (0 ≤ zt0 ∧ zt0 ≤ 255)) := fun z => bI_0.mp zc15 z.2.2
        rw [if_neg hC]
        exact ⟨rfl, fun z => absurd z hC, fun _ => rfl⟩
