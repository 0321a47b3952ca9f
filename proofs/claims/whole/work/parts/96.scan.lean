/-- a byte as the class keeps it -/
def sbI (zc : Nat) : Int32 := (nI zc).toInt8.toInt32
theorem sb_all : ∀ zc : Nat, zc < 256 → (sbI zc = 32 ↔ zc = 32) ∧ kdI (sbI zc) = (if isL zc then 2 else if isD zc then 3 else if zc = 59 then 4 else 0) := by decide +kernel
theorem sb_asc : ∀ zc : Nat, zc < 128 → sbI zc = nI zc := by decide +kernel
/-- the class's tape -/
def TCz (h : AH) (zb : Nat → Nat) (zn : Nat) : Prop := h.2.1 1 1 = nI zn ∧ zn ≤ 400 ∧ ∀ zk, zk < zn → h.2.1 2 zk = sbI (zb zk) ∧ zb zk < 256
theorem kd_L {zc : Nat} (h : zc < 256) : kdI (sbI zc) = 2 ↔ isL zc = true := by
  rw [(sb_all zc h).2]
  by_cases h1 : isL zc = true
  · rw [if_pos h1]; exact ⟨fun _ => h1, fun _ => rfl⟩
  · rw [if_neg h1]
    refine ⟨fun z => ?_, fun z => absurd z h1⟩
    repeat' split at z
    all_goals exact absurd z (by decide)
theorem kd_D {zc : Nat} (h : zc < 256) : kdI (sbI zc) = 3 ↔ isD zc = true := by
  rw [(sb_all zc h).2]
  have hx : isD zc = true → ¬ isL zc = true := by
    unfold isL isD
    simp only [decide_eq_true_iff]
    omega
  by_cases h1 : isD zc = true
  · rw [if_neg (hx h1), if_pos h1]; exact ⟨fun _ => h1, fun _ => rfl⟩
  · refine ⟨fun z => ?_, fun z => absurd z h1⟩
    by_cases h2 : isL zc = true
    · rw [if_pos h2] at z; exact absurd z (by decide)
    · rw [if_neg h2, if_neg h1] at z
      split at z
      all_goals exact absurd z (by decide)
theorem rn_0 {zb : Nat → Nat} {zn zp : Nat} {zP : Nat → Bool} (h : zn ≤ zp) : rnN zb zn zP zp = zp := rn_out (fun z => by omega)
theorem lp_scan_0 (E : ME) (h : AH) (zb : Nat → Nat) (zn : Nat) (zf : Nat → Int32) (hw : WF h) (hT : TCz h zb zn) (hf : zf 1 = nI zn) {post : PO} : ∀ zq zp : Nat, zp + zq = zn → Ev E mX9_scan (rmm 1 0 0) (QM E 0 0 post) 0 0 38 [some (.ref 1), none, none] [] (sI h 1 (upd zf 3 (nI (rnN zb zn isW zp)))) → Ev E mX9_scan (rmm 1 0 0) (QM E 0 0 post) 0 0 0 [some (.ref 1), none, none] [] (sI h 1 (upd zf 3 (nI zp))) := by
  have zn4 := hT.2.1
  intro zq
  induction zq with
  | zero =>
    intro zp hp K
    rw [rn_0 (by omega)] at K
    refine ev_aload_n (pc := 0) dX9_scan_0 rfl ?_
    refine ev_getI (pc := 1) dX9_scan_1 fX9_20 rfl (wlt (wf_sI hw) (by decide)) ?_
    refine ev_eqI (e' := nI zp) (by rfl) ?_
    refine ev_aload_n (pc := 4) dX9_scan_4 rfl ?_
    refine ev_getI (pc := 5) dX9_scan_5 fX9_13 rfl (wlt (wf_sI hw) (by decide)) ?_
    refine ev_eqI (e' := zf 1) (by rfl) ?_
    refine ev_eqI (e' := nI zn) hf ?_
    refine ev_icmp_ge (pc := 8) (tgt := 38) dX9_scan_8 (by decide) (fun zc8 => ?_) (fun zc8 => absurd (nI_le (by omega) (by omega)) zc8)
    exact K
  | succ zq ih =>
    intro zp hp K
    have hlt : zp < zn := by omega
    refine ev_aload_n (pc := 0) dX9_scan_0 rfl ?_
    refine ev_getI (pc := 1) dX9_scan_1 fX9_20 rfl (wlt (wf_sI hw) (by decide)) ?_
    refine ev_eqI (e' := nI zp) (by rfl) ?_
    refine ev_aload_n (pc := 4) dX9_scan_4 rfl ?_
    refine ev_getI (pc := 5) dX9_scan_5 fX9_13 rfl (wlt (wf_sI hw) (by decide)) ?_
    refine ev_eqI (e' := zf 1) (by rfl) ?_
    refine ev_eqI (e' := nI zn) hf ?_
    refine ev_icmp_ge (pc := 8) (tgt := 38) dX9_scan_8 (by decide) (fun zc8 => absurd zc8 (nI_ge hlt (by omega))) (fun zc8 => ?_)
    refine ev_aload_n (pc := 11) dX9_scan_11 rfl ?_
    refine ev_getR (pc := 12) (q := 2) dX9_scan_12 fX9_9 rfl (wlt (wf_sI hw) (by decide)) (wr (wf_sI hw) rfl) ?_
    refine ev_aload_n (pc := 15) dX9_scan_15 rfl ?_
    refine ev_getI (pc := 16) dX9_scan_16 fX9_20 rfl (wlt (wf_sI hw) (by decide)) ?_
    refine ev_eqI (e' := nI zp) (by rfl) ?_
    refine ev_bald (pc := 19) dX9_scan_19 rfl (wlt (wf_sI hw) (by decide)) (vp_in_nI (by omega) (by decide)) ?_
    refine ev_eqI (e' := h.2.1 2 zp) (by rw [show Int32.toNatClampNeg (nI zp) = zp from nI_clamp (by omega)] <;> rfl) ?_
    refine ev_eqI (e' := sbI (zb zp)) (hT.2.2 zp hlt).1 ?_
    refine ev_bipush (pc := 20) (v := 32) dX9_scan_20 (by decide) ?_
    refine ev_icmp_ne (pc := 22) (tgt := 38) dX9_scan_22 (by decide) (fun zc22 => ?_) (fun zc22 => ?_)
    · -- ne at 22: taken
      rw [rn_out (fun z => zc22 ((sb_all _ (hT.2.2 zp hlt).2).1.mpr (of_decide_eq_true z.2)))] at K
      exact K
    · -- ne at 22: not taken
      refine ev_aload_n (pc := 25) dX9_scan_25 rfl ?_
      refine ev_dup (pc := 26) dX9_scan_26 rfl ?_
      refine ev_getI (pc := 27) dX9_scan_27 fX9_20 rfl (wlt (wf_sI hw) (by decide)) ?_
      refine ev_eqI (e' := nI zp) (by rfl) ?_
      refine ev_iconst (pc := 30) (v := 1) dX9_scan_30 (by decide) ?_
      refine ev_iadd (pc := 31) dX9_scan_31 ?_
      refine ev_eqI (e' := nI (zp + 1)) (nI_add zp 1) ?_
      refine ev_putI (pc := 32) dX9_scan_32 fX9_20 rfl (wlt (wf_sI hw) (by decide)) ?_
      refine ev_eqH (h' := sI h 1 (upd zf 3 (nI (zp + 1)))) (by refine (sI_sI _ _ _ _).trans ?_; refine congrArg _ (funext fun zj => ?_); simp only [upd, vp_updL, sI_at]; (repeat' split) <;> first | rfl | (exfalso; omega)) ?_
      refine ev_goto (pc := 35) (tgt := 0) dX9_scan_35 (by decide) ?_
      rw [rn_in hlt (decide_eq_true ((sb_all _ (hT.2.2 zp hlt).2).1.mp zc22))] at K
      exact ih (zp + 1) (by omega) K
theorem lp_scan_L (E : ME) (h : AH) (zb : Nat → Nat) (zn : Nat) (zf : Nat → Int32) (zs : Nat) (hw : WF h) (hT : TCz h zb zn) (hf : zf 1 = nI zn) {post : PO} : ∀ zq zp : Nat, zp + zq = zn → Ev E mX9_scan (rmm 1 0 0) (QM E 0 0 post) 0 0 142 [some (.ref 1), some (.int 2), some (.int 1)] [] (sI h 1 (upd (upd zf 3 (nI (rnN zb zn isL zp))) 2 (nI zs))) → Ev E mX9_scan (rmm 1 0 0) (QM E 0 0 post) 0 0 98 [some (.ref 1), some (.int 2), some (.int 1)] [] (sI h 1 (upd (upd zf 3 (nI zp)) 2 (nI zs))) := by
  have zn4 := hT.2.1
  intro zq
  induction zq with
  | zero =>
    intro zp hp K
    rw [rn_0 (by omega)] at K
    refine ev_iload_n (pc := 98) dX9_scan_98 rfl ?_
    refine ev_if_eq (pc := 99) (tgt := 142) dX9_scan_99 (by decide) (fun zc99 => absurd zc99 (by decide)) (fun zc99 => ?_)
    refine ev_aload_n (pc := 102) dX9_scan_102 rfl ?_
    refine ev_getI (pc := 103) dX9_scan_103 fX9_20 rfl (wlt (wf_sI hw) (by decide)) ?_
    refine ev_eqI (e' := nI zp) (by rfl) ?_
    refine ev_aload_n (pc := 106) dX9_scan_106 rfl ?_
    refine ev_getI (pc := 107) dX9_scan_107 fX9_13 rfl (wlt (wf_sI hw) (by decide)) ?_
    refine ev_eqI (e' := zf 1) (by rfl) ?_
    refine ev_eqI (e' := nI zn) hf ?_
    refine ev_icmp_ge (pc := 110) (tgt := 142) dX9_scan_110 (by decide) (fun zc110 => ?_) (fun zc110 => absurd (nI_le (by omega) (by omega)) zc110)
    exact K
  | succ zq ih =>
    intro zp hp K
    have hlt : zp < zn := by omega
    refine ev_iload_n (pc := 98) dX9_scan_98 rfl ?_
    refine ev_if_eq (pc := 99) (tgt := 142) dX9_scan_99 (by decide) (fun zc99 => absurd zc99 (by decide)) (fun zc99 => ?_)
    refine ev_aload_n (pc := 102) dX9_scan_102 rfl ?_
    refine ev_getI (pc := 103) dX9_scan_103 fX9_20 rfl (wlt (wf_sI hw) (by decide)) ?_
    refine ev_eqI (e' := nI zp) (by rfl) ?_
    refine ev_aload_n (pc := 106) dX9_scan_106 rfl ?_
    refine ev_getI (pc := 107) dX9_scan_107 fX9_13 rfl (wlt (wf_sI hw) (by decide)) ?_
    refine ev_eqI (e' := zf 1) (by rfl) ?_
    refine ev_eqI (e' := nI zn) hf ?_
    refine ev_icmp_ge (pc := 110) (tgt := 142) dX9_scan_110 (by decide) (fun zc110 => absurd zc110 (nI_ge hlt (by omega))) (fun zc110 => ?_)
    refine ev_aload_n (pc := 113) dX9_scan_113 rfl ?_
    refine ev_getR (pc := 114) (q := 2) dX9_scan_114 fX9_9 rfl (wlt (wf_sI hw) (by decide)) (wr (wf_sI hw) rfl) ?_
    refine ev_aload_n (pc := 117) dX9_scan_117 rfl ?_
    refine ev_getI (pc := 118) dX9_scan_118 fX9_20 rfl (wlt (wf_sI hw) (by decide)) ?_
    refine ev_eqI (e' := nI zp) (by rfl) ?_
    refine ev_bald (pc := 121) dX9_scan_121 rfl (wlt (wf_sI hw) (by decide)) (vp_in_nI (by omega) (by decide)) ?_
    refine ev_eqI (e' := h.2.1 2 zp) (by rw [show Int32.toNatClampNeg (nI zp) = zp from nI_clamp (by omega)] <;> rfl) ?_
    refine ev_eqI (e' := sbI (zb zp)) (hT.2.2 zp hlt).1 ?_
    refine ev_callSv (S := []) (pc := 122) dX9_scan_122 kX9_kindOf lX9_23 sX9_kindOf (cn_X9_kindOf E (sI h 1 (upd (upd zf 3 (nI zp)) 2 (nI zs))) (sbI (zb zp))) rfl rfl (Nat.le_of_ble_eq_true rfl) ⟨Nat.le_of_ble_eq_true rfl, Nat.le_of_ble_eq_true rfl⟩ ⟨Nat.le_of_ble_eq_true rfl, Nat.le_of_ble_eq_true rfl⟩ ?_
    refine ev_iload_n (pc := 125) dX9_scan_125 rfl ?_
    refine ev_icmp_ne (pc := 126) (tgt := 142) dX9_scan_126 (by decide) (fun zc126 => ?_) (fun zc126 => ?_)
    · -- ne at 126: taken
      rw [rn_out (fun z => zc126 ((kd_L (hT.2.2 zp hlt).2).mpr z.2))] at K
      exact K
    · -- ne at 126: not taken
      refine ev_aload_n (pc := 129) dX9_scan_129 rfl ?_
      refine ev_dup (pc := 130) dX9_scan_130 rfl ?_
      refine ev_getI (pc := 131) dX9_scan_131 fX9_20 rfl (wlt (wf_sI hw) (by decide)) ?_
      refine ev_eqI (e' := nI zp) (by rfl) ?_
      refine ev_iconst (pc := 134) (v := 1) dX9_scan_134 (by decide) ?_
      refine ev_iadd (pc := 135) dX9_scan_135 ?_
      refine ev_eqI (e' := nI (zp + 1)) (nI_add zp 1) ?_
      refine ev_putI (pc := 136) dX9_scan_136 fX9_20 rfl (wlt (wf_sI hw) (by decide)) ?_
      refine ev_eqH (h' := sI h 1 (upd (upd zf 3 (nI (zp + 1))) 2 (nI zs))) (by refine (sI_sI _ _ _ _).trans ?_; refine congrArg _ (funext fun zj => ?_); simp only [upd, vp_updL, sI_at]; (repeat' split) <;> first | rfl | (exfalso; omega)) ?_
      refine ev_goto (pc := 139) (tgt := 98) dX9_scan_139 (by decide) ?_
      rw [rn_in hlt ((kd_L (hT.2.2 zp hlt).2).mp zc126)] at K
      exact ih (zp + 1) (by omega) K
theorem lp_scan_D (E : ME) (h : AH) (zb : Nat → Nat) (zn : Nat) (zf : Nat → Int32) (zs : Nat) (hw : WF h) (hT : TCz h zb zn) (hf : zf 1 = nI zn) {post : PO} : ∀ zq zp : Nat, zp + zq = zn → Ev E mX9_scan (rmm 1 0 0) (QM E 0 0 post) 0 0 142 [some (.ref 1), some (.int 3), some (.int 1)] [] (sI h 1 (upd (upd zf 3 (nI (rnN zb zn isD zp))) 2 (nI zs))) → Ev E mX9_scan (rmm 1 0 0) (QM E 0 0 post) 0 0 98 [some (.ref 1), some (.int 3), some (.int 1)] [] (sI h 1 (upd (upd zf 3 (nI zp)) 2 (nI zs))) := by
  have zn4 := hT.2.1
  intro zq
  induction zq with
  | zero =>
    intro zp hp K
    rw [rn_0 (by omega)] at K
    refine ev_iload_n (pc := 98) dX9_scan_98 rfl ?_
    refine ev_if_eq (pc := 99) (tgt := 142) dX9_scan_99 (by decide) (fun zc99 => absurd zc99 (by decide)) (fun zc99 => ?_)
    refine ev_aload_n (pc := 102) dX9_scan_102 rfl ?_
    refine ev_getI (pc := 103) dX9_scan_103 fX9_20 rfl (wlt (wf_sI hw) (by decide)) ?_
    refine ev_eqI (e' := nI zp) (by rfl) ?_
    refine ev_aload_n (pc := 106) dX9_scan_106 rfl ?_
    refine ev_getI (pc := 107) dX9_scan_107 fX9_13 rfl (wlt (wf_sI hw) (by decide)) ?_
    refine ev_eqI (e' := zf 1) (by rfl) ?_
    refine ev_eqI (e' := nI zn) hf ?_
    refine ev_icmp_ge (pc := 110) (tgt := 142) dX9_scan_110 (by decide) (fun zc110 => ?_) (fun zc110 => absurd (nI_le (by omega) (by omega)) zc110)
    exact K
  | succ zq ih =>
    intro zp hp K
    have hlt : zp < zn := by omega
    refine ev_iload_n (pc := 98) dX9_scan_98 rfl ?_
    refine ev_if_eq (pc := 99) (tgt := 142) dX9_scan_99 (by decide) (fun zc99 => absurd zc99 (by decide)) (fun zc99 => ?_)
    refine ev_aload_n (pc := 102) dX9_scan_102 rfl ?_
    refine ev_getI (pc := 103) dX9_scan_103 fX9_20 rfl (wlt (wf_sI hw) (by decide)) ?_
    refine ev_eqI (e' := nI zp) (by rfl) ?_
    refine ev_aload_n (pc := 106) dX9_scan_106 rfl ?_
    refine ev_getI (pc := 107) dX9_scan_107 fX9_13 rfl (wlt (wf_sI hw) (by decide)) ?_
    refine ev_eqI (e' := zf 1) (by rfl) ?_
    refine ev_eqI (e' := nI zn) hf ?_
    refine ev_icmp_ge (pc := 110) (tgt := 142) dX9_scan_110 (by decide) (fun zc110 => absurd zc110 (nI_ge hlt (by omega))) (fun zc110 => ?_)
    refine ev_aload_n (pc := 113) dX9_scan_113 rfl ?_
    refine ev_getR (pc := 114) (q := 2) dX9_scan_114 fX9_9 rfl (wlt (wf_sI hw) (by decide)) (wr (wf_sI hw) rfl) ?_
    refine ev_aload_n (pc := 117) dX9_scan_117 rfl ?_
    refine ev_getI (pc := 118) dX9_scan_118 fX9_20 rfl (wlt (wf_sI hw) (by decide)) ?_
    refine ev_eqI (e' := nI zp) (by rfl) ?_
    refine ev_bald (pc := 121) dX9_scan_121 rfl (wlt (wf_sI hw) (by decide)) (vp_in_nI (by omega) (by decide)) ?_
    refine ev_eqI (e' := h.2.1 2 zp) (by rw [show Int32.toNatClampNeg (nI zp) = zp from nI_clamp (by omega)] <;> rfl) ?_
    refine ev_eqI (e' := sbI (zb zp)) (hT.2.2 zp hlt).1 ?_
    refine ev_callSv (S := []) (pc := 122) dX9_scan_122 kX9_kindOf lX9_23 sX9_kindOf (cn_X9_kindOf E (sI h 1 (upd (upd zf 3 (nI zp)) 2 (nI zs))) (sbI (zb zp))) rfl rfl (Nat.le_of_ble_eq_true rfl) ⟨Nat.le_of_ble_eq_true rfl, Nat.le_of_ble_eq_true rfl⟩ ⟨Nat.le_of_ble_eq_true rfl, Nat.le_of_ble_eq_true rfl⟩ ?_
    refine ev_iload_n (pc := 125) dX9_scan_125 rfl ?_
    refine ev_icmp_ne (pc := 126) (tgt := 142) dX9_scan_126 (by decide) (fun zc126 => ?_) (fun zc126 => ?_)
    · -- ne at 126: taken
      rw [rn_out (fun z => zc126 ((kd_D (hT.2.2 zp hlt).2).mpr z.2))] at K
      exact K
    · -- ne at 126: not taken
      refine ev_aload_n (pc := 129) dX9_scan_129 rfl ?_
      refine ev_dup (pc := 130) dX9_scan_130 rfl ?_
      refine ev_getI (pc := 131) dX9_scan_131 fX9_20 rfl (wlt (wf_sI hw) (by decide)) ?_
      refine ev_eqI (e' := nI zp) (by rfl) ?_
      refine ev_iconst (pc := 134) (v := 1) dX9_scan_134 (by decide) ?_
      refine ev_iadd (pc := 135) dX9_scan_135 ?_
      refine ev_eqI (e' := nI (zp + 1)) (nI_add zp 1) ?_
      refine ev_putI (pc := 136) dX9_scan_136 fX9_20 rfl (wlt (wf_sI hw) (by decide)) ?_
      refine ev_eqH (h' := sI h 1 (upd (upd zf 3 (nI (zp + 1))) 2 (nI zs))) (by refine (sI_sI _ _ _ _).trans ?_; refine congrArg _ (funext fun zj => ?_); simp only [upd, vp_updL, sI_at]; (repeat' split) <;> first | rfl | (exfalso; omega)) ?_
      refine ev_goto (pc := 139) (tgt := 98) dX9_scan_139 (by decide) ?_
      rw [rn_in hlt ((kd_D (hT.2.2 zp hlt).2).mp zc126)] at K
      exact ih (zp + 1) (by omega) K
theorem sc_tail_L (E : ME) (h : AH) (zb : Nat → Nat) (zn : Nat) (zf : Nat → Int32) (zq zs : Nat) (hw : WF h) (hT : TCz h zb zn) (hf : zf 1 = nI zn) (hq : zq ≤ zn) (hs : tS zb zn zq = zs) (hlt : zs < zn) (h1 : isL (zb zs) = true) : Ev E mX9_scan (rmm 1 0 0) (QM E 0 0 (fun r h' => r = some (.int (nI (tK zb zn zq))) ∧ h' = sI h 1 (upd (upd zf 3 (nI (tE zb zn zq))) 2 (nI (tS zb zn zq))))) 0 0 59 [some (.ref 1), none, none] [] (sI h 1 (upd (upd zf 3 (nI zs)) 2 (nI zs))) := by
  have zn4 := hT.2.1
  have h256 := (hT.2.2 zs hlt).2
  have hk : kdI (sbI (zb zs)) = 2 := (kd_L h256).mpr h1
  have zt := tk_nm (zb := zb) (zn := zn) (zp := zq) (by rw [hs]; exact hlt) (by rw [hs]; exact h1)
  rw [hs] at zt
  have zE := (tE_ok zb hq).2.1
  have zEs := (tE_ok zb hq).1
  rw [hs] at zEs
  refine ev_aload_n (pc := 59) dX9_scan_59 rfl ?_
  refine ev_getR (pc := 60) (q := 2) dX9_scan_60 fX9_9 rfl (wlt (wf_sI hw) (by decide)) (wr (wf_sI hw) rfl) ?_
  refine ev_aload_n (pc := 63) dX9_scan_63 rfl ?_
  refine ev_getI (pc := 64) dX9_scan_64 fX9_20 rfl (wlt (wf_sI hw) (by decide)) ?_
  refine ev_eqI (e' := nI zs) (by rfl) ?_
  refine ev_bald (pc := 67) dX9_scan_67 rfl (wlt (wf_sI hw) (by decide)) (vp_in_nI (by omega) (by decide)) ?_
  refine ev_eqI (e' := h.2.1 2 zs) (by rw [show Int32.toNatClampNeg (nI zs) = zs from nI_clamp (by omega)] <;> rfl) ?_
  refine ev_eqI (e' := sbI (zb zs)) (hT.2.2 zs hlt).1 ?_
  refine ev_callSv (S := []) (pc := 68) dX9_scan_68 kX9_kindOf lX9_23 sX9_kindOf (cn_X9_kindOf E (sI h 1 (upd (upd zf 3 (nI zs)) 2 (nI zs))) (sbI (zb zs))) rfl rfl (Nat.le_of_ble_eq_true rfl) ⟨Nat.le_of_ble_eq_true rfl, Nat.le_of_ble_eq_true rfl⟩ ⟨Nat.le_of_ble_eq_true rfl, Nat.le_of_ble_eq_true rfl⟩ ?_
  refine ev_eqI (e' := 2) hk ?_
  refine ev_istore_n (pc := 71) (L' := [some (.ref 1), some (.int 2), none]) dX9_scan_71 (Nat.le_of_ble_eq_true rfl) rfl ?_
  refine ev_aload_n (pc := 72) dX9_scan_72 rfl ?_
  refine ev_dup (pc := 73) dX9_scan_73 rfl ?_
  refine ev_getI (pc := 74) dX9_scan_74 fX9_20 rfl (wlt (wf_sI hw) (by decide)) ?_
  refine ev_eqI (e' := nI zs) (by rfl) ?_
  refine ev_iconst (pc := 77) (v := 1) dX9_scan_77 (by decide) ?_
  refine ev_iadd (pc := 78) dX9_scan_78 ?_
  refine ev_eqI (e' := nI (zs + 1)) (nI_add zs 1) ?_
  refine ev_putI (pc := 79) dX9_scan_79 fX9_20 rfl (wlt (wf_sI hw) (by decide)) ?_
  refine ev_eqH (h' := sI h 1 (upd (upd zf 3 (nI (zs + 1))) 2 (nI zs))) (by refine (sI_sI _ _ _ _).trans ?_; refine congrArg _ (funext fun zj => ?_); simp only [upd, vp_updL, sI_at]; (repeat' split) <;> first | rfl | (exfalso; omega)) ?_
  refine ev_iload_n (pc := 82) dX9_scan_82 rfl ?_
  refine ev_iconst (pc := 83) (v := 2) dX9_scan_83 (by decide) ?_
  refine ev_icmp_eq (pc := 84) (tgt := 92) dX9_scan_84 (by decide) (fun zc84 => ?_) (fun zc84 => absurd rfl zc84)
  refine ev_iconst (pc := 92) (v := 1) dX9_scan_92 (by decide) ?_
  refine ev_goto (pc := 93) (tgt := 97) dX9_scan_93 (by decide) ?_
  refine ev_istore_n (pc := 97) (L' := [some (.ref 1), some (.int 2), some (.int 1)]) dX9_scan_97 (Nat.le_of_ble_eq_true rfl) rfl ?_
  refine lp_scan_L E h zb zn zf zs hw hT hf (zn - (zs + 1)) (zs + 1) (by omega) ?_
  refine ev_iload_n (pc := 142) dX9_scan_142 rfl ?_
  refine ev_iconst (pc := 143) (v := 3) dX9_scan_143 (by decide) ?_
  refine ev_icmp_ne (pc := 144) (tgt := 164) dX9_scan_144 (by decide) (fun zc144 => ?_) (fun zc144 => absurd zc144 (by decide))
  refine ev_iload_n (pc := 164) dX9_scan_164 rfl ?_
  refine ev_iret (pc := 165) dX9_scan_165 rfl ?_ ?_
  · rfl
  · rw [hs, zt.1, zt.2, rn_in hlt h1]
    exact ⟨rfl, rfl⟩
theorem sc_tail_D (E : ME) (h : AH) (zb : Nat → Nat) (zn : Nat) (zf : Nat → Int32) (zq zs : Nat) (hw : WF h) (hT : TCz h zb zn) (hf : zf 1 = nI zn) (hq : zq ≤ zn) (hs : tS zb zn zq = zs) (hlt : zs < zn) (h0 : ¬ isL (zb zs) = true) (h1 : isD (zb zs) = true) : Ev E mX9_scan (rmm 1 0 0) (QM E 0 0 (fun r h' => r = some (.int (nI (tK zb zn zq))) ∧ h' = sI h 1 (upd (upd zf 3 (nI (tE zb zn zq))) 2 (nI (tS zb zn zq))))) 0 0 59 [some (.ref 1), none, none] [] (sI h 1 (upd (upd zf 3 (nI zs)) 2 (nI zs))) := by
  have zn4 := hT.2.1
  have h256 := (hT.2.2 zs hlt).2
  have hk : kdI (sbI (zb zs)) = 3 := (kd_D h256).mpr h1
  have zt := tk_nb (zb := zb) (zn := zn) (zp := zq) (by rw [hs]; exact hlt) (by rw [hs]; exact h0) (by rw [hs]; exact h1)
  rw [hs] at zt
  have zE := (tE_ok zb hq).2.1
  have zEs := (tE_ok zb hq).1
  rw [hs] at zEs
  have ze : tE zb zn zq = rnN zb zn isD (zs + 1) := by rw [zt.2, rn_in hlt h1]
  refine ev_aload_n (pc := 59) dX9_scan_59 rfl ?_
  refine ev_getR (pc := 60) (q := 2) dX9_scan_60 fX9_9 rfl (wlt (wf_sI hw) (by decide)) (wr (wf_sI hw) rfl) ?_
  refine ev_aload_n (pc := 63) dX9_scan_63 rfl ?_
  refine ev_getI (pc := 64) dX9_scan_64 fX9_20 rfl (wlt (wf_sI hw) (by decide)) ?_
  refine ev_eqI (e' := nI zs) (by rfl) ?_
  refine ev_bald (pc := 67) dX9_scan_67 rfl (wlt (wf_sI hw) (by decide)) (vp_in_nI (by omega) (by decide)) ?_
  refine ev_eqI (e' := h.2.1 2 zs) (by rw [show Int32.toNatClampNeg (nI zs) = zs from nI_clamp (by omega)] <;> rfl) ?_
  refine ev_eqI (e' := sbI (zb zs)) (hT.2.2 zs hlt).1 ?_
  refine ev_callSv (S := []) (pc := 68) dX9_scan_68 kX9_kindOf lX9_23 sX9_kindOf (cn_X9_kindOf E (sI h 1 (upd (upd zf 3 (nI zs)) 2 (nI zs))) (sbI (zb zs))) rfl rfl (Nat.le_of_ble_eq_true rfl) ⟨Nat.le_of_ble_eq_true rfl, Nat.le_of_ble_eq_true rfl⟩ ⟨Nat.le_of_ble_eq_true rfl, Nat.le_of_ble_eq_true rfl⟩ ?_
  refine ev_eqI (e' := 3) hk ?_
  refine ev_istore_n (pc := 71) (L' := [some (.ref 1), some (.int 3), none]) dX9_scan_71 (Nat.le_of_ble_eq_true rfl) rfl ?_
  refine ev_aload_n (pc := 72) dX9_scan_72 rfl ?_
  refine ev_dup (pc := 73) dX9_scan_73 rfl ?_
  refine ev_getI (pc := 74) dX9_scan_74 fX9_20 rfl (wlt (wf_sI hw) (by decide)) ?_
  refine ev_eqI (e' := nI zs) (by rfl) ?_
  refine ev_iconst (pc := 77) (v := 1) dX9_scan_77 (by decide) ?_
  refine ev_iadd (pc := 78) dX9_scan_78 ?_
  refine ev_eqI (e' := nI (zs + 1)) (nI_add zs 1) ?_
  refine ev_putI (pc := 79) dX9_scan_79 fX9_20 rfl (wlt (wf_sI hw) (by decide)) ?_
  refine ev_eqH (h' := sI h 1 (upd (upd zf 3 (nI (zs + 1))) 2 (nI zs))) (by refine (sI_sI _ _ _ _).trans ?_; refine congrArg _ (funext fun zj => ?_); simp only [upd, vp_updL, sI_at]; (repeat' split) <;> first | rfl | (exfalso; omega)) ?_
  refine ev_iload_n (pc := 82) dX9_scan_82 rfl ?_
  refine ev_iconst (pc := 83) (v := 2) dX9_scan_83 (by decide) ?_
  refine ev_icmp_eq (pc := 84) (tgt := 92) dX9_scan_84 (by decide) (fun zc84 => absurd zc84 (by decide)) (fun zc84 => ?_)
  refine ev_iload_n (pc := 87) dX9_scan_87 rfl ?_
  refine ev_iconst (pc := 88) (v := 3) dX9_scan_88 (by decide) ?_
  refine ev_icmp_ne (pc := 89) (tgt := 96) dX9_scan_89 (by decide) (fun zc89 => absurd rfl zc89) (fun zc89 => ?_)
  refine ev_iconst (pc := 92) (v := 1) dX9_scan_92 (by decide) ?_
  refine ev_goto (pc := 93) (tgt := 97) dX9_scan_93 (by decide) ?_
  refine ev_istore_n (pc := 97) (L' := [some (.ref 1), some (.int 3), some (.int 1)]) dX9_scan_97 (Nat.le_of_ble_eq_true rfl) rfl ?_
  refine lp_scan_D E h zb zn zf zs hw hT hf (zn - (zs + 1)) (zs + 1) (by omega) ?_
  refine ev_eqH (h' := sI h 1 (upd (upd zf 3 (nI (tE zb zn zq))) 2 (nI zs))) (by rw [ze]) ?_
  refine ev_iload_n (pc := 142) dX9_scan_142 rfl ?_
  refine ev_iconst (pc := 143) (v := 3) dX9_scan_143 (by decide) ?_
  refine ev_icmp_ne (pc := 144) (tgt := 164) dX9_scan_144 (by decide) (fun zc144 => absurd rfl zc144) (fun zc144 => ?_)
  refine ev_aload_n (pc := 147) dX9_scan_147 rfl ?_
  refine ev_getI (pc := 148) dX9_scan_148 fX9_20 rfl (wlt (wf_sI hw) (by decide)) ?_
  refine ev_eqI (e' := nI (tE zb zn zq)) (by rfl) ?_
  refine ev_aload_n (pc := 151) dX9_scan_151 rfl ?_
  refine ev_getI (pc := 152) dX9_scan_152 fX9_17 rfl (wlt (wf_sI hw) (by decide)) ?_
  refine ev_eqI (e' := nI zs) (by rfl) ?_
  refine ev_isub (pc := 155) dX9_scan_155 ?_
  refine ev_eqI (e' := nI (tE zb zn zq - zs)) (pk_sub zEs) ?_
  refine ev_iconst (pc := 156) (v := 3) dX9_scan_156 (by decide) ?_
  refine ev_icmp_le (pc := 157) (tgt := 164) dX9_scan_157 (by decide) (fun zc157 => ?_) (fun zc157 => ?_)
  · -- le at 157: taken
    refine ev_iload_n (pc := 164) dX9_scan_164 rfl ?_
    refine ev_iret (pc := 165) dX9_scan_165 rfl ?_ ?_
    · rfl
    · rw [hs, zt.1, if_pos ((nI_leI (a := tE zb zn zq - zs) (b := 3) (by omega) (by decide)).mp zc157)]
      exact ⟨rfl, rfl⟩
  · -- le at 157: not taken
    refine ev_iconst (pc := 160) (v := 0) dX9_scan_160 (by decide) ?_
    refine ev_goto (pc := 161) (tgt := 165) dX9_scan_161 (by decide) ?_
    refine ev_iret (pc := 165) dX9_scan_165 rfl ?_ ?_
    · rfl
    · rw [hs, zt.1, if_neg (fun z => zc157 ((nI_leI (a := tE zb zn zq - zs) (b := 3) (by omega) (by decide)).mpr z))]
      exact ⟨rfl, rfl⟩
theorem sc_tail_S (E : ME) (h : AH) (zb : Nat → Nat) (zn : Nat) (zf : Nat → Int32) (zq zs : Nat) (hw : WF h) (hT : TCz h zb zn) (hf : zf 1 = nI zn) (hq : zq ≤ zn) (hs : tS zb zn zq = zs) (hlt : zs < zn) (h0 : ¬ isL (zb zs) = true) (h1 : ¬ isD (zb zs) = true) (h2 : zb zs = 59) : Ev E mX9_scan (rmm 1 0 0) (QM E 0 0 (fun r h' => r = some (.int (nI (tK zb zn zq))) ∧ h' = sI h 1 (upd (upd zf 3 (nI (tE zb zn zq))) 2 (nI (tS zb zn zq))))) 0 0 59 [some (.ref 1), none, none] [] (sI h 1 (upd (upd zf 3 (nI zs)) 2 (nI zs))) := by
  have zn4 := hT.2.1
  have h256 := (hT.2.2 zs hlt).2
  have hk : kdI (sbI (zb zs)) = 4 := by rw [(sb_all _ h256).2, if_neg h0, if_neg h1, if_pos h2]
  have zt := tk_sg (zb := zb) (zn := zn) (zp := zq) (by rw [hs]; exact hlt) (by rw [hs]; exact h0) (by rw [hs]; exact h1)
  rw [hs] at zt
  have zE := (tE_ok zb hq).2.1
  have zEs := (tE_ok zb hq).1
  rw [hs] at zEs
  refine ev_aload_n (pc := 59) dX9_scan_59 rfl ?_
  refine ev_getR (pc := 60) (q := 2) dX9_scan_60 fX9_9 rfl (wlt (wf_sI hw) (by decide)) (wr (wf_sI hw) rfl) ?_
  refine ev_aload_n (pc := 63) dX9_scan_63 rfl ?_
  refine ev_getI (pc := 64) dX9_scan_64 fX9_20 rfl (wlt (wf_sI hw) (by decide)) ?_
  refine ev_eqI (e' := nI zs) (by rfl) ?_
  refine ev_bald (pc := 67) dX9_scan_67 rfl (wlt (wf_sI hw) (by decide)) (vp_in_nI (by omega) (by decide)) ?_
  refine ev_eqI (e' := h.2.1 2 zs) (by rw [show Int32.toNatClampNeg (nI zs) = zs from nI_clamp (by omega)] <;> rfl) ?_
  refine ev_eqI (e' := sbI (zb zs)) (hT.2.2 zs hlt).1 ?_
  refine ev_callSv (S := []) (pc := 68) dX9_scan_68 kX9_kindOf lX9_23 sX9_kindOf (cn_X9_kindOf E (sI h 1 (upd (upd zf 3 (nI zs)) 2 (nI zs))) (sbI (zb zs))) rfl rfl (Nat.le_of_ble_eq_true rfl) ⟨Nat.le_of_ble_eq_true rfl, Nat.le_of_ble_eq_true rfl⟩ ⟨Nat.le_of_ble_eq_true rfl, Nat.le_of_ble_eq_true rfl⟩ ?_
  refine ev_eqI (e' := 4) hk ?_
  refine ev_istore_n (pc := 71) (L' := [some (.ref 1), some (.int 4), none]) dX9_scan_71 (Nat.le_of_ble_eq_true rfl) rfl ?_
  refine ev_aload_n (pc := 72) dX9_scan_72 rfl ?_
  refine ev_dup (pc := 73) dX9_scan_73 rfl ?_
  refine ev_getI (pc := 74) dX9_scan_74 fX9_20 rfl (wlt (wf_sI hw) (by decide)) ?_
  refine ev_eqI (e' := nI zs) (by rfl) ?_
  refine ev_iconst (pc := 77) (v := 1) dX9_scan_77 (by decide) ?_
  refine ev_iadd (pc := 78) dX9_scan_78 ?_
  refine ev_eqI (e' := nI (zs + 1)) (nI_add zs 1) ?_
  refine ev_putI (pc := 79) dX9_scan_79 fX9_20 rfl (wlt (wf_sI hw) (by decide)) ?_
  refine ev_eqH (h' := sI h 1 (upd (upd zf 3 (nI (zs + 1))) 2 (nI zs))) (by refine (sI_sI _ _ _ _).trans ?_; refine congrArg _ (funext fun zj => ?_); simp only [upd, vp_updL, sI_at]; (repeat' split) <;> first | rfl | (exfalso; omega)) ?_
  refine ev_iload_n (pc := 82) dX9_scan_82 rfl ?_
  refine ev_iconst (pc := 83) (v := 2) dX9_scan_83 (by decide) ?_
  refine ev_icmp_eq (pc := 84) (tgt := 92) dX9_scan_84 (by decide) (fun zc84 => absurd zc84 (by decide)) (fun zc84 => ?_)
  refine ev_iload_n (pc := 87) dX9_scan_87 rfl ?_
  refine ev_iconst (pc := 88) (v := 3) dX9_scan_88 (by decide) ?_
  refine ev_icmp_ne (pc := 89) (tgt := 96) dX9_scan_89 (by decide) (fun zc89 => ?_) (fun zc89 => absurd zc89 (by decide))
  refine ev_iconst (pc := 96) (v := 0) dX9_scan_96 (by decide) ?_
  refine ev_istore_n (pc := 97) (L' := [some (.ref 1), some (.int 4), some (.int 0)]) dX9_scan_97 (Nat.le_of_ble_eq_true rfl) rfl ?_
  refine ev_iload_n (pc := 98) dX9_scan_98 rfl ?_
  refine ev_if_eq (pc := 99) (tgt := 142) dX9_scan_99 (by decide) (fun zc99 => ?_) (fun zc99 => absurd rfl zc99)
  refine ev_iload_n (pc := 142) dX9_scan_142 rfl ?_
  refine ev_iconst (pc := 143) (v := 3) dX9_scan_143 (by decide) ?_
  refine ev_icmp_ne (pc := 144) (tgt := 164) dX9_scan_144 (by decide) (fun zc144 => ?_) (fun zc144 => absurd zc144 (by decide))
  refine ev_iload_n (pc := 164) dX9_scan_164 rfl ?_
  refine ev_iret (pc := 165) dX9_scan_165 rfl ?_ ?_
  · rfl
  · rw [hs, zt.1, zt.2, if_pos h2]
    exact ⟨rfl, rfl⟩
theorem sc_tail_W (E : ME) (h : AH) (zb : Nat → Nat) (zn : Nat) (zf : Nat → Int32) (zq zs : Nat) (hw : WF h) (hT : TCz h zb zn) (hf : zf 1 = nI zn) (hq : zq ≤ zn) (hs : tS zb zn zq = zs) (hlt : zs < zn) (h0 : ¬ isL (zb zs) = true) (h1 : ¬ isD (zb zs) = true) (h2 : ¬ zb zs = 59) : Ev E mX9_scan (rmm 1 0 0) (QM E 0 0 (fun r h' => r = some (.int (nI (tK zb zn zq))) ∧ h' = sI h 1 (upd (upd zf 3 (nI (tE zb zn zq))) 2 (nI (tS zb zn zq))))) 0 0 59 [some (.ref 1), none, none] [] (sI h 1 (upd (upd zf 3 (nI zs)) 2 (nI zs))) := by
  have zn4 := hT.2.1
  have h256 := (hT.2.2 zs hlt).2
  have hk : kdI (sbI (zb zs)) = 0 := by rw [(sb_all _ h256).2, if_neg h0, if_neg h1, if_neg h2]
  have zt := tk_sg (zb := zb) (zn := zn) (zp := zq) (by rw [hs]; exact hlt) (by rw [hs]; exact h0) (by rw [hs]; exact h1)
  rw [hs] at zt
  have zE := (tE_ok zb hq).2.1
  have zEs := (tE_ok zb hq).1
  rw [hs] at zEs
  refine ev_aload_n (pc := 59) dX9_scan_59 rfl ?_
  refine ev_getR (pc := 60) (q := 2) dX9_scan_60 fX9_9 rfl (wlt (wf_sI hw) (by decide)) (wr (wf_sI hw) rfl) ?_
  refine ev_aload_n (pc := 63) dX9_scan_63 rfl ?_
  refine ev_getI (pc := 64) dX9_scan_64 fX9_20 rfl (wlt (wf_sI hw) (by decide)) ?_
  refine ev_eqI (e' := nI zs) (by rfl) ?_
  refine ev_bald (pc := 67) dX9_scan_67 rfl (wlt (wf_sI hw) (by decide)) (vp_in_nI (by omega) (by decide)) ?_
  refine ev_eqI (e' := h.2.1 2 zs) (by rw [show Int32.toNatClampNeg (nI zs) = zs from nI_clamp (by omega)] <;> rfl) ?_
  refine ev_eqI (e' := sbI (zb zs)) (hT.2.2 zs hlt).1 ?_
  refine ev_callSv (S := []) (pc := 68) dX9_scan_68 kX9_kindOf lX9_23 sX9_kindOf (cn_X9_kindOf E (sI h 1 (upd (upd zf 3 (nI zs)) 2 (nI zs))) (sbI (zb zs))) rfl rfl (Nat.le_of_ble_eq_true rfl) ⟨Nat.le_of_ble_eq_true rfl, Nat.le_of_ble_eq_true rfl⟩ ⟨Nat.le_of_ble_eq_true rfl, Nat.le_of_ble_eq_true rfl⟩ ?_
  refine ev_eqI (e' := 0) hk ?_
  refine ev_istore_n (pc := 71) (L' := [some (.ref 1), some (.int 0), none]) dX9_scan_71 (Nat.le_of_ble_eq_true rfl) rfl ?_
  refine ev_aload_n (pc := 72) dX9_scan_72 rfl ?_
  refine ev_dup (pc := 73) dX9_scan_73 rfl ?_
  refine ev_getI (pc := 74) dX9_scan_74 fX9_20 rfl (wlt (wf_sI hw) (by decide)) ?_
  refine ev_eqI (e' := nI zs) (by rfl) ?_
  refine ev_iconst (pc := 77) (v := 1) dX9_scan_77 (by decide) ?_
  refine ev_iadd (pc := 78) dX9_scan_78 ?_
  refine ev_eqI (e' := nI (zs + 1)) (nI_add zs 1) ?_
  refine ev_putI (pc := 79) dX9_scan_79 fX9_20 rfl (wlt (wf_sI hw) (by decide)) ?_
  refine ev_eqH (h' := sI h 1 (upd (upd zf 3 (nI (zs + 1))) 2 (nI zs))) (by refine (sI_sI _ _ _ _).trans ?_; refine congrArg _ (funext fun zj => ?_); simp only [upd, vp_updL, sI_at]; (repeat' split) <;> first | rfl | (exfalso; omega)) ?_
  refine ev_iload_n (pc := 82) dX9_scan_82 rfl ?_
  refine ev_iconst (pc := 83) (v := 2) dX9_scan_83 (by decide) ?_
  refine ev_icmp_eq (pc := 84) (tgt := 92) dX9_scan_84 (by decide) (fun zc84 => absurd zc84 (by decide)) (fun zc84 => ?_)
  refine ev_iload_n (pc := 87) dX9_scan_87 rfl ?_
  refine ev_iconst (pc := 88) (v := 3) dX9_scan_88 (by decide) ?_
  refine ev_icmp_ne (pc := 89) (tgt := 96) dX9_scan_89 (by decide) (fun zc89 => ?_) (fun zc89 => absurd zc89 (by decide))
  refine ev_iconst (pc := 96) (v := 0) dX9_scan_96 (by decide) ?_
  refine ev_istore_n (pc := 97) (L' := [some (.ref 1), some (.int 0), some (.int 0)]) dX9_scan_97 (Nat.le_of_ble_eq_true rfl) rfl ?_
  refine ev_iload_n (pc := 98) dX9_scan_98 rfl ?_
  refine ev_if_eq (pc := 99) (tgt := 142) dX9_scan_99 (by decide) (fun zc99 => ?_) (fun zc99 => absurd rfl zc99)
  refine ev_iload_n (pc := 142) dX9_scan_142 rfl ?_
  refine ev_iconst (pc := 143) (v := 3) dX9_scan_143 (by decide) ?_
  refine ev_icmp_ne (pc := 144) (tgt := 164) dX9_scan_144 (by decide) (fun zc144 => ?_) (fun zc144 => absurd zc144 (by decide))
  refine ev_iload_n (pc := 164) dX9_scan_164 rfl ?_
  refine ev_iret (pc := 165) dX9_scan_165 rfl ?_ ?_
  · rfl
  · rw [hs, zt.1, zt.2, if_neg h2]
    exact ⟨rfl, rfl⟩

theorem cn_X9_scan (E : ME) (h : AH) (zb : Nat → Nat) (zn zq : Nat) (hw : WF h) (hT : TCz h zb zn) (hq : zq ≤ zn) (hp3 : h.2.1 1 3 = nI zq) : Con E mX9_scan 1 0 0 [.ref 1] h (fun r h' => r = some (.int (nI (tK zb zn zq))) ∧ h' = sI h 1 (upd (upd (h.2.1 1) 3 (nI (tE zb zn zq))) 2 (nI (tS zb zn zq)))) := by
  refine con_of2 (L := [some (.ref 1), none, none]) rfl (Nat.le_of_ble_eq_true rfl) rfl ?_
  have zn4 := hT.2.1
  have zS := tS_ok zb hq
  refine ev_eqH (h' := sI h 1 (upd (h.2.1 1) 3 (nI zq))) (by rw [← rnf_id hp3]; exact (sI_id h 1).symm) ?_
  refine lp_scan_0 E h zb zn (h.2.1 1) hw hT hT.1 (zn - zq) zq (by omega) ?_
  refine ev_eqH (h' := sI h 1 (upd (h.2.1 1) 3 (nI (tS zb zn zq)))) rfl ?_
  refine ev_aload_n (pc := 38) dX9_scan_38 rfl ?_
  refine ev_aload_n (pc := 39) dX9_scan_39 rfl ?_
  refine ev_getI (pc := 40) dX9_scan_40 fX9_20 rfl (wlt (wf_sI hw) (by decide)) ?_
  refine ev_eqI (e' := nI (tS zb zn zq)) (by rfl) ?_
  refine ev_putI (pc := 43) dX9_scan_43 fX9_17 rfl (wlt (wf_sI hw) (by decide)) ?_
  refine ev_eqH (h' := sI h 1 (upd (upd (h.2.1 1) 3 (nI (tS zb zn zq))) 2 (nI (tS zb zn zq)))) (by exact sI_sI _ _ _ _) ?_
  refine ev_aload_n (pc := 46) dX9_scan_46 rfl ?_
  refine ev_getI (pc := 47) dX9_scan_47 fX9_20 rfl (wlt (wf_sI hw) (by decide)) ?_
  refine ev_eqI (e' := nI (tS zb zn zq)) (by rfl) ?_
  refine ev_aload_n (pc := 50) dX9_scan_50 rfl ?_
  refine ev_getI (pc := 51) dX9_scan_51 fX9_13 rfl (wlt (wf_sI hw) (by decide)) ?_
  refine ev_eqI (e' := (h.2.1 1) 1) (by rfl) ?_
  refine ev_icmp_lt (pc := 54) (tgt := 59) dX9_scan_54 (by decide) (fun zc54 => ?_) (fun zc54 => ?_)
  · -- lt at 54: taken
    rw [hT.1] at zc54
    have hlt : tS zb zn zq < zn := (nI_ltI (by omega) (by omega)).mp zc54
    by_cases h1 : isL (zb (tS zb zn zq)) = true
    · exact sc_tail_L E h zb zn (h.2.1 1) zq (tS zb zn zq) hw hT hT.1 hq rfl hlt h1
    by_cases h2 : isD (zb (tS zb zn zq)) = true
    · exact sc_tail_D E h zb zn (h.2.1 1) zq (tS zb zn zq) hw hT hT.1 hq rfl hlt h1 h2
    by_cases h3 : zb (tS zb zn zq) = 59
    · exact sc_tail_S E h zb zn (h.2.1 1) zq (tS zb zn zq) hw hT hT.1 hq rfl hlt h1 h2 h3
    · exact sc_tail_W E h zb zn (h.2.1 1) zq (tS zb zn zq) hw hT hT.1 hq rfl hlt h1 h2 h3
  · -- lt at 54: not taken
    refine ev_iconst (pc := 57) (v := 1) dX9_scan_57 (by decide) ?_
    refine ev_iret (pc := 58) dX9_scan_58 rfl ?_ ?_
    · rfl
    · rw [hT.1] at zc54
      rw [(tk_end (Nat.not_lt.mpr ((nI_leI (by omega) (by omega)).mp (nlt_le zc54)))).1, (tk_end (Nat.not_lt.mpr ((nI_leI (by omega) (by omega)).mp (nlt_le zc54)))).2]
      exact ⟨rfl, rfl⟩
