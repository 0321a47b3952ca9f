theorem wf_R {h : AH} {k j q : Nat} (hw : WF h) (hn : rT k j = none) : WF (sR h k (va_up (h.2.2.2 k) j (some q))) := by
  refine ⟨hw.1, fun k2 j2 q2 h2 => ?_⟩
  show (if k2 = k then va_up (h.2.2.2 k) j (some q) else h.2.2.2 k2) j2 = some q2
  by_cases e : k2 = k
  · subst e
    rw [if_pos rfl]
    by_cases e2 : j2 = j
    · subst e2
      rw [hn] at h2
      cases h2
    · show (if j2 = j then _ else _) = _
      rw [if_neg e2]
      exact hw.2 _ _ _ h2
  · rw [if_neg e]
    exact hw.2 _ _ _ h2
def bg1 (h : AH) (zq : Nat) : AH := sR h 19 (va_up (h.2.2.2 19) 1 (some zq))
def rwd (h : AH) : AH := sI h 1 (upd (upd (h.2.1 1) 2 0) 3 0)
def FrR (zq : Nat) (h g : AH) : Prop := g.1 = h.1 ∧ g.2.2.1 = h.2.2.1 ∧ (∀ zk zj, ¬ (zk = 19 ∧ zj = 1) → g.2.2.2 zk zj = h.2.2.2 zk zj) ∧ (∀ zk, zk ≠ 1 → zk ≠ 19 → (zk < zq ∨ zq + 7 < zk) → g.2.1 zk = h.2.1 zk) ∧ g.2.1 1 1 = h.2.1 1 1
theorem cn_X5_faultPlace (E : ME) (h : AH)  (hw : WF h) : Con E mX5_faultPlace 0 0 0 [.ref 19] h (fun r h' => r = some (.int (h.2.1 19 4)) ∧ h' = h) := by
  refine con_of2 (L := [some (.ref 19)]) rfl (Nat.le_of_ble_eq_true rfl) rfl ?_
  refine ev_aload_n (pc := 0) dX5_faultPlace_0 rfl ?_
  refine ev_getI (pc := 1) dX5_faultPlace_1 fX5_23 rfl (wlt hw (by decide)) ?_
  refine ev_iret (pc := 4) dX5_faultPlace_4 rfl ?_ ?_
  · rfl
  · exact ⟨rfl, rfl⟩
theorem cn_keep0 (E : ME) (h : AH) (zn : Nat) (hw : WF h) (hn : h.2.1 1 1 = nI zn) (h4 : zn ≤ 400) : Con E mX9_keep 0 0 0 [.ref 1, .int 0] h (fun r h' => r = some (.int 1) ∧ h' = sI h 1 (upd (h.2.1 1) 1 0)) := by
  have z1 := cn_X9_keep E h 0 hw
  have hC : (0 : Int32) ≤ 0 ∧ 0 ≤ h.2.1 1 1 := ⟨by decide, by rw [hn]; exact nI_pos' (by omega)⟩
  rw [bI_t hC, if_pos hC] at z1
  exact z1
def swH (h : AH) (zq zo : Nat) : AH := sR (sR h 0 (va_up (h.2.2.2 0) 1 (some zq))) 0 (va_up ((sR h 0 (va_up (h.2.2.2 0) 1 (some zq))).2.2.2 0) 2 (some zo))
theorem sw_w {h : AH} {zq zo : Nat} (hw : WF h) : WF (swH h zq zo) := wf_R (wf_R hw rfl) rfl
def eT (h : AH) : AH := sI h 1 (upd (h.2.1 1) 1 0)
def bgH_3 (h : AH) : AH := sI (rwd (clH_3 (bg1 h 3))) 19 (upd (upd (h.2.1 19) 3 0) 4 0)
theorem cn_X5_begin_3 (E : ME) (h : AH)  (hw : WF h) : Con E mX5_begin 2 0 0 [.ref 19, .ref 3] h (fun r h' => r = none ∧ h' = bgH_3 h) := by
  refine con_of2 (L := [some (.ref 19), some (.ref 3)]) rfl (Nat.le_of_ble_eq_true rfl) rfl ?_
  refine ev_aload_n (pc := 0) dX5_begin_0 rfl ?_
  refine ev_aload_n (pc := 1) dX5_begin_1 rfl ?_
  refine ev_putR (pc := 2) dX5_begin_2 fX5_15 rfl (wlt hw (by decide)) (Or.inl rfl) ⟨rfl, rfl⟩ ?_
  refine ev_aload_n (pc := 5) dX5_begin_5 rfl ?_
  refine ev_getR (pc := 6) (q := 3) dX5_begin_6 fX5_15 rfl (wlt (wf_R hw rfl) (by decide)) rfl ?_
  refine ev_callV0 (S := []) (pc := 9) dX5_begin_9 kX8_clear lX5_26 vX8_clear (cn_X8_clear_3 E (bg1 h 3) (wf_R hw rfl)) rfl rfl (wlt (wf_R hw rfl) (by decide)) rfl rfl (Nat.le_of_ble_eq_true rfl) ⟨Nat.le_of_ble_eq_true rfl, Nat.le_of_ble_eq_true rfl⟩ ⟨Nat.le_of_ble_eq_true rfl, Nat.le_of_ble_eq_true rfl⟩ ?_
  refine ev_eqH (h' := (clH_3 (bg1 h 3))) rfl ?_
  refine ev_aload_n (pc := 12) dX5_begin_12 rfl ?_
  refine ev_getR (pc := 13) (q := 1) dX5_begin_13 fX5_9 rfl (wlt (wf_R (h := h) hw rfl) (by decide)) (wr (wf_R (h := h) hw rfl) rfl) ?_
  refine ev_callV0 (S := []) (pc := 16) dX5_begin_16 kX9_rewind lX5_31 vX9_rewind (cn_X9_rewind E (clH_3 (bg1 h 3)) (wf_R (h := h) hw rfl)) rfl rfl (wlt (wf_R (h := h) hw rfl) (by decide)) rfl rfl (Nat.le_of_ble_eq_true rfl) ⟨Nat.le_of_ble_eq_true rfl, Nat.le_of_ble_eq_true rfl⟩ ⟨Nat.le_of_ble_eq_true rfl, Nat.le_of_ble_eq_true rfl⟩ ?_
  refine ev_eqH (h' := (rwd (clH_3 (bg1 h 3)))) rfl ?_
  refine ev_aload_n (pc := 19) dX5_begin_19 rfl ?_
  refine ev_iconst (pc := 20) (v := 0) dX5_begin_20 (by decide) ?_
  refine ev_putI (pc := 21) dX5_begin_21 fX5_19 rfl (wlt (wf_R (h := h) hw rfl) (by decide)) ?_
  refine ev_eqH (h' := sI (rwd (clH_3 (bg1 h 3))) 19 (upd ((rwd (clH_3 (bg1 h 3))).2.1 19) 3 0)) (by rfl) ?_
  refine ev_aload_n (pc := 24) dX5_begin_24 rfl ?_
  refine ev_iconst (pc := 25) (v := 0) dX5_begin_25 (by decide) ?_
  refine ev_putI (pc := 26) dX5_begin_26 fX5_23 rfl (wlt (wf_sI (wf_R (h := h) hw rfl)) (by decide)) ?_
  refine ev_eqH (h' := sI (rwd (clH_3 (bg1 h 3))) 19 (upd (upd ((rwd (clH_3 (bg1 h 3))).2.1 19) 3 0) 4 0)) (by exact sI_sI _ _ _ _) ?_
  refine ev_ret (pc := 29) dX5_begin_29 rfl ?_
  · exact ⟨rfl, rfl⟩
theorem bg_fr_3 (h : AH) : FrR 3 h (bgH_3 h) := by
  refine ⟨rfl, rfl, fun zk zj hz => ?_, fun zk h1 h2 h3 => ?_, rfl⟩
  · show (if zk = 19 then va_up (h.2.2.2 19) 1 (some 3) else h.2.2.2 zk) zj = _
    by_cases e : zk = 19
    · subst e
      rw [if_pos rfl]
      show (if zj = 1 then _ else _) = _
      rw [if_neg (fun z => hz ⟨rfl, z⟩)]
    · rw [if_neg e]
  · unfold bgH_3 rwd clH_3
    rw [sI_ne _ _ h2, sI_ne _ _ h1, sI_ne _ _ (by omega), sI_ne _ _ (by omega), sI_ne _ _ (by omega), sI_ne _ _ (by omega), sI_ne _ _ (by omega), sI_ne _ _ (by omega), sI_ne _ _ (by omega), sI_ne _ _ (by omega)]
    rfl
theorem bg_w_3 {h : AH} (hw : WF h) : WF (bgH_3 h) := wf_R (h := h) hw rfl
theorem bg_rd_3 {h : AH} {zb : Nat → Nat} {zn : Nat} (hw : WF h) (hT : TCz h zb zn) : RDs 3 zb zn 0 pS0 (bgH_3 h) := by
  refine ⟨⟨bg_w_3 hw, ⟨hT.1, hT.2.1, fun zk hk => hT.2.2 zk hk⟩, rfl, Nat.zero_le _⟩, rfl, ⟨rfl, rfl, rfl, fun zk hk => absurd hk (Nat.not_lt_zero _), fun zk hk => ?_, fun zk hk => absurd hk (Nat.not_lt_zero _)⟩, rfl, rfl, fun zk h1 h2 => ?_⟩
  · show flI 1 (h.2.1 8) 6 zk = _ ∧ flI 10 (h.2.1 9) 6 zk = _
    rw [flI_at, flI_at, if_pos hk, if_pos hk]
    exact ⟨rfl, rfl⟩
  · show flI 0 (h.2.1 4) 12 zk = 0 ∧ flI 0 (h.2.1 5) 12 zk = 0 ∧ flI 0 (h.2.1 6) 12 zk = 0 ∧ flI 0 (h.2.1 7) 12 zk = 0
    rw [flI_at, flI_at, flI_at, flI_at, if_pos h2, if_pos h2, if_pos h2, if_pos h2]
    exact ⟨rfl, rfl, rfl, rfl⟩
def XT_3 (zR : (Nat × Nat) × Nat × PSt) (h g : AH) (zx : Int32) : Prop := FrD 3 h g ∧ (¬ zR.1.1 = 0 → g.2.1 19 3 = nI zR.1.1 ∧ g.2.1 19 4 = nI zR.1.2) ∧ (zR.1.1 = 0 → g.2.1 19 3 = 0 ∧ SDz zR.2.2 3 g ∧ POK zR.2.2 ∧ zx = nI zR.2.1)
theorem lp_ctext_3 (E : ME) (h : AH) (zb : Nat → Nat) (zn : Nat) {post : PO} (zR : (Nat × Nat) × Nat × PSt) (hX : XOK E) (K : ∀ (g : AH) (zx : Int32), WF g → XT_3 zR h g zx → Ev E mX10_text (rmm 7 0 0) (QM E 0 0 post) 0 0 36 [some (.ref 0), some (.int zx), none] [] g) : ∀ (zf zp zl : Nat) (zt : PSt) (zg : AH), RDs 3 zb zn zp zt zg → POK zt → zg.2.1 19 3 = 0 → FrD 3 h zg → zn + 1 ≤ zp + zf → zl ≤ zp → txtF zb zn zf zp zl zt = zR → Ev E mX10_text (rmm 7 0 0) (QM E 0 0 post) 0 0 13 [some (.ref 0), some (.int (nI zl)), none] [] zg := by
  intro zf
  induction zf with
  | zero =>
    intro zp zl zt zg hD hO h3 hF hz hl e
    have z1 := hD.1.2.2.2
    omega
  | succ zf ih =>
    intro zp zl zt zg hD hO h3 hF hz hl e
    have z1 := hD.1.2.2.2
    have z4 := hD.1.2.1.2.1
    refine ev_iload_n (pc := 13) dX10_text_13 rfl ?_
    refine ev_sipush (pc := 14) (v := 400) dX10_text_14 (by decide) ?_
    refine ev_icmp_gt (pc := 17) (tgt := 36) dX10_text_17 (by decide) (fun zc17 => absurd zc17 (nI_nlt (a := 400) (b := zl) (by omega) (by decide))) (fun zc17 => ?_)
    refine ev_aload_n (pc := 20) dX10_text_20 rfl ?_
    refine ev_getR (pc := 21) (q := 19) dX10_text_21 fX10_31 rfl (wlt hD.1.1 (by decide)) (wr hD.1.1 rfl) ?_
    refine ev_callV (S := []) (pc := 24) dX10_text_24 kX5_takeLine lX10_100 vX5_takeLine (cn_X5_takeLine_3 E zg zb zn zp zt hD hO hX) rfl rfl (wlt hD.1.1 (by decide)) rfl rfl (Nat.le_of_ble_eq_true rfl) ⟨Nat.le_of_ble_eq_true rfl, Nat.le_of_ble_eq_true rfl⟩ ⟨Nat.le_of_ble_eq_true rfl, Nat.le_of_ble_eq_true rfl⟩ ?_
    rintro _ zg1 ⟨zx1, rfl, hT1⟩
    have hF1 : FrD 3 zg zg1 := by
      by_cases z : tK zb zn zp = 1
      · exact FrD_T (hT1.1 z).2.1
      · exact (hT1.2 z).1
    refine ev_if_eq (pc := 27) (tgt := 36) dX10_text_27 (by decide) (fun zc27 => ?_) (fun zc27 => ?_)
    · -- eq at 27: taken
      refine K zg1 (nI zl) (FrD_w hF1 hD.1.1) ⟨FrD_t hF hF1, fun z => ?_, fun z => ?_⟩
      · by_cases hk : tK zb zn zp = 1
        · rw [← e, txtF, if_pos hk] at z
          exact absurd rfl z
        · have hL := hT1.2 hk
          by_cases hb : (linP zb zn zp zt).1.1 = 0
          · rw [(hL.2.1 hb).1] at zc27
            exact absurd zc27 (by decide)
          · rw [← e, txtF, if_neg hk, if_neg hb]
            exact (hL.2.2 hb).2
      · by_cases hk : tK zb zn zp = 1
        · have hT := hT1.1 hk
          rw [← e, txtF, if_pos hk]
          exact ⟨hT.2.2.trans h3, SD_T (by decide : (3 : Nat) = 3 ∨ 3 = 11) hT.2.1 hD.2.2, hO, rfl⟩
        · have hL := hT1.2 hk
          by_cases hb : (linP zb zn zp zt).1.1 = 0
          · rw [(hL.2.1 hb).1] at zc27
            exact absurd zc27 (by decide)
          · rw [← e, txtF, if_neg hk, if_neg hb] at z
            exact absurd z hb
    · -- eq at 27: not taken
      refine ev_iinc (pc := 30) (v := nI (zl + 1)) (L' := [some (.ref 0), some (.int (nI (zl + 1))), none]) dX10_text_30 rfl (nI_1 _) (Nat.le_of_ble_eq_true rfl) rfl ?_
      refine ev_goto (pc := 33) (tgt := 13) dX10_text_33 (by decide) ?_
      have hk : ¬ tK zb zn zp = 1 := fun z => zc27 (hT1.1 z).1
      have hL := hT1.2 hk
      have hb : (linP zb zn zp zt).1.1 = 0 := Classical.byContradiction (fun z => zc27 (hL.2.2 z).1)
      have hG := linP_gt z1 hb
      rw [txtF, if_neg hk, if_pos hb] at e
      exact ih (linP zb zn zp zt).2.1 (zl + 1) (linP zb zn zp zt).2.2 zg1 (hL.2.1 hb).2.1 (linP_ok hO hb) ((hL.2.1 hb).2.2.trans h3) (FrD_t hF hF1) (by omega) (by omega) e
theorem cn_X10_text_3 (E : ME) (h : AH) (zb : Nat → Nat) (zn : Nat) (hw : WF h) (hT : TCz h zb zn) (hX : XOK E) (h01 : h.2.2.2 0 1 = some 11) (h02 : h.2.2.2 0 2 = some 3) : Con E mX10_text 7 0 0 [.ref 0] h (fun r h' => ∃ zx, r = some (.int zx) ∧ (zx = if (txtP zb zn).1.1 = 0 then nI (txtP zb zn).2.1 else -10 - nI (txtP zb zn).1.2) ∧ (¬ (txtP zb zn).1.1 = 0 → ∃ g, FrD 3 (bgH_3 h) g ∧ g.2.1 19 3 = nI (txtP zb zn).1.1 ∧ h' = eT g) ∧ ((txtP zb zn).1.1 = 0 → POK (txtP zb zn).2.2 ∧ ∃ g, FrD 3 (bgH_3 h) g ∧ g.2.1 19 3 = 0 ∧ SDz (txtP zb zn).2.2 3 g ∧ h' = blH (lsH (swH (eT g) 3 11) (txtP zb zn).2.2) (txtP zb zn).2.2)) := by
  refine con_of2 (L := [some (.ref 0), none, none]) rfl (Nat.le_of_ble_eq_true rfl) rfl ?_
  refine ev_aload_n (pc := 0) dX10_text_0 rfl ?_
  refine ev_getR (pc := 1) (q := 19) dX10_text_1 fX10_31 rfl (wlt hw (by decide)) (wr hw rfl) ?_
  refine ev_aload_n (pc := 4) dX10_text_4 rfl ?_
  refine ev_getR (pc := 5) (q := 3) dX10_text_5 fX10_23 rfl (wlt hw (by decide)) h02 ?_
  refine ev_callV0 (S := []) (pc := 8) dX10_text_8 kX5_begin lX10_96 vX5_begin (cn_X5_begin_3 E h hw) rfl rfl (wlt hw (by decide)) rfl rfl (Nat.le_of_ble_eq_true rfl) ⟨Nat.le_of_ble_eq_true rfl, Nat.le_of_ble_eq_true rfl⟩ ⟨Nat.le_of_ble_eq_true rfl, Nat.le_of_ble_eq_true rfl⟩ ?_
  refine ev_eqH (h' := (bgH_3 h)) rfl ?_
  refine ev_iconst (pc := 11) (v := 0) dX10_text_11 (by decide) ?_
  refine ev_istore_n (pc := 12) (L' := [some (.ref 0), some (.int 0), none]) dX10_text_12 (Nat.le_of_ble_eq_true rfl) rfl ?_
  refine lp_ctext_3 E (bgH_3 h) zb zn (txtP zb zn) hX (fun g zx hwg hXT => ?_) (zn + 1) 0 0 pS0 (bgH_3 h) (bg_rd_3 hw hT) pS0_ok rfl ⟨rfl, rfl, fun _ _ _ _ => rfl, rfl⟩ (by omega) (Nat.le_refl _) rfl
  have hng : g.2.1 1 1 = nI zn := hXT.1.2.2.2.trans hT.1
  have hwe : WF (eT g) := hwg
  have h01g : g.2.2.2 0 1 = some 11 := by rw [hXT.1.2.1]; exact h01
  have h02g : g.2.2.2 0 2 = some 3 := by rw [hXT.1.2.1]; exact h02
  refine ev_aload_n (pc := 36) dX10_text_36 rfl ?_
  refine ev_getR (pc := 37) (q := 1) dX10_text_37 fX10_10 rfl (wlt hwg (by decide)) (wr hwg rfl) ?_
  refine ev_iconst (pc := 40) (v := 0) dX10_text_40 (by decide) ?_
  refine ev_callVv (S := []) (pc := 41) dX10_text_41 kX9_keep lX10_92 vX9_keep (cn_keep0 E g zn hwg hng hT.2.1) rfl rfl (wlt hwg (by decide)) rfl rfl (Nat.le_of_ble_eq_true rfl) ⟨Nat.le_of_ble_eq_true rfl, Nat.le_of_ble_eq_true rfl⟩ ⟨Nat.le_of_ble_eq_true rfl, Nat.le_of_ble_eq_true rfl⟩ ?_
  refine ev_eqH (h' := (eT g)) rfl ?_
  refine ev_pop (pc := 44) dX10_text_44 rfl ?_
  refine ev_aload_n (pc := 45) dX10_text_45 rfl ?_
  refine ev_getR (pc := 46) (q := 19) dX10_text_46 fX10_31 rfl (wlt hwe (by decide)) (wr hwe rfl) ?_
  refine ev_callVv (S := []) (pc := 49) dX10_text_49 kX5_faultFound lX10_104 vX5_faultFound (cn_X5_faultFound E (eT g) hwe) rfl rfl (wlt hwe (by decide)) rfl rfl (Nat.le_of_ble_eq_true rfl) ⟨Nat.le_of_ble_eq_true rfl, Nat.le_of_ble_eq_true rfl⟩ ⟨Nat.le_of_ble_eq_true rfl, Nat.le_of_ble_eq_true rfl⟩ ?_
  refine ev_if_eq (pc := 52) (tgt := 66) dX10_text_52 (by decide) (fun zc52 => ?_) (fun zc52 => ?_)
  · -- eq at 52: taken
    have hb : (txtP zb zn).1.1 = 0 := Classical.byContradiction (fun z => by
      have z1 := (hXT.2.1 z).1
      have z5 : (txtP zb zn).1.1 ≤ 5 := tx_5 zb zn _ _ _ _
      exact nb_0 z5 z (z1.symm.trans zc52))
    have hOk := (hXT.2.2 hb).2.2.1
    have hYk : STz (txtP zb zn).2.2 3 (swH (eT g) 3 11) := (hXT.2.2 hb).2.1.1
    have hYl : STz (txtP zb zn).2.2 3 (lsH (swH (eT g) 3 11) (txtP zb zn).2.2) := (hXT.2.2 hb).2.1.1
    refine ev_aload_n (pc := 66) dX10_text_66 rfl ?_
    refine ev_getR (pc := 67) (q := 11) dX10_text_67 fX10_19 rfl (wlt hwe (by decide)) h01g ?_
    refine ev_astore_n (pc := 70) (L' := [some (.ref 0), some (.int zx), some (.ref 11)]) dX10_text_70 (Nat.le_of_ble_eq_true rfl) rfl ?_
    refine ev_aload_n (pc := 71) dX10_text_71 rfl ?_
    refine ev_aload_n (pc := 72) dX10_text_72 rfl ?_
    refine ev_getR (pc := 73) (q := 3) dX10_text_73 fX10_23 rfl (wlt hwe (by decide)) h02g ?_
    refine ev_putR (pc := 76) dX10_text_76 fX10_19 rfl (wlt hwe (by decide)) (Or.inl rfl) ⟨rfl, rfl⟩ ?_
    refine ev_aload_n (pc := 79) dX10_text_79 rfl ?_
    refine ev_aload_n (pc := 80) dX10_text_80 rfl ?_
    refine ev_putR (pc := 81) dX10_text_81 fX10_23 rfl (wlt (wf_R hwe rfl) (by decide)) (Or.inl rfl) ⟨rfl, rfl⟩ ?_
    refine ev_eqH (h' := (swH (eT g) 3 11)) rfl ?_
    refine ev_aload_n (pc := 84) dX10_text_84 rfl ?_
    refine ev_getR (pc := 85) (q := 20) dX10_text_85 fX10_38 rfl (wlt (sw_w hwe) (by decide)) (wr (sw_w hwe) rfl) ?_
    refine ev_aload_n (pc := 88) dX10_text_88 rfl ?_
    refine ev_getR (pc := 89) (q := 3) dX10_text_89 fX10_19 rfl (wlt (sw_w hwe) (by decide)) rfl ?_
    refine ev_callV0 (S := []) (pc := 92) dX10_text_92 kX6_learn lX10_110 vX6_learn (cn_X6_learn_3 E (swH (eT g) 3 11) (txtP zb zn).2.2 (sw_w hwe) hYk hOk hOk.1) rfl rfl (wlt (sw_w hwe) (by decide)) rfl rfl (Nat.le_of_ble_eq_true rfl) ⟨Nat.le_of_ble_eq_true rfl, Nat.le_of_ble_eq_true rfl⟩ ⟨Nat.le_of_ble_eq_true rfl, Nat.le_of_ble_eq_true rfl⟩ ?_
    refine ev_eqH (h' := (lsH (swH (eT g) 3 11) (txtP zb zn).2.2)) rfl ?_
    refine ev_aload_n (pc := 95) dX10_text_95 rfl ?_
    refine ev_getR (pc := 96) (q := 30) dX10_text_96 fX10_52 rfl (wlt (sw_w (h := eT g) hwe) (by decide)) (wr (sw_w (h := eT g) hwe) rfl) ?_
    refine ev_aload_n (pc := 99) dX10_text_99 rfl ?_
    refine ev_getR (pc := 100) (q := 3) dX10_text_100 fX10_19 rfl (wlt (sw_w (h := eT g) hwe) (by decide)) rfl ?_
    refine ev_callV0 (S := []) (pc := 103) dX10_text_103 kX0_learn lX10_113 vX0_learn (cn_X0_learn_3 E (lsH (swH (eT g) 3 11) (txtP zb zn).2.2) (txtP zb zn).2.2 (sw_w (h := eT g) hwe) hYl hOk hOk.2.2.2.2.2.2.2) rfl rfl (wlt (sw_w (h := eT g) hwe) (by decide)) rfl rfl (Nat.le_of_ble_eq_true rfl) ⟨Nat.le_of_ble_eq_true rfl, Nat.le_of_ble_eq_true rfl⟩ ⟨Nat.le_of_ble_eq_true rfl, Nat.le_of_ble_eq_true rfl⟩ ?_
    refine ev_eqH (h' := (blH (lsH (swH (eT g) 3 11) (txtP zb zn).2.2) (txtP zb zn).2.2)) rfl ?_
    refine ev_iload_n (pc := 106) dX10_text_106 rfl ?_
    refine ev_iret (pc := 107) dX10_text_107 rfl ?_ ?_
    · rfl
    · refine ⟨_, rfl, ?_, fun z => absurd hb z, fun _ => ⟨hOk, g, hXT.1, (hXT.2.2 hb).1, (hXT.2.2 hb).2.1, rfl⟩⟩
      rw [if_pos hb, (hXT.2.2 hb).2.2.2]
  · -- eq at 52: not taken
    refine ev_bipush (pc := 55) (v := (-10)) dX10_text_55 (by decide) ?_
    refine ev_aload_n (pc := 57) dX10_text_57 rfl ?_
    refine ev_getR (pc := 58) (q := 19) dX10_text_58 fX10_31 rfl (wlt hwe (by decide)) (wr hwe rfl) ?_
    refine ev_callVv (S := [.int ((-10))]) (pc := 61) dX10_text_61 kX5_faultPlace lX10_107 vX5_faultPlace (cn_X5_faultPlace E (eT g) hwe) rfl rfl (wlt hwe (by decide)) rfl rfl (Nat.le_of_ble_eq_true rfl) ⟨Nat.le_of_ble_eq_true rfl, Nat.le_of_ble_eq_true rfl⟩ ⟨Nat.le_of_ble_eq_true rfl, Nat.le_of_ble_eq_true rfl⟩ ?_
    refine ev_isub (pc := 64) dX10_text_64 ?_
    refine ev_iret (pc := 65) dX10_text_65 rfl ?_ ?_
    · rfl
    · have hb : ¬ (txtP zb zn).1.1 = 0 := fun z => zc52 (hXT.2.2 z).1
      have hB := hXT.2.1 hb
      refine ⟨_, rfl, ?_, fun _ => ⟨g, hXT.1, hB.1, rfl⟩, fun z => absurd z hb⟩
      rw [if_neg hb]
      exact congrArg (fun z => -10 - z) hB.2
def bgH_11 (h : AH) : AH := sI (rwd (clH_11 (bg1 h 11))) 19 (upd (upd (h.2.1 19) 3 0) 4 0)
theorem cn_X5_begin_11 (E : ME) (h : AH)  (hw : WF h) : Con E mX5_begin 2 0 0 [.ref 19, .ref 11] h (fun r h' => r = none ∧ h' = bgH_11 h) := by
  refine con_of2 (L := [some (.ref 19), some (.ref 11)]) rfl (Nat.le_of_ble_eq_true rfl) rfl ?_
  refine ev_aload_n (pc := 0) dX5_begin_0 rfl ?_
  refine ev_aload_n (pc := 1) dX5_begin_1 rfl ?_
  refine ev_putR (pc := 2) dX5_begin_2 fX5_15 rfl (wlt hw (by decide)) (Or.inl rfl) ⟨rfl, rfl⟩ ?_
  refine ev_aload_n (pc := 5) dX5_begin_5 rfl ?_
  refine ev_getR (pc := 6) (q := 11) dX5_begin_6 fX5_15 rfl (wlt (wf_R hw rfl) (by decide)) rfl ?_
  refine ev_callV0 (S := []) (pc := 9) dX5_begin_9 kX8_clear lX5_26 vX8_clear (cn_X8_clear_11 E (bg1 h 11) (wf_R hw rfl)) rfl rfl (wlt (wf_R hw rfl) (by decide)) rfl rfl (Nat.le_of_ble_eq_true rfl) ⟨Nat.le_of_ble_eq_true rfl, Nat.le_of_ble_eq_true rfl⟩ ⟨Nat.le_of_ble_eq_true rfl, Nat.le_of_ble_eq_true rfl⟩ ?_
  refine ev_eqH (h' := (clH_11 (bg1 h 11))) rfl ?_
  refine ev_aload_n (pc := 12) dX5_begin_12 rfl ?_
  refine ev_getR (pc := 13) (q := 1) dX5_begin_13 fX5_9 rfl (wlt (wf_R (h := h) hw rfl) (by decide)) (wr (wf_R (h := h) hw rfl) rfl) ?_
  refine ev_callV0 (S := []) (pc := 16) dX5_begin_16 kX9_rewind lX5_31 vX9_rewind (cn_X9_rewind E (clH_11 (bg1 h 11)) (wf_R (h := h) hw rfl)) rfl rfl (wlt (wf_R (h := h) hw rfl) (by decide)) rfl rfl (Nat.le_of_ble_eq_true rfl) ⟨Nat.le_of_ble_eq_true rfl, Nat.le_of_ble_eq_true rfl⟩ ⟨Nat.le_of_ble_eq_true rfl, Nat.le_of_ble_eq_true rfl⟩ ?_
  refine ev_eqH (h' := (rwd (clH_11 (bg1 h 11)))) rfl ?_
  refine ev_aload_n (pc := 19) dX5_begin_19 rfl ?_
  refine ev_iconst (pc := 20) (v := 0) dX5_begin_20 (by decide) ?_
  refine ev_putI (pc := 21) dX5_begin_21 fX5_19 rfl (wlt (wf_R (h := h) hw rfl) (by decide)) ?_
  refine ev_eqH (h' := sI (rwd (clH_11 (bg1 h 11))) 19 (upd ((rwd (clH_11 (bg1 h 11))).2.1 19) 3 0)) (by rfl) ?_
  refine ev_aload_n (pc := 24) dX5_begin_24 rfl ?_
  refine ev_iconst (pc := 25) (v := 0) dX5_begin_25 (by decide) ?_
  refine ev_putI (pc := 26) dX5_begin_26 fX5_23 rfl (wlt (wf_sI (wf_R (h := h) hw rfl)) (by decide)) ?_
  refine ev_eqH (h' := sI (rwd (clH_11 (bg1 h 11))) 19 (upd (upd ((rwd (clH_11 (bg1 h 11))).2.1 19) 3 0) 4 0)) (by exact sI_sI _ _ _ _) ?_
  refine ev_ret (pc := 29) dX5_begin_29 rfl ?_
  · exact ⟨rfl, rfl⟩
theorem bg_fr_11 (h : AH) : FrR 11 h (bgH_11 h) := by
  refine ⟨rfl, rfl, fun zk zj hz => ?_, fun zk h1 h2 h3 => ?_, rfl⟩
  · show (if zk = 19 then va_up (h.2.2.2 19) 1 (some 11) else h.2.2.2 zk) zj = _
    by_cases e : zk = 19
    · subst e
      rw [if_pos rfl]
      show (if zj = 1 then _ else _) = _
      rw [if_neg (fun z => hz ⟨rfl, z⟩)]
    · rw [if_neg e]
  · unfold bgH_11 rwd clH_11
    rw [sI_ne _ _ h2, sI_ne _ _ h1, sI_ne _ _ (by omega), sI_ne _ _ (by omega), sI_ne _ _ (by omega), sI_ne _ _ (by omega), sI_ne _ _ (by omega), sI_ne _ _ (by omega), sI_ne _ _ (by omega), sI_ne _ _ (by omega)]
    rfl
theorem bg_w_11 {h : AH} (hw : WF h) : WF (bgH_11 h) := wf_R (h := h) hw rfl
theorem bg_rd_11 {h : AH} {zb : Nat → Nat} {zn : Nat} (hw : WF h) (hT : TCz h zb zn) : RDs 11 zb zn 0 pS0 (bgH_11 h) := by
  refine ⟨⟨bg_w_11 hw, ⟨hT.1, hT.2.1, fun zk hk => hT.2.2 zk hk⟩, rfl, Nat.zero_le _⟩, rfl, ⟨rfl, rfl, rfl, fun zk hk => absurd hk (Nat.not_lt_zero _), fun zk hk => ?_, fun zk hk => absurd hk (Nat.not_lt_zero _)⟩, rfl, rfl, fun zk h1 h2 => ?_⟩
  · show flI 1 (h.2.1 16) 6 zk = _ ∧ flI 10 (h.2.1 17) 6 zk = _
    rw [flI_at, flI_at, if_pos hk, if_pos hk]
    exact ⟨rfl, rfl⟩
  · show flI 0 (h.2.1 12) 12 zk = 0 ∧ flI 0 (h.2.1 13) 12 zk = 0 ∧ flI 0 (h.2.1 14) 12 zk = 0 ∧ flI 0 (h.2.1 15) 12 zk = 0
    rw [flI_at, flI_at, flI_at, flI_at, if_pos h2, if_pos h2, if_pos h2, if_pos h2]
    exact ⟨rfl, rfl, rfl, rfl⟩
def XT_11 (zR : (Nat × Nat) × Nat × PSt) (h g : AH) (zx : Int32) : Prop := FrD 11 h g ∧ (¬ zR.1.1 = 0 → g.2.1 19 3 = nI zR.1.1 ∧ g.2.1 19 4 = nI zR.1.2) ∧ (zR.1.1 = 0 → g.2.1 19 3 = 0 ∧ SDz zR.2.2 11 g ∧ POK zR.2.2 ∧ zx = nI zR.2.1)
theorem lp_ctext_11 (E : ME) (h : AH) (zb : Nat → Nat) (zn : Nat) {post : PO} (zR : (Nat × Nat) × Nat × PSt) (hX : XOK E) (K : ∀ (g : AH) (zx : Int32), WF g → XT_11 zR h g zx → Ev E mX10_text (rmm 7 0 0) (QM E 0 0 post) 0 0 36 [some (.ref 0), some (.int zx), none] [] g) : ∀ (zf zp zl : Nat) (zt : PSt) (zg : AH), RDs 11 zb zn zp zt zg → POK zt → zg.2.1 19 3 = 0 → FrD 11 h zg → zn + 1 ≤ zp + zf → zl ≤ zp → txtF zb zn zf zp zl zt = zR → Ev E mX10_text (rmm 7 0 0) (QM E 0 0 post) 0 0 13 [some (.ref 0), some (.int (nI zl)), none] [] zg := by
  intro zf
  induction zf with
  | zero =>
    intro zp zl zt zg hD hO h3 hF hz hl e
    have z1 := hD.1.2.2.2
    omega
  | succ zf ih =>
    intro zp zl zt zg hD hO h3 hF hz hl e
    have z1 := hD.1.2.2.2
    have z4 := hD.1.2.1.2.1
    refine ev_iload_n (pc := 13) dX10_text_13 rfl ?_
    refine ev_sipush (pc := 14) (v := 400) dX10_text_14 (by decide) ?_
    refine ev_icmp_gt (pc := 17) (tgt := 36) dX10_text_17 (by decide) (fun zc17 => absurd zc17 (nI_nlt (a := 400) (b := zl) (by omega) (by decide))) (fun zc17 => ?_)
    refine ev_aload_n (pc := 20) dX10_text_20 rfl ?_
    refine ev_getR (pc := 21) (q := 19) dX10_text_21 fX10_31 rfl (wlt hD.1.1 (by decide)) (wr hD.1.1 rfl) ?_
    refine ev_callV (S := []) (pc := 24) dX10_text_24 kX5_takeLine lX10_100 vX5_takeLine (cn_X5_takeLine_11 E zg zb zn zp zt hD hO hX) rfl rfl (wlt hD.1.1 (by decide)) rfl rfl (Nat.le_of_ble_eq_true rfl) ⟨Nat.le_of_ble_eq_true rfl, Nat.le_of_ble_eq_true rfl⟩ ⟨Nat.le_of_ble_eq_true rfl, Nat.le_of_ble_eq_true rfl⟩ ?_
    rintro _ zg1 ⟨zx1, rfl, hT1⟩
    have hF1 : FrD 11 zg zg1 := by
      by_cases z : tK zb zn zp = 1
      · exact FrD_T (hT1.1 z).2.1
      · exact (hT1.2 z).1
    refine ev_if_eq (pc := 27) (tgt := 36) dX10_text_27 (by decide) (fun zc27 => ?_) (fun zc27 => ?_)
    · -- eq at 27: taken
      refine K zg1 (nI zl) (FrD_w hF1 hD.1.1) ⟨FrD_t hF hF1, fun z => ?_, fun z => ?_⟩
      · by_cases hk : tK zb zn zp = 1
        · rw [← e, txtF, if_pos hk] at z
          exact absurd rfl z
        · have hL := hT1.2 hk
          by_cases hb : (linP zb zn zp zt).1.1 = 0
          · rw [(hL.2.1 hb).1] at zc27
            exact absurd zc27 (by decide)
          · rw [← e, txtF, if_neg hk, if_neg hb]
            exact (hL.2.2 hb).2
      · by_cases hk : tK zb zn zp = 1
        · have hT := hT1.1 hk
          rw [← e, txtF, if_pos hk]
          exact ⟨hT.2.2.trans h3, SD_T (by decide : (11 : Nat) = 3 ∨ 11 = 11) hT.2.1 hD.2.2, hO, rfl⟩
        · have hL := hT1.2 hk
          by_cases hb : (linP zb zn zp zt).1.1 = 0
          · rw [(hL.2.1 hb).1] at zc27
            exact absurd zc27 (by decide)
          · rw [← e, txtF, if_neg hk, if_neg hb] at z
            exact absurd z hb
    · -- eq at 27: not taken
      refine ev_iinc (pc := 30) (v := nI (zl + 1)) (L' := [some (.ref 0), some (.int (nI (zl + 1))), none]) dX10_text_30 rfl (nI_1 _) (Nat.le_of_ble_eq_true rfl) rfl ?_
      refine ev_goto (pc := 33) (tgt := 13) dX10_text_33 (by decide) ?_
      have hk : ¬ tK zb zn zp = 1 := fun z => zc27 (hT1.1 z).1
      have hL := hT1.2 hk
      have hb : (linP zb zn zp zt).1.1 = 0 := Classical.byContradiction (fun z => zc27 (hL.2.2 z).1)
      have hG := linP_gt z1 hb
      rw [txtF, if_neg hk, if_pos hb] at e
      exact ih (linP zb zn zp zt).2.1 (zl + 1) (linP zb zn zp zt).2.2 zg1 (hL.2.1 hb).2.1 (linP_ok hO hb) ((hL.2.1 hb).2.2.trans h3) (FrD_t hF hF1) (by omega) (by omega) e
theorem cn_X10_text_11 (E : ME) (h : AH) (zb : Nat → Nat) (zn : Nat) (hw : WF h) (hT : TCz h zb zn) (hX : XOK E) (h01 : h.2.2.2 0 1 = some 3) (h02 : h.2.2.2 0 2 = some 11) : Con E mX10_text 7 0 0 [.ref 0] h (fun r h' => ∃ zx, r = some (.int zx) ∧ (zx = if (txtP zb zn).1.1 = 0 then nI (txtP zb zn).2.1 else -10 - nI (txtP zb zn).1.2) ∧ (¬ (txtP zb zn).1.1 = 0 → ∃ g, FrD 11 (bgH_11 h) g ∧ g.2.1 19 3 = nI (txtP zb zn).1.1 ∧ h' = eT g) ∧ ((txtP zb zn).1.1 = 0 → POK (txtP zb zn).2.2 ∧ ∃ g, FrD 11 (bgH_11 h) g ∧ g.2.1 19 3 = 0 ∧ SDz (txtP zb zn).2.2 11 g ∧ h' = blH (lsH (swH (eT g) 11 3) (txtP zb zn).2.2) (txtP zb zn).2.2)) := by
  refine con_of2 (L := [some (.ref 0), none, none]) rfl (Nat.le_of_ble_eq_true rfl) rfl ?_
  refine ev_aload_n (pc := 0) dX10_text_0 rfl ?_
  refine ev_getR (pc := 1) (q := 19) dX10_text_1 fX10_31 rfl (wlt hw (by decide)) (wr hw rfl) ?_
  refine ev_aload_n (pc := 4) dX10_text_4 rfl ?_
  refine ev_getR (pc := 5) (q := 11) dX10_text_5 fX10_23 rfl (wlt hw (by decide)) h02 ?_
  refine ev_callV0 (S := []) (pc := 8) dX10_text_8 kX5_begin lX10_96 vX5_begin (cn_X5_begin_11 E h hw) rfl rfl (wlt hw (by decide)) rfl rfl (Nat.le_of_ble_eq_true rfl) ⟨Nat.le_of_ble_eq_true rfl, Nat.le_of_ble_eq_true rfl⟩ ⟨Nat.le_of_ble_eq_true rfl, Nat.le_of_ble_eq_true rfl⟩ ?_
  refine ev_eqH (h' := (bgH_11 h)) rfl ?_
  refine ev_iconst (pc := 11) (v := 0) dX10_text_11 (by decide) ?_
  refine ev_istore_n (pc := 12) (L' := [some (.ref 0), some (.int 0), none]) dX10_text_12 (Nat.le_of_ble_eq_true rfl) rfl ?_
  refine lp_ctext_11 E (bgH_11 h) zb zn (txtP zb zn) hX (fun g zx hwg hXT => ?_) (zn + 1) 0 0 pS0 (bgH_11 h) (bg_rd_11 hw hT) pS0_ok rfl ⟨rfl, rfl, fun _ _ _ _ => rfl, rfl⟩ (by omega) (Nat.le_refl _) rfl
  have hng : g.2.1 1 1 = nI zn := hXT.1.2.2.2.trans hT.1
  have hwe : WF (eT g) := hwg
  have h01g : g.2.2.2 0 1 = some 3 := by rw [hXT.1.2.1]; exact h01
  have h02g : g.2.2.2 0 2 = some 11 := by rw [hXT.1.2.1]; exact h02
  refine ev_aload_n (pc := 36) dX10_text_36 rfl ?_
  refine ev_getR (pc := 37) (q := 1) dX10_text_37 fX10_10 rfl (wlt hwg (by decide)) (wr hwg rfl) ?_
  refine ev_iconst (pc := 40) (v := 0) dX10_text_40 (by decide) ?_
  refine ev_callVv (S := []) (pc := 41) dX10_text_41 kX9_keep lX10_92 vX9_keep (cn_keep0 E g zn hwg hng hT.2.1) rfl rfl (wlt hwg (by decide)) rfl rfl (Nat.le_of_ble_eq_true rfl) ⟨Nat.le_of_ble_eq_true rfl, Nat.le_of_ble_eq_true rfl⟩ ⟨Nat.le_of_ble_eq_true rfl, Nat.le_of_ble_eq_true rfl⟩ ?_
  refine ev_eqH (h' := (eT g)) rfl ?_
  refine ev_pop (pc := 44) dX10_text_44 rfl ?_
  refine ev_aload_n (pc := 45) dX10_text_45 rfl ?_
  refine ev_getR (pc := 46) (q := 19) dX10_text_46 fX10_31 rfl (wlt hwe (by decide)) (wr hwe rfl) ?_
  refine ev_callVv (S := []) (pc := 49) dX10_text_49 kX5_faultFound lX10_104 vX5_faultFound (cn_X5_faultFound E (eT g) hwe) rfl rfl (wlt hwe (by decide)) rfl rfl (Nat.le_of_ble_eq_true rfl) ⟨Nat.le_of_ble_eq_true rfl, Nat.le_of_ble_eq_true rfl⟩ ⟨Nat.le_of_ble_eq_true rfl, Nat.le_of_ble_eq_true rfl⟩ ?_
  refine ev_if_eq (pc := 52) (tgt := 66) dX10_text_52 (by decide) (fun zc52 => ?_) (fun zc52 => ?_)
  · -- eq at 52: taken
    have hb : (txtP zb zn).1.1 = 0 := Classical.byContradiction (fun z => by
      have z1 := (hXT.2.1 z).1
      have z5 : (txtP zb zn).1.1 ≤ 5 := tx_5 zb zn _ _ _ _
      exact nb_0 z5 z (z1.symm.trans zc52))
    have hOk := (hXT.2.2 hb).2.2.1
    have hYk : STz (txtP zb zn).2.2 11 (swH (eT g) 11 3) := (hXT.2.2 hb).2.1.1
    have hYl : STz (txtP zb zn).2.2 11 (lsH (swH (eT g) 11 3) (txtP zb zn).2.2) := (hXT.2.2 hb).2.1.1
    refine ev_aload_n (pc := 66) dX10_text_66 rfl ?_
    refine ev_getR (pc := 67) (q := 3) dX10_text_67 fX10_19 rfl (wlt hwe (by decide)) h01g ?_
    refine ev_astore_n (pc := 70) (L' := [some (.ref 0), some (.int zx), some (.ref 3)]) dX10_text_70 (Nat.le_of_ble_eq_true rfl) rfl ?_
    refine ev_aload_n (pc := 71) dX10_text_71 rfl ?_
    refine ev_aload_n (pc := 72) dX10_text_72 rfl ?_
    refine ev_getR (pc := 73) (q := 11) dX10_text_73 fX10_23 rfl (wlt hwe (by decide)) h02g ?_
    refine ev_putR (pc := 76) dX10_text_76 fX10_19 rfl (wlt hwe (by decide)) (Or.inl rfl) ⟨rfl, rfl⟩ ?_
    refine ev_aload_n (pc := 79) dX10_text_79 rfl ?_
    refine ev_aload_n (pc := 80) dX10_text_80 rfl ?_
    refine ev_putR (pc := 81) dX10_text_81 fX10_23 rfl (wlt (wf_R hwe rfl) (by decide)) (Or.inl rfl) ⟨rfl, rfl⟩ ?_
    refine ev_eqH (h' := (swH (eT g) 11 3)) rfl ?_
    refine ev_aload_n (pc := 84) dX10_text_84 rfl ?_
    refine ev_getR (pc := 85) (q := 20) dX10_text_85 fX10_38 rfl (wlt (sw_w hwe) (by decide)) (wr (sw_w hwe) rfl) ?_
    refine ev_aload_n (pc := 88) dX10_text_88 rfl ?_
    refine ev_getR (pc := 89) (q := 11) dX10_text_89 fX10_19 rfl (wlt (sw_w hwe) (by decide)) rfl ?_
    refine ev_callV0 (S := []) (pc := 92) dX10_text_92 kX6_learn lX10_110 vX6_learn (cn_X6_learn_11 E (swH (eT g) 11 3) (txtP zb zn).2.2 (sw_w hwe) hYk hOk hOk.1) rfl rfl (wlt (sw_w hwe) (by decide)) rfl rfl (Nat.le_of_ble_eq_true rfl) ⟨Nat.le_of_ble_eq_true rfl, Nat.le_of_ble_eq_true rfl⟩ ⟨Nat.le_of_ble_eq_true rfl, Nat.le_of_ble_eq_true rfl⟩ ?_
    refine ev_eqH (h' := (lsH (swH (eT g) 11 3) (txtP zb zn).2.2)) rfl ?_
    refine ev_aload_n (pc := 95) dX10_text_95 rfl ?_
    refine ev_getR (pc := 96) (q := 30) dX10_text_96 fX10_52 rfl (wlt (sw_w (h := eT g) hwe) (by decide)) (wr (sw_w (h := eT g) hwe) rfl) ?_
    refine ev_aload_n (pc := 99) dX10_text_99 rfl ?_
    refine ev_getR (pc := 100) (q := 11) dX10_text_100 fX10_19 rfl (wlt (sw_w (h := eT g) hwe) (by decide)) rfl ?_
    refine ev_callV0 (S := []) (pc := 103) dX10_text_103 kX0_learn lX10_113 vX0_learn (cn_X0_learn_11 E (lsH (swH (eT g) 11 3) (txtP zb zn).2.2) (txtP zb zn).2.2 (sw_w (h := eT g) hwe) hYl hOk hOk.2.2.2.2.2.2.2) rfl rfl (wlt (sw_w (h := eT g) hwe) (by decide)) rfl rfl (Nat.le_of_ble_eq_true rfl) ⟨Nat.le_of_ble_eq_true rfl, Nat.le_of_ble_eq_true rfl⟩ ⟨Nat.le_of_ble_eq_true rfl, Nat.le_of_ble_eq_true rfl⟩ ?_
    refine ev_eqH (h' := (blH (lsH (swH (eT g) 11 3) (txtP zb zn).2.2) (txtP zb zn).2.2)) rfl ?_
    refine ev_iload_n (pc := 106) dX10_text_106 rfl ?_
    refine ev_iret (pc := 107) dX10_text_107 rfl ?_ ?_
    · rfl
    · refine ⟨_, rfl, ?_, fun z => absurd hb z, fun _ => ⟨hOk, g, hXT.1, (hXT.2.2 hb).1, (hXT.2.2 hb).2.1, rfl⟩⟩
      rw [if_pos hb, (hXT.2.2 hb).2.2.2]
  · -- eq at 52: not taken
    refine ev_bipush (pc := 55) (v := (-10)) dX10_text_55 (by decide) ?_
    refine ev_aload_n (pc := 57) dX10_text_57 rfl ?_
    refine ev_getR (pc := 58) (q := 19) dX10_text_58 fX10_31 rfl (wlt hwe (by decide)) (wr hwe rfl) ?_
    refine ev_callVv (S := [.int ((-10))]) (pc := 61) dX10_text_61 kX5_faultPlace lX10_107 vX5_faultPlace (cn_X5_faultPlace E (eT g) hwe) rfl rfl (wlt hwe (by decide)) rfl rfl (Nat.le_of_ble_eq_true rfl) ⟨Nat.le_of_ble_eq_true rfl, Nat.le_of_ble_eq_true rfl⟩ ⟨Nat.le_of_ble_eq_true rfl, Nat.le_of_ble_eq_true rfl⟩ ?_
    refine ev_isub (pc := 64) dX10_text_64 ?_
    refine ev_iret (pc := 65) dX10_text_65 rfl ?_ ?_
    · rfl
    · have hb : ¬ (txtP zb zn).1.1 = 0 := fun z => zc52 (hXT.2.2 z).1
      have hB := hXT.2.1 hb
      refine ⟨_, rfl, ?_, fun _ => ⟨g, hXT.1, hB.1, rfl⟩, fun z => absurd z hb⟩
      rw [if_neg hb]
      exact congrArg (fun z => -10 - z) hB.2
