/-- the model's memory tells what a text told -/
def ENz (zt : PSt) (g : AH) : Prop := g.2.1 49 14 = nI (zt.1 1) ∧ g.2.1 49 16 = nI (zt.1 2) ∧ g.2.1 49 17 = nI (zt.1 3) ∧ (∀ zk, zk < zt.1 1 → g.2.1 53 zk = nI (zt.2 0 zk) ∧ g.2.1 54 zk = nI (zt.2 1 zk) ∧ g.2.1 55 zk = nI (zt.2 2 zk ||| zt.2 3 zk)) ∧ (∀ zk, zk < 6 → g.2.1 57 zk = nI (zt.2 4 zk) ∧ g.2.1 58 zk = nI (zt.2 5 zk)) ∧ ∀ zk, zk < 16 * zt.1 2 → g.2.1 56 zk = clV (zt.2 6 zk)
def TXz (zr : (Nat × Nat) × Nat × PSt) (h g : AH) (zx : Int32) : Prop := (zx = if zr.1.1 = 0 then nI zr.2.1 else -10 - nI zr.1.2) ∧ g.1 = h.1 ∧ g.2.2 = h.2.2 ∧ (∀ zk, zk ≠ 49 → (zk < 53 ∨ 65 < zk) → g.2.1 zk = h.2.1 zk) ∧ (∀ zj, ¬ pFz zj → zj ≠ 1 → zj ≠ 2 → zj ≠ 14 → zj ≠ 16 → zj ≠ 17 → g.2.1 49 zj = h.2.1 49 zj) ∧ g.2.1 49 1 = 0 ∧ g.2.1 49 2 = nI zr.1.1 ∧ (¬ zr.1.1 = 0 → (∀ zk, 53 ≤ zk → zk ≤ 58 → g.2.1 zk = h.2.1 zk) ∧ g.2.1 49 14 = h.2.1 49 14 ∧ g.2.1 49 16 = h.2.1 49 16 ∧ g.2.1 49 17 = h.2.1 49 17) ∧ (zr.1.1 = 0 → POK zr.2.2 ∧ ENz zr.2.2 g)
theorem cn_X11_text (E : ME) (h : AH) (zb : Nat → Nat) (zn : Nat) (hw : WF h) (hT : TMz h zb zn) (hC : KTz h) : Con E mX11_text 4 0 0 [.ref 49] h (fun r h' => ∃ zx, r = some (.int zx) ∧ TXz (txtP zb zn) h h' zx) := by
  refine con_of2 (L := [some (.ref 49), none, none]) rfl (Nat.le_of_ble_eq_true rfl) rfl ?_
  refine ev_aload_n (pc := 0) dX11_text_0 rfl ?_
  refine ev_iconst (pc := 1) (v := 0) dX11_text_1 (by decide) ?_
  refine ev_putI (pc := 2) dX11_text_2 fX11_100 rfl (wlt hw (by decide)) ?_
  refine ev_eqH (h' := sI h 49 (upd (h.2.1 49) 3 0)) (by rfl) ?_
  refine ev_aload_n (pc := 5) dX11_text_5 rfl ?_
  refine ev_iconst (pc := 6) (v := 0) dX11_text_6 (by decide) ?_
  refine ev_putI (pc := 7) dX11_text_7 fX11_109 rfl (wlt (wf_sI hw) (by decide)) ?_
  refine ev_eqH (h' := sI h 49 (upd (upd (h.2.1 49) 3 0) 5 0)) (by exact sI_sI _ _ _ _) ?_
  refine ev_aload_n (pc := 10) dX11_text_10 rfl ?_
  refine ev_iconst (pc := 11) (v := 0) dX11_text_11 (by decide) ?_
  refine ev_putI (pc := 12) dX11_text_12 fX11_134 rfl (wlt (wf_sI hw) (by decide)) ?_
  refine ev_eqH (h' := sI h 49 (upd (upd (upd (h.2.1 49) 3 0) 5 0) 24 0)) (by exact sI_sI _ _ _ _) ?_
  refine ev_aload_n (pc := 15) dX11_text_15 rfl ?_
  refine ev_iconst (pc := 16) (v := 0) dX11_text_16 (by decide) ?_
  refine ev_putI (pc := 17) dX11_text_17 fX11_149 rfl (wlt (wf_sI hw) (by decide)) ?_
  refine ev_eqH (h' := sI h 49 (upd (upd (upd (upd (h.2.1 49) 3 0) 5 0) 24 0) 26 0)) (by exact sI_sI _ _ _ _) ?_
  refine ev_aload_n (pc := 20) dX11_text_20 rfl ?_
  refine ev_bipush (pc := 21) (v := 10) dX11_text_21 (by decide) ?_
  refine ev_putI (pc := 23) dX11_text_23 fX11_169 rfl (wlt (wf_sI hw) (by decide)) ?_
  refine ev_eqH (h' := sI h 49 (upd (upd (upd (upd (upd (h.2.1 49) 3 0) 5 0) 24 0) 26 0) 27 10)) (by exact sI_sI _ _ _ _) ?_
  refine ev_aload_n (pc := 26) dX11_text_26 rfl ?_
  refine ev_iconst (pc := 27) (v := 0) dX11_text_27 (by decide) ?_
  refine ev_putZ (pc := 28) dX11_text_28 fX11_165 rfl (wlt (wf_sI hw) (by decide)) (by decide) ?_
  refine ev_eqH (h' := sI h 49 (upd (upd (upd (upd (upd (upd (h.2.1 49) 3 0) 5 0) 24 0) 26 0) 27 10) 30 0)) (by exact sI_sI _ _ _ _) ?_
  refine ev_aload_n (pc := 31) dX11_text_31 rfl ?_
  refine ev_iconst (pc := 32) (v := 0) dX11_text_32 (by decide) ?_
  refine ev_putI (pc := 33) dX11_text_33 fX11_146 rfl (wlt (wf_sI hw) (by decide)) ?_
  refine ev_eqH (h' := sI h 49 (upd (upd (upd (upd (upd (upd (upd (h.2.1 49) 3 0) 5 0) 24 0) 26 0) 27 10) 30 0) 31 0)) (by exact sI_sI _ _ _ _) ?_
  refine ev_iconst (pc := 36) (v := 0) dX11_text_36 (by decide) ?_
  refine ev_istore_n (pc := 37) (L' := [some (.ref 49), some (.int 0), none]) dX11_text_37 (Nat.le_of_ble_eq_true rfl) rfl ?_
  refine ev_iconst (pc := 38) (v := 0) dX11_text_38 (by decide) ?_
  refine ev_istore_n (pc := 39) (L' := [some (.ref 49), some (.int 0), some (.int 0)]) dX11_text_39 (Nat.le_of_ble_eq_true rfl) rfl ?_
  refine ev_nmH (fun zh1 ezh1 => ?_)
  have wzh1 : WF zh1 := by rw [ezh1]; exact (wf_sI hw)
  refine ev_eqH (h' := sI (sI zh1 64 (zh1.2.1 64)) 65 (zh1.2.1 65)) (by rw [sI_id, sI_id]) ?_
  refine lp_text_40 E zh1 wzh1 ?_ 6 0 (Nat.zero_add _)
  refine ev_nmH (fun zh2 ezh2 => ?_)
  have wzh2 : WF zh2 := by rw [ezh2]; exact (wf_sI (wf_sI wzh1))
  have hT2 : TMz zh2 zb zn := by rw [ezh2, ezh1]; exact hT
  have hC2 : KTz zh2 := by rw [ezh2, ezh1]; exact hC
  have hv2 : ScZ pS0 zh2 := by rw [ezh2, ezh1]; exact ⟨rfl, rfl, rfl, rfl, rfl⟩
  have hA2 : ArZ pS0 zh2 := by
    refine ⟨fun zk hk => absurd hk (Nat.not_lt_zero _), fun zk hk => ?_, fun zk hk => absurd hk (Nat.not_lt_zero _)⟩
    rw [ezh2]
    show cpF (fun _ => 1) _ 6 zk = _ ∧ cpF (fun _ => 10) _ 6 zk = _
    rw [cpF_at, cpF_at, if_pos hk, if_pos hk]
    exact ⟨rfl, rfl⟩
  have hF2 : FrM h zh2 := by
    rw [ezh2, ezh1]
    exact FrM_r (FrM_r (FrM_49 (FrM_0 h) (fun zj hj => by simp only [upd]; (repeat' split) <;> first | rfl | (exfalso; unfold pFz at hj; omega))) (by decide) (by decide)) (by decide) (by decide)
  have hw3 : zh2.2.1 49 3 = 0 := by rw [ezh2, ezh1]; rfl
  have hw5 : zh2.2.1 49 5 = nI 0 := by rw [ezh2, ezh1]; rfl
  refine ev_aload_n (pc := 67) dX11_text_67 rfl ?_
  refine ev_callV (S := []) (pc := 68) dX11_text_68 kX11_next lX11_137 vX11_next (cn_X11_next E zh2 zb zn 0 wzh2 hT2 hw3 hw5 (Nat.zero_le _)) rfl rfl (wlt wzh2 (by decide)) rfl rfl (Nat.le_of_ble_eq_true rfl) ⟨Nat.le_of_ble_eq_true rfl, Nat.le_of_ble_eq_true rfl⟩ ⟨Nat.le_of_ble_eq_true rfl, Nat.le_of_ble_eq_true rfl⟩ ?_
  rintro _ zg ⟨rfl, hs, hL⟩
  have wzg := scE_w hs wzh2
  refine ev_less (L' := [some (.ref 49), some (.int 0), none]) (ls_keep (ls_keep (ls_drop (ls_nil _)))) ?_
  refine lp_text_71 E h zb zn (txtP zb zn) (fun zg2 zx hX => ?_) (zn + 1) 0 0 pS0 zg wzg (scE_T hs hT2) (FrM_K (FrM_s (FrM_0 _) hs) hC2) hL (Nat.zero_le _) ⟨scE_S hs hv2, scE_A hs hA2⟩ pS0_ok (FrM_s hF2 hs) (by omega) rfl
  have wg2 := FrM_w hX.1 hw
  have h5 : (txtP zb zn).1.1 ≤ 5 := tx_5 _ _ _ _ _ _
  by_cases hc : (txtP zb zn).1.1 = 0
  · obtain ⟨h30, hMM, hO, hxl⟩ := hX.2.2 hc
    refine ev_aload_n (pc := 95) dX11_text_95 rfl ?_
    refine ev_iconst (pc := 96) (v := 0) dX11_text_96 (by decide) ?_
    refine ev_putI (pc := 97) dX11_text_97 fX11_93 rfl (wlt wg2 (by decide)) ?_
    refine ev_eqH (h' := sI zg2 49 (upd (zg2.2.1 49) 1 0)) (by rfl) ?_
    refine ev_aload_n (pc := 100) dX11_text_100 rfl ?_
    refine ev_aload_n (pc := 101) dX11_text_101 rfl ?_
    refine ev_getI (pc := 102) dX11_text_102 fX11_100 rfl (wlt (wf_sI wg2) (by decide)) ?_
    refine ev_eqI (e' := zg2.2.1 49 3) (by rfl) ?_
    refine ev_putI (pc := 105) dX11_text_105 fX11_181 rfl (wlt (wf_sI wg2) (by decide)) ?_
    refine ev_eqH (h' := sI zg2 49 (upd (upd (zg2.2.1 49) 1 0) 2 (zg2.2.1 49 3))) (by exact sI_sI _ _ _ _) ?_
    refine ev_aload_n (pc := 108) dX11_text_108 rfl ?_
    refine ev_getI (pc := 109) dX11_text_109 fX11_100 rfl (wlt (wf_sI wg2) (by decide)) ?_
    refine ev_eqI (e' := zg2.2.1 49 3) (by rfl) ?_
    refine ev_if_le (pc := 112) (tgt := 123) dX11_text_112 (by decide) (fun zc112 => ?_) (fun zc112 => absurd (by rw [h30]; decide) zc112)
    refine ev_aload_n (pc := 123) dX11_text_123 rfl ?_
    refine ev_aload_n (pc := 124) dX11_text_124 rfl ?_
    refine ev_getI (pc := 125) dX11_text_125 fX11_134 rfl (wlt (wf_sI wg2) (by decide)) ?_
    refine ev_eqI (e' := zg2.2.1 49 24) (by rfl) ?_
    refine ev_eqI (e' := nI ((txtP zb zn).2.2.1 1)) hMM.1.1 ?_
    refine ev_putI (pc := 128) dX11_text_128 fX11_184 rfl (wlt (wf_sI wg2) (by decide)) ?_
    refine ev_eqH (h' := sI zg2 49 (upd (upd (upd (zg2.2.1 49) 1 0) 2 (zg2.2.1 49 3)) 14 (nI ((txtP zb zn).2.2.1 1)))) (by exact sI_sI _ _ _ _) ?_
    refine ev_aload_n (pc := 131) dX11_text_131 rfl ?_
    refine ev_aload_n (pc := 132) dX11_text_132 rfl ?_
    refine ev_getI (pc := 133) dX11_text_133 fX11_149 rfl (wlt (wf_sI wg2) (by decide)) ?_
    refine ev_eqI (e' := zg2.2.1 49 26) (by rfl) ?_
    refine ev_eqI (e' := nI ((txtP zb zn).2.2.1 2)) hMM.1.2.1 ?_
    refine ev_putI (pc := 136) dX11_text_136 fX11_187 rfl (wlt (wf_sI wg2) (by decide)) ?_
    refine ev_eqH (h' := sI zg2 49 (upd (upd (upd (upd (zg2.2.1 49) 1 0) 2 (zg2.2.1 49 3)) 14 (nI ((txtP zb zn).2.2.1 1))) 16 (nI ((txtP zb zn).2.2.1 2)))) (by exact sI_sI _ _ _ _) ?_
    refine ev_aload_n (pc := 139) dX11_text_139 rfl ?_
    refine ev_aload_n (pc := 140) dX11_text_140 rfl ?_
    refine ev_getI (pc := 141) dX11_text_141 fX11_169 rfl (wlt (wf_sI wg2) (by decide)) ?_
    refine ev_eqI (e' := zg2.2.1 49 27) (by rfl) ?_
    refine ev_eqI (e' := nI ((txtP zb zn).2.2.1 3)) hMM.1.2.2.1 ?_
    refine ev_putI (pc := 144) dX11_text_144 fX11_31 rfl (wlt (wf_sI wg2) (by decide)) ?_
    refine ev_eqH (h' := sI zg2 49 (upd (upd (upd (upd (upd (zg2.2.1 49) 1 0) 2 (zg2.2.1 49 3)) 14 (nI ((txtP zb zn).2.2.1 1))) 16 (nI ((txtP zb zn).2.2.1 2))) 17 (nI ((txtP zb zn).2.2.1 3)))) (by exact sI_sI _ _ _ _) ?_
    refine ev_iconst (pc := 147) (v := 0) dX11_text_147 (by decide) ?_
    refine ev_istore_n (pc := 148) (L' := [some (.ref 49), some (.int zx), some (.int 0)]) dX11_text_148 (Nat.le_of_ble_eq_true rfl) rfl ?_
    refine ev_nmH (fun zh3 ezh3 => ?_)
    have wzh3 : WF zh3 := by rw [ezh3]; exact (wf_sI wg2)
    have hm3 : zh3.2.1 49 14 = nI ((txtP zb zn).2.2.1 1) := by rw [ezh3]; rfl
    refine ev_eqH (h' := sI (sI (sI zh3 53 (zh3.2.1 53)) 54 (zh3.2.1 54)) 55 (zh3.2.1 55)) (by rw [sI_id, sI_id, sI_id]) ?_
    refine lp_text_149 E zh3 ((txtP zb zn).2.2.1 1) zx wzh3 hm3 hO.1 ?_ ((txtP zb zn).2.2.1 1) 0 (Nat.zero_add _)
    refine ev_nmH (fun zh4 ezh4 => ?_)
    have wzh4 : WF zh4 := by rw [ezh4]; exact (wf_sI (wf_sI (wf_sI wzh3)))
    refine ev_iconst (pc := 199) (v := 0) dX11_text_199 (by decide) ?_
    refine ev_istore_n (pc := 200) (L' := [some (.ref 49), some (.int zx), some (.int 0)]) dX11_text_200 (Nat.le_of_ble_eq_true rfl) rfl ?_
    refine ev_eqH (sI_id zh4 56).symm ?_
    refine lp_text_201 E zh4 zx wzh4 ?_ 64 0 (Nat.zero_add _)
    refine ev_nmH (fun zh5 ezh5 => ?_)
    have wzh5 : WF zh5 := by rw [ezh5]; exact (wf_sI wzh4)
    refine ev_iconst (pc := 225) (v := 0) dX11_text_225 (by decide) ?_
    refine ev_istore_n (pc := 226) (L' := [some (.ref 49), some (.int zx), some (.int 0)]) dX11_text_226 (Nat.le_of_ble_eq_true rfl) rfl ?_
    refine ev_eqH (h' := sI (sI zh5 57 (zh5.2.1 57)) 58 (zh5.2.1 58)) (by rw [sI_id, sI_id]) ?_
    refine lp_text_227 E zh5 zx wzh5 ?_ 6 0 (Nat.zero_add _)
    refine ev_iload_n (pc := 263) dX11_text_263 rfl ?_
    refine ev_iret (pc := 264) dX11_text_264 rfl ?_ ?_
    · rfl
    · subst ezh5 ezh4 ezh3
      obtain ⟨x1, x2, x3, x4⟩ := hX.1
      refine ⟨_, rfl, ?_, x1, x2, fun zk hk hk2 => ?_, fun zj h1 h2 h3 h4 h5 h6 => ?_, rfl, ?_, fun z => absurd hc z, fun _ => ⟨hO, rfl, rfl, rfl, fun zk hk => ?_, fun zk hk => ?_, fun zk hk => ?_⟩⟩
      · rw [if_pos hc]; exact hxl
      · refine ((sI_ne _ _ (by omega)).trans ((sI_ne _ _ (by omega)).trans ((sI_ne _ _ (by omega)).trans ((sI_ne _ _ (by omega)).trans ((sI_ne _ _ (by omega)).trans ((sI_ne _ _ (by omega)).trans ((sI_ne _ _ hk).trans ?_)))))))
        exact x3 zk hk (by omega)
      · show upd (upd (upd (upd (upd (zg2.2.1 49) 1 0) 2 (zg2.2.1 49 3)) 14 _) 16 _) 17 _ zj = _
        rw [pk_un h6, pk_un h5, pk_un h4, pk_un h3, pk_un h2]
        exact x4 zj h1
      · show zg2.2.1 49 3 = _
        rw [h30, hc]; rfl
      · show cpF (zg2.2.1 59) _ _ zk = _ ∧ cpF (zg2.2.1 60) _ _ zk = _ ∧ cpF (zg2.2.1 61) _ _ zk = _
        rw [cpF_at, cpF_at, cpF_at, if_pos hk, if_pos hk, if_pos hk]
        have h9 := hMM.2.1 zk hk
        exact ⟨h9.1, h9.2.1, h9.2.2.1⟩
      · show cpF (zg2.2.1 64) _ 6 zk = _ ∧ cpF (zg2.2.1 65) _ 6 zk = _
        rw [cpF_at, cpF_at, if_pos hk, if_pos hk]
        exact hMM.2.2.1 zk hk
      · show cpF (zg2.2.1 63) _ 64 zk = _
        rw [cpF_at, if_pos (by have := hO.2.1; omega)]
        exact hMM.2.2.2 zk hk
  · obtain ⟨h3, h4⟩ := hX.2.1 hc
    refine ev_aload_n (pc := 95) dX11_text_95 rfl ?_
    refine ev_iconst (pc := 96) (v := 0) dX11_text_96 (by decide) ?_
    refine ev_putI (pc := 97) dX11_text_97 fX11_93 rfl (wlt wg2 (by decide)) ?_
    refine ev_eqH (h' := sI zg2 49 (upd (zg2.2.1 49) 1 0)) (by rfl) ?_
    refine ev_aload_n (pc := 100) dX11_text_100 rfl ?_
    refine ev_aload_n (pc := 101) dX11_text_101 rfl ?_
    refine ev_getI (pc := 102) dX11_text_102 fX11_100 rfl (wlt (wf_sI wg2) (by decide)) ?_
    refine ev_eqI (e' := zg2.2.1 49 3) (by rfl) ?_
    refine ev_putI (pc := 105) dX11_text_105 fX11_181 rfl (wlt (wf_sI wg2) (by decide)) ?_
    refine ev_eqH (h' := sI zg2 49 (upd (upd (zg2.2.1 49) 1 0) 2 (zg2.2.1 49 3))) (by exact sI_sI _ _ _ _) ?_
    refine ev_aload_n (pc := 108) dX11_text_108 rfl ?_
    refine ev_getI (pc := 109) dX11_text_109 fX11_100 rfl (wlt (wf_sI wg2) (by decide)) ?_
    refine ev_eqI (e' := zg2.2.1 49 3) (by rfl) ?_
    refine ev_if_le (pc := 112) (tgt := 123) dX11_text_112 (by decide) (fun zc112 => absurd zc112 ((i_le2 _ _).mpr (c5_p h5 hc h3))) (fun zc112 => ?_)
    refine ev_bipush (pc := 115) (v := (-10)) dX11_text_115 (by decide) ?_
    refine ev_aload_n (pc := 117) dX11_text_117 rfl ?_
    refine ev_getI (pc := 118) dX11_text_118 fX11_106 rfl (wlt (wf_sI wg2) (by decide)) ?_
    refine ev_eqI (e' := zg2.2.1 49 4) (by rfl) ?_
    refine ev_isub (pc := 121) dX11_text_121 ?_
    refine ev_iret (pc := 122) dX11_text_122 rfl ?_ ?_
    · rfl
    · refine ⟨_, rfl, ?_⟩
      obtain ⟨x1, x2, x3, x4⟩ := hX.1
      refine ⟨?_, x1, x2, fun zk hk hk2 => ?_, fun zj h1 h2 h3 h4 h5 h6 => ?_, rfl, h3, fun _ => ⟨fun zk h1 h2 => ?_, ?_, ?_, ?_⟩, fun z => absurd z hc⟩
      · rw [if_neg hc, h4]
      · exact (if_neg hk).trans (x3 zk hk (by omega))
      · show upd (upd (zg2.2.1 49) 1 0) 2 (zg2.2.1 49 3) zj = _
        rw [pk_un h3, pk_un h2]
        exact x4 zj h1
      · exact (if_neg (by omega)).trans (x3 zk (by omega) (by omega))
      · exact x4 14 (by unfold pFz; omega)
      · exact x4 16 (by unfold pFz; omega)
      · exact x4 17 (by unfold pFz; omega)
