def LNz (zb : Nat → Nat) (zn : Nat) (zr : LRs) (h g : AH) : Prop := FrM h g ∧ (¬ zr.1.1 = 0 → g.2.1 49 3 = nI zr.1.1 ∧ g.2.1 49 4 = nI zr.1.2) ∧ (zr.1.1 = 0 → MSz zr.2.2 g ∧ LAz zb zn zr.2.1 g)
theorem FrM_T {h g : AH} {zb : Nat → Nat} {zn : Nat} (hs : FrM h g) (hT : TMz h zb zn) : TMz g zb zn := ⟨(hs.2.2.2 1 (by unfold pFz; omega)).trans hT.1, hT.2.1, fun zk hk => by rw [hs.2.2.1 50 (by decide) (by decide)]; exact hT.2.2 zk hk⟩
theorem FrM_w {h g : AH} (hs : FrM h g) (hw : WF h) : WF g := by
  refine ⟨hs.1.trans hw.1, fun k j q hq => ?_⟩
  rw [hs.2.1]
  exact hw.2 k j q hq
theorem FrM_K {h g : AH} (hs : FrM h g) (hC : KTz h) : KTz g := by
  unfold KTz
  rw [hs.2.2.1 51 (by decide) (by decide), hs.2.2.1 52 (by decide) (by decide)]
  exact hC
theorem c5_p {zc : Nat} {g : AH} (h5 : zc ≤ 5) (h : ¬ zc = 0) (e : g.2.1 49 3 = nI zc) : 0 < g.2.1 49 3 := by rw [e]; exact nb_p h5 h
theorem c5_n {zc : Nat} {g : AH} (h5 : zc ≤ 5) (h : ¬ zc = 0) (e : g.2.1 49 3 = nI zc) : ¬ g.2.1 49 3 = 0 := by rw [e]; exact nb_0 h5 h
theorem ck_5 {za zb : Nat × Nat} (h1 : za.1 ≤ 5) (h2 : zb.1 ≤ 5) : (ckN za zb).1 ≤ 5 := by
  unfold ckN
  split
  · exact h2
  · exact h1
theorem if_5 {p : Prop} [Decidable p] {za zb : Nat} (h1 : za ≤ 5) (h2 : zb ≤ 5) : (if p then za else zb) ≤ 5 := by
  split
  · exact h1
  · exact h2
theorem wr_5 (zb : Nat → Nat) (zn zp : Nat) : wrK zb zn zp ≤ 5 := if_5 (by decide) (by decide)
theorem pt_5 (zb : Nat → Nat) (zn zm : Nat) : ∀ zf zc zp, (ptF zb zn zm zf zc zp).1.1 ≤ 5
  | 0, _, _ => by rw [ptF]; exact Nat.zero_le _
  | zf + 1, zc, zp => by
    rw [ptF]
    repeat' split
    · exact Nat.le_of_ble_eq_true rfl
    · exact pt_5 zb zn zm zf _ _
    · exact Nat.le_of_ble_eq_true rfl
    · exact wr_5 _ _ _
theorem bk_5 (zb : Nat → Nat) (zn : Nat) : ∀ zf za zp zg, (bkF4 zb zn zf za zp zg).1.1 ≤ 5
  | 0, _, _, _ => by rw [bkF4]; exact wr_5 _ _ _
  | zf + 1, za, zp, zg => by
    rw [bkF4]
    repeat' split
    · exact bk_5 zb zn zf _ _ _
    · exact Nat.le_of_ble_eq_true rfl
    · exact Nat.le_of_ble_eq_true rfl
    · exact Nat.le_of_ble_eq_true rfl
theorem lin_5 (zb : Nat → Nat) (zn zp : Nat) (zt : PSt) : (linB zb zn zp zt).1.1 ≤ 5 := by
  unfold linB
  repeat' split
  · exact ck_5 (if_5 (by decide) (by decide)) (ck_5 (fn_5 _ _ _ _ _) (ck_5 (fn_5 _ _ _ _ _) (wr_5 _ _ _)))
  · exact ck_5 (if_5 (by decide) (by decide)) (pt_5 _ _ _ _ _ _)
  · exact ck_5 (fn_5 _ _ _ _ _) (ck_5 (fn_5 _ _ _ _ _) (ck_5 (if_5 (by decide) (by decide)) (ck_5 (if_5 (by decide) (by decide)) (wr_5 _ _ _))))
  · exact ck_5 (if_5 (by decide) (by decide)) (ck_5 (fn_5 _ _ _ _ _) (wr_5 _ _ _))
  · exact ck_5 (fk_5 _ _ _ _) (ck_5 (if_5 (by decide) (by decide)) (ck_5 (if_5 (by decide) (by decide)) (ck_5 (fn_5 _ _ _ _ _) (ck_5 (fn_5 _ _ _ _ _) (wr_5 _ _ _)))))
  · exact ck_5 (if_5 (by decide) (by decide)) (bk_5 _ _ _ _ _ _)
  · exact Nat.le_of_ble_eq_true rfl
  · exact fk_5 _ _ _ _
theorem ln_tail (E : ME) (h zg : AH) (zb : Nat → Nat) (zn zp : Nat) (zt : PSt) (zx : Int32) (hw : WF h) (hT : TMz h zb zn) (hR : RBz zb zn (linB zb zn zp zt) h zg) (hq : (linB zb zn zp zt).2.1 ≤ zn) : Ev E mX11_readLine (rmm 3 0 0) (QM E 0 0 (fun r h' => r = none ∧ LNz zb zn (linP zb zn zp zt) h h')) 0 0 123 [some (.ref 49), some (.int zx)] [] zg := by
  have wg := FrM_w hR.1 hw
  have hTg := FrM_T hR.1 hT
  have zn4 := hT.2.1
  have z5 := lin_5 zb zn zp zt
  by_cases hB : (linB zb zn zp zt).1.1 = 0
  · obtain ⟨hM, hL, hk0⟩ := hR.2.2 hB
    refine ev_aload_n (pc := 123) dX11_readLine_123 rfl ?_
    refine ev_getI (pc := 124) dX11_readLine_124 fX11_100 rfl (wlt wg (by decide)) ?_
    refine ev_if_ne (pc := 127) (tgt := 143) dX11_readLine_127 (by decide) (fun zc127 => absurd (LA_w hL hk0) zc127) (fun zc127 => ?_)
    refine ev_aload_n (pc := 130) dX11_readLine_130 rfl ?_
    refine ev_getI (pc := 131) dX11_readLine_131 fX11_119 rfl (wlt wg (by decide)) ?_
    refine ev_iconst (pc := 134) (v := 3) dX11_readLine_134 (by decide) ?_
    refine ev_icmp_eq (pc := 135) (tgt := 143) dX11_readLine_135 (by decide) (fun zc135 => ?_) (fun zc135 => ?_)
    · -- eq at 135: taken
      refine ev_aload_n (pc := 143) dX11_readLine_143 rfl ?_
      have hp1 : (tE zb zn (linB zb zn zp zt).2.1) ≤ zn := (tE_le zb hq).2
      refine ev_callV (S := []) (pc := 144) dX11_readLine_144 kX11_next lX11_137 vX11_next (cn_X11_next E zg zb zn (tE zb zn (linB zb zn zp zt).2.1) wg hTg (LA_w hL hk0) hL.1 hp1) rfl rfl (wlt wg (by decide)) rfl rfl (Nat.le_of_ble_eq_true rfl) ⟨Nat.le_of_ble_eq_true rfl, Nat.le_of_ble_eq_true rfl⟩ ⟨Nat.le_of_ble_eq_true rfl, Nat.le_of_ble_eq_true rfl⟩ ?_
      rintro _ zg1 ⟨rfl, hs1, hL1⟩
      have wg1 := scE_w hs1 wg
      have hT1 := scE_T (zb := zb) (zn := zn) hs1 hTg
      have hv1 := scE_S (zt := (linB zb zn zp zt).2.2) hs1 hM.1
      have hF1 := FrM_s hR.1 hs1
      by_cases zk1 : tK zb zn (tE zb zn (linB zb zn zp zt).2.1) = 0
      · refine ev_ret (pc := 147) dX11_readLine_147 rfl ?_
        · have hc : (linP zb zn zp zt).1 = (fkK zb zn (linB zb zn zp zt).2.1 4, tS zb zn (linB zb zn zp zt).2.1) := ck_0 hB
          have hf : fkK zb zn (linB zb zn zp zt).2.1 4 = 0 := fk_0.mpr ((LA_3 (zk := 3) hL hk0 (by decide)).mp zc135)
          refine ⟨rfl, hF1, fun z => ?_, fun _ => ?_⟩
          · rw [hc, hf] at z; exact absurd rfl z
          · exact ⟨⟨hv1, scE_A hs1 hM.2⟩, hL1⟩
      · refine ev_ret (pc := 147) dX11_readLine_147 rfl ?_
        · have hc : (linP zb zn zp zt).1 = (fkK zb zn (linB zb zn zp zt).2.1 4, tS zb zn (linB zb zn zp zt).2.1) := ck_0 hB
          have hf : fkK zb zn (linB zb zn zp zt).2.1 4 = 0 := fk_0.mpr ((LA_3 (zk := 3) hL hk0 (by decide)).mp zc135)
          refine ⟨rfl, hF1, fun z => ?_, fun _ => ?_⟩
          · rw [hc, hf] at z; exact absurd rfl z
          · exact ⟨⟨hv1, scE_A hs1 hM.2⟩, hL1⟩
    · -- eq at 135: not taken
      refine ev_aload_n (pc := 138) dX11_readLine_138 rfl ?_
      refine ev_iconst (pc := 139) (v := 2) dX11_readLine_139 (by decide) ?_
      refine ev_callV0 (S := []) (pc := 140) dX11_readLine_140 kX11_fails lX11_130 vX11_fails (cn_fails0 E zg 2 wg (LA_w hL hk0)) rfl rfl (wlt wg (by decide)) rfl rfl (Nat.le_of_ble_eq_true rfl) ⟨Nat.le_of_ble_eq_true rfl, Nat.le_of_ble_eq_true rfl⟩ ⟨Nat.le_of_ble_eq_true rfl, Nat.le_of_ble_eq_true rfl⟩ ?_
      refine ev_eqH (h' := sI zg 49 (upd (upd (zg.2.1 49) 3 2) 4 (zg.2.1 49 6))) (by first | exact (sI_sI _ _ _ _).trans rfl | rfl) ?_
      refine ev_aload_n (pc := 143) dX11_readLine_143 rfl ?_
      refine ev_callV0 (S := []) (pc := 144) dX11_readLine_144 kX11_next lX11_137 vX11_next (cn_X11_nextW E (sI zg 49 (upd (upd (zg.2.1 49) 3 2) 4 (zg.2.1 49 6))) (wf_sI wg) (show (0 : Int32) < 2 by decide)) rfl rfl (wlt (wf_sI wg) (by decide)) rfl rfl (Nat.le_of_ble_eq_true rfl) ⟨Nat.le_of_ble_eq_true rfl, Nat.le_of_ble_eq_true rfl⟩ ⟨Nat.le_of_ble_eq_true rfl, Nat.le_of_ble_eq_true rfl⟩ ?_
      refine ev_ret (pc := 147) dX11_readLine_147 rfl ?_
      · have hc : (linP zb zn zp zt).1 = (fkK zb zn (linB zb zn zp zt).2.1 4, tS zb zn (linB zb zn zp zt).2.1) := ck_0 hB
        have hf : fkK zb zn (linB zb zn zp zt).2.1 4 = 2 := by unfold fkK; rw [if_neg (fun z => zc135 ((LA_3 (zk := 3) hL hk0 (by decide)).mpr z)), if_neg hk0]
        refine ⟨rfl, (FrM_49 hR.1 (fun zj hj => by simp only [upd]; (repeat' split) <;> first | rfl | (exfalso; unfold pFz at hj; omega))), fun _ => ?_, fun z => ?_⟩
        · rw [hc, hf]; exact ⟨rfl, hL.2.1⟩
        · rw [hc, hf] at z; exact absurd z (show ¬ (2 : Nat) = 0 by decide)
  · obtain ⟨h3, h4⟩ := hR.2.1 hB
    refine ev_aload_n (pc := 123) dX11_readLine_123 rfl ?_
    refine ev_getI (pc := 124) dX11_readLine_124 fX11_100 rfl (wlt wg (by decide)) ?_
    refine ev_if_ne (pc := 127) (tgt := 143) dX11_readLine_127 (by decide) (fun zc127 => ?_) (fun zc127 => absurd zc127 (c5_n z5 hB h3))
    refine ev_aload_n (pc := 143) dX11_readLine_143 rfl ?_
    refine ev_callV0 (S := []) (pc := 144) dX11_readLine_144 kX11_next lX11_137 vX11_next (cn_X11_nextW E zg wg (c5_p z5 hB h3)) rfl rfl (wlt wg (by decide)) rfl rfl (Nat.le_of_ble_eq_true rfl) ⟨Nat.le_of_ble_eq_true rfl, Nat.le_of_ble_eq_true rfl⟩ ⟨Nat.le_of_ble_eq_true rfl, Nat.le_of_ble_eq_true rfl⟩ ?_
    refine ev_ret (pc := 147) dX11_readLine_147 rfl ?_
    · have hc : (linP zb zn zp zt).1 = (linB zb zn zp zt).1 := ck_1 hB
      refine ⟨rfl, hR.1, fun _ => ?_, fun z => ?_⟩
      · rw [hc]; exact ⟨h3, h4⟩
      · rw [hc] at z; exact absurd z hB
theorem ln_apart (E : ME) (h : AH) (zb : Nat → Nat) (zn zp : Nat) (zt : PSt) (hw : WF h) (hT : TMz h zb zn) (hL : LAz zb zn zp h) (hk0 : ¬ tK zb zn zp = 0) (hp : zp ≤ zn) (hM : MSz zt h) (hO : POK zt) {post : PO} (K : ∀ zg : AH, RBz zb zn (apaB zb zn (tS zb zn zp) (tE zb zn zp) zt) h zg → Ev E mX11_readLine (rmm 3 0 0) (QM E 0 0 post) 0 0 123 [some (.ref 49), some (.int 3)] [] zg) : Ev E mX11_readLine (rmm 3 0 0) (QM E 0 0 post) 0 0 68 [some (.ref 49), some (.int 3)] [] h := by
  have zn4 := hT.2.1
  have z41 := hO.2.2.2.1
  refine ev_aload_n (pc := 68) dX11_readLine_68 rfl ?_
  refine ev_getI (pc := 69) dX11_readLine_69 fX11_165 rfl (wlt hw (by decide)) ?_
  refine ev_eqI (e' := nI (zt.1 4)) hM.1.2.2.2.1 ?_
  refine ev_if_eq (pc := 72) (tgt := 80) dX11_readLine_72 (by decide) (fun zc72 => ?_) (fun zc72 => ?_)
  · -- eq at 72: taken
    refine ev_aload_n (pc := 80) dX11_readLine_80 rfl ?_
    refine ev_iconst (pc := 81) (v := 1) dX11_readLine_81 (by decide) ?_
    refine ev_putZ (pc := 82) dX11_readLine_82 fX11_165 rfl (wlt hw (by decide)) (by decide) ?_
    refine ev_eqH (h' := sI h 49 (upd (h.2.1 49) 30 1)) (by rfl) ?_
    have hva : ScZ (upN zt.1 4 1, zt.2) (sI h 49 (upd (h.2.1 49) 30 1)) := ⟨hM.1.1, hM.1.2.1, hM.1.2.2.1, rfl, hM.1.2.2.2.2⟩
    refine ev_aload_n (pc := 85) dX11_readLine_85 rfl ?_
    have hp1 : (tE zb zn zp) ≤ zn := (tE_le zb hp).2
    refine ev_callV (S := []) (pc := 86) dX11_readLine_86 kX11_next lX11_137 vX11_next (cn_X11_next E (sI h 49 (upd (h.2.1 49) 30 1)) zb zn (tE zb zn zp) (wf_sI hw) hT (LA_w hL hk0) hL.1 hp1) rfl rfl (wlt (wf_sI hw) (by decide)) rfl rfl (Nat.le_of_ble_eq_true rfl) ⟨Nat.le_of_ble_eq_true rfl, Nat.le_of_ble_eq_true rfl⟩ ⟨Nat.le_of_ble_eq_true rfl, Nat.le_of_ble_eq_true rfl⟩ ?_
    rintro _ zg1 ⟨rfl, hs1, hL1⟩
    have wg1 := scE_w hs1 (wf_sI hw)
    have hT1 := scE_T (zb := zb) (zn := zn) hs1 hT
    have hv1 := scE_S (zt := (upN zt.1 4 1, zt.2)) hs1 hva
    have hF1 := FrM_s (FrM_49 (FrM_0 h) (fun zj hj => by simp only [upd]; (repeat' split) <;> first | rfl | (exfalso; unfold pFz at hj; omega))) hs1
    by_cases zk1 : tK zb zn (tE zb zn zp) = 0
    · refine ev_aload_n (pc := 89) dX11_readLine_89 rfl ?_
      refine ev_aload_n (pc := 90) dX11_readLine_90 rfl ?_
      refine ev_iconst (pc := 91) (v := 0) dX11_readLine_91 (by decide) ?_
      refine ev_bipush (pc := 92) (v := 99) dX11_readLine_92 (by decide) ?_
      refine ev_callVv (S := [.ref 49]) (pc := 94) dX11_readLine_94 kX11_number lX11_140 vX11_number (cn_X11_numberW E zg1 0 99 wg1 (LA_b hL1 zk1)) rfl rfl (wlt wg1 (by decide)) rfl rfl (Nat.le_of_ble_eq_true rfl) ⟨Nat.le_of_ble_eq_true rfl, Nat.le_of_ble_eq_true rfl⟩ ⟨Nat.le_of_ble_eq_true rfl, Nat.le_of_ble_eq_true rfl⟩ ?_
      refine ev_putI (pc := 97) dX11_readLine_97 fX11_169 rfl (wlt wg1 (by decide)) ?_
      refine ev_eqH (h' := sI zg1 49 (upd (zg1.2.1 49) 27 0)) (by rfl) ?_
      refine ev_aload_n (pc := 100) dX11_readLine_100 rfl ?_
      refine ev_callV0 (S := []) (pc := 101) dX11_readLine_101 kX11_next lX11_137 vX11_next (cn_X11_nextW E (sI zg1 49 (upd (zg1.2.1 49) 27 0)) (wf_sI wg1) (LA_p hL1 zk1)) rfl rfl (wlt (wf_sI wg1) (by decide)) rfl rfl (Nat.le_of_ble_eq_true rfl) ⟨Nat.le_of_ble_eq_true rfl, Nat.le_of_ble_eq_true rfl⟩ ⟨Nat.le_of_ble_eq_true rfl, Nat.le_of_ble_eq_true rfl⟩ ?_
      refine ev_goto (pc := 104) (tgt := 123) dX11_readLine_104 (by decide) ?_
      have hB : (apaB zb zn (tS zb zn zp) (tE zb zn zp) zt).1 = (wrK zb zn (tE zb zn zp), tS zb zn (tE zb zn zp)) := by
        unfold apaB
        exact (ck_0 (by exact (if_pos ((nI_eq (a := zt.1 4) (b := 0) (by omega) (by decide)).mp zc72)))).trans ((ck_1 (by show ¬ fnK _ _ _ _ _ = 0; rw [fn_w _ _ zk1, wr_1 zk1]; decide)).trans (by rw [fn_w _ _ zk1]))
      have hR : RBz zb zn (apaB zb zn (tS zb zn zp) (tE zb zn zp) zt) h (sI zg1 49 (upd (zg1.2.1 49) 27 0)) := RB_bad (FrM_49 hF1 (fun zj hj => by simp only [upd]; (repeat' split) <;> first | rfl | (exfalso; unfold pFz at hj; omega))) hB (by rw [wr_1 zk1]; decide) hL1.2.2.2.2.1 (hL1.2.2.2.2.2 zk1)
      refine ev_less (L' := [some (.ref 49), some (.int 3)]) (ls_keep (ls_keep (ls_nil _))) ?_
      exact K _ hR
    · refine ev_aload_n (pc := 89) dX11_readLine_89 rfl ?_
      refine ev_aload_n (pc := 90) dX11_readLine_90 rfl ?_
      refine ev_iconst (pc := 91) (v := 0) dX11_readLine_91 (by decide) ?_
      refine ev_bipush (pc := 92) (v := 99) dX11_readLine_92 (by decide) ?_
      by_cases zf2 : fnK zb zn (tE zb zn zp) 0 100 = 0
      · refine ev_callVv (S := [.ref 49]) (pc := 94) dX11_readLine_94 kX11_number lX11_140 vX11_number (cn_numOK E zg1 zb zn (tE zb zn zp) 0 100 99 wg1 hL1 (zk1) hp1 (by decide) (by decide) (by decide) zf2) rfl rfl (wlt wg1 (by decide)) rfl rfl (Nat.le_of_ble_eq_true rfl) ⟨Nat.le_of_ble_eq_true rfl, Nat.le_of_ble_eq_true rfl⟩ ⟨Nat.le_of_ble_eq_true rfl, Nat.le_of_ble_eq_true rfl⟩ ?_
        refine ev_putI (pc := 97) dX11_readLine_97 fX11_169 rfl (wlt wg1 (by decide)) ?_
        refine ev_eqH (h' := sI zg1 49 (upd (zg1.2.1 49) 27 (nI (tV zb zn (tE zb zn zp))))) (by rfl) ?_
        have hvb : ScZ (upN (upN zt.1 3 (tV zb zn (tE zb zn zp))) 4 1, zt.2) (sI zg1 49 (upd (zg1.2.1 49) 27 (nI (tV zb zn (tE zb zn zp))))) := ⟨hv1.1, hv1.2.1, rfl, hv1.2.2.2.1, hv1.2.2.2.2⟩
        refine ev_aload_n (pc := 100) dX11_readLine_100 rfl ?_
        have hp3 : (tE zb zn (tE zb zn zp)) ≤ zn := (tE_le zb hp1).2
        refine ev_callV (S := []) (pc := 101) dX11_readLine_101 kX11_next lX11_137 vX11_next (cn_X11_next E (sI zg1 49 (upd (zg1.2.1 49) 27 (nI (tV zb zn (tE zb zn zp))))) zb zn (tE zb zn (tE zb zn zp)) (wf_sI wg1) hT1 (LA_w hL1 zk1) hL1.1 hp3) rfl rfl (wlt (wf_sI wg1) (by decide)) rfl rfl (Nat.le_of_ble_eq_true rfl) ⟨Nat.le_of_ble_eq_true rfl, Nat.le_of_ble_eq_true rfl⟩ ⟨Nat.le_of_ble_eq_true rfl, Nat.le_of_ble_eq_true rfl⟩ ?_
        rintro _ zg3 ⟨rfl, hs3, hL3⟩
        have wg3 := scE_w hs3 (wf_sI wg1)
        have hT3 := scE_T (zb := zb) (zn := zn) hs3 hT1
        have hv3 := scE_S (zt := (upN (upN zt.1 3 (tV zb zn (tE zb zn zp))) 4 1, zt.2)) hs3 hvb
        have hF3 := FrM_s (FrM_49 hF1 (fun zj hj => by simp only [upd]; (repeat' split) <;> first | rfl | (exfalso; unfold pFz at hj; omega))) hs3
        by_cases zk3 : tK zb zn (tE zb zn (tE zb zn zp)) = 0
        · refine ev_goto (pc := 104) (tgt := 123) dX11_readLine_104 (by decide) ?_
          have hB : (apaB zb zn (tS zb zn zp) (tE zb zn zp) zt).1 = (wrK zb zn (tE zb zn (tE zb zn zp)), tS zb zn (tE zb zn (tE zb zn zp))) := by
            unfold apaB
            exact (ck_0 (by exact (if_pos ((nI_eq (a := zt.1 4) (b := 0) (by omega) (by decide)).mp zc72)))).trans ((ck_0 (by exact zf2)).trans (rfl))
          have hR : RBz zb zn (apaB zb zn (tS zb zn zp) (tE zb zn zp) zt) h (zg3) := RB_bad hF3 hB (by rw [wr_1 zk3]; decide) hL3.2.2.2.2.1 (hL3.2.2.2.2.2 zk3)
          refine ev_less (L' := [some (.ref 49), some (.int 3)]) (ls_keep (ls_keep (ls_nil _))) ?_
          exact K _ hR
        · refine ev_goto (pc := 104) (tgt := 123) dX11_readLine_104 (by decide) ?_
          have hB : (apaB zb zn (tS zb zn zp) (tE zb zn zp) zt).1 = (wrK zb zn (tE zb zn (tE zb zn zp)), tS zb zn (tE zb zn (tE zb zn zp))) := by
            unfold apaB
            exact (ck_0 (by exact (if_pos ((nI_eq (a := zt.1 4) (b := 0) (by omega) (by decide)).mp zc72)))).trans ((ck_0 (by exact zf2)).trans (rfl))
          have hB0 : (apaB zb zn (tS zb zn zp) (tE zb zn zp) zt).1.1 = 0 := (congrArg Prod.fst hB).trans (wr_0 zk3)
          have hA0 : ArZ zt zg1 := scE_A hs1 hM.2
          have hA1 : ArZ zt zg3 := scE_A hs3 hA0
          have hR : RBz zb zn (apaB zb zn (tS zb zn zp) (tE zb zn zp) zt) h (zg3) := RB_ok hF3 hB0 ⟨⟨hv3, hA1⟩, hL3, zk3⟩
          refine ev_less (L' := [some (.ref 49), some (.int 3)]) (ls_keep (ls_keep (ls_nil _))) ?_
          exact K _ hR
      · refine ev_callVv (S := [.ref 49]) (pc := 94) dX11_readLine_94 kX11_number lX11_140 vX11_number (cn_numBad E zg1 zb zn (tE zb zn zp) 0 100 99 wg1 hL1 (zk1) hp1 (by decide) (by decide) (by decide) zf2) rfl rfl (wlt wg1 (by decide)) rfl rfl (Nat.le_of_ble_eq_true rfl) ⟨Nat.le_of_ble_eq_true rfl, Nat.le_of_ble_eq_true rfl⟩ ⟨Nat.le_of_ble_eq_true rfl, Nat.le_of_ble_eq_true rfl⟩ ?_
        refine ev_eqH (h' := sI zg1 49 (upd (upd (zg1.2.1 49) 3 (nI (fnK zb zn (tE zb zn zp) 0 100))) 4 (nI (tS zb zn (tE zb zn zp))))) (by first | exact (sI_sI _ _ _ _).trans rfl | rfl) ?_
        refine ev_putI (pc := 97) dX11_readLine_97 fX11_169 rfl (wlt (wf_sI wg1) (by decide)) ?_
        refine ev_eqH (h' := sI zg1 49 (upd (upd (upd (zg1.2.1 49) 3 (nI (fnK zb zn (tE zb zn zp) 0 100))) 4 (nI (tS zb zn (tE zb zn zp)))) 27 0)) (by exact sI_sI _ _ _ _) ?_
        refine ev_aload_n (pc := 100) dX11_readLine_100 rfl ?_
        refine ev_callV0 (S := []) (pc := 101) dX11_readLine_101 kX11_next lX11_137 vX11_next (cn_X11_nextW E (sI zg1 49 (upd (upd (upd (zg1.2.1 49) 3 (nI (fnK zb zn (tE zb zn zp) 0 100))) 4 (nI (tS zb zn (tE zb zn zp)))) 27 0)) (wf_sI wg1) (nb_p (fn_5 _ _ _ _ _) zf2)) rfl rfl (wlt (wf_sI wg1) (by decide)) rfl rfl (Nat.le_of_ble_eq_true rfl) ⟨Nat.le_of_ble_eq_true rfl, Nat.le_of_ble_eq_true rfl⟩ ⟨Nat.le_of_ble_eq_true rfl, Nat.le_of_ble_eq_true rfl⟩ ?_
        refine ev_goto (pc := 104) (tgt := 123) dX11_readLine_104 (by decide) ?_
        have hB : (apaB zb zn (tS zb zn zp) (tE zb zn zp) zt).1 = (fnK zb zn (tE zb zn zp) 0 100, tS zb zn (tE zb zn zp)) := by
          unfold apaB
          exact (ck_0 (by exact (if_pos ((nI_eq (a := zt.1 4) (b := 0) (by omega) (by decide)).mp zc72)))).trans (ck_1 (by exact zf2))
        have hR : RBz zb zn (apaB zb zn (tS zb zn zp) (tE zb zn zp) zt) h (sI zg1 49 (upd (upd (upd (zg1.2.1 49) 3 (nI (fnK zb zn (tE zb zn zp) 0 100))) 4 (nI (tS zb zn (tE zb zn zp)))) 27 0)) := RB_bad (FrM_49 hF1 (fun zj hj => by simp only [upd]; (repeat' split) <;> first | rfl | (exfalso; unfold pFz at hj; omega))) hB zf2 rfl rfl
        refine ev_less (L' := [some (.ref 49), some (.int 3)]) (ls_keep (ls_keep (ls_nil _))) ?_
        exact K _ hR
  · -- eq at 72: not taken
    refine ev_aload_n (pc := 75) dX11_readLine_75 rfl ?_
    refine ev_iconst (pc := 76) (v := 4) dX11_readLine_76 (by decide) ?_
    refine ev_callV0 (S := []) (pc := 77) dX11_readLine_77 kX11_fails lX11_130 vX11_fails (cn_fails0 E h 4 hw (LA_w hL hk0)) rfl rfl (wlt hw (by decide)) rfl rfl (Nat.le_of_ble_eq_true rfl) ⟨Nat.le_of_ble_eq_true rfl, Nat.le_of_ble_eq_true rfl⟩ ⟨Nat.le_of_ble_eq_true rfl, Nat.le_of_ble_eq_true rfl⟩ ?_
    refine ev_eqH (h' := sI h 49 (upd (upd (h.2.1 49) 3 4) 4 (h.2.1 49 6))) (by first | exact (sI_sI _ _ _ _).trans rfl | rfl) ?_
    refine ev_aload_n (pc := 80) dX11_readLine_80 rfl ?_
    refine ev_iconst (pc := 81) (v := 1) dX11_readLine_81 (by decide) ?_
    refine ev_putZ (pc := 82) dX11_readLine_82 fX11_165 rfl (wlt (wf_sI hw) (by decide)) (by decide) ?_
    refine ev_eqH (h' := sI h 49 (upd (upd (upd (h.2.1 49) 3 4) 4 (h.2.1 49 6)) 30 1)) (by exact sI_sI _ _ _ _) ?_
    refine ev_aload_n (pc := 85) dX11_readLine_85 rfl ?_
    refine ev_callV0 (S := []) (pc := 86) dX11_readLine_86 kX11_next lX11_137 vX11_next (cn_X11_nextW E (sI h 49 (upd (upd (upd (h.2.1 49) 3 4) 4 (h.2.1 49 6)) 30 1)) (wf_sI hw) (show (0 : Int32) < 4 by decide)) rfl rfl (wlt (wf_sI hw) (by decide)) rfl rfl (Nat.le_of_ble_eq_true rfl) ⟨Nat.le_of_ble_eq_true rfl, Nat.le_of_ble_eq_true rfl⟩ ⟨Nat.le_of_ble_eq_true rfl, Nat.le_of_ble_eq_true rfl⟩ ?_
    refine ev_aload_n (pc := 89) dX11_readLine_89 rfl ?_
    refine ev_aload_n (pc := 90) dX11_readLine_90 rfl ?_
    refine ev_iconst (pc := 91) (v := 0) dX11_readLine_91 (by decide) ?_
    refine ev_bipush (pc := 92) (v := 99) dX11_readLine_92 (by decide) ?_
    refine ev_callVv (S := [.ref 49]) (pc := 94) dX11_readLine_94 kX11_number lX11_140 vX11_number (cn_X11_numberW E (sI h 49 (upd (upd (upd (h.2.1 49) 3 4) 4 (h.2.1 49 6)) 30 1)) 0 99 (wf_sI hw) (show ¬ (4 : Int32) = 0 by decide)) rfl rfl (wlt (wf_sI hw) (by decide)) rfl rfl (Nat.le_of_ble_eq_true rfl) ⟨Nat.le_of_ble_eq_true rfl, Nat.le_of_ble_eq_true rfl⟩ ⟨Nat.le_of_ble_eq_true rfl, Nat.le_of_ble_eq_true rfl⟩ ?_
    refine ev_putI (pc := 97) dX11_readLine_97 fX11_169 rfl (wlt (wf_sI hw) (by decide)) ?_
    refine ev_eqH (h' := sI h 49 (upd (upd (upd (upd (h.2.1 49) 3 4) 4 (h.2.1 49 6)) 30 1) 27 0)) (by exact sI_sI _ _ _ _) ?_
    refine ev_aload_n (pc := 100) dX11_readLine_100 rfl ?_
    refine ev_callV0 (S := []) (pc := 101) dX11_readLine_101 kX11_next lX11_137 vX11_next (cn_X11_nextW E (sI h 49 (upd (upd (upd (upd (h.2.1 49) 3 4) 4 (h.2.1 49 6)) 30 1) 27 0)) (wf_sI hw) (show (0 : Int32) < 4 by decide)) rfl rfl (wlt (wf_sI hw) (by decide)) rfl rfl (Nat.le_of_ble_eq_true rfl) ⟨Nat.le_of_ble_eq_true rfl, Nat.le_of_ble_eq_true rfl⟩ ⟨Nat.le_of_ble_eq_true rfl, Nat.le_of_ble_eq_true rfl⟩ ?_
    refine ev_goto (pc := 104) (tgt := 123) dX11_readLine_104 (by decide) ?_
    have hB : (apaB zb zn (tS zb zn zp) (tE zb zn zp) zt).1 = (4, tS zb zn zp) := by
      unfold apaB
      exact (ck_1 (by show ¬ (if zt.1 4 = 0 then 0 else 4) = 0; rw [if_neg (fun z => zc72 (by rw [z]; rfl))]; decide)).trans (by rw [if_neg (fun z => zc72 (by rw [z]; rfl))])
    have hR : RBz zb zn (apaB zb zn (tS zb zn zp) (tE zb zn zp) zt) h (sI h 49 (upd (upd (upd (upd (h.2.1 49) 3 4) 4 (h.2.1 49 6)) 30 1) 27 0)) := RB_bad (FrM_49 (FrM_0 h) (fun zj hj => by simp only [upd]; (repeat' split) <;> first | rfl | (exfalso; unfold pFz at hj; omega))) hB (by decide) rfl hL.2.1
    refine ev_less (L' := [some (.ref 49), some (.int 3)]) (ls_keep (ls_keep (ls_nil _))) ?_
    exact K _ hR
theorem pt_le (zb : Nat → Nat) {zn zm : Nat} : ∀ zf zc {zp}, zp ≤ zn → (ptF zb zn zm zf zc zp).2.1 ≤ zn
  | 0, _, _, h => by rw [ptF]; exact h
  | zf + 1, zc, zp, h => by
    rw [ptF]
    repeat' split
    · exact h
    · exact pt_le zb zf _ (tE_le zb h).2
    · exact h
    · exact h
theorem bk_le (zb : Nat → Nat) {zn : Nat} : ∀ zf za zg {zp}, zp ≤ zn → (bkF4 zb zn zf za zp zg).2.1 ≤ zn
  | 0, _, _, _, h => by rw [bkF4]; exact h
  | zf + 1, za, zg, zp, h => by
    rw [bkF4]
    repeat' split
    · exact bk_le zb zf _ _ (tE_le zb h).2
    · exact h
    · exact h
    · exact h
theorem lin_le (zb : Nat → Nat) {zn zp : Nat} (zt : PSt) (h : zp ≤ zn) : (linB zb zn zp zt).2.1 ≤ zn := by
  have h1 := (tE_le zb h).2
  have h2 := (tE_le zb h1).2
  have h3 := (tE_le zb h2).2
  have h4 := (tE_le zb h3).2
  unfold linB
  repeat' split
  · exact h3
  · exact pt_le zb _ _ h1
  · exact h3
  · exact h2
  · exact h4
  · exact bk_le zb _ _ _ h1
  · exact h
  · exact h
theorem wd_cases (zb : Nat → Nat) (zs zk : Nat) : wdF zb zs zk = 0 ∨ wdF zb zs zk = 1 ∨ wdF zb zs zk = 2 ∨ wdF zb zs zk = 3 ∨ wdF zb zs zk = 4 ∨ wdF zb zs zk = 5 ∨ wdF zb zs zk = 6 := by
  unfold wdF
  repeat' split
  all_goals simp
theorem cn_X11_readLine (E : ME) (h : AH) (zb : Nat → Nat) (zn zp : Nat) (zt : PSt) (hw : WF h) (hT : TMz h zb zn) (hL : LAz zb zn zp h) (hk0 : ¬ tK zb zn zp = 0) (hp : zp ≤ zn) (hM : MSz zt h) (hO : POK zt) (hC : KTz h) : Con E mX11_readLine 3 0 0 [.ref 49] h (fun r h' => r = none ∧ LNz zb zn (linP zb zn zp zt) h h') := by
  refine con_of2 (L := [some (.ref 49), none]) rfl (Nat.le_of_ble_eq_true rfl) rfl ?_
  have zn4 := hT.2.1
  have hq := lin_le zb zt hp
  refine ev_aload_n (pc := 0) dX11_readLine_0 rfl ?_
  refine ev_getI (pc := 1) dX11_readLine_1 fX11_119 rfl (wlt hw (by decide)) ?_
  refine ev_iconst (pc := 4) (v := 1) dX11_readLine_4 (by decide) ?_
  refine ev_icmp_ne (pc := 5) (tgt := 15) dX11_readLine_5 (by decide) (fun zc5 => ?_) (fun zc5 => ?_)
  · -- ne at 5: taken
    refine ev_bipush (pc := 15) (v := (-4)) dX11_readLine_15 (by decide) ?_
    refine ev_istore_n (pc := 17) (L' := [some (.ref 49), some (.int ((-4)))]) dX11_readLine_17 (Nat.le_of_ble_eq_true rfl) rfl ?_
    refine ev_iload_n (pc := 18) dX11_readLine_18 rfl ?_
    refine ev_bipush (pc := 19) (v := (-4)) dX11_readLine_19 (by decide) ?_
    refine ev_icmp_ne (pc := 21) (tgt := 30) dX11_readLine_21 (by decide) (fun zc21 => absurd rfl zc21) (fun zc21 => ?_)
    refine ev_aload_n (pc := 24) dX11_readLine_24 rfl ?_
    refine ev_iconst (pc := 25) (v := 2) dX11_readLine_25 (by decide) ?_
    refine ev_callV0 (S := []) (pc := 26) dX11_readLine_26 kX11_fails lX11_130 vX11_fails (cn_fails0 E h 2 hw (LA_w hL hk0)) rfl rfl (wlt hw (by decide)) rfl rfl (Nat.le_of_ble_eq_true rfl) ⟨Nat.le_of_ble_eq_true rfl, Nat.le_of_ble_eq_true rfl⟩ ⟨Nat.le_of_ble_eq_true rfl, Nat.le_of_ble_eq_true rfl⟩ ?_
    refine ev_eqH (h' := sI h 49 (upd (upd (h.2.1 49) 3 2) 4 (h.2.1 49 6))) (by first | exact (sI_sI _ _ _ _).trans rfl | rfl) ?_
    refine ev_ret (pc := 29) dX11_readLine_29 rfl ?_
    · have zn2 : ¬ tK zb zn zp = 2 := fun z => zc5 ((LA_3 (zk := 1) hL hk0 (by decide)).mpr z)
      have hf : fkK zb zn zp 2 = 2 := by unfold fkK; rw [if_neg zn2, if_neg hk0]
      have hB : linB zb zn zp zt = ((2, (tS zb zn zp)), zp, zt) := by unfold linB; rw [if_neg zn2, hf]
      have hc : (linP zb zn zp zt).1 = (2, (tS zb zn zp)) := by unfold linP; rw [hB]; rfl
      refine ⟨rfl, (FrM_49 (FrM_0 h) (fun zj hj => by simp only [upd]; (repeat' split) <;> first | rfl | (exfalso; unfold pFz at hj; omega))), fun _ => ?_, fun z => ?_⟩
      · rw [hc]; exact ⟨rfl, hL.2.1⟩
      · rw [hc] at z; exact absurd z (show ¬ (2 : Nat) = 0 by decide)
  · -- ne at 5: not taken
    refine ev_aload_n (pc := 8) dX11_readLine_8 rfl ?_
    refine ev_callVv (S := []) (pc := 9) dX11_readLine_9 kX11_lineName lX11_154 vX11_lineName (cn_X11_lineName E h zb zn zp hw hT hC hL hk0 hp) rfl rfl (wlt hw (by decide)) rfl rfl (Nat.le_of_ble_eq_true rfl) ⟨Nat.le_of_ble_eq_true rfl, Nat.le_of_ble_eq_true rfl⟩ ⟨Nat.le_of_ble_eq_true rfl, Nat.le_of_ble_eq_true rfl⟩ ?_
    refine ev_goto (pc := 12) (tgt := 17) dX11_readLine_12 (by decide) ?_
    have zK2 := (LA_3 (zk := 1) hL hk0 (by decide)).mp zc5
    rcases wd_cases zb (tS zb zn zp) (tE zb zn zp - (tS zb zn zp)) with zw | zw | zw | zw | zw | zw | zw
    · have hBe : linB zb zn zp zt = rowB zb zn (tS zb zn zp) (tE zb zn zp) zt := by unfold linB; rw [if_pos zK2, if_pos zw]
      refine ev_eqI (e' := 0) (by rw [zw]; rfl) ?_
      refine ev_istore_n (pc := 17) (L' := [some (.ref 49), some (.int 0)]) dX11_readLine_17 (Nat.le_of_ble_eq_true rfl) rfl ?_
      refine ev_iload_n (pc := 18) dX11_readLine_18 rfl ?_
      refine ev_bipush (pc := 19) (v := (-4)) dX11_readLine_19 (by decide) ?_
      refine ev_icmp_ne (pc := 21) (tgt := 30) dX11_readLine_21 (by decide) (fun zc21 => ?_) (fun zc21 => absurd zc21 (by decide))
      refine ev_iload_n (pc := 30) dX11_readLine_30 rfl ?_
      refine ev_iconst (pc := 31) (v := 1) dX11_readLine_31 (by decide) ?_
      refine ev_icmp_gt (pc := 32) (tgt := 51) dX11_readLine_32 (by decide) (fun zc32 => absurd zc32 (by decide)) (fun zc32 => ?_)
      refine ev_aload_n (pc := 35) dX11_readLine_35 rfl ?_
      refine ev_iload_n (pc := 36) dX11_readLine_36 rfl ?_
      refine ev_if_ne (pc := 37) (tgt := 44) dX11_readLine_37 (by decide) (fun zc37 => absurd rfl zc37) (fun zc37 => ?_)
      refine ev_iconst (pc := 40) (v := 1) dX11_readLine_40 (by decide) ?_
      refine ev_goto (pc := 41) (tgt := 45) dX11_readLine_41 (by decide) ?_
      refine ev_callV (S := []) (pc := 45) dX11_readLine_45 kX11_readThing lX11_158 vX11_readThing (cn_X11_readRow E h zb zn zp zt hw hT hL hk0 hp hM hO) rfl rfl (wlt hw (by decide)) rfl rfl (Nat.le_of_ble_eq_true rfl) ⟨Nat.le_of_ble_eq_true rfl, Nat.le_of_ble_eq_true rfl⟩ ⟨Nat.le_of_ble_eq_true rfl, Nat.le_of_ble_eq_true rfl⟩ ?_
      rintro _ zg ⟨rfl, hR⟩
      refine ev_goto (pc := 48) (tgt := 123) dX11_readLine_48 (by decide) ?_
      exact ln_tail E h zg zb zn zp zt 0 hw hT (by rw [hBe]; exact hR) hq
    · have hBe : linB zb zn zp zt = patB zb zn (tS zb zn zp) (tE zb zn zp) zt := by unfold linB; rw [if_pos zK2, if_neg (by rw [zw]; decide), if_pos zw]
      refine ev_eqI (e' := 1) (by rw [zw]; rfl) ?_
      refine ev_istore_n (pc := 17) (L' := [some (.ref 49), some (.int 1)]) dX11_readLine_17 (Nat.le_of_ble_eq_true rfl) rfl ?_
      refine ev_iload_n (pc := 18) dX11_readLine_18 rfl ?_
      refine ev_bipush (pc := 19) (v := (-4)) dX11_readLine_19 (by decide) ?_
      refine ev_icmp_ne (pc := 21) (tgt := 30) dX11_readLine_21 (by decide) (fun zc21 => ?_) (fun zc21 => absurd zc21 (by decide))
      refine ev_iload_n (pc := 30) dX11_readLine_30 rfl ?_
      refine ev_iconst (pc := 31) (v := 1) dX11_readLine_31 (by decide) ?_
      refine ev_icmp_gt (pc := 32) (tgt := 51) dX11_readLine_32 (by decide) (fun zc32 => absurd zc32 (by decide)) (fun zc32 => ?_)
      refine ev_aload_n (pc := 35) dX11_readLine_35 rfl ?_
      refine ev_iload_n (pc := 36) dX11_readLine_36 rfl ?_
      refine ev_if_ne (pc := 37) (tgt := 44) dX11_readLine_37 (by decide) (fun zc37 => ?_) (fun zc37 => absurd zc37 (by decide))
      refine ev_iconst (pc := 44) (v := 0) dX11_readLine_44 (by decide) ?_
      refine ev_callV (S := []) (pc := 45) dX11_readLine_45 kX11_readThing lX11_158 vX11_readThing (cn_X11_readPatch E h zb zn zp zt hw hT hL hk0 hp hM hO) rfl rfl (wlt hw (by decide)) rfl rfl (Nat.le_of_ble_eq_true rfl) ⟨Nat.le_of_ble_eq_true rfl, Nat.le_of_ble_eq_true rfl⟩ ⟨Nat.le_of_ble_eq_true rfl, Nat.le_of_ble_eq_true rfl⟩ ?_
      rintro _ zg ⟨rfl, hR⟩
      refine ev_goto (pc := 48) (tgt := 123) dX11_readLine_48 (by decide) ?_
      exact ln_tail E h zg zb zn zp zt 1 hw hT (by rw [hBe]; exact hR) hq
    · have hBe : linB zb zn zp zt = givB zb zn (tE zb zn zp) zt := by unfold linB; rw [if_pos zK2, if_neg (by rw [zw]; decide), if_neg (by rw [zw]; decide), if_pos zw]
      refine ev_eqI (e' := 2) (by rw [zw]; rfl) ?_
      refine ev_istore_n (pc := 17) (L' := [some (.ref 49), some (.int 2)]) dX11_readLine_17 (Nat.le_of_ble_eq_true rfl) rfl ?_
      refine ev_iload_n (pc := 18) dX11_readLine_18 rfl ?_
      refine ev_bipush (pc := 19) (v := (-4)) dX11_readLine_19 (by decide) ?_
      refine ev_icmp_ne (pc := 21) (tgt := 30) dX11_readLine_21 (by decide) (fun zc21 => ?_) (fun zc21 => absurd zc21 (by decide))
      refine ev_iload_n (pc := 30) dX11_readLine_30 rfl ?_
      refine ev_iconst (pc := 31) (v := 1) dX11_readLine_31 (by decide) ?_
      refine ev_icmp_gt (pc := 32) (tgt := 51) dX11_readLine_32 (by decide) (fun zc32 => ?_) (fun zc32 => absurd (by decide) zc32)
      refine ev_iload_n (pc := 51) dX11_readLine_51 rfl ?_
      refine ev_iconst (pc := 52) (v := 2) dX11_readLine_52 (by decide) ?_
      refine ev_icmp_ne (pc := 53) (tgt := 63) dX11_readLine_53 (by decide) (fun zc53 => absurd rfl zc53) (fun zc53 => ?_)
      refine ev_aload_n (pc := 56) dX11_readLine_56 rfl ?_
      refine ev_callV (S := []) (pc := 57) dX11_readLine_57 kX11_readGive lX11_162 vX11_readGive (cn_X11_readGive E h zb zn zp zt hw hT hL hk0 hp hM hO) rfl rfl (wlt hw (by decide)) rfl rfl (Nat.le_of_ble_eq_true rfl) ⟨Nat.le_of_ble_eq_true rfl, Nat.le_of_ble_eq_true rfl⟩ ⟨Nat.le_of_ble_eq_true rfl, Nat.le_of_ble_eq_true rfl⟩ ?_
      rintro _ zg ⟨rfl, hR⟩
      refine ev_goto (pc := 60) (tgt := 123) dX11_readLine_60 (by decide) ?_
      exact ln_tail E h zg zb zn zp zt 2 hw hT (by rw [hBe]; exact hR) hq
    · have hBe : linB zb zn zp zt = apaB zb zn (tS zb zn zp) (tE zb zn zp) zt := by unfold linB; rw [if_pos zK2, if_neg (by rw [zw]; decide), if_neg (by rw [zw]; decide), if_neg (by rw [zw]; decide), if_pos zw]
      refine ev_eqI (e' := 3) (by rw [zw]; rfl) ?_
      refine ev_istore_n (pc := 17) (L' := [some (.ref 49), some (.int 3)]) dX11_readLine_17 (Nat.le_of_ble_eq_true rfl) rfl ?_
      refine ev_iload_n (pc := 18) dX11_readLine_18 rfl ?_
      refine ev_bipush (pc := 19) (v := (-4)) dX11_readLine_19 (by decide) ?_
      refine ev_icmp_ne (pc := 21) (tgt := 30) dX11_readLine_21 (by decide) (fun zc21 => ?_) (fun zc21 => absurd zc21 (by decide))
      refine ev_iload_n (pc := 30) dX11_readLine_30 rfl ?_
      refine ev_iconst (pc := 31) (v := 1) dX11_readLine_31 (by decide) ?_
      refine ev_icmp_gt (pc := 32) (tgt := 51) dX11_readLine_32 (by decide) (fun zc32 => ?_) (fun zc32 => absurd (by decide) zc32)
      refine ev_iload_n (pc := 51) dX11_readLine_51 rfl ?_
      refine ev_iconst (pc := 52) (v := 2) dX11_readLine_52 (by decide) ?_
      refine ev_icmp_ne (pc := 53) (tgt := 63) dX11_readLine_53 (by decide) (fun zc53 => ?_) (fun zc53 => absurd zc53 (by decide))
      refine ev_iload_n (pc := 63) dX11_readLine_63 rfl ?_
      refine ev_iconst (pc := 64) (v := 3) dX11_readLine_64 (by decide) ?_
      refine ev_icmp_ne (pc := 65) (tgt := 107) dX11_readLine_65 (by decide) (fun zc65 => absurd rfl zc65) (fun zc65 => ?_)
      refine ln_apart E h zb zn zp zt hw hT hL hk0 hp hM hO (fun zg hR => ?_)
      exact ln_tail E h zg zb zn zp zt 3 hw hT (by rw [hBe]; exact hR) hq
    · have hBe : linB zb zn zp zt = quaB zb zn (tE zb zn zp) zt := by unfold linB; rw [if_pos zK2, if_neg (by rw [zw]; decide), if_neg (by rw [zw]; decide), if_neg (by rw [zw]; decide), if_neg (by rw [zw]; decide), if_pos zw]
      refine ev_eqI (e' := 4) (by rw [zw]; rfl) ?_
      refine ev_istore_n (pc := 17) (L' := [some (.ref 49), some (.int 4)]) dX11_readLine_17 (Nat.le_of_ble_eq_true rfl) rfl ?_
      refine ev_iload_n (pc := 18) dX11_readLine_18 rfl ?_
      refine ev_bipush (pc := 19) (v := (-4)) dX11_readLine_19 (by decide) ?_
      refine ev_icmp_ne (pc := 21) (tgt := 30) dX11_readLine_21 (by decide) (fun zc21 => ?_) (fun zc21 => absurd zc21 (by decide))
      refine ev_iload_n (pc := 30) dX11_readLine_30 rfl ?_
      refine ev_iconst (pc := 31) (v := 1) dX11_readLine_31 (by decide) ?_
      refine ev_icmp_gt (pc := 32) (tgt := 51) dX11_readLine_32 (by decide) (fun zc32 => ?_) (fun zc32 => absurd (by decide) zc32)
      refine ev_iload_n (pc := 51) dX11_readLine_51 rfl ?_
      refine ev_iconst (pc := 52) (v := 2) dX11_readLine_52 (by decide) ?_
      refine ev_icmp_ne (pc := 53) (tgt := 63) dX11_readLine_53 (by decide) (fun zc53 => ?_) (fun zc53 => absurd zc53 (by decide))
      refine ev_iload_n (pc := 63) dX11_readLine_63 rfl ?_
      refine ev_iconst (pc := 64) (v := 3) dX11_readLine_64 (by decide) ?_
      refine ev_icmp_ne (pc := 65) (tgt := 107) dX11_readLine_65 (by decide) (fun zc65 => ?_) (fun zc65 => absurd zc65 (by decide))
      refine ev_iload_n (pc := 107) dX11_readLine_107 rfl ?_
      refine ev_iconst (pc := 108) (v := 4) dX11_readLine_108 (by decide) ?_
      refine ev_icmp_ne (pc := 109) (tgt := 119) dX11_readLine_109 (by decide) (fun zc109 => absurd rfl zc109) (fun zc109 => ?_)
      refine ev_aload_n (pc := 112) dX11_readLine_112 rfl ?_
      refine ev_callV (S := []) (pc := 113) dX11_readLine_113 kX11_readQuarry lX11_172 vX11_readQuarry (cn_X11_readQuarry E h zb zn zp zt hw hT hL hk0 hp hM hO) rfl rfl (wlt hw (by decide)) rfl rfl (Nat.le_of_ble_eq_true rfl) ⟨Nat.le_of_ble_eq_true rfl, Nat.le_of_ble_eq_true rfl⟩ ⟨Nat.le_of_ble_eq_true rfl, Nat.le_of_ble_eq_true rfl⟩ ?_
      rintro _ zg ⟨rfl, hR⟩
      refine ev_goto (pc := 116) (tgt := 123) dX11_readLine_116 (by decide) ?_
      exact ln_tail E h zg zb zn zp zt 4 hw hT (by rw [hBe]; exact hR) hq
    · have hBe : linB zb zn zp zt = bokB zb zn (tS zb zn zp) (tE zb zn zp) zt := by unfold linB; rw [if_pos zK2, if_neg (by rw [zw]; decide), if_neg (by rw [zw]; decide), if_neg (by rw [zw]; decide), if_neg (by rw [zw]; decide), if_neg (by rw [zw]; decide), if_pos zw]
      refine ev_eqI (e' := 5) (by rw [zw]; rfl) ?_
      refine ev_istore_n (pc := 17) (L' := [some (.ref 49), some (.int 5)]) dX11_readLine_17 (Nat.le_of_ble_eq_true rfl) rfl ?_
      refine ev_iload_n (pc := 18) dX11_readLine_18 rfl ?_
      refine ev_bipush (pc := 19) (v := (-4)) dX11_readLine_19 (by decide) ?_
      refine ev_icmp_ne (pc := 21) (tgt := 30) dX11_readLine_21 (by decide) (fun zc21 => ?_) (fun zc21 => absurd zc21 (by decide))
      refine ev_iload_n (pc := 30) dX11_readLine_30 rfl ?_
      refine ev_iconst (pc := 31) (v := 1) dX11_readLine_31 (by decide) ?_
      refine ev_icmp_gt (pc := 32) (tgt := 51) dX11_readLine_32 (by decide) (fun zc32 => ?_) (fun zc32 => absurd (by decide) zc32)
      refine ev_iload_n (pc := 51) dX11_readLine_51 rfl ?_
      refine ev_iconst (pc := 52) (v := 2) dX11_readLine_52 (by decide) ?_
      refine ev_icmp_ne (pc := 53) (tgt := 63) dX11_readLine_53 (by decide) (fun zc53 => ?_) (fun zc53 => absurd zc53 (by decide))
      refine ev_iload_n (pc := 63) dX11_readLine_63 rfl ?_
      refine ev_iconst (pc := 64) (v := 3) dX11_readLine_64 (by decide) ?_
      refine ev_icmp_ne (pc := 65) (tgt := 107) dX11_readLine_65 (by decide) (fun zc65 => ?_) (fun zc65 => absurd zc65 (by decide))
      refine ev_iload_n (pc := 107) dX11_readLine_107 rfl ?_
      refine ev_iconst (pc := 108) (v := 4) dX11_readLine_108 (by decide) ?_
      refine ev_icmp_ne (pc := 109) (tgt := 119) dX11_readLine_109 (by decide) (fun zc109 => ?_) (fun zc109 => absurd zc109 (by decide))
      refine ev_aload_n (pc := 119) dX11_readLine_119 rfl ?_
      refine ev_callV (S := []) (pc := 120) dX11_readLine_120 kX11_readBook lX11_175 vX11_readBook (cn_X11_readBook E h zb zn zp zt hw hT hL hk0 hp hM hO) rfl rfl (wlt hw (by decide)) rfl rfl (Nat.le_of_ble_eq_true rfl) ⟨Nat.le_of_ble_eq_true rfl, Nat.le_of_ble_eq_true rfl⟩ ⟨Nat.le_of_ble_eq_true rfl, Nat.le_of_ble_eq_true rfl⟩ ?_
      rintro _ zg ⟨rfl, hR⟩
      exact ln_tail E h zg zb zn zp zt 5 hw hT (by rw [hBe]; exact hR) hq
    · refine ev_eqI (e' := (-4)) (by rw [zw]; rfl) ?_
      refine ev_istore_n (pc := 17) (L' := [some (.ref 49), some (.int ((-4)))]) dX11_readLine_17 (Nat.le_of_ble_eq_true rfl) rfl ?_
      refine ev_iload_n (pc := 18) dX11_readLine_18 rfl ?_
      refine ev_bipush (pc := 19) (v := (-4)) dX11_readLine_19 (by decide) ?_
      refine ev_icmp_ne (pc := 21) (tgt := 30) dX11_readLine_21 (by decide) (fun zc21 => absurd rfl zc21) (fun zc21 => ?_)
      refine ev_aload_n (pc := 24) dX11_readLine_24 rfl ?_
      refine ev_iconst (pc := 25) (v := 2) dX11_readLine_25 (by decide) ?_
      refine ev_callV0 (S := []) (pc := 26) dX11_readLine_26 kX11_fails lX11_130 vX11_fails (cn_fails0 E h 2 hw (LA_w hL hk0)) rfl rfl (wlt hw (by decide)) rfl rfl (Nat.le_of_ble_eq_true rfl) ⟨Nat.le_of_ble_eq_true rfl, Nat.le_of_ble_eq_true rfl⟩ ⟨Nat.le_of_ble_eq_true rfl, Nat.le_of_ble_eq_true rfl⟩ ?_
      refine ev_eqH (h' := sI h 49 (upd (upd (h.2.1 49) 3 2) 4 (h.2.1 49 6))) (by first | exact (sI_sI _ _ _ _).trans rfl | rfl) ?_
      refine ev_ret (pc := 29) dX11_readLine_29 rfl ?_
      · have hB : linB zb zn zp zt = ((2, (tS zb zn zp)), zp, zt) := by unfold linB; rw [if_pos zK2, if_neg (by rw [zw]; decide), if_neg (by rw [zw]; decide), if_neg (by rw [zw]; decide), if_neg (by rw [zw]; decide), if_neg (by rw [zw]; decide), if_neg (by rw [zw]; decide)]
        have hc : (linP zb zn zp zt).1 = (2, (tS zb zn zp)) := by unfold linP; rw [hB]; rfl
        refine ⟨rfl, (FrM_49 (FrM_0 h) (fun zj hj => by simp only [upd]; (repeat' split) <;> first | rfl | (exfalso; unfold pFz at hj; omega))), fun _ => ?_, fun z => ?_⟩
        · rw [hc]; exact ⟨rfl, hL.2.1⟩
        · rw [hc] at z; exact absurd z (show ¬ (2 : Nat) = 0 by decide)
