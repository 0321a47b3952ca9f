theorem cn_X11_readRow (E : ME) (h : AH) (zb : Nat → Nat) (zn zp : Nat) (zt : PSt) (hw : WF h) (hT : TMz h zb zn) (hL : LAz zb zn zp h) (hk0 : ¬ tK zb zn zp = 0) (hp : zp ≤ zn) (hM : MSz zt h) (hO : POK zt) : Con E mX11_readThing 2 0 0 [.ref 49, .int 1] h (fun r h' => r = none ∧ RBz zb zn (rowB zb zn (tS zb zn zp) (tE zb zn zp) zt) h h') := by
  refine con_of2 (L := [some (.ref 49), some (.int 1), none, none, none]) rfl (Nat.le_of_ble_eq_true rfl) rfl ?_
  have zn4 := hT.2.1
  refine ev_aload_n (pc := 0) dX11_readThing_0 rfl ?_
  refine ev_getI (pc := 1) dX11_readThing_1 fX11_134 rfl (wlt hw (by decide)) ?_
  refine ev_eqI (e' := nI (zt.1 1)) hM.1.1 ?_
  refine ev_bipush (pc := 4) (v := 12) dX11_readThing_4 (by decide) ?_
  refine ev_icmp_ne (pc := 6) (tgt := 14) dX11_readThing_6 (by decide) (fun zc6 => ?_) (fun zc6 => ?_)
  · -- ne at 6: taken
    have zm12 : zt.1 1 < 12 := by
      have z1 := hO.1
      have z2 : zt.1 1 ≠ 12 := fun z => zc6 (by rw [z]; rfl)
      omega
    refine ev_aload_n (pc := 14) dX11_readThing_14 rfl ?_
    have hp1 : (tE zb zn zp) ≤ zn := (tE_le zb hp).2
    refine ev_callV (S := []) (pc := 15) dX11_readThing_15 kX11_next lX11_137 vX11_next (cn_X11_next E h zb zn (tE zb zn zp) hw hT (LA_w hL hk0) hL.1 hp1) rfl rfl (wlt hw (by decide)) rfl rfl (Nat.le_of_ble_eq_true rfl) ⟨Nat.le_of_ble_eq_true rfl, Nat.le_of_ble_eq_true rfl⟩ ⟨Nat.le_of_ble_eq_true rfl, Nat.le_of_ble_eq_true rfl⟩ ?_
    rintro _ zg1 ⟨rfl, hs1, hL1⟩
    have wg1 := scE_w hs1 hw
    have hT1 := scE_T (zb := zb) (zn := zn) hs1 hT
    have hv1 := scE_S (zt := zt) hs1 hM.1
    have hF1 := FrM_s (FrM_0 h) hs1
    by_cases zk1 : tK zb zn (tE zb zn zp) = 0
    · refine ev_aload_n (pc := 18) dX11_readThing_18 rfl ?_
      refine ev_getI (pc := 19) dX11_readThing_19 fX11_134 rfl (wlt wg1 (by decide)) ?_
      refine ev_eqI (e' := nI (zt.1 1)) hv1.1 ?_
      refine ev_bipush (pc := 22) (v := 12) dX11_readThing_22 (by decide) ?_
      refine ev_icmp_ge (pc := 24) (tgt := 34) dX11_readThing_24 (by decide) (fun zc24 => absurd zc24 (nI_ge (by omega) (by decide))) (fun zc24 => ?_)
      refine ev_aload_n (pc := 27) dX11_readThing_27 rfl ?_
      refine ev_getI (pc := 28) dX11_readThing_28 fX11_134 rfl (wlt wg1 (by decide)) ?_
      refine ev_eqI (e' := nI (zt.1 1)) hv1.1 ?_
      refine ev_goto (pc := 31) (tgt := 35) dX11_readThing_31 (by decide) ?_
      refine ev_istore_n (pc := 35) (L' := [some (.ref 49), some (.int 1), some (.int (nI (zt.1 1))), none, none]) dX11_readThing_35 (Nat.le_of_ble_eq_true rfl) rfl ?_
      refine ev_aload_n (pc := 36) dX11_readThing_36 rfl ?_
      refine ev_getI (pc := 37) dX11_readThing_37 fX11_100 rfl (wlt wg1 (by decide)) ?_
      refine ev_if_ne (pc := 40) (tgt := 71) dX11_readThing_40 (by decide) (fun zc40 => ?_) (fun zc40 => absurd zc40 (LA_b hL1 zk1))
      refine ev_iload_n (pc := 71) dX11_readThing_71 rfl ?_
      refine ev_if_eq (pc := 72) (tgt := 123) dX11_readThing_72 (by decide) (fun zc72 => absurd zc72 (by decide)) (fun zc72 => ?_)
      refine ev_aload_n (pc := 75) dX11_readThing_75 rfl ?_
      refine ev_iconst (pc := 76) (v := 1) dX11_readThing_76 (by decide) ?_
      refine ev_bipush (pc := 77) (v := 99) dX11_readThing_77 (by decide) ?_
      refine ev_callVv (S := []) (pc := 79) dX11_readThing_79 kX11_number lX11_140 vX11_number (cn_X11_numberW E zg1 1 99 wg1 (LA_b hL1 zk1)) rfl rfl (wlt wg1 (by decide)) rfl rfl (Nat.le_of_ble_eq_true rfl) ⟨Nat.le_of_ble_eq_true rfl, Nat.le_of_ble_eq_true rfl⟩ ⟨Nat.le_of_ble_eq_true rfl, Nat.le_of_ble_eq_true rfl⟩ ?_
      refine ev_istore_n (pc := 82) (L' := [some (.ref 49), some (.int 1), some (.int (nI (zt.1 1))), some (.int 1), none]) dX11_readThing_82 (Nat.le_of_ble_eq_true rfl) rfl ?_
      refine ev_aload_n (pc := 83) dX11_readThing_83 rfl ?_
      refine ev_callV0 (S := []) (pc := 84) dX11_readThing_84 kX11_next lX11_137 vX11_next (cn_X11_nextW E zg1 wg1 (LA_p hL1 zk1)) rfl rfl (wlt wg1 (by decide)) rfl rfl (Nat.le_of_ble_eq_true rfl) ⟨Nat.le_of_ble_eq_true rfl, Nat.le_of_ble_eq_true rfl⟩ ⟨Nat.le_of_ble_eq_true rfl, Nat.le_of_ble_eq_true rfl⟩ ?_
      refine ev_aload_n (pc := 87) dX11_readThing_87 rfl ?_
      refine ev_iconst (pc := 88) (v := 1) dX11_readThing_88 (by decide) ?_
      refine ev_sipush (pc := 89) (v := 999) dX11_readThing_89 (by decide) ?_
      refine ev_callVv (S := []) (pc := 92) dX11_readThing_92 kX11_number lX11_140 vX11_number (cn_X11_numberW E zg1 1 999 wg1 (LA_b hL1 zk1)) rfl rfl (wlt wg1 (by decide)) rfl rfl (Nat.le_of_ble_eq_true rfl) ⟨Nat.le_of_ble_eq_true rfl, Nat.le_of_ble_eq_true rfl⟩ ⟨Nat.le_of_ble_eq_true rfl, Nat.le_of_ble_eq_true rfl⟩ ?_
      refine ev_istore (pc := 95) (L' := [some (.ref 49), some (.int 1), some (.int (nI (zt.1 1))), some (.int 1), some (.int 1)]) dX11_readThing_95 (Nat.le_of_ble_eq_true rfl) rfl ?_
      refine ev_aload_n (pc := 97) dX11_readThing_97 rfl ?_
      refine ev_callV0 (S := []) (pc := 98) dX11_readThing_98 kX11_next lX11_137 vX11_next (cn_X11_nextW E zg1 wg1 (LA_p hL1 zk1)) rfl rfl (wlt wg1 (by decide)) rfl rfl (Nat.le_of_ble_eq_true rfl) ⟨Nat.le_of_ble_eq_true rfl, Nat.le_of_ble_eq_true rfl⟩ ⟨Nat.le_of_ble_eq_true rfl, Nat.le_of_ble_eq_true rfl⟩ ?_
      refine ev_aload_n (pc := 101) dX11_readThing_101 rfl ?_
      refine ev_getI (pc := 102) dX11_readThing_102 fX11_100 rfl (wlt wg1 (by decide)) ?_
      refine ev_if_ne (pc := 105) (tgt := 123) dX11_readThing_105 (by decide) (fun zc105 => ?_) (fun zc105 => absurd zc105 (LA_b hL1 zk1))
      refine ev_iload_n (pc := 123) dX11_readThing_123 rfl ?_
      refine ev_if_ne (pc := 124) (tgt := 210) dX11_readThing_124 (by decide) (fun zc124 => ?_) (fun zc124 => absurd zc124 (by decide))
      refine ev_aload_n (pc := 210) dX11_readThing_210 rfl ?_
      refine ev_dup (pc := 211) dX11_readThing_211 rfl ?_
      refine ev_getI (pc := 212) dX11_readThing_212 fX11_134 rfl (wlt wg1 (by decide)) ?_
      refine ev_eqI (e' := nI (zt.1 1)) hv1.1 ?_
      refine ev_aload_n (pc := 215) dX11_readThing_215 rfl ?_
      refine ev_getI (pc := 216) dX11_readThing_216 fX11_100 rfl (wlt wg1 (by decide)) ?_
      refine ev_if_ne (pc := 219) (tgt := 226) dX11_readThing_219 (by decide) (fun zc219 => ?_) (fun zc219 => absurd zc219 (LA_b hL1 zk1))
      refine ev_iconst (pc := 226) (v := 0) dX11_readThing_226 (by decide) ?_
      refine ev_iadd (pc := 227) dX11_readThing_227 ?_
      refine ev_eqI (e' := nI ((zt.1 1) + 0)) (nI_add (zt.1 1) 0) ?_
      refine ev_putI (pc := 228) dX11_readThing_228 fX11_134 rfl (wlt wg1 (by decide)) ?_
      refine ev_eqH (h' := sI zg1 49 (upd (zg1.2.1 49) 24 (nI ((zt.1 1) + 0)))) (by rfl) ?_
      refine ev_ret (pc := 231) dX11_readThing_231 rfl ?_
      · have hB : (rowB zb zn (tS zb zn zp) (tE zb zn zp) zt).1 = (wrK zb zn (tE zb zn zp), tS zb zn (tE zb zn zp)) := by
          unfold rowB
          exact (ck_0 (by exact (if_neg (by omega)))).trans ((ck_1 (by show ¬ fnK _ _ _ _ _ = 0; rw [fn_w _ _ zk1, wr_1 zk1]; decide)).trans (by rw [fn_w _ _ zk1]))
        exact ⟨rfl, RB_bad (FrM_49 hF1 (fun zj hj => by simp only [upd]; (repeat' split) <;> first | rfl | (exfalso; unfold pFz at hj; omega))) hB (by rw [wr_1 zk1]; decide) hL1.2.2.2.2.1 (hL1.2.2.2.2.2 zk1)⟩
    · refine ev_aload_n (pc := 18) dX11_readThing_18 rfl ?_
      refine ev_getI (pc := 19) dX11_readThing_19 fX11_134 rfl (wlt wg1 (by decide)) ?_
      refine ev_eqI (e' := nI (zt.1 1)) hv1.1 ?_
      refine ev_bipush (pc := 22) (v := 12) dX11_readThing_22 (by decide) ?_
      refine ev_icmp_ge (pc := 24) (tgt := 34) dX11_readThing_24 (by decide) (fun zc24 => absurd zc24 (nI_ge (by omega) (by decide))) (fun zc24 => ?_)
      refine ev_aload_n (pc := 27) dX11_readThing_27 rfl ?_
      refine ev_getI (pc := 28) dX11_readThing_28 fX11_134 rfl (wlt wg1 (by decide)) ?_
      refine ev_eqI (e' := nI (zt.1 1)) hv1.1 ?_
      refine ev_goto (pc := 31) (tgt := 35) dX11_readThing_31 (by decide) ?_
      refine ev_istore_n (pc := 35) (L' := [some (.ref 49), some (.int 1), some (.int (nI (zt.1 1))), none, none]) dX11_readThing_35 (Nat.le_of_ble_eq_true rfl) rfl ?_
      refine ev_aload_n (pc := 36) dX11_readThing_36 rfl ?_
      refine ev_getI (pc := 37) dX11_readThing_37 fX11_100 rfl (wlt wg1 (by decide)) ?_
      refine ev_if_ne (pc := 40) (tgt := 71) dX11_readThing_40 (by decide) (fun zc40 => absurd (LA_w hL1 zk1) zc40) (fun zc40 => ?_)
      refine ev_aload_n (pc := 43) dX11_readThing_43 rfl ?_
      refine ev_getR (pc := 44) (q := 59) dX11_readThing_44 fX11_41 rfl (wlt wg1 (by decide)) (wr wg1 rfl) ?_
      refine ev_iload_n (pc := 47) dX11_readThing_47 rfl ?_
      refine ev_iconst (pc := 48) (v := 0) dX11_readThing_48 (by decide) ?_
      refine ev_iast (pc := 49) dX11_readThing_49 rfl (wlt wg1 (by decide)) (vp_in_nI (by omega) (by decide)) ?_
      refine ev_eqH (h' := sI zg1 59 (upd (zg1.2.1 59) (zt.1 1) 0)) (by rw [show Int32.toNatClampNeg (nI (zt.1 1)) = zt.1 1 from nI_clamp (by omega)] <;> rfl) ?_
      refine ev_aload_n (pc := 50) dX11_readThing_50 rfl ?_
      refine ev_getR (pc := 51) (q := 60) dX11_readThing_51 fX11_44 rfl (wlt (wf_sI wg1) (by decide)) (wr (wf_sI wg1) rfl) ?_
      refine ev_iload_n (pc := 54) dX11_readThing_54 rfl ?_
      refine ev_iconst (pc := 55) (v := 0) dX11_readThing_55 (by decide) ?_
      refine ev_iast (pc := 56) dX11_readThing_56 rfl (wlt (wf_sI wg1) (by decide)) (vp_in_nI (by omega) (by decide)) ?_
      refine ev_eqH (h' := sI (sI zg1 59 (upd (zg1.2.1 59) (zt.1 1) 0)) 60 (upd (zg1.2.1 60) (zt.1 1) 0)) (by rw [show Int32.toNatClampNeg (nI (zt.1 1)) = zt.1 1 from nI_clamp (by omega)] <;> rfl) ?_
      refine ev_aload_n (pc := 57) dX11_readThing_57 rfl ?_
      refine ev_getR (pc := 58) (q := 61) dX11_readThing_58 fX11_47 rfl (wlt (wf_sI (wf_sI wg1)) (by decide)) (wr (wf_sI (wf_sI wg1)) rfl) ?_
      refine ev_iload_n (pc := 61) dX11_readThing_61 rfl ?_
      refine ev_iconst (pc := 62) (v := 0) dX11_readThing_62 (by decide) ?_
      refine ev_iast (pc := 63) dX11_readThing_63 rfl (wlt (wf_sI (wf_sI wg1)) (by decide)) (vp_in_nI (by omega) (by decide)) ?_
      refine ev_eqH (h' := sI (sI (sI zg1 59 (upd (zg1.2.1 59) (zt.1 1) 0)) 60 (upd (zg1.2.1 60) (zt.1 1) 0)) 61 (upd (zg1.2.1 61) (zt.1 1) 0)) (by rw [show Int32.toNatClampNeg (nI (zt.1 1)) = zt.1 1 from nI_clamp (by omega)] <;> rfl) ?_
      refine ev_aload_n (pc := 64) dX11_readThing_64 rfl ?_
      refine ev_getR (pc := 65) (q := 62) dX11_readThing_65 fX11_50 rfl (wlt (wf_sI (wf_sI (wf_sI wg1))) (by decide)) (wr (wf_sI (wf_sI (wf_sI wg1))) rfl) ?_
      refine ev_iload_n (pc := 68) dX11_readThing_68 rfl ?_
      refine ev_iconst (pc := 69) (v := 0) dX11_readThing_69 (by decide) ?_
      refine ev_iast (pc := 70) dX11_readThing_70 rfl (wlt (wf_sI (wf_sI (wf_sI wg1))) (by decide)) (vp_in_nI (by omega) (by decide)) ?_
      refine ev_eqH (h' := sI (sI (sI (sI zg1 59 (upd (zg1.2.1 59) (zt.1 1) 0)) 60 (upd (zg1.2.1 60) (zt.1 1) 0)) 61 (upd (zg1.2.1 61) (zt.1 1) 0)) 62 (upd (zg1.2.1 62) (zt.1 1) 0)) (by rw [show Int32.toNatClampNeg (nI (zt.1 1)) = zt.1 1 from nI_clamp (by omega)] <;> rfl) ?_
      refine ev_iload_n (pc := 71) dX11_readThing_71 rfl ?_
      refine ev_if_eq (pc := 72) (tgt := 123) dX11_readThing_72 (by decide) (fun zc72 => absurd zc72 (by decide)) (fun zc72 => ?_)
      refine ev_aload_n (pc := 75) dX11_readThing_75 rfl ?_
      refine ev_iconst (pc := 76) (v := 1) dX11_readThing_76 (by decide) ?_
      refine ev_bipush (pc := 77) (v := 99) dX11_readThing_77 (by decide) ?_
      by_cases zf2 : fnK zb zn (tE zb zn zp) 1 100 = 0
      · refine ev_callVv (S := []) (pc := 79) dX11_readThing_79 kX11_number lX11_140 vX11_number (cn_numOK E (sI (sI (sI (sI zg1 59 (upd (zg1.2.1 59) (zt.1 1) 0)) 60 (upd (zg1.2.1 60) (zt.1 1) 0)) 61 (upd (zg1.2.1 61) (zt.1 1) 0)) 62 (upd (zg1.2.1 62) (zt.1 1) 0)) zb zn (tE zb zn zp) 1 100 99 (wf_sI (wf_sI (wf_sI (wf_sI wg1)))) hL1 (zk1) hp1 (by decide) (by decide) (by decide) zf2) rfl rfl (wlt (wf_sI (wf_sI (wf_sI (wf_sI wg1)))) (by decide)) rfl rfl (Nat.le_of_ble_eq_true rfl) ⟨Nat.le_of_ble_eq_true rfl, Nat.le_of_ble_eq_true rfl⟩ ⟨Nat.le_of_ble_eq_true rfl, Nat.le_of_ble_eq_true rfl⟩ ?_
        refine ev_istore_n (pc := 82) (L' := [some (.ref 49), some (.int 1), some (.int (nI (zt.1 1))), some (.int (nI (tV zb zn (tE zb zn zp)))), none]) dX11_readThing_82 (Nat.le_of_ble_eq_true rfl) rfl ?_
        refine ev_aload_n (pc := 83) dX11_readThing_83 rfl ?_
        have hp3 : (tE zb zn (tE zb zn zp)) ≤ zn := (tE_le zb hp1).2
        refine ev_callV (S := []) (pc := 84) dX11_readThing_84 kX11_next lX11_137 vX11_next (cn_X11_next E (sI (sI (sI (sI zg1 59 (upd (zg1.2.1 59) (zt.1 1) 0)) 60 (upd (zg1.2.1 60) (zt.1 1) 0)) 61 (upd (zg1.2.1 61) (zt.1 1) 0)) 62 (upd (zg1.2.1 62) (zt.1 1) 0)) zb zn (tE zb zn (tE zb zn zp)) (wf_sI (wf_sI (wf_sI (wf_sI wg1)))) hT1 (LA_w hL1 zk1) hL1.1 hp3) rfl rfl (wlt (wf_sI (wf_sI (wf_sI (wf_sI wg1)))) (by decide)) rfl rfl (Nat.le_of_ble_eq_true rfl) ⟨Nat.le_of_ble_eq_true rfl, Nat.le_of_ble_eq_true rfl⟩ ⟨Nat.le_of_ble_eq_true rfl, Nat.le_of_ble_eq_true rfl⟩ ?_
        rintro _ zg3 ⟨rfl, hs3, hL3⟩
        have wg3 := scE_w hs3 (wf_sI (wf_sI (wf_sI (wf_sI wg1))))
        have hT3 := scE_T (zb := zb) (zn := zn) hs3 hT1
        have hv3 := scE_S (zt := zt) hs3 hv1
        have hF3 := FrM_s (FrM_r (FrM_r (FrM_r (FrM_r hF1 (by decide) (by decide)) (by decide) (by decide)) (by decide) (by decide)) (by decide) (by decide)) hs3
        by_cases zk3 : tK zb zn (tE zb zn (tE zb zn zp)) = 0
        · refine ev_aload_n (pc := 87) dX11_readThing_87 rfl ?_
          refine ev_iconst (pc := 88) (v := 1) dX11_readThing_88 (by decide) ?_
          refine ev_sipush (pc := 89) (v := 999) dX11_readThing_89 (by decide) ?_
          refine ev_callVv (S := []) (pc := 92) dX11_readThing_92 kX11_number lX11_140 vX11_number (cn_X11_numberW E zg3 1 999 wg3 (LA_b hL3 zk3)) rfl rfl (wlt wg3 (by decide)) rfl rfl (Nat.le_of_ble_eq_true rfl) ⟨Nat.le_of_ble_eq_true rfl, Nat.le_of_ble_eq_true rfl⟩ ⟨Nat.le_of_ble_eq_true rfl, Nat.le_of_ble_eq_true rfl⟩ ?_
          refine ev_istore (pc := 95) (L' := [some (.ref 49), some (.int 1), some (.int (nI (zt.1 1))), some (.int (nI (tV zb zn (tE zb zn zp)))), some (.int 1)]) dX11_readThing_95 (Nat.le_of_ble_eq_true rfl) rfl ?_
          refine ev_aload_n (pc := 97) dX11_readThing_97 rfl ?_
          refine ev_callV0 (S := []) (pc := 98) dX11_readThing_98 kX11_next lX11_137 vX11_next (cn_X11_nextW E zg3 wg3 (LA_p hL3 zk3)) rfl rfl (wlt wg3 (by decide)) rfl rfl (Nat.le_of_ble_eq_true rfl) ⟨Nat.le_of_ble_eq_true rfl, Nat.le_of_ble_eq_true rfl⟩ ⟨Nat.le_of_ble_eq_true rfl, Nat.le_of_ble_eq_true rfl⟩ ?_
          refine ev_aload_n (pc := 101) dX11_readThing_101 rfl ?_
          refine ev_getI (pc := 102) dX11_readThing_102 fX11_100 rfl (wlt wg3 (by decide)) ?_
          refine ev_if_ne (pc := 105) (tgt := 123) dX11_readThing_105 (by decide) (fun zc105 => ?_) (fun zc105 => absurd zc105 (LA_b hL3 zk3))
          refine ev_iload_n (pc := 123) dX11_readThing_123 rfl ?_
          refine ev_if_ne (pc := 124) (tgt := 210) dX11_readThing_124 (by decide) (fun zc124 => ?_) (fun zc124 => absurd zc124 (by decide))
          refine ev_aload_n (pc := 210) dX11_readThing_210 rfl ?_
          refine ev_dup (pc := 211) dX11_readThing_211 rfl ?_
          refine ev_getI (pc := 212) dX11_readThing_212 fX11_134 rfl (wlt wg3 (by decide)) ?_
          refine ev_eqI (e' := nI (zt.1 1)) hv3.1 ?_
          refine ev_aload_n (pc := 215) dX11_readThing_215 rfl ?_
          refine ev_getI (pc := 216) dX11_readThing_216 fX11_100 rfl (wlt wg3 (by decide)) ?_
          refine ev_if_ne (pc := 219) (tgt := 226) dX11_readThing_219 (by decide) (fun zc219 => ?_) (fun zc219 => absurd zc219 (LA_b hL3 zk3))
          refine ev_iconst (pc := 226) (v := 0) dX11_readThing_226 (by decide) ?_
          refine ev_iadd (pc := 227) dX11_readThing_227 ?_
          refine ev_eqI (e' := nI ((zt.1 1) + 0)) (nI_add (zt.1 1) 0) ?_
          refine ev_putI (pc := 228) dX11_readThing_228 fX11_134 rfl (wlt wg3 (by decide)) ?_
          refine ev_eqH (h' := sI zg3 49 (upd (zg3.2.1 49) 24 (nI ((zt.1 1) + 0)))) (by rfl) ?_
          refine ev_ret (pc := 231) dX11_readThing_231 rfl ?_
          · have hB : (rowB zb zn (tS zb zn zp) (tE zb zn zp) zt).1 = (wrK zb zn (tE zb zn (tE zb zn zp)), tS zb zn (tE zb zn (tE zb zn zp))) := by
              unfold rowB
              exact (ck_0 (by exact (if_neg (by omega)))).trans ((ck_0 (by exact zf2)).trans ((ck_1 (by show ¬ fnK _ _ _ _ _ = 0; rw [fn_w _ _ zk3, wr_1 zk3]; decide)).trans (by rw [fn_w _ _ zk3])))
            exact ⟨rfl, RB_bad (FrM_49 hF3 (fun zj hj => by simp only [upd]; (repeat' split) <;> first | rfl | (exfalso; unfold pFz at hj; omega))) hB (by rw [wr_1 zk3]; decide) hL3.2.2.2.2.1 (hL3.2.2.2.2.2 zk3)⟩
        · refine ev_aload_n (pc := 87) dX11_readThing_87 rfl ?_
          refine ev_iconst (pc := 88) (v := 1) dX11_readThing_88 (by decide) ?_
          refine ev_sipush (pc := 89) (v := 999) dX11_readThing_89 (by decide) ?_
          by_cases zf4 : fnK zb zn (tE zb zn (tE zb zn zp)) 1 1000 = 0
          · refine ev_callVv (S := []) (pc := 92) dX11_readThing_92 kX11_number lX11_140 vX11_number (cn_numOK E zg3 zb zn (tE zb zn (tE zb zn zp)) 1 1000 999 wg3 hL3 (zk3) hp3 (by decide) (by decide) (by decide) zf4) rfl rfl (wlt wg3 (by decide)) rfl rfl (Nat.le_of_ble_eq_true rfl) ⟨Nat.le_of_ble_eq_true rfl, Nat.le_of_ble_eq_true rfl⟩ ⟨Nat.le_of_ble_eq_true rfl, Nat.le_of_ble_eq_true rfl⟩ ?_
            refine ev_istore (pc := 95) (L' := [some (.ref 49), some (.int 1), some (.int (nI (zt.1 1))), some (.int (nI (tV zb zn (tE zb zn zp)))), some (.int (nI (tV zb zn (tE zb zn (tE zb zn zp)))))]) dX11_readThing_95 (Nat.le_of_ble_eq_true rfl) rfl ?_
            refine ev_aload_n (pc := 97) dX11_readThing_97 rfl ?_
            have hp5 : (tE zb zn (tE zb zn (tE zb zn zp))) ≤ zn := (tE_le zb hp3).2
            refine ev_callV (S := []) (pc := 98) dX11_readThing_98 kX11_next lX11_137 vX11_next (cn_X11_next E zg3 zb zn (tE zb zn (tE zb zn (tE zb zn zp))) wg3 hT3 (LA_w hL3 zk3) hL3.1 hp5) rfl rfl (wlt wg3 (by decide)) rfl rfl (Nat.le_of_ble_eq_true rfl) ⟨Nat.le_of_ble_eq_true rfl, Nat.le_of_ble_eq_true rfl⟩ ⟨Nat.le_of_ble_eq_true rfl, Nat.le_of_ble_eq_true rfl⟩ ?_
            rintro _ zg5 ⟨rfl, hs5, hL5⟩
            have wg5 := scE_w hs5 wg3
            have hT5 := scE_T (zb := zb) (zn := zn) hs5 hT3
            have hv5 := scE_S (zt := zt) hs5 hv3
            have hF5 := FrM_s hF3 hs5
            by_cases zk5 : tK zb zn (tE zb zn (tE zb zn (tE zb zn zp))) = 0
            · refine ev_aload_n (pc := 101) dX11_readThing_101 rfl ?_
              refine ev_getI (pc := 102) dX11_readThing_102 fX11_100 rfl (wlt wg5 (by decide)) ?_
              refine ev_if_ne (pc := 105) (tgt := 123) dX11_readThing_105 (by decide) (fun zc105 => ?_) (fun zc105 => absurd zc105 (LA_b hL5 zk5))
              refine ev_iload_n (pc := 123) dX11_readThing_123 rfl ?_
              refine ev_if_ne (pc := 124) (tgt := 210) dX11_readThing_124 (by decide) (fun zc124 => ?_) (fun zc124 => absurd zc124 (by decide))
              refine ev_aload_n (pc := 210) dX11_readThing_210 rfl ?_
              refine ev_dup (pc := 211) dX11_readThing_211 rfl ?_
              refine ev_getI (pc := 212) dX11_readThing_212 fX11_134 rfl (wlt wg5 (by decide)) ?_
              refine ev_eqI (e' := nI (zt.1 1)) hv5.1 ?_
              refine ev_aload_n (pc := 215) dX11_readThing_215 rfl ?_
              refine ev_getI (pc := 216) dX11_readThing_216 fX11_100 rfl (wlt wg5 (by decide)) ?_
              refine ev_if_ne (pc := 219) (tgt := 226) dX11_readThing_219 (by decide) (fun zc219 => ?_) (fun zc219 => absurd zc219 (LA_b hL5 zk5))
              refine ev_iconst (pc := 226) (v := 0) dX11_readThing_226 (by decide) ?_
              refine ev_iadd (pc := 227) dX11_readThing_227 ?_
              refine ev_eqI (e' := nI ((zt.1 1) + 0)) (nI_add (zt.1 1) 0) ?_
              refine ev_putI (pc := 228) dX11_readThing_228 fX11_134 rfl (wlt wg5 (by decide)) ?_
              refine ev_eqH (h' := sI zg5 49 (upd (zg5.2.1 49) 24 (nI ((zt.1 1) + 0)))) (by rfl) ?_
              refine ev_ret (pc := 231) dX11_readThing_231 rfl ?_
              · have hB : (rowB zb zn (tS zb zn zp) (tE zb zn zp) zt).1 = (wrK zb zn (tE zb zn (tE zb zn (tE zb zn zp))), tS zb zn (tE zb zn (tE zb zn (tE zb zn zp)))) := by
                  unfold rowB
                  exact (ck_0 (by exact (if_neg (by omega)))).trans ((ck_0 (by exact zf2)).trans ((ck_0 (by exact zf4)).trans (rfl)))
                exact ⟨rfl, RB_bad (FrM_49 hF5 (fun zj hj => by simp only [upd]; (repeat' split) <;> first | rfl | (exfalso; unfold pFz at hj; omega))) hB (by rw [wr_1 zk5]; decide) hL5.2.2.2.2.1 (hL5.2.2.2.2.2 zk5)⟩
            · refine ev_aload_n (pc := 101) dX11_readThing_101 rfl ?_
              refine ev_getI (pc := 102) dX11_readThing_102 fX11_100 rfl (wlt wg5 (by decide)) ?_
              refine ev_if_ne (pc := 105) (tgt := 123) dX11_readThing_105 (by decide) (fun zc105 => absurd (LA_w hL5 zk5) zc105) (fun zc105 => ?_)
              refine ev_aload_n (pc := 108) dX11_readThing_108 rfl ?_
              refine ev_getR (pc := 109) (q := 59) dX11_readThing_109 fX11_41 rfl (wlt wg5 (by decide)) (wr wg5 rfl) ?_
              refine ev_iload_n (pc := 112) dX11_readThing_112 rfl ?_
              refine ev_iload_n (pc := 113) dX11_readThing_113 rfl ?_
              refine ev_iast (pc := 114) dX11_readThing_114 rfl (wlt wg5 (by decide)) (vp_in_nI (by omega) (by decide)) ?_
              refine ev_eqH (h' := sI zg5 59 (upd (zg5.2.1 59) (zt.1 1) (nI (tV zb zn (tE zb zn zp))))) (by rw [show Int32.toNatClampNeg (nI (zt.1 1)) = zt.1 1 from nI_clamp (by omega)] <;> rfl) ?_
              refine ev_aload_n (pc := 115) dX11_readThing_115 rfl ?_
              refine ev_getR (pc := 116) (q := 60) dX11_readThing_116 fX11_44 rfl (wlt (wf_sI wg5) (by decide)) (wr (wf_sI wg5) rfl) ?_
              refine ev_iload_n (pc := 119) dX11_readThing_119 rfl ?_
              refine ev_iload (pc := 120) dX11_readThing_120 rfl ?_
              refine ev_iast (pc := 122) dX11_readThing_122 rfl (wlt (wf_sI wg5) (by decide)) (vp_in_nI (by omega) (by decide)) ?_
              refine ev_eqH (h' := sI (sI zg5 59 (upd (zg5.2.1 59) (zt.1 1) (nI (tV zb zn (tE zb zn zp))))) 60 (upd (zg5.2.1 60) (zt.1 1) (nI (tV zb zn (tE zb zn (tE zb zn zp)))))) (by rw [show Int32.toNatClampNeg (nI (zt.1 1)) = zt.1 1 from nI_clamp (by omega)] <;> rfl) ?_
              refine ev_iload_n (pc := 123) dX11_readThing_123 rfl ?_
              refine ev_if_ne (pc := 124) (tgt := 210) dX11_readThing_124 (by decide) (fun zc124 => ?_) (fun zc124 => absurd zc124 (by decide))
              refine ev_aload_n (pc := 210) dX11_readThing_210 rfl ?_
              refine ev_dup (pc := 211) dX11_readThing_211 rfl ?_
              refine ev_getI (pc := 212) dX11_readThing_212 fX11_134 rfl (wlt (wf_sI (wf_sI wg5)) (by decide)) ?_
              refine ev_eqI (e' := zg5.2.1 49 24) (by rfl) ?_
              refine ev_eqI (e' := nI (zt.1 1)) hv5.1 ?_
              refine ev_aload_n (pc := 215) dX11_readThing_215 rfl ?_
              refine ev_getI (pc := 216) dX11_readThing_216 fX11_100 rfl (wlt (wf_sI (wf_sI wg5)) (by decide)) ?_
              refine ev_eqI (e' := zg5.2.1 49 3) (by rfl) ?_
              refine ev_if_ne (pc := 219) (tgt := 226) dX11_readThing_219 (by decide) (fun zc219 => absurd (LA_w hL5 zk5) zc219) (fun zc219 => ?_)
              refine ev_iconst (pc := 222) (v := 1) dX11_readThing_222 (by decide) ?_
              refine ev_goto (pc := 223) (tgt := 227) dX11_readThing_223 (by decide) ?_
              refine ev_iadd (pc := 227) dX11_readThing_227 ?_
              refine ev_eqI (e' := nI ((zt.1 1) + 1)) (nI_add (zt.1 1) 1) ?_
              refine ev_putI (pc := 228) dX11_readThing_228 fX11_134 rfl (wlt (wf_sI (wf_sI wg5)) (by decide)) ?_
              refine ev_eqH (h' := sI (sI (sI zg5 59 (upd (zg5.2.1 59) (zt.1 1) (nI (tV zb zn (tE zb zn zp))))) 60 (upd (zg5.2.1 60) (zt.1 1) (nI (tV zb zn (tE zb zn (tE zb zn zp)))))) 49 (upd (zg5.2.1 49) 24 (nI ((zt.1 1) + 1)))) (by rfl) ?_
              refine ev_ret (pc := 231) dX11_readThing_231 rfl ?_
              · have hB : (rowB zb zn (tS zb zn zp) (tE zb zn zp) zt).1 = (wrK zb zn (tE zb zn (tE zb zn (tE zb zn zp))), tS zb zn (tE zb zn (tE zb zn (tE zb zn zp)))) := by
                  unfold rowB
                  exact (ck_0 (by exact (if_neg (by omega)))).trans ((ck_0 (by exact zf2)).trans ((ck_0 (by exact zf4)).trans (rfl)))
                have hB0 : (rowB zb zn (tS zb zn zp) (tE zb zn zp) zt).1.1 = 0 := (congrArg Prod.fst hB).trans (wr_0 zk5)
                have e59 : zg5.2.1 59 = upd (h.2.1 59) (zt.1 1) 0 := by rw [hs5.2.2.1 59 (by decide), hs3.2.2.1 59 (by decide)]; show upd (zg1.2.1 59) _ _ = _; rw [hs1.2.2.1 59 (by decide)]
                have e60 : zg5.2.1 60 = upd (h.2.1 60) (zt.1 1) 0 := by rw [hs5.2.2.1 60 (by decide), hs3.2.2.1 60 (by decide)]; show upd (zg1.2.1 60) _ _ = _; rw [hs1.2.2.1 60 (by decide)]
                have e61 : zg5.2.1 61 = upd (h.2.1 61) (zt.1 1) 0 := by rw [hs5.2.2.1 61 (by decide), hs3.2.2.1 61 (by decide)]; show upd (zg1.2.1 61) _ _ = _; rw [hs1.2.2.1 61 (by decide)]
                have e62 : zg5.2.1 62 = upd (h.2.1 62) (zt.1 1) 0 := by rw [hs5.2.2.1 62 (by decide), hs3.2.2.1 62 (by decide)]; show upd (zg1.2.1 62) _ _ = _; rw [hs1.2.2.1 62 (by decide)]
                have e63 : zg5.2.1 63 = h.2.1 63 := by rw [hs5.2.2.1 63 (by decide), hs3.2.2.1 63 (by decide)]; exact hs1.2.2.1 63 (by decide)
                have e64 : zg5.2.1 64 = h.2.1 64 := by rw [hs5.2.2.1 64 (by decide), hs3.2.2.1 64 (by decide)]; exact hs1.2.2.1 64 (by decide)
                have e65 : zg5.2.1 65 = h.2.1 65 := by rw [hs5.2.2.1 65 (by decide), hs3.2.2.1 65 (by decide)]; exact hs1.2.2.1 65 (by decide)
                refine ⟨rfl, RB_ok (FrM_49 (FrM_r (FrM_r hF5 (by decide) (by decide)) (by decide) (by decide)) (fun zj hj => by simp only [upd]; (repeat' split) <;> first | rfl | (exfalso; unfold pFz at hj; omega))) hB0 ⟨⟨⟨rfl, hv5.2.1, hv5.2.2.1, hv5.2.2.2.1, hv5.2.2.2.2⟩, ?_⟩, hL5, zk5⟩⟩
                refine ⟨fun zk hk => ?_, fun zk hk => ?_, fun zk hk => ?_⟩
                · have hk' : zk < zt.1 1 + 1 := hk
                  show upd (zg5.2.1 59) (zt.1 1) (nI (tV zb zn (tE zb zn zp))) zk = nI _ ∧ upd (zg5.2.1 60) (zt.1 1) (nI (tV zb zn (tE zb zn (tE zb zn zp)))) zk = nI _ ∧ zg5.2.1 61 zk = nI _ ∧ zg5.2.1 62 zk = nI _
                  rw [e59, e60, e61, e62]
                  by_cases e : zk = zt.1 1
                  · subst e
                    simp [rowB, upd, upM, upN, nI_0]
                  · have h9 := hM.2.1 zk (by omega)
                    simp [rowB, upd, upM, upN, e, h9]
                · show zg5.2.1 64 zk = _ ∧ zg5.2.1 65 zk = _
                  rw [e64, e65]
                  exact hM.2.2.1 zk hk
                · show zg5.2.1 63 zk = _
                  rw [e63]
                  exact hM.2.2.2 zk hk
          · refine ev_callVv (S := []) (pc := 92) dX11_readThing_92 kX11_number lX11_140 vX11_number (cn_numBad E zg3 zb zn (tE zb zn (tE zb zn zp)) 1 1000 999 wg3 hL3 (zk3) hp3 (by decide) (by decide) (by decide) zf4) rfl rfl (wlt wg3 (by decide)) rfl rfl (Nat.le_of_ble_eq_true rfl) ⟨Nat.le_of_ble_eq_true rfl, Nat.le_of_ble_eq_true rfl⟩ ⟨Nat.le_of_ble_eq_true rfl, Nat.le_of_ble_eq_true rfl⟩ ?_
            refine ev_eqH (h' := sI zg3 49 (upd (upd (zg3.2.1 49) 3 (nI (fnK zb zn (tE zb zn (tE zb zn zp)) 1 1000))) 4 (nI (tS zb zn (tE zb zn (tE zb zn zp)))))) (by first | exact (sI_sI _ _ _ _).trans rfl | rfl) ?_
            refine ev_istore (pc := 95) (L' := [some (.ref 49), some (.int 1), some (.int (nI (zt.1 1))), some (.int (nI (tV zb zn (tE zb zn zp)))), some (.int 1)]) dX11_readThing_95 (Nat.le_of_ble_eq_true rfl) rfl ?_
            refine ev_aload_n (pc := 97) dX11_readThing_97 rfl ?_
            refine ev_callV0 (S := []) (pc := 98) dX11_readThing_98 kX11_next lX11_137 vX11_next (cn_X11_nextW E (sI zg3 49 (upd (upd (zg3.2.1 49) 3 (nI (fnK zb zn (tE zb zn (tE zb zn zp)) 1 1000))) 4 (nI (tS zb zn (tE zb zn (tE zb zn zp)))))) (wf_sI wg3) (nb_p (fn_5 _ _ _ _ _) zf4)) rfl rfl (wlt (wf_sI wg3) (by decide)) rfl rfl (Nat.le_of_ble_eq_true rfl) ⟨Nat.le_of_ble_eq_true rfl, Nat.le_of_ble_eq_true rfl⟩ ⟨Nat.le_of_ble_eq_true rfl, Nat.le_of_ble_eq_true rfl⟩ ?_
            refine ev_aload_n (pc := 101) dX11_readThing_101 rfl ?_
            refine ev_getI (pc := 102) dX11_readThing_102 fX11_100 rfl (wlt (wf_sI wg3) (by decide)) ?_
            refine ev_eqI (e' := nI (fnK zb zn (tE zb zn (tE zb zn zp)) 1 1000)) (by rfl) ?_
            refine ev_if_ne (pc := 105) (tgt := 123) dX11_readThing_105 (by decide) (fun zc105 => ?_) (fun zc105 => absurd zc105 (nb_0 (fn_5 _ _ _ _ _) zf4))
            refine ev_iload_n (pc := 123) dX11_readThing_123 rfl ?_
            refine ev_if_ne (pc := 124) (tgt := 210) dX11_readThing_124 (by decide) (fun zc124 => ?_) (fun zc124 => absurd zc124 (by decide))
            refine ev_aload_n (pc := 210) dX11_readThing_210 rfl ?_
            refine ev_dup (pc := 211) dX11_readThing_211 rfl ?_
            refine ev_getI (pc := 212) dX11_readThing_212 fX11_134 rfl (wlt (wf_sI wg3) (by decide)) ?_
            refine ev_eqI (e' := zg3.2.1 49 24) (by rfl) ?_
            refine ev_eqI (e' := nI (zt.1 1)) hv3.1 ?_
            refine ev_aload_n (pc := 215) dX11_readThing_215 rfl ?_
            refine ev_getI (pc := 216) dX11_readThing_216 fX11_100 rfl (wlt (wf_sI wg3) (by decide)) ?_
            refine ev_eqI (e' := nI (fnK zb zn (tE zb zn (tE zb zn zp)) 1 1000)) (by rfl) ?_
            refine ev_if_ne (pc := 219) (tgt := 226) dX11_readThing_219 (by decide) (fun zc219 => ?_) (fun zc219 => absurd zc219 (nb_0 (fn_5 _ _ _ _ _) zf4))
            refine ev_iconst (pc := 226) (v := 0) dX11_readThing_226 (by decide) ?_
            refine ev_iadd (pc := 227) dX11_readThing_227 ?_
            refine ev_eqI (e' := nI ((zt.1 1) + 0)) (nI_add (zt.1 1) 0) ?_
            refine ev_putI (pc := 228) dX11_readThing_228 fX11_134 rfl (wlt (wf_sI wg3) (by decide)) ?_
            refine ev_eqH (h' := sI zg3 49 (upd (upd (upd (zg3.2.1 49) 3 (nI (fnK zb zn (tE zb zn (tE zb zn zp)) 1 1000))) 4 (nI (tS zb zn (tE zb zn (tE zb zn zp))))) 24 (nI ((zt.1 1) + 0)))) (by exact sI_sI _ _ _ _) ?_
            refine ev_ret (pc := 231) dX11_readThing_231 rfl ?_
            · have hB : (rowB zb zn (tS zb zn zp) (tE zb zn zp) zt).1 = (fnK zb zn (tE zb zn (tE zb zn zp)) 1 1000, tS zb zn (tE zb zn (tE zb zn zp))) := by
                unfold rowB
                exact (ck_0 (by exact (if_neg (by omega)))).trans ((ck_0 (by exact zf2)).trans (ck_1 (by exact zf4)))
              exact ⟨rfl, RB_bad (FrM_49 hF3 (fun zj hj => by simp only [upd]; (repeat' split) <;> first | rfl | (exfalso; unfold pFz at hj; omega))) hB zf4 rfl rfl⟩
      · refine ev_callVv (S := []) (pc := 79) dX11_readThing_79 kX11_number lX11_140 vX11_number (cn_numBad E (sI (sI (sI (sI zg1 59 (upd (zg1.2.1 59) (zt.1 1) 0)) 60 (upd (zg1.2.1 60) (zt.1 1) 0)) 61 (upd (zg1.2.1 61) (zt.1 1) 0)) 62 (upd (zg1.2.1 62) (zt.1 1) 0)) zb zn (tE zb zn zp) 1 100 99 (wf_sI (wf_sI (wf_sI (wf_sI wg1)))) hL1 (zk1) hp1 (by decide) (by decide) (by decide) zf2) rfl rfl (wlt (wf_sI (wf_sI (wf_sI (wf_sI wg1)))) (by decide)) rfl rfl (Nat.le_of_ble_eq_true rfl) ⟨Nat.le_of_ble_eq_true rfl, Nat.le_of_ble_eq_true rfl⟩ ⟨Nat.le_of_ble_eq_true rfl, Nat.le_of_ble_eq_true rfl⟩ ?_
        refine ev_eqH (h' := sI (sI (sI (sI (sI zg1 59 (upd (zg1.2.1 59) (zt.1 1) 0)) 60 (upd (zg1.2.1 60) (zt.1 1) 0)) 61 (upd (zg1.2.1 61) (zt.1 1) 0)) 62 (upd (zg1.2.1 62) (zt.1 1) 0)) 49 (upd (upd (zg1.2.1 49) 3 (nI (fnK zb zn (tE zb zn zp) 1 100))) 4 (nI (tS zb zn (tE zb zn zp))))) (by first | exact (sI_sI _ _ _ _).trans rfl | rfl) ?_
        refine ev_istore_n (pc := 82) (L' := [some (.ref 49), some (.int 1), some (.int (nI (zt.1 1))), some (.int 1), none]) dX11_readThing_82 (Nat.le_of_ble_eq_true rfl) rfl ?_
        refine ev_aload_n (pc := 83) dX11_readThing_83 rfl ?_
        refine ev_callV0 (S := []) (pc := 84) dX11_readThing_84 kX11_next lX11_137 vX11_next (cn_X11_nextW E (sI (sI (sI (sI (sI zg1 59 (upd (zg1.2.1 59) (zt.1 1) 0)) 60 (upd (zg1.2.1 60) (zt.1 1) 0)) 61 (upd (zg1.2.1 61) (zt.1 1) 0)) 62 (upd (zg1.2.1 62) (zt.1 1) 0)) 49 (upd (upd (zg1.2.1 49) 3 (nI (fnK zb zn (tE zb zn zp) 1 100))) 4 (nI (tS zb zn (tE zb zn zp))))) (wf_sI (wf_sI (wf_sI (wf_sI (wf_sI wg1))))) (nb_p (fn_5 _ _ _ _ _) zf2)) rfl rfl (wlt (wf_sI (wf_sI (wf_sI (wf_sI (wf_sI wg1))))) (by decide)) rfl rfl (Nat.le_of_ble_eq_true rfl) ⟨Nat.le_of_ble_eq_true rfl, Nat.le_of_ble_eq_true rfl⟩ ⟨Nat.le_of_ble_eq_true rfl, Nat.le_of_ble_eq_true rfl⟩ ?_
        refine ev_aload_n (pc := 87) dX11_readThing_87 rfl ?_
        refine ev_iconst (pc := 88) (v := 1) dX11_readThing_88 (by decide) ?_
        refine ev_sipush (pc := 89) (v := 999) dX11_readThing_89 (by decide) ?_
        refine ev_callVv (S := []) (pc := 92) dX11_readThing_92 kX11_number lX11_140 vX11_number (cn_X11_numberW E (sI (sI (sI (sI (sI zg1 59 (upd (zg1.2.1 59) (zt.1 1) 0)) 60 (upd (zg1.2.1 60) (zt.1 1) 0)) 61 (upd (zg1.2.1 61) (zt.1 1) 0)) 62 (upd (zg1.2.1 62) (zt.1 1) 0)) 49 (upd (upd (zg1.2.1 49) 3 (nI (fnK zb zn (tE zb zn zp) 1 100))) 4 (nI (tS zb zn (tE zb zn zp))))) 1 999 (wf_sI (wf_sI (wf_sI (wf_sI (wf_sI wg1))))) (nb_0 (fn_5 _ _ _ _ _) zf2)) rfl rfl (wlt (wf_sI (wf_sI (wf_sI (wf_sI (wf_sI wg1))))) (by decide)) rfl rfl (Nat.le_of_ble_eq_true rfl) ⟨Nat.le_of_ble_eq_true rfl, Nat.le_of_ble_eq_true rfl⟩ ⟨Nat.le_of_ble_eq_true rfl, Nat.le_of_ble_eq_true rfl⟩ ?_
        refine ev_istore (pc := 95) (L' := [some (.ref 49), some (.int 1), some (.int (nI (zt.1 1))), some (.int 1), some (.int 1)]) dX11_readThing_95 (Nat.le_of_ble_eq_true rfl) rfl ?_
        refine ev_aload_n (pc := 97) dX11_readThing_97 rfl ?_
        refine ev_callV0 (S := []) (pc := 98) dX11_readThing_98 kX11_next lX11_137 vX11_next (cn_X11_nextW E (sI (sI (sI (sI (sI zg1 59 (upd (zg1.2.1 59) (zt.1 1) 0)) 60 (upd (zg1.2.1 60) (zt.1 1) 0)) 61 (upd (zg1.2.1 61) (zt.1 1) 0)) 62 (upd (zg1.2.1 62) (zt.1 1) 0)) 49 (upd (upd (zg1.2.1 49) 3 (nI (fnK zb zn (tE zb zn zp) 1 100))) 4 (nI (tS zb zn (tE zb zn zp))))) (wf_sI (wf_sI (wf_sI (wf_sI (wf_sI wg1))))) (nb_p (fn_5 _ _ _ _ _) zf2)) rfl rfl (wlt (wf_sI (wf_sI (wf_sI (wf_sI (wf_sI wg1))))) (by decide)) rfl rfl (Nat.le_of_ble_eq_true rfl) ⟨Nat.le_of_ble_eq_true rfl, Nat.le_of_ble_eq_true rfl⟩ ⟨Nat.le_of_ble_eq_true rfl, Nat.le_of_ble_eq_true rfl⟩ ?_
        refine ev_aload_n (pc := 101) dX11_readThing_101 rfl ?_
        refine ev_getI (pc := 102) dX11_readThing_102 fX11_100 rfl (wlt (wf_sI (wf_sI (wf_sI (wf_sI (wf_sI wg1))))) (by decide)) ?_
        refine ev_eqI (e' := nI (fnK zb zn (tE zb zn zp) 1 100)) (by rfl) ?_
        refine ev_if_ne (pc := 105) (tgt := 123) dX11_readThing_105 (by decide) (fun zc105 => ?_) (fun zc105 => absurd zc105 (nb_0 (fn_5 _ _ _ _ _) zf2))
        refine ev_iload_n (pc := 123) dX11_readThing_123 rfl ?_
        refine ev_if_ne (pc := 124) (tgt := 210) dX11_readThing_124 (by decide) (fun zc124 => ?_) (fun zc124 => absurd zc124 (by decide))
        refine ev_aload_n (pc := 210) dX11_readThing_210 rfl ?_
        refine ev_dup (pc := 211) dX11_readThing_211 rfl ?_
        refine ev_getI (pc := 212) dX11_readThing_212 fX11_134 rfl (wlt (wf_sI (wf_sI (wf_sI (wf_sI (wf_sI wg1))))) (by decide)) ?_
        refine ev_eqI (e' := zg1.2.1 49 24) (by rfl) ?_
        refine ev_eqI (e' := nI (zt.1 1)) hv1.1 ?_
        refine ev_aload_n (pc := 215) dX11_readThing_215 rfl ?_
        refine ev_getI (pc := 216) dX11_readThing_216 fX11_100 rfl (wlt (wf_sI (wf_sI (wf_sI (wf_sI (wf_sI wg1))))) (by decide)) ?_
        refine ev_eqI (e' := nI (fnK zb zn (tE zb zn zp) 1 100)) (by rfl) ?_
        refine ev_if_ne (pc := 219) (tgt := 226) dX11_readThing_219 (by decide) (fun zc219 => ?_) (fun zc219 => absurd zc219 (nb_0 (fn_5 _ _ _ _ _) zf2))
        refine ev_iconst (pc := 226) (v := 0) dX11_readThing_226 (by decide) ?_
        refine ev_iadd (pc := 227) dX11_readThing_227 ?_
        refine ev_eqI (e' := nI ((zt.1 1) + 0)) (nI_add (zt.1 1) 0) ?_
        refine ev_putI (pc := 228) dX11_readThing_228 fX11_134 rfl (wlt (wf_sI (wf_sI (wf_sI (wf_sI (wf_sI wg1))))) (by decide)) ?_
        refine ev_eqH (h' := sI (sI (sI (sI (sI zg1 59 (upd (zg1.2.1 59) (zt.1 1) 0)) 60 (upd (zg1.2.1 60) (zt.1 1) 0)) 61 (upd (zg1.2.1 61) (zt.1 1) 0)) 62 (upd (zg1.2.1 62) (zt.1 1) 0)) 49 (upd (upd (upd (zg1.2.1 49) 3 (nI (fnK zb zn (tE zb zn zp) 1 100))) 4 (nI (tS zb zn (tE zb zn zp)))) 24 (nI ((zt.1 1) + 0)))) (by exact sI_sI _ _ _ _) ?_
        refine ev_ret (pc := 231) dX11_readThing_231 rfl ?_
        · have hB : (rowB zb zn (tS zb zn zp) (tE zb zn zp) zt).1 = (fnK zb zn (tE zb zn zp) 1 100, tS zb zn (tE zb zn zp)) := by
            unfold rowB
            exact (ck_0 (by exact (if_neg (by omega)))).trans (ck_1 (by exact zf2))
          exact ⟨rfl, RB_bad (FrM_49 (FrM_r (FrM_r (FrM_r (FrM_r hF1 (by decide) (by decide)) (by decide) (by decide)) (by decide) (by decide)) (by decide) (by decide)) (fun zj hj => by simp only [upd]; (repeat' split) <;> first | rfl | (exfalso; unfold pFz at hj; omega))) hB zf2 rfl rfl⟩
  · -- ne at 6: not taken
    refine ev_aload_n (pc := 9) dX11_readThing_9 rfl ?_
    refine ev_iconst (pc := 10) (v := 5) dX11_readThing_10 (by decide) ?_
    refine ev_callV0 (S := []) (pc := 11) dX11_readThing_11 kX11_fails lX11_130 vX11_fails (cn_fails0 E h 5 hw (LA_w hL hk0)) rfl rfl (wlt hw (by decide)) rfl rfl (Nat.le_of_ble_eq_true rfl) ⟨Nat.le_of_ble_eq_true rfl, Nat.le_of_ble_eq_true rfl⟩ ⟨Nat.le_of_ble_eq_true rfl, Nat.le_of_ble_eq_true rfl⟩ ?_
    refine ev_eqH (h' := sI h 49 (upd (upd (h.2.1 49) 3 5) 4 (h.2.1 49 6))) (by first | exact (sI_sI _ _ _ _).trans rfl | rfl) ?_
    have zm12 := hO.1
    refine ev_aload_n (pc := 14) dX11_readThing_14 rfl ?_
    refine ev_callV0 (S := []) (pc := 15) dX11_readThing_15 kX11_next lX11_137 vX11_next (cn_X11_nextW E (sI h 49 (upd (upd (h.2.1 49) 3 5) 4 (h.2.1 49 6))) (wf_sI hw) (show (0 : Int32) < 5 by decide)) rfl rfl (wlt (wf_sI hw) (by decide)) rfl rfl (Nat.le_of_ble_eq_true rfl) ⟨Nat.le_of_ble_eq_true rfl, Nat.le_of_ble_eq_true rfl⟩ ⟨Nat.le_of_ble_eq_true rfl, Nat.le_of_ble_eq_true rfl⟩ ?_
    refine ev_aload_n (pc := 18) dX11_readThing_18 rfl ?_
    refine ev_getI (pc := 19) dX11_readThing_19 fX11_134 rfl (wlt (wf_sI hw) (by decide)) ?_
    refine ev_eqI (e' := h.2.1 49 24) (by rfl) ?_
    refine ev_eqI (e' := nI (zt.1 1)) hM.1.1 ?_
    refine ev_bipush (pc := 22) (v := 12) dX11_readThing_22 (by decide) ?_
    refine ev_icmp_ge (pc := 24) (tgt := 34) dX11_readThing_24 (by decide) (fun zc24 => ?_) (fun zc24 => absurd (by rw [zc6]; decide) zc24)
    refine ev_iconst (pc := 34) (v := 0) dX11_readThing_34 (by decide) ?_
    refine ev_istore_n (pc := 35) (L' := [some (.ref 49), some (.int 1), some (.int 0), none, none]) dX11_readThing_35 (Nat.le_of_ble_eq_true rfl) rfl ?_
    refine ev_aload_n (pc := 36) dX11_readThing_36 rfl ?_
    refine ev_getI (pc := 37) dX11_readThing_37 fX11_100 rfl (wlt (wf_sI hw) (by decide)) ?_
    refine ev_eqI (e' := 5) (by rfl) ?_
    refine ev_if_ne (pc := 40) (tgt := 71) dX11_readThing_40 (by decide) (fun zc40 => ?_) (fun zc40 => absurd zc40 (show ¬ (5 : Int32) = 0 by decide))
    refine ev_iload_n (pc := 71) dX11_readThing_71 rfl ?_
    refine ev_if_eq (pc := 72) (tgt := 123) dX11_readThing_72 (by decide) (fun zc72 => absurd zc72 (by decide)) (fun zc72 => ?_)
    refine ev_aload_n (pc := 75) dX11_readThing_75 rfl ?_
    refine ev_iconst (pc := 76) (v := 1) dX11_readThing_76 (by decide) ?_
    refine ev_bipush (pc := 77) (v := 99) dX11_readThing_77 (by decide) ?_
    refine ev_callVv (S := []) (pc := 79) dX11_readThing_79 kX11_number lX11_140 vX11_number (cn_X11_numberW E (sI h 49 (upd (upd (h.2.1 49) 3 5) 4 (h.2.1 49 6))) 1 99 (wf_sI hw) (show ¬ (5 : Int32) = 0 by decide)) rfl rfl (wlt (wf_sI hw) (by decide)) rfl rfl (Nat.le_of_ble_eq_true rfl) ⟨Nat.le_of_ble_eq_true rfl, Nat.le_of_ble_eq_true rfl⟩ ⟨Nat.le_of_ble_eq_true rfl, Nat.le_of_ble_eq_true rfl⟩ ?_
    refine ev_istore_n (pc := 82) (L' := [some (.ref 49), some (.int 1), some (.int 0), some (.int 1), none]) dX11_readThing_82 (Nat.le_of_ble_eq_true rfl) rfl ?_
    refine ev_aload_n (pc := 83) dX11_readThing_83 rfl ?_
    refine ev_callV0 (S := []) (pc := 84) dX11_readThing_84 kX11_next lX11_137 vX11_next (cn_X11_nextW E (sI h 49 (upd (upd (h.2.1 49) 3 5) 4 (h.2.1 49 6))) (wf_sI hw) (show (0 : Int32) < 5 by decide)) rfl rfl (wlt (wf_sI hw) (by decide)) rfl rfl (Nat.le_of_ble_eq_true rfl) ⟨Nat.le_of_ble_eq_true rfl, Nat.le_of_ble_eq_true rfl⟩ ⟨Nat.le_of_ble_eq_true rfl, Nat.le_of_ble_eq_true rfl⟩ ?_
    refine ev_aload_n (pc := 87) dX11_readThing_87 rfl ?_
    refine ev_iconst (pc := 88) (v := 1) dX11_readThing_88 (by decide) ?_
    refine ev_sipush (pc := 89) (v := 999) dX11_readThing_89 (by decide) ?_
    refine ev_callVv (S := []) (pc := 92) dX11_readThing_92 kX11_number lX11_140 vX11_number (cn_X11_numberW E (sI h 49 (upd (upd (h.2.1 49) 3 5) 4 (h.2.1 49 6))) 1 999 (wf_sI hw) (show ¬ (5 : Int32) = 0 by decide)) rfl rfl (wlt (wf_sI hw) (by decide)) rfl rfl (Nat.le_of_ble_eq_true rfl) ⟨Nat.le_of_ble_eq_true rfl, Nat.le_of_ble_eq_true rfl⟩ ⟨Nat.le_of_ble_eq_true rfl, Nat.le_of_ble_eq_true rfl⟩ ?_
    refine ev_istore (pc := 95) (L' := [some (.ref 49), some (.int 1), some (.int 0), some (.int 1), some (.int 1)]) dX11_readThing_95 (Nat.le_of_ble_eq_true rfl) rfl ?_
    refine ev_aload_n (pc := 97) dX11_readThing_97 rfl ?_
    refine ev_callV0 (S := []) (pc := 98) dX11_readThing_98 kX11_next lX11_137 vX11_next (cn_X11_nextW E (sI h 49 (upd (upd (h.2.1 49) 3 5) 4 (h.2.1 49 6))) (wf_sI hw) (show (0 : Int32) < 5 by decide)) rfl rfl (wlt (wf_sI hw) (by decide)) rfl rfl (Nat.le_of_ble_eq_true rfl) ⟨Nat.le_of_ble_eq_true rfl, Nat.le_of_ble_eq_true rfl⟩ ⟨Nat.le_of_ble_eq_true rfl, Nat.le_of_ble_eq_true rfl⟩ ?_
    refine ev_aload_n (pc := 101) dX11_readThing_101 rfl ?_
    refine ev_getI (pc := 102) dX11_readThing_102 fX11_100 rfl (wlt (wf_sI hw) (by decide)) ?_
    refine ev_eqI (e' := 5) (by rfl) ?_
    refine ev_if_ne (pc := 105) (tgt := 123) dX11_readThing_105 (by decide) (fun zc105 => ?_) (fun zc105 => absurd zc105 (show ¬ (5 : Int32) = 0 by decide))
    refine ev_iload_n (pc := 123) dX11_readThing_123 rfl ?_
    refine ev_if_ne (pc := 124) (tgt := 210) dX11_readThing_124 (by decide) (fun zc124 => ?_) (fun zc124 => absurd zc124 (by decide))
    refine ev_aload_n (pc := 210) dX11_readThing_210 rfl ?_
    refine ev_dup (pc := 211) dX11_readThing_211 rfl ?_
    refine ev_getI (pc := 212) dX11_readThing_212 fX11_134 rfl (wlt (wf_sI hw) (by decide)) ?_
    refine ev_eqI (e' := h.2.1 49 24) (by rfl) ?_
    refine ev_eqI (e' := nI (zt.1 1)) hM.1.1 ?_
    refine ev_aload_n (pc := 215) dX11_readThing_215 rfl ?_
    refine ev_getI (pc := 216) dX11_readThing_216 fX11_100 rfl (wlt (wf_sI hw) (by decide)) ?_
    refine ev_eqI (e' := 5) (by rfl) ?_
    refine ev_if_ne (pc := 219) (tgt := 226) dX11_readThing_219 (by decide) (fun zc219 => ?_) (fun zc219 => absurd zc219 (show ¬ (5 : Int32) = 0 by decide))
    refine ev_iconst (pc := 226) (v := 0) dX11_readThing_226 (by decide) ?_
    refine ev_iadd (pc := 227) dX11_readThing_227 ?_
    refine ev_eqI (e' := nI ((zt.1 1) + 0)) (nI_add (zt.1 1) 0) ?_
    refine ev_putI (pc := 228) dX11_readThing_228 fX11_134 rfl (wlt (wf_sI hw) (by decide)) ?_
    refine ev_eqH (h' := sI h 49 (upd (upd (upd (h.2.1 49) 3 5) 4 (h.2.1 49 6)) 24 (nI ((zt.1 1) + 0)))) (by exact sI_sI _ _ _ _) ?_
    refine ev_ret (pc := 231) dX11_readThing_231 rfl ?_
    · have hB : (rowB zb zn (tS zb zn zp) (tE zb zn zp) zt).1 = (5, tS zb zn zp) := by
        unfold rowB
        exact (ck_1 (by show ¬ (if zt.1 1 = 12 then 5 else 0) = 0; rw [if_pos ((nI_eq (a := zt.1 1) (b := 12) (by omega) (by decide)).mp zc6)]; decide)).trans (by rw [if_pos ((nI_eq (a := zt.1 1) (b := 12) (by omega) (by decide)).mp zc6)])
      exact ⟨rfl, RB_bad (FrM_49 (FrM_0 h) (fun zj hj => by simp only [upd]; (repeat' split) <;> first | rfl | (exfalso; unfold pFz at hj; omega))) hB (by decide) rfl hL.2.1⟩
theorem cn_X11_readGive (E : ME) (h : AH) (zb : Nat → Nat) (zn zp : Nat) (zt : PSt) (hw : WF h) (hT : TMz h zb zn) (hL : LAz zb zn zp h) (hk0 : ¬ tK zb zn zp = 0) (hp : zp ≤ zn) (hM : MSz zt h) (hO : POK zt) : Con E mX11_readGive 2 0 0 [.ref 49] h (fun r h' => r = none ∧ RBz zb zn (givB zb zn (tE zb zn zp) zt) h h') := by
  refine con_of2 (L := [some (.ref 49), none, none]) rfl (Nat.le_of_ble_eq_true rfl) rfl ?_
  have zn4 := hT.2.1
  refine ev_aload_n (pc := 0) dX11_readGive_0 rfl ?_
  have hp1 : (tE zb zn zp) ≤ zn := (tE_le zb hp).2
  refine ev_callV (S := []) (pc := 1) dX11_readGive_1 kX11_next lX11_137 vX11_next (cn_X11_next E h zb zn (tE zb zn zp) hw hT (LA_w hL hk0) hL.1 hp1) rfl rfl (wlt hw (by decide)) rfl rfl (Nat.le_of_ble_eq_true rfl) ⟨Nat.le_of_ble_eq_true rfl, Nat.le_of_ble_eq_true rfl⟩ ⟨Nat.le_of_ble_eq_true rfl, Nat.le_of_ble_eq_true rfl⟩ ?_
  rintro _ zg1 ⟨rfl, hs1, hL1⟩
  have wg1 := scE_w hs1 hw
  have hT1 := scE_T (zb := zb) (zn := zn) hs1 hT
  have hv1 := scE_S (zt := zt) hs1 hM.1
  have hF1 := FrM_s (FrM_0 h) hs1
  by_cases zk1 : tK zb zn (tE zb zn zp) = 0
  · refine ev_aload_n (pc := 4) dX11_readGive_4 rfl ?_
    refine ev_iconst (pc := 5) (v := 0) dX11_readGive_5 (by decide) ?_
    refine ev_aload_n (pc := 6) dX11_readGive_6 rfl ?_
    refine ev_getI (pc := 7) dX11_readGive_7 fX11_134 rfl (wlt wg1 (by decide)) ?_
    refine ev_eqI (e' := nI (zt.1 1)) hv1.1 ?_
    refine ev_iconst (pc := 10) (v := 1) dX11_readGive_10 (by decide) ?_
    refine ev_isub (pc := 11) dX11_readGive_11 ?_
    refine ev_callVv (S := []) (pc := 12) dX11_readGive_12 kX11_number lX11_140 vX11_number (cn_X11_numberW E zg1 0 ((nI (zt.1 1)) - 1) wg1 (LA_b hL1 zk1)) rfl rfl (wlt wg1 (by decide)) rfl rfl (Nat.le_of_ble_eq_true rfl) ⟨Nat.le_of_ble_eq_true rfl, Nat.le_of_ble_eq_true rfl⟩ ⟨Nat.le_of_ble_eq_true rfl, Nat.le_of_ble_eq_true rfl⟩ ?_
    refine ev_istore_n (pc := 15) (L' := [some (.ref 49), some (.int 0), none]) dX11_readGive_15 (Nat.le_of_ble_eq_true rfl) rfl ?_
    refine ev_aload_n (pc := 16) dX11_readGive_16 rfl ?_
    refine ev_callV0 (S := []) (pc := 17) dX11_readGive_17 kX11_next lX11_137 vX11_next (cn_X11_nextW E zg1 wg1 (LA_p hL1 zk1)) rfl rfl (wlt wg1 (by decide)) rfl rfl (Nat.le_of_ble_eq_true rfl) ⟨Nat.le_of_ble_eq_true rfl, Nat.le_of_ble_eq_true rfl⟩ ⟨Nat.le_of_ble_eq_true rfl, Nat.le_of_ble_eq_true rfl⟩ ?_
    refine ev_aload_n (pc := 20) dX11_readGive_20 rfl ?_
    refine ev_iconst (pc := 21) (v := 0) dX11_readGive_21 (by decide) ?_
    refine ev_aload_n (pc := 22) dX11_readGive_22 rfl ?_
    refine ev_getI (pc := 23) dX11_readGive_23 fX11_134 rfl (wlt wg1 (by decide)) ?_
    refine ev_eqI (e' := nI (zt.1 1)) hv1.1 ?_
    refine ev_iconst (pc := 26) (v := 1) dX11_readGive_26 (by decide) ?_
    refine ev_isub (pc := 27) dX11_readGive_27 ?_
    refine ev_callVv (S := []) (pc := 28) dX11_readGive_28 kX11_number lX11_140 vX11_number (cn_X11_numberW E zg1 0 ((nI (zt.1 1)) - 1) wg1 (LA_b hL1 zk1)) rfl rfl (wlt wg1 (by decide)) rfl rfl (Nat.le_of_ble_eq_true rfl) ⟨Nat.le_of_ble_eq_true rfl, Nat.le_of_ble_eq_true rfl⟩ ⟨Nat.le_of_ble_eq_true rfl, Nat.le_of_ble_eq_true rfl⟩ ?_
    refine ev_istore_n (pc := 31) (L' := [some (.ref 49), some (.int 0), some (.int 0)]) dX11_readGive_31 (Nat.le_of_ble_eq_true rfl) rfl ?_
    refine ev_aload_n (pc := 32) dX11_readGive_32 rfl ?_
    refine ev_getI (pc := 33) dX11_readGive_33 fX11_100 rfl (wlt wg1 (by decide)) ?_
    refine ev_if_ne (pc := 36) (tgt := 49) dX11_readGive_36 (by decide) (fun zc36 => ?_) (fun zc36 => absurd zc36 (LA_b hL1 zk1))
    refine ev_aload_n (pc := 49) dX11_readGive_49 rfl ?_
    refine ev_getI (pc := 50) dX11_readGive_50 fX11_100 rfl (wlt wg1 (by decide)) ?_
    refine ev_if_ne (pc := 53) (tgt := 75) dX11_readGive_53 (by decide) (fun zc53 => ?_) (fun zc53 => absurd zc53 (LA_b hL1 zk1))
    refine ev_aload_n (pc := 75) dX11_readGive_75 rfl ?_
    refine ev_getI (pc := 76) dX11_readGive_76 fX11_100 rfl (wlt wg1 (by decide)) ?_
    refine ev_if_ne (pc := 79) (tgt := 106) dX11_readGive_79 (by decide) (fun zc79 => ?_) (fun zc79 => absurd zc79 (LA_b hL1 zk1))
    refine ev_aload_n (pc := 106) dX11_readGive_106 rfl ?_
    refine ev_callV0 (S := []) (pc := 107) dX11_readGive_107 kX11_next lX11_137 vX11_next (cn_X11_nextW E zg1 wg1 (LA_p hL1 zk1)) rfl rfl (wlt wg1 (by decide)) rfl rfl (Nat.le_of_ble_eq_true rfl) ⟨Nat.le_of_ble_eq_true rfl, Nat.le_of_ble_eq_true rfl⟩ ⟨Nat.le_of_ble_eq_true rfl, Nat.le_of_ble_eq_true rfl⟩ ?_
    refine ev_ret (pc := 110) dX11_readGive_110 rfl ?_
    · have hB : (givB zb zn (tE zb zn zp) zt).1 = (wrK zb zn (tE zb zn zp), tS zb zn (tE zb zn zp)) := by
        unfold givB
        exact (ck_1 (by show ¬ fnK _ _ _ _ _ = 0; rw [fn_w _ _ zk1, wr_1 zk1]; decide)).trans (by rw [fn_w _ _ zk1])
      exact ⟨rfl, RB_bad hF1 hB (by rw [wr_1 zk1]; decide) hL1.2.2.2.2.1 (hL1.2.2.2.2.2 zk1)⟩
  · refine ev_aload_n (pc := 4) dX11_readGive_4 rfl ?_
    refine ev_iconst (pc := 5) (v := 0) dX11_readGive_5 (by decide) ?_
    refine ev_aload_n (pc := 6) dX11_readGive_6 rfl ?_
    refine ev_getI (pc := 7) dX11_readGive_7 fX11_134 rfl (wlt wg1 (by decide)) ?_
    refine ev_eqI (e' := nI (zt.1 1)) hv1.1 ?_
    refine ev_iconst (pc := 10) (v := 1) dX11_readGive_10 (by decide) ?_
    refine ev_isub (pc := 11) dX11_readGive_11 ?_
    by_cases zf2 : fnK zb zn (tE zb zn zp) 0 (zt.1 1) = 0
    · refine ev_callVv (S := []) (pc := 12) dX11_readGive_12 kX11_number lX11_140 vX11_number (cn_numOK E zg1 zb zn (tE zb zn zp) 0 (zt.1 1) ((nI (zt.1 1)) - 1) wg1 hL1 (zk1) hp1 rfl (by decide) (by have := hO.1; omega) zf2) rfl rfl (wlt wg1 (by decide)) rfl rfl (Nat.le_of_ble_eq_true rfl) ⟨Nat.le_of_ble_eq_true rfl, Nat.le_of_ble_eq_true rfl⟩ ⟨Nat.le_of_ble_eq_true rfl, Nat.le_of_ble_eq_true rfl⟩ ?_
      refine ev_istore_n (pc := 15) (L' := [some (.ref 49), some (.int (nI (tV zb zn (tE zb zn zp)))), none]) dX11_readGive_15 (Nat.le_of_ble_eq_true rfl) rfl ?_
      refine ev_aload_n (pc := 16) dX11_readGive_16 rfl ?_
      have hp3 : (tE zb zn (tE zb zn zp)) ≤ zn := (tE_le zb hp1).2
      refine ev_callV (S := []) (pc := 17) dX11_readGive_17 kX11_next lX11_137 vX11_next (cn_X11_next E zg1 zb zn (tE zb zn (tE zb zn zp)) wg1 hT1 (LA_w hL1 zk1) hL1.1 hp3) rfl rfl (wlt wg1 (by decide)) rfl rfl (Nat.le_of_ble_eq_true rfl) ⟨Nat.le_of_ble_eq_true rfl, Nat.le_of_ble_eq_true rfl⟩ ⟨Nat.le_of_ble_eq_true rfl, Nat.le_of_ble_eq_true rfl⟩ ?_
      rintro _ zg3 ⟨rfl, hs3, hL3⟩
      have wg3 := scE_w hs3 wg1
      have hT3 := scE_T (zb := zb) (zn := zn) hs3 hT1
      have hv3 := scE_S (zt := zt) hs3 hv1
      have hF3 := FrM_s hF1 hs3
      by_cases zk3 : tK zb zn (tE zb zn (tE zb zn zp)) = 0
      · refine ev_aload_n (pc := 20) dX11_readGive_20 rfl ?_
        refine ev_iconst (pc := 21) (v := 0) dX11_readGive_21 (by decide) ?_
        refine ev_aload_n (pc := 22) dX11_readGive_22 rfl ?_
        refine ev_getI (pc := 23) dX11_readGive_23 fX11_134 rfl (wlt wg3 (by decide)) ?_
        refine ev_eqI (e' := nI (zt.1 1)) hv3.1 ?_
        refine ev_iconst (pc := 26) (v := 1) dX11_readGive_26 (by decide) ?_
        refine ev_isub (pc := 27) dX11_readGive_27 ?_
        refine ev_callVv (S := []) (pc := 28) dX11_readGive_28 kX11_number lX11_140 vX11_number (cn_X11_numberW E zg3 0 ((nI (zt.1 1)) - 1) wg3 (LA_b hL3 zk3)) rfl rfl (wlt wg3 (by decide)) rfl rfl (Nat.le_of_ble_eq_true rfl) ⟨Nat.le_of_ble_eq_true rfl, Nat.le_of_ble_eq_true rfl⟩ ⟨Nat.le_of_ble_eq_true rfl, Nat.le_of_ble_eq_true rfl⟩ ?_
        refine ev_istore_n (pc := 31) (L' := [some (.ref 49), some (.int (nI (tV zb zn (tE zb zn zp)))), some (.int 0)]) dX11_readGive_31 (Nat.le_of_ble_eq_true rfl) rfl ?_
        refine ev_aload_n (pc := 32) dX11_readGive_32 rfl ?_
        refine ev_getI (pc := 33) dX11_readGive_33 fX11_100 rfl (wlt wg3 (by decide)) ?_
        refine ev_if_ne (pc := 36) (tgt := 49) dX11_readGive_36 (by decide) (fun zc36 => ?_) (fun zc36 => absurd zc36 (LA_b hL3 zk3))
        refine ev_aload_n (pc := 49) dX11_readGive_49 rfl ?_
        refine ev_getI (pc := 50) dX11_readGive_50 fX11_100 rfl (wlt wg3 (by decide)) ?_
        refine ev_if_ne (pc := 53) (tgt := 75) dX11_readGive_53 (by decide) (fun zc53 => ?_) (fun zc53 => absurd zc53 (LA_b hL3 zk3))
        refine ev_aload_n (pc := 75) dX11_readGive_75 rfl ?_
        refine ev_getI (pc := 76) dX11_readGive_76 fX11_100 rfl (wlt wg3 (by decide)) ?_
        refine ev_if_ne (pc := 79) (tgt := 106) dX11_readGive_79 (by decide) (fun zc79 => ?_) (fun zc79 => absurd zc79 (LA_b hL3 zk3))
        refine ev_aload_n (pc := 106) dX11_readGive_106 rfl ?_
        refine ev_callV0 (S := []) (pc := 107) dX11_readGive_107 kX11_next lX11_137 vX11_next (cn_X11_nextW E zg3 wg3 (LA_p hL3 zk3)) rfl rfl (wlt wg3 (by decide)) rfl rfl (Nat.le_of_ble_eq_true rfl) ⟨Nat.le_of_ble_eq_true rfl, Nat.le_of_ble_eq_true rfl⟩ ⟨Nat.le_of_ble_eq_true rfl, Nat.le_of_ble_eq_true rfl⟩ ?_
        refine ev_ret (pc := 110) dX11_readGive_110 rfl ?_
        · have hB : (givB zb zn (tE zb zn zp) zt).1 = (wrK zb zn (tE zb zn (tE zb zn zp)), tS zb zn (tE zb zn (tE zb zn zp))) := by
            unfold givB
            exact (ck_0 (by exact zf2)).trans ((ck_1 (by show ¬ fnK _ _ _ _ _ = 0; rw [fn_w _ _ zk3, wr_1 zk3]; decide)).trans (by rw [fn_w _ _ zk3]))
          exact ⟨rfl, RB_bad hF3 hB (by rw [wr_1 zk3]; decide) hL3.2.2.2.2.1 (hL3.2.2.2.2.2 zk3)⟩
      · refine ev_aload_n (pc := 20) dX11_readGive_20 rfl ?_
        refine ev_iconst (pc := 21) (v := 0) dX11_readGive_21 (by decide) ?_
        refine ev_aload_n (pc := 22) dX11_readGive_22 rfl ?_
        refine ev_getI (pc := 23) dX11_readGive_23 fX11_134 rfl (wlt wg3 (by decide)) ?_
        refine ev_eqI (e' := nI (zt.1 1)) hv3.1 ?_
        refine ev_iconst (pc := 26) (v := 1) dX11_readGive_26 (by decide) ?_
        refine ev_isub (pc := 27) dX11_readGive_27 ?_
        by_cases zf4 : fnK zb zn (tE zb zn (tE zb zn zp)) 0 (zt.1 1) = 0
        · refine ev_callVv (S := []) (pc := 28) dX11_readGive_28 kX11_number lX11_140 vX11_number (cn_numOK E zg3 zb zn (tE zb zn (tE zb zn zp)) 0 (zt.1 1) ((nI (zt.1 1)) - 1) wg3 hL3 (zk3) hp3 rfl (by decide) (by have := hO.1; omega) zf4) rfl rfl (wlt wg3 (by decide)) rfl rfl (Nat.le_of_ble_eq_true rfl) ⟨Nat.le_of_ble_eq_true rfl, Nat.le_of_ble_eq_true rfl⟩ ⟨Nat.le_of_ble_eq_true rfl, Nat.le_of_ble_eq_true rfl⟩ ?_
          refine ev_istore_n (pc := 31) (L' := [some (.ref 49), some (.int (nI (tV zb zn (tE zb zn zp)))), some (.int (nI (tV zb zn (tE zb zn (tE zb zn zp)))))]) dX11_readGive_31 (Nat.le_of_ble_eq_true rfl) rfl ?_
          refine ev_aload_n (pc := 32) dX11_readGive_32 rfl ?_
          refine ev_getI (pc := 33) dX11_readGive_33 fX11_100 rfl (wlt wg3 (by decide)) ?_
          refine ev_if_ne (pc := 36) (tgt := 49) dX11_readGive_36 (by decide) (fun zc36 => absurd (LA_w hL3 zk3) zc36) (fun zc36 => ?_)
          have zy1 := (fn_0.mp zf2).2
          have zy2 := (fn_0.mp zf4).2
          have zm12 := hO.1
          refine ev_iload_n (pc := 39) dX11_readGive_39 rfl ?_
          refine ev_iload_n (pc := 40) dX11_readGive_40 rfl ?_
          refine ev_icmp_ne (pc := 41) (tgt := 49) dX11_readGive_41 (by decide) (fun zc41 => ?_) (fun zc41 => ?_)
          · -- ne at 41: taken
            refine ev_aload_n (pc := 49) dX11_readGive_49 rfl ?_
            refine ev_getI (pc := 50) dX11_readGive_50 fX11_100 rfl (wlt wg3 (by decide)) ?_
            refine ev_if_ne (pc := 53) (tgt := 75) dX11_readGive_53 (by decide) (fun zc53 => absurd (LA_w hL3 zk3) zc53) (fun zc53 => ?_)
            refine ev_aload_n (pc := 56) dX11_readGive_56 rfl ?_
            refine ev_getR (pc := 57) (q := 62) dX11_readGive_57 fX11_50 rfl (wlt wg3 (by decide)) (wr wg3 rfl) ?_
            refine ev_iload_n (pc := 60) dX11_readGive_60 rfl ?_
            refine ev_iald (pc := 61) dX11_readGive_61 rfl (wlt wg3 (by decide)) (vp_in_nI (by omega) (by decide)) ?_
            refine ev_eqI (e' := zg3.2.1 62 (tV zb zn (tE zb zn zp))) (by rw [show Int32.toNatClampNeg (nI (tV zb zn (tE zb zn zp))) = tV zb zn (tE zb zn zp) from nI_clamp (by omega)] <;> rfl) ?_
            refine ev_eqI (e' := nI (zt.2 3 (tV zb zn (tE zb zn zp)))) (by rw [hs3.2.2.1 62 (by decide), hs1.2.2.1 62 (by decide)]; exact (hM.2.1 _ zy1.2).2.2.2) ?_
            refine ev_iload_n (pc := 62) dX11_readGive_62 rfl ?_
            refine ev_ishr (pc := 63) dX11_readGive_63 ?_
            refine ev_iconst (pc := 64) (v := 1) dX11_readGive_64 (by decide) ?_
            refine ev_iand (pc := 65) dX11_readGive_65 ?_
            refine ev_iconst (pc := 66) (v := 1) dX11_readGive_66 (by decide) ?_
            refine ev_icmp_ne (pc := 67) (tgt := 75) dX11_readGive_67 (by decide) (fun zc67 => ?_) (fun zc67 => ?_)
            · -- ne at 67: taken
              refine ev_aload_n (pc := 75) dX11_readGive_75 rfl ?_
              refine ev_getI (pc := 76) dX11_readGive_76 fX11_100 rfl (wlt wg3 (by decide)) ?_
              refine ev_if_ne (pc := 79) (tgt := 106) dX11_readGive_79 (by decide) (fun zc79 => absurd (LA_w hL3 zk3) zc79) (fun zc79 => ?_)
              refine ev_aload_n (pc := 82) dX11_readGive_82 rfl ?_
              refine ev_getR (pc := 83) (q := 62) dX11_readGive_83 fX11_50 rfl (wlt wg3 (by decide)) (wr wg3 rfl) ?_
              refine ev_iload_n (pc := 86) dX11_readGive_86 rfl ?_
              refine ev_dup2 (pc := 87) dX11_readGive_87 rfl rfl ?_
              refine ev_iald (pc := 88) dX11_readGive_88 rfl (wlt wg3 (by decide)) (vp_in_nI (by omega) (by decide)) ?_
              refine ev_eqI (e' := zg3.2.1 62 (tV zb zn (tE zb zn zp))) (by rw [show Int32.toNatClampNeg (nI (tV zb zn (tE zb zn zp))) = tV zb zn (tE zb zn zp) from nI_clamp (by omega)] <;> rfl) ?_
              refine ev_eqI (e' := nI (zt.2 3 (tV zb zn (tE zb zn zp)))) (by rw [hs3.2.2.1 62 (by decide), hs1.2.2.1 62 (by decide)]; exact (hM.2.1 _ zy1.2).2.2.2) ?_
              refine ev_iconst (pc := 89) (v := 1) dX11_readGive_89 (by decide) ?_
              refine ev_iload_n (pc := 90) dX11_readGive_90 rfl ?_
              refine ev_ishl (pc := 91) dX11_readGive_91 ?_
              refine ev_ior (pc := 92) dX11_readGive_92 ?_
              refine ev_eqI (e' := nI (zt.2 3 (tV zb zn (tE zb zn zp)) ||| 2 ^ (tV zb zn (tE zb zn (tE zb zn zp))))) (by rw [sh_pow _ (by omega)]; exact fa_or _ _) ?_
              refine ev_iast (pc := 93) dX11_readGive_93 rfl (wlt wg3 (by decide)) (vp_in_nI (by omega) (by decide)) ?_
              refine ev_eqH (h' := sI zg3 62 (upd (zg3.2.1 62) (tV zb zn (tE zb zn zp)) (nI (zt.2 3 (tV zb zn (tE zb zn zp)) ||| 2 ^ (tV zb zn (tE zb zn (tE zb zn zp))))))) (by rw [show Int32.toNatClampNeg (nI (tV zb zn (tE zb zn zp))) = tV zb zn (tE zb zn zp) from nI_clamp (by omega)] <;> rfl) ?_
              refine ev_aload_n (pc := 94) dX11_readGive_94 rfl ?_
              refine ev_getR (pc := 95) (q := 61) dX11_readGive_95 fX11_47 rfl (wlt (wf_sI wg3) (by decide)) (wr (wf_sI wg3) rfl) ?_
              refine ev_iload_n (pc := 98) dX11_readGive_98 rfl ?_
              refine ev_dup2 (pc := 99) dX11_readGive_99 rfl rfl ?_
              refine ev_iald (pc := 100) dX11_readGive_100 rfl (wlt (wf_sI wg3) (by decide)) (vp_in_nI (by omega) (by decide)) ?_
              refine ev_eqI (e' := zg3.2.1 61 (tV zb zn (tE zb zn zp))) (by rw [show Int32.toNatClampNeg (nI (tV zb zn (tE zb zn zp))) = tV zb zn (tE zb zn zp) from nI_clamp (by omega)] <;> rfl) ?_
              refine ev_eqI (e' := nI (zt.2 2 (tV zb zn (tE zb zn zp)) ||| zt.2 3 (tV zb zn (tE zb zn zp)))) (by rw [hs3.2.2.1 61 (by decide), hs1.2.2.1 61 (by decide)]; exact (hM.2.1 _ zy1.2).2.2.1) ?_
              refine ev_iconst (pc := 101) (v := 1) dX11_readGive_101 (by decide) ?_
              refine ev_iload_n (pc := 102) dX11_readGive_102 rfl ?_
              refine ev_ishl (pc := 103) dX11_readGive_103 ?_
              refine ev_ior (pc := 104) dX11_readGive_104 ?_
              refine ev_eqI (e' := nI (zt.2 2 (tV zb zn (tE zb zn zp)) ||| zt.2 3 (tV zb zn (tE zb zn zp)) ||| 2 ^ (tV zb zn (tE zb zn (tE zb zn zp))))) (by rw [sh_pow _ (by omega)]; exact fa_or _ _) ?_
              refine ev_iast (pc := 105) dX11_readGive_105 rfl (wlt (wf_sI wg3) (by decide)) (vp_in_nI (by omega) (by decide)) ?_
              refine ev_eqH (h' := sI (sI zg3 62 (upd (zg3.2.1 62) (tV zb zn (tE zb zn zp)) (nI (zt.2 3 (tV zb zn (tE zb zn zp)) ||| 2 ^ (tV zb zn (tE zb zn (tE zb zn zp))))))) 61 (upd (zg3.2.1 61) (tV zb zn (tE zb zn zp)) (nI (zt.2 2 (tV zb zn (tE zb zn zp)) ||| zt.2 3 (tV zb zn (tE zb zn zp)) ||| 2 ^ (tV zb zn (tE zb zn (tE zb zn zp))))))) (by rw [show Int32.toNatClampNeg (nI (tV zb zn (tE zb zn zp))) = tV zb zn (tE zb zn zp) from nI_clamp (by omega)] <;> rfl) ?_
              refine ev_aload_n (pc := 106) dX11_readGive_106 rfl ?_
              have hp5 : (tE zb zn (tE zb zn (tE zb zn zp))) ≤ zn := (tE_le zb hp3).2
              refine ev_callV (S := []) (pc := 107) dX11_readGive_107 kX11_next lX11_137 vX11_next (cn_X11_next E (sI (sI zg3 62 (upd (zg3.2.1 62) (tV zb zn (tE zb zn zp)) (nI (zt.2 3 (tV zb zn (tE zb zn zp)) ||| 2 ^ (tV zb zn (tE zb zn (tE zb zn zp))))))) 61 (upd (zg3.2.1 61) (tV zb zn (tE zb zn zp)) (nI (zt.2 2 (tV zb zn (tE zb zn zp)) ||| zt.2 3 (tV zb zn (tE zb zn zp)) ||| 2 ^ (tV zb zn (tE zb zn (tE zb zn zp))))))) zb zn (tE zb zn (tE zb zn (tE zb zn zp))) (wf_sI (wf_sI wg3)) hT3 (LA_w hL3 zk3) hL3.1 hp5) rfl rfl (wlt (wf_sI (wf_sI wg3)) (by decide)) rfl rfl (Nat.le_of_ble_eq_true rfl) ⟨Nat.le_of_ble_eq_true rfl, Nat.le_of_ble_eq_true rfl⟩ ⟨Nat.le_of_ble_eq_true rfl, Nat.le_of_ble_eq_true rfl⟩ ?_
              rintro _ zg5 ⟨rfl, hs5, hL5⟩
              have wg5 := scE_w hs5 (wf_sI (wf_sI wg3))
              have hT5 := scE_T (zb := zb) (zn := zn) hs5 hT3
              have hv5 := scE_S (zt := zt) hs5 hv3
              have hF5 := FrM_s (FrM_r (FrM_r hF3 (by decide) (by decide)) (by decide) (by decide)) hs5
              by_cases zk5 : tK zb zn (tE zb zn (tE zb zn (tE zb zn zp))) = 0
              · refine ev_ret (pc := 110) dX11_readGive_110 rfl ?_
                · have hB : (givB zb zn (tE zb zn zp) zt).1 = (wrK zb zn (tE zb zn (tE zb zn (tE zb zn zp))), tS zb zn (tE zb zn (tE zb zn (tE zb zn zp)))) := by
                    unfold givB
                    exact (ck_0 (by exact zf2)).trans ((ck_0 (by exact zf4)).trans ((ck_0 (by exact (if_neg (fun z => zc41 (congrArg nI z))))).trans ((ck_0 (by exact (if_neg (fun z => zc67 ((bit_1 (by omega)).mpr z))))).trans (rfl))))
                  exact ⟨rfl, RB_bad hF5 hB (by rw [wr_1 zk5]; decide) hL5.2.2.2.2.1 (hL5.2.2.2.2.2 zk5)⟩
              · refine ev_ret (pc := 110) dX11_readGive_110 rfl ?_
                · have hB : (givB zb zn (tE zb zn zp) zt).1 = (wrK zb zn (tE zb zn (tE zb zn (tE zb zn zp))), tS zb zn (tE zb zn (tE zb zn (tE zb zn zp)))) := by
                    unfold givB
                    exact (ck_0 (by exact zf2)).trans ((ck_0 (by exact zf4)).trans ((ck_0 (by exact (if_neg (fun z => zc41 (congrArg nI z))))).trans ((ck_0 (by exact (if_neg (fun z => zc67 ((bit_1 (by omega)).mpr z))))).trans (rfl))))
                  have hB0 : (givB zb zn (tE zb zn zp) zt).1.1 = 0 := (congrArg Prod.fst hB).trans (wr_0 zk5)
                  have e59 : zg5.2.1 59 = h.2.1 59 := by rw [hs5.2.2.1 59 (by decide)]; show zg3.2.1 59 = _; rw [hs3.2.2.1 59 (by decide), hs1.2.2.1 59 (by decide)]
                  have e60 : zg5.2.1 60 = h.2.1 60 := by rw [hs5.2.2.1 60 (by decide)]; show zg3.2.1 60 = _; rw [hs3.2.2.1 60 (by decide), hs1.2.2.1 60 (by decide)]
                  have e63 : zg5.2.1 63 = h.2.1 63 := by rw [hs5.2.2.1 63 (by decide)]; show zg3.2.1 63 = _; rw [hs3.2.2.1 63 (by decide), hs1.2.2.1 63 (by decide)]
                  have e64 : zg5.2.1 64 = h.2.1 64 := by rw [hs5.2.2.1 64 (by decide)]; show zg3.2.1 64 = _; rw [hs3.2.2.1 64 (by decide), hs1.2.2.1 64 (by decide)]
                  have e65 : zg5.2.1 65 = h.2.1 65 := by rw [hs5.2.2.1 65 (by decide)]; show zg3.2.1 65 = _; rw [hs3.2.2.1 65 (by decide), hs1.2.2.1 65 (by decide)]
                  have e62 : zg5.2.1 62 = upd (h.2.1 62) (tV zb zn (tE zb zn zp)) (nI (zt.2 3 (tV zb zn (tE zb zn zp)) ||| 2 ^ (tV zb zn (tE zb zn (tE zb zn zp))))) := by rw [hs5.2.2.1 62 (by decide)]; show upd (zg3.2.1 62) _ _ = _; rw [hs3.2.2.1 62 (by decide), hs1.2.2.1 62 (by decide)]
                  have e61 : zg5.2.1 61 = upd (h.2.1 61) (tV zb zn (tE zb zn zp)) (nI (zt.2 2 (tV zb zn (tE zb zn zp)) ||| zt.2 3 (tV zb zn (tE zb zn zp)) ||| 2 ^ (tV zb zn (tE zb zn (tE zb zn zp))))) := by rw [hs5.2.2.1 61 (by decide)]; show upd (zg3.2.1 61) _ _ = _; rw [hs3.2.2.1 61 (by decide), hs1.2.2.1 61 (by decide)]
                  refine ⟨rfl, RB_ok hF5 hB0 ⟨⟨hv5, ?_⟩, hL5, zk5⟩⟩
                  refine ⟨fun zk hk => ?_, fun zk hk => ?_, fun zk hk => ?_⟩
                  · have h9 := hM.2.1 zk hk
                    rw [e59, e60, e61, e62]
                    by_cases e : zk = tV zb zn (tE zb zn zp)
                    · subst e
                      simp [givB, upd, upM, upN, h9, Nat.or_assoc]
                    · simp [givB, upd, upM, upN, e, h9]
                  · rw [e64, e65]
                    exact hM.2.2.1 zk hk
                  · rw [e63]
                    exact hM.2.2.2 zk hk
            · -- ne at 67: not taken
              refine ev_aload_n (pc := 70) dX11_readGive_70 rfl ?_
              refine ev_iconst (pc := 71) (v := 4) dX11_readGive_71 (by decide) ?_
              refine ev_callV0 (S := []) (pc := 72) dX11_readGive_72 kX11_fails lX11_130 vX11_fails (cn_fails0 E zg3 4 wg3 (LA_w hL3 zk3)) rfl rfl (wlt wg3 (by decide)) rfl rfl (Nat.le_of_ble_eq_true rfl) ⟨Nat.le_of_ble_eq_true rfl, Nat.le_of_ble_eq_true rfl⟩ ⟨Nat.le_of_ble_eq_true rfl, Nat.le_of_ble_eq_true rfl⟩ ?_
              refine ev_eqH (h' := sI zg3 49 (upd (upd (zg3.2.1 49) 3 4) 4 (zg3.2.1 49 6))) (by first | exact (sI_sI _ _ _ _).trans rfl | rfl) ?_
              refine ev_aload_n (pc := 75) dX11_readGive_75 rfl ?_
              refine ev_getI (pc := 76) dX11_readGive_76 fX11_100 rfl (wlt (wf_sI wg3) (by decide)) ?_
              refine ev_eqI (e' := 4) (by rfl) ?_
              refine ev_if_ne (pc := 79) (tgt := 106) dX11_readGive_79 (by decide) (fun zc79 => ?_) (fun zc79 => absurd zc79 (show ¬ (4 : Int32) = 0 by decide))
              refine ev_aload_n (pc := 106) dX11_readGive_106 rfl ?_
              refine ev_callV0 (S := []) (pc := 107) dX11_readGive_107 kX11_next lX11_137 vX11_next (cn_X11_nextW E (sI zg3 49 (upd (upd (zg3.2.1 49) 3 4) 4 (zg3.2.1 49 6))) (wf_sI wg3) (show (0 : Int32) < 4 by decide)) rfl rfl (wlt (wf_sI wg3) (by decide)) rfl rfl (Nat.le_of_ble_eq_true rfl) ⟨Nat.le_of_ble_eq_true rfl, Nat.le_of_ble_eq_true rfl⟩ ⟨Nat.le_of_ble_eq_true rfl, Nat.le_of_ble_eq_true rfl⟩ ?_
              refine ev_ret (pc := 110) dX11_readGive_110 rfl ?_
              · have hB : (givB zb zn (tE zb zn zp) zt).1 = (4, tS zb zn (tE zb zn (tE zb zn zp))) := by
                  unfold givB
                  exact (ck_0 (by exact zf2)).trans ((ck_0 (by exact zf4)).trans ((ck_0 (by exact (if_neg (fun z => zc41 (congrArg nI z))))).trans ((ck_1 (by show ¬ (if (zt.2 3 (tV zb zn (tE zb zn zp))).testBit (tV zb zn (tE zb zn (tE zb zn zp))) then 4 else 0) = 0; rw [if_pos ((bit_1 (by omega)).mp zc67)]; decide)).trans (by rw [if_pos ((bit_1 (by omega)).mp zc67)]))))
                exact ⟨rfl, RB_bad (FrM_49 hF3 (fun zj hj => by simp only [upd]; (repeat' split) <;> first | rfl | (exfalso; unfold pFz at hj; omega))) hB (by decide) rfl hL3.2.1⟩
          · -- ne at 41: not taken
            refine ev_aload_n (pc := 44) dX11_readGive_44 rfl ?_
            refine ev_iconst (pc := 45) (v := 3) dX11_readGive_45 (by decide) ?_
            refine ev_callV0 (S := []) (pc := 46) dX11_readGive_46 kX11_fails lX11_130 vX11_fails (cn_fails0 E zg3 3 wg3 (LA_w hL3 zk3)) rfl rfl (wlt wg3 (by decide)) rfl rfl (Nat.le_of_ble_eq_true rfl) ⟨Nat.le_of_ble_eq_true rfl, Nat.le_of_ble_eq_true rfl⟩ ⟨Nat.le_of_ble_eq_true rfl, Nat.le_of_ble_eq_true rfl⟩ ?_
            refine ev_eqH (h' := sI zg3 49 (upd (upd (zg3.2.1 49) 3 3) 4 (zg3.2.1 49 6))) (by first | exact (sI_sI _ _ _ _).trans rfl | rfl) ?_
            refine ev_aload_n (pc := 49) dX11_readGive_49 rfl ?_
            refine ev_getI (pc := 50) dX11_readGive_50 fX11_100 rfl (wlt (wf_sI wg3) (by decide)) ?_
            refine ev_eqI (e' := 3) (by rfl) ?_
            refine ev_if_ne (pc := 53) (tgt := 75) dX11_readGive_53 (by decide) (fun zc53 => ?_) (fun zc53 => absurd zc53 (show ¬ (3 : Int32) = 0 by decide))
            refine ev_aload_n (pc := 75) dX11_readGive_75 rfl ?_
            refine ev_getI (pc := 76) dX11_readGive_76 fX11_100 rfl (wlt (wf_sI wg3) (by decide)) ?_
            refine ev_eqI (e' := 3) (by rfl) ?_
            refine ev_if_ne (pc := 79) (tgt := 106) dX11_readGive_79 (by decide) (fun zc79 => ?_) (fun zc79 => absurd zc79 (show ¬ (3 : Int32) = 0 by decide))
            refine ev_aload_n (pc := 106) dX11_readGive_106 rfl ?_
            refine ev_callV0 (S := []) (pc := 107) dX11_readGive_107 kX11_next lX11_137 vX11_next (cn_X11_nextW E (sI zg3 49 (upd (upd (zg3.2.1 49) 3 3) 4 (zg3.2.1 49 6))) (wf_sI wg3) (show (0 : Int32) < 3 by decide)) rfl rfl (wlt (wf_sI wg3) (by decide)) rfl rfl (Nat.le_of_ble_eq_true rfl) ⟨Nat.le_of_ble_eq_true rfl, Nat.le_of_ble_eq_true rfl⟩ ⟨Nat.le_of_ble_eq_true rfl, Nat.le_of_ble_eq_true rfl⟩ ?_
            refine ev_ret (pc := 110) dX11_readGive_110 rfl ?_
            · have hB : (givB zb zn (tE zb zn zp) zt).1 = (3, tS zb zn (tE zb zn (tE zb zn zp))) := by
                unfold givB
                exact (ck_0 (by exact zf2)).trans ((ck_0 (by exact zf4)).trans ((ck_1 (by show ¬ (if tV zb zn (tE zb zn zp) = tV zb zn (tE zb zn (tE zb zn zp)) then 3 else 0) = 0; rw [if_pos ((nI_eq (by omega) (by omega)).mp zc41)]; decide)).trans (by rw [if_pos ((nI_eq (by omega) (by omega)).mp zc41)])))
              exact ⟨rfl, RB_bad (FrM_49 hF3 (fun zj hj => by simp only [upd]; (repeat' split) <;> first | rfl | (exfalso; unfold pFz at hj; omega))) hB (by decide) rfl hL3.2.1⟩
        · refine ev_callVv (S := []) (pc := 28) dX11_readGive_28 kX11_number lX11_140 vX11_number (cn_numBad E zg3 zb zn (tE zb zn (tE zb zn zp)) 0 (zt.1 1) ((nI (zt.1 1)) - 1) wg3 hL3 (zk3) hp3 rfl (by decide) (by have := hO.1; omega) zf4) rfl rfl (wlt wg3 (by decide)) rfl rfl (Nat.le_of_ble_eq_true rfl) ⟨Nat.le_of_ble_eq_true rfl, Nat.le_of_ble_eq_true rfl⟩ ⟨Nat.le_of_ble_eq_true rfl, Nat.le_of_ble_eq_true rfl⟩ ?_
          refine ev_eqH (h' := sI zg3 49 (upd (upd (zg3.2.1 49) 3 (nI (fnK zb zn (tE zb zn (tE zb zn zp)) 0 (zt.1 1)))) 4 (nI (tS zb zn (tE zb zn (tE zb zn zp)))))) (by first | exact (sI_sI _ _ _ _).trans rfl | rfl) ?_
          refine ev_istore_n (pc := 31) (L' := [some (.ref 49), some (.int (nI (tV zb zn (tE zb zn zp)))), some (.int 0)]) dX11_readGive_31 (Nat.le_of_ble_eq_true rfl) rfl ?_
          refine ev_aload_n (pc := 32) dX11_readGive_32 rfl ?_
          refine ev_getI (pc := 33) dX11_readGive_33 fX11_100 rfl (wlt (wf_sI wg3) (by decide)) ?_
          refine ev_eqI (e' := nI (fnK zb zn (tE zb zn (tE zb zn zp)) 0 (zt.1 1))) (by rfl) ?_
          refine ev_if_ne (pc := 36) (tgt := 49) dX11_readGive_36 (by decide) (fun zc36 => ?_) (fun zc36 => absurd zc36 (nb_0 (fn_5 _ _ _ _ _) zf4))
          refine ev_aload_n (pc := 49) dX11_readGive_49 rfl ?_
          refine ev_getI (pc := 50) dX11_readGive_50 fX11_100 rfl (wlt (wf_sI wg3) (by decide)) ?_
          refine ev_eqI (e' := nI (fnK zb zn (tE zb zn (tE zb zn zp)) 0 (zt.1 1))) (by rfl) ?_
          refine ev_if_ne (pc := 53) (tgt := 75) dX11_readGive_53 (by decide) (fun zc53 => ?_) (fun zc53 => absurd zc53 (nb_0 (fn_5 _ _ _ _ _) zf4))
          refine ev_aload_n (pc := 75) dX11_readGive_75 rfl ?_
          refine ev_getI (pc := 76) dX11_readGive_76 fX11_100 rfl (wlt (wf_sI wg3) (by decide)) ?_
          refine ev_eqI (e' := nI (fnK zb zn (tE zb zn (tE zb zn zp)) 0 (zt.1 1))) (by rfl) ?_
          refine ev_if_ne (pc := 79) (tgt := 106) dX11_readGive_79 (by decide) (fun zc79 => ?_) (fun zc79 => absurd zc79 (nb_0 (fn_5 _ _ _ _ _) zf4))
          refine ev_aload_n (pc := 106) dX11_readGive_106 rfl ?_
          refine ev_callV0 (S := []) (pc := 107) dX11_readGive_107 kX11_next lX11_137 vX11_next (cn_X11_nextW E (sI zg3 49 (upd (upd (zg3.2.1 49) 3 (nI (fnK zb zn (tE zb zn (tE zb zn zp)) 0 (zt.1 1)))) 4 (nI (tS zb zn (tE zb zn (tE zb zn zp)))))) (wf_sI wg3) (nb_p (fn_5 _ _ _ _ _) zf4)) rfl rfl (wlt (wf_sI wg3) (by decide)) rfl rfl (Nat.le_of_ble_eq_true rfl) ⟨Nat.le_of_ble_eq_true rfl, Nat.le_of_ble_eq_true rfl⟩ ⟨Nat.le_of_ble_eq_true rfl, Nat.le_of_ble_eq_true rfl⟩ ?_
          refine ev_ret (pc := 110) dX11_readGive_110 rfl ?_
          · have hB : (givB zb zn (tE zb zn zp) zt).1 = (fnK zb zn (tE zb zn (tE zb zn zp)) 0 (zt.1 1), tS zb zn (tE zb zn (tE zb zn zp))) := by
              unfold givB
              exact (ck_0 (by exact zf2)).trans (ck_1 (by exact zf4))
            exact ⟨rfl, RB_bad (FrM_49 hF3 (fun zj hj => by simp only [upd]; (repeat' split) <;> first | rfl | (exfalso; unfold pFz at hj; omega))) hB zf4 rfl rfl⟩
    · refine ev_callVv (S := []) (pc := 12) dX11_readGive_12 kX11_number lX11_140 vX11_number (cn_numBad E zg1 zb zn (tE zb zn zp) 0 (zt.1 1) ((nI (zt.1 1)) - 1) wg1 hL1 (zk1) hp1 rfl (by decide) (by have := hO.1; omega) zf2) rfl rfl (wlt wg1 (by decide)) rfl rfl (Nat.le_of_ble_eq_true rfl) ⟨Nat.le_of_ble_eq_true rfl, Nat.le_of_ble_eq_true rfl⟩ ⟨Nat.le_of_ble_eq_true rfl, Nat.le_of_ble_eq_true rfl⟩ ?_
      refine ev_eqH (h' := sI zg1 49 (upd (upd (zg1.2.1 49) 3 (nI (fnK zb zn (tE zb zn zp) 0 (zt.1 1)))) 4 (nI (tS zb zn (tE zb zn zp))))) (by first | exact (sI_sI _ _ _ _).trans rfl | rfl) ?_
      refine ev_istore_n (pc := 15) (L' := [some (.ref 49), some (.int 0), none]) dX11_readGive_15 (Nat.le_of_ble_eq_true rfl) rfl ?_
      refine ev_aload_n (pc := 16) dX11_readGive_16 rfl ?_
      refine ev_callV0 (S := []) (pc := 17) dX11_readGive_17 kX11_next lX11_137 vX11_next (cn_X11_nextW E (sI zg1 49 (upd (upd (zg1.2.1 49) 3 (nI (fnK zb zn (tE zb zn zp) 0 (zt.1 1)))) 4 (nI (tS zb zn (tE zb zn zp))))) (wf_sI wg1) (nb_p (fn_5 _ _ _ _ _) zf2)) rfl rfl (wlt (wf_sI wg1) (by decide)) rfl rfl (Nat.le_of_ble_eq_true rfl) ⟨Nat.le_of_ble_eq_true rfl, Nat.le_of_ble_eq_true rfl⟩ ⟨Nat.le_of_ble_eq_true rfl, Nat.le_of_ble_eq_true rfl⟩ ?_
      refine ev_aload_n (pc := 20) dX11_readGive_20 rfl ?_
      refine ev_iconst (pc := 21) (v := 0) dX11_readGive_21 (by decide) ?_
      refine ev_aload_n (pc := 22) dX11_readGive_22 rfl ?_
      refine ev_getI (pc := 23) dX11_readGive_23 fX11_134 rfl (wlt (wf_sI wg1) (by decide)) ?_
      refine ev_eqI (e' := zg1.2.1 49 24) (by rfl) ?_
      refine ev_eqI (e' := nI (zt.1 1)) hv1.1 ?_
      refine ev_iconst (pc := 26) (v := 1) dX11_readGive_26 (by decide) ?_
      refine ev_isub (pc := 27) dX11_readGive_27 ?_
      refine ev_callVv (S := []) (pc := 28) dX11_readGive_28 kX11_number lX11_140 vX11_number (cn_X11_numberW E (sI zg1 49 (upd (upd (zg1.2.1 49) 3 (nI (fnK zb zn (tE zb zn zp) 0 (zt.1 1)))) 4 (nI (tS zb zn (tE zb zn zp))))) 0 ((nI (zt.1 1)) - 1) (wf_sI wg1) (nb_0 (fn_5 _ _ _ _ _) zf2)) rfl rfl (wlt (wf_sI wg1) (by decide)) rfl rfl (Nat.le_of_ble_eq_true rfl) ⟨Nat.le_of_ble_eq_true rfl, Nat.le_of_ble_eq_true rfl⟩ ⟨Nat.le_of_ble_eq_true rfl, Nat.le_of_ble_eq_true rfl⟩ ?_
      refine ev_istore_n (pc := 31) (L' := [some (.ref 49), some (.int 0), some (.int 0)]) dX11_readGive_31 (Nat.le_of_ble_eq_true rfl) rfl ?_
      refine ev_aload_n (pc := 32) dX11_readGive_32 rfl ?_
      refine ev_getI (pc := 33) dX11_readGive_33 fX11_100 rfl (wlt (wf_sI wg1) (by decide)) ?_
      refine ev_eqI (e' := nI (fnK zb zn (tE zb zn zp) 0 (zt.1 1))) (by rfl) ?_
      refine ev_if_ne (pc := 36) (tgt := 49) dX11_readGive_36 (by decide) (fun zc36 => ?_) (fun zc36 => absurd zc36 (nb_0 (fn_5 _ _ _ _ _) zf2))
      refine ev_aload_n (pc := 49) dX11_readGive_49 rfl ?_
      refine ev_getI (pc := 50) dX11_readGive_50 fX11_100 rfl (wlt (wf_sI wg1) (by decide)) ?_
      refine ev_eqI (e' := nI (fnK zb zn (tE zb zn zp) 0 (zt.1 1))) (by rfl) ?_
      refine ev_if_ne (pc := 53) (tgt := 75) dX11_readGive_53 (by decide) (fun zc53 => ?_) (fun zc53 => absurd zc53 (nb_0 (fn_5 _ _ _ _ _) zf2))
      refine ev_aload_n (pc := 75) dX11_readGive_75 rfl ?_
      refine ev_getI (pc := 76) dX11_readGive_76 fX11_100 rfl (wlt (wf_sI wg1) (by decide)) ?_
      refine ev_eqI (e' := nI (fnK zb zn (tE zb zn zp) 0 (zt.1 1))) (by rfl) ?_
      refine ev_if_ne (pc := 79) (tgt := 106) dX11_readGive_79 (by decide) (fun zc79 => ?_) (fun zc79 => absurd zc79 (nb_0 (fn_5 _ _ _ _ _) zf2))
      refine ev_aload_n (pc := 106) dX11_readGive_106 rfl ?_
      refine ev_callV0 (S := []) (pc := 107) dX11_readGive_107 kX11_next lX11_137 vX11_next (cn_X11_nextW E (sI zg1 49 (upd (upd (zg1.2.1 49) 3 (nI (fnK zb zn (tE zb zn zp) 0 (zt.1 1)))) 4 (nI (tS zb zn (tE zb zn zp))))) (wf_sI wg1) (nb_p (fn_5 _ _ _ _ _) zf2)) rfl rfl (wlt (wf_sI wg1) (by decide)) rfl rfl (Nat.le_of_ble_eq_true rfl) ⟨Nat.le_of_ble_eq_true rfl, Nat.le_of_ble_eq_true rfl⟩ ⟨Nat.le_of_ble_eq_true rfl, Nat.le_of_ble_eq_true rfl⟩ ?_
      refine ev_ret (pc := 110) dX11_readGive_110 rfl ?_
      · have hB : (givB zb zn (tE zb zn zp) zt).1 = (fnK zb zn (tE zb zn zp) 0 (zt.1 1), tS zb zn (tE zb zn zp)) := by
          unfold givB
          exact ck_1 (by exact zf2)
        exact ⟨rfl, RB_bad (FrM_49 hF1 (fun zj hj => by simp only [upd]; (repeat' split) <;> first | rfl | (exfalso; unfold pFz at hj; omega))) hB zf2 rfl rfl⟩
