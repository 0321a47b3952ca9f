theorem cn_X11_readQuarry (E : ME) (h : AH) (zb : Nat → Nat) (zn zp : Nat) (zt : PSt) (hw : WF h) (hT : TMz h zb zn) (hL : LAz zb zn zp h) (hk0 : ¬ tK zb zn zp = 0) (hp : zp ≤ zn) (hM : MSz zt h) (hO : POK zt) : Con E mX11_readQuarry 2 0 0 [.ref 49] h (fun r h' => r = none ∧ RBz zb zn (quaB zb zn (tE zb zn zp) zt) h h') := by
  refine con_of2 (L := [some (.ref 49), none, none]) rfl (Nat.le_of_ble_eq_true rfl) rfl ?_
  have zn4 := hT.2.1
  refine ev_aload_n (pc := 0) dX11_readQuarry_0 rfl ?_
  have hp1 : (tE zb zn zp) ≤ zn := (tE_le zb hp).2
  refine ev_callV (S := []) (pc := 1) dX11_readQuarry_1 kX11_next lX11_137 vX11_next (cn_X11_next E h zb zn (tE zb zn zp) hw hT (LA_w hL hk0) hL.1 hp1) rfl rfl (wlt hw (by decide)) rfl rfl (Nat.le_of_ble_eq_true rfl) ⟨Nat.le_of_ble_eq_true rfl, Nat.le_of_ble_eq_true rfl⟩ ⟨Nat.le_of_ble_eq_true rfl, Nat.le_of_ble_eq_true rfl⟩ ?_
  rintro _ zg1 ⟨rfl, hs1, hL1⟩
  have wg1 := scE_w hs1 hw
  have hT1 := scE_T (zb := zb) (zn := zn) hs1 hT
  have hv1 := scE_S (zt := zt) hs1 hM.1
  have hF1 := FrM_s (FrM_0 h) hs1
  by_cases zk1 : tK zb zn (tE zb zn zp) = 0
  · refine ev_aload_n (pc := 4) dX11_readQuarry_4 rfl ?_
    refine ev_getI (pc := 5) dX11_readQuarry_5 fX11_100 rfl (wlt wg1 (by decide)) ?_
    refine ev_if_ne (pc := 8) (tgt := 24) dX11_readQuarry_8 (by decide) (fun zc8 => ?_) (fun zc8 => absurd zc8 (LA_b hL1 zk1))
    skip
    refine ev_aload_n (pc := 24) dX11_readQuarry_24 rfl ?_
    refine ev_aload_n (pc := 25) dX11_readQuarry_25 rfl ?_
    refine ev_getI (pc := 26) dX11_readQuarry_26 fX11_103 rfl (wlt wg1 (by decide)) ?_
    refine ev_eqI (e' := nI (tS zb zn (tE zb zn zp))) hL1.2.1 ?_
    refine ev_callVv (S := []) (pc := 29) dX11_readQuarry_29 kX11_byteAt lX11_112 vX11_byteAt (cn_byteN E zg1 zb zn (tS zb zn (tE zb zn zp)) wg1 hT1 (by have := (tS_ok zb hp1).2; omega)) rfl rfl (wlt wg1 (by decide)) rfl rfl (Nat.le_of_ble_eq_true rfl) ⟨Nat.le_of_ble_eq_true rfl, Nat.le_of_ble_eq_true rfl⟩ ⟨Nat.le_of_ble_eq_true rfl, Nat.le_of_ble_eq_true rfl⟩ ?_
    refine ev_bipush (pc := 32) (v := 97) dX11_readQuarry_32 (by decide) ?_
    refine ev_isub (pc := 34) dX11_readQuarry_34 ?_
    refine ev_eqI (e' := (bz zb zn (tS zb zn (tE zb zn zp))) - 97) rfl ?_
    refine ev_istore_n (pc := 35) (L' := [some (.ref 49), some (.int ((bz zb zn (tS zb zn (tE zb zn zp))) - 97)), none]) dX11_readQuarry_35 (Nat.le_of_ble_eq_true rfl) rfl ?_
    refine ev_aload_n (pc := 36) dX11_readQuarry_36 rfl ?_
    refine ev_getI (pc := 37) dX11_readQuarry_37 fX11_100 rfl (wlt wg1 (by decide)) ?_
    refine ev_if_ne (pc := 40) (tgt := 73) dX11_readQuarry_40 (by decide) (fun zc40 => ?_) (fun zc40 => absurd zc40 (LA_b hL1 zk1))
    skip
    refine ev_aload_n (pc := 73) dX11_readQuarry_73 rfl ?_
    refine ev_getI (pc := 74) dX11_readQuarry_74 fX11_100 rfl (wlt wg1 (by decide)) ?_
    refine ev_if_ne (pc := 77) (tgt := 97) dX11_readQuarry_77 (by decide) (fun zc77 => ?_) (fun zc77 => absurd zc77 (LA_b hL1 zk1))
    refine ev_aload_n (pc := 97) dX11_readQuarry_97 rfl ?_
    refine ev_getI (pc := 98) dX11_readQuarry_98 fX11_100 rfl (wlt wg1 (by decide)) ?_
    refine ev_if_ne (pc := 101) (tgt := 108) dX11_readQuarry_101 (by decide) (fun zc101 => ?_) (fun zc101 => absurd zc101 (LA_b hL1 zk1))
    refine ev_iconst (pc := 108) (v := 0) dX11_readQuarry_108 (by decide) ?_
    refine ev_istore_n (pc := 109) (L' := [some (.ref 49), some (.int ((bz zb zn (tS zb zn (tE zb zn zp))) - 97)), some (.int 0)]) dX11_readQuarry_109 (Nat.le_of_ble_eq_true rfl) rfl ?_
    refine ev_aload_n (pc := 110) dX11_readQuarry_110 rfl ?_
    refine ev_dup (pc := 111) dX11_readQuarry_111 rfl ?_
    refine ev_getI (pc := 112) dX11_readQuarry_112 fX11_146 rfl (wlt wg1 (by decide)) ?_
    refine ev_eqI (e' := nI (zt.1 5)) hv1.2.2.2.2 ?_
    refine ev_aload_n (pc := 115) dX11_readQuarry_115 rfl ?_
    refine ev_getI (pc := 116) dX11_readQuarry_116 fX11_100 rfl (wlt wg1 (by decide)) ?_
    refine ev_if_ne (pc := 119) (tgt := 128) dX11_readQuarry_119 (by decide) (fun zc119 => ?_) (fun zc119 => absurd zc119 (LA_b hL1 zk1))
    refine ev_iconst (pc := 128) (v := 0) dX11_readQuarry_128 (by decide) ?_
    refine ev_ior (pc := 129) dX11_readQuarry_129 ?_
    refine ev_eqI (e' := (nI (zt.1 5)) ||| 0) rfl ?_
    refine ev_putI (pc := 130) dX11_readQuarry_130 fX11_146 rfl (wlt wg1 (by decide)) ?_
    refine ev_eqH (h' := sI zg1 49 (upd (zg1.2.1 49) 31 ((nI (zt.1 5)) ||| 0))) (by rfl) ?_
    refine ev_aload_n (pc := 133) dX11_readQuarry_133 rfl ?_
    refine ev_callV0 (S := []) (pc := 134) dX11_readQuarry_134 kX11_next lX11_137 vX11_next (cn_X11_nextW E (sI zg1 49 (upd (zg1.2.1 49) 31 ((nI (zt.1 5)) ||| 0))) (wf_sI wg1) (LA_p hL1 zk1)) rfl rfl (wlt (wf_sI wg1) (by decide)) rfl rfl (Nat.le_of_ble_eq_true rfl) ⟨Nat.le_of_ble_eq_true rfl, Nat.le_of_ble_eq_true rfl⟩ ⟨Nat.le_of_ble_eq_true rfl, Nat.le_of_ble_eq_true rfl⟩ ?_
    refine ev_aload_n (pc := 137) dX11_readQuarry_137 rfl ?_
    refine ev_getR (pc := 138) (q := 64) dX11_readQuarry_138 fX11_56 rfl (wlt (wf_sI wg1) (by decide)) (wr (wf_sI wg1) rfl) ?_
    refine ev_iload_n (pc := 141) dX11_readQuarry_141 rfl ?_
    refine ev_aload_n (pc := 142) dX11_readQuarry_142 rfl ?_
    refine ev_iconst (pc := 143) (v := 0) dX11_readQuarry_143 (by decide) ?_
    refine ev_bipush (pc := 144) (v := 99) dX11_readQuarry_144 (by decide) ?_
    refine ev_callVv (S := [.int 0, .ref 64]) (pc := 146) dX11_readQuarry_146 kX11_number lX11_140 vX11_number (cn_X11_numberW E (sI zg1 49 (upd (zg1.2.1 49) 31 ((nI (zt.1 5)) ||| 0))) 0 99 (wf_sI wg1) (LA_b hL1 zk1)) rfl rfl (wlt (wf_sI wg1) (by decide)) rfl rfl (Nat.le_of_ble_eq_true rfl) ⟨Nat.le_of_ble_eq_true rfl, Nat.le_of_ble_eq_true rfl⟩ ⟨Nat.le_of_ble_eq_true rfl, Nat.le_of_ble_eq_true rfl⟩ ?_
    refine ev_iast (pc := 149) dX11_readQuarry_149 rfl (wlt (wf_sI wg1) (by decide)) (vp_in_nI (n := 0) (by decide) (by decide)) ?_
    refine ev_eqH (h' := sI (sI zg1 49 (upd (zg1.2.1 49) 31 ((nI (zt.1 5)) ||| 0))) 64 (upd (zg1.2.1 64) 0 0)) (by rfl) ?_
    refine ev_aload_n (pc := 150) dX11_readQuarry_150 rfl ?_
    refine ev_callV0 (S := []) (pc := 151) dX11_readQuarry_151 kX11_next lX11_137 vX11_next (cn_X11_nextW E (sI (sI zg1 49 (upd (zg1.2.1 49) 31 ((nI (zt.1 5)) ||| 0))) 64 (upd (zg1.2.1 64) 0 0)) (wf_sI (wf_sI wg1)) (LA_p hL1 zk1)) rfl rfl (wlt (wf_sI (wf_sI wg1)) (by decide)) rfl rfl (Nat.le_of_ble_eq_true rfl) ⟨Nat.le_of_ble_eq_true rfl, Nat.le_of_ble_eq_true rfl⟩ ⟨Nat.le_of_ble_eq_true rfl, Nat.le_of_ble_eq_true rfl⟩ ?_
    refine ev_aload_n (pc := 154) dX11_readQuarry_154 rfl ?_
    refine ev_getR (pc := 155) (q := 65) dX11_readQuarry_155 fX11_59 rfl (wlt (wf_sI (wf_sI wg1)) (by decide)) (wr (wf_sI (wf_sI wg1)) rfl) ?_
    refine ev_iload_n (pc := 158) dX11_readQuarry_158 rfl ?_
    refine ev_aload_n (pc := 159) dX11_readQuarry_159 rfl ?_
    refine ev_iconst (pc := 160) (v := 1) dX11_readQuarry_160 (by decide) ?_
    refine ev_bipush (pc := 161) (v := 99) dX11_readQuarry_161 (by decide) ?_
    refine ev_callVv (S := [.int 0, .ref 65]) (pc := 163) dX11_readQuarry_163 kX11_number lX11_140 vX11_number (cn_X11_numberW E (sI (sI zg1 49 (upd (zg1.2.1 49) 31 ((nI (zt.1 5)) ||| 0))) 64 (upd (zg1.2.1 64) 0 0)) 1 99 (wf_sI (wf_sI wg1)) (LA_b hL1 zk1)) rfl rfl (wlt (wf_sI (wf_sI wg1)) (by decide)) rfl rfl (Nat.le_of_ble_eq_true rfl) ⟨Nat.le_of_ble_eq_true rfl, Nat.le_of_ble_eq_true rfl⟩ ⟨Nat.le_of_ble_eq_true rfl, Nat.le_of_ble_eq_true rfl⟩ ?_
    refine ev_iast (pc := 166) dX11_readQuarry_166 rfl (wlt (wf_sI (wf_sI wg1)) (by decide)) (vp_in_nI (n := 0) (by decide) (by decide)) ?_
    refine ev_eqH (h' := sI (sI (sI zg1 49 (upd (zg1.2.1 49) 31 ((nI (zt.1 5)) ||| 0))) 64 (upd (zg1.2.1 64) 0 0)) 65 (upd (zg1.2.1 65) 0 1)) (by rfl) ?_
    refine ev_aload_n (pc := 167) dX11_readQuarry_167 rfl ?_
    refine ev_callV0 (S := []) (pc := 168) dX11_readQuarry_168 kX11_next lX11_137 vX11_next (cn_X11_nextW E (sI (sI (sI zg1 49 (upd (zg1.2.1 49) 31 ((nI (zt.1 5)) ||| 0))) 64 (upd (zg1.2.1 64) 0 0)) 65 (upd (zg1.2.1 65) 0 1)) (wf_sI (wf_sI (wf_sI wg1))) (LA_p hL1 zk1)) rfl rfl (wlt (wf_sI (wf_sI (wf_sI wg1))) (by decide)) rfl rfl (Nat.le_of_ble_eq_true rfl) ⟨Nat.le_of_ble_eq_true rfl, Nat.le_of_ble_eq_true rfl⟩ ⟨Nat.le_of_ble_eq_true rfl, Nat.le_of_ble_eq_true rfl⟩ ?_
    refine ev_ret (pc := 171) dX11_readQuarry_171 rfl ?_
    · have hB : (quaB zb zn (tE zb zn zp) zt).1 = (wrK zb zn (tE zb zn zp), tS zb zn (tE zb zn zp)) := by
        unfold quaB
        exact (ck_1 (by show ¬ fkK _ _ _ _ = 0; rw [fk_w (by decide) zk1, wr_1 zk1]; decide)).trans (by rw [fk_w (by decide) zk1])
      exact ⟨rfl, RB_bad (FrM_r (FrM_r (FrM_49 hF1 (fun zj hj => by simp only [upd]; (repeat' split) <;> first | rfl | (exfalso; unfold pFz at hj; omega))) (by decide) (by decide)) (by decide) (by decide)) hB (by rw [wr_1 zk1]; decide) hL1.2.2.2.2.1 (hL1.2.2.2.2.2 zk1)⟩
  · refine ev_aload_n (pc := 4) dX11_readQuarry_4 rfl ?_
    refine ev_getI (pc := 5) dX11_readQuarry_5 fX11_100 rfl (wlt wg1 (by decide)) ?_
    refine ev_if_ne (pc := 8) (tgt := 24) dX11_readQuarry_8 (by decide) (fun zc8 => absurd (LA_w hL1 zk1) zc8) (fun zc8 => ?_)
    refine ev_aload_n (pc := 11) dX11_readQuarry_11 rfl ?_
    refine ev_getI (pc := 12) dX11_readQuarry_12 fX11_119 rfl (wlt wg1 (by decide)) ?_
    refine ev_iconst (pc := 15) (v := 1) dX11_readQuarry_15 (by decide) ?_
    refine ev_icmp_eq (pc := 16) (tgt := 24) dX11_readQuarry_16 (by decide) (fun zc16 => ?_) (fun zc16 => ?_)
    · -- eq at 16: taken
      have zK2 := (LA_3 (zk := 1) hL1 zk1 (by decide)).mp zc16
      have zt2 := tk_2 zK2
      have zl2 := of_decide_eq_true zt2.2.1
      have zte := tE_ok zb hp1
      refine ev_aload_n (pc := 24) dX11_readQuarry_24 rfl ?_
      refine ev_aload_n (pc := 25) dX11_readQuarry_25 rfl ?_
      refine ev_getI (pc := 26) dX11_readQuarry_26 fX11_103 rfl (wlt wg1 (by decide)) ?_
      refine ev_eqI (e' := nI (tS zb zn (tE zb zn zp))) hL1.2.1 ?_
      refine ev_callVv (S := []) (pc := 29) dX11_readQuarry_29 kX11_byteAt lX11_112 vX11_byteAt (cn_byteN E zg1 zb zn (tS zb zn (tE zb zn zp)) wg1 hT1 (by have := (tS_ok zb hp1).2; omega)) rfl rfl (wlt wg1 (by decide)) rfl rfl (Nat.le_of_ble_eq_true rfl) ⟨Nat.le_of_ble_eq_true rfl, Nat.le_of_ble_eq_true rfl⟩ ⟨Nat.le_of_ble_eq_true rfl, Nat.le_of_ble_eq_true rfl⟩ ?_
      refine ev_bipush (pc := 32) (v := 97) dX11_readQuarry_32 (by decide) ?_
      refine ev_isub (pc := 34) dX11_readQuarry_34 ?_
      refine ev_eqI (e' := nI (zb (tS zb zn (tE zb zn zp)) - 97)) (by unfold bz; rw [if_pos zt2.1]; exact pk_sub zl2.1) ?_
      refine ev_istore_n (pc := 35) (L' := [some (.ref 49), some (.int (nI (zb (tS zb zn (tE zb zn zp)) - 97))), none]) dX11_readQuarry_35 (Nat.le_of_ble_eq_true rfl) rfl ?_
      refine ev_aload_n (pc := 36) dX11_readQuarry_36 rfl ?_
      refine ev_getI (pc := 37) dX11_readQuarry_37 fX11_100 rfl (wlt wg1 (by decide)) ?_
      refine ev_if_ne (pc := 40) (tgt := 73) dX11_readQuarry_40 (by decide) (fun zc40 => absurd (LA_w hL1 zk1) zc40) (fun zc40 => ?_)
      refine ev_aload_n (pc := 43) dX11_readQuarry_43 rfl ?_
      refine ev_getI (pc := 44) dX11_readQuarry_44 fX11_109 rfl (wlt wg1 (by decide)) ?_
      refine ev_eqI (e' := nI (tE zb zn (tE zb zn zp))) hL1.1 ?_
      refine ev_aload_n (pc := 47) dX11_readQuarry_47 rfl ?_
      refine ev_getI (pc := 48) dX11_readQuarry_48 fX11_103 rfl (wlt wg1 (by decide)) ?_
      refine ev_eqI (e' := nI (tS zb zn (tE zb zn zp))) hL1.2.1 ?_
      refine ev_isub (pc := 51) dX11_readQuarry_51 ?_
      refine ev_eqI (e' := nI ((tE zb zn (tE zb zn zp)) - (tS zb zn (tE zb zn zp)))) (pk_sub (a := tE zb zn (tE zb zn zp)) (b := tS zb zn (tE zb zn zp)) (by omega)) ?_
      refine ev_iconst (pc := 52) (v := 1) dX11_readQuarry_52 (by decide) ?_
      refine ev_icmp_ne (pc := 53) (tgt := 68) dX11_readQuarry_53 (by decide) (fun zc53 => ?_) (fun zc53 => ?_)
      · -- ne at 53: taken
        refine ev_aload_n (pc := 68) dX11_readQuarry_68 rfl ?_
        refine ev_iconst (pc := 69) (v := 3) dX11_readQuarry_69 (by decide) ?_
        refine ev_callV0 (S := []) (pc := 70) dX11_readQuarry_70 kX11_fails lX11_130 vX11_fails (cn_fails0 E zg1 3 wg1 (LA_w hL1 zk1)) rfl rfl (wlt wg1 (by decide)) rfl rfl (Nat.le_of_ble_eq_true rfl) ⟨Nat.le_of_ble_eq_true rfl, Nat.le_of_ble_eq_true rfl⟩ ⟨Nat.le_of_ble_eq_true rfl, Nat.le_of_ble_eq_true rfl⟩ ?_
        refine ev_eqH (h' := sI zg1 49 (upd (upd (zg1.2.1 49) 3 3) 4 (zg1.2.1 49 6))) (by first | exact (sI_sI _ _ _ _).trans rfl | rfl) ?_
        skip
        refine ev_aload_n (pc := 73) dX11_readQuarry_73 rfl ?_
        refine ev_getI (pc := 74) dX11_readQuarry_74 fX11_100 rfl (wlt (wf_sI wg1) (by decide)) ?_
        refine ev_eqI (e' := 3) (by rfl) ?_
        refine ev_if_ne (pc := 77) (tgt := 97) dX11_readQuarry_77 (by decide) (fun zc77 => ?_) (fun zc77 => absurd zc77 (show ¬ (3 : Int32) = 0 by decide))
        refine ev_aload_n (pc := 97) dX11_readQuarry_97 rfl ?_
        refine ev_getI (pc := 98) dX11_readQuarry_98 fX11_100 rfl (wlt (wf_sI wg1) (by decide)) ?_
        refine ev_eqI (e' := 3) (by rfl) ?_
        refine ev_if_ne (pc := 101) (tgt := 108) dX11_readQuarry_101 (by decide) (fun zc101 => ?_) (fun zc101 => absurd zc101 (show ¬ (3 : Int32) = 0 by decide))
        refine ev_iconst (pc := 108) (v := 0) dX11_readQuarry_108 (by decide) ?_
        refine ev_istore_n (pc := 109) (L' := [some (.ref 49), some (.int (nI (zb (tS zb zn (tE zb zn zp)) - 97))), some (.int 0)]) dX11_readQuarry_109 (Nat.le_of_ble_eq_true rfl) rfl ?_
        refine ev_aload_n (pc := 110) dX11_readQuarry_110 rfl ?_
        refine ev_dup (pc := 111) dX11_readQuarry_111 rfl ?_
        refine ev_getI (pc := 112) dX11_readQuarry_112 fX11_146 rfl (wlt (wf_sI wg1) (by decide)) ?_
        refine ev_eqI (e' := zg1.2.1 49 31) (by rfl) ?_
        refine ev_eqI (e' := nI (zt.1 5)) hv1.2.2.2.2 ?_
        refine ev_aload_n (pc := 115) dX11_readQuarry_115 rfl ?_
        refine ev_getI (pc := 116) dX11_readQuarry_116 fX11_100 rfl (wlt (wf_sI wg1) (by decide)) ?_
        refine ev_eqI (e' := 3) (by rfl) ?_
        refine ev_if_ne (pc := 119) (tgt := 128) dX11_readQuarry_119 (by decide) (fun zc119 => ?_) (fun zc119 => absurd zc119 (show ¬ (3 : Int32) = 0 by decide))
        refine ev_iconst (pc := 128) (v := 0) dX11_readQuarry_128 (by decide) ?_
        refine ev_ior (pc := 129) dX11_readQuarry_129 ?_
        refine ev_eqI (e' := (nI (zt.1 5)) ||| 0) rfl ?_
        refine ev_putI (pc := 130) dX11_readQuarry_130 fX11_146 rfl (wlt (wf_sI wg1) (by decide)) ?_
        refine ev_eqH (h' := sI zg1 49 (upd (upd (upd (zg1.2.1 49) 3 3) 4 (zg1.2.1 49 6)) 31 ((nI (zt.1 5)) ||| 0))) (by exact sI_sI _ _ _ _) ?_
        refine ev_aload_n (pc := 133) dX11_readQuarry_133 rfl ?_
        refine ev_callV0 (S := []) (pc := 134) dX11_readQuarry_134 kX11_next lX11_137 vX11_next (cn_X11_nextW E (sI zg1 49 (upd (upd (upd (zg1.2.1 49) 3 3) 4 (zg1.2.1 49 6)) 31 ((nI (zt.1 5)) ||| 0))) (wf_sI wg1) (show (0 : Int32) < 3 by decide)) rfl rfl (wlt (wf_sI wg1) (by decide)) rfl rfl (Nat.le_of_ble_eq_true rfl) ⟨Nat.le_of_ble_eq_true rfl, Nat.le_of_ble_eq_true rfl⟩ ⟨Nat.le_of_ble_eq_true rfl, Nat.le_of_ble_eq_true rfl⟩ ?_
        refine ev_aload_n (pc := 137) dX11_readQuarry_137 rfl ?_
        refine ev_getR (pc := 138) (q := 64) dX11_readQuarry_138 fX11_56 rfl (wlt (wf_sI wg1) (by decide)) (wr (wf_sI wg1) rfl) ?_
        refine ev_iload_n (pc := 141) dX11_readQuarry_141 rfl ?_
        refine ev_aload_n (pc := 142) dX11_readQuarry_142 rfl ?_
        refine ev_iconst (pc := 143) (v := 0) dX11_readQuarry_143 (by decide) ?_
        refine ev_bipush (pc := 144) (v := 99) dX11_readQuarry_144 (by decide) ?_
        refine ev_callVv (S := [.int 0, .ref 64]) (pc := 146) dX11_readQuarry_146 kX11_number lX11_140 vX11_number (cn_X11_numberW E (sI zg1 49 (upd (upd (upd (zg1.2.1 49) 3 3) 4 (zg1.2.1 49 6)) 31 ((nI (zt.1 5)) ||| 0))) 0 99 (wf_sI wg1) (show ¬ (3 : Int32) = 0 by decide)) rfl rfl (wlt (wf_sI wg1) (by decide)) rfl rfl (Nat.le_of_ble_eq_true rfl) ⟨Nat.le_of_ble_eq_true rfl, Nat.le_of_ble_eq_true rfl⟩ ⟨Nat.le_of_ble_eq_true rfl, Nat.le_of_ble_eq_true rfl⟩ ?_
        refine ev_iast (pc := 149) dX11_readQuarry_149 rfl (wlt (wf_sI wg1) (by decide)) (vp_in_nI (n := 0) (by decide) (by decide)) ?_
        refine ev_eqH (h' := sI (sI zg1 49 (upd (upd (upd (zg1.2.1 49) 3 3) 4 (zg1.2.1 49 6)) 31 ((nI (zt.1 5)) ||| 0))) 64 (upd (zg1.2.1 64) 0 0)) (by rfl) ?_
        refine ev_aload_n (pc := 150) dX11_readQuarry_150 rfl ?_
        refine ev_callV0 (S := []) (pc := 151) dX11_readQuarry_151 kX11_next lX11_137 vX11_next (cn_X11_nextW E (sI (sI zg1 49 (upd (upd (upd (zg1.2.1 49) 3 3) 4 (zg1.2.1 49 6)) 31 ((nI (zt.1 5)) ||| 0))) 64 (upd (zg1.2.1 64) 0 0)) (wf_sI (wf_sI wg1)) (show (0 : Int32) < 3 by decide)) rfl rfl (wlt (wf_sI (wf_sI wg1)) (by decide)) rfl rfl (Nat.le_of_ble_eq_true rfl) ⟨Nat.le_of_ble_eq_true rfl, Nat.le_of_ble_eq_true rfl⟩ ⟨Nat.le_of_ble_eq_true rfl, Nat.le_of_ble_eq_true rfl⟩ ?_
        refine ev_aload_n (pc := 154) dX11_readQuarry_154 rfl ?_
        refine ev_getR (pc := 155) (q := 65) dX11_readQuarry_155 fX11_59 rfl (wlt (wf_sI (wf_sI wg1)) (by decide)) (wr (wf_sI (wf_sI wg1)) rfl) ?_
        refine ev_iload_n (pc := 158) dX11_readQuarry_158 rfl ?_
        refine ev_aload_n (pc := 159) dX11_readQuarry_159 rfl ?_
        refine ev_iconst (pc := 160) (v := 1) dX11_readQuarry_160 (by decide) ?_
        refine ev_bipush (pc := 161) (v := 99) dX11_readQuarry_161 (by decide) ?_
        refine ev_callVv (S := [.int 0, .ref 65]) (pc := 163) dX11_readQuarry_163 kX11_number lX11_140 vX11_number (cn_X11_numberW E (sI (sI zg1 49 (upd (upd (upd (zg1.2.1 49) 3 3) 4 (zg1.2.1 49 6)) 31 ((nI (zt.1 5)) ||| 0))) 64 (upd (zg1.2.1 64) 0 0)) 1 99 (wf_sI (wf_sI wg1)) (show ¬ (3 : Int32) = 0 by decide)) rfl rfl (wlt (wf_sI (wf_sI wg1)) (by decide)) rfl rfl (Nat.le_of_ble_eq_true rfl) ⟨Nat.le_of_ble_eq_true rfl, Nat.le_of_ble_eq_true rfl⟩ ⟨Nat.le_of_ble_eq_true rfl, Nat.le_of_ble_eq_true rfl⟩ ?_
        refine ev_iast (pc := 166) dX11_readQuarry_166 rfl (wlt (wf_sI (wf_sI wg1)) (by decide)) (vp_in_nI (n := 0) (by decide) (by decide)) ?_
        refine ev_eqH (h' := sI (sI (sI zg1 49 (upd (upd (upd (zg1.2.1 49) 3 3) 4 (zg1.2.1 49 6)) 31 ((nI (zt.1 5)) ||| 0))) 64 (upd (zg1.2.1 64) 0 0)) 65 (upd (zg1.2.1 65) 0 1)) (by rfl) ?_
        refine ev_aload_n (pc := 167) dX11_readQuarry_167 rfl ?_
        refine ev_callV0 (S := []) (pc := 168) dX11_readQuarry_168 kX11_next lX11_137 vX11_next (cn_X11_nextW E (sI (sI (sI zg1 49 (upd (upd (upd (zg1.2.1 49) 3 3) 4 (zg1.2.1 49 6)) 31 ((nI (zt.1 5)) ||| 0))) 64 (upd (zg1.2.1 64) 0 0)) 65 (upd (zg1.2.1 65) 0 1)) (wf_sI (wf_sI (wf_sI wg1))) (show (0 : Int32) < 3 by decide)) rfl rfl (wlt (wf_sI (wf_sI (wf_sI wg1))) (by decide)) rfl rfl (Nat.le_of_ble_eq_true rfl) ⟨Nat.le_of_ble_eq_true rfl, Nat.le_of_ble_eq_true rfl⟩ ⟨Nat.le_of_ble_eq_true rfl, Nat.le_of_ble_eq_true rfl⟩ ?_
        refine ev_ret (pc := 171) dX11_readQuarry_171 rfl ?_
        · have hB : (quaB zb zn (tE zb zn zp) zt).1 = (3, tS zb zn (tE zb zn zp)) := by
            unfold quaB
            exact (ck_0 (by exact (fk_0.mpr zK2))).trans ((ck_1 (by show ¬ (if (tE zb zn (tE zb zn zp)) = (tS zb zn (tE zb zn zp)) + 1 ∧ zb (tS zb zn (tE zb zn zp)) - 97 < 6 then 0 else 3) = 0; rw [if_neg (fun z => by first | exact zc53 (by rw [show (tE zb zn (tE zb zn zp)) - (tS zb zn (tE zb zn zp)) = 1 by omega]; rfl) | exact bI_0.mp zc65 ⟨nI_pos' (by omega), nI_le (a := zb (tS zb zn (tE zb zn zp)) - 97) (b := 5) (by omega) (by decide)⟩)]; decide)).trans (by rw [if_neg (fun z => by first | exact zc53 (by rw [show (tE zb zn (tE zb zn zp)) - (tS zb zn (tE zb zn zp)) = 1 by omega]; rfl) | exact bI_0.mp zc65 ⟨nI_pos' (by omega), nI_le (a := zb (tS zb zn (tE zb zn zp)) - 97) (b := 5) (by omega) (by decide)⟩)]))
          exact ⟨rfl, RB_bad (FrM_r (FrM_r (FrM_49 hF1 (fun zj hj => by simp only [upd]; (repeat' split) <;> first | rfl | (exfalso; unfold pFz at hj; omega))) (by decide) (by decide)) (by decide) (by decide)) hB (by decide) rfl hL1.2.1⟩
      · -- ne at 53: not taken
        refine ev_iload_n (pc := 56) dX11_readQuarry_56 rfl ?_
        refine ev_i2l (pc := 57) dX11_readQuarry_57 ?_
        refine ev_lconst (pc := 58) (v := 0) dX11_readQuarry_58 (by decide) ?_
        refine ev_ldc2 (pc := 59) (v := 5) dX11_readQuarry_59 kcX11_144 ?_
        refine ev_callSv (S := []) (pc := 62) dX11_readQuarry_62 kX11_in lX11_96 sX11_in (cn_X11_inC E zg1 (nI (zb (tS zb zn (tE zb zn zp)) - 97)) 0 5 _ _ _ rfl (by decide) (by decide)) rfl rfl (Nat.le_of_ble_eq_true rfl) ⟨Nat.le_of_ble_eq_true rfl, Nat.le_of_ble_eq_true rfl⟩ ⟨Nat.le_of_ble_eq_true rfl, Nat.le_of_ble_eq_true rfl⟩ ?_
        refine ev_if_ne (pc := 65) (tgt := 73) dX11_readQuarry_65 (by decide) (fun zc65 => ?_) (fun zc65 => ?_)
        · -- ne at 65: taken
          have zlen : (tE zb zn (tE zb zn zp)) = (tS zb zn (tE zb zn zp)) + 1 := by
            have z1 := (nI_eq (a := (tE zb zn (tE zb zn zp)) - (tS zb zn (tE zb zn zp))) (b := 1) (by omega) (by decide)).mp zc53
            omega
          have zc6 : zb (tS zb zn (tE zb zn zp)) - 97 < 6 := by
            have z1 := (nI_leI (a := zb (tS zb zn (tE zb zn zp)) - 97) (b := 5) (by omega) (by decide)).mp (bI_n0.mp zc65).2
            omega
          refine ev_aload_n (pc := 73) dX11_readQuarry_73 rfl ?_
          refine ev_getI (pc := 74) dX11_readQuarry_74 fX11_100 rfl (wlt wg1 (by decide)) ?_
          refine ev_if_ne (pc := 77) (tgt := 97) dX11_readQuarry_77 (by decide) (fun zc77 => absurd (LA_w hL1 zk1) zc77) (fun zc77 => ?_)
          refine ev_aload_n (pc := 80) dX11_readQuarry_80 rfl ?_
          refine ev_getI (pc := 81) dX11_readQuarry_81 fX11_146 rfl (wlt wg1 (by decide)) ?_
          refine ev_eqI (e' := nI (zt.1 5)) hv1.2.2.2.2 ?_
          refine ev_iload_n (pc := 84) dX11_readQuarry_84 rfl ?_
          refine ev_ishr (pc := 85) dX11_readQuarry_85 ?_
          refine ev_iconst (pc := 86) (v := 1) dX11_readQuarry_86 (by decide) ?_
          refine ev_iand (pc := 87) dX11_readQuarry_87 ?_
          refine ev_iconst (pc := 88) (v := 1) dX11_readQuarry_88 (by decide) ?_
          refine ev_icmp_ne (pc := 89) (tgt := 97) dX11_readQuarry_89 (by decide) (fun zc89 => ?_) (fun zc89 => ?_)
          · -- ne at 89: taken
            refine ev_aload_n (pc := 97) dX11_readQuarry_97 rfl ?_
            refine ev_getI (pc := 98) dX11_readQuarry_98 fX11_100 rfl (wlt wg1 (by decide)) ?_
            refine ev_if_ne (pc := 101) (tgt := 108) dX11_readQuarry_101 (by decide) (fun zc101 => absurd (LA_w hL1 zk1) zc101) (fun zc101 => ?_)
            refine ev_iload_n (pc := 104) dX11_readQuarry_104 rfl ?_
            refine ev_goto (pc := 105) (tgt := 109) dX11_readQuarry_105 (by decide) ?_
            refine ev_istore_n (pc := 109) (L' := [some (.ref 49), some (.int (nI (zb (tS zb zn (tE zb zn zp)) - 97))), some (.int (nI (zb (tS zb zn (tE zb zn zp)) - 97)))]) dX11_readQuarry_109 (Nat.le_of_ble_eq_true rfl) rfl ?_
            refine ev_aload_n (pc := 110) dX11_readQuarry_110 rfl ?_
            refine ev_dup (pc := 111) dX11_readQuarry_111 rfl ?_
            refine ev_getI (pc := 112) dX11_readQuarry_112 fX11_146 rfl (wlt wg1 (by decide)) ?_
            refine ev_eqI (e' := nI (zt.1 5)) hv1.2.2.2.2 ?_
            refine ev_aload_n (pc := 115) dX11_readQuarry_115 rfl ?_
            refine ev_getI (pc := 116) dX11_readQuarry_116 fX11_100 rfl (wlt wg1 (by decide)) ?_
            refine ev_if_ne (pc := 119) (tgt := 128) dX11_readQuarry_119 (by decide) (fun zc119 => absurd (LA_w hL1 zk1) zc119) (fun zc119 => ?_)
            refine ev_iconst (pc := 122) (v := 1) dX11_readQuarry_122 (by decide) ?_
            refine ev_iload_n (pc := 123) dX11_readQuarry_123 rfl ?_
            refine ev_ishl (pc := 124) dX11_readQuarry_124 ?_
            refine ev_goto (pc := 125) (tgt := 129) dX11_readQuarry_125 (by decide) ?_
            refine ev_ior (pc := 129) dX11_readQuarry_129 ?_
            refine ev_eqI (e' := nI (zt.1 5 ||| 2 ^ (zb (tS zb zn (tE zb zn zp)) - 97))) (by rw [sh_pow _ (by omega)]; exact fa_or _ _) ?_
            refine ev_putI (pc := 130) dX11_readQuarry_130 fX11_146 rfl (wlt wg1 (by decide)) ?_
            refine ev_eqH (h' := sI zg1 49 (upd (zg1.2.1 49) 31 (nI (zt.1 5 ||| 2 ^ (zb (tS zb zn (tE zb zn zp)) - 97))))) (by rfl) ?_
            have hvq : ScZ (upN zt.1 5 (zt.1 5 ||| 2 ^ (zb (tS zb zn (tE zb zn zp)) - 97)), zt.2) (sI zg1 49 (upd (zg1.2.1 49) 31 (nI (zt.1 5 ||| 2 ^ (zb (tS zb zn (tE zb zn zp)) - 97))))) := ⟨hv1.1, hv1.2.1, hv1.2.2.1, hv1.2.2.2.1, rfl⟩
            refine ev_aload_n (pc := 133) dX11_readQuarry_133 rfl ?_
            have hp2 : (tE zb zn (tE zb zn zp)) ≤ zn := (tE_le zb hp1).2
            refine ev_callV (S := []) (pc := 134) dX11_readQuarry_134 kX11_next lX11_137 vX11_next (cn_X11_next E (sI zg1 49 (upd (zg1.2.1 49) 31 (nI (zt.1 5 ||| 2 ^ (zb (tS zb zn (tE zb zn zp)) - 97))))) zb zn (tE zb zn (tE zb zn zp)) (wf_sI wg1) hT1 (LA_w hL1 zk1) hL1.1 hp2) rfl rfl (wlt (wf_sI wg1) (by decide)) rfl rfl (Nat.le_of_ble_eq_true rfl) ⟨Nat.le_of_ble_eq_true rfl, Nat.le_of_ble_eq_true rfl⟩ ⟨Nat.le_of_ble_eq_true rfl, Nat.le_of_ble_eq_true rfl⟩ ?_
            rintro _ zg2 ⟨rfl, hs2, hL2⟩
            have wg2 := scE_w hs2 (wf_sI wg1)
            have hT2 := scE_T (zb := zb) (zn := zn) hs2 hT1
            have hv2 := scE_S (zt := (upN zt.1 5 (zt.1 5 ||| 2 ^ (zb (tS zb zn (tE zb zn zp)) - 97)), zt.2)) hs2 hvq
            have hF2 := FrM_s (FrM_49 hF1 (fun zj hj => by simp only [upd]; (repeat' split) <;> first | rfl | (exfalso; unfold pFz at hj; omega))) hs2
            by_cases zk2 : tK zb zn (tE zb zn (tE zb zn zp)) = 0
            · refine ev_aload_n (pc := 137) dX11_readQuarry_137 rfl ?_
              refine ev_getR (pc := 138) (q := 64) dX11_readQuarry_138 fX11_56 rfl (wlt wg2 (by decide)) (wr wg2 rfl) ?_
              refine ev_iload_n (pc := 141) dX11_readQuarry_141 rfl ?_
              refine ev_aload_n (pc := 142) dX11_readQuarry_142 rfl ?_
              refine ev_iconst (pc := 143) (v := 0) dX11_readQuarry_143 (by decide) ?_
              refine ev_bipush (pc := 144) (v := 99) dX11_readQuarry_144 (by decide) ?_
              refine ev_callVv (S := [.int (nI (zb (tS zb zn (tE zb zn zp)) - 97)), .ref 64]) (pc := 146) dX11_readQuarry_146 kX11_number lX11_140 vX11_number (cn_X11_numberW E zg2 0 99 wg2 (LA_b hL2 zk2)) rfl rfl (wlt wg2 (by decide)) rfl rfl (Nat.le_of_ble_eq_true rfl) ⟨Nat.le_of_ble_eq_true rfl, Nat.le_of_ble_eq_true rfl⟩ ⟨Nat.le_of_ble_eq_true rfl, Nat.le_of_ble_eq_true rfl⟩ ?_
              refine ev_iast (pc := 149) dX11_readQuarry_149 rfl (wlt wg2 (by decide)) (vp_in_nI (by omega) (by decide)) ?_
              refine ev_eqH (h' := sI zg2 64 (upd (zg2.2.1 64) (zb (tS zb zn (tE zb zn zp)) - 97) 0)) (by rw [show Int32.toNatClampNeg (nI (zb (tS zb zn (tE zb zn zp)) - 97)) = zb (tS zb zn (tE zb zn zp)) - 97 from nI_clamp (by omega)] <;> rfl) ?_
              refine ev_aload_n (pc := 150) dX11_readQuarry_150 rfl ?_
              refine ev_callV0 (S := []) (pc := 151) dX11_readQuarry_151 kX11_next lX11_137 vX11_next (cn_X11_nextW E (sI zg2 64 (upd (zg2.2.1 64) (zb (tS zb zn (tE zb zn zp)) - 97) 0)) (wf_sI wg2) (LA_p hL2 zk2)) rfl rfl (wlt (wf_sI wg2) (by decide)) rfl rfl (Nat.le_of_ble_eq_true rfl) ⟨Nat.le_of_ble_eq_true rfl, Nat.le_of_ble_eq_true rfl⟩ ⟨Nat.le_of_ble_eq_true rfl, Nat.le_of_ble_eq_true rfl⟩ ?_
              refine ev_aload_n (pc := 154) dX11_readQuarry_154 rfl ?_
              refine ev_getR (pc := 155) (q := 65) dX11_readQuarry_155 fX11_59 rfl (wlt (wf_sI wg2) (by decide)) (wr (wf_sI wg2) rfl) ?_
              refine ev_iload_n (pc := 158) dX11_readQuarry_158 rfl ?_
              refine ev_aload_n (pc := 159) dX11_readQuarry_159 rfl ?_
              refine ev_iconst (pc := 160) (v := 1) dX11_readQuarry_160 (by decide) ?_
              refine ev_bipush (pc := 161) (v := 99) dX11_readQuarry_161 (by decide) ?_
              refine ev_callVv (S := [.int (nI (zb (tS zb zn (tE zb zn zp)) - 97)), .ref 65]) (pc := 163) dX11_readQuarry_163 kX11_number lX11_140 vX11_number (cn_X11_numberW E (sI zg2 64 (upd (zg2.2.1 64) (zb (tS zb zn (tE zb zn zp)) - 97) 0)) 1 99 (wf_sI wg2) (LA_b hL2 zk2)) rfl rfl (wlt (wf_sI wg2) (by decide)) rfl rfl (Nat.le_of_ble_eq_true rfl) ⟨Nat.le_of_ble_eq_true rfl, Nat.le_of_ble_eq_true rfl⟩ ⟨Nat.le_of_ble_eq_true rfl, Nat.le_of_ble_eq_true rfl⟩ ?_
              refine ev_iast (pc := 166) dX11_readQuarry_166 rfl (wlt (wf_sI wg2) (by decide)) (vp_in_nI (by omega) (by decide)) ?_
              refine ev_eqH (h' := sI (sI zg2 64 (upd (zg2.2.1 64) (zb (tS zb zn (tE zb zn zp)) - 97) 0)) 65 (upd (zg2.2.1 65) (zb (tS zb zn (tE zb zn zp)) - 97) 1)) (by rw [show Int32.toNatClampNeg (nI (zb (tS zb zn (tE zb zn zp)) - 97)) = zb (tS zb zn (tE zb zn zp)) - 97 from nI_clamp (by omega)] <;> rfl) ?_
              refine ev_aload_n (pc := 167) dX11_readQuarry_167 rfl ?_
              refine ev_callV0 (S := []) (pc := 168) dX11_readQuarry_168 kX11_next lX11_137 vX11_next (cn_X11_nextW E (sI (sI zg2 64 (upd (zg2.2.1 64) (zb (tS zb zn (tE zb zn zp)) - 97) 0)) 65 (upd (zg2.2.1 65) (zb (tS zb zn (tE zb zn zp)) - 97) 1)) (wf_sI (wf_sI wg2)) (LA_p hL2 zk2)) rfl rfl (wlt (wf_sI (wf_sI wg2)) (by decide)) rfl rfl (Nat.le_of_ble_eq_true rfl) ⟨Nat.le_of_ble_eq_true rfl, Nat.le_of_ble_eq_true rfl⟩ ⟨Nat.le_of_ble_eq_true rfl, Nat.le_of_ble_eq_true rfl⟩ ?_
              refine ev_ret (pc := 171) dX11_readQuarry_171 rfl ?_
              · have hB : (quaB zb zn (tE zb zn zp) zt).1 = (wrK zb zn (tE zb zn (tE zb zn zp)), tS zb zn (tE zb zn (tE zb zn zp))) := by
                  unfold quaB
                  exact (ck_0 (by exact (fk_0.mpr zK2))).trans ((ck_0 (by exact (if_pos ⟨zlen, zc6⟩))).trans ((ck_0 (by exact (if_neg (fun z => zc89 ((bit_1 (by omega)).mpr z))))).trans ((ck_1 (by show ¬ fnK _ _ _ _ _ = 0; rw [fn_w _ _ zk2, wr_1 zk2]; decide)).trans (by rw [fn_w _ _ zk2]))))
                exact ⟨rfl, RB_bad (FrM_r (FrM_r hF2 (by decide) (by decide)) (by decide) (by decide)) hB (by rw [wr_1 zk2]; decide) hL2.2.2.2.2.1 (hL2.2.2.2.2.2 zk2)⟩
            · refine ev_aload_n (pc := 137) dX11_readQuarry_137 rfl ?_
              refine ev_getR (pc := 138) (q := 64) dX11_readQuarry_138 fX11_56 rfl (wlt wg2 (by decide)) (wr wg2 rfl) ?_
              refine ev_iload_n (pc := 141) dX11_readQuarry_141 rfl ?_
              refine ev_aload_n (pc := 142) dX11_readQuarry_142 rfl ?_
              refine ev_iconst (pc := 143) (v := 0) dX11_readQuarry_143 (by decide) ?_
              refine ev_bipush (pc := 144) (v := 99) dX11_readQuarry_144 (by decide) ?_
              by_cases zf3 : fnK zb zn (tE zb zn (tE zb zn zp)) 0 100 = 0
              · refine ev_callVv (S := [.int (nI (zb (tS zb zn (tE zb zn zp)) - 97)), .ref 64]) (pc := 146) dX11_readQuarry_146 kX11_number lX11_140 vX11_number (cn_numOK E zg2 zb zn (tE zb zn (tE zb zn zp)) 0 100 99 wg2 hL2 (zk2) hp2 (by decide) (by decide) (by decide) zf3) rfl rfl (wlt wg2 (by decide)) rfl rfl (Nat.le_of_ble_eq_true rfl) ⟨Nat.le_of_ble_eq_true rfl, Nat.le_of_ble_eq_true rfl⟩ ⟨Nat.le_of_ble_eq_true rfl, Nat.le_of_ble_eq_true rfl⟩ ?_
                refine ev_iast (pc := 149) dX11_readQuarry_149 rfl (wlt wg2 (by decide)) (vp_in_nI (by omega) (by decide)) ?_
                refine ev_eqH (h' := sI zg2 64 (upd (zg2.2.1 64) (zb (tS zb zn (tE zb zn zp)) - 97) (nI (tV zb zn (tE zb zn (tE zb zn zp)))))) (by rw [show Int32.toNatClampNeg (nI (zb (tS zb zn (tE zb zn zp)) - 97)) = zb (tS zb zn (tE zb zn zp)) - 97 from nI_clamp (by omega)] <;> rfl) ?_
                refine ev_aload_n (pc := 150) dX11_readQuarry_150 rfl ?_
                have hp4 : (tE zb zn (tE zb zn (tE zb zn zp))) ≤ zn := (tE_le zb hp2).2
                refine ev_callV (S := []) (pc := 151) dX11_readQuarry_151 kX11_next lX11_137 vX11_next (cn_X11_next E (sI zg2 64 (upd (zg2.2.1 64) (zb (tS zb zn (tE zb zn zp)) - 97) (nI (tV zb zn (tE zb zn (tE zb zn zp)))))) zb zn (tE zb zn (tE zb zn (tE zb zn zp))) (wf_sI wg2) hT2 (LA_w hL2 zk2) hL2.1 hp4) rfl rfl (wlt (wf_sI wg2) (by decide)) rfl rfl (Nat.le_of_ble_eq_true rfl) ⟨Nat.le_of_ble_eq_true rfl, Nat.le_of_ble_eq_true rfl⟩ ⟨Nat.le_of_ble_eq_true rfl, Nat.le_of_ble_eq_true rfl⟩ ?_
                rintro _ zg4 ⟨rfl, hs4, hL4⟩
                have wg4 := scE_w hs4 (wf_sI wg2)
                have hT4 := scE_T (zb := zb) (zn := zn) hs4 hT2
                have hv4 := scE_S (zt := (upN zt.1 5 (zt.1 5 ||| 2 ^ (zb (tS zb zn (tE zb zn zp)) - 97)), zt.2)) hs4 hv2
                have hF4 := FrM_s (FrM_r hF2 (by decide) (by decide)) hs4
                by_cases zk4 : tK zb zn (tE zb zn (tE zb zn (tE zb zn zp))) = 0
                · refine ev_aload_n (pc := 154) dX11_readQuarry_154 rfl ?_
                  refine ev_getR (pc := 155) (q := 65) dX11_readQuarry_155 fX11_59 rfl (wlt wg4 (by decide)) (wr wg4 rfl) ?_
                  refine ev_iload_n (pc := 158) dX11_readQuarry_158 rfl ?_
                  refine ev_aload_n (pc := 159) dX11_readQuarry_159 rfl ?_
                  refine ev_iconst (pc := 160) (v := 1) dX11_readQuarry_160 (by decide) ?_
                  refine ev_bipush (pc := 161) (v := 99) dX11_readQuarry_161 (by decide) ?_
                  refine ev_callVv (S := [.int (nI (zb (tS zb zn (tE zb zn zp)) - 97)), .ref 65]) (pc := 163) dX11_readQuarry_163 kX11_number lX11_140 vX11_number (cn_X11_numberW E zg4 1 99 wg4 (LA_b hL4 zk4)) rfl rfl (wlt wg4 (by decide)) rfl rfl (Nat.le_of_ble_eq_true rfl) ⟨Nat.le_of_ble_eq_true rfl, Nat.le_of_ble_eq_true rfl⟩ ⟨Nat.le_of_ble_eq_true rfl, Nat.le_of_ble_eq_true rfl⟩ ?_
                  refine ev_iast (pc := 166) dX11_readQuarry_166 rfl (wlt wg4 (by decide)) (vp_in_nI (by omega) (by decide)) ?_
                  refine ev_eqH (h' := sI zg4 65 (upd (zg4.2.1 65) (zb (tS zb zn (tE zb zn zp)) - 97) 1)) (by rw [show Int32.toNatClampNeg (nI (zb (tS zb zn (tE zb zn zp)) - 97)) = zb (tS zb zn (tE zb zn zp)) - 97 from nI_clamp (by omega)] <;> rfl) ?_
                  refine ev_aload_n (pc := 167) dX11_readQuarry_167 rfl ?_
                  refine ev_callV0 (S := []) (pc := 168) dX11_readQuarry_168 kX11_next lX11_137 vX11_next (cn_X11_nextW E (sI zg4 65 (upd (zg4.2.1 65) (zb (tS zb zn (tE zb zn zp)) - 97) 1)) (wf_sI wg4) (LA_p hL4 zk4)) rfl rfl (wlt (wf_sI wg4) (by decide)) rfl rfl (Nat.le_of_ble_eq_true rfl) ⟨Nat.le_of_ble_eq_true rfl, Nat.le_of_ble_eq_true rfl⟩ ⟨Nat.le_of_ble_eq_true rfl, Nat.le_of_ble_eq_true rfl⟩ ?_
                  refine ev_ret (pc := 171) dX11_readQuarry_171 rfl ?_
                  · have hB : (quaB zb zn (tE zb zn zp) zt).1 = (wrK zb zn (tE zb zn (tE zb zn (tE zb zn zp))), tS zb zn (tE zb zn (tE zb zn (tE zb zn zp)))) := by
                      unfold quaB
                      exact (ck_0 (by exact (fk_0.mpr zK2))).trans ((ck_0 (by exact (if_pos ⟨zlen, zc6⟩))).trans ((ck_0 (by exact (if_neg (fun z => zc89 ((bit_1 (by omega)).mpr z))))).trans ((ck_0 (by exact zf3)).trans ((ck_1 (by show ¬ fnK _ _ _ _ _ = 0; rw [fn_w _ _ zk4, wr_1 zk4]; decide)).trans (by rw [fn_w _ _ zk4])))))
                    exact ⟨rfl, RB_bad (FrM_r hF4 (by decide) (by decide)) hB (by rw [wr_1 zk4]; decide) hL4.2.2.2.2.1 (hL4.2.2.2.2.2 zk4)⟩
                · refine ev_aload_n (pc := 154) dX11_readQuarry_154 rfl ?_
                  refine ev_getR (pc := 155) (q := 65) dX11_readQuarry_155 fX11_59 rfl (wlt wg4 (by decide)) (wr wg4 rfl) ?_
                  refine ev_iload_n (pc := 158) dX11_readQuarry_158 rfl ?_
                  refine ev_aload_n (pc := 159) dX11_readQuarry_159 rfl ?_
                  refine ev_iconst (pc := 160) (v := 1) dX11_readQuarry_160 (by decide) ?_
                  refine ev_bipush (pc := 161) (v := 99) dX11_readQuarry_161 (by decide) ?_
                  by_cases zf5 : fnK zb zn (tE zb zn (tE zb zn (tE zb zn zp))) 1 100 = 0
                  · refine ev_callVv (S := [.int (nI (zb (tS zb zn (tE zb zn zp)) - 97)), .ref 65]) (pc := 163) dX11_readQuarry_163 kX11_number lX11_140 vX11_number (cn_numOK E zg4 zb zn (tE zb zn (tE zb zn (tE zb zn zp))) 1 100 99 wg4 hL4 (zk4) hp4 (by decide) (by decide) (by decide) zf5) rfl rfl (wlt wg4 (by decide)) rfl rfl (Nat.le_of_ble_eq_true rfl) ⟨Nat.le_of_ble_eq_true rfl, Nat.le_of_ble_eq_true rfl⟩ ⟨Nat.le_of_ble_eq_true rfl, Nat.le_of_ble_eq_true rfl⟩ ?_
                    refine ev_iast (pc := 166) dX11_readQuarry_166 rfl (wlt wg4 (by decide)) (vp_in_nI (by omega) (by decide)) ?_
                    refine ev_eqH (h' := sI zg4 65 (upd (zg4.2.1 65) (zb (tS zb zn (tE zb zn zp)) - 97) (nI (tV zb zn (tE zb zn (tE zb zn (tE zb zn zp))))))) (by rw [show Int32.toNatClampNeg (nI (zb (tS zb zn (tE zb zn zp)) - 97)) = zb (tS zb zn (tE zb zn zp)) - 97 from nI_clamp (by omega)] <;> rfl) ?_
                    refine ev_aload_n (pc := 167) dX11_readQuarry_167 rfl ?_
                    have hp6 : (tE zb zn (tE zb zn (tE zb zn (tE zb zn zp)))) ≤ zn := (tE_le zb hp4).2
                    refine ev_callV (S := []) (pc := 168) dX11_readQuarry_168 kX11_next lX11_137 vX11_next (cn_X11_next E (sI zg4 65 (upd (zg4.2.1 65) (zb (tS zb zn (tE zb zn zp)) - 97) (nI (tV zb zn (tE zb zn (tE zb zn (tE zb zn zp))))))) zb zn (tE zb zn (tE zb zn (tE zb zn (tE zb zn zp)))) (wf_sI wg4) hT4 (LA_w hL4 zk4) hL4.1 hp6) rfl rfl (wlt (wf_sI wg4) (by decide)) rfl rfl (Nat.le_of_ble_eq_true rfl) ⟨Nat.le_of_ble_eq_true rfl, Nat.le_of_ble_eq_true rfl⟩ ⟨Nat.le_of_ble_eq_true rfl, Nat.le_of_ble_eq_true rfl⟩ ?_
                    rintro _ zg6 ⟨rfl, hs6, hL6⟩
                    have wg6 := scE_w hs6 (wf_sI wg4)
                    have hT6 := scE_T (zb := zb) (zn := zn) hs6 hT4
                    have hv6 := scE_S (zt := (upN zt.1 5 (zt.1 5 ||| 2 ^ (zb (tS zb zn (tE zb zn zp)) - 97)), zt.2)) hs6 hv4
                    have hF6 := FrM_s (FrM_r hF4 (by decide) (by decide)) hs6
                    by_cases zk6 : tK zb zn (tE zb zn (tE zb zn (tE zb zn (tE zb zn zp)))) = 0
                    · refine ev_ret (pc := 171) dX11_readQuarry_171 rfl ?_
                      · have hB : (quaB zb zn (tE zb zn zp) zt).1 = (wrK zb zn (tE zb zn (tE zb zn (tE zb zn (tE zb zn zp)))), tS zb zn (tE zb zn (tE zb zn (tE zb zn (tE zb zn zp))))) := by
                          unfold quaB
                          exact (ck_0 (by exact (fk_0.mpr zK2))).trans ((ck_0 (by exact (if_pos ⟨zlen, zc6⟩))).trans ((ck_0 (by exact (if_neg (fun z => zc89 ((bit_1 (by omega)).mpr z))))).trans ((ck_0 (by exact zf3)).trans ((ck_0 (by exact zf5)).trans (rfl)))))
                        exact ⟨rfl, RB_bad hF6 hB (by rw [wr_1 zk6]; decide) hL6.2.2.2.2.1 (hL6.2.2.2.2.2 zk6)⟩
                    · refine ev_ret (pc := 171) dX11_readQuarry_171 rfl ?_
                      · have hB : (quaB zb zn (tE zb zn zp) zt).1 = (wrK zb zn (tE zb zn (tE zb zn (tE zb zn (tE zb zn zp)))), tS zb zn (tE zb zn (tE zb zn (tE zb zn (tE zb zn zp))))) := by
                          unfold quaB
                          exact (ck_0 (by exact (fk_0.mpr zK2))).trans ((ck_0 (by exact (if_pos ⟨zlen, zc6⟩))).trans ((ck_0 (by exact (if_neg (fun z => zc89 ((bit_1 (by omega)).mpr z))))).trans ((ck_0 (by exact zf3)).trans ((ck_0 (by exact zf5)).trans (rfl)))))
                        have hB0 : (quaB zb zn (tE zb zn zp) zt).1.1 = 0 := (congrArg Prod.fst hB).trans (wr_0 zk6)
                        have e59 : zg6.2.1 59 = h.2.1 59 := by rw [hs6.2.2.1 59 (by decide)]; show zg4.2.1 59 = _; rw [hs4.2.2.1 59 (by decide)]; show zg2.2.1 59 = _; rw [hs2.2.2.1 59 (by decide)]; show zg1.2.1 59 = _; rw [hs1.2.2.1 59 (by decide)]
                        have e60 : zg6.2.1 60 = h.2.1 60 := by rw [hs6.2.2.1 60 (by decide)]; show zg4.2.1 60 = _; rw [hs4.2.2.1 60 (by decide)]; show zg2.2.1 60 = _; rw [hs2.2.2.1 60 (by decide)]; show zg1.2.1 60 = _; rw [hs1.2.2.1 60 (by decide)]
                        have e61 : zg6.2.1 61 = h.2.1 61 := by rw [hs6.2.2.1 61 (by decide)]; show zg4.2.1 61 = _; rw [hs4.2.2.1 61 (by decide)]; show zg2.2.1 61 = _; rw [hs2.2.2.1 61 (by decide)]; show zg1.2.1 61 = _; rw [hs1.2.2.1 61 (by decide)]
                        have e62 : zg6.2.1 62 = h.2.1 62 := by rw [hs6.2.2.1 62 (by decide)]; show zg4.2.1 62 = _; rw [hs4.2.2.1 62 (by decide)]; show zg2.2.1 62 = _; rw [hs2.2.2.1 62 (by decide)]; show zg1.2.1 62 = _; rw [hs1.2.2.1 62 (by decide)]
                        have e63 : zg6.2.1 63 = h.2.1 63 := by rw [hs6.2.2.1 63 (by decide)]; show zg4.2.1 63 = _; rw [hs4.2.2.1 63 (by decide)]; show zg2.2.1 63 = _; rw [hs2.2.2.1 63 (by decide)]; show zg1.2.1 63 = _; rw [hs1.2.2.1 63 (by decide)]
                        have e64 : zg6.2.1 64 = upd (h.2.1 64) (zb (tS zb zn (tE zb zn zp)) - 97) (nI (tV zb zn (tE zb zn (tE zb zn zp)))) := by rw [hs6.2.2.1 64 (by decide)]; show zg4.2.1 64 = _; rw [hs4.2.2.1 64 (by decide)]; show upd (zg2.2.1 64) _ _ = _; rw [hs2.2.2.1 64 (by decide)]; show upd (zg1.2.1 64) _ _ = _; rw [hs1.2.2.1 64 (by decide)]
                        have e65 : zg6.2.1 65 = upd (h.2.1 65) (zb (tS zb zn (tE zb zn zp)) - 97) (nI (tV zb zn (tE zb zn (tE zb zn (tE zb zn zp))))) := by rw [hs6.2.2.1 65 (by decide)]; show upd (zg4.2.1 65) _ _ = _; rw [hs4.2.2.1 65 (by decide)]; show upd (zg2.2.1 65) _ _ = _; rw [hs2.2.2.1 65 (by decide)]; show upd (zg1.2.1 65) _ _ = _; rw [hs1.2.2.1 65 (by decide)]
                        refine ⟨rfl, RB_ok hF6 hB0 ⟨⟨hv6, ?_⟩, hL6, zk6⟩⟩
                        refine ⟨fun zk hk => ?_, fun zk hk => ?_, fun zk hk => ?_⟩
                        · rw [e59, e60, e61, e62]
                          exact hM.2.1 zk hk
                        · have h9 := hM.2.2.1 zk hk
                          rw [e64, e65]
                          by_cases e : zk = zb (tS zb zn (tE zb zn zp)) - 97
                          · subst e
                            simp [quaB, upd, upM, upN]
                          · simp [quaB, upd, upM, upN, e, h9]
                        · rw [e63]
                          exact hM.2.2.2 zk hk
                  · refine ev_callVv (S := [.int (nI (zb (tS zb zn (tE zb zn zp)) - 97)), .ref 65]) (pc := 163) dX11_readQuarry_163 kX11_number lX11_140 vX11_number (cn_numBad E zg4 zb zn (tE zb zn (tE zb zn (tE zb zn zp))) 1 100 99 wg4 hL4 (zk4) hp4 (by decide) (by decide) (by decide) zf5) rfl rfl (wlt wg4 (by decide)) rfl rfl (Nat.le_of_ble_eq_true rfl) ⟨Nat.le_of_ble_eq_true rfl, Nat.le_of_ble_eq_true rfl⟩ ⟨Nat.le_of_ble_eq_true rfl, Nat.le_of_ble_eq_true rfl⟩ ?_
                    refine ev_eqH (h' := sI zg4 49 (upd (upd (zg4.2.1 49) 3 (nI (fnK zb zn (tE zb zn (tE zb zn (tE zb zn zp))) 1 100))) 4 (nI (tS zb zn (tE zb zn (tE zb zn (tE zb zn zp))))))) (by first | exact (sI_sI _ _ _ _).trans rfl | rfl) ?_
                    refine ev_iast (pc := 166) dX11_readQuarry_166 rfl (wlt (wf_sI wg4) (by decide)) (vp_in_nI (by omega) (by decide)) ?_
                    refine ev_eqH (h' := sI (sI zg4 49 (upd (upd (zg4.2.1 49) 3 (nI (fnK zb zn (tE zb zn (tE zb zn (tE zb zn zp))) 1 100))) 4 (nI (tS zb zn (tE zb zn (tE zb zn (tE zb zn zp))))))) 65 (upd (zg4.2.1 65) (zb (tS zb zn (tE zb zn zp)) - 97) 1)) (by rw [show Int32.toNatClampNeg (nI (zb (tS zb zn (tE zb zn zp)) - 97)) = zb (tS zb zn (tE zb zn zp)) - 97 from nI_clamp (by omega)] <;> rfl) ?_
                    refine ev_aload_n (pc := 167) dX11_readQuarry_167 rfl ?_
                    refine ev_callV0 (S := []) (pc := 168) dX11_readQuarry_168 kX11_next lX11_137 vX11_next (cn_X11_nextW E (sI (sI zg4 49 (upd (upd (zg4.2.1 49) 3 (nI (fnK zb zn (tE zb zn (tE zb zn (tE zb zn zp))) 1 100))) 4 (nI (tS zb zn (tE zb zn (tE zb zn (tE zb zn zp))))))) 65 (upd (zg4.2.1 65) (zb (tS zb zn (tE zb zn zp)) - 97) 1)) (wf_sI (wf_sI wg4)) (nb_p (fn_5 _ _ _ _ _) zf5)) rfl rfl (wlt (wf_sI (wf_sI wg4)) (by decide)) rfl rfl (Nat.le_of_ble_eq_true rfl) ⟨Nat.le_of_ble_eq_true rfl, Nat.le_of_ble_eq_true rfl⟩ ⟨Nat.le_of_ble_eq_true rfl, Nat.le_of_ble_eq_true rfl⟩ ?_
                    refine ev_ret (pc := 171) dX11_readQuarry_171 rfl ?_
                    · have hB : (quaB zb zn (tE zb zn zp) zt).1 = (fnK zb zn (tE zb zn (tE zb zn (tE zb zn zp))) 1 100, tS zb zn (tE zb zn (tE zb zn (tE zb zn zp)))) := by
                        unfold quaB
                        exact (ck_0 (by exact (fk_0.mpr zK2))).trans ((ck_0 (by exact (if_pos ⟨zlen, zc6⟩))).trans ((ck_0 (by exact (if_neg (fun z => zc89 ((bit_1 (by omega)).mpr z))))).trans ((ck_0 (by exact zf3)).trans (ck_1 (by exact zf5)))))
                      exact ⟨rfl, RB_bad (FrM_r (FrM_49 hF4 (fun zj hj => by simp only [upd]; (repeat' split) <;> first | rfl | (exfalso; unfold pFz at hj; omega))) (by decide) (by decide)) hB zf5 rfl rfl⟩
              · refine ev_callVv (S := [.int (nI (zb (tS zb zn (tE zb zn zp)) - 97)), .ref 64]) (pc := 146) dX11_readQuarry_146 kX11_number lX11_140 vX11_number (cn_numBad E zg2 zb zn (tE zb zn (tE zb zn zp)) 0 100 99 wg2 hL2 (zk2) hp2 (by decide) (by decide) (by decide) zf3) rfl rfl (wlt wg2 (by decide)) rfl rfl (Nat.le_of_ble_eq_true rfl) ⟨Nat.le_of_ble_eq_true rfl, Nat.le_of_ble_eq_true rfl⟩ ⟨Nat.le_of_ble_eq_true rfl, Nat.le_of_ble_eq_true rfl⟩ ?_
                refine ev_eqH (h' := sI zg2 49 (upd (upd (zg2.2.1 49) 3 (nI (fnK zb zn (tE zb zn (tE zb zn zp)) 0 100))) 4 (nI (tS zb zn (tE zb zn (tE zb zn zp)))))) (by first | exact (sI_sI _ _ _ _).trans rfl | rfl) ?_
                refine ev_iast (pc := 149) dX11_readQuarry_149 rfl (wlt (wf_sI wg2) (by decide)) (vp_in_nI (by omega) (by decide)) ?_
                refine ev_eqH (h' := sI (sI zg2 49 (upd (upd (zg2.2.1 49) 3 (nI (fnK zb zn (tE zb zn (tE zb zn zp)) 0 100))) 4 (nI (tS zb zn (tE zb zn (tE zb zn zp)))))) 64 (upd (zg2.2.1 64) (zb (tS zb zn (tE zb zn zp)) - 97) 0)) (by rw [show Int32.toNatClampNeg (nI (zb (tS zb zn (tE zb zn zp)) - 97)) = zb (tS zb zn (tE zb zn zp)) - 97 from nI_clamp (by omega)] <;> rfl) ?_
                refine ev_aload_n (pc := 150) dX11_readQuarry_150 rfl ?_
                refine ev_callV0 (S := []) (pc := 151) dX11_readQuarry_151 kX11_next lX11_137 vX11_next (cn_X11_nextW E (sI (sI zg2 49 (upd (upd (zg2.2.1 49) 3 (nI (fnK zb zn (tE zb zn (tE zb zn zp)) 0 100))) 4 (nI (tS zb zn (tE zb zn (tE zb zn zp)))))) 64 (upd (zg2.2.1 64) (zb (tS zb zn (tE zb zn zp)) - 97) 0)) (wf_sI (wf_sI wg2)) (nb_p (fn_5 _ _ _ _ _) zf3)) rfl rfl (wlt (wf_sI (wf_sI wg2)) (by decide)) rfl rfl (Nat.le_of_ble_eq_true rfl) ⟨Nat.le_of_ble_eq_true rfl, Nat.le_of_ble_eq_true rfl⟩ ⟨Nat.le_of_ble_eq_true rfl, Nat.le_of_ble_eq_true rfl⟩ ?_
                refine ev_aload_n (pc := 154) dX11_readQuarry_154 rfl ?_
                refine ev_getR (pc := 155) (q := 65) dX11_readQuarry_155 fX11_59 rfl (wlt (wf_sI (wf_sI wg2)) (by decide)) (wr (wf_sI (wf_sI wg2)) rfl) ?_
                refine ev_iload_n (pc := 158) dX11_readQuarry_158 rfl ?_
                refine ev_aload_n (pc := 159) dX11_readQuarry_159 rfl ?_
                refine ev_iconst (pc := 160) (v := 1) dX11_readQuarry_160 (by decide) ?_
                refine ev_bipush (pc := 161) (v := 99) dX11_readQuarry_161 (by decide) ?_
                refine ev_callVv (S := [.int (nI (zb (tS zb zn (tE zb zn zp)) - 97)), .ref 65]) (pc := 163) dX11_readQuarry_163 kX11_number lX11_140 vX11_number (cn_X11_numberW E (sI (sI zg2 49 (upd (upd (zg2.2.1 49) 3 (nI (fnK zb zn (tE zb zn (tE zb zn zp)) 0 100))) 4 (nI (tS zb zn (tE zb zn (tE zb zn zp)))))) 64 (upd (zg2.2.1 64) (zb (tS zb zn (tE zb zn zp)) - 97) 0)) 1 99 (wf_sI (wf_sI wg2)) (nb_0 (fn_5 _ _ _ _ _) zf3)) rfl rfl (wlt (wf_sI (wf_sI wg2)) (by decide)) rfl rfl (Nat.le_of_ble_eq_true rfl) ⟨Nat.le_of_ble_eq_true rfl, Nat.le_of_ble_eq_true rfl⟩ ⟨Nat.le_of_ble_eq_true rfl, Nat.le_of_ble_eq_true rfl⟩ ?_
                refine ev_iast (pc := 166) dX11_readQuarry_166 rfl (wlt (wf_sI (wf_sI wg2)) (by decide)) (vp_in_nI (by omega) (by decide)) ?_
                refine ev_eqH (h' := sI (sI (sI zg2 49 (upd (upd (zg2.2.1 49) 3 (nI (fnK zb zn (tE zb zn (tE zb zn zp)) 0 100))) 4 (nI (tS zb zn (tE zb zn (tE zb zn zp)))))) 64 (upd (zg2.2.1 64) (zb (tS zb zn (tE zb zn zp)) - 97) 0)) 65 (upd (zg2.2.1 65) (zb (tS zb zn (tE zb zn zp)) - 97) 1)) (by rw [show Int32.toNatClampNeg (nI (zb (tS zb zn (tE zb zn zp)) - 97)) = zb (tS zb zn (tE zb zn zp)) - 97 from nI_clamp (by omega)] <;> rfl) ?_
                refine ev_aload_n (pc := 167) dX11_readQuarry_167 rfl ?_
                refine ev_callV0 (S := []) (pc := 168) dX11_readQuarry_168 kX11_next lX11_137 vX11_next (cn_X11_nextW E (sI (sI (sI zg2 49 (upd (upd (zg2.2.1 49) 3 (nI (fnK zb zn (tE zb zn (tE zb zn zp)) 0 100))) 4 (nI (tS zb zn (tE zb zn (tE zb zn zp)))))) 64 (upd (zg2.2.1 64) (zb (tS zb zn (tE zb zn zp)) - 97) 0)) 65 (upd (zg2.2.1 65) (zb (tS zb zn (tE zb zn zp)) - 97) 1)) (wf_sI (wf_sI (wf_sI wg2))) (nb_p (fn_5 _ _ _ _ _) zf3)) rfl rfl (wlt (wf_sI (wf_sI (wf_sI wg2))) (by decide)) rfl rfl (Nat.le_of_ble_eq_true rfl) ⟨Nat.le_of_ble_eq_true rfl, Nat.le_of_ble_eq_true rfl⟩ ⟨Nat.le_of_ble_eq_true rfl, Nat.le_of_ble_eq_true rfl⟩ ?_
                refine ev_ret (pc := 171) dX11_readQuarry_171 rfl ?_
                · have hB : (quaB zb zn (tE zb zn zp) zt).1 = (fnK zb zn (tE zb zn (tE zb zn zp)) 0 100, tS zb zn (tE zb zn (tE zb zn zp))) := by
                    unfold quaB
                    exact (ck_0 (by exact (fk_0.mpr zK2))).trans ((ck_0 (by exact (if_pos ⟨zlen, zc6⟩))).trans ((ck_0 (by exact (if_neg (fun z => zc89 ((bit_1 (by omega)).mpr z))))).trans (ck_1 (by exact zf3))))
                  exact ⟨rfl, RB_bad (FrM_r (FrM_r (FrM_49 hF2 (fun zj hj => by simp only [upd]; (repeat' split) <;> first | rfl | (exfalso; unfold pFz at hj; omega))) (by decide) (by decide)) (by decide) (by decide)) hB zf3 rfl rfl⟩
          · -- ne at 89: not taken
            refine ev_aload_n (pc := 92) dX11_readQuarry_92 rfl ?_
            refine ev_iconst (pc := 93) (v := 4) dX11_readQuarry_93 (by decide) ?_
            refine ev_callV0 (S := []) (pc := 94) dX11_readQuarry_94 kX11_fails lX11_130 vX11_fails (cn_fails0 E zg1 4 wg1 (LA_w hL1 zk1)) rfl rfl (wlt wg1 (by decide)) rfl rfl (Nat.le_of_ble_eq_true rfl) ⟨Nat.le_of_ble_eq_true rfl, Nat.le_of_ble_eq_true rfl⟩ ⟨Nat.le_of_ble_eq_true rfl, Nat.le_of_ble_eq_true rfl⟩ ?_
            refine ev_eqH (h' := sI zg1 49 (upd (upd (zg1.2.1 49) 3 4) 4 (zg1.2.1 49 6))) (by first | exact (sI_sI _ _ _ _).trans rfl | rfl) ?_
            refine ev_aload_n (pc := 97) dX11_readQuarry_97 rfl ?_
            refine ev_getI (pc := 98) dX11_readQuarry_98 fX11_100 rfl (wlt (wf_sI wg1) (by decide)) ?_
            refine ev_eqI (e' := 4) (by rfl) ?_
            refine ev_if_ne (pc := 101) (tgt := 108) dX11_readQuarry_101 (by decide) (fun zc101 => ?_) (fun zc101 => absurd zc101 (show ¬ (4 : Int32) = 0 by decide))
            refine ev_iconst (pc := 108) (v := 0) dX11_readQuarry_108 (by decide) ?_
            refine ev_istore_n (pc := 109) (L' := [some (.ref 49), some (.int (nI (zb (tS zb zn (tE zb zn zp)) - 97))), some (.int 0)]) dX11_readQuarry_109 (Nat.le_of_ble_eq_true rfl) rfl ?_
            refine ev_aload_n (pc := 110) dX11_readQuarry_110 rfl ?_
            refine ev_dup (pc := 111) dX11_readQuarry_111 rfl ?_
            refine ev_getI (pc := 112) dX11_readQuarry_112 fX11_146 rfl (wlt (wf_sI wg1) (by decide)) ?_
            refine ev_eqI (e' := zg1.2.1 49 31) (by rfl) ?_
            refine ev_eqI (e' := nI (zt.1 5)) hv1.2.2.2.2 ?_
            refine ev_aload_n (pc := 115) dX11_readQuarry_115 rfl ?_
            refine ev_getI (pc := 116) dX11_readQuarry_116 fX11_100 rfl (wlt (wf_sI wg1) (by decide)) ?_
            refine ev_eqI (e' := 4) (by rfl) ?_
            refine ev_if_ne (pc := 119) (tgt := 128) dX11_readQuarry_119 (by decide) (fun zc119 => ?_) (fun zc119 => absurd zc119 (show ¬ (4 : Int32) = 0 by decide))
            refine ev_iconst (pc := 128) (v := 0) dX11_readQuarry_128 (by decide) ?_
            refine ev_ior (pc := 129) dX11_readQuarry_129 ?_
            refine ev_eqI (e' := (nI (zt.1 5)) ||| 0) rfl ?_
            refine ev_putI (pc := 130) dX11_readQuarry_130 fX11_146 rfl (wlt (wf_sI wg1) (by decide)) ?_
            refine ev_eqH (h' := sI zg1 49 (upd (upd (upd (zg1.2.1 49) 3 4) 4 (zg1.2.1 49 6)) 31 ((nI (zt.1 5)) ||| 0))) (by exact sI_sI _ _ _ _) ?_
            refine ev_aload_n (pc := 133) dX11_readQuarry_133 rfl ?_
            refine ev_callV0 (S := []) (pc := 134) dX11_readQuarry_134 kX11_next lX11_137 vX11_next (cn_X11_nextW E (sI zg1 49 (upd (upd (upd (zg1.2.1 49) 3 4) 4 (zg1.2.1 49 6)) 31 ((nI (zt.1 5)) ||| 0))) (wf_sI wg1) (show (0 : Int32) < 4 by decide)) rfl rfl (wlt (wf_sI wg1) (by decide)) rfl rfl (Nat.le_of_ble_eq_true rfl) ⟨Nat.le_of_ble_eq_true rfl, Nat.le_of_ble_eq_true rfl⟩ ⟨Nat.le_of_ble_eq_true rfl, Nat.le_of_ble_eq_true rfl⟩ ?_
            refine ev_aload_n (pc := 137) dX11_readQuarry_137 rfl ?_
            refine ev_getR (pc := 138) (q := 64) dX11_readQuarry_138 fX11_56 rfl (wlt (wf_sI wg1) (by decide)) (wr (wf_sI wg1) rfl) ?_
            refine ev_iload_n (pc := 141) dX11_readQuarry_141 rfl ?_
            refine ev_aload_n (pc := 142) dX11_readQuarry_142 rfl ?_
            refine ev_iconst (pc := 143) (v := 0) dX11_readQuarry_143 (by decide) ?_
            refine ev_bipush (pc := 144) (v := 99) dX11_readQuarry_144 (by decide) ?_
            refine ev_callVv (S := [.int 0, .ref 64]) (pc := 146) dX11_readQuarry_146 kX11_number lX11_140 vX11_number (cn_X11_numberW E (sI zg1 49 (upd (upd (upd (zg1.2.1 49) 3 4) 4 (zg1.2.1 49 6)) 31 ((nI (zt.1 5)) ||| 0))) 0 99 (wf_sI wg1) (show ¬ (4 : Int32) = 0 by decide)) rfl rfl (wlt (wf_sI wg1) (by decide)) rfl rfl (Nat.le_of_ble_eq_true rfl) ⟨Nat.le_of_ble_eq_true rfl, Nat.le_of_ble_eq_true rfl⟩ ⟨Nat.le_of_ble_eq_true rfl, Nat.le_of_ble_eq_true rfl⟩ ?_
            refine ev_iast (pc := 149) dX11_readQuarry_149 rfl (wlt (wf_sI wg1) (by decide)) (vp_in_nI (n := 0) (by decide) (by decide)) ?_
            refine ev_eqH (h' := sI (sI zg1 49 (upd (upd (upd (zg1.2.1 49) 3 4) 4 (zg1.2.1 49 6)) 31 ((nI (zt.1 5)) ||| 0))) 64 (upd (zg1.2.1 64) 0 0)) (by rfl) ?_
            refine ev_aload_n (pc := 150) dX11_readQuarry_150 rfl ?_
            refine ev_callV0 (S := []) (pc := 151) dX11_readQuarry_151 kX11_next lX11_137 vX11_next (cn_X11_nextW E (sI (sI zg1 49 (upd (upd (upd (zg1.2.1 49) 3 4) 4 (zg1.2.1 49 6)) 31 ((nI (zt.1 5)) ||| 0))) 64 (upd (zg1.2.1 64) 0 0)) (wf_sI (wf_sI wg1)) (show (0 : Int32) < 4 by decide)) rfl rfl (wlt (wf_sI (wf_sI wg1)) (by decide)) rfl rfl (Nat.le_of_ble_eq_true rfl) ⟨Nat.le_of_ble_eq_true rfl, Nat.le_of_ble_eq_true rfl⟩ ⟨Nat.le_of_ble_eq_true rfl, Nat.le_of_ble_eq_true rfl⟩ ?_
            refine ev_aload_n (pc := 154) dX11_readQuarry_154 rfl ?_
            refine ev_getR (pc := 155) (q := 65) dX11_readQuarry_155 fX11_59 rfl (wlt (wf_sI (wf_sI wg1)) (by decide)) (wr (wf_sI (wf_sI wg1)) rfl) ?_
            refine ev_iload_n (pc := 158) dX11_readQuarry_158 rfl ?_
            refine ev_aload_n (pc := 159) dX11_readQuarry_159 rfl ?_
            refine ev_iconst (pc := 160) (v := 1) dX11_readQuarry_160 (by decide) ?_
            refine ev_bipush (pc := 161) (v := 99) dX11_readQuarry_161 (by decide) ?_
            refine ev_callVv (S := [.int 0, .ref 65]) (pc := 163) dX11_readQuarry_163 kX11_number lX11_140 vX11_number (cn_X11_numberW E (sI (sI zg1 49 (upd (upd (upd (zg1.2.1 49) 3 4) 4 (zg1.2.1 49 6)) 31 ((nI (zt.1 5)) ||| 0))) 64 (upd (zg1.2.1 64) 0 0)) 1 99 (wf_sI (wf_sI wg1)) (show ¬ (4 : Int32) = 0 by decide)) rfl rfl (wlt (wf_sI (wf_sI wg1)) (by decide)) rfl rfl (Nat.le_of_ble_eq_true rfl) ⟨Nat.le_of_ble_eq_true rfl, Nat.le_of_ble_eq_true rfl⟩ ⟨Nat.le_of_ble_eq_true rfl, Nat.le_of_ble_eq_true rfl⟩ ?_
            refine ev_iast (pc := 166) dX11_readQuarry_166 rfl (wlt (wf_sI (wf_sI wg1)) (by decide)) (vp_in_nI (n := 0) (by decide) (by decide)) ?_
            refine ev_eqH (h' := sI (sI (sI zg1 49 (upd (upd (upd (zg1.2.1 49) 3 4) 4 (zg1.2.1 49 6)) 31 ((nI (zt.1 5)) ||| 0))) 64 (upd (zg1.2.1 64) 0 0)) 65 (upd (zg1.2.1 65) 0 1)) (by rfl) ?_
            refine ev_aload_n (pc := 167) dX11_readQuarry_167 rfl ?_
            refine ev_callV0 (S := []) (pc := 168) dX11_readQuarry_168 kX11_next lX11_137 vX11_next (cn_X11_nextW E (sI (sI (sI zg1 49 (upd (upd (upd (zg1.2.1 49) 3 4) 4 (zg1.2.1 49 6)) 31 ((nI (zt.1 5)) ||| 0))) 64 (upd (zg1.2.1 64) 0 0)) 65 (upd (zg1.2.1 65) 0 1)) (wf_sI (wf_sI (wf_sI wg1))) (show (0 : Int32) < 4 by decide)) rfl rfl (wlt (wf_sI (wf_sI (wf_sI wg1))) (by decide)) rfl rfl (Nat.le_of_ble_eq_true rfl) ⟨Nat.le_of_ble_eq_true rfl, Nat.le_of_ble_eq_true rfl⟩ ⟨Nat.le_of_ble_eq_true rfl, Nat.le_of_ble_eq_true rfl⟩ ?_
            refine ev_ret (pc := 171) dX11_readQuarry_171 rfl ?_
            · have hB : (quaB zb zn (tE zb zn zp) zt).1 = (4, tS zb zn (tE zb zn zp)) := by
                unfold quaB
                exact (ck_0 (by exact (fk_0.mpr zK2))).trans ((ck_0 (by exact (if_pos ⟨zlen, zc6⟩))).trans ((ck_1 (by show ¬ (if (zt.1 5).testBit (zb (tS zb zn (tE zb zn zp)) - 97) then 4 else 0) = 0; rw [if_pos ((bit_1 (by omega)).mp zc89)]; decide)).trans (by rw [if_pos ((bit_1 (by omega)).mp zc89)])))
              exact ⟨rfl, RB_bad (FrM_r (FrM_r (FrM_49 hF1 (fun zj hj => by simp only [upd]; (repeat' split) <;> first | rfl | (exfalso; unfold pFz at hj; omega))) (by decide) (by decide)) (by decide) (by decide)) hB (by decide) rfl hL1.2.1⟩
        · -- ne at 65: not taken
          refine ev_aload_n (pc := 68) dX11_readQuarry_68 rfl ?_
          refine ev_iconst (pc := 69) (v := 3) dX11_readQuarry_69 (by decide) ?_
          refine ev_callV0 (S := []) (pc := 70) dX11_readQuarry_70 kX11_fails lX11_130 vX11_fails (cn_fails0 E zg1 3 wg1 (LA_w hL1 zk1)) rfl rfl (wlt wg1 (by decide)) rfl rfl (Nat.le_of_ble_eq_true rfl) ⟨Nat.le_of_ble_eq_true rfl, Nat.le_of_ble_eq_true rfl⟩ ⟨Nat.le_of_ble_eq_true rfl, Nat.le_of_ble_eq_true rfl⟩ ?_
          refine ev_eqH (h' := sI zg1 49 (upd (upd (zg1.2.1 49) 3 3) 4 (zg1.2.1 49 6))) (by first | exact (sI_sI _ _ _ _).trans rfl | rfl) ?_
          skip
          refine ev_aload_n (pc := 73) dX11_readQuarry_73 rfl ?_
          refine ev_getI (pc := 74) dX11_readQuarry_74 fX11_100 rfl (wlt (wf_sI wg1) (by decide)) ?_
          refine ev_eqI (e' := 3) (by rfl) ?_
          refine ev_if_ne (pc := 77) (tgt := 97) dX11_readQuarry_77 (by decide) (fun zc77 => ?_) (fun zc77 => absurd zc77 (show ¬ (3 : Int32) = 0 by decide))
          refine ev_aload_n (pc := 97) dX11_readQuarry_97 rfl ?_
          refine ev_getI (pc := 98) dX11_readQuarry_98 fX11_100 rfl (wlt (wf_sI wg1) (by decide)) ?_
          refine ev_eqI (e' := 3) (by rfl) ?_
          refine ev_if_ne (pc := 101) (tgt := 108) dX11_readQuarry_101 (by decide) (fun zc101 => ?_) (fun zc101 => absurd zc101 (show ¬ (3 : Int32) = 0 by decide))
          refine ev_iconst (pc := 108) (v := 0) dX11_readQuarry_108 (by decide) ?_
          refine ev_istore_n (pc := 109) (L' := [some (.ref 49), some (.int (nI (zb (tS zb zn (tE zb zn zp)) - 97))), some (.int 0)]) dX11_readQuarry_109 (Nat.le_of_ble_eq_true rfl) rfl ?_
          refine ev_aload_n (pc := 110) dX11_readQuarry_110 rfl ?_
          refine ev_dup (pc := 111) dX11_readQuarry_111 rfl ?_
          refine ev_getI (pc := 112) dX11_readQuarry_112 fX11_146 rfl (wlt (wf_sI wg1) (by decide)) ?_
          refine ev_eqI (e' := zg1.2.1 49 31) (by rfl) ?_
          refine ev_eqI (e' := nI (zt.1 5)) hv1.2.2.2.2 ?_
          refine ev_aload_n (pc := 115) dX11_readQuarry_115 rfl ?_
          refine ev_getI (pc := 116) dX11_readQuarry_116 fX11_100 rfl (wlt (wf_sI wg1) (by decide)) ?_
          refine ev_eqI (e' := 3) (by rfl) ?_
          refine ev_if_ne (pc := 119) (tgt := 128) dX11_readQuarry_119 (by decide) (fun zc119 => ?_) (fun zc119 => absurd zc119 (show ¬ (3 : Int32) = 0 by decide))
          refine ev_iconst (pc := 128) (v := 0) dX11_readQuarry_128 (by decide) ?_
          refine ev_ior (pc := 129) dX11_readQuarry_129 ?_
          refine ev_eqI (e' := (nI (zt.1 5)) ||| 0) rfl ?_
          refine ev_putI (pc := 130) dX11_readQuarry_130 fX11_146 rfl (wlt (wf_sI wg1) (by decide)) ?_
          refine ev_eqH (h' := sI zg1 49 (upd (upd (upd (zg1.2.1 49) 3 3) 4 (zg1.2.1 49 6)) 31 ((nI (zt.1 5)) ||| 0))) (by exact sI_sI _ _ _ _) ?_
          refine ev_aload_n (pc := 133) dX11_readQuarry_133 rfl ?_
          refine ev_callV0 (S := []) (pc := 134) dX11_readQuarry_134 kX11_next lX11_137 vX11_next (cn_X11_nextW E (sI zg1 49 (upd (upd (upd (zg1.2.1 49) 3 3) 4 (zg1.2.1 49 6)) 31 ((nI (zt.1 5)) ||| 0))) (wf_sI wg1) (show (0 : Int32) < 3 by decide)) rfl rfl (wlt (wf_sI wg1) (by decide)) rfl rfl (Nat.le_of_ble_eq_true rfl) ⟨Nat.le_of_ble_eq_true rfl, Nat.le_of_ble_eq_true rfl⟩ ⟨Nat.le_of_ble_eq_true rfl, Nat.le_of_ble_eq_true rfl⟩ ?_
          refine ev_aload_n (pc := 137) dX11_readQuarry_137 rfl ?_
          refine ev_getR (pc := 138) (q := 64) dX11_readQuarry_138 fX11_56 rfl (wlt (wf_sI wg1) (by decide)) (wr (wf_sI wg1) rfl) ?_
          refine ev_iload_n (pc := 141) dX11_readQuarry_141 rfl ?_
          refine ev_aload_n (pc := 142) dX11_readQuarry_142 rfl ?_
          refine ev_iconst (pc := 143) (v := 0) dX11_readQuarry_143 (by decide) ?_
          refine ev_bipush (pc := 144) (v := 99) dX11_readQuarry_144 (by decide) ?_
          refine ev_callVv (S := [.int 0, .ref 64]) (pc := 146) dX11_readQuarry_146 kX11_number lX11_140 vX11_number (cn_X11_numberW E (sI zg1 49 (upd (upd (upd (zg1.2.1 49) 3 3) 4 (zg1.2.1 49 6)) 31 ((nI (zt.1 5)) ||| 0))) 0 99 (wf_sI wg1) (show ¬ (3 : Int32) = 0 by decide)) rfl rfl (wlt (wf_sI wg1) (by decide)) rfl rfl (Nat.le_of_ble_eq_true rfl) ⟨Nat.le_of_ble_eq_true rfl, Nat.le_of_ble_eq_true rfl⟩ ⟨Nat.le_of_ble_eq_true rfl, Nat.le_of_ble_eq_true rfl⟩ ?_
          refine ev_iast (pc := 149) dX11_readQuarry_149 rfl (wlt (wf_sI wg1) (by decide)) (vp_in_nI (n := 0) (by decide) (by decide)) ?_
          refine ev_eqH (h' := sI (sI zg1 49 (upd (upd (upd (zg1.2.1 49) 3 3) 4 (zg1.2.1 49 6)) 31 ((nI (zt.1 5)) ||| 0))) 64 (upd (zg1.2.1 64) 0 0)) (by rfl) ?_
          refine ev_aload_n (pc := 150) dX11_readQuarry_150 rfl ?_
          refine ev_callV0 (S := []) (pc := 151) dX11_readQuarry_151 kX11_next lX11_137 vX11_next (cn_X11_nextW E (sI (sI zg1 49 (upd (upd (upd (zg1.2.1 49) 3 3) 4 (zg1.2.1 49 6)) 31 ((nI (zt.1 5)) ||| 0))) 64 (upd (zg1.2.1 64) 0 0)) (wf_sI (wf_sI wg1)) (show (0 : Int32) < 3 by decide)) rfl rfl (wlt (wf_sI (wf_sI wg1)) (by decide)) rfl rfl (Nat.le_of_ble_eq_true rfl) ⟨Nat.le_of_ble_eq_true rfl, Nat.le_of_ble_eq_true rfl⟩ ⟨Nat.le_of_ble_eq_true rfl, Nat.le_of_ble_eq_true rfl⟩ ?_
          refine ev_aload_n (pc := 154) dX11_readQuarry_154 rfl ?_
          refine ev_getR (pc := 155) (q := 65) dX11_readQuarry_155 fX11_59 rfl (wlt (wf_sI (wf_sI wg1)) (by decide)) (wr (wf_sI (wf_sI wg1)) rfl) ?_
          refine ev_iload_n (pc := 158) dX11_readQuarry_158 rfl ?_
          refine ev_aload_n (pc := 159) dX11_readQuarry_159 rfl ?_
          refine ev_iconst (pc := 160) (v := 1) dX11_readQuarry_160 (by decide) ?_
          refine ev_bipush (pc := 161) (v := 99) dX11_readQuarry_161 (by decide) ?_
          refine ev_callVv (S := [.int 0, .ref 65]) (pc := 163) dX11_readQuarry_163 kX11_number lX11_140 vX11_number (cn_X11_numberW E (sI (sI zg1 49 (upd (upd (upd (zg1.2.1 49) 3 3) 4 (zg1.2.1 49 6)) 31 ((nI (zt.1 5)) ||| 0))) 64 (upd (zg1.2.1 64) 0 0)) 1 99 (wf_sI (wf_sI wg1)) (show ¬ (3 : Int32) = 0 by decide)) rfl rfl (wlt (wf_sI (wf_sI wg1)) (by decide)) rfl rfl (Nat.le_of_ble_eq_true rfl) ⟨Nat.le_of_ble_eq_true rfl, Nat.le_of_ble_eq_true rfl⟩ ⟨Nat.le_of_ble_eq_true rfl, Nat.le_of_ble_eq_true rfl⟩ ?_
          refine ev_iast (pc := 166) dX11_readQuarry_166 rfl (wlt (wf_sI (wf_sI wg1)) (by decide)) (vp_in_nI (n := 0) (by decide) (by decide)) ?_
          refine ev_eqH (h' := sI (sI (sI zg1 49 (upd (upd (upd (zg1.2.1 49) 3 3) 4 (zg1.2.1 49 6)) 31 ((nI (zt.1 5)) ||| 0))) 64 (upd (zg1.2.1 64) 0 0)) 65 (upd (zg1.2.1 65) 0 1)) (by rfl) ?_
          refine ev_aload_n (pc := 167) dX11_readQuarry_167 rfl ?_
          refine ev_callV0 (S := []) (pc := 168) dX11_readQuarry_168 kX11_next lX11_137 vX11_next (cn_X11_nextW E (sI (sI (sI zg1 49 (upd (upd (upd (zg1.2.1 49) 3 3) 4 (zg1.2.1 49 6)) 31 ((nI (zt.1 5)) ||| 0))) 64 (upd (zg1.2.1 64) 0 0)) 65 (upd (zg1.2.1 65) 0 1)) (wf_sI (wf_sI (wf_sI wg1))) (show (0 : Int32) < 3 by decide)) rfl rfl (wlt (wf_sI (wf_sI (wf_sI wg1))) (by decide)) rfl rfl (Nat.le_of_ble_eq_true rfl) ⟨Nat.le_of_ble_eq_true rfl, Nat.le_of_ble_eq_true rfl⟩ ⟨Nat.le_of_ble_eq_true rfl, Nat.le_of_ble_eq_true rfl⟩ ?_
          refine ev_ret (pc := 171) dX11_readQuarry_171 rfl ?_
          · have hB : (quaB zb zn (tE zb zn zp) zt).1 = (3, tS zb zn (tE zb zn zp)) := by
              unfold quaB
              exact (ck_0 (by exact (fk_0.mpr zK2))).trans ((ck_1 (by show ¬ (if (tE zb zn (tE zb zn zp)) = (tS zb zn (tE zb zn zp)) + 1 ∧ zb (tS zb zn (tE zb zn zp)) - 97 < 6 then 0 else 3) = 0; rw [if_neg (fun z => by first | exact zc53 (by rw [show (tE zb zn (tE zb zn zp)) - (tS zb zn (tE zb zn zp)) = 1 by omega]; rfl) | exact bI_0.mp zc65 ⟨nI_pos' (by omega), nI_le (a := zb (tS zb zn (tE zb zn zp)) - 97) (b := 5) (by omega) (by decide)⟩)]; decide)).trans (by rw [if_neg (fun z => by first | exact zc53 (by rw [show (tE zb zn (tE zb zn zp)) - (tS zb zn (tE zb zn zp)) = 1 by omega]; rfl) | exact bI_0.mp zc65 ⟨nI_pos' (by omega), nI_le (a := zb (tS zb zn (tE zb zn zp)) - 97) (b := 5) (by omega) (by decide)⟩)]))
            exact ⟨rfl, RB_bad (FrM_r (FrM_r (FrM_49 hF1 (fun zj hj => by simp only [upd]; (repeat' split) <;> first | rfl | (exfalso; unfold pFz at hj; omega))) (by decide) (by decide)) (by decide) (by decide)) hB (by decide) rfl hL1.2.1⟩
    · -- eq at 16: not taken
      refine ev_aload_n (pc := 19) dX11_readQuarry_19 rfl ?_
      refine ev_iconst (pc := 20) (v := 2) dX11_readQuarry_20 (by decide) ?_
      refine ev_callV0 (S := []) (pc := 21) dX11_readQuarry_21 kX11_fails lX11_130 vX11_fails (cn_fails0 E zg1 2 wg1 (LA_w hL1 zk1)) rfl rfl (wlt wg1 (by decide)) rfl rfl (Nat.le_of_ble_eq_true rfl) ⟨Nat.le_of_ble_eq_true rfl, Nat.le_of_ble_eq_true rfl⟩ ⟨Nat.le_of_ble_eq_true rfl, Nat.le_of_ble_eq_true rfl⟩ ?_
      refine ev_eqH (h' := sI zg1 49 (upd (upd (zg1.2.1 49) 3 2) 4 (zg1.2.1 49 6))) (by first | exact (sI_sI _ _ _ _).trans rfl | rfl) ?_
      skip
      refine ev_aload_n (pc := 24) dX11_readQuarry_24 rfl ?_
      refine ev_aload_n (pc := 25) dX11_readQuarry_25 rfl ?_
      refine ev_getI (pc := 26) dX11_readQuarry_26 fX11_103 rfl (wlt (wf_sI wg1) (by decide)) ?_
      refine ev_eqI (e' := zg1.2.1 49 6) (by rfl) ?_
      refine ev_eqI (e' := nI (tS zb zn (tE zb zn zp))) hL1.2.1 ?_
      refine ev_callVv (S := []) (pc := 29) dX11_readQuarry_29 kX11_byteAt lX11_112 vX11_byteAt (cn_byteN E (sI zg1 49 (upd (upd (zg1.2.1 49) 3 2) 4 (zg1.2.1 49 6))) zb zn (tS zb zn (tE zb zn zp)) (wf_sI wg1) hT1 (by have := (tS_ok zb hp1).2; omega)) rfl rfl (wlt (wf_sI wg1) (by decide)) rfl rfl (Nat.le_of_ble_eq_true rfl) ⟨Nat.le_of_ble_eq_true rfl, Nat.le_of_ble_eq_true rfl⟩ ⟨Nat.le_of_ble_eq_true rfl, Nat.le_of_ble_eq_true rfl⟩ ?_
      refine ev_bipush (pc := 32) (v := 97) dX11_readQuarry_32 (by decide) ?_
      refine ev_isub (pc := 34) dX11_readQuarry_34 ?_
      refine ev_eqI (e' := (bz zb zn (tS zb zn (tE zb zn zp))) - 97) rfl ?_
      refine ev_istore_n (pc := 35) (L' := [some (.ref 49), some (.int ((bz zb zn (tS zb zn (tE zb zn zp))) - 97)), none]) dX11_readQuarry_35 (Nat.le_of_ble_eq_true rfl) rfl ?_
      refine ev_aload_n (pc := 36) dX11_readQuarry_36 rfl ?_
      refine ev_getI (pc := 37) dX11_readQuarry_37 fX11_100 rfl (wlt (wf_sI wg1) (by decide)) ?_
      refine ev_eqI (e' := 2) (by rfl) ?_
      refine ev_if_ne (pc := 40) (tgt := 73) dX11_readQuarry_40 (by decide) (fun zc40 => ?_) (fun zc40 => absurd zc40 (show ¬ (2 : Int32) = 0 by decide))
      skip
      refine ev_aload_n (pc := 73) dX11_readQuarry_73 rfl ?_
      refine ev_getI (pc := 74) dX11_readQuarry_74 fX11_100 rfl (wlt (wf_sI wg1) (by decide)) ?_
      refine ev_eqI (e' := 2) (by rfl) ?_
      refine ev_if_ne (pc := 77) (tgt := 97) dX11_readQuarry_77 (by decide) (fun zc77 => ?_) (fun zc77 => absurd zc77 (show ¬ (2 : Int32) = 0 by decide))
      refine ev_aload_n (pc := 97) dX11_readQuarry_97 rfl ?_
      refine ev_getI (pc := 98) dX11_readQuarry_98 fX11_100 rfl (wlt (wf_sI wg1) (by decide)) ?_
      refine ev_eqI (e' := 2) (by rfl) ?_
      refine ev_if_ne (pc := 101) (tgt := 108) dX11_readQuarry_101 (by decide) (fun zc101 => ?_) (fun zc101 => absurd zc101 (show ¬ (2 : Int32) = 0 by decide))
      refine ev_iconst (pc := 108) (v := 0) dX11_readQuarry_108 (by decide) ?_
      refine ev_istore_n (pc := 109) (L' := [some (.ref 49), some (.int ((bz zb zn (tS zb zn (tE zb zn zp))) - 97)), some (.int 0)]) dX11_readQuarry_109 (Nat.le_of_ble_eq_true rfl) rfl ?_
      refine ev_aload_n (pc := 110) dX11_readQuarry_110 rfl ?_
      refine ev_dup (pc := 111) dX11_readQuarry_111 rfl ?_
      refine ev_getI (pc := 112) dX11_readQuarry_112 fX11_146 rfl (wlt (wf_sI wg1) (by decide)) ?_
      refine ev_eqI (e' := zg1.2.1 49 31) (by rfl) ?_
      refine ev_eqI (e' := nI (zt.1 5)) hv1.2.2.2.2 ?_
      refine ev_aload_n (pc := 115) dX11_readQuarry_115 rfl ?_
      refine ev_getI (pc := 116) dX11_readQuarry_116 fX11_100 rfl (wlt (wf_sI wg1) (by decide)) ?_
      refine ev_eqI (e' := 2) (by rfl) ?_
      refine ev_if_ne (pc := 119) (tgt := 128) dX11_readQuarry_119 (by decide) (fun zc119 => ?_) (fun zc119 => absurd zc119 (show ¬ (2 : Int32) = 0 by decide))
      refine ev_iconst (pc := 128) (v := 0) dX11_readQuarry_128 (by decide) ?_
      refine ev_ior (pc := 129) dX11_readQuarry_129 ?_
      refine ev_eqI (e' := (nI (zt.1 5)) ||| 0) rfl ?_
      refine ev_putI (pc := 130) dX11_readQuarry_130 fX11_146 rfl (wlt (wf_sI wg1) (by decide)) ?_
      refine ev_eqH (h' := sI zg1 49 (upd (upd (upd (zg1.2.1 49) 3 2) 4 (zg1.2.1 49 6)) 31 ((nI (zt.1 5)) ||| 0))) (by exact sI_sI _ _ _ _) ?_
      refine ev_aload_n (pc := 133) dX11_readQuarry_133 rfl ?_
      refine ev_callV0 (S := []) (pc := 134) dX11_readQuarry_134 kX11_next lX11_137 vX11_next (cn_X11_nextW E (sI zg1 49 (upd (upd (upd (zg1.2.1 49) 3 2) 4 (zg1.2.1 49 6)) 31 ((nI (zt.1 5)) ||| 0))) (wf_sI wg1) (show (0 : Int32) < 2 by decide)) rfl rfl (wlt (wf_sI wg1) (by decide)) rfl rfl (Nat.le_of_ble_eq_true rfl) ⟨Nat.le_of_ble_eq_true rfl, Nat.le_of_ble_eq_true rfl⟩ ⟨Nat.le_of_ble_eq_true rfl, Nat.le_of_ble_eq_true rfl⟩ ?_
      refine ev_aload_n (pc := 137) dX11_readQuarry_137 rfl ?_
      refine ev_getR (pc := 138) (q := 64) dX11_readQuarry_138 fX11_56 rfl (wlt (wf_sI wg1) (by decide)) (wr (wf_sI wg1) rfl) ?_
      refine ev_iload_n (pc := 141) dX11_readQuarry_141 rfl ?_
      refine ev_aload_n (pc := 142) dX11_readQuarry_142 rfl ?_
      refine ev_iconst (pc := 143) (v := 0) dX11_readQuarry_143 (by decide) ?_
      refine ev_bipush (pc := 144) (v := 99) dX11_readQuarry_144 (by decide) ?_
      refine ev_callVv (S := [.int 0, .ref 64]) (pc := 146) dX11_readQuarry_146 kX11_number lX11_140 vX11_number (cn_X11_numberW E (sI zg1 49 (upd (upd (upd (zg1.2.1 49) 3 2) 4 (zg1.2.1 49 6)) 31 ((nI (zt.1 5)) ||| 0))) 0 99 (wf_sI wg1) (show ¬ (2 : Int32) = 0 by decide)) rfl rfl (wlt (wf_sI wg1) (by decide)) rfl rfl (Nat.le_of_ble_eq_true rfl) ⟨Nat.le_of_ble_eq_true rfl, Nat.le_of_ble_eq_true rfl⟩ ⟨Nat.le_of_ble_eq_true rfl, Nat.le_of_ble_eq_true rfl⟩ ?_
      refine ev_iast (pc := 149) dX11_readQuarry_149 rfl (wlt (wf_sI wg1) (by decide)) (vp_in_nI (n := 0) (by decide) (by decide)) ?_
      refine ev_eqH (h' := sI (sI zg1 49 (upd (upd (upd (zg1.2.1 49) 3 2) 4 (zg1.2.1 49 6)) 31 ((nI (zt.1 5)) ||| 0))) 64 (upd (zg1.2.1 64) 0 0)) (by rfl) ?_
      refine ev_aload_n (pc := 150) dX11_readQuarry_150 rfl ?_
      refine ev_callV0 (S := []) (pc := 151) dX11_readQuarry_151 kX11_next lX11_137 vX11_next (cn_X11_nextW E (sI (sI zg1 49 (upd (upd (upd (zg1.2.1 49) 3 2) 4 (zg1.2.1 49 6)) 31 ((nI (zt.1 5)) ||| 0))) 64 (upd (zg1.2.1 64) 0 0)) (wf_sI (wf_sI wg1)) (show (0 : Int32) < 2 by decide)) rfl rfl (wlt (wf_sI (wf_sI wg1)) (by decide)) rfl rfl (Nat.le_of_ble_eq_true rfl) ⟨Nat.le_of_ble_eq_true rfl, Nat.le_of_ble_eq_true rfl⟩ ⟨Nat.le_of_ble_eq_true rfl, Nat.le_of_ble_eq_true rfl⟩ ?_
      refine ev_aload_n (pc := 154) dX11_readQuarry_154 rfl ?_
      refine ev_getR (pc := 155) (q := 65) dX11_readQuarry_155 fX11_59 rfl (wlt (wf_sI (wf_sI wg1)) (by decide)) (wr (wf_sI (wf_sI wg1)) rfl) ?_
      refine ev_iload_n (pc := 158) dX11_readQuarry_158 rfl ?_
      refine ev_aload_n (pc := 159) dX11_readQuarry_159 rfl ?_
      refine ev_iconst (pc := 160) (v := 1) dX11_readQuarry_160 (by decide) ?_
      refine ev_bipush (pc := 161) (v := 99) dX11_readQuarry_161 (by decide) ?_
      refine ev_callVv (S := [.int 0, .ref 65]) (pc := 163) dX11_readQuarry_163 kX11_number lX11_140 vX11_number (cn_X11_numberW E (sI (sI zg1 49 (upd (upd (upd (zg1.2.1 49) 3 2) 4 (zg1.2.1 49 6)) 31 ((nI (zt.1 5)) ||| 0))) 64 (upd (zg1.2.1 64) 0 0)) 1 99 (wf_sI (wf_sI wg1)) (show ¬ (2 : Int32) = 0 by decide)) rfl rfl (wlt (wf_sI (wf_sI wg1)) (by decide)) rfl rfl (Nat.le_of_ble_eq_true rfl) ⟨Nat.le_of_ble_eq_true rfl, Nat.le_of_ble_eq_true rfl⟩ ⟨Nat.le_of_ble_eq_true rfl, Nat.le_of_ble_eq_true rfl⟩ ?_
      refine ev_iast (pc := 166) dX11_readQuarry_166 rfl (wlt (wf_sI (wf_sI wg1)) (by decide)) (vp_in_nI (n := 0) (by decide) (by decide)) ?_
      refine ev_eqH (h' := sI (sI (sI zg1 49 (upd (upd (upd (zg1.2.1 49) 3 2) 4 (zg1.2.1 49 6)) 31 ((nI (zt.1 5)) ||| 0))) 64 (upd (zg1.2.1 64) 0 0)) 65 (upd (zg1.2.1 65) 0 1)) (by rfl) ?_
      refine ev_aload_n (pc := 167) dX11_readQuarry_167 rfl ?_
      refine ev_callV0 (S := []) (pc := 168) dX11_readQuarry_168 kX11_next lX11_137 vX11_next (cn_X11_nextW E (sI (sI (sI zg1 49 (upd (upd (upd (zg1.2.1 49) 3 2) 4 (zg1.2.1 49 6)) 31 ((nI (zt.1 5)) ||| 0))) 64 (upd (zg1.2.1 64) 0 0)) 65 (upd (zg1.2.1 65) 0 1)) (wf_sI (wf_sI (wf_sI wg1))) (show (0 : Int32) < 2 by decide)) rfl rfl (wlt (wf_sI (wf_sI (wf_sI wg1))) (by decide)) rfl rfl (Nat.le_of_ble_eq_true rfl) ⟨Nat.le_of_ble_eq_true rfl, Nat.le_of_ble_eq_true rfl⟩ ⟨Nat.le_of_ble_eq_true rfl, Nat.le_of_ble_eq_true rfl⟩ ?_
      refine ev_ret (pc := 171) dX11_readQuarry_171 rfl ?_
      · have hB : (quaB zb zn (tE zb zn zp) zt).1 = (2, tS zb zn (tE zb zn zp)) := by
          unfold quaB
          exact (ck_1 (by show ¬ fkK zb zn (tE zb zn zp) 2 = 0; rw [(show fkK zb zn (tE zb zn zp) 2 = 2 by unfold fkK; rw [if_neg (fun z => zc16 ((LA_3 (zk := 1) hL1 zk1 (by decide)).mpr z)), if_neg zk1])]; decide)).trans (by rw [(show fkK zb zn (tE zb zn zp) 2 = 2 by unfold fkK; rw [if_neg (fun z => zc16 ((LA_3 (zk := 1) hL1 zk1 (by decide)).mpr z)), if_neg zk1])])
        exact ⟨rfl, RB_bad (FrM_r (FrM_r (FrM_49 hF1 (fun zj hj => by simp only [upd]; (repeat' split) <;> first | rfl | (exfalso; unfold pFz at hj; omega))) (by decide) (by decide)) (by decide) (by decide)) hB (by decide) rfl hL1.2.1⟩
