theorem pat_l (zb : Nat → Nat) (zn zs zp : Nat) (zt : PSt) {zF : (Nat × Nat) × Nat × Nat} (e : ptF zb zn (zt.1 1) 13 0 zp = zF) : (lnE zb zn (patB zb zn zs zp zt)).1 = ckN (if zt.1 1 = 12 then 5 else 0, zs) (ckN zF.1 (fkK zb zn zF.2.1 4, tS zb zn zF.2.1)) := by
  subst e
  exact ck_as _ _ _
theorem pat_r (zb : Nat → Nat) (zn zs zp : Nat) (zt : PSt) {zF : (Nat × Nat) × Nat × Nat} (e : ptF zb zn (zt.1 1) 13 0 zp = zF) : (lnE zb zn (patB zb zn zs zp zt)).2 = (tE zb zn zF.2.1, ptT zt zF.2.2) := by
  subst e
  rfl
theorem pt_n3 {zb : Nat → Nat} {zn zm zf zc zp : Nat} (h : ¬ tK zb zn zp = 3) : ptF zb zn zm (zf + 1) zc zp = ((wrK zb zn zp, tS zb zn zp), zp, zc) := by rw [ptF, if_neg h]
theorem pt_b {zb : Nat → Nat} {zn zm zf zc zp : Nat} (h : tK zb zn zp = 3) (h2 : ¬ tV zb zn zp < zm) : ptF zb zn zm (zf + 1) zc zp = ((3, tS zb zn zp), zp, zc) := by rw [ptF, if_pos h, if_neg h2]
theorem pt_a {zb : Nat → Nat} {zn zm zf zc zp : Nat} (h : tK zb zn zp = 3) (h2 : tV zb zn zp < zm) (h3 : zc.testBit (tV zb zn zp) = true) : ptF zb zn zm (zf + 1) zc zp = ((4, tS zb zn zp), zp, zc) := by rw [ptF, if_pos h, if_pos h2, if_pos h3]
theorem pt_s {zb : Nat → Nat} {zn zm zf zc zp : Nat} (h : tK zb zn zp = 3) (h2 : tV zb zn zp < zm) (h3 : zc.testBit (tV zb zn zp) = false) : ptF zb zn zm (zf + 1) zc zp = ptF zb zn zm zf (zc ||| 2 ^ tV zb zn zp) (tE zb zn zp) := by rw [ptF, if_pos h, if_pos h2, if_neg (by rw [h3]; decide)]
theorem thg_iff {zt : PSt} {zv : Nat} (hO : POK zt) (hv : zv < 2000) : thg zt (nI zv) ↔ zv < zt.1 1 := by
  have z1 := wi_n (zl := 0) (zm := zt.1 1) (zv := zv) rfl (by decide) (by have := hO.1; omega) hv
  exact z1.trans ⟨fun z => z.2, fun z => ⟨Nat.zero_le _, z⟩⟩
theorem cn_tq_3 (E : ME) (h : AH) (zt : PSt) (zc : Nat) (za zd : Int32) (hw : WF h) (hS : SDz zt 3 h) (hc : zc < 6) : Con E mX8_tellQuarry 1 0 0 [.ref 3, .int (nI zc), .int za, .int zd] h (fun r h' => r = none ∧ h' = quH h 3 zc za zd (nI (zt.1 5 ||| 2 ^ zc))) := by
  have z1 := cn_X8_tellQuarry_3 E h (nI zc) za zd hw
  have hC : 0 ≤ nI zc ∧ nI zc ≤ 5 := ⟨nI_pos' (by omega), nI_le (a := zc) (b := 5) (by omega) (by decide)⟩
  have e9 : h.2.1 3 11 = nI (zt.1 5) := hS.2.2.1
  rw [if_pos hC, nI_clamp (by omega), e9, or32 (by omega)] at z1
  exact z1
theorem cn_X5_takeQuarry_3 (E : ME) (h : AH) (zb : Nat → Nat) (zn zp : Nat) (zt : PSt) (hD : RDs 3 zb zn zp zt h) (hO : POK zt) : Con E mX5_takeQuarry 5 0 0 [.ref 19] h (fun r h' => ∃ zx, r = some (.int zx) ∧ LOz 3 zb zn (lnE zb zn (quaB zb zn zp zt)) h h' zx) := by
  refine con_of2 (L := [some (.ref 19), none, none]) rfl (Nat.le_of_ble_eq_true rfl) rfl ?_
  refine ev_aload_n (pc := 0) dX5_takeQuarry_0 rfl ?_
  refine ev_iconst (pc := 1) (v := 2) dX5_takeQuarry_1 (by decide) ?_
  refine ev_callV (S := []) (pc := 2) dX5_takeQuarry_2 kX5_takeKind lX5_50 vX5_takeKind (cn_X5_takeKind E h zb zn zp 2 hD.1 (by decide)) rfl rfl (wlt hD.1.1 (by decide)) rfl rfl (Nat.le_of_ble_eq_true rfl) ⟨Nat.le_of_ble_eq_true rfl, Nat.le_of_ble_eq_true rfl⟩ ⟨Nat.le_of_ble_eq_true rfl, Nat.le_of_ble_eq_true rfl⟩ ?_
  rintro _ zg1 ⟨zx1, rfl, hR1, hN1⟩
  refine ev_if_ne (pc := 5) (tgt := 10) dX5_takeQuarry_5 (by decide) (fun zc5 => ?_) (fun zc5 => ?_)
  · -- ne at 5: taken
    have hk2 : tK zb zn zp = 2 := fk_0.mp (OU_t hR1 zc5).1
    have hP1 := (OU_t hR1 zc5).2.1
    have hpn := hD.1.2.2.2
    have hlt := (tE_ok zb hpn).2.2 (tk_2 hk2).1
    have hz := wd_b hpn hk2 (Nat.le_refl _) hlt
    have hn4 := hP1.2.1.2.1
    have hEn := (tE_ok zb hpn).2.1
    have eb : zg1.2.1 2 ((tS zb zn zp) + 0) = nI (zb (tS zb zn zp)) := by rw [Nat.add_zero, (hP1.2.1.2.2 _ (by omega)).1, sb_asc _ (by omega)]
    have el : zg1.2.1 1 3 - zg1.2.1 1 2 = nI ((tE zb zn zp) - (tS zb zn zp)) := by rw [hP1.2.2.1, hN1 hk2, pk_sub (by omega)]
    have e11 : zg1.2.1 3 11 = nI (zt.1 5) := (SD_T (by decide : (3 : Nat) = 3 ∨ 3 = 11) hR1.1 hD.2.2).2.2.1
    refine ev_aload_n (pc := 10) dX5_takeQuarry_10 rfl ?_
    refine ev_getR (pc := 11) (q := 1) dX5_takeQuarry_11 fX5_9 rfl (wlt (FrT_w hR1.1 hD.1.1) (by decide)) (wr (FrT_w hR1.1 hD.1.1) rfl) ?_
    refine ev_iconst (pc := 14) (v := 0) dX5_takeQuarry_14 (by decide) ?_
    refine ev_callVv (S := []) (pc := 15) dX5_takeQuarry_15 kX9_tokenByte lX5_128 vX9_tokenByte (cn_X9_tokenByte E zg1 (tS zb zn zp) (tE zb zn zp) zn 0 hP1.1 (hN1 hk2) hP1.2.2.1 hP1.2.1.1 hP1.2.2.2 hP1.2.1.2.1 (by omega)) rfl rfl (wlt (FrT_w hR1.1 hD.1.1) (by decide)) rfl rfl (Nat.le_of_ble_eq_true rfl) ⟨Nat.le_of_ble_eq_true rfl, Nat.le_of_ble_eq_true rfl⟩ ⟨Nat.le_of_ble_eq_true rfl, Nat.le_of_ble_eq_true rfl⟩ ?_
    refine ev_eqI (e' := nI (zb (tS zb zn zp))) eb ?_
    refine ev_bipush (pc := 18) (v := 97) dX5_takeQuarry_18 (by decide) ?_
    refine ev_isub (pc := 20) dX5_takeQuarry_20 ?_
    refine ev_eqI (e' := nI (zb (tS zb zn zp) - 97)) (pk_sub hz.1) ?_
    refine ev_istore_n (pc := 21) (L' := [some (.ref 19), some (.int (nI (zb (tS zb zn zp) - 97))), none]) dX5_takeQuarry_21 (Nat.le_of_ble_eq_true rfl) rfl ?_
    refine ev_aload_n (pc := 22) dX5_takeQuarry_22 rfl ?_
    refine ev_getR (pc := 23) (q := 1) dX5_takeQuarry_23 fX5_9 rfl (wlt (FrT_w hR1.1 hD.1.1) (by decide)) (wr (FrT_w hR1.1 hD.1.1) rfl) ?_
    refine ev_callVv (S := []) (pc := 26) dX5_takeQuarry_26 kX9_tokenLength lX5_132 vX9_tokenLength (cn_X9_tokenLength E zg1 hP1.1) rfl rfl (wlt (FrT_w hR1.1 hD.1.1) (by decide)) rfl rfl (Nat.le_of_ble_eq_true rfl) ⟨Nat.le_of_ble_eq_true rfl, Nat.le_of_ble_eq_true rfl⟩ ⟨Nat.le_of_ble_eq_true rfl, Nat.le_of_ble_eq_true rfl⟩ ?_
    refine ev_eqI (e' := nI ((tE zb zn zp) - (tS zb zn zp))) el ?_
    refine ev_iconst (pc := 29) (v := 1) dX5_takeQuarry_29 (by decide) ?_
    refine ev_icmp_ne (pc := 30) (tgt := 42) dX5_takeQuarry_30 (by decide) (fun zc30 => ?_) (fun zc30 => ?_)
    · -- ne at 30: taken
      refine ev_aload_n (pc := 42) dX5_takeQuarry_42 rfl ?_
      refine ev_iconst (pc := 43) (v := 3) dX5_takeQuarry_43 (by decide) ?_
      refine ev_callVv (S := []) (pc := 44) dX5_takeQuarry_44 kX5_refuse lX5_40 vX5_refuse (cn_X5_refuse E zg1 3 (FrT_w hR1.1 hD.1.1)) rfl rfl (wlt (FrT_w hR1.1 hD.1.1) (by decide)) rfl rfl (Nat.le_of_ble_eq_true rfl) ⟨Nat.le_of_ble_eq_true rfl, Nat.le_of_ble_eq_true rfl⟩ ⟨Nat.le_of_ble_eq_true rfl, Nat.le_of_ble_eq_true rfl⟩ ?_
      refine ev_eqH (h' := (rfH zg1 3)) rfl ?_
      refine ev_iret (pc := 47) dX5_takeQuarry_47 rfl ?_ ?_
      · first | rfl | exact nar_bI _ | (simp only [*]; exact nar_bI _) | (simp [narrow, *]; done)
      · have hG : ¬ (tE zb zn zp = tS zb zn zp + 1 ∧ zb (tS zb zn zp) - 97 < 6) := fun z => by have z1 := z.1; exact zc30 ((nI_eq (b := 1) (by omega) (by decide)).mpr (by omega))
        exact ⟨0, rfl, LO_bad (FrD_t (FrD_T hR1.1) (FrD_T (rf_fr _ _))) ((qua_l zb zn zp zt).trans ((ck_0 (OU_t hR1 zc5).1).trans (ck_1 (show ¬ (if tE zb zn zp = tS zb zn zp + 1 ∧ zb (tS zb zn zp) - 97 < 6 then 0 else 3) = 0 by rw [if_neg hG]; decide)))) (by rw [if_neg hG]; decide) (show (3 : Int32) = nI (if tE zb zn zp = tS zb zn zp + 1 ∧ zb (tS zb zn zp) - 97 < 6 then 0 else 3) by rw [if_neg hG]; rfl) (hN1 hk2)⟩
    · -- ne at 30: not taken
      refine ev_iload_n (pc := 33) dX5_takeQuarry_33 rfl ?_
      refine ev_iconst (pc := 34) (v := 0) dX5_takeQuarry_34 (by decide) ?_
      refine ev_iconst (pc := 35) (v := 5) dX5_takeQuarry_35 (by decide) ?_
      refine ev_callSv (S := []) (pc := 36) dX5_takeQuarry_36 kX10_within lX5_59 sX10_within (cn_X10_within E zg1 (nI (zb (tS zb zn zp) - 97)) 0 5) rfl rfl (Nat.le_of_ble_eq_true rfl) ⟨Nat.le_of_ble_eq_true rfl, Nat.le_of_ble_eq_true rfl⟩ ⟨Nat.le_of_ble_eq_true rfl, Nat.le_of_ble_eq_true rfl⟩ ?_
      refine ev_if_ne (pc := 39) (tgt := 48) dX5_takeQuarry_39 (by decide) (fun zc39 => ?_) (fun zc39 => ?_)
      · -- ne at 39: taken
        have hc6 : (zb (tS zb zn zp) - 97) < 6 := ((wi_n (zl := 0) (zm := 6) (zv := (zb (tS zb zn zp) - 97)) (by decide) (by decide) (by decide) (by omega)).mp (bI_n0.mp zc39)).2
        have hG : tE zb zn zp = tS zb zn zp + 1 ∧ zb (tS zb zn zp) - 97 < 6 := ⟨by have z1 := (nI_eq (b := 1) (by omega) (by decide)).mp zc30; omega, hc6⟩
        refine ev_aload_n (pc := 48) dX5_takeQuarry_48 rfl ?_
        refine ev_getR (pc := 49) (q := 3) dX5_takeQuarry_49 fX5_15 rfl (wlt (FrT_w hR1.1 hD.1.1) (by decide)) (show zg1.2.2.2 19 1 = some 3 by rw [hR1.1.2.1]; exact hD.2.1) ?_
        refine ev_iload_n (pc := 52) dX5_takeQuarry_52 rfl ?_
        refine ev_callVv (S := []) (pc := 53) dX5_takeQuarry_53 kX8_quarryIsTold lX5_135 vX8_quarryIsTold (cn_X8_quarryIsTold_3 E zg1 (nI (zb (tS zb zn zp) - 97)) hP1.1) rfl rfl (wlt (FrT_w hR1.1 hD.1.1) (by decide)) rfl rfl (Nat.le_of_ble_eq_true rfl) ⟨Nat.le_of_ble_eq_true rfl, Nat.le_of_ble_eq_true rfl⟩ ⟨Nat.le_of_ble_eq_true rfl, Nat.le_of_ble_eq_true rfl⟩ ?_
        refine ev_if_eq (pc := 56) (tgt := 65) dX5_takeQuarry_56 (by decide) (fun zc56 => ?_) (fun zc56 => ?_)
        · -- eq at 56: taken
          have hb : ¬ (zt.1 5).testBit (zb (tS zb zn zp) - 97) = true := fun z => by rw [e11] at zc56; exact bI_0.mp zc56 ((has_b (by omega)).mpr z)
          refine ev_aload_n (pc := 65) dX5_takeQuarry_65 rfl ?_
          refine ev_iconst (pc := 66) (v := 0) dX5_takeQuarry_66 (by decide) ?_
          refine ev_bipush (pc := 67) (v := 99) dX5_takeQuarry_67 (by decide) ?_
          refine ev_callV (S := []) (pc := 69) dX5_takeQuarry_69 kX5_takeNumber lX5_101 vX5_takeNumber (cn_X5_takeNumber E zg1 zb zn (tE zb zn zp) 0 100 99 hP1 (by decide) (by decide) (by decide)) rfl rfl (wlt (FrT_w hR1.1 hD.1.1) (by decide)) rfl rfl (Nat.le_of_ble_eq_true rfl) ⟨Nat.le_of_ble_eq_true rfl, Nat.le_of_ble_eq_true rfl⟩ ⟨Nat.le_of_ble_eq_true rfl, Nat.le_of_ble_eq_true rfl⟩ ?_
          rintro _ zg2 ⟨zx2, rfl, hR2, hN2⟩
          refine ev_if_ne (pc := 72) (tgt := 77) dX5_takeQuarry_72 (by decide) (fun zc72 => ?_) (fun zc72 => ?_)
          · -- ne at 72: taken
            refine ev_aload_n (pc := 77) dX5_takeQuarry_77 rfl ?_
            refine ev_getI (pc := 78) dX5_takeQuarry_78 fX5_56 rfl (wlt (FrT_w hR2.1 hP1.1) (by decide)) ?_
            refine ev_eqI (e' := nI (tV zb zn (tE zb zn zp))) (hN2 (OU_t hR2 zc72).1).1 ?_
            refine ev_istore_n (pc := 81) (L' := [some (.ref 19), some (.int (nI (zb (tS zb zn zp) - 97))), some (.int (nI (tV zb zn (tE zb zn zp))))]) dX5_takeQuarry_81 (Nat.le_of_ble_eq_true rfl) rfl ?_
            refine ev_aload_n (pc := 82) dX5_takeQuarry_82 rfl ?_
            refine ev_iconst (pc := 83) (v := 1) dX5_takeQuarry_83 (by decide) ?_
            refine ev_bipush (pc := 84) (v := 99) dX5_takeQuarry_84 (by decide) ?_
            refine ev_callV (S := []) (pc := 86) dX5_takeQuarry_86 kX5_takeNumber lX5_101 vX5_takeNumber (cn_X5_takeNumber E zg2 zb zn (tE zb zn (tE zb zn zp)) 1 100 99 (OU_t hR2 zc72).2.1 (by decide) (by decide) (by decide)) rfl rfl (wlt (FrT_w hR2.1 hP1.1) (by decide)) rfl rfl (Nat.le_of_ble_eq_true rfl) ⟨Nat.le_of_ble_eq_true rfl, Nat.le_of_ble_eq_true rfl⟩ ⟨Nat.le_of_ble_eq_true rfl, Nat.le_of_ble_eq_true rfl⟩ ?_
            rintro _ zg3 ⟨zx3, rfl, hR3, hN3⟩
            refine ev_if_ne (pc := 89) (tgt := 94) dX5_takeQuarry_89 (by decide) (fun zc89 => ?_) (fun zc89 => ?_)
            · -- ne at 89: taken
              refine ev_aload_n (pc := 94) dX5_takeQuarry_94 rfl ?_
              refine ev_getR (pc := 95) (q := 3) dX5_takeQuarry_95 fX5_15 rfl (wlt (FrT_w hR3.1 (OU_t hR2 zc72).2.1.1) (by decide)) (show zg3.2.2.2 19 1 = some 3 by rw [hR3.1.2.1, hR2.1.2.1, hR1.1.2.1]; exact hD.2.1) ?_
              refine ev_iload_n (pc := 98) dX5_takeQuarry_98 rfl ?_
              refine ev_iload_n (pc := 99) dX5_takeQuarry_99 rfl ?_
              refine ev_aload_n (pc := 100) dX5_takeQuarry_100 rfl ?_
              refine ev_getI (pc := 101) dX5_takeQuarry_101 fX5_56 rfl (wlt (FrT_w hR3.1 (OU_t hR2 zc72).2.1.1) (by decide)) ?_
              refine ev_eqI (e' := nI (tV zb zn (tE zb zn (tE zb zn zp)))) (hN3 (OU_t hR3 zc89).1).1 ?_
              refine ev_callV0 (S := []) (pc := 104) dX5_takeQuarry_104 kX8_tellQuarry lX5_138 vX8_tellQuarry (cn_tq_3 E zg3 zt (zb (tS zb zn zp) - 97) (nI (tV zb zn (tE zb zn zp))) (nI (tV zb zn (tE zb zn (tE zb zn zp)))) (FrT_w hR3.1 (OU_t hR2 zc72).2.1.1) (SD_T (by decide : (3 : Nat) = 3 ∨ 3 = 11) hR3.1 (SD_T (by decide : (3 : Nat) = 3 ∨ 3 = 11) hR2.1 (SD_T (by decide : (3 : Nat) = 3 ∨ 3 = 11) hR1.1 hD.2.2))) hc6) rfl rfl (wlt (FrT_w hR3.1 (OU_t hR2 zc72).2.1.1) (by decide)) rfl rfl (Nat.le_of_ble_eq_true rfl) ⟨Nat.le_of_ble_eq_true rfl, Nat.le_of_ble_eq_true rfl⟩ ⟨Nat.le_of_ble_eq_true rfl, Nat.le_of_ble_eq_true rfl⟩ ?_
              refine ev_eqH (h' := (quH zg3 3 (zb (tS zb zn zp) - 97) (nI (tV zb zn (tE zb zn zp))) (nI (tV zb zn (tE zb zn (tE zb zn zp)))) (nI (zt.1 5 ||| 2 ^ (zb (tS zb zn zp) - 97))))) rfl ?_
              have hPk : TPz zb zn (tE zb zn (tE zb zn (tE zb zn zp))) (quH zg3 3 (zb (tS zb zn zp) - 97) (nI (tV zb zn (tE zb zn zp))) (nI (tV zb zn (tE zb zn (tE zb zn zp)))) (nI (zt.1 5 ||| 2 ^ (zb (tS zb zn zp) - 97)))) := ⟨FrD_w (qu_fr zg3 _ _ _ _ (by decide : (3 : Nat) = 3 ∨ 3 = 11)) (OU_t hR3 zc89).2.1.1, FrD_C (by decide : (3 : Nat) = 3 ∨ 3 = 11) (qu_fr zg3 _ _ _ _ (by decide : (3 : Nat) = 3 ∨ 3 = 11)) (OU_t hR3 zc89).2.1.2.1, (OU_t hR3 zc89).2.1.2.2⟩
              refine ev_aload_n (pc := 107) dX5_takeQuarry_107 rfl ?_
              refine ev_iconst (pc := 108) (v := 4) dX5_takeQuarry_108 (by decide) ?_
              refine ev_callV (S := []) (pc := 109) dX5_takeQuarry_109 kX5_takeKind lX5_50 vX5_takeKind (cn_X5_takeKind E (quH zg3 3 (zb (tS zb zn zp) - 97) (nI (tV zb zn (tE zb zn zp))) (nI (tV zb zn (tE zb zn (tE zb zn zp)))) (nI (zt.1 5 ||| 2 ^ (zb (tS zb zn zp) - 97)))) zb zn (tE zb zn (tE zb zn (tE zb zn zp))) 4 hPk (by decide)) rfl rfl (wlt (FrD_w (qu_fr zg3 _ _ _ _ (by decide : (3 : Nat) = 3 ∨ 3 = 11)) (OU_t hR3 zc89).2.1.1) (by decide)) rfl rfl (Nat.le_of_ble_eq_true rfl) ⟨Nat.le_of_ble_eq_true rfl, Nat.le_of_ble_eq_true rfl⟩ ⟨Nat.le_of_ble_eq_true rfl, Nat.le_of_ble_eq_true rfl⟩ ?_
              rintro _ zg4 ⟨zx4, rfl, hR4, hN4⟩
              refine ev_iret (pc := 112) dX5_takeQuarry_112 rfl ?_ ?_
              · exact nar_01 (OU_01 hR4)
              · refine ⟨zx4, rfl, LO_last (by decide : (3 : Nat) = 3 ∨ 3 = 11) (FrD_t (FrD_T (FrT_t (FrT_t hR1.1 hR2.1) hR3.1)) (qu_fr zg3 _ _ _ _ (by decide : (3 : Nat) = 3 ∨ 3 = 11))) ((OU_t hR3 zc89).2.2.trans ((OU_t hR2 zc72).2.2.trans (OU_t hR1 zc5).2.2)) (show zg3.2.2.2 19 1 = some 3 by rw [hR3.1.2.1, hR2.1.2.1, hR1.1.2.1]; exact hD.2.1) (SD_qua (zc := (zb (tS zb zn zp) - 97)) (za := (tV zb zn (tE zb zn zp))) (zd := (tV zb zn (tE zb zn (tE zb zn zp)))) (SD_T (by decide : (3 : Nat) = 3 ∨ 3 = 11) hR3.1 (SD_T (by decide : (3 : Nat) = 3 ∨ 3 = 11) hR2.1 (SD_T (by decide : (3 : Nat) = 3 ∨ 3 = 11) hR1.1 hD.2.2)))) ((qua_l zb zn zp zt).trans ((ck_0 (OU_t hR1 zc5).1).trans ((ck_0 (if_pos hG)).trans ((ck_0 (if_neg hb)).trans ((ck_0 (OU_t hR2 zc72).1).trans (ck_0 (OU_t hR3 zc89).1)))))) hR4⟩
            · -- ne at 89: not taken
              refine ev_iconst (pc := 92) (v := 0) dX5_takeQuarry_92 (by decide) ?_
              refine ev_iret (pc := 93) dX5_takeQuarry_93 rfl ?_ ?_
              · first | rfl | exact nar_bI _ | (simp only [*]; exact nar_bI _) | (simp [narrow, *]; done)
              · have zz := OU_f hR3 zc89
                exact ⟨0, rfl, LO_bad (FrD_T (FrT_t (FrT_t hR1.1 hR2.1) hR3.1)) ((qua_l zb zn zp zt).trans ((ck_0 (OU_t hR1 zc5).1).trans ((ck_0 (if_pos hG)).trans ((ck_0 (if_neg hb)).trans ((ck_0 (OU_t hR2 zc72).1).trans (ck_1 zz.1)))))) zz.1 zz.2.1 zz.2.2⟩
          · -- ne at 72: not taken
            refine ev_iconst (pc := 75) (v := 0) dX5_takeQuarry_75 (by decide) ?_
            refine ev_iret (pc := 76) dX5_takeQuarry_76 rfl ?_ ?_
            · first | rfl | exact nar_bI _ | (simp only [*]; exact nar_bI _) | (simp [narrow, *]; done)
            · have zz := OU_f hR2 zc72
              exact ⟨0, rfl, LO_bad (FrD_T (FrT_t hR1.1 hR2.1)) ((qua_l zb zn zp zt).trans ((ck_0 (OU_t hR1 zc5).1).trans ((ck_0 (if_pos hG)).trans ((ck_0 (if_neg hb)).trans (ck_1 zz.1))))) zz.1 zz.2.1 zz.2.2⟩
        · -- eq at 56: not taken
          refine ev_aload_n (pc := 59) dX5_takeQuarry_59 rfl ?_
          refine ev_iconst (pc := 60) (v := 4) dX5_takeQuarry_60 (by decide) ?_
          refine ev_callVv (S := []) (pc := 61) dX5_takeQuarry_61 kX5_refuse lX5_40 vX5_refuse (cn_X5_refuse E zg1 4 (FrT_w hR1.1 hD.1.1)) rfl rfl (wlt (FrT_w hR1.1 hD.1.1) (by decide)) rfl rfl (Nat.le_of_ble_eq_true rfl) ⟨Nat.le_of_ble_eq_true rfl, Nat.le_of_ble_eq_true rfl⟩ ⟨Nat.le_of_ble_eq_true rfl, Nat.le_of_ble_eq_true rfl⟩ ?_
          refine ev_eqH (h' := (rfH zg1 4)) rfl ?_
          refine ev_iret (pc := 64) dX5_takeQuarry_64 rfl ?_ ?_
          · first | rfl | exact nar_bI _ | (simp only [*]; exact nar_bI _) | (simp [narrow, *]; done)
          · have hb : (zt.1 5).testBit (zb (tS zb zn zp) - 97) = true := by rw [e11] at zc56; exact (has_b (by omega)).mp (bI_n0.mp zc56)
            exact ⟨0, rfl, LO_bad (FrD_t (FrD_T hR1.1) (FrD_T (rf_fr _ _))) ((qua_l zb zn zp zt).trans ((ck_0 (OU_t hR1 zc5).1).trans ((ck_0 (if_pos hG)).trans (ck_1 (show ¬ (if (zt.1 5).testBit (zb (tS zb zn zp) - 97) then 4 else 0) = 0 by rw [if_pos hb]; decide))))) (by rw [if_pos hb]; decide) (show (4 : Int32) = nI (if (zt.1 5).testBit (zb (tS zb zn zp) - 97) then 4 else 0) by rw [if_pos hb]; rfl) (hN1 hk2)⟩
      · -- ne at 39: not taken
        refine ev_aload_n (pc := 42) dX5_takeQuarry_42 rfl ?_
        refine ev_iconst (pc := 43) (v := 3) dX5_takeQuarry_43 (by decide) ?_
        refine ev_callVv (S := []) (pc := 44) dX5_takeQuarry_44 kX5_refuse lX5_40 vX5_refuse (cn_X5_refuse E zg1 3 (FrT_w hR1.1 hD.1.1)) rfl rfl (wlt (FrT_w hR1.1 hD.1.1) (by decide)) rfl rfl (Nat.le_of_ble_eq_true rfl) ⟨Nat.le_of_ble_eq_true rfl, Nat.le_of_ble_eq_true rfl⟩ ⟨Nat.le_of_ble_eq_true rfl, Nat.le_of_ble_eq_true rfl⟩ ?_
        refine ev_eqH (h' := (rfH zg1 3)) rfl ?_
        refine ev_iret (pc := 47) dX5_takeQuarry_47 rfl ?_ ?_
        · first | rfl | exact nar_bI _ | (simp only [*]; exact nar_bI _) | (simp [narrow, *]; done)
        · have hG : ¬ (tE zb zn zp = tS zb zn zp + 1 ∧ zb (tS zb zn zp) - 97 < 6) := fun z => bI_0.mp zc39 ((wi_n (zl := 0) (zm := 6) (zv := (zb (tS zb zn zp) - 97)) (by decide) (by decide) (by decide) (by omega)).mpr ⟨Nat.zero_le _, z.2⟩)
          exact ⟨0, rfl, LO_bad (FrD_t (FrD_T hR1.1) (FrD_T (rf_fr _ _))) ((qua_l zb zn zp zt).trans ((ck_0 (OU_t hR1 zc5).1).trans (ck_1 (show ¬ (if tE zb zn zp = tS zb zn zp + 1 ∧ zb (tS zb zn zp) - 97 < 6 then 0 else 3) = 0 by rw [if_neg hG]; decide)))) (by rw [if_neg hG]; decide) (show (3 : Int32) = nI (if tE zb zn zp = tS zb zn zp + 1 ∧ zb (tS zb zn zp) - 97 < 6 then 0 else 3) by rw [if_neg hG]; rfl) (hN1 hk2)⟩
  · -- ne at 5: not taken
    refine ev_iconst (pc := 8) (v := 0) dX5_takeQuarry_8 (by decide) ?_
    refine ev_iret (pc := 9) dX5_takeQuarry_9 rfl ?_ ?_
    · first | rfl | exact nar_bI _ | (simp only [*]; exact nar_bI _) | (simp [narrow, *]; done)
    · have zz := OU_f hR1 zc5
      exact ⟨0, rfl, LO_bad (FrD_T hR1.1) ((qua_l zb zn zp zt).trans (ck_1 zz.1)) zz.1 zz.2.1 zz.2.2⟩
theorem lp_cpatch_3 (E : ME) (h : AH) (zb : Nat → Nat) (zn zs zq : Nat) (zt : PSt) (hr0 : h.2.2.2 19 1 = some 3) (hS0 : SDz zt 3 h) (hO : POK zt) (hm : zt.1 1 < 12) : ∀ (zf zc zp zi : Nat) (zg : AH), TPz zb zn zp zg → FrT h zg → zg.2.1 19 3 = h.2.1 19 3 → fb_ct zc.testBit (zt.1 1) + zf = 13 → zi + zf = 13 → ptF zb zn (zt.1 1) zf zc zp = ptF zb zn (zt.1 1) 13 0 zq → Ev E mX5_takePatch (rmm 5 0 0) (QM E 0 0 (fun r h' => ∃ zx, r = some (.int zx) ∧ LOz 3 zb zn (lnE zb zn (patB zb zn zs zq zt)) h h' zx)) 0 0 22 [some (.ref 19), some (.int (nI zc)), some (.int (nI zi)), none, none] [] zg := by
  intro zf
  induction zf with
  | zero =>
    intro zc zp zi zg hP hF h3 hct hi e
    have z1 := fb_ct_le zc.testBit (zt.1 1)
    omega
  | succ zf ih =>
    intro zc zp zi zg hP hF h3 hct hi e
    have z1 := fb_ct_le zc.testBit (zt.1 1)
    have hPs := sc_tp hP
    have hSg : SDz zt 3 (scH zg zb zn zp) := SD_T (by decide : (3 : Nat) = 3 ∨ 3 = 11) (FrT_t hF (sc_fr zg zb zn zp)) hS0
    have hzi : zi ≤ 12 := by omega
    refine ev_iload_n (pc := 22) dX5_takePatch_22 rfl ?_
    refine ev_bipush (pc := 23) (v := 12) dX5_takePatch_23 (by decide) ?_
    refine ev_icmp_gt (pc := 25) (tgt := 117) dX5_takePatch_25 (by decide) (fun zc25 => absurd zc25 (nI_nlt (a := 12) (b := zi) hzi (by decide))) (fun zc25 => ?_)
    refine ev_aload_n (pc := 28) dX5_takePatch_28 rfl ?_
    refine ev_getR (pc := 29) (q := 1) dX5_takePatch_29 fX5_9 rfl (wlt hP.1 (by decide)) (wr hP.1 rfl) ?_
    refine ev_callVv (S := []) (pc := 32) dX5_takePatch_32 kX9_scan lX5_44 vX9_scan (cn_X9_scan E zg zb zn zp hP.1 hP.2.1 hP.2.2.2 hP.2.2.1) rfl rfl (wlt hP.1 (by decide)) rfl rfl (Nat.le_of_ble_eq_true rfl) ⟨Nat.le_of_ble_eq_true rfl, Nat.le_of_ble_eq_true rfl⟩ ⟨Nat.le_of_ble_eq_true rfl, Nat.le_of_ble_eq_true rfl⟩ ?_
    refine ev_eqH (h' := (scH zg zb zn zp)) rfl ?_
    refine ev_istore_n (pc := 35) (L' := [some (.ref 19), some (.int (nI zc)), some (.int (nI zi)), some (.int (nI (tK zb zn zp))), none]) dX5_takePatch_35 (Nat.le_of_ble_eq_true rfl) rfl ?_
    refine ev_iload_n (pc := 36) dX5_takePatch_36 rfl ?_
    refine ev_iconst (pc := 37) (v := 4) dX5_takePatch_37 (by decide) ?_
    refine ev_icmp_ne (pc := 38) (tgt := 51) dX5_takePatch_38 (by decide) (fun zc38 => ?_) (fun zc38 => ?_)
    · -- ne at 38: taken
      refine ev_iload_n (pc := 51) dX5_takePatch_51 rfl ?_
      refine ev_iconst (pc := 52) (v := 3) dX5_takePatch_52 (by decide) ?_
      refine ev_icmp_eq (pc := 53) (tgt := 62) dX5_takePatch_53 (by decide) (fun zc53 => ?_) (fun zc53 => ?_)
      · -- eq at 53: taken
        have hk3 : tK zb zn zp = 3 := (nI_eq (by have := tK_4 zb zn zp; omega) (by decide)).mp zc53
        have hv1 := tV_bd hP.2.2.2 hk3
        refine ev_aload_n (pc := 62) dX5_takePatch_62 rfl ?_
        refine ev_getR (pc := 63) (q := 1) dX5_takePatch_63 fX5_9 rfl (wlt (FrT_w (sc_fr zg zb zn zp) hP.1) (by decide)) (wr (FrT_w (sc_fr zg zb zn zp) hP.1) rfl) ?_
        refine ev_callVv (S := []) (pc := 66) dX5_takePatch_66 kX9_tokenNumber lX5_53 vX9_tokenNumber (cn_X9_tokenNumber E (scH zg zb zn zp) (tS zb zn zp) (tE zb zn zp) zn hPs.1 rfl rfl hPs.2.1.1 hPs.2.2.2 hPs.2.1.2.1 (tE_ok zb hP.2.2.2).1) rfl rfl (wlt (FrT_w (sc_fr zg zb zn zp) hP.1) (by decide)) rfl rfl (Nat.le_of_ble_eq_true rfl) ⟨Nat.le_of_ble_eq_true rfl, Nat.le_of_ble_eq_true rfl⟩ ⟨Nat.le_of_ble_eq_true rfl, Nat.le_of_ble_eq_true rfl⟩ ?_
        refine ev_eqI (e' := nI (tV zb zn zp)) (tV_tn hPs.2.1 hP.2.2.2 hk3) ?_
        refine ev_istore (pc := 69) (L' := [some (.ref 19), some (.int (nI zc)), some (.int (nI zi)), some (.int (nI (tK zb zn zp))), some (.int (nI (tV zb zn zp)))]) dX5_takePatch_69 (Nat.le_of_ble_eq_true rfl) rfl ?_
        refine ev_aload_n (pc := 71) dX5_takePatch_71 rfl ?_
        refine ev_getR (pc := 72) (q := 3) dX5_takePatch_72 fX5_15 rfl (wlt (FrT_w (sc_fr zg zb zn zp) hP.1) (by decide)) (show zg.2.2.2 19 1 = some 3 by rw [hF.2.1]; exact hr0) ?_
        refine ev_iload (pc := 75) dX5_takePatch_75 rfl ?_
        refine ev_callVv (S := []) (pc := 77) dX5_takePatch_77 kX8_hasThing lX5_113 vX8_hasThing (cn_X8_hasThing_3 E (scH zg zb zn zp) zt (nI (tV zb zn zp)) hPs.1 hSg.1 hO) rfl rfl (wlt (FrT_w (sc_fr zg zb zn zp) hP.1) (by decide)) rfl rfl (Nat.le_of_ble_eq_true rfl) ⟨Nat.le_of_ble_eq_true rfl, Nat.le_of_ble_eq_true rfl⟩ ⟨Nat.le_of_ble_eq_true rfl, Nat.le_of_ble_eq_true rfl⟩ ?_
        refine ev_if_ne (pc := 80) (tgt := 89) dX5_takePatch_80 (by decide) (fun zc80 => ?_) (fun zc80 => ?_)
        · -- ne at 80: taken
          have hvm : tV zb zn zp < zt.1 1 := (thg_iff hO (by omega)).mp (bI_n0.mp zc80)
          refine ev_iload_n (pc := 89) dX5_takePatch_89 rfl ?_
          refine ev_iload (pc := 90) dX5_takePatch_90 rfl ?_
          refine ev_callSv (S := []) (pc := 92) dX5_takePatch_92 kX10_has lX5_116 sX10_has (cn_X10_has E (scH zg zb zn zp) (nI zc) (nI (tV zb zn zp))) rfl rfl (Nat.le_of_ble_eq_true rfl) ⟨Nat.le_of_ble_eq_true rfl, Nat.le_of_ble_eq_true rfl⟩ ⟨Nat.le_of_ble_eq_true rfl, Nat.le_of_ble_eq_true rfl⟩ ?_
          refine ev_if_eq (pc := 95) (tgt := 104) dX5_takePatch_95 (by decide) (fun zc95 => ?_) (fun zc95 => ?_)
          · -- eq at 95: taken
            refine ev_iload_n (pc := 104) dX5_takePatch_104 rfl ?_
            refine ev_iconst (pc := 105) (v := 1) dX5_takePatch_105 (by decide) ?_
            refine ev_iload (pc := 106) dX5_takePatch_106 rfl ?_
            refine ev_ishl (pc := 108) dX5_takePatch_108 ?_
            refine ev_ior (pc := 109) dX5_takePatch_109 ?_
            refine ev_eqI (e' := nI (zc ||| 2 ^ tV zb zn zp)) (or32 (by omega)) ?_
            refine ev_istore_n (pc := 110) (L' := [some (.ref 19), some (.int (nI (zc ||| 2 ^ tV zb zn zp))), some (.int (nI zi)), some (.int (nI (tK zb zn zp))), some (.int (nI (tV zb zn zp)))]) dX5_takePatch_110 (Nat.le_of_ble_eq_true rfl) rfl ?_
            refine ev_iinc (pc := 111) (v := nI (zi + 1)) (L' := [some (.ref 19), some (.int (nI (zc ||| 2 ^ tV zb zn zp))), some (.int (nI (zi + 1))), some (.int (nI (tK zb zn zp))), some (.int (nI (tV zb zn zp)))]) dX5_takePatch_111 rfl (nI_1 _) (Nat.le_of_ble_eq_true rfl) rfl ?_
            refine ev_goto (pc := 114) (tgt := 22) dX5_takePatch_114 (by decide) ?_
            refine ev_less (L' := [some (.ref 19), some (.int (nI (zc ||| 2 ^ tV zb zn zp))), some (.int (nI (zi + 1))), none, none]) (ls_keep (ls_keep (ls_keep (ls_drop (ls_drop (ls_nil _)))))) ?_
            have hb : zc.testBit (tV zb zn zp) = false := by
              cases z : zc.testBit (tV zb zn zp) with
              | false => rfl
              | true => exact absurd zc95 (fun z1 => bI_0.mp z1 ((has_b (by omega)).mpr z))
            exact ih (zc ||| 2 ^ tV zb zn zp) (tE zb zn zp) (zi + 1) (scH zg zb zn zp) hPs (FrT_t hF (sc_fr zg zb zn zp)) h3 (by rw [pt_ct hvm hb]; omega) (by omega) ((pt_s hk3 hvm hb).symm.trans e)
          · -- eq at 95: not taken
            refine ev_aload_n (pc := 98) dX5_takePatch_98 rfl ?_
            refine ev_iconst (pc := 99) (v := 4) dX5_takePatch_99 (by decide) ?_
            refine ev_callVv (S := []) (pc := 100) dX5_takePatch_100 kX5_refuse lX5_40 vX5_refuse (cn_X5_refuse E (scH zg zb zn zp) 4 hPs.1) rfl rfl (wlt (FrT_w (sc_fr zg zb zn zp) hP.1) (by decide)) rfl rfl (Nat.le_of_ble_eq_true rfl) ⟨Nat.le_of_ble_eq_true rfl, Nat.le_of_ble_eq_true rfl⟩ ⟨Nat.le_of_ble_eq_true rfl, Nat.le_of_ble_eq_true rfl⟩ ?_
            refine ev_eqH (h' := (rfH (scH zg zb zn zp) 4)) rfl ?_
            refine ev_iret (pc := 103) dX5_takePatch_103 rfl ?_ ?_
            · first | rfl | exact nar_bI _ | (simp only [*]; exact nar_bI _) | (simp [narrow, *]; done)
            · have zF := e.symm.trans (pt_a (zf := zf) (zc := zc) hk3 hvm ((has_b (by omega)).mp (bI_n0.mp zc95)))
              exact ⟨0, rfl, LO_bad (FrD_T (FrT_t (FrT_t hF (sc_fr zg zb zn zp)) (rf_fr _ _))) ((pat_l zb zn zs zq zt zF).trans ((ck_0 (if_neg (show ¬ zt.1 1 = 12 by omega))).trans (ck_1 (show ¬ (4 : Nat) = 0 by decide)))) (show ¬ (4 : Nat) = 0 by decide) rfl rfl⟩
        · -- ne at 80: not taken
          refine ev_aload_n (pc := 83) dX5_takePatch_83 rfl ?_
          refine ev_iconst (pc := 84) (v := 3) dX5_takePatch_84 (by decide) ?_
          refine ev_callVv (S := []) (pc := 85) dX5_takePatch_85 kX5_refuse lX5_40 vX5_refuse (cn_X5_refuse E (scH zg zb zn zp) 3 hPs.1) rfl rfl (wlt (FrT_w (sc_fr zg zb zn zp) hP.1) (by decide)) rfl rfl (Nat.le_of_ble_eq_true rfl) ⟨Nat.le_of_ble_eq_true rfl, Nat.le_of_ble_eq_true rfl⟩ ⟨Nat.le_of_ble_eq_true rfl, Nat.le_of_ble_eq_true rfl⟩ ?_
          refine ev_eqH (h' := (rfH (scH zg zb zn zp) 3)) rfl ?_
          refine ev_iret (pc := 88) dX5_takePatch_88 rfl ?_ ?_
          · first | rfl | exact nar_bI _ | (simp only [*]; exact nar_bI _) | (simp [narrow, *]; done)
          · have zF := e.symm.trans (pt_b (zf := zf) (zc := zc) hk3 (fun z => bI_0.mp zc80 ((thg_iff hO (by omega)).mpr z)))
            exact ⟨0, rfl, LO_bad (FrD_T (FrT_t (FrT_t hF (sc_fr zg zb zn zp)) (rf_fr _ _))) ((pat_l zb zn zs zq zt zF).trans ((ck_0 (if_neg (show ¬ zt.1 1 = 12 by omega))).trans (ck_1 (show ¬ (3 : Nat) = 0 by decide)))) (show ¬ (3 : Nat) = 0 by decide) rfl rfl⟩
      · -- eq at 53: not taken
        refine ev_aload_n (pc := 56) dX5_takePatch_56 rfl ?_
        refine ev_iload_n (pc := 57) dX5_takePatch_57 rfl ?_
        refine ev_callVv (S := []) (pc := 58) dX5_takePatch_58 kX5_refuseKind lX5_47 vX5_refuseKind (cn_X5_refuseKind E (scH zg zb zn zp) (tK zb zn zp) (FrT_w (sc_fr zg zb zn zp) hP.1) (tK_4 _ _ _)) rfl rfl (wlt (FrT_w (sc_fr zg zb zn zp) hP.1) (by decide)) rfl rfl (Nat.le_of_ble_eq_true rfl) ⟨Nat.le_of_ble_eq_true rfl, Nat.le_of_ble_eq_true rfl⟩ ⟨Nat.le_of_ble_eq_true rfl, Nat.le_of_ble_eq_true rfl⟩ ?_
        refine ev_eqH (h' := (rfH (scH zg zb zn zp) (if tK zb zn zp = 0 then 1 else 2))) rfl ?_
        refine ev_iret (pc := 61) dX5_takePatch_61 rfl ?_ ?_
        · first | rfl | exact nar_bI _ | (simp only [*]; exact nar_bI _) | (simp [narrow, *]; done)
        · have z4 : ¬ tK zb zn zp = 4 := fun z => zc38 (by rw [z]; rfl)
          have zF := e.symm.trans (pt_n3 (zf := zf) (zc := zc) (zm := zt.1 1) (fun z => zc53 (by rw [z]; rfl)))
          refine ⟨0, rfl, LO_bad (FrD_T (FrT_t (FrT_t hF (sc_fr zg zb zn zp)) (rf_fr _ _))) ((pat_l zb zn zs zq zt zF).trans ((ck_0 (if_neg (show ¬ zt.1 1 = 12 by omega))).trans (ck_wf zb zn zp))) (fun z => z4 (fk_0.mp z)) ?_ rfl⟩
          show (if tK zb zn zp = 0 then (1 : Int32) else 2) = nI (fkK zb zn zp 4)
          rw [k12, fk_n z4]
    · -- ne at 38: not taken
      refine ev_aload_n (pc := 41) dX5_takePatch_41 rfl ?_
      refine ev_getR (pc := 42) (q := 3) dX5_takePatch_42 fX5_15 rfl (wlt (FrT_w (sc_fr zg zb zn zp) hP.1) (by decide)) (show zg.2.2.2 19 1 = some 3 by rw [hF.2.1]; exact hr0) ?_
      refine ev_iload_n (pc := 45) dX5_takePatch_45 rfl ?_
      refine ev_callV0 (S := []) (pc := 46) dX5_takePatch_46 kX8_addPatch lX5_109 vX8_addPatch (cn_X8_addPatch_3 E (scH zg zb zn zp) (nI zc) (zt.1 1) (FrT_w (sc_fr zg zb zn zp) hP.1) hSg.1.1 hm) rfl rfl (wlt (FrT_w (sc_fr zg zb zn zp) hP.1) (by decide)) rfl rfl (Nat.le_of_ble_eq_true rfl) ⟨Nat.le_of_ble_eq_true rfl, Nat.le_of_ble_eq_true rfl⟩ ⟨Nat.le_of_ble_eq_true rfl, Nat.le_of_ble_eq_true rfl⟩ ?_
      refine ev_eqH (h' := (ptH (scH zg zb zn zp) 3 (zt.1 1) (nI zc))) rfl ?_
      refine ev_iconst (pc := 49) (v := 1) dX5_takePatch_49 (by decide) ?_
      refine ev_iret (pc := 50) dX5_takePatch_50 rfl ?_ ?_
      · first | rfl | exact nar_bI _ | (simp only [*]; exact nar_bI _) | (simp [narrow, *]; done)
      · have z4 : tK zb zn zp = 4 := (nI_eq (by have := tK_4 zb zn zp; omega) (by decide)).mp zc38
        have zF := e.symm.trans (pt_n3 (zf := zf) (zc := zc) (zm := zt.1 1) (show ¬ tK zb zn zp = 3 by omega))
        have z0 : (lnE zb zn (patB zb zn zs zq zt)).1 = (0, tS zb zn zp) := (pat_l zb zn zs zq zt zF).trans ((ck_0 (if_neg (show ¬ zt.1 1 = 12 by omega))).trans ((ck_0 (wr_0 (by omega))).trans (by rw [fk_0.mpr z4])))
        refine ⟨1, rfl, ⟨FrD_t (FrD_T (FrT_t hF (sc_fr zg zb zn zp))) (pt_fr _ _ _ (by decide : (3 : Nat) = 3 ∨ 3 = 11)), fun _ => ⟨rfl, ?_, h3⟩, fun z => absurd (by rw [z0]) z⟩⟩
        rw [pat_r zb zn zs zq zt zF]
        exact ⟨⟨FrD_w (pt_fr _ _ _ (by decide : (3 : Nat) = 3 ∨ 3 = 11)) hPs.1, FrD_C (by decide : (3 : Nat) = 3 ∨ 3 = 11) (pt_fr _ _ _ (by decide : (3 : Nat) = 3 ∨ 3 = 11)) hPs.2.1, hPs.2.2⟩, (show zg.2.2.2 19 1 = some 3 by rw [hF.2.1]; exact hr0), SD_pat hSg hm⟩
theorem cn_X5_takePatch_3 (E : ME) (h : AH) (zb : Nat → Nat) (zn zp zs : Nat) (zt : PSt) (hD : RDs 3 zb zn zp zt h) (hO : POK zt) (hs : h.2.1 1 2 = nI zs) : Con E mX5_takePatch 5 0 0 [.ref 19] h (fun r h' => ∃ zx, r = some (.int zx) ∧ LOz 3 zb zn (lnE zb zn (patB zb zn zs zp zt)) h h' zx) := by
  refine con_of2 (L := [some (.ref 19), none, none, none, none]) rfl (Nat.le_of_ble_eq_true rfl) rfl ?_
  refine ev_aload_n (pc := 0) dX5_takePatch_0 rfl ?_
  refine ev_getR (pc := 1) (q := 3) dX5_takePatch_1 fX5_15 rfl (wlt hD.1.1 (by decide)) hD.2.1 ?_
  refine ev_callVv (S := []) (pc := 4) dX5_takePatch_4 kX8_things lX5_98 vX8_things (cn_X8_things_3 E h zt hD.1.1 hD.2.2.1 hO) rfl rfl (wlt hD.1.1 (by decide)) rfl rfl (Nat.le_of_ble_eq_true rfl) ⟨Nat.le_of_ble_eq_true rfl, Nat.le_of_ble_eq_true rfl⟩ ⟨Nat.le_of_ble_eq_true rfl, Nat.le_of_ble_eq_true rfl⟩ ?_
  refine ev_bipush (pc := 7) (v := 12) dX5_takePatch_7 (by decide) ?_
  refine ev_icmp_lt (pc := 9) (tgt := 18) dX5_takePatch_9 (by decide) (fun zc9 => ?_) (fun zc9 => ?_)
  · -- lt at 9: taken
    refine ev_iconst (pc := 18) (v := 0) dX5_takePatch_18 (by decide) ?_
    refine ev_istore_n (pc := 19) (L' := [some (.ref 19), some (.int 0), none, none, none]) dX5_takePatch_19 (Nat.le_of_ble_eq_true rfl) rfl ?_
    refine ev_iconst (pc := 20) (v := 0) dX5_takePatch_20 (by decide) ?_
    refine ev_istore_n (pc := 21) (L' := [some (.ref 19), some (.int 0), some (.int 0), none, none]) dX5_takePatch_21 (Nat.le_of_ble_eq_true rfl) rfl ?_
    have hm : zt.1 1 < 12 := (nI_ltI (a := zt.1 1) (b := 12) (by have := hO.1; omega) (by decide)).mp zc9
    exact lp_cpatch_3 E h zb zn zs zp zt hD.2.1 hD.2.2 hO hm 13 0 zp 0 h hD.1 (FrT_0 h) rfl (by rw [fb_ct_zero.mpr (fun zk _ => Nat.zero_testBit zk)]) rfl rfl
  · -- lt at 9: not taken
    refine ev_aload_n (pc := 12) dX5_takePatch_12 rfl ?_
    refine ev_iconst (pc := 13) (v := 5) dX5_takePatch_13 (by decide) ?_
    refine ev_callVv (S := []) (pc := 14) dX5_takePatch_14 kX5_refuse lX5_40 vX5_refuse (cn_X5_refuse E h 5 hD.1.1) rfl rfl (wlt hD.1.1 (by decide)) rfl rfl (Nat.le_of_ble_eq_true rfl) ⟨Nat.le_of_ble_eq_true rfl, Nat.le_of_ble_eq_true rfl⟩ ⟨Nat.le_of_ble_eq_true rfl, Nat.le_of_ble_eq_true rfl⟩ ?_
    refine ev_eqH (h' := (rfH h 5)) rfl ?_
    refine ev_iret (pc := 17) dX5_takePatch_17 rfl ?_ ?_
    · first | rfl | exact nar_bI _ | (simp only [*]; exact nar_bI _) | (simp [narrow, *]; done)
    · have z12 : zt.1 1 = 12 := by
        have z1 := hO.1
        have z2 : ¬ zt.1 1 < 12 := fun z => zc9 (nI_lt (a := zt.1 1) (b := 12) z (by decide))
        omega
      exact ⟨0, rfl, LO_bad (FrD_T (rf_fr _ _)) ((pat_l zb zn zs zp zt rfl).trans (ck_1 (show ¬ (if zt.1 1 = 12 then 5 else 0) = 0 by rw [if_pos z12]; decide))) (by rw [if_pos z12]; decide) (show (5 : Int32) = nI (if zt.1 1 = 12 then 5 else 0) by rw [if_pos z12]; rfl) hs⟩
theorem cn_tq_11 (E : ME) (h : AH) (zt : PSt) (zc : Nat) (za zd : Int32) (hw : WF h) (hS : SDz zt 11 h) (hc : zc < 6) : Con E mX8_tellQuarry 1 0 0 [.ref 11, .int (nI zc), .int za, .int zd] h (fun r h' => r = none ∧ h' = quH h 11 zc za zd (nI (zt.1 5 ||| 2 ^ zc))) := by
  have z1 := cn_X8_tellQuarry_11 E h (nI zc) za zd hw
  have hC : 0 ≤ nI zc ∧ nI zc ≤ 5 := ⟨nI_pos' (by omega), nI_le (a := zc) (b := 5) (by omega) (by decide)⟩
  have e9 : h.2.1 11 11 = nI (zt.1 5) := hS.2.2.1
  rw [if_pos hC, nI_clamp (by omega), e9, or32 (by omega)] at z1
  exact z1
theorem cn_X5_takeQuarry_11 (E : ME) (h : AH) (zb : Nat → Nat) (zn zp : Nat) (zt : PSt) (hD : RDs 11 zb zn zp zt h) (hO : POK zt) : Con E mX5_takeQuarry 5 0 0 [.ref 19] h (fun r h' => ∃ zx, r = some (.int zx) ∧ LOz 11 zb zn (lnE zb zn (quaB zb zn zp zt)) h h' zx) := by
  refine con_of2 (L := [some (.ref 19), none, none]) rfl (Nat.le_of_ble_eq_true rfl) rfl ?_
  refine ev_aload_n (pc := 0) dX5_takeQuarry_0 rfl ?_
  refine ev_iconst (pc := 1) (v := 2) dX5_takeQuarry_1 (by decide) ?_
  refine ev_callV (S := []) (pc := 2) dX5_takeQuarry_2 kX5_takeKind lX5_50 vX5_takeKind (cn_X5_takeKind E h zb zn zp 2 hD.1 (by decide)) rfl rfl (wlt hD.1.1 (by decide)) rfl rfl (Nat.le_of_ble_eq_true rfl) ⟨Nat.le_of_ble_eq_true rfl, Nat.le_of_ble_eq_true rfl⟩ ⟨Nat.le_of_ble_eq_true rfl, Nat.le_of_ble_eq_true rfl⟩ ?_
  rintro _ zg1 ⟨zx1, rfl, hR1, hN1⟩
  refine ev_if_ne (pc := 5) (tgt := 10) dX5_takeQuarry_5 (by decide) (fun zc5 => ?_) (fun zc5 => ?_)
  · -- ne at 5: taken
    have hk2 : tK zb zn zp = 2 := fk_0.mp (OU_t hR1 zc5).1
    have hP1 := (OU_t hR1 zc5).2.1
    have hpn := hD.1.2.2.2
    have hlt := (tE_ok zb hpn).2.2 (tk_2 hk2).1
    have hz := wd_b hpn hk2 (Nat.le_refl _) hlt
    have hn4 := hP1.2.1.2.1
    have hEn := (tE_ok zb hpn).2.1
    have eb : zg1.2.1 2 ((tS zb zn zp) + 0) = nI (zb (tS zb zn zp)) := by rw [Nat.add_zero, (hP1.2.1.2.2 _ (by omega)).1, sb_asc _ (by omega)]
    have el : zg1.2.1 1 3 - zg1.2.1 1 2 = nI ((tE zb zn zp) - (tS zb zn zp)) := by rw [hP1.2.2.1, hN1 hk2, pk_sub (by omega)]
    have e11 : zg1.2.1 11 11 = nI (zt.1 5) := (SD_T (by decide : (11 : Nat) = 3 ∨ 11 = 11) hR1.1 hD.2.2).2.2.1
    refine ev_aload_n (pc := 10) dX5_takeQuarry_10 rfl ?_
    refine ev_getR (pc := 11) (q := 1) dX5_takeQuarry_11 fX5_9 rfl (wlt (FrT_w hR1.1 hD.1.1) (by decide)) (wr (FrT_w hR1.1 hD.1.1) rfl) ?_
    refine ev_iconst (pc := 14) (v := 0) dX5_takeQuarry_14 (by decide) ?_
    refine ev_callVv (S := []) (pc := 15) dX5_takeQuarry_15 kX9_tokenByte lX5_128 vX9_tokenByte (cn_X9_tokenByte E zg1 (tS zb zn zp) (tE zb zn zp) zn 0 hP1.1 (hN1 hk2) hP1.2.2.1 hP1.2.1.1 hP1.2.2.2 hP1.2.1.2.1 (by omega)) rfl rfl (wlt (FrT_w hR1.1 hD.1.1) (by decide)) rfl rfl (Nat.le_of_ble_eq_true rfl) ⟨Nat.le_of_ble_eq_true rfl, Nat.le_of_ble_eq_true rfl⟩ ⟨Nat.le_of_ble_eq_true rfl, Nat.le_of_ble_eq_true rfl⟩ ?_
    refine ev_eqI (e' := nI (zb (tS zb zn zp))) eb ?_
    refine ev_bipush (pc := 18) (v := 97) dX5_takeQuarry_18 (by decide) ?_
    refine ev_isub (pc := 20) dX5_takeQuarry_20 ?_
    refine ev_eqI (e' := nI (zb (tS zb zn zp) - 97)) (pk_sub hz.1) ?_
    refine ev_istore_n (pc := 21) (L' := [some (.ref 19), some (.int (nI (zb (tS zb zn zp) - 97))), none]) dX5_takeQuarry_21 (Nat.le_of_ble_eq_true rfl) rfl ?_
    refine ev_aload_n (pc := 22) dX5_takeQuarry_22 rfl ?_
    refine ev_getR (pc := 23) (q := 1) dX5_takeQuarry_23 fX5_9 rfl (wlt (FrT_w hR1.1 hD.1.1) (by decide)) (wr (FrT_w hR1.1 hD.1.1) rfl) ?_
    refine ev_callVv (S := []) (pc := 26) dX5_takeQuarry_26 kX9_tokenLength lX5_132 vX9_tokenLength (cn_X9_tokenLength E zg1 hP1.1) rfl rfl (wlt (FrT_w hR1.1 hD.1.1) (by decide)) rfl rfl (Nat.le_of_ble_eq_true rfl) ⟨Nat.le_of_ble_eq_true rfl, Nat.le_of_ble_eq_true rfl⟩ ⟨Nat.le_of_ble_eq_true rfl, Nat.le_of_ble_eq_true rfl⟩ ?_
    refine ev_eqI (e' := nI ((tE zb zn zp) - (tS zb zn zp))) el ?_
    refine ev_iconst (pc := 29) (v := 1) dX5_takeQuarry_29 (by decide) ?_
    refine ev_icmp_ne (pc := 30) (tgt := 42) dX5_takeQuarry_30 (by decide) (fun zc30 => ?_) (fun zc30 => ?_)
    · -- ne at 30: taken
      refine ev_aload_n (pc := 42) dX5_takeQuarry_42 rfl ?_
      refine ev_iconst (pc := 43) (v := 3) dX5_takeQuarry_43 (by decide) ?_
      refine ev_callVv (S := []) (pc := 44) dX5_takeQuarry_44 kX5_refuse lX5_40 vX5_refuse (cn_X5_refuse E zg1 3 (FrT_w hR1.1 hD.1.1)) rfl rfl (wlt (FrT_w hR1.1 hD.1.1) (by decide)) rfl rfl (Nat.le_of_ble_eq_true rfl) ⟨Nat.le_of_ble_eq_true rfl, Nat.le_of_ble_eq_true rfl⟩ ⟨Nat.le_of_ble_eq_true rfl, Nat.le_of_ble_eq_true rfl⟩ ?_
      refine ev_eqH (h' := (rfH zg1 3)) rfl ?_
      refine ev_iret (pc := 47) dX5_takeQuarry_47 rfl ?_ ?_
      · first | rfl | exact nar_bI _ | (simp only [*]; exact nar_bI _) | (simp [narrow, *]; done)
      · have hG : ¬ (tE zb zn zp = tS zb zn zp + 1 ∧ zb (tS zb zn zp) - 97 < 6) := fun z => by have z1 := z.1; exact zc30 ((nI_eq (b := 1) (by omega) (by decide)).mpr (by omega))
        exact ⟨0, rfl, LO_bad (FrD_t (FrD_T hR1.1) (FrD_T (rf_fr _ _))) ((qua_l zb zn zp zt).trans ((ck_0 (OU_t hR1 zc5).1).trans (ck_1 (show ¬ (if tE zb zn zp = tS zb zn zp + 1 ∧ zb (tS zb zn zp) - 97 < 6 then 0 else 3) = 0 by rw [if_neg hG]; decide)))) (by rw [if_neg hG]; decide) (show (3 : Int32) = nI (if tE zb zn zp = tS zb zn zp + 1 ∧ zb (tS zb zn zp) - 97 < 6 then 0 else 3) by rw [if_neg hG]; rfl) (hN1 hk2)⟩
    · -- ne at 30: not taken
      refine ev_iload_n (pc := 33) dX5_takeQuarry_33 rfl ?_
      refine ev_iconst (pc := 34) (v := 0) dX5_takeQuarry_34 (by decide) ?_
      refine ev_iconst (pc := 35) (v := 5) dX5_takeQuarry_35 (by decide) ?_
      refine ev_callSv (S := []) (pc := 36) dX5_takeQuarry_36 kX10_within lX5_59 sX10_within (cn_X10_within E zg1 (nI (zb (tS zb zn zp) - 97)) 0 5) rfl rfl (Nat.le_of_ble_eq_true rfl) ⟨Nat.le_of_ble_eq_true rfl, Nat.le_of_ble_eq_true rfl⟩ ⟨Nat.le_of_ble_eq_true rfl, Nat.le_of_ble_eq_true rfl⟩ ?_
      refine ev_if_ne (pc := 39) (tgt := 48) dX5_takeQuarry_39 (by decide) (fun zc39 => ?_) (fun zc39 => ?_)
      · -- ne at 39: taken
        have hc6 : (zb (tS zb zn zp) - 97) < 6 := ((wi_n (zl := 0) (zm := 6) (zv := (zb (tS zb zn zp) - 97)) (by decide) (by decide) (by decide) (by omega)).mp (bI_n0.mp zc39)).2
        have hG : tE zb zn zp = tS zb zn zp + 1 ∧ zb (tS zb zn zp) - 97 < 6 := ⟨by have z1 := (nI_eq (b := 1) (by omega) (by decide)).mp zc30; omega, hc6⟩
        refine ev_aload_n (pc := 48) dX5_takeQuarry_48 rfl ?_
        refine ev_getR (pc := 49) (q := 11) dX5_takeQuarry_49 fX5_15 rfl (wlt (FrT_w hR1.1 hD.1.1) (by decide)) (show zg1.2.2.2 19 1 = some 11 by rw [hR1.1.2.1]; exact hD.2.1) ?_
        refine ev_iload_n (pc := 52) dX5_takeQuarry_52 rfl ?_
        refine ev_callVv (S := []) (pc := 53) dX5_takeQuarry_53 kX8_quarryIsTold lX5_135 vX8_quarryIsTold (cn_X8_quarryIsTold_11 E zg1 (nI (zb (tS zb zn zp) - 97)) hP1.1) rfl rfl (wlt (FrT_w hR1.1 hD.1.1) (by decide)) rfl rfl (Nat.le_of_ble_eq_true rfl) ⟨Nat.le_of_ble_eq_true rfl, Nat.le_of_ble_eq_true rfl⟩ ⟨Nat.le_of_ble_eq_true rfl, Nat.le_of_ble_eq_true rfl⟩ ?_
        refine ev_if_eq (pc := 56) (tgt := 65) dX5_takeQuarry_56 (by decide) (fun zc56 => ?_) (fun zc56 => ?_)
        · -- eq at 56: taken
          have hb : ¬ (zt.1 5).testBit (zb (tS zb zn zp) - 97) = true := fun z => by rw [e11] at zc56; exact bI_0.mp zc56 ((has_b (by omega)).mpr z)
          refine ev_aload_n (pc := 65) dX5_takeQuarry_65 rfl ?_
          refine ev_iconst (pc := 66) (v := 0) dX5_takeQuarry_66 (by decide) ?_
          refine ev_bipush (pc := 67) (v := 99) dX5_takeQuarry_67 (by decide) ?_
          refine ev_callV (S := []) (pc := 69) dX5_takeQuarry_69 kX5_takeNumber lX5_101 vX5_takeNumber (cn_X5_takeNumber E zg1 zb zn (tE zb zn zp) 0 100 99 hP1 (by decide) (by decide) (by decide)) rfl rfl (wlt (FrT_w hR1.1 hD.1.1) (by decide)) rfl rfl (Nat.le_of_ble_eq_true rfl) ⟨Nat.le_of_ble_eq_true rfl, Nat.le_of_ble_eq_true rfl⟩ ⟨Nat.le_of_ble_eq_true rfl, Nat.le_of_ble_eq_true rfl⟩ ?_
          rintro _ zg2 ⟨zx2, rfl, hR2, hN2⟩
          refine ev_if_ne (pc := 72) (tgt := 77) dX5_takeQuarry_72 (by decide) (fun zc72 => ?_) (fun zc72 => ?_)
          · -- ne at 72: taken
            refine ev_aload_n (pc := 77) dX5_takeQuarry_77 rfl ?_
            refine ev_getI (pc := 78) dX5_takeQuarry_78 fX5_56 rfl (wlt (FrT_w hR2.1 hP1.1) (by decide)) ?_
            refine ev_eqI (e' := nI (tV zb zn (tE zb zn zp))) (hN2 (OU_t hR2 zc72).1).1 ?_
            refine ev_istore_n (pc := 81) (L' := [some (.ref 19), some (.int (nI (zb (tS zb zn zp) - 97))), some (.int (nI (tV zb zn (tE zb zn zp))))]) dX5_takeQuarry_81 (Nat.le_of_ble_eq_true rfl) rfl ?_
            refine ev_aload_n (pc := 82) dX5_takeQuarry_82 rfl ?_
            refine ev_iconst (pc := 83) (v := 1) dX5_takeQuarry_83 (by decide) ?_
            refine ev_bipush (pc := 84) (v := 99) dX5_takeQuarry_84 (by decide) ?_
            refine ev_callV (S := []) (pc := 86) dX5_takeQuarry_86 kX5_takeNumber lX5_101 vX5_takeNumber (cn_X5_takeNumber E zg2 zb zn (tE zb zn (tE zb zn zp)) 1 100 99 (OU_t hR2 zc72).2.1 (by decide) (by decide) (by decide)) rfl rfl (wlt (FrT_w hR2.1 hP1.1) (by decide)) rfl rfl (Nat.le_of_ble_eq_true rfl) ⟨Nat.le_of_ble_eq_true rfl, Nat.le_of_ble_eq_true rfl⟩ ⟨Nat.le_of_ble_eq_true rfl, Nat.le_of_ble_eq_true rfl⟩ ?_
            rintro _ zg3 ⟨zx3, rfl, hR3, hN3⟩
            refine ev_if_ne (pc := 89) (tgt := 94) dX5_takeQuarry_89 (by decide) (fun zc89 => ?_) (fun zc89 => ?_)
            · -- ne at 89: taken
              refine ev_aload_n (pc := 94) dX5_takeQuarry_94 rfl ?_
              refine ev_getR (pc := 95) (q := 11) dX5_takeQuarry_95 fX5_15 rfl (wlt (FrT_w hR3.1 (OU_t hR2 zc72).2.1.1) (by decide)) (show zg3.2.2.2 19 1 = some 11 by rw [hR3.1.2.1, hR2.1.2.1, hR1.1.2.1]; exact hD.2.1) ?_
              refine ev_iload_n (pc := 98) dX5_takeQuarry_98 rfl ?_
              refine ev_iload_n (pc := 99) dX5_takeQuarry_99 rfl ?_
              refine ev_aload_n (pc := 100) dX5_takeQuarry_100 rfl ?_
              refine ev_getI (pc := 101) dX5_takeQuarry_101 fX5_56 rfl (wlt (FrT_w hR3.1 (OU_t hR2 zc72).2.1.1) (by decide)) ?_
              refine ev_eqI (e' := nI (tV zb zn (tE zb zn (tE zb zn zp)))) (hN3 (OU_t hR3 zc89).1).1 ?_
              refine ev_callV0 (S := []) (pc := 104) dX5_takeQuarry_104 kX8_tellQuarry lX5_138 vX8_tellQuarry (cn_tq_11 E zg3 zt (zb (tS zb zn zp) - 97) (nI (tV zb zn (tE zb zn zp))) (nI (tV zb zn (tE zb zn (tE zb zn zp)))) (FrT_w hR3.1 (OU_t hR2 zc72).2.1.1) (SD_T (by decide : (11 : Nat) = 3 ∨ 11 = 11) hR3.1 (SD_T (by decide : (11 : Nat) = 3 ∨ 11 = 11) hR2.1 (SD_T (by decide : (11 : Nat) = 3 ∨ 11 = 11) hR1.1 hD.2.2))) hc6) rfl rfl (wlt (FrT_w hR3.1 (OU_t hR2 zc72).2.1.1) (by decide)) rfl rfl (Nat.le_of_ble_eq_true rfl) ⟨Nat.le_of_ble_eq_true rfl, Nat.le_of_ble_eq_true rfl⟩ ⟨Nat.le_of_ble_eq_true rfl, Nat.le_of_ble_eq_true rfl⟩ ?_
              refine ev_eqH (h' := (quH zg3 11 (zb (tS zb zn zp) - 97) (nI (tV zb zn (tE zb zn zp))) (nI (tV zb zn (tE zb zn (tE zb zn zp)))) (nI (zt.1 5 ||| 2 ^ (zb (tS zb zn zp) - 97))))) rfl ?_
              have hPk : TPz zb zn (tE zb zn (tE zb zn (tE zb zn zp))) (quH zg3 11 (zb (tS zb zn zp) - 97) (nI (tV zb zn (tE zb zn zp))) (nI (tV zb zn (tE zb zn (tE zb zn zp)))) (nI (zt.1 5 ||| 2 ^ (zb (tS zb zn zp) - 97)))) := ⟨FrD_w (qu_fr zg3 _ _ _ _ (by decide : (11 : Nat) = 3 ∨ 11 = 11)) (OU_t hR3 zc89).2.1.1, FrD_C (by decide : (11 : Nat) = 3 ∨ 11 = 11) (qu_fr zg3 _ _ _ _ (by decide : (11 : Nat) = 3 ∨ 11 = 11)) (OU_t hR3 zc89).2.1.2.1, (OU_t hR3 zc89).2.1.2.2⟩
              refine ev_aload_n (pc := 107) dX5_takeQuarry_107 rfl ?_
              refine ev_iconst (pc := 108) (v := 4) dX5_takeQuarry_108 (by decide) ?_
              refine ev_callV (S := []) (pc := 109) dX5_takeQuarry_109 kX5_takeKind lX5_50 vX5_takeKind (cn_X5_takeKind E (quH zg3 11 (zb (tS zb zn zp) - 97) (nI (tV zb zn (tE zb zn zp))) (nI (tV zb zn (tE zb zn (tE zb zn zp)))) (nI (zt.1 5 ||| 2 ^ (zb (tS zb zn zp) - 97)))) zb zn (tE zb zn (tE zb zn (tE zb zn zp))) 4 hPk (by decide)) rfl rfl (wlt (FrD_w (qu_fr zg3 _ _ _ _ (by decide : (11 : Nat) = 3 ∨ 11 = 11)) (OU_t hR3 zc89).2.1.1) (by decide)) rfl rfl (Nat.le_of_ble_eq_true rfl) ⟨Nat.le_of_ble_eq_true rfl, Nat.le_of_ble_eq_true rfl⟩ ⟨Nat.le_of_ble_eq_true rfl, Nat.le_of_ble_eq_true rfl⟩ ?_
              rintro _ zg4 ⟨zx4, rfl, hR4, hN4⟩
              refine ev_iret (pc := 112) dX5_takeQuarry_112 rfl ?_ ?_
              · exact nar_01 (OU_01 hR4)
              · refine ⟨zx4, rfl, LO_last (by decide : (11 : Nat) = 3 ∨ 11 = 11) (FrD_t (FrD_T (FrT_t (FrT_t hR1.1 hR2.1) hR3.1)) (qu_fr zg3 _ _ _ _ (by decide : (11 : Nat) = 3 ∨ 11 = 11))) ((OU_t hR3 zc89).2.2.trans ((OU_t hR2 zc72).2.2.trans (OU_t hR1 zc5).2.2)) (show zg3.2.2.2 19 1 = some 11 by rw [hR3.1.2.1, hR2.1.2.1, hR1.1.2.1]; exact hD.2.1) (SD_qua (zc := (zb (tS zb zn zp) - 97)) (za := (tV zb zn (tE zb zn zp))) (zd := (tV zb zn (tE zb zn (tE zb zn zp)))) (SD_T (by decide : (11 : Nat) = 3 ∨ 11 = 11) hR3.1 (SD_T (by decide : (11 : Nat) = 3 ∨ 11 = 11) hR2.1 (SD_T (by decide : (11 : Nat) = 3 ∨ 11 = 11) hR1.1 hD.2.2)))) ((qua_l zb zn zp zt).trans ((ck_0 (OU_t hR1 zc5).1).trans ((ck_0 (if_pos hG)).trans ((ck_0 (if_neg hb)).trans ((ck_0 (OU_t hR2 zc72).1).trans (ck_0 (OU_t hR3 zc89).1)))))) hR4⟩
            · -- ne at 89: not taken
              refine ev_iconst (pc := 92) (v := 0) dX5_takeQuarry_92 (by decide) ?_
              refine ev_iret (pc := 93) dX5_takeQuarry_93 rfl ?_ ?_
              · first | rfl | exact nar_bI _ | (simp only [*]; exact nar_bI _) | (simp [narrow, *]; done)
              · have zz := OU_f hR3 zc89
                exact ⟨0, rfl, LO_bad (FrD_T (FrT_t (FrT_t hR1.1 hR2.1) hR3.1)) ((qua_l zb zn zp zt).trans ((ck_0 (OU_t hR1 zc5).1).trans ((ck_0 (if_pos hG)).trans ((ck_0 (if_neg hb)).trans ((ck_0 (OU_t hR2 zc72).1).trans (ck_1 zz.1)))))) zz.1 zz.2.1 zz.2.2⟩
          · -- ne at 72: not taken
            refine ev_iconst (pc := 75) (v := 0) dX5_takeQuarry_75 (by decide) ?_
            refine ev_iret (pc := 76) dX5_takeQuarry_76 rfl ?_ ?_
            · first | rfl | exact nar_bI _ | (simp only [*]; exact nar_bI _) | (simp [narrow, *]; done)
            · have zz := OU_f hR2 zc72
              exact ⟨0, rfl, LO_bad (FrD_T (FrT_t hR1.1 hR2.1)) ((qua_l zb zn zp zt).trans ((ck_0 (OU_t hR1 zc5).1).trans ((ck_0 (if_pos hG)).trans ((ck_0 (if_neg hb)).trans (ck_1 zz.1))))) zz.1 zz.2.1 zz.2.2⟩
        · -- eq at 56: not taken
          refine ev_aload_n (pc := 59) dX5_takeQuarry_59 rfl ?_
          refine ev_iconst (pc := 60) (v := 4) dX5_takeQuarry_60 (by decide) ?_
          refine ev_callVv (S := []) (pc := 61) dX5_takeQuarry_61 kX5_refuse lX5_40 vX5_refuse (cn_X5_refuse E zg1 4 (FrT_w hR1.1 hD.1.1)) rfl rfl (wlt (FrT_w hR1.1 hD.1.1) (by decide)) rfl rfl (Nat.le_of_ble_eq_true rfl) ⟨Nat.le_of_ble_eq_true rfl, Nat.le_of_ble_eq_true rfl⟩ ⟨Nat.le_of_ble_eq_true rfl, Nat.le_of_ble_eq_true rfl⟩ ?_
          refine ev_eqH (h' := (rfH zg1 4)) rfl ?_
          refine ev_iret (pc := 64) dX5_takeQuarry_64 rfl ?_ ?_
          · first | rfl | exact nar_bI _ | (simp only [*]; exact nar_bI _) | (simp [narrow, *]; done)
          · have hb : (zt.1 5).testBit (zb (tS zb zn zp) - 97) = true := by rw [e11] at zc56; exact (has_b (by omega)).mp (bI_n0.mp zc56)
            exact ⟨0, rfl, LO_bad (FrD_t (FrD_T hR1.1) (FrD_T (rf_fr _ _))) ((qua_l zb zn zp zt).trans ((ck_0 (OU_t hR1 zc5).1).trans ((ck_0 (if_pos hG)).trans (ck_1 (show ¬ (if (zt.1 5).testBit (zb (tS zb zn zp) - 97) then 4 else 0) = 0 by rw [if_pos hb]; decide))))) (by rw [if_pos hb]; decide) (show (4 : Int32) = nI (if (zt.1 5).testBit (zb (tS zb zn zp) - 97) then 4 else 0) by rw [if_pos hb]; rfl) (hN1 hk2)⟩
      · -- ne at 39: not taken
        refine ev_aload_n (pc := 42) dX5_takeQuarry_42 rfl ?_
        refine ev_iconst (pc := 43) (v := 3) dX5_takeQuarry_43 (by decide) ?_
        refine ev_callVv (S := []) (pc := 44) dX5_takeQuarry_44 kX5_refuse lX5_40 vX5_refuse (cn_X5_refuse E zg1 3 (FrT_w hR1.1 hD.1.1)) rfl rfl (wlt (FrT_w hR1.1 hD.1.1) (by decide)) rfl rfl (Nat.le_of_ble_eq_true rfl) ⟨Nat.le_of_ble_eq_true rfl, Nat.le_of_ble_eq_true rfl⟩ ⟨Nat.le_of_ble_eq_true rfl, Nat.le_of_ble_eq_true rfl⟩ ?_
        refine ev_eqH (h' := (rfH zg1 3)) rfl ?_
        refine ev_iret (pc := 47) dX5_takeQuarry_47 rfl ?_ ?_
        · first | rfl | exact nar_bI _ | (simp only [*]; exact nar_bI _) | (simp [narrow, *]; done)
        · have hG : ¬ (tE zb zn zp = tS zb zn zp + 1 ∧ zb (tS zb zn zp) - 97 < 6) := fun z => bI_0.mp zc39 ((wi_n (zl := 0) (zm := 6) (zv := (zb (tS zb zn zp) - 97)) (by decide) (by decide) (by decide) (by omega)).mpr ⟨Nat.zero_le _, z.2⟩)
          exact ⟨0, rfl, LO_bad (FrD_t (FrD_T hR1.1) (FrD_T (rf_fr _ _))) ((qua_l zb zn zp zt).trans ((ck_0 (OU_t hR1 zc5).1).trans (ck_1 (show ¬ (if tE zb zn zp = tS zb zn zp + 1 ∧ zb (tS zb zn zp) - 97 < 6 then 0 else 3) = 0 by rw [if_neg hG]; decide)))) (by rw [if_neg hG]; decide) (show (3 : Int32) = nI (if tE zb zn zp = tS zb zn zp + 1 ∧ zb (tS zb zn zp) - 97 < 6 then 0 else 3) by rw [if_neg hG]; rfl) (hN1 hk2)⟩
  · -- ne at 5: not taken
    refine ev_iconst (pc := 8) (v := 0) dX5_takeQuarry_8 (by decide) ?_
    refine ev_iret (pc := 9) dX5_takeQuarry_9 rfl ?_ ?_
    · first | rfl | exact nar_bI _ | (simp only [*]; exact nar_bI _) | (simp [narrow, *]; done)
    · have zz := OU_f hR1 zc5
      exact ⟨0, rfl, LO_bad (FrD_T hR1.1) ((qua_l zb zn zp zt).trans (ck_1 zz.1)) zz.1 zz.2.1 zz.2.2⟩
theorem lp_cpatch_11 (E : ME) (h : AH) (zb : Nat → Nat) (zn zs zq : Nat) (zt : PSt) (hr0 : h.2.2.2 19 1 = some 11) (hS0 : SDz zt 11 h) (hO : POK zt) (hm : zt.1 1 < 12) : ∀ (zf zc zp zi : Nat) (zg : AH), TPz zb zn zp zg → FrT h zg → zg.2.1 19 3 = h.2.1 19 3 → fb_ct zc.testBit (zt.1 1) + zf = 13 → zi + zf = 13 → ptF zb zn (zt.1 1) zf zc zp = ptF zb zn (zt.1 1) 13 0 zq → Ev E mX5_takePatch (rmm 5 0 0) (QM E 0 0 (fun r h' => ∃ zx, r = some (.int zx) ∧ LOz 11 zb zn (lnE zb zn (patB zb zn zs zq zt)) h h' zx)) 0 0 22 [some (.ref 19), some (.int (nI zc)), some (.int (nI zi)), none, none] [] zg := by
  intro zf
  induction zf with
  | zero =>
    intro zc zp zi zg hP hF h3 hct hi e
    have z1 := fb_ct_le zc.testBit (zt.1 1)
    omega
  | succ zf ih =>
    intro zc zp zi zg hP hF h3 hct hi e
    have z1 := fb_ct_le zc.testBit (zt.1 1)
    have hPs := sc_tp hP
    have hSg : SDz zt 11 (scH zg zb zn zp) := SD_T (by decide : (11 : Nat) = 3 ∨ 11 = 11) (FrT_t hF (sc_fr zg zb zn zp)) hS0
    have hzi : zi ≤ 12 := by omega
    refine ev_iload_n (pc := 22) dX5_takePatch_22 rfl ?_
    refine ev_bipush (pc := 23) (v := 12) dX5_takePatch_23 (by decide) ?_
    refine ev_icmp_gt (pc := 25) (tgt := 117) dX5_takePatch_25 (by decide) (fun zc25 => absurd zc25 (nI_nlt (a := 12) (b := zi) hzi (by decide))) (fun zc25 => ?_)
    refine ev_aload_n (pc := 28) dX5_takePatch_28 rfl ?_
    refine ev_getR (pc := 29) (q := 1) dX5_takePatch_29 fX5_9 rfl (wlt hP.1 (by decide)) (wr hP.1 rfl) ?_
    refine ev_callVv (S := []) (pc := 32) dX5_takePatch_32 kX9_scan lX5_44 vX9_scan (cn_X9_scan E zg zb zn zp hP.1 hP.2.1 hP.2.2.2 hP.2.2.1) rfl rfl (wlt hP.1 (by decide)) rfl rfl (Nat.le_of_ble_eq_true rfl) ⟨Nat.le_of_ble_eq_true rfl, Nat.le_of_ble_eq_true rfl⟩ ⟨Nat.le_of_ble_eq_true rfl, Nat.le_of_ble_eq_true rfl⟩ ?_
    refine ev_eqH (h' := (scH zg zb zn zp)) rfl ?_
    refine ev_istore_n (pc := 35) (L' := [some (.ref 19), some (.int (nI zc)), some (.int (nI zi)), some (.int (nI (tK zb zn zp))), none]) dX5_takePatch_35 (Nat.le_of_ble_eq_true rfl) rfl ?_
    refine ev_iload_n (pc := 36) dX5_takePatch_36 rfl ?_
    refine ev_iconst (pc := 37) (v := 4) dX5_takePatch_37 (by decide) ?_
    refine ev_icmp_ne (pc := 38) (tgt := 51) dX5_takePatch_38 (by decide) (fun zc38 => ?_) (fun zc38 => ?_)
    · -- ne at 38: taken
      refine ev_iload_n (pc := 51) dX5_takePatch_51 rfl ?_
      refine ev_iconst (pc := 52) (v := 3) dX5_takePatch_52 (by decide) ?_
      refine ev_icmp_eq (pc := 53) (tgt := 62) dX5_takePatch_53 (by decide) (fun zc53 => ?_) (fun zc53 => ?_)
      · -- eq at 53: taken
        have hk3 : tK zb zn zp = 3 := (nI_eq (by have := tK_4 zb zn zp; omega) (by decide)).mp zc53
        have hv1 := tV_bd hP.2.2.2 hk3
        refine ev_aload_n (pc := 62) dX5_takePatch_62 rfl ?_
        refine ev_getR (pc := 63) (q := 1) dX5_takePatch_63 fX5_9 rfl (wlt (FrT_w (sc_fr zg zb zn zp) hP.1) (by decide)) (wr (FrT_w (sc_fr zg zb zn zp) hP.1) rfl) ?_
        refine ev_callVv (S := []) (pc := 66) dX5_takePatch_66 kX9_tokenNumber lX5_53 vX9_tokenNumber (cn_X9_tokenNumber E (scH zg zb zn zp) (tS zb zn zp) (tE zb zn zp) zn hPs.1 rfl rfl hPs.2.1.1 hPs.2.2.2 hPs.2.1.2.1 (tE_ok zb hP.2.2.2).1) rfl rfl (wlt (FrT_w (sc_fr zg zb zn zp) hP.1) (by decide)) rfl rfl (Nat.le_of_ble_eq_true rfl) ⟨Nat.le_of_ble_eq_true rfl, Nat.le_of_ble_eq_true rfl⟩ ⟨Nat.le_of_ble_eq_true rfl, Nat.le_of_ble_eq_true rfl⟩ ?_
        refine ev_eqI (e' := nI (tV zb zn zp)) (tV_tn hPs.2.1 hP.2.2.2 hk3) ?_
        refine ev_istore (pc := 69) (L' := [some (.ref 19), some (.int (nI zc)), some (.int (nI zi)), some (.int (nI (tK zb zn zp))), some (.int (nI (tV zb zn zp)))]) dX5_takePatch_69 (Nat.le_of_ble_eq_true rfl) rfl ?_
        refine ev_aload_n (pc := 71) dX5_takePatch_71 rfl ?_
        refine ev_getR (pc := 72) (q := 11) dX5_takePatch_72 fX5_15 rfl (wlt (FrT_w (sc_fr zg zb zn zp) hP.1) (by decide)) (show zg.2.2.2 19 1 = some 11 by rw [hF.2.1]; exact hr0) ?_
        refine ev_iload (pc := 75) dX5_takePatch_75 rfl ?_
        refine ev_callVv (S := []) (pc := 77) dX5_takePatch_77 kX8_hasThing lX5_113 vX8_hasThing (cn_X8_hasThing_11 E (scH zg zb zn zp) zt (nI (tV zb zn zp)) hPs.1 hSg.1 hO) rfl rfl (wlt (FrT_w (sc_fr zg zb zn zp) hP.1) (by decide)) rfl rfl (Nat.le_of_ble_eq_true rfl) ⟨Nat.le_of_ble_eq_true rfl, Nat.le_of_ble_eq_true rfl⟩ ⟨Nat.le_of_ble_eq_true rfl, Nat.le_of_ble_eq_true rfl⟩ ?_
        refine ev_if_ne (pc := 80) (tgt := 89) dX5_takePatch_80 (by decide) (fun zc80 => ?_) (fun zc80 => ?_)
        · -- ne at 80: taken
          have hvm : tV zb zn zp < zt.1 1 := (thg_iff hO (by omega)).mp (bI_n0.mp zc80)
          refine ev_iload_n (pc := 89) dX5_takePatch_89 rfl ?_
          refine ev_iload (pc := 90) dX5_takePatch_90 rfl ?_
          refine ev_callSv (S := []) (pc := 92) dX5_takePatch_92 kX10_has lX5_116 sX10_has (cn_X10_has E (scH zg zb zn zp) (nI zc) (nI (tV zb zn zp))) rfl rfl (Nat.le_of_ble_eq_true rfl) ⟨Nat.le_of_ble_eq_true rfl, Nat.le_of_ble_eq_true rfl⟩ ⟨Nat.le_of_ble_eq_true rfl, Nat.le_of_ble_eq_true rfl⟩ ?_
          refine ev_if_eq (pc := 95) (tgt := 104) dX5_takePatch_95 (by decide) (fun zc95 => ?_) (fun zc95 => ?_)
          · -- eq at 95: taken
            refine ev_iload_n (pc := 104) dX5_takePatch_104 rfl ?_
            refine ev_iconst (pc := 105) (v := 1) dX5_takePatch_105 (by decide) ?_
            refine ev_iload (pc := 106) dX5_takePatch_106 rfl ?_
            refine ev_ishl (pc := 108) dX5_takePatch_108 ?_
            refine ev_ior (pc := 109) dX5_takePatch_109 ?_
            refine ev_eqI (e' := nI (zc ||| 2 ^ tV zb zn zp)) (or32 (by omega)) ?_
            refine ev_istore_n (pc := 110) (L' := [some (.ref 19), some (.int (nI (zc ||| 2 ^ tV zb zn zp))), some (.int (nI zi)), some (.int (nI (tK zb zn zp))), some (.int (nI (tV zb zn zp)))]) dX5_takePatch_110 (Nat.le_of_ble_eq_true rfl) rfl ?_
            refine ev_iinc (pc := 111) (v := nI (zi + 1)) (L' := [some (.ref 19), some (.int (nI (zc ||| 2 ^ tV zb zn zp))), some (.int (nI (zi + 1))), some (.int (nI (tK zb zn zp))), some (.int (nI (tV zb zn zp)))]) dX5_takePatch_111 rfl (nI_1 _) (Nat.le_of_ble_eq_true rfl) rfl ?_
            refine ev_goto (pc := 114) (tgt := 22) dX5_takePatch_114 (by decide) ?_
            refine ev_less (L' := [some (.ref 19), some (.int (nI (zc ||| 2 ^ tV zb zn zp))), some (.int (nI (zi + 1))), none, none]) (ls_keep (ls_keep (ls_keep (ls_drop (ls_drop (ls_nil _)))))) ?_
            have hb : zc.testBit (tV zb zn zp) = false := by
              cases z : zc.testBit (tV zb zn zp) with
              | false => rfl
              | true => exact absurd zc95 (fun z1 => bI_0.mp z1 ((has_b (by omega)).mpr z))
            exact ih (zc ||| 2 ^ tV zb zn zp) (tE zb zn zp) (zi + 1) (scH zg zb zn zp) hPs (FrT_t hF (sc_fr zg zb zn zp)) h3 (by rw [pt_ct hvm hb]; omega) (by omega) ((pt_s hk3 hvm hb).symm.trans e)
          · -- eq at 95: not taken
            refine ev_aload_n (pc := 98) dX5_takePatch_98 rfl ?_
            refine ev_iconst (pc := 99) (v := 4) dX5_takePatch_99 (by decide) ?_
            refine ev_callVv (S := []) (pc := 100) dX5_takePatch_100 kX5_refuse lX5_40 vX5_refuse (cn_X5_refuse E (scH zg zb zn zp) 4 hPs.1) rfl rfl (wlt (FrT_w (sc_fr zg zb zn zp) hP.1) (by decide)) rfl rfl (Nat.le_of_ble_eq_true rfl) ⟨Nat.le_of_ble_eq_true rfl, Nat.le_of_ble_eq_true rfl⟩ ⟨Nat.le_of_ble_eq_true rfl, Nat.le_of_ble_eq_true rfl⟩ ?_
            refine ev_eqH (h' := (rfH (scH zg zb zn zp) 4)) rfl ?_
            refine ev_iret (pc := 103) dX5_takePatch_103 rfl ?_ ?_
            · first | rfl | exact nar_bI _ | (simp only [*]; exact nar_bI _) | (simp [narrow, *]; done)
            · have zF := e.symm.trans (pt_a (zf := zf) (zc := zc) hk3 hvm ((has_b (by omega)).mp (bI_n0.mp zc95)))
              exact ⟨0, rfl, LO_bad (FrD_T (FrT_t (FrT_t hF (sc_fr zg zb zn zp)) (rf_fr _ _))) ((pat_l zb zn zs zq zt zF).trans ((ck_0 (if_neg (show ¬ zt.1 1 = 12 by omega))).trans (ck_1 (show ¬ (4 : Nat) = 0 by decide)))) (show ¬ (4 : Nat) = 0 by decide) rfl rfl⟩
        · -- ne at 80: not taken
          refine ev_aload_n (pc := 83) dX5_takePatch_83 rfl ?_
          refine ev_iconst (pc := 84) (v := 3) dX5_takePatch_84 (by decide) ?_
          refine ev_callVv (S := []) (pc := 85) dX5_takePatch_85 kX5_refuse lX5_40 vX5_refuse (cn_X5_refuse E (scH zg zb zn zp) 3 hPs.1) rfl rfl (wlt (FrT_w (sc_fr zg zb zn zp) hP.1) (by decide)) rfl rfl (Nat.le_of_ble_eq_true rfl) ⟨Nat.le_of_ble_eq_true rfl, Nat.le_of_ble_eq_true rfl⟩ ⟨Nat.le_of_ble_eq_true rfl, Nat.le_of_ble_eq_true rfl⟩ ?_
          refine ev_eqH (h' := (rfH (scH zg zb zn zp) 3)) rfl ?_
          refine ev_iret (pc := 88) dX5_takePatch_88 rfl ?_ ?_
          · first | rfl | exact nar_bI _ | (simp only [*]; exact nar_bI _) | (simp [narrow, *]; done)
          · have zF := e.symm.trans (pt_b (zf := zf) (zc := zc) hk3 (fun z => bI_0.mp zc80 ((thg_iff hO (by omega)).mpr z)))
            exact ⟨0, rfl, LO_bad (FrD_T (FrT_t (FrT_t hF (sc_fr zg zb zn zp)) (rf_fr _ _))) ((pat_l zb zn zs zq zt zF).trans ((ck_0 (if_neg (show ¬ zt.1 1 = 12 by omega))).trans (ck_1 (show ¬ (3 : Nat) = 0 by decide)))) (show ¬ (3 : Nat) = 0 by decide) rfl rfl⟩
      · -- eq at 53: not taken
        refine ev_aload_n (pc := 56) dX5_takePatch_56 rfl ?_
        refine ev_iload_n (pc := 57) dX5_takePatch_57 rfl ?_
        refine ev_callVv (S := []) (pc := 58) dX5_takePatch_58 kX5_refuseKind lX5_47 vX5_refuseKind (cn_X5_refuseKind E (scH zg zb zn zp) (tK zb zn zp) (FrT_w (sc_fr zg zb zn zp) hP.1) (tK_4 _ _ _)) rfl rfl (wlt (FrT_w (sc_fr zg zb zn zp) hP.1) (by decide)) rfl rfl (Nat.le_of_ble_eq_true rfl) ⟨Nat.le_of_ble_eq_true rfl, Nat.le_of_ble_eq_true rfl⟩ ⟨Nat.le_of_ble_eq_true rfl, Nat.le_of_ble_eq_true rfl⟩ ?_
        refine ev_eqH (h' := (rfH (scH zg zb zn zp) (if tK zb zn zp = 0 then 1 else 2))) rfl ?_
        refine ev_iret (pc := 61) dX5_takePatch_61 rfl ?_ ?_
        · first | rfl | exact nar_bI _ | (simp only [*]; exact nar_bI _) | (simp [narrow, *]; done)
        · have z4 : ¬ tK zb zn zp = 4 := fun z => zc38 (by rw [z]; rfl)
          have zF := e.symm.trans (pt_n3 (zf := zf) (zc := zc) (zm := zt.1 1) (fun z => zc53 (by rw [z]; rfl)))
          refine ⟨0, rfl, LO_bad (FrD_T (FrT_t (FrT_t hF (sc_fr zg zb zn zp)) (rf_fr _ _))) ((pat_l zb zn zs zq zt zF).trans ((ck_0 (if_neg (show ¬ zt.1 1 = 12 by omega))).trans (ck_wf zb zn zp))) (fun z => z4 (fk_0.mp z)) ?_ rfl⟩
          show (if tK zb zn zp = 0 then (1 : Int32) else 2) = nI (fkK zb zn zp 4)
          rw [k12, fk_n z4]
    · -- ne at 38: not taken
      refine ev_aload_n (pc := 41) dX5_takePatch_41 rfl ?_
      refine ev_getR (pc := 42) (q := 11) dX5_takePatch_42 fX5_15 rfl (wlt (FrT_w (sc_fr zg zb zn zp) hP.1) (by decide)) (show zg.2.2.2 19 1 = some 11 by rw [hF.2.1]; exact hr0) ?_
      refine ev_iload_n (pc := 45) dX5_takePatch_45 rfl ?_
      refine ev_callV0 (S := []) (pc := 46) dX5_takePatch_46 kX8_addPatch lX5_109 vX8_addPatch (cn_X8_addPatch_11 E (scH zg zb zn zp) (nI zc) (zt.1 1) (FrT_w (sc_fr zg zb zn zp) hP.1) hSg.1.1 hm) rfl rfl (wlt (FrT_w (sc_fr zg zb zn zp) hP.1) (by decide)) rfl rfl (Nat.le_of_ble_eq_true rfl) ⟨Nat.le_of_ble_eq_true rfl, Nat.le_of_ble_eq_true rfl⟩ ⟨Nat.le_of_ble_eq_true rfl, Nat.le_of_ble_eq_true rfl⟩ ?_
      refine ev_eqH (h' := (ptH (scH zg zb zn zp) 11 (zt.1 1) (nI zc))) rfl ?_
      refine ev_iconst (pc := 49) (v := 1) dX5_takePatch_49 (by decide) ?_
      refine ev_iret (pc := 50) dX5_takePatch_50 rfl ?_ ?_
      · first | rfl | exact nar_bI _ | (simp only [*]; exact nar_bI _) | (simp [narrow, *]; done)
      · have z4 : tK zb zn zp = 4 := (nI_eq (by have := tK_4 zb zn zp; omega) (by decide)).mp zc38
        have zF := e.symm.trans (pt_n3 (zf := zf) (zc := zc) (zm := zt.1 1) (show ¬ tK zb zn zp = 3 by omega))
        have z0 : (lnE zb zn (patB zb zn zs zq zt)).1 = (0, tS zb zn zp) := (pat_l zb zn zs zq zt zF).trans ((ck_0 (if_neg (show ¬ zt.1 1 = 12 by omega))).trans ((ck_0 (wr_0 (by omega))).trans (by rw [fk_0.mpr z4])))
        refine ⟨1, rfl, ⟨FrD_t (FrD_T (FrT_t hF (sc_fr zg zb zn zp))) (pt_fr _ _ _ (by decide : (11 : Nat) = 3 ∨ 11 = 11)), fun _ => ⟨rfl, ?_, h3⟩, fun z => absurd (by rw [z0]) z⟩⟩
        rw [pat_r zb zn zs zq zt zF]
        exact ⟨⟨FrD_w (pt_fr _ _ _ (by decide : (11 : Nat) = 3 ∨ 11 = 11)) hPs.1, FrD_C (by decide : (11 : Nat) = 3 ∨ 11 = 11) (pt_fr _ _ _ (by decide : (11 : Nat) = 3 ∨ 11 = 11)) hPs.2.1, hPs.2.2⟩, (show zg.2.2.2 19 1 = some 11 by rw [hF.2.1]; exact hr0), SD_pat hSg hm⟩
theorem cn_X5_takePatch_11 (E : ME) (h : AH) (zb : Nat → Nat) (zn zp zs : Nat) (zt : PSt) (hD : RDs 11 zb zn zp zt h) (hO : POK zt) (hs : h.2.1 1 2 = nI zs) : Con E mX5_takePatch 5 0 0 [.ref 19] h (fun r h' => ∃ zx, r = some (.int zx) ∧ LOz 11 zb zn (lnE zb zn (patB zb zn zs zp zt)) h h' zx) := by
  refine con_of2 (L := [some (.ref 19), none, none, none, none]) rfl (Nat.le_of_ble_eq_true rfl) rfl ?_
  refine ev_aload_n (pc := 0) dX5_takePatch_0 rfl ?_
  refine ev_getR (pc := 1) (q := 11) dX5_takePatch_1 fX5_15 rfl (wlt hD.1.1 (by decide)) hD.2.1 ?_
  refine ev_callVv (S := []) (pc := 4) dX5_takePatch_4 kX8_things lX5_98 vX8_things (cn_X8_things_11 E h zt hD.1.1 hD.2.2.1 hO) rfl rfl (wlt hD.1.1 (by decide)) rfl rfl (Nat.le_of_ble_eq_true rfl) ⟨Nat.le_of_ble_eq_true rfl, Nat.le_of_ble_eq_true rfl⟩ ⟨Nat.le_of_ble_eq_true rfl, Nat.le_of_ble_eq_true rfl⟩ ?_
  refine ev_bipush (pc := 7) (v := 12) dX5_takePatch_7 (by decide) ?_
  refine ev_icmp_lt (pc := 9) (tgt := 18) dX5_takePatch_9 (by decide) (fun zc9 => ?_) (fun zc9 => ?_)
  · -- lt at 9: taken
    refine ev_iconst (pc := 18) (v := 0) dX5_takePatch_18 (by decide) ?_
    refine ev_istore_n (pc := 19) (L' := [some (.ref 19), some (.int 0), none, none, none]) dX5_takePatch_19 (Nat.le_of_ble_eq_true rfl) rfl ?_
    refine ev_iconst (pc := 20) (v := 0) dX5_takePatch_20 (by decide) ?_
    refine ev_istore_n (pc := 21) (L' := [some (.ref 19), some (.int 0), some (.int 0), none, none]) dX5_takePatch_21 (Nat.le_of_ble_eq_true rfl) rfl ?_
    have hm : zt.1 1 < 12 := (nI_ltI (a := zt.1 1) (b := 12) (by have := hO.1; omega) (by decide)).mp zc9
    exact lp_cpatch_11 E h zb zn zs zp zt hD.2.1 hD.2.2 hO hm 13 0 zp 0 h hD.1 (FrT_0 h) rfl (by rw [fb_ct_zero.mpr (fun zk _ => Nat.zero_testBit zk)]) rfl rfl
  · -- lt at 9: not taken
    refine ev_aload_n (pc := 12) dX5_takePatch_12 rfl ?_
    refine ev_iconst (pc := 13) (v := 5) dX5_takePatch_13 (by decide) ?_
    refine ev_callVv (S := []) (pc := 14) dX5_takePatch_14 kX5_refuse lX5_40 vX5_refuse (cn_X5_refuse E h 5 hD.1.1) rfl rfl (wlt hD.1.1 (by decide)) rfl rfl (Nat.le_of_ble_eq_true rfl) ⟨Nat.le_of_ble_eq_true rfl, Nat.le_of_ble_eq_true rfl⟩ ⟨Nat.le_of_ble_eq_true rfl, Nat.le_of_ble_eq_true rfl⟩ ?_
    refine ev_eqH (h' := (rfH h 5)) rfl ?_
    refine ev_iret (pc := 17) dX5_takePatch_17 rfl ?_ ?_
    · first | rfl | exact nar_bI _ | (simp only [*]; exact nar_bI _) | (simp [narrow, *]; done)
    · have z12 : zt.1 1 = 12 := by
        have z1 := hO.1
        have z2 : ¬ zt.1 1 < 12 := fun z => zc9 (nI_lt (a := zt.1 1) (b := 12) z (by decide))
        omega
      exact ⟨0, rfl, LO_bad (FrD_T (rf_fr _ _)) ((pat_l zb zn zs zp zt rfl).trans (ck_1 (show ¬ (if zt.1 1 = 12 then 5 else 0) = 0 by rw [if_pos z12]; decide))) (by rw [if_pos z12]; decide) (show (5 : Int32) = nI (if zt.1 1 = 12 then 5 else 0) by rw [if_pos z12]; rfl) hs⟩
