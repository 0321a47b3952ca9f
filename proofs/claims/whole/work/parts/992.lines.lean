theorem nar_01 {zx : Int32} (h : zx = 1 ∨ zx = 0) : narrow .boolean (.int zx) = .int zx := by rcases h with rfl | rfl <;> rfl
theorem OU_01 {zb : Nat → Nat} {zn : Nat} {zc : Nat × Nat} {zp : Nat} {h g : AH} {zx : Int32} (hR : OUt zb zn zc zp h g zx) : zx = 1 ∨ zx = 0 := by
  by_cases z : zc.1 = 0
  · exact Or.inl (hR.2.1 z).1
  · exact Or.inr (hR.2.2 z).1
theorem or32 {zx zn : Nat} (hn : zn < 13) : nI zx ||| (1 : Int32) <<< (nI zn &&& 31) = nI (zx ||| 2 ^ zn) := (if_or32t hn trivial).trans (by rw [if_pos trivial])
theorem rw_fr {zq : Nat} (h : AH) (zn : Nat) (za zc : Int32) (hq : zq = 3 ∨ zq = 11) : FrD zq h (rwH h zq zn za zc) := FrD_t (FrD_t (FrD_s h hq (by omega) (by omega)) (FrD_s _ hq (by omega) (by omega))) (FrD_s _ hq (by omega) (by omega))
theorem pt_fr {zq : Nat} (h : AH) (zn : Nat) (za : Int32) (hq : zq = 3 ∨ zq = 11) : FrD zq h (ptH h zq zn za) := FrD_t (FrD_s h hq (by omega) (by omega)) (FrD_s _ hq (by omega) (by omega))
theorem gv_fr {zq : Nat} (h : AH) (za : Nat) (zv : Int32) (hq : zq = 3 ∨ zq = 11) : FrD zq h (gvH h zq za zv) := FrD_s h hq (by omega) (by omega)
theorem ap_fr {zq : Nat} (h : AH) (zv : Int32) (hq : zq = 3 ∨ zq = 11) : FrD zq h (apH h zq zv) := FrD_s h hq (by omega) (by omega)
theorem qu_fr {zq : Nat} (h : AH) (zc : Nat) (za zd zv : Int32) (hq : zq = 3 ∨ zq = 11) : FrD zq h (quH h zq zc za zd zv) := FrD_t (FrD_t (FrD_s h hq (by omega) (by omega)) (FrD_s _ hq (by omega) (by omega))) (FrD_s _ hq (by omega) (by omega))
theorem wd_b {zb : Nat → Nat} {zn zp zj : Nat} (hp : zp ≤ zn) (h : tK zb zn zp = 2) (h1 : tS zb zn zp ≤ zj) (h2 : zj < tE zb zn zp) : 97 ≤ zb zj ∧ zb zj ≤ 122 := by
  have h3 := tk_2 h
  have h4 := rn_ok zb isL (tS_ok zb hp).2
  exact of_decide_eq_true (h4.2.2.2 zj h1 (by rw [← h3.2.2]; exact h2))
theorem cn_X5_takeRow_3 (E : ME) (h : AH) (zb : Nat → Nat) (zn zp zs : Nat) (zt : PSt) (hD : RDs 3 zb zn zp zt h) (hO : POK zt) (hs : h.2.1 1 2 = nI zs) : Con E mX5_takeRow 5 0 0 [.ref 19] h (fun r h' => ∃ zx, r = some (.int zx) ∧ LOz 3 zb zn (lnE zb zn (rowB zb zn zs zp zt)) h h' zx) := by
  refine con_of2 (L := [some (.ref 19), none]) rfl (Nat.le_of_ble_eq_true rfl) rfl ?_
  refine ev_aload_n (pc := 0) dX5_takeRow_0 rfl ?_
  refine ev_getR (pc := 1) (q := 3) dX5_takeRow_1 fX5_15 rfl (wlt hD.1.1 (by decide)) hD.2.1 ?_
  refine ev_callVv (S := []) (pc := 4) dX5_takeRow_4 kX8_things lX5_98 vX8_things (cn_X8_things_3 E h zt hD.1.1 hD.2.2.1 hO) rfl rfl (wlt hD.1.1 (by decide)) rfl rfl (Nat.le_of_ble_eq_true rfl) ⟨Nat.le_of_ble_eq_true rfl, Nat.le_of_ble_eq_true rfl⟩ ⟨Nat.le_of_ble_eq_true rfl, Nat.le_of_ble_eq_true rfl⟩ ?_
  refine ev_bipush (pc := 7) (v := 12) dX5_takeRow_7 (by decide) ?_
  refine ev_icmp_lt (pc := 9) (tgt := 18) dX5_takeRow_9 (by decide) (fun zc9 => ?_) (fun zc9 => ?_)
  · -- lt at 9: taken
    have hm : zt.1 1 < 12 := (nI_ltI (a := zt.1 1) (b := 12) (by have := hO.1; omega) (by decide)).mp zc9
    refine ev_aload_n (pc := 18) dX5_takeRow_18 rfl ?_
    refine ev_iconst (pc := 19) (v := 1) dX5_takeRow_19 (by decide) ?_
    refine ev_bipush (pc := 20) (v := 99) dX5_takeRow_20 (by decide) ?_
    refine ev_callV (S := []) (pc := 22) dX5_takeRow_22 kX5_takeNumber lX5_101 vX5_takeNumber (cn_X5_takeNumber E h zb zn zp 1 100 99 hD.1 (by decide) (by decide) (by decide)) rfl rfl (wlt hD.1.1 (by decide)) rfl rfl (Nat.le_of_ble_eq_true rfl) ⟨Nat.le_of_ble_eq_true rfl, Nat.le_of_ble_eq_true rfl⟩ ⟨Nat.le_of_ble_eq_true rfl, Nat.le_of_ble_eq_true rfl⟩ ?_
    rintro _ zg1 ⟨zx1, rfl, hR1, hN1⟩
    refine ev_if_ne (pc := 25) (tgt := 30) dX5_takeRow_25 (by decide) (fun zc25 => ?_) (fun zc25 => ?_)
    · -- ne at 25: taken
      refine ev_aload_n (pc := 30) dX5_takeRow_30 rfl ?_
      refine ev_getI (pc := 31) dX5_takeRow_31 fX5_56 rfl (wlt (FrT_w hR1.1 hD.1.1) (by decide)) ?_
      refine ev_eqI (e' := nI (tV zb zn zp)) (hN1 (OU_t hR1 zc25).1).1 ?_
      refine ev_istore_n (pc := 34) (L' := [some (.ref 19), some (.int (nI (tV zb zn zp)))]) dX5_takeRow_34 (Nat.le_of_ble_eq_true rfl) rfl ?_
      refine ev_aload_n (pc := 35) dX5_takeRow_35 rfl ?_
      refine ev_iconst (pc := 36) (v := 1) dX5_takeRow_36 (by decide) ?_
      refine ev_sipush (pc := 37) (v := 999) dX5_takeRow_37 (by decide) ?_
      refine ev_callV (S := []) (pc := 40) dX5_takeRow_40 kX5_takeNumber lX5_101 vX5_takeNumber (cn_X5_takeNumber E zg1 zb zn (tE zb zn zp) 1 1000 999 (OU_t hR1 zc25).2.1 (by decide) (by decide) (by decide)) rfl rfl (wlt (FrT_w hR1.1 hD.1.1) (by decide)) rfl rfl (Nat.le_of_ble_eq_true rfl) ⟨Nat.le_of_ble_eq_true rfl, Nat.le_of_ble_eq_true rfl⟩ ⟨Nat.le_of_ble_eq_true rfl, Nat.le_of_ble_eq_true rfl⟩ ?_
      rintro _ zg2 ⟨zx2, rfl, hR2, hN2⟩
      refine ev_if_ne (pc := 43) (tgt := 48) dX5_takeRow_43 (by decide) (fun zc43 => ?_) (fun zc43 => ?_)
      · -- ne at 43: taken
        refine ev_aload_n (pc := 48) dX5_takeRow_48 rfl ?_
        refine ev_getR (pc := 49) (q := 3) dX5_takeRow_49 fX5_15 rfl (wlt (FrT_w hR2.1 (OU_t hR1 zc25).2.1.1) (by decide)) (show zg2.2.2.2 19 1 = some 3 by rw [hR2.1.2.1, hR1.1.2.1]; exact hD.2.1) ?_
        refine ev_iload_n (pc := 52) dX5_takeRow_52 rfl ?_
        refine ev_aload_n (pc := 53) dX5_takeRow_53 rfl ?_
        refine ev_getI (pc := 54) dX5_takeRow_54 fX5_56 rfl (wlt (FrT_w hR2.1 (OU_t hR1 zc25).2.1.1) (by decide)) ?_
        refine ev_eqI (e' := nI (tV zb zn (tE zb zn zp))) (hN2 (OU_t hR2 zc43).1).1 ?_
        refine ev_callV0 (S := []) (pc := 57) dX5_takeRow_57 kX8_addRow lX5_105 vX8_addRow (cn_X8_addRow_3 E zg2 (nI (tV zb zn zp)) (nI (tV zb zn (tE zb zn zp))) (zt.1 1) (FrT_w hR2.1 (OU_t hR1 zc25).2.1.1) (SD_T (by decide : (3 : Nat) = 3 ∨ 3 = 11) hR2.1 (SD_T (by decide : (3 : Nat) = 3 ∨ 3 = 11) hR1.1 hD.2.2)).1.1 hm) rfl rfl (wlt (FrT_w hR2.1 (OU_t hR1 zc25).2.1.1) (by decide)) rfl rfl (Nat.le_of_ble_eq_true rfl) ⟨Nat.le_of_ble_eq_true rfl, Nat.le_of_ble_eq_true rfl⟩ ⟨Nat.le_of_ble_eq_true rfl, Nat.le_of_ble_eq_true rfl⟩ ?_
        refine ev_eqH (h' := (rwH zg2 3 (zt.1 1) (nI (tV zb zn zp)) (nI (tV zb zn (tE zb zn zp))))) rfl ?_
        have hPk : TPz zb zn (tE zb zn (tE zb zn zp)) (rwH zg2 3 (zt.1 1) (nI (tV zb zn zp)) (nI (tV zb zn (tE zb zn zp)))) := ⟨FrD_w (rw_fr zg2 _ _ _ (by decide : (3 : Nat) = 3 ∨ 3 = 11)) (OU_t hR2 zc43).2.1.1, FrD_C (by decide : (3 : Nat) = 3 ∨ 3 = 11) (rw_fr zg2 _ _ _ (by decide : (3 : Nat) = 3 ∨ 3 = 11)) (OU_t hR2 zc43).2.1.2.1, (OU_t hR2 zc43).2.1.2.2⟩
        refine ev_aload_n (pc := 60) dX5_takeRow_60 rfl ?_
        refine ev_iconst (pc := 61) (v := 4) dX5_takeRow_61 (by decide) ?_
        refine ev_callV (S := []) (pc := 62) dX5_takeRow_62 kX5_takeKind lX5_50 vX5_takeKind (cn_X5_takeKind E (rwH zg2 3 (zt.1 1) (nI (tV zb zn zp)) (nI (tV zb zn (tE zb zn zp)))) zb zn (tE zb zn (tE zb zn zp)) 4 hPk (by decide)) rfl rfl (wlt (FrD_w (rw_fr zg2 _ _ _ (by decide : (3 : Nat) = 3 ∨ 3 = 11)) (OU_t hR2 zc43).2.1.1) (by decide)) rfl rfl (Nat.le_of_ble_eq_true rfl) ⟨Nat.le_of_ble_eq_true rfl, Nat.le_of_ble_eq_true rfl⟩ ⟨Nat.le_of_ble_eq_true rfl, Nat.le_of_ble_eq_true rfl⟩ ?_
        rintro _ zg3 ⟨zx3, rfl, hR3, hN3⟩
        refine ev_iret (pc := 65) dX5_takeRow_65 rfl ?_ ?_
        · exact nar_01 (OU_01 hR3)
        · refine ⟨zx3, rfl, LO_last (by decide : (3 : Nat) = 3 ∨ 3 = 11) (FrD_t (FrD_T (FrT_t hR1.1 hR2.1)) (rw_fr zg2 _ _ _ (by decide : (3 : Nat) = 3 ∨ 3 = 11))) ((OU_t hR2 zc43).2.2.trans (OU_t hR1 zc25).2.2) (show zg2.2.2.2 19 1 = some 3 by rw [hR2.1.2.1, hR1.1.2.1]; exact hD.2.1) (SD_row (za := (tV zb zn zp)) (zc := (tV zb zn (tE zb zn zp))) (SD_T (by decide : (3 : Nat) = 3 ∨ 3 = 11) hR2.1 (SD_T (by decide : (3 : Nat) = 3 ∨ 3 = 11) hR1.1 hD.2.2)) hm) ((row_l zb zn zs zp zt).trans ((ck_0 (if_neg (fun z => by rw [z] at zc9; exact absurd zc9 (by decide)))).trans ((ck_0 (OU_t hR1 zc25).1).trans (ck_0 (OU_t hR2 zc43).1)))) hR3⟩
      · -- ne at 43: not taken
        refine ev_iconst (pc := 46) (v := 0) dX5_takeRow_46 (by decide) ?_
        refine ev_iret (pc := 47) dX5_takeRow_47 rfl ?_ ?_
        · first | rfl | exact nar_bI _ | (simp only [*]; exact nar_bI _) | (simp [narrow, *]; done)
        · have zz := OU_f hR2 zc43
          exact ⟨0, rfl, LO_bad (FrD_T (FrT_t hR1.1 hR2.1)) ((row_l zb zn zs zp zt).trans ((ck_0 (if_neg (fun z => by rw [z] at zc9; exact absurd zc9 (by decide)))).trans ((ck_0 (OU_t hR1 zc25).1).trans (ck_1 zz.1)))) zz.1 zz.2.1 zz.2.2⟩
    · -- ne at 25: not taken
      refine ev_iconst (pc := 28) (v := 0) dX5_takeRow_28 (by decide) ?_
      refine ev_iret (pc := 29) dX5_takeRow_29 rfl ?_ ?_
      · first | rfl | exact nar_bI _ | (simp only [*]; exact nar_bI _) | (simp [narrow, *]; done)
      · have zz := OU_f hR1 zc25
        exact ⟨0, rfl, LO_bad (FrD_T hR1.1) ((row_l zb zn zs zp zt).trans ((ck_0 (if_neg (fun z => by rw [z] at zc9; exact absurd zc9 (by decide)))).trans (ck_1 zz.1))) zz.1 zz.2.1 zz.2.2⟩
  · -- lt at 9: not taken
    refine ev_aload_n (pc := 12) dX5_takeRow_12 rfl ?_
    refine ev_iconst (pc := 13) (v := 5) dX5_takeRow_13 (by decide) ?_
    refine ev_callVv (S := []) (pc := 14) dX5_takeRow_14 kX5_refuse lX5_40 vX5_refuse (cn_X5_refuse E h 5 hD.1.1) rfl rfl (wlt hD.1.1 (by decide)) rfl rfl (Nat.le_of_ble_eq_true rfl) ⟨Nat.le_of_ble_eq_true rfl, Nat.le_of_ble_eq_true rfl⟩ ⟨Nat.le_of_ble_eq_true rfl, Nat.le_of_ble_eq_true rfl⟩ ?_
    refine ev_eqH (h' := (rfH h 5)) rfl ?_
    refine ev_iret (pc := 17) dX5_takeRow_17 rfl ?_ ?_
    · first | rfl | exact nar_bI _ | (simp only [*]; exact nar_bI _) | (simp [narrow, *]; done)
    · have z12 : zt.1 1 = 12 := by
        have z1 := hO.1
        have z2 : ¬ zt.1 1 < 12 := fun z => zc9 (nI_lt (a := zt.1 1) (b := 12) z (by decide))
        omega
      exact ⟨0, rfl, LO_bad (FrD_T (rf_fr _ _)) ((row_l zb zn zs zp zt).trans (ck_1 (show ¬ (if zt.1 1 = 12 then 5 else 0) = 0 by rw [if_pos z12]; decide))) (by rw [if_pos z12]; decide) (show (5 : Int32) = nI (if zt.1 1 = 12 then 5 else 0) by rw [if_pos z12]; rfl) hs⟩
theorem cn_X5_takeApart_3 (E : ME) (h : AH) (zb : Nat → Nat) (zn zp zs : Nat) (zt : PSt) (hD : RDs 3 zb zn zp zt h) (hO : POK zt) (hs : h.2.1 1 2 = nI zs) : Con E mX5_takeApart 5 0 0 [.ref 19] h (fun r h' => ∃ zx, r = some (.int zx) ∧ LOz 3 zb zn (lnE zb zn (apaB zb zn zs zp zt)) h h' zx) := by
  refine con_of2 (L := [some (.ref 19)]) rfl (Nat.le_of_ble_eq_true rfl) rfl ?_
  refine ev_aload_n (pc := 0) dX5_takeApart_0 rfl ?_
  refine ev_getR (pc := 1) (q := 3) dX5_takeApart_1 fX5_15 rfl (wlt hD.1.1 (by decide)) hD.2.1 ?_
  refine ev_callVv (S := []) (pc := 4) dX5_takeApart_4 kX8_apartIsTold lX5_122 vX8_apartIsTold (cn_X8_apartIsTold_3 E h (¬ zt.1 4 = 0) hD.1.1 hD.2.2.2.1) rfl rfl (wlt hD.1.1 (by decide)) rfl rfl (Nat.le_of_ble_eq_true rfl) ⟨Nat.le_of_ble_eq_true rfl, Nat.le_of_ble_eq_true rfl⟩ ⟨Nat.le_of_ble_eq_true rfl, Nat.le_of_ble_eq_true rfl⟩ ?_
  refine ev_if_eq (pc := 7) (tgt := 16) dX5_takeApart_7 (by decide) (fun zc7 => ?_) (fun zc7 => ?_)
  · -- eq at 7: taken
    refine ev_aload_n (pc := 16) dX5_takeApart_16 rfl ?_
    refine ev_iconst (pc := 17) (v := 0) dX5_takeApart_17 (by decide) ?_
    refine ev_bipush (pc := 18) (v := 99) dX5_takeApart_18 (by decide) ?_
    refine ev_callV (S := []) (pc := 20) dX5_takeApart_20 kX5_takeNumber lX5_101 vX5_takeNumber (cn_X5_takeNumber E h zb zn zp 0 100 99 hD.1 (by decide) (by decide) (by decide)) rfl rfl (wlt hD.1.1 (by decide)) rfl rfl (Nat.le_of_ble_eq_true rfl) ⟨Nat.le_of_ble_eq_true rfl, Nat.le_of_ble_eq_true rfl⟩ ⟨Nat.le_of_ble_eq_true rfl, Nat.le_of_ble_eq_true rfl⟩ ?_
    rintro _ zg1 ⟨zx1, rfl, hR1, hN1⟩
    refine ev_if_ne (pc := 23) (tgt := 28) dX5_takeApart_23 (by decide) (fun zc23 => ?_) (fun zc23 => ?_)
    · -- ne at 23: taken
      refine ev_aload_n (pc := 28) dX5_takeApart_28 rfl ?_
      refine ev_getR (pc := 29) (q := 3) dX5_takeApart_29 fX5_15 rfl (wlt (FrT_w hR1.1 hD.1.1) (by decide)) (show zg1.2.2.2 19 1 = some 3 by rw [hR1.1.2.1]; exact hD.2.1) ?_
      refine ev_aload_n (pc := 32) dX5_takeApart_32 rfl ?_
      refine ev_getI (pc := 33) dX5_takeApart_33 fX5_56 rfl (wlt (FrT_w hR1.1 hD.1.1) (by decide)) ?_
      refine ev_eqI (e' := nI (tV zb zn zp)) (hN1 (OU_t hR1 zc23).1).1 ?_
      refine ev_callV0 (S := []) (pc := 36) dX5_takeApart_36 kX8_tellApart lX5_125 vX8_tellApart (cn_X8_tellApart_3 E zg1 (nI (tV zb zn zp)) (FrT_w hR1.1 hD.1.1)) rfl rfl (wlt (FrT_w hR1.1 hD.1.1) (by decide)) rfl rfl (Nat.le_of_ble_eq_true rfl) ⟨Nat.le_of_ble_eq_true rfl, Nat.le_of_ble_eq_true rfl⟩ ⟨Nat.le_of_ble_eq_true rfl, Nat.le_of_ble_eq_true rfl⟩ ?_
      refine ev_eqH (h' := (apH zg1 3 (nI (tV zb zn zp)))) rfl ?_
      have hPk : TPz zb zn (tE zb zn zp) (apH zg1 3 (nI (tV zb zn zp))) := ⟨FrD_w (ap_fr zg1 _ (by decide : (3 : Nat) = 3 ∨ 3 = 11)) (OU_t hR1 zc23).2.1.1, FrD_C (by decide : (3 : Nat) = 3 ∨ 3 = 11) (ap_fr zg1 _ (by decide : (3 : Nat) = 3 ∨ 3 = 11)) (OU_t hR1 zc23).2.1.2.1, (OU_t hR1 zc23).2.1.2.2⟩
      refine ev_aload_n (pc := 39) dX5_takeApart_39 rfl ?_
      refine ev_iconst (pc := 40) (v := 4) dX5_takeApart_40 (by decide) ?_
      refine ev_callV (S := []) (pc := 41) dX5_takeApart_41 kX5_takeKind lX5_50 vX5_takeKind (cn_X5_takeKind E (apH zg1 3 (nI (tV zb zn zp))) zb zn (tE zb zn zp) 4 hPk (by decide)) rfl rfl (wlt (FrD_w (ap_fr zg1 _ (by decide : (3 : Nat) = 3 ∨ 3 = 11)) (OU_t hR1 zc23).2.1.1) (by decide)) rfl rfl (Nat.le_of_ble_eq_true rfl) ⟨Nat.le_of_ble_eq_true rfl, Nat.le_of_ble_eq_true rfl⟩ ⟨Nat.le_of_ble_eq_true rfl, Nat.le_of_ble_eq_true rfl⟩ ?_
      rintro _ zg2 ⟨zx2, rfl, hR2, hN2⟩
      refine ev_iret (pc := 44) dX5_takeApart_44 rfl ?_ ?_
      · exact nar_01 (OU_01 hR2)
      · refine ⟨zx2, rfl, LO_last (by decide : (3 : Nat) = 3 ∨ 3 = 11) (FrD_t (FrD_T hR1.1) (ap_fr zg1 _ (by decide : (3 : Nat) = 3 ∨ 3 = 11))) (OU_t hR1 zc23).2.2 (show zg1.2.2.2 19 1 = some 3 by rw [hR1.1.2.1]; exact hD.2.1) (SD_apa (zv := (tV zb zn zp)) (SD_T (by decide : (3 : Nat) = 3 ∨ 3 = 11) hR1.1 hD.2.2)) ((apa_l zb zn zs zp zt).trans ((ck_0 (if_pos (Decidable.not_not.mp (bI_0.mp zc7)))).trans (ck_0 (OU_t hR1 zc23).1))) hR2⟩
    · -- ne at 23: not taken
      refine ev_iconst (pc := 26) (v := 0) dX5_takeApart_26 (by decide) ?_
      refine ev_iret (pc := 27) dX5_takeApart_27 rfl ?_ ?_
      · first | rfl | exact nar_bI _ | (simp only [*]; exact nar_bI _) | (simp [narrow, *]; done)
      · have zz := OU_f hR1 zc23
        exact ⟨0, rfl, LO_bad (FrD_T hR1.1) ((apa_l zb zn zs zp zt).trans ((ck_0 (if_pos (Decidable.not_not.mp (bI_0.mp zc7)))).trans (ck_1 zz.1))) zz.1 zz.2.1 zz.2.2⟩
  · -- eq at 7: not taken
    refine ev_aload_n (pc := 10) dX5_takeApart_10 rfl ?_
    refine ev_iconst (pc := 11) (v := 4) dX5_takeApart_11 (by decide) ?_
    refine ev_callVv (S := []) (pc := 12) dX5_takeApart_12 kX5_refuse lX5_40 vX5_refuse (cn_X5_refuse E h 4 hD.1.1) rfl rfl (wlt hD.1.1 (by decide)) rfl rfl (Nat.le_of_ble_eq_true rfl) ⟨Nat.le_of_ble_eq_true rfl, Nat.le_of_ble_eq_true rfl⟩ ⟨Nat.le_of_ble_eq_true rfl, Nat.le_of_ble_eq_true rfl⟩ ?_
    refine ev_eqH (h' := (rfH h 4)) rfl ?_
    refine ev_iret (pc := 15) dX5_takeApart_15 rfl ?_ ?_
    · first | rfl | exact nar_bI _ | (simp only [*]; exact nar_bI _) | (simp [narrow, *]; done)
    · have z4 : ¬ zt.1 4 = 0 := bI_n0.mp zc7
      exact ⟨0, rfl, LO_bad (FrD_T (rf_fr _ _)) ((apa_l zb zn zs zp zt).trans (ck_1 (show ¬ (if zt.1 4 = 0 then 0 else 4) = 0 by rw [if_neg z4]; decide))) (by rw [if_neg z4]; decide) (show (4 : Int32) = nI (if zt.1 4 = 0 then 0 else 4) by rw [if_neg z4]; rfl) hs⟩
theorem cn_gv1_3 (E : ME) (h : AH) (zt : PSt) (za zc : Nat) (hw : WF h) (hY : STz zt 3 h) (hO : POK zt) (ha : za < zt.1 1) (hc : zc < zt.1 1) (hb : (zt.2 3 za).testBit zc = false) : Con E mX8_addGives 2 0 0 [.ref 3, .int (nI za), .int (nI zc)] h (fun r h' => r = some (.int 1) ∧ h' = gvH h 3 za (nI (zt.2 3 za ||| 2 ^ zc))) := by
  have z1 := cn_X8_addGives_3 E h zt (nI za) (nI zc) hw hY hO
  have h12 := hO.1
  have e9 : h.2.1 7 za = nI (zt.2 3 za) := (hY.2.2.2.1 za ha).2.2.2
  rw [nI_clamp (by omega)] at z1
  have hC : thg zt (nI za) ∧ (h.2.1 7 za >>> (nI zc &&& 31)) &&& 1 = 0 := ⟨thg_nI ha (by omega), by rw [e9]; exact Decidable.not_not.mp (fun z => by rw [has_b (by omega)] at z; rw [z] at hb; exact absurd hb (by decide))⟩
  rw [bI_t hC, if_pos hC, e9, or32 (by omega)] at z1
  exact z1
theorem cn_gv0_3 (E : ME) (h : AH) (zt : PSt) (za zc : Nat) (hw : WF h) (hY : STz zt 3 h) (hO : POK zt) (ha : za < zt.1 1) (hc : zc < zt.1 1) (hb : (zt.2 3 za).testBit zc = true) : Con E mX8_addGives 2 0 0 [.ref 3, .int (nI za), .int (nI zc)] h (fun r h' => r = some (.int 0) ∧ h' = h) := by
  have z1 := cn_X8_addGives_3 E h zt (nI za) (nI zc) hw hY hO
  have h12 := hO.1
  have e9 : h.2.1 7 za = nI (zt.2 3 za) := (hY.2.2.2.1 za ha).2.2.2
  rw [nI_clamp (by omega)] at z1
  have hC : ¬ (thg zt (nI za) ∧ (h.2.1 7 za >>> (nI zc &&& 31)) &&& 1 = 0) := fun z => by rw [e9] at z; exact (has_b (by omega)).mpr hb z.2
  rw [bI_f hC, if_neg hC] at z1
  exact z1
theorem cn_X5_takeGives_3 (E : ME) (h : AH) (zb : Nat → Nat) (zn zp : Nat) (zt : PSt) (hD : RDs 3 zb zn zp zt h) (hO : POK zt) : Con E mX5_takeGives 5 0 0 [.ref 19] h (fun r h' => ∃ zx, r = some (.int zx) ∧ LOz 3 zb zn (lnE zb zn (givB zb zn zp zt)) h h' zx) := by
  refine con_of2 (L := [some (.ref 19), none, none]) rfl (Nat.le_of_ble_eq_true rfl) rfl ?_
  refine ev_aload_n (pc := 0) dX5_takeGives_0 rfl ?_
  refine ev_getR (pc := 1) (q := 3) dX5_takeGives_1 fX5_15 rfl (wlt hD.1.1 (by decide)) hD.2.1 ?_
  refine ev_callVv (S := []) (pc := 4) dX5_takeGives_4 kX8_things lX5_98 vX8_things (cn_X8_things_3 E h zt hD.1.1 hD.2.2.1 hO) rfl rfl (wlt hD.1.1 (by decide)) rfl rfl (Nat.le_of_ble_eq_true rfl) ⟨Nat.le_of_ble_eq_true rfl, Nat.le_of_ble_eq_true rfl⟩ ⟨Nat.le_of_ble_eq_true rfl, Nat.le_of_ble_eq_true rfl⟩ ?_
  refine ev_iconst (pc := 7) (v := 1) dX5_takeGives_7 (by decide) ?_
  refine ev_isub (pc := 8) dX5_takeGives_8 ?_
  refine ev_istore_n (pc := 9) (L' := [some (.ref 19), some (.int ((nI (zt.1 1)) - 1)), none]) dX5_takeGives_9 (Nat.le_of_ble_eq_true rfl) rfl ?_
  refine ev_aload_n (pc := 10) dX5_takeGives_10 rfl ?_
  refine ev_iconst (pc := 11) (v := 0) dX5_takeGives_11 (by decide) ?_
  refine ev_iload_n (pc := 12) dX5_takeGives_12 rfl ?_
  refine ev_callV (S := []) (pc := 13) dX5_takeGives_13 kX5_takeNumber lX5_101 vX5_takeNumber (cn_X5_takeNumber E h zb zn zp 0 (zt.1 1) ((nI (zt.1 1)) - 1) hD.1 rfl (by decide) (by have := hO.1; omega)) rfl rfl (wlt hD.1.1 (by decide)) rfl rfl (Nat.le_of_ble_eq_true rfl) ⟨Nat.le_of_ble_eq_true rfl, Nat.le_of_ble_eq_true rfl⟩ ⟨Nat.le_of_ble_eq_true rfl, Nat.le_of_ble_eq_true rfl⟩ ?_
  rintro _ zg1 ⟨zx1, rfl, hR1, hN1⟩
  refine ev_if_ne (pc := 16) (tgt := 21) dX5_takeGives_16 (by decide) (fun zc16 => ?_) (fun zc16 => ?_)
  · -- ne at 16: taken
    refine ev_aload_n (pc := 21) dX5_takeGives_21 rfl ?_
    refine ev_getI (pc := 22) dX5_takeGives_22 fX5_56 rfl (wlt (FrT_w hR1.1 hD.1.1) (by decide)) ?_
    refine ev_eqI (e' := nI (tV zb zn zp)) (hN1 (OU_t hR1 zc16).1).1 ?_
    refine ev_istore_n (pc := 25) (L' := [some (.ref 19), some (.int ((nI (zt.1 1)) - 1)), some (.int (nI (tV zb zn zp)))]) dX5_takeGives_25 (Nat.le_of_ble_eq_true rfl) rfl ?_
    refine ev_aload_n (pc := 26) dX5_takeGives_26 rfl ?_
    refine ev_iconst (pc := 27) (v := 0) dX5_takeGives_27 (by decide) ?_
    refine ev_iload_n (pc := 28) dX5_takeGives_28 rfl ?_
    refine ev_callV (S := []) (pc := 29) dX5_takeGives_29 kX5_takeNumber lX5_101 vX5_takeNumber (cn_X5_takeNumber E zg1 zb zn (tE zb zn zp) 0 (zt.1 1) ((nI (zt.1 1)) - 1) (OU_t hR1 zc16).2.1 rfl (by decide) (by have := hO.1; omega)) rfl rfl (wlt (FrT_w hR1.1 hD.1.1) (by decide)) rfl rfl (Nat.le_of_ble_eq_true rfl) ⟨Nat.le_of_ble_eq_true rfl, Nat.le_of_ble_eq_true rfl⟩ ⟨Nat.le_of_ble_eq_true rfl, Nat.le_of_ble_eq_true rfl⟩ ?_
    rintro _ zg2 ⟨zx2, rfl, hR2, hN2⟩
    refine ev_if_ne (pc := 32) (tgt := 37) dX5_takeGives_32 (by decide) (fun zc32 => ?_) (fun zc32 => ?_)
    · -- ne at 32: taken
      have hva := (fn_0.mp (OU_t hR1 zc16).1).2.2
      have hvb := (fn_0.mp (OU_t hR2 zc32).1).2.2
      have h12 := hO.1
      refine ev_aload_n (pc := 37) dX5_takeGives_37 rfl ?_
      refine ev_getI (pc := 38) dX5_takeGives_38 fX5_56 rfl (wlt (FrT_w hR2.1 (OU_t hR1 zc16).2.1.1) (by decide)) ?_
      refine ev_eqI (e' := nI (tV zb zn (tE zb zn zp))) (hN2 (OU_t hR2 zc32).1).1 ?_
      refine ev_iload_n (pc := 41) dX5_takeGives_41 rfl ?_
      refine ev_icmp_ne (pc := 42) (tgt := 51) dX5_takeGives_42 (by decide) (fun zc42 => ?_) (fun zc42 => ?_)
      · -- ne at 42: taken
        refine ev_aload_n (pc := 51) dX5_takeGives_51 rfl ?_
        refine ev_getR (pc := 52) (q := 3) dX5_takeGives_52 fX5_15 rfl (wlt (FrT_w hR2.1 (OU_t hR1 zc16).2.1.1) (by decide)) (show zg2.2.2.2 19 1 = some 3 by rw [hR2.1.2.1, hR1.1.2.1]; exact hD.2.1) ?_
        refine ev_iload_n (pc := 55) dX5_takeGives_55 rfl ?_
        refine ev_aload_n (pc := 56) dX5_takeGives_56 rfl ?_
        refine ev_getI (pc := 57) dX5_takeGives_57 fX5_56 rfl (wlt (FrT_w hR2.1 (OU_t hR1 zc16).2.1.1) (by decide)) ?_
        refine ev_eqI (e' := nI (tV zb zn (tE zb zn zp))) (hN2 (OU_t hR2 zc32).1).1 ?_
        cases zbt : (zt.2 3 (tV zb zn zp)).testBit (tV zb zn (tE zb zn zp)) with
        | false =>
          refine ev_callVv (S := []) (pc := 60) dX5_takeGives_60 kX8_addGives lX5_119 vX8_addGives (cn_gv1_3 E zg2 zt (tV zb zn zp) (tV zb zn (tE zb zn zp)) (FrT_w hR2.1 (OU_t hR1 zc16).2.1.1) (SD_T (by decide : (3 : Nat) = 3 ∨ 3 = 11) hR2.1 (SD_T (by decide : (3 : Nat) = 3 ∨ 3 = 11) hR1.1 hD.2.2)).1 hO hva hvb zbt) rfl rfl (wlt (FrT_w hR2.1 (OU_t hR1 zc16).2.1.1) (by decide)) rfl rfl (Nat.le_of_ble_eq_true rfl) ⟨Nat.le_of_ble_eq_true rfl, Nat.le_of_ble_eq_true rfl⟩ ⟨Nat.le_of_ble_eq_true rfl, Nat.le_of_ble_eq_true rfl⟩ ?_
          refine ev_eqH (h' := (gvH zg2 3 (tV zb zn zp) (nI (zt.2 3 (tV zb zn zp) ||| 2 ^ (tV zb zn (tE zb zn zp)))))) rfl ?_
          refine ev_if_eq (pc := 63) (tgt := 74) dX5_takeGives_63 (by decide) (fun zc63 => absurd zc63 (by decide)) (fun zc63 => ?_)
          have hPk : TPz zb zn (tE zb zn (tE zb zn zp)) (gvH zg2 3 (tV zb zn zp) (nI (zt.2 3 (tV zb zn zp) ||| 2 ^ (tV zb zn (tE zb zn zp))))) := ⟨FrD_w (gv_fr zg2 _ _ (by decide : (3 : Nat) = 3 ∨ 3 = 11)) (OU_t hR2 zc32).2.1.1, FrD_C (by decide : (3 : Nat) = 3 ∨ 3 = 11) (gv_fr zg2 _ _ (by decide : (3 : Nat) = 3 ∨ 3 = 11)) (OU_t hR2 zc32).2.1.2.1, (OU_t hR2 zc32).2.1.2.2⟩
          refine ev_aload_n (pc := 66) dX5_takeGives_66 rfl ?_
          refine ev_iconst (pc := 67) (v := 4) dX5_takeGives_67 (by decide) ?_
          refine ev_callV (S := []) (pc := 68) dX5_takeGives_68 kX5_takeKind lX5_50 vX5_takeKind (cn_X5_takeKind E (gvH zg2 3 (tV zb zn zp) (nI (zt.2 3 (tV zb zn zp) ||| 2 ^ (tV zb zn (tE zb zn zp))))) zb zn (tE zb zn (tE zb zn zp)) 4 hPk (by decide)) rfl rfl (wlt (FrD_w (gv_fr zg2 _ _ (by decide : (3 : Nat) = 3 ∨ 3 = 11)) (OU_t hR2 zc32).2.1.1) (by decide)) rfl rfl (Nat.le_of_ble_eq_true rfl) ⟨Nat.le_of_ble_eq_true rfl, Nat.le_of_ble_eq_true rfl⟩ ⟨Nat.le_of_ble_eq_true rfl, Nat.le_of_ble_eq_true rfl⟩ ?_
          rintro _ zg3 ⟨zx3, rfl, hR3, hN3⟩
          refine ev_goto (pc := 71) (tgt := 79) dX5_takeGives_71 (by decide) ?_
          refine ev_iret (pc := 79) dX5_takeGives_79 rfl ?_ ?_
          · exact nar_01 (OU_01 hR3)
          · refine ⟨zx3, rfl, LO_last (by decide : (3 : Nat) = 3 ∨ 3 = 11) (FrD_t (FrD_T (FrT_t hR1.1 hR2.1)) (gv_fr zg2 _ _ (by decide : (3 : Nat) = 3 ∨ 3 = 11))) ((OU_t hR2 zc32).2.2.trans (OU_t hR1 zc16).2.2) (show zg2.2.2.2 19 1 = some 3 by rw [hR2.1.2.1, hR1.1.2.1]; exact hD.2.1) (SD_giv (za := tV zb zn zp) (zc := tV zb zn (tE zb zn zp)) (SD_T (by decide : (3 : Nat) = 3 ∨ 3 = 11) hR2.1 (SD_T (by decide : (3 : Nat) = 3 ∨ 3 = 11) hR1.1 hD.2.2)) hva) ((giv_l zb zn zp zt).trans ((ck_0 (OU_t hR1 zc16).1).trans ((ck_0 (OU_t hR2 zc32).1).trans ((ck_0 (if_neg (fun z => zc42 (congrArg nI z.symm)))).trans (ck_0 (if_neg (fun z => by rw [z] at zbt; exact absurd zbt (by decide)))))))) hR3⟩
        | true =>
          refine ev_callVv (S := []) (pc := 60) dX5_takeGives_60 kX8_addGives lX5_119 vX8_addGives (cn_gv0_3 E zg2 zt (tV zb zn zp) (tV zb zn (tE zb zn zp)) (FrT_w hR2.1 (OU_t hR1 zc16).2.1.1) (SD_T (by decide : (3 : Nat) = 3 ∨ 3 = 11) hR2.1 (SD_T (by decide : (3 : Nat) = 3 ∨ 3 = 11) hR1.1 hD.2.2)).1 hO hva hvb zbt) rfl rfl (wlt (FrT_w hR2.1 (OU_t hR1 zc16).2.1.1) (by decide)) rfl rfl (Nat.le_of_ble_eq_true rfl) ⟨Nat.le_of_ble_eq_true rfl, Nat.le_of_ble_eq_true rfl⟩ ⟨Nat.le_of_ble_eq_true rfl, Nat.le_of_ble_eq_true rfl⟩ ?_
          refine ev_if_eq (pc := 63) (tgt := 74) dX5_takeGives_63 (by decide) (fun zc63 => ?_) (fun zc63 => absurd rfl zc63)
          refine ev_aload_n (pc := 74) dX5_takeGives_74 rfl ?_
          refine ev_iconst (pc := 75) (v := 4) dX5_takeGives_75 (by decide) ?_
          refine ev_callVv (S := []) (pc := 76) dX5_takeGives_76 kX5_refuse lX5_40 vX5_refuse (cn_X5_refuse E zg2 4 (FrT_w hR2.1 (OU_t hR1 zc16).2.1.1)) rfl rfl (wlt (FrT_w hR2.1 (OU_t hR1 zc16).2.1.1) (by decide)) rfl rfl (Nat.le_of_ble_eq_true rfl) ⟨Nat.le_of_ble_eq_true rfl, Nat.le_of_ble_eq_true rfl⟩ ⟨Nat.le_of_ble_eq_true rfl, Nat.le_of_ble_eq_true rfl⟩ ?_
          refine ev_eqH (h' := (rfH zg2 4)) rfl ?_
          refine ev_iret (pc := 79) dX5_takeGives_79 rfl ?_ ?_
          · first | rfl | exact nar_bI _ | (simp only [*]; exact nar_bI _) | (simp [narrow, *]; done)
          · exact ⟨0, rfl, LO_bad (FrD_t (FrD_T (FrT_t hR1.1 hR2.1)) (FrD_T (rf_fr _ _))) ((giv_l zb zn zp zt).trans ((ck_0 (OU_t hR1 zc16).1).trans ((ck_0 (OU_t hR2 zc32).1).trans ((ck_0 (if_neg (fun z => zc42 (congrArg nI z.symm)))).trans (ck_1 (show ¬ (if (zt.2 3 (tV zb zn zp)).testBit (tV zb zn (tE zb zn zp)) then 4 else 0) = 0 by rw [if_pos zbt]; decide)))))) (by rw [if_pos zbt]; decide) (show (4 : Int32) = nI (if (zt.2 3 (tV zb zn zp)).testBit (tV zb zn (tE zb zn zp)) then 4 else 0) by rw [if_pos zbt]; rfl) (hN2 (OU_t hR2 zc32).1).2⟩
      · -- ne at 42: not taken
        refine ev_aload_n (pc := 45) dX5_takeGives_45 rfl ?_
        refine ev_iconst (pc := 46) (v := 3) dX5_takeGives_46 (by decide) ?_
        refine ev_callVv (S := []) (pc := 47) dX5_takeGives_47 kX5_refuse lX5_40 vX5_refuse (cn_X5_refuse E zg2 3 (FrT_w hR2.1 (OU_t hR1 zc16).2.1.1)) rfl rfl (wlt (FrT_w hR2.1 (OU_t hR1 zc16).2.1.1) (by decide)) rfl rfl (Nat.le_of_ble_eq_true rfl) ⟨Nat.le_of_ble_eq_true rfl, Nat.le_of_ble_eq_true rfl⟩ ⟨Nat.le_of_ble_eq_true rfl, Nat.le_of_ble_eq_true rfl⟩ ?_
        refine ev_eqH (h' := (rfH zg2 3)) rfl ?_
        refine ev_iret (pc := 50) dX5_takeGives_50 rfl ?_ ?_
        · first | rfl | exact nar_bI _ | (simp only [*]; exact nar_bI _) | (simp [narrow, *]; done)
        · have ze : tV zb zn zp = tV zb zn (tE zb zn zp) := ((nI_eq (by omega) (by omega)).mp zc42).symm
          exact ⟨0, rfl, LO_bad (FrD_t (FrD_T (FrT_t hR1.1 hR2.1)) (FrD_T (rf_fr _ _))) ((giv_l zb zn zp zt).trans ((ck_0 (OU_t hR1 zc16).1).trans ((ck_0 (OU_t hR2 zc32).1).trans (ck_1 (show ¬ (if tV zb zn zp = tV zb zn (tE zb zn zp) then 3 else 0) = 0 by rw [if_pos ze]; decide))))) (by rw [if_pos ze]; decide) (show (3 : Int32) = nI (if tV zb zn zp = tV zb zn (tE zb zn zp) then 3 else 0) by rw [if_pos ze]; rfl) (hN2 (OU_t hR2 zc32).1).2⟩
    · -- ne at 32: not taken
      refine ev_iconst (pc := 35) (v := 0) dX5_takeGives_35 (by decide) ?_
      refine ev_iret (pc := 36) dX5_takeGives_36 rfl ?_ ?_
      · first | rfl | exact nar_bI _ | (simp only [*]; exact nar_bI _) | (simp [narrow, *]; done)
      · have zz := OU_f hR2 zc32
        exact ⟨0, rfl, LO_bad (FrD_T (FrT_t hR1.1 hR2.1)) ((giv_l zb zn zp zt).trans ((ck_0 (OU_t hR1 zc16).1).trans (ck_1 zz.1))) zz.1 zz.2.1 zz.2.2⟩
  · -- ne at 16: not taken
    refine ev_iconst (pc := 19) (v := 0) dX5_takeGives_19 (by decide) ?_
    refine ev_iret (pc := 20) dX5_takeGives_20 rfl ?_ ?_
    · first | rfl | exact nar_bI _ | (simp only [*]; exact nar_bI _) | (simp [narrow, *]; done)
    · have zz := OU_f hR1 zc16
      exact ⟨0, rfl, LO_bad (FrD_T hR1.1) ((giv_l zb zn zp zt).trans (ck_1 zz.1)) zz.1 zz.2.1 zz.2.2⟩
theorem cn_X5_takeRow_11 (E : ME) (h : AH) (zb : Nat → Nat) (zn zp zs : Nat) (zt : PSt) (hD : RDs 11 zb zn zp zt h) (hO : POK zt) (hs : h.2.1 1 2 = nI zs) : Con E mX5_takeRow 5 0 0 [.ref 19] h (fun r h' => ∃ zx, r = some (.int zx) ∧ LOz 11 zb zn (lnE zb zn (rowB zb zn zs zp zt)) h h' zx) := by
  refine con_of2 (L := [some (.ref 19), none]) rfl (Nat.le_of_ble_eq_true rfl) rfl ?_
  refine ev_aload_n (pc := 0) dX5_takeRow_0 rfl ?_
  refine ev_getR (pc := 1) (q := 11) dX5_takeRow_1 fX5_15 rfl (wlt hD.1.1 (by decide)) hD.2.1 ?_
  refine ev_callVv (S := []) (pc := 4) dX5_takeRow_4 kX8_things lX5_98 vX8_things (cn_X8_things_11 E h zt hD.1.1 hD.2.2.1 hO) rfl rfl (wlt hD.1.1 (by decide)) rfl rfl (Nat.le_of_ble_eq_true rfl) ⟨Nat.le_of_ble_eq_true rfl, Nat.le_of_ble_eq_true rfl⟩ ⟨Nat.le_of_ble_eq_true rfl, Nat.le_of_ble_eq_true rfl⟩ ?_
  refine ev_bipush (pc := 7) (v := 12) dX5_takeRow_7 (by decide) ?_
  refine ev_icmp_lt (pc := 9) (tgt := 18) dX5_takeRow_9 (by decide) (fun zc9 => ?_) (fun zc9 => ?_)
  · -- lt at 9: taken
    have hm : zt.1 1 < 12 := (nI_ltI (a := zt.1 1) (b := 12) (by have := hO.1; omega) (by decide)).mp zc9
    refine ev_aload_n (pc := 18) dX5_takeRow_18 rfl ?_
    refine ev_iconst (pc := 19) (v := 1) dX5_takeRow_19 (by decide) ?_
    refine ev_bipush (pc := 20) (v := 99) dX5_takeRow_20 (by decide) ?_
    refine ev_callV (S := []) (pc := 22) dX5_takeRow_22 kX5_takeNumber lX5_101 vX5_takeNumber (cn_X5_takeNumber E h zb zn zp 1 100 99 hD.1 (by decide) (by decide) (by decide)) rfl rfl (wlt hD.1.1 (by decide)) rfl rfl (Nat.le_of_ble_eq_true rfl) ⟨Nat.le_of_ble_eq_true rfl, Nat.le_of_ble_eq_true rfl⟩ ⟨Nat.le_of_ble_eq_true rfl, Nat.le_of_ble_eq_true rfl⟩ ?_
    rintro _ zg1 ⟨zx1, rfl, hR1, hN1⟩
    refine ev_if_ne (pc := 25) (tgt := 30) dX5_takeRow_25 (by decide) (fun zc25 => ?_) (fun zc25 => ?_)
    · -- ne at 25: taken
      refine ev_aload_n (pc := 30) dX5_takeRow_30 rfl ?_
      refine ev_getI (pc := 31) dX5_takeRow_31 fX5_56 rfl (wlt (FrT_w hR1.1 hD.1.1) (by decide)) ?_
      refine ev_eqI (e' := nI (tV zb zn zp)) (hN1 (OU_t hR1 zc25).1).1 ?_
      refine ev_istore_n (pc := 34) (L' := [some (.ref 19), some (.int (nI (tV zb zn zp)))]) dX5_takeRow_34 (Nat.le_of_ble_eq_true rfl) rfl ?_
      refine ev_aload_n (pc := 35) dX5_takeRow_35 rfl ?_
      refine ev_iconst (pc := 36) (v := 1) dX5_takeRow_36 (by decide) ?_
      refine ev_sipush (pc := 37) (v := 999) dX5_takeRow_37 (by decide) ?_
      refine ev_callV (S := []) (pc := 40) dX5_takeRow_40 kX5_takeNumber lX5_101 vX5_takeNumber (cn_X5_takeNumber E zg1 zb zn (tE zb zn zp) 1 1000 999 (OU_t hR1 zc25).2.1 (by decide) (by decide) (by decide)) rfl rfl (wlt (FrT_w hR1.1 hD.1.1) (by decide)) rfl rfl (Nat.le_of_ble_eq_true rfl) ⟨Nat.le_of_ble_eq_true rfl, Nat.le_of_ble_eq_true rfl⟩ ⟨Nat.le_of_ble_eq_true rfl, Nat.le_of_ble_eq_true rfl⟩ ?_
      rintro _ zg2 ⟨zx2, rfl, hR2, hN2⟩
      refine ev_if_ne (pc := 43) (tgt := 48) dX5_takeRow_43 (by decide) (fun zc43 => ?_) (fun zc43 => ?_)
      · -- ne at 43: taken
        refine ev_aload_n (pc := 48) dX5_takeRow_48 rfl ?_
        refine ev_getR (pc := 49) (q := 11) dX5_takeRow_49 fX5_15 rfl (wlt (FrT_w hR2.1 (OU_t hR1 zc25).2.1.1) (by decide)) (show zg2.2.2.2 19 1 = some 11 by rw [hR2.1.2.1, hR1.1.2.1]; exact hD.2.1) ?_
        refine ev_iload_n (pc := 52) dX5_takeRow_52 rfl ?_
        refine ev_aload_n (pc := 53) dX5_takeRow_53 rfl ?_
        refine ev_getI (pc := 54) dX5_takeRow_54 fX5_56 rfl (wlt (FrT_w hR2.1 (OU_t hR1 zc25).2.1.1) (by decide)) ?_
        refine ev_eqI (e' := nI (tV zb zn (tE zb zn zp))) (hN2 (OU_t hR2 zc43).1).1 ?_
        refine ev_callV0 (S := []) (pc := 57) dX5_takeRow_57 kX8_addRow lX5_105 vX8_addRow (cn_X8_addRow_11 E zg2 (nI (tV zb zn zp)) (nI (tV zb zn (tE zb zn zp))) (zt.1 1) (FrT_w hR2.1 (OU_t hR1 zc25).2.1.1) (SD_T (by decide : (11 : Nat) = 3 ∨ 11 = 11) hR2.1 (SD_T (by decide : (11 : Nat) = 3 ∨ 11 = 11) hR1.1 hD.2.2)).1.1 hm) rfl rfl (wlt (FrT_w hR2.1 (OU_t hR1 zc25).2.1.1) (by decide)) rfl rfl (Nat.le_of_ble_eq_true rfl) ⟨Nat.le_of_ble_eq_true rfl, Nat.le_of_ble_eq_true rfl⟩ ⟨Nat.le_of_ble_eq_true rfl, Nat.le_of_ble_eq_true rfl⟩ ?_
        refine ev_eqH (h' := (rwH zg2 11 (zt.1 1) (nI (tV zb zn zp)) (nI (tV zb zn (tE zb zn zp))))) rfl ?_
        have hPk : TPz zb zn (tE zb zn (tE zb zn zp)) (rwH zg2 11 (zt.1 1) (nI (tV zb zn zp)) (nI (tV zb zn (tE zb zn zp)))) := ⟨FrD_w (rw_fr zg2 _ _ _ (by decide : (11 : Nat) = 3 ∨ 11 = 11)) (OU_t hR2 zc43).2.1.1, FrD_C (by decide : (11 : Nat) = 3 ∨ 11 = 11) (rw_fr zg2 _ _ _ (by decide : (11 : Nat) = 3 ∨ 11 = 11)) (OU_t hR2 zc43).2.1.2.1, (OU_t hR2 zc43).2.1.2.2⟩
        refine ev_aload_n (pc := 60) dX5_takeRow_60 rfl ?_
        refine ev_iconst (pc := 61) (v := 4) dX5_takeRow_61 (by decide) ?_
        refine ev_callV (S := []) (pc := 62) dX5_takeRow_62 kX5_takeKind lX5_50 vX5_takeKind (cn_X5_takeKind E (rwH zg2 11 (zt.1 1) (nI (tV zb zn zp)) (nI (tV zb zn (tE zb zn zp)))) zb zn (tE zb zn (tE zb zn zp)) 4 hPk (by decide)) rfl rfl (wlt (FrD_w (rw_fr zg2 _ _ _ (by decide : (11 : Nat) = 3 ∨ 11 = 11)) (OU_t hR2 zc43).2.1.1) (by decide)) rfl rfl (Nat.le_of_ble_eq_true rfl) ⟨Nat.le_of_ble_eq_true rfl, Nat.le_of_ble_eq_true rfl⟩ ⟨Nat.le_of_ble_eq_true rfl, Nat.le_of_ble_eq_true rfl⟩ ?_
        rintro _ zg3 ⟨zx3, rfl, hR3, hN3⟩
        refine ev_iret (pc := 65) dX5_takeRow_65 rfl ?_ ?_
        · exact nar_01 (OU_01 hR3)
        · refine ⟨zx3, rfl, LO_last (by decide : (11 : Nat) = 3 ∨ 11 = 11) (FrD_t (FrD_T (FrT_t hR1.1 hR2.1)) (rw_fr zg2 _ _ _ (by decide : (11 : Nat) = 3 ∨ 11 = 11))) ((OU_t hR2 zc43).2.2.trans (OU_t hR1 zc25).2.2) (show zg2.2.2.2 19 1 = some 11 by rw [hR2.1.2.1, hR1.1.2.1]; exact hD.2.1) (SD_row (za := (tV zb zn zp)) (zc := (tV zb zn (tE zb zn zp))) (SD_T (by decide : (11 : Nat) = 3 ∨ 11 = 11) hR2.1 (SD_T (by decide : (11 : Nat) = 3 ∨ 11 = 11) hR1.1 hD.2.2)) hm) ((row_l zb zn zs zp zt).trans ((ck_0 (if_neg (fun z => by rw [z] at zc9; exact absurd zc9 (by decide)))).trans ((ck_0 (OU_t hR1 zc25).1).trans (ck_0 (OU_t hR2 zc43).1)))) hR3⟩
      · -- ne at 43: not taken
        refine ev_iconst (pc := 46) (v := 0) dX5_takeRow_46 (by decide) ?_
        refine ev_iret (pc := 47) dX5_takeRow_47 rfl ?_ ?_
        · first | rfl | exact nar_bI _ | (simp only [*]; exact nar_bI _) | (simp [narrow, *]; done)
        · have zz := OU_f hR2 zc43
          exact ⟨0, rfl, LO_bad (FrD_T (FrT_t hR1.1 hR2.1)) ((row_l zb zn zs zp zt).trans ((ck_0 (if_neg (fun z => by rw [z] at zc9; exact absurd zc9 (by decide)))).trans ((ck_0 (OU_t hR1 zc25).1).trans (ck_1 zz.1)))) zz.1 zz.2.1 zz.2.2⟩
    · -- ne at 25: not taken
      refine ev_iconst (pc := 28) (v := 0) dX5_takeRow_28 (by decide) ?_
      refine ev_iret (pc := 29) dX5_takeRow_29 rfl ?_ ?_
      · first | rfl | exact nar_bI _ | (simp only [*]; exact nar_bI _) | (simp [narrow, *]; done)
      · have zz := OU_f hR1 zc25
        exact ⟨0, rfl, LO_bad (FrD_T hR1.1) ((row_l zb zn zs zp zt).trans ((ck_0 (if_neg (fun z => by rw [z] at zc9; exact absurd zc9 (by decide)))).trans (ck_1 zz.1))) zz.1 zz.2.1 zz.2.2⟩
  · -- lt at 9: not taken
    refine ev_aload_n (pc := 12) dX5_takeRow_12 rfl ?_
    refine ev_iconst (pc := 13) (v := 5) dX5_takeRow_13 (by decide) ?_
    refine ev_callVv (S := []) (pc := 14) dX5_takeRow_14 kX5_refuse lX5_40 vX5_refuse (cn_X5_refuse E h 5 hD.1.1) rfl rfl (wlt hD.1.1 (by decide)) rfl rfl (Nat.le_of_ble_eq_true rfl) ⟨Nat.le_of_ble_eq_true rfl, Nat.le_of_ble_eq_true rfl⟩ ⟨Nat.le_of_ble_eq_true rfl, Nat.le_of_ble_eq_true rfl⟩ ?_
    refine ev_eqH (h' := (rfH h 5)) rfl ?_
    refine ev_iret (pc := 17) dX5_takeRow_17 rfl ?_ ?_
    · first | rfl | exact nar_bI _ | (simp only [*]; exact nar_bI _) | (simp [narrow, *]; done)
    · have z12 : zt.1 1 = 12 := by
        have z1 := hO.1
        have z2 : ¬ zt.1 1 < 12 := fun z => zc9 (nI_lt (a := zt.1 1) (b := 12) z (by decide))
        omega
      exact ⟨0, rfl, LO_bad (FrD_T (rf_fr _ _)) ((row_l zb zn zs zp zt).trans (ck_1 (show ¬ (if zt.1 1 = 12 then 5 else 0) = 0 by rw [if_pos z12]; decide))) (by rw [if_pos z12]; decide) (show (5 : Int32) = nI (if zt.1 1 = 12 then 5 else 0) by rw [if_pos z12]; rfl) hs⟩
theorem cn_X5_takeApart_11 (E : ME) (h : AH) (zb : Nat → Nat) (zn zp zs : Nat) (zt : PSt) (hD : RDs 11 zb zn zp zt h) (hO : POK zt) (hs : h.2.1 1 2 = nI zs) : Con E mX5_takeApart 5 0 0 [.ref 19] h (fun r h' => ∃ zx, r = some (.int zx) ∧ LOz 11 zb zn (lnE zb zn (apaB zb zn zs zp zt)) h h' zx) := by
  refine con_of2 (L := [some (.ref 19)]) rfl (Nat.le_of_ble_eq_true rfl) rfl ?_
  refine ev_aload_n (pc := 0) dX5_takeApart_0 rfl ?_
  refine ev_getR (pc := 1) (q := 11) dX5_takeApart_1 fX5_15 rfl (wlt hD.1.1 (by decide)) hD.2.1 ?_
  refine ev_callVv (S := []) (pc := 4) dX5_takeApart_4 kX8_apartIsTold lX5_122 vX8_apartIsTold (cn_X8_apartIsTold_11 E h (¬ zt.1 4 = 0) hD.1.1 hD.2.2.2.1) rfl rfl (wlt hD.1.1 (by decide)) rfl rfl (Nat.le_of_ble_eq_true rfl) ⟨Nat.le_of_ble_eq_true rfl, Nat.le_of_ble_eq_true rfl⟩ ⟨Nat.le_of_ble_eq_true rfl, Nat.le_of_ble_eq_true rfl⟩ ?_
  refine ev_if_eq (pc := 7) (tgt := 16) dX5_takeApart_7 (by decide) (fun zc7 => ?_) (fun zc7 => ?_)
  · -- eq at 7: taken
    refine ev_aload_n (pc := 16) dX5_takeApart_16 rfl ?_
    refine ev_iconst (pc := 17) (v := 0) dX5_takeApart_17 (by decide) ?_
    refine ev_bipush (pc := 18) (v := 99) dX5_takeApart_18 (by decide) ?_
    refine ev_callV (S := []) (pc := 20) dX5_takeApart_20 kX5_takeNumber lX5_101 vX5_takeNumber (cn_X5_takeNumber E h zb zn zp 0 100 99 hD.1 (by decide) (by decide) (by decide)) rfl rfl (wlt hD.1.1 (by decide)) rfl rfl (Nat.le_of_ble_eq_true rfl) ⟨Nat.le_of_ble_eq_true rfl, Nat.le_of_ble_eq_true rfl⟩ ⟨Nat.le_of_ble_eq_true rfl, Nat.le_of_ble_eq_true rfl⟩ ?_
    rintro _ zg1 ⟨zx1, rfl, hR1, hN1⟩
    refine ev_if_ne (pc := 23) (tgt := 28) dX5_takeApart_23 (by decide) (fun zc23 => ?_) (fun zc23 => ?_)
    · -- ne at 23: taken
      refine ev_aload_n (pc := 28) dX5_takeApart_28 rfl ?_
      refine ev_getR (pc := 29) (q := 11) dX5_takeApart_29 fX5_15 rfl (wlt (FrT_w hR1.1 hD.1.1) (by decide)) (show zg1.2.2.2 19 1 = some 11 by rw [hR1.1.2.1]; exact hD.2.1) ?_
      refine ev_aload_n (pc := 32) dX5_takeApart_32 rfl ?_
      refine ev_getI (pc := 33) dX5_takeApart_33 fX5_56 rfl (wlt (FrT_w hR1.1 hD.1.1) (by decide)) ?_
      refine ev_eqI (e' := nI (tV zb zn zp)) (hN1 (OU_t hR1 zc23).1).1 ?_
      refine ev_callV0 (S := []) (pc := 36) dX5_takeApart_36 kX8_tellApart lX5_125 vX8_tellApart (cn_X8_tellApart_11 E zg1 (nI (tV zb zn zp)) (FrT_w hR1.1 hD.1.1)) rfl rfl (wlt (FrT_w hR1.1 hD.1.1) (by decide)) rfl rfl (Nat.le_of_ble_eq_true rfl) ⟨Nat.le_of_ble_eq_true rfl, Nat.le_of_ble_eq_true rfl⟩ ⟨Nat.le_of_ble_eq_true rfl, Nat.le_of_ble_eq_true rfl⟩ ?_
      refine ev_eqH (h' := (apH zg1 11 (nI (tV zb zn zp)))) rfl ?_
      have hPk : TPz zb zn (tE zb zn zp) (apH zg1 11 (nI (tV zb zn zp))) := ⟨FrD_w (ap_fr zg1 _ (by decide : (11 : Nat) = 3 ∨ 11 = 11)) (OU_t hR1 zc23).2.1.1, FrD_C (by decide : (11 : Nat) = 3 ∨ 11 = 11) (ap_fr zg1 _ (by decide : (11 : Nat) = 3 ∨ 11 = 11)) (OU_t hR1 zc23).2.1.2.1, (OU_t hR1 zc23).2.1.2.2⟩
      refine ev_aload_n (pc := 39) dX5_takeApart_39 rfl ?_
      refine ev_iconst (pc := 40) (v := 4) dX5_takeApart_40 (by decide) ?_
      refine ev_callV (S := []) (pc := 41) dX5_takeApart_41 kX5_takeKind lX5_50 vX5_takeKind (cn_X5_takeKind E (apH zg1 11 (nI (tV zb zn zp))) zb zn (tE zb zn zp) 4 hPk (by decide)) rfl rfl (wlt (FrD_w (ap_fr zg1 _ (by decide : (11 : Nat) = 3 ∨ 11 = 11)) (OU_t hR1 zc23).2.1.1) (by decide)) rfl rfl (Nat.le_of_ble_eq_true rfl) ⟨Nat.le_of_ble_eq_true rfl, Nat.le_of_ble_eq_true rfl⟩ ⟨Nat.le_of_ble_eq_true rfl, Nat.le_of_ble_eq_true rfl⟩ ?_
      rintro _ zg2 ⟨zx2, rfl, hR2, hN2⟩
      refine ev_iret (pc := 44) dX5_takeApart_44 rfl ?_ ?_
      · exact nar_01 (OU_01 hR2)
      · refine ⟨zx2, rfl, LO_last (by decide : (11 : Nat) = 3 ∨ 11 = 11) (FrD_t (FrD_T hR1.1) (ap_fr zg1 _ (by decide : (11 : Nat) = 3 ∨ 11 = 11))) (OU_t hR1 zc23).2.2 (show zg1.2.2.2 19 1 = some 11 by rw [hR1.1.2.1]; exact hD.2.1) (SD_apa (zv := (tV zb zn zp)) (SD_T (by decide : (11 : Nat) = 3 ∨ 11 = 11) hR1.1 hD.2.2)) ((apa_l zb zn zs zp zt).trans ((ck_0 (if_pos (Decidable.not_not.mp (bI_0.mp zc7)))).trans (ck_0 (OU_t hR1 zc23).1))) hR2⟩
    · -- ne at 23: not taken
      refine ev_iconst (pc := 26) (v := 0) dX5_takeApart_26 (by decide) ?_
      refine ev_iret (pc := 27) dX5_takeApart_27 rfl ?_ ?_
      · first | rfl | exact nar_bI _ | (simp only [*]; exact nar_bI _) | (simp [narrow, *]; done)
      · have zz := OU_f hR1 zc23
        exact ⟨0, rfl, LO_bad (FrD_T hR1.1) ((apa_l zb zn zs zp zt).trans ((ck_0 (if_pos (Decidable.not_not.mp (bI_0.mp zc7)))).trans (ck_1 zz.1))) zz.1 zz.2.1 zz.2.2⟩
  · -- eq at 7: not taken
    refine ev_aload_n (pc := 10) dX5_takeApart_10 rfl ?_
    refine ev_iconst (pc := 11) (v := 4) dX5_takeApart_11 (by decide) ?_
    refine ev_callVv (S := []) (pc := 12) dX5_takeApart_12 kX5_refuse lX5_40 vX5_refuse (cn_X5_refuse E h 4 hD.1.1) rfl rfl (wlt hD.1.1 (by decide)) rfl rfl (Nat.le_of_ble_eq_true rfl) ⟨Nat.le_of_ble_eq_true rfl, Nat.le_of_ble_eq_true rfl⟩ ⟨Nat.le_of_ble_eq_true rfl, Nat.le_of_ble_eq_true rfl⟩ ?_
    refine ev_eqH (h' := (rfH h 4)) rfl ?_
    refine ev_iret (pc := 15) dX5_takeApart_15 rfl ?_ ?_
    · first | rfl | exact nar_bI _ | (simp only [*]; exact nar_bI _) | (simp [narrow, *]; done)
    · have z4 : ¬ zt.1 4 = 0 := bI_n0.mp zc7
      exact ⟨0, rfl, LO_bad (FrD_T (rf_fr _ _)) ((apa_l zb zn zs zp zt).trans (ck_1 (show ¬ (if zt.1 4 = 0 then 0 else 4) = 0 by rw [if_neg z4]; decide))) (by rw [if_neg z4]; decide) (show (4 : Int32) = nI (if zt.1 4 = 0 then 0 else 4) by rw [if_neg z4]; rfl) hs⟩
theorem cn_gv1_11 (E : ME) (h : AH) (zt : PSt) (za zc : Nat) (hw : WF h) (hY : STz zt 11 h) (hO : POK zt) (ha : za < zt.1 1) (hc : zc < zt.1 1) (hb : (zt.2 3 za).testBit zc = false) : Con E mX8_addGives 2 0 0 [.ref 11, .int (nI za), .int (nI zc)] h (fun r h' => r = some (.int 1) ∧ h' = gvH h 11 za (nI (zt.2 3 za ||| 2 ^ zc))) := by
  have z1 := cn_X8_addGives_11 E h zt (nI za) (nI zc) hw hY hO
  have h12 := hO.1
  have e9 : h.2.1 15 za = nI (zt.2 3 za) := (hY.2.2.2.1 za ha).2.2.2
  rw [nI_clamp (by omega)] at z1
  have hC : thg zt (nI za) ∧ (h.2.1 15 za >>> (nI zc &&& 31)) &&& 1 = 0 := ⟨thg_nI ha (by omega), by rw [e9]; exact Decidable.not_not.mp (fun z => by rw [has_b (by omega)] at z; rw [z] at hb; exact absurd hb (by decide))⟩
  rw [bI_t hC, if_pos hC, e9, or32 (by omega)] at z1
  exact z1
theorem cn_gv0_11 (E : ME) (h : AH) (zt : PSt) (za zc : Nat) (hw : WF h) (hY : STz zt 11 h) (hO : POK zt) (ha : za < zt.1 1) (hc : zc < zt.1 1) (hb : (zt.2 3 za).testBit zc = true) : Con E mX8_addGives 2 0 0 [.ref 11, .int (nI za), .int (nI zc)] h (fun r h' => r = some (.int 0) ∧ h' = h) := by
  have z1 := cn_X8_addGives_11 E h zt (nI za) (nI zc) hw hY hO
  have h12 := hO.1
  have e9 : h.2.1 15 za = nI (zt.2 3 za) := (hY.2.2.2.1 za ha).2.2.2
  rw [nI_clamp (by omega)] at z1
  have hC : ¬ (thg zt (nI za) ∧ (h.2.1 15 za >>> (nI zc &&& 31)) &&& 1 = 0) := fun z => by rw [e9] at z; exact (has_b (by omega)).mpr hb z.2
  rw [bI_f hC, if_neg hC] at z1
  exact z1
theorem cn_X5_takeGives_11 (E : ME) (h : AH) (zb : Nat → Nat) (zn zp : Nat) (zt : PSt) (hD : RDs 11 zb zn zp zt h) (hO : POK zt) : Con E mX5_takeGives 5 0 0 [.ref 19] h (fun r h' => ∃ zx, r = some (.int zx) ∧ LOz 11 zb zn (lnE zb zn (givB zb zn zp zt)) h h' zx) := by
  refine con_of2 (L := [some (.ref 19), none, none]) rfl (Nat.le_of_ble_eq_true rfl) rfl ?_
  refine ev_aload_n (pc := 0) dX5_takeGives_0 rfl ?_
  refine ev_getR (pc := 1) (q := 11) dX5_takeGives_1 fX5_15 rfl (wlt hD.1.1 (by decide)) hD.2.1 ?_
  refine ev_callVv (S := []) (pc := 4) dX5_takeGives_4 kX8_things lX5_98 vX8_things (cn_X8_things_11 E h zt hD.1.1 hD.2.2.1 hO) rfl rfl (wlt hD.1.1 (by decide)) rfl rfl (Nat.le_of_ble_eq_true rfl) ⟨Nat.le_of_ble_eq_true rfl, Nat.le_of_ble_eq_true rfl⟩ ⟨Nat.le_of_ble_eq_true rfl, Nat.le_of_ble_eq_true rfl⟩ ?_
  refine ev_iconst (pc := 7) (v := 1) dX5_takeGives_7 (by decide) ?_
  refine ev_isub (pc := 8) dX5_takeGives_8 ?_
  refine ev_istore_n (pc := 9) (L' := [some (.ref 19), some (.int ((nI (zt.1 1)) - 1)), none]) dX5_takeGives_9 (Nat.le_of_ble_eq_true rfl) rfl ?_
  refine ev_aload_n (pc := 10) dX5_takeGives_10 rfl ?_
  refine ev_iconst (pc := 11) (v := 0) dX5_takeGives_11 (by decide) ?_
  refine ev_iload_n (pc := 12) dX5_takeGives_12 rfl ?_
  refine ev_callV (S := []) (pc := 13) dX5_takeGives_13 kX5_takeNumber lX5_101 vX5_takeNumber (cn_X5_takeNumber E h zb zn zp 0 (zt.1 1) ((nI (zt.1 1)) - 1) hD.1 rfl (by decide) (by have := hO.1; omega)) rfl rfl (wlt hD.1.1 (by decide)) rfl rfl (Nat.le_of_ble_eq_true rfl) ⟨Nat.le_of_ble_eq_true rfl, Nat.le_of_ble_eq_true rfl⟩ ⟨Nat.le_of_ble_eq_true rfl, Nat.le_of_ble_eq_true rfl⟩ ?_
  rintro _ zg1 ⟨zx1, rfl, hR1, hN1⟩
  refine ev_if_ne (pc := 16) (tgt := 21) dX5_takeGives_16 (by decide) (fun zc16 => ?_) (fun zc16 => ?_)
  · -- ne at 16: taken
    refine ev_aload_n (pc := 21) dX5_takeGives_21 rfl ?_
    refine ev_getI (pc := 22) dX5_takeGives_22 fX5_56 rfl (wlt (FrT_w hR1.1 hD.1.1) (by decide)) ?_
    refine ev_eqI (e' := nI (tV zb zn zp)) (hN1 (OU_t hR1 zc16).1).1 ?_
    refine ev_istore_n (pc := 25) (L' := [some (.ref 19), some (.int ((nI (zt.1 1)) - 1)), some (.int (nI (tV zb zn zp)))]) dX5_takeGives_25 (Nat.le_of_ble_eq_true rfl) rfl ?_
    refine ev_aload_n (pc := 26) dX5_takeGives_26 rfl ?_
    refine ev_iconst (pc := 27) (v := 0) dX5_takeGives_27 (by decide) ?_
    refine ev_iload_n (pc := 28) dX5_takeGives_28 rfl ?_
    refine ev_callV (S := []) (pc := 29) dX5_takeGives_29 kX5_takeNumber lX5_101 vX5_takeNumber (cn_X5_takeNumber E zg1 zb zn (tE zb zn zp) 0 (zt.1 1) ((nI (zt.1 1)) - 1) (OU_t hR1 zc16).2.1 rfl (by decide) (by have := hO.1; omega)) rfl rfl (wlt (FrT_w hR1.1 hD.1.1) (by decide)) rfl rfl (Nat.le_of_ble_eq_true rfl) ⟨Nat.le_of_ble_eq_true rfl, Nat.le_of_ble_eq_true rfl⟩ ⟨Nat.le_of_ble_eq_true rfl, Nat.le_of_ble_eq_true rfl⟩ ?_
    rintro _ zg2 ⟨zx2, rfl, hR2, hN2⟩
    refine ev_if_ne (pc := 32) (tgt := 37) dX5_takeGives_32 (by decide) (fun zc32 => ?_) (fun zc32 => ?_)
    · -- ne at 32: taken
      have hva := (fn_0.mp (OU_t hR1 zc16).1).2.2
      have hvb := (fn_0.mp (OU_t hR2 zc32).1).2.2
      have h12 := hO.1
      refine ev_aload_n (pc := 37) dX5_takeGives_37 rfl ?_
      refine ev_getI (pc := 38) dX5_takeGives_38 fX5_56 rfl (wlt (FrT_w hR2.1 (OU_t hR1 zc16).2.1.1) (by decide)) ?_
      refine ev_eqI (e' := nI (tV zb zn (tE zb zn zp))) (hN2 (OU_t hR2 zc32).1).1 ?_
      refine ev_iload_n (pc := 41) dX5_takeGives_41 rfl ?_
      refine ev_icmp_ne (pc := 42) (tgt := 51) dX5_takeGives_42 (by decide) (fun zc42 => ?_) (fun zc42 => ?_)
      · -- ne at 42: taken
        refine ev_aload_n (pc := 51) dX5_takeGives_51 rfl ?_
        refine ev_getR (pc := 52) (q := 11) dX5_takeGives_52 fX5_15 rfl (wlt (FrT_w hR2.1 (OU_t hR1 zc16).2.1.1) (by decide)) (show zg2.2.2.2 19 1 = some 11 by rw [hR2.1.2.1, hR1.1.2.1]; exact hD.2.1) ?_
        refine ev_iload_n (pc := 55) dX5_takeGives_55 rfl ?_
        refine ev_aload_n (pc := 56) dX5_takeGives_56 rfl ?_
        refine ev_getI (pc := 57) dX5_takeGives_57 fX5_56 rfl (wlt (FrT_w hR2.1 (OU_t hR1 zc16).2.1.1) (by decide)) ?_
        refine ev_eqI (e' := nI (tV zb zn (tE zb zn zp))) (hN2 (OU_t hR2 zc32).1).1 ?_
        cases zbt : (zt.2 3 (tV zb zn zp)).testBit (tV zb zn (tE zb zn zp)) with
        | false =>
          refine ev_callVv (S := []) (pc := 60) dX5_takeGives_60 kX8_addGives lX5_119 vX8_addGives (cn_gv1_11 E zg2 zt (tV zb zn zp) (tV zb zn (tE zb zn zp)) (FrT_w hR2.1 (OU_t hR1 zc16).2.1.1) (SD_T (by decide : (11 : Nat) = 3 ∨ 11 = 11) hR2.1 (SD_T (by decide : (11 : Nat) = 3 ∨ 11 = 11) hR1.1 hD.2.2)).1 hO hva hvb zbt) rfl rfl (wlt (FrT_w hR2.1 (OU_t hR1 zc16).2.1.1) (by decide)) rfl rfl (Nat.le_of_ble_eq_true rfl) ⟨Nat.le_of_ble_eq_true rfl, Nat.le_of_ble_eq_true rfl⟩ ⟨Nat.le_of_ble_eq_true rfl, Nat.le_of_ble_eq_true rfl⟩ ?_
          refine ev_eqH (h' := (gvH zg2 11 (tV zb zn zp) (nI (zt.2 3 (tV zb zn zp) ||| 2 ^ (tV zb zn (tE zb zn zp)))))) rfl ?_
          refine ev_if_eq (pc := 63) (tgt := 74) dX5_takeGives_63 (by decide) (fun zc63 => absurd zc63 (by decide)) (fun zc63 => ?_)
          have hPk : TPz zb zn (tE zb zn (tE zb zn zp)) (gvH zg2 11 (tV zb zn zp) (nI (zt.2 3 (tV zb zn zp) ||| 2 ^ (tV zb zn (tE zb zn zp))))) := ⟨FrD_w (gv_fr zg2 _ _ (by decide : (11 : Nat) = 3 ∨ 11 = 11)) (OU_t hR2 zc32).2.1.1, FrD_C (by decide : (11 : Nat) = 3 ∨ 11 = 11) (gv_fr zg2 _ _ (by decide : (11 : Nat) = 3 ∨ 11 = 11)) (OU_t hR2 zc32).2.1.2.1, (OU_t hR2 zc32).2.1.2.2⟩
          refine ev_aload_n (pc := 66) dX5_takeGives_66 rfl ?_
          refine ev_iconst (pc := 67) (v := 4) dX5_takeGives_67 (by decide) ?_
          refine ev_callV (S := []) (pc := 68) dX5_takeGives_68 kX5_takeKind lX5_50 vX5_takeKind (cn_X5_takeKind E (gvH zg2 11 (tV zb zn zp) (nI (zt.2 3 (tV zb zn zp) ||| 2 ^ (tV zb zn (tE zb zn zp))))) zb zn (tE zb zn (tE zb zn zp)) 4 hPk (by decide)) rfl rfl (wlt (FrD_w (gv_fr zg2 _ _ (by decide : (11 : Nat) = 3 ∨ 11 = 11)) (OU_t hR2 zc32).2.1.1) (by decide)) rfl rfl (Nat.le_of_ble_eq_true rfl) ⟨Nat.le_of_ble_eq_true rfl, Nat.le_of_ble_eq_true rfl⟩ ⟨Nat.le_of_ble_eq_true rfl, Nat.le_of_ble_eq_true rfl⟩ ?_
          rintro _ zg3 ⟨zx3, rfl, hR3, hN3⟩
          refine ev_goto (pc := 71) (tgt := 79) dX5_takeGives_71 (by decide) ?_
          refine ev_iret (pc := 79) dX5_takeGives_79 rfl ?_ ?_
          · exact nar_01 (OU_01 hR3)
          · refine ⟨zx3, rfl, LO_last (by decide : (11 : Nat) = 3 ∨ 11 = 11) (FrD_t (FrD_T (FrT_t hR1.1 hR2.1)) (gv_fr zg2 _ _ (by decide : (11 : Nat) = 3 ∨ 11 = 11))) ((OU_t hR2 zc32).2.2.trans (OU_t hR1 zc16).2.2) (show zg2.2.2.2 19 1 = some 11 by rw [hR2.1.2.1, hR1.1.2.1]; exact hD.2.1) (SD_giv (za := tV zb zn zp) (zc := tV zb zn (tE zb zn zp)) (SD_T (by decide : (11 : Nat) = 3 ∨ 11 = 11) hR2.1 (SD_T (by decide : (11 : Nat) = 3 ∨ 11 = 11) hR1.1 hD.2.2)) hva) ((giv_l zb zn zp zt).trans ((ck_0 (OU_t hR1 zc16).1).trans ((ck_0 (OU_t hR2 zc32).1).trans ((ck_0 (if_neg (fun z => zc42 (congrArg nI z.symm)))).trans (ck_0 (if_neg (fun z => by rw [z] at zbt; exact absurd zbt (by decide)))))))) hR3⟩
        | true =>
          refine ev_callVv (S := []) (pc := 60) dX5_takeGives_60 kX8_addGives lX5_119 vX8_addGives (cn_gv0_11 E zg2 zt (tV zb zn zp) (tV zb zn (tE zb zn zp)) (FrT_w hR2.1 (OU_t hR1 zc16).2.1.1) (SD_T (by decide : (11 : Nat) = 3 ∨ 11 = 11) hR2.1 (SD_T (by decide : (11 : Nat) = 3 ∨ 11 = 11) hR1.1 hD.2.2)).1 hO hva hvb zbt) rfl rfl (wlt (FrT_w hR2.1 (OU_t hR1 zc16).2.1.1) (by decide)) rfl rfl (Nat.le_of_ble_eq_true rfl) ⟨Nat.le_of_ble_eq_true rfl, Nat.le_of_ble_eq_true rfl⟩ ⟨Nat.le_of_ble_eq_true rfl, Nat.le_of_ble_eq_true rfl⟩ ?_
          refine ev_if_eq (pc := 63) (tgt := 74) dX5_takeGives_63 (by decide) (fun zc63 => ?_) (fun zc63 => absurd rfl zc63)
          refine ev_aload_n (pc := 74) dX5_takeGives_74 rfl ?_
          refine ev_iconst (pc := 75) (v := 4) dX5_takeGives_75 (by decide) ?_
          refine ev_callVv (S := []) (pc := 76) dX5_takeGives_76 kX5_refuse lX5_40 vX5_refuse (cn_X5_refuse E zg2 4 (FrT_w hR2.1 (OU_t hR1 zc16).2.1.1)) rfl rfl (wlt (FrT_w hR2.1 (OU_t hR1 zc16).2.1.1) (by decide)) rfl rfl (Nat.le_of_ble_eq_true rfl) ⟨Nat.le_of_ble_eq_true rfl, Nat.le_of_ble_eq_true rfl⟩ ⟨Nat.le_of_ble_eq_true rfl, Nat.le_of_ble_eq_true rfl⟩ ?_
          refine ev_eqH (h' := (rfH zg2 4)) rfl ?_
          refine ev_iret (pc := 79) dX5_takeGives_79 rfl ?_ ?_
          · first | rfl | exact nar_bI _ | (simp only [*]; exact nar_bI _) | (simp [narrow, *]; done)
          · exact ⟨0, rfl, LO_bad (FrD_t (FrD_T (FrT_t hR1.1 hR2.1)) (FrD_T (rf_fr _ _))) ((giv_l zb zn zp zt).trans ((ck_0 (OU_t hR1 zc16).1).trans ((ck_0 (OU_t hR2 zc32).1).trans ((ck_0 (if_neg (fun z => zc42 (congrArg nI z.symm)))).trans (ck_1 (show ¬ (if (zt.2 3 (tV zb zn zp)).testBit (tV zb zn (tE zb zn zp)) then 4 else 0) = 0 by rw [if_pos zbt]; decide)))))) (by rw [if_pos zbt]; decide) (show (4 : Int32) = nI (if (zt.2 3 (tV zb zn zp)).testBit (tV zb zn (tE zb zn zp)) then 4 else 0) by rw [if_pos zbt]; rfl) (hN2 (OU_t hR2 zc32).1).2⟩
      · -- ne at 42: not taken
        refine ev_aload_n (pc := 45) dX5_takeGives_45 rfl ?_
        refine ev_iconst (pc := 46) (v := 3) dX5_takeGives_46 (by decide) ?_
        refine ev_callVv (S := []) (pc := 47) dX5_takeGives_47 kX5_refuse lX5_40 vX5_refuse (cn_X5_refuse E zg2 3 (FrT_w hR2.1 (OU_t hR1 zc16).2.1.1)) rfl rfl (wlt (FrT_w hR2.1 (OU_t hR1 zc16).2.1.1) (by decide)) rfl rfl (Nat.le_of_ble_eq_true rfl) ⟨Nat.le_of_ble_eq_true rfl, Nat.le_of_ble_eq_true rfl⟩ ⟨Nat.le_of_ble_eq_true rfl, Nat.le_of_ble_eq_true rfl⟩ ?_
        refine ev_eqH (h' := (rfH zg2 3)) rfl ?_
        refine ev_iret (pc := 50) dX5_takeGives_50 rfl ?_ ?_
        · first | rfl | exact nar_bI _ | (simp only [*]; exact nar_bI _) | (simp [narrow, *]; done)
        · have ze : tV zb zn zp = tV zb zn (tE zb zn zp) := ((nI_eq (by omega) (by omega)).mp zc42).symm
          exact ⟨0, rfl, LO_bad (FrD_t (FrD_T (FrT_t hR1.1 hR2.1)) (FrD_T (rf_fr _ _))) ((giv_l zb zn zp zt).trans ((ck_0 (OU_t hR1 zc16).1).trans ((ck_0 (OU_t hR2 zc32).1).trans (ck_1 (show ¬ (if tV zb zn zp = tV zb zn (tE zb zn zp) then 3 else 0) = 0 by rw [if_pos ze]; decide))))) (by rw [if_pos ze]; decide) (show (3 : Int32) = nI (if tV zb zn zp = tV zb zn (tE zb zn zp) then 3 else 0) by rw [if_pos ze]; rfl) (hN2 (OU_t hR2 zc32).1).2⟩
    · -- ne at 32: not taken
      refine ev_iconst (pc := 35) (v := 0) dX5_takeGives_35 (by decide) ?_
      refine ev_iret (pc := 36) dX5_takeGives_36 rfl ?_ ?_
      · first | rfl | exact nar_bI _ | (simp only [*]; exact nar_bI _) | (simp [narrow, *]; done)
      · have zz := OU_f hR2 zc32
        exact ⟨0, rfl, LO_bad (FrD_T (FrT_t hR1.1 hR2.1)) ((giv_l zb zn zp zt).trans ((ck_0 (OU_t hR1 zc16).1).trans (ck_1 zz.1))) zz.1 zz.2.1 zz.2.2⟩
  · -- ne at 16: not taken
    refine ev_iconst (pc := 19) (v := 0) dX5_takeGives_19 (by decide) ?_
    refine ev_iret (pc := 20) dX5_takeGives_20 rfl ?_ ?_
    · first | rfl | exact nar_bI _ | (simp only [*]; exact nar_bI _) | (simp [narrow, *]; done)
    · have zz := OU_f hR1 zc16
      exact ⟨0, rfl, LO_bad (FrD_T hR1.1) ((giv_l zb zn zp zt).trans (ck_1 zz.1)) zz.1 zz.2.1 zz.2.2⟩
