theorem lin_w0 {zb : Nat → Nat} {zn zp : Nat} (zt : PSt) (h2 : tK zb zn zp = 2)  (w0 : wdJ zb (tS zb zn zp) (wdL.getD 0 []) (tE zb zn zp - tS zb zn zp) = true) : linP zb zn zp zt = lnE zb zn (rowB zb zn (tS zb zn zp) (tE zb zn zp) zt) := by
  have e : wdF zb (tS zb zn zp) (tE zb zn zp - tS zb zn zp) = 0 := by
    unfold wdF
    rw [if_pos w0]
  have e2 : linB zb zn zp zt = rowB zb zn (tS zb zn zp) (tE zb zn zp) zt := by
    unfold linB
    rw [if_pos h2, e]
    rfl
  show lnE zb zn (linB zb zn zp zt) = _
  rw [e2]
theorem lin_w1 {zb : Nat → Nat} {zn zp : Nat} (zt : PSt) (h2 : tK zb zn zp = 2) (w0 : ¬ wdJ zb (tS zb zn zp) (wdL.getD 0 []) (tE zb zn zp - tS zb zn zp) = true) (w1 : wdJ zb (tS zb zn zp) (wdL.getD 1 []) (tE zb zn zp - tS zb zn zp) = true) : linP zb zn zp zt = lnE zb zn (patB zb zn (tS zb zn zp) (tE zb zn zp) zt) := by
  have e : wdF zb (tS zb zn zp) (tE zb zn zp - tS zb zn zp) = 1 := by
    unfold wdF
    rw [if_neg w0, if_pos w1]
  have e2 : linB zb zn zp zt = patB zb zn (tS zb zn zp) (tE zb zn zp) zt := by
    unfold linB
    rw [if_pos h2, e]
    rfl
  show lnE zb zn (linB zb zn zp zt) = _
  rw [e2]
theorem lin_w2 {zb : Nat → Nat} {zn zp : Nat} (zt : PSt) (h2 : tK zb zn zp = 2) (w0 : ¬ wdJ zb (tS zb zn zp) (wdL.getD 0 []) (tE zb zn zp - tS zb zn zp) = true) (w1 : ¬ wdJ zb (tS zb zn zp) (wdL.getD 1 []) (tE zb zn zp - tS zb zn zp) = true) (w2 : wdJ zb (tS zb zn zp) (wdL.getD 2 []) (tE zb zn zp - tS zb zn zp) = true) : linP zb zn zp zt = lnE zb zn (givB zb zn (tE zb zn zp) zt) := by
  have e : wdF zb (tS zb zn zp) (tE zb zn zp - tS zb zn zp) = 2 := by
    unfold wdF
    rw [if_neg w0, if_neg w1, if_pos w2]
  have e2 : linB zb zn zp zt = givB zb zn (tE zb zn zp) zt := by
    unfold linB
    rw [if_pos h2, e]
    rfl
  show lnE zb zn (linB zb zn zp zt) = _
  rw [e2]
theorem lin_w3 {zb : Nat → Nat} {zn zp : Nat} (zt : PSt) (h2 : tK zb zn zp = 2) (w0 : ¬ wdJ zb (tS zb zn zp) (wdL.getD 0 []) (tE zb zn zp - tS zb zn zp) = true) (w1 : ¬ wdJ zb (tS zb zn zp) (wdL.getD 1 []) (tE zb zn zp - tS zb zn zp) = true) (w2 : ¬ wdJ zb (tS zb zn zp) (wdL.getD 2 []) (tE zb zn zp - tS zb zn zp) = true) (w3 : wdJ zb (tS zb zn zp) (wdL.getD 3 []) (tE zb zn zp - tS zb zn zp) = true) : linP zb zn zp zt = lnE zb zn (apaB zb zn (tS zb zn zp) (tE zb zn zp) zt) := by
  have e : wdF zb (tS zb zn zp) (tE zb zn zp - tS zb zn zp) = 3 := by
    unfold wdF
    rw [if_neg w0, if_neg w1, if_neg w2, if_pos w3]
  have e2 : linB zb zn zp zt = apaB zb zn (tS zb zn zp) (tE zb zn zp) zt := by
    unfold linB
    rw [if_pos h2, e]
    rfl
  show lnE zb zn (linB zb zn zp zt) = _
  rw [e2]
theorem lin_w4 {zb : Nat → Nat} {zn zp : Nat} (zt : PSt) (h2 : tK zb zn zp = 2) (w0 : ¬ wdJ zb (tS zb zn zp) (wdL.getD 0 []) (tE zb zn zp - tS zb zn zp) = true) (w1 : ¬ wdJ zb (tS zb zn zp) (wdL.getD 1 []) (tE zb zn zp - tS zb zn zp) = true) (w2 : ¬ wdJ zb (tS zb zn zp) (wdL.getD 2 []) (tE zb zn zp - tS zb zn zp) = true) (w3 : ¬ wdJ zb (tS zb zn zp) (wdL.getD 3 []) (tE zb zn zp - tS zb zn zp) = true) (w4 : wdJ zb (tS zb zn zp) (wdL.getD 4 []) (tE zb zn zp - tS zb zn zp) = true) : linP zb zn zp zt = lnE zb zn (quaB zb zn (tE zb zn zp) zt) := by
  have e : wdF zb (tS zb zn zp) (tE zb zn zp - tS zb zn zp) = 4 := by
    unfold wdF
    rw [if_neg w0, if_neg w1, if_neg w2, if_neg w3, if_pos w4]
  have e2 : linB zb zn zp zt = quaB zb zn (tE zb zn zp) zt := by
    unfold linB
    rw [if_pos h2, e]
    rfl
  show lnE zb zn (linB zb zn zp zt) = _
  rw [e2]
theorem lin_w5 {zb : Nat → Nat} {zn zp : Nat} (zt : PSt) (h2 : tK zb zn zp = 2) (w0 : ¬ wdJ zb (tS zb zn zp) (wdL.getD 0 []) (tE zb zn zp - tS zb zn zp) = true) (w1 : ¬ wdJ zb (tS zb zn zp) (wdL.getD 1 []) (tE zb zn zp - tS zb zn zp) = true) (w2 : ¬ wdJ zb (tS zb zn zp) (wdL.getD 2 []) (tE zb zn zp - tS zb zn zp) = true) (w3 : ¬ wdJ zb (tS zb zn zp) (wdL.getD 3 []) (tE zb zn zp - tS zb zn zp) = true) (w4 : ¬ wdJ zb (tS zb zn zp) (wdL.getD 4 []) (tE zb zn zp - tS zb zn zp) = true) (w5 : wdJ zb (tS zb zn zp) (wdL.getD 5 []) (tE zb zn zp - tS zb zn zp) = true) : linP zb zn zp zt = lnE zb zn (bokB zb zn (tS zb zn zp) (tE zb zn zp) zt) := by
  have e : wdF zb (tS zb zn zp) (tE zb zn zp - tS zb zn zp) = 5 := by
    unfold wdF
    rw [if_neg w0, if_neg w1, if_neg w2, if_neg w3, if_neg w4, if_pos w5]
  have e2 : linB zb zn zp zt = bokB zb zn (tS zb zn zp) (tE zb zn zp) zt := by
    unfold linB
    rw [if_pos h2, e]
    rfl
  show lnE zb zn (linB zb zn zp zt) = _
  rw [e2]
theorem lin_w6 {zb : Nat → Nat} {zn zp : Nat} (zt : PSt) (h2 : tK zb zn zp = 2) (w0 : ¬ wdJ zb (tS zb zn zp) (wdL.getD 0 []) (tE zb zn zp - tS zb zn zp) = true) (w1 : ¬ wdJ zb (tS zb zn zp) (wdL.getD 1 []) (tE zb zn zp - tS zb zn zp) = true) (w2 : ¬ wdJ zb (tS zb zn zp) (wdL.getD 2 []) (tE zb zn zp - tS zb zn zp) = true) (w3 : ¬ wdJ zb (tS zb zn zp) (wdL.getD 3 []) (tE zb zn zp - tS zb zn zp) = true) (w4 : ¬ wdJ zb (tS zb zn zp) (wdL.getD 4 []) (tE zb zn zp - tS zb zn zp) = true) (w5 : ¬ wdJ zb (tS zb zn zp) (wdL.getD 5 []) (tE zb zn zp - tS zb zn zp) = true) : linP zb zn zp zt = lnE zb zn (((2, tS zb zn zp), zp, zt)) := by
  have e : wdF zb (tS zb zn zp) (tE zb zn zp - tS zb zn zp) = 6 := by
    unfold wdF
    rw [if_neg w0, if_neg w1, if_neg w2, if_neg w3, if_neg w4, if_neg w5]
  have e2 : linB zb zn zp zt = ((2, tS zb zn zp), zp, zt) := by
    unfold linB
    rw [if_pos h2, e]
    rfl
  show lnE zb zn (linB zb zn zp zt) = _
  rw [e2]
theorem lin_k {zb : Nat → Nat} {zn zp : Nat} (zt : PSt) (h2 : ¬ tK zb zn zp = 2) : (linP zb zn zp zt).1 = (fkK zb zn zp 2, tS zb zn zp) := by
  have e2 : linB zb zn zp zt = ((fkK zb zn zp 2, tS zb zn zp), zp, zt) := by
    unfold linB
    rw [if_neg h2]
  show (lnE zb zn (linB zb zn zp zt)).1 = _
  rw [e2]
  exact ck_1 (fun z => h2 (fk_0.mp z))
theorem LO_01 {zq : Nat} {zb : Nat → Nat} {zn : Nat} {zr : LRs} {h g : AH} {zx : Int32} (hR : LOz zq zb zn zr h g zx) : zx = 1 ∨ zx = 0 := by
  by_cases z : zr.1.1 = 0
  · exact Or.inl (hR.2.1 z).1
  · exact Or.inr (hR.2.2 z).1
theorem LO_sc {zq : Nat} {zb : Nat → Nat} {zn zp : Nat} {zr : LRs} {h g : AH} {zx : Int32} (hR : LOz zq zb zn zr (scH h zb zn zp) g zx) : LOz zq zb zn zr h g zx := ⟨FrD_t (FrD_T (sc_fr h zb zn zp)) hR.1, hR.2.1, hR.2.2⟩
/-- a line, or the end -/
def TLc (zq : Nat) (zb : Nat → Nat) (zn zp : Nat) (zt : PSt) (h g : AH) (zx : Int32) : Prop := (tK zb zn zp = 1 → zx = 0 ∧ FrT h g ∧ g.2.1 19 3 = h.2.1 19 3) ∧ (¬ tK zb zn zp = 1 → LOz zq zb zn (linP zb zn zp zt) h g zx)
theorem cn_X5_takeLine_3 (E : ME) (h : AH) (zb : Nat → Nat) (zn zp : Nat) (zt : PSt) (hD : RDs 3 zb zn zp zt h) (hO : POK zt) (hX : XOK E) : Con E mX5_takeLine 6 0 0 [.ref 19] h (fun r h' => ∃ zx, r = some (.int zx) ∧ TLc 3 zb zn zp zt h h' zx) := by
  refine con_of2 (L := [some (.ref 19), none]) rfl (Nat.le_of_ble_eq_true rfl) rfl ?_
  have hDs : RDs 3 zb zn (tE zb zn zp) zt (scH h zb zn zp) := ⟨sc_tp hD.1, hD.2.1, SD_T (by decide : (3 : Nat) = 3 ∨ 3 = 11) (sc_fr h zb zn zp) hD.2.2⟩
  refine ev_aload_n (pc := 0) dX5_takeLine_0 rfl ?_
  refine ev_getR (pc := 1) (q := 1) dX5_takeLine_1 fX5_9 rfl (wlt hD.1.1 (by decide)) (wr hD.1.1 rfl) ?_
  refine ev_callVv (S := []) (pc := 4) dX5_takeLine_4 kX9_scan lX5_44 vX9_scan (cn_X9_scan E h zb zn zp hD.1.1 hD.1.2.1 hD.1.2.2.2 hD.1.2.2.1) rfl rfl (wlt hD.1.1 (by decide)) rfl rfl (Nat.le_of_ble_eq_true rfl) ⟨Nat.le_of_ble_eq_true rfl, Nat.le_of_ble_eq_true rfl⟩ ⟨Nat.le_of_ble_eq_true rfl, Nat.le_of_ble_eq_true rfl⟩ ?_
  refine ev_eqH (h' := (scH h zb zn zp)) rfl ?_
  refine ev_istore_n (pc := 7) (L' := [some (.ref 19), some (.int (nI (tK zb zn zp)))]) dX5_takeLine_7 (Nat.le_of_ble_eq_true rfl) rfl ?_
  refine ev_iload_n (pc := 8) dX5_takeLine_8 rfl ?_
  refine ev_iconst (pc := 9) (v := 1) dX5_takeLine_9 (by decide) ?_
  refine ev_icmp_ne (pc := 10) (tgt := 15) dX5_takeLine_10 (by decide) (fun zc10 => ?_) (fun zc10 => ?_)
  · -- ne at 10: taken
    refine ev_iload_n (pc := 15) dX5_takeLine_15 rfl ?_
    refine ev_iconst (pc := 16) (v := 2) dX5_takeLine_16 (by decide) ?_
    refine ev_icmp_eq (pc := 17) (tgt := 26) dX5_takeLine_17 (by decide) (fun zc17 => ?_) (fun zc17 => ?_)
    · -- eq at 17: taken
      refine ev_aload_n (pc := 26) dX5_takeLine_26 rfl ?_
      refine ev_getR (pc := 27) (q := 1) dX5_takeLine_27 fX5_9 rfl (wlt hDs.1.1 (by decide)) (wr hDs.1.1 rfl) ?_
      refine ev_ldcS (pc := 30) (zi := 0) hX (by decide) rfl rfl dX5_takeLine_30 ?_
      refine ev_callVv (S := []) (pc := 32) dX5_takeLine_32 kX9_tokenIs lX5_65 vX9_tokenIs (cn_X9_tokenIs E (scH h zb zn zp) zb zn (tS zb zn zp) (tE zb zn zp) 0 hDs.1.1 hDs.1.2.1 rfl rfl (tE_ok zb hD.1.2.2.2).1 hDs.1.2.2.2 hX (by decide)) rfl rfl (wlt hDs.1.1 (by decide)) rfl rfl (Nat.le_of_ble_eq_true rfl) ⟨Nat.le_of_ble_eq_true rfl, Nat.le_of_ble_eq_true rfl⟩ ⟨Nat.le_of_ble_eq_true rfl, Nat.le_of_ble_eq_true rfl⟩ ?_
      refine ev_if_eq (pc := 35) (tgt := 43) dX5_takeLine_35 (by decide) (fun zc35 => ?_) (fun zc35 => ?_)
      · -- eq at 35: taken
        refine ev_aload_n (pc := 43) dX5_takeLine_43 rfl ?_
        refine ev_getR (pc := 44) (q := 1) dX5_takeLine_44 fX5_9 rfl (wlt hDs.1.1 (by decide)) (wr hDs.1.1 rfl) ?_
        refine ev_ldcS (pc := 47) (zi := 1) hX (by decide) rfl rfl dX5_takeLine_47 ?_
        refine ev_callVv (S := []) (pc := 49) dX5_takeLine_49 kX9_tokenIs lX5_65 vX9_tokenIs (cn_X9_tokenIs E (scH h zb zn zp) zb zn (tS zb zn zp) (tE zb zn zp) 1 hDs.1.1 hDs.1.2.1 rfl rfl (tE_ok zb hD.1.2.2.2).1 hDs.1.2.2.2 hX (by decide)) rfl rfl (wlt hDs.1.1 (by decide)) rfl rfl (Nat.le_of_ble_eq_true rfl) ⟨Nat.le_of_ble_eq_true rfl, Nat.le_of_ble_eq_true rfl⟩ ⟨Nat.le_of_ble_eq_true rfl, Nat.le_of_ble_eq_true rfl⟩ ?_
        refine ev_if_eq (pc := 52) (tgt := 60) dX5_takeLine_52 (by decide) (fun zc52 => ?_) (fun zc52 => ?_)
        · -- eq at 52: taken
          refine ev_aload_n (pc := 60) dX5_takeLine_60 rfl ?_
          refine ev_getR (pc := 61) (q := 1) dX5_takeLine_61 fX5_9 rfl (wlt hDs.1.1 (by decide)) (wr hDs.1.1 rfl) ?_
          refine ev_ldcS (pc := 64) (zi := 2) hX (by decide) rfl rfl dX5_takeLine_64 ?_
          refine ev_callVv (S := []) (pc := 66) dX5_takeLine_66 kX9_tokenIs lX5_65 vX9_tokenIs (cn_X9_tokenIs E (scH h zb zn zp) zb zn (tS zb zn zp) (tE zb zn zp) 2 hDs.1.1 hDs.1.2.1 rfl rfl (tE_ok zb hD.1.2.2.2).1 hDs.1.2.2.2 hX (by decide)) rfl rfl (wlt hDs.1.1 (by decide)) rfl rfl (Nat.le_of_ble_eq_true rfl) ⟨Nat.le_of_ble_eq_true rfl, Nat.le_of_ble_eq_true rfl⟩ ⟨Nat.le_of_ble_eq_true rfl, Nat.le_of_ble_eq_true rfl⟩ ?_
          refine ev_if_eq (pc := 69) (tgt := 77) dX5_takeLine_69 (by decide) (fun zc69 => ?_) (fun zc69 => ?_)
          · -- eq at 69: taken
            refine ev_aload_n (pc := 77) dX5_takeLine_77 rfl ?_
            refine ev_getR (pc := 78) (q := 1) dX5_takeLine_78 fX5_9 rfl (wlt hDs.1.1 (by decide)) (wr hDs.1.1 rfl) ?_
            refine ev_ldcS (pc := 81) (zi := 3) hX (by decide) rfl rfl dX5_takeLine_81 ?_
            refine ev_callVv (S := []) (pc := 83) dX5_takeLine_83 kX9_tokenIs lX5_65 vX9_tokenIs (cn_X9_tokenIs E (scH h zb zn zp) zb zn (tS zb zn zp) (tE zb zn zp) 3 hDs.1.1 hDs.1.2.1 rfl rfl (tE_ok zb hD.1.2.2.2).1 hDs.1.2.2.2 hX (by decide)) rfl rfl (wlt hDs.1.1 (by decide)) rfl rfl (Nat.le_of_ble_eq_true rfl) ⟨Nat.le_of_ble_eq_true rfl, Nat.le_of_ble_eq_true rfl⟩ ⟨Nat.le_of_ble_eq_true rfl, Nat.le_of_ble_eq_true rfl⟩ ?_
            refine ev_if_eq (pc := 86) (tgt := 94) dX5_takeLine_86 (by decide) (fun zc86 => ?_) (fun zc86 => ?_)
            · -- eq at 86: taken
              refine ev_aload_n (pc := 94) dX5_takeLine_94 rfl ?_
              refine ev_getR (pc := 95) (q := 1) dX5_takeLine_95 fX5_9 rfl (wlt hDs.1.1 (by decide)) (wr hDs.1.1 rfl) ?_
              refine ev_ldcS (pc := 98) (zi := 4) hX (by decide) rfl rfl dX5_takeLine_98 ?_
              refine ev_callVv (S := []) (pc := 100) dX5_takeLine_100 kX9_tokenIs lX5_65 vX9_tokenIs (cn_X9_tokenIs E (scH h zb zn zp) zb zn (tS zb zn zp) (tE zb zn zp) 4 hDs.1.1 hDs.1.2.1 rfl rfl (tE_ok zb hD.1.2.2.2).1 hDs.1.2.2.2 hX (by decide)) rfl rfl (wlt hDs.1.1 (by decide)) rfl rfl (Nat.le_of_ble_eq_true rfl) ⟨Nat.le_of_ble_eq_true rfl, Nat.le_of_ble_eq_true rfl⟩ ⟨Nat.le_of_ble_eq_true rfl, Nat.le_of_ble_eq_true rfl⟩ ?_
              refine ev_if_eq (pc := 103) (tgt := 111) dX5_takeLine_103 (by decide) (fun zc103 => ?_) (fun zc103 => ?_)
              · -- eq at 103: taken
                refine ev_aload_n (pc := 111) dX5_takeLine_111 rfl ?_
                refine ev_getR (pc := 112) (q := 1) dX5_takeLine_112 fX5_9 rfl (wlt hDs.1.1 (by decide)) (wr hDs.1.1 rfl) ?_
                refine ev_ldcS (pc := 115) (zi := 5) hX (by decide) rfl rfl dX5_takeLine_115 ?_
                refine ev_callVv (S := []) (pc := 117) dX5_takeLine_117 kX9_tokenIs lX5_65 vX9_tokenIs (cn_X9_tokenIs E (scH h zb zn zp) zb zn (tS zb zn zp) (tE zb zn zp) 5 hDs.1.1 hDs.1.2.1 rfl rfl (tE_ok zb hD.1.2.2.2).1 hDs.1.2.2.2 hX (by decide)) rfl rfl (wlt hDs.1.1 (by decide)) rfl rfl (Nat.le_of_ble_eq_true rfl) ⟨Nat.le_of_ble_eq_true rfl, Nat.le_of_ble_eq_true rfl⟩ ⟨Nat.le_of_ble_eq_true rfl, Nat.le_of_ble_eq_true rfl⟩ ?_
                refine ev_if_eq (pc := 120) (tgt := 130) dX5_takeLine_120 (by decide) (fun zc120 => ?_) (fun zc120 => ?_)
                · -- eq at 120: taken
                  refine ev_aload_n (pc := 130) dX5_takeLine_130 rfl ?_
                  refine ev_iconst (pc := 131) (v := 2) dX5_takeLine_131 (by decide) ?_
                  refine ev_callVv (S := []) (pc := 132) dX5_takeLine_132 kX5_refuse lX5_40 vX5_refuse (cn_X5_refuse E (scH h zb zn zp) 2 hDs.1.1) rfl rfl (wlt hDs.1.1 (by decide)) rfl rfl (Nat.le_of_ble_eq_true rfl) ⟨Nat.le_of_ble_eq_true rfl, Nat.le_of_ble_eq_true rfl⟩ ⟨Nat.le_of_ble_eq_true rfl, Nat.le_of_ble_eq_true rfl⟩ ?_
                  refine ev_eqH (h' := (rfH (scH h zb zn zp) 2)) rfl ?_
                  refine ev_iret (pc := 135) dX5_takeLine_135 rfl ?_ ?_
                  · first | rfl | exact nar_01 (LO_01 hL1)
                  · have z1 : ¬ tK zb zn zp = 1 := fun z => zc10 (by rw [z]; rfl)
                    have z2 : tK zb zn zp = 2 := (nI_eq (by have := tK_4 zb zn zp; omega) (by decide)).mp zc17
                    refine ⟨0, rfl, fun z => absurd z z1, fun _ => ?_⟩
                    rw [lin_w6 zt z2 (bI_0.mp zc35) (bI_0.mp zc52) (bI_0.mp zc69) (bI_0.mp zc86) (bI_0.mp zc103) (bI_0.mp zc120)]
                    exact LO_bad (zc := 2) (zs := tS zb zn zp) (FrD_T (FrT_t (sc_fr h zb zn zp) (rf_fr _ _))) rfl (show ¬ (2 : Nat) = 0 by decide) rfl rfl
                · -- eq at 120: not taken
                  refine ev_aload_n (pc := 123) dX5_takeLine_123 rfl ?_
                  refine ev_callV (S := []) (pc := 124) dX5_takeLine_124 kX5_takeBook lX5_95 vX5_takeBook (cn_X5_takeBook_3 E (scH h zb zn zp) zb zn (tE zb zn zp) (tS zb zn zp) zt hDs hO rfl) rfl rfl (wlt hDs.1.1 (by decide)) rfl rfl (Nat.le_of_ble_eq_true rfl) ⟨Nat.le_of_ble_eq_true rfl, Nat.le_of_ble_eq_true rfl⟩ ⟨Nat.le_of_ble_eq_true rfl, Nat.le_of_ble_eq_true rfl⟩ ?_
                  rintro _ zg1 ⟨zx1, rfl, hL1⟩
                  refine ev_goto (pc := 127) (tgt := 135) dX5_takeLine_127 (by decide) ?_
                  refine ev_iret (pc := 135) dX5_takeLine_135 rfl ?_ ?_
                  · first | rfl | exact nar_01 (LO_01 hL1)
                  · have z1 : ¬ tK zb zn zp = 1 := fun z => zc10 (by rw [z]; rfl)
                    have z2 : tK zb zn zp = 2 := (nI_eq (by have := tK_4 zb zn zp; omega) (by decide)).mp zc17
                    refine ⟨zx1, rfl, fun z => absurd z z1, fun _ => ?_⟩
                    rw [lin_w5 zt z2 (bI_0.mp zc35) (bI_0.mp zc52) (bI_0.mp zc69) (bI_0.mp zc86) (bI_0.mp zc103) (bI_n0.mp zc120)]
                    exact LO_sc hL1
              · -- eq at 103: not taken
                refine ev_aload_n (pc := 106) dX5_takeLine_106 rfl ?_
                refine ev_callV (S := []) (pc := 107) dX5_takeLine_107 kX5_takeQuarry lX5_90 vX5_takeQuarry (cn_X5_takeQuarry_3 E (scH h zb zn zp) zb zn (tE zb zn zp) zt hDs hO) rfl rfl (wlt hDs.1.1 (by decide)) rfl rfl (Nat.le_of_ble_eq_true rfl) ⟨Nat.le_of_ble_eq_true rfl, Nat.le_of_ble_eq_true rfl⟩ ⟨Nat.le_of_ble_eq_true rfl, Nat.le_of_ble_eq_true rfl⟩ ?_
                rintro _ zg1 ⟨zx1, rfl, hL1⟩
                refine ev_iret (pc := 110) dX5_takeLine_110 rfl ?_ ?_
                · first | rfl | exact nar_01 (LO_01 hL1)
                · have z1 : ¬ tK zb zn zp = 1 := fun z => zc10 (by rw [z]; rfl)
                  have z2 : tK zb zn zp = 2 := (nI_eq (by have := tK_4 zb zn zp; omega) (by decide)).mp zc17
                  refine ⟨zx1, rfl, fun z => absurd z z1, fun _ => ?_⟩
                  rw [lin_w4 zt z2 (bI_0.mp zc35) (bI_0.mp zc52) (bI_0.mp zc69) (bI_0.mp zc86) (bI_n0.mp zc103)]
                  exact LO_sc hL1
            · -- eq at 86: not taken
              refine ev_aload_n (pc := 89) dX5_takeLine_89 rfl ?_
              refine ev_callV (S := []) (pc := 90) dX5_takeLine_90 kX5_takeApart lX5_85 vX5_takeApart (cn_X5_takeApart_3 E (scH h zb zn zp) zb zn (tE zb zn zp) (tS zb zn zp) zt hDs hO rfl) rfl rfl (wlt hDs.1.1 (by decide)) rfl rfl (Nat.le_of_ble_eq_true rfl) ⟨Nat.le_of_ble_eq_true rfl, Nat.le_of_ble_eq_true rfl⟩ ⟨Nat.le_of_ble_eq_true rfl, Nat.le_of_ble_eq_true rfl⟩ ?_
              rintro _ zg1 ⟨zx1, rfl, hL1⟩
              refine ev_iret (pc := 93) dX5_takeLine_93 rfl ?_ ?_
              · first | rfl | exact nar_01 (LO_01 hL1)
              · have z1 : ¬ tK zb zn zp = 1 := fun z => zc10 (by rw [z]; rfl)
                have z2 : tK zb zn zp = 2 := (nI_eq (by have := tK_4 zb zn zp; omega) (by decide)).mp zc17
                refine ⟨zx1, rfl, fun z => absurd z z1, fun _ => ?_⟩
                rw [lin_w3 zt z2 (bI_0.mp zc35) (bI_0.mp zc52) (bI_0.mp zc69) (bI_n0.mp zc86)]
                exact LO_sc hL1
          · -- eq at 69: not taken
            refine ev_aload_n (pc := 72) dX5_takeLine_72 rfl ?_
            refine ev_callV (S := []) (pc := 73) dX5_takeLine_73 kX5_takeGives lX5_80 vX5_takeGives (cn_X5_takeGives_3 E (scH h zb zn zp) zb zn (tE zb zn zp) zt hDs hO) rfl rfl (wlt hDs.1.1 (by decide)) rfl rfl (Nat.le_of_ble_eq_true rfl) ⟨Nat.le_of_ble_eq_true rfl, Nat.le_of_ble_eq_true rfl⟩ ⟨Nat.le_of_ble_eq_true rfl, Nat.le_of_ble_eq_true rfl⟩ ?_
            rintro _ zg1 ⟨zx1, rfl, hL1⟩
            refine ev_iret (pc := 76) dX5_takeLine_76 rfl ?_ ?_
            · first | rfl | exact nar_01 (LO_01 hL1)
            · have z1 : ¬ tK zb zn zp = 1 := fun z => zc10 (by rw [z]; rfl)
              have z2 : tK zb zn zp = 2 := (nI_eq (by have := tK_4 zb zn zp; omega) (by decide)).mp zc17
              refine ⟨zx1, rfl, fun z => absurd z z1, fun _ => ?_⟩
              rw [lin_w2 zt z2 (bI_0.mp zc35) (bI_0.mp zc52) (bI_n0.mp zc69)]
              exact LO_sc hL1
        · -- eq at 52: not taken
          refine ev_aload_n (pc := 55) dX5_takeLine_55 rfl ?_
          refine ev_callV (S := []) (pc := 56) dX5_takeLine_56 kX5_takePatch lX5_75 vX5_takePatch (cn_X5_takePatch_3 E (scH h zb zn zp) zb zn (tE zb zn zp) (tS zb zn zp) zt hDs hO rfl) rfl rfl (wlt hDs.1.1 (by decide)) rfl rfl (Nat.le_of_ble_eq_true rfl) ⟨Nat.le_of_ble_eq_true rfl, Nat.le_of_ble_eq_true rfl⟩ ⟨Nat.le_of_ble_eq_true rfl, Nat.le_of_ble_eq_true rfl⟩ ?_
          rintro _ zg1 ⟨zx1, rfl, hL1⟩
          refine ev_iret (pc := 59) dX5_takeLine_59 rfl ?_ ?_
          · first | rfl | exact nar_01 (LO_01 hL1)
          · have z1 : ¬ tK zb zn zp = 1 := fun z => zc10 (by rw [z]; rfl)
            have z2 : tK zb zn zp = 2 := (nI_eq (by have := tK_4 zb zn zp; omega) (by decide)).mp zc17
            refine ⟨zx1, rfl, fun z => absurd z z1, fun _ => ?_⟩
            rw [lin_w1 zt z2 (bI_0.mp zc35) (bI_n0.mp zc52)]
            exact LO_sc hL1
      · -- eq at 35: not taken
        refine ev_aload_n (pc := 38) dX5_takeLine_38 rfl ?_
        refine ev_callV (S := []) (pc := 39) dX5_takeLine_39 kX5_takeRow lX5_69 vX5_takeRow (cn_X5_takeRow_3 E (scH h zb zn zp) zb zn (tE zb zn zp) (tS zb zn zp) zt hDs hO rfl) rfl rfl (wlt hDs.1.1 (by decide)) rfl rfl (Nat.le_of_ble_eq_true rfl) ⟨Nat.le_of_ble_eq_true rfl, Nat.le_of_ble_eq_true rfl⟩ ⟨Nat.le_of_ble_eq_true rfl, Nat.le_of_ble_eq_true rfl⟩ ?_
        rintro _ zg1 ⟨zx1, rfl, hL1⟩
        refine ev_iret (pc := 42) dX5_takeLine_42 rfl ?_ ?_
        · first | rfl | exact nar_01 (LO_01 hL1)
        · have z1 : ¬ tK zb zn zp = 1 := fun z => zc10 (by rw [z]; rfl)
          have z2 : tK zb zn zp = 2 := (nI_eq (by have := tK_4 zb zn zp; omega) (by decide)).mp zc17
          refine ⟨zx1, rfl, fun z => absurd z z1, fun _ => ?_⟩
          rw [lin_w0 zt z2  (bI_n0.mp zc35)]
          exact LO_sc hL1
    · -- eq at 17: not taken
      refine ev_aload_n (pc := 20) dX5_takeLine_20 rfl ?_
      refine ev_iload_n (pc := 21) dX5_takeLine_21 rfl ?_
      refine ev_callVv (S := []) (pc := 22) dX5_takeLine_22 kX5_refuseKind lX5_47 vX5_refuseKind (cn_X5_refuseKind E (scH h zb zn zp) (tK zb zn zp) hDs.1.1 (tK_4 _ _ _)) rfl rfl (wlt hDs.1.1 (by decide)) rfl rfl (Nat.le_of_ble_eq_true rfl) ⟨Nat.le_of_ble_eq_true rfl, Nat.le_of_ble_eq_true rfl⟩ ⟨Nat.le_of_ble_eq_true rfl, Nat.le_of_ble_eq_true rfl⟩ ?_
      refine ev_eqH (h' := (rfH (scH h zb zn zp) (if tK zb zn zp = 0 then 1 else 2))) rfl ?_
      refine ev_iret (pc := 25) dX5_takeLine_25 rfl ?_ ?_
      · first | rfl | exact nar_01 (LO_01 hL1)
      · have z1 : ¬ tK zb zn zp = 1 := fun z => zc10 (by rw [z]; rfl)
        have z2 : ¬ tK zb zn zp = 2 := fun z => zc17 (by rw [z]; rfl)
        refine ⟨0, rfl, fun z => absurd z z1, fun _ => LO_bad (FrD_T (FrT_t (sc_fr h zb zn zp) (rf_fr _ _))) (lin_k zt z2) (fun z => z2 (fk_0.mp z)) ?_ rfl⟩
        show (if tK zb zn zp = 0 then (1 : Int32) else 2) = nI (fkK zb zn zp 2)
        rw [k12, fk_n z2]
  · -- ne at 10: not taken
    refine ev_iconst (pc := 13) (v := 0) dX5_takeLine_13 (by decide) ?_
    refine ev_iret (pc := 14) dX5_takeLine_14 rfl ?_ ?_
    · first | rfl | exact nar_01 (LO_01 hL1)
    · have z1 : tK zb zn zp = 1 := (nI_eq (by have := tK_4 zb zn zp; omega) (by decide)).mp zc10
      exact ⟨0, rfl, fun _ => ⟨rfl, sc_fr h zb zn zp, rfl⟩, fun z => absurd z1 z⟩
theorem cn_X5_takeLine_11 (E : ME) (h : AH) (zb : Nat → Nat) (zn zp : Nat) (zt : PSt) (hD : RDs 11 zb zn zp zt h) (hO : POK zt) (hX : XOK E) : Con E mX5_takeLine 6 0 0 [.ref 19] h (fun r h' => ∃ zx, r = some (.int zx) ∧ TLc 11 zb zn zp zt h h' zx) := by
  refine con_of2 (L := [some (.ref 19), none]) rfl (Nat.le_of_ble_eq_true rfl) rfl ?_
  have hDs : RDs 11 zb zn (tE zb zn zp) zt (scH h zb zn zp) := ⟨sc_tp hD.1, hD.2.1, SD_T (by decide : (11 : Nat) = 3 ∨ 11 = 11) (sc_fr h zb zn zp) hD.2.2⟩
  refine ev_aload_n (pc := 0) dX5_takeLine_0 rfl ?_
  refine ev_getR (pc := 1) (q := 1) dX5_takeLine_1 fX5_9 rfl (wlt hD.1.1 (by decide)) (wr hD.1.1 rfl) ?_
  refine ev_callVv (S := []) (pc := 4) dX5_takeLine_4 kX9_scan lX5_44 vX9_scan (cn_X9_scan E h zb zn zp hD.1.1 hD.1.2.1 hD.1.2.2.2 hD.1.2.2.1) rfl rfl (wlt hD.1.1 (by decide)) rfl rfl (Nat.le_of_ble_eq_true rfl) ⟨Nat.le_of_ble_eq_true rfl, Nat.le_of_ble_eq_true rfl⟩ ⟨Nat.le_of_ble_eq_true rfl, Nat.le_of_ble_eq_true rfl⟩ ?_
  refine ev_eqH (h' := (scH h zb zn zp)) rfl ?_
  refine ev_istore_n (pc := 7) (L' := [some (.ref 19), some (.int (nI (tK zb zn zp)))]) dX5_takeLine_7 (Nat.le_of_ble_eq_true rfl) rfl ?_
  refine ev_iload_n (pc := 8) dX5_takeLine_8 rfl ?_
  refine ev_iconst (pc := 9) (v := 1) dX5_takeLine_9 (by decide) ?_
  refine ev_icmp_ne (pc := 10) (tgt := 15) dX5_takeLine_10 (by decide) (fun zc10 => ?_) (fun zc10 => ?_)
  · -- ne at 10: taken
    refine ev_iload_n (pc := 15) dX5_takeLine_15 rfl ?_
    refine ev_iconst (pc := 16) (v := 2) dX5_takeLine_16 (by decide) ?_
    refine ev_icmp_eq (pc := 17) (tgt := 26) dX5_takeLine_17 (by decide) (fun zc17 => ?_) (fun zc17 => ?_)
    · -- eq at 17: taken
      refine ev_aload_n (pc := 26) dX5_takeLine_26 rfl ?_
      refine ev_getR (pc := 27) (q := 1) dX5_takeLine_27 fX5_9 rfl (wlt hDs.1.1 (by decide)) (wr hDs.1.1 rfl) ?_
      refine ev_ldcS (pc := 30) (zi := 0) hX (by decide) rfl rfl dX5_takeLine_30 ?_
      refine ev_callVv (S := []) (pc := 32) dX5_takeLine_32 kX9_tokenIs lX5_65 vX9_tokenIs (cn_X9_tokenIs E (scH h zb zn zp) zb zn (tS zb zn zp) (tE zb zn zp) 0 hDs.1.1 hDs.1.2.1 rfl rfl (tE_ok zb hD.1.2.2.2).1 hDs.1.2.2.2 hX (by decide)) rfl rfl (wlt hDs.1.1 (by decide)) rfl rfl (Nat.le_of_ble_eq_true rfl) ⟨Nat.le_of_ble_eq_true rfl, Nat.le_of_ble_eq_true rfl⟩ ⟨Nat.le_of_ble_eq_true rfl, Nat.le_of_ble_eq_true rfl⟩ ?_
      refine ev_if_eq (pc := 35) (tgt := 43) dX5_takeLine_35 (by decide) (fun zc35 => ?_) (fun zc35 => ?_)
      · -- eq at 35: taken
        refine ev_aload_n (pc := 43) dX5_takeLine_43 rfl ?_
        refine ev_getR (pc := 44) (q := 1) dX5_takeLine_44 fX5_9 rfl (wlt hDs.1.1 (by decide)) (wr hDs.1.1 rfl) ?_
        refine ev_ldcS (pc := 47) (zi := 1) hX (by decide) rfl rfl dX5_takeLine_47 ?_
        refine ev_callVv (S := []) (pc := 49) dX5_takeLine_49 kX9_tokenIs lX5_65 vX9_tokenIs (cn_X9_tokenIs E (scH h zb zn zp) zb zn (tS zb zn zp) (tE zb zn zp) 1 hDs.1.1 hDs.1.2.1 rfl rfl (tE_ok zb hD.1.2.2.2).1 hDs.1.2.2.2 hX (by decide)) rfl rfl (wlt hDs.1.1 (by decide)) rfl rfl (Nat.le_of_ble_eq_true rfl) ⟨Nat.le_of_ble_eq_true rfl, Nat.le_of_ble_eq_true rfl⟩ ⟨Nat.le_of_ble_eq_true rfl, Nat.le_of_ble_eq_true rfl⟩ ?_
        refine ev_if_eq (pc := 52) (tgt := 60) dX5_takeLine_52 (by decide) (fun zc52 => ?_) (fun zc52 => ?_)
        · -- eq at 52: taken
          refine ev_aload_n (pc := 60) dX5_takeLine_60 rfl ?_
          refine ev_getR (pc := 61) (q := 1) dX5_takeLine_61 fX5_9 rfl (wlt hDs.1.1 (by decide)) (wr hDs.1.1 rfl) ?_
          refine ev_ldcS (pc := 64) (zi := 2) hX (by decide) rfl rfl dX5_takeLine_64 ?_
          refine ev_callVv (S := []) (pc := 66) dX5_takeLine_66 kX9_tokenIs lX5_65 vX9_tokenIs (cn_X9_tokenIs E (scH h zb zn zp) zb zn (tS zb zn zp) (tE zb zn zp) 2 hDs.1.1 hDs.1.2.1 rfl rfl (tE_ok zb hD.1.2.2.2).1 hDs.1.2.2.2 hX (by decide)) rfl rfl (wlt hDs.1.1 (by decide)) rfl rfl (Nat.le_of_ble_eq_true rfl) ⟨Nat.le_of_ble_eq_true rfl, Nat.le_of_ble_eq_true rfl⟩ ⟨Nat.le_of_ble_eq_true rfl, Nat.le_of_ble_eq_true rfl⟩ ?_
          refine ev_if_eq (pc := 69) (tgt := 77) dX5_takeLine_69 (by decide) (fun zc69 => ?_) (fun zc69 => ?_)
          · -- eq at 69: taken
            refine ev_aload_n (pc := 77) dX5_takeLine_77 rfl ?_
            refine ev_getR (pc := 78) (q := 1) dX5_takeLine_78 fX5_9 rfl (wlt hDs.1.1 (by decide)) (wr hDs.1.1 rfl) ?_
            refine ev_ldcS (pc := 81) (zi := 3) hX (by decide) rfl rfl dX5_takeLine_81 ?_
            refine ev_callVv (S := []) (pc := 83) dX5_takeLine_83 kX9_tokenIs lX5_65 vX9_tokenIs (cn_X9_tokenIs E (scH h zb zn zp) zb zn (tS zb zn zp) (tE zb zn zp) 3 hDs.1.1 hDs.1.2.1 rfl rfl (tE_ok zb hD.1.2.2.2).1 hDs.1.2.2.2 hX (by decide)) rfl rfl (wlt hDs.1.1 (by decide)) rfl rfl (Nat.le_of_ble_eq_true rfl) ⟨Nat.le_of_ble_eq_true rfl, Nat.le_of_ble_eq_true rfl⟩ ⟨Nat.le_of_ble_eq_true rfl, Nat.le_of_ble_eq_true rfl⟩ ?_
            refine ev_if_eq (pc := 86) (tgt := 94) dX5_takeLine_86 (by decide) (fun zc86 => ?_) (fun zc86 => ?_)
            · -- eq at 86: taken
              refine ev_aload_n (pc := 94) dX5_takeLine_94 rfl ?_
              refine ev_getR (pc := 95) (q := 1) dX5_takeLine_95 fX5_9 rfl (wlt hDs.1.1 (by decide)) (wr hDs.1.1 rfl) ?_
              refine ev_ldcS (pc := 98) (zi := 4) hX (by decide) rfl rfl dX5_takeLine_98 ?_
              refine ev_callVv (S := []) (pc := 100) dX5_takeLine_100 kX9_tokenIs lX5_65 vX9_tokenIs (cn_X9_tokenIs E (scH h zb zn zp) zb zn (tS zb zn zp) (tE zb zn zp) 4 hDs.1.1 hDs.1.2.1 rfl rfl (tE_ok zb hD.1.2.2.2).1 hDs.1.2.2.2 hX (by decide)) rfl rfl (wlt hDs.1.1 (by decide)) rfl rfl (Nat.le_of_ble_eq_true rfl) ⟨Nat.le_of_ble_eq_true rfl, Nat.le_of_ble_eq_true rfl⟩ ⟨Nat.le_of_ble_eq_true rfl, Nat.le_of_ble_eq_true rfl⟩ ?_
              refine ev_if_eq (pc := 103) (tgt := 111) dX5_takeLine_103 (by decide) (fun zc103 => ?_) (fun zc103 => ?_)
              · -- eq at 103: taken
                refine ev_aload_n (pc := 111) dX5_takeLine_111 rfl ?_
                refine ev_getR (pc := 112) (q := 1) dX5_takeLine_112 fX5_9 rfl (wlt hDs.1.1 (by decide)) (wr hDs.1.1 rfl) ?_
                refine ev_ldcS (pc := 115) (zi := 5) hX (by decide) rfl rfl dX5_takeLine_115 ?_
                refine ev_callVv (S := []) (pc := 117) dX5_takeLine_117 kX9_tokenIs lX5_65 vX9_tokenIs (cn_X9_tokenIs E (scH h zb zn zp) zb zn (tS zb zn zp) (tE zb zn zp) 5 hDs.1.1 hDs.1.2.1 rfl rfl (tE_ok zb hD.1.2.2.2).1 hDs.1.2.2.2 hX (by decide)) rfl rfl (wlt hDs.1.1 (by decide)) rfl rfl (Nat.le_of_ble_eq_true rfl) ⟨Nat.le_of_ble_eq_true rfl, Nat.le_of_ble_eq_true rfl⟩ ⟨Nat.le_of_ble_eq_true rfl, Nat.le_of_ble_eq_true rfl⟩ ?_
                refine ev_if_eq (pc := 120) (tgt := 130) dX5_takeLine_120 (by decide) (fun zc120 => ?_) (fun zc120 => ?_)
                · -- eq at 120: taken
                  refine ev_aload_n (pc := 130) dX5_takeLine_130 rfl ?_
                  refine ev_iconst (pc := 131) (v := 2) dX5_takeLine_131 (by decide) ?_
                  refine ev_callVv (S := []) (pc := 132) dX5_takeLine_132 kX5_refuse lX5_40 vX5_refuse (cn_X5_refuse E (scH h zb zn zp) 2 hDs.1.1) rfl rfl (wlt hDs.1.1 (by decide)) rfl rfl (Nat.le_of_ble_eq_true rfl) ⟨Nat.le_of_ble_eq_true rfl, Nat.le_of_ble_eq_true rfl⟩ ⟨Nat.le_of_ble_eq_true rfl, Nat.le_of_ble_eq_true rfl⟩ ?_
                  refine ev_eqH (h' := (rfH (scH h zb zn zp) 2)) rfl ?_
                  refine ev_iret (pc := 135) dX5_takeLine_135 rfl ?_ ?_
                  · first | rfl | exact nar_01 (LO_01 hL1)
                  · have z1 : ¬ tK zb zn zp = 1 := fun z => zc10 (by rw [z]; rfl)
                    have z2 : tK zb zn zp = 2 := (nI_eq (by have := tK_4 zb zn zp; omega) (by decide)).mp zc17
                    refine ⟨0, rfl, fun z => absurd z z1, fun _ => ?_⟩
                    rw [lin_w6 zt z2 (bI_0.mp zc35) (bI_0.mp zc52) (bI_0.mp zc69) (bI_0.mp zc86) (bI_0.mp zc103) (bI_0.mp zc120)]
                    exact LO_bad (zc := 2) (zs := tS zb zn zp) (FrD_T (FrT_t (sc_fr h zb zn zp) (rf_fr _ _))) rfl (show ¬ (2 : Nat) = 0 by decide) rfl rfl
                · -- eq at 120: not taken
                  refine ev_aload_n (pc := 123) dX5_takeLine_123 rfl ?_
                  refine ev_callV (S := []) (pc := 124) dX5_takeLine_124 kX5_takeBook lX5_95 vX5_takeBook (cn_X5_takeBook_11 E (scH h zb zn zp) zb zn (tE zb zn zp) (tS zb zn zp) zt hDs hO rfl) rfl rfl (wlt hDs.1.1 (by decide)) rfl rfl (Nat.le_of_ble_eq_true rfl) ⟨Nat.le_of_ble_eq_true rfl, Nat.le_of_ble_eq_true rfl⟩ ⟨Nat.le_of_ble_eq_true rfl, Nat.le_of_ble_eq_true rfl⟩ ?_
                  rintro _ zg1 ⟨zx1, rfl, hL1⟩
                  refine ev_goto (pc := 127) (tgt := 135) dX5_takeLine_127 (by decide) ?_
                  refine ev_iret (pc := 135) dX5_takeLine_135 rfl ?_ ?_
                  · first | rfl | exact nar_01 (LO_01 hL1)
                  · have z1 : ¬ tK zb zn zp = 1 := fun z => zc10 (by rw [z]; rfl)
                    have z2 : tK zb zn zp = 2 := (nI_eq (by have := tK_4 zb zn zp; omega) (by decide)).mp zc17
                    refine ⟨zx1, rfl, fun z => absurd z z1, fun _ => ?_⟩
                    rw [lin_w5 zt z2 (bI_0.mp zc35) (bI_0.mp zc52) (bI_0.mp zc69) (bI_0.mp zc86) (bI_0.mp zc103) (bI_n0.mp zc120)]
                    exact LO_sc hL1
              · -- eq at 103: not taken
                refine ev_aload_n (pc := 106) dX5_takeLine_106 rfl ?_
                refine ev_callV (S := []) (pc := 107) dX5_takeLine_107 kX5_takeQuarry lX5_90 vX5_takeQuarry (cn_X5_takeQuarry_11 E (scH h zb zn zp) zb zn (tE zb zn zp) zt hDs hO) rfl rfl (wlt hDs.1.1 (by decide)) rfl rfl (Nat.le_of_ble_eq_true rfl) ⟨Nat.le_of_ble_eq_true rfl, Nat.le_of_ble_eq_true rfl⟩ ⟨Nat.le_of_ble_eq_true rfl, Nat.le_of_ble_eq_true rfl⟩ ?_
                rintro _ zg1 ⟨zx1, rfl, hL1⟩
                refine ev_iret (pc := 110) dX5_takeLine_110 rfl ?_ ?_
                · first | rfl | exact nar_01 (LO_01 hL1)
                · have z1 : ¬ tK zb zn zp = 1 := fun z => zc10 (by rw [z]; rfl)
                  have z2 : tK zb zn zp = 2 := (nI_eq (by have := tK_4 zb zn zp; omega) (by decide)).mp zc17
                  refine ⟨zx1, rfl, fun z => absurd z z1, fun _ => ?_⟩
                  rw [lin_w4 zt z2 (bI_0.mp zc35) (bI_0.mp zc52) (bI_0.mp zc69) (bI_0.mp zc86) (bI_n0.mp zc103)]
                  exact LO_sc hL1
            · -- eq at 86: not taken
              refine ev_aload_n (pc := 89) dX5_takeLine_89 rfl ?_
              refine ev_callV (S := []) (pc := 90) dX5_takeLine_90 kX5_takeApart lX5_85 vX5_takeApart (cn_X5_takeApart_11 E (scH h zb zn zp) zb zn (tE zb zn zp) (tS zb zn zp) zt hDs hO rfl) rfl rfl (wlt hDs.1.1 (by decide)) rfl rfl (Nat.le_of_ble_eq_true rfl) ⟨Nat.le_of_ble_eq_true rfl, Nat.le_of_ble_eq_true rfl⟩ ⟨Nat.le_of_ble_eq_true rfl, Nat.le_of_ble_eq_true rfl⟩ ?_
              rintro _ zg1 ⟨zx1, rfl, hL1⟩
              refine ev_iret (pc := 93) dX5_takeLine_93 rfl ?_ ?_
              · first | rfl | exact nar_01 (LO_01 hL1)
              · have z1 : ¬ tK zb zn zp = 1 := fun z => zc10 (by rw [z]; rfl)
                have z2 : tK zb zn zp = 2 := (nI_eq (by have := tK_4 zb zn zp; omega) (by decide)).mp zc17
                refine ⟨zx1, rfl, fun z => absurd z z1, fun _ => ?_⟩
                rw [lin_w3 zt z2 (bI_0.mp zc35) (bI_0.mp zc52) (bI_0.mp zc69) (bI_n0.mp zc86)]
                exact LO_sc hL1
          · -- eq at 69: not taken
            refine ev_aload_n (pc := 72) dX5_takeLine_72 rfl ?_
            refine ev_callV (S := []) (pc := 73) dX5_takeLine_73 kX5_takeGives lX5_80 vX5_takeGives (cn_X5_takeGives_11 E (scH h zb zn zp) zb zn (tE zb zn zp) zt hDs hO) rfl rfl (wlt hDs.1.1 (by decide)) rfl rfl (Nat.le_of_ble_eq_true rfl) ⟨Nat.le_of_ble_eq_true rfl, Nat.le_of_ble_eq_true rfl⟩ ⟨Nat.le_of_ble_eq_true rfl, Nat.le_of_ble_eq_true rfl⟩ ?_
            rintro _ zg1 ⟨zx1, rfl, hL1⟩
            refine ev_iret (pc := 76) dX5_takeLine_76 rfl ?_ ?_
            · first | rfl | exact nar_01 (LO_01 hL1)
            · have z1 : ¬ tK zb zn zp = 1 := fun z => zc10 (by rw [z]; rfl)
              have z2 : tK zb zn zp = 2 := (nI_eq (by have := tK_4 zb zn zp; omega) (by decide)).mp zc17
              refine ⟨zx1, rfl, fun z => absurd z z1, fun _ => ?_⟩
              rw [lin_w2 zt z2 (bI_0.mp zc35) (bI_0.mp zc52) (bI_n0.mp zc69)]
              exact LO_sc hL1
        · -- eq at 52: not taken
          refine ev_aload_n (pc := 55) dX5_takeLine_55 rfl ?_
          refine ev_callV (S := []) (pc := 56) dX5_takeLine_56 kX5_takePatch lX5_75 vX5_takePatch (cn_X5_takePatch_11 E (scH h zb zn zp) zb zn (tE zb zn zp) (tS zb zn zp) zt hDs hO rfl) rfl rfl (wlt hDs.1.1 (by decide)) rfl rfl (Nat.le_of_ble_eq_true rfl) ⟨Nat.le_of_ble_eq_true rfl, Nat.le_of_ble_eq_true rfl⟩ ⟨Nat.le_of_ble_eq_true rfl, Nat.le_of_ble_eq_true rfl⟩ ?_
          rintro _ zg1 ⟨zx1, rfl, hL1⟩
          refine ev_iret (pc := 59) dX5_takeLine_59 rfl ?_ ?_
          · first | rfl | exact nar_01 (LO_01 hL1)
          · have z1 : ¬ tK zb zn zp = 1 := fun z => zc10 (by rw [z]; rfl)
            have z2 : tK zb zn zp = 2 := (nI_eq (by have := tK_4 zb zn zp; omega) (by decide)).mp zc17
            refine ⟨zx1, rfl, fun z => absurd z z1, fun _ => ?_⟩
            rw [lin_w1 zt z2 (bI_0.mp zc35) (bI_n0.mp zc52)]
            exact LO_sc hL1
      · -- eq at 35: not taken
        refine ev_aload_n (pc := 38) dX5_takeLine_38 rfl ?_
        refine ev_callV (S := []) (pc := 39) dX5_takeLine_39 kX5_takeRow lX5_69 vX5_takeRow (cn_X5_takeRow_11 E (scH h zb zn zp) zb zn (tE zb zn zp) (tS zb zn zp) zt hDs hO rfl) rfl rfl (wlt hDs.1.1 (by decide)) rfl rfl (Nat.le_of_ble_eq_true rfl) ⟨Nat.le_of_ble_eq_true rfl, Nat.le_of_ble_eq_true rfl⟩ ⟨Nat.le_of_ble_eq_true rfl, Nat.le_of_ble_eq_true rfl⟩ ?_
        rintro _ zg1 ⟨zx1, rfl, hL1⟩
        refine ev_iret (pc := 42) dX5_takeLine_42 rfl ?_ ?_
        · first | rfl | exact nar_01 (LO_01 hL1)
        · have z1 : ¬ tK zb zn zp = 1 := fun z => zc10 (by rw [z]; rfl)
          have z2 : tK zb zn zp = 2 := (nI_eq (by have := tK_4 zb zn zp; omega) (by decide)).mp zc17
          refine ⟨zx1, rfl, fun z => absurd z z1, fun _ => ?_⟩
          rw [lin_w0 zt z2  (bI_n0.mp zc35)]
          exact LO_sc hL1
    · -- eq at 17: not taken
      refine ev_aload_n (pc := 20) dX5_takeLine_20 rfl ?_
      refine ev_iload_n (pc := 21) dX5_takeLine_21 rfl ?_
      refine ev_callVv (S := []) (pc := 22) dX5_takeLine_22 kX5_refuseKind lX5_47 vX5_refuseKind (cn_X5_refuseKind E (scH h zb zn zp) (tK zb zn zp) hDs.1.1 (tK_4 _ _ _)) rfl rfl (wlt hDs.1.1 (by decide)) rfl rfl (Nat.le_of_ble_eq_true rfl) ⟨Nat.le_of_ble_eq_true rfl, Nat.le_of_ble_eq_true rfl⟩ ⟨Nat.le_of_ble_eq_true rfl, Nat.le_of_ble_eq_true rfl⟩ ?_
      refine ev_eqH (h' := (rfH (scH h zb zn zp) (if tK zb zn zp = 0 then 1 else 2))) rfl ?_
      refine ev_iret (pc := 25) dX5_takeLine_25 rfl ?_ ?_
      · first | rfl | exact nar_01 (LO_01 hL1)
      · have z1 : ¬ tK zb zn zp = 1 := fun z => zc10 (by rw [z]; rfl)
        have z2 : ¬ tK zb zn zp = 2 := fun z => zc17 (by rw [z]; rfl)
        refine ⟨0, rfl, fun z => absurd z z1, fun _ => LO_bad (FrD_T (FrT_t (sc_fr h zb zn zp) (rf_fr _ _))) (lin_k zt z2) (fun z => z2 (fk_0.mp z)) ?_ rfl⟩
        show (if tK zb zn zp = 0 then (1 : Int32) else 2) = nI (fkK zb zn zp 2)
        rw [k12, fk_n z2]
  · -- ne at 10: not taken
    refine ev_iconst (pc := 13) (v := 0) dX5_takeLine_13 (by decide) ?_
    refine ev_iret (pc := 14) dX5_takeLine_14 rfl ?_ ?_
    · first | rfl | exact nar_01 (LO_01 hL1)
    · have z1 : tK zb zn zp = 1 := (nI_eq (by have := tK_4 zb zn zp; omega) (by decide)).mp zc10
      exact ⟨0, rfl, fun _ => ⟨rfl, sc_fr h zb zn zp, rfl⟩, fun z => absurd z1 z⟩
