theorem cn_X10_may (E : ME) (h : AH) (zi0 zv : Int32) (zc : Nat → Nat → Nat) (zb : Nat) (zf : Nat → Int32) (zx : Int64) (hw : WF h) (hp : h.2.1 30 1 = nI zb) (hp4 : zb ≤ 4) (hS : SHz zc zb h) (hF : FLz zf zx h) (hI : IMz h) : Con E mX10_may 6 0 0 [.ref 0, .int zi0, .int zv] h (fun r h' => ((0 ≤ zi0 ∧ zi0 ≤ 63) ∧ zf (zi0).toNatClampNeg = -1 ∧ (0 ≤ zv ∧ zv ≤ 2) → ∃ zr, SDr (gaP zc zb zf zv) zr ∧ r = some (.int (vdN (fun zk => lbt (zr zk) zi0.toNatClampNeg) 6)) ∧ h' = sL h 33 zr) ∧ (¬ ((0 ≤ zi0 ∧ zi0 ≤ 63) ∧ zf (zi0).toNatClampNeg = -1 ∧ (0 ≤ zv ∧ zv ≤ 2)) → r = some (.int (-1)) ∧ h' = h)) := by
  refine con_of2 (L := [some (.ref 0), some (.int zi0), some (.int zv)]) rfl (Nat.le_of_ble_eq_true rfl) rfl ?_
  refine ev_iload_n (pc := 0) dX10_may_0 rfl ?_
  refine ev_callSv (S := []) (pc := 1) dX10_may_1 kX10_isCell lX10_160 sX10_isCell (cn_X10_isCell E h zi0) rfl rfl (Nat.le_of_ble_eq_true rfl) ⟨Nat.le_of_ble_eq_true rfl, Nat.le_of_ble_eq_true rfl⟩ ⟨Nat.le_of_ble_eq_true rfl, Nat.le_of_ble_eq_true rfl⟩ ?_
  refine ev_if_eq (pc := 4) (tgt := 28) dX10_may_4 (by decide) (fun zc4 => ?_) (fun zc4 => ?_)
  · -- eq at 4: taken
    refine ev_iconst (pc := 28) (v := (-1)) dX10_may_28 (by decide) ?_
    refine ev_iret (pc := 29) dX10_may_29 rfl ?_ ?_
    · rfl
    · have hC : ¬ ((0 ≤ zi0 ∧ zi0 ≤ 63) ∧ zf (zi0).toNatClampNeg = -1 ∧ (0 ≤ zv ∧ zv ≤ 2)) := fun z => bI_0.mp zc4 ((cell_63 _).mpr z.1)
      exact ⟨fun z => absurd z hC, fun _ => ⟨rfl, rfl⟩⟩
  · -- eq at 4: not taken
    refine ev_iload_n (pc := 7) dX10_may_7 rfl ?_
    refine ev_iconst (pc := 8) (v := 0) dX10_may_8 (by decide) ?_
    refine ev_iconst (pc := 9) (v := 2) dX10_may_9 (by decide) ?_
    refine ev_callSv (S := []) (pc := 10) dX10_may_10 kX10_within lX10_123 sX10_within (cn_X10_within E h zv 0 2) rfl rfl (Nat.le_of_ble_eq_true rfl) ⟨Nat.le_of_ble_eq_true rfl, Nat.le_of_ble_eq_true rfl⟩ ⟨Nat.le_of_ble_eq_true rfl, Nat.le_of_ble_eq_true rfl⟩ ?_
    refine ev_if_eq (pc := 13) (tgt := 28) dX10_may_13 (by decide) (fun zc13 => ?_) (fun zc13 => ?_)
    · -- eq at 13: taken
      refine ev_iconst (pc := 28) (v := (-1)) dX10_may_28 (by decide) ?_
      refine ev_iret (pc := 29) dX10_may_29 rfl ?_ ?_
      · rfl
      · have hC : ¬ ((0 ≤ zi0 ∧ zi0 ≤ 63) ∧ zf (zi0).toNatClampNeg = -1 ∧ (0 ≤ zv ∧ zv ≤ 2)) := fun z => bI_0.mp zc13 z.2.2
        exact ⟨fun z => absurd z hC, fun _ => ⟨rfl, rfl⟩⟩
    · -- eq at 13: not taken
      obtain ⟨zi, hi, rfl⟩ := cell_in (bI_n0.mp zc4)
      refine ev_aload_n (pc := 16) dX10_may_16 rfl ?_
      refine ev_getR (pc := 17) (q := 25) dX10_may_17 fX10_45 rfl (wlt hw (by decide)) (wr hw rfl) ?_
      refine ev_iload_n (pc := 20) dX10_may_20 rfl ?_
      refine ev_callVv (S := []) (pc := 21) dX10_may_21 kX2_colourAt lX10_163 vX2_colourAt (cn_colourN E h zi zf zx hw hF hi) rfl rfl (wlt hw (by decide)) rfl rfl (Nat.le_of_ble_eq_true rfl) ⟨Nat.le_of_ble_eq_true rfl, Nat.le_of_ble_eq_true rfl⟩ ⟨Nat.le_of_ble_eq_true rfl, Nat.le_of_ble_eq_true rfl⟩ ?_
      refine ev_iconst (pc := 24) (v := (-1)) dX10_may_24 (by decide) ?_
      refine ev_icmp_eq (pc := 25) (tgt := 30) dX10_may_25 (by decide) (fun zc25 => ?_) (fun zc25 => ?_)
      · -- eq at 25: taken
        refine ev_aload_n (pc := 30) dX10_may_30 rfl ?_
        refine ev_getR (pc := 31) (q := 32) dX10_may_31 fX10_59 rfl (wlt hw (by decide)) (wr hw rfl) ?_
        refine ev_aload_n (pc := 34) dX10_may_34 rfl ?_
        refine ev_getR (pc := 35) (q := 25) dX10_may_35 fX10_45 rfl (wlt hw (by decide)) (wr hw rfl) ?_
        refine ev_aload_n (pc := 38) dX10_may_38 rfl ?_
        refine ev_getR (pc := 39) (q := 30) dX10_may_39 fX10_52 rfl (wlt hw (by decide)) (wr hw rfl) ?_
        refine ev_iload_n (pc := 42) dX10_may_42 rfl ?_
        refine ev_callV (S := []) (pc := 43) dX10_may_43 kX3_gather lX10_298 vX3_gather (cn_X3_gather E h zv zc zb zf zx hw hp hp4 hS hF hI) rfl rfl (wlt hw (by decide)) rfl rfl (Nat.le_of_ble_eq_true rfl) ⟨Nat.le_of_ble_eq_true rfl, Nat.le_of_ble_eq_true rfl⟩ ⟨Nat.le_of_ble_eq_true rfl, Nat.le_of_ble_eq_true rfl⟩ ?_
        rintro _ _ ⟨rfl, zr, rfl, hD⟩
        refine ev_aload_n (pc := 46) dX10_may_46 rfl ?_
        refine ev_getR (pc := 47) (q := 32) dX10_may_47 fX10_59 rfl (wlt (wf_sL hw) (by decide)) (wr (wf_sL hw) rfl) ?_
        refine ev_iload_n (pc := 50) dX10_may_50 rfl ?_
        refine ev_callVv (S := []) (pc := 51) dX10_may_51 kX3_verdict lX10_302 vX3_verdict (cn_X3_verdict E (sL h 33 zr) zi (wf_sL hw) hi) rfl rfl (wlt (wf_sL hw) (by decide)) rfl rfl (Nat.le_of_ble_eq_true rfl) ⟨Nat.le_of_ble_eq_true rfl, Nat.le_of_ble_eq_true rfl⟩ ⟨Nat.le_of_ble_eq_true rfl, Nat.le_of_ble_eq_true rfl⟩ ?_
        refine ev_iret (pc := 54) dX10_may_54 rfl ?_ ?_
        · rfl
        · have hC : (0 ≤ nI zi ∧ nI zi ≤ 63) ∧ zf (nI zi).toNatClampNeg = -1 ∧ (0 ≤ zv ∧ zv ≤ 2) := ⟨(cell_63 _).mp (bI_n0.mp zc4), by rw [nI_clamp (by omega)]; exact zc25, bI_n0.mp zc13⟩
          exact ⟨fun _ => ⟨zr, hD, by rw [nI_clamp (by omega)]; rfl, rfl⟩, fun z => absurd hC z⟩
      · -- eq at 25: not taken
        refine ev_iconst (pc := 28) (v := (-1)) dX10_may_28 (by decide) ?_
        refine ev_iret (pc := 29) dX10_may_29 rfl ?_ ?_
        · rfl
        · have hC : ¬ ((0 ≤ nI zi ∧ nI zi ≤ 63) ∧ zf (nI zi).toNatClampNeg = -1 ∧ (0 ≤ zv ∧ zv ≤ 2)) := fun z => zc25 (by have z1 := z.2.1; rwa [nI_clamp (by omega)] at z1)
          exact ⟨fun z => absurd z hC, fun _ => ⟨rfl, rfl⟩⟩
theorem cn_X10_lost (E : ME) (h : AH) (zv : Int32) (zc : Nat → Nat → Nat) (zb : Nat) (zf : Nat → Int32) (zx : Int64) (hw : WF h) (hp : h.2.1 30 1 = nI zb) (hp4 : zb ≤ 4) (hS : SHz zc zb h) (hF : FLz zf zx h) (hI : IMz h) : Con E mX10_lost 6 0 0 [.ref 0, .int zv] h (fun r h' => (0 ≤ zv ∧ zv ≤ 2 → ∃ zr, SDr (gaP zc zb zf 2) zr ∧ r = some (.int (if zv = 0 then bcL ((h.2.2.1 25 4 ^^^ (-1)) &&& (((onL zr 6 ^^^ (-1)) ^^^ (-1)) &&& ((unL zr 6) ^^^ (-1)))) else if zv = 1 then bcL ((h.2.2.1 25 4 ^^^ (-1)) &&& (unL zr 6)) else bcL ((h.2.2.1 25 4 ^^^ (-1)) &&& (onL zr 6 ^^^ (-1))))) ∧ h' = sL h 33 zr) ∧ (¬ (0 ≤ zv ∧ zv ≤ 2) → r = some (.int (-1)) ∧ h' = h)) := by
  refine con_of2 (L := [some (.ref 0), some (.int zv), none, none]) rfl (Nat.le_of_ble_eq_true rfl) rfl ?_
  refine ev_iload_n (pc := 0) dX10_lost_0 rfl ?_
  refine ev_iconst (pc := 1) (v := 0) dX10_lost_1 (by decide) ?_
  refine ev_iconst (pc := 2) (v := 2) dX10_lost_2 (by decide) ?_
  refine ev_callSv (S := []) (pc := 3) dX10_lost_3 kX10_within lX10_123 sX10_within (cn_X10_within E h zv 0 2) rfl rfl (Nat.le_of_ble_eq_true rfl) ⟨Nat.le_of_ble_eq_true rfl, Nat.le_of_ble_eq_true rfl⟩ ⟨Nat.le_of_ble_eq_true rfl, Nat.le_of_ble_eq_true rfl⟩ ?_
  refine ev_if_ne (pc := 6) (tgt := 11) dX10_lost_6 (by decide) (fun zc6 => ?_) (fun zc6 => ?_)
  · -- ne at 6: taken
    refine ev_aload_n (pc := 11) dX10_lost_11 rfl ?_
    refine ev_getR (pc := 12) (q := 32) dX10_lost_12 fX10_59 rfl (wlt hw (by decide)) (wr hw rfl) ?_
    refine ev_aload_n (pc := 15) dX10_lost_15 rfl ?_
    refine ev_getR (pc := 16) (q := 25) dX10_lost_16 fX10_45 rfl (wlt hw (by decide)) (wr hw rfl) ?_
    refine ev_aload_n (pc := 19) dX10_lost_19 rfl ?_
    refine ev_getR (pc := 20) (q := 30) dX10_lost_20 fX10_52 rfl (wlt hw (by decide)) (wr hw rfl) ?_
    refine ev_iconst (pc := 23) (v := 2) dX10_lost_23 (by decide) ?_
    refine ev_callV (S := []) (pc := 24) dX10_lost_24 kX3_gather lX10_298 vX3_gather (cn_X3_gather E h 2 zc zb zf zx hw hp hp4 hS hF hI) rfl rfl (wlt hw (by decide)) rfl rfl (Nat.le_of_ble_eq_true rfl) ⟨Nat.le_of_ble_eq_true rfl, Nat.le_of_ble_eq_true rfl⟩ ⟨Nat.le_of_ble_eq_true rfl, Nat.le_of_ble_eq_true rfl⟩ ?_
    rintro _ _ ⟨rfl, zr, rfl, hD⟩
    refine ev_aload_n (pc := 27) dX10_lost_27 rfl ?_
    refine ev_getR (pc := 28) (q := 25) dX10_lost_28 fX10_45 rfl (wlt (wf_sL hw) (by decide)) (wr (wf_sL hw) rfl) ?_
    refine ev_callVv (S := []) (pc := 31) dX10_lost_31 kX2_lostCells lX10_305 vX2_lostCells (cn_X2_lostCells E (sL h 33 zr) (wf_sL hw)) rfl rfl (wlt (wf_sL hw) (by decide)) rfl rfl (Nat.le_of_ble_eq_true rfl) ⟨Nat.le_of_ble_eq_true rfl, Nat.le_of_ble_eq_true rfl⟩ ⟨Nat.le_of_ble_eq_true rfl, Nat.le_of_ble_eq_true rfl⟩ ?_
    refine ev_lstore_n (pc := 34) (L' := [some (.ref 0), some (.int zv), some (.long ((sL h 33 zr).2.2.1 25 4 ^^^ (-1))), none]) dX10_lost_34 (Nat.le_of_ble_eq_true rfl) rfl ?_
    refine ev_iload_n (pc := 35) dX10_lost_35 rfl ?_
    refine ev_nmI (fun zsv ezsv => ?_)
    by_cases zq0 : zsv = 0
    · subst zq0
      refine ev_look (pc := 36) (tgt := 64) dX10_lost_36 (by decide +kernel) rfl (by decide) ?_
      refine ev_lload_n (pc := 64) dX10_lost_64 rfl ?_
      refine ev_aload_n (pc := 65) dX10_lost_65 rfl ?_
      refine ev_getR (pc := 66) (q := 32) dX10_lost_66 fX10_59 rfl (wlt (wf_sL hw) (by decide)) (wr (wf_sL hw) rfl) ?_
      refine ev_callVv (S := [.long ((sL h 33 zr).2.2.1 25 4 ^^^ (-1))]) (pc := 69) dX10_lost_69 kX3_saidOnce lX10_308 vX3_saidOnce (cn_X3_saidOnce E (sL h 33 zr) (wf_sL hw)) rfl rfl (wlt (wf_sL hw) (by decide)) rfl rfl (Nat.le_of_ble_eq_true rfl) ⟨Nat.le_of_ble_eq_true rfl, Nat.le_of_ble_eq_true rfl⟩ ⟨Nat.le_of_ble_eq_true rfl, Nat.le_of_ble_eq_true rfl⟩ ?_
      refine ev_land (pc := 72) dX10_lost_72 ?_
      refine ev_callSv (S := []) (pc := 73) dX10_lost_73 kJ13_bitCount_95d88 lX10_311 sJ13_bitCount_95d88 (cn_J13_bitCount_95d88 E (sL h 33 zr) (((sL h 33 zr).2.2.1 25 4 ^^^ (-1)) &&& (((onL ((sL h 33 zr).2.2.1 33) 6 ^^^ (-1)) ^^^ (-1)) &&& ((unL ((sL h 33 zr).2.2.1 33) 6) ^^^ (-1))))) rfl rfl (Nat.le_of_ble_eq_true rfl) ⟨Nat.le_of_ble_eq_true rfl, Nat.le_of_ble_eq_true rfl⟩ ⟨Nat.le_of_ble_eq_true rfl, Nat.le_of_ble_eq_true rfl⟩ ?_
      refine ev_iret (pc := 76) dX10_lost_76 rfl ?_ ?_
      · rfl
      · refine ⟨fun _ => ⟨zr, hD, ?_, rfl⟩, fun z => absurd (bI_n0.mp zc6) z⟩
        subst ezsv
        rfl
    by_cases zq1 : zsv = 1
    · subst zq1
      refine ev_look (pc := 36) (tgt := 77) dX10_lost_36 (by decide +kernel) rfl (by decide) ?_
      refine ev_lload_n (pc := 77) dX10_lost_77 rfl ?_
      refine ev_aload_n (pc := 78) dX10_lost_78 rfl ?_
      refine ev_getR (pc := 79) (q := 32) dX10_lost_79 fX10_59 rfl (wlt (wf_sL hw) (by decide)) (wr (wf_sL hw) rfl) ?_
      refine ev_callVv (S := [.long ((sL h 33 zr).2.2.1 25 4 ^^^ (-1))]) (pc := 82) dX10_lost_82 kX3_saidUnlike lX10_316 vX3_saidUnlike (cn_X3_saidUnlike E (sL h 33 zr) (wf_sL hw)) rfl rfl (wlt (wf_sL hw) (by decide)) rfl rfl (Nat.le_of_ble_eq_true rfl) ⟨Nat.le_of_ble_eq_true rfl, Nat.le_of_ble_eq_true rfl⟩ ⟨Nat.le_of_ble_eq_true rfl, Nat.le_of_ble_eq_true rfl⟩ ?_
      refine ev_land (pc := 85) dX10_lost_85 ?_
      refine ev_callSv (S := []) (pc := 86) dX10_lost_86 kJ13_bitCount_95d88 lX10_311 sJ13_bitCount_95d88 (cn_J13_bitCount_95d88 E (sL h 33 zr) (((sL h 33 zr).2.2.1 25 4 ^^^ (-1)) &&& (unL ((sL h 33 zr).2.2.1 33) 6))) rfl rfl (Nat.le_of_ble_eq_true rfl) ⟨Nat.le_of_ble_eq_true rfl, Nat.le_of_ble_eq_true rfl⟩ ⟨Nat.le_of_ble_eq_true rfl, Nat.le_of_ble_eq_true rfl⟩ ?_
      refine ev_iret (pc := 89) dX10_lost_89 rfl ?_ ?_
      · rfl
      · refine ⟨fun _ => ⟨zr, hD, ?_, rfl⟩, fun z => absurd (bI_n0.mp zc6) z⟩
        subst ezsv
        rfl
    refine ev_look (pc := 36) (tgt := 90) dX10_lost_36 (by decide +kernel) (off := 54) ?_ (by decide) ?_
    · simp [Op.lookupswitch.offset, show ¬ (0 : Int) = zsv.toInt from fun z => i32_ne zq0 z.symm, show ¬ (1 : Int) = zsv.toInt from fun z => i32_ne zq1 z.symm]
    refine ev_lload_n (pc := 90) dX10_lost_90 rfl ?_
    refine ev_aload_n (pc := 91) dX10_lost_91 rfl ?_
    refine ev_getR (pc := 92) (q := 32) dX10_lost_92 fX10_59 rfl (wlt (wf_sL hw) (by decide)) (wr (wf_sL hw) rfl) ?_
    refine ev_callVv (S := [.long ((sL h 33 zr).2.2.1 25 4 ^^^ (-1))]) (pc := 95) dX10_lost_95 kX3_saidNothing lX10_319 vX3_saidNothing (cn_X3_saidNothing E (sL h 33 zr) (wf_sL hw)) rfl rfl (wlt (wf_sL hw) (by decide)) rfl rfl (Nat.le_of_ble_eq_true rfl) ⟨Nat.le_of_ble_eq_true rfl, Nat.le_of_ble_eq_true rfl⟩ ⟨Nat.le_of_ble_eq_true rfl, Nat.le_of_ble_eq_true rfl⟩ ?_
    refine ev_land (pc := 98) dX10_lost_98 ?_
    refine ev_callSv (S := []) (pc := 99) dX10_lost_99 kJ13_bitCount_95d88 lX10_311 sJ13_bitCount_95d88 (cn_J13_bitCount_95d88 E (sL h 33 zr) (((sL h 33 zr).2.2.1 25 4 ^^^ (-1)) &&& (onL ((sL h 33 zr).2.2.1 33) 6 ^^^ (-1)))) rfl rfl (Nat.le_of_ble_eq_true rfl) ⟨Nat.le_of_ble_eq_true rfl, Nat.le_of_ble_eq_true rfl⟩ ⟨Nat.le_of_ble_eq_true rfl, Nat.le_of_ble_eq_true rfl⟩ ?_
    refine ev_iret (pc := 102) dX10_lost_102 rfl ?_ ?_
    · rfl
    · refine ⟨fun _ => ⟨zr, hD, ?_, rfl⟩, fun z => absurd (bI_n0.mp zc6) z⟩
      subst ezsv
      rw [if_neg zq0, if_neg zq1]
      rfl
  · -- ne at 6: not taken
    refine ev_iconst (pc := 9) (v := (-1)) dX10_lost_9 (by decide) ?_
    refine ev_iret (pc := 10) dX10_lost_10 rfl ?_ ?_
    · rfl
    · exact ⟨fun z => absurd z (bI_0.mp zc6), fun _ => ⟨rfl, rfl⟩⟩
def fiG (zf : Nat → Int32) (zs : Int64) (zv : Nat → Int32) (zk zj : Nat) : Int32 := if zj < 64 ∧ zj < zk ∧ lbt zs zj = true then zv zj else zf zj
theorem fiG_0 (zf : Nat → Int32) (zs : Int64) (zv : Nat → Int32) : fiG zf zs zv 0 = zf := by
  funext zj
  unfold fiG
  rw [if_neg (fun z => by have := z.2.1; omega)]
theorem fiG_n {zf : Nat → Int32} {zs : Int64} {zv : Nat → Int32} {zk : Nat} (h : ¬ lbt zs zk = true) : fiG zf zs zv (zk + 1) = fiG zf zs zv zk := by
  funext zj
  unfold fiG
  by_cases c : zj < 64 ∧ zj < zk ∧ lbt zs zj = true
  · rw [if_pos c, if_pos ⟨c.1, by omega, c.2.2⟩]
  · rw [if_neg c, if_neg (fun z => c ⟨z.1, by
      by_cases e : zj = zk
      · subst e; exact absurd z.2.2 h
      · have := z.2.1; omega, z.2.2⟩)]
theorem fiG_u {zf : Nat → Int32} {zs : Int64} {zv : Nat → Int32} {zk : Nat} (hk : zk < 64) (h : lbt zs zk = true) : upd (fiG zf zs zv zk) zk (zv zk) = fiG zf zs zv (zk + 1) := by
  funext zj
  unfold upd
  by_cases e : zj = zk
  · subst e
    rw [if_pos rfl]
    unfold fiG
    rw [if_pos ⟨hk, by omega, h⟩]
  · rw [if_neg e]
    unfold fiG
    by_cases c : zj < 64 ∧ zj < zk ∧ lbt zs zj = true
    · rw [if_pos c, if_pos ⟨c.1, by omega, c.2.2⟩]
    · rw [if_neg c, if_neg (fun z => c ⟨z.1, by have := z.2.1; omega, z.2.2⟩)]
/-- told of one colour alone: the verdict is that colour -/
theorem vd_1 (zr : Nat → Int64) {zj : Nat} (hj : zj < 64) : ∀ zn, zn ≤ 6 → (lbt (onL zr zn) zj = false → vdN (fun zk => lbt (zr zk) zj) zn = -4) ∧ (lbt (onL zr zn) zj = true → lbt (unL zr zn) zj = false → ∃ zc, zc < 6 ∧ vdN (fun zk => lbt (zr zk) zj) zn = nI zc) ∧ (lbt (unL zr zn) zj = true → lbt (onL zr zn) zj = true)
  | 0, _ => ⟨fun _ => rfl, fun z => by rw [onL, lb_0] at z; exact absurd z (by decide), fun z => by rw [unL, lb_0] at z; exact absurd z (by decide)⟩
  | zn + 1, hn => by
    have ih := vd_1 zr hj zn (by omega)
    rw [onL, unL, lb_or, lb_or, lb_and, vdN]
    cases h1 : lbt (zr zn) zj
    · rw [if_neg (by decide), Bool.or_false, Bool.and_false, Bool.or_false]
      exact ih
    · rw [if_pos rfl, Bool.or_true, Bool.and_true]
      refine ⟨fun z => absurd z (by decide), fun _ z => ?_, fun _ => rfl⟩
      rw [Bool.or_eq_false_iff] at z
      rw [if_pos (ih.1 z.2)]
      exact ⟨zn, by omega, rfl⟩
theorem vd_once {zr : Nat → Int64} {zj : Nat} (hj : zj < 64) (h : lbt (((onL zr 6 ^^^ (-1)) ^^^ (-1)) &&& ((unL zr 6) ^^^ (-1))) zj = true) : ∃ zc, zc < 6 ∧ vdN (fun zk => lbt (zr zk) zj) 6 = nI zc := by
  rw [lb_and, lb_xor, lb_xor, lb_xor, lb_m1 zj hj] at h
  have h1 := vd_1 zr hj 6 (Nat.le_refl _)
  cases a : lbt (onL zr 6) zj
  · rw [a] at h; simp at h
  · cases b : lbt (unL zr 6) zj
    · exact h1.2.1 a b
    · rw [a, b] at h; simp at h
theorem lp_fill_34 (E : ME) (h : AH) (zr : Nat → Int64) (zs : Int64) (zf : Nat → Int32) (hs : ∀ zj, zj < 64 → lbt zs zj = true → ∃ zc, zc < 6 ∧ (fun zj => vdN (fun zk => lbt (zr zk) zj) 6) zj = nI zc) {post : PO} (K : ∀ zg : AH, WF zg → (∃ zy, FNz zf (fiG zf zs (fun zj => vdN (fun zk => lbt (zr zk) zj) 6) 64) zy 64 (sL h 33 zr) zg) → Ev E mX10_fill (rmm 6 0 0) (QM E 0 0 post) 0 0 70 [some (.ref 0), some (.long zs), none, some (.int (nI 64))] [] zg) : ∀ (zq zi : Nat) (zg : AH), zi + zq = 64 → WF zg → (∃ zy, FNz zf (fiG zf zs (fun zj => vdN (fun zk => lbt (zr zk) zj) 6) zi) zy zi (sL h 33 zr) zg) → Ev E mX10_fill (rmm 6 0 0) (QM E 0 0 post) 0 0 34 [some (.ref 0), some (.long zs), none, some (.int (nI zi))] [] zg := by
  intro zq
  induction zq with
  | zero =>
    intro zi zg hz hw hN
    obtain rfl : 64 = zi := by omega
    refine ev_iload_n (pc := 34) dX10_fill_34 rfl ?_
    refine ev_bipush (pc := 35) (v := 64) dX10_fill_35 (by decide) ?_
    refine ev_icmp_ge (pc := 37) (tgt := 70) dX10_fill_37 (by decide) (fun zc37 => ?_) (fun zc37 => absurd (by decide) zc37)
    exact K zg hw hN
  | succ zq ih =>
    intro zi zg hz hw hN
    have hi : zi < 64 := by omega
    obtain ⟨zy, hN⟩ := hN
    have e33 : zg.2.2.1 33 = zr := hN.2.1.2.2.2.1 33 (by decide) (by decide)
    refine ev_iload_n (pc := 34) dX10_fill_34 rfl ?_
    refine ev_bipush (pc := 35) (v := 64) dX10_fill_35 (by decide) ?_
    refine ev_icmp_ge (pc := 37) (tgt := 70) dX10_fill_37 (by decide) (fun zc37 => absurd zc37 (nI_ge (a := zi) (b := 64) hi (by decide))) (fun zc37 => ?_)
    refine ev_lload_n (pc := 40) dX10_fill_40 rfl ?_
    refine ev_iload_n (pc := 41) dX10_fill_41 rfl ?_
    refine ev_callSv (S := []) (pc := 42) dX10_fill_42 kX10_hasCell lX10_322 sX10_hasCell (cn_X10_hasCell E zg zs zi hw hi) rfl rfl (Nat.le_of_ble_eq_true rfl) ⟨Nat.le_of_ble_eq_true rfl, Nat.le_of_ble_eq_true rfl⟩ ⟨Nat.le_of_ble_eq_true rfl, Nat.le_of_ble_eq_true rfl⟩ ?_
    refine ev_if_eq (pc := 45) (tgt := 64) dX10_fill_45 (by decide) (fun zc45 => ?_) (fun zc45 => ?_)
    · -- eq at 45: taken
      refine ev_iinc (pc := 64) (v := nI (zi + 1)) (L' := [some (.ref 0), some (.long zs), none, some (.int (nI (zi + 1)))]) dX10_fill_64 rfl (nI_1 _) (Nat.le_of_ble_eq_true rfl) rfl ?_
      refine ev_goto (pc := 67) (tgt := 34) dX10_fill_67 (by decide) ?_
      refine ih (zi + 1) zg (by omega) hw ⟨zy, ?_⟩
      rw [fiG_n (bI_0.mp zc45)]
      exact FN_s hN
    · -- eq at 45: not taken
      refine ev_aload_n (pc := 48) dX10_fill_48 rfl ?_
      refine ev_getR (pc := 49) (q := 25) dX10_fill_49 fX10_45 rfl (wlt hw (by decide)) (wr hw rfl) ?_
      refine ev_iload_n (pc := 52) dX10_fill_52 rfl ?_
      refine ev_aload_n (pc := 53) dX10_fill_53 rfl ?_
      refine ev_getR (pc := 54) (q := 32) dX10_fill_54 fX10_59 rfl (wlt hw (by decide)) (wr hw rfl) ?_
      refine ev_iload_n (pc := 57) dX10_fill_57 rfl ?_
      refine ev_callVv (S := [.int (nI zi), .ref 25]) (pc := 58) dX10_fill_58 kX3_verdict lX10_302 vX3_verdict (cn_X3_verdict E zg zi hw hi) rfl rfl (wlt hw (by decide)) rfl rfl (Nat.le_of_ble_eq_true rfl) ⟨Nat.le_of_ble_eq_true rfl, Nat.le_of_ble_eq_true rfl⟩ ⟨Nat.le_of_ble_eq_true rfl, Nat.le_of_ble_eq_true rfl⟩ ?_
      refine ev_eqI (e' := (fun zj => vdN (fun zk => lbt (zr zk) zj) 6) zi) (by rw [e33]) ?_
      refine ev_callV (S := []) (pc := 61) dX10_fill_61 kX2_change lX10_166 vX2_change (cn_X2_changeV E zg zi ((fun zj => vdN (fun zk => lbt (zr zk) zj) 6) zi) _ zy hw hN.1 hi (Or.inr (hs zi hi (bI_n0.mp zc45)))) rfl rfl (wlt hw (by decide)) rfl rfl (Nat.le_of_ble_eq_true rfl) ⟨Nat.le_of_ble_eq_true rfl, Nat.le_of_ble_eq_true rfl⟩ ⟨Nat.le_of_ble_eq_true rfl, Nat.le_of_ble_eq_true rfl⟩ ?_
      rintro _ zg2 ⟨rfl, hF2, hR2, hn2⟩
      have wzg2 := FrF_w hR2 hw
      refine ev_iinc (pc := 64) (v := nI (zi + 1)) (L' := [some (.ref 0), some (.long zs), none, some (.int (nI (zi + 1)))]) dX10_fill_64 rfl (nI_1 _) (Nat.le_of_ble_eq_true rfl) rfl ?_
      refine ev_goto (pc := 67) (tgt := 34) dX10_fill_67 (by decide) ?_
      refine ih (zi + 1) zg2 (by omega) wzg2 ⟨zy &&& ((1 <<< (Int32.toInt64 (nI zi) &&& 63)) ^^^ (-1)), ?_⟩
      rw [← fiG_u hi (bI_n0.mp zc45)]
      exact FN_c hN hF2 hR2 hn2
/-- the sure cells are filled -/
def FIz (zf : Nat → Int32) (zs : Int64) (zv : Nat → Int32) (h g : AH) : Prop := FLz (fiG zf zs zv 64) zs g ∧ g.1 = h.1 ∧ g.2.2.2 = h.2.2.2 ∧ (∀ zk, zk ≠ 25 → zk ≠ 26 → g.2.1 zk = h.2.1 zk) ∧ (∀ zk, zk ≠ 25 → zk ≠ 27 → zk ≠ 33 → g.2.2.1 zk = h.2.2.1 zk) ∧ (∀ zj, zj ≠ 6 → zj ≠ 7 → g.2.1 25 zj = h.2.1 25 zj) ∧ g.2.1 25 6 = 1 ∧ ∃ zn, zn ≤ 64 ∧ g.2.1 25 7 = h.2.1 25 7 + nI zn ∧ (zn = 0 → fiG zf zs zv 64 = zf)
theorem cn_X10_fill (E : ME) (h : AH) (zc : Nat → Nat → Nat) (zb : Nat) (zf : Nat → Int32) (zx : Int64) (hw : WF h) (hp : h.2.1 30 1 = nI zb) (hp4 : zb ≤ 4) (hS : SHz zc zb h) (hF : FLz zf zx h) (hI : IMz h) : Con E mX10_fill 6 0 0 [.ref 0] h (fun r h' => ∃ zr, SDr (gaP zc zb zf 2) zr ∧ r = some (.int (bcL ((h.2.2.1 25 4 ^^^ (-1)) &&& (((onL zr 6 ^^^ (-1)) ^^^ (-1)) &&& ((unL zr 6) ^^^ (-1)))))) ∧ FIz zf ((h.2.2.1 25 4 ^^^ (-1)) &&& (((onL zr 6 ^^^ (-1)) ^^^ (-1)) &&& ((unL zr 6) ^^^ (-1)))) (fun zj => vdN (fun zk => lbt (zr zk) zj) 6) h h') := by
  refine con_of2 (L := [some (.ref 0), none, none, none]) rfl (Nat.le_of_ble_eq_true rfl) rfl ?_
  refine ev_aload_n (pc := 0) dX10_fill_0 rfl ?_
  refine ev_getR (pc := 1) (q := 32) dX10_fill_1 fX10_59 rfl (wlt hw (by decide)) (wr hw rfl) ?_
  refine ev_aload_n (pc := 4) dX10_fill_4 rfl ?_
  refine ev_getR (pc := 5) (q := 25) dX10_fill_5 fX10_45 rfl (wlt hw (by decide)) (wr hw rfl) ?_
  refine ev_aload_n (pc := 8) dX10_fill_8 rfl ?_
  refine ev_getR (pc := 9) (q := 30) dX10_fill_9 fX10_52 rfl (wlt hw (by decide)) (wr hw rfl) ?_
  refine ev_iconst (pc := 12) (v := 2) dX10_fill_12 (by decide) ?_
  refine ev_callV (S := []) (pc := 13) dX10_fill_13 kX3_gather lX10_298 vX3_gather (cn_X3_gather E h 2 zc zb zf zx hw hp hp4 hS hF hI) rfl rfl (wlt hw (by decide)) rfl rfl (Nat.le_of_ble_eq_true rfl) ⟨Nat.le_of_ble_eq_true rfl, Nat.le_of_ble_eq_true rfl⟩ ⟨Nat.le_of_ble_eq_true rfl, Nat.le_of_ble_eq_true rfl⟩ ?_
  rintro _ _ ⟨rfl, zr, rfl, hD⟩
  refine ev_aload_n (pc := 16) dX10_fill_16 rfl ?_
  refine ev_getR (pc := 17) (q := 25) dX10_fill_17 fX10_45 rfl (wlt (wf_sL hw) (by decide)) (wr (wf_sL hw) rfl) ?_
  refine ev_callVv (S := []) (pc := 20) dX10_fill_20 kX2_lostCells lX10_305 vX2_lostCells (cn_X2_lostCells E (sL h 33 zr) (wf_sL hw)) rfl rfl (wlt (wf_sL hw) (by decide)) rfl rfl (Nat.le_of_ble_eq_true rfl) ⟨Nat.le_of_ble_eq_true rfl, Nat.le_of_ble_eq_true rfl⟩ ⟨Nat.le_of_ble_eq_true rfl, Nat.le_of_ble_eq_true rfl⟩ ?_
  refine ev_aload_n (pc := 23) dX10_fill_23 rfl ?_
  refine ev_getR (pc := 24) (q := 32) dX10_fill_24 fX10_59 rfl (wlt (wf_sL hw) (by decide)) (wr (wf_sL hw) rfl) ?_
  refine ev_callVv (S := [.long ((sL h 33 zr).2.2.1 25 4 ^^^ (-1))]) (pc := 27) dX10_fill_27 kX3_saidOnce lX10_308 vX3_saidOnce (cn_X3_saidOnce E (sL h 33 zr) (wf_sL hw)) rfl rfl (wlt (wf_sL hw) (by decide)) rfl rfl (Nat.le_of_ble_eq_true rfl) ⟨Nat.le_of_ble_eq_true rfl, Nat.le_of_ble_eq_true rfl⟩ ⟨Nat.le_of_ble_eq_true rfl, Nat.le_of_ble_eq_true rfl⟩ ?_
  refine ev_land (pc := 30) dX10_fill_30 ?_
  refine ev_lstore_n (pc := 31) (L' := [some (.ref 0), some (.long (((sL h 33 zr).2.2.1 25 4 ^^^ (-1)) &&& (((onL ((sL h 33 zr).2.2.1 33) 6 ^^^ (-1)) ^^^ (-1)) &&& ((unL ((sL h 33 zr).2.2.1 33) 6) ^^^ (-1))))), none, none]) dX10_fill_31 (Nat.le_of_ble_eq_true rfl) rfl ?_
  refine ev_iconst (pc := 32) (v := 0) dX10_fill_32 (by decide) ?_
  refine ev_istore_n (pc := 33) (L' := [some (.ref 0), some (.long (((sL h 33 zr).2.2.1 25 4 ^^^ (-1)) &&& (((onL ((sL h 33 zr).2.2.1 33) 6 ^^^ (-1)) ^^^ (-1)) &&& ((unL ((sL h 33 zr).2.2.1 33) 6) ^^^ (-1))))), none, some (.int 0)]) dX10_fill_33 (Nat.le_of_ble_eq_true rfl) rfl ?_
  refine ev_eqL (L' := [some (.ref 0), some (.long ((h.2.2.1 25 4 ^^^ (-1)) &&& (((onL zr 6 ^^^ (-1)) ^^^ (-1)) &&& ((unL zr 6) ^^^ (-1))))), none, some (.int (nI 0))]) rfl ?_
  refine lp_fill_34 E h zr ((h.2.2.1 25 4 ^^^ (-1)) &&& (((onL zr 6 ^^^ (-1)) ^^^ (-1)) &&& ((unL zr 6) ^^^ (-1)))) zf (fun zj hj hb => vd_once hj (by rw [lb_and, Bool.and_eq_true] at hb; exact hb.2)) (fun zg wzg hN => ?_) 64 0 (sL h 33 zr) (by decide) (wf_sL hw) ⟨zx, by rw [fiG_0]; exact FN_0 hF⟩
  refine ev_aload_n (pc := 70) dX10_fill_70 rfl ?_
  refine ev_getR (pc := 71) (q := 25) dX10_fill_71 fX10_45 rfl (wlt wzg (by decide)) (wr wzg rfl) ?_
  refine ev_lload_n (pc := 74) dX10_fill_74 rfl ?_
  refine ev_callV0 (S := []) (pc := 75) dX10_fill_75 kX2_noteFilled lX10_326 vX2_noteFilled (cn_X2_noteFilled E zg ((h.2.2.1 25 4 ^^^ (-1)) &&& (((onL zr 6 ^^^ (-1)) ^^^ (-1)) &&& ((unL zr 6) ^^^ (-1)))) wzg) rfl rfl (wlt wzg (by decide)) rfl rfl (Nat.le_of_ble_eq_true rfl) ⟨Nat.le_of_ble_eq_true rfl, Nat.le_of_ble_eq_true rfl⟩ ⟨Nat.le_of_ble_eq_true rfl, Nat.le_of_ble_eq_true rfl⟩ ?_
  refine ev_eqH (h' := sI (sL zg 25 (vp_updL (zg.2.2.1 25) 5 ((h.2.2.1 25 4 ^^^ (-1)) &&& (((onL zr 6 ^^^ (-1)) ^^^ (-1)) &&& ((unL zr 6) ^^^ (-1)))))) 25 (upd (zg.2.1 25) 6 1)) rfl ?_
  refine ev_lload_n (pc := 78) dX10_fill_78 rfl ?_
  refine ev_callSv (S := []) (pc := 79) dX10_fill_79 kJ13_bitCount_95d88 lX10_311 sJ13_bitCount_95d88 (cn_J13_bitCount_95d88 E (sI (sL zg 25 (vp_updL (zg.2.2.1 25) 5 ((h.2.2.1 25 4 ^^^ (-1)) &&& (((onL zr 6 ^^^ (-1)) ^^^ (-1)) &&& ((unL zr 6) ^^^ (-1)))))) 25 (upd (zg.2.1 25) 6 1)) ((h.2.2.1 25 4 ^^^ (-1)) &&& (((onL zr 6 ^^^ (-1)) ^^^ (-1)) &&& ((unL zr 6) ^^^ (-1))))) rfl rfl (Nat.le_of_ble_eq_true rfl) ⟨Nat.le_of_ble_eq_true rfl, Nat.le_of_ble_eq_true rfl⟩ ⟨Nat.le_of_ble_eq_true rfl, Nat.le_of_ble_eq_true rfl⟩ ?_
  refine ev_iret (pc := 82) dX10_fill_82 rfl ?_ ?_
  · rfl
  · obtain ⟨zy, n1, n2, zn, n3, n4, n5⟩ := hN
    refine ⟨zr, hD, rfl, ⟨n1.1, n1.2.1, n1.2.2.1, n1.2.2.2.1, rfl⟩, n2.1, n2.2.1, fun zk a b => (sI_ne _ _ a).trans (n2.2.2.1 zk a b), fun zk a b c => (sL_ne _ _ a).trans ((n2.2.2.2.1 zk a b).trans (sL_ne _ _ c)), fun zj a b => (pk_un a).trans (n2.2.2.2.2 zj b), rfl, zn, n3, n4, n5⟩
