/-- in how many cells a copy agrees; -1: it clashes -/
def acV (zc : Nat → Nat → Nat) (zf : Nat → Int32) (zn : Nat) : Int32 := if ctT (tcN zc zn) (clQ zf) 6 = 0 then nI (ctT (tcN zc zn) (agQ zf) 6) else -1
theorem ctT_z {zt : Nat → Nat} {zQ : Nat → Nat → Bool} {zi : Nat} : ctT zt zQ zi = 0 ↔ ∀ zj, zj < 64 → zt zj < zi → zQ (zt zj) zj = false := by
  unfold ctT
  rw [fb_ct_zero]
  constructor
  · intro h zj hj hi
    have h1 := h zj hj
    rwa [decide_eq_true hi, Bool.true_and] at h1
  · intro h zj hj
    by_cases hi : zt zj < zi
    · rw [h zj hj hi, Bool.and_false]
    · rw [decide_eq_false hi, Bool.false_and]
theorem lp_clean_43 (E : ME) (h : AH) (zn : Nat) (zc : Nat → Nat → Nat) (zb : Nat) (zf : Nat → Int32) (zx : Int64) (hw : WF h) (hp : h.2.1 30 1 = nI zb) (hp4 : zb ≤ 4) (hS : SHz zc zb h) (hn : zn < zb * 208) (hF : FLz zf zx h) : ∀ zq zi : Nat, zi + zq = 6 → ctT (tcN zc zn) (clQ zf) zi = 0 → Ev E mX0_agreesCleanly (rmm 2 0 0) (QM E 0 0 (fun r h' => r = some (.int (acV zc zf zn)) ∧ h' = h)) 0 0 43 [some (.ref 30), some (.int (nI zn)), some (.ref 25), some (.int (nI (ctT (tcN zc zn) (agQ zf) zi))), some (.int (nI (shN zn))), some (.int (nI (cpC zn))), some (.long ((h.2.2.1 25 4 ^^^ (-1)) ^^^ (-1))), none, some (.int (nI zi)), none, none, none, none] [] h := by
  have hn8 : zn < 832 := by omega
  have hsb := shN_b hn8
  intro zq
  induction zq with
  | zero =>
    intro zi hi h0
    obtain rfl : 6 = zi := by omega
    refine ev_iload (pc := 43) dX0_agreesCleanly_43 rfl ?_
    refine ev_bipush (pc := 45) (v := 6) dX0_agreesCleanly_45 (by decide) ?_
    refine ev_icmp_ge (pc := 47) (tgt := 103) dX0_agreesCleanly_47 (by decide) (fun zc47 => ?_) (fun zc47 => absurd (by decide) zc47)
    refine ev_iload_n (pc := 103) dX0_agreesCleanly_103 rfl ?_
    refine ev_iret (pc := 104) dX0_agreesCleanly_104 rfl ?_ ?_
    · rfl
    · refine ⟨?_, rfl⟩
      unfold acV
      rw [if_pos h0]
  | succ zq ih =>
    intro zi hi h0
    have hlt : zi < 6 := by omega
    have hbm : ∀ zj, zj < 64 → lbt (((h.2.2.1 31 (shN zn + zi)) <<< (Int32.toInt64 (nI (cpC zn)) &&& 63)) &&& ((h.2.2.1 25 4 ^^^ (-1)) ^^^ (-1))) zj = (decide (tcN zc zn zj = zi) && !decide (zf zj = -1)) := fun zj hj => by
      have z1 := to_bt hS hn hlt hj
      unfold toL at z1
      rw [lb_and, z1, lb_xor, lb_xor, lb_m1 zj hj, hF.2.2.2.1 zj hj]
      cases decide (zf zj = -1) <;> rfl
    have hbs : ∀ zj, zj < 64 → lbt ((((h.2.2.1 31 (shN zn + zi)) <<< (Int32.toInt64 (nI (cpC zn)) &&& 63)) &&& ((h.2.2.1 25 4 ^^^ (-1)) ^^^ (-1))) &&& (h.2.2.1 27 zi)) zj = (decide (tcN zc zn zj = zi) && agQ zf zi zj) := fun zj hj => by
      rw [lb_and, hbm zj hj, hF.2.2.1 zi hlt zj hj]
      unfold agQ
      by_cases z2 : zf zj = nI zi
      · rw [decide_eq_true z2, decide_eq_false (show ¬ zf zj = -1 from fun z => m1_ne hlt (z.symm.trans z2)), Bool.not_false, Bool.and_true]
      · rw [decide_eq_false z2, Bool.and_false, Bool.and_false]
    refine ev_iload (pc := 43) dX0_agreesCleanly_43 rfl ?_
    refine ev_bipush (pc := 45) (v := 6) dX0_agreesCleanly_45 (by decide) ?_
    refine ev_icmp_ge (pc := 47) (tgt := 103) dX0_agreesCleanly_47 (by decide) (fun zc47 => absurd zc47 (nI_ge (a := zi) (b := 6) hlt (by decide))) (fun zc47 => ?_)
    refine ev_aload_n (pc := 50) dX0_agreesCleanly_50 rfl ?_
    refine ev_getR (pc := 51) (q := 31) dX0_agreesCleanly_51 fX0_11 rfl (wlt hw (by decide)) (wr hw rfl) ?_
    refine ev_iload (pc := 54) dX0_agreesCleanly_54 rfl ?_
    refine ev_iload (pc := 56) dX0_agreesCleanly_56 rfl ?_
    refine ev_iadd (pc := 58) dX0_agreesCleanly_58 ?_
    refine ev_eqI (e' := nI ((shN zn) + zi)) (nI_add (shN zn) zi) ?_
    refine ev_lald (pc := 59) dX0_agreesCleanly_59 rfl (wlt hw (by decide)) (vp_in_nI (by omega) (by decide)) ?_
    refine ev_eqJ (e' := h.2.2.1 31 ((shN zn) + zi)) (by rw [show Int32.toNatClampNeg (nI ((shN zn) + zi)) = (shN zn) + zi from nI_clamp (by omega)] <;> rfl) ?_
    refine ev_iload (pc := 60) dX0_agreesCleanly_60 rfl ?_
    refine ev_lshl (pc := 62) dX0_agreesCleanly_62 ?_
    refine ev_lload (pc := 63) dX0_agreesCleanly_63 rfl ?_
    refine ev_land (pc := 65) dX0_agreesCleanly_65 ?_
    refine ev_lstore (pc := 66) (L' := [some (.ref 30), some (.int (nI zn)), some (.ref 25), some (.int (nI (ctT (tcN zc zn) (agQ zf) zi))), some (.int (nI (shN zn))), some (.int (nI (cpC zn))), some (.long ((h.2.2.1 25 4 ^^^ (-1)) ^^^ (-1))), none, some (.int (nI zi)), some (.long (((h.2.2.1 31 ((shN zn) + zi)) <<< (Int32.toInt64 (nI (cpC zn)) &&& 63)) &&& ((h.2.2.1 25 4 ^^^ (-1)) ^^^ (-1)))), none, none, none]) dX0_agreesCleanly_66 (Nat.le_of_ble_eq_true rfl) rfl ?_
    refine ev_lload (pc := 68) dX0_agreesCleanly_68 rfl ?_
    refine ev_aload_n (pc := 70) dX0_agreesCleanly_70 rfl ?_
    refine ev_iload (pc := 71) dX0_agreesCleanly_71 rfl ?_
    refine ev_callVv (S := [.long (((h.2.2.1 31 ((shN zn) + zi)) <<< (Int32.toInt64 (nI (cpC zn)) &&& 63)) &&& ((h.2.2.1 25 4 ^^^ (-1)) ^^^ (-1)))]) (pc := 73) dX0_agreesCleanly_73 kX2_plane lX0_79 vX2_plane (cn_X2_plane E h zi hw hlt) rfl rfl (wlt hw (by decide)) rfl rfl (Nat.le_of_ble_eq_true rfl) ⟨Nat.le_of_ble_eq_true rfl, Nat.le_of_ble_eq_true rfl⟩ ⟨Nat.le_of_ble_eq_true rfl, Nat.le_of_ble_eq_true rfl⟩ ?_
    refine ev_land (pc := 76) dX0_agreesCleanly_76 ?_
    refine ev_lstore (pc := 77) (L' := [some (.ref 30), some (.int (nI zn)), some (.ref 25), some (.int (nI (ctT (tcN zc zn) (agQ zf) zi))), some (.int (nI (shN zn))), some (.int (nI (cpC zn))), some (.long ((h.2.2.1 25 4 ^^^ (-1)) ^^^ (-1))), none, some (.int (nI zi)), some (.long (((h.2.2.1 31 ((shN zn) + zi)) <<< (Int32.toInt64 (nI (cpC zn)) &&& 63)) &&& ((h.2.2.1 25 4 ^^^ (-1)) ^^^ (-1)))), none, some (.long ((((h.2.2.1 31 ((shN zn) + zi)) <<< (Int32.toInt64 (nI (cpC zn)) &&& 63)) &&& ((h.2.2.1 25 4 ^^^ (-1)) ^^^ (-1))) &&& (h.2.2.1 27 zi))), none]) dX0_agreesCleanly_77 (Nat.le_of_ble_eq_true rfl) rfl ?_
    refine ev_lload (pc := 79) dX0_agreesCleanly_79 rfl ?_
    refine ev_lload (pc := 81) dX0_agreesCleanly_81 rfl ?_
    refine ev_lcmp (pc := 83) dX0_agreesCleanly_83 ?_
    refine ev_if_eq (pc := 84) (tgt := 89) dX0_agreesCleanly_84 (by decide) (fun zc84 => ?_) (fun zc84 => ?_)
    · -- eq at 84: taken
      refine ev_iload_n (pc := 89) dX0_agreesCleanly_89 rfl ?_
      refine ev_lload (pc := 90) dX0_agreesCleanly_90 rfl ?_
      refine ev_callSv (S := [.int (nI (ctT (tcN zc zn) (agQ zf) zi))]) (pc := 92) dX0_agreesCleanly_92 kJ13_bitCount_95d88 lX0_85 sJ13_bitCount_95d88 (cn_J13_bitCount_95d88 E h ((((h.2.2.1 31 ((shN zn) + zi)) <<< (Int32.toInt64 (nI (cpC zn)) &&& 63)) &&& ((h.2.2.1 25 4 ^^^ (-1)) ^^^ (-1))) &&& (h.2.2.1 27 zi))) rfl rfl (Nat.le_of_ble_eq_true rfl) ⟨Nat.le_of_ble_eq_true rfl, Nat.le_of_ble_eq_true rfl⟩ ⟨Nat.le_of_ble_eq_true rfl, Nat.le_of_ble_eq_true rfl⟩ ?_
      refine ev_iadd (pc := 95) dX0_agreesCleanly_95 ?_
      refine ev_eqI (e' := nI (ctT (tcN zc zn) (agQ zf) (zi + 1))) (ctT_s hbs) ?_
      refine ev_istore_n (pc := 96) (L' := [some (.ref 30), some (.int (nI zn)), some (.ref 25), some (.int (nI (ctT (tcN zc zn) (agQ zf) (zi + 1)))), some (.int (nI (shN zn))), some (.int (nI (cpC zn))), some (.long ((h.2.2.1 25 4 ^^^ (-1)) ^^^ (-1))), none, some (.int (nI zi)), some (.long (((h.2.2.1 31 ((shN zn) + zi)) <<< (Int32.toInt64 (nI (cpC zn)) &&& 63)) &&& ((h.2.2.1 25 4 ^^^ (-1)) ^^^ (-1)))), none, some (.long ((((h.2.2.1 31 ((shN zn) + zi)) <<< (Int32.toInt64 (nI (cpC zn)) &&& 63)) &&& ((h.2.2.1 25 4 ^^^ (-1)) ^^^ (-1))) &&& (h.2.2.1 27 zi))), none]) dX0_agreesCleanly_96 (Nat.le_of_ble_eq_true rfl) rfl ?_
      refine ev_iinc (pc := 97) (v := nI (zi + 1)) (L' := [some (.ref 30), some (.int (nI zn)), some (.ref 25), some (.int (nI (ctT (tcN zc zn) (agQ zf) (zi + 1)))), some (.int (nI (shN zn))), some (.int (nI (cpC zn))), some (.long ((h.2.2.1 25 4 ^^^ (-1)) ^^^ (-1))), none, some (.int (nI (zi + 1))), some (.long (((h.2.2.1 31 ((shN zn) + zi)) <<< (Int32.toInt64 (nI (cpC zn)) &&& 63)) &&& ((h.2.2.1 25 4 ^^^ (-1)) ^^^ (-1)))), none, some (.long ((((h.2.2.1 31 ((shN zn) + zi)) <<< (Int32.toInt64 (nI (cpC zn)) &&& 63)) &&& ((h.2.2.1 25 4 ^^^ (-1)) ^^^ (-1))) &&& (h.2.2.1 27 zi))), none]) dX0_agreesCleanly_97 rfl (nI_1 _) (Nat.le_of_ble_eq_true rfl) rfl ?_
      refine ev_goto (pc := 100) (tgt := 43) dX0_agreesCleanly_100 (by decide) ?_
      have zeq := (lc_eq _ _).mp zc84
      have hcl : ctT (tcN zc zn) (clQ zf) (zi + 1) = 0 := ctT_z.mpr (fun zj hj hz => by
        by_cases e : tcN zc zn zj = zi
        · have z1 := congrArg (fun zy => lbt zy zj) zeq
          have z2 : lbt ((((h.2.2.1 31 (shN zn + zi)) <<< (Int32.toInt64 (nI (cpC zn)) &&& 63)) &&& ((h.2.2.1 25 4 ^^^ (-1)) ^^^ (-1))) &&& (h.2.2.1 27 zi)) zj = lbt (((h.2.2.1 31 (shN zn + zi)) <<< (Int32.toInt64 (nI (cpC zn)) &&& 63)) &&& ((h.2.2.1 25 4 ^^^ (-1)) ^^^ (-1))) zj := z1
          rw [hbs zj hj, hbm zj hj, decide_eq_true e, Bool.true_and, Bool.true_and] at z2
          unfold agQ at z2
          rw [e]
          unfold clQ
          rw [← z2]
          cases decide (zf zj = nI zi) <;> rfl
        · exact ctT_z.mp h0 zj hj (by omega))
      refine ev_less (L' := [some (.ref 30), some (.int (nI zn)), some (.ref 25), some (.int (nI (ctT (tcN zc zn) (agQ zf) (zi + 1)))), some (.int (nI (shN zn))), some (.int (nI (cpC zn))), some (.long ((h.2.2.1 25 4 ^^^ (-1)) ^^^ (-1))), none, some (.int (nI (zi + 1))), none, none, none, none]) (ls_keep (ls_keep (ls_keep (ls_keep (ls_keep (ls_keep (ls_keep (ls_keep (ls_keep (ls_drop (ls_keep (ls_drop (ls_keep (ls_nil _)))))))))))))) ?_
      exact ih (zi + 1) (by omega) hcl
    · -- eq at 84: not taken
      refine ev_iconst (pc := 87) (v := (-1)) dX0_agreesCleanly_87 (by decide) ?_
      refine ev_iret (pc := 88) dX0_agreesCleanly_88 rfl ?_ ?_
      · rfl
      · refine ⟨?_, rfl⟩
        unfold acV
        rw [if_neg (fun z => zc84 ((lc_eq _ _).mpr (lb_ext (fun zj hj => by
          rw [hbs zj hj, hbm zj hj]
          by_cases e : tcN zc zn zj = zi
          · have z1 := ctT_z.mp z zj hj (by omega)
            rw [e] at z1
            unfold clQ at z1
            unfold agQ
            rw [decide_eq_true e, Bool.true_and, Bool.true_and]
            by_cases z5 : zf zj = nI zi
            · rw [decide_eq_true z5, decide_eq_false (show ¬ zf zj = -1 from fun z => m1_ne hlt (z.symm.trans z5))]; rfl
            · rw [decide_eq_false z5, Bool.not_false, Bool.and_true] at z1
              rw [decide_eq_false z5, z1]
          · rw [decide_eq_false e, Bool.false_and, Bool.false_and]))))]
theorem cn_X0_agreesCleanly (E : ME) (h : AH) (zn : Nat) (zc : Nat → Nat → Nat) (zb : Nat) (zf : Nat → Int32) (zx : Int64) (hw : WF h) (hp : h.2.1 30 1 = nI zb) (hp4 : zb ≤ 4) (hS : SHz zc zb h) (hnb : zn < zb * 208) (hF : FLz zf zx h) : Con E mX0_agreesCleanly 2 0 0 [.ref 30, .int (nI zn), .ref 25] h (fun r h' => r = some (.int (acV zc zf zn)) ∧ h' = h) := by
  refine con_of2 (L := [some (.ref 30), some (.int (nI zn)), some (.ref 25), none, none, none, none, none, none, none, none, none, none]) rfl (Nat.le_of_ble_eq_true rfl) rfl ?_
  have hn : zn < 832 := by omega
  refine ev_iload_n (pc := 0) dX0_agreesCleanly_0 rfl ?_
  refine ev_iconst (pc := 1) (v := 0) dX0_agreesCleanly_1 (by decide) ?_
  refine ev_aload_n (pc := 2) dX0_agreesCleanly_2 rfl ?_
  refine ev_callVv (S := [.int 0, .int (nI zn)]) (pc := 3) dX0_agreesCleanly_3 kX0_numbers lX0_66 vX0_numbers (cn_X0_numbers E h zb hw hp hp4) rfl rfl (wlt hw (by decide)) rfl rfl (Nat.le_of_ble_eq_true rfl) ⟨Nat.le_of_ble_eq_true rfl, Nat.le_of_ble_eq_true rfl⟩ ⟨Nat.le_of_ble_eq_true rfl, Nat.le_of_ble_eq_true rfl⟩ ?_
  refine ev_iconst (pc := 6) (v := 1) dX0_agreesCleanly_6 (by decide) ?_
  refine ev_isub (pc := 7) dX0_agreesCleanly_7 ?_
  refine ev_callSv (S := []) (pc := 8) dX0_agreesCleanly_8 kX10_within lX0_29 sX10_within (cn_X10_within E h (nI zn) 0 ((nI (zb * 208)) - 1)) rfl rfl (Nat.le_of_ble_eq_true rfl) ⟨Nat.le_of_ble_eq_true rfl, Nat.le_of_ble_eq_true rfl⟩ ⟨Nat.le_of_ble_eq_true rfl, Nat.le_of_ble_eq_true rfl⟩ ?_
  refine ev_if_ne (pc := 11) (tgt := 16) dX0_agreesCleanly_11 (by decide) (fun zc11 => ?_) (fun zc11 => absurd zc11 (bI_n0.mpr ⟨nI_pos' (by omega), by rw [nI_m1 (by omega)]; exact nI_le (by omega) (by omega)⟩))
  refine ev_iconst (pc := 16) (v := 0) dX0_agreesCleanly_16 (by decide) ?_
  refine ev_istore_n (pc := 17) (L' := [some (.ref 30), some (.int (nI zn)), some (.ref 25), some (.int 0), none, none, none, none, none, none, none, none, none]) dX0_agreesCleanly_17 (Nat.le_of_ble_eq_true rfl) rfl ?_
  refine ev_iload_n (pc := 18) dX0_agreesCleanly_18 rfl ?_
  refine ev_callSv (S := []) (pc := 19) dX0_agreesCleanly_19 kX0_shapeOf lX0_69 sX0_shapeOf (cn_X0_shapeOf E h zn hn) rfl rfl (Nat.le_of_ble_eq_true rfl) ⟨Nat.le_of_ble_eq_true rfl, Nat.le_of_ble_eq_true rfl⟩ ⟨Nat.le_of_ble_eq_true rfl, Nat.le_of_ble_eq_true rfl⟩ ?_
  refine ev_istore (pc := 22) (L' := [some (.ref 30), some (.int (nI zn)), some (.ref 25), some (.int 0), some (.int (nI (shN zn))), none, none, none, none, none, none, none, none]) dX0_agreesCleanly_22 (Nat.le_of_ble_eq_true rfl) rfl ?_
  refine ev_iload_n (pc := 24) dX0_agreesCleanly_24 rfl ?_
  refine ev_callSv (S := []) (pc := 25) dX0_agreesCleanly_25 kX0_cellOf lX0_72 sX0_cellOf (cn_X0_cellOf E h zn hn) rfl rfl (Nat.le_of_ble_eq_true rfl) ⟨Nat.le_of_ble_eq_true rfl, Nat.le_of_ble_eq_true rfl⟩ ⟨Nat.le_of_ble_eq_true rfl, Nat.le_of_ble_eq_true rfl⟩ ?_
  refine ev_istore (pc := 28) (L' := [some (.ref 30), some (.int (nI zn)), some (.ref 25), some (.int 0), some (.int (nI (shN zn))), some (.int (nI (cpC zn))), none, none, none, none, none, none, none]) dX0_agreesCleanly_28 (Nat.le_of_ble_eq_true rfl) rfl ?_
  refine ev_aload_n (pc := 30) dX0_agreesCleanly_30 rfl ?_
  refine ev_callVv (S := []) (pc := 31) dX0_agreesCleanly_31 kX2_lostCells lX0_91 vX2_lostCells (cn_X2_lostCells E h hw) rfl rfl (wlt hw (by decide)) rfl rfl (Nat.le_of_ble_eq_true rfl) ⟨Nat.le_of_ble_eq_true rfl, Nat.le_of_ble_eq_true rfl⟩ ⟨Nat.le_of_ble_eq_true rfl, Nat.le_of_ble_eq_true rfl⟩ ?_
  refine ev_ldc2 (pc := 34) (v := (-1)) dX0_agreesCleanly_34 kcX0_95 ?_
  refine ev_lxor (pc := 37) dX0_agreesCleanly_37 ?_
  refine ev_lstore (pc := 38) (L' := [some (.ref 30), some (.int (nI zn)), some (.ref 25), some (.int 0), some (.int (nI (shN zn))), some (.int (nI (cpC zn))), some (.long ((h.2.2.1 25 4 ^^^ (-1)) ^^^ (-1))), none, none, none, none, none, none]) dX0_agreesCleanly_38 (Nat.le_of_ble_eq_true rfl) rfl ?_
  refine ev_iconst (pc := 40) (v := 0) dX0_agreesCleanly_40 (by decide) ?_
  refine ev_istore (pc := 41) (L' := [some (.ref 30), some (.int (nI zn)), some (.ref 25), some (.int 0), some (.int (nI (shN zn))), some (.int (nI (cpC zn))), some (.long ((h.2.2.1 25 4 ^^^ (-1)) ^^^ (-1))), none, some (.int 0), none, none, none, none]) dX0_agreesCleanly_41 (Nat.le_of_ble_eq_true rfl) rfl ?_
  refine ev_eqL (L' := [some (.ref 30), some (.int (nI zn)), some (.ref 25), some (.int (nI (ctT (tcN zc zn) (agQ zf) 0))), some (.int (nI (shN zn))), some (.int (nI (cpC zn))), some (.long ((h.2.2.1 25 4 ^^^ (-1)) ^^^ (-1))), none, some (.int (nI 0)), none, none, none, none]) (by rw [ctT_0]; rfl) ?_
  exact lp_clean_43 E h zn zc zb zf zx hw hp hp4 hS hnb hF 6 0 (Nat.zero_add _) (ctT_0 _ _)
def bsF (zg : Nat → Int32) : Nat → Int32 × Int32
  | 0 => (-1, 0)
  | zn + 1 => if (bsF zg zn).2 < zg zn then (nI zn, zg zn) else bsF zg zn
def ccF (zg : Nat → Int32) (zl : Int32) : Nat → Nat
  | 0 => 0
  | zn + 1 => ccF zg zl zn + (if zl ≤ zg zn then 1 else 0)
theorem lp_bestOn_7 (E : ME) (h : AH) (zc : Nat → Nat → Nat) (zb : Nat) (zf : Nat → Int32) (zx : Int64) (hw : WF h) (hp : h.2.1 30 1 = nI zb) (hp4 : zb ≤ 4) (hS : SHz zc zb h) (hF : FLz zf zx h) {post : PO} (K : Ev E mX0_bestOn (rmm 3 0 0) (QM E 0 0 post) 0 0 43 [some (.ref 30), some (.ref 25), some (.int ((bsF (acV zc zf) (zb * 208)).1)), some (.int ((bsF (acV zc zf) (zb * 208)).2)), some (.int (nI (zb * 208))), none] [] h) : ∀ n i : Nat, i + n = (zb * 208) → Ev E mX0_bestOn (rmm 3 0 0) (QM E 0 0 post) 0 0 7 [some (.ref 30), some (.ref 25), some (.int ((bsF (acV zc zf) i).1)), some (.int ((bsF (acV zc zf) i).2)), some (.int (nI i)), none] [] h := by
  intro n
  induction n with
  | zero =>
    intro i hi
    obtain rfl : zb * 208 = i := by omega
    refine ev_iload (pc := 7) dX0_bestOn_7 rfl ?_
    refine ev_aload_n (pc := 9) dX0_bestOn_9 rfl ?_
    refine ev_callVv (S := [.int (nI (zb * 208))]) (pc := 10) dX0_bestOn_10 kX0_numbers lX0_66 vX0_numbers (cn_X0_numbers E h zb hw hp hp4) rfl rfl (wlt hw (by decide)) rfl rfl (Nat.le_of_ble_eq_true rfl) ⟨Nat.le_of_ble_eq_true rfl, Nat.le_of_ble_eq_true rfl⟩ ⟨Nat.le_of_ble_eq_true rfl, Nat.le_of_ble_eq_true rfl⟩ ?_
    refine ev_icmp_ge (pc := 13) (tgt := 43) dX0_bestOn_13 (by decide) (fun zc13 => ?_) (fun zc13 => absurd (nI_le (Nat.le_refl _) (by omega)) zc13)
    exact K
  | succ n ih =>
    intro i hi
    have hlt : i < (zb * 208) := by omega
    refine ev_iload (pc := 7) dX0_bestOn_7 rfl ?_
    refine ev_aload_n (pc := 9) dX0_bestOn_9 rfl ?_
    refine ev_callVv (S := [.int (nI i)]) (pc := 10) dX0_bestOn_10 kX0_numbers lX0_66 vX0_numbers (cn_X0_numbers E h zb hw hp hp4) rfl rfl (wlt hw (by decide)) rfl rfl (Nat.le_of_ble_eq_true rfl) ⟨Nat.le_of_ble_eq_true rfl, Nat.le_of_ble_eq_true rfl⟩ ⟨Nat.le_of_ble_eq_true rfl, Nat.le_of_ble_eq_true rfl⟩ ?_
    refine ev_icmp_ge (pc := 13) (tgt := 43) dX0_bestOn_13 (by decide) (fun zc13 => absurd zc13 (nI_ge hlt (by omega))) (fun zc13 => ?_)
    refine ev_aload_n (pc := 16) dX0_bestOn_16 rfl ?_
    refine ev_iload (pc := 17) dX0_bestOn_17 rfl ?_
    refine ev_aload_n (pc := 19) dX0_bestOn_19 rfl ?_
    refine ev_callVv (S := []) (pc := 20) dX0_bestOn_20 kX0_agreesCleanly lX0_105 vX0_agreesCleanly (cn_X0_agreesCleanly E h i zc zb zf zx hw hp hp4 hS (by omega) hF) rfl rfl (wlt hw (by decide)) rfl rfl (Nat.le_of_ble_eq_true rfl) ⟨Nat.le_of_ble_eq_true rfl, Nat.le_of_ble_eq_true rfl⟩ ⟨Nat.le_of_ble_eq_true rfl, Nat.le_of_ble_eq_true rfl⟩ ?_
    refine ev_istore (pc := 23) (L' := [some (.ref 30), some (.ref 25), some (.int ((bsF (acV zc zf) i).1)), some (.int ((bsF (acV zc zf) i).2)), some (.int (nI i)), some (.int (acV zc zf i))]) dX0_bestOn_23 (Nat.le_of_ble_eq_true rfl) rfl ?_
    refine ev_iload (pc := 25) dX0_bestOn_25 rfl ?_
    refine ev_iload_n (pc := 27) dX0_bestOn_27 rfl ?_
    refine ev_icmp_le (pc := 28) (tgt := 37) dX0_bestOn_28 (by decide) (fun zc28 => ?_) (fun zc28 => ?_)
    · -- le at 28: taken
      refine ev_iinc (pc := 37) (v := nI (i + 1)) (L' := [some (.ref 30), some (.ref 25), some (.int ((bsF (acV zc zf) i).1)), some (.int ((bsF (acV zc zf) i).2)), some (.int (nI (i + 1))), some (.int (acV zc zf i))]) dX0_bestOn_37 rfl (nI_1 _) (Nat.le_of_ble_eq_true rfl) rfl ?_
      refine ev_goto (pc := 40) (tgt := 7) dX0_bestOn_40 (by decide) ?_
      refine ev_less (L' := [some (.ref 30), some (.ref 25), some (.int ((bsF (acV zc zf) i).1)), some (.int ((bsF (acV zc zf) i).2)), some (.int (nI (i + 1))), none]) (ls_keep (ls_keep (ls_keep (ls_keep (ls_keep (ls_drop (ls_nil _))))))) ?_
      refine ev_eqL (L' := [some (.ref 30), some (.ref 25), some (.int ((bsF (acV zc zf) (i + 1)).1)), some (.int ((bsF (acV zc zf) (i + 1)).2)), some (.int (nI (i + 1))), none]) (by simp only [bsF]; first | rw [if_neg ((i_lt2 _ _).mpr zc28)] | rw [if_pos ((i_le2 _ _).mp zc28)]) ?_
      exact ih (i + 1) (by omega)
    · -- le at 28: not taken
      refine ev_iload (pc := 31) dX0_bestOn_31 rfl ?_
      refine ev_istore_n (pc := 33) (L' := [some (.ref 30), some (.ref 25), some (.int (nI i)), some (.int ((bsF (acV zc zf) i).2)), some (.int (nI i)), some (.int (acV zc zf i))]) dX0_bestOn_33 (Nat.le_of_ble_eq_true rfl) rfl ?_
      refine ev_iload (pc := 34) dX0_bestOn_34 rfl ?_
      refine ev_istore_n (pc := 36) (L' := [some (.ref 30), some (.ref 25), some (.int (nI i)), some (.int (acV zc zf i)), some (.int (nI i)), some (.int (acV zc zf i))]) dX0_bestOn_36 (Nat.le_of_ble_eq_true rfl) rfl ?_
      refine ev_iinc (pc := 37) (v := nI (i + 1)) (L' := [some (.ref 30), some (.ref 25), some (.int (nI i)), some (.int (acV zc zf i)), some (.int (nI (i + 1))), some (.int (acV zc zf i))]) dX0_bestOn_37 rfl (nI_1 _) (Nat.le_of_ble_eq_true rfl) rfl ?_
      refine ev_goto (pc := 40) (tgt := 7) dX0_bestOn_40 (by decide) ?_
      refine ev_less (L' := [some (.ref 30), some (.ref 25), some (.int (nI i)), some (.int (acV zc zf i)), some (.int (nI (i + 1))), none]) (ls_keep (ls_keep (ls_keep (ls_keep (ls_keep (ls_drop (ls_nil _))))))) ?_
      refine ev_eqL (L' := [some (.ref 30), some (.ref 25), some (.int ((bsF (acV zc zf) (i + 1)).1)), some (.int ((bsF (acV zc zf) (i + 1)).2)), some (.int (nI (i + 1))), none]) (by simp only [bsF]; first | rw [if_neg ((i_lt2 _ _).mpr zc28)] | rw [if_pos ((i_le2 _ _).mp zc28)]) ?_
      exact ih (i + 1) (by omega)
theorem cn_X0_bestOn (E : ME) (h : AH) (zc : Nat → Nat → Nat) (zb : Nat) (zf : Nat → Int32) (zx : Int64) (hw : WF h) (hp : h.2.1 30 1 = nI zb) (hp4 : zb ≤ 4) (hS : SHz zc zb h) (hF : FLz zf zx h) : Con E mX0_bestOn 3 0 0 [.ref 30, .ref 25] h (fun r h' => r = some (.int ((bsF (acV zc zf) (zb * 208)).1)) ∧ h' = h) := by
  refine con_of2 (L := [some (.ref 30), some (.ref 25), none, none, none, none]) rfl (Nat.le_of_ble_eq_true rfl) rfl ?_
  refine ev_iconst (pc := 0) (v := (-1)) dX0_bestOn_0 (by decide) ?_
  refine ev_istore_n (pc := 1) (L' := [some (.ref 30), some (.ref 25), some (.int ((-1))), none, none, none]) dX0_bestOn_1 (Nat.le_of_ble_eq_true rfl) rfl ?_
  refine ev_iconst (pc := 2) (v := 0) dX0_bestOn_2 (by decide) ?_
  refine ev_istore_n (pc := 3) (L' := [some (.ref 30), some (.ref 25), some (.int ((-1))), some (.int 0), none, none]) dX0_bestOn_3 (Nat.le_of_ble_eq_true rfl) rfl ?_
  refine ev_iconst (pc := 4) (v := 0) dX0_bestOn_4 (by decide) ?_
  refine ev_istore (pc := 5) (L' := [some (.ref 30), some (.ref 25), some (.int ((-1))), some (.int 0), some (.int 0), none]) dX0_bestOn_5 (Nat.le_of_ble_eq_true rfl) rfl ?_
  refine lp_bestOn_7 E h zc zb zf zx hw hp hp4 hS hF ?_ (zb * 208) 0 (Nat.zero_add _)
  refine ev_iload_n (pc := 43) dX0_bestOn_43 rfl ?_
  refine ev_iret (pc := 44) dX0_bestOn_44 rfl ?_ ?_
  · rfl
  · exact ⟨rfl, rfl⟩
theorem lp_countCopies_10 (E : ME) (h : AH) (zp : Nat) (zl : Int32) (zc : Nat → Nat → Nat) (zb : Nat) (zf : Nat → Int32) (zx : Int64) (hw : WF h) (hp : h.2.1 30 1 = nI zb) (hp4 : zb ≤ 4) (hS : SHz zc zb h) (hF : FLz zf zx h) (hzp : zp < zb) {post : PO} (K : Ev E mX0_countCopies (rmm 3 0 0) (QM E 0 0 post) 0 0 42 [some (.ref 30), some (.int (nI zp)), some (.int zl), some (.ref 25), some (.int (nI (ccF (fun zq => acV zc zf (zp * 208 + zq)) zl 208))), some (.int (nI (zp * 208 + 208)))] [] h) : ∀ n i : Nat, i + n = 208 → Ev E mX0_countCopies (rmm 3 0 0) (QM E 0 0 post) 0 0 10 [some (.ref 30), some (.int (nI zp)), some (.int zl), some (.ref 25), some (.int (nI (ccF (fun zq => acV zc zf (zp * 208 + zq)) zl i))), some (.int (nI (zp * 208 + i)))] [] h := by
  intro n
  induction n with
  | zero =>
    intro i hi
    obtain rfl : 208 = i := by omega
    refine ev_iload (pc := 10) dX0_countCopies_10 rfl ?_
    refine ev_iload_n (pc := 12) dX0_countCopies_12 rfl ?_
    refine ev_iconst (pc := 13) (v := 1) dX0_countCopies_13 (by decide) ?_
    refine ev_iadd (pc := 14) dX0_countCopies_14 ?_
    refine ev_eqI (e' := nI (zp + 1)) (nI_add zp 1) ?_
    refine ev_sipush (pc := 15) (v := 208) dX0_countCopies_15 (by decide) ?_
    refine ev_imul (pc := 18) dX0_countCopies_18 ?_
    refine ev_eqI (e' := nI ((zp + 1) * 208)) (pk_mul (zp + 1) 208) ?_
    refine ev_icmp_ge (pc := 19) (tgt := 42) dX0_countCopies_19 (by decide) (fun zc19 => ?_) (fun zc19 => absurd (nI_le (by omega) (by omega)) zc19)
    exact K
  | succ n ih =>
    intro i hi
    have hlt : i < 208 := by omega
    refine ev_iload (pc := 10) dX0_countCopies_10 rfl ?_
    refine ev_iload_n (pc := 12) dX0_countCopies_12 rfl ?_
    refine ev_iconst (pc := 13) (v := 1) dX0_countCopies_13 (by decide) ?_
    refine ev_iadd (pc := 14) dX0_countCopies_14 ?_
    refine ev_eqI (e' := nI (zp + 1)) (nI_add zp 1) ?_
    refine ev_sipush (pc := 15) (v := 208) dX0_countCopies_15 (by decide) ?_
    refine ev_imul (pc := 18) dX0_countCopies_18 ?_
    refine ev_eqI (e' := nI ((zp + 1) * 208)) (pk_mul (zp + 1) 208) ?_
    refine ev_icmp_ge (pc := 19) (tgt := 42) dX0_countCopies_19 (by decide) (fun zc19 => absurd zc19 (nI_ge (a := zp * 208 + i) (b := (zp + 1) * 208) (by omega) (by omega))) (fun zc19 => ?_)
    refine ev_aload_n (pc := 22) dX0_countCopies_22 rfl ?_
    refine ev_iload (pc := 23) dX0_countCopies_23 rfl ?_
    refine ev_aload_n (pc := 25) dX0_countCopies_25 rfl ?_
    refine ev_callVv (S := []) (pc := 26) dX0_countCopies_26 kX0_agreesCleanly lX0_105 vX0_agreesCleanly (cn_X0_agreesCleanly E h (zp * 208 + i) zc zb zf zx hw hp hp4 hS (by omega) hF) rfl rfl (wlt hw (by decide)) rfl rfl (Nat.le_of_ble_eq_true rfl) ⟨Nat.le_of_ble_eq_true rfl, Nat.le_of_ble_eq_true rfl⟩ ⟨Nat.le_of_ble_eq_true rfl, Nat.le_of_ble_eq_true rfl⟩ ?_
    refine ev_iload_n (pc := 29) dX0_countCopies_29 rfl ?_
    refine ev_icmp_lt (pc := 30) (tgt := 36) dX0_countCopies_30 (by decide) (fun zc30 => ?_) (fun zc30 => ?_)
    · -- lt at 30: taken
      refine ev_iinc (pc := 36) (v := nI (zp * 208 + i + 1)) (L' := [some (.ref 30), some (.int (nI zp)), some (.int zl), some (.ref 25), some (.int (nI (ccF (fun zq => acV zc zf (zp * 208 + zq)) zl i))), some (.int (nI (zp * 208 + i + 1)))]) dX0_countCopies_36 rfl (nI_1 _) (Nat.le_of_ble_eq_true rfl) rfl ?_
      refine ev_goto (pc := 39) (tgt := 10) dX0_countCopies_39 (by decide) ?_
      refine ev_eqL (L' := [some (.ref 30), some (.int (nI zp)), some (.int zl), some (.ref 25), some (.int (nI (ccF (fun zq => acV zc zf (zp * 208 + zq)) zl (i + 1)))), some (.int (nI (zp * 208 + (i + 1))))]) (by rw [ccF]; first | (rw [if_neg ((i_le2 _ _).mpr zc30)]; rfl) | (rw [if_pos ((i_lt2 _ _).mp zc30)]; rfl)) ?_
      exact ih (i + 1) (by omega)
    · -- lt at 30: not taken
      refine ev_iinc (pc := 33) (v := nI (ccF (fun zq => acV zc zf (zp * 208 + zq)) zl i + 1)) (L' := [some (.ref 30), some (.int (nI zp)), some (.int zl), some (.ref 25), some (.int (nI (ccF (fun zq => acV zc zf (zp * 208 + zq)) zl i + 1))), some (.int (nI (zp * 208 + i)))]) dX0_countCopies_33 rfl (nI_1 _) (Nat.le_of_ble_eq_true rfl) rfl ?_
      refine ev_iinc (pc := 36) (v := nI (zp * 208 + i + 1)) (L' := [some (.ref 30), some (.int (nI zp)), some (.int zl), some (.ref 25), some (.int (nI (ccF (fun zq => acV zc zf (zp * 208 + zq)) zl i + 1))), some (.int (nI (zp * 208 + i + 1)))]) dX0_countCopies_36 rfl (nI_1 _) (Nat.le_of_ble_eq_true rfl) rfl ?_
      refine ev_goto (pc := 39) (tgt := 10) dX0_countCopies_39 (by decide) ?_
      refine ev_eqL (L' := [some (.ref 30), some (.int (nI zp)), some (.int zl), some (.ref 25), some (.int (nI (ccF (fun zq => acV zc zf (zp * 208 + zq)) zl (i + 1)))), some (.int (nI (zp * 208 + (i + 1))))]) (by rw [ccF]; first | (rw [if_neg ((i_le2 _ _).mpr zc30)]; rfl) | (rw [if_pos ((i_lt2 _ _).mp zc30)]; rfl)) ?_
      exact ih (i + 1) (by omega)
theorem cn_X0_countCopies (E : ME) (h : AH) (zp : Nat) (zl : Int32) (zc : Nat → Nat → Nat) (zb : Nat) (zf : Nat → Int32) (zx : Int64) (hw : WF h) (hp : h.2.1 30 1 = nI zb) (hp4 : zb ≤ 4) (hS : SHz zc zb h) (hF : FLz zf zx h) (hzp : zp < zb) : Con E mX0_countCopies 3 0 0 [.ref 30, .int (nI zp), .int zl, .ref 25] h (fun r h' => r = some (.int (nI (ccF (fun zq => acV zc zf (zp * 208 + zq)) zl 208))) ∧ h' = h) := by
  refine con_of2 (L := [some (.ref 30), some (.int (nI zp)), some (.int zl), some (.ref 25), none, none]) rfl (Nat.le_of_ble_eq_true rfl) rfl ?_
  refine ev_iconst (pc := 0) (v := 0) dX0_countCopies_0 (by decide) ?_
  refine ev_istore (pc := 1) (L' := [some (.ref 30), some (.int (nI zp)), some (.int zl), some (.ref 25), some (.int 0), none]) dX0_countCopies_1 (Nat.le_of_ble_eq_true rfl) rfl ?_
  refine ev_iload_n (pc := 3) dX0_countCopies_3 rfl ?_
  refine ev_sipush (pc := 4) (v := 208) dX0_countCopies_4 (by decide) ?_
  refine ev_imul (pc := 7) dX0_countCopies_7 ?_
  refine ev_eqI (e' := nI (zp * 208)) (pk_mul zp 208) ?_
  refine ev_istore (pc := 8) (L' := [some (.ref 30), some (.int (nI zp)), some (.int zl), some (.ref 25), some (.int 0), some (.int (nI (zp * 208)))]) dX0_countCopies_8 (Nat.le_of_ble_eq_true rfl) rfl ?_
  refine lp_countCopies_10 E h zp zl zc zb zf zx hw hp hp4 hS hF hzp ?_ 208 0 (Nat.zero_add _)
  refine ev_iload (pc := 42) dX0_countCopies_42 rfl ?_
  refine ev_iret (pc := 44) dX0_countCopies_44 rfl ?_ ?_
  · rfl
  · exact ⟨rfl, rfl⟩
