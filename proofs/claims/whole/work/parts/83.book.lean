def adL (zf : Nat → Int64) (zi zc : Nat) (zx : Int64) : Nat → Int64 := if zc < 6 then vp_updL zf (zi + zc) (zf (zi + zc) ||| zx) else zf
theorem cn_X0_addCellsC (E : ME) (h : AH) (zn zc zb : Nat) (zx : Int64) (hw : WF h) (hp : h.2.1 30 1 = nI zb) (hp4 : zb ≤ 4) (hnb : zn < zb * 208) (hc : zc ≤ 6) : Con E mX0_addCells 2 0 0 [.ref 30, .int (nI zn), .int (clC zc), .long zx] h (fun r h' => r = none ∧ h' = sL h 31 (adL (h.2.2.1 31) (shN zn) zc zx)) := by
  by_cases e : zc < 6
  · rw [show clC zc = nI zc from if_neg (by omega)]
    unfold adL
    rw [if_pos e]
    exact cn_X0_addCellsK E h zn zc zb zx hw hp hp4 hnb e
  · have e6 : zc = 6 := by omega
    subst e6
    unfold adL
    rw [show clC 6 = -1 from rfl, if_neg e, sL_id]
    exact cn_X0_addCellsN E h zn zb zx hw hp hp4 hnb
theorem cn_X0_cn1 (E : ME) (h : AH) (zp zw zb : Nat) (hw : WF h) (hp : h.2.1 30 1 = nI zb) (hp4 : zb ≤ 4) (hzp : zp < zb) (hzw : zw < 8) : Con E mX0_copyNumber 1 0 0 [.ref 30, .int (nI zp), .int (nI zw), .int 1, .int 0] h (fun r h' => r = some (.int (nI (zp * 208 + zw * 25))) ∧ h' = h) := by
  have k := cn_X0_copyNumber E h (nI zp) (nI zw) 1 0 zb hw hp hp4
  rw [if_pos (show cpy (nI zb) (nI zp) (nI zw) 1 0 from ⟨⟨nI_pos' (by omega), by rw [nI_m1 (by omega)]; exact nI_le (by omega) (by omega)⟩, ⟨nI_pos' (by omega), nI_le (b := 7) (by omega) (by decide)⟩, by decide, by decide, by decide, by decide⟩), nI_clamp (by omega), nI_clamp (by omega)] at k
  exact k
theorem cn_X0_cn2 (E : ME) (h : AH) (zp zw zb : Nat) (hw : WF h) (hp : h.2.1 30 1 = nI zb) (hp4 : zb ≤ 4) (hzp : zp < zb) (hzw : zw < 8) : Con E mX0_copyNumber 1 0 0 [.ref 30, .int (nI zp), .int (nI zw), .int 2, .int 0] h (fun r h' => r = some (.int (nI (zp * 208 + (200 + zw)))) ∧ h' = h) := by
  have k := cn_X0_copyNumber E h (nI zp) (nI zw) 2 0 zb hw hp hp4
  rw [if_pos (show cpy (nI zb) (nI zp) (nI zw) 2 0 from ⟨⟨nI_pos' (by omega), by rw [nI_m1 (by omega)]; exact nI_le (by omega) (by omega)⟩, ⟨nI_pos' (by omega), nI_le (b := 7) (by omega) (by decide)⟩, by decide, by decide, by decide, by decide⟩), nI_clamp (by omega), nI_clamp (by omega)] at k
  exact k
/-- the shapes: cell by cell, way by way, pattern by pattern -/
def blC (zc : Nat → Nat) (zp zw : Nat) (zf : Nat → Int64) : Nat → Nat → Int64
  | 0 => zf
  | zi + 1 => adL (adL (blC zc zp zw zf zi) (shN (zp * 208 + zw * 25)) (zc (16 * zp + srN 4 zw zi)) (1 <<< (Int32.toInt64 (nI (zi / 4 * 8 + zi % 4)) &&& 63))) (shN (zp * 208 + (200 + zw))) (zc (16 * zp + srN 4 zw zi)) (771 <<< (Int32.toInt64 (nI (2 * (zi / 4 * 8 + zi % 4))) &&& 63))
def blW (zc : Nat → Nat) (zp : Nat) (zf : Nat → Int64) : Nat → Nat → Int64
  | 0 => zf
  | zw + 1 => blC zc zp zw (blW zc zp zf zw) 16
def blP (zc : Nat → Nat) (zf : Nat → Int64) : Nat → Nat → Int64
  | 0 => zf
  | zp + 1 => blW zc zp (blP zc zf zp) 8
theorem lp_bk_37_3 (E : ME) (h : AH) (zt : PSt) (zb zp zw : Nat) (zf : Nat → Int64) (hw : WF h) (hp : h.2.1 30 1 = nI zb) (hp4 : zb ≤ 4) (hY : STz zt 3 h) (hO : POK zt) (hzb : zb = zt.1 2) (hc6 : ∀ zk, zk < 16 * zt.1 2 → zt.2 6 zk ≤ 6) (hzp : zp < zb) (hzw : zw < 8) {post : PO} (K : Ev E mX0_learn (rmm 3 0 0) (QM E 0 0 post) 0 0 128 [some (.ref 30), some (.ref 3), some (.int (nI zp)), some (.int (nI zw)), some (.int (nI 16)), none, none, none] [] (sL h 31 (blC (zt.2 6) zp zw zf 16))) : ∀ n i : Nat, i + n = 16 → Ev E mX0_learn (rmm 3 0 0) (QM E 0 0 post) 0 0 37 [some (.ref 30), some (.ref 3), some (.int (nI zp)), some (.int (nI zw)), some (.int (nI i)), none, none, none] [] (sL h 31 (blC (zt.2 6) zp zw zf i)) := by
  intro n
  induction n with
  | zero =>
    intro i hi
    obtain rfl : 16 = i := by omega
    refine ev_iload (pc := 37) dX0_learn_37 rfl ?_
    refine ev_bipush (pc := 39) (v := 16) dX0_learn_39 (by decide) ?_
    refine ev_icmp_ge (pc := 41) (tgt := 128) dX0_learn_41 (by decide) (fun zc41 => ?_) (fun zc41 => absurd (by decide) zc41)
    exact K
  | succ n ih =>
    intro i hi
    have hlt : i < 16 := by omega
    have zsr := (sr4 zw hzw i hlt).2
    have zix : 16 * zp + srN 4 zw i < 16 * zt.1 2 := by omega
    refine ev_iload (pc := 37) dX0_learn_37 rfl ?_
    refine ev_bipush (pc := 39) (v := 16) dX0_learn_39 (by decide) ?_
    refine ev_icmp_ge (pc := 41) (tgt := 128) dX0_learn_41 (by decide) (fun zc41 => absurd zc41 (nI_ge (b := 16) hlt (by decide))) (fun zc41 => ?_)
    refine ev_aload_n (pc := 44) dX0_learn_44 rfl ?_
    refine ev_iload_n (pc := 45) dX0_learn_45 rfl ?_
    refine ev_iload_n (pc := 46) dX0_learn_46 rfl ?_
    refine ev_iload (pc := 47) dX0_learn_47 rfl ?_
    refine ev_iconst (pc := 49) (v := 4) dX0_learn_49 (by decide) ?_
    refine ev_callSv (S := [.int (nI zp), .ref 3]) (pc := 50) dX0_learn_50 kX10_source lX0_48 sX10_source (cn_X10_src4 E (sL h 31 (blC (zt.2 6) zp zw zf i)) zw i (wf_sL hw) hlt hzw) rfl rfl (Nat.le_of_ble_eq_true rfl) ⟨Nat.le_of_ble_eq_true rfl, Nat.le_of_ble_eq_true rfl⟩ ⟨Nat.le_of_ble_eq_true rfl, Nat.le_of_ble_eq_true rfl⟩ ?_
    refine ev_callVv (S := []) (pc := 53) dX0_learn_53 kX8_patternColour lX0_52 vX8_patternColour (cn_X8_patternColour_3 E (sL h 31 (blC (zt.2 6) zp zw zf i)) zt zp (srN 4 zw i) (wf_sL hw) hY hO (by omega) zsr) rfl rfl (wlt (wf_sL hw) (by decide)) rfl rfl (Nat.le_of_ble_eq_true rfl) ⟨Nat.le_of_ble_eq_true rfl, Nat.le_of_ble_eq_true rfl⟩ ⟨Nat.le_of_ble_eq_true rfl, Nat.le_of_ble_eq_true rfl⟩ ?_
    refine ev_istore (pc := 56) (L' := [some (.ref 30), some (.ref 3), some (.int (nI zp)), some (.int (nI zw)), some (.int (nI i)), some (.int (clC (zt.2 6 (16 * zp + srN 4 zw i)))), none, none]) dX0_learn_56 (Nat.le_of_ble_eq_true rfl) rfl ?_
    refine ev_iload (pc := 58) dX0_learn_58 rfl ?_
    refine ev_iconst (pc := 60) (v := 4) dX0_learn_60 (by decide) ?_
    refine ev_idiv (pc := 61) dX0_learn_61 (by decide) ?_
    refine ev_eqI (e' := nI (i / 4)) (pk_div (a := i) (d := 4) (by omega) (by omega) (by omega)) ?_
    refine ev_istore (pc := 62) (L' := [some (.ref 30), some (.ref 3), some (.int (nI zp)), some (.int (nI zw)), some (.int (nI i)), some (.int (clC (zt.2 6 (16 * zp + srN 4 zw i)))), some (.int (nI (i / 4))), none]) dX0_learn_62 (Nat.le_of_ble_eq_true rfl) rfl ?_
    refine ev_iload (pc := 64) dX0_learn_64 rfl ?_
    refine ev_iconst (pc := 66) (v := 4) dX0_learn_66 (by decide) ?_
    refine ev_irem (pc := 67) dX0_learn_67 (by decide) ?_
    refine ev_eqI (e' := nI (i % 4)) (pk_rem (a := i) (d := 4) (by omega) (by omega) (by omega)) ?_
    refine ev_istore (pc := 68) (L' := [some (.ref 30), some (.ref 3), some (.int (nI zp)), some (.int (nI zw)), some (.int (nI i)), some (.int (clC (zt.2 6 (16 * zp + srN 4 zw i)))), some (.int (nI (i / 4))), some (.int (nI (i % 4)))]) dX0_learn_68 (Nat.le_of_ble_eq_true rfl) rfl ?_
    refine ev_aload_n (pc := 70) dX0_learn_70 rfl ?_
    refine ev_aload_n (pc := 71) dX0_learn_71 rfl ?_
    refine ev_iload_n (pc := 72) dX0_learn_72 rfl ?_
    refine ev_iload_n (pc := 73) dX0_learn_73 rfl ?_
    refine ev_iconst (pc := 74) (v := 1) dX0_learn_74 (by decide) ?_
    refine ev_iconst (pc := 75) (v := 0) dX0_learn_75 (by decide) ?_
    refine ev_callVv (S := [.ref 30]) (pc := 76) dX0_learn_76 kX0_copyNumber lX0_56 vX0_copyNumber (cn_X0_cn1 E (sL h 31 (blC (zt.2 6) zp zw zf i)) zp zw zb (wf_sL hw) hp hp4 hzp hzw) rfl rfl (wlt (wf_sL hw) (by decide)) rfl rfl (Nat.le_of_ble_eq_true rfl) ⟨Nat.le_of_ble_eq_true rfl, Nat.le_of_ble_eq_true rfl⟩ ⟨Nat.le_of_ble_eq_true rfl, Nat.le_of_ble_eq_true rfl⟩ ?_
    refine ev_iload (pc := 79) dX0_learn_79 rfl ?_
    refine ev_lconst (pc := 81) (v := 1) dX0_learn_81 (by decide) ?_
    refine ev_iload (pc := 82) dX0_learn_82 rfl ?_
    refine ev_bipush (pc := 84) (v := 8) dX0_learn_84 (by decide) ?_
    refine ev_imul (pc := 86) dX0_learn_86 ?_
    refine ev_eqI (e' := nI ((i / 4) * 8)) (pk_mul (i / 4) 8) ?_
    refine ev_iload (pc := 87) dX0_learn_87 rfl ?_
    refine ev_iadd (pc := 89) dX0_learn_89 ?_
    refine ev_eqI (e' := nI (((i / 4) * 8) + (i % 4))) (nI_add ((i / 4) * 8) (i % 4)) ?_
    refine ev_lshl (pc := 90) dX0_learn_90 ?_
    refine ev_callV0 (S := []) (pc := 91) dX0_learn_91 kX0_addCells lX0_60 vX0_addCells (cn_X0_addCellsC E (sL h 31 (blC (zt.2 6) zp zw zf i)) (zp * 208 + zw * 25) (zt.2 6 (16 * zp + srN 4 zw i)) zb (1 <<< (Int32.toInt64 (nI (i / 4 * 8 + i % 4)) &&& 63)) (wf_sL hw) hp hp4 (by omega) (hc6 _ zix)) rfl rfl (wlt (wf_sL hw) (by decide)) rfl rfl (Nat.le_of_ble_eq_true rfl) ⟨Nat.le_of_ble_eq_true rfl, Nat.le_of_ble_eq_true rfl⟩ ⟨Nat.le_of_ble_eq_true rfl, Nat.le_of_ble_eq_true rfl⟩ ?_
    refine ev_eqH (h' := sL h 31 (adL (blC (zt.2 6) zp zw zf i) (shN (zp * 208 + zw * 25)) (zt.2 6 (16 * zp + srN 4 zw i)) (1 <<< (Int32.toInt64 (nI (i / 4 * 8 + i % 4)) &&& 63)))) (sL_sL _ _ _ _) ?_
    refine ev_aload_n (pc := 94) dX0_learn_94 rfl ?_
    refine ev_aload_n (pc := 95) dX0_learn_95 rfl ?_
    refine ev_iload_n (pc := 96) dX0_learn_96 rfl ?_
    refine ev_iload_n (pc := 97) dX0_learn_97 rfl ?_
    refine ev_iconst (pc := 98) (v := 2) dX0_learn_98 (by decide) ?_
    refine ev_iconst (pc := 99) (v := 0) dX0_learn_99 (by decide) ?_
    refine ev_callVv (S := [.ref 30]) (pc := 100) dX0_learn_100 kX0_copyNumber lX0_56 vX0_copyNumber (cn_X0_cn2 E (sL h 31 (adL (blC (zt.2 6) zp zw zf i) (shN (zp * 208 + zw * 25)) (zt.2 6 (16 * zp + srN 4 zw i)) (1 <<< (Int32.toInt64 (nI (i / 4 * 8 + i % 4)) &&& 63)))) zp zw zb (wf_sL hw) hp hp4 hzp hzw) rfl rfl (wlt (wf_sL hw) (by decide)) rfl rfl (Nat.le_of_ble_eq_true rfl) ⟨Nat.le_of_ble_eq_true rfl, Nat.le_of_ble_eq_true rfl⟩ ⟨Nat.le_of_ble_eq_true rfl, Nat.le_of_ble_eq_true rfl⟩ ?_
    refine ev_iload (pc := 103) dX0_learn_103 rfl ?_
    refine ev_ldc2 (pc := 105) (v := 771) dX0_learn_105 kcX0_64 ?_
    refine ev_iconst (pc := 108) (v := 2) dX0_learn_108 (by decide) ?_
    refine ev_iload (pc := 109) dX0_learn_109 rfl ?_
    refine ev_bipush (pc := 111) (v := 8) dX0_learn_111 (by decide) ?_
    refine ev_imul (pc := 113) dX0_learn_113 ?_
    refine ev_eqI (e' := nI ((i / 4) * 8)) (pk_mul (i / 4) 8) ?_
    refine ev_iload (pc := 114) dX0_learn_114 rfl ?_
    refine ev_iadd (pc := 116) dX0_learn_116 ?_
    refine ev_eqI (e' := nI (((i / 4) * 8) + (i % 4))) (nI_add ((i / 4) * 8) (i % 4)) ?_
    refine ev_imul (pc := 117) dX0_learn_117 ?_
    refine ev_eqI (e' := nI (2 * (((i / 4) * 8) + (i % 4)))) (pk_mul 2 (((i / 4) * 8) + (i % 4))) ?_
    refine ev_lshl (pc := 118) dX0_learn_118 ?_
    refine ev_callV0 (S := []) (pc := 119) dX0_learn_119 kX0_addCells lX0_60 vX0_addCells (cn_X0_addCellsC E (sL h 31 (adL (blC (zt.2 6) zp zw zf i) (shN (zp * 208 + zw * 25)) (zt.2 6 (16 * zp + srN 4 zw i)) (1 <<< (Int32.toInt64 (nI (i / 4 * 8 + i % 4)) &&& 63)))) (zp * 208 + (200 + zw)) (zt.2 6 (16 * zp + srN 4 zw i)) zb (771 <<< (Int32.toInt64 (nI (2 * (i / 4 * 8 + i % 4))) &&& 63)) (wf_sL hw) hp hp4 (by omega) (hc6 _ zix)) rfl rfl (wlt (wf_sL hw) (by decide)) rfl rfl (Nat.le_of_ble_eq_true rfl) ⟨Nat.le_of_ble_eq_true rfl, Nat.le_of_ble_eq_true rfl⟩ ⟨Nat.le_of_ble_eq_true rfl, Nat.le_of_ble_eq_true rfl⟩ ?_
    refine ev_eqH (h' := sL h 31 (adL (adL (blC (zt.2 6) zp zw zf i) (shN (zp * 208 + zw * 25)) (zt.2 6 (16 * zp + srN 4 zw i)) (1 <<< (Int32.toInt64 (nI (i / 4 * 8 + i % 4)) &&& 63))) (shN (zp * 208 + (200 + zw))) (zt.2 6 (16 * zp + srN 4 zw i)) (771 <<< (Int32.toInt64 (nI (2 * (i / 4 * 8 + i % 4))) &&& 63)))) (sL_sL _ _ _ _) ?_
    refine ev_iinc (pc := 122) (v := nI (i + 1)) (L' := [some (.ref 30), some (.ref 3), some (.int (nI zp)), some (.int (nI zw)), some (.int (nI (i + 1))), some (.int (clC (zt.2 6 (16 * zp + srN 4 zw i)))), some (.int (nI (i / 4))), some (.int (nI (i % 4)))]) dX0_learn_122 rfl (nI_1 _) (Nat.le_of_ble_eq_true rfl) rfl ?_
    refine ev_goto (pc := 125) (tgt := 37) dX0_learn_125 (by decide) ?_
    refine ev_less (L' := [some (.ref 30), some (.ref 3), some (.int (nI zp)), some (.int (nI zw)), some (.int (nI (i + 1))), none, none, none]) (ls_keep (ls_keep (ls_keep (ls_keep (ls_keep (ls_drop (ls_drop (ls_drop (ls_nil _))))))))) ?_
    exact ih (i + 1) (by omega)
theorem lp_bk_28_3 (E : ME) (h : AH) (zt : PSt) (zb zp : Nat) (zf : Nat → Int64) (hw : WF h) (hp : h.2.1 30 1 = nI zb) (hp4 : zb ≤ 4) (hY : STz zt 3 h) (hO : POK zt) (hzb : zb = zt.1 2) (hc6 : ∀ zk, zk < 16 * zt.1 2 → zt.2 6 zk ≤ 6) (hzp : zp < zb) {post : PO} (K : Ev E mX0_learn (rmm 3 0 0) (QM E 0 0 post) 0 0 134 [some (.ref 30), some (.ref 3), some (.int (nI zp)), some (.int (nI 8)), none, none, none, none] [] (sL h 31 (blW (zt.2 6) zp zf 8))) : ∀ n i : Nat, i + n = 8 → Ev E mX0_learn (rmm 3 0 0) (QM E 0 0 post) 0 0 28 [some (.ref 30), some (.ref 3), some (.int (nI zp)), some (.int (nI i)), none, none, none, none] [] (sL h 31 (blW (zt.2 6) zp zf i)) := by
  intro n
  induction n with
  | zero =>
    intro i hi
    obtain rfl : 8 = i := by omega
    refine ev_iload_n (pc := 28) dX0_learn_28 rfl ?_
    refine ev_bipush (pc := 29) (v := 8) dX0_learn_29 (by decide) ?_
    refine ev_icmp_ge (pc := 31) (tgt := 134) dX0_learn_31 (by decide) (fun zc31 => ?_) (fun zc31 => absurd (by decide) zc31)
    exact K
  | succ n ih =>
    intro i hi
    have hlt : i < 8 := by omega
    refine ev_iload_n (pc := 28) dX0_learn_28 rfl ?_
    refine ev_bipush (pc := 29) (v := 8) dX0_learn_29 (by decide) ?_
    refine ev_icmp_ge (pc := 31) (tgt := 134) dX0_learn_31 (by decide) (fun zc31 => absurd zc31 (nI_ge (b := 8) hlt (by decide))) (fun zc31 => ?_)
    refine ev_iconst (pc := 34) (v := 0) dX0_learn_34 (by decide) ?_
    refine ev_istore (pc := 35) (L' := [some (.ref 30), some (.ref 3), some (.int (nI zp)), some (.int (nI i)), some (.int 0), none, none, none]) dX0_learn_35 (Nat.le_of_ble_eq_true rfl) rfl ?_
    refine lp_bk_37_3 E h zt zb zp i (blW (zt.2 6) zp zf i) hw hp hp4 hY hO hzb hc6 hzp hlt ?_ 16 0 rfl
    refine ev_iinc (pc := 128) (v := nI (i + 1)) (L' := [some (.ref 30), some (.ref 3), some (.int (nI zp)), some (.int (nI (i + 1))), some (.int (nI 16)), none, none, none]) dX0_learn_128 rfl (nI_1 _) (Nat.le_of_ble_eq_true rfl) rfl ?_
    refine ev_goto (pc := 131) (tgt := 28) dX0_learn_131 (by decide) ?_
    refine ev_less (L' := [some (.ref 30), some (.ref 3), some (.int (nI zp)), some (.int (nI (i + 1))), none, none, none, none]) (ls_keep (ls_keep (ls_keep (ls_keep (ls_drop (ls_keep (ls_keep (ls_keep (ls_nil _))))))))) ?_
    exact ih (i + 1) (by omega)
theorem lp_bk_18_3 (E : ME) (h : AH) (zt : PSt) (zb : Nat) (zf : Nat → Int64) (hw : WF h) (hp : h.2.1 30 1 = nI zb) (hp4 : zb ≤ 4) (hY : STz zt 3 h) (hO : POK zt) (hzb : zb = zt.1 2) (hc6 : ∀ zk, zk < 16 * zt.1 2 → zt.2 6 zk ≤ 6) {post : PO} (K : Ev E mX0_learn (rmm 3 0 0) (QM E 0 0 post) 0 0 140 [some (.ref 30), some (.ref 3), some (.int (nI zb)), none, none, none, none, none] [] (sL h 31 (blP (zt.2 6) zf zb))) : ∀ n i : Nat, i + n = zb → Ev E mX0_learn (rmm 3 0 0) (QM E 0 0 post) 0 0 18 [some (.ref 30), some (.ref 3), some (.int (nI i)), none, none, none, none, none] [] (sL h 31 (blP (zt.2 6) zf i)) := by
  intro n
  induction n with
  | zero =>
    intro i hi
    obtain rfl : zb = i := by omega
    refine ev_iload_n (pc := 18) dX0_learn_18 rfl ?_
    refine ev_aload_n (pc := 19) dX0_learn_19 rfl ?_
    refine ev_getI (pc := 20) dX0_learn_20 fX0_25 rfl (wlt (wf_sL hw) (by decide)) ?_
    refine ev_eqI (e' := h.2.1 30 1) (by rfl) ?_
    refine ev_eqI (e' := nI zb) hp ?_
    refine ev_icmp_ge (pc := 23) (tgt := 140) dX0_learn_23 (by decide) (fun zc23 => ?_) (fun zc23 => absurd (nI_le (Nat.le_refl _) (by omega)) zc23)
    exact K
  | succ n ih =>
    intro i hi
    have hlt : i < zb := by omega
    refine ev_iload_n (pc := 18) dX0_learn_18 rfl ?_
    refine ev_aload_n (pc := 19) dX0_learn_19 rfl ?_
    refine ev_getI (pc := 20) dX0_learn_20 fX0_25 rfl (wlt (wf_sL hw) (by decide)) ?_
    refine ev_eqI (e' := h.2.1 30 1) (by rfl) ?_
    refine ev_eqI (e' := nI zb) hp ?_
    refine ev_icmp_ge (pc := 23) (tgt := 140) dX0_learn_23 (by decide) (fun zc23 => absurd zc23 (nI_ge hlt (by omega))) (fun zc23 => ?_)
    refine ev_iconst (pc := 26) (v := 0) dX0_learn_26 (by decide) ?_
    refine ev_istore_n (pc := 27) (L' := [some (.ref 30), some (.ref 3), some (.int (nI i)), some (.int 0), none, none, none, none]) dX0_learn_27 (Nat.le_of_ble_eq_true rfl) rfl ?_
    refine lp_bk_28_3 E h zt zb i (blP (zt.2 6) zf i) hw hp hp4 hY hO hzb hc6 hlt ?_ 8 0 rfl
    refine ev_iinc (pc := 134) (v := nI (i + 1)) (L' := [some (.ref 30), some (.ref 3), some (.int (nI (i + 1))), some (.int (nI 8)), none, none, none, none]) dX0_learn_134 rfl (nI_1 _) (Nat.le_of_ble_eq_true rfl) rfl ?_
    refine ev_goto (pc := 137) (tgt := 18) dX0_learn_137 (by decide) ?_
    refine ev_less (L' := [some (.ref 30), some (.ref 3), some (.int (nI (i + 1))), none, none, none, none, none]) (ls_keep (ls_keep (ls_keep (ls_drop (ls_keep (ls_keep (ls_keep (ls_keep (ls_nil _))))))))) ?_
    exact ih (i + 1) (by omega)
theorem lp_bk_37_11 (E : ME) (h : AH) (zt : PSt) (zb zp zw : Nat) (zf : Nat → Int64) (hw : WF h) (hp : h.2.1 30 1 = nI zb) (hp4 : zb ≤ 4) (hY : STz zt 11 h) (hO : POK zt) (hzb : zb = zt.1 2) (hc6 : ∀ zk, zk < 16 * zt.1 2 → zt.2 6 zk ≤ 6) (hzp : zp < zb) (hzw : zw < 8) {post : PO} (K : Ev E mX0_learn (rmm 3 0 0) (QM E 0 0 post) 0 0 128 [some (.ref 30), some (.ref 11), some (.int (nI zp)), some (.int (nI zw)), some (.int (nI 16)), none, none, none] [] (sL h 31 (blC (zt.2 6) zp zw zf 16))) : ∀ n i : Nat, i + n = 16 → Ev E mX0_learn (rmm 3 0 0) (QM E 0 0 post) 0 0 37 [some (.ref 30), some (.ref 11), some (.int (nI zp)), some (.int (nI zw)), some (.int (nI i)), none, none, none] [] (sL h 31 (blC (zt.2 6) zp zw zf i)) := by
  intro n
  induction n with
  | zero =>
    intro i hi
    obtain rfl : 16 = i := by omega
    refine ev_iload (pc := 37) dX0_learn_37 rfl ?_
    refine ev_bipush (pc := 39) (v := 16) dX0_learn_39 (by decide) ?_
    refine ev_icmp_ge (pc := 41) (tgt := 128) dX0_learn_41 (by decide) (fun zc41 => ?_) (fun zc41 => absurd (by decide) zc41)
    exact K
  | succ n ih =>
    intro i hi
    have hlt : i < 16 := by omega
    have zsr := (sr4 zw hzw i hlt).2
    have zix : 16 * zp + srN 4 zw i < 16 * zt.1 2 := by omega
    refine ev_iload (pc := 37) dX0_learn_37 rfl ?_
    refine ev_bipush (pc := 39) (v := 16) dX0_learn_39 (by decide) ?_
    refine ev_icmp_ge (pc := 41) (tgt := 128) dX0_learn_41 (by decide) (fun zc41 => absurd zc41 (nI_ge (b := 16) hlt (by decide))) (fun zc41 => ?_)
    refine ev_aload_n (pc := 44) dX0_learn_44 rfl ?_
    refine ev_iload_n (pc := 45) dX0_learn_45 rfl ?_
    refine ev_iload_n (pc := 46) dX0_learn_46 rfl ?_
    refine ev_iload (pc := 47) dX0_learn_47 rfl ?_
    refine ev_iconst (pc := 49) (v := 4) dX0_learn_49 (by decide) ?_
    refine ev_callSv (S := [.int (nI zp), .ref 11]) (pc := 50) dX0_learn_50 kX10_source lX0_48 sX10_source (cn_X10_src4 E (sL h 31 (blC (zt.2 6) zp zw zf i)) zw i (wf_sL hw) hlt hzw) rfl rfl (Nat.le_of_ble_eq_true rfl) ⟨Nat.le_of_ble_eq_true rfl, Nat.le_of_ble_eq_true rfl⟩ ⟨Nat.le_of_ble_eq_true rfl, Nat.le_of_ble_eq_true rfl⟩ ?_
    refine ev_callVv (S := []) (pc := 53) dX0_learn_53 kX8_patternColour lX0_52 vX8_patternColour (cn_X8_patternColour_11 E (sL h 31 (blC (zt.2 6) zp zw zf i)) zt zp (srN 4 zw i) (wf_sL hw) hY hO (by omega) zsr) rfl rfl (wlt (wf_sL hw) (by decide)) rfl rfl (Nat.le_of_ble_eq_true rfl) ⟨Nat.le_of_ble_eq_true rfl, Nat.le_of_ble_eq_true rfl⟩ ⟨Nat.le_of_ble_eq_true rfl, Nat.le_of_ble_eq_true rfl⟩ ?_
    refine ev_istore (pc := 56) (L' := [some (.ref 30), some (.ref 11), some (.int (nI zp)), some (.int (nI zw)), some (.int (nI i)), some (.int (clC (zt.2 6 (16 * zp + srN 4 zw i)))), none, none]) dX0_learn_56 (Nat.le_of_ble_eq_true rfl) rfl ?_
    refine ev_iload (pc := 58) dX0_learn_58 rfl ?_
    refine ev_iconst (pc := 60) (v := 4) dX0_learn_60 (by decide) ?_
    refine ev_idiv (pc := 61) dX0_learn_61 (by decide) ?_
    refine ev_eqI (e' := nI (i / 4)) (pk_div (a := i) (d := 4) (by omega) (by omega) (by omega)) ?_
    refine ev_istore (pc := 62) (L' := [some (.ref 30), some (.ref 11), some (.int (nI zp)), some (.int (nI zw)), some (.int (nI i)), some (.int (clC (zt.2 6 (16 * zp + srN 4 zw i)))), some (.int (nI (i / 4))), none]) dX0_learn_62 (Nat.le_of_ble_eq_true rfl) rfl ?_
    refine ev_iload (pc := 64) dX0_learn_64 rfl ?_
    refine ev_iconst (pc := 66) (v := 4) dX0_learn_66 (by decide) ?_
    refine ev_irem (pc := 67) dX0_learn_67 (by decide) ?_
    refine ev_eqI (e' := nI (i % 4)) (pk_rem (a := i) (d := 4) (by omega) (by omega) (by omega)) ?_
    refine ev_istore (pc := 68) (L' := [some (.ref 30), some (.ref 11), some (.int (nI zp)), some (.int (nI zw)), some (.int (nI i)), some (.int (clC (zt.2 6 (16 * zp + srN 4 zw i)))), some (.int (nI (i / 4))), some (.int (nI (i % 4)))]) dX0_learn_68 (Nat.le_of_ble_eq_true rfl) rfl ?_
    refine ev_aload_n (pc := 70) dX0_learn_70 rfl ?_
    refine ev_aload_n (pc := 71) dX0_learn_71 rfl ?_
    refine ev_iload_n (pc := 72) dX0_learn_72 rfl ?_
    refine ev_iload_n (pc := 73) dX0_learn_73 rfl ?_
    refine ev_iconst (pc := 74) (v := 1) dX0_learn_74 (by decide) ?_
    refine ev_iconst (pc := 75) (v := 0) dX0_learn_75 (by decide) ?_
    refine ev_callVv (S := [.ref 30]) (pc := 76) dX0_learn_76 kX0_copyNumber lX0_56 vX0_copyNumber (cn_X0_cn1 E (sL h 31 (blC (zt.2 6) zp zw zf i)) zp zw zb (wf_sL hw) hp hp4 hzp hzw) rfl rfl (wlt (wf_sL hw) (by decide)) rfl rfl (Nat.le_of_ble_eq_true rfl) ⟨Nat.le_of_ble_eq_true rfl, Nat.le_of_ble_eq_true rfl⟩ ⟨Nat.le_of_ble_eq_true rfl, Nat.le_of_ble_eq_true rfl⟩ ?_
    refine ev_iload (pc := 79) dX0_learn_79 rfl ?_
    refine ev_lconst (pc := 81) (v := 1) dX0_learn_81 (by decide) ?_
    refine ev_iload (pc := 82) dX0_learn_82 rfl ?_
    refine ev_bipush (pc := 84) (v := 8) dX0_learn_84 (by decide) ?_
    refine ev_imul (pc := 86) dX0_learn_86 ?_
    refine ev_eqI (e' := nI ((i / 4) * 8)) (pk_mul (i / 4) 8) ?_
    refine ev_iload (pc := 87) dX0_learn_87 rfl ?_
    refine ev_iadd (pc := 89) dX0_learn_89 ?_
    refine ev_eqI (e' := nI (((i / 4) * 8) + (i % 4))) (nI_add ((i / 4) * 8) (i % 4)) ?_
    refine ev_lshl (pc := 90) dX0_learn_90 ?_
    refine ev_callV0 (S := []) (pc := 91) dX0_learn_91 kX0_addCells lX0_60 vX0_addCells (cn_X0_addCellsC E (sL h 31 (blC (zt.2 6) zp zw zf i)) (zp * 208 + zw * 25) (zt.2 6 (16 * zp + srN 4 zw i)) zb (1 <<< (Int32.toInt64 (nI (i / 4 * 8 + i % 4)) &&& 63)) (wf_sL hw) hp hp4 (by omega) (hc6 _ zix)) rfl rfl (wlt (wf_sL hw) (by decide)) rfl rfl (Nat.le_of_ble_eq_true rfl) ⟨Nat.le_of_ble_eq_true rfl, Nat.le_of_ble_eq_true rfl⟩ ⟨Nat.le_of_ble_eq_true rfl, Nat.le_of_ble_eq_true rfl⟩ ?_
    refine ev_eqH (h' := sL h 31 (adL (blC (zt.2 6) zp zw zf i) (shN (zp * 208 + zw * 25)) (zt.2 6 (16 * zp + srN 4 zw i)) (1 <<< (Int32.toInt64 (nI (i / 4 * 8 + i % 4)) &&& 63)))) (sL_sL _ _ _ _) ?_
    refine ev_aload_n (pc := 94) dX0_learn_94 rfl ?_
    refine ev_aload_n (pc := 95) dX0_learn_95 rfl ?_
    refine ev_iload_n (pc := 96) dX0_learn_96 rfl ?_
    refine ev_iload_n (pc := 97) dX0_learn_97 rfl ?_
    refine ev_iconst (pc := 98) (v := 2) dX0_learn_98 (by decide) ?_
    refine ev_iconst (pc := 99) (v := 0) dX0_learn_99 (by decide) ?_
    refine ev_callVv (S := [.ref 30]) (pc := 100) dX0_learn_100 kX0_copyNumber lX0_56 vX0_copyNumber (cn_X0_cn2 E (sL h 31 (adL (blC (zt.2 6) zp zw zf i) (shN (zp * 208 + zw * 25)) (zt.2 6 (16 * zp + srN 4 zw i)) (1 <<< (Int32.toInt64 (nI (i / 4 * 8 + i % 4)) &&& 63)))) zp zw zb (wf_sL hw) hp hp4 hzp hzw) rfl rfl (wlt (wf_sL hw) (by decide)) rfl rfl (Nat.le_of_ble_eq_true rfl) ⟨Nat.le_of_ble_eq_true rfl, Nat.le_of_ble_eq_true rfl⟩ ⟨Nat.le_of_ble_eq_true rfl, Nat.le_of_ble_eq_true rfl⟩ ?_
    refine ev_iload (pc := 103) dX0_learn_103 rfl ?_
    refine ev_ldc2 (pc := 105) (v := 771) dX0_learn_105 kcX0_64 ?_
    refine ev_iconst (pc := 108) (v := 2) dX0_learn_108 (by decide) ?_
    refine ev_iload (pc := 109) dX0_learn_109 rfl ?_
    refine ev_bipush (pc := 111) (v := 8) dX0_learn_111 (by decide) ?_
    refine ev_imul (pc := 113) dX0_learn_113 ?_
    refine ev_eqI (e' := nI ((i / 4) * 8)) (pk_mul (i / 4) 8) ?_
    refine ev_iload (pc := 114) dX0_learn_114 rfl ?_
    refine ev_iadd (pc := 116) dX0_learn_116 ?_
    refine ev_eqI (e' := nI (((i / 4) * 8) + (i % 4))) (nI_add ((i / 4) * 8) (i % 4)) ?_
    refine ev_imul (pc := 117) dX0_learn_117 ?_
    refine ev_eqI (e' := nI (2 * (((i / 4) * 8) + (i % 4)))) (pk_mul 2 (((i / 4) * 8) + (i % 4))) ?_
    refine ev_lshl (pc := 118) dX0_learn_118 ?_
    refine ev_callV0 (S := []) (pc := 119) dX0_learn_119 kX0_addCells lX0_60 vX0_addCells (cn_X0_addCellsC E (sL h 31 (adL (blC (zt.2 6) zp zw zf i) (shN (zp * 208 + zw * 25)) (zt.2 6 (16 * zp + srN 4 zw i)) (1 <<< (Int32.toInt64 (nI (i / 4 * 8 + i % 4)) &&& 63)))) (zp * 208 + (200 + zw)) (zt.2 6 (16 * zp + srN 4 zw i)) zb (771 <<< (Int32.toInt64 (nI (2 * (i / 4 * 8 + i % 4))) &&& 63)) (wf_sL hw) hp hp4 (by omega) (hc6 _ zix)) rfl rfl (wlt (wf_sL hw) (by decide)) rfl rfl (Nat.le_of_ble_eq_true rfl) ⟨Nat.le_of_ble_eq_true rfl, Nat.le_of_ble_eq_true rfl⟩ ⟨Nat.le_of_ble_eq_true rfl, Nat.le_of_ble_eq_true rfl⟩ ?_
    refine ev_eqH (h' := sL h 31 (adL (adL (blC (zt.2 6) zp zw zf i) (shN (zp * 208 + zw * 25)) (zt.2 6 (16 * zp + srN 4 zw i)) (1 <<< (Int32.toInt64 (nI (i / 4 * 8 + i % 4)) &&& 63))) (shN (zp * 208 + (200 + zw))) (zt.2 6 (16 * zp + srN 4 zw i)) (771 <<< (Int32.toInt64 (nI (2 * (i / 4 * 8 + i % 4))) &&& 63)))) (sL_sL _ _ _ _) ?_
    refine ev_iinc (pc := 122) (v := nI (i + 1)) (L' := [some (.ref 30), some (.ref 11), some (.int (nI zp)), some (.int (nI zw)), some (.int (nI (i + 1))), some (.int (clC (zt.2 6 (16 * zp + srN 4 zw i)))), some (.int (nI (i / 4))), some (.int (nI (i % 4)))]) dX0_learn_122 rfl (nI_1 _) (Nat.le_of_ble_eq_true rfl) rfl ?_
    refine ev_goto (pc := 125) (tgt := 37) dX0_learn_125 (by decide) ?_
    refine ev_less (L' := [some (.ref 30), some (.ref 11), some (.int (nI zp)), some (.int (nI zw)), some (.int (nI (i + 1))), none, none, none]) (ls_keep (ls_keep (ls_keep (ls_keep (ls_keep (ls_drop (ls_drop (ls_drop (ls_nil _))))))))) ?_
    exact ih (i + 1) (by omega)
theorem lp_bk_28_11 (E : ME) (h : AH) (zt : PSt) (zb zp : Nat) (zf : Nat → Int64) (hw : WF h) (hp : h.2.1 30 1 = nI zb) (hp4 : zb ≤ 4) (hY : STz zt 11 h) (hO : POK zt) (hzb : zb = zt.1 2) (hc6 : ∀ zk, zk < 16 * zt.1 2 → zt.2 6 zk ≤ 6) (hzp : zp < zb) {post : PO} (K : Ev E mX0_learn (rmm 3 0 0) (QM E 0 0 post) 0 0 134 [some (.ref 30), some (.ref 11), some (.int (nI zp)), some (.int (nI 8)), none, none, none, none] [] (sL h 31 (blW (zt.2 6) zp zf 8))) : ∀ n i : Nat, i + n = 8 → Ev E mX0_learn (rmm 3 0 0) (QM E 0 0 post) 0 0 28 [some (.ref 30), some (.ref 11), some (.int (nI zp)), some (.int (nI i)), none, none, none, none] [] (sL h 31 (blW (zt.2 6) zp zf i)) := by
  intro n
  induction n with
  | zero =>
    intro i hi
    obtain rfl : 8 = i := by omega
    refine ev_iload_n (pc := 28) dX0_learn_28 rfl ?_
    refine ev_bipush (pc := 29) (v := 8) dX0_learn_29 (by decide) ?_
    refine ev_icmp_ge (pc := 31) (tgt := 134) dX0_learn_31 (by decide) (fun zc31 => ?_) (fun zc31 => absurd (by decide) zc31)
    exact K
  | succ n ih =>
    intro i hi
    have hlt : i < 8 := by omega
    refine ev_iload_n (pc := 28) dX0_learn_28 rfl ?_
    refine ev_bipush (pc := 29) (v := 8) dX0_learn_29 (by decide) ?_
    refine ev_icmp_ge (pc := 31) (tgt := 134) dX0_learn_31 (by decide) (fun zc31 => absurd zc31 (nI_ge (b := 8) hlt (by decide))) (fun zc31 => ?_)
    refine ev_iconst (pc := 34) (v := 0) dX0_learn_34 (by decide) ?_
    refine ev_istore (pc := 35) (L' := [some (.ref 30), some (.ref 11), some (.int (nI zp)), some (.int (nI i)), some (.int 0), none, none, none]) dX0_learn_35 (Nat.le_of_ble_eq_true rfl) rfl ?_
    refine lp_bk_37_11 E h zt zb zp i (blW (zt.2 6) zp zf i) hw hp hp4 hY hO hzb hc6 hzp hlt ?_ 16 0 rfl
    refine ev_iinc (pc := 128) (v := nI (i + 1)) (L' := [some (.ref 30), some (.ref 11), some (.int (nI zp)), some (.int (nI (i + 1))), some (.int (nI 16)), none, none, none]) dX0_learn_128 rfl (nI_1 _) (Nat.le_of_ble_eq_true rfl) rfl ?_
    refine ev_goto (pc := 131) (tgt := 28) dX0_learn_131 (by decide) ?_
    refine ev_less (L' := [some (.ref 30), some (.ref 11), some (.int (nI zp)), some (.int (nI (i + 1))), none, none, none, none]) (ls_keep (ls_keep (ls_keep (ls_keep (ls_drop (ls_keep (ls_keep (ls_keep (ls_nil _))))))))) ?_
    exact ih (i + 1) (by omega)
theorem lp_bk_18_11 (E : ME) (h : AH) (zt : PSt) (zb : Nat) (zf : Nat → Int64) (hw : WF h) (hp : h.2.1 30 1 = nI zb) (hp4 : zb ≤ 4) (hY : STz zt 11 h) (hO : POK zt) (hzb : zb = zt.1 2) (hc6 : ∀ zk, zk < 16 * zt.1 2 → zt.2 6 zk ≤ 6) {post : PO} (K : Ev E mX0_learn (rmm 3 0 0) (QM E 0 0 post) 0 0 140 [some (.ref 30), some (.ref 11), some (.int (nI zb)), none, none, none, none, none] [] (sL h 31 (blP (zt.2 6) zf zb))) : ∀ n i : Nat, i + n = zb → Ev E mX0_learn (rmm 3 0 0) (QM E 0 0 post) 0 0 18 [some (.ref 30), some (.ref 11), some (.int (nI i)), none, none, none, none, none] [] (sL h 31 (blP (zt.2 6) zf i)) := by
  intro n
  induction n with
  | zero =>
    intro i hi
    obtain rfl : zb = i := by omega
    refine ev_iload_n (pc := 18) dX0_learn_18 rfl ?_
    refine ev_aload_n (pc := 19) dX0_learn_19 rfl ?_
    refine ev_getI (pc := 20) dX0_learn_20 fX0_25 rfl (wlt (wf_sL hw) (by decide)) ?_
    refine ev_eqI (e' := h.2.1 30 1) (by rfl) ?_
    refine ev_eqI (e' := nI zb) hp ?_
    refine ev_icmp_ge (pc := 23) (tgt := 140) dX0_learn_23 (by decide) (fun zc23 => ?_) (fun zc23 => absurd (nI_le (Nat.le_refl _) (by omega)) zc23)
    exact K
  | succ n ih =>
    intro i hi
    have hlt : i < zb := by omega
    refine ev_iload_n (pc := 18) dX0_learn_18 rfl ?_
    refine ev_aload_n (pc := 19) dX0_learn_19 rfl ?_
    refine ev_getI (pc := 20) dX0_learn_20 fX0_25 rfl (wlt (wf_sL hw) (by decide)) ?_
    refine ev_eqI (e' := h.2.1 30 1) (by rfl) ?_
    refine ev_eqI (e' := nI zb) hp ?_
    refine ev_icmp_ge (pc := 23) (tgt := 140) dX0_learn_23 (by decide) (fun zc23 => absurd zc23 (nI_ge hlt (by omega))) (fun zc23 => ?_)
    refine ev_iconst (pc := 26) (v := 0) dX0_learn_26 (by decide) ?_
    refine ev_istore_n (pc := 27) (L' := [some (.ref 30), some (.ref 11), some (.int (nI i)), some (.int 0), none, none, none, none]) dX0_learn_27 (Nat.le_of_ble_eq_true rfl) rfl ?_
    refine lp_bk_28_11 E h zt zb i (blP (zt.2 6) zf i) hw hp hp4 hY hO hzb hc6 hlt ?_ 8 0 rfl
    refine ev_iinc (pc := 134) (v := nI (i + 1)) (L' := [some (.ref 30), some (.ref 11), some (.int (nI (i + 1))), some (.int (nI 8)), none, none, none, none]) dX0_learn_134 rfl (nI_1 _) (Nat.le_of_ble_eq_true rfl) rfl ?_
    refine ev_goto (pc := 137) (tgt := 18) dX0_learn_137 (by decide) ?_
    refine ev_less (L' := [some (.ref 30), some (.ref 11), some (.int (nI (i + 1))), none, none, none, none, none]) (ls_keep (ls_keep (ls_keep (ls_drop (ls_keep (ls_keep (ls_keep (ls_keep (ls_nil _))))))))) ?_
    exact ih (i + 1) (by omega)
