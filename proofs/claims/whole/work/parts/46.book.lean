def bwF (zf : Nat → Int32) (zb : Nat → Nat) (za zs : Nat) : Nat → Nat → Int32
  | 0 => zf
  | zk + 1 => upd (bwF zf zb za zs zk) (za + zk) (clV (bkC (zb (zs + zk))))
theorem bkG_iff {zc : Nat} : bkG zc = true ↔ (zc = 120 ∨ (97 ≤ zc ∧ zc ≤ 102)) := decide_eq_true_iff
theorem bkO_iff {zb : Nat → Nat} {zn zp : Nat} : bkO zb zn zp = true ↔ tE zb zn zp = tS zb zn zp + 4 ∧ ∀ zj, zj < 4 → bkG (zb (tS zb zn zp + zj)) = true := by
  unfold bkO
  simp only [Bool.and_eq_true, decide_eq_true_iff]
  constructor
  · rintro ⟨⟨⟨⟨h1, h2⟩, h3⟩, h4⟩, h5⟩
    refine ⟨h1, fun zj hj => ?_⟩
    match zj, hj with
    | 0, _ => exact h2
    | 1, _ => exact h3
    | 2, _ => exact h4
    | 3, _ => exact h5
    | zj + 4, hj => omega
  · rintro ⟨h1, h2⟩
    exact ⟨⟨⟨⟨h1, h2 0 (by decide)⟩, h2 1 (by decide)⟩, h2 2 (by decide)⟩, h2 3 (by decide)⟩
theorem clV_x : clV (bkC 120) = -4 := rfl
theorem clV_c {zc : Nat} (h : 97 ≤ zc ∧ zc ≤ 102) : clV (bkC zc) = nI (zc - 97) := by
  have h1 : bkC zc = zc - 97 := if_neg (by omega)
  unfold clV
  rw [h1, if_neg (by omega)]
theorem bwF_4 {zf : Nat → Int32} {zb zg : Nat → Nat} {za zs : Nat} (H : ∀ zk, zk < za → zf zk = clV (zg zk)) : ∀ zk, zk < za + 4 → bwF zf zb za zs 4 zk = clV (bkU zb zg zs za zk) := by
  intro zk hk
  unfold bkU
  simp only [bwF, upd, upN, Nat.add_zero]
  by_cases h3 : zk = za + 3
  · simp [h3]
  · by_cases h2 : zk = za + 2
    · simp [h2]
    · by_cases h1 : zk = za + 1
      · simp [h1]
      · by_cases h0 : zk = za
        · simp [h0]
        · simp [h0, h1, h2, h3]; exact H zk (by omega)
theorem lp_book_65 (E : ME) (zg : AH) (zb : Nat → Nat) (zn zp zr : Nat) (zt : PSt) (hw : WF zg) (hT : TMz zg zb zn) (hL : LAz zb zn zp zg) (hk0 : ¬ tK zb zn zp = 0) (hp : zp ≤ zn) (hv : ScZ zt zg) (hr : zr < 4) (hb : zt.1 2 < 4) (hl : tE zb zn zp = (tS zb zn zp) + 4) {post : PO} (K1 : (∀ zj, zj < 4 → bkG (zb ((tS zb zn zp) + zj)) = true) → Ev E mX11_readBook (rmm 2 0 0) (QM E 0 0 post) 0 0 162 [some (.ref 49), some (.int (nI zr)), some (.int 1), none, none] [] (sI zg 63 (bwF (zg.2.1 63) zb (16 * zt.1 2 + 4 * zr) (tS zb zn zp) 4))) (K0 : ∀ zx, ¬ (∀ zj, zj < 4 → bkG (zb ((tS zb zn zp) + zj)) = true) → Ev E mX11_readBook (rmm 2 0 0) (QM E 0 0 post) 0 0 162 [some (.ref 49), some (.int (nI zr)), some (.int 0), none, none] [] (sI zg 63 zx)) : ∀ zf zk : Nat, zk + zf = 4 → (∀ zj, zj < zk → bkG (zb ((tS zb zn zp) + zj)) = true) → Ev E mX11_readBook (rmm 2 0 0) (QM E 0 0 post) 0 0 65 [some (.ref 49), some (.int (nI zr)), some (.int 1), some (.int (nI zk)), none] [] (sI zg 63 (bwF (zg.2.1 63) zb (16 * zt.1 2 + 4 * zr) (tS zb zn zp) zk)) := by
  have zn4 := hT.2.1
  have zse := tE_ok zb hp
  intro zf
  induction zf with
  | zero =>
    intro zk hk H
    obtain rfl : zk = 4 := by omega
    refine ev_iload_n (pc := 65) dX11_readBook_65 rfl ?_
    refine ev_iconst (pc := 66) (v := 4) dX11_readBook_66 (by decide) ?_
    refine ev_icmp_ge (pc := 67) (tgt := 162) dX11_readBook_67 (by decide) (fun zc67 => ?_) (fun zc67 => absurd (by decide) zc67)
    refine ev_less (L' := [some (.ref 49), some (.int (nI zr)), some (.int 1), none, none]) (ls_keep (ls_keep (ls_keep (ls_drop (ls_keep (ls_nil _)))))) ?_
    exact K1 H
  | succ zf ih =>
    intro zk hk H
    have zb1 := hT.2.2 ((tS zb zn zp) + zk) (by omega)
    have zbz : bz zb zn ((tS zb zn zp) + zk) = nI (zb ((tS zb zn zp) + zk)) := if_pos (by omega)
    refine ev_iload_n (pc := 65) dX11_readBook_65 rfl ?_
    refine ev_iconst (pc := 66) (v := 4) dX11_readBook_66 (by decide) ?_
    refine ev_icmp_ge (pc := 67) (tgt := 162) dX11_readBook_67 (by decide) (fun zc67 => absurd zc67 (nI_ge (a := zk) (b := 4) (by omega) (by decide))) (fun zc67 => ?_)
    refine ev_aload_n (pc := 70) dX11_readBook_70 rfl ?_
    refine ev_getI (pc := 71) dX11_readBook_71 fX11_100 rfl (wlt (wf_sI hw) (by decide)) ?_
    refine ev_eqI (e' := zg.2.1 49 3) (by rfl) ?_
    refine ev_if_ne (pc := 74) (tgt := 162) dX11_readBook_74 (by decide) (fun zc74 => absurd (LA_w hL hk0) zc74) (fun zc74 => ?_)
    refine ev_iload_n (pc := 77) dX11_readBook_77 rfl ?_
    refine ev_if_eq (pc := 78) (tgt := 162) dX11_readBook_78 (by decide) (fun zc78 => absurd zc78 (by decide)) (fun zc78 => ?_)
    refine ev_aload_n (pc := 81) dX11_readBook_81 rfl ?_
    refine ev_aload_n (pc := 82) dX11_readBook_82 rfl ?_
    refine ev_getI (pc := 83) dX11_readBook_83 fX11_103 rfl (wlt (wf_sI hw) (by decide)) ?_
    refine ev_eqI (e' := zg.2.1 49 6) (by rfl) ?_
    refine ev_eqI (e' := nI (tS zb zn zp)) hL.2.1 ?_
    refine ev_iload_n (pc := 86) dX11_readBook_86 rfl ?_
    refine ev_iadd (pc := 87) dX11_readBook_87 ?_
    refine ev_eqI (e' := nI ((tS zb zn zp) + zk)) (nI_add (tS zb zn zp) zk) ?_
    refine ev_callVv (S := []) (pc := 88) dX11_readBook_88 kX11_byteAt lX11_112 vX11_byteAt (cn_byteN E (sI zg 63 (bwF (zg.2.1 63) zb (16 * zt.1 2 + 4 * zr) (tS zb zn zp) zk)) zb zn ((tS zb zn zp) + zk) (wf_sI hw) hT (by omega)) rfl rfl (wlt (wf_sI hw) (by decide)) rfl rfl (Nat.le_of_ble_eq_true rfl) ⟨Nat.le_of_ble_eq_true rfl, Nat.le_of_ble_eq_true rfl⟩ ⟨Nat.le_of_ble_eq_true rfl, Nat.le_of_ble_eq_true rfl⟩ ?_
    refine ev_eqI (e' := nI (zb ((tS zb zn zp) + zk))) zbz ?_
    refine ev_istore (pc := 91) (L' := [some (.ref 49), some (.int (nI zr)), some (.int 1), some (.int (nI zk)), some (.int (nI (zb ((tS zb zn zp) + zk))))]) dX11_readBook_91 (Nat.le_of_ble_eq_true rfl) rfl ?_
    refine ev_iload (pc := 93) dX11_readBook_93 rfl ?_
    refine ev_bipush (pc := 95) (v := 120) dX11_readBook_95 (by decide) ?_
    refine ev_icmp_eq (pc := 97) (tgt := 115) dX11_readBook_97 (by decide) (fun zc97 => ?_) (fun zc97 => ?_)
    · -- eq at 97: taken
      skip
      refine ev_iconst (pc := 115) (v := 1) dX11_readBook_115 (by decide) ?_
      refine ev_goto (pc := 116) (tgt := 120) dX11_readBook_116 (by decide) ?_
      refine ev_istore_n (pc := 120) (L' := [some (.ref 49), some (.int (nI zr)), some (.int 1), some (.int (nI zk)), some (.int (nI (zb ((tS zb zn zp) + zk))))]) dX11_readBook_120 (Nat.le_of_ble_eq_true rfl) rfl ?_
      refine ev_aload_n (pc := 121) dX11_readBook_121 rfl ?_
      refine ev_getR (pc := 122) (q := 63) dX11_readBook_122 fX11_53 rfl (wlt (wf_sI hw) (by decide)) (wr (wf_sI hw) rfl) ?_
      refine ev_bipush (pc := 125) (v := 16) dX11_readBook_125 (by decide) ?_
      refine ev_aload_n (pc := 127) dX11_readBook_127 rfl ?_
      refine ev_getI (pc := 128) dX11_readBook_128 fX11_149 rfl (wlt (wf_sI hw) (by decide)) ?_
      refine ev_eqI (e' := zg.2.1 49 26) (by rfl) ?_
      refine ev_eqI (e' := nI (zt.1 2)) hv.2.1 ?_
      refine ev_imul (pc := 131) dX11_readBook_131 ?_
      refine ev_eqI (e' := nI (16 * (zt.1 2))) (pk_mul 16 (zt.1 2)) ?_
      refine ev_iconst (pc := 132) (v := 4) dX11_readBook_132 (by decide) ?_
      refine ev_iload_n (pc := 133) dX11_readBook_133 rfl ?_
      refine ev_imul (pc := 134) dX11_readBook_134 ?_
      refine ev_eqI (e' := nI (4 * zr)) (pk_mul 4 zr) ?_
      refine ev_iadd (pc := 135) dX11_readBook_135 ?_
      refine ev_eqI (e' := nI ((16 * (zt.1 2)) + (4 * zr))) (nI_add (16 * (zt.1 2)) (4 * zr)) ?_
      refine ev_iload_n (pc := 136) dX11_readBook_136 rfl ?_
      refine ev_iadd (pc := 137) dX11_readBook_137 ?_
      refine ev_eqI (e' := nI (((16 * (zt.1 2)) + (4 * zr)) + zk)) (nI_add ((16 * (zt.1 2)) + (4 * zr)) zk) ?_
      refine ev_iload (pc := 138) dX11_readBook_138 rfl ?_
      refine ev_bipush (pc := 140) (v := 120) dX11_readBook_140 (by decide) ?_
      refine ev_icmp_ne (pc := 142) (tgt := 150) dX11_readBook_142 (by decide) (fun zc142 => absurd zc97 zc142) (fun zc142 => ?_)
      refine ev_bipush (pc := 145) (v := (-4)) dX11_readBook_145 (by decide) ?_
      refine ev_goto (pc := 147) (tgt := 155) dX11_readBook_147 (by decide) ?_
      refine ev_iast (pc := 155) dX11_readBook_155 rfl (wlt (wf_sI hw) (by decide)) (vp_in_nI (by omega) (by decide)) ?_
      refine ev_eqH (h' := sI zg 63 (upd (bwF (zg.2.1 63) zb (16 * zt.1 2 + 4 * zr) (tS zb zn zp) zk) (((16 * (zt.1 2)) + (4 * zr)) + zk) (-4))) (by rw [show Int32.toNatClampNeg (nI (((16 * (zt.1 2)) + (4 * zr)) + zk)) = ((16 * (zt.1 2)) + (4 * zr)) + zk from nI_clamp (by omega)]; exact sI_sI _ _ _ _) ?_
      refine ev_iinc (pc := 156) (v := nI (zk + 1)) (L' := [some (.ref 49), some (.int (nI zr)), some (.int 1), some (.int (nI (zk + 1))), some (.int (nI (zb ((tS zb zn zp) + zk))))]) dX11_readBook_156 rfl (nI_1 _) (Nat.le_of_ble_eq_true rfl) rfl ?_
      refine ev_goto (pc := 159) (tgt := 65) dX11_readBook_159 (by decide) ?_
      refine ev_less (L' := [some (.ref 49), some (.int (nI zr)), some (.int 1), some (.int (nI (zk + 1))), none]) (ls_keep (ls_keep (ls_keep (ls_keep (ls_drop (ls_nil _)))))) ?_
      refine ev_eqH (h' := sI zg 63 (bwF (zg.2.1 63) zb (16 * zt.1 2 + 4 * zr) (tS zb zn zp) (zk + 1))) (by rw [bwF, (nI_eq (a := (zb ((tS zb zn zp) + zk))) (b := 120) (by omega) (by decide)).mp zc97]; rfl) ?_
      exact ih (zk + 1) (by omega) (fun zj hj => by rcases Nat.lt_or_ge zj zk with z1 | z1; exact H zj z1; rw [show zj = zk by omega]; exact bkG_iff.mpr (Or.inl ((nI_eq (a := (zb ((tS zb zn zp) + zk))) (b := 120) (by omega) (by decide)).mp zc97)))
    · -- eq at 97: not taken
      have zin : (97 ≤ nI (zb ((tS zb zn zp) + zk)) ∧ nI (zb ((tS zb zn zp) + zk)) ≤ 102) ↔ (97 ≤ (zb ((tS zb zn zp) + zk)) ∧ (zb ((tS zb zn zp) + zk)) ≤ 102) := ⟨fun z => ⟨(nI_leI (a := 97) (by decide) (by omega)).mp z.1, (nI_leI (b := 102) (by omega) (by decide)).mp z.2⟩, fun z => ⟨(nI_leI (a := 97) (by decide) (by omega)).mpr z.1, (nI_leI (b := 102) (by omega) (by decide)).mpr z.2⟩⟩
      refine ev_iload (pc := 100) dX11_readBook_100 rfl ?_
      refine ev_i2l (pc := 102) dX11_readBook_102 ?_
      refine ev_ldc2 (pc := 103) (v := 97) dX11_readBook_103 kcX11_122 ?_
      refine ev_ldc2 (pc := 106) (v := 102) dX11_readBook_106 kcX11_152 ?_
      refine ev_callSv (S := []) (pc := 109) dX11_readBook_109 kX11_in lX11_96 sX11_in (cn_X11_inC E (sI zg 63 (bwF (zg.2.1 63) zb (16 * zt.1 2 + 4 * zr) (tS zb zn zp) zk)) (nI (zb ((tS zb zn zp) + zk))) 97 102 _ _ _ rfl (by decide) (by decide)) rfl rfl (Nat.le_of_ble_eq_true rfl) ⟨Nat.le_of_ble_eq_true rfl, Nat.le_of_ble_eq_true rfl⟩ ⟨Nat.le_of_ble_eq_true rfl, Nat.le_of_ble_eq_true rfl⟩ ?_
      refine ev_if_eq (pc := 112) (tgt := 119) dX11_readBook_112 (by decide) (fun zc112 => ?_) (fun zc112 => ?_)
      · -- eq at 112: taken
        refine ev_iconst (pc := 119) (v := 0) dX11_readBook_119 (by decide) ?_
        refine ev_istore_n (pc := 120) (L' := [some (.ref 49), some (.int (nI zr)), some (.int 0), some (.int (nI zk)), some (.int (nI (zb ((tS zb zn zp) + zk))))]) dX11_readBook_120 (Nat.le_of_ble_eq_true rfl) rfl ?_
        refine ev_aload_n (pc := 121) dX11_readBook_121 rfl ?_
        refine ev_getR (pc := 122) (q := 63) dX11_readBook_122 fX11_53 rfl (wlt (wf_sI hw) (by decide)) (wr (wf_sI hw) rfl) ?_
        refine ev_bipush (pc := 125) (v := 16) dX11_readBook_125 (by decide) ?_
        refine ev_aload_n (pc := 127) dX11_readBook_127 rfl ?_
        refine ev_getI (pc := 128) dX11_readBook_128 fX11_149 rfl (wlt (wf_sI hw) (by decide)) ?_
        refine ev_eqI (e' := zg.2.1 49 26) (by rfl) ?_
        refine ev_eqI (e' := nI (zt.1 2)) hv.2.1 ?_
        refine ev_imul (pc := 131) dX11_readBook_131 ?_
        refine ev_eqI (e' := nI (16 * (zt.1 2))) (pk_mul 16 (zt.1 2)) ?_
        refine ev_iconst (pc := 132) (v := 4) dX11_readBook_132 (by decide) ?_
        refine ev_iload_n (pc := 133) dX11_readBook_133 rfl ?_
        refine ev_imul (pc := 134) dX11_readBook_134 ?_
        refine ev_eqI (e' := nI (4 * zr)) (pk_mul 4 zr) ?_
        refine ev_iadd (pc := 135) dX11_readBook_135 ?_
        refine ev_eqI (e' := nI ((16 * (zt.1 2)) + (4 * zr))) (nI_add (16 * (zt.1 2)) (4 * zr)) ?_
        refine ev_iload_n (pc := 136) dX11_readBook_136 rfl ?_
        refine ev_iadd (pc := 137) dX11_readBook_137 ?_
        refine ev_eqI (e' := nI (((16 * (zt.1 2)) + (4 * zr)) + zk)) (nI_add ((16 * (zt.1 2)) + (4 * zr)) zk) ?_
        refine ev_iload (pc := 138) dX11_readBook_138 rfl ?_
        refine ev_bipush (pc := 140) (v := 120) dX11_readBook_140 (by decide) ?_
        refine ev_icmp_ne (pc := 142) (tgt := 150) dX11_readBook_142 (by decide) (fun zc142 => ?_) (fun zc142 => absurd zc142 zc97)
        refine ev_iload (pc := 150) dX11_readBook_150 rfl ?_
        refine ev_bipush (pc := 152) (v := 97) dX11_readBook_152 (by decide) ?_
        refine ev_isub (pc := 154) dX11_readBook_154 ?_
        refine ev_iast (pc := 155) dX11_readBook_155 rfl (wlt (wf_sI hw) (by decide)) (vp_in_nI (by omega) (by decide)) ?_
        refine ev_eqH (h' := sI zg 63 (upd (bwF (zg.2.1 63) zb (16 * zt.1 2 + 4 * zr) (tS zb zn zp) zk) (((16 * (zt.1 2)) + (4 * zr)) + zk) ((nI (zb ((tS zb zn zp) + zk))) - 97))) (by rw [show Int32.toNatClampNeg (nI (((16 * (zt.1 2)) + (4 * zr)) + zk)) = ((16 * (zt.1 2)) + (4 * zr)) + zk from nI_clamp (by omega)]; exact sI_sI _ _ _ _) ?_
        refine ev_iinc (pc := 156) (v := nI (zk + 1)) (L' := [some (.ref 49), some (.int (nI zr)), some (.int 0), some (.int (nI (zk + 1))), some (.int (nI (zb ((tS zb zn zp) + zk))))]) dX11_readBook_156 rfl (nI_1 _) (Nat.le_of_ble_eq_true rfl) rfl ?_
        refine ev_goto (pc := 159) (tgt := 65) dX11_readBook_159 (by decide) ?_
        refine ev_iload_n (pc := 65) dX11_readBook_65 rfl ?_
        refine ev_iconst (pc := 66) (v := 4) dX11_readBook_66 (by decide) ?_
        refine ev_icmp_ge (pc := 67) (tgt := 162) dX11_readBook_67 (by decide) (fun zc67 => ?_) (fun zc67 => ?_)
        · -- ge at 67: taken
          refine ev_less (L' := [some (.ref 49), some (.int (nI zr)), some (.int 0), none, none]) (ls_keep (ls_keep (ls_keep (ls_drop (ls_drop (ls_nil _)))))) ?_
          exact K0 _ (fun z => by
            rcases bkG_iff.mp (z zk (by omega)) with z1 | z1
            · exact zc97 (by rw [z1]; rfl)
            · exact bI_0.mp zc112 (zin.mpr z1))
        · -- ge at 67: not taken
          refine ev_aload_n (pc := 70) dX11_readBook_70 rfl ?_
          refine ev_getI (pc := 71) dX11_readBook_71 fX11_100 rfl (wlt (wf_sI hw) (by decide)) ?_
          refine ev_eqI (e' := zg.2.1 49 3) (by rfl) ?_
          refine ev_if_ne (pc := 74) (tgt := 162) dX11_readBook_74 (by decide) (fun zc74 => absurd (LA_w hL hk0) zc74) (fun zc74 => ?_)
          refine ev_iload_n (pc := 77) dX11_readBook_77 rfl ?_
          refine ev_if_eq (pc := 78) (tgt := 162) dX11_readBook_78 (by decide) (fun zc78 => ?_) (fun zc78 => absurd rfl zc78)
          refine ev_less (L' := [some (.ref 49), some (.int (nI zr)), some (.int 0), none, none]) (ls_keep (ls_keep (ls_keep (ls_drop (ls_drop (ls_nil _)))))) ?_
          exact K0 _ (fun z => by
            rcases bkG_iff.mp (z zk (by omega)) with z1 | z1
            · exact zc97 (by rw [z1]; rfl)
            · exact bI_0.mp zc112 (zin.mpr z1))
      · -- eq at 112: not taken
        skip
        refine ev_iconst (pc := 115) (v := 1) dX11_readBook_115 (by decide) ?_
        refine ev_goto (pc := 116) (tgt := 120) dX11_readBook_116 (by decide) ?_
        refine ev_istore_n (pc := 120) (L' := [some (.ref 49), some (.int (nI zr)), some (.int 1), some (.int (nI zk)), some (.int (nI (zb ((tS zb zn zp) + zk))))]) dX11_readBook_120 (Nat.le_of_ble_eq_true rfl) rfl ?_
        refine ev_aload_n (pc := 121) dX11_readBook_121 rfl ?_
        refine ev_getR (pc := 122) (q := 63) dX11_readBook_122 fX11_53 rfl (wlt (wf_sI hw) (by decide)) (wr (wf_sI hw) rfl) ?_
        refine ev_bipush (pc := 125) (v := 16) dX11_readBook_125 (by decide) ?_
        refine ev_aload_n (pc := 127) dX11_readBook_127 rfl ?_
        refine ev_getI (pc := 128) dX11_readBook_128 fX11_149 rfl (wlt (wf_sI hw) (by decide)) ?_
        refine ev_eqI (e' := zg.2.1 49 26) (by rfl) ?_
        refine ev_eqI (e' := nI (zt.1 2)) hv.2.1 ?_
        refine ev_imul (pc := 131) dX11_readBook_131 ?_
        refine ev_eqI (e' := nI (16 * (zt.1 2))) (pk_mul 16 (zt.1 2)) ?_
        refine ev_iconst (pc := 132) (v := 4) dX11_readBook_132 (by decide) ?_
        refine ev_iload_n (pc := 133) dX11_readBook_133 rfl ?_
        refine ev_imul (pc := 134) dX11_readBook_134 ?_
        refine ev_eqI (e' := nI (4 * zr)) (pk_mul 4 zr) ?_
        refine ev_iadd (pc := 135) dX11_readBook_135 ?_
        refine ev_eqI (e' := nI ((16 * (zt.1 2)) + (4 * zr))) (nI_add (16 * (zt.1 2)) (4 * zr)) ?_
        refine ev_iload_n (pc := 136) dX11_readBook_136 rfl ?_
        refine ev_iadd (pc := 137) dX11_readBook_137 ?_
        refine ev_eqI (e' := nI (((16 * (zt.1 2)) + (4 * zr)) + zk)) (nI_add ((16 * (zt.1 2)) + (4 * zr)) zk) ?_
        refine ev_iload (pc := 138) dX11_readBook_138 rfl ?_
        refine ev_bipush (pc := 140) (v := 120) dX11_readBook_140 (by decide) ?_
        refine ev_icmp_ne (pc := 142) (tgt := 150) dX11_readBook_142 (by decide) (fun zc142 => ?_) (fun zc142 => absurd zc142 zc97)
        refine ev_iload (pc := 150) dX11_readBook_150 rfl ?_
        refine ev_bipush (pc := 152) (v := 97) dX11_readBook_152 (by decide) ?_
        refine ev_isub (pc := 154) dX11_readBook_154 ?_
        refine ev_iast (pc := 155) dX11_readBook_155 rfl (wlt (wf_sI hw) (by decide)) (vp_in_nI (by omega) (by decide)) ?_
        refine ev_eqH (h' := sI zg 63 (upd (bwF (zg.2.1 63) zb (16 * zt.1 2 + 4 * zr) (tS zb zn zp) zk) (((16 * (zt.1 2)) + (4 * zr)) + zk) ((nI (zb ((tS zb zn zp) + zk))) - 97))) (by rw [show Int32.toNatClampNeg (nI (((16 * (zt.1 2)) + (4 * zr)) + zk)) = ((16 * (zt.1 2)) + (4 * zr)) + zk from nI_clamp (by omega)]; exact sI_sI _ _ _ _) ?_
        refine ev_iinc (pc := 156) (v := nI (zk + 1)) (L' := [some (.ref 49), some (.int (nI zr)), some (.int 1), some (.int (nI (zk + 1))), some (.int (nI (zb ((tS zb zn zp) + zk))))]) dX11_readBook_156 rfl (nI_1 _) (Nat.le_of_ble_eq_true rfl) rfl ?_
        refine ev_goto (pc := 159) (tgt := 65) dX11_readBook_159 (by decide) ?_
        refine ev_less (L' := [some (.ref 49), some (.int (nI zr)), some (.int 1), some (.int (nI (zk + 1))), none]) (ls_keep (ls_keep (ls_keep (ls_keep (ls_drop (ls_nil _)))))) ?_
        refine ev_eqH (h' := sI zg 63 (bwF (zg.2.1 63) zb (16 * zt.1 2 + 4 * zr) (tS zb zn zp) (zk + 1))) (by rw [bwF, clV_c (zin.mp (bI_n0.mp zc112))]; exact congrArg (fun zx => sI zg 63 (upd (bwF (zg.2.1 63) zb (16 * zt.1 2 + 4 * zr) (tS zb zn zp) zk) (16 * zt.1 2 + 4 * zr + zk) zx)) (pk_sub (a := (zb ((tS zb zn zp) + zk))) (b := 97) (zin.mp (bI_n0.mp zc112)).1)) ?_
        exact ih (zk + 1) (by omega) (fun zj hj => by rcases Nat.lt_or_ge zj zk with z1 | z1; exact H zj z1; rw [show zj = zk by omega]; exact bkG_iff.mpr (Or.inr (zin.mp (bI_n0.mp zc112))))
def PBz (zt : PSt) (zc : Nat → Nat) (zr : Nat) (h : AH) : Prop := (∀ zk, zk < zt.1 1 → h.2.1 59 zk = nI (zt.2 0 zk) ∧ h.2.1 60 zk = nI (zt.2 1 zk) ∧ h.2.1 61 zk = nI (zt.2 2 zk ||| zt.2 3 zk) ∧ h.2.1 62 zk = nI (zt.2 3 zk)) ∧ (∀ zk, zk < 6 → h.2.1 64 zk = nI (zt.2 4 zk) ∧ h.2.1 65 zk = nI (zt.2 5 zk)) ∧ ∀ zk, zk < 16 * zt.1 2 + 4 * zr → h.2.1 63 zk = clV (zc zk)
theorem scE_B {zt : PSt} {zc : Nat → Nat} {zr : Nat} {h g : AH} (hs : scE h g) (hA : PBz zt zc zr h) : PBz zt zc zr g := by
  unfold PBz at *
  rw [hs.2.2.1 59 (by decide), hs.2.2.1 60 (by decide), hs.2.2.1 61 (by decide), hs.2.2.1 62 (by decide), hs.2.2.1 63 (by decide), hs.2.2.1 64 (by decide), hs.2.2.1 65 (by decide)]
  exact hA
theorem PB_4 {zt : PSt} {zc zb : Nat → Nat} {zr zs : Nat} {h : AH} (hA : PBz zt zc zr h) : PBz zt (bkU zb zc zs (16 * zt.1 2 + 4 * zr)) (zr + 1) (sI h 63 (bwF (h.2.1 63) zb (16 * zt.1 2 + 4 * zr) zs 4)) :=
  ⟨hA.1, hA.2.1, fun zk hk => bwF_4 hA.2.2 zk (by omega)⟩
theorem bk_w {zb : Nat → Nat} {zn zp : Nat} (h : tK zb zn zp = 0) : ∀ (zf za : Nat) (zg : Nat → Nat), (bkF4 zb zn zf za zp zg).1 = (wrK zb zn zp, tS zb zn zp)
  | 0, _, _ => rfl
  | zf + 1, za, zg => by rw [bkF4, if_neg (by omega), if_pos h, wr_1 h]
theorem lp_book_19 (E : ME) (h : AH) (zb : Nat → Nat) (zn zs zq : Nat) (zt : PSt) (hb : zt.1 2 < 4) : ∀ (zf zr zp : Nat) (zc : Nat → Nat) (zg : AH), WF zg → TMz zg zb zn → LAz zb zn zp zg → ¬ tK zb zn zp = 0 → zp ≤ zn → ScZ zt zg → FrM h zg → PBz zt zc zr zg → zr + zf = 4 → bkF4 zb zn zf (16 * zt.1 2 + 4 * zr) zp zc = bkF4 zb zn 4 (16 * zt.1 2) zq (zt.2 6) → Ev E mX11_readBook (rmm 2 0 0) (QM E 0 0 (fun r h' => r = none ∧ RBz zb zn (bokB zb zn zs zq zt) h h')) 0 0 19 [some (.ref 49), some (.int (nI zr)), none, none, none] [] zg := by
  intro zf
  induction zf with
  | zero =>
    intro zr zp zc zg hw hT hL hk0 hp hv hF hP hc hE
    obtain rfl : zr = 4 := by omega
    have zn4 := hT.2.1
    refine ev_iload_n (pc := 19) dX11_readBook_19 rfl ?_
    refine ev_iconst (pc := 20) (v := 4) dX11_readBook_20 (by decide) ?_
    refine ev_icmp_ge (pc := 21) (tgt := 188) dX11_readBook_21 (by decide) (fun zc21 => ?_) (fun zc21 => absurd (by decide) zc21)
    refine ev_aload_n (pc := 188) dX11_readBook_188 rfl ?_
    refine ev_dup (pc := 189) dX11_readBook_189 rfl ?_
    refine ev_getI (pc := 190) dX11_readBook_190 fX11_149 rfl (wlt hw (by decide)) ?_
    refine ev_eqI (e' := nI (zt.1 2)) hv.2.1 ?_
    refine ev_aload_n (pc := 193) dX11_readBook_193 rfl ?_
    refine ev_getI (pc := 194) dX11_readBook_194 fX11_100 rfl (wlt hw (by decide)) ?_
    refine ev_if_ne (pc := 197) (tgt := 204) dX11_readBook_197 (by decide) (fun zc197 => absurd (LA_w hL hk0) zc197) (fun zc197 => ?_)
    refine ev_iconst (pc := 200) (v := 1) dX11_readBook_200 (by decide) ?_
    refine ev_goto (pc := 201) (tgt := 205) dX11_readBook_201 (by decide) ?_
    refine ev_iadd (pc := 205) dX11_readBook_205 ?_
    refine ev_eqI (e' := nI ((zt.1 2) + 1)) (nI_add (zt.1 2) 1) ?_
    refine ev_putI (pc := 206) dX11_readBook_206 fX11_149 rfl (wlt hw (by decide)) ?_
    refine ev_eqH (h' := sI zg 49 (upd (zg.2.1 49) 26 (nI ((zt.1 2) + 1)))) (by rfl) ?_
    refine ev_ret (pc := 209) dX11_readBook_209 rfl ?_
    · rw [bkF4] at hE
      have hB : (bokB zb zn zs zq zt).1.1 = 0 := by
        unfold bokB
        exact (congrArg Prod.fst (ck_0 (by exact (if_neg (by omega))))).trans (by rw [← hE]; exact wr_0 hk0)
      have hB1 : (bokB zb zn zs zq zt).2.1 = zp := by unfold bokB; rw [← hE]
      refine ⟨rfl, RB_ok (FrM_49 hF (fun zj hj => by simp only [upd]; (repeat' split) <;> first | rfl | (exfalso; unfold pFz at hj; omega))) hB ⟨⟨⟨hv.1, rfl, hv.2.2.1, hv.2.2.2.1, hv.2.2.2.2⟩, ?_⟩, by rw [hB1]; exact hL, by rw [hB1]; exact hk0⟩⟩
      refine ⟨hP.1, hP.2.1, fun zk hk => ?_⟩
      have hk' : zk < 16 * (zt.1 2 + 1) := hk
      show zg.2.1 63 zk = _
      unfold bokB
      rw [← hE]
      exact hP.2.2 zk (by omega)
  | succ zf ih =>
    intro zr zp zc zg hw hT hL hk0 hp hv hF hP hc hE
    have zn4 := hT.2.1
    have zse := tE_ok zb hp
    refine ev_iload_n (pc := 19) dX11_readBook_19 rfl ?_
    refine ev_iconst (pc := 20) (v := 4) dX11_readBook_20 (by decide) ?_
    refine ev_icmp_ge (pc := 21) (tgt := 188) dX11_readBook_21 (by decide) (fun zc21 => absurd zc21 (nI_ge (a := zr) (b := 4) (by omega) (by decide))) (fun zc21 => ?_)
    refine ev_aload_n (pc := 24) dX11_readBook_24 rfl ?_
    refine ev_getI (pc := 25) dX11_readBook_25 fX11_100 rfl (wlt hw (by decide)) ?_
    refine ev_if_ne (pc := 28) (tgt := 188) dX11_readBook_28 (by decide) (fun zc28 => absurd (LA_w hL hk0) zc28) (fun zc28 => ?_)
    refine ev_aload_n (pc := 31) dX11_readBook_31 rfl ?_
    refine ev_getI (pc := 32) dX11_readBook_32 fX11_119 rfl (wlt hw (by decide)) ?_
    refine ev_iconst (pc := 35) (v := 1) dX11_readBook_35 (by decide) ?_
    refine ev_icmp_eq (pc := 36) (tgt := 44) dX11_readBook_36 (by decide) (fun zc36 => ?_) (fun zc36 => ?_)
    · -- eq at 36: taken
      have zK2 := (LA_3 (zk := 1) hL hk0 (by decide)).mp zc36
      refine ev_aload_n (pc := 44) dX11_readBook_44 rfl ?_
      refine ev_getI (pc := 45) dX11_readBook_45 fX11_109 rfl (wlt hw (by decide)) ?_
      refine ev_eqI (e' := nI (tE zb zn zp)) hL.1 ?_
      refine ev_aload_n (pc := 48) dX11_readBook_48 rfl ?_
      refine ev_getI (pc := 49) dX11_readBook_49 fX11_103 rfl (wlt hw (by decide)) ?_
      refine ev_eqI (e' := nI (tS zb zn zp)) hL.2.1 ?_
      refine ev_isub (pc := 52) dX11_readBook_52 ?_
      refine ev_eqI (e' := nI ((tE zb zn zp) - (tS zb zn zp))) (pk_sub (a := tE zb zn zp) (b := tS zb zn zp) (by omega)) ?_
      refine ev_iconst (pc := 53) (v := 4) dX11_readBook_53 (by decide) ?_
      refine ev_icmp_ne (pc := 54) (tgt := 61) dX11_readBook_54 (by decide) (fun zc54 => ?_) (fun zc54 => ?_)
      · -- ne at 54: taken
        refine ev_iconst (pc := 61) (v := 0) dX11_readBook_61 (by decide) ?_
        refine ev_istore_n (pc := 62) (L' := [some (.ref 49), some (.int (nI zr)), some (.int 0), none, none]) dX11_readBook_62 (Nat.le_of_ble_eq_true rfl) rfl ?_
        refine ev_iconst (pc := 63) (v := 0) dX11_readBook_63 (by decide) ?_
        refine ev_istore_n (pc := 64) (L' := [some (.ref 49), some (.int (nI zr)), some (.int 0), some (.int 0), none]) dX11_readBook_64 (Nat.le_of_ble_eq_true rfl) rfl ?_
        have zO : ¬ bkO zb zn zp = true := fun z => zc54 (by rw [show tE zb zn zp - (tS zb zn zp) = 4 by have := (bkO_iff.mp z).1; omega]; rfl)
        refine ev_iload_n (pc := 65) dX11_readBook_65 rfl ?_
        refine ev_iconst (pc := 66) (v := 4) dX11_readBook_66 (by decide) ?_
        refine ev_icmp_ge (pc := 67) (tgt := 162) dX11_readBook_67 (by decide) (fun zc67 => absurd zc67 (by decide)) (fun zc67 => ?_)
        refine ev_aload_n (pc := 70) dX11_readBook_70 rfl ?_
        refine ev_getI (pc := 71) dX11_readBook_71 fX11_100 rfl (wlt hw (by decide)) ?_
        refine ev_if_ne (pc := 74) (tgt := 162) dX11_readBook_74 (by decide) (fun zc74 => absurd (LA_w hL hk0) zc74) (fun zc74 => ?_)
        refine ev_iload_n (pc := 77) dX11_readBook_77 rfl ?_
        refine ev_if_eq (pc := 78) (tgt := 162) dX11_readBook_78 (by decide) (fun zc78 => ?_) (fun zc78 => absurd rfl zc78)
        refine ev_aload_n (pc := 162) dX11_readBook_162 rfl ?_
        refine ev_getI (pc := 163) dX11_readBook_163 fX11_100 rfl (wlt hw (by decide)) ?_
        refine ev_if_ne (pc := 166) (tgt := 178) dX11_readBook_166 (by decide) (fun zc166 => absurd (LA_w hL hk0) zc166) (fun zc166 => ?_)
        refine ev_iload_n (pc := 169) dX11_readBook_169 rfl ?_
        refine ev_if_ne (pc := 170) (tgt := 178) dX11_readBook_170 (by decide) (fun zc170 => absurd rfl zc170) (fun zc170 => ?_)
        refine ev_aload_n (pc := 173) dX11_readBook_173 rfl ?_
        refine ev_iconst (pc := 174) (v := 3) dX11_readBook_174 (by decide) ?_
        refine ev_callV0 (S := []) (pc := 175) dX11_readBook_175 kX11_fails lX11_130 vX11_fails (cn_fails0 E zg 3 hw (LA_w hL hk0)) rfl rfl (wlt hw (by decide)) rfl rfl (Nat.le_of_ble_eq_true rfl) ⟨Nat.le_of_ble_eq_true rfl, Nat.le_of_ble_eq_true rfl⟩ ⟨Nat.le_of_ble_eq_true rfl, Nat.le_of_ble_eq_true rfl⟩ ?_
        refine ev_eqH (h' := sI zg 49 (upd (upd (zg.2.1 49) 3 3) 4 (zg.2.1 49 6))) (by first | exact (sI_sI _ _ _ _).trans rfl | rfl) ?_
        refine ev_aload_n (pc := 178) dX11_readBook_178 rfl ?_
        refine ev_callV0 (S := []) (pc := 179) dX11_readBook_179 kX11_next lX11_137 vX11_next (cn_X11_nextW E (sI zg 49 (upd (upd (zg.2.1 49) 3 3) 4 (zg.2.1 49 6))) (wf_sI hw) (show (0 : Int32) < 3 by decide)) rfl rfl (wlt (wf_sI hw) (by decide)) rfl rfl (Nat.le_of_ble_eq_true rfl) ⟨Nat.le_of_ble_eq_true rfl, Nat.le_of_ble_eq_true rfl⟩ ⟨Nat.le_of_ble_eq_true rfl, Nat.le_of_ble_eq_true rfl⟩ ?_
        refine ev_iinc (pc := 182) (v := nI (zr + 1)) (L' := [some (.ref 49), some (.int (nI (zr + 1))), some (.int 0), some (.int 0), none]) dX11_readBook_182 rfl (nI_1 _) (Nat.le_of_ble_eq_true rfl) rfl ?_
        refine ev_goto (pc := 185) (tgt := 19) dX11_readBook_185 (by decide) ?_
        refine ev_iload_n (pc := 19) dX11_readBook_19 rfl ?_
        refine ev_iconst (pc := 20) (v := 4) dX11_readBook_20 (by decide) ?_
        refine ev_icmp_ge (pc := 21) (tgt := 188) dX11_readBook_21 (by decide) (fun zc21 => ?_) (fun zc21 => ?_)
        · -- ge at 21: taken
          refine ev_aload_n (pc := 188) dX11_readBook_188 rfl ?_
          refine ev_dup (pc := 189) dX11_readBook_189 rfl ?_
          refine ev_getI (pc := 190) dX11_readBook_190 fX11_149 rfl (wlt (wf_sI hw) (by decide)) ?_
          refine ev_eqI (e' := zg.2.1 49 26) (by rfl) ?_
          refine ev_eqI (e' := nI (zt.1 2)) hv.2.1 ?_
          refine ev_aload_n (pc := 193) dX11_readBook_193 rfl ?_
          refine ev_getI (pc := 194) dX11_readBook_194 fX11_100 rfl (wlt (wf_sI hw) (by decide)) ?_
          refine ev_eqI (e' := 3) (by rfl) ?_
          refine ev_if_ne (pc := 197) (tgt := 204) dX11_readBook_197 (by decide) (fun zc197 => ?_) (fun zc197 => absurd zc197 (show ¬ (3 : Int32) = 0 by decide))
          refine ev_iconst (pc := 204) (v := 0) dX11_readBook_204 (by decide) ?_
          refine ev_iadd (pc := 205) dX11_readBook_205 ?_
          refine ev_eqI (e' := nI ((zt.1 2) + 0)) (nI_add (zt.1 2) 0) ?_
          refine ev_putI (pc := 206) dX11_readBook_206 fX11_149 rfl (wlt (wf_sI hw) (by decide)) ?_
          refine ev_eqH (h' := sI zg 49 (upd (upd (upd (zg.2.1 49) 3 3) 4 (zg.2.1 49 6)) 26 (nI ((zt.1 2) + 0)))) (by exact sI_sI _ _ _ _) ?_
          refine ev_ret (pc := 209) dX11_readBook_209 rfl ?_
          · have hB : (bokB zb zn zs zq zt).1 = (3, tS zb zn zp) := by
              unfold bokB
              exact (ck_0 (by exact (if_neg (by omega)))).trans (by rw [← hE]; rw [bkF4, if_pos zK2, if_neg zO])
            exact ⟨rfl, RB_bad (FrM_49 hF (fun zj hj => by simp only [upd]; (repeat' split) <;> first | rfl | (exfalso; unfold pFz at hj; omega))) hB (by decide) rfl hL.2.1⟩
        · -- ge at 21: not taken
          refine ev_aload_n (pc := 24) dX11_readBook_24 rfl ?_
          refine ev_getI (pc := 25) dX11_readBook_25 fX11_100 rfl (wlt (wf_sI hw) (by decide)) ?_
          refine ev_eqI (e' := 3) (by rfl) ?_
          refine ev_if_ne (pc := 28) (tgt := 188) dX11_readBook_28 (by decide) (fun zc28 => ?_) (fun zc28 => absurd zc28 (show ¬ (3 : Int32) = 0 by decide))
          refine ev_aload_n (pc := 188) dX11_readBook_188 rfl ?_
          refine ev_dup (pc := 189) dX11_readBook_189 rfl ?_
          refine ev_getI (pc := 190) dX11_readBook_190 fX11_149 rfl (wlt (wf_sI hw) (by decide)) ?_
          refine ev_eqI (e' := zg.2.1 49 26) (by rfl) ?_
          refine ev_eqI (e' := nI (zt.1 2)) hv.2.1 ?_
          refine ev_aload_n (pc := 193) dX11_readBook_193 rfl ?_
          refine ev_getI (pc := 194) dX11_readBook_194 fX11_100 rfl (wlt (wf_sI hw) (by decide)) ?_
          refine ev_eqI (e' := 3) (by rfl) ?_
          refine ev_if_ne (pc := 197) (tgt := 204) dX11_readBook_197 (by decide) (fun zc197 => ?_) (fun zc197 => absurd zc197 (show ¬ (3 : Int32) = 0 by decide))
          refine ev_iconst (pc := 204) (v := 0) dX11_readBook_204 (by decide) ?_
          refine ev_iadd (pc := 205) dX11_readBook_205 ?_
          refine ev_eqI (e' := nI ((zt.1 2) + 0)) (nI_add (zt.1 2) 0) ?_
          refine ev_putI (pc := 206) dX11_readBook_206 fX11_149 rfl (wlt (wf_sI hw) (by decide)) ?_
          refine ev_eqH (h' := sI zg 49 (upd (upd (upd (zg.2.1 49) 3 3) 4 (zg.2.1 49 6)) 26 (nI ((zt.1 2) + 0)))) (by exact sI_sI _ _ _ _) ?_
          refine ev_ret (pc := 209) dX11_readBook_209 rfl ?_
          · have hB : (bokB zb zn zs zq zt).1 = (3, tS zb zn zp) := by
              unfold bokB
              exact (ck_0 (by exact (if_neg (by omega)))).trans (by rw [← hE]; rw [bkF4, if_pos zK2, if_neg zO])
            exact ⟨rfl, RB_bad (FrM_49 hF (fun zj hj => by simp only [upd]; (repeat' split) <;> first | rfl | (exfalso; unfold pFz at hj; omega))) hB (by decide) rfl hL.2.1⟩
      · -- ne at 54: not taken
        refine ev_iconst (pc := 57) (v := 1) dX11_readBook_57 (by decide) ?_
        refine ev_goto (pc := 58) (tgt := 62) dX11_readBook_58 (by decide) ?_
        refine ev_istore_n (pc := 62) (L' := [some (.ref 49), some (.int (nI zr)), some (.int 1), none, none]) dX11_readBook_62 (Nat.le_of_ble_eq_true rfl) rfl ?_
        refine ev_iconst (pc := 63) (v := 0) dX11_readBook_63 (by decide) ?_
        refine ev_istore_n (pc := 64) (L' := [some (.ref 49), some (.int (nI zr)), some (.int 1), some (.int 0), none]) dX11_readBook_64 (Nat.le_of_ble_eq_true rfl) rfl ?_
        have zl4 : tE zb zn zp = (tS zb zn zp) + 4 := by
          have z1 := (nI_eq (a := tE zb zn zp - (tS zb zn zp)) (b := 4) (by omega) (by decide)).mp zc54
          omega
        refine ev_eqH (sI_id zg 63).symm ?_
        refine lp_book_65 E zg zb zn zp zr zt hw hT hL hk0 hp hv (by omega) hb zl4 (fun zJ => ?_) (fun zx zN => ?_) 4 0 (by decide) (fun zj hj => absurd hj (Nat.not_lt_zero _))
        · have zO := bkO_iff.mpr ⟨zl4, zJ⟩
          refine ev_aload_n (pc := 162) dX11_readBook_162 rfl ?_
          refine ev_getI (pc := 163) dX11_readBook_163 fX11_100 rfl (wlt (wf_sI hw) (by decide)) ?_
          refine ev_eqI (e' := zg.2.1 49 3) (by rfl) ?_
          refine ev_if_ne (pc := 166) (tgt := 178) dX11_readBook_166 (by decide) (fun zc166 => absurd (LA_w hL hk0) zc166) (fun zc166 => ?_)
          refine ev_iload_n (pc := 169) dX11_readBook_169 rfl ?_
          refine ev_if_ne (pc := 170) (tgt := 178) dX11_readBook_170 (by decide) (fun zc170 => ?_) (fun zc170 => absurd zc170 (by decide))
          refine ev_aload_n (pc := 178) dX11_readBook_178 rfl ?_
          have hp1 : (tE zb zn zp) ≤ zn := (tE_le zb hp).2
          refine ev_callV (S := []) (pc := 179) dX11_readBook_179 kX11_next lX11_137 vX11_next (cn_X11_next E (sI zg 63 (bwF (zg.2.1 63) zb (16 * zt.1 2 + 4 * zr) (tS zb zn zp) 4)) zb zn (tE zb zn zp) (wf_sI hw) hT (LA_w hL hk0) hL.1 hp1) rfl rfl (wlt (wf_sI hw) (by decide)) rfl rfl (Nat.le_of_ble_eq_true rfl) ⟨Nat.le_of_ble_eq_true rfl, Nat.le_of_ble_eq_true rfl⟩ ⟨Nat.le_of_ble_eq_true rfl, Nat.le_of_ble_eq_true rfl⟩ ?_
          rintro _ zg1 ⟨rfl, hs1, hL1⟩
          have wg1 := scE_w hs1 (wf_sI hw)
          have hT1 := scE_T (zb := zb) (zn := zn) hs1 hT
          have hv1 := scE_S (zt := zt) hs1 hv
          have hF1 := FrM_s (FrM_r hF (by decide) (by decide)) hs1
          by_cases zk1 : tK zb zn (tE zb zn zp) = 0
          · refine ev_iinc (pc := 182) (v := nI (zr + 1)) (L' := [some (.ref 49), some (.int (nI (zr + 1))), some (.int 1), none, none]) dX11_readBook_182 rfl (nI_1 _) (Nat.le_of_ble_eq_true rfl) rfl ?_
            refine ev_goto (pc := 185) (tgt := 19) dX11_readBook_185 (by decide) ?_
            refine ev_iload_n (pc := 19) dX11_readBook_19 rfl ?_
            refine ev_iconst (pc := 20) (v := 4) dX11_readBook_20 (by decide) ?_
            refine ev_icmp_ge (pc := 21) (tgt := 188) dX11_readBook_21 (by decide) (fun zc21 => ?_) (fun zc21 => ?_)
            · -- ge at 21: taken
              refine ev_aload_n (pc := 188) dX11_readBook_188 rfl ?_
              refine ev_dup (pc := 189) dX11_readBook_189 rfl ?_
              refine ev_getI (pc := 190) dX11_readBook_190 fX11_149 rfl (wlt wg1 (by decide)) ?_
              refine ev_eqI (e' := nI (zt.1 2)) hv1.2.1 ?_
              refine ev_aload_n (pc := 193) dX11_readBook_193 rfl ?_
              refine ev_getI (pc := 194) dX11_readBook_194 fX11_100 rfl (wlt wg1 (by decide)) ?_
              refine ev_if_ne (pc := 197) (tgt := 204) dX11_readBook_197 (by decide) (fun zc197 => ?_) (fun zc197 => absurd zc197 (LA_b hL1 zk1))
              refine ev_iconst (pc := 204) (v := 0) dX11_readBook_204 (by decide) ?_
              refine ev_iadd (pc := 205) dX11_readBook_205 ?_
              refine ev_eqI (e' := nI ((zt.1 2) + 0)) (nI_add (zt.1 2) 0) ?_
              refine ev_putI (pc := 206) dX11_readBook_206 fX11_149 rfl (wlt wg1 (by decide)) ?_
              refine ev_eqH (h' := sI zg1 49 (upd (zg1.2.1 49) 26 (nI ((zt.1 2) + 0)))) (by rfl) ?_
              refine ev_ret (pc := 209) dX11_readBook_209 rfl ?_
              · have hB : (bokB zb zn zs zq zt).1 = (wrK zb zn (tE zb zn zp), tS zb zn (tE zb zn zp)) := by
                  unfold bokB
                  exact (ck_0 (by exact (if_neg (by omega)))).trans (by rw [← hE]; rw [bkF4, if_pos zK2, if_pos zO, bk_w zk1])
                exact ⟨rfl, RB_bad (FrM_49 hF1 (fun zj hj => by simp only [upd]; (repeat' split) <;> first | rfl | (exfalso; unfold pFz at hj; omega))) hB (by rw [wr_1 zk1]; decide) hL1.2.2.2.2.1 (hL1.2.2.2.2.2 zk1)⟩
            · -- ge at 21: not taken
              refine ev_aload_n (pc := 24) dX11_readBook_24 rfl ?_
              refine ev_getI (pc := 25) dX11_readBook_25 fX11_100 rfl (wlt wg1 (by decide)) ?_
              refine ev_if_ne (pc := 28) (tgt := 188) dX11_readBook_28 (by decide) (fun zc28 => ?_) (fun zc28 => absurd zc28 (LA_b hL1 zk1))
              refine ev_aload_n (pc := 188) dX11_readBook_188 rfl ?_
              refine ev_dup (pc := 189) dX11_readBook_189 rfl ?_
              refine ev_getI (pc := 190) dX11_readBook_190 fX11_149 rfl (wlt wg1 (by decide)) ?_
              refine ev_eqI (e' := nI (zt.1 2)) hv1.2.1 ?_
              refine ev_aload_n (pc := 193) dX11_readBook_193 rfl ?_
              refine ev_getI (pc := 194) dX11_readBook_194 fX11_100 rfl (wlt wg1 (by decide)) ?_
              refine ev_if_ne (pc := 197) (tgt := 204) dX11_readBook_197 (by decide) (fun zc197 => ?_) (fun zc197 => absurd zc197 (LA_b hL1 zk1))
              refine ev_iconst (pc := 204) (v := 0) dX11_readBook_204 (by decide) ?_
              refine ev_iadd (pc := 205) dX11_readBook_205 ?_
              refine ev_eqI (e' := nI ((zt.1 2) + 0)) (nI_add (zt.1 2) 0) ?_
              refine ev_putI (pc := 206) dX11_readBook_206 fX11_149 rfl (wlt wg1 (by decide)) ?_
              refine ev_eqH (h' := sI zg1 49 (upd (zg1.2.1 49) 26 (nI ((zt.1 2) + 0)))) (by rfl) ?_
              refine ev_ret (pc := 209) dX11_readBook_209 rfl ?_
              · have hB : (bokB zb zn zs zq zt).1 = (wrK zb zn (tE zb zn zp), tS zb zn (tE zb zn zp)) := by
                  unfold bokB
                  exact (ck_0 (by exact (if_neg (by omega)))).trans (by rw [← hE]; rw [bkF4, if_pos zK2, if_pos zO, bk_w zk1])
                exact ⟨rfl, RB_bad (FrM_49 hF1 (fun zj hj => by simp only [upd]; (repeat' split) <;> first | rfl | (exfalso; unfold pFz at hj; omega))) hB (by rw [wr_1 zk1]; decide) hL1.2.2.2.2.1 (hL1.2.2.2.2.2 zk1)⟩
          · refine ev_iinc (pc := 182) (v := nI (zr + 1)) (L' := [some (.ref 49), some (.int (nI (zr + 1))), some (.int 1), none, none]) dX11_readBook_182 rfl (nI_1 _) (Nat.le_of_ble_eq_true rfl) rfl ?_
            refine ev_goto (pc := 185) (tgt := 19) dX11_readBook_185 (by decide) ?_
            refine ev_less (L' := [some (.ref 49), some (.int (nI (zr + 1))), none, none, none]) (ls_keep (ls_keep (ls_drop (ls_keep (ls_keep (ls_nil _)))))) ?_
            refine ih (zr + 1) (tE zb zn zp) _ zg1 wg1 hT1 hL1 zk1 hp1 hv1 hF1 (scE_B hs1 (PB_4 hP)) (by omega) ?_
            rw [bkF4, if_pos zK2, if_pos zO] at hE
            rw [show 16 * zt.1 2 + 4 * (zr + 1) = 16 * zt.1 2 + 4 * zr + 4 by omega]
            exact hE
        · have zO : ¬ bkO zb zn zp = true := fun z => zN (bkO_iff.mp z).2
          refine ev_aload_n (pc := 162) dX11_readBook_162 rfl ?_
          refine ev_getI (pc := 163) dX11_readBook_163 fX11_100 rfl (wlt (wf_sI hw) (by decide)) ?_
          refine ev_eqI (e' := zg.2.1 49 3) (by rfl) ?_
          refine ev_if_ne (pc := 166) (tgt := 178) dX11_readBook_166 (by decide) (fun zc166 => absurd (LA_w hL hk0) zc166) (fun zc166 => ?_)
          refine ev_iload_n (pc := 169) dX11_readBook_169 rfl ?_
          refine ev_if_ne (pc := 170) (tgt := 178) dX11_readBook_170 (by decide) (fun zc170 => absurd rfl zc170) (fun zc170 => ?_)
          refine ev_aload_n (pc := 173) dX11_readBook_173 rfl ?_
          refine ev_iconst (pc := 174) (v := 3) dX11_readBook_174 (by decide) ?_
          refine ev_callV0 (S := []) (pc := 175) dX11_readBook_175 kX11_fails lX11_130 vX11_fails (cn_fails0 E (sI zg 63 zx) 3 (wf_sI hw) (LA_w hL hk0)) rfl rfl (wlt (wf_sI hw) (by decide)) rfl rfl (Nat.le_of_ble_eq_true rfl) ⟨Nat.le_of_ble_eq_true rfl, Nat.le_of_ble_eq_true rfl⟩ ⟨Nat.le_of_ble_eq_true rfl, Nat.le_of_ble_eq_true rfl⟩ ?_
          refine ev_eqH (h' := sI (sI zg 63 zx) 49 (upd (upd (zg.2.1 49) 3 3) 4 (zg.2.1 49 6))) (by first | exact (sI_sI _ _ _ _).trans rfl | rfl) ?_
          refine ev_aload_n (pc := 178) dX11_readBook_178 rfl ?_
          refine ev_callV0 (S := []) (pc := 179) dX11_readBook_179 kX11_next lX11_137 vX11_next (cn_X11_nextW E (sI (sI zg 63 zx) 49 (upd (upd (zg.2.1 49) 3 3) 4 (zg.2.1 49 6))) (wf_sI (wf_sI hw)) (show (0 : Int32) < 3 by decide)) rfl rfl (wlt (wf_sI (wf_sI hw)) (by decide)) rfl rfl (Nat.le_of_ble_eq_true rfl) ⟨Nat.le_of_ble_eq_true rfl, Nat.le_of_ble_eq_true rfl⟩ ⟨Nat.le_of_ble_eq_true rfl, Nat.le_of_ble_eq_true rfl⟩ ?_
          refine ev_iinc (pc := 182) (v := nI (zr + 1)) (L' := [some (.ref 49), some (.int (nI (zr + 1))), some (.int 0), none, none]) dX11_readBook_182 rfl (nI_1 _) (Nat.le_of_ble_eq_true rfl) rfl ?_
          refine ev_goto (pc := 185) (tgt := 19) dX11_readBook_185 (by decide) ?_
          refine ev_iload_n (pc := 19) dX11_readBook_19 rfl ?_
          refine ev_iconst (pc := 20) (v := 4) dX11_readBook_20 (by decide) ?_
          refine ev_icmp_ge (pc := 21) (tgt := 188) dX11_readBook_21 (by decide) (fun zc21 => ?_) (fun zc21 => ?_)
          · -- ge at 21: taken
            refine ev_aload_n (pc := 188) dX11_readBook_188 rfl ?_
            refine ev_dup (pc := 189) dX11_readBook_189 rfl ?_
            refine ev_getI (pc := 190) dX11_readBook_190 fX11_149 rfl (wlt (wf_sI (wf_sI hw)) (by decide)) ?_
            refine ev_eqI (e' := zg.2.1 49 26) (by rfl) ?_
            refine ev_eqI (e' := nI (zt.1 2)) hv.2.1 ?_
            refine ev_aload_n (pc := 193) dX11_readBook_193 rfl ?_
            refine ev_getI (pc := 194) dX11_readBook_194 fX11_100 rfl (wlt (wf_sI (wf_sI hw)) (by decide)) ?_
            refine ev_eqI (e' := 3) (by rfl) ?_
            refine ev_if_ne (pc := 197) (tgt := 204) dX11_readBook_197 (by decide) (fun zc197 => ?_) (fun zc197 => absurd zc197 (show ¬ (3 : Int32) = 0 by decide))
            refine ev_iconst (pc := 204) (v := 0) dX11_readBook_204 (by decide) ?_
            refine ev_iadd (pc := 205) dX11_readBook_205 ?_
            refine ev_eqI (e' := nI ((zt.1 2) + 0)) (nI_add (zt.1 2) 0) ?_
            refine ev_putI (pc := 206) dX11_readBook_206 fX11_149 rfl (wlt (wf_sI (wf_sI hw)) (by decide)) ?_
            refine ev_eqH (h' := sI (sI zg 63 zx) 49 (upd (upd (upd (zg.2.1 49) 3 3) 4 (zg.2.1 49 6)) 26 (nI ((zt.1 2) + 0)))) (by exact sI_sI _ _ _ _) ?_
            refine ev_ret (pc := 209) dX11_readBook_209 rfl ?_
            · have hB : (bokB zb zn zs zq zt).1 = (3, tS zb zn zp) := by
                unfold bokB
                exact (ck_0 (by exact (if_neg (by omega)))).trans (by rw [← hE]; rw [bkF4, if_pos zK2, if_neg zO])
              exact ⟨rfl, RB_bad (FrM_49 (FrM_r hF (by decide) (by decide)) (fun zj hj => by simp only [upd]; (repeat' split) <;> first | rfl | (exfalso; unfold pFz at hj; omega))) hB (by decide) rfl hL.2.1⟩
          · -- ge at 21: not taken
            refine ev_aload_n (pc := 24) dX11_readBook_24 rfl ?_
            refine ev_getI (pc := 25) dX11_readBook_25 fX11_100 rfl (wlt (wf_sI (wf_sI hw)) (by decide)) ?_
            refine ev_eqI (e' := 3) (by rfl) ?_
            refine ev_if_ne (pc := 28) (tgt := 188) dX11_readBook_28 (by decide) (fun zc28 => ?_) (fun zc28 => absurd zc28 (show ¬ (3 : Int32) = 0 by decide))
            refine ev_aload_n (pc := 188) dX11_readBook_188 rfl ?_
            refine ev_dup (pc := 189) dX11_readBook_189 rfl ?_
            refine ev_getI (pc := 190) dX11_readBook_190 fX11_149 rfl (wlt (wf_sI (wf_sI hw)) (by decide)) ?_
            refine ev_eqI (e' := zg.2.1 49 26) (by rfl) ?_
            refine ev_eqI (e' := nI (zt.1 2)) hv.2.1 ?_
            refine ev_aload_n (pc := 193) dX11_readBook_193 rfl ?_
            refine ev_getI (pc := 194) dX11_readBook_194 fX11_100 rfl (wlt (wf_sI (wf_sI hw)) (by decide)) ?_
            refine ev_eqI (e' := 3) (by rfl) ?_
            refine ev_if_ne (pc := 197) (tgt := 204) dX11_readBook_197 (by decide) (fun zc197 => ?_) (fun zc197 => absurd zc197 (show ¬ (3 : Int32) = 0 by decide))
            refine ev_iconst (pc := 204) (v := 0) dX11_readBook_204 (by decide) ?_
            refine ev_iadd (pc := 205) dX11_readBook_205 ?_
            refine ev_eqI (e' := nI ((zt.1 2) + 0)) (nI_add (zt.1 2) 0) ?_
            refine ev_putI (pc := 206) dX11_readBook_206 fX11_149 rfl (wlt (wf_sI (wf_sI hw)) (by decide)) ?_
            refine ev_eqH (h' := sI (sI zg 63 zx) 49 (upd (upd (upd (zg.2.1 49) 3 3) 4 (zg.2.1 49 6)) 26 (nI ((zt.1 2) + 0)))) (by exact sI_sI _ _ _ _) ?_
            refine ev_ret (pc := 209) dX11_readBook_209 rfl ?_
            · have hB : (bokB zb zn zs zq zt).1 = (3, tS zb zn zp) := by
                unfold bokB
                exact (ck_0 (by exact (if_neg (by omega)))).trans (by rw [← hE]; rw [bkF4, if_pos zK2, if_neg zO])
              exact ⟨rfl, RB_bad (FrM_49 (FrM_r hF (by decide) (by decide)) (fun zj hj => by simp only [upd]; (repeat' split) <;> first | rfl | (exfalso; unfold pFz at hj; omega))) hB (by decide) rfl hL.2.1⟩
    · -- eq at 36: not taken
      refine ev_aload_n (pc := 39) dX11_readBook_39 rfl ?_
      refine ev_iconst (pc := 40) (v := 2) dX11_readBook_40 (by decide) ?_
      refine ev_callV0 (S := []) (pc := 41) dX11_readBook_41 kX11_fails lX11_130 vX11_fails (cn_fails0 E zg 2 hw (LA_w hL hk0)) rfl rfl (wlt hw (by decide)) rfl rfl (Nat.le_of_ble_eq_true rfl) ⟨Nat.le_of_ble_eq_true rfl, Nat.le_of_ble_eq_true rfl⟩ ⟨Nat.le_of_ble_eq_true rfl, Nat.le_of_ble_eq_true rfl⟩ ?_
      refine ev_eqH (h' := sI zg 49 (upd (upd (zg.2.1 49) 3 2) 4 (zg.2.1 49 6))) (by first | exact (sI_sI _ _ _ _).trans rfl | rfl) ?_
      skip
      refine ev_aload_n (pc := 44) dX11_readBook_44 rfl ?_
      refine ev_getI (pc := 45) dX11_readBook_45 fX11_109 rfl (wlt (wf_sI hw) (by decide)) ?_
      refine ev_eqI (e' := zg.2.1 49 5) (by rfl) ?_
      refine ev_eqI (e' := nI (tE zb zn zp)) hL.1 ?_
      refine ev_aload_n (pc := 48) dX11_readBook_48 rfl ?_
      refine ev_getI (pc := 49) dX11_readBook_49 fX11_103 rfl (wlt (wf_sI hw) (by decide)) ?_
      refine ev_eqI (e' := zg.2.1 49 6) (by rfl) ?_
      refine ev_eqI (e' := nI (tS zb zn zp)) hL.2.1 ?_
      refine ev_isub (pc := 52) dX11_readBook_52 ?_
      refine ev_eqI (e' := nI ((tE zb zn zp) - (tS zb zn zp))) (pk_sub (a := tE zb zn zp) (b := tS zb zn zp) (by omega)) ?_
      refine ev_iconst (pc := 53) (v := 4) dX11_readBook_53 (by decide) ?_
      refine ev_icmp_ne (pc := 54) (tgt := 61) dX11_readBook_54 (by decide) (fun zc54 => ?_) (fun zc54 => ?_)
      · -- ne at 54: taken
        refine ev_iconst (pc := 61) (v := 0) dX11_readBook_61 (by decide) ?_
        refine ev_istore_n (pc := 62) (L' := [some (.ref 49), some (.int (nI zr)), some (.int 0), none, none]) dX11_readBook_62 (Nat.le_of_ble_eq_true rfl) rfl ?_
        refine ev_iconst (pc := 63) (v := 0) dX11_readBook_63 (by decide) ?_
        refine ev_istore_n (pc := 64) (L' := [some (.ref 49), some (.int (nI zr)), some (.int 0), some (.int 0), none]) dX11_readBook_64 (Nat.le_of_ble_eq_true rfl) rfl ?_
        refine ev_iload_n (pc := 65) dX11_readBook_65 rfl ?_
        refine ev_iconst (pc := 66) (v := 4) dX11_readBook_66 (by decide) ?_
        refine ev_icmp_ge (pc := 67) (tgt := 162) dX11_readBook_67 (by decide) (fun zc67 => absurd zc67 (by decide)) (fun zc67 => ?_)
        refine ev_aload_n (pc := 70) dX11_readBook_70 rfl ?_
        refine ev_getI (pc := 71) dX11_readBook_71 fX11_100 rfl (wlt (wf_sI hw) (by decide)) ?_
        refine ev_eqI (e' := 2) (by rfl) ?_
        refine ev_if_ne (pc := 74) (tgt := 162) dX11_readBook_74 (by decide) (fun zc74 => ?_) (fun zc74 => absurd zc74 (show ¬ (2 : Int32) = 0 by decide))
        refine ev_aload_n (pc := 162) dX11_readBook_162 rfl ?_
        refine ev_getI (pc := 163) dX11_readBook_163 fX11_100 rfl (wlt (wf_sI hw) (by decide)) ?_
        refine ev_eqI (e' := 2) (by rfl) ?_
        refine ev_if_ne (pc := 166) (tgt := 178) dX11_readBook_166 (by decide) (fun zc166 => ?_) (fun zc166 => absurd zc166 (show ¬ (2 : Int32) = 0 by decide))
        refine ev_aload_n (pc := 178) dX11_readBook_178 rfl ?_
        refine ev_callV0 (S := []) (pc := 179) dX11_readBook_179 kX11_next lX11_137 vX11_next (cn_X11_nextW E (sI zg 49 (upd (upd (zg.2.1 49) 3 2) 4 (zg.2.1 49 6))) (wf_sI hw) (show (0 : Int32) < 2 by decide)) rfl rfl (wlt (wf_sI hw) (by decide)) rfl rfl (Nat.le_of_ble_eq_true rfl) ⟨Nat.le_of_ble_eq_true rfl, Nat.le_of_ble_eq_true rfl⟩ ⟨Nat.le_of_ble_eq_true rfl, Nat.le_of_ble_eq_true rfl⟩ ?_
        refine ev_iinc (pc := 182) (v := nI (zr + 1)) (L' := [some (.ref 49), some (.int (nI (zr + 1))), some (.int 0), some (.int 0), none]) dX11_readBook_182 rfl (nI_1 _) (Nat.le_of_ble_eq_true rfl) rfl ?_
        refine ev_goto (pc := 185) (tgt := 19) dX11_readBook_185 (by decide) ?_
        refine ev_iload_n (pc := 19) dX11_readBook_19 rfl ?_
        refine ev_iconst (pc := 20) (v := 4) dX11_readBook_20 (by decide) ?_
        refine ev_icmp_ge (pc := 21) (tgt := 188) dX11_readBook_21 (by decide) (fun zc21 => ?_) (fun zc21 => ?_)
        · -- ge at 21: taken
          refine ev_aload_n (pc := 188) dX11_readBook_188 rfl ?_
          refine ev_dup (pc := 189) dX11_readBook_189 rfl ?_
          refine ev_getI (pc := 190) dX11_readBook_190 fX11_149 rfl (wlt (wf_sI hw) (by decide)) ?_
          refine ev_eqI (e' := zg.2.1 49 26) (by rfl) ?_
          refine ev_eqI (e' := nI (zt.1 2)) hv.2.1 ?_
          refine ev_aload_n (pc := 193) dX11_readBook_193 rfl ?_
          refine ev_getI (pc := 194) dX11_readBook_194 fX11_100 rfl (wlt (wf_sI hw) (by decide)) ?_
          refine ev_eqI (e' := 2) (by rfl) ?_
          refine ev_if_ne (pc := 197) (tgt := 204) dX11_readBook_197 (by decide) (fun zc197 => ?_) (fun zc197 => absurd zc197 (show ¬ (2 : Int32) = 0 by decide))
          refine ev_iconst (pc := 204) (v := 0) dX11_readBook_204 (by decide) ?_
          refine ev_iadd (pc := 205) dX11_readBook_205 ?_
          refine ev_eqI (e' := nI ((zt.1 2) + 0)) (nI_add (zt.1 2) 0) ?_
          refine ev_putI (pc := 206) dX11_readBook_206 fX11_149 rfl (wlt (wf_sI hw) (by decide)) ?_
          refine ev_eqH (h' := sI zg 49 (upd (upd (upd (zg.2.1 49) 3 2) 4 (zg.2.1 49 6)) 26 (nI ((zt.1 2) + 0)))) (by exact sI_sI _ _ _ _) ?_
          refine ev_ret (pc := 209) dX11_readBook_209 rfl ?_
          · have hB : (bokB zb zn zs zq zt).1 = (2, tS zb zn zp) := by
              unfold bokB
              exact (ck_0 (by exact (if_neg (by omega)))).trans (by rw [← hE]; rw [bkF4, if_neg (fun z => zc36 ((LA_3 (zk := 1) hL hk0 (by decide)).mpr z)), if_neg hk0])
            exact ⟨rfl, RB_bad (FrM_49 hF (fun zj hj => by simp only [upd]; (repeat' split) <;> first | rfl | (exfalso; unfold pFz at hj; omega))) hB (by decide) rfl hL.2.1⟩
        · -- ge at 21: not taken
          refine ev_aload_n (pc := 24) dX11_readBook_24 rfl ?_
          refine ev_getI (pc := 25) dX11_readBook_25 fX11_100 rfl (wlt (wf_sI hw) (by decide)) ?_
          refine ev_eqI (e' := 2) (by rfl) ?_
          refine ev_if_ne (pc := 28) (tgt := 188) dX11_readBook_28 (by decide) (fun zc28 => ?_) (fun zc28 => absurd zc28 (show ¬ (2 : Int32) = 0 by decide))
          refine ev_aload_n (pc := 188) dX11_readBook_188 rfl ?_
          refine ev_dup (pc := 189) dX11_readBook_189 rfl ?_
          refine ev_getI (pc := 190) dX11_readBook_190 fX11_149 rfl (wlt (wf_sI hw) (by decide)) ?_
          refine ev_eqI (e' := zg.2.1 49 26) (by rfl) ?_
          refine ev_eqI (e' := nI (zt.1 2)) hv.2.1 ?_
          refine ev_aload_n (pc := 193) dX11_readBook_193 rfl ?_
          refine ev_getI (pc := 194) dX11_readBook_194 fX11_100 rfl (wlt (wf_sI hw) (by decide)) ?_
          refine ev_eqI (e' := 2) (by rfl) ?_
          refine ev_if_ne (pc := 197) (tgt := 204) dX11_readBook_197 (by decide) (fun zc197 => ?_) (fun zc197 => absurd zc197 (show ¬ (2 : Int32) = 0 by decide))
          refine ev_iconst (pc := 204) (v := 0) dX11_readBook_204 (by decide) ?_
          refine ev_iadd (pc := 205) dX11_readBook_205 ?_
          refine ev_eqI (e' := nI ((zt.1 2) + 0)) (nI_add (zt.1 2) 0) ?_
          refine ev_putI (pc := 206) dX11_readBook_206 fX11_149 rfl (wlt (wf_sI hw) (by decide)) ?_
          refine ev_eqH (h' := sI zg 49 (upd (upd (upd (zg.2.1 49) 3 2) 4 (zg.2.1 49 6)) 26 (nI ((zt.1 2) + 0)))) (by exact sI_sI _ _ _ _) ?_
          refine ev_ret (pc := 209) dX11_readBook_209 rfl ?_
          · have hB : (bokB zb zn zs zq zt).1 = (2, tS zb zn zp) := by
              unfold bokB
              exact (ck_0 (by exact (if_neg (by omega)))).trans (by rw [← hE]; rw [bkF4, if_neg (fun z => zc36 ((LA_3 (zk := 1) hL hk0 (by decide)).mpr z)), if_neg hk0])
            exact ⟨rfl, RB_bad (FrM_49 hF (fun zj hj => by simp only [upd]; (repeat' split) <;> first | rfl | (exfalso; unfold pFz at hj; omega))) hB (by decide) rfl hL.2.1⟩
      · -- ne at 54: not taken
        refine ev_iconst (pc := 57) (v := 1) dX11_readBook_57 (by decide) ?_
        refine ev_goto (pc := 58) (tgt := 62) dX11_readBook_58 (by decide) ?_
        refine ev_istore_n (pc := 62) (L' := [some (.ref 49), some (.int (nI zr)), some (.int 1), none, none]) dX11_readBook_62 (Nat.le_of_ble_eq_true rfl) rfl ?_
        refine ev_iconst (pc := 63) (v := 0) dX11_readBook_63 (by decide) ?_
        refine ev_istore_n (pc := 64) (L' := [some (.ref 49), some (.int (nI zr)), some (.int 1), some (.int 0), none]) dX11_readBook_64 (Nat.le_of_ble_eq_true rfl) rfl ?_
        refine ev_iload_n (pc := 65) dX11_readBook_65 rfl ?_
        refine ev_iconst (pc := 66) (v := 4) dX11_readBook_66 (by decide) ?_
        refine ev_icmp_ge (pc := 67) (tgt := 162) dX11_readBook_67 (by decide) (fun zc67 => absurd zc67 (by decide)) (fun zc67 => ?_)
        refine ev_aload_n (pc := 70) dX11_readBook_70 rfl ?_
        refine ev_getI (pc := 71) dX11_readBook_71 fX11_100 rfl (wlt (wf_sI hw) (by decide)) ?_
        refine ev_eqI (e' := 2) (by rfl) ?_
        refine ev_if_ne (pc := 74) (tgt := 162) dX11_readBook_74 (by decide) (fun zc74 => ?_) (fun zc74 => absurd zc74 (show ¬ (2 : Int32) = 0 by decide))
        refine ev_aload_n (pc := 162) dX11_readBook_162 rfl ?_
        refine ev_getI (pc := 163) dX11_readBook_163 fX11_100 rfl (wlt (wf_sI hw) (by decide)) ?_
        refine ev_eqI (e' := 2) (by rfl) ?_
        refine ev_if_ne (pc := 166) (tgt := 178) dX11_readBook_166 (by decide) (fun zc166 => ?_) (fun zc166 => absurd zc166 (show ¬ (2 : Int32) = 0 by decide))
        refine ev_aload_n (pc := 178) dX11_readBook_178 rfl ?_
        refine ev_callV0 (S := []) (pc := 179) dX11_readBook_179 kX11_next lX11_137 vX11_next (cn_X11_nextW E (sI zg 49 (upd (upd (zg.2.1 49) 3 2) 4 (zg.2.1 49 6))) (wf_sI hw) (show (0 : Int32) < 2 by decide)) rfl rfl (wlt (wf_sI hw) (by decide)) rfl rfl (Nat.le_of_ble_eq_true rfl) ⟨Nat.le_of_ble_eq_true rfl, Nat.le_of_ble_eq_true rfl⟩ ⟨Nat.le_of_ble_eq_true rfl, Nat.le_of_ble_eq_true rfl⟩ ?_
        refine ev_iinc (pc := 182) (v := nI (zr + 1)) (L' := [some (.ref 49), some (.int (nI (zr + 1))), some (.int 1), some (.int 0), none]) dX11_readBook_182 rfl (nI_1 _) (Nat.le_of_ble_eq_true rfl) rfl ?_
        refine ev_goto (pc := 185) (tgt := 19) dX11_readBook_185 (by decide) ?_
        refine ev_iload_n (pc := 19) dX11_readBook_19 rfl ?_
        refine ev_iconst (pc := 20) (v := 4) dX11_readBook_20 (by decide) ?_
        refine ev_icmp_ge (pc := 21) (tgt := 188) dX11_readBook_21 (by decide) (fun zc21 => ?_) (fun zc21 => ?_)
        · -- ge at 21: taken
          refine ev_aload_n (pc := 188) dX11_readBook_188 rfl ?_
          refine ev_dup (pc := 189) dX11_readBook_189 rfl ?_
          refine ev_getI (pc := 190) dX11_readBook_190 fX11_149 rfl (wlt (wf_sI hw) (by decide)) ?_
          refine ev_eqI (e' := zg.2.1 49 26) (by rfl) ?_
          refine ev_eqI (e' := nI (zt.1 2)) hv.2.1 ?_
          refine ev_aload_n (pc := 193) dX11_readBook_193 rfl ?_
          refine ev_getI (pc := 194) dX11_readBook_194 fX11_100 rfl (wlt (wf_sI hw) (by decide)) ?_
          refine ev_eqI (e' := 2) (by rfl) ?_
          refine ev_if_ne (pc := 197) (tgt := 204) dX11_readBook_197 (by decide) (fun zc197 => ?_) (fun zc197 => absurd zc197 (show ¬ (2 : Int32) = 0 by decide))
          refine ev_iconst (pc := 204) (v := 0) dX11_readBook_204 (by decide) ?_
          refine ev_iadd (pc := 205) dX11_readBook_205 ?_
          refine ev_eqI (e' := nI ((zt.1 2) + 0)) (nI_add (zt.1 2) 0) ?_
          refine ev_putI (pc := 206) dX11_readBook_206 fX11_149 rfl (wlt (wf_sI hw) (by decide)) ?_
          refine ev_eqH (h' := sI zg 49 (upd (upd (upd (zg.2.1 49) 3 2) 4 (zg.2.1 49 6)) 26 (nI ((zt.1 2) + 0)))) (by exact sI_sI _ _ _ _) ?_
          refine ev_ret (pc := 209) dX11_readBook_209 rfl ?_
          · have hB : (bokB zb zn zs zq zt).1 = (2, tS zb zn zp) := by
              unfold bokB
              exact (ck_0 (by exact (if_neg (by omega)))).trans (by rw [← hE]; rw [bkF4, if_neg (fun z => zc36 ((LA_3 (zk := 1) hL hk0 (by decide)).mpr z)), if_neg hk0])
            exact ⟨rfl, RB_bad (FrM_49 hF (fun zj hj => by simp only [upd]; (repeat' split) <;> first | rfl | (exfalso; unfold pFz at hj; omega))) hB (by decide) rfl hL.2.1⟩
        · -- ge at 21: not taken
          refine ev_aload_n (pc := 24) dX11_readBook_24 rfl ?_
          refine ev_getI (pc := 25) dX11_readBook_25 fX11_100 rfl (wlt (wf_sI hw) (by decide)) ?_
          refine ev_eqI (e' := 2) (by rfl) ?_
          refine ev_if_ne (pc := 28) (tgt := 188) dX11_readBook_28 (by decide) (fun zc28 => ?_) (fun zc28 => absurd zc28 (show ¬ (2 : Int32) = 0 by decide))
          refine ev_aload_n (pc := 188) dX11_readBook_188 rfl ?_
          refine ev_dup (pc := 189) dX11_readBook_189 rfl ?_
          refine ev_getI (pc := 190) dX11_readBook_190 fX11_149 rfl (wlt (wf_sI hw) (by decide)) ?_
          refine ev_eqI (e' := zg.2.1 49 26) (by rfl) ?_
          refine ev_eqI (e' := nI (zt.1 2)) hv.2.1 ?_
          refine ev_aload_n (pc := 193) dX11_readBook_193 rfl ?_
          refine ev_getI (pc := 194) dX11_readBook_194 fX11_100 rfl (wlt (wf_sI hw) (by decide)) ?_
          refine ev_eqI (e' := 2) (by rfl) ?_
          refine ev_if_ne (pc := 197) (tgt := 204) dX11_readBook_197 (by decide) (fun zc197 => ?_) (fun zc197 => absurd zc197 (show ¬ (2 : Int32) = 0 by decide))
          refine ev_iconst (pc := 204) (v := 0) dX11_readBook_204 (by decide) ?_
          refine ev_iadd (pc := 205) dX11_readBook_205 ?_
          refine ev_eqI (e' := nI ((zt.1 2) + 0)) (nI_add (zt.1 2) 0) ?_
          refine ev_putI (pc := 206) dX11_readBook_206 fX11_149 rfl (wlt (wf_sI hw) (by decide)) ?_
          refine ev_eqH (h' := sI zg 49 (upd (upd (upd (zg.2.1 49) 3 2) 4 (zg.2.1 49 6)) 26 (nI ((zt.1 2) + 0)))) (by exact sI_sI _ _ _ _) ?_
          refine ev_ret (pc := 209) dX11_readBook_209 rfl ?_
          · have hB : (bokB zb zn zs zq zt).1 = (2, tS zb zn zp) := by
              unfold bokB
              exact (ck_0 (by exact (if_neg (by omega)))).trans (by rw [← hE]; rw [bkF4, if_neg (fun z => zc36 ((LA_3 (zk := 1) hL hk0 (by decide)).mpr z)), if_neg hk0])
            exact ⟨rfl, RB_bad (FrM_49 hF (fun zj hj => by simp only [upd]; (repeat' split) <;> first | rfl | (exfalso; unfold pFz at hj; omega))) hB (by decide) rfl hL.2.1⟩
theorem cn_X11_readBook (E : ME) (h : AH) (zb : Nat → Nat) (zn zp : Nat) (zt : PSt) (hw : WF h) (hT : TMz h zb zn) (hL : LAz zb zn zp h) (hk0 : ¬ tK zb zn zp = 0) (hp : zp ≤ zn) (hM : MSz zt h) (hO : POK zt) : Con E mX11_readBook 2 0 0 [.ref 49] h (fun r h' => r = none ∧ RBz zb zn (bokB zb zn (tS zb zn zp) (tE zb zn zp) zt) h h') := by
  refine con_of2 (L := [some (.ref 49), none, none, none, none]) rfl (Nat.le_of_ble_eq_true rfl) rfl ?_
  have zn4 := hT.2.1
  refine ev_aload_n (pc := 0) dX11_readBook_0 rfl ?_
  refine ev_getI (pc := 1) dX11_readBook_1 fX11_149 rfl (wlt hw (by decide)) ?_
  refine ev_eqI (e' := nI (zt.1 2)) hM.1.2.1 ?_
  refine ev_iconst (pc := 4) (v := 4) dX11_readBook_4 (by decide) ?_
  refine ev_icmp_ne (pc := 5) (tgt := 13) dX11_readBook_5 (by decide) (fun zc5 => ?_) (fun zc5 => ?_)
  · -- ne at 5: taken
    have zb4 : zt.1 2 < 4 := by
      have z1 := hO.2.1
      have z2 : zt.1 2 ≠ 4 := fun z => zc5 (by rw [z]; rfl)
      omega
    refine ev_aload_n (pc := 13) dX11_readBook_13 rfl ?_
    have hp1 : (tE zb zn zp) ≤ zn := (tE_le zb hp).2
    refine ev_callV (S := []) (pc := 14) dX11_readBook_14 kX11_next lX11_137 vX11_next (cn_X11_next E h zb zn (tE zb zn zp) hw hT (LA_w hL hk0) hL.1 hp1) rfl rfl (wlt hw (by decide)) rfl rfl (Nat.le_of_ble_eq_true rfl) ⟨Nat.le_of_ble_eq_true rfl, Nat.le_of_ble_eq_true rfl⟩ ⟨Nat.le_of_ble_eq_true rfl, Nat.le_of_ble_eq_true rfl⟩ ?_
    rintro _ zg1 ⟨rfl, hs1, hL1⟩
    have wg1 := scE_w hs1 hw
    have hT1 := scE_T (zb := zb) (zn := zn) hs1 hT
    have hv1 := scE_S (zt := zt) hs1 hM.1
    have hF1 := FrM_s (FrM_0 h) hs1
    by_cases zk1 : tK zb zn (tE zb zn zp) = 0
    · refine ev_iconst (pc := 17) (v := 0) dX11_readBook_17 (by decide) ?_
      refine ev_istore_n (pc := 18) (L' := [some (.ref 49), some (.int 0), none, none, none]) dX11_readBook_18 (Nat.le_of_ble_eq_true rfl) rfl ?_
      refine ev_iload_n (pc := 19) dX11_readBook_19 rfl ?_
      refine ev_iconst (pc := 20) (v := 4) dX11_readBook_20 (by decide) ?_
      refine ev_icmp_ge (pc := 21) (tgt := 188) dX11_readBook_21 (by decide) (fun zc21 => absurd zc21 (by decide)) (fun zc21 => ?_)
      refine ev_aload_n (pc := 24) dX11_readBook_24 rfl ?_
      refine ev_getI (pc := 25) dX11_readBook_25 fX11_100 rfl (wlt wg1 (by decide)) ?_
      refine ev_if_ne (pc := 28) (tgt := 188) dX11_readBook_28 (by decide) (fun zc28 => ?_) (fun zc28 => absurd zc28 (LA_b hL1 zk1))
      refine ev_aload_n (pc := 188) dX11_readBook_188 rfl ?_
      refine ev_dup (pc := 189) dX11_readBook_189 rfl ?_
      refine ev_getI (pc := 190) dX11_readBook_190 fX11_149 rfl (wlt wg1 (by decide)) ?_
      refine ev_eqI (e' := nI (zt.1 2)) hv1.2.1 ?_
      refine ev_aload_n (pc := 193) dX11_readBook_193 rfl ?_
      refine ev_getI (pc := 194) dX11_readBook_194 fX11_100 rfl (wlt wg1 (by decide)) ?_
      refine ev_if_ne (pc := 197) (tgt := 204) dX11_readBook_197 (by decide) (fun zc197 => ?_) (fun zc197 => absurd zc197 (LA_b hL1 zk1))
      refine ev_iconst (pc := 204) (v := 0) dX11_readBook_204 (by decide) ?_
      refine ev_iadd (pc := 205) dX11_readBook_205 ?_
      refine ev_eqI (e' := nI ((zt.1 2) + 0)) (nI_add (zt.1 2) 0) ?_
      refine ev_putI (pc := 206) dX11_readBook_206 fX11_149 rfl (wlt wg1 (by decide)) ?_
      refine ev_eqH (h' := sI zg1 49 (upd (zg1.2.1 49) 26 (nI ((zt.1 2) + 0)))) (by rfl) ?_
      refine ev_ret (pc := 209) dX11_readBook_209 rfl ?_
      · have hB : (bokB zb zn (tS zb zn zp) (tE zb zn zp) zt).1 = (wrK zb zn (tE zb zn zp), tS zb zn (tE zb zn zp)) := by
          unfold bokB
          exact (ck_0 (by exact (if_neg (by omega)))).trans (by rw [bk_w zk1])
        exact ⟨rfl, RB_bad (FrM_49 hF1 (fun zj hj => by simp only [upd]; (repeat' split) <;> first | rfl | (exfalso; unfold pFz at hj; omega))) hB (by rw [wr_1 zk1]; decide) hL1.2.2.2.2.1 (hL1.2.2.2.2.2 zk1)⟩
    · refine ev_iconst (pc := 17) (v := 0) dX11_readBook_17 (by decide) ?_
      refine ev_istore_n (pc := 18) (L' := [some (.ref 49), some (.int 0), none, none, none]) dX11_readBook_18 (Nat.le_of_ble_eq_true rfl) rfl ?_
      have hA1 := scE_A (zt := zt) hs1 hM.2
      have hP : PBz zt (zt.2 6) 0 zg1 := ⟨hA1.1, hA1.2.1, fun zk hk => hA1.2.2 zk (by omega)⟩
      exact lp_book_19 E h zb zn (tS zb zn zp) (tE zb zn zp) zt zb4 4 0 _ _ zg1 wg1 hT1 hL1 zk1 hp1 hv1 hF1 hP (by decide) rfl
  · -- ne at 5: not taken
    refine ev_aload_n (pc := 8) dX11_readBook_8 rfl ?_
    refine ev_iconst (pc := 9) (v := 5) dX11_readBook_9 (by decide) ?_
    refine ev_callV0 (S := []) (pc := 10) dX11_readBook_10 kX11_fails lX11_130 vX11_fails (cn_fails0 E h 5 hw (LA_w hL hk0)) rfl rfl (wlt hw (by decide)) rfl rfl (Nat.le_of_ble_eq_true rfl) ⟨Nat.le_of_ble_eq_true rfl, Nat.le_of_ble_eq_true rfl⟩ ⟨Nat.le_of_ble_eq_true rfl, Nat.le_of_ble_eq_true rfl⟩ ?_
    refine ev_eqH (h' := sI h 49 (upd (upd (h.2.1 49) 3 5) 4 (h.2.1 49 6))) (by first | exact (sI_sI _ _ _ _).trans rfl | rfl) ?_
    have zb4 := hO.2.1
    refine ev_aload_n (pc := 13) dX11_readBook_13 rfl ?_
    refine ev_callV0 (S := []) (pc := 14) dX11_readBook_14 kX11_next lX11_137 vX11_next (cn_X11_nextW E (sI h 49 (upd (upd (h.2.1 49) 3 5) 4 (h.2.1 49 6))) (wf_sI hw) (show (0 : Int32) < 5 by decide)) rfl rfl (wlt (wf_sI hw) (by decide)) rfl rfl (Nat.le_of_ble_eq_true rfl) ⟨Nat.le_of_ble_eq_true rfl, Nat.le_of_ble_eq_true rfl⟩ ⟨Nat.le_of_ble_eq_true rfl, Nat.le_of_ble_eq_true rfl⟩ ?_
    refine ev_iconst (pc := 17) (v := 0) dX11_readBook_17 (by decide) ?_
    refine ev_istore_n (pc := 18) (L' := [some (.ref 49), some (.int 0), none, none, none]) dX11_readBook_18 (Nat.le_of_ble_eq_true rfl) rfl ?_
    refine ev_iload_n (pc := 19) dX11_readBook_19 rfl ?_
    refine ev_iconst (pc := 20) (v := 4) dX11_readBook_20 (by decide) ?_
    refine ev_icmp_ge (pc := 21) (tgt := 188) dX11_readBook_21 (by decide) (fun zc21 => absurd zc21 (by decide)) (fun zc21 => ?_)
    refine ev_aload_n (pc := 24) dX11_readBook_24 rfl ?_
    refine ev_getI (pc := 25) dX11_readBook_25 fX11_100 rfl (wlt (wf_sI hw) (by decide)) ?_
    refine ev_eqI (e' := 5) (by rfl) ?_
    refine ev_if_ne (pc := 28) (tgt := 188) dX11_readBook_28 (by decide) (fun zc28 => ?_) (fun zc28 => absurd zc28 (show ¬ (5 : Int32) = 0 by decide))
    refine ev_aload_n (pc := 188) dX11_readBook_188 rfl ?_
    refine ev_dup (pc := 189) dX11_readBook_189 rfl ?_
    refine ev_getI (pc := 190) dX11_readBook_190 fX11_149 rfl (wlt (wf_sI hw) (by decide)) ?_
    refine ev_eqI (e' := h.2.1 49 26) (by rfl) ?_
    refine ev_eqI (e' := nI (zt.1 2)) hM.1.2.1 ?_
    refine ev_aload_n (pc := 193) dX11_readBook_193 rfl ?_
    refine ev_getI (pc := 194) dX11_readBook_194 fX11_100 rfl (wlt (wf_sI hw) (by decide)) ?_
    refine ev_eqI (e' := 5) (by rfl) ?_
    refine ev_if_ne (pc := 197) (tgt := 204) dX11_readBook_197 (by decide) (fun zc197 => ?_) (fun zc197 => absurd zc197 (show ¬ (5 : Int32) = 0 by decide))
    refine ev_iconst (pc := 204) (v := 0) dX11_readBook_204 (by decide) ?_
    refine ev_iadd (pc := 205) dX11_readBook_205 ?_
    refine ev_eqI (e' := nI ((zt.1 2) + 0)) (nI_add (zt.1 2) 0) ?_
    refine ev_putI (pc := 206) dX11_readBook_206 fX11_149 rfl (wlt (wf_sI hw) (by decide)) ?_
    refine ev_eqH (h' := sI h 49 (upd (upd (upd (h.2.1 49) 3 5) 4 (h.2.1 49 6)) 26 (nI ((zt.1 2) + 0)))) (by exact sI_sI _ _ _ _) ?_
    refine ev_ret (pc := 209) dX11_readBook_209 rfl ?_
    · have hB : (bokB zb zn (tS zb zn zp) (tE zb zn zp) zt).1 = (5, tS zb zn zp) := by
        unfold bokB
        exact (ck_1 (by show ¬ (if zt.1 2 = 4 then 5 else 0) = 0; rw [if_pos ((nI_eq (a := zt.1 2) (b := 4) (by omega) (by decide)).mp zc5)]; decide)).trans (by rw [if_pos ((nI_eq (a := zt.1 2) (b := 4) (by omega) (by decide)).mp zc5)])
      exact ⟨rfl, RB_bad (FrM_49 (FrM_0 h) (fun zj hj => by simp only [upd]; (repeat' split) <;> first | rfl | (exfalso; unfold pFz at hj; omega))) hB (by decide) rfl hL.2.1⟩
