def bcF (zf : Nat → Int32) (zb : Nat → Nat) (za zs : Nat) : Nat → Nat → Int32
  | 0 => zf
  | zk + 1 => upd (bcF zf zb za zs zk) (za + zk) (clC (bkC (zb (zs + zk))))
theorem bcF_4 {zf : Nat → Int32} {zb zg : Nat → Nat} {za zs : Nat} (H : ∀ zk, zk < za → zf zk = clC (zg zk)) : ∀ zk, zk < za + 4 → bcF zf zb za zs 4 zk = clC (bkU zb zg zs za zk) := by
  intro zk hk
  simp only [bcF, bkU, upd, upN, Nat.add_zero]
  by_cases h3 : zk = za + 3
  · simp [h3]
  by_cases h2 : zk = za + 2
  · simp [h2]
  by_cases h1 : zk = za + 1
  · simp [h1]
  by_cases h0 : zk = za
  · simp [h0]
  · simp only [h3, h2, h1, h0, if_false]
    exact H zk (by omega)
theorem bok_l (zb : Nat → Nat) (zn zs zp : Nat) (zt : PSt) {zF : (Nat × Nat) × Nat × (Nat → Nat)} (e : bkF4 zb zn 4 (16 * zt.1 2) zp (zt.2 6) = zF) : (lnE zb zn (bokB zb zn zs zp zt)).1 = ckN (if zt.1 2 = 4 then 5 else 0, zs) (ckN zF.1 (fkK zb zn zF.2.1 4, tS zb zn zF.2.1)) := by
  subst e
  exact ck_as _ _ _
def bkT (zt : PSt) (zc : Nat → Nat) : PSt := (upN zt.1 2 (zt.1 2 + 1), fun zk => if zk = 6 then zc else zt.2 zk)
theorem bok_r (zb : Nat → Nat) (zn zs zp : Nat) (zt : PSt) {zF : (Nat × Nat) × Nat × (Nat → Nat)} (e : bkF4 zb zn 4 (16 * zt.1 2) zp (zt.2 6) = zF) : (bokB zb zn zs zp zt).2 = (zF.2.1, bkT zt zF.2.2) := by
  subst e
  rfl
theorem bk_n {zb : Nat → Nat} {zn zf za zp : Nat} {zg : Nat → Nat} (h : ¬ tK zb zn zp = 2) : bkF4 zb zn (zf + 1) za zp zg = ((fkK zb zn zp 2, tS zb zn zp), zp, zg) := by rw [bkF4, if_neg h, fk_n h]
theorem bk_b {zb : Nat → Nat} {zn zf za zp : Nat} {zg : Nat → Nat} (h : tK zb zn zp = 2) (h2 : ¬ bkO zb zn zp = true) : bkF4 zb zn (zf + 1) za zp zg = ((3, tS zb zn zp), zp, zg) := by rw [bkF4, if_pos h, if_neg h2]
theorem bk_s {zb : Nat → Nat} {zn zf za zp : Nat} {zg : Nat → Nat} (h : tK zb zn zp = 2) (h2 : bkO zb zn zp = true) : bkF4 zb zn (zf + 1) za zp zg = bkF4 zb zn zf (za + 4) (tE zb zn zp) (bkU zb zg (tS zb zn zp) za) := by rw [bkF4, if_pos h, if_pos h2]
/-- all as in h but the reader's own things and the patterns' cells -/
def FrB (zq : Nat) (h g : AH) : Prop := g.1 = h.1 ∧ g.2.2 = h.2.2 ∧ (∀ zk, zk ≠ 1 → zk ≠ 19 → zk ≠ zq + 7 → g.2.1 zk = h.2.1 zk) ∧ g.2.1 1 1 = h.2.1 1 1
theorem FrB_0 (zq : Nat) (h : AH) : FrB zq h h := ⟨rfl, rfl, fun _ _ _ _ => rfl, rfl⟩
theorem FrB_T {zq : Nat} {h g k : AH} (h1 : FrB zq h g) (h2 : FrT g k) : FrB zq h k := ⟨h2.1.trans h1.1, h2.2.1.trans h1.2.1, fun zk a b c => (h2.2.2.1 zk a b).trans (h1.2.2.1 zk a b c), h2.2.2.2.trans h1.2.2.2⟩
theorem FrB_s {zq : Nat} {h g : AH} {zf : Nat → Int32} (hq : zq = 3 ∨ zq = 11) (h1 : FrB zq h g) : FrB zq h (sI g (zq + 7) zf) := ⟨h1.1, h1.2.1, fun zk a b c => (sI_ne g zf c).trans (h1.2.2.1 zk a b c), (congrFun (sI_ne g zf (by omega)) 1).trans h1.2.2.2⟩
theorem FrB_D {zq : Nat} {h g : AH} (h1 : FrB zq h g) : FrD zq h g := ⟨h1.1, h1.2.1, fun zk a b c => h1.2.2.1 zk a b (by omega), h1.2.2.2⟩
def bkH (h : AH) (zq zm : Nat) : AH := sI h zq (upd (h.2.1 zq) 8 (nI (zm + 1)))
theorem bk_fr {zq : Nat} (h : AH) (zm : Nat) (hq : zq = 3 ∨ zq = 11) : FrD zq h (bkH h zq zm) := FrD_s h hq (by omega) (by omega)
theorem SD_bok {zt : PSt} {zq : Nat} {h g : AH} {zc : Nat → Nat} (hS : SDz zt zq h) (hq : zq = 3 ∨ zq = 11) (hF : FrB zq h g) (H : ∀ zk, zk < 16 * zt.1 2 + 16 → g.2.1 (zq + 7) zk = clC (zc zk)) : SDz (bkT zt zc) zq (bkH g zq (zt.1 2)) := by
  obtain ⟨⟨y1, y2, y3, y4, y5, y6⟩, h10, h11, hb⟩ := hS
  have r0 : (bkH g zq (zt.1 2)).2.1 zq = upd (h.2.1 zq) 8 (nI (zt.1 2 + 1)) := by unfold bkH; rw [sI_at, hF.2.2.1 zq (by omega) (by omega) (by omega)]
  have rr : ∀ zk, 1 ≤ zk → zk < 7 → (bkH g zq (zt.1 2)).2.1 (zq + zk) = h.2.1 (zq + zk) := fun zk h1 h2 => by unfold bkH; rw [sI_ne _ _ (by omega), hF.2.2.1 _ (by omega) (by omega) (by omega)]
  have r7 : (bkH g zq (zt.1 2)).2.1 (zq + 7) = g.2.1 (zq + 7) := by unfold bkH; rw [sI_ne _ _ (by omega)]
  unfold SDz STz
  rw [r0, rr 1 (by omega) (by omega), rr 2 (by omega) (by omega), rr 3 (by omega) (by omega), rr 4 (by omega) (by omega), rr 5 (by omega) (by omega), rr 6 (by omega) (by omega), r7]
  refine ⟨⟨y1, rfl, y3, y4, y5, fun zk hk => ?_⟩, h10, h11, hb⟩
  have hk' : zk < 16 * (zt.1 2 + 1) := hk
  exact H zk (by omega)
theorem bkG_c {zc : Nat} (h1 : 97 ≤ zc ∧ zc ≤ 122) (hx : ¬ zc = 120) : bkG zc = true ↔ ((-1 : Int32) ≤ nI (zc - 97) ∧ nI (zc - 97) ≤ 5) := by
  have z1 : (-1 : Int32) ≤ nI (zc - 97) := by
    rw [i_le, nI_toInt (by omega)]
    have : (-1 : Int32).toInt = -1 := by decide
    omega
  have z2 : nI (zc - 97) ≤ 5 ↔ zc - 97 ≤ 5 := nI_leI (a := zc - 97) (b := 5) (by omega) (by decide)
  rw [bkG_iff, z2]
  refine ⟨fun z => ⟨z1, by omega⟩, fun z => by omega⟩
theorem clC_c {zc : Nat} (h1 : 97 ≤ zc ∧ zc ≤ 122) (hx : ¬ zc = 120) (hb : bkG zc = true) : clC (bkC zc) = nI (zc - 97) := by
  have z1 := bkG_iff.mp hb
  unfold clC bkC
  rw [if_neg hx, if_neg (by omega)]
theorem lp_prow_3 (E : ME) (h : AH) (zb : Nat → Nat) (zn zp zr zm : Nat) (hP : TPz zb zn (tE zb zn zp) h) (hp : zp ≤ zn) (h12 : h.2.1 1 2 = nI (tS zb zn zp)) (hk : tK zb zn zp = 2) (hr : h.2.2.2 19 1 = some 3) (h8 : h.2.1 3 8 = nI zm) (hm : zm < 4) (hrr : zr < 4) (hl : tE zb zn zp = tS zb zn zp + 4) : ∀ zf zk : Nat, zk + zf = 4 → (∀ zj, zj < zk → bkG (zb (tS zb zn zp + zj)) = true) → Ev E mX5_takePatternRow (rmm 2 0 0) (QM E 0 0 (fun r h' => (bkO zb zn zp = true ∧ r = some (.int 1) ∧ h' = sI h 10 (bcF (h.2.1 10) zb (16 * zm + 4 * zr) (tS zb zn zp) 4)) ∨ (¬ bkO zb zn zp = true ∧ r = some (.int 0) ∧ ∃ zf, h' = rfH (sI h 10 zf) 3))) 0 0 19 [some (.ref 19), some (.int (nI zr)), some (.int (nI zk)), none, none] [] (sI h 10 (bcF (h.2.1 10) zb (16 * zm + 4 * zr) (tS zb zn zp) zk)) := by
  have hn4 := hP.2.1.2.1
  have hEn := (tE_ok zb hp).2.1
  intro zf
  induction zf with
  | zero =>
    intro zk hz H
    obtain rfl : zk = 4 := by omega
    refine ev_iload_n (pc := 19) dX5_takePatternRow_19 rfl ?_
    refine ev_iconst (pc := 20) (v := 4) dX5_takePatternRow_20 (by decide) ?_
    refine ev_icmp_ge (pc := 21) (tgt := 85) dX5_takePatternRow_21 (by decide) (fun zc21 => ?_) (fun zc21 => absurd (by decide) zc21)
    refine ev_iconst (pc := 85) (v := 1) dX5_takePatternRow_85 (by decide) ?_
    refine ev_iret (pc := 86) dX5_takePatternRow_86 rfl ?_ ?_
    · first | rfl | exact nar_bI _ | (simp only [*]; exact nar_bI _) | (simp [narrow, *]; done)
    · exact Or.inl ⟨bkO_iff.mpr ⟨hl, H⟩, rfl, rfl⟩
  | succ zf ih =>
    intro zk hz H
    have hlt : zk < 4 := by omega
    have hw := wd_b hp hk (zj := tS zb zn zp + zk) (by omega) (by omega)
    have eb : h.2.1 2 (tS zb zn zp + zk) = nI (zb (tS zb zn zp + zk)) := by rw [(hP.2.1.2.2 _ (by omega)).1, sb_asc _ (by omega)]
    refine ev_iload_n (pc := 19) dX5_takePatternRow_19 rfl ?_
    refine ev_iconst (pc := 20) (v := 4) dX5_takePatternRow_20 (by decide) ?_
    refine ev_icmp_ge (pc := 21) (tgt := 85) dX5_takePatternRow_21 (by decide) (fun zc21 => absurd zc21 (nI_ge hlt (by decide))) (fun zc21 => ?_)
    refine ev_aload_n (pc := 24) dX5_takePatternRow_24 rfl ?_
    refine ev_getR (pc := 25) (q := 1) dX5_takePatternRow_25 fX5_9 rfl (wlt (wf_sI hP.1) (by decide)) (wr (wf_sI hP.1) rfl) ?_
    refine ev_iload_n (pc := 28) dX5_takePatternRow_28 rfl ?_
    refine ev_callVv (S := []) (pc := 29) dX5_takePatternRow_29 kX9_tokenByte lX5_128 vX9_tokenByte (cn_X9_tokenByte E (sI h 10 (bcF (h.2.1 10) zb (16 * zm + 4 * zr) (tS zb zn zp) zk)) (tS zb zn zp) (tE zb zn zp) zn zk (wf_sI hP.1) h12 hP.2.2.1 hP.2.1.1 hP.2.2.2 hP.2.1.2.1 (by omega)) rfl rfl (wlt (wf_sI hP.1) (by decide)) rfl rfl (Nat.le_of_ble_eq_true rfl) ⟨Nat.le_of_ble_eq_true rfl, Nat.le_of_ble_eq_true rfl⟩ ⟨Nat.le_of_ble_eq_true rfl, Nat.le_of_ble_eq_true rfl⟩ ?_
    refine ev_eqI (e' := nI (zb (tS zb zn zp + zk))) eb ?_
    refine ev_istore_n (pc := 32) (L' := [some (.ref 19), some (.int (nI zr)), some (.int (nI zk)), some (.int (nI (zb (tS zb zn zp + zk)))), none]) dX5_takePatternRow_32 (Nat.le_of_ble_eq_true rfl) rfl ?_
    refine ev_iload_n (pc := 33) dX5_takePatternRow_33 rfl ?_
    refine ev_bipush (pc := 34) (v := 120) dX5_takePatternRow_34 (by decide) ?_
    refine ev_icmp_ne (pc := 36) (tgt := 43) dX5_takePatternRow_36 (by decide) (fun zc36 => ?_) (fun zc36 => ?_)
    · -- ne at 36: taken
      refine ev_iload_n (pc := 43) dX5_takePatternRow_43 rfl ?_
      refine ev_bipush (pc := 44) (v := 97) dX5_takePatternRow_44 (by decide) ?_
      refine ev_isub (pc := 46) dX5_takePatternRow_46 ?_
      refine ev_eqI (e' := nI ((zb (tS zb zn zp + zk)) - 97)) (pk_sub hw.1) ?_
      refine ev_istore (pc := 47) (L' := [some (.ref 19), some (.int (nI zr)), some (.int (nI zk)), some (.int (nI (zb (tS zb zn zp + zk)))), some (.int (nI ((zb (tS zb zn zp + zk)) - 97)))]) dX5_takePatternRow_47 (Nat.le_of_ble_eq_true rfl) rfl ?_
      refine ev_iload (pc := 49) dX5_takePatternRow_49 rfl ?_
      refine ev_iconst (pc := 51) (v := (-1)) dX5_takePatternRow_51 (by decide) ?_
      refine ev_iconst (pc := 52) (v := 5) dX5_takePatternRow_52 (by decide) ?_
      refine ev_callSv (S := []) (pc := 53) dX5_takePatternRow_53 kX10_within lX5_59 sX10_within (cn_X10_within E (sI h 10 (bcF (h.2.1 10) zb (16 * zm + 4 * zr) (tS zb zn zp) zk)) (nI ((zb (tS zb zn zp + zk)) - 97)) (-1) 5) rfl rfl (Nat.le_of_ble_eq_true rfl) ⟨Nat.le_of_ble_eq_true rfl, Nat.le_of_ble_eq_true rfl⟩ ⟨Nat.le_of_ble_eq_true rfl, Nat.le_of_ble_eq_true rfl⟩ ?_
      refine ev_if_ne (pc := 56) (tgt := 65) dX5_takePatternRow_56 (by decide) (fun zc56 => ?_) (fun zc56 => ?_)
      · -- ne at 56: taken
        have hx : ¬ (zb (tS zb zn zp + zk)) = 120 := fun z => zc36 (by rw [z]; rfl)
        have hG : bkG (zb (tS zb zn zp + zk)) = true := (bkG_c hw hx).mpr (bI_n0.mp zc56)
        have ecl : clC (bkC (zb (tS zb zn zp + zk))) = nI ((zb (tS zb zn zp + zk)) - 97) := clC_c hw hx hG
        refine ev_aload_n (pc := 65) dX5_takePatternRow_65 rfl ?_
        refine ev_getR (pc := 66) (q := 3) dX5_takePatternRow_66 fX5_15 rfl (wlt (wf_sI hP.1) (by decide)) hr ?_
        refine ev_iload_n (pc := 69) dX5_takePatternRow_69 rfl ?_
        refine ev_iconst (pc := 70) (v := 4) dX5_takePatternRow_70 (by decide) ?_
        refine ev_imul (pc := 71) dX5_takePatternRow_71 ?_
        refine ev_eqI (e' := nI (zr * 4)) (pk_mul zr 4) ?_
        refine ev_iload_n (pc := 72) dX5_takePatternRow_72 rfl ?_
        refine ev_iadd (pc := 73) dX5_takePatternRow_73 ?_
        refine ev_eqI (e' := nI ((zr * 4) + zk)) (nI_add (zr * 4) zk) ?_
        refine ev_iload (pc := 74) dX5_takePatternRow_74 rfl ?_
        refine ev_callV0 (S := []) (pc := 76) dX5_takePatternRow_76 kX8_tellPatternCell lX5_151 vX8_tellPatternCell (cn_X8_tellPatternCell_3 E (sI h 10 (bcF (h.2.1 10) zb (16 * zm + 4 * zr) (tS zb zn zp) zk)) (zr * 4 + zk) zm (nI ((zb (tS zb zn zp + zk)) - 97)) (wf_sI hP.1) h8 hm (by omega)) rfl rfl (wlt (wf_sI hP.1) (by decide)) rfl rfl (Nat.le_of_ble_eq_true rfl) ⟨Nat.le_of_ble_eq_true rfl, Nat.le_of_ble_eq_true rfl⟩ ⟨Nat.le_of_ble_eq_true rfl, Nat.le_of_ble_eq_true rfl⟩ ?_
        refine ev_eqH (h' := sI h 10 (bcF (h.2.1 10) zb (16 * zm + 4 * zr) (tS zb zn zp) (zk + 1))) (by rw [sI_sI]; refine congrArg _ ?_; rw [bcF, ecl, show 16 * zm + 4 * zr + zk = zm * 16 + (zr * 4 + zk) by omega]; rw [sI_at]) ?_
        refine ev_iinc (pc := 79) (v := nI (zk + 1)) (L' := [some (.ref 19), some (.int (nI zr)), some (.int (nI (zk + 1))), some (.int (nI (zb (tS zb zn zp + zk)))), some (.int (nI ((zb (tS zb zn zp + zk)) - 97)))]) dX5_takePatternRow_79 rfl (nI_1 _) (Nat.le_of_ble_eq_true rfl) rfl ?_
        refine ev_goto (pc := 82) (tgt := 19) dX5_takePatternRow_82 (by decide) ?_
        refine ev_less (L' := [some (.ref 19), some (.int (nI zr)), some (.int (nI (zk + 1))), none, none]) (ls_keep (ls_keep (ls_keep (ls_drop (ls_drop (ls_nil _)))))) ?_
        exact ih (zk + 1) (by omega) (fun zj hj => by rcases Nat.lt_or_ge zj zk with z1 | z1; exact H zj z1; rw [show zj = zk by omega]; exact hG)
      · -- ne at 56: not taken
        refine ev_aload_n (pc := 59) dX5_takePatternRow_59 rfl ?_
        refine ev_iconst (pc := 60) (v := 3) dX5_takePatternRow_60 (by decide) ?_
        refine ev_callVv (S := []) (pc := 61) dX5_takePatternRow_61 kX5_refuse lX5_40 vX5_refuse (cn_X5_refuse E (sI h 10 (bcF (h.2.1 10) zb (16 * zm + 4 * zr) (tS zb zn zp) zk)) 3 (wf_sI hP.1)) rfl rfl (wlt (wf_sI hP.1) (by decide)) rfl rfl (Nat.le_of_ble_eq_true rfl) ⟨Nat.le_of_ble_eq_true rfl, Nat.le_of_ble_eq_true rfl⟩ ⟨Nat.le_of_ble_eq_true rfl, Nat.le_of_ble_eq_true rfl⟩ ?_
        refine ev_eqH (h' := (rfH (sI h 10 (bcF (h.2.1 10) zb (16 * zm + 4 * zr) (tS zb zn zp) zk)) 3)) rfl ?_
        refine ev_iret (pc := 64) dX5_takePatternRow_64 rfl ?_ ?_
        · first | rfl | exact nar_bI _ | (simp only [*]; exact nar_bI _) | (simp [narrow, *]; done)
        · have hx : ¬ (zb (tS zb zn zp + zk)) = 120 := fun z => zc36 (by rw [z]; rfl)
          exact Or.inr ⟨fun z => bI_0.mp zc56 ((bkG_c hw hx).mp ((bkO_iff.mp z).2 zk hlt)), rfl, _, rfl⟩
    · -- ne at 36: not taken
      refine ev_iconst (pc := 39) (v := (-1)) dX5_takePatternRow_39 (by decide) ?_
      refine ev_goto (pc := 40) (tgt := 47) dX5_takePatternRow_40 (by decide) ?_
      refine ev_istore (pc := 47) (L' := [some (.ref 19), some (.int (nI zr)), some (.int (nI zk)), some (.int (nI (zb (tS zb zn zp + zk)))), some (.int ((-1)))]) dX5_takePatternRow_47 (Nat.le_of_ble_eq_true rfl) rfl ?_
      refine ev_iload (pc := 49) dX5_takePatternRow_49 rfl ?_
      refine ev_iconst (pc := 51) (v := (-1)) dX5_takePatternRow_51 (by decide) ?_
      refine ev_iconst (pc := 52) (v := 5) dX5_takePatternRow_52 (by decide) ?_
      refine ev_callSv (S := []) (pc := 53) dX5_takePatternRow_53 kX10_within lX5_59 sX10_within (cn_X10_within E (sI h 10 (bcF (h.2.1 10) zb (16 * zm + 4 * zr) (tS zb zn zp) zk)) (-1) (-1) 5) rfl rfl (Nat.le_of_ble_eq_true rfl) ⟨Nat.le_of_ble_eq_true rfl, Nat.le_of_ble_eq_true rfl⟩ ⟨Nat.le_of_ble_eq_true rfl, Nat.le_of_ble_eq_true rfl⟩ ?_
      refine ev_if_ne (pc := 56) (tgt := 65) dX5_takePatternRow_56 (by decide) (fun zc56 => ?_) (fun zc56 => ?_)
      · -- ne at 56: taken
        have hx : (zb (tS zb zn zp + zk)) = 120 := (nI_eq (b := 120) (by omega) (by decide)).mp zc36
        have hG : bkG (zb (tS zb zn zp + zk)) = true := by rw [hx]; decide
        have ecl : clC (bkC (zb (tS zb zn zp + zk))) = -1 := by rw [hx]; decide
        refine ev_aload_n (pc := 65) dX5_takePatternRow_65 rfl ?_
        refine ev_getR (pc := 66) (q := 3) dX5_takePatternRow_66 fX5_15 rfl (wlt (wf_sI hP.1) (by decide)) hr ?_
        refine ev_iload_n (pc := 69) dX5_takePatternRow_69 rfl ?_
        refine ev_iconst (pc := 70) (v := 4) dX5_takePatternRow_70 (by decide) ?_
        refine ev_imul (pc := 71) dX5_takePatternRow_71 ?_
        refine ev_eqI (e' := nI (zr * 4)) (pk_mul zr 4) ?_
        refine ev_iload_n (pc := 72) dX5_takePatternRow_72 rfl ?_
        refine ev_iadd (pc := 73) dX5_takePatternRow_73 ?_
        refine ev_eqI (e' := nI ((zr * 4) + zk)) (nI_add (zr * 4) zk) ?_
        refine ev_iload (pc := 74) dX5_takePatternRow_74 rfl ?_
        refine ev_callV0 (S := []) (pc := 76) dX5_takePatternRow_76 kX8_tellPatternCell lX5_151 vX8_tellPatternCell (cn_X8_tellPatternCell_3 E (sI h 10 (bcF (h.2.1 10) zb (16 * zm + 4 * zr) (tS zb zn zp) zk)) (zr * 4 + zk) zm (-1) (wf_sI hP.1) h8 hm (by omega)) rfl rfl (wlt (wf_sI hP.1) (by decide)) rfl rfl (Nat.le_of_ble_eq_true rfl) ⟨Nat.le_of_ble_eq_true rfl, Nat.le_of_ble_eq_true rfl⟩ ⟨Nat.le_of_ble_eq_true rfl, Nat.le_of_ble_eq_true rfl⟩ ?_
        refine ev_eqH (h' := sI h 10 (bcF (h.2.1 10) zb (16 * zm + 4 * zr) (tS zb zn zp) (zk + 1))) (by rw [sI_sI]; refine congrArg _ ?_; rw [bcF, ecl, show 16 * zm + 4 * zr + zk = zm * 16 + (zr * 4 + zk) by omega]; rw [sI_at]) ?_
        refine ev_iinc (pc := 79) (v := nI (zk + 1)) (L' := [some (.ref 19), some (.int (nI zr)), some (.int (nI (zk + 1))), some (.int (nI (zb (tS zb zn zp + zk)))), some (.int ((-1)))]) dX5_takePatternRow_79 rfl (nI_1 _) (Nat.le_of_ble_eq_true rfl) rfl ?_
        refine ev_goto (pc := 82) (tgt := 19) dX5_takePatternRow_82 (by decide) ?_
        refine ev_less (L' := [some (.ref 19), some (.int (nI zr)), some (.int (nI (zk + 1))), none, none]) (ls_keep (ls_keep (ls_keep (ls_drop (ls_drop (ls_nil _)))))) ?_
        exact ih (zk + 1) (by omega) (fun zj hj => by rcases Nat.lt_or_ge zj zk with z1 | z1; exact H zj z1; rw [show zj = zk by omega]; exact hG)
      · -- ne at 56: not taken
        refine ev_aload_n (pc := 59) dX5_takePatternRow_59 rfl ?_
        refine ev_iconst (pc := 60) (v := 3) dX5_takePatternRow_60 (by decide) ?_
        refine ev_callVv (S := []) (pc := 61) dX5_takePatternRow_61 kX5_refuse lX5_40 vX5_refuse (cn_X5_refuse E (sI h 10 (bcF (h.2.1 10) zb (16 * zm + 4 * zr) (tS zb zn zp) zk)) 3 (wf_sI hP.1)) rfl rfl (wlt (wf_sI hP.1) (by decide)) rfl rfl (Nat.le_of_ble_eq_true rfl) ⟨Nat.le_of_ble_eq_true rfl, Nat.le_of_ble_eq_true rfl⟩ ⟨Nat.le_of_ble_eq_true rfl, Nat.le_of_ble_eq_true rfl⟩ ?_
        refine ev_eqH (h' := (rfH (sI h 10 (bcF (h.2.1 10) zb (16 * zm + 4 * zr) (tS zb zn zp) zk)) 3)) rfl ?_
        refine ev_iret (pc := 64) dX5_takePatternRow_64 rfl ?_ ?_
        · first | rfl | exact nar_bI _ | (simp only [*]; exact nar_bI _) | (simp [narrow, *]; done)
        · exact absurd zc56 (by decide)
theorem cn_X5_takePatternRow_3 (E : ME) (h : AH) (zb : Nat → Nat) (zn zp zr zm : Nat) (hP : TPz zb zn (tE zb zn zp) h) (hp : zp ≤ zn) (h12 : h.2.1 1 2 = nI (tS zb zn zp)) (hk : tK zb zn zp = 2) (hr : h.2.2.2 19 1 = some 3) (h8 : h.2.1 3 8 = nI zm) (hm : zm < 4) (hrr : zr < 4) : Con E mX5_takePatternRow 2 0 0 [.ref 19, .int (nI zr)] h (fun r h' => (bkO zb zn zp = true ∧ r = some (.int 1) ∧ h' = sI h 10 (bcF (h.2.1 10) zb (16 * zm + 4 * zr) (tS zb zn zp) 4)) ∨ (¬ bkO zb zn zp = true ∧ r = some (.int 0) ∧ ∃ zf, h' = rfH (sI h 10 zf) 3)) := by
  refine con_of2 (L := [some (.ref 19), some (.int (nI zr)), none, none, none]) rfl (Nat.le_of_ble_eq_true rfl) rfl ?_
  have hn4 := hP.2.1.2.1
  have hEn := (tE_ok zb hp).2.1
  refine ev_aload_n (pc := 0) dX5_takePatternRow_0 rfl ?_
  refine ev_getR (pc := 1) (q := 1) dX5_takePatternRow_1 fX5_9 rfl (wlt hP.1 (by decide)) (wr hP.1 rfl) ?_
  refine ev_callVv (S := []) (pc := 4) dX5_takePatternRow_4 kX9_tokenLength lX5_132 vX9_tokenLength (cn_X9_tokenLength E h hP.1) rfl rfl (wlt hP.1 (by decide)) rfl rfl (Nat.le_of_ble_eq_true rfl) ⟨Nat.le_of_ble_eq_true rfl, Nat.le_of_ble_eq_true rfl⟩ ⟨Nat.le_of_ble_eq_true rfl, Nat.le_of_ble_eq_true rfl⟩ ?_
  refine ev_eqI (e' := nI (tE zb zn zp - tS zb zn zp)) (by rw [hP.2.2.1, h12, pk_sub (tE_ok zb hp).1]) ?_
  refine ev_iconst (pc := 7) (v := 4) dX5_takePatternRow_7 (by decide) ?_
  refine ev_icmp_eq (pc := 8) (tgt := 17) dX5_takePatternRow_8 (by decide) (fun zc8 => ?_) (fun zc8 => ?_)
  · -- eq at 8: taken
    refine ev_iconst (pc := 17) (v := 0) dX5_takePatternRow_17 (by decide) ?_
    refine ev_istore_n (pc := 18) (L' := [some (.ref 19), some (.int (nI zr)), some (.int 0), none, none]) dX5_takePatternRow_18 (Nat.le_of_ble_eq_true rfl) rfl ?_
    have hl : tE zb zn zp = tS zb zn zp + 4 := by have z1 := (nI_eq (b := 4) (by omega) (by decide)).mp zc8; omega
    refine ev_eqH (h' := sI h 10 (bcF (h.2.1 10) zb (16 * zm + 4 * zr) (tS zb zn zp) 0)) (by rw [bcF]; exact (sI_id h 10).symm) ?_
    exact lp_prow_3 E h zb zn zp zr zm hP hp h12 hk hr h8 hm hrr hl 4 0 rfl (fun zj hj => by omega)
  · -- eq at 8: not taken
    refine ev_aload_n (pc := 11) dX5_takePatternRow_11 rfl ?_
    refine ev_iconst (pc := 12) (v := 3) dX5_takePatternRow_12 (by decide) ?_
    refine ev_callVv (S := []) (pc := 13) dX5_takePatternRow_13 kX5_refuse lX5_40 vX5_refuse (cn_X5_refuse E h 3 hP.1) rfl rfl (wlt hP.1 (by decide)) rfl rfl (Nat.le_of_ble_eq_true rfl) ⟨Nat.le_of_ble_eq_true rfl, Nat.le_of_ble_eq_true rfl⟩ ⟨Nat.le_of_ble_eq_true rfl, Nat.le_of_ble_eq_true rfl⟩ ?_
    refine ev_eqH (h' := (rfH h 3)) rfl ?_
    refine ev_iret (pc := 16) dX5_takePatternRow_16 rfl ?_ ?_
    · first | rfl | exact nar_bI _ | (simp only [*]; exact nar_bI _) | (simp [narrow, *]; done)
    · refine Or.inr ⟨fun z => zc8 ?_, rfl, h.2.1 10, ?_⟩
      · rw [(bkO_iff.mp z).1, Nat.add_sub_cancel_left]; rfl
      · rw [sI_id]
theorem lp_book_3 (E : ME) (h : AH) (zb : Nat → Nat) (zn zs zq : Nat) (zt : PSt) (hr0 : h.2.2.2 19 1 = some 3) (hS0 : SDz zt 3 h) (hm : zt.1 2 < 4) : ∀ (zf zr zp : Nat) (zc : Nat → Nat) (zg : AH), TPz zb zn zp zg → FrB 3 h zg → zg.2.1 19 3 = h.2.1 19 3 → (∀ zk, zk < 16 * zt.1 2 + 4 * zr → zg.2.1 10 zk = clC (zc zk)) → zr + zf = 4 → bkF4 zb zn zf (16 * zt.1 2 + 4 * zr) zp zc = bkF4 zb zn 4 (16 * zt.1 2) zq (zt.2 6) → Ev E mX5_takeBook (rmm 5 0 0) (QM E 0 0 (fun r h' => ∃ zx, r = some (.int zx) ∧ LOz 3 zb zn (lnE zb zn (bokB zb zn zs zq zt)) h h' zx)) 0 0 19 [some (.ref 19), some (.int (nI zr))] [] zg := by
  intro zf
  induction zf with
  | zero =>
    intro zr zp zc zg hP hF h3 hC hz e
    obtain rfl : zr = 4 := by omega
    have e2 := e.symm.trans (show bkF4 zb zn 0 (16 * zt.1 2 + 4 * 4) zp zc = ((wrK zb zn zp, tS zb zn zp), zp, zc) from rfl)
    have h8 : zg.2.1 3 8 = nI (zt.1 2) := by rw [hF.2.2.1 3 (by decide) (by decide) (by decide)]; exact hS0.1.2.1
    have hPk : TPz zb zn zp (bkH zg 3 (zt.1 2)) := ⟨FrD_w (bk_fr zg _ (by decide : (3 : Nat) = 3 ∨ 3 = 11)) hP.1, FrD_C (by decide : (3 : Nat) = 3 ∨ 3 = 11) (bk_fr zg _ (by decide : (3 : Nat) = 3 ∨ 3 = 11)) hP.2.1, hP.2.2⟩
    refine ev_iload_n (pc := 19) dX5_takeBook_19 rfl ?_
    refine ev_iconst (pc := 20) (v := 4) dX5_takeBook_20 (by decide) ?_
    refine ev_icmp_ge (pc := 21) (tgt := 48) dX5_takeBook_21 (by decide) (fun zc21 => ?_) (fun zc21 => absurd (by decide) zc21)
    refine ev_aload_n (pc := 48) dX5_takeBook_48 rfl ?_
    refine ev_getR (pc := 49) (q := 3) dX5_takeBook_49 fX5_15 rfl (wlt hP.1 (by decide)) (show zg.2.2.2 19 1 = some 3 by rw [hF.2.1]; exact hr0) ?_
    refine ev_callV0 (S := []) (pc := 52) dX5_takeBook_52 kX8_addPattern lX5_148 vX8_addPattern (cn_X8_addPattern_3 E zg (zt.1 2) hP.1 h8 hm) rfl rfl (wlt hP.1 (by decide)) rfl rfl (Nat.le_of_ble_eq_true rfl) ⟨Nat.le_of_ble_eq_true rfl, Nat.le_of_ble_eq_true rfl⟩ ⟨Nat.le_of_ble_eq_true rfl, Nat.le_of_ble_eq_true rfl⟩ ?_
    refine ev_eqH (h' := (bkH zg 3 (zt.1 2))) rfl ?_
    refine ev_aload_n (pc := 55) dX5_takeBook_55 rfl ?_
    refine ev_iconst (pc := 56) (v := 4) dX5_takeBook_56 (by decide) ?_
    refine ev_callV (S := []) (pc := 57) dX5_takeBook_57 kX5_takeKind lX5_50 vX5_takeKind (cn_X5_takeKind E (bkH zg 3 (zt.1 2)) zb zn zp 4 hPk (by decide)) rfl rfl (wlt hPk.1 (by decide)) rfl rfl (Nat.le_of_ble_eq_true rfl) ⟨Nat.le_of_ble_eq_true rfl, Nat.le_of_ble_eq_true rfl⟩ ⟨Nat.le_of_ble_eq_true rfl, Nat.le_of_ble_eq_true rfl⟩ ?_
    rintro _ zg1 ⟨zx1, rfl, hR1, hN1⟩
    refine ev_iret (pc := 60) dX5_takeBook_60 rfl ?_ ?_
    · exact nar_01 (OU_01 hR1)
    · have er := bok_r zb zn zs zq zt e2
      refine ⟨zx1, rfl, LO_last (k := bkH zg 3 (zt.1 2)) (by decide : (3 : Nat) = 3 ∨ 3 = 11) (FrD_t (FrB_D hF) (bk_fr zg _ (by decide : (3 : Nat) = 3 ∨ 3 = 11))) h3 (show zg.2.2.2 19 1 = some 3 by rw [hF.2.1]; exact hr0) ?_ ?_ ?_⟩
      · rw [er]; exact SD_bok hS0 (by decide : (3 : Nat) = 3 ∨ 3 = 11) hF hC
      · rw [er]; exact (bok_l zb zn zs zq zt e2).trans ((ck_0 (if_neg (show ¬ zt.1 2 = 4 by omega))).trans (ck_wf zb zn zp))
      · rw [er]; exact hR1
  | succ zf ih =>
    intro zr zp zc zg hP hF h3 hC hz e
    have hrr : zr < 4 := by omega
    refine ev_iload_n (pc := 19) dX5_takeBook_19 rfl ?_
    refine ev_iconst (pc := 20) (v := 4) dX5_takeBook_20 (by decide) ?_
    refine ev_icmp_ge (pc := 21) (tgt := 48) dX5_takeBook_21 (by decide) (fun zc21 => absurd zc21 (nI_ge hrr (by decide))) (fun zc21 => ?_)
    refine ev_aload_n (pc := 24) dX5_takeBook_24 rfl ?_
    refine ev_iconst (pc := 25) (v := 2) dX5_takeBook_25 (by decide) ?_
    refine ev_callV (S := []) (pc := 26) dX5_takeBook_26 kX5_takeKind lX5_50 vX5_takeKind (cn_X5_takeKind E zg zb zn zp 2 hP (by decide)) rfl rfl (wlt hP.1 (by decide)) rfl rfl (Nat.le_of_ble_eq_true rfl) ⟨Nat.le_of_ble_eq_true rfl, Nat.le_of_ble_eq_true rfl⟩ ⟨Nat.le_of_ble_eq_true rfl, Nat.le_of_ble_eq_true rfl⟩ ?_
    rintro _ zg1 ⟨zx1, rfl, hR1, hN1⟩
    refine ev_if_eq (pc := 29) (tgt := 40) dX5_takeBook_29 (by decide) (fun zc29 => ?_) (fun zc29 => ?_)
    · -- eq at 29: taken
      refine ev_iconst (pc := 40) (v := 0) dX5_takeBook_40 (by decide) ?_
      refine ev_iret (pc := 41) dX5_takeBook_41 rfl ?_ ?_
      · first | rfl | exact nar_bI _ | (simp only [*]; exact nar_bI _) | (simp [narrow, *]; done)
      · have zz := OU_f hR1 zc29
        exact ⟨0, rfl, LO_bad (FrD_t (FrB_D hF) (FrD_T hR1.1)) ((bok_l zb zn zs zq zt (e.symm.trans (bk_n (fun z => zz.1 (fk_0.mpr z))))).trans ((ck_0 (if_neg (show ¬ zt.1 2 = 4 by omega))).trans (ck_1 zz.1))) zz.1 zz.2.1 zz.2.2⟩
    · -- eq at 29: not taken
      have hk2 : tK zb zn zp = 2 := fk_0.mp (OU_t hR1 zc29).1
      have hP1 := (OU_t hR1 zc29).2.1
      have hF1 := FrB_T hF hR1.1
      have h8 : zg1.2.1 3 8 = nI (zt.1 2) := by rw [hF1.2.2.1 3 (by decide) (by decide) (by decide)]; exact hS0.1.2.1
      have hr1 : zg1.2.2.2 19 1 = some 3 := by rw [hF1.2.1]; exact hr0
      refine ev_aload_n (pc := 32) dX5_takeBook_32 rfl ?_
      refine ev_iload_n (pc := 33) dX5_takeBook_33 rfl ?_
      refine ev_callV (S := []) (pc := 34) dX5_takeBook_34 kX5_takePatternRow lX5_145 vX5_takePatternRow (cn_X5_takePatternRow_3 E zg1 zb zn zp zr (zt.1 2) hP1 hP.2.2.2 (hN1 hk2) hk2 hr1 h8 hm hrr) rfl rfl (wlt hP1.1 (by decide)) rfl rfl (Nat.le_of_ble_eq_true rfl) ⟨Nat.le_of_ble_eq_true rfl, Nat.le_of_ble_eq_true rfl⟩ ⟨Nat.le_of_ble_eq_true rfl, Nat.le_of_ble_eq_true rfl⟩ ?_
      rintro _ _ (⟨hb, rfl, rfl⟩ | ⟨hb, rfl, zf, rfl⟩)
      · skip
        refine ev_if_ne (pc := 37) (tgt := 42) dX5_takeBook_37 (by decide) (fun zc37 => ?_) (fun zc37 => absurd zc37 (by decide))
        refine ev_iinc (pc := 42) (v := nI (zr + 1)) (L' := [some (.ref 19), some (.int (nI (zr + 1)))]) dX5_takeBook_42 rfl (nI_1 _) (Nat.le_of_ble_eq_true rfl) rfl ?_
        refine ev_goto (pc := 45) (tgt := 19) dX5_takeBook_45 (by decide) ?_
        refine ih (zr + 1) (tE zb zn zp) (bkU zb zc (tS zb zn zp) (16 * zt.1 2 + 4 * zr)) _ ⟨hP1.1, FrD_C (by decide : (3 : Nat) = 3 ∨ 3 = 11) (FrD_s zg1 (by decide : (3 : Nat) = 3 ∨ 3 = 11) (by decide) (by decide)) hP1.2.1, hP1.2.2⟩ (FrB_s (by decide : (3 : Nat) = 3 ∨ 3 = 11) hF1) ((OU_t hR1 zc29).2.2.trans h3) (fun zk hk => ?_) (by omega) ?_
        · have z1 := bcF_4 (zf := zg1.2.1 10) (zb := zb) (zs := tS zb zn zp) (za := 16 * zt.1 2 + 4 * zr) (zg := zc) (fun zj hj => by rw [hR1.1.2.2.1 10 (by decide) (by decide)]; exact hC zj hj) zk (by omega)
          exact z1
        · rw [← e, bk_s hk2 hb, show 16 * zt.1 2 + 4 * (zr + 1) = 16 * zt.1 2 + 4 * zr + 4 by omega]
      · skip
        refine ev_if_ne (pc := 37) (tgt := 42) dX5_takeBook_37 (by decide) (fun zc37 => absurd rfl zc37) (fun zc37 => ?_)
        refine ev_iconst (pc := 40) (v := 0) dX5_takeBook_40 (by decide) ?_
        refine ev_iret (pc := 41) dX5_takeBook_41 rfl ?_ ?_
        · first | rfl | exact nar_bI _ | (simp only [*]; exact nar_bI _) | (simp [narrow, *]; done)
        · exact ⟨0, rfl, LO_bad (FrD_t (FrB_D (FrB_s (zf := zf) (by decide : (3 : Nat) = 3 ∨ 3 = 11) hF1)) (FrD_T (rf_fr _ _))) ((bok_l zb zn zs zq zt (e.symm.trans (bk_b hk2 hb))).trans ((ck_0 (if_neg (show ¬ zt.1 2 = 4 by omega))).trans (ck_1 (show ¬ (3 : Nat) = 0 by decide)))) (show ¬ (3 : Nat) = 0 by decide) rfl (hN1 hk2)⟩
theorem cn_X5_takeBook_3 (E : ME) (h : AH) (zb : Nat → Nat) (zn zp zs : Nat) (zt : PSt) (hD : RDs 3 zb zn zp zt h) (hO : POK zt) (hs : h.2.1 1 2 = nI zs) : Con E mX5_takeBook 5 0 0 [.ref 19] h (fun r h' => ∃ zx, r = some (.int zx) ∧ LOz 3 zb zn (lnE zb zn (bokB zb zn zs zp zt)) h h' zx) := by
  refine con_of2 (L := [some (.ref 19), none]) rfl (Nat.le_of_ble_eq_true rfl) rfl ?_
  refine ev_aload_n (pc := 0) dX5_takeBook_0 rfl ?_
  refine ev_getR (pc := 1) (q := 3) dX5_takeBook_1 fX5_15 rfl (wlt hD.1.1 (by decide)) hD.2.1 ?_
  refine ev_callVv (S := []) (pc := 4) dX5_takeBook_4 kX8_patterns lX5_142 vX8_patterns (cn_X8_patterns_3 E h zt hD.1.1 hD.2.2.1 hO) rfl rfl (wlt hD.1.1 (by decide)) rfl rfl (Nat.le_of_ble_eq_true rfl) ⟨Nat.le_of_ble_eq_true rfl, Nat.le_of_ble_eq_true rfl⟩ ⟨Nat.le_of_ble_eq_true rfl, Nat.le_of_ble_eq_true rfl⟩ ?_
  refine ev_iconst (pc := 7) (v := 4) dX5_takeBook_7 (by decide) ?_
  refine ev_icmp_lt (pc := 8) (tgt := 17) dX5_takeBook_8 (by decide) (fun zc8 => ?_) (fun zc8 => ?_)
  · -- lt at 8: taken
    refine ev_iconst (pc := 17) (v := 0) dX5_takeBook_17 (by decide) ?_
    refine ev_istore_n (pc := 18) (L' := [some (.ref 19), some (.int 0)]) dX5_takeBook_18 (Nat.le_of_ble_eq_true rfl) rfl ?_
    have hm : zt.1 2 < 4 := (nI_ltI (a := zt.1 2) (b := 4) (by have := hO.2.1; omega) (by decide)).mp zc8
    exact lp_book_3 E h zb zn zs zp zt hD.2.1 hD.2.2 hm 4 0 zp (zt.2 6) h hD.1 (FrB_0 _ h) rfl (fun zk hk => hD.2.2.1.2.2.2.2.2 zk hk) rfl rfl
  · -- lt at 8: not taken
    refine ev_aload_n (pc := 11) dX5_takeBook_11 rfl ?_
    refine ev_iconst (pc := 12) (v := 5) dX5_takeBook_12 (by decide) ?_
    refine ev_callVv (S := []) (pc := 13) dX5_takeBook_13 kX5_refuse lX5_40 vX5_refuse (cn_X5_refuse E h 5 hD.1.1) rfl rfl (wlt hD.1.1 (by decide)) rfl rfl (Nat.le_of_ble_eq_true rfl) ⟨Nat.le_of_ble_eq_true rfl, Nat.le_of_ble_eq_true rfl⟩ ⟨Nat.le_of_ble_eq_true rfl, Nat.le_of_ble_eq_true rfl⟩ ?_
    refine ev_eqH (h' := (rfH h 5)) rfl ?_
    refine ev_iret (pc := 16) dX5_takeBook_16 rfl ?_ ?_
    · first | rfl | exact nar_bI _ | (simp only [*]; exact nar_bI _) | (simp [narrow, *]; done)
    · have z12 : zt.1 2 = 4 := by
        have z1 := hO.2.1
        have z2 : ¬ zt.1 2 < 4 := fun z => zc8 (nI_lt (a := zt.1 2) (b := 4) z (by decide))
        omega
      exact ⟨0, rfl, LO_bad (FrD_T (rf_fr _ _)) ((bok_l zb zn zs zp zt rfl).trans (ck_1 (show ¬ (if zt.1 2 = 4 then 5 else 0) = 0 by rw [if_pos z12]; decide))) (by rw [if_pos z12]; decide) (show (5 : Int32) = nI (if zt.1 2 = 4 then 5 else 0) by rw [if_pos z12]; rfl) hs⟩
theorem lp_prow_11 (E : ME) (h : AH) (zb : Nat → Nat) (zn zp zr zm : Nat) (hP : TPz zb zn (tE zb zn zp) h) (hp : zp ≤ zn) (h12 : h.2.1 1 2 = nI (tS zb zn zp)) (hk : tK zb zn zp = 2) (hr : h.2.2.2 19 1 = some 11) (h8 : h.2.1 11 8 = nI zm) (hm : zm < 4) (hrr : zr < 4) (hl : tE zb zn zp = tS zb zn zp + 4) : ∀ zf zk : Nat, zk + zf = 4 → (∀ zj, zj < zk → bkG (zb (tS zb zn zp + zj)) = true) → Ev E mX5_takePatternRow (rmm 2 0 0) (QM E 0 0 (fun r h' => (bkO zb zn zp = true ∧ r = some (.int 1) ∧ h' = sI h 18 (bcF (h.2.1 18) zb (16 * zm + 4 * zr) (tS zb zn zp) 4)) ∨ (¬ bkO zb zn zp = true ∧ r = some (.int 0) ∧ ∃ zf, h' = rfH (sI h 18 zf) 3))) 0 0 19 [some (.ref 19), some (.int (nI zr)), some (.int (nI zk)), none, none] [] (sI h 18 (bcF (h.2.1 18) zb (16 * zm + 4 * zr) (tS zb zn zp) zk)) := by
  have hn4 := hP.2.1.2.1
  have hEn := (tE_ok zb hp).2.1
  intro zf
  induction zf with
  | zero =>
    intro zk hz H
    obtain rfl : zk = 4 := by omega
    refine ev_iload_n (pc := 19) dX5_takePatternRow_19 rfl ?_
    refine ev_iconst (pc := 20) (v := 4) dX5_takePatternRow_20 (by decide) ?_
    refine ev_icmp_ge (pc := 21) (tgt := 85) dX5_takePatternRow_21 (by decide) (fun zc21 => ?_) (fun zc21 => absurd (by decide) zc21)
    refine ev_iconst (pc := 85) (v := 1) dX5_takePatternRow_85 (by decide) ?_
    refine ev_iret (pc := 86) dX5_takePatternRow_86 rfl ?_ ?_
    · first | rfl | exact nar_bI _ | (simp only [*]; exact nar_bI _) | (simp [narrow, *]; done)
    · exact Or.inl ⟨bkO_iff.mpr ⟨hl, H⟩, rfl, rfl⟩
  | succ zf ih =>
    intro zk hz H
    have hlt : zk < 4 := by omega
    have hw := wd_b hp hk (zj := tS zb zn zp + zk) (by omega) (by omega)
    have eb : h.2.1 2 (tS zb zn zp + zk) = nI (zb (tS zb zn zp + zk)) := by rw [(hP.2.1.2.2 _ (by omega)).1, sb_asc _ (by omega)]
    refine ev_iload_n (pc := 19) dX5_takePatternRow_19 rfl ?_
    refine ev_iconst (pc := 20) (v := 4) dX5_takePatternRow_20 (by decide) ?_
    refine ev_icmp_ge (pc := 21) (tgt := 85) dX5_takePatternRow_21 (by decide) (fun zc21 => absurd zc21 (nI_ge hlt (by decide))) (fun zc21 => ?_)
    refine ev_aload_n (pc := 24) dX5_takePatternRow_24 rfl ?_
    refine ev_getR (pc := 25) (q := 1) dX5_takePatternRow_25 fX5_9 rfl (wlt (wf_sI hP.1) (by decide)) (wr (wf_sI hP.1) rfl) ?_
    refine ev_iload_n (pc := 28) dX5_takePatternRow_28 rfl ?_
    refine ev_callVv (S := []) (pc := 29) dX5_takePatternRow_29 kX9_tokenByte lX5_128 vX9_tokenByte (cn_X9_tokenByte E (sI h 18 (bcF (h.2.1 18) zb (16 * zm + 4 * zr) (tS zb zn zp) zk)) (tS zb zn zp) (tE zb zn zp) zn zk (wf_sI hP.1) h12 hP.2.2.1 hP.2.1.1 hP.2.2.2 hP.2.1.2.1 (by omega)) rfl rfl (wlt (wf_sI hP.1) (by decide)) rfl rfl (Nat.le_of_ble_eq_true rfl) ⟨Nat.le_of_ble_eq_true rfl, Nat.le_of_ble_eq_true rfl⟩ ⟨Nat.le_of_ble_eq_true rfl, Nat.le_of_ble_eq_true rfl⟩ ?_
    refine ev_eqI (e' := nI (zb (tS zb zn zp + zk))) eb ?_
    refine ev_istore_n (pc := 32) (L' := [some (.ref 19), some (.int (nI zr)), some (.int (nI zk)), some (.int (nI (zb (tS zb zn zp + zk)))), none]) dX5_takePatternRow_32 (Nat.le_of_ble_eq_true rfl) rfl ?_
    refine ev_iload_n (pc := 33) dX5_takePatternRow_33 rfl ?_
    refine ev_bipush (pc := 34) (v := 120) dX5_takePatternRow_34 (by decide) ?_
    refine ev_icmp_ne (pc := 36) (tgt := 43) dX5_takePatternRow_36 (by decide) (fun zc36 => ?_) (fun zc36 => ?_)
    · -- ne at 36: taken
      refine ev_iload_n (pc := 43) dX5_takePatternRow_43 rfl ?_
      refine ev_bipush (pc := 44) (v := 97) dX5_takePatternRow_44 (by decide) ?_
      refine ev_isub (pc := 46) dX5_takePatternRow_46 ?_
      refine ev_eqI (e' := nI ((zb (tS zb zn zp + zk)) - 97)) (pk_sub hw.1) ?_
      refine ev_istore (pc := 47) (L' := [some (.ref 19), some (.int (nI zr)), some (.int (nI zk)), some (.int (nI (zb (tS zb zn zp + zk)))), some (.int (nI ((zb (tS zb zn zp + zk)) - 97)))]) dX5_takePatternRow_47 (Nat.le_of_ble_eq_true rfl) rfl ?_
      refine ev_iload (pc := 49) dX5_takePatternRow_49 rfl ?_
      refine ev_iconst (pc := 51) (v := (-1)) dX5_takePatternRow_51 (by decide) ?_
      refine ev_iconst (pc := 52) (v := 5) dX5_takePatternRow_52 (by decide) ?_
      refine ev_callSv (S := []) (pc := 53) dX5_takePatternRow_53 kX10_within lX5_59 sX10_within (cn_X10_within E (sI h 18 (bcF (h.2.1 18) zb (16 * zm + 4 * zr) (tS zb zn zp) zk)) (nI ((zb (tS zb zn zp + zk)) - 97)) (-1) 5) rfl rfl (Nat.le_of_ble_eq_true rfl) ⟨Nat.le_of_ble_eq_true rfl, Nat.le_of_ble_eq_true rfl⟩ ⟨Nat.le_of_ble_eq_true rfl, Nat.le_of_ble_eq_true rfl⟩ ?_
      refine ev_if_ne (pc := 56) (tgt := 65) dX5_takePatternRow_56 (by decide) (fun zc56 => ?_) (fun zc56 => ?_)
      · -- ne at 56: taken
        have hx : ¬ (zb (tS zb zn zp + zk)) = 120 := fun z => zc36 (by rw [z]; rfl)
        have hG : bkG (zb (tS zb zn zp + zk)) = true := (bkG_c hw hx).mpr (bI_n0.mp zc56)
        have ecl : clC (bkC (zb (tS zb zn zp + zk))) = nI ((zb (tS zb zn zp + zk)) - 97) := clC_c hw hx hG
        refine ev_aload_n (pc := 65) dX5_takePatternRow_65 rfl ?_
        refine ev_getR (pc := 66) (q := 11) dX5_takePatternRow_66 fX5_15 rfl (wlt (wf_sI hP.1) (by decide)) hr ?_
        refine ev_iload_n (pc := 69) dX5_takePatternRow_69 rfl ?_
        refine ev_iconst (pc := 70) (v := 4) dX5_takePatternRow_70 (by decide) ?_
        refine ev_imul (pc := 71) dX5_takePatternRow_71 ?_
        refine ev_eqI (e' := nI (zr * 4)) (pk_mul zr 4) ?_
        refine ev_iload_n (pc := 72) dX5_takePatternRow_72 rfl ?_
        refine ev_iadd (pc := 73) dX5_takePatternRow_73 ?_
        refine ev_eqI (e' := nI ((zr * 4) + zk)) (nI_add (zr * 4) zk) ?_
        refine ev_iload (pc := 74) dX5_takePatternRow_74 rfl ?_
        refine ev_callV0 (S := []) (pc := 76) dX5_takePatternRow_76 kX8_tellPatternCell lX5_151 vX8_tellPatternCell (cn_X8_tellPatternCell_11 E (sI h 18 (bcF (h.2.1 18) zb (16 * zm + 4 * zr) (tS zb zn zp) zk)) (zr * 4 + zk) zm (nI ((zb (tS zb zn zp + zk)) - 97)) (wf_sI hP.1) h8 hm (by omega)) rfl rfl (wlt (wf_sI hP.1) (by decide)) rfl rfl (Nat.le_of_ble_eq_true rfl) ⟨Nat.le_of_ble_eq_true rfl, Nat.le_of_ble_eq_true rfl⟩ ⟨Nat.le_of_ble_eq_true rfl, Nat.le_of_ble_eq_true rfl⟩ ?_
        refine ev_eqH (h' := sI h 18 (bcF (h.2.1 18) zb (16 * zm + 4 * zr) (tS zb zn zp) (zk + 1))) (by rw [sI_sI]; refine congrArg _ ?_; rw [bcF, ecl, show 16 * zm + 4 * zr + zk = zm * 16 + (zr * 4 + zk) by omega]; rw [sI_at]) ?_
        refine ev_iinc (pc := 79) (v := nI (zk + 1)) (L' := [some (.ref 19), some (.int (nI zr)), some (.int (nI (zk + 1))), some (.int (nI (zb (tS zb zn zp + zk)))), some (.int (nI ((zb (tS zb zn zp + zk)) - 97)))]) dX5_takePatternRow_79 rfl (nI_1 _) (Nat.le_of_ble_eq_true rfl) rfl ?_
        refine ev_goto (pc := 82) (tgt := 19) dX5_takePatternRow_82 (by decide) ?_
        refine ev_less (L' := [some (.ref 19), some (.int (nI zr)), some (.int (nI (zk + 1))), none, none]) (ls_keep (ls_keep (ls_keep (ls_drop (ls_drop (ls_nil _)))))) ?_
        exact ih (zk + 1) (by omega) (fun zj hj => by rcases Nat.lt_or_ge zj zk with z1 | z1; exact H zj z1; rw [show zj = zk by omega]; exact hG)
      · -- ne at 56: not taken
        refine ev_aload_n (pc := 59) dX5_takePatternRow_59 rfl ?_
        refine ev_iconst (pc := 60) (v := 3) dX5_takePatternRow_60 (by decide) ?_
        refine ev_callVv (S := []) (pc := 61) dX5_takePatternRow_61 kX5_refuse lX5_40 vX5_refuse (cn_X5_refuse E (sI h 18 (bcF (h.2.1 18) zb (16 * zm + 4 * zr) (tS zb zn zp) zk)) 3 (wf_sI hP.1)) rfl rfl (wlt (wf_sI hP.1) (by decide)) rfl rfl (Nat.le_of_ble_eq_true rfl) ⟨Nat.le_of_ble_eq_true rfl, Nat.le_of_ble_eq_true rfl⟩ ⟨Nat.le_of_ble_eq_true rfl, Nat.le_of_ble_eq_true rfl⟩ ?_
        refine ev_eqH (h' := (rfH (sI h 18 (bcF (h.2.1 18) zb (16 * zm + 4 * zr) (tS zb zn zp) zk)) 3)) rfl ?_
        refine ev_iret (pc := 64) dX5_takePatternRow_64 rfl ?_ ?_
        · first | rfl | exact nar_bI _ | (simp only [*]; exact nar_bI _) | (simp [narrow, *]; done)
        · have hx : ¬ (zb (tS zb zn zp + zk)) = 120 := fun z => zc36 (by rw [z]; rfl)
          exact Or.inr ⟨fun z => bI_0.mp zc56 ((bkG_c hw hx).mp ((bkO_iff.mp z).2 zk hlt)), rfl, _, rfl⟩
    · -- ne at 36: not taken
      refine ev_iconst (pc := 39) (v := (-1)) dX5_takePatternRow_39 (by decide) ?_
      refine ev_goto (pc := 40) (tgt := 47) dX5_takePatternRow_40 (by decide) ?_
      refine ev_istore (pc := 47) (L' := [some (.ref 19), some (.int (nI zr)), some (.int (nI zk)), some (.int (nI (zb (tS zb zn zp + zk)))), some (.int ((-1)))]) dX5_takePatternRow_47 (Nat.le_of_ble_eq_true rfl) rfl ?_
      refine ev_iload (pc := 49) dX5_takePatternRow_49 rfl ?_
      refine ev_iconst (pc := 51) (v := (-1)) dX5_takePatternRow_51 (by decide) ?_
      refine ev_iconst (pc := 52) (v := 5) dX5_takePatternRow_52 (by decide) ?_
      refine ev_callSv (S := []) (pc := 53) dX5_takePatternRow_53 kX10_within lX5_59 sX10_within (cn_X10_within E (sI h 18 (bcF (h.2.1 18) zb (16 * zm + 4 * zr) (tS zb zn zp) zk)) (-1) (-1) 5) rfl rfl (Nat.le_of_ble_eq_true rfl) ⟨Nat.le_of_ble_eq_true rfl, Nat.le_of_ble_eq_true rfl⟩ ⟨Nat.le_of_ble_eq_true rfl, Nat.le_of_ble_eq_true rfl⟩ ?_
      refine ev_if_ne (pc := 56) (tgt := 65) dX5_takePatternRow_56 (by decide) (fun zc56 => ?_) (fun zc56 => ?_)
      · -- ne at 56: taken
        have hx : (zb (tS zb zn zp + zk)) = 120 := (nI_eq (b := 120) (by omega) (by decide)).mp zc36
        have hG : bkG (zb (tS zb zn zp + zk)) = true := by rw [hx]; decide
        have ecl : clC (bkC (zb (tS zb zn zp + zk))) = -1 := by rw [hx]; decide
        refine ev_aload_n (pc := 65) dX5_takePatternRow_65 rfl ?_
        refine ev_getR (pc := 66) (q := 11) dX5_takePatternRow_66 fX5_15 rfl (wlt (wf_sI hP.1) (by decide)) hr ?_
        refine ev_iload_n (pc := 69) dX5_takePatternRow_69 rfl ?_
        refine ev_iconst (pc := 70) (v := 4) dX5_takePatternRow_70 (by decide) ?_
        refine ev_imul (pc := 71) dX5_takePatternRow_71 ?_
        refine ev_eqI (e' := nI (zr * 4)) (pk_mul zr 4) ?_
        refine ev_iload_n (pc := 72) dX5_takePatternRow_72 rfl ?_
        refine ev_iadd (pc := 73) dX5_takePatternRow_73 ?_
        refine ev_eqI (e' := nI ((zr * 4) + zk)) (nI_add (zr * 4) zk) ?_
        refine ev_iload (pc := 74) dX5_takePatternRow_74 rfl ?_
        refine ev_callV0 (S := []) (pc := 76) dX5_takePatternRow_76 kX8_tellPatternCell lX5_151 vX8_tellPatternCell (cn_X8_tellPatternCell_11 E (sI h 18 (bcF (h.2.1 18) zb (16 * zm + 4 * zr) (tS zb zn zp) zk)) (zr * 4 + zk) zm (-1) (wf_sI hP.1) h8 hm (by omega)) rfl rfl (wlt (wf_sI hP.1) (by decide)) rfl rfl (Nat.le_of_ble_eq_true rfl) ⟨Nat.le_of_ble_eq_true rfl, Nat.le_of_ble_eq_true rfl⟩ ⟨Nat.le_of_ble_eq_true rfl, Nat.le_of_ble_eq_true rfl⟩ ?_
        refine ev_eqH (h' := sI h 18 (bcF (h.2.1 18) zb (16 * zm + 4 * zr) (tS zb zn zp) (zk + 1))) (by rw [sI_sI]; refine congrArg _ ?_; rw [bcF, ecl, show 16 * zm + 4 * zr + zk = zm * 16 + (zr * 4 + zk) by omega]; rw [sI_at]) ?_
        refine ev_iinc (pc := 79) (v := nI (zk + 1)) (L' := [some (.ref 19), some (.int (nI zr)), some (.int (nI (zk + 1))), some (.int (nI (zb (tS zb zn zp + zk)))), some (.int ((-1)))]) dX5_takePatternRow_79 rfl (nI_1 _) (Nat.le_of_ble_eq_true rfl) rfl ?_
        refine ev_goto (pc := 82) (tgt := 19) dX5_takePatternRow_82 (by decide) ?_
        refine ev_less (L' := [some (.ref 19), some (.int (nI zr)), some (.int (nI (zk + 1))), none, none]) (ls_keep (ls_keep (ls_keep (ls_drop (ls_drop (ls_nil _)))))) ?_
        exact ih (zk + 1) (by omega) (fun zj hj => by rcases Nat.lt_or_ge zj zk with z1 | z1; exact H zj z1; rw [show zj = zk by omega]; exact hG)
      · -- ne at 56: not taken
        refine ev_aload_n (pc := 59) dX5_takePatternRow_59 rfl ?_
        refine ev_iconst (pc := 60) (v := 3) dX5_takePatternRow_60 (by decide) ?_
        refine ev_callVv (S := []) (pc := 61) dX5_takePatternRow_61 kX5_refuse lX5_40 vX5_refuse (cn_X5_refuse E (sI h 18 (bcF (h.2.1 18) zb (16 * zm + 4 * zr) (tS zb zn zp) zk)) 3 (wf_sI hP.1)) rfl rfl (wlt (wf_sI hP.1) (by decide)) rfl rfl (Nat.le_of_ble_eq_true rfl) ⟨Nat.le_of_ble_eq_true rfl, Nat.le_of_ble_eq_true rfl⟩ ⟨Nat.le_of_ble_eq_true rfl, Nat.le_of_ble_eq_true rfl⟩ ?_
        refine ev_eqH (h' := (rfH (sI h 18 (bcF (h.2.1 18) zb (16 * zm + 4 * zr) (tS zb zn zp) zk)) 3)) rfl ?_
        refine ev_iret (pc := 64) dX5_takePatternRow_64 rfl ?_ ?_
        · first | rfl | exact nar_bI _ | (simp only [*]; exact nar_bI _) | (simp [narrow, *]; done)
        · exact absurd zc56 (by decide)
theorem cn_X5_takePatternRow_11 (E : ME) (h : AH) (zb : Nat → Nat) (zn zp zr zm : Nat) (hP : TPz zb zn (tE zb zn zp) h) (hp : zp ≤ zn) (h12 : h.2.1 1 2 = nI (tS zb zn zp)) (hk : tK zb zn zp = 2) (hr : h.2.2.2 19 1 = some 11) (h8 : h.2.1 11 8 = nI zm) (hm : zm < 4) (hrr : zr < 4) : Con E mX5_takePatternRow 2 0 0 [.ref 19, .int (nI zr)] h (fun r h' => (bkO zb zn zp = true ∧ r = some (.int 1) ∧ h' = sI h 18 (bcF (h.2.1 18) zb (16 * zm + 4 * zr) (tS zb zn zp) 4)) ∨ (¬ bkO zb zn zp = true ∧ r = some (.int 0) ∧ ∃ zf, h' = rfH (sI h 18 zf) 3)) := by
  refine con_of2 (L := [some (.ref 19), some (.int (nI zr)), none, none, none]) rfl (Nat.le_of_ble_eq_true rfl) rfl ?_
  have hn4 := hP.2.1.2.1
  have hEn := (tE_ok zb hp).2.1
  refine ev_aload_n (pc := 0) dX5_takePatternRow_0 rfl ?_
  refine ev_getR (pc := 1) (q := 1) dX5_takePatternRow_1 fX5_9 rfl (wlt hP.1 (by decide)) (wr hP.1 rfl) ?_
  refine ev_callVv (S := []) (pc := 4) dX5_takePatternRow_4 kX9_tokenLength lX5_132 vX9_tokenLength (cn_X9_tokenLength E h hP.1) rfl rfl (wlt hP.1 (by decide)) rfl rfl (Nat.le_of_ble_eq_true rfl) ⟨Nat.le_of_ble_eq_true rfl, Nat.le_of_ble_eq_true rfl⟩ ⟨Nat.le_of_ble_eq_true rfl, Nat.le_of_ble_eq_true rfl⟩ ?_
  refine ev_eqI (e' := nI (tE zb zn zp - tS zb zn zp)) (by rw [hP.2.2.1, h12, pk_sub (tE_ok zb hp).1]) ?_
  refine ev_iconst (pc := 7) (v := 4) dX5_takePatternRow_7 (by decide) ?_
  refine ev_icmp_eq (pc := 8) (tgt := 17) dX5_takePatternRow_8 (by decide) (fun zc8 => ?_) (fun zc8 => ?_)
  · -- eq at 8: taken
    refine ev_iconst (pc := 17) (v := 0) dX5_takePatternRow_17 (by decide) ?_
    refine ev_istore_n (pc := 18) (L' := [some (.ref 19), some (.int (nI zr)), some (.int 0), none, none]) dX5_takePatternRow_18 (Nat.le_of_ble_eq_true rfl) rfl ?_
    have hl : tE zb zn zp = tS zb zn zp + 4 := by have z1 := (nI_eq (b := 4) (by omega) (by decide)).mp zc8; omega
    refine ev_eqH (h' := sI h 18 (bcF (h.2.1 18) zb (16 * zm + 4 * zr) (tS zb zn zp) 0)) (by rw [bcF]; exact (sI_id h 18).symm) ?_
    exact lp_prow_11 E h zb zn zp zr zm hP hp h12 hk hr h8 hm hrr hl 4 0 rfl (fun zj hj => by omega)
  · -- eq at 8: not taken
    refine ev_aload_n (pc := 11) dX5_takePatternRow_11 rfl ?_
    refine ev_iconst (pc := 12) (v := 3) dX5_takePatternRow_12 (by decide) ?_
    refine ev_callVv (S := []) (pc := 13) dX5_takePatternRow_13 kX5_refuse lX5_40 vX5_refuse (cn_X5_refuse E h 3 hP.1) rfl rfl (wlt hP.1 (by decide)) rfl rfl (Nat.le_of_ble_eq_true rfl) ⟨Nat.le_of_ble_eq_true rfl, Nat.le_of_ble_eq_true rfl⟩ ⟨Nat.le_of_ble_eq_true rfl, Nat.le_of_ble_eq_true rfl⟩ ?_
    refine ev_eqH (h' := (rfH h 3)) rfl ?_
    refine ev_iret (pc := 16) dX5_takePatternRow_16 rfl ?_ ?_
    · first | rfl | exact nar_bI _ | (simp only [*]; exact nar_bI _) | (simp [narrow, *]; done)
    · refine Or.inr ⟨fun z => zc8 ?_, rfl, h.2.1 18, ?_⟩
      · rw [(bkO_iff.mp z).1, Nat.add_sub_cancel_left]; rfl
      · rw [sI_id]
theorem lp_book_11 (E : ME) (h : AH) (zb : Nat → Nat) (zn zs zq : Nat) (zt : PSt) (hr0 : h.2.2.2 19 1 = some 11) (hS0 : SDz zt 11 h) (hm : zt.1 2 < 4) : ∀ (zf zr zp : Nat) (zc : Nat → Nat) (zg : AH), TPz zb zn zp zg → FrB 11 h zg → zg.2.1 19 3 = h.2.1 19 3 → (∀ zk, zk < 16 * zt.1 2 + 4 * zr → zg.2.1 18 zk = clC (zc zk)) → zr + zf = 4 → bkF4 zb zn zf (16 * zt.1 2 + 4 * zr) zp zc = bkF4 zb zn 4 (16 * zt.1 2) zq (zt.2 6) → Ev E mX5_takeBook (rmm 5 0 0) (QM E 0 0 (fun r h' => ∃ zx, r = some (.int zx) ∧ LOz 11 zb zn (lnE zb zn (bokB zb zn zs zq zt)) h h' zx)) 0 0 19 [some (.ref 19), some (.int (nI zr))] [] zg := by
  intro zf
  induction zf with
  | zero =>
    intro zr zp zc zg hP hF h3 hC hz e
    obtain rfl : zr = 4 := by omega
    have e2 := e.symm.trans (show bkF4 zb zn 0 (16 * zt.1 2 + 4 * 4) zp zc = ((wrK zb zn zp, tS zb zn zp), zp, zc) from rfl)
    have h8 : zg.2.1 11 8 = nI (zt.1 2) := by rw [hF.2.2.1 11 (by decide) (by decide) (by decide)]; exact hS0.1.2.1
    have hPk : TPz zb zn zp (bkH zg 11 (zt.1 2)) := ⟨FrD_w (bk_fr zg _ (by decide : (11 : Nat) = 3 ∨ 11 = 11)) hP.1, FrD_C (by decide : (11 : Nat) = 3 ∨ 11 = 11) (bk_fr zg _ (by decide : (11 : Nat) = 3 ∨ 11 = 11)) hP.2.1, hP.2.2⟩
    refine ev_iload_n (pc := 19) dX5_takeBook_19 rfl ?_
    refine ev_iconst (pc := 20) (v := 4) dX5_takeBook_20 (by decide) ?_
    refine ev_icmp_ge (pc := 21) (tgt := 48) dX5_takeBook_21 (by decide) (fun zc21 => ?_) (fun zc21 => absurd (by decide) zc21)
    refine ev_aload_n (pc := 48) dX5_takeBook_48 rfl ?_
    refine ev_getR (pc := 49) (q := 11) dX5_takeBook_49 fX5_15 rfl (wlt hP.1 (by decide)) (show zg.2.2.2 19 1 = some 11 by rw [hF.2.1]; exact hr0) ?_
    refine ev_callV0 (S := []) (pc := 52) dX5_takeBook_52 kX8_addPattern lX5_148 vX8_addPattern (cn_X8_addPattern_11 E zg (zt.1 2) hP.1 h8 hm) rfl rfl (wlt hP.1 (by decide)) rfl rfl (Nat.le_of_ble_eq_true rfl) ⟨Nat.le_of_ble_eq_true rfl, Nat.le_of_ble_eq_true rfl⟩ ⟨Nat.le_of_ble_eq_true rfl, Nat.le_of_ble_eq_true rfl⟩ ?_
    refine ev_eqH (h' := (bkH zg 11 (zt.1 2))) rfl ?_
    refine ev_aload_n (pc := 55) dX5_takeBook_55 rfl ?_
    refine ev_iconst (pc := 56) (v := 4) dX5_takeBook_56 (by decide) ?_
    refine ev_callV (S := []) (pc := 57) dX5_takeBook_57 kX5_takeKind lX5_50 vX5_takeKind (cn_X5_takeKind E (bkH zg 11 (zt.1 2)) zb zn zp 4 hPk (by decide)) rfl rfl (wlt hPk.1 (by decide)) rfl rfl (Nat.le_of_ble_eq_true rfl) ⟨Nat.le_of_ble_eq_true rfl, Nat.le_of_ble_eq_true rfl⟩ ⟨Nat.le_of_ble_eq_true rfl, Nat.le_of_ble_eq_true rfl⟩ ?_
    rintro _ zg1 ⟨zx1, rfl, hR1, hN1⟩
    refine ev_iret (pc := 60) dX5_takeBook_60 rfl ?_ ?_
    · exact nar_01 (OU_01 hR1)
    · have er := bok_r zb zn zs zq zt e2
      refine ⟨zx1, rfl, LO_last (k := bkH zg 11 (zt.1 2)) (by decide : (11 : Nat) = 3 ∨ 11 = 11) (FrD_t (FrB_D hF) (bk_fr zg _ (by decide : (11 : Nat) = 3 ∨ 11 = 11))) h3 (show zg.2.2.2 19 1 = some 11 by rw [hF.2.1]; exact hr0) ?_ ?_ ?_⟩
      · rw [er]; exact SD_bok hS0 (by decide : (11 : Nat) = 3 ∨ 11 = 11) hF hC
      · rw [er]; exact (bok_l zb zn zs zq zt e2).trans ((ck_0 (if_neg (show ¬ zt.1 2 = 4 by omega))).trans (ck_wf zb zn zp))
      · rw [er]; exact hR1
  | succ zf ih =>
    intro zr zp zc zg hP hF h3 hC hz e
    have hrr : zr < 4 := by omega
    refine ev_iload_n (pc := 19) dX5_takeBook_19 rfl ?_
    refine ev_iconst (pc := 20) (v := 4) dX5_takeBook_20 (by decide) ?_
    refine ev_icmp_ge (pc := 21) (tgt := 48) dX5_takeBook_21 (by decide) (fun zc21 => absurd zc21 (nI_ge hrr (by decide))) (fun zc21 => ?_)
    refine ev_aload_n (pc := 24) dX5_takeBook_24 rfl ?_
    refine ev_iconst (pc := 25) (v := 2) dX5_takeBook_25 (by decide) ?_
    refine ev_callV (S := []) (pc := 26) dX5_takeBook_26 kX5_takeKind lX5_50 vX5_takeKind (cn_X5_takeKind E zg zb zn zp 2 hP (by decide)) rfl rfl (wlt hP.1 (by decide)) rfl rfl (Nat.le_of_ble_eq_true rfl) ⟨Nat.le_of_ble_eq_true rfl, Nat.le_of_ble_eq_true rfl⟩ ⟨Nat.le_of_ble_eq_true rfl, Nat.le_of_ble_eq_true rfl⟩ ?_
    rintro _ zg1 ⟨zx1, rfl, hR1, hN1⟩
    refine ev_if_eq (pc := 29) (tgt := 40) dX5_takeBook_29 (by decide) (fun zc29 => ?_) (fun zc29 => ?_)
    · -- eq at 29: taken
      refine ev_iconst (pc := 40) (v := 0) dX5_takeBook_40 (by decide) ?_
      refine ev_iret (pc := 41) dX5_takeBook_41 rfl ?_ ?_
      · first | rfl | exact nar_bI _ | (simp only [*]; exact nar_bI _) | (simp [narrow, *]; done)
      · have zz := OU_f hR1 zc29
        exact ⟨0, rfl, LO_bad (FrD_t (FrB_D hF) (FrD_T hR1.1)) ((bok_l zb zn zs zq zt (e.symm.trans (bk_n (fun z => zz.1 (fk_0.mpr z))))).trans ((ck_0 (if_neg (show ¬ zt.1 2 = 4 by omega))).trans (ck_1 zz.1))) zz.1 zz.2.1 zz.2.2⟩
    · -- eq at 29: not taken
      have hk2 : tK zb zn zp = 2 := fk_0.mp (OU_t hR1 zc29).1
      have hP1 := (OU_t hR1 zc29).2.1
      have hF1 := FrB_T hF hR1.1
      have h8 : zg1.2.1 11 8 = nI (zt.1 2) := by rw [hF1.2.2.1 11 (by decide) (by decide) (by decide)]; exact hS0.1.2.1
      have hr1 : zg1.2.2.2 19 1 = some 11 := by rw [hF1.2.1]; exact hr0
      refine ev_aload_n (pc := 32) dX5_takeBook_32 rfl ?_
      refine ev_iload_n (pc := 33) dX5_takeBook_33 rfl ?_
      refine ev_callV (S := []) (pc := 34) dX5_takeBook_34 kX5_takePatternRow lX5_145 vX5_takePatternRow (cn_X5_takePatternRow_11 E zg1 zb zn zp zr (zt.1 2) hP1 hP.2.2.2 (hN1 hk2) hk2 hr1 h8 hm hrr) rfl rfl (wlt hP1.1 (by decide)) rfl rfl (Nat.le_of_ble_eq_true rfl) ⟨Nat.le_of_ble_eq_true rfl, Nat.le_of_ble_eq_true rfl⟩ ⟨Nat.le_of_ble_eq_true rfl, Nat.le_of_ble_eq_true rfl⟩ ?_
      rintro _ _ (⟨hb, rfl, rfl⟩ | ⟨hb, rfl, zf, rfl⟩)
      · skip
        refine ev_if_ne (pc := 37) (tgt := 42) dX5_takeBook_37 (by decide) (fun zc37 => ?_) (fun zc37 => absurd zc37 (by decide))
        refine ev_iinc (pc := 42) (v := nI (zr + 1)) (L' := [some (.ref 19), some (.int (nI (zr + 1)))]) dX5_takeBook_42 rfl (nI_1 _) (Nat.le_of_ble_eq_true rfl) rfl ?_
        refine ev_goto (pc := 45) (tgt := 19) dX5_takeBook_45 (by decide) ?_
        refine ih (zr + 1) (tE zb zn zp) (bkU zb zc (tS zb zn zp) (16 * zt.1 2 + 4 * zr)) _ ⟨hP1.1, FrD_C (by decide : (11 : Nat) = 3 ∨ 11 = 11) (FrD_s zg1 (by decide : (11 : Nat) = 3 ∨ 11 = 11) (by decide) (by decide)) hP1.2.1, hP1.2.2⟩ (FrB_s (by decide : (11 : Nat) = 3 ∨ 11 = 11) hF1) ((OU_t hR1 zc29).2.2.trans h3) (fun zk hk => ?_) (by omega) ?_
        · have z1 := bcF_4 (zf := zg1.2.1 18) (zb := zb) (zs := tS zb zn zp) (za := 16 * zt.1 2 + 4 * zr) (zg := zc) (fun zj hj => by rw [hR1.1.2.2.1 18 (by decide) (by decide)]; exact hC zj hj) zk (by omega)
          exact z1
        · rw [← e, bk_s hk2 hb, show 16 * zt.1 2 + 4 * (zr + 1) = 16 * zt.1 2 + 4 * zr + 4 by omega]
      · skip
        refine ev_if_ne (pc := 37) (tgt := 42) dX5_takeBook_37 (by decide) (fun zc37 => absurd rfl zc37) (fun zc37 => ?_)
        refine ev_iconst (pc := 40) (v := 0) dX5_takeBook_40 (by decide) ?_
        refine ev_iret (pc := 41) dX5_takeBook_41 rfl ?_ ?_
        · first | rfl | exact nar_bI _ | (simp only [*]; exact nar_bI _) | (simp [narrow, *]; done)
        · exact ⟨0, rfl, LO_bad (FrD_t (FrB_D (FrB_s (zf := zf) (by decide : (11 : Nat) = 3 ∨ 11 = 11) hF1)) (FrD_T (rf_fr _ _))) ((bok_l zb zn zs zq zt (e.symm.trans (bk_b hk2 hb))).trans ((ck_0 (if_neg (show ¬ zt.1 2 = 4 by omega))).trans (ck_1 (show ¬ (3 : Nat) = 0 by decide)))) (show ¬ (3 : Nat) = 0 by decide) rfl (hN1 hk2)⟩
theorem cn_X5_takeBook_11 (E : ME) (h : AH) (zb : Nat → Nat) (zn zp zs : Nat) (zt : PSt) (hD : RDs 11 zb zn zp zt h) (hO : POK zt) (hs : h.2.1 1 2 = nI zs) : Con E mX5_takeBook 5 0 0 [.ref 19] h (fun r h' => ∃ zx, r = some (.int zx) ∧ LOz 11 zb zn (lnE zb zn (bokB zb zn zs zp zt)) h h' zx) := by
  refine con_of2 (L := [some (.ref 19), none]) rfl (Nat.le_of_ble_eq_true rfl) rfl ?_
  refine ev_aload_n (pc := 0) dX5_takeBook_0 rfl ?_
  refine ev_getR (pc := 1) (q := 11) dX5_takeBook_1 fX5_15 rfl (wlt hD.1.1 (by decide)) hD.2.1 ?_
  refine ev_callVv (S := []) (pc := 4) dX5_takeBook_4 kX8_patterns lX5_142 vX8_patterns (cn_X8_patterns_11 E h zt hD.1.1 hD.2.2.1 hO) rfl rfl (wlt hD.1.1 (by decide)) rfl rfl (Nat.le_of_ble_eq_true rfl) ⟨Nat.le_of_ble_eq_true rfl, Nat.le_of_ble_eq_true rfl⟩ ⟨Nat.le_of_ble_eq_true rfl, Nat.le_of_ble_eq_true rfl⟩ ?_
  refine ev_iconst (pc := 7) (v := 4) dX5_takeBook_7 (by decide) ?_
  refine ev_icmp_lt (pc := 8) (tgt := 17) dX5_takeBook_8 (by decide) (fun zc8 => ?_) (fun zc8 => ?_)
  · -- lt at 8: taken
    refine ev_iconst (pc := 17) (v := 0) dX5_takeBook_17 (by decide) ?_
    refine ev_istore_n (pc := 18) (L' := [some (.ref 19), some (.int 0)]) dX5_takeBook_18 (Nat.le_of_ble_eq_true rfl) rfl ?_
    have hm : zt.1 2 < 4 := (nI_ltI (a := zt.1 2) (b := 4) (by have := hO.2.1; omega) (by decide)).mp zc8
    exact lp_book_11 E h zb zn zs zp zt hD.2.1 hD.2.2 hm 4 0 zp (zt.2 6) h hD.1 (FrB_0 _ h) rfl (fun zk hk => hD.2.2.1.2.2.2.2.2 zk hk) rfl rfl
  · -- lt at 8: not taken
    refine ev_aload_n (pc := 11) dX5_takeBook_11 rfl ?_
    refine ev_iconst (pc := 12) (v := 5) dX5_takeBook_12 (by decide) ?_
    refine ev_callVv (S := []) (pc := 13) dX5_takeBook_13 kX5_refuse lX5_40 vX5_refuse (cn_X5_refuse E h 5 hD.1.1) rfl rfl (wlt hD.1.1 (by decide)) rfl rfl (Nat.le_of_ble_eq_true rfl) ⟨Nat.le_of_ble_eq_true rfl, Nat.le_of_ble_eq_true rfl⟩ ⟨Nat.le_of_ble_eq_true rfl, Nat.le_of_ble_eq_true rfl⟩ ?_
    refine ev_eqH (h' := (rfH h 5)) rfl ?_
    refine ev_iret (pc := 16) dX5_takeBook_16 rfl ?_ ?_
    · first | rfl | exact nar_bI _ | (simp only [*]; exact nar_bI _) | (simp [narrow, *]; done)
    · have z12 : zt.1 2 = 4 := by
        have z1 := hO.2.1
        have z2 : ¬ zt.1 2 < 4 := fun z => zc8 (nI_lt (a := zt.1 2) (b := 4) z (by decide))
        omega
      exact ⟨0, rfl, LO_bad (FrD_T (rf_fr _ _)) ((bok_l zb zn zs zp zt rfl).trans (ck_1 (show ¬ (if zt.1 2 = 4 then 5 else 0) = 0 by rw [if_pos z12]; decide))) (by rw [if_pos z12]; decide) (show (5 : Int32) = nI (if zt.1 2 = 4 then 5 else 0) by rw [if_pos z12]; rfl) hs⟩
