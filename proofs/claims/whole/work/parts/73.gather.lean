/-- what the book says of a cell, copies below zn -/
def bkS (zc : Nat → Nat → Nat) (zf : Nat → Int32) (zn zk zj : Nat) : Prop := ∃ zi, zi < zn ∧ 4 ≤ acV zc zf zi ∧ tcN zc zi zj = zk
theorem lp_gbk_23 (E : ME) (h : AH) (zn : Nat) (zP : Nat → Nat → Prop) (zc : Nat → Nat → Nat) (zb : Nat) (zf : Nat → Int32) (zx : Int64) (hw : WF h) (hp : h.2.1 30 1 = nI zb) (hp4 : zb ≤ 4) (hS : SHz zc zb h) (hF : FLz zf zx h) (hn : zn < zb * 208) {post : PO} (K : ∀ zr, SDr (fun zk zj => zP zk zj ∨ tcN zc zn zj = zk) zr → Ev E mX3_gatherBook (rmm 3 0 0) (QM E 0 0 post) 0 0 49 [some (.ref 32), some (.ref 25), some (.ref 30), some (.int (nI zn)), none] [] (sL h 33 zr)) : ∀ (zq zi : Nat) (zr : Nat → Int64), zi + zq = 6 → SDr (fun zk zj => zP zk zj ∨ (tcN zc zn zj = zk ∧ zk < zi)) zr → Ev E mX3_gatherBook (rmm 3 0 0) (QM E 0 0 post) 0 0 23 [some (.ref 32), some (.ref 25), some (.ref 30), some (.int (nI zn)), some (.int (nI zi))] [] (sL h 33 zr) := by
  intro zq
  induction zq with
  | zero =>
    intro zi zr hz hD
    obtain rfl : 6 = zi := by omega
    refine ev_iload (pc := 23) dX3_gatherBook_23 rfl ?_
    refine ev_bipush (pc := 25) (v := 6) dX3_gatherBook_25 (by decide) ?_
    refine ev_icmp_ge (pc := 27) (tgt := 49) dX3_gatherBook_27 (by decide) (fun zc27 => ?_) (fun zc27 => absurd (by decide) zc27)
    refine ev_less (L' := [some (.ref 32), some (.ref 25), some (.ref 30), some (.int (nI zn)), none]) (ls_keep (ls_keep (ls_keep (ls_keep (ls_drop (ls_nil _)))))) ?_
    exact K zr (SD_c hD (fun zk hk zj hj => ⟨fun z => z.elim Or.inl (fun z2 => Or.inr z2.1), fun z => z.elim Or.inl (fun z2 => Or.inr ⟨z2, hk⟩)⟩))
  | succ zq ih =>
    intro zi zr hz hD
    have hi : zi < 6 := by omega
    refine ev_iload (pc := 23) dX3_gatherBook_23 rfl ?_
    refine ev_bipush (pc := 25) (v := 6) dX3_gatherBook_25 (by decide) ?_
    refine ev_icmp_ge (pc := 27) (tgt := 49) dX3_gatherBook_27 (by decide) (fun zc27 => absurd zc27 (nI_ge (a := zi) (b := 6) hi (by decide))) (fun zc27 => ?_)
    refine ev_aload_n (pc := 30) dX3_gatherBook_30 rfl ?_
    refine ev_iload (pc := 31) dX3_gatherBook_31 rfl ?_
    refine ev_aload_n (pc := 33) dX3_gatherBook_33 rfl ?_
    refine ev_iload_n (pc := 34) dX3_gatherBook_34 rfl ?_
    refine ev_iload (pc := 35) dX3_gatherBook_35 rfl ?_
    refine ev_callVv (S := [.int (nI zi), .ref 32]) (pc := 37) dX3_gatherBook_37 kX0_toldCells lX3_64 vX0_toldCells (cn_X0_toldCells E (sL h 33 zr) zn zi zb (wf_sL hw) hp hp4 hn hi) rfl rfl (wlt (wf_sL hw) (by decide)) rfl rfl (Nat.le_of_ble_eq_true rfl) ⟨Nat.le_of_ble_eq_true rfl, Nat.le_of_ble_eq_true rfl⟩ ⟨Nat.le_of_ble_eq_true rfl, Nat.le_of_ble_eq_true rfl⟩ ?_
    refine ev_callV (S := []) (pc := 40) dX3_gatherBook_40 kX3_say lX3_51 vX3_say (cn_X3_sayV E h (nI zi) (toL (sL h 33 zr) zn zi) _ zr hw hD (Or.inr ⟨zi, hi, rfl⟩)) rfl rfl (wlt (wf_sL hw) (by decide)) rfl rfl (Nat.le_of_ble_eq_true rfl) ⟨Nat.le_of_ble_eq_true rfl, Nat.le_of_ble_eq_true rfl⟩ ⟨Nat.le_of_ble_eq_true rfl, Nat.le_of_ble_eq_true rfl⟩ ?_
    rintro _ _ ⟨rfl, zr2, rfl, hD2⟩
    refine ev_iinc (pc := 43) (v := nI (zi + 1)) (L' := [some (.ref 32), some (.ref 25), some (.ref 30), some (.int (nI zn)), some (.int (nI (zi + 1)))]) dX3_gatherBook_43 rfl (nI_1 _) (Nat.le_of_ble_eq_true rfl) rfl ?_
    refine ev_goto (pc := 46) (tgt := 23) dX3_gatherBook_46 (by decide) ?_
    refine ih (zi + 1) zr2 (by omega) (SD_c hD2 (fun zk hk zj hj => ?_))
    have hto : lbt (toL (sL h 33 zr) zn zi) zj = decide (tcN zc zn zj = zi) := to_bt (h := sL h 33 zr) hS hn hi hj
    rw [hto, decide_eq_true_iff, nI_eq (by omega) (by omega)]
    constructor
    · rintro ((z | ⟨a, b⟩) | ⟨a, b⟩)
      · exact Or.inl z
      · exact Or.inr ⟨a, by omega⟩
      · exact Or.inr ⟨by omega, by omega⟩
    · rintro (z | ⟨a, b⟩)
      · exact Or.inl (Or.inl z)
      · by_cases e : zk = zi
        · exact Or.inr ⟨by omega, by omega⟩
        · exact Or.inl (Or.inr ⟨a, by omega⟩)
theorem lp_gbk_2 (E : ME) (h : AH) (zP : Nat → Nat → Prop) (zc : Nat → Nat → Nat) (zb : Nat) (zf : Nat → Int32) (zx : Int64) (hw : WF h) (hp : h.2.1 30 1 = nI zb) (hp4 : zb ≤ 4) (hS : SHz zc zb h) (hF : FLz zf zx h) {post : PO} (K : ∀ zr, SDr (fun zk zj => zP zk zj ∨ bkS zc zf (zb * 208) zk zj) zr → Ev E mX3_gatherBook (rmm 3 0 0) (QM E 0 0 post) 0 0 55 [some (.ref 32), some (.ref 25), some (.ref 30), some (.int (nI (zb * 208))), none] [] (sL h 33 zr)) : ∀ (zq zi : Nat) (zr : Nat → Int64), zi + zq = zb * 208 → SDr (fun zk zj => zP zk zj ∨ bkS zc zf zi zk zj) zr → Ev E mX3_gatherBook (rmm 3 0 0) (QM E 0 0 post) 0 0 2 [some (.ref 32), some (.ref 25), some (.ref 30), some (.int (nI zi)), none] [] (sL h 33 zr) := by
  intro zq
  induction zq with
  | zero =>
    intro zi zr hz hD
    obtain rfl : zb * 208 = zi := by omega
    refine ev_iload_n (pc := 2) dX3_gatherBook_2 rfl ?_
    refine ev_aload_n (pc := 3) dX3_gatherBook_3 rfl ?_
    refine ev_callVv (S := [.int (nI (zb * 208))]) (pc := 4) dX3_gatherBook_4 kX0_numbers lX3_55 vX0_numbers (cn_X0_numbers E (sL h 33 zr) zb (wf_sL hw) hp hp4) rfl rfl (wlt (wf_sL hw) (by decide)) rfl rfl (Nat.le_of_ble_eq_true rfl) ⟨Nat.le_of_ble_eq_true rfl, Nat.le_of_ble_eq_true rfl⟩ ⟨Nat.le_of_ble_eq_true rfl, Nat.le_of_ble_eq_true rfl⟩ ?_
    refine ev_icmp_ge (pc := 7) (tgt := 55) dX3_gatherBook_7 (by decide) (fun zc7 => ?_) (fun zc7 => absurd (nI_le (Nat.le_refl _) (by omega)) zc7)
    exact K zr hD
  | succ zq ih =>
    intro zi zr hz hD
    have hlt : zi < zb * 208 := by omega
    refine ev_iload_n (pc := 2) dX3_gatherBook_2 rfl ?_
    refine ev_aload_n (pc := 3) dX3_gatherBook_3 rfl ?_
    refine ev_callVv (S := [.int (nI zi)]) (pc := 4) dX3_gatherBook_4 kX0_numbers lX3_55 vX0_numbers (cn_X0_numbers E (sL h 33 zr) zb (wf_sL hw) hp hp4) rfl rfl (wlt (wf_sL hw) (by decide)) rfl rfl (Nat.le_of_ble_eq_true rfl) ⟨Nat.le_of_ble_eq_true rfl, Nat.le_of_ble_eq_true rfl⟩ ⟨Nat.le_of_ble_eq_true rfl, Nat.le_of_ble_eq_true rfl⟩ ?_
    refine ev_icmp_ge (pc := 7) (tgt := 55) dX3_gatherBook_7 (by decide) (fun zc7 => absurd zc7 (nI_ge hlt (by omega))) (fun zc7 => ?_)
    refine ev_aload_n (pc := 10) dX3_gatherBook_10 rfl ?_
    refine ev_iload_n (pc := 11) dX3_gatherBook_11 rfl ?_
    refine ev_aload_n (pc := 12) dX3_gatherBook_12 rfl ?_
    refine ev_callVv (S := []) (pc := 13) dX3_gatherBook_13 kX0_agreesCleanly lX3_60 vX0_agreesCleanly (cn_X0_agreesCleanly E (sL h 33 zr) zi zc zb zf zx (wf_sL hw) hp hp4 hS hlt hF) rfl rfl (wlt (wf_sL hw) (by decide)) rfl rfl (Nat.le_of_ble_eq_true rfl) ⟨Nat.le_of_ble_eq_true rfl, Nat.le_of_ble_eq_true rfl⟩ ⟨Nat.le_of_ble_eq_true rfl, Nat.le_of_ble_eq_true rfl⟩ ?_
    refine ev_iconst (pc := 16) (v := 4) dX3_gatherBook_16 (by decide) ?_
    refine ev_icmp_lt (pc := 17) (tgt := 49) dX3_gatherBook_17 (by decide) (fun zc17 => ?_) (fun zc17 => ?_)
    · -- lt at 17: taken
      refine ev_iinc (pc := 49) (v := nI (zi + 1)) (L' := [some (.ref 32), some (.ref 25), some (.ref 30), some (.int (nI (zi + 1))), none]) dX3_gatherBook_49 rfl (nI_1 _) (Nat.le_of_ble_eq_true rfl) rfl ?_
      refine ev_goto (pc := 52) (tgt := 2) dX3_gatherBook_52 (by decide) ?_
      refine ev_less (L' := [some (.ref 32), some (.ref 25), some (.ref 30), some (.int (nI (zi + 1))), none]) (ls_keep (ls_keep (ls_keep (ls_keep (ls_keep (ls_nil _)))))) ?_
      refine ih (zi + 1) zr (by omega) (SD_c hD (fun zk hk zj hj => ?_))
      constructor
      · rintro (z | ⟨za, a, b⟩)
        · exact Or.inl z
        · exact Or.inr ⟨za, by omega, b⟩
      · rintro (z | ⟨za, a, b, c⟩)
        · exact Or.inl z
        · by_cases e : za = zi
          · subst e; exact absurd b ((i_le2 _ _).mpr zc17)
          · exact Or.inr ⟨za, by omega, b, c⟩
    · -- lt at 17: not taken
      refine ev_iconst (pc := 20) (v := 0) dX3_gatherBook_20 (by decide) ?_
      refine ev_istore (pc := 21) (L' := [some (.ref 32), some (.ref 25), some (.ref 30), some (.int (nI zi)), some (.int 0)]) dX3_gatherBook_21 (Nat.le_of_ble_eq_true rfl) rfl ?_
      refine lp_gbk_23 E h zi (fun zk zj => zP zk zj ∨ bkS zc zf zi zk zj) zc zb zf zx hw hp hp4 hS hF hlt (fun zr2 hD2 => ?_) 6 0 zr (by decide) (SD_c hD (fun zk _ zj _ => ⟨Or.inl, fun z => z.elim id (fun z2 => absurd z2.2 (Nat.not_lt_zero _))⟩))
      refine ev_iinc (pc := 49) (v := nI (zi + 1)) (L' := [some (.ref 32), some (.ref 25), some (.ref 30), some (.int (nI (zi + 1))), none]) dX3_gatherBook_49 rfl (nI_1 _) (Nat.le_of_ble_eq_true rfl) rfl ?_
      refine ev_goto (pc := 52) (tgt := 2) dX3_gatherBook_52 (by decide) ?_
      refine ih (zi + 1) zr2 (by omega) (SD_c hD2 (fun zk hk zj hj => ?_))
      constructor
      · rintro ((z | ⟨za, a, b⟩) | z)
        · exact Or.inl z
        · exact Or.inr ⟨za, by omega, b⟩
        · exact Or.inr ⟨zi, by omega, (i_lt2 _ _).mp zc17, z⟩
      · rintro (z | ⟨za, a, b, c⟩)
        · exact Or.inl (Or.inl z)
        · by_cases e : za = zi
          · subst e; exact Or.inr c
          · exact Or.inl (Or.inr ⟨za, by omega, b, c⟩)
theorem cn_X3_gbook (E : ME) (h : AH) (zP : Nat → Nat → Prop) (zr : Nat → Int64) (zc : Nat → Nat → Nat) (zb : Nat) (zf : Nat → Int32) (zx : Int64) (hw : WF h) (hp : h.2.1 30 1 = nI zb) (hp4 : zb ≤ 4) (hS : SHz zc zb h) (hF : FLz zf zx h) (hD : SDr zP zr) : Con E mX3_gatherBook 3 0 0 [.ref 32, .ref 25, .ref 30] (sL h 33 zr) (fun r h' => r = none ∧ ∃ zr2, h' = sL h 33 zr2 ∧ SDr (fun zk zj => zP zk zj ∨ bkS zc zf (zb * 208) zk zj) zr2) := by
  refine con_of2 (L := [some (.ref 32), some (.ref 25), some (.ref 30), none, none]) rfl (Nat.le_of_ble_eq_true rfl) rfl ?_
  refine ev_iconst (pc := 0) (v := 0) dX3_gatherBook_0 (by decide) ?_
  refine ev_istore_n (pc := 1) (L' := [some (.ref 32), some (.ref 25), some (.ref 30), some (.int 0), none]) dX3_gatherBook_1 (Nat.le_of_ble_eq_true rfl) rfl ?_
  refine lp_gbk_2 E h zP zc zb zf zx hw hp hp4 hS hF (fun zr2 hD2 => ?_) (zb * 208) 0 zr (Nat.zero_add _) (SD_c hD (fun zk _ zj _ => ⟨Or.inl, fun z => z.elim id (fun z2 => by obtain ⟨za, a, -⟩ := z2; omega)⟩))
  refine ev_ret (pc := 55) dX3_gatherBook_55 rfl ?_
  · exact ⟨rfl, zr2, rfl, hD2⟩
def gaP (zc : Nat → Nat → Nat) (zb : Nat) (zf : Nat → Int32) (zv : Int32) (zk zj : Nat) : Prop := (¬ zv = 1 ∧ syS zf 7 zk zj) ∨ (¬ zv = 0 ∧ bkS zc zf (zb * 208) zk zj)
theorem cn_X3_gather (E : ME) (h : AH) (zv : Int32) (zc : Nat → Nat → Nat) (zb : Nat) (zf : Nat → Int32) (zx : Int64) (hw : WF h) (hp : h.2.1 30 1 = nI zb) (hp4 : zb ≤ 4) (hS : SHz zc zb h) (hF : FLz zf zx h) (hI : IMz h) : Con E mX3_gather 5 0 0 [.ref 32, .ref 25, .ref 30, .int zv] h (fun r h' => r = none ∧ ∃ zr2, h' = sL h 33 zr2 ∧ SDr (gaP zc zb zf zv) zr2) := by
  refine con_of2 (L := [some (.ref 32), some (.ref 25), some (.ref 30), some (.int zv)]) rfl (Nat.le_of_ble_eq_true rfl) rfl ?_
  have hD0 : SDr (fun _ _ => False) (flL 0 (h.2.2.1 33) 6) := fun zk hk zj hj => by
    rw [flL_at, if_pos hk, lb_0]
    exact ⟨fun z => absurd z (by decide), fun z => False.elim z⟩
  refine ev_aload_n (pc := 0) dX3_gather_0 rfl ?_
  refine ev_getR (pc := 1) (q := 33) dX3_gather_1 fX3_9 rfl (wlt hw (by decide)) (wr hw rfl) ?_
  refine ev_lconst (pc := 4) (v := 0) dX3_gather_4 (by decide) ?_
  refine ev_callS0 (S := []) (pc := 5) dX3_gather_5 kJ7_fill_d0a16 lX3_15 sJ7_fill_d0a16 (cn_J7_fill_d0a16 E h 33 6 0 hw rfl (wlt hw (by decide)) (by decide)) rfl rfl (Nat.le_of_ble_eq_true rfl) ⟨Nat.le_of_ble_eq_true rfl, Nat.le_of_ble_eq_true rfl⟩ ⟨Nat.le_of_ble_eq_true rfl, Nat.le_of_ble_eq_true rfl⟩ ?_
  refine ev_eqH (h' := sL h 33 (flL 0 (h.2.2.1 33) 6)) rfl ?_
  refine ev_iload_n (pc := 8) dX3_gather_8 rfl ?_
  refine ev_iconst (pc := 9) (v := 1) dX3_gather_9 (by decide) ?_
  refine ev_icmp_eq (pc := 10) (tgt := 18) dX3_gather_10 (by decide) (fun zc10 => ?_) (fun zc10 => ?_)
  · -- eq at 10: taken
    refine ev_iload_n (pc := 18) dX3_gather_18 rfl ?_
    refine ev_if_eq (pc := 19) (tgt := 28) dX3_gather_19 (by decide) (fun zc19 => ?_) (fun zc19 => ?_)
    · -- eq at 19: taken
      refine ev_ret (pc := 28) dX3_gather_28 rfl ?_
      · rw [zc10] at zc19
        exact absurd zc19 (by decide)
    · -- eq at 19: not taken
      refine ev_aload_n (pc := 22) dX3_gather_22 rfl ?_
      refine ev_aload_n (pc := 23) dX3_gather_23 rfl ?_
      refine ev_aload_n (pc := 24) dX3_gather_24 rfl ?_
      refine ev_callV (S := []) (pc := 25) dX3_gather_25 kX3_gatherBook lX3_25 vX3_gatherBook (cn_X3_gbook E h _ _ zc zb zf zx hw hp hp4 hS hF hD0) rfl rfl (wlt (wf_sL hw) (by decide)) rfl rfl (Nat.le_of_ble_eq_true rfl) ⟨Nat.le_of_ble_eq_true rfl, Nat.le_of_ble_eq_true rfl⟩ ⟨Nat.le_of_ble_eq_true rfl, Nat.le_of_ble_eq_true rfl⟩ ?_
      rintro _ _ ⟨rfl, zr3, rfl, hD3⟩
      refine ev_ret (pc := 28) dX3_gather_28 rfl ?_
      · refine ⟨rfl, zr3, rfl, SD_c hD3 (fun zk hk zj hj => ?_)⟩
        unfold gaP
        constructor
        · rintro (z | z)
          · exact z.elim
          · exact Or.inr ⟨zc19, z⟩
        · rintro (z | z)
          · exact absurd zc10 z.1
          · exact Or.inr z.2
  · -- eq at 10: not taken
    refine ev_aload_n (pc := 13) dX3_gather_13 rfl ?_
    refine ev_aload_n (pc := 14) dX3_gather_14 rfl ?_
    refine ev_callV (S := []) (pc := 15) dX3_gather_15 kX3_gatherSymmetry lX3_21 vX3_gatherSymmetry (cn_X3_gsym E h _ _ zf zx hw hF hI hD0) rfl rfl (wlt (wf_sL hw) (by decide)) rfl rfl (Nat.le_of_ble_eq_true rfl) ⟨Nat.le_of_ble_eq_true rfl, Nat.le_of_ble_eq_true rfl⟩ ⟨Nat.le_of_ble_eq_true rfl, Nat.le_of_ble_eq_true rfl⟩ ?_
    rintro _ _ ⟨rfl, zr2, rfl, hD2⟩
    refine ev_iload_n (pc := 18) dX3_gather_18 rfl ?_
    refine ev_if_eq (pc := 19) (tgt := 28) dX3_gather_19 (by decide) (fun zc19 => ?_) (fun zc19 => ?_)
    · -- eq at 19: taken
      refine ev_ret (pc := 28) dX3_gather_28 rfl ?_
      · refine ⟨rfl, zr2, rfl, SD_c hD2 (fun zk hk zj hj => ?_)⟩
        unfold gaP
        constructor
        · rintro (z | z)
          · exact z.elim
          · exact Or.inl ⟨zc10, z⟩
        · rintro (z | z)
          · exact Or.inr z.2
          · exact absurd zc19 z.1
    · -- eq at 19: not taken
      refine ev_aload_n (pc := 22) dX3_gather_22 rfl ?_
      refine ev_aload_n (pc := 23) dX3_gather_23 rfl ?_
      refine ev_aload_n (pc := 24) dX3_gather_24 rfl ?_
      refine ev_callV (S := []) (pc := 25) dX3_gather_25 kX3_gatherBook lX3_25 vX3_gatherBook (cn_X3_gbook E h _ _ zc zb zf zx hw hp hp4 hS hF hD2) rfl rfl (wlt (wf_sL hw) (by decide)) rfl rfl (Nat.le_of_ble_eq_true rfl) ⟨Nat.le_of_ble_eq_true rfl, Nat.le_of_ble_eq_true rfl⟩ ⟨Nat.le_of_ble_eq_true rfl, Nat.le_of_ble_eq_true rfl⟩ ?_
      rintro _ _ ⟨rfl, zr3, rfl, hD3⟩
      refine ev_ret (pc := 28) dX3_gather_28 rfl ?_
      · refine ⟨rfl, zr3, rfl, SD_c hD3 (fun zk hk zj hj => ?_)⟩
        unfold gaP
        constructor
        · rintro ((z | z) | z)
          · exact z.elim
          · exact Or.inl ⟨zc10, z⟩
          · exact Or.inr ⟨zc19, z⟩
        · rintro (z | z)
          · exact Or.inl (Or.inr z.2)
          · exact Or.inr z.2
def vdN (zp : Nat → Bool) : Nat → Int32
  | 0 => -4
  | zk + 1 => if zp zk then (if vdN zp zk = -4 then nI zk else -2) else vdN zp zk
def onL (zr : Nat → Int64) : Nat → Int64
  | 0 => 0
  | zk + 1 => onL zr zk ||| zr zk
def unL (zr : Nat → Int64) : Nat → Int64
  | 0 => 0
  | zk + 1 => unL zr zk ||| (onL zr zk &&& zr zk)
theorem lp_verdict (E : ME) (h : AH) (zi : Nat) (hw : WF h) (hz : zi < 64) {post : PO} (K : Ev E mX3_verdict (rmm 1 0 0) (QM E 0 0 post) 0 0 43 [some (.ref 32), some (.int (nI zi)), some (.int (vdN (fun zk => lbt (h.2.2.1 33 zk) zi) 6)), some (.int (nI 6))] [] h) : ∀ n i : Nat, i + n = 6 → Ev E mX3_verdict (rmm 1 0 0) (QM E 0 0 post) 0 0 5 [some (.ref 32), some (.int (nI zi)), some (.int (vdN (fun zk => lbt (h.2.2.1 33 zk) zi) i)), some (.int (nI i))] [] h := by
  intro n
  induction n with
  | zero =>
    intro i hi
    obtain rfl : 6 = i := by omega
    refine ev_iload_n (pc := 5) dX3_verdict_5 rfl ?_
    refine ev_bipush (pc := 6) (v := 6) dX3_verdict_6 (by decide) ?_
    refine ev_icmp_ge (pc := 8) (tgt := 43) dX3_verdict_8 (by decide) (fun zc8 => ?_) (fun zc8 => absurd (by decide) zc8)
    exact K
  | succ n ih =>
    intro i hi
    have hlt : i < 6 := by omega
    refine ev_iload_n (pc := 5) dX3_verdict_5 rfl ?_
    refine ev_bipush (pc := 6) (v := 6) dX3_verdict_6 (by decide) ?_
    refine ev_icmp_ge (pc := 8) (tgt := 43) dX3_verdict_8 (by decide) (fun zc8 => absurd zc8 (nI_ge (a := i) (b := 6) hlt (by decide))) (fun zc8 => ?_)
    refine ev_aload_n (pc := 11) dX3_verdict_11 rfl ?_
    refine ev_getR (pc := 12) (q := 33) dX3_verdict_12 fX3_9 rfl (wlt hw (by decide)) (wr hw rfl) ?_
    refine ev_iload_n (pc := 15) dX3_verdict_15 rfl ?_
    refine ev_lald (pc := 16) dX3_verdict_16 rfl (wlt hw (by decide)) (vp_in_nI (by omega) (by decide)) ?_
    refine ev_eqJ (e' := h.2.2.1 33 i) (by rw [show Int32.toNatClampNeg (nI i) = i from nI_clamp (by omega)] <;> rfl) ?_
    refine ev_iload_n (pc := 17) dX3_verdict_17 rfl ?_
    refine ev_callSv (S := []) (pc := 18) dX3_verdict_18 kX10_hasCell lX3_77 sX10_hasCell (cn_X10_hasCell E h (h.2.2.1 33 i) zi hw hz) rfl rfl (Nat.le_of_ble_eq_true rfl) ⟨Nat.le_of_ble_eq_true rfl, Nat.le_of_ble_eq_true rfl⟩ ⟨Nat.le_of_ble_eq_true rfl, Nat.le_of_ble_eq_true rfl⟩ ?_
    refine ev_if_eq (pc := 21) (tgt := 37) dX3_verdict_21 (by decide) (fun zc21 => ?_) (fun zc21 => ?_)
    · -- eq at 21: taken
      refine ev_iinc (pc := 37) (v := nI (i + 1)) (L' := [some (.ref 32), some (.int (nI zi)), some (.int (vdN (fun zk => lbt (h.2.2.1 33 zk) zi) i)), some (.int (nI (i + 1)))]) dX3_verdict_37 rfl (nI_1 _) (Nat.le_of_ble_eq_true rfl) rfl ?_
      refine ev_goto (pc := 40) (tgt := 5) dX3_verdict_40 (by decide) ?_
      refine ev_eqL (L' := [some (.ref 32), some (.int (nI zi)), some (.int (vdN (fun zk => lbt (h.2.2.1 33 zk) zi) (i + 1))), some (.int (nI (i + 1)))]) (by rw [vdN, if_neg (bI_0.mp zc21)]) ?_
      exact ih (i + 1) (by omega)
    · -- eq at 21: not taken
      refine ev_iload_n (pc := 24) dX3_verdict_24 rfl ?_
      refine ev_bipush (pc := 25) (v := (-4)) dX3_verdict_25 (by decide) ?_
      refine ev_icmp_ne (pc := 27) (tgt := 34) dX3_verdict_27 (by decide) (fun zc27 => ?_) (fun zc27 => ?_)
      · -- ne at 27: taken
        refine ev_bipush (pc := 34) (v := (-2)) dX3_verdict_34 (by decide) ?_
        refine ev_istore_n (pc := 36) (L' := [some (.ref 32), some (.int (nI zi)), some (.int ((-2))), some (.int (nI i))]) dX3_verdict_36 (Nat.le_of_ble_eq_true rfl) rfl ?_
        refine ev_iinc (pc := 37) (v := nI (i + 1)) (L' := [some (.ref 32), some (.int (nI zi)), some (.int ((-2))), some (.int (nI (i + 1)))]) dX3_verdict_37 rfl (nI_1 _) (Nat.le_of_ble_eq_true rfl) rfl ?_
        refine ev_goto (pc := 40) (tgt := 5) dX3_verdict_40 (by decide) ?_
        refine ev_eqL (L' := [some (.ref 32), some (.int (nI zi)), some (.int (vdN (fun zk => lbt (h.2.2.1 33 zk) zi) (i + 1))), some (.int (nI (i + 1)))]) (by rw [vdN, if_pos (bI_n0.mp zc21), if_neg zc27]) ?_
        exact ih (i + 1) (by omega)
      · -- ne at 27: not taken
        refine ev_iload_n (pc := 30) dX3_verdict_30 rfl ?_
        refine ev_goto (pc := 31) (tgt := 36) dX3_verdict_31 (by decide) ?_
        refine ev_istore_n (pc := 36) (L' := [some (.ref 32), some (.int (nI zi)), some (.int (nI i)), some (.int (nI i))]) dX3_verdict_36 (Nat.le_of_ble_eq_true rfl) rfl ?_
        refine ev_iinc (pc := 37) (v := nI (i + 1)) (L' := [some (.ref 32), some (.int (nI zi)), some (.int (nI i)), some (.int (nI (i + 1)))]) dX3_verdict_37 rfl (nI_1 _) (Nat.le_of_ble_eq_true rfl) rfl ?_
        refine ev_goto (pc := 40) (tgt := 5) dX3_verdict_40 (by decide) ?_
        refine ev_eqL (L' := [some (.ref 32), some (.int (nI zi)), some (.int (vdN (fun zk => lbt (h.2.2.1 33 zk) zi) (i + 1))), some (.int (nI (i + 1)))]) (by rw [vdN, if_pos (bI_n0.mp zc21), if_pos zc27]) ?_
        exact ih (i + 1) (by omega)
theorem cn_X3_verdict (E : ME) (h : AH) (zi : Nat) (hw : WF h) (hz : zi < 64) : Con E mX3_verdict 1 0 0 [.ref 32, .int (nI zi)] h (fun r h' => r = some (.int (vdN (fun zk => lbt (h.2.2.1 33 zk) zi) 6)) ∧ h' = h) := by
  refine con_of2 (L := [some (.ref 32), some (.int (nI zi)), none, none]) rfl (Nat.le_of_ble_eq_true rfl) rfl ?_
  refine ev_bipush (pc := 0) (v := (-4)) dX3_verdict_0 (by decide) ?_
  refine ev_istore_n (pc := 2) (L' := [some (.ref 32), some (.int (nI zi)), some (.int ((-4))), none]) dX3_verdict_2 (Nat.le_of_ble_eq_true rfl) rfl ?_
  refine ev_iconst (pc := 3) (v := 0) dX3_verdict_3 (by decide) ?_
  refine ev_istore_n (pc := 4) (L' := [some (.ref 32), some (.int (nI zi)), some (.int ((-4))), some (.int 0)]) dX3_verdict_4 (Nat.le_of_ble_eq_true rfl) rfl ?_
  refine lp_verdict E h zi hw hz ?_ 6 0 (Nat.zero_add _)
  refine ev_iload_n (pc := 43) dX3_verdict_43 rfl ?_
  refine ev_iret (pc := 44) dX3_verdict_44 rfl ?_ ?_
  · rfl
  · exact ⟨rfl, rfl⟩
theorem lp_nothing (E : ME) (h : AH) (hw : WF h) {post : PO} (K : Ev E mX3_saidNothing (rmm 0 0 0) (QM E 0 0 post) 0 0 25 [some (.ref 32), some (.long (onL (h.2.2.1 33) 6)), none, some (.int (nI 6))] [] h) : ∀ n i : Nat, i + n = 6 → Ev E mX3_saidNothing (rmm 0 0 0) (QM E 0 0 post) 0 0 4 [some (.ref 32), some (.long (onL (h.2.2.1 33) i)), none, some (.int (nI i))] [] h := by
  intro n
  induction n with
  | zero =>
    intro i hi
    obtain rfl : 6 = i := by omega
    refine ev_iload_n (pc := 4) dX3_saidNothing_4 rfl ?_
    refine ev_bipush (pc := 5) (v := 6) dX3_saidNothing_5 (by decide) ?_
    refine ev_icmp_ge (pc := 7) (tgt := 25) dX3_saidNothing_7 (by decide) (fun zc7 => ?_) (fun zc7 => absurd (by decide) zc7)
    exact K
  | succ n ih =>
    intro i hi
    have hlt : i < 6 := by omega
    refine ev_iload_n (pc := 4) dX3_saidNothing_4 rfl ?_
    refine ev_bipush (pc := 5) (v := 6) dX3_saidNothing_5 (by decide) ?_
    refine ev_icmp_ge (pc := 7) (tgt := 25) dX3_saidNothing_7 (by decide) (fun zc7 => absurd zc7 (nI_ge (a := i) (b := 6) hlt (by decide))) (fun zc7 => ?_)
    refine ev_lload_n (pc := 10) dX3_saidNothing_10 rfl ?_
    refine ev_aload_n (pc := 11) dX3_saidNothing_11 rfl ?_
    refine ev_getR (pc := 12) (q := 33) dX3_saidNothing_12 fX3_9 rfl (wlt hw (by decide)) (wr hw rfl) ?_
    refine ev_iload_n (pc := 15) dX3_saidNothing_15 rfl ?_
    refine ev_lald (pc := 16) dX3_saidNothing_16 rfl (wlt hw (by decide)) (vp_in_nI (by omega) (by decide)) ?_
    refine ev_eqJ (e' := h.2.2.1 33 i) (by rw [show Int32.toNatClampNeg (nI i) = i from nI_clamp (by omega)] <;> rfl) ?_
    refine ev_lor (pc := 17) dX3_saidNothing_17 ?_
    refine ev_lstore_n (pc := 18) (L' := [some (.ref 32), some (.long ((onL (h.2.2.1 33) i) ||| (h.2.2.1 33 i))), none, some (.int (nI i))]) dX3_saidNothing_18 (Nat.le_of_ble_eq_true rfl) rfl ?_
    refine ev_iinc (pc := 19) (v := nI (i + 1)) (L' := [some (.ref 32), some (.long ((onL (h.2.2.1 33) i) ||| (h.2.2.1 33 i))), none, some (.int (nI (i + 1)))]) dX3_saidNothing_19 rfl (nI_1 _) (Nat.le_of_ble_eq_true rfl) rfl ?_
    refine ev_goto (pc := 22) (tgt := 4) dX3_saidNothing_22 (by decide) ?_
    exact ih (i + 1) (by omega)
theorem cn_X3_saidNothing (E : ME) (h : AH)  (hw : WF h) : Con E mX3_saidNothing 0 0 0 [.ref 32] h (fun r h' => r = some (.long (onL (h.2.2.1 33) 6 ^^^ (-1))) ∧ h' = h) := by
  refine con_of2 (L := [some (.ref 32), none, none, none]) rfl (Nat.le_of_ble_eq_true rfl) rfl ?_
  refine ev_lconst (pc := 0) (v := 0) dX3_saidNothing_0 (by decide) ?_
  refine ev_lstore_n (pc := 1) (L' := [some (.ref 32), some (.long 0), none, none]) dX3_saidNothing_1 (Nat.le_of_ble_eq_true rfl) rfl ?_
  refine ev_iconst (pc := 2) (v := 0) dX3_saidNothing_2 (by decide) ?_
  refine ev_istore_n (pc := 3) (L' := [some (.ref 32), some (.long 0), none, some (.int 0)]) dX3_saidNothing_3 (Nat.le_of_ble_eq_true rfl) rfl ?_
  refine lp_nothing E h hw ?_ 6 0 (Nat.zero_add _)
  refine ev_lload_n (pc := 25) dX3_saidNothing_25 rfl ?_
  refine ev_ldc2 (pc := 26) (v := (-1)) dX3_saidNothing_26 kcX3_68 ?_
  refine ev_lxor (pc := 29) dX3_saidNothing_29 ?_
  refine ev_lret (pc := 30) dX3_saidNothing_30 rfl ?_
  · exact ⟨rfl, rfl⟩
theorem lp_unlike (E : ME) (h : AH) (hw : WF h) {post : PO} (K : Ev E mX3_saidUnlike (rmm 0 0 0) (QM E 0 0 post) 0 0 42 [some (.ref 32), some (.long (onL (h.2.2.1 33) 6)), none, some (.long (unL (h.2.2.1 33) 6)), none, some (.int (nI 6))] [] h) : ∀ n i : Nat, i + n = 6 → Ev E mX3_saidUnlike (rmm 0 0 0) (QM E 0 0 post) 0 0 7 [some (.ref 32), some (.long (onL (h.2.2.1 33) i)), none, some (.long (unL (h.2.2.1 33) i)), none, some (.int (nI i))] [] h := by
  intro n
  induction n with
  | zero =>
    intro i hi
    obtain rfl : 6 = i := by omega
    refine ev_iload (pc := 7) dX3_saidUnlike_7 rfl ?_
    refine ev_bipush (pc := 9) (v := 6) dX3_saidUnlike_9 (by decide) ?_
    refine ev_icmp_ge (pc := 11) (tgt := 42) dX3_saidUnlike_11 (by decide) (fun zc11 => ?_) (fun zc11 => absurd (by decide) zc11)
    exact K
  | succ n ih =>
    intro i hi
    have hlt : i < 6 := by omega
    refine ev_iload (pc := 7) dX3_saidUnlike_7 rfl ?_
    refine ev_bipush (pc := 9) (v := 6) dX3_saidUnlike_9 (by decide) ?_
    refine ev_icmp_ge (pc := 11) (tgt := 42) dX3_saidUnlike_11 (by decide) (fun zc11 => absurd zc11 (nI_ge (a := i) (b := 6) hlt (by decide))) (fun zc11 => ?_)
    refine ev_lload_n (pc := 14) dX3_saidUnlike_14 rfl ?_
    refine ev_lload_n (pc := 15) dX3_saidUnlike_15 rfl ?_
    refine ev_aload_n (pc := 16) dX3_saidUnlike_16 rfl ?_
    refine ev_getR (pc := 17) (q := 33) dX3_saidUnlike_17 fX3_9 rfl (wlt hw (by decide)) (wr hw rfl) ?_
    refine ev_iload (pc := 20) dX3_saidUnlike_20 rfl ?_
    refine ev_lald (pc := 22) dX3_saidUnlike_22 rfl (wlt hw (by decide)) (vp_in_nI (by omega) (by decide)) ?_
    refine ev_eqJ (e' := h.2.2.1 33 i) (by rw [show Int32.toNatClampNeg (nI i) = i from nI_clamp (by omega)] <;> rfl) ?_
    refine ev_land (pc := 23) dX3_saidUnlike_23 ?_
    refine ev_lor (pc := 24) dX3_saidUnlike_24 ?_
    refine ev_lstore_n (pc := 25) (L' := [some (.ref 32), some (.long (onL (h.2.2.1 33) i)), none, some (.long ((unL (h.2.2.1 33) i) ||| ((onL (h.2.2.1 33) i) &&& (h.2.2.1 33 i)))), none, some (.int (nI i))]) dX3_saidUnlike_25 (Nat.le_of_ble_eq_true rfl) rfl ?_
    refine ev_lload_n (pc := 26) dX3_saidUnlike_26 rfl ?_
    refine ev_aload_n (pc := 27) dX3_saidUnlike_27 rfl ?_
    refine ev_getR (pc := 28) (q := 33) dX3_saidUnlike_28 fX3_9 rfl (wlt hw (by decide)) (wr hw rfl) ?_
    refine ev_iload (pc := 31) dX3_saidUnlike_31 rfl ?_
    refine ev_lald (pc := 33) dX3_saidUnlike_33 rfl (wlt hw (by decide)) (vp_in_nI (by omega) (by decide)) ?_
    refine ev_eqJ (e' := h.2.2.1 33 i) (by rw [show Int32.toNatClampNeg (nI i) = i from nI_clamp (by omega)] <;> rfl) ?_
    refine ev_lor (pc := 34) dX3_saidUnlike_34 ?_
    refine ev_lstore_n (pc := 35) (L' := [some (.ref 32), some (.long ((onL (h.2.2.1 33) i) ||| (h.2.2.1 33 i))), none, some (.long ((unL (h.2.2.1 33) i) ||| ((onL (h.2.2.1 33) i) &&& (h.2.2.1 33 i)))), none, some (.int (nI i))]) dX3_saidUnlike_35 (Nat.le_of_ble_eq_true rfl) rfl ?_
    refine ev_iinc (pc := 36) (v := nI (i + 1)) (L' := [some (.ref 32), some (.long ((onL (h.2.2.1 33) i) ||| (h.2.2.1 33 i))), none, some (.long ((unL (h.2.2.1 33) i) ||| ((onL (h.2.2.1 33) i) &&& (h.2.2.1 33 i)))), none, some (.int (nI (i + 1)))]) dX3_saidUnlike_36 rfl (nI_1 _) (Nat.le_of_ble_eq_true rfl) rfl ?_
    refine ev_goto (pc := 39) (tgt := 7) dX3_saidUnlike_39 (by decide) ?_
    exact ih (i + 1) (by omega)
theorem cn_X3_saidUnlike (E : ME) (h : AH)  (hw : WF h) : Con E mX3_saidUnlike 0 0 0 [.ref 32] h (fun r h' => r = some (.long (unL (h.2.2.1 33) 6)) ∧ h' = h) := by
  refine con_of2 (L := [some (.ref 32), none, none, none, none, none]) rfl (Nat.le_of_ble_eq_true rfl) rfl ?_
  refine ev_lconst (pc := 0) (v := 0) dX3_saidUnlike_0 (by decide) ?_
  refine ev_lstore_n (pc := 1) (L' := [some (.ref 32), some (.long 0), none, none, none, none]) dX3_saidUnlike_1 (Nat.le_of_ble_eq_true rfl) rfl ?_
  refine ev_lconst (pc := 2) (v := 0) dX3_saidUnlike_2 (by decide) ?_
  refine ev_lstore_n (pc := 3) (L' := [some (.ref 32), some (.long 0), none, some (.long 0), none, none]) dX3_saidUnlike_3 (Nat.le_of_ble_eq_true rfl) rfl ?_
  refine ev_iconst (pc := 4) (v := 0) dX3_saidUnlike_4 (by decide) ?_
  refine ev_istore (pc := 5) (L' := [some (.ref 32), some (.long 0), none, some (.long 0), none, some (.int 0)]) dX3_saidUnlike_5 (Nat.le_of_ble_eq_true rfl) rfl ?_
  refine lp_unlike E h hw ?_ 6 0 (Nat.zero_add _)
  refine ev_lload_n (pc := 42) dX3_saidUnlike_42 rfl ?_
  refine ev_lret (pc := 43) dX3_saidUnlike_43 rfl ?_
  · exact ⟨rfl, rfl⟩
theorem cn_X3_saidOnce (E : ME) (h : AH)  (hw : WF h) : Con E mX3_saidOnce 1 0 0 [.ref 32] h (fun r h' => r = some (.long (((onL (h.2.2.1 33) 6 ^^^ (-1)) ^^^ (-1)) &&& ((unL (h.2.2.1 33) 6) ^^^ (-1)))) ∧ h' = h) := by
  refine con_of2 (L := [some (.ref 32)]) rfl (Nat.le_of_ble_eq_true rfl) rfl ?_
  refine ev_aload_n (pc := 0) dX3_saidOnce_0 rfl ?_
  refine ev_callVv (S := []) (pc := 1) dX3_saidOnce_1 kX3_saidNothing lX3_70 vX3_saidNothing (cn_X3_saidNothing E h hw) rfl rfl (wlt hw (by decide)) rfl rfl (Nat.le_of_ble_eq_true rfl) ⟨Nat.le_of_ble_eq_true rfl, Nat.le_of_ble_eq_true rfl⟩ ⟨Nat.le_of_ble_eq_true rfl, Nat.le_of_ble_eq_true rfl⟩ ?_
  refine ev_ldc2 (pc := 4) (v := (-1)) dX3_saidOnce_4 kcX3_68 ?_
  refine ev_lxor (pc := 7) dX3_saidOnce_7 ?_
  refine ev_aload_n (pc := 8) dX3_saidOnce_8 rfl ?_
  refine ev_callVv (S := [.long ((onL (h.2.2.1 33) 6 ^^^ (-1)) ^^^ (-1))]) (pc := 9) dX3_saidOnce_9 kX3_saidUnlike lX3_74 vX3_saidUnlike (cn_X3_saidUnlike E h hw) rfl rfl (wlt hw (by decide)) rfl rfl (Nat.le_of_ble_eq_true rfl) ⟨Nat.le_of_ble_eq_true rfl, Nat.le_of_ble_eq_true rfl⟩ ⟨Nat.le_of_ble_eq_true rfl, Nat.le_of_ble_eq_true rfl⟩ ?_
  refine ev_ldc2 (pc := 12) (v := (-1)) dX3_saidOnce_12 kcX3_68 ?_
  refine ev_lxor (pc := 15) dX3_saidOnce_15 ?_
  refine ev_land (pc := 16) dX3_saidOnce_16 ?_
  refine ev_lret (pc := 17) dX3_saidOnce_17 rfl ?_
  · exact ⟨rfl, rfl⟩
