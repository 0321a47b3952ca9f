/-- a sheet was read -/
def RDz (zf : Nat → Int32) (zx : Int64) (zg : Nat → Int32) (zc zm zn : Nat) (zb : Int32) (h g : AH) : Prop := FLz (rdW zf zg zc zm zn) (rdL zx zc zn) g ∧ g.1 = h.1 ∧ g.2.2.2 = h.2.2.2 ∧ (∀ zk, zk ≠ 0 → zk ≠ 25 → zk ≠ 26 → g.2.1 zk = h.2.1 zk) ∧ (∀ zk, zk ≠ 25 → zk ≠ 27 → g.2.2.1 zk = h.2.2.1 zk) ∧ (∀ zj, zj ≠ 7 → g.2.1 25 zj = h.2.1 25 zj) ∧ (∀ zj, zj ≠ 11 → g.2.1 0 zj = h.2.1 0 zj) ∧ g.2.1 0 11 = zb ∧ ∃ zq, zq ≤ 64 ∧ g.2.1 25 7 = h.2.1 25 7 + nI zq ∧ (zq = 0 → rdW zf zg zc zm zn = zf)
theorem rd_G {zc zn : Int32} : ((0 ≤ zn ∧ zn ≤ 64) ∧ (0 ≤ zc ∧ zc ≤ 64 - zn)) ↔ (¬ zn < 0 ∧ ¬ zc < 0 ∧ zc.toInt + zn.toInt ≤ 64) := by
  have h1 := fb_rng zc
  have h2 := fb_rng zn
  have e64 : (64 : Int32).toInt = 64 := by decide
  constructor
  · rintro ⟨⟨a, b⟩, c, d⟩
    rw [i_le, i_z0] at a c
    rw [i_le, e64] at b
    rw [i_le, fb_subI (by rw [e64]; omega) (by rw [e64]; omega), e64] at d
    rw [i_lt, i_lt, i_z0]
    omega
  · rintro ⟨a, b, c⟩
    rw [i_lt, i_z0] at a b
    refine ⟨⟨by rw [i_le, i_z0]; omega, by rw [i_le, e64]; omega⟩, by rw [i_le, i_z0]; omega, ?_⟩
    rw [i_le, fb_subI (by rw [e64]; omega) (by rw [e64]; omega), e64]
    omega
theorem lp_cread_116_0 (E : ME) (h : AH) (za zf0 zb : Int32) (zc zn zz zm : Nat) (zf : Nat → Int32) (zx : Int64) (hw0 : WF h) (hl : h.2.1 41 3 = nI zz) (hl2 : zz ≤ 64) (h4 : ¬ h.2.1 41 2 = -4) (hcn : zc + zn ≤ 64) (hm : zm ≤ zn) (hy : ∀ zj : Nat, zj < zm → (rdB (if h.2.1 41 1 = 0 then -4 else h.2.1 41 2) za zf0.toInt zz) zj = 0 ∧ (-1 ≤ h.2.1 42 (zf0.toInt + (zj : Nat)).toNat ∧ h.2.1 42 (zf0.toInt + (zj : Nat)).toNat ≤ 5)) {post : PO} (K : ∀ zg : AH, WF zg → FNz zf (rdW zf (fun zj => h.2.1 42 (zf0.toInt + (zj : Nat)).toNat) zc zm zn) (rdL zx zc zn) zn h zg → Ev E mX10_read (rmm 3 0 0) (QM E 0 0 post) 0 0 161 [some (.ref 0), some (.int 0), some (.int za), some (.int zf0), some (.int (nI zc)), some (.int (nI zn)), some (.ref 41), some (.int zb), some (.int (nI zm)), some (.int (nI zn))] [] zg) : ∀ (zq zi : Nat) (zg : AH), zi + zq = zn → WF zg → FNz zf (rdW zf (fun zj => h.2.1 42 (zf0.toInt + (zj : Nat)).toNat) zc zm zi) (rdL zx zc zi) zi h zg → Ev E mX10_read (rmm 3 0 0) (QM E 0 0 post) 0 0 116 [some (.ref 0), some (.int 0), some (.int za), some (.int zf0), some (.int (nI zc)), some (.int (nI zn)), some (.ref 41), some (.int zb), some (.int (nI zm)), some (.int (nI zi))] [] zg := by
  intro zq
  induction zq with
  | zero =>
    intro zi zg hz hw hF
    obtain rfl : zn = zi := by omega
    refine ev_iload (pc := 116) dX10_read_116 rfl ?_
    refine ev_iload (pc := 118) dX10_read_118 rfl ?_
    refine ev_icmp_ge (pc := 120) (tgt := 161) dX10_read_120 (by decide) (fun zc120 => ?_) (fun zc120 => absurd (nI_le (Nat.le_refl _) (by omega)) zc120)
    exact K zg hw hF
  | succ zq ih =>
    intro zi zg hz hw hF
    have hlt : zi < zn := by omega
    have e0 : zg.2.1 41 = h.2.1 41 := hF.2.1.2.2.1 41 (by decide) (by decide)
    have e1 : zg.2.1 42 = h.2.1 42 := hF.2.1.2.2.1 42 (by decide) (by decide)
    have hlg : zg.2.1 41 3 = nI zz := by rw [e0]; exact hl
    refine ev_iload (pc := 116) dX10_read_116 rfl ?_
    refine ev_iload (pc := 118) dX10_read_118 rfl ?_
    refine ev_icmp_ge (pc := 120) (tgt := 161) dX10_read_120 (by decide) (fun zc120 => absurd zc120 (nI_ge hlt (by omega))) (fun zc120 => ?_)
    refine ev_aload_n (pc := 123) dX10_read_123 rfl ?_
    refine ev_getR (pc := 124) (q := 25) dX10_read_124 fX10_45 rfl (wlt hw (by decide)) (wr hw rfl) ?_
    refine ev_iload (pc := 127) dX10_read_127 rfl ?_
    refine ev_iload (pc := 129) dX10_read_129 rfl ?_
    refine ev_iadd (pc := 131) dX10_read_131 ?_
    refine ev_eqI (e' := nI (zc + zi)) (nI_add zc zi) ?_
    refine ev_iload (pc := 132) dX10_read_132 rfl ?_
    refine ev_iload (pc := 134) dX10_read_134 rfl ?_
    refine ev_icmp_ge (pc := 136) (tgt := 151) dX10_read_136 (by decide) (fun zc136 => ?_) (fun zc136 => ?_)
    · -- ge at 136: taken
      refine ev_iconst (pc := 151) (v := (-1)) dX10_read_151 (by decide) ?_
      refine ev_callV (S := []) (pc := 152) dX10_read_152 kX2_change lX10_166 vX2_change (cn_X2_changeV E zg (zc + zi) (-1) (rdW zf (fun zj => h.2.1 42 (zf0.toInt + (zj : Nat)).toNat) zc zm zi) (rdL zx zc zi) hw hF.1 (by omega) (Or.inl rfl)) rfl rfl (wlt hw (by decide)) rfl rfl (Nat.le_of_ble_eq_true rfl) ⟨Nat.le_of_ble_eq_true rfl, Nat.le_of_ble_eq_true rfl⟩ ⟨Nat.le_of_ble_eq_true rfl, Nat.le_of_ble_eq_true rfl⟩ ?_
      rintro _ zg2 ⟨rfl, hF2, hR2, hn2⟩
      have wzg2 := FrF_w hR2 hw
      refine ev_iinc (pc := 155) (v := nI (zi + 1)) (L' := [some (.ref 0), some (.int 0), some (.int za), some (.int zf0), some (.int (nI zc)), some (.int (nI zn)), some (.ref 41), some (.int zb), some (.int (nI zm)), some (.int (nI (zi + 1)))]) dX10_read_155 rfl (nI_1 _) (Nat.le_of_ble_eq_true rfl) rfl ?_
      refine ev_goto (pc := 158) (tgt := 116) dX10_read_158 (by decide) ?_
      refine ih (zi + 1) zg2 (by omega) wzg2 ?_
      rw [rdW, rdL, if_neg (fun z => absurd ((nI_leI (by omega) (by omega)).mp zc136) (by omega))]
      exact FN_c hF hF2 hR2 hn2
    · -- ge at 136: not taken
      refine ev_aload (pc := 139) dX10_read_139 rfl ?_
      refine ev_iload_n (pc := 141) dX10_read_141 rfl ?_
      refine ev_iload (pc := 142) dX10_read_142 rfl ?_
      refine ev_iadd (pc := 144) dX10_read_144 ?_
      refine ev_callVv (S := [.int (nI (zc + zi)), .ref 25]) (pc := 145) dX10_read_145 kX7_valueAt lX10_390 vX7_valueAt (cn_X7_valueAt_41 E zg (zf0 + nI zi) zz hw hlg hl2) rfl rfl (wlt hw (by decide)) rfl rfl (Nat.le_of_ble_eq_true rfl) ⟨Nat.le_of_ble_eq_true rfl, Nat.le_of_ble_eq_true rfl⟩ ⟨Nat.le_of_ble_eq_true rfl, Nat.le_of_ble_eq_true rfl⟩ ?_
      have zlt : zi < zm := Nat.not_le.mp (fun z => zc136 ((nI_leI (by omega) (by omega)).mpr z))
      have zr0 := rdB_0 (hy zi zlt).1
      have zfi : (zf0 + nI zi).toInt = zf0.toInt + zi := by
        have e2 : (nI zi).toInt = zi := nI_toInt (by omega)
        rw [fb_addI (by rw [e2]; omega) (by rw [e2]; omega), e2]
      have ztt : ¬ h.2.1 41 1 = 0 := fun z => zr0.1 (if_pos z)
      have zsf : sfN (zg.2.1 41 1) (zg.2.1 41 3) (zf0 + nI zi) = 0 := by
        unfold sfN
        rw [e0, hl, if_neg ztt, if_pos]
        rw [i_le, i_le, i_z0, zfi, m1_toInt (by omega)]
        omega
      have zcl : Int32.toNatClampNeg (zf0 + nI zi) = (zf0.toInt + (zi : Nat)).toNat := by
        show (zf0 + nI zi).toInt.toNat = _
        rw [zfi]
      refine ev_eqI (e' := h.2.1 42 (zf0.toInt + (zi : Nat)).toNat) (by rw [if_pos zsf, zcl, e1]) ?_
      refine ev_goto (pc := 148) (tgt := 152) dX10_read_148 (by decide) ?_
      refine ev_callV (S := []) (pc := 152) dX10_read_152 kX2_change lX10_166 vX2_change (cn_X2_changeV E zg (zc + zi) (h.2.1 42 (zf0.toInt + (zi : Nat)).toNat) (rdW zf (fun zj => h.2.1 42 (zf0.toInt + (zj : Nat)).toNat) zc zm zi) (rdL zx zc zi) hw hF.1 (by omega) (col_in (hy zi zlt).2)) rfl rfl (wlt hw (by decide)) rfl rfl (Nat.le_of_ble_eq_true rfl) ⟨Nat.le_of_ble_eq_true rfl, Nat.le_of_ble_eq_true rfl⟩ ⟨Nat.le_of_ble_eq_true rfl, Nat.le_of_ble_eq_true rfl⟩ ?_
      rintro _ zg2 ⟨rfl, hF2, hR2, hn2⟩
      have wzg2 := FrF_w hR2 hw
      refine ev_iinc (pc := 155) (v := nI (zi + 1)) (L' := [some (.ref 0), some (.int 0), some (.int za), some (.int zf0), some (.int (nI zc)), some (.int (nI zn)), some (.ref 41), some (.int zb), some (.int (nI zm)), some (.int (nI (zi + 1)))]) dX10_read_155 rfl (nI_1 _) (Nat.le_of_ble_eq_true rfl) rfl ?_
      refine ev_goto (pc := 158) (tgt := 116) dX10_read_158 (by decide) ?_
      refine ih (zi + 1) zg2 (by omega) wzg2 ?_
      rw [rdW, rdL, if_pos zlt]
      exact FN_c hF hF2 hR2 hn2
theorem cn_X10_read_0 (E : ME) (h : AH) (za zf0 zc0 zn0 : Int32) (zz : Nat) (zf : Nat → Int32) (zx : Int64) (hw : WF h) (hl : h.2.1 41 3 = nI zz) (hl2 : zz ≤ 64) (h4 : ¬ h.2.1 41 2 = -4) (hF : FLz zf zx h) : Con E mX10_read 3 0 0 [.ref 0, .int 0, .int za, .int zf0, .int zc0, .int zn0] h (fun r h' => r = some (.int (if (0 ≤ za ∧ za ≤ 2) ∧ ¬ zn0 < 0 ∧ ¬ zc0 < 0 ∧ zc0.toInt + zn0.toInt ≤ 64 then (if (rdF (rdB (if h.2.1 41 1 = 0 then -4 else h.2.1 41 2) za zf0.toInt zz) (fun zj => h.2.1 42 (zf0.toInt + (zj : Nat)).toNat) (zn0).toNatClampNeg 0).2.2 then (rdF (rdB (if h.2.1 41 1 = 0 then -4 else h.2.1 41 2) za zf0.toInt zz) (fun zj => h.2.1 42 (zf0.toInt + (zj : Nat)).toNat) (zn0).toNatClampNeg 0).1 else nI (rdF (rdB (if h.2.1 41 1 = 0 then -4 else h.2.1 41 2) za zf0.toInt zz) (fun zj => h.2.1 42 (zf0.toInt + (zj : Nat)).toNat) (zn0).toNatClampNeg 0).2.1) else -1)) ∧ (((0 ≤ za ∧ za ≤ 2) ∧ ¬ zn0 < 0 ∧ ¬ zc0 < 0 ∧ zc0.toInt + zn0.toInt ≤ 64) ∧ (rdF (rdB (if h.2.1 41 1 = 0 then -4 else h.2.1 41 2) za zf0.toInt zz) (fun zj => h.2.1 42 (zf0.toInt + (zj : Nat)).toNat) (zn0).toNatClampNeg 0).2.2 = false → RDz zf zx (fun zj => h.2.1 42 (zf0.toInt + (zj : Nat)).toNat) (zc0).toNatClampNeg (rdF (rdB (if h.2.1 41 1 = 0 then -4 else h.2.1 41 2) za zf0.toInt zz) (fun zj => h.2.1 42 (zf0.toInt + (zj : Nat)).toNat) (zn0).toNatClampNeg 0).2.1 (zn0).toNatClampNeg (rdF (rdB (if h.2.1 41 1 = 0 then -4 else h.2.1 41 2) za zf0.toInt zz) (fun zj => h.2.1 42 (zf0.toInt + (zj : Nat)).toNat) (zn0).toNatClampNeg 0).1 h h') ∧ (¬ (((0 ≤ za ∧ za ≤ 2) ∧ ¬ zn0 < 0 ∧ ¬ zc0 < 0 ∧ zc0.toInt + zn0.toInt ≤ 64) ∧ (rdF (rdB (if h.2.1 41 1 = 0 then -4 else h.2.1 41 2) za zf0.toInt zz) (fun zj => h.2.1 42 (zf0.toInt + (zj : Nat)).toNat) (zn0).toNatClampNeg 0).2.2 = false) → h' = h)) := by
  refine con_of2 (L := [some (.ref 0), some (.int 0), some (.int za), some (.int zf0), some (.int zc0), some (.int zn0), none, none, none, none]) rfl (Nat.le_of_ble_eq_true rfl) rfl ?_
  refine ev_iload_n (pc := 0) dX10_read_0 rfl ?_
  refine ev_callSv (S := []) (pc := 1) dX10_read_1 kX10_isSheet lX10_372 sX10_isSheet (cn_X10_isSheet E h 0) rfl rfl (Nat.le_of_ble_eq_true rfl) ⟨Nat.le_of_ble_eq_true rfl, Nat.le_of_ble_eq_true rfl⟩ ⟨Nat.le_of_ble_eq_true rfl, Nat.le_of_ble_eq_true rfl⟩ ?_
  refine ev_if_eq (pc := 4) (tgt := 39) dX10_read_4 (by decide) (fun zc4 => absurd zc4 (bI_n0.mpr (by decide))) (fun zc4 => ?_)
  refine ev_iload_n (pc := 7) dX10_read_7 rfl ?_
  refine ev_callSv (S := []) (pc := 8) dX10_read_8 kX7_isLane lX10_375 sX7_isLane (cn_X7_isLane E h za) rfl rfl (Nat.le_of_ble_eq_true rfl) ⟨Nat.le_of_ble_eq_true rfl, Nat.le_of_ble_eq_true rfl⟩ ⟨Nat.le_of_ble_eq_true rfl, Nat.le_of_ble_eq_true rfl⟩ ?_
  refine ev_if_eq (pc := 11) (tgt := 39) dX10_read_11 (by decide) (fun zc11 => ?_) (fun zc11 => ?_)
  · -- eq at 11: taken
    refine ev_iconst (pc := 39) (v := (-1)) dX10_read_39 (by decide) ?_
    refine ev_iret (pc := 40) dX10_read_40 rfl ?_ ?_
    · rfl
    · have hC : ¬ ((0 ≤ za ∧ za ≤ 2) ∧ ¬ zn0 < 0 ∧ ¬ zc0 < 0 ∧ zc0.toInt + zn0.toInt ≤ 64) := fun z => bI_0.mp zc11 z.1
      rw [if_neg hC]
      exact ⟨rfl, fun z => absurd z.1 hC, fun _ => rfl⟩
  · -- eq at 11: not taken
    refine ev_iload (pc := 14) dX10_read_14 rfl ?_
    refine ev_iconst (pc := 16) (v := 0) dX10_read_16 (by decide) ?_
    refine ev_bipush (pc := 17) (v := 64) dX10_read_17 (by decide) ?_
    refine ev_callSv (S := []) (pc := 19) dX10_read_19 kX10_within lX10_123 sX10_within (cn_X10_within E h zn0 0 64) rfl rfl (Nat.le_of_ble_eq_true rfl) ⟨Nat.le_of_ble_eq_true rfl, Nat.le_of_ble_eq_true rfl⟩ ⟨Nat.le_of_ble_eq_true rfl, Nat.le_of_ble_eq_true rfl⟩ ?_
    refine ev_if_eq (pc := 22) (tgt := 39) dX10_read_22 (by decide) (fun zc22 => ?_) (fun zc22 => ?_)
    · -- eq at 22: taken
      refine ev_iconst (pc := 39) (v := (-1)) dX10_read_39 (by decide) ?_
      refine ev_iret (pc := 40) dX10_read_40 rfl ?_ ?_
      · rfl
      · have hC : ¬ ((0 ≤ za ∧ za ≤ 2) ∧ ¬ zn0 < 0 ∧ ¬ zc0 < 0 ∧ zc0.toInt + zn0.toInt ≤ 64) := fun z => bI_0.mp zc22 (rd_G.mpr z.2).1
        rw [if_neg hC]
        exact ⟨rfl, fun z => absurd z.1 hC, fun _ => rfl⟩
    · -- eq at 22: not taken
      refine ev_iload (pc := 25) dX10_read_25 rfl ?_
      refine ev_iconst (pc := 27) (v := 0) dX10_read_27 (by decide) ?_
      refine ev_bipush (pc := 28) (v := 64) dX10_read_28 (by decide) ?_
      refine ev_iload (pc := 30) dX10_read_30 rfl ?_
      refine ev_isub (pc := 32) dX10_read_32 ?_
      refine ev_callSv (S := []) (pc := 33) dX10_read_33 kX10_within lX10_123 sX10_within (cn_X10_within E h zc0 0 (64 - zn0)) rfl rfl (Nat.le_of_ble_eq_true rfl) ⟨Nat.le_of_ble_eq_true rfl, Nat.le_of_ble_eq_true rfl⟩ ⟨Nat.le_of_ble_eq_true rfl, Nat.le_of_ble_eq_true rfl⟩ ?_
      refine ev_if_ne (pc := 36) (tgt := 41) dX10_read_36 (by decide) (fun zc36 => ?_) (fun zc36 => ?_)
      · -- ne at 36: taken
        have hG1 := rd_G.mp ⟨bI_n0.mp zc22, bI_n0.mp zc36⟩
        obtain ⟨zn, hn9, rfl⟩ := nI_of hG1.1
        obtain ⟨zc, hc9, rfl⟩ := nI_of hG1.2.1
        have hcn : zc + zn ≤ 64 := by
          have z1 := hG1.2.2
          rw [nI_toInt hc9, nI_toInt hn9] at z1
          omega
        have hG : (0 ≤ za ∧ za ≤ 2) ∧ ¬ (nI zn) < 0 ∧ ¬ (nI zc) < 0 ∧ (nI zc).toInt + (nI zn).toInt ≤ 64 := ⟨bI_n0.mp zc11, hG1⟩
        simp only [if_pos hG, nI_clamp hn9, nI_clamp hc9, hG, true_and]
        refine ev_aload_n (pc := 41) dX10_read_41 rfl ?_
        refine ev_getR (pc := 42) (q := 40) dX10_read_42 fX10_79 rfl (wlt hw (by decide)) (wr hw rfl) ?_
        refine ev_iload_n (pc := 45) dX10_read_45 rfl ?_
        refine ev_aald (pc := 46) (q := 41) dX10_read_46 rfl (wlt hw (by decide)) (vp_in_nI (n := 0) (by decide) (by decide)) (wr hw rfl) ?_
        refine ev_astore (pc := 47) (L' := [some (.ref 0), some (.int 0), some (.int za), some (.int zf0), some (.int (nI zc)), some (.int (nI zn)), some (.ref 41), none, none, none]) dX10_read_47 (Nat.le_of_ble_eq_true rfl) rfl ?_
        refine ev_iconst (pc := 49) (v := 0) dX10_read_49 (by decide) ?_
        refine ev_istore (pc := 50) (L' := [some (.ref 0), some (.int 0), some (.int za), some (.int zf0), some (.int (nI zc)), some (.int (nI zn)), some (.ref 41), some (.int 0), none, none]) dX10_read_50 (Nat.le_of_ble_eq_true rfl) rfl ?_
        refine ev_iconst (pc := 52) (v := 0) dX10_read_52 (by decide) ?_
        refine ev_istore (pc := 53) (L' := [some (.ref 0), some (.int 0), some (.int za), some (.int zf0), some (.int (nI zc)), some (.int (nI zn)), some (.ref 41), some (.int 0), some (.int 0), none]) dX10_read_53 (Nat.le_of_ble_eq_true rfl) rfl ?_
        refine lp_cread_55_0 E h za zf0 zc zn zz hw hl hl2 h4 hcn zn 0 (Nat.zero_add _) (Or.inl rfl) (fun zE => ?_) (fun zE => by simp [zE])
        refine ev_iconst (pc := 113) (v := 0) dX10_read_113 (by decide) ?_
        refine ev_istore (pc := 114) (L' := [some (.ref 0), some (.int 0), some (.int za), some (.int zf0), some (.int (nI zc)), some (.int (nI zn)), some (.ref 41), some (.int ((rdF (rdB (if h.2.1 41 1 = 0 then -4 else h.2.1 41 2) za zf0.toInt zz) (fun zj => h.2.1 42 (zf0.toInt + (zj : Nat)).toNat) zn 0).1)), some (.int (nI (rdF (rdB (if h.2.1 41 1 = 0 then -4 else h.2.1 41 2) za zf0.toInt zz) (fun zj => h.2.1 42 (zf0.toInt + (zj : Nat)).toNat) zn 0).2.1)), some (.int 0)]) dX10_read_114 (Nat.le_of_ble_eq_true rfl) rfl ?_
        have zok := rd_ok (zb := (rdB (if h.2.1 41 1 = 0 then -4 else h.2.1 41 2) za zf0.toInt zz)) (zg := (fun zj => h.2.1 42 (zf0.toInt + (zj : Nat)).toNat)) zn 0
        refine lp_cread_116_0 E h za zf0 (rdF (rdB (if h.2.1 41 1 = 0 then -4 else h.2.1 41 2) za zf0.toInt zz) (fun zj => h.2.1 42 (zf0.toInt + (zj : Nat)).toNat) zn 0).1 zc zn zz (rdF (rdB (if h.2.1 41 1 = 0 then -4 else h.2.1 41 2) za zf0.toInt zz) (fun zj => h.2.1 42 (zf0.toInt + (zj : Nat)).toNat) zn 0).2.1 zf zx hw hl hl2 h4 hcn (by omega) (fun zj hj => zok.2.2 zj (Nat.zero_le _) hj) (fun zg wzg hN => ?_) zn 0 h (Nat.zero_add _) hw (FN_0 hF)
        refine ev_aload_n (pc := 161) dX10_read_161 rfl ?_
        refine ev_iload (pc := 162) dX10_read_162 rfl ?_
        refine ev_putI (pc := 164) dX10_read_164 fX10_393 rfl (wlt wzg (by decide)) ?_
        refine ev_eqH (h' := sI zg 0 (upd (zg.2.1 0) 11 ((rdF (rdB (if h.2.1 41 1 = 0 then -4 else h.2.1 41 2) za zf0.toInt zz) (fun zj => h.2.1 42 (zf0.toInt + (zj : Nat)).toNat) zn 0).1))) (by rfl) ?_
        refine ev_iload (pc := 167) dX10_read_167 rfl ?_
        refine ev_iret (pc := 169) dX10_read_169 rfl ?_ ?_
        · rfl
        · rw [zE]
          obtain ⟨n1, n2, zq, n3, n4, n5⟩ := hN
          refine ⟨rfl, fun _ => ⟨n1, n2.1, n2.2.1, fun zk a b c => (sI_ne _ _ a).trans (n2.2.2.1 zk b c), n2.2.2.2.1, fun zj a => n2.2.2.2.2 zj a, fun zj a => (pk_un a).trans (congrFun (n2.2.2.1 0 (by decide) (by decide)) zj), rfl, zq, by omega, n4, n5⟩, fun z => absurd ⟨⟨id, id, trivial⟩, rfl⟩ z⟩
      · -- ne at 36: not taken
        refine ev_iconst (pc := 39) (v := (-1)) dX10_read_39 (by decide) ?_
        refine ev_iret (pc := 40) dX10_read_40 rfl ?_ ?_
        · rfl
        · have hC : ¬ ((0 ≤ za ∧ za ≤ 2) ∧ ¬ zn0 < 0 ∧ ¬ zc0 < 0 ∧ zc0.toInt + zn0.toInt ≤ 64) := fun z => bI_0.mp zc36 (rd_G.mpr z.2).2
          rw [if_neg hC]
          exact ⟨rfl, fun z => absurd z.1 hC, fun _ => rfl⟩
theorem lp_cread_116_1 (E : ME) (h : AH) (za zf0 zb : Int32) (zc zn zz zm : Nat) (zf : Nat → Int32) (zx : Int64) (hw0 : WF h) (hl : h.2.1 43 3 = nI zz) (hl2 : zz ≤ 64) (h4 : ¬ h.2.1 43 2 = -4) (hcn : zc + zn ≤ 64) (hm : zm ≤ zn) (hy : ∀ zj : Nat, zj < zm → (rdB (if h.2.1 43 1 = 0 then -4 else h.2.1 43 2) za zf0.toInt zz) zj = 0 ∧ (-1 ≤ h.2.1 44 (zf0.toInt + (zj : Nat)).toNat ∧ h.2.1 44 (zf0.toInt + (zj : Nat)).toNat ≤ 5)) {post : PO} (K : ∀ zg : AH, WF zg → FNz zf (rdW zf (fun zj => h.2.1 44 (zf0.toInt + (zj : Nat)).toNat) zc zm zn) (rdL zx zc zn) zn h zg → Ev E mX10_read (rmm 3 0 0) (QM E 0 0 post) 0 0 161 [some (.ref 0), some (.int 1), some (.int za), some (.int zf0), some (.int (nI zc)), some (.int (nI zn)), some (.ref 43), some (.int zb), some (.int (nI zm)), some (.int (nI zn))] [] zg) : ∀ (zq zi : Nat) (zg : AH), zi + zq = zn → WF zg → FNz zf (rdW zf (fun zj => h.2.1 44 (zf0.toInt + (zj : Nat)).toNat) zc zm zi) (rdL zx zc zi) zi h zg → Ev E mX10_read (rmm 3 0 0) (QM E 0 0 post) 0 0 116 [some (.ref 0), some (.int 1), some (.int za), some (.int zf0), some (.int (nI zc)), some (.int (nI zn)), some (.ref 43), some (.int zb), some (.int (nI zm)), some (.int (nI zi))] [] zg := by
  intro zq
  induction zq with
  | zero =>
    intro zi zg hz hw hF
    obtain rfl : zn = zi := by omega
    refine ev_iload (pc := 116) dX10_read_116 rfl ?_
    refine ev_iload (pc := 118) dX10_read_118 rfl ?_
    refine ev_icmp_ge (pc := 120) (tgt := 161) dX10_read_120 (by decide) (fun zc120 => ?_) (fun zc120 => absurd (nI_le (Nat.le_refl _) (by omega)) zc120)
    exact K zg hw hF
  | succ zq ih =>
    intro zi zg hz hw hF
    have hlt : zi < zn := by omega
    have e0 : zg.2.1 43 = h.2.1 43 := hF.2.1.2.2.1 43 (by decide) (by decide)
    have e1 : zg.2.1 44 = h.2.1 44 := hF.2.1.2.2.1 44 (by decide) (by decide)
    have hlg : zg.2.1 43 3 = nI zz := by rw [e0]; exact hl
    refine ev_iload (pc := 116) dX10_read_116 rfl ?_
    refine ev_iload (pc := 118) dX10_read_118 rfl ?_
    refine ev_icmp_ge (pc := 120) (tgt := 161) dX10_read_120 (by decide) (fun zc120 => absurd zc120 (nI_ge hlt (by omega))) (fun zc120 => ?_)
    refine ev_aload_n (pc := 123) dX10_read_123 rfl ?_
    refine ev_getR (pc := 124) (q := 25) dX10_read_124 fX10_45 rfl (wlt hw (by decide)) (wr hw rfl) ?_
    refine ev_iload (pc := 127) dX10_read_127 rfl ?_
    refine ev_iload (pc := 129) dX10_read_129 rfl ?_
    refine ev_iadd (pc := 131) dX10_read_131 ?_
    refine ev_eqI (e' := nI (zc + zi)) (nI_add zc zi) ?_
    refine ev_iload (pc := 132) dX10_read_132 rfl ?_
    refine ev_iload (pc := 134) dX10_read_134 rfl ?_
    refine ev_icmp_ge (pc := 136) (tgt := 151) dX10_read_136 (by decide) (fun zc136 => ?_) (fun zc136 => ?_)
    · -- ge at 136: taken
      refine ev_iconst (pc := 151) (v := (-1)) dX10_read_151 (by decide) ?_
      refine ev_callV (S := []) (pc := 152) dX10_read_152 kX2_change lX10_166 vX2_change (cn_X2_changeV E zg (zc + zi) (-1) (rdW zf (fun zj => h.2.1 44 (zf0.toInt + (zj : Nat)).toNat) zc zm zi) (rdL zx zc zi) hw hF.1 (by omega) (Or.inl rfl)) rfl rfl (wlt hw (by decide)) rfl rfl (Nat.le_of_ble_eq_true rfl) ⟨Nat.le_of_ble_eq_true rfl, Nat.le_of_ble_eq_true rfl⟩ ⟨Nat.le_of_ble_eq_true rfl, Nat.le_of_ble_eq_true rfl⟩ ?_
      rintro _ zg2 ⟨rfl, hF2, hR2, hn2⟩
      have wzg2 := FrF_w hR2 hw
      refine ev_iinc (pc := 155) (v := nI (zi + 1)) (L' := [some (.ref 0), some (.int 1), some (.int za), some (.int zf0), some (.int (nI zc)), some (.int (nI zn)), some (.ref 43), some (.int zb), some (.int (nI zm)), some (.int (nI (zi + 1)))]) dX10_read_155 rfl (nI_1 _) (Nat.le_of_ble_eq_true rfl) rfl ?_
      refine ev_goto (pc := 158) (tgt := 116) dX10_read_158 (by decide) ?_
      refine ih (zi + 1) zg2 (by omega) wzg2 ?_
      rw [rdW, rdL, if_neg (fun z => absurd ((nI_leI (by omega) (by omega)).mp zc136) (by omega))]
      exact FN_c hF hF2 hR2 hn2
    · -- ge at 136: not taken
      refine ev_aload (pc := 139) dX10_read_139 rfl ?_
      refine ev_iload_n (pc := 141) dX10_read_141 rfl ?_
      refine ev_iload (pc := 142) dX10_read_142 rfl ?_
      refine ev_iadd (pc := 144) dX10_read_144 ?_
      refine ev_callVv (S := [.int (nI (zc + zi)), .ref 25]) (pc := 145) dX10_read_145 kX7_valueAt lX10_390 vX7_valueAt (cn_X7_valueAt_43 E zg (zf0 + nI zi) zz hw hlg hl2) rfl rfl (wlt hw (by decide)) rfl rfl (Nat.le_of_ble_eq_true rfl) ⟨Nat.le_of_ble_eq_true rfl, Nat.le_of_ble_eq_true rfl⟩ ⟨Nat.le_of_ble_eq_true rfl, Nat.le_of_ble_eq_true rfl⟩ ?_
      have zlt : zi < zm := Nat.not_le.mp (fun z => zc136 ((nI_leI (by omega) (by omega)).mpr z))
      have zr0 := rdB_0 (hy zi zlt).1
      have zfi : (zf0 + nI zi).toInt = zf0.toInt + zi := by
        have e2 : (nI zi).toInt = zi := nI_toInt (by omega)
        rw [fb_addI (by rw [e2]; omega) (by rw [e2]; omega), e2]
      have ztt : ¬ h.2.1 43 1 = 0 := fun z => zr0.1 (if_pos z)
      have zsf : sfN (zg.2.1 43 1) (zg.2.1 43 3) (zf0 + nI zi) = 0 := by
        unfold sfN
        rw [e0, hl, if_neg ztt, if_pos]
        rw [i_le, i_le, i_z0, zfi, m1_toInt (by omega)]
        omega
      have zcl : Int32.toNatClampNeg (zf0 + nI zi) = (zf0.toInt + (zi : Nat)).toNat := by
        show (zf0 + nI zi).toInt.toNat = _
        rw [zfi]
      refine ev_eqI (e' := h.2.1 44 (zf0.toInt + (zi : Nat)).toNat) (by rw [if_pos zsf, zcl, e1]) ?_
      refine ev_goto (pc := 148) (tgt := 152) dX10_read_148 (by decide) ?_
      refine ev_callV (S := []) (pc := 152) dX10_read_152 kX2_change lX10_166 vX2_change (cn_X2_changeV E zg (zc + zi) (h.2.1 44 (zf0.toInt + (zi : Nat)).toNat) (rdW zf (fun zj => h.2.1 44 (zf0.toInt + (zj : Nat)).toNat) zc zm zi) (rdL zx zc zi) hw hF.1 (by omega) (col_in (hy zi zlt).2)) rfl rfl (wlt hw (by decide)) rfl rfl (Nat.le_of_ble_eq_true rfl) ⟨Nat.le_of_ble_eq_true rfl, Nat.le_of_ble_eq_true rfl⟩ ⟨Nat.le_of_ble_eq_true rfl, Nat.le_of_ble_eq_true rfl⟩ ?_
      rintro _ zg2 ⟨rfl, hF2, hR2, hn2⟩
      have wzg2 := FrF_w hR2 hw
      refine ev_iinc (pc := 155) (v := nI (zi + 1)) (L' := [some (.ref 0), some (.int 1), some (.int za), some (.int zf0), some (.int (nI zc)), some (.int (nI zn)), some (.ref 43), some (.int zb), some (.int (nI zm)), some (.int (nI (zi + 1)))]) dX10_read_155 rfl (nI_1 _) (Nat.le_of_ble_eq_true rfl) rfl ?_
      refine ev_goto (pc := 158) (tgt := 116) dX10_read_158 (by decide) ?_
      refine ih (zi + 1) zg2 (by omega) wzg2 ?_
      rw [rdW, rdL, if_pos zlt]
      exact FN_c hF hF2 hR2 hn2
theorem cn_X10_read_1 (E : ME) (h : AH) (za zf0 zc0 zn0 : Int32) (zz : Nat) (zf : Nat → Int32) (zx : Int64) (hw : WF h) (hl : h.2.1 43 3 = nI zz) (hl2 : zz ≤ 64) (h4 : ¬ h.2.1 43 2 = -4) (hF : FLz zf zx h) : Con E mX10_read 3 0 0 [.ref 0, .int 1, .int za, .int zf0, .int zc0, .int zn0] h (fun r h' => r = some (.int (if (0 ≤ za ∧ za ≤ 2) ∧ ¬ zn0 < 0 ∧ ¬ zc0 < 0 ∧ zc0.toInt + zn0.toInt ≤ 64 then (if (rdF (rdB (if h.2.1 43 1 = 0 then -4 else h.2.1 43 2) za zf0.toInt zz) (fun zj => h.2.1 44 (zf0.toInt + (zj : Nat)).toNat) (zn0).toNatClampNeg 0).2.2 then (rdF (rdB (if h.2.1 43 1 = 0 then -4 else h.2.1 43 2) za zf0.toInt zz) (fun zj => h.2.1 44 (zf0.toInt + (zj : Nat)).toNat) (zn0).toNatClampNeg 0).1 else nI (rdF (rdB (if h.2.1 43 1 = 0 then -4 else h.2.1 43 2) za zf0.toInt zz) (fun zj => h.2.1 44 (zf0.toInt + (zj : Nat)).toNat) (zn0).toNatClampNeg 0).2.1) else -1)) ∧ (((0 ≤ za ∧ za ≤ 2) ∧ ¬ zn0 < 0 ∧ ¬ zc0 < 0 ∧ zc0.toInt + zn0.toInt ≤ 64) ∧ (rdF (rdB (if h.2.1 43 1 = 0 then -4 else h.2.1 43 2) za zf0.toInt zz) (fun zj => h.2.1 44 (zf0.toInt + (zj : Nat)).toNat) (zn0).toNatClampNeg 0).2.2 = false → RDz zf zx (fun zj => h.2.1 44 (zf0.toInt + (zj : Nat)).toNat) (zc0).toNatClampNeg (rdF (rdB (if h.2.1 43 1 = 0 then -4 else h.2.1 43 2) za zf0.toInt zz) (fun zj => h.2.1 44 (zf0.toInt + (zj : Nat)).toNat) (zn0).toNatClampNeg 0).2.1 (zn0).toNatClampNeg (rdF (rdB (if h.2.1 43 1 = 0 then -4 else h.2.1 43 2) za zf0.toInt zz) (fun zj => h.2.1 44 (zf0.toInt + (zj : Nat)).toNat) (zn0).toNatClampNeg 0).1 h h') ∧ (¬ (((0 ≤ za ∧ za ≤ 2) ∧ ¬ zn0 < 0 ∧ ¬ zc0 < 0 ∧ zc0.toInt + zn0.toInt ≤ 64) ∧ (rdF (rdB (if h.2.1 43 1 = 0 then -4 else h.2.1 43 2) za zf0.toInt zz) (fun zj => h.2.1 44 (zf0.toInt + (zj : Nat)).toNat) (zn0).toNatClampNeg 0).2.2 = false) → h' = h)) := by
  refine con_of2 (L := [some (.ref 0), some (.int 1), some (.int za), some (.int zf0), some (.int zc0), some (.int zn0), none, none, none, none]) rfl (Nat.le_of_ble_eq_true rfl) rfl ?_
  refine ev_iload_n (pc := 0) dX10_read_0 rfl ?_
  refine ev_callSv (S := []) (pc := 1) dX10_read_1 kX10_isSheet lX10_372 sX10_isSheet (cn_X10_isSheet E h 1) rfl rfl (Nat.le_of_ble_eq_true rfl) ⟨Nat.le_of_ble_eq_true rfl, Nat.le_of_ble_eq_true rfl⟩ ⟨Nat.le_of_ble_eq_true rfl, Nat.le_of_ble_eq_true rfl⟩ ?_
  refine ev_if_eq (pc := 4) (tgt := 39) dX10_read_4 (by decide) (fun zc4 => absurd zc4 (bI_n0.mpr (by decide))) (fun zc4 => ?_)
  refine ev_iload_n (pc := 7) dX10_read_7 rfl ?_
  refine ev_callSv (S := []) (pc := 8) dX10_read_8 kX7_isLane lX10_375 sX7_isLane (cn_X7_isLane E h za) rfl rfl (Nat.le_of_ble_eq_true rfl) ⟨Nat.le_of_ble_eq_true rfl, Nat.le_of_ble_eq_true rfl⟩ ⟨Nat.le_of_ble_eq_true rfl, Nat.le_of_ble_eq_true rfl⟩ ?_
  refine ev_if_eq (pc := 11) (tgt := 39) dX10_read_11 (by decide) (fun zc11 => ?_) (fun zc11 => ?_)
  · -- eq at 11: taken
    refine ev_iconst (pc := 39) (v := (-1)) dX10_read_39 (by decide) ?_
    refine ev_iret (pc := 40) dX10_read_40 rfl ?_ ?_
    · rfl
    · have hC : ¬ ((0 ≤ za ∧ za ≤ 2) ∧ ¬ zn0 < 0 ∧ ¬ zc0 < 0 ∧ zc0.toInt + zn0.toInt ≤ 64) := fun z => bI_0.mp zc11 z.1
      rw [if_neg hC]
      exact ⟨rfl, fun z => absurd z.1 hC, fun _ => rfl⟩
  · -- eq at 11: not taken
    refine ev_iload (pc := 14) dX10_read_14 rfl ?_
    refine ev_iconst (pc := 16) (v := 0) dX10_read_16 (by decide) ?_
    refine ev_bipush (pc := 17) (v := 64) dX10_read_17 (by decide) ?_
    refine ev_callSv (S := []) (pc := 19) dX10_read_19 kX10_within lX10_123 sX10_within (cn_X10_within E h zn0 0 64) rfl rfl (Nat.le_of_ble_eq_true rfl) ⟨Nat.le_of_ble_eq_true rfl, Nat.le_of_ble_eq_true rfl⟩ ⟨Nat.le_of_ble_eq_true rfl, Nat.le_of_ble_eq_true rfl⟩ ?_
    refine ev_if_eq (pc := 22) (tgt := 39) dX10_read_22 (by decide) (fun zc22 => ?_) (fun zc22 => ?_)
    · -- eq at 22: taken
      refine ev_iconst (pc := 39) (v := (-1)) dX10_read_39 (by decide) ?_
      refine ev_iret (pc := 40) dX10_read_40 rfl ?_ ?_
      · rfl
      · have hC : ¬ ((0 ≤ za ∧ za ≤ 2) ∧ ¬ zn0 < 0 ∧ ¬ zc0 < 0 ∧ zc0.toInt + zn0.toInt ≤ 64) := fun z => bI_0.mp zc22 (rd_G.mpr z.2).1
        rw [if_neg hC]
        exact ⟨rfl, fun z => absurd z.1 hC, fun _ => rfl⟩
    · -- eq at 22: not taken
      refine ev_iload (pc := 25) dX10_read_25 rfl ?_
      refine ev_iconst (pc := 27) (v := 0) dX10_read_27 (by decide) ?_
      refine ev_bipush (pc := 28) (v := 64) dX10_read_28 (by decide) ?_
      refine ev_iload (pc := 30) dX10_read_30 rfl ?_
      refine ev_isub (pc := 32) dX10_read_32 ?_
      refine ev_callSv (S := []) (pc := 33) dX10_read_33 kX10_within lX10_123 sX10_within (cn_X10_within E h zc0 0 (64 - zn0)) rfl rfl (Nat.le_of_ble_eq_true rfl) ⟨Nat.le_of_ble_eq_true rfl, Nat.le_of_ble_eq_true rfl⟩ ⟨Nat.le_of_ble_eq_true rfl, Nat.le_of_ble_eq_true rfl⟩ ?_
      refine ev_if_ne (pc := 36) (tgt := 41) dX10_read_36 (by decide) (fun zc36 => ?_) (fun zc36 => ?_)
      · -- ne at 36: taken
        have hG1 := rd_G.mp ⟨bI_n0.mp zc22, bI_n0.mp zc36⟩
        obtain ⟨zn, hn9, rfl⟩ := nI_of hG1.1
        obtain ⟨zc, hc9, rfl⟩ := nI_of hG1.2.1
        have hcn : zc + zn ≤ 64 := by
          have z1 := hG1.2.2
          rw [nI_toInt hc9, nI_toInt hn9] at z1
          omega
        have hG : (0 ≤ za ∧ za ≤ 2) ∧ ¬ (nI zn) < 0 ∧ ¬ (nI zc) < 0 ∧ (nI zc).toInt + (nI zn).toInt ≤ 64 := ⟨bI_n0.mp zc11, hG1⟩
        simp only [if_pos hG, nI_clamp hn9, nI_clamp hc9, hG, true_and]
        refine ev_aload_n (pc := 41) dX10_read_41 rfl ?_
        refine ev_getR (pc := 42) (q := 40) dX10_read_42 fX10_79 rfl (wlt hw (by decide)) (wr hw rfl) ?_
        refine ev_iload_n (pc := 45) dX10_read_45 rfl ?_
        refine ev_aald (pc := 46) (q := 43) dX10_read_46 rfl (wlt hw (by decide)) (vp_in_nI (n := 1) (by decide) (by decide)) (wr hw rfl) ?_
        refine ev_astore (pc := 47) (L' := [some (.ref 0), some (.int 1), some (.int za), some (.int zf0), some (.int (nI zc)), some (.int (nI zn)), some (.ref 43), none, none, none]) dX10_read_47 (Nat.le_of_ble_eq_true rfl) rfl ?_
        refine ev_iconst (pc := 49) (v := 0) dX10_read_49 (by decide) ?_
        refine ev_istore (pc := 50) (L' := [some (.ref 0), some (.int 1), some (.int za), some (.int zf0), some (.int (nI zc)), some (.int (nI zn)), some (.ref 43), some (.int 0), none, none]) dX10_read_50 (Nat.le_of_ble_eq_true rfl) rfl ?_
        refine ev_iconst (pc := 52) (v := 0) dX10_read_52 (by decide) ?_
        refine ev_istore (pc := 53) (L' := [some (.ref 0), some (.int 1), some (.int za), some (.int zf0), some (.int (nI zc)), some (.int (nI zn)), some (.ref 43), some (.int 0), some (.int 0), none]) dX10_read_53 (Nat.le_of_ble_eq_true rfl) rfl ?_
        refine lp_cread_55_1 E h za zf0 zc zn zz hw hl hl2 h4 hcn zn 0 (Nat.zero_add _) (Or.inl rfl) (fun zE => ?_) (fun zE => by simp [zE])
        refine ev_iconst (pc := 113) (v := 0) dX10_read_113 (by decide) ?_
        refine ev_istore (pc := 114) (L' := [some (.ref 0), some (.int 1), some (.int za), some (.int zf0), some (.int (nI zc)), some (.int (nI zn)), some (.ref 43), some (.int ((rdF (rdB (if h.2.1 43 1 = 0 then -4 else h.2.1 43 2) za zf0.toInt zz) (fun zj => h.2.1 44 (zf0.toInt + (zj : Nat)).toNat) zn 0).1)), some (.int (nI (rdF (rdB (if h.2.1 43 1 = 0 then -4 else h.2.1 43 2) za zf0.toInt zz) (fun zj => h.2.1 44 (zf0.toInt + (zj : Nat)).toNat) zn 0).2.1)), some (.int 0)]) dX10_read_114 (Nat.le_of_ble_eq_true rfl) rfl ?_
        have zok := rd_ok (zb := (rdB (if h.2.1 43 1 = 0 then -4 else h.2.1 43 2) za zf0.toInt zz)) (zg := (fun zj => h.2.1 44 (zf0.toInt + (zj : Nat)).toNat)) zn 0
        refine lp_cread_116_1 E h za zf0 (rdF (rdB (if h.2.1 43 1 = 0 then -4 else h.2.1 43 2) za zf0.toInt zz) (fun zj => h.2.1 44 (zf0.toInt + (zj : Nat)).toNat) zn 0).1 zc zn zz (rdF (rdB (if h.2.1 43 1 = 0 then -4 else h.2.1 43 2) za zf0.toInt zz) (fun zj => h.2.1 44 (zf0.toInt + (zj : Nat)).toNat) zn 0).2.1 zf zx hw hl hl2 h4 hcn (by omega) (fun zj hj => zok.2.2 zj (Nat.zero_le _) hj) (fun zg wzg hN => ?_) zn 0 h (Nat.zero_add _) hw (FN_0 hF)
        refine ev_aload_n (pc := 161) dX10_read_161 rfl ?_
        refine ev_iload (pc := 162) dX10_read_162 rfl ?_
        refine ev_putI (pc := 164) dX10_read_164 fX10_393 rfl (wlt wzg (by decide)) ?_
        refine ev_eqH (h' := sI zg 0 (upd (zg.2.1 0) 11 ((rdF (rdB (if h.2.1 43 1 = 0 then -4 else h.2.1 43 2) za zf0.toInt zz) (fun zj => h.2.1 44 (zf0.toInt + (zj : Nat)).toNat) zn 0).1))) (by rfl) ?_
        refine ev_iload (pc := 167) dX10_read_167 rfl ?_
        refine ev_iret (pc := 169) dX10_read_169 rfl ?_ ?_
        · rfl
        · rw [zE]
          obtain ⟨n1, n2, zq, n3, n4, n5⟩ := hN
          refine ⟨rfl, fun _ => ⟨n1, n2.1, n2.2.1, fun zk a b c => (sI_ne _ _ a).trans (n2.2.2.1 zk b c), n2.2.2.2.1, fun zj a => n2.2.2.2.2 zj a, fun zj a => (pk_un a).trans (congrFun (n2.2.2.1 0 (by decide) (by decide)) zj), rfl, zq, by omega, n4, n5⟩, fun z => absurd ⟨⟨id, id, trivial⟩, rfl⟩ z⟩
      · -- ne at 36: not taken
        refine ev_iconst (pc := 39) (v := (-1)) dX10_read_39 (by decide) ?_
        refine ev_iret (pc := 40) dX10_read_40 rfl ?_ ?_
        · rfl
        · have hC : ¬ ((0 ≤ za ∧ za ≤ 2) ∧ ¬ zn0 < 0 ∧ ¬ zc0 < 0 ∧ zc0.toInt + zn0.toInt ≤ 64) := fun z => bI_0.mp zc36 (rd_G.mpr z.2).2
          rw [if_neg hC]
          exact ⟨rfl, fun z => absurd z.1 hC, fun _ => rfl⟩
theorem lp_cread_116_2 (E : ME) (h : AH) (za zf0 zb : Int32) (zc zn zz zm : Nat) (zf : Nat → Int32) (zx : Int64) (hw0 : WF h) (hl : h.2.1 45 3 = nI zz) (hl2 : zz ≤ 64) (h4 : ¬ h.2.1 45 2 = -4) (hcn : zc + zn ≤ 64) (hm : zm ≤ zn) (hy : ∀ zj : Nat, zj < zm → (rdB (if h.2.1 45 1 = 0 then -4 else h.2.1 45 2) za zf0.toInt zz) zj = 0 ∧ (-1 ≤ h.2.1 46 (zf0.toInt + (zj : Nat)).toNat ∧ h.2.1 46 (zf0.toInt + (zj : Nat)).toNat ≤ 5)) {post : PO} (K : ∀ zg : AH, WF zg → FNz zf (rdW zf (fun zj => h.2.1 46 (zf0.toInt + (zj : Nat)).toNat) zc zm zn) (rdL zx zc zn) zn h zg → Ev E mX10_read (rmm 3 0 0) (QM E 0 0 post) 0 0 161 [some (.ref 0), some (.int 2), some (.int za), some (.int zf0), some (.int (nI zc)), some (.int (nI zn)), some (.ref 45), some (.int zb), some (.int (nI zm)), some (.int (nI zn))] [] zg) : ∀ (zq zi : Nat) (zg : AH), zi + zq = zn → WF zg → FNz zf (rdW zf (fun zj => h.2.1 46 (zf0.toInt + (zj : Nat)).toNat) zc zm zi) (rdL zx zc zi) zi h zg → Ev E mX10_read (rmm 3 0 0) (QM E 0 0 post) 0 0 116 [some (.ref 0), some (.int 2), some (.int za), some (.int zf0), some (.int (nI zc)), some (.int (nI zn)), some (.ref 45), some (.int zb), some (.int (nI zm)), some (.int (nI zi))] [] zg := by
  intro zq
  induction zq with
  | zero =>
    intro zi zg hz hw hF
    obtain rfl : zn = zi := by omega
    refine ev_iload (pc := 116) dX10_read_116 rfl ?_
    refine ev_iload (pc := 118) dX10_read_118 rfl ?_
    refine ev_icmp_ge (pc := 120) (tgt := 161) dX10_read_120 (by decide) (fun zc120 => ?_) (fun zc120 => absurd (nI_le (Nat.le_refl _) (by omega)) zc120)
    exact K zg hw hF
  | succ zq ih =>
    intro zi zg hz hw hF
    have hlt : zi < zn := by omega
    have e0 : zg.2.1 45 = h.2.1 45 := hF.2.1.2.2.1 45 (by decide) (by decide)
    have e1 : zg.2.1 46 = h.2.1 46 := hF.2.1.2.2.1 46 (by decide) (by decide)
    have hlg : zg.2.1 45 3 = nI zz := by rw [e0]; exact hl
    refine ev_iload (pc := 116) dX10_read_116 rfl ?_
    refine ev_iload (pc := 118) dX10_read_118 rfl ?_
    refine ev_icmp_ge (pc := 120) (tgt := 161) dX10_read_120 (by decide) (fun zc120 => absurd zc120 (nI_ge hlt (by omega))) (fun zc120 => ?_)
    refine ev_aload_n (pc := 123) dX10_read_123 rfl ?_
    refine ev_getR (pc := 124) (q := 25) dX10_read_124 fX10_45 rfl (wlt hw (by decide)) (wr hw rfl) ?_
    refine ev_iload (pc := 127) dX10_read_127 rfl ?_
    refine ev_iload (pc := 129) dX10_read_129 rfl ?_
    refine ev_iadd (pc := 131) dX10_read_131 ?_
    refine ev_eqI (e' := nI (zc + zi)) (nI_add zc zi) ?_
    refine ev_iload (pc := 132) dX10_read_132 rfl ?_
    refine ev_iload (pc := 134) dX10_read_134 rfl ?_
    refine ev_icmp_ge (pc := 136) (tgt := 151) dX10_read_136 (by decide) (fun zc136 => ?_) (fun zc136 => ?_)
    · -- ge at 136: taken
      refine ev_iconst (pc := 151) (v := (-1)) dX10_read_151 (by decide) ?_
      refine ev_callV (S := []) (pc := 152) dX10_read_152 kX2_change lX10_166 vX2_change (cn_X2_changeV E zg (zc + zi) (-1) (rdW zf (fun zj => h.2.1 46 (zf0.toInt + (zj : Nat)).toNat) zc zm zi) (rdL zx zc zi) hw hF.1 (by omega) (Or.inl rfl)) rfl rfl (wlt hw (by decide)) rfl rfl (Nat.le_of_ble_eq_true rfl) ⟨Nat.le_of_ble_eq_true rfl, Nat.le_of_ble_eq_true rfl⟩ ⟨Nat.le_of_ble_eq_true rfl, Nat.le_of_ble_eq_true rfl⟩ ?_
      rintro _ zg2 ⟨rfl, hF2, hR2, hn2⟩
      have wzg2 := FrF_w hR2 hw
      refine ev_iinc (pc := 155) (v := nI (zi + 1)) (L' := [some (.ref 0), some (.int 2), some (.int za), some (.int zf0), some (.int (nI zc)), some (.int (nI zn)), some (.ref 45), some (.int zb), some (.int (nI zm)), some (.int (nI (zi + 1)))]) dX10_read_155 rfl (nI_1 _) (Nat.le_of_ble_eq_true rfl) rfl ?_
      refine ev_goto (pc := 158) (tgt := 116) dX10_read_158 (by decide) ?_
      refine ih (zi + 1) zg2 (by omega) wzg2 ?_
      rw [rdW, rdL, if_neg (fun z => absurd ((nI_leI (by omega) (by omega)).mp zc136) (by omega))]
      exact FN_c hF hF2 hR2 hn2
    · -- ge at 136: not taken
      refine ev_aload (pc := 139) dX10_read_139 rfl ?_
      refine ev_iload_n (pc := 141) dX10_read_141 rfl ?_
      refine ev_iload (pc := 142) dX10_read_142 rfl ?_
      refine ev_iadd (pc := 144) dX10_read_144 ?_
      refine ev_callVv (S := [.int (nI (zc + zi)), .ref 25]) (pc := 145) dX10_read_145 kX7_valueAt lX10_390 vX7_valueAt (cn_X7_valueAt_45 E zg (zf0 + nI zi) zz hw hlg hl2) rfl rfl (wlt hw (by decide)) rfl rfl (Nat.le_of_ble_eq_true rfl) ⟨Nat.le_of_ble_eq_true rfl, Nat.le_of_ble_eq_true rfl⟩ ⟨Nat.le_of_ble_eq_true rfl, Nat.le_of_ble_eq_true rfl⟩ ?_
      have zlt : zi < zm := Nat.not_le.mp (fun z => zc136 ((nI_leI (by omega) (by omega)).mpr z))
      have zr0 := rdB_0 (hy zi zlt).1
      have zfi : (zf0 + nI zi).toInt = zf0.toInt + zi := by
        have e2 : (nI zi).toInt = zi := nI_toInt (by omega)
        rw [fb_addI (by rw [e2]; omega) (by rw [e2]; omega), e2]
      have ztt : ¬ h.2.1 45 1 = 0 := fun z => zr0.1 (if_pos z)
      have zsf : sfN (zg.2.1 45 1) (zg.2.1 45 3) (zf0 + nI zi) = 0 := by
        unfold sfN
        rw [e0, hl, if_neg ztt, if_pos]
        rw [i_le, i_le, i_z0, zfi, m1_toInt (by omega)]
        omega
      have zcl : Int32.toNatClampNeg (zf0 + nI zi) = (zf0.toInt + (zi : Nat)).toNat := by
        show (zf0 + nI zi).toInt.toNat = _
        rw [zfi]
      refine ev_eqI (e' := h.2.1 46 (zf0.toInt + (zi : Nat)).toNat) (by rw [if_pos zsf, zcl, e1]) ?_
      refine ev_goto (pc := 148) (tgt := 152) dX10_read_148 (by decide) ?_
      refine ev_callV (S := []) (pc := 152) dX10_read_152 kX2_change lX10_166 vX2_change (cn_X2_changeV E zg (zc + zi) (h.2.1 46 (zf0.toInt + (zi : Nat)).toNat) (rdW zf (fun zj => h.2.1 46 (zf0.toInt + (zj : Nat)).toNat) zc zm zi) (rdL zx zc zi) hw hF.1 (by omega) (col_in (hy zi zlt).2)) rfl rfl (wlt hw (by decide)) rfl rfl (Nat.le_of_ble_eq_true rfl) ⟨Nat.le_of_ble_eq_true rfl, Nat.le_of_ble_eq_true rfl⟩ ⟨Nat.le_of_ble_eq_true rfl, Nat.le_of_ble_eq_true rfl⟩ ?_
      rintro _ zg2 ⟨rfl, hF2, hR2, hn2⟩
      have wzg2 := FrF_w hR2 hw
      refine ev_iinc (pc := 155) (v := nI (zi + 1)) (L' := [some (.ref 0), some (.int 2), some (.int za), some (.int zf0), some (.int (nI zc)), some (.int (nI zn)), some (.ref 45), some (.int zb), some (.int (nI zm)), some (.int (nI (zi + 1)))]) dX10_read_155 rfl (nI_1 _) (Nat.le_of_ble_eq_true rfl) rfl ?_
      refine ev_goto (pc := 158) (tgt := 116) dX10_read_158 (by decide) ?_
      refine ih (zi + 1) zg2 (by omega) wzg2 ?_
      rw [rdW, rdL, if_pos zlt]
      exact FN_c hF hF2 hR2 hn2
theorem cn_X10_read_2 (E : ME) (h : AH) (za zf0 zc0 zn0 : Int32) (zz : Nat) (zf : Nat → Int32) (zx : Int64) (hw : WF h) (hl : h.2.1 45 3 = nI zz) (hl2 : zz ≤ 64) (h4 : ¬ h.2.1 45 2 = -4) (hF : FLz zf zx h) : Con E mX10_read 3 0 0 [.ref 0, .int 2, .int za, .int zf0, .int zc0, .int zn0] h (fun r h' => r = some (.int (if (0 ≤ za ∧ za ≤ 2) ∧ ¬ zn0 < 0 ∧ ¬ zc0 < 0 ∧ zc0.toInt + zn0.toInt ≤ 64 then (if (rdF (rdB (if h.2.1 45 1 = 0 then -4 else h.2.1 45 2) za zf0.toInt zz) (fun zj => h.2.1 46 (zf0.toInt + (zj : Nat)).toNat) (zn0).toNatClampNeg 0).2.2 then (rdF (rdB (if h.2.1 45 1 = 0 then -4 else h.2.1 45 2) za zf0.toInt zz) (fun zj => h.2.1 46 (zf0.toInt + (zj : Nat)).toNat) (zn0).toNatClampNeg 0).1 else nI (rdF (rdB (if h.2.1 45 1 = 0 then -4 else h.2.1 45 2) za zf0.toInt zz) (fun zj => h.2.1 46 (zf0.toInt + (zj : Nat)).toNat) (zn0).toNatClampNeg 0).2.1) else -1)) ∧ (((0 ≤ za ∧ za ≤ 2) ∧ ¬ zn0 < 0 ∧ ¬ zc0 < 0 ∧ zc0.toInt + zn0.toInt ≤ 64) ∧ (rdF (rdB (if h.2.1 45 1 = 0 then -4 else h.2.1 45 2) za zf0.toInt zz) (fun zj => h.2.1 46 (zf0.toInt + (zj : Nat)).toNat) (zn0).toNatClampNeg 0).2.2 = false → RDz zf zx (fun zj => h.2.1 46 (zf0.toInt + (zj : Nat)).toNat) (zc0).toNatClampNeg (rdF (rdB (if h.2.1 45 1 = 0 then -4 else h.2.1 45 2) za zf0.toInt zz) (fun zj => h.2.1 46 (zf0.toInt + (zj : Nat)).toNat) (zn0).toNatClampNeg 0).2.1 (zn0).toNatClampNeg (rdF (rdB (if h.2.1 45 1 = 0 then -4 else h.2.1 45 2) za zf0.toInt zz) (fun zj => h.2.1 46 (zf0.toInt + (zj : Nat)).toNat) (zn0).toNatClampNeg 0).1 h h') ∧ (¬ (((0 ≤ za ∧ za ≤ 2) ∧ ¬ zn0 < 0 ∧ ¬ zc0 < 0 ∧ zc0.toInt + zn0.toInt ≤ 64) ∧ (rdF (rdB (if h.2.1 45 1 = 0 then -4 else h.2.1 45 2) za zf0.toInt zz) (fun zj => h.2.1 46 (zf0.toInt + (zj : Nat)).toNat) (zn0).toNatClampNeg 0).2.2 = false) → h' = h)) := by
  refine con_of2 (L := [some (.ref 0), some (.int 2), some (.int za), some (.int zf0), some (.int zc0), some (.int zn0), none, none, none, none]) rfl (Nat.le_of_ble_eq_true rfl) rfl ?_
  refine ev_iload_n (pc := 0) dX10_read_0 rfl ?_
  refine ev_callSv (S := []) (pc := 1) dX10_read_1 kX10_isSheet lX10_372 sX10_isSheet (cn_X10_isSheet E h 2) rfl rfl (Nat.le_of_ble_eq_true rfl) ⟨Nat.le_of_ble_eq_true rfl, Nat.le_of_ble_eq_true rfl⟩ ⟨Nat.le_of_ble_eq_true rfl, Nat.le_of_ble_eq_true rfl⟩ ?_
  refine ev_if_eq (pc := 4) (tgt := 39) dX10_read_4 (by decide) (fun zc4 => absurd zc4 (bI_n0.mpr (by decide))) (fun zc4 => ?_)
  refine ev_iload_n (pc := 7) dX10_read_7 rfl ?_
  refine ev_callSv (S := []) (pc := 8) dX10_read_8 kX7_isLane lX10_375 sX7_isLane (cn_X7_isLane E h za) rfl rfl (Nat.le_of_ble_eq_true rfl) ⟨Nat.le_of_ble_eq_true rfl, Nat.le_of_ble_eq_true rfl⟩ ⟨Nat.le_of_ble_eq_true rfl, Nat.le_of_ble_eq_true rfl⟩ ?_
  refine ev_if_eq (pc := 11) (tgt := 39) dX10_read_11 (by decide) (fun zc11 => ?_) (fun zc11 => ?_)
  · -- eq at 11: taken
    refine ev_iconst (pc := 39) (v := (-1)) dX10_read_39 (by decide) ?_
    refine ev_iret (pc := 40) dX10_read_40 rfl ?_ ?_
    · rfl
    · have hC : ¬ ((0 ≤ za ∧ za ≤ 2) ∧ ¬ zn0 < 0 ∧ ¬ zc0 < 0 ∧ zc0.toInt + zn0.toInt ≤ 64) := fun z => bI_0.mp zc11 z.1
      rw [if_neg hC]
      exact ⟨rfl, fun z => absurd z.1 hC, fun _ => rfl⟩
  · -- eq at 11: not taken
    refine ev_iload (pc := 14) dX10_read_14 rfl ?_
    refine ev_iconst (pc := 16) (v := 0) dX10_read_16 (by decide) ?_
    refine ev_bipush (pc := 17) (v := 64) dX10_read_17 (by decide) ?_
    refine ev_callSv (S := []) (pc := 19) dX10_read_19 kX10_within lX10_123 sX10_within (cn_X10_within E h zn0 0 64) rfl rfl (Nat.le_of_ble_eq_true rfl) ⟨Nat.le_of_ble_eq_true rfl, Nat.le_of_ble_eq_true rfl⟩ ⟨Nat.le_of_ble_eq_true rfl, Nat.le_of_ble_eq_true rfl⟩ ?_
    refine ev_if_eq (pc := 22) (tgt := 39) dX10_read_22 (by decide) (fun zc22 => ?_) (fun zc22 => ?_)
    · -- eq at 22: taken
      refine ev_iconst (pc := 39) (v := (-1)) dX10_read_39 (by decide) ?_
      refine ev_iret (pc := 40) dX10_read_40 rfl ?_ ?_
      · rfl
      · have hC : ¬ ((0 ≤ za ∧ za ≤ 2) ∧ ¬ zn0 < 0 ∧ ¬ zc0 < 0 ∧ zc0.toInt + zn0.toInt ≤ 64) := fun z => bI_0.mp zc22 (rd_G.mpr z.2).1
        rw [if_neg hC]
        exact ⟨rfl, fun z => absurd z.1 hC, fun _ => rfl⟩
    · -- eq at 22: not taken
      refine ev_iload (pc := 25) dX10_read_25 rfl ?_
      refine ev_iconst (pc := 27) (v := 0) dX10_read_27 (by decide) ?_
      refine ev_bipush (pc := 28) (v := 64) dX10_read_28 (by decide) ?_
      refine ev_iload (pc := 30) dX10_read_30 rfl ?_
      refine ev_isub (pc := 32) dX10_read_32 ?_
      refine ev_callSv (S := []) (pc := 33) dX10_read_33 kX10_within lX10_123 sX10_within (cn_X10_within E h zc0 0 (64 - zn0)) rfl rfl (Nat.le_of_ble_eq_true rfl) ⟨Nat.le_of_ble_eq_true rfl, Nat.le_of_ble_eq_true rfl⟩ ⟨Nat.le_of_ble_eq_true rfl, Nat.le_of_ble_eq_true rfl⟩ ?_
      refine ev_if_ne (pc := 36) (tgt := 41) dX10_read_36 (by decide) (fun zc36 => ?_) (fun zc36 => ?_)
      · -- ne at 36: taken
        have hG1 := rd_G.mp ⟨bI_n0.mp zc22, bI_n0.mp zc36⟩
        obtain ⟨zn, hn9, rfl⟩ := nI_of hG1.1
        obtain ⟨zc, hc9, rfl⟩ := nI_of hG1.2.1
        have hcn : zc + zn ≤ 64 := by
          have z1 := hG1.2.2
          rw [nI_toInt hc9, nI_toInt hn9] at z1
          omega
        have hG : (0 ≤ za ∧ za ≤ 2) ∧ ¬ (nI zn) < 0 ∧ ¬ (nI zc) < 0 ∧ (nI zc).toInt + (nI zn).toInt ≤ 64 := ⟨bI_n0.mp zc11, hG1⟩
        simp only [if_pos hG, nI_clamp hn9, nI_clamp hc9, hG, true_and]
        refine ev_aload_n (pc := 41) dX10_read_41 rfl ?_
        refine ev_getR (pc := 42) (q := 40) dX10_read_42 fX10_79 rfl (wlt hw (by decide)) (wr hw rfl) ?_
        refine ev_iload_n (pc := 45) dX10_read_45 rfl ?_
        refine ev_aald (pc := 46) (q := 45) dX10_read_46 rfl (wlt hw (by decide)) (vp_in_nI (n := 2) (by decide) (by decide)) (wr hw rfl) ?_
        refine ev_astore (pc := 47) (L' := [some (.ref 0), some (.int 2), some (.int za), some (.int zf0), some (.int (nI zc)), some (.int (nI zn)), some (.ref 45), none, none, none]) dX10_read_47 (Nat.le_of_ble_eq_true rfl) rfl ?_
        refine ev_iconst (pc := 49) (v := 0) dX10_read_49 (by decide) ?_
        refine ev_istore (pc := 50) (L' := [some (.ref 0), some (.int 2), some (.int za), some (.int zf0), some (.int (nI zc)), some (.int (nI zn)), some (.ref 45), some (.int 0), none, none]) dX10_read_50 (Nat.le_of_ble_eq_true rfl) rfl ?_
        refine ev_iconst (pc := 52) (v := 0) dX10_read_52 (by decide) ?_
        refine ev_istore (pc := 53) (L' := [some (.ref 0), some (.int 2), some (.int za), some (.int zf0), some (.int (nI zc)), some (.int (nI zn)), some (.ref 45), some (.int 0), some (.int 0), none]) dX10_read_53 (Nat.le_of_ble_eq_true rfl) rfl ?_
        refine lp_cread_55_2 E h za zf0 zc zn zz hw hl hl2 h4 hcn zn 0 (Nat.zero_add _) (Or.inl rfl) (fun zE => ?_) (fun zE => by simp [zE])
        refine ev_iconst (pc := 113) (v := 0) dX10_read_113 (by decide) ?_
        refine ev_istore (pc := 114) (L' := [some (.ref 0), some (.int 2), some (.int za), some (.int zf0), some (.int (nI zc)), some (.int (nI zn)), some (.ref 45), some (.int ((rdF (rdB (if h.2.1 45 1 = 0 then -4 else h.2.1 45 2) za zf0.toInt zz) (fun zj => h.2.1 46 (zf0.toInt + (zj : Nat)).toNat) zn 0).1)), some (.int (nI (rdF (rdB (if h.2.1 45 1 = 0 then -4 else h.2.1 45 2) za zf0.toInt zz) (fun zj => h.2.1 46 (zf0.toInt + (zj : Nat)).toNat) zn 0).2.1)), some (.int 0)]) dX10_read_114 (Nat.le_of_ble_eq_true rfl) rfl ?_
        have zok := rd_ok (zb := (rdB (if h.2.1 45 1 = 0 then -4 else h.2.1 45 2) za zf0.toInt zz)) (zg := (fun zj => h.2.1 46 (zf0.toInt + (zj : Nat)).toNat)) zn 0
        refine lp_cread_116_2 E h za zf0 (rdF (rdB (if h.2.1 45 1 = 0 then -4 else h.2.1 45 2) za zf0.toInt zz) (fun zj => h.2.1 46 (zf0.toInt + (zj : Nat)).toNat) zn 0).1 zc zn zz (rdF (rdB (if h.2.1 45 1 = 0 then -4 else h.2.1 45 2) za zf0.toInt zz) (fun zj => h.2.1 46 (zf0.toInt + (zj : Nat)).toNat) zn 0).2.1 zf zx hw hl hl2 h4 hcn (by omega) (fun zj hj => zok.2.2 zj (Nat.zero_le _) hj) (fun zg wzg hN => ?_) zn 0 h (Nat.zero_add _) hw (FN_0 hF)
        refine ev_aload_n (pc := 161) dX10_read_161 rfl ?_
        refine ev_iload (pc := 162) dX10_read_162 rfl ?_
        refine ev_putI (pc := 164) dX10_read_164 fX10_393 rfl (wlt wzg (by decide)) ?_
        refine ev_eqH (h' := sI zg 0 (upd (zg.2.1 0) 11 ((rdF (rdB (if h.2.1 45 1 = 0 then -4 else h.2.1 45 2) za zf0.toInt zz) (fun zj => h.2.1 46 (zf0.toInt + (zj : Nat)).toNat) zn 0).1))) (by rfl) ?_
        refine ev_iload (pc := 167) dX10_read_167 rfl ?_
        refine ev_iret (pc := 169) dX10_read_169 rfl ?_ ?_
        · rfl
        · rw [zE]
          obtain ⟨n1, n2, zq, n3, n4, n5⟩ := hN
          refine ⟨rfl, fun _ => ⟨n1, n2.1, n2.2.1, fun zk a b c => (sI_ne _ _ a).trans (n2.2.2.1 zk b c), n2.2.2.2.1, fun zj a => n2.2.2.2.2 zj a, fun zj a => (pk_un a).trans (congrFun (n2.2.2.1 0 (by decide) (by decide)) zj), rfl, zq, by omega, n4, n5⟩, fun z => absurd ⟨⟨id, id, trivial⟩, rfl⟩ z⟩
      · -- ne at 36: not taken
        refine ev_iconst (pc := 39) (v := (-1)) dX10_read_39 (by decide) ?_
        refine ev_iret (pc := 40) dX10_read_40 rfl ?_ ?_
        · rfl
        · have hC : ¬ ((0 ≤ za ∧ za ≤ 2) ∧ ¬ zn0 < 0 ∧ ¬ zc0 < 0 ∧ zc0.toInt + zn0.toInt ≤ 64) := fun z => bI_0.mp zc36 (rd_G.mpr z.2).2
          rw [if_neg hC]
          exact ⟨rfl, fun z => absurd z.1 hC, fun _ => rfl⟩
theorem lp_cread_116_3 (E : ME) (h : AH) (za zf0 zb : Int32) (zc zn zz zm : Nat) (zf : Nat → Int32) (zx : Int64) (hw0 : WF h) (hl : h.2.1 47 3 = nI zz) (hl2 : zz ≤ 64) (h4 : ¬ h.2.1 47 2 = -4) (hcn : zc + zn ≤ 64) (hm : zm ≤ zn) (hy : ∀ zj : Nat, zj < zm → (rdB (if h.2.1 47 1 = 0 then -4 else h.2.1 47 2) za zf0.toInt zz) zj = 0 ∧ (-1 ≤ h.2.1 48 (zf0.toInt + (zj : Nat)).toNat ∧ h.2.1 48 (zf0.toInt + (zj : Nat)).toNat ≤ 5)) {post : PO} (K : ∀ zg : AH, WF zg → FNz zf (rdW zf (fun zj => h.2.1 48 (zf0.toInt + (zj : Nat)).toNat) zc zm zn) (rdL zx zc zn) zn h zg → Ev E mX10_read (rmm 3 0 0) (QM E 0 0 post) 0 0 161 [some (.ref 0), some (.int 3), some (.int za), some (.int zf0), some (.int (nI zc)), some (.int (nI zn)), some (.ref 47), some (.int zb), some (.int (nI zm)), some (.int (nI zn))] [] zg) : ∀ (zq zi : Nat) (zg : AH), zi + zq = zn → WF zg → FNz zf (rdW zf (fun zj => h.2.1 48 (zf0.toInt + (zj : Nat)).toNat) zc zm zi) (rdL zx zc zi) zi h zg → Ev E mX10_read (rmm 3 0 0) (QM E 0 0 post) 0 0 116 [some (.ref 0), some (.int 3), some (.int za), some (.int zf0), some (.int (nI zc)), some (.int (nI zn)), some (.ref 47), some (.int zb), some (.int (nI zm)), some (.int (nI zi))] [] zg := by
  intro zq
  induction zq with
  | zero =>
    intro zi zg hz hw hF
    obtain rfl : zn = zi := by omega
    refine ev_iload (pc := 116) dX10_read_116 rfl ?_
    refine ev_iload (pc := 118) dX10_read_118 rfl ?_
    refine ev_icmp_ge (pc := 120) (tgt := 161) dX10_read_120 (by decide) (fun zc120 => ?_) (fun zc120 => absurd (nI_le (Nat.le_refl _) (by omega)) zc120)
    exact K zg hw hF
  | succ zq ih =>
    intro zi zg hz hw hF
    have hlt : zi < zn := by omega
    have e0 : zg.2.1 47 = h.2.1 47 := hF.2.1.2.2.1 47 (by decide) (by decide)
    have e1 : zg.2.1 48 = h.2.1 48 := hF.2.1.2.2.1 48 (by decide) (by decide)
    have hlg : zg.2.1 47 3 = nI zz := by rw [e0]; exact hl
    refine ev_iload (pc := 116) dX10_read_116 rfl ?_
    refine ev_iload (pc := 118) dX10_read_118 rfl ?_
    refine ev_icmp_ge (pc := 120) (tgt := 161) dX10_read_120 (by decide) (fun zc120 => absurd zc120 (nI_ge hlt (by omega))) (fun zc120 => ?_)
    refine ev_aload_n (pc := 123) dX10_read_123 rfl ?_
    refine ev_getR (pc := 124) (q := 25) dX10_read_124 fX10_45 rfl (wlt hw (by decide)) (wr hw rfl) ?_
    refine ev_iload (pc := 127) dX10_read_127 rfl ?_
    refine ev_iload (pc := 129) dX10_read_129 rfl ?_
    refine ev_iadd (pc := 131) dX10_read_131 ?_
    refine ev_eqI (e' := nI (zc + zi)) (nI_add zc zi) ?_
    refine ev_iload (pc := 132) dX10_read_132 rfl ?_
    refine ev_iload (pc := 134) dX10_read_134 rfl ?_
    refine ev_icmp_ge (pc := 136) (tgt := 151) dX10_read_136 (by decide) (fun zc136 => ?_) (fun zc136 => ?_)
    · -- ge at 136: taken
      refine ev_iconst (pc := 151) (v := (-1)) dX10_read_151 (by decide) ?_
      refine ev_callV (S := []) (pc := 152) dX10_read_152 kX2_change lX10_166 vX2_change (cn_X2_changeV E zg (zc + zi) (-1) (rdW zf (fun zj => h.2.1 48 (zf0.toInt + (zj : Nat)).toNat) zc zm zi) (rdL zx zc zi) hw hF.1 (by omega) (Or.inl rfl)) rfl rfl (wlt hw (by decide)) rfl rfl (Nat.le_of_ble_eq_true rfl) ⟨Nat.le_of_ble_eq_true rfl, Nat.le_of_ble_eq_true rfl⟩ ⟨Nat.le_of_ble_eq_true rfl, Nat.le_of_ble_eq_true rfl⟩ ?_
      rintro _ zg2 ⟨rfl, hF2, hR2, hn2⟩
      have wzg2 := FrF_w hR2 hw
      refine ev_iinc (pc := 155) (v := nI (zi + 1)) (L' := [some (.ref 0), some (.int 3), some (.int za), some (.int zf0), some (.int (nI zc)), some (.int (nI zn)), some (.ref 47), some (.int zb), some (.int (nI zm)), some (.int (nI (zi + 1)))]) dX10_read_155 rfl (nI_1 _) (Nat.le_of_ble_eq_true rfl) rfl ?_
      refine ev_goto (pc := 158) (tgt := 116) dX10_read_158 (by decide) ?_
      refine ih (zi + 1) zg2 (by omega) wzg2 ?_
      rw [rdW, rdL, if_neg (fun z => absurd ((nI_leI (by omega) (by omega)).mp zc136) (by omega))]
      exact FN_c hF hF2 hR2 hn2
    · -- ge at 136: not taken
      refine ev_aload (pc := 139) dX10_read_139 rfl ?_
      refine ev_iload_n (pc := 141) dX10_read_141 rfl ?_
      refine ev_iload (pc := 142) dX10_read_142 rfl ?_
      refine ev_iadd (pc := 144) dX10_read_144 ?_
      refine ev_callVv (S := [.int (nI (zc + zi)), .ref 25]) (pc := 145) dX10_read_145 kX7_valueAt lX10_390 vX7_valueAt (cn_X7_valueAt_47 E zg (zf0 + nI zi) zz hw hlg hl2) rfl rfl (wlt hw (by decide)) rfl rfl (Nat.le_of_ble_eq_true rfl) ⟨Nat.le_of_ble_eq_true rfl, Nat.le_of_ble_eq_true rfl⟩ ⟨Nat.le_of_ble_eq_true rfl, Nat.le_of_ble_eq_true rfl⟩ ?_
      have zlt : zi < zm := Nat.not_le.mp (fun z => zc136 ((nI_leI (by omega) (by omega)).mpr z))
      have zr0 := rdB_0 (hy zi zlt).1
      have zfi : (zf0 + nI zi).toInt = zf0.toInt + zi := by
        have e2 : (nI zi).toInt = zi := nI_toInt (by omega)
        rw [fb_addI (by rw [e2]; omega) (by rw [e2]; omega), e2]
      have ztt : ¬ h.2.1 47 1 = 0 := fun z => zr0.1 (if_pos z)
      have zsf : sfN (zg.2.1 47 1) (zg.2.1 47 3) (zf0 + nI zi) = 0 := by
        unfold sfN
        rw [e0, hl, if_neg ztt, if_pos]
        rw [i_le, i_le, i_z0, zfi, m1_toInt (by omega)]
        omega
      have zcl : Int32.toNatClampNeg (zf0 + nI zi) = (zf0.toInt + (zi : Nat)).toNat := by
        show (zf0 + nI zi).toInt.toNat = _
        rw [zfi]
      refine ev_eqI (e' := h.2.1 48 (zf0.toInt + (zi : Nat)).toNat) (by rw [if_pos zsf, zcl, e1]) ?_
      refine ev_goto (pc := 148) (tgt := 152) dX10_read_148 (by decide) ?_
      refine ev_callV (S := []) (pc := 152) dX10_read_152 kX2_change lX10_166 vX2_change (cn_X2_changeV E zg (zc + zi) (h.2.1 48 (zf0.toInt + (zi : Nat)).toNat) (rdW zf (fun zj => h.2.1 48 (zf0.toInt + (zj : Nat)).toNat) zc zm zi) (rdL zx zc zi) hw hF.1 (by omega) (col_in (hy zi zlt).2)) rfl rfl (wlt hw (by decide)) rfl rfl (Nat.le_of_ble_eq_true rfl) ⟨Nat.le_of_ble_eq_true rfl, Nat.le_of_ble_eq_true rfl⟩ ⟨Nat.le_of_ble_eq_true rfl, Nat.le_of_ble_eq_true rfl⟩ ?_
      rintro _ zg2 ⟨rfl, hF2, hR2, hn2⟩
      have wzg2 := FrF_w hR2 hw
      refine ev_iinc (pc := 155) (v := nI (zi + 1)) (L' := [some (.ref 0), some (.int 3), some (.int za), some (.int zf0), some (.int (nI zc)), some (.int (nI zn)), some (.ref 47), some (.int zb), some (.int (nI zm)), some (.int (nI (zi + 1)))]) dX10_read_155 rfl (nI_1 _) (Nat.le_of_ble_eq_true rfl) rfl ?_
      refine ev_goto (pc := 158) (tgt := 116) dX10_read_158 (by decide) ?_
      refine ih (zi + 1) zg2 (by omega) wzg2 ?_
      rw [rdW, rdL, if_pos zlt]
      exact FN_c hF hF2 hR2 hn2
theorem cn_X10_read_3 (E : ME) (h : AH) (za zf0 zc0 zn0 : Int32) (zz : Nat) (zf : Nat → Int32) (zx : Int64) (hw : WF h) (hl : h.2.1 47 3 = nI zz) (hl2 : zz ≤ 64) (h4 : ¬ h.2.1 47 2 = -4) (hF : FLz zf zx h) : Con E mX10_read 3 0 0 [.ref 0, .int 3, .int za, .int zf0, .int zc0, .int zn0] h (fun r h' => r = some (.int (if (0 ≤ za ∧ za ≤ 2) ∧ ¬ zn0 < 0 ∧ ¬ zc0 < 0 ∧ zc0.toInt + zn0.toInt ≤ 64 then (if (rdF (rdB (if h.2.1 47 1 = 0 then -4 else h.2.1 47 2) za zf0.toInt zz) (fun zj => h.2.1 48 (zf0.toInt + (zj : Nat)).toNat) (zn0).toNatClampNeg 0).2.2 then (rdF (rdB (if h.2.1 47 1 = 0 then -4 else h.2.1 47 2) za zf0.toInt zz) (fun zj => h.2.1 48 (zf0.toInt + (zj : Nat)).toNat) (zn0).toNatClampNeg 0).1 else nI (rdF (rdB (if h.2.1 47 1 = 0 then -4 else h.2.1 47 2) za zf0.toInt zz) (fun zj => h.2.1 48 (zf0.toInt + (zj : Nat)).toNat) (zn0).toNatClampNeg 0).2.1) else -1)) ∧ (((0 ≤ za ∧ za ≤ 2) ∧ ¬ zn0 < 0 ∧ ¬ zc0 < 0 ∧ zc0.toInt + zn0.toInt ≤ 64) ∧ (rdF (rdB (if h.2.1 47 1 = 0 then -4 else h.2.1 47 2) za zf0.toInt zz) (fun zj => h.2.1 48 (zf0.toInt + (zj : Nat)).toNat) (zn0).toNatClampNeg 0).2.2 = false → RDz zf zx (fun zj => h.2.1 48 (zf0.toInt + (zj : Nat)).toNat) (zc0).toNatClampNeg (rdF (rdB (if h.2.1 47 1 = 0 then -4 else h.2.1 47 2) za zf0.toInt zz) (fun zj => h.2.1 48 (zf0.toInt + (zj : Nat)).toNat) (zn0).toNatClampNeg 0).2.1 (zn0).toNatClampNeg (rdF (rdB (if h.2.1 47 1 = 0 then -4 else h.2.1 47 2) za zf0.toInt zz) (fun zj => h.2.1 48 (zf0.toInt + (zj : Nat)).toNat) (zn0).toNatClampNeg 0).1 h h') ∧ (¬ (((0 ≤ za ∧ za ≤ 2) ∧ ¬ zn0 < 0 ∧ ¬ zc0 < 0 ∧ zc0.toInt + zn0.toInt ≤ 64) ∧ (rdF (rdB (if h.2.1 47 1 = 0 then -4 else h.2.1 47 2) za zf0.toInt zz) (fun zj => h.2.1 48 (zf0.toInt + (zj : Nat)).toNat) (zn0).toNatClampNeg 0).2.2 = false) → h' = h)) := by
  refine con_of2 (L := [some (.ref 0), some (.int 3), some (.int za), some (.int zf0), some (.int zc0), some (.int zn0), none, none, none, none]) rfl (Nat.le_of_ble_eq_true rfl) rfl ?_
  refine ev_iload_n (pc := 0) dX10_read_0 rfl ?_
  refine ev_callSv (S := []) (pc := 1) dX10_read_1 kX10_isSheet lX10_372 sX10_isSheet (cn_X10_isSheet E h 3) rfl rfl (Nat.le_of_ble_eq_true rfl) ⟨Nat.le_of_ble_eq_true rfl, Nat.le_of_ble_eq_true rfl⟩ ⟨Nat.le_of_ble_eq_true rfl, Nat.le_of_ble_eq_true rfl⟩ ?_
  refine ev_if_eq (pc := 4) (tgt := 39) dX10_read_4 (by decide) (fun zc4 => absurd zc4 (bI_n0.mpr (by decide))) (fun zc4 => ?_)
  refine ev_iload_n (pc := 7) dX10_read_7 rfl ?_
  refine ev_callSv (S := []) (pc := 8) dX10_read_8 kX7_isLane lX10_375 sX7_isLane (cn_X7_isLane E h za) rfl rfl (Nat.le_of_ble_eq_true rfl) ⟨Nat.le_of_ble_eq_true rfl, Nat.le_of_ble_eq_true rfl⟩ ⟨Nat.le_of_ble_eq_true rfl, Nat.le_of_ble_eq_true rfl⟩ ?_
  refine ev_if_eq (pc := 11) (tgt := 39) dX10_read_11 (by decide) (fun zc11 => ?_) (fun zc11 => ?_)
  · -- eq at 11: taken
    refine ev_iconst (pc := 39) (v := (-1)) dX10_read_39 (by decide) ?_
    refine ev_iret (pc := 40) dX10_read_40 rfl ?_ ?_
    · rfl
    · have hC : ¬ ((0 ≤ za ∧ za ≤ 2) ∧ ¬ zn0 < 0 ∧ ¬ zc0 < 0 ∧ zc0.toInt + zn0.toInt ≤ 64) := fun z => bI_0.mp zc11 z.1
      rw [if_neg hC]
      exact ⟨rfl, fun z => absurd z.1 hC, fun _ => rfl⟩
  · -- eq at 11: not taken
    refine ev_iload (pc := 14) dX10_read_14 rfl ?_
    refine ev_iconst (pc := 16) (v := 0) dX10_read_16 (by decide) ?_
    refine ev_bipush (pc := 17) (v := 64) dX10_read_17 (by decide) ?_
    refine ev_callSv (S := []) (pc := 19) dX10_read_19 kX10_within lX10_123 sX10_within (cn_X10_within E h zn0 0 64) rfl rfl (Nat.le_of_ble_eq_true rfl) ⟨Nat.le_of_ble_eq_true rfl, Nat.le_of_ble_eq_true rfl⟩ ⟨Nat.le_of_ble_eq_true rfl, Nat.le_of_ble_eq_true rfl⟩ ?_
    refine ev_if_eq (pc := 22) (tgt := 39) dX10_read_22 (by decide) (fun zc22 => ?_) (fun zc22 => ?_)
    · -- eq at 22: taken
      refine ev_iconst (pc := 39) (v := (-1)) dX10_read_39 (by decide) ?_
      refine ev_iret (pc := 40) dX10_read_40 rfl ?_ ?_
      · rfl
      · have hC : ¬ ((0 ≤ za ∧ za ≤ 2) ∧ ¬ zn0 < 0 ∧ ¬ zc0 < 0 ∧ zc0.toInt + zn0.toInt ≤ 64) := fun z => bI_0.mp zc22 (rd_G.mpr z.2).1
        rw [if_neg hC]
        exact ⟨rfl, fun z => absurd z.1 hC, fun _ => rfl⟩
    · -- eq at 22: not taken
      refine ev_iload (pc := 25) dX10_read_25 rfl ?_
      refine ev_iconst (pc := 27) (v := 0) dX10_read_27 (by decide) ?_
      refine ev_bipush (pc := 28) (v := 64) dX10_read_28 (by decide) ?_
      refine ev_iload (pc := 30) dX10_read_30 rfl ?_
      refine ev_isub (pc := 32) dX10_read_32 ?_
      refine ev_callSv (S := []) (pc := 33) dX10_read_33 kX10_within lX10_123 sX10_within (cn_X10_within E h zc0 0 (64 - zn0)) rfl rfl (Nat.le_of_ble_eq_true rfl) ⟨Nat.le_of_ble_eq_true rfl, Nat.le_of_ble_eq_true rfl⟩ ⟨Nat.le_of_ble_eq_true rfl, Nat.le_of_ble_eq_true rfl⟩ ?_
      refine ev_if_ne (pc := 36) (tgt := 41) dX10_read_36 (by decide) (fun zc36 => ?_) (fun zc36 => ?_)
      · -- ne at 36: taken
        have hG1 := rd_G.mp ⟨bI_n0.mp zc22, bI_n0.mp zc36⟩
        obtain ⟨zn, hn9, rfl⟩ := nI_of hG1.1
        obtain ⟨zc, hc9, rfl⟩ := nI_of hG1.2.1
        have hcn : zc + zn ≤ 64 := by
          have z1 := hG1.2.2
          rw [nI_toInt hc9, nI_toInt hn9] at z1
          omega
        have hG : (0 ≤ za ∧ za ≤ 2) ∧ ¬ (nI zn) < 0 ∧ ¬ (nI zc) < 0 ∧ (nI zc).toInt + (nI zn).toInt ≤ 64 := ⟨bI_n0.mp zc11, hG1⟩
        simp only [if_pos hG, nI_clamp hn9, nI_clamp hc9, hG, true_and]
        refine ev_aload_n (pc := 41) dX10_read_41 rfl ?_
        refine ev_getR (pc := 42) (q := 40) dX10_read_42 fX10_79 rfl (wlt hw (by decide)) (wr hw rfl) ?_
        refine ev_iload_n (pc := 45) dX10_read_45 rfl ?_
        refine ev_aald (pc := 46) (q := 47) dX10_read_46 rfl (wlt hw (by decide)) (vp_in_nI (n := 3) (by decide) (by decide)) (wr hw rfl) ?_
        refine ev_astore (pc := 47) (L' := [some (.ref 0), some (.int 3), some (.int za), some (.int zf0), some (.int (nI zc)), some (.int (nI zn)), some (.ref 47), none, none, none]) dX10_read_47 (Nat.le_of_ble_eq_true rfl) rfl ?_
        refine ev_iconst (pc := 49) (v := 0) dX10_read_49 (by decide) ?_
        refine ev_istore (pc := 50) (L' := [some (.ref 0), some (.int 3), some (.int za), some (.int zf0), some (.int (nI zc)), some (.int (nI zn)), some (.ref 47), some (.int 0), none, none]) dX10_read_50 (Nat.le_of_ble_eq_true rfl) rfl ?_
        refine ev_iconst (pc := 52) (v := 0) dX10_read_52 (by decide) ?_
        refine ev_istore (pc := 53) (L' := [some (.ref 0), some (.int 3), some (.int za), some (.int zf0), some (.int (nI zc)), some (.int (nI zn)), some (.ref 47), some (.int 0), some (.int 0), none]) dX10_read_53 (Nat.le_of_ble_eq_true rfl) rfl ?_
        refine lp_cread_55_3 E h za zf0 zc zn zz hw hl hl2 h4 hcn zn 0 (Nat.zero_add _) (Or.inl rfl) (fun zE => ?_) (fun zE => by simp [zE])
        refine ev_iconst (pc := 113) (v := 0) dX10_read_113 (by decide) ?_
        refine ev_istore (pc := 114) (L' := [some (.ref 0), some (.int 3), some (.int za), some (.int zf0), some (.int (nI zc)), some (.int (nI zn)), some (.ref 47), some (.int ((rdF (rdB (if h.2.1 47 1 = 0 then -4 else h.2.1 47 2) za zf0.toInt zz) (fun zj => h.2.1 48 (zf0.toInt + (zj : Nat)).toNat) zn 0).1)), some (.int (nI (rdF (rdB (if h.2.1 47 1 = 0 then -4 else h.2.1 47 2) za zf0.toInt zz) (fun zj => h.2.1 48 (zf0.toInt + (zj : Nat)).toNat) zn 0).2.1)), some (.int 0)]) dX10_read_114 (Nat.le_of_ble_eq_true rfl) rfl ?_
        have zok := rd_ok (zb := (rdB (if h.2.1 47 1 = 0 then -4 else h.2.1 47 2) za zf0.toInt zz)) (zg := (fun zj => h.2.1 48 (zf0.toInt + (zj : Nat)).toNat)) zn 0
        refine lp_cread_116_3 E h za zf0 (rdF (rdB (if h.2.1 47 1 = 0 then -4 else h.2.1 47 2) za zf0.toInt zz) (fun zj => h.2.1 48 (zf0.toInt + (zj : Nat)).toNat) zn 0).1 zc zn zz (rdF (rdB (if h.2.1 47 1 = 0 then -4 else h.2.1 47 2) za zf0.toInt zz) (fun zj => h.2.1 48 (zf0.toInt + (zj : Nat)).toNat) zn 0).2.1 zf zx hw hl hl2 h4 hcn (by omega) (fun zj hj => zok.2.2 zj (Nat.zero_le _) hj) (fun zg wzg hN => ?_) zn 0 h (Nat.zero_add _) hw (FN_0 hF)
        refine ev_aload_n (pc := 161) dX10_read_161 rfl ?_
        refine ev_iload (pc := 162) dX10_read_162 rfl ?_
        refine ev_putI (pc := 164) dX10_read_164 fX10_393 rfl (wlt wzg (by decide)) ?_
        refine ev_eqH (h' := sI zg 0 (upd (zg.2.1 0) 11 ((rdF (rdB (if h.2.1 47 1 = 0 then -4 else h.2.1 47 2) za zf0.toInt zz) (fun zj => h.2.1 48 (zf0.toInt + (zj : Nat)).toNat) zn 0).1))) (by rfl) ?_
        refine ev_iload (pc := 167) dX10_read_167 rfl ?_
        refine ev_iret (pc := 169) dX10_read_169 rfl ?_ ?_
        · rfl
        · rw [zE]
          obtain ⟨n1, n2, zq, n3, n4, n5⟩ := hN
          refine ⟨rfl, fun _ => ⟨n1, n2.1, n2.2.1, fun zk a b c => (sI_ne _ _ a).trans (n2.2.2.1 zk b c), n2.2.2.2.1, fun zj a => n2.2.2.2.2 zj a, fun zj a => (pk_un a).trans (congrFun (n2.2.2.1 0 (by decide) (by decide)) zj), rfl, zq, by omega, n4, n5⟩, fun z => absurd ⟨⟨id, id, trivial⟩, rfl⟩ z⟩
      · -- ne at 36: not taken
        refine ev_iconst (pc := 39) (v := (-1)) dX10_read_39 (by decide) ?_
        refine ev_iret (pc := 40) dX10_read_40 rfl ?_ ?_
        · rfl
        · have hC : ¬ ((0 ≤ za ∧ za ≤ 2) ∧ ¬ zn0 < 0 ∧ ¬ zc0 < 0 ∧ zc0.toInt + zn0.toInt ≤ 64) := fun z => bI_0.mp zc36 (rd_G.mpr z.2).2
          rw [if_neg hC]
          exact ⟨rfl, fun z => absurd z.1 hC, fun _ => rfl⟩
