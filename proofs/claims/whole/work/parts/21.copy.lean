/-- a copy's three numbers, and the heap with them -/
def agN (h : AH) (zp zw zs ze : Nat) : Int32 := agF (fun zj => tlN (h.2.1 56) zp zw zs zj) (fun zj => h.2.1 69 (spN zs ze zj)) (16 * zs * zs)
def clN (h : AH) (zp zw zs ze : Nat) : Int32 := clF (fun zj => tlN (h.2.1 56) zp zw zs zj) (fun zj => h.2.1 69 (spN zs ze zj)) (16 * zs * zs)
def fiN (h : AH) (zp zw zs ze : Nat) : Int32 := fiF (fun zj => tlN (h.2.1 56) zp zw zs zj) (fun zj => h.2.1 69 (spN zs ze zj)) (16 * zs * zs)
def lcH (h : AH) (za zb zd : Int32) : AH := sI h 49 (upd (upd (upd (h.2.1 49) 39 za) 40 zb) 41 zd)
theorem cpy_nat {bk zp0 zw0 zs0 ze0 : Int32} {zb : Nat} (hb : bk = nI zb) (hb4 : zb ≤ 4) (hC : cpy bk zp0 zw0 zs0 ze0) : ∃ zp zw zs ze : Nat, zp0 = nI zp ∧ zw0 = nI zw ∧ zs0 = nI zs ∧ ze0 = nI ze ∧ zp < zb ∧ zw < 8 ∧ (zs = 1 ∨ zs = 2) ∧ ze < 64 ∧ ze / 8 + 4 * zs ≤ 8 ∧ ze % 8 + 4 * zs ≤ 8 := by
  obtain ⟨h1, h2, h3, h4, h5, h6⟩ := hC
  subst hb
  have hp : vp_in zp0 zb := vp_th zb h1.1 h1.2 (Nat.le_refl _) (by omega)
  obtain ⟨zp, hzp, rfl⟩ := vp_in_of hp (by omega)
  obtain ⟨zw, hzw, rfl⟩ := vp_in_of (vp_sm (N := 8) h2.1 h2.2 (by decide) (by decide)) (by decide)
  obtain ⟨zs, hzs, rfl⟩ := vp_in_of (vp_sm (N := 3) h3.1 h3.2 (by decide) (by decide)) (by decide)
  obtain ⟨ze, hze, rfl⟩ := vp_in_of (vp_sm (N := 64) h4.1 h4.2 (by decide) (by decide)) (by decide)
  have e1 := (nI_leI (a := 1) (b := zs) (by decide) (by omega)).mp h3.1
  have d1 : nI ze / 8 = nI (ze / 8) := pk_div (a := ze) (d := 8) (by omega) (by decide) (by decide)
  have d2 : nI ze - nI ze / 8 * 8 = nI (ze % 8) := pk_rem (a := ze) (d := 8) (by omega) (by decide) (by decide)
  have d3 : 4 * nI zs = nI (4 * zs) := pk_mul 4 zs
  rw [d1, d3, nI_add] at h5
  rw [d2, d3, nI_add] at h6
  have g5 := (nI_leI (a := ze / 8 + 4 * zs) (b := 8) (by omega) (by decide)).mp h5
  have g6 := (nI_leI (a := ze % 8 + 4 * zs) (b := 8) (by omega) (by decide)).mp h6
  exact ⟨zp, zw, zs, ze, rfl, rfl, rfl, rfl, hzp, hzw, by omega, hze, g5, g6⟩
theorem cn_X11_lc (E : ME) (h : AH) (zp zw zs ze : Nat) (hw : WF h) (hsc : zs = 1 ∨ zs = 2) (hp : zp < 4) (hw8 : zw < 8) (he : ze < 64) (he1 : ze / 8 + 4 * zs ≤ 8) (he2 : ze % 8 + 4 * zs ≤ 8) : Con E mX11_layCopy 2 0 0 [.ref 49, .int (nI zp), .int (nI zw), .int (nI zs), .int (nI ze)] h (fun r h' => r = none ∧ h' = lcH h (agN h zp zw zs ze) (clN h zp zw zs ze) (fiN h zp zw zs ze)) := cn_X11_layCopy E h zp zw zs ze hw hsc hp hw8 he he1 he2
theorem cn_X11_pattern (E : ME) (h : AH) (zp0 zw0 ze0 : Int32) (zb : Nat) (hw : WF h) (hb : h.2.1 49 16 = nI zb) (hb4 : zb ≤ 4) : Con E mX11_pattern 2 0 0 [.ref 49, .int zp0, .int zw0, .int ze0] h (fun r h' => r = some (.int (if (0 ≤ zp0 ∧ zp0 ≤ h.2.1 49 16 - 1) ∧ (0 ≤ zw0 ∧ zw0 ≤ 7) ∧ (0 ≤ ze0 ∧ ze0 ≤ 15) then h.2.1 56 (16 * zp0.toNatClampNeg + srN 4 zw0.toNatClampNeg ze0.toNatClampNeg) else -1)) ∧ h' = h) := by
  refine con_of2 (L := [some (.ref 49), some (.int zp0), some (.int zw0), some (.int ze0)]) rfl (Nat.le_of_ble_eq_true rfl) rfl ?_
  refine ev_aload_n (pc := 0) dX11_pattern_0 rfl ?_
  refine ev_iload_n (pc := 1) dX11_pattern_1 rfl ?_
  refine ev_callVv (S := []) (pc := 2) dX11_pattern_2 kX11_isPattern lX11_261 vX11_isPattern (cn_X11_isPattern E h zp0 hw) rfl rfl (wlt hw (by decide)) rfl rfl (Nat.le_of_ble_eq_true rfl) ⟨Nat.le_of_ble_eq_true rfl, Nat.le_of_ble_eq_true rfl⟩ ⟨Nat.le_of_ble_eq_true rfl, Nat.le_of_ble_eq_true rfl⟩ ?_
  refine ev_if_eq (pc := 5) (tgt := 51) dX11_pattern_5 (by decide) (fun zc5 => ?_) (fun zc5 => ?_)
  · -- eq at 5: taken
    refine ev_iconst (pc := 51) (v := (-1)) dX11_pattern_51 (by decide) ?_
    refine ev_iret (pc := 52) dX11_pattern_52 rfl ?_ ?_
    · rfl
    · refine ⟨?_, rfl⟩
      simp only [bI_0, bI_n0, Classical.not_not] at *
      rw [if_neg (fun q => zc5 q.1)]
  · -- eq at 5: not taken
    refine ev_iload_n (pc := 8) dX11_pattern_8 rfl ?_
    refine ev_i2l (pc := 9) dX11_pattern_9 ?_
    refine ev_lconst (pc := 10) (v := 0) dX11_pattern_10 (by decide) ?_
    refine ev_ldc2 (pc := 11) (v := 7) dX11_pattern_11 kcX11_264 ?_
    refine ev_callSv (S := []) (pc := 14) dX11_pattern_14 kX11_in lX11_96 sX11_in (cn_X11_inC E h zw0 0 7 _ _ _ rfl (by decide) (by decide)) rfl rfl (Nat.le_of_ble_eq_true rfl) ⟨Nat.le_of_ble_eq_true rfl, Nat.le_of_ble_eq_true rfl⟩ ⟨Nat.le_of_ble_eq_true rfl, Nat.le_of_ble_eq_true rfl⟩ ?_
    refine ev_if_eq (pc := 17) (tgt := 51) dX11_pattern_17 (by decide) (fun zc17 => ?_) (fun zc17 => ?_)
    · -- eq at 17: taken
      refine ev_iconst (pc := 51) (v := (-1)) dX11_pattern_51 (by decide) ?_
      refine ev_iret (pc := 52) dX11_pattern_52 rfl ?_ ?_
      · rfl
      · refine ⟨?_, rfl⟩
        simp only [bI_0, bI_n0, Classical.not_not] at *
        rw [if_neg (fun q => zc17 q.2.1)]
    · -- eq at 17: not taken
      refine ev_iload_n (pc := 20) dX11_pattern_20 rfl ?_
      refine ev_i2l (pc := 21) dX11_pattern_21 ?_
      refine ev_lconst (pc := 22) (v := 0) dX11_pattern_22 (by decide) ?_
      refine ev_ldc2 (pc := 23) (v := 15) dX11_pattern_23 kcX11_266 ?_
      refine ev_callSv (S := []) (pc := 26) dX11_pattern_26 kX11_in lX11_96 sX11_in (cn_X11_inC E h ze0 0 15 _ _ _ rfl (by decide) (by decide)) rfl rfl (Nat.le_of_ble_eq_true rfl) ⟨Nat.le_of_ble_eq_true rfl, Nat.le_of_ble_eq_true rfl⟩ ⟨Nat.le_of_ble_eq_true rfl, Nat.le_of_ble_eq_true rfl⟩ ?_
      refine ev_if_eq (pc := 29) (tgt := 51) dX11_pattern_29 (by decide) (fun zc29 => ?_) (fun zc29 => ?_)
      · -- eq at 29: taken
        refine ev_iconst (pc := 51) (v := (-1)) dX11_pattern_51 (by decide) ?_
        refine ev_iret (pc := 52) dX11_pattern_52 rfl ?_ ?_
        · rfl
        · refine ⟨?_, rfl⟩
          simp only [bI_0, bI_n0, Classical.not_not] at *
          rw [if_neg (fun q => zc29 q.2.2)]
      · -- eq at 29: not taken
        obtain ⟨zp, hzp, rfl⟩ := vp_in_of (show vp_in zp0 4 by
          have z1 := bI_n0.mp zc5
          rw [hb] at z1
          exact vp_th 4 z1.1 z1.2 hb4 (by decide)) (by decide)
        obtain ⟨zw, hzw, rfl⟩ := vp_in_of (vp_sm (N := 8) (bI_n0.mp zc17).1 (bI_n0.mp zc17).2 (by decide) (by decide)) (by decide)
        obtain ⟨ze, hze, rfl⟩ := vp_in_of (vp_sm (N := 16) (bI_n0.mp zc29).1 (bI_n0.mp zc29).2 (by decide) (by decide)) (by decide)
        have z16 := (sr4 zw hzw ze hze).2
        refine ev_aload_n (pc := 32) dX11_pattern_32 rfl ?_
        refine ev_getR (pc := 33) (q := 56) dX11_pattern_33 fX11_28 rfl (wlt hw (by decide)) (wr hw rfl) ?_
        refine ev_bipush (pc := 36) (v := 16) dX11_pattern_36 (by decide) ?_
        refine ev_iload_n (pc := 38) dX11_pattern_38 rfl ?_
        refine ev_imul (pc := 39) dX11_pattern_39 ?_
        refine ev_eqI (e' := nI (16 * zp)) (pk_mul 16 zp) ?_
        refine ev_iload_n (pc := 40) dX11_pattern_40 rfl ?_
        refine ev_iconst (pc := 41) (v := 4) dX11_pattern_41 (by decide) ?_
        refine ev_iload_n (pc := 42) dX11_pattern_42 rfl ?_
        refine ev_callSv (S := [.int (nI (16 * zp)), .ref 56]) (pc := 43) dX11_pattern_43 kX11_sourceOf lX11_268 sX11_sourceOf (cn_X11_src4 E h ze zw hw (by omega) (by omega)) rfl rfl (Nat.le_of_ble_eq_true rfl) ⟨Nat.le_of_ble_eq_true rfl, Nat.le_of_ble_eq_true rfl⟩ ⟨Nat.le_of_ble_eq_true rfl, Nat.le_of_ble_eq_true rfl⟩ ?_
        refine ev_iadd (pc := 46) dX11_pattern_46 ?_
        refine ev_eqI (e' := nI ((16 * zp) + (srN 4 zw ze))) (nI_add (16 * zp) (srN 4 zw ze)) ?_
        refine ev_iald (pc := 47) dX11_pattern_47 rfl (wlt hw (by decide)) (vp_in_nI (by omega) (by decide)) ?_
        refine ev_eqI (e' := h.2.1 56 ((16 * zp) + (srN 4 zw ze))) (by rw [show Int32.toNatClampNeg (nI ((16 * zp) + (srN 4 zw ze))) = (16 * zp) + (srN 4 zw ze) from nI_clamp (by omega)] <;> rfl) ?_
        refine ev_goto (pc := 48) (tgt := 52) dX11_pattern_48 (by decide) ?_
        refine ev_iret (pc := 52) dX11_pattern_52 rfl ?_ ?_
        · rfl
        · refine ⟨?_, rfl⟩
          rw [if_pos ⟨bI_n0.mp zc5, bI_n0.mp zc17, bI_n0.mp zc29⟩, nI_clamp (by omega), nI_clamp (by omega), nI_clamp (by omega)]
theorem cn_X11_copy (E : ME) (h : AH) (zp0 zw0 zs0 ze0 zv : Int32) (zb : Nat) (hw : WF h) (hb : h.2.1 49 16 = nI zb) (hb4 : zb ≤ 4) : Con E mX11_copy 3 0 0 [.ref 49, .int zp0, .int zw0, .int zs0, .int ze0, .int zv] h (fun r h' => r = some (.int (if cpy (h.2.1 49 16) zp0 zw0 zs0 ze0 ∧ (0 ≤ zv ∧ zv ≤ 2) then (if zv = 0 then agN h zp0.toNatClampNeg zw0.toNatClampNeg zs0.toNatClampNeg ze0.toNatClampNeg else if zv = 1 then clN h zp0.toNatClampNeg zw0.toNatClampNeg zs0.toNatClampNeg ze0.toNatClampNeg else fiN h zp0.toNatClampNeg zw0.toNatClampNeg zs0.toNatClampNeg ze0.toNatClampNeg) else -1)) ∧ h' = if cpy (h.2.1 49 16) zp0 zw0 zs0 ze0 ∧ (0 ≤ zv ∧ zv ≤ 2) then lcH h (agN h zp0.toNatClampNeg zw0.toNatClampNeg zs0.toNatClampNeg ze0.toNatClampNeg) (clN h zp0.toNatClampNeg zw0.toNatClampNeg zs0.toNatClampNeg ze0.toNatClampNeg) (fiN h zp0.toNatClampNeg zw0.toNatClampNeg zs0.toNatClampNeg ze0.toNatClampNeg) else h) := by
  refine con_of2 (L := [some (.ref 49), some (.int zp0), some (.int zw0), some (.int zs0), some (.int ze0), some (.int zv)]) rfl (Nat.le_of_ble_eq_true rfl) rfl ?_
  refine ev_aload_n (pc := 0) dX11_copy_0 rfl ?_
  refine ev_iload_n (pc := 1) dX11_copy_1 rfl ?_
  refine ev_iload_n (pc := 2) dX11_copy_2 rfl ?_
  refine ev_iload_n (pc := 3) dX11_copy_3 rfl ?_
  refine ev_iload (pc := 4) dX11_copy_4 rfl ?_
  refine ev_callVv (S := []) (pc := 6) dX11_copy_6 kX11_isCopy lX11_288 vX11_isCopy (cn_X11_isCopy E h zp0 zw0 zs0 ze0 hw) rfl rfl (wlt hw (by decide)) rfl rfl (Nat.le_of_ble_eq_true rfl) ⟨Nat.le_of_ble_eq_true rfl, Nat.le_of_ble_eq_true rfl⟩ ⟨Nat.le_of_ble_eq_true rfl, Nat.le_of_ble_eq_true rfl⟩ ?_
  refine ev_if_eq (pc := 9) (tgt := 25) dX11_copy_9 (by decide) (fun zc9 => ?_) (fun zc9 => ?_)
  · -- eq at 9: taken
    refine ev_iconst (pc := 25) (v := (-1)) dX11_copy_25 (by decide) ?_
    refine ev_iret (pc := 26) dX11_copy_26 rfl ?_ ?_
    · rfl
    · have hC : ¬ (cpy (h.2.1 49 16) zp0 zw0 zs0 ze0 ∧ (0 ≤ zv ∧ zv ≤ 2)) := fun q => (bI_0.mp zc9) q.1
      rw [if_neg hC, if_neg hC]
      exact ⟨rfl, rfl⟩
  · -- eq at 9: not taken
    refine ev_iload (pc := 12) dX11_copy_12 rfl ?_
    refine ev_i2l (pc := 14) dX11_copy_14 ?_
    refine ev_lconst (pc := 15) (v := 0) dX11_copy_15 (by decide) ?_
    refine ev_ldc2 (pc := 16) (v := 2) dX11_copy_16 kcX11_245 ?_
    refine ev_callSv (S := []) (pc := 19) dX11_copy_19 kX11_in lX11_96 sX11_in (cn_X11_inC E h zv 0 2 _ _ _ rfl (by decide) (by decide)) rfl rfl (Nat.le_of_ble_eq_true rfl) ⟨Nat.le_of_ble_eq_true rfl, Nat.le_of_ble_eq_true rfl⟩ ⟨Nat.le_of_ble_eq_true rfl, Nat.le_of_ble_eq_true rfl⟩ ?_
    refine ev_if_ne (pc := 22) (tgt := 27) dX11_copy_22 (by decide) (fun zc22 => ?_) (fun zc22 => ?_)
    · -- ne at 22: taken
      obtain ⟨zp, zw, zs, ze, rfl, rfl, rfl, rfl, hp, hw8, hsc, he, he1, he2⟩ := cpy_nat hb hb4 (bI_n0.mp zc9)
      refine ev_aload_n (pc := 27) dX11_copy_27 rfl ?_
      refine ev_iload_n (pc := 28) dX11_copy_28 rfl ?_
      refine ev_iload_n (pc := 29) dX11_copy_29 rfl ?_
      refine ev_iload_n (pc := 30) dX11_copy_30 rfl ?_
      refine ev_iload (pc := 31) dX11_copy_31 rfl ?_
      refine ev_callV0 (S := []) (pc := 33) dX11_copy_33 kX11_layCopy lX11_292 vX11_layCopy (cn_X11_lc E h zp zw zs ze hw hsc (by omega) hw8 he he1 he2) rfl rfl (wlt hw (by decide)) rfl rfl (Nat.le_of_ble_eq_true rfl) ⟨Nat.le_of_ble_eq_true rfl, Nat.le_of_ble_eq_true rfl⟩ ⟨Nat.le_of_ble_eq_true rfl, Nat.le_of_ble_eq_true rfl⟩ ?_
      refine ev_eqH (h' := sI h 49 (upd (upd (upd (h.2.1 49) 39 (agN h zp zw zs ze)) 40 (clN h zp zw zs ze)) 41 (fiN h zp zw zs ze))) rfl ?_
      refine ev_iload (pc := 36) dX11_copy_36 rfl ?_
      refine ev_if_ne (pc := 38) (tgt := 48) dX11_copy_38 (by decide) (fun zc38 => ?_) (fun zc38 => ?_)
      · -- ne at 38: taken
        refine ev_iload (pc := 48) dX11_copy_48 rfl ?_
        refine ev_iconst (pc := 50) (v := 1) dX11_copy_50 (by decide) ?_
        refine ev_icmp_ne (pc := 51) (tgt := 61) dX11_copy_51 (by decide) (fun zc51 => ?_) (fun zc51 => ?_)
        · -- ne at 51: taken
          refine ev_aload_n (pc := 61) dX11_copy_61 rfl ?_
          refine ev_getI (pc := 62) dX11_copy_62 fX11_278 rfl (wlt (wf_sI hw) (by decide)) ?_
          refine ev_eqI (e' := fiN h zp zw zs ze) (by rfl) ?_
          refine ev_iret (pc := 65) dX11_copy_65 rfl ?_ ?_
          · rfl
          · have hC : cpy (h.2.1 49 16) (nI zp) (nI zw) (nI zs) (nI ze) ∧ (0 ≤ zv ∧ zv ≤ 2) := ⟨bI_n0.mp zc9, bI_n0.mp zc22⟩
            rw [if_pos hC, if_pos hC, nI_clamp (n := zp) (by omega), nI_clamp (n := zw) (by omega), nI_clamp (n := zs) (by omega), nI_clamp (n := ze) (by omega)]
            refine ⟨?_, rfl⟩
            rw [if_neg zc38, if_neg zc51]
        · -- ne at 51: not taken
          refine ev_aload_n (pc := 54) dX11_copy_54 rfl ?_
          refine ev_getI (pc := 55) dX11_copy_55 fX11_275 rfl (wlt (wf_sI hw) (by decide)) ?_
          refine ev_eqI (e' := clN h zp zw zs ze) (by rfl) ?_
          refine ev_goto (pc := 58) (tgt := 65) dX11_copy_58 (by decide) ?_
          refine ev_iret (pc := 65) dX11_copy_65 rfl ?_ ?_
          · rfl
          · have hC : cpy (h.2.1 49 16) (nI zp) (nI zw) (nI zs) (nI ze) ∧ (0 ≤ zv ∧ zv ≤ 2) := ⟨bI_n0.mp zc9, bI_n0.mp zc22⟩
            rw [if_pos hC, if_pos hC, nI_clamp (n := zp) (by omega), nI_clamp (n := zw) (by omega), nI_clamp (n := zs) (by omega), nI_clamp (n := ze) (by omega)]
            refine ⟨?_, rfl⟩
            rw [if_neg zc38, if_pos zc51]
      · -- ne at 38: not taken
        refine ev_aload_n (pc := 41) dX11_copy_41 rfl ?_
        refine ev_getI (pc := 42) dX11_copy_42 fX11_272 rfl (wlt (wf_sI hw) (by decide)) ?_
        refine ev_eqI (e' := agN h zp zw zs ze) (by rfl) ?_
        refine ev_goto (pc := 45) (tgt := 65) dX11_copy_45 (by decide) ?_
        refine ev_iret (pc := 65) dX11_copy_65 rfl ?_ ?_
        · rfl
        · have hC : cpy (h.2.1 49 16) (nI zp) (nI zw) (nI zs) (nI ze) ∧ (0 ≤ zv ∧ zv ≤ 2) := ⟨bI_n0.mp zc9, bI_n0.mp zc22⟩
          rw [if_pos hC, if_pos hC, nI_clamp (n := zp) (by omega), nI_clamp (n := zw) (by omega), nI_clamp (n := zs) (by omega), nI_clamp (n := ze) (by omega)]
          refine ⟨?_, rfl⟩
          rw [if_pos zc38]
    · -- ne at 22: not taken
      refine ev_iconst (pc := 25) (v := (-1)) dX11_copy_25 (by decide) ?_
      refine ev_iret (pc := 26) dX11_copy_26 rfl ?_ ?_
      · rfl
      · have hC : ¬ (cpy (h.2.1 49 16) zp0 zw0 zs0 ze0 ∧ (0 ≤ zv ∧ zv ≤ 2)) := fun q => (bI_0.mp zc22) q.2
        rw [if_neg hC, if_neg hC]
        exact ⟨rfl, rfl⟩
