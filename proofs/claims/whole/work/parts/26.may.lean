/-- the heap but for the model's own notes on copies and words -/
def lwX (h h2 : AH) : Prop := ∃ (za zy zd : Int32) (zf zg : Nat → Int32), h2 = sI (sI (lcH h za zy zd) 70 zf) 71 zg
theorem lwX_rf (h : AH) : lwX h h := ⟨h.2.1 49 39, h.2.1 49 40, h.2.1 49 41, h.2.1 70, h.2.1 71, by rw [lcH_id, sI_id h 70]; exact (sI_id h 71).symm⟩
noncomputable def suW (h : AH) (zb k : Nat) : Int32 := suI (syW h k) (bkW h zb k)
theorem cn_X11_may (E : ME) (h : AH) (zc0 zv : Int32) (zb : Nat) (hw : WF h) (hb : h.2.1 49 16 = nI zb) (hb4 : zb ≤ 4) : Con E mX11_may 5 0 0 [.ref 49, .int zc0, .int zv] h (fun r h' => r = some (.int (if (0 ≤ zc0 ∧ zc0 ≤ 63) ∧ h.2.1 69 zc0.toNatClampNeg = -1 ∧ (0 ≤ zv ∧ zv ≤ 2) then (if zv = 0 then syW h zc0.toNatClampNeg else if zv = 1 then bkW h zb zc0.toNatClampNeg else suW h zb zc0.toNatClampNeg) else -1)) ∧ lwX h h') := by
  refine con_of2 (L := [some (.ref 49), some (.int zc0), some (.int zv)]) rfl (Nat.le_of_ble_eq_true rfl) rfl ?_
  refine ev_iload_n (pc := 0) dX11_may_0 rfl ?_
  refine ev_callSv (S := []) (pc := 1) dX11_may_1 kX11_isCell lX11_254 sX11_isCell (cn_X11_isCell E h zc0) rfl rfl (Nat.le_of_ble_eq_true rfl) ⟨Nat.le_of_ble_eq_true rfl, Nat.le_of_ble_eq_true rfl⟩ ⟨Nat.le_of_ble_eq_true rfl, Nat.le_of_ble_eq_true rfl⟩ ?_
  refine ev_if_eq (pc := 4) (tgt := 29) dX11_may_4 (by decide) (fun zc4 => ?_) (fun zc4 => ?_)
  · -- eq at 4: taken
    refine ev_iconst (pc := 29) (v := (-1)) dX11_may_29 (by decide) ?_
    refine ev_iret (pc := 30) dX11_may_30 rfl ?_ ?_
    · rfl
    · have hC : ¬ ((0 ≤ zc0 ∧ zc0 ≤ 63) ∧ h.2.1 69 zc0.toNatClampNeg = -1 ∧ (0 ≤ zv ∧ zv ≤ 2)) := fun q => (bI_0.mp zc4) q.1
      rw [if_neg hC]
      exact ⟨rfl, lwX_rf h⟩
  · -- eq at 4: not taken
    obtain ⟨zc, hzc, rfl⟩ := vp_in_of (vp_sm (N := 64) (bI_n0.mp zc4).1 (bI_n0.mp zc4).2 (by decide) (by decide)) (by decide)
    refine ev_aload_n (pc := 7) dX11_may_7 rfl ?_
    refine ev_getR (pc := 8) (q := 69) dX11_may_8 fX11_72 rfl (wlt hw (by decide)) (wr hw rfl) ?_
    refine ev_iload_n (pc := 11) dX11_may_11 rfl ?_
    refine ev_iald (pc := 12) dX11_may_12 rfl (wlt hw (by decide)) (vp_in_nI (by omega) (by decide)) ?_
    refine ev_eqI (e' := h.2.1 69 zc) (by rw [show Int32.toNatClampNeg (nI zc) = zc from nI_clamp (by omega)] <;> rfl) ?_
    refine ev_iconst (pc := 13) (v := (-1)) dX11_may_13 (by decide) ?_
    refine ev_icmp_ne (pc := 14) (tgt := 29) dX11_may_14 (by decide) (fun zc14 => ?_) (fun zc14 => ?_)
    · -- ne at 14: taken
      refine ev_iconst (pc := 29) (v := (-1)) dX11_may_29 (by decide) ?_
      refine ev_iret (pc := 30) dX11_may_30 rfl ?_ ?_
      · rfl
      · have hC : ¬ ((0 ≤ (nI zc) ∧ (nI zc) ≤ 63) ∧ h.2.1 69 (nI zc).toNatClampNeg = -1 ∧ (0 ≤ zv ∧ zv ≤ 2)) := fun q => zc14 (by have := q.2.1; rwa [nI_clamp (by omega)] at this)
        rw [if_neg hC]
        exact ⟨rfl, lwX_rf h⟩
    · -- ne at 14: not taken
      refine ev_iload_n (pc := 17) dX11_may_17 rfl ?_
      refine ev_i2l (pc := 18) dX11_may_18 ?_
      refine ev_lconst (pc := 19) (v := 0) dX11_may_19 (by decide) ?_
      refine ev_ldc2 (pc := 20) (v := 2) dX11_may_20 kcX11_245 ?_
      refine ev_callSv (S := []) (pc := 23) dX11_may_23 kX11_in lX11_96 sX11_in (cn_X11_inC E h zv 0 2 _ _ _ rfl (by decide) (by decide)) rfl rfl (Nat.le_of_ble_eq_true rfl) ⟨Nat.le_of_ble_eq_true rfl, Nat.le_of_ble_eq_true rfl⟩ ⟨Nat.le_of_ble_eq_true rfl, Nat.le_of_ble_eq_true rfl⟩ ?_
      refine ev_if_ne (pc := 26) (tgt := 31) dX11_may_26 (by decide) (fun zc26 => ?_) (fun zc26 => ?_)
      · -- ne at 26: taken
        refine ev_aload_n (pc := 31) dX11_may_31 rfl ?_
        refine ev_callV (S := []) (pc := 32) dX11_may_32 kX11_layWords lX11_309 vX11_layWords (cn_X11_layWords E h zb hw hb hb4) rfl rfl (wlt hw (by decide)) rfl rfl (Nat.le_of_ble_eq_true rfl) ⟨Nat.le_of_ble_eq_true rfl, Nat.le_of_ble_eq_true rfl⟩ ⟨Nat.le_of_ble_eq_true rfl, Nat.le_of_ble_eq_true rfl⟩ ?_
        rintro _ _ ⟨rfl, za, zy, zd, rfl⟩
        refine ev_iload_n (pc := 35) dX11_may_35 rfl ?_
        refine ev_if_ne (pc := 36) (tgt := 48) dX11_may_36 (by decide) (fun zc36 => ?_) (fun zc36 => ?_)
        · -- ne at 36: taken
          refine ev_iload_n (pc := 48) dX11_may_48 rfl ?_
          refine ev_iconst (pc := 49) (v := 1) dX11_may_49 (by decide) ?_
          refine ev_icmp_ne (pc := 50) (tgt := 62) dX11_may_50 (by decide) (fun zc50 => ?_) (fun zc50 => ?_)
          · -- ne at 50: taken
            refine ev_aload_n (pc := 62) dX11_may_62 rfl ?_
            refine ev_iload_n (pc := 63) dX11_may_63 rfl ?_
            refine ev_callVv (S := []) (pc := 64) dX11_may_64 kX11_sureOf lX11_312 vX11_sureOf (cn_X11_sureOf E (sI (sI (lcH h za zy zd) 70 (syW h)) 71 (bkW h zb)) zc (wf_sI (wf_sI (wf_lc hw))) (by omega)) rfl rfl (wlt (wf_sI (wf_sI (wf_lc hw))) (by decide)) rfl rfl (Nat.le_of_ble_eq_true rfl) ⟨Nat.le_of_ble_eq_true rfl, Nat.le_of_ble_eq_true rfl⟩ ⟨Nat.le_of_ble_eq_true rfl, Nat.le_of_ble_eq_true rfl⟩ ?_
            refine ev_iret (pc := 67) dX11_may_67 rfl ?_ ?_
            · rfl
            · have hC : (0 ≤ (nI zc) ∧ (nI zc) ≤ 63) ∧ h.2.1 69 (nI zc).toNatClampNeg = -1 ∧ (0 ≤ zv ∧ zv ≤ 2) := ⟨bI_n0.mp zc4, by rw [nI_clamp (by omega)]; exact zc14, bI_n0.mp zc26⟩
              rw [if_pos hC, nI_clamp (by omega)]
              refine ⟨?_, _, _, _, _, _, rfl⟩
              rw [if_neg zc36, if_neg zc50]
              rfl
          · -- ne at 50: not taken
            refine ev_aload_n (pc := 53) dX11_may_53 rfl ?_
            refine ev_getR (pc := 54) (q := 71) dX11_may_54 fX11_78 rfl (wlt (wf_sI (wf_sI (wf_lc hw))) (by decide)) (wr (wf_sI (wf_sI (wf_lc hw))) rfl) ?_
            refine ev_iload_n (pc := 57) dX11_may_57 rfl ?_
            refine ev_iald (pc := 58) dX11_may_58 rfl (wlt (wf_sI (wf_sI (wf_lc hw))) (by decide)) (vp_in_nI (by omega) (by decide)) ?_
            refine ev_eqI (e' := (bkW h zb) zc) (by rw [show Int32.toNatClampNeg (nI zc) = zc from nI_clamp (by omega)] <;> rfl) ?_
            refine ev_goto (pc := 59) (tgt := 67) dX11_may_59 (by decide) ?_
            refine ev_iret (pc := 67) dX11_may_67 rfl ?_ ?_
            · rfl
            · have hC : (0 ≤ (nI zc) ∧ (nI zc) ≤ 63) ∧ h.2.1 69 (nI zc).toNatClampNeg = -1 ∧ (0 ≤ zv ∧ zv ≤ 2) := ⟨bI_n0.mp zc4, by rw [nI_clamp (by omega)]; exact zc14, bI_n0.mp zc26⟩
              rw [if_pos hC, nI_clamp (by omega)]
              refine ⟨?_, _, _, _, _, _, rfl⟩
              rw [if_neg zc36, if_pos zc50]
        · -- ne at 36: not taken
          refine ev_aload_n (pc := 39) dX11_may_39 rfl ?_
          refine ev_getR (pc := 40) (q := 70) dX11_may_40 fX11_75 rfl (wlt (wf_sI (wf_sI (wf_lc hw))) (by decide)) (wr (wf_sI (wf_sI (wf_lc hw))) rfl) ?_
          refine ev_iload_n (pc := 43) dX11_may_43 rfl ?_
          refine ev_iald (pc := 44) dX11_may_44 rfl (wlt (wf_sI (wf_sI (wf_lc hw))) (by decide)) (vp_in_nI (by omega) (by decide)) ?_
          refine ev_eqI (e' := (syW h) zc) (by rw [show Int32.toNatClampNeg (nI zc) = zc from nI_clamp (by omega)] <;> rfl) ?_
          refine ev_goto (pc := 45) (tgt := 67) dX11_may_45 (by decide) ?_
          refine ev_iret (pc := 67) dX11_may_67 rfl ?_ ?_
          · rfl
          · have hC : (0 ≤ (nI zc) ∧ (nI zc) ≤ 63) ∧ h.2.1 69 (nI zc).toNatClampNeg = -1 ∧ (0 ≤ zv ∧ zv ≤ 2) := ⟨bI_n0.mp zc4, by rw [nI_clamp (by omega)]; exact zc14, bI_n0.mp zc26⟩
            rw [if_pos hC, nI_clamp (by omega)]
            refine ⟨?_, _, _, _, _, _, rfl⟩
            rw [if_pos zc36]
      · -- ne at 26: not taken
        refine ev_iconst (pc := 29) (v := (-1)) dX11_may_29 (by decide) ?_
        refine ev_iret (pc := 30) dX11_may_30 rfl ?_ ?_
        · rfl
        · have hC : ¬ ((0 ≤ (nI zc) ∧ (nI zc) ≤ 63) ∧ h.2.1 69 (nI zc).toNatClampNeg = -1 ∧ (0 ≤ zv ∧ zv ≤ 2)) := fun q => (bI_0.mp zc26) q.2.2
          rw [if_neg hC]
          exact ⟨rfl, lwX_rf h⟩
def loF (f v : Nat → Int32) (zv : Int32) : Nat → Int32
  | 0 => 0
  | k + 1 => loF f v zv k + (if f k = -1 ∧ (if zv = 0 then 0 ≤ v k else if zv = 1 then v k = -2 else v k = -4) then 1 else 0)
theorem lp_lost_22 (E : ME) (h : AH) (zv : Int32) (hw : WF h) {post : PO} (K : Ev E mX11_lost (rmm 5 0 0) (QM E 0 0 post) 0 0 93 [some (.ref 49), some (.int zv), some (.int (loF (h.2.1 69) (fun zj => suI (h.2.1 70 zj) (h.2.1 71 zj)) zv 64)), some (.int (nI 64)), none] [] h) : ∀ n i : Nat, i + n = 64 → Ev E mX11_lost (rmm 5 0 0) (QM E 0 0 post) 0 0 22 [some (.ref 49), some (.int zv), some (.int (loF (h.2.1 69) (fun zj => suI (h.2.1 70 zj) (h.2.1 71 zj)) zv i)), some (.int (nI i)), none] [] h := by
  intro n
  induction n with
  | zero =>
    intro i hi
    obtain rfl : 64 = i := by omega
    refine ev_iload_n (pc := 22) dX11_lost_22 rfl ?_
    refine ev_bipush (pc := 23) (v := 64) dX11_lost_23 (by decide) ?_
    refine ev_icmp_ge (pc := 25) (tgt := 93) dX11_lost_25 (by decide) (fun zc25 => ?_) (fun zc25 => absurd (by decide) zc25)
    exact K
  | succ n ih =>
    intro i hi
    have hlt : i < 64 := by omega
    refine ev_iload_n (pc := 22) dX11_lost_22 rfl ?_
    refine ev_bipush (pc := 23) (v := 64) dX11_lost_23 (by decide) ?_
    refine ev_icmp_ge (pc := 25) (tgt := 93) dX11_lost_25 (by decide) (fun zc25 => absurd zc25 (nI_ge (a := i) (b := 64) hlt (by decide))) (fun zc25 => ?_)
    refine ev_aload_n (pc := 28) dX11_lost_28 rfl ?_
    refine ev_iload_n (pc := 29) dX11_lost_29 rfl ?_
    refine ev_callVv (S := []) (pc := 30) dX11_lost_30 kX11_sureOf lX11_312 vX11_sureOf (cn_X11_sureOf E h i hw (by omega)) rfl rfl (wlt hw (by decide)) rfl rfl (Nat.le_of_ble_eq_true rfl) ⟨Nat.le_of_ble_eq_true rfl, Nat.le_of_ble_eq_true rfl⟩ ⟨Nat.le_of_ble_eq_true rfl, Nat.le_of_ble_eq_true rfl⟩ ?_
    refine ev_nmI (fun zr30 ezr30 => ?_)
    refine ev_istore (pc := 33) (L' := [some (.ref 49), some (.int zv), some (.int (loF (h.2.1 69) (fun zj => suI (h.2.1 70 zj) (h.2.1 71 zj)) zv i)), some (.int (nI i)), some (.int zr30)]) dX11_lost_33 (Nat.le_of_ble_eq_true rfl) rfl ?_
    refine ev_iload_n (pc := 35) dX11_lost_35 rfl ?_
    refine ev_aload_n (pc := 36) dX11_lost_36 rfl ?_
    refine ev_getR (pc := 37) (q := 69) dX11_lost_37 fX11_72 rfl (wlt hw (by decide)) (wr hw rfl) ?_
    refine ev_iload_n (pc := 40) dX11_lost_40 rfl ?_
    refine ev_iald (pc := 41) dX11_lost_41 rfl (wlt hw (by decide)) (vp_in_nI (by omega) (by decide)) ?_
    refine ev_eqI (e' := h.2.1 69 i) (by rw [show Int32.toNatClampNeg (nI i) = i from nI_clamp (by omega)] <;> rfl) ?_
    refine ev_iconst (pc := 42) (v := (-1)) dX11_lost_42 (by decide) ?_
    refine ev_icmp_ne (pc := 43) (tgt := 84) dX11_lost_43 (by decide) (fun zc43 => ?_) (fun zc43 => ?_)
    · -- ne at 43: taken
      refine ev_iconst (pc := 84) (v := 0) dX11_lost_84 (by decide) ?_
      refine ev_iadd (pc := 85) dX11_lost_85 ?_
      refine ev_istore_n (pc := 86) (L' := [some (.ref 49), some (.int zv), some (.int ((loF (h.2.1 69) (fun zj => suI (h.2.1 70 zj) (h.2.1 71 zj)) zv i) + 0)), some (.int (nI i)), some (.int zr30)]) dX11_lost_86 (Nat.le_of_ble_eq_true rfl) rfl ?_
      refine ev_iinc (pc := 87) (v := nI (i + 1)) (L' := [some (.ref 49), some (.int zv), some (.int ((loF (h.2.1 69) (fun zj => suI (h.2.1 70 zj) (h.2.1 71 zj)) zv i) + 0)), some (.int (nI (i + 1))), some (.int zr30)]) dX11_lost_87 rfl (nI_1 _) (Nat.le_of_ble_eq_true rfl) rfl ?_
      refine ev_goto (pc := 90) (tgt := 22) dX11_lost_90 (by decide) ?_
      subst ezr30
      refine ev_eqL (L' := [some (.ref 49), some (.int zv), some (.int (loF (h.2.1 69) (fun zj => suI (h.2.1 70 zj) (h.2.1 71 zj)) zv (i + 1))), some (.int (nI (i + 1))), some (.int (suI (h.2.1 70 i) (h.2.1 71 i)))]) (by simp only [loF]; rw [if_neg (show ¬ (h.2.1 69 i = -1 ∧ (if zv = 0 then 0 ≤ suI (h.2.1 70 i) (h.2.1 71 i) else if zv = 1 then suI (h.2.1 70 i) (h.2.1 71 i) = -2 else suI (h.2.1 70 i) (h.2.1 71 i) = -4)) from fun z => zc43 z.1)]) ?_
      refine ev_less (L' := [some (.ref 49), some (.int zv), some (.int (loF (h.2.1 69) (fun zj => suI (h.2.1 70 zj) (h.2.1 71 zj)) zv (i + 1))), some (.int (nI (i + 1))), none]) (ls_keep (ls_keep (ls_keep (ls_keep (ls_drop (ls_nil _)))))) ?_
      exact ih (i + 1) (by omega)
    · -- ne at 43: not taken
      refine ev_iload_n (pc := 46) dX11_lost_46 rfl ?_
      refine ev_if_ne (pc := 47) (tgt := 58) dX11_lost_47 (by decide) (fun zc47 => ?_) (fun zc47 => ?_)
      · -- ne at 47: taken
        refine ev_iload_n (pc := 58) dX11_lost_58 rfl ?_
        refine ev_iconst (pc := 59) (v := 1) dX11_lost_59 (by decide) ?_
        refine ev_icmp_ne (pc := 60) (tgt := 73) dX11_lost_60 (by decide) (fun zc60 => ?_) (fun zc60 => ?_)
        · -- ne at 60: taken
          refine ev_iload (pc := 73) dX11_lost_73 rfl ?_
          refine ev_bipush (pc := 75) (v := (-4)) dX11_lost_75 (by decide) ?_
          refine ev_icmp_ne (pc := 77) (tgt := 84) dX11_lost_77 (by decide) (fun zc77 => ?_) (fun zc77 => ?_)
          · -- ne at 77: taken
            refine ev_iconst (pc := 84) (v := 0) dX11_lost_84 (by decide) ?_
            refine ev_iadd (pc := 85) dX11_lost_85 ?_
            refine ev_istore_n (pc := 86) (L' := [some (.ref 49), some (.int zv), some (.int ((loF (h.2.1 69) (fun zj => suI (h.2.1 70 zj) (h.2.1 71 zj)) zv i) + 0)), some (.int (nI i)), some (.int zr30)]) dX11_lost_86 (Nat.le_of_ble_eq_true rfl) rfl ?_
            refine ev_iinc (pc := 87) (v := nI (i + 1)) (L' := [some (.ref 49), some (.int zv), some (.int ((loF (h.2.1 69) (fun zj => suI (h.2.1 70 zj) (h.2.1 71 zj)) zv i) + 0)), some (.int (nI (i + 1))), some (.int zr30)]) dX11_lost_87 rfl (nI_1 _) (Nat.le_of_ble_eq_true rfl) rfl ?_
            refine ev_goto (pc := 90) (tgt := 22) dX11_lost_90 (by decide) ?_
            subst ezr30
            refine ev_eqL (L' := [some (.ref 49), some (.int zv), some (.int (loF (h.2.1 69) (fun zj => suI (h.2.1 70 zj) (h.2.1 71 zj)) zv (i + 1))), some (.int (nI (i + 1))), some (.int (suI (h.2.1 70 i) (h.2.1 71 i)))]) (by simp only [loF]; rw [if_neg (show ¬ (h.2.1 69 i = -1 ∧ (if zv = 0 then 0 ≤ suI (h.2.1 70 i) (h.2.1 71 i) else if zv = 1 then suI (h.2.1 70 i) (h.2.1 71 i) = -2 else suI (h.2.1 70 i) (h.2.1 71 i) = -4)) from fun z => by simp only [if_neg zc47, if_neg zc60] at z; exact zc77 z.2)]) ?_
            refine ev_less (L' := [some (.ref 49), some (.int zv), some (.int (loF (h.2.1 69) (fun zj => suI (h.2.1 70 zj) (h.2.1 71 zj)) zv (i + 1))), some (.int (nI (i + 1))), none]) (ls_keep (ls_keep (ls_keep (ls_keep (ls_drop (ls_nil _)))))) ?_
            exact ih (i + 1) (by omega)
          · -- ne at 77: not taken
            refine ev_iconst (pc := 80) (v := 1) dX11_lost_80 (by decide) ?_
            refine ev_goto (pc := 81) (tgt := 85) dX11_lost_81 (by decide) ?_
            refine ev_iadd (pc := 85) dX11_lost_85 ?_
            refine ev_istore_n (pc := 86) (L' := [some (.ref 49), some (.int zv), some (.int ((loF (h.2.1 69) (fun zj => suI (h.2.1 70 zj) (h.2.1 71 zj)) zv i) + 1)), some (.int (nI i)), some (.int zr30)]) dX11_lost_86 (Nat.le_of_ble_eq_true rfl) rfl ?_
            refine ev_iinc (pc := 87) (v := nI (i + 1)) (L' := [some (.ref 49), some (.int zv), some (.int ((loF (h.2.1 69) (fun zj => suI (h.2.1 70 zj) (h.2.1 71 zj)) zv i) + 1)), some (.int (nI (i + 1))), some (.int zr30)]) dX11_lost_87 rfl (nI_1 _) (Nat.le_of_ble_eq_true rfl) rfl ?_
            refine ev_goto (pc := 90) (tgt := 22) dX11_lost_90 (by decide) ?_
            subst ezr30
            refine ev_eqL (L' := [some (.ref 49), some (.int zv), some (.int (loF (h.2.1 69) (fun zj => suI (h.2.1 70 zj) (h.2.1 71 zj)) zv (i + 1))), some (.int (nI (i + 1))), some (.int (suI (h.2.1 70 i) (h.2.1 71 i)))]) (by simp only [loF]; rw [if_pos (show h.2.1 69 i = -1 ∧ (if zv = 0 then 0 ≤ suI (h.2.1 70 i) (h.2.1 71 i) else if zv = 1 then suI (h.2.1 70 i) (h.2.1 71 i) = -2 else suI (h.2.1 70 i) (h.2.1 71 i) = -4) from ⟨zc43, by simp only [if_neg zc47, if_neg zc60]; exact zc77⟩)]) ?_
            refine ev_less (L' := [some (.ref 49), some (.int zv), some (.int (loF (h.2.1 69) (fun zj => suI (h.2.1 70 zj) (h.2.1 71 zj)) zv (i + 1))), some (.int (nI (i + 1))), none]) (ls_keep (ls_keep (ls_keep (ls_keep (ls_drop (ls_nil _)))))) ?_
            exact ih (i + 1) (by omega)
        · -- ne at 60: not taken
          refine ev_iload (pc := 63) dX11_lost_63 rfl ?_
          refine ev_bipush (pc := 65) (v := (-2)) dX11_lost_65 (by decide) ?_
          refine ev_icmp_ne (pc := 67) (tgt := 84) dX11_lost_67 (by decide) (fun zc67 => ?_) (fun zc67 => ?_)
          · -- ne at 67: taken
            refine ev_iconst (pc := 84) (v := 0) dX11_lost_84 (by decide) ?_
            refine ev_iadd (pc := 85) dX11_lost_85 ?_
            refine ev_istore_n (pc := 86) (L' := [some (.ref 49), some (.int zv), some (.int ((loF (h.2.1 69) (fun zj => suI (h.2.1 70 zj) (h.2.1 71 zj)) zv i) + 0)), some (.int (nI i)), some (.int zr30)]) dX11_lost_86 (Nat.le_of_ble_eq_true rfl) rfl ?_
            refine ev_iinc (pc := 87) (v := nI (i + 1)) (L' := [some (.ref 49), some (.int zv), some (.int ((loF (h.2.1 69) (fun zj => suI (h.2.1 70 zj) (h.2.1 71 zj)) zv i) + 0)), some (.int (nI (i + 1))), some (.int zr30)]) dX11_lost_87 rfl (nI_1 _) (Nat.le_of_ble_eq_true rfl) rfl ?_
            refine ev_goto (pc := 90) (tgt := 22) dX11_lost_90 (by decide) ?_
            subst ezr30
            refine ev_eqL (L' := [some (.ref 49), some (.int zv), some (.int (loF (h.2.1 69) (fun zj => suI (h.2.1 70 zj) (h.2.1 71 zj)) zv (i + 1))), some (.int (nI (i + 1))), some (.int (suI (h.2.1 70 i) (h.2.1 71 i)))]) (by simp only [loF]; rw [if_neg (show ¬ (h.2.1 69 i = -1 ∧ (if zv = 0 then 0 ≤ suI (h.2.1 70 i) (h.2.1 71 i) else if zv = 1 then suI (h.2.1 70 i) (h.2.1 71 i) = -2 else suI (h.2.1 70 i) (h.2.1 71 i) = -4)) from fun z => by simp only [if_neg zc47, if_pos zc60] at z; exact zc67 z.2)]) ?_
            refine ev_less (L' := [some (.ref 49), some (.int zv), some (.int (loF (h.2.1 69) (fun zj => suI (h.2.1 70 zj) (h.2.1 71 zj)) zv (i + 1))), some (.int (nI (i + 1))), none]) (ls_keep (ls_keep (ls_keep (ls_keep (ls_drop (ls_nil _)))))) ?_
            exact ih (i + 1) (by omega)
          · -- ne at 67: not taken
            refine ev_goto (pc := 70) (tgt := 80) dX11_lost_70 (by decide) ?_
            refine ev_iconst (pc := 80) (v := 1) dX11_lost_80 (by decide) ?_
            refine ev_goto (pc := 81) (tgt := 85) dX11_lost_81 (by decide) ?_
            refine ev_iadd (pc := 85) dX11_lost_85 ?_
            refine ev_istore_n (pc := 86) (L' := [some (.ref 49), some (.int zv), some (.int ((loF (h.2.1 69) (fun zj => suI (h.2.1 70 zj) (h.2.1 71 zj)) zv i) + 1)), some (.int (nI i)), some (.int zr30)]) dX11_lost_86 (Nat.le_of_ble_eq_true rfl) rfl ?_
            refine ev_iinc (pc := 87) (v := nI (i + 1)) (L' := [some (.ref 49), some (.int zv), some (.int ((loF (h.2.1 69) (fun zj => suI (h.2.1 70 zj) (h.2.1 71 zj)) zv i) + 1)), some (.int (nI (i + 1))), some (.int zr30)]) dX11_lost_87 rfl (nI_1 _) (Nat.le_of_ble_eq_true rfl) rfl ?_
            refine ev_goto (pc := 90) (tgt := 22) dX11_lost_90 (by decide) ?_
            subst ezr30
            refine ev_eqL (L' := [some (.ref 49), some (.int zv), some (.int (loF (h.2.1 69) (fun zj => suI (h.2.1 70 zj) (h.2.1 71 zj)) zv (i + 1))), some (.int (nI (i + 1))), some (.int (suI (h.2.1 70 i) (h.2.1 71 i)))]) (by simp only [loF]; rw [if_pos (show h.2.1 69 i = -1 ∧ (if zv = 0 then 0 ≤ suI (h.2.1 70 i) (h.2.1 71 i) else if zv = 1 then suI (h.2.1 70 i) (h.2.1 71 i) = -2 else suI (h.2.1 70 i) (h.2.1 71 i) = -4) from ⟨zc43, by simp only [if_neg zc47, if_pos zc60]; exact zc67⟩)]) ?_
            refine ev_less (L' := [some (.ref 49), some (.int zv), some (.int (loF (h.2.1 69) (fun zj => suI (h.2.1 70 zj) (h.2.1 71 zj)) zv (i + 1))), some (.int (nI (i + 1))), none]) (ls_keep (ls_keep (ls_keep (ls_keep (ls_drop (ls_nil _)))))) ?_
            exact ih (i + 1) (by omega)
      · -- ne at 47: not taken
        refine ev_iload (pc := 50) dX11_lost_50 rfl ?_
        refine ev_if_lt (pc := 52) (tgt := 84) dX11_lost_52 (by decide) (fun zc52 => ?_) (fun zc52 => ?_)
        · -- lt at 52: taken
          refine ev_iconst (pc := 84) (v := 0) dX11_lost_84 (by decide) ?_
          refine ev_iadd (pc := 85) dX11_lost_85 ?_
          refine ev_istore_n (pc := 86) (L' := [some (.ref 49), some (.int zv), some (.int ((loF (h.2.1 69) (fun zj => suI (h.2.1 70 zj) (h.2.1 71 zj)) zv i) + 0)), some (.int (nI i)), some (.int zr30)]) dX11_lost_86 (Nat.le_of_ble_eq_true rfl) rfl ?_
          refine ev_iinc (pc := 87) (v := nI (i + 1)) (L' := [some (.ref 49), some (.int zv), some (.int ((loF (h.2.1 69) (fun zj => suI (h.2.1 70 zj) (h.2.1 71 zj)) zv i) + 0)), some (.int (nI (i + 1))), some (.int zr30)]) dX11_lost_87 rfl (nI_1 _) (Nat.le_of_ble_eq_true rfl) rfl ?_
          refine ev_goto (pc := 90) (tgt := 22) dX11_lost_90 (by decide) ?_
          subst ezr30
          refine ev_eqL (L' := [some (.ref 49), some (.int zv), some (.int (loF (h.2.1 69) (fun zj => suI (h.2.1 70 zj) (h.2.1 71 zj)) zv (i + 1))), some (.int (nI (i + 1))), some (.int (suI (h.2.1 70 i) (h.2.1 71 i)))]) (by simp only [loF]; rw [if_neg (show ¬ (h.2.1 69 i = -1 ∧ (if zv = 0 then 0 ≤ suI (h.2.1 70 i) (h.2.1 71 i) else if zv = 1 then suI (h.2.1 70 i) (h.2.1 71 i) = -2 else suI (h.2.1 70 i) (h.2.1 71 i) = -4)) from fun z => by simp only [if_pos zc47] at z; exact (i_lt2 _ _).mpr z.2 zc52)]) ?_
          refine ev_less (L' := [some (.ref 49), some (.int zv), some (.int (loF (h.2.1 69) (fun zj => suI (h.2.1 70 zj) (h.2.1 71 zj)) zv (i + 1))), some (.int (nI (i + 1))), none]) (ls_keep (ls_keep (ls_keep (ls_keep (ls_drop (ls_nil _)))))) ?_
          exact ih (i + 1) (by omega)
        · -- lt at 52: not taken
          refine ev_goto (pc := 55) (tgt := 80) dX11_lost_55 (by decide) ?_
          refine ev_iconst (pc := 80) (v := 1) dX11_lost_80 (by decide) ?_
          refine ev_goto (pc := 81) (tgt := 85) dX11_lost_81 (by decide) ?_
          refine ev_iadd (pc := 85) dX11_lost_85 ?_
          refine ev_istore_n (pc := 86) (L' := [some (.ref 49), some (.int zv), some (.int ((loF (h.2.1 69) (fun zj => suI (h.2.1 70 zj) (h.2.1 71 zj)) zv i) + 1)), some (.int (nI i)), some (.int zr30)]) dX11_lost_86 (Nat.le_of_ble_eq_true rfl) rfl ?_
          refine ev_iinc (pc := 87) (v := nI (i + 1)) (L' := [some (.ref 49), some (.int zv), some (.int ((loF (h.2.1 69) (fun zj => suI (h.2.1 70 zj) (h.2.1 71 zj)) zv i) + 1)), some (.int (nI (i + 1))), some (.int zr30)]) dX11_lost_87 rfl (nI_1 _) (Nat.le_of_ble_eq_true rfl) rfl ?_
          refine ev_goto (pc := 90) (tgt := 22) dX11_lost_90 (by decide) ?_
          subst ezr30
          refine ev_eqL (L' := [some (.ref 49), some (.int zv), some (.int (loF (h.2.1 69) (fun zj => suI (h.2.1 70 zj) (h.2.1 71 zj)) zv (i + 1))), some (.int (nI (i + 1))), some (.int (suI (h.2.1 70 i) (h.2.1 71 i)))]) (by simp only [loF]; rw [if_pos (show h.2.1 69 i = -1 ∧ (if zv = 0 then 0 ≤ suI (h.2.1 70 i) (h.2.1 71 i) else if zv = 1 then suI (h.2.1 70 i) (h.2.1 71 i) = -2 else suI (h.2.1 70 i) (h.2.1 71 i) = -4) from ⟨zc43, by simp only [if_pos zc47]; exact (i_lt2 _ _).mp zc52⟩)]) ?_
          refine ev_less (L' := [some (.ref 49), some (.int zv), some (.int (loF (h.2.1 69) (fun zj => suI (h.2.1 70 zj) (h.2.1 71 zj)) zv (i + 1))), some (.int (nI (i + 1))), none]) (ls_keep (ls_keep (ls_keep (ls_keep (ls_drop (ls_nil _)))))) ?_
          exact ih (i + 1) (by omega)
theorem cn_X11_lost (E : ME) (h : AH) (zv : Int32) (zb : Nat) (hw : WF h) (hb : h.2.1 49 16 = nI zb) (hb4 : zb ≤ 4) : Con E mX11_lost 5 0 0 [.ref 49, .int zv] h (fun r h' => r = some (.int (if 0 ≤ zv ∧ zv ≤ 2 then loF (h.2.1 69) (fun zj => suW h zb zj) zv 64 else -1)) ∧ lwX h h') := by
  refine con_of2 (L := [some (.ref 49), some (.int zv), none, none, none]) rfl (Nat.le_of_ble_eq_true rfl) rfl ?_
  refine ev_iload_n (pc := 0) dX11_lost_0 rfl ?_
  refine ev_i2l (pc := 1) dX11_lost_1 ?_
  refine ev_lconst (pc := 2) (v := 0) dX11_lost_2 (by decide) ?_
  refine ev_ldc2 (pc := 3) (v := 2) dX11_lost_3 kcX11_245 ?_
  refine ev_callSv (S := []) (pc := 6) dX11_lost_6 kX11_in lX11_96 sX11_in (cn_X11_inC E h zv 0 2 _ _ _ rfl (by decide) (by decide)) rfl rfl (Nat.le_of_ble_eq_true rfl) ⟨Nat.le_of_ble_eq_true rfl, Nat.le_of_ble_eq_true rfl⟩ ⟨Nat.le_of_ble_eq_true rfl, Nat.le_of_ble_eq_true rfl⟩ ?_
  refine ev_if_ne (pc := 9) (tgt := 14) dX11_lost_9 (by decide) (fun zc9 => ?_) (fun zc9 => ?_)
  · -- ne at 9: taken
    refine ev_aload_n (pc := 14) dX11_lost_14 rfl ?_
    refine ev_callV (S := []) (pc := 15) dX11_lost_15 kX11_layWords lX11_309 vX11_layWords (cn_X11_layWords E h zb hw hb hb4) rfl rfl (wlt hw (by decide)) rfl rfl (Nat.le_of_ble_eq_true rfl) ⟨Nat.le_of_ble_eq_true rfl, Nat.le_of_ble_eq_true rfl⟩ ⟨Nat.le_of_ble_eq_true rfl, Nat.le_of_ble_eq_true rfl⟩ ?_
    rintro _ _ ⟨rfl, za, zy, zd, rfl⟩
    refine ev_iconst (pc := 18) (v := 0) dX11_lost_18 (by decide) ?_
    refine ev_istore_n (pc := 19) (L' := [some (.ref 49), some (.int zv), some (.int 0), none, none]) dX11_lost_19 (Nat.le_of_ble_eq_true rfl) rfl ?_
    refine ev_iconst (pc := 20) (v := 0) dX11_lost_20 (by decide) ?_
    refine ev_istore_n (pc := 21) (L' := [some (.ref 49), some (.int zv), some (.int 0), some (.int 0), none]) dX11_lost_21 (Nat.le_of_ble_eq_true rfl) rfl ?_
    refine lp_lost_22 E (sI (sI (lcH h za zy zd) 70 (syW h)) 71 (bkW h zb)) zv (wf_sI (wf_sI (wf_lc hw))) ?_ 64 0 (Nat.zero_add _)
    refine ev_iload_n (pc := 93) dX11_lost_93 rfl ?_
    refine ev_iret (pc := 94) dX11_lost_94 rfl ?_ ?_
    · rfl
    · have hC : 0 ≤ zv ∧ zv ≤ 2 := bI_n0.mp zc9
      rw [if_pos hC]
      exact ⟨rfl, _, _, _, _, _, rfl⟩
  · -- ne at 9: not taken
    refine ev_iconst (pc := 12) (v := (-1)) dX11_lost_12 (by decide) ?_
    refine ev_iret (pc := 13) dX11_lost_13 rfl ?_ ?_
    · rfl
    · have hC : ¬ (0 ≤ zv ∧ zv ≤ 2) := bI_0.mp zc9
      rw [if_neg hC]
      exact ⟨rfl, lwX_rf h⟩
/-- what is filled: the cells as bits, how many, the floor -/
def fkF (f v : Nat → Int32) : Nat → Int64
  | 0 => 0
  | k + 1 => if f k = -1 ∧ 0 ≤ v k then fkF f v k ||| (1 <<< ((nI k).toInt64 &&& 63)) else fkF f v k
def fnF (f v : Nat → Int32) : Nat → Int32
  | 0 => 0
  | k + 1 => if f k = -1 ∧ 0 ≤ v k then fnF f v k + 1 else fnF f v k
def ffF (x : Int64) (v f : Nat → Int32) : Nat → Nat → Int32
  | 0 => f
  | k + 1 => upd (ffF x v f k) k (if (x >>> ((nI k).toInt64 &&& 63)) &&& 1 = 1 then v k else ffF x v f k k)
def udF (x : Int64) (f : Nat → Int32) : Nat → Nat → Int32
  | 0 => f
  | k + 1 => if (x >>> ((nI k).toInt64 &&& 63)) &&& 1 = 1 then upd (udF x f k) k (-1) else udF x f k
def unF (x : Int64) : Nat → Int32
  | 0 => 0
  | k + 1 => if (x >>> ((nI k).toInt64 &&& 63)) &&& 1 = 1 then unF x k + 1 else unF x k
theorem lp_fill_18 (E : ME) (h : AH) (hw : WF h) {post : PO} (K : Ev E mX11_fill (rmm 5 0 0) (QM E 0 0 post) 0 0 63 [some (.ref 49), some (.int (fnF (h.2.1 69) (fun zj => suI (h.2.1 70 zj) (h.2.1 71 zj)) 64)), some (.int (nI 64))] [] (sL h 49 (vp_updL (h.2.2.1 49) 37 (fkF (h.2.1 69) (fun zj => suI (h.2.1 70 zj) (h.2.1 71 zj)) 64)))) : ∀ n i : Nat, i + n = 64 → Ev E mX11_fill (rmm 5 0 0) (QM E 0 0 post) 0 0 18 [some (.ref 49), some (.int (fnF (h.2.1 69) (fun zj => suI (h.2.1 70 zj) (h.2.1 71 zj)) i)), some (.int (nI i))] [] (sL h 49 (vp_updL (h.2.2.1 49) 37 (fkF (h.2.1 69) (fun zj => suI (h.2.1 70 zj) (h.2.1 71 zj)) i))) := by
  intro n
  induction n with
  | zero =>
    intro i hi
    obtain rfl : 64 = i := by omega
    refine ev_iload_n (pc := 18) dX11_fill_18 rfl ?_
    refine ev_bipush (pc := 19) (v := 64) dX11_fill_19 (by decide) ?_
    refine ev_icmp_ge (pc := 21) (tgt := 63) dX11_fill_21 (by decide) (fun zc21 => ?_) (fun zc21 => absurd (by decide) zc21)
    exact K
  | succ n ih =>
    intro i hi
    have hlt : i < 64 := by omega
    refine ev_iload_n (pc := 18) dX11_fill_18 rfl ?_
    refine ev_bipush (pc := 19) (v := 64) dX11_fill_19 (by decide) ?_
    refine ev_icmp_ge (pc := 21) (tgt := 63) dX11_fill_21 (by decide) (fun zc21 => absurd zc21 (nI_ge (a := i) (b := 64) hlt (by decide))) (fun zc21 => ?_)
    refine ev_aload_n (pc := 24) dX11_fill_24 rfl ?_
    refine ev_getR (pc := 25) (q := 69) dX11_fill_25 fX11_72 rfl (wlt (wf_sL hw) (by decide)) (wr (wf_sL hw) rfl) ?_
    refine ev_iload_n (pc := 28) dX11_fill_28 rfl ?_
    refine ev_iald (pc := 29) dX11_fill_29 rfl (wlt (wf_sL hw) (by decide)) (vp_in_nI (by omega) (by decide)) ?_
    refine ev_eqI (e' := h.2.1 69 i) (by rw [show Int32.toNatClampNeg (nI i) = i from nI_clamp (by omega)] <;> rfl) ?_
    refine ev_iconst (pc := 30) (v := (-1)) dX11_fill_30 (by decide) ?_
    refine ev_icmp_ne (pc := 31) (tgt := 57) dX11_fill_31 (by decide) (fun zc31 => ?_) (fun zc31 => ?_)
    · -- ne at 31: taken
      refine ev_iinc (pc := 57) (v := nI (i + 1)) (L' := [some (.ref 49), some (.int (fnF (h.2.1 69) (fun zj => suI (h.2.1 70 zj) (h.2.1 71 zj)) i)), some (.int (nI (i + 1)))]) dX11_fill_57 rfl (nI_1 _) (Nat.le_of_ble_eq_true rfl) rfl ?_
      refine ev_goto (pc := 60) (tgt := 18) dX11_fill_60 (by decide) ?_
      refine ev_eqL (L' := [some (.ref 49), some (.int (fnF (h.2.1 69) (fun zj => suI (h.2.1 70 zj) (h.2.1 71 zj)) (i + 1))), some (.int (nI (i + 1)))]) (by simp only [fnF]; rw [if_neg (show ¬ (h.2.1 69 i = -1 ∧ 0 ≤ suI (h.2.1 70 i) (h.2.1 71 i)) from fun z => zc31 z.1)]) ?_
      refine ev_eqH (h' := sL h 49 (vp_updL (h.2.2.1 49) 37 (fkF (h.2.1 69) (fun zj => suI (h.2.1 70 zj) (h.2.1 71 zj)) (i + 1)))) (by simp only [fkF]; rw [if_neg (show ¬ (h.2.1 69 i = -1 ∧ 0 ≤ suI (h.2.1 70 i) (h.2.1 71 i)) from fun z => zc31 z.1)]) ?_
      exact ih (i + 1) (by omega)
    · -- ne at 31: not taken
      refine ev_aload_n (pc := 34) dX11_fill_34 rfl ?_
      refine ev_iload_n (pc := 35) dX11_fill_35 rfl ?_
      refine ev_callVv (S := []) (pc := 36) dX11_fill_36 kX11_sureOf lX11_312 vX11_sureOf (cn_X11_sureOf E (sL h 49 (vp_updL (h.2.2.1 49) 37 (fkF (h.2.1 69) (fun zj => suI (h.2.1 70 zj) (h.2.1 71 zj)) i))) i (wf_sL hw) (by omega)) rfl rfl (wlt (wf_sL hw) (by decide)) rfl rfl (Nat.le_of_ble_eq_true rfl) ⟨Nat.le_of_ble_eq_true rfl, Nat.le_of_ble_eq_true rfl⟩ ⟨Nat.le_of_ble_eq_true rfl, Nat.le_of_ble_eq_true rfl⟩ ?_
      refine ev_if_lt (pc := 39) (tgt := 57) dX11_fill_39 (by decide) (fun zc39 => ?_) (fun zc39 => ?_)
      · -- lt at 39: taken
        refine ev_iinc (pc := 57) (v := nI (i + 1)) (L' := [some (.ref 49), some (.int (fnF (h.2.1 69) (fun zj => suI (h.2.1 70 zj) (h.2.1 71 zj)) i)), some (.int (nI (i + 1)))]) dX11_fill_57 rfl (nI_1 _) (Nat.le_of_ble_eq_true rfl) rfl ?_
        refine ev_goto (pc := 60) (tgt := 18) dX11_fill_60 (by decide) ?_
        refine ev_eqL (L' := [some (.ref 49), some (.int (fnF (h.2.1 69) (fun zj => suI (h.2.1 70 zj) (h.2.1 71 zj)) (i + 1))), some (.int (nI (i + 1)))]) (by simp only [fnF]; rw [if_neg (show ¬ (h.2.1 69 i = -1 ∧ 0 ≤ suI (h.2.1 70 i) (h.2.1 71 i)) from fun z => (i_lt2 _ _).mpr z.2 zc39)]) ?_
        refine ev_eqH (h' := sL h 49 (vp_updL (h.2.2.1 49) 37 (fkF (h.2.1 69) (fun zj => suI (h.2.1 70 zj) (h.2.1 71 zj)) (i + 1)))) (by simp only [fkF]; rw [if_neg (show ¬ (h.2.1 69 i = -1 ∧ 0 ≤ suI (h.2.1 70 i) (h.2.1 71 i)) from fun z => (i_lt2 _ _).mpr z.2 zc39)]) ?_
        exact ih (i + 1) (by omega)
      · -- lt at 39: not taken
        refine ev_aload_n (pc := 42) dX11_fill_42 rfl ?_
        refine ev_dup (pc := 43) dX11_fill_43 rfl ?_
        refine ev_getL (pc := 44) dX11_fill_44 fX11_257 rfl (wlt (wf_sL hw) (by decide)) ?_
        refine ev_eqJ (e' := fkF (h.2.1 69) (fun zj => suI (h.2.1 70 zj) (h.2.1 71 zj)) i) (by rfl) ?_
        refine ev_lconst (pc := 47) (v := 1) dX11_fill_47 (by decide) ?_
        refine ev_iload_n (pc := 48) dX11_fill_48 rfl ?_
        refine ev_lshl (pc := 49) dX11_fill_49 ?_
        refine ev_lor (pc := 50) dX11_fill_50 ?_
        refine ev_putL (pc := 51) dX11_fill_51 fX11_257 rfl (wlt (wf_sL hw) (by decide)) ?_
        refine ev_eqH (h' := sL h 49 (vp_updL (h.2.2.1 49) 37 ((fkF (h.2.1 69) (fun zj => suI (h.2.1 70 zj) (h.2.1 71 zj)) i) ||| (1 <<< (Int32.toInt64 (nI i) &&& 63))))) (by refine (sL_sL _ _ _ _).trans ?_; refine congrArg _ (funext fun zj => ?_); simp only [upd, vp_updL, sL_at]; (repeat' split) <;> first | rfl | (exfalso; omega)) ?_
        refine ev_iinc (pc := 54) (v := (fnF (h.2.1 69) (fun zj => suI (h.2.1 70 zj) (h.2.1 71 zj)) i) + 1) (L' := [some (.ref 49), some (.int ((fnF (h.2.1 69) (fun zj => suI (h.2.1 70 zj) (h.2.1 71 zj)) i) + 1)), some (.int (nI i))]) dX11_fill_54 rfl rfl (Nat.le_of_ble_eq_true rfl) rfl ?_
        refine ev_iinc (pc := 57) (v := nI (i + 1)) (L' := [some (.ref 49), some (.int ((fnF (h.2.1 69) (fun zj => suI (h.2.1 70 zj) (h.2.1 71 zj)) i) + 1)), some (.int (nI (i + 1)))]) dX11_fill_57 rfl (nI_1 _) (Nat.le_of_ble_eq_true rfl) rfl ?_
        refine ev_goto (pc := 60) (tgt := 18) dX11_fill_60 (by decide) ?_
        refine ev_eqL (L' := [some (.ref 49), some (.int (fnF (h.2.1 69) (fun zj => suI (h.2.1 70 zj) (h.2.1 71 zj)) (i + 1))), some (.int (nI (i + 1)))]) (by simp only [fnF]; rw [if_pos (show h.2.1 69 i = -1 ∧ 0 ≤ suI (h.2.1 70 i) (h.2.1 71 i) from ⟨zc31, (i_lt2 _ _).mp zc39⟩)]) ?_
        refine ev_eqH (h' := sL h 49 (vp_updL (h.2.2.1 49) 37 (fkF (h.2.1 69) (fun zj => suI (h.2.1 70 zj) (h.2.1 71 zj)) (i + 1)))) (by simp only [fkF]; rw [if_pos (show h.2.1 69 i = -1 ∧ 0 ≤ suI (h.2.1 70 i) (h.2.1 71 i) from ⟨zc31, (i_lt2 _ _).mp zc39⟩)]) ?_
        exact ih (i + 1) (by omega)
theorem cmp1 {x : Int64} (h : ¬ lg_cmp x 1 = 0) : ¬ x = 1 := fun z => h ((lc_eq _ _).mpr z)
theorem cmp1' {x : Int64} (h : lg_cmp x 1 = 0) : x = 1 := (lc_eq _ _).mp h
theorem lp_fill_65 (E : ME) (h : AH) (zn : Int32) (hw : WF h) {post : PO} (K : Ev E mX11_fill (rmm 5 0 0) (QM E 0 0 post) 0 0 110 [some (.ref 49), some (.int zn), some (.int (nI 64))] [] (sI h 69 (ffF (h.2.2.1 49 37) (fun zj => suI (h.2.1 70 zj) (h.2.1 71 zj)) (h.2.1 69) 64))) : ∀ n i : Nat, i + n = 64 → Ev E mX11_fill (rmm 5 0 0) (QM E 0 0 post) 0 0 65 [some (.ref 49), some (.int zn), some (.int (nI i))] [] (sI h 69 (ffF (h.2.2.1 49 37) (fun zj => suI (h.2.1 70 zj) (h.2.1 71 zj)) (h.2.1 69) i)) := by
  intro n
  induction n with
  | zero =>
    intro i hi
    obtain rfl : 64 = i := by omega
    refine ev_iload_n (pc := 65) dX11_fill_65 rfl ?_
    refine ev_bipush (pc := 66) (v := 64) dX11_fill_66 (by decide) ?_
    refine ev_icmp_ge (pc := 68) (tgt := 110) dX11_fill_68 (by decide) (fun zc68 => ?_) (fun zc68 => absurd (by decide) zc68)
    exact K
  | succ n ih =>
    intro i hi
    have hlt : i < 64 := by omega
    refine ev_iload_n (pc := 65) dX11_fill_65 rfl ?_
    refine ev_bipush (pc := 66) (v := 64) dX11_fill_66 (by decide) ?_
    refine ev_icmp_ge (pc := 68) (tgt := 110) dX11_fill_68 (by decide) (fun zc68 => absurd zc68 (nI_ge (a := i) (b := 64) hlt (by decide))) (fun zc68 => ?_)
    refine ev_aload_n (pc := 71) dX11_fill_71 rfl ?_
    refine ev_getR (pc := 72) (q := 69) dX11_fill_72 fX11_72 rfl (wlt (wf_sI hw) (by decide)) (wr (wf_sI hw) rfl) ?_
    refine ev_iload_n (pc := 75) dX11_fill_75 rfl ?_
    refine ev_aload_n (pc := 76) dX11_fill_76 rfl ?_
    refine ev_getL (pc := 77) dX11_fill_77 fX11_257 rfl (wlt (wf_sI hw) (by decide)) ?_
    refine ev_eqJ (e' := h.2.2.1 49 37) (by rfl) ?_
    refine ev_iload_n (pc := 80) dX11_fill_80 rfl ?_
    refine ev_lshr (pc := 81) dX11_fill_81 ?_
    refine ev_lconst (pc := 82) (v := 1) dX11_fill_82 (by decide) ?_
    refine ev_land (pc := 83) dX11_fill_83 ?_
    refine ev_lconst (pc := 84) (v := 1) dX11_fill_84 (by decide) ?_
    refine ev_lcmp (pc := 85) dX11_fill_85 ?_
    refine ev_if_ne (pc := 86) (tgt := 97) dX11_fill_86 (by decide) (fun zc86 => ?_) (fun zc86 => ?_)
    · -- ne at 86: taken
      refine ev_aload_n (pc := 97) dX11_fill_97 rfl ?_
      refine ev_getR (pc := 98) (q := 69) dX11_fill_98 fX11_72 rfl (wlt (wf_sI hw) (by decide)) (wr (wf_sI hw) rfl) ?_
      refine ev_iload_n (pc := 101) dX11_fill_101 rfl ?_
      refine ev_iald (pc := 102) dX11_fill_102 rfl (wlt (wf_sI hw) (by decide)) (vp_in_nI (by omega) (by decide)) ?_
      refine ev_eqI (e' := (ffF (h.2.2.1 49 37) (fun zj => suI (h.2.1 70 zj) (h.2.1 71 zj)) (h.2.1 69) i) i) (by rw [show Int32.toNatClampNeg (nI i) = i from nI_clamp (by omega)] <;> rfl) ?_
      refine ev_iast (pc := 103) dX11_fill_103 rfl (wlt (wf_sI hw) (by decide)) (vp_in_nI (by omega) (by decide)) ?_
      refine ev_eqH (h' := sI h 69 (upd (ffF (h.2.2.1 49 37) (fun zj => suI (h.2.1 70 zj) (h.2.1 71 zj)) (h.2.1 69) i) i ((ffF (h.2.2.1 49 37) (fun zj => suI (h.2.1 70 zj) (h.2.1 71 zj)) (h.2.1 69) i) i))) (by rw [show Int32.toNatClampNeg (nI i) = i from nI_clamp (by omega)]; exact sI_sI _ _ _ _) ?_
      refine ev_iinc (pc := 104) (v := nI (i + 1)) (L' := [some (.ref 49), some (.int zn), some (.int (nI (i + 1)))]) dX11_fill_104 rfl (nI_1 _) (Nat.le_of_ble_eq_true rfl) rfl ?_
      refine ev_goto (pc := 107) (tgt := 65) dX11_fill_107 (by decide) ?_
      refine ev_eqH (h' := sI h 69 (ffF (h.2.2.1 49 37) (fun zj => suI (h.2.1 70 zj) (h.2.1 71 zj)) (h.2.1 69) (i + 1))) (by simp only [ffF]; rw [if_neg (cmp1 zc86)]) ?_
      exact ih (i + 1) (by omega)
    · -- ne at 86: not taken
      refine ev_aload_n (pc := 89) dX11_fill_89 rfl ?_
      refine ev_iload_n (pc := 90) dX11_fill_90 rfl ?_
      refine ev_callVv (S := [.int (nI i), .ref 69]) (pc := 91) dX11_fill_91 kX11_sureOf lX11_312 vX11_sureOf (cn_X11_sureOf E (sI h 69 (ffF (h.2.2.1 49 37) (fun zj => suI (h.2.1 70 zj) (h.2.1 71 zj)) (h.2.1 69) i)) i (wf_sI hw) (by omega)) rfl rfl (wlt (wf_sI hw) (by decide)) rfl rfl (Nat.le_of_ble_eq_true rfl) ⟨Nat.le_of_ble_eq_true rfl, Nat.le_of_ble_eq_true rfl⟩ ⟨Nat.le_of_ble_eq_true rfl, Nat.le_of_ble_eq_true rfl⟩ ?_
      refine ev_goto (pc := 94) (tgt := 103) dX11_fill_94 (by decide) ?_
      refine ev_iast (pc := 103) dX11_fill_103 rfl (wlt (wf_sI hw) (by decide)) (vp_in_nI (by omega) (by decide)) ?_
      refine ev_eqH (h' := sI h 69 (upd (ffF (h.2.2.1 49 37) (fun zj => suI (h.2.1 70 zj) (h.2.1 71 zj)) (h.2.1 69) i) i (suI (h.2.1 70 i) (h.2.1 71 i)))) (by rw [show Int32.toNatClampNeg (nI i) = i from nI_clamp (by omega)]; exact sI_sI _ _ _ _) ?_
      refine ev_iinc (pc := 104) (v := nI (i + 1)) (L' := [some (.ref 49), some (.int zn), some (.int (nI (i + 1)))]) dX11_fill_104 rfl (nI_1 _) (Nat.le_of_ble_eq_true rfl) rfl ?_
      refine ev_goto (pc := 107) (tgt := 65) dX11_fill_107 (by decide) ?_
      refine ev_eqH (h' := sI h 69 (ffF (h.2.2.1 49 37) (fun zj => suI (h.2.1 70 zj) (h.2.1 71 zj)) (h.2.1 69) (i + 1))) (by simp only [ffF]; rw [if_pos (cmp1' zc86)]) ?_
      exact ih (i + 1) (by omega)
noncomputable def flK (h : AH) (zb : Nat) : Int64 := fkF (h.2.1 69) (fun zj => suW h zb zj) 64
noncomputable def flF (h : AH) (zb : Nat) : Nat → Int32 := ffF (flK h zb) (fun zj => suW h zb zj) (h.2.1 69) 64
theorem lp_undo_14 (E : ME) (h : AH) (hw : WF h) {post : PO} (K : Ev E mX11_undo (rmm 0 0 0) (QM E 0 0 post) 0 0 49 [some (.ref 49), some (.int (unF (h.2.2.1 49 37) 64)), some (.int (nI 64))] [] (sI h 69 (udF (h.2.2.1 49 37) (h.2.1 69) 64))) : ∀ n i : Nat, i + n = 64 → Ev E mX11_undo (rmm 0 0 0) (QM E 0 0 post) 0 0 14 [some (.ref 49), some (.int (unF (h.2.2.1 49 37) i)), some (.int (nI i))] [] (sI h 69 (udF (h.2.2.1 49 37) (h.2.1 69) i)) := by
  intro n
  induction n with
  | zero =>
    intro i hi
    obtain rfl : 64 = i := by omega
    refine ev_iload_n (pc := 14) dX11_undo_14 rfl ?_
    refine ev_bipush (pc := 15) (v := 64) dX11_undo_15 (by decide) ?_
    refine ev_icmp_ge (pc := 17) (tgt := 49) dX11_undo_17 (by decide) (fun zc17 => ?_) (fun zc17 => absurd (by decide) zc17)
    exact K
  | succ n ih =>
    intro i hi
    have hlt : i < 64 := by omega
    refine ev_iload_n (pc := 14) dX11_undo_14 rfl ?_
    refine ev_bipush (pc := 15) (v := 64) dX11_undo_15 (by decide) ?_
    refine ev_icmp_ge (pc := 17) (tgt := 49) dX11_undo_17 (by decide) (fun zc17 => absurd zc17 (nI_ge (a := i) (b := 64) hlt (by decide))) (fun zc17 => ?_)
    refine ev_aload_n (pc := 20) dX11_undo_20 rfl ?_
    refine ev_getL (pc := 21) dX11_undo_21 fX11_257 rfl (wlt (wf_sI hw) (by decide)) ?_
    refine ev_eqJ (e' := h.2.2.1 49 37) (by rfl) ?_
    refine ev_iload_n (pc := 24) dX11_undo_24 rfl ?_
    refine ev_lshr (pc := 25) dX11_undo_25 ?_
    refine ev_lconst (pc := 26) (v := 1) dX11_undo_26 (by decide) ?_
    refine ev_land (pc := 27) dX11_undo_27 ?_
    refine ev_lconst (pc := 28) (v := 1) dX11_undo_28 (by decide) ?_
    refine ev_lcmp (pc := 29) dX11_undo_29 ?_
    refine ev_if_ne (pc := 30) (tgt := 43) dX11_undo_30 (by decide) (fun zc30 => ?_) (fun zc30 => ?_)
    · -- ne at 30: taken
      refine ev_iinc (pc := 43) (v := nI (i + 1)) (L' := [some (.ref 49), some (.int (unF (h.2.2.1 49 37) i)), some (.int (nI (i + 1)))]) dX11_undo_43 rfl (nI_1 _) (Nat.le_of_ble_eq_true rfl) rfl ?_
      refine ev_goto (pc := 46) (tgt := 14) dX11_undo_46 (by decide) ?_
      refine ev_eqL (L' := [some (.ref 49), some (.int (unF (h.2.2.1 49 37) (i + 1))), some (.int (nI (i + 1)))]) (by simp only [unF]; rw [if_neg (cmp1 zc30)]) ?_
      refine ev_eqH (h' := sI h 69 (udF (h.2.2.1 49 37) (h.2.1 69) (i + 1))) (by simp only [udF]; rw [if_neg (cmp1 zc30)]) ?_
      exact ih (i + 1) (by omega)
    · -- ne at 30: not taken
      refine ev_aload_n (pc := 33) dX11_undo_33 rfl ?_
      refine ev_getR (pc := 34) (q := 69) dX11_undo_34 fX11_72 rfl (wlt (wf_sI hw) (by decide)) (wr (wf_sI hw) rfl) ?_
      refine ev_iload_n (pc := 37) dX11_undo_37 rfl ?_
      refine ev_iconst (pc := 38) (v := (-1)) dX11_undo_38 (by decide) ?_
      refine ev_iast (pc := 39) dX11_undo_39 rfl (wlt (wf_sI hw) (by decide)) (vp_in_nI (by omega) (by decide)) ?_
      refine ev_eqH (h' := sI h 69 (upd (udF (h.2.2.1 49 37) (h.2.1 69) i) i (-1))) (by rw [show Int32.toNatClampNeg (nI i) = i from nI_clamp (by omega)]; exact sI_sI _ _ _ _) ?_
      refine ev_iinc (pc := 40) (v := (unF (h.2.2.1 49 37) i) + 1) (L' := [some (.ref 49), some (.int ((unF (h.2.2.1 49 37) i) + 1)), some (.int (nI i))]) dX11_undo_40 rfl rfl (Nat.le_of_ble_eq_true rfl) rfl ?_
      refine ev_iinc (pc := 43) (v := nI (i + 1)) (L' := [some (.ref 49), some (.int ((unF (h.2.2.1 49 37) i) + 1)), some (.int (nI (i + 1)))]) dX11_undo_43 rfl (nI_1 _) (Nat.le_of_ble_eq_true rfl) rfl ?_
      refine ev_goto (pc := 46) (tgt := 14) dX11_undo_46 (by decide) ?_
      refine ev_eqL (L' := [some (.ref 49), some (.int (unF (h.2.2.1 49 37) (i + 1))), some (.int (nI (i + 1)))]) (by simp only [unF]; rw [if_pos (cmp1' zc30)]) ?_
      refine ev_eqH (h' := sI h 69 (udF (h.2.2.1 49 37) (h.2.1 69) (i + 1))) (by simp only [udF]; rw [if_pos (cmp1' zc30)]) ?_
      exact ih (i + 1) (by omega)
theorem cn_X11_undo (E : ME) (h : AH)  (hw : WF h) : Con E mX11_undo 0 0 0 [.ref 49] h (fun r h' => r = some (.int (if h.2.1 49 38 = 0 then -2 else unF (h.2.2.1 49 37) 64)) ∧ h' = if h.2.1 49 38 = 0 then h else sI (sL (sI h 69 (udF (h.2.2.1 49 37) (h.2.1 69) 64)) 49 (vp_updL (h.2.2.1 49) 37 0)) 49 (upd (h.2.1 49) 38 0)) := by
  refine con_of2 (L := [some (.ref 49), none, none]) rfl (Nat.le_of_ble_eq_true rfl) rfl ?_
  refine ev_aload_n (pc := 0) dX11_undo_0 rfl ?_
  refine ev_getI (pc := 1) dX11_undo_1 fX11_315 rfl (wlt hw (by decide)) ?_
  refine ev_if_ne (pc := 4) (tgt := 10) dX11_undo_4 (by decide) (fun zc4 => ?_) (fun zc4 => ?_)
  · -- ne at 4: taken
    refine ev_iconst (pc := 10) (v := 0) dX11_undo_10 (by decide) ?_
    refine ev_istore_n (pc := 11) (L' := [some (.ref 49), some (.int 0), none]) dX11_undo_11 (Nat.le_of_ble_eq_true rfl) rfl ?_
    refine ev_iconst (pc := 12) (v := 0) dX11_undo_12 (by decide) ?_
    refine ev_istore_n (pc := 13) (L' := [some (.ref 49), some (.int 0), some (.int 0)]) dX11_undo_13 (Nat.le_of_ble_eq_true rfl) rfl ?_
    refine ev_eqH (sI_id h 69).symm ?_
    refine lp_undo_14 E h hw ?_ 64 0 (Nat.zero_add _)
    refine ev_aload_n (pc := 49) dX11_undo_49 rfl ?_
    refine ev_lconst (pc := 50) (v := 0) dX11_undo_50 (by decide) ?_
    refine ev_putL (pc := 51) dX11_undo_51 fX11_257 rfl (wlt (wf_sI hw) (by decide)) ?_
    refine ev_eqH (h' := sL (sI h 69 (udF (h.2.2.1 49 37) (h.2.1 69) 64)) 49 (vp_updL (h.2.2.1 49) 37 0)) (by rfl) ?_
    refine ev_aload_n (pc := 54) dX11_undo_54 rfl ?_
    refine ev_iconst (pc := 55) (v := 0) dX11_undo_55 (by decide) ?_
    refine ev_putZ (pc := 56) dX11_undo_56 fX11_315 rfl (wlt (wf_sL (wf_sI hw)) (by decide)) (by decide) ?_
    refine ev_eqH (h' := sI (sL (sI h 69 (udF (h.2.2.1 49 37) (h.2.1 69) 64)) 49 (vp_updL (h.2.2.1 49) 37 0)) 49 (upd (h.2.1 49) 38 0)) (by rfl) ?_
    refine ev_iload_n (pc := 59) dX11_undo_59 rfl ?_
    refine ev_iret (pc := 60) dX11_undo_60 rfl ?_ ?_
    · rfl
    · rw [if_neg zc4, if_neg zc4]
      exact ⟨rfl, rfl⟩
  · -- ne at 4: not taken
    refine ev_bipush (pc := 7) (v := (-2)) dX11_undo_7 (by decide) ?_
    refine ev_iret (pc := 9) dX11_undo_9 rfl ?_ ?_
    · rfl
    · rw [if_pos zc4, if_pos zc4]
      exact ⟨rfl, rfl⟩
