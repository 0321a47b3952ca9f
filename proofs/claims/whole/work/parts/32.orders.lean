theorem cn_X11_orders (E : ME) (h : AH) (m : Nat) (hw : WF h) (hm : h.2.1 49 14 = nI m) (hm2 : m ≤ 12) : Con E mX11_orders 1 0 0 [.ref 49] h (fun r h' => r = some (.long (if rgF (befF m (h.2.1 55) (h.2.1 66)) m = 0 then lN (wO m (h.2.1 55) (h.2.1 66) 0) else -2)) ∧ h' = if rgF (befF m (h.2.1 55) (h.2.1 66)) m = 0 then sL (sI h 66 (befF m (h.2.1 55) (h.2.1 66))) 67 (wyS (befF m (h.2.1 55) (h.2.1 66)) 0 (-4) m (h.2.2.1 67) (2 ^ m - 1)) else sI h 66 (befF m (h.2.1 55) (h.2.1 66))) := by
  refine con_of2 (L := [some (.ref 49)]) rfl (Nat.le_of_ble_eq_true rfl) rfl ?_
  refine ev_aload_n (pc := 0) dX11_orders_0 rfl ?_
  refine ev_callV0 (S := []) (pc := 1) dX11_orders_1 kX11_layBefore lX11_199 vX11_layBefore (cn_X11_layBefore E h m hw hm hm2) rfl rfl (wlt hw (by decide)) rfl rfl (Nat.le_of_ble_eq_true rfl) ⟨Nat.le_of_ble_eq_true rfl, Nat.le_of_ble_eq_true rfl⟩ ⟨Nat.le_of_ble_eq_true rfl, Nat.le_of_ble_eq_true rfl⟩ ?_
  refine ev_eqH (h' := sI h 66 (befF m (h.2.1 55) (h.2.1 66))) rfl ?_
  refine ev_aload_n (pc := 4) dX11_orders_4 rfl ?_
  refine ev_callVv (S := []) (pc := 5) dX11_orders_5 kX11_ringed lX11_202 vX11_ringed (cn_X11_ringed E (sI h 66 (befF m (h.2.1 55) (h.2.1 66))) m (wf_sI hw) hm hm2) rfl rfl (wlt (wf_sI hw) (by decide)) rfl rfl (Nat.le_of_ble_eq_true rfl) ⟨Nat.le_of_ble_eq_true rfl, Nat.le_of_ble_eq_true rfl⟩ ⟨Nat.le_of_ble_eq_true rfl, Nat.le_of_ble_eq_true rfl⟩ ?_
  refine ev_nmI (fun zr5 ezr5 => ?_)
  refine ev_if_eq (pc := 8) (tgt := 15) dX11_orders_8 (by decide) (fun zc8 => ?_) (fun zc8 => ?_)
  · -- eq at 8: taken
    refine ev_aload_n (pc := 15) dX11_orders_15 rfl ?_
    refine ev_iconst (pc := 16) (v := 0) dX11_orders_16 (by decide) ?_
    refine ev_bipush (pc := 17) (v := (-4)) dX11_orders_17 (by decide) ?_
    refine ev_callV0 (S := []) (pc := 19) dX11_orders_19 kX11_layWays lX11_216 vX11_layWays (cn_X11_layWays E (sI h 66 (befF m (h.2.1 55) (h.2.1 66))) 0 (-4) m (wf_sI hw) hm hm2) rfl rfl (wlt (wf_sI hw) (by decide)) rfl rfl (Nat.le_of_ble_eq_true rfl) ⟨Nat.le_of_ble_eq_true rfl, Nat.le_of_ble_eq_true rfl⟩ ⟨Nat.le_of_ble_eq_true rfl, Nat.le_of_ble_eq_true rfl⟩ ?_
    refine ev_eqH (h' := sL (sI h 66 (befF m (h.2.1 55) (h.2.1 66))) 67 (wyS (befF m (h.2.1 55) (h.2.1 66)) 0 (-4) m (h.2.2.1 67) (2 ^ m - 1))) rfl ?_
    refine ev_aload_n (pc := 22) dX11_orders_22 rfl ?_
    refine ev_getR (pc := 23) (q := 67) dX11_orders_23 fX11_65 rfl (wlt (wf_sL (wf_sI hw)) (by decide)) (wr (wf_sL (wf_sI hw)) rfl) ?_
    refine ev_iconst (pc := 26) (v := 0) dX11_orders_26 (by decide) ?_
    refine ev_lald (pc := 27) dX11_orders_27 rfl (wlt (wf_sL (wf_sI hw)) (by decide)) (vp_in_nI (n := 0) (by decide) (by decide)) ?_
    refine ev_eqJ (e' := (wyS (befF m (h.2.1 55) (h.2.1 66)) 0 (-4) m (h.2.2.1 67) (2 ^ m - 1)) 0) (by rfl) ?_
    refine ev_eqJ (e' := lN (wO m (h.2.1 55) (h.2.1 66) 0)) (ways_eq _ _ _ hm2 _ (Nat.two_pow_pos m)) ?_
    refine ev_lret (pc := 28) dX11_orders_28 rfl ?_
    · rw [ezr5, sI_at] at zc8
      rw [if_pos zc8, if_pos zc8]
      exact ⟨rfl, rfl⟩
  · -- eq at 8: not taken
    refine ev_ldc2 (pc := 11) (v := (-2)) dX11_orders_11 kcX11_214 ?_
    refine ev_lret (pc := 14) dX11_orders_14 rfl ?_
    · rw [ezr5, sI_at] at zc8
      rw [if_neg zc8, if_neg zc8]
      exact ⟨rfl, rfl⟩
theorem cn_X11_likely (E : ME) (h : AH) (za zb zv : Int32) (m : Nat) (hw : WF h) (hm : h.2.1 49 14 = nI m) (hm2 : m ≤ 12) (hL : BBz (h.2.1 55) m) : Con E mX11_likely 2 0 0 [.ref 49, .int za, .int zb, .int zv] h (fun r h' => r = some (.long (if (0 ≤ za ∧ za ≤ h.2.1 49 14 - 1) ∧ (0 ≤ zb ∧ zb ≤ h.2.1 49 14 - 1) ∧ ¬ za = zb ∧ (0 ≤ zv ∧ zv ≤ 1) then (if rgF (befF m (h.2.1 55) (h.2.1 66)) m = 0 then (if zv = 0 then lN ((wW (fopB (befF m (h.2.1 55) (h.2.1 66)) za zb) m 0) / Nat.gcd (wW (fopB (befF m (h.2.1 55) (h.2.1 66)) za zb) m 0) (wO m (h.2.1 55) (h.2.1 66) 0)) else lN ((wO m (h.2.1 55) (h.2.1 66) 0) / Nat.gcd (wW (fopB (befF m (h.2.1 55) (h.2.1 66)) za zb) m 0) (wO m (h.2.1 55) (h.2.1 66) 0))) else -2) else -1)) ∧ h' = if (0 ≤ za ∧ za ≤ h.2.1 49 14 - 1) ∧ (0 ≤ zb ∧ zb ≤ h.2.1 49 14 - 1) ∧ ¬ za = zb ∧ (0 ≤ zv ∧ zv ≤ 1) then (if rgF (befF m (h.2.1 55) (h.2.1 66)) m = 0 then sL (sI h 66 (befF m (h.2.1 55) (h.2.1 66))) 67 (wyS (befF m (h.2.1 55) (h.2.1 66)) 0 (-4) m (wyS (befF m (h.2.1 55) (h.2.1 66)) za zb m (h.2.2.1 67) (2 ^ m - 1)) (2 ^ m - 1)) else sI h 66 (befF m (h.2.1 55) (h.2.1 66))) else h) := by
  refine con_of2 (L := [some (.ref 49), some (.int za), some (.int zb), some (.int zv), none, none]) rfl (Nat.le_of_ble_eq_true rfl) rfl ?_
  refine ev_aload_n (pc := 0) dX11_likely_0 rfl ?_
  refine ev_iload_n (pc := 1) dX11_likely_1 rfl ?_
  refine ev_callVv (S := []) (pc := 2) dX11_likely_2 kX11_isThing lX11_194 vX11_isThing (cn_X11_isThing E h za hw) rfl rfl (wlt hw (by decide)) rfl rfl (Nat.le_of_ble_eq_true rfl) ⟨Nat.le_of_ble_eq_true rfl, Nat.le_of_ble_eq_true rfl⟩ ⟨Nat.le_of_ble_eq_true rfl, Nat.le_of_ble_eq_true rfl⟩ ?_
  refine ev_if_eq (pc := 5) (tgt := 31) dX11_likely_5 (by decide) (fun zc5 => ?_) (fun zc5 => ?_)
  · -- eq at 5: taken
    refine ev_ldc2 (pc := 31) (v := (-1)) dX11_likely_31 kcX11_220 ?_
    refine ev_lret (pc := 34) dX11_likely_34 rfl ?_
    · simp only [bI_0, bI_n0, Classical.not_not] at *
      have hC : ¬ ((0 ≤ za ∧ za ≤ h.2.1 49 14 - 1) ∧ (0 ≤ zb ∧ zb ≤ h.2.1 49 14 - 1) ∧ ¬ za = zb ∧ (0 ≤ zv ∧ zv ≤ 1)) := fun q => by first | exact zc5 q.1 | exact zc13 q.2.1 | exact q.2.2.1 zc18 | exact zc28 q.2.2.2
      rw [if_neg hC]
      try rw [if_neg hC]
      exact ⟨rfl, rfl⟩
  · -- eq at 5: not taken
    refine ev_aload_n (pc := 8) dX11_likely_8 rfl ?_
    refine ev_iload_n (pc := 9) dX11_likely_9 rfl ?_
    refine ev_callVv (S := []) (pc := 10) dX11_likely_10 kX11_isThing lX11_194 vX11_isThing (cn_X11_isThing E h zb hw) rfl rfl (wlt hw (by decide)) rfl rfl (Nat.le_of_ble_eq_true rfl) ⟨Nat.le_of_ble_eq_true rfl, Nat.le_of_ble_eq_true rfl⟩ ⟨Nat.le_of_ble_eq_true rfl, Nat.le_of_ble_eq_true rfl⟩ ?_
    refine ev_if_eq (pc := 13) (tgt := 31) dX11_likely_13 (by decide) (fun zc13 => ?_) (fun zc13 => ?_)
    · -- eq at 13: taken
      refine ev_ldc2 (pc := 31) (v := (-1)) dX11_likely_31 kcX11_220 ?_
      refine ev_lret (pc := 34) dX11_likely_34 rfl ?_
      · simp only [bI_0, bI_n0, Classical.not_not] at *
        have hC : ¬ ((0 ≤ za ∧ za ≤ h.2.1 49 14 - 1) ∧ (0 ≤ zb ∧ zb ≤ h.2.1 49 14 - 1) ∧ ¬ za = zb ∧ (0 ≤ zv ∧ zv ≤ 1)) := fun q => by first | exact zc5 q.1 | exact zc13 q.2.1 | exact q.2.2.1 zc18 | exact zc28 q.2.2.2
        rw [if_neg hC]
        try rw [if_neg hC]
        exact ⟨rfl, rfl⟩
    · -- eq at 13: not taken
      refine ev_iload_n (pc := 16) dX11_likely_16 rfl ?_
      refine ev_iload_n (pc := 17) dX11_likely_17 rfl ?_
      refine ev_icmp_eq (pc := 18) (tgt := 31) dX11_likely_18 (by decide) (fun zc18 => ?_) (fun zc18 => ?_)
      · -- eq at 18: taken
        refine ev_ldc2 (pc := 31) (v := (-1)) dX11_likely_31 kcX11_220 ?_
        refine ev_lret (pc := 34) dX11_likely_34 rfl ?_
        · simp only [bI_0, bI_n0, Classical.not_not] at *
          have hC : ¬ ((0 ≤ za ∧ za ≤ h.2.1 49 14 - 1) ∧ (0 ≤ zb ∧ zb ≤ h.2.1 49 14 - 1) ∧ ¬ za = zb ∧ (0 ≤ zv ∧ zv ≤ 1)) := fun q => by first | exact zc5 q.1 | exact zc13 q.2.1 | exact q.2.2.1 zc18 | exact zc28 q.2.2.2
          rw [if_neg hC]
          try rw [if_neg hC]
          exact ⟨rfl, rfl⟩
      · -- eq at 18: not taken
        refine ev_iload_n (pc := 21) dX11_likely_21 rfl ?_
        refine ev_i2l (pc := 22) dX11_likely_22 ?_
        refine ev_lconst (pc := 23) (v := 0) dX11_likely_23 (by decide) ?_
        refine ev_lconst (pc := 24) (v := 1) dX11_likely_24 (by decide) ?_
        refine ev_callSv (S := []) (pc := 25) dX11_likely_25 kX11_in lX11_96 sX11_in (cn_X11_inC E h zv 0 1 _ _ _ rfl (by decide) (by decide)) rfl rfl (Nat.le_of_ble_eq_true rfl) ⟨Nat.le_of_ble_eq_true rfl, Nat.le_of_ble_eq_true rfl⟩ ⟨Nat.le_of_ble_eq_true rfl, Nat.le_of_ble_eq_true rfl⟩ ?_
        refine ev_if_ne (pc := 28) (tgt := 35) dX11_likely_28 (by decide) (fun zc28 => ?_) (fun zc28 => ?_)
        · -- ne at 28: taken
          refine ev_aload_n (pc := 35) dX11_likely_35 rfl ?_
          refine ev_callV0 (S := []) (pc := 36) dX11_likely_36 kX11_layBefore lX11_199 vX11_layBefore (cn_X11_layBefore E h m hw hm hm2) rfl rfl (wlt hw (by decide)) rfl rfl (Nat.le_of_ble_eq_true rfl) ⟨Nat.le_of_ble_eq_true rfl, Nat.le_of_ble_eq_true rfl⟩ ⟨Nat.le_of_ble_eq_true rfl, Nat.le_of_ble_eq_true rfl⟩ ?_
          refine ev_eqH (h' := sI h 66 (befF m (h.2.1 55) (h.2.1 66))) rfl ?_
          refine ev_aload_n (pc := 39) dX11_likely_39 rfl ?_
          refine ev_callVv (S := []) (pc := 40) dX11_likely_40 kX11_ringed lX11_202 vX11_ringed (cn_X11_ringed E (sI h 66 (befF m (h.2.1 55) (h.2.1 66))) m (wf_sI hw) hm hm2) rfl rfl (wlt (wf_sI hw) (by decide)) rfl rfl (Nat.le_of_ble_eq_true rfl) ⟨Nat.le_of_ble_eq_true rfl, Nat.le_of_ble_eq_true rfl⟩ ⟨Nat.le_of_ble_eq_true rfl, Nat.le_of_ble_eq_true rfl⟩ ?_
          refine ev_nmI (fun zr40 ezr40 => ?_)
          refine ev_if_eq (pc := 43) (tgt := 50) dX11_likely_43 (by decide) (fun zc43 => ?_) (fun zc43 => ?_)
          · -- eq at 43: taken
            refine ev_aload_n (pc := 50) dX11_likely_50 rfl ?_
            refine ev_iload_n (pc := 51) dX11_likely_51 rfl ?_
            refine ev_iload_n (pc := 52) dX11_likely_52 rfl ?_
            refine ev_callV0 (S := []) (pc := 53) dX11_likely_53 kX11_layWays lX11_216 vX11_layWays (cn_X11_layWays E (sI h 66 (befF m (h.2.1 55) (h.2.1 66))) za zb m (wf_sI hw) hm hm2) rfl rfl (wlt (wf_sI hw) (by decide)) rfl rfl (Nat.le_of_ble_eq_true rfl) ⟨Nat.le_of_ble_eq_true rfl, Nat.le_of_ble_eq_true rfl⟩ ⟨Nat.le_of_ble_eq_true rfl, Nat.le_of_ble_eq_true rfl⟩ ?_
            refine ev_eqH (h' := sL (sI h 66 (befF m (h.2.1 55) (h.2.1 66))) 67 (wyS (befF m (h.2.1 55) (h.2.1 66)) za zb m (h.2.2.1 67) (2 ^ m - 1))) rfl ?_
            refine ev_aload_n (pc := 56) dX11_likely_56 rfl ?_
            refine ev_getR (pc := 57) (q := 67) dX11_likely_57 fX11_65 rfl (wlt (wf_sL (wf_sI hw)) (by decide)) (wr (wf_sL (wf_sI hw)) rfl) ?_
            refine ev_iconst (pc := 60) (v := 0) dX11_likely_60 (by decide) ?_
            refine ev_lald (pc := 61) dX11_likely_61 rfl (wlt (wf_sL (wf_sI hw)) (by decide)) (vp_in_nI (n := 0) (by decide) (by decide)) ?_
            refine ev_eqJ (e' := (wyS (befF m (h.2.1 55) (h.2.1 66)) za zb m (h.2.2.1 67) (2 ^ m - 1)) 0) (by rfl) ?_
            refine ev_eqJ (e' := lN (wW (fopB (befF m (h.2.1 55) (h.2.1 66)) za zb) m 0)) (ways_eq _ _ _ hm2 _ (Nat.two_pow_pos m)) ?_
            refine ev_lstore (pc := 62) (L' := [some (.ref 49), some (.int za), some (.int zb), some (.int zv), some (.long (lN (wW (fopB (befF m (h.2.1 55) (h.2.1 66)) za zb) m 0))), none]) dX11_likely_62 (Nat.le_of_ble_eq_true rfl) rfl ?_
            refine ev_aload_n (pc := 64) dX11_likely_64 rfl ?_
            refine ev_iconst (pc := 65) (v := 0) dX11_likely_65 (by decide) ?_
            refine ev_bipush (pc := 66) (v := (-4)) dX11_likely_66 (by decide) ?_
            refine ev_callV0 (S := []) (pc := 68) dX11_likely_68 kX11_layWays lX11_216 vX11_layWays (cn_X11_layWays E (sL (sI h 66 (befF m (h.2.1 55) (h.2.1 66))) 67 (wyS (befF m (h.2.1 55) (h.2.1 66)) za zb m (h.2.2.1 67) (2 ^ m - 1))) 0 (-4) m (wf_sL (wf_sI hw)) hm hm2) rfl rfl (wlt (wf_sL (wf_sI hw)) (by decide)) rfl rfl (Nat.le_of_ble_eq_true rfl) ⟨Nat.le_of_ble_eq_true rfl, Nat.le_of_ble_eq_true rfl⟩ ⟨Nat.le_of_ble_eq_true rfl, Nat.le_of_ble_eq_true rfl⟩ ?_
            refine ev_eqH (h' := sL (sI h 66 (befF m (h.2.1 55) (h.2.1 66))) 67 (wyS (befF m (h.2.1 55) (h.2.1 66)) 0 (-4) m (wyS (befF m (h.2.1 55) (h.2.1 66)) za zb m (h.2.2.1 67) (2 ^ m - 1)) (2 ^ m - 1))) (by exact sL_sL _ _ _ _) ?_
            refine ev_lload (pc := 71) dX11_likely_71 rfl ?_
            refine ev_aload_n (pc := 73) dX11_likely_73 rfl ?_
            refine ev_getR (pc := 74) (q := 67) dX11_likely_74 fX11_65 rfl (wlt (wf_sL (wf_sI hw)) (by decide)) (wr (wf_sL (wf_sI hw)) rfl) ?_
            refine ev_iconst (pc := 77) (v := 0) dX11_likely_77 (by decide) ?_
            refine ev_lald (pc := 78) dX11_likely_78 rfl (wlt (wf_sL (wf_sI hw)) (by decide)) (vp_in_nI (n := 0) (by decide) (by decide)) ?_
            refine ev_eqJ (e' := (wyS (befF m (h.2.1 55) (h.2.1 66)) 0 (-4) m (wyS (befF m (h.2.1 55) (h.2.1 66)) za zb m (h.2.2.1 67) (2 ^ m - 1)) (2 ^ m - 1)) 0) (by rfl) ?_
            refine ev_eqJ (e' := lN (wO m (h.2.1 55) (h.2.1 66) 0)) (ways_eq _ _ _ hm2 _ (Nat.two_pow_pos m)) ?_
            refine ev_iload_n (pc := 79) dX11_likely_79 rfl ?_
            refine ev_callSv (S := []) (pc := 80) dX11_likely_80 kX11_lowest lX11_222 sX11_lowest (cn_X11_lowest E (sL (sI h 66 (befF m (h.2.1 55) (h.2.1 66))) 67 (wyS (befF m (h.2.1 55) (h.2.1 66)) 0 (-4) m (wyS (befF m (h.2.1 55) (h.2.1 66)) za zb m (h.2.2.1 67) (2 ^ m - 1)) (2 ^ m - 1))) (wW (fopB (befF m (h.2.1 55) (h.2.1 66)) za zb) m 0) (wO m (h.2.1 55) (h.2.1 66) 0) zv (wf_sL (wf_sI hw)) (Nat.lt_of_le_of_lt (wW_12 (fop_ok _ _ _ hm2) hm2 (Nat.two_pow_pos m)) (by decide)) (Nat.lt_of_le_of_lt (wO_le hm2 (Nat.two_pow_pos m)) (by decide)) (wO_pos hm2 hL (by rw [ezr40, sI_at] at zc43; exact zc43) (Nat.two_pow_pos m))) rfl rfl (Nat.le_of_ble_eq_true rfl) ⟨Nat.le_of_ble_eq_true rfl, Nat.le_of_ble_eq_true rfl⟩ ⟨Nat.le_of_ble_eq_true rfl, Nat.le_of_ble_eq_true rfl⟩ ?_
            refine ev_lret (pc := 83) dX11_likely_83 rfl ?_
            · simp only [bI_0, bI_n0, Classical.not_not] at *
              have hC : (0 ≤ za ∧ za ≤ h.2.1 49 14 - 1) ∧ (0 ≤ zb ∧ zb ≤ h.2.1 49 14 - 1) ∧ ¬ za = zb ∧ (0 ≤ zv ∧ zv ≤ 1) := ⟨zc5, zc13, zc18, zc28⟩
              rw [if_pos hC]
              try rw [if_pos hC]
              rw [ezr40, sI_at] at zc43
              rw [if_pos zc43, if_pos zc43]
              exact ⟨rfl, rfl⟩
          · -- eq at 43: not taken
            refine ev_ldc2 (pc := 46) (v := (-2)) dX11_likely_46 kcX11_214 ?_
            refine ev_lret (pc := 49) dX11_likely_49 rfl ?_
            · simp only [bI_0, bI_n0, Classical.not_not] at *
              have hC : (0 ≤ za ∧ za ≤ h.2.1 49 14 - 1) ∧ (0 ≤ zb ∧ zb ≤ h.2.1 49 14 - 1) ∧ ¬ za = zb ∧ (0 ≤ zv ∧ zv ≤ 1) := ⟨zc5, zc13, zc18, zc28⟩
              rw [if_pos hC]
              try rw [if_pos hC]
              rw [ezr40, sI_at] at zc43
              rw [if_neg zc43, if_neg zc43]
              exact ⟨rfl, rfl⟩
        · -- ne at 28: not taken
          refine ev_ldc2 (pc := 31) (v := (-1)) dX11_likely_31 kcX11_220 ?_
          refine ev_lret (pc := 34) dX11_likely_34 rfl ?_
          · simp only [bI_0, bI_n0, Classical.not_not] at *
            have hC : ¬ ((0 ≤ za ∧ za ≤ h.2.1 49 14 - 1) ∧ (0 ≤ zb ∧ zb ≤ h.2.1 49 14 - 1) ∧ ¬ za = zb ∧ (0 ≤ zv ∧ zv ≤ 1)) := fun q => by first | exact zc5 q.1 | exact zc13 q.2.1 | exact q.2.2.1 zc18 | exact zc28 q.2.2.2
            rw [if_neg hC]
            try rw [if_neg hC]
            exact ⟨rfl, rfl⟩
def CBz (zf : Nat → Int32) (zm zb : Nat) : Prop := ∀ zt, zt < zm → ∃ zc, zc ≤ zb ∧ zf zt = nI zc
theorem th_nat {zt : Int32} {zm : Nat} (h : 0 ≤ zt ∧ zt ≤ nI zm - 1) (hm : zm ≤ 4096) : ∃ zk, zk < zm ∧ zt = nI zk := by
  obtain ⟨zk, hk, e⟩ := nI_of ((i_lt2 _ _).mpr h.1)
  refine ⟨zk, ?_, e⟩
  have h2 := h.2
  rw [e, i_le, nI_toInt hk, m1_toInt (by omega)] at h2
  omega
theorem cn_X11_size (E : ME) (h : AH) (zt zv : Int32) (m : Nat) (hw : WF h) (hm : h.2.1 49 14 = nI m) (hm2 : m ≤ 12) (hC : CBz (h.2.1 53) m 99) (hE : CBz (h.2.1 54) m 999) : Con E mX11_size 3 0 0 [.ref 49, .int zt, .int zv] h (fun r h' => r = some (.int (if ((0 ≤ zt ∧ zt ≤ h.2.1 49 14 - 1) ∧ 0 < h.2.1 53 (Int32.toNatClampNeg zt)) ∧ (0 ≤ zv ∧ zv ≤ 1) then (if zv = 0 then nI ((h.2.1 54 (Int32.toNatClampNeg zt)).toNatClampNeg / Nat.gcd (h.2.1 54 (Int32.toNatClampNeg zt)).toNatClampNeg (h.2.1 53 (Int32.toNatClampNeg zt)).toNatClampNeg) else nI ((h.2.1 53 (Int32.toNatClampNeg zt)).toNatClampNeg / Nat.gcd (h.2.1 54 (Int32.toNatClampNeg zt)).toNatClampNeg (h.2.1 53 (Int32.toNatClampNeg zt)).toNatClampNeg)) else -1)) ∧ h' = h) := by
  refine con_of2 (L := [some (.ref 49), some (.int zt), some (.int zv)]) rfl (Nat.le_of_ble_eq_true rfl) rfl ?_
  refine ev_aload_n (pc := 0) dX11_size_0 rfl ?_
  refine ev_iload_n (pc := 1) dX11_size_1 rfl ?_
  refine ev_callVv (S := []) (pc := 2) dX11_size_2 kX11_isRow lX11_226 vX11_isRow (cn_X11_isRow E h zt m hw hm hm2) rfl rfl (wlt hw (by decide)) rfl rfl (Nat.le_of_ble_eq_true rfl) ⟨Nat.le_of_ble_eq_true rfl, Nat.le_of_ble_eq_true rfl⟩ ⟨Nat.le_of_ble_eq_true rfl, Nat.le_of_ble_eq_true rfl⟩ ?_
  refine ev_if_eq (pc := 5) (tgt := 40) dX11_size_5 (by decide) (fun zc5 => ?_) (fun zc5 => ?_)
  · -- eq at 5: taken
    refine ev_iconst (pc := 40) (v := (-1)) dX11_size_40 (by decide) ?_
    refine ev_iret (pc := 41) dX11_size_41 rfl ?_ ?_
    · rfl
    · refine ⟨?_, rfl⟩
      simp only [bI_0, bI_n0, Classical.not_not] at *
      rw [if_neg (show ¬ (((0 ≤ zt ∧ zt ≤ h.2.1 49 14 - 1) ∧ 0 < h.2.1 53 (Int32.toNatClampNeg zt)) ∧ (0 ≤ zv ∧ zv ≤ 1)) from fun zq => by first | exact zc5 zq.1 | exact zc15 zq.2)]
  · -- eq at 5: not taken
    refine ev_iload_n (pc := 8) dX11_size_8 rfl ?_
    refine ev_i2l (pc := 9) dX11_size_9 ?_
    refine ev_lconst (pc := 10) (v := 0) dX11_size_10 (by decide) ?_
    refine ev_lconst (pc := 11) (v := 1) dX11_size_11 (by decide) ?_
    refine ev_callSv (S := []) (pc := 12) dX11_size_12 kX11_in lX11_96 sX11_in (cn_X11_inC E h zv 0 1 _ _ _ rfl (by decide) (by decide)) rfl rfl (Nat.le_of_ble_eq_true rfl) ⟨Nat.le_of_ble_eq_true rfl, Nat.le_of_ble_eq_true rfl⟩ ⟨Nat.le_of_ble_eq_true rfl, Nat.le_of_ble_eq_true rfl⟩ ?_
    refine ev_if_eq (pc := 15) (tgt := 40) dX11_size_15 (by decide) (fun zc15 => ?_) (fun zc15 => ?_)
    · -- eq at 15: taken
      refine ev_iconst (pc := 40) (v := (-1)) dX11_size_40 (by decide) ?_
      refine ev_iret (pc := 41) dX11_size_41 rfl ?_ ?_
      · rfl
      · refine ⟨?_, rfl⟩
        simp only [bI_0, bI_n0, Classical.not_not] at *
        rw [if_neg (show ¬ (((0 ≤ zt ∧ zt ≤ h.2.1 49 14 - 1) ∧ 0 < h.2.1 53 (Int32.toNatClampNeg zt)) ∧ (0 ≤ zv ∧ zv ≤ 1)) from fun zq => by first | exact zc5 zq.1 | exact zc15 zq.2)]
    · -- eq at 15: not taken
      simp only [bI_0, bI_n0, Classical.not_not] at zc5 zc15
      obtain ⟨zk, hzk, ezk⟩ := th_nat (by rw [hm] at zc5; exact zc5.1) (by omega : m ≤ 4096)
      obtain ⟨zc, hzc, ezc⟩ := hC zk hzk
      obtain ⟨zl, hzl, ezl⟩ := hE zk hzk
      have zkc : Int32.toNatClampNeg zt = zk := by rw [ezk]; exact nI_clamp (by omega)
      have zc0 : 0 < zc := by
        have z1 := zc5.2
        rw [zkc, ezc, i_lt, nI_toInt (by omega), i_z0] at z1
        omega
      have zbd : vp_in zt 12 := by rw [ezk]; exact vp_in_nI (by omega) (by decide)
      refine ev_aload_n (pc := 18) dX11_size_18 rfl ?_
      refine ev_getR (pc := 19) (q := 54) dX11_size_19 fX11_22 rfl (wlt hw (by decide)) (wr hw rfl) ?_
      refine ev_iload_n (pc := 22) dX11_size_22 rfl ?_
      refine ev_iald (pc := 23) dX11_size_23 rfl (wlt hw (by decide)) zbd ?_
      refine ev_eqI (e' := nI zl) (by rw [zkc, ezl]) ?_
      refine ev_i2l (pc := 24) dX11_size_24 ?_
      refine ev_eqJ (e' := lN zl) (nI_l (by omega)) ?_
      refine ev_aload_n (pc := 25) dX11_size_25 rfl ?_
      refine ev_getR (pc := 26) (q := 53) dX11_size_26 fX11_19 rfl (wlt hw (by decide)) (wr hw rfl) ?_
      refine ev_iload_n (pc := 29) dX11_size_29 rfl ?_
      refine ev_iald (pc := 30) dX11_size_30 rfl (wlt hw (by decide)) zbd ?_
      refine ev_eqI (e' := nI zc) (by rw [zkc, ezc]) ?_
      refine ev_i2l (pc := 31) dX11_size_31 ?_
      refine ev_eqJ (e' := lN zc) (nI_l (by omega)) ?_
      refine ev_iload_n (pc := 32) dX11_size_32 rfl ?_
      refine ev_callSv (S := []) (pc := 33) dX11_size_33 kX11_lowest lX11_222 sX11_lowest (cn_X11_lowest E h zl zc zv hw (by omega) (by omega) zc0) rfl rfl (Nat.le_of_ble_eq_true rfl) ⟨Nat.le_of_ble_eq_true rfl, Nat.le_of_ble_eq_true rfl⟩ ⟨Nat.le_of_ble_eq_true rfl, Nat.le_of_ble_eq_true rfl⟩ ?_
      refine ev_l2i (pc := 36) dX11_size_36 ?_
      refine ev_goto (pc := 37) (tgt := 41) dX11_size_37 (by decide) ?_
      refine ev_iret (pc := 41) dX11_size_41 rfl ?_ ?_
      · rfl
      · refine ⟨?_, rfl⟩
        rw [if_pos (show ((0 ≤ zt ∧ zt ≤ h.2.1 49 14 - 1) ∧ 0 < h.2.1 53 (Int32.toNatClampNeg zt)) ∧ (0 ≤ zv ∧ zv ≤ 1) from ⟨zc5, zc15⟩), zkc, ezc, ezl, nI_clamp (by omega), nI_clamp (by omega)]
        split <;> rw [lN_i]
