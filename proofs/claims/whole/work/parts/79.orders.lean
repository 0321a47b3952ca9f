theorem cw_cw (h : AH) (m : Nat) : cwH (cwH h m) m = cwH h m := by
  have z : ¬ (cwH h m).2.1 20 5 = 0 := by
    unfold cwH
    by_cases e : h.2.1 20 5 = 0
    · rw [if_pos e]
      exact (by decide : ¬ (1 : Int32) = 0)
    · rw [if_neg e]; exact e
  generalize cwH h m = zg at z
  unfold cwH
  rw [if_neg z]
theorem ow_fop {bf : Nat → Int32} {m : Nat} {za zb : Int32} (hm2 : m ≤ 12) (ha : 0 ≤ za ∧ za ≤ nI m - 1) (hb : 0 ≤ zb ∧ zb ≤ nI m - 1) : owN (fopB bf 0 (-4)) (fun zs => decide (¬ (nI zs >>> (za &&& 31)) &&& 1 = 0)) m zb.toNatClampNeg (2 ^ m) = wW (fopB bf za zb) m 0 := by
  obtain ⟨zj, hj, rfl⟩ := th_nat ha (by omega)
  obtain ⟨zk, hk, rfl⟩ := th_nat hb (by omega)
  rw [nI_clamp (by omega)]
  refine ow_eq (fop_ok _ _ _ hm2) (fop_ok _ _ _ hm2) hk (fun zs zt ht hne => ?_) (fun zs => ?_)
  · unfold fopB
    rw [if_neg (nI_m4 zt (by omega)), if_neg (fun z => hne ((nI_eq (by omega) (by omega)).mp z))]
  · rw [fop_mf (by omega)]
    unfold fopB
    rw [decide_eq_true_iff, decide_eq_true_iff, if_pos rfl, sub_iff, sub_iff, sh1_0 _ (by omega), sh1_0 _ (by omega), bt_nI (by omega), bt_nI (by omega)]
    constructor
    · intro ⟨z1, z2⟩
      refine ⟨fun z => ?_, z1, fun zi hi hz => z2 zi hi (by rw [b_or, hz, Bool.true_or])⟩
      have z3 := z2 zj (by omega) (by rw [b_or, bt_sh (by omega) zj (by omega), decide_eq_true rfl, Bool.or_true])
      rw [z3] at z
      cases z
    · intro ⟨z0, z1, z2⟩
      refine ⟨z1, fun zi hi hz => ?_⟩
      rw [b_or, bt_sh (by omega) zi hi] at hz
      by_cases e : zi = zj
      · subst e
        exact ts_nf z0
      · rw [decide_eq_false e, Bool.or_false] at hz
        exact z2 zi hi hz
theorem cn_X10_orders (E : ME) (h : AH) (m : Nat) (hw : WF h) (hm : h.2.1 20 4 = nI m) (hm2 : m ≤ 12) (hc : CWz h m) : Con E mX10_orders 4 0 0 [.ref 0] h (fun r h' => r = some (.long (if rgF (h.2.1 22) m = 0 then lN (wW (fopB (h.2.1 22) 0 (-4)) m 0) else -2)) ∧ h' = if rgF (h.2.1 22) m = 0 then cwH h m else h) := by
  refine con_of2 (L := [some (.ref 0)]) rfl (Nat.le_of_ble_eq_true rfl) rfl ?_
  refine ev_aload_n (pc := 0) dX10_orders_0 rfl ?_
  refine ev_getR (pc := 1) (q := 20) dX10_orders_1 fX10_38 rfl (wlt hw (by decide)) (wr hw rfl) ?_
  refine ev_callVv (S := []) (pc := 4) dX10_orders_4 kX6_ringed lX10_192 vX6_ringed (cn_X6_ringed E h m hw hm hm2) rfl rfl (wlt hw (by decide)) rfl rfl (Nat.le_of_ble_eq_true rfl) ⟨Nat.le_of_ble_eq_true rfl, Nat.le_of_ble_eq_true rfl⟩ ⟨Nat.le_of_ble_eq_true rfl, Nat.le_of_ble_eq_true rfl⟩ ?_
  refine ev_if_eq (pc := 7) (tgt := 16) dX10_orders_7 (by decide) (fun zc7 => ?_) (fun zc7 => ?_)
  · -- eq at 7: taken
    refine ev_aload_n (pc := 16) dX10_orders_16 rfl ?_
    refine ev_getR (pc := 17) (q := 20) dX10_orders_17 fX10_38 rfl (wlt hw (by decide)) (wr hw rfl) ?_
    refine ev_callVv (S := []) (pc := 20) dX10_orders_20 kX6_allOrders lX10_208 vX6_allOrders (cn_X6_allOrders E h m hw hm hm2 hc) rfl rfl (wlt hw (by decide)) rfl rfl (Nat.le_of_ble_eq_true rfl) ⟨Nat.le_of_ble_eq_true rfl, Nat.le_of_ble_eq_true rfl⟩ ⟨Nat.le_of_ble_eq_true rfl, Nat.le_of_ble_eq_true rfl⟩ ?_
    refine ev_eqH (h' := (cwH h m)) rfl ?_
    refine ev_lret (pc := 23) dX10_orders_23 rfl ?_
    · rw [if_pos zc7, if_pos zc7]
      exact ⟨rfl, rfl⟩
  · -- eq at 7: not taken
    refine ev_ldc2 (pc := 10) (v := (-2)) dX10_orders_10 kcX10_206 ?_
    refine ev_goto (pc := 13) (tgt := 23) dX10_orders_13 (by decide) ?_
    refine ev_lret (pc := 23) dX10_orders_23 rfl ?_
    · rw [if_neg zc7, if_neg zc7]
      exact ⟨rfl, rfl⟩
theorem cn_X10_likely_3 (E : ME) (h : AH) (zt : PSt) (za zb zv : Int32) (m : Nat) (hw : WF h) (hY : STz zt 3 h) (hO : POK zt) (hst : h.2.2.2 0 1 = some 3) (hm : h.2.1 20 4 = nI m) (hm2 : m ≤ 12) (hmt : m = zt.1 1) (hc : CWz h m) (hpos : rgF (h.2.1 22) m = 0 → 0 < (wW (fopB (h.2.1 22) 0 (-4)) m 0)) : Con E mX10_likely 5 0 0 [.ref 0, .int za, .int zb, .int zv] h (fun r h' => r = some (.long (if (thg zt za ∧ thg zt zb ∧ ¬ za = zb) ∧ (0 ≤ zv ∧ zv ≤ 1) then (if rgF (h.2.1 22) m = 0 then (if zv = 0 then lN ((wW (fopB (h.2.1 22) za zb) m 0) / (Nat.gcd (wW (fopB (h.2.1 22) za zb) m 0) (wW (fopB (h.2.1 22) 0 (-4)) m 0))) else lN ((wW (fopB (h.2.1 22) 0 (-4)) m 0) / (Nat.gcd (wW (fopB (h.2.1 22) za zb) m 0) (wW (fopB (h.2.1 22) 0 (-4)) m 0)))) else -2) else -1)) ∧ h' = if (thg zt za ∧ thg zt zb ∧ ¬ za = zb) ∧ (0 ≤ zv ∧ zv ≤ 1) then (if rgF (h.2.1 22) m = 0 then cwH h m else h) else h) := by
  refine con_of2 (L := [some (.ref 0), some (.int za), some (.int zb), some (.int zv), none, none, none, none, none, none]) rfl (Nat.le_of_ble_eq_true rfl) rfl ?_
  refine ev_aload_n (pc := 0) dX10_likely_0 rfl ?_
  refine ev_iload_n (pc := 1) dX10_likely_1 rfl ?_
  refine ev_iload_n (pc := 2) dX10_likely_2 rfl ?_
  refine ev_callVv (S := []) (pc := 3) dX10_likely_3 kX10_areTwoThings lX10_185 vX10_areTwoThings (cn_X10_areTwoThings_3 E h zt za zb hw hY hO hst) rfl rfl (wlt hw (by decide)) rfl rfl (Nat.le_of_ble_eq_true rfl) ⟨Nat.le_of_ble_eq_true rfl, Nat.le_of_ble_eq_true rfl⟩ ⟨Nat.le_of_ble_eq_true rfl, Nat.le_of_ble_eq_true rfl⟩ ?_
  refine ev_if_eq (pc := 6) (tgt := 18) dX10_likely_6 (by decide) (fun zc6 => ?_) (fun zc6 => ?_)
  · -- eq at 6: taken
    refine ev_ldc2 (pc := 18) (v := (-1)) dX10_likely_18 kcX10_212 ?_
    refine ev_lret (pc := 21) dX10_likely_21 rfl ?_
    · have zn : ¬ ((thg zt za ∧ thg zt zb ∧ ¬ za = zb) ∧ (0 ≤ zv ∧ zv ≤ 1)) := fun z => bI_0.mp zc6 z.1
      rw [if_neg zn, if_neg zn]
      exact ⟨rfl, rfl⟩
  · -- eq at 6: not taken
    refine ev_iload_n (pc := 9) dX10_likely_9 rfl ?_
    refine ev_iconst (pc := 10) (v := 0) dX10_likely_10 (by decide) ?_
    refine ev_iconst (pc := 11) (v := 1) dX10_likely_11 (by decide) ?_
    refine ev_callSv (S := []) (pc := 12) dX10_likely_12 kX10_within lX10_123 sX10_within (cn_X10_within E h zv 0 1) rfl rfl (Nat.le_of_ble_eq_true rfl) ⟨Nat.le_of_ble_eq_true rfl, Nat.le_of_ble_eq_true rfl⟩ ⟨Nat.le_of_ble_eq_true rfl, Nat.le_of_ble_eq_true rfl⟩ ?_
    refine ev_if_ne (pc := 15) (tgt := 22) dX10_likely_15 (by decide) (fun zc15 => ?_) (fun zc15 => ?_)
    · -- ne at 15: taken
      refine ev_aload_n (pc := 22) dX10_likely_22 rfl ?_
      refine ev_getR (pc := 23) (q := 20) dX10_likely_23 fX10_38 rfl (wlt hw (by decide)) (wr hw rfl) ?_
      refine ev_callVv (S := []) (pc := 26) dX10_likely_26 kX6_ringed lX10_192 vX6_ringed (cn_X6_ringed E h m hw hm hm2) rfl rfl (wlt hw (by decide)) rfl rfl (Nat.le_of_ble_eq_true rfl) ⟨Nat.le_of_ble_eq_true rfl, Nat.le_of_ble_eq_true rfl⟩ ⟨Nat.le_of_ble_eq_true rfl, Nat.le_of_ble_eq_true rfl⟩ ?_
      refine ev_if_eq (pc := 29) (tgt := 36) dX10_likely_29 (by decide) (fun zc29 => ?_) (fun zc29 => ?_)
      · -- eq at 29: taken
        refine ev_aload_n (pc := 36) dX10_likely_36 rfl ?_
        refine ev_getR (pc := 37) (q := 20) dX10_likely_37 fX10_38 rfl (wlt hw (by decide)) (wr hw rfl) ?_
        refine ev_callVv (S := []) (pc := 40) dX10_likely_40 kX6_allOrders lX10_208 vX6_allOrders (cn_X6_allOrders E h m hw hm hm2 hc) rfl rfl (wlt hw (by decide)) rfl rfl (Nat.le_of_ble_eq_true rfl) ⟨Nat.le_of_ble_eq_true rfl, Nat.le_of_ble_eq_true rfl⟩ ⟨Nat.le_of_ble_eq_true rfl, Nat.le_of_ble_eq_true rfl⟩ ?_
        refine ev_eqH (h' := (cwH h m)) rfl ?_
        refine ev_lstore (pc := 43) (L' := [some (.ref 0), some (.int za), some (.int zb), some (.int zv), some (.long (lN (wW (fopB (h.2.1 22) 0 (-4)) m 0))), none, none, none, none, none]) dX10_likely_43 (Nat.le_of_ble_eq_true rfl) rfl ?_
        refine ev_aload_n (pc := 45) dX10_likely_45 rfl ?_
        refine ev_getR (pc := 46) (q := 20) dX10_likely_46 fX10_38 rfl (wlt (wf_cw hw) (by decide)) (wr (wf_cw hw) rfl) ?_
        refine ev_iload_n (pc := 49) dX10_likely_49 rfl ?_
        refine ev_iload_n (pc := 50) dX10_likely_50 rfl ?_
        refine ev_callVv (S := []) (pc := 51) dX10_likely_51 kX6_ordersWith lX10_214 vX6_ordersWith (cn_X6_ordersWith E (cwH h m) za zb m (wf_cw hw) (cw_m hm) hm2 (fun _ => cw_t hm2 hc)) rfl rfl (wlt (wf_cw hw) (by decide)) rfl rfl (Nat.le_of_ble_eq_true rfl) ⟨Nat.le_of_ble_eq_true rfl, Nat.le_of_ble_eq_true rfl⟩ ⟨Nat.le_of_ble_eq_true rfl, Nat.le_of_ble_eq_true rfl⟩ ?_
        refine ev_eqH (h' := (cwH h m)) (cw_cw h m) ?_
        have zab := wW_12 (fop_ok (h.2.1 22) za zb hm2) hm2 (Nat.two_pow_pos m)
        have zbb := wW_12 (fop_ok (h.2.1 22) 0 (-4) hm2) hm2 (Nat.two_pow_pos m)
        have zg0 : 0 < (Nat.gcd (wW (fopB (h.2.1 22) za zb) m 0) (wW (fopB (h.2.1 22) 0 (-4)) m 0)) := Nat.gcd_pos_of_pos_right _ (hpos zc29)
        have zgb : (Nat.gcd (wW (fopB (h.2.1 22) za zb) m 0) (wW (fopB (h.2.1 22) 0 (-4)) m 0)) ≤ 479001600 := Nat.le_trans (Nat.gcd_le_right _ (hpos zc29)) zbb
        have hG := bI_n0.mp zc6
        refine ev_eqJ (e' := lN (wW (fopB (h.2.1 22) za zb) m 0)) (by rw [if_pos (by rw [hmt]; exact hG.2.1), cw_22, ow_fop hm2 (by rw [hmt]; exact hG.1) (by rw [hmt]; exact hG.2.1)]) ?_
        refine ev_lstore (pc := 54) (L' := [some (.ref 0), some (.int za), some (.int zb), some (.int zv), some (.long (lN (wW (fopB (h.2.1 22) 0 (-4)) m 0))), none, some (.long (lN (wW (fopB (h.2.1 22) za zb) m 0))), none, none, none]) dX10_likely_54 (Nat.le_of_ble_eq_true rfl) rfl ?_
        refine ev_lload (pc := 56) dX10_likely_56 rfl ?_
        refine ev_lload (pc := 58) dX10_likely_58 rfl ?_
        refine ev_callSv (S := []) (pc := 60) dX10_likely_60 kX10_sharedDivisor lX10_218 sX10_sharedDivisor (cn_X10_sharedDivisor E (cwH h m) (wW (fopB (h.2.1 22) za zb) m 0) (wW (fopB (h.2.1 22) 0 (-4)) m 0) (wf_cw hw) (by omega) (by omega) zg0) rfl rfl (Nat.le_of_ble_eq_true rfl) ⟨Nat.le_of_ble_eq_true rfl, Nat.le_of_ble_eq_true rfl⟩ ⟨Nat.le_of_ble_eq_true rfl, Nat.le_of_ble_eq_true rfl⟩ ?_
        refine ev_lstore (pc := 63) (L' := [some (.ref 0), some (.int za), some (.int zb), some (.int zv), some (.long (lN (wW (fopB (h.2.1 22) 0 (-4)) m 0))), none, some (.long (lN (wW (fopB (h.2.1 22) za zb) m 0))), none, some (.long (lN (Nat.gcd (wW (fopB (h.2.1 22) za zb) m 0) (wW (fopB (h.2.1 22) 0 (-4)) m 0)))), none]) dX10_likely_63 (Nat.le_of_ble_eq_true rfl) rfl ?_
        refine ev_iload_n (pc := 65) dX10_likely_65 rfl ?_
        refine ev_if_ne (pc := 66) (tgt := 74) dX10_likely_66 (by decide) (fun zc66 => ?_) (fun zc66 => ?_)
        · -- ne at 66: taken
          refine ev_lload (pc := 74) dX10_likely_74 rfl ?_
          refine ev_lload (pc := 76) dX10_likely_76 rfl ?_
          refine ev_ldiv (pc := 78) dX10_likely_78 (fun z => by have z1 := lN_toInt (n := (Nat.gcd (wW (fopB (h.2.1 22) za zb) m 0) (wW (fopB (h.2.1 22) 0 (-4)) m 0))) (by omega); rw [z] at z1; have z2 : (0 : Int64).toInt = 0 := rfl; omega) ?_
          refine ev_lret (pc := 79) dX10_likely_79 rfl ?_
          · have zy : (thg zt za ∧ thg zt zb ∧ ¬ za = zb) ∧ (0 ≤ zv ∧ zv ≤ 1) := ⟨bI_n0.mp zc6, bI_n0.mp zc15⟩
            rw [if_pos zy, if_pos zy]
            rw [if_pos zc29, if_pos zc29, if_neg zc66]
            rw [pk_lDiv (by omega) zg0 (by omega)]
            exact ⟨rfl, rfl⟩
        · -- ne at 66: not taken
          refine ev_lload (pc := 69) dX10_likely_69 rfl ?_
          refine ev_goto (pc := 71) (tgt := 76) dX10_likely_71 (by decide) ?_
          refine ev_lload (pc := 76) dX10_likely_76 rfl ?_
          refine ev_ldiv (pc := 78) dX10_likely_78 (fun z => by have z1 := lN_toInt (n := (Nat.gcd (wW (fopB (h.2.1 22) za zb) m 0) (wW (fopB (h.2.1 22) 0 (-4)) m 0))) (by omega); rw [z] at z1; have z2 : (0 : Int64).toInt = 0 := rfl; omega) ?_
          refine ev_lret (pc := 79) dX10_likely_79 rfl ?_
          · have zy : (thg zt za ∧ thg zt zb ∧ ¬ za = zb) ∧ (0 ≤ zv ∧ zv ≤ 1) := ⟨bI_n0.mp zc6, bI_n0.mp zc15⟩
            rw [if_pos zy, if_pos zy]
            rw [if_pos zc29, if_pos zc29, if_pos zc66]
            rw [pk_lDiv (by omega) zg0 (by omega)]
            exact ⟨rfl, rfl⟩
      · -- eq at 29: not taken
        refine ev_ldc2 (pc := 32) (v := (-2)) dX10_likely_32 kcX10_206 ?_
        refine ev_lret (pc := 35) dX10_likely_35 rfl ?_
        · have zy : (thg zt za ∧ thg zt zb ∧ ¬ za = zb) ∧ (0 ≤ zv ∧ zv ≤ 1) := ⟨bI_n0.mp zc6, bI_n0.mp zc15⟩
          rw [if_pos zy, if_pos zy]
          rw [if_neg zc29, if_neg zc29]
          exact ⟨rfl, rfl⟩
    · -- ne at 15: not taken
      refine ev_ldc2 (pc := 18) (v := (-1)) dX10_likely_18 kcX10_212 ?_
      refine ev_lret (pc := 21) dX10_likely_21 rfl ?_
      · have zn : ¬ ((thg zt za ∧ thg zt zb ∧ ¬ za = zb) ∧ (0 ≤ zv ∧ zv ≤ 1)) := fun z => bI_0.mp zc15 z.2
        rw [if_neg zn, if_neg zn]
        exact ⟨rfl, rfl⟩
theorem cn_X10_order_3 (E : ME) (h : AH) (zt : PSt) (zx : Int64) (zi : Int32) (m : Nat) (hw : WF h) (hY : STz zt 3 h) (hO : POK zt) (hst : h.2.2.2 0 1 = some 3) (hm : h.2.1 20 4 = nI m) (hm2 : m ≤ 12) (hmt : m = zt.1 1) (hc : CWz h m) : Con E mX10_order 5 0 0 [.ref 0, .long zx, .int zi] h (fun r h' => r = some (.int (if 0 ≤ zx ∧ thg zt zi then (if rgF (h.2.1 22) m = 0 then (if zx < lN (wW (fopB (h.2.1 22) 0 (-4)) m 0) then (oS (fopB (h.2.1 22) 0 (-4)) m zx.toNatClampNeg (zi.toNatClampNeg + 1)).2.2 else -1) else -2) else -1)) ∧ h' = if 0 ≤ zx ∧ thg zt zi then (if rgF (h.2.1 22) m = 0 then cwH h m else h) else h) := by
  refine con_of2 (L := [some (.ref 0), some (.long zx), none, some (.int zi)]) rfl (Nat.le_of_ble_eq_true rfl) rfl ?_
  refine ev_lload_n (pc := 0) dX10_order_0 rfl ?_
  refine ev_lconst (pc := 1) (v := 0) dX10_order_1 (by decide) ?_
  refine ev_lcmp (pc := 2) dX10_order_2 ?_
  refine ev_if_lt (pc := 3) (tgt := 17) dX10_order_3 (by decide) (fun zc3 => ?_) (fun zc3 => ?_)
  · -- lt at 3: taken
    refine ev_iconst (pc := 17) (v := (-1)) dX10_order_17 (by decide) ?_
    refine ev_iret (pc := 18) dX10_order_18 rfl ?_ ?_
    · rfl
    · have zn : ¬ (0 ≤ zx ∧ thg zt zi) := fun z => l_n0 z.1 ((lc_lt _ _).mp zc3)
      rw [if_neg zn, if_neg zn]
      exact ⟨rfl, rfl⟩
  · -- lt at 3: not taken
    refine ev_aload_n (pc := 6) dX10_order_6 rfl ?_
    refine ev_getR (pc := 7) (q := 3) dX10_order_7 fX10_19 rfl (wlt hw (by decide)) hst ?_
    refine ev_iload_n (pc := 10) dX10_order_10 rfl ?_
    refine ev_callVv (S := []) (pc := 11) dX10_order_11 kX8_hasThing lX10_134 vX8_hasThing (cn_X8_hasThing_3 E h zt zi hw hY hO) rfl rfl (wlt hw (by decide)) rfl rfl (Nat.le_of_ble_eq_true rfl) ⟨Nat.le_of_ble_eq_true rfl, Nat.le_of_ble_eq_true rfl⟩ ⟨Nat.le_of_ble_eq_true rfl, Nat.le_of_ble_eq_true rfl⟩ ?_
    refine ev_if_ne (pc := 14) (tgt := 19) dX10_order_14 (by decide) (fun zc14 => ?_) (fun zc14 => ?_)
    · -- ne at 14: taken
      refine ev_aload_n (pc := 19) dX10_order_19 rfl ?_
      refine ev_getR (pc := 20) (q := 20) dX10_order_20 fX10_38 rfl (wlt hw (by decide)) (wr hw rfl) ?_
      refine ev_callVv (S := []) (pc := 23) dX10_order_23 kX6_ringed lX10_192 vX6_ringed (cn_X6_ringed E h m hw hm hm2) rfl rfl (wlt hw (by decide)) rfl rfl (Nat.le_of_ble_eq_true rfl) ⟨Nat.le_of_ble_eq_true rfl, Nat.le_of_ble_eq_true rfl⟩ ⟨Nat.le_of_ble_eq_true rfl, Nat.le_of_ble_eq_true rfl⟩ ?_
      refine ev_if_eq (pc := 26) (tgt := 32) dX10_order_26 (by decide) (fun zc26 => ?_) (fun zc26 => ?_)
      · -- eq at 26: taken
        refine ev_lload_n (pc := 32) dX10_order_32 rfl ?_
        refine ev_aload_n (pc := 33) dX10_order_33 rfl ?_
        refine ev_getR (pc := 34) (q := 20) dX10_order_34 fX10_38 rfl (wlt hw (by decide)) (wr hw rfl) ?_
        refine ev_callVv (S := [.long zx]) (pc := 37) dX10_order_37 kX6_allOrders lX10_208 vX6_allOrders (cn_X6_allOrders E h m hw hm hm2 hc) rfl rfl (wlt hw (by decide)) rfl rfl (Nat.le_of_ble_eq_true rfl) ⟨Nat.le_of_ble_eq_true rfl, Nat.le_of_ble_eq_true rfl⟩ ⟨Nat.le_of_ble_eq_true rfl, Nat.le_of_ble_eq_true rfl⟩ ?_
        refine ev_eqH (h' := (cwH h m)) rfl ?_
        refine ev_lcmp (pc := 40) dX10_order_40 ?_
        refine ev_if_lt (pc := 41) (tgt := 48) dX10_order_41 (by decide) (fun zc41 => ?_) (fun zc41 => ?_)
        · -- lt at 41: taken
          have zx0 : ¬ zx < 0 := fun z => zc3 ((lc_lt _ _).mpr z)
          obtain ⟨zk, hzk, rfl⟩ := pk_lOf zx0
          have hth := bI_n0.mp zc14
          obtain ⟨zn, hzn, rfl⟩ := th_nat (by rw [hmt]; exact hth) (by omega : m ≤ 4096)
          have hk9 : zk < (wW (fopB (h.2.1 22) 0 (-4)) m 0) := by
            have z1 := (lc_lt _ _).mp zc41
            rw [pk_lLT hzk (by have z2 := wW_12 (fop_ok (h.2.1 22) 0 (-4) hm2) hm2 (Nat.two_pow_pos m); omega)] at z1
            exact z1
          refine ev_aload_n (pc := 48) dX10_order_48 rfl ?_
          refine ev_getR (pc := 49) (q := 20) dX10_order_49 fX10_38 rfl (wlt (wf_cw hw) (by decide)) (wr (wf_cw hw) rfl) ?_
          refine ev_lload_n (pc := 52) dX10_order_52 rfl ?_
          refine ev_iload_n (pc := 53) dX10_order_53 rfl ?_
          refine ev_callVv (S := []) (pc := 54) dX10_order_54 kX6_thingAt lX10_228 vX6_thingAt (cn_X6_thingAt E (cwH h m) zk zn m (wf_cw hw) (cw_m hm) hm2 (fun _ => cw_t hm2 hc) hzn (by rw [cw_22]; exact hk9)) rfl rfl (wlt (wf_cw hw) (by decide)) rfl rfl (Nat.le_of_ble_eq_true rfl) ⟨Nat.le_of_ble_eq_true rfl, Nat.le_of_ble_eq_true rfl⟩ ⟨Nat.le_of_ble_eq_true rfl, Nat.le_of_ble_eq_true rfl⟩ ?_
          refine ev_eqH (h' := (cwH h m)) (cw_cw h m) ?_
          refine ev_iret (pc := 57) dX10_order_57 rfl ?_ ?_
          · rfl
          · have zy : 0 ≤ lN zk ∧ thg zt (nI zn) := ⟨l_nn zx0, hth⟩
            rw [if_pos zy, if_pos zy, if_pos zc26, if_pos zc26, if_pos ((lc_lt _ _).mp zc41), lx_clamp hzk, nI_clamp (by omega), cw_22]
            exact ⟨rfl, rfl⟩
        · -- lt at 41: not taken
          refine ev_iconst (pc := 44) (v := (-1)) dX10_order_44 (by decide) ?_
          refine ev_goto (pc := 45) (tgt := 57) dX10_order_45 (by decide) ?_
          refine ev_iret (pc := 57) dX10_order_57 rfl ?_ ?_
          · rfl
          · have zy : 0 ≤ zx ∧ thg zt zi := ⟨l_nn (fun z => zc3 ((lc_lt _ _).mpr z)), bI_n0.mp zc14⟩
            rw [if_pos zy, if_pos zy]
            rw [if_pos zc26, if_pos zc26, if_neg (fun z => zc41 ((lc_lt _ _).mpr z))]
            exact ⟨rfl, rfl⟩
      · -- eq at 26: not taken
        refine ev_bipush (pc := 29) (v := (-2)) dX10_order_29 (by decide) ?_
        refine ev_iret (pc := 31) dX10_order_31 rfl ?_ ?_
        · rfl
        · have zy : 0 ≤ zx ∧ thg zt zi := ⟨l_nn (fun z => zc3 ((lc_lt _ _).mpr z)), bI_n0.mp zc14⟩
          rw [if_pos zy, if_pos zy]
          rw [if_neg zc26, if_neg zc26]
          exact ⟨rfl, rfl⟩
    · -- ne at 14: not taken
      refine ev_iconst (pc := 17) (v := (-1)) dX10_order_17 (by decide) ?_
      refine ev_iret (pc := 18) dX10_order_18 rfl ?_ ?_
      · rfl
      · have zn : ¬ (0 ≤ zx ∧ thg zt zi) := fun z => bI_0.mp zc14 z.2
        rw [if_neg zn, if_neg zn]
        exact ⟨rfl, rfl⟩
theorem cn_X10_likely_11 (E : ME) (h : AH) (zt : PSt) (za zb zv : Int32) (m : Nat) (hw : WF h) (hY : STz zt 11 h) (hO : POK zt) (hst : h.2.2.2 0 1 = some 11) (hm : h.2.1 20 4 = nI m) (hm2 : m ≤ 12) (hmt : m = zt.1 1) (hc : CWz h m) (hpos : rgF (h.2.1 22) m = 0 → 0 < (wW (fopB (h.2.1 22) 0 (-4)) m 0)) : Con E mX10_likely 5 0 0 [.ref 0, .int za, .int zb, .int zv] h (fun r h' => r = some (.long (if (thg zt za ∧ thg zt zb ∧ ¬ za = zb) ∧ (0 ≤ zv ∧ zv ≤ 1) then (if rgF (h.2.1 22) m = 0 then (if zv = 0 then lN ((wW (fopB (h.2.1 22) za zb) m 0) / (Nat.gcd (wW (fopB (h.2.1 22) za zb) m 0) (wW (fopB (h.2.1 22) 0 (-4)) m 0))) else lN ((wW (fopB (h.2.1 22) 0 (-4)) m 0) / (Nat.gcd (wW (fopB (h.2.1 22) za zb) m 0) (wW (fopB (h.2.1 22) 0 (-4)) m 0)))) else -2) else -1)) ∧ h' = if (thg zt za ∧ thg zt zb ∧ ¬ za = zb) ∧ (0 ≤ zv ∧ zv ≤ 1) then (if rgF (h.2.1 22) m = 0 then cwH h m else h) else h) := by
  refine con_of2 (L := [some (.ref 0), some (.int za), some (.int zb), some (.int zv), none, none, none, none, none, none]) rfl (Nat.le_of_ble_eq_true rfl) rfl ?_
  refine ev_aload_n (pc := 0) dX10_likely_0 rfl ?_
  refine ev_iload_n (pc := 1) dX10_likely_1 rfl ?_
  refine ev_iload_n (pc := 2) dX10_likely_2 rfl ?_
  refine ev_callVv (S := []) (pc := 3) dX10_likely_3 kX10_areTwoThings lX10_185 vX10_areTwoThings (cn_X10_areTwoThings_11 E h zt za zb hw hY hO hst) rfl rfl (wlt hw (by decide)) rfl rfl (Nat.le_of_ble_eq_true rfl) ⟨Nat.le_of_ble_eq_true rfl, Nat.le_of_ble_eq_true rfl⟩ ⟨Nat.le_of_ble_eq_true rfl, Nat.le_of_ble_eq_true rfl⟩ ?_
  refine ev_if_eq (pc := 6) (tgt := 18) dX10_likely_6 (by decide) (fun zc6 => ?_) (fun zc6 => ?_)
  · -- eq at 6: taken
    refine ev_ldc2 (pc := 18) (v := (-1)) dX10_likely_18 kcX10_212 ?_
    refine ev_lret (pc := 21) dX10_likely_21 rfl ?_
    · have zn : ¬ ((thg zt za ∧ thg zt zb ∧ ¬ za = zb) ∧ (0 ≤ zv ∧ zv ≤ 1)) := fun z => bI_0.mp zc6 z.1
      rw [if_neg zn, if_neg zn]
      exact ⟨rfl, rfl⟩
  · -- eq at 6: not taken
    refine ev_iload_n (pc := 9) dX10_likely_9 rfl ?_
    refine ev_iconst (pc := 10) (v := 0) dX10_likely_10 (by decide) ?_
    refine ev_iconst (pc := 11) (v := 1) dX10_likely_11 (by decide) ?_
    refine ev_callSv (S := []) (pc := 12) dX10_likely_12 kX10_within lX10_123 sX10_within (cn_X10_within E h zv 0 1) rfl rfl (Nat.le_of_ble_eq_true rfl) ⟨Nat.le_of_ble_eq_true rfl, Nat.le_of_ble_eq_true rfl⟩ ⟨Nat.le_of_ble_eq_true rfl, Nat.le_of_ble_eq_true rfl⟩ ?_
    refine ev_if_ne (pc := 15) (tgt := 22) dX10_likely_15 (by decide) (fun zc15 => ?_) (fun zc15 => ?_)
    · -- ne at 15: taken
      refine ev_aload_n (pc := 22) dX10_likely_22 rfl ?_
      refine ev_getR (pc := 23) (q := 20) dX10_likely_23 fX10_38 rfl (wlt hw (by decide)) (wr hw rfl) ?_
      refine ev_callVv (S := []) (pc := 26) dX10_likely_26 kX6_ringed lX10_192 vX6_ringed (cn_X6_ringed E h m hw hm hm2) rfl rfl (wlt hw (by decide)) rfl rfl (Nat.le_of_ble_eq_true rfl) ⟨Nat.le_of_ble_eq_true rfl, Nat.le_of_ble_eq_true rfl⟩ ⟨Nat.le_of_ble_eq_true rfl, Nat.le_of_ble_eq_true rfl⟩ ?_
      refine ev_if_eq (pc := 29) (tgt := 36) dX10_likely_29 (by decide) (fun zc29 => ?_) (fun zc29 => ?_)
      · -- eq at 29: taken
        refine ev_aload_n (pc := 36) dX10_likely_36 rfl ?_
        refine ev_getR (pc := 37) (q := 20) dX10_likely_37 fX10_38 rfl (wlt hw (by decide)) (wr hw rfl) ?_
        refine ev_callVv (S := []) (pc := 40) dX10_likely_40 kX6_allOrders lX10_208 vX6_allOrders (cn_X6_allOrders E h m hw hm hm2 hc) rfl rfl (wlt hw (by decide)) rfl rfl (Nat.le_of_ble_eq_true rfl) ⟨Nat.le_of_ble_eq_true rfl, Nat.le_of_ble_eq_true rfl⟩ ⟨Nat.le_of_ble_eq_true rfl, Nat.le_of_ble_eq_true rfl⟩ ?_
        refine ev_eqH (h' := (cwH h m)) rfl ?_
        refine ev_lstore (pc := 43) (L' := [some (.ref 0), some (.int za), some (.int zb), some (.int zv), some (.long (lN (wW (fopB (h.2.1 22) 0 (-4)) m 0))), none, none, none, none, none]) dX10_likely_43 (Nat.le_of_ble_eq_true rfl) rfl ?_
        refine ev_aload_n (pc := 45) dX10_likely_45 rfl ?_
        refine ev_getR (pc := 46) (q := 20) dX10_likely_46 fX10_38 rfl (wlt (wf_cw hw) (by decide)) (wr (wf_cw hw) rfl) ?_
        refine ev_iload_n (pc := 49) dX10_likely_49 rfl ?_
        refine ev_iload_n (pc := 50) dX10_likely_50 rfl ?_
        refine ev_callVv (S := []) (pc := 51) dX10_likely_51 kX6_ordersWith lX10_214 vX6_ordersWith (cn_X6_ordersWith E (cwH h m) za zb m (wf_cw hw) (cw_m hm) hm2 (fun _ => cw_t hm2 hc)) rfl rfl (wlt (wf_cw hw) (by decide)) rfl rfl (Nat.le_of_ble_eq_true rfl) ⟨Nat.le_of_ble_eq_true rfl, Nat.le_of_ble_eq_true rfl⟩ ⟨Nat.le_of_ble_eq_true rfl, Nat.le_of_ble_eq_true rfl⟩ ?_
        refine ev_eqH (h' := (cwH h m)) (cw_cw h m) ?_
        have zab := wW_12 (fop_ok (h.2.1 22) za zb hm2) hm2 (Nat.two_pow_pos m)
        have zbb := wW_12 (fop_ok (h.2.1 22) 0 (-4) hm2) hm2 (Nat.two_pow_pos m)
        have zg0 : 0 < (Nat.gcd (wW (fopB (h.2.1 22) za zb) m 0) (wW (fopB (h.2.1 22) 0 (-4)) m 0)) := Nat.gcd_pos_of_pos_right _ (hpos zc29)
        have zgb : (Nat.gcd (wW (fopB (h.2.1 22) za zb) m 0) (wW (fopB (h.2.1 22) 0 (-4)) m 0)) ≤ 479001600 := Nat.le_trans (Nat.gcd_le_right _ (hpos zc29)) zbb
        have hG := bI_n0.mp zc6
        refine ev_eqJ (e' := lN (wW (fopB (h.2.1 22) za zb) m 0)) (by rw [if_pos (by rw [hmt]; exact hG.2.1), cw_22, ow_fop hm2 (by rw [hmt]; exact hG.1) (by rw [hmt]; exact hG.2.1)]) ?_
        refine ev_lstore (pc := 54) (L' := [some (.ref 0), some (.int za), some (.int zb), some (.int zv), some (.long (lN (wW (fopB (h.2.1 22) 0 (-4)) m 0))), none, some (.long (lN (wW (fopB (h.2.1 22) za zb) m 0))), none, none, none]) dX10_likely_54 (Nat.le_of_ble_eq_true rfl) rfl ?_
        refine ev_lload (pc := 56) dX10_likely_56 rfl ?_
        refine ev_lload (pc := 58) dX10_likely_58 rfl ?_
        refine ev_callSv (S := []) (pc := 60) dX10_likely_60 kX10_sharedDivisor lX10_218 sX10_sharedDivisor (cn_X10_sharedDivisor E (cwH h m) (wW (fopB (h.2.1 22) za zb) m 0) (wW (fopB (h.2.1 22) 0 (-4)) m 0) (wf_cw hw) (by omega) (by omega) zg0) rfl rfl (Nat.le_of_ble_eq_true rfl) ⟨Nat.le_of_ble_eq_true rfl, Nat.le_of_ble_eq_true rfl⟩ ⟨Nat.le_of_ble_eq_true rfl, Nat.le_of_ble_eq_true rfl⟩ ?_
        refine ev_lstore (pc := 63) (L' := [some (.ref 0), some (.int za), some (.int zb), some (.int zv), some (.long (lN (wW (fopB (h.2.1 22) 0 (-4)) m 0))), none, some (.long (lN (wW (fopB (h.2.1 22) za zb) m 0))), none, some (.long (lN (Nat.gcd (wW (fopB (h.2.1 22) za zb) m 0) (wW (fopB (h.2.1 22) 0 (-4)) m 0)))), none]) dX10_likely_63 (Nat.le_of_ble_eq_true rfl) rfl ?_
        refine ev_iload_n (pc := 65) dX10_likely_65 rfl ?_
        refine ev_if_ne (pc := 66) (tgt := 74) dX10_likely_66 (by decide) (fun zc66 => ?_) (fun zc66 => ?_)
        · -- ne at 66: taken
          refine ev_lload (pc := 74) dX10_likely_74 rfl ?_
          refine ev_lload (pc := 76) dX10_likely_76 rfl ?_
          refine ev_ldiv (pc := 78) dX10_likely_78 (fun z => by have z1 := lN_toInt (n := (Nat.gcd (wW (fopB (h.2.1 22) za zb) m 0) (wW (fopB (h.2.1 22) 0 (-4)) m 0))) (by omega); rw [z] at z1; have z2 : (0 : Int64).toInt = 0 := rfl; omega) ?_
          refine ev_lret (pc := 79) dX10_likely_79 rfl ?_
          · have zy : (thg zt za ∧ thg zt zb ∧ ¬ za = zb) ∧ (0 ≤ zv ∧ zv ≤ 1) := ⟨bI_n0.mp zc6, bI_n0.mp zc15⟩
            rw [if_pos zy, if_pos zy]
            rw [if_pos zc29, if_pos zc29, if_neg zc66]
            rw [pk_lDiv (by omega) zg0 (by omega)]
            exact ⟨rfl, rfl⟩
        · -- ne at 66: not taken
          refine ev_lload (pc := 69) dX10_likely_69 rfl ?_
          refine ev_goto (pc := 71) (tgt := 76) dX10_likely_71 (by decide) ?_
          refine ev_lload (pc := 76) dX10_likely_76 rfl ?_
          refine ev_ldiv (pc := 78) dX10_likely_78 (fun z => by have z1 := lN_toInt (n := (Nat.gcd (wW (fopB (h.2.1 22) za zb) m 0) (wW (fopB (h.2.1 22) 0 (-4)) m 0))) (by omega); rw [z] at z1; have z2 : (0 : Int64).toInt = 0 := rfl; omega) ?_
          refine ev_lret (pc := 79) dX10_likely_79 rfl ?_
          · have zy : (thg zt za ∧ thg zt zb ∧ ¬ za = zb) ∧ (0 ≤ zv ∧ zv ≤ 1) := ⟨bI_n0.mp zc6, bI_n0.mp zc15⟩
            rw [if_pos zy, if_pos zy]
            rw [if_pos zc29, if_pos zc29, if_pos zc66]
            rw [pk_lDiv (by omega) zg0 (by omega)]
            exact ⟨rfl, rfl⟩
      · -- eq at 29: not taken
        refine ev_ldc2 (pc := 32) (v := (-2)) dX10_likely_32 kcX10_206 ?_
        refine ev_lret (pc := 35) dX10_likely_35 rfl ?_
        · have zy : (thg zt za ∧ thg zt zb ∧ ¬ za = zb) ∧ (0 ≤ zv ∧ zv ≤ 1) := ⟨bI_n0.mp zc6, bI_n0.mp zc15⟩
          rw [if_pos zy, if_pos zy]
          rw [if_neg zc29, if_neg zc29]
          exact ⟨rfl, rfl⟩
    · -- ne at 15: not taken
      refine ev_ldc2 (pc := 18) (v := (-1)) dX10_likely_18 kcX10_212 ?_
      refine ev_lret (pc := 21) dX10_likely_21 rfl ?_
      · have zn : ¬ ((thg zt za ∧ thg zt zb ∧ ¬ za = zb) ∧ (0 ≤ zv ∧ zv ≤ 1)) := fun z => bI_0.mp zc15 z.2
        rw [if_neg zn, if_neg zn]
        exact ⟨rfl, rfl⟩
theorem cn_X10_order_11 (E : ME) (h : AH) (zt : PSt) (zx : Int64) (zi : Int32) (m : Nat) (hw : WF h) (hY : STz zt 11 h) (hO : POK zt) (hst : h.2.2.2 0 1 = some 11) (hm : h.2.1 20 4 = nI m) (hm2 : m ≤ 12) (hmt : m = zt.1 1) (hc : CWz h m) : Con E mX10_order 5 0 0 [.ref 0, .long zx, .int zi] h (fun r h' => r = some (.int (if 0 ≤ zx ∧ thg zt zi then (if rgF (h.2.1 22) m = 0 then (if zx < lN (wW (fopB (h.2.1 22) 0 (-4)) m 0) then (oS (fopB (h.2.1 22) 0 (-4)) m zx.toNatClampNeg (zi.toNatClampNeg + 1)).2.2 else -1) else -2) else -1)) ∧ h' = if 0 ≤ zx ∧ thg zt zi then (if rgF (h.2.1 22) m = 0 then cwH h m else h) else h) := by
  refine con_of2 (L := [some (.ref 0), some (.long zx), none, some (.int zi)]) rfl (Nat.le_of_ble_eq_true rfl) rfl ?_
  refine ev_lload_n (pc := 0) dX10_order_0 rfl ?_
  refine ev_lconst (pc := 1) (v := 0) dX10_order_1 (by decide) ?_
  refine ev_lcmp (pc := 2) dX10_order_2 ?_
  refine ev_if_lt (pc := 3) (tgt := 17) dX10_order_3 (by decide) (fun zc3 => ?_) (fun zc3 => ?_)
  · -- lt at 3: taken
    refine ev_iconst (pc := 17) (v := (-1)) dX10_order_17 (by decide) ?_
    refine ev_iret (pc := 18) dX10_order_18 rfl ?_ ?_
    · rfl
    · have zn : ¬ (0 ≤ zx ∧ thg zt zi) := fun z => l_n0 z.1 ((lc_lt _ _).mp zc3)
      rw [if_neg zn, if_neg zn]
      exact ⟨rfl, rfl⟩
  · -- lt at 3: not taken
    refine ev_aload_n (pc := 6) dX10_order_6 rfl ?_
    refine ev_getR (pc := 7) (q := 11) dX10_order_7 fX10_19 rfl (wlt hw (by decide)) hst ?_
    refine ev_iload_n (pc := 10) dX10_order_10 rfl ?_
    refine ev_callVv (S := []) (pc := 11) dX10_order_11 kX8_hasThing lX10_134 vX8_hasThing (cn_X8_hasThing_11 E h zt zi hw hY hO) rfl rfl (wlt hw (by decide)) rfl rfl (Nat.le_of_ble_eq_true rfl) ⟨Nat.le_of_ble_eq_true rfl, Nat.le_of_ble_eq_true rfl⟩ ⟨Nat.le_of_ble_eq_true rfl, Nat.le_of_ble_eq_true rfl⟩ ?_
    refine ev_if_ne (pc := 14) (tgt := 19) dX10_order_14 (by decide) (fun zc14 => ?_) (fun zc14 => ?_)
    · -- ne at 14: taken
      refine ev_aload_n (pc := 19) dX10_order_19 rfl ?_
      refine ev_getR (pc := 20) (q := 20) dX10_order_20 fX10_38 rfl (wlt hw (by decide)) (wr hw rfl) ?_
      refine ev_callVv (S := []) (pc := 23) dX10_order_23 kX6_ringed lX10_192 vX6_ringed (cn_X6_ringed E h m hw hm hm2) rfl rfl (wlt hw (by decide)) rfl rfl (Nat.le_of_ble_eq_true rfl) ⟨Nat.le_of_ble_eq_true rfl, Nat.le_of_ble_eq_true rfl⟩ ⟨Nat.le_of_ble_eq_true rfl, Nat.le_of_ble_eq_true rfl⟩ ?_
      refine ev_if_eq (pc := 26) (tgt := 32) dX10_order_26 (by decide) (fun zc26 => ?_) (fun zc26 => ?_)
      · -- eq at 26: taken
        refine ev_lload_n (pc := 32) dX10_order_32 rfl ?_
        refine ev_aload_n (pc := 33) dX10_order_33 rfl ?_
        refine ev_getR (pc := 34) (q := 20) dX10_order_34 fX10_38 rfl (wlt hw (by decide)) (wr hw rfl) ?_
        refine ev_callVv (S := [.long zx]) (pc := 37) dX10_order_37 kX6_allOrders lX10_208 vX6_allOrders (cn_X6_allOrders E h m hw hm hm2 hc) rfl rfl (wlt hw (by decide)) rfl rfl (Nat.le_of_ble_eq_true rfl) ⟨Nat.le_of_ble_eq_true rfl, Nat.le_of_ble_eq_true rfl⟩ ⟨Nat.le_of_ble_eq_true rfl, Nat.le_of_ble_eq_true rfl⟩ ?_
        refine ev_eqH (h' := (cwH h m)) rfl ?_
        refine ev_lcmp (pc := 40) dX10_order_40 ?_
        refine ev_if_lt (pc := 41) (tgt := 48) dX10_order_41 (by decide) (fun zc41 => ?_) (fun zc41 => ?_)
        · -- lt at 41: taken
          have zx0 : ¬ zx < 0 := fun z => zc3 ((lc_lt _ _).mpr z)
          obtain ⟨zk, hzk, rfl⟩ := pk_lOf zx0
          have hth := bI_n0.mp zc14
          obtain ⟨zn, hzn, rfl⟩ := th_nat (by rw [hmt]; exact hth) (by omega : m ≤ 4096)
          have hk9 : zk < (wW (fopB (h.2.1 22) 0 (-4)) m 0) := by
            have z1 := (lc_lt _ _).mp zc41
            rw [pk_lLT hzk (by have z2 := wW_12 (fop_ok (h.2.1 22) 0 (-4) hm2) hm2 (Nat.two_pow_pos m); omega)] at z1
            exact z1
          refine ev_aload_n (pc := 48) dX10_order_48 rfl ?_
          refine ev_getR (pc := 49) (q := 20) dX10_order_49 fX10_38 rfl (wlt (wf_cw hw) (by decide)) (wr (wf_cw hw) rfl) ?_
          refine ev_lload_n (pc := 52) dX10_order_52 rfl ?_
          refine ev_iload_n (pc := 53) dX10_order_53 rfl ?_
          refine ev_callVv (S := []) (pc := 54) dX10_order_54 kX6_thingAt lX10_228 vX6_thingAt (cn_X6_thingAt E (cwH h m) zk zn m (wf_cw hw) (cw_m hm) hm2 (fun _ => cw_t hm2 hc) hzn (by rw [cw_22]; exact hk9)) rfl rfl (wlt (wf_cw hw) (by decide)) rfl rfl (Nat.le_of_ble_eq_true rfl) ⟨Nat.le_of_ble_eq_true rfl, Nat.le_of_ble_eq_true rfl⟩ ⟨Nat.le_of_ble_eq_true rfl, Nat.le_of_ble_eq_true rfl⟩ ?_
          refine ev_eqH (h' := (cwH h m)) (cw_cw h m) ?_
          refine ev_iret (pc := 57) dX10_order_57 rfl ?_ ?_
          · rfl
          · have zy : 0 ≤ lN zk ∧ thg zt (nI zn) := ⟨l_nn zx0, hth⟩
            rw [if_pos zy, if_pos zy, if_pos zc26, if_pos zc26, if_pos ((lc_lt _ _).mp zc41), lx_clamp hzk, nI_clamp (by omega), cw_22]
            exact ⟨rfl, rfl⟩
        · -- lt at 41: not taken
          refine ev_iconst (pc := 44) (v := (-1)) dX10_order_44 (by decide) ?_
          refine ev_goto (pc := 45) (tgt := 57) dX10_order_45 (by decide) ?_
          refine ev_iret (pc := 57) dX10_order_57 rfl ?_ ?_
          · rfl
          · have zy : 0 ≤ zx ∧ thg zt zi := ⟨l_nn (fun z => zc3 ((lc_lt _ _).mpr z)), bI_n0.mp zc14⟩
            rw [if_pos zy, if_pos zy]
            rw [if_pos zc26, if_pos zc26, if_neg (fun z => zc41 ((lc_lt _ _).mpr z))]
            exact ⟨rfl, rfl⟩
      · -- eq at 26: not taken
        refine ev_bipush (pc := 29) (v := (-2)) dX10_order_29 (by decide) ?_
        refine ev_iret (pc := 31) dX10_order_31 rfl ?_ ?_
        · rfl
        · have zy : 0 ≤ zx ∧ thg zt zi := ⟨l_nn (fun z => zc3 ((lc_lt _ _).mpr z)), bI_n0.mp zc14⟩
          rw [if_pos zy, if_pos zy]
          rw [if_neg zc26, if_neg zc26]
          exact ⟨rfl, rfl⟩
    · -- ne at 14: not taken
      refine ev_iconst (pc := 17) (v := (-1)) dX10_order_17 (by decide) ?_
      refine ev_iret (pc := 18) dX10_order_18 rfl ?_ ?_
      · rfl
      · have zn : ¬ (0 ≤ zx ∧ thg zt zi) := fun z => bI_0.mp zc14 z.2
        rw [if_neg zn, if_neg zn]
        exact ⟨rfl, rfl⟩
