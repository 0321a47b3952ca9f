theorem ow_p {zp : Nat → Nat → Bool} {zh : Nat → Bool} {zm zb zs : Nat} (h : zh zs = true ∧ zp zs zb = true) : owN zp zh zm zb (zs + 1) = owN zp zh zm zb zs + dW zp zm zs * wW zp zm (zs ||| 2 ^ zb) := by
  unfold owN
  rw [fb_sm_succ, if_pos h]
theorem ow_n {zp : Nat → Nat → Bool} {zh : Nat → Bool} {zm zb zs : Nat} (h : ¬ (zh zs = true ∧ zp zs zb = true)) : owN zp zh zm zb (zs + 1) = owN zp zh zm zb zs := by
  unfold owN
  rw [fb_sm_succ, if_neg h]
  rfl
theorem ow_z {zp : Nat → Nat → Bool} {zh : Nat → Bool} {zm zb zs : Nat} (h : dW zp zm zs = 0) : owN zp zh zm zb (zs + 1) = owN zp zh zm zb zs := by
  by_cases e : zh zs = true ∧ zp zs zb = true
  · rw [ow_p e, h, Nat.zero_mul, Nat.add_zero]
  · exact ow_n e
theorem cw_0 {h : AH} {m : Nat} (hm2 : m ≤ 12) (hc : CWz h m) : (cwH h m).2.1 24 0 = nI (wW (fopB (h.2.1 22) 0 (-4)) m 0) := by
  have z := (cw_t hm2 hc).2 0 (Nat.two_pow_pos m) (by rw [dW_0 (fop_ok _ _ _ hm2)]; exact Nat.le_refl _)
  rw [cw_22] at z
  exact z
def oT (zp : Nat → Nat → Bool) (zm zk : Nat) : Nat → Int32
  | 0 => -1
  | zn + 1 => (oS zp zm zk (zn + 1)).2.2
theorem oS_d {zp : Nat → Nat → Bool} {zm zk : Nat} (hp : pOK zp zm) (hk : zk < wW zp zm 0) : ∀ zn, zn ≤ zm → 1 ≤ dW zp zm (oS zp zm zk zn).1
  | 0, _ => by
    show 1 ≤ dW zp zm 0
    rw [dW_0 hp]
    exact Nat.le_refl _
  | zn + 1, hn => by
    have ih := oS_d hp hk zn (by omega)
    have z1 := oS_ok hp hk zn (by omega)
    have z2 := oS_pick hp (oS_ne hp hk (show zn < zm by omega)) z1.2.1
    exact Nat.le_trans ih (dW_next hp z1.1 z2.1 z2.2.1)
theorem cn_X6_allOrders (E : ME) (h : AH) (m : Nat) (hw : WF h) (hm : h.2.1 20 4 = nI m) (hm2 : m ≤ 12) (hc : CWz h m) : Con E mX6_allOrders 3 0 0 [.ref 20] h (fun r h' => r = some (.long (lN (wW (fopB (h.2.1 22) 0 (-4)) m 0))) ∧ h' = cwH h m) := by
  refine con_of2 (L := [some (.ref 20)]) rfl (Nat.le_of_ble_eq_true rfl) rfl ?_
  refine ev_aload_n (pc := 0) dX6_allOrders_0 rfl ?_
  refine ev_callV0 (S := []) (pc := 1) dX6_allOrders_1 kX6_countWays lX6_63 vX6_countWays (cn_X6_countWays E h m hw hm hm2) rfl rfl (wlt hw (by decide)) rfl rfl (Nat.le_of_ble_eq_true rfl) ⟨Nat.le_of_ble_eq_true rfl, Nat.le_of_ble_eq_true rfl⟩ ⟨Nat.le_of_ble_eq_true rfl, Nat.le_of_ble_eq_true rfl⟩ ?_
  refine ev_eqH (h' := (cwH h m)) rfl ?_
  refine ev_aload_n (pc := 4) dX6_allOrders_4 rfl ?_
  refine ev_getR (pc := 5) (q := 24) dX6_allOrders_5 fX6_21 rfl (wlt (wf_cw hw) (by decide)) (wr (wf_cw hw) rfl) ?_
  refine ev_iconst (pc := 8) (v := 0) dX6_allOrders_8 (by decide) ?_
  refine ev_iald (pc := 9) dX6_allOrders_9 rfl (wlt (wf_cw hw) (by decide)) (vp_in_nI (n := 0) (by decide) (by decide)) ?_
  refine ev_eqI (e' := (cwH h m).2.1 24 0) (by rw [show Int32.toNatClampNeg 0 = 0 from (by decide)] <;> rfl) ?_
  refine ev_eqI (e' := nI (wW (fopB (h.2.1 22) 0 (-4)) m 0)) (cw_0 hm2 hc) ?_
  refine ev_i2l (pc := 10) dX6_allOrders_10 ?_
  refine ev_lret (pc := 11) dX6_allOrders_11 rfl ?_
  · refine ⟨?_, rfl⟩
    rw [nI_l (by have z1 := wW_12 (fop_ok (h.2.1 22) 0 (-4) hm2) hm2 (Nat.two_pow_pos m); omega)]
theorem lp_ow_25 (E : ME) (h : AH) (m zk : Nat) (za : Int32) (hw : WF h) (hm : h.2.1 20 4 = nI m) (hm2 : m ≤ 12) (hk : zk < m) (hT : CWt h m) {post : PO} (K : Ev E mX6_ordersWith (rmm 3 0 0) (QM E 0 0 post) 0 0 95 [some (.ref 20), some (.int za), some (.int (nI zk)), some (.long (lN (owN (fopB (h.2.1 22) 0 (-4)) (fun zs => decide (¬ (nI zs >>> (za &&& 31)) &&& 1 = 0)) m zk (2 ^ m)))), none, some (.int (nI (2 ^ m)))] [] h) : ∀ n i : Nat, i + n = (2 ^ m) → Ev E mX6_ordersWith (rmm 3 0 0) (QM E 0 0 post) 0 0 25 [some (.ref 20), some (.int za), some (.int (nI zk)), some (.long (lN (owN (fopB (h.2.1 22) 0 (-4)) (fun zs => decide (¬ (nI zs >>> (za &&& 31)) &&& 1 = 0)) m zk i))), none, some (.int (nI i))] [] h := by
  intro n
  induction n with
  | zero =>
    intro i hi
    obtain rfl : (2 ^ m) = i := by omega
    refine ev_iload (pc := 25) dX6_ordersWith_25 rfl ?_
    refine ev_iconst (pc := 27) (v := 1) dX6_ordersWith_27 (by decide) ?_
    refine ev_aload_n (pc := 28) dX6_ordersWith_28 rfl ?_
    refine ev_getI (pc := 29) dX6_ordersWith_29 fX6_36 rfl (wlt hw (by decide)) ?_
    refine ev_eqI (e' := nI m) hm ?_
    refine ev_ishl (pc := 32) dX6_ordersWith_32 ?_
    refine ev_icmp_ge (pc := 33) (tgt := 95) dX6_ordersWith_33 (by decide) (fun zc33 => ?_) (fun zc33 => absurd (by rw [sh_pow m (by omega)]; exact nI_le (Nat.le_refl _) (by have z1 := pw_le hm2; omega)) zc33)
    exact K
  | succ n ih =>
    intro i hi
    have hlt : i < (2 ^ m) := by omega
    refine ev_iload (pc := 25) dX6_ordersWith_25 rfl ?_
    refine ev_iconst (pc := 27) (v := 1) dX6_ordersWith_27 (by decide) ?_
    refine ev_aload_n (pc := 28) dX6_ordersWith_28 rfl ?_
    refine ev_getI (pc := 29) dX6_ordersWith_29 fX6_36 rfl (wlt hw (by decide)) ?_
    refine ev_eqI (e' := nI m) hm ?_
    refine ev_ishl (pc := 32) dX6_ordersWith_32 ?_
    refine ev_icmp_ge (pc := 33) (tgt := 95) dX6_ordersWith_33 (by decide) (fun zc33 => absurd zc33 (by rw [sh_pow m (by omega)]; exact nI_ge hlt (by have z1 := pw_le hm2; omega))) (fun zc33 => ?_)
    refine ev_aload_n (pc := 36) dX6_ordersWith_36 rfl ?_
    refine ev_getR (pc := 37) (q := 23) dX6_ordersWith_37 fX6_18 rfl (wlt hw (by decide)) (wr hw rfl) ?_
    refine ev_iload (pc := 40) dX6_ordersWith_40 rfl ?_
    refine ev_iald (pc := 42) dX6_ordersWith_42 rfl (wlt hw (by decide)) (vp_in_nI (by have z1 := pw_le hm2; omega) (by decide)) ?_
    refine ev_eqI (e' := h.2.1 23 i) (by rw [show Int32.toNatClampNeg (nI i) = i from nI_clamp (by have z1 := pw_le hm2; omega)] <;> rfl) ?_
    refine ev_eqI (e' := nI (dW (fopB (h.2.1 22) 0 (-4)) m i)) (hT.1 i hlt) ?_
    refine ev_if_le (pc := 43) (tgt := 89) dX6_ordersWith_43 (by decide) (fun zc43 => ?_) (fun zc43 => ?_)
    · -- le at 43: taken
      refine ev_iinc (pc := 89) (v := nI (i + 1)) (L' := [some (.ref 20), some (.int za), some (.int (nI zk)), some (.long (lN (owN (fopB (h.2.1 22) 0 (-4)) (fun zs => decide (¬ (nI zs >>> (za &&& 31)) &&& 1 = 0)) m zk i))), none, some (.int (nI (i + 1)))]) dX6_ordersWith_89 rfl (nI_1 _) (Nat.le_of_ble_eq_true rfl) rfl ?_
      refine ev_goto (pc := 92) (tgt := 25) dX6_ordersWith_92 (by decide) ?_
      refine ev_eqL (L' := [some (.ref 20), some (.int za), some (.int (nI zk)), some (.long (lN (owN (fopB (h.2.1 22) 0 (-4)) (fun zs => decide (¬ (nI zs >>> (za &&& 31)) &&& 1 = 0)) m zk (i + 1)))), none, some (.int (nI (i + 1)))]) (by rw [ow_z (nI_s0 (by have z1 := dW_12 (fop_ok (h.2.1 22) 0 (-4) hm2) hm2 (show i < 2 ^ m from hlt); omega) zc43)]) ?_
      exact ih (i + 1) (by omega)
    · -- le at 43: not taken
      refine ev_iload (pc := 46) dX6_ordersWith_46 rfl ?_
      refine ev_iload_n (pc := 48) dX6_ordersWith_48 rfl ?_
      refine ev_callSv (S := []) (pc := 49) dX6_ordersWith_49 kX10_has lX6_42 sX10_has (cn_X10_has E h (nI i) za) rfl rfl (Nat.le_of_ble_eq_true rfl) ⟨Nat.le_of_ble_eq_true rfl, Nat.le_of_ble_eq_true rfl⟩ ⟨Nat.le_of_ble_eq_true rfl, Nat.le_of_ble_eq_true rfl⟩ ?_
      refine ev_if_eq (pc := 52) (tgt := 89) dX6_ordersWith_52 (by decide) (fun zc52 => ?_) (fun zc52 => ?_)
      · -- eq at 52: taken
        refine ev_iinc (pc := 89) (v := nI (i + 1)) (L' := [some (.ref 20), some (.int za), some (.int (nI zk)), some (.long (lN (owN (fopB (h.2.1 22) 0 (-4)) (fun zs => decide (¬ (nI zs >>> (za &&& 31)) &&& 1 = 0)) m zk i))), none, some (.int (nI (i + 1)))]) dX6_ordersWith_89 rfl (nI_1 _) (Nat.le_of_ble_eq_true rfl) rfl ?_
        refine ev_goto (pc := 92) (tgt := 25) dX6_ordersWith_92 (by decide) ?_
        refine ev_eqL (L' := [some (.ref 20), some (.int za), some (.int (nI zk)), some (.long (lN (owN (fopB (h.2.1 22) 0 (-4)) (fun zs => decide (¬ (nI zs >>> (za &&& 31)) &&& 1 = 0)) m zk (i + 1)))), none, some (.int (nI (i + 1)))]) (by rw [ow_n (fun z => bI_0.mp zc52 (of_decide_eq_true z.1))]) ?_
        exact ih (i + 1) (by omega)
      · -- eq at 52: not taken
        refine ev_aload_n (pc := 55) dX6_ordersWith_55 rfl ?_
        refine ev_iload (pc := 56) dX6_ordersWith_56 rfl ?_
        refine ev_iload_n (pc := 58) dX6_ordersWith_58 rfl ?_
        refine ev_callVv (S := []) (pc := 59) dX6_ordersWith_59 kX6_mayFollow lX6_60 vX6_mayFollow (cn_X6_mayFollow E h i zk hw (by omega)) rfl rfl (wlt hw (by decide)) rfl rfl (Nat.le_of_ble_eq_true rfl) ⟨Nat.le_of_ble_eq_true rfl, Nat.le_of_ble_eq_true rfl⟩ ⟨Nat.le_of_ble_eq_true rfl, Nat.le_of_ble_eq_true rfl⟩ ?_
        refine ev_if_eq (pc := 62) (tgt := 89) dX6_ordersWith_62 (by decide) (fun zc62 => ?_) (fun zc62 => ?_)
        · -- eq at 62: taken
          refine ev_iinc (pc := 89) (v := nI (i + 1)) (L' := [some (.ref 20), some (.int za), some (.int (nI zk)), some (.long (lN (owN (fopB (h.2.1 22) 0 (-4)) (fun zs => decide (¬ (nI zs >>> (za &&& 31)) &&& 1 = 0)) m zk i))), none, some (.int (nI (i + 1)))]) dX6_ordersWith_89 rfl (nI_1 _) (Nat.le_of_ble_eq_true rfl) rfl ?_
          refine ev_goto (pc := 92) (tgt := 25) dX6_ordersWith_92 (by decide) ?_
          refine ev_eqL (L' := [some (.ref 20), some (.int za), some (.int (nI zk)), some (.long (lN (owN (fopB (h.2.1 22) 0 (-4)) (fun zs => decide (¬ (nI zs >>> (za &&& 31)) &&& 1 = 0)) m zk (i + 1)))), none, some (.int (nI (i + 1)))]) (by rw [ow_n (fun z => bI_0.mp zc62 z.2)]) ?_
          exact ih (i + 1) (by omega)
        · -- eq at 62: not taken
          refine ev_lload_n (pc := 65) dX6_ordersWith_65 rfl ?_
          refine ev_aload_n (pc := 66) dX6_ordersWith_66 rfl ?_
          refine ev_getR (pc := 67) (q := 23) dX6_ordersWith_67 fX6_18 rfl (wlt hw (by decide)) (wr hw rfl) ?_
          refine ev_iload (pc := 70) dX6_ordersWith_70 rfl ?_
          refine ev_iald (pc := 72) dX6_ordersWith_72 rfl (wlt hw (by decide)) (vp_in_nI (by have z1 := pw_le hm2; omega) (by decide)) ?_
          refine ev_eqI (e' := h.2.1 23 i) (by rw [show Int32.toNatClampNeg (nI i) = i from nI_clamp (by have z1 := pw_le hm2; omega)] <;> rfl) ?_
          refine ev_eqI (e' := nI (dW (fopB (h.2.1 22) 0 (-4)) m i)) (hT.1 i hlt) ?_
          refine ev_i2l (pc := 73) dX6_ordersWith_73 ?_
          refine ev_aload_n (pc := 74) dX6_ordersWith_74 rfl ?_
          refine ev_getR (pc := 75) (q := 24) dX6_ordersWith_75 fX6_21 rfl (wlt hw (by decide)) (wr hw rfl) ?_
          refine ev_iload (pc := 78) dX6_ordersWith_78 rfl ?_
          refine ev_iconst (pc := 80) (v := 1) dX6_ordersWith_80 (by decide) ?_
          refine ev_iload_n (pc := 81) dX6_ordersWith_81 rfl ?_
          refine ev_ishl (pc := 82) dX6_ordersWith_82 ?_
          refine ev_ior (pc := 83) dX6_ordersWith_83 ?_
          refine ev_eqI (e' := nI (i ||| 2 ^ zk)) (by rw [sh_pow zk (by omega)]; exact fa_or _ _) ?_
          refine ev_iald (pc := 84) dX6_ordersWith_84 rfl (wlt hw (by decide)) (vp_in_nI (by have z1 := pw_le hm2; have z2 := or_lt hlt hk; omega) (by decide)) ?_
          refine ev_eqI (e' := h.2.1 24 (i ||| 2 ^ zk)) (by rw [show Int32.toNatClampNeg (nI (i ||| 2 ^ zk)) = (i ||| 2 ^ zk) from nI_clamp (by have z1 := pw_le hm2; have z2 := or_lt hlt hk; omega)] <;> rfl) ?_
          refine ev_i2l (pc := 85) dX6_ordersWith_85 ?_
          refine ev_lmul (pc := 86) dX6_ordersWith_86 ?_
          refine ev_ladd (pc := 87) dX6_ordersWith_87 ?_
          refine ev_lstore_n (pc := 88) (L' := [some (.ref 20), some (.int za), some (.int (nI zk)), some (.long ((lN (owN (fopB (h.2.1 22) 0 (-4)) (fun zs => decide (¬ (nI zs >>> (za &&& 31)) &&& 1 = 0)) m zk i)) + ((Int32.toInt64 (nI (dW (fopB (h.2.1 22) 0 (-4)) m i))) * (Int32.toInt64 (h.2.1 24 (i ||| 2 ^ zk)))))), none, some (.int (nI i))]) dX6_ordersWith_88 (Nat.le_of_ble_eq_true rfl) rfl ?_
          refine ev_iinc (pc := 89) (v := nI (i + 1)) (L' := [some (.ref 20), some (.int za), some (.int (nI zk)), some (.long ((lN (owN (fopB (h.2.1 22) 0 (-4)) (fun zs => decide (¬ (nI zs >>> (za &&& 31)) &&& 1 = 0)) m zk i)) + ((Int32.toInt64 (nI (dW (fopB (h.2.1 22) 0 (-4)) m i))) * (Int32.toInt64 (h.2.1 24 (i ||| 2 ^ zk)))))), none, some (.int (nI (i + 1)))]) dX6_ordersWith_89 rfl (nI_1 _) (Nat.le_of_ble_eq_true rfl) rfl ?_
          refine ev_goto (pc := 92) (tgt := 25) dX6_ordersWith_92 (by decide) ?_
          refine ev_eqL (L' := [some (.ref 20), some (.int za), some (.int (nI zk)), some (.long (lN (owN (fopB (h.2.1 22) 0 (-4)) (fun zs => decide (¬ (nI zs >>> (za &&& 31)) &&& 1 = 0)) m zk (i + 1)))), none, some (.int (nI (i + 1)))]) (by rw [ow_p ⟨decide_eq_true (bI_n0.mp zc52), bI_n0.mp zc62⟩, hT.2 _ (or_lt hlt hk) (by have z1 := nI_n0 (by have z1 := dW_12 (fop_ok (h.2.1 22) 0 (-4) hm2) hm2 (show i < 2 ^ m from hlt); omega) zc43; have z2 := dW_next (fop_ok (h.2.1 22) 0 (-4) hm2) hlt hk (bI_n0.mp zc62); omega), nI_l (by have z1 := dW_12 (fop_ok (h.2.1 22) 0 (-4) hm2) hm2 (show i < 2 ^ m from hlt); omega), nI_l (by have z1 := wW_12 (fop_ok (h.2.1 22) 0 (-4) hm2) hm2 (or_lt hlt hk); omega), lN_mul, lN_add]) ?_
          exact ih (i + 1) (by omega)
theorem cn_X6_ordersWith (E : ME) (h : AH) (za zb : Int32) (m : Nat) (hw : WF h) (hm : h.2.1 20 4 = nI m) (hm2 : m ≤ 12) (hc : CWz h m) : Con E mX6_ordersWith 3 0 0 [.ref 20, .int za, .int zb] h (fun r h' => r = some (.long (if 0 ≤ zb ∧ zb ≤ nI m - 1 then lN (owN (fopB (h.2.1 22) 0 (-4)) (fun zs => decide (¬ (nI zs >>> (za &&& 31)) &&& 1 = 0)) m zb.toNatClampNeg (2 ^ m)) else 0)) ∧ h' = cwH h m) := by
  refine con_of2 (L := [some (.ref 20), some (.int za), some (.int zb), none, none, none]) rfl (Nat.le_of_ble_eq_true rfl) rfl ?_
  refine ev_aload_n (pc := 0) dX6_ordersWith_0 rfl ?_
  refine ev_callV0 (S := []) (pc := 1) dX6_ordersWith_1 kX6_countWays lX6_63 vX6_countWays (cn_X6_countWays E h m hw hm hm2) rfl rfl (wlt hw (by decide)) rfl rfl (Nat.le_of_ble_eq_true rfl) ⟨Nat.le_of_ble_eq_true rfl, Nat.le_of_ble_eq_true rfl⟩ ⟨Nat.le_of_ble_eq_true rfl, Nat.le_of_ble_eq_true rfl⟩ ?_
  refine ev_eqH (h' := (cwH h m)) rfl ?_
  refine ev_iload_n (pc := 4) dX6_ordersWith_4 rfl ?_
  refine ev_iconst (pc := 5) (v := 0) dX6_ordersWith_5 (by decide) ?_
  refine ev_aload_n (pc := 6) dX6_ordersWith_6 rfl ?_
  refine ev_getI (pc := 7) dX6_ordersWith_7 fX6_36 rfl (wlt (wf_cw hw) (by decide)) ?_
  refine ev_eqI (e' := nI m) (cw_m hm) ?_
  refine ev_iconst (pc := 10) (v := 1) dX6_ordersWith_10 (by decide) ?_
  refine ev_isub (pc := 11) dX6_ordersWith_11 ?_
  refine ev_callSv (S := []) (pc := 12) dX6_ordersWith_12 kX10_within lX6_50 sX10_within (cn_X10_within E (cwH h m) zb 0 ((nI m) - 1)) rfl rfl (Nat.le_of_ble_eq_true rfl) ⟨Nat.le_of_ble_eq_true rfl, Nat.le_of_ble_eq_true rfl⟩ ⟨Nat.le_of_ble_eq_true rfl, Nat.le_of_ble_eq_true rfl⟩ ?_
  refine ev_if_ne (pc := 15) (tgt := 20) dX6_ordersWith_15 (by decide) (fun zc15 => ?_) (fun zc15 => ?_)
  · -- ne at 15: taken
    obtain ⟨zk, hk, rfl⟩ := th_nat (bI_n0.mp zc15) (by omega : m ≤ 4096)
    refine ev_lconst (pc := 20) (v := 0) dX6_ordersWith_20 (by decide) ?_
    refine ev_lstore_n (pc := 21) (L' := [some (.ref 20), some (.int za), some (.int (nI zk)), some (.long 0), none, none]) dX6_ordersWith_21 (Nat.le_of_ble_eq_true rfl) rfl ?_
    refine ev_iconst (pc := 22) (v := 0) dX6_ordersWith_22 (by decide) ?_
    refine ev_istore (pc := 23) (L' := [some (.ref 20), some (.int za), some (.int (nI zk)), some (.long 0), none, some (.int 0)]) dX6_ordersWith_23 (Nat.le_of_ble_eq_true rfl) rfl ?_
    refine lp_ow_25 E (cwH h m) m zk za (wf_cw hw) (cw_m hm) hm2 hk (cw_t hm2 hc) ?_ (2 ^ m) 0 (Nat.zero_add _)
    refine ev_lload_n (pc := 95) dX6_ordersWith_95 rfl ?_
    refine ev_lret (pc := 96) dX6_ordersWith_96 rfl ?_
    · refine ⟨?_, rfl⟩
      rw [if_pos (bI_n0.mp zc15), cw_22, nI_clamp (by omega)]
  · -- ne at 15: not taken
    refine ev_lconst (pc := 18) (v := 0) dX6_ordersWith_18 (by decide) ?_
    refine ev_lret (pc := 19) dX6_ordersWith_19 rfl ?_
    · refine ⟨?_, rfl⟩
      rw [if_neg (bI_0.mp zc15)]
theorem lp_ta_37 (E : ME) (h : AH) (m zs zl0 : Nat) (zx : Int64) (zi zr : Int32) (hw : WF h) (hm : h.2.1 20 4 = nI m) (hm2 : m ≤ 12) (hs : zs < 2 ^ m - 1) (hd : 1 ≤ dW (fopB (h.2.1 22) 0 (-4)) m zs) (hT : CWt h m) {post : PO} (K : Ev E mX6_thingAt (rmm 3 0 0) (QM E 0 0 post) 0 0 106 [some (.ref 20), some (.long zx), none, some (.int zi), some (.long (lN (pkF (gW (fopB (h.2.1 22) 0 (-4)) m zs) m 0 zl0).2)), none, some (.int (nI zs)), some (.int (nI (pkF (gW (fopB (h.2.1 22) 0 (-4)) m zs) m 0 zl0).1)), some (.int zr), none, none] [] h) : ∀ zf zt zl, zt + zf = m → zl + fb_sm (gW (fopB (h.2.1 22) 0 (-4)) m zs) zt < fb_sm (gW (fopB (h.2.1 22) 0 (-4)) m zs) m → pkF (gW (fopB (h.2.1 22) 0 (-4)) m zs) zf zt zl = pkF (gW (fopB (h.2.1 22) 0 (-4)) m zs) m 0 zl0 → Ev E mX6_thingAt (rmm 3 0 0) (QM E 0 0 post) 0 0 37 [some (.ref 20), some (.long zx), none, some (.int zi), some (.long (lN zl)), none, some (.int (nI zs)), some (.int ((-1))), some (.int zr), some (.int (nI zt)), none] [] h := by
  intro zf
  induction zf with
  | zero =>
    intro zt zl h1 h2
    exfalso
    rw [Nat.add_zero] at h1
    rw [h1] at h2
    omega
  | succ zf ih =>
    intro zt zl h1 h2 h3
    have z1 := pw_le hm2
    have hs0 : zs < 2 ^ m := by omega
    have ht0 : zt < m := by omega
    have zor := or_lt hs0 ht0
    have zwb := wW_12 (fop_ok (h.2.1 22) 0 (-4) hm2) hm2 zor
    have zsb : fb_sm (gW (fopB (h.2.1 22) 0 (-4)) m zs) m ≤ 479001600 := by
      have z9 := wW_12 (fop_ok (h.2.1 22) 0 (-4) hm2) hm2 hs0
      rw [wW_eq (fop_ok (h.2.1 22) 0 (-4) hm2) hs] at z9
      exact z9
    have zfp : ∀ zb : Bool, fopB (h.2.1 22) 0 (-4) zs zt = zb → gW (fopB (h.2.1 22) 0 (-4)) m zs zt = if zb then wW (fopB (h.2.1 22) 0 (-4)) m (zs ||| 2 ^ zt) else 0 := fun zb hb => by unfold gW; rw [hb]
    refine ev_iload (pc := 37) dX6_thingAt_37 rfl ?_
    refine ev_aload_n (pc := 39) dX6_thingAt_39 rfl ?_
    refine ev_getI (pc := 40) dX6_thingAt_40 fX6_36 rfl (wlt hw (by decide)) ?_
    refine ev_eqI (e' := nI m) hm ?_
    refine ev_icmp_ge (pc := 43) (tgt := 106) dX6_thingAt_43 (by decide) (fun zc43 => absurd zc43 (nI_ge ht0 (by omega))) (fun zc43 => ?_)
    refine ev_iload (pc := 46) dX6_thingAt_46 rfl ?_
    refine ev_if_ge (pc := 48) (tgt := 106) dX6_thingAt_48 (by decide) (fun zc48 => absurd zc48 (by decide)) (fun zc48 => ?_)
    refine ev_aload_n (pc := 51) dX6_thingAt_51 rfl ?_
    refine ev_iload (pc := 52) dX6_thingAt_52 rfl ?_
    refine ev_iload (pc := 54) dX6_thingAt_54 rfl ?_
    refine ev_callVv (S := []) (pc := 56) dX6_thingAt_56 kX6_mayFollow lX6_60 vX6_mayFollow (cn_X6_mayFollow E h zs zt hw (by omega)) rfl rfl (wlt hw (by decide)) rfl rfl (Nat.le_of_ble_eq_true rfl) ⟨Nat.le_of_ble_eq_true rfl, Nat.le_of_ble_eq_true rfl⟩ ⟨Nat.le_of_ble_eq_true rfl, Nat.le_of_ble_eq_true rfl⟩ ?_
    refine ev_if_eq (pc := 59) (tgt := 100) dX6_thingAt_59 (by decide) (fun zc59 => ?_) (fun zc59 => ?_)
    · -- eq at 59: taken
      refine ev_iinc (pc := 100) (v := nI (zt + 1)) (L' := [some (.ref 20), some (.long zx), none, some (.int zi), some (.long (lN zl)), none, some (.int (nI zs)), some (.int ((-1))), some (.int zr), some (.int (nI (zt + 1))), none]) dX6_thingAt_100 rfl (nI_1 _) (Nat.le_of_ble_eq_true rfl) rfl ?_
      refine ev_goto (pc := 103) (tgt := 37) dX6_thingAt_103 (by decide) ?_
      have zb0 : fopB (h.2.1 22) 0 (-4) zs zt = false := ts_nt (bI_0.mp zc59)
      have zge := zfp false zb0
      rw [if_neg (by decide)] at zge
      rw [pk_nx (by rw [zge]; exact Nat.not_lt_zero _), zge, Nat.sub_zero] at h3
      refine ev_less (L' := [some (.ref 20), some (.long zx), none, some (.int zi), some (.long (lN zl)), none, some (.int (nI zs)), some (.int ((-1))), some (.int zr), some (.int (nI (zt + 1))), none]) (ls_keep (ls_keep (ls_keep (ls_keep (ls_keep (ls_keep (ls_keep (ls_keep (ls_keep (ls_keep (ls_keep (ls_nil _)))))))))))) ?_
      exact ih (zt + 1) _ (by omega) (by rw [fb_sm_succ, zge]; omega) h3
    · -- eq at 59: not taken
      refine ev_aload_n (pc := 62) dX6_thingAt_62 rfl ?_
      refine ev_getR (pc := 63) (q := 24) dX6_thingAt_63 fX6_21 rfl (wlt hw (by decide)) (wr hw rfl) ?_
      refine ev_iload (pc := 66) dX6_thingAt_66 rfl ?_
      refine ev_iconst (pc := 68) (v := 1) dX6_thingAt_68 (by decide) ?_
      refine ev_iload (pc := 69) dX6_thingAt_69 rfl ?_
      refine ev_ishl (pc := 71) dX6_thingAt_71 ?_
      refine ev_ior (pc := 72) dX6_thingAt_72 ?_
      refine ev_eqI (e' := nI (zs ||| 2 ^ zt)) (by rw [sh_pow zt (by omega)]; exact fa_or _ _) ?_
      refine ev_iald (pc := 73) dX6_thingAt_73 rfl (wlt hw (by decide)) (vp_in_nI (by omega) (by decide)) ?_
      refine ev_eqI (e' := h.2.1 24 (zs ||| 2 ^ zt)) (by rw [show Int32.toNatClampNeg (nI (zs ||| 2 ^ zt)) = (zs ||| 2 ^ zt) from nI_clamp (by omega)] <;> rfl) ?_
      refine ev_eqI (e' := nI (wW (fopB (h.2.1 22) 0 (-4)) m (zs ||| 2 ^ zt))) (hT.2 _ zor (by have z9 := dW_next (fop_ok (h.2.1 22) 0 (-4) hm2) hs0 ht0 (bI_n0.mp zc59); omega)) ?_
      refine ev_istore (pc := 74) (L' := [some (.ref 20), some (.long zx), none, some (.int zi), some (.long (lN zl)), none, some (.int (nI zs)), some (.int ((-1))), some (.int zr), some (.int (nI zt)), some (.int (nI (wW (fopB (h.2.1 22) 0 (-4)) m (zs ||| 2 ^ zt))))]) dX6_thingAt_74 (Nat.le_of_ble_eq_true rfl) rfl ?_
      refine ev_lload (pc := 76) dX6_thingAt_76 rfl ?_
      refine ev_iload (pc := 78) dX6_thingAt_78 rfl ?_
      refine ev_i2l (pc := 80) dX6_thingAt_80 ?_
      refine ev_lcmp (pc := 81) dX6_thingAt_81 ?_
      refine ev_if_ge (pc := 82) (tgt := 92) dX6_thingAt_82 (by decide) (fun zc82 => ?_) (fun zc82 => ?_)
      · -- ge at 82: taken
        refine ev_lload (pc := 92) dX6_thingAt_92 rfl ?_
        refine ev_iload (pc := 94) dX6_thingAt_94 rfl ?_
        refine ev_i2l (pc := 96) dX6_thingAt_96 ?_
        refine ev_lsub (pc := 97) dX6_thingAt_97 ?_
        refine ev_lstore (pc := 98) (L' := [some (.ref 20), some (.long zx), none, some (.int zi), some (.long ((lN zl) - (Int32.toInt64 (nI (wW (fopB (h.2.1 22) 0 (-4)) m (zs ||| 2 ^ zt)))))), none, some (.int (nI zs)), some (.int ((-1))), some (.int zr), some (.int (nI zt)), some (.int (nI (wW (fopB (h.2.1 22) 0 (-4)) m (zs ||| 2 ^ zt))))]) dX6_thingAt_98 (Nat.le_of_ble_eq_true rfl) rfl ?_
        refine ev_iinc (pc := 100) (v := nI (zt + 1)) (L' := [some (.ref 20), some (.long zx), none, some (.int zi), some (.long ((lN zl) - (Int32.toInt64 (nI (wW (fopB (h.2.1 22) 0 (-4)) m (zs ||| 2 ^ zt)))))), none, some (.int (nI zs)), some (.int ((-1))), some (.int zr), some (.int (nI (zt + 1))), some (.int (nI (wW (fopB (h.2.1 22) 0 (-4)) m (zs ||| 2 ^ zt))))]) dX6_thingAt_100 rfl (nI_1 _) (Nat.le_of_ble_eq_true rfl) rfl ?_
        refine ev_goto (pc := 103) (tgt := 37) dX6_thingAt_103 (by decide) ?_
        have zb1 := bI_n0.mp zc59
        have zge := zfp true zb1
        rw [if_pos rfl] at zge
        have zcl : ¬ zl < wW (fopB (h.2.1 22) 0 (-4)) m (zs ||| 2 ^ zt) := by
          have z8 : (0 : Int32) ≤ lg_cmp (lN zl) (lN (wW (fopB (h.2.1 22) 0 (-4)) m (zs ||| 2 ^ zt))) := by
            have z7 := zc82
            rw [nI_l (by omega)] at z7
            exact z7
          rw [← i_lt2, lc_lt, pk_lLT (by omega) (by omega)] at z8
          exact z8
        rw [pk_nx (by rw [zge]; exact zcl), zge] at h3
        refine ev_less (L' := [some (.ref 20), some (.long zx), none, some (.int zi), some (.long ((lN zl) - (Int32.toInt64 (nI (wW (fopB (h.2.1 22) 0 (-4)) m (zs ||| 2 ^ zt)))))), none, some (.int (nI zs)), some (.int ((-1))), some (.int zr), some (.int (nI (zt + 1))), none]) (ls_keep (ls_keep (ls_keep (ls_keep (ls_keep (ls_keep (ls_keep (ls_keep (ls_keep (ls_keep (ls_drop (ls_nil _)))))))))))) ?_
        refine ev_eqL (L' := [some (.ref 20), some (.long zx), none, some (.int zi), some (.long (lN (zl - wW (fopB (h.2.1 22) 0 (-4)) m (zs ||| 2 ^ zt)))), none, some (.int (nI zs)), some (.int ((-1))), some (.int zr), some (.int (nI (zt + 1))), none]) (by rw [nI_l (by omega), lN_sub (by omega)]) ?_
        exact ih (zt + 1) _ (by omega) (by rw [fb_sm_succ, zge]; omega) h3
      · -- ge at 82: not taken
        refine ev_iload (pc := 85) dX6_thingAt_85 rfl ?_
        refine ev_istore (pc := 87) (L' := [some (.ref 20), some (.long zx), none, some (.int zi), some (.long (lN zl)), none, some (.int (nI zs)), some (.int (nI zt)), some (.int zr), some (.int (nI zt)), some (.int (nI (wW (fopB (h.2.1 22) 0 (-4)) m (zs ||| 2 ^ zt))))]) dX6_thingAt_87 (Nat.le_of_ble_eq_true rfl) rfl ?_
        refine ev_goto (pc := 89) (tgt := 100) dX6_thingAt_89 (by decide) ?_
        refine ev_iinc (pc := 100) (v := nI (zt + 1)) (L' := [some (.ref 20), some (.long zx), none, some (.int zi), some (.long (lN zl)), none, some (.int (nI zs)), some (.int (nI zt)), some (.int zr), some (.int (nI (zt + 1))), some (.int (nI (wW (fopB (h.2.1 22) 0 (-4)) m (zs ||| 2 ^ zt))))]) dX6_thingAt_100 rfl (nI_1 _) (Nat.le_of_ble_eq_true rfl) rfl ?_
        refine ev_goto (pc := 103) (tgt := 37) dX6_thingAt_103 (by decide) ?_
        have zb1 := bI_n0.mp zc59
        have zge := zfp true zb1
        rw [if_pos rfl] at zge
        have zcl : zl < wW (fopB (h.2.1 22) 0 (-4)) m (zs ||| 2 ^ zt) := by
          have z8 : ¬ (0 : Int32) ≤ lg_cmp (lN zl) (lN (wW (fopB (h.2.1 22) 0 (-4)) m (zs ||| 2 ^ zt))) := by
            have z7 := zc82
            rw [nI_l (by omega)] at z7
            exact z7
          rw [i_le2, lc_lt, pk_lLT (by omega) (by omega)] at z8
          exact z8
        rw [pk_st (by rw [zge]; exact zcl)] at h3
        rw [← h3] at K
        refine ev_iload (pc := 37) dX6_thingAt_37 rfl ?_
        refine ev_aload_n (pc := 39) dX6_thingAt_39 rfl ?_
        refine ev_getI (pc := 40) dX6_thingAt_40 fX6_36 rfl (wlt hw (by decide)) ?_
        refine ev_eqI (e' := nI m) hm ?_
        refine ev_icmp_ge (pc := 43) (tgt := 106) dX6_thingAt_43 (by decide) (fun zc43 => ?_) (fun zc43 => ?_)
        · -- ge at 43: taken
          refine ev_less (L' := [some (.ref 20), some (.long zx), none, some (.int zi), some (.long (lN zl)), none, some (.int (nI zs)), some (.int (nI zt)), some (.int zr), none, none]) (ls_keep (ls_keep (ls_keep (ls_keep (ls_keep (ls_keep (ls_keep (ls_keep (ls_keep (ls_drop (ls_drop (ls_nil _)))))))))))) ?_
          exact K
        · -- ge at 43: not taken
          refine ev_iload (pc := 46) dX6_thingAt_46 rfl ?_
          refine ev_if_ge (pc := 48) (tgt := 106) dX6_thingAt_48 (by decide) (fun zc48 => ?_) (fun zc48 => absurd (nI_pos' (by omega)) zc48)
          refine ev_less (L' := [some (.ref 20), some (.long zx), none, some (.int zi), some (.long (lN zl)), none, some (.int (nI zs)), some (.int (nI zt)), some (.int zr), none, none]) (ls_keep (ls_keep (ls_keep (ls_keep (ls_keep (ls_keep (ls_keep (ls_keep (ls_keep (ls_drop (ls_drop (ls_nil _)))))))))))) ?_
          exact K
theorem lp_ta_16 (E : ME) (h : AH) (m zn zk : Nat) (zx : Int64) (zi : Int32) (hw : WF h) (hm : h.2.1 20 4 = nI m) (hm2 : m ≤ 12) (hin : zn < m) (hzi : zi = nI zn) (hk : zk < wW (fopB (h.2.1 22) 0 (-4)) m 0) (hT : CWt h m) {post : PO} (K : Ev E mX6_thingAt (rmm 3 0 0) (QM E 0 0 post) 0 0 128 [some (.ref 20), some (.long zx), none, some (.int zi), some (.long (lN (oS (fopB (h.2.1 22) 0 (-4)) m zk (zn + 1)).2.1)), none, some (.int (nI (oS (fopB (h.2.1 22) 0 (-4)) m zk (zn + 1)).1)), some (.int (oT (fopB (h.2.1 22) 0 (-4)) m zk (zn + 1))), some (.int (nI (zn + 1))), none, none] [] h) : ∀ n i : Nat, i + n = (zn + 1) → Ev E mX6_thingAt (rmm 3 0 0) (QM E 0 0 post) 0 0 16 [some (.ref 20), some (.long zx), none, some (.int zi), some (.long (lN (oS (fopB (h.2.1 22) 0 (-4)) m zk i).2.1)), none, some (.int (nI (oS (fopB (h.2.1 22) 0 (-4)) m zk i).1)), some (.int (oT (fopB (h.2.1 22) 0 (-4)) m zk i)), some (.int (nI i)), none, none] [] h := by
  intro n
  induction n with
  | zero =>
    intro i hi
    obtain rfl : (zn + 1) = i := by omega
    refine ev_iload (pc := 16) dX6_thingAt_16 rfl ?_
    refine ev_iload_n (pc := 18) dX6_thingAt_18 rfl ?_
    refine ev_icmp_gt (pc := 19) (tgt := 128) dX6_thingAt_19 (by decide) (fun zc19 => ?_) (fun zc19 => absurd (by rw [hzi]; exact (nI_ltI (a := zn) (b := zn + 1) (by omega) (by omega)).mpr (by omega)) zc19)
    exact K
  | succ n ih =>
    intro i hi
    have hlt : i < (zn + 1) := by omega
    refine ev_iload (pc := 16) dX6_thingAt_16 rfl ?_
    refine ev_iload_n (pc := 18) dX6_thingAt_18 rfl ?_
    refine ev_icmp_gt (pc := 19) (tgt := 128) dX6_thingAt_19 (by decide) (fun zc19 => absurd zc19 (by rw [hzi]; exact nI_nlt (a := zn) (b := i) (by omega) (by omega))) (fun zc19 => ?_)
    refine ev_iload (pc := 22) dX6_thingAt_22 rfl ?_
    refine ev_aload_n (pc := 24) dX6_thingAt_24 rfl ?_
    refine ev_getI (pc := 25) dX6_thingAt_25 fX6_36 rfl (wlt hw (by decide)) ?_
    refine ev_eqI (e' := nI m) hm ?_
    refine ev_icmp_ge (pc := 28) (tgt := 128) dX6_thingAt_28 (by decide) (fun zc28 => absurd zc28 (nI_ge (show i < m by omega) (by omega))) (fun zc28 => ?_)
    refine ev_iconst (pc := 31) (v := (-1)) dX6_thingAt_31 (by decide) ?_
    refine ev_istore (pc := 32) (L' := [some (.ref 20), some (.long zx), none, some (.int zi), some (.long (lN (oS (fopB (h.2.1 22) 0 (-4)) m zk i).2.1)), none, some (.int (nI (oS (fopB (h.2.1 22) 0 (-4)) m zk i).1)), some (.int ((-1))), some (.int (nI i)), none, none]) dX6_thingAt_32 (Nat.le_of_ble_eq_true rfl) rfl ?_
    refine ev_iconst (pc := 34) (v := 0) dX6_thingAt_34 (by decide) ?_
    refine ev_istore (pc := 35) (L' := [some (.ref 20), some (.long zx), none, some (.int zi), some (.long (lN (oS (fopB (h.2.1 22) 0 (-4)) m zk i).2.1)), none, some (.int (nI (oS (fopB (h.2.1 22) 0 (-4)) m zk i).1)), some (.int ((-1))), some (.int (nI i)), some (.int 0), none]) dX6_thingAt_35 (Nat.le_of_ble_eq_true rfl) rfl ?_
    refine lp_ta_37 E h m (oS (fopB (h.2.1 22) 0 (-4)) m zk i).1 (oS (fopB (h.2.1 22) 0 (-4)) m zk i).2.1 zx zi (nI i) hw hm hm2 (oS_ne (fop_ok _ _ _ hm2) hk (by omega)) (oS_d (fop_ok _ _ _ hm2) hk i (by omega)) hT ?_ m 0 (oS (fopB (h.2.1 22) 0 (-4)) m zk i).2.1 (Nat.zero_add _) (by have z1 := oS_ne (fop_ok (h.2.1 22) 0 (-4) hm2) hk (show i < m by omega); have z2 := (oS_ok (fop_ok (h.2.1 22) 0 (-4) hm2) hk i (by omega)).2.1; rw [wW_eq (fop_ok _ _ _ hm2) z1] at z2; exact z2) rfl
    refine ev_iload (pc := 106) dX6_thingAt_106 rfl ?_
    refine ev_if_ge (pc := 108) (tgt := 113) dX6_thingAt_108 (by decide) (fun zc108 => ?_) (fun zc108 => absurd (nI_pos' (by have z1 := oS_pick (fop_ok (h.2.1 22) 0 (-4) hm2) (oS_ne (fop_ok (h.2.1 22) 0 (-4) hm2) hk (show i < m by omega)) (oS_ok (fop_ok (h.2.1 22) 0 (-4) hm2) hk i (by omega)).2.1; omega)) zc108)
    refine ev_iload (pc := 113) dX6_thingAt_113 rfl ?_
    refine ev_iconst (pc := 115) (v := 1) dX6_thingAt_115 (by decide) ?_
    refine ev_iload (pc := 116) dX6_thingAt_116 rfl ?_
    refine ev_ishl (pc := 118) dX6_thingAt_118 ?_
    refine ev_ior (pc := 119) dX6_thingAt_119 ?_
    refine ev_eqI (e' := nI (oS (fopB (h.2.1 22) 0 (-4)) m zk (i + 1)).1) (by rw [sh_pow _ (by have z1 := oS_pick (fop_ok (h.2.1 22) 0 (-4) hm2) (oS_ne (fop_ok (h.2.1 22) 0 (-4) hm2) hk (show i < m by omega)) (oS_ok (fop_ok (h.2.1 22) 0 (-4) hm2) hk i (by omega)).2.1; omega)]; exact fa_or _ _) ?_
    refine ev_istore (pc := 120) (L' := [some (.ref 20), some (.long zx), none, some (.int zi), some (.long (lN (pkF (gW (fopB (h.2.1 22) 0 (-4)) m (oS (fopB (h.2.1 22) 0 (-4)) m zk i).1) m 0 (oS (fopB (h.2.1 22) 0 (-4)) m zk i).2.1).2)), none, some (.int (nI (oS (fopB (h.2.1 22) 0 (-4)) m zk (i + 1)).1)), some (.int (nI (pkF (gW (fopB (h.2.1 22) 0 (-4)) m (oS (fopB (h.2.1 22) 0 (-4)) m zk i).1) m 0 (oS (fopB (h.2.1 22) 0 (-4)) m zk i).2.1).1)), some (.int (nI i)), none, none]) dX6_thingAt_120 (Nat.le_of_ble_eq_true rfl) rfl ?_
    refine ev_iinc (pc := 122) (v := nI (i + 1)) (L' := [some (.ref 20), some (.long zx), none, some (.int zi), some (.long (lN (pkF (gW (fopB (h.2.1 22) 0 (-4)) m (oS (fopB (h.2.1 22) 0 (-4)) m zk i).1) m 0 (oS (fopB (h.2.1 22) 0 (-4)) m zk i).2.1).2)), none, some (.int (nI (oS (fopB (h.2.1 22) 0 (-4)) m zk (i + 1)).1)), some (.int (nI (pkF (gW (fopB (h.2.1 22) 0 (-4)) m (oS (fopB (h.2.1 22) 0 (-4)) m zk i).1) m 0 (oS (fopB (h.2.1 22) 0 (-4)) m zk i).2.1).1)), some (.int (nI (i + 1))), none, none]) dX6_thingAt_122 rfl (nI_1 _) (Nat.le_of_ble_eq_true rfl) rfl ?_
    refine ev_goto (pc := 125) (tgt := 16) dX6_thingAt_125 (by decide) ?_
    exact ih (i + 1) (by omega)
theorem cn_X6_thingAt (E : ME) (h : AH) (zk zn m : Nat) (hw : WF h) (hm : h.2.1 20 4 = nI m) (hm2 : m ≤ 12) (hc : CWz h m) (hn : zn < m) (hk : zk < wW (fopB (h.2.1 22) 0 (-4)) m 0) : Con E mX6_thingAt 3 0 0 [.ref 20, .long (lN zk), .int (nI zn)] h (fun r h' => r = some (.int ((oS (fopB (h.2.1 22) 0 (-4)) m zk (zn + 1)).2.2)) ∧ h' = cwH h m) := by
  refine con_of2 (L := [some (.ref 20), some (.long (lN zk)), none, some (.int (nI zn)), none, none, none, none, none, none, none]) rfl (Nat.le_of_ble_eq_true rfl) rfl ?_
  refine ev_aload_n (pc := 0) dX6_thingAt_0 rfl ?_
  refine ev_callV0 (S := []) (pc := 1) dX6_thingAt_1 kX6_countWays lX6_63 vX6_countWays (cn_X6_countWays E h m hw hm hm2) rfl rfl (wlt hw (by decide)) rfl rfl (Nat.le_of_ble_eq_true rfl) ⟨Nat.le_of_ble_eq_true rfl, Nat.le_of_ble_eq_true rfl⟩ ⟨Nat.le_of_ble_eq_true rfl, Nat.le_of_ble_eq_true rfl⟩ ?_
  refine ev_eqH (h' := (cwH h m)) rfl ?_
  refine ev_lload_n (pc := 4) dX6_thingAt_4 rfl ?_
  refine ev_lstore (pc := 5) (L' := [some (.ref 20), some (.long (lN zk)), none, some (.int (nI zn)), some (.long (lN zk)), none, none, none, none, none, none]) dX6_thingAt_5 (Nat.le_of_ble_eq_true rfl) rfl ?_
  refine ev_iconst (pc := 7) (v := 0) dX6_thingAt_7 (by decide) ?_
  refine ev_istore (pc := 8) (L' := [some (.ref 20), some (.long (lN zk)), none, some (.int (nI zn)), some (.long (lN zk)), none, some (.int 0), none, none, none, none]) dX6_thingAt_8 (Nat.le_of_ble_eq_true rfl) rfl ?_
  refine ev_iconst (pc := 10) (v := (-1)) dX6_thingAt_10 (by decide) ?_
  refine ev_istore (pc := 11) (L' := [some (.ref 20), some (.long (lN zk)), none, some (.int (nI zn)), some (.long (lN zk)), none, some (.int 0), some (.int ((-1))), none, none, none]) dX6_thingAt_11 (Nat.le_of_ble_eq_true rfl) rfl ?_
  refine ev_iconst (pc := 13) (v := 0) dX6_thingAt_13 (by decide) ?_
  refine ev_istore (pc := 14) (L' := [some (.ref 20), some (.long (lN zk)), none, some (.int (nI zn)), some (.long (lN zk)), none, some (.int 0), some (.int ((-1))), some (.int 0), none, none]) dX6_thingAt_14 (Nat.le_of_ble_eq_true rfl) rfl ?_
  refine lp_ta_16 E (cwH h m) m zn zk (lN zk) (nI zn) (wf_cw hw) (cw_m hm) hm2 hn rfl (by rw [cw_22]; exact hk) (cw_t hm2 hc) ?_ (zn + 1) 0 (Nat.zero_add _)
  refine ev_iload (pc := 128) dX6_thingAt_128 rfl ?_
  refine ev_iret (pc := 130) dX6_thingAt_130 rfl ?_ ?_
  · rfl
  · refine ⟨?_, rfl⟩
    rw [oT, cw_22]
