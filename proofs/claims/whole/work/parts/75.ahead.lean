theorem and1_01 (zx : Int32) : zx &&& 1 = 0 ∨ zx &&& 1 = 1 := by
  have h : ∀ zb : Bool, (if zb then (1 : Int32) else 0) = 0 ∨ (if zb then (1 : Int32) else 0) = 1 := by decide
  have e : zx &&& 1 = if bt zx 0 then 1 else 0 := by
    apply b_ext
    intro zi hi
    rw [b_and, bt_one zi hi]
    by_cases e0 : zi = 0
    · subst e0
      cases bt zx 0 <;> decide
    · rw [decide_eq_false e0, Bool.and_false]
      cases bt zx 0
      · exact (b_0 zi).symm
      · exact (by rw [if_pos rfl, bt_one zi hi, decide_eq_false e0])
  rw [e]
  exact h _
theorem has_1 (zx : Int32) : ¬ zx &&& 1 = 0 ↔ zx &&& 1 = 1 := by
  rcases and1_01 zx with z | z
  · rw [z]; decide
  · rw [z]; decide
theorem rg_has {bf : Nat → Int32} {zt : Nat} (ht : zt < 32) : (if ¬ (bf zt >>> (nI zt &&& 31)) &&& 1 = 0 then (1 : Int32) <<< (nI zt &&& 31) else 0) = bf zt &&& (1 <<< (nI zt &&& 31)) := by
  apply b_ext
  intro zi hi
  rw [b_and, bt_sh ht zi hi]
  by_cases h : (bf zt >>> (nI zt &&& 31)) &&& 1 = 0
  · rw [if_neg (fun z => z h), b_0]
    by_cases e : zi = zt
    · subst e; rw [(sh1_0 _ ht).mp h]; rfl
    · rw [decide_eq_false e, Bool.and_false]
  · rw [if_pos h, bt_sh ht zi hi]
    by_cases e : zi = zt
    · subst e
      rw [ts_nf (fun z => h ((sh1_0 _ ht).mpr z))]; rfl
    · rw [decide_eq_false e, Bool.and_false]
theorem cn_X6_aheadOf (E : ME) (h : AH) (zi : Int32) (m : Nat) (hw : WF h) (hm : h.2.1 20 4 = nI m) (hm2 : m ≤ 12) : Con E mX6_aheadOf 1 0 0 [.ref 20, .int zi] h (fun r h' => r = some (.int (if 0 ≤ zi ∧ zi ≤ nI m - 1 then h.2.1 22 zi.toNatClampNeg else 0)) ∧ h' = h) := by
  refine con_of2 (L := [some (.ref 20), some (.int zi)]) rfl (Nat.le_of_ble_eq_true rfl) rfl ?_
  refine ev_iload_n (pc := 0) dX6_aheadOf_0 rfl ?_
  refine ev_iconst (pc := 1) (v := 0) dX6_aheadOf_1 (by decide) ?_
  refine ev_aload_n (pc := 2) dX6_aheadOf_2 rfl ?_
  refine ev_getI (pc := 3) dX6_aheadOf_3 fX6_36 rfl (wlt hw (by decide)) ?_
  refine ev_eqI (e' := nI m) hm ?_
  refine ev_iconst (pc := 6) (v := 1) dX6_aheadOf_6 (by decide) ?_
  refine ev_isub (pc := 7) dX6_aheadOf_7 ?_
  refine ev_callSv (S := []) (pc := 8) dX6_aheadOf_8 kX10_within lX6_50 sX10_within (cn_X10_within E h zi 0 ((nI m) - 1)) rfl rfl (Nat.le_of_ble_eq_true rfl) ⟨Nat.le_of_ble_eq_true rfl, Nat.le_of_ble_eq_true rfl⟩ ⟨Nat.le_of_ble_eq_true rfl, Nat.le_of_ble_eq_true rfl⟩ ?_
  refine ev_if_eq (pc := 11) (tgt := 23) dX6_aheadOf_11 (by decide) (fun zc11 => ?_) (fun zc11 => ?_)
  · -- eq at 11: taken
    refine ev_iconst (pc := 23) (v := 0) dX6_aheadOf_23 (by decide) ?_
    refine ev_iret (pc := 24) dX6_aheadOf_24 rfl ?_ ?_
    · rfl
    · refine ⟨?_, rfl⟩
      rw [if_neg (bI_0.mp zc11)]
  · -- eq at 11: not taken
    refine ev_aload_n (pc := 14) dX6_aheadOf_14 rfl ?_
    refine ev_getR (pc := 15) (q := 22) dX6_aheadOf_15 fX6_15 rfl (wlt hw (by decide)) (wr hw rfl) ?_
    refine ev_iload_n (pc := 18) dX6_aheadOf_18 rfl ?_
    refine ev_iald (pc := 19) dX6_aheadOf_19 rfl (wlt hw (by decide)) (vp_th 12 (bI_n0.mp zc11).1 (bI_n0.mp zc11).2 hm2 (by decide)) ?_
    refine ev_goto (pc := 20) (tgt := 24) dX6_aheadOf_20 (by decide) ?_
    refine ev_iret (pc := 24) dX6_aheadOf_24 rfl ?_ ?_
    · rfl
    · refine ⟨?_, rfl⟩
      rw [if_pos (bI_n0.mp zc11)]
theorem lp_cbehind (E : ME) (h : AH) (m : Nat) (zt : Int32) (hw : WF h) (hm : h.2.1 20 4 = nI m) (hm2 : m ≤ 12) {post : PO} (K : Ev E mX6_behind (rmm 1 0 0) (QM E 0 0 post) 0 0 37 [some (.ref 20), some (.int zt), some (.int (bhF (h.2.1 22) zt m)), some (.int (nI m))] [] h) : ∀ n i : Nat, i + n = m → Ev E mX6_behind (rmm 1 0 0) (QM E 0 0 post) 0 0 4 [some (.ref 20), some (.int zt), some (.int (bhF (h.2.1 22) zt i)), some (.int (nI i))] [] h := by
  intro n
  induction n with
  | zero =>
    intro i hi
    obtain rfl : m = i := by omega
    refine ev_iload_n (pc := 4) dX6_behind_4 rfl ?_
    refine ev_aload_n (pc := 5) dX6_behind_5 rfl ?_
    refine ev_getI (pc := 6) dX6_behind_6 fX6_36 rfl (wlt hw (by decide)) ?_
    refine ev_eqI (e' := nI m) hm ?_
    refine ev_icmp_ge (pc := 9) (tgt := 37) dX6_behind_9 (by decide) (fun zc9 => ?_) (fun zc9 => absurd (nI_le (Nat.le_refl _) (by omega)) zc9)
    exact K
  | succ n ih =>
    intro i hi
    have hlt : i < m := by omega
    refine ev_iload_n (pc := 4) dX6_behind_4 rfl ?_
    refine ev_aload_n (pc := 5) dX6_behind_5 rfl ?_
    refine ev_getI (pc := 6) dX6_behind_6 fX6_36 rfl (wlt hw (by decide)) ?_
    refine ev_eqI (e' := nI m) hm ?_
    refine ev_icmp_ge (pc := 9) (tgt := 37) dX6_behind_9 (by decide) (fun zc9 => absurd zc9 (nI_ge hlt (by omega))) (fun zc9 => ?_)
    refine ev_aload_n (pc := 12) dX6_behind_12 rfl ?_
    refine ev_getR (pc := 13) (q := 22) dX6_behind_13 fX6_15 rfl (wlt hw (by decide)) (wr hw rfl) ?_
    refine ev_iload_n (pc := 16) dX6_behind_16 rfl ?_
    refine ev_iald (pc := 17) dX6_behind_17 rfl (wlt hw (by decide)) (vp_in_nI (by omega) (by decide)) ?_
    refine ev_eqI (e' := h.2.1 22 i) (by rw [show Int32.toNatClampNeg (nI i) = i from nI_clamp (by omega)] <;> rfl) ?_
    refine ev_iload_n (pc := 18) dX6_behind_18 rfl ?_
    refine ev_callSv (S := []) (pc := 19) dX6_behind_19 kX10_has lX6_42 sX10_has (cn_X10_has E h (h.2.1 22 i) zt) rfl rfl (Nat.le_of_ble_eq_true rfl) ⟨Nat.le_of_ble_eq_true rfl, Nat.le_of_ble_eq_true rfl⟩ ⟨Nat.le_of_ble_eq_true rfl, Nat.le_of_ble_eq_true rfl⟩ ?_
    refine ev_if_eq (pc := 22) (tgt := 31) dX6_behind_22 (by decide) (fun zc22 => ?_) (fun zc22 => ?_)
    · -- eq at 22: taken
      refine ev_iinc (pc := 31) (v := nI (i + 1)) (L' := [some (.ref 20), some (.int zt), some (.int (bhF (h.2.1 22) zt i)), some (.int (nI (i + 1)))]) dX6_behind_31 rfl (nI_1 _) (Nat.le_of_ble_eq_true rfl) rfl ?_
      refine ev_goto (pc := 34) (tgt := 4) dX6_behind_34 (by decide) ?_
      refine ev_eqL (L' := [some (.ref 20), some (.int zt), some (.int (bhF (h.2.1 22) zt (i + 1))), some (.int (nI (i + 1)))]) (by rw [bhF]; first | rw [if_pos ((has_1 _).mp (bI_n0.mp zc22))] | (rw [if_neg (fun z => bI_0.mp zc22 ((has_1 _).mpr z)), or_zero32])) ?_
      exact ih (i + 1) (by omega)
    · -- eq at 22: not taken
      refine ev_iload_n (pc := 25) dX6_behind_25 rfl ?_
      refine ev_iconst (pc := 26) (v := 1) dX6_behind_26 (by decide) ?_
      refine ev_iload_n (pc := 27) dX6_behind_27 rfl ?_
      refine ev_ishl (pc := 28) dX6_behind_28 ?_
      refine ev_ior (pc := 29) dX6_behind_29 ?_
      refine ev_istore_n (pc := 30) (L' := [some (.ref 20), some (.int zt), some (.int ((bhF (h.2.1 22) zt i) ||| (1 <<< ((nI i) &&& 31)))), some (.int (nI i))]) dX6_behind_30 (Nat.le_of_ble_eq_true rfl) rfl ?_
      refine ev_iinc (pc := 31) (v := nI (i + 1)) (L' := [some (.ref 20), some (.int zt), some (.int ((bhF (h.2.1 22) zt i) ||| (1 <<< ((nI i) &&& 31)))), some (.int (nI (i + 1)))]) dX6_behind_31 rfl (nI_1 _) (Nat.le_of_ble_eq_true rfl) rfl ?_
      refine ev_goto (pc := 34) (tgt := 4) dX6_behind_34 (by decide) ?_
      refine ev_eqL (L' := [some (.ref 20), some (.int zt), some (.int (bhF (h.2.1 22) zt (i + 1))), some (.int (nI (i + 1)))]) (by rw [bhF]; first | rw [if_pos ((has_1 _).mp (bI_n0.mp zc22))] | (rw [if_neg (fun z => bI_0.mp zc22 ((has_1 _).mpr z)), or_zero32])) ?_
      exact ih (i + 1) (by omega)
theorem cn_X6_behind (E : ME) (h : AH) (zt : Int32) (m : Nat) (hw : WF h) (hm : h.2.1 20 4 = nI m) (hm2 : m ≤ 12) : Con E mX6_behind 1 0 0 [.ref 20, .int zt] h (fun r h' => r = some (.int (bhF (h.2.1 22) zt m)) ∧ h' = h) := by
  refine con_of2 (L := [some (.ref 20), some (.int zt), none, none]) rfl (Nat.le_of_ble_eq_true rfl) rfl ?_
  refine ev_iconst (pc := 0) (v := 0) dX6_behind_0 (by decide) ?_
  refine ev_istore_n (pc := 1) (L' := [some (.ref 20), some (.int zt), some (.int 0), none]) dX6_behind_1 (Nat.le_of_ble_eq_true rfl) rfl ?_
  refine ev_iconst (pc := 2) (v := 0) dX6_behind_2 (by decide) ?_
  refine ev_istore_n (pc := 3) (L' := [some (.ref 20), some (.int zt), some (.int 0), some (.int 0)]) dX6_behind_3 (Nat.le_of_ble_eq_true rfl) rfl ?_
  refine lp_cbehind E h m zt hw hm hm2 ?_ m 0 (Nat.zero_add _)
  refine ev_iload_n (pc := 37) dX6_behind_37 rfl ?_
  refine ev_iret (pc := 38) dX6_behind_38 rfl ?_ ?_
  · rfl
  · exact ⟨rfl, rfl⟩
theorem lp_cringed (E : ME) (h : AH) (m : Nat) (hw : WF h) (hm : h.2.1 20 4 = nI m) (hm2 : m ≤ 12) {post : PO} (K : Ev E mX6_ringed (rmm 1 0 0) (QM E 0 0 post) 0 0 37 [some (.ref 20), some (.int (rgF (h.2.1 22) m)), some (.int (nI m))] [] h) : ∀ n i : Nat, i + n = m → Ev E mX6_ringed (rmm 1 0 0) (QM E 0 0 post) 0 0 4 [some (.ref 20), some (.int (rgF (h.2.1 22) i)), some (.int (nI i))] [] h := by
  intro n
  induction n with
  | zero =>
    intro i hi
    obtain rfl : m = i := by omega
    refine ev_iload_n (pc := 4) dX6_ringed_4 rfl ?_
    refine ev_aload_n (pc := 5) dX6_ringed_5 rfl ?_
    refine ev_getI (pc := 6) dX6_ringed_6 fX6_36 rfl (wlt hw (by decide)) ?_
    refine ev_eqI (e' := nI m) hm ?_
    refine ev_icmp_ge (pc := 9) (tgt := 37) dX6_ringed_9 (by decide) (fun zc9 => ?_) (fun zc9 => absurd (nI_le (Nat.le_refl _) (by omega)) zc9)
    exact K
  | succ n ih =>
    intro i hi
    have hlt : i < m := by omega
    refine ev_iload_n (pc := 4) dX6_ringed_4 rfl ?_
    refine ev_aload_n (pc := 5) dX6_ringed_5 rfl ?_
    refine ev_getI (pc := 6) dX6_ringed_6 fX6_36 rfl (wlt hw (by decide)) ?_
    refine ev_eqI (e' := nI m) hm ?_
    refine ev_icmp_ge (pc := 9) (tgt := 37) dX6_ringed_9 (by decide) (fun zc9 => absurd zc9 (nI_ge hlt (by omega))) (fun zc9 => ?_)
    refine ev_aload_n (pc := 12) dX6_ringed_12 rfl ?_
    refine ev_getR (pc := 13) (q := 22) dX6_ringed_13 fX6_15 rfl (wlt hw (by decide)) (wr hw rfl) ?_
    refine ev_iload_n (pc := 16) dX6_ringed_16 rfl ?_
    refine ev_iald (pc := 17) dX6_ringed_17 rfl (wlt hw (by decide)) (vp_in_nI (by omega) (by decide)) ?_
    refine ev_eqI (e' := h.2.1 22 i) (by rw [show Int32.toNatClampNeg (nI i) = i from nI_clamp (by omega)] <;> rfl) ?_
    refine ev_iload_n (pc := 18) dX6_ringed_18 rfl ?_
    refine ev_callSv (S := []) (pc := 19) dX6_ringed_19 kX10_has lX6_42 sX10_has (cn_X10_has E h (h.2.1 22 i) (nI i)) rfl rfl (Nat.le_of_ble_eq_true rfl) ⟨Nat.le_of_ble_eq_true rfl, Nat.le_of_ble_eq_true rfl⟩ ⟨Nat.le_of_ble_eq_true rfl, Nat.le_of_ble_eq_true rfl⟩ ?_
    refine ev_if_eq (pc := 22) (tgt := 31) dX6_ringed_22 (by decide) (fun zc22 => ?_) (fun zc22 => ?_)
    · -- eq at 22: taken
      refine ev_iinc (pc := 31) (v := nI (i + 1)) (L' := [some (.ref 20), some (.int (rgF (h.2.1 22) i)), some (.int (nI (i + 1)))]) dX6_ringed_31 rfl (nI_1 _) (Nat.le_of_ble_eq_true rfl) rfl ?_
      refine ev_goto (pc := 34) (tgt := 4) dX6_ringed_34 (by decide) ?_
      refine ev_eqL (L' := [some (.ref 20), some (.int (rgF (h.2.1 22) (i + 1))), some (.int (nI (i + 1)))]) (by rw [rgF, ← rg_has (by omega)]; first | rw [if_pos (bI_n0.mp zc22)] | (rw [if_neg (bI_0.mp zc22), or_zero32])) ?_
      exact ih (i + 1) (by omega)
    · -- eq at 22: not taken
      refine ev_iload_n (pc := 25) dX6_ringed_25 rfl ?_
      refine ev_iconst (pc := 26) (v := 1) dX6_ringed_26 (by decide) ?_
      refine ev_iload_n (pc := 27) dX6_ringed_27 rfl ?_
      refine ev_ishl (pc := 28) dX6_ringed_28 ?_
      refine ev_ior (pc := 29) dX6_ringed_29 ?_
      refine ev_istore_n (pc := 30) (L' := [some (.ref 20), some (.int ((rgF (h.2.1 22) i) ||| (1 <<< ((nI i) &&& 31)))), some (.int (nI i))]) dX6_ringed_30 (Nat.le_of_ble_eq_true rfl) rfl ?_
      refine ev_iinc (pc := 31) (v := nI (i + 1)) (L' := [some (.ref 20), some (.int ((rgF (h.2.1 22) i) ||| (1 <<< ((nI i) &&& 31)))), some (.int (nI (i + 1)))]) dX6_ringed_31 rfl (nI_1 _) (Nat.le_of_ble_eq_true rfl) rfl ?_
      refine ev_goto (pc := 34) (tgt := 4) dX6_ringed_34 (by decide) ?_
      refine ev_eqL (L' := [some (.ref 20), some (.int (rgF (h.2.1 22) (i + 1))), some (.int (nI (i + 1)))]) (by rw [rgF, ← rg_has (by omega)]; first | rw [if_pos (bI_n0.mp zc22)] | (rw [if_neg (bI_0.mp zc22), or_zero32])) ?_
      exact ih (i + 1) (by omega)
theorem cn_X6_ringed (E : ME) (h : AH) (m : Nat) (hw : WF h) (hm : h.2.1 20 4 = nI m) (hm2 : m ≤ 12) : Con E mX6_ringed 1 0 0 [.ref 20] h (fun r h' => r = some (.int (rgF (h.2.1 22) m)) ∧ h' = h) := by
  refine con_of2 (L := [some (.ref 20), none, none]) rfl (Nat.le_of_ble_eq_true rfl) rfl ?_
  refine ev_iconst (pc := 0) (v := 0) dX6_ringed_0 (by decide) ?_
  refine ev_istore_n (pc := 1) (L' := [some (.ref 20), some (.int 0), none]) dX6_ringed_1 (Nat.le_of_ble_eq_true rfl) rfl ?_
  refine ev_iconst (pc := 2) (v := 0) dX6_ringed_2 (by decide) ?_
  refine ev_istore_n (pc := 3) (L' := [some (.ref 20), some (.int 0), some (.int 0)]) dX6_ringed_3 (Nat.le_of_ble_eq_true rfl) rfl ?_
  refine lp_cringed E h m hw hm hm2 ?_ m 0 (Nat.zero_add _)
  refine ev_iload_n (pc := 37) dX6_ringed_37 rfl ?_
  refine ev_iret (pc := 38) dX6_ringed_38 rfl ?_ ?_
  · rfl
  · exact ⟨rfl, rfl⟩
theorem lp_firsts (E : ME) (h : AH) (m : Nat) (hw : WF h) (hm : h.2.1 20 4 = nI m) (hm2 : m ≤ 12) {post : PO} (K : Ev E mX6_firsts (rmm 1 0 0) (QM E 0 0 post) 0 0 33 [some (.ref 20), some (.int (bgF (h.2.1 22) m)), some (.int (nI m))] [] h) : ∀ n i : Nat, i + n = m → Ev E mX6_firsts (rmm 1 0 0) (QM E 0 0 post) 0 0 4 [some (.ref 20), some (.int (bgF (h.2.1 22) i)), some (.int (nI i))] [] h := by
  intro n
  induction n with
  | zero =>
    intro i hi
    obtain rfl : m = i := by omega
    refine ev_iload_n (pc := 4) dX6_firsts_4 rfl ?_
    refine ev_aload_n (pc := 5) dX6_firsts_5 rfl ?_
    refine ev_getI (pc := 6) dX6_firsts_6 fX6_36 rfl (wlt hw (by decide)) ?_
    refine ev_eqI (e' := nI m) hm ?_
    refine ev_icmp_ge (pc := 9) (tgt := 33) dX6_firsts_9 (by decide) (fun zc9 => ?_) (fun zc9 => absurd (nI_le (Nat.le_refl _) (by omega)) zc9)
    exact K
  | succ n ih =>
    intro i hi
    have hlt : i < m := by omega
    refine ev_iload_n (pc := 4) dX6_firsts_4 rfl ?_
    refine ev_aload_n (pc := 5) dX6_firsts_5 rfl ?_
    refine ev_getI (pc := 6) dX6_firsts_6 fX6_36 rfl (wlt hw (by decide)) ?_
    refine ev_eqI (e' := nI m) hm ?_
    refine ev_icmp_ge (pc := 9) (tgt := 33) dX6_firsts_9 (by decide) (fun zc9 => absurd zc9 (nI_ge hlt (by omega))) (fun zc9 => ?_)
    refine ev_aload_n (pc := 12) dX6_firsts_12 rfl ?_
    refine ev_getR (pc := 13) (q := 22) dX6_firsts_13 fX6_15 rfl (wlt hw (by decide)) (wr hw rfl) ?_
    refine ev_iload_n (pc := 16) dX6_firsts_16 rfl ?_
    refine ev_iald (pc := 17) dX6_firsts_17 rfl (wlt hw (by decide)) (vp_in_nI (by omega) (by decide)) ?_
    refine ev_eqI (e' := h.2.1 22 i) (by rw [show Int32.toNatClampNeg (nI i) = i from nI_clamp (by omega)] <;> rfl) ?_
    refine ev_if_ne (pc := 18) (tgt := 27) dX6_firsts_18 (by decide) (fun zc18 => ?_) (fun zc18 => ?_)
    · -- ne at 18: taken
      refine ev_iinc (pc := 27) (v := nI (i + 1)) (L' := [some (.ref 20), some (.int (bgF (h.2.1 22) i)), some (.int (nI (i + 1)))]) dX6_firsts_27 rfl (nI_1 _) (Nat.le_of_ble_eq_true rfl) rfl ?_
      refine ev_goto (pc := 30) (tgt := 4) dX6_firsts_30 (by decide) ?_
      refine ev_eqL (L' := [some (.ref 20), some (.int (bgF (h.2.1 22) (i + 1))), some (.int (nI (i + 1)))]) (by rw [bgF]; first | (rw [if_neg zc18, or_zero32]) | rw [if_pos zc18]) ?_
      exact ih (i + 1) (by omega)
    · -- ne at 18: not taken
      refine ev_iload_n (pc := 21) dX6_firsts_21 rfl ?_
      refine ev_iconst (pc := 22) (v := 1) dX6_firsts_22 (by decide) ?_
      refine ev_iload_n (pc := 23) dX6_firsts_23 rfl ?_
      refine ev_ishl (pc := 24) dX6_firsts_24 ?_
      refine ev_ior (pc := 25) dX6_firsts_25 ?_
      refine ev_istore_n (pc := 26) (L' := [some (.ref 20), some (.int ((bgF (h.2.1 22) i) ||| (1 <<< ((nI i) &&& 31)))), some (.int (nI i))]) dX6_firsts_26 (Nat.le_of_ble_eq_true rfl) rfl ?_
      refine ev_iinc (pc := 27) (v := nI (i + 1)) (L' := [some (.ref 20), some (.int ((bgF (h.2.1 22) i) ||| (1 <<< ((nI i) &&& 31)))), some (.int (nI (i + 1)))]) dX6_firsts_27 rfl (nI_1 _) (Nat.le_of_ble_eq_true rfl) rfl ?_
      refine ev_goto (pc := 30) (tgt := 4) dX6_firsts_30 (by decide) ?_
      refine ev_eqL (L' := [some (.ref 20), some (.int (bgF (h.2.1 22) (i + 1))), some (.int (nI (i + 1)))]) (by rw [bgF]; first | (rw [if_neg zc18, or_zero32]) | rw [if_pos zc18]) ?_
      exact ih (i + 1) (by omega)
theorem cn_X6_firsts (E : ME) (h : AH) (m : Nat) (hw : WF h) (hm : h.2.1 20 4 = nI m) (hm2 : m ≤ 12) : Con E mX6_firsts 1 0 0 [.ref 20] h (fun r h' => r = some (.int (bgF (h.2.1 22) m)) ∧ h' = h) := by
  refine con_of2 (L := [some (.ref 20), none, none]) rfl (Nat.le_of_ble_eq_true rfl) rfl ?_
  refine ev_iconst (pc := 0) (v := 0) dX6_firsts_0 (by decide) ?_
  refine ev_istore_n (pc := 1) (L' := [some (.ref 20), some (.int 0), none]) dX6_firsts_1 (Nat.le_of_ble_eq_true rfl) rfl ?_
  refine ev_iconst (pc := 2) (v := 0) dX6_firsts_2 (by decide) ?_
  refine ev_istore_n (pc := 3) (L' := [some (.ref 20), some (.int 0), some (.int 0)]) dX6_firsts_3 (Nat.le_of_ble_eq_true rfl) rfl ?_
  refine lp_firsts E h m hw hm hm2 ?_ m 0 (Nat.zero_add _)
  refine ev_iload_n (pc := 33) dX6_firsts_33 rfl ?_
  refine ev_iret (pc := 34) dX6_firsts_34 rfl ?_ ?_
  · rfl
  · exact ⟨rfl, rfl⟩
theorem lp_lasts (E : ME) (h : AH) (m : Nat) (hw : WF h) (hm : h.2.1 20 4 = nI m) (hm2 : m ≤ 12) {post : PO} (K : Ev E mX6_lasts (rmm 2 0 0) (QM E 0 0 post) 0 0 32 [some (.ref 20), some (.int (bgF (fun zq => bhF (h.2.1 22) (nI zq) m) m)), some (.int (nI m))] [] h) : ∀ n i : Nat, i + n = m → Ev E mX6_lasts (rmm 2 0 0) (QM E 0 0 post) 0 0 4 [some (.ref 20), some (.int (bgF (fun zq => bhF (h.2.1 22) (nI zq) m) i)), some (.int (nI i))] [] h := by
  intro n
  induction n with
  | zero =>
    intro i hi
    obtain rfl : m = i := by omega
    refine ev_iload_n (pc := 4) dX6_lasts_4 rfl ?_
    refine ev_aload_n (pc := 5) dX6_lasts_5 rfl ?_
    refine ev_getI (pc := 6) dX6_lasts_6 fX6_36 rfl (wlt hw (by decide)) ?_
    refine ev_eqI (e' := nI m) hm ?_
    refine ev_icmp_ge (pc := 9) (tgt := 32) dX6_lasts_9 (by decide) (fun zc9 => ?_) (fun zc9 => absurd (nI_le (Nat.le_refl _) (by omega)) zc9)
    exact K
  | succ n ih =>
    intro i hi
    have hlt : i < m := by omega
    refine ev_iload_n (pc := 4) dX6_lasts_4 rfl ?_
    refine ev_aload_n (pc := 5) dX6_lasts_5 rfl ?_
    refine ev_getI (pc := 6) dX6_lasts_6 fX6_36 rfl (wlt hw (by decide)) ?_
    refine ev_eqI (e' := nI m) hm ?_
    refine ev_icmp_ge (pc := 9) (tgt := 32) dX6_lasts_9 (by decide) (fun zc9 => absurd zc9 (nI_ge hlt (by omega))) (fun zc9 => ?_)
    refine ev_aload_n (pc := 12) dX6_lasts_12 rfl ?_
    refine ev_iload_n (pc := 13) dX6_lasts_13 rfl ?_
    refine ev_callVv (S := []) (pc := 14) dX6_lasts_14 kX6_behind lX6_57 vX6_behind (cn_X6_behind E h (nI i) m hw hm hm2) rfl rfl (wlt hw (by decide)) rfl rfl (Nat.le_of_ble_eq_true rfl) ⟨Nat.le_of_ble_eq_true rfl, Nat.le_of_ble_eq_true rfl⟩ ⟨Nat.le_of_ble_eq_true rfl, Nat.le_of_ble_eq_true rfl⟩ ?_
    refine ev_if_ne (pc := 17) (tgt := 26) dX6_lasts_17 (by decide) (fun zc17 => ?_) (fun zc17 => ?_)
    · -- ne at 17: taken
      refine ev_iinc (pc := 26) (v := nI (i + 1)) (L' := [some (.ref 20), some (.int (bgF (fun zq => bhF (h.2.1 22) (nI zq) m) i)), some (.int (nI (i + 1)))]) dX6_lasts_26 rfl (nI_1 _) (Nat.le_of_ble_eq_true rfl) rfl ?_
      refine ev_goto (pc := 29) (tgt := 4) dX6_lasts_29 (by decide) ?_
      refine ev_eqL (L' := [some (.ref 20), some (.int (bgF (fun zq => bhF (h.2.1 22) (nI zq) m) (i + 1))), some (.int (nI (i + 1)))]) (by rw [bgF]; first | (rw [if_neg zc17, or_zero32]) | rw [if_pos zc17]) ?_
      exact ih (i + 1) (by omega)
    · -- ne at 17: not taken
      refine ev_iload_n (pc := 20) dX6_lasts_20 rfl ?_
      refine ev_iconst (pc := 21) (v := 1) dX6_lasts_21 (by decide) ?_
      refine ev_iload_n (pc := 22) dX6_lasts_22 rfl ?_
      refine ev_ishl (pc := 23) dX6_lasts_23 ?_
      refine ev_ior (pc := 24) dX6_lasts_24 ?_
      refine ev_istore_n (pc := 25) (L' := [some (.ref 20), some (.int ((bgF (fun zq => bhF (h.2.1 22) (nI zq) m) i) ||| (1 <<< ((nI i) &&& 31)))), some (.int (nI i))]) dX6_lasts_25 (Nat.le_of_ble_eq_true rfl) rfl ?_
      refine ev_iinc (pc := 26) (v := nI (i + 1)) (L' := [some (.ref 20), some (.int ((bgF (fun zq => bhF (h.2.1 22) (nI zq) m) i) ||| (1 <<< ((nI i) &&& 31)))), some (.int (nI (i + 1)))]) dX6_lasts_26 rfl (nI_1 _) (Nat.le_of_ble_eq_true rfl) rfl ?_
      refine ev_goto (pc := 29) (tgt := 4) dX6_lasts_29 (by decide) ?_
      refine ev_eqL (L' := [some (.ref 20), some (.int (bgF (fun zq => bhF (h.2.1 22) (nI zq) m) (i + 1))), some (.int (nI (i + 1)))]) (by rw [bgF]; first | (rw [if_neg zc17, or_zero32]) | rw [if_pos zc17]) ?_
      exact ih (i + 1) (by omega)
theorem cn_X6_lasts (E : ME) (h : AH) (m : Nat) (hw : WF h) (hm : h.2.1 20 4 = nI m) (hm2 : m ≤ 12) : Con E mX6_lasts 2 0 0 [.ref 20] h (fun r h' => r = some (.int (bgF (fun zq => bhF (h.2.1 22) (nI zq) m) m)) ∧ h' = h) := by
  refine con_of2 (L := [some (.ref 20), none, none]) rfl (Nat.le_of_ble_eq_true rfl) rfl ?_
  refine ev_iconst (pc := 0) (v := 0) dX6_lasts_0 (by decide) ?_
  refine ev_istore_n (pc := 1) (L' := [some (.ref 20), some (.int 0), none]) dX6_lasts_1 (Nat.le_of_ble_eq_true rfl) rfl ?_
  refine ev_iconst (pc := 2) (v := 0) dX6_lasts_2 (by decide) ?_
  refine ev_istore_n (pc := 3) (L' := [some (.ref 20), some (.int 0), some (.int 0)]) dX6_lasts_3 (Nat.le_of_ble_eq_true rfl) rfl ?_
  refine lp_lasts E h m hw hm hm2 ?_ m 0 (Nat.zero_add _)
  refine ev_iload_n (pc := 32) dX6_lasts_32 rfl ?_
  refine ev_iret (pc := 33) dX6_lasts_33 rfl ?_ ?_
  · rfl
  · exact ⟨rfl, rfl⟩
theorem lp_steps_20 (E : ME) (h : AH) (m zn : Nat) (zt zy : Int32) (hw : WF h) (hm : h.2.1 20 4 = nI m) (hm2 : m ≤ 12) {post : PO} (K : Ev E mX6_stepsToItself (rmm 1 0 0) (QM E 0 0 post) 0 0 56 [some (.ref 20), some (.int zt), some (.int zy), some (.int (nI zn)), some (.int (rsF (h.2.1 21) zy m)), some (.int (nI m))] [] h) : ∀ n i : Nat, i + n = m → Ev E mX6_stepsToItself (rmm 1 0 0) (QM E 0 0 post) 0 0 20 [some (.ref 20), some (.int zt), some (.int zy), some (.int (nI zn)), some (.int (rsF (h.2.1 21) zy i)), some (.int (nI i))] [] h := by
  intro n
  induction n with
  | zero =>
    intro i hi
    obtain rfl : m = i := by omega
    refine ev_iload (pc := 20) dX6_stepsToItself_20 rfl ?_
    refine ev_aload_n (pc := 22) dX6_stepsToItself_22 rfl ?_
    refine ev_getI (pc := 23) dX6_stepsToItself_23 fX6_36 rfl (wlt hw (by decide)) ?_
    refine ev_eqI (e' := nI m) hm ?_
    refine ev_icmp_ge (pc := 26) (tgt := 56) dX6_stepsToItself_26 (by decide) (fun zc26 => ?_) (fun zc26 => absurd (nI_le (Nat.le_refl _) (by omega)) zc26)
    exact K
  | succ n ih =>
    intro i hi
    have hlt : i < m := by omega
    refine ev_iload (pc := 20) dX6_stepsToItself_20 rfl ?_
    refine ev_aload_n (pc := 22) dX6_stepsToItself_22 rfl ?_
    refine ev_getI (pc := 23) dX6_stepsToItself_23 fX6_36 rfl (wlt hw (by decide)) ?_
    refine ev_eqI (e' := nI m) hm ?_
    refine ev_icmp_ge (pc := 26) (tgt := 56) dX6_stepsToItself_26 (by decide) (fun zc26 => absurd zc26 (nI_ge hlt (by omega))) (fun zc26 => ?_)
    refine ev_iload_n (pc := 29) dX6_stepsToItself_29 rfl ?_
    refine ev_iload (pc := 30) dX6_stepsToItself_30 rfl ?_
    refine ev_callSv (S := []) (pc := 32) dX6_stepsToItself_32 kX10_has lX6_42 sX10_has (cn_X10_has E h zy (nI i)) rfl rfl (Nat.le_of_ble_eq_true rfl) ⟨Nat.le_of_ble_eq_true rfl, Nat.le_of_ble_eq_true rfl⟩ ⟨Nat.le_of_ble_eq_true rfl, Nat.le_of_ble_eq_true rfl⟩ ?_
    refine ev_if_eq (pc := 35) (tgt := 50) dX6_stepsToItself_35 (by decide) (fun zc35 => ?_) (fun zc35 => ?_)
    · -- eq at 35: taken
      refine ev_iinc (pc := 50) (v := nI (i + 1)) (L' := [some (.ref 20), some (.int zt), some (.int zy), some (.int (nI zn)), some (.int (rsF (h.2.1 21) zy i)), some (.int (nI (i + 1)))]) dX6_stepsToItself_50 rfl (nI_1 _) (Nat.le_of_ble_eq_true rfl) rfl ?_
      refine ev_goto (pc := 53) (tgt := 20) dX6_stepsToItself_53 (by decide) ?_
      refine ev_eqL (L' := [some (.ref 20), some (.int zt), some (.int zy), some (.int (nI zn)), some (.int (rsF (h.2.1 21) zy (i + 1))), some (.int (nI (i + 1)))]) (by rw [rsF]; first | rw [if_pos ((has_1 _).mp (bI_n0.mp zc35))] | (rw [if_neg (fun z => bI_0.mp zc35 ((has_1 _).mpr z)), or_zero32])) ?_
      exact ih (i + 1) (by omega)
    · -- eq at 35: not taken
      refine ev_iload (pc := 38) dX6_stepsToItself_38 rfl ?_
      refine ev_aload_n (pc := 40) dX6_stepsToItself_40 rfl ?_
      refine ev_getR (pc := 41) (q := 21) dX6_stepsToItself_41 fX6_9 rfl (wlt hw (by decide)) (wr hw rfl) ?_
      refine ev_iload (pc := 44) dX6_stepsToItself_44 rfl ?_
      refine ev_iald (pc := 46) dX6_stepsToItself_46 rfl (wlt hw (by decide)) (vp_in_nI (by omega) (by decide)) ?_
      refine ev_eqI (e' := h.2.1 21 i) (by rw [show Int32.toNatClampNeg (nI i) = i from nI_clamp (by omega)] <;> rfl) ?_
      refine ev_ior (pc := 47) dX6_stepsToItself_47 ?_
      refine ev_istore (pc := 48) (L' := [some (.ref 20), some (.int zt), some (.int zy), some (.int (nI zn)), some (.int ((rsF (h.2.1 21) zy i) ||| (h.2.1 21 i))), some (.int (nI i))]) dX6_stepsToItself_48 (Nat.le_of_ble_eq_true rfl) rfl ?_
      refine ev_iinc (pc := 50) (v := nI (i + 1)) (L' := [some (.ref 20), some (.int zt), some (.int zy), some (.int (nI zn)), some (.int ((rsF (h.2.1 21) zy i) ||| (h.2.1 21 i))), some (.int (nI (i + 1)))]) dX6_stepsToItself_50 rfl (nI_1 _) (Nat.le_of_ble_eq_true rfl) rfl ?_
      refine ev_goto (pc := 53) (tgt := 20) dX6_stepsToItself_53 (by decide) ?_
      refine ev_eqL (L' := [some (.ref 20), some (.int zt), some (.int zy), some (.int (nI zn)), some (.int (rsF (h.2.1 21) zy (i + 1))), some (.int (nI (i + 1)))]) (by rw [rsF]; first | rw [if_pos ((has_1 _).mp (bI_n0.mp zc35))] | (rw [if_neg (fun z => bI_0.mp zc35 ((has_1 _).mpr z)), or_zero32])) ?_
      exact ih (i + 1) (by omega)
theorem lp_steps_6 (E : ME) (h : AH) (m : Nat) (zt : Int32) (hw : WF h) (hm : h.2.1 20 4 = nI m) (hm2 : m ≤ 12) {post : PO} : ∀ (zf zn : Nat) (zy : Int32), zn + zf = m + 1 → post (some (.int (rgo (h.2.1 21) m zt zf zn (rsF (h.2.1 21) zy m)))) h → Ev E mX6_stepsToItself (rmm 1 0 0) (QM E 0 0 post) 0 0 6 [some (.ref 20), some (.int zt), some (.int zy), some (.int (nI zn)), none, none] [] h := by
  intro zf
  induction zf with
  | zero =>
    intro zn zy hz hp
    refine ev_iload_n (pc := 6) dX6_stepsToItself_6 rfl ?_
    refine ev_aload_n (pc := 7) dX6_stepsToItself_7 rfl ?_
    refine ev_getI (pc := 8) dX6_stepsToItself_8 fX6_36 rfl (wlt hw (by decide)) ?_
    refine ev_eqI (e' := nI m) hm ?_
    refine ev_icmp_gt (pc := 11) (tgt := 76) dX6_stepsToItself_11 (by decide) (fun zc11 => ?_) (fun zc11 => absurd (nI_lt (by omega) (by omega)) zc11)
    refine ev_iconst (pc := 76) (v := 0) dX6_stepsToItself_76 (by decide) ?_
    refine ev_iret (pc := 77) dX6_stepsToItself_77 rfl ?_ ?_
    · rfl
    · exact hp
  | succ zf ih =>
    intro zn zy hz hp
    refine ev_iload_n (pc := 6) dX6_stepsToItself_6 rfl ?_
    refine ev_aload_n (pc := 7) dX6_stepsToItself_7 rfl ?_
    refine ev_getI (pc := 8) dX6_stepsToItself_8 fX6_36 rfl (wlt hw (by decide)) ?_
    refine ev_eqI (e' := nI m) hm ?_
    refine ev_icmp_gt (pc := 11) (tgt := 76) dX6_stepsToItself_11 (by decide) (fun zc11 => absurd zc11 (nI_nlt (by omega) (by omega))) (fun zc11 => ?_)
    refine ev_iconst (pc := 14) (v := 0) dX6_stepsToItself_14 (by decide) ?_
    refine ev_istore (pc := 15) (L' := [some (.ref 20), some (.int zt), some (.int zy), some (.int (nI zn)), some (.int 0), none]) dX6_stepsToItself_15 (Nat.le_of_ble_eq_true rfl) rfl ?_
    refine ev_iconst (pc := 17) (v := 0) dX6_stepsToItself_17 (by decide) ?_
    refine ev_istore (pc := 18) (L' := [some (.ref 20), some (.int zt), some (.int zy), some (.int (nI zn)), some (.int 0), some (.int 0)]) dX6_stepsToItself_18 (Nat.le_of_ble_eq_true rfl) rfl ?_
    refine lp_steps_20 E h m zn zt zy hw hm hm2 ?_ m 0 (Nat.zero_add _)
    refine ev_iload (pc := 56) dX6_stepsToItself_56 rfl ?_
    refine ev_iload_n (pc := 58) dX6_stepsToItself_58 rfl ?_
    refine ev_callSv (S := []) (pc := 59) dX6_stepsToItself_59 kX10_has lX6_42 sX10_has (cn_X10_has E h (rsF (h.2.1 21) zy m) zt) rfl rfl (Nat.le_of_ble_eq_true rfl) ⟨Nat.le_of_ble_eq_true rfl, Nat.le_of_ble_eq_true rfl⟩ ⟨Nat.le_of_ble_eq_true rfl, Nat.le_of_ble_eq_true rfl⟩ ?_
    refine ev_if_eq (pc := 62) (tgt := 67) dX6_stepsToItself_62 (by decide) (fun zc62 => ?_) (fun zc62 => ?_)
    · -- eq at 62: taken
      refine ev_iload (pc := 67) dX6_stepsToItself_67 rfl ?_
      refine ev_istore_n (pc := 69) (L' := [some (.ref 20), some (.int zt), some (.int (rsF (h.2.1 21) zy m)), some (.int (nI zn)), some (.int (rsF (h.2.1 21) zy m)), some (.int (nI m))]) dX6_stepsToItself_69 (Nat.le_of_ble_eq_true rfl) rfl ?_
      refine ev_iinc (pc := 70) (v := nI (zn + 1)) (L' := [some (.ref 20), some (.int zt), some (.int (rsF (h.2.1 21) zy m)), some (.int (nI (zn + 1))), some (.int (rsF (h.2.1 21) zy m)), some (.int (nI m))]) dX6_stepsToItself_70 rfl (nI_1 _) (Nat.le_of_ble_eq_true rfl) rfl ?_
      refine ev_goto (pc := 73) (tgt := 6) dX6_stepsToItself_73 (by decide) ?_
      refine ev_less (L' := [some (.ref 20), some (.int zt), some (.int (rsF (h.2.1 21) zy m)), some (.int (nI (zn + 1))), none, none]) (ls_keep (ls_keep (ls_keep (ls_keep (ls_drop (ls_drop (ls_nil _))))))) ?_
      rw [rgo, if_neg (fun z => bI_0.mp zc62 ((has_1 _).mpr z))] at hp
      exact ih (zn + 1) _ (by omega) hp
    · -- eq at 62: not taken
      refine ev_iload_n (pc := 65) dX6_stepsToItself_65 rfl ?_
      refine ev_iret (pc := 66) dX6_stepsToItself_66 rfl ?_ ?_
      · rfl
      · rw [rgo, if_pos ((has_1 _).mp (bI_n0.mp zc62))] at hp
        exact hp
theorem rs_bit (lt : Nat → Int32) {zt : Nat} (ht : zt < 32) : ∀ zn, zn ≤ 32 → rsF lt ((1 : Int32) <<< (nI zt &&& 31)) zn = if zt < zn then lt zt else 0
  | 0, _ => by rw [rsF, if_neg (Nat.not_lt_zero _)]
  | zn + 1, hn => by
    rw [rsF, rs_bit lt ht zn (by omega)]
    by_cases e : zn = zt
    · subst e
      rw [if_neg (Nat.lt_irrefl _), if_pos (Nat.lt_succ_self _), if_pos ((sh1_1 _ ht).mpr (by rw [bt_sh ht zn ht, decide_eq_true rfl]))]
      apply b_ext
      intro zi hi
      rw [b_or, b_0, Bool.false_or]
    · rw [if_neg (show ¬ ((((1 : Int32) <<< (nI zt &&& 31)) >>> (nI zn &&& 31)) &&& 1 = 1) from fun z => by have z1 := (sh1_1 _ (show zn < 32 by omega)).mp z; rw [bt_sh ht zn (by omega), decide_eq_false e] at z1; cases z1), or_zero32]
      by_cases e2 : zt < zn
      · rw [if_pos e2, if_pos (by omega)]
      · rw [if_neg e2, if_neg (by omega)]
theorem cn_X6_stepsToItself (E : ME) (h : AH) (zk m : Nat) (hw : WF h) (hm : h.2.1 20 4 = nI m) (hm2 : m ≤ 12) (hk : zk < m) : Con E mX6_stepsToItself 1 0 0 [.ref 20, .int (nI zk)] h (fun r h' => r = some (.int (rgo (h.2.1 21) m (nI zk) m 1 (h.2.1 21 zk))) ∧ h' = h) := by
  refine con_of2 (L := [some (.ref 20), some (.int (nI zk)), none, none, none, none]) rfl (Nat.le_of_ble_eq_true rfl) rfl ?_
  refine ev_iconst (pc := 0) (v := 1) dX6_stepsToItself_0 (by decide) ?_
  refine ev_iload_n (pc := 1) dX6_stepsToItself_1 rfl ?_
  refine ev_ishl (pc := 2) dX6_stepsToItself_2 ?_
  refine ev_istore_n (pc := 3) (L' := [some (.ref 20), some (.int (nI zk)), some (.int (1 <<< ((nI zk) &&& 31))), none, none, none]) dX6_stepsToItself_3 (Nat.le_of_ble_eq_true rfl) rfl ?_
  refine ev_iconst (pc := 4) (v := 1) dX6_stepsToItself_4 (by decide) ?_
  refine ev_istore_n (pc := 5) (L' := [some (.ref 20), some (.int (nI zk)), some (.int (1 <<< ((nI zk) &&& 31))), some (.int 1), none, none]) dX6_stepsToItself_5 (Nat.le_of_ble_eq_true rfl) rfl ?_
  refine lp_steps_6 E h m (nI zk) hw hm hm2 m 1 _ (by omega) ?_
  rw [rs_bit _ (by omega) m (by omega), if_pos hk]
  exact ⟨rfl, rfl⟩
theorem lp_leastRing (E : ME) (h : AH) (m : Nat) (hw : WF h) (hm : h.2.1 20 4 = nI m) (hm2 : m ≤ 12) {post : PO} (K : Ev E mX6_leastRing (rmm 2 0 0) (QM E 0 0 post) 0 0 39 [some (.ref 20), some (.int (lrF (fun q => rgo (h.2.1 21) m (nI q) m 1 (h.2.1 21 q)) m)), some (.int (nI m)), none] [] h) : ∀ n i : Nat, i + n = m → Ev E mX6_leastRing (rmm 2 0 0) (QM E 0 0 post) 0 0 4 [some (.ref 20), some (.int (lrF (fun q => rgo (h.2.1 21) m (nI q) m 1 (h.2.1 21 q)) i)), some (.int (nI i)), none] [] h := by
  intro n
  induction n with
  | zero =>
    intro i hi
    obtain rfl : m = i := by omega
    refine ev_iload_n (pc := 4) dX6_leastRing_4 rfl ?_
    refine ev_aload_n (pc := 5) dX6_leastRing_5 rfl ?_
    refine ev_getI (pc := 6) dX6_leastRing_6 fX6_36 rfl (wlt hw (by decide)) ?_
    refine ev_eqI (e' := nI m) hm ?_
    refine ev_icmp_ge (pc := 9) (tgt := 39) dX6_leastRing_9 (by decide) (fun zc9 => ?_) (fun zc9 => absurd (nI_le (Nat.le_refl _) (by omega)) zc9)
    exact K
  | succ n ih =>
    intro i hi
    have hlt : i < m := by omega
    refine ev_iload_n (pc := 4) dX6_leastRing_4 rfl ?_
    refine ev_aload_n (pc := 5) dX6_leastRing_5 rfl ?_
    refine ev_getI (pc := 6) dX6_leastRing_6 fX6_36 rfl (wlt hw (by decide)) ?_
    refine ev_eqI (e' := nI m) hm ?_
    refine ev_icmp_ge (pc := 9) (tgt := 39) dX6_leastRing_9 (by decide) (fun zc9 => absurd zc9 (nI_ge hlt (by omega))) (fun zc9 => ?_)
    refine ev_aload_n (pc := 12) dX6_leastRing_12 rfl ?_
    refine ev_iload_n (pc := 13) dX6_leastRing_13 rfl ?_
    refine ev_callVv (S := []) (pc := 14) dX6_leastRing_14 kX6_stepsToItself lX6_54 vX6_stepsToItself (cn_X6_stepsToItself E h i m hw hm hm2 hlt) rfl rfl (wlt hw (by decide)) rfl rfl (Nat.le_of_ble_eq_true rfl) ⟨Nat.le_of_ble_eq_true rfl, Nat.le_of_ble_eq_true rfl⟩ ⟨Nat.le_of_ble_eq_true rfl, Nat.le_of_ble_eq_true rfl⟩ ?_
    refine ev_nmI (fun zr14 ezr14 => ?_)
    refine ev_istore_n (pc := 17) (L' := [some (.ref 20), some (.int (lrF (fun q => rgo (h.2.1 21) m (nI q) m 1 (h.2.1 21 q)) i)), some (.int (nI i)), some (.int zr14)]) dX6_leastRing_17 (Nat.le_of_ble_eq_true rfl) rfl ?_
    refine ev_iload_n (pc := 18) dX6_leastRing_18 rfl ?_
    refine ev_if_le (pc := 19) (tgt := 33) dX6_leastRing_19 (by decide) (fun zc19 => ?_) (fun zc19 => ?_)
    · -- le at 19: taken
      refine ev_iinc (pc := 33) (v := nI (i + 1)) (L' := [some (.ref 20), some (.int (lrF (fun q => rgo (h.2.1 21) m (nI q) m 1 (h.2.1 21 q)) i)), some (.int (nI (i + 1))), some (.int zr14)]) dX6_leastRing_33 rfl (nI_1 _) (Nat.le_of_ble_eq_true rfl) rfl ?_
      refine ev_goto (pc := 36) (tgt := 4) dX6_leastRing_36 (by decide) ?_
      refine ev_eqL (L' := [some (.ref 20), some (.int (lrF (fun q => rgo (h.2.1 21) m (nI q) m 1 (h.2.1 21 q)) (i + 1))), some (.int (nI (i + 1))), some (.int zr14)]) (by simp only [lrF]; rw [← ezr14]; first | rw [if_neg (by (simp only [i_lt, i_le, i_eq, i_z0] at *; omega))] | rw [if_pos (by (simp only [i_lt, i_le, i_eq, i_z0] at *; omega))]) ?_
      refine ev_less (L' := [some (.ref 20), some (.int (lrF (fun q => rgo (h.2.1 21) m (nI q) m 1 (h.2.1 21 q)) (i + 1))), some (.int (nI (i + 1))), none]) (ls_keep (ls_keep (ls_keep (ls_drop (ls_nil _))))) ?_
      exact ih (i + 1) (by omega)
    · -- le at 19: not taken
      refine ev_iload_n (pc := 22) dX6_leastRing_22 rfl ?_
      refine ev_if_eq (pc := 23) (tgt := 31) dX6_leastRing_23 (by decide) (fun zc23 => ?_) (fun zc23 => ?_)
      · -- eq at 23: taken
        refine ev_iload_n (pc := 31) dX6_leastRing_31 rfl ?_
        refine ev_istore_n (pc := 32) (L' := [some (.ref 20), some (.int zr14), some (.int (nI i)), some (.int zr14)]) dX6_leastRing_32 (Nat.le_of_ble_eq_true rfl) rfl ?_
        refine ev_iinc (pc := 33) (v := nI (i + 1)) (L' := [some (.ref 20), some (.int zr14), some (.int (nI (i + 1))), some (.int zr14)]) dX6_leastRing_33 rfl (nI_1 _) (Nat.le_of_ble_eq_true rfl) rfl ?_
        refine ev_goto (pc := 36) (tgt := 4) dX6_leastRing_36 (by decide) ?_
        refine ev_eqL (L' := [some (.ref 20), some (.int (lrF (fun q => rgo (h.2.1 21) m (nI q) m 1 (h.2.1 21 q)) (i + 1))), some (.int (nI (i + 1))), some (.int zr14)]) (by simp only [lrF]; rw [← ezr14]; first | rw [if_neg (by (simp only [i_lt, i_le, i_eq, i_z0] at *; omega))] | rw [if_pos (by (simp only [i_lt, i_le, i_eq, i_z0] at *; omega))]) ?_
        refine ev_less (L' := [some (.ref 20), some (.int (lrF (fun q => rgo (h.2.1 21) m (nI q) m 1 (h.2.1 21 q)) (i + 1))), some (.int (nI (i + 1))), none]) (ls_keep (ls_keep (ls_keep (ls_drop (ls_nil _))))) ?_
        exact ih (i + 1) (by omega)
      · -- eq at 23: not taken
        refine ev_iload_n (pc := 26) dX6_leastRing_26 rfl ?_
        refine ev_iload_n (pc := 27) dX6_leastRing_27 rfl ?_
        refine ev_icmp_ge (pc := 28) (tgt := 33) dX6_leastRing_28 (by decide) (fun zc28 => ?_) (fun zc28 => ?_)
        · -- ge at 28: taken
          refine ev_iinc (pc := 33) (v := nI (i + 1)) (L' := [some (.ref 20), some (.int (lrF (fun q => rgo (h.2.1 21) m (nI q) m 1 (h.2.1 21 q)) i)), some (.int (nI (i + 1))), some (.int zr14)]) dX6_leastRing_33 rfl (nI_1 _) (Nat.le_of_ble_eq_true rfl) rfl ?_
          refine ev_goto (pc := 36) (tgt := 4) dX6_leastRing_36 (by decide) ?_
          refine ev_eqL (L' := [some (.ref 20), some (.int (lrF (fun q => rgo (h.2.1 21) m (nI q) m 1 (h.2.1 21 q)) (i + 1))), some (.int (nI (i + 1))), some (.int zr14)]) (by simp only [lrF]; rw [← ezr14]; first | rw [if_neg (by (simp only [i_lt, i_le, i_eq, i_z0] at *; omega))] | rw [if_pos (by (simp only [i_lt, i_le, i_eq, i_z0] at *; omega))]) ?_
          refine ev_less (L' := [some (.ref 20), some (.int (lrF (fun q => rgo (h.2.1 21) m (nI q) m 1 (h.2.1 21 q)) (i + 1))), some (.int (nI (i + 1))), none]) (ls_keep (ls_keep (ls_keep (ls_drop (ls_nil _))))) ?_
          exact ih (i + 1) (by omega)
        · -- ge at 28: not taken
          refine ev_iload_n (pc := 31) dX6_leastRing_31 rfl ?_
          refine ev_istore_n (pc := 32) (L' := [some (.ref 20), some (.int zr14), some (.int (nI i)), some (.int zr14)]) dX6_leastRing_32 (Nat.le_of_ble_eq_true rfl) rfl ?_
          refine ev_iinc (pc := 33) (v := nI (i + 1)) (L' := [some (.ref 20), some (.int zr14), some (.int (nI (i + 1))), some (.int zr14)]) dX6_leastRing_33 rfl (nI_1 _) (Nat.le_of_ble_eq_true rfl) rfl ?_
          refine ev_goto (pc := 36) (tgt := 4) dX6_leastRing_36 (by decide) ?_
          refine ev_eqL (L' := [some (.ref 20), some (.int (lrF (fun q => rgo (h.2.1 21) m (nI q) m 1 (h.2.1 21 q)) (i + 1))), some (.int (nI (i + 1))), some (.int zr14)]) (by simp only [lrF]; rw [← ezr14]; first | rw [if_neg (by (simp only [i_lt, i_le, i_eq, i_z0] at *; omega))] | rw [if_pos (by (simp only [i_lt, i_le, i_eq, i_z0] at *; omega))]) ?_
          refine ev_less (L' := [some (.ref 20), some (.int (lrF (fun q => rgo (h.2.1 21) m (nI q) m 1 (h.2.1 21 q)) (i + 1))), some (.int (nI (i + 1))), none]) (ls_keep (ls_keep (ls_keep (ls_drop (ls_nil _))))) ?_
          exact ih (i + 1) (by omega)
theorem cn_X6_leastRing (E : ME) (h : AH) (m : Nat) (hw : WF h) (hm : h.2.1 20 4 = nI m) (hm2 : m ≤ 12) : Con E mX6_leastRing 2 0 0 [.ref 20] h (fun r h' => r = some (.int (lrF (fun q => rgo (h.2.1 21) m (nI q) m 1 (h.2.1 21 q)) m)) ∧ h' = h) := by
  refine con_of2 (L := [some (.ref 20), none, none, none]) rfl (Nat.le_of_ble_eq_true rfl) rfl ?_
  refine ev_iconst (pc := 0) (v := 0) dX6_leastRing_0 (by decide) ?_
  refine ev_istore_n (pc := 1) (L' := [some (.ref 20), some (.int 0), none, none]) dX6_leastRing_1 (Nat.le_of_ble_eq_true rfl) rfl ?_
  refine ev_iconst (pc := 2) (v := 0) dX6_leastRing_2 (by decide) ?_
  refine ev_istore_n (pc := 3) (L' := [some (.ref 20), some (.int 0), some (.int 0), none]) dX6_leastRing_3 (Nat.le_of_ble_eq_true rfl) rfl ?_
  refine lp_leastRing E h m hw hm hm2 ?_ m 0 (Nat.zero_add _)
  refine ev_iload_n (pc := 39) dX6_leastRing_39 rfl ?_
  refine ev_iret (pc := 40) dX6_leastRing_40 rfl ?_ ?_
  · rfl
  · exact ⟨rfl, rfl⟩
theorem cn_X10_rings (E : ME) (h : AH) (zv : Int32) (m : Nat) (hw : WF h) (hm : h.2.1 20 4 = nI m) (hm2 : m ≤ 12) : Con E mX10_rings 3 0 0 [.ref 0, .int zv] h (fun r h' => r = some (.int (if zv = 0 then rgF (h.2.1 22) m else if zv = 1 then lrF (fun q => rgo (h.2.1 21) m (nI q) m 1 (h.2.1 21 q)) m else -1)) ∧ h' = h) := by
  refine con_of2 (L := [some (.ref 0), some (.int zv)]) rfl (Nat.le_of_ble_eq_true rfl) rfl ?_
  refine ev_iload_n (pc := 0) dX10_rings_0 rfl ?_
  refine ev_nmI (fun zsv ezsv => ?_)
  by_cases zq0 : zsv = 0
  · subst zq0
    refine ev_look (pc := 1) (tgt := 28) dX10_rings_1 (by decide +kernel) rfl (by decide) ?_
    refine ev_aload_n (pc := 28) dX10_rings_28 rfl ?_
    refine ev_getR (pc := 29) (q := 20) dX10_rings_29 fX10_38 rfl (wlt hw (by decide)) (wr hw rfl) ?_
    refine ev_callVv (S := []) (pc := 32) dX10_rings_32 kX6_ringed lX10_192 vX6_ringed (cn_X6_ringed E h m hw hm hm2) rfl rfl (wlt hw (by decide)) rfl rfl (Nat.le_of_ble_eq_true rfl) ⟨Nat.le_of_ble_eq_true rfl, Nat.le_of_ble_eq_true rfl⟩ ⟨Nat.le_of_ble_eq_true rfl, Nat.le_of_ble_eq_true rfl⟩ ?_
    refine ev_iret (pc := 35) dX10_rings_35 rfl ?_ ?_
    · rfl
    · refine ⟨?_, rfl⟩
      subst ezsv
      rfl
  by_cases zq1 : zsv = 1
  · subst zq1
    refine ev_look (pc := 1) (tgt := 36) dX10_rings_1 (by decide +kernel) rfl (by decide) ?_
    refine ev_aload_n (pc := 36) dX10_rings_36 rfl ?_
    refine ev_getR (pc := 37) (q := 20) dX10_rings_37 fX10_38 rfl (wlt hw (by decide)) (wr hw rfl) ?_
    refine ev_callVv (S := []) (pc := 40) dX10_rings_40 kX6_leastRing lX10_195 vX6_leastRing (cn_X6_leastRing E h m hw hm hm2) rfl rfl (wlt hw (by decide)) rfl rfl (Nat.le_of_ble_eq_true rfl) ⟨Nat.le_of_ble_eq_true rfl, Nat.le_of_ble_eq_true rfl⟩ ⟨Nat.le_of_ble_eq_true rfl, Nat.le_of_ble_eq_true rfl⟩ ?_
    refine ev_iret (pc := 43) dX10_rings_43 rfl ?_ ?_
    · rfl
    · refine ⟨?_, rfl⟩
      subst ezsv
      rfl
  refine ev_look (pc := 1) (tgt := 44) dX10_rings_1 (by decide +kernel) (off := 43) ?_ (by decide) ?_
  · simp [Op.lookupswitch.offset, show ¬ (0 : Int) = zsv.toInt from fun z => i32_ne zq0 z.symm, show ¬ (1 : Int) = zsv.toInt from fun z => i32_ne zq1 z.symm]
  refine ev_iconst (pc := 44) (v := (-1)) dX10_rings_44 (by decide) ?_
  refine ev_iret (pc := 45) dX10_rings_45 rfl ?_ ?_
  · rfl
  · refine ⟨?_, rfl⟩
    subst ezsv
    rw [if_neg zq0, if_neg zq1]
theorem cn_X10_begins (E : ME) (h : AH) (zv : Int32) (m : Nat) (hw : WF h) (hm : h.2.1 20 4 = nI m) (hm2 : m ≤ 12) : Con E mX10_begins 3 0 0 [.ref 0, .int zv] h (fun r h' => r = some (.int (if 0 ≤ zv ∧ zv ≤ 1 then (if rgF (h.2.1 22) m = 0 then (if zv = 0 then bgF (h.2.1 22) m else bgF (fun zq => bhF (h.2.1 22) (nI zq) m) m) else -2) else -1)) ∧ h' = h) := by
  refine con_of2 (L := [some (.ref 0), some (.int zv)]) rfl (Nat.le_of_ble_eq_true rfl) rfl ?_
  refine ev_iload_n (pc := 0) dX10_begins_0 rfl ?_
  refine ev_iconst (pc := 1) (v := 0) dX10_begins_1 (by decide) ?_
  refine ev_iconst (pc := 2) (v := 1) dX10_begins_2 (by decide) ?_
  refine ev_callSv (S := []) (pc := 3) dX10_begins_3 kX10_within lX10_123 sX10_within (cn_X10_within E h zv 0 1) rfl rfl (Nat.le_of_ble_eq_true rfl) ⟨Nat.le_of_ble_eq_true rfl, Nat.le_of_ble_eq_true rfl⟩ ⟨Nat.le_of_ble_eq_true rfl, Nat.le_of_ble_eq_true rfl⟩ ?_
  refine ev_if_ne (pc := 6) (tgt := 11) dX10_begins_6 (by decide) (fun zc6 => ?_) (fun zc6 => ?_)
  · -- ne at 6: taken
    refine ev_aload_n (pc := 11) dX10_begins_11 rfl ?_
    refine ev_getR (pc := 12) (q := 20) dX10_begins_12 fX10_38 rfl (wlt hw (by decide)) (wr hw rfl) ?_
    refine ev_callVv (S := []) (pc := 15) dX10_begins_15 kX6_ringed lX10_192 vX6_ringed (cn_X6_ringed E h m hw hm hm2) rfl rfl (wlt hw (by decide)) rfl rfl (Nat.le_of_ble_eq_true rfl) ⟨Nat.le_of_ble_eq_true rfl, Nat.le_of_ble_eq_true rfl⟩ ⟨Nat.le_of_ble_eq_true rfl, Nat.le_of_ble_eq_true rfl⟩ ?_
    refine ev_if_eq (pc := 18) (tgt := 24) dX10_begins_18 (by decide) (fun zc18 => ?_) (fun zc18 => ?_)
    · -- eq at 18: taken
      refine ev_iload_n (pc := 24) dX10_begins_24 rfl ?_
      refine ev_if_ne (pc := 25) (tgt := 38) dX10_begins_25 (by decide) (fun zc25 => ?_) (fun zc25 => ?_)
      · -- ne at 25: taken
        refine ev_aload_n (pc := 38) dX10_begins_38 rfl ?_
        refine ev_getR (pc := 39) (q := 20) dX10_begins_39 fX10_38 rfl (wlt hw (by decide)) (wr hw rfl) ?_
        refine ev_callVv (S := []) (pc := 42) dX10_begins_42 kX6_lasts lX10_225 vX6_lasts (cn_X6_lasts E h m hw hm hm2) rfl rfl (wlt hw (by decide)) rfl rfl (Nat.le_of_ble_eq_true rfl) ⟨Nat.le_of_ble_eq_true rfl, Nat.le_of_ble_eq_true rfl⟩ ⟨Nat.le_of_ble_eq_true rfl, Nat.le_of_ble_eq_true rfl⟩ ?_
        refine ev_iret (pc := 45) dX10_begins_45 rfl ?_ ?_
        · rfl
        · refine ⟨?_, rfl⟩
          rw [if_pos (bI_n0.mp zc6), if_pos zc18, if_neg zc25]
      · -- ne at 25: not taken
        refine ev_aload_n (pc := 28) dX10_begins_28 rfl ?_
        refine ev_getR (pc := 29) (q := 20) dX10_begins_29 fX10_38 rfl (wlt hw (by decide)) (wr hw rfl) ?_
        refine ev_callVv (S := []) (pc := 32) dX10_begins_32 kX6_firsts lX10_222 vX6_firsts (cn_X6_firsts E h m hw hm hm2) rfl rfl (wlt hw (by decide)) rfl rfl (Nat.le_of_ble_eq_true rfl) ⟨Nat.le_of_ble_eq_true rfl, Nat.le_of_ble_eq_true rfl⟩ ⟨Nat.le_of_ble_eq_true rfl, Nat.le_of_ble_eq_true rfl⟩ ?_
        refine ev_goto (pc := 35) (tgt := 45) dX10_begins_35 (by decide) ?_
        refine ev_iret (pc := 45) dX10_begins_45 rfl ?_ ?_
        · rfl
        · refine ⟨?_, rfl⟩
          rw [if_pos (bI_n0.mp zc6), if_pos zc18, if_pos zc25]
    · -- eq at 18: not taken
      refine ev_bipush (pc := 21) (v := (-2)) dX10_begins_21 (by decide) ?_
      refine ev_iret (pc := 23) dX10_begins_23 rfl ?_ ?_
      · rfl
      · refine ⟨?_, rfl⟩
        rw [if_pos (bI_n0.mp zc6), if_neg zc18]
  · -- ne at 6: not taken
    refine ev_iconst (pc := 9) (v := (-1)) dX10_begins_9 (by decide) ?_
    refine ev_iret (pc := 10) dX10_begins_10 rfl ?_ ?_
    · rfl
    · refine ⟨?_, rfl⟩
      rw [if_neg (bI_0.mp zc6)]
theorem cn_X10_areTwoThings_3 (E : ME) (h : AH) (zt : PSt) (za zb : Int32) (hw : WF h) (hY : STz zt 3 h) (hO : POK zt) (hst : h.2.2.2 0 1 = some 3) : Con E mX10_areTwoThings 2 0 0 [.ref 0, .int za, .int zb] h (fun r h' => r = some (.int (bI (thg zt za ∧ thg zt zb ∧ ¬ za = zb))) ∧ h' = h) := by
  refine con_of2 (L := [some (.ref 0), some (.int za), some (.int zb)]) rfl (Nat.le_of_ble_eq_true rfl) rfl ?_
  refine ev_iload_n (pc := 0) dX10_areTwoThings_0 rfl ?_
  refine ev_iload_n (pc := 1) dX10_areTwoThings_1 rfl ?_
  refine ev_icmp_eq (pc := 2) (tgt := 31) dX10_areTwoThings_2 (by decide) (fun zc2 => ?_) (fun zc2 => ?_)
  · -- eq at 2: taken
    refine ev_iconst (pc := 31) (v := 0) dX10_areTwoThings_31 (by decide) ?_
    refine ev_iret (pc := 32) dX10_areTwoThings_32 rfl ?_ ?_
    · first | rfl | exact nar_bI _ | (simp only [*]; exact nar_bI _) | (simp [narrow, *]; done)
    · refine ⟨?_, rfl⟩
      rw [bI_f (fun z => z.2.2 zc2)]
  · -- eq at 2: not taken
    refine ev_aload_n (pc := 5) dX10_areTwoThings_5 rfl ?_
    refine ev_getR (pc := 6) (q := 3) dX10_areTwoThings_6 fX10_19 rfl (wlt hw (by decide)) hst ?_
    refine ev_iload_n (pc := 9) dX10_areTwoThings_9 rfl ?_
    refine ev_callVv (S := []) (pc := 10) dX10_areTwoThings_10 kX8_hasThing lX10_134 vX8_hasThing (cn_X8_hasThing_3 E h zt za hw hY hO) rfl rfl (wlt hw (by decide)) rfl rfl (Nat.le_of_ble_eq_true rfl) ⟨Nat.le_of_ble_eq_true rfl, Nat.le_of_ble_eq_true rfl⟩ ⟨Nat.le_of_ble_eq_true rfl, Nat.le_of_ble_eq_true rfl⟩ ?_
    refine ev_if_eq (pc := 13) (tgt := 31) dX10_areTwoThings_13 (by decide) (fun zc13 => ?_) (fun zc13 => ?_)
    · -- eq at 13: taken
      refine ev_iconst (pc := 31) (v := 0) dX10_areTwoThings_31 (by decide) ?_
      refine ev_iret (pc := 32) dX10_areTwoThings_32 rfl ?_ ?_
      · first | rfl | exact nar_bI _ | (simp only [*]; exact nar_bI _) | (simp [narrow, *]; done)
      · refine ⟨?_, rfl⟩
        rw [bI_f (fun z => bI_0.mp zc13 z.1)]
    · -- eq at 13: not taken
      refine ev_aload_n (pc := 16) dX10_areTwoThings_16 rfl ?_
      refine ev_getR (pc := 17) (q := 3) dX10_areTwoThings_17 fX10_19 rfl (wlt hw (by decide)) hst ?_
      refine ev_iload_n (pc := 20) dX10_areTwoThings_20 rfl ?_
      refine ev_callVv (S := []) (pc := 21) dX10_areTwoThings_21 kX8_hasThing lX10_134 vX8_hasThing (cn_X8_hasThing_3 E h zt zb hw hY hO) rfl rfl (wlt hw (by decide)) rfl rfl (Nat.le_of_ble_eq_true rfl) ⟨Nat.le_of_ble_eq_true rfl, Nat.le_of_ble_eq_true rfl⟩ ⟨Nat.le_of_ble_eq_true rfl, Nat.le_of_ble_eq_true rfl⟩ ?_
      refine ev_if_eq (pc := 24) (tgt := 31) dX10_areTwoThings_24 (by decide) (fun zc24 => ?_) (fun zc24 => ?_)
      · -- eq at 24: taken
        refine ev_iconst (pc := 31) (v := 0) dX10_areTwoThings_31 (by decide) ?_
        refine ev_iret (pc := 32) dX10_areTwoThings_32 rfl ?_ ?_
        · first | rfl | exact nar_bI _ | (simp only [*]; exact nar_bI _) | (simp [narrow, *]; done)
        · refine ⟨?_, rfl⟩
          rw [bI_f (fun z => bI_0.mp zc24 z.2.1)]
      · -- eq at 24: not taken
        refine ev_iconst (pc := 27) (v := 1) dX10_areTwoThings_27 (by decide) ?_
        refine ev_goto (pc := 28) (tgt := 32) dX10_areTwoThings_28 (by decide) ?_
        refine ev_iret (pc := 32) dX10_areTwoThings_32 rfl ?_ ?_
        · first | rfl | exact nar_bI _ | (simp only [*]; exact nar_bI _) | (simp [narrow, *]; done)
        · refine ⟨?_, rfl⟩
          rw [bI_t ⟨bI_n0.mp zc13, bI_n0.mp zc24, zc2⟩]
theorem cn_X10_ahead_3 (E : ME) (h : AH) (zt : PSt) (za zb : Int32) (m : Nat) (hw : WF h) (hY : STz zt 3 h) (hO : POK zt) (hst : h.2.2.2 0 1 = some 3) (hm : h.2.1 20 4 = nI m) (hm2 : m ≤ 12) (hmt : m = zt.1 1) : Con E mX10_ahead 3 0 0 [.ref 0, .int za, .int zb] h (fun r h' => r = some (.int (if thg zt za ∧ thg zt zb ∧ ¬ za = zb then ((h.2.1 22 zb.toNatClampNeg) >>> (za &&& 31)) &&& 1 else -1)) ∧ h' = h) := by
  refine con_of2 (L := [some (.ref 0), some (.int za), some (.int zb)]) rfl (Nat.le_of_ble_eq_true rfl) rfl ?_
  refine ev_aload_n (pc := 0) dX10_ahead_0 rfl ?_
  refine ev_iload_n (pc := 1) dX10_ahead_1 rfl ?_
  refine ev_iload_n (pc := 2) dX10_ahead_2 rfl ?_
  refine ev_callVv (S := []) (pc := 3) dX10_ahead_3 kX10_areTwoThings lX10_185 vX10_areTwoThings (cn_X10_areTwoThings_3 E h zt za zb hw hY hO hst) rfl rfl (wlt hw (by decide)) rfl rfl (Nat.le_of_ble_eq_true rfl) ⟨Nat.le_of_ble_eq_true rfl, Nat.le_of_ble_eq_true rfl⟩ ⟨Nat.le_of_ble_eq_true rfl, Nat.le_of_ble_eq_true rfl⟩ ?_
  refine ev_if_ne (pc := 6) (tgt := 11) dX10_ahead_6 (by decide) (fun zc6 => ?_) (fun zc6 => ?_)
  · -- ne at 6: taken
    refine ev_aload_n (pc := 11) dX10_ahead_11 rfl ?_
    refine ev_getR (pc := 12) (q := 20) dX10_ahead_12 fX10_38 rfl (wlt hw (by decide)) (wr hw rfl) ?_
    refine ev_iload_n (pc := 15) dX10_ahead_15 rfl ?_
    refine ev_callVv (S := []) (pc := 16) dX10_ahead_16 kX6_aheadOf lX10_146 vX6_aheadOf (cn_X6_aheadOf E h zb m hw hm hm2) rfl rfl (wlt hw (by decide)) rfl rfl (Nat.le_of_ble_eq_true rfl) ⟨Nat.le_of_ble_eq_true rfl, Nat.le_of_ble_eq_true rfl⟩ ⟨Nat.le_of_ble_eq_true rfl, Nat.le_of_ble_eq_true rfl⟩ ?_
    have hG := bI_n0.mp zc6
    refine ev_eqI (e' := h.2.1 22 zb.toNatClampNeg) (if_pos (by rw [hmt]; exact hG.2.1)) ?_
    refine ev_iload_n (pc := 19) dX10_ahead_19 rfl ?_
    refine ev_callSv (S := []) (pc := 20) dX10_ahead_20 kX10_has lX10_189 sX10_has (cn_X10_has E h (h.2.1 22 zb.toNatClampNeg) za) rfl rfl (Nat.le_of_ble_eq_true rfl) ⟨Nat.le_of_ble_eq_true rfl, Nat.le_of_ble_eq_true rfl⟩ ⟨Nat.le_of_ble_eq_true rfl, Nat.le_of_ble_eq_true rfl⟩ ?_
    refine ev_if_eq (pc := 23) (tgt := 30) dX10_ahead_23 (by decide) (fun zc23 => ?_) (fun zc23 => ?_)
    · -- eq at 23: taken
      refine ev_iconst (pc := 30) (v := 0) dX10_ahead_30 (by decide) ?_
      refine ev_iret (pc := 31) dX10_ahead_31 rfl ?_ ?_
      · rfl
      · refine ⟨?_, rfl⟩
        rw [if_pos hG]
        have z1 := Classical.not_not.mp (bI_0.mp zc23)
        rw [z1]
    · -- eq at 23: not taken
      refine ev_iconst (pc := 26) (v := 1) dX10_ahead_26 (by decide) ?_
      refine ev_goto (pc := 27) (tgt := 31) dX10_ahead_27 (by decide) ?_
      refine ev_iret (pc := 31) dX10_ahead_31 rfl ?_ ?_
      · rfl
      · refine ⟨?_, rfl⟩
        rw [if_pos hG]
        rw [(has_1 _).mp (bI_n0.mp zc23)]
  · -- ne at 6: not taken
    refine ev_iconst (pc := 9) (v := (-1)) dX10_ahead_9 (by decide) ?_
    refine ev_iret (pc := 10) dX10_ahead_10 rfl ?_ ?_
    · rfl
    · refine ⟨?_, rfl⟩
      rw [if_neg (bI_0.mp zc6)]
theorem cn_X10_rank_3 (E : ME) (h : AH) (zt : PSt) (za zv : Int32) (m : Nat) (hw : WF h) (hY : STz zt 3 h) (hO : POK zt) (hst : h.2.2.2 0 1 = some 3) (hm : h.2.1 20 4 = nI m) (hm2 : m ≤ 12) (hmt : m = zt.1 1) : Con E mX10_rank 3 0 0 [.ref 0, .int za, .int zv] h (fun r h' => r = some (.int (if thg zt za ∧ (0 ≤ zv ∧ zv ≤ 1) then (if rgF (h.2.1 22) m = 0 then (if zv = 0 then bcI (h.2.1 22 za.toNatClampNeg) else nI (zt.1 1) - 1 - bcI (bhF (h.2.1 22) za m)) else -2) else -1)) ∧ h' = h) := by
  refine con_of2 (L := [some (.ref 0), some (.int za), some (.int zv)]) rfl (Nat.le_of_ble_eq_true rfl) rfl ?_
  refine ev_aload_n (pc := 0) dX10_rank_0 rfl ?_
  refine ev_getR (pc := 1) (q := 3) dX10_rank_1 fX10_19 rfl (wlt hw (by decide)) hst ?_
  refine ev_iload_n (pc := 4) dX10_rank_4 rfl ?_
  refine ev_callVv (S := []) (pc := 5) dX10_rank_5 kX8_hasThing lX10_134 vX8_hasThing (cn_X8_hasThing_3 E h zt za hw hY hO) rfl rfl (wlt hw (by decide)) rfl rfl (Nat.le_of_ble_eq_true rfl) ⟨Nat.le_of_ble_eq_true rfl, Nat.le_of_ble_eq_true rfl⟩ ⟨Nat.le_of_ble_eq_true rfl, Nat.le_of_ble_eq_true rfl⟩ ?_
  refine ev_if_eq (pc := 8) (tgt := 20) dX10_rank_8 (by decide) (fun zc8 => ?_) (fun zc8 => ?_)
  · -- eq at 8: taken
    refine ev_iconst (pc := 20) (v := (-1)) dX10_rank_20 (by decide) ?_
    refine ev_iret (pc := 21) dX10_rank_21 rfl ?_ ?_
    · rfl
    · refine ⟨?_, rfl⟩
      rw [if_neg (show ¬ (thg zt za ∧ (0 ≤ zv ∧ zv ≤ 1)) from fun z => bI_0.mp zc8 z.1)]
  · -- eq at 8: not taken
    refine ev_iload_n (pc := 11) dX10_rank_11 rfl ?_
    refine ev_iconst (pc := 12) (v := 0) dX10_rank_12 (by decide) ?_
    refine ev_iconst (pc := 13) (v := 1) dX10_rank_13 (by decide) ?_
    refine ev_callSv (S := []) (pc := 14) dX10_rank_14 kX10_within lX10_123 sX10_within (cn_X10_within E h zv 0 1) rfl rfl (Nat.le_of_ble_eq_true rfl) ⟨Nat.le_of_ble_eq_true rfl, Nat.le_of_ble_eq_true rfl⟩ ⟨Nat.le_of_ble_eq_true rfl, Nat.le_of_ble_eq_true rfl⟩ ?_
    refine ev_if_ne (pc := 17) (tgt := 22) dX10_rank_17 (by decide) (fun zc17 => ?_) (fun zc17 => ?_)
    · -- ne at 17: taken
      refine ev_aload_n (pc := 22) dX10_rank_22 rfl ?_
      refine ev_getR (pc := 23) (q := 20) dX10_rank_23 fX10_38 rfl (wlt hw (by decide)) (wr hw rfl) ?_
      refine ev_callVv (S := []) (pc := 26) dX10_rank_26 kX6_ringed lX10_192 vX6_ringed (cn_X6_ringed E h m hw hm hm2) rfl rfl (wlt hw (by decide)) rfl rfl (Nat.le_of_ble_eq_true rfl) ⟨Nat.le_of_ble_eq_true rfl, Nat.le_of_ble_eq_true rfl⟩ ⟨Nat.le_of_ble_eq_true rfl, Nat.le_of_ble_eq_true rfl⟩ ?_
      refine ev_if_eq (pc := 29) (tgt := 35) dX10_rank_29 (by decide) (fun zc29 => ?_) (fun zc29 => ?_)
      · -- eq at 29: taken
        refine ev_iload_n (pc := 35) dX10_rank_35 rfl ?_
        refine ev_if_ne (pc := 36) (tgt := 51) dX10_rank_36 (by decide) (fun zc36 => ?_) (fun zc36 => ?_)
        · -- ne at 36: taken
          refine ev_aload_n (pc := 51) dX10_rank_51 rfl ?_
          refine ev_getR (pc := 52) (q := 3) dX10_rank_52 fX10_19 rfl (wlt hw (by decide)) hst ?_
          refine ev_callVv (S := []) (pc := 55) dX10_rank_55 kX8_things lX10_114 vX8_things (cn_X8_things_3 E h zt hw hY hO) rfl rfl (wlt hw (by decide)) rfl rfl (Nat.le_of_ble_eq_true rfl) ⟨Nat.le_of_ble_eq_true rfl, Nat.le_of_ble_eq_true rfl⟩ ⟨Nat.le_of_ble_eq_true rfl, Nat.le_of_ble_eq_true rfl⟩ ?_
          refine ev_iconst (pc := 58) (v := 1) dX10_rank_58 (by decide) ?_
          refine ev_isub (pc := 59) dX10_rank_59 ?_
          refine ev_aload_n (pc := 60) dX10_rank_60 rfl ?_
          refine ev_getR (pc := 61) (q := 20) dX10_rank_61 fX10_38 rfl (wlt hw (by decide)) (wr hw rfl) ?_
          refine ev_iload_n (pc := 64) dX10_rank_64 rfl ?_
          refine ev_callVv (S := [.int ((nI (zt.1 1)) - 1)]) (pc := 65) dX10_rank_65 kX6_behind lX10_203 vX6_behind (cn_X6_behind E h za m hw hm hm2) rfl rfl (wlt hw (by decide)) rfl rfl (Nat.le_of_ble_eq_true rfl) ⟨Nat.le_of_ble_eq_true rfl, Nat.le_of_ble_eq_true rfl⟩ ⟨Nat.le_of_ble_eq_true rfl, Nat.le_of_ble_eq_true rfl⟩ ?_
          refine ev_callSv (S := [.int ((nI (zt.1 1)) - 1)]) (pc := 68) dX10_rank_68 kJ6_bitCount_0f7a4 lX10_198 sJ6_bitCount_0f7a4 (cn_J6_bitCount_0f7a4 E h (bhF (h.2.1 22) za m)) rfl rfl (Nat.le_of_ble_eq_true rfl) ⟨Nat.le_of_ble_eq_true rfl, Nat.le_of_ble_eq_true rfl⟩ ⟨Nat.le_of_ble_eq_true rfl, Nat.le_of_ble_eq_true rfl⟩ ?_
          refine ev_isub (pc := 71) dX10_rank_71 ?_
          refine ev_iret (pc := 72) dX10_rank_72 rfl ?_ ?_
          · rfl
          · refine ⟨?_, rfl⟩
            rw [if_pos (show thg zt za ∧ (0 ≤ zv ∧ zv ≤ 1) from ⟨bI_n0.mp zc8, bI_n0.mp zc17⟩), if_pos zc29, if_neg zc36]
        · -- ne at 36: not taken
          refine ev_aload_n (pc := 39) dX10_rank_39 rfl ?_
          refine ev_getR (pc := 40) (q := 20) dX10_rank_40 fX10_38 rfl (wlt hw (by decide)) (wr hw rfl) ?_
          refine ev_iload_n (pc := 43) dX10_rank_43 rfl ?_
          refine ev_callVv (S := []) (pc := 44) dX10_rank_44 kX6_aheadOf lX10_146 vX6_aheadOf (cn_X6_aheadOf E h za m hw hm hm2) rfl rfl (wlt hw (by decide)) rfl rfl (Nat.le_of_ble_eq_true rfl) ⟨Nat.le_of_ble_eq_true rfl, Nat.le_of_ble_eq_true rfl⟩ ⟨Nat.le_of_ble_eq_true rfl, Nat.le_of_ble_eq_true rfl⟩ ?_
          refine ev_eqI (e' := h.2.1 22 za.toNatClampNeg) (if_pos (by rw [hmt]; exact bI_n0.mp zc8)) ?_
          refine ev_callSv (S := []) (pc := 47) dX10_rank_47 kJ6_bitCount_0f7a4 lX10_198 sJ6_bitCount_0f7a4 (cn_J6_bitCount_0f7a4 E h (h.2.1 22 za.toNatClampNeg)) rfl rfl (Nat.le_of_ble_eq_true rfl) ⟨Nat.le_of_ble_eq_true rfl, Nat.le_of_ble_eq_true rfl⟩ ⟨Nat.le_of_ble_eq_true rfl, Nat.le_of_ble_eq_true rfl⟩ ?_
          refine ev_iret (pc := 50) dX10_rank_50 rfl ?_ ?_
          · rfl
          · refine ⟨?_, rfl⟩
            rw [if_pos (show thg zt za ∧ (0 ≤ zv ∧ zv ≤ 1) from ⟨bI_n0.mp zc8, bI_n0.mp zc17⟩), if_pos zc29, if_pos zc36]
      · -- eq at 29: not taken
        refine ev_bipush (pc := 32) (v := (-2)) dX10_rank_32 (by decide) ?_
        refine ev_iret (pc := 34) dX10_rank_34 rfl ?_ ?_
        · rfl
        · refine ⟨?_, rfl⟩
          rw [if_pos (show thg zt za ∧ (0 ≤ zv ∧ zv ≤ 1) from ⟨bI_n0.mp zc8, bI_n0.mp zc17⟩), if_neg zc29]
    · -- ne at 17: not taken
      refine ev_iconst (pc := 20) (v := (-1)) dX10_rank_20 (by decide) ?_
      refine ev_iret (pc := 21) dX10_rank_21 rfl ?_ ?_
      · rfl
      · refine ⟨?_, rfl⟩
        rw [if_neg (show ¬ (thg zt za ∧ (0 ≤ zv ∧ zv ≤ 1)) from fun z => bI_0.mp zc17 z.2)]
theorem cn_X10_thing_3 (E : ME) (h : AH) (zt : PSt) (za zv : Int32) (m : Nat) (hw : WF h) (hY : STz zt 3 h) (hO : POK zt) (hst : h.2.2.2 0 1 = some 3) (hm : h.2.1 20 4 = nI m) (hm2 : m ≤ 12) (hmt : m = zt.1 1) : Con E mX10_thing 3 0 0 [.ref 0, .int za, .int zv] h (fun r h' => r = some (.int (if thg zt za then (if zv = 0 then nI (zt.2 0 za.toNatClampNeg) else if zv = 1 then nI (zt.2 1 za.toNatClampNeg) else if zv = 2 then nI (zt.2 2 za.toNatClampNeg ||| zt.2 3 za.toNatClampNeg) else if zv = 3 then h.2.1 22 za.toNatClampNeg else -1) else -1)) ∧ h' = h) := by
  refine con_of2 (L := [some (.ref 0), some (.int za), some (.int zv)]) rfl (Nat.le_of_ble_eq_true rfl) rfl ?_
  refine ev_aload_n (pc := 0) dX10_thing_0 rfl ?_
  refine ev_getR (pc := 1) (q := 3) dX10_thing_1 fX10_19 rfl (wlt hw (by decide)) hst ?_
  refine ev_iload_n (pc := 4) dX10_thing_4 rfl ?_
  refine ev_callVv (S := []) (pc := 5) dX10_thing_5 kX8_hasThing lX10_134 vX8_hasThing (cn_X8_hasThing_3 E h zt za hw hY hO) rfl rfl (wlt hw (by decide)) rfl rfl (Nat.le_of_ble_eq_true rfl) ⟨Nat.le_of_ble_eq_true rfl, Nat.le_of_ble_eq_true rfl⟩ ⟨Nat.le_of_ble_eq_true rfl, Nat.le_of_ble_eq_true rfl⟩ ?_
  refine ev_if_ne (pc := 8) (tgt := 13) dX10_thing_8 (by decide) (fun zc8 => ?_) (fun zc8 => ?_)
  · -- ne at 8: taken
    refine ev_iload_n (pc := 13) dX10_thing_13 rfl ?_
    refine ev_nmI (fun zsv ezsv => ?_)
    by_cases zq0 : zsv = 0
    · subst zq0
      refine ev_tabIn (pc := 14) (off := 30) (tgt := 44) dX10_thing_14 (by decide) (by decide) (by decide +kernel) (by decide) ?_
      refine ev_aload_n (pc := 44) dX10_thing_44 rfl ?_
      refine ev_getR (pc := 45) (q := 3) dX10_thing_45 fX10_19 rfl (wlt hw (by decide)) hst ?_
      refine ev_iload_n (pc := 48) dX10_thing_48 rfl ?_
      refine ev_callVv (S := []) (pc := 49) dX10_thing_49 kX8_cubesOf lX10_137 vX8_cubesOf (cn_X8_cubesOf_3 E h zt za hw hY hO) rfl rfl (wlt hw (by decide)) rfl rfl (Nat.le_of_ble_eq_true rfl) ⟨Nat.le_of_ble_eq_true rfl, Nat.le_of_ble_eq_true rfl⟩ ⟨Nat.le_of_ble_eq_true rfl, Nat.le_of_ble_eq_true rfl⟩ ?_
      refine ev_iret (pc := 52) dX10_thing_52 rfl ?_ ?_
      · rfl
      · refine ⟨?_, rfl⟩
        have hG := bI_n0.mp zc8
        rw [if_pos hG]
        subst ezsv
        rw [if_pos hG]
        rfl
    by_cases zq1 : zsv = 1
    · subst zq1
      refine ev_tabIn (pc := 14) (off := 39) (tgt := 53) dX10_thing_14 (by decide) (by decide) (by decide +kernel) (by decide) ?_
      refine ev_aload_n (pc := 53) dX10_thing_53 rfl ?_
      refine ev_getR (pc := 54) (q := 3) dX10_thing_54 fX10_19 rfl (wlt hw (by decide)) hst ?_
      refine ev_iload_n (pc := 57) dX10_thing_57 rfl ?_
      refine ev_callVv (S := []) (pc := 58) dX10_thing_58 kX8_lengthOf lX10_140 vX8_lengthOf (cn_X8_lengthOf_3 E h zt za hw hY hO) rfl rfl (wlt hw (by decide)) rfl rfl (Nat.le_of_ble_eq_true rfl) ⟨Nat.le_of_ble_eq_true rfl, Nat.le_of_ble_eq_true rfl⟩ ⟨Nat.le_of_ble_eq_true rfl, Nat.le_of_ble_eq_true rfl⟩ ?_
      refine ev_iret (pc := 61) dX10_thing_61 rfl ?_ ?_
      · rfl
      · refine ⟨?_, rfl⟩
        have hG := bI_n0.mp zc8
        rw [if_pos hG]
        subst ezsv
        rw [if_pos hG]
        rfl
    by_cases zq2 : zsv = 2
    · subst zq2
      refine ev_tabIn (pc := 14) (off := 48) (tgt := 62) dX10_thing_14 (by decide) (by decide) (by decide +kernel) (by decide) ?_
      refine ev_aload_n (pc := 62) dX10_thing_62 rfl ?_
      refine ev_getR (pc := 63) (q := 3) dX10_thing_63 fX10_19 rfl (wlt hw (by decide)) hst ?_
      refine ev_iload_n (pc := 66) dX10_thing_66 rfl ?_
      refine ev_callVv (S := []) (pc := 67) dX10_thing_67 kX8_laterThan lX10_143 vX8_laterThan (cn_X8_laterThan_3 E h zt za hw hY hO) rfl rfl (wlt hw (by decide)) rfl rfl (Nat.le_of_ble_eq_true rfl) ⟨Nat.le_of_ble_eq_true rfl, Nat.le_of_ble_eq_true rfl⟩ ⟨Nat.le_of_ble_eq_true rfl, Nat.le_of_ble_eq_true rfl⟩ ?_
      refine ev_iret (pc := 70) dX10_thing_70 rfl ?_ ?_
      · rfl
      · refine ⟨?_, rfl⟩
        have hG := bI_n0.mp zc8
        rw [if_pos hG]
        subst ezsv
        rw [if_pos hG]
        rfl
    by_cases zq3 : zsv = 3
    · subst zq3
      refine ev_tabIn (pc := 14) (off := 57) (tgt := 71) dX10_thing_14 (by decide) (by decide) (by decide +kernel) (by decide) ?_
      refine ev_aload_n (pc := 71) dX10_thing_71 rfl ?_
      refine ev_getR (pc := 72) (q := 20) dX10_thing_72 fX10_38 rfl (wlt hw (by decide)) (wr hw rfl) ?_
      refine ev_iload_n (pc := 75) dX10_thing_75 rfl ?_
      refine ev_callVv (S := []) (pc := 76) dX10_thing_76 kX6_aheadOf lX10_146 vX6_aheadOf (cn_X6_aheadOf E h za m hw hm hm2) rfl rfl (wlt hw (by decide)) rfl rfl (Nat.le_of_ble_eq_true rfl) ⟨Nat.le_of_ble_eq_true rfl, Nat.le_of_ble_eq_true rfl⟩ ⟨Nat.le_of_ble_eq_true rfl, Nat.le_of_ble_eq_true rfl⟩ ?_
      refine ev_iret (pc := 79) dX10_thing_79 rfl ?_ ?_
      · rfl
      · refine ⟨?_, rfl⟩
        have hG := bI_n0.mp zc8
        rw [if_pos hG]
        subst ezsv
        rw [if_pos (by rw [hmt]; exact hG)]
        rfl
    have zhout : zsv.toInt < 0 ∨ 3 < zsv.toInt := by
      have nzq0 := i32_ne zq0
      have nzq1 := i32_ne zq1
      have nzq2 := i32_ne zq2
      have nzq3 := i32_ne zq3
      replace nzq0 : ¬ zsv.toInt = 0 := nzq0
      replace nzq1 : ¬ zsv.toInt = 1 := nzq1
      replace nzq2 : ¬ zsv.toInt = 2 := nzq2
      replace nzq3 : ¬ zsv.toInt = 3 := nzq3
      omega
    refine ev_tabOut (pc := 14) (tgt := 80) dX10_thing_14 zhout (by decide) ?_
    refine ev_iconst (pc := 80) (v := (-1)) dX10_thing_80 (by decide) ?_
    refine ev_iret (pc := 81) dX10_thing_81 rfl ?_ ?_
    · rfl
    · refine ⟨?_, rfl⟩
      have hG := bI_n0.mp zc8
      rw [if_pos hG]
      subst ezsv
      rw [if_neg zq0, if_neg zq1, if_neg zq2, if_neg zq3]
  · -- ne at 8: not taken
    refine ev_iconst (pc := 11) (v := (-1)) dX10_thing_11 (by decide) ?_
    refine ev_iret (pc := 12) dX10_thing_12 rfl ?_ ?_
    · rfl
    · refine ⟨?_, rfl⟩
      rw [if_neg (bI_0.mp zc8)]
theorem cn_X10_areTwoThings_11 (E : ME) (h : AH) (zt : PSt) (za zb : Int32) (hw : WF h) (hY : STz zt 11 h) (hO : POK zt) (hst : h.2.2.2 0 1 = some 11) : Con E mX10_areTwoThings 2 0 0 [.ref 0, .int za, .int zb] h (fun r h' => r = some (.int (bI (thg zt za ∧ thg zt zb ∧ ¬ za = zb))) ∧ h' = h) := by
  refine con_of2 (L := [some (.ref 0), some (.int za), some (.int zb)]) rfl (Nat.le_of_ble_eq_true rfl) rfl ?_
  refine ev_iload_n (pc := 0) dX10_areTwoThings_0 rfl ?_
  refine ev_iload_n (pc := 1) dX10_areTwoThings_1 rfl ?_
  refine ev_icmp_eq (pc := 2) (tgt := 31) dX10_areTwoThings_2 (by decide) (fun zc2 => ?_) (fun zc2 => ?_)
  · -- eq at 2: taken
    refine ev_iconst (pc := 31) (v := 0) dX10_areTwoThings_31 (by decide) ?_
    refine ev_iret (pc := 32) dX10_areTwoThings_32 rfl ?_ ?_
    · first | rfl | exact nar_bI _ | (simp only [*]; exact nar_bI _) | (simp [narrow, *]; done)
    · refine ⟨?_, rfl⟩
      rw [bI_f (fun z => z.2.2 zc2)]
  · -- eq at 2: not taken
    refine ev_aload_n (pc := 5) dX10_areTwoThings_5 rfl ?_
    refine ev_getR (pc := 6) (q := 11) dX10_areTwoThings_6 fX10_19 rfl (wlt hw (by decide)) hst ?_
    refine ev_iload_n (pc := 9) dX10_areTwoThings_9 rfl ?_
    refine ev_callVv (S := []) (pc := 10) dX10_areTwoThings_10 kX8_hasThing lX10_134 vX8_hasThing (cn_X8_hasThing_11 E h zt za hw hY hO) rfl rfl (wlt hw (by decide)) rfl rfl (Nat.le_of_ble_eq_true rfl) ⟨Nat.le_of_ble_eq_true rfl, Nat.le_of_ble_eq_true rfl⟩ ⟨Nat.le_of_ble_eq_true rfl, Nat.le_of_ble_eq_true rfl⟩ ?_
    refine ev_if_eq (pc := 13) (tgt := 31) dX10_areTwoThings_13 (by decide) (fun zc13 => ?_) (fun zc13 => ?_)
    · -- eq at 13: taken
      refine ev_iconst (pc := 31) (v := 0) dX10_areTwoThings_31 (by decide) ?_
      refine ev_iret (pc := 32) dX10_areTwoThings_32 rfl ?_ ?_
      · first | rfl | exact nar_bI _ | (simp only [*]; exact nar_bI _) | (simp [narrow, *]; done)
      · refine ⟨?_, rfl⟩
        rw [bI_f (fun z => bI_0.mp zc13 z.1)]
    · -- eq at 13: not taken
      refine ev_aload_n (pc := 16) dX10_areTwoThings_16 rfl ?_
      refine ev_getR (pc := 17) (q := 11) dX10_areTwoThings_17 fX10_19 rfl (wlt hw (by decide)) hst ?_
      refine ev_iload_n (pc := 20) dX10_areTwoThings_20 rfl ?_
      refine ev_callVv (S := []) (pc := 21) dX10_areTwoThings_21 kX8_hasThing lX10_134 vX8_hasThing (cn_X8_hasThing_11 E h zt zb hw hY hO) rfl rfl (wlt hw (by decide)) rfl rfl (Nat.le_of_ble_eq_true rfl) ⟨Nat.le_of_ble_eq_true rfl, Nat.le_of_ble_eq_true rfl⟩ ⟨Nat.le_of_ble_eq_true rfl, Nat.le_of_ble_eq_true rfl⟩ ?_
      refine ev_if_eq (pc := 24) (tgt := 31) dX10_areTwoThings_24 (by decide) (fun zc24 => ?_) (fun zc24 => ?_)
      · -- eq at 24: taken
        refine ev_iconst (pc := 31) (v := 0) dX10_areTwoThings_31 (by decide) ?_
        refine ev_iret (pc := 32) dX10_areTwoThings_32 rfl ?_ ?_
        · first | rfl | exact nar_bI _ | (simp only [*]; exact nar_bI _) | (simp [narrow, *]; done)
        · refine ⟨?_, rfl⟩
          rw [bI_f (fun z => bI_0.mp zc24 z.2.1)]
      · -- eq at 24: not taken
        refine ev_iconst (pc := 27) (v := 1) dX10_areTwoThings_27 (by decide) ?_
        refine ev_goto (pc := 28) (tgt := 32) dX10_areTwoThings_28 (by decide) ?_
        refine ev_iret (pc := 32) dX10_areTwoThings_32 rfl ?_ ?_
        · first | rfl | exact nar_bI _ | (simp only [*]; exact nar_bI _) | (simp [narrow, *]; done)
        · refine ⟨?_, rfl⟩
          rw [bI_t ⟨bI_n0.mp zc13, bI_n0.mp zc24, zc2⟩]
theorem cn_X10_ahead_11 (E : ME) (h : AH) (zt : PSt) (za zb : Int32) (m : Nat) (hw : WF h) (hY : STz zt 11 h) (hO : POK zt) (hst : h.2.2.2 0 1 = some 11) (hm : h.2.1 20 4 = nI m) (hm2 : m ≤ 12) (hmt : m = zt.1 1) : Con E mX10_ahead 3 0 0 [.ref 0, .int za, .int zb] h (fun r h' => r = some (.int (if thg zt za ∧ thg zt zb ∧ ¬ za = zb then ((h.2.1 22 zb.toNatClampNeg) >>> (za &&& 31)) &&& 1 else -1)) ∧ h' = h) := by
  refine con_of2 (L := [some (.ref 0), some (.int za), some (.int zb)]) rfl (Nat.le_of_ble_eq_true rfl) rfl ?_
  refine ev_aload_n (pc := 0) dX10_ahead_0 rfl ?_
  refine ev_iload_n (pc := 1) dX10_ahead_1 rfl ?_
  refine ev_iload_n (pc := 2) dX10_ahead_2 rfl ?_
  refine ev_callVv (S := []) (pc := 3) dX10_ahead_3 kX10_areTwoThings lX10_185 vX10_areTwoThings (cn_X10_areTwoThings_11 E h zt za zb hw hY hO hst) rfl rfl (wlt hw (by decide)) rfl rfl (Nat.le_of_ble_eq_true rfl) ⟨Nat.le_of_ble_eq_true rfl, Nat.le_of_ble_eq_true rfl⟩ ⟨Nat.le_of_ble_eq_true rfl, Nat.le_of_ble_eq_true rfl⟩ ?_
  refine ev_if_ne (pc := 6) (tgt := 11) dX10_ahead_6 (by decide) (fun zc6 => ?_) (fun zc6 => ?_)
  · -- ne at 6: taken
    refine ev_aload_n (pc := 11) dX10_ahead_11 rfl ?_
    refine ev_getR (pc := 12) (q := 20) dX10_ahead_12 fX10_38 rfl (wlt hw (by decide)) (wr hw rfl) ?_
    refine ev_iload_n (pc := 15) dX10_ahead_15 rfl ?_
    refine ev_callVv (S := []) (pc := 16) dX10_ahead_16 kX6_aheadOf lX10_146 vX6_aheadOf (cn_X6_aheadOf E h zb m hw hm hm2) rfl rfl (wlt hw (by decide)) rfl rfl (Nat.le_of_ble_eq_true rfl) ⟨Nat.le_of_ble_eq_true rfl, Nat.le_of_ble_eq_true rfl⟩ ⟨Nat.le_of_ble_eq_true rfl, Nat.le_of_ble_eq_true rfl⟩ ?_
    have hG := bI_n0.mp zc6
    refine ev_eqI (e' := h.2.1 22 zb.toNatClampNeg) (if_pos (by rw [hmt]; exact hG.2.1)) ?_
    refine ev_iload_n (pc := 19) dX10_ahead_19 rfl ?_
    refine ev_callSv (S := []) (pc := 20) dX10_ahead_20 kX10_has lX10_189 sX10_has (cn_X10_has E h (h.2.1 22 zb.toNatClampNeg) za) rfl rfl (Nat.le_of_ble_eq_true rfl) ⟨Nat.le_of_ble_eq_true rfl, Nat.le_of_ble_eq_true rfl⟩ ⟨Nat.le_of_ble_eq_true rfl, Nat.le_of_ble_eq_true rfl⟩ ?_
    refine ev_if_eq (pc := 23) (tgt := 30) dX10_ahead_23 (by decide) (fun zc23 => ?_) (fun zc23 => ?_)
    · -- eq at 23: taken
      refine ev_iconst (pc := 30) (v := 0) dX10_ahead_30 (by decide) ?_
      refine ev_iret (pc := 31) dX10_ahead_31 rfl ?_ ?_
      · rfl
      · refine ⟨?_, rfl⟩
        rw [if_pos hG]
        have z1 := Classical.not_not.mp (bI_0.mp zc23)
        rw [z1]
    · -- eq at 23: not taken
      refine ev_iconst (pc := 26) (v := 1) dX10_ahead_26 (by decide) ?_
      refine ev_goto (pc := 27) (tgt := 31) dX10_ahead_27 (by decide) ?_
      refine ev_iret (pc := 31) dX10_ahead_31 rfl ?_ ?_
      · rfl
      · refine ⟨?_, rfl⟩
        rw [if_pos hG]
        rw [(has_1 _).mp (bI_n0.mp zc23)]
  · -- ne at 6: not taken
    refine ev_iconst (pc := 9) (v := (-1)) dX10_ahead_9 (by decide) ?_
    refine ev_iret (pc := 10) dX10_ahead_10 rfl ?_ ?_
    · rfl
    · refine ⟨?_, rfl⟩
      rw [if_neg (bI_0.mp zc6)]
theorem cn_X10_rank_11 (E : ME) (h : AH) (zt : PSt) (za zv : Int32) (m : Nat) (hw : WF h) (hY : STz zt 11 h) (hO : POK zt) (hst : h.2.2.2 0 1 = some 11) (hm : h.2.1 20 4 = nI m) (hm2 : m ≤ 12) (hmt : m = zt.1 1) : Con E mX10_rank 3 0 0 [.ref 0, .int za, .int zv] h (fun r h' => r = some (.int (if thg zt za ∧ (0 ≤ zv ∧ zv ≤ 1) then (if rgF (h.2.1 22) m = 0 then (if zv = 0 then bcI (h.2.1 22 za.toNatClampNeg) else nI (zt.1 1) - 1 - bcI (bhF (h.2.1 22) za m)) else -2) else -1)) ∧ h' = h) := by
  refine con_of2 (L := [some (.ref 0), some (.int za), some (.int zv)]) rfl (Nat.le_of_ble_eq_true rfl) rfl ?_
  refine ev_aload_n (pc := 0) dX10_rank_0 rfl ?_
  refine ev_getR (pc := 1) (q := 11) dX10_rank_1 fX10_19 rfl (wlt hw (by decide)) hst ?_
  refine ev_iload_n (pc := 4) dX10_rank_4 rfl ?_
  refine ev_callVv (S := []) (pc := 5) dX10_rank_5 kX8_hasThing lX10_134 vX8_hasThing (cn_X8_hasThing_11 E h zt za hw hY hO) rfl rfl (wlt hw (by decide)) rfl rfl (Nat.le_of_ble_eq_true rfl) ⟨Nat.le_of_ble_eq_true rfl, Nat.le_of_ble_eq_true rfl⟩ ⟨Nat.le_of_ble_eq_true rfl, Nat.le_of_ble_eq_true rfl⟩ ?_
  refine ev_if_eq (pc := 8) (tgt := 20) dX10_rank_8 (by decide) (fun zc8 => ?_) (fun zc8 => ?_)
  · -- eq at 8: taken
    refine ev_iconst (pc := 20) (v := (-1)) dX10_rank_20 (by decide) ?_
    refine ev_iret (pc := 21) dX10_rank_21 rfl ?_ ?_
    · rfl
    · refine ⟨?_, rfl⟩
      rw [if_neg (show ¬ (thg zt za ∧ (0 ≤ zv ∧ zv ≤ 1)) from fun z => bI_0.mp zc8 z.1)]
  · -- eq at 8: not taken
    refine ev_iload_n (pc := 11) dX10_rank_11 rfl ?_
    refine ev_iconst (pc := 12) (v := 0) dX10_rank_12 (by decide) ?_
    refine ev_iconst (pc := 13) (v := 1) dX10_rank_13 (by decide) ?_
    refine ev_callSv (S := []) (pc := 14) dX10_rank_14 kX10_within lX10_123 sX10_within (cn_X10_within E h zv 0 1) rfl rfl (Nat.le_of_ble_eq_true rfl) ⟨Nat.le_of_ble_eq_true rfl, Nat.le_of_ble_eq_true rfl⟩ ⟨Nat.le_of_ble_eq_true rfl, Nat.le_of_ble_eq_true rfl⟩ ?_
    refine ev_if_ne (pc := 17) (tgt := 22) dX10_rank_17 (by decide) (fun zc17 => ?_) (fun zc17 => ?_)
    · -- ne at 17: taken
      refine ev_aload_n (pc := 22) dX10_rank_22 rfl ?_
      refine ev_getR (pc := 23) (q := 20) dX10_rank_23 fX10_38 rfl (wlt hw (by decide)) (wr hw rfl) ?_
      refine ev_callVv (S := []) (pc := 26) dX10_rank_26 kX6_ringed lX10_192 vX6_ringed (cn_X6_ringed E h m hw hm hm2) rfl rfl (wlt hw (by decide)) rfl rfl (Nat.le_of_ble_eq_true rfl) ⟨Nat.le_of_ble_eq_true rfl, Nat.le_of_ble_eq_true rfl⟩ ⟨Nat.le_of_ble_eq_true rfl, Nat.le_of_ble_eq_true rfl⟩ ?_
      refine ev_if_eq (pc := 29) (tgt := 35) dX10_rank_29 (by decide) (fun zc29 => ?_) (fun zc29 => ?_)
      · -- eq at 29: taken
        refine ev_iload_n (pc := 35) dX10_rank_35 rfl ?_
        refine ev_if_ne (pc := 36) (tgt := 51) dX10_rank_36 (by decide) (fun zc36 => ?_) (fun zc36 => ?_)
        · -- ne at 36: taken
          refine ev_aload_n (pc := 51) dX10_rank_51 rfl ?_
          refine ev_getR (pc := 52) (q := 11) dX10_rank_52 fX10_19 rfl (wlt hw (by decide)) hst ?_
          refine ev_callVv (S := []) (pc := 55) dX10_rank_55 kX8_things lX10_114 vX8_things (cn_X8_things_11 E h zt hw hY hO) rfl rfl (wlt hw (by decide)) rfl rfl (Nat.le_of_ble_eq_true rfl) ⟨Nat.le_of_ble_eq_true rfl, Nat.le_of_ble_eq_true rfl⟩ ⟨Nat.le_of_ble_eq_true rfl, Nat.le_of_ble_eq_true rfl⟩ ?_
          refine ev_iconst (pc := 58) (v := 1) dX10_rank_58 (by decide) ?_
          refine ev_isub (pc := 59) dX10_rank_59 ?_
          refine ev_aload_n (pc := 60) dX10_rank_60 rfl ?_
          refine ev_getR (pc := 61) (q := 20) dX10_rank_61 fX10_38 rfl (wlt hw (by decide)) (wr hw rfl) ?_
          refine ev_iload_n (pc := 64) dX10_rank_64 rfl ?_
          refine ev_callVv (S := [.int ((nI (zt.1 1)) - 1)]) (pc := 65) dX10_rank_65 kX6_behind lX10_203 vX6_behind (cn_X6_behind E h za m hw hm hm2) rfl rfl (wlt hw (by decide)) rfl rfl (Nat.le_of_ble_eq_true rfl) ⟨Nat.le_of_ble_eq_true rfl, Nat.le_of_ble_eq_true rfl⟩ ⟨Nat.le_of_ble_eq_true rfl, Nat.le_of_ble_eq_true rfl⟩ ?_
          refine ev_callSv (S := [.int ((nI (zt.1 1)) - 1)]) (pc := 68) dX10_rank_68 kJ6_bitCount_0f7a4 lX10_198 sJ6_bitCount_0f7a4 (cn_J6_bitCount_0f7a4 E h (bhF (h.2.1 22) za m)) rfl rfl (Nat.le_of_ble_eq_true rfl) ⟨Nat.le_of_ble_eq_true rfl, Nat.le_of_ble_eq_true rfl⟩ ⟨Nat.le_of_ble_eq_true rfl, Nat.le_of_ble_eq_true rfl⟩ ?_
          refine ev_isub (pc := 71) dX10_rank_71 ?_
          refine ev_iret (pc := 72) dX10_rank_72 rfl ?_ ?_
          · rfl
          · refine ⟨?_, rfl⟩
            rw [if_pos (show thg zt za ∧ (0 ≤ zv ∧ zv ≤ 1) from ⟨bI_n0.mp zc8, bI_n0.mp zc17⟩), if_pos zc29, if_neg zc36]
        · -- ne at 36: not taken
          refine ev_aload_n (pc := 39) dX10_rank_39 rfl ?_
          refine ev_getR (pc := 40) (q := 20) dX10_rank_40 fX10_38 rfl (wlt hw (by decide)) (wr hw rfl) ?_
          refine ev_iload_n (pc := 43) dX10_rank_43 rfl ?_
          refine ev_callVv (S := []) (pc := 44) dX10_rank_44 kX6_aheadOf lX10_146 vX6_aheadOf (cn_X6_aheadOf E h za m hw hm hm2) rfl rfl (wlt hw (by decide)) rfl rfl (Nat.le_of_ble_eq_true rfl) ⟨Nat.le_of_ble_eq_true rfl, Nat.le_of_ble_eq_true rfl⟩ ⟨Nat.le_of_ble_eq_true rfl, Nat.le_of_ble_eq_true rfl⟩ ?_
          refine ev_eqI (e' := h.2.1 22 za.toNatClampNeg) (if_pos (by rw [hmt]; exact bI_n0.mp zc8)) ?_
          refine ev_callSv (S := []) (pc := 47) dX10_rank_47 kJ6_bitCount_0f7a4 lX10_198 sJ6_bitCount_0f7a4 (cn_J6_bitCount_0f7a4 E h (h.2.1 22 za.toNatClampNeg)) rfl rfl (Nat.le_of_ble_eq_true rfl) ⟨Nat.le_of_ble_eq_true rfl, Nat.le_of_ble_eq_true rfl⟩ ⟨Nat.le_of_ble_eq_true rfl, Nat.le_of_ble_eq_true rfl⟩ ?_
          refine ev_iret (pc := 50) dX10_rank_50 rfl ?_ ?_
          · rfl
          · refine ⟨?_, rfl⟩
            rw [if_pos (show thg zt za ∧ (0 ≤ zv ∧ zv ≤ 1) from ⟨bI_n0.mp zc8, bI_n0.mp zc17⟩), if_pos zc29, if_pos zc36]
      · -- eq at 29: not taken
        refine ev_bipush (pc := 32) (v := (-2)) dX10_rank_32 (by decide) ?_
        refine ev_iret (pc := 34) dX10_rank_34 rfl ?_ ?_
        · rfl
        · refine ⟨?_, rfl⟩
          rw [if_pos (show thg zt za ∧ (0 ≤ zv ∧ zv ≤ 1) from ⟨bI_n0.mp zc8, bI_n0.mp zc17⟩), if_neg zc29]
    · -- ne at 17: not taken
      refine ev_iconst (pc := 20) (v := (-1)) dX10_rank_20 (by decide) ?_
      refine ev_iret (pc := 21) dX10_rank_21 rfl ?_ ?_
      · rfl
      · refine ⟨?_, rfl⟩
        rw [if_neg (show ¬ (thg zt za ∧ (0 ≤ zv ∧ zv ≤ 1)) from fun z => bI_0.mp zc17 z.2)]
theorem cn_X10_thing_11 (E : ME) (h : AH) (zt : PSt) (za zv : Int32) (m : Nat) (hw : WF h) (hY : STz zt 11 h) (hO : POK zt) (hst : h.2.2.2 0 1 = some 11) (hm : h.2.1 20 4 = nI m) (hm2 : m ≤ 12) (hmt : m = zt.1 1) : Con E mX10_thing 3 0 0 [.ref 0, .int za, .int zv] h (fun r h' => r = some (.int (if thg zt za then (if zv = 0 then nI (zt.2 0 za.toNatClampNeg) else if zv = 1 then nI (zt.2 1 za.toNatClampNeg) else if zv = 2 then nI (zt.2 2 za.toNatClampNeg ||| zt.2 3 za.toNatClampNeg) else if zv = 3 then h.2.1 22 za.toNatClampNeg else -1) else -1)) ∧ h' = h) := by
  refine con_of2 (L := [some (.ref 0), some (.int za), some (.int zv)]) rfl (Nat.le_of_ble_eq_true rfl) rfl ?_
  refine ev_aload_n (pc := 0) dX10_thing_0 rfl ?_
  refine ev_getR (pc := 1) (q := 11) dX10_thing_1 fX10_19 rfl (wlt hw (by decide)) hst ?_
  refine ev_iload_n (pc := 4) dX10_thing_4 rfl ?_
  refine ev_callVv (S := []) (pc := 5) dX10_thing_5 kX8_hasThing lX10_134 vX8_hasThing (cn_X8_hasThing_11 E h zt za hw hY hO) rfl rfl (wlt hw (by decide)) rfl rfl (Nat.le_of_ble_eq_true rfl) ⟨Nat.le_of_ble_eq_true rfl, Nat.le_of_ble_eq_true rfl⟩ ⟨Nat.le_of_ble_eq_true rfl, Nat.le_of_ble_eq_true rfl⟩ ?_
  refine ev_if_ne (pc := 8) (tgt := 13) dX10_thing_8 (by decide) (fun zc8 => ?_) (fun zc8 => ?_)
  · -- ne at 8: taken
    refine ev_iload_n (pc := 13) dX10_thing_13 rfl ?_
    refine ev_nmI (fun zsv ezsv => ?_)
    by_cases zq0 : zsv = 0
    · subst zq0
      refine ev_tabIn (pc := 14) (off := 30) (tgt := 44) dX10_thing_14 (by decide) (by decide) (by decide +kernel) (by decide) ?_
      refine ev_aload_n (pc := 44) dX10_thing_44 rfl ?_
      refine ev_getR (pc := 45) (q := 11) dX10_thing_45 fX10_19 rfl (wlt hw (by decide)) hst ?_
      refine ev_iload_n (pc := 48) dX10_thing_48 rfl ?_
      refine ev_callVv (S := []) (pc := 49) dX10_thing_49 kX8_cubesOf lX10_137 vX8_cubesOf (cn_X8_cubesOf_11 E h zt za hw hY hO) rfl rfl (wlt hw (by decide)) rfl rfl (Nat.le_of_ble_eq_true rfl) ⟨Nat.le_of_ble_eq_true rfl, Nat.le_of_ble_eq_true rfl⟩ ⟨Nat.le_of_ble_eq_true rfl, Nat.le_of_ble_eq_true rfl⟩ ?_
      refine ev_iret (pc := 52) dX10_thing_52 rfl ?_ ?_
      · rfl
      · refine ⟨?_, rfl⟩
        have hG := bI_n0.mp zc8
        rw [if_pos hG]
        subst ezsv
        rw [if_pos hG]
        rfl
    by_cases zq1 : zsv = 1
    · subst zq1
      refine ev_tabIn (pc := 14) (off := 39) (tgt := 53) dX10_thing_14 (by decide) (by decide) (by decide +kernel) (by decide) ?_
      refine ev_aload_n (pc := 53) dX10_thing_53 rfl ?_
      refine ev_getR (pc := 54) (q := 11) dX10_thing_54 fX10_19 rfl (wlt hw (by decide)) hst ?_
      refine ev_iload_n (pc := 57) dX10_thing_57 rfl ?_
      refine ev_callVv (S := []) (pc := 58) dX10_thing_58 kX8_lengthOf lX10_140 vX8_lengthOf (cn_X8_lengthOf_11 E h zt za hw hY hO) rfl rfl (wlt hw (by decide)) rfl rfl (Nat.le_of_ble_eq_true rfl) ⟨Nat.le_of_ble_eq_true rfl, Nat.le_of_ble_eq_true rfl⟩ ⟨Nat.le_of_ble_eq_true rfl, Nat.le_of_ble_eq_true rfl⟩ ?_
      refine ev_iret (pc := 61) dX10_thing_61 rfl ?_ ?_
      · rfl
      · refine ⟨?_, rfl⟩
        have hG := bI_n0.mp zc8
        rw [if_pos hG]
        subst ezsv
        rw [if_pos hG]
        rfl
    by_cases zq2 : zsv = 2
    · subst zq2
      refine ev_tabIn (pc := 14) (off := 48) (tgt := 62) dX10_thing_14 (by decide) (by decide) (by decide +kernel) (by decide) ?_
      refine ev_aload_n (pc := 62) dX10_thing_62 rfl ?_
      refine ev_getR (pc := 63) (q := 11) dX10_thing_63 fX10_19 rfl (wlt hw (by decide)) hst ?_
      refine ev_iload_n (pc := 66) dX10_thing_66 rfl ?_
      refine ev_callVv (S := []) (pc := 67) dX10_thing_67 kX8_laterThan lX10_143 vX8_laterThan (cn_X8_laterThan_11 E h zt za hw hY hO) rfl rfl (wlt hw (by decide)) rfl rfl (Nat.le_of_ble_eq_true rfl) ⟨Nat.le_of_ble_eq_true rfl, Nat.le_of_ble_eq_true rfl⟩ ⟨Nat.le_of_ble_eq_true rfl, Nat.le_of_ble_eq_true rfl⟩ ?_
      refine ev_iret (pc := 70) dX10_thing_70 rfl ?_ ?_
      · rfl
      · refine ⟨?_, rfl⟩
        have hG := bI_n0.mp zc8
        rw [if_pos hG]
        subst ezsv
        rw [if_pos hG]
        rfl
    by_cases zq3 : zsv = 3
    · subst zq3
      refine ev_tabIn (pc := 14) (off := 57) (tgt := 71) dX10_thing_14 (by decide) (by decide) (by decide +kernel) (by decide) ?_
      refine ev_aload_n (pc := 71) dX10_thing_71 rfl ?_
      refine ev_getR (pc := 72) (q := 20) dX10_thing_72 fX10_38 rfl (wlt hw (by decide)) (wr hw rfl) ?_
      refine ev_iload_n (pc := 75) dX10_thing_75 rfl ?_
      refine ev_callVv (S := []) (pc := 76) dX10_thing_76 kX6_aheadOf lX10_146 vX6_aheadOf (cn_X6_aheadOf E h za m hw hm hm2) rfl rfl (wlt hw (by decide)) rfl rfl (Nat.le_of_ble_eq_true rfl) ⟨Nat.le_of_ble_eq_true rfl, Nat.le_of_ble_eq_true rfl⟩ ⟨Nat.le_of_ble_eq_true rfl, Nat.le_of_ble_eq_true rfl⟩ ?_
      refine ev_iret (pc := 79) dX10_thing_79 rfl ?_ ?_
      · rfl
      · refine ⟨?_, rfl⟩
        have hG := bI_n0.mp zc8
        rw [if_pos hG]
        subst ezsv
        rw [if_pos (by rw [hmt]; exact hG)]
        rfl
    have zhout : zsv.toInt < 0 ∨ 3 < zsv.toInt := by
      have nzq0 := i32_ne zq0
      have nzq1 := i32_ne zq1
      have nzq2 := i32_ne zq2
      have nzq3 := i32_ne zq3
      replace nzq0 : ¬ zsv.toInt = 0 := nzq0
      replace nzq1 : ¬ zsv.toInt = 1 := nzq1
      replace nzq2 : ¬ zsv.toInt = 2 := nzq2
      replace nzq3 : ¬ zsv.toInt = 3 := nzq3
      omega
    refine ev_tabOut (pc := 14) (tgt := 80) dX10_thing_14 zhout (by decide) ?_
    refine ev_iconst (pc := 80) (v := (-1)) dX10_thing_80 (by decide) ?_
    refine ev_iret (pc := 81) dX10_thing_81 rfl ?_ ?_
    · rfl
    · refine ⟨?_, rfl⟩
      have hG := bI_n0.mp zc8
      rw [if_pos hG]
      subst ezsv
      rw [if_neg zq0, if_neg zq1, if_neg zq2, if_neg zq3]
  · -- ne at 8: not taken
    refine ev_iconst (pc := 11) (v := (-1)) dX10_thing_11 (by decide) ?_
    refine ev_iret (pc := 12) dX10_thing_12 rfl ?_ ?_
    · rfl
    · refine ⟨?_, rfl⟩
      rw [if_neg (bI_0.mp zc8)]
