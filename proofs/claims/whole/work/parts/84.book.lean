def blH (h : AH) (zt : PSt) : AH := sL (sI (sL h 31 (flL 0 (h.2.2.1 31) 384)) 30 (upd (h.2.1 30) 1 (nI (zt.1 2)))) 31 (blP (zt.2 6) (flL 0 (h.2.2.1 31) 384) (zt.1 2))
theorem cn_X0_learn_3 (E : ME) (h : AH) (zt : PSt) (hw : WF h) (hY : STz zt 3 h) (hO : POK zt) (hc6 : ∀ zk, zk < 16 * zt.1 2 → zt.2 6 zk ≤ 6) : Con E mX0_learn 3 0 0 [.ref 30, .ref 3] h (fun r h' => r = none ∧ h' = blH h zt) := by
  refine con_of2 (L := [some (.ref 30), some (.ref 3), none, none, none, none, none, none]) rfl (Nat.le_of_ble_eq_true rfl) rfl ?_
  refine ev_aload_n (pc := 0) dX0_learn_0 rfl ?_
  refine ev_getR (pc := 1) (q := 31) dX0_learn_1 fX0_11 rfl (wlt hw (by decide)) (wr hw rfl) ?_
  refine ev_lconst (pc := 4) (v := 0) dX0_learn_4 (by decide) ?_
  refine ev_callS0 (S := []) (pc := 5) dX0_learn_5 kJ7_fill_d0a16 lX0_37 sJ7_fill_d0a16 (cn_J7_fill_d0a16 E h 31 384 0 hw rfl (wlt hw (by decide)) (by decide)) rfl rfl (Nat.le_of_ble_eq_true rfl) ⟨Nat.le_of_ble_eq_true rfl, Nat.le_of_ble_eq_true rfl⟩ ⟨Nat.le_of_ble_eq_true rfl, Nat.le_of_ble_eq_true rfl⟩ ?_
  refine ev_eqH (h' := sL h 31 (flL 0 (h.2.2.1 31) 384)) rfl ?_
  refine ev_aload_n (pc := 8) dX0_learn_8 rfl ?_
  refine ev_aload_n (pc := 9) dX0_learn_9 rfl ?_
  refine ev_callVv (S := [.ref 30]) (pc := 10) dX0_learn_10 kX8_patterns lX0_43 vX8_patterns (cn_X8_patterns_3 E (sL h 31 (flL 0 (h.2.2.1 31) 384)) zt (wf_sL hw) hY hO) rfl rfl (wlt (wf_sL hw) (by decide)) rfl rfl (Nat.le_of_ble_eq_true rfl) ⟨Nat.le_of_ble_eq_true rfl, Nat.le_of_ble_eq_true rfl⟩ ⟨Nat.le_of_ble_eq_true rfl, Nat.le_of_ble_eq_true rfl⟩ ?_
  refine ev_putI (pc := 13) dX0_learn_13 fX0_25 rfl (wlt (wf_sL hw) (by decide)) ?_
  refine ev_eqH (h' := sI (sL h 31 (flL 0 (h.2.2.1 31) 384)) 30 (upd (h.2.1 30) 1 (nI (zt.1 2)))) (by rfl) ?_
  refine ev_iconst (pc := 16) (v := 0) dX0_learn_16 (by decide) ?_
  refine ev_istore_n (pc := 17) (L' := [some (.ref 30), some (.ref 3), some (.int 0), none, none, none, none, none]) dX0_learn_17 (Nat.le_of_ble_eq_true rfl) rfl ?_
  refine ev_eqH (sL_id (sI (sL h 31 (flL 0 (h.2.2.1 31) 384)) 30 (upd (h.2.1 30) 1 (nI (zt.1 2)))) 31).symm ?_
  refine lp_bk_18_3 E (sI (sL h 31 (flL 0 (h.2.2.1 31) 384)) 30 (upd (h.2.1 30) 1 (nI (zt.1 2)))) zt (zt.1 2) (flL 0 (h.2.2.1 31) 384) (wf_sI (wf_sL hw)) rfl hO.2.1 hY hO rfl hc6 ?_ (zt.1 2) 0 (Nat.zero_add _)
  refine ev_ret (pc := 140) dX0_learn_140 rfl ?_
  · exact ⟨rfl, rfl⟩
theorem cn_X0_learn_11 (E : ME) (h : AH) (zt : PSt) (hw : WF h) (hY : STz zt 11 h) (hO : POK zt) (hc6 : ∀ zk, zk < 16 * zt.1 2 → zt.2 6 zk ≤ 6) : Con E mX0_learn 3 0 0 [.ref 30, .ref 11] h (fun r h' => r = none ∧ h' = blH h zt) := by
  refine con_of2 (L := [some (.ref 30), some (.ref 11), none, none, none, none, none, none]) rfl (Nat.le_of_ble_eq_true rfl) rfl ?_
  refine ev_aload_n (pc := 0) dX0_learn_0 rfl ?_
  refine ev_getR (pc := 1) (q := 31) dX0_learn_1 fX0_11 rfl (wlt hw (by decide)) (wr hw rfl) ?_
  refine ev_lconst (pc := 4) (v := 0) dX0_learn_4 (by decide) ?_
  refine ev_callS0 (S := []) (pc := 5) dX0_learn_5 kJ7_fill_d0a16 lX0_37 sJ7_fill_d0a16 (cn_J7_fill_d0a16 E h 31 384 0 hw rfl (wlt hw (by decide)) (by decide)) rfl rfl (Nat.le_of_ble_eq_true rfl) ⟨Nat.le_of_ble_eq_true rfl, Nat.le_of_ble_eq_true rfl⟩ ⟨Nat.le_of_ble_eq_true rfl, Nat.le_of_ble_eq_true rfl⟩ ?_
  refine ev_eqH (h' := sL h 31 (flL 0 (h.2.2.1 31) 384)) rfl ?_
  refine ev_aload_n (pc := 8) dX0_learn_8 rfl ?_
  refine ev_aload_n (pc := 9) dX0_learn_9 rfl ?_
  refine ev_callVv (S := [.ref 30]) (pc := 10) dX0_learn_10 kX8_patterns lX0_43 vX8_patterns (cn_X8_patterns_11 E (sL h 31 (flL 0 (h.2.2.1 31) 384)) zt (wf_sL hw) hY hO) rfl rfl (wlt (wf_sL hw) (by decide)) rfl rfl (Nat.le_of_ble_eq_true rfl) ⟨Nat.le_of_ble_eq_true rfl, Nat.le_of_ble_eq_true rfl⟩ ⟨Nat.le_of_ble_eq_true rfl, Nat.le_of_ble_eq_true rfl⟩ ?_
  refine ev_putI (pc := 13) dX0_learn_13 fX0_25 rfl (wlt (wf_sL hw) (by decide)) ?_
  refine ev_eqH (h' := sI (sL h 31 (flL 0 (h.2.2.1 31) 384)) 30 (upd (h.2.1 30) 1 (nI (zt.1 2)))) (by rfl) ?_
  refine ev_iconst (pc := 16) (v := 0) dX0_learn_16 (by decide) ?_
  refine ev_istore_n (pc := 17) (L' := [some (.ref 30), some (.ref 11), some (.int 0), none, none, none, none, none]) dX0_learn_17 (Nat.le_of_ble_eq_true rfl) rfl ?_
  refine ev_eqH (sL_id (sI (sL h 31 (flL 0 (h.2.2.1 31) 384)) 30 (upd (h.2.1 30) 1 (nI (zt.1 2)))) 31).symm ?_
  refine lp_bk_18_11 E (sI (sL h 31 (flL 0 (h.2.2.1 31) 384)) 30 (upd (h.2.1 30) 1 (nI (zt.1 2)))) zt (zt.1 2) (flL 0 (h.2.2.1 31) 384) (wf_sI (wf_sL hw)) rfl hO.2.1 hY hO rfl hc6 ?_ (zt.1 2) 0 (Nat.zero_add _)
  refine ev_ret (pc := 140) dX0_learn_140 rfl ?_
  · exact ⟨rfl, rfl⟩
theorem sh_cn1 {zp zw : Nat} (hw : zw < 8) : shN (zp * 208 + zw * 25) = ((zp * 2 + 0) * 8 + zw) * 6 := by
  unfold shN cpS cpW
  have z1 : (zp * 208 + zw * 25) % 208 = zw * 25 := by omega
  have z2 : (zp * 208 + zw * 25) / 208 = zp := by omega
  rw [z1, z2, if_pos (by omega), if_pos (by omega), show zw * 25 / 25 = zw by omega]
  rfl
theorem sh_cn2 {zp zw : Nat} (hw : zw < 8) : shN (zp * 208 + (200 + zw)) = ((zp * 2 + 1) * 8 + zw) * 6 := by
  unfold shN cpS cpW
  have z1 : (zp * 208 + (200 + zw)) % 208 = 200 + zw := by omega
  have z2 : (zp * 208 + (200 + zw)) / 208 = zp := by omega
  rw [z1, z2, if_neg (by omega), if_neg (by omega), show 200 + zw - 200 = zw by omega]
  rfl
theorem ad_bt (zf : Nat → Int64) (zi zc : Nat) (zx : Int64) (zk zj : Nat) : lbt (adL zf zi zc zx zk) zj = (lbt (zf zk) zj || (decide (zc < 6 ∧ zk = zi + zc) && lbt zx zj)) := by
  unfold adL
  by_cases e : zc < 6
  · rw [if_pos e]
    by_cases e2 : zk = zi + zc
    · rw [decide_eq_true (⟨e, e2⟩ : zc < 6 ∧ zk = zi + zc), Bool.true_and, e2, ← lb_or]
      exact congrArg (fun z => lbt z zj) (if_pos rfl)
    · rw [decide_eq_false (fun z : zc < 6 ∧ zk = zi + zc => e2 z.2), Bool.false_and, Bool.or_false]
      exact congrArg (fun z => lbt z zj) (if_neg e2)
  · rw [if_neg e, decide_eq_false (fun z : zc < 6 ∧ zk = zi + zc => e z.1), Bool.false_and, Bool.or_false]
theorem b771 : ∀ zi, zi < 16 → ∀ zj, zj < 64 → lbt ((771 : Int64) <<< (Int32.toInt64 (nI (2 * (zi / 4 * 8 + zi % 4))) &&& 63)) zj = decide (4 * (zj / 16) + zj % 8 / 2 = zi) := by decide +kernel
