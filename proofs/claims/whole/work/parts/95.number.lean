theorem cn_X9_tokenByte (E : ME) (h : AH) (zs ze zn zi : Nat) (hw : WF h) (h2 : h.2.1 1 2 = nI zs) (h3 : h.2.1 1 3 = nI ze) (h1 : h.2.1 1 1 = nI zn) (hze : ze ≤ zn) (hzn : zn ≤ 400) (hi : zs + zi < ze) : Con E mX9_tokenByte 0 0 0 [.ref 1, .int (nI zi)] h (fun r h' => r = some (.int (h.2.1 2 (zs + zi))) ∧ h' = h) := by
  refine con_of2 (L := [some (.ref 1), some (.int (nI zi)), none]) rfl (Nat.le_of_ble_eq_true rfl) rfl ?_
  refine ev_aload_n (pc := 0) dX9_tokenByte_0 rfl ?_
  refine ev_getI (pc := 1) dX9_tokenByte_1 fX9_17 rfl (wlt hw (by decide)) ?_
  refine ev_eqI (e' := nI zs) h2 ?_
  refine ev_iload_n (pc := 4) dX9_tokenByte_4 rfl ?_
  refine ev_iadd (pc := 5) dX9_tokenByte_5 ?_
  refine ev_eqI (e' := nI (zs + zi)) (nI_add zs zi) ?_
  refine ev_istore_n (pc := 6) (L' := [some (.ref 1), some (.int (nI zi)), some (.int (nI (zs + zi)))]) dX9_tokenByte_6 (Nat.le_of_ble_eq_true rfl) rfl ?_
  refine ev_iload_n (pc := 7) dX9_tokenByte_7 rfl ?_
  refine ev_if_lt (pc := 8) (tgt := 40) dX9_tokenByte_8 (by decide) (fun zc8 => absurd zc8 (nI_pos (by omega))) (fun zc8 => ?_)
  refine ev_iload_n (pc := 11) dX9_tokenByte_11 rfl ?_
  refine ev_if_lt (pc := 12) (tgt := 40) dX9_tokenByte_12 (by decide) (fun zc12 => absurd zc12 (nI_pos (by omega))) (fun zc12 => ?_)
  refine ev_iload_n (pc := 15) dX9_tokenByte_15 rfl ?_
  refine ev_aload_n (pc := 16) dX9_tokenByte_16 rfl ?_
  refine ev_getI (pc := 17) dX9_tokenByte_17 fX9_20 rfl (wlt hw (by decide)) ?_
  refine ev_eqI (e' := nI ze) h3 ?_
  refine ev_icmp_ge (pc := 20) (tgt := 40) dX9_tokenByte_20 (by decide) (fun zc20 => absurd zc20 (nI_ge (by omega) (by omega))) (fun zc20 => ?_)
  refine ev_iload_n (pc := 23) dX9_tokenByte_23 rfl ?_
  refine ev_aload_n (pc := 24) dX9_tokenByte_24 rfl ?_
  refine ev_getI (pc := 25) dX9_tokenByte_25 fX9_13 rfl (wlt hw (by decide)) ?_
  refine ev_eqI (e' := nI zn) h1 ?_
  refine ev_icmp_ge (pc := 28) (tgt := 40) dX9_tokenByte_28 (by decide) (fun zc28 => absurd zc28 (nI_ge (by omega) (by omega))) (fun zc28 => ?_)
  refine ev_aload_n (pc := 31) dX9_tokenByte_31 rfl ?_
  refine ev_getR (pc := 32) (q := 2) dX9_tokenByte_32 fX9_9 rfl (wlt hw (by decide)) (wr hw rfl) ?_
  refine ev_iload_n (pc := 35) dX9_tokenByte_35 rfl ?_
  refine ev_bald (pc := 36) dX9_tokenByte_36 rfl (wlt hw (by decide)) (vp_in_nI (by omega) (by decide)) ?_
  refine ev_eqI (e' := h.2.1 2 (zs + zi)) (by rw [show Int32.toNatClampNeg (nI (zs + zi)) = zs + zi from nI_clamp (by omega)] <;> rfl) ?_
  refine ev_goto (pc := 37) (tgt := 41) dX9_tokenByte_37 (by decide) ?_
  refine ev_iret (pc := 41) dX9_tokenByte_41 rfl ?_ ?_
  · rfl
  · exact ⟨rfl, rfl⟩
/-- the number that digits write -/
def tnI (zg : Nat → Int32) (zs : Nat) : Nat → Int32
  | 0 => 0
  | zi + 1 => tnI zg zs zi * 10 + zg (zs + zi) - 48
theorem lp_tn_4 (E : ME) (h : AH) (zs ze zn : Nat) (hw : WF h) (h2 : h.2.1 1 2 = nI zs) (h3 : h.2.1 1 3 = nI ze) (h1 : h.2.1 1 1 = nI zn) (hze : ze ≤ zn) (hzn : zn ≤ 400) (hse : zs ≤ ze) {post : PO} (K : Ev E mX9_tokenNumber (rmm 1 0 0) (QM E 0 0 post) 0 0 32 [some (.ref 1), some (.int (tnI (h.2.1 2) zs (ze - zs))), some (.int (nI (ze - zs)))] [] h) : ∀ n i : Nat, i + n = (ze - zs) → Ev E mX9_tokenNumber (rmm 1 0 0) (QM E 0 0 post) 0 0 4 [some (.ref 1), some (.int (tnI (h.2.1 2) zs i)), some (.int (nI i))] [] h := by
  intro n
  induction n with
  | zero =>
    intro i hi
    obtain rfl : (ze - zs) = i := by omega
    refine ev_iload_n (pc := 4) dX9_tokenNumber_4 rfl ?_
    refine ev_aload_n (pc := 5) dX9_tokenNumber_5 rfl ?_
    refine ev_callVv (S := [.int (nI (ze - zs))]) (pc := 6) dX9_tokenNumber_6 kX9_tokenLength lX9_27 vX9_tokenLength (cn_X9_tokenLength E h hw) rfl rfl (wlt hw (by decide)) rfl rfl (Nat.le_of_ble_eq_true rfl) ⟨Nat.le_of_ble_eq_true rfl, Nat.le_of_ble_eq_true rfl⟩ ⟨Nat.le_of_ble_eq_true rfl, Nat.le_of_ble_eq_true rfl⟩ ?_
    refine ev_icmp_ge (pc := 9) (tgt := 32) dX9_tokenNumber_9 (by decide) (fun zc9 => ?_) (fun zc9 => absurd (by rw [h3, h2, pk_sub (a := ze) (b := zs) hse]; exact nI_le (Nat.le_refl _) (by omega)) zc9)
    exact K
  | succ n ih =>
    intro i hi
    have hlt : i < (ze - zs) := by omega
    refine ev_iload_n (pc := 4) dX9_tokenNumber_4 rfl ?_
    refine ev_aload_n (pc := 5) dX9_tokenNumber_5 rfl ?_
    refine ev_callVv (S := [.int (nI i)]) (pc := 6) dX9_tokenNumber_6 kX9_tokenLength lX9_27 vX9_tokenLength (cn_X9_tokenLength E h hw) rfl rfl (wlt hw (by decide)) rfl rfl (Nat.le_of_ble_eq_true rfl) ⟨Nat.le_of_ble_eq_true rfl, Nat.le_of_ble_eq_true rfl⟩ ⟨Nat.le_of_ble_eq_true rfl, Nat.le_of_ble_eq_true rfl⟩ ?_
    refine ev_icmp_ge (pc := 9) (tgt := 32) dX9_tokenNumber_9 (by decide) (fun zc9 => absurd zc9 (by rw [h3, h2, pk_sub (a := ze) (b := zs) hse]; exact nI_ge hlt (by omega))) (fun zc9 => ?_)
    refine ev_iload_n (pc := 12) dX9_tokenNumber_12 rfl ?_
    refine ev_bipush (pc := 13) (v := 10) dX9_tokenNumber_13 (by decide) ?_
    refine ev_imul (pc := 15) dX9_tokenNumber_15 ?_
    refine ev_aload_n (pc := 16) dX9_tokenNumber_16 rfl ?_
    refine ev_iload_n (pc := 17) dX9_tokenNumber_17 rfl ?_
    refine ev_callVv (S := [.int ((tnI (h.2.1 2) zs i) * 10)]) (pc := 18) dX9_tokenNumber_18 kX9_tokenByte lX9_31 vX9_tokenByte (cn_X9_tokenByte E h zs ze zn i hw h2 h3 h1 hze hzn (by omega)) rfl rfl (wlt hw (by decide)) rfl rfl (Nat.le_of_ble_eq_true rfl) ⟨Nat.le_of_ble_eq_true rfl, Nat.le_of_ble_eq_true rfl⟩ ⟨Nat.le_of_ble_eq_true rfl, Nat.le_of_ble_eq_true rfl⟩ ?_
    refine ev_iadd (pc := 21) dX9_tokenNumber_21 ?_
    refine ev_bipush (pc := 22) (v := 48) dX9_tokenNumber_22 (by decide) ?_
    refine ev_isub (pc := 24) dX9_tokenNumber_24 ?_
    refine ev_istore_n (pc := 25) (L' := [some (.ref 1), some (.int ((((tnI (h.2.1 2) zs i) * 10) + (h.2.1 2 (zs + i))) - 48)), some (.int (nI i))]) dX9_tokenNumber_25 (Nat.le_of_ble_eq_true rfl) rfl ?_
    refine ev_iinc (pc := 26) (v := nI (i + 1)) (L' := [some (.ref 1), some (.int ((((tnI (h.2.1 2) zs i) * 10) + (h.2.1 2 (zs + i))) - 48)), some (.int (nI (i + 1)))]) dX9_tokenNumber_26 rfl (nI_1 _) (Nat.le_of_ble_eq_true rfl) rfl ?_
    refine ev_goto (pc := 29) (tgt := 4) dX9_tokenNumber_29 (by decide) ?_
    exact ih (i + 1) (by omega)
theorem cn_X9_tokenNumber (E : ME) (h : AH) (zs ze zn : Nat) (hw : WF h) (h2 : h.2.1 1 2 = nI zs) (h3 : h.2.1 1 3 = nI ze) (h1 : h.2.1 1 1 = nI zn) (hze : ze ≤ zn) (hzn : zn ≤ 400) (hse : zs ≤ ze) : Con E mX9_tokenNumber 1 0 0 [.ref 1] h (fun r h' => r = some (.int (tnI (h.2.1 2) zs (ze - zs))) ∧ h' = h) := by
  refine con_of2 (L := [some (.ref 1), none, none]) rfl (Nat.le_of_ble_eq_true rfl) rfl ?_
  refine ev_iconst (pc := 0) (v := 0) dX9_tokenNumber_0 (by decide) ?_
  refine ev_istore_n (pc := 1) (L' := [some (.ref 1), some (.int 0), none]) dX9_tokenNumber_1 (Nat.le_of_ble_eq_true rfl) rfl ?_
  refine ev_iconst (pc := 2) (v := 0) dX9_tokenNumber_2 (by decide) ?_
  refine ev_istore_n (pc := 3) (L' := [some (.ref 1), some (.int 0), some (.int 0)]) dX9_tokenNumber_3 (Nat.le_of_ble_eq_true rfl) rfl ?_
  refine lp_tn_4 E h zs ze zn hw h2 h3 h1 hze hzn hse ?_ (ze - zs) 0 (Nat.zero_add _)
  refine ev_iload_n (pc := 32) dX9_tokenNumber_32 rfl ?_
  refine ev_iret (pc := 33) dX9_tokenNumber_33 rfl ?_ ?_
  · rfl
  · exact ⟨rfl, rfl⟩
