theorem lp_source_18 (E : ME) (h : AH) (zc zd : Int32) (zw : Nat) (hw : WF h) (hw8 : zw < 8) {post : PO} (K : Ev E mX10_source (rmm 0 0 0) (QM E 0 0 post) 0 0 46 [some (.int (nI zw)), some (.int zc), some (.int zd), some (.int ((srS zd (zc / zd) (zc - (zc / zd) * zd) (zw % 4)).1)), some (.int ((srS zd (zc / zd) (zc - (zc / zd) * zd) (zw % 4)).2)), some (.int (nI (zw % 4))), none] [] h) : ∀ n i : Nat, i + n = (zw % 4) → Ev E mX10_source (rmm 0 0 0) (QM E 0 0 post) 0 0 18 [some (.int (nI zw)), some (.int zc), some (.int zd), some (.int ((srS zd (zc / zd) (zc - (zc / zd) * zd) i).1)), some (.int ((srS zd (zc / zd) (zc - (zc / zd) * zd) i).2)), some (.int (nI i)), none] [] h := by
  intro n
  induction n with
  | zero =>
    intro i hi
    obtain rfl : zw % 4 = i := by omega
    refine ev_iload (pc := 18) dX10_source_18 rfl ?_
    refine ev_iload_n (pc := 20) dX10_source_20 rfl ?_
    refine ev_iconst (pc := 21) (v := 3) dX10_source_21 (by decide) ?_
    refine ev_iand (pc := 22) dX10_source_22 ?_
    refine ev_eqI (e' := nI (zw % 4)) (fa_mask zw 2) ?_
    refine ev_icmp_ge (pc := 23) (tgt := 46) dX10_source_23 (by decide) (fun zc23 => ?_) (fun zc23 => absurd ((nI_leI (by omega) (by omega)).mpr (Nat.le_refl _)) zc23)
    exact K
  | succ n ih =>
    intro i hi
    have hlt : i < (zw % 4) := by omega
    refine ev_iload (pc := 18) dX10_source_18 rfl ?_
    refine ev_iload_n (pc := 20) dX10_source_20 rfl ?_
    refine ev_iconst (pc := 21) (v := 3) dX10_source_21 (by decide) ?_
    refine ev_iand (pc := 22) dX10_source_22 ?_
    refine ev_eqI (e' := nI (zw % 4)) (fa_mask zw 2) ?_
    refine ev_icmp_ge (pc := 23) (tgt := 46) dX10_source_23 (by decide) (fun zc23 => absurd zc23 (nI_ge hlt (by omega))) (fun zc23 => ?_)
    refine ev_iload_n (pc := 26) dX10_source_26 rfl ?_
    refine ev_istore (pc := 27) (L' := [some (.int (nI zw)), some (.int zc), some (.int zd), some (.int ((srS zd (zc / zd) (zc - (zc / zd) * zd) i).1)), some (.int ((srS zd (zc / zd) (zc - (zc / zd) * zd) i).2)), some (.int (nI i)), some (.int ((srS zd (zc / zd) (zc - (zc / zd) * zd) i).1))]) dX10_source_27 (Nat.le_of_ble_eq_true rfl) rfl ?_
    refine ev_iload_n (pc := 29) dX10_source_29 rfl ?_
    refine ev_iconst (pc := 30) (v := 1) dX10_source_30 (by decide) ?_
    refine ev_isub (pc := 31) dX10_source_31 ?_
    refine ev_iload (pc := 32) dX10_source_32 rfl ?_
    refine ev_isub (pc := 34) dX10_source_34 ?_
    refine ev_istore_n (pc := 35) (L' := [some (.int (nI zw)), some (.int zc), some (.int zd), some (.int ((zd - 1) - ((srS zd (zc / zd) (zc - (zc / zd) * zd) i).2))), some (.int ((srS zd (zc / zd) (zc - (zc / zd) * zd) i).2)), some (.int (nI i)), some (.int ((srS zd (zc / zd) (zc - (zc / zd) * zd) i).1))]) dX10_source_35 (Nat.le_of_ble_eq_true rfl) rfl ?_
    refine ev_iload (pc := 36) dX10_source_36 rfl ?_
    refine ev_istore (pc := 38) (L' := [some (.int (nI zw)), some (.int zc), some (.int zd), some (.int ((zd - 1) - ((srS zd (zc / zd) (zc - (zc / zd) * zd) i).2))), some (.int ((srS zd (zc / zd) (zc - (zc / zd) * zd) i).1)), some (.int (nI i)), some (.int ((srS zd (zc / zd) (zc - (zc / zd) * zd) i).1))]) dX10_source_38 (Nat.le_of_ble_eq_true rfl) rfl ?_
    refine ev_iinc (pc := 40) (v := nI (i + 1)) (L' := [some (.int (nI zw)), some (.int zc), some (.int zd), some (.int ((zd - 1) - ((srS zd (zc / zd) (zc - (zc / zd) * zd) i).2))), some (.int ((srS zd (zc / zd) (zc - (zc / zd) * zd) i).1)), some (.int (nI (i + 1))), some (.int ((srS zd (zc / zd) (zc - (zc / zd) * zd) i).1))]) dX10_source_40 rfl (nI_1 _) (Nat.le_of_ble_eq_true rfl) rfl ?_
    refine ev_goto (pc := 43) (tgt := 18) dX10_source_43 (by decide) ?_
    refine ev_less (L' := [some (.int (nI zw)), some (.int zc), some (.int zd), some (.int ((zd - 1) - ((srS zd (zc / zd) (zc - (zc / zd) * zd) i).2))), some (.int ((srS zd (zc / zd) (zc - (zc / zd) * zd) i).1)), some (.int (nI (i + 1))), none]) (ls_keep (ls_keep (ls_keep (ls_keep (ls_keep (ls_keep (ls_drop (ls_nil _)))))))) ?_
    exact ih (i + 1) (by omega)
theorem cn_X10_source (E : ME) (h : AH) (zw : Nat) (zc zd : Int32) (hw : WF h) (hw8 : zw < 8) (hs : 0 < zd) : Con E mX10_source 0 0 0 [.int (nI zw), .int zc, .int zd] h (fun r h' => r = some (.int (srI zd zc zw)) ∧ h' = h) := by
  refine con_of2 (L := [some (.int (nI zw)), some (.int zc), some (.int zd), none, none, none, none]) rfl (Nat.le_of_ble_eq_true rfl) rfl ?_
  refine ev_iload_n (pc := 0) dX10_source_0 rfl ?_
  refine ev_if_gt (pc := 1) (tgt := 6) dX10_source_1 (by decide) (fun zc1 => ?_) (fun zc1 => absurd hs zc1)
  refine ev_iload_n (pc := 6) dX10_source_6 rfl ?_
  refine ev_iload_n (pc := 7) dX10_source_7 rfl ?_
  refine ev_idiv (pc := 8) dX10_source_8 (fun z => by rw [z] at hs; exact absurd hs (by decide)) ?_
  refine ev_istore_n (pc := 9) (L' := [some (.int (nI zw)), some (.int zc), some (.int zd), some (.int (zc / zd)), none, none, none]) dX10_source_9 (Nat.le_of_ble_eq_true rfl) rfl ?_
  refine ev_iload_n (pc := 10) dX10_source_10 rfl ?_
  refine ev_iload_n (pc := 11) dX10_source_11 rfl ?_
  refine ev_irem (pc := 12) dX10_source_12 (fun z => by rw [z] at hs; exact absurd hs (by decide)) ?_
  refine ev_istore (pc := 13) (L' := [some (.int (nI zw)), some (.int zc), some (.int zd), some (.int (zc / zd)), some (.int (zc - zc / zd * zd)), none, none]) dX10_source_13 (Nat.le_of_ble_eq_true rfl) rfl ?_
  refine ev_iconst (pc := 15) (v := 0) dX10_source_15 (by decide) ?_
  refine ev_istore (pc := 16) (L' := [some (.int (nI zw)), some (.int zc), some (.int zd), some (.int (zc / zd)), some (.int (zc - zc / zd * zd)), some (.int 0), none]) dX10_source_16 (Nat.le_of_ble_eq_true rfl) rfl ?_
  refine lp_source_18 E h zc zd zw hw hw8 ?_ (zw % 4) 0 (Nat.zero_add _)
  refine ev_iload_n (pc := 46) dX10_source_46 rfl ?_
  refine ev_iconst (pc := 47) (v := 4) dX10_source_47 (by decide) ?_
  refine ev_icmp_lt (pc := 48) (tgt := 59) dX10_source_48 (by decide) (fun zc48 => ?_) (fun zc48 => ?_)
  · -- lt at 48: taken
    refine ev_iload_n (pc := 59) dX10_source_59 rfl ?_
    refine ev_iload_n (pc := 60) dX10_source_60 rfl ?_
    refine ev_imul (pc := 61) dX10_source_61 ?_
    refine ev_iload (pc := 62) dX10_source_62 rfl ?_
    refine ev_iadd (pc := 64) dX10_source_64 ?_
    refine ev_iret (pc := 65) dX10_source_65 rfl ?_ ?_
    · rfl
    · refine ⟨?_, rfl⟩
      unfold srI
      rw [if_neg (by have := (nI_ltI (a := zw) (b := 4) (by omega) (by decide)).mp zc48; omega), Int32.mul_comm]
  · -- lt at 48: not taken
    refine ev_iload_n (pc := 51) dX10_source_51 rfl ?_
    refine ev_iconst (pc := 52) (v := 1) dX10_source_52 (by decide) ?_
    refine ev_isub (pc := 53) dX10_source_53 ?_
    refine ev_iload (pc := 54) dX10_source_54 rfl ?_
    refine ev_isub (pc := 56) dX10_source_56 ?_
    refine ev_istore (pc := 57) (L' := [some (.int (nI zw)), some (.int zc), some (.int zd), some (.int ((srS zd (zc / zd) (zc - (zc / zd) * zd) (zw % 4)).1)), some (.int ((zd - 1) - ((srS zd (zc / zd) (zc - (zc / zd) * zd) (zw % 4)).2))), some (.int (nI (zw % 4))), none]) dX10_source_57 (Nat.le_of_ble_eq_true rfl) rfl ?_
    refine ev_iload_n (pc := 59) dX10_source_59 rfl ?_
    refine ev_iload_n (pc := 60) dX10_source_60 rfl ?_
    refine ev_imul (pc := 61) dX10_source_61 ?_
    refine ev_iload (pc := 62) dX10_source_62 rfl ?_
    refine ev_iadd (pc := 64) dX10_source_64 ?_
    refine ev_iret (pc := 65) dX10_source_65 rfl ?_ ?_
    · rfl
    · refine ⟨?_, rfl⟩
      unfold srI
      rw [if_pos (Nat.lt_of_not_le (fun z => zc48 ((nI_ltI (a := zw) (b := 4) (by omega) (by decide)).mpr (by omega)))), Int32.mul_comm]
theorem cn_X10_src4 (E : ME) (h : AH) (zw zc : Nat) (hw : WF h) (hc : zc < 16) (hw8 : zw < 8) : Con E mX10_source 0 0 0 [.int (nI zw), .int (nI zc), .int 4] h (fun r h' => r = some (.int (nI (srN 4 zw zc))) ∧ h' = h) := by
  have k := cn_X10_source E h zw (nI zc) 4 hw hw8 (by decide)
  rw [(sr4 zw hw8 zc hc).1] at k
  exact k
theorem cn_X10_src8 (E : ME) (h : AH) (zw zc : Nat) (hw : WF h) (hc : zc < 64) (hw8 : zw < 8) : Con E mX10_source 0 0 0 [.int (nI zw), .int (nI zc), .int 8] h (fun r h' => r = some (.int (nI (srN 8 zw zc))) ∧ h' = h) := by
  have k := cn_X10_source E h zw (nI zc) 8 hw hw8 (by decide)
  rw [(sr8 zw hw8 zc hc).1] at k
  exact k
theorem cn_X10_figure (E : ME) (h : AH) (zv zi : Int32)  : Con E mX10_figure 0 0 0 [.int zv, .int zi] h (fun r h' => r = some (.int (fgI zv zi)) ∧ h' = h) := by
  refine con_of2 (L := [some (.int zv), some (.int zi)]) rfl (Nat.le_of_ble_eq_true rfl) rfl ?_
  refine ev_iload_n (pc := 0) dX10_figure_0 rfl ?_
  refine ev_bipush (pc := 1) (v := 6) dX10_figure_1 (by decide) ?_
  refine ev_iconst (pc := 3) (v := 2) dX10_figure_3 (by decide) ?_
  refine ev_iload_n (pc := 4) dX10_figure_4 rfl ?_
  refine ev_imul (pc := 5) dX10_figure_5 ?_
  refine ev_isub (pc := 6) dX10_figure_6 ?_
  refine ev_ishr (pc := 7) dX10_figure_7 ?_
  refine ev_iconst (pc := 8) (v := 3) dX10_figure_8 (by decide) ?_
  refine ev_iand (pc := 9) dX10_figure_9 ?_
  refine ev_iret (pc := 10) dX10_figure_10 rfl ?_ ?_
  · rfl
  · exact ⟨rfl, rfl⟩
theorem cn_X10_fg (E : ME) (h : AH) (zv zi : Nat) (hv : zv < 256) (hi : zi < 4) : Con E mX10_figure 0 0 0 [.int (nI zv), .int (nI zi)] h (fun r h' => r = some (.int (nI (fg zv zi))) ∧ h' = h) := by
  have k := cn_X10_figure E h (nI zv) (nI zi)
  rw [(fg_ok zi hi zv hv).1] at k
  exact k
def pnI (zp zc : Int32) : Int32 := ((zp >>> ((1 : Int32) &&& 31)) * 4 + (zc >>> ((2 : Int32) &&& 31))) * 8 + ((zp &&& 1) * 4 + (zc &&& 3))
def pnN (zp zc : Nat) : Nat := 32 * (zp / 2) + 4 * (zp % 2) + 8 * (zc / 4) + zc % 4
theorem pn_ok : ∀ zp, zp < 4 → ∀ zc, zc < 16 → pnI (nI zp) (nI zc) = nI (pnN zp zc) ∧ pnN zp zc < 64 := by decide +kernel
theorem cn_X10_panelCell (E : ME) (h : AH) (zp zc : Int32)  : Con E mX10_panelCell 0 0 0 [.int zp, .int zc] h (fun r h' => r = some (.int (pnI zp zc)) ∧ h' = h) := by
  refine con_of2 (L := [some (.int zp), some (.int zc), none, none]) rfl (Nat.le_of_ble_eq_true rfl) rfl ?_
  refine ev_iload_n (pc := 0) dX10_panelCell_0 rfl ?_
  refine ev_iconst (pc := 1) (v := 1) dX10_panelCell_1 (by decide) ?_
  refine ev_ishr (pc := 2) dX10_panelCell_2 ?_
  refine ev_iconst (pc := 3) (v := 4) dX10_panelCell_3 (by decide) ?_
  refine ev_imul (pc := 4) dX10_panelCell_4 ?_
  refine ev_iload_n (pc := 5) dX10_panelCell_5 rfl ?_
  refine ev_iconst (pc := 6) (v := 2) dX10_panelCell_6 (by decide) ?_
  refine ev_ishr (pc := 7) dX10_panelCell_7 ?_
  refine ev_iadd (pc := 8) dX10_panelCell_8 ?_
  refine ev_istore_n (pc := 9) (L' := [some (.int zp), some (.int zc), some (.int (((zp >>> ((1 : Int32) &&& 31)) * 4) + (zc >>> ((2 : Int32) &&& 31)))), none]) dX10_panelCell_9 (Nat.le_of_ble_eq_true rfl) rfl ?_
  refine ev_iload_n (pc := 10) dX10_panelCell_10 rfl ?_
  refine ev_iconst (pc := 11) (v := 1) dX10_panelCell_11 (by decide) ?_
  refine ev_iand (pc := 12) dX10_panelCell_12 ?_
  refine ev_iconst (pc := 13) (v := 4) dX10_panelCell_13 (by decide) ?_
  refine ev_imul (pc := 14) dX10_panelCell_14 ?_
  refine ev_iload_n (pc := 15) dX10_panelCell_15 rfl ?_
  refine ev_iconst (pc := 16) (v := 3) dX10_panelCell_16 (by decide) ?_
  refine ev_iand (pc := 17) dX10_panelCell_17 ?_
  refine ev_iadd (pc := 18) dX10_panelCell_18 ?_
  refine ev_istore_n (pc := 19) (L' := [some (.int zp), some (.int zc), some (.int (((zp >>> ((1 : Int32) &&& 31)) * 4) + (zc >>> ((2 : Int32) &&& 31)))), some (.int (((zp &&& 1) * 4) + (zc &&& 3)))]) dX10_panelCell_19 (Nat.le_of_ble_eq_true rfl) rfl ?_
  refine ev_iload_n (pc := 20) dX10_panelCell_20 rfl ?_
  refine ev_bipush (pc := 21) (v := 8) dX10_panelCell_21 (by decide) ?_
  refine ev_imul (pc := 23) dX10_panelCell_23 ?_
  refine ev_iload_n (pc := 24) dX10_panelCell_24 rfl ?_
  refine ev_iadd (pc := 25) dX10_panelCell_25 ?_
  refine ev_iret (pc := 26) dX10_panelCell_26 rfl ?_ ?_
  · rfl
  · exact ⟨rfl, rfl⟩
theorem cn_X10_pn (E : ME) (h : AH) (zp zc : Nat) (hp : zp < 4) (hc : zc < 16) : Con E mX10_panelCell 0 0 0 [.int (nI zp), .int (nI zc)] h (fun r h' => r = some (.int (nI (pnN zp zc))) ∧ h' = h) := by
  have k := cn_X10_panelCell E h (nI zp) (nI zc)
  rw [(pn_ok zp hp zc hc).1] at k
  exact k
theorem lp_allUnlike_17 (E : ME) (h : AH) (zv : Nat) (hw : WF h) (hv : zv < 256) {post : PO} (K : Ev E mX4_allUnlike (rmm 1 0 0) (QM E 0 0 post) 0 0 38 [some (.int (nI zv)), some (.int (auF zv 4)), some (.int (nI 4))] [] h) : ∀ n i : Nat, i + n = 4 → Ev E mX4_allUnlike (rmm 1 0 0) (QM E 0 0 post) 0 0 17 [some (.int (nI zv)), some (.int (auF zv i)), some (.int (nI i))] [] h := by
  intro n
  induction n with
  | zero =>
    intro i hi
    obtain rfl : 4 = i := by omega
    refine ev_iload_n (pc := 17) dX4_allUnlike_17 rfl ?_
    refine ev_iconst (pc := 18) (v := 4) dX4_allUnlike_18 (by decide) ?_
    refine ev_icmp_ge (pc := 19) (tgt := 38) dX4_allUnlike_19 (by decide) (fun zc19 => ?_) (fun zc19 => absurd (by decide) zc19)
    exact K
  | succ n ih =>
    intro i hi
    have hlt : i < 4 := by omega
    refine ev_iload_n (pc := 17) dX4_allUnlike_17 rfl ?_
    refine ev_iconst (pc := 18) (v := 4) dX4_allUnlike_18 (by decide) ?_
    refine ev_icmp_ge (pc := 19) (tgt := 38) dX4_allUnlike_19 (by decide) (fun zc19 => absurd zc19 (nI_ge (a := i) (b := 4) hlt (by decide))) (fun zc19 => ?_)
    refine ev_iload_n (pc := 22) dX4_allUnlike_22 rfl ?_
    refine ev_iconst (pc := 23) (v := 1) dX4_allUnlike_23 (by decide) ?_
    refine ev_iload_n (pc := 24) dX4_allUnlike_24 rfl ?_
    refine ev_iload_n (pc := 25) dX4_allUnlike_25 rfl ?_
    refine ev_callSv (S := [.int 1, .int (auF zv i)]) (pc := 26) dX4_allUnlike_26 kX10_figure lX4_29 sX10_figure (cn_X10_fg E h zv i (by omega) (by omega)) rfl rfl (Nat.le_of_ble_eq_true rfl) ⟨Nat.le_of_ble_eq_true rfl, Nat.le_of_ble_eq_true rfl⟩ ⟨Nat.le_of_ble_eq_true rfl, Nat.le_of_ble_eq_true rfl⟩ ?_
    refine ev_ishl (pc := 29) dX4_allUnlike_29 ?_
    refine ev_ior (pc := 30) dX4_allUnlike_30 ?_
    refine ev_istore_n (pc := 31) (L' := [some (.int (nI zv)), some (.int ((auF zv i) ||| (1 <<< ((nI (fg zv i)) &&& 31)))), some (.int (nI i))]) dX4_allUnlike_31 (Nat.le_of_ble_eq_true rfl) rfl ?_
    refine ev_iinc (pc := 32) (v := nI (i + 1)) (L' := [some (.int (nI zv)), some (.int ((auF zv i) ||| (1 <<< ((nI (fg zv i)) &&& 31)))), some (.int (nI (i + 1)))]) dX4_allUnlike_32 rfl (nI_1 _) (Nat.le_of_ble_eq_true rfl) rfl ?_
    refine ev_goto (pc := 35) (tgt := 17) dX4_allUnlike_35 (by decide) ?_
    exact ih (i + 1) (by omega)
theorem cn_X4_allUnlike (E : ME) (h : AH) (zv0 : Int32) (hw : WF h) : Con E mX4_allUnlike 1 0 0 [.int zv0] h (fun r h' => r = some (.int (bI ((0 ≤ zv0 ∧ zv0 ≤ 255) ∧ unl (zv0).toNatClampNeg))) ∧ h' = h) := by
  refine con_of2 (L := [some (.int zv0), none, none]) rfl (Nat.le_of_ble_eq_true rfl) rfl ?_
  refine ev_iload_n (pc := 0) dX4_allUnlike_0 rfl ?_
  refine ev_iconst (pc := 1) (v := 0) dX4_allUnlike_1 (by decide) ?_
  refine ev_sipush (pc := 2) (v := 255) dX4_allUnlike_2 (by decide) ?_
  refine ev_callSv (S := []) (pc := 5) dX4_allUnlike_5 kX10_within lX4_25 sX10_within (cn_X10_within E h zv0 0 255) rfl rfl (Nat.le_of_ble_eq_true rfl) ⟨Nat.le_of_ble_eq_true rfl, Nat.le_of_ble_eq_true rfl⟩ ⟨Nat.le_of_ble_eq_true rfl, Nat.le_of_ble_eq_true rfl⟩ ?_
  refine ev_if_ne (pc := 8) (tgt := 13) dX4_allUnlike_8 (by decide) (fun zc8 => ?_) (fun zc8 => ?_)
  · -- ne at 8: taken
    obtain ⟨zv, hv, rfl⟩ := vp_in_of (vp_sm (N := 256) (bI_n0.mp zc8).1 (bI_n0.mp zc8).2 (by decide) (by decide)) (by decide)
    refine ev_iconst (pc := 13) (v := 0) dX4_allUnlike_13 (by decide) ?_
    refine ev_istore_n (pc := 14) (L' := [some (.int (nI zv)), some (.int 0), none]) dX4_allUnlike_14 (Nat.le_of_ble_eq_true rfl) rfl ?_
    refine ev_iconst (pc := 15) (v := 0) dX4_allUnlike_15 (by decide) ?_
    refine ev_istore_n (pc := 16) (L' := [some (.int (nI zv)), some (.int 0), some (.int 0)]) dX4_allUnlike_16 (Nat.le_of_ble_eq_true rfl) rfl ?_
    refine lp_allUnlike_17 E h zv hw hv ?_ 4 0 (Nat.zero_add _)
    refine ev_iload_n (pc := 38) dX4_allUnlike_38 rfl ?_
    refine ev_bipush (pc := 39) (v := 15) dX4_allUnlike_39 (by decide) ?_
    refine ev_icmp_ne (pc := 41) (tgt := 48) dX4_allUnlike_41 (by decide) (fun zc41 => ?_) (fun zc41 => ?_)
    · -- ne at 41: taken
      refine ev_iconst (pc := 48) (v := 0) dX4_allUnlike_48 (by decide) ?_
      refine ev_iret (pc := 49) dX4_allUnlike_49 rfl ?_ ?_
      · first | rfl | exact nar_bI _ | (simp only [*]; exact nar_bI _) | (simp [narrow, *]; done)
      · refine ⟨?_, rfl⟩
        rw [bI_f (fun z => zc41 (by have z2 := z.2; rwa [nI_clamp (by omega)] at z2))]
    · -- ne at 41: not taken
      refine ev_iconst (pc := 44) (v := 1) dX4_allUnlike_44 (by decide) ?_
      refine ev_goto (pc := 45) (tgt := 49) dX4_allUnlike_45 (by decide) ?_
      refine ev_iret (pc := 49) dX4_allUnlike_49 rfl ?_ ?_
      · first | rfl | exact nar_bI _ | (simp only [*]; exact nar_bI _) | (simp [narrow, *]; done)
      · refine ⟨?_, rfl⟩
        rw [bI_t ⟨bI_n0.mp zc8, by rw [nI_clamp (by omega)]; exact zc41⟩]
  · -- ne at 8: not taken
    refine ev_iconst (pc := 11) (v := 0) dX4_allUnlike_11 (by decide) ?_
    refine ev_iret (pc := 12) dX4_allUnlike_12 rfl ?_ ?_
    · first | rfl | exact nar_bI _ | (simp only [*]; exact nar_bI _) | (simp [narrow, *]; done)
    · refine ⟨?_, rfl⟩
      rw [bI_f (fun z => bI_0.mp zc8 z.1)]
theorem cn_X2_seam (E : ME) (h : AH) (za zb : Nat) (zf : Nat → Int32) (zx : Int64) (hw : WF h) (hF : FLz zf zx h) (ha : za < 64) (hb : zb < 64) : Con E mX2_seam 2 0 0 [.ref 25, .int (nI za), .int (nI zb)] h (fun r h' => r = some (.int (seI (zf za) (zf zb))) ∧ h' = h) := by
  refine con_of2 (L := [some (.ref 25), some (.int (nI za)), some (.int (nI zb)), none]) rfl (Nat.le_of_ble_eq_true rfl) rfl ?_
  refine ev_aload_n (pc := 0) dX2_seam_0 rfl ?_
  refine ev_iload_n (pc := 1) dX2_seam_1 rfl ?_
  refine ev_callVv (S := []) (pc := 2) dX2_seam_2 kX2_colourAt lX2_74 vX2_colourAt (cn_colourN E h za zf zx hw hF (by omega)) rfl rfl (wlt hw (by decide)) rfl rfl (Nat.le_of_ble_eq_true rfl) ⟨Nat.le_of_ble_eq_true rfl, Nat.le_of_ble_eq_true rfl⟩ ⟨Nat.le_of_ble_eq_true rfl, Nat.le_of_ble_eq_true rfl⟩ ?_
  refine ev_istore_n (pc := 5) (L' := [some (.ref 25), some (.int (nI za)), some (.int (nI zb)), some (.int (zf za))]) dX2_seam_5 (Nat.le_of_ble_eq_true rfl) rfl ?_
  refine ev_iload_n (pc := 6) dX2_seam_6 rfl ?_
  refine ev_iconst (pc := 7) (v := (-1)) dX2_seam_7 (by decide) ?_
  refine ev_icmp_eq (pc := 8) (tgt := 24) dX2_seam_8 (by decide) (fun zc8 => ?_) (fun zc8 => ?_)
  · -- eq at 8: taken
    refine ev_iconst (pc := 24) (v := 0) dX2_seam_24 (by decide) ?_
    refine ev_iret (pc := 25) dX2_seam_25 rfl ?_ ?_
    · rfl
    · refine ⟨?_, rfl⟩
      unfold seI
      rw [if_neg (fun z => z.1 zc8)]
  · -- eq at 8: not taken
    refine ev_iload_n (pc := 11) dX2_seam_11 rfl ?_
    refine ev_aload_n (pc := 12) dX2_seam_12 rfl ?_
    refine ev_iload_n (pc := 13) dX2_seam_13 rfl ?_
    refine ev_callVv (S := [.int (zf za)]) (pc := 14) dX2_seam_14 kX2_colourAt lX2_74 vX2_colourAt (cn_colourN E h zb zf zx hw hF (by omega)) rfl rfl (wlt hw (by decide)) rfl rfl (Nat.le_of_ble_eq_true rfl) ⟨Nat.le_of_ble_eq_true rfl, Nat.le_of_ble_eq_true rfl⟩ ⟨Nat.le_of_ble_eq_true rfl, Nat.le_of_ble_eq_true rfl⟩ ?_
    refine ev_icmp_ne (pc := 17) (tgt := 24) dX2_seam_17 (by decide) (fun zc17 => ?_) (fun zc17 => ?_)
    · -- ne at 17: taken
      refine ev_iconst (pc := 24) (v := 0) dX2_seam_24 (by decide) ?_
      refine ev_iret (pc := 25) dX2_seam_25 rfl ?_ ?_
      · rfl
      · refine ⟨?_, rfl⟩
        unfold seI
        rw [if_neg (fun z => zc17 z.2)]
    · -- ne at 17: not taken
      refine ev_iconst (pc := 20) (v := 1) dX2_seam_20 (by decide) ?_
      refine ev_goto (pc := 21) (tgt := 25) dX2_seam_21 (by decide) ?_
      refine ev_iret (pc := 25) dX2_seam_25 rfl ?_ ?_
      · rfl
      · refine ⟨?_, rfl⟩
        unfold seI
        rw [if_pos ⟨zc8, zc17⟩]
theorem lp_seamsNow_6 (E : ME) (h : AH) (zf : Nat → Int32) (zx : Int64) (hw : WF h) (hF : FLz zf zx h) {post : PO} (K : Ev E mX2_seamsNow (rmm 3 0 0) (QM E 0 0 post) 0 0 60 [some (.ref 25), some (.int (smF zf 8)), some (.int 3), some (.int (nI 8))] [] h) : ∀ n i : Nat, i + n = 8 → Ev E mX2_seamsNow (rmm 3 0 0) (QM E 0 0 post) 0 0 6 [some (.ref 25), some (.int (smF zf i)), some (.int 3), some (.int (nI i))] [] h := by
  intro n
  induction n with
  | zero =>
    intro i hi
    obtain rfl : 8 = i := by omega
    refine ev_iload_n (pc := 6) dX2_seamsNow_6 rfl ?_
    refine ev_bipush (pc := 7) (v := 8) dX2_seamsNow_7 (by decide) ?_
    refine ev_icmp_ge (pc := 9) (tgt := 60) dX2_seamsNow_9 (by decide) (fun zc9 => ?_) (fun zc9 => absurd (by decide) zc9)
    exact K
  | succ n ih =>
    intro i hi
    have hlt : i < 8 := by omega
    refine ev_iload_n (pc := 6) dX2_seamsNow_6 rfl ?_
    refine ev_bipush (pc := 7) (v := 8) dX2_seamsNow_7 (by decide) ?_
    refine ev_icmp_ge (pc := 9) (tgt := 60) dX2_seamsNow_9 (by decide) (fun zc9 => absurd zc9 (nI_ge (a := i) (b := 8) hlt (by decide))) (fun zc9 => ?_)
    refine ev_iload_n (pc := 12) dX2_seamsNow_12 rfl ?_
    refine ev_aload_n (pc := 13) dX2_seamsNow_13 rfl ?_
    refine ev_iload_n (pc := 14) dX2_seamsNow_14 rfl ?_
    refine ev_bipush (pc := 15) (v := 8) dX2_seamsNow_15 (by decide) ?_
    refine ev_imul (pc := 17) dX2_seamsNow_17 ?_
    refine ev_eqI (e' := nI (i * 8)) (pk_mul i 8) ?_
    refine ev_iload_n (pc := 18) dX2_seamsNow_18 rfl ?_
    refine ev_iadd (pc := 19) dX2_seamsNow_19 ?_
    refine ev_eqI (e' := nI ((i * 8) + 3)) (nI_add (i * 8) 3) ?_
    refine ev_iload_n (pc := 20) dX2_seamsNow_20 rfl ?_
    refine ev_bipush (pc := 21) (v := 8) dX2_seamsNow_21 (by decide) ?_
    refine ev_imul (pc := 23) dX2_seamsNow_23 ?_
    refine ev_eqI (e' := nI (i * 8)) (pk_mul i 8) ?_
    refine ev_iload_n (pc := 24) dX2_seamsNow_24 rfl ?_
    refine ev_iadd (pc := 25) dX2_seamsNow_25 ?_
    refine ev_eqI (e' := nI ((i * 8) + 3)) (nI_add (i * 8) 3) ?_
    refine ev_iconst (pc := 26) (v := 1) dX2_seamsNow_26 (by decide) ?_
    refine ev_iadd (pc := 27) dX2_seamsNow_27 ?_
    refine ev_eqI (e' := nI (((i * 8) + 3) + 1)) (nI_add ((i * 8) + 3) 1) ?_
    refine ev_callVv (S := [.int (smF zf i)]) (pc := 28) dX2_seamsNow_28 kX2_seam lX2_91 vX2_seam (cn_X2_seam E h ((i * 8) + 3) (((i * 8) + 3) + 1) zf zx hw hF (by omega) (by omega)) rfl rfl (wlt hw (by decide)) rfl rfl (Nat.le_of_ble_eq_true rfl) ⟨Nat.le_of_ble_eq_true rfl, Nat.le_of_ble_eq_true rfl⟩ ⟨Nat.le_of_ble_eq_true rfl, Nat.le_of_ble_eq_true rfl⟩ ?_
    refine ev_iadd (pc := 31) dX2_seamsNow_31 ?_
    refine ev_istore_n (pc := 32) (L' := [some (.ref 25), some (.int ((smF zf i) + (seI (zf ((i * 8) + 3)) (zf (((i * 8) + 3) + 1))))), some (.int 3), some (.int (nI i))]) dX2_seamsNow_32 (Nat.le_of_ble_eq_true rfl) rfl ?_
    refine ev_iload_n (pc := 33) dX2_seamsNow_33 rfl ?_
    refine ev_aload_n (pc := 34) dX2_seamsNow_34 rfl ?_
    refine ev_iload_n (pc := 35) dX2_seamsNow_35 rfl ?_
    refine ev_bipush (pc := 36) (v := 8) dX2_seamsNow_36 (by decide) ?_
    refine ev_imul (pc := 38) dX2_seamsNow_38 ?_
    refine ev_eqI (e' := 24) (by decide) ?_
    refine ev_iload_n (pc := 39) dX2_seamsNow_39 rfl ?_
    refine ev_iadd (pc := 40) dX2_seamsNow_40 ?_
    refine ev_eqI (e' := nI (24 + i)) (nI_add 24 i) ?_
    refine ev_iload_n (pc := 41) dX2_seamsNow_41 rfl ?_
    refine ev_iconst (pc := 42) (v := 1) dX2_seamsNow_42 (by decide) ?_
    refine ev_iadd (pc := 43) dX2_seamsNow_43 ?_
    refine ev_eqI (e' := 4) (by decide) ?_
    refine ev_bipush (pc := 44) (v := 8) dX2_seamsNow_44 (by decide) ?_
    refine ev_imul (pc := 46) dX2_seamsNow_46 ?_
    refine ev_eqI (e' := 32) (by decide) ?_
    refine ev_iload_n (pc := 47) dX2_seamsNow_47 rfl ?_
    refine ev_iadd (pc := 48) dX2_seamsNow_48 ?_
    refine ev_eqI (e' := nI (32 + i)) (nI_add 32 i) ?_
    refine ev_callVv (S := [.int ((smF zf i) + (seI (zf ((i * 8) + 3)) (zf (((i * 8) + 3) + 1))))]) (pc := 49) dX2_seamsNow_49 kX2_seam lX2_91 vX2_seam (cn_X2_seam E h (24 + i) (32 + i) zf zx hw hF (by omega) (by omega)) rfl rfl (wlt hw (by decide)) rfl rfl (Nat.le_of_ble_eq_true rfl) ⟨Nat.le_of_ble_eq_true rfl, Nat.le_of_ble_eq_true rfl⟩ ⟨Nat.le_of_ble_eq_true rfl, Nat.le_of_ble_eq_true rfl⟩ ?_
    refine ev_iadd (pc := 52) dX2_seamsNow_52 ?_
    refine ev_istore_n (pc := 53) (L' := [some (.ref 25), some (.int (((smF zf i) + (seI (zf ((i * 8) + 3)) (zf (((i * 8) + 3) + 1)))) + (seI (zf (24 + i)) (zf (32 + i))))), some (.int 3), some (.int (nI i))]) dX2_seamsNow_53 (Nat.le_of_ble_eq_true rfl) rfl ?_
    refine ev_iinc (pc := 54) (v := nI (i + 1)) (L' := [some (.ref 25), some (.int (((smF zf i) + (seI (zf ((i * 8) + 3)) (zf (((i * 8) + 3) + 1)))) + (seI (zf (24 + i)) (zf (32 + i))))), some (.int 3), some (.int (nI (i + 1)))]) dX2_seamsNow_54 rfl (nI_1 _) (Nat.le_of_ble_eq_true rfl) rfl ?_
    refine ev_goto (pc := 57) (tgt := 6) dX2_seamsNow_57 (by decide) ?_
    refine ev_eqL (L' := [some (.ref 25), some (.int (smF zf (i + 1))), some (.int 3), some (.int (nI (i + 1)))]) (by rw [smF, Nat.mul_comm 8 i]) ?_
    exact ih (i + 1) (by omega)
theorem cn_X2_seamsNow (E : ME) (h : AH) (zf : Nat → Int32) (zx : Int64) (hw : WF h) (hF : FLz zf zx h) : Con E mX2_seamsNow 3 0 0 [.ref 25] h (fun r h' => r = some (.int (smF zf 8)) ∧ h' = h) := by
  refine con_of2 (L := [some (.ref 25), none, none, none]) rfl (Nat.le_of_ble_eq_true rfl) rfl ?_
  refine ev_iconst (pc := 0) (v := 0) dX2_seamsNow_0 (by decide) ?_
  refine ev_istore_n (pc := 1) (L' := [some (.ref 25), some (.int 0), none, none]) dX2_seamsNow_1 (Nat.le_of_ble_eq_true rfl) rfl ?_
  refine ev_iconst (pc := 2) (v := 3) dX2_seamsNow_2 (by decide) ?_
  refine ev_istore_n (pc := 3) (L' := [some (.ref 25), some (.int 0), some (.int 3), none]) dX2_seamsNow_3 (Nat.le_of_ble_eq_true rfl) rfl ?_
  refine ev_iconst (pc := 4) (v := 0) dX2_seamsNow_4 (by decide) ?_
  refine ev_istore_n (pc := 5) (L' := [some (.ref 25), some (.int 0), some (.int 3), some (.int 0)]) dX2_seamsNow_5 (Nat.le_of_ble_eq_true rfl) rfl ?_
  refine lp_seamsNow_6 E h zf zx hw hF ?_ 8 0 (Nat.zero_add _)
  refine ev_iload_n (pc := 60) dX2_seamsNow_60 rfl ?_
  refine ev_iret (pc := 61) dX2_seamsNow_61 rfl ?_ ?_
  · rfl
  · exact ⟨rfl, rfl⟩
theorem cn_X10_seams (E : ME) (h : AH) (zf : Nat → Int32) (zx : Int64) (hw : WF h) (hF : FLz zf zx h) : Con E mX10_seams 4 0 0 [.ref 0] h (fun r h' => r = some (.int (smF zf 8)) ∧ h' = h) := by
  refine con_of2 (L := [some (.ref 0)]) rfl (Nat.le_of_ble_eq_true rfl) rfl ?_
  refine ev_aload_n (pc := 0) dX10_seams_0 rfl ?_
  refine ev_getR (pc := 1) (q := 25) dX10_seams_1 fX10_45 rfl (wlt hw (by decide)) (wr hw rfl) ?_
  refine ev_callVv (S := []) (pc := 4) dX10_seams_4 kX2_seamsNow lX10_353 vX2_seamsNow (cn_X2_seamsNow E h zf zx hw hF) rfl rfl (wlt hw (by decide)) rfl rfl (Nat.le_of_ble_eq_true rfl) ⟨Nat.le_of_ble_eq_true rfl, Nat.le_of_ble_eq_true rfl⟩ ⟨Nat.le_of_ble_eq_true rfl, Nat.le_of_ble_eq_true rfl⟩ ?_
  refine ev_iret (pc := 7) dX10_seams_7 rfl ?_ ?_
  · rfl
  · exact ⟨rfl, rfl⟩
def imN (zw zc : Nat) : Nat := srN 8 (if zw < 4 then (4 - zw) % 4 else zw) zc
theorem im_ok : ∀ zw, zw < 8 → ∀ zc, zc < 64 → imN zw zc < 64 ∧ srN 8 zw (imN zw zc) = zc ∧ imN zw (srN 8 zw zc) = zc := by decide +kernel
def IMz (h : AH) : Prop := ∀ zw, zw < 8 → ∀ zc, zc < 64 → h.2.1 28 (64 * zw + zc) = nI (imN zw zc)
abbrev hoP (zf : Nat → Int32) (za zb : Nat) : Prop := zf za = -1 ∨ zf zb = -1 ∨ zf za = zf zb
theorem ho_iff (zf : Nat → Int32) (zw : Nat) : ∀ zn, hoF zf zw zn = if (∀ zj, zj < zn → hoP zf zj (srN 8 zw zj)) then 1 else 0
  | 0 => by rw [hoF, if_pos (fun zj hj => absurd hj (Nat.not_lt_zero _))]
  | zn + 1 => by
    rw [hoF, ho_iff zf zw zn]
    by_cases h1 : ∀ zj, zj < zn → hoP zf zj (srN 8 zw zj)
    · rw [if_pos h1]
      by_cases h2 : hoP zf zn (srN 8 zw zn)
      · rw [if_pos ⟨by decide, h2⟩, if_pos (fun zj hj => by rcases Nat.lt_or_ge zj zn with z | z; exact h1 zj z; rw [show zj = zn by omega]; exact h2)]
      · rw [if_neg (fun z => h2 z.2), if_neg (fun z => h2 (z zn (by omega)))]
    · rw [if_neg h1, if_neg (fun z => z.1 rfl), if_neg (fun z => h1 (fun zj hj => z zj (by omega)))]
theorem ho_im {zf : Nat → Int32} {zw : Nat} (hw : zw < 8) : (∀ zj, zj < 64 → hoP zf zj (imN zw zj)) ↔ ∀ zj, zj < 64 → hoP zf zj (srN 8 zw zj) := by
  constructor
  · intro h zj hj
    have h1 := h (srN 8 zw zj) (sr8 zw hw zj hj).2
    rw [(im_ok zw hw zj hj).2.2] at h1
    rcases h1 with z | z | z
    · exact Or.inr (Or.inl z)
    · exact Or.inl z
    · exact Or.inr (Or.inr z.symm)
  · intro h zj hj
    have h1 := h (imN zw zj) (im_ok zw hw zj hj).1
    rw [(im_ok zw hw zj hj).2.1] at h1
    rcases h1 with z | z | z
    · exact Or.inr (Or.inl z)
    · exact Or.inl z
    · exact Or.inr (Or.inr z.symm)
theorem cn_X2_imageOf (E : ME) (h : AH) (zw zi : Nat) (hw : WF h) (hI : IMz h) (hw8 : zw < 8) (hi : zi < 64) : Con E mX2_imageOf 1 0 0 [.ref 25, .int (nI zw), .int (nI zi)] h (fun r h' => r = some (.int (nI (imN zw zi))) ∧ h' = h) := by
  refine con_of2 (L := [some (.ref 25), some (.int (nI zw)), some (.int (nI zi))]) rfl (Nat.le_of_ble_eq_true rfl) rfl ?_
  refine ev_iload_n (pc := 0) dX2_imageOf_0 rfl ?_
  refine ev_iconst (pc := 1) (v := 0) dX2_imageOf_1 (by decide) ?_
  refine ev_bipush (pc := 2) (v := 7) dX2_imageOf_2 (by decide) ?_
  refine ev_callSv (S := []) (pc := 4) dX2_imageOf_4 kX10_within lX2_49 sX10_within (cn_X10_within E h (nI zw) 0 7) rfl rfl (Nat.le_of_ble_eq_true rfl) ⟨Nat.le_of_ble_eq_true rfl, Nat.le_of_ble_eq_true rfl⟩ ⟨Nat.le_of_ble_eq_true rfl, Nat.le_of_ble_eq_true rfl⟩ ?_
  refine ev_if_eq (pc := 7) (tgt := 31) dX2_imageOf_7 (by decide) (fun zc7 => absurd zc7 (bI_n0.mpr ⟨nI_pos' (by omega), nI_le (a := zw) (b := 7) (by omega) (by decide)⟩)) (fun zc7 => ?_)
  refine ev_iload_n (pc := 10) dX2_imageOf_10 rfl ?_
  refine ev_callSv (S := []) (pc := 11) dX2_imageOf_11 kX10_isCell lX2_35 sX10_isCell (cn_X10_isCell E h (nI zi)) rfl rfl (Nat.le_of_ble_eq_true rfl) ⟨Nat.le_of_ble_eq_true rfl, Nat.le_of_ble_eq_true rfl⟩ ⟨Nat.le_of_ble_eq_true rfl, Nat.le_of_ble_eq_true rfl⟩ ?_
  refine ev_if_eq (pc := 14) (tgt := 31) dX2_imageOf_14 (by decide) (fun zc14 => absurd zc14 (bI_n0.mpr (cl_in hi))) (fun zc14 => ?_)
  refine ev_aload_n (pc := 17) dX2_imageOf_17 rfl ?_
  refine ev_getR (pc := 18) (q := 28) dX2_imageOf_18 fX2_19 rfl (wlt hw (by decide)) (wr hw rfl) ?_
  refine ev_iload_n (pc := 21) dX2_imageOf_21 rfl ?_
  refine ev_bipush (pc := 22) (v := 64) dX2_imageOf_22 (by decide) ?_
  refine ev_imul (pc := 24) dX2_imageOf_24 ?_
  refine ev_eqI (e' := nI (zw * 64)) (pk_mul zw 64) ?_
  refine ev_iload_n (pc := 25) dX2_imageOf_25 rfl ?_
  refine ev_iadd (pc := 26) dX2_imageOf_26 ?_
  refine ev_eqI (e' := nI ((zw * 64) + zi)) (nI_add (zw * 64) zi) ?_
  refine ev_iald (pc := 27) dX2_imageOf_27 rfl (wlt hw (by decide)) (vp_in_nI (by omega) (by decide)) ?_
  refine ev_eqI (e' := h.2.1 28 ((zw * 64) + zi)) (by rw [show Int32.toNatClampNeg (nI ((zw * 64) + zi)) = (zw * 64) + zi from nI_clamp (by omega)] <;> rfl) ?_
  refine ev_goto (pc := 28) (tgt := 32) dX2_imageOf_28 (by decide) ?_
  refine ev_iret (pc := 32) dX2_imageOf_32 rfl ?_ ?_
  · rfl
  · refine ⟨?_, rfl⟩
    rw [show zw * 64 + zi = 64 * zw + zi by omega, hI zw hw8 zi hi]
theorem lp_holds_2 (E : ME) (h : AH) (zw : Nat) (zf : Nat → Int32) (zx : Int64) (hw : WF h) (hF : FLz zf zx h) (hw8 : zw < 8) (hI : IMz h) : ∀ zn zi : Nat, zi + zn = 64 → (∀ zj, zj < zi → hoP zf zj (imN zw zj)) → Ev E mX2_holds (rmm 2 0 0) (QM E 0 0 (fun r h' => r = some (.int (hoF zf zw 64)) ∧ h' = h)) 0 0 2 [some (.ref 25), some (.int (nI zw)), some (.int (nI zi)), none, none] [] h := by
  intro zn
  induction zn with
  | zero =>
    intro zi hz H
    obtain rfl : 64 = zi := by omega
    refine ev_iload_n (pc := 2) dX2_holds_2 rfl ?_
    refine ev_bipush (pc := 3) (v := 64) dX2_holds_3 (by decide) ?_
    refine ev_icmp_ge (pc := 5) (tgt := 51) dX2_holds_5 (by decide) (fun zc5 => ?_) (fun zc5 => absurd (by decide) zc5)
    refine ev_iconst (pc := 51) (v := 1) dX2_holds_51 (by decide) ?_
    refine ev_iret (pc := 52) dX2_holds_52 rfl ?_ ?_
    · first | rfl | exact nar_bI _ | (simp only [*]; exact nar_bI _) | (simp [narrow, *]; done)
    · rw [ho_iff, if_pos ((ho_im hw8).mp H)]
      exact ⟨rfl, rfl⟩
  | succ zn ih =>
    intro zi hz H
    have zim := (im_ok zw hw8 zi (by omega)).1
    refine ev_iload_n (pc := 2) dX2_holds_2 rfl ?_
    refine ev_bipush (pc := 3) (v := 64) dX2_holds_3 (by decide) ?_
    refine ev_icmp_ge (pc := 5) (tgt := 51) dX2_holds_5 (by decide) (fun zc5 => absurd zc5 (nI_ge (a := zi) (b := 64) (by omega) (by decide))) (fun zc5 => ?_)
    refine ev_aload_n (pc := 8) dX2_holds_8 rfl ?_
    refine ev_iload_n (pc := 9) dX2_holds_9 rfl ?_
    refine ev_callVv (S := []) (pc := 10) dX2_holds_10 kX2_colourAt lX2_74 vX2_colourAt (cn_colourN E h zi zf zx hw hF (by omega)) rfl rfl (wlt hw (by decide)) rfl rfl (Nat.le_of_ble_eq_true rfl) ⟨Nat.le_of_ble_eq_true rfl, Nat.le_of_ble_eq_true rfl⟩ ⟨Nat.le_of_ble_eq_true rfl, Nat.le_of_ble_eq_true rfl⟩ ?_
    refine ev_istore_n (pc := 13) (L' := [some (.ref 25), some (.int (nI zw)), some (.int (nI zi)), some (.int (zf zi)), none]) dX2_holds_13 (Nat.le_of_ble_eq_true rfl) rfl ?_
    refine ev_aload_n (pc := 14) dX2_holds_14 rfl ?_
    refine ev_aload_n (pc := 15) dX2_holds_15 rfl ?_
    refine ev_iload_n (pc := 16) dX2_holds_16 rfl ?_
    refine ev_iload_n (pc := 17) dX2_holds_17 rfl ?_
    refine ev_callVv (S := [.ref 25]) (pc := 18) dX2_holds_18 kX2_imageOf lX2_78 vX2_imageOf (cn_X2_imageOf E h zw zi hw hI (by omega) (by omega)) rfl rfl (wlt hw (by decide)) rfl rfl (Nat.le_of_ble_eq_true rfl) ⟨Nat.le_of_ble_eq_true rfl, Nat.le_of_ble_eq_true rfl⟩ ⟨Nat.le_of_ble_eq_true rfl, Nat.le_of_ble_eq_true rfl⟩ ?_
    refine ev_callVv (S := []) (pc := 21) dX2_holds_21 kX2_colourAt lX2_74 vX2_colourAt (cn_colourN E h (imN zw zi) zf zx hw hF (by omega)) rfl rfl (wlt hw (by decide)) rfl rfl (Nat.le_of_ble_eq_true rfl) ⟨Nat.le_of_ble_eq_true rfl, Nat.le_of_ble_eq_true rfl⟩ ⟨Nat.le_of_ble_eq_true rfl, Nat.le_of_ble_eq_true rfl⟩ ?_
    refine ev_istore (pc := 24) (L' := [some (.ref 25), some (.int (nI zw)), some (.int (nI zi)), some (.int (zf zi)), some (.int (zf (imN zw zi)))]) dX2_holds_24 (Nat.le_of_ble_eq_true rfl) rfl ?_
    refine ev_iload_n (pc := 26) dX2_holds_26 rfl ?_
    refine ev_iconst (pc := 27) (v := (-1)) dX2_holds_27 (by decide) ?_
    refine ev_icmp_eq (pc := 28) (tgt := 45) dX2_holds_28 (by decide) (fun zc28 => ?_) (fun zc28 => ?_)
    · -- eq at 28: taken
      refine ev_iinc (pc := 45) (v := nI (zi + 1)) (L' := [some (.ref 25), some (.int (nI zw)), some (.int (nI (zi + 1))), some (.int (zf zi)), some (.int (zf (imN zw zi)))]) dX2_holds_45 rfl (nI_1 _) (Nat.le_of_ble_eq_true rfl) rfl ?_
      refine ev_goto (pc := 48) (tgt := 2) dX2_holds_48 (by decide) ?_
      refine ev_less (L' := [some (.ref 25), some (.int (nI zw)), some (.int (nI (zi + 1))), none, none]) (ls_keep (ls_keep (ls_keep (ls_drop (ls_drop (ls_nil _)))))) ?_
      exact ih (zi + 1) (by omega) (fun zj hj => by rcases Nat.lt_or_ge zj zi with z | z; exact H zj z; rw [show zj = zi by omega]; exact Or.inl zc28)
    · -- eq at 28: not taken
      refine ev_iload (pc := 31) dX2_holds_31 rfl ?_
      refine ev_iconst (pc := 33) (v := (-1)) dX2_holds_33 (by decide) ?_
      refine ev_icmp_eq (pc := 34) (tgt := 45) dX2_holds_34 (by decide) (fun zc34 => ?_) (fun zc34 => ?_)
      · -- eq at 34: taken
        refine ev_iinc (pc := 45) (v := nI (zi + 1)) (L' := [some (.ref 25), some (.int (nI zw)), some (.int (nI (zi + 1))), some (.int (zf zi)), some (.int (zf (imN zw zi)))]) dX2_holds_45 rfl (nI_1 _) (Nat.le_of_ble_eq_true rfl) rfl ?_
        refine ev_goto (pc := 48) (tgt := 2) dX2_holds_48 (by decide) ?_
        refine ev_less (L' := [some (.ref 25), some (.int (nI zw)), some (.int (nI (zi + 1))), none, none]) (ls_keep (ls_keep (ls_keep (ls_drop (ls_drop (ls_nil _)))))) ?_
        exact ih (zi + 1) (by omega) (fun zj hj => by rcases Nat.lt_or_ge zj zi with z | z; exact H zj z; rw [show zj = zi by omega]; exact Or.inr (Or.inl zc34))
      · -- eq at 34: not taken
        refine ev_iload_n (pc := 37) dX2_holds_37 rfl ?_
        refine ev_iload (pc := 38) dX2_holds_38 rfl ?_
        refine ev_icmp_eq (pc := 40) (tgt := 45) dX2_holds_40 (by decide) (fun zc40 => ?_) (fun zc40 => ?_)
        · -- eq at 40: taken
          refine ev_iinc (pc := 45) (v := nI (zi + 1)) (L' := [some (.ref 25), some (.int (nI zw)), some (.int (nI (zi + 1))), some (.int (zf zi)), some (.int (zf (imN zw zi)))]) dX2_holds_45 rfl (nI_1 _) (Nat.le_of_ble_eq_true rfl) rfl ?_
          refine ev_goto (pc := 48) (tgt := 2) dX2_holds_48 (by decide) ?_
          refine ev_less (L' := [some (.ref 25), some (.int (nI zw)), some (.int (nI (zi + 1))), none, none]) (ls_keep (ls_keep (ls_keep (ls_drop (ls_drop (ls_nil _)))))) ?_
          exact ih (zi + 1) (by omega) (fun zj hj => by rcases Nat.lt_or_ge zj zi with z | z; exact H zj z; rw [show zj = zi by omega]; exact Or.inr (Or.inr zc40))
        · -- eq at 40: not taken
          refine ev_iconst (pc := 43) (v := 0) dX2_holds_43 (by decide) ?_
          refine ev_iret (pc := 44) dX2_holds_44 rfl ?_ ?_
          · first | rfl | exact nar_bI _ | (simp only [*]; exact nar_bI _) | (simp [narrow, *]; done)
          · rw [ho_iff, if_neg (fun z => by
              rcases (ho_im hw8).mpr z zi (by omega) with z1 | z1 | z1
              · exact zc28 z1
              · exact zc34 z1
              · exact zc40 z1)]
            exact ⟨rfl, rfl⟩
theorem cn_X2_holds (E : ME) (h : AH) (zw : Nat) (zf : Nat → Int32) (zx : Int64) (hw : WF h) (hF : FLz zf zx h) (hw8 : zw < 8) (hI : IMz h) : Con E mX2_holds 2 0 0 [.ref 25, .int (nI zw)] h (fun r h' => r = some (.int (hoF zf zw 64)) ∧ h' = h) := by
  refine con_of2 (L := [some (.ref 25), some (.int (nI zw)), none, none, none]) rfl (Nat.le_of_ble_eq_true rfl) rfl ?_
  refine ev_iconst (pc := 0) (v := 0) dX2_holds_0 (by decide) ?_
  refine ev_istore_n (pc := 1) (L' := [some (.ref 25), some (.int (nI zw)), some (.int 0), none, none]) dX2_holds_1 (Nat.le_of_ble_eq_true rfl) rfl ?_
  exact lp_holds_2 E h zw zf zx hw hF hw8 hI 64 0 (by decide) (fun zj hj => absurd hj (Nat.not_lt_zero _))
theorem lp_ways_4 (E : ME) (h : AH) (zf : Nat → Int32) (zx : Int64) (hw : WF h) (hF : FLz zf zx h) (hI : IMz h) {post : PO} (K : Ev E mX2_waysThatHold (rmm 3 0 0) (QM E 0 0 post) 0 0 30 [some (.ref 25), some (.int (syF zf 7)), some (.int (nI (7 + 1)))] [] h) : ∀ n i : Nat, i + n = 7 → Ev E mX2_waysThatHold (rmm 3 0 0) (QM E 0 0 post) 0 0 4 [some (.ref 25), some (.int (syF zf i)), some (.int (nI (i + 1)))] [] h := by
  intro n
  induction n with
  | zero =>
    intro i hi
    obtain rfl : 7 = i := by omega
    refine ev_iload_n (pc := 4) dX2_waysThatHold_4 rfl ?_
    refine ev_bipush (pc := 5) (v := 8) dX2_waysThatHold_5 (by decide) ?_
    refine ev_icmp_ge (pc := 7) (tgt := 30) dX2_waysThatHold_7 (by decide) (fun zc7 => ?_) (fun zc7 => absurd (by decide) zc7)
    exact K
  | succ n ih =>
    intro i hi
    have hlt : i < 7 := by omega
    refine ev_iload_n (pc := 4) dX2_waysThatHold_4 rfl ?_
    refine ev_bipush (pc := 5) (v := 8) dX2_waysThatHold_5 (by decide) ?_
    refine ev_icmp_ge (pc := 7) (tgt := 30) dX2_waysThatHold_7 (by decide) (fun zc7 => absurd zc7 (nI_ge (a := i + 1) (b := 8) (by omega) (by decide))) (fun zc7 => ?_)
    refine ev_aload_n (pc := 10) dX2_waysThatHold_10 rfl ?_
    refine ev_iload_n (pc := 11) dX2_waysThatHold_11 rfl ?_
    refine ev_callVv (S := []) (pc := 12) dX2_waysThatHold_12 kX2_holds lX2_82 vX2_holds (cn_X2_holds E h (i + 1) zf zx hw hF (by omega) hI) rfl rfl (wlt hw (by decide)) rfl rfl (Nat.le_of_ble_eq_true rfl) ⟨Nat.le_of_ble_eq_true rfl, Nat.le_of_ble_eq_true rfl⟩ ⟨Nat.le_of_ble_eq_true rfl, Nat.le_of_ble_eq_true rfl⟩ ?_
    refine ev_if_eq (pc := 15) (tgt := 24) dX2_waysThatHold_15 (by decide) (fun zc15 => ?_) (fun zc15 => ?_)
    · -- eq at 15: taken
      refine ev_iinc (pc := 24) (v := nI (i + 1 + 1)) (L' := [some (.ref 25), some (.int (syF zf i)), some (.int (nI (i + 1 + 1)))]) dX2_waysThatHold_24 rfl (nI_1 _) (Nat.le_of_ble_eq_true rfl) rfl ?_
      refine ev_goto (pc := 27) (tgt := 4) dX2_waysThatHold_27 (by decide) ?_
      refine ev_eqL (L' := [some (.ref 25), some (.int (syF zf (i + 1))), some (.int (nI ((i + 1) + 1)))]) (by rw [syF]; first | rw [if_pos zc15, or_zero32] | rw [if_neg zc15]) ?_
      exact ih (i + 1) (by omega)
    · -- eq at 15: not taken
      refine ev_iload_n (pc := 18) dX2_waysThatHold_18 rfl ?_
      refine ev_iconst (pc := 19) (v := 1) dX2_waysThatHold_19 (by decide) ?_
      refine ev_iload_n (pc := 20) dX2_waysThatHold_20 rfl ?_
      refine ev_ishl (pc := 21) dX2_waysThatHold_21 ?_
      refine ev_ior (pc := 22) dX2_waysThatHold_22 ?_
      refine ev_istore_n (pc := 23) (L' := [some (.ref 25), some (.int ((syF zf i) ||| (1 <<< ((nI (i + 1)) &&& 31)))), some (.int (nI (i + 1)))]) dX2_waysThatHold_23 (Nat.le_of_ble_eq_true rfl) rfl ?_
      refine ev_iinc (pc := 24) (v := nI (i + 1 + 1)) (L' := [some (.ref 25), some (.int ((syF zf i) ||| (1 <<< ((nI (i + 1)) &&& 31)))), some (.int (nI (i + 1 + 1)))]) dX2_waysThatHold_24 rfl (nI_1 _) (Nat.le_of_ble_eq_true rfl) rfl ?_
      refine ev_goto (pc := 27) (tgt := 4) dX2_waysThatHold_27 (by decide) ?_
      refine ev_eqL (L' := [some (.ref 25), some (.int (syF zf (i + 1))), some (.int (nI ((i + 1) + 1)))]) (by rw [syF]; first | rw [if_pos zc15, or_zero32] | rw [if_neg zc15]) ?_
      exact ih (i + 1) (by omega)
theorem cn_X2_waysThatHold (E : ME) (h : AH) (zf : Nat → Int32) (zx : Int64) (hw : WF h) (hF : FLz zf zx h) (hI : IMz h) : Con E mX2_waysThatHold 3 0 0 [.ref 25] h (fun r h' => r = some (.int (syF zf 7)) ∧ h' = h) := by
  refine con_of2 (L := [some (.ref 25), none, none]) rfl (Nat.le_of_ble_eq_true rfl) rfl ?_
  refine ev_iconst (pc := 0) (v := 0) dX2_waysThatHold_0 (by decide) ?_
  refine ev_istore_n (pc := 1) (L' := [some (.ref 25), some (.int 0), none]) dX2_waysThatHold_1 (Nat.le_of_ble_eq_true rfl) rfl ?_
  refine ev_iconst (pc := 2) (v := 1) dX2_waysThatHold_2 (by decide) ?_
  refine ev_istore_n (pc := 3) (L' := [some (.ref 25), some (.int 0), some (.int 1)]) dX2_waysThatHold_3 (Nat.le_of_ble_eq_true rfl) rfl ?_
  refine lp_ways_4 E h zf zx hw hF hI ?_ 7 0 (Nat.zero_add _)
  refine ev_iload_n (pc := 30) dX2_waysThatHold_30 rfl ?_
  refine ev_iret (pc := 31) dX2_waysThatHold_31 rfl ?_ ?_
  · rfl
  · exact ⟨rfl, rfl⟩
theorem cn_X10_symmetries (E : ME) (h : AH) (zf : Nat → Int32) (zx : Int64) (hw : WF h) (hF : FLz zf zx h) (hI : IMz h) : Con E mX10_symmetries 4 0 0 [.ref 0] h (fun r h' => r = some (.int (syF zf 7)) ∧ h' = h) := by
  refine con_of2 (L := [some (.ref 0)]) rfl (Nat.le_of_ble_eq_true rfl) rfl ?_
  refine ev_aload_n (pc := 0) dX10_symmetries_0 rfl ?_
  refine ev_getR (pc := 1) (q := 25) dX10_symmetries_1 fX10_45 rfl (wlt hw (by decide)) (wr hw rfl) ?_
  refine ev_callVv (S := []) (pc := 4) dX10_symmetries_4 kX2_waysThatHold lX10_295 vX2_waysThatHold (cn_X2_waysThatHold E h zf zx hw hF hI) rfl rfl (wlt hw (by decide)) rfl rfl (Nat.le_of_ble_eq_true rfl) ⟨Nat.le_of_ble_eq_true rfl, Nat.le_of_ble_eq_true rfl⟩ ⟨Nat.le_of_ble_eq_true rfl, Nat.le_of_ble_eq_true rfl⟩ ?_
  refine ev_iret (pc := 7) dX10_symmetries_7 rfl ?_ ?_
  · rfl
  · exact ⟨rfl, rfl⟩
