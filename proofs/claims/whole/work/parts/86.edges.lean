/-- so many of four cells of two edges are alike -/
def alF (zg : Nat → Int32) (za zb : Nat) : Nat → Int32
  | 0 => 0
  | zk + 1 => alF zg za zb zk + seI (zg (za + zk)) (zg (zb + zk))
theorem m4_sh : ∀ zm, zm < 16 → nI zm >>> ((2 : Int32) &&& 31) = nI (zm / 4) ∧ nI zm &&& 3 = nI (zm % 4) := by decide +kernel
theorem lp_alike (E : ME) (h : AH) (za zb : Nat) (hw : WF h) (ha : za + 4 ≤ 256) (hb : zb + 4 ≤ 256) {post : PO} (K : Ev E mX4_alike (rmm 0 0 0) (QM E 0 0 post) 0 0 51 [some (.ref 36), some (.int (nI za)), some (.int (nI zb)), some (.int (alF (h.2.1 39) za zb 4)), some (.int (nI 4)), none] [] h) : ∀ n i : Nat, i + n = 4 → Ev E mX4_alike (rmm 0 0 0) (QM E 0 0 post) 0 0 5 [some (.ref 36), some (.int (nI za)), some (.int (nI zb)), some (.int (alF (h.2.1 39) za zb i)), some (.int (nI i)), none] [] h := by
  intro n
  induction n with
  | zero =>
    intro i hi
    obtain rfl : 4 = i := by omega
    refine ev_iload (pc := 5) dX4_alike_5 rfl ?_
    refine ev_iconst (pc := 7) (v := 4) dX4_alike_7 (by decide) ?_
    refine ev_icmp_ge (pc := 8) (tgt := 51) dX4_alike_8 (by decide) (fun zc8 => ?_) (fun zc8 => absurd (by decide) zc8)
    exact K
  | succ n ih =>
    intro i hi
    have hlt : i < 4 := by omega
    refine ev_iload (pc := 5) dX4_alike_5 rfl ?_
    refine ev_iconst (pc := 7) (v := 4) dX4_alike_7 (by decide) ?_
    refine ev_icmp_ge (pc := 8) (tgt := 51) dX4_alike_8 (by decide) (fun zc8 => absurd zc8 (nI_ge (b := 4) hlt (by decide))) (fun zc8 => ?_)
    refine ev_aload_n (pc := 11) dX4_alike_11 rfl ?_
    refine ev_getR (pc := 12) (q := 39) dX4_alike_12 fX4_18 rfl (wlt hw (by decide)) (wr hw rfl) ?_
    refine ev_iload_n (pc := 15) dX4_alike_15 rfl ?_
    refine ev_iload (pc := 16) dX4_alike_16 rfl ?_
    refine ev_iadd (pc := 18) dX4_alike_18 ?_
    refine ev_eqI (e' := nI (za + i)) (nI_add za i) ?_
    refine ev_iald (pc := 19) dX4_alike_19 rfl (wlt hw (by decide)) (vp_in_nI (by omega) (by decide)) ?_
    refine ev_eqI (e' := h.2.1 39 (za + i)) (by rw [show Int32.toNatClampNeg (nI (za + i)) = za + i from nI_clamp (by omega)] <;> rfl) ?_
    refine ev_istore (pc := 20) (L' := [some (.ref 36), some (.int (nI za)), some (.int (nI zb)), some (.int (alF (h.2.1 39) za zb i)), some (.int (nI i)), some (.int (h.2.1 39 (za + i)))]) dX4_alike_20 (Nat.le_of_ble_eq_true rfl) rfl ?_
    refine ev_iload (pc := 22) dX4_alike_22 rfl ?_
    refine ev_iconst (pc := 24) (v := (-1)) dX4_alike_24 (by decide) ?_
    refine ev_icmp_eq (pc := 25) (tgt := 45) dX4_alike_25 (by decide) (fun zc25 => ?_) (fun zc25 => ?_)
    · -- eq at 25: taken
      refine ev_iinc (pc := 45) (v := nI (i + 1)) (L' := [some (.ref 36), some (.int (nI za)), some (.int (nI zb)), some (.int (alF (h.2.1 39) za zb i)), some (.int (nI (i + 1))), some (.int (h.2.1 39 (za + i)))]) dX4_alike_45 rfl (nI_1 _) (Nat.le_of_ble_eq_true rfl) rfl ?_
      refine ev_goto (pc := 48) (tgt := 5) dX4_alike_48 (by decide) ?_
      refine ev_eqL (L' := [some (.ref 36), some (.int (nI za)), some (.int (nI zb)), some (.int (alF (h.2.1 39) za zb (i + 1))), some (.int (nI (i + 1))), some (.int (h.2.1 39 (za + i)))]) (by rw [alF, show seI (h.2.1 39 (za + i)) (h.2.1 39 (zb + i)) = 0 from if_neg (fun z => z.1 zc25), Int32.add_zero]) ?_
      refine ev_less (L' := [some (.ref 36), some (.int (nI za)), some (.int (nI zb)), some (.int (alF (h.2.1 39) za zb (i + 1))), some (.int (nI (i + 1))), none]) (ls_keep (ls_keep (ls_keep (ls_keep (ls_keep (ls_drop (ls_nil _))))))) ?_
      exact ih (i + 1) (by omega)
    · -- eq at 25: not taken
      refine ev_iload (pc := 28) dX4_alike_28 rfl ?_
      refine ev_aload_n (pc := 30) dX4_alike_30 rfl ?_
      refine ev_getR (pc := 31) (q := 39) dX4_alike_31 fX4_18 rfl (wlt hw (by decide)) (wr hw rfl) ?_
      refine ev_iload_n (pc := 34) dX4_alike_34 rfl ?_
      refine ev_iload (pc := 35) dX4_alike_35 rfl ?_
      refine ev_iadd (pc := 37) dX4_alike_37 ?_
      refine ev_eqI (e' := nI (zb + i)) (nI_add zb i) ?_
      refine ev_iald (pc := 38) dX4_alike_38 rfl (wlt hw (by decide)) (vp_in_nI (by omega) (by decide)) ?_
      refine ev_eqI (e' := h.2.1 39 (zb + i)) (by rw [show Int32.toNatClampNeg (nI (zb + i)) = zb + i from nI_clamp (by omega)] <;> rfl) ?_
      refine ev_icmp_ne (pc := 39) (tgt := 45) dX4_alike_39 (by decide) (fun zc39 => ?_) (fun zc39 => ?_)
      · -- ne at 39: taken
        refine ev_iinc (pc := 45) (v := nI (i + 1)) (L' := [some (.ref 36), some (.int (nI za)), some (.int (nI zb)), some (.int (alF (h.2.1 39) za zb i)), some (.int (nI (i + 1))), some (.int (h.2.1 39 (za + i)))]) dX4_alike_45 rfl (nI_1 _) (Nat.le_of_ble_eq_true rfl) rfl ?_
        refine ev_goto (pc := 48) (tgt := 5) dX4_alike_48 (by decide) ?_
        refine ev_eqL (L' := [some (.ref 36), some (.int (nI za)), some (.int (nI zb)), some (.int (alF (h.2.1 39) za zb (i + 1))), some (.int (nI (i + 1))), some (.int (h.2.1 39 (za + i)))]) (by rw [alF, show seI (h.2.1 39 (za + i)) (h.2.1 39 (zb + i)) = 0 from if_neg (fun z => zc39 z.2), Int32.add_zero]) ?_
        refine ev_less (L' := [some (.ref 36), some (.int (nI za)), some (.int (nI zb)), some (.int (alF (h.2.1 39) za zb (i + 1))), some (.int (nI (i + 1))), none]) (ls_keep (ls_keep (ls_keep (ls_keep (ls_keep (ls_drop (ls_nil _))))))) ?_
        exact ih (i + 1) (by omega)
      · -- ne at 39: not taken
        refine ev_iinc (pc := 42) (v := (alF (h.2.1 39) za zb i) + 1) (L' := [some (.ref 36), some (.int (nI za)), some (.int (nI zb)), some (.int ((alF (h.2.1 39) za zb i) + 1)), some (.int (nI i)), some (.int (h.2.1 39 (za + i)))]) dX4_alike_42 rfl rfl (Nat.le_of_ble_eq_true rfl) rfl ?_
        refine ev_iinc (pc := 45) (v := nI (i + 1)) (L' := [some (.ref 36), some (.int (nI za)), some (.int (nI zb)), some (.int ((alF (h.2.1 39) za zb i) + 1)), some (.int (nI (i + 1))), some (.int (h.2.1 39 (za + i)))]) dX4_alike_45 rfl (nI_1 _) (Nat.le_of_ble_eq_true rfl) rfl ?_
        refine ev_goto (pc := 48) (tgt := 5) dX4_alike_48 (by decide) ?_
        refine ev_eqL (L' := [some (.ref 36), some (.int (nI za)), some (.int (nI zb)), some (.int (alF (h.2.1 39) za zb (i + 1))), some (.int (nI (i + 1))), some (.int (h.2.1 39 (za + i)))]) (by rw [alF, show seI (h.2.1 39 (za + i)) (h.2.1 39 (zb + i)) = 1 from if_pos ⟨zc25, zc39⟩]) ?_
        refine ev_less (L' := [some (.ref 36), some (.int (nI za)), some (.int (nI zb)), some (.int (alF (h.2.1 39) za zb (i + 1))), some (.int (nI (i + 1))), none]) (ls_keep (ls_keep (ls_keep (ls_keep (ls_keep (ls_drop (ls_nil _))))))) ?_
        exact ih (i + 1) (by omega)
theorem cn_X4_alike (E : ME) (h : AH) (za zb : Nat) (hw : WF h) (ha : za + 4 ≤ 256) (hb : zb + 4 ≤ 256) : Con E mX4_alike 0 0 0 [.ref 36, .int (nI za), .int (nI zb)] h (fun r h' => r = some (.int (alF (h.2.1 39) za zb 4)) ∧ h' = h) := by
  refine con_of2 (L := [some (.ref 36), some (.int (nI za)), some (.int (nI zb)), none, none, none]) rfl (Nat.le_of_ble_eq_true rfl) rfl ?_
  refine ev_iconst (pc := 0) (v := 0) dX4_alike_0 (by decide) ?_
  refine ev_istore_n (pc := 1) (L' := [some (.ref 36), some (.int (nI za)), some (.int (nI zb)), some (.int 0), none, none]) dX4_alike_1 (Nat.le_of_ble_eq_true rfl) rfl ?_
  refine ev_iconst (pc := 2) (v := 0) dX4_alike_2 (by decide) ?_
  refine ev_istore (pc := 3) (L' := [some (.ref 36), some (.int (nI za)), some (.int (nI zb)), some (.int 0), some (.int 0), none]) dX4_alike_3 (Nat.le_of_ble_eq_true rfl) rfl ?_
  refine lp_alike E h za zb hw ha hb ?_ 4 0 (Nat.zero_add _)
  refine ev_iload_n (pc := 51) dX4_alike_51 rfl ?_
  refine ev_iret (pc := 52) dX4_alike_52 rfl ?_ ?_
  · rfl
  · exact ⟨rfl, rfl⟩
theorem cn_X4_colourOf (E : ME) (h : AH) (zm zc : Nat) (hw : WF h) (hz : zm < 16) (hc : zc < 16) : Con E mX4_colourOf 2 0 0 [.ref 25, .int (nI zm), .int (nI zc)] h (fun r h' => r = some (.int (h.2.1 26 (pnN (zm / 4) (srN 4 (zm % 4) zc)))) ∧ h' = h) := by
  refine con_of2 (L := [some (.ref 25), some (.int (nI zm)), some (.int (nI zc))]) rfl (Nat.le_of_ble_eq_true rfl) rfl ?_
  have zsr := (sr4 (zm % 4) (by omega) zc hc).2
  have zpn := (pn_ok (zm / 4) (by omega) _ zsr).2
  refine ev_aload_n (pc := 0) dX4_colourOf_0 rfl ?_
  refine ev_iload_n (pc := 1) dX4_colourOf_1 rfl ?_
  refine ev_iconst (pc := 2) (v := 2) dX4_colourOf_2 (by decide) ?_
  refine ev_ishr (pc := 3) dX4_colourOf_3 ?_
  refine ev_eqI (e' := nI (zm / 4)) (m4_sh zm hz).1 ?_
  refine ev_iload_n (pc := 4) dX4_colourOf_4 rfl ?_
  refine ev_iconst (pc := 5) (v := 3) dX4_colourOf_5 (by decide) ?_
  refine ev_iand (pc := 6) dX4_colourOf_6 ?_
  refine ev_eqI (e' := nI (zm % 4)) (m4_sh zm hz).2 ?_
  refine ev_iload_n (pc := 7) dX4_colourOf_7 rfl ?_
  refine ev_iconst (pc := 8) (v := 4) dX4_colourOf_8 (by decide) ?_
  refine ev_callSv (S := [.int (nI (zm / 4)), .ref 25]) (pc := 9) dX4_colourOf_9 kX10_source lX4_70 sX10_source (cn_X10_src4 E h (zm % 4) zc hw (by omega) (by omega)) rfl rfl (Nat.le_of_ble_eq_true rfl) ⟨Nat.le_of_ble_eq_true rfl, Nat.le_of_ble_eq_true rfl⟩ ⟨Nat.le_of_ble_eq_true rfl, Nat.le_of_ble_eq_true rfl⟩ ?_
  refine ev_callSv (S := [.ref 25]) (pc := 12) dX4_colourOf_12 kX10_panelCell lX4_74 sX10_panelCell (cn_X10_pn E h (zm / 4) (srN 4 (zm % 4) zc) (by omega) (by omega)) rfl rfl (Nat.le_of_ble_eq_true rfl) ⟨Nat.le_of_ble_eq_true rfl, Nat.le_of_ble_eq_true rfl⟩ ⟨Nat.le_of_ble_eq_true rfl, Nat.le_of_ble_eq_true rfl⟩ ?_
  refine ev_callVv (S := []) (pc := 15) dX4_colourOf_15 kX2_colourAt lX4_77 vX2_colourAt (cn_X2_colourAt E h (nI (pnN (zm / 4) (srN 4 (zm % 4) zc))) hw) rfl rfl (wlt hw (by decide)) rfl rfl (Nat.le_of_ble_eq_true rfl) ⟨Nat.le_of_ble_eq_true rfl, Nat.le_of_ble_eq_true rfl⟩ ⟨Nat.le_of_ble_eq_true rfl, Nat.le_of_ble_eq_true rfl⟩ ?_
  refine ev_iret (pc := 18) dX4_colourOf_18 rfl ?_ ?_
  · rfl
  · refine ⟨?_, rfl⟩
    rw [if_pos ⟨nI_pos' (by omega), nI_lt (b := 64) zpn (by decide)⟩, nI_clamp (by omega)]
