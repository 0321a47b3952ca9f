theorem wt_id (zr : Nat → Int32) : wtR zr (zr 3, zr 4, zr 5, zr 6) = zr := by
  funext zi
  unfold wtR upd
  by_cases e6 : zi = 6 <;> by_cases e5 : zi = 5 <;> by_cases e4 : zi = 4 <;> by_cases e3 : zi = 3 <;> simp [e6, e5, e4, e3]
def wt0 (h : AH) : Int32 × Int32 × Int32 × Int32 := (h.2.1 36 3, h.2.1 36 4, h.2.1 36 5, h.2.1 36 6)
theorem wt_h (h : AH) : h = sI h 36 (wtR (h.2.1 36) (wt0 h)) := by
  unfold wt0
  rw [wt_id]
  exact (sI_id h 36).symm
theorem lp_wt_37 (E : ME) (h : AH) (zv : Nat) (zr : Nat → Int32) (zs : Int32 × Int32 × Int32 × Int32) (hw : WF h) (hv : zv < 256) {post : PO} (K : Ev E mX4_weighTurns (rmm 1 0 0) (QM E 0 0 post) 0 0 217 [some (.ref 36), some (.int (nI zv)), some (.int (nI (fg zv 0 * 4))), some (.int (nI (fg zv 1 * 4))), some (.int (nI (fg zv 2 * 4))), some (.int (nI (fg zv 3 * 4))), some (.int (nI 16)), none, none, none, none, none, none, none] [] (sI h 36 (wtR zr (wtI (h.2.1 37) (h.2.1 38) zv zs 16)))) : ∀ n i : Nat, i + n = 16 → Ev E mX4_weighTurns (rmm 1 0 0) (QM E 0 0 post) 0 0 37 [some (.ref 36), some (.int (nI zv)), some (.int (nI (fg zv 0 * 4))), some (.int (nI (fg zv 1 * 4))), some (.int (nI (fg zv 2 * 4))), some (.int (nI (fg zv 3 * 4))), some (.int (nI i)), none, none, none, none, none, none, none] [] (sI h 36 (wtR zr (wtI (h.2.1 37) (h.2.1 38) zv zs i))) := by
  intro n
  induction n with
  | zero =>
    intro i hi
    obtain rfl : 16 = i := by omega
    refine ev_iload (pc := 37) dX4_weighTurns_37 rfl ?_
    refine ev_bipush (pc := 39) (v := 16) dX4_weighTurns_39 (by decide) ?_
    refine ev_icmp_ge (pc := 41) (tgt := 217) dX4_weighTurns_41 (by decide) (fun zc41 => ?_) (fun zc41 => absurd (by decide) zc41)
    exact K
  | succ n ih =>
    intro i hi
    have hlt : i < 16 := by omega
    have zf0 := (fg_ok 0 (by decide) zv hv).2
    have zf1 := (fg_ok 1 (by decide) zv hv).2
    have zf2 := (fg_ok 2 (by decide) zv hv).2
    have zf3 := (fg_ok 3 (by decide) zv hv).2
    refine ev_iload (pc := 37) dX4_weighTurns_37 rfl ?_
    refine ev_bipush (pc := 39) (v := 16) dX4_weighTurns_39 (by decide) ?_
    refine ev_icmp_ge (pc := 41) (tgt := 217) dX4_weighTurns_41 (by decide) (fun zc41 => absurd zc41 (nI_ge (b := 16) hlt (by decide))) (fun zc41 => ?_)
    refine ev_iload_n (pc := 44) dX4_weighTurns_44 rfl ?_
    refine ev_iload (pc := 45) dX4_weighTurns_45 rfl ?_
    refine ev_iconst (pc := 47) (v := 2) dX4_weighTurns_47 (by decide) ?_
    refine ev_ishr (pc := 48) dX4_weighTurns_48 ?_
    refine ev_eqI (e' := nI (i / 4)) (m4_sh i hlt).1 ?_
    refine ev_iadd (pc := 49) dX4_weighTurns_49 ?_
    refine ev_eqI (e' := nI ((fg zv 0 * 4) + (i / 4))) (nI_add (fg zv 0 * 4) (i / 4)) ?_
    refine ev_istore (pc := 50) (L' := [some (.ref 36), some (.int (nI zv)), some (.int (nI (fg zv 0 * 4))), some (.int (nI (fg zv 1 * 4))), some (.int (nI (fg zv 2 * 4))), some (.int (nI (fg zv 3 * 4))), some (.int (nI i)), some (.int (nI ((fg zv 0 * 4) + (i / 4)))), none, none, none, none, none, none]) dX4_weighTurns_50 (Nat.le_of_ble_eq_true rfl) rfl ?_
    refine ev_iload_n (pc := 52) dX4_weighTurns_52 rfl ?_
    refine ev_iload (pc := 53) dX4_weighTurns_53 rfl ?_
    refine ev_iconst (pc := 55) (v := 3) dX4_weighTurns_55 (by decide) ?_
    refine ev_iand (pc := 56) dX4_weighTurns_56 ?_
    refine ev_eqI (e' := nI (i % 4)) (m4_sh i hlt).2 ?_
    refine ev_iadd (pc := 57) dX4_weighTurns_57 ?_
    refine ev_eqI (e' := nI ((fg zv 1 * 4) + (i % 4))) (nI_add (fg zv 1 * 4) (i % 4)) ?_
    refine ev_istore (pc := 58) (L' := [some (.ref 36), some (.int (nI zv)), some (.int (nI (fg zv 0 * 4))), some (.int (nI (fg zv 1 * 4))), some (.int (nI (fg zv 2 * 4))), some (.int (nI (fg zv 3 * 4))), some (.int (nI i)), some (.int (nI ((fg zv 0 * 4) + (i / 4)))), some (.int (nI ((fg zv 1 * 4) + (i % 4)))), none, none, none, none, none]) dX4_weighTurns_58 (Nat.le_of_ble_eq_true rfl) rfl ?_
    refine ev_aload_n (pc := 60) dX4_weighTurns_60 rfl ?_
    refine ev_getR (pc := 61) (q := 37) dX4_weighTurns_61 fX4_11 rfl (wlt (wf_sI hw) (by decide)) (wr (wf_sI hw) rfl) ?_
    refine ev_iload (pc := 64) dX4_weighTurns_64 rfl ?_
    refine ev_bipush (pc := 66) (v := 16) dX4_weighTurns_66 (by decide) ?_
    refine ev_imul (pc := 68) dX4_weighTurns_68 ?_
    refine ev_eqI (e' := nI (((fg zv 0 * 4) + (i / 4)) * 16)) (pk_mul ((fg zv 0 * 4) + (i / 4)) 16) ?_
    refine ev_iload (pc := 69) dX4_weighTurns_69 rfl ?_
    refine ev_iadd (pc := 71) dX4_weighTurns_71 ?_
    refine ev_eqI (e' := nI ((((fg zv 0 * 4) + (i / 4)) * 16) + ((fg zv 1 * 4) + (i % 4)))) (nI_add (((fg zv 0 * 4) + (i / 4)) * 16) ((fg zv 1 * 4) + (i % 4))) ?_
    refine ev_iald (pc := 72) dX4_weighTurns_72 rfl (wlt (wf_sI hw) (by decide)) (vp_in_nI (by omega) (by decide)) ?_
    refine ev_eqI (e' := h.2.1 37 ((((fg zv 0 * 4) + (i / 4)) * 16) + ((fg zv 1 * 4) + (i % 4)))) (by rw [show Int32.toNatClampNeg (nI ((((fg zv 0 * 4) + (i / 4)) * 16) + ((fg zv 1 * 4) + (i % 4)))) = (((fg zv 0 * 4) + (i / 4)) * 16) + ((fg zv 1 * 4) + (i % 4)) from nI_clamp (by omega)] <;> rfl) ?_
    refine ev_istore (pc := 73) (L' := [some (.ref 36), some (.int (nI zv)), some (.int (nI (fg zv 0 * 4))), some (.int (nI (fg zv 1 * 4))), some (.int (nI (fg zv 2 * 4))), some (.int (nI (fg zv 3 * 4))), some (.int (nI i)), some (.int (nI ((fg zv 0 * 4) + (i / 4)))), some (.int (nI ((fg zv 1 * 4) + (i % 4)))), some (.int (h.2.1 37 ((((fg zv 0 * 4) + (i / 4)) * 16) + ((fg zv 1 * 4) + (i % 4))))), none, none, none, none]) dX4_weighTurns_73 (Nat.le_of_ble_eq_true rfl) rfl ?_
    refine ev_iconst (pc := 75) (v := 0) dX4_weighTurns_75 (by decide) ?_
    refine ev_istore (pc := 76) (L' := [some (.ref 36), some (.int (nI zv)), some (.int (nI (fg zv 0 * 4))), some (.int (nI (fg zv 1 * 4))), some (.int (nI (fg zv 2 * 4))), some (.int (nI (fg zv 3 * 4))), some (.int (nI i)), some (.int (nI ((fg zv 0 * 4) + (i / 4)))), some (.int (nI ((fg zv 1 * 4) + (i % 4)))), some (.int (h.2.1 37 ((((fg zv 0 * 4) + (i / 4)) * 16) + ((fg zv 1 * 4) + (i % 4))))), some (.int 0), none, none, none]) dX4_weighTurns_76 (Nat.le_of_ble_eq_true rfl) rfl ?_
    refine lp_wt_78 E h zv i zr (wtI (h.2.1 37) (h.2.1 38) zv zs i) hw hv hlt ?_ 16 0 rfl
    refine ev_iinc (pc := 211) (v := nI (i + 1)) (L' := [some (.ref 36), some (.int (nI zv)), some (.int (nI (fg zv 0 * 4))), some (.int (nI (fg zv 1 * 4))), some (.int (nI (fg zv 2 * 4))), some (.int (nI (fg zv 3 * 4))), some (.int (nI (i + 1))), some (.int (nI (fg zv 0 * 4 + i / 4))), some (.int (nI (fg zv 1 * 4 + i % 4))), some (.int (h.2.1 37 ((fg zv 0 * 4 + i / 4) * 16 + (fg zv 1 * 4 + i % 4)))), some (.int (nI 16)), none, none, none]) dX4_weighTurns_211 rfl (nI_1 _) (Nat.le_of_ble_eq_true rfl) rfl ?_
    refine ev_goto (pc := 214) (tgt := 37) dX4_weighTurns_214 (by decide) ?_
    refine ev_less (L' := [some (.ref 36), some (.int (nI zv)), some (.int (nI (fg zv 0 * 4))), some (.int (nI (fg zv 1 * 4))), some (.int (nI (fg zv 2 * 4))), some (.int (nI (fg zv 3 * 4))), some (.int (nI (i + 1))), none, none, none, none, none, none, none]) (ls_keep (ls_keep (ls_keep (ls_keep (ls_keep (ls_keep (ls_keep (ls_drop (ls_drop (ls_drop (ls_drop (ls_keep (ls_keep (ls_keep (ls_nil _))))))))))))))) ?_
    exact ih (i + 1) (by omega)
theorem cn_X4_weighTurns (E : ME) (h : AH) (zv : Nat) (hw : WF h) (hv : zv < 256) : Con E mX4_weighTurns 1 0 0 [.ref 36, .int (nI zv)] h (fun r h' => r = none ∧ h' = sI h 36 (wtR (h.2.1 36) (wtI (h.2.1 37) (h.2.1 38) zv (wt0 h) 16))) := by
  refine con_of2 (L := [some (.ref 36), some (.int (nI zv)), none, none, none, none, none, none, none, none, none, none, none, none]) rfl (Nat.le_of_ble_eq_true rfl) rfl ?_
  have zf0 := (fg_ok 0 (by decide) zv hv).2
  have zf1 := (fg_ok 1 (by decide) zv hv).2
  have zf2 := (fg_ok 2 (by decide) zv hv).2
  have zf3 := (fg_ok 3 (by decide) zv hv).2
  refine ev_iload_n (pc := 0) dX4_weighTurns_0 rfl ?_
  refine ev_iconst (pc := 1) (v := 0) dX4_weighTurns_1 (by decide) ?_
  refine ev_callSv (S := []) (pc := 2) dX4_weighTurns_2 kX10_figure lX4_29 sX10_figure (cn_X10_figure E h (nI zv) 0) rfl rfl (Nat.le_of_ble_eq_true rfl) ⟨Nat.le_of_ble_eq_true rfl, Nat.le_of_ble_eq_true rfl⟩ ⟨Nat.le_of_ble_eq_true rfl, Nat.le_of_ble_eq_true rfl⟩ ?_
  refine ev_eqI (e' := nI (fg zv 0)) (fg_ok 0 (by decide) zv hv).1 ?_
  refine ev_iconst (pc := 5) (v := 4) dX4_weighTurns_5 (by decide) ?_
  refine ev_imul (pc := 6) dX4_weighTurns_6 ?_
  refine ev_eqI (e' := nI ((fg zv 0) * 4)) (pk_mul (fg zv 0) 4) ?_
  refine ev_istore_n (pc := 7) (L' := [some (.ref 36), some (.int (nI zv)), some (.int (nI ((fg zv 0) * 4))), none, none, none, none, none, none, none, none, none, none, none]) dX4_weighTurns_7 (Nat.le_of_ble_eq_true rfl) rfl ?_
  refine ev_iload_n (pc := 8) dX4_weighTurns_8 rfl ?_
  refine ev_iconst (pc := 9) (v := 1) dX4_weighTurns_9 (by decide) ?_
  refine ev_callSv (S := []) (pc := 10) dX4_weighTurns_10 kX10_figure lX4_29 sX10_figure (cn_X10_figure E h (nI zv) 1) rfl rfl (Nat.le_of_ble_eq_true rfl) ⟨Nat.le_of_ble_eq_true rfl, Nat.le_of_ble_eq_true rfl⟩ ⟨Nat.le_of_ble_eq_true rfl, Nat.le_of_ble_eq_true rfl⟩ ?_
  refine ev_eqI (e' := nI (fg zv 1)) (fg_ok 1 (by decide) zv hv).1 ?_
  refine ev_iconst (pc := 13) (v := 4) dX4_weighTurns_13 (by decide) ?_
  refine ev_imul (pc := 14) dX4_weighTurns_14 ?_
  refine ev_eqI (e' := nI ((fg zv 1) * 4)) (pk_mul (fg zv 1) 4) ?_
  refine ev_istore_n (pc := 15) (L' := [some (.ref 36), some (.int (nI zv)), some (.int (nI ((fg zv 0) * 4))), some (.int (nI ((fg zv 1) * 4))), none, none, none, none, none, none, none, none, none, none]) dX4_weighTurns_15 (Nat.le_of_ble_eq_true rfl) rfl ?_
  refine ev_iload_n (pc := 16) dX4_weighTurns_16 rfl ?_
  refine ev_iconst (pc := 17) (v := 2) dX4_weighTurns_17 (by decide) ?_
  refine ev_callSv (S := []) (pc := 18) dX4_weighTurns_18 kX10_figure lX4_29 sX10_figure (cn_X10_figure E h (nI zv) 2) rfl rfl (Nat.le_of_ble_eq_true rfl) ⟨Nat.le_of_ble_eq_true rfl, Nat.le_of_ble_eq_true rfl⟩ ⟨Nat.le_of_ble_eq_true rfl, Nat.le_of_ble_eq_true rfl⟩ ?_
  refine ev_eqI (e' := nI (fg zv 2)) (fg_ok 2 (by decide) zv hv).1 ?_
  refine ev_iconst (pc := 21) (v := 4) dX4_weighTurns_21 (by decide) ?_
  refine ev_imul (pc := 22) dX4_weighTurns_22 ?_
  refine ev_eqI (e' := nI ((fg zv 2) * 4)) (pk_mul (fg zv 2) 4) ?_
  refine ev_istore (pc := 23) (L' := [some (.ref 36), some (.int (nI zv)), some (.int (nI ((fg zv 0) * 4))), some (.int (nI ((fg zv 1) * 4))), some (.int (nI ((fg zv 2) * 4))), none, none, none, none, none, none, none, none, none]) dX4_weighTurns_23 (Nat.le_of_ble_eq_true rfl) rfl ?_
  refine ev_iload_n (pc := 25) dX4_weighTurns_25 rfl ?_
  refine ev_iconst (pc := 26) (v := 3) dX4_weighTurns_26 (by decide) ?_
  refine ev_callSv (S := []) (pc := 27) dX4_weighTurns_27 kX10_figure lX4_29 sX10_figure (cn_X10_figure E h (nI zv) 3) rfl rfl (Nat.le_of_ble_eq_true rfl) ⟨Nat.le_of_ble_eq_true rfl, Nat.le_of_ble_eq_true rfl⟩ ⟨Nat.le_of_ble_eq_true rfl, Nat.le_of_ble_eq_true rfl⟩ ?_
  refine ev_eqI (e' := nI (fg zv 3)) (fg_ok 3 (by decide) zv hv).1 ?_
  refine ev_iconst (pc := 30) (v := 4) dX4_weighTurns_30 (by decide) ?_
  refine ev_imul (pc := 31) dX4_weighTurns_31 ?_
  refine ev_eqI (e' := nI ((fg zv 3) * 4)) (pk_mul (fg zv 3) 4) ?_
  refine ev_istore (pc := 32) (L' := [some (.ref 36), some (.int (nI zv)), some (.int (nI ((fg zv 0) * 4))), some (.int (nI ((fg zv 1) * 4))), some (.int (nI ((fg zv 2) * 4))), some (.int (nI ((fg zv 3) * 4))), none, none, none, none, none, none, none, none]) dX4_weighTurns_32 (Nat.le_of_ble_eq_true rfl) rfl ?_
  refine ev_iconst (pc := 34) (v := 0) dX4_weighTurns_34 (by decide) ?_
  refine ev_istore (pc := 35) (L' := [some (.ref 36), some (.int (nI zv)), some (.int (nI ((fg zv 0) * 4))), some (.int (nI ((fg zv 1) * 4))), some (.int (nI ((fg zv 2) * 4))), some (.int (nI ((fg zv 3) * 4))), some (.int 0), none, none, none, none, none, none, none]) dX4_weighTurns_35 (Nat.le_of_ble_eq_true rfl) rfl ?_
  refine ev_eqH (wt_h h) ?_
  refine lp_wt_37 E h zv (h.2.1 36) (wt0 h) hw hv ?_ 16 0 rfl
  refine ev_ret (pc := 217) dX4_weighTurns_217 rfl ?_
  · exact ⟨rfl, rfl⟩
