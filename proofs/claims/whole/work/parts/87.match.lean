/-- a cell's colour of a panel, turned -/
def coF (zg : Nat → Int32) (zm zc : Nat) : Int32 := zg (pnN (zm / 4) (srN 4 (zm % 4) zc))
def neK (zg : Nat → Int32) (zm : Nat) (zf : Nat → Int32) : Nat → Nat → Int32
  | 0 => zf
  | zk + 1 => upd (upd (upd (upd (neK zg zm zf zk) (zm * 16 + zk + 0) (coF zg zm (4 * zk + 3))) (zm * 16 + zk + 4) (coF zg zm (4 * zk))) (zm * 16 + zk + 8) (coF zg zm (12 + zk))) (zm * 16 + zk + 12) (coF zg zm zk)
def neM (zg : Nat → Int32) (zf : Nat → Int32) : Nat → Nat → Int32
  | 0 => zf
  | zm + 1 => neK zg zm (neM zg zf zm) 4
def meK (zg : Nat → Int32) (zx zy zm : Nat) (zf : Nat → Int32) : Nat → Nat → Int32
  | 0 => zf
  | zk + 1 => upd (meK zg zx zy zm zf zk) (zm * 16 + zk) (alF zg (zm * 16 + zx) (zk * 16 + zy) 4)
def meM (zg : Nat → Int32) (zx zy : Nat) (zf : Nat → Int32) : Nat → Nat → Int32
  | 0 => zf
  | zm + 1 => meK zg zx zy zm (meM zg zx zy zf zm) 16
theorem lp_ne_10 (E : ME) (h : AH) (zm : Nat) (zf : Nat → Int32) (hw : WF h) (hz : zm < 16) {post : PO} (K : Ev E mX4_noteEdges (rmm 3 0 0) (QM E 0 0 post) 0 0 100 [some (.ref 36), some (.ref 25), some (.int (nI zm)), some (.int (nI 4)), none] [] (sI h 39 (neK (h.2.1 26) zm zf 4))) : ∀ n i : Nat, i + n = 4 → Ev E mX4_noteEdges (rmm 3 0 0) (QM E 0 0 post) 0 0 10 [some (.ref 36), some (.ref 25), some (.int (nI zm)), some (.int (nI i)), none] [] (sI h 39 (neK (h.2.1 26) zm zf i)) := by
  intro n
  induction n with
  | zero =>
    intro i hi
    obtain rfl : 4 = i := by omega
    refine ev_iload_n (pc := 10) dX4_noteEdges_10 rfl ?_
    refine ev_iconst (pc := 11) (v := 4) dX4_noteEdges_11 (by decide) ?_
    refine ev_icmp_ge (pc := 12) (tgt := 100) dX4_noteEdges_12 (by decide) (fun zc12 => ?_) (fun zc12 => absurd (by decide) zc12)
    exact K
  | succ n ih =>
    intro i hi
    have hlt : i < 4 := by omega
    refine ev_iload_n (pc := 10) dX4_noteEdges_10 rfl ?_
    refine ev_iconst (pc := 11) (v := 4) dX4_noteEdges_11 (by decide) ?_
    refine ev_icmp_ge (pc := 12) (tgt := 100) dX4_noteEdges_12 (by decide) (fun zc12 => absurd zc12 (nI_ge (b := 4) hlt (by decide))) (fun zc12 => ?_)
    refine ev_iload_n (pc := 15) dX4_noteEdges_15 rfl ?_
    refine ev_bipush (pc := 16) (v := 16) dX4_noteEdges_16 (by decide) ?_
    refine ev_imul (pc := 18) dX4_noteEdges_18 ?_
    refine ev_eqI (e' := nI (zm * 16)) (pk_mul zm 16) ?_
    refine ev_iload_n (pc := 19) dX4_noteEdges_19 rfl ?_
    refine ev_iadd (pc := 20) dX4_noteEdges_20 ?_
    refine ev_eqI (e' := nI ((zm * 16) + i)) (nI_add (zm * 16) i) ?_
    refine ev_istore (pc := 21) (L' := [some (.ref 36), some (.ref 25), some (.int (nI zm)), some (.int (nI i)), some (.int (nI ((zm * 16) + i)))]) dX4_noteEdges_21 (Nat.le_of_ble_eq_true rfl) rfl ?_
    refine ev_aload_n (pc := 23) dX4_noteEdges_23 rfl ?_
    refine ev_getR (pc := 24) (q := 39) dX4_noteEdges_24 fX4_18 rfl (wlt (wf_sI hw) (by decide)) (wr (wf_sI hw) rfl) ?_
    refine ev_iload (pc := 27) dX4_noteEdges_27 rfl ?_
    refine ev_iconst (pc := 29) (v := 0) dX4_noteEdges_29 (by decide) ?_
    refine ev_iadd (pc := 30) dX4_noteEdges_30 ?_
    refine ev_eqI (e' := nI (((zm * 16) + i) + 0)) (nI_add ((zm * 16) + i) 0) ?_
    refine ev_aload_n (pc := 31) dX4_noteEdges_31 rfl ?_
    refine ev_iload_n (pc := 32) dX4_noteEdges_32 rfl ?_
    refine ev_iconst (pc := 33) (v := 4) dX4_noteEdges_33 (by decide) ?_
    refine ev_iload_n (pc := 34) dX4_noteEdges_34 rfl ?_
    refine ev_imul (pc := 35) dX4_noteEdges_35 ?_
    refine ev_eqI (e' := nI (4 * i)) (pk_mul 4 i) ?_
    refine ev_iconst (pc := 36) (v := 3) dX4_noteEdges_36 (by decide) ?_
    refine ev_iadd (pc := 37) dX4_noteEdges_37 ?_
    refine ev_eqI (e' := nI ((4 * i) + 3)) (nI_add (4 * i) 3) ?_
    refine ev_callSv (S := [.int (nI (((zm * 16) + i) + 0)), .ref 39]) (pc := 38) dX4_noteEdges_38 kX4_colourOf lX4_66 sX4_colourOf (cn_X4_colourOf E (sI h 39 (neK (h.2.1 26) zm zf i)) zm ((4 * i) + 3) (wf_sI hw) hz (by omega)) rfl rfl (Nat.le_of_ble_eq_true rfl) ⟨Nat.le_of_ble_eq_true rfl, Nat.le_of_ble_eq_true rfl⟩ ⟨Nat.le_of_ble_eq_true rfl, Nat.le_of_ble_eq_true rfl⟩ ?_
    refine ev_iast (pc := 41) dX4_noteEdges_41 rfl (wlt (wf_sI hw) (by decide)) (vp_in_nI (by omega) (by decide)) ?_
    refine ev_eqH (h' := sI h 39 (upd (neK (h.2.1 26) zm zf i) (((zm * 16) + i) + 0) (coF (h.2.1 26) zm ((4 * i) + 3)))) (by rw [show Int32.toNatClampNeg (nI (((zm * 16) + i) + 0)) = ((zm * 16) + i) + 0 from nI_clamp (by omega)]; exact sI_sI _ _ _ _) ?_
    refine ev_aload_n (pc := 42) dX4_noteEdges_42 rfl ?_
    refine ev_getR (pc := 43) (q := 39) dX4_noteEdges_43 fX4_18 rfl (wlt (wf_sI hw) (by decide)) (wr (wf_sI hw) rfl) ?_
    refine ev_iload (pc := 46) dX4_noteEdges_46 rfl ?_
    refine ev_iconst (pc := 48) (v := 4) dX4_noteEdges_48 (by decide) ?_
    refine ev_iadd (pc := 49) dX4_noteEdges_49 ?_
    refine ev_eqI (e' := nI (((zm * 16) + i) + 4)) (nI_add ((zm * 16) + i) 4) ?_
    refine ev_aload_n (pc := 50) dX4_noteEdges_50 rfl ?_
    refine ev_iload_n (pc := 51) dX4_noteEdges_51 rfl ?_
    refine ev_iconst (pc := 52) (v := 4) dX4_noteEdges_52 (by decide) ?_
    refine ev_iload_n (pc := 53) dX4_noteEdges_53 rfl ?_
    refine ev_imul (pc := 54) dX4_noteEdges_54 ?_
    refine ev_eqI (e' := nI (4 * i)) (pk_mul 4 i) ?_
    refine ev_callSv (S := [.int (nI (((zm * 16) + i) + 4)), .ref 39]) (pc := 55) dX4_noteEdges_55 kX4_colourOf lX4_66 sX4_colourOf (cn_X4_colourOf E (sI h 39 (upd (neK (h.2.1 26) zm zf i) (((zm * 16) + i) + 0) (coF (h.2.1 26) zm ((4 * i) + 3)))) zm (4 * i) (wf_sI hw) hz (by omega)) rfl rfl (Nat.le_of_ble_eq_true rfl) ⟨Nat.le_of_ble_eq_true rfl, Nat.le_of_ble_eq_true rfl⟩ ⟨Nat.le_of_ble_eq_true rfl, Nat.le_of_ble_eq_true rfl⟩ ?_
    refine ev_iast (pc := 58) dX4_noteEdges_58 rfl (wlt (wf_sI hw) (by decide)) (vp_in_nI (by omega) (by decide)) ?_
    refine ev_eqH (h' := sI h 39 (upd (upd (neK (h.2.1 26) zm zf i) (((zm * 16) + i) + 0) (coF (h.2.1 26) zm ((4 * i) + 3))) (((zm * 16) + i) + 4) (coF (h.2.1 26) zm (4 * i)))) (by rw [show Int32.toNatClampNeg (nI (((zm * 16) + i) + 4)) = ((zm * 16) + i) + 4 from nI_clamp (by omega)]; exact sI_sI _ _ _ _) ?_
    refine ev_aload_n (pc := 59) dX4_noteEdges_59 rfl ?_
    refine ev_getR (pc := 60) (q := 39) dX4_noteEdges_60 fX4_18 rfl (wlt (wf_sI hw) (by decide)) (wr (wf_sI hw) rfl) ?_
    refine ev_iload (pc := 63) dX4_noteEdges_63 rfl ?_
    refine ev_bipush (pc := 65) (v := 8) dX4_noteEdges_65 (by decide) ?_
    refine ev_iadd (pc := 67) dX4_noteEdges_67 ?_
    refine ev_eqI (e' := nI (((zm * 16) + i) + 8)) (nI_add ((zm * 16) + i) 8) ?_
    refine ev_aload_n (pc := 68) dX4_noteEdges_68 rfl ?_
    refine ev_iload_n (pc := 69) dX4_noteEdges_69 rfl ?_
    refine ev_bipush (pc := 70) (v := 12) dX4_noteEdges_70 (by decide) ?_
    refine ev_iload_n (pc := 72) dX4_noteEdges_72 rfl ?_
    refine ev_iadd (pc := 73) dX4_noteEdges_73 ?_
    refine ev_eqI (e' := nI (12 + i)) (nI_add 12 i) ?_
    refine ev_callSv (S := [.int (nI (((zm * 16) + i) + 8)), .ref 39]) (pc := 74) dX4_noteEdges_74 kX4_colourOf lX4_66 sX4_colourOf (cn_X4_colourOf E (sI h 39 (upd (upd (neK (h.2.1 26) zm zf i) (((zm * 16) + i) + 0) (coF (h.2.1 26) zm ((4 * i) + 3))) (((zm * 16) + i) + 4) (coF (h.2.1 26) zm (4 * i)))) zm (12 + i) (wf_sI hw) hz (by omega)) rfl rfl (Nat.le_of_ble_eq_true rfl) ⟨Nat.le_of_ble_eq_true rfl, Nat.le_of_ble_eq_true rfl⟩ ⟨Nat.le_of_ble_eq_true rfl, Nat.le_of_ble_eq_true rfl⟩ ?_
    refine ev_iast (pc := 77) dX4_noteEdges_77 rfl (wlt (wf_sI hw) (by decide)) (vp_in_nI (by omega) (by decide)) ?_
    refine ev_eqH (h' := sI h 39 (upd (upd (upd (neK (h.2.1 26) zm zf i) (((zm * 16) + i) + 0) (coF (h.2.1 26) zm ((4 * i) + 3))) (((zm * 16) + i) + 4) (coF (h.2.1 26) zm (4 * i))) (((zm * 16) + i) + 8) (coF (h.2.1 26) zm (12 + i)))) (by rw [show Int32.toNatClampNeg (nI (((zm * 16) + i) + 8)) = ((zm * 16) + i) + 8 from nI_clamp (by omega)]; exact sI_sI _ _ _ _) ?_
    refine ev_aload_n (pc := 78) dX4_noteEdges_78 rfl ?_
    refine ev_getR (pc := 79) (q := 39) dX4_noteEdges_79 fX4_18 rfl (wlt (wf_sI hw) (by decide)) (wr (wf_sI hw) rfl) ?_
    refine ev_iload (pc := 82) dX4_noteEdges_82 rfl ?_
    refine ev_bipush (pc := 84) (v := 12) dX4_noteEdges_84 (by decide) ?_
    refine ev_iadd (pc := 86) dX4_noteEdges_86 ?_
    refine ev_eqI (e' := nI (((zm * 16) + i) + 12)) (nI_add ((zm * 16) + i) 12) ?_
    refine ev_aload_n (pc := 87) dX4_noteEdges_87 rfl ?_
    refine ev_iload_n (pc := 88) dX4_noteEdges_88 rfl ?_
    refine ev_iload_n (pc := 89) dX4_noteEdges_89 rfl ?_
    refine ev_callSv (S := [.int (nI (((zm * 16) + i) + 12)), .ref 39]) (pc := 90) dX4_noteEdges_90 kX4_colourOf lX4_66 sX4_colourOf (cn_X4_colourOf E (sI h 39 (upd (upd (upd (neK (h.2.1 26) zm zf i) (((zm * 16) + i) + 0) (coF (h.2.1 26) zm ((4 * i) + 3))) (((zm * 16) + i) + 4) (coF (h.2.1 26) zm (4 * i))) (((zm * 16) + i) + 8) (coF (h.2.1 26) zm (12 + i)))) zm i (wf_sI hw) hz (by omega)) rfl rfl (Nat.le_of_ble_eq_true rfl) ⟨Nat.le_of_ble_eq_true rfl, Nat.le_of_ble_eq_true rfl⟩ ⟨Nat.le_of_ble_eq_true rfl, Nat.le_of_ble_eq_true rfl⟩ ?_
    refine ev_iast (pc := 93) dX4_noteEdges_93 rfl (wlt (wf_sI hw) (by decide)) (vp_in_nI (by omega) (by decide)) ?_
    refine ev_eqH (h' := sI h 39 (upd (upd (upd (upd (neK (h.2.1 26) zm zf i) (((zm * 16) + i) + 0) (coF (h.2.1 26) zm ((4 * i) + 3))) (((zm * 16) + i) + 4) (coF (h.2.1 26) zm (4 * i))) (((zm * 16) + i) + 8) (coF (h.2.1 26) zm (12 + i))) (((zm * 16) + i) + 12) (coF (h.2.1 26) zm i))) (by rw [show Int32.toNatClampNeg (nI (((zm * 16) + i) + 12)) = ((zm * 16) + i) + 12 from nI_clamp (by omega)]; exact sI_sI _ _ _ _) ?_
    refine ev_iinc (pc := 94) (v := nI (i + 1)) (L' := [some (.ref 36), some (.ref 25), some (.int (nI zm)), some (.int (nI (i + 1))), some (.int (nI ((zm * 16) + i)))]) dX4_noteEdges_94 rfl (nI_1 _) (Nat.le_of_ble_eq_true rfl) rfl ?_
    refine ev_goto (pc := 97) (tgt := 10) dX4_noteEdges_97 (by decide) ?_
    refine ev_less (L' := [some (.ref 36), some (.ref 25), some (.int (nI zm)), some (.int (nI (i + 1))), none]) (ls_keep (ls_keep (ls_keep (ls_keep (ls_drop (ls_nil _)))))) ?_
    exact ih (i + 1) (by omega)
theorem lp_ne_2 (E : ME) (h : AH) (zf : Nat → Int32) (hw : WF h) {post : PO} (K : Ev E mX4_noteEdges (rmm 3 0 0) (QM E 0 0 post) 0 0 106 [some (.ref 36), some (.ref 25), some (.int (nI 16)), none, none] [] (sI h 39 (neM (h.2.1 26) zf 16))) : ∀ n i : Nat, i + n = 16 → Ev E mX4_noteEdges (rmm 3 0 0) (QM E 0 0 post) 0 0 2 [some (.ref 36), some (.ref 25), some (.int (nI i)), none, none] [] (sI h 39 (neM (h.2.1 26) zf i)) := by
  intro n
  induction n with
  | zero =>
    intro i hi
    obtain rfl : 16 = i := by omega
    refine ev_iload_n (pc := 2) dX4_noteEdges_2 rfl ?_
    refine ev_bipush (pc := 3) (v := 16) dX4_noteEdges_3 (by decide) ?_
    refine ev_icmp_ge (pc := 5) (tgt := 106) dX4_noteEdges_5 (by decide) (fun zc5 => ?_) (fun zc5 => absurd (by decide) zc5)
    exact K
  | succ n ih =>
    intro i hi
    have hlt : i < 16 := by omega
    refine ev_iload_n (pc := 2) dX4_noteEdges_2 rfl ?_
    refine ev_bipush (pc := 3) (v := 16) dX4_noteEdges_3 (by decide) ?_
    refine ev_icmp_ge (pc := 5) (tgt := 106) dX4_noteEdges_5 (by decide) (fun zc5 => absurd zc5 (nI_ge (b := 16) hlt (by decide))) (fun zc5 => ?_)
    refine ev_iconst (pc := 8) (v := 0) dX4_noteEdges_8 (by decide) ?_
    refine ev_istore_n (pc := 9) (L' := [some (.ref 36), some (.ref 25), some (.int (nI i)), some (.int 0), none]) dX4_noteEdges_9 (Nat.le_of_ble_eq_true rfl) rfl ?_
    refine lp_ne_10 E h i (neM (h.2.1 26) zf i) hw hlt ?_ 4 0 rfl
    refine ev_iinc (pc := 100) (v := nI (i + 1)) (L' := [some (.ref 36), some (.ref 25), some (.int (nI (i + 1))), some (.int (nI 4)), none]) dX4_noteEdges_100 rfl (nI_1 _) (Nat.le_of_ble_eq_true rfl) rfl ?_
    refine ev_goto (pc := 103) (tgt := 2) dX4_noteEdges_103 (by decide) ?_
    refine ev_less (L' := [some (.ref 36), some (.ref 25), some (.int (nI (i + 1))), none, none]) (ls_keep (ls_keep (ls_keep (ls_drop (ls_keep (ls_nil _)))))) ?_
    exact ih (i + 1) (by omega)
theorem cn_X4_noteEdges (E : ME) (h : AH)  (hw : WF h) : Con E mX4_noteEdges 3 0 0 [.ref 36, .ref 25] h (fun r h' => r = none ∧ h' = sI h 39 (neM (h.2.1 26) (h.2.1 39) 16)) := by
  refine con_of2 (L := [some (.ref 36), some (.ref 25), none, none, none]) rfl (Nat.le_of_ble_eq_true rfl) rfl ?_
  refine ev_iconst (pc := 0) (v := 0) dX4_noteEdges_0 (by decide) ?_
  refine ev_istore_n (pc := 1) (L' := [some (.ref 36), some (.ref 25), some (.int 0), none, none]) dX4_noteEdges_1 (Nat.le_of_ble_eq_true rfl) rfl ?_
  refine ev_eqH (sI_id h 39).symm ?_
  refine lp_ne_2 E h (h.2.1 39) hw ?_ 16 0 rfl
  refine ev_ret (pc := 106) dX4_noteEdges_106 rfl ?_
  · exact ⟨rfl, rfl⟩
theorem lp_me_10 (E : ME) (h : AH) (zm : Nat) (zf zg : Nat → Int32) (hw : WF h) (hz : zm < 16) {post : PO} (K : Ev E mX4_matchEdges (rmm 3 0 0) (QM E 0 0 post) 0 0 75 [some (.ref 36), some (.int (nI zm)), some (.int (nI 16)), none] [] (sI (sI h 37 (meK (h.2.1 39) 0 4 zm zf 16)) 38 (meK (h.2.1 39) 8 12 zm zg 16))) : ∀ n i : Nat, i + n = 16 → Ev E mX4_matchEdges (rmm 3 0 0) (QM E 0 0 post) 0 0 10 [some (.ref 36), some (.int (nI zm)), some (.int (nI i)), none] [] (sI (sI h 37 (meK (h.2.1 39) 0 4 zm zf i)) 38 (meK (h.2.1 39) 8 12 zm zg i)) := by
  intro n
  induction n with
  | zero =>
    intro i hi
    obtain rfl : 16 = i := by omega
    refine ev_iload_n (pc := 10) dX4_matchEdges_10 rfl ?_
    refine ev_bipush (pc := 11) (v := 16) dX4_matchEdges_11 (by decide) ?_
    refine ev_icmp_ge (pc := 13) (tgt := 75) dX4_matchEdges_13 (by decide) (fun zc13 => ?_) (fun zc13 => absurd (by decide) zc13)
    exact K
  | succ n ih =>
    intro i hi
    have hlt : i < 16 := by omega
    refine ev_iload_n (pc := 10) dX4_matchEdges_10 rfl ?_
    refine ev_bipush (pc := 11) (v := 16) dX4_matchEdges_11 (by decide) ?_
    refine ev_icmp_ge (pc := 13) (tgt := 75) dX4_matchEdges_13 (by decide) (fun zc13 => absurd zc13 (nI_ge (b := 16) hlt (by decide))) (fun zc13 => ?_)
    refine ev_iload_n (pc := 16) dX4_matchEdges_16 rfl ?_
    refine ev_bipush (pc := 17) (v := 16) dX4_matchEdges_17 (by decide) ?_
    refine ev_imul (pc := 19) dX4_matchEdges_19 ?_
    refine ev_eqI (e' := nI (zm * 16)) (pk_mul zm 16) ?_
    refine ev_iload_n (pc := 20) dX4_matchEdges_20 rfl ?_
    refine ev_iadd (pc := 21) dX4_matchEdges_21 ?_
    refine ev_eqI (e' := nI ((zm * 16) + i)) (nI_add (zm * 16) i) ?_
    refine ev_istore_n (pc := 22) (L' := [some (.ref 36), some (.int (nI zm)), some (.int (nI i)), some (.int (nI ((zm * 16) + i)))]) dX4_matchEdges_22 (Nat.le_of_ble_eq_true rfl) rfl ?_
    refine ev_aload_n (pc := 23) dX4_matchEdges_23 rfl ?_
    refine ev_getR (pc := 24) (q := 37) dX4_matchEdges_24 fX4_11 rfl (wlt (wf_sI (wf_sI hw)) (by decide)) (wr (wf_sI (wf_sI hw)) rfl) ?_
    refine ev_iload_n (pc := 27) dX4_matchEdges_27 rfl ?_
    refine ev_aload_n (pc := 28) dX4_matchEdges_28 rfl ?_
    refine ev_iload_n (pc := 29) dX4_matchEdges_29 rfl ?_
    refine ev_bipush (pc := 30) (v := 16) dX4_matchEdges_30 (by decide) ?_
    refine ev_imul (pc := 32) dX4_matchEdges_32 ?_
    refine ev_eqI (e' := nI (zm * 16)) (pk_mul zm 16) ?_
    refine ev_iconst (pc := 33) (v := 0) dX4_matchEdges_33 (by decide) ?_
    refine ev_iadd (pc := 34) dX4_matchEdges_34 ?_
    refine ev_eqI (e' := nI ((zm * 16) + 0)) (nI_add (zm * 16) 0) ?_
    refine ev_iload_n (pc := 35) dX4_matchEdges_35 rfl ?_
    refine ev_bipush (pc := 36) (v := 16) dX4_matchEdges_36 (by decide) ?_
    refine ev_imul (pc := 38) dX4_matchEdges_38 ?_
    refine ev_eqI (e' := nI (i * 16)) (pk_mul i 16) ?_
    refine ev_iconst (pc := 39) (v := 4) dX4_matchEdges_39 (by decide) ?_
    refine ev_iadd (pc := 40) dX4_matchEdges_40 ?_
    refine ev_eqI (e' := nI ((i * 16) + 4)) (nI_add (i * 16) 4) ?_
    refine ev_callVv (S := [.int (nI ((zm * 16) + i)), .ref 37]) (pc := 41) dX4_matchEdges_41 kX4_alike lX4_81 vX4_alike (cn_X4_alike E (sI (sI h 37 (meK (h.2.1 39) 0 4 zm zf i)) 38 (meK (h.2.1 39) 8 12 zm zg i)) ((zm * 16) + 0) ((i * 16) + 4) (wf_sI (wf_sI hw)) (by omega) (by omega)) rfl rfl (wlt (wf_sI (wf_sI hw)) (by decide)) rfl rfl (Nat.le_of_ble_eq_true rfl) ⟨Nat.le_of_ble_eq_true rfl, Nat.le_of_ble_eq_true rfl⟩ ⟨Nat.le_of_ble_eq_true rfl, Nat.le_of_ble_eq_true rfl⟩ ?_
    refine ev_iast (pc := 44) dX4_matchEdges_44 rfl (wlt (wf_sI (wf_sI hw)) (by decide)) (vp_in_nI (by omega) (by decide)) ?_
    refine ev_eqH (h' := sI (sI h 37 (upd (meK (h.2.1 39) 0 4 zm zf i) ((zm * 16) + i) (alF (h.2.1 39) ((zm * 16) + 0) ((i * 16) + 4) 4))) 38 (meK (h.2.1 39) 8 12 zm zg i)) (by rw [show Int32.toNatClampNeg (nI ((zm * 16) + i)) = (zm * 16) + i from nI_clamp (by omega)]; exact sI_dp _ (by decide) _ _ _) ?_
    refine ev_aload_n (pc := 45) dX4_matchEdges_45 rfl ?_
    refine ev_getR (pc := 46) (q := 38) dX4_matchEdges_46 fX4_15 rfl (wlt (wf_sI (wf_sI hw)) (by decide)) (wr (wf_sI (wf_sI hw)) rfl) ?_
    refine ev_iload_n (pc := 49) dX4_matchEdges_49 rfl ?_
    refine ev_aload_n (pc := 50) dX4_matchEdges_50 rfl ?_
    refine ev_iload_n (pc := 51) dX4_matchEdges_51 rfl ?_
    refine ev_bipush (pc := 52) (v := 16) dX4_matchEdges_52 (by decide) ?_
    refine ev_imul (pc := 54) dX4_matchEdges_54 ?_
    refine ev_eqI (e' := nI (zm * 16)) (pk_mul zm 16) ?_
    refine ev_bipush (pc := 55) (v := 8) dX4_matchEdges_55 (by decide) ?_
    refine ev_iadd (pc := 57) dX4_matchEdges_57 ?_
    refine ev_eqI (e' := nI ((zm * 16) + 8)) (nI_add (zm * 16) 8) ?_
    refine ev_iload_n (pc := 58) dX4_matchEdges_58 rfl ?_
    refine ev_bipush (pc := 59) (v := 16) dX4_matchEdges_59 (by decide) ?_
    refine ev_imul (pc := 61) dX4_matchEdges_61 ?_
    refine ev_eqI (e' := nI (i * 16)) (pk_mul i 16) ?_
    refine ev_bipush (pc := 62) (v := 12) dX4_matchEdges_62 (by decide) ?_
    refine ev_iadd (pc := 64) dX4_matchEdges_64 ?_
    refine ev_eqI (e' := nI ((i * 16) + 12)) (nI_add (i * 16) 12) ?_
    refine ev_callVv (S := [.int (nI ((zm * 16) + i)), .ref 38]) (pc := 65) dX4_matchEdges_65 kX4_alike lX4_81 vX4_alike (cn_X4_alike E (sI (sI h 37 (upd (meK (h.2.1 39) 0 4 zm zf i) ((zm * 16) + i) (alF (h.2.1 39) ((zm * 16) + 0) ((i * 16) + 4) 4))) 38 (meK (h.2.1 39) 8 12 zm zg i)) ((zm * 16) + 8) ((i * 16) + 12) (wf_sI (wf_sI hw)) (by omega) (by omega)) rfl rfl (wlt (wf_sI (wf_sI hw)) (by decide)) rfl rfl (Nat.le_of_ble_eq_true rfl) ⟨Nat.le_of_ble_eq_true rfl, Nat.le_of_ble_eq_true rfl⟩ ⟨Nat.le_of_ble_eq_true rfl, Nat.le_of_ble_eq_true rfl⟩ ?_
    refine ev_iast (pc := 68) dX4_matchEdges_68 rfl (wlt (wf_sI (wf_sI hw)) (by decide)) (vp_in_nI (by omega) (by decide)) ?_
    refine ev_eqH (h' := sI (sI h 37 (upd (meK (h.2.1 39) 0 4 zm zf i) ((zm * 16) + i) (alF (h.2.1 39) ((zm * 16) + 0) ((i * 16) + 4) 4))) 38 (upd (meK (h.2.1 39) 8 12 zm zg i) ((zm * 16) + i) (alF (h.2.1 39) ((zm * 16) + 8) ((i * 16) + 12) 4))) (by rw [show Int32.toNatClampNeg (nI ((zm * 16) + i)) = (zm * 16) + i from nI_clamp (by omega)]; exact sI_sI _ _ _ _) ?_
    refine ev_iinc (pc := 69) (v := nI (i + 1)) (L' := [some (.ref 36), some (.int (nI zm)), some (.int (nI (i + 1))), some (.int (nI ((zm * 16) + i)))]) dX4_matchEdges_69 rfl (nI_1 _) (Nat.le_of_ble_eq_true rfl) rfl ?_
    refine ev_goto (pc := 72) (tgt := 10) dX4_matchEdges_72 (by decide) ?_
    refine ev_less (L' := [some (.ref 36), some (.int (nI zm)), some (.int (nI (i + 1))), none]) (ls_keep (ls_keep (ls_keep (ls_drop (ls_nil _))))) ?_
    exact ih (i + 1) (by omega)
theorem lp_me_2 (E : ME) (h : AH) (zf zg : Nat → Int32) (hw : WF h) {post : PO} (K : Ev E mX4_matchEdges (rmm 3 0 0) (QM E 0 0 post) 0 0 81 [some (.ref 36), some (.int (nI 16)), none, none] [] (sI (sI h 37 (meM (h.2.1 39) 0 4 zf 16)) 38 (meM (h.2.1 39) 8 12 zg 16))) : ∀ n i : Nat, i + n = 16 → Ev E mX4_matchEdges (rmm 3 0 0) (QM E 0 0 post) 0 0 2 [some (.ref 36), some (.int (nI i)), none, none] [] (sI (sI h 37 (meM (h.2.1 39) 0 4 zf i)) 38 (meM (h.2.1 39) 8 12 zg i)) := by
  intro n
  induction n with
  | zero =>
    intro i hi
    obtain rfl : 16 = i := by omega
    refine ev_iload_n (pc := 2) dX4_matchEdges_2 rfl ?_
    refine ev_bipush (pc := 3) (v := 16) dX4_matchEdges_3 (by decide) ?_
    refine ev_icmp_ge (pc := 5) (tgt := 81) dX4_matchEdges_5 (by decide) (fun zc5 => ?_) (fun zc5 => absurd (by decide) zc5)
    exact K
  | succ n ih =>
    intro i hi
    have hlt : i < 16 := by omega
    refine ev_iload_n (pc := 2) dX4_matchEdges_2 rfl ?_
    refine ev_bipush (pc := 3) (v := 16) dX4_matchEdges_3 (by decide) ?_
    refine ev_icmp_ge (pc := 5) (tgt := 81) dX4_matchEdges_5 (by decide) (fun zc5 => absurd zc5 (nI_ge (b := 16) hlt (by decide))) (fun zc5 => ?_)
    refine ev_iconst (pc := 8) (v := 0) dX4_matchEdges_8 (by decide) ?_
    refine ev_istore_n (pc := 9) (L' := [some (.ref 36), some (.int (nI i)), some (.int 0), none]) dX4_matchEdges_9 (Nat.le_of_ble_eq_true rfl) rfl ?_
    refine lp_me_10 E h i (meM (h.2.1 39) 0 4 zf i) (meM (h.2.1 39) 8 12 zg i) hw hlt ?_ 16 0 rfl
    refine ev_iinc (pc := 75) (v := nI (i + 1)) (L' := [some (.ref 36), some (.int (nI (i + 1))), some (.int (nI 16)), none]) dX4_matchEdges_75 rfl (nI_1 _) (Nat.le_of_ble_eq_true rfl) rfl ?_
    refine ev_goto (pc := 78) (tgt := 2) dX4_matchEdges_78 (by decide) ?_
    refine ev_less (L' := [some (.ref 36), some (.int (nI (i + 1))), none, none]) (ls_keep (ls_keep (ls_drop (ls_keep (ls_nil _))))) ?_
    exact ih (i + 1) (by omega)
theorem cn_X4_matchEdges (E : ME) (h : AH)  (hw : WF h) : Con E mX4_matchEdges 3 0 0 [.ref 36] h (fun r h' => r = none ∧ h' = sI (sI h 37 (meM (h.2.1 39) 0 4 (h.2.1 37) 16)) 38 (meM (h.2.1 39) 8 12 (h.2.1 38) 16)) := by
  refine con_of2 (L := [some (.ref 36), none, none, none]) rfl (Nat.le_of_ble_eq_true rfl) rfl ?_
  refine ev_iconst (pc := 0) (v := 0) dX4_matchEdges_0 (by decide) ?_
  refine ev_istore_n (pc := 1) (L' := [some (.ref 36), some (.int 0), none, none]) dX4_matchEdges_1 (Nat.le_of_ble_eq_true rfl) rfl ?_
  refine ev_eqH (sI_idd h 37 38) ?_
  refine lp_me_2 E h (h.2.1 37) (h.2.1 38) hw ?_ 16 0 rfl
  refine ev_ret (pc := 81) dX4_matchEdges_81 rfl ?_
  · exact ⟨rfl, rfl⟩
