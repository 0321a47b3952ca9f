def imI (zf : Nat → Int32) (zw : Nat) : Nat → Nat → Int32
  | 0 => zf
  | zk + 1 => upd (imI zf zw zk) (zw * 64 + srN 8 zw zk) (nI zk)
def imO (zf : Nat → Int32) : Nat → Nat → Int32
  | 0 => zf
  | zk + 1 => imI (imO zf zk) zk 64
theorem sr8_lt : ∀ zw, zw < 8 → ∀ zc, zc < 64 → srN 8 zw zc < 64 := by decide +kernel
theorem lp_im_55 (E : ME) (h : AH) (zf : Nat → Int32) (zw : Nat) (hk : ∀ zj, zj < 30 → zj < h.1) (hr : h.2.2.2 25 2 = some 28) (hw8 : zw < 8) {post : PO} (K : Ev E mX2_init (rmm 1 4 646) (QM E 4 646 post) 4 646 94 [some (.ref 25), some (.int (nI zw)), some (.int (nI 64)), none] [] (sI h 28 (imI zf zw 64))) : ∀ n i : Nat, i + n = 64 → Ev E mX2_init (rmm 1 4 646) (QM E 4 646 post) 4 646 55 [some (.ref 25), some (.int (nI zw)), some (.int (nI i)), none] [] (sI h 28 (imI zf zw i)) := by
  intro n
  induction n with
  | zero =>
    intro i hi
    obtain rfl : 64 = i := by omega
    refine ev_iload_n (pc := 55) dX2_init_55 rfl ?_
    refine ev_bipush (pc := 56) (v := 64) dX2_init_56 (by decide) ?_
    refine ev_icmp_ge (pc := 58) (tgt := 94) dX2_init_58 (by decide) (fun zc58 => ?_) (fun zc58 => absurd (by decide) zc58)
    exact K
  | succ n ih =>
    intro i hi
    have hlt : i < 64 := by omega
    have hsr := sr8_lt zw hw8 i hlt
    refine ev_iload_n (pc := 55) dX2_init_55 rfl ?_
    refine ev_bipush (pc := 56) (v := 64) dX2_init_56 (by decide) ?_
    refine ev_icmp_ge (pc := 58) (tgt := 94) dX2_init_58 (by decide) (fun zc58 => absurd zc58 (nI_ge hlt (by decide))) (fun zc58 => ?_)
    refine ev_iload_n (pc := 61) dX2_init_61 rfl ?_
    refine ev_iload_n (pc := 62) dX2_init_62 rfl ?_
    refine ev_bipush (pc := 63) (v := 8) dX2_init_63 (by decide) ?_
    refine ev_callSv (S := []) (pc := 65) dX2_init_65 kX10_source lX2_31 sX10_source (cu_src8 E (sI h 28 (imI zf zw i)) zw i (by omega) (by omega)) rfl rfl (Nat.le_of_ble_eq_true rfl) ⟨Nat.le_of_ble_eq_true rfl, Nat.le_of_ble_eq_true rfl⟩ ⟨Nat.le_of_ble_eq_true rfl, Nat.le_of_ble_eq_true rfl⟩ ?_
    refine ev_istore_n (pc := 68) (L' := [some (.ref 25), some (.int (nI zw)), some (.int (nI i)), some (.int (nI (srN 8 zw i)))]) dX2_init_68 (Nat.le_of_ble_eq_true rfl) rfl ?_
    refine ev_iload_n (pc := 69) dX2_init_69 rfl ?_
    refine ev_callSv (S := []) (pc := 70) dX2_init_70 kX10_isCell lX2_35 sX10_isCell (cn_X10_isCell E (sI h 28 (imI zf zw i)) (nI (srN 8 zw i))) rfl rfl (Nat.le_of_ble_eq_true rfl) ⟨Nat.le_of_ble_eq_true rfl, Nat.le_of_ble_eq_true rfl⟩ ⟨Nat.le_of_ble_eq_true rfl, Nat.le_of_ble_eq_true rfl⟩ ?_
    refine ev_if_eq (pc := 73) (tgt := 88) dX2_init_73 (by decide) (fun zc73 => absurd zc73 (fun z => bI_0.mp z ⟨nI_pos' (by omega), nI_lt (b := 64) hsr (by decide)⟩)) (fun zc73 => ?_)
    refine ev_aload_n (pc := 76) dX2_init_76 rfl ?_
    refine ev_getR (pc := 77) (q := 28) dX2_init_77 fX2_19 rfl (hk _ (by decide)) hr ?_
    refine ev_iload_n (pc := 80) dX2_init_80 rfl ?_
    refine ev_bipush (pc := 81) (v := 64) dX2_init_81 (by decide) ?_
    refine ev_imul (pc := 83) dX2_init_83 ?_
    refine ev_eqI (e' := nI (zw * 64)) (pk_mul zw 64) ?_
    refine ev_iload_n (pc := 84) dX2_init_84 rfl ?_
    refine ev_iadd (pc := 85) dX2_init_85 ?_
    refine ev_eqI (e' := nI ((zw * 64) + (srN 8 zw i))) (nI_add (zw * 64) (srN 8 zw i)) ?_
    refine ev_iload_n (pc := 86) dX2_init_86 rfl ?_
    refine ev_iast (pc := 87) dX2_init_87 rfl (hk _ (by decide)) (vp_in_nI (by omega) (by decide)) ?_
    refine ev_eqH (h' := sI h 28 (upd (imI zf zw i) ((zw * 64) + (srN 8 zw i)) (nI i))) (by rw [show Int32.toNatClampNeg (nI ((zw * 64) + (srN 8 zw i))) = (zw * 64) + (srN 8 zw i) from nI_clamp (by omega)]; exact sI_sI _ _ _ _) ?_
    refine ev_iinc (pc := 88) (v := nI (i + 1)) (L' := [some (.ref 25), some (.int (nI zw)), some (.int (nI (i + 1))), some (.int (nI (srN 8 zw i)))]) dX2_init_88 rfl (nI_1 _) (Nat.le_of_ble_eq_true rfl) rfl ?_
    refine ev_goto (pc := 91) (tgt := 55) dX2_init_91 (by decide) ?_
    refine ev_less (L' := [some (.ref 25), some (.int (nI zw)), some (.int (nI (i + 1))), none]) (ls_keep (ls_keep (ls_keep (ls_drop (ls_nil _))))) ?_
    exact ih (i + 1) (by omega)
theorem lp_im_47 (E : ME) (h : AH) (zf : Nat → Int32) (hk : ∀ zj, zj < 30 → zj < h.1) (hr : h.2.2.2 25 2 = some 28) {post : PO} (K : Ev E mX2_init (rmm 1 4 646) (QM E 4 646 post) 4 646 100 [some (.ref 25), some (.int (nI 8)), none, none] [] (sI h 28 (imO zf 8))) : ∀ n i : Nat, i + n = 8 → Ev E mX2_init (rmm 1 4 646) (QM E 4 646 post) 4 646 47 [some (.ref 25), some (.int (nI i)), none, none] [] (sI h 28 (imO zf i)) := by
  intro n
  induction n with
  | zero =>
    intro i hi
    obtain rfl : 8 = i := by omega
    refine ev_iload_n (pc := 47) dX2_init_47 rfl ?_
    refine ev_bipush (pc := 48) (v := 8) dX2_init_48 (by decide) ?_
    refine ev_icmp_ge (pc := 50) (tgt := 100) dX2_init_50 (by decide) (fun zc50 => ?_) (fun zc50 => absurd (by decide) zc50)
    exact K
  | succ n ih =>
    intro i hi
    have hlt : i < 8 := by omega
    refine ev_iload_n (pc := 47) dX2_init_47 rfl ?_
    refine ev_bipush (pc := 48) (v := 8) dX2_init_48 (by decide) ?_
    refine ev_icmp_ge (pc := 50) (tgt := 100) dX2_init_50 (by decide) (fun zc50 => absurd zc50 (nI_ge hlt (by decide))) (fun zc50 => ?_)
    refine ev_iconst (pc := 53) (v := 0) dX2_init_53 (by decide) ?_
    refine ev_istore_n (pc := 54) (L' := [some (.ref 25), some (.int (nI i)), some (.int 0), none]) dX2_init_54 (Nat.le_of_ble_eq_true rfl) rfl ?_
    refine lp_im_55 E h (imO zf i) i hk hr hlt ?_ 64 0 (Nat.zero_add _)
    refine ev_iinc (pc := 94) (v := nI (i + 1)) (L' := [some (.ref 25), some (.int (nI (i + 1))), some (.int (nI 64)), none]) dX2_init_94 rfl (nI_1 _) (Nat.le_of_ble_eq_true rfl) rfl ?_
    refine ev_goto (pc := 97) (tgt := 47) dX2_init_97 (by decide) ?_
    refine ev_less (L' := [some (.ref 25), some (.int (nI (i + 1))), none, none]) (ls_keep (ls_keep (ls_drop (ls_keep (ls_nil _))))) ?_
    exact ih (i + 1) (by omega)
def iX2_25_0 (h : AH) : AH := (nwn 26 h)
def iX2_25_1 (h : AH) : AH := sR (iX2_25_0 h) 25 (va_up ((iX2_25_0 h).2.2.2 25) 0 (some 26))
def iX2_25_2 (h : AH) : AH := (nwn 27 (iX2_25_1 h))
def iX2_25_3 (h : AH) : AH := sR (iX2_25_2 h) 25 (va_up ((iX2_25_2 h).2.2.2 25) 1 (some 27))
def iX2_25_4 (h : AH) : AH := (nwn 28 (iX2_25_3 h))
def iX2_25_5 (h : AH) : AH := sR (iX2_25_4 h) 25 (va_up ((iX2_25_4 h).2.2.2 25) 2 (some 28))
def iX2_25_6 (h : AH) : AH := (nwn 29 (iX2_25_5 h))
def iX2_25_7 (h : AH) : AH := sR (iX2_25_6 h) 25 (va_up ((iX2_25_6 h).2.2.2 25) 3 (some 29))
def iX2_25 (h : AH) : AH := (sI (sI (iX2_25_7 h) 26 (flI (-1) ((iX2_25_7 h).2.1 26) 64)) 28 (imO ((sI (iX2_25_7 h) 26 (flI (-1) ((iX2_25_7 h).2.1 26) 64)).2.1 28) 8))
theorem cn_X2_init_25 (E : ME) (h : AH)  (hn : h.1 = 26) : Con E mX2_init 1 4 646 [.ref 25] h (fun r h' => r = none ∧ h' = iX2_25 h) := by
  refine con_of2 (L := [some (.ref 25), none, none, none]) rfl (Nat.le_of_ble_eq_true rfl) rfl ?_
  refine ev_aload_n (pc := 0) dX2_init_0 rfl ?_
  refine ev_objInit (pc := 1) dX2_init_1 oX2_3 oi_inst oi_code (Nat.le_of_ble_eq_true rfl) (Nat.le_of_ble_eq_true rfl) (Nat.le_of_ble_eq_true rfl) ?_
  refine ev_aload_n (pc := 4) dX2_init_4 rfl ?_
  refine ev_bipush (pc := 5) (v := 64) dX2_init_5 (by decide) ?_
  refine ev_nwa_i (pc := 7) (zk := 26) (N := 64) hn dX2_init_7 ac_int rfl (by decide) (by decide) (by decide) (by decide) ⟨Nat.le_of_ble_eq_true rfl, Nat.le_of_ble_eq_true rfl⟩ ?_
  refine ev_eqH (h' := iX2_25_0 h) rfl ?_
  refine ev_putR (pc := 9) dX2_init_9 fX2_9 rfl (Nat.le_of_ble_eq_true rfl) (Or.inr ⟨rfl, rfl⟩) ⟨rfl, rfl⟩ ?_
  refine ev_eqH (h' := sR (iX2_25_0 h) 25 (va_up ((iX2_25_0 h).2.2.2 25) 0 (some 26))) (by rfl) ?_
  refine ev_eqH (h' := iX2_25_1 h) rfl ?_
  refine ev_aload_n (pc := 12) dX2_init_12 rfl ?_
  refine ev_bipush (pc := 13) (v := 6) dX2_init_13 (by decide) ?_
  refine ev_nwa_l (pc := 15) (zk := 27) (N := 6) rfl dX2_init_15 ac_long rfl (by decide) (by decide) (by decide) (by decide) ⟨Nat.le_of_ble_eq_true rfl, Nat.le_of_ble_eq_true rfl⟩ ?_
  refine ev_eqH (h' := iX2_25_2 h) rfl ?_
  refine ev_putR (pc := 17) dX2_init_17 fX2_15 rfl (Nat.le_of_ble_eq_true rfl) (Or.inr ⟨rfl, rfl⟩) ⟨rfl, rfl⟩ ?_
  refine ev_eqH (h' := sR (iX2_25_2 h) 25 (va_up ((iX2_25_2 h).2.2.2 25) 1 (some 27))) (by rfl) ?_
  refine ev_eqH (h' := iX2_25_3 h) rfl ?_
  refine ev_aload_n (pc := 20) dX2_init_20 rfl ?_
  refine ev_sipush (pc := 21) (v := 512) dX2_init_21 (by decide) ?_
  refine ev_nwa_i (pc := 24) (zk := 28) (N := 512) rfl dX2_init_24 ac_int rfl (by decide) (by decide) (by decide) (by decide) ⟨Nat.le_of_ble_eq_true rfl, Nat.le_of_ble_eq_true rfl⟩ ?_
  refine ev_eqH (h' := iX2_25_4 h) rfl ?_
  refine ev_putR (pc := 26) dX2_init_26 fX2_19 rfl (Nat.le_of_ble_eq_true rfl) (Or.inr ⟨rfl, rfl⟩) ⟨rfl, rfl⟩ ?_
  refine ev_eqH (h' := sR (iX2_25_4 h) 25 (va_up ((iX2_25_4 h).2.2.2 25) 2 (some 28))) (by rfl) ?_
  refine ev_eqH (h' := iX2_25_5 h) rfl ?_
  refine ev_aload_n (pc := 29) dX2_init_29 rfl ?_
  refine ev_bipush (pc := 30) (v := 64) dX2_init_30 (by decide) ?_
  refine ev_nwa_i (pc := 32) (zk := 29) (N := 64) rfl dX2_init_32 ac_int rfl (by decide) (by decide) (by decide) (by decide) ⟨Nat.le_of_ble_eq_true rfl, Nat.le_of_ble_eq_true rfl⟩ ?_
  refine ev_eqH (h' := iX2_25_6 h) rfl ?_
  refine ev_putR (pc := 34) dX2_init_34 fX2_22 rfl (Nat.le_of_ble_eq_true rfl) (Or.inr ⟨rfl, rfl⟩) ⟨rfl, rfl⟩ ?_
  refine ev_eqH (h' := sR (iX2_25_6 h) 25 (va_up ((iX2_25_6 h).2.2.2 25) 3 (some 29))) (by rfl) ?_
  refine ev_eqH (h' := iX2_25_7 h) rfl ?_
  refine ev_aload_n (pc := 37) dX2_init_37 rfl ?_
  refine ev_getR (pc := 38) (q := 26) dX2_init_38 fX2_9 rfl (Nat.le_of_ble_eq_true rfl) rfl ?_
  refine ev_iconst (pc := 41) (v := (-1)) dX2_init_41 (by decide) ?_
  refine ev_callS0 (S := []) (pc := 42) dX2_init_42 kJ7_fill_53178 lX2_25 sJ7_fill_53178 (cu_fill E (iX2_25_7 h) 26 64 (-1) rfl (Nat.le_of_ble_eq_true rfl) (by decide)) rfl rfl (Nat.le_of_ble_eq_true rfl) ⟨Nat.le_of_ble_eq_true rfl, Nat.le_of_ble_eq_true rfl⟩ ⟨Nat.le_of_ble_eq_true rfl, Nat.le_of_ble_eq_true rfl⟩ ?_
  refine ev_eqH (h' := (sI (iX2_25_7 h) 26 (flI (-1) ((iX2_25_7 h).2.1 26) 64))) rfl ?_
  refine ev_iconst (pc := 45) (v := 0) dX2_init_45 (by decide) ?_
  refine ev_istore_n (pc := 46) (L' := [some (.ref 25), some (.int 0), none, none]) dX2_init_46 (Nat.le_of_ble_eq_true rfl) rfl ?_
  refine ev_eqH (h' := sI (sI (iX2_25_7 h) 26 (flI (-1) ((iX2_25_7 h).2.1 26) 64)) 28 ((sI (iX2_25_7 h) 26 (flI (-1) ((iX2_25_7 h).2.1 26) 64)).2.1 28)) (sI_id _ _).symm ?_
  refine lp_im_47 E (sI (iX2_25_7 h) 26 (flI (-1) ((iX2_25_7 h).2.1 26) 64)) ((sI (iX2_25_7 h) 26 (flI (-1) ((iX2_25_7 h).2.1 26) 64)).2.1 28) (fun zj hz => Nat.lt_of_lt_of_le hz (Nat.le_of_ble_eq_true rfl)) rfl ?_ 8 0 (Nat.zero_add _)
  refine ev_ret (pc := 100) dX2_init_100 rfl ?_
  · exact ⟨rfl, rfl⟩
def iX10_0_0 (h : AH) : AH := (nwn 1 h)
def iX10_0_1 (h : AH) : AH := (iX9_1 (iX10_0_0 h))
def iX10_0_2 (h : AH) : AH := sR (iX10_0_1 h) 0 (va_up ((iX10_0_1 h).2.2.2 0) 0 (some 1))
def iX10_0_3 (h : AH) : AH := (nwn 3 (iX10_0_2 h))
def iX10_0_4 (h : AH) : AH := (iX8_3 (iX10_0_3 h))
def iX10_0_5 (h : AH) : AH := sR (iX10_0_4 h) 0 (va_up ((iX10_0_4 h).2.2.2 0) 1 (some 3))
def iX10_0_6 (h : AH) : AH := (nwn 11 (iX10_0_5 h))
def iX10_0_7 (h : AH) : AH := (iX8_11 (iX10_0_6 h))
def iX10_0_8 (h : AH) : AH := sR (iX10_0_7 h) 0 (va_up ((iX10_0_7 h).2.2.2 0) 2 (some 11))
def iX10_0_9 (h : AH) : AH := (nwn 19 (iX10_0_8 h))
def iX10_0_10 (h : AH) : AH := (iX5_19 (iX10_0_9 h))
def iX10_0_11 (h : AH) : AH := sR (iX10_0_10 h) 0 (va_up ((iX10_0_10 h).2.2.2 0) 3 (some 19))
def iX10_0_12 (h : AH) : AH := (nwn 20 (iX10_0_11 h))
def iX10_0_13 (h : AH) : AH := (iX6_20 (iX10_0_12 h))
def iX10_0_14 (h : AH) : AH := sR (iX10_0_13 h) 0 (va_up ((iX10_0_13 h).2.2.2 0) 4 (some 20))
def iX10_0_15 (h : AH) : AH := (nwn 25 (iX10_0_14 h))
def iX10_0_16 (h : AH) : AH := (iX2_25 (iX10_0_15 h))
def iX10_0_17 (h : AH) : AH := sR (iX10_0_16 h) 0 (va_up ((iX10_0_16 h).2.2.2 0) 5 (some 25))
def iX10_0_18 (h : AH) : AH := (nwn 30 (iX10_0_17 h))
def iX10_0_19 (h : AH) : AH := (iX0_30 (iX10_0_18 h))
def iX10_0_20 (h : AH) : AH := sR (iX10_0_19 h) 0 (va_up ((iX10_0_19 h).2.2.2 0) 6 (some 30))
def iX10_0_21 (h : AH) : AH := (nwn 32 (iX10_0_20 h))
def iX10_0_22 (h : AH) : AH := (iX3_32 (iX10_0_21 h))
def iX10_0_23 (h : AH) : AH := sR (iX10_0_22 h) 0 (va_up ((iX10_0_22 h).2.2.2 0) 7 (some 32))
def iX10_0_24 (h : AH) : AH := (nwn 34 (iX10_0_23 h))
def iX10_0_25 (h : AH) : AH := (iX1_34 (iX10_0_24 h))
def iX10_0_26 (h : AH) : AH := sR (iX10_0_25 h) 0 (va_up ((iX10_0_25 h).2.2.2 0) 8 (some 34))
def iX10_0_27 (h : AH) : AH := (nwn 36 (iX10_0_26 h))
def iX10_0_28 (h : AH) : AH := (iX4_36 (iX10_0_27 h))
def iX10_0_29 (h : AH) : AH := sR (iX10_0_28 h) 0 (va_up ((iX10_0_28 h).2.2.2 0) 9 (some 36))
def iX10_0_30 (h : AH) : AH := (nwn 40 (iX10_0_29 h))
def iX10_0_31 (h : AH) : AH := sR (iX10_0_30 h) 0 (va_up ((iX10_0_30 h).2.2.2 0) 10 (some 40))
def iX10_0_32 (h : AH) : AH := (nwn 41 (iX10_0_31 h))
def iX10_0_33 (h : AH) : AH := (iX7_41 (iX10_0_32 h))
def iX10_0_34 (h : AH) : AH := sR (iX10_0_33 h) 40 (va_up ((iX10_0_33 h).2.2.2 40) 0 (some 41))
def iX10_0_35 (h : AH) : AH := (nwn 43 (iX10_0_34 h))
def iX10_0_36 (h : AH) : AH := (iX7_43 (iX10_0_35 h))
def iX10_0_37 (h : AH) : AH := sR (iX10_0_36 h) 40 (va_up ((iX10_0_36 h).2.2.2 40) 1 (some 43))
def iX10_0_38 (h : AH) : AH := (nwn 45 (iX10_0_37 h))
def iX10_0_39 (h : AH) : AH := (iX7_45 (iX10_0_38 h))
def iX10_0_40 (h : AH) : AH := sR (iX10_0_39 h) 40 (va_up ((iX10_0_39 h).2.2.2 40) 2 (some 45))
def iX10_0_41 (h : AH) : AH := (nwn 47 (iX10_0_40 h))
def iX10_0_42 (h : AH) : AH := (iX7_47 (iX10_0_41 h))
def iX10_0_43 (h : AH) : AH := sR (iX10_0_42 h) 40 (va_up ((iX10_0_42 h).2.2.2 40) 3 (some 47))
def iX10_0 (h : AH) : AH := (iX10_0_43 h)
theorem cn_X10_init_0 (E : ME) (h : AH)  (hX : ∀ (s : State) (H : Heap), E.2.2.2.2.2 s H → va_AO RX7 s) (hn : h.1 = 1) : Con E mX10_init 3 48 11028 [.ref 0] h (fun r h' => r = none ∧ h' = iX10_0 h) := by
  refine con_of2 (L := [some (.ref 0), none]) rfl (Nat.le_of_ble_eq_true rfl) rfl ?_
  refine ev_aload_n (pc := 0) dX10_init_0 rfl ?_
  refine ev_objInit (pc := 1) dX10_init_1 oX10_1 oi_inst oi_code (Nat.le_of_ble_eq_true rfl) (Nat.le_of_ble_eq_true rfl) (Nat.le_of_ble_eq_true rfl) ?_
  refine ev_aload_n (pc := 4) dX10_init_4 rfl ?_
  refine ev_nwo (pc := 5) (zk := 1) (ci := 9) hn dX10_init_5 rfl rfl clX10_7 rfl (by decide) ⟨Nat.le_of_ble_eq_true rfl, Nat.le_of_ble_eq_true rfl⟩ ?_
  refine ev_eqH (h' := iX10_0_0 h) rfl ?_
  refine ev_dup (pc := 8) dX10_init_8 rfl ?_
  refine ev_callI (S := [.ref 1, .ref 0]) (pc := 9) dX10_init_9 kX9_init lX10_9 vX9_init (cn_X9_init_1 E (iX10_0_0 h) rfl) rfl rfl (Nat.le_of_ble_eq_true rfl) ⟨Nat.le_of_ble_eq_true rfl, Nat.le_of_ble_eq_true rfl⟩ ⟨Nat.le_of_ble_eq_true rfl, Nat.le_of_ble_eq_true rfl⟩ ?_
  rintro _ _ ⟨rfl, rfl⟩
  refine ev_eqH (h' := iX10_0_1 h) rfl ?_
  refine ev_putR (pc := 12) dX10_init_12 fX10_10 rfl (Nat.le_of_ble_eq_true rfl) (Or.inr ⟨rfl, rfl⟩) ⟨rfl, rfl⟩ ?_
  refine ev_eqH (h' := sR (iX10_0_1 h) 0 (va_up ((iX10_0_1 h).2.2.2 0) 0 (some 1))) (by rfl) ?_
  refine ev_eqH (h' := iX10_0_2 h) rfl ?_
  refine ev_aload_n (pc := 15) dX10_init_15 rfl ?_
  refine ev_nwo (pc := 16) (zk := 3) (ci := 8) rfl dX10_init_16 rfl rfl clX10_16 rfl (by decide) ⟨Nat.le_of_ble_eq_true rfl, Nat.le_of_ble_eq_true rfl⟩ ?_
  refine ev_eqH (h' := iX10_0_3 h) rfl ?_
  refine ev_dup (pc := 19) dX10_init_19 rfl ?_
  refine ev_callI (S := [.ref 3, .ref 0]) (pc := 20) dX10_init_20 kX8_init lX10_18 vX8_init (cn_X8_init_3 E (iX10_0_3 h) rfl) rfl rfl (Nat.le_of_ble_eq_true rfl) ⟨Nat.le_of_ble_eq_true rfl, Nat.le_of_ble_eq_true rfl⟩ ⟨Nat.le_of_ble_eq_true rfl, Nat.le_of_ble_eq_true rfl⟩ ?_
  rintro _ _ ⟨rfl, rfl⟩
  refine ev_eqH (h' := iX10_0_4 h) rfl ?_
  refine ev_putR (pc := 23) dX10_init_23 fX10_19 rfl (Nat.le_of_ble_eq_true rfl) (Or.inl rfl) ⟨rfl, rfl⟩ ?_
  refine ev_eqH (h' := sR (iX10_0_4 h) 0 (va_up ((iX10_0_4 h).2.2.2 0) 1 (some 3))) (by rfl) ?_
  refine ev_eqH (h' := iX10_0_5 h) rfl ?_
  refine ev_aload_n (pc := 26) dX10_init_26 rfl ?_
  refine ev_nwo (pc := 27) (zk := 11) (ci := 8) rfl dX10_init_27 rfl rfl clX10_16 rfl (by decide) ⟨Nat.le_of_ble_eq_true rfl, Nat.le_of_ble_eq_true rfl⟩ ?_
  refine ev_eqH (h' := iX10_0_6 h) rfl ?_
  refine ev_dup (pc := 30) dX10_init_30 rfl ?_
  refine ev_callI (S := [.ref 11, .ref 0]) (pc := 31) dX10_init_31 kX8_init lX10_18 vX8_init (cn_X8_init_11 E (iX10_0_6 h) rfl) rfl rfl (Nat.le_of_ble_eq_true rfl) ⟨Nat.le_of_ble_eq_true rfl, Nat.le_of_ble_eq_true rfl⟩ ⟨Nat.le_of_ble_eq_true rfl, Nat.le_of_ble_eq_true rfl⟩ ?_
  rintro _ _ ⟨rfl, rfl⟩
  refine ev_eqH (h' := iX10_0_7 h) rfl ?_
  refine ev_putR (pc := 34) dX10_init_34 fX10_23 rfl (Nat.le_of_ble_eq_true rfl) (Or.inl rfl) ⟨rfl, rfl⟩ ?_
  refine ev_eqH (h' := sR (iX10_0_7 h) 0 (va_up ((iX10_0_7 h).2.2.2 0) 2 (some 11))) (by rfl) ?_
  refine ev_eqH (h' := iX10_0_8 h) rfl ?_
  refine ev_aload_n (pc := 37) dX10_init_37 rfl ?_
  refine ev_nwo (pc := 38) (zk := 19) (ci := 5) rfl dX10_init_38 rfl rfl clX10_26 rfl (by decide) ⟨Nat.le_of_ble_eq_true rfl, Nat.le_of_ble_eq_true rfl⟩ ?_
  refine ev_eqH (h' := iX10_0_9 h) rfl ?_
  refine ev_dup (pc := 41) dX10_init_41 rfl ?_
  refine ev_aload_n (pc := 42) dX10_init_42 rfl ?_
  refine ev_getR (pc := 43) (q := 1) dX10_init_43 fX10_10 rfl (Nat.le_of_ble_eq_true rfl) rfl ?_
  refine ev_aload_n (pc := 46) dX10_init_46 rfl ?_
  refine ev_getR (pc := 47) (q := 11) dX10_init_47 fX10_23 rfl (Nat.le_of_ble_eq_true rfl) rfl ?_
  refine ev_callI (S := [.ref 19, .ref 0]) (pc := 50) dX10_init_50 kX5_init lX10_28 vX5_init (cn_X5_init_19 E (iX10_0_9 h) rfl) rfl rfl (Nat.le_of_ble_eq_true rfl) ⟨Nat.le_of_ble_eq_true rfl, Nat.le_of_ble_eq_true rfl⟩ ⟨Nat.le_of_ble_eq_true rfl, Nat.le_of_ble_eq_true rfl⟩ ?_
  rintro _ _ ⟨rfl, rfl⟩
  refine ev_eqH (h' := iX10_0_10 h) rfl ?_
  refine ev_putR (pc := 53) dX10_init_53 fX10_31 rfl (Nat.le_of_ble_eq_true rfl) (Or.inr ⟨rfl, rfl⟩) ⟨rfl, rfl⟩ ?_
  refine ev_eqH (h' := sR (iX10_0_10 h) 0 (va_up ((iX10_0_10 h).2.2.2 0) 3 (some 19))) (by rfl) ?_
  refine ev_eqH (h' := iX10_0_11 h) rfl ?_
  refine ev_aload_n (pc := 56) dX10_init_56 rfl ?_
  refine ev_nwo (pc := 57) (zk := 20) (ci := 6) rfl dX10_init_57 rfl rfl clX10_35 rfl (by decide) ⟨Nat.le_of_ble_eq_true rfl, Nat.le_of_ble_eq_true rfl⟩ ?_
  refine ev_eqH (h' := iX10_0_12 h) rfl ?_
  refine ev_dup (pc := 60) dX10_init_60 rfl ?_
  refine ev_callI (S := [.ref 20, .ref 0]) (pc := 61) dX10_init_61 kX6_init lX10_37 vX6_init (cn_X6_init_20 E (iX10_0_12 h) rfl) rfl rfl (Nat.le_of_ble_eq_true rfl) ⟨Nat.le_of_ble_eq_true rfl, Nat.le_of_ble_eq_true rfl⟩ ⟨Nat.le_of_ble_eq_true rfl, Nat.le_of_ble_eq_true rfl⟩ ?_
  rintro _ _ ⟨rfl, rfl⟩
  refine ev_eqH (h' := iX10_0_13 h) rfl ?_
  refine ev_putR (pc := 64) dX10_init_64 fX10_38 rfl (Nat.le_of_ble_eq_true rfl) (Or.inr ⟨rfl, rfl⟩) ⟨rfl, rfl⟩ ?_
  refine ev_eqH (h' := sR (iX10_0_13 h) 0 (va_up ((iX10_0_13 h).2.2.2 0) 4 (some 20))) (by rfl) ?_
  refine ev_eqH (h' := iX10_0_14 h) rfl ?_
  refine ev_aload_n (pc := 67) dX10_init_67 rfl ?_
  refine ev_nwo (pc := 68) (zk := 25) (ci := 2) rfl dX10_init_68 rfl rfl clX10_42 rfl (by decide) ⟨Nat.le_of_ble_eq_true rfl, Nat.le_of_ble_eq_true rfl⟩ ?_
  refine ev_eqH (h' := iX10_0_15 h) rfl ?_
  refine ev_dup (pc := 71) dX10_init_71 rfl ?_
  refine ev_callI (S := [.ref 25, .ref 0]) (pc := 72) dX10_init_72 kX2_init lX10_44 vX2_init (cn_X2_init_25 E (iX10_0_15 h) rfl) rfl rfl (Nat.le_of_ble_eq_true rfl) ⟨Nat.le_of_ble_eq_true rfl, Nat.le_of_ble_eq_true rfl⟩ ⟨Nat.le_of_ble_eq_true rfl, Nat.le_of_ble_eq_true rfl⟩ ?_
  rintro _ _ ⟨rfl, rfl⟩
  refine ev_eqH (h' := iX10_0_16 h) rfl ?_
  refine ev_putR (pc := 75) dX10_init_75 fX10_45 rfl (Nat.le_of_ble_eq_true rfl) (Or.inr ⟨rfl, rfl⟩) ⟨rfl, rfl⟩ ?_
  refine ev_eqH (h' := sR (iX10_0_16 h) 0 (va_up ((iX10_0_16 h).2.2.2 0) 5 (some 25))) (by rfl) ?_
  refine ev_eqH (h' := iX10_0_17 h) rfl ?_
  refine ev_aload_n (pc := 78) dX10_init_78 rfl ?_
  refine ev_nwo (pc := 79) (zk := 30) (ci := 0) rfl dX10_init_79 rfl rfl clX10_49 rfl (by decide) ⟨Nat.le_of_ble_eq_true rfl, Nat.le_of_ble_eq_true rfl⟩ ?_
  refine ev_eqH (h' := iX10_0_18 h) rfl ?_
  refine ev_dup (pc := 82) dX10_init_82 rfl ?_
  refine ev_callI (S := [.ref 30, .ref 0]) (pc := 83) dX10_init_83 kX0_init lX10_51 vX0_init (cn_X0_init_30 E (iX10_0_18 h) rfl) rfl rfl (Nat.le_of_ble_eq_true rfl) ⟨Nat.le_of_ble_eq_true rfl, Nat.le_of_ble_eq_true rfl⟩ ⟨Nat.le_of_ble_eq_true rfl, Nat.le_of_ble_eq_true rfl⟩ ?_
  rintro _ _ ⟨rfl, rfl⟩
  refine ev_eqH (h' := iX10_0_19 h) rfl ?_
  refine ev_putR (pc := 86) dX10_init_86 fX10_52 rfl (Nat.le_of_ble_eq_true rfl) (Or.inr ⟨rfl, rfl⟩) ⟨rfl, rfl⟩ ?_
  refine ev_eqH (h' := sR (iX10_0_19 h) 0 (va_up ((iX10_0_19 h).2.2.2 0) 6 (some 30))) (by rfl) ?_
  refine ev_eqH (h' := iX10_0_20 h) rfl ?_
  refine ev_aload_n (pc := 89) dX10_init_89 rfl ?_
  refine ev_nwo (pc := 90) (zk := 32) (ci := 3) rfl dX10_init_90 rfl rfl clX10_56 rfl (by decide) ⟨Nat.le_of_ble_eq_true rfl, Nat.le_of_ble_eq_true rfl⟩ ?_
  refine ev_eqH (h' := iX10_0_21 h) rfl ?_
  refine ev_dup (pc := 93) dX10_init_93 rfl ?_
  refine ev_callI (S := [.ref 32, .ref 0]) (pc := 94) dX10_init_94 kX3_init lX10_58 vX3_init (cn_X3_init_32 E (iX10_0_21 h) rfl) rfl rfl (Nat.le_of_ble_eq_true rfl) ⟨Nat.le_of_ble_eq_true rfl, Nat.le_of_ble_eq_true rfl⟩ ⟨Nat.le_of_ble_eq_true rfl, Nat.le_of_ble_eq_true rfl⟩ ?_
  rintro _ _ ⟨rfl, rfl⟩
  refine ev_eqH (h' := iX10_0_22 h) rfl ?_
  refine ev_putR (pc := 97) dX10_init_97 fX10_59 rfl (Nat.le_of_ble_eq_true rfl) (Or.inr ⟨rfl, rfl⟩) ⟨rfl, rfl⟩ ?_
  refine ev_eqH (h' := sR (iX10_0_22 h) 0 (va_up ((iX10_0_22 h).2.2.2 0) 7 (some 32))) (by rfl) ?_
  refine ev_eqH (h' := iX10_0_23 h) rfl ?_
  refine ev_aload_n (pc := 100) dX10_init_100 rfl ?_
  refine ev_nwo (pc := 101) (zk := 34) (ci := 1) rfl dX10_init_101 rfl rfl clX10_63 rfl (by decide) ⟨Nat.le_of_ble_eq_true rfl, Nat.le_of_ble_eq_true rfl⟩ ?_
  refine ev_eqH (h' := iX10_0_24 h) rfl ?_
  refine ev_dup (pc := 104) dX10_init_104 rfl ?_
  refine ev_callI (S := [.ref 34, .ref 0]) (pc := 105) dX10_init_105 kX1_init lX10_65 vX1_init (cn_X1_init_34 E (iX10_0_24 h) rfl) rfl rfl (Nat.le_of_ble_eq_true rfl) ⟨Nat.le_of_ble_eq_true rfl, Nat.le_of_ble_eq_true rfl⟩ ⟨Nat.le_of_ble_eq_true rfl, Nat.le_of_ble_eq_true rfl⟩ ?_
  rintro _ _ ⟨rfl, rfl⟩
  refine ev_eqH (h' := iX10_0_25 h) rfl ?_
  refine ev_putR (pc := 108) dX10_init_108 fX10_66 rfl (Nat.le_of_ble_eq_true rfl) (Or.inr ⟨rfl, rfl⟩) ⟨rfl, rfl⟩ ?_
  refine ev_eqH (h' := sR (iX10_0_25 h) 0 (va_up ((iX10_0_25 h).2.2.2 0) 8 (some 34))) (by rfl) ?_
  refine ev_eqH (h' := iX10_0_26 h) rfl ?_
  refine ev_aload_n (pc := 111) dX10_init_111 rfl ?_
  refine ev_nwo (pc := 112) (zk := 36) (ci := 4) rfl dX10_init_112 rfl rfl clX10_70 rfl (by decide) ⟨Nat.le_of_ble_eq_true rfl, Nat.le_of_ble_eq_true rfl⟩ ?_
  refine ev_eqH (h' := iX10_0_27 h) rfl ?_
  refine ev_dup (pc := 115) dX10_init_115 rfl ?_
  refine ev_callI (S := [.ref 36, .ref 0]) (pc := 116) dX10_init_116 kX4_init lX10_72 vX4_init (cn_X4_init_36 E (iX10_0_27 h) rfl) rfl rfl (Nat.le_of_ble_eq_true rfl) ⟨Nat.le_of_ble_eq_true rfl, Nat.le_of_ble_eq_true rfl⟩ ⟨Nat.le_of_ble_eq_true rfl, Nat.le_of_ble_eq_true rfl⟩ ?_
  rintro _ _ ⟨rfl, rfl⟩
  refine ev_eqH (h' := iX10_0_28 h) rfl ?_
  refine ev_putR (pc := 119) dX10_init_119 fX10_73 rfl (Nat.le_of_ble_eq_true rfl) (Or.inr ⟨rfl, rfl⟩) ⟨rfl, rfl⟩ ?_
  refine ev_eqH (h' := sR (iX10_0_28 h) 0 (va_up ((iX10_0_28 h).2.2.2 0) 9 (some 36))) (by rfl) ?_
  refine ev_eqH (h' := iX10_0_29 h) rfl ?_
  refine ev_aload_n (pc := 122) dX10_init_122 rfl ?_
  refine ev_iconst (pc := 123) (v := 4) dX10_init_123 (by decide) ?_
  refine ev_nwr (pc := 124) (zk := 40) (N := 4) rfl dX10_init_124 clX10_77 hX rfl (by decide) (by decide) (by decide) (by decide) ⟨Nat.le_of_ble_eq_true rfl, Nat.le_of_ble_eq_true rfl⟩ ?_
  refine ev_eqH (h' := iX10_0_30 h) rfl ?_
  refine ev_putR (pc := 127) dX10_init_127 fX10_79 rfl (Nat.le_of_ble_eq_true rfl) (Or.inr ⟨rfl, rfl⟩) ⟨rfl, rfl⟩ ?_
  refine ev_eqH (h' := sR (iX10_0_30 h) 0 (va_up ((iX10_0_30 h).2.2.2 0) 10 (some 40))) (by rfl) ?_
  refine ev_eqH (h' := iX10_0_31 h) rfl ?_
  refine ev_iconst (pc := 130) (v := 0) dX10_init_130 (by decide) ?_
  refine ev_istore_n (pc := 131) (L' := [some (.ref 0), some (.int 0)]) dX10_init_131 (Nat.le_of_ble_eq_true rfl) rfl ?_
  refine ev_iload_n (pc := 132) dX10_init_132 rfl ?_
  refine ev_iconst (pc := 133) (v := 4) dX10_init_133 (by decide) ?_
  refine ev_icmp_ge (pc := 134) (tgt := 156) dX10_init_134 (by decide) (fun zc134 => absurd zc134 (by decide)) (fun zc134 => ?_)
  refine ev_aload_n (pc := 137) dX10_init_137 rfl ?_
  refine ev_getR (pc := 138) (q := 40) dX10_init_138 fX10_79 rfl (Nat.le_of_ble_eq_true rfl) rfl ?_
  refine ev_iload_n (pc := 141) dX10_init_141 rfl ?_
  refine ev_nwo (pc := 142) (zk := 41) (ci := 7) rfl dX10_init_142 rfl rfl clX10_77 rfl (by decide) ⟨Nat.le_of_ble_eq_true rfl, Nat.le_of_ble_eq_true rfl⟩ ?_
  refine ev_eqH (h' := iX10_0_32 h) rfl ?_
  refine ev_dup (pc := 145) dX10_init_145 rfl ?_
  refine ev_callI (S := [.ref 41, .int 0, .ref 40]) (pc := 146) dX10_init_146 kX7_init lX10_83 vX7_init (cn_X7_init_41 E (iX10_0_32 h) rfl) rfl rfl (Nat.le_of_ble_eq_true rfl) ⟨Nat.le_of_ble_eq_true rfl, Nat.le_of_ble_eq_true rfl⟩ ⟨Nat.le_of_ble_eq_true rfl, Nat.le_of_ble_eq_true rfl⟩ ?_
  rintro _ _ ⟨rfl, rfl⟩
  refine ev_eqH (h' := iX10_0_33 h) rfl ?_
  refine ev_aast (pc := 149) dX10_init_149 rfl (Nat.le_of_ble_eq_true rfl) rfl (Nat.le_of_ble_eq_true rfl) (vp_in_nI (n := 0) (by decide) (by decide)) ?_
  refine ev_eqH (h' := sR (iX10_0_33 h) 40 (va_up ((iX10_0_33 h).2.2.2 40) 0 (some 41))) (by rfl) ?_
  refine ev_eqH (h' := iX10_0_34 h) rfl ?_
  refine ev_iinc (pc := 150) (v := 1) (L' := [some (.ref 0), some (.int 1)]) dX10_init_150 rfl (by decide) (Nat.le_of_ble_eq_true rfl) rfl ?_
  refine ev_goto (pc := 153) (tgt := 132) dX10_init_153 (by decide) ?_
  refine ev_iload_n (pc := 132) dX10_init_132 rfl ?_
  refine ev_iconst (pc := 133) (v := 4) dX10_init_133 (by decide) ?_
  refine ev_icmp_ge (pc := 134) (tgt := 156) dX10_init_134 (by decide) (fun zc134 => absurd zc134 (by decide)) (fun zc134 => ?_)
  refine ev_aload_n (pc := 137) dX10_init_137 rfl ?_
  refine ev_getR (pc := 138) (q := 40) dX10_init_138 fX10_79 rfl (Nat.le_of_ble_eq_true rfl) rfl ?_
  refine ev_iload_n (pc := 141) dX10_init_141 rfl ?_
  refine ev_nwo (pc := 142) (zk := 43) (ci := 7) rfl dX10_init_142 rfl rfl clX10_77 rfl (by decide) ⟨Nat.le_of_ble_eq_true rfl, Nat.le_of_ble_eq_true rfl⟩ ?_
  refine ev_eqH (h' := iX10_0_35 h) rfl ?_
  refine ev_dup (pc := 145) dX10_init_145 rfl ?_
  refine ev_callI (S := [.ref 43, .int 1, .ref 40]) (pc := 146) dX10_init_146 kX7_init lX10_83 vX7_init (cn_X7_init_43 E (iX10_0_35 h) rfl) rfl rfl (Nat.le_of_ble_eq_true rfl) ⟨Nat.le_of_ble_eq_true rfl, Nat.le_of_ble_eq_true rfl⟩ ⟨Nat.le_of_ble_eq_true rfl, Nat.le_of_ble_eq_true rfl⟩ ?_
  rintro _ _ ⟨rfl, rfl⟩
  refine ev_eqH (h' := iX10_0_36 h) rfl ?_
  refine ev_aast (pc := 149) dX10_init_149 rfl (Nat.le_of_ble_eq_true rfl) rfl (Nat.le_of_ble_eq_true rfl) (vp_in_nI (n := 1) (by decide) (by decide)) ?_
  refine ev_eqH (h' := sR (iX10_0_36 h) 40 (va_up ((iX10_0_36 h).2.2.2 40) 1 (some 43))) (by rfl) ?_
  refine ev_eqH (h' := iX10_0_37 h) rfl ?_
  refine ev_iinc (pc := 150) (v := 2) (L' := [some (.ref 0), some (.int 2)]) dX10_init_150 rfl (by decide) (Nat.le_of_ble_eq_true rfl) rfl ?_
  refine ev_goto (pc := 153) (tgt := 132) dX10_init_153 (by decide) ?_
  refine ev_iload_n (pc := 132) dX10_init_132 rfl ?_
  refine ev_iconst (pc := 133) (v := 4) dX10_init_133 (by decide) ?_
  refine ev_icmp_ge (pc := 134) (tgt := 156) dX10_init_134 (by decide) (fun zc134 => absurd zc134 (by decide)) (fun zc134 => ?_)
  refine ev_aload_n (pc := 137) dX10_init_137 rfl ?_
  refine ev_getR (pc := 138) (q := 40) dX10_init_138 fX10_79 rfl (Nat.le_of_ble_eq_true rfl) rfl ?_
  refine ev_iload_n (pc := 141) dX10_init_141 rfl ?_
  refine ev_nwo (pc := 142) (zk := 45) (ci := 7) rfl dX10_init_142 rfl rfl clX10_77 rfl (by decide) ⟨Nat.le_of_ble_eq_true rfl, Nat.le_of_ble_eq_true rfl⟩ ?_
  refine ev_eqH (h' := iX10_0_38 h) rfl ?_
  refine ev_dup (pc := 145) dX10_init_145 rfl ?_
  refine ev_callI (S := [.ref 45, .int 2, .ref 40]) (pc := 146) dX10_init_146 kX7_init lX10_83 vX7_init (cn_X7_init_45 E (iX10_0_38 h) rfl) rfl rfl (Nat.le_of_ble_eq_true rfl) ⟨Nat.le_of_ble_eq_true rfl, Nat.le_of_ble_eq_true rfl⟩ ⟨Nat.le_of_ble_eq_true rfl, Nat.le_of_ble_eq_true rfl⟩ ?_
  rintro _ _ ⟨rfl, rfl⟩
  refine ev_eqH (h' := iX10_0_39 h) rfl ?_
  refine ev_aast (pc := 149) dX10_init_149 rfl (Nat.le_of_ble_eq_true rfl) rfl (Nat.le_of_ble_eq_true rfl) (vp_in_nI (n := 2) (by decide) (by decide)) ?_
  refine ev_eqH (h' := sR (iX10_0_39 h) 40 (va_up ((iX10_0_39 h).2.2.2 40) 2 (some 45))) (by rfl) ?_
  refine ev_eqH (h' := iX10_0_40 h) rfl ?_
  refine ev_iinc (pc := 150) (v := 3) (L' := [some (.ref 0), some (.int 3)]) dX10_init_150 rfl (by decide) (Nat.le_of_ble_eq_true rfl) rfl ?_
  refine ev_goto (pc := 153) (tgt := 132) dX10_init_153 (by decide) ?_
  refine ev_iload_n (pc := 132) dX10_init_132 rfl ?_
  refine ev_iconst (pc := 133) (v := 4) dX10_init_133 (by decide) ?_
  refine ev_icmp_ge (pc := 134) (tgt := 156) dX10_init_134 (by decide) (fun zc134 => absurd zc134 (by decide)) (fun zc134 => ?_)
  refine ev_aload_n (pc := 137) dX10_init_137 rfl ?_
  refine ev_getR (pc := 138) (q := 40) dX10_init_138 fX10_79 rfl (Nat.le_of_ble_eq_true rfl) rfl ?_
  refine ev_iload_n (pc := 141) dX10_init_141 rfl ?_
  refine ev_nwo (pc := 142) (zk := 47) (ci := 7) rfl dX10_init_142 rfl rfl clX10_77 rfl (by decide) ⟨Nat.le_of_ble_eq_true rfl, Nat.le_of_ble_eq_true rfl⟩ ?_
  refine ev_eqH (h' := iX10_0_41 h) rfl ?_
  refine ev_dup (pc := 145) dX10_init_145 rfl ?_
  refine ev_callI (S := [.ref 47, .int 3, .ref 40]) (pc := 146) dX10_init_146 kX7_init lX10_83 vX7_init (cn_X7_init_47 E (iX10_0_41 h) rfl) rfl rfl (Nat.le_of_ble_eq_true rfl) ⟨Nat.le_of_ble_eq_true rfl, Nat.le_of_ble_eq_true rfl⟩ ⟨Nat.le_of_ble_eq_true rfl, Nat.le_of_ble_eq_true rfl⟩ ?_
  rintro _ _ ⟨rfl, rfl⟩
  refine ev_eqH (h' := iX10_0_42 h) rfl ?_
  refine ev_aast (pc := 149) dX10_init_149 rfl (Nat.le_of_ble_eq_true rfl) rfl (Nat.le_of_ble_eq_true rfl) (vp_in_nI (n := 3) (by decide) (by decide)) ?_
  refine ev_eqH (h' := sR (iX10_0_42 h) 40 (va_up ((iX10_0_42 h).2.2.2 40) 3 (some 47))) (by rfl) ?_
  refine ev_eqH (h' := iX10_0_43 h) rfl ?_
  refine ev_iinc (pc := 150) (v := 4) (L' := [some (.ref 0), some (.int 4)]) dX10_init_150 rfl (by decide) (Nat.le_of_ble_eq_true rfl) rfl ?_
  refine ev_goto (pc := 153) (tgt := 132) dX10_init_153 (by decide) ?_
  refine ev_iload_n (pc := 132) dX10_init_132 rfl ?_
  refine ev_iconst (pc := 133) (v := 4) dX10_init_133 (by decide) ?_
  refine ev_icmp_ge (pc := 134) (tgt := 156) dX10_init_134 (by decide) (fun zc134 => ?_) (fun zc134 => absurd (by decide) zc134)
  refine ev_ret (pc := 156) dX10_init_156 rfl ?_
  · exact ⟨rfl, rfl⟩
