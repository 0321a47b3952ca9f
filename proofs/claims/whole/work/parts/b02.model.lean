def iX11_49_0 (h : AH) : AH := (nwn 50 h)
def iX11_49_1 (h : AH) : AH := sR (iX11_49_0 h) 49 (va_up ((iX11_49_0 h).2.2.2 49) 0 (some 50))
def iX11_49_2 (h : AH) : AH := (nwn 51 (iX11_49_1 h))
def iX11_49_3 (h : AH) : AH := sR (sI (iX11_49_2 h) 51 (upd (upd (upd (upd (upd (upd (upd ((iX11_49_2 h).2.1 51) 0 0) 1 3) 2 8) 3 13) 4 18) 5 24) 6 28)) 49 (va_up ((iX11_49_2 h).2.2.2 49) 9 (some 51))
def iX11_49_4 (h : AH) : AH := (nwn 52 (iX11_49_3 h))
def iX11_49_5 (h : AH) : AH := sR (sI (iX11_49_4 h) 52 (upd (upd (upd (upd (upd (upd (upd (upd (upd (upd (upd (upd (upd (upd (upd (upd (upd (upd (upd (upd (upd (upd (upd (upd (upd (upd (upd (upd ((iX11_49_4 h).2.1 52) 0 114) 1 111) 2 119) 3 112) 4 97) 5 116) 6 99) 7 104) 8 103) 9 105) 10 118) 11 101) 12 115) 13 97) 14 112) 15 97) 16 114) 17 116) 18 113) 19 117) 20 97) 21 114) 22 114) 23 121) 24 98) 25 111) 26 111) 27 107)) 49 (va_up ((iX11_49_4 h).2.2.2 49) 10 (some 52))
def iX11_49_6 (h : AH) : AH := (nwn 53 (iX11_49_5 h))
def iX11_49_7 (h : AH) : AH := sR (iX11_49_6 h) 49 (va_up ((iX11_49_6 h).2.2.2 49) 11 (some 53))
def iX11_49_8 (h : AH) : AH := (nwn 54 (iX11_49_7 h))
def iX11_49_9 (h : AH) : AH := sR (iX11_49_8 h) 49 (va_up ((iX11_49_8 h).2.2.2 49) 12 (some 54))
def iX11_49_10 (h : AH) : AH := (nwn 55 (iX11_49_9 h))
def iX11_49_11 (h : AH) : AH := sR (iX11_49_10 h) 49 (va_up ((iX11_49_10 h).2.2.2 49) 13 (some 55))
def iX11_49_12 (h : AH) : AH := (nwn 56 (iX11_49_11 h))
def iX11_49_13 (h : AH) : AH := sR (iX11_49_12 h) 49 (va_up ((iX11_49_12 h).2.2.2 49) 15 (some 56))
def iX11_49_14 (h : AH) : AH := sI (iX11_49_13 h) 49 (upd ((iX11_49_13 h).2.1 49) 17 10)
def iX11_49_15 (h : AH) : AH := (nwn 57 (iX11_49_14 h))
def iX11_49_16 (h : AH) : AH := sR (sI (iX11_49_15 h) 57 (upd (upd (upd (upd (upd (upd ((iX11_49_15 h).2.1 57) 0 1) 1 1) 2 1) 3 1) 4 1) 5 1)) 49 (va_up ((iX11_49_15 h).2.2.2 49) 18 (some 57))
def iX11_49_17 (h : AH) : AH := (nwn 58 (iX11_49_16 h))
def iX11_49_18 (h : AH) : AH := sR (sI (iX11_49_17 h) 58 (upd (upd (upd (upd (upd (upd ((iX11_49_17 h).2.1 58) 0 10) 1 10) 2 10) 3 10) 4 10) 5 10)) 49 (va_up ((iX11_49_17 h).2.2.2 49) 19 (some 58))
def iX11_49_19 (h : AH) : AH := (nwn 59 (iX11_49_18 h))
def iX11_49_20 (h : AH) : AH := sR (iX11_49_19 h) 49 (va_up ((iX11_49_19 h).2.2.2 49) 20 (some 59))
def iX11_49_21 (h : AH) : AH := (nwn 60 (iX11_49_20 h))
def iX11_49_22 (h : AH) : AH := sR (iX11_49_21 h) 49 (va_up ((iX11_49_21 h).2.2.2 49) 21 (some 60))
def iX11_49_23 (h : AH) : AH := (nwn 61 (iX11_49_22 h))
def iX11_49_24 (h : AH) : AH := sR (iX11_49_23 h) 49 (va_up ((iX11_49_23 h).2.2.2 49) 22 (some 61))
def iX11_49_25 (h : AH) : AH := (nwn 62 (iX11_49_24 h))
def iX11_49_26 (h : AH) : AH := sR (iX11_49_25 h) 49 (va_up ((iX11_49_25 h).2.2.2 49) 23 (some 62))
def iX11_49_27 (h : AH) : AH := (nwn 63 (iX11_49_26 h))
def iX11_49_28 (h : AH) : AH := sR (iX11_49_27 h) 49 (va_up ((iX11_49_27 h).2.2.2 49) 25 (some 63))
def iX11_49_29 (h : AH) : AH := (nwn 64 (iX11_49_28 h))
def iX11_49_30 (h : AH) : AH := sR (iX11_49_29 h) 49 (va_up ((iX11_49_29 h).2.2.2 49) 28 (some 64))
def iX11_49_31 (h : AH) : AH := (nwn 65 (iX11_49_30 h))
def iX11_49_32 (h : AH) : AH := sR (iX11_49_31 h) 49 (va_up ((iX11_49_31 h).2.2.2 49) 29 (some 65))
def iX11_49_33 (h : AH) : AH := (nwn 66 (iX11_49_32 h))
def iX11_49_34 (h : AH) : AH := sR (iX11_49_33 h) 49 (va_up ((iX11_49_33 h).2.2.2 49) 32 (some 66))
def iX11_49_35 (h : AH) : AH := (nwn 67 (iX11_49_34 h))
def iX11_49_36 (h : AH) : AH := sR (iX11_49_35 h) 49 (va_up ((iX11_49_35 h).2.2.2 49) 33 (some 67))
def iX11_49_37 (h : AH) : AH := (nwn 68 (iX11_49_36 h))
def iX11_49_38 (h : AH) : AH := sR (iX11_49_37 h) 49 (va_up ((iX11_49_37 h).2.2.2 49) 34 (some 68))
def iX11_49_39 (h : AH) : AH := (nwn 69 (iX11_49_38 h))
def iX11_49_40 (h : AH) : AH := sR (sI (iX11_49_39 h) 69 (upd (upd (upd (upd (upd (upd (upd (upd (upd (upd (upd (upd (upd (upd (upd (upd (upd (upd (upd (upd (upd (upd (upd (upd (upd (upd (upd (upd (upd (upd (upd (upd (upd (upd (upd (upd (upd (upd (upd (upd (upd (upd (upd (upd (upd (upd (upd (upd (upd (upd (upd (upd (upd (upd (upd (upd (upd (upd (upd (upd (upd (upd (upd (upd ((iX11_49_39 h).2.1 69) 0 (-1)) 1 (-1)) 2 (-1)) 3 (-1)) 4 (-1)) 5 (-1)) 6 (-1)) 7 (-1)) 8 (-1)) 9 (-1)) 10 (-1)) 11 (-1)) 12 (-1)) 13 (-1)) 14 (-1)) 15 (-1)) 16 (-1)) 17 (-1)) 18 (-1)) 19 (-1)) 20 (-1)) 21 (-1)) 22 (-1)) 23 (-1)) 24 (-1)) 25 (-1)) 26 (-1)) 27 (-1)) 28 (-1)) 29 (-1)) 30 (-1)) 31 (-1)) 32 (-1)) 33 (-1)) 34 (-1)) 35 (-1)) 36 (-1)) 37 (-1)) 38 (-1)) 39 (-1)) 40 (-1)) 41 (-1)) 42 (-1)) 43 (-1)) 44 (-1)) 45 (-1)) 46 (-1)) 47 (-1)) 48 (-1)) 49 (-1)) 50 (-1)) 51 (-1)) 52 (-1)) 53 (-1)) 54 (-1)) 55 (-1)) 56 (-1)) 57 (-1)) 58 (-1)) 59 (-1)) 60 (-1)) 61 (-1)) 62 (-1)) 63 (-1))) 49 (va_up ((iX11_49_39 h).2.2.2 49) 36 (some 69))
def iX11_49_41 (h : AH) : AH := (nwn 70 (iX11_49_40 h))
def iX11_49_42 (h : AH) : AH := sR (iX11_49_41 h) 49 (va_up ((iX11_49_41 h).2.2.2 49) 42 (some 70))
def iX11_49_43 (h : AH) : AH := (nwn 71 (iX11_49_42 h))
def iX11_49_44 (h : AH) : AH := sR (iX11_49_43 h) 49 (va_up ((iX11_49_43 h).2.2.2 49) 43 (some 71))
def iX11_49_45 (h : AH) : AH := (nwn 72 (iX11_49_44 h))
def iX11_49_46 (h : AH) : AH := sR (iX11_49_45 h) 49 (va_up ((iX11_49_45 h).2.2.2 49) 44 (some 72))
def iX11_49_47 (h : AH) : AH := (nwn 73 (iX11_49_46 h))
def iX11_49_48 (h : AH) : AH := sR (sI (iX11_49_47 h) 73 (upd (upd (upd (upd ((iX11_49_47 h).2.1 73) 0 (-4)) 1 (-4)) 2 (-4)) 3 (-4))) 49 (va_up ((iX11_49_47 h).2.2.2 49) 45 (some 73))
def iX11_49_49 (h : AH) : AH := (nwn 74 (iX11_49_48 h))
def iX11_49_50 (h : AH) : AH := sR (iX11_49_49 h) 49 (va_up ((iX11_49_49 h).2.2.2 49) 46 (some 74))
def iX11_49_51 (h : AH) : AH := (nwn 75 (iX11_49_50 h))
def iX11_49_52 (h : AH) : AH := sR (iX11_49_51 h) 49 (va_up ((iX11_49_51 h).2.2.2 49) 47 (some 75))
def iX11_49 (h : AH) : AH := (iX11_49_52 h)
theorem cn_X11_init_49 (E : ME) (h : AH)  (hn : h.1 = 50) : Con E mX11_init 1 26 5323 [.ref 49] h (fun r h' => r = none ∧ h' = iX11_49 h) := by
  refine con_of2 (L := [some (.ref 49)]) rfl (Nat.le_of_ble_eq_true rfl) rfl ?_
  refine ev_aload_n (pc := 0) dX11_init_0 rfl ?_
  refine ev_objInit (pc := 1) dX11_init_1 oX11_1 oi_inst oi_code (Nat.le_of_ble_eq_true rfl) (Nat.le_of_ble_eq_true rfl) (Nat.le_of_ble_eq_true rfl) ?_
  refine ev_aload_n (pc := 4) dX11_init_4 rfl ?_
  refine ev_sipush (pc := 5) (v := 400) dX11_init_5 (by decide) ?_
  refine ev_nwa_i (pc := 8) (zk := 50) (N := 400) hn dX11_init_8 ac_int rfl (by decide) (by decide) (by decide) (by decide) ⟨Nat.le_of_ble_eq_true rfl, Nat.le_of_ble_eq_true rfl⟩ ?_
  refine ev_eqH (h' := iX11_49_0 h) rfl ?_
  refine ev_putR (pc := 10) dX11_init_10 fX11_7 rfl (Nat.le_of_ble_eq_true rfl) (Or.inr ⟨rfl, rfl⟩) ⟨rfl, rfl⟩ ?_
  refine ev_eqH (h' := sR (iX11_49_0 h) 49 (va_up ((iX11_49_0 h).2.2.2 49) 0 (some 50))) (by rfl) ?_
  refine ev_eqH (h' := iX11_49_1 h) rfl ?_
  refine ev_aload_n (pc := 13) dX11_init_13 rfl ?_
  refine ev_bipush (pc := 14) (v := 7) dX11_init_14 (by decide) ?_
  refine ev_nwa_i (pc := 16) (zk := 51) (N := 7) rfl dX11_init_16 ac_int rfl (by decide) (by decide) (by decide) (by decide) ⟨Nat.le_of_ble_eq_true rfl, Nat.le_of_ble_eq_true rfl⟩ ?_
  refine ev_eqH (h' := iX11_49_2 h) rfl ?_
  refine ev_dup (pc := 18) dX11_init_18 rfl ?_
  refine ev_iconst (pc := 19) (v := 0) dX11_init_19 (by decide) ?_
  refine ev_iconst (pc := 20) (v := 0) dX11_init_20 (by decide) ?_
  refine ev_iast (pc := 21) dX11_init_21 rfl (Nat.le_of_ble_eq_true rfl) (vp_in_nI (n := 0) (by decide) (by decide)) ?_
  refine ev_eqH (h' := sI (iX11_49_2 h) 51 (upd ((iX11_49_2 h).2.1 51) 0 0)) (by rfl) ?_
  refine ev_dup (pc := 22) dX11_init_22 rfl ?_
  refine ev_iconst (pc := 23) (v := 1) dX11_init_23 (by decide) ?_
  refine ev_iconst (pc := 24) (v := 3) dX11_init_24 (by decide) ?_
  refine ev_iast (pc := 25) dX11_init_25 rfl (Nat.le_of_ble_eq_true rfl) (vp_in_nI (n := 1) (by decide) (by decide)) ?_
  refine ev_eqH (h' := sI (iX11_49_2 h) 51 (upd (upd ((iX11_49_2 h).2.1 51) 0 0) 1 3)) (by exact sI_sI _ _ _ _) ?_
  refine ev_dup (pc := 26) dX11_init_26 rfl ?_
  refine ev_iconst (pc := 27) (v := 2) dX11_init_27 (by decide) ?_
  refine ev_bipush (pc := 28) (v := 8) dX11_init_28 (by decide) ?_
  refine ev_iast (pc := 30) dX11_init_30 rfl (Nat.le_of_ble_eq_true rfl) (vp_in_nI (n := 2) (by decide) (by decide)) ?_
  refine ev_eqH (h' := sI (iX11_49_2 h) 51 (upd (upd (upd ((iX11_49_2 h).2.1 51) 0 0) 1 3) 2 8)) (by exact sI_sI _ _ _ _) ?_
  refine ev_dup (pc := 31) dX11_init_31 rfl ?_
  refine ev_iconst (pc := 32) (v := 3) dX11_init_32 (by decide) ?_
  refine ev_bipush (pc := 33) (v := 13) dX11_init_33 (by decide) ?_
  refine ev_iast (pc := 35) dX11_init_35 rfl (Nat.le_of_ble_eq_true rfl) (vp_in_nI (n := 3) (by decide) (by decide)) ?_
  refine ev_eqH (h' := sI (iX11_49_2 h) 51 (upd (upd (upd (upd ((iX11_49_2 h).2.1 51) 0 0) 1 3) 2 8) 3 13)) (by exact sI_sI _ _ _ _) ?_
  refine ev_dup (pc := 36) dX11_init_36 rfl ?_
  refine ev_iconst (pc := 37) (v := 4) dX11_init_37 (by decide) ?_
  refine ev_bipush (pc := 38) (v := 18) dX11_init_38 (by decide) ?_
  refine ev_iast (pc := 40) dX11_init_40 rfl (Nat.le_of_ble_eq_true rfl) (vp_in_nI (n := 4) (by decide) (by decide)) ?_
  refine ev_eqH (h' := sI (iX11_49_2 h) 51 (upd (upd (upd (upd (upd ((iX11_49_2 h).2.1 51) 0 0) 1 3) 2 8) 3 13) 4 18)) (by exact sI_sI _ _ _ _) ?_
  refine ev_dup (pc := 41) dX11_init_41 rfl ?_
  refine ev_iconst (pc := 42) (v := 5) dX11_init_42 (by decide) ?_
  refine ev_bipush (pc := 43) (v := 24) dX11_init_43 (by decide) ?_
  refine ev_iast (pc := 45) dX11_init_45 rfl (Nat.le_of_ble_eq_true rfl) (vp_in_nI (n := 5) (by decide) (by decide)) ?_
  refine ev_eqH (h' := sI (iX11_49_2 h) 51 (upd (upd (upd (upd (upd (upd ((iX11_49_2 h).2.1 51) 0 0) 1 3) 2 8) 3 13) 4 18) 5 24)) (by exact sI_sI _ _ _ _) ?_
  refine ev_dup (pc := 46) dX11_init_46 rfl ?_
  refine ev_bipush (pc := 47) (v := 6) dX11_init_47 (by decide) ?_
  refine ev_bipush (pc := 49) (v := 28) dX11_init_49 (by decide) ?_
  refine ev_iast (pc := 51) dX11_init_51 rfl (Nat.le_of_ble_eq_true rfl) (vp_in_nI (n := 6) (by decide) (by decide)) ?_
  refine ev_eqH (h' := sI (iX11_49_2 h) 51 (upd (upd (upd (upd (upd (upd (upd ((iX11_49_2 h).2.1 51) 0 0) 1 3) 2 8) 3 13) 4 18) 5 24) 6 28)) (by exact sI_sI _ _ _ _) ?_
  refine ev_putR (pc := 52) dX11_init_52 fX11_13 rfl (Nat.le_of_ble_eq_true rfl) (Or.inr ⟨rfl, rfl⟩) ⟨rfl, rfl⟩ ?_
  refine ev_eqH (h' := sR (sI (iX11_49_2 h) 51 (upd (upd (upd (upd (upd (upd (upd ((iX11_49_2 h).2.1 51) 0 0) 1 3) 2 8) 3 13) 4 18) 5 24) 6 28)) 49 (va_up ((iX11_49_2 h).2.2.2 49) 9 (some 51))) (by rfl) ?_
  refine ev_eqH (h' := iX11_49_3 h) rfl ?_
  refine ev_aload_n (pc := 55) dX11_init_55 rfl ?_
  refine ev_bipush (pc := 56) (v := 28) dX11_init_56 (by decide) ?_
  refine ev_nwa_i (pc := 58) (zk := 52) (N := 28) rfl dX11_init_58 ac_int rfl (by decide) (by decide) (by decide) (by decide) ⟨Nat.le_of_ble_eq_true rfl, Nat.le_of_ble_eq_true rfl⟩ ?_
  refine ev_eqH (h' := iX11_49_4 h) rfl ?_
  refine ev_dup (pc := 60) dX11_init_60 rfl ?_
  refine ev_iconst (pc := 61) (v := 0) dX11_init_61 (by decide) ?_
  refine ev_bipush (pc := 62) (v := 114) dX11_init_62 (by decide) ?_
  refine ev_iast (pc := 64) dX11_init_64 rfl (Nat.le_of_ble_eq_true rfl) (vp_in_nI (n := 0) (by decide) (by decide)) ?_
  refine ev_eqH (h' := sI (iX11_49_4 h) 52 (upd ((iX11_49_4 h).2.1 52) 0 114)) (by rfl) ?_
  refine ev_dup (pc := 65) dX11_init_65 rfl ?_
  refine ev_iconst (pc := 66) (v := 1) dX11_init_66 (by decide) ?_
  refine ev_bipush (pc := 67) (v := 111) dX11_init_67 (by decide) ?_
  refine ev_iast (pc := 69) dX11_init_69 rfl (Nat.le_of_ble_eq_true rfl) (vp_in_nI (n := 1) (by decide) (by decide)) ?_
  refine ev_eqH (h' := sI (iX11_49_4 h) 52 (upd (upd ((iX11_49_4 h).2.1 52) 0 114) 1 111)) (by exact sI_sI _ _ _ _) ?_
  refine ev_dup (pc := 70) dX11_init_70 rfl ?_
  refine ev_iconst (pc := 71) (v := 2) dX11_init_71 (by decide) ?_
  refine ev_bipush (pc := 72) (v := 119) dX11_init_72 (by decide) ?_
  refine ev_iast (pc := 74) dX11_init_74 rfl (Nat.le_of_ble_eq_true rfl) (vp_in_nI (n := 2) (by decide) (by decide)) ?_
  refine ev_eqH (h' := sI (iX11_49_4 h) 52 (upd (upd (upd ((iX11_49_4 h).2.1 52) 0 114) 1 111) 2 119)) (by exact sI_sI _ _ _ _) ?_
  refine ev_dup (pc := 75) dX11_init_75 rfl ?_
  refine ev_iconst (pc := 76) (v := 3) dX11_init_76 (by decide) ?_
  refine ev_bipush (pc := 77) (v := 112) dX11_init_77 (by decide) ?_
  refine ev_iast (pc := 79) dX11_init_79 rfl (Nat.le_of_ble_eq_true rfl) (vp_in_nI (n := 3) (by decide) (by decide)) ?_
  refine ev_eqH (h' := sI (iX11_49_4 h) 52 (upd (upd (upd (upd ((iX11_49_4 h).2.1 52) 0 114) 1 111) 2 119) 3 112)) (by exact sI_sI _ _ _ _) ?_
  refine ev_dup (pc := 80) dX11_init_80 rfl ?_
  refine ev_iconst (pc := 81) (v := 4) dX11_init_81 (by decide) ?_
  refine ev_bipush (pc := 82) (v := 97) dX11_init_82 (by decide) ?_
  refine ev_iast (pc := 84) dX11_init_84 rfl (Nat.le_of_ble_eq_true rfl) (vp_in_nI (n := 4) (by decide) (by decide)) ?_
  refine ev_eqH (h' := sI (iX11_49_4 h) 52 (upd (upd (upd (upd (upd ((iX11_49_4 h).2.1 52) 0 114) 1 111) 2 119) 3 112) 4 97)) (by exact sI_sI _ _ _ _) ?_
  refine ev_dup (pc := 85) dX11_init_85 rfl ?_
  refine ev_iconst (pc := 86) (v := 5) dX11_init_86 (by decide) ?_
  refine ev_bipush (pc := 87) (v := 116) dX11_init_87 (by decide) ?_
  refine ev_iast (pc := 89) dX11_init_89 rfl (Nat.le_of_ble_eq_true rfl) (vp_in_nI (n := 5) (by decide) (by decide)) ?_
  refine ev_eqH (h' := sI (iX11_49_4 h) 52 (upd (upd (upd (upd (upd (upd ((iX11_49_4 h).2.1 52) 0 114) 1 111) 2 119) 3 112) 4 97) 5 116)) (by exact sI_sI _ _ _ _) ?_
  refine ev_dup (pc := 90) dX11_init_90 rfl ?_
  refine ev_bipush (pc := 91) (v := 6) dX11_init_91 (by decide) ?_
  refine ev_bipush (pc := 93) (v := 99) dX11_init_93 (by decide) ?_
  refine ev_iast (pc := 95) dX11_init_95 rfl (Nat.le_of_ble_eq_true rfl) (vp_in_nI (n := 6) (by decide) (by decide)) ?_
  refine ev_eqH (h' := sI (iX11_49_4 h) 52 (upd (upd (upd (upd (upd (upd (upd ((iX11_49_4 h).2.1 52) 0 114) 1 111) 2 119) 3 112) 4 97) 5 116) 6 99)) (by exact sI_sI _ _ _ _) ?_
  refine ev_dup (pc := 96) dX11_init_96 rfl ?_
  refine ev_bipush (pc := 97) (v := 7) dX11_init_97 (by decide) ?_
  refine ev_bipush (pc := 99) (v := 104) dX11_init_99 (by decide) ?_
  refine ev_iast (pc := 101) dX11_init_101 rfl (Nat.le_of_ble_eq_true rfl) (vp_in_nI (n := 7) (by decide) (by decide)) ?_
  refine ev_eqH (h' := sI (iX11_49_4 h) 52 (upd (upd (upd (upd (upd (upd (upd (upd ((iX11_49_4 h).2.1 52) 0 114) 1 111) 2 119) 3 112) 4 97) 5 116) 6 99) 7 104)) (by exact sI_sI _ _ _ _) ?_
  refine ev_dup (pc := 102) dX11_init_102 rfl ?_
  refine ev_bipush (pc := 103) (v := 8) dX11_init_103 (by decide) ?_
  refine ev_bipush (pc := 105) (v := 103) dX11_init_105 (by decide) ?_
  refine ev_iast (pc := 107) dX11_init_107 rfl (Nat.le_of_ble_eq_true rfl) (vp_in_nI (n := 8) (by decide) (by decide)) ?_
  refine ev_eqH (h' := sI (iX11_49_4 h) 52 (upd (upd (upd (upd (upd (upd (upd (upd (upd ((iX11_49_4 h).2.1 52) 0 114) 1 111) 2 119) 3 112) 4 97) 5 116) 6 99) 7 104) 8 103)) (by exact sI_sI _ _ _ _) ?_
  refine ev_dup (pc := 108) dX11_init_108 rfl ?_
  refine ev_bipush (pc := 109) (v := 9) dX11_init_109 (by decide) ?_
  refine ev_bipush (pc := 111) (v := 105) dX11_init_111 (by decide) ?_
  refine ev_iast (pc := 113) dX11_init_113 rfl (Nat.le_of_ble_eq_true rfl) (vp_in_nI (n := 9) (by decide) (by decide)) ?_
  refine ev_eqH (h' := sI (iX11_49_4 h) 52 (upd (upd (upd (upd (upd (upd (upd (upd (upd (upd ((iX11_49_4 h).2.1 52) 0 114) 1 111) 2 119) 3 112) 4 97) 5 116) 6 99) 7 104) 8 103) 9 105)) (by exact sI_sI _ _ _ _) ?_
  refine ev_dup (pc := 114) dX11_init_114 rfl ?_
  refine ev_bipush (pc := 115) (v := 10) dX11_init_115 (by decide) ?_
  refine ev_bipush (pc := 117) (v := 118) dX11_init_117 (by decide) ?_
  refine ev_iast (pc := 119) dX11_init_119 rfl (Nat.le_of_ble_eq_true rfl) (vp_in_nI (n := 10) (by decide) (by decide)) ?_
  refine ev_eqH (h' := sI (iX11_49_4 h) 52 (upd (upd (upd (upd (upd (upd (upd (upd (upd (upd (upd ((iX11_49_4 h).2.1 52) 0 114) 1 111) 2 119) 3 112) 4 97) 5 116) 6 99) 7 104) 8 103) 9 105) 10 118)) (by exact sI_sI _ _ _ _) ?_
  refine ev_dup (pc := 120) dX11_init_120 rfl ?_
  refine ev_bipush (pc := 121) (v := 11) dX11_init_121 (by decide) ?_
  refine ev_bipush (pc := 123) (v := 101) dX11_init_123 (by decide) ?_
  refine ev_iast (pc := 125) dX11_init_125 rfl (Nat.le_of_ble_eq_true rfl) (vp_in_nI (n := 11) (by decide) (by decide)) ?_
  refine ev_eqH (h' := sI (iX11_49_4 h) 52 (upd (upd (upd (upd (upd (upd (upd (upd (upd (upd (upd (upd ((iX11_49_4 h).2.1 52) 0 114) 1 111) 2 119) 3 112) 4 97) 5 116) 6 99) 7 104) 8 103) 9 105) 10 118) 11 101)) (by exact sI_sI _ _ _ _) ?_
  refine ev_dup (pc := 126) dX11_init_126 rfl ?_
  refine ev_bipush (pc := 127) (v := 12) dX11_init_127 (by decide) ?_
  refine ev_bipush (pc := 129) (v := 115) dX11_init_129 (by decide) ?_
  refine ev_iast (pc := 131) dX11_init_131 rfl (Nat.le_of_ble_eq_true rfl) (vp_in_nI (n := 12) (by decide) (by decide)) ?_
  refine ev_eqH (h' := sI (iX11_49_4 h) 52 (upd (upd (upd (upd (upd (upd (upd (upd (upd (upd (upd (upd (upd ((iX11_49_4 h).2.1 52) 0 114) 1 111) 2 119) 3 112) 4 97) 5 116) 6 99) 7 104) 8 103) 9 105) 10 118) 11 101) 12 115)) (by exact sI_sI _ _ _ _) ?_
  refine ev_dup (pc := 132) dX11_init_132 rfl ?_
  refine ev_bipush (pc := 133) (v := 13) dX11_init_133 (by decide) ?_
  refine ev_bipush (pc := 135) (v := 97) dX11_init_135 (by decide) ?_
  refine ev_iast (pc := 137) dX11_init_137 rfl (Nat.le_of_ble_eq_true rfl) (vp_in_nI (n := 13) (by decide) (by decide)) ?_
  refine ev_eqH (h' := sI (iX11_49_4 h) 52 (upd (upd (upd (upd (upd (upd (upd (upd (upd (upd (upd (upd (upd (upd ((iX11_49_4 h).2.1 52) 0 114) 1 111) 2 119) 3 112) 4 97) 5 116) 6 99) 7 104) 8 103) 9 105) 10 118) 11 101) 12 115) 13 97)) (by exact sI_sI _ _ _ _) ?_
  refine ev_dup (pc := 138) dX11_init_138 rfl ?_
  refine ev_bipush (pc := 139) (v := 14) dX11_init_139 (by decide) ?_
  refine ev_bipush (pc := 141) (v := 112) dX11_init_141 (by decide) ?_
  refine ev_iast (pc := 143) dX11_init_143 rfl (Nat.le_of_ble_eq_true rfl) (vp_in_nI (n := 14) (by decide) (by decide)) ?_
  refine ev_eqH (h' := sI (iX11_49_4 h) 52 (upd (upd (upd (upd (upd (upd (upd (upd (upd (upd (upd (upd (upd (upd (upd ((iX11_49_4 h).2.1 52) 0 114) 1 111) 2 119) 3 112) 4 97) 5 116) 6 99) 7 104) 8 103) 9 105) 10 118) 11 101) 12 115) 13 97) 14 112)) (by exact sI_sI _ _ _ _) ?_
  refine ev_dup (pc := 144) dX11_init_144 rfl ?_
  refine ev_bipush (pc := 145) (v := 15) dX11_init_145 (by decide) ?_
  refine ev_bipush (pc := 147) (v := 97) dX11_init_147 (by decide) ?_
  refine ev_iast (pc := 149) dX11_init_149 rfl (Nat.le_of_ble_eq_true rfl) (vp_in_nI (n := 15) (by decide) (by decide)) ?_
  refine ev_eqH (h' := sI (iX11_49_4 h) 52 (upd (upd (upd (upd (upd (upd (upd (upd (upd (upd (upd (upd (upd (upd (upd (upd ((iX11_49_4 h).2.1 52) 0 114) 1 111) 2 119) 3 112) 4 97) 5 116) 6 99) 7 104) 8 103) 9 105) 10 118) 11 101) 12 115) 13 97) 14 112) 15 97)) (by exact sI_sI _ _ _ _) ?_
  refine ev_dup (pc := 150) dX11_init_150 rfl ?_
  refine ev_bipush (pc := 151) (v := 16) dX11_init_151 (by decide) ?_
  refine ev_bipush (pc := 153) (v := 114) dX11_init_153 (by decide) ?_
  refine ev_iast (pc := 155) dX11_init_155 rfl (Nat.le_of_ble_eq_true rfl) (vp_in_nI (n := 16) (by decide) (by decide)) ?_
  refine ev_eqH (h' := sI (iX11_49_4 h) 52 (upd (upd (upd (upd (upd (upd (upd (upd (upd (upd (upd (upd (upd (upd (upd (upd (upd ((iX11_49_4 h).2.1 52) 0 114) 1 111) 2 119) 3 112) 4 97) 5 116) 6 99) 7 104) 8 103) 9 105) 10 118) 11 101) 12 115) 13 97) 14 112) 15 97) 16 114)) (by exact sI_sI _ _ _ _) ?_
  refine ev_dup (pc := 156) dX11_init_156 rfl ?_
  refine ev_bipush (pc := 157) (v := 17) dX11_init_157 (by decide) ?_
  refine ev_bipush (pc := 159) (v := 116) dX11_init_159 (by decide) ?_
  refine ev_iast (pc := 161) dX11_init_161 rfl (Nat.le_of_ble_eq_true rfl) (vp_in_nI (n := 17) (by decide) (by decide)) ?_
  refine ev_eqH (h' := sI (iX11_49_4 h) 52 (upd (upd (upd (upd (upd (upd (upd (upd (upd (upd (upd (upd (upd (upd (upd (upd (upd (upd ((iX11_49_4 h).2.1 52) 0 114) 1 111) 2 119) 3 112) 4 97) 5 116) 6 99) 7 104) 8 103) 9 105) 10 118) 11 101) 12 115) 13 97) 14 112) 15 97) 16 114) 17 116)) (by exact sI_sI _ _ _ _) ?_
  refine ev_dup (pc := 162) dX11_init_162 rfl ?_
  refine ev_bipush (pc := 163) (v := 18) dX11_init_163 (by decide) ?_
  refine ev_bipush (pc := 165) (v := 113) dX11_init_165 (by decide) ?_
  refine ev_iast (pc := 167) dX11_init_167 rfl (Nat.le_of_ble_eq_true rfl) (vp_in_nI (n := 18) (by decide) (by decide)) ?_
  refine ev_eqH (h' := sI (iX11_49_4 h) 52 (upd (upd (upd (upd (upd (upd (upd (upd (upd (upd (upd (upd (upd (upd (upd (upd (upd (upd (upd ((iX11_49_4 h).2.1 52) 0 114) 1 111) 2 119) 3 112) 4 97) 5 116) 6 99) 7 104) 8 103) 9 105) 10 118) 11 101) 12 115) 13 97) 14 112) 15 97) 16 114) 17 116) 18 113)) (by exact sI_sI _ _ _ _) ?_
  refine ev_dup (pc := 168) dX11_init_168 rfl ?_
  refine ev_bipush (pc := 169) (v := 19) dX11_init_169 (by decide) ?_
  refine ev_bipush (pc := 171) (v := 117) dX11_init_171 (by decide) ?_
  refine ev_iast (pc := 173) dX11_init_173 rfl (Nat.le_of_ble_eq_true rfl) (vp_in_nI (n := 19) (by decide) (by decide)) ?_
  refine ev_eqH (h' := sI (iX11_49_4 h) 52 (upd (upd (upd (upd (upd (upd (upd (upd (upd (upd (upd (upd (upd (upd (upd (upd (upd (upd (upd (upd ((iX11_49_4 h).2.1 52) 0 114) 1 111) 2 119) 3 112) 4 97) 5 116) 6 99) 7 104) 8 103) 9 105) 10 118) 11 101) 12 115) 13 97) 14 112) 15 97) 16 114) 17 116) 18 113) 19 117)) (by exact sI_sI _ _ _ _) ?_
  refine ev_dup (pc := 174) dX11_init_174 rfl ?_
  refine ev_bipush (pc := 175) (v := 20) dX11_init_175 (by decide) ?_
  refine ev_bipush (pc := 177) (v := 97) dX11_init_177 (by decide) ?_
  refine ev_iast (pc := 179) dX11_init_179 rfl (Nat.le_of_ble_eq_true rfl) (vp_in_nI (n := 20) (by decide) (by decide)) ?_
  refine ev_eqH (h' := sI (iX11_49_4 h) 52 (upd (upd (upd (upd (upd (upd (upd (upd (upd (upd (upd (upd (upd (upd (upd (upd (upd (upd (upd (upd (upd ((iX11_49_4 h).2.1 52) 0 114) 1 111) 2 119) 3 112) 4 97) 5 116) 6 99) 7 104) 8 103) 9 105) 10 118) 11 101) 12 115) 13 97) 14 112) 15 97) 16 114) 17 116) 18 113) 19 117) 20 97)) (by exact sI_sI _ _ _ _) ?_
  refine ev_dup (pc := 180) dX11_init_180 rfl ?_
  refine ev_bipush (pc := 181) (v := 21) dX11_init_181 (by decide) ?_
  refine ev_bipush (pc := 183) (v := 114) dX11_init_183 (by decide) ?_
  refine ev_iast (pc := 185) dX11_init_185 rfl (Nat.le_of_ble_eq_true rfl) (vp_in_nI (n := 21) (by decide) (by decide)) ?_
  refine ev_eqH (h' := sI (iX11_49_4 h) 52 (upd (upd (upd (upd (upd (upd (upd (upd (upd (upd (upd (upd (upd (upd (upd (upd (upd (upd (upd (upd (upd (upd ((iX11_49_4 h).2.1 52) 0 114) 1 111) 2 119) 3 112) 4 97) 5 116) 6 99) 7 104) 8 103) 9 105) 10 118) 11 101) 12 115) 13 97) 14 112) 15 97) 16 114) 17 116) 18 113) 19 117) 20 97) 21 114)) (by exact sI_sI _ _ _ _) ?_
  refine ev_dup (pc := 186) dX11_init_186 rfl ?_
  refine ev_bipush (pc := 187) (v := 22) dX11_init_187 (by decide) ?_
  refine ev_bipush (pc := 189) (v := 114) dX11_init_189 (by decide) ?_
  refine ev_iast (pc := 191) dX11_init_191 rfl (Nat.le_of_ble_eq_true rfl) (vp_in_nI (n := 22) (by decide) (by decide)) ?_
  refine ev_eqH (h' := sI (iX11_49_4 h) 52 (upd (upd (upd (upd (upd (upd (upd (upd (upd (upd (upd (upd (upd (upd (upd (upd (upd (upd (upd (upd (upd (upd (upd ((iX11_49_4 h).2.1 52) 0 114) 1 111) 2 119) 3 112) 4 97) 5 116) 6 99) 7 104) 8 103) 9 105) 10 118) 11 101) 12 115) 13 97) 14 112) 15 97) 16 114) 17 116) 18 113) 19 117) 20 97) 21 114) 22 114)) (by exact sI_sI _ _ _ _) ?_
  refine ev_dup (pc := 192) dX11_init_192 rfl ?_
  refine ev_bipush (pc := 193) (v := 23) dX11_init_193 (by decide) ?_
  refine ev_bipush (pc := 195) (v := 121) dX11_init_195 (by decide) ?_
  refine ev_iast (pc := 197) dX11_init_197 rfl (Nat.le_of_ble_eq_true rfl) (vp_in_nI (n := 23) (by decide) (by decide)) ?_
  refine ev_eqH (h' := sI (iX11_49_4 h) 52 (upd (upd (upd (upd (upd (upd (upd (upd (upd (upd (upd (upd (upd (upd (upd (upd (upd (upd (upd (upd (upd (upd (upd (upd ((iX11_49_4 h).2.1 52) 0 114) 1 111) 2 119) 3 112) 4 97) 5 116) 6 99) 7 104) 8 103) 9 105) 10 118) 11 101) 12 115) 13 97) 14 112) 15 97) 16 114) 17 116) 18 113) 19 117) 20 97) 21 114) 22 114) 23 121)) (by exact sI_sI _ _ _ _) ?_
  refine ev_dup (pc := 198) dX11_init_198 rfl ?_
  refine ev_bipush (pc := 199) (v := 24) dX11_init_199 (by decide) ?_
  refine ev_bipush (pc := 201) (v := 98) dX11_init_201 (by decide) ?_
  refine ev_iast (pc := 203) dX11_init_203 rfl (Nat.le_of_ble_eq_true rfl) (vp_in_nI (n := 24) (by decide) (by decide)) ?_
  refine ev_eqH (h' := sI (iX11_49_4 h) 52 (upd (upd (upd (upd (upd (upd (upd (upd (upd (upd (upd (upd (upd (upd (upd (upd (upd (upd (upd (upd (upd (upd (upd (upd (upd ((iX11_49_4 h).2.1 52) 0 114) 1 111) 2 119) 3 112) 4 97) 5 116) 6 99) 7 104) 8 103) 9 105) 10 118) 11 101) 12 115) 13 97) 14 112) 15 97) 16 114) 17 116) 18 113) 19 117) 20 97) 21 114) 22 114) 23 121) 24 98)) (by exact sI_sI _ _ _ _) ?_
  refine ev_dup (pc := 204) dX11_init_204 rfl ?_
  refine ev_bipush (pc := 205) (v := 25) dX11_init_205 (by decide) ?_
  refine ev_bipush (pc := 207) (v := 111) dX11_init_207 (by decide) ?_
  refine ev_iast (pc := 209) dX11_init_209 rfl (Nat.le_of_ble_eq_true rfl) (vp_in_nI (n := 25) (by decide) (by decide)) ?_
  refine ev_eqH (h' := sI (iX11_49_4 h) 52 (upd (upd (upd (upd (upd (upd (upd (upd (upd (upd (upd (upd (upd (upd (upd (upd (upd (upd (upd (upd (upd (upd (upd (upd (upd (upd ((iX11_49_4 h).2.1 52) 0 114) 1 111) 2 119) 3 112) 4 97) 5 116) 6 99) 7 104) 8 103) 9 105) 10 118) 11 101) 12 115) 13 97) 14 112) 15 97) 16 114) 17 116) 18 113) 19 117) 20 97) 21 114) 22 114) 23 121) 24 98) 25 111)) (by exact sI_sI _ _ _ _) ?_
  refine ev_dup (pc := 210) dX11_init_210 rfl ?_
  refine ev_bipush (pc := 211) (v := 26) dX11_init_211 (by decide) ?_
  refine ev_bipush (pc := 213) (v := 111) dX11_init_213 (by decide) ?_
  refine ev_iast (pc := 215) dX11_init_215 rfl (Nat.le_of_ble_eq_true rfl) (vp_in_nI (n := 26) (by decide) (by decide)) ?_
  refine ev_eqH (h' := sI (iX11_49_4 h) 52 (upd (upd (upd (upd (upd (upd (upd (upd (upd (upd (upd (upd (upd (upd (upd (upd (upd (upd (upd (upd (upd (upd (upd (upd (upd (upd (upd ((iX11_49_4 h).2.1 52) 0 114) 1 111) 2 119) 3 112) 4 97) 5 116) 6 99) 7 104) 8 103) 9 105) 10 118) 11 101) 12 115) 13 97) 14 112) 15 97) 16 114) 17 116) 18 113) 19 117) 20 97) 21 114) 22 114) 23 121) 24 98) 25 111) 26 111)) (by exact sI_sI _ _ _ _) ?_
  refine ev_dup (pc := 216) dX11_init_216 rfl ?_
  refine ev_bipush (pc := 217) (v := 27) dX11_init_217 (by decide) ?_
  refine ev_bipush (pc := 219) (v := 107) dX11_init_219 (by decide) ?_
  refine ev_iast (pc := 221) dX11_init_221 rfl (Nat.le_of_ble_eq_true rfl) (vp_in_nI (n := 27) (by decide) (by decide)) ?_
  refine ev_eqH (h' := sI (iX11_49_4 h) 52 (upd (upd (upd (upd (upd (upd (upd (upd (upd (upd (upd (upd (upd (upd (upd (upd (upd (upd (upd (upd (upd (upd (upd (upd (upd (upd (upd (upd ((iX11_49_4 h).2.1 52) 0 114) 1 111) 2 119) 3 112) 4 97) 5 116) 6 99) 7 104) 8 103) 9 105) 10 118) 11 101) 12 115) 13 97) 14 112) 15 97) 16 114) 17 116) 18 113) 19 117) 20 97) 21 114) 22 114) 23 121) 24 98) 25 111) 26 111) 27 107)) (by exact sI_sI _ _ _ _) ?_
  refine ev_putR (pc := 222) dX11_init_222 fX11_16 rfl (Nat.le_of_ble_eq_true rfl) (Or.inr ⟨rfl, rfl⟩) ⟨rfl, rfl⟩ ?_
  refine ev_eqH (h' := sR (sI (iX11_49_4 h) 52 (upd (upd (upd (upd (upd (upd (upd (upd (upd (upd (upd (upd (upd (upd (upd (upd (upd (upd (upd (upd (upd (upd (upd (upd (upd (upd (upd (upd ((iX11_49_4 h).2.1 52) 0 114) 1 111) 2 119) 3 112) 4 97) 5 116) 6 99) 7 104) 8 103) 9 105) 10 118) 11 101) 12 115) 13 97) 14 112) 15 97) 16 114) 17 116) 18 113) 19 117) 20 97) 21 114) 22 114) 23 121) 24 98) 25 111) 26 111) 27 107)) 49 (va_up ((iX11_49_4 h).2.2.2 49) 10 (some 52))) (by rfl) ?_
  refine ev_eqH (h' := iX11_49_5 h) rfl ?_
  refine ev_aload_n (pc := 225) dX11_init_225 rfl ?_
  refine ev_bipush (pc := 226) (v := 12) dX11_init_226 (by decide) ?_
  refine ev_nwa_i (pc := 228) (zk := 53) (N := 12) rfl dX11_init_228 ac_int rfl (by decide) (by decide) (by decide) (by decide) ⟨Nat.le_of_ble_eq_true rfl, Nat.le_of_ble_eq_true rfl⟩ ?_
  refine ev_eqH (h' := iX11_49_6 h) rfl ?_
  refine ev_putR (pc := 230) dX11_init_230 fX11_19 rfl (Nat.le_of_ble_eq_true rfl) (Or.inr ⟨rfl, rfl⟩) ⟨rfl, rfl⟩ ?_
  refine ev_eqH (h' := sR (iX11_49_6 h) 49 (va_up ((iX11_49_6 h).2.2.2 49) 11 (some 53))) (by rfl) ?_
  refine ev_eqH (h' := iX11_49_7 h) rfl ?_
  refine ev_aload_n (pc := 233) dX11_init_233 rfl ?_
  refine ev_bipush (pc := 234) (v := 12) dX11_init_234 (by decide) ?_
  refine ev_nwa_i (pc := 236) (zk := 54) (N := 12) rfl dX11_init_236 ac_int rfl (by decide) (by decide) (by decide) (by decide) ⟨Nat.le_of_ble_eq_true rfl, Nat.le_of_ble_eq_true rfl⟩ ?_
  refine ev_eqH (h' := iX11_49_8 h) rfl ?_
  refine ev_putR (pc := 238) dX11_init_238 fX11_22 rfl (Nat.le_of_ble_eq_true rfl) (Or.inr ⟨rfl, rfl⟩) ⟨rfl, rfl⟩ ?_
  refine ev_eqH (h' := sR (iX11_49_8 h) 49 (va_up ((iX11_49_8 h).2.2.2 49) 12 (some 54))) (by rfl) ?_
  refine ev_eqH (h' := iX11_49_9 h) rfl ?_
  refine ev_aload_n (pc := 241) dX11_init_241 rfl ?_
  refine ev_bipush (pc := 242) (v := 12) dX11_init_242 (by decide) ?_
  refine ev_nwa_i (pc := 244) (zk := 55) (N := 12) rfl dX11_init_244 ac_int rfl (by decide) (by decide) (by decide) (by decide) ⟨Nat.le_of_ble_eq_true rfl, Nat.le_of_ble_eq_true rfl⟩ ?_
  refine ev_eqH (h' := iX11_49_10 h) rfl ?_
  refine ev_putR (pc := 246) dX11_init_246 fX11_25 rfl (Nat.le_of_ble_eq_true rfl) (Or.inr ⟨rfl, rfl⟩) ⟨rfl, rfl⟩ ?_
  refine ev_eqH (h' := sR (iX11_49_10 h) 49 (va_up ((iX11_49_10 h).2.2.2 49) 13 (some 55))) (by rfl) ?_
  refine ev_eqH (h' := iX11_49_11 h) rfl ?_
  refine ev_aload_n (pc := 249) dX11_init_249 rfl ?_
  refine ev_bipush (pc := 250) (v := 64) dX11_init_250 (by decide) ?_
  refine ev_nwa_i (pc := 252) (zk := 56) (N := 64) rfl dX11_init_252 ac_int rfl (by decide) (by decide) (by decide) (by decide) ⟨Nat.le_of_ble_eq_true rfl, Nat.le_of_ble_eq_true rfl⟩ ?_
  refine ev_eqH (h' := iX11_49_12 h) rfl ?_
  refine ev_putR (pc := 254) dX11_init_254 fX11_28 rfl (Nat.le_of_ble_eq_true rfl) (Or.inr ⟨rfl, rfl⟩) ⟨rfl, rfl⟩ ?_
  refine ev_eqH (h' := sR (iX11_49_12 h) 49 (va_up ((iX11_49_12 h).2.2.2 49) 15 (some 56))) (by rfl) ?_
  refine ev_eqH (h' := iX11_49_13 h) rfl ?_
  refine ev_aload_n (pc := 257) dX11_init_257 rfl ?_
  refine ev_bipush (pc := 258) (v := 10) dX11_init_258 (by decide) ?_
  refine ev_putI (pc := 260) dX11_init_260 fX11_31 rfl (Nat.le_of_ble_eq_true rfl) ?_
  refine ev_eqH (h' := sI (iX11_49_13 h) 49 (upd ((iX11_49_13 h).2.1 49) 17 10)) (by rfl) ?_
  refine ev_eqH (h' := iX11_49_14 h) rfl ?_
  refine ev_aload_n (pc := 263) dX11_init_263 rfl ?_
  refine ev_bipush (pc := 264) (v := 6) dX11_init_264 (by decide) ?_
  refine ev_nwa_i (pc := 266) (zk := 57) (N := 6) rfl dX11_init_266 ac_int rfl (by decide) (by decide) (by decide) (by decide) ⟨Nat.le_of_ble_eq_true rfl, Nat.le_of_ble_eq_true rfl⟩ ?_
  refine ev_eqH (h' := iX11_49_15 h) rfl ?_
  refine ev_dup (pc := 268) dX11_init_268 rfl ?_
  refine ev_iconst (pc := 269) (v := 0) dX11_init_269 (by decide) ?_
  refine ev_iconst (pc := 270) (v := 1) dX11_init_270 (by decide) ?_
  refine ev_iast (pc := 271) dX11_init_271 rfl (Nat.le_of_ble_eq_true rfl) (vp_in_nI (n := 0) (by decide) (by decide)) ?_
  refine ev_eqH (h' := sI (iX11_49_15 h) 57 (upd ((iX11_49_15 h).2.1 57) 0 1)) (by rfl) ?_
  refine ev_dup (pc := 272) dX11_init_272 rfl ?_
  refine ev_iconst (pc := 273) (v := 1) dX11_init_273 (by decide) ?_
  refine ev_iconst (pc := 274) (v := 1) dX11_init_274 (by decide) ?_
  refine ev_iast (pc := 275) dX11_init_275 rfl (Nat.le_of_ble_eq_true rfl) (vp_in_nI (n := 1) (by decide) (by decide)) ?_
  refine ev_eqH (h' := sI (iX11_49_15 h) 57 (upd (upd ((iX11_49_15 h).2.1 57) 0 1) 1 1)) (by exact sI_sI _ _ _ _) ?_
  refine ev_dup (pc := 276) dX11_init_276 rfl ?_
  refine ev_iconst (pc := 277) (v := 2) dX11_init_277 (by decide) ?_
  refine ev_iconst (pc := 278) (v := 1) dX11_init_278 (by decide) ?_
  refine ev_iast (pc := 279) dX11_init_279 rfl (Nat.le_of_ble_eq_true rfl) (vp_in_nI (n := 2) (by decide) (by decide)) ?_
  refine ev_eqH (h' := sI (iX11_49_15 h) 57 (upd (upd (upd ((iX11_49_15 h).2.1 57) 0 1) 1 1) 2 1)) (by exact sI_sI _ _ _ _) ?_
  refine ev_dup (pc := 280) dX11_init_280 rfl ?_
  refine ev_iconst (pc := 281) (v := 3) dX11_init_281 (by decide) ?_
  refine ev_iconst (pc := 282) (v := 1) dX11_init_282 (by decide) ?_
  refine ev_iast (pc := 283) dX11_init_283 rfl (Nat.le_of_ble_eq_true rfl) (vp_in_nI (n := 3) (by decide) (by decide)) ?_
  refine ev_eqH (h' := sI (iX11_49_15 h) 57 (upd (upd (upd (upd ((iX11_49_15 h).2.1 57) 0 1) 1 1) 2 1) 3 1)) (by exact sI_sI _ _ _ _) ?_
  refine ev_dup (pc := 284) dX11_init_284 rfl ?_
  refine ev_iconst (pc := 285) (v := 4) dX11_init_285 (by decide) ?_
  refine ev_iconst (pc := 286) (v := 1) dX11_init_286 (by decide) ?_
  refine ev_iast (pc := 287) dX11_init_287 rfl (Nat.le_of_ble_eq_true rfl) (vp_in_nI (n := 4) (by decide) (by decide)) ?_
  refine ev_eqH (h' := sI (iX11_49_15 h) 57 (upd (upd (upd (upd (upd ((iX11_49_15 h).2.1 57) 0 1) 1 1) 2 1) 3 1) 4 1)) (by exact sI_sI _ _ _ _) ?_
  refine ev_dup (pc := 288) dX11_init_288 rfl ?_
  refine ev_iconst (pc := 289) (v := 5) dX11_init_289 (by decide) ?_
  refine ev_iconst (pc := 290) (v := 1) dX11_init_290 (by decide) ?_
  refine ev_iast (pc := 291) dX11_init_291 rfl (Nat.le_of_ble_eq_true rfl) (vp_in_nI (n := 5) (by decide) (by decide)) ?_
  refine ev_eqH (h' := sI (iX11_49_15 h) 57 (upd (upd (upd (upd (upd (upd ((iX11_49_15 h).2.1 57) 0 1) 1 1) 2 1) 3 1) 4 1) 5 1)) (by exact sI_sI _ _ _ _) ?_
  refine ev_putR (pc := 292) dX11_init_292 fX11_35 rfl (Nat.le_of_ble_eq_true rfl) (Or.inr ⟨rfl, rfl⟩) ⟨rfl, rfl⟩ ?_
  refine ev_eqH (h' := sR (sI (iX11_49_15 h) 57 (upd (upd (upd (upd (upd (upd ((iX11_49_15 h).2.1 57) 0 1) 1 1) 2 1) 3 1) 4 1) 5 1)) 49 (va_up ((iX11_49_15 h).2.2.2 49) 18 (some 57))) (by rfl) ?_
  refine ev_eqH (h' := iX11_49_16 h) rfl ?_
  refine ev_aload_n (pc := 295) dX11_init_295 rfl ?_
  refine ev_bipush (pc := 296) (v := 6) dX11_init_296 (by decide) ?_
  refine ev_nwa_i (pc := 298) (zk := 58) (N := 6) rfl dX11_init_298 ac_int rfl (by decide) (by decide) (by decide) (by decide) ⟨Nat.le_of_ble_eq_true rfl, Nat.le_of_ble_eq_true rfl⟩ ?_
  refine ev_eqH (h' := iX11_49_17 h) rfl ?_
  refine ev_dup (pc := 300) dX11_init_300 rfl ?_
  refine ev_iconst (pc := 301) (v := 0) dX11_init_301 (by decide) ?_
  refine ev_bipush (pc := 302) (v := 10) dX11_init_302 (by decide) ?_
  refine ev_iast (pc := 304) dX11_init_304 rfl (Nat.le_of_ble_eq_true rfl) (vp_in_nI (n := 0) (by decide) (by decide)) ?_
  refine ev_eqH (h' := sI (iX11_49_17 h) 58 (upd ((iX11_49_17 h).2.1 58) 0 10)) (by rfl) ?_
  refine ev_dup (pc := 305) dX11_init_305 rfl ?_
  refine ev_iconst (pc := 306) (v := 1) dX11_init_306 (by decide) ?_
  refine ev_bipush (pc := 307) (v := 10) dX11_init_307 (by decide) ?_
  refine ev_iast (pc := 309) dX11_init_309 rfl (Nat.le_of_ble_eq_true rfl) (vp_in_nI (n := 1) (by decide) (by decide)) ?_
  refine ev_eqH (h' := sI (iX11_49_17 h) 58 (upd (upd ((iX11_49_17 h).2.1 58) 0 10) 1 10)) (by exact sI_sI _ _ _ _) ?_
  refine ev_dup (pc := 310) dX11_init_310 rfl ?_
  refine ev_iconst (pc := 311) (v := 2) dX11_init_311 (by decide) ?_
  refine ev_bipush (pc := 312) (v := 10) dX11_init_312 (by decide) ?_
  refine ev_iast (pc := 314) dX11_init_314 rfl (Nat.le_of_ble_eq_true rfl) (vp_in_nI (n := 2) (by decide) (by decide)) ?_
  refine ev_eqH (h' := sI (iX11_49_17 h) 58 (upd (upd (upd ((iX11_49_17 h).2.1 58) 0 10) 1 10) 2 10)) (by exact sI_sI _ _ _ _) ?_
  refine ev_dup (pc := 315) dX11_init_315 rfl ?_
  refine ev_iconst (pc := 316) (v := 3) dX11_init_316 (by decide) ?_
  refine ev_bipush (pc := 317) (v := 10) dX11_init_317 (by decide) ?_
  refine ev_iast (pc := 319) dX11_init_319 rfl (Nat.le_of_ble_eq_true rfl) (vp_in_nI (n := 3) (by decide) (by decide)) ?_
  refine ev_eqH (h' := sI (iX11_49_17 h) 58 (upd (upd (upd (upd ((iX11_49_17 h).2.1 58) 0 10) 1 10) 2 10) 3 10)) (by exact sI_sI _ _ _ _) ?_
  refine ev_dup (pc := 320) dX11_init_320 rfl ?_
  refine ev_iconst (pc := 321) (v := 4) dX11_init_321 (by decide) ?_
  refine ev_bipush (pc := 322) (v := 10) dX11_init_322 (by decide) ?_
  refine ev_iast (pc := 324) dX11_init_324 rfl (Nat.le_of_ble_eq_true rfl) (vp_in_nI (n := 4) (by decide) (by decide)) ?_
  refine ev_eqH (h' := sI (iX11_49_17 h) 58 (upd (upd (upd (upd (upd ((iX11_49_17 h).2.1 58) 0 10) 1 10) 2 10) 3 10) 4 10)) (by exact sI_sI _ _ _ _) ?_
  refine ev_dup (pc := 325) dX11_init_325 rfl ?_
  refine ev_iconst (pc := 326) (v := 5) dX11_init_326 (by decide) ?_
  refine ev_bipush (pc := 327) (v := 10) dX11_init_327 (by decide) ?_
  refine ev_iast (pc := 329) dX11_init_329 rfl (Nat.le_of_ble_eq_true rfl) (vp_in_nI (n := 5) (by decide) (by decide)) ?_
  refine ev_eqH (h' := sI (iX11_49_17 h) 58 (upd (upd (upd (upd (upd (upd ((iX11_49_17 h).2.1 58) 0 10) 1 10) 2 10) 3 10) 4 10) 5 10)) (by exact sI_sI _ _ _ _) ?_
  refine ev_putR (pc := 330) dX11_init_330 fX11_38 rfl (Nat.le_of_ble_eq_true rfl) (Or.inr ⟨rfl, rfl⟩) ⟨rfl, rfl⟩ ?_
  refine ev_eqH (h' := sR (sI (iX11_49_17 h) 58 (upd (upd (upd (upd (upd (upd ((iX11_49_17 h).2.1 58) 0 10) 1 10) 2 10) 3 10) 4 10) 5 10)) 49 (va_up ((iX11_49_17 h).2.2.2 49) 19 (some 58))) (by rfl) ?_
  refine ev_eqH (h' := iX11_49_18 h) rfl ?_
  refine ev_aload_n (pc := 333) dX11_init_333 rfl ?_
  refine ev_bipush (pc := 334) (v := 12) dX11_init_334 (by decide) ?_
  refine ev_nwa_i (pc := 336) (zk := 59) (N := 12) rfl dX11_init_336 ac_int rfl (by decide) (by decide) (by decide) (by decide) ⟨Nat.le_of_ble_eq_true rfl, Nat.le_of_ble_eq_true rfl⟩ ?_
  refine ev_eqH (h' := iX11_49_19 h) rfl ?_
  refine ev_putR (pc := 338) dX11_init_338 fX11_41 rfl (Nat.le_of_ble_eq_true rfl) (Or.inr ⟨rfl, rfl⟩) ⟨rfl, rfl⟩ ?_
  refine ev_eqH (h' := sR (iX11_49_19 h) 49 (va_up ((iX11_49_19 h).2.2.2 49) 20 (some 59))) (by rfl) ?_
  refine ev_eqH (h' := iX11_49_20 h) rfl ?_
  refine ev_aload_n (pc := 341) dX11_init_341 rfl ?_
  refine ev_bipush (pc := 342) (v := 12) dX11_init_342 (by decide) ?_
  refine ev_nwa_i (pc := 344) (zk := 60) (N := 12) rfl dX11_init_344 ac_int rfl (by decide) (by decide) (by decide) (by decide) ⟨Nat.le_of_ble_eq_true rfl, Nat.le_of_ble_eq_true rfl⟩ ?_
  refine ev_eqH (h' := iX11_49_21 h) rfl ?_
  refine ev_putR (pc := 346) dX11_init_346 fX11_44 rfl (Nat.le_of_ble_eq_true rfl) (Or.inr ⟨rfl, rfl⟩) ⟨rfl, rfl⟩ ?_
  refine ev_eqH (h' := sR (iX11_49_21 h) 49 (va_up ((iX11_49_21 h).2.2.2 49) 21 (some 60))) (by rfl) ?_
  refine ev_eqH (h' := iX11_49_22 h) rfl ?_
  refine ev_aload_n (pc := 349) dX11_init_349 rfl ?_
  refine ev_bipush (pc := 350) (v := 12) dX11_init_350 (by decide) ?_
  refine ev_nwa_i (pc := 352) (zk := 61) (N := 12) rfl dX11_init_352 ac_int rfl (by decide) (by decide) (by decide) (by decide) ⟨Nat.le_of_ble_eq_true rfl, Nat.le_of_ble_eq_true rfl⟩ ?_
  refine ev_eqH (h' := iX11_49_23 h) rfl ?_
  refine ev_putR (pc := 354) dX11_init_354 fX11_47 rfl (Nat.le_of_ble_eq_true rfl) (Or.inr ⟨rfl, rfl⟩) ⟨rfl, rfl⟩ ?_
  refine ev_eqH (h' := sR (iX11_49_23 h) 49 (va_up ((iX11_49_23 h).2.2.2 49) 22 (some 61))) (by rfl) ?_
  refine ev_eqH (h' := iX11_49_24 h) rfl ?_
  refine ev_aload_n (pc := 357) dX11_init_357 rfl ?_
  refine ev_bipush (pc := 358) (v := 12) dX11_init_358 (by decide) ?_
  refine ev_nwa_i (pc := 360) (zk := 62) (N := 12) rfl dX11_init_360 ac_int rfl (by decide) (by decide) (by decide) (by decide) ⟨Nat.le_of_ble_eq_true rfl, Nat.le_of_ble_eq_true rfl⟩ ?_
  refine ev_eqH (h' := iX11_49_25 h) rfl ?_
  refine ev_putR (pc := 362) dX11_init_362 fX11_50 rfl (Nat.le_of_ble_eq_true rfl) (Or.inr ⟨rfl, rfl⟩) ⟨rfl, rfl⟩ ?_
  refine ev_eqH (h' := sR (iX11_49_25 h) 49 (va_up ((iX11_49_25 h).2.2.2 49) 23 (some 62))) (by rfl) ?_
  refine ev_eqH (h' := iX11_49_26 h) rfl ?_
  refine ev_aload_n (pc := 365) dX11_init_365 rfl ?_
  refine ev_bipush (pc := 366) (v := 64) dX11_init_366 (by decide) ?_
  refine ev_nwa_i (pc := 368) (zk := 63) (N := 64) rfl dX11_init_368 ac_int rfl (by decide) (by decide) (by decide) (by decide) ⟨Nat.le_of_ble_eq_true rfl, Nat.le_of_ble_eq_true rfl⟩ ?_
  refine ev_eqH (h' := iX11_49_27 h) rfl ?_
  refine ev_putR (pc := 370) dX11_init_370 fX11_53 rfl (Nat.le_of_ble_eq_true rfl) (Or.inr ⟨rfl, rfl⟩) ⟨rfl, rfl⟩ ?_
  refine ev_eqH (h' := sR (iX11_49_27 h) 49 (va_up ((iX11_49_27 h).2.2.2 49) 25 (some 63))) (by rfl) ?_
  refine ev_eqH (h' := iX11_49_28 h) rfl ?_
  refine ev_aload_n (pc := 373) dX11_init_373 rfl ?_
  refine ev_bipush (pc := 374) (v := 6) dX11_init_374 (by decide) ?_
  refine ev_nwa_i (pc := 376) (zk := 64) (N := 6) rfl dX11_init_376 ac_int rfl (by decide) (by decide) (by decide) (by decide) ⟨Nat.le_of_ble_eq_true rfl, Nat.le_of_ble_eq_true rfl⟩ ?_
  refine ev_eqH (h' := iX11_49_29 h) rfl ?_
  refine ev_putR (pc := 378) dX11_init_378 fX11_56 rfl (Nat.le_of_ble_eq_true rfl) (Or.inr ⟨rfl, rfl⟩) ⟨rfl, rfl⟩ ?_
  refine ev_eqH (h' := sR (iX11_49_29 h) 49 (va_up ((iX11_49_29 h).2.2.2 49) 28 (some 64))) (by rfl) ?_
  refine ev_eqH (h' := iX11_49_30 h) rfl ?_
  refine ev_aload_n (pc := 381) dX11_init_381 rfl ?_
  refine ev_bipush (pc := 382) (v := 6) dX11_init_382 (by decide) ?_
  refine ev_nwa_i (pc := 384) (zk := 65) (N := 6) rfl dX11_init_384 ac_int rfl (by decide) (by decide) (by decide) (by decide) ⟨Nat.le_of_ble_eq_true rfl, Nat.le_of_ble_eq_true rfl⟩ ?_
  refine ev_eqH (h' := iX11_49_31 h) rfl ?_
  refine ev_putR (pc := 386) dX11_init_386 fX11_59 rfl (Nat.le_of_ble_eq_true rfl) (Or.inr ⟨rfl, rfl⟩) ⟨rfl, rfl⟩ ?_
  refine ev_eqH (h' := sR (iX11_49_31 h) 49 (va_up ((iX11_49_31 h).2.2.2 49) 29 (some 65))) (by rfl) ?_
  refine ev_eqH (h' := iX11_49_32 h) rfl ?_
  refine ev_aload_n (pc := 389) dX11_init_389 rfl ?_
  refine ev_bipush (pc := 390) (v := 12) dX11_init_390 (by decide) ?_
  refine ev_nwa_i (pc := 392) (zk := 66) (N := 12) rfl dX11_init_392 ac_int rfl (by decide) (by decide) (by decide) (by decide) ⟨Nat.le_of_ble_eq_true rfl, Nat.le_of_ble_eq_true rfl⟩ ?_
  refine ev_eqH (h' := iX11_49_33 h) rfl ?_
  refine ev_putR (pc := 394) dX11_init_394 fX11_62 rfl (Nat.le_of_ble_eq_true rfl) (Or.inr ⟨rfl, rfl⟩) ⟨rfl, rfl⟩ ?_
  refine ev_eqH (h' := sR (iX11_49_33 h) 49 (va_up ((iX11_49_33 h).2.2.2 49) 32 (some 66))) (by rfl) ?_
  refine ev_eqH (h' := iX11_49_34 h) rfl ?_
  refine ev_aload_n (pc := 397) dX11_init_397 rfl ?_
  refine ev_sipush (pc := 398) (v := 4096) dX11_init_398 (by decide) ?_
  refine ev_nwa_l (pc := 401) (zk := 67) (N := 4096) rfl dX11_init_401 ac_long rfl (by decide) (by decide) (by decide) (by decide) ⟨Nat.le_of_ble_eq_true rfl, Nat.le_of_ble_eq_true rfl⟩ ?_
  refine ev_eqH (h' := iX11_49_35 h) rfl ?_
  refine ev_putR (pc := 403) dX11_init_403 fX11_65 rfl (Nat.le_of_ble_eq_true rfl) (Or.inr ⟨rfl, rfl⟩) ⟨rfl, rfl⟩ ?_
  refine ev_eqH (h' := sR (iX11_49_35 h) 49 (va_up ((iX11_49_35 h).2.2.2 49) 33 (some 67))) (by rfl) ?_
  refine ev_eqH (h' := iX11_49_36 h) rfl ?_
  refine ev_aload_n (pc := 406) dX11_init_406 rfl ?_
  refine ev_bipush (pc := 407) (v := 24) dX11_init_407 (by decide) ?_
  refine ev_nwa_i (pc := 409) (zk := 68) (N := 24) rfl dX11_init_409 ac_int rfl (by decide) (by decide) (by decide) (by decide) ⟨Nat.le_of_ble_eq_true rfl, Nat.le_of_ble_eq_true rfl⟩ ?_
  refine ev_eqH (h' := iX11_49_37 h) rfl ?_
  refine ev_putR (pc := 411) dX11_init_411 fX11_69 rfl (Nat.le_of_ble_eq_true rfl) (Or.inr ⟨rfl, rfl⟩) ⟨rfl, rfl⟩ ?_
  refine ev_eqH (h' := sR (iX11_49_37 h) 49 (va_up ((iX11_49_37 h).2.2.2 49) 34 (some 68))) (by rfl) ?_
  refine ev_eqH (h' := iX11_49_38 h) rfl ?_
  refine ev_aload_n (pc := 414) dX11_init_414 rfl ?_
  refine ev_bipush (pc := 415) (v := 64) dX11_init_415 (by decide) ?_
  refine ev_nwa_i (pc := 417) (zk := 69) (N := 64) rfl dX11_init_417 ac_int rfl (by decide) (by decide) (by decide) (by decide) ⟨Nat.le_of_ble_eq_true rfl, Nat.le_of_ble_eq_true rfl⟩ ?_
  refine ev_eqH (h' := iX11_49_39 h) rfl ?_
  refine ev_dup (pc := 419) dX11_init_419 rfl ?_
  refine ev_iconst (pc := 420) (v := 0) dX11_init_420 (by decide) ?_
  refine ev_iconst (pc := 421) (v := (-1)) dX11_init_421 (by decide) ?_
  refine ev_iast (pc := 422) dX11_init_422 rfl (Nat.le_of_ble_eq_true rfl) (vp_in_nI (n := 0) (by decide) (by decide)) ?_
  refine ev_eqH (h' := sI (iX11_49_39 h) 69 (upd ((iX11_49_39 h).2.1 69) 0 (-1))) (by rfl) ?_
  refine ev_dup (pc := 423) dX11_init_423 rfl ?_
  refine ev_iconst (pc := 424) (v := 1) dX11_init_424 (by decide) ?_
  refine ev_iconst (pc := 425) (v := (-1)) dX11_init_425 (by decide) ?_
  refine ev_iast (pc := 426) dX11_init_426 rfl (Nat.le_of_ble_eq_true rfl) (vp_in_nI (n := 1) (by decide) (by decide)) ?_
  refine ev_eqH (h' := sI (iX11_49_39 h) 69 (upd (upd ((iX11_49_39 h).2.1 69) 0 (-1)) 1 (-1))) (by exact sI_sI _ _ _ _) ?_
  refine ev_dup (pc := 427) dX11_init_427 rfl ?_
  refine ev_iconst (pc := 428) (v := 2) dX11_init_428 (by decide) ?_
  refine ev_iconst (pc := 429) (v := (-1)) dX11_init_429 (by decide) ?_
  refine ev_iast (pc := 430) dX11_init_430 rfl (Nat.le_of_ble_eq_true rfl) (vp_in_nI (n := 2) (by decide) (by decide)) ?_
  refine ev_eqH (h' := sI (iX11_49_39 h) 69 (upd (upd (upd ((iX11_49_39 h).2.1 69) 0 (-1)) 1 (-1)) 2 (-1))) (by exact sI_sI _ _ _ _) ?_
  refine ev_dup (pc := 431) dX11_init_431 rfl ?_
  refine ev_iconst (pc := 432) (v := 3) dX11_init_432 (by decide) ?_
  refine ev_iconst (pc := 433) (v := (-1)) dX11_init_433 (by decide) ?_
  refine ev_iast (pc := 434) dX11_init_434 rfl (Nat.le_of_ble_eq_true rfl) (vp_in_nI (n := 3) (by decide) (by decide)) ?_
  refine ev_eqH (h' := sI (iX11_49_39 h) 69 (upd (upd (upd (upd ((iX11_49_39 h).2.1 69) 0 (-1)) 1 (-1)) 2 (-1)) 3 (-1))) (by exact sI_sI _ _ _ _) ?_
  refine ev_dup (pc := 435) dX11_init_435 rfl ?_
  refine ev_iconst (pc := 436) (v := 4) dX11_init_436 (by decide) ?_
  refine ev_iconst (pc := 437) (v := (-1)) dX11_init_437 (by decide) ?_
  refine ev_iast (pc := 438) dX11_init_438 rfl (Nat.le_of_ble_eq_true rfl) (vp_in_nI (n := 4) (by decide) (by decide)) ?_
  refine ev_eqH (h' := sI (iX11_49_39 h) 69 (upd (upd (upd (upd (upd ((iX11_49_39 h).2.1 69) 0 (-1)) 1 (-1)) 2 (-1)) 3 (-1)) 4 (-1))) (by exact sI_sI _ _ _ _) ?_
  refine ev_dup (pc := 439) dX11_init_439 rfl ?_
  refine ev_iconst (pc := 440) (v := 5) dX11_init_440 (by decide) ?_
  refine ev_iconst (pc := 441) (v := (-1)) dX11_init_441 (by decide) ?_
  refine ev_iast (pc := 442) dX11_init_442 rfl (Nat.le_of_ble_eq_true rfl) (vp_in_nI (n := 5) (by decide) (by decide)) ?_
  refine ev_eqH (h' := sI (iX11_49_39 h) 69 (upd (upd (upd (upd (upd (upd ((iX11_49_39 h).2.1 69) 0 (-1)) 1 (-1)) 2 (-1)) 3 (-1)) 4 (-1)) 5 (-1))) (by exact sI_sI _ _ _ _) ?_
  refine ev_dup (pc := 443) dX11_init_443 rfl ?_
  refine ev_bipush (pc := 444) (v := 6) dX11_init_444 (by decide) ?_
  refine ev_iconst (pc := 446) (v := (-1)) dX11_init_446 (by decide) ?_
  refine ev_iast (pc := 447) dX11_init_447 rfl (Nat.le_of_ble_eq_true rfl) (vp_in_nI (n := 6) (by decide) (by decide)) ?_
  refine ev_eqH (h' := sI (iX11_49_39 h) 69 (upd (upd (upd (upd (upd (upd (upd ((iX11_49_39 h).2.1 69) 0 (-1)) 1 (-1)) 2 (-1)) 3 (-1)) 4 (-1)) 5 (-1)) 6 (-1))) (by exact sI_sI _ _ _ _) ?_
  refine ev_dup (pc := 448) dX11_init_448 rfl ?_
  refine ev_bipush (pc := 449) (v := 7) dX11_init_449 (by decide) ?_
  refine ev_iconst (pc := 451) (v := (-1)) dX11_init_451 (by decide) ?_
  refine ev_iast (pc := 452) dX11_init_452 rfl (Nat.le_of_ble_eq_true rfl) (vp_in_nI (n := 7) (by decide) (by decide)) ?_
  refine ev_eqH (h' := sI (iX11_49_39 h) 69 (upd (upd (upd (upd (upd (upd (upd (upd ((iX11_49_39 h).2.1 69) 0 (-1)) 1 (-1)) 2 (-1)) 3 (-1)) 4 (-1)) 5 (-1)) 6 (-1)) 7 (-1))) (by exact sI_sI _ _ _ _) ?_
  refine ev_dup (pc := 453) dX11_init_453 rfl ?_
  refine ev_bipush (pc := 454) (v := 8) dX11_init_454 (by decide) ?_
  refine ev_iconst (pc := 456) (v := (-1)) dX11_init_456 (by decide) ?_
  refine ev_iast (pc := 457) dX11_init_457 rfl (Nat.le_of_ble_eq_true rfl) (vp_in_nI (n := 8) (by decide) (by decide)) ?_
  refine ev_eqH (h' := sI (iX11_49_39 h) 69 (upd (upd (upd (upd (upd (upd (upd (upd (upd ((iX11_49_39 h).2.1 69) 0 (-1)) 1 (-1)) 2 (-1)) 3 (-1)) 4 (-1)) 5 (-1)) 6 (-1)) 7 (-1)) 8 (-1))) (by exact sI_sI _ _ _ _) ?_
  refine ev_dup (pc := 458) dX11_init_458 rfl ?_
  refine ev_bipush (pc := 459) (v := 9) dX11_init_459 (by decide) ?_
  refine ev_iconst (pc := 461) (v := (-1)) dX11_init_461 (by decide) ?_
  refine ev_iast (pc := 462) dX11_init_462 rfl (Nat.le_of_ble_eq_true rfl) (vp_in_nI (n := 9) (by decide) (by decide)) ?_
  refine ev_eqH (h' := sI (iX11_49_39 h) 69 (upd (upd (upd (upd (upd (upd (upd (upd (upd (upd ((iX11_49_39 h).2.1 69) 0 (-1)) 1 (-1)) 2 (-1)) 3 (-1)) 4 (-1)) 5 (-1)) 6 (-1)) 7 (-1)) 8 (-1)) 9 (-1))) (by exact sI_sI _ _ _ _) ?_
  refine ev_dup (pc := 463) dX11_init_463 rfl ?_
  refine ev_bipush (pc := 464) (v := 10) dX11_init_464 (by decide) ?_
  refine ev_iconst (pc := 466) (v := (-1)) dX11_init_466 (by decide) ?_
  refine ev_iast (pc := 467) dX11_init_467 rfl (Nat.le_of_ble_eq_true rfl) (vp_in_nI (n := 10) (by decide) (by decide)) ?_
  refine ev_eqH (h' := sI (iX11_49_39 h) 69 (upd (upd (upd (upd (upd (upd (upd (upd (upd (upd (upd ((iX11_49_39 h).2.1 69) 0 (-1)) 1 (-1)) 2 (-1)) 3 (-1)) 4 (-1)) 5 (-1)) 6 (-1)) 7 (-1)) 8 (-1)) 9 (-1)) 10 (-1))) (by exact sI_sI _ _ _ _) ?_
  refine ev_dup (pc := 468) dX11_init_468 rfl ?_
  refine ev_bipush (pc := 469) (v := 11) dX11_init_469 (by decide) ?_
  refine ev_iconst (pc := 471) (v := (-1)) dX11_init_471 (by decide) ?_
  refine ev_iast (pc := 472) dX11_init_472 rfl (Nat.le_of_ble_eq_true rfl) (vp_in_nI (n := 11) (by decide) (by decide)) ?_
  refine ev_eqH (h' := sI (iX11_49_39 h) 69 (upd (upd (upd (upd (upd (upd (upd (upd (upd (upd (upd (upd ((iX11_49_39 h).2.1 69) 0 (-1)) 1 (-1)) 2 (-1)) 3 (-1)) 4 (-1)) 5 (-1)) 6 (-1)) 7 (-1)) 8 (-1)) 9 (-1)) 10 (-1)) 11 (-1))) (by exact sI_sI _ _ _ _) ?_
  refine ev_dup (pc := 473) dX11_init_473 rfl ?_
  refine ev_bipush (pc := 474) (v := 12) dX11_init_474 (by decide) ?_
  refine ev_iconst (pc := 476) (v := (-1)) dX11_init_476 (by decide) ?_
  refine ev_iast (pc := 477) dX11_init_477 rfl (Nat.le_of_ble_eq_true rfl) (vp_in_nI (n := 12) (by decide) (by decide)) ?_
  refine ev_eqH (h' := sI (iX11_49_39 h) 69 (upd (upd (upd (upd (upd (upd (upd (upd (upd (upd (upd (upd (upd ((iX11_49_39 h).2.1 69) 0 (-1)) 1 (-1)) 2 (-1)) 3 (-1)) 4 (-1)) 5 (-1)) 6 (-1)) 7 (-1)) 8 (-1)) 9 (-1)) 10 (-1)) 11 (-1)) 12 (-1))) (by exact sI_sI _ _ _ _) ?_
  refine ev_dup (pc := 478) dX11_init_478 rfl ?_
  refine ev_bipush (pc := 479) (v := 13) dX11_init_479 (by decide) ?_
  refine ev_iconst (pc := 481) (v := (-1)) dX11_init_481 (by decide) ?_
  refine ev_iast (pc := 482) dX11_init_482 rfl (Nat.le_of_ble_eq_true rfl) (vp_in_nI (n := 13) (by decide) (by decide)) ?_
  refine ev_eqH (h' := sI (iX11_49_39 h) 69 (upd (upd (upd (upd (upd (upd (upd (upd (upd (upd (upd (upd (upd (upd ((iX11_49_39 h).2.1 69) 0 (-1)) 1 (-1)) 2 (-1)) 3 (-1)) 4 (-1)) 5 (-1)) 6 (-1)) 7 (-1)) 8 (-1)) 9 (-1)) 10 (-1)) 11 (-1)) 12 (-1)) 13 (-1))) (by exact sI_sI _ _ _ _) ?_
  refine ev_dup (pc := 483) dX11_init_483 rfl ?_
  refine ev_bipush (pc := 484) (v := 14) dX11_init_484 (by decide) ?_
  refine ev_iconst (pc := 486) (v := (-1)) dX11_init_486 (by decide) ?_
  refine ev_iast (pc := 487) dX11_init_487 rfl (Nat.le_of_ble_eq_true rfl) (vp_in_nI (n := 14) (by decide) (by decide)) ?_
  refine ev_eqH (h' := sI (iX11_49_39 h) 69 (upd (upd (upd (upd (upd (upd (upd (upd (upd (upd (upd (upd (upd (upd (upd ((iX11_49_39 h).2.1 69) 0 (-1)) 1 (-1)) 2 (-1)) 3 (-1)) 4 (-1)) 5 (-1)) 6 (-1)) 7 (-1)) 8 (-1)) 9 (-1)) 10 (-1)) 11 (-1)) 12 (-1)) 13 (-1)) 14 (-1))) (by exact sI_sI _ _ _ _) ?_
  refine ev_dup (pc := 488) dX11_init_488 rfl ?_
  refine ev_bipush (pc := 489) (v := 15) dX11_init_489 (by decide) ?_
  refine ev_iconst (pc := 491) (v := (-1)) dX11_init_491 (by decide) ?_
  refine ev_iast (pc := 492) dX11_init_492 rfl (Nat.le_of_ble_eq_true rfl) (vp_in_nI (n := 15) (by decide) (by decide)) ?_
  refine ev_eqH (h' := sI (iX11_49_39 h) 69 (upd (upd (upd (upd (upd (upd (upd (upd (upd (upd (upd (upd (upd (upd (upd (upd ((iX11_49_39 h).2.1 69) 0 (-1)) 1 (-1)) 2 (-1)) 3 (-1)) 4 (-1)) 5 (-1)) 6 (-1)) 7 (-1)) 8 (-1)) 9 (-1)) 10 (-1)) 11 (-1)) 12 (-1)) 13 (-1)) 14 (-1)) 15 (-1))) (by exact sI_sI _ _ _ _) ?_
  refine ev_dup (pc := 493) dX11_init_493 rfl ?_
  refine ev_bipush (pc := 494) (v := 16) dX11_init_494 (by decide) ?_
  refine ev_iconst (pc := 496) (v := (-1)) dX11_init_496 (by decide) ?_
  refine ev_iast (pc := 497) dX11_init_497 rfl (Nat.le_of_ble_eq_true rfl) (vp_in_nI (n := 16) (by decide) (by decide)) ?_
  refine ev_eqH (h' := sI (iX11_49_39 h) 69 (upd (upd (upd (upd (upd (upd (upd (upd (upd (upd (upd (upd (upd (upd (upd (upd (upd ((iX11_49_39 h).2.1 69) 0 (-1)) 1 (-1)) 2 (-1)) 3 (-1)) 4 (-1)) 5 (-1)) 6 (-1)) 7 (-1)) 8 (-1)) 9 (-1)) 10 (-1)) 11 (-1)) 12 (-1)) 13 (-1)) 14 (-1)) 15 (-1)) 16 (-1))) (by exact sI_sI _ _ _ _) ?_
  refine ev_dup (pc := 498) dX11_init_498 rfl ?_
  refine ev_bipush (pc := 499) (v := 17) dX11_init_499 (by decide) ?_
  refine ev_iconst (pc := 501) (v := (-1)) dX11_init_501 (by decide) ?_
  refine ev_iast (pc := 502) dX11_init_502 rfl (Nat.le_of_ble_eq_true rfl) (vp_in_nI (n := 17) (by decide) (by decide)) ?_
  refine ev_eqH (h' := sI (iX11_49_39 h) 69 (upd (upd (upd (upd (upd (upd (upd (upd (upd (upd (upd (upd (upd (upd (upd (upd (upd (upd ((iX11_49_39 h).2.1 69) 0 (-1)) 1 (-1)) 2 (-1)) 3 (-1)) 4 (-1)) 5 (-1)) 6 (-1)) 7 (-1)) 8 (-1)) 9 (-1)) 10 (-1)) 11 (-1)) 12 (-1)) 13 (-1)) 14 (-1)) 15 (-1)) 16 (-1)) 17 (-1))) (by exact sI_sI _ _ _ _) ?_
  refine ev_dup (pc := 503) dX11_init_503 rfl ?_
  refine ev_bipush (pc := 504) (v := 18) dX11_init_504 (by decide) ?_
  refine ev_iconst (pc := 506) (v := (-1)) dX11_init_506 (by decide) ?_
  refine ev_iast (pc := 507) dX11_init_507 rfl (Nat.le_of_ble_eq_true rfl) (vp_in_nI (n := 18) (by decide) (by decide)) ?_
  refine ev_eqH (h' := sI (iX11_49_39 h) 69 (upd (upd (upd (upd (upd (upd (upd (upd (upd (upd (upd (upd (upd (upd (upd (upd (upd (upd (upd ((iX11_49_39 h).2.1 69) 0 (-1)) 1 (-1)) 2 (-1)) 3 (-1)) 4 (-1)) 5 (-1)) 6 (-1)) 7 (-1)) 8 (-1)) 9 (-1)) 10 (-1)) 11 (-1)) 12 (-1)) 13 (-1)) 14 (-1)) 15 (-1)) 16 (-1)) 17 (-1)) 18 (-1))) (by exact sI_sI _ _ _ _) ?_
  refine ev_dup (pc := 508) dX11_init_508 rfl ?_
  refine ev_bipush (pc := 509) (v := 19) dX11_init_509 (by decide) ?_
  refine ev_iconst (pc := 511) (v := (-1)) dX11_init_511 (by decide) ?_
  refine ev_iast (pc := 512) dX11_init_512 rfl (Nat.le_of_ble_eq_true rfl) (vp_in_nI (n := 19) (by decide) (by decide)) ?_
  refine ev_eqH (h' := sI (iX11_49_39 h) 69 (upd (upd (upd (upd (upd (upd (upd (upd (upd (upd (upd (upd (upd (upd (upd (upd (upd (upd (upd (upd ((iX11_49_39 h).2.1 69) 0 (-1)) 1 (-1)) 2 (-1)) 3 (-1)) 4 (-1)) 5 (-1)) 6 (-1)) 7 (-1)) 8 (-1)) 9 (-1)) 10 (-1)) 11 (-1)) 12 (-1)) 13 (-1)) 14 (-1)) 15 (-1)) 16 (-1)) 17 (-1)) 18 (-1)) 19 (-1))) (by exact sI_sI _ _ _ _) ?_
  refine ev_dup (pc := 513) dX11_init_513 rfl ?_
  refine ev_bipush (pc := 514) (v := 20) dX11_init_514 (by decide) ?_
  refine ev_iconst (pc := 516) (v := (-1)) dX11_init_516 (by decide) ?_
  refine ev_iast (pc := 517) dX11_init_517 rfl (Nat.le_of_ble_eq_true rfl) (vp_in_nI (n := 20) (by decide) (by decide)) ?_
  refine ev_eqH (h' := sI (iX11_49_39 h) 69 (upd (upd (upd (upd (upd (upd (upd (upd (upd (upd (upd (upd (upd (upd (upd (upd (upd (upd (upd (upd (upd ((iX11_49_39 h).2.1 69) 0 (-1)) 1 (-1)) 2 (-1)) 3 (-1)) 4 (-1)) 5 (-1)) 6 (-1)) 7 (-1)) 8 (-1)) 9 (-1)) 10 (-1)) 11 (-1)) 12 (-1)) 13 (-1)) 14 (-1)) 15 (-1)) 16 (-1)) 17 (-1)) 18 (-1)) 19 (-1)) 20 (-1))) (by exact sI_sI _ _ _ _) ?_
  refine ev_dup (pc := 518) dX11_init_518 rfl ?_
  refine ev_bipush (pc := 519) (v := 21) dX11_init_519 (by decide) ?_
  refine ev_iconst (pc := 521) (v := (-1)) dX11_init_521 (by decide) ?_
  refine ev_iast (pc := 522) dX11_init_522 rfl (Nat.le_of_ble_eq_true rfl) (vp_in_nI (n := 21) (by decide) (by decide)) ?_
  refine ev_eqH (h' := sI (iX11_49_39 h) 69 (upd (upd (upd (upd (upd (upd (upd (upd (upd (upd (upd (upd (upd (upd (upd (upd (upd (upd (upd (upd (upd (upd ((iX11_49_39 h).2.1 69) 0 (-1)) 1 (-1)) 2 (-1)) 3 (-1)) 4 (-1)) 5 (-1)) 6 (-1)) 7 (-1)) 8 (-1)) 9 (-1)) 10 (-1)) 11 (-1)) 12 (-1)) 13 (-1)) 14 (-1)) 15 (-1)) 16 (-1)) 17 (-1)) 18 (-1)) 19 (-1)) 20 (-1)) 21 (-1))) (by exact sI_sI _ _ _ _) ?_
  refine ev_dup (pc := 523) dX11_init_523 rfl ?_
  refine ev_bipush (pc := 524) (v := 22) dX11_init_524 (by decide) ?_
  refine ev_iconst (pc := 526) (v := (-1)) dX11_init_526 (by decide) ?_
  refine ev_iast (pc := 527) dX11_init_527 rfl (Nat.le_of_ble_eq_true rfl) (vp_in_nI (n := 22) (by decide) (by decide)) ?_
  refine ev_eqH (h' := sI (iX11_49_39 h) 69 (upd (upd (upd (upd (upd (upd (upd (upd (upd (upd (upd (upd (upd (upd (upd (upd (upd (upd (upd (upd (upd (upd (upd ((iX11_49_39 h).2.1 69) 0 (-1)) 1 (-1)) 2 (-1)) 3 (-1)) 4 (-1)) 5 (-1)) 6 (-1)) 7 (-1)) 8 (-1)) 9 (-1)) 10 (-1)) 11 (-1)) 12 (-1)) 13 (-1)) 14 (-1)) 15 (-1)) 16 (-1)) 17 (-1)) 18 (-1)) 19 (-1)) 20 (-1)) 21 (-1)) 22 (-1))) (by exact sI_sI _ _ _ _) ?_
  refine ev_dup (pc := 528) dX11_init_528 rfl ?_
  refine ev_bipush (pc := 529) (v := 23) dX11_init_529 (by decide) ?_
  refine ev_iconst (pc := 531) (v := (-1)) dX11_init_531 (by decide) ?_
  refine ev_iast (pc := 532) dX11_init_532 rfl (Nat.le_of_ble_eq_true rfl) (vp_in_nI (n := 23) (by decide) (by decide)) ?_
  refine ev_eqH (h' := sI (iX11_49_39 h) 69 (upd (upd (upd (upd (upd (upd (upd (upd (upd (upd (upd (upd (upd (upd (upd (upd (upd (upd (upd (upd (upd (upd (upd (upd ((iX11_49_39 h).2.1 69) 0 (-1)) 1 (-1)) 2 (-1)) 3 (-1)) 4 (-1)) 5 (-1)) 6 (-1)) 7 (-1)) 8 (-1)) 9 (-1)) 10 (-1)) 11 (-1)) 12 (-1)) 13 (-1)) 14 (-1)) 15 (-1)) 16 (-1)) 17 (-1)) 18 (-1)) 19 (-1)) 20 (-1)) 21 (-1)) 22 (-1)) 23 (-1))) (by exact sI_sI _ _ _ _) ?_
  refine ev_dup (pc := 533) dX11_init_533 rfl ?_
  refine ev_bipush (pc := 534) (v := 24) dX11_init_534 (by decide) ?_
  refine ev_iconst (pc := 536) (v := (-1)) dX11_init_536 (by decide) ?_
  refine ev_iast (pc := 537) dX11_init_537 rfl (Nat.le_of_ble_eq_true rfl) (vp_in_nI (n := 24) (by decide) (by decide)) ?_
  refine ev_eqH (h' := sI (iX11_49_39 h) 69 (upd (upd (upd (upd (upd (upd (upd (upd (upd (upd (upd (upd (upd (upd (upd (upd (upd (upd (upd (upd (upd (upd (upd (upd (upd ((iX11_49_39 h).2.1 69) 0 (-1)) 1 (-1)) 2 (-1)) 3 (-1)) 4 (-1)) 5 (-1)) 6 (-1)) 7 (-1)) 8 (-1)) 9 (-1)) 10 (-1)) 11 (-1)) 12 (-1)) 13 (-1)) 14 (-1)) 15 (-1)) 16 (-1)) 17 (-1)) 18 (-1)) 19 (-1)) 20 (-1)) 21 (-1)) 22 (-1)) 23 (-1)) 24 (-1))) (by exact sI_sI _ _ _ _) ?_
  refine ev_dup (pc := 538) dX11_init_538 rfl ?_
  refine ev_bipush (pc := 539) (v := 25) dX11_init_539 (by decide) ?_
  refine ev_iconst (pc := 541) (v := (-1)) dX11_init_541 (by decide) ?_
  refine ev_iast (pc := 542) dX11_init_542 rfl (Nat.le_of_ble_eq_true rfl) (vp_in_nI (n := 25) (by decide) (by decide)) ?_
  refine ev_eqH (h' := sI (iX11_49_39 h) 69 (upd (upd (upd (upd (upd (upd (upd (upd (upd (upd (upd (upd (upd (upd (upd (upd (upd (upd (upd (upd (upd (upd (upd (upd (upd (upd ((iX11_49_39 h).2.1 69) 0 (-1)) 1 (-1)) 2 (-1)) 3 (-1)) 4 (-1)) 5 (-1)) 6 (-1)) 7 (-1)) 8 (-1)) 9 (-1)) 10 (-1)) 11 (-1)) 12 (-1)) 13 (-1)) 14 (-1)) 15 (-1)) 16 (-1)) 17 (-1)) 18 (-1)) 19 (-1)) 20 (-1)) 21 (-1)) 22 (-1)) 23 (-1)) 24 (-1)) 25 (-1))) (by exact sI_sI _ _ _ _) ?_
  refine ev_dup (pc := 543) dX11_init_543 rfl ?_
  refine ev_bipush (pc := 544) (v := 26) dX11_init_544 (by decide) ?_
  refine ev_iconst (pc := 546) (v := (-1)) dX11_init_546 (by decide) ?_
  refine ev_iast (pc := 547) dX11_init_547 rfl (Nat.le_of_ble_eq_true rfl) (vp_in_nI (n := 26) (by decide) (by decide)) ?_
  refine ev_eqH (h' := sI (iX11_49_39 h) 69 (upd (upd (upd (upd (upd (upd (upd (upd (upd (upd (upd (upd (upd (upd (upd (upd (upd (upd (upd (upd (upd (upd (upd (upd (upd (upd (upd ((iX11_49_39 h).2.1 69) 0 (-1)) 1 (-1)) 2 (-1)) 3 (-1)) 4 (-1)) 5 (-1)) 6 (-1)) 7 (-1)) 8 (-1)) 9 (-1)) 10 (-1)) 11 (-1)) 12 (-1)) 13 (-1)) 14 (-1)) 15 (-1)) 16 (-1)) 17 (-1)) 18 (-1)) 19 (-1)) 20 (-1)) 21 (-1)) 22 (-1)) 23 (-1)) 24 (-1)) 25 (-1)) 26 (-1))) (by exact sI_sI _ _ _ _) ?_
  refine ev_dup (pc := 548) dX11_init_548 rfl ?_
  refine ev_bipush (pc := 549) (v := 27) dX11_init_549 (by decide) ?_
  refine ev_iconst (pc := 551) (v := (-1)) dX11_init_551 (by decide) ?_
  refine ev_iast (pc := 552) dX11_init_552 rfl (Nat.le_of_ble_eq_true rfl) (vp_in_nI (n := 27) (by decide) (by decide)) ?_
  refine ev_eqH (h' := sI (iX11_49_39 h) 69 (upd (upd (upd (upd (upd (upd (upd (upd (upd (upd (upd (upd (upd (upd (upd (upd (upd (upd (upd (upd (upd (upd (upd (upd (upd (upd (upd (upd ((iX11_49_39 h).2.1 69) 0 (-1)) 1 (-1)) 2 (-1)) 3 (-1)) 4 (-1)) 5 (-1)) 6 (-1)) 7 (-1)) 8 (-1)) 9 (-1)) 10 (-1)) 11 (-1)) 12 (-1)) 13 (-1)) 14 (-1)) 15 (-1)) 16 (-1)) 17 (-1)) 18 (-1)) 19 (-1)) 20 (-1)) 21 (-1)) 22 (-1)) 23 (-1)) 24 (-1)) 25 (-1)) 26 (-1)) 27 (-1))) (by exact sI_sI _ _ _ _) ?_
  refine ev_dup (pc := 553) dX11_init_553 rfl ?_
  refine ev_bipush (pc := 554) (v := 28) dX11_init_554 (by decide) ?_
  refine ev_iconst (pc := 556) (v := (-1)) dX11_init_556 (by decide) ?_
  refine ev_iast (pc := 557) dX11_init_557 rfl (Nat.le_of_ble_eq_true rfl) (vp_in_nI (n := 28) (by decide) (by decide)) ?_
  refine ev_eqH (h' := sI (iX11_49_39 h) 69 (upd (upd (upd (upd (upd (upd (upd (upd (upd (upd (upd (upd (upd (upd (upd (upd (upd (upd (upd (upd (upd (upd (upd (upd (upd (upd (upd (upd (upd ((iX11_49_39 h).2.1 69) 0 (-1)) 1 (-1)) 2 (-1)) 3 (-1)) 4 (-1)) 5 (-1)) 6 (-1)) 7 (-1)) 8 (-1)) 9 (-1)) 10 (-1)) 11 (-1)) 12 (-1)) 13 (-1)) 14 (-1)) 15 (-1)) 16 (-1)) 17 (-1)) 18 (-1)) 19 (-1)) 20 (-1)) 21 (-1)) 22 (-1)) 23 (-1)) 24 (-1)) 25 (-1)) 26 (-1)) 27 (-1)) 28 (-1))) (by exact sI_sI _ _ _ _) ?_
  refine ev_dup (pc := 558) dX11_init_558 rfl ?_
  refine ev_bipush (pc := 559) (v := 29) dX11_init_559 (by decide) ?_
  refine ev_iconst (pc := 561) (v := (-1)) dX11_init_561 (by decide) ?_
  refine ev_iast (pc := 562) dX11_init_562 rfl (Nat.le_of_ble_eq_true rfl) (vp_in_nI (n := 29) (by decide) (by decide)) ?_
  refine ev_eqH (h' := sI (iX11_49_39 h) 69 (upd (upd (upd (upd (upd (upd (upd (upd (upd (upd (upd (upd (upd (upd (upd (upd (upd (upd (upd (upd (upd (upd (upd (upd (upd (upd (upd (upd (upd (upd ((iX11_49_39 h).2.1 69) 0 (-1)) 1 (-1)) 2 (-1)) 3 (-1)) 4 (-1)) 5 (-1)) 6 (-1)) 7 (-1)) 8 (-1)) 9 (-1)) 10 (-1)) 11 (-1)) 12 (-1)) 13 (-1)) 14 (-1)) 15 (-1)) 16 (-1)) 17 (-1)) 18 (-1)) 19 (-1)) 20 (-1)) 21 (-1)) 22 (-1)) 23 (-1)) 24 (-1)) 25 (-1)) 26 (-1)) 27 (-1)) 28 (-1)) 29 (-1))) (by exact sI_sI _ _ _ _) ?_
  refine ev_dup (pc := 563) dX11_init_563 rfl ?_
  refine ev_bipush (pc := 564) (v := 30) dX11_init_564 (by decide) ?_
  refine ev_iconst (pc := 566) (v := (-1)) dX11_init_566 (by decide) ?_
  refine ev_iast (pc := 567) dX11_init_567 rfl (Nat.le_of_ble_eq_true rfl) (vp_in_nI (n := 30) (by decide) (by decide)) ?_
  refine ev_eqH (h' := sI (iX11_49_39 h) 69 (upd (upd (upd (upd (upd (upd (upd (upd (upd (upd (upd (upd (upd (upd (upd (upd (upd (upd (upd (upd (upd (upd (upd (upd (upd (upd (upd (upd (upd (upd (upd ((iX11_49_39 h).2.1 69) 0 (-1)) 1 (-1)) 2 (-1)) 3 (-1)) 4 (-1)) 5 (-1)) 6 (-1)) 7 (-1)) 8 (-1)) 9 (-1)) 10 (-1)) 11 (-1)) 12 (-1)) 13 (-1)) 14 (-1)) 15 (-1)) 16 (-1)) 17 (-1)) 18 (-1)) 19 (-1)) 20 (-1)) 21 (-1)) 22 (-1)) 23 (-1)) 24 (-1)) 25 (-1)) 26 (-1)) 27 (-1)) 28 (-1)) 29 (-1)) 30 (-1))) (by exact sI_sI _ _ _ _) ?_
  refine ev_dup (pc := 568) dX11_init_568 rfl ?_
  refine ev_bipush (pc := 569) (v := 31) dX11_init_569 (by decide) ?_
  refine ev_iconst (pc := 571) (v := (-1)) dX11_init_571 (by decide) ?_
  refine ev_iast (pc := 572) dX11_init_572 rfl (Nat.le_of_ble_eq_true rfl) (vp_in_nI (n := 31) (by decide) (by decide)) ?_
  refine ev_eqH (h' := sI (iX11_49_39 h) 69 (upd (upd (upd (upd (upd (upd (upd (upd (upd (upd (upd (upd (upd (upd (upd (upd (upd (upd (upd (upd (upd (upd (upd (upd (upd (upd (upd (upd (upd (upd (upd (upd ((iX11_49_39 h).2.1 69) 0 (-1)) 1 (-1)) 2 (-1)) 3 (-1)) 4 (-1)) 5 (-1)) 6 (-1)) 7 (-1)) 8 (-1)) 9 (-1)) 10 (-1)) 11 (-1)) 12 (-1)) 13 (-1)) 14 (-1)) 15 (-1)) 16 (-1)) 17 (-1)) 18 (-1)) 19 (-1)) 20 (-1)) 21 (-1)) 22 (-1)) 23 (-1)) 24 (-1)) 25 (-1)) 26 (-1)) 27 (-1)) 28 (-1)) 29 (-1)) 30 (-1)) 31 (-1))) (by exact sI_sI _ _ _ _) ?_
  refine ev_dup (pc := 573) dX11_init_573 rfl ?_
  refine ev_bipush (pc := 574) (v := 32) dX11_init_574 (by decide) ?_
  refine ev_iconst (pc := 576) (v := (-1)) dX11_init_576 (by decide) ?_
  refine ev_iast (pc := 577) dX11_init_577 rfl (Nat.le_of_ble_eq_true rfl) (vp_in_nI (n := 32) (by decide) (by decide)) ?_
  refine ev_eqH (h' := sI (iX11_49_39 h) 69 (upd (upd (upd (upd (upd (upd (upd (upd (upd (upd (upd (upd (upd (upd (upd (upd (upd (upd (upd (upd (upd (upd (upd (upd (upd (upd (upd (upd (upd (upd (upd (upd (upd ((iX11_49_39 h).2.1 69) 0 (-1)) 1 (-1)) 2 (-1)) 3 (-1)) 4 (-1)) 5 (-1)) 6 (-1)) 7 (-1)) 8 (-1)) 9 (-1)) 10 (-1)) 11 (-1)) 12 (-1)) 13 (-1)) 14 (-1)) 15 (-1)) 16 (-1)) 17 (-1)) 18 (-1)) 19 (-1)) 20 (-1)) 21 (-1)) 22 (-1)) 23 (-1)) 24 (-1)) 25 (-1)) 26 (-1)) 27 (-1)) 28 (-1)) 29 (-1)) 30 (-1)) 31 (-1)) 32 (-1))) (by exact sI_sI _ _ _ _) ?_
  refine ev_dup (pc := 578) dX11_init_578 rfl ?_
  refine ev_bipush (pc := 579) (v := 33) dX11_init_579 (by decide) ?_
  refine ev_iconst (pc := 581) (v := (-1)) dX11_init_581 (by decide) ?_
  refine ev_iast (pc := 582) dX11_init_582 rfl (Nat.le_of_ble_eq_true rfl) (vp_in_nI (n := 33) (by decide) (by decide)) ?_
  refine ev_eqH (h' := sI (iX11_49_39 h) 69 (upd (upd (upd (upd (upd (upd (upd (upd (upd (upd (upd (upd (upd (upd (upd (upd (upd (upd (upd (upd (upd (upd (upd (upd (upd (upd (upd (upd (upd (upd (upd (upd (upd (upd ((iX11_49_39 h).2.1 69) 0 (-1)) 1 (-1)) 2 (-1)) 3 (-1)) 4 (-1)) 5 (-1)) 6 (-1)) 7 (-1)) 8 (-1)) 9 (-1)) 10 (-1)) 11 (-1)) 12 (-1)) 13 (-1)) 14 (-1)) 15 (-1)) 16 (-1)) 17 (-1)) 18 (-1)) 19 (-1)) 20 (-1)) 21 (-1)) 22 (-1)) 23 (-1)) 24 (-1)) 25 (-1)) 26 (-1)) 27 (-1)) 28 (-1)) 29 (-1)) 30 (-1)) 31 (-1)) 32 (-1)) 33 (-1))) (by exact sI_sI _ _ _ _) ?_
  refine ev_dup (pc := 583) dX11_init_583 rfl ?_
  refine ev_bipush (pc := 584) (v := 34) dX11_init_584 (by decide) ?_
  refine ev_iconst (pc := 586) (v := (-1)) dX11_init_586 (by decide) ?_
  refine ev_iast (pc := 587) dX11_init_587 rfl (Nat.le_of_ble_eq_true rfl) (vp_in_nI (n := 34) (by decide) (by decide)) ?_
  refine ev_eqH (h' := sI (iX11_49_39 h) 69 (upd (upd (upd (upd (upd (upd (upd (upd (upd (upd (upd (upd (upd (upd (upd (upd (upd (upd (upd (upd (upd (upd (upd (upd (upd (upd (upd (upd (upd (upd (upd (upd (upd (upd (upd ((iX11_49_39 h).2.1 69) 0 (-1)) 1 (-1)) 2 (-1)) 3 (-1)) 4 (-1)) 5 (-1)) 6 (-1)) 7 (-1)) 8 (-1)) 9 (-1)) 10 (-1)) 11 (-1)) 12 (-1)) 13 (-1)) 14 (-1)) 15 (-1)) 16 (-1)) 17 (-1)) 18 (-1)) 19 (-1)) 20 (-1)) 21 (-1)) 22 (-1)) 23 (-1)) 24 (-1)) 25 (-1)) 26 (-1)) 27 (-1)) 28 (-1)) 29 (-1)) 30 (-1)) 31 (-1)) 32 (-1)) 33 (-1)) 34 (-1))) (by exact sI_sI _ _ _ _) ?_
  refine ev_dup (pc := 588) dX11_init_588 rfl ?_
  refine ev_bipush (pc := 589) (v := 35) dX11_init_589 (by decide) ?_
  refine ev_iconst (pc := 591) (v := (-1)) dX11_init_591 (by decide) ?_
  refine ev_iast (pc := 592) dX11_init_592 rfl (Nat.le_of_ble_eq_true rfl) (vp_in_nI (n := 35) (by decide) (by decide)) ?_
  refine ev_eqH (h' := sI (iX11_49_39 h) 69 (upd (upd (upd (upd (upd (upd (upd (upd (upd (upd (upd (upd (upd (upd (upd (upd (upd (upd (upd (upd (upd (upd (upd (upd (upd (upd (upd (upd (upd (upd (upd (upd (upd (upd (upd (upd ((iX11_49_39 h).2.1 69) 0 (-1)) 1 (-1)) 2 (-1)) 3 (-1)) 4 (-1)) 5 (-1)) 6 (-1)) 7 (-1)) 8 (-1)) 9 (-1)) 10 (-1)) 11 (-1)) 12 (-1)) 13 (-1)) 14 (-1)) 15 (-1)) 16 (-1)) 17 (-1)) 18 (-1)) 19 (-1)) 20 (-1)) 21 (-1)) 22 (-1)) 23 (-1)) 24 (-1)) 25 (-1)) 26 (-1)) 27 (-1)) 28 (-1)) 29 (-1)) 30 (-1)) 31 (-1)) 32 (-1)) 33 (-1)) 34 (-1)) 35 (-1))) (by exact sI_sI _ _ _ _) ?_
  refine ev_dup (pc := 593) dX11_init_593 rfl ?_
  refine ev_bipush (pc := 594) (v := 36) dX11_init_594 (by decide) ?_
  refine ev_iconst (pc := 596) (v := (-1)) dX11_init_596 (by decide) ?_
  refine ev_iast (pc := 597) dX11_init_597 rfl (Nat.le_of_ble_eq_true rfl) (vp_in_nI (n := 36) (by decide) (by decide)) ?_
  refine ev_eqH (h' := sI (iX11_49_39 h) 69 (upd (upd (upd (upd (upd (upd (upd (upd (upd (upd (upd (upd (upd (upd (upd (upd (upd (upd (upd (upd (upd (upd (upd (upd (upd (upd (upd (upd (upd (upd (upd (upd (upd (upd (upd (upd (upd ((iX11_49_39 h).2.1 69) 0 (-1)) 1 (-1)) 2 (-1)) 3 (-1)) 4 (-1)) 5 (-1)) 6 (-1)) 7 (-1)) 8 (-1)) 9 (-1)) 10 (-1)) 11 (-1)) 12 (-1)) 13 (-1)) 14 (-1)) 15 (-1)) 16 (-1)) 17 (-1)) 18 (-1)) 19 (-1)) 20 (-1)) 21 (-1)) 22 (-1)) 23 (-1)) 24 (-1)) 25 (-1)) 26 (-1)) 27 (-1)) 28 (-1)) 29 (-1)) 30 (-1)) 31 (-1)) 32 (-1)) 33 (-1)) 34 (-1)) 35 (-1)) 36 (-1))) (by exact sI_sI _ _ _ _) ?_
  refine ev_dup (pc := 598) dX11_init_598 rfl ?_
  refine ev_bipush (pc := 599) (v := 37) dX11_init_599 (by decide) ?_
  refine ev_iconst (pc := 601) (v := (-1)) dX11_init_601 (by decide) ?_
  refine ev_iast (pc := 602) dX11_init_602 rfl (Nat.le_of_ble_eq_true rfl) (vp_in_nI (n := 37) (by decide) (by decide)) ?_
  refine ev_eqH (h' := sI (iX11_49_39 h) 69 (upd (upd (upd (upd (upd (upd (upd (upd (upd (upd (upd (upd (upd (upd (upd (upd (upd (upd (upd (upd (upd (upd (upd (upd (upd (upd (upd (upd (upd (upd (upd (upd (upd (upd (upd (upd (upd (upd ((iX11_49_39 h).2.1 69) 0 (-1)) 1 (-1)) 2 (-1)) 3 (-1)) 4 (-1)) 5 (-1)) 6 (-1)) 7 (-1)) 8 (-1)) 9 (-1)) 10 (-1)) 11 (-1)) 12 (-1)) 13 (-1)) 14 (-1)) 15 (-1)) 16 (-1)) 17 (-1)) 18 (-1)) 19 (-1)) 20 (-1)) 21 (-1)) 22 (-1)) 23 (-1)) 24 (-1)) 25 (-1)) 26 (-1)) 27 (-1)) 28 (-1)) 29 (-1)) 30 (-1)) 31 (-1)) 32 (-1)) 33 (-1)) 34 (-1)) 35 (-1)) 36 (-1)) 37 (-1))) (by exact sI_sI _ _ _ _) ?_
  refine ev_dup (pc := 603) dX11_init_603 rfl ?_
  refine ev_bipush (pc := 604) (v := 38) dX11_init_604 (by decide) ?_
  refine ev_iconst (pc := 606) (v := (-1)) dX11_init_606 (by decide) ?_
  refine ev_iast (pc := 607) dX11_init_607 rfl (Nat.le_of_ble_eq_true rfl) (vp_in_nI (n := 38) (by decide) (by decide)) ?_
  refine ev_eqH (h' := sI (iX11_49_39 h) 69 (upd (upd (upd (upd (upd (upd (upd (upd (upd (upd (upd (upd (upd (upd (upd (upd (upd (upd (upd (upd (upd (upd (upd (upd (upd (upd (upd (upd (upd (upd (upd (upd (upd (upd (upd (upd (upd (upd (upd ((iX11_49_39 h).2.1 69) 0 (-1)) 1 (-1)) 2 (-1)) 3 (-1)) 4 (-1)) 5 (-1)) 6 (-1)) 7 (-1)) 8 (-1)) 9 (-1)) 10 (-1)) 11 (-1)) 12 (-1)) 13 (-1)) 14 (-1)) 15 (-1)) 16 (-1)) 17 (-1)) 18 (-1)) 19 (-1)) 20 (-1)) 21 (-1)) 22 (-1)) 23 (-1)) 24 (-1)) 25 (-1)) 26 (-1)) 27 (-1)) 28 (-1)) 29 (-1)) 30 (-1)) 31 (-1)) 32 (-1)) 33 (-1)) 34 (-1)) 35 (-1)) 36 (-1)) 37 (-1)) 38 (-1))) (by exact sI_sI _ _ _ _) ?_
  refine ev_dup (pc := 608) dX11_init_608 rfl ?_
  refine ev_bipush (pc := 609) (v := 39) dX11_init_609 (by decide) ?_
  refine ev_iconst (pc := 611) (v := (-1)) dX11_init_611 (by decide) ?_
  refine ev_iast (pc := 612) dX11_init_612 rfl (Nat.le_of_ble_eq_true rfl) (vp_in_nI (n := 39) (by decide) (by decide)) ?_
  refine ev_eqH (h' := sI (iX11_49_39 h) 69 (upd (upd (upd (upd (upd (upd (upd (upd (upd (upd (upd (upd (upd (upd (upd (upd (upd (upd (upd (upd (upd (upd (upd (upd (upd (upd (upd (upd (upd (upd (upd (upd (upd (upd (upd (upd (upd (upd (upd (upd ((iX11_49_39 h).2.1 69) 0 (-1)) 1 (-1)) 2 (-1)) 3 (-1)) 4 (-1)) 5 (-1)) 6 (-1)) 7 (-1)) 8 (-1)) 9 (-1)) 10 (-1)) 11 (-1)) 12 (-1)) 13 (-1)) 14 (-1)) 15 (-1)) 16 (-1)) 17 (-1)) 18 (-1)) 19 (-1)) 20 (-1)) 21 (-1)) 22 (-1)) 23 (-1)) 24 (-1)) 25 (-1)) 26 (-1)) 27 (-1)) 28 (-1)) 29 (-1)) 30 (-1)) 31 (-1)) 32 (-1)) 33 (-1)) 34 (-1)) 35 (-1)) 36 (-1)) 37 (-1)) 38 (-1)) 39 (-1))) (by exact sI_sI _ _ _ _) ?_
  refine ev_dup (pc := 613) dX11_init_613 rfl ?_
  refine ev_bipush (pc := 614) (v := 40) dX11_init_614 (by decide) ?_
  refine ev_iconst (pc := 616) (v := (-1)) dX11_init_616 (by decide) ?_
  refine ev_iast (pc := 617) dX11_init_617 rfl (Nat.le_of_ble_eq_true rfl) (vp_in_nI (n := 40) (by decide) (by decide)) ?_
  refine ev_eqH (h' := sI (iX11_49_39 h) 69 (upd (upd (upd (upd (upd (upd (upd (upd (upd (upd (upd (upd (upd (upd (upd (upd (upd (upd (upd (upd (upd (upd (upd (upd (upd (upd (upd (upd (upd (upd (upd (upd (upd (upd (upd (upd (upd (upd (upd (upd (upd ((iX11_49_39 h).2.1 69) 0 (-1)) 1 (-1)) 2 (-1)) 3 (-1)) 4 (-1)) 5 (-1)) 6 (-1)) 7 (-1)) 8 (-1)) 9 (-1)) 10 (-1)) 11 (-1)) 12 (-1)) 13 (-1)) 14 (-1)) 15 (-1)) 16 (-1)) 17 (-1)) 18 (-1)) 19 (-1)) 20 (-1)) 21 (-1)) 22 (-1)) 23 (-1)) 24 (-1)) 25 (-1)) 26 (-1)) 27 (-1)) 28 (-1)) 29 (-1)) 30 (-1)) 31 (-1)) 32 (-1)) 33 (-1)) 34 (-1)) 35 (-1)) 36 (-1)) 37 (-1)) 38 (-1)) 39 (-1)) 40 (-1))) (by exact sI_sI _ _ _ _) ?_
  refine ev_dup (pc := 618) dX11_init_618 rfl ?_
  refine ev_bipush (pc := 619) (v := 41) dX11_init_619 (by decide) ?_
  refine ev_iconst (pc := 621) (v := (-1)) dX11_init_621 (by decide) ?_
  refine ev_iast (pc := 622) dX11_init_622 rfl (Nat.le_of_ble_eq_true rfl) (vp_in_nI (n := 41) (by decide) (by decide)) ?_
  refine ev_eqH (h' := sI (iX11_49_39 h) 69 (upd (upd (upd (upd (upd (upd (upd (upd (upd (upd (upd (upd (upd (upd (upd (upd (upd (upd (upd (upd (upd (upd (upd (upd (upd (upd (upd (upd (upd (upd (upd (upd (upd (upd (upd (upd (upd (upd (upd (upd (upd (upd ((iX11_49_39 h).2.1 69) 0 (-1)) 1 (-1)) 2 (-1)) 3 (-1)) 4 (-1)) 5 (-1)) 6 (-1)) 7 (-1)) 8 (-1)) 9 (-1)) 10 (-1)) 11 (-1)) 12 (-1)) 13 (-1)) 14 (-1)) 15 (-1)) 16 (-1)) 17 (-1)) 18 (-1)) 19 (-1)) 20 (-1)) 21 (-1)) 22 (-1)) 23 (-1)) 24 (-1)) 25 (-1)) 26 (-1)) 27 (-1)) 28 (-1)) 29 (-1)) 30 (-1)) 31 (-1)) 32 (-1)) 33 (-1)) 34 (-1)) 35 (-1)) 36 (-1)) 37 (-1)) 38 (-1)) 39 (-1)) 40 (-1)) 41 (-1))) (by exact sI_sI _ _ _ _) ?_
  refine ev_dup (pc := 623) dX11_init_623 rfl ?_
  refine ev_bipush (pc := 624) (v := 42) dX11_init_624 (by decide) ?_
  refine ev_iconst (pc := 626) (v := (-1)) dX11_init_626 (by decide) ?_
  refine ev_iast (pc := 627) dX11_init_627 rfl (Nat.le_of_ble_eq_true rfl) (vp_in_nI (n := 42) (by decide) (by decide)) ?_
  refine ev_eqH (h' := sI (iX11_49_39 h) 69 (upd (upd (upd (upd (upd (upd (upd (upd (upd (upd (upd (upd (upd (upd (upd (upd (upd (upd (upd (upd (upd (upd (upd (upd (upd (upd (upd (upd (upd (upd (upd (upd (upd (upd (upd (upd (upd (upd (upd (upd (upd (upd (upd ((iX11_49_39 h).2.1 69) 0 (-1)) 1 (-1)) 2 (-1)) 3 (-1)) 4 (-1)) 5 (-1)) 6 (-1)) 7 (-1)) 8 (-1)) 9 (-1)) 10 (-1)) 11 (-1)) 12 (-1)) 13 (-1)) 14 (-1)) 15 (-1)) 16 (-1)) 17 (-1)) 18 (-1)) 19 (-1)) 20 (-1)) 21 (-1)) 22 (-1)) 23 (-1)) 24 (-1)) 25 (-1)) 26 (-1)) 27 (-1)) 28 (-1)) 29 (-1)) 30 (-1)) 31 (-1)) 32 (-1)) 33 (-1)) 34 (-1)) 35 (-1)) 36 (-1)) 37 (-1)) 38 (-1)) 39 (-1)) 40 (-1)) 41 (-1)) 42 (-1))) (by exact sI_sI _ _ _ _) ?_
  refine ev_dup (pc := 628) dX11_init_628 rfl ?_
  refine ev_bipush (pc := 629) (v := 43) dX11_init_629 (by decide) ?_
  refine ev_iconst (pc := 631) (v := (-1)) dX11_init_631 (by decide) ?_
  refine ev_iast (pc := 632) dX11_init_632 rfl (Nat.le_of_ble_eq_true rfl) (vp_in_nI (n := 43) (by decide) (by decide)) ?_
  refine ev_eqH (h' := sI (iX11_49_39 h) 69 (upd (upd (upd (upd (upd (upd (upd (upd (upd (upd (upd (upd (upd (upd (upd (upd (upd (upd (upd (upd (upd (upd (upd (upd (upd (upd (upd (upd (upd (upd (upd (upd (upd (upd (upd (upd (upd (upd (upd (upd (upd (upd (upd (upd ((iX11_49_39 h).2.1 69) 0 (-1)) 1 (-1)) 2 (-1)) 3 (-1)) 4 (-1)) 5 (-1)) 6 (-1)) 7 (-1)) 8 (-1)) 9 (-1)) 10 (-1)) 11 (-1)) 12 (-1)) 13 (-1)) 14 (-1)) 15 (-1)) 16 (-1)) 17 (-1)) 18 (-1)) 19 (-1)) 20 (-1)) 21 (-1)) 22 (-1)) 23 (-1)) 24 (-1)) 25 (-1)) 26 (-1)) 27 (-1)) 28 (-1)) 29 (-1)) 30 (-1)) 31 (-1)) 32 (-1)) 33 (-1)) 34 (-1)) 35 (-1)) 36 (-1)) 37 (-1)) 38 (-1)) 39 (-1)) 40 (-1)) 41 (-1)) 42 (-1)) 43 (-1))) (by exact sI_sI _ _ _ _) ?_
  refine ev_dup (pc := 633) dX11_init_633 rfl ?_
  refine ev_bipush (pc := 634) (v := 44) dX11_init_634 (by decide) ?_
  refine ev_iconst (pc := 636) (v := (-1)) dX11_init_636 (by decide) ?_
  refine ev_iast (pc := 637) dX11_init_637 rfl (Nat.le_of_ble_eq_true rfl) (vp_in_nI (n := 44) (by decide) (by decide)) ?_
  refine ev_eqH (h' := sI (iX11_49_39 h) 69 (upd (upd (upd (upd (upd (upd (upd (upd (upd (upd (upd (upd (upd (upd (upd (upd (upd (upd (upd (upd (upd (upd (upd (upd (upd (upd (upd (upd (upd (upd (upd (upd (upd (upd (upd (upd (upd (upd (upd (upd (upd (upd (upd (upd (upd ((iX11_49_39 h).2.1 69) 0 (-1)) 1 (-1)) 2 (-1)) 3 (-1)) 4 (-1)) 5 (-1)) 6 (-1)) 7 (-1)) 8 (-1)) 9 (-1)) 10 (-1)) 11 (-1)) 12 (-1)) 13 (-1)) 14 (-1)) 15 (-1)) 16 (-1)) 17 (-1)) 18 (-1)) 19 (-1)) 20 (-1)) 21 (-1)) 22 (-1)) 23 (-1)) 24 (-1)) 25 (-1)) 26 (-1)) 27 (-1)) 28 (-1)) 29 (-1)) 30 (-1)) 31 (-1)) 32 (-1)) 33 (-1)) 34 (-1)) 35 (-1)) 36 (-1)) 37 (-1)) 38 (-1)) 39 (-1)) 40 (-1)) 41 (-1)) 42 (-1)) 43 (-1)) 44 (-1))) (by exact sI_sI _ _ _ _) ?_
  refine ev_dup (pc := 638) dX11_init_638 rfl ?_
  refine ev_bipush (pc := 639) (v := 45) dX11_init_639 (by decide) ?_
  refine ev_iconst (pc := 641) (v := (-1)) dX11_init_641 (by decide) ?_
  refine ev_iast (pc := 642) dX11_init_642 rfl (Nat.le_of_ble_eq_true rfl) (vp_in_nI (n := 45) (by decide) (by decide)) ?_
  refine ev_eqH (h' := sI (iX11_49_39 h) 69 (upd (upd (upd (upd (upd (upd (upd (upd (upd (upd (upd (upd (upd (upd (upd (upd (upd (upd (upd (upd (upd (upd (upd (upd (upd (upd (upd (upd (upd (upd (upd (upd (upd (upd (upd (upd (upd (upd (upd (upd (upd (upd (upd (upd (upd (upd ((iX11_49_39 h).2.1 69) 0 (-1)) 1 (-1)) 2 (-1)) 3 (-1)) 4 (-1)) 5 (-1)) 6 (-1)) 7 (-1)) 8 (-1)) 9 (-1)) 10 (-1)) 11 (-1)) 12 (-1)) 13 (-1)) 14 (-1)) 15 (-1)) 16 (-1)) 17 (-1)) 18 (-1)) 19 (-1)) 20 (-1)) 21 (-1)) 22 (-1)) 23 (-1)) 24 (-1)) 25 (-1)) 26 (-1)) 27 (-1)) 28 (-1)) 29 (-1)) 30 (-1)) 31 (-1)) 32 (-1)) 33 (-1)) 34 (-1)) 35 (-1)) 36 (-1)) 37 (-1)) 38 (-1)) 39 (-1)) 40 (-1)) 41 (-1)) 42 (-1)) 43 (-1)) 44 (-1)) 45 (-1))) (by exact sI_sI _ _ _ _) ?_
  refine ev_dup (pc := 643) dX11_init_643 rfl ?_
  refine ev_bipush (pc := 644) (v := 46) dX11_init_644 (by decide) ?_
  refine ev_iconst (pc := 646) (v := (-1)) dX11_init_646 (by decide) ?_
  refine ev_iast (pc := 647) dX11_init_647 rfl (Nat.le_of_ble_eq_true rfl) (vp_in_nI (n := 46) (by decide) (by decide)) ?_
  refine ev_eqH (h' := sI (iX11_49_39 h) 69 (upd (upd (upd (upd (upd (upd (upd (upd (upd (upd (upd (upd (upd (upd (upd (upd (upd (upd (upd (upd (upd (upd (upd (upd (upd (upd (upd (upd (upd (upd (upd (upd (upd (upd (upd (upd (upd (upd (upd (upd (upd (upd (upd (upd (upd (upd (upd ((iX11_49_39 h).2.1 69) 0 (-1)) 1 (-1)) 2 (-1)) 3 (-1)) 4 (-1)) 5 (-1)) 6 (-1)) 7 (-1)) 8 (-1)) 9 (-1)) 10 (-1)) 11 (-1)) 12 (-1)) 13 (-1)) 14 (-1)) 15 (-1)) 16 (-1)) 17 (-1)) 18 (-1)) 19 (-1)) 20 (-1)) 21 (-1)) 22 (-1)) 23 (-1)) 24 (-1)) 25 (-1)) 26 (-1)) 27 (-1)) 28 (-1)) 29 (-1)) 30 (-1)) 31 (-1)) 32 (-1)) 33 (-1)) 34 (-1)) 35 (-1)) 36 (-1)) 37 (-1)) 38 (-1)) 39 (-1)) 40 (-1)) 41 (-1)) 42 (-1)) 43 (-1)) 44 (-1)) 45 (-1)) 46 (-1))) (by exact sI_sI _ _ _ _) ?_
  refine ev_dup (pc := 648) dX11_init_648 rfl ?_
  refine ev_bipush (pc := 649) (v := 47) dX11_init_649 (by decide) ?_
  refine ev_iconst (pc := 651) (v := (-1)) dX11_init_651 (by decide) ?_
  refine ev_iast (pc := 652) dX11_init_652 rfl (Nat.le_of_ble_eq_true rfl) (vp_in_nI (n := 47) (by decide) (by decide)) ?_
  refine ev_eqH (h' := sI (iX11_49_39 h) 69 (upd (upd (upd (upd (upd (upd (upd (upd (upd (upd (upd (upd (upd (upd (upd (upd (upd (upd (upd (upd (upd (upd (upd (upd (upd (upd (upd (upd (upd (upd (upd (upd (upd (upd (upd (upd (upd (upd (upd (upd (upd (upd (upd (upd (upd (upd (upd (upd ((iX11_49_39 h).2.1 69) 0 (-1)) 1 (-1)) 2 (-1)) 3 (-1)) 4 (-1)) 5 (-1)) 6 (-1)) 7 (-1)) 8 (-1)) 9 (-1)) 10 (-1)) 11 (-1)) 12 (-1)) 13 (-1)) 14 (-1)) 15 (-1)) 16 (-1)) 17 (-1)) 18 (-1)) 19 (-1)) 20 (-1)) 21 (-1)) 22 (-1)) 23 (-1)) 24 (-1)) 25 (-1)) 26 (-1)) 27 (-1)) 28 (-1)) 29 (-1)) 30 (-1)) 31 (-1)) 32 (-1)) 33 (-1)) 34 (-1)) 35 (-1)) 36 (-1)) 37 (-1)) 38 (-1)) 39 (-1)) 40 (-1)) 41 (-1)) 42 (-1)) 43 (-1)) 44 (-1)) 45 (-1)) 46 (-1)) 47 (-1))) (by exact sI_sI _ _ _ _) ?_
  refine ev_dup (pc := 653) dX11_init_653 rfl ?_
  refine ev_bipush (pc := 654) (v := 48) dX11_init_654 (by decide) ?_
  refine ev_iconst (pc := 656) (v := (-1)) dX11_init_656 (by decide) ?_
  refine ev_iast (pc := 657) dX11_init_657 rfl (Nat.le_of_ble_eq_true rfl) (vp_in_nI (n := 48) (by decide) (by decide)) ?_
  refine ev_eqH (h' := sI (iX11_49_39 h) 69 (upd (upd (upd (upd (upd (upd (upd (upd (upd (upd (upd (upd (upd (upd (upd (upd (upd (upd (upd (upd (upd (upd (upd (upd (upd (upd (upd (upd (upd (upd (upd (upd (upd (upd (upd (upd (upd (upd (upd (upd (upd (upd (upd (upd (upd (upd (upd (upd (upd ((iX11_49_39 h).2.1 69) 0 (-1)) 1 (-1)) 2 (-1)) 3 (-1)) 4 (-1)) 5 (-1)) 6 (-1)) 7 (-1)) 8 (-1)) 9 (-1)) 10 (-1)) 11 (-1)) 12 (-1)) 13 (-1)) 14 (-1)) 15 (-1)) 16 (-1)) 17 (-1)) 18 (-1)) 19 (-1)) 20 (-1)) 21 (-1)) 22 (-1)) 23 (-1)) 24 (-1)) 25 (-1)) 26 (-1)) 27 (-1)) 28 (-1)) 29 (-1)) 30 (-1)) 31 (-1)) 32 (-1)) 33 (-1)) 34 (-1)) 35 (-1)) 36 (-1)) 37 (-1)) 38 (-1)) 39 (-1)) 40 (-1)) 41 (-1)) 42 (-1)) 43 (-1)) 44 (-1)) 45 (-1)) 46 (-1)) 47 (-1)) 48 (-1))) (by exact sI_sI _ _ _ _) ?_
  refine ev_dup (pc := 658) dX11_init_658 rfl ?_
  refine ev_bipush (pc := 659) (v := 49) dX11_init_659 (by decide) ?_
  refine ev_iconst (pc := 661) (v := (-1)) dX11_init_661 (by decide) ?_
  refine ev_iast (pc := 662) dX11_init_662 rfl (Nat.le_of_ble_eq_true rfl) (vp_in_nI (n := 49) (by decide) (by decide)) ?_
  refine ev_eqH (h' := sI (iX11_49_39 h) 69 (upd (upd (upd (upd (upd (upd (upd (upd (upd (upd (upd (upd (upd (upd (upd (upd (upd (upd (upd (upd (upd (upd (upd (upd (upd (upd (upd (upd (upd (upd (upd (upd (upd (upd (upd (upd (upd (upd (upd (upd (upd (upd (upd (upd (upd (upd (upd (upd (upd (upd ((iX11_49_39 h).2.1 69) 0 (-1)) 1 (-1)) 2 (-1)) 3 (-1)) 4 (-1)) 5 (-1)) 6 (-1)) 7 (-1)) 8 (-1)) 9 (-1)) 10 (-1)) 11 (-1)) 12 (-1)) 13 (-1)) 14 (-1)) 15 (-1)) 16 (-1)) 17 (-1)) 18 (-1)) 19 (-1)) 20 (-1)) 21 (-1)) 22 (-1)) 23 (-1)) 24 (-1)) 25 (-1)) 26 (-1)) 27 (-1)) 28 (-1)) 29 (-1)) 30 (-1)) 31 (-1)) 32 (-1)) 33 (-1)) 34 (-1)) 35 (-1)) 36 (-1)) 37 (-1)) 38 (-1)) 39 (-1)) 40 (-1)) 41 (-1)) 42 (-1)) 43 (-1)) 44 (-1)) 45 (-1)) 46 (-1)) 47 (-1)) 48 (-1)) 49 (-1))) (by exact sI_sI _ _ _ _) ?_
  refine ev_dup (pc := 663) dX11_init_663 rfl ?_
  refine ev_bipush (pc := 664) (v := 50) dX11_init_664 (by decide) ?_
  refine ev_iconst (pc := 666) (v := (-1)) dX11_init_666 (by decide) ?_
  refine ev_iast (pc := 667) dX11_init_667 rfl (Nat.le_of_ble_eq_true rfl) (vp_in_nI (n := 50) (by decide) (by decide)) ?_
  refine ev_eqH (h' := sI (iX11_49_39 h) 69 (upd (upd (upd (upd (upd (upd (upd (upd (upd (upd (upd (upd (upd (upd (upd (upd (upd (upd (upd (upd (upd (upd (upd (upd (upd (upd (upd (upd (upd (upd (upd (upd (upd (upd (upd (upd (upd (upd (upd (upd (upd (upd (upd (upd (upd (upd (upd (upd (upd (upd (upd ((iX11_49_39 h).2.1 69) 0 (-1)) 1 (-1)) 2 (-1)) 3 (-1)) 4 (-1)) 5 (-1)) 6 (-1)) 7 (-1)) 8 (-1)) 9 (-1)) 10 (-1)) 11 (-1)) 12 (-1)) 13 (-1)) 14 (-1)) 15 (-1)) 16 (-1)) 17 (-1)) 18 (-1)) 19 (-1)) 20 (-1)) 21 (-1)) 22 (-1)) 23 (-1)) 24 (-1)) 25 (-1)) 26 (-1)) 27 (-1)) 28 (-1)) 29 (-1)) 30 (-1)) 31 (-1)) 32 (-1)) 33 (-1)) 34 (-1)) 35 (-1)) 36 (-1)) 37 (-1)) 38 (-1)) 39 (-1)) 40 (-1)) 41 (-1)) 42 (-1)) 43 (-1)) 44 (-1)) 45 (-1)) 46 (-1)) 47 (-1)) 48 (-1)) 49 (-1)) 50 (-1))) (by exact sI_sI _ _ _ _) ?_
  refine ev_dup (pc := 668) dX11_init_668 rfl ?_
  refine ev_bipush (pc := 669) (v := 51) dX11_init_669 (by decide) ?_
  refine ev_iconst (pc := 671) (v := (-1)) dX11_init_671 (by decide) ?_
  refine ev_iast (pc := 672) dX11_init_672 rfl (Nat.le_of_ble_eq_true rfl) (vp_in_nI (n := 51) (by decide) (by decide)) ?_
  refine ev_eqH (h' := sI (iX11_49_39 h) 69 (upd (upd (upd (upd (upd (upd (upd (upd (upd (upd (upd (upd (upd (upd (upd (upd (upd (upd (upd (upd (upd (upd (upd (upd (upd (upd (upd (upd (upd (upd (upd (upd (upd (upd (upd (upd (upd (upd (upd (upd (upd (upd (upd (upd (upd (upd (upd (upd (upd (upd (upd (upd ((iX11_49_39 h).2.1 69) 0 (-1)) 1 (-1)) 2 (-1)) 3 (-1)) 4 (-1)) 5 (-1)) 6 (-1)) 7 (-1)) 8 (-1)) 9 (-1)) 10 (-1)) 11 (-1)) 12 (-1)) 13 (-1)) 14 (-1)) 15 (-1)) 16 (-1)) 17 (-1)) 18 (-1)) 19 (-1)) 20 (-1)) 21 (-1)) 22 (-1)) 23 (-1)) 24 (-1)) 25 (-1)) 26 (-1)) 27 (-1)) 28 (-1)) 29 (-1)) 30 (-1)) 31 (-1)) 32 (-1)) 33 (-1)) 34 (-1)) 35 (-1)) 36 (-1)) 37 (-1)) 38 (-1)) 39 (-1)) 40 (-1)) 41 (-1)) 42 (-1)) 43 (-1)) 44 (-1)) 45 (-1)) 46 (-1)) 47 (-1)) 48 (-1)) 49 (-1)) 50 (-1)) 51 (-1))) (by exact sI_sI _ _ _ _) ?_
  refine ev_dup (pc := 673) dX11_init_673 rfl ?_
  refine ev_bipush (pc := 674) (v := 52) dX11_init_674 (by decide) ?_
  refine ev_iconst (pc := 676) (v := (-1)) dX11_init_676 (by decide) ?_
  refine ev_iast (pc := 677) dX11_init_677 rfl (Nat.le_of_ble_eq_true rfl) (vp_in_nI (n := 52) (by decide) (by decide)) ?_
  refine ev_eqH (h' := sI (iX11_49_39 h) 69 (upd (upd (upd (upd (upd (upd (upd (upd (upd (upd (upd (upd (upd (upd (upd (upd (upd (upd (upd (upd (upd (upd (upd (upd (upd (upd (upd (upd (upd (upd (upd (upd (upd (upd (upd (upd (upd (upd (upd (upd (upd (upd (upd (upd (upd (upd (upd (upd (upd (upd (upd (upd (upd ((iX11_49_39 h).2.1 69) 0 (-1)) 1 (-1)) 2 (-1)) 3 (-1)) 4 (-1)) 5 (-1)) 6 (-1)) 7 (-1)) 8 (-1)) 9 (-1)) 10 (-1)) 11 (-1)) 12 (-1)) 13 (-1)) 14 (-1)) 15 (-1)) 16 (-1)) 17 (-1)) 18 (-1)) 19 (-1)) 20 (-1)) 21 (-1)) 22 (-1)) 23 (-1)) 24 (-1)) 25 (-1)) 26 (-1)) 27 (-1)) 28 (-1)) 29 (-1)) 30 (-1)) 31 (-1)) 32 (-1)) 33 (-1)) 34 (-1)) 35 (-1)) 36 (-1)) 37 (-1)) 38 (-1)) 39 (-1)) 40 (-1)) 41 (-1)) 42 (-1)) 43 (-1)) 44 (-1)) 45 (-1)) 46 (-1)) 47 (-1)) 48 (-1)) 49 (-1)) 50 (-1)) 51 (-1)) 52 (-1))) (by exact sI_sI _ _ _ _) ?_
  refine ev_dup (pc := 678) dX11_init_678 rfl ?_
  refine ev_bipush (pc := 679) (v := 53) dX11_init_679 (by decide) ?_
  refine ev_iconst (pc := 681) (v := (-1)) dX11_init_681 (by decide) ?_
  refine ev_iast (pc := 682) dX11_init_682 rfl (Nat.le_of_ble_eq_true rfl) (vp_in_nI (n := 53) (by decide) (by decide)) ?_
  refine ev_eqH (h' := sI (iX11_49_39 h) 69 (upd (upd (upd (upd (upd (upd (upd (upd (upd (upd (upd (upd (upd (upd (upd (upd (upd (upd (upd (upd (upd (upd (upd (upd (upd (upd (upd (upd (upd (upd (upd (upd (upd (upd (upd (upd (upd (upd (upd (upd (upd (upd (upd (upd (upd (upd (upd (upd (upd (upd (upd (upd (upd (upd ((iX11_49_39 h).2.1 69) 0 (-1)) 1 (-1)) 2 (-1)) 3 (-1)) 4 (-1)) 5 (-1)) 6 (-1)) 7 (-1)) 8 (-1)) 9 (-1)) 10 (-1)) 11 (-1)) 12 (-1)) 13 (-1)) 14 (-1)) 15 (-1)) 16 (-1)) 17 (-1)) 18 (-1)) 19 (-1)) 20 (-1)) 21 (-1)) 22 (-1)) 23 (-1)) 24 (-1)) 25 (-1)) 26 (-1)) 27 (-1)) 28 (-1)) 29 (-1)) 30 (-1)) 31 (-1)) 32 (-1)) 33 (-1)) 34 (-1)) 35 (-1)) 36 (-1)) 37 (-1)) 38 (-1)) 39 (-1)) 40 (-1)) 41 (-1)) 42 (-1)) 43 (-1)) 44 (-1)) 45 (-1)) 46 (-1)) 47 (-1)) 48 (-1)) 49 (-1)) 50 (-1)) 51 (-1)) 52 (-1)) 53 (-1))) (by exact sI_sI _ _ _ _) ?_
  refine ev_dup (pc := 683) dX11_init_683 rfl ?_
  refine ev_bipush (pc := 684) (v := 54) dX11_init_684 (by decide) ?_
  refine ev_iconst (pc := 686) (v := (-1)) dX11_init_686 (by decide) ?_
  refine ev_iast (pc := 687) dX11_init_687 rfl (Nat.le_of_ble_eq_true rfl) (vp_in_nI (n := 54) (by decide) (by decide)) ?_
  refine ev_eqH (h' := sI (iX11_49_39 h) 69 (upd (upd (upd (upd (upd (upd (upd (upd (upd (upd (upd (upd (upd (upd (upd (upd (upd (upd (upd (upd (upd (upd (upd (upd (upd (upd (upd (upd (upd (upd (upd (upd (upd (upd (upd (upd (upd (upd (upd (upd (upd (upd (upd (upd (upd (upd (upd (upd (upd (upd (upd (upd (upd (upd (upd ((iX11_49_39 h).2.1 69) 0 (-1)) 1 (-1)) 2 (-1)) 3 (-1)) 4 (-1)) 5 (-1)) 6 (-1)) 7 (-1)) 8 (-1)) 9 (-1)) 10 (-1)) 11 (-1)) 12 (-1)) 13 (-1)) 14 (-1)) 15 (-1)) 16 (-1)) 17 (-1)) 18 (-1)) 19 (-1)) 20 (-1)) 21 (-1)) 22 (-1)) 23 (-1)) 24 (-1)) 25 (-1)) 26 (-1)) 27 (-1)) 28 (-1)) 29 (-1)) 30 (-1)) 31 (-1)) 32 (-1)) 33 (-1)) 34 (-1)) 35 (-1)) 36 (-1)) 37 (-1)) 38 (-1)) 39 (-1)) 40 (-1)) 41 (-1)) 42 (-1)) 43 (-1)) 44 (-1)) 45 (-1)) 46 (-1)) 47 (-1)) 48 (-1)) 49 (-1)) 50 (-1)) 51 (-1)) 52 (-1)) 53 (-1)) 54 (-1))) (by exact sI_sI _ _ _ _) ?_
  refine ev_dup (pc := 688) dX11_init_688 rfl ?_
  refine ev_bipush (pc := 689) (v := 55) dX11_init_689 (by decide) ?_
  refine ev_iconst (pc := 691) (v := (-1)) dX11_init_691 (by decide) ?_
  refine ev_iast (pc := 692) dX11_init_692 rfl (Nat.le_of_ble_eq_true rfl) (vp_in_nI (n := 55) (by decide) (by decide)) ?_
  refine ev_eqH (h' := sI (iX11_49_39 h) 69 (upd (upd (upd (upd (upd (upd (upd (upd (upd (upd (upd (upd (upd (upd (upd (upd (upd (upd (upd (upd (upd (upd (upd (upd (upd (upd (upd (upd (upd (upd (upd (upd (upd (upd (upd (upd (upd (upd (upd (upd (upd (upd (upd (upd (upd (upd (upd (upd (upd (upd (upd (upd (upd (upd (upd (upd ((iX11_49_39 h).2.1 69) 0 (-1)) 1 (-1)) 2 (-1)) 3 (-1)) 4 (-1)) 5 (-1)) 6 (-1)) 7 (-1)) 8 (-1)) 9 (-1)) 10 (-1)) 11 (-1)) 12 (-1)) 13 (-1)) 14 (-1)) 15 (-1)) 16 (-1)) 17 (-1)) 18 (-1)) 19 (-1)) 20 (-1)) 21 (-1)) 22 (-1)) 23 (-1)) 24 (-1)) 25 (-1)) 26 (-1)) 27 (-1)) 28 (-1)) 29 (-1)) 30 (-1)) 31 (-1)) 32 (-1)) 33 (-1)) 34 (-1)) 35 (-1)) 36 (-1)) 37 (-1)) 38 (-1)) 39 (-1)) 40 (-1)) 41 (-1)) 42 (-1)) 43 (-1)) 44 (-1)) 45 (-1)) 46 (-1)) 47 (-1)) 48 (-1)) 49 (-1)) 50 (-1)) 51 (-1)) 52 (-1)) 53 (-1)) 54 (-1)) 55 (-1))) (by exact sI_sI _ _ _ _) ?_
  refine ev_dup (pc := 693) dX11_init_693 rfl ?_
  refine ev_bipush (pc := 694) (v := 56) dX11_init_694 (by decide) ?_
  refine ev_iconst (pc := 696) (v := (-1)) dX11_init_696 (by decide) ?_
  refine ev_iast (pc := 697) dX11_init_697 rfl (Nat.le_of_ble_eq_true rfl) (vp_in_nI (n := 56) (by decide) (by decide)) ?_
  refine ev_eqH (h' := sI (iX11_49_39 h) 69 (upd (upd (upd (upd (upd (upd (upd (upd (upd (upd (upd (upd (upd (upd (upd (upd (upd (upd (upd (upd (upd (upd (upd (upd (upd (upd (upd (upd (upd (upd (upd (upd (upd (upd (upd (upd (upd (upd (upd (upd (upd (upd (upd (upd (upd (upd (upd (upd (upd (upd (upd (upd (upd (upd (upd (upd (upd ((iX11_49_39 h).2.1 69) 0 (-1)) 1 (-1)) 2 (-1)) 3 (-1)) 4 (-1)) 5 (-1)) 6 (-1)) 7 (-1)) 8 (-1)) 9 (-1)) 10 (-1)) 11 (-1)) 12 (-1)) 13 (-1)) 14 (-1)) 15 (-1)) 16 (-1)) 17 (-1)) 18 (-1)) 19 (-1)) 20 (-1)) 21 (-1)) 22 (-1)) 23 (-1)) 24 (-1)) 25 (-1)) 26 (-1)) 27 (-1)) 28 (-1)) 29 (-1)) 30 (-1)) 31 (-1)) 32 (-1)) 33 (-1)) 34 (-1)) 35 (-1)) 36 (-1)) 37 (-1)) 38 (-1)) 39 (-1)) 40 (-1)) 41 (-1)) 42 (-1)) 43 (-1)) 44 (-1)) 45 (-1)) 46 (-1)) 47 (-1)) 48 (-1)) 49 (-1)) 50 (-1)) 51 (-1)) 52 (-1)) 53 (-1)) 54 (-1)) 55 (-1)) 56 (-1))) (by exact sI_sI _ _ _ _) ?_
  refine ev_dup (pc := 698) dX11_init_698 rfl ?_
  refine ev_bipush (pc := 699) (v := 57) dX11_init_699 (by decide) ?_
  refine ev_iconst (pc := 701) (v := (-1)) dX11_init_701 (by decide) ?_
  refine ev_iast (pc := 702) dX11_init_702 rfl (Nat.le_of_ble_eq_true rfl) (vp_in_nI (n := 57) (by decide) (by decide)) ?_
  refine ev_eqH (h' := sI (iX11_49_39 h) 69 (upd (upd (upd (upd (upd (upd (upd (upd (upd (upd (upd (upd (upd (upd (upd (upd (upd (upd (upd (upd (upd (upd (upd (upd (upd (upd (upd (upd (upd (upd (upd (upd (upd (upd (upd (upd (upd (upd (upd (upd (upd (upd (upd (upd (upd (upd (upd (upd (upd (upd (upd (upd (upd (upd (upd (upd (upd (upd ((iX11_49_39 h).2.1 69) 0 (-1)) 1 (-1)) 2 (-1)) 3 (-1)) 4 (-1)) 5 (-1)) 6 (-1)) 7 (-1)) 8 (-1)) 9 (-1)) 10 (-1)) 11 (-1)) 12 (-1)) 13 (-1)) 14 (-1)) 15 (-1)) 16 (-1)) 17 (-1)) 18 (-1)) 19 (-1)) 20 (-1)) 21 (-1)) 22 (-1)) 23 (-1)) 24 (-1)) 25 (-1)) 26 (-1)) 27 (-1)) 28 (-1)) 29 (-1)) 30 (-1)) 31 (-1)) 32 (-1)) 33 (-1)) 34 (-1)) 35 (-1)) 36 (-1)) 37 (-1)) 38 (-1)) 39 (-1)) 40 (-1)) 41 (-1)) 42 (-1)) 43 (-1)) 44 (-1)) 45 (-1)) 46 (-1)) 47 (-1)) 48 (-1)) 49 (-1)) 50 (-1)) 51 (-1)) 52 (-1)) 53 (-1)) 54 (-1)) 55 (-1)) 56 (-1)) 57 (-1))) (by exact sI_sI _ _ _ _) ?_
  refine ev_dup (pc := 703) dX11_init_703 rfl ?_
  refine ev_bipush (pc := 704) (v := 58) dX11_init_704 (by decide) ?_
  refine ev_iconst (pc := 706) (v := (-1)) dX11_init_706 (by decide) ?_
  refine ev_iast (pc := 707) dX11_init_707 rfl (Nat.le_of_ble_eq_true rfl) (vp_in_nI (n := 58) (by decide) (by decide)) ?_
  refine ev_eqH (h' := sI (iX11_49_39 h) 69 (upd (upd (upd (upd (upd (upd (upd (upd (upd (upd (upd (upd (upd (upd (upd (upd (upd (upd (upd (upd (upd (upd (upd (upd (upd (upd (upd (upd (upd (upd (upd (upd (upd (upd (upd (upd (upd (upd (upd (upd (upd (upd (upd (upd (upd (upd (upd (upd (upd (upd (upd (upd (upd (upd (upd (upd (upd (upd (upd ((iX11_49_39 h).2.1 69) 0 (-1)) 1 (-1)) 2 (-1)) 3 (-1)) 4 (-1)) 5 (-1)) 6 (-1)) 7 (-1)) 8 (-1)) 9 (-1)) 10 (-1)) 11 (-1)) 12 (-1)) 13 (-1)) 14 (-1)) 15 (-1)) 16 (-1)) 17 (-1)) 18 (-1)) 19 (-1)) 20 (-1)) 21 (-1)) 22 (-1)) 23 (-1)) 24 (-1)) 25 (-1)) 26 (-1)) 27 (-1)) 28 (-1)) 29 (-1)) 30 (-1)) 31 (-1)) 32 (-1)) 33 (-1)) 34 (-1)) 35 (-1)) 36 (-1)) 37 (-1)) 38 (-1)) 39 (-1)) 40 (-1)) 41 (-1)) 42 (-1)) 43 (-1)) 44 (-1)) 45 (-1)) 46 (-1)) 47 (-1)) 48 (-1)) 49 (-1)) 50 (-1)) 51 (-1)) 52 (-1)) 53 (-1)) 54 (-1)) 55 (-1)) 56 (-1)) 57 (-1)) 58 (-1))) (by exact sI_sI _ _ _ _) ?_
  refine ev_dup (pc := 708) dX11_init_708 rfl ?_
  refine ev_bipush (pc := 709) (v := 59) dX11_init_709 (by decide) ?_
  refine ev_iconst (pc := 711) (v := (-1)) dX11_init_711 (by decide) ?_
  refine ev_iast (pc := 712) dX11_init_712 rfl (Nat.le_of_ble_eq_true rfl) (vp_in_nI (n := 59) (by decide) (by decide)) ?_
  refine ev_eqH (h' := sI (iX11_49_39 h) 69 (upd (upd (upd (upd (upd (upd (upd (upd (upd (upd (upd (upd (upd (upd (upd (upd (upd (upd (upd (upd (upd (upd (upd (upd (upd (upd (upd (upd (upd (upd (upd (upd (upd (upd (upd (upd (upd (upd (upd (upd (upd (upd (upd (upd (upd (upd (upd (upd (upd (upd (upd (upd (upd (upd (upd (upd (upd (upd (upd (upd ((iX11_49_39 h).2.1 69) 0 (-1)) 1 (-1)) 2 (-1)) 3 (-1)) 4 (-1)) 5 (-1)) 6 (-1)) 7 (-1)) 8 (-1)) 9 (-1)) 10 (-1)) 11 (-1)) 12 (-1)) 13 (-1)) 14 (-1)) 15 (-1)) 16 (-1)) 17 (-1)) 18 (-1)) 19 (-1)) 20 (-1)) 21 (-1)) 22 (-1)) 23 (-1)) 24 (-1)) 25 (-1)) 26 (-1)) 27 (-1)) 28 (-1)) 29 (-1)) 30 (-1)) 31 (-1)) 32 (-1)) 33 (-1)) 34 (-1)) 35 (-1)) 36 (-1)) 37 (-1)) 38 (-1)) 39 (-1)) 40 (-1)) 41 (-1)) 42 (-1)) 43 (-1)) 44 (-1)) 45 (-1)) 46 (-1)) 47 (-1)) 48 (-1)) 49 (-1)) 50 (-1)) 51 (-1)) 52 (-1)) 53 (-1)) 54 (-1)) 55 (-1)) 56 (-1)) 57 (-1)) 58 (-1)) 59 (-1))) (by exact sI_sI _ _ _ _) ?_
  refine ev_dup (pc := 713) dX11_init_713 rfl ?_
  refine ev_bipush (pc := 714) (v := 60) dX11_init_714 (by decide) ?_
  refine ev_iconst (pc := 716) (v := (-1)) dX11_init_716 (by decide) ?_
  refine ev_iast (pc := 717) dX11_init_717 rfl (Nat.le_of_ble_eq_true rfl) (vp_in_nI (n := 60) (by decide) (by decide)) ?_
  refine ev_eqH (h' := sI (iX11_49_39 h) 69 (upd (upd (upd (upd (upd (upd (upd (upd (upd (upd (upd (upd (upd (upd (upd (upd (upd (upd (upd (upd (upd (upd (upd (upd (upd (upd (upd (upd (upd (upd (upd (upd (upd (upd (upd (upd (upd (upd (upd (upd (upd (upd (upd (upd (upd (upd (upd (upd (upd (upd (upd (upd (upd (upd (upd (upd (upd (upd (upd (upd (upd ((iX11_49_39 h).2.1 69) 0 (-1)) 1 (-1)) 2 (-1)) 3 (-1)) 4 (-1)) 5 (-1)) 6 (-1)) 7 (-1)) 8 (-1)) 9 (-1)) 10 (-1)) 11 (-1)) 12 (-1)) 13 (-1)) 14 (-1)) 15 (-1)) 16 (-1)) 17 (-1)) 18 (-1)) 19 (-1)) 20 (-1)) 21 (-1)) 22 (-1)) 23 (-1)) 24 (-1)) 25 (-1)) 26 (-1)) 27 (-1)) 28 (-1)) 29 (-1)) 30 (-1)) 31 (-1)) 32 (-1)) 33 (-1)) 34 (-1)) 35 (-1)) 36 (-1)) 37 (-1)) 38 (-1)) 39 (-1)) 40 (-1)) 41 (-1)) 42 (-1)) 43 (-1)) 44 (-1)) 45 (-1)) 46 (-1)) 47 (-1)) 48 (-1)) 49 (-1)) 50 (-1)) 51 (-1)) 52 (-1)) 53 (-1)) 54 (-1)) 55 (-1)) 56 (-1)) 57 (-1)) 58 (-1)) 59 (-1)) 60 (-1))) (by exact sI_sI _ _ _ _) ?_
  refine ev_dup (pc := 718) dX11_init_718 rfl ?_
  refine ev_bipush (pc := 719) (v := 61) dX11_init_719 (by decide) ?_
  refine ev_iconst (pc := 721) (v := (-1)) dX11_init_721 (by decide) ?_
  refine ev_iast (pc := 722) dX11_init_722 rfl (Nat.le_of_ble_eq_true rfl) (vp_in_nI (n := 61) (by decide) (by decide)) ?_
  refine ev_eqH (h' := sI (iX11_49_39 h) 69 (upd (upd (upd (upd (upd (upd (upd (upd (upd (upd (upd (upd (upd (upd (upd (upd (upd (upd (upd (upd (upd (upd (upd (upd (upd (upd (upd (upd (upd (upd (upd (upd (upd (upd (upd (upd (upd (upd (upd (upd (upd (upd (upd (upd (upd (upd (upd (upd (upd (upd (upd (upd (upd (upd (upd (upd (upd (upd (upd (upd (upd (upd ((iX11_49_39 h).2.1 69) 0 (-1)) 1 (-1)) 2 (-1)) 3 (-1)) 4 (-1)) 5 (-1)) 6 (-1)) 7 (-1)) 8 (-1)) 9 (-1)) 10 (-1)) 11 (-1)) 12 (-1)) 13 (-1)) 14 (-1)) 15 (-1)) 16 (-1)) 17 (-1)) 18 (-1)) 19 (-1)) 20 (-1)) 21 (-1)) 22 (-1)) 23 (-1)) 24 (-1)) 25 (-1)) 26 (-1)) 27 (-1)) 28 (-1)) 29 (-1)) 30 (-1)) 31 (-1)) 32 (-1)) 33 (-1)) 34 (-1)) 35 (-1)) 36 (-1)) 37 (-1)) 38 (-1)) 39 (-1)) 40 (-1)) 41 (-1)) 42 (-1)) 43 (-1)) 44 (-1)) 45 (-1)) 46 (-1)) 47 (-1)) 48 (-1)) 49 (-1)) 50 (-1)) 51 (-1)) 52 (-1)) 53 (-1)) 54 (-1)) 55 (-1)) 56 (-1)) 57 (-1)) 58 (-1)) 59 (-1)) 60 (-1)) 61 (-1))) (by exact sI_sI _ _ _ _) ?_
  refine ev_dup (pc := 723) dX11_init_723 rfl ?_
  refine ev_bipush (pc := 724) (v := 62) dX11_init_724 (by decide) ?_
  refine ev_iconst (pc := 726) (v := (-1)) dX11_init_726 (by decide) ?_
  refine ev_iast (pc := 727) dX11_init_727 rfl (Nat.le_of_ble_eq_true rfl) (vp_in_nI (n := 62) (by decide) (by decide)) ?_
  refine ev_eqH (h' := sI (iX11_49_39 h) 69 (upd (upd (upd (upd (upd (upd (upd (upd (upd (upd (upd (upd (upd (upd (upd (upd (upd (upd (upd (upd (upd (upd (upd (upd (upd (upd (upd (upd (upd (upd (upd (upd (upd (upd (upd (upd (upd (upd (upd (upd (upd (upd (upd (upd (upd (upd (upd (upd (upd (upd (upd (upd (upd (upd (upd (upd (upd (upd (upd (upd (upd (upd (upd ((iX11_49_39 h).2.1 69) 0 (-1)) 1 (-1)) 2 (-1)) 3 (-1)) 4 (-1)) 5 (-1)) 6 (-1)) 7 (-1)) 8 (-1)) 9 (-1)) 10 (-1)) 11 (-1)) 12 (-1)) 13 (-1)) 14 (-1)) 15 (-1)) 16 (-1)) 17 (-1)) 18 (-1)) 19 (-1)) 20 (-1)) 21 (-1)) 22 (-1)) 23 (-1)) 24 (-1)) 25 (-1)) 26 (-1)) 27 (-1)) 28 (-1)) 29 (-1)) 30 (-1)) 31 (-1)) 32 (-1)) 33 (-1)) 34 (-1)) 35 (-1)) 36 (-1)) 37 (-1)) 38 (-1)) 39 (-1)) 40 (-1)) 41 (-1)) 42 (-1)) 43 (-1)) 44 (-1)) 45 (-1)) 46 (-1)) 47 (-1)) 48 (-1)) 49 (-1)) 50 (-1)) 51 (-1)) 52 (-1)) 53 (-1)) 54 (-1)) 55 (-1)) 56 (-1)) 57 (-1)) 58 (-1)) 59 (-1)) 60 (-1)) 61 (-1)) 62 (-1))) (by exact sI_sI _ _ _ _) ?_
  refine ev_dup (pc := 728) dX11_init_728 rfl ?_
  refine ev_bipush (pc := 729) (v := 63) dX11_init_729 (by decide) ?_
  refine ev_iconst (pc := 731) (v := (-1)) dX11_init_731 (by decide) ?_
  refine ev_iast (pc := 732) dX11_init_732 rfl (Nat.le_of_ble_eq_true rfl) (vp_in_nI (n := 63) (by decide) (by decide)) ?_
  refine ev_eqH (h' := sI (iX11_49_39 h) 69 (upd (upd (upd (upd (upd (upd (upd (upd (upd (upd (upd (upd (upd (upd (upd (upd (upd (upd (upd (upd (upd (upd (upd (upd (upd (upd (upd (upd (upd (upd (upd (upd (upd (upd (upd (upd (upd (upd (upd (upd (upd (upd (upd (upd (upd (upd (upd (upd (upd (upd (upd (upd (upd (upd (upd (upd (upd (upd (upd (upd (upd (upd (upd (upd ((iX11_49_39 h).2.1 69) 0 (-1)) 1 (-1)) 2 (-1)) 3 (-1)) 4 (-1)) 5 (-1)) 6 (-1)) 7 (-1)) 8 (-1)) 9 (-1)) 10 (-1)) 11 (-1)) 12 (-1)) 13 (-1)) 14 (-1)) 15 (-1)) 16 (-1)) 17 (-1)) 18 (-1)) 19 (-1)) 20 (-1)) 21 (-1)) 22 (-1)) 23 (-1)) 24 (-1)) 25 (-1)) 26 (-1)) 27 (-1)) 28 (-1)) 29 (-1)) 30 (-1)) 31 (-1)) 32 (-1)) 33 (-1)) 34 (-1)) 35 (-1)) 36 (-1)) 37 (-1)) 38 (-1)) 39 (-1)) 40 (-1)) 41 (-1)) 42 (-1)) 43 (-1)) 44 (-1)) 45 (-1)) 46 (-1)) 47 (-1)) 48 (-1)) 49 (-1)) 50 (-1)) 51 (-1)) 52 (-1)) 53 (-1)) 54 (-1)) 55 (-1)) 56 (-1)) 57 (-1)) 58 (-1)) 59 (-1)) 60 (-1)) 61 (-1)) 62 (-1)) 63 (-1))) (by exact sI_sI _ _ _ _) ?_
  refine ev_putR (pc := 733) dX11_init_733 fX11_72 rfl (Nat.le_of_ble_eq_true rfl) (Or.inr ⟨rfl, rfl⟩) ⟨rfl, rfl⟩ ?_
  refine ev_eqH (h' := sR (sI (iX11_49_39 h) 69 (upd (upd (upd (upd (upd (upd (upd (upd (upd (upd (upd (upd (upd (upd (upd (upd (upd (upd (upd (upd (upd (upd (upd (upd (upd (upd (upd (upd (upd (upd (upd (upd (upd (upd (upd (upd (upd (upd (upd (upd (upd (upd (upd (upd (upd (upd (upd (upd (upd (upd (upd (upd (upd (upd (upd (upd (upd (upd (upd (upd (upd (upd (upd (upd ((iX11_49_39 h).2.1 69) 0 (-1)) 1 (-1)) 2 (-1)) 3 (-1)) 4 (-1)) 5 (-1)) 6 (-1)) 7 (-1)) 8 (-1)) 9 (-1)) 10 (-1)) 11 (-1)) 12 (-1)) 13 (-1)) 14 (-1)) 15 (-1)) 16 (-1)) 17 (-1)) 18 (-1)) 19 (-1)) 20 (-1)) 21 (-1)) 22 (-1)) 23 (-1)) 24 (-1)) 25 (-1)) 26 (-1)) 27 (-1)) 28 (-1)) 29 (-1)) 30 (-1)) 31 (-1)) 32 (-1)) 33 (-1)) 34 (-1)) 35 (-1)) 36 (-1)) 37 (-1)) 38 (-1)) 39 (-1)) 40 (-1)) 41 (-1)) 42 (-1)) 43 (-1)) 44 (-1)) 45 (-1)) 46 (-1)) 47 (-1)) 48 (-1)) 49 (-1)) 50 (-1)) 51 (-1)) 52 (-1)) 53 (-1)) 54 (-1)) 55 (-1)) 56 (-1)) 57 (-1)) 58 (-1)) 59 (-1)) 60 (-1)) 61 (-1)) 62 (-1)) 63 (-1))) 49 (va_up ((iX11_49_39 h).2.2.2 49) 36 (some 69))) (by rfl) ?_
  refine ev_eqH (h' := iX11_49_40 h) rfl ?_
  refine ev_aload_n (pc := 736) dX11_init_736 rfl ?_
  refine ev_bipush (pc := 737) (v := 64) dX11_init_737 (by decide) ?_
  refine ev_nwa_i (pc := 739) (zk := 70) (N := 64) rfl dX11_init_739 ac_int rfl (by decide) (by decide) (by decide) (by decide) ⟨Nat.le_of_ble_eq_true rfl, Nat.le_of_ble_eq_true rfl⟩ ?_
  refine ev_eqH (h' := iX11_49_41 h) rfl ?_
  refine ev_putR (pc := 741) dX11_init_741 fX11_75 rfl (Nat.le_of_ble_eq_true rfl) (Or.inr ⟨rfl, rfl⟩) ⟨rfl, rfl⟩ ?_
  refine ev_eqH (h' := sR (iX11_49_41 h) 49 (va_up ((iX11_49_41 h).2.2.2 49) 42 (some 70))) (by rfl) ?_
  refine ev_eqH (h' := iX11_49_42 h) rfl ?_
  refine ev_aload_n (pc := 744) dX11_init_744 rfl ?_
  refine ev_bipush (pc := 745) (v := 64) dX11_init_745 (by decide) ?_
  refine ev_nwa_i (pc := 747) (zk := 71) (N := 64) rfl dX11_init_747 ac_int rfl (by decide) (by decide) (by decide) (by decide) ⟨Nat.le_of_ble_eq_true rfl, Nat.le_of_ble_eq_true rfl⟩ ?_
  refine ev_eqH (h' := iX11_49_43 h) rfl ?_
  refine ev_putR (pc := 749) dX11_init_749 fX11_78 rfl (Nat.le_of_ble_eq_true rfl) (Or.inr ⟨rfl, rfl⟩) ⟨rfl, rfl⟩ ?_
  refine ev_eqH (h' := sR (iX11_49_43 h) 49 (va_up ((iX11_49_43 h).2.2.2 49) 43 (some 71))) (by rfl) ?_
  refine ev_eqH (h' := iX11_49_44 h) rfl ?_
  refine ev_aload_n (pc := 752) dX11_init_752 rfl ?_
  refine ev_bipush (pc := 753) (v := 64) dX11_init_753 (by decide) ?_
  refine ev_nwa_i (pc := 755) (zk := 72) (N := 64) rfl dX11_init_755 ac_int rfl (by decide) (by decide) (by decide) (by decide) ⟨Nat.le_of_ble_eq_true rfl, Nat.le_of_ble_eq_true rfl⟩ ?_
  refine ev_eqH (h' := iX11_49_45 h) rfl ?_
  refine ev_putR (pc := 757) dX11_init_757 fX11_81 rfl (Nat.le_of_ble_eq_true rfl) (Or.inr ⟨rfl, rfl⟩) ⟨rfl, rfl⟩ ?_
  refine ev_eqH (h' := sR (iX11_49_45 h) 49 (va_up ((iX11_49_45 h).2.2.2 49) 44 (some 72))) (by rfl) ?_
  refine ev_eqH (h' := iX11_49_46 h) rfl ?_
  refine ev_aload_n (pc := 760) dX11_init_760 rfl ?_
  refine ev_iconst (pc := 761) (v := 4) dX11_init_761 (by decide) ?_
  refine ev_nwa_i (pc := 762) (zk := 73) (N := 4) rfl dX11_init_762 ac_int rfl (by decide) (by decide) (by decide) (by decide) ⟨Nat.le_of_ble_eq_true rfl, Nat.le_of_ble_eq_true rfl⟩ ?_
  refine ev_eqH (h' := iX11_49_47 h) rfl ?_
  refine ev_dup (pc := 764) dX11_init_764 rfl ?_
  refine ev_iconst (pc := 765) (v := 0) dX11_init_765 (by decide) ?_
  refine ev_bipush (pc := 766) (v := (-4)) dX11_init_766 (by decide) ?_
  refine ev_iast (pc := 768) dX11_init_768 rfl (Nat.le_of_ble_eq_true rfl) (vp_in_nI (n := 0) (by decide) (by decide)) ?_
  refine ev_eqH (h' := sI (iX11_49_47 h) 73 (upd ((iX11_49_47 h).2.1 73) 0 (-4))) (by rfl) ?_
  refine ev_dup (pc := 769) dX11_init_769 rfl ?_
  refine ev_iconst (pc := 770) (v := 1) dX11_init_770 (by decide) ?_
  refine ev_bipush (pc := 771) (v := (-4)) dX11_init_771 (by decide) ?_
  refine ev_iast (pc := 773) dX11_init_773 rfl (Nat.le_of_ble_eq_true rfl) (vp_in_nI (n := 1) (by decide) (by decide)) ?_
  refine ev_eqH (h' := sI (iX11_49_47 h) 73 (upd (upd ((iX11_49_47 h).2.1 73) 0 (-4)) 1 (-4))) (by exact sI_sI _ _ _ _) ?_
  refine ev_dup (pc := 774) dX11_init_774 rfl ?_
  refine ev_iconst (pc := 775) (v := 2) dX11_init_775 (by decide) ?_
  refine ev_bipush (pc := 776) (v := (-4)) dX11_init_776 (by decide) ?_
  refine ev_iast (pc := 778) dX11_init_778 rfl (Nat.le_of_ble_eq_true rfl) (vp_in_nI (n := 2) (by decide) (by decide)) ?_
  refine ev_eqH (h' := sI (iX11_49_47 h) 73 (upd (upd (upd ((iX11_49_47 h).2.1 73) 0 (-4)) 1 (-4)) 2 (-4))) (by exact sI_sI _ _ _ _) ?_
  refine ev_dup (pc := 779) dX11_init_779 rfl ?_
  refine ev_iconst (pc := 780) (v := 3) dX11_init_780 (by decide) ?_
  refine ev_bipush (pc := 781) (v := (-4)) dX11_init_781 (by decide) ?_
  refine ev_iast (pc := 783) dX11_init_783 rfl (Nat.le_of_ble_eq_true rfl) (vp_in_nI (n := 3) (by decide) (by decide)) ?_
  refine ev_eqH (h' := sI (iX11_49_47 h) 73 (upd (upd (upd (upd ((iX11_49_47 h).2.1 73) 0 (-4)) 1 (-4)) 2 (-4)) 3 (-4))) (by exact sI_sI _ _ _ _) ?_
  refine ev_putR (pc := 784) dX11_init_784 fX11_84 rfl (Nat.le_of_ble_eq_true rfl) (Or.inr ⟨rfl, rfl⟩) ⟨rfl, rfl⟩ ?_
  refine ev_eqH (h' := sR (sI (iX11_49_47 h) 73 (upd (upd (upd (upd ((iX11_49_47 h).2.1 73) 0 (-4)) 1 (-4)) 2 (-4)) 3 (-4))) 49 (va_up ((iX11_49_47 h).2.2.2 49) 45 (some 73))) (by rfl) ?_
  refine ev_eqH (h' := iX11_49_48 h) rfl ?_
  refine ev_aload_n (pc := 787) dX11_init_787 rfl ?_
  refine ev_iconst (pc := 788) (v := 4) dX11_init_788 (by decide) ?_
  refine ev_nwa_i (pc := 789) (zk := 74) (N := 4) rfl dX11_init_789 ac_int rfl (by decide) (by decide) (by decide) (by decide) ⟨Nat.le_of_ble_eq_true rfl, Nat.le_of_ble_eq_true rfl⟩ ?_
  refine ev_eqH (h' := iX11_49_49 h) rfl ?_
  refine ev_putR (pc := 791) dX11_init_791 fX11_87 rfl (Nat.le_of_ble_eq_true rfl) (Or.inr ⟨rfl, rfl⟩) ⟨rfl, rfl⟩ ?_
  refine ev_eqH (h' := sR (iX11_49_49 h) 49 (va_up ((iX11_49_49 h).2.2.2 49) 46 (some 74))) (by rfl) ?_
  refine ev_eqH (h' := iX11_49_50 h) rfl ?_
  refine ev_aload_n (pc := 794) dX11_init_794 rfl ?_
  refine ev_sipush (pc := 795) (v := 256) dX11_init_795 (by decide) ?_
  refine ev_nwa_i (pc := 798) (zk := 75) (N := 256) rfl dX11_init_798 ac_int rfl (by decide) (by decide) (by decide) (by decide) ⟨Nat.le_of_ble_eq_true rfl, Nat.le_of_ble_eq_true rfl⟩ ?_
  refine ev_eqH (h' := iX11_49_51 h) rfl ?_
  refine ev_putR (pc := 800) dX11_init_800 fX11_90 rfl (Nat.le_of_ble_eq_true rfl) (Or.inr ⟨rfl, rfl⟩) ⟨rfl, rfl⟩ ?_
  refine ev_eqH (h' := sR (iX11_49_51 h) 49 (va_up ((iX11_49_51 h).2.2.2 49) 47 (some 75))) (by rfl) ?_
  refine ev_eqH (h' := iX11_49_52 h) rfl ?_
  refine ev_ret (pc := 803) dX11_init_803 rfl ?_
  · exact ⟨rfl, rfl⟩
