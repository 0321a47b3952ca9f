theorem lp_cost_3 (E : ME) (h : AH) (zt : PSt) (zf : Nat → Int32) (zx : Int64) (hw : WF h) (hY : STz zt 3 h) (hO : POK zt) (hst : h.2.2.2 0 1 = some 3) (hF : FLz zf zx h) {post : PO} (K : Ev E mX10_cost (rmm 2 0 0) (QM E 0 0 post) 0 0 41 [some (.ref 0), some (.long (lN (fb_sm (fun zq => stN zf zq * zt.2 4 zq) 6))), none, some (.int (nI 6))] [] h) : ∀ n i : Nat, i + n = 6 → Ev E mX10_cost (rmm 2 0 0) (QM E 0 0 post) 0 0 4 [some (.ref 0), some (.long (lN (fb_sm (fun zq => stN zf zq * zt.2 4 zq) i))), none, some (.int (nI i))] [] h := by
  intro n
  induction n with
  | zero =>
    intro i hi
    obtain rfl : 6 = i := by omega
    refine ev_iload_n (pc := 4) dX10_cost_4 rfl ?_
    refine ev_bipush (pc := 5) (v := 6) dX10_cost_5 (by decide) ?_
    refine ev_icmp_ge (pc := 7) (tgt := 41) dX10_cost_7 (by decide) (fun zc7 => ?_) (fun zc7 => absurd (by decide) zc7)
    exact K
  | succ n ih =>
    intro i hi
    have hlt : i < 6 := by omega
    have zin : (0 : Int32) ≤ nI i ∧ nI i ≤ 5 := ⟨nI_pos' (by omega), nI_le (a := i) (b := 5) (by omega) (by decide)⟩
    have zct := pl_ct hF.2.2.1 hlt
    have zsb : stN zf i ≤ 64 := fb_ct_le _ _
    have zpd := hO.2.2.2.2.2.2.1 i hlt
    refine ev_iload_n (pc := 4) dX10_cost_4 rfl ?_
    refine ev_bipush (pc := 5) (v := 6) dX10_cost_5 (by decide) ?_
    refine ev_icmp_ge (pc := 7) (tgt := 41) dX10_cost_7 (by decide) (fun zc7 => absurd zc7 (nI_ge (a := i) (b := 6) hlt (by decide))) (fun zc7 => ?_)
    refine ev_lload_n (pc := 10) dX10_cost_10 rfl ?_
    refine ev_aload_n (pc := 11) dX10_cost_11 rfl ?_
    refine ev_getR (pc := 12) (q := 25) dX10_cost_12 fX10_45 rfl (wlt hw (by decide)) (wr hw rfl) ?_
    refine ev_iload_n (pc := 15) dX10_cost_15 rfl ?_
    refine ev_callVv (S := [.long (lN (fb_sm (fun zq => stN zf zq * zt.2 4 zq) i))]) (pc := 16) dX10_cost_16 kX2_plane lX10_336 vX2_plane (cn_X2_plane E h i hw hlt) rfl rfl (wlt hw (by decide)) rfl rfl (Nat.le_of_ble_eq_true rfl) ⟨Nat.le_of_ble_eq_true rfl, Nat.le_of_ble_eq_true rfl⟩ ⟨Nat.le_of_ble_eq_true rfl, Nat.le_of_ble_eq_true rfl⟩ ?_
    refine ev_callSv (S := [.long (lN (fb_sm (fun zq => stN zf zq * zt.2 4 zq) i))]) (pc := 19) dX10_cost_19 kJ13_bitCount_95d88 lX10_311 sJ13_bitCount_95d88 (cn_J13_bitCount_95d88 E h (h.2.2.1 27 i)) rfl rfl (Nat.le_of_ble_eq_true rfl) ⟨Nat.le_of_ble_eq_true rfl, Nat.le_of_ble_eq_true rfl⟩ ⟨Nat.le_of_ble_eq_true rfl, Nat.le_of_ble_eq_true rfl⟩ ?_
    refine ev_eqI (e' := nI (stN zf i)) zct ?_
    refine ev_i2l (pc := 22) dX10_cost_22 ?_
    refine ev_eqJ (e' := lN (stN zf i)) (nI_l (by omega)) ?_
    refine ev_aload_n (pc := 23) dX10_cost_23 rfl ?_
    refine ev_getR (pc := 24) (q := 3) dX10_cost_24 fX10_19 rfl (wlt hw (by decide)) hst ?_
    refine ev_iload_n (pc := 27) dX10_cost_27 rfl ?_
    refine ev_callVv (S := [.long (lN (stN zf i)), .long (lN (fb_sm (fun zq => stN zf zq * zt.2 4 zq) i))]) (pc := 28) dX10_cost_28 kX8_priceOf lX10_127 vX8_priceOf (cn_X8_priceOf_3 E h zt (nI i) hw hY hO) rfl rfl (wlt hw (by decide)) rfl rfl (Nat.le_of_ble_eq_true rfl) ⟨Nat.le_of_ble_eq_true rfl, Nat.le_of_ble_eq_true rfl⟩ ⟨Nat.le_of_ble_eq_true rfl, Nat.le_of_ble_eq_true rfl⟩ ?_
    refine ev_eqI (e' := nI (zt.2 4 i)) (by rw [if_pos zin, nI_clamp (by omega)]) ?_
    refine ev_i2l (pc := 31) dX10_cost_31 ?_
    refine ev_eqJ (e' := lN (zt.2 4 i)) (nI_l (by omega)) ?_
    refine ev_lmul (pc := 32) dX10_cost_32 ?_
    refine ev_eqJ (e' := lN (stN zf i * zt.2 4 i)) (lN_mul _ _) ?_
    refine ev_ladd (pc := 33) dX10_cost_33 ?_
    refine ev_eqJ (e' := lN (fb_sm (fun zq => stN zf zq * zt.2 4 zq) (i + 1))) (by rw [fb_sm_succ, lN_add]) ?_
    refine ev_lstore_n (pc := 34) (L' := [some (.ref 0), some (.long (lN (fb_sm (fun zq => stN zf zq * zt.2 4 zq) (i + 1)))), none, some (.int (nI i))]) dX10_cost_34 (Nat.le_of_ble_eq_true rfl) rfl ?_
    refine ev_iinc (pc := 35) (v := nI (i + 1)) (L' := [some (.ref 0), some (.long (lN (fb_sm (fun zq => stN zf zq * zt.2 4 zq) (i + 1)))), none, some (.int (nI (i + 1)))]) dX10_cost_35 rfl (nI_1 _) (Nat.le_of_ble_eq_true rfl) rfl ?_
    refine ev_goto (pc := 38) (tgt := 4) dX10_cost_38 (by decide) ?_
    exact ih (i + 1) (by omega)
theorem cn_X10_cost_3 (E : ME) (h : AH) (zt : PSt) (zf : Nat → Int32) (zx : Int64) (hw : WF h) (hY : STz zt 3 h) (hO : POK zt) (hst : h.2.2.2 0 1 = some 3) (hF : FLz zf zx h) : Con E mX10_cost 2 0 0 [.ref 0] h (fun r h' => r = some (.long (lN (fb_sm (fun zq => stN zf zq * zt.2 4 zq) 6))) ∧ h' = h) := by
  refine con_of2 (L := [some (.ref 0), none, none, none]) rfl (Nat.le_of_ble_eq_true rfl) rfl ?_
  refine ev_lconst (pc := 0) (v := 0) dX10_cost_0 (by decide) ?_
  refine ev_lstore_n (pc := 1) (L' := [some (.ref 0), some (.long 0), none, none]) dX10_cost_1 (Nat.le_of_ble_eq_true rfl) rfl ?_
  refine ev_iconst (pc := 2) (v := 0) dX10_cost_2 (by decide) ?_
  refine ev_istore_n (pc := 3) (L' := [some (.ref 0), some (.long 0), none, some (.int 0)]) dX10_cost_3 (Nat.le_of_ble_eq_true rfl) rfl ?_
  refine lp_cost_3 E h zt zf zx hw hY hO hst hF ?_ 6 0 (Nat.zero_add _)
  refine ev_lload_n (pc := 41) dX10_cost_41 rfl ?_
  refine ev_lret (pc := 42) dX10_cost_42 rfl ?_
  · exact ⟨rfl, rfl⟩
theorem lp_days_3 (E : ME) (h : AH) (zt : PSt) (zv : Int32) (zf : Nat → Int32) (zx : Int64) (hw : WF h) (hY : STz zt 3 h) (hO : POK zt) (hst : h.2.2.2 0 1 = some 3) (hF : FLz zf zx h) {post : PO} (K : Ev E mX10_days (rmm 2 0 0) (QM E 0 0 post) 0 0 82 [some (.ref 0), some (.int zv), some (.long (lN (wkN (stN zf) (zt.2 5) 6).1)), none, some (.long (lN (wkN (stN zf) (zt.2 5) 6).2)), none, some (.int (nI 6)), none, none, none, none] [] h) : ∀ n i : Nat, i + n = 6 → Ev E mX10_days (rmm 2 0 0) (QM E 0 0 post) 0 0 8 [some (.ref 0), some (.int zv), some (.long (lN (wkN (stN zf) (zt.2 5) i).1)), none, some (.long (lN (wkN (stN zf) (zt.2 5) i).2)), none, some (.int (nI i)), none, none, none, none] [] h := by
  intro n
  induction n with
  | zero =>
    intro i hi
    obtain rfl : 6 = i := by omega
    refine ev_iload (pc := 8) dX10_days_8 rfl ?_
    refine ev_bipush (pc := 10) (v := 6) dX10_days_10 (by decide) ?_
    refine ev_icmp_ge (pc := 12) (tgt := 82) dX10_days_12 (by decide) (fun zc12 => ?_) (fun zc12 => absurd (by decide) zc12)
    exact K
  | succ n ih =>
    intro i hi
    have hlt : i < 6 := by omega
    have zin : (0 : Int32) ≤ nI i ∧ nI i ≤ 5 := ⟨nI_pos' (by omega), nI_le (a := i) (b := 5) (by omega) (by decide)⟩
    have zct := pl_ct hF.2.2.1 hlt
    have zsb : stN zf i ≤ 64 := fb_ct_le _ _
    have zpd := hO.2.2.2.2.2.2.1 i hlt
    have zH : ∀ zq, zq < 6 → stN zf zq ≤ 64 ∧ 1 ≤ zt.2 5 zq ∧ zt.2 5 zq ≤ 99 := fun zq hq => ⟨fb_ct_le _ _, (hO.2.2.2.2.2.2.1 zq hq).2⟩
    have zb := wk_b (zc := i) (by omega) zH
    have zt1 : (wkN (stN zf) (zt.2 5) i).1 * zt.2 5 i ≤ 384 * 941480149401 * 99 := Nat.mul_le_mul zb.2.2 zpd.2.2
    have zt2 : stN zf i * (wkN (stN zf) (zt.2 5) i).2 ≤ 64 * 941480149401 := Nat.mul_le_mul zsb zb.2.1
    have zt3 : (wkN (stN zf) (zt.2 5) i).2 * zt.2 5 i ≤ 941480149401 * 99 := Nat.mul_le_mul zb.2.1 zpd.2.2
    have zt4 : 0 < (wkN (stN zf) (zt.2 5) i).2 * zt.2 5 i := Nat.mul_pos zb.1 zpd.2.1
    have zgp := gcd_pos2 (a := (wkN (stN zf) (zt.2 5) i).1 * zt.2 5 i + stN zf i * (wkN (stN zf) (zt.2 5) i).2) zt4
    have zgl := Nat.gcd_le_right ((wkN (stN zf) (zt.2 5) i).1 * zt.2 5 i + stN zf i * (wkN (stN zf) (zt.2 5) i).2) zt4
    refine ev_iload (pc := 8) dX10_days_8 rfl ?_
    refine ev_bipush (pc := 10) (v := 6) dX10_days_10 (by decide) ?_
    refine ev_icmp_ge (pc := 12) (tgt := 82) dX10_days_12 (by decide) (fun zc12 => absurd zc12 (nI_ge (a := i) (b := 6) hlt (by decide))) (fun zc12 => ?_)
    refine ev_aload_n (pc := 15) dX10_days_15 rfl ?_
    refine ev_getR (pc := 16) (q := 3) dX10_days_16 fX10_19 rfl (wlt hw (by decide)) hst ?_
    refine ev_iload (pc := 19) dX10_days_19 rfl ?_
    refine ev_callVv (S := []) (pc := 21) dX10_days_21 kX8_dailyOf lX10_131 vX8_dailyOf (cn_X8_dailyOf_3 E h zt (nI i) hw hY hO) rfl rfl (wlt hw (by decide)) rfl rfl (Nat.le_of_ble_eq_true rfl) ⟨Nat.le_of_ble_eq_true rfl, Nat.le_of_ble_eq_true rfl⟩ ⟨Nat.le_of_ble_eq_true rfl, Nat.le_of_ble_eq_true rfl⟩ ?_
    refine ev_eqI (e' := nI (zt.2 5 i)) (by rw [if_pos zin, nI_clamp (by omega)]) ?_
    refine ev_i2l (pc := 24) dX10_days_24 ?_
    refine ev_eqJ (e' := lN (zt.2 5 i)) (nI_l (by omega)) ?_
    refine ev_lstore (pc := 25) (L' := [some (.ref 0), some (.int zv), some (.long (lN (wkN (stN zf) (zt.2 5) i).1)), none, some (.long (lN (wkN (stN zf) (zt.2 5) i).2)), none, some (.int (nI i)), some (.long (lN (zt.2 5 i))), none, none, none]) dX10_days_25 (Nat.le_of_ble_eq_true rfl) rfl ?_
    refine ev_lload_n (pc := 27) dX10_days_27 rfl ?_
    refine ev_lload (pc := 28) dX10_days_28 rfl ?_
    refine ev_lmul (pc := 30) dX10_days_30 ?_
    refine ev_eqJ (e' := lN ((wkN (stN zf) (zt.2 5) i).1 * zt.2 5 i)) (lN_mul _ _) ?_
    refine ev_aload_n (pc := 31) dX10_days_31 rfl ?_
    refine ev_getR (pc := 32) (q := 25) dX10_days_32 fX10_45 rfl (wlt hw (by decide)) (wr hw rfl) ?_
    refine ev_iload (pc := 35) dX10_days_35 rfl ?_
    refine ev_callVv (S := [.long (lN ((wkN (stN zf) (zt.2 5) i).1 * zt.2 5 i))]) (pc := 37) dX10_days_37 kX2_plane lX10_336 vX2_plane (cn_X2_plane E h i hw hlt) rfl rfl (wlt hw (by decide)) rfl rfl (Nat.le_of_ble_eq_true rfl) ⟨Nat.le_of_ble_eq_true rfl, Nat.le_of_ble_eq_true rfl⟩ ⟨Nat.le_of_ble_eq_true rfl, Nat.le_of_ble_eq_true rfl⟩ ?_
    refine ev_callSv (S := [.long (lN ((wkN (stN zf) (zt.2 5) i).1 * zt.2 5 i))]) (pc := 40) dX10_days_40 kJ13_bitCount_95d88 lX10_311 sJ13_bitCount_95d88 (cn_J13_bitCount_95d88 E h (h.2.2.1 27 i)) rfl rfl (Nat.le_of_ble_eq_true rfl) ⟨Nat.le_of_ble_eq_true rfl, Nat.le_of_ble_eq_true rfl⟩ ⟨Nat.le_of_ble_eq_true rfl, Nat.le_of_ble_eq_true rfl⟩ ?_
    refine ev_eqI (e' := nI (stN zf i)) zct ?_
    refine ev_i2l (pc := 43) dX10_days_43 ?_
    refine ev_eqJ (e' := lN (stN zf i)) (nI_l (by omega)) ?_
    refine ev_lload (pc := 44) dX10_days_44 rfl ?_
    refine ev_lmul (pc := 46) dX10_days_46 ?_
    refine ev_eqJ (e' := lN (stN zf i * (wkN (stN zf) (zt.2 5) i).2)) (lN_mul _ _) ?_
    refine ev_ladd (pc := 47) dX10_days_47 ?_
    refine ev_eqJ (e' := lN ((wkN (stN zf) (zt.2 5) i).1 * zt.2 5 i + stN zf i * (wkN (stN zf) (zt.2 5) i).2)) (lN_add _ _) ?_
    refine ev_lstore_n (pc := 48) (L' := [some (.ref 0), some (.int zv), some (.long (lN ((wkN (stN zf) (zt.2 5) i).1 * zt.2 5 i + stN zf i * (wkN (stN zf) (zt.2 5) i).2))), none, some (.long (lN (wkN (stN zf) (zt.2 5) i).2)), none, some (.int (nI i)), some (.long (lN (zt.2 5 i))), none, none, none]) dX10_days_48 (Nat.le_of_ble_eq_true rfl) rfl ?_
    refine ev_lload (pc := 49) dX10_days_49 rfl ?_
    refine ev_lload (pc := 51) dX10_days_51 rfl ?_
    refine ev_lmul (pc := 53) dX10_days_53 ?_
    refine ev_eqJ (e' := lN ((wkN (stN zf) (zt.2 5) i).2 * zt.2 5 i)) (lN_mul _ _) ?_
    refine ev_lstore (pc := 54) (L' := [some (.ref 0), some (.int zv), some (.long (lN ((wkN (stN zf) (zt.2 5) i).1 * zt.2 5 i + stN zf i * (wkN (stN zf) (zt.2 5) i).2))), none, some (.long (lN ((wkN (stN zf) (zt.2 5) i).2 * zt.2 5 i))), none, some (.int (nI i)), some (.long (lN (zt.2 5 i))), none, none, none]) dX10_days_54 (Nat.le_of_ble_eq_true rfl) rfl ?_
    refine ev_lload_n (pc := 56) dX10_days_56 rfl ?_
    refine ev_lload (pc := 57) dX10_days_57 rfl ?_
    refine ev_callSv (S := []) (pc := 59) dX10_days_59 kX10_sharedDivisor lX10_218 sX10_sharedDivisor (cn_X10_sharedDivisor E h ((wkN (stN zf) (zt.2 5) i).1 * zt.2 5 i + stN zf i * (wkN (stN zf) (zt.2 5) i).2) ((wkN (stN zf) (zt.2 5) i).2 * zt.2 5 i) hw (by omega) (by omega) zgp) rfl rfl (Nat.le_of_ble_eq_true rfl) ⟨Nat.le_of_ble_eq_true rfl, Nat.le_of_ble_eq_true rfl⟩ ⟨Nat.le_of_ble_eq_true rfl, Nat.le_of_ble_eq_true rfl⟩ ?_
    refine ev_lstore (pc := 62) (L' := [some (.ref 0), some (.int zv), some (.long (lN ((wkN (stN zf) (zt.2 5) i).1 * zt.2 5 i + stN zf i * (wkN (stN zf) (zt.2 5) i).2))), none, some (.long (lN ((wkN (stN zf) (zt.2 5) i).2 * zt.2 5 i))), none, some (.int (nI i)), some (.long (lN (zt.2 5 i))), none, some (.long (lN (Nat.gcd ((wkN (stN zf) (zt.2 5) i).1 * zt.2 5 i + stN zf i * (wkN (stN zf) (zt.2 5) i).2) ((wkN (stN zf) (zt.2 5) i).2 * zt.2 5 i)))), none]) dX10_days_62 (Nat.le_of_ble_eq_true rfl) rfl ?_
    refine ev_lload_n (pc := 64) dX10_days_64 rfl ?_
    refine ev_lload (pc := 65) dX10_days_65 rfl ?_
    refine ev_ldiv (pc := 67) dX10_days_67 (fun z => by have z1 := (pk_lEQ (a := Nat.gcd ((wkN (stN zf) (zt.2 5) i).1 * zt.2 5 i + stN zf i * (wkN (stN zf) (zt.2 5) i).2) ((wkN (stN zf) (zt.2 5) i).2 * zt.2 5 i)) (b := 0) (by omega) (by decide)).mp z; omega) ?_
    refine ev_eqJ (e' := lN (((wkN (stN zf) (zt.2 5) i).1 * zt.2 5 i + stN zf i * (wkN (stN zf) (zt.2 5) i).2) / Nat.gcd ((wkN (stN zf) (zt.2 5) i).1 * zt.2 5 i + stN zf i * (wkN (stN zf) (zt.2 5) i).2) ((wkN (stN zf) (zt.2 5) i).2 * zt.2 5 i))) (pk_lDiv (by omega) zgp (by omega)) ?_
    refine ev_lstore_n (pc := 68) (L' := [some (.ref 0), some (.int zv), some (.long (lN (((wkN (stN zf) (zt.2 5) i).1 * zt.2 5 i + stN zf i * (wkN (stN zf) (zt.2 5) i).2) / Nat.gcd ((wkN (stN zf) (zt.2 5) i).1 * zt.2 5 i + stN zf i * (wkN (stN zf) (zt.2 5) i).2) ((wkN (stN zf) (zt.2 5) i).2 * zt.2 5 i)))), none, some (.long (lN ((wkN (stN zf) (zt.2 5) i).2 * zt.2 5 i))), none, some (.int (nI i)), some (.long (lN (zt.2 5 i))), none, some (.long (lN (Nat.gcd ((wkN (stN zf) (zt.2 5) i).1 * zt.2 5 i + stN zf i * (wkN (stN zf) (zt.2 5) i).2) ((wkN (stN zf) (zt.2 5) i).2 * zt.2 5 i)))), none]) dX10_days_68 (Nat.le_of_ble_eq_true rfl) rfl ?_
    refine ev_lload (pc := 69) dX10_days_69 rfl ?_
    refine ev_lload (pc := 71) dX10_days_71 rfl ?_
    refine ev_ldiv (pc := 73) dX10_days_73 (fun z => by have z1 := (pk_lEQ (a := Nat.gcd ((wkN (stN zf) (zt.2 5) i).1 * zt.2 5 i + stN zf i * (wkN (stN zf) (zt.2 5) i).2) ((wkN (stN zf) (zt.2 5) i).2 * zt.2 5 i)) (b := 0) (by omega) (by decide)).mp z; omega) ?_
    refine ev_eqJ (e' := lN (((wkN (stN zf) (zt.2 5) i).2 * zt.2 5 i) / Nat.gcd ((wkN (stN zf) (zt.2 5) i).1 * zt.2 5 i + stN zf i * (wkN (stN zf) (zt.2 5) i).2) ((wkN (stN zf) (zt.2 5) i).2 * zt.2 5 i))) (pk_lDiv (by omega) zgp (by omega)) ?_
    refine ev_lstore (pc := 74) (L' := [some (.ref 0), some (.int zv), some (.long (lN (((wkN (stN zf) (zt.2 5) i).1 * zt.2 5 i + stN zf i * (wkN (stN zf) (zt.2 5) i).2) / Nat.gcd ((wkN (stN zf) (zt.2 5) i).1 * zt.2 5 i + stN zf i * (wkN (stN zf) (zt.2 5) i).2) ((wkN (stN zf) (zt.2 5) i).2 * zt.2 5 i)))), none, some (.long (lN (((wkN (stN zf) (zt.2 5) i).2 * zt.2 5 i) / Nat.gcd ((wkN (stN zf) (zt.2 5) i).1 * zt.2 5 i + stN zf i * (wkN (stN zf) (zt.2 5) i).2) ((wkN (stN zf) (zt.2 5) i).2 * zt.2 5 i)))), none, some (.int (nI i)), some (.long (lN (zt.2 5 i))), none, some (.long (lN (Nat.gcd ((wkN (stN zf) (zt.2 5) i).1 * zt.2 5 i + stN zf i * (wkN (stN zf) (zt.2 5) i).2) ((wkN (stN zf) (zt.2 5) i).2 * zt.2 5 i)))), none]) dX10_days_74 (Nat.le_of_ble_eq_true rfl) rfl ?_
    refine ev_iinc (pc := 76) (v := nI (i + 1)) (L' := [some (.ref 0), some (.int zv), some (.long (lN (((wkN (stN zf) (zt.2 5) i).1 * zt.2 5 i + stN zf i * (wkN (stN zf) (zt.2 5) i).2) / Nat.gcd ((wkN (stN zf) (zt.2 5) i).1 * zt.2 5 i + stN zf i * (wkN (stN zf) (zt.2 5) i).2) ((wkN (stN zf) (zt.2 5) i).2 * zt.2 5 i)))), none, some (.long (lN (((wkN (stN zf) (zt.2 5) i).2 * zt.2 5 i) / Nat.gcd ((wkN (stN zf) (zt.2 5) i).1 * zt.2 5 i + stN zf i * (wkN (stN zf) (zt.2 5) i).2) ((wkN (stN zf) (zt.2 5) i).2 * zt.2 5 i)))), none, some (.int (nI (i + 1))), some (.long (lN (zt.2 5 i))), none, some (.long (lN (Nat.gcd ((wkN (stN zf) (zt.2 5) i).1 * zt.2 5 i + stN zf i * (wkN (stN zf) (zt.2 5) i).2) ((wkN (stN zf) (zt.2 5) i).2 * zt.2 5 i)))), none]) dX10_days_76 rfl (nI_1 _) (Nat.le_of_ble_eq_true rfl) rfl ?_
    refine ev_goto (pc := 79) (tgt := 8) dX10_days_79 (by decide) ?_
    refine ev_less (L' := [some (.ref 0), some (.int zv), some (.long (lN (((wkN (stN zf) (zt.2 5) i).1 * zt.2 5 i + stN zf i * (wkN (stN zf) (zt.2 5) i).2) / Nat.gcd ((wkN (stN zf) (zt.2 5) i).1 * zt.2 5 i + stN zf i * (wkN (stN zf) (zt.2 5) i).2) ((wkN (stN zf) (zt.2 5) i).2 * zt.2 5 i)))), none, some (.long (lN (((wkN (stN zf) (zt.2 5) i).2 * zt.2 5 i) / Nat.gcd ((wkN (stN zf) (zt.2 5) i).1 * zt.2 5 i + stN zf i * (wkN (stN zf) (zt.2 5) i).2) ((wkN (stN zf) (zt.2 5) i).2 * zt.2 5 i)))), none, some (.int (nI (i + 1))), none, none, none, none]) (ls_keep (ls_keep (ls_keep (ls_keep (ls_keep (ls_keep (ls_keep (ls_drop (ls_keep (ls_drop (ls_keep (ls_nil _)))))))))))) ?_
    refine ev_eqL (L' := [some (.ref 0), some (.int zv), some (.long (lN (wkN (stN zf) (zt.2 5) (i + 1)).1)), none, some (.long (lN (wkN (stN zf) (zt.2 5) (i + 1)).2)), none, some (.int (nI (i + 1))), none, none, none, none]) (by rw [wkN]) ?_
    exact ih (i + 1) (by omega)
theorem cn_X10_days_3 (E : ME) (h : AH) (zt : PSt) (zv : Int32) (zf : Nat → Int32) (zx : Int64) (hw : WF h) (hY : STz zt 3 h) (hO : POK zt) (hst : h.2.2.2 0 1 = some 3) (hF : FLz zf zx h) : Con E mX10_days 2 0 0 [.ref 0, .int zv] h (fun r h' => r = some (.long (if zv = 0 then lN (wkN (stN zf) (zt.2 5) 6).2 else lN (wkN (stN zf) (zt.2 5) 6).1)) ∧ h' = h) := by
  refine con_of2 (L := [some (.ref 0), some (.int zv), none, none, none, none, none, none, none, none, none]) rfl (Nat.le_of_ble_eq_true rfl) rfl ?_
  refine ev_lconst (pc := 0) (v := 0) dX10_days_0 (by decide) ?_
  refine ev_lstore_n (pc := 1) (L' := [some (.ref 0), some (.int zv), some (.long 0), none, none, none, none, none, none, none, none]) dX10_days_1 (Nat.le_of_ble_eq_true rfl) rfl ?_
  refine ev_lconst (pc := 2) (v := 1) dX10_days_2 (by decide) ?_
  refine ev_lstore (pc := 3) (L' := [some (.ref 0), some (.int zv), some (.long 0), none, some (.long 1), none, none, none, none, none, none]) dX10_days_3 (Nat.le_of_ble_eq_true rfl) rfl ?_
  refine ev_iconst (pc := 5) (v := 0) dX10_days_5 (by decide) ?_
  refine ev_istore (pc := 6) (L' := [some (.ref 0), some (.int zv), some (.long 0), none, some (.long 1), none, some (.int 0), none, none, none, none]) dX10_days_6 (Nat.le_of_ble_eq_true rfl) rfl ?_
  refine lp_days_3 E h zt zv zf zx hw hY hO hst hF ?_ 6 0 (Nat.zero_add _)
  refine ev_iload_n (pc := 82) dX10_days_82 rfl ?_
  refine ev_if_eq (pc := 83) (tgt := 90) dX10_days_83 (by decide) (fun zc83 => ?_) (fun zc83 => ?_)
  · -- eq at 83: taken
    refine ev_lload (pc := 90) dX10_days_90 rfl ?_
    refine ev_lret (pc := 92) dX10_days_92 rfl ?_
    · refine ⟨?_, rfl⟩
      rw [if_pos zc83]
  · -- eq at 83: not taken
    refine ev_lload_n (pc := 86) dX10_days_86 rfl ?_
    refine ev_goto (pc := 87) (tgt := 92) dX10_days_87 (by decide) ?_
    refine ev_lret (pc := 92) dX10_days_92 rfl ?_
    · refine ⟨?_, rfl⟩
      rw [if_neg zc83]
theorem cn_X10_works_3 (E : ME) (h : AH) (zt : PSt) (zv : Int32) (zf : Nat → Int32) (zx : Int64) (hw : WF h) (hY : STz zt 3 h) (hO : POK zt) (hst : h.2.2.2 0 1 = some 3) (hF : FLz zf zx h) : Con E mX10_works 3 0 0 [.ref 0, .int zv] h (fun r h' => r = some (.long (if zv = 0 then lN (fb_sm (fun zq => stN zf zq * zt.2 4 zq) 6) else if zv = 1 then lN (wkN (stN zf) (zt.2 5) 6).1 else if zv = 2 then lN (wkN (stN zf) (zt.2 5) 6).2 else -1)) ∧ h' = h) := by
  refine con_of2 (L := [some (.ref 0), some (.int zv)]) rfl (Nat.le_of_ble_eq_true rfl) rfl ?_
  refine ev_iload_n (pc := 0) dX10_works_0 rfl ?_
  refine ev_nmI (fun zsv ezsv => ?_)
  by_cases zq0 : zsv = 0
  · subst zq0
    refine ev_tabIn (pc := 1) (off := 27) (tgt := 28) dX10_works_1 (by decide) (by decide) (by decide +kernel) (by decide) ?_
    refine ev_aload_n (pc := 28) dX10_works_28 rfl ?_
    refine ev_callVv (S := []) (pc := 29) dX10_works_29 kX10_cost lX10_340 vX10_cost (cn_X10_cost_3 E h zt zf zx hw hY hO hst hF) rfl rfl (wlt hw (by decide)) rfl rfl (Nat.le_of_ble_eq_true rfl) ⟨Nat.le_of_ble_eq_true rfl, Nat.le_of_ble_eq_true rfl⟩ ⟨Nat.le_of_ble_eq_true rfl, Nat.le_of_ble_eq_true rfl⟩ ?_
    refine ev_lret (pc := 32) dX10_works_32 rfl ?_
    · refine ⟨?_, rfl⟩
      subst ezsv
      rfl
  by_cases zq1 : zsv = 1
  · subst zq1
    refine ev_tabIn (pc := 1) (off := 32) (tgt := 33) dX10_works_1 (by decide) (by decide) (by decide +kernel) (by decide) ?_
    refine ev_aload_n (pc := 33) dX10_works_33 rfl ?_
    refine ev_iload_n (pc := 34) dX10_works_34 rfl ?_
    refine ev_iconst (pc := 35) (v := 1) dX10_works_35 (by decide) ?_
    refine ev_icmp_ne (pc := 36) (tgt := 43) dX10_works_36 (by decide) (fun zc36 => absurd (by first | (subst ezsv; rfl) | rfl) zc36) (fun zc36 => ?_)
    refine ev_iconst (pc := 39) (v := 1) dX10_works_39 (by decide) ?_
    refine ev_goto (pc := 40) (tgt := 44) dX10_works_40 (by decide) ?_
    refine ev_callVv (S := []) (pc := 44) dX10_works_44 kX10_days lX10_343 vX10_days (cn_X10_days_3 E h zt 1 zf zx hw hY hO hst hF) rfl rfl (wlt hw (by decide)) rfl rfl (Nat.le_of_ble_eq_true rfl) ⟨Nat.le_of_ble_eq_true rfl, Nat.le_of_ble_eq_true rfl⟩ ⟨Nat.le_of_ble_eq_true rfl, Nat.le_of_ble_eq_true rfl⟩ ?_
    refine ev_lret (pc := 47) dX10_works_47 rfl ?_
    · refine ⟨?_, rfl⟩
      subst ezsv
      rfl
  by_cases zq2 : zsv = 2
  · subst zq2
    refine ev_tabIn (pc := 1) (off := 32) (tgt := 33) dX10_works_1 (by decide) (by decide) (by decide +kernel) (by decide) ?_
    refine ev_aload_n (pc := 33) dX10_works_33 rfl ?_
    refine ev_iload_n (pc := 34) dX10_works_34 rfl ?_
    refine ev_iconst (pc := 35) (v := 1) dX10_works_35 (by decide) ?_
    refine ev_icmp_ne (pc := 36) (tgt := 43) dX10_works_36 (by decide) (fun zc36 => ?_) (fun zc36 => absurd zc36 (by subst ezsv; decide))
    refine ev_iconst (pc := 43) (v := 0) dX10_works_43 (by decide) ?_
    refine ev_callVv (S := []) (pc := 44) dX10_works_44 kX10_days lX10_343 vX10_days (cn_X10_days_3 E h zt 0 zf zx hw hY hO hst hF) rfl rfl (wlt hw (by decide)) rfl rfl (Nat.le_of_ble_eq_true rfl) ⟨Nat.le_of_ble_eq_true rfl, Nat.le_of_ble_eq_true rfl⟩ ⟨Nat.le_of_ble_eq_true rfl, Nat.le_of_ble_eq_true rfl⟩ ?_
    refine ev_lret (pc := 47) dX10_works_47 rfl ?_
    · refine ⟨?_, rfl⟩
      subst ezsv
      rfl
  have zhout : zsv.toInt < 0 ∨ 2 < zsv.toInt := by
    have nzq0 := i32_ne zq0
    have nzq1 := i32_ne zq1
    have nzq2 := i32_ne zq2
    replace nzq0 : ¬ zsv.toInt = 0 := nzq0
    replace nzq1 : ¬ zsv.toInt = 1 := nzq1
    replace nzq2 : ¬ zsv.toInt = 2 := nzq2
    omega
  refine ev_tabOut (pc := 1) (tgt := 48) dX10_works_1 zhout (by decide) ?_
  refine ev_ldc2 (pc := 48) (v := (-1)) dX10_works_48 kcX10_212 ?_
  refine ev_lret (pc := 51) dX10_works_51 rfl ?_
  · refine ⟨?_, rfl⟩
    subst ezsv
    rw [if_neg zq0, if_neg zq1, if_neg zq2]
theorem lp_cost_11 (E : ME) (h : AH) (zt : PSt) (zf : Nat → Int32) (zx : Int64) (hw : WF h) (hY : STz zt 11 h) (hO : POK zt) (hst : h.2.2.2 0 1 = some 11) (hF : FLz zf zx h) {post : PO} (K : Ev E mX10_cost (rmm 2 0 0) (QM E 0 0 post) 0 0 41 [some (.ref 0), some (.long (lN (fb_sm (fun zq => stN zf zq * zt.2 4 zq) 6))), none, some (.int (nI 6))] [] h) : ∀ n i : Nat, i + n = 6 → Ev E mX10_cost (rmm 2 0 0) (QM E 0 0 post) 0 0 4 [some (.ref 0), some (.long (lN (fb_sm (fun zq => stN zf zq * zt.2 4 zq) i))), none, some (.int (nI i))] [] h := by
  intro n
  induction n with
  | zero =>
    intro i hi
    obtain rfl : 6 = i := by omega
    refine ev_iload_n (pc := 4) dX10_cost_4 rfl ?_
    refine ev_bipush (pc := 5) (v := 6) dX10_cost_5 (by decide) ?_
    refine ev_icmp_ge (pc := 7) (tgt := 41) dX10_cost_7 (by decide) (fun zc7 => ?_) (fun zc7 => absurd (by decide) zc7)
    exact K
  | succ n ih =>
    intro i hi
    have hlt : i < 6 := by omega
    have zin : (0 : Int32) ≤ nI i ∧ nI i ≤ 5 := ⟨nI_pos' (by omega), nI_le (a := i) (b := 5) (by omega) (by decide)⟩
    have zct := pl_ct hF.2.2.1 hlt
    have zsb : stN zf i ≤ 64 := fb_ct_le _ _
    have zpd := hO.2.2.2.2.2.2.1 i hlt
    refine ev_iload_n (pc := 4) dX10_cost_4 rfl ?_
    refine ev_bipush (pc := 5) (v := 6) dX10_cost_5 (by decide) ?_
    refine ev_icmp_ge (pc := 7) (tgt := 41) dX10_cost_7 (by decide) (fun zc7 => absurd zc7 (nI_ge (a := i) (b := 6) hlt (by decide))) (fun zc7 => ?_)
    refine ev_lload_n (pc := 10) dX10_cost_10 rfl ?_
    refine ev_aload_n (pc := 11) dX10_cost_11 rfl ?_
    refine ev_getR (pc := 12) (q := 25) dX10_cost_12 fX10_45 rfl (wlt hw (by decide)) (wr hw rfl) ?_
    refine ev_iload_n (pc := 15) dX10_cost_15 rfl ?_
    refine ev_callVv (S := [.long (lN (fb_sm (fun zq => stN zf zq * zt.2 4 zq) i))]) (pc := 16) dX10_cost_16 kX2_plane lX10_336 vX2_plane (cn_X2_plane E h i hw hlt) rfl rfl (wlt hw (by decide)) rfl rfl (Nat.le_of_ble_eq_true rfl) ⟨Nat.le_of_ble_eq_true rfl, Nat.le_of_ble_eq_true rfl⟩ ⟨Nat.le_of_ble_eq_true rfl, Nat.le_of_ble_eq_true rfl⟩ ?_
    refine ev_callSv (S := [.long (lN (fb_sm (fun zq => stN zf zq * zt.2 4 zq) i))]) (pc := 19) dX10_cost_19 kJ13_bitCount_95d88 lX10_311 sJ13_bitCount_95d88 (cn_J13_bitCount_95d88 E h (h.2.2.1 27 i)) rfl rfl (Nat.le_of_ble_eq_true rfl) ⟨Nat.le_of_ble_eq_true rfl, Nat.le_of_ble_eq_true rfl⟩ ⟨Nat.le_of_ble_eq_true rfl, Nat.le_of_ble_eq_true rfl⟩ ?_
    refine ev_eqI (e' := nI (stN zf i)) zct ?_
    refine ev_i2l (pc := 22) dX10_cost_22 ?_
    refine ev_eqJ (e' := lN (stN zf i)) (nI_l (by omega)) ?_
    refine ev_aload_n (pc := 23) dX10_cost_23 rfl ?_
    refine ev_getR (pc := 24) (q := 11) dX10_cost_24 fX10_19 rfl (wlt hw (by decide)) hst ?_
    refine ev_iload_n (pc := 27) dX10_cost_27 rfl ?_
    refine ev_callVv (S := [.long (lN (stN zf i)), .long (lN (fb_sm (fun zq => stN zf zq * zt.2 4 zq) i))]) (pc := 28) dX10_cost_28 kX8_priceOf lX10_127 vX8_priceOf (cn_X8_priceOf_11 E h zt (nI i) hw hY hO) rfl rfl (wlt hw (by decide)) rfl rfl (Nat.le_of_ble_eq_true rfl) ⟨Nat.le_of_ble_eq_true rfl, Nat.le_of_ble_eq_true rfl⟩ ⟨Nat.le_of_ble_eq_true rfl, Nat.le_of_ble_eq_true rfl⟩ ?_
    refine ev_eqI (e' := nI (zt.2 4 i)) (by rw [if_pos zin, nI_clamp (by omega)]) ?_
    refine ev_i2l (pc := 31) dX10_cost_31 ?_
    refine ev_eqJ (e' := lN (zt.2 4 i)) (nI_l (by omega)) ?_
    refine ev_lmul (pc := 32) dX10_cost_32 ?_
    refine ev_eqJ (e' := lN (stN zf i * zt.2 4 i)) (lN_mul _ _) ?_
    refine ev_ladd (pc := 33) dX10_cost_33 ?_
    refine ev_eqJ (e' := lN (fb_sm (fun zq => stN zf zq * zt.2 4 zq) (i + 1))) (by rw [fb_sm_succ, lN_add]) ?_
    refine ev_lstore_n (pc := 34) (L' := [some (.ref 0), some (.long (lN (fb_sm (fun zq => stN zf zq * zt.2 4 zq) (i + 1)))), none, some (.int (nI i))]) dX10_cost_34 (Nat.le_of_ble_eq_true rfl) rfl ?_
    refine ev_iinc (pc := 35) (v := nI (i + 1)) (L' := [some (.ref 0), some (.long (lN (fb_sm (fun zq => stN zf zq * zt.2 4 zq) (i + 1)))), none, some (.int (nI (i + 1)))]) dX10_cost_35 rfl (nI_1 _) (Nat.le_of_ble_eq_true rfl) rfl ?_
    refine ev_goto (pc := 38) (tgt := 4) dX10_cost_38 (by decide) ?_
    exact ih (i + 1) (by omega)
theorem cn_X10_cost_11 (E : ME) (h : AH) (zt : PSt) (zf : Nat → Int32) (zx : Int64) (hw : WF h) (hY : STz zt 11 h) (hO : POK zt) (hst : h.2.2.2 0 1 = some 11) (hF : FLz zf zx h) : Con E mX10_cost 2 0 0 [.ref 0] h (fun r h' => r = some (.long (lN (fb_sm (fun zq => stN zf zq * zt.2 4 zq) 6))) ∧ h' = h) := by
  refine con_of2 (L := [some (.ref 0), none, none, none]) rfl (Nat.le_of_ble_eq_true rfl) rfl ?_
  refine ev_lconst (pc := 0) (v := 0) dX10_cost_0 (by decide) ?_
  refine ev_lstore_n (pc := 1) (L' := [some (.ref 0), some (.long 0), none, none]) dX10_cost_1 (Nat.le_of_ble_eq_true rfl) rfl ?_
  refine ev_iconst (pc := 2) (v := 0) dX10_cost_2 (by decide) ?_
  refine ev_istore_n (pc := 3) (L' := [some (.ref 0), some (.long 0), none, some (.int 0)]) dX10_cost_3 (Nat.le_of_ble_eq_true rfl) rfl ?_
  refine lp_cost_11 E h zt zf zx hw hY hO hst hF ?_ 6 0 (Nat.zero_add _)
  refine ev_lload_n (pc := 41) dX10_cost_41 rfl ?_
  refine ev_lret (pc := 42) dX10_cost_42 rfl ?_
  · exact ⟨rfl, rfl⟩
theorem lp_days_11 (E : ME) (h : AH) (zt : PSt) (zv : Int32) (zf : Nat → Int32) (zx : Int64) (hw : WF h) (hY : STz zt 11 h) (hO : POK zt) (hst : h.2.2.2 0 1 = some 11) (hF : FLz zf zx h) {post : PO} (K : Ev E mX10_days (rmm 2 0 0) (QM E 0 0 post) 0 0 82 [some (.ref 0), some (.int zv), some (.long (lN (wkN (stN zf) (zt.2 5) 6).1)), none, some (.long (lN (wkN (stN zf) (zt.2 5) 6).2)), none, some (.int (nI 6)), none, none, none, none] [] h) : ∀ n i : Nat, i + n = 6 → Ev E mX10_days (rmm 2 0 0) (QM E 0 0 post) 0 0 8 [some (.ref 0), some (.int zv), some (.long (lN (wkN (stN zf) (zt.2 5) i).1)), none, some (.long (lN (wkN (stN zf) (zt.2 5) i).2)), none, some (.int (nI i)), none, none, none, none] [] h := by
  intro n
  induction n with
  | zero =>
    intro i hi
    obtain rfl : 6 = i := by omega
    refine ev_iload (pc := 8) dX10_days_8 rfl ?_
    refine ev_bipush (pc := 10) (v := 6) dX10_days_10 (by decide) ?_
    refine ev_icmp_ge (pc := 12) (tgt := 82) dX10_days_12 (by decide) (fun zc12 => ?_) (fun zc12 => absurd (by decide) zc12)
    exact K
  | succ n ih =>
    intro i hi
    have hlt : i < 6 := by omega
    have zin : (0 : Int32) ≤ nI i ∧ nI i ≤ 5 := ⟨nI_pos' (by omega), nI_le (a := i) (b := 5) (by omega) (by decide)⟩
    have zct := pl_ct hF.2.2.1 hlt
    have zsb : stN zf i ≤ 64 := fb_ct_le _ _
    have zpd := hO.2.2.2.2.2.2.1 i hlt
    have zH : ∀ zq, zq < 6 → stN zf zq ≤ 64 ∧ 1 ≤ zt.2 5 zq ∧ zt.2 5 zq ≤ 99 := fun zq hq => ⟨fb_ct_le _ _, (hO.2.2.2.2.2.2.1 zq hq).2⟩
    have zb := wk_b (zc := i) (by omega) zH
    have zt1 : (wkN (stN zf) (zt.2 5) i).1 * zt.2 5 i ≤ 384 * 941480149401 * 99 := Nat.mul_le_mul zb.2.2 zpd.2.2
    have zt2 : stN zf i * (wkN (stN zf) (zt.2 5) i).2 ≤ 64 * 941480149401 := Nat.mul_le_mul zsb zb.2.1
    have zt3 : (wkN (stN zf) (zt.2 5) i).2 * zt.2 5 i ≤ 941480149401 * 99 := Nat.mul_le_mul zb.2.1 zpd.2.2
    have zt4 : 0 < (wkN (stN zf) (zt.2 5) i).2 * zt.2 5 i := Nat.mul_pos zb.1 zpd.2.1
    have zgp := gcd_pos2 (a := (wkN (stN zf) (zt.2 5) i).1 * zt.2 5 i + stN zf i * (wkN (stN zf) (zt.2 5) i).2) zt4
    have zgl := Nat.gcd_le_right ((wkN (stN zf) (zt.2 5) i).1 * zt.2 5 i + stN zf i * (wkN (stN zf) (zt.2 5) i).2) zt4
    refine ev_iload (pc := 8) dX10_days_8 rfl ?_
    refine ev_bipush (pc := 10) (v := 6) dX10_days_10 (by decide) ?_
    refine ev_icmp_ge (pc := 12) (tgt := 82) dX10_days_12 (by decide) (fun zc12 => absurd zc12 (nI_ge (a := i) (b := 6) hlt (by decide))) (fun zc12 => ?_)
    refine ev_aload_n (pc := 15) dX10_days_15 rfl ?_
    refine ev_getR (pc := 16) (q := 11) dX10_days_16 fX10_19 rfl (wlt hw (by decide)) hst ?_
    refine ev_iload (pc := 19) dX10_days_19 rfl ?_
    refine ev_callVv (S := []) (pc := 21) dX10_days_21 kX8_dailyOf lX10_131 vX8_dailyOf (cn_X8_dailyOf_11 E h zt (nI i) hw hY hO) rfl rfl (wlt hw (by decide)) rfl rfl (Nat.le_of_ble_eq_true rfl) ⟨Nat.le_of_ble_eq_true rfl, Nat.le_of_ble_eq_true rfl⟩ ⟨Nat.le_of_ble_eq_true rfl, Nat.le_of_ble_eq_true rfl⟩ ?_
    refine ev_eqI (e' := nI (zt.2 5 i)) (by rw [if_pos zin, nI_clamp (by omega)]) ?_
    refine ev_i2l (pc := 24) dX10_days_24 ?_
    refine ev_eqJ (e' := lN (zt.2 5 i)) (nI_l (by omega)) ?_
    refine ev_lstore (pc := 25) (L' := [some (.ref 0), some (.int zv), some (.long (lN (wkN (stN zf) (zt.2 5) i).1)), none, some (.long (lN (wkN (stN zf) (zt.2 5) i).2)), none, some (.int (nI i)), some (.long (lN (zt.2 5 i))), none, none, none]) dX10_days_25 (Nat.le_of_ble_eq_true rfl) rfl ?_
    refine ev_lload_n (pc := 27) dX10_days_27 rfl ?_
    refine ev_lload (pc := 28) dX10_days_28 rfl ?_
    refine ev_lmul (pc := 30) dX10_days_30 ?_
    refine ev_eqJ (e' := lN ((wkN (stN zf) (zt.2 5) i).1 * zt.2 5 i)) (lN_mul _ _) ?_
    refine ev_aload_n (pc := 31) dX10_days_31 rfl ?_
    refine ev_getR (pc := 32) (q := 25) dX10_days_32 fX10_45 rfl (wlt hw (by decide)) (wr hw rfl) ?_
    refine ev_iload (pc := 35) dX10_days_35 rfl ?_
    refine ev_callVv (S := [.long (lN ((wkN (stN zf) (zt.2 5) i).1 * zt.2 5 i))]) (pc := 37) dX10_days_37 kX2_plane lX10_336 vX2_plane (cn_X2_plane E h i hw hlt) rfl rfl (wlt hw (by decide)) rfl rfl (Nat.le_of_ble_eq_true rfl) ⟨Nat.le_of_ble_eq_true rfl, Nat.le_of_ble_eq_true rfl⟩ ⟨Nat.le_of_ble_eq_true rfl, Nat.le_of_ble_eq_true rfl⟩ ?_
    refine ev_callSv (S := [.long (lN ((wkN (stN zf) (zt.2 5) i).1 * zt.2 5 i))]) (pc := 40) dX10_days_40 kJ13_bitCount_95d88 lX10_311 sJ13_bitCount_95d88 (cn_J13_bitCount_95d88 E h (h.2.2.1 27 i)) rfl rfl (Nat.le_of_ble_eq_true rfl) ⟨Nat.le_of_ble_eq_true rfl, Nat.le_of_ble_eq_true rfl⟩ ⟨Nat.le_of_ble_eq_true rfl, Nat.le_of_ble_eq_true rfl⟩ ?_
    refine ev_eqI (e' := nI (stN zf i)) zct ?_
    refine ev_i2l (pc := 43) dX10_days_43 ?_
    refine ev_eqJ (e' := lN (stN zf i)) (nI_l (by omega)) ?_
    refine ev_lload (pc := 44) dX10_days_44 rfl ?_
    refine ev_lmul (pc := 46) dX10_days_46 ?_
    refine ev_eqJ (e' := lN (stN zf i * (wkN (stN zf) (zt.2 5) i).2)) (lN_mul _ _) ?_
    refine ev_ladd (pc := 47) dX10_days_47 ?_
    refine ev_eqJ (e' := lN ((wkN (stN zf) (zt.2 5) i).1 * zt.2 5 i + stN zf i * (wkN (stN zf) (zt.2 5) i).2)) (lN_add _ _) ?_
    refine ev_lstore_n (pc := 48) (L' := [some (.ref 0), some (.int zv), some (.long (lN ((wkN (stN zf) (zt.2 5) i).1 * zt.2 5 i + stN zf i * (wkN (stN zf) (zt.2 5) i).2))), none, some (.long (lN (wkN (stN zf) (zt.2 5) i).2)), none, some (.int (nI i)), some (.long (lN (zt.2 5 i))), none, none, none]) dX10_days_48 (Nat.le_of_ble_eq_true rfl) rfl ?_
    refine ev_lload (pc := 49) dX10_days_49 rfl ?_
    refine ev_lload (pc := 51) dX10_days_51 rfl ?_
    refine ev_lmul (pc := 53) dX10_days_53 ?_
    refine ev_eqJ (e' := lN ((wkN (stN zf) (zt.2 5) i).2 * zt.2 5 i)) (lN_mul _ _) ?_
    refine ev_lstore (pc := 54) (L' := [some (.ref 0), some (.int zv), some (.long (lN ((wkN (stN zf) (zt.2 5) i).1 * zt.2 5 i + stN zf i * (wkN (stN zf) (zt.2 5) i).2))), none, some (.long (lN ((wkN (stN zf) (zt.2 5) i).2 * zt.2 5 i))), none, some (.int (nI i)), some (.long (lN (zt.2 5 i))), none, none, none]) dX10_days_54 (Nat.le_of_ble_eq_true rfl) rfl ?_
    refine ev_lload_n (pc := 56) dX10_days_56 rfl ?_
    refine ev_lload (pc := 57) dX10_days_57 rfl ?_
    refine ev_callSv (S := []) (pc := 59) dX10_days_59 kX10_sharedDivisor lX10_218 sX10_sharedDivisor (cn_X10_sharedDivisor E h ((wkN (stN zf) (zt.2 5) i).1 * zt.2 5 i + stN zf i * (wkN (stN zf) (zt.2 5) i).2) ((wkN (stN zf) (zt.2 5) i).2 * zt.2 5 i) hw (by omega) (by omega) zgp) rfl rfl (Nat.le_of_ble_eq_true rfl) ⟨Nat.le_of_ble_eq_true rfl, Nat.le_of_ble_eq_true rfl⟩ ⟨Nat.le_of_ble_eq_true rfl, Nat.le_of_ble_eq_true rfl⟩ ?_
    refine ev_lstore (pc := 62) (L' := [some (.ref 0), some (.int zv), some (.long (lN ((wkN (stN zf) (zt.2 5) i).1 * zt.2 5 i + stN zf i * (wkN (stN zf) (zt.2 5) i).2))), none, some (.long (lN ((wkN (stN zf) (zt.2 5) i).2 * zt.2 5 i))), none, some (.int (nI i)), some (.long (lN (zt.2 5 i))), none, some (.long (lN (Nat.gcd ((wkN (stN zf) (zt.2 5) i).1 * zt.2 5 i + stN zf i * (wkN (stN zf) (zt.2 5) i).2) ((wkN (stN zf) (zt.2 5) i).2 * zt.2 5 i)))), none]) dX10_days_62 (Nat.le_of_ble_eq_true rfl) rfl ?_
    refine ev_lload_n (pc := 64) dX10_days_64 rfl ?_
    refine ev_lload (pc := 65) dX10_days_65 rfl ?_
    refine ev_ldiv (pc := 67) dX10_days_67 (fun z => by have z1 := (pk_lEQ (a := Nat.gcd ((wkN (stN zf) (zt.2 5) i).1 * zt.2 5 i + stN zf i * (wkN (stN zf) (zt.2 5) i).2) ((wkN (stN zf) (zt.2 5) i).2 * zt.2 5 i)) (b := 0) (by omega) (by decide)).mp z; omega) ?_
    refine ev_eqJ (e' := lN (((wkN (stN zf) (zt.2 5) i).1 * zt.2 5 i + stN zf i * (wkN (stN zf) (zt.2 5) i).2) / Nat.gcd ((wkN (stN zf) (zt.2 5) i).1 * zt.2 5 i + stN zf i * (wkN (stN zf) (zt.2 5) i).2) ((wkN (stN zf) (zt.2 5) i).2 * zt.2 5 i))) (pk_lDiv (by omega) zgp (by omega)) ?_
    refine ev_lstore_n (pc := 68) (L' := [some (.ref 0), some (.int zv), some (.long (lN (((wkN (stN zf) (zt.2 5) i).1 * zt.2 5 i + stN zf i * (wkN (stN zf) (zt.2 5) i).2) / Nat.gcd ((wkN (stN zf) (zt.2 5) i).1 * zt.2 5 i + stN zf i * (wkN (stN zf) (zt.2 5) i).2) ((wkN (stN zf) (zt.2 5) i).2 * zt.2 5 i)))), none, some (.long (lN ((wkN (stN zf) (zt.2 5) i).2 * zt.2 5 i))), none, some (.int (nI i)), some (.long (lN (zt.2 5 i))), none, some (.long (lN (Nat.gcd ((wkN (stN zf) (zt.2 5) i).1 * zt.2 5 i + stN zf i * (wkN (stN zf) (zt.2 5) i).2) ((wkN (stN zf) (zt.2 5) i).2 * zt.2 5 i)))), none]) dX10_days_68 (Nat.le_of_ble_eq_true rfl) rfl ?_
    refine ev_lload (pc := 69) dX10_days_69 rfl ?_
    refine ev_lload (pc := 71) dX10_days_71 rfl ?_
    refine ev_ldiv (pc := 73) dX10_days_73 (fun z => by have z1 := (pk_lEQ (a := Nat.gcd ((wkN (stN zf) (zt.2 5) i).1 * zt.2 5 i + stN zf i * (wkN (stN zf) (zt.2 5) i).2) ((wkN (stN zf) (zt.2 5) i).2 * zt.2 5 i)) (b := 0) (by omega) (by decide)).mp z; omega) ?_
    refine ev_eqJ (e' := lN (((wkN (stN zf) (zt.2 5) i).2 * zt.2 5 i) / Nat.gcd ((wkN (stN zf) (zt.2 5) i).1 * zt.2 5 i + stN zf i * (wkN (stN zf) (zt.2 5) i).2) ((wkN (stN zf) (zt.2 5) i).2 * zt.2 5 i))) (pk_lDiv (by omega) zgp (by omega)) ?_
    refine ev_lstore (pc := 74) (L' := [some (.ref 0), some (.int zv), some (.long (lN (((wkN (stN zf) (zt.2 5) i).1 * zt.2 5 i + stN zf i * (wkN (stN zf) (zt.2 5) i).2) / Nat.gcd ((wkN (stN zf) (zt.2 5) i).1 * zt.2 5 i + stN zf i * (wkN (stN zf) (zt.2 5) i).2) ((wkN (stN zf) (zt.2 5) i).2 * zt.2 5 i)))), none, some (.long (lN (((wkN (stN zf) (zt.2 5) i).2 * zt.2 5 i) / Nat.gcd ((wkN (stN zf) (zt.2 5) i).1 * zt.2 5 i + stN zf i * (wkN (stN zf) (zt.2 5) i).2) ((wkN (stN zf) (zt.2 5) i).2 * zt.2 5 i)))), none, some (.int (nI i)), some (.long (lN (zt.2 5 i))), none, some (.long (lN (Nat.gcd ((wkN (stN zf) (zt.2 5) i).1 * zt.2 5 i + stN zf i * (wkN (stN zf) (zt.2 5) i).2) ((wkN (stN zf) (zt.2 5) i).2 * zt.2 5 i)))), none]) dX10_days_74 (Nat.le_of_ble_eq_true rfl) rfl ?_
    refine ev_iinc (pc := 76) (v := nI (i + 1)) (L' := [some (.ref 0), some (.int zv), some (.long (lN (((wkN (stN zf) (zt.2 5) i).1 * zt.2 5 i + stN zf i * (wkN (stN zf) (zt.2 5) i).2) / Nat.gcd ((wkN (stN zf) (zt.2 5) i).1 * zt.2 5 i + stN zf i * (wkN (stN zf) (zt.2 5) i).2) ((wkN (stN zf) (zt.2 5) i).2 * zt.2 5 i)))), none, some (.long (lN (((wkN (stN zf) (zt.2 5) i).2 * zt.2 5 i) / Nat.gcd ((wkN (stN zf) (zt.2 5) i).1 * zt.2 5 i + stN zf i * (wkN (stN zf) (zt.2 5) i).2) ((wkN (stN zf) (zt.2 5) i).2 * zt.2 5 i)))), none, some (.int (nI (i + 1))), some (.long (lN (zt.2 5 i))), none, some (.long (lN (Nat.gcd ((wkN (stN zf) (zt.2 5) i).1 * zt.2 5 i + stN zf i * (wkN (stN zf) (zt.2 5) i).2) ((wkN (stN zf) (zt.2 5) i).2 * zt.2 5 i)))), none]) dX10_days_76 rfl (nI_1 _) (Nat.le_of_ble_eq_true rfl) rfl ?_
    refine ev_goto (pc := 79) (tgt := 8) dX10_days_79 (by decide) ?_
    refine ev_less (L' := [some (.ref 0), some (.int zv), some (.long (lN (((wkN (stN zf) (zt.2 5) i).1 * zt.2 5 i + stN zf i * (wkN (stN zf) (zt.2 5) i).2) / Nat.gcd ((wkN (stN zf) (zt.2 5) i).1 * zt.2 5 i + stN zf i * (wkN (stN zf) (zt.2 5) i).2) ((wkN (stN zf) (zt.2 5) i).2 * zt.2 5 i)))), none, some (.long (lN (((wkN (stN zf) (zt.2 5) i).2 * zt.2 5 i) / Nat.gcd ((wkN (stN zf) (zt.2 5) i).1 * zt.2 5 i + stN zf i * (wkN (stN zf) (zt.2 5) i).2) ((wkN (stN zf) (zt.2 5) i).2 * zt.2 5 i)))), none, some (.int (nI (i + 1))), none, none, none, none]) (ls_keep (ls_keep (ls_keep (ls_keep (ls_keep (ls_keep (ls_keep (ls_drop (ls_keep (ls_drop (ls_keep (ls_nil _)))))))))))) ?_
    refine ev_eqL (L' := [some (.ref 0), some (.int zv), some (.long (lN (wkN (stN zf) (zt.2 5) (i + 1)).1)), none, some (.long (lN (wkN (stN zf) (zt.2 5) (i + 1)).2)), none, some (.int (nI (i + 1))), none, none, none, none]) (by rw [wkN]) ?_
    exact ih (i + 1) (by omega)
theorem cn_X10_days_11 (E : ME) (h : AH) (zt : PSt) (zv : Int32) (zf : Nat → Int32) (zx : Int64) (hw : WF h) (hY : STz zt 11 h) (hO : POK zt) (hst : h.2.2.2 0 1 = some 11) (hF : FLz zf zx h) : Con E mX10_days 2 0 0 [.ref 0, .int zv] h (fun r h' => r = some (.long (if zv = 0 then lN (wkN (stN zf) (zt.2 5) 6).2 else lN (wkN (stN zf) (zt.2 5) 6).1)) ∧ h' = h) := by
  refine con_of2 (L := [some (.ref 0), some (.int zv), none, none, none, none, none, none, none, none, none]) rfl (Nat.le_of_ble_eq_true rfl) rfl ?_
  refine ev_lconst (pc := 0) (v := 0) dX10_days_0 (by decide) ?_
  refine ev_lstore_n (pc := 1) (L' := [some (.ref 0), some (.int zv), some (.long 0), none, none, none, none, none, none, none, none]) dX10_days_1 (Nat.le_of_ble_eq_true rfl) rfl ?_
  refine ev_lconst (pc := 2) (v := 1) dX10_days_2 (by decide) ?_
  refine ev_lstore (pc := 3) (L' := [some (.ref 0), some (.int zv), some (.long 0), none, some (.long 1), none, none, none, none, none, none]) dX10_days_3 (Nat.le_of_ble_eq_true rfl) rfl ?_
  refine ev_iconst (pc := 5) (v := 0) dX10_days_5 (by decide) ?_
  refine ev_istore (pc := 6) (L' := [some (.ref 0), some (.int zv), some (.long 0), none, some (.long 1), none, some (.int 0), none, none, none, none]) dX10_days_6 (Nat.le_of_ble_eq_true rfl) rfl ?_
  refine lp_days_11 E h zt zv zf zx hw hY hO hst hF ?_ 6 0 (Nat.zero_add _)
  refine ev_iload_n (pc := 82) dX10_days_82 rfl ?_
  refine ev_if_eq (pc := 83) (tgt := 90) dX10_days_83 (by decide) (fun zc83 => ?_) (fun zc83 => ?_)
  · -- eq at 83: taken
    refine ev_lload (pc := 90) dX10_days_90 rfl ?_
    refine ev_lret (pc := 92) dX10_days_92 rfl ?_
    · refine ⟨?_, rfl⟩
      rw [if_pos zc83]
  · -- eq at 83: not taken
    refine ev_lload_n (pc := 86) dX10_days_86 rfl ?_
    refine ev_goto (pc := 87) (tgt := 92) dX10_days_87 (by decide) ?_
    refine ev_lret (pc := 92) dX10_days_92 rfl ?_
    · refine ⟨?_, rfl⟩
      rw [if_neg zc83]
theorem cn_X10_works_11 (E : ME) (h : AH) (zt : PSt) (zv : Int32) (zf : Nat → Int32) (zx : Int64) (hw : WF h) (hY : STz zt 11 h) (hO : POK zt) (hst : h.2.2.2 0 1 = some 11) (hF : FLz zf zx h) : Con E mX10_works 3 0 0 [.ref 0, .int zv] h (fun r h' => r = some (.long (if zv = 0 then lN (fb_sm (fun zq => stN zf zq * zt.2 4 zq) 6) else if zv = 1 then lN (wkN (stN zf) (zt.2 5) 6).1 else if zv = 2 then lN (wkN (stN zf) (zt.2 5) 6).2 else -1)) ∧ h' = h) := by
  refine con_of2 (L := [some (.ref 0), some (.int zv)]) rfl (Nat.le_of_ble_eq_true rfl) rfl ?_
  refine ev_iload_n (pc := 0) dX10_works_0 rfl ?_
  refine ev_nmI (fun zsv ezsv => ?_)
  by_cases zq0 : zsv = 0
  · subst zq0
    refine ev_tabIn (pc := 1) (off := 27) (tgt := 28) dX10_works_1 (by decide) (by decide) (by decide +kernel) (by decide) ?_
    refine ev_aload_n (pc := 28) dX10_works_28 rfl ?_
    refine ev_callVv (S := []) (pc := 29) dX10_works_29 kX10_cost lX10_340 vX10_cost (cn_X10_cost_11 E h zt zf zx hw hY hO hst hF) rfl rfl (wlt hw (by decide)) rfl rfl (Nat.le_of_ble_eq_true rfl) ⟨Nat.le_of_ble_eq_true rfl, Nat.le_of_ble_eq_true rfl⟩ ⟨Nat.le_of_ble_eq_true rfl, Nat.le_of_ble_eq_true rfl⟩ ?_
    refine ev_lret (pc := 32) dX10_works_32 rfl ?_
    · refine ⟨?_, rfl⟩
      subst ezsv
      rfl
  by_cases zq1 : zsv = 1
  · subst zq1
    refine ev_tabIn (pc := 1) (off := 32) (tgt := 33) dX10_works_1 (by decide) (by decide) (by decide +kernel) (by decide) ?_
    refine ev_aload_n (pc := 33) dX10_works_33 rfl ?_
    refine ev_iload_n (pc := 34) dX10_works_34 rfl ?_
    refine ev_iconst (pc := 35) (v := 1) dX10_works_35 (by decide) ?_
    refine ev_icmp_ne (pc := 36) (tgt := 43) dX10_works_36 (by decide) (fun zc36 => absurd (by first | (subst ezsv; rfl) | rfl) zc36) (fun zc36 => ?_)
    refine ev_iconst (pc := 39) (v := 1) dX10_works_39 (by decide) ?_
    refine ev_goto (pc := 40) (tgt := 44) dX10_works_40 (by decide) ?_
    refine ev_callVv (S := []) (pc := 44) dX10_works_44 kX10_days lX10_343 vX10_days (cn_X10_days_11 E h zt 1 zf zx hw hY hO hst hF) rfl rfl (wlt hw (by decide)) rfl rfl (Nat.le_of_ble_eq_true rfl) ⟨Nat.le_of_ble_eq_true rfl, Nat.le_of_ble_eq_true rfl⟩ ⟨Nat.le_of_ble_eq_true rfl, Nat.le_of_ble_eq_true rfl⟩ ?_
    refine ev_lret (pc := 47) dX10_works_47 rfl ?_
    · refine ⟨?_, rfl⟩
      subst ezsv
      rfl
  by_cases zq2 : zsv = 2
  · subst zq2
    refine ev_tabIn (pc := 1) (off := 32) (tgt := 33) dX10_works_1 (by decide) (by decide) (by decide +kernel) (by decide) ?_
    refine ev_aload_n (pc := 33) dX10_works_33 rfl ?_
    refine ev_iload_n (pc := 34) dX10_works_34 rfl ?_
    refine ev_iconst (pc := 35) (v := 1) dX10_works_35 (by decide) ?_
    refine ev_icmp_ne (pc := 36) (tgt := 43) dX10_works_36 (by decide) (fun zc36 => ?_) (fun zc36 => absurd zc36 (by subst ezsv; decide))
    refine ev_iconst (pc := 43) (v := 0) dX10_works_43 (by decide) ?_
    refine ev_callVv (S := []) (pc := 44) dX10_works_44 kX10_days lX10_343 vX10_days (cn_X10_days_11 E h zt 0 zf zx hw hY hO hst hF) rfl rfl (wlt hw (by decide)) rfl rfl (Nat.le_of_ble_eq_true rfl) ⟨Nat.le_of_ble_eq_true rfl, Nat.le_of_ble_eq_true rfl⟩ ⟨Nat.le_of_ble_eq_true rfl, Nat.le_of_ble_eq_true rfl⟩ ?_
    refine ev_lret (pc := 47) dX10_works_47 rfl ?_
    · refine ⟨?_, rfl⟩
      subst ezsv
      rfl
  have zhout : zsv.toInt < 0 ∨ 2 < zsv.toInt := by
    have nzq0 := i32_ne zq0
    have nzq1 := i32_ne zq1
    have nzq2 := i32_ne zq2
    replace nzq0 : ¬ zsv.toInt = 0 := nzq0
    replace nzq1 : ¬ zsv.toInt = 1 := nzq1
    replace nzq2 : ¬ zsv.toInt = 2 := nzq2
    omega
  refine ev_tabOut (pc := 1) (tgt := 48) dX10_works_1 zhout (by decide) ?_
  refine ev_ldc2 (pc := 48) (v := (-1)) dX10_works_48 kcX10_212 ?_
  refine ev_lret (pc := 51) dX10_works_51 rfl ?_
  · refine ⟨?_, rfl⟩
    subst ezsv
    rw [if_neg zq0, if_neg zq1, if_neg zq2]
theorem cn_X10_fits (E : ME) (h : AH) (zl0 zk0 zs0 zv : Int32) (hw : WF h) : Con E mX10_fits 1 0 0 [.ref 0, .int zl0, .int zk0, .int zs0, .int zv] h (fun r h' => r = some (.int (if (1 ≤ zl0 ∧ zl0 ≤ 999) ∧ (1 ≤ zk0 ∧ zk0 ≤ 99) ∧ (0 ≤ zs0 ∧ zs0 ≤ 9) ∧ (0 ≤ zv ∧ zv ≤ 2) then ftR zl0.toNatClampNeg zk0.toNatClampNeg zs0.toNatClampNeg zv else -1)) ∧ h' = h) := by
  refine con_of2 (L := [some (.ref 0), some (.int zl0), some (.int zk0), some (.int zs0), some (.int zv), none, none, none]) rfl (Nat.le_of_ble_eq_true rfl) rfl ?_
  refine ev_iload_n (pc := 0) dX10_fits_0 rfl ?_
  refine ev_iconst (pc := 1) (v := 1) dX10_fits_1 (by decide) ?_
  refine ev_sipush (pc := 2) (v := 999) dX10_fits_2 (by decide) ?_
  refine ev_callSv (S := []) (pc := 5) dX10_fits_5 kX10_within lX10_123 sX10_within (cn_X10_within E h zl0 1 999) rfl rfl (Nat.le_of_ble_eq_true rfl) ⟨Nat.le_of_ble_eq_true rfl, Nat.le_of_ble_eq_true rfl⟩ ⟨Nat.le_of_ble_eq_true rfl, Nat.le_of_ble_eq_true rfl⟩ ?_
  refine ev_if_eq (pc := 8) (tgt := 41) dX10_fits_8 (by decide) (fun zc8 => ?_) (fun zc8 => ?_)
  · -- eq at 8: taken
    refine ev_iconst (pc := 41) (v := (-1)) dX10_fits_41 (by decide) ?_
    refine ev_iret (pc := 42) dX10_fits_42 rfl ?_ ?_
    · rfl
    · refine ⟨?_, rfl⟩
      rw [if_neg (show ¬ ((1 ≤ zl0 ∧ zl0 ≤ 999) ∧ (1 ≤ zk0 ∧ zk0 ≤ 99) ∧ (0 ≤ zs0 ∧ zs0 ≤ 9) ∧ (0 ≤ zv ∧ zv ≤ 2)) from fun z => bI_0.mp zc8 z.1)]
  · -- eq at 8: not taken
    refine ev_iload_n (pc := 11) dX10_fits_11 rfl ?_
    refine ev_iconst (pc := 12) (v := 1) dX10_fits_12 (by decide) ?_
    refine ev_bipush (pc := 13) (v := 99) dX10_fits_13 (by decide) ?_
    refine ev_callSv (S := []) (pc := 15) dX10_fits_15 kX10_within lX10_123 sX10_within (cn_X10_within E h zk0 1 99) rfl rfl (Nat.le_of_ble_eq_true rfl) ⟨Nat.le_of_ble_eq_true rfl, Nat.le_of_ble_eq_true rfl⟩ ⟨Nat.le_of_ble_eq_true rfl, Nat.le_of_ble_eq_true rfl⟩ ?_
    refine ev_if_eq (pc := 18) (tgt := 41) dX10_fits_18 (by decide) (fun zc18 => ?_) (fun zc18 => ?_)
    · -- eq at 18: taken
      refine ev_iconst (pc := 41) (v := (-1)) dX10_fits_41 (by decide) ?_
      refine ev_iret (pc := 42) dX10_fits_42 rfl ?_ ?_
      · rfl
      · refine ⟨?_, rfl⟩
        rw [if_neg (show ¬ ((1 ≤ zl0 ∧ zl0 ≤ 999) ∧ (1 ≤ zk0 ∧ zk0 ≤ 99) ∧ (0 ≤ zs0 ∧ zs0 ≤ 9) ∧ (0 ≤ zv ∧ zv ≤ 2)) from fun z => bI_0.mp zc18 z.2.1)]
    · -- eq at 18: not taken
      refine ev_iload_n (pc := 21) dX10_fits_21 rfl ?_
      refine ev_iconst (pc := 22) (v := 0) dX10_fits_22 (by decide) ?_
      refine ev_bipush (pc := 23) (v := 9) dX10_fits_23 (by decide) ?_
      refine ev_callSv (S := []) (pc := 25) dX10_fits_25 kX10_within lX10_123 sX10_within (cn_X10_within E h zs0 0 9) rfl rfl (Nat.le_of_ble_eq_true rfl) ⟨Nat.le_of_ble_eq_true rfl, Nat.le_of_ble_eq_true rfl⟩ ⟨Nat.le_of_ble_eq_true rfl, Nat.le_of_ble_eq_true rfl⟩ ?_
      refine ev_if_eq (pc := 28) (tgt := 41) dX10_fits_28 (by decide) (fun zc28 => ?_) (fun zc28 => ?_)
      · -- eq at 28: taken
        refine ev_iconst (pc := 41) (v := (-1)) dX10_fits_41 (by decide) ?_
        refine ev_iret (pc := 42) dX10_fits_42 rfl ?_ ?_
        · rfl
        · refine ⟨?_, rfl⟩
          rw [if_neg (show ¬ ((1 ≤ zl0 ∧ zl0 ≤ 999) ∧ (1 ≤ zk0 ∧ zk0 ≤ 99) ∧ (0 ≤ zs0 ∧ zs0 ≤ 9) ∧ (0 ≤ zv ∧ zv ≤ 2)) from fun z => bI_0.mp zc28 z.2.2.1)]
      · -- eq at 28: not taken
        refine ev_iload (pc := 31) dX10_fits_31 rfl ?_
        refine ev_iconst (pc := 33) (v := 0) dX10_fits_33 (by decide) ?_
        refine ev_iconst (pc := 34) (v := 2) dX10_fits_34 (by decide) ?_
        refine ev_callSv (S := []) (pc := 35) dX10_fits_35 kX10_within lX10_123 sX10_within (cn_X10_within E h zv 0 2) rfl rfl (Nat.le_of_ble_eq_true rfl) ⟨Nat.le_of_ble_eq_true rfl, Nat.le_of_ble_eq_true rfl⟩ ⟨Nat.le_of_ble_eq_true rfl, Nat.le_of_ble_eq_true rfl⟩ ?_
        refine ev_if_ne (pc := 38) (tgt := 43) dX10_fits_38 (by decide) (fun zc38 => ?_) (fun zc38 => ?_)
        · -- ne at 38: taken
          obtain ⟨zl, hzl, rfl⟩ := vp_in_of (vp_sm (N := 1000) (bI_n0.mp zc8).1 (bI_n0.mp zc8).2 (by decide) (by decide)) (by decide)
          obtain ⟨zk, hzk, rfl⟩ := vp_in_of (vp_sm (N := 100) (bI_n0.mp zc18).1 (bI_n0.mp zc18).2 (by decide) (by decide)) (by decide)
          obtain ⟨zs, hzs, rfl⟩ := vp_in_of (vp_sm (N := 10) (bI_n0.mp zc28).1 (bI_n0.mp zc28).2 (by decide) (by decide)) (by decide)
          have hl1 : 0 < zl := (nI_leI (a := 1) (b := zl) (by decide) (by omega)).mp (bI_n0.mp zc8).1
          have hk1 : 0 < zk := (nI_leI (a := 1) (b := zk) (by decide) (by omega)).mp (bI_n0.mp zc18).1
          have zqd : zl / zk * zk ≤ zl := Nat.div_mul_le_self _ _
          have zqe : zl / zk ≤ zl := Nat.div_le_self _ _
          have zqq : ftQ zl zk zs ≤ zl + zk + zs - 1 := Nat.div_le_self _ _
          refine ev_iload_n (pc := 43) dX10_fits_43 rfl ?_
          refine ev_iload_n (pc := 44) dX10_fits_44 rfl ?_
          refine ev_idiv (pc := 45) dX10_fits_45 (nI_ne0 hk1 (by omega)) ?_
          refine ev_eqI (e' := nI (zl / zk)) (pk_div (a := zl) (d := zk) (by omega) (by omega) (by omega)) ?_
          refine ev_istore (pc := 46) (L' := [some (.ref 0), some (.int (nI zl)), some (.int (nI zk)), some (.int (nI zs)), some (.int zv), some (.int (nI (zl / zk))), none, none]) dX10_fits_46 (Nat.le_of_ble_eq_true rfl) rfl ?_
          refine ev_iload_n (pc := 48) dX10_fits_48 rfl ?_
          refine ev_iload_n (pc := 49) dX10_fits_49 rfl ?_
          refine ev_iadd (pc := 50) dX10_fits_50 ?_
          refine ev_eqI (e' := nI (zl + zk)) (nI_add zl zk) ?_
          refine ev_iload_n (pc := 51) dX10_fits_51 rfl ?_
          refine ev_iadd (pc := 52) dX10_fits_52 ?_
          refine ev_eqI (e' := nI ((zl + zk) + zs)) (nI_add (zl + zk) zs) ?_
          refine ev_iconst (pc := 53) (v := 1) dX10_fits_53 (by decide) ?_
          refine ev_isub (pc := 54) dX10_fits_54 ?_
          refine ev_eqI (e' := nI (zl + zk + zs - 1)) (pk_sub (a := zl + zk + zs) (b := 1) (by omega)) ?_
          refine ev_iload_n (pc := 55) dX10_fits_55 rfl ?_
          refine ev_iload_n (pc := 56) dX10_fits_56 rfl ?_
          refine ev_iadd (pc := 57) dX10_fits_57 ?_
          refine ev_eqI (e' := nI (zk + zs)) (nI_add zk zs) ?_
          refine ev_idiv (pc := 58) dX10_fits_58 (nI_ne0 (n := zk + zs) (by omega) (by omega)) ?_
          refine ev_eqI (e' := nI (ftQ zl zk zs)) (pk_div (a := zl + zk + zs - 1) (d := zk + zs) (by omega) (by omega) (by omega)) ?_
          refine ev_istore (pc := 59) (L' := [some (.ref 0), some (.int (nI zl)), some (.int (nI zk)), some (.int (nI zs)), some (.int zv), some (.int (nI (zl / zk))), some (.int (nI (ftQ zl zk zs))), none]) dX10_fits_59 (Nat.le_of_ble_eq_true rfl) rfl ?_
          refine ev_iload (pc := 61) dX10_fits_61 rfl ?_
          refine ev_iload (pc := 63) dX10_fits_63 rfl ?_
          refine ev_icmp_le (pc := 65) (tgt := 71) dX10_fits_65 (by decide) (fun zc65 => ?_) (fun zc65 => ?_)
          · -- le at 65: taken
            refine ev_iload (pc := 71) dX10_fits_71 rfl ?_
            refine ev_iconst (pc := 73) (v := 2) dX10_fits_73 (by decide) ?_
            refine ev_icmp_ge (pc := 74) (tgt := 90) dX10_fits_74 (by decide) (fun zc74 => ?_) (fun zc74 => ?_)
            · -- ge at 74: taken
              refine ev_iload_n (pc := 90) dX10_fits_90 rfl ?_
              refine ev_iload (pc := 91) dX10_fits_91 rfl ?_
              refine ev_iload_n (pc := 93) dX10_fits_93 rfl ?_
              refine ev_imul (pc := 94) dX10_fits_94 ?_
              refine ev_eqI (e' := nI ((zl / zk) * zk)) (pk_mul (zl / zk) zk) ?_
              refine ev_isub (pc := 95) dX10_fits_95 ?_
              refine ev_eqI (e' := nI (zl - zl / zk * zk)) (pk_sub zqd) ?_
              refine ev_istore (pc := 96) (L' := [some (.ref 0), some (.int (nI zl)), some (.int (nI zk)), some (.int (nI zs)), some (.int zv), some (.int (nI (zl / zk))), some (.int (nI (ftQ zl zk zs))), some (.int (nI (zl - zl / zk * zk)))]) dX10_fits_96 (Nat.le_of_ble_eq_true rfl) rfl ?_
              refine ev_iload_n (pc := 98) dX10_fits_98 rfl ?_
              refine ev_if_ne (pc := 99) (tgt := 106) dX10_fits_99 (by decide) (fun zc99 => ?_) (fun zc99 => ?_)
              · -- ne at 99: taken
                have zs1 : 0 < zs := Nat.pos_of_ne_zero (fun z => zc99 (by rw [z]; rfl))
                refine ev_iload (pc := 106) dX10_fits_106 rfl ?_
                refine ev_iload_n (pc := 108) dX10_fits_108 rfl ?_
                refine ev_iadd (pc := 109) dX10_fits_109 ?_
                refine ev_eqI (e' := nI ((zl - zl / zk * zk) + zs)) (nI_add (zl - zl / zk * zk) zs) ?_
                refine ev_iconst (pc := 110) (v := 1) dX10_fits_110 (by decide) ?_
                refine ev_isub (pc := 111) dX10_fits_111 ?_
                refine ev_eqI (e' := nI (zl - zl / zk * zk + zs - 1)) (pk_sub (a := zl - zl / zk * zk + zs) (b := 1) (by omega)) ?_
                refine ev_iload_n (pc := 112) dX10_fits_112 rfl ?_
                refine ev_idiv (pc := 113) dX10_fits_113 (nI_ne0 zs1 (by omega)) ?_
                refine ev_eqI (e' := nI ((zl - zl / zk * zk + zs - 1) / zs)) (pk_div (by omega) zs1 (by omega)) ?_
                refine ev_iret (pc := 114) dX10_fits_114 rfl ?_ ?_
                · rfl
                · refine ⟨?_, rfl⟩
                  rw [if_pos (show (1 ≤ nI zl ∧ nI zl ≤ 999) ∧ (1 ≤ nI zk ∧ nI zk ≤ 99) ∧ (0 ≤ nI zs ∧ nI zs ≤ 9) ∧ (0 ≤ zv ∧ zv ≤ 2) from ⟨bI_n0.mp zc8, bI_n0.mp zc18, bI_n0.mp zc28, bI_n0.mp zc38⟩), nI_clamp (n := zl) (by omega), nI_clamp (n := zk) (by omega), nI_clamp (n := zs) (by omega)]
                  unfold ftR
                  rw [if_pos ((nI_leI (by omega) (by omega)).mp zc65)]
                  have z0 : ¬ zv = 0 := fun z => by rw [z] at zc74; exact absurd zc74 (by decide)
                  have z1 : ¬ zv = 1 := fun z => by rw [z] at zc74; exact absurd zc74 (by decide)
                  rw [if_neg z0, if_neg z1]
                  unfold ftU
                  have zs1 : 0 < zs := Nat.pos_of_ne_zero (fun z => zc99 (by rw [z]; rfl))
                  by_cases z9 : zl - zl / zk * zk = 0
                  · rw [if_pos z9, z9, Nat.zero_add, Nat.div_eq_of_lt (by omega)]
                  · rw [if_neg z9]
              · -- ne at 99: not taken
                refine ev_iconst (pc := 102) (v := 0) dX10_fits_102 (by decide) ?_
                refine ev_goto (pc := 103) (tgt := 114) dX10_fits_103 (by decide) ?_
                refine ev_iret (pc := 114) dX10_fits_114 rfl ?_ ?_
                · rfl
                · refine ⟨?_, rfl⟩
                  rw [if_pos (show (1 ≤ nI zl ∧ nI zl ≤ 999) ∧ (1 ≤ nI zk ∧ nI zk ≤ 99) ∧ (0 ≤ nI zs ∧ nI zs ≤ 9) ∧ (0 ≤ zv ∧ zv ≤ 2) from ⟨bI_n0.mp zc8, bI_n0.mp zc18, bI_n0.mp zc28, bI_n0.mp zc38⟩), nI_clamp (n := zl) (by omega), nI_clamp (n := zk) (by omega), nI_clamp (n := zs) (by omega)]
                  unfold ftR
                  rw [if_pos ((nI_leI (by omega) (by omega)).mp zc65)]
                  have z0 : ¬ zv = 0 := fun z => by rw [z] at zc74; exact absurd zc74 (by decide)
                  have z1 : ¬ zv = 1 := fun z => by rw [z] at zc74; exact absurd zc74 (by decide)
                  rw [if_neg z0, if_neg z1]
                  unfold ftU
                  have zs0 : zs = 0 := (nI_eq (a := zs) (b := 0) (by omega) (by decide)).mp zc99
                  have zq9 := (ftQ_iff (zs := zs) (zm := zl / zk) hk1 hl1).mp ((nI_leI (by omega) (by omega)).mp zc65)
                  rw [zs0, Nat.mul_zero] at zq9
                  rw [if_pos (by omega)]
                  rfl
            · -- ge at 74: not taken
              refine ev_iload (pc := 77) dX10_fits_77 rfl ?_
              refine ev_if_ne (pc := 79) (tgt := 87) dX10_fits_79 (by decide) (fun zc79 => ?_) (fun zc79 => ?_)
              · -- ne at 79: taken
                refine ev_iload (pc := 87) dX10_fits_87 rfl ?_
                refine ev_iret (pc := 89) dX10_fits_89 rfl ?_ ?_
                · rfl
                · refine ⟨?_, rfl⟩
                  rw [if_pos (show (1 ≤ nI zl ∧ nI zl ≤ 999) ∧ (1 ≤ nI zk ∧ nI zk ≤ 99) ∧ (0 ≤ nI zs ∧ nI zs ≤ 9) ∧ (0 ≤ zv ∧ zv ≤ 2) from ⟨bI_n0.mp zc8, bI_n0.mp zc18, bI_n0.mp zc28, bI_n0.mp zc38⟩), nI_clamp (n := zl) (by omega), nI_clamp (n := zk) (by omega), nI_clamp (n := zs) (by omega)]
                  unfold ftR
                  rw [if_pos ((nI_leI (by omega) (by omega)).mp zc65)]
                  have z1 : zv = 1 := by
                    have z2 := (bI_n0.mp zc38)
                    apply Int32.toInt_inj.mp
                    have e1 : (1 : Int32).toInt = 1 := by decide
                    have e2 : (2 : Int32).toInt = 2 := by decide
                    have z3 := z2.1
                    have z4 := (i_le2 _ _).mp zc74
                    have z5 := i32_ne zc79
                    rw [i_le, i_z0] at z3
                    rw [i_lt, e2] at z4
                    rw [i_z0] at z5
                    rw [e1]
                    omega
                  rw [if_neg zc79, if_pos z1]
              · -- ne at 79: not taken
                refine ev_iload (pc := 82) dX10_fits_82 rfl ?_
                refine ev_goto (pc := 84) (tgt := 89) dX10_fits_84 (by decide) ?_
                refine ev_iret (pc := 89) dX10_fits_89 rfl ?_ ?_
                · rfl
                · refine ⟨?_, rfl⟩
                  rw [if_pos (show (1 ≤ nI zl ∧ nI zl ≤ 999) ∧ (1 ≤ nI zk ∧ nI zk ≤ 99) ∧ (0 ≤ nI zs ∧ nI zs ≤ 9) ∧ (0 ≤ zv ∧ zv ≤ 2) from ⟨bI_n0.mp zc8, bI_n0.mp zc18, bI_n0.mp zc28, bI_n0.mp zc38⟩), nI_clamp (n := zl) (by omega), nI_clamp (n := zk) (by omega), nI_clamp (n := zs) (by omega)]
                  unfold ftR
                  rw [if_pos ((nI_leI (by omega) (by omega)).mp zc65)]
                  rw [if_pos zc79]
          · -- le at 65: not taken
            refine ev_bipush (pc := 68) (v := (-4)) dX10_fits_68 (by decide) ?_
            refine ev_iret (pc := 70) dX10_fits_70 rfl ?_ ?_
            · rfl
            · refine ⟨?_, rfl⟩
              rw [if_pos (show (1 ≤ nI zl ∧ nI zl ≤ 999) ∧ (1 ≤ nI zk ∧ nI zk ≤ 99) ∧ (0 ≤ nI zs ∧ nI zs ≤ 9) ∧ (0 ≤ zv ∧ zv ≤ 2) from ⟨bI_n0.mp zc8, bI_n0.mp zc18, bI_n0.mp zc28, bI_n0.mp zc38⟩), nI_clamp (n := zl) (by omega), nI_clamp (n := zk) (by omega), nI_clamp (n := zs) (by omega)]
              unfold ftR
              rw [if_neg (fun z => zc65 ((nI_leI (by omega) (by omega)).mpr z))]
        · -- ne at 38: not taken
          refine ev_iconst (pc := 41) (v := (-1)) dX10_fits_41 (by decide) ?_
          refine ev_iret (pc := 42) dX10_fits_42 rfl ?_ ?_
          · rfl
          · refine ⟨?_, rfl⟩
            rw [if_neg (show ¬ ((1 ≤ zl0 ∧ zl0 ≤ 999) ∧ (1 ≤ zk0 ∧ zk0 ≤ 99) ∧ (0 ≤ zs0 ∧ zs0 ≤ 9) ∧ (0 ≤ zv ∧ zv ≤ 2)) from fun z => bI_0.mp zc38 z.2.2.2)]
