theorem lw_6 {zl zn : Nat} (hz : zl ≤ 3072) (hn : zn ≤ 513) (h : ¬ nI zl - 6 < nI (6 * zn)) : 6 * zn + 5 < zl := by
  have z1 : (nI zl - 6).toInt = (zl : Int) - 6 := pk_sub_toInt (a := zl) (b := 6) (by omega) (by decide)
  rw [i_lt, z1, nI_toInt (by omega)] at h
  omega
theorem lw_loop (E : ME) (zq : String) {zb zl : Nat} {zs : Nat → Int32} (hE : XOK E) (hX : XSc E zb zl zs) (hz : zl ≤ 3072) : ∀ zk zn : Nat, ∀ h : AH, zn + zk = 513 → InV zn h → Ev E (mLn zq) room_1 (QXL E zb) 76 16412 18 [some (.ref 4000), some (.ref 0), some (.ref 49), some (.int (nI (6 * zn)))] [] h := by
  intro zk
  induction zk with
  | zero =>
    intro zn h hk hi
    refine ev_iload_n (pc := 18) dL_law_18 rfl ?_
    refine ev_aload_n (pc := 19) dL_law_19 rfl ?_
    refine ev_slen (pc := 20) hX dL_law_20 ?_
    refine ev_bipush (pc := 21) (v := 6) dL_law_21 (by decide) ?_
    refine ev_isub (pc := 23) dL_law_23 ?_
    refine ev_icmp_gt (pc := 24) (tgt := 1508) dL_law_24 (by decide) (fun zc => ?_) (fun zc => ?_)
    · refine ev_iconst (pc := 1508) (v := 1) dL_law_1508 (by decide) ?_
      exact ev_lwret (pc := 1509) (Nat.le_of_ble_eq_true rfl) (Nat.le_of_ble_eq_true rfl) dL_law_1509
    · have hj := lw_6 hz (by omega) zc
      omega
  | succ zk ih =>
    intro zn h hk hi
    refine ev_iload_n (pc := 18) dL_law_18 rfl ?_
    refine ev_aload_n (pc := 19) dL_law_19 rfl ?_
    refine ev_slen (pc := 20) hX dL_law_20 ?_
    refine ev_bipush (pc := 21) (v := 6) dL_law_21 (by decide) ?_
    refine ev_isub (pc := 23) dL_law_23 ?_
    refine ev_icmp_gt (pc := 24) (tgt := 1508) dL_law_24 (by decide) (fun zc => ?_) (fun zc => ?_)
    · refine ev_iconst (pc := 1508) (v := 1) dL_law_1508 (by decide) ?_
      exact ev_lwret (pc := 1509) (Nat.le_of_ble_eq_true rfl) (Nat.le_of_ble_eq_true rfl) dL_law_1509
    · have hj := lw_6 hz (by omega) zc
      have Kn : ∀ h2 : AH, InV (zn + 1) h2 → Ev E (mLn zq) room_1 (QXL E zb) 76 16412 1502 [some (.ref 4000), some (.ref 0), some (.ref 49), some (.int (nI (6 * zn)))] [] h2 := fun h2 i2 => by
        refine ev_iinc (pc := 1502) (v := nI (6 * (zn + 1))) (L' := [some (.ref 4000), some (.ref 0), some (.ref 49), some (.int (nI (6 * (zn + 1))))]) dL_law_1502 rfl (nI_add (6 * zn) 6) (Nat.le_of_ble_eq_true rfl) rfl ?_
        refine ev_goto (pc := 1505) (tgt := 18) dL_law_1505 (by decide) ?_
        exact ih (zn + 1) h2 (by omega) i2
      refine ev_aload_n (pc := 27) dL_law_27 rfl ?_
      refine ev_iload_n (pc := 28) dL_law_28 rfl ?_
      refine ev_sld (pc := 29) (zj := 6 * zn) hX (by omega) hz dL_law_29 ?_
      refine ev_bipush (pc := 30) (v := 63) dL_law_30 (by decide) ?_
      refine ev_iand (pc := 32) dL_law_32 ?_
      refine ev_nmI (fun zsv ezsv => ?_)
      by_cases zq0 : zsv = 0
      · subst zq0
        refine ev_tabIn (pc := 33) (off := 187) (tgt := 220) dL_law_33 (by decide) (by decide) (by decide +kernel) (by decide) ?_
        exact lw_c0 E zq hE hX hz hj hi Kn
      by_cases zq1 : zsv = 1
      · subst zq1
        refine ev_tabIn (pc := 33) (off := 240) (tgt := 273) dL_law_33 (by decide) (by decide) (by decide +kernel) (by decide) ?_
        exact lw_c1 E zq hE hX hz hj hi Kn
      by_cases zq2 : zsv = 2
      · subst zq2
        refine ev_tabIn (pc := 33) (off := 263) (tgt := 296) dL_law_33 (by decide) (by decide) (by decide +kernel) (by decide) ?_
        exact lw_c2 E zq hE hX hz hj hi Kn
      by_cases zq3 : zsv = 3
      · subst zq3
        refine ev_tabIn (pc := 33) (off := 276) (tgt := 309) dL_law_33 (by decide) (by decide) (by decide +kernel) (by decide) ?_
        exact lw_c3 E zq hE hX hz hj hi Kn
      by_cases zq4 : zsv = 4
      · subst zq4
        refine ev_tabIn (pc := 33) (off := 289) (tgt := 322) dL_law_33 (by decide) (by decide) (by decide +kernel) (by decide) ?_
        exact lw_c4 E zq hE hX hz hj hi Kn
      by_cases zq5 : zsv = 5
      · subst zq5
        refine ev_tabIn (pc := 33) (off := 312) (tgt := 345) dL_law_33 (by decide) (by decide) (by decide +kernel) (by decide) ?_
        exact lw_c5 E zq hE hX hz hj hi Kn
      by_cases zq6 : zsv = 6
      · subst zq6
        refine ev_tabIn (pc := 33) (off := 345) (tgt := 378) dL_law_33 (by decide) (by decide) (by decide +kernel) (by decide) ?_
        exact lw_c6 E zq hE hX hz hj hi Kn
      by_cases zq7 : zsv = 7
      · subst zq7
        refine ev_tabIn (pc := 33) (off := 388) (tgt := 421) dL_law_33 (by decide) (by decide) (by decide +kernel) (by decide) ?_
        exact lw_c7 E zq hE hX hz hj hi Kn
      by_cases zq8 : zsv = 8
      · subst zq8
        refine ev_tabIn (pc := 33) (off := 421) (tgt := 454) dL_law_33 (by decide) (by decide) (by decide +kernel) (by decide) ?_
        exact lw_c8 E zq hE hX hz hj hi Kn
      by_cases zq9 : zsv = 9
      · subst zq9
        refine ev_tabIn (pc := 33) (off := 444) (tgt := 477) dL_law_33 (by decide) (by decide) (by decide +kernel) (by decide) ?_
        exact lw_c9 E zq hE hX hz hj hi Kn
      by_cases zq10 : zsv = 10
      · subst zq10
        refine ev_tabIn (pc := 33) (off := 497) (tgt := 530) dL_law_33 (by decide) (by decide) (by decide +kernel) (by decide) ?_
        exact lw_c10 E zq hE hX hz hj hi Kn
      by_cases zq11 : zsv = 11
      · subst zq11
        refine ev_tabIn (pc := 33) (off := 530) (tgt := 563) dL_law_33 (by decide) (by decide) (by decide +kernel) (by decide) ?_
        exact lw_c11 E zq hE hX hz hj hi Kn
      by_cases zq12 : zsv = 12
      · subst zq12
        refine ev_tabIn (pc := 33) (off := 553) (tgt := 586) dL_law_33 (by decide) (by decide) (by decide +kernel) (by decide) ?_
        exact lw_c12 E zq hE hX hz hj hi Kn
      by_cases zq13 : zsv = 13
      · subst zq13
        refine ev_tabIn (pc := 33) (off := 586) (tgt := 619) dL_law_33 (by decide) (by decide) (by decide +kernel) (by decide) ?_
        exact lw_c13 E zq hE hX hz hj hi Kn
      by_cases zq14 : zsv = 14
      · subst zq14
        refine ev_tabIn (pc := 33) (off := 600) (tgt := 633) dL_law_33 (by decide) (by decide) (by decide +kernel) (by decide) ?_
        exact lw_c14 E zq hE hX hz hj hi Kn
      by_cases zq15 : zsv = 15
      · subst zq15
        refine ev_tabIn (pc := 33) (off := 644) (tgt := 677) dL_law_33 (by decide) (by decide) (by decide +kernel) (by decide) ?_
        exact lw_c15 E zq hE hX hz hj hi Kn
      by_cases zq16 : zsv = 16
      · subst zq16
        refine ev_tabIn (pc := 33) (off := 667) (tgt := 700) dL_law_33 (by decide) (by decide) (by decide +kernel) (by decide) ?_
        exact lw_c16 E zq hE hX hz hj hi Kn
      by_cases zq17 : zsv = 17
      · subst zq17
        refine ev_tabIn (pc := 33) (off := 730) (tgt := 763) dL_law_33 (by decide) (by decide) (by decide +kernel) (by decide) ?_
        exact lw_c17 E zq hE hX hz hj hi Kn
      by_cases zq18 : zsv = 18
      · subst zq18
        refine ev_tabIn (pc := 33) (off := 763) (tgt := 796) dL_law_33 (by decide) (by decide) (by decide +kernel) (by decide) ?_
        exact lw_c18 E zq hE hX hz hj hi Kn
      by_cases zq19 : zsv = 19
      · subst zq19
        refine ev_tabIn (pc := 33) (off := 796) (tgt := 829) dL_law_33 (by decide) (by decide) (by decide +kernel) (by decide) ?_
        exact lw_c19 E zq hE hX hz hj hi Kn
      by_cases zq20 : zsv = 20
      · subst zq20
        refine ev_tabIn (pc := 33) (off := 819) (tgt := 852) dL_law_33 (by decide) (by decide) (by decide +kernel) (by decide) ?_
        exact lw_c20 E zq hE hX hz hj hi Kn
      by_cases zq21 : zsv = 21
      · subst zq21
        refine ev_tabIn (pc := 33) (off := 842) (tgt := 875) dL_law_33 (by decide) (by decide) (by decide +kernel) (by decide) ?_
        exact lw_c21 E zq hE hX hz hj hi Kn
      by_cases zq22 : zsv = 22
      · subst zq22
        refine ev_tabIn (pc := 33) (off := 855) (tgt := 888) dL_law_33 (by decide) (by decide) (by decide +kernel) (by decide) ?_
        exact lw_c22 E zq hE hX hz hj hi Kn
      by_cases zq23 : zsv = 23
      · subst zq23
        refine ev_tabIn (pc := 33) (off := 888) (tgt := 921) dL_law_33 (by decide) (by decide) (by decide +kernel) (by decide) ?_
        exact lw_c23 E zq hE hX hz hj hi Kn
      by_cases zq24 : zsv = 24
      · subst zq24
        refine ev_tabIn (pc := 33) (off := 901) (tgt := 934) dL_law_33 (by decide) (by decide) (by decide +kernel) (by decide) ?_
        exact lw_c24 E zq hE hX hz hj hi Kn
      by_cases zq25 : zsv = 25
      · subst zq25
        refine ev_tabIn (pc := 33) (off := 954) (tgt := 987) dL_law_33 (by decide) (by decide) (by decide +kernel) (by decide) ?_
        exact lw_c25 E zq hE hX hz hj hi Kn
      by_cases zq26 : zsv = 26
      · subst zq26
        refine ev_tabIn (pc := 33) (off := 1017) (tgt := 1050) dL_law_33 (by decide) (by decide) (by decide +kernel) (by decide) ?_
        exact lw_c26 E zq hE hX hz hj hi Kn
      by_cases zq27 : zsv = 27
      · subst zq27
        refine ev_tabIn (pc := 33) (off := 1040) (tgt := 1073) dL_law_33 (by decide) (by decide) (by decide +kernel) (by decide) ?_
        exact lw_c27 E zq hE hX hz hj hi Kn
      by_cases zq28 : zsv = 28
      · subst zq28
        refine ev_tabIn (pc := 33) (off := 1073) (tgt := 1106) dL_law_33 (by decide) (by decide) (by decide +kernel) (by decide) ?_
        exact lw_c28 E zq hE hX hz hj hi Kn
      by_cases zq29 : zsv = 29
      · subst zq29
        refine ev_tabIn (pc := 33) (off := 1086) (tgt := 1119) dL_law_33 (by decide) (by decide) (by decide +kernel) (by decide) ?_
        exact lw_c29 E zq hE hX hz hj hi Kn
      by_cases zq30 : zsv = 30
      · subst zq30
        refine ev_tabIn (pc := 33) (off := 1119) (tgt := 1152) dL_law_33 (by decide) (by decide) (by decide +kernel) (by decide) ?_
        exact lw_c30 E zq hE hX hz hj hi Kn
      by_cases zq31 : zsv = 31
      · subst zq31
        refine ev_tabIn (pc := 33) (off := 1142) (tgt := 1175) dL_law_33 (by decide) (by decide) (by decide +kernel) (by decide) ?_
        exact lw_c31 E zq hE hX hz hj hi Kn
      by_cases zq32 : zsv = 32
      · subst zq32
        refine ev_tabIn (pc := 33) (off := 1155) (tgt := 1188) dL_law_33 (by decide) (by decide) (by decide +kernel) (by decide) ?_
        exact lw_c32 E zq hE hX hz hj hi Kn
      by_cases zq33 : zsv = 33
      · subst zq33
        refine ev_tabIn (pc := 33) (off := 1168) (tgt := 1201) dL_law_33 (by decide) (by decide) (by decide +kernel) (by decide) ?_
        exact lw_c33 E zq hE hX hz hj hi Kn
      by_cases zq34 : zsv = 34
      · subst zq34
        refine ev_tabIn (pc := 33) (off := 1191) (tgt := 1224) dL_law_33 (by decide) (by decide) (by decide +kernel) (by decide) ?_
        exact lw_c34 E zq hE hX hz hj hi Kn
      by_cases zq35 : zsv = 35
      · subst zq35
        refine ev_tabIn (pc := 33) (off := 1215) (tgt := 1248) dL_law_33 (by decide) (by decide) (by decide +kernel) (by decide) ?_
        exact lw_c35 E zq hE hX hz hj hi Kn
      by_cases zq36 : zsv = 36
      · subst zq36
        refine ev_tabIn (pc := 33) (off := 1248) (tgt := 1281) dL_law_33 (by decide) (by decide) (by decide +kernel) (by decide) ?_
        exact lw_c36 E zq hE hX hz hj hi Kn
      by_cases zq37 : zsv = 37
      · subst zq37
        refine ev_tabIn (pc := 33) (off := 1261) (tgt := 1294) dL_law_33 (by decide) (by decide) (by decide +kernel) (by decide) ?_
        exact lw_c37 E zq hE hX hz hj hi Kn
      by_cases zq38 : zsv = 38
      · subst zq38
        refine ev_tabIn (pc := 33) (off := 1284) (tgt := 1317) dL_law_33 (by decide) (by decide) (by decide +kernel) (by decide) ?_
        exact lw_c38 E zq hE hX hz hj hi Kn
      by_cases zq39 : zsv = 39
      · subst zq39
        refine ev_tabIn (pc := 33) (off := 1327) (tgt := 1360) dL_law_33 (by decide) (by decide) (by decide +kernel) (by decide) ?_
        exact lw_c39 E zq hE hX hz hj hi Kn
      by_cases zq40 : zsv = 40
      · subst zq40
        refine ev_tabIn (pc := 33) (off := 1370) (tgt := 1403) dL_law_33 (by decide) (by decide) (by decide +kernel) (by decide) ?_
        exact lw_c40 E zq hE hX hz hj hi Kn
      by_cases zq41 : zsv = 41
      · subst zq41
        refine ev_tabIn (pc := 33) (off := 1433) (tgt := 1466) dL_law_33 (by decide) (by decide) (by decide +kernel) (by decide) ?_
        exact lw_c41 E zq hE hX hz hj hi Kn
      by_cases zq42 : zsv = 42
      · subst zq42
        refine ev_tabIn (pc := 33) (off := 1446) (tgt := 1479) dL_law_33 (by decide) (by decide) (by decide +kernel) (by decide) ?_
        exact lw_c42 E zq hE hX hz hj hi Kn
      have zhout : zsv.toInt < 0 ∨ 42 < zsv.toInt := by
        have n0 : ¬ zsv.toInt = 0 := i32_ne zq0
        have n1 : ¬ zsv.toInt = 1 := i32_ne zq1
        have n2 : ¬ zsv.toInt = 2 := i32_ne zq2
        have n3 : ¬ zsv.toInt = 3 := i32_ne zq3
        have n4 : ¬ zsv.toInt = 4 := i32_ne zq4
        have n5 : ¬ zsv.toInt = 5 := i32_ne zq5
        have n6 : ¬ zsv.toInt = 6 := i32_ne zq6
        have n7 : ¬ zsv.toInt = 7 := i32_ne zq7
        have n8 : ¬ zsv.toInt = 8 := i32_ne zq8
        have n9 : ¬ zsv.toInt = 9 := i32_ne zq9
        have n10 : ¬ zsv.toInt = 10 := i32_ne zq10
        have n11 : ¬ zsv.toInt = 11 := i32_ne zq11
        have n12 : ¬ zsv.toInt = 12 := i32_ne zq12
        have n13 : ¬ zsv.toInt = 13 := i32_ne zq13
        have n14 : ¬ zsv.toInt = 14 := i32_ne zq14
        have n15 : ¬ zsv.toInt = 15 := i32_ne zq15
        have n16 : ¬ zsv.toInt = 16 := i32_ne zq16
        have n17 : ¬ zsv.toInt = 17 := i32_ne zq17
        have n18 : ¬ zsv.toInt = 18 := i32_ne zq18
        have n19 : ¬ zsv.toInt = 19 := i32_ne zq19
        have n20 : ¬ zsv.toInt = 20 := i32_ne zq20
        have n21 : ¬ zsv.toInt = 21 := i32_ne zq21
        have n22 : ¬ zsv.toInt = 22 := i32_ne zq22
        have n23 : ¬ zsv.toInt = 23 := i32_ne zq23
        have n24 : ¬ zsv.toInt = 24 := i32_ne zq24
        have n25 : ¬ zsv.toInt = 25 := i32_ne zq25
        have n26 : ¬ zsv.toInt = 26 := i32_ne zq26
        have n27 : ¬ zsv.toInt = 27 := i32_ne zq27
        have n28 : ¬ zsv.toInt = 28 := i32_ne zq28
        have n29 : ¬ zsv.toInt = 29 := i32_ne zq29
        have n30 : ¬ zsv.toInt = 30 := i32_ne zq30
        have n31 : ¬ zsv.toInt = 31 := i32_ne zq31
        have n32 : ¬ zsv.toInt = 32 := i32_ne zq32
        have n33 : ¬ zsv.toInt = 33 := i32_ne zq33
        have n34 : ¬ zsv.toInt = 34 := i32_ne zq34
        have n35 : ¬ zsv.toInt = 35 := i32_ne zq35
        have n36 : ¬ zsv.toInt = 36 := i32_ne zq36
        have n37 : ¬ zsv.toInt = 37 := i32_ne zq37
        have n38 : ¬ zsv.toInt = 38 := i32_ne zq38
        have n39 : ¬ zsv.toInt = 39 := i32_ne zq39
        have n40 : ¬ zsv.toInt = 40 := i32_ne zq40
        have n41 : ¬ zsv.toInt = 41 := i32_ne zq41
        have n42 : ¬ zsv.toInt = 42 := i32_ne zq42
        omega
      refine ev_tabOut (pc := 33) (tgt := 1502) dL_law_33 zhout (by decide) ?_
      exact Kn h (InV_s hi)
theorem lw_entry (E : ME) (zq : String) {zb zl : Nat} {zs : Nat → Int32} (hE : XOK E) (hX : XSc E zb zl zs) (hz : zl ≤ 3072) (hao : ∀ (s : State) (H : Heap), E.2.2.2.2.2 s H → va_AO RX7 s) : Ev E (mLn zq) room_1 (QXL E zb) 0 0 0 [some (.ref 4000), none, none, none] [] hz0 := by
  refine ev_nwo (pc := 0) (zk := 0) (ci := 10) rfl dL_law_0 rfl rfl clL_7 rfl (by decide) ⟨Nat.le_of_ble_eq_true rfl, Nat.le_of_ble_eq_true rfl⟩ ?_
  refine ev_dup (pc := 3) dL_law_3 rfl ?_
  refine ev_callI (pc := 4) (S := [.ref 0]) dL_law_4 kX10_init lL_9 vX10_init (cn_X10_init_0 E (nwn 0 hz0) hao rfl) rfl rfl (Nat.le_of_ble_eq_true rfl) ⟨Nat.le_of_ble_eq_true rfl, Nat.le_of_ble_eq_true rfl⟩ ⟨Nat.le_of_ble_eq_true rfl, Nat.le_of_ble_eq_true rfl⟩ ?_
  rintro _ _ ⟨rfl, rfl⟩
  refine ev_astore_n (pc := 7) (L' := [some (.ref 4000), some (.ref 0), none, none]) dL_law_7 (Nat.le_of_ble_eq_true rfl) rfl ?_
  refine ev_nwo (pc := 8) (zk := 49) (ci := 11) rfl dL_law_8 rfl rfl clL_10 rfl (by decide) ⟨Nat.le_of_ble_eq_true rfl, Nat.le_of_ble_eq_true rfl⟩ ?_
  refine ev_dup (pc := 11) dL_law_11 rfl ?_
  refine ev_callI (pc := 12) (S := [.ref 49]) dL_law_12 kX11_init lL_12 vX11_init (cn_X11_init_49 E (nwn 49 (iX10_0 (nwn 0 hz0))) rfl) rfl rfl (Nat.le_of_ble_eq_true rfl) ⟨Nat.le_of_ble_eq_true rfl, Nat.le_of_ble_eq_true rfl⟩ ⟨Nat.le_of_ble_eq_true rfl, Nat.le_of_ble_eq_true rfl⟩ ?_
  rintro _ _ ⟨rfl, rfl⟩
  refine ev_astore_n (pc := 15) (L' := [some (.ref 4000), some (.ref 0), some (.ref 49), none]) dL_law_15 (Nat.le_of_ble_eq_true rfl) rfl ?_
  refine ev_iconst (pc := 16) (v := 0) dL_law_16 (by decide) ?_
  refine ev_eqI (e' := nI (6 * 0)) rfl ?_
  refine ev_istore_n (pc := 17) (L' := [some (.ref 4000), some (.ref 0), some (.ref 49), some (.int (nI (6 * 0)))]) dL_law_17 (Nat.le_of_ble_eq_true rfl) rfl ?_
  exact lw_loop E zq hE hX hz 513 0 hz9 rfl InV_0
