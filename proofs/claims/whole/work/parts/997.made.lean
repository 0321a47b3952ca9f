def nwn (zk : Nat) (h : AH) : AH := (zk + 1, fun q => if q = zk then fun _ => 0 else h.2.1 q, fun q => if q = zk then fun _ => 0 else h.2.2.1 q, fun q => if q = zk then fun _ => none else h.2.2.2 q)
section EVW
variable {E : ME} {M : MM} {R : Room} {QX : List Frame → Array Value → State → State → Prop} {x y pc : Nat} {L : List (Option Value)} {S : List Value} {h : AH}
theorem ev_nwo {zk idx ci N : Nat} {r : vw_C} (hn : h.1 = zk) (hd : decode M.2.1 pc = .ok (.new idx, 3)) (hc : classes[ci]? = some r) (hN : r.2.2 = N) (hw : Cond.classLink M.1.cls idx r.1 ∈ tw) (hs : shp zk = (0, ci)) (h9 : zk < 900) (hf : x + 1 ≤ R.cells ∧ y + N ≤ R.slots) (K : Ev E M R QX (x + 1) (y + N) (pc + 3) L (.ref zk :: S) (nwn zk h)) : Ev E M R QX x y pc L S h := by
  subst hn
  exact ev_new hd hc hN hw hs h9 hf K
theorem ev_nwa_i {zk : Nat} {n : Int32} {N : Nat} (hn : h.1 = zk) (hd : decode M.2.1 pc = .ok (.newarray .int, 2)) (hw : Cond.arrayClass .int ∈ tw) (hs : shp zk = (1, N)) (hn0 : ¬ n < 0) (hN : n.toNatClampNeg = N) (hN2 : N ≤ 60000) (h9 : zk < 900) (hf : x + 1 ≤ R.cells ∧ y + N ≤ R.slots) (K : Ev E M R QX (x + 1) (y + N) (pc + 2) L (.ref zk :: S) (nwn zk h)) : Ev E M R QX x y pc L (.int n :: S) h := by
  subst hn
  exact ev_newa_i hd hw hs hn0 hN hN2 h9 hf K
theorem ev_nwa_l {zk : Nat} {n : Int32} {N : Nat} (hn : h.1 = zk) (hd : decode M.2.1 pc = .ok (.newarray .long, 2)) (hw : Cond.arrayClass .long ∈ tw) (hs : shp zk = (2, N)) (hn0 : ¬ n < 0) (hN : n.toNatClampNeg = N) (hN2 : N ≤ 60000) (h9 : zk < 900) (hf : x + 1 ≤ R.cells ∧ y + N ≤ R.slots) (K : Ev E M R QX (x + 1) (y + N) (pc + 2) L (.ref zk :: S) (nwn zk h)) : Ev E M R QX x y pc L (.int n :: S) h := by
  subst hn
  exact ev_newa_l hd hw hs hn0 hN hN2 h9 hf K
theorem ev_nwa_b {zk : Nat} {n : Int32} {N : Nat} (hn : h.1 = zk) (hd : decode M.2.1 pc = .ok (.newarray .byte, 2)) (hw : Cond.arrayClass .byte ∈ tw) (hs : shp zk = (3, N)) (hn0 : ¬ n < 0) (hN : n.toNatClampNeg = N) (hN2 : N ≤ 60000) (h9 : zk < 900) (hf : x + 1 ≤ R.cells ∧ y + N ≤ R.slots) (K : Ev E M R QX (x + 1) (y + N) (pc + 2) L (.ref zk :: S) (nwn zk h)) : Ev E M R QX x y pc L (.int n :: S) h := by
  subst hn
  exact ev_newa_b hd hw hs hn0 hN hN2 h9 hf K
theorem ev_nwr {zk idx : Nat} {n : Int32} {N : Nat} (hn : h.1 = zk) (hd : decode M.2.1 pc = .ok (.anewarray idx, 3)) (hw : Cond.classLink M.1.cls idx RX7 ∈ tw) (hao : ∀ (s : State) (H : Heap), E.2.2.2.2.2 s H → va_AO RX7 s) (hs : shp zk = (4, N)) (hn0 : ¬ n < 0) (hN : n.toNatClampNeg = N) (hN2 : N ≤ 60000) (h9 : zk < 900) (hf : x + 1 ≤ R.cells ∧ y + N ≤ R.slots) (K : Ev E M R QX (x + 1) (y + N) (pc + 3) L (.ref zk :: S) (nwn zk h)) : Ev E M R QX x y pc L (.int n :: S) h := by
  subst hn
  exact ev_anew hd hw hao hs hn0 hN hN2 h9 hf K
end EVW
theorem lu_fillI (E : ME) (h : AH) (zp zn : Nat) (zv : Int32) (hsh : shp zp = (1, zn)) (hpl : zp < h.1) (hn : zn < 2 ^ 30) {post : PO} (K : Ev E mJ7_fill_53178 (rmm 0 0 0) (QM E 0 0 post) 0 0 20 [some (.ref zp), some (.int zv), some (.int (nI zn)), some (.int (nI zn))] [] (sI h zp (flI zv (h.2.1 zp) zn))) : ∀ n i : Nat, i + n = zn → Ev E mJ7_fill_53178 (rmm 0 0 0) (QM E 0 0 post) 0 0 5 [some (.ref zp), some (.int zv), some (.int (nI i)), some (.int (nI zn))] [] (sI h zp (flI zv (h.2.1 zp) i)) := by
  intro n
  induction n with
  | zero =>
    intro i hi
    obtain rfl : zn = i := by omega
    refine ev_iload_n (pc := 5) dJ7_fill_53178_5 rfl ?_
    refine ev_iload_n (pc := 6) dJ7_fill_53178_6 rfl ?_
    refine ev_icmp_ge (pc := 7) (tgt := 20) dJ7_fill_53178_7 (by decide) (fun zc7 => ?_) (fun zc7 => absurd (nI_le (Nat.le_refl _) (by omega)) zc7)
    exact K
  | succ n ih =>
    intro i hi
    have hlt : i < zn := by omega
    refine ev_iload_n (pc := 5) dJ7_fill_53178_5 rfl ?_
    refine ev_iload_n (pc := 6) dJ7_fill_53178_6 rfl ?_
    refine ev_icmp_ge (pc := 7) (tgt := 20) dJ7_fill_53178_7 (by decide) (fun zc7 => absurd zc7 (nI_ge hlt (by omega))) (fun zc7 => ?_)
    refine ev_aload_n (pc := 10) dJ7_fill_53178_10 rfl ?_
    refine ev_iload_n (pc := 11) dJ7_fill_53178_11 rfl ?_
    refine ev_iload_n (pc := 12) dJ7_fill_53178_12 rfl ?_
    refine ev_iast (pc := 13) dJ7_fill_53178_13 hsh hpl (vp_in_nI hlt (by omega)) ?_
    refine ev_eqH (h' := sI h zp (upd (flI zv (h.2.1 zp) i) i zv)) (by rw [show Int32.toNatClampNeg (nI i) = i from nI_clamp (by omega)]; rw [sI_at, sI_sI]) ?_
    refine ev_iinc (pc := 14) (v := nI (i + 1)) (L' := [some (.ref zp), some (.int zv), some (.int (nI (i + 1))), some (.int (nI zn))]) dJ7_fill_53178_14 rfl (nI_1 _) (Nat.le_of_ble_eq_true rfl) rfl ?_
    refine ev_goto (pc := 17) (tgt := 5) dJ7_fill_53178_17 (by decide) ?_
    exact ih (i + 1) (by omega)
theorem cu_fill (E : ME) (h : AH) (zp zn : Nat) (zv : Int32) (hsh : shp zp = (1, zn)) (hpl : zp < h.1) (hn : zn < 2 ^ 30) : Con E mJ7_fill_53178 0 0 0 [.ref zp, .int zv] h (fun r h' => r = none ∧ h' = sI h zp (flI zv (h.2.1 zp) zn)) := by
  refine con_of2 (L := [some (.ref zp), some (.int zv), none, none]) rfl (Nat.le_of_ble_eq_true rfl) rfl ?_
  refine ev_iconst (pc := 0) (v := 0) dJ7_fill_53178_0 (by decide) ?_
  refine ev_istore_n (pc := 1) (L' := [some (.ref zp), some (.int zv), some (.int 0), none]) dJ7_fill_53178_1 (Nat.le_of_ble_eq_true rfl) rfl ?_
  refine ev_aload_n (pc := 2) dJ7_fill_53178_2 rfl ?_
  refine ev_alen (pc := 3) (v := nI zn) dJ7_fill_53178_3 hsh (by decide) hpl rfl ?_
  refine ev_istore_n (pc := 4) (L' := [some (.ref zp), some (.int zv), some (.int 0), some (.int (nI zn))]) dJ7_fill_53178_4 (Nat.le_of_ble_eq_true rfl) rfl ?_
  refine ev_eqH (sI_id h zp).symm ?_
  refine lu_fillI E h zp zn zv hsh hpl hn ?_ zn 0 (Nat.zero_add _)
  refine ev_ret (pc := 20) dJ7_fill_53178_20 rfl ?_
  · exact ⟨rfl, rfl⟩
theorem lu_source_18 (E : ME) (h : AH) (zc zd : Int32) (zw : Nat) (hw8 : zw < 8) {post : PO} (K : Ev E mX10_source (rmm 0 0 0) (QM E 0 0 post) 0 0 46 [some (.int (nI zw)), some (.int zc), some (.int zd), some (.int ((srS zd (zc / zd) (zc - (zc / zd) * zd) (zw % 4)).1)), some (.int ((srS zd (zc / zd) (zc - (zc / zd) * zd) (zw % 4)).2)), some (.int (nI (zw % 4))), none] [] h) : ∀ n i : Nat, i + n = (zw % 4) → Ev E mX10_source (rmm 0 0 0) (QM E 0 0 post) 0 0 18 [some (.int (nI zw)), some (.int zc), some (.int zd), some (.int ((srS zd (zc / zd) (zc - (zc / zd) * zd) i).1)), some (.int ((srS zd (zc / zd) (zc - (zc / zd) * zd) i).2)), some (.int (nI i)), none] [] h := by
  intro n
  induction n with
  | zero =>
    intro i hi
    obtain rfl : zw % 4 = i := by omega
    refine ev_iload (pc := 18) dX10_source_18 rfl ?_
    refine ev_iload_n (pc := 20) dX10_source_20 rfl ?_
    refine ev_iconst (pc := 21) (v := 3) dX10_source_21 (by decide) ?_
    refine ev_iand (pc := 22) dX10_source_22 ?_
    refine ev_eqI (e' := nI (zw % 4)) (fa_mask zw 2) ?_
    refine ev_icmp_ge (pc := 23) (tgt := 46) dX10_source_23 (by decide) (fun zc23 => ?_) (fun zc23 => absurd ((nI_leI (by omega) (by omega)).mpr (Nat.le_refl _)) zc23)
    exact K
  | succ n ih =>
    intro i hi
    have hlt : i < (zw % 4) := by omega
    refine ev_iload (pc := 18) dX10_source_18 rfl ?_
    refine ev_iload_n (pc := 20) dX10_source_20 rfl ?_
    refine ev_iconst (pc := 21) (v := 3) dX10_source_21 (by decide) ?_
    refine ev_iand (pc := 22) dX10_source_22 ?_
    refine ev_eqI (e' := nI (zw % 4)) (fa_mask zw 2) ?_
    refine ev_icmp_ge (pc := 23) (tgt := 46) dX10_source_23 (by decide) (fun zc23 => absurd zc23 (nI_ge hlt (by omega))) (fun zc23 => ?_)
    refine ev_iload_n (pc := 26) dX10_source_26 rfl ?_
    refine ev_istore (pc := 27) (L' := [some (.int (nI zw)), some (.int zc), some (.int zd), some (.int ((srS zd (zc / zd) (zc - (zc / zd) * zd) i).1)), some (.int ((srS zd (zc / zd) (zc - (zc / zd) * zd) i).2)), some (.int (nI i)), some (.int ((srS zd (zc / zd) (zc - (zc / zd) * zd) i).1))]) dX10_source_27 (Nat.le_of_ble_eq_true rfl) rfl ?_
    refine ev_iload_n (pc := 29) dX10_source_29 rfl ?_
    refine ev_iconst (pc := 30) (v := 1) dX10_source_30 (by decide) ?_
    refine ev_isub (pc := 31) dX10_source_31 ?_
    refine ev_iload (pc := 32) dX10_source_32 rfl ?_
    refine ev_isub (pc := 34) dX10_source_34 ?_
    refine ev_istore_n (pc := 35) (L' := [some (.int (nI zw)), some (.int zc), some (.int zd), some (.int ((zd - 1) - ((srS zd (zc / zd) (zc - (zc / zd) * zd) i).2))), some (.int ((srS zd (zc / zd) (zc - (zc / zd) * zd) i).2)), some (.int (nI i)), some (.int ((srS zd (zc / zd) (zc - (zc / zd) * zd) i).1))]) dX10_source_35 (Nat.le_of_ble_eq_true rfl) rfl ?_
    refine ev_iload (pc := 36) dX10_source_36 rfl ?_
    refine ev_istore (pc := 38) (L' := [some (.int (nI zw)), some (.int zc), some (.int zd), some (.int ((zd - 1) - ((srS zd (zc / zd) (zc - (zc / zd) * zd) i).2))), some (.int ((srS zd (zc / zd) (zc - (zc / zd) * zd) i).1)), some (.int (nI i)), some (.int ((srS zd (zc / zd) (zc - (zc / zd) * zd) i).1))]) dX10_source_38 (Nat.le_of_ble_eq_true rfl) rfl ?_
    refine ev_iinc (pc := 40) (v := nI (i + 1)) (L' := [some (.int (nI zw)), some (.int zc), some (.int zd), some (.int ((zd - 1) - ((srS zd (zc / zd) (zc - (zc / zd) * zd) i).2))), some (.int ((srS zd (zc / zd) (zc - (zc / zd) * zd) i).1)), some (.int (nI (i + 1))), some (.int ((srS zd (zc / zd) (zc - (zc / zd) * zd) i).1))]) dX10_source_40 rfl (nI_1 _) (Nat.le_of_ble_eq_true rfl) rfl ?_
    refine ev_goto (pc := 43) (tgt := 18) dX10_source_43 (by decide) ?_
    refine ev_less (L' := [some (.int (nI zw)), some (.int zc), some (.int zd), some (.int ((zd - 1) - ((srS zd (zc / zd) (zc - (zc / zd) * zd) i).2))), some (.int ((srS zd (zc / zd) (zc - (zc / zd) * zd) i).1)), some (.int (nI (i + 1))), none]) (ls_keep (ls_keep (ls_keep (ls_keep (ls_keep (ls_keep (ls_drop (ls_nil _)))))))) ?_
    exact ih (i + 1) (by omega)
theorem cu_source (E : ME) (h : AH) (zw : Nat) (zc zd : Int32) (hw8 : zw < 8) (hs : 0 < zd) : Con E mX10_source 0 0 0 [.int (nI zw), .int zc, .int zd] h (fun r h' => r = some (.int (srI zd zc zw)) ∧ h' = h) := by
  refine con_of2 (L := [some (.int (nI zw)), some (.int zc), some (.int zd), none, none, none, none]) rfl (Nat.le_of_ble_eq_true rfl) rfl ?_
  refine ev_iload_n (pc := 0) dX10_source_0 rfl ?_
  refine ev_if_gt (pc := 1) (tgt := 6) dX10_source_1 (by decide) (fun zc1 => ?_) (fun zc1 => absurd hs zc1)
  refine ev_iload_n (pc := 6) dX10_source_6 rfl ?_
  refine ev_iload_n (pc := 7) dX10_source_7 rfl ?_
  refine ev_idiv (pc := 8) dX10_source_8 (fun z => by rw [z] at hs; exact absurd hs (by decide)) ?_
  refine ev_istore_n (pc := 9) (L' := [some (.int (nI zw)), some (.int zc), some (.int zd), some (.int (zc / zd)), none, none, none]) dX10_source_9 (Nat.le_of_ble_eq_true rfl) rfl ?_
  refine ev_iload_n (pc := 10) dX10_source_10 rfl ?_
  refine ev_iload_n (pc := 11) dX10_source_11 rfl ?_
  refine ev_irem (pc := 12) dX10_source_12 (fun z => by rw [z] at hs; exact absurd hs (by decide)) ?_
  refine ev_istore (pc := 13) (L' := [some (.int (nI zw)), some (.int zc), some (.int zd), some (.int (zc / zd)), some (.int (zc - zc / zd * zd)), none, none]) dX10_source_13 (Nat.le_of_ble_eq_true rfl) rfl ?_
  refine ev_iconst (pc := 15) (v := 0) dX10_source_15 (by decide) ?_
  refine ev_istore (pc := 16) (L' := [some (.int (nI zw)), some (.int zc), some (.int zd), some (.int (zc / zd)), some (.int (zc - zc / zd * zd)), some (.int 0), none]) dX10_source_16 (Nat.le_of_ble_eq_true rfl) rfl ?_
  refine lu_source_18 E h zc zd zw hw8 ?_ (zw % 4) 0 (Nat.zero_add _)
  refine ev_iload_n (pc := 46) dX10_source_46 rfl ?_
  refine ev_iconst (pc := 47) (v := 4) dX10_source_47 (by decide) ?_
  refine ev_icmp_lt (pc := 48) (tgt := 59) dX10_source_48 (by decide) (fun zc48 => ?_) (fun zc48 => ?_)
  · -- lt at 48: taken
    refine ev_iload_n (pc := 59) dX10_source_59 rfl ?_
    refine ev_iload_n (pc := 60) dX10_source_60 rfl ?_
    refine ev_imul (pc := 61) dX10_source_61 ?_
    refine ev_iload (pc := 62) dX10_source_62 rfl ?_
    refine ev_iadd (pc := 64) dX10_source_64 ?_
    refine ev_iret (pc := 65) dX10_source_65 rfl ?_ ?_
    · rfl
    · refine ⟨?_, rfl⟩
      unfold srI
      rw [if_neg (by have := (nI_ltI (a := zw) (b := 4) (by omega) (by decide)).mp zc48; omega), Int32.mul_comm]
  · -- lt at 48: not taken
    refine ev_iload_n (pc := 51) dX10_source_51 rfl ?_
    refine ev_iconst (pc := 52) (v := 1) dX10_source_52 (by decide) ?_
    refine ev_isub (pc := 53) dX10_source_53 ?_
    refine ev_iload (pc := 54) dX10_source_54 rfl ?_
    refine ev_isub (pc := 56) dX10_source_56 ?_
    refine ev_istore (pc := 57) (L' := [some (.int (nI zw)), some (.int zc), some (.int zd), some (.int ((srS zd (zc / zd) (zc - (zc / zd) * zd) (zw % 4)).1)), some (.int ((zd - 1) - ((srS zd (zc / zd) (zc - (zc / zd) * zd) (zw % 4)).2))), some (.int (nI (zw % 4))), none]) dX10_source_57 (Nat.le_of_ble_eq_true rfl) rfl ?_
    refine ev_iload_n (pc := 59) dX10_source_59 rfl ?_
    refine ev_iload_n (pc := 60) dX10_source_60 rfl ?_
    refine ev_imul (pc := 61) dX10_source_61 ?_
    refine ev_iload (pc := 62) dX10_source_62 rfl ?_
    refine ev_iadd (pc := 64) dX10_source_64 ?_
    refine ev_iret (pc := 65) dX10_source_65 rfl ?_ ?_
    · rfl
    · refine ⟨?_, rfl⟩
      unfold srI
      rw [if_pos (Nat.lt_of_not_le (fun z => zc48 ((nI_ltI (a := zw) (b := 4) (by omega) (by decide)).mpr (by omega)))), Int32.mul_comm]
theorem cu_src8 (E : ME) (h : AH) (zw zc : Nat) (hc : zc < 64) (hw8 : zw < 8) : Con E mX10_source 0 0 0 [.int (nI zw), .int (nI zc), .int 8] h (fun r h' => r = some (.int (nI (srN 8 zw zc))) ∧ h' = h) := by
  have k := cu_source E h zw (nI zc) 8 hw8 (by decide)
  rw [(sr8 zw hw8 zc hc).1] at k
  exact k
theorem cu_clear_3 (E : ME) (h : AH)  (hk : ∀ zk, zk < 11 → zk < h.1) (hr0 : h.2.2.2 3 0 = some 4) (hr1 : h.2.2.2 3 1 = some 5) (hr2 : h.2.2.2 3 2 = some 6) (hr3 : h.2.2.2 3 3 = some 7) (hr4 : h.2.2.2 3 4 = some 8) (hr5 : h.2.2.2 3 5 = some 9) (hr6 : h.2.2.2 3 6 = some 10) : Con E mX8_clear 1 0 0 [.ref 3] h (fun r h' => r = none ∧ h' = clH_3 h) := by
  refine con_of2 (L := [some (.ref 3)]) rfl (Nat.le_of_ble_eq_true rfl) rfl ?_
  refine ev_aload_n (pc := 0) dX8_clear_0 rfl ?_
  refine ev_getR (pc := 1) (q := 4) dX8_clear_1 fX8_9 rfl (hk _ (by decide)) hr0 ?_
  refine ev_iconst (pc := 4) (v := 0) dX8_clear_4 (by decide) ?_
  refine ev_callS0 (S := []) (pc := 5) dX8_clear_5 kJ7_fill_53178 lX8_36 sJ7_fill_53178 (cu_fill E h 4 12 0 rfl (hk _ (by decide)) (by decide)) rfl rfl (Nat.le_of_ble_eq_true rfl) ⟨Nat.le_of_ble_eq_true rfl, Nat.le_of_ble_eq_true rfl⟩ ⟨Nat.le_of_ble_eq_true rfl, Nat.le_of_ble_eq_true rfl⟩ ?_
  refine ev_eqH (h' := sI h 4 (flI 0 (h.2.1 4) 12)) rfl ?_
  refine ev_aload_n (pc := 8) dX8_clear_8 rfl ?_
  refine ev_getR (pc := 9) (q := 5) dX8_clear_9 fX8_15 rfl (hk _ (by decide)) hr1 ?_
  refine ev_iconst (pc := 12) (v := 0) dX8_clear_12 (by decide) ?_
  refine ev_callS0 (S := []) (pc := 13) dX8_clear_13 kJ7_fill_53178 lX8_36 sJ7_fill_53178 (cu_fill E (sI h 4 (flI 0 (h.2.1 4) 12)) 5 12 0 rfl (hk _ (by decide)) (by decide)) rfl rfl (Nat.le_of_ble_eq_true rfl) ⟨Nat.le_of_ble_eq_true rfl, Nat.le_of_ble_eq_true rfl⟩ ⟨Nat.le_of_ble_eq_true rfl, Nat.le_of_ble_eq_true rfl⟩ ?_
  refine ev_eqH (h' := sI (sI h 4 (flI 0 (h.2.1 4) 12)) 5 (flI 0 (h.2.1 5) 12)) rfl ?_
  refine ev_aload_n (pc := 16) dX8_clear_16 rfl ?_
  refine ev_getR (pc := 17) (q := 6) dX8_clear_17 fX8_18 rfl (hk _ (by decide)) hr2 ?_
  refine ev_iconst (pc := 20) (v := 0) dX8_clear_20 (by decide) ?_
  refine ev_callS0 (S := []) (pc := 21) dX8_clear_21 kJ7_fill_53178 lX8_36 sJ7_fill_53178 (cu_fill E (sI (sI h 4 (flI 0 (h.2.1 4) 12)) 5 (flI 0 (h.2.1 5) 12)) 6 12 0 rfl (hk _ (by decide)) (by decide)) rfl rfl (Nat.le_of_ble_eq_true rfl) ⟨Nat.le_of_ble_eq_true rfl, Nat.le_of_ble_eq_true rfl⟩ ⟨Nat.le_of_ble_eq_true rfl, Nat.le_of_ble_eq_true rfl⟩ ?_
  refine ev_eqH (h' := sI (sI (sI h 4 (flI 0 (h.2.1 4) 12)) 5 (flI 0 (h.2.1 5) 12)) 6 (flI 0 (h.2.1 6) 12)) rfl ?_
  refine ev_aload_n (pc := 24) dX8_clear_24 rfl ?_
  refine ev_getR (pc := 25) (q := 7) dX8_clear_25 fX8_21 rfl (hk _ (by decide)) hr3 ?_
  refine ev_iconst (pc := 28) (v := 0) dX8_clear_28 (by decide) ?_
  refine ev_callS0 (S := []) (pc := 29) dX8_clear_29 kJ7_fill_53178 lX8_36 sJ7_fill_53178 (cu_fill E (sI (sI (sI h 4 (flI 0 (h.2.1 4) 12)) 5 (flI 0 (h.2.1 5) 12)) 6 (flI 0 (h.2.1 6) 12)) 7 12 0 rfl (hk _ (by decide)) (by decide)) rfl rfl (Nat.le_of_ble_eq_true rfl) ⟨Nat.le_of_ble_eq_true rfl, Nat.le_of_ble_eq_true rfl⟩ ⟨Nat.le_of_ble_eq_true rfl, Nat.le_of_ble_eq_true rfl⟩ ?_
  refine ev_eqH (h' := sI (sI (sI (sI h 4 (flI 0 (h.2.1 4) 12)) 5 (flI 0 (h.2.1 5) 12)) 6 (flI 0 (h.2.1 6) 12)) 7 (flI 0 (h.2.1 7) 12)) rfl ?_
  refine ev_aload_n (pc := 32) dX8_clear_32 rfl ?_
  refine ev_getR (pc := 33) (q := 8) dX8_clear_33 fX8_24 rfl (hk _ (by decide)) hr4 ?_
  refine ev_iconst (pc := 36) (v := 1) dX8_clear_36 (by decide) ?_
  refine ev_callS0 (S := []) (pc := 37) dX8_clear_37 kJ7_fill_53178 lX8_36 sJ7_fill_53178 (cu_fill E (sI (sI (sI (sI h 4 (flI 0 (h.2.1 4) 12)) 5 (flI 0 (h.2.1 5) 12)) 6 (flI 0 (h.2.1 6) 12)) 7 (flI 0 (h.2.1 7) 12)) 8 6 1 rfl (hk _ (by decide)) (by decide)) rfl rfl (Nat.le_of_ble_eq_true rfl) ⟨Nat.le_of_ble_eq_true rfl, Nat.le_of_ble_eq_true rfl⟩ ⟨Nat.le_of_ble_eq_true rfl, Nat.le_of_ble_eq_true rfl⟩ ?_
  refine ev_eqH (h' := sI (sI (sI (sI (sI h 4 (flI 0 (h.2.1 4) 12)) 5 (flI 0 (h.2.1 5) 12)) 6 (flI 0 (h.2.1 6) 12)) 7 (flI 0 (h.2.1 7) 12)) 8 (flI 1 (h.2.1 8) 6)) rfl ?_
  refine ev_aload_n (pc := 40) dX8_clear_40 rfl ?_
  refine ev_getR (pc := 41) (q := 9) dX8_clear_41 fX8_27 rfl (hk _ (by decide)) hr5 ?_
  refine ev_bipush (pc := 44) (v := 10) dX8_clear_44 (by decide) ?_
  refine ev_callS0 (S := []) (pc := 46) dX8_clear_46 kJ7_fill_53178 lX8_36 sJ7_fill_53178 (cu_fill E (sI (sI (sI (sI (sI h 4 (flI 0 (h.2.1 4) 12)) 5 (flI 0 (h.2.1 5) 12)) 6 (flI 0 (h.2.1 6) 12)) 7 (flI 0 (h.2.1 7) 12)) 8 (flI 1 (h.2.1 8) 6)) 9 6 10 rfl (hk _ (by decide)) (by decide)) rfl rfl (Nat.le_of_ble_eq_true rfl) ⟨Nat.le_of_ble_eq_true rfl, Nat.le_of_ble_eq_true rfl⟩ ⟨Nat.le_of_ble_eq_true rfl, Nat.le_of_ble_eq_true rfl⟩ ?_
  refine ev_eqH (h' := sI (sI (sI (sI (sI (sI h 4 (flI 0 (h.2.1 4) 12)) 5 (flI 0 (h.2.1 5) 12)) 6 (flI 0 (h.2.1 6) 12)) 7 (flI 0 (h.2.1 7) 12)) 8 (flI 1 (h.2.1 8) 6)) 9 (flI 10 (h.2.1 9) 6)) rfl ?_
  refine ev_aload_n (pc := 49) dX8_clear_49 rfl ?_
  refine ev_getR (pc := 50) (q := 10) dX8_clear_50 fX8_30 rfl (hk _ (by decide)) hr6 ?_
  refine ev_iconst (pc := 53) (v := (-1)) dX8_clear_53 (by decide) ?_
  refine ev_callS0 (S := []) (pc := 54) dX8_clear_54 kJ7_fill_53178 lX8_36 sJ7_fill_53178 (cu_fill E (sI (sI (sI (sI (sI (sI h 4 (flI 0 (h.2.1 4) 12)) 5 (flI 0 (h.2.1 5) 12)) 6 (flI 0 (h.2.1 6) 12)) 7 (flI 0 (h.2.1 7) 12)) 8 (flI 1 (h.2.1 8) 6)) 9 (flI 10 (h.2.1 9) 6)) 10 64 (-1) rfl (hk _ (by decide)) (by decide)) rfl rfl (Nat.le_of_ble_eq_true rfl) ⟨Nat.le_of_ble_eq_true rfl, Nat.le_of_ble_eq_true rfl⟩ ⟨Nat.le_of_ble_eq_true rfl, Nat.le_of_ble_eq_true rfl⟩ ?_
  refine ev_eqH (h' := sI (sI (sI (sI (sI (sI (sI h 4 (flI 0 (h.2.1 4) 12)) 5 (flI 0 (h.2.1 5) 12)) 6 (flI 0 (h.2.1 6) 12)) 7 (flI 0 (h.2.1 7) 12)) 8 (flI 1 (h.2.1 8) 6)) 9 (flI 10 (h.2.1 9) 6)) 10 (flI (-1) (h.2.1 10) 64)) rfl ?_
  refine ev_aload_n (pc := 57) dX8_clear_57 rfl ?_
  refine ev_iconst (pc := 58) (v := 0) dX8_clear_58 (by decide) ?_
  refine ev_putI (pc := 59) dX8_clear_59 fX8_42 rfl (hk _ (by decide)) ?_
  refine ev_eqH (h' := sI (sI (sI (sI (sI (sI (sI (sI h 4 (flI 0 (h.2.1 4) 12)) 5 (flI 0 (h.2.1 5) 12)) 6 (flI 0 (h.2.1 6) 12)) 7 (flI 0 (h.2.1 7) 12)) 8 (flI 1 (h.2.1 8) 6)) 9 (flI 10 (h.2.1 9) 6)) 10 (flI (-1) (h.2.1 10) 64)) 3 (upd (h.2.1 3) 7 0)) (by rfl) ?_
  refine ev_aload_n (pc := 62) dX8_clear_62 rfl ?_
  refine ev_iconst (pc := 63) (v := 0) dX8_clear_63 (by decide) ?_
  refine ev_putI (pc := 64) dX8_clear_64 fX8_46 rfl (hk _ (by decide)) ?_
  refine ev_eqH (h' := sI (sI (sI (sI (sI (sI (sI (sI h 4 (flI 0 (h.2.1 4) 12)) 5 (flI 0 (h.2.1 5) 12)) 6 (flI 0 (h.2.1 6) 12)) 7 (flI 0 (h.2.1 7) 12)) 8 (flI 1 (h.2.1 8) 6)) 9 (flI 10 (h.2.1 9) 6)) 10 (flI (-1) (h.2.1 10) 64)) 3 (upd (upd (h.2.1 3) 7 0) 8 0)) (by exact sI_sI _ _ _ _) ?_
  refine ev_aload_n (pc := 67) dX8_clear_67 rfl ?_
  refine ev_bipush (pc := 68) (v := 10) dX8_clear_68 (by decide) ?_
  refine ev_putI (pc := 70) dX8_clear_70 fX8_49 rfl (hk _ (by decide)) ?_
  refine ev_eqH (h' := sI (sI (sI (sI (sI (sI (sI (sI h 4 (flI 0 (h.2.1 4) 12)) 5 (flI 0 (h.2.1 5) 12)) 6 (flI 0 (h.2.1 6) 12)) 7 (flI 0 (h.2.1 7) 12)) 8 (flI 1 (h.2.1 8) 6)) 9 (flI 10 (h.2.1 9) 6)) 10 (flI (-1) (h.2.1 10) 64)) 3 (upd (upd (upd (h.2.1 3) 7 0) 8 0) 9 10)) (by exact sI_sI _ _ _ _) ?_
  refine ev_aload_n (pc := 73) dX8_clear_73 rfl ?_
  refine ev_iconst (pc := 74) (v := 0) dX8_clear_74 (by decide) ?_
  refine ev_putZ (pc := 75) dX8_clear_75 fX8_52 rfl (hk _ (by decide)) (by decide) ?_
  refine ev_eqH (h' := sI (sI (sI (sI (sI (sI (sI (sI h 4 (flI 0 (h.2.1 4) 12)) 5 (flI 0 (h.2.1 5) 12)) 6 (flI 0 (h.2.1 6) 12)) 7 (flI 0 (h.2.1 7) 12)) 8 (flI 1 (h.2.1 8) 6)) 9 (flI 10 (h.2.1 9) 6)) 10 (flI (-1) (h.2.1 10) 64)) 3 (upd (upd (upd (upd (h.2.1 3) 7 0) 8 0) 9 10) 10 0)) (by exact sI_sI _ _ _ _) ?_
  refine ev_aload_n (pc := 78) dX8_clear_78 rfl ?_
  refine ev_iconst (pc := 79) (v := 0) dX8_clear_79 (by decide) ?_
  refine ev_putI (pc := 80) dX8_clear_80 fX8_56 rfl (hk _ (by decide)) ?_
  refine ev_eqH (h' := sI (sI (sI (sI (sI (sI (sI (sI h 4 (flI 0 (h.2.1 4) 12)) 5 (flI 0 (h.2.1 5) 12)) 6 (flI 0 (h.2.1 6) 12)) 7 (flI 0 (h.2.1 7) 12)) 8 (flI 1 (h.2.1 8) 6)) 9 (flI 10 (h.2.1 9) 6)) 10 (flI (-1) (h.2.1 10) 64)) 3 (upd (upd (upd (upd (upd (h.2.1 3) 7 0) 8 0) 9 10) 10 0) 11 0)) (by exact sI_sI _ _ _ _) ?_
  refine ev_ret (pc := 83) dX8_clear_83 rfl ?_
  · exact ⟨rfl, rfl⟩
theorem cu_clear_11 (E : ME) (h : AH)  (hk : ∀ zk, zk < 19 → zk < h.1) (hr0 : h.2.2.2 11 0 = some 12) (hr1 : h.2.2.2 11 1 = some 13) (hr2 : h.2.2.2 11 2 = some 14) (hr3 : h.2.2.2 11 3 = some 15) (hr4 : h.2.2.2 11 4 = some 16) (hr5 : h.2.2.2 11 5 = some 17) (hr6 : h.2.2.2 11 6 = some 18) : Con E mX8_clear 1 0 0 [.ref 11] h (fun r h' => r = none ∧ h' = clH_11 h) := by
  refine con_of2 (L := [some (.ref 11)]) rfl (Nat.le_of_ble_eq_true rfl) rfl ?_
  refine ev_aload_n (pc := 0) dX8_clear_0 rfl ?_
  refine ev_getR (pc := 1) (q := 12) dX8_clear_1 fX8_9 rfl (hk _ (by decide)) hr0 ?_
  refine ev_iconst (pc := 4) (v := 0) dX8_clear_4 (by decide) ?_
  refine ev_callS0 (S := []) (pc := 5) dX8_clear_5 kJ7_fill_53178 lX8_36 sJ7_fill_53178 (cu_fill E h 12 12 0 rfl (hk _ (by decide)) (by decide)) rfl rfl (Nat.le_of_ble_eq_true rfl) ⟨Nat.le_of_ble_eq_true rfl, Nat.le_of_ble_eq_true rfl⟩ ⟨Nat.le_of_ble_eq_true rfl, Nat.le_of_ble_eq_true rfl⟩ ?_
  refine ev_eqH (h' := sI h 12 (flI 0 (h.2.1 12) 12)) rfl ?_
  refine ev_aload_n (pc := 8) dX8_clear_8 rfl ?_
  refine ev_getR (pc := 9) (q := 13) dX8_clear_9 fX8_15 rfl (hk _ (by decide)) hr1 ?_
  refine ev_iconst (pc := 12) (v := 0) dX8_clear_12 (by decide) ?_
  refine ev_callS0 (S := []) (pc := 13) dX8_clear_13 kJ7_fill_53178 lX8_36 sJ7_fill_53178 (cu_fill E (sI h 12 (flI 0 (h.2.1 12) 12)) 13 12 0 rfl (hk _ (by decide)) (by decide)) rfl rfl (Nat.le_of_ble_eq_true rfl) ⟨Nat.le_of_ble_eq_true rfl, Nat.le_of_ble_eq_true rfl⟩ ⟨Nat.le_of_ble_eq_true rfl, Nat.le_of_ble_eq_true rfl⟩ ?_
  refine ev_eqH (h' := sI (sI h 12 (flI 0 (h.2.1 12) 12)) 13 (flI 0 (h.2.1 13) 12)) rfl ?_
  refine ev_aload_n (pc := 16) dX8_clear_16 rfl ?_
  refine ev_getR (pc := 17) (q := 14) dX8_clear_17 fX8_18 rfl (hk _ (by decide)) hr2 ?_
  refine ev_iconst (pc := 20) (v := 0) dX8_clear_20 (by decide) ?_
  refine ev_callS0 (S := []) (pc := 21) dX8_clear_21 kJ7_fill_53178 lX8_36 sJ7_fill_53178 (cu_fill E (sI (sI h 12 (flI 0 (h.2.1 12) 12)) 13 (flI 0 (h.2.1 13) 12)) 14 12 0 rfl (hk _ (by decide)) (by decide)) rfl rfl (Nat.le_of_ble_eq_true rfl) ⟨Nat.le_of_ble_eq_true rfl, Nat.le_of_ble_eq_true rfl⟩ ⟨Nat.le_of_ble_eq_true rfl, Nat.le_of_ble_eq_true rfl⟩ ?_
  refine ev_eqH (h' := sI (sI (sI h 12 (flI 0 (h.2.1 12) 12)) 13 (flI 0 (h.2.1 13) 12)) 14 (flI 0 (h.2.1 14) 12)) rfl ?_
  refine ev_aload_n (pc := 24) dX8_clear_24 rfl ?_
  refine ev_getR (pc := 25) (q := 15) dX8_clear_25 fX8_21 rfl (hk _ (by decide)) hr3 ?_
  refine ev_iconst (pc := 28) (v := 0) dX8_clear_28 (by decide) ?_
  refine ev_callS0 (S := []) (pc := 29) dX8_clear_29 kJ7_fill_53178 lX8_36 sJ7_fill_53178 (cu_fill E (sI (sI (sI h 12 (flI 0 (h.2.1 12) 12)) 13 (flI 0 (h.2.1 13) 12)) 14 (flI 0 (h.2.1 14) 12)) 15 12 0 rfl (hk _ (by decide)) (by decide)) rfl rfl (Nat.le_of_ble_eq_true rfl) ⟨Nat.le_of_ble_eq_true rfl, Nat.le_of_ble_eq_true rfl⟩ ⟨Nat.le_of_ble_eq_true rfl, Nat.le_of_ble_eq_true rfl⟩ ?_
  refine ev_eqH (h' := sI (sI (sI (sI h 12 (flI 0 (h.2.1 12) 12)) 13 (flI 0 (h.2.1 13) 12)) 14 (flI 0 (h.2.1 14) 12)) 15 (flI 0 (h.2.1 15) 12)) rfl ?_
  refine ev_aload_n (pc := 32) dX8_clear_32 rfl ?_
  refine ev_getR (pc := 33) (q := 16) dX8_clear_33 fX8_24 rfl (hk _ (by decide)) hr4 ?_
  refine ev_iconst (pc := 36) (v := 1) dX8_clear_36 (by decide) ?_
  refine ev_callS0 (S := []) (pc := 37) dX8_clear_37 kJ7_fill_53178 lX8_36 sJ7_fill_53178 (cu_fill E (sI (sI (sI (sI h 12 (flI 0 (h.2.1 12) 12)) 13 (flI 0 (h.2.1 13) 12)) 14 (flI 0 (h.2.1 14) 12)) 15 (flI 0 (h.2.1 15) 12)) 16 6 1 rfl (hk _ (by decide)) (by decide)) rfl rfl (Nat.le_of_ble_eq_true rfl) ⟨Nat.le_of_ble_eq_true rfl, Nat.le_of_ble_eq_true rfl⟩ ⟨Nat.le_of_ble_eq_true rfl, Nat.le_of_ble_eq_true rfl⟩ ?_
  refine ev_eqH (h' := sI (sI (sI (sI (sI h 12 (flI 0 (h.2.1 12) 12)) 13 (flI 0 (h.2.1 13) 12)) 14 (flI 0 (h.2.1 14) 12)) 15 (flI 0 (h.2.1 15) 12)) 16 (flI 1 (h.2.1 16) 6)) rfl ?_
  refine ev_aload_n (pc := 40) dX8_clear_40 rfl ?_
  refine ev_getR (pc := 41) (q := 17) dX8_clear_41 fX8_27 rfl (hk _ (by decide)) hr5 ?_
  refine ev_bipush (pc := 44) (v := 10) dX8_clear_44 (by decide) ?_
  refine ev_callS0 (S := []) (pc := 46) dX8_clear_46 kJ7_fill_53178 lX8_36 sJ7_fill_53178 (cu_fill E (sI (sI (sI (sI (sI h 12 (flI 0 (h.2.1 12) 12)) 13 (flI 0 (h.2.1 13) 12)) 14 (flI 0 (h.2.1 14) 12)) 15 (flI 0 (h.2.1 15) 12)) 16 (flI 1 (h.2.1 16) 6)) 17 6 10 rfl (hk _ (by decide)) (by decide)) rfl rfl (Nat.le_of_ble_eq_true rfl) ⟨Nat.le_of_ble_eq_true rfl, Nat.le_of_ble_eq_true rfl⟩ ⟨Nat.le_of_ble_eq_true rfl, Nat.le_of_ble_eq_true rfl⟩ ?_
  refine ev_eqH (h' := sI (sI (sI (sI (sI (sI h 12 (flI 0 (h.2.1 12) 12)) 13 (flI 0 (h.2.1 13) 12)) 14 (flI 0 (h.2.1 14) 12)) 15 (flI 0 (h.2.1 15) 12)) 16 (flI 1 (h.2.1 16) 6)) 17 (flI 10 (h.2.1 17) 6)) rfl ?_
  refine ev_aload_n (pc := 49) dX8_clear_49 rfl ?_
  refine ev_getR (pc := 50) (q := 18) dX8_clear_50 fX8_30 rfl (hk _ (by decide)) hr6 ?_
  refine ev_iconst (pc := 53) (v := (-1)) dX8_clear_53 (by decide) ?_
  refine ev_callS0 (S := []) (pc := 54) dX8_clear_54 kJ7_fill_53178 lX8_36 sJ7_fill_53178 (cu_fill E (sI (sI (sI (sI (sI (sI h 12 (flI 0 (h.2.1 12) 12)) 13 (flI 0 (h.2.1 13) 12)) 14 (flI 0 (h.2.1 14) 12)) 15 (flI 0 (h.2.1 15) 12)) 16 (flI 1 (h.2.1 16) 6)) 17 (flI 10 (h.2.1 17) 6)) 18 64 (-1) rfl (hk _ (by decide)) (by decide)) rfl rfl (Nat.le_of_ble_eq_true rfl) ⟨Nat.le_of_ble_eq_true rfl, Nat.le_of_ble_eq_true rfl⟩ ⟨Nat.le_of_ble_eq_true rfl, Nat.le_of_ble_eq_true rfl⟩ ?_
  refine ev_eqH (h' := sI (sI (sI (sI (sI (sI (sI h 12 (flI 0 (h.2.1 12) 12)) 13 (flI 0 (h.2.1 13) 12)) 14 (flI 0 (h.2.1 14) 12)) 15 (flI 0 (h.2.1 15) 12)) 16 (flI 1 (h.2.1 16) 6)) 17 (flI 10 (h.2.1 17) 6)) 18 (flI (-1) (h.2.1 18) 64)) rfl ?_
  refine ev_aload_n (pc := 57) dX8_clear_57 rfl ?_
  refine ev_iconst (pc := 58) (v := 0) dX8_clear_58 (by decide) ?_
  refine ev_putI (pc := 59) dX8_clear_59 fX8_42 rfl (hk _ (by decide)) ?_
  refine ev_eqH (h' := sI (sI (sI (sI (sI (sI (sI (sI h 12 (flI 0 (h.2.1 12) 12)) 13 (flI 0 (h.2.1 13) 12)) 14 (flI 0 (h.2.1 14) 12)) 15 (flI 0 (h.2.1 15) 12)) 16 (flI 1 (h.2.1 16) 6)) 17 (flI 10 (h.2.1 17) 6)) 18 (flI (-1) (h.2.1 18) 64)) 11 (upd (h.2.1 11) 7 0)) (by rfl) ?_
  refine ev_aload_n (pc := 62) dX8_clear_62 rfl ?_
  refine ev_iconst (pc := 63) (v := 0) dX8_clear_63 (by decide) ?_
  refine ev_putI (pc := 64) dX8_clear_64 fX8_46 rfl (hk _ (by decide)) ?_
  refine ev_eqH (h' := sI (sI (sI (sI (sI (sI (sI (sI h 12 (flI 0 (h.2.1 12) 12)) 13 (flI 0 (h.2.1 13) 12)) 14 (flI 0 (h.2.1 14) 12)) 15 (flI 0 (h.2.1 15) 12)) 16 (flI 1 (h.2.1 16) 6)) 17 (flI 10 (h.2.1 17) 6)) 18 (flI (-1) (h.2.1 18) 64)) 11 (upd (upd (h.2.1 11) 7 0) 8 0)) (by exact sI_sI _ _ _ _) ?_
  refine ev_aload_n (pc := 67) dX8_clear_67 rfl ?_
  refine ev_bipush (pc := 68) (v := 10) dX8_clear_68 (by decide) ?_
  refine ev_putI (pc := 70) dX8_clear_70 fX8_49 rfl (hk _ (by decide)) ?_
  refine ev_eqH (h' := sI (sI (sI (sI (sI (sI (sI (sI h 12 (flI 0 (h.2.1 12) 12)) 13 (flI 0 (h.2.1 13) 12)) 14 (flI 0 (h.2.1 14) 12)) 15 (flI 0 (h.2.1 15) 12)) 16 (flI 1 (h.2.1 16) 6)) 17 (flI 10 (h.2.1 17) 6)) 18 (flI (-1) (h.2.1 18) 64)) 11 (upd (upd (upd (h.2.1 11) 7 0) 8 0) 9 10)) (by exact sI_sI _ _ _ _) ?_
  refine ev_aload_n (pc := 73) dX8_clear_73 rfl ?_
  refine ev_iconst (pc := 74) (v := 0) dX8_clear_74 (by decide) ?_
  refine ev_putZ (pc := 75) dX8_clear_75 fX8_52 rfl (hk _ (by decide)) (by decide) ?_
  refine ev_eqH (h' := sI (sI (sI (sI (sI (sI (sI (sI h 12 (flI 0 (h.2.1 12) 12)) 13 (flI 0 (h.2.1 13) 12)) 14 (flI 0 (h.2.1 14) 12)) 15 (flI 0 (h.2.1 15) 12)) 16 (flI 1 (h.2.1 16) 6)) 17 (flI 10 (h.2.1 17) 6)) 18 (flI (-1) (h.2.1 18) 64)) 11 (upd (upd (upd (upd (h.2.1 11) 7 0) 8 0) 9 10) 10 0)) (by exact sI_sI _ _ _ _) ?_
  refine ev_aload_n (pc := 78) dX8_clear_78 rfl ?_
  refine ev_iconst (pc := 79) (v := 0) dX8_clear_79 (by decide) ?_
  refine ev_putI (pc := 80) dX8_clear_80 fX8_56 rfl (hk _ (by decide)) ?_
  refine ev_eqH (h' := sI (sI (sI (sI (sI (sI (sI (sI h 12 (flI 0 (h.2.1 12) 12)) 13 (flI 0 (h.2.1 13) 12)) 14 (flI 0 (h.2.1 14) 12)) 15 (flI 0 (h.2.1 15) 12)) 16 (flI 1 (h.2.1 16) 6)) 17 (flI 10 (h.2.1 17) 6)) 18 (flI (-1) (h.2.1 18) 64)) 11 (upd (upd (upd (upd (upd (h.2.1 11) 7 0) 8 0) 9 10) 10 0) 11 0)) (by exact sI_sI _ _ _ _) ?_
  refine ev_ret (pc := 83) dX8_clear_83 rfl ?_
  · exact ⟨rfl, rfl⟩

def iX9_1_0 (h : AH) : AH := (nwn 2 h)
def iX9_1_1 (h : AH) : AH := sR (iX9_1_0 h) 1 (va_up ((iX9_1_0 h).2.2.2 1) 0 (some 2))
def iX9_1 (h : AH) : AH := (iX9_1_1 h)
theorem cn_X9_init_1 (E : ME) (h : AH)  (hn : h.1 = 2) : Con E mX9_init 1 1 400 [.ref 1] h (fun r h' => r = none ∧ h' = iX9_1 h) := by
  refine con_of2 (L := [some (.ref 1)]) rfl (Nat.le_of_ble_eq_true rfl) rfl ?_
  refine ev_aload_n (pc := 0) dX9_init_0 rfl ?_
  refine ev_objInit (pc := 1) dX9_init_1 oX9_1 oi_inst oi_code (Nat.le_of_ble_eq_true rfl) (Nat.le_of_ble_eq_true rfl) (Nat.le_of_ble_eq_true rfl) ?_
  refine ev_aload_n (pc := 4) dX9_init_4 rfl ?_
  refine ev_sipush (pc := 5) (v := 400) dX9_init_5 (by decide) ?_
  refine ev_nwa_b (pc := 8) (zk := 2) (N := 400) hn dX9_init_8 ac_byte rfl (by decide) (by decide) (by decide) (by decide) ⟨Nat.le_of_ble_eq_true rfl, Nat.le_of_ble_eq_true rfl⟩ ?_
  refine ev_eqH (h' := iX9_1_0 h) rfl ?_
  refine ev_putR (pc := 10) dX9_init_10 fX9_9 rfl (Nat.le_of_ble_eq_true rfl) (Or.inr ⟨rfl, rfl⟩) ⟨rfl, rfl⟩ ?_
  refine ev_eqH (h' := sR (iX9_1_0 h) 1 (va_up ((iX9_1_0 h).2.2.2 1) 0 (some 2))) (by rfl) ?_
  refine ev_eqH (h' := iX9_1_1 h) rfl ?_
  refine ev_ret (pc := 13) dX9_init_13 rfl ?_
  · exact ⟨rfl, rfl⟩
def iX8_3_0 (h : AH) : AH := (nwn 4 h)
def iX8_3_1 (h : AH) : AH := sR (iX8_3_0 h) 3 (va_up ((iX8_3_0 h).2.2.2 3) 0 (some 4))
def iX8_3_2 (h : AH) : AH := (nwn 5 (iX8_3_1 h))
def iX8_3_3 (h : AH) : AH := sR (iX8_3_2 h) 3 (va_up ((iX8_3_2 h).2.2.2 3) 1 (some 5))
def iX8_3_4 (h : AH) : AH := (nwn 6 (iX8_3_3 h))
def iX8_3_5 (h : AH) : AH := sR (iX8_3_4 h) 3 (va_up ((iX8_3_4 h).2.2.2 3) 2 (some 6))
def iX8_3_6 (h : AH) : AH := (nwn 7 (iX8_3_5 h))
def iX8_3_7 (h : AH) : AH := sR (iX8_3_6 h) 3 (va_up ((iX8_3_6 h).2.2.2 3) 3 (some 7))
def iX8_3_8 (h : AH) : AH := (nwn 8 (iX8_3_7 h))
def iX8_3_9 (h : AH) : AH := sR (iX8_3_8 h) 3 (va_up ((iX8_3_8 h).2.2.2 3) 4 (some 8))
def iX8_3_10 (h : AH) : AH := (nwn 9 (iX8_3_9 h))
def iX8_3_11 (h : AH) : AH := sR (iX8_3_10 h) 3 (va_up ((iX8_3_10 h).2.2.2 3) 5 (some 9))
def iX8_3_12 (h : AH) : AH := (nwn 10 (iX8_3_11 h))
def iX8_3_13 (h : AH) : AH := sR (iX8_3_12 h) 3 (va_up ((iX8_3_12 h).2.2.2 3) 6 (some 10))
def iX8_3 (h : AH) : AH := (clH_3 (iX8_3_13 h))
theorem cn_X8_init_3 (E : ME) (h : AH)  (hn : h.1 = 4) : Con E mX8_init 2 7 124 [.ref 3] h (fun r h' => r = none ∧ h' = iX8_3 h) := by
  refine con_of2 (L := [some (.ref 3)]) rfl (Nat.le_of_ble_eq_true rfl) rfl ?_
  refine ev_aload_n (pc := 0) dX8_init_0 rfl ?_
  refine ev_objInit (pc := 1) dX8_init_1 oX8_3 oi_inst oi_code (Nat.le_of_ble_eq_true rfl) (Nat.le_of_ble_eq_true rfl) (Nat.le_of_ble_eq_true rfl) ?_
  refine ev_aload_n (pc := 4) dX8_init_4 rfl ?_
  refine ev_bipush (pc := 5) (v := 12) dX8_init_5 (by decide) ?_
  refine ev_nwa_i (pc := 7) (zk := 4) (N := 12) hn dX8_init_7 ac_int rfl (by decide) (by decide) (by decide) (by decide) ⟨Nat.le_of_ble_eq_true rfl, Nat.le_of_ble_eq_true rfl⟩ ?_
  refine ev_eqH (h' := iX8_3_0 h) rfl ?_
  refine ev_putR (pc := 9) dX8_init_9 fX8_9 rfl (Nat.le_of_ble_eq_true rfl) (Or.inr ⟨rfl, rfl⟩) ⟨rfl, rfl⟩ ?_
  refine ev_eqH (h' := sR (iX8_3_0 h) 3 (va_up ((iX8_3_0 h).2.2.2 3) 0 (some 4))) (by rfl) ?_
  refine ev_eqH (h' := iX8_3_1 h) rfl ?_
  refine ev_aload_n (pc := 12) dX8_init_12 rfl ?_
  refine ev_bipush (pc := 13) (v := 12) dX8_init_13 (by decide) ?_
  refine ev_nwa_i (pc := 15) (zk := 5) (N := 12) rfl dX8_init_15 ac_int rfl (by decide) (by decide) (by decide) (by decide) ⟨Nat.le_of_ble_eq_true rfl, Nat.le_of_ble_eq_true rfl⟩ ?_
  refine ev_eqH (h' := iX8_3_2 h) rfl ?_
  refine ev_putR (pc := 17) dX8_init_17 fX8_15 rfl (Nat.le_of_ble_eq_true rfl) (Or.inr ⟨rfl, rfl⟩) ⟨rfl, rfl⟩ ?_
  refine ev_eqH (h' := sR (iX8_3_2 h) 3 (va_up ((iX8_3_2 h).2.2.2 3) 1 (some 5))) (by rfl) ?_
  refine ev_eqH (h' := iX8_3_3 h) rfl ?_
  refine ev_aload_n (pc := 20) dX8_init_20 rfl ?_
  refine ev_bipush (pc := 21) (v := 12) dX8_init_21 (by decide) ?_
  refine ev_nwa_i (pc := 23) (zk := 6) (N := 12) rfl dX8_init_23 ac_int rfl (by decide) (by decide) (by decide) (by decide) ⟨Nat.le_of_ble_eq_true rfl, Nat.le_of_ble_eq_true rfl⟩ ?_
  refine ev_eqH (h' := iX8_3_4 h) rfl ?_
  refine ev_putR (pc := 25) dX8_init_25 fX8_18 rfl (Nat.le_of_ble_eq_true rfl) (Or.inr ⟨rfl, rfl⟩) ⟨rfl, rfl⟩ ?_
  refine ev_eqH (h' := sR (iX8_3_4 h) 3 (va_up ((iX8_3_4 h).2.2.2 3) 2 (some 6))) (by rfl) ?_
  refine ev_eqH (h' := iX8_3_5 h) rfl ?_
  refine ev_aload_n (pc := 28) dX8_init_28 rfl ?_
  refine ev_bipush (pc := 29) (v := 12) dX8_init_29 (by decide) ?_
  refine ev_nwa_i (pc := 31) (zk := 7) (N := 12) rfl dX8_init_31 ac_int rfl (by decide) (by decide) (by decide) (by decide) ⟨Nat.le_of_ble_eq_true rfl, Nat.le_of_ble_eq_true rfl⟩ ?_
  refine ev_eqH (h' := iX8_3_6 h) rfl ?_
  refine ev_putR (pc := 33) dX8_init_33 fX8_21 rfl (Nat.le_of_ble_eq_true rfl) (Or.inr ⟨rfl, rfl⟩) ⟨rfl, rfl⟩ ?_
  refine ev_eqH (h' := sR (iX8_3_6 h) 3 (va_up ((iX8_3_6 h).2.2.2 3) 3 (some 7))) (by rfl) ?_
  refine ev_eqH (h' := iX8_3_7 h) rfl ?_
  refine ev_aload_n (pc := 36) dX8_init_36 rfl ?_
  refine ev_bipush (pc := 37) (v := 6) dX8_init_37 (by decide) ?_
  refine ev_nwa_i (pc := 39) (zk := 8) (N := 6) rfl dX8_init_39 ac_int rfl (by decide) (by decide) (by decide) (by decide) ⟨Nat.le_of_ble_eq_true rfl, Nat.le_of_ble_eq_true rfl⟩ ?_
  refine ev_eqH (h' := iX8_3_8 h) rfl ?_
  refine ev_putR (pc := 41) dX8_init_41 fX8_24 rfl (Nat.le_of_ble_eq_true rfl) (Or.inr ⟨rfl, rfl⟩) ⟨rfl, rfl⟩ ?_
  refine ev_eqH (h' := sR (iX8_3_8 h) 3 (va_up ((iX8_3_8 h).2.2.2 3) 4 (some 8))) (by rfl) ?_
  refine ev_eqH (h' := iX8_3_9 h) rfl ?_
  refine ev_aload_n (pc := 44) dX8_init_44 rfl ?_
  refine ev_bipush (pc := 45) (v := 6) dX8_init_45 (by decide) ?_
  refine ev_nwa_i (pc := 47) (zk := 9) (N := 6) rfl dX8_init_47 ac_int rfl (by decide) (by decide) (by decide) (by decide) ⟨Nat.le_of_ble_eq_true rfl, Nat.le_of_ble_eq_true rfl⟩ ?_
  refine ev_eqH (h' := iX8_3_10 h) rfl ?_
  refine ev_putR (pc := 49) dX8_init_49 fX8_27 rfl (Nat.le_of_ble_eq_true rfl) (Or.inr ⟨rfl, rfl⟩) ⟨rfl, rfl⟩ ?_
  refine ev_eqH (h' := sR (iX8_3_10 h) 3 (va_up ((iX8_3_10 h).2.2.2 3) 5 (some 9))) (by rfl) ?_
  refine ev_eqH (h' := iX8_3_11 h) rfl ?_
  refine ev_aload_n (pc := 52) dX8_init_52 rfl ?_
  refine ev_bipush (pc := 53) (v := 64) dX8_init_53 (by decide) ?_
  refine ev_nwa_i (pc := 55) (zk := 10) (N := 64) rfl dX8_init_55 ac_int rfl (by decide) (by decide) (by decide) (by decide) ⟨Nat.le_of_ble_eq_true rfl, Nat.le_of_ble_eq_true rfl⟩ ?_
  refine ev_eqH (h' := iX8_3_12 h) rfl ?_
  refine ev_putR (pc := 57) dX8_init_57 fX8_30 rfl (Nat.le_of_ble_eq_true rfl) (Or.inr ⟨rfl, rfl⟩) ⟨rfl, rfl⟩ ?_
  refine ev_eqH (h' := sR (iX8_3_12 h) 3 (va_up ((iX8_3_12 h).2.2.2 3) 6 (some 10))) (by rfl) ?_
  refine ev_eqH (h' := iX8_3_13 h) rfl ?_
  refine ev_aload_n (pc := 60) dX8_init_60 rfl ?_
  refine ev_callV0 (S := []) (pc := 61) dX8_init_61 kX8_clear lX8_33 vX8_clear (cu_clear_3 E (iX8_3_13 h) (fun zk hz => Nat.lt_of_lt_of_le hz (Nat.le_of_ble_eq_true rfl)) rfl rfl rfl rfl rfl rfl rfl) rfl rfl (Nat.le_of_ble_eq_true rfl) rfl rfl (Nat.le_of_ble_eq_true rfl) ⟨Nat.le_of_ble_eq_true rfl, Nat.le_of_ble_eq_true rfl⟩ ⟨Nat.le_of_ble_eq_true rfl, Nat.le_of_ble_eq_true rfl⟩ ?_
  refine ev_eqH (h' := (clH_3 (iX8_3_13 h))) rfl ?_
  refine ev_ret (pc := 64) dX8_init_64 rfl ?_
  · exact ⟨rfl, rfl⟩
def iX8_11_0 (h : AH) : AH := (nwn 12 h)
def iX8_11_1 (h : AH) : AH := sR (iX8_11_0 h) 11 (va_up ((iX8_11_0 h).2.2.2 11) 0 (some 12))
def iX8_11_2 (h : AH) : AH := (nwn 13 (iX8_11_1 h))
def iX8_11_3 (h : AH) : AH := sR (iX8_11_2 h) 11 (va_up ((iX8_11_2 h).2.2.2 11) 1 (some 13))
def iX8_11_4 (h : AH) : AH := (nwn 14 (iX8_11_3 h))
def iX8_11_5 (h : AH) : AH := sR (iX8_11_4 h) 11 (va_up ((iX8_11_4 h).2.2.2 11) 2 (some 14))
def iX8_11_6 (h : AH) : AH := (nwn 15 (iX8_11_5 h))
def iX8_11_7 (h : AH) : AH := sR (iX8_11_6 h) 11 (va_up ((iX8_11_6 h).2.2.2 11) 3 (some 15))
def iX8_11_8 (h : AH) : AH := (nwn 16 (iX8_11_7 h))
def iX8_11_9 (h : AH) : AH := sR (iX8_11_8 h) 11 (va_up ((iX8_11_8 h).2.2.2 11) 4 (some 16))
def iX8_11_10 (h : AH) : AH := (nwn 17 (iX8_11_9 h))
def iX8_11_11 (h : AH) : AH := sR (iX8_11_10 h) 11 (va_up ((iX8_11_10 h).2.2.2 11) 5 (some 17))
def iX8_11_12 (h : AH) : AH := (nwn 18 (iX8_11_11 h))
def iX8_11_13 (h : AH) : AH := sR (iX8_11_12 h) 11 (va_up ((iX8_11_12 h).2.2.2 11) 6 (some 18))
def iX8_11 (h : AH) : AH := (clH_11 (iX8_11_13 h))
theorem cn_X8_init_11 (E : ME) (h : AH)  (hn : h.1 = 12) : Con E mX8_init 2 7 124 [.ref 11] h (fun r h' => r = none ∧ h' = iX8_11 h) := by
  refine con_of2 (L := [some (.ref 11)]) rfl (Nat.le_of_ble_eq_true rfl) rfl ?_
  refine ev_aload_n (pc := 0) dX8_init_0 rfl ?_
  refine ev_objInit (pc := 1) dX8_init_1 oX8_3 oi_inst oi_code (Nat.le_of_ble_eq_true rfl) (Nat.le_of_ble_eq_true rfl) (Nat.le_of_ble_eq_true rfl) ?_
  refine ev_aload_n (pc := 4) dX8_init_4 rfl ?_
  refine ev_bipush (pc := 5) (v := 12) dX8_init_5 (by decide) ?_
  refine ev_nwa_i (pc := 7) (zk := 12) (N := 12) hn dX8_init_7 ac_int rfl (by decide) (by decide) (by decide) (by decide) ⟨Nat.le_of_ble_eq_true rfl, Nat.le_of_ble_eq_true rfl⟩ ?_
  refine ev_eqH (h' := iX8_11_0 h) rfl ?_
  refine ev_putR (pc := 9) dX8_init_9 fX8_9 rfl (Nat.le_of_ble_eq_true rfl) (Or.inr ⟨rfl, rfl⟩) ⟨rfl, rfl⟩ ?_
  refine ev_eqH (h' := sR (iX8_11_0 h) 11 (va_up ((iX8_11_0 h).2.2.2 11) 0 (some 12))) (by rfl) ?_
  refine ev_eqH (h' := iX8_11_1 h) rfl ?_
  refine ev_aload_n (pc := 12) dX8_init_12 rfl ?_
  refine ev_bipush (pc := 13) (v := 12) dX8_init_13 (by decide) ?_
  refine ev_nwa_i (pc := 15) (zk := 13) (N := 12) rfl dX8_init_15 ac_int rfl (by decide) (by decide) (by decide) (by decide) ⟨Nat.le_of_ble_eq_true rfl, Nat.le_of_ble_eq_true rfl⟩ ?_
  refine ev_eqH (h' := iX8_11_2 h) rfl ?_
  refine ev_putR (pc := 17) dX8_init_17 fX8_15 rfl (Nat.le_of_ble_eq_true rfl) (Or.inr ⟨rfl, rfl⟩) ⟨rfl, rfl⟩ ?_
  refine ev_eqH (h' := sR (iX8_11_2 h) 11 (va_up ((iX8_11_2 h).2.2.2 11) 1 (some 13))) (by rfl) ?_
  refine ev_eqH (h' := iX8_11_3 h) rfl ?_
  refine ev_aload_n (pc := 20) dX8_init_20 rfl ?_
  refine ev_bipush (pc := 21) (v := 12) dX8_init_21 (by decide) ?_
  refine ev_nwa_i (pc := 23) (zk := 14) (N := 12) rfl dX8_init_23 ac_int rfl (by decide) (by decide) (by decide) (by decide) ⟨Nat.le_of_ble_eq_true rfl, Nat.le_of_ble_eq_true rfl⟩ ?_
  refine ev_eqH (h' := iX8_11_4 h) rfl ?_
  refine ev_putR (pc := 25) dX8_init_25 fX8_18 rfl (Nat.le_of_ble_eq_true rfl) (Or.inr ⟨rfl, rfl⟩) ⟨rfl, rfl⟩ ?_
  refine ev_eqH (h' := sR (iX8_11_4 h) 11 (va_up ((iX8_11_4 h).2.2.2 11) 2 (some 14))) (by rfl) ?_
  refine ev_eqH (h' := iX8_11_5 h) rfl ?_
  refine ev_aload_n (pc := 28) dX8_init_28 rfl ?_
  refine ev_bipush (pc := 29) (v := 12) dX8_init_29 (by decide) ?_
  refine ev_nwa_i (pc := 31) (zk := 15) (N := 12) rfl dX8_init_31 ac_int rfl (by decide) (by decide) (by decide) (by decide) ⟨Nat.le_of_ble_eq_true rfl, Nat.le_of_ble_eq_true rfl⟩ ?_
  refine ev_eqH (h' := iX8_11_6 h) rfl ?_
  refine ev_putR (pc := 33) dX8_init_33 fX8_21 rfl (Nat.le_of_ble_eq_true rfl) (Or.inr ⟨rfl, rfl⟩) ⟨rfl, rfl⟩ ?_
  refine ev_eqH (h' := sR (iX8_11_6 h) 11 (va_up ((iX8_11_6 h).2.2.2 11) 3 (some 15))) (by rfl) ?_
  refine ev_eqH (h' := iX8_11_7 h) rfl ?_
  refine ev_aload_n (pc := 36) dX8_init_36 rfl ?_
  refine ev_bipush (pc := 37) (v := 6) dX8_init_37 (by decide) ?_
  refine ev_nwa_i (pc := 39) (zk := 16) (N := 6) rfl dX8_init_39 ac_int rfl (by decide) (by decide) (by decide) (by decide) ⟨Nat.le_of_ble_eq_true rfl, Nat.le_of_ble_eq_true rfl⟩ ?_
  refine ev_eqH (h' := iX8_11_8 h) rfl ?_
  refine ev_putR (pc := 41) dX8_init_41 fX8_24 rfl (Nat.le_of_ble_eq_true rfl) (Or.inr ⟨rfl, rfl⟩) ⟨rfl, rfl⟩ ?_
  refine ev_eqH (h' := sR (iX8_11_8 h) 11 (va_up ((iX8_11_8 h).2.2.2 11) 4 (some 16))) (by rfl) ?_
  refine ev_eqH (h' := iX8_11_9 h) rfl ?_
  refine ev_aload_n (pc := 44) dX8_init_44 rfl ?_
  refine ev_bipush (pc := 45) (v := 6) dX8_init_45 (by decide) ?_
  refine ev_nwa_i (pc := 47) (zk := 17) (N := 6) rfl dX8_init_47 ac_int rfl (by decide) (by decide) (by decide) (by decide) ⟨Nat.le_of_ble_eq_true rfl, Nat.le_of_ble_eq_true rfl⟩ ?_
  refine ev_eqH (h' := iX8_11_10 h) rfl ?_
  refine ev_putR (pc := 49) dX8_init_49 fX8_27 rfl (Nat.le_of_ble_eq_true rfl) (Or.inr ⟨rfl, rfl⟩) ⟨rfl, rfl⟩ ?_
  refine ev_eqH (h' := sR (iX8_11_10 h) 11 (va_up ((iX8_11_10 h).2.2.2 11) 5 (some 17))) (by rfl) ?_
  refine ev_eqH (h' := iX8_11_11 h) rfl ?_
  refine ev_aload_n (pc := 52) dX8_init_52 rfl ?_
  refine ev_bipush (pc := 53) (v := 64) dX8_init_53 (by decide) ?_
  refine ev_nwa_i (pc := 55) (zk := 18) (N := 64) rfl dX8_init_55 ac_int rfl (by decide) (by decide) (by decide) (by decide) ⟨Nat.le_of_ble_eq_true rfl, Nat.le_of_ble_eq_true rfl⟩ ?_
  refine ev_eqH (h' := iX8_11_12 h) rfl ?_
  refine ev_putR (pc := 57) dX8_init_57 fX8_30 rfl (Nat.le_of_ble_eq_true rfl) (Or.inr ⟨rfl, rfl⟩) ⟨rfl, rfl⟩ ?_
  refine ev_eqH (h' := sR (iX8_11_12 h) 11 (va_up ((iX8_11_12 h).2.2.2 11) 6 (some 18))) (by rfl) ?_
  refine ev_eqH (h' := iX8_11_13 h) rfl ?_
  refine ev_aload_n (pc := 60) dX8_init_60 rfl ?_
  refine ev_callV0 (S := []) (pc := 61) dX8_init_61 kX8_clear lX8_33 vX8_clear (cu_clear_11 E (iX8_11_13 h) (fun zk hz => Nat.lt_of_lt_of_le hz (Nat.le_of_ble_eq_true rfl)) rfl rfl rfl rfl rfl rfl rfl) rfl rfl (Nat.le_of_ble_eq_true rfl) rfl rfl (Nat.le_of_ble_eq_true rfl) ⟨Nat.le_of_ble_eq_true rfl, Nat.le_of_ble_eq_true rfl⟩ ⟨Nat.le_of_ble_eq_true rfl, Nat.le_of_ble_eq_true rfl⟩ ?_
  refine ev_eqH (h' := (clH_11 (iX8_11_13 h))) rfl ?_
  refine ev_ret (pc := 64) dX8_init_64 rfl ?_
  · exact ⟨rfl, rfl⟩
def iX5_19_0 (h : AH) : AH := sR h 19 (va_up (h.2.2.2 19) 0 (some 1))
def iX5_19_1 (h : AH) : AH := sR (iX5_19_0 h) 19 (va_up ((iX5_19_0 h).2.2.2 19) 1 (some 11))
def iX5_19 (h : AH) : AH := (iX5_19_1 h)
theorem cn_X5_init_19 (E : ME) (h : AH)  (hn : h.1 = 20) : Con E mX5_init 1 0 0 [.ref 19, .ref 1, .ref 11] h (fun r h' => r = none ∧ h' = iX5_19 h) := by
  refine con_of2 (L := [some (.ref 19), some (.ref 1), some (.ref 11)]) rfl (Nat.le_of_ble_eq_true rfl) rfl ?_
  refine ev_aload_n (pc := 0) dX5_init_0 rfl ?_
  refine ev_objInit (pc := 1) dX5_init_1 oX5_3 oi_inst oi_code (Nat.le_of_ble_eq_true rfl) (Nat.le_of_ble_eq_true rfl) (Nat.le_of_ble_eq_true rfl) ?_
  refine ev_aload_n (pc := 4) dX5_init_4 rfl ?_
  refine ev_aload_n (pc := 5) dX5_init_5 rfl ?_
  refine ev_putR (pc := 6) dX5_init_6 fX5_9 rfl (show 19 < h.1 by rw [hn]; decide) (Or.inr ⟨rfl, rfl⟩) ⟨rfl, rfl⟩ ?_
  refine ev_eqH (h' := sR h 19 (va_up (h.2.2.2 19) 0 (some 1))) (by rfl) ?_
  refine ev_eqH (h' := iX5_19_0 h) rfl ?_
  refine ev_aload_n (pc := 9) dX5_init_9 rfl ?_
  refine ev_aload_n (pc := 10) dX5_init_10 rfl ?_
  refine ev_putR (pc := 11) dX5_init_11 fX5_15 rfl (show 19 < h.1 by rw [hn]; decide) (Or.inl rfl) ⟨rfl, rfl⟩ ?_
  refine ev_eqH (h' := sR (iX5_19_0 h) 19 (va_up ((iX5_19_0 h).2.2.2 19) 1 (some 11))) (by rfl) ?_
  refine ev_eqH (h' := iX5_19_1 h) rfl ?_
  refine ev_ret (pc := 14) dX5_init_14 rfl ?_
  · exact ⟨rfl, rfl⟩
def iX6_20_0 (h : AH) : AH := (nwn 21 h)
def iX6_20_1 (h : AH) : AH := sR (iX6_20_0 h) 20 (va_up ((iX6_20_0 h).2.2.2 20) 0 (some 21))
def iX6_20_2 (h : AH) : AH := (nwn 22 (iX6_20_1 h))
def iX6_20_3 (h : AH) : AH := sR (iX6_20_2 h) 20 (va_up ((iX6_20_2 h).2.2.2 20) 1 (some 22))
def iX6_20_4 (h : AH) : AH := (nwn 23 (iX6_20_3 h))
def iX6_20_5 (h : AH) : AH := sR (iX6_20_4 h) 20 (va_up ((iX6_20_4 h).2.2.2 20) 2 (some 23))
def iX6_20_6 (h : AH) : AH := (nwn 24 (iX6_20_5 h))
def iX6_20_7 (h : AH) : AH := sR (iX6_20_6 h) 20 (va_up ((iX6_20_6 h).2.2.2 20) 3 (some 24))
def iX6_20 (h : AH) : AH := (iX6_20_7 h)
theorem cn_X6_init_20 (E : ME) (h : AH)  (hn : h.1 = 21) : Con E mX6_init 1 4 8216 [.ref 20] h (fun r h' => r = none ∧ h' = iX6_20 h) := by
  refine con_of2 (L := [some (.ref 20)]) rfl (Nat.le_of_ble_eq_true rfl) rfl ?_
  refine ev_aload_n (pc := 0) dX6_init_0 rfl ?_
  refine ev_objInit (pc := 1) dX6_init_1 oX6_3 oi_inst oi_code (Nat.le_of_ble_eq_true rfl) (Nat.le_of_ble_eq_true rfl) (Nat.le_of_ble_eq_true rfl) ?_
  refine ev_aload_n (pc := 4) dX6_init_4 rfl ?_
  refine ev_bipush (pc := 5) (v := 12) dX6_init_5 (by decide) ?_
  refine ev_nwa_i (pc := 7) (zk := 21) (N := 12) hn dX6_init_7 ac_int rfl (by decide) (by decide) (by decide) (by decide) ⟨Nat.le_of_ble_eq_true rfl, Nat.le_of_ble_eq_true rfl⟩ ?_
  refine ev_eqH (h' := iX6_20_0 h) rfl ?_
  refine ev_putR (pc := 9) dX6_init_9 fX6_9 rfl (Nat.le_of_ble_eq_true rfl) (Or.inr ⟨rfl, rfl⟩) ⟨rfl, rfl⟩ ?_
  refine ev_eqH (h' := sR (iX6_20_0 h) 20 (va_up ((iX6_20_0 h).2.2.2 20) 0 (some 21))) (by rfl) ?_
  refine ev_eqH (h' := iX6_20_1 h) rfl ?_
  refine ev_aload_n (pc := 12) dX6_init_12 rfl ?_
  refine ev_bipush (pc := 13) (v := 12) dX6_init_13 (by decide) ?_
  refine ev_nwa_i (pc := 15) (zk := 22) (N := 12) rfl dX6_init_15 ac_int rfl (by decide) (by decide) (by decide) (by decide) ⟨Nat.le_of_ble_eq_true rfl, Nat.le_of_ble_eq_true rfl⟩ ?_
  refine ev_eqH (h' := iX6_20_2 h) rfl ?_
  refine ev_putR (pc := 17) dX6_init_17 fX6_15 rfl (Nat.le_of_ble_eq_true rfl) (Or.inr ⟨rfl, rfl⟩) ⟨rfl, rfl⟩ ?_
  refine ev_eqH (h' := sR (iX6_20_2 h) 20 (va_up ((iX6_20_2 h).2.2.2 20) 1 (some 22))) (by rfl) ?_
  refine ev_eqH (h' := iX6_20_3 h) rfl ?_
  refine ev_aload_n (pc := 20) dX6_init_20 rfl ?_
  refine ev_sipush (pc := 21) (v := 4096) dX6_init_21 (by decide) ?_
  refine ev_nwa_i (pc := 24) (zk := 23) (N := 4096) rfl dX6_init_24 ac_int rfl (by decide) (by decide) (by decide) (by decide) ⟨Nat.le_of_ble_eq_true rfl, Nat.le_of_ble_eq_true rfl⟩ ?_
  refine ev_eqH (h' := iX6_20_4 h) rfl ?_
  refine ev_putR (pc := 26) dX6_init_26 fX6_18 rfl (Nat.le_of_ble_eq_true rfl) (Or.inr ⟨rfl, rfl⟩) ⟨rfl, rfl⟩ ?_
  refine ev_eqH (h' := sR (iX6_20_4 h) 20 (va_up ((iX6_20_4 h).2.2.2 20) 2 (some 23))) (by rfl) ?_
  refine ev_eqH (h' := iX6_20_5 h) rfl ?_
  refine ev_aload_n (pc := 29) dX6_init_29 rfl ?_
  refine ev_sipush (pc := 30) (v := 4096) dX6_init_30 (by decide) ?_
  refine ev_nwa_i (pc := 33) (zk := 24) (N := 4096) rfl dX6_init_33 ac_int rfl (by decide) (by decide) (by decide) (by decide) ⟨Nat.le_of_ble_eq_true rfl, Nat.le_of_ble_eq_true rfl⟩ ?_
  refine ev_eqH (h' := iX6_20_6 h) rfl ?_
  refine ev_putR (pc := 35) dX6_init_35 fX6_21 rfl (Nat.le_of_ble_eq_true rfl) (Or.inr ⟨rfl, rfl⟩) ⟨rfl, rfl⟩ ?_
  refine ev_eqH (h' := sR (iX6_20_6 h) 20 (va_up ((iX6_20_6 h).2.2.2 20) 3 (some 24))) (by rfl) ?_
  refine ev_eqH (h' := iX6_20_7 h) rfl ?_
  refine ev_ret (pc := 38) dX6_init_38 rfl ?_
  · exact ⟨rfl, rfl⟩
def iX0_30_0 (h : AH) : AH := (nwn 31 h)
def iX0_30_1 (h : AH) : AH := sR (iX0_30_0 h) 30 (va_up ((iX0_30_0 h).2.2.2 30) 0 (some 31))
def iX0_30 (h : AH) : AH := (iX0_30_1 h)
theorem cn_X0_init_30 (E : ME) (h : AH)  (hn : h.1 = 31) : Con E mX0_init 1 1 384 [.ref 30] h (fun r h' => r = none ∧ h' = iX0_30 h) := by
  refine con_of2 (L := [some (.ref 30)]) rfl (Nat.le_of_ble_eq_true rfl) rfl ?_
  refine ev_aload_n (pc := 0) dX0_init_0 rfl ?_
  refine ev_objInit (pc := 1) dX0_init_1 oX0_5 oi_inst oi_code (Nat.le_of_ble_eq_true rfl) (Nat.le_of_ble_eq_true rfl) (Nat.le_of_ble_eq_true rfl) ?_
  refine ev_aload_n (pc := 4) dX0_init_4 rfl ?_
  refine ev_sipush (pc := 5) (v := 384) dX0_init_5 (by decide) ?_
  refine ev_nwa_l (pc := 8) (zk := 31) (N := 384) hn dX0_init_8 ac_long rfl (by decide) (by decide) (by decide) (by decide) ⟨Nat.le_of_ble_eq_true rfl, Nat.le_of_ble_eq_true rfl⟩ ?_
  refine ev_eqH (h' := iX0_30_0 h) rfl ?_
  refine ev_putR (pc := 10) dX0_init_10 fX0_11 rfl (Nat.le_of_ble_eq_true rfl) (Or.inr ⟨rfl, rfl⟩) ⟨rfl, rfl⟩ ?_
  refine ev_eqH (h' := sR (iX0_30_0 h) 30 (va_up ((iX0_30_0 h).2.2.2 30) 0 (some 31))) (by rfl) ?_
  refine ev_eqH (h' := iX0_30_1 h) rfl ?_
  refine ev_ret (pc := 13) dX0_init_13 rfl ?_
  · exact ⟨rfl, rfl⟩
def iX3_32_0 (h : AH) : AH := (nwn 33 h)
def iX3_32_1 (h : AH) : AH := sR (iX3_32_0 h) 32 (va_up ((iX3_32_0 h).2.2.2 32) 0 (some 33))
def iX3_32 (h : AH) : AH := (iX3_32_1 h)
theorem cn_X3_init_32 (E : ME) (h : AH)  (hn : h.1 = 33) : Con E mX3_init 1 1 6 [.ref 32] h (fun r h' => r = none ∧ h' = iX3_32 h) := by
  refine con_of2 (L := [some (.ref 32)]) rfl (Nat.le_of_ble_eq_true rfl) rfl ?_
  refine ev_aload_n (pc := 0) dX3_init_0 rfl ?_
  refine ev_objInit (pc := 1) dX3_init_1 oX3_3 oi_inst oi_code (Nat.le_of_ble_eq_true rfl) (Nat.le_of_ble_eq_true rfl) (Nat.le_of_ble_eq_true rfl) ?_
  refine ev_aload_n (pc := 4) dX3_init_4 rfl ?_
  refine ev_bipush (pc := 5) (v := 6) dX3_init_5 (by decide) ?_
  refine ev_nwa_l (pc := 7) (zk := 33) (N := 6) hn dX3_init_7 ac_long rfl (by decide) (by decide) (by decide) (by decide) ⟨Nat.le_of_ble_eq_true rfl, Nat.le_of_ble_eq_true rfl⟩ ?_
  refine ev_eqH (h' := iX3_32_0 h) rfl ?_
  refine ev_putR (pc := 9) dX3_init_9 fX3_9 rfl (Nat.le_of_ble_eq_true rfl) (Or.inr ⟨rfl, rfl⟩) ⟨rfl, rfl⟩ ?_
  refine ev_eqH (h' := sR (iX3_32_0 h) 32 (va_up ((iX3_32_0 h).2.2.2 32) 0 (some 33))) (by rfl) ?_
  refine ev_eqH (h' := iX3_32_1 h) rfl ?_
  refine ev_ret (pc := 12) dX3_init_12 rfl ?_
  · exact ⟨rfl, rfl⟩
def iX1_34_0 (h : AH) : AH := (nwn 35 h)
def iX1_34_1 (h : AH) : AH := sR (iX1_34_0 h) 34 (va_up ((iX1_34_0 h).2.2.2 34) 0 (some 35))
def iX1_34 (h : AH) : AH := (iX1_34_1 h)
theorem cn_X1_init_34 (E : ME) (h : AH)  (hn : h.1 = 35) : Con E mX1_init 1 1 24 [.ref 34] h (fun r h' => r = none ∧ h' = iX1_34 h) := by
  refine con_of2 (L := [some (.ref 34)]) rfl (Nat.le_of_ble_eq_true rfl) rfl ?_
  refine ev_aload_n (pc := 0) dX1_init_0 rfl ?_
  refine ev_objInit (pc := 1) dX1_init_1 oX1_3 oi_inst oi_code (Nat.le_of_ble_eq_true rfl) (Nat.le_of_ble_eq_true rfl) (Nat.le_of_ble_eq_true rfl) ?_
  refine ev_aload_n (pc := 4) dX1_init_4 rfl ?_
  refine ev_bipush (pc := 5) (v := 24) dX1_init_5 (by decide) ?_
  refine ev_nwa_i (pc := 7) (zk := 35) (N := 24) hn dX1_init_7 ac_int rfl (by decide) (by decide) (by decide) (by decide) ⟨Nat.le_of_ble_eq_true rfl, Nat.le_of_ble_eq_true rfl⟩ ?_
  refine ev_eqH (h' := iX1_34_0 h) rfl ?_
  refine ev_putR (pc := 9) dX1_init_9 fX1_11 rfl (Nat.le_of_ble_eq_true rfl) (Or.inr ⟨rfl, rfl⟩) ⟨rfl, rfl⟩ ?_
  refine ev_eqH (h' := sR (iX1_34_0 h) 34 (va_up ((iX1_34_0 h).2.2.2 34) 0 (some 35))) (by rfl) ?_
  refine ev_eqH (h' := iX1_34_1 h) rfl ?_
  refine ev_ret (pc := 12) dX1_init_12 rfl ?_
  · exact ⟨rfl, rfl⟩
def iX4_36_0 (h : AH) : AH := (nwn 37 h)
def iX4_36_1 (h : AH) : AH := sR (iX4_36_0 h) 36 (va_up ((iX4_36_0 h).2.2.2 36) 0 (some 37))
def iX4_36_2 (h : AH) : AH := (nwn 38 (iX4_36_1 h))
def iX4_36_3 (h : AH) : AH := sR (iX4_36_2 h) 36 (va_up ((iX4_36_2 h).2.2.2 36) 1 (some 38))
def iX4_36_4 (h : AH) : AH := (nwn 39 (iX4_36_3 h))
def iX4_36_5 (h : AH) : AH := sR (iX4_36_4 h) 36 (va_up ((iX4_36_4 h).2.2.2 36) 2 (some 39))
def iX4_36_6 (h : AH) : AH := sI (iX4_36_5 h) 36 (upd ((iX4_36_5 h).2.1 36) 7 (-1))
def iX4_36 (h : AH) : AH := (iX4_36_6 h)
theorem cn_X4_init_36 (E : ME) (h : AH)  (hn : h.1 = 37) : Con E mX4_init 1 3 768 [.ref 36] h (fun r h' => r = none ∧ h' = iX4_36 h) := by
  refine con_of2 (L := [some (.ref 36)]) rfl (Nat.le_of_ble_eq_true rfl) rfl ?_
  refine ev_aload_n (pc := 0) dX4_init_0 rfl ?_
  refine ev_objInit (pc := 1) dX4_init_1 oX4_3 oi_inst oi_code (Nat.le_of_ble_eq_true rfl) (Nat.le_of_ble_eq_true rfl) (Nat.le_of_ble_eq_true rfl) ?_
  refine ev_aload_n (pc := 4) dX4_init_4 rfl ?_
  refine ev_sipush (pc := 5) (v := 256) dX4_init_5 (by decide) ?_
  refine ev_nwa_i (pc := 8) (zk := 37) (N := 256) hn dX4_init_8 ac_int rfl (by decide) (by decide) (by decide) (by decide) ⟨Nat.le_of_ble_eq_true rfl, Nat.le_of_ble_eq_true rfl⟩ ?_
  refine ev_eqH (h' := iX4_36_0 h) rfl ?_
  refine ev_putR (pc := 10) dX4_init_10 fX4_11 rfl (Nat.le_of_ble_eq_true rfl) (Or.inr ⟨rfl, rfl⟩) ⟨rfl, rfl⟩ ?_
  refine ev_eqH (h' := sR (iX4_36_0 h) 36 (va_up ((iX4_36_0 h).2.2.2 36) 0 (some 37))) (by rfl) ?_
  refine ev_eqH (h' := iX4_36_1 h) rfl ?_
  refine ev_aload_n (pc := 13) dX4_init_13 rfl ?_
  refine ev_sipush (pc := 14) (v := 256) dX4_init_14 (by decide) ?_
  refine ev_nwa_i (pc := 17) (zk := 38) (N := 256) rfl dX4_init_17 ac_int rfl (by decide) (by decide) (by decide) (by decide) ⟨Nat.le_of_ble_eq_true rfl, Nat.le_of_ble_eq_true rfl⟩ ?_
  refine ev_eqH (h' := iX4_36_2 h) rfl ?_
  refine ev_putR (pc := 19) dX4_init_19 fX4_15 rfl (Nat.le_of_ble_eq_true rfl) (Or.inr ⟨rfl, rfl⟩) ⟨rfl, rfl⟩ ?_
  refine ev_eqH (h' := sR (iX4_36_2 h) 36 (va_up ((iX4_36_2 h).2.2.2 36) 1 (some 38))) (by rfl) ?_
  refine ev_eqH (h' := iX4_36_3 h) rfl ?_
  refine ev_aload_n (pc := 22) dX4_init_22 rfl ?_
  refine ev_sipush (pc := 23) (v := 256) dX4_init_23 (by decide) ?_
  refine ev_nwa_i (pc := 26) (zk := 39) (N := 256) rfl dX4_init_26 ac_int rfl (by decide) (by decide) (by decide) (by decide) ⟨Nat.le_of_ble_eq_true rfl, Nat.le_of_ble_eq_true rfl⟩ ?_
  refine ev_eqH (h' := iX4_36_4 h) rfl ?_
  refine ev_putR (pc := 28) dX4_init_28 fX4_18 rfl (Nat.le_of_ble_eq_true rfl) (Or.inr ⟨rfl, rfl⟩) ⟨rfl, rfl⟩ ?_
  refine ev_eqH (h' := sR (iX4_36_4 h) 36 (va_up ((iX4_36_4 h).2.2.2 36) 2 (some 39))) (by rfl) ?_
  refine ev_eqH (h' := iX4_36_5 h) rfl ?_
  refine ev_aload_n (pc := 31) dX4_init_31 rfl ?_
  refine ev_iconst (pc := 32) (v := (-1)) dX4_init_32 (by decide) ?_
  refine ev_putI (pc := 33) dX4_init_33 fX4_21 rfl (Nat.le_of_ble_eq_true rfl) ?_
  refine ev_eqH (h' := sI (iX4_36_5 h) 36 (upd ((iX4_36_5 h).2.1 36) 7 (-1))) (by rfl) ?_
  refine ev_eqH (h' := iX4_36_6 h) rfl ?_
  refine ev_ret (pc := 36) dX4_init_36 rfl ?_
  · exact ⟨rfl, rfl⟩
def iX7_41_0 (h : AH) : AH := (nwn 42 h)
def iX7_41_1 (h : AH) : AH := sR (iX7_41_0 h) 41 (va_up ((iX7_41_0 h).2.2.2 41) 0 (some 42))
def iX7_41 (h : AH) : AH := (iX7_41_1 h)
theorem cn_X7_init_41 (E : ME) (h : AH)  (hn : h.1 = 42) : Con E mX7_init 1 1 64 [.ref 41] h (fun r h' => r = none ∧ h' = iX7_41 h) := by
  refine con_of2 (L := [some (.ref 41)]) rfl (Nat.le_of_ble_eq_true rfl) rfl ?_
  refine ev_aload_n (pc := 0) dX7_init_0 rfl ?_
  refine ev_objInit (pc := 1) dX7_init_1 oX7_3 oi_inst oi_code (Nat.le_of_ble_eq_true rfl) (Nat.le_of_ble_eq_true rfl) (Nat.le_of_ble_eq_true rfl) ?_
  refine ev_aload_n (pc := 4) dX7_init_4 rfl ?_
  refine ev_bipush (pc := 5) (v := 64) dX7_init_5 (by decide) ?_
  refine ev_nwa_i (pc := 7) (zk := 42) (N := 64) hn dX7_init_7 ac_int rfl (by decide) (by decide) (by decide) (by decide) ⟨Nat.le_of_ble_eq_true rfl, Nat.le_of_ble_eq_true rfl⟩ ?_
  refine ev_eqH (h' := iX7_41_0 h) rfl ?_
  refine ev_putR (pc := 9) dX7_init_9 fX7_9 rfl (Nat.le_of_ble_eq_true rfl) (Or.inr ⟨rfl, rfl⟩) ⟨rfl, rfl⟩ ?_
  refine ev_eqH (h' := sR (iX7_41_0 h) 41 (va_up ((iX7_41_0 h).2.2.2 41) 0 (some 42))) (by rfl) ?_
  refine ev_eqH (h' := iX7_41_1 h) rfl ?_
  refine ev_ret (pc := 12) dX7_init_12 rfl ?_
  · exact ⟨rfl, rfl⟩
def iX7_43_0 (h : AH) : AH := (nwn 44 h)
def iX7_43_1 (h : AH) : AH := sR (iX7_43_0 h) 43 (va_up ((iX7_43_0 h).2.2.2 43) 0 (some 44))
def iX7_43 (h : AH) : AH := (iX7_43_1 h)
theorem cn_X7_init_43 (E : ME) (h : AH)  (hn : h.1 = 44) : Con E mX7_init 1 1 64 [.ref 43] h (fun r h' => r = none ∧ h' = iX7_43 h) := by
  refine con_of2 (L := [some (.ref 43)]) rfl (Nat.le_of_ble_eq_true rfl) rfl ?_
  refine ev_aload_n (pc := 0) dX7_init_0 rfl ?_
  refine ev_objInit (pc := 1) dX7_init_1 oX7_3 oi_inst oi_code (Nat.le_of_ble_eq_true rfl) (Nat.le_of_ble_eq_true rfl) (Nat.le_of_ble_eq_true rfl) ?_
  refine ev_aload_n (pc := 4) dX7_init_4 rfl ?_
  refine ev_bipush (pc := 5) (v := 64) dX7_init_5 (by decide) ?_
  refine ev_nwa_i (pc := 7) (zk := 44) (N := 64) hn dX7_init_7 ac_int rfl (by decide) (by decide) (by decide) (by decide) ⟨Nat.le_of_ble_eq_true rfl, Nat.le_of_ble_eq_true rfl⟩ ?_
  refine ev_eqH (h' := iX7_43_0 h) rfl ?_
  refine ev_putR (pc := 9) dX7_init_9 fX7_9 rfl (Nat.le_of_ble_eq_true rfl) (Or.inr ⟨rfl, rfl⟩) ⟨rfl, rfl⟩ ?_
  refine ev_eqH (h' := sR (iX7_43_0 h) 43 (va_up ((iX7_43_0 h).2.2.2 43) 0 (some 44))) (by rfl) ?_
  refine ev_eqH (h' := iX7_43_1 h) rfl ?_
  refine ev_ret (pc := 12) dX7_init_12 rfl ?_
  · exact ⟨rfl, rfl⟩
def iX7_45_0 (h : AH) : AH := (nwn 46 h)
def iX7_45_1 (h : AH) : AH := sR (iX7_45_0 h) 45 (va_up ((iX7_45_0 h).2.2.2 45) 0 (some 46))
def iX7_45 (h : AH) : AH := (iX7_45_1 h)
theorem cn_X7_init_45 (E : ME) (h : AH)  (hn : h.1 = 46) : Con E mX7_init 1 1 64 [.ref 45] h (fun r h' => r = none ∧ h' = iX7_45 h) := by
  refine con_of2 (L := [some (.ref 45)]) rfl (Nat.le_of_ble_eq_true rfl) rfl ?_
  refine ev_aload_n (pc := 0) dX7_init_0 rfl ?_
  refine ev_objInit (pc := 1) dX7_init_1 oX7_3 oi_inst oi_code (Nat.le_of_ble_eq_true rfl) (Nat.le_of_ble_eq_true rfl) (Nat.le_of_ble_eq_true rfl) ?_
  refine ev_aload_n (pc := 4) dX7_init_4 rfl ?_
  refine ev_bipush (pc := 5) (v := 64) dX7_init_5 (by decide) ?_
  refine ev_nwa_i (pc := 7) (zk := 46) (N := 64) hn dX7_init_7 ac_int rfl (by decide) (by decide) (by decide) (by decide) ⟨Nat.le_of_ble_eq_true rfl, Nat.le_of_ble_eq_true rfl⟩ ?_
  refine ev_eqH (h' := iX7_45_0 h) rfl ?_
  refine ev_putR (pc := 9) dX7_init_9 fX7_9 rfl (Nat.le_of_ble_eq_true rfl) (Or.inr ⟨rfl, rfl⟩) ⟨rfl, rfl⟩ ?_
  refine ev_eqH (h' := sR (iX7_45_0 h) 45 (va_up ((iX7_45_0 h).2.2.2 45) 0 (some 46))) (by rfl) ?_
  refine ev_eqH (h' := iX7_45_1 h) rfl ?_
  refine ev_ret (pc := 12) dX7_init_12 rfl ?_
  · exact ⟨rfl, rfl⟩
def iX7_47_0 (h : AH) : AH := (nwn 48 h)
def iX7_47_1 (h : AH) : AH := sR (iX7_47_0 h) 47 (va_up ((iX7_47_0 h).2.2.2 47) 0 (some 48))
def iX7_47 (h : AH) : AH := (iX7_47_1 h)
theorem cn_X7_init_47 (E : ME) (h : AH)  (hn : h.1 = 48) : Con E mX7_init 1 1 64 [.ref 47] h (fun r h' => r = none ∧ h' = iX7_47 h) := by
  refine con_of2 (L := [some (.ref 47)]) rfl (Nat.le_of_ble_eq_true rfl) rfl ?_
  refine ev_aload_n (pc := 0) dX7_init_0 rfl ?_
  refine ev_objInit (pc := 1) dX7_init_1 oX7_3 oi_inst oi_code (Nat.le_of_ble_eq_true rfl) (Nat.le_of_ble_eq_true rfl) (Nat.le_of_ble_eq_true rfl) ?_
  refine ev_aload_n (pc := 4) dX7_init_4 rfl ?_
  refine ev_bipush (pc := 5) (v := 64) dX7_init_5 (by decide) ?_
  refine ev_nwa_i (pc := 7) (zk := 48) (N := 64) hn dX7_init_7 ac_int rfl (by decide) (by decide) (by decide) (by decide) ⟨Nat.le_of_ble_eq_true rfl, Nat.le_of_ble_eq_true rfl⟩ ?_
  refine ev_eqH (h' := iX7_47_0 h) rfl ?_
  refine ev_putR (pc := 9) dX7_init_9 fX7_9 rfl (Nat.le_of_ble_eq_true rfl) (Or.inr ⟨rfl, rfl⟩) ⟨rfl, rfl⟩ ?_
  refine ev_eqH (h' := sR (iX7_47_0 h) 47 (va_up ((iX7_47_0 h).2.2.2 47) 0 (some 48))) (by rfl) ?_
  refine ev_eqH (h' := iX7_47_1 h) rfl ?_
  refine ev_ret (pc := 12) dX7_init_12 rfl ?_
  · exact ⟨rfl, rfl⟩
