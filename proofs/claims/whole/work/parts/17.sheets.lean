theorem lp_lowest_6 (E : ME) (h : AH) (up down : Int64) (what : Int32) (zg : Nat) (hw : WF h) {post : PO} (K : Ev E mX11_lowest (rmm 0 0 0) (QM E 0 0 post) 0 0 31 [some (.long up), none, some (.long down), none, some (.int what), some (.long (lN zg)), none, some (.long 0), none, none, none] [] h) : ∀ (n zy zx : Nat), zy < n → zx < 2 ^ 62 → zy < 2 ^ 62 → Nat.gcd zx zy = zg → Ev E mX11_lowest (rmm 0 0 0) (QM E 0 0 post) 0 0 6 [some (.long up), none, some (.long down), none, some (.int what), some (.long (lN zx)), none, some (.long (lN zy)), none, none, none] [] h := by
  intro n
  induction n with
  | zero =>
    intro zy zx hy
    omega
  | succ n ih =>
    intro zy zx hy hx1 hy1 hg
    rcases Nat.eq_zero_or_pos zy with h0 | h0
    · subst h0
      rw [Nat.gcd_zero_right] at hg
      subst hg
      refine ev_lload (pc := 6) dX11_lowest_6 rfl ?_
      refine ev_lconst (pc := 8) (v := 0) dX11_lowest_8 (by decide) ?_
      refine ev_lcmp (pc := 9) dX11_lowest_9 ?_
      refine ev_if_eq (pc := 10) (tgt := 31) dX11_lowest_10 (by decide) (fun zc10 => ?_) (fun zc10 => absurd ((lc_eq _ _).mpr rfl) zc10)
      exact K
    · have hne : ¬ lN zy = 0 := fun z => by
        have := (pk_lEQ (a := zy) (b := 0) (by omega) (by omega)).mp z
        omega
      refine ev_lload (pc := 6) dX11_lowest_6 rfl ?_
      refine ev_lconst (pc := 8) (v := 0) dX11_lowest_8 (by decide) ?_
      refine ev_lcmp (pc := 9) dX11_lowest_9 ?_
      refine ev_if_eq (pc := 10) (tgt := 31) dX11_lowest_10 (by decide) (fun zc10 => absurd zc10 (fun z => hne ((lc_eq _ _).mp z))) (fun zc10 => ?_)
      refine ev_lload (pc := 13) dX11_lowest_13 rfl ?_
      refine ev_lload (pc := 15) dX11_lowest_15 rfl ?_
      refine ev_lrem (pc := 17) dX11_lowest_17 hne ?_
      refine ev_eqJ (e' := lN (zx % zy)) (pk_lRem (by omega) h0 (by omega)) ?_
      refine ev_lstore (pc := 18) (L' := [some (.long up), none, some (.long down), none, some (.int what), some (.long (lN zx)), none, some (.long (lN zy)), none, some (.long (lN (zx % zy))), none]) dX11_lowest_18 (Nat.le_of_ble_eq_true rfl) rfl ?_
      refine ev_lload (pc := 20) dX11_lowest_20 rfl ?_
      refine ev_lstore (pc := 22) (L' := [some (.long up), none, some (.long down), none, some (.int what), some (.long (lN zy)), none, some (.long (lN zy)), none, some (.long (lN (zx % zy))), none]) dX11_lowest_22 (Nat.le_of_ble_eq_true rfl) rfl ?_
      refine ev_lload (pc := 24) dX11_lowest_24 rfl ?_
      refine ev_lstore (pc := 26) (L' := [some (.long up), none, some (.long down), none, some (.int what), some (.long (lN zy)), none, some (.long (lN (zx % zy))), none, some (.long (lN (zx % zy))), none]) dX11_lowest_26 (Nat.le_of_ble_eq_true rfl) rfl ?_
      refine ev_goto (pc := 28) (tgt := 6) dX11_lowest_28 (by decide) ?_
      refine ev_less (L' := [some (.long up), none, some (.long down), none, some (.int what), some (.long (lN zy)), none, some (.long (lN (zx % zy))), none, none, none]) (ls_keep (ls_keep (ls_keep (ls_keep (ls_keep (ls_keep (ls_keep (ls_keep (ls_keep (ls_drop (ls_keep (ls_nil _)))))))))))) ?_
      refine ih (zx % zy) zy (by have := Nat.mod_lt zx h0; omega) hy1 (by have := Nat.mod_lt zx h0; omega) ?_
      rw [← hg, Nat.gcd_comm zy, ← Nat.gcd_rec, Nat.gcd_comm]
theorem gcd_pos2 {a b : Nat} (h : 0 < b) : 0 < Nat.gcd a b := Nat.gcd_pos_of_pos_right a h
theorem cn_X11_lowest (E : ME) (h : AH) (zx zy : Nat) (what : Int32) (hw : WF h) (hx : zx < 2 ^ 62) (hy : zy < 2 ^ 62) (h0 : 0 < zy) : Con E mX11_lowest 0 0 0 [.long (lN zx), .long (lN zy), .int what] h (fun r h' => r = some (.long (if what = 0 then lN (zx / Nat.gcd zx zy) else lN (zy / Nat.gcd zx zy))) ∧ h' = h) := by
  refine con_of2 (L := [some (.long (lN zx)), none, some (.long (lN zy)), none, some (.int what), none, none, none, none, none, none]) rfl (Nat.le_of_ble_eq_true rfl) rfl ?_
  refine ev_lload_n (pc := 0) dX11_lowest_0 rfl ?_
  refine ev_lstore (pc := 1) (L' := [some (.long (lN zx)), none, some (.long (lN zy)), none, some (.int what), some (.long (lN zx)), none, none, none, none, none]) dX11_lowest_1 (Nat.le_of_ble_eq_true rfl) rfl ?_
  refine ev_lload_n (pc := 3) dX11_lowest_3 rfl ?_
  refine ev_lstore (pc := 4) (L' := [some (.long (lN zx)), none, some (.long (lN zy)), none, some (.int what), some (.long (lN zx)), none, some (.long (lN zy)), none, none, none]) dX11_lowest_4 (Nat.le_of_ble_eq_true rfl) rfl ?_
  refine lp_lowest_6 E h (lN zx) (lN zy) what (Nat.gcd zx zy) hw ?_ (zy + 1) zy zx (by omega) hx hy rfl
  refine ev_iload (pc := 31) dX11_lowest_31 rfl ?_
  refine ev_if_ne (pc := 33) (tgt := 40) dX11_lowest_33 (by decide) (fun zc33 => ?_) (fun zc33 => ?_)
  · -- ne at 33: taken
    refine ev_lload_n (pc := 40) dX11_lowest_40 rfl ?_
    refine ev_lload (pc := 41) dX11_lowest_41 rfl ?_
    refine ev_ldiv (pc := 43) dX11_lowest_43 (fun z => by have z1 := (pk_lEQ (a := Nat.gcd zx zy) (b := 0) (by have := Nat.gcd_le_right zx h0; omega) (by omega)).mp z; have z2 := gcd_pos2 (a := zx) h0; omega) ?_
    refine ev_eqJ (e' := lN ((zy) / Nat.gcd zx zy)) (pk_lDiv (by omega) (gcd_pos2 h0) (by have := Nat.gcd_le_right zx h0; omega)) ?_
    refine ev_lret (pc := 44) dX11_lowest_44 rfl ?_
    · refine ⟨?_, rfl⟩
      first | rw [if_pos zc33] | rw [if_neg zc33]
  · -- ne at 33: not taken
    refine ev_lload_n (pc := 36) dX11_lowest_36 rfl ?_
    refine ev_goto (pc := 37) (tgt := 41) dX11_lowest_37 (by decide) ?_
    refine ev_lload (pc := 41) dX11_lowest_41 rfl ?_
    refine ev_ldiv (pc := 43) dX11_lowest_43 (fun z => by have z1 := (pk_lEQ (a := Nat.gcd zx zy) (b := 0) (by have := Nat.gcd_le_right zx h0; omega) (by omega)).mp z; have z2 := gcd_pos2 (a := zx) h0; omega) ?_
    refine ev_eqJ (e' := lN ((zx) / Nat.gcd zx zy)) (pk_lDiv (by omega) (gcd_pos2 h0) (by have := Nat.gcd_le_right zx h0; omega)) ?_
    refine ev_lret (pc := 44) dX11_lowest_44 rfl ?_
    · refine ⟨?_, rfl⟩
      first | rw [if_pos zc33] | rw [if_neg zc33]
def shz (f : Nat → Int32) (zk : Nat) : Nat → Nat → Int32
  | 0 => f
  | i + 1 => upd (shz f zk i) (64 * zk + i) 0
theorem nat_of {k : Int32} {a : Nat} (h0 : 0 ≤ k) (h1 : k ≤ nI a) (ha : a < 2 ^ 31) : ∃ zk : Nat, zk ≤ a ∧ k = nI zk := nI_of2 (nI_toInt ha) ((i_lt2 _ _).mpr h0) h1
theorem lp_sheet_56 (E : ME) (h : AH) (zk : Nat) (zv zl : Int32) (hw : WF h) (hk : zk ≤ 3) {post : PO} (K : Ev E mX11_sheet (rmm 1 0 0) (QM E 0 0 post) 0 0 82 [some (.ref 49), some (.int (nI zk)), some (.int zv), some (.int zl), some (.int (nI 64))] [] (sI (sI (sI h 73 (upd (h.2.1 73) zk zv)) 74 (upd (h.2.1 74) zk zl)) 75 (shz (h.2.1 75) zk 64))) : ∀ n i : Nat, i + n = 64 → Ev E mX11_sheet (rmm 1 0 0) (QM E 0 0 post) 0 0 56 [some (.ref 49), some (.int (nI zk)), some (.int zv), some (.int zl), some (.int (nI i))] [] (sI (sI (sI h 73 (upd (h.2.1 73) zk zv)) 74 (upd (h.2.1 74) zk zl)) 75 (shz (h.2.1 75) zk i)) := by
  intro n
  induction n with
  | zero =>
    intro i hi
    obtain rfl : 64 = i := by omega
    refine ev_iload (pc := 56) dX11_sheet_56 rfl ?_
    refine ev_bipush (pc := 58) (v := 64) dX11_sheet_58 (by decide) ?_
    refine ev_icmp_ge (pc := 60) (tgt := 82) dX11_sheet_60 (by decide) (fun zc60 => ?_) (fun zc60 => absurd (by decide) zc60)
    exact K
  | succ n ih =>
    intro i hi
    have hlt : i < 64 := by omega
    refine ev_iload (pc := 56) dX11_sheet_56 rfl ?_
    refine ev_bipush (pc := 58) (v := 64) dX11_sheet_58 (by decide) ?_
    refine ev_icmp_ge (pc := 60) (tgt := 82) dX11_sheet_60 (by decide) (fun zc60 => absurd zc60 (nI_ge hlt (by decide))) (fun zc60 => ?_)
    refine ev_aload_n (pc := 63) dX11_sheet_63 rfl ?_
    refine ev_getR (pc := 64) (q := 75) dX11_sheet_64 fX11_90 rfl (wlt (wf_sI (wf_sI (wf_sI hw))) (by decide)) (wr (wf_sI (wf_sI (wf_sI hw))) rfl) ?_
    refine ev_bipush (pc := 67) (v := 64) dX11_sheet_67 (by decide) ?_
    refine ev_iload_n (pc := 69) dX11_sheet_69 rfl ?_
    refine ev_imul (pc := 70) dX11_sheet_70 ?_
    refine ev_eqI (e' := nI (64 * zk)) (pk_mul 64 zk) ?_
    refine ev_iload (pc := 71) dX11_sheet_71 rfl ?_
    refine ev_iadd (pc := 73) dX11_sheet_73 ?_
    refine ev_eqI (e' := nI ((64 * zk) + i)) (nI_add (64 * zk) i) ?_
    refine ev_iconst (pc := 74) (v := 0) dX11_sheet_74 (by decide) ?_
    refine ev_iast (pc := 75) dX11_sheet_75 rfl (wlt (wf_sI (wf_sI (wf_sI hw))) (by decide)) (vp_in_nI (by omega) (by decide)) ?_
    refine ev_eqH (h' := sI (sI (sI h 73 (upd (h.2.1 73) zk zv)) 74 (upd (h.2.1 74) zk zl)) 75 (upd (shz (h.2.1 75) zk i) ((64 * zk) + i) 0)) (by rw [show Int32.toNatClampNeg (nI ((64 * zk) + i)) = (64 * zk) + i from nI_clamp (by omega)]; exact sI_sI _ _ _ _) ?_
    refine ev_iinc (pc := 76) (v := nI (i + 1)) (L' := [some (.ref 49), some (.int (nI zk)), some (.int zv), some (.int zl), some (.int (nI (i + 1)))]) dX11_sheet_76 rfl (nI_1 _) (Nat.le_of_ble_eq_true rfl) rfl ?_
    refine ev_goto (pc := 79) (tgt := 56) dX11_sheet_79 (by decide) ?_
    exact ih (i + 1) (by omega)
theorem cn_X11_sheet (E : ME) (h : AH) (zk0 zv zl : Int32) (hw : WF h) : Con E mX11_sheet 1 0 0 [.ref 49, .int zk0, .int zv, .int zl] h (fun r h' => r = some (.int (if (0 ≤ zk0 ∧ zk0 ≤ 3) ∧ (0 ≤ zv ∧ zv ≤ 2) ∧ zl ≤ 64 then (if zl < 0 then -14 else 1) else -1)) ∧ h' = if (0 ≤ zk0 ∧ zk0 ≤ 3) ∧ (0 ≤ zv ∧ zv ≤ 2) ∧ zl ≤ 64 then (if zl < 0 then h else sI (sI (sI h 73 (upd (h.2.1 73) zk0.toNatClampNeg zv)) 74 (upd (h.2.1 74) zk0.toNatClampNeg zl)) 75 (shz (h.2.1 75) zk0.toNatClampNeg 64)) else h) := by
  refine con_of2 (L := [some (.ref 49), some (.int zk0), some (.int zv), some (.int zl), none]) rfl (Nat.le_of_ble_eq_true rfl) rfl ?_
  refine ev_iload_n (pc := 0) dX11_sheet_0 rfl ?_
  refine ev_i2l (pc := 1) dX11_sheet_1 ?_
  refine ev_lconst (pc := 2) (v := 0) dX11_sheet_2 (by decide) ?_
  refine ev_ldc2 (pc := 3) (v := 3) dX11_sheet_3 kcX11_197 ?_
  refine ev_callSv (S := []) (pc := 6) dX11_sheet_6 kX11_in lX11_96 sX11_in (cn_X11_inC E h zk0 0 3 _ _ _ rfl (by decide) (by decide)) rfl rfl (Nat.le_of_ble_eq_true rfl) ⟨Nat.le_of_ble_eq_true rfl, Nat.le_of_ble_eq_true rfl⟩ ⟨Nat.le_of_ble_eq_true rfl, Nat.le_of_ble_eq_true rfl⟩ ?_
  refine ev_if_eq (pc := 9) (tgt := 30) dX11_sheet_9 (by decide) (fun zc9 => ?_) (fun zc9 => ?_)
  · -- eq at 9: taken
    refine ev_iconst (pc := 30) (v := (-1)) dX11_sheet_30 (by decide) ?_
    refine ev_iret (pc := 31) dX11_sheet_31 rfl ?_ ?_
    · rfl
    · simp only [bI_0, bI_n0, Classical.not_not] at *
      have hC : ¬ ((0 ≤ zk0 ∧ zk0 ≤ 3) ∧ (0 ≤ zv ∧ zv ≤ 2) ∧ zl ≤ 64) := fun q => by first | exact zc9 q.1 | exact zc21 q.2.1 | exact (i_le2 _ _).mpr zc27 q.2.2 | exact zc27 q.2.2
      rw [if_neg hC]
      try rw [if_neg hC]
      exact ⟨rfl, rfl⟩
  · -- eq at 9: not taken
    refine ev_iload_n (pc := 12) dX11_sheet_12 rfl ?_
    refine ev_i2l (pc := 13) dX11_sheet_13 ?_
    refine ev_lconst (pc := 14) (v := 0) dX11_sheet_14 (by decide) ?_
    refine ev_ldc2 (pc := 15) (v := 2) dX11_sheet_15 kcX11_245 ?_
    refine ev_callSv (S := []) (pc := 18) dX11_sheet_18 kX11_in lX11_96 sX11_in (cn_X11_inC E h zv 0 2 _ _ _ rfl (by decide) (by decide)) rfl rfl (Nat.le_of_ble_eq_true rfl) ⟨Nat.le_of_ble_eq_true rfl, Nat.le_of_ble_eq_true rfl⟩ ⟨Nat.le_of_ble_eq_true rfl, Nat.le_of_ble_eq_true rfl⟩ ?_
    refine ev_if_eq (pc := 21) (tgt := 30) dX11_sheet_21 (by decide) (fun zc21 => ?_) (fun zc21 => ?_)
    · -- eq at 21: taken
      refine ev_iconst (pc := 30) (v := (-1)) dX11_sheet_30 (by decide) ?_
      refine ev_iret (pc := 31) dX11_sheet_31 rfl ?_ ?_
      · rfl
      · simp only [bI_0, bI_n0, Classical.not_not] at *
        have hC : ¬ ((0 ≤ zk0 ∧ zk0 ≤ 3) ∧ (0 ≤ zv ∧ zv ≤ 2) ∧ zl ≤ 64) := fun q => by first | exact zc9 q.1 | exact zc21 q.2.1 | exact (i_le2 _ _).mpr zc27 q.2.2 | exact zc27 q.2.2
        rw [if_neg hC]
        try rw [if_neg hC]
        exact ⟨rfl, rfl⟩
    · -- eq at 21: not taken
      refine ev_iload_n (pc := 24) dX11_sheet_24 rfl ?_
      refine ev_bipush (pc := 25) (v := 64) dX11_sheet_25 (by decide) ?_
      refine ev_icmp_le (pc := 27) (tgt := 32) dX11_sheet_27 (by decide) (fun zc27 => ?_) (fun zc27 => ?_)
      · -- le at 27: taken
        refine ev_iload_n (pc := 32) dX11_sheet_32 rfl ?_
        refine ev_if_ge (pc := 33) (tgt := 39) dX11_sheet_33 (by decide) (fun zc33 => ?_) (fun zc33 => ?_)
        · -- ge at 33: taken
          obtain ⟨zk, hzk, rfl⟩ := nat_of (a := 3) (bI_n0.mp zc9).1 (bI_n0.mp zc9).2 (by decide)
          refine ev_aload_n (pc := 39) dX11_sheet_39 rfl ?_
          refine ev_getR (pc := 40) (q := 73) dX11_sheet_40 fX11_84 rfl (wlt hw (by decide)) (wr hw rfl) ?_
          refine ev_iload_n (pc := 43) dX11_sheet_43 rfl ?_
          refine ev_iload_n (pc := 44) dX11_sheet_44 rfl ?_
          refine ev_iast (pc := 45) dX11_sheet_45 rfl (wlt hw (by decide)) (vp_in_nI (by omega) (by decide)) ?_
          refine ev_eqH (h' := sI h 73 (upd (h.2.1 73) zk zv)) (by rw [show Int32.toNatClampNeg (nI zk) = zk from nI_clamp (by omega)] <;> rfl) ?_
          refine ev_aload_n (pc := 46) dX11_sheet_46 rfl ?_
          refine ev_getR (pc := 47) (q := 74) dX11_sheet_47 fX11_87 rfl (wlt (wf_sI hw) (by decide)) (wr (wf_sI hw) rfl) ?_
          refine ev_iload_n (pc := 50) dX11_sheet_50 rfl ?_
          refine ev_iload_n (pc := 51) dX11_sheet_51 rfl ?_
          refine ev_iast (pc := 52) dX11_sheet_52 rfl (wlt (wf_sI hw) (by decide)) (vp_in_nI (by omega) (by decide)) ?_
          refine ev_eqH (h' := sI (sI h 73 (upd (h.2.1 73) zk zv)) 74 (upd (h.2.1 74) zk zl)) (by rw [show Int32.toNatClampNeg (nI zk) = zk from nI_clamp (by omega)] <;> rfl) ?_
          refine ev_iconst (pc := 53) (v := 0) dX11_sheet_53 (by decide) ?_
          refine ev_istore (pc := 54) (L' := [some (.ref 49), some (.int (nI zk)), some (.int zv), some (.int zl), some (.int 0)]) dX11_sheet_54 (Nat.le_of_ble_eq_true rfl) rfl ?_
          refine ev_eqH (h' := sI (sI (sI h 73 (upd (h.2.1 73) zk zv)) 74 (upd (h.2.1 74) zk zl)) 75 (shz (h.2.1 75) zk 0)) (sI_id _ _).symm ?_
          refine lp_sheet_56 E h zk zv zl hw hzk ?_ 64 0 (Nat.zero_add _)
          refine ev_iconst (pc := 82) (v := 1) dX11_sheet_82 (by decide) ?_
          refine ev_iret (pc := 83) dX11_sheet_83 rfl ?_ ?_
          · rfl
          · simp only [bI_0, bI_n0, Classical.not_not] at *
            have hC : (0 ≤ nI zk ∧ nI zk ≤ 3) ∧ (0 ≤ zv ∧ zv ≤ 2) ∧ zl ≤ 64 := ⟨zc9, zc21, zc27⟩
            rw [if_pos hC]
            try rw [if_pos hC]
            first
            | (rw [if_pos (show zl < 0 from (i_le2 _ _).mp zc33), if_pos (show zl < 0 from (i_le2 _ _).mp zc33)]; exact ⟨rfl, rfl⟩)
            | (rw [if_neg ((i_lt2 _ _).mpr zc33), if_neg ((i_lt2 _ _).mpr zc33), nI_clamp (by omega)]; exact ⟨rfl, rfl⟩)
        · -- ge at 33: not taken
          refine ev_bipush (pc := 36) (v := (-14)) dX11_sheet_36 (by decide) ?_
          refine ev_iret (pc := 38) dX11_sheet_38 rfl ?_ ?_
          · rfl
          · simp only [bI_0, bI_n0, Classical.not_not] at *
            have hC : (0 ≤ zk0 ∧ zk0 ≤ 3) ∧ (0 ≤ zv ∧ zv ≤ 2) ∧ zl ≤ 64 := ⟨zc9, zc21, zc27⟩
            rw [if_pos hC]
            try rw [if_pos hC]
            first
            | (rw [if_pos (show zl < 0 from (i_le2 _ _).mp zc33), if_pos (show zl < 0 from (i_le2 _ _).mp zc33)]; exact ⟨rfl, rfl⟩)
            | (rw [if_neg ((i_lt2 _ _).mpr zc33), if_neg ((i_lt2 _ _).mpr zc33), nI_clamp (by omega)]; exact ⟨rfl, rfl⟩)
      · -- le at 27: not taken
        refine ev_iconst (pc := 30) (v := (-1)) dX11_sheet_30 (by decide) ?_
        refine ev_iret (pc := 31) dX11_sheet_31 rfl ?_ ?_
        · rfl
        · simp only [bI_0, bI_n0, Classical.not_not] at *
          have hC : ¬ ((0 ≤ zk0 ∧ zk0 ≤ 3) ∧ (0 ≤ zv ∧ zv ≤ 2) ∧ zl ≤ 64) := fun q => by first | exact zc9 q.1 | exact zc21 q.2.1 | exact (i_le2 _ _).mpr zc27 q.2.2 | exact zc27 q.2.2
          rw [if_neg hC]
          try rw [if_neg hC]
          exact ⟨rfl, rfl⟩
