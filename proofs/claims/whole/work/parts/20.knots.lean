theorem cn_X11_told (E : ME) (h : AH) (zv : Int32) (hw : WF h) : Con E mX11_told 2 0 0 [.ref 49, .int zv] h (fun r h' => r = some (.int (if zv = 0 then h.2.1 49 14 else if zv = 1 then h.2.1 49 16 else if zv = 2 then h.2.1 49 17 else if 0 ≤ zv - 10 ∧ zv - 10 ≤ 5 then h.2.1 57 (zv - 10).toNatClampNeg else if 0 ≤ zv - 20 ∧ zv - 20 ≤ 5 then h.2.1 58 (zv - 20).toNatClampNeg else -1)) ∧ h' = h) := by
  refine con_of2 (L := [some (.ref 49), some (.int zv)]) rfl (Nat.le_of_ble_eq_true rfl) rfl ?_
  refine ev_iload_n (pc := 0) dX11_told_0 rfl ?_
  refine ev_if_ne (pc := 1) (tgt := 11) dX11_told_1 (by decide) (fun zc1 => ?_) (fun zc1 => ?_)
  · -- ne at 1: taken
    refine ev_iload_n (pc := 11) dX11_told_11 rfl ?_
    refine ev_iconst (pc := 12) (v := 1) dX11_told_12 (by decide) ?_
    refine ev_icmp_ne (pc := 13) (tgt := 23) dX11_told_13 (by decide) (fun zc13 => ?_) (fun zc13 => ?_)
    · -- ne at 13: taken
      refine ev_iload_n (pc := 23) dX11_told_23 rfl ?_
      refine ev_iconst (pc := 24) (v := 2) dX11_told_24 (by decide) ?_
      refine ev_icmp_ne (pc := 25) (tgt := 35) dX11_told_25 (by decide) (fun zc25 => ?_) (fun zc25 => ?_)
      · -- ne at 25: taken
        refine ev_iload_n (pc := 35) dX11_told_35 rfl ?_
        refine ev_bipush (pc := 36) (v := 10) dX11_told_36 (by decide) ?_
        refine ev_isub (pc := 38) dX11_told_38 ?_
        refine ev_callSv (S := []) (pc := 39) dX11_told_39 kX11_isColour lX11_190 sX11_isColour (cn_X11_isColour E h (zv - 10)) rfl rfl (Nat.le_of_ble_eq_true rfl) ⟨Nat.le_of_ble_eq_true rfl, Nat.le_of_ble_eq_true rfl⟩ ⟨Nat.le_of_ble_eq_true rfl, Nat.le_of_ble_eq_true rfl⟩ ?_
        refine ev_if_eq (pc := 42) (tgt := 57) dX11_told_42 (by decide) (fun zc42 => ?_) (fun zc42 => ?_)
        · -- eq at 42: taken
          refine ev_iload_n (pc := 57) dX11_told_57 rfl ?_
          refine ev_bipush (pc := 58) (v := 20) dX11_told_58 (by decide) ?_
          refine ev_isub (pc := 60) dX11_told_60 ?_
          refine ev_callSv (S := []) (pc := 61) dX11_told_61 kX11_isColour lX11_190 sX11_isColour (cn_X11_isColour E h (zv - 20)) rfl rfl (Nat.le_of_ble_eq_true rfl) ⟨Nat.le_of_ble_eq_true rfl, Nat.le_of_ble_eq_true rfl⟩ ⟨Nat.le_of_ble_eq_true rfl, Nat.le_of_ble_eq_true rfl⟩ ?_
          refine ev_if_eq (pc := 64) (tgt := 79) dX11_told_64 (by decide) (fun zc64 => ?_) (fun zc64 => ?_)
          · -- eq at 64: taken
            refine ev_iconst (pc := 79) (v := (-1)) dX11_told_79 (by decide) ?_
            refine ev_iret (pc := 80) dX11_told_80 rfl ?_ ?_
            · rfl
            · refine ⟨?_, rfl⟩
              (try simp only [bI_0, bI_n0, Classical.not_not] at *)
              simp [*]
          · -- eq at 64: not taken
            refine ev_aload_n (pc := 67) dX11_told_67 rfl ?_
            refine ev_getR (pc := 68) (q := 58) dX11_told_68 fX11_38 rfl (wlt hw (by decide)) (wr hw rfl) ?_
            refine ev_iload_n (pc := 71) dX11_told_71 rfl ?_
            refine ev_bipush (pc := 72) (v := 20) dX11_told_72 (by decide) ?_
            refine ev_isub (pc := 74) dX11_told_74 ?_
            refine ev_iald (pc := 75) dX11_told_75 rfl (wlt hw (by decide)) (by simp only [bI_0, bI_n0, Classical.not_not] at *; exact vp_sm zc64.1 zc64.2 (by decide) (by decide)) ?_
            refine ev_goto (pc := 76) (tgt := 80) dX11_told_76 (by decide) ?_
            refine ev_iret (pc := 80) dX11_told_80 rfl ?_ ?_
            · rfl
            · refine ⟨?_, rfl⟩
              (try simp only [bI_0, bI_n0, Classical.not_not] at *)
              simp [*]
        · -- eq at 42: not taken
          refine ev_aload_n (pc := 45) dX11_told_45 rfl ?_
          refine ev_getR (pc := 46) (q := 57) dX11_told_46 fX11_35 rfl (wlt hw (by decide)) (wr hw rfl) ?_
          refine ev_iload_n (pc := 49) dX11_told_49 rfl ?_
          refine ev_bipush (pc := 50) (v := 10) dX11_told_50 (by decide) ?_
          refine ev_isub (pc := 52) dX11_told_52 ?_
          refine ev_iald (pc := 53) dX11_told_53 rfl (wlt hw (by decide)) (by simp only [bI_0, bI_n0, Classical.not_not] at *; exact vp_sm zc42.1 zc42.2 (by decide) (by decide)) ?_
          refine ev_goto (pc := 54) (tgt := 80) dX11_told_54 (by decide) ?_
          refine ev_iret (pc := 80) dX11_told_80 rfl ?_ ?_
          · rfl
          · refine ⟨?_, rfl⟩
            (try simp only [bI_0, bI_n0, Classical.not_not] at *)
            simp [*]
      · -- ne at 25: not taken
        refine ev_aload_n (pc := 28) dX11_told_28 rfl ?_
        refine ev_getI (pc := 29) dX11_told_29 fX11_31 rfl (wlt hw (by decide)) ?_
        refine ev_goto (pc := 32) (tgt := 80) dX11_told_32 (by decide) ?_
        refine ev_iret (pc := 80) dX11_told_80 rfl ?_ ?_
        · rfl
        · refine ⟨?_, rfl⟩
          (try simp only [bI_0, bI_n0, Classical.not_not] at *)
          simp [*]
    · -- ne at 13: not taken
      refine ev_aload_n (pc := 16) dX11_told_16 rfl ?_
      refine ev_getI (pc := 17) dX11_told_17 fX11_187 rfl (wlt hw (by decide)) ?_
      refine ev_goto (pc := 20) (tgt := 80) dX11_told_20 (by decide) ?_
      refine ev_iret (pc := 80) dX11_told_80 rfl ?_ ?_
      · rfl
      · refine ⟨?_, rfl⟩
        (try simp only [bI_0, bI_n0, Classical.not_not] at *)
        simp [*]
  · -- ne at 1: not taken
    refine ev_aload_n (pc := 4) dX11_told_4 rfl ?_
    refine ev_getI (pc := 5) dX11_told_5 fX11_184 rfl (wlt hw (by decide)) ?_
    refine ev_goto (pc := 8) (tgt := 80) dX11_told_8 (by decide) ?_
    refine ev_iret (pc := 80) dX11_told_80 rfl ?_ ?_
    · rfl
    · refine ⟨?_, rfl⟩
      (try simp only [bI_0, bI_n0, Classical.not_not] at *)
      simp [*]
/-- the first slip from the knot i on, among n of them -/
def fsD (f : Nat → Int32) (k : Int32) : Nat → Nat → Int32
  | _, 0 => -4
  | i, n + 1 => if f (i + 1) - f i = k then fsD f k (i + 1) n else nI i
theorem lp_slips_49 (E : ME) (h : AH) (zq : Nat) (zk zv : Int32) (hw : WF h) (hq2 : zq + 1 ≤ 24) {post : PO} (K : Ev E mX11_slips (rmm 2 0 0) (QM E 0 0 post) 0 0 90 [some (.ref 49), some (.int zk), some (.int zv), some (.int (fsD (h.2.1 68) zk 0 zq)), some (.int (nI 0))] [] h) : ∀ zi zn : Nat, zi + zn = zq → Ev E mX11_slips (rmm 2 0 0) (QM E 0 0 post) 0 0 49 [some (.ref 49), some (.int zk), some (.int zv), some (.int (fsD (h.2.1 68) zk zi zn)), some (.int (nI zi))] [] h := by
  intro zi
  induction zi with
  | zero =>
    intro zn hn
    obtain rfl : zn = zq := by omega
    refine ev_iload (pc := 49) dX11_slips_49 rfl ?_
    refine ev_if_le (pc := 51) (tgt := 90) dX11_slips_51 (by decide) (fun zc51 => ?_) (fun zc51 => absurd (by decide) zc51)
    exact K
  | succ zi ih =>
    intro zn hn
    refine ev_iload (pc := 49) dX11_slips_49 rfl ?_
    refine ev_if_le (pc := 51) (tgt := 90) dX11_slips_51 (by decide) (fun zc51 => absurd zc51 (nI_nle (by omega) (by omega))) (fun zc51 => ?_)
    refine ev_aload_n (pc := 54) dX11_slips_54 rfl ?_
    refine ev_getR (pc := 55) (q := 68) dX11_slips_55 fX11_69 rfl (wlt hw (by decide)) (wr hw rfl) ?_
    refine ev_iload (pc := 58) dX11_slips_58 rfl ?_
    refine ev_iald (pc := 60) dX11_slips_60 rfl (wlt hw (by decide)) (vp_in_nI (by omega) (by decide)) ?_
    refine ev_eqI (e' := h.2.1 68 (zi + 1)) (by rw [show Int32.toNatClampNeg (nI (zi + 1)) = zi + 1 from nI_clamp (by omega)] <;> rfl) ?_
    refine ev_aload_n (pc := 61) dX11_slips_61 rfl ?_
    refine ev_getR (pc := 62) (q := 68) dX11_slips_62 fX11_69 rfl (wlt hw (by decide)) (wr hw rfl) ?_
    refine ev_iload (pc := 65) dX11_slips_65 rfl ?_
    refine ev_iconst (pc := 67) (v := 1) dX11_slips_67 (by decide) ?_
    refine ev_isub (pc := 68) dX11_slips_68 ?_
    refine ev_eqI (e' := nI zi) (nI_pred _) ?_
    refine ev_iald (pc := 69) dX11_slips_69 rfl (wlt hw (by decide)) (vp_in_nI (by omega) (by decide)) ?_
    refine ev_eqI (e' := h.2.1 68 zi) (by rw [show Int32.toNatClampNeg (nI zi) = zi from nI_clamp (by omega)] <;> rfl) ?_
    refine ev_isub (pc := 70) dX11_slips_70 ?_
    refine ev_iload_n (pc := 71) dX11_slips_71 rfl ?_
    refine ev_icmp_ne (pc := 72) (tgt := 79) dX11_slips_72 (by decide) (fun zc72 => ?_) (fun zc72 => ?_)
    · -- ne at 72: taken
      refine ev_iload (pc := 79) dX11_slips_79 rfl ?_
      refine ev_iconst (pc := 81) (v := 1) dX11_slips_81 (by decide) ?_
      refine ev_isub (pc := 82) dX11_slips_82 ?_
      refine ev_eqI (e' := nI zi) (nI_pred _) ?_
      refine ev_istore_n (pc := 83) (L' := [some (.ref 49), some (.int zk), some (.int zv), some (.int (nI zi)), some (.int (nI (zi + 1)))]) dX11_slips_83 (Nat.le_of_ble_eq_true rfl) rfl ?_
      refine ev_iinc (pc := 84) (v := nI zi) (L' := [some (.ref 49), some (.int zk), some (.int zv), some (.int (nI zi)), some (.int (nI zi))]) dX11_slips_84 rfl (pk_m1 _) (Nat.le_of_ble_eq_true rfl) rfl ?_
      refine ev_goto (pc := 87) (tgt := 49) dX11_slips_87 (by decide) ?_
      refine ev_eqL (L' := [some (.ref 49), some (.int zk), some (.int zv), some (.int (fsD (h.2.1 68) zk zi (zn + 1))), some (.int (nI zi))]) (by simp only [fsD]; first | rw [if_pos zc72] | rw [if_neg zc72]) ?_
      exact ih (zn + 1) (by omega)
    · -- ne at 72: not taken
      refine ev_iload_n (pc := 75) dX11_slips_75 rfl ?_
      refine ev_goto (pc := 76) (tgt := 83) dX11_slips_76 (by decide) ?_
      refine ev_istore_n (pc := 83) (L' := [some (.ref 49), some (.int zk), some (.int zv), some (.int (fsD (h.2.1 68) zk (zi + 1) zn)), some (.int (nI (zi + 1)))]) dX11_slips_83 (Nat.le_of_ble_eq_true rfl) rfl ?_
      refine ev_iinc (pc := 84) (v := nI zi) (L' := [some (.ref 49), some (.int zk), some (.int zv), some (.int (fsD (h.2.1 68) zk (zi + 1) zn)), some (.int (nI zi))]) dX11_slips_84 rfl (pk_m1 _) (Nat.le_of_ble_eq_true rfl) rfl ?_
      refine ev_goto (pc := 87) (tgt := 49) dX11_slips_87 (by decide) ?_
      refine ev_eqL (L' := [some (.ref 49), some (.int zk), some (.int zv), some (.int (fsD (h.2.1 68) zk zi (zn + 1))), some (.int (nI zi))]) (by simp only [fsD]; first | rw [if_pos zc72] | rw [if_neg zc72]) ?_
      exact ih (zn + 1) (by omega)
theorem cn_X11_slips (E : ME) (h : AH) (zk zv : Int32) (zq : Nat) (hw : WF h) (hq : h.2.1 49 35 = nI (zq + 1)) (hq2 : zq + 1 ≤ 24) : Con E mX11_slips 2 0 0 [.ref 49, .int zk, .int zv] h (fun r h' => r = some (.int (if (1 ≤ zk ∧ zk ≤ 99) ∧ (0 ≤ zv ∧ zv ≤ 2) then (if zq < 1 then -1000002 else if zv = 0 then slF (h.2.1 68) zk zq else if zv = 1 then fsD (h.2.1 68) zk 0 zq else h.2.1 68 zq - h.2.1 68 0 - zk * nI zq) else -1000000)) ∧ h' = h) := by
  refine con_of2 (L := [some (.ref 49), some (.int zk), some (.int zv), none, none]) rfl (Nat.le_of_ble_eq_true rfl) rfl ?_
  refine ev_iload_n (pc := 0) dX11_slips_0 rfl ?_
  refine ev_i2l (pc := 1) dX11_slips_1 ?_
  refine ev_lconst (pc := 2) (v := 1) dX11_slips_2 (by decide) ?_
  refine ev_ldc2 (pc := 3) (v := 99) dX11_slips_3 kcX11_243 ?_
  refine ev_callSv (S := []) (pc := 6) dX11_slips_6 kX11_in lX11_96 sX11_in (cn_X11_inC E h zk 1 99 _ _ _ rfl (by decide) (by decide)) rfl rfl (Nat.le_of_ble_eq_true rfl) ⟨Nat.le_of_ble_eq_true rfl, Nat.le_of_ble_eq_true rfl⟩ ⟨Nat.le_of_ble_eq_true rfl, Nat.le_of_ble_eq_true rfl⟩ ?_
  refine ev_if_eq (pc := 9) (tgt := 24) dX11_slips_9 (by decide) (fun zc9 => ?_) (fun zc9 => ?_)
  · -- eq at 9: taken
    refine ev_ldc (pc := 24) (v := (-1000000)) dX11_slips_24 kcX11_247 ?_
    refine ev_iret (pc := 26) dX11_slips_26 rfl ?_ ?_
    · rfl
    · refine ⟨?_, rfl⟩
      simp only [bI_0, bI_n0, Classical.not_not] at *
      have hC : ¬ ((1 ≤ zk ∧ zk ≤ 99) ∧ (0 ≤ zv ∧ zv ≤ 2)) := fun q => by first | exact zc9 q.1 | exact zc21 q.2
      rw [if_neg hC]
  · -- eq at 9: not taken
    refine ev_iload_n (pc := 12) dX11_slips_12 rfl ?_
    refine ev_i2l (pc := 13) dX11_slips_13 ?_
    refine ev_lconst (pc := 14) (v := 0) dX11_slips_14 (by decide) ?_
    refine ev_ldc2 (pc := 15) (v := 2) dX11_slips_15 kcX11_245 ?_
    refine ev_callSv (S := []) (pc := 18) dX11_slips_18 kX11_in lX11_96 sX11_in (cn_X11_inC E h zv 0 2 _ _ _ rfl (by decide) (by decide)) rfl rfl (Nat.le_of_ble_eq_true rfl) ⟨Nat.le_of_ble_eq_true rfl, Nat.le_of_ble_eq_true rfl⟩ ⟨Nat.le_of_ble_eq_true rfl, Nat.le_of_ble_eq_true rfl⟩ ?_
    refine ev_if_ne (pc := 21) (tgt := 27) dX11_slips_21 (by decide) (fun zc21 => ?_) (fun zc21 => ?_)
    · -- ne at 21: taken
      refine ev_aload_n (pc := 27) dX11_slips_27 rfl ?_
      refine ev_getI (pc := 28) dX11_slips_28 fX11_240 rfl (wlt hw (by decide)) ?_
      refine ev_eqI (e' := nI (zq + 1)) hq ?_
      refine ev_iconst (pc := 31) (v := 2) dX11_slips_31 (by decide) ?_
      refine ev_icmp_ge (pc := 32) (tgt := 38) dX11_slips_32 (by decide) (fun zc32 => ?_) (fun zc32 => ?_)
      · -- ge at 32: taken
        refine ev_bipush (pc := 38) (v := (-4)) dX11_slips_38 (by decide) ?_
        refine ev_istore_n (pc := 40) (L' := [some (.ref 49), some (.int zk), some (.int zv), some (.int ((-4))), none]) dX11_slips_40 (Nat.le_of_ble_eq_true rfl) rfl ?_
        refine ev_aload_n (pc := 41) dX11_slips_41 rfl ?_
        refine ev_getI (pc := 42) dX11_slips_42 fX11_240 rfl (wlt hw (by decide)) ?_
        refine ev_eqI (e' := nI (zq + 1)) hq ?_
        refine ev_iconst (pc := 45) (v := 1) dX11_slips_45 (by decide) ?_
        refine ev_isub (pc := 46) dX11_slips_46 ?_
        refine ev_eqI (e' := nI zq) (nI_pred _) ?_
        refine ev_istore (pc := 47) (L' := [some (.ref 49), some (.int zk), some (.int zv), some (.int ((-4))), some (.int (nI zq))]) dX11_slips_47 (Nat.le_of_ble_eq_true rfl) rfl ?_
        refine lp_slips_49 E h zq zk zv hw hq2 ?_ zq 0 rfl
        refine ev_iload_n (pc := 90) dX11_slips_90 rfl ?_
        refine ev_if_ne (pc := 91) (tgt := 102) dX11_slips_91 (by decide) (fun zc91 => ?_) (fun zc91 => ?_)
        · -- ne at 91: taken
          refine ev_iload_n (pc := 102) dX11_slips_102 rfl ?_
          refine ev_iconst (pc := 103) (v := 1) dX11_slips_103 (by decide) ?_
          refine ev_icmp_ne (pc := 104) (tgt := 111) dX11_slips_104 (by decide) (fun zc104 => ?_) (fun zc104 => ?_)
          · -- ne at 104: taken
            refine ev_aload_n (pc := 111) dX11_slips_111 rfl ?_
            refine ev_getR (pc := 112) (q := 68) dX11_slips_112 fX11_69 rfl (wlt hw (by decide)) (wr hw rfl) ?_
            refine ev_aload_n (pc := 115) dX11_slips_115 rfl ?_
            refine ev_getI (pc := 116) dX11_slips_116 fX11_240 rfl (wlt hw (by decide)) ?_
            refine ev_eqI (e' := nI (zq + 1)) hq ?_
            refine ev_iconst (pc := 119) (v := 1) dX11_slips_119 (by decide) ?_
            refine ev_isub (pc := 120) dX11_slips_120 ?_
            refine ev_eqI (e' := nI zq) (nI_pred _) ?_
            refine ev_iald (pc := 121) dX11_slips_121 rfl (wlt hw (by decide)) (vp_in_nI (by omega) (by decide)) ?_
            refine ev_eqI (e' := h.2.1 68 zq) (by rw [show Int32.toNatClampNeg (nI zq) = zq from nI_clamp (by omega)] <;> rfl) ?_
            refine ev_aload_n (pc := 122) dX11_slips_122 rfl ?_
            refine ev_getR (pc := 123) (q := 68) dX11_slips_123 fX11_69 rfl (wlt hw (by decide)) (wr hw rfl) ?_
            refine ev_iconst (pc := 126) (v := 0) dX11_slips_126 (by decide) ?_
            refine ev_iald (pc := 127) dX11_slips_127 rfl (wlt hw (by decide)) (vp_in_nI (n := 0) (by decide) (by decide)) ?_
            refine ev_eqI (e' := h.2.1 68 0) (by rfl) ?_
            refine ev_isub (pc := 128) dX11_slips_128 ?_
            refine ev_iload_n (pc := 129) dX11_slips_129 rfl ?_
            refine ev_aload_n (pc := 130) dX11_slips_130 rfl ?_
            refine ev_getI (pc := 131) dX11_slips_131 fX11_240 rfl (wlt hw (by decide)) ?_
            refine ev_eqI (e' := nI (zq + 1)) hq ?_
            refine ev_iconst (pc := 134) (v := 1) dX11_slips_134 (by decide) ?_
            refine ev_isub (pc := 135) dX11_slips_135 ?_
            refine ev_eqI (e' := nI zq) (nI_pred _) ?_
            refine ev_imul (pc := 136) dX11_slips_136 ?_
            refine ev_isub (pc := 137) dX11_slips_137 ?_
            refine ev_iret (pc := 138) dX11_slips_138 rfl ?_ ?_
            · rfl
            · refine ⟨?_, rfl⟩
              simp only [bI_0, bI_n0, Classical.not_not] at *
              have hC : (1 ≤ zk ∧ zk ≤ 99) ∧ (0 ≤ zv ∧ zv ≤ 2) := ⟨zc9, zc21⟩
              rw [if_pos hC]
              rw [if_neg (by have z1 := (nI_leI (a := 2) (b := zq + 1) (by decide) (by omega)).mp zc32; omega)]
              simp [*]
          · -- ne at 104: not taken
            refine ev_iload_n (pc := 107) dX11_slips_107 rfl ?_
            refine ev_goto (pc := 108) (tgt := 138) dX11_slips_108 (by decide) ?_
            refine ev_iret (pc := 138) dX11_slips_138 rfl ?_ ?_
            · rfl
            · refine ⟨?_, rfl⟩
              simp only [bI_0, bI_n0, Classical.not_not] at *
              have hC : (1 ≤ zk ∧ zk ≤ 99) ∧ (0 ≤ zv ∧ zv ≤ 2) := ⟨zc9, zc21⟩
              rw [if_pos hC]
              rw [if_neg (by have z1 := (nI_leI (a := 2) (b := zq + 1) (by decide) (by omega)).mp zc32; omega)]
              simp [*]
        · -- ne at 91: not taken
          refine ev_aload_n (pc := 94) dX11_slips_94 rfl ?_
          refine ev_iload_n (pc := 95) dX11_slips_95 rfl ?_
          refine ev_callVv (S := []) (pc := 96) dX11_slips_96 kX11_slipped lX11_249 vX11_slipped (cn_X11_slipped E h zk zq hw hq hq2) rfl rfl (wlt hw (by decide)) rfl rfl (Nat.le_of_ble_eq_true rfl) ⟨Nat.le_of_ble_eq_true rfl, Nat.le_of_ble_eq_true rfl⟩ ⟨Nat.le_of_ble_eq_true rfl, Nat.le_of_ble_eq_true rfl⟩ ?_
          refine ev_goto (pc := 99) (tgt := 138) dX11_slips_99 (by decide) ?_
          refine ev_iret (pc := 138) dX11_slips_138 rfl ?_ ?_
          · rfl
          · refine ⟨?_, rfl⟩
            simp only [bI_0, bI_n0, Classical.not_not] at *
            have hC : (1 ≤ zk ∧ zk ≤ 99) ∧ (0 ≤ zv ∧ zv ≤ 2) := ⟨zc9, zc21⟩
            rw [if_pos hC]
            rw [if_neg (by have z1 := (nI_leI (a := 2) (b := zq + 1) (by decide) (by omega)).mp zc32; omega)]
            simp [*]
      · -- ge at 32: not taken
        refine ev_ldc (pc := 35) (v := (-1000002)) dX11_slips_35 kcX11_248 ?_
        refine ev_iret (pc := 37) dX11_slips_37 rfl ?_ ?_
        · rfl
        · refine ⟨?_, rfl⟩
          simp only [bI_0, bI_n0, Classical.not_not] at *
          have hC : (1 ≤ zk ∧ zk ≤ 99) ∧ (0 ≤ zv ∧ zv ≤ 2) := ⟨zc9, zc21⟩
          rw [if_pos hC]
          rw [if_pos (by have z1 : ¬ 2 ≤ zq + 1 := fun z => zc32 ((nI_leI (a := 2) (b := zq + 1) (by decide) (by omega)).mpr z); omega)]
    · -- ne at 21: not taken
      refine ev_ldc (pc := 24) (v := (-1000000)) dX11_slips_24 kcX11_247 ?_
      refine ev_iret (pc := 26) dX11_slips_26 rfl ?_ ?_
      · rfl
      · refine ⟨?_, rfl⟩
        simp only [bI_0, bI_n0, Classical.not_not] at *
        have hC : ¬ ((1 ≤ zk ∧ zk ≤ 99) ∧ (0 ≤ zv ∧ zv ≤ 2)) := fun q => by first | exact zc9 q.1 | exact zc21 q.2
        rw [if_neg hC]
def bkF (g : Int32 → Int32) : Nat → Int32
  | 0 => 1
  | j + 1 => if g (nI (j + 2)) < g (bkF g j) then nI (j + 2) else bkF g j
theorem lp_knots_15 (E : ME) (h : AH) (zq : Nat) (hw : WF h) (hq : h.2.1 49 35 = nI (zq + 1)) (hq2 : zq + 1 ≤ 24) {post : PO} (K : Ev E mX11_knots (rmm 1 0 0) (QM E 0 0 post) 0 0 46 [some (.ref 49), some (.int (bkF (fun z => slF (h.2.1 68) z zq) 98)), some (.int (nI (98 + 2)))] [] h) : ∀ n i : Nat, i + n = 98 → Ev E mX11_knots (rmm 1 0 0) (QM E 0 0 post) 0 0 15 [some (.ref 49), some (.int (bkF (fun z => slF (h.2.1 68) z zq) i)), some (.int (nI (i + 2)))] [] h := by
  intro n
  induction n with
  | zero =>
    intro i hi
    obtain rfl : 98 = i := by omega
    refine ev_iload_n (pc := 15) dX11_knots_15 rfl ?_
    refine ev_bipush (pc := 16) (v := 100) dX11_knots_16 (by decide) ?_
    refine ev_icmp_ge (pc := 18) (tgt := 46) dX11_knots_18 (by decide) (fun zc18 => ?_) (fun zc18 => absurd (by decide) zc18)
    exact K
  | succ n ih =>
    intro i hi
    have hlt : i < 98 := by omega
    refine ev_iload_n (pc := 15) dX11_knots_15 rfl ?_
    refine ev_bipush (pc := 16) (v := 100) dX11_knots_16 (by decide) ?_
    refine ev_icmp_ge (pc := 18) (tgt := 46) dX11_knots_18 (by decide) (fun zc18 => absurd zc18 (nI_ge (a := i + 2) (b := 100) (by omega) (by decide))) (fun zc18 => ?_)
    refine ev_aload_n (pc := 21) dX11_knots_21 rfl ?_
    refine ev_iload_n (pc := 22) dX11_knots_22 rfl ?_
    refine ev_callVv (S := []) (pc := 23) dX11_knots_23 kX11_slipped lX11_249 vX11_slipped (cn_X11_slipped E h (nI (i + 2)) zq hw hq hq2) rfl rfl (wlt hw (by decide)) rfl rfl (Nat.le_of_ble_eq_true rfl) ⟨Nat.le_of_ble_eq_true rfl, Nat.le_of_ble_eq_true rfl⟩ ⟨Nat.le_of_ble_eq_true rfl, Nat.le_of_ble_eq_true rfl⟩ ?_
    refine ev_aload_n (pc := 26) dX11_knots_26 rfl ?_
    refine ev_iload_n (pc := 27) dX11_knots_27 rfl ?_
    refine ev_callVv (S := [.int (slF (h.2.1 68) (nI (i + 2)) zq)]) (pc := 28) dX11_knots_28 kX11_slipped lX11_249 vX11_slipped (cn_X11_slipped E h (bkF (fun z => slF (h.2.1 68) z zq) i) zq hw hq hq2) rfl rfl (wlt hw (by decide)) rfl rfl (Nat.le_of_ble_eq_true rfl) ⟨Nat.le_of_ble_eq_true rfl, Nat.le_of_ble_eq_true rfl⟩ ⟨Nat.le_of_ble_eq_true rfl, Nat.le_of_ble_eq_true rfl⟩ ?_
    refine ev_icmp_ge (pc := 31) (tgt := 38) dX11_knots_31 (by decide) (fun zc31 => ?_) (fun zc31 => ?_)
    · -- ge at 31: taken
      refine ev_iload_n (pc := 38) dX11_knots_38 rfl ?_
      refine ev_istore_n (pc := 39) (L' := [some (.ref 49), some (.int (bkF (fun z => slF (h.2.1 68) z zq) i)), some (.int (nI (i + 2)))]) dX11_knots_39 (Nat.le_of_ble_eq_true rfl) rfl ?_
      refine ev_iinc (pc := 40) (v := nI (i + 2 + 1)) (L' := [some (.ref 49), some (.int (bkF (fun z => slF (h.2.1 68) z zq) i)), some (.int (nI (i + 2 + 1)))]) dX11_knots_40 rfl (nI_1 _) (Nat.le_of_ble_eq_true rfl) rfl ?_
      refine ev_goto (pc := 43) (tgt := 15) dX11_knots_43 (by decide) ?_
      refine ev_eqL (L' := [some (.ref 49), some (.int (bkF (fun z => slF (h.2.1 68) z zq) (i + 1))), some (.int (nI ((i + 1) + 2)))]) (by simp only [bkF]; first | rw [if_neg ((i_lt2 _ _).mpr zc31)] | rw [if_pos ((i_le2 _ _).mp zc31)]) ?_
      exact ih (i + 1) (by omega)
    · -- ge at 31: not taken
      refine ev_iload_n (pc := 34) dX11_knots_34 rfl ?_
      refine ev_goto (pc := 35) (tgt := 39) dX11_knots_35 (by decide) ?_
      refine ev_istore_n (pc := 39) (L' := [some (.ref 49), some (.int (nI (i + 2))), some (.int (nI (i + 2)))]) dX11_knots_39 (Nat.le_of_ble_eq_true rfl) rfl ?_
      refine ev_iinc (pc := 40) (v := nI (i + 2 + 1)) (L' := [some (.ref 49), some (.int (nI (i + 2))), some (.int (nI (i + 2 + 1)))]) dX11_knots_40 rfl (nI_1 _) (Nat.le_of_ble_eq_true rfl) rfl ?_
      refine ev_goto (pc := 43) (tgt := 15) dX11_knots_43 (by decide) ?_
      refine ev_eqL (L' := [some (.ref 49), some (.int (bkF (fun z => slF (h.2.1 68) z zq) (i + 1))), some (.int (nI ((i + 1) + 2)))]) (by simp only [bkF]; first | rw [if_neg ((i_lt2 _ _).mpr zc31)] | rw [if_pos ((i_le2 _ _).mp zc31)]) ?_
      exact ih (i + 1) (by omega)
theorem cn_X11_knots (E : ME) (h : AH) (zq : Nat) (hw : WF h) (hq : h.2.1 49 35 = nI (zq + 1)) (hq2 : zq + 1 ≤ 24) : Con E mX11_knots 1 0 0 [.ref 49] h (fun r h' => r = some (.int (if zq < 1 then -2 else bkF (fun z => slF (h.2.1 68) z zq) 98)) ∧ h' = h) := by
  refine con_of2 (L := [some (.ref 49), none, none]) rfl (Nat.le_of_ble_eq_true rfl) rfl ?_
  refine ev_aload_n (pc := 0) dX11_knots_0 rfl ?_
  refine ev_getI (pc := 1) dX11_knots_1 fX11_240 rfl (wlt hw (by decide)) ?_
  refine ev_eqI (e' := nI (zq + 1)) hq ?_
  refine ev_iconst (pc := 4) (v := 2) dX11_knots_4 (by decide) ?_
  refine ev_icmp_ge (pc := 5) (tgt := 11) dX11_knots_5 (by decide) (fun zc5 => ?_) (fun zc5 => ?_)
  · -- ge at 5: taken
    refine ev_iconst (pc := 11) (v := 1) dX11_knots_11 (by decide) ?_
    refine ev_istore_n (pc := 12) (L' := [some (.ref 49), some (.int 1), none]) dX11_knots_12 (Nat.le_of_ble_eq_true rfl) rfl ?_
    refine ev_iconst (pc := 13) (v := 2) dX11_knots_13 (by decide) ?_
    refine ev_istore_n (pc := 14) (L' := [some (.ref 49), some (.int 1), some (.int 2)]) dX11_knots_14 (Nat.le_of_ble_eq_true rfl) rfl ?_
    refine lp_knots_15 E h zq hw hq hq2 ?_ 98 0 (Nat.zero_add _)
    refine ev_iload_n (pc := 46) dX11_knots_46 rfl ?_
    refine ev_iret (pc := 47) dX11_knots_47 rfl ?_ ?_
    · rfl
    · refine ⟨?_, rfl⟩
      rw [if_neg (by have z1 := (nI_leI (a := 2) (b := zq + 1) (by decide) (by omega)).mp zc5; omega)]
  · -- ge at 5: not taken
    refine ev_bipush (pc := 8) (v := (-2)) dX11_knots_8 (by decide) ?_
    refine ev_iret (pc := 10) dX11_knots_10 rfl ?_ ?_
    · rfl
    · refine ⟨?_, rfl⟩
      rw [if_pos (by have z1 : ¬ 2 ≤ zq + 1 := fun z => zc5 ((nI_leI (a := 2) (b := zq + 1) (by decide) (by omega)).mpr z); omega)]
def fdB (v : Int64) (i : Nat) : Int32 := (v >>> ((nI (56 - 8 * i)).toInt64 &&& 63)).toInt32 &&& 255
def fdF (f : Nat → Int32) (v : Int64) (zq : Nat) : Nat → Nat → Int32
  | 0 => f
  | i + 1 => upd (fdF f v zq i) (zq + i) (fdB v i)
theorem cn_X11_feed (E : ME) (h : AH) (zv : Int64) (zq : Nat) (hw : WF h) (hq : h.2.1 49 1 = nI zq) (hq2 : zq ≤ 400) : Con E mX11_feed 0 0 0 [.ref 49, .long zv] h (fun r h' => r = some (.int (if zq + 8 ≤ 400 then nI (zq + 8) else -3)) ∧ h' = if zq + 8 ≤ 400 then sI (sI h 50 (fdF (h.2.1 50) zv zq 8)) 49 (upd (h.2.1 49) 1 (nI (zq + 8))) else h) := by
  refine con_of2 (L := [some (.ref 49), some (.long zv), none, none]) rfl (Nat.le_of_ble_eq_true rfl) rfl ?_
  refine ev_aload_n (pc := 0) dX11_feed_0 rfl ?_
  refine ev_getI (pc := 1) dX11_feed_1 fX11_93 rfl (wlt hw (by decide)) ?_
  refine ev_eqI (e' := nI zq) hq ?_
  refine ev_bipush (pc := 4) (v := 8) dX11_feed_4 (by decide) ?_
  refine ev_iadd (pc := 6) dX11_feed_6 ?_
  refine ev_eqI (e' := nI (zq + 8)) (nI_add zq 8) ?_
  refine ev_sipush (pc := 7) (v := 400) dX11_feed_7 (by decide) ?_
  refine ev_icmp_le (pc := 10) (tgt := 16) dX11_feed_10 (by decide) (fun zc10 => ?_) (fun zc10 => ?_)
  · -- le at 10: taken
    refine ev_bipush (pc := 16) (v := 56) dX11_feed_16 (by decide) ?_
    refine ev_istore_n (pc := 18) (L' := [some (.ref 49), some (.long zv), none, some (.int 56)]) dX11_feed_18 (Nat.le_of_ble_eq_true rfl) rfl ?_
    refine ev_iload_n (pc := 19) dX11_feed_19 rfl ?_
    refine ev_if_lt (pc := 20) (tgt := 56) dX11_feed_20 (by decide) (fun zc20 => absurd zc20 (by decide)) (fun zc20 => ?_)
    refine ev_aload_n (pc := 23) dX11_feed_23 rfl ?_
    refine ev_getR (pc := 24) (q := 50) dX11_feed_24 fX11_7 rfl (wlt hw (by decide)) (wr hw rfl) ?_
    refine ev_aload_n (pc := 27) dX11_feed_27 rfl ?_
    refine ev_getI (pc := 28) dX11_feed_28 fX11_93 rfl (wlt hw (by decide)) ?_
    refine ev_eqI (e' := nI zq) hq ?_
    refine ev_lload_n (pc := 31) dX11_feed_31 rfl ?_
    refine ev_iload_n (pc := 32) dX11_feed_32 rfl ?_
    refine ev_lshr (pc := 33) dX11_feed_33 ?_
    refine ev_l2i (pc := 34) dX11_feed_34 ?_
    refine ev_sipush (pc := 35) (v := 255) dX11_feed_35 (by decide) ?_
    refine ev_iand (pc := 38) dX11_feed_38 ?_
    refine ev_iast (pc := 39) dX11_feed_39 rfl (wlt hw (by decide)) (vp_in_nI (by have z1 := (nI_leI (a := zq + 8) (b := 400) (by omega) (by decide)).mp zc10; omega) (by decide)) ?_
    refine ev_eqH (h' := sI h 50 (upd (h.2.1 50) zq ((Int64.toInt32 (zv >>> (Int32.toInt64 56 &&& 63))) &&& 255))) (by rw [show Int32.toNatClampNeg (nI zq) = zq from nI_clamp (by omega)] <;> rfl) ?_
    refine ev_aload_n (pc := 40) dX11_feed_40 rfl ?_
    refine ev_dup (pc := 41) dX11_feed_41 rfl ?_
    refine ev_getI (pc := 42) dX11_feed_42 fX11_93 rfl (wlt (wf_sI hw) (by decide)) ?_
    refine ev_eqI (e' := h.2.1 49 1) (by rfl) ?_
    refine ev_eqI (e' := nI zq) hq ?_
    refine ev_iconst (pc := 45) (v := 1) dX11_feed_45 (by decide) ?_
    refine ev_iadd (pc := 46) dX11_feed_46 ?_
    refine ev_eqI (e' := nI (zq + 1)) (nI_add zq 1) ?_
    refine ev_putI (pc := 47) dX11_feed_47 fX11_93 rfl (wlt (wf_sI hw) (by decide)) ?_
    refine ev_eqH (h' := sI (sI h 50 (upd (h.2.1 50) zq ((Int64.toInt32 (zv >>> (Int32.toInt64 56 &&& 63))) &&& 255))) 49 (upd (h.2.1 49) 1 (nI (zq + 1)))) (by rfl) ?_
    refine ev_iinc (pc := 50) (v := 48) (L' := [some (.ref 49), some (.long zv), none, some (.int 48)]) dX11_feed_50 rfl (by decide) (Nat.le_of_ble_eq_true rfl) rfl ?_
    refine ev_goto (pc := 53) (tgt := 19) dX11_feed_53 (by decide) ?_
    refine ev_iload_n (pc := 19) dX11_feed_19 rfl ?_
    refine ev_if_lt (pc := 20) (tgt := 56) dX11_feed_20 (by decide) (fun zc20 => absurd zc20 (by decide)) (fun zc20 => ?_)
    refine ev_aload_n (pc := 23) dX11_feed_23 rfl ?_
    refine ev_getR (pc := 24) (q := 50) dX11_feed_24 fX11_7 rfl (wlt (wf_sI (wf_sI hw)) (by decide)) (wr (wf_sI (wf_sI hw)) rfl) ?_
    refine ev_aload_n (pc := 27) dX11_feed_27 rfl ?_
    refine ev_getI (pc := 28) dX11_feed_28 fX11_93 rfl (wlt (wf_sI (wf_sI hw)) (by decide)) ?_
    refine ev_eqI (e' := nI (zq + 1)) (by rfl) ?_
    refine ev_lload_n (pc := 31) dX11_feed_31 rfl ?_
    refine ev_iload_n (pc := 32) dX11_feed_32 rfl ?_
    refine ev_lshr (pc := 33) dX11_feed_33 ?_
    refine ev_l2i (pc := 34) dX11_feed_34 ?_
    refine ev_sipush (pc := 35) (v := 255) dX11_feed_35 (by decide) ?_
    refine ev_iand (pc := 38) dX11_feed_38 ?_
    refine ev_iast (pc := 39) dX11_feed_39 rfl (wlt (wf_sI (wf_sI hw)) (by decide)) (vp_in_nI (by have z1 := (nI_leI (a := zq + 8) (b := 400) (by omega) (by decide)).mp zc10; omega) (by decide)) ?_
    refine ev_eqH (h' := sI (sI h 50 (upd (upd (h.2.1 50) zq ((Int64.toInt32 (zv >>> (Int32.toInt64 56 &&& 63))) &&& 255)) (zq + 1) ((Int64.toInt32 (zv >>> (Int32.toInt64 48 &&& 63))) &&& 255))) 49 (upd (h.2.1 49) 1 (nI (zq + 1)))) (by rw [show Int32.toNatClampNeg (nI (zq + 1)) = zq + 1 from nI_clamp (by omega)]; exact sI_dp _ (by decide) _ _ _) ?_
    refine ev_aload_n (pc := 40) dX11_feed_40 rfl ?_
    refine ev_dup (pc := 41) dX11_feed_41 rfl ?_
    refine ev_getI (pc := 42) dX11_feed_42 fX11_93 rfl (wlt (wf_sI (wf_sI hw)) (by decide)) ?_
    refine ev_eqI (e' := nI (zq + 1)) (by rfl) ?_
    refine ev_iconst (pc := 45) (v := 1) dX11_feed_45 (by decide) ?_
    refine ev_iadd (pc := 46) dX11_feed_46 ?_
    refine ev_eqI (e' := nI ((zq + 1) + 1)) (nI_add (zq + 1) 1) ?_
    refine ev_putI (pc := 47) dX11_feed_47 fX11_93 rfl (wlt (wf_sI (wf_sI hw)) (by decide)) ?_
    refine ev_eqH (h' := sI (sI h 50 (upd (upd (h.2.1 50) zq ((Int64.toInt32 (zv >>> (Int32.toInt64 56 &&& 63))) &&& 255)) (zq + 1) ((Int64.toInt32 (zv >>> (Int32.toInt64 48 &&& 63))) &&& 255))) 49 (upd (h.2.1 49) 1 (nI ((zq + 1) + 1)))) (by refine (sI_sI _ _ _ _).trans ?_; refine congrArg _ (funext fun zj => ?_); simp only [upd, vp_updL, sI_at]; (repeat' split) <;> first | rfl | (exfalso; omega)) ?_
    refine ev_iinc (pc := 50) (v := 40) (L' := [some (.ref 49), some (.long zv), none, some (.int 40)]) dX11_feed_50 rfl (by decide) (Nat.le_of_ble_eq_true rfl) rfl ?_
    refine ev_goto (pc := 53) (tgt := 19) dX11_feed_53 (by decide) ?_
    refine ev_iload_n (pc := 19) dX11_feed_19 rfl ?_
    refine ev_if_lt (pc := 20) (tgt := 56) dX11_feed_20 (by decide) (fun zc20 => absurd zc20 (by decide)) (fun zc20 => ?_)
    refine ev_aload_n (pc := 23) dX11_feed_23 rfl ?_
    refine ev_getR (pc := 24) (q := 50) dX11_feed_24 fX11_7 rfl (wlt (wf_sI (wf_sI hw)) (by decide)) (wr (wf_sI (wf_sI hw)) rfl) ?_
    refine ev_aload_n (pc := 27) dX11_feed_27 rfl ?_
    refine ev_getI (pc := 28) dX11_feed_28 fX11_93 rfl (wlt (wf_sI (wf_sI hw)) (by decide)) ?_
    refine ev_eqI (e' := nI ((zq + 1) + 1)) (by rfl) ?_
    refine ev_lload_n (pc := 31) dX11_feed_31 rfl ?_
    refine ev_iload_n (pc := 32) dX11_feed_32 rfl ?_
    refine ev_lshr (pc := 33) dX11_feed_33 ?_
    refine ev_l2i (pc := 34) dX11_feed_34 ?_
    refine ev_sipush (pc := 35) (v := 255) dX11_feed_35 (by decide) ?_
    refine ev_iand (pc := 38) dX11_feed_38 ?_
    refine ev_iast (pc := 39) dX11_feed_39 rfl (wlt (wf_sI (wf_sI hw)) (by decide)) (vp_in_nI (by have z1 := (nI_leI (a := zq + 8) (b := 400) (by omega) (by decide)).mp zc10; omega) (by decide)) ?_
    refine ev_eqH (h' := sI (sI h 50 (upd (upd (upd (h.2.1 50) zq ((Int64.toInt32 (zv >>> (Int32.toInt64 56 &&& 63))) &&& 255)) (zq + 1) ((Int64.toInt32 (zv >>> (Int32.toInt64 48 &&& 63))) &&& 255)) ((zq + 1) + 1) ((Int64.toInt32 (zv >>> (Int32.toInt64 40 &&& 63))) &&& 255))) 49 (upd (h.2.1 49) 1 (nI ((zq + 1) + 1)))) (by rw [show Int32.toNatClampNeg (nI ((zq + 1) + 1)) = (zq + 1) + 1 from nI_clamp (by omega)]; exact sI_dp _ (by decide) _ _ _) ?_
    refine ev_aload_n (pc := 40) dX11_feed_40 rfl ?_
    refine ev_dup (pc := 41) dX11_feed_41 rfl ?_
    refine ev_getI (pc := 42) dX11_feed_42 fX11_93 rfl (wlt (wf_sI (wf_sI hw)) (by decide)) ?_
    refine ev_eqI (e' := nI ((zq + 1) + 1)) (by rfl) ?_
    refine ev_iconst (pc := 45) (v := 1) dX11_feed_45 (by decide) ?_
    refine ev_iadd (pc := 46) dX11_feed_46 ?_
    refine ev_eqI (e' := nI (((zq + 1) + 1) + 1)) (nI_add ((zq + 1) + 1) 1) ?_
    refine ev_putI (pc := 47) dX11_feed_47 fX11_93 rfl (wlt (wf_sI (wf_sI hw)) (by decide)) ?_
    refine ev_eqH (h' := sI (sI h 50 (upd (upd (upd (h.2.1 50) zq ((Int64.toInt32 (zv >>> (Int32.toInt64 56 &&& 63))) &&& 255)) (zq + 1) ((Int64.toInt32 (zv >>> (Int32.toInt64 48 &&& 63))) &&& 255)) ((zq + 1) + 1) ((Int64.toInt32 (zv >>> (Int32.toInt64 40 &&& 63))) &&& 255))) 49 (upd (h.2.1 49) 1 (nI (((zq + 1) + 1) + 1)))) (by refine (sI_sI _ _ _ _).trans ?_; refine congrArg _ (funext fun zj => ?_); simp only [upd, vp_updL, sI_at]; (repeat' split) <;> first | rfl | (exfalso; omega)) ?_
    refine ev_iinc (pc := 50) (v := 32) (L' := [some (.ref 49), some (.long zv), none, some (.int 32)]) dX11_feed_50 rfl (by decide) (Nat.le_of_ble_eq_true rfl) rfl ?_
    refine ev_goto (pc := 53) (tgt := 19) dX11_feed_53 (by decide) ?_
    refine ev_iload_n (pc := 19) dX11_feed_19 rfl ?_
    refine ev_if_lt (pc := 20) (tgt := 56) dX11_feed_20 (by decide) (fun zc20 => absurd zc20 (by decide)) (fun zc20 => ?_)
    refine ev_aload_n (pc := 23) dX11_feed_23 rfl ?_
    refine ev_getR (pc := 24) (q := 50) dX11_feed_24 fX11_7 rfl (wlt (wf_sI (wf_sI hw)) (by decide)) (wr (wf_sI (wf_sI hw)) rfl) ?_
    refine ev_aload_n (pc := 27) dX11_feed_27 rfl ?_
    refine ev_getI (pc := 28) dX11_feed_28 fX11_93 rfl (wlt (wf_sI (wf_sI hw)) (by decide)) ?_
    refine ev_eqI (e' := nI (((zq + 1) + 1) + 1)) (by rfl) ?_
    refine ev_lload_n (pc := 31) dX11_feed_31 rfl ?_
    refine ev_iload_n (pc := 32) dX11_feed_32 rfl ?_
    refine ev_lshr (pc := 33) dX11_feed_33 ?_
    refine ev_l2i (pc := 34) dX11_feed_34 ?_
    refine ev_sipush (pc := 35) (v := 255) dX11_feed_35 (by decide) ?_
    refine ev_iand (pc := 38) dX11_feed_38 ?_
    refine ev_iast (pc := 39) dX11_feed_39 rfl (wlt (wf_sI (wf_sI hw)) (by decide)) (vp_in_nI (by have z1 := (nI_leI (a := zq + 8) (b := 400) (by omega) (by decide)).mp zc10; omega) (by decide)) ?_
    refine ev_eqH (h' := sI (sI h 50 (upd (upd (upd (upd (h.2.1 50) zq ((Int64.toInt32 (zv >>> (Int32.toInt64 56 &&& 63))) &&& 255)) (zq + 1) ((Int64.toInt32 (zv >>> (Int32.toInt64 48 &&& 63))) &&& 255)) ((zq + 1) + 1) ((Int64.toInt32 (zv >>> (Int32.toInt64 40 &&& 63))) &&& 255)) (((zq + 1) + 1) + 1) ((Int64.toInt32 (zv >>> (Int32.toInt64 32 &&& 63))) &&& 255))) 49 (upd (h.2.1 49) 1 (nI (((zq + 1) + 1) + 1)))) (by rw [show Int32.toNatClampNeg (nI (((zq + 1) + 1) + 1)) = ((zq + 1) + 1) + 1 from nI_clamp (by omega)]; exact sI_dp _ (by decide) _ _ _) ?_
    refine ev_aload_n (pc := 40) dX11_feed_40 rfl ?_
    refine ev_dup (pc := 41) dX11_feed_41 rfl ?_
    refine ev_getI (pc := 42) dX11_feed_42 fX11_93 rfl (wlt (wf_sI (wf_sI hw)) (by decide)) ?_
    refine ev_eqI (e' := nI (((zq + 1) + 1) + 1)) (by rfl) ?_
    refine ev_iconst (pc := 45) (v := 1) dX11_feed_45 (by decide) ?_
    refine ev_iadd (pc := 46) dX11_feed_46 ?_
    refine ev_eqI (e' := nI ((((zq + 1) + 1) + 1) + 1)) (nI_add (((zq + 1) + 1) + 1) 1) ?_
    refine ev_putI (pc := 47) dX11_feed_47 fX11_93 rfl (wlt (wf_sI (wf_sI hw)) (by decide)) ?_
    refine ev_eqH (h' := sI (sI h 50 (upd (upd (upd (upd (h.2.1 50) zq ((Int64.toInt32 (zv >>> (Int32.toInt64 56 &&& 63))) &&& 255)) (zq + 1) ((Int64.toInt32 (zv >>> (Int32.toInt64 48 &&& 63))) &&& 255)) ((zq + 1) + 1) ((Int64.toInt32 (zv >>> (Int32.toInt64 40 &&& 63))) &&& 255)) (((zq + 1) + 1) + 1) ((Int64.toInt32 (zv >>> (Int32.toInt64 32 &&& 63))) &&& 255))) 49 (upd (h.2.1 49) 1 (nI ((((zq + 1) + 1) + 1) + 1)))) (by refine (sI_sI _ _ _ _).trans ?_; refine congrArg _ (funext fun zj => ?_); simp only [upd, vp_updL, sI_at]; (repeat' split) <;> first | rfl | (exfalso; omega)) ?_
    refine ev_iinc (pc := 50) (v := 24) (L' := [some (.ref 49), some (.long zv), none, some (.int 24)]) dX11_feed_50 rfl (by decide) (Nat.le_of_ble_eq_true rfl) rfl ?_
    refine ev_goto (pc := 53) (tgt := 19) dX11_feed_53 (by decide) ?_
    refine ev_iload_n (pc := 19) dX11_feed_19 rfl ?_
    refine ev_if_lt (pc := 20) (tgt := 56) dX11_feed_20 (by decide) (fun zc20 => absurd zc20 (by decide)) (fun zc20 => ?_)
    refine ev_aload_n (pc := 23) dX11_feed_23 rfl ?_
    refine ev_getR (pc := 24) (q := 50) dX11_feed_24 fX11_7 rfl (wlt (wf_sI (wf_sI hw)) (by decide)) (wr (wf_sI (wf_sI hw)) rfl) ?_
    refine ev_aload_n (pc := 27) dX11_feed_27 rfl ?_
    refine ev_getI (pc := 28) dX11_feed_28 fX11_93 rfl (wlt (wf_sI (wf_sI hw)) (by decide)) ?_
    refine ev_eqI (e' := nI ((((zq + 1) + 1) + 1) + 1)) (by rfl) ?_
    refine ev_lload_n (pc := 31) dX11_feed_31 rfl ?_
    refine ev_iload_n (pc := 32) dX11_feed_32 rfl ?_
    refine ev_lshr (pc := 33) dX11_feed_33 ?_
    refine ev_l2i (pc := 34) dX11_feed_34 ?_
    refine ev_sipush (pc := 35) (v := 255) dX11_feed_35 (by decide) ?_
    refine ev_iand (pc := 38) dX11_feed_38 ?_
    refine ev_iast (pc := 39) dX11_feed_39 rfl (wlt (wf_sI (wf_sI hw)) (by decide)) (vp_in_nI (by have z1 := (nI_leI (a := zq + 8) (b := 400) (by omega) (by decide)).mp zc10; omega) (by decide)) ?_
    refine ev_eqH (h' := sI (sI h 50 (upd (upd (upd (upd (upd (h.2.1 50) zq ((Int64.toInt32 (zv >>> (Int32.toInt64 56 &&& 63))) &&& 255)) (zq + 1) ((Int64.toInt32 (zv >>> (Int32.toInt64 48 &&& 63))) &&& 255)) ((zq + 1) + 1) ((Int64.toInt32 (zv >>> (Int32.toInt64 40 &&& 63))) &&& 255)) (((zq + 1) + 1) + 1) ((Int64.toInt32 (zv >>> (Int32.toInt64 32 &&& 63))) &&& 255)) ((((zq + 1) + 1) + 1) + 1) ((Int64.toInt32 (zv >>> (Int32.toInt64 24 &&& 63))) &&& 255))) 49 (upd (h.2.1 49) 1 (nI ((((zq + 1) + 1) + 1) + 1)))) (by rw [show Int32.toNatClampNeg (nI ((((zq + 1) + 1) + 1) + 1)) = (((zq + 1) + 1) + 1) + 1 from nI_clamp (by omega)]; exact sI_dp _ (by decide) _ _ _) ?_
    refine ev_aload_n (pc := 40) dX11_feed_40 rfl ?_
    refine ev_dup (pc := 41) dX11_feed_41 rfl ?_
    refine ev_getI (pc := 42) dX11_feed_42 fX11_93 rfl (wlt (wf_sI (wf_sI hw)) (by decide)) ?_
    refine ev_eqI (e' := nI ((((zq + 1) + 1) + 1) + 1)) (by rfl) ?_
    refine ev_iconst (pc := 45) (v := 1) dX11_feed_45 (by decide) ?_
    refine ev_iadd (pc := 46) dX11_feed_46 ?_
    refine ev_eqI (e' := nI (((((zq + 1) + 1) + 1) + 1) + 1)) (nI_add ((((zq + 1) + 1) + 1) + 1) 1) ?_
    refine ev_putI (pc := 47) dX11_feed_47 fX11_93 rfl (wlt (wf_sI (wf_sI hw)) (by decide)) ?_
    refine ev_eqH (h' := sI (sI h 50 (upd (upd (upd (upd (upd (h.2.1 50) zq ((Int64.toInt32 (zv >>> (Int32.toInt64 56 &&& 63))) &&& 255)) (zq + 1) ((Int64.toInt32 (zv >>> (Int32.toInt64 48 &&& 63))) &&& 255)) ((zq + 1) + 1) ((Int64.toInt32 (zv >>> (Int32.toInt64 40 &&& 63))) &&& 255)) (((zq + 1) + 1) + 1) ((Int64.toInt32 (zv >>> (Int32.toInt64 32 &&& 63))) &&& 255)) ((((zq + 1) + 1) + 1) + 1) ((Int64.toInt32 (zv >>> (Int32.toInt64 24 &&& 63))) &&& 255))) 49 (upd (h.2.1 49) 1 (nI (((((zq + 1) + 1) + 1) + 1) + 1)))) (by refine (sI_sI _ _ _ _).trans ?_; refine congrArg _ (funext fun zj => ?_); simp only [upd, vp_updL, sI_at]; (repeat' split) <;> first | rfl | (exfalso; omega)) ?_
    refine ev_iinc (pc := 50) (v := 16) (L' := [some (.ref 49), some (.long zv), none, some (.int 16)]) dX11_feed_50 rfl (by decide) (Nat.le_of_ble_eq_true rfl) rfl ?_
    refine ev_goto (pc := 53) (tgt := 19) dX11_feed_53 (by decide) ?_
    refine ev_iload_n (pc := 19) dX11_feed_19 rfl ?_
    refine ev_if_lt (pc := 20) (tgt := 56) dX11_feed_20 (by decide) (fun zc20 => absurd zc20 (by decide)) (fun zc20 => ?_)
    refine ev_aload_n (pc := 23) dX11_feed_23 rfl ?_
    refine ev_getR (pc := 24) (q := 50) dX11_feed_24 fX11_7 rfl (wlt (wf_sI (wf_sI hw)) (by decide)) (wr (wf_sI (wf_sI hw)) rfl) ?_
    refine ev_aload_n (pc := 27) dX11_feed_27 rfl ?_
    refine ev_getI (pc := 28) dX11_feed_28 fX11_93 rfl (wlt (wf_sI (wf_sI hw)) (by decide)) ?_
    refine ev_eqI (e' := nI (((((zq + 1) + 1) + 1) + 1) + 1)) (by rfl) ?_
    refine ev_lload_n (pc := 31) dX11_feed_31 rfl ?_
    refine ev_iload_n (pc := 32) dX11_feed_32 rfl ?_
    refine ev_lshr (pc := 33) dX11_feed_33 ?_
    refine ev_l2i (pc := 34) dX11_feed_34 ?_
    refine ev_sipush (pc := 35) (v := 255) dX11_feed_35 (by decide) ?_
    refine ev_iand (pc := 38) dX11_feed_38 ?_
    refine ev_iast (pc := 39) dX11_feed_39 rfl (wlt (wf_sI (wf_sI hw)) (by decide)) (vp_in_nI (by have z1 := (nI_leI (a := zq + 8) (b := 400) (by omega) (by decide)).mp zc10; omega) (by decide)) ?_
    refine ev_eqH (h' := sI (sI h 50 (upd (upd (upd (upd (upd (upd (h.2.1 50) zq ((Int64.toInt32 (zv >>> (Int32.toInt64 56 &&& 63))) &&& 255)) (zq + 1) ((Int64.toInt32 (zv >>> (Int32.toInt64 48 &&& 63))) &&& 255)) ((zq + 1) + 1) ((Int64.toInt32 (zv >>> (Int32.toInt64 40 &&& 63))) &&& 255)) (((zq + 1) + 1) + 1) ((Int64.toInt32 (zv >>> (Int32.toInt64 32 &&& 63))) &&& 255)) ((((zq + 1) + 1) + 1) + 1) ((Int64.toInt32 (zv >>> (Int32.toInt64 24 &&& 63))) &&& 255)) (((((zq + 1) + 1) + 1) + 1) + 1) ((Int64.toInt32 (zv >>> (Int32.toInt64 16 &&& 63))) &&& 255))) 49 (upd (h.2.1 49) 1 (nI (((((zq + 1) + 1) + 1) + 1) + 1)))) (by rw [show Int32.toNatClampNeg (nI (((((zq + 1) + 1) + 1) + 1) + 1)) = ((((zq + 1) + 1) + 1) + 1) + 1 from nI_clamp (by omega)]; exact sI_dp _ (by decide) _ _ _) ?_
    refine ev_aload_n (pc := 40) dX11_feed_40 rfl ?_
    refine ev_dup (pc := 41) dX11_feed_41 rfl ?_
    refine ev_getI (pc := 42) dX11_feed_42 fX11_93 rfl (wlt (wf_sI (wf_sI hw)) (by decide)) ?_
    refine ev_eqI (e' := nI (((((zq + 1) + 1) + 1) + 1) + 1)) (by rfl) ?_
    refine ev_iconst (pc := 45) (v := 1) dX11_feed_45 (by decide) ?_
    refine ev_iadd (pc := 46) dX11_feed_46 ?_
    refine ev_eqI (e' := nI ((((((zq + 1) + 1) + 1) + 1) + 1) + 1)) (nI_add (((((zq + 1) + 1) + 1) + 1) + 1) 1) ?_
    refine ev_putI (pc := 47) dX11_feed_47 fX11_93 rfl (wlt (wf_sI (wf_sI hw)) (by decide)) ?_
    refine ev_eqH (h' := sI (sI h 50 (upd (upd (upd (upd (upd (upd (h.2.1 50) zq ((Int64.toInt32 (zv >>> (Int32.toInt64 56 &&& 63))) &&& 255)) (zq + 1) ((Int64.toInt32 (zv >>> (Int32.toInt64 48 &&& 63))) &&& 255)) ((zq + 1) + 1) ((Int64.toInt32 (zv >>> (Int32.toInt64 40 &&& 63))) &&& 255)) (((zq + 1) + 1) + 1) ((Int64.toInt32 (zv >>> (Int32.toInt64 32 &&& 63))) &&& 255)) ((((zq + 1) + 1) + 1) + 1) ((Int64.toInt32 (zv >>> (Int32.toInt64 24 &&& 63))) &&& 255)) (((((zq + 1) + 1) + 1) + 1) + 1) ((Int64.toInt32 (zv >>> (Int32.toInt64 16 &&& 63))) &&& 255))) 49 (upd (h.2.1 49) 1 (nI ((((((zq + 1) + 1) + 1) + 1) + 1) + 1)))) (by refine (sI_sI _ _ _ _).trans ?_; refine congrArg _ (funext fun zj => ?_); simp only [upd, vp_updL, sI_at]; (repeat' split) <;> first | rfl | (exfalso; omega)) ?_
    refine ev_iinc (pc := 50) (v := 8) (L' := [some (.ref 49), some (.long zv), none, some (.int 8)]) dX11_feed_50 rfl (by decide) (Nat.le_of_ble_eq_true rfl) rfl ?_
    refine ev_goto (pc := 53) (tgt := 19) dX11_feed_53 (by decide) ?_
    refine ev_iload_n (pc := 19) dX11_feed_19 rfl ?_
    refine ev_if_lt (pc := 20) (tgt := 56) dX11_feed_20 (by decide) (fun zc20 => absurd zc20 (by decide)) (fun zc20 => ?_)
    refine ev_aload_n (pc := 23) dX11_feed_23 rfl ?_
    refine ev_getR (pc := 24) (q := 50) dX11_feed_24 fX11_7 rfl (wlt (wf_sI (wf_sI hw)) (by decide)) (wr (wf_sI (wf_sI hw)) rfl) ?_
    refine ev_aload_n (pc := 27) dX11_feed_27 rfl ?_
    refine ev_getI (pc := 28) dX11_feed_28 fX11_93 rfl (wlt (wf_sI (wf_sI hw)) (by decide)) ?_
    refine ev_eqI (e' := nI ((((((zq + 1) + 1) + 1) + 1) + 1) + 1)) (by rfl) ?_
    refine ev_lload_n (pc := 31) dX11_feed_31 rfl ?_
    refine ev_iload_n (pc := 32) dX11_feed_32 rfl ?_
    refine ev_lshr (pc := 33) dX11_feed_33 ?_
    refine ev_l2i (pc := 34) dX11_feed_34 ?_
    refine ev_sipush (pc := 35) (v := 255) dX11_feed_35 (by decide) ?_
    refine ev_iand (pc := 38) dX11_feed_38 ?_
    refine ev_iast (pc := 39) dX11_feed_39 rfl (wlt (wf_sI (wf_sI hw)) (by decide)) (vp_in_nI (by have z1 := (nI_leI (a := zq + 8) (b := 400) (by omega) (by decide)).mp zc10; omega) (by decide)) ?_
    refine ev_eqH (h' := sI (sI h 50 (upd (upd (upd (upd (upd (upd (upd (h.2.1 50) zq ((Int64.toInt32 (zv >>> (Int32.toInt64 56 &&& 63))) &&& 255)) (zq + 1) ((Int64.toInt32 (zv >>> (Int32.toInt64 48 &&& 63))) &&& 255)) ((zq + 1) + 1) ((Int64.toInt32 (zv >>> (Int32.toInt64 40 &&& 63))) &&& 255)) (((zq + 1) + 1) + 1) ((Int64.toInt32 (zv >>> (Int32.toInt64 32 &&& 63))) &&& 255)) ((((zq + 1) + 1) + 1) + 1) ((Int64.toInt32 (zv >>> (Int32.toInt64 24 &&& 63))) &&& 255)) (((((zq + 1) + 1) + 1) + 1) + 1) ((Int64.toInt32 (zv >>> (Int32.toInt64 16 &&& 63))) &&& 255)) ((((((zq + 1) + 1) + 1) + 1) + 1) + 1) ((Int64.toInt32 (zv >>> (Int32.toInt64 8 &&& 63))) &&& 255))) 49 (upd (h.2.1 49) 1 (nI ((((((zq + 1) + 1) + 1) + 1) + 1) + 1)))) (by rw [show Int32.toNatClampNeg (nI ((((((zq + 1) + 1) + 1) + 1) + 1) + 1)) = (((((zq + 1) + 1) + 1) + 1) + 1) + 1 from nI_clamp (by omega)]; exact sI_dp _ (by decide) _ _ _) ?_
    refine ev_aload_n (pc := 40) dX11_feed_40 rfl ?_
    refine ev_dup (pc := 41) dX11_feed_41 rfl ?_
    refine ev_getI (pc := 42) dX11_feed_42 fX11_93 rfl (wlt (wf_sI (wf_sI hw)) (by decide)) ?_
    refine ev_eqI (e' := nI ((((((zq + 1) + 1) + 1) + 1) + 1) + 1)) (by rfl) ?_
    refine ev_iconst (pc := 45) (v := 1) dX11_feed_45 (by decide) ?_
    refine ev_iadd (pc := 46) dX11_feed_46 ?_
    refine ev_eqI (e' := nI (((((((zq + 1) + 1) + 1) + 1) + 1) + 1) + 1)) (nI_add ((((((zq + 1) + 1) + 1) + 1) + 1) + 1) 1) ?_
    refine ev_putI (pc := 47) dX11_feed_47 fX11_93 rfl (wlt (wf_sI (wf_sI hw)) (by decide)) ?_
    refine ev_eqH (h' := sI (sI h 50 (upd (upd (upd (upd (upd (upd (upd (h.2.1 50) zq ((Int64.toInt32 (zv >>> (Int32.toInt64 56 &&& 63))) &&& 255)) (zq + 1) ((Int64.toInt32 (zv >>> (Int32.toInt64 48 &&& 63))) &&& 255)) ((zq + 1) + 1) ((Int64.toInt32 (zv >>> (Int32.toInt64 40 &&& 63))) &&& 255)) (((zq + 1) + 1) + 1) ((Int64.toInt32 (zv >>> (Int32.toInt64 32 &&& 63))) &&& 255)) ((((zq + 1) + 1) + 1) + 1) ((Int64.toInt32 (zv >>> (Int32.toInt64 24 &&& 63))) &&& 255)) (((((zq + 1) + 1) + 1) + 1) + 1) ((Int64.toInt32 (zv >>> (Int32.toInt64 16 &&& 63))) &&& 255)) ((((((zq + 1) + 1) + 1) + 1) + 1) + 1) ((Int64.toInt32 (zv >>> (Int32.toInt64 8 &&& 63))) &&& 255))) 49 (upd (h.2.1 49) 1 (nI (((((((zq + 1) + 1) + 1) + 1) + 1) + 1) + 1)))) (by refine (sI_sI _ _ _ _).trans ?_; refine congrArg _ (funext fun zj => ?_); simp only [upd, vp_updL, sI_at]; (repeat' split) <;> first | rfl | (exfalso; omega)) ?_
    refine ev_iinc (pc := 50) (v := 0) (L' := [some (.ref 49), some (.long zv), none, some (.int 0)]) dX11_feed_50 rfl (by decide) (Nat.le_of_ble_eq_true rfl) rfl ?_
    refine ev_goto (pc := 53) (tgt := 19) dX11_feed_53 (by decide) ?_
    refine ev_iload_n (pc := 19) dX11_feed_19 rfl ?_
    refine ev_if_lt (pc := 20) (tgt := 56) dX11_feed_20 (by decide) (fun zc20 => absurd zc20 (by decide)) (fun zc20 => ?_)
    refine ev_aload_n (pc := 23) dX11_feed_23 rfl ?_
    refine ev_getR (pc := 24) (q := 50) dX11_feed_24 fX11_7 rfl (wlt (wf_sI (wf_sI hw)) (by decide)) (wr (wf_sI (wf_sI hw)) rfl) ?_
    refine ev_aload_n (pc := 27) dX11_feed_27 rfl ?_
    refine ev_getI (pc := 28) dX11_feed_28 fX11_93 rfl (wlt (wf_sI (wf_sI hw)) (by decide)) ?_
    refine ev_eqI (e' := nI (((((((zq + 1) + 1) + 1) + 1) + 1) + 1) + 1)) (by rfl) ?_
    refine ev_lload_n (pc := 31) dX11_feed_31 rfl ?_
    refine ev_iload_n (pc := 32) dX11_feed_32 rfl ?_
    refine ev_lshr (pc := 33) dX11_feed_33 ?_
    refine ev_l2i (pc := 34) dX11_feed_34 ?_
    refine ev_sipush (pc := 35) (v := 255) dX11_feed_35 (by decide) ?_
    refine ev_iand (pc := 38) dX11_feed_38 ?_
    refine ev_iast (pc := 39) dX11_feed_39 rfl (wlt (wf_sI (wf_sI hw)) (by decide)) (vp_in_nI (by have z1 := (nI_leI (a := zq + 8) (b := 400) (by omega) (by decide)).mp zc10; omega) (by decide)) ?_
    refine ev_eqH (h' := sI (sI h 50 (upd (upd (upd (upd (upd (upd (upd (upd (h.2.1 50) zq ((Int64.toInt32 (zv >>> (Int32.toInt64 56 &&& 63))) &&& 255)) (zq + 1) ((Int64.toInt32 (zv >>> (Int32.toInt64 48 &&& 63))) &&& 255)) ((zq + 1) + 1) ((Int64.toInt32 (zv >>> (Int32.toInt64 40 &&& 63))) &&& 255)) (((zq + 1) + 1) + 1) ((Int64.toInt32 (zv >>> (Int32.toInt64 32 &&& 63))) &&& 255)) ((((zq + 1) + 1) + 1) + 1) ((Int64.toInt32 (zv >>> (Int32.toInt64 24 &&& 63))) &&& 255)) (((((zq + 1) + 1) + 1) + 1) + 1) ((Int64.toInt32 (zv >>> (Int32.toInt64 16 &&& 63))) &&& 255)) ((((((zq + 1) + 1) + 1) + 1) + 1) + 1) ((Int64.toInt32 (zv >>> (Int32.toInt64 8 &&& 63))) &&& 255)) (((((((zq + 1) + 1) + 1) + 1) + 1) + 1) + 1) ((Int64.toInt32 (zv >>> (Int32.toInt64 0 &&& 63))) &&& 255))) 49 (upd (h.2.1 49) 1 (nI (((((((zq + 1) + 1) + 1) + 1) + 1) + 1) + 1)))) (by rw [show Int32.toNatClampNeg (nI (((((((zq + 1) + 1) + 1) + 1) + 1) + 1) + 1)) = ((((((zq + 1) + 1) + 1) + 1) + 1) + 1) + 1 from nI_clamp (by omega)]; exact sI_dp _ (by decide) _ _ _) ?_
    refine ev_aload_n (pc := 40) dX11_feed_40 rfl ?_
    refine ev_dup (pc := 41) dX11_feed_41 rfl ?_
    refine ev_getI (pc := 42) dX11_feed_42 fX11_93 rfl (wlt (wf_sI (wf_sI hw)) (by decide)) ?_
    refine ev_eqI (e' := nI (((((((zq + 1) + 1) + 1) + 1) + 1) + 1) + 1)) (by rfl) ?_
    refine ev_iconst (pc := 45) (v := 1) dX11_feed_45 (by decide) ?_
    refine ev_iadd (pc := 46) dX11_feed_46 ?_
    refine ev_eqI (e' := nI ((((((((zq + 1) + 1) + 1) + 1) + 1) + 1) + 1) + 1)) (nI_add (((((((zq + 1) + 1) + 1) + 1) + 1) + 1) + 1) 1) ?_
    refine ev_putI (pc := 47) dX11_feed_47 fX11_93 rfl (wlt (wf_sI (wf_sI hw)) (by decide)) ?_
    refine ev_eqH (h' := sI (sI h 50 (upd (upd (upd (upd (upd (upd (upd (upd (h.2.1 50) zq ((Int64.toInt32 (zv >>> (Int32.toInt64 56 &&& 63))) &&& 255)) (zq + 1) ((Int64.toInt32 (zv >>> (Int32.toInt64 48 &&& 63))) &&& 255)) ((zq + 1) + 1) ((Int64.toInt32 (zv >>> (Int32.toInt64 40 &&& 63))) &&& 255)) (((zq + 1) + 1) + 1) ((Int64.toInt32 (zv >>> (Int32.toInt64 32 &&& 63))) &&& 255)) ((((zq + 1) + 1) + 1) + 1) ((Int64.toInt32 (zv >>> (Int32.toInt64 24 &&& 63))) &&& 255)) (((((zq + 1) + 1) + 1) + 1) + 1) ((Int64.toInt32 (zv >>> (Int32.toInt64 16 &&& 63))) &&& 255)) ((((((zq + 1) + 1) + 1) + 1) + 1) + 1) ((Int64.toInt32 (zv >>> (Int32.toInt64 8 &&& 63))) &&& 255)) (((((((zq + 1) + 1) + 1) + 1) + 1) + 1) + 1) ((Int64.toInt32 (zv >>> (Int32.toInt64 0 &&& 63))) &&& 255))) 49 (upd (h.2.1 49) 1 (nI ((((((((zq + 1) + 1) + 1) + 1) + 1) + 1) + 1) + 1)))) (by refine (sI_sI _ _ _ _).trans ?_; refine congrArg _ (funext fun zj => ?_); simp only [upd, vp_updL, sI_at]; (repeat' split) <;> first | rfl | (exfalso; omega)) ?_
    refine ev_iinc (pc := 50) (v := (-8)) (L' := [some (.ref 49), some (.long zv), none, some (.int ((-8)))]) dX11_feed_50 rfl (by decide) (Nat.le_of_ble_eq_true rfl) rfl ?_
    refine ev_goto (pc := 53) (tgt := 19) dX11_feed_53 (by decide) ?_
    refine ev_iload_n (pc := 19) dX11_feed_19 rfl ?_
    refine ev_if_lt (pc := 20) (tgt := 56) dX11_feed_20 (by decide) (fun zc20 => ?_) (fun zc20 => absurd (by decide) zc20)
    refine ev_aload_n (pc := 56) dX11_feed_56 rfl ?_
    refine ev_getI (pc := 57) dX11_feed_57 fX11_93 rfl (wlt (wf_sI (wf_sI hw)) (by decide)) ?_
    refine ev_eqI (e' := nI ((((((((zq + 1) + 1) + 1) + 1) + 1) + 1) + 1) + 1)) (by rfl) ?_
    refine ev_iret (pc := 60) dX11_feed_60 rfl ?_ ?_
    · rfl
    · have z1 := (nI_leI (a := zq + 8) (b := 400) (by omega) (by decide)).mp zc10
      rw [if_pos z1, if_pos z1]
      exact ⟨rfl, rfl⟩
  · -- le at 10: not taken
    refine ev_bipush (pc := 13) (v := (-3)) dX11_feed_13 (by decide) ?_
    refine ev_iret (pc := 15) dX11_feed_15 rfl ?_ ?_
    · rfl
    · have z1 := fun z => zc10 ((nI_leI (a := zq + 8) (b := 400) (by omega) (by decide)).mpr z)
      rw [if_neg z1, if_neg z1]
      exact ⟨rfl, rfl⟩
