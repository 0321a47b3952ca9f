def ftQ (zl zk zs : Nat) : Nat := (zl + zk + zs - 1) / (zk + zs)
def ftU (zl zk zs zm : Nat) : Nat := if zl - zm * zk = 0 then 0 else (zl - zm * zk + zs - 1) / zs
def ftV (zl zk zs : Nat) (zm : Nat) (zv : Nat) : Int32 := if ftQ zl zk zs ≤ zm then nI zv else -4
theorem ftQ_iff {zl zk zs zm : Nat} (hk : 0 < zk) (hl : 0 < zl) : ftQ zl zk zs ≤ zm ↔ zl ≤ zm * zk + zm * zs := by
  unfold ftQ
  rw [← Nat.lt_succ_iff, Nat.div_lt_iff_lt_mul (by omega), Nat.succ_mul, Nat.mul_add]
  omega
theorem ftV_n {zl zk zs zm zv : Nat} (hv : zv < 2 ^ 31) : ftV zl zk zs zm zv = -4 ↔ ¬ ftQ zl zk zs ≤ zm := by
  unfold ftV
  by_cases h : ftQ zl zk zs ≤ zm
  · rw [if_pos h]
    refine ⟨fun z => ?_, fun z => absurd h z⟩
    have h1 := congrArg Int32.toInt z
    rw [nI_toInt hv] at h1
    have h2 : (-4 : Int32).toInt = -4 := by decide
    omega
  · rw [if_neg h]; exact ⟨fun _ => h, fun _ => rfl⟩
theorem ftU_mono {zl zk zs zm : Nat} (hk : 0 < zk) (h : (zm + 1) * zk ≤ zl) : ftU zl zk zs (zm + 1) ≤ ftU zl zk zs zm := by
  unfold ftU
  rw [Nat.succ_mul] at *
  by_cases h1 : zl - (zm * zk + zk) = 0
  · rw [if_pos h1]; exact Nat.zero_le _
  · rw [if_neg h1, if_neg (by omega)]
    exact Nat.div_le_div_right (by omega)
theorem ftU_lt (zl zk zs zm : Nat) (hl : zl ≤ 999) (hs : zs ≤ 9) : ftU zl zk zs zm < 2000 := by
  unfold ftU
  split
  · decide
  · exact Nat.lt_of_le_of_lt (Nat.div_le_self _ _) (by omega)
theorem ft_no {zl zk zs zm zv zw : Nat} (hk : 0 < zk) (hl : 0 < zl) (h : ¬ zl ≤ (zm + 1) * zk + (zm + 1) * zs) : ftV zl zk zs (zm + 1) zv = ftV zl zk zs zm zw := by
  unfold ftV
  rw [if_neg (fun z => h ((ftQ_iff hk hl).mp z)), if_neg (fun z => h ((ftQ_iff hk hl).mp (Nat.le_succ_of_le z)))]
theorem ft_yM {zl zk zs zm zv : Nat} (hk : 0 < zk) (hl : 0 < zl) (h : zl ≤ (zm + 1) * zk + (zm + 1) * zs) : ftV zl zk zs (zm + 1) zv = nI zv := by
  unfold ftV
  rw [if_pos ((ftQ_iff hk hl).mpr h)]
theorem ft_yL1 {zl zk zs zm : Nat} (hk : 0 < zk) (hl : 0 < zl) (h : zl ≤ (zm + 1) * zk + (zm + 1) * zs) (h2 : ¬ ftQ zl zk zs ≤ zm) : ftV zl zk zs (zm + 1) (ftQ zl zk zs) = nI (zm + 1) := by
  rw [ft_yM hk hl h]
  have := (ftQ_iff hk hl).mpr h
  congr 1
  omega
theorem ft_yes {zl zk zs zm : Nat} (hk : 0 < zk) (hl : 0 < zl) (h2 : ftQ zl zk zs ≤ zm) (zv : Nat) : ftV zl zk zs zm zv = nI zv := by
  unfold ftV
  rw [if_pos h2]
theorem lp_fits_66 (E : ME) (h : AH) (zl zk zs : Nat) (zv : Int32) (hw : WF h) (hl1 : 0 < zl) (hl2 : zl ≤ 999) (hk1 : 0 < zk) (hk2 : zk ≤ 99) (hs2 : zs ≤ 9) {post : PO} (K : Ev E mX11_fits (rmm 1 0 0) (QM E 0 0 post) 0 0 159 [some (.ref 49), some (.int (nI zl)), some (.int (nI zk)), some (.int (nI zs)), some (.int zv), some (.int (ftV zl zk zs (zl / zk) (zl / zk))), some (.int (ftV zl zk zs (zl / zk) (ftQ zl zk zs))), some (.int (ftV zl zk zs (zl / zk) (ftU zl zk zs (zl / zk)))), some (.int (nI ((zl / zk) + 1))), none, none] [] h) : ∀ n i : Nat, i + n = (zl / zk) → Ev E mX11_fits (rmm 1 0 0) (QM E 0 0 post) 0 0 66 [some (.ref 49), some (.int (nI zl)), some (.int (nI zk)), some (.int (nI zs)), some (.int zv), some (.int (ftV zl zk zs i i)), some (.int (ftV zl zk zs i (ftQ zl zk zs))), some (.int (ftV zl zk zs i (ftU zl zk zs i))), some (.int (nI (i + 1))), none, none] [] h := by
  intro n
  induction n with
  | zero =>
    intro i hi
    obtain rfl : (zl / zk) = i := by omega
    have zmk : zl < (zl / zk + 1) * zk := by
      have z1 := Nat.lt_div_mul_add (a := zl) hk1
      rw [Nat.succ_mul]
      omega
    have zmk2 : (zl / zk + 1) * zk ≤ 1200 := by
      have z2 := Nat.div_mul_le_self zl zk
      rw [Nat.succ_mul]
      omega
    refine ev_iload (pc := 66) dX11_fits_66 rfl ?_
    refine ev_iload_n (pc := 68) dX11_fits_68 rfl ?_
    refine ev_imul (pc := 69) dX11_fits_69 ?_
    refine ev_eqI (e' := nI (((zl / zk) + 1) * zk)) (pk_mul ((zl / zk) + 1) zk) ?_
    refine ev_iload_n (pc := 70) dX11_fits_70 rfl ?_
    refine ev_icmp_gt (pc := 71) (tgt := 159) dX11_fits_71 (by decide) (fun zc71 => ?_) (fun zc71 => absurd ((nI_ltI (by omega) (by omega)).mpr zmk) zc71)
    exact K
  | succ n ih =>
    intro i hi
    have hlt : i < (zl / zk) := by omega
    have zmk : (i + 1) * zk ≤ zl := by
      have z1 := Nat.mul_le_mul_right zk (show i + 1 ≤ zl / zk by omega)
      have z2 := Nat.div_mul_le_self zl zk
      omega
    have zms : (i + 1) * zs ≤ 9000 := by
      have z1 : i + 1 ≤ (i + 1) * zk := Nat.le_mul_of_pos_right _ hk1
      have z2 := Nat.mul_le_mul (show i + 1 ≤ 999 by omega) hs2
      omega
    have zLb : ftQ zl zk zs < 2 ^ 31 := by
      have z1 : ftQ zl zk zs ≤ zl + zk + zs - 1 := Nat.div_le_self _ _
      omega
    refine ev_iload (pc := 66) dX11_fits_66 rfl ?_
    refine ev_iload_n (pc := 68) dX11_fits_68 rfl ?_
    refine ev_imul (pc := 69) dX11_fits_69 ?_
    refine ev_eqI (e' := nI ((i + 1) * zk)) (pk_mul (i + 1) zk) ?_
    refine ev_iload_n (pc := 70) dX11_fits_70 rfl ?_
    refine ev_icmp_gt (pc := 71) (tgt := 159) dX11_fits_71 (by decide) (fun zc71 => absurd zc71 (fun z => by have z1 := (nI_ltI (by omega) (by omega)).mp z; omega)) (fun zc71 => ?_)
    refine ev_iload_n (pc := 74) dX11_fits_74 rfl ?_
    refine ev_iload (pc := 75) dX11_fits_75 rfl ?_
    refine ev_iload_n (pc := 77) dX11_fits_77 rfl ?_
    refine ev_imul (pc := 78) dX11_fits_78 ?_
    refine ev_eqI (e' := nI ((i + 1) * zk)) (pk_mul (i + 1) zk) ?_
    refine ev_isub (pc := 79) dX11_fits_79 ?_
    refine ev_eqI (e' := nI (zl - ((i + 1) * zk))) (pk_sub (a := zl) (b := (i + 1) * zk) (by omega)) ?_
    refine ev_istore (pc := 80) (L' := [some (.ref 49), some (.int (nI zl)), some (.int (nI zk)), some (.int (nI zs)), some (.int zv), some (.int (ftV zl zk zs i i)), some (.int (ftV zl zk zs i (ftQ zl zk zs))), some (.int (ftV zl zk zs i (ftU zl zk zs i))), some (.int (nI (i + 1))), some (.int (nI (zl - ((i + 1) * zk)))), none]) dX11_fits_80 (Nat.le_of_ble_eq_true rfl) rfl ?_
    refine ev_iload (pc := 82) dX11_fits_82 rfl ?_
    refine ev_iload (pc := 84) dX11_fits_84 rfl ?_
    refine ev_iload_n (pc := 86) dX11_fits_86 rfl ?_
    refine ev_imul (pc := 87) dX11_fits_87 ?_
    refine ev_eqI (e' := nI ((i + 1) * zs)) (pk_mul (i + 1) zs) ?_
    refine ev_icmp_gt (pc := 88) (tgt := 153) dX11_fits_88 (by decide) (fun zc88 => ?_) (fun zc88 => ?_)
    · -- gt at 88: taken
      refine ev_iinc (pc := 153) (v := nI (i + 1 + 1)) (L' := [some (.ref 49), some (.int (nI zl)), some (.int (nI zk)), some (.int (nI zs)), some (.int zv), some (.int (ftV zl zk zs i i)), some (.int (ftV zl zk zs i (ftQ zl zk zs))), some (.int (ftV zl zk zs i (ftU zl zk zs i))), some (.int (nI (i + 1 + 1))), some (.int (nI (zl - ((i + 1) * zk)))), none]) dX11_fits_153 rfl (nI_1 _) (Nat.le_of_ble_eq_true rfl) rfl ?_
      refine ev_goto (pc := 156) (tgt := 66) dX11_fits_156 (by decide) ?_
      have z9 : ¬ zl ≤ (i + 1) * zk + (i + 1) * zs := by
        have z1 := (nI_ltI (by omega) (by omega)).mp zc88
        omega
      refine ev_less (L' := [some (.ref 49), some (.int (nI zl)), some (.int (nI zk)), some (.int (nI zs)), some (.int zv), some (.int (ftV zl zk zs i i)), some (.int (ftV zl zk zs i (ftQ zl zk zs))), some (.int (ftV zl zk zs i (ftU zl zk zs i))), some (.int (nI (i + 1 + 1))), none, none]) (ls_keep (ls_keep (ls_keep (ls_keep (ls_keep (ls_keep (ls_keep (ls_keep (ls_keep (ls_drop (ls_keep (ls_nil _)))))))))))) ?_
      refine ev_eqL (L' := [some (.ref 49), some (.int (nI zl)), some (.int (nI zk)), some (.int (nI zs)), some (.int zv), some (.int (ftV zl zk zs (i + 1) (i + 1))), some (.int (ftV zl zk zs (i + 1) (ftQ zl zk zs))), some (.int (ftV zl zk zs (i + 1) (ftU zl zk zs (i + 1)))), some (.int (nI ((i + 1) + 1))), none, none]) (by rw [ft_no (zw := i) hk1 hl1 z9, ft_no (zw := ftQ zl zk zs) hk1 hl1 z9, ft_no (zw := ftU zl zk zs i) hk1 hl1 z9]; try rfl) ?_
      exact ih (i + 1) (by omega)
    · -- gt at 88: not taken
      have z88 : zl - (i + 1) * zk ≤ (i + 1) * zs := Nat.not_lt.mp (fun z => zc88 ((nI_ltI (a := (i + 1) * zs) (b := zl - (i + 1) * zk) (by omega) (by omega)).mpr z))
      refine ev_iload (pc := 91) dX11_fits_91 rfl ?_
      refine ev_istore (pc := 93) (L' := [some (.ref 49), some (.int (nI zl)), some (.int (nI zk)), some (.int (nI zs)), some (.int zv), some (.int (nI (i + 1))), some (.int (ftV zl zk zs i (ftQ zl zk zs))), some (.int (ftV zl zk zs i (ftU zl zk zs i))), some (.int (nI (i + 1))), some (.int (nI (zl - ((i + 1) * zk)))), none]) dX11_fits_93 (Nat.le_of_ble_eq_true rfl) rfl ?_
      refine ev_iload (pc := 95) dX11_fits_95 rfl ?_
      refine ev_bipush (pc := 97) (v := (-4)) dX11_fits_97 (by decide) ?_
      refine ev_icmp_ne (pc := 99) (tgt := 107) dX11_fits_99 (by decide) (fun zc99 => ?_) (fun zc99 => ?_)
      · -- ne at 99: taken
        refine ev_iload (pc := 107) dX11_fits_107 rfl ?_
        refine ev_istore (pc := 109) (L' := [some (.ref 49), some (.int (nI zl)), some (.int (nI zk)), some (.int (nI zs)), some (.int zv), some (.int (nI (i + 1))), some (.int (ftV zl zk zs i (ftQ zl zk zs))), some (.int (ftV zl zk zs i (ftU zl zk zs i))), some (.int (nI (i + 1))), some (.int (nI (zl - ((i + 1) * zk)))), none]) dX11_fits_109 (Nat.le_of_ble_eq_true rfl) rfl ?_
        refine ev_iload (pc := 111) dX11_fits_111 rfl ?_
        refine ev_if_ne (pc := 113) (tgt := 120) dX11_fits_113 (by decide) (fun zc113 => ?_) (fun zc113 => ?_)
        · -- ne at 113: taken
          have z113 : zl - (i + 1) * zk ≠ 0 := fun z => zc113 (by rw [z]; rfl)
          have zs1 : 0 < zs := Nat.pos_of_ne_zero (fun z => by rw [z, Nat.mul_zero] at z88; omega)
          refine ev_iload (pc := 120) dX11_fits_120 rfl ?_
          refine ev_iload_n (pc := 122) dX11_fits_122 rfl ?_
          refine ev_iadd (pc := 123) dX11_fits_123 ?_
          refine ev_eqI (e' := nI ((zl - ((i + 1) * zk)) + zs)) (nI_add (zl - ((i + 1) * zk)) zs) ?_
          refine ev_iconst (pc := 124) (v := 1) dX11_fits_124 (by decide) ?_
          refine ev_isub (pc := 125) dX11_fits_125 ?_
          refine ev_eqI (e' := nI (zl - (i + 1) * zk + zs - 1)) (pk_sub (a := zl - (i + 1) * zk + zs) (b := 1) (by omega)) ?_
          refine ev_iload_n (pc := 126) dX11_fits_126 rfl ?_
          refine ev_idiv (pc := 127) dX11_fits_127 (nI_ne0 zs1 (by omega)) ?_
          refine ev_eqI (e' := nI ((zl - (i + 1) * zk + zs - 1) / zs)) (pk_div (by omega) zs1 (by omega)) ?_
          refine ev_istore (pc := 128) (L' := [some (.ref 49), some (.int (nI zl)), some (.int (nI zk)), some (.int (nI zs)), some (.int zv), some (.int (nI (i + 1))), some (.int (ftV zl zk zs i (ftQ zl zk zs))), some (.int (ftV zl zk zs i (ftU zl zk zs i))), some (.int (nI (i + 1))), some (.int (nI (zl - ((i + 1) * zk)))), some (.int (nI ((zl - (i + 1) * zk + zs - 1) / zs)))]) dX11_fits_128 (Nat.le_of_ble_eq_true rfl) rfl ?_
          refine ev_iload (pc := 130) dX11_fits_130 rfl ?_
          refine ev_bipush (pc := 132) (v := (-4)) dX11_fits_132 (by decide) ?_
          refine ev_icmp_eq (pc := 134) (tgt := 144) dX11_fits_134 (by decide) (fun zc134 => ?_) (fun zc134 => ?_)
          · -- eq at 134: taken
            refine ev_iload (pc := 144) dX11_fits_144 rfl ?_
            refine ev_goto (pc := 146) (tgt := 151) dX11_fits_146 (by decide) ?_
            refine ev_istore (pc := 151) (L' := [some (.ref 49), some (.int (nI zl)), some (.int (nI zk)), some (.int (nI zs)), some (.int zv), some (.int (nI (i + 1))), some (.int (ftV zl zk zs i (ftQ zl zk zs))), some (.int (nI ((zl - (i + 1) * zk + zs - 1) / zs))), some (.int (nI (i + 1))), some (.int (nI (zl - ((i + 1) * zk)))), some (.int (nI ((zl - (i + 1) * zk + zs - 1) / zs)))]) dX11_fits_151 (Nat.le_of_ble_eq_true rfl) rfl ?_
            refine ev_iinc (pc := 153) (v := nI (i + 1 + 1)) (L' := [some (.ref 49), some (.int (nI zl)), some (.int (nI zk)), some (.int (nI zs)), some (.int zv), some (.int (nI (i + 1))), some (.int (ftV zl zk zs i (ftQ zl zk zs))), some (.int (nI ((zl - (i + 1) * zk + zs - 1) / zs))), some (.int (nI (i + 1 + 1))), some (.int (nI (zl - ((i + 1) * zk)))), some (.int (nI ((zl - (i + 1) * zk + zs - 1) / zs)))]) dX11_fits_153 rfl (nI_1 _) (Nat.le_of_ble_eq_true rfl) rfl ?_
            refine ev_goto (pc := 156) (tgt := 66) dX11_fits_156 (by decide) ?_
            have z9 : zl ≤ (i + 1) * zk + (i + 1) * zs := by omega
            have zU : (ftU zl zk zs (i + 1)) = (zl - (i + 1) * zk + zs - 1) / zs := if_neg (fun z => zc113 (by rw [z]; rfl))
            have zub := ftU_lt zl zk zs i hl2 hs2
            have zub2 := ftU_lt zl zk zs (i + 1) hl2 hs2
            have zk9 : ftQ zl zk zs ≤ i := Classical.not_not.mp (fun z => zc99 ((ftV_n zLb).mpr z))
            refine ev_less (L' := [some (.ref 49), some (.int (nI zl)), some (.int (nI zk)), some (.int (nI zs)), some (.int zv), some (.int (nI (i + 1))), some (.int (ftV zl zk zs i (ftQ zl zk zs))), some (.int (nI ((zl - (i + 1) * zk + zs - 1) / zs))), some (.int (nI (i + 1 + 1))), none, none]) (ls_keep (ls_keep (ls_keep (ls_keep (ls_keep (ls_keep (ls_keep (ls_keep (ls_keep (ls_drop (ls_drop (ls_nil _)))))))))))) ?_
            refine ev_eqL (L' := [some (.ref 49), some (.int (nI zl)), some (.int (nI zk)), some (.int (nI zs)), some (.int zv), some (.int (ftV zl zk zs (i + 1) (i + 1))), some (.int (ftV zl zk zs (i + 1) (ftQ zl zk zs))), some (.int (ftV zl zk zs (i + 1) (ftU zl zk zs (i + 1)))), some (.int (nI ((i + 1) + 1))), none, none]) (by rw [ft_yM hk1 hl1 z9, ft_yM hk1 hl1 z9, ft_yM hk1 hl1 z9, ft_yes hk1 hl1 zk9 (ftQ zl zk zs), zU]; try rfl) ?_
            exact ih (i + 1) (by omega)
          · -- eq at 134: not taken
            refine ev_iload (pc := 137) dX11_fits_137 rfl ?_
            refine ev_iload (pc := 139) dX11_fits_139 rfl ?_
            refine ev_icmp_ge (pc := 141) (tgt := 149) dX11_fits_141 (by decide) (fun zc141 => ?_) (fun zc141 => ?_)
            · -- ge at 141: taken
              refine ev_iload (pc := 149) dX11_fits_149 rfl ?_
              refine ev_istore (pc := 151) (L' := [some (.ref 49), some (.int (nI zl)), some (.int (nI zk)), some (.int (nI zs)), some (.int zv), some (.int (nI (i + 1))), some (.int (ftV zl zk zs i (ftQ zl zk zs))), some (.int (ftV zl zk zs i (ftU zl zk zs i))), some (.int (nI (i + 1))), some (.int (nI (zl - ((i + 1) * zk)))), some (.int (nI ((zl - (i + 1) * zk + zs - 1) / zs)))]) dX11_fits_151 (Nat.le_of_ble_eq_true rfl) rfl ?_
              refine ev_iinc (pc := 153) (v := nI (i + 1 + 1)) (L' := [some (.ref 49), some (.int (nI zl)), some (.int (nI zk)), some (.int (nI zs)), some (.int zv), some (.int (nI (i + 1))), some (.int (ftV zl zk zs i (ftQ zl zk zs))), some (.int (ftV zl zk zs i (ftU zl zk zs i))), some (.int (nI (i + 1 + 1))), some (.int (nI (zl - ((i + 1) * zk)))), some (.int (nI ((zl - (i + 1) * zk + zs - 1) / zs)))]) dX11_fits_153 rfl (nI_1 _) (Nat.le_of_ble_eq_true rfl) rfl ?_
              refine ev_goto (pc := 156) (tgt := 66) dX11_fits_156 (by decide) ?_
              have z9 : zl ≤ (i + 1) * zk + (i + 1) * zs := by omega
              have zU : (ftU zl zk zs (i + 1)) = (zl - (i + 1) * zk + zs - 1) / zs := if_neg (fun z => zc113 (by rw [z]; rfl))
              have zub := ftU_lt zl zk zs i hl2 hs2
              have zub2 := ftU_lt zl zk zs (i + 1) hl2 hs2
              have zk9 : ftQ zl zk zs ≤ i := Classical.not_not.mp (fun z => zc99 ((ftV_n zLb).mpr z))
              have zle := ftU_mono (zs := zs) hk1 (show (i + 1) * zk ≤ zl by omega)
              have zge : ftU zl zk zs i ≤ ftU zl zk zs (i + 1) := by
                have z1 := zc141
                rw [ft_yes hk1 hl1 zk9] at z1
                rw [zU]
                exact (nI_leI (by omega) (by omega)).mp z1
              refine ev_less (L' := [some (.ref 49), some (.int (nI zl)), some (.int (nI zk)), some (.int (nI zs)), some (.int zv), some (.int (nI (i + 1))), some (.int (ftV zl zk zs i (ftQ zl zk zs))), some (.int (ftV zl zk zs i (ftU zl zk zs i))), some (.int (nI (i + 1 + 1))), none, none]) (ls_keep (ls_keep (ls_keep (ls_keep (ls_keep (ls_keep (ls_keep (ls_keep (ls_keep (ls_drop (ls_drop (ls_nil _)))))))))))) ?_
              refine ev_eqL (L' := [some (.ref 49), some (.int (nI zl)), some (.int (nI zk)), some (.int (nI zs)), some (.int zv), some (.int (ftV zl zk zs (i + 1) (i + 1))), some (.int (ftV zl zk zs (i + 1) (ftQ zl zk zs))), some (.int (ftV zl zk zs (i + 1) (ftU zl zk zs (i + 1)))), some (.int (nI ((i + 1) + 1))), none, none]) (by rw [ft_yM hk1 hl1 z9, ft_yM hk1 hl1 z9, ft_yM hk1 hl1 z9, ft_yes hk1 hl1 zk9 (ftQ zl zk zs), ft_yes hk1 hl1 zk9 (ftU zl zk zs i), Nat.le_antisymm zle zge]; try rfl) ?_
              exact ih (i + 1) (by omega)
            · -- ge at 141: not taken
              refine ev_iload (pc := 144) dX11_fits_144 rfl ?_
              refine ev_goto (pc := 146) (tgt := 151) dX11_fits_146 (by decide) ?_
              refine ev_istore (pc := 151) (L' := [some (.ref 49), some (.int (nI zl)), some (.int (nI zk)), some (.int (nI zs)), some (.int zv), some (.int (nI (i + 1))), some (.int (ftV zl zk zs i (ftQ zl zk zs))), some (.int (nI ((zl - (i + 1) * zk + zs - 1) / zs))), some (.int (nI (i + 1))), some (.int (nI (zl - ((i + 1) * zk)))), some (.int (nI ((zl - (i + 1) * zk + zs - 1) / zs)))]) dX11_fits_151 (Nat.le_of_ble_eq_true rfl) rfl ?_
              refine ev_iinc (pc := 153) (v := nI (i + 1 + 1)) (L' := [some (.ref 49), some (.int (nI zl)), some (.int (nI zk)), some (.int (nI zs)), some (.int zv), some (.int (nI (i + 1))), some (.int (ftV zl zk zs i (ftQ zl zk zs))), some (.int (nI ((zl - (i + 1) * zk + zs - 1) / zs))), some (.int (nI (i + 1 + 1))), some (.int (nI (zl - ((i + 1) * zk)))), some (.int (nI ((zl - (i + 1) * zk + zs - 1) / zs)))]) dX11_fits_153 rfl (nI_1 _) (Nat.le_of_ble_eq_true rfl) rfl ?_
              refine ev_goto (pc := 156) (tgt := 66) dX11_fits_156 (by decide) ?_
              have z9 : zl ≤ (i + 1) * zk + (i + 1) * zs := by omega
              have zU : (ftU zl zk zs (i + 1)) = (zl - (i + 1) * zk + zs - 1) / zs := if_neg (fun z => zc113 (by rw [z]; rfl))
              have zub := ftU_lt zl zk zs i hl2 hs2
              have zub2 := ftU_lt zl zk zs (i + 1) hl2 hs2
              have zk9 : ftQ zl zk zs ≤ i := Classical.not_not.mp (fun z => zc99 ((ftV_n zLb).mpr z))
              refine ev_less (L' := [some (.ref 49), some (.int (nI zl)), some (.int (nI zk)), some (.int (nI zs)), some (.int zv), some (.int (nI (i + 1))), some (.int (ftV zl zk zs i (ftQ zl zk zs))), some (.int (nI ((zl - (i + 1) * zk + zs - 1) / zs))), some (.int (nI (i + 1 + 1))), none, none]) (ls_keep (ls_keep (ls_keep (ls_keep (ls_keep (ls_keep (ls_keep (ls_keep (ls_keep (ls_drop (ls_drop (ls_nil _)))))))))))) ?_
              refine ev_eqL (L' := [some (.ref 49), some (.int (nI zl)), some (.int (nI zk)), some (.int (nI zs)), some (.int zv), some (.int (ftV zl zk zs (i + 1) (i + 1))), some (.int (ftV zl zk zs (i + 1) (ftQ zl zk zs))), some (.int (ftV zl zk zs (i + 1) (ftU zl zk zs (i + 1)))), some (.int (nI ((i + 1) + 1))), none, none]) (by rw [ft_yM hk1 hl1 z9, ft_yM hk1 hl1 z9, ft_yM hk1 hl1 z9, ft_yes hk1 hl1 zk9 (ftQ zl zk zs), zU]; try rfl) ?_
              exact ih (i + 1) (by omega)
        · -- ne at 113: not taken
          refine ev_iconst (pc := 116) (v := 0) dX11_fits_116 (by decide) ?_
          refine ev_goto (pc := 117) (tgt := 128) dX11_fits_117 (by decide) ?_
          refine ev_istore (pc := 128) (L' := [some (.ref 49), some (.int (nI zl)), some (.int (nI zk)), some (.int (nI zs)), some (.int zv), some (.int (nI (i + 1))), some (.int (ftV zl zk zs i (ftQ zl zk zs))), some (.int (ftV zl zk zs i (ftU zl zk zs i))), some (.int (nI (i + 1))), some (.int (nI (zl - ((i + 1) * zk)))), some (.int 0)]) dX11_fits_128 (Nat.le_of_ble_eq_true rfl) rfl ?_
          refine ev_iload (pc := 130) dX11_fits_130 rfl ?_
          refine ev_bipush (pc := 132) (v := (-4)) dX11_fits_132 (by decide) ?_
          refine ev_icmp_eq (pc := 134) (tgt := 144) dX11_fits_134 (by decide) (fun zc134 => ?_) (fun zc134 => ?_)
          · -- eq at 134: taken
            refine ev_iload (pc := 144) dX11_fits_144 rfl ?_
            refine ev_goto (pc := 146) (tgt := 151) dX11_fits_146 (by decide) ?_
            refine ev_istore (pc := 151) (L' := [some (.ref 49), some (.int (nI zl)), some (.int (nI zk)), some (.int (nI zs)), some (.int zv), some (.int (nI (i + 1))), some (.int (ftV zl zk zs i (ftQ zl zk zs))), some (.int 0), some (.int (nI (i + 1))), some (.int (nI (zl - ((i + 1) * zk)))), some (.int 0)]) dX11_fits_151 (Nat.le_of_ble_eq_true rfl) rfl ?_
            refine ev_iinc (pc := 153) (v := nI (i + 1 + 1)) (L' := [some (.ref 49), some (.int (nI zl)), some (.int (nI zk)), some (.int (nI zs)), some (.int zv), some (.int (nI (i + 1))), some (.int (ftV zl zk zs i (ftQ zl zk zs))), some (.int 0), some (.int (nI (i + 1 + 1))), some (.int (nI (zl - ((i + 1) * zk)))), some (.int 0)]) dX11_fits_153 rfl (nI_1 _) (Nat.le_of_ble_eq_true rfl) rfl ?_
            refine ev_goto (pc := 156) (tgt := 66) dX11_fits_156 (by decide) ?_
            have z9 : zl ≤ (i + 1) * zk + (i + 1) * zs := by omega
            have zU : (ftU zl zk zs (i + 1)) = 0 := if_pos ((nI_eq (a := zl - (i + 1) * zk) (b := 0) (by omega) (by decide)).mp zc113)
            have zub := ftU_lt zl zk zs i hl2 hs2
            have zub2 := ftU_lt zl zk zs (i + 1) hl2 hs2
            have zk9 : ftQ zl zk zs ≤ i := Classical.not_not.mp (fun z => zc99 ((ftV_n zLb).mpr z))
            refine ev_less (L' := [some (.ref 49), some (.int (nI zl)), some (.int (nI zk)), some (.int (nI zs)), some (.int zv), some (.int (nI (i + 1))), some (.int (ftV zl zk zs i (ftQ zl zk zs))), some (.int 0), some (.int (nI (i + 1 + 1))), none, none]) (ls_keep (ls_keep (ls_keep (ls_keep (ls_keep (ls_keep (ls_keep (ls_keep (ls_keep (ls_drop (ls_drop (ls_nil _)))))))))))) ?_
            refine ev_eqL (L' := [some (.ref 49), some (.int (nI zl)), some (.int (nI zk)), some (.int (nI zs)), some (.int zv), some (.int (ftV zl zk zs (i + 1) (i + 1))), some (.int (ftV zl zk zs (i + 1) (ftQ zl zk zs))), some (.int (ftV zl zk zs (i + 1) (ftU zl zk zs (i + 1)))), some (.int (nI ((i + 1) + 1))), none, none]) (by rw [ft_yM hk1 hl1 z9, ft_yM hk1 hl1 z9, ft_yM hk1 hl1 z9, ft_yes hk1 hl1 zk9 (ftQ zl zk zs), zU]; try rfl) ?_
            exact ih (i + 1) (by omega)
          · -- eq at 134: not taken
            refine ev_iload (pc := 137) dX11_fits_137 rfl ?_
            refine ev_iload (pc := 139) dX11_fits_139 rfl ?_
            refine ev_icmp_ge (pc := 141) (tgt := 149) dX11_fits_141 (by decide) (fun zc141 => ?_) (fun zc141 => ?_)
            · -- ge at 141: taken
              refine ev_iload (pc := 149) dX11_fits_149 rfl ?_
              refine ev_istore (pc := 151) (L' := [some (.ref 49), some (.int (nI zl)), some (.int (nI zk)), some (.int (nI zs)), some (.int zv), some (.int (nI (i + 1))), some (.int (ftV zl zk zs i (ftQ zl zk zs))), some (.int (ftV zl zk zs i (ftU zl zk zs i))), some (.int (nI (i + 1))), some (.int (nI (zl - ((i + 1) * zk)))), some (.int 0)]) dX11_fits_151 (Nat.le_of_ble_eq_true rfl) rfl ?_
              refine ev_iinc (pc := 153) (v := nI (i + 1 + 1)) (L' := [some (.ref 49), some (.int (nI zl)), some (.int (nI zk)), some (.int (nI zs)), some (.int zv), some (.int (nI (i + 1))), some (.int (ftV zl zk zs i (ftQ zl zk zs))), some (.int (ftV zl zk zs i (ftU zl zk zs i))), some (.int (nI (i + 1 + 1))), some (.int (nI (zl - ((i + 1) * zk)))), some (.int 0)]) dX11_fits_153 rfl (nI_1 _) (Nat.le_of_ble_eq_true rfl) rfl ?_
              refine ev_goto (pc := 156) (tgt := 66) dX11_fits_156 (by decide) ?_
              have z9 : zl ≤ (i + 1) * zk + (i + 1) * zs := by omega
              have zU : (ftU zl zk zs (i + 1)) = 0 := if_pos ((nI_eq (a := zl - (i + 1) * zk) (b := 0) (by omega) (by decide)).mp zc113)
              have zub := ftU_lt zl zk zs i hl2 hs2
              have zub2 := ftU_lt zl zk zs (i + 1) hl2 hs2
              have zk9 : ftQ zl zk zs ≤ i := Classical.not_not.mp (fun z => zc99 ((ftV_n zLb).mpr z))
              have zle := ftU_mono (zs := zs) hk1 (show (i + 1) * zk ≤ zl by omega)
              have zge : ftU zl zk zs i ≤ ftU zl zk zs (i + 1) := by
                have z1 := zc141
                rw [ft_yes hk1 hl1 zk9] at z1
                rw [zU]
                exact (nI_leI (by omega) (by omega)).mp z1
              refine ev_less (L' := [some (.ref 49), some (.int (nI zl)), some (.int (nI zk)), some (.int (nI zs)), some (.int zv), some (.int (nI (i + 1))), some (.int (ftV zl zk zs i (ftQ zl zk zs))), some (.int (ftV zl zk zs i (ftU zl zk zs i))), some (.int (nI (i + 1 + 1))), none, none]) (ls_keep (ls_keep (ls_keep (ls_keep (ls_keep (ls_keep (ls_keep (ls_keep (ls_keep (ls_drop (ls_drop (ls_nil _)))))))))))) ?_
              refine ev_eqL (L' := [some (.ref 49), some (.int (nI zl)), some (.int (nI zk)), some (.int (nI zs)), some (.int zv), some (.int (ftV zl zk zs (i + 1) (i + 1))), some (.int (ftV zl zk zs (i + 1) (ftQ zl zk zs))), some (.int (ftV zl zk zs (i + 1) (ftU zl zk zs (i + 1)))), some (.int (nI ((i + 1) + 1))), none, none]) (by rw [ft_yM hk1 hl1 z9, ft_yM hk1 hl1 z9, ft_yM hk1 hl1 z9, ft_yes hk1 hl1 zk9 (ftQ zl zk zs), ft_yes hk1 hl1 zk9 (ftU zl zk zs i), Nat.le_antisymm zle zge]; try rfl) ?_
              exact ih (i + 1) (by omega)
            · -- ge at 141: not taken
              refine ev_iload (pc := 144) dX11_fits_144 rfl ?_
              refine ev_goto (pc := 146) (tgt := 151) dX11_fits_146 (by decide) ?_
              refine ev_istore (pc := 151) (L' := [some (.ref 49), some (.int (nI zl)), some (.int (nI zk)), some (.int (nI zs)), some (.int zv), some (.int (nI (i + 1))), some (.int (ftV zl zk zs i (ftQ zl zk zs))), some (.int 0), some (.int (nI (i + 1))), some (.int (nI (zl - ((i + 1) * zk)))), some (.int 0)]) dX11_fits_151 (Nat.le_of_ble_eq_true rfl) rfl ?_
              refine ev_iinc (pc := 153) (v := nI (i + 1 + 1)) (L' := [some (.ref 49), some (.int (nI zl)), some (.int (nI zk)), some (.int (nI zs)), some (.int zv), some (.int (nI (i + 1))), some (.int (ftV zl zk zs i (ftQ zl zk zs))), some (.int 0), some (.int (nI (i + 1 + 1))), some (.int (nI (zl - ((i + 1) * zk)))), some (.int 0)]) dX11_fits_153 rfl (nI_1 _) (Nat.le_of_ble_eq_true rfl) rfl ?_
              refine ev_goto (pc := 156) (tgt := 66) dX11_fits_156 (by decide) ?_
              have z9 : zl ≤ (i + 1) * zk + (i + 1) * zs := by omega
              have zU : (ftU zl zk zs (i + 1)) = 0 := if_pos ((nI_eq (a := zl - (i + 1) * zk) (b := 0) (by omega) (by decide)).mp zc113)
              have zub := ftU_lt zl zk zs i hl2 hs2
              have zub2 := ftU_lt zl zk zs (i + 1) hl2 hs2
              have zk9 : ftQ zl zk zs ≤ i := Classical.not_not.mp (fun z => zc99 ((ftV_n zLb).mpr z))
              refine ev_less (L' := [some (.ref 49), some (.int (nI zl)), some (.int (nI zk)), some (.int (nI zs)), some (.int zv), some (.int (nI (i + 1))), some (.int (ftV zl zk zs i (ftQ zl zk zs))), some (.int 0), some (.int (nI (i + 1 + 1))), none, none]) (ls_keep (ls_keep (ls_keep (ls_keep (ls_keep (ls_keep (ls_keep (ls_keep (ls_keep (ls_drop (ls_drop (ls_nil _)))))))))))) ?_
              refine ev_eqL (L' := [some (.ref 49), some (.int (nI zl)), some (.int (nI zk)), some (.int (nI zs)), some (.int zv), some (.int (ftV zl zk zs (i + 1) (i + 1))), some (.int (ftV zl zk zs (i + 1) (ftQ zl zk zs))), some (.int (ftV zl zk zs (i + 1) (ftU zl zk zs (i + 1)))), some (.int (nI ((i + 1) + 1))), none, none]) (by rw [ft_yM hk1 hl1 z9, ft_yM hk1 hl1 z9, ft_yM hk1 hl1 z9, ft_yes hk1 hl1 zk9 (ftQ zl zk zs), zU]; try rfl) ?_
              exact ih (i + 1) (by omega)
      · -- ne at 99: not taken
        refine ev_iload (pc := 102) dX11_fits_102 rfl ?_
        refine ev_goto (pc := 104) (tgt := 109) dX11_fits_104 (by decide) ?_
        refine ev_istore (pc := 109) (L' := [some (.ref 49), some (.int (nI zl)), some (.int (nI zk)), some (.int (nI zs)), some (.int zv), some (.int (nI (i + 1))), some (.int (nI (i + 1))), some (.int (ftV zl zk zs i (ftU zl zk zs i))), some (.int (nI (i + 1))), some (.int (nI (zl - ((i + 1) * zk)))), none]) dX11_fits_109 (Nat.le_of_ble_eq_true rfl) rfl ?_
        refine ev_iload (pc := 111) dX11_fits_111 rfl ?_
        refine ev_if_ne (pc := 113) (tgt := 120) dX11_fits_113 (by decide) (fun zc113 => ?_) (fun zc113 => ?_)
        · -- ne at 113: taken
          have z113 : zl - (i + 1) * zk ≠ 0 := fun z => zc113 (by rw [z]; rfl)
          have zs1 : 0 < zs := Nat.pos_of_ne_zero (fun z => by rw [z, Nat.mul_zero] at z88; omega)
          refine ev_iload (pc := 120) dX11_fits_120 rfl ?_
          refine ev_iload_n (pc := 122) dX11_fits_122 rfl ?_
          refine ev_iadd (pc := 123) dX11_fits_123 ?_
          refine ev_eqI (e' := nI ((zl - ((i + 1) * zk)) + zs)) (nI_add (zl - ((i + 1) * zk)) zs) ?_
          refine ev_iconst (pc := 124) (v := 1) dX11_fits_124 (by decide) ?_
          refine ev_isub (pc := 125) dX11_fits_125 ?_
          refine ev_eqI (e' := nI (zl - (i + 1) * zk + zs - 1)) (pk_sub (a := zl - (i + 1) * zk + zs) (b := 1) (by omega)) ?_
          refine ev_iload_n (pc := 126) dX11_fits_126 rfl ?_
          refine ev_idiv (pc := 127) dX11_fits_127 (nI_ne0 zs1 (by omega)) ?_
          refine ev_eqI (e' := nI ((zl - (i + 1) * zk + zs - 1) / zs)) (pk_div (by omega) zs1 (by omega)) ?_
          refine ev_istore (pc := 128) (L' := [some (.ref 49), some (.int (nI zl)), some (.int (nI zk)), some (.int (nI zs)), some (.int zv), some (.int (nI (i + 1))), some (.int (nI (i + 1))), some (.int (ftV zl zk zs i (ftU zl zk zs i))), some (.int (nI (i + 1))), some (.int (nI (zl - ((i + 1) * zk)))), some (.int (nI ((zl - (i + 1) * zk + zs - 1) / zs)))]) dX11_fits_128 (Nat.le_of_ble_eq_true rfl) rfl ?_
          refine ev_iload (pc := 130) dX11_fits_130 rfl ?_
          refine ev_bipush (pc := 132) (v := (-4)) dX11_fits_132 (by decide) ?_
          refine ev_icmp_eq (pc := 134) (tgt := 144) dX11_fits_134 (by decide) (fun zc134 => ?_) (fun zc134 => ?_)
          · -- eq at 134: taken
            refine ev_iload (pc := 144) dX11_fits_144 rfl ?_
            refine ev_goto (pc := 146) (tgt := 151) dX11_fits_146 (by decide) ?_
            refine ev_istore (pc := 151) (L' := [some (.ref 49), some (.int (nI zl)), some (.int (nI zk)), some (.int (nI zs)), some (.int zv), some (.int (nI (i + 1))), some (.int (nI (i + 1))), some (.int (nI ((zl - (i + 1) * zk + zs - 1) / zs))), some (.int (nI (i + 1))), some (.int (nI (zl - ((i + 1) * zk)))), some (.int (nI ((zl - (i + 1) * zk + zs - 1) / zs)))]) dX11_fits_151 (Nat.le_of_ble_eq_true rfl) rfl ?_
            refine ev_iinc (pc := 153) (v := nI (i + 1 + 1)) (L' := [some (.ref 49), some (.int (nI zl)), some (.int (nI zk)), some (.int (nI zs)), some (.int zv), some (.int (nI (i + 1))), some (.int (nI (i + 1))), some (.int (nI ((zl - (i + 1) * zk + zs - 1) / zs))), some (.int (nI (i + 1 + 1))), some (.int (nI (zl - ((i + 1) * zk)))), some (.int (nI ((zl - (i + 1) * zk + zs - 1) / zs)))]) dX11_fits_153 rfl (nI_1 _) (Nat.le_of_ble_eq_true rfl) rfl ?_
            refine ev_goto (pc := 156) (tgt := 66) dX11_fits_156 (by decide) ?_
            have z9 : zl ≤ (i + 1) * zk + (i + 1) * zs := by omega
            have zU : (ftU zl zk zs (i + 1)) = (zl - (i + 1) * zk + zs - 1) / zs := if_neg (fun z => zc113 (by rw [z]; rfl))
            have zub := ftU_lt zl zk zs i hl2 hs2
            have zub2 := ftU_lt zl zk zs (i + 1) hl2 hs2
            have zk9 : ¬ ftQ zl zk zs ≤ i := (ftV_n zLb).mp zc99
            refine ev_less (L' := [some (.ref 49), some (.int (nI zl)), some (.int (nI zk)), some (.int (nI zs)), some (.int zv), some (.int (nI (i + 1))), some (.int (nI (i + 1))), some (.int (nI ((zl - (i + 1) * zk + zs - 1) / zs))), some (.int (nI (i + 1 + 1))), none, none]) (ls_keep (ls_keep (ls_keep (ls_keep (ls_keep (ls_keep (ls_keep (ls_keep (ls_keep (ls_drop (ls_drop (ls_nil _)))))))))))) ?_
            refine ev_eqL (L' := [some (.ref 49), some (.int (nI zl)), some (.int (nI zk)), some (.int (nI zs)), some (.int zv), some (.int (ftV zl zk zs (i + 1) (i + 1))), some (.int (ftV zl zk zs (i + 1) (ftQ zl zk zs))), some (.int (ftV zl zk zs (i + 1) (ftU zl zk zs (i + 1)))), some (.int (nI ((i + 1) + 1))), none, none]) (by rw [ft_yM hk1 hl1 z9, ft_yL1 hk1 hl1 z9 zk9, ft_yM hk1 hl1 z9, zU]; try rfl) ?_
            exact ih (i + 1) (by omega)
          · -- eq at 134: not taken
            refine ev_iload (pc := 137) dX11_fits_137 rfl ?_
            refine ev_iload (pc := 139) dX11_fits_139 rfl ?_
            refine ev_icmp_ge (pc := 141) (tgt := 149) dX11_fits_141 (by decide) (fun zc141 => ?_) (fun zc141 => ?_)
            · -- ge at 141: taken
              refine ev_iload (pc := 149) dX11_fits_149 rfl ?_
              refine ev_istore (pc := 151) (L' := [some (.ref 49), some (.int (nI zl)), some (.int (nI zk)), some (.int (nI zs)), some (.int zv), some (.int (nI (i + 1))), some (.int (nI (i + 1))), some (.int (ftV zl zk zs i (ftU zl zk zs i))), some (.int (nI (i + 1))), some (.int (nI (zl - ((i + 1) * zk)))), some (.int (nI ((zl - (i + 1) * zk + zs - 1) / zs)))]) dX11_fits_151 (Nat.le_of_ble_eq_true rfl) rfl ?_
              refine ev_iinc (pc := 153) (v := nI (i + 1 + 1)) (L' := [some (.ref 49), some (.int (nI zl)), some (.int (nI zk)), some (.int (nI zs)), some (.int zv), some (.int (nI (i + 1))), some (.int (nI (i + 1))), some (.int (ftV zl zk zs i (ftU zl zk zs i))), some (.int (nI (i + 1 + 1))), some (.int (nI (zl - ((i + 1) * zk)))), some (.int (nI ((zl - (i + 1) * zk + zs - 1) / zs)))]) dX11_fits_153 rfl (nI_1 _) (Nat.le_of_ble_eq_true rfl) rfl ?_
              refine ev_goto (pc := 156) (tgt := 66) dX11_fits_156 (by decide) ?_
              have z9 : zl ≤ (i + 1) * zk + (i + 1) * zs := by omega
              have zU : (ftU zl zk zs (i + 1)) = (zl - (i + 1) * zk + zs - 1) / zs := if_neg (fun z => zc113 (by rw [z]; rfl))
              have zub := ftU_lt zl zk zs i hl2 hs2
              have zub2 := ftU_lt zl zk zs (i + 1) hl2 hs2
              have zk9 : ¬ ftQ zl zk zs ≤ i := (ftV_n zLb).mp zc99
              exact absurd ((ftV_n (by omega)).mpr zk9) zc134
            · -- ge at 141: not taken
              refine ev_iload (pc := 144) dX11_fits_144 rfl ?_
              refine ev_goto (pc := 146) (tgt := 151) dX11_fits_146 (by decide) ?_
              refine ev_istore (pc := 151) (L' := [some (.ref 49), some (.int (nI zl)), some (.int (nI zk)), some (.int (nI zs)), some (.int zv), some (.int (nI (i + 1))), some (.int (nI (i + 1))), some (.int (nI ((zl - (i + 1) * zk + zs - 1) / zs))), some (.int (nI (i + 1))), some (.int (nI (zl - ((i + 1) * zk)))), some (.int (nI ((zl - (i + 1) * zk + zs - 1) / zs)))]) dX11_fits_151 (Nat.le_of_ble_eq_true rfl) rfl ?_
              refine ev_iinc (pc := 153) (v := nI (i + 1 + 1)) (L' := [some (.ref 49), some (.int (nI zl)), some (.int (nI zk)), some (.int (nI zs)), some (.int zv), some (.int (nI (i + 1))), some (.int (nI (i + 1))), some (.int (nI ((zl - (i + 1) * zk + zs - 1) / zs))), some (.int (nI (i + 1 + 1))), some (.int (nI (zl - ((i + 1) * zk)))), some (.int (nI ((zl - (i + 1) * zk + zs - 1) / zs)))]) dX11_fits_153 rfl (nI_1 _) (Nat.le_of_ble_eq_true rfl) rfl ?_
              refine ev_goto (pc := 156) (tgt := 66) dX11_fits_156 (by decide) ?_
              have z9 : zl ≤ (i + 1) * zk + (i + 1) * zs := by omega
              have zU : (ftU zl zk zs (i + 1)) = (zl - (i + 1) * zk + zs - 1) / zs := if_neg (fun z => zc113 (by rw [z]; rfl))
              have zub := ftU_lt zl zk zs i hl2 hs2
              have zub2 := ftU_lt zl zk zs (i + 1) hl2 hs2
              have zk9 : ¬ ftQ zl zk zs ≤ i := (ftV_n zLb).mp zc99
              refine ev_less (L' := [some (.ref 49), some (.int (nI zl)), some (.int (nI zk)), some (.int (nI zs)), some (.int zv), some (.int (nI (i + 1))), some (.int (nI (i + 1))), some (.int (nI ((zl - (i + 1) * zk + zs - 1) / zs))), some (.int (nI (i + 1 + 1))), none, none]) (ls_keep (ls_keep (ls_keep (ls_keep (ls_keep (ls_keep (ls_keep (ls_keep (ls_keep (ls_drop (ls_drop (ls_nil _)))))))))))) ?_
              refine ev_eqL (L' := [some (.ref 49), some (.int (nI zl)), some (.int (nI zk)), some (.int (nI zs)), some (.int zv), some (.int (ftV zl zk zs (i + 1) (i + 1))), some (.int (ftV zl zk zs (i + 1) (ftQ zl zk zs))), some (.int (ftV zl zk zs (i + 1) (ftU zl zk zs (i + 1)))), some (.int (nI ((i + 1) + 1))), none, none]) (by rw [ft_yM hk1 hl1 z9, ft_yL1 hk1 hl1 z9 zk9, ft_yM hk1 hl1 z9, zU]; try rfl) ?_
              exact ih (i + 1) (by omega)
        · -- ne at 113: not taken
          refine ev_iconst (pc := 116) (v := 0) dX11_fits_116 (by decide) ?_
          refine ev_goto (pc := 117) (tgt := 128) dX11_fits_117 (by decide) ?_
          refine ev_istore (pc := 128) (L' := [some (.ref 49), some (.int (nI zl)), some (.int (nI zk)), some (.int (nI zs)), some (.int zv), some (.int (nI (i + 1))), some (.int (nI (i + 1))), some (.int (ftV zl zk zs i (ftU zl zk zs i))), some (.int (nI (i + 1))), some (.int (nI (zl - ((i + 1) * zk)))), some (.int 0)]) dX11_fits_128 (Nat.le_of_ble_eq_true rfl) rfl ?_
          refine ev_iload (pc := 130) dX11_fits_130 rfl ?_
          refine ev_bipush (pc := 132) (v := (-4)) dX11_fits_132 (by decide) ?_
          refine ev_icmp_eq (pc := 134) (tgt := 144) dX11_fits_134 (by decide) (fun zc134 => ?_) (fun zc134 => ?_)
          · -- eq at 134: taken
            refine ev_iload (pc := 144) dX11_fits_144 rfl ?_
            refine ev_goto (pc := 146) (tgt := 151) dX11_fits_146 (by decide) ?_
            refine ev_istore (pc := 151) (L' := [some (.ref 49), some (.int (nI zl)), some (.int (nI zk)), some (.int (nI zs)), some (.int zv), some (.int (nI (i + 1))), some (.int (nI (i + 1))), some (.int 0), some (.int (nI (i + 1))), some (.int (nI (zl - ((i + 1) * zk)))), some (.int 0)]) dX11_fits_151 (Nat.le_of_ble_eq_true rfl) rfl ?_
            refine ev_iinc (pc := 153) (v := nI (i + 1 + 1)) (L' := [some (.ref 49), some (.int (nI zl)), some (.int (nI zk)), some (.int (nI zs)), some (.int zv), some (.int (nI (i + 1))), some (.int (nI (i + 1))), some (.int 0), some (.int (nI (i + 1 + 1))), some (.int (nI (zl - ((i + 1) * zk)))), some (.int 0)]) dX11_fits_153 rfl (nI_1 _) (Nat.le_of_ble_eq_true rfl) rfl ?_
            refine ev_goto (pc := 156) (tgt := 66) dX11_fits_156 (by decide) ?_
            have z9 : zl ≤ (i + 1) * zk + (i + 1) * zs := by omega
            have zU : (ftU zl zk zs (i + 1)) = 0 := if_pos ((nI_eq (a := zl - (i + 1) * zk) (b := 0) (by omega) (by decide)).mp zc113)
            have zub := ftU_lt zl zk zs i hl2 hs2
            have zub2 := ftU_lt zl zk zs (i + 1) hl2 hs2
            have zk9 : ¬ ftQ zl zk zs ≤ i := (ftV_n zLb).mp zc99
            refine ev_less (L' := [some (.ref 49), some (.int (nI zl)), some (.int (nI zk)), some (.int (nI zs)), some (.int zv), some (.int (nI (i + 1))), some (.int (nI (i + 1))), some (.int 0), some (.int (nI (i + 1 + 1))), none, none]) (ls_keep (ls_keep (ls_keep (ls_keep (ls_keep (ls_keep (ls_keep (ls_keep (ls_keep (ls_drop (ls_drop (ls_nil _)))))))))))) ?_
            refine ev_eqL (L' := [some (.ref 49), some (.int (nI zl)), some (.int (nI zk)), some (.int (nI zs)), some (.int zv), some (.int (ftV zl zk zs (i + 1) (i + 1))), some (.int (ftV zl zk zs (i + 1) (ftQ zl zk zs))), some (.int (ftV zl zk zs (i + 1) (ftU zl zk zs (i + 1)))), some (.int (nI ((i + 1) + 1))), none, none]) (by rw [ft_yM hk1 hl1 z9, ft_yL1 hk1 hl1 z9 zk9, ft_yM hk1 hl1 z9, zU]; try rfl) ?_
            exact ih (i + 1) (by omega)
          · -- eq at 134: not taken
            refine ev_iload (pc := 137) dX11_fits_137 rfl ?_
            refine ev_iload (pc := 139) dX11_fits_139 rfl ?_
            refine ev_icmp_ge (pc := 141) (tgt := 149) dX11_fits_141 (by decide) (fun zc141 => ?_) (fun zc141 => ?_)
            · -- ge at 141: taken
              refine ev_iload (pc := 149) dX11_fits_149 rfl ?_
              refine ev_istore (pc := 151) (L' := [some (.ref 49), some (.int (nI zl)), some (.int (nI zk)), some (.int (nI zs)), some (.int zv), some (.int (nI (i + 1))), some (.int (nI (i + 1))), some (.int (ftV zl zk zs i (ftU zl zk zs i))), some (.int (nI (i + 1))), some (.int (nI (zl - ((i + 1) * zk)))), some (.int 0)]) dX11_fits_151 (Nat.le_of_ble_eq_true rfl) rfl ?_
              refine ev_iinc (pc := 153) (v := nI (i + 1 + 1)) (L' := [some (.ref 49), some (.int (nI zl)), some (.int (nI zk)), some (.int (nI zs)), some (.int zv), some (.int (nI (i + 1))), some (.int (nI (i + 1))), some (.int (ftV zl zk zs i (ftU zl zk zs i))), some (.int (nI (i + 1 + 1))), some (.int (nI (zl - ((i + 1) * zk)))), some (.int 0)]) dX11_fits_153 rfl (nI_1 _) (Nat.le_of_ble_eq_true rfl) rfl ?_
              refine ev_goto (pc := 156) (tgt := 66) dX11_fits_156 (by decide) ?_
              have z9 : zl ≤ (i + 1) * zk + (i + 1) * zs := by omega
              have zU : (ftU zl zk zs (i + 1)) = 0 := if_pos ((nI_eq (a := zl - (i + 1) * zk) (b := 0) (by omega) (by decide)).mp zc113)
              have zub := ftU_lt zl zk zs i hl2 hs2
              have zub2 := ftU_lt zl zk zs (i + 1) hl2 hs2
              have zk9 : ¬ ftQ zl zk zs ≤ i := (ftV_n zLb).mp zc99
              exact absurd ((ftV_n (by omega)).mpr zk9) zc134
            · -- ge at 141: not taken
              refine ev_iload (pc := 144) dX11_fits_144 rfl ?_
              refine ev_goto (pc := 146) (tgt := 151) dX11_fits_146 (by decide) ?_
              refine ev_istore (pc := 151) (L' := [some (.ref 49), some (.int (nI zl)), some (.int (nI zk)), some (.int (nI zs)), some (.int zv), some (.int (nI (i + 1))), some (.int (nI (i + 1))), some (.int 0), some (.int (nI (i + 1))), some (.int (nI (zl - ((i + 1) * zk)))), some (.int 0)]) dX11_fits_151 (Nat.le_of_ble_eq_true rfl) rfl ?_
              refine ev_iinc (pc := 153) (v := nI (i + 1 + 1)) (L' := [some (.ref 49), some (.int (nI zl)), some (.int (nI zk)), some (.int (nI zs)), some (.int zv), some (.int (nI (i + 1))), some (.int (nI (i + 1))), some (.int 0), some (.int (nI (i + 1 + 1))), some (.int (nI (zl - ((i + 1) * zk)))), some (.int 0)]) dX11_fits_153 rfl (nI_1 _) (Nat.le_of_ble_eq_true rfl) rfl ?_
              refine ev_goto (pc := 156) (tgt := 66) dX11_fits_156 (by decide) ?_
              have z9 : zl ≤ (i + 1) * zk + (i + 1) * zs := by omega
              have zU : (ftU zl zk zs (i + 1)) = 0 := if_pos ((nI_eq (a := zl - (i + 1) * zk) (b := 0) (by omega) (by decide)).mp zc113)
              have zub := ftU_lt zl zk zs i hl2 hs2
              have zub2 := ftU_lt zl zk zs (i + 1) hl2 hs2
              have zk9 : ¬ ftQ zl zk zs ≤ i := (ftV_n zLb).mp zc99
              refine ev_less (L' := [some (.ref 49), some (.int (nI zl)), some (.int (nI zk)), some (.int (nI zs)), some (.int zv), some (.int (nI (i + 1))), some (.int (nI (i + 1))), some (.int 0), some (.int (nI (i + 1 + 1))), none, none]) (ls_keep (ls_keep (ls_keep (ls_keep (ls_keep (ls_keep (ls_keep (ls_keep (ls_keep (ls_drop (ls_drop (ls_nil _)))))))))))) ?_
              refine ev_eqL (L' := [some (.ref 49), some (.int (nI zl)), some (.int (nI zk)), some (.int (nI zs)), some (.int zv), some (.int (ftV zl zk zs (i + 1) (i + 1))), some (.int (ftV zl zk zs (i + 1) (ftQ zl zk zs))), some (.int (ftV zl zk zs (i + 1) (ftU zl zk zs (i + 1)))), some (.int (nI ((i + 1) + 1))), none, none]) (by rw [ft_yM hk1 hl1 z9, ft_yL1 hk1 hl1 z9 zk9, ft_yM hk1 hl1 z9, zU]; try rfl) ?_
              exact ih (i + 1) (by omega)
def ftR (zl zk zs : Nat) (zv : Int32) : Int32 := if ftQ zl zk zs ≤ zl / zk then (if zv = 0 then nI (zl / zk) else if zv = 1 then nI (ftQ zl zk zs) else nI (ftU zl zk zs (zl / zk))) else -4
theorem cn_X11_fits (E : ME) (h : AH) (zl0 zk0 zs0 zv : Int32) (hw : WF h) : Con E mX11_fits 1 0 0 [.ref 49, .int zl0, .int zk0, .int zs0, .int zv] h (fun r h' => r = some (.int (if (1 ≤ zl0 ∧ zl0 ≤ 999) ∧ (1 ≤ zk0 ∧ zk0 ≤ 99) ∧ (0 ≤ zs0 ∧ zs0 ≤ 9) ∧ (0 ≤ zv ∧ zv ≤ 2) then ftR zl0.toNatClampNeg zk0.toNatClampNeg zs0.toNatClampNeg zv else -1)) ∧ h' = h) := by
  refine con_of2 (L := [some (.ref 49), some (.int zl0), some (.int zk0), some (.int zs0), some (.int zv), none, none, none, none, none, none]) rfl (Nat.le_of_ble_eq_true rfl) rfl ?_
  refine ev_iload_n (pc := 0) dX11_fits_0 rfl ?_
  refine ev_i2l (pc := 1) dX11_fits_1 ?_
  refine ev_lconst (pc := 2) (v := 1) dX11_fits_2 (by decide) ?_
  refine ev_ldc2 (pc := 3) (v := 999) dX11_fits_3 kcX11_238 ?_
  refine ev_callSv (S := []) (pc := 6) dX11_fits_6 kX11_in lX11_96 sX11_in (cn_X11_inC E h zl0 1 999 _ _ _ rfl (by decide) (by decide)) rfl rfl (Nat.le_of_ble_eq_true rfl) ⟨Nat.le_of_ble_eq_true rfl, Nat.le_of_ble_eq_true rfl⟩ ⟨Nat.le_of_ble_eq_true rfl, Nat.le_of_ble_eq_true rfl⟩ ?_
  refine ev_if_eq (pc := 9) (tgt := 49) dX11_fits_9 (by decide) (fun zc9 => ?_) (fun zc9 => ?_)
  · -- eq at 9: taken
    refine ev_iconst (pc := 49) (v := (-1)) dX11_fits_49 (by decide) ?_
    refine ev_iret (pc := 50) dX11_fits_50 rfl ?_ ?_
    · rfl
    · refine ⟨?_, rfl⟩
      simp only [bI_0, bI_n0, Classical.not_not] at *
      have hC : ¬ ((1 ≤ zl0 ∧ zl0 ≤ 999) ∧ (1 ≤ zk0 ∧ zk0 ≤ 99) ∧ (0 ≤ zs0 ∧ zs0 ≤ 9) ∧ (0 ≤ zv ∧ zv ≤ 2)) := fun q => by first | exact zc9 q.1 | exact zc21 q.2.1 | exact zc33 q.2.2.1 | exact zc46 q.2.2.2
      rw [if_neg hC]
  · -- eq at 9: not taken
    refine ev_iload_n (pc := 12) dX11_fits_12 rfl ?_
    refine ev_i2l (pc := 13) dX11_fits_13 ?_
    refine ev_lconst (pc := 14) (v := 1) dX11_fits_14 (by decide) ?_
    refine ev_ldc2 (pc := 15) (v := 99) dX11_fits_15 kcX11_243 ?_
    refine ev_callSv (S := []) (pc := 18) dX11_fits_18 kX11_in lX11_96 sX11_in (cn_X11_inC E h zk0 1 99 _ _ _ rfl (by decide) (by decide)) rfl rfl (Nat.le_of_ble_eq_true rfl) ⟨Nat.le_of_ble_eq_true rfl, Nat.le_of_ble_eq_true rfl⟩ ⟨Nat.le_of_ble_eq_true rfl, Nat.le_of_ble_eq_true rfl⟩ ?_
    refine ev_if_eq (pc := 21) (tgt := 49) dX11_fits_21 (by decide) (fun zc21 => ?_) (fun zc21 => ?_)
    · -- eq at 21: taken
      refine ev_iconst (pc := 49) (v := (-1)) dX11_fits_49 (by decide) ?_
      refine ev_iret (pc := 50) dX11_fits_50 rfl ?_ ?_
      · rfl
      · refine ⟨?_, rfl⟩
        simp only [bI_0, bI_n0, Classical.not_not] at *
        have hC : ¬ ((1 ≤ zl0 ∧ zl0 ≤ 999) ∧ (1 ≤ zk0 ∧ zk0 ≤ 99) ∧ (0 ≤ zs0 ∧ zs0 ≤ 9) ∧ (0 ≤ zv ∧ zv ≤ 2)) := fun q => by first | exact zc9 q.1 | exact zc21 q.2.1 | exact zc33 q.2.2.1 | exact zc46 q.2.2.2
        rw [if_neg hC]
    · -- eq at 21: not taken
      refine ev_iload_n (pc := 24) dX11_fits_24 rfl ?_
      refine ev_i2l (pc := 25) dX11_fits_25 ?_
      refine ev_lconst (pc := 26) (v := 0) dX11_fits_26 (by decide) ?_
      refine ev_ldc2 (pc := 27) (v := 9) dX11_fits_27 kcX11_236 ?_
      refine ev_callSv (S := []) (pc := 30) dX11_fits_30 kX11_in lX11_96 sX11_in (cn_X11_inC E h zs0 0 9 _ _ _ rfl (by decide) (by decide)) rfl rfl (Nat.le_of_ble_eq_true rfl) ⟨Nat.le_of_ble_eq_true rfl, Nat.le_of_ble_eq_true rfl⟩ ⟨Nat.le_of_ble_eq_true rfl, Nat.le_of_ble_eq_true rfl⟩ ?_
      refine ev_if_eq (pc := 33) (tgt := 49) dX11_fits_33 (by decide) (fun zc33 => ?_) (fun zc33 => ?_)
      · -- eq at 33: taken
        refine ev_iconst (pc := 49) (v := (-1)) dX11_fits_49 (by decide) ?_
        refine ev_iret (pc := 50) dX11_fits_50 rfl ?_ ?_
        · rfl
        · refine ⟨?_, rfl⟩
          simp only [bI_0, bI_n0, Classical.not_not] at *
          have hC : ¬ ((1 ≤ zl0 ∧ zl0 ≤ 999) ∧ (1 ≤ zk0 ∧ zk0 ≤ 99) ∧ (0 ≤ zs0 ∧ zs0 ≤ 9) ∧ (0 ≤ zv ∧ zv ≤ 2)) := fun q => by first | exact zc9 q.1 | exact zc21 q.2.1 | exact zc33 q.2.2.1 | exact zc46 q.2.2.2
          rw [if_neg hC]
      · -- eq at 33: not taken
        refine ev_iload (pc := 36) dX11_fits_36 rfl ?_
        refine ev_i2l (pc := 38) dX11_fits_38 ?_
        refine ev_lconst (pc := 39) (v := 0) dX11_fits_39 (by decide) ?_
        refine ev_ldc2 (pc := 40) (v := 2) dX11_fits_40 kcX11_245 ?_
        refine ev_callSv (S := []) (pc := 43) dX11_fits_43 kX11_in lX11_96 sX11_in (cn_X11_inC E h zv 0 2 _ _ _ rfl (by decide) (by decide)) rfl rfl (Nat.le_of_ble_eq_true rfl) ⟨Nat.le_of_ble_eq_true rfl, Nat.le_of_ble_eq_true rfl⟩ ⟨Nat.le_of_ble_eq_true rfl, Nat.le_of_ble_eq_true rfl⟩ ?_
        refine ev_if_ne (pc := 46) (tgt := 51) dX11_fits_46 (by decide) (fun zc46 => ?_) (fun zc46 => ?_)
        · -- ne at 46: taken
          obtain ⟨zl, hzl, rfl⟩ := vp_in_of (vp_sm (N := 1000) (bI_n0.mp zc9).1 (bI_n0.mp zc9).2 (by decide) (by decide)) (by decide)
          obtain ⟨zk, hzk, rfl⟩ := vp_in_of (vp_sm (N := 100) (bI_n0.mp zc21).1 (bI_n0.mp zc21).2 (by decide) (by decide)) (by decide)
          obtain ⟨zs, hzs, rfl⟩ := vp_in_of (vp_sm (N := 10) (bI_n0.mp zc33).1 (bI_n0.mp zc33).2 (by decide) (by decide)) (by decide)
          have hl1 : 0 < zl := (nI_leI (a := 1) (b := zl) (by decide) (by omega)).mp (bI_n0.mp zc9).1
          have hk1 : 0 < zk := (nI_leI (a := 1) (b := zk) (by decide) (by omega)).mp (bI_n0.mp zc21).1
          refine ev_bipush (pc := 51) (v := (-4)) dX11_fits_51 (by decide) ?_
          refine ev_istore (pc := 53) (L' := [some (.ref 49), some (.int (nI zl)), some (.int (nI zk)), some (.int (nI zs)), some (.int zv), some (.int ((-4))), none, none, none, none, none]) dX11_fits_53 (Nat.le_of_ble_eq_true rfl) rfl ?_
          refine ev_bipush (pc := 55) (v := (-4)) dX11_fits_55 (by decide) ?_
          refine ev_istore (pc := 57) (L' := [some (.ref 49), some (.int (nI zl)), some (.int (nI zk)), some (.int (nI zs)), some (.int zv), some (.int ((-4))), some (.int ((-4))), none, none, none, none]) dX11_fits_57 (Nat.le_of_ble_eq_true rfl) rfl ?_
          refine ev_bipush (pc := 59) (v := (-4)) dX11_fits_59 (by decide) ?_
          refine ev_istore (pc := 61) (L' := [some (.ref 49), some (.int (nI zl)), some (.int (nI zk)), some (.int (nI zs)), some (.int zv), some (.int ((-4))), some (.int ((-4))), some (.int ((-4))), none, none, none]) dX11_fits_61 (Nat.le_of_ble_eq_true rfl) rfl ?_
          refine ev_iconst (pc := 63) (v := 1) dX11_fits_63 (by decide) ?_
          refine ev_istore (pc := 64) (L' := [some (.ref 49), some (.int (nI zl)), some (.int (nI zk)), some (.int (nI zs)), some (.int zv), some (.int ((-4))), some (.int ((-4))), some (.int ((-4))), some (.int 1), none, none]) dX11_fits_64 (Nat.le_of_ble_eq_true rfl) rfl ?_
          have zn0 : ∀ zq : Nat, ftV zl zk zs 0 zq = -4 := fun zq => if_neg (fun z => by have z1 := (ftQ_iff hk1 hl1).mp z; omega)
          refine ev_eqL (L' := [some (.ref 49), some (.int (nI zl)), some (.int (nI zk)), some (.int (nI zs)), some (.int zv), some (.int (ftV zl zk zs 0 0)), some (.int (ftV zl zk zs 0 (ftQ zl zk zs))), some (.int (ftV zl zk zs 0 (ftU zl zk zs 0))), some (.int (nI (0 + 1))), none, none]) (by rw [zn0, zn0, zn0]; rfl) ?_
          refine lp_fits_66 E h zl zk zs zv hw hl1 (by omega) hk1 (by omega) (by omega) ?_ (zl / zk) 0 (Nat.zero_add _)
          refine ev_iload (pc := 159) dX11_fits_159 rfl ?_
          refine ev_if_ne (pc := 161) (tgt := 169) dX11_fits_161 (by decide) (fun zc161 => ?_) (fun zc161 => ?_)
          · -- ne at 161: taken
            refine ev_iload (pc := 169) dX11_fits_169 rfl ?_
            refine ev_iconst (pc := 171) (v := 1) dX11_fits_171 (by decide) ?_
            refine ev_icmp_ne (pc := 172) (tgt := 180) dX11_fits_172 (by decide) (fun zc172 => ?_) (fun zc172 => ?_)
            · -- ne at 172: taken
              refine ev_iload (pc := 180) dX11_fits_180 rfl ?_
              refine ev_iret (pc := 182) dX11_fits_182 rfl ?_ ?_
              · rfl
              · refine ⟨?_, rfl⟩
                simp only [bI_0, bI_n0, Classical.not_not] at zc9 zc21 zc33 zc46
                rw [if_pos (show (1 ≤ nI zl ∧ nI zl ≤ 999) ∧ (1 ≤ nI zk ∧ nI zk ≤ 99) ∧ (0 ≤ nI zs ∧ nI zs ≤ 9) ∧ (0 ≤ zv ∧ zv ≤ 2) from ⟨zc9, zc21, zc33, zc46⟩), nI_clamp (n := zl) (by omega), nI_clamp (n := zk) (by omega), nI_clamp (n := zs) (by omega)]
                unfold ftR ftV
                rw [if_neg zc161, if_neg zc172]
            · -- ne at 172: not taken
              refine ev_iload (pc := 175) dX11_fits_175 rfl ?_
              refine ev_goto (pc := 177) (tgt := 182) dX11_fits_177 (by decide) ?_
              refine ev_iret (pc := 182) dX11_fits_182 rfl ?_ ?_
              · rfl
              · refine ⟨?_, rfl⟩
                simp only [bI_0, bI_n0, Classical.not_not] at zc9 zc21 zc33 zc46
                rw [if_pos (show (1 ≤ nI zl ∧ nI zl ≤ 999) ∧ (1 ≤ nI zk ∧ nI zk ≤ 99) ∧ (0 ≤ nI zs ∧ nI zs ≤ 9) ∧ (0 ≤ zv ∧ zv ≤ 2) from ⟨zc9, zc21, zc33, zc46⟩), nI_clamp (n := zl) (by omega), nI_clamp (n := zk) (by omega), nI_clamp (n := zs) (by omega)]
                unfold ftR ftV
                rw [if_neg zc161, if_pos zc172]
          · -- ne at 161: not taken
            refine ev_iload (pc := 164) dX11_fits_164 rfl ?_
            refine ev_goto (pc := 166) (tgt := 182) dX11_fits_166 (by decide) ?_
            refine ev_iret (pc := 182) dX11_fits_182 rfl ?_ ?_
            · rfl
            · refine ⟨?_, rfl⟩
              simp only [bI_0, bI_n0, Classical.not_not] at zc9 zc21 zc33 zc46
              rw [if_pos (show (1 ≤ nI zl ∧ nI zl ≤ 999) ∧ (1 ≤ nI zk ∧ nI zk ≤ 99) ∧ (0 ≤ nI zs ∧ nI zs ≤ 9) ∧ (0 ≤ zv ∧ zv ≤ 2) from ⟨zc9, zc21, zc33, zc46⟩), nI_clamp (n := zl) (by omega), nI_clamp (n := zk) (by omega), nI_clamp (n := zs) (by omega)]
              unfold ftR ftV
              rw [if_pos zc161]
        · -- ne at 46: not taken
          refine ev_iconst (pc := 49) (v := (-1)) dX11_fits_49 (by decide) ?_
          refine ev_iret (pc := 50) dX11_fits_50 rfl ?_ ?_
          · rfl
          · refine ⟨?_, rfl⟩
            simp only [bI_0, bI_n0, Classical.not_not] at *
            have hC : ¬ ((1 ≤ zl0 ∧ zl0 ≤ 999) ∧ (1 ≤ zk0 ∧ zk0 ≤ 99) ∧ (0 ≤ zs0 ∧ zs0 ≤ 9) ∧ (0 ≤ zv ∧ zv ≤ 2)) := fun q => by first | exact zc9 q.1 | exact zc21 q.2.1 | exact zc33 q.2.2.1 | exact zc46 q.2.2.2
            rw [if_neg hC]
theorem st_N (zf : Nat → Int32) (zc : Int32) : ∀ zn, stF zf zc zn = nI (fb_ct (fun zq => decide (zf zq = zc)) zn)
  | 0 => rfl
  | zn + 1 => by
    rw [stF, fb_ct_succ, st_N zf zc zn, ← nI_add]
    by_cases h : zf zn = zc
    · rw [if_pos h, if_pos (decide_eq_true h)]; rfl
    · rw [if_neg h, decide_eq_false h]; rfl
def wkN (zn zd : Nat → Nat) : Nat → Nat × Nat
  | 0 => (0, 1)
  | zc + 1 => (((wkN zn zd zc).1 * zd zc + zn zc * (wkN zn zd zc).2) / Nat.gcd ((wkN zn zd zc).1 * zd zc + zn zc * (wkN zn zd zc).2) ((wkN zn zd zc).2 * zd zc), ((wkN zn zd zc).2 * zd zc) / Nat.gcd ((wkN zn zd zc).1 * zd zc + zn zc * (wkN zn zd zc).2) ((wkN zn zd zc).2 * zd zc))
theorem wk_ok {zn zd : Nat → Nat} : ∀ zc, (∀ zq, zq < zc → zn zq ≤ 64 ∧ 1 ≤ zd zq ∧ zd zq ≤ 99) → 1 ≤ (wkN zn zd zc).2 ∧ (wkN zn zd zc).2 ≤ 99 ^ zc ∧ (wkN zn zd zc).1 ≤ 64 * zc * 99 ^ zc
  | 0, _ => ⟨Nat.le_refl _, Nat.le_refl _, Nat.zero_le _⟩
  | zc + 1, H => by
    have ih := wk_ok zc (fun zq hq => H zq (by omega))
    have hc := H zc (by omega)
    rw [wkN]
    generalize wkN zn zd zc = zx at *
    obtain ⟨za, zb⟩ := zx
    have h1 := ih.1
    have h2 := ih.2.1
    have h3 := ih.2.2
    dsimp only at *
    have h4 : 0 < zb * zd zc := Nat.mul_pos h1 hc.2.1
    have h5 : zb * zd zc ≤ 99 ^ zc * 99 := Nat.mul_le_mul h2 hc.2.2
    have h6 : za * zd zc ≤ 64 * zc * 99 ^ zc * 99 := Nat.mul_le_mul h3 hc.2.2
    have h7 : zn zc * zb ≤ 64 * 99 ^ zc := Nat.mul_le_mul hc.1 h2
    have h8 : 64 * 99 ^ zc ≤ 64 * 99 ^ zc * 99 := Nat.le_mul_of_pos_right _ (by decide)
    refine ⟨Nat.div_pos (Nat.gcd_le_right _ h4) (Nat.gcd_pos_of_pos_right _ h4), Nat.le_trans (Nat.div_le_self _ _) (by rw [Nat.pow_succ]; exact h5), Nat.le_trans (Nat.div_le_self _ _) ?_⟩
    rw [Nat.pow_succ, Nat.mul_add, Nat.mul_one, Nat.add_mul, ← Nat.mul_assoc, ← Nat.mul_assoc]
    omega
theorem p99 : ∀ zc, zc ≤ 6 → 99 ^ zc ≤ 941480149401 := by decide
theorem wk_b {zn zd : Nat → Nat} {zc : Nat} (hc : zc ≤ 6) (H : ∀ zq, zq < 6 → zn zq ≤ 64 ∧ 1 ≤ zd zq ∧ zd zq ≤ 99) : 1 ≤ (wkN zn zd zc).2 ∧ (wkN zn zd zc).2 ≤ 941480149401 ∧ (wkN zn zd zc).1 ≤ 384 * 941480149401 := by
  have h1 := wk_ok (zn := zn) (zd := zd) zc (fun zq hq => H zq (by omega))
  have h2 := p99 zc hc
  exact ⟨h1.1, Nat.le_trans h1.2.1 h2, Nat.le_trans h1.2.2 (Nat.mul_le_mul (by omega) h2)⟩
theorem lp_works_27 (E : ME) (h : AH) (zn zd zp : Nat → Nat) (zv : Int32) (hw : WF h) (hn : zn = (fun zq => fb_ct (fun zi => decide (h.2.1 69 zi = nI zq)) 64)) (hd : ∀ zq, zq < 6 → h.2.1 58 zq = nI (zd zq) ∧ 1 ≤ zd zq ∧ zd zq ≤ 99) (hp : ∀ zq, zq < 6 → h.2.1 57 zq = nI (zp zq) ∧ zp zq ≤ 99) {post : PO} (K : Ev E mX11_works (rmm 1 0 0) (QM E 0 0 post) 0 0 116 [some (.ref 49), some (.int zv), some (.long (lN (fb_sm (fun zq => zn zq * zp zq) 6))), none, some (.long (lN (wkN zn zd 6).1)), none, some (.long (lN (wkN zn zd 6).2)), none, some (.int (nI 6)), none, none, none, none, none] [] h) : ∀ zf i : Nat, i + zf = 6 → Ev E mX11_works (rmm 1 0 0) (QM E 0 0 post) 0 0 27 [some (.ref 49), some (.int zv), some (.long (lN (fb_sm (fun zq => zn zq * zp zq) i))), none, some (.long (lN (wkN zn zd i).1)), none, some (.long (lN (wkN zn zd i).2)), none, some (.int (nI i)), none, none, none, none, none] [] h := by
  intro zf
  induction zf with
  | zero =>
    intro i hi
    obtain rfl : 6 = i := by omega
    refine ev_iload (pc := 27) dX11_works_27 rfl ?_
    refine ev_bipush (pc := 29) (v := 6) dX11_works_29 (by decide) ?_
    refine ev_icmp_ge (pc := 31) (tgt := 116) dX11_works_31 (by decide) (fun zc31 => ?_) (fun zc31 => absurd (by decide) zc31)
    exact K
  | succ zf ih =>
    intro i hi
    have hlt : i < 6 := by omega
    have zst : stF (h.2.1 69) (nI i) 64 = nI (zn i) := by rw [st_N, hn]
    have znb : ∀ zq, zn zq ≤ 64 := fun zq => by rw [hn]; exact fb_ct_le _ _
    have zH : ∀ zq, zq < 6 → zn zq ≤ 64 ∧ 1 ≤ zd zq ∧ zd zq ≤ 99 := fun zq hq => ⟨znb zq, (hd zq hq).2⟩
    have zb := wk_b (zc := i) (by omega) zH
    have zn1 := znb i
    have zd1 := hd i hlt
    have zp1 := hp i hlt
    have zt1 : (wkN zn zd i).1 * zd i ≤ 384 * 941480149401 * 99 := Nat.mul_le_mul zb.2.2 zd1.2.2
    have zt2 : zn i * (wkN zn zd i).2 ≤ 64 * 941480149401 := Nat.mul_le_mul zn1 zb.2.1
    have zt3 : (wkN zn zd i).2 * zd i ≤ 941480149401 * 99 := Nat.mul_le_mul zb.2.1 zd1.2.2
    have zt4 : 0 < (wkN zn zd i).2 * zd i := Nat.mul_pos zb.1 zd1.2.1
    refine ev_iload (pc := 27) dX11_works_27 rfl ?_
    refine ev_bipush (pc := 29) (v := 6) dX11_works_29 (by decide) ?_
    refine ev_icmp_ge (pc := 31) (tgt := 116) dX11_works_31 (by decide) (fun zc31 => absurd zc31 (nI_ge hlt (by decide))) (fun zc31 => ?_)
    refine ev_aload_n (pc := 34) dX11_works_34 rfl ?_
    refine ev_iload (pc := 35) dX11_works_35 rfl ?_
    refine ev_callVv (S := []) (pc := 37) dX11_works_37 kX11_stonesOf lX11_318 vX11_stonesOf (cn_X11_stonesOf E h (nI i) hw) rfl rfl (wlt hw (by decide)) rfl rfl (Nat.le_of_ble_eq_true rfl) ⟨Nat.le_of_ble_eq_true rfl, Nat.le_of_ble_eq_true rfl⟩ ⟨Nat.le_of_ble_eq_true rfl, Nat.le_of_ble_eq_true rfl⟩ ?_
    refine ev_eqI (e' := nI (zn i)) zst ?_
    refine ev_istore (pc := 40) (L' := [some (.ref 49), some (.int zv), some (.long (lN (fb_sm (fun zq => zn zq * zp zq) i))), none, some (.long (lN (wkN zn zd i).1)), none, some (.long (lN (wkN zn zd i).2)), none, some (.int (nI i)), some (.int (nI (zn i))), none, none, none, none]) dX11_works_40 (Nat.le_of_ble_eq_true rfl) rfl ?_
    refine ev_lload_n (pc := 42) dX11_works_42 rfl ?_
    refine ev_iload (pc := 43) dX11_works_43 rfl ?_
    refine ev_i2l (pc := 45) dX11_works_45 ?_
    refine ev_eqJ (e' := lN (zn i)) (nI_l (by omega)) ?_
    refine ev_aload_n (pc := 46) dX11_works_46 rfl ?_
    refine ev_getR (pc := 47) (q := 57) dX11_works_47 fX11_35 rfl (wlt hw (by decide)) (wr hw rfl) ?_
    refine ev_iload (pc := 50) dX11_works_50 rfl ?_
    refine ev_iald (pc := 52) dX11_works_52 rfl (wlt hw (by decide)) (vp_in_nI (by omega) (by decide)) ?_
    refine ev_eqI (e' := h.2.1 57 i) (by rw [show Int32.toNatClampNeg (nI i) = i from nI_clamp (by omega)] <;> rfl) ?_
    refine ev_i2l (pc := 53) dX11_works_53 ?_
    refine ev_eqJ (e' := lN (zp i)) (by rw [zp1.1]; exact nI_l (by omega)) ?_
    refine ev_lmul (pc := 54) dX11_works_54 ?_
    refine ev_eqJ (e' := lN (zn i * zp i)) (lN_mul _ _) ?_
    refine ev_ladd (pc := 55) dX11_works_55 ?_
    refine ev_eqJ (e' := lN (fb_sm (fun zq => zn zq * zp zq) (i + 1))) (by rw [fb_sm_succ, lN_add]) ?_
    refine ev_lstore_n (pc := 56) (L' := [some (.ref 49), some (.int zv), some (.long (lN (fb_sm (fun zq => zn zq * zp zq) (i + 1)))), none, some (.long (lN (wkN zn zd i).1)), none, some (.long (lN (wkN zn zd i).2)), none, some (.int (nI i)), some (.int (nI (zn i))), none, none, none, none]) dX11_works_56 (Nat.le_of_ble_eq_true rfl) rfl ?_
    refine ev_lload (pc := 57) dX11_works_57 rfl ?_
    refine ev_aload_n (pc := 59) dX11_works_59 rfl ?_
    refine ev_getR (pc := 60) (q := 58) dX11_works_60 fX11_38 rfl (wlt hw (by decide)) (wr hw rfl) ?_
    refine ev_iload (pc := 63) dX11_works_63 rfl ?_
    refine ev_iald (pc := 65) dX11_works_65 rfl (wlt hw (by decide)) (vp_in_nI (by omega) (by decide)) ?_
    refine ev_eqI (e' := h.2.1 58 i) (by rw [show Int32.toNatClampNeg (nI i) = i from nI_clamp (by omega)] <;> rfl) ?_
    refine ev_i2l (pc := 66) dX11_works_66 ?_
    refine ev_eqJ (e' := lN (zd i)) (by rw [zd1.1]; exact nI_l (by omega)) ?_
    refine ev_lmul (pc := 67) dX11_works_67 ?_
    refine ev_eqJ (e' := lN ((wkN zn zd i).1 * zd i)) (lN_mul _ _) ?_
    refine ev_iload (pc := 68) dX11_works_68 rfl ?_
    refine ev_i2l (pc := 70) dX11_works_70 ?_
    refine ev_eqJ (e' := lN (zn i)) (nI_l (by omega)) ?_
    refine ev_lload (pc := 71) dX11_works_71 rfl ?_
    refine ev_lmul (pc := 73) dX11_works_73 ?_
    refine ev_eqJ (e' := lN (zn i * (wkN zn zd i).2)) (lN_mul _ _) ?_
    refine ev_ladd (pc := 74) dX11_works_74 ?_
    refine ev_eqJ (e' := lN ((wkN zn zd i).1 * zd i + zn i * (wkN zn zd i).2)) (lN_add _ _) ?_
    refine ev_lstore (pc := 75) (L' := [some (.ref 49), some (.int zv), some (.long (lN (fb_sm (fun zq => zn zq * zp zq) (i + 1)))), none, some (.long (lN (wkN zn zd i).1)), none, some (.long (lN (wkN zn zd i).2)), none, some (.int (nI i)), some (.int (nI (zn i))), some (.long (lN ((wkN zn zd i).1 * zd i + zn i * (wkN zn zd i).2))), none, none, none]) dX11_works_75 (Nat.le_of_ble_eq_true rfl) rfl ?_
    refine ev_lload (pc := 77) dX11_works_77 rfl ?_
    refine ev_aload_n (pc := 79) dX11_works_79 rfl ?_
    refine ev_getR (pc := 80) (q := 58) dX11_works_80 fX11_38 rfl (wlt hw (by decide)) (wr hw rfl) ?_
    refine ev_iload (pc := 83) dX11_works_83 rfl ?_
    refine ev_iald (pc := 85) dX11_works_85 rfl (wlt hw (by decide)) (vp_in_nI (by omega) (by decide)) ?_
    refine ev_eqI (e' := h.2.1 58 i) (by rw [show Int32.toNatClampNeg (nI i) = i from nI_clamp (by omega)] <;> rfl) ?_
    refine ev_i2l (pc := 86) dX11_works_86 ?_
    refine ev_eqJ (e' := lN (zd i)) (by rw [zd1.1]; exact nI_l (by omega)) ?_
    refine ev_lmul (pc := 87) dX11_works_87 ?_
    refine ev_eqJ (e' := lN ((wkN zn zd i).2 * zd i)) (lN_mul _ _) ?_
    refine ev_lstore (pc := 88) (L' := [some (.ref 49), some (.int zv), some (.long (lN (fb_sm (fun zq => zn zq * zp zq) (i + 1)))), none, some (.long (lN (wkN zn zd i).1)), none, some (.long (lN (wkN zn zd i).2)), none, some (.int (nI i)), some (.int (nI (zn i))), some (.long (lN ((wkN zn zd i).1 * zd i + zn i * (wkN zn zd i).2))), none, some (.long (lN ((wkN zn zd i).2 * zd i))), none]) dX11_works_88 (Nat.le_of_ble_eq_true rfl) rfl ?_
    refine ev_lload (pc := 90) dX11_works_90 rfl ?_
    refine ev_lload (pc := 92) dX11_works_92 rfl ?_
    refine ev_iconst (pc := 94) (v := 0) dX11_works_94 (by decide) ?_
    refine ev_callSv (S := []) (pc := 95) dX11_works_95 kX11_lowest lX11_222 sX11_lowest (cn_X11_lowest E h ((wkN zn zd i).1 * zd i + zn i * (wkN zn zd i).2) ((wkN zn zd i).2 * zd i) 0 hw (by omega) (by omega) zt4) rfl rfl (Nat.le_of_ble_eq_true rfl) ⟨Nat.le_of_ble_eq_true rfl, Nat.le_of_ble_eq_true rfl⟩ ⟨Nat.le_of_ble_eq_true rfl, Nat.le_of_ble_eq_true rfl⟩ ?_
    refine ev_lstore (pc := 98) (L' := [some (.ref 49), some (.int zv), some (.long (lN (fb_sm (fun zq => zn zq * zp zq) (i + 1)))), none, some (.long (if (0 : Int32) = 0 then lN (((wkN zn zd i).1 * zd i + zn i * (wkN zn zd i).2) / Nat.gcd ((wkN zn zd i).1 * zd i + zn i * (wkN zn zd i).2) ((wkN zn zd i).2 * zd i)) else lN (((wkN zn zd i).2 * zd i) / Nat.gcd ((wkN zn zd i).1 * zd i + zn i * (wkN zn zd i).2) ((wkN zn zd i).2 * zd i)))), none, some (.long (lN (wkN zn zd i).2)), none, some (.int (nI i)), some (.int (nI (zn i))), some (.long (lN ((wkN zn zd i).1 * zd i + zn i * (wkN zn zd i).2))), none, some (.long (lN ((wkN zn zd i).2 * zd i))), none]) dX11_works_98 (Nat.le_of_ble_eq_true rfl) rfl ?_
    refine ev_lload (pc := 100) dX11_works_100 rfl ?_
    refine ev_lload (pc := 102) dX11_works_102 rfl ?_
    refine ev_iconst (pc := 104) (v := 1) dX11_works_104 (by decide) ?_
    refine ev_callSv (S := []) (pc := 105) dX11_works_105 kX11_lowest lX11_222 sX11_lowest (cn_X11_lowest E h ((wkN zn zd i).1 * zd i + zn i * (wkN zn zd i).2) ((wkN zn zd i).2 * zd i) 1 hw (by omega) (by omega) zt4) rfl rfl (Nat.le_of_ble_eq_true rfl) ⟨Nat.le_of_ble_eq_true rfl, Nat.le_of_ble_eq_true rfl⟩ ⟨Nat.le_of_ble_eq_true rfl, Nat.le_of_ble_eq_true rfl⟩ ?_
    refine ev_lstore (pc := 108) (L' := [some (.ref 49), some (.int zv), some (.long (lN (fb_sm (fun zq => zn zq * zp zq) (i + 1)))), none, some (.long (if (0 : Int32) = 0 then lN (((wkN zn zd i).1 * zd i + zn i * (wkN zn zd i).2) / Nat.gcd ((wkN zn zd i).1 * zd i + zn i * (wkN zn zd i).2) ((wkN zn zd i).2 * zd i)) else lN (((wkN zn zd i).2 * zd i) / Nat.gcd ((wkN zn zd i).1 * zd i + zn i * (wkN zn zd i).2) ((wkN zn zd i).2 * zd i)))), none, some (.long (if (1 : Int32) = 0 then lN (((wkN zn zd i).1 * zd i + zn i * (wkN zn zd i).2) / Nat.gcd ((wkN zn zd i).1 * zd i + zn i * (wkN zn zd i).2) ((wkN zn zd i).2 * zd i)) else lN (((wkN zn zd i).2 * zd i) / Nat.gcd ((wkN zn zd i).1 * zd i + zn i * (wkN zn zd i).2) ((wkN zn zd i).2 * zd i)))), none, some (.int (nI i)), some (.int (nI (zn i))), some (.long (lN ((wkN zn zd i).1 * zd i + zn i * (wkN zn zd i).2))), none, some (.long (lN ((wkN zn zd i).2 * zd i))), none]) dX11_works_108 (Nat.le_of_ble_eq_true rfl) rfl ?_
    refine ev_iinc (pc := 110) (v := nI (i + 1)) (L' := [some (.ref 49), some (.int zv), some (.long (lN (fb_sm (fun zq => zn zq * zp zq) (i + 1)))), none, some (.long (if (0 : Int32) = 0 then lN (((wkN zn zd i).1 * zd i + zn i * (wkN zn zd i).2) / Nat.gcd ((wkN zn zd i).1 * zd i + zn i * (wkN zn zd i).2) ((wkN zn zd i).2 * zd i)) else lN (((wkN zn zd i).2 * zd i) / Nat.gcd ((wkN zn zd i).1 * zd i + zn i * (wkN zn zd i).2) ((wkN zn zd i).2 * zd i)))), none, some (.long (if (1 : Int32) = 0 then lN (((wkN zn zd i).1 * zd i + zn i * (wkN zn zd i).2) / Nat.gcd ((wkN zn zd i).1 * zd i + zn i * (wkN zn zd i).2) ((wkN zn zd i).2 * zd i)) else lN (((wkN zn zd i).2 * zd i) / Nat.gcd ((wkN zn zd i).1 * zd i + zn i * (wkN zn zd i).2) ((wkN zn zd i).2 * zd i)))), none, some (.int (nI (i + 1))), some (.int (nI (zn i))), some (.long (lN ((wkN zn zd i).1 * zd i + zn i * (wkN zn zd i).2))), none, some (.long (lN ((wkN zn zd i).2 * zd i))), none]) dX11_works_110 rfl (nI_1 _) (Nat.le_of_ble_eq_true rfl) rfl ?_
    refine ev_goto (pc := 113) (tgt := 27) dX11_works_113 (by decide) ?_
    refine ev_less (L' := [some (.ref 49), some (.int zv), some (.long (lN (fb_sm (fun zq => zn zq * zp zq) (i + 1)))), none, some (.long (if (0 : Int32) = 0 then lN (((wkN zn zd i).1 * zd i + zn i * (wkN zn zd i).2) / Nat.gcd ((wkN zn zd i).1 * zd i + zn i * (wkN zn zd i).2) ((wkN zn zd i).2 * zd i)) else lN (((wkN zn zd i).2 * zd i) / Nat.gcd ((wkN zn zd i).1 * zd i + zn i * (wkN zn zd i).2) ((wkN zn zd i).2 * zd i)))), none, some (.long (if (1 : Int32) = 0 then lN (((wkN zn zd i).1 * zd i + zn i * (wkN zn zd i).2) / Nat.gcd ((wkN zn zd i).1 * zd i + zn i * (wkN zn zd i).2) ((wkN zn zd i).2 * zd i)) else lN (((wkN zn zd i).2 * zd i) / Nat.gcd ((wkN zn zd i).1 * zd i + zn i * (wkN zn zd i).2) ((wkN zn zd i).2 * zd i)))), none, some (.int (nI (i + 1))), none, none, none, none, none]) (ls_keep (ls_keep (ls_keep (ls_keep (ls_keep (ls_keep (ls_keep (ls_keep (ls_keep (ls_drop (ls_drop (ls_keep (ls_drop (ls_keep (ls_nil _))))))))))))))) ?_
    refine ev_eqL (L' := [some (.ref 49), some (.int zv), some (.long (lN (fb_sm (fun zq => zn zq * zp zq) (i + 1)))), none, some (.long (lN (wkN zn zd (i + 1)).1)), none, some (.long (lN (wkN zn zd (i + 1)).2)), none, some (.int (nI (i + 1))), none, none, none, none, none]) (by rw [wkN, if_pos rfl, if_neg (by decide)]) ?_
    exact ih (i + 1) (by omega)
theorem cn_X11_works (E : ME) (h : AH) (zv : Int32) (zn zd zp : Nat → Nat) (hw : WF h) (hn : zn = (fun zq => fb_ct (fun zi => decide (h.2.1 69 zi = nI zq)) 64)) (hd : ∀ zq, zq < 6 → h.2.1 58 zq = nI (zd zq) ∧ 1 ≤ zd zq ∧ zd zq ≤ 99) (hp : ∀ zq, zq < 6 → h.2.1 57 zq = nI (zp zq) ∧ zp zq ≤ 99) : Con E mX11_works 1 0 0 [.ref 49, .int zv] h (fun r h' => r = some (.long (if 0 ≤ zv ∧ zv ≤ 2 then (if zv = 0 then lN (fb_sm (fun zq => zn zq * zp zq) 6) else if zv = 1 then lN (wkN zn zd 6).1 else lN (wkN zn zd 6).2) else -1)) ∧ h' = h) := by
  refine con_of2 (L := [some (.ref 49), some (.int zv), none, none, none, none, none, none, none, none, none, none, none, none]) rfl (Nat.le_of_ble_eq_true rfl) rfl ?_
  refine ev_iload_n (pc := 0) dX11_works_0 rfl ?_
  refine ev_i2l (pc := 1) dX11_works_1 ?_
  refine ev_lconst (pc := 2) (v := 0) dX11_works_2 (by decide) ?_
  refine ev_ldc2 (pc := 3) (v := 2) dX11_works_3 kcX11_245 ?_
  refine ev_callSv (S := []) (pc := 6) dX11_works_6 kX11_in lX11_96 sX11_in (cn_X11_inC E h zv 0 2 _ _ _ rfl (by decide) (by decide)) rfl rfl (Nat.le_of_ble_eq_true rfl) ⟨Nat.le_of_ble_eq_true rfl, Nat.le_of_ble_eq_true rfl⟩ ⟨Nat.le_of_ble_eq_true rfl, Nat.le_of_ble_eq_true rfl⟩ ?_
  refine ev_if_ne (pc := 9) (tgt := 16) dX11_works_9 (by decide) (fun zc9 => ?_) (fun zc9 => ?_)
  · -- ne at 9: taken
    refine ev_lconst (pc := 16) (v := 0) dX11_works_16 (by decide) ?_
    refine ev_lstore_n (pc := 17) (L' := [some (.ref 49), some (.int zv), some (.long 0), none, none, none, none, none, none, none, none, none, none, none]) dX11_works_17 (Nat.le_of_ble_eq_true rfl) rfl ?_
    refine ev_lconst (pc := 18) (v := 0) dX11_works_18 (by decide) ?_
    refine ev_lstore (pc := 19) (L' := [some (.ref 49), some (.int zv), some (.long 0), none, some (.long 0), none, none, none, none, none, none, none, none, none]) dX11_works_19 (Nat.le_of_ble_eq_true rfl) rfl ?_
    refine ev_lconst (pc := 21) (v := 1) dX11_works_21 (by decide) ?_
    refine ev_lstore (pc := 22) (L' := [some (.ref 49), some (.int zv), some (.long 0), none, some (.long 0), none, some (.long 1), none, none, none, none, none, none, none]) dX11_works_22 (Nat.le_of_ble_eq_true rfl) rfl ?_
    refine ev_iconst (pc := 24) (v := 0) dX11_works_24 (by decide) ?_
    refine ev_istore (pc := 25) (L' := [some (.ref 49), some (.int zv), some (.long 0), none, some (.long 0), none, some (.long 1), none, some (.int 0), none, none, none, none, none]) dX11_works_25 (Nat.le_of_ble_eq_true rfl) rfl ?_
    refine lp_works_27 E h zn zd zp zv hw hn hd hp ?_ 6 0 (Nat.zero_add _)
    refine ev_iload_n (pc := 116) dX11_works_116 rfl ?_
    refine ev_if_ne (pc := 117) (tgt := 124) dX11_works_117 (by decide) (fun zc117 => ?_) (fun zc117 => ?_)
    · -- ne at 117: taken
      refine ev_iload_n (pc := 124) dX11_works_124 rfl ?_
      refine ev_iconst (pc := 125) (v := 1) dX11_works_125 (by decide) ?_
      refine ev_icmp_ne (pc := 126) (tgt := 134) dX11_works_126 (by decide) (fun zc126 => ?_) (fun zc126 => ?_)
      · -- ne at 126: taken
        refine ev_lload (pc := 134) dX11_works_134 rfl ?_
        refine ev_lret (pc := 136) dX11_works_136 rfl ?_
        · refine ⟨?_, rfl⟩
          rw [if_pos (bI_n0.mp zc9), if_neg zc117, if_neg zc126]
      · -- ne at 126: not taken
        refine ev_lload (pc := 129) dX11_works_129 rfl ?_
        refine ev_goto (pc := 131) (tgt := 136) dX11_works_131 (by decide) ?_
        refine ev_lret (pc := 136) dX11_works_136 rfl ?_
        · refine ⟨?_, rfl⟩
          rw [if_pos (bI_n0.mp zc9), if_neg zc117, if_pos zc126]
    · -- ne at 117: not taken
      refine ev_lload_n (pc := 120) dX11_works_120 rfl ?_
      refine ev_goto (pc := 121) (tgt := 136) dX11_works_121 (by decide) ?_
      refine ev_lret (pc := 136) dX11_works_136 rfl ?_
      · refine ⟨?_, rfl⟩
        rw [if_pos (bI_n0.mp zc9), if_pos zc117]
  · -- ne at 9: not taken
    refine ev_ldc2 (pc := 12) (v := (-1)) dX11_works_12 kcX11_220 ?_
    refine ev_lret (pc := 15) dX11_works_15 rfl ?_
    · refine ⟨?_, rfl⟩
      rw [if_neg (bI_0.mp zc9)]
