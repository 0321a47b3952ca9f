/-- the heap but for a copy's three numbers -/
def lcX (h h2 : AH) : Prop := ∃ za zx zd : Int32, h2 = lcH h za zx zd
theorem lcX_rf (h : AH) : lcX h h := ⟨_, _, _, (lcH_id h).symm⟩
theorem cn_X11_copies (E : ME) (h : AH) (zp0 zl : Int32) (zb : Nat) (hw : WF h) (hb : h.2.1 49 16 = nI zb) (hb4 : zb ≤ 4) : Con E mX11_copies 3 0 0 [.ref 49, .int zp0, .int zl] h (fun r h' => r = some (.int (if (0 ≤ zp0 ∧ zp0 ≤ h.2.1 49 16 - 1) ∧ (0 ≤ zl ∧ zl ≤ 64) then cps h zp0.toNatClampNeg zl 1024 else -1)) ∧ lcX h h') := by
  refine con_of2 (L := [some (.ref 49), some (.int zp0), some (.int zl), none, none]) rfl (Nat.le_of_ble_eq_true rfl) rfl ?_
  refine ev_aload_n (pc := 0) dX11_copies_0 rfl ?_
  refine ev_iload_n (pc := 1) dX11_copies_1 rfl ?_
  refine ev_callVv (S := []) (pc := 2) dX11_copies_2 kX11_isPattern lX11_261 vX11_isPattern (cn_X11_isPattern E h zp0 hw) rfl rfl (wlt hw (by decide)) rfl rfl (Nat.le_of_ble_eq_true rfl) ⟨Nat.le_of_ble_eq_true rfl, Nat.le_of_ble_eq_true rfl⟩ ⟨Nat.le_of_ble_eq_true rfl, Nat.le_of_ble_eq_true rfl⟩ ?_
  refine ev_if_eq (pc := 5) (tgt := 20) dX11_copies_5 (by decide) (fun zc5 => ?_) (fun zc5 => ?_)
  · -- eq at 5: taken
    refine ev_iconst (pc := 20) (v := (-1)) dX11_copies_20 (by decide) ?_
    refine ev_iret (pc := 21) dX11_copies_21 rfl ?_ ?_
    · rfl
    · have zT : True := trivial
      simp only [bI_0, bI_n0, Classical.not_not] at *
      have hC : ¬ ((0 ≤ zp0 ∧ zp0 ≤ h.2.1 49 16 - 1) ∧ (0 ≤ zl ∧ zl ≤ 64)) := fun q => by first | exact zc5 q.1 | exact zc17 q.2
      rw [if_neg hC]
      exact ⟨rfl, lcX_rf h⟩
  · -- eq at 5: not taken
    refine ev_iload_n (pc := 8) dX11_copies_8 rfl ?_
    refine ev_i2l (pc := 9) dX11_copies_9 ?_
    refine ev_lconst (pc := 10) (v := 0) dX11_copies_10 (by decide) ?_
    refine ev_ldc2 (pc := 11) (v := 64) dX11_copies_11 kcX11_298 ?_
    refine ev_callSv (S := []) (pc := 14) dX11_copies_14 kX11_in lX11_96 sX11_in (cn_X11_inC E h zl 0 64 _ _ _ rfl (by decide) (by decide)) rfl rfl (Nat.le_of_ble_eq_true rfl) ⟨Nat.le_of_ble_eq_true rfl, Nat.le_of_ble_eq_true rfl⟩ ⟨Nat.le_of_ble_eq_true rfl, Nat.le_of_ble_eq_true rfl⟩ ?_
    refine ev_if_ne (pc := 17) (tgt := 22) dX11_copies_17 (by decide) (fun zc17 => ?_) (fun zc17 => ?_)
    · -- ne at 17: taken
      obtain ⟨zp, hzp, rfl⟩ := vp_in_of (show vp_in zp0 4 by
        have z1 := bI_n0.mp zc5
        rw [hb] at z1
        exact vp_th 4 z1.1 z1.2 hb4 (by decide)) (by decide)
      refine ev_iconst (pc := 22) (v := 0) dX11_copies_22 (by decide) ?_
      refine ev_istore_n (pc := 23) (L' := [some (.ref 49), some (.int (nI zp)), some (.int zl), some (.int 0), none]) dX11_copies_23 (Nat.le_of_ble_eq_true rfl) rfl ?_
      refine ev_iconst (pc := 24) (v := 0) dX11_copies_24 (by decide) ?_
      refine ev_istore (pc := 25) (L' := [some (.ref 49), some (.int (nI zp)), some (.int zl), some (.int 0), some (.int 0)]) dX11_copies_25 (Nat.le_of_ble_eq_true rfl) rfl ?_
      refine ev_eqH (lcH_id h).symm ?_
      refine lp_copies_27 E h zp zb zl hw hb hb4 hzp (fun za zx zd => ?_) 1024 0 _ _ _ (Nat.zero_add _)
      refine ev_iload_n (pc := 119) dX11_copies_119 rfl ?_
      refine ev_iret (pc := 120) dX11_copies_120 rfl ?_ ?_
      · rfl
      · have hC : (0 ≤ nI zp ∧ nI zp ≤ h.2.1 49 16 - 1) ∧ (0 ≤ zl ∧ zl ≤ 64) := ⟨bI_n0.mp zc5, bI_n0.mp zc17⟩
        rw [if_pos hC, nI_clamp (by omega)]
        exact ⟨rfl, _, _, _, rfl⟩
    · -- ne at 17: not taken
      refine ev_iconst (pc := 20) (v := (-1)) dX11_copies_20 (by decide) ?_
      refine ev_iret (pc := 21) dX11_copies_21 rfl ?_ ?_
      · rfl
      · have zT : True := trivial
        simp only [bI_0, bI_n0, Classical.not_not] at *
        have hC : ¬ ((0 ≤ zp0 ∧ zp0 ≤ h.2.1 49 16 - 1) ∧ (0 ≤ zl ∧ zl ≤ 64)) := fun q => by first | exact zc5 q.1 | exact zc17 q.2
        rw [if_neg hC]
        exact ⟨rfl, lcX_rf h⟩
def beF (h : AH) : Nat → Int32 × Int32
  | 0 => (-4, 0)
  | k + 1 => if cpy (h.2.1 49 16) (nI (k / 1024)) (nI (k / 64 % 8)) (nI (k / 512 % 2 + 1)) (nI (k % 64)) ∧ clN h (k / 1024) (k / 64 % 8) (k / 512 % 2 + 1) (k % 64) = 0 ∧ (beF h k).2 < agN h (k / 1024) (k / 64 % 8) (k / 512 % 2 + 1) (k % 64) then (nI k, agN h (k / 1024) (k / 64 % 8) (k / 512 % 2 + 1) (k % 64)) else beF h k
theorem lp_best_22 (E : ME) (h : AH) (zb : Nat) (zv : Int32) (hw : WF h) (hb : h.2.1 49 16 = nI zb) (hb4 : zb ≤ 4) {post : PO} (K : ∀ (za zx zd : Int32), Ev E mX11_best (rmm 3 0 0) (QM E 0 0 post) 0 0 129 [some (.ref 49), some (.int zv), some (.int ((beF h (1024 * zb)).1)), some (.int ((beF h (1024 * zb)).2)), some (.int (nI (1024 * zb))), none, none] [] (lcH h za zx zd)) : ∀ n i : Nat, ∀ (za zx zd : Int32), i + n = (1024 * zb) → Ev E mX11_best (rmm 3 0 0) (QM E 0 0 post) 0 0 22 [some (.ref 49), some (.int zv), some (.int ((beF h i).1)), some (.int ((beF h i).2)), some (.int (nI i)), none, none] [] (lcH h za zx zd) := by
  intro n
  induction n with
  | zero =>
    intro i za zx zd hi
    obtain rfl : 1024 * zb = i := by omega
    refine ev_iload (pc := 22) dX11_best_22 rfl ?_
    refine ev_sipush (pc := 24) (v := 1024) dX11_best_24 (by decide) ?_
    refine ev_aload_n (pc := 27) dX11_best_27 rfl ?_
    refine ev_getI (pc := 28) dX11_best_28 fX11_187 rfl (wlt (wf_lc hw) (by decide)) ?_
    refine ev_eqI (e' := nI zb) hb ?_
    refine ev_imul (pc := 31) dX11_best_31 ?_
    refine ev_eqI (e' := nI (1024 * zb)) (pk_mul 1024 zb) ?_
    refine ev_icmp_ge (pc := 32) (tgt := 129) dX11_best_32 (by decide) (fun zc32 => ?_) (fun zc32 => absurd ((nI_leI (by omega) (by omega)).mpr (Nat.le_refl _)) zc32)
    exact K za zx zd
  | succ n ih =>
    intro i za zx zd hi
    have hlt : i < (1024 * zb) := by omega
    refine ev_iload (pc := 22) dX11_best_22 rfl ?_
    refine ev_sipush (pc := 24) (v := 1024) dX11_best_24 (by decide) ?_
    refine ev_aload_n (pc := 27) dX11_best_27 rfl ?_
    refine ev_getI (pc := 28) dX11_best_28 fX11_187 rfl (wlt (wf_lc hw) (by decide)) ?_
    refine ev_eqI (e' := nI zb) hb ?_
    refine ev_imul (pc := 31) dX11_best_31 ?_
    refine ev_eqI (e' := nI (1024 * zb)) (pk_mul 1024 zb) ?_
    refine ev_icmp_ge (pc := 32) (tgt := 129) dX11_best_32 (by decide) (fun zc32 => absurd zc32 (nI_ge hlt (by omega))) (fun zc32 => ?_)
    refine ev_iload (pc := 35) dX11_best_35 rfl ?_
    refine ev_sipush (pc := 37) (v := 1024) dX11_best_37 (by decide) ?_
    refine ev_idiv (pc := 40) dX11_best_40 (by decide) ?_
    refine ev_eqI (e' := nI (i / 1024)) (pk_div (a := i) (d := 1024) (by omega) (by omega) (by omega)) ?_
    refine ev_istore (pc := 41) (L' := [some (.ref 49), some (.int zv), some (.int ((beF h i).1)), some (.int ((beF h i).2)), some (.int (nI i)), some (.int (nI (i / 1024))), none]) dX11_best_41 (Nat.le_of_ble_eq_true rfl) rfl ?_
    refine ev_iload (pc := 43) dX11_best_43 rfl ?_
    refine ev_sipush (pc := 45) (v := 512) dX11_best_45 (by decide) ?_
    refine ev_idiv (pc := 48) dX11_best_48 (by decide) ?_
    refine ev_eqI (e' := nI (i / 512)) (pk_div (a := i) (d := 512) (by omega) (by omega) (by omega)) ?_
    refine ev_iconst (pc := 49) (v := 2) dX11_best_49 (by decide) ?_
    refine ev_irem (pc := 50) dX11_best_50 (by decide) ?_
    refine ev_eqI (e' := nI ((i / 512) % 2)) (pk_rem (a := i / 512) (d := 2) (by omega) (by omega) (by omega)) ?_
    refine ev_iconst (pc := 51) (v := 1) dX11_best_51 (by decide) ?_
    refine ev_iadd (pc := 52) dX11_best_52 ?_
    refine ev_eqI (e' := nI (((i / 512) % 2) + 1)) (nI_add ((i / 512) % 2) 1) ?_
    refine ev_istore (pc := 53) (L' := [some (.ref 49), some (.int zv), some (.int ((beF h i).1)), some (.int ((beF h i).2)), some (.int (nI i)), some (.int (nI (i / 1024))), some (.int (nI (((i / 512) % 2) + 1)))]) dX11_best_53 (Nat.le_of_ble_eq_true rfl) rfl ?_
    refine ev_aload_n (pc := 55) dX11_best_55 rfl ?_
    refine ev_iload (pc := 56) dX11_best_56 rfl ?_
    refine ev_iload (pc := 58) dX11_best_58 rfl ?_
    refine ev_bipush (pc := 60) (v := 64) dX11_best_60 (by decide) ?_
    refine ev_idiv (pc := 62) dX11_best_62 (by decide) ?_
    refine ev_eqI (e' := nI (i / 64)) (pk_div (a := i) (d := 64) (by omega) (by omega) (by omega)) ?_
    refine ev_bipush (pc := 63) (v := 8) dX11_best_63 (by decide) ?_
    refine ev_irem (pc := 65) dX11_best_65 (by decide) ?_
    refine ev_eqI (e' := nI ((i / 64) % 8)) (pk_rem (a := i / 64) (d := 8) (by omega) (by omega) (by omega)) ?_
    refine ev_iload (pc := 66) dX11_best_66 rfl ?_
    refine ev_iload (pc := 68) dX11_best_68 rfl ?_
    refine ev_bipush (pc := 70) (v := 64) dX11_best_70 (by decide) ?_
    refine ev_irem (pc := 72) dX11_best_72 (by decide) ?_
    refine ev_eqI (e' := nI (i % 64)) (pk_rem (a := i) (d := 64) (by omega) (by omega) (by omega)) ?_
    refine ev_callVv (S := []) (pc := 73) dX11_best_73 kX11_isCopy lX11_288 vX11_isCopy (cn_X11_isCopy E (lcH h za zx zd) (nI (i / 1024)) (nI ((i / 64) % 8)) (nI (((i / 512) % 2) + 1)) (nI (i % 64)) (wf_lc hw)) rfl rfl (wlt (wf_lc hw) (by decide)) rfl rfl (Nat.le_of_ble_eq_true rfl) ⟨Nat.le_of_ble_eq_true rfl, Nat.le_of_ble_eq_true rfl⟩ ⟨Nat.le_of_ble_eq_true rfl, Nat.le_of_ble_eq_true rfl⟩ ?_
    refine ev_if_eq (pc := 76) (tgt := 123) dX11_best_76 (by decide) (fun zc76 => ?_) (fun zc76 => ?_)
    · -- eq at 76: taken
      refine ev_iinc (pc := 123) (v := nI (i + 1)) (L' := [some (.ref 49), some (.int zv), some (.int ((beF h i).1)), some (.int ((beF h i).2)), some (.int (nI (i + 1))), some (.int (nI (i / 1024))), some (.int (nI (((i / 512) % 2) + 1)))]) dX11_best_123 rfl (nI_1 _) (Nat.le_of_ble_eq_true rfl) rfl ?_
      refine ev_goto (pc := 126) (tgt := 22) dX11_best_126 (by decide) ?_
      refine ev_eqL (L' := [some (.ref 49), some (.int zv), some (.int ((beF h (i + 1)).1)), some (.int ((beF h (i + 1)).2)), some (.int (nI (i + 1))), some (.int (nI (i / 1024))), some (.int (nI (((i / 512) % 2) + 1)))]) (by simp only [beF, if_neg (show ¬ (cpy (h.2.1 49 16) (nI (i / 1024)) (nI (i / 64 % 8)) (nI (i / 512 % 2 + 1)) (nI (i % 64)) ∧ clN h (i / 1024) (i / 64 % 8) (i / 512 % 2 + 1) (i % 64) = 0 ∧ (beF h i).2 < agN h (i / 1024) (i / 64 % 8) (i / 512 % 2 + 1) (i % 64)) from fun z => bI_0.mp zc76 z.1)]) ?_
      refine ev_less (L' := [some (.ref 49), some (.int zv), some (.int ((beF h (i + 1)).1)), some (.int ((beF h (i + 1)).2)), some (.int (nI (i + 1))), none, none]) (ls_keep (ls_keep (ls_keep (ls_keep (ls_keep (ls_drop (ls_drop (ls_nil _)))))))) ?_
      exact ih (i + 1) _ _ _ (by omega)
    · -- eq at 76: not taken
      have zF := cpy_f hb hb4 (by omega) (by omega) (by omega) (by omega) (show cpy (h.2.1 49 16) (nI (i / 1024)) (nI (i / 64 % 8)) (nI (i / 512 % 2 + 1)) (nI (i % 64)) from bI_n0.mp zc76)
      refine ev_aload_n (pc := 79) dX11_best_79 rfl ?_
      refine ev_iload (pc := 80) dX11_best_80 rfl ?_
      refine ev_iload (pc := 82) dX11_best_82 rfl ?_
      refine ev_bipush (pc := 84) (v := 64) dX11_best_84 (by decide) ?_
      refine ev_idiv (pc := 86) dX11_best_86 (by decide) ?_
      refine ev_eqI (e' := nI (i / 64)) (pk_div (a := i) (d := 64) (by omega) (by omega) (by omega)) ?_
      refine ev_bipush (pc := 87) (v := 8) dX11_best_87 (by decide) ?_
      refine ev_irem (pc := 89) dX11_best_89 (by decide) ?_
      refine ev_eqI (e' := nI ((i / 64) % 8)) (pk_rem (a := i / 64) (d := 8) (by omega) (by omega) (by omega)) ?_
      refine ev_iload (pc := 90) dX11_best_90 rfl ?_
      refine ev_iload (pc := 92) dX11_best_92 rfl ?_
      refine ev_bipush (pc := 94) (v := 64) dX11_best_94 (by decide) ?_
      refine ev_irem (pc := 96) dX11_best_96 (by decide) ?_
      refine ev_eqI (e' := nI (i % 64)) (pk_rem (a := i) (d := 64) (by omega) (by omega) (by omega)) ?_
      refine ev_callV (S := []) (pc := 97) dX11_best_97 kX11_layCopy lX11_292 vX11_layCopy (cn_X11_lc E (lcH h za zx zd) (i / 1024) (i / 64 % 8) (i / 512 % 2 + 1) (i % 64) (wf_lc hw) zF.2.2.1 (by omega) zF.2.1 zF.2.2.2.1 zF.2.2.2.2.1 zF.2.2.2.2.2) rfl rfl (wlt (wf_lc hw) (by decide)) rfl rfl (Nat.le_of_ble_eq_true rfl) ⟨Nat.le_of_ble_eq_true rfl, Nat.le_of_ble_eq_true rfl⟩ ⟨Nat.le_of_ble_eq_true rfl, Nat.le_of_ble_eq_true rfl⟩ ?_
      rintro _ _ ⟨rfl, rfl⟩
      refine ev_eqH (h' := (lcH h (agN h (i / 1024) (i / 64 % 8) (i / 512 % 2 + 1) (i % 64)) (clN h (i / 1024) (i / 64 % 8) (i / 512 % 2 + 1) (i % 64)) (fiN h (i / 1024) (i / 64 % 8) (i / 512 % 2 + 1) (i % 64)))) (lcH_lcH _ _ _ _ _ _ _) ?_
      show Ev E mX11_best (rmm 3 0 0) (QM E 0 0 post) 0 0 100 [some (.ref 49), some (.int zv), some (.int ((beF h i).1)), some (.int ((beF h i).2)), some (.int (nI i)), some (.int (nI (i / 1024))), some (.int (nI (((i / 512) % 2) + 1)))] [] (lcH h (agN h (i / 1024) (i / 64 % 8) (i / 512 % 2 + 1) (i % 64)) (clN h (i / 1024) (i / 64 % 8) (i / 512 % 2 + 1) (i % 64)) (fiN h (i / 1024) (i / 64 % 8) (i / 512 % 2 + 1) (i % 64)))
      refine ev_aload_n (pc := 100) dX11_best_100 rfl ?_
      refine ev_getI (pc := 101) dX11_best_101 fX11_275 rfl (wlt (wf_lc hw) (by decide)) ?_
      refine ev_eqI (e' := clN h (i / 1024) (i / 64 % 8) (i / 512 % 2 + 1) (i % 64)) rfl ?_
      refine ev_if_ne (pc := 104) (tgt := 123) dX11_best_104 (by decide) (fun zc104 => ?_) (fun zc104 => ?_)
      · -- ne at 104: taken
        refine ev_iinc (pc := 123) (v := nI (i + 1)) (L' := [some (.ref 49), some (.int zv), some (.int ((beF h i).1)), some (.int ((beF h i).2)), some (.int (nI (i + 1))), some (.int (nI (i / 1024))), some (.int (nI (((i / 512) % 2) + 1)))]) dX11_best_123 rfl (nI_1 _) (Nat.le_of_ble_eq_true rfl) rfl ?_
        refine ev_goto (pc := 126) (tgt := 22) dX11_best_126 (by decide) ?_
        refine ev_eqL (L' := [some (.ref 49), some (.int zv), some (.int ((beF h (i + 1)).1)), some (.int ((beF h (i + 1)).2)), some (.int (nI (i + 1))), some (.int (nI (i / 1024))), some (.int (nI (((i / 512) % 2) + 1)))]) (by simp only [beF, if_neg (show ¬ (cpy (h.2.1 49 16) (nI (i / 1024)) (nI (i / 64 % 8)) (nI (i / 512 % 2 + 1)) (nI (i % 64)) ∧ clN h (i / 1024) (i / 64 % 8) (i / 512 % 2 + 1) (i % 64) = 0 ∧ (beF h i).2 < agN h (i / 1024) (i / 64 % 8) (i / 512 % 2 + 1) (i % 64)) from fun z => zc104 z.2.1)]) ?_
        refine ev_less (L' := [some (.ref 49), some (.int zv), some (.int ((beF h (i + 1)).1)), some (.int ((beF h (i + 1)).2)), some (.int (nI (i + 1))), none, none]) (ls_keep (ls_keep (ls_keep (ls_keep (ls_keep (ls_drop (ls_drop (ls_nil _)))))))) ?_
        exact ih (i + 1) _ _ _ (by omega)
      · -- ne at 104: not taken
        refine ev_aload_n (pc := 107) dX11_best_107 rfl ?_
        refine ev_getI (pc := 108) dX11_best_108 fX11_272 rfl (wlt (wf_lc hw) (by decide)) ?_
        refine ev_eqI (e' := agN h (i / 1024) (i / 64 % 8) (i / 512 % 2 + 1) (i % 64)) rfl ?_
        refine ev_iload_n (pc := 111) dX11_best_111 rfl ?_
        refine ev_icmp_le (pc := 112) (tgt := 123) dX11_best_112 (by decide) (fun zc112 => ?_) (fun zc112 => ?_)
        · -- le at 112: taken
          refine ev_iinc (pc := 123) (v := nI (i + 1)) (L' := [some (.ref 49), some (.int zv), some (.int ((beF h i).1)), some (.int ((beF h i).2)), some (.int (nI (i + 1))), some (.int (nI (i / 1024))), some (.int (nI (((i / 512) % 2) + 1)))]) dX11_best_123 rfl (nI_1 _) (Nat.le_of_ble_eq_true rfl) rfl ?_
          refine ev_goto (pc := 126) (tgt := 22) dX11_best_126 (by decide) ?_
          refine ev_eqL (L' := [some (.ref 49), some (.int zv), some (.int ((beF h (i + 1)).1)), some (.int ((beF h (i + 1)).2)), some (.int (nI (i + 1))), some (.int (nI (i / 1024))), some (.int (nI (((i / 512) % 2) + 1)))]) (by simp only [beF, if_neg (show ¬ (cpy (h.2.1 49 16) (nI (i / 1024)) (nI (i / 64 % 8)) (nI (i / 512 % 2 + 1)) (nI (i % 64)) ∧ clN h (i / 1024) (i / 64 % 8) (i / 512 % 2 + 1) (i % 64) = 0 ∧ (beF h i).2 < agN h (i / 1024) (i / 64 % 8) (i / 512 % 2 + 1) (i % 64)) from fun z => (i_lt2 _ _).mpr zc112 z.2.2)]) ?_
          refine ev_less (L' := [some (.ref 49), some (.int zv), some (.int ((beF h (i + 1)).1)), some (.int ((beF h (i + 1)).2)), some (.int (nI (i + 1))), none, none]) (ls_keep (ls_keep (ls_keep (ls_keep (ls_keep (ls_drop (ls_drop (ls_nil _)))))))) ?_
          exact ih (i + 1) _ _ _ (by omega)
        · -- le at 112: not taken
          refine ev_iload (pc := 115) dX11_best_115 rfl ?_
          refine ev_istore_n (pc := 117) (L' := [some (.ref 49), some (.int zv), some (.int (nI i)), some (.int ((beF h i).2)), some (.int (nI i)), some (.int (nI (i / 1024))), some (.int (nI (((i / 512) % 2) + 1)))]) dX11_best_117 (Nat.le_of_ble_eq_true rfl) rfl ?_
          refine ev_aload_n (pc := 118) dX11_best_118 rfl ?_
          refine ev_getI (pc := 119) dX11_best_119 fX11_272 rfl (wlt (wf_lc hw) (by decide)) ?_
          refine ev_eqI (e' := agN h (i / 1024) (i / 64 % 8) (i / 512 % 2 + 1) (i % 64)) rfl ?_
          refine ev_istore_n (pc := 122) (L' := [some (.ref 49), some (.int zv), some (.int (nI i)), some (.int (agN h (i / 1024) (i / 64 % 8) (i / 512 % 2 + 1) (i % 64))), some (.int (nI i)), some (.int (nI (i / 1024))), some (.int (nI (((i / 512) % 2) + 1)))]) dX11_best_122 (Nat.le_of_ble_eq_true rfl) rfl ?_
          refine ev_iinc (pc := 123) (v := nI (i + 1)) (L' := [some (.ref 49), some (.int zv), some (.int (nI i)), some (.int (agN h (i / 1024) (i / 64 % 8) (i / 512 % 2 + 1) (i % 64))), some (.int (nI (i + 1))), some (.int (nI (i / 1024))), some (.int (nI (((i / 512) % 2) + 1)))]) dX11_best_123 rfl (nI_1 _) (Nat.le_of_ble_eq_true rfl) rfl ?_
          refine ev_goto (pc := 126) (tgt := 22) dX11_best_126 (by decide) ?_
          refine ev_eqL (L' := [some (.ref 49), some (.int zv), some (.int ((beF h (i + 1)).1)), some (.int ((beF h (i + 1)).2)), some (.int (nI (i + 1))), some (.int (nI (i / 1024))), some (.int (nI (((i / 512) % 2) + 1)))]) (by simp only [beF, if_pos (show cpy (h.2.1 49 16) (nI (i / 1024)) (nI (i / 64 % 8)) (nI (i / 512 % 2 + 1)) (nI (i % 64)) ∧ clN h (i / 1024) (i / 64 % 8) (i / 512 % 2 + 1) (i % 64) = 0 ∧ (beF h i).2 < agN h (i / 1024) (i / 64 % 8) (i / 512 % 2 + 1) (i % 64) from ⟨bI_n0.mp zc76, zc104, (i_le2 _ _).mp zc112⟩)]) ?_
          refine ev_less (L' := [some (.ref 49), some (.int zv), some (.int ((beF h (i + 1)).1)), some (.int ((beF h (i + 1)).2)), some (.int (nI (i + 1))), none, none]) (ls_keep (ls_keep (ls_keep (ls_keep (ls_keep (ls_drop (ls_drop (ls_nil _)))))))) ?_
          exact ih (i + 1) _ _ _ (by omega)
theorem cn_X11_best (E : ME) (h : AH) (zv : Int32) (zb : Nat) (hw : WF h) (hb : h.2.1 49 16 = nI zb) (hb4 : zb ≤ 4) : Con E mX11_best 3 0 0 [.ref 49, .int zv] h (fun r h' => r = some (.int (if 0 ≤ zv ∧ zv ≤ 4 then (if (beF h (1024 * zb)).1 = -4 then -4 else if zv = 0 then (beF h (1024 * zb)).1 / 1024 else if zv = 1 then (beF h (1024 * zb)).1 / 64 - (beF h (1024 * zb)).1 / 64 / 8 * 8 else if zv = 2 then (beF h (1024 * zb)).1 / 512 - (beF h (1024 * zb)).1 / 512 / 2 * 2 + 1 else if zv = 3 then (beF h (1024 * zb)).1 - (beF h (1024 * zb)).1 / 64 * 64 else (beF h (1024 * zb)).2) else -1)) ∧ lcX h h') := by
  refine con_of2 (L := [some (.ref 49), some (.int zv), none, none, none, none, none]) rfl (Nat.le_of_ble_eq_true rfl) rfl ?_
  refine ev_iload_n (pc := 0) dX11_best_0 rfl ?_
  refine ev_i2l (pc := 1) dX11_best_1 ?_
  refine ev_lconst (pc := 2) (v := 0) dX11_best_2 (by decide) ?_
  refine ev_ldc2 (pc := 3) (v := 4) dX11_best_3 kcX11_296 ?_
  refine ev_callSv (S := []) (pc := 6) dX11_best_6 kX11_in lX11_96 sX11_in (cn_X11_inC E h zv 0 4 _ _ _ rfl (by decide) (by decide)) rfl rfl (Nat.le_of_ble_eq_true rfl) ⟨Nat.le_of_ble_eq_true rfl, Nat.le_of_ble_eq_true rfl⟩ ⟨Nat.le_of_ble_eq_true rfl, Nat.le_of_ble_eq_true rfl⟩ ?_
  refine ev_if_ne (pc := 9) (tgt := 14) dX11_best_9 (by decide) (fun zc9 => ?_) (fun zc9 => ?_)
  · -- ne at 9: taken
    refine ev_bipush (pc := 14) (v := (-4)) dX11_best_14 (by decide) ?_
    refine ev_istore_n (pc := 16) (L' := [some (.ref 49), some (.int zv), some (.int ((-4))), none, none, none, none]) dX11_best_16 (Nat.le_of_ble_eq_true rfl) rfl ?_
    refine ev_iconst (pc := 17) (v := 0) dX11_best_17 (by decide) ?_
    refine ev_istore_n (pc := 18) (L' := [some (.ref 49), some (.int zv), some (.int ((-4))), some (.int 0), none, none, none]) dX11_best_18 (Nat.le_of_ble_eq_true rfl) rfl ?_
    refine ev_iconst (pc := 19) (v := 0) dX11_best_19 (by decide) ?_
    refine ev_istore (pc := 20) (L' := [some (.ref 49), some (.int zv), some (.int ((-4))), some (.int 0), some (.int 0), none, none]) dX11_best_20 (Nat.le_of_ble_eq_true rfl) rfl ?_
    refine ev_eqH (lcH_id h).symm ?_
    refine lp_best_22 E h zb zv hw hb hb4 (fun za zx zd => ?_) (1024 * zb) 0 _ _ _ (Nat.zero_add _)
    refine ev_iload_n (pc := 129) dX11_best_129 rfl ?_
    refine ev_bipush (pc := 130) (v := (-4)) dX11_best_130 (by decide) ?_
    refine ev_icmp_ne (pc := 132) (tgt := 138) dX11_best_132 (by decide) (fun zc132 => ?_) (fun zc132 => ?_)
    · -- ne at 132: taken
      refine ev_iload_n (pc := 138) dX11_best_138 rfl ?_
      refine ev_if_ne (pc := 139) (tgt := 150) dX11_best_139 (by decide) (fun zc139 => ?_) (fun zc139 => ?_)
      · -- ne at 139: taken
        refine ev_iload_n (pc := 150) dX11_best_150 rfl ?_
        refine ev_iconst (pc := 151) (v := 1) dX11_best_151 (by decide) ?_
        refine ev_icmp_ne (pc := 152) (tgt := 165) dX11_best_152 (by decide) (fun zc152 => ?_) (fun zc152 => ?_)
        · -- ne at 152: taken
          refine ev_iload_n (pc := 165) dX11_best_165 rfl ?_
          refine ev_iconst (pc := 166) (v := 2) dX11_best_166 (by decide) ?_
          refine ev_icmp_ne (pc := 167) (tgt := 182) dX11_best_167 (by decide) (fun zc167 => ?_) (fun zc167 => ?_)
          · -- ne at 167: taken
            refine ev_iload_n (pc := 182) dX11_best_182 rfl ?_
            refine ev_iconst (pc := 183) (v := 3) dX11_best_183 (by decide) ?_
            refine ev_icmp_ne (pc := 184) (tgt := 194) dX11_best_184 (by decide) (fun zc184 => ?_) (fun zc184 => ?_)
            · -- ne at 184: taken
              refine ev_iload_n (pc := 194) dX11_best_194 rfl ?_
              refine ev_iret (pc := 195) dX11_best_195 rfl ?_ ?_
              · rfl
              · have hC : 0 ≤ zv ∧ zv ≤ 4 := bI_n0.mp zc9
                rw [if_pos hC]
                refine ⟨?_, _, _, _, rfl⟩
                rw [if_neg zc132, if_neg zc139, if_neg zc152, if_neg zc167, if_neg zc184]
            · -- ne at 184: not taken
              refine ev_iload_n (pc := 187) dX11_best_187 rfl ?_
              refine ev_bipush (pc := 188) (v := 64) dX11_best_188 (by decide) ?_
              refine ev_irem (pc := 190) dX11_best_190 (by decide) ?_
              refine ev_goto (pc := 191) (tgt := 195) dX11_best_191 (by decide) ?_
              refine ev_iret (pc := 195) dX11_best_195 rfl ?_ ?_
              · rfl
              · have hC : 0 ≤ zv ∧ zv ≤ 4 := bI_n0.mp zc9
                rw [if_pos hC]
                refine ⟨?_, _, _, _, rfl⟩
                rw [if_neg zc132, if_neg zc139, if_neg zc152, if_neg zc167, if_pos zc184]
          · -- ne at 167: not taken
            refine ev_iload_n (pc := 170) dX11_best_170 rfl ?_
            refine ev_sipush (pc := 171) (v := 512) dX11_best_171 (by decide) ?_
            refine ev_idiv (pc := 174) dX11_best_174 (by decide) ?_
            refine ev_iconst (pc := 175) (v := 2) dX11_best_175 (by decide) ?_
            refine ev_irem (pc := 176) dX11_best_176 (by decide) ?_
            refine ev_iconst (pc := 177) (v := 1) dX11_best_177 (by decide) ?_
            refine ev_iadd (pc := 178) dX11_best_178 ?_
            refine ev_goto (pc := 179) (tgt := 195) dX11_best_179 (by decide) ?_
            refine ev_iret (pc := 195) dX11_best_195 rfl ?_ ?_
            · rfl
            · have hC : 0 ≤ zv ∧ zv ≤ 4 := bI_n0.mp zc9
              rw [if_pos hC]
              refine ⟨?_, _, _, _, rfl⟩
              rw [if_neg zc132, if_neg zc139, if_neg zc152, if_pos zc167]
        · -- ne at 152: not taken
          refine ev_iload_n (pc := 155) dX11_best_155 rfl ?_
          refine ev_bipush (pc := 156) (v := 64) dX11_best_156 (by decide) ?_
          refine ev_idiv (pc := 158) dX11_best_158 (by decide) ?_
          refine ev_bipush (pc := 159) (v := 8) dX11_best_159 (by decide) ?_
          refine ev_irem (pc := 161) dX11_best_161 (by decide) ?_
          refine ev_goto (pc := 162) (tgt := 195) dX11_best_162 (by decide) ?_
          refine ev_iret (pc := 195) dX11_best_195 rfl ?_ ?_
          · rfl
          · have hC : 0 ≤ zv ∧ zv ≤ 4 := bI_n0.mp zc9
            rw [if_pos hC]
            refine ⟨?_, _, _, _, rfl⟩
            rw [if_neg zc132, if_neg zc139, if_pos zc152]
      · -- ne at 139: not taken
        refine ev_iload_n (pc := 142) dX11_best_142 rfl ?_
        refine ev_sipush (pc := 143) (v := 1024) dX11_best_143 (by decide) ?_
        refine ev_idiv (pc := 146) dX11_best_146 (by decide) ?_
        refine ev_goto (pc := 147) (tgt := 195) dX11_best_147 (by decide) ?_
        refine ev_iret (pc := 195) dX11_best_195 rfl ?_ ?_
        · rfl
        · have hC : 0 ≤ zv ∧ zv ≤ 4 := bI_n0.mp zc9
          rw [if_pos hC]
          refine ⟨?_, _, _, _, rfl⟩
          rw [if_neg zc132, if_pos zc139]
    · -- ne at 132: not taken
      refine ev_bipush (pc := 135) (v := (-4)) dX11_best_135 (by decide) ?_
      refine ev_iret (pc := 137) dX11_best_137 rfl ?_ ?_
      · rfl
      · have hC : 0 ≤ zv ∧ zv ≤ 4 := bI_n0.mp zc9
        rw [if_pos hC]
        refine ⟨?_, _, _, _, rfl⟩
        rw [if_pos zc132]
  · -- ne at 9: not taken
    refine ev_iconst (pc := 12) (v := (-1)) dX11_best_12 (by decide) ?_
    refine ev_iret (pc := 13) dX11_best_13 rfl ?_ ?_
    · rfl
    · have hC : ¬ (0 ≤ zv ∧ zv ≤ 4) := bI_0.mp zc9
      rw [if_neg hC]
      exact ⟨rfl, lcX_rf h⟩
