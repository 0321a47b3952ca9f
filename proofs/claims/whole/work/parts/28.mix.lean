def mxK (f : Nat → Int32) (zp zt zi : Nat) (g : Nat → Int32) : Nat → Nat → Int32
  | 0 => g
  | k + 1 => upd (mxK f zp zt zi g k) (32 * (fg zp zi / 2) + 4 * (fg zp zi % 2) + 8 * (k / 4) + k % 4) (f (32 * (zi / 2) + 4 * (zi % 2) + 8 * (srN 4 (fg zt zi) k / 4) + srN 4 (fg zt zi) k % 4))
def mxI (f : Nat → Int32) (zp zt : Nat) (g : Nat → Int32) : Nat → Nat → Int32
  | 0 => g
  | i + 1 => mxK f zp zt i (mxI f zp zt g i) 16
def cpF (g f : Nat → Int32) : Nat → Nat → Int32
  | 0 => f
  | i + 1 => upd (cpF g f i) i (g i)
theorem lp_mix_53 (E : ME) (h : AH) (zp zt zi : Nat) (zg : Nat → Int32) (hw : WF h) (hp : zp < 256) (ht : zt < 256) (hi4 : zi < 4) {post : PO} (K : Ev E mX11_mix (rmm 2 0 0) (QM E 0 0 post) 0 0 121 [some (.ref 49), some (.int (nI zp)), some (.int (nI zt)), some (.int (nI zi)), some (.int (nI (32 * (fg zp zi / 2) + 4 * (fg zp zi % 2)))), some (.int (nI 16)), none] [] (sI h 72 (mxK (h.2.1 69) zp zt zi zg 16))) : ∀ n i : Nat, i + n = 16 → Ev E mX11_mix (rmm 2 0 0) (QM E 0 0 post) 0 0 53 [some (.ref 49), some (.int (nI zp)), some (.int (nI zt)), some (.int (nI zi)), some (.int (nI (32 * (fg zp zi / 2) + 4 * (fg zp zi % 2)))), some (.int (nI i)), none] [] (sI h 72 (mxK (h.2.1 69) zp zt zi zg i)) := by
  intro n
  induction n with
  | zero =>
    intro i hi
    obtain rfl : 16 = i := by omega
    refine ev_iload (pc := 53) dX11_mix_53 rfl ?_
    refine ev_bipush (pc := 55) (v := 16) dX11_mix_55 (by decide) ?_
    refine ev_icmp_ge (pc := 57) (tgt := 121) dX11_mix_57 (by decide) (fun zc57 => ?_) (fun zc57 => absurd (by decide) zc57)
    exact K
  | succ n ih =>
    intro i hi
    have hlt : i < 16 := by omega
    refine ev_iload (pc := 53) dX11_mix_53 rfl ?_
    refine ev_bipush (pc := 55) (v := 16) dX11_mix_55 (by decide) ?_
    refine ev_icmp_ge (pc := 57) (tgt := 121) dX11_mix_57 (by decide) (fun zc57 => absurd zc57 (nI_ge (a := i) (b := 16) hlt (by decide))) (fun zc57 => ?_)
    refine ev_iload (pc := 60) dX11_mix_60 rfl ?_
    refine ev_iconst (pc := 62) (v := 4) dX11_mix_62 (by decide) ?_
    refine ev_iload_n (pc := 63) dX11_mix_63 rfl ?_
    refine ev_iload_n (pc := 64) dX11_mix_64 rfl ?_
    refine ev_callSv (S := [.int 4, .int (nI i)]) (pc := 65) dX11_mix_65 kX11_figure lX11_321 sX11_figure (cn_X11_fg E (sI h 72 (mxK (h.2.1 69) zp zt zi zg i)) zt zi (by omega) (by omega)) rfl rfl (Nat.le_of_ble_eq_true rfl) ⟨Nat.le_of_ble_eq_true rfl, Nat.le_of_ble_eq_true rfl⟩ ⟨Nat.le_of_ble_eq_true rfl, Nat.le_of_ble_eq_true rfl⟩ ?_
    refine ev_callSv (S := []) (pc := 68) dX11_mix_68 kX11_sourceOf lX11_268 sX11_sourceOf (cn_X11_src4 E (sI h 72 (mxK (h.2.1 69) zp zt zi zg i)) i (fg zt zi) (wf_sI hw) (by have z1 := (fg_ok zi hi4 zp hp).2; have z2 := (fg_ok zi hi4 zt ht).2; have z3 := (sr4 (fg zt zi) (by omega) i hlt).2; omega) (by have z1 := (fg_ok zi hi4 zp hp).2; have z2 := (fg_ok zi hi4 zt ht).2; have z3 := (sr4 (fg zt zi) (by omega) i hlt).2; omega)) rfl rfl (Nat.le_of_ble_eq_true rfl) ⟨Nat.le_of_ble_eq_true rfl, Nat.le_of_ble_eq_true rfl⟩ ⟨Nat.le_of_ble_eq_true rfl, Nat.le_of_ble_eq_true rfl⟩ ?_
    refine ev_istore (pc := 71) (L' := [some (.ref 49), some (.int (nI zp)), some (.int (nI zt)), some (.int (nI zi)), some (.int (nI (32 * (fg zp zi / 2) + 4 * (fg zp zi % 2)))), some (.int (nI i)), some (.int (nI (srN 4 (fg zt zi) i)))]) dX11_mix_71 (Nat.le_of_ble_eq_true rfl) rfl ?_
    refine ev_aload_n (pc := 73) dX11_mix_73 rfl ?_
    refine ev_getR (pc := 74) (q := 72) dX11_mix_74 fX11_81 rfl (wlt (wf_sI hw) (by decide)) (wr (wf_sI hw) rfl) ?_
    refine ev_iload (pc := 77) dX11_mix_77 rfl ?_
    refine ev_bipush (pc := 79) (v := 8) dX11_mix_79 (by decide) ?_
    refine ev_iload (pc := 81) dX11_mix_81 rfl ?_
    refine ev_iconst (pc := 83) (v := 4) dX11_mix_83 (by decide) ?_
    refine ev_idiv (pc := 84) dX11_mix_84 (by decide) ?_
    refine ev_eqI (e' := nI (i / 4)) (pk_div (a := i) (d := 4) (by have z1 := (fg_ok zi hi4 zp hp).2; have z2 := (fg_ok zi hi4 zt ht).2; have z3 := (sr4 (fg zt zi) (by omega) i hlt).2; omega) (by have z1 := (fg_ok zi hi4 zp hp).2; have z2 := (fg_ok zi hi4 zt ht).2; have z3 := (sr4 (fg zt zi) (by omega) i hlt).2; omega) (by have z1 := (fg_ok zi hi4 zp hp).2; have z2 := (fg_ok zi hi4 zt ht).2; have z3 := (sr4 (fg zt zi) (by omega) i hlt).2; omega)) ?_
    refine ev_imul (pc := 85) dX11_mix_85 ?_
    refine ev_eqI (e' := nI (8 * (i / 4))) (pk_mul 8 (i / 4)) ?_
    refine ev_iadd (pc := 86) dX11_mix_86 ?_
    refine ev_eqI (e' := nI ((32 * (fg zp zi / 2) + 4 * (fg zp zi % 2)) + (8 * (i / 4)))) (nI_add (32 * (fg zp zi / 2) + 4 * (fg zp zi % 2)) (8 * (i / 4))) ?_
    refine ev_iload (pc := 87) dX11_mix_87 rfl ?_
    refine ev_iconst (pc := 89) (v := 4) dX11_mix_89 (by decide) ?_
    refine ev_irem (pc := 90) dX11_mix_90 (by decide) ?_
    refine ev_eqI (e' := nI (i % 4)) (pk_rem (a := i) (d := 4) (by have z1 := (fg_ok zi hi4 zp hp).2; have z2 := (fg_ok zi hi4 zt ht).2; have z3 := (sr4 (fg zt zi) (by omega) i hlt).2; omega) (by have z1 := (fg_ok zi hi4 zp hp).2; have z2 := (fg_ok zi hi4 zt ht).2; have z3 := (sr4 (fg zt zi) (by omega) i hlt).2; omega) (by have z1 := (fg_ok zi hi4 zp hp).2; have z2 := (fg_ok zi hi4 zt ht).2; have z3 := (sr4 (fg zt zi) (by omega) i hlt).2; omega)) ?_
    refine ev_iadd (pc := 91) dX11_mix_91 ?_
    refine ev_eqI (e' := nI (((32 * (fg zp zi / 2) + 4 * (fg zp zi % 2)) + (8 * (i / 4))) + (i % 4))) (nI_add ((32 * (fg zp zi / 2) + 4 * (fg zp zi % 2)) + (8 * (i / 4))) (i % 4)) ?_
    refine ev_aload_n (pc := 92) dX11_mix_92 rfl ?_
    refine ev_getR (pc := 93) (q := 69) dX11_mix_93 fX11_72 rfl (wlt (wf_sI hw) (by decide)) (wr (wf_sI hw) rfl) ?_
    refine ev_iload_n (pc := 96) dX11_mix_96 rfl ?_
    refine ev_callSv (S := [.ref 69, .int (nI (((32 * (fg zp zi / 2) + 4 * (fg zp zi % 2)) + (8 * (i / 4))) + (i % 4))), .ref 72]) (pc := 97) dX11_mix_97 kX11_upperLeft lX11_329 sX11_upperLeft (cn_X11_upperLeft E (sI h 72 (mxK (h.2.1 69) zp zt zi zg i)) zi (by have z1 := (fg_ok zi hi4 zp hp).2; have z2 := (fg_ok zi hi4 zt ht).2; have z3 := (sr4 (fg zt zi) (by omega) i hlt).2; omega)) rfl rfl (Nat.le_of_ble_eq_true rfl) ⟨Nat.le_of_ble_eq_true rfl, Nat.le_of_ble_eq_true rfl⟩ ⟨Nat.le_of_ble_eq_true rfl, Nat.le_of_ble_eq_true rfl⟩ ?_
    refine ev_bipush (pc := 100) (v := 8) dX11_mix_100 (by decide) ?_
    refine ev_iload (pc := 102) dX11_mix_102 rfl ?_
    refine ev_iconst (pc := 104) (v := 4) dX11_mix_104 (by decide) ?_
    refine ev_idiv (pc := 105) dX11_mix_105 (by decide) ?_
    refine ev_eqI (e' := nI ((srN 4 (fg zt zi) i) / 4)) (pk_div (a := srN 4 (fg zt zi) i) (d := 4) (by have z1 := (fg_ok zi hi4 zp hp).2; have z2 := (fg_ok zi hi4 zt ht).2; have z3 := (sr4 (fg zt zi) (by omega) i hlt).2; omega) (by have z1 := (fg_ok zi hi4 zp hp).2; have z2 := (fg_ok zi hi4 zt ht).2; have z3 := (sr4 (fg zt zi) (by omega) i hlt).2; omega) (by have z1 := (fg_ok zi hi4 zp hp).2; have z2 := (fg_ok zi hi4 zt ht).2; have z3 := (sr4 (fg zt zi) (by omega) i hlt).2; omega)) ?_
    refine ev_imul (pc := 106) dX11_mix_106 ?_
    refine ev_eqI (e' := nI (8 * ((srN 4 (fg zt zi) i) / 4))) (pk_mul 8 ((srN 4 (fg zt zi) i) / 4)) ?_
    refine ev_iadd (pc := 107) dX11_mix_107 ?_
    refine ev_eqI (e' := nI ((32 * (zi / 2) + 4 * (zi % 2)) + (8 * ((srN 4 (fg zt zi) i) / 4)))) (nI_add (32 * (zi / 2) + 4 * (zi % 2)) (8 * ((srN 4 (fg zt zi) i) / 4))) ?_
    refine ev_iload (pc := 108) dX11_mix_108 rfl ?_
    refine ev_iconst (pc := 110) (v := 4) dX11_mix_110 (by decide) ?_
    refine ev_irem (pc := 111) dX11_mix_111 (by decide) ?_
    refine ev_eqI (e' := nI ((srN 4 (fg zt zi) i) % 4)) (pk_rem (a := srN 4 (fg zt zi) i) (d := 4) (by have z1 := (fg_ok zi hi4 zp hp).2; have z2 := (fg_ok zi hi4 zt ht).2; have z3 := (sr4 (fg zt zi) (by omega) i hlt).2; omega) (by have z1 := (fg_ok zi hi4 zp hp).2; have z2 := (fg_ok zi hi4 zt ht).2; have z3 := (sr4 (fg zt zi) (by omega) i hlt).2; omega) (by have z1 := (fg_ok zi hi4 zp hp).2; have z2 := (fg_ok zi hi4 zt ht).2; have z3 := (sr4 (fg zt zi) (by omega) i hlt).2; omega)) ?_
    refine ev_iadd (pc := 112) dX11_mix_112 ?_
    refine ev_eqI (e' := nI (((32 * (zi / 2) + 4 * (zi % 2)) + (8 * ((srN 4 (fg zt zi) i) / 4))) + ((srN 4 (fg zt zi) i) % 4))) (nI_add ((32 * (zi / 2) + 4 * (zi % 2)) + (8 * ((srN 4 (fg zt zi) i) / 4))) ((srN 4 (fg zt zi) i) % 4)) ?_
    refine ev_iald (pc := 113) dX11_mix_113 rfl (wlt (wf_sI hw) (by decide)) (vp_in_nI (by have z1 := (fg_ok zi hi4 zp hp).2; have z2 := (fg_ok zi hi4 zt ht).2; have z3 := (sr4 (fg zt zi) (by omega) i hlt).2; omega) (by decide)) ?_
    refine ev_eqI (e' := h.2.1 69 (((32 * (zi / 2) + 4 * (zi % 2)) + (8 * ((srN 4 (fg zt zi) i) / 4))) + ((srN 4 (fg zt zi) i) % 4))) (by rw [show Int32.toNatClampNeg (nI (((32 * (zi / 2) + 4 * (zi % 2)) + (8 * ((srN 4 (fg zt zi) i) / 4))) + ((srN 4 (fg zt zi) i) % 4))) = ((32 * (zi / 2) + 4 * (zi % 2)) + (8 * ((srN 4 (fg zt zi) i) / 4))) + ((srN 4 (fg zt zi) i) % 4) from nI_clamp (by have z1 := (fg_ok zi hi4 zp hp).2; have z2 := (fg_ok zi hi4 zt ht).2; have z3 := (sr4 (fg zt zi) (by omega) i hlt).2; omega)] <;> rfl) ?_
    refine ev_iast (pc := 114) dX11_mix_114 rfl (wlt (wf_sI hw) (by decide)) (vp_in_nI (by have z1 := (fg_ok zi hi4 zp hp).2; have z2 := (fg_ok zi hi4 zt ht).2; have z3 := (sr4 (fg zt zi) (by omega) i hlt).2; omega) (by decide)) ?_
    refine ev_eqH (h' := sI h 72 (upd (mxK (h.2.1 69) zp zt zi zg i) (((32 * (fg zp zi / 2) + 4 * (fg zp zi % 2)) + (8 * (i / 4))) + (i % 4)) (h.2.1 69 (((32 * (zi / 2) + 4 * (zi % 2)) + (8 * ((srN 4 (fg zt zi) i) / 4))) + ((srN 4 (fg zt zi) i) % 4))))) (by rw [show Int32.toNatClampNeg (nI (((32 * (fg zp zi / 2) + 4 * (fg zp zi % 2)) + (8 * (i / 4))) + (i % 4))) = ((32 * (fg zp zi / 2) + 4 * (fg zp zi % 2)) + (8 * (i / 4))) + (i % 4) from nI_clamp (by have z1 := (fg_ok zi hi4 zp hp).2; have z2 := (fg_ok zi hi4 zt ht).2; have z3 := (sr4 (fg zt zi) (by omega) i hlt).2; omega)]; exact sI_sI _ _ _ _) ?_
    refine ev_iinc (pc := 115) (v := nI (i + 1)) (L' := [some (.ref 49), some (.int (nI zp)), some (.int (nI zt)), some (.int (nI zi)), some (.int (nI (32 * (fg zp zi / 2) + 4 * (fg zp zi % 2)))), some (.int (nI (i + 1))), some (.int (nI (srN 4 (fg zt zi) i)))]) dX11_mix_115 rfl (nI_1 _) (Nat.le_of_ble_eq_true rfl) rfl ?_
    refine ev_goto (pc := 118) (tgt := 53) dX11_mix_118 (by decide) ?_
    refine ev_less (L' := [some (.ref 49), some (.int (nI zp)), some (.int (nI zt)), some (.int (nI zi)), some (.int (nI (32 * (fg zp zi / 2) + 4 * (fg zp zi % 2)))), some (.int (nI (i + 1))), none]) (ls_keep (ls_keep (ls_keep (ls_keep (ls_keep (ls_keep (ls_drop (ls_nil _)))))))) ?_
    exact ih (i + 1) (by omega)
theorem lp_mix_35 (E : ME) (h : AH) (zp zt : Nat) (zg : Nat → Int32) (hw : WF h) (hp : zp < 256) (ht : zt < 256) {post : PO} (K : Ev E mX11_mix (rmm 2 0 0) (QM E 0 0 post) 0 0 127 [some (.ref 49), some (.int (nI zp)), some (.int (nI zt)), some (.int (nI 4)), none, none, none] [] (sI h 72 (mxI (h.2.1 69) zp zt zg 4))) : ∀ n i : Nat, i + n = 4 → Ev E mX11_mix (rmm 2 0 0) (QM E 0 0 post) 0 0 35 [some (.ref 49), some (.int (nI zp)), some (.int (nI zt)), some (.int (nI i)), none, none, none] [] (sI h 72 (mxI (h.2.1 69) zp zt zg i)) := by
  intro n
  induction n with
  | zero =>
    intro i hi
    obtain rfl : 4 = i := by omega
    refine ev_iload_n (pc := 35) dX11_mix_35 rfl ?_
    refine ev_iconst (pc := 36) (v := 4) dX11_mix_36 (by decide) ?_
    refine ev_icmp_ge (pc := 37) (tgt := 127) dX11_mix_37 (by decide) (fun zc37 => ?_) (fun zc37 => absurd (by decide) zc37)
    exact K
  | succ n ih =>
    intro i hi
    have hlt : i < 4 := by omega
    refine ev_iload_n (pc := 35) dX11_mix_35 rfl ?_
    refine ev_iconst (pc := 36) (v := 4) dX11_mix_36 (by decide) ?_
    refine ev_icmp_ge (pc := 37) (tgt := 127) dX11_mix_37 (by decide) (fun zc37 => absurd zc37 (nI_ge (a := i) (b := 4) hlt (by decide))) (fun zc37 => ?_)
    refine ev_iload_n (pc := 40) dX11_mix_40 rfl ?_
    refine ev_iload_n (pc := 41) dX11_mix_41 rfl ?_
    refine ev_callSv (S := []) (pc := 42) dX11_mix_42 kX11_figure lX11_321 sX11_figure (cn_X11_fg E (sI h 72 (mxI (h.2.1 69) zp zt zg i)) zp i (by omega) (by omega)) rfl rfl (Nat.le_of_ble_eq_true rfl) ⟨Nat.le_of_ble_eq_true rfl, Nat.le_of_ble_eq_true rfl⟩ ⟨Nat.le_of_ble_eq_true rfl, Nat.le_of_ble_eq_true rfl⟩ ?_
    refine ev_callSv (S := []) (pc := 45) dX11_mix_45 kX11_upperLeft lX11_329 sX11_upperLeft (cn_X11_upperLeft E (sI h 72 (mxI (h.2.1 69) zp zt zg i)) (fg zp i) (by have z1 := (fg_ok i hlt zp hp).2; omega)) rfl rfl (Nat.le_of_ble_eq_true rfl) ⟨Nat.le_of_ble_eq_true rfl, Nat.le_of_ble_eq_true rfl⟩ ⟨Nat.le_of_ble_eq_true rfl, Nat.le_of_ble_eq_true rfl⟩ ?_
    refine ev_istore (pc := 48) (L' := [some (.ref 49), some (.int (nI zp)), some (.int (nI zt)), some (.int (nI i)), some (.int (nI (32 * ((fg zp i) / 2) + 4 * ((fg zp i) % 2)))), none, none]) dX11_mix_48 (Nat.le_of_ble_eq_true rfl) rfl ?_
    refine ev_iconst (pc := 50) (v := 0) dX11_mix_50 (by decide) ?_
    refine ev_istore (pc := 51) (L' := [some (.ref 49), some (.int (nI zp)), some (.int (nI zt)), some (.int (nI i)), some (.int (nI (32 * ((fg zp i) / 2) + 4 * ((fg zp i) % 2)))), some (.int 0), none]) dX11_mix_51 (Nat.le_of_ble_eq_true rfl) rfl ?_
    refine lp_mix_53 E h zp zt i (mxI (h.2.1 69) zp zt zg i) hw hp ht hlt ?_ 16 0 (Nat.zero_add _)
    refine ev_iinc (pc := 121) (v := nI (i + 1)) (L' := [some (.ref 49), some (.int (nI zp)), some (.int (nI zt)), some (.int (nI (i + 1))), some (.int (nI (32 * (fg zp i / 2) + 4 * (fg zp i % 2)))), some (.int (nI 16)), none]) dX11_mix_121 rfl (nI_1 _) (Nat.le_of_ble_eq_true rfl) rfl ?_
    refine ev_goto (pc := 124) (tgt := 35) dX11_mix_124 (by decide) ?_
    refine ev_less (L' := [some (.ref 49), some (.int (nI zp)), some (.int (nI zt)), some (.int (nI (i + 1))), none, none, none]) (ls_keep (ls_keep (ls_keep (ls_keep (ls_drop (ls_drop (ls_keep (ls_nil _)))))))) ?_
    exact ih (i + 1) (by omega)
theorem lp_mix_129 (E : ME) (h : AH) (zp zt : Nat) (hw : WF h) {post : PO} (K : Ev E mX11_mix (rmm 2 0 0) (QM E 0 0 post) 0 0 153 [some (.ref 49), some (.int (nI zp)), some (.int (nI zt)), some (.int (nI 64)), none, none, none] [] (sI h 69 (cpF (h.2.1 72) (h.2.1 69) 64))) : ∀ n i : Nat, i + n = 64 → Ev E mX11_mix (rmm 2 0 0) (QM E 0 0 post) 0 0 129 [some (.ref 49), some (.int (nI zp)), some (.int (nI zt)), some (.int (nI i)), none, none, none] [] (sI h 69 (cpF (h.2.1 72) (h.2.1 69) i)) := by
  intro n
  induction n with
  | zero =>
    intro i hi
    obtain rfl : 64 = i := by omega
    refine ev_iload_n (pc := 129) dX11_mix_129 rfl ?_
    refine ev_bipush (pc := 130) (v := 64) dX11_mix_130 (by decide) ?_
    refine ev_icmp_ge (pc := 132) (tgt := 153) dX11_mix_132 (by decide) (fun zc132 => ?_) (fun zc132 => absurd (by decide) zc132)
    exact K
  | succ n ih =>
    intro i hi
    have hlt : i < 64 := by omega
    refine ev_iload_n (pc := 129) dX11_mix_129 rfl ?_
    refine ev_bipush (pc := 130) (v := 64) dX11_mix_130 (by decide) ?_
    refine ev_icmp_ge (pc := 132) (tgt := 153) dX11_mix_132 (by decide) (fun zc132 => absurd zc132 (nI_ge (a := i) (b := 64) hlt (by decide))) (fun zc132 => ?_)
    refine ev_aload_n (pc := 135) dX11_mix_135 rfl ?_
    refine ev_getR (pc := 136) (q := 69) dX11_mix_136 fX11_72 rfl (wlt (wf_sI hw) (by decide)) (wr (wf_sI hw) rfl) ?_
    refine ev_iload_n (pc := 139) dX11_mix_139 rfl ?_
    refine ev_aload_n (pc := 140) dX11_mix_140 rfl ?_
    refine ev_getR (pc := 141) (q := 72) dX11_mix_141 fX11_81 rfl (wlt (wf_sI hw) (by decide)) (wr (wf_sI hw) rfl) ?_
    refine ev_iload_n (pc := 144) dX11_mix_144 rfl ?_
    refine ev_iald (pc := 145) dX11_mix_145 rfl (wlt (wf_sI hw) (by decide)) (vp_in_nI (by omega) (by decide)) ?_
    refine ev_eqI (e' := h.2.1 72 i) (by rw [show Int32.toNatClampNeg (nI i) = i from nI_clamp (by omega)] <;> rfl) ?_
    refine ev_iast (pc := 146) dX11_mix_146 rfl (wlt (wf_sI hw) (by decide)) (vp_in_nI (by omega) (by decide)) ?_
    refine ev_eqH (h' := sI h 69 (upd (cpF (h.2.1 72) (h.2.1 69) i) i (h.2.1 72 i))) (by rw [show Int32.toNatClampNeg (nI i) = i from nI_clamp (by omega)]; exact sI_sI _ _ _ _) ?_
    refine ev_iinc (pc := 147) (v := nI (i + 1)) (L' := [some (.ref 49), some (.int (nI zp)), some (.int (nI zt)), some (.int (nI (i + 1))), none, none, none]) dX11_mix_147 rfl (nI_1 _) (Nat.le_of_ble_eq_true rfl) rfl ?_
    refine ev_goto (pc := 150) (tgt := 129) dX11_mix_150 (by decide) ?_
    exact ih (i + 1) (by omega)
theorem cn_X11_mix (E : ME) (h : AH) (zp0 zt0 : Int32) (hw : WF h) : Con E mX11_mix 2 0 0 [.ref 49, .int zp0, .int zt0] h (fun r h' => r = some (.int (if (0 ≤ zp0 ∧ zp0 ≤ 255) ∧ unl zp0.toNatClampNeg ∧ (0 ≤ zt0 ∧ zt0 ≤ 255) then 1 else -1)) ∧ h' = if (0 ≤ zp0 ∧ zp0 ≤ 255) ∧ unl zp0.toNatClampNeg ∧ (0 ≤ zt0 ∧ zt0 ≤ 255) then sL (sI (sI (sI h 72 (mxI (h.2.1 69) zp0.toNatClampNeg zt0.toNatClampNeg (h.2.1 72) 4)) 69 (cpF (mxI (h.2.1 69) zp0.toNatClampNeg zt0.toNatClampNeg (h.2.1 72) 4) (h.2.1 69) 64)) 49 (upd (h.2.1 49) 38 0)) 49 (vp_updL (h.2.2.1 49) 37 0) else h) := by
  refine con_of2 (L := [some (.ref 49), some (.int zp0), some (.int zt0), none, none, none, none]) rfl (Nat.le_of_ble_eq_true rfl) rfl ?_
  refine ev_iload_n (pc := 0) dX11_mix_0 rfl ?_
  refine ev_i2l (pc := 1) dX11_mix_1 ?_
  refine ev_lconst (pc := 2) (v := 0) dX11_mix_2 (by decide) ?_
  refine ev_ldc2 (pc := 3) (v := 255) dX11_mix_3 kcX11_324 ?_
  refine ev_callSv (S := []) (pc := 6) dX11_mix_6 kX11_in lX11_96 sX11_in (cn_X11_inC E h zp0 0 255 _ _ _ rfl (by decide) (by decide)) rfl rfl (Nat.le_of_ble_eq_true rfl) ⟨Nat.le_of_ble_eq_true rfl, Nat.le_of_ble_eq_true rfl⟩ ⟨Nat.le_of_ble_eq_true rfl, Nat.le_of_ble_eq_true rfl⟩ ?_
  refine ev_if_eq (pc := 9) (tgt := 31) dX11_mix_9 (by decide) (fun zc9 => ?_) (fun zc9 => ?_)
  · -- eq at 9: taken
    refine ev_iconst (pc := 31) (v := (-1)) dX11_mix_31 (by decide) ?_
    refine ev_iret (pc := 32) dX11_mix_32 rfl ?_ ?_
    · rfl
    · have hC : ¬ ((0 ≤ zp0 ∧ zp0 ≤ 255) ∧ unl zp0.toNatClampNeg ∧ (0 ≤ zt0 ∧ zt0 ≤ 255)) := fun q => (bI_0.mp zc9) q.1
      rw [if_neg hC, if_neg hC]
      exact ⟨rfl, rfl⟩
  · -- eq at 9: not taken
    obtain ⟨zp, hp, rfl⟩ := vp_in_of (vp_sm (N := 256) (bI_n0.mp zc9).1 (bI_n0.mp zc9).2 (by decide) (by decide)) (by decide)
    refine ev_iload_n (pc := 12) dX11_mix_12 rfl ?_
    refine ev_callSv (S := []) (pc := 13) dX11_mix_13 kX11_areUnlike lX11_326 sX11_areUnlike (cn_X11_areUnlike E h zp hw (by omega)) rfl rfl (Nat.le_of_ble_eq_true rfl) ⟨Nat.le_of_ble_eq_true rfl, Nat.le_of_ble_eq_true rfl⟩ ⟨Nat.le_of_ble_eq_true rfl, Nat.le_of_ble_eq_true rfl⟩ ?_
    refine ev_if_eq (pc := 16) (tgt := 31) dX11_mix_16 (by decide) (fun zc16 => ?_) (fun zc16 => ?_)
    · -- eq at 16: taken
      refine ev_iconst (pc := 31) (v := (-1)) dX11_mix_31 (by decide) ?_
      refine ev_iret (pc := 32) dX11_mix_32 rfl ?_ ?_
      · rfl
      · have hC : ¬ ((0 ≤ (nI zp) ∧ (nI zp) ≤ 255) ∧ unl (nI zp).toNatClampNeg ∧ (0 ≤ zt0 ∧ zt0 ≤ 255)) := fun q => (bI_0.mp zc16) (by have := q.2.1; rwa [nI_clamp (by omega)] at this)
        rw [if_neg hC, if_neg hC]
        exact ⟨rfl, rfl⟩
    · -- eq at 16: not taken
      refine ev_iload_n (pc := 19) dX11_mix_19 rfl ?_
      refine ev_i2l (pc := 20) dX11_mix_20 ?_
      refine ev_lconst (pc := 21) (v := 0) dX11_mix_21 (by decide) ?_
      refine ev_ldc2 (pc := 22) (v := 255) dX11_mix_22 kcX11_324 ?_
      refine ev_callSv (S := []) (pc := 25) dX11_mix_25 kX11_in lX11_96 sX11_in (cn_X11_inC E h zt0 0 255 _ _ _ rfl (by decide) (by decide)) rfl rfl (Nat.le_of_ble_eq_true rfl) ⟨Nat.le_of_ble_eq_true rfl, Nat.le_of_ble_eq_true rfl⟩ ⟨Nat.le_of_ble_eq_true rfl, Nat.le_of_ble_eq_true rfl⟩ ?_
      refine ev_if_ne (pc := 28) (tgt := 33) dX11_mix_28 (by decide) (fun zc28 => ?_) (fun zc28 => ?_)
      · -- ne at 28: taken
        obtain ⟨zt, ht, rfl⟩ := vp_in_of (vp_sm (N := 256) (bI_n0.mp zc28).1 (bI_n0.mp zc28).2 (by decide) (by decide)) (by decide)
        refine ev_iconst (pc := 33) (v := 0) dX11_mix_33 (by decide) ?_
        refine ev_istore_n (pc := 34) (L' := [some (.ref 49), some (.int (nI zp)), some (.int (nI zt)), some (.int 0), none, none, none]) dX11_mix_34 (Nat.le_of_ble_eq_true rfl) rfl ?_
        refine ev_eqH (sI_id h 72).symm ?_
        refine lp_mix_35 E h zp zt (h.2.1 72) hw hp ht ?_ 4 0 (Nat.zero_add _)
        refine ev_iconst (pc := 127) (v := 0) dX11_mix_127 (by decide) ?_
        refine ev_istore_n (pc := 128) (L' := [some (.ref 49), some (.int (nI zp)), some (.int (nI zt)), some (.int 0), none, none, none]) dX11_mix_128 (Nat.le_of_ble_eq_true rfl) rfl ?_
        refine ev_eqH (sI_id (sI h 72 (mxI (h.2.1 69) zp zt (h.2.1 72) 4)) 69).symm ?_
        refine lp_mix_129 E (sI h 72 (mxI (h.2.1 69) zp zt (h.2.1 72) 4)) zp zt (wf_sI hw) ?_ 64 0 (Nat.zero_add _)
        refine ev_eqH (h' := sI (sI h 72 (mxI (h.2.1 69) zp zt (h.2.1 72) 4)) 69 (cpF (mxI (h.2.1 69) zp zt (h.2.1 72) 4) (h.2.1 69) 64)) rfl ?_
        refine ev_aload_n (pc := 153) dX11_mix_153 rfl ?_
        refine ev_iconst (pc := 154) (v := 0) dX11_mix_154 (by decide) ?_
        refine ev_putZ (pc := 155) dX11_mix_155 fX11_315 rfl (wlt (wf_sI (wf_sI hw)) (by decide)) (by decide) ?_
        refine ev_eqH (h' := sI (sI (sI h 72 (mxI (h.2.1 69) zp zt (h.2.1 72) 4)) 69 (cpF (mxI (h.2.1 69) zp zt (h.2.1 72) 4) (h.2.1 69) 64)) 49 (upd (h.2.1 49) 38 0)) (by rfl) ?_
        refine ev_aload_n (pc := 158) dX11_mix_158 rfl ?_
        refine ev_lconst (pc := 159) (v := 0) dX11_mix_159 (by decide) ?_
        refine ev_putL (pc := 160) dX11_mix_160 fX11_257 rfl (wlt (wf_sI (wf_sI (wf_sI hw))) (by decide)) ?_
        refine ev_eqH (h' := sL (sI (sI (sI h 72 (mxI (h.2.1 69) zp zt (h.2.1 72) 4)) 69 (cpF (mxI (h.2.1 69) zp zt (h.2.1 72) 4) (h.2.1 69) 64)) 49 (upd (h.2.1 49) 38 0)) 49 (vp_updL (h.2.2.1 49) 37 0)) (by rfl) ?_
        refine ev_iconst (pc := 163) (v := 1) dX11_mix_163 (by decide) ?_
        refine ev_iret (pc := 164) dX11_mix_164 rfl ?_ ?_
        · rfl
        · have hC : (0 ≤ (nI zp) ∧ (nI zp) ≤ 255) ∧ unl (nI zp).toNatClampNeg ∧ (0 ≤ (nI zt) ∧ (nI zt) ≤ 255) := ⟨bI_n0.mp zc9, by rw [nI_clamp (by omega)]; exact bI_n0.mp zc16, bI_n0.mp zc28⟩
          rw [if_pos hC, if_pos hC, nI_clamp (n := zp) (by omega), nI_clamp (n := zt) (by omega)]
          exact ⟨rfl, rfl⟩
      · -- ne at 28: not taken
        refine ev_iconst (pc := 31) (v := (-1)) dX11_mix_31 (by decide) ?_
        refine ev_iret (pc := 32) dX11_mix_32 rfl ?_ ?_
        · rfl
        · have hC : ¬ ((0 ≤ (nI zp) ∧ (nI zp) ≤ 255) ∧ unl (nI zp).toNatClampNeg ∧ (0 ≤ zt0 ∧ zt0 ≤ 255)) := fun q => (bI_0.mp zc28) q.2.2
          rw [if_neg hC, if_neg hC]
          exact ⟨rfl, rfl⟩
def lnI (zl zv : Int32) : Int32 := if zl = 0 then (zv <<< (24 &&& 31)) >>> (24 &&& 31) else if zl = 1 then (zv <<< (16 &&& 31)) >>> (16 &&& 31) else zv
theorem cn_X11_write (E : ME) (h : AH) (zk0 zi0 zv : Int32) (hw : WF h) (hsz : ∀ zj : Nat, zj < 4 → ∃ zl : Nat, zl ≤ 64 ∧ h.2.1 74 zj = nI zl) : Con E mX11_write 1 0 0 [.ref 49, .int zk0, .int zi0, .int zv] h (fun r h' => r = some (.int (if 0 ≤ zk0 ∧ zk0 ≤ 3 then (if h.2.1 73 (zk0).toNatClampNeg = -4 then -11 else if 0 ≤ zi0 ∧ zi0 ≤ h.2.1 74 (zk0).toNatClampNeg - 1 then 1 else -12) else -1)) ∧ h' = if (0 ≤ zk0 ∧ zk0 ≤ 3) ∧ ¬ h.2.1 73 (zk0).toNatClampNeg = -4 ∧ (0 ≤ zi0 ∧ zi0 ≤ h.2.1 74 (zk0).toNatClampNeg - 1) then sI h 75 (upd (h.2.1 75) (64 * (zk0).toNatClampNeg + (zi0).toNatClampNeg) (lnI (h.2.1 73 (zk0).toNatClampNeg) zv)) else h) := by
  refine con_of2 (L := [some (.ref 49), some (.int zk0), some (.int zi0), some (.int zv)]) rfl (Nat.le_of_ble_eq_true rfl) rfl ?_
  refine ev_iload_n (pc := 0) dX11_write_0 rfl ?_
  refine ev_i2l (pc := 1) dX11_write_1 ?_
  refine ev_lconst (pc := 2) (v := 0) dX11_write_2 (by decide) ?_
  refine ev_ldc2 (pc := 3) (v := 3) dX11_write_3 kcX11_197 ?_
  refine ev_callSv (S := []) (pc := 6) dX11_write_6 kX11_in lX11_96 sX11_in (cn_X11_inC E h zk0 0 3 _ _ _ rfl (by decide) (by decide)) rfl rfl (Nat.le_of_ble_eq_true rfl) ⟨Nat.le_of_ble_eq_true rfl, Nat.le_of_ble_eq_true rfl⟩ ⟨Nat.le_of_ble_eq_true rfl, Nat.le_of_ble_eq_true rfl⟩ ?_
  refine ev_if_ne (pc := 9) (tgt := 14) dX11_write_9 (by decide) (fun zc9 => ?_) (fun zc9 => ?_)
  · -- ne at 9: taken
    obtain ⟨zk, hk, rfl⟩ := vp_in_of (vp_sm (N := 4) (bI_n0.mp zc9).1 (bI_n0.mp zc9).2 (by decide) (by decide)) (by decide)
    refine ev_aload_n (pc := 14) dX11_write_14 rfl ?_
    refine ev_getR (pc := 15) (q := 73) dX11_write_15 fX11_84 rfl (wlt hw (by decide)) (wr hw rfl) ?_
    refine ev_iload_n (pc := 18) dX11_write_18 rfl ?_
    refine ev_iald (pc := 19) dX11_write_19 rfl (wlt hw (by decide)) (vp_in_nI (by omega) (by decide)) ?_
    refine ev_eqI (e' := h.2.1 73 zk) (by rw [show Int32.toNatClampNeg (nI zk) = zk from nI_clamp (by omega)] <;> rfl) ?_
    refine ev_bipush (pc := 20) (v := (-4)) dX11_write_20 (by decide) ?_
    refine ev_icmp_ne (pc := 22) (tgt := 28) dX11_write_22 (by decide) (fun zc22 => ?_) (fun zc22 => ?_)
    · -- ne at 22: taken
      refine ev_iload_n (pc := 28) dX11_write_28 rfl ?_
      refine ev_i2l (pc := 29) dX11_write_29 ?_
      refine ev_lconst (pc := 30) (v := 0) dX11_write_30 (by decide) ?_
      refine ev_aload_n (pc := 31) dX11_write_31 rfl ?_
      refine ev_getR (pc := 32) (q := 74) dX11_write_32 fX11_87 rfl (wlt hw (by decide)) (wr hw rfl) ?_
      refine ev_iload_n (pc := 35) dX11_write_35 rfl ?_
      refine ev_iald (pc := 36) dX11_write_36 rfl (wlt hw (by decide)) (vp_in_nI (by omega) (by decide)) ?_
      refine ev_eqI (e' := h.2.1 74 zk) (by rw [show Int32.toNatClampNeg (nI zk) = zk from nI_clamp (by omega)] <;> rfl) ?_
      refine ev_iconst (pc := 37) (v := 1) dX11_write_37 (by decide) ?_
      refine ev_isub (pc := 38) dX11_write_38 ?_
      refine ev_i2l (pc := 39) dX11_write_39 ?_
      refine ev_callSv (S := []) (pc := 40) dX11_write_40 kX11_in lX11_96 sX11_in (cn_X11_inC E h zi0 0 ((h.2.1 74 zk) - 1) _ _ _ rfl (by decide) rfl) rfl rfl (Nat.le_of_ble_eq_true rfl) ⟨Nat.le_of_ble_eq_true rfl, Nat.le_of_ble_eq_true rfl⟩ ⟨Nat.le_of_ble_eq_true rfl, Nat.le_of_ble_eq_true rfl⟩ ?_
      refine ev_if_ne (pc := 43) (tgt := 49) dX11_write_43 (by decide) (fun zc43 => ?_) (fun zc43 => ?_)
      · -- ne at 43: taken
        obtain ⟨zi, hi, rfl⟩ := vp_in_of (show vp_in zi0 64 by
          obtain ⟨zl, hl1, hl2⟩ := hsz zk hk
          have z1 := bI_n0.mp zc43
          rw [hl2] at z1
          exact vp_th 64 z1.1 z1.2 hl1 (by decide)) (by decide)
        refine ev_aload_n (pc := 49) dX11_write_49 rfl ?_
        refine ev_getR (pc := 50) (q := 75) dX11_write_50 fX11_90 rfl (wlt hw (by decide)) (wr hw rfl) ?_
        refine ev_bipush (pc := 53) (v := 64) dX11_write_53 (by decide) ?_
        refine ev_iload_n (pc := 55) dX11_write_55 rfl ?_
        refine ev_imul (pc := 56) dX11_write_56 ?_
        refine ev_eqI (e' := nI (64 * zk)) (pk_mul 64 zk) ?_
        refine ev_iload_n (pc := 57) dX11_write_57 rfl ?_
        refine ev_iadd (pc := 58) dX11_write_58 ?_
        refine ev_eqI (e' := nI ((64 * zk) + zi)) (nI_add (64 * zk) zi) ?_
        refine ev_aload_n (pc := 59) dX11_write_59 rfl ?_
        refine ev_getR (pc := 60) (q := 73) dX11_write_60 fX11_84 rfl (wlt hw (by decide)) (wr hw rfl) ?_
        refine ev_iload_n (pc := 63) dX11_write_63 rfl ?_
        refine ev_iald (pc := 64) dX11_write_64 rfl (wlt hw (by decide)) (vp_in_nI (by omega) (by decide)) ?_
        refine ev_eqI (e' := h.2.1 73 zk) (by rw [show Int32.toNatClampNeg (nI zk) = zk from nI_clamp (by omega)] <;> rfl) ?_
        refine ev_if_ne (pc := 65) (tgt := 78) dX11_write_65 (by decide) (fun zc65 => ?_) (fun zc65 => ?_)
        · -- ne at 65: taken
          refine ev_aload_n (pc := 78) dX11_write_78 rfl ?_
          refine ev_getR (pc := 79) (q := 73) dX11_write_79 fX11_84 rfl (wlt hw (by decide)) (wr hw rfl) ?_
          refine ev_iload_n (pc := 82) dX11_write_82 rfl ?_
          refine ev_iald (pc := 83) dX11_write_83 rfl (wlt hw (by decide)) (vp_in_nI (by omega) (by decide)) ?_
          refine ev_eqI (e' := h.2.1 73 zk) (by rw [show Int32.toNatClampNeg (nI zk) = zk from nI_clamp (by omega)] <;> rfl) ?_
          refine ev_iconst (pc := 84) (v := 1) dX11_write_84 (by decide) ?_
          refine ev_icmp_ne (pc := 85) (tgt := 98) dX11_write_85 (by decide) (fun zc85 => ?_) (fun zc85 => ?_)
          · -- ne at 85: taken
            refine ev_iload_n (pc := 98) dX11_write_98 rfl ?_
            refine ev_iast (pc := 99) dX11_write_99 rfl (wlt hw (by decide)) (vp_in_nI (by omega) (by decide)) ?_
            refine ev_eqH (h' := sI h 75 (upd (h.2.1 75) ((64 * zk) + zi) zv)) (by rw [show Int32.toNatClampNeg (nI ((64 * zk) + zi)) = (64 * zk) + zi from nI_clamp (by omega)] <;> rfl) ?_
            refine ev_iconst (pc := 100) (v := 1) dX11_write_100 (by decide) ?_
            refine ev_iret (pc := 101) dX11_write_101 rfl ?_ ?_
            · rfl
            · have hC : 0 ≤ nI zk ∧ nI zk ≤ 3 := bI_n0.mp zc9
              rw [if_pos hC, nI_clamp (n := zk) (by omega)]
              rw [if_neg zc22, if_pos (bI_n0.mp zc43), if_pos ⟨hC, zc22, bI_n0.mp zc43⟩, nI_clamp (n := zi) (by omega)]
              unfold lnI
              rw [if_neg zc65, if_neg zc85]
              exact ⟨rfl, rfl⟩
          · -- ne at 85: not taken
            refine ev_iload_n (pc := 88) dX11_write_88 rfl ?_
            refine ev_bipush (pc := 89) (v := 16) dX11_write_89 (by decide) ?_
            refine ev_ishl (pc := 91) dX11_write_91 ?_
            refine ev_bipush (pc := 92) (v := 16) dX11_write_92 (by decide) ?_
            refine ev_ishr (pc := 94) dX11_write_94 ?_
            refine ev_goto (pc := 95) (tgt := 99) dX11_write_95 (by decide) ?_
            refine ev_iast (pc := 99) dX11_write_99 rfl (wlt hw (by decide)) (vp_in_nI (by omega) (by decide)) ?_
            refine ev_eqH (h' := sI h 75 (upd (h.2.1 75) ((64 * zk) + zi) ((zv <<< (16 &&& 31)) >>> (16 &&& 31)))) (by rw [show Int32.toNatClampNeg (nI ((64 * zk) + zi)) = (64 * zk) + zi from nI_clamp (by omega)] <;> rfl) ?_
            refine ev_iconst (pc := 100) (v := 1) dX11_write_100 (by decide) ?_
            refine ev_iret (pc := 101) dX11_write_101 rfl ?_ ?_
            · rfl
            · have hC : 0 ≤ nI zk ∧ nI zk ≤ 3 := bI_n0.mp zc9
              rw [if_pos hC, nI_clamp (n := zk) (by omega)]
              rw [if_neg zc22, if_pos (bI_n0.mp zc43), if_pos ⟨hC, zc22, bI_n0.mp zc43⟩, nI_clamp (n := zi) (by omega)]
              unfold lnI
              rw [if_neg zc65, if_pos zc85]
              exact ⟨rfl, rfl⟩
        · -- ne at 65: not taken
          refine ev_iload_n (pc := 68) dX11_write_68 rfl ?_
          refine ev_bipush (pc := 69) (v := 24) dX11_write_69 (by decide) ?_
          refine ev_ishl (pc := 71) dX11_write_71 ?_
          refine ev_bipush (pc := 72) (v := 24) dX11_write_72 (by decide) ?_
          refine ev_ishr (pc := 74) dX11_write_74 ?_
          refine ev_goto (pc := 75) (tgt := 99) dX11_write_75 (by decide) ?_
          refine ev_iast (pc := 99) dX11_write_99 rfl (wlt hw (by decide)) (vp_in_nI (by omega) (by decide)) ?_
          refine ev_eqH (h' := sI h 75 (upd (h.2.1 75) ((64 * zk) + zi) ((zv <<< (24 &&& 31)) >>> (24 &&& 31)))) (by rw [show Int32.toNatClampNeg (nI ((64 * zk) + zi)) = (64 * zk) + zi from nI_clamp (by omega)] <;> rfl) ?_
          refine ev_iconst (pc := 100) (v := 1) dX11_write_100 (by decide) ?_
          refine ev_iret (pc := 101) dX11_write_101 rfl ?_ ?_
          · rfl
          · have hC : 0 ≤ nI zk ∧ nI zk ≤ 3 := bI_n0.mp zc9
            rw [if_pos hC, nI_clamp (n := zk) (by omega)]
            rw [if_neg zc22, if_pos (bI_n0.mp zc43), if_pos ⟨hC, zc22, bI_n0.mp zc43⟩, nI_clamp (n := zi) (by omega)]
            unfold lnI
            rw [if_pos zc65]
            exact ⟨rfl, rfl⟩
      · -- ne at 43: not taken
        refine ev_bipush (pc := 46) (v := (-12)) dX11_write_46 (by decide) ?_
        refine ev_iret (pc := 48) dX11_write_48 rfl ?_ ?_
        · rfl
        · have hC : 0 ≤ nI zk ∧ nI zk ≤ 3 := bI_n0.mp zc9
          rw [if_pos hC, nI_clamp (n := zk) (by omega)]
          rw [if_neg zc22, if_neg (bI_0.mp zc43), if_neg (fun q => (bI_0.mp zc43) q.2.2)]
          exact ⟨rfl, rfl⟩
    · -- ne at 22: not taken
      refine ev_bipush (pc := 25) (v := (-11)) dX11_write_25 (by decide) ?_
      refine ev_iret (pc := 27) dX11_write_27 rfl ?_ ?_
      · rfl
      · have hC : 0 ≤ nI zk ∧ nI zk ≤ 3 := bI_n0.mp zc9
        rw [if_pos hC, nI_clamp (n := zk) (by omega)]
        rw [if_pos zc22, if_neg (fun q => q.2.1 zc22)]
        exact ⟨rfl, rfl⟩
  · -- ne at 9: not taken
    refine ev_iconst (pc := 12) (v := (-1)) dX11_write_12 (by decide) ?_
    refine ev_iret (pc := 13) dX11_write_13 rfl ?_ ?_
    · rfl
    · have hC : ¬ (0 ≤ zk0 ∧ zk0 ≤ 3) := bI_0.mp zc9
      rw [if_neg hC, if_neg (fun q => hC q.1)]
      exact ⟨rfl, rfl⟩
