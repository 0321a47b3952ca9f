def nf4 (f : Nat → Int32) : Nat → Nat → Int32
  | 0 => f
  | i + 1 => upd (nf4 f i) i (-4)
/-- by symmetry: one way, the ways that hold -/
def swF (f : Nat → Int32) (zw : Nat) (g : Nat → Int32) : Nat → Nat → Int32
  | 0 => g
  | c + 1 => upd (upd (swF f zw g c) c (wdI (swF f zw g c c) (f (srN 8 zw c)))) (srN 8 zw c) (wdI (upd (swF f zw g c) c (wdI (swF f zw g c c) (f (srN 8 zw c))) (srN 8 zw c)) (f c))
def swO (f : Nat → Int32) (x : Int32) (g : Nat → Int32) : Nat → Nat → Int32
  | 0 => g
  | i + 1 => if (x >>> (nI (i + 1) &&& 31)) &&& 1 = 1 then swF f (i + 1) (swO f x g i) 64 else swO f x g i
theorem swO_u {f : Nat → Int32} {x : Int32} {g : Nat → Int32} {i : Nat} (h : (x >>> (nI (i + 1) &&& 31)) &&& 1 = 1) : swO f x g (i + 1) = swF f (i + 1) (swO f x g i) 64 := if_pos h
theorem swO_n {f : Nat → Int32} {x : Int32} {g : Nat → Int32} {i : Nat} (h : ¬ (x >>> (nI (i + 1) &&& 31)) &&& 1 = 1) : swO f x g (i + 1) = swO f x g i := if_neg h
/-- by the book: one copy, all of them -/
def bwQ (t : Nat → Int32) (sp : Nat → Nat) (g : Nat → Int32) : Nat → Nat → Int32
  | 0 => g
  | q + 1 => upd (bwQ t sp g q) (sp q) (wdI (bwQ t sp g q (sp q)) (t q))
def bwK (h : AH) (g : Nat → Int32) : Nat → Nat → Int32
  | 0 => g
  | k + 1 => if cpy (h.2.1 49 16) (nI (k / 1024)) (nI (k / 64 % 8)) (nI (k / 512 % 2 + 1)) (nI (k % 64)) ∧ clN h (k / 1024) (k / 64 % 8) (k / 512 % 2 + 1) (k % 64) = 0 ∧ 3 < agN h (k / 1024) (k / 64 % 8) (k / 512 % 2 + 1) (k % 64) then bwQ (fun zj => tlN (h.2.1 56) (k / 1024) (k / 64 % 8) (k / 512 % 2 + 1) zj) (spN (k / 512 % 2 + 1) (k % 64)) (bwK h g k) (16 * (k / 512 % 2 + 1) * (k / 512 % 2 + 1)) else bwK h g k
theorem lc_sI (h : AH) {k : Nat} (hk : k ≠ 49) (f : Nat → Int32) (za zx zd : Int32) : lcH (sI h k f) za zx zd = sI (lcH h za zx zd) k f := by
  unfold lcH
  rw [sI_ne h f (Ne.symm hk), sI_cm _ (Ne.symm hk)]
theorem lp_layWords_2 (E : ME) (h : AH) (hw : WF h) {post : PO} (K : Ev E mX11_layWords (rmm 4 0 0) (QM E 0 0 post) 0 0 30 [some (.ref 49), some (.int (nI 64)), none, none, none, none, none] [] (sI (sI h 70 (nf4 (h.2.1 70) 64)) 71 (nf4 (h.2.1 71) 64))) : ∀ n i : Nat, i + n = 64 → Ev E mX11_layWords (rmm 4 0 0) (QM E 0 0 post) 0 0 2 [some (.ref 49), some (.int (nI i)), none, none, none, none, none] [] (sI (sI h 70 (nf4 (h.2.1 70) i)) 71 (nf4 (h.2.1 71) i)) := by
  intro n
  induction n with
  | zero =>
    intro i hi
    obtain rfl : 64 = i := by omega
    refine ev_iload_n (pc := 2) dX11_layWords_2 rfl ?_
    refine ev_bipush (pc := 3) (v := 64) dX11_layWords_3 (by decide) ?_
    refine ev_icmp_ge (pc := 5) (tgt := 30) dX11_layWords_5 (by decide) (fun zc5 => ?_) (fun zc5 => absurd (by decide) zc5)
    exact K
  | succ n ih =>
    intro i hi
    have hlt : i < 64 := by omega
    refine ev_iload_n (pc := 2) dX11_layWords_2 rfl ?_
    refine ev_bipush (pc := 3) (v := 64) dX11_layWords_3 (by decide) ?_
    refine ev_icmp_ge (pc := 5) (tgt := 30) dX11_layWords_5 (by decide) (fun zc5 => absurd zc5 (nI_ge (a := i) (b := 64) hlt (by decide))) (fun zc5 => ?_)
    refine ev_aload_n (pc := 8) dX11_layWords_8 rfl ?_
    refine ev_getR (pc := 9) (q := 70) dX11_layWords_9 fX11_75 rfl (wlt (wf_sI (wf_sI hw)) (by decide)) (wr (wf_sI (wf_sI hw)) rfl) ?_
    refine ev_iload_n (pc := 12) dX11_layWords_12 rfl ?_
    refine ev_bipush (pc := 13) (v := (-4)) dX11_layWords_13 (by decide) ?_
    refine ev_iast (pc := 15) dX11_layWords_15 rfl (wlt (wf_sI (wf_sI hw)) (by decide)) (vp_in_nI (by omega) (by decide)) ?_
    refine ev_eqH (h' := sI (sI h 70 (upd (nf4 (h.2.1 70) i) i (-4))) 71 (nf4 (h.2.1 71) i)) (by rw [show Int32.toNatClampNeg (nI i) = i from nI_clamp (by omega)]; exact sI_dp _ (by decide) _ _ _) ?_
    refine ev_aload_n (pc := 16) dX11_layWords_16 rfl ?_
    refine ev_getR (pc := 17) (q := 71) dX11_layWords_17 fX11_78 rfl (wlt (wf_sI (wf_sI hw)) (by decide)) (wr (wf_sI (wf_sI hw)) rfl) ?_
    refine ev_iload_n (pc := 20) dX11_layWords_20 rfl ?_
    refine ev_bipush (pc := 21) (v := (-4)) dX11_layWords_21 (by decide) ?_
    refine ev_iast (pc := 23) dX11_layWords_23 rfl (wlt (wf_sI (wf_sI hw)) (by decide)) (vp_in_nI (by omega) (by decide)) ?_
    refine ev_eqH (h' := sI (sI h 70 (upd (nf4 (h.2.1 70) i) i (-4))) 71 (upd (nf4 (h.2.1 71) i) i (-4))) (by rw [show Int32.toNatClampNeg (nI i) = i from nI_clamp (by omega)]; exact sI_sI _ _ _ _) ?_
    refine ev_iinc (pc := 24) (v := nI (i + 1)) (L' := [some (.ref 49), some (.int (nI (i + 1))), none, none, none, none, none]) dX11_layWords_24 rfl (nI_1 _) (Nat.le_of_ble_eq_true rfl) rfl ?_
    refine ev_goto (pc := 27) (tgt := 2) dX11_layWords_27 (by decide) ?_
    exact ih (i + 1) (by omega)
theorem lp_layWords_45 (E : ME) (h : AH) (zw : Nat) (zx : Int32) (zf zg : Nat → Int32) (hw : WF h) (hw8 : zw < 8) (hu : (zx >>> (nI zw &&& 31)) &&& 1 = 1) {post : PO} (K : Ev E mX11_layWords (rmm 4 0 0) (QM E 0 0 post) 0 0 120 [some (.ref 49), some (.int zx), some (.int (nI zw)), some (.int (nI 64)), none, none, none] [] (sI (sI h 70 (swF (h.2.1 69) zw zg 64)) 71 zf)) : ∀ n i : Nat, i + n = 64 → Ev E mX11_layWords (rmm 4 0 0) (QM E 0 0 post) 0 0 45 [some (.ref 49), some (.int zx), some (.int (nI zw)), some (.int (nI i)), none, none, none] [] (sI (sI h 70 (swF (h.2.1 69) zw zg i)) 71 zf) := by
  intro n
  induction n with
  | zero =>
    intro i hi
    obtain rfl : 64 = i := by omega
    refine ev_iload_n (pc := 45) dX11_layWords_45 rfl ?_
    refine ev_bipush (pc := 46) (v := 64) dX11_layWords_46 (by decide) ?_
    refine ev_icmp_ge (pc := 48) (tgt := 120) dX11_layWords_48 (by decide) (fun zc48 => ?_) (fun zc48 => absurd (by decide) zc48)
    exact K
  | succ n ih =>
    intro i hi
    have hlt : i < 64 := by omega
    refine ev_iload_n (pc := 45) dX11_layWords_45 rfl ?_
    refine ev_bipush (pc := 46) (v := 64) dX11_layWords_46 (by decide) ?_
    refine ev_icmp_ge (pc := 48) (tgt := 120) dX11_layWords_48 (by decide) (fun zc48 => absurd zc48 (nI_ge (a := i) (b := 64) hlt (by decide))) (fun zc48 => ?_)
    refine ev_iload_n (pc := 51) dX11_layWords_51 rfl ?_
    refine ev_iload_n (pc := 52) dX11_layWords_52 rfl ?_
    refine ev_ishr (pc := 53) dX11_layWords_53 ?_
    refine ev_iconst (pc := 54) (v := 1) dX11_layWords_54 (by decide) ?_
    refine ev_iand (pc := 55) dX11_layWords_55 ?_
    refine ev_iconst (pc := 56) (v := 1) dX11_layWords_56 (by decide) ?_
    refine ev_icmp_ne (pc := 57) (tgt := 120) dX11_layWords_57 (by decide) (fun zc57 => absurd hu zc57) (fun zc57 => ?_)
    refine ev_iload_n (pc := 60) dX11_layWords_60 rfl ?_
    refine ev_bipush (pc := 61) (v := 8) dX11_layWords_61 (by decide) ?_
    refine ev_iload_n (pc := 63) dX11_layWords_63 rfl ?_
    refine ev_callSv (S := []) (pc := 64) dX11_layWords_64 kX11_sourceOf lX11_268 sX11_sourceOf (cn_X11_src8 E (sI (sI h 70 (swF (h.2.1 69) zw zg i)) 71 zf) i zw (wf_sI (wf_sI hw)) (by omega) (by omega)) rfl rfl (Nat.le_of_ble_eq_true rfl) ⟨Nat.le_of_ble_eq_true rfl, Nat.le_of_ble_eq_true rfl⟩ ⟨Nat.le_of_ble_eq_true rfl, Nat.le_of_ble_eq_true rfl⟩ ?_
    refine ev_istore (pc := 67) (L' := [some (.ref 49), some (.int zx), some (.int (nI zw)), some (.int (nI i)), some (.int (nI (srN 8 zw i))), none, none]) dX11_layWords_67 (Nat.le_of_ble_eq_true rfl) rfl ?_
    refine ev_aload_n (pc := 69) dX11_layWords_69 rfl ?_
    refine ev_getR (pc := 70) (q := 70) dX11_layWords_70 fX11_75 rfl (wlt (wf_sI (wf_sI hw)) (by decide)) (wr (wf_sI (wf_sI hw)) rfl) ?_
    refine ev_iload_n (pc := 73) dX11_layWords_73 rfl ?_
    refine ev_aload_n (pc := 74) dX11_layWords_74 rfl ?_
    refine ev_getR (pc := 75) (q := 70) dX11_layWords_75 fX11_75 rfl (wlt (wf_sI (wf_sI hw)) (by decide)) (wr (wf_sI (wf_sI hw)) rfl) ?_
    refine ev_iload_n (pc := 78) dX11_layWords_78 rfl ?_
    refine ev_iald (pc := 79) dX11_layWords_79 rfl (wlt (wf_sI (wf_sI hw)) (by decide)) (vp_in_nI (by have z9 := (sr8 zw hw8 i (by omega)).2; omega) (by decide)) ?_
    refine ev_eqI (e' := (swF (h.2.1 69) zw zg i) i) (by rw [show Int32.toNatClampNeg (nI i) = i from nI_clamp (by have z9 := (sr8 zw hw8 i (by omega)).2; omega)] <;> rfl) ?_
    refine ev_aload_n (pc := 80) dX11_layWords_80 rfl ?_
    refine ev_getR (pc := 81) (q := 69) dX11_layWords_81 fX11_72 rfl (wlt (wf_sI (wf_sI hw)) (by decide)) (wr (wf_sI (wf_sI hw)) rfl) ?_
    refine ev_iload (pc := 84) dX11_layWords_84 rfl ?_
    refine ev_iald (pc := 86) dX11_layWords_86 rfl (wlt (wf_sI (wf_sI hw)) (by decide)) (vp_in_nI (by have z9 := (sr8 zw hw8 i (by omega)).2; omega) (by decide)) ?_
    refine ev_eqI (e' := h.2.1 69 (srN 8 zw i)) (by rw [show Int32.toNatClampNeg (nI (srN 8 zw i)) = srN 8 zw i from nI_clamp (by have z9 := (sr8 zw hw8 i (by omega)).2; omega)] <;> rfl) ?_
    refine ev_callSv (S := [.int (nI i), .ref 70]) (pc := 87) dX11_layWords_87 kX11_word lX11_306 sX11_word (cn_X11_word E (sI (sI h 70 (swF (h.2.1 69) zw zg i)) 71 zf) ((swF (h.2.1 69) zw zg i) i) (h.2.1 69 (srN 8 zw i))) rfl rfl (Nat.le_of_ble_eq_true rfl) ⟨Nat.le_of_ble_eq_true rfl, Nat.le_of_ble_eq_true rfl⟩ ⟨Nat.le_of_ble_eq_true rfl, Nat.le_of_ble_eq_true rfl⟩ ?_
    refine ev_iast (pc := 90) dX11_layWords_90 rfl (wlt (wf_sI (wf_sI hw)) (by decide)) (vp_in_nI (by have z9 := (sr8 zw hw8 i (by omega)).2; omega) (by decide)) ?_
    refine ev_eqH (h' := sI (sI h 70 (upd (swF (h.2.1 69) zw zg i) i (wdI ((swF (h.2.1 69) zw zg i) i) (h.2.1 69 (srN 8 zw i))))) 71 zf) (by rw [show Int32.toNatClampNeg (nI i) = i from nI_clamp (by have z9 := (sr8 zw hw8 i (by omega)).2; omega)]; exact sI_dp _ (by decide) _ _ _) ?_
    refine ev_aload_n (pc := 91) dX11_layWords_91 rfl ?_
    refine ev_getR (pc := 92) (q := 70) dX11_layWords_92 fX11_75 rfl (wlt (wf_sI (wf_sI hw)) (by decide)) (wr (wf_sI (wf_sI hw)) rfl) ?_
    refine ev_iload (pc := 95) dX11_layWords_95 rfl ?_
    refine ev_aload_n (pc := 97) dX11_layWords_97 rfl ?_
    refine ev_getR (pc := 98) (q := 70) dX11_layWords_98 fX11_75 rfl (wlt (wf_sI (wf_sI hw)) (by decide)) (wr (wf_sI (wf_sI hw)) rfl) ?_
    refine ev_iload (pc := 101) dX11_layWords_101 rfl ?_
    refine ev_iald (pc := 103) dX11_layWords_103 rfl (wlt (wf_sI (wf_sI hw)) (by decide)) (vp_in_nI (by have z9 := (sr8 zw hw8 i (by omega)).2; omega) (by decide)) ?_
    refine ev_eqI (e' := (upd (swF (h.2.1 69) zw zg i) i (wdI ((swF (h.2.1 69) zw zg i) i) (h.2.1 69 (srN 8 zw i)))) (srN 8 zw i)) (by rw [show Int32.toNatClampNeg (nI (srN 8 zw i)) = srN 8 zw i from nI_clamp (by have z9 := (sr8 zw hw8 i (by omega)).2; omega)] <;> rfl) ?_
    refine ev_aload_n (pc := 104) dX11_layWords_104 rfl ?_
    refine ev_getR (pc := 105) (q := 69) dX11_layWords_105 fX11_72 rfl (wlt (wf_sI (wf_sI hw)) (by decide)) (wr (wf_sI (wf_sI hw)) rfl) ?_
    refine ev_iload_n (pc := 108) dX11_layWords_108 rfl ?_
    refine ev_iald (pc := 109) dX11_layWords_109 rfl (wlt (wf_sI (wf_sI hw)) (by decide)) (vp_in_nI (by have z9 := (sr8 zw hw8 i (by omega)).2; omega) (by decide)) ?_
    refine ev_eqI (e' := h.2.1 69 i) (by rw [show Int32.toNatClampNeg (nI i) = i from nI_clamp (by have z9 := (sr8 zw hw8 i (by omega)).2; omega)] <;> rfl) ?_
    refine ev_callSv (S := [.int (nI (srN 8 zw i)), .ref 70]) (pc := 110) dX11_layWords_110 kX11_word lX11_306 sX11_word (cn_X11_word E (sI (sI h 70 (upd (swF (h.2.1 69) zw zg i) i (wdI ((swF (h.2.1 69) zw zg i) i) (h.2.1 69 (srN 8 zw i))))) 71 zf) ((upd (swF (h.2.1 69) zw zg i) i (wdI ((swF (h.2.1 69) zw zg i) i) (h.2.1 69 (srN 8 zw i)))) (srN 8 zw i)) (h.2.1 69 i)) rfl rfl (Nat.le_of_ble_eq_true rfl) ⟨Nat.le_of_ble_eq_true rfl, Nat.le_of_ble_eq_true rfl⟩ ⟨Nat.le_of_ble_eq_true rfl, Nat.le_of_ble_eq_true rfl⟩ ?_
    refine ev_iast (pc := 113) dX11_layWords_113 rfl (wlt (wf_sI (wf_sI hw)) (by decide)) (vp_in_nI (by have z9 := (sr8 zw hw8 i (by omega)).2; omega) (by decide)) ?_
    refine ev_eqH (h' := sI (sI h 70 (upd (upd (swF (h.2.1 69) zw zg i) i (wdI ((swF (h.2.1 69) zw zg i) i) (h.2.1 69 (srN 8 zw i)))) (srN 8 zw i) (wdI ((upd (swF (h.2.1 69) zw zg i) i (wdI ((swF (h.2.1 69) zw zg i) i) (h.2.1 69 (srN 8 zw i)))) (srN 8 zw i)) (h.2.1 69 i)))) 71 zf) (by rw [show Int32.toNatClampNeg (nI (srN 8 zw i)) = srN 8 zw i from nI_clamp (by have z9 := (sr8 zw hw8 i (by omega)).2; omega)]; exact sI_dp _ (by decide) _ _ _) ?_
    refine ev_iinc (pc := 114) (v := nI (i + 1)) (L' := [some (.ref 49), some (.int zx), some (.int (nI zw)), some (.int (nI (i + 1))), some (.int (nI (srN 8 zw i))), none, none]) dX11_layWords_114 rfl (nI_1 _) (Nat.le_of_ble_eq_true rfl) rfl ?_
    refine ev_goto (pc := 117) (tgt := 45) dX11_layWords_117 (by decide) ?_
    refine ev_less (L' := [some (.ref 49), some (.int zx), some (.int (nI zw)), some (.int (nI (i + 1))), none, none, none]) (ls_keep (ls_keep (ls_keep (ls_keep (ls_drop (ls_keep (ls_keep (ls_nil _)))))))) ?_
    exact ih (i + 1) (by omega)
theorem lp_layWords_37 (E : ME) (h : AH) (zx : Int32) (zf zg : Nat → Int32) (hw : WF h) {post : PO} (K : Ev E mX11_layWords (rmm 4 0 0) (QM E 0 0 post) 0 0 126 [some (.ref 49), some (.int zx), some (.int (nI (7 + 1))), none, none, none, none] [] (sI (sI h 70 (swO (h.2.1 69) zx zg 7)) 71 zf)) : ∀ n i : Nat, i + n = 7 → Ev E mX11_layWords (rmm 4 0 0) (QM E 0 0 post) 0 0 37 [some (.ref 49), some (.int zx), some (.int (nI (i + 1))), none, none, none, none] [] (sI (sI h 70 (swO (h.2.1 69) zx zg i)) 71 zf) := by
  intro n
  induction n with
  | zero =>
    intro i hi
    obtain rfl : 7 = i := by omega
    refine ev_iload_n (pc := 37) dX11_layWords_37 rfl ?_
    refine ev_bipush (pc := 38) (v := 8) dX11_layWords_38 (by decide) ?_
    refine ev_icmp_ge (pc := 40) (tgt := 126) dX11_layWords_40 (by decide) (fun zc40 => ?_) (fun zc40 => absurd (by decide) zc40)
    exact K
  | succ n ih =>
    intro i hi
    have hlt : i < 7 := by omega
    by_cases hu : (zx >>> (nI (i + 1) &&& 31)) &&& 1 = 1
    ·
      refine ev_iload_n (pc := 37) dX11_layWords_37 rfl ?_
      refine ev_bipush (pc := 38) (v := 8) dX11_layWords_38 (by decide) ?_
      refine ev_icmp_ge (pc := 40) (tgt := 126) dX11_layWords_40 (by decide) (fun zc40 => absurd zc40 (nI_ge (a := i + 1) (b := 8) (by omega) (by decide))) (fun zc40 => ?_)
      refine ev_iconst (pc := 43) (v := 0) dX11_layWords_43 (by decide) ?_
      refine ev_istore_n (pc := 44) (L' := [some (.ref 49), some (.int zx), some (.int (nI (i + 1))), some (.int 0), none, none, none]) dX11_layWords_44 (Nat.le_of_ble_eq_true rfl) rfl ?_
      refine lp_layWords_45 E h (i + 1) zx zf (swO (h.2.1 69) zx zg i) hw (by omega) hu ?_ 64 0 (Nat.zero_add _)
      refine ev_iinc (pc := 120) (v := nI (i + 1 + 1)) (L' := [some (.ref 49), some (.int zx), some (.int (nI (i + 1 + 1))), some (.int (nI 64)), none, none, none]) dX11_layWords_120 rfl (nI_1 _) (Nat.le_of_ble_eq_true rfl) rfl ?_
      refine ev_goto (pc := 123) (tgt := 37) dX11_layWords_123 (by decide) ?_
      refine ev_less (L' := [some (.ref 49), some (.int zx), some (.int (nI (i + 1 + 1))), none, none, none, none]) (ls_keep (ls_keep (ls_keep (ls_drop (ls_keep (ls_keep (ls_keep (ls_nil _)))))))) ?_
      refine ev_eqH (h' := sI (sI h 70 (swO (h.2.1 69) zx zg (i + 1))) 71 zf) (by rw [swO_u hu]) ?_
      exact ih (i + 1) (by omega)
    ·
      refine ev_iload_n (pc := 37) dX11_layWords_37 rfl ?_
      refine ev_bipush (pc := 38) (v := 8) dX11_layWords_38 (by decide) ?_
      refine ev_icmp_ge (pc := 40) (tgt := 126) dX11_layWords_40 (by decide) (fun zc40 => absurd zc40 (nI_ge (a := i + 1) (b := 8) (by omega) (by decide))) (fun zc40 => ?_)
      refine ev_iconst (pc := 43) (v := 0) dX11_layWords_43 (by decide) ?_
      refine ev_istore_n (pc := 44) (L' := [some (.ref 49), some (.int zx), some (.int (nI (i + 1))), some (.int 0), none, none, none]) dX11_layWords_44 (Nat.le_of_ble_eq_true rfl) rfl ?_
      refine ev_iload_n (pc := 45) dX11_layWords_45 rfl ?_
      refine ev_bipush (pc := 46) (v := 64) dX11_layWords_46 (by decide) ?_
      refine ev_icmp_ge (pc := 48) (tgt := 120) dX11_layWords_48 (by decide) (fun zc48 => absurd zc48 (by decide)) (fun zc48 => ?_)
      refine ev_iload_n (pc := 51) dX11_layWords_51 rfl ?_
      refine ev_iload_n (pc := 52) dX11_layWords_52 rfl ?_
      refine ev_ishr (pc := 53) dX11_layWords_53 ?_
      refine ev_iconst (pc := 54) (v := 1) dX11_layWords_54 (by decide) ?_
      refine ev_iand (pc := 55) dX11_layWords_55 ?_
      refine ev_iconst (pc := 56) (v := 1) dX11_layWords_56 (by decide) ?_
      refine ev_icmp_ne (pc := 57) (tgt := 120) dX11_layWords_57 (by decide) (fun zc57 => ?_) (fun zc57 => absurd zc57 hu)
      refine ev_iinc (pc := 120) (v := nI (i + 1 + 1)) (L' := [some (.ref 49), some (.int zx), some (.int (nI (i + 1 + 1))), some (.int 0), none, none, none]) dX11_layWords_120 rfl (nI_1 _) (Nat.le_of_ble_eq_true rfl) rfl ?_
      refine ev_goto (pc := 123) (tgt := 37) dX11_layWords_123 (by decide) ?_
      refine ev_less (L' := [some (.ref 49), some (.int zx), some (.int (nI (i + 1 + 1))), none, none, none, none]) (ls_keep (ls_keep (ls_keep (ls_drop (ls_keep (ls_keep (ls_keep (ls_nil _)))))))) ?_
      refine ev_eqH (h' := sI (sI h 70 (swO (h.2.1 69) zx zg (i + 1))) 71 zf) (by rw [swO_n hu]) ?_
      exact ih (i + 1) (by omega)
