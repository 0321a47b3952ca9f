def lyF (t : Nat → Int32) (sp : Nat → Nat) (f : Nat → Int32) : Nat → Nat → Int32
  | 0 => f
  | k + 1 => upd (lyF t sp f k) (sp k) (if ¬ t k = -4 ∧ lyF t sp f k (sp k) = -1 then t k else lyF t sp f k (sp k))
theorem wf_lc {h : AH} {za zb zd : Int32} (hw : WF h) : WF (lcH h za zb zd) := hw
theorem lcH_lcH (h : AH) (za zb zd xa xb xd : Int32) : lcH (lcH h za zb zd) xa xb xd = lcH h xa xb xd := by
  unfold lcH
  refine (sI_sI _ _ _ _).trans ?_
  refine congrArg _ (funext fun zj => ?_)
  simp only [upd, sI_at]
  (repeat' split) <;> first | rfl | (exfalso; omega)
theorem lcH_id (h : AH) : lcH h (h.2.1 49 39) (h.2.1 49 40) (h.2.1 49 41) = h := by
  unfold lcH
  refine Eq.trans (congrArg _ (funext fun zj => ?_)) (sI_id h 49)
  simp only [upd]
  (repeat' split) <;> first | rfl | (rename_i z; rw [z])
theorem cpy_f {bk : Int32} {zb zp zw zs ze : Nat} (hb : bk = nI zb) (hb4 : zb ≤ 4) (h1 : zp < 2 ^ 31) (h2 : zw < 2 ^ 31) (h3 : zs < 2 ^ 31) (h4 : ze < 2 ^ 31) (hC : cpy bk (nI zp) (nI zw) (nI zs) (nI ze)) : zp < zb ∧ zw < 8 ∧ (zs = 1 ∨ zs = 2) ∧ ze < 64 ∧ ze / 8 + 4 * zs ≤ 8 ∧ ze % 8 + 4 * zs ≤ 8 := by
  obtain ⟨xp, xw, xs, xe, e1, e2, e3, e4, k1, k2, k3, k4, k5, k6⟩ := cpy_nat hb hb4 hC
  have f1 := (nI_eq h1 (by omega)).mp e1
  have f2 := (nI_eq h2 (by omega)).mp e2
  have f3 := (nI_eq h3 (by omega)).mp e3
  have f4 := (nI_eq h4 (by omega)).mp e4
  subst f1 f2 f3 f4
  exact ⟨k1, k2, k3, k4, k5, k6⟩
theorem lp_lay_36 (E : ME) (h : AH) (zp zw zs ze zN : Nat) (hw : WF h) (hsc : zs = 1 ∨ zs = 2) (hp : zp < 4) (hw8 : zw < 8) (he : ze < 64) (he1 : ze / 8 + 4 * zs ≤ 8) (he2 : ze % 8 + 4 * zs ≤ 8) (hN : zN = 16 * zs * zs) {post : PO} (K : Ev E mX11_lay (rmm 3 0 0) (QM E 0 0 post) 0 0 111 [some (.ref 49), some (.int (nI zp)), some (.int (nI zw)), some (.int (nI zs)), some (.int (nI ze)), some (.int (nI zN)), none, none] [] (sI (sI h 49 (upd (upd (upd (h.2.1 49) 39 (agN h zp zw zs ze)) 40 (clN h zp zw zs ze)) 41 (fiN h zp zw zs ze))) 69 (lyF (fun zj => tlN (h.2.1 56) zp zw zs zj) (spN zs ze) (h.2.1 69) zN))) : ∀ n i : Nat, i + n = zN → Ev E mX11_lay (rmm 3 0 0) (QM E 0 0 post) 0 0 36 [some (.ref 49), some (.int (nI zp)), some (.int (nI zw)), some (.int (nI zs)), some (.int (nI ze)), some (.int (nI i)), none, none] [] (sI (sI h 49 (upd (upd (upd (h.2.1 49) 39 (agN h zp zw zs ze)) 40 (clN h zp zw zs ze)) 41 (fiN h zp zw zs ze))) 69 (lyF (fun zj => tlN (h.2.1 56) zp zw zs zj) (spN zs ze) (h.2.1 69) i)) := by
  intro n
  induction n with
  | zero =>
    intro i hi
    obtain rfl : zN = i := by omega
    refine ev_iload (pc := 36) dX11_lay_36 rfl ?_
    refine ev_bipush (pc := 38) (v := 16) dX11_lay_38 (by decide) ?_
    refine ev_iload_n (pc := 40) dX11_lay_40 rfl ?_
    refine ev_imul (pc := 41) dX11_lay_41 ?_
    refine ev_eqI (e' := nI (16 * zs)) (pk_mul 16 zs) ?_
    refine ev_iload_n (pc := 42) dX11_lay_42 rfl ?_
    refine ev_imul (pc := 43) dX11_lay_43 ?_
    refine ev_eqI (e' := nI zN) (by rw [hN]; exact pk_mul _ _) ?_
    refine ev_icmp_ge (pc := 44) (tgt := 111) dX11_lay_44 (by decide) (fun zc44 => ?_) (fun zc44 => absurd ((nI_leI (by rcases hsc with rfl | rfl <;> omega) (by rcases hsc with rfl | rfl <;> omega)).mpr (Nat.le_refl _)) zc44)
    exact K
  | succ n ih =>
    intro i hi
    have hlt : i < zN := by omega
    refine ev_iload (pc := 36) dX11_lay_36 rfl ?_
    refine ev_bipush (pc := 38) (v := 16) dX11_lay_38 (by decide) ?_
    refine ev_iload_n (pc := 40) dX11_lay_40 rfl ?_
    refine ev_imul (pc := 41) dX11_lay_41 ?_
    refine ev_eqI (e' := nI (16 * zs)) (pk_mul 16 zs) ?_
    refine ev_iload_n (pc := 42) dX11_lay_42 rfl ?_
    refine ev_imul (pc := 43) dX11_lay_43 ?_
    refine ev_eqI (e' := nI zN) (by rw [hN]; exact pk_mul _ _) ?_
    refine ev_icmp_ge (pc := 44) (tgt := 111) dX11_lay_44 (by decide) (fun zc44 => absurd zc44 (nI_ge hlt (by rcases hsc with rfl | rfl <;> omega))) (fun zc44 => ?_)
    refine ev_aload_n (pc := 47) dX11_lay_47 rfl ?_
    refine ev_iload_n (pc := 48) dX11_lay_48 rfl ?_
    refine ev_iload_n (pc := 49) dX11_lay_49 rfl ?_
    refine ev_iload_n (pc := 50) dX11_lay_50 rfl ?_
    refine ev_iload (pc := 51) dX11_lay_51 rfl ?_
    refine ev_callVv (S := []) (pc := 53) dX11_lay_53 kX11_tells lX11_281 vX11_tells (cn_X11_tells E (sI (sI h 49 (upd (upd (upd (h.2.1 49) 39 (agN h zp zw zs ze)) 40 (clN h zp zw zs ze)) 41 (fiN h zp zw zs ze))) 69 (lyF (fun zj => tlN (h.2.1 56) zp zw zs zj) (spN zs ze) (h.2.1 69) i)) zp zw zs i (wf_sI (wf_sI hw)) hsc hp hw8 (by rcases hsc with rfl | rfl <;> omega)) rfl rfl (wlt (wf_sI (wf_sI hw)) (by decide)) rfl rfl (Nat.le_of_ble_eq_true rfl) ⟨Nat.le_of_ble_eq_true rfl, Nat.le_of_ble_eq_true rfl⟩ ⟨Nat.le_of_ble_eq_true rfl, Nat.le_of_ble_eq_true rfl⟩ ?_
    refine ev_istore (pc := 56) (L' := [some (.ref 49), some (.int (nI zp)), some (.int (nI zw)), some (.int (nI zs)), some (.int (nI ze)), some (.int (nI i)), some (.int (tlN (h.2.1 56) zp zw zs i)), none]) dX11_lay_56 (Nat.le_of_ble_eq_true rfl) rfl ?_
    refine ev_iload_n (pc := 58) dX11_lay_58 rfl ?_
    refine ev_iload (pc := 59) dX11_lay_59 rfl ?_
    refine ev_iload (pc := 61) dX11_lay_61 rfl ?_
    refine ev_callSv (S := []) (pc := 63) dX11_lay_63 kX11_spotOf lX11_285 sX11_spotOf (cn_X11_spotOf E (sI (sI h 49 (upd (upd (upd (h.2.1 49) 39 (agN h zp zw zs ze)) 40 (clN h zp zw zs ze)) 41 (fiN h zp zw zs ze))) 69 (lyF (fun zj => tlN (h.2.1 56) zp zw zs zj) (spN zs ze) (h.2.1 69) i)) zs ze i (wf_sI (wf_sI hw)) hsc (by rcases hsc with rfl | rfl <;> omega) (by rcases hsc with rfl | rfl <;> omega)) rfl rfl (Nat.le_of_ble_eq_true rfl) ⟨Nat.le_of_ble_eq_true rfl, Nat.le_of_ble_eq_true rfl⟩ ⟨Nat.le_of_ble_eq_true rfl, Nat.le_of_ble_eq_true rfl⟩ ?_
    refine ev_istore (pc := 66) (L' := [some (.ref 49), some (.int (nI zp)), some (.int (nI zw)), some (.int (nI zs)), some (.int (nI ze)), some (.int (nI i)), some (.int (tlN (h.2.1 56) zp zw zs i)), some (.int (nI (spN zs ze i)))]) dX11_lay_66 (Nat.le_of_ble_eq_true rfl) rfl ?_
    refine ev_aload_n (pc := 68) dX11_lay_68 rfl ?_
    refine ev_getR (pc := 69) (q := 69) dX11_lay_69 fX11_72 rfl (wlt (wf_sI (wf_sI hw)) (by decide)) (wr (wf_sI (wf_sI hw)) rfl) ?_
    refine ev_iload (pc := 72) dX11_lay_72 rfl ?_
    refine ev_iload (pc := 74) dX11_lay_74 rfl ?_
    refine ev_bipush (pc := 76) (v := (-4)) dX11_lay_76 (by decide) ?_
    refine ev_icmp_eq (pc := 78) (tgt := 97) dX11_lay_78 (by decide) (fun zc78 => ?_) (fun zc78 => ?_)
    · -- eq at 78: taken
      refine ev_aload_n (pc := 97) dX11_lay_97 rfl ?_
      refine ev_getR (pc := 98) (q := 69) dX11_lay_98 fX11_72 rfl (wlt (wf_sI (wf_sI hw)) (by decide)) (wr (wf_sI (wf_sI hw)) rfl) ?_
      refine ev_iload (pc := 101) dX11_lay_101 rfl ?_
      refine ev_iald (pc := 103) dX11_lay_103 rfl (wlt (wf_sI (wf_sI hw)) (by decide)) (vp_in_nI (by have z9 := spN_lt hsc he1 he2 (k := i) (by rcases hsc with rfl | rfl <;> omega); omega) (by decide)) ?_
      refine ev_eqI (e' := (lyF (fun zj => tlN (h.2.1 56) zp zw zs zj) (spN zs ze) (h.2.1 69) i) (spN zs ze i)) (by rw [show Int32.toNatClampNeg (nI (spN zs ze i)) = (spN zs ze i) from nI_clamp (by have z9 := spN_lt hsc he1 he2 (k := i) (by rcases hsc with rfl | rfl <;> omega); omega)] <;> rfl) ?_
      refine ev_iast (pc := 104) dX11_lay_104 rfl (wlt (wf_sI (wf_sI hw)) (by decide)) (vp_in_nI (by have z9 := spN_lt hsc he1 he2 (k := i) (by rcases hsc with rfl | rfl <;> omega); omega) (by decide)) ?_
      refine ev_eqH (h' := sI (sI h 49 (upd (upd (upd (h.2.1 49) 39 (agN h zp zw zs ze)) 40 (clN h zp zw zs ze)) 41 (fiN h zp zw zs ze))) 69 (upd (lyF (fun zj => tlN (h.2.1 56) zp zw zs zj) (spN zs ze) (h.2.1 69) i) (spN zs ze i) ((lyF (fun zj => tlN (h.2.1 56) zp zw zs zj) (spN zs ze) (h.2.1 69) i) (spN zs ze i)))) (by rw [show Int32.toNatClampNeg (nI (spN zs ze i)) = (spN zs ze i) from nI_clamp (by have z9 := spN_lt hsc he1 he2 (k := i) (by rcases hsc with rfl | rfl <;> omega); omega)]; exact sI_sI _ _ _ _) ?_
      refine ev_iinc (pc := 105) (v := nI (i + 1)) (L' := [some (.ref 49), some (.int (nI zp)), some (.int (nI zw)), some (.int (nI zs)), some (.int (nI ze)), some (.int (nI (i + 1))), some (.int (tlN (h.2.1 56) zp zw zs i)), some (.int (nI (spN zs ze i)))]) dX11_lay_105 rfl (nI_1 _) (Nat.le_of_ble_eq_true rfl) rfl ?_
      refine ev_goto (pc := 108) (tgt := 36) dX11_lay_108 (by decide) ?_
      refine ev_eqH (h' := sI (sI h 49 (upd (upd (upd (h.2.1 49) 39 (agN h zp zw zs ze)) 40 (clN h zp zw zs ze)) 41 (fiN h zp zw zs ze))) 69 (lyF (fun zj => tlN (h.2.1 56) zp zw zs zj) (spN zs ze) (h.2.1 69) (i + 1))) (by simp only [lyF, if_neg (show ¬ (¬ tlN (h.2.1 56) zp zw zs i = -4 ∧ lyF (fun zj => tlN (h.2.1 56) zp zw zs zj) (spN zs ze) (h.2.1 69) i (spN zs ze i) = -1) from fun z => z.1 zc78)]) ?_
      refine ev_less (L' := [some (.ref 49), some (.int (nI zp)), some (.int (nI zw)), some (.int (nI zs)), some (.int (nI ze)), some (.int (nI (i + 1))), none, none]) (ls_keep (ls_keep (ls_keep (ls_keep (ls_keep (ls_keep (ls_drop (ls_drop (ls_nil _))))))))) ?_
      exact ih (i + 1) (by omega)
    · -- eq at 78: not taken
      refine ev_aload_n (pc := 81) dX11_lay_81 rfl ?_
      refine ev_getR (pc := 82) (q := 69) dX11_lay_82 fX11_72 rfl (wlt (wf_sI (wf_sI hw)) (by decide)) (wr (wf_sI (wf_sI hw)) rfl) ?_
      refine ev_iload (pc := 85) dX11_lay_85 rfl ?_
      refine ev_iald (pc := 87) dX11_lay_87 rfl (wlt (wf_sI (wf_sI hw)) (by decide)) (vp_in_nI (by have z9 := spN_lt hsc he1 he2 (k := i) (by rcases hsc with rfl | rfl <;> omega); omega) (by decide)) ?_
      refine ev_eqI (e' := (lyF (fun zj => tlN (h.2.1 56) zp zw zs zj) (spN zs ze) (h.2.1 69) i) (spN zs ze i)) (by rw [show Int32.toNatClampNeg (nI (spN zs ze i)) = (spN zs ze i) from nI_clamp (by have z9 := spN_lt hsc he1 he2 (k := i) (by rcases hsc with rfl | rfl <;> omega); omega)] <;> rfl) ?_
      refine ev_iconst (pc := 88) (v := (-1)) dX11_lay_88 (by decide) ?_
      refine ev_icmp_ne (pc := 89) (tgt := 97) dX11_lay_89 (by decide) (fun zc89 => ?_) (fun zc89 => ?_)
      · -- ne at 89: taken
        refine ev_aload_n (pc := 97) dX11_lay_97 rfl ?_
        refine ev_getR (pc := 98) (q := 69) dX11_lay_98 fX11_72 rfl (wlt (wf_sI (wf_sI hw)) (by decide)) (wr (wf_sI (wf_sI hw)) rfl) ?_
        refine ev_iload (pc := 101) dX11_lay_101 rfl ?_
        refine ev_iald (pc := 103) dX11_lay_103 rfl (wlt (wf_sI (wf_sI hw)) (by decide)) (vp_in_nI (by have z9 := spN_lt hsc he1 he2 (k := i) (by rcases hsc with rfl | rfl <;> omega); omega) (by decide)) ?_
        refine ev_eqI (e' := (lyF (fun zj => tlN (h.2.1 56) zp zw zs zj) (spN zs ze) (h.2.1 69) i) (spN zs ze i)) (by rw [show Int32.toNatClampNeg (nI (spN zs ze i)) = (spN zs ze i) from nI_clamp (by have z9 := spN_lt hsc he1 he2 (k := i) (by rcases hsc with rfl | rfl <;> omega); omega)] <;> rfl) ?_
        refine ev_iast (pc := 104) dX11_lay_104 rfl (wlt (wf_sI (wf_sI hw)) (by decide)) (vp_in_nI (by have z9 := spN_lt hsc he1 he2 (k := i) (by rcases hsc with rfl | rfl <;> omega); omega) (by decide)) ?_
        refine ev_eqH (h' := sI (sI h 49 (upd (upd (upd (h.2.1 49) 39 (agN h zp zw zs ze)) 40 (clN h zp zw zs ze)) 41 (fiN h zp zw zs ze))) 69 (upd (lyF (fun zj => tlN (h.2.1 56) zp zw zs zj) (spN zs ze) (h.2.1 69) i) (spN zs ze i) ((lyF (fun zj => tlN (h.2.1 56) zp zw zs zj) (spN zs ze) (h.2.1 69) i) (spN zs ze i)))) (by rw [show Int32.toNatClampNeg (nI (spN zs ze i)) = (spN zs ze i) from nI_clamp (by have z9 := spN_lt hsc he1 he2 (k := i) (by rcases hsc with rfl | rfl <;> omega); omega)]; exact sI_sI _ _ _ _) ?_
        refine ev_iinc (pc := 105) (v := nI (i + 1)) (L' := [some (.ref 49), some (.int (nI zp)), some (.int (nI zw)), some (.int (nI zs)), some (.int (nI ze)), some (.int (nI (i + 1))), some (.int (tlN (h.2.1 56) zp zw zs i)), some (.int (nI (spN zs ze i)))]) dX11_lay_105 rfl (nI_1 _) (Nat.le_of_ble_eq_true rfl) rfl ?_
        refine ev_goto (pc := 108) (tgt := 36) dX11_lay_108 (by decide) ?_
        refine ev_eqH (h' := sI (sI h 49 (upd (upd (upd (h.2.1 49) 39 (agN h zp zw zs ze)) 40 (clN h zp zw zs ze)) 41 (fiN h zp zw zs ze))) 69 (lyF (fun zj => tlN (h.2.1 56) zp zw zs zj) (spN zs ze) (h.2.1 69) (i + 1))) (by simp only [lyF, if_neg (show ¬ (¬ tlN (h.2.1 56) zp zw zs i = -4 ∧ lyF (fun zj => tlN (h.2.1 56) zp zw zs zj) (spN zs ze) (h.2.1 69) i (spN zs ze i) = -1) from fun z => zc89 z.2)]) ?_
        refine ev_less (L' := [some (.ref 49), some (.int (nI zp)), some (.int (nI zw)), some (.int (nI zs)), some (.int (nI ze)), some (.int (nI (i + 1))), none, none]) (ls_keep (ls_keep (ls_keep (ls_keep (ls_keep (ls_keep (ls_drop (ls_drop (ls_nil _))))))))) ?_
        exact ih (i + 1) (by omega)
      · -- ne at 89: not taken
        refine ev_iload (pc := 92) dX11_lay_92 rfl ?_
        refine ev_goto (pc := 94) (tgt := 104) dX11_lay_94 (by decide) ?_
        refine ev_iast (pc := 104) dX11_lay_104 rfl (wlt (wf_sI (wf_sI hw)) (by decide)) (vp_in_nI (by have z9 := spN_lt hsc he1 he2 (k := i) (by rcases hsc with rfl | rfl <;> omega); omega) (by decide)) ?_
        refine ev_eqH (h' := sI (sI h 49 (upd (upd (upd (h.2.1 49) 39 (agN h zp zw zs ze)) 40 (clN h zp zw zs ze)) 41 (fiN h zp zw zs ze))) 69 (upd (lyF (fun zj => tlN (h.2.1 56) zp zw zs zj) (spN zs ze) (h.2.1 69) i) (spN zs ze i) (tlN (h.2.1 56) zp zw zs i))) (by rw [show Int32.toNatClampNeg (nI (spN zs ze i)) = (spN zs ze i) from nI_clamp (by have z9 := spN_lt hsc he1 he2 (k := i) (by rcases hsc with rfl | rfl <;> omega); omega)]; exact sI_sI _ _ _ _) ?_
        refine ev_iinc (pc := 105) (v := nI (i + 1)) (L' := [some (.ref 49), some (.int (nI zp)), some (.int (nI zw)), some (.int (nI zs)), some (.int (nI ze)), some (.int (nI (i + 1))), some (.int (tlN (h.2.1 56) zp zw zs i)), some (.int (nI (spN zs ze i)))]) dX11_lay_105 rfl (nI_1 _) (Nat.le_of_ble_eq_true rfl) rfl ?_
        refine ev_goto (pc := 108) (tgt := 36) dX11_lay_108 (by decide) ?_
        refine ev_eqH (h' := sI (sI h 49 (upd (upd (upd (h.2.1 49) 39 (agN h zp zw zs ze)) 40 (clN h zp zw zs ze)) 41 (fiN h zp zw zs ze))) 69 (lyF (fun zj => tlN (h.2.1 56) zp zw zs zj) (spN zs ze) (h.2.1 69) (i + 1))) (by simp only [lyF, if_pos (And.intro zc78 zc89)]) ?_
        refine ev_less (L' := [some (.ref 49), some (.int (nI zp)), some (.int (nI zw)), some (.int (nI zs)), some (.int (nI ze)), some (.int (nI (i + 1))), none, none]) (ls_keep (ls_keep (ls_keep (ls_keep (ls_keep (ls_keep (ls_drop (ls_drop (ls_nil _))))))))) ?_
        exact ih (i + 1) (by omega)
theorem cn_X11_lay (E : ME) (h : AH) (zp0 zw0 zs0 ze0 : Int32) (zb : Nat) (hw : WF h) (hb : h.2.1 49 16 = nI zb) (hb4 : zb ≤ 4) : Con E mX11_lay 3 0 0 [.ref 49, .int zp0, .int zw0, .int zs0, .int ze0] h (fun r h' => r = some (.int (if cpy (h.2.1 49 16) zp0 zw0 zs0 ze0 then (if 0 < clN h zp0.toNatClampNeg zw0.toNatClampNeg zs0.toNatClampNeg ze0.toNatClampNeg then -2 else fiN h zp0.toNatClampNeg zw0.toNatClampNeg zs0.toNatClampNeg ze0.toNatClampNeg) else -1)) ∧ h' = if cpy (h.2.1 49 16) zp0 zw0 zs0 ze0 then (if 0 < clN h zp0.toNatClampNeg zw0.toNatClampNeg zs0.toNatClampNeg ze0.toNatClampNeg then lcH h (agN h zp0.toNatClampNeg zw0.toNatClampNeg zs0.toNatClampNeg ze0.toNatClampNeg) (clN h zp0.toNatClampNeg zw0.toNatClampNeg zs0.toNatClampNeg ze0.toNatClampNeg) (fiN h zp0.toNatClampNeg zw0.toNatClampNeg zs0.toNatClampNeg ze0.toNatClampNeg) else sI (lcH h (agN h zp0.toNatClampNeg zw0.toNatClampNeg zs0.toNatClampNeg ze0.toNatClampNeg) (clN h zp0.toNatClampNeg zw0.toNatClampNeg zs0.toNatClampNeg ze0.toNatClampNeg) (fiN h zp0.toNatClampNeg zw0.toNatClampNeg zs0.toNatClampNeg ze0.toNatClampNeg)) 69 (lyF (fun zj => tlN (h.2.1 56) zp0.toNatClampNeg zw0.toNatClampNeg zs0.toNatClampNeg zj) (spN zs0.toNatClampNeg ze0.toNatClampNeg) (h.2.1 69) (16 * zs0.toNatClampNeg * zs0.toNatClampNeg))) else h) := by
  refine con_of2 (L := [some (.ref 49), some (.int zp0), some (.int zw0), some (.int zs0), some (.int ze0), none, none, none]) rfl (Nat.le_of_ble_eq_true rfl) rfl ?_
  refine ev_aload_n (pc := 0) dX11_lay_0 rfl ?_
  refine ev_iload_n (pc := 1) dX11_lay_1 rfl ?_
  refine ev_iload_n (pc := 2) dX11_lay_2 rfl ?_
  refine ev_iload_n (pc := 3) dX11_lay_3 rfl ?_
  refine ev_iload (pc := 4) dX11_lay_4 rfl ?_
  refine ev_callVv (S := []) (pc := 6) dX11_lay_6 kX11_isCopy lX11_288 vX11_isCopy (cn_X11_isCopy E h zp0 zw0 zs0 ze0 hw) rfl rfl (wlt hw (by decide)) rfl rfl (Nat.le_of_ble_eq_true rfl) ⟨Nat.le_of_ble_eq_true rfl, Nat.le_of_ble_eq_true rfl⟩ ⟨Nat.le_of_ble_eq_true rfl, Nat.le_of_ble_eq_true rfl⟩ ?_
  refine ev_if_ne (pc := 9) (tgt := 14) dX11_lay_9 (by decide) (fun zc9 => ?_) (fun zc9 => ?_)
  · -- ne at 9: taken
    obtain ⟨zp, zw, zs, ze, rfl, rfl, rfl, rfl, hp, hw8, hsc, he, he1, he2⟩ := cpy_nat hb hb4 (bI_n0.mp zc9)
    refine ev_aload_n (pc := 14) dX11_lay_14 rfl ?_
    refine ev_iload_n (pc := 15) dX11_lay_15 rfl ?_
    refine ev_iload_n (pc := 16) dX11_lay_16 rfl ?_
    refine ev_iload_n (pc := 17) dX11_lay_17 rfl ?_
    refine ev_iload (pc := 18) dX11_lay_18 rfl ?_
    refine ev_callV0 (S := []) (pc := 20) dX11_lay_20 kX11_layCopy lX11_292 vX11_layCopy (cn_X11_lc E h zp zw zs ze hw hsc (by omega) hw8 he he1 he2) rfl rfl (wlt hw (by decide)) rfl rfl (Nat.le_of_ble_eq_true rfl) ⟨Nat.le_of_ble_eq_true rfl, Nat.le_of_ble_eq_true rfl⟩ ⟨Nat.le_of_ble_eq_true rfl, Nat.le_of_ble_eq_true rfl⟩ ?_
    refine ev_eqH (h' := sI h 49 (upd (upd (upd (h.2.1 49) 39 (agN h zp zw zs ze)) 40 (clN h zp zw zs ze)) 41 (fiN h zp zw zs ze))) rfl ?_
    refine ev_aload_n (pc := 23) dX11_lay_23 rfl ?_
    refine ev_getI (pc := 24) dX11_lay_24 fX11_275 rfl (wlt (wf_sI hw) (by decide)) ?_
    refine ev_eqI (e' := clN h zp zw zs ze) (by rfl) ?_
    refine ev_if_le (pc := 27) (tgt := 33) dX11_lay_27 (by decide) (fun zc27 => ?_) (fun zc27 => ?_)
    · -- le at 27: taken
      refine ev_iconst (pc := 33) (v := 0) dX11_lay_33 (by decide) ?_
      refine ev_istore (pc := 34) (L' := [some (.ref 49), some (.int (nI zp)), some (.int (nI zw)), some (.int (nI zs)), some (.int (nI ze)), some (.int 0), none, none]) dX11_lay_34 (Nat.le_of_ble_eq_true rfl) rfl ?_
      refine ev_eqH (h' := sI (sI h 49 (upd (upd (upd (h.2.1 49) 39 (agN h zp zw zs ze)) 40 (clN h zp zw zs ze)) 41 (fiN h zp zw zs ze))) 69 (lyF (fun zj => tlN (h.2.1 56) zp zw zs zj) (spN zs ze) (h.2.1 69) 0)) (sI_id _ 69).symm ?_
      refine lp_lay_36 E h zp zw zs ze (16 * zs * zs) hw hsc (by omega) hw8 he he1 he2 rfl ?_ (16 * zs * zs) 0 (Nat.zero_add _)
      refine ev_aload_n (pc := 111) dX11_lay_111 rfl ?_
      refine ev_getI (pc := 112) dX11_lay_112 fX11_278 rfl (wlt (wf_sI (wf_sI hw)) (by decide)) ?_
      refine ev_eqI (e' := fiN h zp zw zs ze) (by rfl) ?_
      refine ev_iret (pc := 115) dX11_lay_115 rfl ?_ ?_
      · rfl
      · have hC : cpy (h.2.1 49 16) (nI zp) (nI zw) (nI zs) (nI ze) := bI_n0.mp zc9
        rw [if_pos hC, if_pos hC, nI_clamp (n := zp) (by omega), nI_clamp (n := zw) (by omega), nI_clamp (n := zs) (by omega), nI_clamp (n := ze) (by omega)]
        have z2 : ¬ 0 < clN h zp zw zs ze := (i_lt2 _ _).mpr zc27
        rw [if_neg z2, if_neg z2]
        exact ⟨rfl, rfl⟩
    · -- le at 27: not taken
      refine ev_bipush (pc := 30) (v := (-2)) dX11_lay_30 (by decide) ?_
      refine ev_iret (pc := 32) dX11_lay_32 rfl ?_ ?_
      · rfl
      · have hC : cpy (h.2.1 49 16) (nI zp) (nI zw) (nI zs) (nI ze) := bI_n0.mp zc9
        rw [if_pos hC, if_pos hC, nI_clamp (n := zp) (by omega), nI_clamp (n := zw) (by omega), nI_clamp (n := zs) (by omega), nI_clamp (n := ze) (by omega)]
        have z2 : 0 < clN h zp zw zs ze := (i_le2 _ _).mp zc27
        rw [if_pos z2, if_pos z2]
        exact ⟨rfl, rfl⟩
  · -- ne at 9: not taken
    refine ev_iconst (pc := 12) (v := (-1)) dX11_lay_12 (by decide) ?_
    refine ev_iret (pc := 13) dX11_lay_13 rfl ?_ ?_
    · rfl
    · have hC : ¬ (cpy (h.2.1 49 16) zp0 zw0 zs0 ze0) := bI_0.mp zc9
      rw [if_neg hC, if_neg hC]
      exact ⟨rfl, rfl⟩
def cps (h : AH) (zp : Nat) (zl : Int32) : Nat → Int32
  | 0 => 0
  | k + 1 => if cpy (h.2.1 49 16) (nI zp) (nI (k / 64 % 8)) (nI (k / 512 + 1)) (nI (k % 64)) then cps h zp zl k + (if clN h zp (k / 64 % 8) (k / 512 + 1) (k % 64) = 0 ∧ zl ≤ agN h zp (k / 64 % 8) (k / 512 + 1) (k % 64) then 1 else 0) else cps h zp zl k
theorem lp_copies_27 (E : ME) (h : AH) (zp zb : Nat) (zl : Int32) (hw : WF h) (hb : h.2.1 49 16 = nI zb) (hb4 : zb ≤ 4) (hp : zp < 4) {post : PO} (K : ∀ (za zx zd : Int32), Ev E mX11_copies (rmm 3 0 0) (QM E 0 0 post) 0 0 119 [some (.ref 49), some (.int (nI zp)), some (.int zl), some (.int (cps h zp zl 1024)), some (.int (nI 1024))] [] (lcH h za zx zd)) : ∀ n i : Nat, ∀ (za zx zd : Int32), i + n = 1024 → Ev E mX11_copies (rmm 3 0 0) (QM E 0 0 post) 0 0 27 [some (.ref 49), some (.int (nI zp)), some (.int zl), some (.int (cps h zp zl i)), some (.int (nI i))] [] (lcH h za zx zd) := by
  intro n
  induction n with
  | zero =>
    intro i za zx zd hi
    obtain rfl : 1024 = i := by omega
    refine ev_iload (pc := 27) dX11_copies_27 rfl ?_
    refine ev_sipush (pc := 29) (v := 1024) dX11_copies_29 (by decide) ?_
    refine ev_icmp_ge (pc := 32) (tgt := 119) dX11_copies_32 (by decide) (fun zc32 => ?_) (fun zc32 => absurd (by decide) zc32)
    exact K za zx zd
  | succ n ih =>
    intro i za zx zd hi
    have hlt : i < 1024 := by omega
    refine ev_iload (pc := 27) dX11_copies_27 rfl ?_
    refine ev_sipush (pc := 29) (v := 1024) dX11_copies_29 (by decide) ?_
    refine ev_icmp_ge (pc := 32) (tgt := 119) dX11_copies_32 (by decide) (fun zc32 => absurd zc32 (nI_ge (a := i) (b := 1024) hlt (by decide))) (fun zc32 => ?_)
    refine ev_aload_n (pc := 35) dX11_copies_35 rfl ?_
    refine ev_iload_n (pc := 36) dX11_copies_36 rfl ?_
    refine ev_iload (pc := 37) dX11_copies_37 rfl ?_
    refine ev_bipush (pc := 39) (v := 64) dX11_copies_39 (by decide) ?_
    refine ev_idiv (pc := 41) dX11_copies_41 (by decide) ?_
    refine ev_eqI (e' := nI (i / 64)) (pk_div (a := i) (d := 64) (by omega) (by omega) (by omega)) ?_
    refine ev_bipush (pc := 42) (v := 8) dX11_copies_42 (by decide) ?_
    refine ev_irem (pc := 44) dX11_copies_44 (by decide) ?_
    refine ev_eqI (e' := nI ((i / 64) % 8)) (pk_rem (a := i / 64) (d := 8) (by omega) (by omega) (by omega)) ?_
    refine ev_iload (pc := 45) dX11_copies_45 rfl ?_
    refine ev_sipush (pc := 47) (v := 512) dX11_copies_47 (by decide) ?_
    refine ev_idiv (pc := 50) dX11_copies_50 (by decide) ?_
    refine ev_eqI (e' := nI (i / 512)) (pk_div (a := i) (d := 512) (by omega) (by omega) (by omega)) ?_
    refine ev_iconst (pc := 51) (v := 1) dX11_copies_51 (by decide) ?_
    refine ev_iadd (pc := 52) dX11_copies_52 ?_
    refine ev_eqI (e' := nI ((i / 512) + 1)) (nI_add (i / 512) 1) ?_
    refine ev_iload (pc := 53) dX11_copies_53 rfl ?_
    refine ev_bipush (pc := 55) (v := 64) dX11_copies_55 (by decide) ?_
    refine ev_irem (pc := 57) dX11_copies_57 (by decide) ?_
    refine ev_eqI (e' := nI (i % 64)) (pk_rem (a := i) (d := 64) (by omega) (by omega) (by omega)) ?_
    refine ev_callVv (S := []) (pc := 58) dX11_copies_58 kX11_isCopy lX11_288 vX11_isCopy (cn_X11_isCopy E (lcH h za zx zd) (nI zp) (nI ((i / 64) % 8)) (nI ((i / 512) + 1)) (nI (i % 64)) (wf_lc hw)) rfl rfl (wlt (wf_lc hw) (by decide)) rfl rfl (Nat.le_of_ble_eq_true rfl) ⟨Nat.le_of_ble_eq_true rfl, Nat.le_of_ble_eq_true rfl⟩ ⟨Nat.le_of_ble_eq_true rfl, Nat.le_of_ble_eq_true rfl⟩ ?_
    refine ev_if_eq (pc := 61) (tgt := 113) dX11_copies_61 (by decide) (fun zc61 => ?_) (fun zc61 => ?_)
    · -- eq at 61: taken
      refine ev_iinc (pc := 113) (v := nI (i + 1)) (L' := [some (.ref 49), some (.int (nI zp)), some (.int zl), some (.int (cps h zp zl i)), some (.int (nI (i + 1)))]) dX11_copies_113 rfl (nI_1 _) (Nat.le_of_ble_eq_true rfl) rfl ?_
      refine ev_goto (pc := 116) (tgt := 27) dX11_copies_116 (by decide) ?_
      refine ev_eqL (L' := [some (.ref 49), some (.int (nI zp)), some (.int zl), some (.int (cps h zp zl (i + 1))), some (.int (nI (i + 1)))]) (by simp only [cps, if_neg (show ¬ (cpy (h.2.1 49 16) (nI zp) (nI (i / 64 % 8)) (nI (i / 512 + 1)) (nI (i % 64))) from bI_0.mp zc61)]) ?_
      exact ih (i + 1) _ _ _ (by omega)
    · -- eq at 61: not taken
      have zF := cpy_f hb hb4 (by omega) (by omega) (by omega) (by omega) (show cpy (h.2.1 49 16) (nI zp) (nI (i / 64 % 8)) (nI (i / 512 + 1)) (nI (i % 64)) from bI_n0.mp zc61)
      refine ev_aload_n (pc := 64) dX11_copies_64 rfl ?_
      refine ev_iload_n (pc := 65) dX11_copies_65 rfl ?_
      refine ev_iload (pc := 66) dX11_copies_66 rfl ?_
      refine ev_bipush (pc := 68) (v := 64) dX11_copies_68 (by decide) ?_
      refine ev_idiv (pc := 70) dX11_copies_70 (by decide) ?_
      refine ev_eqI (e' := nI (i / 64)) (pk_div (a := i) (d := 64) (by omega) (by omega) (by omega)) ?_
      refine ev_bipush (pc := 71) (v := 8) dX11_copies_71 (by decide) ?_
      refine ev_irem (pc := 73) dX11_copies_73 (by decide) ?_
      refine ev_eqI (e' := nI ((i / 64) % 8)) (pk_rem (a := i / 64) (d := 8) (by omega) (by omega) (by omega)) ?_
      refine ev_iload (pc := 74) dX11_copies_74 rfl ?_
      refine ev_sipush (pc := 76) (v := 512) dX11_copies_76 (by decide) ?_
      refine ev_idiv (pc := 79) dX11_copies_79 (by decide) ?_
      refine ev_eqI (e' := nI (i / 512)) (pk_div (a := i) (d := 512) (by omega) (by omega) (by omega)) ?_
      refine ev_iconst (pc := 80) (v := 1) dX11_copies_80 (by decide) ?_
      refine ev_iadd (pc := 81) dX11_copies_81 ?_
      refine ev_eqI (e' := nI ((i / 512) + 1)) (nI_add (i / 512) 1) ?_
      refine ev_iload (pc := 82) dX11_copies_82 rfl ?_
      refine ev_bipush (pc := 84) (v := 64) dX11_copies_84 (by decide) ?_
      refine ev_irem (pc := 86) dX11_copies_86 (by decide) ?_
      refine ev_eqI (e' := nI (i % 64)) (pk_rem (a := i) (d := 64) (by omega) (by omega) (by omega)) ?_
      refine ev_callV (S := []) (pc := 87) dX11_copies_87 kX11_layCopy lX11_292 vX11_layCopy (cn_X11_lc E (lcH h za zx zd) zp (i / 64 % 8) (i / 512 + 1) (i % 64) (wf_lc hw) zF.2.2.1 (by omega) zF.2.1 zF.2.2.2.1 zF.2.2.2.2.1 zF.2.2.2.2.2) rfl rfl (wlt (wf_lc hw) (by decide)) rfl rfl (Nat.le_of_ble_eq_true rfl) ⟨Nat.le_of_ble_eq_true rfl, Nat.le_of_ble_eq_true rfl⟩ ⟨Nat.le_of_ble_eq_true rfl, Nat.le_of_ble_eq_true rfl⟩ ?_
      rintro _ _ ⟨rfl, rfl⟩
      refine ev_eqH (h' := lcH h (agN h zp (i / 64 % 8) (i / 512 + 1) (i % 64)) (clN h zp (i / 64 % 8) (i / 512 + 1) (i % 64)) (fiN h zp (i / 64 % 8) (i / 512 + 1) (i % 64))) (lcH_lcH _ _ _ _ _ _ _) ?_
      show Ev E mX11_copies (rmm 3 0 0) (QM E 0 0 post) 0 0 90 [some (.ref 49), some (.int (nI zp)), some (.int zl), some (.int (cps h zp zl i)), some (.int (nI i))] [] (lcH h (agN h zp (i / 64 % 8) (i / 512 + 1) (i % 64)) (clN h zp (i / 64 % 8) (i / 512 + 1) (i % 64)) (fiN h zp (i / 64 % 8) (i / 512 + 1) (i % 64)))
      refine ev_iload_n (pc := 90) dX11_copies_90 rfl ?_
      refine ev_aload_n (pc := 91) dX11_copies_91 rfl ?_
      refine ev_getI (pc := 92) dX11_copies_92 fX11_275 rfl (wlt (wf_lc hw) (by decide)) ?_
      refine ev_eqI (e' := clN h zp (i / 64 % 8) (i / 512 + 1) (i % 64)) rfl ?_
      refine ev_if_ne (pc := 95) (tgt := 110) dX11_copies_95 (by decide) (fun zc95 => ?_) (fun zc95 => ?_)
      · -- ne at 95: taken
        refine ev_iconst (pc := 110) (v := 0) dX11_copies_110 (by decide) ?_
        refine ev_iadd (pc := 111) dX11_copies_111 ?_
        refine ev_istore_n (pc := 112) (L' := [some (.ref 49), some (.int (nI zp)), some (.int zl), some (.int ((cps h zp zl i) + 0)), some (.int (nI i))]) dX11_copies_112 (Nat.le_of_ble_eq_true rfl) rfl ?_
        refine ev_iinc (pc := 113) (v := nI (i + 1)) (L' := [some (.ref 49), some (.int (nI zp)), some (.int zl), some (.int ((cps h zp zl i) + 0)), some (.int (nI (i + 1)))]) dX11_copies_113 rfl (nI_1 _) (Nat.le_of_ble_eq_true rfl) rfl ?_
        refine ev_goto (pc := 116) (tgt := 27) dX11_copies_116 (by decide) ?_
        refine ev_eqL (L' := [some (.ref 49), some (.int (nI zp)), some (.int zl), some (.int (cps h zp zl (i + 1))), some (.int (nI (i + 1)))]) (by simp only [cps, if_pos (show cpy (h.2.1 49 16) (nI zp) (nI (i / 64 % 8)) (nI (i / 512 + 1)) (nI (i % 64)) from bI_n0.mp zc61), if_neg (show ¬ (clN h zp (i / 64 % 8) (i / 512 + 1) (i % 64) = 0 ∧ zl ≤ agN h zp (i / 64 % 8) (i / 512 + 1) (i % 64)) from fun z => zc95 z.1)]) ?_
        exact ih (i + 1) _ _ _ (by omega)
      · -- ne at 95: not taken
        refine ev_aload_n (pc := 98) dX11_copies_98 rfl ?_
        refine ev_getI (pc := 99) dX11_copies_99 fX11_272 rfl (wlt (wf_lc hw) (by decide)) ?_
        refine ev_eqI (e' := agN h zp (i / 64 % 8) (i / 512 + 1) (i % 64)) rfl ?_
        refine ev_iload_n (pc := 102) dX11_copies_102 rfl ?_
        refine ev_icmp_lt (pc := 103) (tgt := 110) dX11_copies_103 (by decide) (fun zc103 => ?_) (fun zc103 => ?_)
        · -- lt at 103: taken
          refine ev_iconst (pc := 110) (v := 0) dX11_copies_110 (by decide) ?_
          refine ev_iadd (pc := 111) dX11_copies_111 ?_
          refine ev_istore_n (pc := 112) (L' := [some (.ref 49), some (.int (nI zp)), some (.int zl), some (.int ((cps h zp zl i) + 0)), some (.int (nI i))]) dX11_copies_112 (Nat.le_of_ble_eq_true rfl) rfl ?_
          refine ev_iinc (pc := 113) (v := nI (i + 1)) (L' := [some (.ref 49), some (.int (nI zp)), some (.int zl), some (.int ((cps h zp zl i) + 0)), some (.int (nI (i + 1)))]) dX11_copies_113 rfl (nI_1 _) (Nat.le_of_ble_eq_true rfl) rfl ?_
          refine ev_goto (pc := 116) (tgt := 27) dX11_copies_116 (by decide) ?_
          refine ev_eqL (L' := [some (.ref 49), some (.int (nI zp)), some (.int zl), some (.int (cps h zp zl (i + 1))), some (.int (nI (i + 1)))]) (by simp only [cps, if_pos (show cpy (h.2.1 49 16) (nI zp) (nI (i / 64 % 8)) (nI (i / 512 + 1)) (nI (i % 64)) from bI_n0.mp zc61), if_neg (show ¬ (clN h zp (i / 64 % 8) (i / 512 + 1) (i % 64) = 0 ∧ zl ≤ agN h zp (i / 64 % 8) (i / 512 + 1) (i % 64)) from fun z => (i_lt2 _ _).mpr z.2 zc103)]) ?_
          exact ih (i + 1) _ _ _ (by omega)
        · -- lt at 103: not taken
          refine ev_iconst (pc := 106) (v := 1) dX11_copies_106 (by decide) ?_
          refine ev_goto (pc := 107) (tgt := 111) dX11_copies_107 (by decide) ?_
          refine ev_iadd (pc := 111) dX11_copies_111 ?_
          refine ev_istore_n (pc := 112) (L' := [some (.ref 49), some (.int (nI zp)), some (.int zl), some (.int ((cps h zp zl i) + 1)), some (.int (nI i))]) dX11_copies_112 (Nat.le_of_ble_eq_true rfl) rfl ?_
          refine ev_iinc (pc := 113) (v := nI (i + 1)) (L' := [some (.ref 49), some (.int (nI zp)), some (.int zl), some (.int ((cps h zp zl i) + 1)), some (.int (nI (i + 1)))]) dX11_copies_113 rfl (nI_1 _) (Nat.le_of_ble_eq_true rfl) rfl ?_
          refine ev_goto (pc := 116) (tgt := 27) dX11_copies_116 (by decide) ?_
          refine ev_eqL (L' := [some (.ref 49), some (.int (nI zp)), some (.int zl), some (.int (cps h zp zl (i + 1))), some (.int (nI (i + 1)))]) (by simp only [cps, if_pos (show cpy (h.2.1 49 16) (nI zp) (nI (i / 64 % 8)) (nI (i / 512 + 1)) (nI (i % 64)) from bI_n0.mp zc61), if_pos (show clN h zp (i / 64 % 8) (i / 512 + 1) (i % 64) = 0 ∧ zl ≤ agN h zp (i / 64 % 8) (i / 512 + 1) (i % 64) from ⟨zc95, (i_lt2 _ _).mp zc103⟩)]) ?_
          exact ih (i + 1) _ _ _ (by omega)
