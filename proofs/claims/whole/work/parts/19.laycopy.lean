/-- a copy's cells: those in which it agrees, clashes, fills -/
def agF (t f : Nat → Int32) : Nat → Int32
  | 0 => 0
  | k + 1 => if t k = -4 then agF t f k else agF t f k + (if f k = t k then 1 else 0)
def clF (t f : Nat → Int32) : Nat → Int32
  | 0 => 0
  | k + 1 => if t k = -4 then clF t f k else clF t f k + (if ¬ f k = -1 ∧ ¬ f k = t k then 1 else 0)
def fiF (t f : Nat → Int32) : Nat → Int32
  | 0 => 0
  | k + 1 => if t k = -4 then fiF t f k else fiF t f k + (if f k = -1 then 1 else 0)
theorem spN_lt {zs ze k : Nat} (hsc : zs = 1 ∨ zs = 2) (h1 : ze / 8 + 4 * zs ≤ 8) (h2 : ze % 8 + 4 * zs ≤ 8) (hk : k < 16 * zs * zs) : spN zs ze k < 64 := by
  unfold spN
  rcases hsc with rfl | rfl <;> omega
theorem lp_layCopy_18 (E : ME) (h : AH) (zp zw zs ze zN : Nat) (hw : WF h) (hsc : zs = 1 ∨ zs = 2) (hp : zp < 4) (hw8 : zw < 8) (he : ze < 64) (he1 : ze / 8 + 4 * zs ≤ 8) (he2 : ze % 8 + 4 * zs ≤ 8) (hN : zN = 16 * zs * zs) {post : PO} (K : Ev E mX11_layCopy (rmm 2 0 0) (QM E 0 0 post) 0 0 136 [some (.ref 49), some (.int (nI zp)), some (.int (nI zw)), some (.int (nI zs)), some (.int (nI ze)), some (.int (nI zN)), none, none] [] (sI h 49 (upd (upd (upd (h.2.1 49) 39 (agF (fun zj => tlN (h.2.1 56) zp zw zs zj) (fun zj => h.2.1 69 (spN zs ze zj)) zN)) 40 (clF (fun zj => tlN (h.2.1 56) zp zw zs zj) (fun zj => h.2.1 69 (spN zs ze zj)) zN)) 41 (fiF (fun zj => tlN (h.2.1 56) zp zw zs zj) (fun zj => h.2.1 69 (spN zs ze zj)) zN)))) : ∀ n i : Nat, i + n = zN → Ev E mX11_layCopy (rmm 2 0 0) (QM E 0 0 post) 0 0 18 [some (.ref 49), some (.int (nI zp)), some (.int (nI zw)), some (.int (nI zs)), some (.int (nI ze)), some (.int (nI i)), none, none] [] (sI h 49 (upd (upd (upd (h.2.1 49) 39 (agF (fun zj => tlN (h.2.1 56) zp zw zs zj) (fun zj => h.2.1 69 (spN zs ze zj)) i)) 40 (clF (fun zj => tlN (h.2.1 56) zp zw zs zj) (fun zj => h.2.1 69 (spN zs ze zj)) i)) 41 (fiF (fun zj => tlN (h.2.1 56) zp zw zs zj) (fun zj => h.2.1 69 (spN zs ze zj)) i))) := by
  intro n
  induction n with
  | zero =>
    intro i hi
    obtain rfl : zN = i := by omega
    refine ev_iload (pc := 18) dX11_layCopy_18 rfl ?_
    refine ev_bipush (pc := 20) (v := 16) dX11_layCopy_20 (by decide) ?_
    refine ev_iload_n (pc := 22) dX11_layCopy_22 rfl ?_
    refine ev_imul (pc := 23) dX11_layCopy_23 ?_
    refine ev_eqI (e' := nI (16 * zs)) (pk_mul 16 zs) ?_
    refine ev_iload_n (pc := 24) dX11_layCopy_24 rfl ?_
    refine ev_imul (pc := 25) dX11_layCopy_25 ?_
    refine ev_eqI (e' := nI zN) (by rw [hN]; exact pk_mul _ _) ?_
    refine ev_icmp_ge (pc := 26) (tgt := 136) dX11_layCopy_26 (by decide) (fun zc26 => ?_) (fun zc26 => absurd ((nI_leI (by rcases hsc with rfl | rfl <;> omega) (by rcases hsc with rfl | rfl <;> omega)).mpr (Nat.le_refl _)) zc26)
    exact K
  | succ n ih =>
    intro i hi
    have hlt : i < zN := by omega
    refine ev_iload (pc := 18) dX11_layCopy_18 rfl ?_
    refine ev_bipush (pc := 20) (v := 16) dX11_layCopy_20 (by decide) ?_
    refine ev_iload_n (pc := 22) dX11_layCopy_22 rfl ?_
    refine ev_imul (pc := 23) dX11_layCopy_23 ?_
    refine ev_eqI (e' := nI (16 * zs)) (pk_mul 16 zs) ?_
    refine ev_iload_n (pc := 24) dX11_layCopy_24 rfl ?_
    refine ev_imul (pc := 25) dX11_layCopy_25 ?_
    refine ev_eqI (e' := nI zN) (by rw [hN]; exact pk_mul _ _) ?_
    refine ev_icmp_ge (pc := 26) (tgt := 136) dX11_layCopy_26 (by decide) (fun zc26 => absurd zc26 (nI_ge hlt (by rcases hsc with rfl | rfl <;> omega))) (fun zc26 => ?_)
    refine ev_aload_n (pc := 29) dX11_layCopy_29 rfl ?_
    refine ev_iload_n (pc := 30) dX11_layCopy_30 rfl ?_
    refine ev_iload_n (pc := 31) dX11_layCopy_31 rfl ?_
    refine ev_iload_n (pc := 32) dX11_layCopy_32 rfl ?_
    refine ev_iload (pc := 33) dX11_layCopy_33 rfl ?_
    refine ev_callVv (S := []) (pc := 35) dX11_layCopy_35 kX11_tells lX11_281 vX11_tells (cn_X11_tells E (sI h 49 (upd (upd (upd (h.2.1 49) 39 (agF (fun zj => tlN (h.2.1 56) zp zw zs zj) (fun zj => h.2.1 69 (spN zs ze zj)) i)) 40 (clF (fun zj => tlN (h.2.1 56) zp zw zs zj) (fun zj => h.2.1 69 (spN zs ze zj)) i)) 41 (fiF (fun zj => tlN (h.2.1 56) zp zw zs zj) (fun zj => h.2.1 69 (spN zs ze zj)) i))) zp zw zs i (wf_sI hw) hsc hp hw8 (by rcases hsc with rfl | rfl <;> omega)) rfl rfl (wlt (wf_sI hw) (by decide)) rfl rfl (Nat.le_of_ble_eq_true rfl) ⟨Nat.le_of_ble_eq_true rfl, Nat.le_of_ble_eq_true rfl⟩ ⟨Nat.le_of_ble_eq_true rfl, Nat.le_of_ble_eq_true rfl⟩ ?_
    refine ev_istore (pc := 38) (L' := [some (.ref 49), some (.int (nI zp)), some (.int (nI zw)), some (.int (nI zs)), some (.int (nI ze)), some (.int (nI i)), some (.int (tlN (h.2.1 56) zp zw zs i)), none]) dX11_layCopy_38 (Nat.le_of_ble_eq_true rfl) rfl ?_
    refine ev_aload_n (pc := 40) dX11_layCopy_40 rfl ?_
    refine ev_getR (pc := 41) (q := 69) dX11_layCopy_41 fX11_72 rfl (wlt (wf_sI hw) (by decide)) (wr (wf_sI hw) rfl) ?_
    refine ev_iload_n (pc := 44) dX11_layCopy_44 rfl ?_
    refine ev_iload (pc := 45) dX11_layCopy_45 rfl ?_
    refine ev_iload (pc := 47) dX11_layCopy_47 rfl ?_
    refine ev_callSv (S := [.ref 69]) (pc := 49) dX11_layCopy_49 kX11_spotOf lX11_285 sX11_spotOf (cn_X11_spotOf E (sI h 49 (upd (upd (upd (h.2.1 49) 39 (agF (fun zj => tlN (h.2.1 56) zp zw zs zj) (fun zj => h.2.1 69 (spN zs ze zj)) i)) 40 (clF (fun zj => tlN (h.2.1 56) zp zw zs zj) (fun zj => h.2.1 69 (spN zs ze zj)) i)) 41 (fiF (fun zj => tlN (h.2.1 56) zp zw zs zj) (fun zj => h.2.1 69 (spN zs ze zj)) i))) zs ze i (wf_sI hw) hsc (by rcases hsc with rfl | rfl <;> omega) (by rcases hsc with rfl | rfl <;> omega)) rfl rfl (Nat.le_of_ble_eq_true rfl) ⟨Nat.le_of_ble_eq_true rfl, Nat.le_of_ble_eq_true rfl⟩ ⟨Nat.le_of_ble_eq_true rfl, Nat.le_of_ble_eq_true rfl⟩ ?_
    refine ev_iald (pc := 52) dX11_layCopy_52 rfl (wlt (wf_sI hw) (by decide)) (vp_in_nI (by have z9 := spN_lt hsc he1 he2 (k := i) (by rcases hsc with rfl | rfl <;> omega); omega) (by decide)) ?_
    refine ev_eqI (e' := h.2.1 69 (spN zs ze i)) (by rw [show Int32.toNatClampNeg (nI (spN zs ze i)) = (spN zs ze i) from nI_clamp (by have z9 := spN_lt hsc he1 he2 (k := i) (by rcases hsc with rfl | rfl <;> omega); omega)] <;> rfl) ?_
    refine ev_istore (pc := 53) (L' := [some (.ref 49), some (.int (nI zp)), some (.int (nI zw)), some (.int (nI zs)), some (.int (nI ze)), some (.int (nI i)), some (.int (tlN (h.2.1 56) zp zw zs i)), some (.int (h.2.1 69 (spN zs ze i)))]) dX11_layCopy_53 (Nat.le_of_ble_eq_true rfl) rfl ?_
    refine ev_iload (pc := 55) dX11_layCopy_55 rfl ?_
    refine ev_bipush (pc := 57) (v := (-4)) dX11_layCopy_57 (by decide) ?_
    refine ev_icmp_eq (pc := 59) (tgt := 130) dX11_layCopy_59 (by decide) (fun zc59 => ?_) (fun zc59 => ?_)
    · -- eq at 59: taken
      refine ev_iinc (pc := 130) (v := nI (i + 1)) (L' := [some (.ref 49), some (.int (nI zp)), some (.int (nI zw)), some (.int (nI zs)), some (.int (nI ze)), some (.int (nI (i + 1))), some (.int (tlN (h.2.1 56) zp zw zs i)), some (.int (h.2.1 69 (spN zs ze i)))]) dX11_layCopy_130 rfl (nI_1 _) (Nat.le_of_ble_eq_true rfl) rfl ?_
      refine ev_goto (pc := 133) (tgt := 18) dX11_layCopy_133 (by decide) ?_
      refine ev_eqH (h' := sI h 49 (upd (upd (upd (h.2.1 49) 39 (agF (fun zj => tlN (h.2.1 56) zp zw zs zj) (fun zj => h.2.1 69 (spN zs ze zj)) (i + 1))) 40 (clF (fun zj => tlN (h.2.1 56) zp zw zs zj) (fun zj => h.2.1 69 (spN zs ze zj)) (i + 1))) 41 (fiF (fun zj => tlN (h.2.1 56) zp zw zs zj) (fun zj => h.2.1 69 (spN zs ze zj)) (i + 1)))) (by simp only [agF, clF, fiF, if_pos zc59]; try simp only [Int32.add_zero]) ?_
      refine ev_less (L' := [some (.ref 49), some (.int (nI zp)), some (.int (nI zw)), some (.int (nI zs)), some (.int (nI ze)), some (.int (nI (i + 1))), none, none]) (ls_keep (ls_keep (ls_keep (ls_keep (ls_keep (ls_keep (ls_drop (ls_drop (ls_nil _))))))))) ?_
      exact ih (i + 1) (by omega)
    · -- eq at 59: not taken
      refine ev_aload_n (pc := 62) dX11_layCopy_62 rfl ?_
      refine ev_dup (pc := 63) dX11_layCopy_63 rfl ?_
      refine ev_getI (pc := 64) dX11_layCopy_64 fX11_278 rfl (wlt (wf_sI hw) (by decide)) ?_
      refine ev_eqI (e' := fiF (fun zj => tlN (h.2.1 56) zp zw zs zj) (fun zj => h.2.1 69 (spN zs ze zj)) i) (by rfl) ?_
      refine ev_iload (pc := 67) dX11_layCopy_67 rfl ?_
      refine ev_iconst (pc := 69) (v := (-1)) dX11_layCopy_69 (by decide) ?_
      refine ev_icmp_ne (pc := 70) (tgt := 77) dX11_layCopy_70 (by decide) (fun zc70 => ?_) (fun zc70 => ?_)
      · -- ne at 70: taken
        refine ev_iconst (pc := 77) (v := 0) dX11_layCopy_77 (by decide) ?_
        refine ev_iadd (pc := 78) dX11_layCopy_78 ?_
        refine ev_putI (pc := 79) dX11_layCopy_79 fX11_278 rfl (wlt (wf_sI hw) (by decide)) ?_
        refine ev_eqH (h' := sI h 49 (upd (upd (upd (h.2.1 49) 39 (agF (fun zj => tlN (h.2.1 56) zp zw zs zj) (fun zj => h.2.1 69 (spN zs ze zj)) i)) 40 (clF (fun zj => tlN (h.2.1 56) zp zw zs zj) (fun zj => h.2.1 69 (spN zs ze zj)) i)) 41 ((fiF (fun zj => tlN (h.2.1 56) zp zw zs zj) (fun zj => h.2.1 69 (spN zs ze zj)) i) + 0))) (by refine (sI_sI _ _ _ _).trans ?_; refine congrArg _ (funext fun zj => ?_); simp only [upd, vp_updL, sI_at]; (repeat' split) <;> first | rfl | (exfalso; omega)) ?_
        refine ev_aload_n (pc := 82) dX11_layCopy_82 rfl ?_
        refine ev_dup (pc := 83) dX11_layCopy_83 rfl ?_
        refine ev_getI (pc := 84) dX11_layCopy_84 fX11_272 rfl (wlt (wf_sI hw) (by decide)) ?_
        refine ev_eqI (e' := agF (fun zj => tlN (h.2.1 56) zp zw zs zj) (fun zj => h.2.1 69 (spN zs ze zj)) i) (by rfl) ?_
        refine ev_iload (pc := 87) dX11_layCopy_87 rfl ?_
        refine ev_iload (pc := 89) dX11_layCopy_89 rfl ?_
        refine ev_icmp_ne (pc := 91) (tgt := 98) dX11_layCopy_91 (by decide) (fun zc91 => ?_) (fun zc91 => ?_)
        · -- ne at 91: taken
          refine ev_iconst (pc := 98) (v := 0) dX11_layCopy_98 (by decide) ?_
          refine ev_iadd (pc := 99) dX11_layCopy_99 ?_
          refine ev_putI (pc := 100) dX11_layCopy_100 fX11_272 rfl (wlt (wf_sI hw) (by decide)) ?_
          refine ev_eqH (h' := sI h 49 (upd (upd (upd (h.2.1 49) 39 ((agF (fun zj => tlN (h.2.1 56) zp zw zs zj) (fun zj => h.2.1 69 (spN zs ze zj)) i) + 0)) 40 (clF (fun zj => tlN (h.2.1 56) zp zw zs zj) (fun zj => h.2.1 69 (spN zs ze zj)) i)) 41 ((fiF (fun zj => tlN (h.2.1 56) zp zw zs zj) (fun zj => h.2.1 69 (spN zs ze zj)) i) + 0))) (by refine (sI_sI _ _ _ _).trans ?_; refine congrArg _ (funext fun zj => ?_); simp only [upd, vp_updL, sI_at]; (repeat' split) <;> first | rfl | (exfalso; omega)) ?_
          refine ev_aload_n (pc := 103) dX11_layCopy_103 rfl ?_
          refine ev_dup (pc := 104) dX11_layCopy_104 rfl ?_
          refine ev_getI (pc := 105) dX11_layCopy_105 fX11_275 rfl (wlt (wf_sI hw) (by decide)) ?_
          refine ev_eqI (e' := clF (fun zj => tlN (h.2.1 56) zp zw zs zj) (fun zj => h.2.1 69 (spN zs ze zj)) i) (by rfl) ?_
          refine ev_iload (pc := 108) dX11_layCopy_108 rfl ?_
          refine ev_iconst (pc := 110) (v := (-1)) dX11_layCopy_110 (by decide) ?_
          refine ev_icmp_eq (pc := 111) (tgt := 125) dX11_layCopy_111 (by decide) (fun zc111 => absurd zc111 zc70) (fun zc111 => ?_)
          refine ev_iload (pc := 114) dX11_layCopy_114 rfl ?_
          refine ev_iload (pc := 116) dX11_layCopy_116 rfl ?_
          refine ev_icmp_eq (pc := 118) (tgt := 125) dX11_layCopy_118 (by decide) (fun zc118 => absurd zc118 zc91) (fun zc118 => ?_)
          refine ev_iconst (pc := 121) (v := 1) dX11_layCopy_121 (by decide) ?_
          refine ev_goto (pc := 122) (tgt := 126) dX11_layCopy_122 (by decide) ?_
          refine ev_iadd (pc := 126) dX11_layCopy_126 ?_
          refine ev_putI (pc := 127) dX11_layCopy_127 fX11_275 rfl (wlt (wf_sI hw) (by decide)) ?_
          refine ev_eqH (h' := sI h 49 (upd (upd (upd (h.2.1 49) 39 ((agF (fun zj => tlN (h.2.1 56) zp zw zs zj) (fun zj => h.2.1 69 (spN zs ze zj)) i) + 0)) 40 ((clF (fun zj => tlN (h.2.1 56) zp zw zs zj) (fun zj => h.2.1 69 (spN zs ze zj)) i) + 1)) 41 ((fiF (fun zj => tlN (h.2.1 56) zp zw zs zj) (fun zj => h.2.1 69 (spN zs ze zj)) i) + 0))) (by refine (sI_sI _ _ _ _).trans ?_; refine congrArg _ (funext fun zj => ?_); simp only [upd, vp_updL, sI_at]; (repeat' split) <;> first | rfl | (exfalso; omega)) ?_
          refine ev_iinc (pc := 130) (v := nI (i + 1)) (L' := [some (.ref 49), some (.int (nI zp)), some (.int (nI zw)), some (.int (nI zs)), some (.int (nI ze)), some (.int (nI (i + 1))), some (.int (tlN (h.2.1 56) zp zw zs i)), some (.int (h.2.1 69 (spN zs ze i)))]) dX11_layCopy_130 rfl (nI_1 _) (Nat.le_of_ble_eq_true rfl) rfl ?_
          refine ev_goto (pc := 133) (tgt := 18) dX11_layCopy_133 (by decide) ?_
          refine ev_eqH (h' := sI h 49 (upd (upd (upd (h.2.1 49) 39 (agF (fun zj => tlN (h.2.1 56) zp zw zs zj) (fun zj => h.2.1 69 (spN zs ze zj)) (i + 1))) 40 (clF (fun zj => tlN (h.2.1 56) zp zw zs zj) (fun zj => h.2.1 69 (spN zs ze zj)) (i + 1))) 41 (fiF (fun zj => tlN (h.2.1 56) zp zw zs zj) (fun zj => h.2.1 69 (spN zs ze zj)) (i + 1)))) (by simp only [agF, clF, fiF, if_neg zc59, if_neg zc70, if_neg zc91, if_pos (And.intro zc70 zc91)]; try simp only [Int32.add_zero]) ?_
          refine ev_less (L' := [some (.ref 49), some (.int (nI zp)), some (.int (nI zw)), some (.int (nI zs)), some (.int (nI ze)), some (.int (nI (i + 1))), none, none]) (ls_keep (ls_keep (ls_keep (ls_keep (ls_keep (ls_keep (ls_drop (ls_drop (ls_nil _))))))))) ?_
          exact ih (i + 1) (by omega)
        · -- ne at 91: not taken
          refine ev_iconst (pc := 94) (v := 1) dX11_layCopy_94 (by decide) ?_
          refine ev_goto (pc := 95) (tgt := 99) dX11_layCopy_95 (by decide) ?_
          refine ev_iadd (pc := 99) dX11_layCopy_99 ?_
          refine ev_putI (pc := 100) dX11_layCopy_100 fX11_272 rfl (wlt (wf_sI hw) (by decide)) ?_
          refine ev_eqH (h' := sI h 49 (upd (upd (upd (h.2.1 49) 39 ((agF (fun zj => tlN (h.2.1 56) zp zw zs zj) (fun zj => h.2.1 69 (spN zs ze zj)) i) + 1)) 40 (clF (fun zj => tlN (h.2.1 56) zp zw zs zj) (fun zj => h.2.1 69 (spN zs ze zj)) i)) 41 ((fiF (fun zj => tlN (h.2.1 56) zp zw zs zj) (fun zj => h.2.1 69 (spN zs ze zj)) i) + 0))) (by refine (sI_sI _ _ _ _).trans ?_; refine congrArg _ (funext fun zj => ?_); simp only [upd, vp_updL, sI_at]; (repeat' split) <;> first | rfl | (exfalso; omega)) ?_
          refine ev_aload_n (pc := 103) dX11_layCopy_103 rfl ?_
          refine ev_dup (pc := 104) dX11_layCopy_104 rfl ?_
          refine ev_getI (pc := 105) dX11_layCopy_105 fX11_275 rfl (wlt (wf_sI hw) (by decide)) ?_
          refine ev_eqI (e' := clF (fun zj => tlN (h.2.1 56) zp zw zs zj) (fun zj => h.2.1 69 (spN zs ze zj)) i) (by rfl) ?_
          refine ev_iload (pc := 108) dX11_layCopy_108 rfl ?_
          refine ev_iconst (pc := 110) (v := (-1)) dX11_layCopy_110 (by decide) ?_
          refine ev_icmp_eq (pc := 111) (tgt := 125) dX11_layCopy_111 (by decide) (fun zc111 => absurd zc111 zc70) (fun zc111 => ?_)
          refine ev_iload (pc := 114) dX11_layCopy_114 rfl ?_
          refine ev_iload (pc := 116) dX11_layCopy_116 rfl ?_
          refine ev_icmp_eq (pc := 118) (tgt := 125) dX11_layCopy_118 (by decide) (fun zc118 => ?_) (fun zc118 => absurd zc91 zc118)
          refine ev_iconst (pc := 125) (v := 0) dX11_layCopy_125 (by decide) ?_
          refine ev_iadd (pc := 126) dX11_layCopy_126 ?_
          refine ev_putI (pc := 127) dX11_layCopy_127 fX11_275 rfl (wlt (wf_sI hw) (by decide)) ?_
          refine ev_eqH (h' := sI h 49 (upd (upd (upd (h.2.1 49) 39 ((agF (fun zj => tlN (h.2.1 56) zp zw zs zj) (fun zj => h.2.1 69 (spN zs ze zj)) i) + 1)) 40 ((clF (fun zj => tlN (h.2.1 56) zp zw zs zj) (fun zj => h.2.1 69 (spN zs ze zj)) i) + 0)) 41 ((fiF (fun zj => tlN (h.2.1 56) zp zw zs zj) (fun zj => h.2.1 69 (spN zs ze zj)) i) + 0))) (by refine (sI_sI _ _ _ _).trans ?_; refine congrArg _ (funext fun zj => ?_); simp only [upd, vp_updL, sI_at]; (repeat' split) <;> first | rfl | (exfalso; omega)) ?_
          refine ev_iinc (pc := 130) (v := nI (i + 1)) (L' := [some (.ref 49), some (.int (nI zp)), some (.int (nI zw)), some (.int (nI zs)), some (.int (nI ze)), some (.int (nI (i + 1))), some (.int (tlN (h.2.1 56) zp zw zs i)), some (.int (h.2.1 69 (spN zs ze i)))]) dX11_layCopy_130 rfl (nI_1 _) (Nat.le_of_ble_eq_true rfl) rfl ?_
          refine ev_goto (pc := 133) (tgt := 18) dX11_layCopy_133 (by decide) ?_
          refine ev_eqH (h' := sI h 49 (upd (upd (upd (h.2.1 49) 39 (agF (fun zj => tlN (h.2.1 56) zp zw zs zj) (fun zj => h.2.1 69 (spN zs ze zj)) (i + 1))) 40 (clF (fun zj => tlN (h.2.1 56) zp zw zs zj) (fun zj => h.2.1 69 (spN zs ze zj)) (i + 1))) 41 (fiF (fun zj => tlN (h.2.1 56) zp zw zs zj) (fun zj => h.2.1 69 (spN zs ze zj)) (i + 1)))) (by simp only [agF, clF, fiF, if_neg zc59, if_neg zc70, if_pos zc91, if_neg (show ¬ (¬ h.2.1 69 (spN zs ze i) = -1 ∧ ¬ h.2.1 69 (spN zs ze i) = tlN (h.2.1 56) zp zw zs i) from fun z => z.2 zc91)]; try simp only [Int32.add_zero]) ?_
          refine ev_less (L' := [some (.ref 49), some (.int (nI zp)), some (.int (nI zw)), some (.int (nI zs)), some (.int (nI ze)), some (.int (nI (i + 1))), none, none]) (ls_keep (ls_keep (ls_keep (ls_keep (ls_keep (ls_keep (ls_drop (ls_drop (ls_nil _))))))))) ?_
          exact ih (i + 1) (by omega)
      · -- ne at 70: not taken
        refine ev_iconst (pc := 73) (v := 1) dX11_layCopy_73 (by decide) ?_
        refine ev_goto (pc := 74) (tgt := 78) dX11_layCopy_74 (by decide) ?_
        refine ev_iadd (pc := 78) dX11_layCopy_78 ?_
        refine ev_putI (pc := 79) dX11_layCopy_79 fX11_278 rfl (wlt (wf_sI hw) (by decide)) ?_
        refine ev_eqH (h' := sI h 49 (upd (upd (upd (h.2.1 49) 39 (agF (fun zj => tlN (h.2.1 56) zp zw zs zj) (fun zj => h.2.1 69 (spN zs ze zj)) i)) 40 (clF (fun zj => tlN (h.2.1 56) zp zw zs zj) (fun zj => h.2.1 69 (spN zs ze zj)) i)) 41 ((fiF (fun zj => tlN (h.2.1 56) zp zw zs zj) (fun zj => h.2.1 69 (spN zs ze zj)) i) + 1))) (by refine (sI_sI _ _ _ _).trans ?_; refine congrArg _ (funext fun zj => ?_); simp only [upd, vp_updL, sI_at]; (repeat' split) <;> first | rfl | (exfalso; omega)) ?_
        refine ev_aload_n (pc := 82) dX11_layCopy_82 rfl ?_
        refine ev_dup (pc := 83) dX11_layCopy_83 rfl ?_
        refine ev_getI (pc := 84) dX11_layCopy_84 fX11_272 rfl (wlt (wf_sI hw) (by decide)) ?_
        refine ev_eqI (e' := agF (fun zj => tlN (h.2.1 56) zp zw zs zj) (fun zj => h.2.1 69 (spN zs ze zj)) i) (by rfl) ?_
        refine ev_iload (pc := 87) dX11_layCopy_87 rfl ?_
        refine ev_iload (pc := 89) dX11_layCopy_89 rfl ?_
        refine ev_icmp_ne (pc := 91) (tgt := 98) dX11_layCopy_91 (by decide) (fun zc91 => ?_) (fun zc91 => ?_)
        · -- ne at 91: taken
          refine ev_iconst (pc := 98) (v := 0) dX11_layCopy_98 (by decide) ?_
          refine ev_iadd (pc := 99) dX11_layCopy_99 ?_
          refine ev_putI (pc := 100) dX11_layCopy_100 fX11_272 rfl (wlt (wf_sI hw) (by decide)) ?_
          refine ev_eqH (h' := sI h 49 (upd (upd (upd (h.2.1 49) 39 ((agF (fun zj => tlN (h.2.1 56) zp zw zs zj) (fun zj => h.2.1 69 (spN zs ze zj)) i) + 0)) 40 (clF (fun zj => tlN (h.2.1 56) zp zw zs zj) (fun zj => h.2.1 69 (spN zs ze zj)) i)) 41 ((fiF (fun zj => tlN (h.2.1 56) zp zw zs zj) (fun zj => h.2.1 69 (spN zs ze zj)) i) + 1))) (by refine (sI_sI _ _ _ _).trans ?_; refine congrArg _ (funext fun zj => ?_); simp only [upd, vp_updL, sI_at]; (repeat' split) <;> first | rfl | (exfalso; omega)) ?_
          refine ev_aload_n (pc := 103) dX11_layCopy_103 rfl ?_
          refine ev_dup (pc := 104) dX11_layCopy_104 rfl ?_
          refine ev_getI (pc := 105) dX11_layCopy_105 fX11_275 rfl (wlt (wf_sI hw) (by decide)) ?_
          refine ev_eqI (e' := clF (fun zj => tlN (h.2.1 56) zp zw zs zj) (fun zj => h.2.1 69 (spN zs ze zj)) i) (by rfl) ?_
          refine ev_iload (pc := 108) dX11_layCopy_108 rfl ?_
          refine ev_iconst (pc := 110) (v := (-1)) dX11_layCopy_110 (by decide) ?_
          refine ev_icmp_eq (pc := 111) (tgt := 125) dX11_layCopy_111 (by decide) (fun zc111 => ?_) (fun zc111 => absurd zc70 zc111)
          refine ev_iconst (pc := 125) (v := 0) dX11_layCopy_125 (by decide) ?_
          refine ev_iadd (pc := 126) dX11_layCopy_126 ?_
          refine ev_putI (pc := 127) dX11_layCopy_127 fX11_275 rfl (wlt (wf_sI hw) (by decide)) ?_
          refine ev_eqH (h' := sI h 49 (upd (upd (upd (h.2.1 49) 39 ((agF (fun zj => tlN (h.2.1 56) zp zw zs zj) (fun zj => h.2.1 69 (spN zs ze zj)) i) + 0)) 40 ((clF (fun zj => tlN (h.2.1 56) zp zw zs zj) (fun zj => h.2.1 69 (spN zs ze zj)) i) + 0)) 41 ((fiF (fun zj => tlN (h.2.1 56) zp zw zs zj) (fun zj => h.2.1 69 (spN zs ze zj)) i) + 1))) (by refine (sI_sI _ _ _ _).trans ?_; refine congrArg _ (funext fun zj => ?_); simp only [upd, vp_updL, sI_at]; (repeat' split) <;> first | rfl | (exfalso; omega)) ?_
          refine ev_iinc (pc := 130) (v := nI (i + 1)) (L' := [some (.ref 49), some (.int (nI zp)), some (.int (nI zw)), some (.int (nI zs)), some (.int (nI ze)), some (.int (nI (i + 1))), some (.int (tlN (h.2.1 56) zp zw zs i)), some (.int (h.2.1 69 (spN zs ze i)))]) dX11_layCopy_130 rfl (nI_1 _) (Nat.le_of_ble_eq_true rfl) rfl ?_
          refine ev_goto (pc := 133) (tgt := 18) dX11_layCopy_133 (by decide) ?_
          refine ev_eqH (h' := sI h 49 (upd (upd (upd (h.2.1 49) 39 (agF (fun zj => tlN (h.2.1 56) zp zw zs zj) (fun zj => h.2.1 69 (spN zs ze zj)) (i + 1))) 40 (clF (fun zj => tlN (h.2.1 56) zp zw zs zj) (fun zj => h.2.1 69 (spN zs ze zj)) (i + 1))) 41 (fiF (fun zj => tlN (h.2.1 56) zp zw zs zj) (fun zj => h.2.1 69 (spN zs ze zj)) (i + 1)))) (by simp only [agF, clF, fiF, if_neg zc59, if_pos zc70, if_neg zc91, if_neg (show ¬ (¬ h.2.1 69 (spN zs ze i) = -1 ∧ ¬ h.2.1 69 (spN zs ze i) = tlN (h.2.1 56) zp zw zs i) from fun z => z.1 zc70)]; try simp only [Int32.add_zero]) ?_
          refine ev_less (L' := [some (.ref 49), some (.int (nI zp)), some (.int (nI zw)), some (.int (nI zs)), some (.int (nI ze)), some (.int (nI (i + 1))), none, none]) (ls_keep (ls_keep (ls_keep (ls_keep (ls_keep (ls_keep (ls_drop (ls_drop (ls_nil _))))))))) ?_
          exact ih (i + 1) (by omega)
        · -- ne at 91: not taken
          refine ev_iconst (pc := 94) (v := 1) dX11_layCopy_94 (by decide) ?_
          refine ev_goto (pc := 95) (tgt := 99) dX11_layCopy_95 (by decide) ?_
          refine ev_iadd (pc := 99) dX11_layCopy_99 ?_
          refine ev_putI (pc := 100) dX11_layCopy_100 fX11_272 rfl (wlt (wf_sI hw) (by decide)) ?_
          refine ev_eqH (h' := sI h 49 (upd (upd (upd (h.2.1 49) 39 ((agF (fun zj => tlN (h.2.1 56) zp zw zs zj) (fun zj => h.2.1 69 (spN zs ze zj)) i) + 1)) 40 (clF (fun zj => tlN (h.2.1 56) zp zw zs zj) (fun zj => h.2.1 69 (spN zs ze zj)) i)) 41 ((fiF (fun zj => tlN (h.2.1 56) zp zw zs zj) (fun zj => h.2.1 69 (spN zs ze zj)) i) + 1))) (by refine (sI_sI _ _ _ _).trans ?_; refine congrArg _ (funext fun zj => ?_); simp only [upd, vp_updL, sI_at]; (repeat' split) <;> first | rfl | (exfalso; omega)) ?_
          refine ev_aload_n (pc := 103) dX11_layCopy_103 rfl ?_
          refine ev_dup (pc := 104) dX11_layCopy_104 rfl ?_
          refine ev_getI (pc := 105) dX11_layCopy_105 fX11_275 rfl (wlt (wf_sI hw) (by decide)) ?_
          refine ev_eqI (e' := clF (fun zj => tlN (h.2.1 56) zp zw zs zj) (fun zj => h.2.1 69 (spN zs ze zj)) i) (by rfl) ?_
          refine ev_iload (pc := 108) dX11_layCopy_108 rfl ?_
          refine ev_iconst (pc := 110) (v := (-1)) dX11_layCopy_110 (by decide) ?_
          refine ev_icmp_eq (pc := 111) (tgt := 125) dX11_layCopy_111 (by decide) (fun zc111 => ?_) (fun zc111 => absurd zc70 zc111)
          refine ev_iconst (pc := 125) (v := 0) dX11_layCopy_125 (by decide) ?_
          refine ev_iadd (pc := 126) dX11_layCopy_126 ?_
          refine ev_putI (pc := 127) dX11_layCopy_127 fX11_275 rfl (wlt (wf_sI hw) (by decide)) ?_
          refine ev_eqH (h' := sI h 49 (upd (upd (upd (h.2.1 49) 39 ((agF (fun zj => tlN (h.2.1 56) zp zw zs zj) (fun zj => h.2.1 69 (spN zs ze zj)) i) + 1)) 40 ((clF (fun zj => tlN (h.2.1 56) zp zw zs zj) (fun zj => h.2.1 69 (spN zs ze zj)) i) + 0)) 41 ((fiF (fun zj => tlN (h.2.1 56) zp zw zs zj) (fun zj => h.2.1 69 (spN zs ze zj)) i) + 1))) (by refine (sI_sI _ _ _ _).trans ?_; refine congrArg _ (funext fun zj => ?_); simp only [upd, vp_updL, sI_at]; (repeat' split) <;> first | rfl | (exfalso; omega)) ?_
          refine ev_iinc (pc := 130) (v := nI (i + 1)) (L' := [some (.ref 49), some (.int (nI zp)), some (.int (nI zw)), some (.int (nI zs)), some (.int (nI ze)), some (.int (nI (i + 1))), some (.int (tlN (h.2.1 56) zp zw zs i)), some (.int (h.2.1 69 (spN zs ze i)))]) dX11_layCopy_130 rfl (nI_1 _) (Nat.le_of_ble_eq_true rfl) rfl ?_
          refine ev_goto (pc := 133) (tgt := 18) dX11_layCopy_133 (by decide) ?_
          refine ev_eqH (h' := sI h 49 (upd (upd (upd (h.2.1 49) 39 (agF (fun zj => tlN (h.2.1 56) zp zw zs zj) (fun zj => h.2.1 69 (spN zs ze zj)) (i + 1))) 40 (clF (fun zj => tlN (h.2.1 56) zp zw zs zj) (fun zj => h.2.1 69 (spN zs ze zj)) (i + 1))) 41 (fiF (fun zj => tlN (h.2.1 56) zp zw zs zj) (fun zj => h.2.1 69 (spN zs ze zj)) (i + 1)))) (by simp only [agF, clF, fiF, if_neg zc59, if_pos zc70, if_pos zc91, if_neg (show ¬ (¬ h.2.1 69 (spN zs ze i) = -1 ∧ ¬ h.2.1 69 (spN zs ze i) = tlN (h.2.1 56) zp zw zs i) from fun z => z.1 zc70)]; try simp only [Int32.add_zero]) ?_
          refine ev_less (L' := [some (.ref 49), some (.int (nI zp)), some (.int (nI zw)), some (.int (nI zs)), some (.int (nI ze)), some (.int (nI (i + 1))), none, none]) (ls_keep (ls_keep (ls_keep (ls_keep (ls_keep (ls_keep (ls_drop (ls_drop (ls_nil _))))))))) ?_
          exact ih (i + 1) (by omega)
theorem cn_X11_layCopy (E : ME) (h : AH) (zp zw zs ze : Nat) (hw : WF h) (hsc : zs = 1 ∨ zs = 2) (hp : zp < 4) (hw8 : zw < 8) (he : ze < 64) (he1 : ze / 8 + 4 * zs ≤ 8) (he2 : ze % 8 + 4 * zs ≤ 8) : Con E mX11_layCopy 2 0 0 [.ref 49, .int (nI zp), .int (nI zw), .int (nI zs), .int (nI ze)] h (fun r h' => r = none ∧ h' = sI h 49 (upd (upd (upd (h.2.1 49) 39 (agF (fun zj => tlN (h.2.1 56) zp zw zs zj) (fun zj => h.2.1 69 (spN zs ze zj)) (16 * zs * zs))) 40 (clF (fun zj => tlN (h.2.1 56) zp zw zs zj) (fun zj => h.2.1 69 (spN zs ze zj)) (16 * zs * zs))) 41 (fiF (fun zj => tlN (h.2.1 56) zp zw zs zj) (fun zj => h.2.1 69 (spN zs ze zj)) (16 * zs * zs)))) := by
  refine con_of2 (L := [some (.ref 49), some (.int (nI zp)), some (.int (nI zw)), some (.int (nI zs)), some (.int (nI ze)), none, none, none]) rfl (Nat.le_of_ble_eq_true rfl) rfl ?_
  refine ev_aload_n (pc := 0) dX11_layCopy_0 rfl ?_
  refine ev_iconst (pc := 1) (v := 0) dX11_layCopy_1 (by decide) ?_
  refine ev_putI (pc := 2) dX11_layCopy_2 fX11_272 rfl (wlt hw (by decide)) ?_
  refine ev_eqH (h' := sI h 49 (upd (h.2.1 49) 39 0)) (by rfl) ?_
  refine ev_aload_n (pc := 5) dX11_layCopy_5 rfl ?_
  refine ev_iconst (pc := 6) (v := 0) dX11_layCopy_6 (by decide) ?_
  refine ev_putI (pc := 7) dX11_layCopy_7 fX11_275 rfl (wlt (wf_sI hw) (by decide)) ?_
  refine ev_eqH (h' := sI h 49 (upd (upd (h.2.1 49) 39 0) 40 0)) (by exact sI_sI _ _ _ _) ?_
  refine ev_aload_n (pc := 10) dX11_layCopy_10 rfl ?_
  refine ev_iconst (pc := 11) (v := 0) dX11_layCopy_11 (by decide) ?_
  refine ev_putI (pc := 12) dX11_layCopy_12 fX11_278 rfl (wlt (wf_sI hw) (by decide)) ?_
  refine ev_eqH (h' := sI h 49 (upd (upd (upd (h.2.1 49) 39 0) 40 0) 41 0)) (by exact sI_sI _ _ _ _) ?_
  refine ev_iconst (pc := 15) (v := 0) dX11_layCopy_15 (by decide) ?_
  refine ev_istore (pc := 16) (L' := [some (.ref 49), some (.int (nI zp)), some (.int (nI zw)), some (.int (nI zs)), some (.int (nI ze)), some (.int 0), none, none]) dX11_layCopy_16 (Nat.le_of_ble_eq_true rfl) rfl ?_
  refine lp_layCopy_18 E h zp zw zs ze (16 * zs * zs) hw hsc hp hw8 he he1 he2 rfl ?_ (16 * zs * zs) 0 (Nat.zero_add _)
  refine ev_ret (pc := 136) dX11_layCopy_136 rfl ?_
  · exact ⟨rfl, rfl⟩
