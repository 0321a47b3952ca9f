/-- the next thing by its number among all ways: from t on -/
def pkF (zg : Nat → Nat) : Nat → Nat → Nat → Nat × Nat
  | 0, zt, zl => (zt, zl)
  | zf + 1, zt, zl => if zl < zg zt then (zt, zl) else pkF zg zf (zt + 1) (zl - zg zt)
theorem pk_ok (zg : Nat → Nat) : ∀ zf zt zl, zl + fb_sm zg zt < fb_sm zg (zt + zf) → (pkF zg zf zt zl).1 < zt + zf ∧ (pkF zg zf zt zl).2 < zg (pkF zg zf zt zl).1
  | 0, zt, zl, h => by rw [Nat.add_zero] at h; omega
  | zf + 1, zt, zl, h => by
    rw [pkF]
    by_cases hc : zl < zg zt
    · rw [if_pos hc]; exact ⟨by show zt < zt + (zf + 1); omega, hc⟩
    · rw [if_neg hc]
      have h2 := pk_ok zg zf (zt + 1) (zl - zg zt) (by rw [fb_sm_succ, show zt + 1 + zf = zt + (zf + 1) by omega]; omega)
      exact ⟨by omega, h2.2⟩
def gW (zp : Nat → Nat → Bool) (zm zs zt : Nat) : Nat := if zp zs zt then wW zp zm (zs ||| 2 ^ zt) else 0
/-- the set, what is left of the number, the last thing, after so many steps -/
def oS (zp : Nat → Nat → Bool) (zm zk : Nat) : Nat → Nat × Nat × Int32
  | 0 => (0, zk, -4)
  | zn + 1 => ((oS zp zm zk zn).1 ||| 2 ^ (pkF (gW zp zm (oS zp zm zk zn).1) zm 0 (oS zp zm zk zn).2.1).1, (pkF (gW zp zm (oS zp zm zk zn).1) zm 0 (oS zp zm zk zn).2.1).2, nI (pkF (gW zp zm (oS zp zm zk zn).1) zm 0 (oS zp zm zk zn).2.1).1)
theorem ms_full (zm : Nat) : msN zm (2 ^ zm - 1) = 0 := by
  refine fb_ct_zero.mpr (fun zi hi => ?_)
  rw [Nat.testBit_two_pow_sub_one, decide_eq_true hi]
  rfl
theorem ms_zero (zm : Nat) : msN zm 0 = zm := fb_ct_all.mpr (fun zi _ => by rw [Nat.zero_testBit]; rfl)
theorem oS_pick {zp : Nat → Nat → Bool} {zm : Nat} (hp : pOK zp zm) {zs zl : Nat} (hs : zs < 2 ^ zm - 1) (hl : zl < wW zp zm zs) : (pkF (gW zp zm zs) zm 0 zl).1 < zm ∧ zp zs (pkF (gW zp zm zs) zm 0 zl).1 = true ∧ (pkF (gW zp zm zs) zm 0 zl).2 < wW zp zm (zs ||| 2 ^ (pkF (gW zp zm zs) zm 0 zl).1) := by
  have h1 := pk_ok (gW zp zm zs) zm 0 zl (by rw [wW_eq hp hs] at hl; rw [Nat.zero_add]; exact hl)
  rw [Nat.zero_add] at h1
  refine ⟨h1.1, ?_⟩
  have h2 := h1.2
  revert h2
  generalize (pkF (gW zp zm zs) zm 0 zl).1 = zq
  unfold gW
  cases hb : zp zs zq
  · intro h2
    exact absurd h2 (Nat.not_lt_zero _)
  · intro h2
    exact ⟨rfl, h2⟩
theorem oS_ok {zp : Nat → Nat → Bool} {zm zk : Nat} (hp : pOK zp zm) (hk : zk < wW zp zm 0) : ∀ zn, zn ≤ zm → (oS zp zm zk zn).1 < 2 ^ zm ∧ (oS zp zm zk zn).2.1 < wW zp zm (oS zp zm zk zn).1 ∧ msN zm (oS zp zm zk zn).1 + zn = zm
  | 0, _ => ⟨Nat.two_pow_pos zm, hk, by show msN zm 0 + 0 = zm; rw [ms_zero, Nat.add_zero]⟩
  | zn + 1, hn => by
    have ih := oS_ok hp hk zn (by omega)
    have hne : (oS zp zm zk zn).1 < 2 ^ zm - 1 := by
      rcases Nat.lt_or_ge (oS zp zm zk zn).1 (2 ^ zm - 1) with z | z
      · exact z
      · have e : (oS zp zm zk zn).1 = 2 ^ zm - 1 := by omega
        have := ih.2.2
        rw [e, ms_full] at this
        omega
    have h1 := oS_pick hp hne ih.2.1
    have h2 := hp _ _ ih.1 h1.1 h1.2.1
    rw [oS]
    refine ⟨or_lt ih.1 h1.1, h1.2.2, ?_⟩
    have h3 := ms_or h1.1 h2
    show msN zm ((oS zp zm zk zn).1 ||| 2 ^ _) + (zn + 1) = zm
    omega
theorem oS_ne {zp : Nat → Nat → Bool} {zm zk : Nat} (hp : pOK zp zm) (hk : zk < wW zp zm 0) {zn : Nat} (hn : zn < zm) : (oS zp zm zk zn).1 < 2 ^ zm - 1 := by
  have ih := oS_ok hp hk zn (by omega)
  rcases Nat.lt_or_ge (oS zp zm zk zn).1 (2 ^ zm - 1) with z | z
  · exact z
  · have e : (oS zp zm zk zn).1 = 2 ^ zm - 1 := by omega
    have := ih.2.2
    rw [e, ms_full] at this
    omega
theorem pk_st {zg : Nat → Nat} {zf zt zl : Nat} (h : zl < zg zt) : pkF zg (zf + 1) zt zl = (zt, zl) := by rw [pkF, if_pos h]
theorem pk_nx {zg : Nat → Nat} {zf zt zl : Nat} (h : ¬ zl < zg zt) : pkF zg (zf + 1) zt zl = pkF zg zf (zt + 1) (zl - zg zt) := by rw [pkF, if_neg h]
theorem lp_order_103 (E : ME) (h : AH) (m zs zl0 : Nat) (zx : Int64) (zi zr za : Int32) (hw : WF h) (hm : h.2.1 49 14 = nI m) (hm2 : m ≤ 12) (hs : zs < 2 ^ m - 1) (hT : ∀ zq, zq < 2 ^ m → h.2.2.1 67 zq = lN (wW (fopB (h.2.1 66) 0 (-4)) m zq)) {post : PO} (K : Ev E mX11_order (rmm 1 0 0) (QM E 0 0 post) 0 0 217 [some (.ref 49), some (.long zx), none, some (.int zi), some (.int 0), some (.int (nI zs)), some (.long (lN (pkF (gW (fopB (h.2.1 66) 0 (-4)) m zs) m 0 zl0).2)), none, some (.int zr), some (.int za), some (.int (nI (pkF (gW (fopB (h.2.1 66) 0 (-4)) m zs) m 0 zl0).1)), some (.int 1), none, none, none] [] h) : ∀ zf zt zl, zt + zf = m → zl + fb_sm (gW (fopB (h.2.1 66) 0 (-4)) m zs) zt < fb_sm (gW (fopB (h.2.1 66) 0 (-4)) m zs) m → pkF (gW (fopB (h.2.1 66) 0 (-4)) m zs) zf zt zl = pkF (gW (fopB (h.2.1 66) 0 (-4)) m zs) m 0 zl0 → Ev E mX11_order (rmm 1 0 0) (QM E 0 0 post) 0 0 103 [some (.ref 49), some (.long zx), none, some (.int zi), some (.int 0), some (.int (nI zs)), some (.long (lN zl)), none, some (.int zr), some (.int za), some (.int (nI zt)), some (.int 0), none, none, none] [] h := by
  intro zf
  induction zf with
  | zero =>
    intro zt zl h1 h2
    exfalso
    rw [Nat.add_zero] at h1
    rw [h1] at h2
    omega
  | succ zf ih =>
    intro zt zl h1 h2 h3
    have z1 := pw_le hm2
    have zor := or_lt (show zs < 2 ^ m by omega) (show zt < m by omega)
    have zwb := wW_12 (fop_ok (h.2.1 66) 0 (-4) hm2) hm2 zor
    have zsb : fb_sm (gW (fopB (h.2.1 66) 0 (-4)) m zs) m ≤ 479001600 := by
      have z9 := wW_12 (fop_ok (h.2.1 66) 0 (-4) hm2) hm2 (show zs < 2 ^ m by omega)
      rw [wW_eq (fop_ok (h.2.1 66) 0 (-4) hm2) hs] at z9
      exact z9
    have zfp : ∀ zb : Bool, fopB (h.2.1 66) 0 (-4) zs zt = zb → gW (fopB (h.2.1 66) 0 (-4)) m zs zt = if zb then wW (fopB (h.2.1 66) 0 (-4)) m (zs ||| 2 ^ zt) else 0 := fun zb hb => by unfold gW; rw [hb]
    refine ev_iload (pc := 103) dX11_order_103 rfl ?_
    refine ev_if_ne (pc := 105) (tgt := 217) dX11_order_105 (by decide) (fun zc105 => absurd rfl zc105) (fun zc105 => ?_)
    refine ev_iload (pc := 108) dX11_order_108 rfl ?_
    refine ev_iload (pc := 110) dX11_order_110 rfl ?_
    refine ev_ishr (pc := 112) dX11_order_112 ?_
    refine ev_iconst (pc := 113) (v := 1) dX11_order_113 (by decide) ?_
    refine ev_iand (pc := 114) dX11_order_114 ?_
    refine ev_if_ne (pc := 115) (tgt := 137) dX11_order_115 (by decide) (fun zc115 => ?_) (fun zc115 => ?_)
    · -- ne at 115: taken
      refine ev_iconst (pc := 137) (v := 0) dX11_order_137 (by decide) ?_
      refine ev_istore (pc := 138) (L' := [some (.ref 49), some (.long zx), none, some (.int zi), some (.int 0), some (.int (nI zs)), some (.long (lN zl)), none, some (.int zr), some (.int za), some (.int (nI zt)), some (.int 0), some (.int 0), none, none]) dX11_order_138 (Nat.le_of_ble_eq_true rfl) rfl ?_
      refine ev_iload (pc := 140) dX11_order_140 rfl ?_
      refine ev_if_eq (pc := 142) (tgt := 160) dX11_order_142 (by decide) (fun zc142 => ?_) (fun zc142 => absurd rfl zc142)
      refine ev_lconst (pc := 160) (v := 0) dX11_order_160 (by decide) ?_
      refine ev_lstore (pc := 161) (L' := [some (.ref 49), some (.long zx), none, some (.int zi), some (.int 0), some (.int (nI zs)), some (.long (lN zl)), none, some (.int zr), some (.int za), some (.int (nI zt)), some (.int 0), some (.int 0), some (.long 0), none]) dX11_order_161 (Nat.le_of_ble_eq_true rfl) rfl ?_
      refine ev_iload (pc := 163) dX11_order_163 rfl ?_
      refine ev_if_eq (pc := 165) (tgt := 180) dX11_order_165 (by decide) (fun zc165 => ?_) (fun zc165 => absurd rfl zc165)
      refine ev_iconst (pc := 180) (v := 0) dX11_order_180 (by decide) ?_
      refine ev_istore (pc := 181) (L' := [some (.ref 49), some (.long zx), none, some (.int zi), some (.int 0), some (.int (nI zs)), some (.long (lN zl)), none, some (.int zr), some (.int za), some (.int (nI zt)), some (.int 0), some (.int 0), some (.long 0), none]) dX11_order_181 (Nat.le_of_ble_eq_true rfl) rfl ?_
      refine ev_lload (pc := 183) dX11_order_183 rfl ?_
      refine ev_iload (pc := 185) dX11_order_185 rfl ?_
      refine ev_if_eq (pc := 187) (tgt := 194) dX11_order_187 (by decide) (fun zc187 => ?_) (fun zc187 => absurd rfl zc187)
      refine ev_lload (pc := 194) dX11_order_194 rfl ?_
      refine ev_lsub (pc := 196) dX11_order_196 ?_
      refine ev_eqJ (e' := lN zl) (lN_sub (a := zl) (b := 0) (Nat.zero_le _)) ?_
      refine ev_lstore (pc := 197) (L' := [some (.ref 49), some (.long zx), none, some (.int zi), some (.int 0), some (.int (nI zs)), some (.long (lN zl)), none, some (.int zr), some (.int za), some (.int (nI zt)), some (.int 0), some (.int 0), some (.long 0), none]) dX11_order_197 (Nat.le_of_ble_eq_true rfl) rfl ?_
      refine ev_iload (pc := 199) dX11_order_199 rfl ?_
      refine ev_iload (pc := 201) dX11_order_201 rfl ?_
      refine ev_if_eq (pc := 203) (tgt := 210) dX11_order_203 (by decide) (fun zc203 => ?_) (fun zc203 => absurd rfl zc203)
      refine ev_iconst (pc := 210) (v := 1) dX11_order_210 (by decide) ?_
      refine ev_iadd (pc := 211) dX11_order_211 ?_
      refine ev_eqI (e' := nI (zt + 1)) (nI_1 _) ?_
      refine ev_istore (pc := 212) (L' := [some (.ref 49), some (.long zx), none, some (.int zi), some (.int 0), some (.int (nI zs)), some (.long (lN zl)), none, some (.int zr), some (.int za), some (.int (nI (zt + 1))), some (.int 0), some (.int 0), some (.long 0), none]) dX11_order_212 (Nat.le_of_ble_eq_true rfl) rfl ?_
      refine ev_goto (pc := 214) (tgt := 103) dX11_order_214 (by decide) ?_
      have zb0 : fopB (h.2.1 66) 0 (-4) zs zt = false := decide_eq_false (fun z => zc115 z.1)
      have zge := zfp false zb0
      rw [if_neg (by decide)] at zge
      rw [pk_nx (by rw [zge]; exact Nat.not_lt_zero _), zge, Nat.sub_zero] at h3
      refine ev_less (L' := [some (.ref 49), some (.long zx), none, some (.int zi), some (.int 0), some (.int (nI zs)), some (.long (lN zl)), none, some (.int zr), some (.int za), some (.int (nI (zt + 1))), some (.int 0), none, none, none]) (ls_keep (ls_keep (ls_keep (ls_keep (ls_keep (ls_keep (ls_keep (ls_keep (ls_keep (ls_keep (ls_keep (ls_keep (ls_drop (ls_drop (ls_keep (ls_nil _)))))))))))))))) ?_
      refine ev_eqL (L' := [some (.ref 49), some (.long zx), none, some (.int zi), some (.int 0), some (.int (nI zs)), some (.long (lN zl)), none, some (.int zr), some (.int za), some (.int (nI (zt + 1))), some (.int 0), none, none, none]) rfl ?_
      exact ih (zt + 1) _ (by omega) (by rw [fb_sm_succ, zge]; omega) h3
    · -- ne at 115: not taken
      refine ev_aload_n (pc := 118) dX11_order_118 rfl ?_
      refine ev_getR (pc := 119) (q := 66) dX11_order_119 fX11_62 rfl (wlt hw (by decide)) (wr hw rfl) ?_
      refine ev_iload (pc := 122) dX11_order_122 rfl ?_
      refine ev_iald (pc := 124) dX11_order_124 rfl (wlt hw (by decide)) (vp_in_nI (by omega) (by decide)) ?_
      refine ev_eqI (e' := h.2.1 66 zt) (by rw [show Int32.toNatClampNeg (nI zt) = zt from nI_clamp (by omega)] <;> rfl) ?_
      refine ev_iload (pc := 125) dX11_order_125 rfl ?_
      refine ev_iconst (pc := 127) (v := (-1)) dX11_order_127 (by decide) ?_
      refine ev_ixor (pc := 128) dX11_order_128 ?_
      refine ev_iand (pc := 129) dX11_order_129 ?_
      refine ev_if_ne (pc := 130) (tgt := 137) dX11_order_130 (by decide) (fun zc130 => ?_) (fun zc130 => ?_)
      · -- ne at 130: taken
        refine ev_iconst (pc := 137) (v := 0) dX11_order_137 (by decide) ?_
        refine ev_istore (pc := 138) (L' := [some (.ref 49), some (.long zx), none, some (.int zi), some (.int 0), some (.int (nI zs)), some (.long (lN zl)), none, some (.int zr), some (.int za), some (.int (nI zt)), some (.int 0), some (.int 0), none, none]) dX11_order_138 (Nat.le_of_ble_eq_true rfl) rfl ?_
        refine ev_iload (pc := 140) dX11_order_140 rfl ?_
        refine ev_if_eq (pc := 142) (tgt := 160) dX11_order_142 (by decide) (fun zc142 => ?_) (fun zc142 => absurd rfl zc142)
        refine ev_lconst (pc := 160) (v := 0) dX11_order_160 (by decide) ?_
        refine ev_lstore (pc := 161) (L' := [some (.ref 49), some (.long zx), none, some (.int zi), some (.int 0), some (.int (nI zs)), some (.long (lN zl)), none, some (.int zr), some (.int za), some (.int (nI zt)), some (.int 0), some (.int 0), some (.long 0), none]) dX11_order_161 (Nat.le_of_ble_eq_true rfl) rfl ?_
        refine ev_iload (pc := 163) dX11_order_163 rfl ?_
        refine ev_if_eq (pc := 165) (tgt := 180) dX11_order_165 (by decide) (fun zc165 => ?_) (fun zc165 => absurd rfl zc165)
        refine ev_iconst (pc := 180) (v := 0) dX11_order_180 (by decide) ?_
        refine ev_istore (pc := 181) (L' := [some (.ref 49), some (.long zx), none, some (.int zi), some (.int 0), some (.int (nI zs)), some (.long (lN zl)), none, some (.int zr), some (.int za), some (.int (nI zt)), some (.int 0), some (.int 0), some (.long 0), none]) dX11_order_181 (Nat.le_of_ble_eq_true rfl) rfl ?_
        refine ev_lload (pc := 183) dX11_order_183 rfl ?_
        refine ev_iload (pc := 185) dX11_order_185 rfl ?_
        refine ev_if_eq (pc := 187) (tgt := 194) dX11_order_187 (by decide) (fun zc187 => ?_) (fun zc187 => absurd rfl zc187)
        refine ev_lload (pc := 194) dX11_order_194 rfl ?_
        refine ev_lsub (pc := 196) dX11_order_196 ?_
        refine ev_eqJ (e' := lN zl) (lN_sub (a := zl) (b := 0) (Nat.zero_le _)) ?_
        refine ev_lstore (pc := 197) (L' := [some (.ref 49), some (.long zx), none, some (.int zi), some (.int 0), some (.int (nI zs)), some (.long (lN zl)), none, some (.int zr), some (.int za), some (.int (nI zt)), some (.int 0), some (.int 0), some (.long 0), none]) dX11_order_197 (Nat.le_of_ble_eq_true rfl) rfl ?_
        refine ev_iload (pc := 199) dX11_order_199 rfl ?_
        refine ev_iload (pc := 201) dX11_order_201 rfl ?_
        refine ev_if_eq (pc := 203) (tgt := 210) dX11_order_203 (by decide) (fun zc203 => ?_) (fun zc203 => absurd rfl zc203)
        refine ev_iconst (pc := 210) (v := 1) dX11_order_210 (by decide) ?_
        refine ev_iadd (pc := 211) dX11_order_211 ?_
        refine ev_eqI (e' := nI (zt + 1)) (nI_1 _) ?_
        refine ev_istore (pc := 212) (L' := [some (.ref 49), some (.long zx), none, some (.int zi), some (.int 0), some (.int (nI zs)), some (.long (lN zl)), none, some (.int zr), some (.int za), some (.int (nI (zt + 1))), some (.int 0), some (.int 0), some (.long 0), none]) dX11_order_212 (Nat.le_of_ble_eq_true rfl) rfl ?_
        refine ev_goto (pc := 214) (tgt := 103) dX11_order_214 (by decide) ?_
        have zb0 : fopB (h.2.1 66) 0 (-4) zs zt = false := decide_eq_false (fun z => zc130 (by have z9 := z.2; rw [if_neg (nI_m4 zt (by omega)), or_zero32] at z9; exact z9))
        have zge := zfp false zb0
        rw [if_neg (by decide)] at zge
        rw [pk_nx (by rw [zge]; exact Nat.not_lt_zero _), zge, Nat.sub_zero] at h3
        refine ev_less (L' := [some (.ref 49), some (.long zx), none, some (.int zi), some (.int 0), some (.int (nI zs)), some (.long (lN zl)), none, some (.int zr), some (.int za), some (.int (nI (zt + 1))), some (.int 0), none, none, none]) (ls_keep (ls_keep (ls_keep (ls_keep (ls_keep (ls_keep (ls_keep (ls_keep (ls_keep (ls_keep (ls_keep (ls_keep (ls_drop (ls_drop (ls_keep (ls_nil _)))))))))))))))) ?_
        refine ev_eqL (L' := [some (.ref 49), some (.long zx), none, some (.int zi), some (.int 0), some (.int (nI zs)), some (.long (lN zl)), none, some (.int zr), some (.int za), some (.int (nI (zt + 1))), some (.int 0), none, none, none]) rfl ?_
        exact ih (zt + 1) _ (by omega) (by rw [fb_sm_succ, zge]; omega) h3
      · -- ne at 130: not taken
        refine ev_iconst (pc := 133) (v := 1) dX11_order_133 (by decide) ?_
        refine ev_goto (pc := 134) (tgt := 138) dX11_order_134 (by decide) ?_
        refine ev_istore (pc := 138) (L' := [some (.ref 49), some (.long zx), none, some (.int zi), some (.int 0), some (.int (nI zs)), some (.long (lN zl)), none, some (.int zr), some (.int za), some (.int (nI zt)), some (.int 0), some (.int 1), none, none]) dX11_order_138 (Nat.le_of_ble_eq_true rfl) rfl ?_
        refine ev_iload (pc := 140) dX11_order_140 rfl ?_
        refine ev_if_eq (pc := 142) (tgt := 160) dX11_order_142 (by decide) (fun zc142 => absurd zc142 (by decide)) (fun zc142 => ?_)
        refine ev_aload_n (pc := 145) dX11_order_145 rfl ?_
        refine ev_getR (pc := 146) (q := 67) dX11_order_146 fX11_65 rfl (wlt hw (by decide)) (wr hw rfl) ?_
        refine ev_iload (pc := 149) dX11_order_149 rfl ?_
        refine ev_iconst (pc := 151) (v := 1) dX11_order_151 (by decide) ?_
        refine ev_iload (pc := 152) dX11_order_152 rfl ?_
        refine ev_ishl (pc := 154) dX11_order_154 ?_
        refine ev_ior (pc := 155) dX11_order_155 ?_
        refine ev_eqI (e' := nI (zs ||| 2 ^ zt)) (by rw [sh_pow zt (by omega)]; exact fa_or _ _) ?_
        refine ev_lald (pc := 156) dX11_order_156 rfl (wlt hw (by decide)) (vp_in_nI (by omega) (by decide)) ?_
        refine ev_eqJ (e' := h.2.2.1 67 (zs ||| 2 ^ zt)) (by rw [show Int32.toNatClampNeg (nI (zs ||| 2 ^ zt)) = (zs ||| 2 ^ zt) from nI_clamp (by omega)] <;> rfl) ?_
        refine ev_eqJ (e' := lN (wW (fopB (h.2.1 66) 0 (-4)) m (zs ||| 2 ^ zt))) (hT _ zor) ?_
        refine ev_goto (pc := 157) (tgt := 161) dX11_order_157 (by decide) ?_
        refine ev_lstore (pc := 161) (L' := [some (.ref 49), some (.long zx), none, some (.int zi), some (.int 0), some (.int (nI zs)), some (.long (lN zl)), none, some (.int zr), some (.int za), some (.int (nI zt)), some (.int 0), some (.int 1), some (.long (lN (wW (fopB (h.2.1 66) 0 (-4)) m (zs ||| 2 ^ zt)))), none]) dX11_order_161 (Nat.le_of_ble_eq_true rfl) rfl ?_
        refine ev_iload (pc := 163) dX11_order_163 rfl ?_
        refine ev_if_eq (pc := 165) (tgt := 180) dX11_order_165 (by decide) (fun zc165 => absurd zc165 (by decide)) (fun zc165 => ?_)
        refine ev_lload (pc := 168) dX11_order_168 rfl ?_
        refine ev_lload (pc := 170) dX11_order_170 rfl ?_
        refine ev_lcmp (pc := 172) dX11_order_172 ?_
        refine ev_if_ge (pc := 173) (tgt := 180) dX11_order_173 (by decide) (fun zc173 => ?_) (fun zc173 => ?_)
        · -- ge at 173: taken
          refine ev_iconst (pc := 180) (v := 0) dX11_order_180 (by decide) ?_
          refine ev_istore (pc := 181) (L' := [some (.ref 49), some (.long zx), none, some (.int zi), some (.int 0), some (.int (nI zs)), some (.long (lN zl)), none, some (.int zr), some (.int za), some (.int (nI zt)), some (.int 0), some (.int 1), some (.long (lN (wW (fopB (h.2.1 66) 0 (-4)) m (zs ||| 2 ^ zt)))), none]) dX11_order_181 (Nat.le_of_ble_eq_true rfl) rfl ?_
          refine ev_lload (pc := 183) dX11_order_183 rfl ?_
          refine ev_iload (pc := 185) dX11_order_185 rfl ?_
          refine ev_if_eq (pc := 187) (tgt := 194) dX11_order_187 (by decide) (fun zc187 => ?_) (fun zc187 => absurd rfl zc187)
          refine ev_lload (pc := 194) dX11_order_194 rfl ?_
          refine ev_lsub (pc := 196) dX11_order_196 ?_
          refine ev_eqJ (e' := (lN zl) - (lN (wW (fopB (h.2.1 66) 0 (-4)) m (zs ||| 2 ^ zt)))) rfl ?_
          refine ev_lstore (pc := 197) (L' := [some (.ref 49), some (.long zx), none, some (.int zi), some (.int 0), some (.int (nI zs)), some (.long ((lN zl) - (lN (wW (fopB (h.2.1 66) 0 (-4)) m (zs ||| 2 ^ zt))))), none, some (.int zr), some (.int za), some (.int (nI zt)), some (.int 0), some (.int 1), some (.long (lN (wW (fopB (h.2.1 66) 0 (-4)) m (zs ||| 2 ^ zt)))), none]) dX11_order_197 (Nat.le_of_ble_eq_true rfl) rfl ?_
          refine ev_iload (pc := 199) dX11_order_199 rfl ?_
          refine ev_iload (pc := 201) dX11_order_201 rfl ?_
          refine ev_if_eq (pc := 203) (tgt := 210) dX11_order_203 (by decide) (fun zc203 => ?_) (fun zc203 => absurd rfl zc203)
          refine ev_iconst (pc := 210) (v := 1) dX11_order_210 (by decide) ?_
          refine ev_iadd (pc := 211) dX11_order_211 ?_
          refine ev_eqI (e' := nI (zt + 1)) (nI_1 _) ?_
          refine ev_istore (pc := 212) (L' := [some (.ref 49), some (.long zx), none, some (.int zi), some (.int 0), some (.int (nI zs)), some (.long ((lN zl) - (lN (wW (fopB (h.2.1 66) 0 (-4)) m (zs ||| 2 ^ zt))))), none, some (.int zr), some (.int za), some (.int (nI (zt + 1))), some (.int 0), some (.int 1), some (.long (lN (wW (fopB (h.2.1 66) 0 (-4)) m (zs ||| 2 ^ zt)))), none]) dX11_order_212 (Nat.le_of_ble_eq_true rfl) rfl ?_
          refine ev_goto (pc := 214) (tgt := 103) dX11_order_214 (by decide) ?_
          have zb1 : fopB (h.2.1 66) 0 (-4) zs zt = true := decide_eq_true ⟨zc115, by rw [if_neg (nI_m4 zt (by omega)), or_zero32]; exact zc130⟩
          have zcl : ¬ zl < wW (fopB (h.2.1 66) 0 (-4)) m (zs ||| 2 ^ zt) := by
            have z8 : (0 : Int32) ≤ lg_cmp (lN zl) (lN (wW (fopB (h.2.1 66) 0 (-4)) m (zs ||| 2 ^ zt))) := zc173
            rw [← i_lt2, lc_lt, pk_lLT (by omega) (by omega)] at z8
            exact z8
          have zge := zfp true zb1
          rw [if_pos rfl] at zge
          rw [pk_nx (by rw [zge]; exact zcl), zge] at h3
          refine ev_less (L' := [some (.ref 49), some (.long zx), none, some (.int zi), some (.int 0), some (.int (nI zs)), some (.long ((lN zl) - (lN (wW (fopB (h.2.1 66) 0 (-4)) m (zs ||| 2 ^ zt))))), none, some (.int zr), some (.int za), some (.int (nI (zt + 1))), some (.int 0), none, none, none]) (ls_keep (ls_keep (ls_keep (ls_keep (ls_keep (ls_keep (ls_keep (ls_keep (ls_keep (ls_keep (ls_keep (ls_keep (ls_drop (ls_drop (ls_keep (ls_nil _)))))))))))))))) ?_
          refine ev_eqL (L' := [some (.ref 49), some (.long zx), none, some (.int zi), some (.int 0), some (.int (nI zs)), some (.long (lN (zl - wW (fopB (h.2.1 66) 0 (-4)) m (zs ||| 2 ^ zt)))), none, some (.int zr), some (.int za), some (.int (nI (zt + 1))), some (.int 0), none, none, none]) (by rw [lN_sub (by omega)]) ?_
          exact ih (zt + 1) _ (by omega) (by rw [fb_sm_succ, zge]; omega) h3
        · -- ge at 173: not taken
          refine ev_iconst (pc := 176) (v := 1) dX11_order_176 (by decide) ?_
          refine ev_goto (pc := 177) (tgt := 181) dX11_order_177 (by decide) ?_
          refine ev_istore (pc := 181) (L' := [some (.ref 49), some (.long zx), none, some (.int zi), some (.int 0), some (.int (nI zs)), some (.long (lN zl)), none, some (.int zr), some (.int za), some (.int (nI zt)), some (.int 1), some (.int 1), some (.long (lN (wW (fopB (h.2.1 66) 0 (-4)) m (zs ||| 2 ^ zt)))), none]) dX11_order_181 (Nat.le_of_ble_eq_true rfl) rfl ?_
          refine ev_lload (pc := 183) dX11_order_183 rfl ?_
          refine ev_iload (pc := 185) dX11_order_185 rfl ?_
          refine ev_if_eq (pc := 187) (tgt := 194) dX11_order_187 (by decide) (fun zc187 => absurd zc187 (by decide)) (fun zc187 => ?_)
          refine ev_lconst (pc := 190) (v := 0) dX11_order_190 (by decide) ?_
          refine ev_goto (pc := 191) (tgt := 196) dX11_order_191 (by decide) ?_
          refine ev_lsub (pc := 196) dX11_order_196 ?_
          refine ev_eqJ (e' := lN zl) (lN_sub (a := zl) (b := 0) (Nat.zero_le _)) ?_
          refine ev_lstore (pc := 197) (L' := [some (.ref 49), some (.long zx), none, some (.int zi), some (.int 0), some (.int (nI zs)), some (.long (lN zl)), none, some (.int zr), some (.int za), some (.int (nI zt)), some (.int 1), some (.int 1), some (.long (lN (wW (fopB (h.2.1 66) 0 (-4)) m (zs ||| 2 ^ zt)))), none]) dX11_order_197 (Nat.le_of_ble_eq_true rfl) rfl ?_
          refine ev_iload (pc := 199) dX11_order_199 rfl ?_
          refine ev_iload (pc := 201) dX11_order_201 rfl ?_
          refine ev_if_eq (pc := 203) (tgt := 210) dX11_order_203 (by decide) (fun zc203 => absurd zc203 (by decide)) (fun zc203 => ?_)
          refine ev_iconst (pc := 206) (v := 0) dX11_order_206 (by decide) ?_
          refine ev_goto (pc := 207) (tgt := 211) dX11_order_207 (by decide) ?_
          refine ev_iadd (pc := 211) dX11_order_211 ?_
          refine ev_eqI (e' := nI zt) (Int32.add_zero _) ?_
          refine ev_istore (pc := 212) (L' := [some (.ref 49), some (.long zx), none, some (.int zi), some (.int 0), some (.int (nI zs)), some (.long (lN zl)), none, some (.int zr), some (.int za), some (.int (nI zt)), some (.int 1), some (.int 1), some (.long (lN (wW (fopB (h.2.1 66) 0 (-4)) m (zs ||| 2 ^ zt)))), none]) dX11_order_212 (Nat.le_of_ble_eq_true rfl) rfl ?_
          refine ev_goto (pc := 214) (tgt := 103) dX11_order_214 (by decide) ?_
          have zb1 : fopB (h.2.1 66) 0 (-4) zs zt = true := decide_eq_true ⟨zc115, by rw [if_neg (nI_m4 zt (by omega)), or_zero32]; exact zc130⟩
          have zcl : zl < wW (fopB (h.2.1 66) 0 (-4)) m (zs ||| 2 ^ zt) := by
            have z8 : ¬ (0 : Int32) ≤ lg_cmp (lN zl) (lN (wW (fopB (h.2.1 66) 0 (-4)) m (zs ||| 2 ^ zt))) := zc173
            rw [i_le2, lc_lt, pk_lLT (by omega) (by omega)] at z8
            exact z8
          rw [pk_st (by rw [zfp true zb1]; exact zcl)] at h3
          rw [← h3] at K
          refine ev_iload (pc := 103) dX11_order_103 rfl ?_
          refine ev_if_ne (pc := 105) (tgt := 217) dX11_order_105 (by decide) (fun zc105 => ?_) (fun zc105 => absurd zc105 (by decide))
          refine ev_less (L' := [some (.ref 49), some (.long zx), none, some (.int zi), some (.int 0), some (.int (nI zs)), some (.long (lN zl)), none, some (.int zr), some (.int za), some (.int (nI zt)), some (.int 1), none, none, none]) (ls_keep (ls_keep (ls_keep (ls_keep (ls_keep (ls_keep (ls_keep (ls_keep (ls_keep (ls_keep (ls_keep (ls_keep (ls_drop (ls_drop (ls_keep (ls_nil _)))))))))))))))) ?_
          exact K
theorem lp_order_91 (E : ME) (h : AH) (m zn zk : Nat) (zx : Int64) (zi : Int32) (hw : WF h) (hm : h.2.1 49 14 = nI m) (hm2 : m ≤ 12) (hin : zn < m) (hzi : zi = nI zn) (hk : zk < wW (fopB (h.2.1 66) 0 (-4)) m 0) (hT : ∀ zq, zq < 2 ^ m → h.2.2.1 67 zq = lN (wW (fopB (h.2.1 66) 0 (-4)) m zq)) {post : PO} (K : Ev E mX11_order (rmm 1 0 0) (QM E 0 0 post) 0 0 236 [some (.ref 49), some (.long zx), none, some (.int zi), some (.int 0), some (.int (nI (oS (fopB (h.2.1 66) 0 (-4)) m zk (zn + 1)).1)), some (.long (lN (oS (fopB (h.2.1 66) 0 (-4)) m zk (zn + 1)).2.1)), none, some (.int ((oS (fopB (h.2.1 66) 0 (-4)) m zk (zn + 1)).2.2)), some (.int (nI (zn + 1))), none, none, none, none, none] [] h) : ∀ n i : Nat, i + n = (zn + 1) → Ev E mX11_order (rmm 1 0 0) (QM E 0 0 post) 0 0 91 [some (.ref 49), some (.long zx), none, some (.int zi), some (.int 0), some (.int (nI (oS (fopB (h.2.1 66) 0 (-4)) m zk i).1)), some (.long (lN (oS (fopB (h.2.1 66) 0 (-4)) m zk i).2.1)), none, some (.int ((oS (fopB (h.2.1 66) 0 (-4)) m zk i).2.2)), some (.int (nI i)), none, none, none, none, none] [] h := by
  intro n
  induction n with
  | zero =>
    intro i hi
    obtain rfl : (zn + 1) = i := by omega
    refine ev_iload (pc := 91) dX11_order_91 rfl ?_
    refine ev_iload_n (pc := 93) dX11_order_93 rfl ?_
    refine ev_icmp_gt (pc := 94) (tgt := 236) dX11_order_94 (by decide) (fun zc94 => ?_) (fun zc94 => absurd (by rw [hzi]; exact (nI_ltI (a := zn) (b := zn + 1) (by omega) (by omega)).mpr (by omega)) zc94)
    exact K
  | succ n ih =>
    intro i hi
    have hlt : i < (zn + 1) := by omega
    refine ev_iload (pc := 91) dX11_order_91 rfl ?_
    refine ev_iload_n (pc := 93) dX11_order_93 rfl ?_
    refine ev_icmp_gt (pc := 94) (tgt := 236) dX11_order_94 (by decide) (fun zc94 => absurd zc94 (by rw [hzi]; exact nI_nlt (a := zn) (b := i) (by omega) (by omega))) (fun zc94 => ?_)
    refine ev_iconst (pc := 97) (v := 0) dX11_order_97 (by decide) ?_
    refine ev_istore (pc := 98) (L' := [some (.ref 49), some (.long zx), none, some (.int zi), some (.int 0), some (.int (nI (oS (fopB (h.2.1 66) 0 (-4)) m zk i).1)), some (.long (lN (oS (fopB (h.2.1 66) 0 (-4)) m zk i).2.1)), none, some (.int ((oS (fopB (h.2.1 66) 0 (-4)) m zk i).2.2)), some (.int (nI i)), some (.int 0), none, none, none, none]) dX11_order_98 (Nat.le_of_ble_eq_true rfl) rfl ?_
    refine ev_iconst (pc := 100) (v := 0) dX11_order_100 (by decide) ?_
    refine ev_istore (pc := 101) (L' := [some (.ref 49), some (.long zx), none, some (.int zi), some (.int 0), some (.int (nI (oS (fopB (h.2.1 66) 0 (-4)) m zk i).1)), some (.long (lN (oS (fopB (h.2.1 66) 0 (-4)) m zk i).2.1)), none, some (.int ((oS (fopB (h.2.1 66) 0 (-4)) m zk i).2.2)), some (.int (nI i)), some (.int 0), some (.int 0), none, none, none]) dX11_order_101 (Nat.le_of_ble_eq_true rfl) rfl ?_
    refine lp_order_103 E h m (oS (fopB (h.2.1 66) 0 (-4)) m zk i).1 (oS (fopB (h.2.1 66) 0 (-4)) m zk i).2.1 zx zi (oS (fopB (h.2.1 66) 0 (-4)) m zk i).2.2 (nI i) hw hm hm2 (oS_ne (fop_ok _ _ _ hm2) hk (by omega)) hT ?_ m 0 (oS (fopB (h.2.1 66) 0 (-4)) m zk i).2.1 (Nat.zero_add _) (by have z1 := oS_ne (fop_ok (h.2.1 66) 0 (-4) hm2) hk (show i < m by omega); have z2 := (oS_ok (fop_ok (h.2.1 66) 0 (-4) hm2) hk i (by omega)).2.1; rw [wW_eq (fop_ok _ _ _ hm2) z1] at z2; exact z2) rfl
    refine ev_iload (pc := 217) dX11_order_217 rfl ?_
    refine ev_iconst (pc := 219) (v := 1) dX11_order_219 (by decide) ?_
    refine ev_iload (pc := 220) dX11_order_220 rfl ?_
    refine ev_ishl (pc := 222) dX11_order_222 ?_
    refine ev_ior (pc := 223) dX11_order_223 ?_
    refine ev_eqI (e' := nI (oS (fopB (h.2.1 66) 0 (-4)) m zk (i + 1)).1) (by rw [sh_pow _ (by have z1 := oS_pick (fop_ok (h.2.1 66) 0 (-4) hm2) (oS_ne (fop_ok (h.2.1 66) 0 (-4) hm2) hk (show i < m by omega)) (oS_ok (fop_ok (h.2.1 66) 0 (-4) hm2) hk i (by omega)).2.1; omega)]; exact fa_or _ _) ?_
    refine ev_istore (pc := 224) (L' := [some (.ref 49), some (.long zx), none, some (.int zi), some (.int 0), some (.int (nI (oS (fopB (h.2.1 66) 0 (-4)) m zk (i + 1)).1)), some (.long (lN (pkF (gW (fopB (h.2.1 66) 0 (-4)) m (oS (fopB (h.2.1 66) 0 (-4)) m zk i).1) m 0 (oS (fopB (h.2.1 66) 0 (-4)) m zk i).2.1).2)), none, some (.int ((oS (fopB (h.2.1 66) 0 (-4)) m zk i).2.2)), some (.int (nI i)), some (.int (nI (pkF (gW (fopB (h.2.1 66) 0 (-4)) m (oS (fopB (h.2.1 66) 0 (-4)) m zk i).1) m 0 (oS (fopB (h.2.1 66) 0 (-4)) m zk i).2.1).1)), some (.int 1), none, none, none]) dX11_order_224 (Nat.le_of_ble_eq_true rfl) rfl ?_
    refine ev_iload (pc := 226) dX11_order_226 rfl ?_
    refine ev_istore (pc := 228) (L' := [some (.ref 49), some (.long zx), none, some (.int zi), some (.int 0), some (.int (nI (oS (fopB (h.2.1 66) 0 (-4)) m zk (i + 1)).1)), some (.long (lN (pkF (gW (fopB (h.2.1 66) 0 (-4)) m (oS (fopB (h.2.1 66) 0 (-4)) m zk i).1) m 0 (oS (fopB (h.2.1 66) 0 (-4)) m zk i).2.1).2)), none, some (.int (nI (pkF (gW (fopB (h.2.1 66) 0 (-4)) m (oS (fopB (h.2.1 66) 0 (-4)) m zk i).1) m 0 (oS (fopB (h.2.1 66) 0 (-4)) m zk i).2.1).1)), some (.int (nI i)), some (.int (nI (pkF (gW (fopB (h.2.1 66) 0 (-4)) m (oS (fopB (h.2.1 66) 0 (-4)) m zk i).1) m 0 (oS (fopB (h.2.1 66) 0 (-4)) m zk i).2.1).1)), some (.int 1), none, none, none]) dX11_order_228 (Nat.le_of_ble_eq_true rfl) rfl ?_
    refine ev_iinc (pc := 230) (v := nI (i + 1)) (L' := [some (.ref 49), some (.long zx), none, some (.int zi), some (.int 0), some (.int (nI (oS (fopB (h.2.1 66) 0 (-4)) m zk (i + 1)).1)), some (.long (lN (pkF (gW (fopB (h.2.1 66) 0 (-4)) m (oS (fopB (h.2.1 66) 0 (-4)) m zk i).1) m 0 (oS (fopB (h.2.1 66) 0 (-4)) m zk i).2.1).2)), none, some (.int (nI (pkF (gW (fopB (h.2.1 66) 0 (-4)) m (oS (fopB (h.2.1 66) 0 (-4)) m zk i).1) m 0 (oS (fopB (h.2.1 66) 0 (-4)) m zk i).2.1).1)), some (.int (nI (i + 1))), some (.int (nI (pkF (gW (fopB (h.2.1 66) 0 (-4)) m (oS (fopB (h.2.1 66) 0 (-4)) m zk i).1) m 0 (oS (fopB (h.2.1 66) 0 (-4)) m zk i).2.1).1)), some (.int 1), none, none, none]) dX11_order_230 rfl (nI_1 _) (Nat.le_of_ble_eq_true rfl) rfl ?_
    refine ev_goto (pc := 233) (tgt := 91) dX11_order_233 (by decide) ?_
    refine ev_less (L' := [some (.ref 49), some (.long zx), none, some (.int zi), some (.int 0), some (.int (nI (oS (fopB (h.2.1 66) 0 (-4)) m zk (i + 1)).1)), some (.long (lN (oS (fopB (h.2.1 66) 0 (-4)) m zk (i + 1)).2.1)), none, some (.int ((oS (fopB (h.2.1 66) 0 (-4)) m zk (i + 1)).2.2)), some (.int (nI (i + 1))), none, none, none, none, none]) (ls_keep (ls_keep (ls_keep (ls_keep (ls_keep (ls_keep (ls_keep (ls_keep (ls_keep (ls_keep (ls_drop (ls_drop (ls_keep (ls_keep (ls_keep (ls_nil _)))))))))))))))) ?_
    exact ih (i + 1) (by omega)
theorem lx_clamp {zn : Nat} (h : zn < 2 ^ 63) : (lN zn).toNatClampNeg = zn := by
  show (lN zn).toInt.toNat = zn
  rw [pf_lI h]
  rfl
theorem l_n0 {zx : Int64} (h : 0 ≤ zx) (h2 : zx < 0) : False := by
  rw [l_le] at h
  rw [l_lt] at h2
  omega
theorem l_nn {zx : Int64} (h : ¬ zx < 0) : 0 ≤ zx := by
  rw [l_le]
  rw [l_lt] at h
  omega
theorem cn_X11_order (E : ME) (h : AH) (zx : Int64) (zi : Int32) (m : Nat) (hw : WF h) (hm : h.2.1 49 14 = nI m) (hm2 : m ≤ 12) : Con E mX11_order 1 0 0 [.ref 49, .long zx, .int zi] h (fun r h' => r = some (.int (if (0 ≤ zi ∧ zi ≤ h.2.1 49 14 - 1) ∧ 0 ≤ zx ∧ (rgF (befF m (h.2.1 55) (h.2.1 66)) m = 0 → zx < lN (wO m (h.2.1 55) (h.2.1 66) 0)) then (if rgF (befF m (h.2.1 55) (h.2.1 66)) m = 0 then (oS (fopB (befF m (h.2.1 55) (h.2.1 66)) 0 (-4)) m (Int64.toNatClampNeg zx) (Int32.toNatClampNeg zi + 1)).2.2 else -2) else -1)) ∧ h' = if rgF (befF m (h.2.1 55) (h.2.1 66)) m = 0 then sL (sI h 66 (befF m (h.2.1 55) (h.2.1 66))) 67 (wyS (befF m (h.2.1 55) (h.2.1 66)) 0 (-4) m (h.2.2.1 67) (2 ^ m - 1)) else sI h 66 (befF m (h.2.1 55) (h.2.1 66))) := by
  refine con_of2 (L := [some (.ref 49), some (.long zx), none, some (.int zi), none, none, none, none, none, none, none, none, none, none, none]) rfl (Nat.le_of_ble_eq_true rfl) rfl ?_
  refine ev_aload_n (pc := 0) dX11_order_0 rfl ?_
  refine ev_callV0 (S := []) (pc := 1) dX11_order_1 kX11_layBefore lX11_199 vX11_layBefore (cn_X11_layBefore E h m hw hm hm2) rfl rfl (wlt hw (by decide)) rfl rfl (Nat.le_of_ble_eq_true rfl) ⟨Nat.le_of_ble_eq_true rfl, Nat.le_of_ble_eq_true rfl⟩ ⟨Nat.le_of_ble_eq_true rfl, Nat.le_of_ble_eq_true rfl⟩ ?_
  refine ev_eqH (h' := sI h 66 (befF m (h.2.1 55) (h.2.1 66))) rfl ?_
  refine ev_aload_n (pc := 4) dX11_order_4 rfl ?_
  refine ev_callVv (S := []) (pc := 5) dX11_order_5 kX11_ringed lX11_202 vX11_ringed (cn_X11_ringed E (sI h 66 (befF m (h.2.1 55) (h.2.1 66))) m (wf_sI hw) hm hm2) rfl rfl (wlt (wf_sI hw) (by decide)) rfl rfl (Nat.le_of_ble_eq_true rfl) ⟨Nat.le_of_ble_eq_true rfl, Nat.le_of_ble_eq_true rfl⟩ ⟨Nat.le_of_ble_eq_true rfl, Nat.le_of_ble_eq_true rfl⟩ ?_
  refine ev_nmI (fun zr5 ezr5 => ?_)
  refine ev_if_eq (pc := 8) (tgt := 15) dX11_order_8 (by decide) (fun zc8 => ?_) (fun zc8 => ?_)
  · -- eq at 8: taken
    refine ev_iconst (pc := 15) (v := 0) dX11_order_15 (by decide) ?_
    refine ev_istore (pc := 16) (L' := [some (.ref 49), some (.long zx), none, some (.int zi), some (.int 0), none, none, none, none, none, none, none, none, none, none]) dX11_order_16 (Nat.le_of_ble_eq_true rfl) rfl ?_
    refine ev_iload (pc := 18) dX11_order_18 rfl ?_
    refine ev_if_ne (pc := 20) (tgt := 30) dX11_order_20 (by decide) (fun zc20 => absurd rfl zc20) (fun zc20 => ?_)
    refine ev_aload_n (pc := 23) dX11_order_23 rfl ?_
    refine ev_iconst (pc := 24) (v := 0) dX11_order_24 (by decide) ?_
    refine ev_bipush (pc := 25) (v := (-4)) dX11_order_25 (by decide) ?_
    refine ev_callV0 (S := []) (pc := 27) dX11_order_27 kX11_layWays lX11_216 vX11_layWays (cn_X11_layWays E (sI h 66 (befF m (h.2.1 55) (h.2.1 66))) 0 (-4) m (wf_sI hw) hm hm2) rfl rfl (wlt (wf_sI hw) (by decide)) rfl rfl (Nat.le_of_ble_eq_true rfl) ⟨Nat.le_of_ble_eq_true rfl, Nat.le_of_ble_eq_true rfl⟩ ⟨Nat.le_of_ble_eq_true rfl, Nat.le_of_ble_eq_true rfl⟩ ?_
    refine ev_eqH (h' := sL (sI h 66 (befF m (h.2.1 55) (h.2.1 66))) 67 (wyS (befF m (h.2.1 55) (h.2.1 66)) 0 (-4) m (h.2.2.1 67) (2 ^ m - 1))) rfl ?_
    refine ev_iload_n (pc := 30) dX11_order_30 rfl ?_
    refine ev_i2l (pc := 31) dX11_order_31 ?_
    refine ev_lconst (pc := 32) (v := 0) dX11_order_32 (by decide) ?_
    refine ev_aload_n (pc := 33) dX11_order_33 rfl ?_
    refine ev_getI (pc := 34) dX11_order_34 fX11_184 rfl (wlt (wf_sL (wf_sI hw)) (by decide)) ?_
    refine ev_eqI (e' := h.2.1 49 14) (by rfl) ?_
    refine ev_iconst (pc := 37) (v := 1) dX11_order_37 (by decide) ?_
    refine ev_isub (pc := 38) dX11_order_38 ?_
    refine ev_i2l (pc := 39) dX11_order_39 ?_
    refine ev_callSv (S := []) (pc := 40) dX11_order_40 kX11_in lX11_96 sX11_in (cn_X11_inC E (sL (sI h 66 (befF m (h.2.1 55) (h.2.1 66))) 67 (wyS (befF m (h.2.1 55) (h.2.1 66)) 0 (-4) m (h.2.2.1 67) (2 ^ m - 1))) zi 0 ((h.2.1 49 14) - 1) _ _ _ rfl (by decide) rfl) rfl rfl (Nat.le_of_ble_eq_true rfl) ⟨Nat.le_of_ble_eq_true rfl, Nat.le_of_ble_eq_true rfl⟩ ⟨Nat.le_of_ble_eq_true rfl, Nat.le_of_ble_eq_true rfl⟩ ?_
    refine ev_if_eq (pc := 43) (tgt := 68) dX11_order_43 (by decide) (fun zc43 => ?_) (fun zc43 => ?_)
    · -- eq at 43: taken
      refine ev_iconst (pc := 68) (v := (-1)) dX11_order_68 (by decide) ?_
      refine ev_iret (pc := 69) dX11_order_69 rfl ?_ ?_
      · rfl
      · rw [ezr5, sI_at] at zc8
        simp only [bI_0, bI_n0, Classical.not_not] at zc43
        rw [if_neg (show ¬ ((0 ≤ zi ∧ zi ≤ h.2.1 49 14 - 1) ∧ 0 ≤ zx ∧ (rgF (befF m (h.2.1 55) (h.2.1 66)) m = 0 → zx < lN (wO m (h.2.1 55) (h.2.1 66) 0))) from fun zq => by exact zc43 zq.1), if_pos zc8]
        exact ⟨rfl, rfl⟩
    · -- eq at 43: not taken
      refine ev_lload_n (pc := 46) dX11_order_46 rfl ?_
      refine ev_lconst (pc := 47) (v := 0) dX11_order_47 (by decide) ?_
      refine ev_lcmp (pc := 48) dX11_order_48 ?_
      refine ev_if_lt (pc := 49) (tgt := 68) dX11_order_49 (by decide) (fun zc49 => ?_) (fun zc49 => ?_)
      · -- lt at 49: taken
        refine ev_iconst (pc := 68) (v := (-1)) dX11_order_68 (by decide) ?_
        refine ev_iret (pc := 69) dX11_order_69 rfl ?_ ?_
        · rfl
        · rw [ezr5, sI_at] at zc8
          simp only [bI_0, bI_n0, Classical.not_not] at zc43
          rw [if_neg (show ¬ ((0 ≤ zi ∧ zi ≤ h.2.1 49 14 - 1) ∧ 0 ≤ zx ∧ (rgF (befF m (h.2.1 55) (h.2.1 66)) m = 0 → zx < lN (wO m (h.2.1 55) (h.2.1 66) 0))) from fun zq => by exact l_n0 zq.2.1 ((lc_lt _ _).mp zc49)), if_pos zc8]
          exact ⟨rfl, rfl⟩
      · -- lt at 49: not taken
        refine ev_iload (pc := 52) dX11_order_52 rfl ?_
        refine ev_if_ne (pc := 54) (tgt := 70) dX11_order_54 (by decide) (fun zc54 => absurd rfl zc54) (fun zc54 => ?_)
        refine ev_lload_n (pc := 57) dX11_order_57 rfl ?_
        refine ev_aload_n (pc := 58) dX11_order_58 rfl ?_
        refine ev_getR (pc := 59) (q := 67) dX11_order_59 fX11_65 rfl (wlt (wf_sL (wf_sI hw)) (by decide)) (wr (wf_sL (wf_sI hw)) rfl) ?_
        refine ev_iconst (pc := 62) (v := 0) dX11_order_62 (by decide) ?_
        refine ev_lald (pc := 63) dX11_order_63 rfl (wlt (wf_sL (wf_sI hw)) (by decide)) (vp_in_nI (n := 0) (by decide) (by decide)) ?_
        refine ev_eqJ (e' := (wyS (befF m (h.2.1 55) (h.2.1 66)) 0 (-4) m (h.2.2.1 67) (2 ^ m - 1)) 0) (by rfl) ?_
        refine ev_eqJ (e' := lN (wO m (h.2.1 55) (h.2.1 66) 0)) (ways_eq _ _ _ hm2 _ (Nat.two_pow_pos m)) ?_
        refine ev_lcmp (pc := 64) dX11_order_64 ?_
        refine ev_if_lt (pc := 65) (tgt := 70) dX11_order_65 (by decide) (fun zc65 => ?_) (fun zc65 => ?_)
        · -- lt at 65: taken
          refine ev_iload (pc := 70) dX11_order_70 rfl ?_
          refine ev_if_eq (pc := 72) (tgt := 78) dX11_order_72 (by decide) (fun zc72 => ?_) (fun zc72 => absurd rfl zc72)
          refine ev_iconst (pc := 78) (v := 0) dX11_order_78 (by decide) ?_
          refine ev_istore (pc := 79) (L' := [some (.ref 49), some (.long zx), none, some (.int zi), some (.int 0), some (.int 0), none, none, none, none, none, none, none, none, none]) dX11_order_79 (Nat.le_of_ble_eq_true rfl) rfl ?_
          refine ev_lload_n (pc := 81) dX11_order_81 rfl ?_
          refine ev_lstore (pc := 82) (L' := [some (.ref 49), some (.long zx), none, some (.int zi), some (.int 0), some (.int 0), some (.long zx), none, none, none, none, none, none, none, none]) dX11_order_82 (Nat.le_of_ble_eq_true rfl) rfl ?_
          refine ev_bipush (pc := 84) (v := (-4)) dX11_order_84 (by decide) ?_
          refine ev_istore (pc := 86) (L' := [some (.ref 49), some (.long zx), none, some (.int zi), some (.int 0), some (.int 0), some (.long zx), none, some (.int ((-4))), none, none, none, none, none, none]) dX11_order_86 (Nat.le_of_ble_eq_true rfl) rfl ?_
          refine ev_iconst (pc := 88) (v := 0) dX11_order_88 (by decide) ?_
          refine ev_istore (pc := 89) (L' := [some (.ref 49), some (.long zx), none, some (.int zi), some (.int 0), some (.int 0), some (.long zx), none, some (.int ((-4))), some (.int 0), none, none, none, none, none]) dX11_order_89 (Nat.le_of_ble_eq_true rfl) rfl ?_
          simp only [bI_0, bI_n0, Classical.not_not] at zc43
          obtain ⟨zn, hzn, rfl⟩ := th_nat (by rw [hm] at zc43; exact zc43) (by omega : m ≤ 4096)
          have zx0 : ¬ zx < 0 := fun z => zc49 ((lc_lt _ _).mpr z)
          obtain ⟨zk, hzk, rfl⟩ := pk_lOf zx0
          have hk9 : zk < wO m (h.2.1 55) (h.2.1 66) 0 := by
            have z1 := (lc_lt _ _).mp zc65
            rw [pk_lLT hzk (by have := wO_le (lt := h.2.1 55) (bf := h.2.1 66) hm2 (Nat.two_pow_pos m); omega)] at z1
            exact z1
          refine lp_order_91 E (sL (sI h 66 (befF m (h.2.1 55) (h.2.1 66))) 67 (wyS (befF m (h.2.1 55) (h.2.1 66)) 0 (-4) m (h.2.2.1 67) (2 ^ m - 1))) m zn zk (lN zk) (nI zn) (wf_sL (wf_sI hw)) hm hm2 hzn rfl hk9 (fun zq hq => by rw [sL_at]; exact ways_eq _ _ _ hm2 _ hq) ?_ (zn + 1) 0 (Nat.zero_add _)
          refine ev_iload (pc := 236) dX11_order_236 rfl ?_
          refine ev_iret (pc := 238) dX11_order_238 rfl ?_ ?_
          · rfl
          · rw [ezr5, sI_at] at zc8
            have hC : (0 ≤ nI zn ∧ nI zn ≤ h.2.1 49 14 - 1) ∧ 0 ≤ lN zk ∧ (rgF (befF m (h.2.1 55) (h.2.1 66)) m = 0 → lN zk < lN (wO m (h.2.1 55) (h.2.1 66) 0)) := ⟨zc43, (pk_lLE (a := 0) (by decide) hzk).mpr (Nat.zero_le _), fun _ => (lc_lt _ _).mp zc65⟩
            rw [if_pos hC, if_pos zc8, if_pos zc8, lx_clamp hzk, nI_clamp (by omega)]
            exact ⟨rfl, rfl⟩
        · -- lt at 65: not taken
          refine ev_iconst (pc := 68) (v := (-1)) dX11_order_68 (by decide) ?_
          refine ev_iret (pc := 69) dX11_order_69 rfl ?_ ?_
          · rfl
          · rw [ezr5, sI_at] at zc8
            simp only [bI_0, bI_n0, Classical.not_not] at zc43
            rw [if_neg (show ¬ ((0 ≤ zi ∧ zi ≤ h.2.1 49 14 - 1) ∧ 0 ≤ zx ∧ (rgF (befF m (h.2.1 55) (h.2.1 66)) m = 0 → zx < lN (wO m (h.2.1 55) (h.2.1 66) 0))) from fun zq => by exact zc65 ((lc_lt _ _).mpr (zq.2.2 zc8))), if_pos zc8]
            exact ⟨rfl, rfl⟩
  · -- eq at 8: not taken
    refine ev_iconst (pc := 11) (v := 1) dX11_order_11 (by decide) ?_
    refine ev_goto (pc := 12) (tgt := 16) dX11_order_12 (by decide) ?_
    refine ev_istore (pc := 16) (L' := [some (.ref 49), some (.long zx), none, some (.int zi), some (.int 1), none, none, none, none, none, none, none, none, none, none]) dX11_order_16 (Nat.le_of_ble_eq_true rfl) rfl ?_
    refine ev_iload (pc := 18) dX11_order_18 rfl ?_
    refine ev_if_ne (pc := 20) (tgt := 30) dX11_order_20 (by decide) (fun zc20 => ?_) (fun zc20 => absurd zc20 (by decide))
    refine ev_iload_n (pc := 30) dX11_order_30 rfl ?_
    refine ev_i2l (pc := 31) dX11_order_31 ?_
    refine ev_lconst (pc := 32) (v := 0) dX11_order_32 (by decide) ?_
    refine ev_aload_n (pc := 33) dX11_order_33 rfl ?_
    refine ev_getI (pc := 34) dX11_order_34 fX11_184 rfl (wlt (wf_sI hw) (by decide)) ?_
    refine ev_eqI (e' := h.2.1 49 14) (by rfl) ?_
    refine ev_iconst (pc := 37) (v := 1) dX11_order_37 (by decide) ?_
    refine ev_isub (pc := 38) dX11_order_38 ?_
    refine ev_i2l (pc := 39) dX11_order_39 ?_
    refine ev_callSv (S := []) (pc := 40) dX11_order_40 kX11_in lX11_96 sX11_in (cn_X11_inC E (sI h 66 (befF m (h.2.1 55) (h.2.1 66))) zi 0 ((h.2.1 49 14) - 1) _ _ _ rfl (by decide) rfl) rfl rfl (Nat.le_of_ble_eq_true rfl) ⟨Nat.le_of_ble_eq_true rfl, Nat.le_of_ble_eq_true rfl⟩ ⟨Nat.le_of_ble_eq_true rfl, Nat.le_of_ble_eq_true rfl⟩ ?_
    refine ev_if_eq (pc := 43) (tgt := 68) dX11_order_43 (by decide) (fun zc43 => ?_) (fun zc43 => ?_)
    · -- eq at 43: taken
      refine ev_iconst (pc := 68) (v := (-1)) dX11_order_68 (by decide) ?_
      refine ev_iret (pc := 69) dX11_order_69 rfl ?_ ?_
      · rfl
      · rw [ezr5, sI_at] at zc8
        simp only [bI_0, bI_n0, Classical.not_not] at zc43
        rw [if_neg (show ¬ ((0 ≤ zi ∧ zi ≤ h.2.1 49 14 - 1) ∧ 0 ≤ zx ∧ (rgF (befF m (h.2.1 55) (h.2.1 66)) m = 0 → zx < lN (wO m (h.2.1 55) (h.2.1 66) 0))) from fun zq => by exact zc43 zq.1), if_neg zc8]
        exact ⟨rfl, rfl⟩
    · -- eq at 43: not taken
      refine ev_lload_n (pc := 46) dX11_order_46 rfl ?_
      refine ev_lconst (pc := 47) (v := 0) dX11_order_47 (by decide) ?_
      refine ev_lcmp (pc := 48) dX11_order_48 ?_
      refine ev_if_lt (pc := 49) (tgt := 68) dX11_order_49 (by decide) (fun zc49 => ?_) (fun zc49 => ?_)
      · -- lt at 49: taken
        refine ev_iconst (pc := 68) (v := (-1)) dX11_order_68 (by decide) ?_
        refine ev_iret (pc := 69) dX11_order_69 rfl ?_ ?_
        · rfl
        · rw [ezr5, sI_at] at zc8
          simp only [bI_0, bI_n0, Classical.not_not] at zc43
          rw [if_neg (show ¬ ((0 ≤ zi ∧ zi ≤ h.2.1 49 14 - 1) ∧ 0 ≤ zx ∧ (rgF (befF m (h.2.1 55) (h.2.1 66)) m = 0 → zx < lN (wO m (h.2.1 55) (h.2.1 66) 0))) from fun zq => by exact l_n0 zq.2.1 ((lc_lt _ _).mp zc49)), if_neg zc8]
          exact ⟨rfl, rfl⟩
      · -- lt at 49: not taken
        refine ev_iload (pc := 52) dX11_order_52 rfl ?_
        refine ev_if_ne (pc := 54) (tgt := 70) dX11_order_54 (by decide) (fun zc54 => ?_) (fun zc54 => absurd zc54 (by decide))
        refine ev_iload (pc := 70) dX11_order_70 rfl ?_
        refine ev_if_eq (pc := 72) (tgt := 78) dX11_order_72 (by decide) (fun zc72 => absurd zc72 (by decide)) (fun zc72 => ?_)
        refine ev_bipush (pc := 75) (v := (-2)) dX11_order_75 (by decide) ?_
        refine ev_iret (pc := 77) dX11_order_77 rfl ?_ ?_
        · rfl
        · rw [ezr5, sI_at] at zc8
          simp only [bI_0, bI_n0, Classical.not_not] at zc43
          rw [if_pos (show (0 ≤ zi ∧ zi ≤ h.2.1 49 14 - 1) ∧ 0 ≤ zx ∧ (rgF (befF m (h.2.1 55) (h.2.1 66)) m = 0 → zx < lN (wO m (h.2.1 55) (h.2.1 66) 0)) from ⟨zc43, l_nn (fun z => zc49 ((lc_lt _ _).mpr z)), fun z => absurd z zc8⟩), if_neg zc8, if_neg zc8]
          exact ⟨rfl, rfl⟩
