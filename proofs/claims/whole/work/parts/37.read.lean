def rdB (zl za : Int32) (zf : Int) (zz zi : Nat) : Int32 := if zl = -4 then 1 else if ¬ zl = za then 3 else if 0 ≤ zf + zi ∧ zf + zi < zz then 0 else 2
def rdF (zb zg : Nat → Int32) : Nat → Nat → Int32 × Nat × Bool
  | 0, zi => (0, zi, false)
  | zf + 1, zi => if zb zi = 0 then (if -1 ≤ zg zi ∧ zg zi ≤ 5 then rdF zb zg zf (zi + 1) else (-20 - nI zi, zi, true)) else (zb zi, zi, false)
def rdW (zf zg : Nat → Int32) (zc zm : Nat) : Nat → Nat → Int32
  | 0 => zf
  | zi + 1 => upd (rdW zf zg zc zm zi) (zc + zi) (if zi < zm then zg zi else -1)
def rdL (zx : Int64) (zc : Nat) : Nat → Int64
  | 0 => zx
  | zi + 1 => rdL zx zc zi &&& ((1 <<< (Int32.toInt64 (nI (zc + zi)) &&& 63)) ^^^ (-1))
theorem rd_ok {zb zg : Nat → Int32} : ∀ zf zi, zi ≤ (rdF zb zg zf zi).2.1 ∧ (rdF zb zg zf zi).2.1 ≤ zi + zf ∧ ∀ zj, zi ≤ zj → zj < (rdF zb zg zf zi).2.1 → zb zj = 0 ∧ (-1 ≤ zg zj ∧ zg zj ≤ 5)
  | 0, zi => ⟨Nat.le_refl _, Nat.le_refl _, fun zj h1 h2 => by have h3 : zj < zi := h2; omega⟩
  | zf + 1, zi => by
    rw [rdF]
    by_cases h1 : zb zi = 0
    · rw [if_pos h1]
      by_cases h2 : -1 ≤ zg zi ∧ zg zi ≤ 5
      · rw [if_pos h2]
        have ih := rd_ok (zb := zb) (zg := zg) zf (zi + 1)
        refine ⟨by omega, by omega, fun zj h3 h4 => ?_⟩
        by_cases e : zj = zi
        · subst e; exact ⟨h1, h2⟩
        · exact ih.2.2 zj (by omega) h4
      · rw [if_neg h2]
        exact ⟨Nat.le_refl _, Nat.le_add_right _ _, fun zj h3 h4 => by have h5 : zj < zi := h4; omega⟩
    · rw [if_neg h1]
      exact ⟨Nat.le_refl _, Nat.le_add_right _ _, fun zj h3 h4 => by have h5 : zj < zi := h4; omega⟩
theorem rdB_0 {zl za : Int32} {zf : Int} {zz zi : Nat} (h : rdB zl za zf zz zi = 0) : ¬ zl = -4 ∧ zl = za ∧ 0 ≤ zf + zi ∧ zf + zi < zz := by
  unfold rdB at h
  by_cases h1 : zl = -4
  · rw [if_pos h1] at h; exact absurd h (by decide)
  · rw [if_neg h1] at h
    by_cases h2 : zl = za
    · rw [if_neg (fun z => z h2)] at h
      by_cases h3 : 0 ≤ zf + zi ∧ zf + zi < zz
      · exact ⟨h1, h2, h3⟩
      · rw [if_neg h3] at h; exact absurd h (by decide)
    · rw [if_pos h2] at h; exact absurd h (by decide)
theorem rd_in {zf : Int32} {zi zz : Nat} (hi : zi < 64) (hz : zz ≤ 64) : (0 ≤ Int32.toInt64 zf + Int32.toInt64 (nI zi) ∧ Int32.toInt64 zf + Int32.toInt64 (nI zi) ≤ Int32.toInt64 (nI zz - 1)) ↔ (0 ≤ zf.toInt + zi ∧ zf.toInt + zi < zz) := by
  have e1 : (Int32.toInt64 zf + Int32.toInt64 (nI zi)).toInt = zf.toInt + zi := by
    have hb := fb_rng zf
    have e2 : (Int32.toInt64 (nI zi)).toInt = zi := by rw [Int32.toInt_toInt64, nI_toInt (by omega)]
    rw [fb_addL (by rw [e2, Int32.toInt_toInt64]; omega) (by rw [e2, Int32.toInt_toInt64]; omega), e2, Int32.toInt_toInt64]
  have e3 : (0 : Int64).toInt = 0 := rfl
  rw [l_le, l_le, e1, e3, Int32.toInt_toInt64, m1_toInt (by omega)]
  omega
theorem rd_ix {zf : Int32} {zk zi zz : Nat} (hk : zk < 4) (hi : zi < 64) (hz : zz ≤ 64) (h : 0 ≤ zf.toInt + zi ∧ zf.toInt + zi < zz) : nI (64 * zk) + zf + nI zi = nI (64 * zk + (zf.toInt + zi).toNat) := by
  have hb := fb_rng zf
  have e1 : (nI (64 * zk)).toInt = 64 * zk := by rw [nI_toInt (by omega)]; omega
  have e2 : (nI zi).toInt = zi := nI_toInt (by omega)
  have e3 : (nI (64 * zk) + zf).toInt = 64 * zk + zf.toInt := by rw [fb_addI (by rw [e1]; omega) (by rw [e1]; omega), e1]
  apply Int32.toInt_inj.mp
  rw [fb_addI (by rw [e3, e2]; omega) (by rw [e3, e2]; omega), e3, e2, nI_toInt (by omega)]
  omega
theorem lp_read_59 (E : ME) (h : AH) (zk zc zn zz : Nat) (za zf : Int32) (hw : WF h) (hk : zk < 4) (hcn : zc + zn ≤ 64) (hz : h.2.1 74 zk = nI zz) (hz2 : zz ≤ 64) {post : PO} : ∀ zq zi : Nat, zi + zq = zn → ((rdF (rdB (h.2.1 73 zk) za zf.toInt zz) (fun zj => h.2.1 75 (64 * zk + (zf.toInt + (zj : Nat)).toNat)) zq zi).2.2 = false → Ev E mX11_read (rmm 1 0 0) (QM E 0 0 post) 0 0 188 [some (.ref 49), some (.int (nI zk)), some (.int za), some (.int zf), some (.int (nI zc)), some (.int (nI zn)), some (.int ((rdF (rdB (h.2.1 73 zk) za zf.toInt zz) (fun zj => h.2.1 75 (64 * zk + (zf.toInt + (zj : Nat)).toNat)) zq zi).1)), some (.int (nI (rdF (rdB (h.2.1 73 zk) za zf.toInt zz) (fun zj => h.2.1 75 (64 * zk + (zf.toInt + (zj : Nat)).toNat)) zq zi).2.1)), none] [] h) → ((rdF (rdB (h.2.1 73 zk) za zf.toInt zz) (fun zj => h.2.1 75 (64 * zk + (zf.toInt + (zj : Nat)).toNat)) zq zi).2.2 = true → post (some (.int (rdF (rdB (h.2.1 73 zk) za zf.toInt zz) (fun zj => h.2.1 75 (64 * zk + (zf.toInt + (zj : Nat)).toNat)) zq zi).1)) h) → Ev E mX11_read (rmm 1 0 0) (QM E 0 0 post) 0 0 59 [some (.ref 49), some (.int (nI zk)), some (.int za), some (.int zf), some (.int (nI zc)), some (.int (nI zn)), some (.int 0), some (.int (nI zi)), some (.int (nI zi))] [] h := by
  intro zq
  induction zq with
  | zero =>
    intro zi hi K _
    obtain rfl : zn = zi := by omega
    refine ev_iload (pc := 59) dX11_read_59 rfl ?_
    refine ev_iload (pc := 61) dX11_read_61 rfl ?_
    refine ev_icmp_ge (pc := 63) (tgt := 188) dX11_read_63 (by decide) (fun zc63 => ?_) (fun zc63 => absurd (nI_le (Nat.le_refl _) (by omega)) zc63)
    refine ev_less (L' := [some (.ref 49), some (.int (nI zk)), some (.int za), some (.int zf), some (.int (nI zc)), some (.int (nI zn)), some (.int 0), some (.int (nI zn)), none]) (ls_keep (ls_keep (ls_keep (ls_keep (ls_keep (ls_keep (ls_keep (ls_keep (ls_drop (ls_nil _)))))))))) ?_
    exact K rfl
  | succ zq ih =>
    intro zi hi K hp
    have hlt : zi < zn := by omega
    refine ev_iload (pc := 59) dX11_read_59 rfl ?_
    refine ev_iload (pc := 61) dX11_read_61 rfl ?_
    refine ev_icmp_ge (pc := 63) (tgt := 188) dX11_read_63 (by decide) (fun zc63 => absurd zc63 (nI_ge hlt (by omega))) (fun zc63 => ?_)
    refine ev_iload (pc := 66) dX11_read_66 rfl ?_
    refine ev_if_ne (pc := 68) (tgt := 188) dX11_read_68 (by decide) (fun zc68 => absurd rfl zc68) (fun zc68 => ?_)
    refine ev_aload_n (pc := 71) dX11_read_71 rfl ?_
    refine ev_getR (pc := 72) (q := 73) dX11_read_72 fX11_84 rfl (wlt hw (by decide)) (wr hw rfl) ?_
    refine ev_iload_n (pc := 75) dX11_read_75 rfl ?_
    refine ev_iald (pc := 76) dX11_read_76 rfl (wlt hw (by decide)) (vp_in_nI (by omega) (by decide)) ?_
    refine ev_eqI (e' := h.2.1 73 zk) (by rw [show Int32.toNatClampNeg (nI zk) = zk from nI_clamp (by omega)] <;> rfl) ?_
    refine ev_bipush (pc := 77) (v := (-4)) dX11_read_77 (by decide) ?_
    refine ev_icmp_ne (pc := 79) (tgt := 86) dX11_read_79 (by decide) (fun zc79 => ?_) (fun zc79 => ?_)
    · -- ne at 79: taken
      refine ev_aload_n (pc := 86) dX11_read_86 rfl ?_
      refine ev_getR (pc := 87) (q := 73) dX11_read_87 fX11_84 rfl (wlt hw (by decide)) (wr hw rfl) ?_
      refine ev_iload_n (pc := 90) dX11_read_90 rfl ?_
      refine ev_iald (pc := 91) dX11_read_91 rfl (wlt hw (by decide)) (vp_in_nI (by omega) (by decide)) ?_
      refine ev_eqI (e' := h.2.1 73 zk) (by rw [show Int32.toNatClampNeg (nI zk) = zk from nI_clamp (by omega)] <;> rfl) ?_
      refine ev_iload_n (pc := 92) dX11_read_92 rfl ?_
      refine ev_icmp_eq (pc := 93) (tgt := 100) dX11_read_93 (by decide) (fun zc93 => ?_) (fun zc93 => ?_)
      · -- eq at 93: taken
        refine ev_iload_n (pc := 100) dX11_read_100 rfl ?_
        refine ev_i2l (pc := 101) dX11_read_101 ?_
        refine ev_iload (pc := 102) dX11_read_102 rfl ?_
        refine ev_i2l (pc := 104) dX11_read_104 ?_
        refine ev_ladd (pc := 105) dX11_read_105 ?_
        refine ev_lconst (pc := 106) (v := 0) dX11_read_106 (by decide) ?_
        refine ev_aload_n (pc := 107) dX11_read_107 rfl ?_
        refine ev_getR (pc := 108) (q := 74) dX11_read_108 fX11_87 rfl (wlt hw (by decide)) (wr hw rfl) ?_
        refine ev_iload_n (pc := 111) dX11_read_111 rfl ?_
        refine ev_iald (pc := 112) dX11_read_112 rfl (wlt hw (by decide)) (vp_in_nI (by omega) (by decide)) ?_
        refine ev_eqI (e' := h.2.1 74 zk) (by rw [show Int32.toNatClampNeg (nI zk) = zk from nI_clamp (by omega)] <;> rfl) ?_
        refine ev_eqI (e' := nI zz) hz ?_
        refine ev_iconst (pc := 113) (v := 1) dX11_read_113 (by decide) ?_
        refine ev_isub (pc := 114) dX11_read_114 ?_
        refine ev_i2l (pc := 115) dX11_read_115 ?_
        refine ev_callSv (S := []) (pc := 116) dX11_read_116 kX11_in lX11_96 sX11_in (cn_X11_in E h ((Int32.toInt64 zf) + (Int32.toInt64 (nI zi))) 0 (Int32.toInt64 ((nI zz) - 1))) rfl rfl (Nat.le_of_ble_eq_true rfl) ⟨Nat.le_of_ble_eq_true rfl, Nat.le_of_ble_eq_true rfl⟩ ⟨Nat.le_of_ble_eq_true rfl, Nat.le_of_ble_eq_true rfl⟩ ?_
        refine ev_if_ne (pc := 119) (tgt := 126) dX11_read_119 (by decide) (fun zc119 => ?_) (fun zc119 => ?_)
        · -- ne at 119: taken
          have zy9 : 0 ≤ zf.toInt + zi ∧ zf.toInt + zi < zz := (rd_in (by omega) hz2).mp (bI_n0.mp zc119)
          refine ev_iconst (pc := 126) (v := 0) dX11_read_126 (by decide) ?_
          refine ev_istore (pc := 127) (L' := [some (.ref 49), some (.int (nI zk)), some (.int za), some (.int zf), some (.int (nI zc)), some (.int (nI zn)), some (.int 0), some (.int (nI zi)), some (.int (nI zi))]) dX11_read_127 (Nat.le_of_ble_eq_true rfl) rfl ?_
          refine ev_iload (pc := 129) dX11_read_129 rfl ?_
          refine ev_if_ne (pc := 131) (tgt := 167) dX11_read_131 (by decide) (fun zc131 => absurd rfl zc131) (fun zc131 => ?_)
          refine ev_aload_n (pc := 134) dX11_read_134 rfl ?_
          refine ev_getR (pc := 135) (q := 75) dX11_read_135 fX11_90 rfl (wlt hw (by decide)) (wr hw rfl) ?_
          refine ev_bipush (pc := 138) (v := 64) dX11_read_138 (by decide) ?_
          refine ev_iload_n (pc := 140) dX11_read_140 rfl ?_
          refine ev_imul (pc := 141) dX11_read_141 ?_
          refine ev_eqI (e' := nI (64 * zk)) (pk_mul 64 zk) ?_
          refine ev_iload_n (pc := 142) dX11_read_142 rfl ?_
          refine ev_iadd (pc := 143) dX11_read_143 ?_
          refine ev_iload (pc := 144) dX11_read_144 rfl ?_
          refine ev_iadd (pc := 146) dX11_read_146 ?_
          refine ev_eqI (e' := nI (64 * zk + (zf.toInt + (zi : Nat)).toNat)) (rd_ix hk (by omega) hz2 zy9) ?_
          refine ev_iald (pc := 147) dX11_read_147 rfl (wlt hw (by decide)) (vp_in_nI (by omega) (by decide)) ?_
          refine ev_eqI (e' := h.2.1 75 (64 * zk + (zf.toInt + (zi : Nat)).toNat)) (by rw [show Int32.toNatClampNeg (nI (64 * zk + (zf.toInt + (zi : Nat)).toNat)) = 64 * zk + (zf.toInt + (zi : Nat)).toNat from nI_clamp (by omega)] <;> rfl) ?_
          refine ev_i2l (pc := 148) dX11_read_148 ?_
          refine ev_ldc2 (pc := 149) (v := (-1)) dX11_read_149 kcX11_220 ?_
          refine ev_ldc2 (pc := 152) (v := 5) dX11_read_152 kcX11_144 ?_
          refine ev_callSv (S := []) (pc := 155) dX11_read_155 kX11_in lX11_96 sX11_in (cn_X11_inC E h (h.2.1 75 (64 * zk + (zf.toInt + (zi : Nat)).toNat)) (-1) 5 _ _ _ rfl (by decide) (by decide)) rfl rfl (Nat.le_of_ble_eq_true rfl) ⟨Nat.le_of_ble_eq_true rfl, Nat.le_of_ble_eq_true rfl⟩ ⟨Nat.le_of_ble_eq_true rfl, Nat.le_of_ble_eq_true rfl⟩ ?_
          refine ev_if_ne (pc := 158) (tgt := 167) dX11_read_158 (by decide) (fun zc158 => ?_) (fun zc158 => ?_)
          · -- ne at 158: taken
            refine ev_iload (pc := 167) dX11_read_167 rfl ?_
            refine ev_iload (pc := 169) dX11_read_169 rfl ?_
            refine ev_if_ne (pc := 171) (tgt := 178) dX11_read_171 (by decide) (fun zc171 => absurd rfl zc171) (fun zc171 => ?_)
            refine ev_iconst (pc := 174) (v := 1) dX11_read_174 (by decide) ?_
            refine ev_goto (pc := 175) (tgt := 179) dX11_read_175 (by decide) ?_
            refine ev_iadd (pc := 179) dX11_read_179 ?_
            refine ev_eqI (e' := nI (zi + 1)) (nI_add zi 1) ?_
            refine ev_istore (pc := 180) (L' := [some (.ref 49), some (.int (nI zk)), some (.int za), some (.int zf), some (.int (nI zc)), some (.int (nI zn)), some (.int 0), some (.int (nI (zi + 1))), some (.int (nI zi))]) dX11_read_180 (Nat.le_of_ble_eq_true rfl) rfl ?_
            refine ev_iinc (pc := 182) (v := nI (zi + 1)) (L' := [some (.ref 49), some (.int (nI zk)), some (.int za), some (.int zf), some (.int (nI zc)), some (.int (nI zn)), some (.int 0), some (.int (nI (zi + 1))), some (.int (nI (zi + 1)))]) dX11_read_182 rfl (nI_1 _) (Nat.le_of_ble_eq_true rfl) rfl ?_
            refine ev_goto (pc := 185) (tgt := 59) dX11_read_185 (by decide) ?_
            have zB : (rdB (h.2.1 73 zk) za zf.toInt zz) zi = 0 := by unfold rdB; rw [if_neg zc79, if_neg (fun z => z zc93), if_pos zy9]
            rw [rdF, if_pos zB, if_pos (bI_n0.mp zc158)] at K hp
            exact ih (zi + 1) (by omega) K hp
          · -- ne at 158: not taken
            refine ev_bipush (pc := 161) (v := (-20)) dX11_read_161 (by decide) ?_
            refine ev_iload (pc := 163) dX11_read_163 rfl ?_
            refine ev_isub (pc := 165) dX11_read_165 ?_
            refine ev_iret (pc := 166) dX11_read_166 rfl ?_ ?_
            · rfl
            · have zB : (rdB (h.2.1 73 zk) za zf.toInt zz) zi = 0 := by unfold rdB; rw [if_neg zc79, if_neg (fun z => z zc93), if_pos zy9]
              rw [rdF, if_pos zB, if_neg (bI_0.mp zc158)] at hp
              exact hp rfl
        · -- ne at 119: not taken
          refine ev_iconst (pc := 122) (v := 2) dX11_read_122 (by decide) ?_
          refine ev_goto (pc := 123) (tgt := 127) dX11_read_123 (by decide) ?_
          refine ev_istore (pc := 127) (L' := [some (.ref 49), some (.int (nI zk)), some (.int za), some (.int zf), some (.int (nI zc)), some (.int (nI zn)), some (.int 2), some (.int (nI zi)), some (.int (nI zi))]) dX11_read_127 (Nat.le_of_ble_eq_true rfl) rfl ?_
          refine ev_iload (pc := 129) dX11_read_129 rfl ?_
          refine ev_if_ne (pc := 131) (tgt := 167) dX11_read_131 (by decide) (fun zc131 => ?_) (fun zc131 => absurd zc131 (by decide))
          refine ev_iload (pc := 167) dX11_read_167 rfl ?_
          refine ev_iload (pc := 169) dX11_read_169 rfl ?_
          refine ev_if_ne (pc := 171) (tgt := 178) dX11_read_171 (by decide) (fun zc171 => ?_) (fun zc171 => absurd zc171 (by decide))
          refine ev_iconst (pc := 178) (v := 0) dX11_read_178 (by decide) ?_
          refine ev_iadd (pc := 179) dX11_read_179 ?_
          refine ev_eqI (e' := nI (zi + 0)) (nI_add zi 0) ?_
          refine ev_istore (pc := 180) (L' := [some (.ref 49), some (.int (nI zk)), some (.int za), some (.int zf), some (.int (nI zc)), some (.int (nI zn)), some (.int 2), some (.int (nI (zi + 0))), some (.int (nI zi))]) dX11_read_180 (Nat.le_of_ble_eq_true rfl) rfl ?_
          refine ev_iinc (pc := 182) (v := nI (zi + 1)) (L' := [some (.ref 49), some (.int (nI zk)), some (.int za), some (.int zf), some (.int (nI zc)), some (.int (nI zn)), some (.int 2), some (.int (nI (zi + 0))), some (.int (nI (zi + 1)))]) dX11_read_182 rfl (nI_1 _) (Nat.le_of_ble_eq_true rfl) rfl ?_
          refine ev_goto (pc := 185) (tgt := 59) dX11_read_185 (by decide) ?_
          have zB : (rdB (h.2.1 73 zk) za zf.toInt zz) zi = 2 := by unfold rdB; rw [if_neg zc79, if_neg (fun z => z zc93), if_neg (fun z => bI_0.mp zc119 ((rd_in (by omega) hz2).mpr z))]
          rw [rdF, if_neg (by rw [zB]; decide), zB] at K
          refine ev_iload (pc := 59) dX11_read_59 rfl ?_
          refine ev_iload (pc := 61) dX11_read_61 rfl ?_
          refine ev_icmp_ge (pc := 63) (tgt := 188) dX11_read_63 (by decide) (fun zc63 => ?_) (fun zc63 => ?_)
          · -- ge at 63: taken
            refine ev_less (L' := [some (.ref 49), some (.int (nI zk)), some (.int za), some (.int zf), some (.int (nI zc)), some (.int (nI zn)), some (.int 2), some (.int (nI zi)), none]) (ls_keep (ls_keep (ls_keep (ls_keep (ls_keep (ls_keep (ls_keep (ls_keep (ls_drop (ls_nil _)))))))))) ?_
            exact K rfl
          · -- ge at 63: not taken
            refine ev_iload (pc := 66) dX11_read_66 rfl ?_
            refine ev_if_ne (pc := 68) (tgt := 188) dX11_read_68 (by decide) (fun zc68 => ?_) (fun zc68 => absurd zc68 (by decide))
            refine ev_less (L' := [some (.ref 49), some (.int (nI zk)), some (.int za), some (.int zf), some (.int (nI zc)), some (.int (nI zn)), some (.int 2), some (.int (nI zi)), none]) (ls_keep (ls_keep (ls_keep (ls_keep (ls_keep (ls_keep (ls_keep (ls_keep (ls_drop (ls_nil _)))))))))) ?_
            exact K rfl
      · -- eq at 93: not taken
        refine ev_iconst (pc := 96) (v := 3) dX11_read_96 (by decide) ?_
        refine ev_goto (pc := 97) (tgt := 127) dX11_read_97 (by decide) ?_
        refine ev_istore (pc := 127) (L' := [some (.ref 49), some (.int (nI zk)), some (.int za), some (.int zf), some (.int (nI zc)), some (.int (nI zn)), some (.int 3), some (.int (nI zi)), some (.int (nI zi))]) dX11_read_127 (Nat.le_of_ble_eq_true rfl) rfl ?_
        refine ev_iload (pc := 129) dX11_read_129 rfl ?_
        refine ev_if_ne (pc := 131) (tgt := 167) dX11_read_131 (by decide) (fun zc131 => ?_) (fun zc131 => absurd zc131 (by decide))
        refine ev_iload (pc := 167) dX11_read_167 rfl ?_
        refine ev_iload (pc := 169) dX11_read_169 rfl ?_
        refine ev_if_ne (pc := 171) (tgt := 178) dX11_read_171 (by decide) (fun zc171 => ?_) (fun zc171 => absurd zc171 (by decide))
        refine ev_iconst (pc := 178) (v := 0) dX11_read_178 (by decide) ?_
        refine ev_iadd (pc := 179) dX11_read_179 ?_
        refine ev_eqI (e' := nI (zi + 0)) (nI_add zi 0) ?_
        refine ev_istore (pc := 180) (L' := [some (.ref 49), some (.int (nI zk)), some (.int za), some (.int zf), some (.int (nI zc)), some (.int (nI zn)), some (.int 3), some (.int (nI (zi + 0))), some (.int (nI zi))]) dX11_read_180 (Nat.le_of_ble_eq_true rfl) rfl ?_
        refine ev_iinc (pc := 182) (v := nI (zi + 1)) (L' := [some (.ref 49), some (.int (nI zk)), some (.int za), some (.int zf), some (.int (nI zc)), some (.int (nI zn)), some (.int 3), some (.int (nI (zi + 0))), some (.int (nI (zi + 1)))]) dX11_read_182 rfl (nI_1 _) (Nat.le_of_ble_eq_true rfl) rfl ?_
        refine ev_goto (pc := 185) (tgt := 59) dX11_read_185 (by decide) ?_
        have zB : (rdB (h.2.1 73 zk) za zf.toInt zz) zi = 3 := by unfold rdB; rw [if_neg zc79, if_pos zc93]
        rw [rdF, if_neg (by rw [zB]; decide), zB] at K
        refine ev_iload (pc := 59) dX11_read_59 rfl ?_
        refine ev_iload (pc := 61) dX11_read_61 rfl ?_
        refine ev_icmp_ge (pc := 63) (tgt := 188) dX11_read_63 (by decide) (fun zc63 => ?_) (fun zc63 => ?_)
        · -- ge at 63: taken
          refine ev_less (L' := [some (.ref 49), some (.int (nI zk)), some (.int za), some (.int zf), some (.int (nI zc)), some (.int (nI zn)), some (.int 3), some (.int (nI zi)), none]) (ls_keep (ls_keep (ls_keep (ls_keep (ls_keep (ls_keep (ls_keep (ls_keep (ls_drop (ls_nil _)))))))))) ?_
          exact K rfl
        · -- ge at 63: not taken
          refine ev_iload (pc := 66) dX11_read_66 rfl ?_
          refine ev_if_ne (pc := 68) (tgt := 188) dX11_read_68 (by decide) (fun zc68 => ?_) (fun zc68 => absurd zc68 (by decide))
          refine ev_less (L' := [some (.ref 49), some (.int (nI zk)), some (.int za), some (.int zf), some (.int (nI zc)), some (.int (nI zn)), some (.int 3), some (.int (nI zi)), none]) (ls_keep (ls_keep (ls_keep (ls_keep (ls_keep (ls_keep (ls_keep (ls_keep (ls_drop (ls_nil _)))))))))) ?_
          exact K rfl
    · -- ne at 79: not taken
      refine ev_iconst (pc := 82) (v := 1) dX11_read_82 (by decide) ?_
      refine ev_goto (pc := 83) (tgt := 127) dX11_read_83 (by decide) ?_
      refine ev_istore (pc := 127) (L' := [some (.ref 49), some (.int (nI zk)), some (.int za), some (.int zf), some (.int (nI zc)), some (.int (nI zn)), some (.int 1), some (.int (nI zi)), some (.int (nI zi))]) dX11_read_127 (Nat.le_of_ble_eq_true rfl) rfl ?_
      refine ev_iload (pc := 129) dX11_read_129 rfl ?_
      refine ev_if_ne (pc := 131) (tgt := 167) dX11_read_131 (by decide) (fun zc131 => ?_) (fun zc131 => absurd zc131 (by decide))
      refine ev_iload (pc := 167) dX11_read_167 rfl ?_
      refine ev_iload (pc := 169) dX11_read_169 rfl ?_
      refine ev_if_ne (pc := 171) (tgt := 178) dX11_read_171 (by decide) (fun zc171 => ?_) (fun zc171 => absurd zc171 (by decide))
      refine ev_iconst (pc := 178) (v := 0) dX11_read_178 (by decide) ?_
      refine ev_iadd (pc := 179) dX11_read_179 ?_
      refine ev_eqI (e' := nI (zi + 0)) (nI_add zi 0) ?_
      refine ev_istore (pc := 180) (L' := [some (.ref 49), some (.int (nI zk)), some (.int za), some (.int zf), some (.int (nI zc)), some (.int (nI zn)), some (.int 1), some (.int (nI (zi + 0))), some (.int (nI zi))]) dX11_read_180 (Nat.le_of_ble_eq_true rfl) rfl ?_
      refine ev_iinc (pc := 182) (v := nI (zi + 1)) (L' := [some (.ref 49), some (.int (nI zk)), some (.int za), some (.int zf), some (.int (nI zc)), some (.int (nI zn)), some (.int 1), some (.int (nI (zi + 0))), some (.int (nI (zi + 1)))]) dX11_read_182 rfl (nI_1 _) (Nat.le_of_ble_eq_true rfl) rfl ?_
      refine ev_goto (pc := 185) (tgt := 59) dX11_read_185 (by decide) ?_
      have zB : (rdB (h.2.1 73 zk) za zf.toInt zz) zi = 1 := if_pos zc79
      rw [rdF, if_neg (by rw [zB]; decide), zB] at K
      refine ev_iload (pc := 59) dX11_read_59 rfl ?_
      refine ev_iload (pc := 61) dX11_read_61 rfl ?_
      refine ev_icmp_ge (pc := 63) (tgt := 188) dX11_read_63 (by decide) (fun zc63 => ?_) (fun zc63 => ?_)
      · -- ge at 63: taken
        refine ev_less (L' := [some (.ref 49), some (.int (nI zk)), some (.int za), some (.int zf), some (.int (nI zc)), some (.int (nI zn)), some (.int 1), some (.int (nI zi)), none]) (ls_keep (ls_keep (ls_keep (ls_keep (ls_keep (ls_keep (ls_keep (ls_keep (ls_drop (ls_nil _)))))))))) ?_
        exact K rfl
      · -- ge at 63: not taken
        refine ev_iload (pc := 66) dX11_read_66 rfl ?_
        refine ev_if_ne (pc := 68) (tgt := 188) dX11_read_68 (by decide) (fun zc68 => ?_) (fun zc68 => absurd zc68 (by decide))
        refine ev_less (L' := [some (.ref 49), some (.int (nI zk)), some (.int za), some (.int zf), some (.int (nI zc)), some (.int (nI zn)), some (.int 1), some (.int (nI zi)), none]) (ls_keep (ls_keep (ls_keep (ls_keep (ls_keep (ls_keep (ls_keep (ls_keep (ls_drop (ls_nil _)))))))))) ?_
        exact K rfl
theorem lp_read_191 (E : ME) (h : AH) (zk zc zn zz : Nat) (za zf : Int32) (zm : Nat) (zb : Int32) (hw : WF h) (hk : zk < 4) (hcn : zc + zn ≤ 64) (hz : h.2.1 74 zk = nI zz) (hz2 : zz ≤ 64) (hm : zm ≤ zn) (hy : ∀ zj : Nat, zj < zm → 0 ≤ zf.toInt + zj ∧ zf.toInt + zj < zz) {post : PO} (K : Ev E mX11_read (rmm 1 0 0) (QM E 0 0 post) 0 0 259 [some (.ref 49), some (.int (nI zk)), some (.int za), some (.int zf), some (.int (nI zc)), some (.int (nI zn)), some (.int zb), some (.int (nI zm)), some (.int (nI zn))] [] (sL (sI h 69 (rdW (h.2.1 69) (fun zj => h.2.1 75 (64 * zk + (zf.toInt + (zj : Nat)).toNat)) zc zm zn)) 49 (vp_updL (h.2.2.1 49) 37 (rdL (h.2.2.1 49 37) zc zn)))) : ∀ n i : Nat, i + n = zn → Ev E mX11_read (rmm 1 0 0) (QM E 0 0 post) 0 0 191 [some (.ref 49), some (.int (nI zk)), some (.int za), some (.int zf), some (.int (nI zc)), some (.int (nI zn)), some (.int zb), some (.int (nI zm)), some (.int (nI i))] [] (sL (sI h 69 (rdW (h.2.1 69) (fun zj => h.2.1 75 (64 * zk + (zf.toInt + (zj : Nat)).toNat)) zc zm i)) 49 (vp_updL (h.2.2.1 49) 37 (rdL (h.2.2.1 49 37) zc i))) := by
  intro n
  induction n with
  | zero =>
    intro i hi
    obtain rfl : zn = i := by omega
    refine ev_iload (pc := 191) dX11_read_191 rfl ?_
    refine ev_iload (pc := 193) dX11_read_193 rfl ?_
    refine ev_icmp_ge (pc := 195) (tgt := 259) dX11_read_195 (by decide) (fun zc195 => ?_) (fun zc195 => absurd (nI_le (Nat.le_refl _) (by omega)) zc195)
    exact K
  | succ n ih =>
    intro i hi
    have hlt : i < zn := by omega
    refine ev_iload (pc := 191) dX11_read_191 rfl ?_
    refine ev_iload (pc := 193) dX11_read_193 rfl ?_
    refine ev_icmp_ge (pc := 195) (tgt := 259) dX11_read_195 (by decide) (fun zc195 => absurd zc195 (nI_ge hlt (by omega))) (fun zc195 => ?_)
    refine ev_aload_n (pc := 198) dX11_read_198 rfl ?_
    refine ev_getR (pc := 199) (q := 69) dX11_read_199 fX11_72 rfl (wlt (wf_sL (wf_sI hw)) (by decide)) (wr (wf_sL (wf_sI hw)) rfl) ?_
    refine ev_iload (pc := 202) dX11_read_202 rfl ?_
    refine ev_iload (pc := 204) dX11_read_204 rfl ?_
    refine ev_iadd (pc := 206) dX11_read_206 ?_
    refine ev_eqI (e' := nI (zc + i)) (nI_add zc i) ?_
    refine ev_iload (pc := 207) dX11_read_207 rfl ?_
    refine ev_iload (pc := 209) dX11_read_209 rfl ?_
    refine ev_icmp_ge (pc := 211) (tgt := 231) dX11_read_211 (by decide) (fun zc211 => ?_) (fun zc211 => ?_)
    · -- ge at 211: taken
      refine ev_iconst (pc := 231) (v := (-1)) dX11_read_231 (by decide) ?_
      refine ev_iast (pc := 232) dX11_read_232 rfl (wlt (wf_sL (wf_sI hw)) (by decide)) (vp_in_nI (by omega) (by decide)) ?_
      refine ev_eqH (h' := sL (sI h 69 (upd (rdW (h.2.1 69) (fun zj => h.2.1 75 (64 * zk + (zf.toInt + (zj : Nat)).toNat)) zc zm i) (zc + i) (-1))) 49 (vp_updL (h.2.2.1 49) 37 (rdL (h.2.2.1 49 37) zc i))) (by rw [show Int32.toNatClampNeg (nI (zc + i)) = zc + i from nI_clamp (by omega)]; exact sI_dpL _ _ _ _ _ _) ?_
      refine ev_aload_n (pc := 233) dX11_read_233 rfl ?_
      refine ev_dup (pc := 234) dX11_read_234 rfl ?_
      refine ev_getL (pc := 235) dX11_read_235 fX11_257 rfl (wlt (wf_sL (wf_sI hw)) (by decide)) ?_
      refine ev_eqJ (e' := rdL (h.2.2.1 49 37) zc i) (by rfl) ?_
      refine ev_lconst (pc := 238) (v := 1) dX11_read_238 (by decide) ?_
      refine ev_iload (pc := 239) dX11_read_239 rfl ?_
      refine ev_iload (pc := 241) dX11_read_241 rfl ?_
      refine ev_iadd (pc := 243) dX11_read_243 ?_
      refine ev_eqI (e' := nI (zc + i)) (nI_add zc i) ?_
      refine ev_lshl (pc := 244) dX11_read_244 ?_
      refine ev_ldc2 (pc := 245) (v := (-1)) dX11_read_245 kcX11_220 ?_
      refine ev_lxor (pc := 248) dX11_read_248 ?_
      refine ev_land (pc := 249) dX11_read_249 ?_
      refine ev_putL (pc := 250) dX11_read_250 fX11_257 rfl (wlt (wf_sL (wf_sI hw)) (by decide)) ?_
      refine ev_eqH (h' := sL (sI h 69 (upd (rdW (h.2.1 69) (fun zj => h.2.1 75 (64 * zk + (zf.toInt + (zj : Nat)).toNat)) zc zm i) (zc + i) (-1))) 49 (vp_updL (h.2.2.1 49) 37 ((rdL (h.2.2.1 49 37) zc i) &&& ((1 <<< (Int32.toInt64 (nI (zc + i)) &&& 63)) ^^^ (-1))))) (by refine (sL_sL _ _ _ _).trans ?_; refine congrArg _ (funext fun zj => ?_); simp only [upd, vp_updL, sL_at]; (repeat' split) <;> first | rfl | (exfalso; omega)) ?_
      refine ev_iinc (pc := 253) (v := nI (i + 1)) (L' := [some (.ref 49), some (.int (nI zk)), some (.int za), some (.int zf), some (.int (nI zc)), some (.int (nI zn)), some (.int zb), some (.int (nI zm)), some (.int (nI (i + 1)))]) dX11_read_253 rfl (nI_1 _) (Nat.le_of_ble_eq_true rfl) rfl ?_
      refine ev_goto (pc := 256) (tgt := 191) dX11_read_256 (by decide) ?_
      refine ev_eqH (h' := sL (sI h 69 (rdW (h.2.1 69) (fun zj => h.2.1 75 (64 * zk + (zf.toInt + (zj : Nat)).toNat)) zc zm (i + 1))) 49 (vp_updL (h.2.2.1 49) 37 (rdL (h.2.2.1 49 37) zc (i + 1)))) (by rw [rdW, rdL, if_neg (fun z => absurd ((nI_leI (by omega) (by omega)).mp zc211) (by omega))]) ?_
      exact ih (i + 1) (by omega)
    · -- ge at 211: not taken
      have zy9 := hy i (Nat.not_le.mp (fun z => zc211 ((nI_leI (by omega) (by omega)).mpr z)))
      refine ev_aload_n (pc := 214) dX11_read_214 rfl ?_
      refine ev_getR (pc := 215) (q := 75) dX11_read_215 fX11_90 rfl (wlt (wf_sL (wf_sI hw)) (by decide)) (wr (wf_sL (wf_sI hw)) rfl) ?_
      refine ev_bipush (pc := 218) (v := 64) dX11_read_218 (by decide) ?_
      refine ev_iload_n (pc := 220) dX11_read_220 rfl ?_
      refine ev_imul (pc := 221) dX11_read_221 ?_
      refine ev_eqI (e' := nI (64 * zk)) (pk_mul 64 zk) ?_
      refine ev_iload_n (pc := 222) dX11_read_222 rfl ?_
      refine ev_iadd (pc := 223) dX11_read_223 ?_
      refine ev_iload (pc := 224) dX11_read_224 rfl ?_
      refine ev_iadd (pc := 226) dX11_read_226 ?_
      refine ev_eqI (e' := nI (64 * zk + (zf.toInt + (i : Nat)).toNat)) (rd_ix hk (by omega) hz2 zy9) ?_
      refine ev_iald (pc := 227) dX11_read_227 rfl (wlt (wf_sL (wf_sI hw)) (by decide)) (vp_in_nI (by omega) (by decide)) ?_
      refine ev_eqI (e' := h.2.1 75 (64 * zk + (zf.toInt + (i : Nat)).toNat)) (by rw [show Int32.toNatClampNeg (nI (64 * zk + (zf.toInt + (i : Nat)).toNat)) = 64 * zk + (zf.toInt + (i : Nat)).toNat from nI_clamp (by omega)] <;> rfl) ?_
      refine ev_goto (pc := 228) (tgt := 232) dX11_read_228 (by decide) ?_
      refine ev_iast (pc := 232) dX11_read_232 rfl (wlt (wf_sL (wf_sI hw)) (by decide)) (vp_in_nI (by omega) (by decide)) ?_
      refine ev_eqH (h' := sL (sI h 69 (upd (rdW (h.2.1 69) (fun zj => h.2.1 75 (64 * zk + (zf.toInt + (zj : Nat)).toNat)) zc zm i) (zc + i) (h.2.1 75 (64 * zk + (zf.toInt + (i : Nat)).toNat)))) 49 (vp_updL (h.2.2.1 49) 37 (rdL (h.2.2.1 49 37) zc i))) (by rw [show Int32.toNatClampNeg (nI (zc + i)) = zc + i from nI_clamp (by omega)]; exact sI_dpL _ _ _ _ _ _) ?_
      refine ev_aload_n (pc := 233) dX11_read_233 rfl ?_
      refine ev_dup (pc := 234) dX11_read_234 rfl ?_
      refine ev_getL (pc := 235) dX11_read_235 fX11_257 rfl (wlt (wf_sL (wf_sI hw)) (by decide)) ?_
      refine ev_eqJ (e' := rdL (h.2.2.1 49 37) zc i) (by rfl) ?_
      refine ev_lconst (pc := 238) (v := 1) dX11_read_238 (by decide) ?_
      refine ev_iload (pc := 239) dX11_read_239 rfl ?_
      refine ev_iload (pc := 241) dX11_read_241 rfl ?_
      refine ev_iadd (pc := 243) dX11_read_243 ?_
      refine ev_eqI (e' := nI (zc + i)) (nI_add zc i) ?_
      refine ev_lshl (pc := 244) dX11_read_244 ?_
      refine ev_ldc2 (pc := 245) (v := (-1)) dX11_read_245 kcX11_220 ?_
      refine ev_lxor (pc := 248) dX11_read_248 ?_
      refine ev_land (pc := 249) dX11_read_249 ?_
      refine ev_putL (pc := 250) dX11_read_250 fX11_257 rfl (wlt (wf_sL (wf_sI hw)) (by decide)) ?_
      refine ev_eqH (h' := sL (sI h 69 (upd (rdW (h.2.1 69) (fun zj => h.2.1 75 (64 * zk + (zf.toInt + (zj : Nat)).toNat)) zc zm i) (zc + i) (h.2.1 75 (64 * zk + (zf.toInt + (i : Nat)).toNat)))) 49 (vp_updL (h.2.2.1 49) 37 ((rdL (h.2.2.1 49 37) zc i) &&& ((1 <<< (Int32.toInt64 (nI (zc + i)) &&& 63)) ^^^ (-1))))) (by refine (sL_sL _ _ _ _).trans ?_; refine congrArg _ (funext fun zj => ?_); simp only [upd, vp_updL, sL_at]; (repeat' split) <;> first | rfl | (exfalso; omega)) ?_
      refine ev_iinc (pc := 253) (v := nI (i + 1)) (L' := [some (.ref 49), some (.int (nI zk)), some (.int za), some (.int zf), some (.int (nI zc)), some (.int (nI zn)), some (.int zb), some (.int (nI zm)), some (.int (nI (i + 1)))]) dX11_read_253 rfl (nI_1 _) (Nat.le_of_ble_eq_true rfl) rfl ?_
      refine ev_goto (pc := 256) (tgt := 191) dX11_read_256 (by decide) ?_
      refine ev_eqH (h' := sL (sI h 69 (rdW (h.2.1 69) (fun zj => h.2.1 75 (64 * zk + (zf.toInt + (zj : Nat)).toNat)) zc zm (i + 1))) 49 (vp_updL (h.2.2.1 49) 37 (rdL (h.2.2.1 49 37) zc (i + 1)))) (by rw [rdW, rdL, if_pos (Nat.not_le.mp (fun z => zc211 ((nI_leI (by omega) (by omega)).mpr z)))]) ?_
      exact ih (i + 1) (by omega)
theorem rd_sum {zc zn : Nat} (hc : zc < 2 ^ 31) (hn : zn < 2 ^ 31) : lg_cmp (Int32.toInt64 (nI zc) + Int32.toInt64 (nI zn)) 64 ≤ 0 ↔ zc + zn ≤ 64 := by
  rw [lc_le, nI_l hc, nI_l hn, lN_add]
  exact pk_lLE (a := zc + zn) (b := 64) (by omega) (by decide)
theorem rd_id (h : AH) (zk zj : Nat) : sL h zk (vp_updL (h.2.2.1 zk) zj (h.2.2.1 zk zj)) = h := by
  have e : vp_updL (h.2.2.1 zk) zj (h.2.2.1 zk zj) = h.2.2.1 zk := by
    funext zq
    unfold vp_updL
    split
    · rename_i e; rw [e]
    · rfl
  rw [e]
  unfold sL
  refine Prod.ext rfl (Prod.ext rfl (Prod.ext (funext fun q => ?_) rfl))
  dsimp only
  split
  · rename_i e; rw [e]
  · rfl
theorem cn_X11_read (E : ME) (h : AH) (zk0 za zf zc0 zn0 : Int32) (hw : WF h) (hsz : ∀ zj : Nat, zj < 4 → ∃ zl : Nat, zl ≤ 64 ∧ h.2.1 74 zj = nI zl) : Con E mX11_read 1 0 0 [.ref 49, .int zk0, .int za, .int zf, .int zc0, .int zn0] h (fun r h' => r = some (.int (if (0 ≤ zk0 ∧ zk0 ≤ 3) ∧ (0 ≤ za ∧ za ≤ 2) ∧ ¬ zn0 < 0 ∧ ¬ zc0 < 0 ∧ zc0.toInt + zn0.toInt ≤ 64 then (if (rdF (rdB (h.2.1 73 (zk0).toNatClampNeg) za zf.toInt (h.2.1 74 (zk0).toNatClampNeg).toNatClampNeg) (fun zj => h.2.1 75 (64 * (zk0).toNatClampNeg + (zf.toInt + (zj : Nat)).toNat)) (zn0).toNatClampNeg 0).2.2 then (rdF (rdB (h.2.1 73 (zk0).toNatClampNeg) za zf.toInt (h.2.1 74 (zk0).toNatClampNeg).toNatClampNeg) (fun zj => h.2.1 75 (64 * (zk0).toNatClampNeg + (zf.toInt + (zj : Nat)).toNat)) (zn0).toNatClampNeg 0).1 else nI (rdF (rdB (h.2.1 73 (zk0).toNatClampNeg) za zf.toInt (h.2.1 74 (zk0).toNatClampNeg).toNatClampNeg) (fun zj => h.2.1 75 (64 * (zk0).toNatClampNeg + (zf.toInt + (zj : Nat)).toNat)) (zn0).toNatClampNeg 0).2.1) else -1)) ∧ h' = if ((0 ≤ zk0 ∧ zk0 ≤ 3) ∧ (0 ≤ za ∧ za ≤ 2) ∧ ¬ zn0 < 0 ∧ ¬ zc0 < 0 ∧ zc0.toInt + zn0.toInt ≤ 64) ∧ (rdF (rdB (h.2.1 73 (zk0).toNatClampNeg) za zf.toInt (h.2.1 74 (zk0).toNatClampNeg).toNatClampNeg) (fun zj => h.2.1 75 (64 * (zk0).toNatClampNeg + (zf.toInt + (zj : Nat)).toNat)) (zn0).toNatClampNeg 0).2.2 = false then sI (sL (sI h 69 (rdW (h.2.1 69) (fun zj => h.2.1 75 (64 * (zk0).toNatClampNeg + (zf.toInt + (zj : Nat)).toNat)) (zc0).toNatClampNeg (rdF (rdB (h.2.1 73 (zk0).toNatClampNeg) za zf.toInt (h.2.1 74 (zk0).toNatClampNeg).toNatClampNeg) (fun zj => h.2.1 75 (64 * (zk0).toNatClampNeg + (zf.toInt + (zj : Nat)).toNat)) (zn0).toNatClampNeg 0).2.1 (zn0).toNatClampNeg)) 49 (vp_updL (h.2.2.1 49) 37 (rdL (h.2.2.1 49 37) (zc0).toNatClampNeg (zn0).toNatClampNeg))) 49 (upd (h.2.1 49) 48 (rdF (rdB (h.2.1 73 (zk0).toNatClampNeg) za zf.toInt (h.2.1 74 (zk0).toNatClampNeg).toNatClampNeg) (fun zj => h.2.1 75 (64 * (zk0).toNatClampNeg + (zf.toInt + (zj : Nat)).toNat)) (zn0).toNatClampNeg 0).1) else h) := by
  refine con_of2 (L := [some (.ref 49), some (.int zk0), some (.int za), some (.int zf), some (.int zc0), some (.int zn0), none, none, none]) rfl (Nat.le_of_ble_eq_true rfl) rfl ?_
  refine ev_iload_n (pc := 0) dX11_read_0 rfl ?_
  refine ev_i2l (pc := 1) dX11_read_1 ?_
  refine ev_lconst (pc := 2) (v := 0) dX11_read_2 (by decide) ?_
  refine ev_ldc2 (pc := 3) (v := 3) dX11_read_3 kcX11_197 ?_
  refine ev_callSv (S := []) (pc := 6) dX11_read_6 kX11_in lX11_96 sX11_in (cn_X11_inC E h zk0 0 3 _ _ _ rfl (by decide) (by decide)) rfl rfl (Nat.le_of_ble_eq_true rfl) ⟨Nat.le_of_ble_eq_true rfl, Nat.le_of_ble_eq_true rfl⟩ ⟨Nat.le_of_ble_eq_true rfl, Nat.le_of_ble_eq_true rfl⟩ ?_
  refine ev_if_eq (pc := 9) (tgt := 48) dX11_read_9 (by decide) (fun zc9 => ?_) (fun zc9 => ?_)
  · -- eq at 9: taken
    refine ev_iconst (pc := 48) (v := (-1)) dX11_read_48 (by decide) ?_
    refine ev_iret (pc := 49) dX11_read_49 rfl ?_ ?_
    · rfl
    · have hC : ¬ ((0 ≤ zk0 ∧ zk0 ≤ 3) ∧ (0 ≤ za ∧ za ≤ 2) ∧ ¬ zn0 < 0 ∧ ¬ zc0 < 0 ∧ zc0.toInt + zn0.toInt ≤ 64) := fun q => bI_0.mp zc9 q.1
      rw [if_neg hC, if_neg (fun q => hC q.1)]
      exact ⟨rfl, rfl⟩
  · -- eq at 9: not taken
    refine ev_iload_n (pc := 12) dX11_read_12 rfl ?_
    refine ev_i2l (pc := 13) dX11_read_13 ?_
    refine ev_lconst (pc := 14) (v := 0) dX11_read_14 (by decide) ?_
    refine ev_ldc2 (pc := 15) (v := 2) dX11_read_15 kcX11_245 ?_
    refine ev_callSv (S := []) (pc := 18) dX11_read_18 kX11_in lX11_96 sX11_in (cn_X11_inC E h za 0 2 _ _ _ rfl (by decide) (by decide)) rfl rfl (Nat.le_of_ble_eq_true rfl) ⟨Nat.le_of_ble_eq_true rfl, Nat.le_of_ble_eq_true rfl⟩ ⟨Nat.le_of_ble_eq_true rfl, Nat.le_of_ble_eq_true rfl⟩ ?_
    refine ev_if_eq (pc := 21) (tgt := 48) dX11_read_21 (by decide) (fun zc21 => ?_) (fun zc21 => ?_)
    · -- eq at 21: taken
      refine ev_iconst (pc := 48) (v := (-1)) dX11_read_48 (by decide) ?_
      refine ev_iret (pc := 49) dX11_read_49 rfl ?_ ?_
      · rfl
      · have hC : ¬ ((0 ≤ zk0 ∧ zk0 ≤ 3) ∧ (0 ≤ za ∧ za ≤ 2) ∧ ¬ zn0 < 0 ∧ ¬ zc0 < 0 ∧ zc0.toInt + zn0.toInt ≤ 64) := fun q => bI_0.mp zc21 q.2.1
        rw [if_neg hC, if_neg (fun q => hC q.1)]
        exact ⟨rfl, rfl⟩
    · -- eq at 21: not taken
      refine ev_iload (pc := 24) dX11_read_24 rfl ?_
      refine ev_if_lt (pc := 26) (tgt := 48) dX11_read_26 (by decide) (fun zc26 => ?_) (fun zc26 => ?_)
      · -- lt at 26: taken
        refine ev_iconst (pc := 48) (v := (-1)) dX11_read_48 (by decide) ?_
        refine ev_iret (pc := 49) dX11_read_49 rfl ?_ ?_
        · rfl
        · have hC : ¬ ((0 ≤ zk0 ∧ zk0 ≤ 3) ∧ (0 ≤ za ∧ za ≤ 2) ∧ ¬ zn0 < 0 ∧ ¬ zc0 < 0 ∧ zc0.toInt + zn0.toInt ≤ 64) := fun q => q.2.2.1 zc26
          rw [if_neg hC, if_neg (fun q => hC q.1)]
          exact ⟨rfl, rfl⟩
      · -- lt at 26: not taken
        refine ev_iload (pc := 29) dX11_read_29 rfl ?_
        refine ev_if_lt (pc := 31) (tgt := 48) dX11_read_31 (by decide) (fun zc31 => ?_) (fun zc31 => ?_)
        · -- lt at 31: taken
          refine ev_iconst (pc := 48) (v := (-1)) dX11_read_48 (by decide) ?_
          refine ev_iret (pc := 49) dX11_read_49 rfl ?_ ?_
          · rfl
          · have hC : ¬ ((0 ≤ zk0 ∧ zk0 ≤ 3) ∧ (0 ≤ za ∧ za ≤ 2) ∧ ¬ zn0 < 0 ∧ ¬ zc0 < 0 ∧ zc0.toInt + zn0.toInt ≤ 64) := fun q => q.2.2.2.1 zc31
            rw [if_neg hC, if_neg (fun q => hC q.1)]
            exact ⟨rfl, rfl⟩
        · -- lt at 31: not taken
          refine ev_iload (pc := 34) dX11_read_34 rfl ?_
          refine ev_i2l (pc := 36) dX11_read_36 ?_
          refine ev_iload (pc := 37) dX11_read_37 rfl ?_
          refine ev_i2l (pc := 39) dX11_read_39 ?_
          refine ev_ladd (pc := 40) dX11_read_40 ?_
          refine ev_ldc2 (pc := 41) (v := 64) dX11_read_41 kcX11_298 ?_
          refine ev_lcmp (pc := 44) dX11_read_44 ?_
          refine ev_if_le (pc := 45) (tgt := 50) dX11_read_45 (by decide) (fun zc45 => ?_) (fun zc45 => ?_)
          · -- le at 45: taken
            obtain ⟨zk, hk, rfl⟩ := vp_in_of (vp_sm (N := 4) (bI_n0.mp zc9).1 (bI_n0.mp zc9).2 (by decide) (by decide)) (by decide)
            obtain ⟨zn, hn9, rfl⟩ := nI_of zc26
            obtain ⟨zc, hc9, rfl⟩ := nI_of zc31
            have hcn : zc + zn ≤ 64 := (rd_sum hc9 hn9).mp zc45
            obtain ⟨zz, hz2, hz⟩ := hsz zk hk
            have hG : (0 ≤ (nI zk) ∧ (nI zk) ≤ 3) ∧ (0 ≤ za ∧ za ≤ 2) ∧ ¬ (nI zn) < 0 ∧ ¬ (nI zc) < 0 ∧ (nI zc).toInt + (nI zn).toInt ≤ 64 := ⟨bI_n0.mp zc9, bI_n0.mp zc21, zc26, zc31, by rw [nI_toInt hc9, nI_toInt hn9]; omega⟩
            simp only [if_pos hG, nI_clamp (n := zk) (show zk < 2 ^ 31 by omega), nI_clamp hn9, nI_clamp hc9, hz, nI_clamp (n := zz) (show zz < 2 ^ 31 by omega), hG, true_and]
            refine ev_iconst (pc := 50) (v := 0) dX11_read_50 (by decide) ?_
            refine ev_istore (pc := 51) (L' := [some (.ref 49), some (.int (nI zk)), some (.int za), some (.int zf), some (.int (nI zc)), some (.int (nI zn)), some (.int 0), none, none]) dX11_read_51 (Nat.le_of_ble_eq_true rfl) rfl ?_
            refine ev_iconst (pc := 53) (v := 0) dX11_read_53 (by decide) ?_
            refine ev_istore (pc := 54) (L' := [some (.ref 49), some (.int (nI zk)), some (.int za), some (.int zf), some (.int (nI zc)), some (.int (nI zn)), some (.int 0), some (.int 0), none]) dX11_read_54 (Nat.le_of_ble_eq_true rfl) rfl ?_
            refine ev_iconst (pc := 56) (v := 0) dX11_read_56 (by decide) ?_
            refine ev_istore (pc := 57) (L' := [some (.ref 49), some (.int (nI zk)), some (.int za), some (.int zf), some (.int (nI zc)), some (.int (nI zn)), some (.int 0), some (.int 0), some (.int 0)]) dX11_read_57 (Nat.le_of_ble_eq_true rfl) rfl ?_
            refine lp_read_59 E h zk zc zn zz za zf hw hk hcn hz hz2 zn 0 (Nat.zero_add _) (fun zE => ?_) (fun zE => by simp [zE])
            refine ev_iconst (pc := 188) (v := 0) dX11_read_188 (by decide) ?_
            refine ev_istore (pc := 189) (L' := [some (.ref 49), some (.int (nI zk)), some (.int za), some (.int zf), some (.int (nI zc)), some (.int (nI zn)), some (.int ((rdF (rdB (h.2.1 73 zk) za zf.toInt zz) (fun zj => h.2.1 75 (64 * zk + (zf.toInt + (zj : Nat)).toNat)) zn 0).1)), some (.int (nI (rdF (rdB (h.2.1 73 zk) za zf.toInt zz) (fun zj => h.2.1 75 (64 * zk + (zf.toInt + (zj : Nat)).toNat)) zn 0).2.1)), some (.int 0)]) dX11_read_189 (Nat.le_of_ble_eq_true rfl) rfl ?_
            have zok := rd_ok (zb := (rdB (h.2.1 73 zk) za zf.toInt zz)) (zg := (fun zj => h.2.1 75 (64 * zk + (zf.toInt + (zj : Nat)).toNat))) zn 0
            refine ev_eqH (h' := sL (sI h 69 (rdW (h.2.1 69) (fun zj => h.2.1 75 (64 * zk + (zf.toInt + (zj : Nat)).toNat)) zc (rdF (rdB (h.2.1 73 zk) za zf.toInt zz) (fun zj => h.2.1 75 (64 * zk + (zf.toInt + (zj : Nat)).toNat)) zn 0).2.1 0)) 49 (vp_updL (h.2.2.1 49) 37 (rdL (h.2.2.1 49 37) zc 0))) (by rw [rdW, rdL, sI_id, rd_id]) ?_
            refine lp_read_191 E h zk zc zn zz za zf (rdF (rdB (h.2.1 73 zk) za zf.toInt zz) (fun zj => h.2.1 75 (64 * zk + (zf.toInt + (zj : Nat)).toNat)) zn 0).2.1 (rdF (rdB (h.2.1 73 zk) za zf.toInt zz) (fun zj => h.2.1 75 (64 * zk + (zf.toInt + (zj : Nat)).toNat)) zn 0).1 hw hk hcn hz hz2 (by omega) (fun zj hj => (rdB_0 (zok.2.2 zj (Nat.zero_le _) hj).1).2.2) ?_ zn 0 (Nat.zero_add _)
            refine ev_aload_n (pc := 259) dX11_read_259 rfl ?_
            refine ev_iload (pc := 260) dX11_read_260 rfl ?_
            refine ev_putI (pc := 262) dX11_read_262 fX11_341 rfl (wlt (wf_sL (wf_sI hw)) (by decide)) ?_
            refine ev_eqH (h' := sI (sL (sI h 69 (rdW (h.2.1 69) (fun zj => h.2.1 75 (64 * zk + (zf.toInt + (zj : Nat)).toNat)) zc (rdF (rdB (h.2.1 73 zk) za zf.toInt zz) (fun zj => h.2.1 75 (64 * zk + (zf.toInt + (zj : Nat)).toNat)) zn 0).2.1 zn)) 49 (vp_updL (h.2.2.1 49) 37 (rdL (h.2.2.1 49 37) zc zn))) 49 (upd (h.2.1 49) 48 ((rdF (rdB (h.2.1 73 zk) za zf.toInt zz) (fun zj => h.2.1 75 (64 * zk + (zf.toInt + (zj : Nat)).toNat)) zn 0).1))) (by rfl) ?_
            refine ev_iload (pc := 265) dX11_read_265 rfl ?_
            refine ev_iret (pc := 267) dX11_read_267 rfl ?_ ?_
            · rfl
            · rw [zE]
              exact ⟨rfl, rfl⟩
          · -- le at 45: not taken
            refine ev_iconst (pc := 48) (v := (-1)) dX11_read_48 (by decide) ?_
            refine ev_iret (pc := 49) dX11_read_49 rfl ?_ ?_
            · rfl
            · obtain ⟨zn, hn9, rfl⟩ := nI_of zc26
              obtain ⟨zc, hc9, rfl⟩ := nI_of zc31
              have hC : ¬ ((0 ≤ zk0 ∧ zk0 ≤ 3) ∧ (0 ≤ za ∧ za ≤ 2) ∧ ¬ (nI zn) < 0 ∧ ¬ (nI zc) < 0 ∧ (nI zc).toInt + (nI zn).toInt ≤ 64) := fun q => zc45 ((rd_sum hc9 hn9).mpr (by have q9 := q.2.2.2.2; rw [nI_toInt hc9, nI_toInt hn9] at q9; omega))
              rw [if_neg hC, if_neg (fun q => hC q.1)]
              exact ⟨rfl, rfl⟩
