def PRz (zt : PSt) (zc : Nat) (h : AH) : Prop := ArZ zt h ∧ h.2.1 59 (zt.1 1) = 0 ∧ h.2.1 60 (zt.1 1) = 0 ∧ h.2.1 61 (zt.1 1) = nI zc ∧ h.2.1 62 (zt.1 1) = 0
theorem scE_P {zt : PSt} {zc : Nat} {h g : AH} (hs : scE h g) (hA : PRz zt zc h) : PRz zt zc g := by
  refine ⟨scE_A hs hA.1, ?_⟩
  rw [hs.2.2.1 59 (by decide), hs.2.2.1 60 (by decide), hs.2.2.1 61 (by decide), hs.2.2.1 62 (by decide)]
  exact hA.2
theorem PR_61 {zt : PSt} {zc zd : Nat} {h : AH} (hA : PRz zt zc h) : PRz zt zd (sI h 61 (upd (h.2.1 61) (zt.1 1) (nI zd))) := by
  refine ⟨⟨fun zk hk => ?_, hA.1.2.1, hA.1.2.2⟩, hA.2.1, hA.2.2.1, ?_, hA.2.2.2.2⟩
  · have h1 := hA.1.1 zk hk
    refine ⟨h1.1, h1.2.1, ?_, h1.2.2.2⟩
    show upd (h.2.1 61) (zt.1 1) (nI zd) zk = _
    rw [pk_un (by omega)]
    exact h1.2.2.1
  · show upd (h.2.1 61) (zt.1 1) (nI zd) (zt.1 1) = _
    exact pk_us
theorem fn_3 {zb : Nat → Nat} {zn zp zl zm : Nat} (h : tK zb zn zp = 3) (h2 : ¬ fnK zb zn zp zl zm = 0) : fnK zb zn zp zl zm = 3 := by
  unfold fnK at *
  rw [if_pos h] at *
  by_cases h3 : zl ≤ tV zb zn zp ∧ tV zb zn zp < zm
  · rw [if_pos h3] at h2; exact absurd rfl h2
  · rw [if_neg h3]
theorem pt_ct {zc zv zm : Nat} (hv : zv < zm) (hb : zc.testBit zv = false) : fb_ct (zc ||| 2 ^ zv).testBit zm = fb_ct zc.testBit zm + 1 := by
  have h1 := fb_ct_upd zc.testBit true hv
  rw [hb] at h1
  have h2 : fb_ct (zc ||| 2 ^ zv).testBit zm = fb_ct (fun zk => if zk = zv then true else zc.testBit zk) zm := fb_ct_cong (fun zk _ => by
    rw [fb_bit_set]
    by_cases e : zk = zv
    · rw [if_pos e, decide_eq_true e, Bool.or_true]
    · rw [if_neg e, decide_eq_false e, Bool.or_false])
  rw [h2]
  simpa using h1
theorem pt_w {zb : Nat → Nat} {zn zm zf zc zp : Nat} (hf : 0 < zf) (h : tK zb zn zp = 0) : ptF zb zn zm zf zc zp = ((wrK zb zn zp, tS zb zn zp), zp, zc) := by
  obtain ⟨zq, rfl⟩ : ∃ zq, zf = zq + 1 := ⟨zf - 1, by omega⟩
  rw [ptF, if_neg (by omega)]
theorem lp_patch (E : ME) (h : AH) (zb : Nat → Nat) (zn zs zq : Nat) (zt : PSt) (hO : POK zt) (hm : zt.1 1 < 12) : ∀ (zf zc zp : Nat) (zg : AH), WF zg → TMz zg zb zn → LAz zb zn zp zg → ¬ tK zb zn zp = 0 → zp ≤ zn → ScZ zt zg → FrM h zg → PRz zt zc zg → fb_ct zc.testBit (zt.1 1) + zf = 13 → ptF zb zn (zt.1 1) zf zc zp = ptF zb zn (zt.1 1) 13 0 zq → Ev E mX11_readThing (rmm 2 0 0) (QM E 0 0 (fun r h' => r = none ∧ RBz zb zn (patB zb zn zs zq zt) h h')) 0 0 123 [some (.ref 49), some (.int 0), some (.int (nI (zt.1 1))), none, none] [] zg := by
  intro zf
  induction zf with
  | zero =>
    intro zc zp zg hw hT hL hk0 hp hv hF hP hc
    exfalso
    have z1 := fb_ct_le zc.testBit (zt.1 1)
    omega
  | succ zf ih =>
    intro zc zp zg hw hT hL hk0 hp hv hF hP hc hE
    have zn4 := hT.2.1
    have zct := fb_ct_le zc.testBit (zt.1 1)
    refine ev_iload_n (pc := 123) dX11_readThing_123 rfl ?_
    refine ev_if_ne (pc := 124) (tgt := 210) dX11_readThing_124 (by decide) (fun zc124 => absurd rfl zc124) (fun zc124 => ?_)
    refine ev_aload_n (pc := 127) dX11_readThing_127 rfl ?_
    refine ev_getI (pc := 128) dX11_readThing_128 fX11_100 rfl (wlt hw (by decide)) ?_
    refine ev_if_ne (pc := 131) (tgt := 210) dX11_readThing_131 (by decide) (fun zc131 => absurd (LA_w hL hk0) zc131) (fun zc131 => ?_)
    refine ev_aload_n (pc := 134) dX11_readThing_134 rfl ?_
    refine ev_getI (pc := 135) dX11_readThing_135 fX11_119 rfl (wlt hw (by decide)) ?_
    refine ev_iconst (pc := 138) (v := 2) dX11_readThing_138 (by decide) ?_
    refine ev_icmp_ne (pc := 139) (tgt := 210) dX11_readThing_139 (by decide) (fun zc139 => ?_) (fun zc139 => ?_)
    · -- ne at 139: taken
      refine ev_aload_n (pc := 210) dX11_readThing_210 rfl ?_
      refine ev_dup (pc := 211) dX11_readThing_211 rfl ?_
      refine ev_getI (pc := 212) dX11_readThing_212 fX11_134 rfl (wlt hw (by decide)) ?_
      refine ev_eqI (e' := nI (zt.1 1)) hv.1 ?_
      refine ev_aload_n (pc := 215) dX11_readThing_215 rfl ?_
      refine ev_getI (pc := 216) dX11_readThing_216 fX11_100 rfl (wlt hw (by decide)) ?_
      refine ev_if_ne (pc := 219) (tgt := 226) dX11_readThing_219 (by decide) (fun zc219 => absurd (LA_w hL hk0) zc219) (fun zc219 => ?_)
      refine ev_iconst (pc := 222) (v := 1) dX11_readThing_222 (by decide) ?_
      refine ev_goto (pc := 223) (tgt := 227) dX11_readThing_223 (by decide) ?_
      refine ev_iadd (pc := 227) dX11_readThing_227 ?_
      refine ev_eqI (e' := nI ((zt.1 1) + 1)) (nI_add (zt.1 1) 1) ?_
      refine ev_putI (pc := 228) dX11_readThing_228 fX11_134 rfl (wlt hw (by decide)) ?_
      refine ev_eqH (h' := sI zg 49 (upd (zg.2.1 49) 24 (nI ((zt.1 1) + 1)))) (by rfl) ?_
      refine ev_ret (pc := 231) dX11_readThing_231 rfl ?_
      · have zE : ptF zb zn (zt.1 1) (zf + 1) zc zp = ((wrK zb zn zp, tS zb zn zp), zp, zc) := by rw [ptF, if_neg (fun z => zc139 ((LA_3 (zk := 2) hL hk0 (by decide)).mpr z))]
        rw [zE] at hE
        have hB : (patB zb zn zs zq zt).1.1 = 0 := by
          unfold patB
          exact (congrArg Prod.fst (ck_0 (by exact (if_neg (by omega))))).trans (by rw [← hE]; exact wr_0 hk0)
        have hB1 : (patB zb zn zs zq zt).2.1 = zp := by unfold patB; rw [← hE]
        refine ⟨rfl, RB_ok (FrM_49 hF (fun zj hj => by simp only [upd]; (repeat' split) <;> first | rfl | (exfalso; unfold pFz at hj; omega))) hB ⟨⟨⟨rfl, hv.2.1, hv.2.2.1, hv.2.2.2.1, hv.2.2.2.2⟩, ?_⟩, by rw [hB1]; exact hL, by rw [hB1]; exact hk0⟩⟩
        refine ⟨fun zk hk => ?_, hP.1.2.1, hP.1.2.2⟩
        have hk' : zk < zt.1 1 + 1 := hk
        show zg.2.1 59 zk = nI _ ∧ zg.2.1 60 zk = nI _ ∧ zg.2.1 61 zk = nI _ ∧ zg.2.1 62 zk = nI _
        unfold patB
        rw [← hE]
        by_cases e : zk = zt.1 1
        · subst e
          rw [hP.2.1, hP.2.2.1, hP.2.2.2.1, hP.2.2.2.2]
          simp [upM, upN, nI_0]
        · have h9 := hP.1.1 zk (by omega)
          simp [upM, upN, e, h9]
    · -- ne at 139: not taken
      have z3 := (LA_3 (zk := 2) hL hk0 (by decide)).mp zc139
      refine ev_aload_n (pc := 142) dX11_readThing_142 rfl ?_
      refine ev_iconst (pc := 143) (v := 0) dX11_readThing_143 (by decide) ?_
      refine ev_aload_n (pc := 144) dX11_readThing_144 rfl ?_
      refine ev_getI (pc := 145) dX11_readThing_145 fX11_134 rfl (wlt hw (by decide)) ?_
      refine ev_eqI (e' := nI (zt.1 1)) hv.1 ?_
      refine ev_iconst (pc := 148) (v := 1) dX11_readThing_148 (by decide) ?_
      refine ev_isub (pc := 149) dX11_readThing_149 ?_
      by_cases zf1 : fnK zb zn zp 0 (zt.1 1) = 0
      · refine ev_callVv (S := []) (pc := 150) dX11_readThing_150 kX11_number lX11_140 vX11_number (cn_numOK E zg zb zn zp 0 (zt.1 1) ((nI (zt.1 1)) - 1) hw hL (hk0) hp rfl (by decide) (by have := hO.1; omega) zf1) rfl rfl (wlt hw (by decide)) rfl rfl (Nat.le_of_ble_eq_true rfl) ⟨Nat.le_of_ble_eq_true rfl, Nat.le_of_ble_eq_true rfl⟩ ⟨Nat.le_of_ble_eq_true rfl, Nat.le_of_ble_eq_true rfl⟩ ?_
        refine ev_istore_n (pc := 153) (L' := [some (.ref 49), some (.int 0), some (.int (nI (zt.1 1))), some (.int (nI (tV zb zn zp))), none]) dX11_readThing_153 (Nat.le_of_ble_eq_true rfl) rfl ?_
        refine ev_aload_n (pc := 154) dX11_readThing_154 rfl ?_
        refine ev_getI (pc := 155) dX11_readThing_155 fX11_100 rfl (wlt hw (by decide)) ?_
        refine ev_if_ne (pc := 158) (tgt := 180) dX11_readThing_158 (by decide) (fun zc158 => absurd (LA_w hL hk0) zc158) (fun zc158 => ?_)
        have zy1 := (fn_0.mp zf1).2
        refine ev_aload_n (pc := 161) dX11_readThing_161 rfl ?_
        refine ev_getR (pc := 162) (q := 61) dX11_readThing_162 fX11_47 rfl (wlt hw (by decide)) (wr hw rfl) ?_
        refine ev_iload_n (pc := 165) dX11_readThing_165 rfl ?_
        refine ev_iald (pc := 166) dX11_readThing_166 rfl (wlt hw (by decide)) (vp_in_nI (by omega) (by decide)) ?_
        refine ev_eqI (e' := zg.2.1 61 (zt.1 1)) (by rw [show Int32.toNatClampNeg (nI (zt.1 1)) = zt.1 1 from nI_clamp (by omega)] <;> rfl) ?_
        refine ev_eqI (e' := nI zc) hP.2.2.2.1 ?_
        refine ev_iload_n (pc := 167) dX11_readThing_167 rfl ?_
        refine ev_ishr (pc := 168) dX11_readThing_168 ?_
        refine ev_iconst (pc := 169) (v := 1) dX11_readThing_169 (by decide) ?_
        refine ev_iand (pc := 170) dX11_readThing_170 ?_
        refine ev_iconst (pc := 171) (v := 1) dX11_readThing_171 (by decide) ?_
        refine ev_icmp_ne (pc := 172) (tgt := 180) dX11_readThing_172 (by decide) (fun zc172 => ?_) (fun zc172 => ?_)
        · -- ne at 172: taken
          have zbt : ¬ zc.testBit (tV zb zn zp) = true := fun z => zc172 ((bit_1 (by omega)).mpr z)
          refine ev_aload_n (pc := 180) dX11_readThing_180 rfl ?_
          refine ev_getR (pc := 181) (q := 61) dX11_readThing_181 fX11_47 rfl (wlt hw (by decide)) (wr hw rfl) ?_
          refine ev_iload_n (pc := 184) dX11_readThing_184 rfl ?_
          refine ev_dup2 (pc := 185) dX11_readThing_185 rfl rfl ?_
          refine ev_iald (pc := 186) dX11_readThing_186 rfl (wlt hw (by decide)) (vp_in_nI (by omega) (by decide)) ?_
          refine ev_eqI (e' := zg.2.1 61 (zt.1 1)) (by rw [show Int32.toNatClampNeg (nI (zt.1 1)) = zt.1 1 from nI_clamp (by omega)] <;> rfl) ?_
          refine ev_eqI (e' := nI zc) hP.2.2.2.1 ?_
          refine ev_aload_n (pc := 187) dX11_readThing_187 rfl ?_
          refine ev_getI (pc := 188) dX11_readThing_188 fX11_100 rfl (wlt hw (by decide)) ?_
          refine ev_if_ne (pc := 191) (tgt := 200) dX11_readThing_191 (by decide) (fun zc191 => absurd (LA_w hL hk0) zc191) (fun zc191 => ?_)
          refine ev_iconst (pc := 194) (v := 1) dX11_readThing_194 (by decide) ?_
          refine ev_iload_n (pc := 195) dX11_readThing_195 rfl ?_
          refine ev_ishl (pc := 196) dX11_readThing_196 ?_
          refine ev_goto (pc := 197) (tgt := 201) dX11_readThing_197 (by decide) ?_
          refine ev_ior (pc := 201) dX11_readThing_201 ?_
          refine ev_eqI (e' := nI (zc ||| 2 ^ (tV zb zn zp))) (by rw [sh_pow _ (by omega)]; exact fa_or _ _) ?_
          refine ev_iast (pc := 202) dX11_readThing_202 rfl (wlt hw (by decide)) (vp_in_nI (by omega) (by decide)) ?_
          refine ev_eqH (h' := sI zg 61 (upd (zg.2.1 61) (zt.1 1) (nI (zc ||| 2 ^ (tV zb zn zp))))) (by rw [show Int32.toNatClampNeg (nI (zt.1 1)) = zt.1 1 from nI_clamp (by omega)] <;> rfl) ?_
          refine ev_aload_n (pc := 203) dX11_readThing_203 rfl ?_
          have hp2 : (tE zb zn zp) ≤ zn := (tE_le zb hp).2
          refine ev_callV (S := []) (pc := 204) dX11_readThing_204 kX11_next lX11_137 vX11_next (cn_X11_next E (sI zg 61 (upd (zg.2.1 61) (zt.1 1) (nI (zc ||| 2 ^ (tV zb zn zp))))) zb zn (tE zb zn zp) (wf_sI hw) hT (LA_w hL hk0) hL.1 hp2) rfl rfl (wlt (wf_sI hw) (by decide)) rfl rfl (Nat.le_of_ble_eq_true rfl) ⟨Nat.le_of_ble_eq_true rfl, Nat.le_of_ble_eq_true rfl⟩ ⟨Nat.le_of_ble_eq_true rfl, Nat.le_of_ble_eq_true rfl⟩ ?_
          rintro _ zg2 ⟨rfl, hs2, hL2⟩
          have wg2 := scE_w hs2 (wf_sI hw)
          have hT2 := scE_T (zb := zb) (zn := zn) hs2 hT
          have hv2 := scE_S (zt := zt) hs2 hv
          have hF2 := FrM_s (FrM_r hF (by decide) (by decide)) hs2
          by_cases zk2 : tK zb zn (tE zb zn zp) = 0
          · refine ev_goto (pc := 207) (tgt := 123) dX11_readThing_207 (by decide) ?_
            refine ev_iload_n (pc := 123) dX11_readThing_123 rfl ?_
            refine ev_if_ne (pc := 124) (tgt := 210) dX11_readThing_124 (by decide) (fun zc124 => absurd rfl zc124) (fun zc124 => ?_)
            refine ev_aload_n (pc := 127) dX11_readThing_127 rfl ?_
            refine ev_getI (pc := 128) dX11_readThing_128 fX11_100 rfl (wlt wg2 (by decide)) ?_
            refine ev_if_ne (pc := 131) (tgt := 210) dX11_readThing_131 (by decide) (fun zc131 => ?_) (fun zc131 => absurd zc131 (LA_b hL2 zk2))
            refine ev_aload_n (pc := 210) dX11_readThing_210 rfl ?_
            refine ev_dup (pc := 211) dX11_readThing_211 rfl ?_
            refine ev_getI (pc := 212) dX11_readThing_212 fX11_134 rfl (wlt wg2 (by decide)) ?_
            refine ev_eqI (e' := nI (zt.1 1)) hv2.1 ?_
            refine ev_aload_n (pc := 215) dX11_readThing_215 rfl ?_
            refine ev_getI (pc := 216) dX11_readThing_216 fX11_100 rfl (wlt wg2 (by decide)) ?_
            refine ev_if_ne (pc := 219) (tgt := 226) dX11_readThing_219 (by decide) (fun zc219 => ?_) (fun zc219 => absurd zc219 (LA_b hL2 zk2))
            refine ev_iconst (pc := 226) (v := 0) dX11_readThing_226 (by decide) ?_
            refine ev_iadd (pc := 227) dX11_readThing_227 ?_
            refine ev_eqI (e' := nI ((zt.1 1) + 0)) (nI_add (zt.1 1) 0) ?_
            refine ev_putI (pc := 228) dX11_readThing_228 fX11_134 rfl (wlt wg2 (by decide)) ?_
            refine ev_eqH (h' := sI zg2 49 (upd (zg2.2.1 49) 24 (nI ((zt.1 1) + 0)))) (by rfl) ?_
            refine ev_ret (pc := 231) dX11_readThing_231 rfl ?_
            · have hB : (patB zb zn zs zq zt).1 = (wrK zb zn (tE zb zn zp), tS zb zn (tE zb zn zp)) := by
                unfold patB
                exact (ck_0 (by exact (if_neg (by omega)))).trans (by rw [← hE]; rw [ptF, if_pos z3, if_pos zy1.2, if_neg zbt, pt_w (by omega) zk2])
              exact ⟨rfl, RB_bad (FrM_49 hF2 (fun zj hj => by simp only [upd]; (repeat' split) <;> first | rfl | (exfalso; unfold pFz at hj; omega))) hB (by rw [wr_1 zk2]; decide) hL2.2.2.2.2.1 (hL2.2.2.2.2.2 zk2)⟩
          · refine ev_goto (pc := 207) (tgt := 123) dX11_readThing_207 (by decide) ?_
            refine ev_less (L' := [some (.ref 49), some (.int 0), some (.int (nI (zt.1 1))), none, none]) (ls_keep (ls_keep (ls_keep (ls_drop (ls_keep (ls_nil _)))))) ?_
            refine ih (zc ||| 2 ^ (tV zb zn zp)) (tE zb zn zp) zg2 wg2 hT2 hL2 zk2 hp2 hv2 hF2 (scE_P hs2 (PR_61 hP)) ?_ ?_
            · rw [pt_ct zy1.2 (ts_nt zbt)]; omega
            · rw [ptF, if_pos z3, if_pos zy1.2, if_neg zbt] at hE; exact hE
        · -- ne at 172: not taken
          refine ev_aload_n (pc := 175) dX11_readThing_175 rfl ?_
          refine ev_iconst (pc := 176) (v := 4) dX11_readThing_176 (by decide) ?_
          refine ev_callV0 (S := []) (pc := 177) dX11_readThing_177 kX11_fails lX11_130 vX11_fails (cn_fails0 E zg 4 hw (LA_w hL hk0)) rfl rfl (wlt hw (by decide)) rfl rfl (Nat.le_of_ble_eq_true rfl) ⟨Nat.le_of_ble_eq_true rfl, Nat.le_of_ble_eq_true rfl⟩ ⟨Nat.le_of_ble_eq_true rfl, Nat.le_of_ble_eq_true rfl⟩ ?_
          refine ev_eqH (h' := sI zg 49 (upd (upd (zg.2.1 49) 3 4) 4 (zg.2.1 49 6))) (by first | exact (sI_sI _ _ _ _).trans rfl | rfl) ?_
          skip
          refine ev_aload_n (pc := 180) dX11_readThing_180 rfl ?_
          refine ev_getR (pc := 181) (q := 61) dX11_readThing_181 fX11_47 rfl (wlt (wf_sI hw) (by decide)) (wr (wf_sI hw) rfl) ?_
          refine ev_iload_n (pc := 184) dX11_readThing_184 rfl ?_
          refine ev_dup2 (pc := 185) dX11_readThing_185 rfl rfl ?_
          refine ev_iald (pc := 186) dX11_readThing_186 rfl (wlt (wf_sI hw) (by decide)) (vp_in_nI (by omega) (by decide)) ?_
          refine ev_eqI (e' := zg.2.1 61 (zt.1 1)) (by rw [show Int32.toNatClampNeg (nI (zt.1 1)) = zt.1 1 from nI_clamp (by omega)] <;> rfl) ?_
          refine ev_eqI (e' := nI zc) hP.2.2.2.1 ?_
          refine ev_aload_n (pc := 187) dX11_readThing_187 rfl ?_
          refine ev_getI (pc := 188) dX11_readThing_188 fX11_100 rfl (wlt (wf_sI hw) (by decide)) ?_
          refine ev_eqI (e' := 4) (by rfl) ?_
          refine ev_if_ne (pc := 191) (tgt := 200) dX11_readThing_191 (by decide) (fun zc191 => ?_) (fun zc191 => absurd zc191 (show ¬ (4 : Int32) = 0 by decide))
          refine ev_iconst (pc := 200) (v := 0) dX11_readThing_200 (by decide) ?_
          refine ev_ior (pc := 201) dX11_readThing_201 ?_
          refine ev_eqI (e' := (nI zc) ||| 0) rfl ?_
          refine ev_iast (pc := 202) dX11_readThing_202 rfl (wlt (wf_sI hw) (by decide)) (vp_in_nI (by omega) (by decide)) ?_
          refine ev_eqH (h' := sI (sI zg 49 (upd (upd (zg.2.1 49) 3 4) 4 (zg.2.1 49 6))) 61 (upd (zg.2.1 61) (zt.1 1) ((nI zc) ||| 0))) (by rw [show Int32.toNatClampNeg (nI (zt.1 1)) = zt.1 1 from nI_clamp (by omega)] <;> rfl) ?_
          refine ev_aload_n (pc := 203) dX11_readThing_203 rfl ?_
          refine ev_callV0 (S := []) (pc := 204) dX11_readThing_204 kX11_next lX11_137 vX11_next (cn_X11_nextW E (sI (sI zg 49 (upd (upd (zg.2.1 49) 3 4) 4 (zg.2.1 49 6))) 61 (upd (zg.2.1 61) (zt.1 1) ((nI zc) ||| 0))) (wf_sI (wf_sI hw)) (show (0 : Int32) < 4 by decide)) rfl rfl (wlt (wf_sI (wf_sI hw)) (by decide)) rfl rfl (Nat.le_of_ble_eq_true rfl) ⟨Nat.le_of_ble_eq_true rfl, Nat.le_of_ble_eq_true rfl⟩ ⟨Nat.le_of_ble_eq_true rfl, Nat.le_of_ble_eq_true rfl⟩ ?_
          refine ev_goto (pc := 207) (tgt := 123) dX11_readThing_207 (by decide) ?_
          refine ev_iload_n (pc := 123) dX11_readThing_123 rfl ?_
          refine ev_if_ne (pc := 124) (tgt := 210) dX11_readThing_124 (by decide) (fun zc124 => absurd rfl zc124) (fun zc124 => ?_)
          refine ev_aload_n (pc := 127) dX11_readThing_127 rfl ?_
          refine ev_getI (pc := 128) dX11_readThing_128 fX11_100 rfl (wlt (wf_sI (wf_sI hw)) (by decide)) ?_
          refine ev_eqI (e' := 4) (by rfl) ?_
          refine ev_if_ne (pc := 131) (tgt := 210) dX11_readThing_131 (by decide) (fun zc131 => ?_) (fun zc131 => absurd zc131 (show ¬ (4 : Int32) = 0 by decide))
          refine ev_aload_n (pc := 210) dX11_readThing_210 rfl ?_
          refine ev_dup (pc := 211) dX11_readThing_211 rfl ?_
          refine ev_getI (pc := 212) dX11_readThing_212 fX11_134 rfl (wlt (wf_sI (wf_sI hw)) (by decide)) ?_
          refine ev_eqI (e' := zg.2.1 49 24) (by rfl) ?_
          refine ev_eqI (e' := nI (zt.1 1)) hv.1 ?_
          refine ev_aload_n (pc := 215) dX11_readThing_215 rfl ?_
          refine ev_getI (pc := 216) dX11_readThing_216 fX11_100 rfl (wlt (wf_sI (wf_sI hw)) (by decide)) ?_
          refine ev_eqI (e' := 4) (by rfl) ?_
          refine ev_if_ne (pc := 219) (tgt := 226) dX11_readThing_219 (by decide) (fun zc219 => ?_) (fun zc219 => absurd zc219 (show ¬ (4 : Int32) = 0 by decide))
          refine ev_iconst (pc := 226) (v := 0) dX11_readThing_226 (by decide) ?_
          refine ev_iadd (pc := 227) dX11_readThing_227 ?_
          refine ev_eqI (e' := nI ((zt.1 1) + 0)) (nI_add (zt.1 1) 0) ?_
          refine ev_putI (pc := 228) dX11_readThing_228 fX11_134 rfl (wlt (wf_sI (wf_sI hw)) (by decide)) ?_
          refine ev_eqH (h' := sI (sI zg 49 (upd (upd (upd (zg.2.1 49) 3 4) 4 (zg.2.1 49 6)) 24 (nI ((zt.1 1) + 0)))) 61 (upd (zg.2.1 61) (zt.1 1) ((nI zc) ||| 0))) (by exact sI_dp _ (by decide) _ _ _) ?_
          refine ev_ret (pc := 231) dX11_readThing_231 rfl ?_
          · have hB : (patB zb zn zs zq zt).1 = (4, tS zb zn zp) := by
              unfold patB
              exact (ck_0 (by exact (if_neg (by omega)))).trans (by rw [← hE]; rw [ptF, if_pos z3, if_pos zy1.2, if_pos ((bit_1 (by omega)).mp zc172)])
            exact ⟨rfl, RB_bad (FrM_r (FrM_49 hF (fun zj hj => by simp only [upd]; (repeat' split) <;> first | rfl | (exfalso; unfold pFz at hj; omega))) (by decide) (by decide)) hB (by decide) rfl hL.2.1⟩
      · refine ev_callVv (S := []) (pc := 150) dX11_readThing_150 kX11_number lX11_140 vX11_number (cn_numBad E zg zb zn zp 0 (zt.1 1) ((nI (zt.1 1)) - 1) hw hL (hk0) hp rfl (by decide) (by have := hO.1; omega) zf1) rfl rfl (wlt hw (by decide)) rfl rfl (Nat.le_of_ble_eq_true rfl) ⟨Nat.le_of_ble_eq_true rfl, Nat.le_of_ble_eq_true rfl⟩ ⟨Nat.le_of_ble_eq_true rfl, Nat.le_of_ble_eq_true rfl⟩ ?_
        refine ev_eqH (h' := sI zg 49 (upd (upd (zg.2.1 49) 3 (nI (fnK zb zn zp 0 (zt.1 1)))) 4 (nI (tS zb zn zp)))) (by first | exact (sI_sI _ _ _ _).trans rfl | rfl) ?_
        refine ev_istore_n (pc := 153) (L' := [some (.ref 49), some (.int 0), some (.int (nI (zt.1 1))), some (.int 0), none]) dX11_readThing_153 (Nat.le_of_ble_eq_true rfl) rfl ?_
        refine ev_aload_n (pc := 154) dX11_readThing_154 rfl ?_
        refine ev_getI (pc := 155) dX11_readThing_155 fX11_100 rfl (wlt (wf_sI hw) (by decide)) ?_
        refine ev_eqI (e' := nI (fnK zb zn zp 0 (zt.1 1))) (by rfl) ?_
        refine ev_if_ne (pc := 158) (tgt := 180) dX11_readThing_158 (by decide) (fun zc158 => ?_) (fun zc158 => absurd zc158 (nb_0 (fn_5 _ _ _ _ _) zf1))
        skip
        refine ev_aload_n (pc := 180) dX11_readThing_180 rfl ?_
        refine ev_getR (pc := 181) (q := 61) dX11_readThing_181 fX11_47 rfl (wlt (wf_sI hw) (by decide)) (wr (wf_sI hw) rfl) ?_
        refine ev_iload_n (pc := 184) dX11_readThing_184 rfl ?_
        refine ev_dup2 (pc := 185) dX11_readThing_185 rfl rfl ?_
        refine ev_iald (pc := 186) dX11_readThing_186 rfl (wlt (wf_sI hw) (by decide)) (vp_in_nI (by omega) (by decide)) ?_
        refine ev_eqI (e' := zg.2.1 61 (zt.1 1)) (by rw [show Int32.toNatClampNeg (nI (zt.1 1)) = zt.1 1 from nI_clamp (by omega)] <;> rfl) ?_
        refine ev_eqI (e' := nI zc) hP.2.2.2.1 ?_
        refine ev_aload_n (pc := 187) dX11_readThing_187 rfl ?_
        refine ev_getI (pc := 188) dX11_readThing_188 fX11_100 rfl (wlt (wf_sI hw) (by decide)) ?_
        refine ev_eqI (e' := nI (fnK zb zn zp 0 (zt.1 1))) (by rfl) ?_
        refine ev_if_ne (pc := 191) (tgt := 200) dX11_readThing_191 (by decide) (fun zc191 => ?_) (fun zc191 => absurd zc191 (nb_0 (fn_5 _ _ _ _ _) zf1))
        refine ev_iconst (pc := 200) (v := 0) dX11_readThing_200 (by decide) ?_
        refine ev_ior (pc := 201) dX11_readThing_201 ?_
        refine ev_eqI (e' := (nI zc) ||| 0) rfl ?_
        refine ev_iast (pc := 202) dX11_readThing_202 rfl (wlt (wf_sI hw) (by decide)) (vp_in_nI (by omega) (by decide)) ?_
        refine ev_eqH (h' := sI (sI zg 49 (upd (upd (zg.2.1 49) 3 (nI (fnK zb zn zp 0 (zt.1 1)))) 4 (nI (tS zb zn zp)))) 61 (upd (zg.2.1 61) (zt.1 1) ((nI zc) ||| 0))) (by rw [show Int32.toNatClampNeg (nI (zt.1 1)) = zt.1 1 from nI_clamp (by omega)] <;> rfl) ?_
        refine ev_aload_n (pc := 203) dX11_readThing_203 rfl ?_
        refine ev_callV0 (S := []) (pc := 204) dX11_readThing_204 kX11_next lX11_137 vX11_next (cn_X11_nextW E (sI (sI zg 49 (upd (upd (zg.2.1 49) 3 (nI (fnK zb zn zp 0 (zt.1 1)))) 4 (nI (tS zb zn zp)))) 61 (upd (zg.2.1 61) (zt.1 1) ((nI zc) ||| 0))) (wf_sI (wf_sI hw)) (nb_p (fn_5 _ _ _ _ _) zf1)) rfl rfl (wlt (wf_sI (wf_sI hw)) (by decide)) rfl rfl (Nat.le_of_ble_eq_true rfl) ⟨Nat.le_of_ble_eq_true rfl, Nat.le_of_ble_eq_true rfl⟩ ⟨Nat.le_of_ble_eq_true rfl, Nat.le_of_ble_eq_true rfl⟩ ?_
        refine ev_goto (pc := 207) (tgt := 123) dX11_readThing_207 (by decide) ?_
        refine ev_iload_n (pc := 123) dX11_readThing_123 rfl ?_
        refine ev_if_ne (pc := 124) (tgt := 210) dX11_readThing_124 (by decide) (fun zc124 => absurd rfl zc124) (fun zc124 => ?_)
        refine ev_aload_n (pc := 127) dX11_readThing_127 rfl ?_
        refine ev_getI (pc := 128) dX11_readThing_128 fX11_100 rfl (wlt (wf_sI (wf_sI hw)) (by decide)) ?_
        refine ev_eqI (e' := nI (fnK zb zn zp 0 (zt.1 1))) (by rfl) ?_
        refine ev_if_ne (pc := 131) (tgt := 210) dX11_readThing_131 (by decide) (fun zc131 => ?_) (fun zc131 => absurd zc131 (nb_0 (fn_5 _ _ _ _ _) zf1))
        refine ev_aload_n (pc := 210) dX11_readThing_210 rfl ?_
        refine ev_dup (pc := 211) dX11_readThing_211 rfl ?_
        refine ev_getI (pc := 212) dX11_readThing_212 fX11_134 rfl (wlt (wf_sI (wf_sI hw)) (by decide)) ?_
        refine ev_eqI (e' := zg.2.1 49 24) (by rfl) ?_
        refine ev_eqI (e' := nI (zt.1 1)) hv.1 ?_
        refine ev_aload_n (pc := 215) dX11_readThing_215 rfl ?_
        refine ev_getI (pc := 216) dX11_readThing_216 fX11_100 rfl (wlt (wf_sI (wf_sI hw)) (by decide)) ?_
        refine ev_eqI (e' := nI (fnK zb zn zp 0 (zt.1 1))) (by rfl) ?_
        refine ev_if_ne (pc := 219) (tgt := 226) dX11_readThing_219 (by decide) (fun zc219 => ?_) (fun zc219 => absurd zc219 (nb_0 (fn_5 _ _ _ _ _) zf1))
        refine ev_iconst (pc := 226) (v := 0) dX11_readThing_226 (by decide) ?_
        refine ev_iadd (pc := 227) dX11_readThing_227 ?_
        refine ev_eqI (e' := nI ((zt.1 1) + 0)) (nI_add (zt.1 1) 0) ?_
        refine ev_putI (pc := 228) dX11_readThing_228 fX11_134 rfl (wlt (wf_sI (wf_sI hw)) (by decide)) ?_
        refine ev_eqH (h' := sI (sI zg 49 (upd (upd (upd (zg.2.1 49) 3 (nI (fnK zb zn zp 0 (zt.1 1)))) 4 (nI (tS zb zn zp))) 24 (nI ((zt.1 1) + 0)))) 61 (upd (zg.2.1 61) (zt.1 1) ((nI zc) ||| 0))) (by exact sI_dp _ (by decide) _ _ _) ?_
        refine ev_ret (pc := 231) dX11_readThing_231 rfl ?_
        · have hB : (patB zb zn zs zq zt).1 = (fnK zb zn zp 0 (zt.1 1), tS zb zn zp) := by
            unfold patB
            exact (ck_0 (by exact (if_neg (by omega)))).trans (by rw [← hE]; rw [ptF, if_pos z3, if_neg (fun z => zf1 (fn_0.mpr ⟨z3, Nat.zero_le _, z⟩)), fn_3 z3 zf1])
          exact ⟨rfl, RB_bad (FrM_r (FrM_49 hF (fun zj hj => by simp only [upd]; (repeat' split) <;> first | rfl | (exfalso; unfold pFz at hj; omega))) (by decide) (by decide)) hB zf1 rfl rfl⟩
theorem cn_X11_readPatch (E : ME) (h : AH) (zb : Nat → Nat) (zn zp : Nat) (zt : PSt) (hw : WF h) (hT : TMz h zb zn) (hL : LAz zb zn zp h) (hk0 : ¬ tK zb zn zp = 0) (hp : zp ≤ zn) (hM : MSz zt h) (hO : POK zt) : Con E mX11_readThing 2 0 0 [.ref 49, .int 0] h (fun r h' => r = none ∧ RBz zb zn (patB zb zn (tS zb zn zp) (tE zb zn zp) zt) h h') := by
  refine con_of2 (L := [some (.ref 49), some (.int 0), none, none, none]) rfl (Nat.le_of_ble_eq_true rfl) rfl ?_
  have zn4 := hT.2.1
  refine ev_aload_n (pc := 0) dX11_readThing_0 rfl ?_
  refine ev_getI (pc := 1) dX11_readThing_1 fX11_134 rfl (wlt hw (by decide)) ?_
  refine ev_eqI (e' := nI (zt.1 1)) hM.1.1 ?_
  refine ev_bipush (pc := 4) (v := 12) dX11_readThing_4 (by decide) ?_
  refine ev_icmp_ne (pc := 6) (tgt := 14) dX11_readThing_6 (by decide) (fun zc6 => ?_) (fun zc6 => ?_)
  · -- ne at 6: taken
    have zm12 : zt.1 1 < 12 := by
      have z1 := hO.1
      have z2 : zt.1 1 ≠ 12 := fun z => zc6 (by rw [z]; rfl)
      omega
    refine ev_aload_n (pc := 14) dX11_readThing_14 rfl ?_
    have hp1 : (tE zb zn zp) ≤ zn := (tE_le zb hp).2
    refine ev_callV (S := []) (pc := 15) dX11_readThing_15 kX11_next lX11_137 vX11_next (cn_X11_next E h zb zn (tE zb zn zp) hw hT (LA_w hL hk0) hL.1 hp1) rfl rfl (wlt hw (by decide)) rfl rfl (Nat.le_of_ble_eq_true rfl) ⟨Nat.le_of_ble_eq_true rfl, Nat.le_of_ble_eq_true rfl⟩ ⟨Nat.le_of_ble_eq_true rfl, Nat.le_of_ble_eq_true rfl⟩ ?_
    rintro _ zg1 ⟨rfl, hs1, hL1⟩
    have wg1 := scE_w hs1 hw
    have hT1 := scE_T (zb := zb) (zn := zn) hs1 hT
    have hv1 := scE_S (zt := zt) hs1 hM.1
    have hF1 := FrM_s (FrM_0 h) hs1
    by_cases zk1 : tK zb zn (tE zb zn zp) = 0
    · refine ev_aload_n (pc := 18) dX11_readThing_18 rfl ?_
      refine ev_getI (pc := 19) dX11_readThing_19 fX11_134 rfl (wlt wg1 (by decide)) ?_
      refine ev_eqI (e' := nI (zt.1 1)) hv1.1 ?_
      refine ev_bipush (pc := 22) (v := 12) dX11_readThing_22 (by decide) ?_
      refine ev_icmp_ge (pc := 24) (tgt := 34) dX11_readThing_24 (by decide) (fun zc24 => absurd zc24 (nI_ge (by omega) (by decide))) (fun zc24 => ?_)
      refine ev_aload_n (pc := 27) dX11_readThing_27 rfl ?_
      refine ev_getI (pc := 28) dX11_readThing_28 fX11_134 rfl (wlt wg1 (by decide)) ?_
      refine ev_eqI (e' := nI (zt.1 1)) hv1.1 ?_
      refine ev_goto (pc := 31) (tgt := 35) dX11_readThing_31 (by decide) ?_
      refine ev_istore_n (pc := 35) (L' := [some (.ref 49), some (.int 0), some (.int (nI (zt.1 1))), none, none]) dX11_readThing_35 (Nat.le_of_ble_eq_true rfl) rfl ?_
      refine ev_aload_n (pc := 36) dX11_readThing_36 rfl ?_
      refine ev_getI (pc := 37) dX11_readThing_37 fX11_100 rfl (wlt wg1 (by decide)) ?_
      refine ev_if_ne (pc := 40) (tgt := 71) dX11_readThing_40 (by decide) (fun zc40 => ?_) (fun zc40 => absurd zc40 (LA_b hL1 zk1))
      refine ev_iload_n (pc := 71) dX11_readThing_71 rfl ?_
      refine ev_if_eq (pc := 72) (tgt := 123) dX11_readThing_72 (by decide) (fun zc72 => ?_) (fun zc72 => absurd rfl zc72)
      refine ev_iload_n (pc := 123) dX11_readThing_123 rfl ?_
      refine ev_if_ne (pc := 124) (tgt := 210) dX11_readThing_124 (by decide) (fun zc124 => absurd rfl zc124) (fun zc124 => ?_)
      refine ev_aload_n (pc := 127) dX11_readThing_127 rfl ?_
      refine ev_getI (pc := 128) dX11_readThing_128 fX11_100 rfl (wlt wg1 (by decide)) ?_
      refine ev_if_ne (pc := 131) (tgt := 210) dX11_readThing_131 (by decide) (fun zc131 => ?_) (fun zc131 => absurd zc131 (LA_b hL1 zk1))
      refine ev_aload_n (pc := 210) dX11_readThing_210 rfl ?_
      refine ev_dup (pc := 211) dX11_readThing_211 rfl ?_
      refine ev_getI (pc := 212) dX11_readThing_212 fX11_134 rfl (wlt wg1 (by decide)) ?_
      refine ev_eqI (e' := nI (zt.1 1)) hv1.1 ?_
      refine ev_aload_n (pc := 215) dX11_readThing_215 rfl ?_
      refine ev_getI (pc := 216) dX11_readThing_216 fX11_100 rfl (wlt wg1 (by decide)) ?_
      refine ev_if_ne (pc := 219) (tgt := 226) dX11_readThing_219 (by decide) (fun zc219 => ?_) (fun zc219 => absurd zc219 (LA_b hL1 zk1))
      refine ev_iconst (pc := 226) (v := 0) dX11_readThing_226 (by decide) ?_
      refine ev_iadd (pc := 227) dX11_readThing_227 ?_
      refine ev_eqI (e' := nI ((zt.1 1) + 0)) (nI_add (zt.1 1) 0) ?_
      refine ev_putI (pc := 228) dX11_readThing_228 fX11_134 rfl (wlt wg1 (by decide)) ?_
      refine ev_eqH (h' := sI zg1 49 (upd (zg1.2.1 49) 24 (nI ((zt.1 1) + 0)))) (by rfl) ?_
      refine ev_ret (pc := 231) dX11_readThing_231 rfl ?_
      · have hB : (patB zb zn (tS zb zn zp) (tE zb zn zp) zt).1 = (wrK zb zn (tE zb zn zp), tS zb zn (tE zb zn zp)) := by
          unfold patB
          exact (ck_0 (by exact (if_neg (by omega)))).trans (by rw [pt_w (by decide) zk1])
        exact ⟨rfl, RB_bad (FrM_49 hF1 (fun zj hj => by simp only [upd]; (repeat' split) <;> first | rfl | (exfalso; unfold pFz at hj; omega))) hB (by rw [wr_1 zk1]; decide) hL1.2.2.2.2.1 (hL1.2.2.2.2.2 zk1)⟩
    · refine ev_aload_n (pc := 18) dX11_readThing_18 rfl ?_
      refine ev_getI (pc := 19) dX11_readThing_19 fX11_134 rfl (wlt wg1 (by decide)) ?_
      refine ev_eqI (e' := nI (zt.1 1)) hv1.1 ?_
      refine ev_bipush (pc := 22) (v := 12) dX11_readThing_22 (by decide) ?_
      refine ev_icmp_ge (pc := 24) (tgt := 34) dX11_readThing_24 (by decide) (fun zc24 => absurd zc24 (nI_ge (by omega) (by decide))) (fun zc24 => ?_)
      refine ev_aload_n (pc := 27) dX11_readThing_27 rfl ?_
      refine ev_getI (pc := 28) dX11_readThing_28 fX11_134 rfl (wlt wg1 (by decide)) ?_
      refine ev_eqI (e' := nI (zt.1 1)) hv1.1 ?_
      refine ev_goto (pc := 31) (tgt := 35) dX11_readThing_31 (by decide) ?_
      refine ev_istore_n (pc := 35) (L' := [some (.ref 49), some (.int 0), some (.int (nI (zt.1 1))), none, none]) dX11_readThing_35 (Nat.le_of_ble_eq_true rfl) rfl ?_
      refine ev_aload_n (pc := 36) dX11_readThing_36 rfl ?_
      refine ev_getI (pc := 37) dX11_readThing_37 fX11_100 rfl (wlt wg1 (by decide)) ?_
      refine ev_if_ne (pc := 40) (tgt := 71) dX11_readThing_40 (by decide) (fun zc40 => absurd (LA_w hL1 zk1) zc40) (fun zc40 => ?_)
      refine ev_aload_n (pc := 43) dX11_readThing_43 rfl ?_
      refine ev_getR (pc := 44) (q := 59) dX11_readThing_44 fX11_41 rfl (wlt wg1 (by decide)) (wr wg1 rfl) ?_
      refine ev_iload_n (pc := 47) dX11_readThing_47 rfl ?_
      refine ev_iconst (pc := 48) (v := 0) dX11_readThing_48 (by decide) ?_
      refine ev_iast (pc := 49) dX11_readThing_49 rfl (wlt wg1 (by decide)) (vp_in_nI (by omega) (by decide)) ?_
      refine ev_eqH (h' := sI zg1 59 (upd (zg1.2.1 59) (zt.1 1) 0)) (by rw [show Int32.toNatClampNeg (nI (zt.1 1)) = zt.1 1 from nI_clamp (by omega)] <;> rfl) ?_
      refine ev_aload_n (pc := 50) dX11_readThing_50 rfl ?_
      refine ev_getR (pc := 51) (q := 60) dX11_readThing_51 fX11_44 rfl (wlt (wf_sI wg1) (by decide)) (wr (wf_sI wg1) rfl) ?_
      refine ev_iload_n (pc := 54) dX11_readThing_54 rfl ?_
      refine ev_iconst (pc := 55) (v := 0) dX11_readThing_55 (by decide) ?_
      refine ev_iast (pc := 56) dX11_readThing_56 rfl (wlt (wf_sI wg1) (by decide)) (vp_in_nI (by omega) (by decide)) ?_
      refine ev_eqH (h' := sI (sI zg1 59 (upd (zg1.2.1 59) (zt.1 1) 0)) 60 (upd (zg1.2.1 60) (zt.1 1) 0)) (by rw [show Int32.toNatClampNeg (nI (zt.1 1)) = zt.1 1 from nI_clamp (by omega)] <;> rfl) ?_
      refine ev_aload_n (pc := 57) dX11_readThing_57 rfl ?_
      refine ev_getR (pc := 58) (q := 61) dX11_readThing_58 fX11_47 rfl (wlt (wf_sI (wf_sI wg1)) (by decide)) (wr (wf_sI (wf_sI wg1)) rfl) ?_
      refine ev_iload_n (pc := 61) dX11_readThing_61 rfl ?_
      refine ev_iconst (pc := 62) (v := 0) dX11_readThing_62 (by decide) ?_
      refine ev_iast (pc := 63) dX11_readThing_63 rfl (wlt (wf_sI (wf_sI wg1)) (by decide)) (vp_in_nI (by omega) (by decide)) ?_
      refine ev_eqH (h' := sI (sI (sI zg1 59 (upd (zg1.2.1 59) (zt.1 1) 0)) 60 (upd (zg1.2.1 60) (zt.1 1) 0)) 61 (upd (zg1.2.1 61) (zt.1 1) 0)) (by rw [show Int32.toNatClampNeg (nI (zt.1 1)) = zt.1 1 from nI_clamp (by omega)] <;> rfl) ?_
      refine ev_aload_n (pc := 64) dX11_readThing_64 rfl ?_
      refine ev_getR (pc := 65) (q := 62) dX11_readThing_65 fX11_50 rfl (wlt (wf_sI (wf_sI (wf_sI wg1))) (by decide)) (wr (wf_sI (wf_sI (wf_sI wg1))) rfl) ?_
      refine ev_iload_n (pc := 68) dX11_readThing_68 rfl ?_
      refine ev_iconst (pc := 69) (v := 0) dX11_readThing_69 (by decide) ?_
      refine ev_iast (pc := 70) dX11_readThing_70 rfl (wlt (wf_sI (wf_sI (wf_sI wg1))) (by decide)) (vp_in_nI (by omega) (by decide)) ?_
      refine ev_eqH (h' := sI (sI (sI (sI zg1 59 (upd (zg1.2.1 59) (zt.1 1) 0)) 60 (upd (zg1.2.1 60) (zt.1 1) 0)) 61 (upd (zg1.2.1 61) (zt.1 1) 0)) 62 (upd (zg1.2.1 62) (zt.1 1) 0)) (by rw [show Int32.toNatClampNeg (nI (zt.1 1)) = zt.1 1 from nI_clamp (by omega)] <;> rfl) ?_
      refine ev_iload_n (pc := 71) dX11_readThing_71 rfl ?_
      refine ev_if_eq (pc := 72) (tgt := 123) dX11_readThing_72 (by decide) (fun zc72 => ?_) (fun zc72 => absurd rfl zc72)
      have hA1 := scE_A (zt := zt) hs1 hM.2
      have hP : PRz zt 0 (sI (sI (sI (sI zg1 59 (upd (zg1.2.1 59) (zt.1 1) 0)) 60 (upd (zg1.2.1 60) (zt.1 1) 0)) 61 (upd (zg1.2.1 61) (zt.1 1) 0)) 62 (upd (zg1.2.1 62) (zt.1 1) 0)) := by
        refine ⟨⟨fun zk hk => ?_, hA1.2.1, hA1.2.2⟩, pk_us, pk_us, pk_us, pk_us⟩
        show upd (zg1.2.1 59) _ _ zk = _ ∧ upd (zg1.2.1 60) _ _ zk = _ ∧ upd (zg1.2.1 61) _ _ zk = _ ∧ upd (zg1.2.1 62) _ _ zk = _
        rw [pk_un (by omega), pk_un (by omega), pk_un (by omega), pk_un (by omega)]
        exact hA1.1 zk hk
      exact lp_patch E h zb zn (tS zb zn zp) (tE zb zn zp) zt hO zm12 13 0 _ _ (wf_sI (wf_sI (wf_sI (wf_sI wg1)))) hT1 hL1 zk1 hp1 hv1 (FrM_r (FrM_r (FrM_r (FrM_r hF1 (by decide) (by decide)) (by decide) (by decide)) (by decide) (by decide)) (by decide) (by decide)) hP (by rw [fb_ct_zero.mpr (fun zi _ => Nat.zero_testBit zi)]) rfl
  · -- ne at 6: not taken
    refine ev_aload_n (pc := 9) dX11_readThing_9 rfl ?_
    refine ev_iconst (pc := 10) (v := 5) dX11_readThing_10 (by decide) ?_
    refine ev_callV0 (S := []) (pc := 11) dX11_readThing_11 kX11_fails lX11_130 vX11_fails (cn_fails0 E h 5 hw (LA_w hL hk0)) rfl rfl (wlt hw (by decide)) rfl rfl (Nat.le_of_ble_eq_true rfl) ⟨Nat.le_of_ble_eq_true rfl, Nat.le_of_ble_eq_true rfl⟩ ⟨Nat.le_of_ble_eq_true rfl, Nat.le_of_ble_eq_true rfl⟩ ?_
    refine ev_eqH (h' := sI h 49 (upd (upd (h.2.1 49) 3 5) 4 (h.2.1 49 6))) (by first | exact (sI_sI _ _ _ _).trans rfl | rfl) ?_
    have zm12 := hO.1
    refine ev_aload_n (pc := 14) dX11_readThing_14 rfl ?_
    refine ev_callV0 (S := []) (pc := 15) dX11_readThing_15 kX11_next lX11_137 vX11_next (cn_X11_nextW E (sI h 49 (upd (upd (h.2.1 49) 3 5) 4 (h.2.1 49 6))) (wf_sI hw) (show (0 : Int32) < 5 by decide)) rfl rfl (wlt (wf_sI hw) (by decide)) rfl rfl (Nat.le_of_ble_eq_true rfl) ⟨Nat.le_of_ble_eq_true rfl, Nat.le_of_ble_eq_true rfl⟩ ⟨Nat.le_of_ble_eq_true rfl, Nat.le_of_ble_eq_true rfl⟩ ?_
    refine ev_aload_n (pc := 18) dX11_readThing_18 rfl ?_
    refine ev_getI (pc := 19) dX11_readThing_19 fX11_134 rfl (wlt (wf_sI hw) (by decide)) ?_
    refine ev_eqI (e' := h.2.1 49 24) (by rfl) ?_
    refine ev_eqI (e' := nI (zt.1 1)) hM.1.1 ?_
    refine ev_bipush (pc := 22) (v := 12) dX11_readThing_22 (by decide) ?_
    refine ev_icmp_ge (pc := 24) (tgt := 34) dX11_readThing_24 (by decide) (fun zc24 => ?_) (fun zc24 => absurd (by rw [zc6]; decide) zc24)
    refine ev_iconst (pc := 34) (v := 0) dX11_readThing_34 (by decide) ?_
    refine ev_istore_n (pc := 35) (L' := [some (.ref 49), some (.int 0), some (.int 0), none, none]) dX11_readThing_35 (Nat.le_of_ble_eq_true rfl) rfl ?_
    refine ev_aload_n (pc := 36) dX11_readThing_36 rfl ?_
    refine ev_getI (pc := 37) dX11_readThing_37 fX11_100 rfl (wlt (wf_sI hw) (by decide)) ?_
    refine ev_eqI (e' := 5) (by rfl) ?_
    refine ev_if_ne (pc := 40) (tgt := 71) dX11_readThing_40 (by decide) (fun zc40 => ?_) (fun zc40 => absurd zc40 (show ¬ (5 : Int32) = 0 by decide))
    refine ev_iload_n (pc := 71) dX11_readThing_71 rfl ?_
    refine ev_if_eq (pc := 72) (tgt := 123) dX11_readThing_72 (by decide) (fun zc72 => ?_) (fun zc72 => absurd rfl zc72)
    refine ev_iload_n (pc := 123) dX11_readThing_123 rfl ?_
    refine ev_if_ne (pc := 124) (tgt := 210) dX11_readThing_124 (by decide) (fun zc124 => absurd rfl zc124) (fun zc124 => ?_)
    refine ev_aload_n (pc := 127) dX11_readThing_127 rfl ?_
    refine ev_getI (pc := 128) dX11_readThing_128 fX11_100 rfl (wlt (wf_sI hw) (by decide)) ?_
    refine ev_eqI (e' := 5) (by rfl) ?_
    refine ev_if_ne (pc := 131) (tgt := 210) dX11_readThing_131 (by decide) (fun zc131 => ?_) (fun zc131 => absurd zc131 (show ¬ (5 : Int32) = 0 by decide))
    refine ev_aload_n (pc := 210) dX11_readThing_210 rfl ?_
    refine ev_dup (pc := 211) dX11_readThing_211 rfl ?_
    refine ev_getI (pc := 212) dX11_readThing_212 fX11_134 rfl (wlt (wf_sI hw) (by decide)) ?_
    refine ev_eqI (e' := h.2.1 49 24) (by rfl) ?_
    refine ev_eqI (e' := nI (zt.1 1)) hM.1.1 ?_
    refine ev_aload_n (pc := 215) dX11_readThing_215 rfl ?_
    refine ev_getI (pc := 216) dX11_readThing_216 fX11_100 rfl (wlt (wf_sI hw) (by decide)) ?_
    refine ev_eqI (e' := 5) (by rfl) ?_
    refine ev_if_ne (pc := 219) (tgt := 226) dX11_readThing_219 (by decide) (fun zc219 => ?_) (fun zc219 => absurd zc219 (show ¬ (5 : Int32) = 0 by decide))
    refine ev_iconst (pc := 226) (v := 0) dX11_readThing_226 (by decide) ?_
    refine ev_iadd (pc := 227) dX11_readThing_227 ?_
    refine ev_eqI (e' := nI ((zt.1 1) + 0)) (nI_add (zt.1 1) 0) ?_
    refine ev_putI (pc := 228) dX11_readThing_228 fX11_134 rfl (wlt (wf_sI hw) (by decide)) ?_
    refine ev_eqH (h' := sI h 49 (upd (upd (upd (h.2.1 49) 3 5) 4 (h.2.1 49 6)) 24 (nI ((zt.1 1) + 0)))) (by exact sI_sI _ _ _ _) ?_
    refine ev_ret (pc := 231) dX11_readThing_231 rfl ?_
    · have hB : (patB zb zn (tS zb zn zp) (tE zb zn zp) zt).1 = (5, tS zb zn zp) := by
        unfold patB
        exact (ck_1 (by show ¬ (if zt.1 1 = 12 then 5 else 0) = 0; rw [if_pos ((nI_eq (a := zt.1 1) (b := 12) (by omega) (by decide)).mp zc6)]; decide)).trans (by rw [if_pos ((nI_eq (a := zt.1 1) (b := 12) (by omega) (by decide)).mp zc6)])
      exact ⟨rfl, RB_bad (FrM_49 (FrM_0 h) (fun zj hj => by simp only [upd]; (repeat' split) <;> first | rfl | (exfalso; unfold pFz at hj; omega))) hB (by decide) rfl hL.2.1⟩
