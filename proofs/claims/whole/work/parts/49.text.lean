theorem cpF_at (zg zf : Nat → Int32) : ∀ zn zk, cpF zg zf zn zk = if zk < zn then zg zk else zf zk
  | 0, zk => by rw [cpF, if_neg (Nat.not_lt_zero _)]
  | zn + 1, zk => by
    rw [cpF]
    unfold upd
    by_cases h : zk = zn
    · rw [if_pos h, if_pos (by omega), h]
    · rw [if_neg h, cpF_at zg zf zn zk]
      by_cases h2 : zk < zn
      · rw [if_pos h2, if_pos (by omega)]
      · rw [if_neg h2, if_neg (by omega)]
/-- what a text leaves behind, for the lines from some place on -/
def TLz (zr : (Nat × Nat) × Nat × PSt) (h g : AH) (zx : Int32) : Prop := FrM h g ∧ (¬ zr.1.1 = 0 → g.2.1 49 3 = nI zr.1.1 ∧ g.2.1 49 4 = nI zr.1.2) ∧ (zr.1.1 = 0 → g.2.1 49 3 = 0 ∧ MSz zr.2.2 g ∧ POK zr.2.2 ∧ zx = nI zr.2.1)
theorem tx_5 (zb : Nat → Nat) (zn : Nat) : ∀ zf zp zl zt, (txtF zb zn zf zp zl zt).1.1 ≤ 5
  | 0, _, _, _ => by rw [txtF]; exact Nat.zero_le _
  | zf + 1, zp, zl, zt => by
    rw [txtF]
    repeat' split
    · exact Nat.zero_le _
    · exact tx_5 zb zn zf _ _ _
    · exact ck_5 (lin_5 _ _ _ _) (fk_5 _ _ _ _)
theorem linP_w {zb : Nat → Nat} {zn zp : Nat} {zt : PSt} (h : tK zb zn zp = 0) : (linP zb zn zp zt).1 = (wrK zb zn zp, tS zb zn zp) := by
  have h1 : (linB zb zn zp zt).1 = (wrK zb zn zp, tS zb zn zp) := by
    unfold linB
    rw [if_neg (by omega), fk_w (by decide) h]
  unfold linP
  show ckN _ _ = _
  rw [ck_1 (by rw [h1]; show ¬ wrK zb zn zp = 0; rw [wr_1 h]; decide), h1]
theorem lp_text_71 (E : ME) (h : AH) (zb : Nat → Nat) (zn : Nat) {post : PO} (zR : (Nat × Nat) × Nat × PSt) (K : ∀ (g : AH) (zx : Int32), TLz zR h g zx → Ev E mX11_text (rmm 4 0 0) (QM E 0 0 post) 0 0 95 [some (.ref 49), some (.int zx), none] [] g) : ∀ (zf zp zl : Nat) (zt : PSt) (zg : AH), WF zg → TMz zg zb zn → KTz zg → LAz zb zn zp zg → zp ≤ zn → MSz zt zg → POK zt → FrM h zg → zn + 1 ≤ zp + zf → txtF zb zn zf zp zl zt = zR → Ev E mX11_text (rmm 4 0 0) (QM E 0 0 post) 0 0 71 [some (.ref 49), some (.int (nI zl)), none] [] zg := by
  intro zf
  induction zf with
  | zero =>
    intro zp zl zt zg hw hT hC hL hp hM hO hF hf
    exfalso
    omega
  | succ zf ih =>
    intro zp zl zt zg hw hT hC hL hp hM hO hF hf hE
    rw [txtF] at hE
    by_cases hk0 : tK zb zn zp = 0
    · refine ev_aload_n (pc := 71) dX11_text_71 rfl ?_
      refine ev_getI (pc := 72) dX11_text_72 fX11_100 rfl (wlt hw (by decide)) ?_
      refine ev_if_ne (pc := 75) (tgt := 95) dX11_text_75 (by decide) (fun zc75 => ?_) (fun zc75 => absurd zc75 (LA_b hL hk0))
      have hlw := linP_w (zt := zt) hk0
      rw [if_neg (by omega), if_neg (by rw [hlw]; show ¬ wrK zb zn zp = 0; rw [wr_1 hk0]; decide), hlw] at hE
      subst hE
      exact K zg _ ⟨hF, fun _ => ⟨hL.2.2.2.2.1, hL.2.2.2.2.2 hk0⟩, fun z => absurd (z.symm.trans (wr_1 hk0)) (show ¬ (0 : Nat) = 1 by decide)⟩
    · refine ev_aload_n (pc := 71) dX11_text_71 rfl ?_
      refine ev_getI (pc := 72) dX11_text_72 fX11_100 rfl (wlt hw (by decide)) ?_
      refine ev_if_ne (pc := 75) (tgt := 95) dX11_text_75 (by decide) (fun zc75 => absurd (LA_w hL hk0) zc75) (fun zc75 => ?_)
      refine ev_aload_n (pc := 78) dX11_text_78 rfl ?_
      refine ev_getI (pc := 79) dX11_text_79 fX11_119 rfl (wlt hw (by decide)) ?_
      refine ev_if_eq (pc := 82) (tgt := 95) dX11_text_82 (by decide) (fun zc82 => ?_) (fun zc82 => ?_)
      · -- eq at 82: taken
        have hk1 : tK zb zn zp = 1 := (LA_3 (zk := 0) hL hk0 (by decide)).mp zc82
        rw [if_pos hk1] at hE
        subst hE
        exact K zg _ ⟨hF, fun z => absurd rfl z, fun _ => ⟨LA_w hL hk0, hM, hO, rfl⟩⟩
      · -- eq at 82: not taken
        refine ev_aload_n (pc := 85) dX11_text_85 rfl ?_
        refine ev_callV (S := []) (pc := 86) dX11_text_86 kX11_readLine lX11_178 vX11_readLine (cn_X11_readLine E zg zb zn zp zt hw hT hL hk0 hp hM hO hC) rfl rfl (wlt hw (by decide)) rfl rfl (Nat.le_of_ble_eq_true rfl) ⟨Nat.le_of_ble_eq_true rfl, Nat.le_of_ble_eq_true rfl⟩ ⟨Nat.le_of_ble_eq_true rfl, Nat.le_of_ble_eq_true rfl⟩ ?_
        rintro _ zg2 ⟨rfl, hN⟩
        have wg2 := FrM_w hN.1 hw
        have hF2 := FrM_t hF hN.1
        have hk1 : ¬ tK zb zn zp = 1 := fun z => zc82 ((LA_3 (zk := 0) hL hk0 (by decide)).mpr z)
        rw [if_neg hk1] at hE
        by_cases hc : (linP zb zn zp zt).1.1 = 0
        · rw [if_pos hc] at hE
          obtain ⟨hM2, hL2⟩ := hN.2.2 hc
          have hgt := linP_gt hp hc
          refine ev_iinc (pc := 89) (v := nI (zl + 1)) (L' := [some (.ref 49), some (.int (nI (zl + 1))), none]) dX11_text_89 rfl (nI_1 _) (Nat.le_of_ble_eq_true rfl) rfl ?_
          refine ev_goto (pc := 92) (tgt := 71) dX11_text_92 (by decide) ?_
          exact ih _ (zl + 1) _ zg2 wg2 (FrM_T hN.1 hT) (FrM_K hN.1 hC) hL2 hgt.2 hM2 (linP_ok hO hc) hF2 (by omega) hE
        · rw [if_neg hc] at hE
          obtain ⟨h3, h4⟩ := hN.2.1 hc
          have h5 : (linP zb zn zp zt).1.1 ≤ 5 := ck_5 (lin_5 _ _ _ _) (fk_5 _ _ _ _)
          refine ev_iinc (pc := 89) (v := nI (zl + 1)) (L' := [some (.ref 49), some (.int (nI (zl + 1))), none]) dX11_text_89 rfl (nI_1 _) (Nat.le_of_ble_eq_true rfl) rfl ?_
          refine ev_goto (pc := 92) (tgt := 71) dX11_text_92 (by decide) ?_
          refine ev_aload_n (pc := 71) dX11_text_71 rfl ?_
          refine ev_getI (pc := 72) dX11_text_72 fX11_100 rfl (wlt wg2 (by decide)) ?_
          refine ev_if_ne (pc := 75) (tgt := 95) dX11_text_75 (by decide) (fun zc75 => ?_) (fun zc75 => absurd zc75 (c5_n h5 hc h3))
          subst hE
          exact K zg2 _ ⟨hF2, fun _ => ⟨h3, h4⟩, fun z => absurd z hc⟩
theorem lp_text_40 (E : ME) (h : AH) (hw : WF h) {post : PO} (K : Ev E mX11_text (rmm 4 0 0) (QM E 0 0 post) 0 0 67 [some (.ref 49), some (.int 0), some (.int (nI 6))] [] (sI (sI h 64 (cpF (fun _ => 1) (h.2.1 64) 6)) 65 (cpF (fun _ => 10) (h.2.1 65) 6))) : ∀ n i : Nat, i + n = 6 → Ev E mX11_text (rmm 4 0 0) (QM E 0 0 post) 0 0 40 [some (.ref 49), some (.int 0), some (.int (nI i))] [] (sI (sI h 64 (cpF (fun _ => 1) (h.2.1 64) i)) 65 (cpF (fun _ => 10) (h.2.1 65) i)) := by
  intro n
  induction n with
  | zero =>
    intro i hi
    obtain rfl : 6 = i := by omega
    refine ev_iload_n (pc := 40) dX11_text_40 rfl ?_
    refine ev_bipush (pc := 41) (v := 6) dX11_text_41 (by decide) ?_
    refine ev_icmp_ge (pc := 43) (tgt := 67) dX11_text_43 (by decide) (fun zc43 => ?_) (fun zc43 => absurd (by decide) zc43)
    exact K
  | succ n ih =>
    intro i hi
    have hlt : i < 6 := by omega
    refine ev_iload_n (pc := 40) dX11_text_40 rfl ?_
    refine ev_bipush (pc := 41) (v := 6) dX11_text_41 (by decide) ?_
    refine ev_icmp_ge (pc := 43) (tgt := 67) dX11_text_43 (by decide) (fun zc43 => absurd zc43 (nI_ge (a := i) (b := 6) hlt (by decide))) (fun zc43 => ?_)
    refine ev_aload_n (pc := 46) dX11_text_46 rfl ?_
    refine ev_getR (pc := 47) (q := 64) dX11_text_47 fX11_56 rfl (wlt (wf_sI (wf_sI hw)) (by decide)) (wr (wf_sI (wf_sI hw)) rfl) ?_
    refine ev_iload_n (pc := 50) dX11_text_50 rfl ?_
    refine ev_iconst (pc := 51) (v := 1) dX11_text_51 (by decide) ?_
    refine ev_iast (pc := 52) dX11_text_52 rfl (wlt (wf_sI (wf_sI hw)) (by decide)) (vp_in_nI (by omega) (by decide)) ?_
    refine ev_eqH (h' := sI (sI h 64 (upd (cpF (fun _ => 1) (h.2.1 64) i) i 1)) 65 (cpF (fun _ => 10) (h.2.1 65) i)) (by rw [show Int32.toNatClampNeg (nI i) = i from nI_clamp (by omega)]; exact sI_dp _ (by decide) _ _ _) ?_
    refine ev_aload_n (pc := 53) dX11_text_53 rfl ?_
    refine ev_getR (pc := 54) (q := 65) dX11_text_54 fX11_59 rfl (wlt (wf_sI (wf_sI hw)) (by decide)) (wr (wf_sI (wf_sI hw)) rfl) ?_
    refine ev_iload_n (pc := 57) dX11_text_57 rfl ?_
    refine ev_bipush (pc := 58) (v := 10) dX11_text_58 (by decide) ?_
    refine ev_iast (pc := 60) dX11_text_60 rfl (wlt (wf_sI (wf_sI hw)) (by decide)) (vp_in_nI (by omega) (by decide)) ?_
    refine ev_eqH (h' := sI (sI h 64 (upd (cpF (fun _ => 1) (h.2.1 64) i) i 1)) 65 (upd (cpF (fun _ => 10) (h.2.1 65) i) i 10)) (by rw [show Int32.toNatClampNeg (nI i) = i from nI_clamp (by omega)]; exact sI_sI _ _ _ _) ?_
    refine ev_iinc (pc := 61) (v := nI (i + 1)) (L' := [some (.ref 49), some (.int 0), some (.int (nI (i + 1)))]) dX11_text_61 rfl (nI_1 _) (Nat.le_of_ble_eq_true rfl) rfl ?_
    refine ev_goto (pc := 64) (tgt := 40) dX11_text_64 (by decide) ?_
    exact ih (i + 1) (by omega)
theorem sI_3 (h : AH) {za zb zc : Nat} (h1 : za ≠ zb) (h2 : za ≠ zc) (h3 : zb ≠ zc) (f g k f2 : Nat → Int32) : sI (sI (sI (sI h za f) zb g) zc k) za f2 = sI (sI (sI h za f2) zb g) zc k := by
  rw [sI_cm _ h2 k f2, sI_dp h (Ne.symm h1)]
theorem lp_text_149 (E : ME) (h : AH) (zm : Nat) (zx : Int32) (hw : WF h) (hm : h.2.1 49 14 = nI zm) (hm2 : zm ≤ 12) {post : PO} (K : Ev E mX11_text (rmm 4 0 0) (QM E 0 0 post) 0 0 199 [some (.ref 49), some (.int zx), some (.int (nI zm))] [] (sI (sI (sI h 53 (cpF (h.2.1 59) (h.2.1 53) zm)) 54 (cpF (h.2.1 60) (h.2.1 54) zm)) 55 (cpF (h.2.1 61) (h.2.1 55) zm))) : ∀ n i : Nat, i + n = zm → Ev E mX11_text (rmm 4 0 0) (QM E 0 0 post) 0 0 149 [some (.ref 49), some (.int zx), some (.int (nI i))] [] (sI (sI (sI h 53 (cpF (h.2.1 59) (h.2.1 53) i)) 54 (cpF (h.2.1 60) (h.2.1 54) i)) 55 (cpF (h.2.1 61) (h.2.1 55) i)) := by
  intro n
  induction n with
  | zero =>
    intro i hi
    obtain rfl : zm = i := by omega
    refine ev_iload_n (pc := 149) dX11_text_149 rfl ?_
    refine ev_aload_n (pc := 150) dX11_text_150 rfl ?_
    refine ev_getI (pc := 151) dX11_text_151 fX11_184 rfl (wlt (wf_sI (wf_sI (wf_sI hw))) (by decide)) ?_
    refine ev_eqI (e' := h.2.1 49 14) (by rfl) ?_
    refine ev_icmp_ge (pc := 154) (tgt := 199) dX11_text_154 (by decide) (fun zc154 => ?_) (fun zc154 => absurd (by rw [hm]; exact nI_le (Nat.le_refl _) (by omega)) zc154)
    exact K
  | succ n ih =>
    intro i hi
    have hlt : i < zm := by omega
    refine ev_iload_n (pc := 149) dX11_text_149 rfl ?_
    refine ev_aload_n (pc := 150) dX11_text_150 rfl ?_
    refine ev_getI (pc := 151) dX11_text_151 fX11_184 rfl (wlt (wf_sI (wf_sI (wf_sI hw))) (by decide)) ?_
    refine ev_eqI (e' := h.2.1 49 14) (by rfl) ?_
    refine ev_icmp_ge (pc := 154) (tgt := 199) dX11_text_154 (by decide) (fun zc154 => absurd zc154 (by rw [hm]; exact nI_ge hlt (by omega))) (fun zc154 => ?_)
    refine ev_aload_n (pc := 157) dX11_text_157 rfl ?_
    refine ev_getR (pc := 158) (q := 53) dX11_text_158 fX11_19 rfl (wlt (wf_sI (wf_sI (wf_sI hw))) (by decide)) (wr (wf_sI (wf_sI (wf_sI hw))) rfl) ?_
    refine ev_iload_n (pc := 161) dX11_text_161 rfl ?_
    refine ev_aload_n (pc := 162) dX11_text_162 rfl ?_
    refine ev_getR (pc := 163) (q := 59) dX11_text_163 fX11_41 rfl (wlt (wf_sI (wf_sI (wf_sI hw))) (by decide)) (wr (wf_sI (wf_sI (wf_sI hw))) rfl) ?_
    refine ev_iload_n (pc := 166) dX11_text_166 rfl ?_
    refine ev_iald (pc := 167) dX11_text_167 rfl (wlt (wf_sI (wf_sI (wf_sI hw))) (by decide)) (vp_in_nI (by omega) (by decide)) ?_
    refine ev_eqI (e' := h.2.1 59 i) (by rw [show Int32.toNatClampNeg (nI i) = i from nI_clamp (by omega)] <;> rfl) ?_
    refine ev_iast (pc := 168) dX11_text_168 rfl (wlt (wf_sI (wf_sI (wf_sI hw))) (by decide)) (vp_in_nI (by omega) (by decide)) ?_
    refine ev_eqH (h' := sI (sI (sI h 53 (upd (cpF (h.2.1 59) (h.2.1 53) i) i (h.2.1 59 i))) 54 (cpF (h.2.1 60) (h.2.1 54) i)) 55 (cpF (h.2.1 61) (h.2.1 55) i)) (by rw [show Int32.toNatClampNeg (nI i) = i from nI_clamp (by omega)]; first | exact sI_3 _ (by decide) (by decide) (by decide) _ _ _ _) ?_
    refine ev_aload_n (pc := 169) dX11_text_169 rfl ?_
    refine ev_getR (pc := 170) (q := 54) dX11_text_170 fX11_22 rfl (wlt (wf_sI (wf_sI (wf_sI hw))) (by decide)) (wr (wf_sI (wf_sI (wf_sI hw))) rfl) ?_
    refine ev_iload_n (pc := 173) dX11_text_173 rfl ?_
    refine ev_aload_n (pc := 174) dX11_text_174 rfl ?_
    refine ev_getR (pc := 175) (q := 60) dX11_text_175 fX11_44 rfl (wlt (wf_sI (wf_sI (wf_sI hw))) (by decide)) (wr (wf_sI (wf_sI (wf_sI hw))) rfl) ?_
    refine ev_iload_n (pc := 178) dX11_text_178 rfl ?_
    refine ev_iald (pc := 179) dX11_text_179 rfl (wlt (wf_sI (wf_sI (wf_sI hw))) (by decide)) (vp_in_nI (by omega) (by decide)) ?_
    refine ev_eqI (e' := h.2.1 60 i) (by rw [show Int32.toNatClampNeg (nI i) = i from nI_clamp (by omega)] <;> rfl) ?_
    refine ev_iast (pc := 180) dX11_text_180 rfl (wlt (wf_sI (wf_sI (wf_sI hw))) (by decide)) (vp_in_nI (by omega) (by decide)) ?_
    refine ev_eqH (h' := sI (sI (sI h 53 (upd (cpF (h.2.1 59) (h.2.1 53) i) i (h.2.1 59 i))) 54 (upd (cpF (h.2.1 60) (h.2.1 54) i) i (h.2.1 60 i))) 55 (cpF (h.2.1 61) (h.2.1 55) i)) (by rw [show Int32.toNatClampNeg (nI i) = i from nI_clamp (by omega)]; exact sI_dp _ (by decide) _ _ _) ?_
    refine ev_aload_n (pc := 181) dX11_text_181 rfl ?_
    refine ev_getR (pc := 182) (q := 55) dX11_text_182 fX11_25 rfl (wlt (wf_sI (wf_sI (wf_sI hw))) (by decide)) (wr (wf_sI (wf_sI (wf_sI hw))) rfl) ?_
    refine ev_iload_n (pc := 185) dX11_text_185 rfl ?_
    refine ev_aload_n (pc := 186) dX11_text_186 rfl ?_
    refine ev_getR (pc := 187) (q := 61) dX11_text_187 fX11_47 rfl (wlt (wf_sI (wf_sI (wf_sI hw))) (by decide)) (wr (wf_sI (wf_sI (wf_sI hw))) rfl) ?_
    refine ev_iload_n (pc := 190) dX11_text_190 rfl ?_
    refine ev_iald (pc := 191) dX11_text_191 rfl (wlt (wf_sI (wf_sI (wf_sI hw))) (by decide)) (vp_in_nI (by omega) (by decide)) ?_
    refine ev_eqI (e' := h.2.1 61 i) (by rw [show Int32.toNatClampNeg (nI i) = i from nI_clamp (by omega)] <;> rfl) ?_
    refine ev_iast (pc := 192) dX11_text_192 rfl (wlt (wf_sI (wf_sI (wf_sI hw))) (by decide)) (vp_in_nI (by omega) (by decide)) ?_
    refine ev_eqH (h' := sI (sI (sI h 53 (upd (cpF (h.2.1 59) (h.2.1 53) i) i (h.2.1 59 i))) 54 (upd (cpF (h.2.1 60) (h.2.1 54) i) i (h.2.1 60 i))) 55 (upd (cpF (h.2.1 61) (h.2.1 55) i) i (h.2.1 61 i))) (by rw [show Int32.toNatClampNeg (nI i) = i from nI_clamp (by omega)]; exact sI_sI _ _ _ _) ?_
    refine ev_iinc (pc := 193) (v := nI (i + 1)) (L' := [some (.ref 49), some (.int zx), some (.int (nI (i + 1)))]) dX11_text_193 rfl (nI_1 _) (Nat.le_of_ble_eq_true rfl) rfl ?_
    refine ev_goto (pc := 196) (tgt := 149) dX11_text_196 (by decide) ?_
    exact ih (i + 1) (by omega)
theorem lp_text_201 (E : ME) (h : AH) (zx : Int32) (hw : WF h) {post : PO} (K : Ev E mX11_text (rmm 4 0 0) (QM E 0 0 post) 0 0 225 [some (.ref 49), some (.int zx), some (.int (nI 64))] [] (sI h 56 (cpF (h.2.1 63) (h.2.1 56) 64))) : ∀ n i : Nat, i + n = 64 → Ev E mX11_text (rmm 4 0 0) (QM E 0 0 post) 0 0 201 [some (.ref 49), some (.int zx), some (.int (nI i))] [] (sI h 56 (cpF (h.2.1 63) (h.2.1 56) i)) := by
  intro n
  induction n with
  | zero =>
    intro i hi
    obtain rfl : 64 = i := by omega
    refine ev_iload_n (pc := 201) dX11_text_201 rfl ?_
    refine ev_bipush (pc := 202) (v := 64) dX11_text_202 (by decide) ?_
    refine ev_icmp_ge (pc := 204) (tgt := 225) dX11_text_204 (by decide) (fun zc204 => ?_) (fun zc204 => absurd (by decide) zc204)
    exact K
  | succ n ih =>
    intro i hi
    have hlt : i < 64 := by omega
    refine ev_iload_n (pc := 201) dX11_text_201 rfl ?_
    refine ev_bipush (pc := 202) (v := 64) dX11_text_202 (by decide) ?_
    refine ev_icmp_ge (pc := 204) (tgt := 225) dX11_text_204 (by decide) (fun zc204 => absurd zc204 (nI_ge (a := i) (b := 64) hlt (by decide))) (fun zc204 => ?_)
    refine ev_aload_n (pc := 207) dX11_text_207 rfl ?_
    refine ev_getR (pc := 208) (q := 56) dX11_text_208 fX11_28 rfl (wlt (wf_sI hw) (by decide)) (wr (wf_sI hw) rfl) ?_
    refine ev_iload_n (pc := 211) dX11_text_211 rfl ?_
    refine ev_aload_n (pc := 212) dX11_text_212 rfl ?_
    refine ev_getR (pc := 213) (q := 63) dX11_text_213 fX11_53 rfl (wlt (wf_sI hw) (by decide)) (wr (wf_sI hw) rfl) ?_
    refine ev_iload_n (pc := 216) dX11_text_216 rfl ?_
    refine ev_iald (pc := 217) dX11_text_217 rfl (wlt (wf_sI hw) (by decide)) (vp_in_nI (by omega) (by decide)) ?_
    refine ev_eqI (e' := h.2.1 63 i) (by rw [show Int32.toNatClampNeg (nI i) = i from nI_clamp (by omega)] <;> rfl) ?_
    refine ev_iast (pc := 218) dX11_text_218 rfl (wlt (wf_sI hw) (by decide)) (vp_in_nI (by omega) (by decide)) ?_
    refine ev_eqH (h' := sI h 56 (upd (cpF (h.2.1 63) (h.2.1 56) i) i (h.2.1 63 i))) (by rw [show Int32.toNatClampNeg (nI i) = i from nI_clamp (by omega)]; exact sI_sI _ _ _ _) ?_
    refine ev_iinc (pc := 219) (v := nI (i + 1)) (L' := [some (.ref 49), some (.int zx), some (.int (nI (i + 1)))]) dX11_text_219 rfl (nI_1 _) (Nat.le_of_ble_eq_true rfl) rfl ?_
    refine ev_goto (pc := 222) (tgt := 201) dX11_text_222 (by decide) ?_
    exact ih (i + 1) (by omega)
theorem lp_text_227 (E : ME) (h : AH) (zx : Int32) (hw : WF h) {post : PO} (K : Ev E mX11_text (rmm 4 0 0) (QM E 0 0 post) 0 0 263 [some (.ref 49), some (.int zx), some (.int (nI 6))] [] (sI (sI h 57 (cpF (h.2.1 64) (h.2.1 57) 6)) 58 (cpF (h.2.1 65) (h.2.1 58) 6))) : ∀ n i : Nat, i + n = 6 → Ev E mX11_text (rmm 4 0 0) (QM E 0 0 post) 0 0 227 [some (.ref 49), some (.int zx), some (.int (nI i))] [] (sI (sI h 57 (cpF (h.2.1 64) (h.2.1 57) i)) 58 (cpF (h.2.1 65) (h.2.1 58) i)) := by
  intro n
  induction n with
  | zero =>
    intro i hi
    obtain rfl : 6 = i := by omega
    refine ev_iload_n (pc := 227) dX11_text_227 rfl ?_
    refine ev_bipush (pc := 228) (v := 6) dX11_text_228 (by decide) ?_
    refine ev_icmp_ge (pc := 230) (tgt := 263) dX11_text_230 (by decide) (fun zc230 => ?_) (fun zc230 => absurd (by decide) zc230)
    exact K
  | succ n ih =>
    intro i hi
    have hlt : i < 6 := by omega
    refine ev_iload_n (pc := 227) dX11_text_227 rfl ?_
    refine ev_bipush (pc := 228) (v := 6) dX11_text_228 (by decide) ?_
    refine ev_icmp_ge (pc := 230) (tgt := 263) dX11_text_230 (by decide) (fun zc230 => absurd zc230 (nI_ge (a := i) (b := 6) hlt (by decide))) (fun zc230 => ?_)
    refine ev_aload_n (pc := 233) dX11_text_233 rfl ?_
    refine ev_getR (pc := 234) (q := 57) dX11_text_234 fX11_35 rfl (wlt (wf_sI (wf_sI hw)) (by decide)) (wr (wf_sI (wf_sI hw)) rfl) ?_
    refine ev_iload_n (pc := 237) dX11_text_237 rfl ?_
    refine ev_aload_n (pc := 238) dX11_text_238 rfl ?_
    refine ev_getR (pc := 239) (q := 64) dX11_text_239 fX11_56 rfl (wlt (wf_sI (wf_sI hw)) (by decide)) (wr (wf_sI (wf_sI hw)) rfl) ?_
    refine ev_iload_n (pc := 242) dX11_text_242 rfl ?_
    refine ev_iald (pc := 243) dX11_text_243 rfl (wlt (wf_sI (wf_sI hw)) (by decide)) (vp_in_nI (by omega) (by decide)) ?_
    refine ev_eqI (e' := h.2.1 64 i) (by rw [show Int32.toNatClampNeg (nI i) = i from nI_clamp (by omega)] <;> rfl) ?_
    refine ev_iast (pc := 244) dX11_text_244 rfl (wlt (wf_sI (wf_sI hw)) (by decide)) (vp_in_nI (by omega) (by decide)) ?_
    refine ev_eqH (h' := sI (sI h 57 (upd (cpF (h.2.1 64) (h.2.1 57) i) i (h.2.1 64 i))) 58 (cpF (h.2.1 65) (h.2.1 58) i)) (by rw [show Int32.toNatClampNeg (nI i) = i from nI_clamp (by omega)]; exact sI_dp _ (by decide) _ _ _) ?_
    refine ev_aload_n (pc := 245) dX11_text_245 rfl ?_
    refine ev_getR (pc := 246) (q := 58) dX11_text_246 fX11_38 rfl (wlt (wf_sI (wf_sI hw)) (by decide)) (wr (wf_sI (wf_sI hw)) rfl) ?_
    refine ev_iload_n (pc := 249) dX11_text_249 rfl ?_
    refine ev_aload_n (pc := 250) dX11_text_250 rfl ?_
    refine ev_getR (pc := 251) (q := 65) dX11_text_251 fX11_59 rfl (wlt (wf_sI (wf_sI hw)) (by decide)) (wr (wf_sI (wf_sI hw)) rfl) ?_
    refine ev_iload_n (pc := 254) dX11_text_254 rfl ?_
    refine ev_iald (pc := 255) dX11_text_255 rfl (wlt (wf_sI (wf_sI hw)) (by decide)) (vp_in_nI (by omega) (by decide)) ?_
    refine ev_eqI (e' := h.2.1 65 i) (by rw [show Int32.toNatClampNeg (nI i) = i from nI_clamp (by omega)] <;> rfl) ?_
    refine ev_iast (pc := 256) dX11_text_256 rfl (wlt (wf_sI (wf_sI hw)) (by decide)) (vp_in_nI (by omega) (by decide)) ?_
    refine ev_eqH (h' := sI (sI h 57 (upd (cpF (h.2.1 64) (h.2.1 57) i) i (h.2.1 64 i))) 58 (upd (cpF (h.2.1 65) (h.2.1 58) i) i (h.2.1 65 i))) (by rw [show Int32.toNatClampNeg (nI i) = i from nI_clamp (by omega)]; exact sI_sI _ _ _ _) ?_
    refine ev_iinc (pc := 257) (v := nI (i + 1)) (L' := [some (.ref 49), some (.int zx), some (.int (nI (i + 1)))]) dX11_text_257 rfl (nI_1 _) (Nat.le_of_ble_eq_true rfl) rfl ?_
    refine ev_goto (pc := 260) (tgt := 227) dX11_text_260 (by decide) ?_
    exact ih (i + 1) (by omega)
