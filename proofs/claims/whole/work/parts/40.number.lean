theorem cn_fails0 (E : ME) (h : AH) (zc : Int32) (hw : WF h) (h0 : h.2.1 49 3 = 0) : Con E mX11_fails 0 0 0 [.ref 49, .int zc] h (fun r h' => r = none ∧ h' = sI h 49 (upd (upd (h.2.1 49) 3 zc) 4 (h.2.1 49 6))) := by
  have z1 := cn_X11_fails E h zc hw
  rw [if_pos h0] at z1
  exact z1
theorem cn_failsW (E : ME) (h : AH) (zc : Int32) (hw : WF h) (h0 : ¬ h.2.1 49 3 = 0) : Con E mX11_fails 0 0 0 [.ref 49, .int zc] h (fun r h' => r = none ∧ h' = h) := by
  have z1 := cn_X11_fails E h zc hw
  rw [if_neg h0] at z1
  exact z1
theorem dg3_V {zb : Nat → Nat} {zn zp : Nat} (h : tE zb zn zp - tS zb zn zp ≤ 3) : dg3 zb (tS zb zn zp) (tE zb zn zp - tS zb zn zp) = tV zb zn zp := by
  unfold dg3 tV
  by_cases h2 : tE zb zn zp - tS zb zn zp < 3
  · rw [if_pos h2]
  · rw [if_neg h2, show tE zb zn zp - tS zb zn zp = 3 by omega]
theorem cn_X11_next (E : ME) (h : AH) (zb : Nat → Nat) (zn zp : Nat) (hw : WF h) (hT : TMz h zb zn) (hwr : h.2.1 49 3 = 0) (hsp : h.2.1 49 5 = nI zp) (hp : zp ≤ zn) : Con E mX11_next 1 0 0 [.ref 49] h (fun r h' => r = none ∧ scE h h' ∧ LAz zb zn zp h') := by
  refine con_of2 (L := [some (.ref 49), none]) rfl (Nat.le_of_ble_eq_true rfl) rfl ?_
  have zSo := tS_ok zb hp
  have zn4 := hT.2.1
  refine ev_aload_n (pc := 0) dX11_next_0 rfl ?_
  refine ev_getI (pc := 1) dX11_next_1 fX11_100 rfl (wlt hw (by decide)) ?_
  refine ev_if_le (pc := 4) (tgt := 8) dX11_next_4 (by decide) (fun zc4 => ?_) (fun zc4 => absurd (by rw [hwr]; decide) zc4)
  refine ev_eqH (h' := sI h 49 (upd (h.2.1 49) 5 (nI zp))) (by rw [← rnf_id hsp, sI_id]) ?_
  refine lp_next_8 E h zb zn (h.2.1 49) 0 hw hT hT.1 (zn - zp) zp (by omega) ?_
  refine ev_eqH (h' := sI h 49 (upd (h.2.1 49) 5 (nI (tS zb zn zp)))) rfl ?_
  refine ev_aload_n (pc := 34) dX11_next_34 rfl ?_
  refine ev_aload_n (pc := 35) dX11_next_35 rfl ?_
  refine ev_getI (pc := 36) dX11_next_36 fX11_109 rfl (wlt (wf_sI hw) (by decide)) ?_
  refine ev_eqI (e' := nI (tS zb zn zp)) (by rfl) ?_
  refine ev_putI (pc := 39) dX11_next_39 fX11_103 rfl (wlt (wf_sI hw) (by decide)) ?_
  refine ev_eqH (h' := sI h 49 (upd (upd (h.2.1 49) 5 (nI (tS zb zn zp))) 6 (nI (tS zb zn zp)))) (by exact sI_sI _ _ _ _) ?_
  refine ev_aload_n (pc := 42) dX11_next_42 rfl ?_
  refine ev_aload_n (pc := 43) dX11_next_43 rfl ?_
  refine ev_getI (pc := 44) dX11_next_44 fX11_109 rfl (wlt (wf_sI hw) (by decide)) ?_
  refine ev_eqI (e' := nI (tS zb zn zp)) (by rfl) ?_
  refine ev_callVv (S := []) (pc := 47) dX11_next_47 kX11_byteAt lX11_112 vX11_byteAt (cn_byteN E (sI h 49 (upd (upd (h.2.1 49) 5 (nI (tS zb zn zp))) 6 (nI (tS zb zn zp)))) zb zn (tS zb zn zp) (wf_sI hw) (tm_f hT (by first | exact hf | exact hT.1)) (by have := hT.2.1; omega)) rfl rfl (wlt (wf_sI hw) (by decide)) rfl rfl (Nat.le_of_ble_eq_true rfl) ⟨Nat.le_of_ble_eq_true rfl, Nat.le_of_ble_eq_true rfl⟩ ⟨Nat.le_of_ble_eq_true rfl, Nat.le_of_ble_eq_true rfl⟩ ?_
  refine ev_istore_n (pc := 50) (L' := [some (.ref 49), some (.int (bz zb zn (tS zb zn zp)))]) dX11_next_50 (Nat.le_of_ble_eq_true rfl) rfl ?_
  refine ev_aload_n (pc := 51) dX11_next_51 rfl ?_
  refine ev_iconst (pc := 52) (v := 0) dX11_next_52 (by decide) ?_
  refine ev_putI (pc := 53) dX11_next_53 fX11_116 rfl (wlt (wf_sI hw) (by decide)) ?_
  refine ev_eqH (h' := sI h 49 (upd (upd (upd (h.2.1 49) 5 (nI (tS zb zn zp))) 6 (nI (tS zb zn zp))) 8 0)) (by exact sI_sI _ _ _ _) ?_
  refine ev_iload_n (pc := 56) dX11_next_56 rfl ?_
  refine ev_bipush (pc := 57) (v := (-4)) dX11_next_57 (by decide) ?_
  refine ev_icmp_ne (pc := 59) (tgt := 70) dX11_next_59 (by decide) (fun zc59 => ?_) (fun zc59 => ?_)
  · -- ne at 59: taken
    refine ev_iload_n (pc := 70) dX11_next_70 rfl ?_
    refine ev_i2l (pc := 71) dX11_next_71 ?_
    refine ev_ldc2 (pc := 72) (v := 97) dX11_next_72 kcX11_122 ?_
    refine ev_ldc2 (pc := 75) (v := 122) dX11_next_75 kcX11_124 ?_
    refine ev_callSv (S := []) (pc := 78) dX11_next_78 kX11_in lX11_96 sX11_in (cn_X11_inC E (sI h 49 (upd (upd (upd (h.2.1 49) 5 (nI (tS zb zn zp))) 6 (nI (tS zb zn zp))) 8 0)) (bz zb zn (tS zb zn zp)) 97 122 _ _ _ rfl (by decide) (by decide)) rfl rfl (Nat.le_of_ble_eq_true rfl) ⟨Nat.le_of_ble_eq_true rfl, Nat.le_of_ble_eq_true rfl⟩ ⟨Nat.le_of_ble_eq_true rfl, Nat.le_of_ble_eq_true rfl⟩ ?_
    refine ev_if_eq (pc := 81) (tgt := 126) dX11_next_81 (by decide) (fun zc81 => ?_) (fun zc81 => ?_)
    · -- eq at 81: taken
      refine ev_iload_n (pc := 126) dX11_next_126 rfl ?_
      refine ev_i2l (pc := 127) dX11_next_127 ?_
      refine ev_ldc2 (pc := 128) (v := 48) dX11_next_128 kcX11_126 ?_
      refine ev_ldc2 (pc := 131) (v := 57) dX11_next_131 kcX11_128 ?_
      refine ev_callSv (S := []) (pc := 134) dX11_next_134 kX11_in lX11_96 sX11_in (cn_X11_inC E (sI h 49 (upd (upd (upd (h.2.1 49) 5 (nI (tS zb zn zp))) 6 (nI (tS zb zn zp))) 8 0)) (bz zb zn (tS zb zn zp)) 48 57 _ _ _ rfl (by decide) (by decide)) rfl rfl (Nat.le_of_ble_eq_true rfl) ⟨Nat.le_of_ble_eq_true rfl, Nat.le_of_ble_eq_true rfl⟩ ⟨Nat.le_of_ble_eq_true rfl, Nat.le_of_ble_eq_true rfl⟩ ?_
      refine ev_if_eq (pc := 137) (tgt := 243) dX11_next_137 (by decide) (fun zc137 => ?_) (fun zc137 => ?_)
      · -- eq at 137: taken
        refine ev_aload_n (pc := 243) dX11_next_243 rfl ?_
        refine ev_iconst (pc := 244) (v := 3) dX11_next_244 (by decide) ?_
        refine ev_putI (pc := 245) dX11_next_245 fX11_119 rfl (wlt (wf_sI hw) (by decide)) ?_
        refine ev_eqH (h' := sI h 49 (upd (upd (upd (upd (h.2.1 49) 5 (nI (tS zb zn zp))) 6 (nI (tS zb zn zp))) 8 0) 7 3)) (by exact sI_sI _ _ _ _) ?_
        refine ev_aload_n (pc := 248) dX11_next_248 rfl ?_
        refine ev_dup (pc := 249) dX11_next_249 rfl ?_
        refine ev_getI (pc := 250) dX11_next_250 fX11_109 rfl (wlt (wf_sI hw) (by decide)) ?_
        refine ev_eqI (e' := nI (tS zb zn zp)) (by rfl) ?_
        refine ev_iconst (pc := 253) (v := 1) dX11_next_253 (by decide) ?_
        refine ev_iadd (pc := 254) dX11_next_254 ?_
        refine ev_eqI (e' := nI ((tS zb zn zp) + 1)) (nI_add (tS zb zn zp) 1) ?_
        refine ev_putI (pc := 255) dX11_next_255 fX11_109 rfl (wlt (wf_sI hw) (by decide)) ?_
        refine ev_eqH (h' := sI h 49 (upd (upd (upd (upd (h.2.1 49) 5 (nI ((tS zb zn zp) + 1))) 6 (nI (tS zb zn zp))) 8 0) 7 3)) (by refine (sI_sI _ _ _ _).trans ?_; refine congrArg _ (funext fun zj => ?_); simp only [upd, vp_updL, sI_at]; (repeat' split) <;> first | rfl | (exfalso; omega)) ?_
        refine ev_iload_n (pc := 258) dX11_next_258 rfl ?_
        refine ev_bipush (pc := 259) (v := 59) dX11_next_259 (by decide) ?_
        refine ev_icmp_eq (pc := 261) (tgt := 269) dX11_next_261 (by decide) (fun zc261 => ?_) (fun zc261 => ?_)
        · -- eq at 261: taken
          refine ev_ret (pc := 269) dX11_next_269 rfl ?_
          · have zs1 : (tS zb zn zp) < zn := ((Nat.not_le.mp (fun z => zc59 ((bz_4 hT).mpr (Nat.not_lt.mpr z)))))
            have zs2 : ¬ isL (zb (tS zb zn zp)) = true := fun z => bI_0.mp zc81 ((bz_L hT).mpr ⟨zs1, z⟩)
            have zs3 : ¬ isD (zb (tS zb zn zp)) = true := fun z => bI_0.mp zc137 ((bz_D hT).mpr ⟨zs1, z⟩)
            have zt := tk_sg zs1 zs2 zs3
            have zK := zt.1
            rw [if_pos ((bz_c (zc := 59) hT (by decide)).mp zc261).2] at zK
            exact ⟨rfl, scE_s h _ (fun zj hj => by simp only [upd]; (repeat' split) <;> first | rfl | (exfalso; omega)), congrArg nI zt.2.symm, rfl, fun _ => by rw [zK]; rfl, fun z => absurd (zK.symm.trans z) (by decide), hwr.trans (by unfold wrK; rw [zK]; rfl), fun z => absurd (zK.symm.trans z) (by decide)⟩
        · -- eq at 261: not taken
          refine ev_aload_n (pc := 264) dX11_next_264 rfl ?_
          refine ev_iconst (pc := 265) (v := 1) dX11_next_265 (by decide) ?_
          refine ev_callV0 (S := []) (pc := 266) dX11_next_266 kX11_fails lX11_130 vX11_fails (cn_fails0 E (sI h 49 (upd (upd (upd (upd (h.2.1 49) 5 (nI ((tS zb zn zp) + 1))) 6 (nI (tS zb zn zp))) 8 0) 7 3)) 1 (wf_sI hw) hwr) rfl rfl (wlt (wf_sI hw) (by decide)) rfl rfl (Nat.le_of_ble_eq_true rfl) ⟨Nat.le_of_ble_eq_true rfl, Nat.le_of_ble_eq_true rfl⟩ ⟨Nat.le_of_ble_eq_true rfl, Nat.le_of_ble_eq_true rfl⟩ ?_
          refine ev_eqH (h' := sI h 49 (upd (upd (upd (upd (upd (upd (h.2.1 49) 5 (nI ((tS zb zn zp) + 1))) 6 (nI (tS zb zn zp))) 8 0) 7 3) 3 1) 4 (nI (tS zb zn zp)))) (by first | exact (sI_sI _ _ _ _).trans rfl | rfl) ?_
          refine ev_ret (pc := 269) dX11_next_269 rfl ?_
          · have zs1 : (tS zb zn zp) < zn := ((Nat.not_le.mp (fun z => zc59 ((bz_4 hT).mpr (Nat.not_lt.mpr z)))))
            have zs2 : ¬ isL (zb (tS zb zn zp)) = true := fun z => bI_0.mp zc81 ((bz_L hT).mpr ⟨zs1, z⟩)
            have zs3 : ¬ isD (zb (tS zb zn zp)) = true := fun z => bI_0.mp zc137 ((bz_D hT).mpr ⟨zs1, z⟩)
            have zt := tk_sg zs1 zs2 zs3
            have zK := zt.1
            rw [if_neg (fun z => zc261 ((bz_c (zc := 59) hT (by decide)).mpr ⟨zs1, z⟩))] at zK
            exact ⟨rfl, scE_s h _ (fun zj hj => by simp only [upd]; (repeat' split) <;> first | rfl | (exfalso; omega)), congrArg nI zt.2.symm, rfl, fun z => absurd zK z, fun z => absurd (zK.symm.trans z) (by decide), by unfold wrK; rw [zK]; rfl, fun _ => rfl⟩
      · -- eq at 137: not taken
        have zs1 := (bz_D hT).mp (bI_n0.mp zc137)
        have zs2 : ¬ isL (zb (tS zb zn zp)) = true := fun z => bI_0.mp zc81 ((bz_L hT).mpr ⟨zs1.1, z⟩)
        have zt := tk_nb zs1.1 zs2 zs1.2
        have ztE := tE_ok zb hp
        have zE2 : rnN zb zn isD ((tS zb zn zp) + 0) - (tS zb zn zp) = (tE zb zn zp) - (tS zb zn zp) := by rw [Nat.add_zero, ← zt.2]
        have zE : (tS zb zn zp) + (rnN zb zn isD ((tS zb zn zp) + 0) - (tS zb zn zp)) = (tE zb zn zp) := by rw [zE2]; omega
        refine ev_eqH (h' := sI h 49 (upd (upd (upd (upd (upd (h.2.1 49) 5 (nI (tS zb zn zp))) 6 (nI (tS zb zn zp))) 8 0) 5 (nI ((tS zb zn zp) + 0))) 8 (nI (dg3 zb (tS zb zn zp) 0)))) (congrArg (sI h 49) (funext fun zj => by simp only [upd]; (repeat' split) <;> first | rfl | (exfalso; omega))) ?_
        refine lp_next_140 E h zb zn (upd (upd (upd (h.2.1 49) 5 (nI (tS zb zn zp))) 6 (nI (tS zb zn zp))) 8 0) (bz zb zn (tS zb zn zp)) (tS zb zn zp) hw hT hT.1 rfl (zn - (tS zb zn zp)) 0 (by omega) (fun zj hj => absurd hj (Nat.not_lt_zero _)) ?_
        refine ev_eqH (h' := sI h 49 (upd (upd (upd (h.2.1 49) 5 (nI (tE zb zn zp))) 6 (nI (tS zb zn zp))) 8 (nI (dg3 zb (tS zb zn zp) ((tE zb zn zp) - (tS zb zn zp)))))) (by rw [zE, zE2]; exact (congrArg (sI h 49) (funext fun zj => by simp only [upd]; (repeat' split) <;> first | rfl | (exfalso; omega)))) ?_
        refine ev_aload_n (pc := 217) dX11_next_217 rfl ?_
        refine ev_iconst (pc := 218) (v := 2) dX11_next_218 (by decide) ?_
        refine ev_putI (pc := 219) dX11_next_219 fX11_119 rfl (wlt (wf_sI hw) (by decide)) ?_
        refine ev_eqH (h' := sI h 49 (upd (upd (upd (upd (h.2.1 49) 5 (nI (tE zb zn zp))) 6 (nI (tS zb zn zp))) 8 (nI (dg3 zb (tS zb zn zp) ((tE zb zn zp) - (tS zb zn zp))))) 7 2)) (by exact sI_sI _ _ _ _) ?_
        refine ev_aload_n (pc := 222) dX11_next_222 rfl ?_
        refine ev_getI (pc := 223) dX11_next_223 fX11_109 rfl (wlt (wf_sI hw) (by decide)) ?_
        refine ev_eqI (e' := nI (tE zb zn zp)) (by rfl) ?_
        refine ev_aload_n (pc := 226) dX11_next_226 rfl ?_
        refine ev_getI (pc := 227) dX11_next_227 fX11_103 rfl (wlt (wf_sI hw) (by decide)) ?_
        refine ev_eqI (e' := nI (tS zb zn zp)) (by rfl) ?_
        refine ev_isub (pc := 230) dX11_next_230 ?_
        refine ev_eqI (e' := nI ((tE zb zn zp) - (tS zb zn zp))) (pk_sub (by omega)) ?_
        refine ev_iconst (pc := 231) (v := 3) dX11_next_231 (by decide) ?_
        refine ev_icmp_le (pc := 232) (tgt := 269) dX11_next_232 (by decide) (fun zc232 => ?_) (fun zc232 => ?_)
        · -- le at 232: taken
          refine ev_ret (pc := 269) dX11_next_269 rfl ?_
          · have zl3 : (tE zb zn zp) - (tS zb zn zp) ≤ 3 := (nI_leI (a := (tE zb zn zp) - (tS zb zn zp)) (b := 3) (by have := hT.2.1; omega) (by decide)).mp zc232
            have zK := zt.1
            rw [if_pos zl3] at zK
            exact ⟨rfl, scE_s h _ (fun zj hj => by simp only [upd]; (repeat' split) <;> first | rfl | (exfalso; omega)), rfl, rfl, fun _ => by rw [zK]; rfl, fun _ => congrArg nI (dg3_V zl3), hwr.trans (by unfold wrK; rw [zK]; rfl), fun z => absurd (zK.symm.trans z) (by decide)⟩
        · -- le at 232: not taken
          refine ev_aload_n (pc := 235) dX11_next_235 rfl ?_
          refine ev_iconst (pc := 236) (v := 1) dX11_next_236 (by decide) ?_
          refine ev_callV0 (S := []) (pc := 237) dX11_next_237 kX11_fails lX11_130 vX11_fails (cn_fails0 E (sI h 49 (upd (upd (upd (upd (h.2.1 49) 5 (nI (tE zb zn zp))) 6 (nI (tS zb zn zp))) 8 (nI (dg3 zb (tS zb zn zp) ((tE zb zn zp) - (tS zb zn zp))))) 7 2)) 1 (wf_sI hw) hwr) rfl rfl (wlt (wf_sI hw) (by decide)) rfl rfl (Nat.le_of_ble_eq_true rfl) ⟨Nat.le_of_ble_eq_true rfl, Nat.le_of_ble_eq_true rfl⟩ ⟨Nat.le_of_ble_eq_true rfl, Nat.le_of_ble_eq_true rfl⟩ ?_
          refine ev_eqH (h' := sI h 49 (upd (upd (upd (upd (upd (upd (h.2.1 49) 5 (nI (tE zb zn zp))) 6 (nI (tS zb zn zp))) 8 (nI (dg3 zb (tS zb zn zp) ((tE zb zn zp) - (tS zb zn zp))))) 7 2) 3 1) 4 (nI (tS zb zn zp)))) (by first | exact (sI_sI _ _ _ _).trans rfl | rfl) ?_
          refine ev_goto (pc := 240) (tgt := 269) dX11_next_240 (by decide) ?_
          refine ev_ret (pc := 269) dX11_next_269 rfl ?_
          · have zl3 : ¬ (tE zb zn zp) - (tS zb zn zp) ≤ 3 := fun z => zc232 ((nI_leI (a := (tE zb zn zp) - (tS zb zn zp)) (b := 3) (by have := hT.2.1; omega) (by decide)).mpr z)
            have zK := zt.1
            rw [if_neg zl3] at zK
            exact ⟨rfl, scE_s h _ (fun zj hj => by simp only [upd]; (repeat' split) <;> first | rfl | (exfalso; omega)), rfl, rfl, fun z => absurd zK z, fun z => absurd (zK.symm.trans z) (by decide), by unfold wrK; rw [zK]; rfl, fun _ => rfl⟩
    · -- eq at 81: not taken
      have zs1 := (bz_L hT).mp (bI_n0.mp zc81)
      have zt := tk_nm zs1.1 zs1.2
      refine ev_eqH (h' := sI h 49 (upd (upd (upd (upd (h.2.1 49) 5 (nI (tS zb zn zp))) 6 (nI (tS zb zn zp))) 8 0) 5 (nI (tS zb zn zp)))) (congrArg (sI h 49) (rnf_id rfl)) ?_
      refine lp_next_84 E h zb zn (upd (upd (upd (h.2.1 49) 5 (nI (tS zb zn zp))) 6 (nI (tS zb zn zp))) 8 0) (bz zb zn (tS zb zn zp)) hw hT hT.1 (zn - (tS zb zn zp)) (tS zb zn zp) (by omega) ?_
      refine ev_eqH (h' := sI h 49 (upd (upd (upd (h.2.1 49) 5 (nI (tE zb zn zp))) 6 (nI (tS zb zn zp))) 8 0)) (by rw [zt.2]; exact (congrArg (sI h 49) (funext fun zj => by simp only [upd]; (repeat' split) <;> first | rfl | (exfalso; omega)))) ?_
      refine ev_aload_n (pc := 118) dX11_next_118 rfl ?_
      refine ev_iconst (pc := 119) (v := 1) dX11_next_119 (by decide) ?_
      refine ev_putI (pc := 120) dX11_next_120 fX11_119 rfl (wlt (wf_sI hw) (by decide)) ?_
      refine ev_eqH (h' := sI h 49 (upd (upd (upd (upd (h.2.1 49) 5 (nI (tE zb zn zp))) 6 (nI (tS zb zn zp))) 8 0) 7 1)) (by exact sI_sI _ _ _ _) ?_
      refine ev_goto (pc := 123) (tgt := 269) dX11_next_123 (by decide) ?_
      refine ev_ret (pc := 269) dX11_next_269 rfl ?_
      · have zK := zt.1
        exact ⟨rfl, scE_s h _ (fun zj hj => by simp only [upd]; (repeat' split) <;> first | rfl | (exfalso; omega)), rfl, rfl, fun _ => by rw [zK]; rfl, fun z => absurd (zK.symm.trans z) (by decide), hwr.trans (by unfold wrK; rw [zK]; rfl), fun z => absurd (zK.symm.trans z) (by decide)⟩
  · -- ne at 59: not taken
    refine ev_aload_n (pc := 62) dX11_next_62 rfl ?_
    refine ev_iconst (pc := 63) (v := 0) dX11_next_63 (by decide) ?_
    refine ev_putI (pc := 64) dX11_next_64 fX11_119 rfl (wlt (wf_sI hw) (by decide)) ?_
    refine ev_eqH (h' := sI h 49 (upd (upd (upd (upd (h.2.1 49) 5 (nI (tS zb zn zp))) 6 (nI (tS zb zn zp))) 8 0) 7 0)) (by exact sI_sI _ _ _ _) ?_
    refine ev_goto (pc := 67) (tgt := 269) dX11_next_67 (by decide) ?_
    refine ev_ret (pc := 269) dX11_next_269 rfl ?_
    · have zt := tk_end ((bz_4 hT).mp zc59)
      have zK := zt.1
      exact ⟨rfl, scE_s h _ (fun zj hj => by simp only [upd]; (repeat' split) <;> first | rfl | (exfalso; omega)), congrArg nI zt.2.symm, rfl, fun _ => by rw [zK]; rfl, fun z => absurd (zK.symm.trans z) (by decide), hwr.trans (by unfold wrK; rw [zK]; rfl), fun z => absurd (zK.symm.trans z) (by decide)⟩
theorem cn_X11_nextW (E : ME) (h : AH)  (hw : WF h) (hwr : 0 < h.2.1 49 3) : Con E mX11_next 1 0 0 [.ref 49] h (fun r h' => r = none ∧ h' = h) := by
  refine con_of2 (L := [some (.ref 49), none]) rfl (Nat.le_of_ble_eq_true rfl) rfl ?_
  refine ev_aload_n (pc := 0) dX11_next_0 rfl ?_
  refine ev_getI (pc := 1) dX11_next_1 fX11_100 rfl (wlt hw (by decide)) ?_
  refine ev_if_le (pc := 4) (tgt := 8) dX11_next_4 (by decide) (fun zc4 => absurd zc4 ((i_le2 _ _).mpr hwr)) (fun zc4 => ?_)
  refine ev_ret (pc := 7) dX11_next_7 rfl ?_
  · exact ⟨rfl, rfl⟩
theorem LA_w {zb : Nat → Nat} {zn zp : Nat} {h : AH} (hL : LAz zb zn zp h) (hk0 : ¬ tK zb zn zp = 0) : h.2.1 49 3 = 0 := by
  rw [hL.2.2.2.2.1]
  unfold wrK
  rw [if_neg hk0]
  rfl
theorem LA_3 {zb : Nat → Nat} {zn zp zk : Nat} {h : AH} (hL : LAz zb zn zp h) (hk0 : ¬ tK zb zn zp = 0) (hk : zk < 4) : h.2.1 49 7 = nI zk ↔ tK zb zn zp = zk + 1 := by
  have h1 := tK_cases zb zn zp
  rw [hL.2.2.1 hk0, nI_eq (by omega) (by omega)]
  omega
theorem num_in {zv zl zm : Nat} {zh : Int32} (hh : zh = nI zm - 1) (hl : zl < 2000) (hv : zv < 2000) (hm : zm ≤ 2000) : (nI zl ≤ nI zv ∧ nI zv ≤ zh) ↔ (zl ≤ zv ∧ zv < zm) := by
  subst hh
  rw [nI_leI (by omega) (by omega), i_le (a := nI zv), nI_toInt (by omega), m1_toInt (by omega)]
  omega
theorem cn_X11_numberN (E : ME) (h : AH) (zb : Nat → Nat) (zn zp zl zm : Nat) (zh : Int32) (hw : WF h) (hL : LAz zb zn zp h) (hk0 : ¬ tK zb zn zp = 0) (hp : zp ≤ zn) (hh : zh = nI zm - 1) (hl : zl < 2000) (hm : zm ≤ 2000) : Con E mX11_number 1 0 0 [.ref 49, .int (nI zl), .int zh] h (fun r h' => r = some (.int (if (fnK zb zn zp zl zm) = 0 then nI (tV zb zn zp) else nI zl)) ∧ h' = if (fnK zb zn zp zl zm) = 0 then h else sI h 49 (upd (upd (h.2.1 49) 3 (nI (fnK zb zn zp zl zm))) 4 (nI (tS zb zn zp)))) := by
  refine con_of2 (L := [some (.ref 49), some (.int (nI zl)), some (.int zh)]) rfl (Nat.le_of_ble_eq_true rfl) rfl ?_
  refine ev_aload_n (pc := 0) dX11_number_0 rfl ?_
  refine ev_getI (pc := 1) dX11_number_1 fX11_100 rfl (wlt hw (by decide)) ?_
  refine ev_if_ne (pc := 4) (tgt := 20) dX11_number_4 (by decide) (fun zc4 => absurd (LA_w hL hk0) zc4) (fun zc4 => ?_)
  refine ev_aload_n (pc := 7) dX11_number_7 rfl ?_
  refine ev_getI (pc := 8) dX11_number_8 fX11_119 rfl (wlt hw (by decide)) ?_
  refine ev_iconst (pc := 11) (v := 2) dX11_number_11 (by decide) ?_
  refine ev_icmp_eq (pc := 12) (tgt := 20) dX11_number_12 (by decide) (fun zc12 => ?_) (fun zc12 => ?_)
  · -- eq at 12: taken
    have z3 := (LA_3 (zk := 2) hL hk0 (by decide)).mp zc12
    have zin := num_in (zv := tV zb zn zp) (zl := zl) hh hl (by have := tV_bd hp z3; omega) hm
    rw [← hL.2.2.2.1 z3] at zin
    refine ev_aload_n (pc := 20) dX11_number_20 rfl ?_
    refine ev_getI (pc := 21) dX11_number_21 fX11_100 rfl (wlt hw (by decide)) ?_
    refine ev_if_ne (pc := 24) (tgt := 47) dX11_number_24 (by decide) (fun zc24 => absurd (LA_w hL hk0) zc24) (fun zc24 => ?_)
    refine ev_aload_n (pc := 27) dX11_number_27 rfl ?_
    refine ev_getI (pc := 28) dX11_number_28 fX11_116 rfl (wlt hw (by decide)) ?_
    refine ev_i2l (pc := 31) dX11_number_31 ?_
    refine ev_iload_n (pc := 32) dX11_number_32 rfl ?_
    refine ev_i2l (pc := 33) dX11_number_33 ?_
    refine ev_iload_n (pc := 34) dX11_number_34 rfl ?_
    refine ev_i2l (pc := 35) dX11_number_35 ?_
    refine ev_callSv (S := []) (pc := 36) dX11_number_36 kX11_in lX11_96 sX11_in (cn_X11_inC E h (h.2.1 49 8) (nI zl) zh _ _ _ rfl rfl rfl) rfl rfl (Nat.le_of_ble_eq_true rfl) ⟨Nat.le_of_ble_eq_true rfl, Nat.le_of_ble_eq_true rfl⟩ ⟨Nat.le_of_ble_eq_true rfl, Nat.le_of_ble_eq_true rfl⟩ ?_
    refine ev_if_ne (pc := 39) (tgt := 47) dX11_number_39 (by decide) (fun zc39 => ?_) (fun zc39 => ?_)
    · -- ne at 39: taken
      refine ev_aload_n (pc := 47) dX11_number_47 rfl ?_
      refine ev_getI (pc := 48) dX11_number_48 fX11_100 rfl (wlt hw (by decide)) ?_
      refine ev_if_ne (pc := 51) (tgt := 61) dX11_number_51 (by decide) (fun zc51 => absurd (LA_w hL hk0) zc51) (fun zc51 => ?_)
      refine ev_aload_n (pc := 54) dX11_number_54 rfl ?_
      refine ev_getI (pc := 55) dX11_number_55 fX11_116 rfl (wlt hw (by decide)) ?_
      refine ev_goto (pc := 58) (tgt := 62) dX11_number_58 (by decide) ?_
      refine ev_iret (pc := 62) dX11_number_62 rfl ?_ ?_
      · rfl
      · have zF : (fnK zb zn zp zl zm) = 0 := by unfold fnK; rw [if_pos z3, if_pos (zin.mp (bI_n0.mp zc39))]
        rw [zF, if_pos rfl, if_pos rfl, ← hL.2.2.2.1 z3]
        exact ⟨rfl, rfl⟩
    · -- ne at 39: not taken
      refine ev_aload_n (pc := 42) dX11_number_42 rfl ?_
      refine ev_iconst (pc := 43) (v := 3) dX11_number_43 (by decide) ?_
      refine ev_callV0 (S := []) (pc := 44) dX11_number_44 kX11_fails lX11_130 vX11_fails (cn_fails0 E h 3 hw (LA_w hL hk0)) rfl rfl (wlt hw (by decide)) rfl rfl (Nat.le_of_ble_eq_true rfl) ⟨Nat.le_of_ble_eq_true rfl, Nat.le_of_ble_eq_true rfl⟩ ⟨Nat.le_of_ble_eq_true rfl, Nat.le_of_ble_eq_true rfl⟩ ?_
      refine ev_eqH (h' := sI h 49 (upd (upd (h.2.1 49) 3 3) 4 (h.2.1 49 6))) (by first | exact (sI_sI _ _ _ _).trans rfl | rfl) ?_
      refine ev_aload_n (pc := 47) dX11_number_47 rfl ?_
      refine ev_getI (pc := 48) dX11_number_48 fX11_100 rfl (wlt (wf_sI hw) (by decide)) ?_
      refine ev_eqI (e' := 3) (by rfl) ?_
      refine ev_if_ne (pc := 51) (tgt := 61) dX11_number_51 (by decide) (fun zc51 => ?_) (fun zc51 => absurd zc51 (by decide))
      refine ev_iload_n (pc := 61) dX11_number_61 rfl ?_
      refine ev_iret (pc := 62) dX11_number_62 rfl ?_ ?_
      · rfl
      · have zF : (fnK zb zn zp zl zm) = 3 := by unfold fnK; rw [if_pos z3, if_neg (fun z => bI_0.mp zc39 (zin.mpr z))]
        rw [zF, if_neg (by decide), if_neg (by decide), ← hL.2.1]
        exact ⟨rfl, rfl⟩
  · -- eq at 12: not taken
    refine ev_aload_n (pc := 15) dX11_number_15 rfl ?_
    refine ev_iconst (pc := 16) (v := 2) dX11_number_16 (by decide) ?_
    refine ev_callV0 (S := []) (pc := 17) dX11_number_17 kX11_fails lX11_130 vX11_fails (cn_fails0 E h 2 hw (LA_w hL hk0)) rfl rfl (wlt hw (by decide)) rfl rfl (Nat.le_of_ble_eq_true rfl) ⟨Nat.le_of_ble_eq_true rfl, Nat.le_of_ble_eq_true rfl⟩ ⟨Nat.le_of_ble_eq_true rfl, Nat.le_of_ble_eq_true rfl⟩ ?_
    refine ev_eqH (h' := sI h 49 (upd (upd (h.2.1 49) 3 2) 4 (h.2.1 49 6))) (by first | exact (sI_sI _ _ _ _).trans rfl | rfl) ?_
    skip
    refine ev_aload_n (pc := 20) dX11_number_20 rfl ?_
    refine ev_getI (pc := 21) dX11_number_21 fX11_100 rfl (wlt (wf_sI hw) (by decide)) ?_
    refine ev_eqI (e' := 2) (by rfl) ?_
    refine ev_if_ne (pc := 24) (tgt := 47) dX11_number_24 (by decide) (fun zc24 => ?_) (fun zc24 => absurd zc24 (by decide))
    refine ev_aload_n (pc := 47) dX11_number_47 rfl ?_
    refine ev_getI (pc := 48) dX11_number_48 fX11_100 rfl (wlt (wf_sI hw) (by decide)) ?_
    refine ev_eqI (e' := 2) (by rfl) ?_
    refine ev_if_ne (pc := 51) (tgt := 61) dX11_number_51 (by decide) (fun zc51 => ?_) (fun zc51 => absurd zc51 (by decide))
    refine ev_iload_n (pc := 61) dX11_number_61 rfl ?_
    refine ev_iret (pc := 62) dX11_number_62 rfl ?_ ?_
    · rfl
    · have zF : (fnK zb zn zp zl zm) = 2 := by unfold fnK; rw [if_neg (fun z => zc12 ((LA_3 (zk := 2) hL hk0 (by decide)).mpr z)), if_neg hk0]
      rw [zF, if_neg (by decide), if_neg (by decide), ← hL.2.1]
      exact ⟨rfl, rfl⟩
theorem cn_X11_numberW (E : ME) (h : AH) (zl zh : Int32) (hw : WF h) (hwr : ¬ h.2.1 49 3 = 0) : Con E mX11_number 1 0 0 [.ref 49, .int zl, .int zh] h (fun r h' => r = some (.int zl) ∧ h' = h) := by
  refine con_of2 (L := [some (.ref 49), some (.int zl), some (.int zh)]) rfl (Nat.le_of_ble_eq_true rfl) rfl ?_
  refine ev_aload_n (pc := 0) dX11_number_0 rfl ?_
  refine ev_getI (pc := 1) dX11_number_1 fX11_100 rfl (wlt hw (by decide)) ?_
  refine ev_if_ne (pc := 4) (tgt := 20) dX11_number_4 (by decide) (fun zc4 => ?_) (fun zc4 => absurd zc4 hwr)
  refine ev_aload_n (pc := 20) dX11_number_20 rfl ?_
  refine ev_getI (pc := 21) dX11_number_21 fX11_100 rfl (wlt hw (by decide)) ?_
  refine ev_if_ne (pc := 24) (tgt := 47) dX11_number_24 (by decide) (fun zc24 => ?_) (fun zc24 => absurd zc24 hwr)
  refine ev_aload_n (pc := 47) dX11_number_47 rfl ?_
  refine ev_getI (pc := 48) dX11_number_48 fX11_100 rfl (wlt hw (by decide)) ?_
  refine ev_if_ne (pc := 51) (tgt := 61) dX11_number_51 (by decide) (fun zc51 => ?_) (fun zc51 => absurd zc51 hwr)
  refine ev_iload_n (pc := 61) dX11_number_61 rfl ?_
  refine ev_iret (pc := 62) dX11_number_62 rfl ?_ ?_
  · rfl
  · exact ⟨rfl, rfl⟩
