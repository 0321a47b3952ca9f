/-- the class's tape, read up to zp -/
def TPz (zb : Nat → Nat) (zn zp : Nat) (h : AH) : Prop := WF h ∧ TCz h zb zn ∧ h.2.1 1 3 = nI zp ∧ zp ≤ zn
/-- only the tape's place and the reader's own numbers have changed -/
def FrT (h g : AH) : Prop := g.1 = h.1 ∧ g.2.2 = h.2.2 ∧ (∀ zk, zk ≠ 1 → zk ≠ 19 → g.2.1 zk = h.2.1 zk) ∧ g.2.1 1 1 = h.2.1 1 1
theorem FrT_0 (h : AH) : FrT h h := ⟨rfl, rfl, fun _ _ _ => rfl, rfl⟩
theorem FrT_t {h g k : AH} (h1 : FrT h g) (h2 : FrT g k) : FrT h k := ⟨h2.1.trans h1.1, h2.2.1.trans h1.2.1, fun zk a b => (h2.2.2.1 zk a b).trans (h1.2.2.1 zk a b), h2.2.2.2.trans h1.2.2.2⟩
theorem FrT_1 (h : AH) {zf : Nat → Int32} (e : zf 1 = h.2.1 1 1) : FrT h (sI h 1 zf) := ⟨rfl, rfl, fun _ a _ => sI_ne h zf a, e⟩
theorem FrT_19 (h : AH) {zf : Nat → Int32} : FrT h (sI h 19 zf) := ⟨rfl, rfl, fun _ _ a => sI_ne h zf a, rfl⟩
theorem FrT_w {h g : AH} (hs : FrT h g) (hw : WF h) : WF g := by
  refine ⟨hs.1.trans hw.1, fun k j q hq => ?_⟩
  rw [hs.2.1]
  exact hw.2 k j q hq
theorem FrT_T {h g : AH} {zb : Nat → Nat} {zn : Nat} (hs : FrT h g) (hT : TCz h zb zn) : TCz g zb zn := ⟨hs.2.2.2.trans hT.1, hT.2.1, fun zk hk => by rw [hs.2.2.1 2 (by decide) (by decide)]; exact hT.2.2 zk hk⟩
def OUt (zb : Nat → Nat) (zn : Nat) (zc : Nat × Nat) (zp : Nat) (h g : AH) (zx : Int32) : Prop := FrT h g ∧ (zc.1 = 0 → zx = 1 ∧ TPz zb zn zp g ∧ g.2.1 19 3 = h.2.1 19 3) ∧ (¬ zc.1 = 0 → zx = 0 ∧ g.2.1 19 3 = nI zc.1 ∧ g.2.1 19 4 = nI zc.2)
theorem OU_t {zb : Nat → Nat} {zn : Nat} {zc : Nat × Nat} {zp : Nat} {h g : AH} {zx : Int32} (hR : OUt zb zn zc zp h g zx) (hz : ¬ zx = 0) : zc.1 = 0 ∧ TPz zb zn zp g ∧ g.2.1 19 3 = h.2.1 19 3 := by
  have h0 : zc.1 = 0 := Classical.byContradiction (fun z => hz (hR.2.2 z).1)
  exact ⟨h0, (hR.2.1 h0).2⟩
theorem OU_f {zb : Nat → Nat} {zn : Nat} {zc : Nat × Nat} {zp : Nat} {h g : AH} {zx : Int32} (hR : OUt zb zn zc zp h g zx) (hz : zx = 0) : ¬ zc.1 = 0 ∧ g.2.1 19 3 = nI zc.1 ∧ g.2.1 19 4 = nI zc.2 := by
  have h0 : ¬ zc.1 = 0 := fun z => by
    rw [(hR.2.1 z).1] at hz
    exact absurd hz (by decide)
  exact ⟨h0, (hR.2.2 h0).2⟩
def scH (h : AH) (zb : Nat → Nat) (zn zp : Nat) : AH := sI h 1 (upd (upd (h.2.1 1) 3 (nI (tE zb zn zp))) 2 (nI (tS zb zn zp)))
def rfH (h : AH) (zc : Int32) : AH := sI h 19 (upd (upd (h.2.1 19) 3 zc) 4 (h.2.1 1 2))
theorem sc_fr (h : AH) (zb : Nat → Nat) (zn zp : Nat) : FrT h (scH h zb zn zp) := FrT_1 h rfl
theorem rf_fr (h : AH) (zc : Int32) : FrT h (rfH h zc) := FrT_19 h
theorem sc_tp {h : AH} {zb : Nat → Nat} {zn zp : Nat} (hP : TPz zb zn zp h) : TPz zb zn (tE zb zn zp) (scH h zb zn zp) := ⟨FrT_w (sc_fr h zb zn zp) hP.1, FrT_T (sc_fr h zb zn zp) hP.2.1, rfl, (tE_le zb hP.2.2.2).2⟩
theorem cn_X5_refuse (E : ME) (h : AH) (zc : Int32) (hw : WF h) : Con E mX5_refuse 1 0 0 [.ref 19, .int zc] h (fun r h' => r = some (.int (0)) ∧ h' = rfH h zc) := by
  refine con_of2 (L := [some (.ref 19), some (.int zc)]) rfl (Nat.le_of_ble_eq_true rfl) rfl ?_
  refine ev_aload_n (pc := 0) dX5_refuse_0 rfl ?_
  refine ev_iload_n (pc := 1) dX5_refuse_1 rfl ?_
  refine ev_putI (pc := 2) dX5_refuse_2 fX5_19 rfl (wlt hw (by decide)) ?_
  refine ev_eqH (h' := sI h 19 (upd (h.2.1 19) 3 zc)) (by rfl) ?_
  refine ev_aload_n (pc := 5) dX5_refuse_5 rfl ?_
  refine ev_aload_n (pc := 6) dX5_refuse_6 rfl ?_
  refine ev_getR (pc := 7) (q := 1) dX5_refuse_7 fX5_9 rfl (wlt (wf_sI hw) (by decide)) (wr (wf_sI hw) rfl) ?_
  refine ev_callVv (S := [.ref 19]) (pc := 10) dX5_refuse_10 kX9_tokenPlace lX5_36 vX9_tokenPlace (cn_X9_tokenPlace E (sI h 19 (upd (h.2.1 19) 3 zc)) (wf_sI hw)) rfl rfl (wlt (wf_sI hw) (by decide)) rfl rfl (Nat.le_of_ble_eq_true rfl) ⟨Nat.le_of_ble_eq_true rfl, Nat.le_of_ble_eq_true rfl⟩ ⟨Nat.le_of_ble_eq_true rfl, Nat.le_of_ble_eq_true rfl⟩ ?_
  refine ev_putI (pc := 13) dX5_refuse_13 fX5_23 rfl (wlt (wf_sI hw) (by decide)) ?_
  refine ev_eqH (h' := sI h 19 (upd (upd (h.2.1 19) 3 zc) 4 (h.2.1 1 2))) (by exact sI_sI _ _ _ _) ?_
  refine ev_iconst (pc := 16) (v := 0) dX5_refuse_16 (by decide) ?_
  refine ev_iret (pc := 17) dX5_refuse_17 rfl ?_ ?_
  · first | rfl | exact nar_bI _ | (simp only [*]; exact nar_bI _) | (simp [narrow, *]; done)
  · exact ⟨rfl, rfl⟩
theorem cn_X5_refuseKind (E : ME) (h : AH) (zk : Nat) (hw : WF h) (hk : zk ≤ 4) : Con E mX5_refuseKind 2 0 0 [.ref 19, .int (nI zk)] h (fun r h' => r = some (.int (0)) ∧ h' = rfH h (if zk = 0 then 1 else 2)) := by
  refine con_of2 (L := [some (.ref 19), some (.int (nI zk))]) rfl (Nat.le_of_ble_eq_true rfl) rfl ?_
  refine ev_aload_n (pc := 0) dX5_refuseKind_0 rfl ?_
  refine ev_iload_n (pc := 1) dX5_refuseKind_1 rfl ?_
  refine ev_if_ne (pc := 2) (tgt := 9) dX5_refuseKind_2 (by decide) (fun zc2 => ?_) (fun zc2 => ?_)
  · -- ne at 2: taken
    refine ev_iconst (pc := 9) (v := 2) dX5_refuseKind_9 (by decide) ?_
    refine ev_callVv (S := []) (pc := 10) dX5_refuseKind_10 kX5_refuse lX5_40 vX5_refuse (cn_X5_refuse E h 2 hw) rfl rfl (wlt hw (by decide)) rfl rfl (Nat.le_of_ble_eq_true rfl) ⟨Nat.le_of_ble_eq_true rfl, Nat.le_of_ble_eq_true rfl⟩ ⟨Nat.le_of_ble_eq_true rfl, Nat.le_of_ble_eq_true rfl⟩ ?_
    refine ev_eqH (h' := (rfH h 2)) rfl ?_
    refine ev_iret (pc := 13) dX5_refuseKind_13 rfl ?_ ?_
    · first | rfl | exact nar_bI _ | (simp only [*]; exact nar_bI _) | (simp [narrow, *]; done)
    · refine ⟨rfl, ?_⟩
      rw [if_neg (fun z => zc2 (by rw [z]; rfl))]
  · -- ne at 2: not taken
    refine ev_iconst (pc := 5) (v := 1) dX5_refuseKind_5 (by decide) ?_
    refine ev_goto (pc := 6) (tgt := 10) dX5_refuseKind_6 (by decide) ?_
    refine ev_callVv (S := []) (pc := 10) dX5_refuseKind_10 kX5_refuse lX5_40 vX5_refuse (cn_X5_refuse E h 1 hw) rfl rfl (wlt hw (by decide)) rfl rfl (Nat.le_of_ble_eq_true rfl) ⟨Nat.le_of_ble_eq_true rfl, Nat.le_of_ble_eq_true rfl⟩ ⟨Nat.le_of_ble_eq_true rfl, Nat.le_of_ble_eq_true rfl⟩ ?_
    refine ev_eqH (h' := (rfH h 1)) rfl ?_
    refine ev_iret (pc := 13) dX5_refuseKind_13 rfl ?_ ?_
    · first | rfl | exact nar_bI _ | (simp only [*]; exact nar_bI _) | (simp [narrow, *]; done)
    · refine ⟨rfl, ?_⟩
      rw [if_pos ((nI_eq (a := zk) (b := 0) (by omega) (by decide)).mp zc2)]
theorem tK_4 (zb : Nat → Nat) (zn zp : Nat) : tK zb zn zp ≤ 4 := by rcases tK_cases zb zn zp with z | z | z | z | z <;> omega
theorem fk_n {zb : Nat → Nat} {zn zp zk : Nat} (h : ¬ tK zb zn zp = zk) : fkK zb zn zp zk = if tK zb zn zp = 0 then 1 else 2 := if_neg h
theorem k12 (zk : Nat) : (if zk = 0 then (1 : Int32) else 2) = nI (if zk = 0 then 1 else 2) := by split <;> rfl
theorem cn_X5_takeKind (E : ME) (h : AH) (zb : Nat → Nat) (zn zp zk : Nat) (hP : TPz zb zn zp h) (hk : zk ≤ 4) : Con E mX5_takeKind 3 0 0 [.ref 19, .int (nI zk)] h (fun r h' => ∃ zx, r = some (.int zx) ∧ OUt zb zn (fkK zb zn zp zk, tS zb zn zp) (tE zb zn zp) h h' zx ∧ (tK zb zn zp = zk → h'.2.1 1 2 = nI (tS zb zn zp))) := by
  refine con_of2 (L := [some (.ref 19), some (.int (nI zk)), none]) rfl (Nat.le_of_ble_eq_true rfl) rfl ?_
  refine ev_aload_n (pc := 0) dX5_takeKind_0 rfl ?_
  refine ev_getR (pc := 1) (q := 1) dX5_takeKind_1 fX5_9 rfl (wlt hP.1 (by decide)) (wr hP.1 rfl) ?_
  refine ev_callVv (S := []) (pc := 4) dX5_takeKind_4 kX9_scan lX5_44 vX9_scan (cn_X9_scan E h zb zn zp hP.1 hP.2.1 hP.2.2.2 hP.2.2.1) rfl rfl (wlt hP.1 (by decide)) rfl rfl (Nat.le_of_ble_eq_true rfl) ⟨Nat.le_of_ble_eq_true rfl, Nat.le_of_ble_eq_true rfl⟩ ⟨Nat.le_of_ble_eq_true rfl, Nat.le_of_ble_eq_true rfl⟩ ?_
  refine ev_eqH (h' := (scH h zb zn zp)) rfl ?_
  refine ev_istore_n (pc := 7) (L' := [some (.ref 19), some (.int (nI zk)), some (.int (nI (tK zb zn zp)))]) dX5_takeKind_7 (Nat.le_of_ble_eq_true rfl) rfl ?_
  refine ev_iload_n (pc := 8) dX5_takeKind_8 rfl ?_
  refine ev_iload_n (pc := 9) dX5_takeKind_9 rfl ?_
  refine ev_icmp_eq (pc := 10) (tgt := 21) dX5_takeKind_10 (by decide) (fun zc10 => ?_) (fun zc10 => ?_)
  · -- eq at 10: taken
    refine ev_iconst (pc := 21) (v := 1) dX5_takeKind_21 (by decide) ?_
    refine ev_goto (pc := 22) (tgt := 26) dX5_takeKind_22 (by decide) ?_
    refine ev_iret (pc := 26) dX5_takeKind_26 rfl ?_ ?_
    · first | rfl | exact nar_bI _ | (simp only [*]; exact nar_bI _) | (simp [narrow, *]; done)
    · have zt := (nI_eq (by have := tK_4 zb zn zp; omega) (by omega)).mp zc10
      have z0 : fkK zb zn zp zk = 0 := fk_0.mpr zt
      exact ⟨1, rfl, ⟨sc_fr h zb zn zp, fun _ => ⟨rfl, sc_tp hP, rfl⟩, fun z => absurd z0 z⟩, fun _ => rfl⟩
  · -- eq at 10: not taken
    refine ev_aload_n (pc := 13) dX5_takeKind_13 rfl ?_
    refine ev_iload_n (pc := 14) dX5_takeKind_14 rfl ?_
    refine ev_callVv (S := []) (pc := 15) dX5_takeKind_15 kX5_refuseKind lX5_47 vX5_refuseKind (cn_X5_refuseKind E (scH h zb zn zp) (tK zb zn zp) (FrT_w (sc_fr h zb zn zp) hP.1) (tK_4 _ _ _)) rfl rfl (wlt (FrT_w (sc_fr h zb zn zp) hP.1) (by decide)) rfl rfl (Nat.le_of_ble_eq_true rfl) ⟨Nat.le_of_ble_eq_true rfl, Nat.le_of_ble_eq_true rfl⟩ ⟨Nat.le_of_ble_eq_true rfl, Nat.le_of_ble_eq_true rfl⟩ ?_
    refine ev_eqH (h' := (rfH (scH h zb zn zp) (if tK zb zn zp = 0 then 1 else 2))) rfl ?_
    refine ev_if_eq (pc := 18) (tgt := 25) dX5_takeKind_18 (by decide) (fun zc18 => ?_) (fun zc18 => absurd rfl zc18)
    refine ev_iconst (pc := 25) (v := 0) dX5_takeKind_25 (by decide) ?_
    refine ev_iret (pc := 26) dX5_takeKind_26 rfl ?_ ?_
    · first | rfl | exact nar_bI _ | (simp only [*]; exact nar_bI _) | (simp [narrow, *]; done)
    · have zt : ¬ tK zb zn zp = zk := fun z => zc10 (by rw [z])
      have z0 : ¬ fkK zb zn zp zk = 0 := fun z => zt (fk_0.mp z)
      refine ⟨0, rfl, ⟨(FrT_t (sc_fr h zb zn zp) (rf_fr _ _)), fun z => absurd z z0, fun _ => ⟨rfl, ?_, rfl⟩⟩, fun z => absurd z zt⟩
      show (if tK zb zn zp = 0 then (1 : Int32) else 2) = nI (fkK zb zn zp zk)
      rw [k12, fk_n zt]
theorem tn_eq {h : AH} {zb : Nat → Nat} {zn zs : Nat} (hT : TCz h zb zn) : ∀ zk, zs + zk ≤ zn → (∀ zj, zj < zk → isD (zb (zs + zj)) = true) → tnI (h.2.1 2) zs zk = nI (dgN zb zs zk)
  | 0, _, _ => rfl
  | zk + 1, hn, H => by
    have h1 := of_decide_eq_true (H zk (by omega))
    rw [tnI, tn_eq hT zk (by omega) (fun zj hj => H zj (by omega)), (hT.2.2 (zs + zk) (by omega)).1, sb_asc _ (by omega), dgN, show 10 * dgN zb zs zk + (zb (zs + zk) - 48) = (dgN zb zs zk * 10 + zb (zs + zk)) - 48 by omega, ← pk_sub (a := dgN zb zs zk * 10 + zb (zs + zk)) (b := 48) (by omega), ← nI_add, ← pk_mul]
    rfl
theorem tV_tn {h : AH} {zb : Nat → Nat} {zn zp : Nat} (hT : TCz h zb zn) (hp : zp ≤ zn) (h3 : tK zb zn zp = 3) : tnI (h.2.1 2) (tS zb zn zp) (tE zb zn zp - tS zb zn zp) = nI (tV zb zn zp) := by
  have h1 := tk_3 h3
  have h2 := rn_ok zb isD (tS_ok zb hp).2
  have h4 := tE_ok zb hp
  refine tn_eq hT _ (by omega) (fun zj hj => h2.2.2.2 _ (by omega) (by omega))
theorem fn_v {zb : Nat → Nat} {zn zp zl zm : Nat} (h : tK zb zn zp = 3) (h2 : ¬ (zl ≤ tV zb zn zp ∧ tV zb zn zp < zm)) : fnK zb zn zp zl zm = 3 := by
  unfold fnK
  rw [if_pos h, if_neg h2]
theorem fn_k {zb : Nat → Nat} {zn zp zl zm : Nat} (h : ¬ tK zb zn zp = 3) : fnK zb zn zp zl zm = fkK zb zn zp 3 := by
  unfold fnK fkK
  rw [if_neg h, if_neg h]
theorem wi_n {zl zm zv : Nat} {zh : Int32} (hh : zh = nI zm - 1) (hl : zl < 2000) (hm : zm ≤ 2000) (hv : zv < 2000) : (nI zl ≤ nI zv ∧ nI zv ≤ zh) ↔ (zl ≤ zv ∧ zv < zm) := by
  rw [hh]
  cases zm with
  | zero =>
    refine ⟨fun z => ?_, fun z => by omega⟩
    have h1 := z.2
    rw [i_le, nI_toInt (by omega)] at h1
    have h2 : (nI 0 - 1).toInt = -1 := by decide
    omega
  | succ zm =>
    rw [nI_pred, nI_leI (by omega) (by omega), nI_leI (by omega) (by omega)]
    omega
theorem cn_X5_takeNumber (E : ME) (h : AH) (zb : Nat → Nat) (zn zp zl zm : Nat) (zh : Int32) (hP : TPz zb zn zp h) (hh : zh = nI zm - 1) (hl : zl < 2000) (hm : zm ≤ 2000) : Con E mX5_takeNumber 4 0 0 [.ref 19, .int (nI zl), .int zh] h (fun r h' => ∃ zx, r = some (.int zx) ∧ OUt zb zn (fnK zb zn zp zl zm, tS zb zn zp) (tE zb zn zp) h h' zx ∧ (fnK zb zn zp zl zm = 0 → h'.2.1 19 2 = nI (tV zb zn zp) ∧ h'.2.1 1 2 = nI (tS zb zn zp))) := by
  refine con_of2 (L := [some (.ref 19), some (.int (nI zl)), some (.int zh)]) rfl (Nat.le_of_ble_eq_true rfl) rfl ?_
  refine ev_aload_n (pc := 0) dX5_takeNumber_0 rfl ?_
  refine ev_iconst (pc := 1) (v := 3) dX5_takeNumber_1 (by decide) ?_
  refine ev_callV (S := []) (pc := 2) dX5_takeNumber_2 kX5_takeKind lX5_50 vX5_takeKind (cn_X5_takeKind E h zb zn zp 3 hP (by decide)) rfl rfl (wlt hP.1 (by decide)) rfl rfl (Nat.le_of_ble_eq_true rfl) ⟨Nat.le_of_ble_eq_true rfl, Nat.le_of_ble_eq_true rfl⟩ ⟨Nat.le_of_ble_eq_true rfl, Nat.le_of_ble_eq_true rfl⟩ ?_
  rintro _ zg ⟨zx, rfl, hR, hS⟩
  refine ev_if_ne (pc := 5) (tgt := 10) dX5_takeNumber_5 (by decide) (fun zc5 => ?_) (fun zc5 => ?_)
  · -- ne at 5: taken
    have hk3 : tK zb zn zp = 3 := fk_0.mp (OU_t hR zc5).1
    have hPg := (OU_t hR zc5).2.1
    have hv1 := tV_bd hP.2.2.2 hk3
    refine ev_aload_n (pc := 10) dX5_takeNumber_10 rfl ?_
    refine ev_aload_n (pc := 11) dX5_takeNumber_11 rfl ?_
    refine ev_getR (pc := 12) (q := 1) dX5_takeNumber_12 fX5_9 rfl (wlt (FrT_w hR.1 hP.1) (by decide)) (wr (FrT_w hR.1 hP.1) rfl) ?_
    refine ev_callVv (S := [.ref 19]) (pc := 15) dX5_takeNumber_15 kX9_tokenNumber lX5_53 vX9_tokenNumber (cn_X9_tokenNumber E zg (tS zb zn zp) (tE zb zn zp) zn hPg.1 (hS hk3) hPg.2.2.1 hPg.2.1.1 (tE_ok zb hP.2.2.2).2.1 hPg.2.1.2.1 (tE_ok zb hP.2.2.2).1) rfl rfl (wlt (FrT_w hR.1 hP.1) (by decide)) rfl rfl (Nat.le_of_ble_eq_true rfl) ⟨Nat.le_of_ble_eq_true rfl, Nat.le_of_ble_eq_true rfl⟩ ⟨Nat.le_of_ble_eq_true rfl, Nat.le_of_ble_eq_true rfl⟩ ?_
    refine ev_eqI (e' := nI (tV zb zn zp)) (tV_tn hPg.2.1 hP.2.2.2 hk3) ?_
    refine ev_putI (pc := 18) dX5_takeNumber_18 fX5_56 rfl (wlt (FrT_w hR.1 hP.1) (by decide)) ?_
    refine ev_eqH (h' := sI zg 19 (upd (zg.2.1 19) 2 (nI (tV zb zn zp)))) (by rfl) ?_
    refine ev_aload_n (pc := 21) dX5_takeNumber_21 rfl ?_
    refine ev_getI (pc := 22) dX5_takeNumber_22 fX5_56 rfl (wlt (wf_sI (FrT_w hR.1 hP.1)) (by decide)) ?_
    refine ev_eqI (e' := nI (tV zb zn zp)) (by rfl) ?_
    refine ev_iload_n (pc := 25) dX5_takeNumber_25 rfl ?_
    refine ev_iload_n (pc := 26) dX5_takeNumber_26 rfl ?_
    refine ev_callSv (S := []) (pc := 27) dX5_takeNumber_27 kX10_within lX5_59 sX10_within (cn_X10_within E (sI zg 19 (upd (zg.2.1 19) 2 (nI (tV zb zn zp)))) (nI (tV zb zn zp)) (nI zl) zh) rfl rfl (Nat.le_of_ble_eq_true rfl) ⟨Nat.le_of_ble_eq_true rfl, Nat.le_of_ble_eq_true rfl⟩ ⟨Nat.le_of_ble_eq_true rfl, Nat.le_of_ble_eq_true rfl⟩ ?_
    refine ev_if_ne (pc := 30) (tgt := 41) dX5_takeNumber_30 (by decide) (fun zc30 => ?_) (fun zc30 => ?_)
    · -- ne at 30: taken
      refine ev_iconst (pc := 41) (v := 1) dX5_takeNumber_41 (by decide) ?_
      refine ev_goto (pc := 42) (tgt := 46) dX5_takeNumber_42 (by decide) ?_
      refine ev_iret (pc := 46) dX5_takeNumber_46 rfl ?_ ?_
      · first | rfl | exact nar_bI _ | (simp only [*]; exact nar_bI _) | (simp [narrow, *]; done)
      · have z0 : fnK zb zn zp zl zm = 0 := fn_0.mpr ⟨hk3, (wi_n hh hl hm (by omega)).mp (bI_n0.mp zc30)⟩
        exact ⟨1, rfl, ⟨FrT_t hR.1 (FrT_19 zg), fun _ => ⟨rfl, ⟨FrT_w (FrT_19 zg) hPg.1, FrT_T (FrT_19 zg) hPg.2.1, hPg.2.2⟩, (OU_t hR zc5).2.2⟩, fun z => absurd z0 z⟩, fun _ => ⟨rfl, hS hk3⟩⟩
    · -- ne at 30: not taken
      refine ev_aload_n (pc := 33) dX5_takeNumber_33 rfl ?_
      refine ev_iconst (pc := 34) (v := 3) dX5_takeNumber_34 (by decide) ?_
      refine ev_callVv (S := []) (pc := 35) dX5_takeNumber_35 kX5_refuse lX5_40 vX5_refuse (cn_X5_refuse E (sI zg 19 (upd (zg.2.1 19) 2 (nI (tV zb zn zp)))) 3 (wf_sI (FrT_w hR.1 hP.1))) rfl rfl (wlt (wf_sI (FrT_w hR.1 hP.1)) (by decide)) rfl rfl (Nat.le_of_ble_eq_true rfl) ⟨Nat.le_of_ble_eq_true rfl, Nat.le_of_ble_eq_true rfl⟩ ⟨Nat.le_of_ble_eq_true rfl, Nat.le_of_ble_eq_true rfl⟩ ?_
      refine ev_eqH (h' := (rfH (sI zg 19 (upd (zg.2.1 19) 2 (nI (tV zb zn zp)))) 3)) rfl ?_
      refine ev_if_eq (pc := 38) (tgt := 45) dX5_takeNumber_38 (by decide) (fun zc38 => ?_) (fun zc38 => absurd rfl zc38)
      refine ev_iconst (pc := 45) (v := 0) dX5_takeNumber_45 (by decide) ?_
      refine ev_iret (pc := 46) dX5_takeNumber_46 rfl ?_ ?_
      · first | rfl | exact nar_bI _ | (simp only [*]; exact nar_bI _) | (simp [narrow, *]; done)
      · have z3 : fnK zb zn zp zl zm = 3 := fn_v hk3 (fun z => bI_0.mp zc30 ((wi_n hh hl hm (by omega)).mpr z))
        rw [z3]
        exact ⟨0, rfl, ⟨FrT_t hR.1 (FrT_t (FrT_19 zg) (rf_fr _ _)), fun z => absurd z (show ¬ (3 : Nat) = 0 by decide), fun _ => ⟨rfl, rfl, hS hk3⟩⟩, fun z => absurd z (show ¬ (3 : Nat) = 0 by decide)⟩
  · -- ne at 5: not taken
    refine ev_iconst (pc := 8) (v := 0) dX5_takeNumber_8 (by decide) ?_
    refine ev_iret (pc := 9) dX5_takeNumber_9 rfl ?_ ?_
    · first | rfl | exact nar_bI _ | (simp only [*]; exact nar_bI _) | (simp [narrow, *]; done)
    · have zz := OU_f hR zc5
      have hk3 : ¬ tK zb zn zp = 3 := fun z => zz.1 (fk_0.mpr z)
      rw [fn_k hk3]
      exact ⟨0, rfl, ⟨hR.1, fun z => absurd z zz.1, fun _ => ⟨rfl, zz.2⟩⟩, fun z => absurd z zz.1⟩
