theorem sb_int : ∀ zc : Nat, zc < 256 → (sbI zc).toInt = if zc < 128 then (zc : Int) else (zc : Int) - 256 := by decide +kernel
theorem sb_eq {zc zd : Nat} (hc : zc < 256) (hd : zd < 128) : sbI zc = nI zd ↔ zc = zd := by
  rw [i_eq, sb_int zc hc, nI_toInt (by omega)]
  split <;> omega
theorem ch_wd : ∀ zi, zi < 6 → (wdL.getD zi []).length = wdN.getD zi 0 ∧ ∀ zk, zk < wdN.getD zi 0 → chS zi zk = nI ((wdL.getD zi []).getD zk 0) ∧ (wdL.getD zi []).getD zk 0 < 128 := by decide +kernel
theorem wdJ_iff {zb : Nat → Nat} {zs : Nat} {zl : List Nat} {zk : Nat} : wdJ zb zs zl zk = true ↔ zk = zl.length ∧ ∀ zi, zi < zk → zb (zs + zi) = zl.getD zi 0 := by
  unfold wdJ
  rw [Bool.and_eq_true, decide_eq_true_iff, List.all_eq_true]
  refine and_congr_right (fun _ => ⟨fun z zi hi => ?_, fun z zi hi => ?_⟩)
  · exact of_decide_eq_true (z zi (List.mem_range.mpr hi))
  · exact decide_eq_true (z zi (List.mem_range.mp hi))
theorem lp_tis_15 (E : ME) (h : AH) (zb : Nat → Nat) (zn zs ze zi : Nat) (hw : WF h) (hT : TCz h zb zn) (h2 : h.2.1 1 2 = nI zs) (h3 : h.2.1 1 3 = nI ze) (hse : zs ≤ ze) (hze : ze ≤ zn) (hX : XOK E) (hi : zi < 6) (hl : ze - zs = wdN.getD zi 0) : ∀ zq zk : Nat, zk + zq = wdN.getD zi 0 → (∀ zj, zj < zk → zb (zs + zj) = (wdL.getD zi []).getD zj 0) → Ev E mX9_tokenIs (rmm 4 0 0) (QM E 0 0 (fun r h' => r = some (.int (bI (wdJ zb zs (wdL.getD zi []) (ze - zs) = true))) ∧ h' = h)) 0 0 15 [some (.ref 1), some (.ref ((1000 + zi))), some (.int (nI zk))] [] h := by
  have hn := (wdN_s zi hi).1
  have h4 := hT.2.1
  intro zq
  induction zq with
  | zero =>
    intro zk hk H
    refine ev_iload_n (pc := 15) dX9_tokenIs_15 rfl ?_
    refine ev_aload_n (pc := 16) dX9_tokenIs_16 rfl ?_
    refine ev_callS_out (pc := 17) (S := [.int (nI zk)]) hX hi rfl dX9_tokenIs_17 kJ0_length_8abf5 (tw2 135 rfl (by decide +kernel)) vJ0_length_8abf5 (cn_J0_length_8abf5 E h zi hX hi) rfl rfl (Nat.le_of_ble_eq_true rfl) ⟨Nat.le_of_ble_eq_true rfl, Nat.le_of_ble_eq_true rfl⟩ ⟨Nat.le_of_ble_eq_true rfl, Nat.le_of_ble_eq_true rfl⟩ ?_
    refine ev_icmp_ge (pc := 20) (tgt := 44) dX9_tokenIs_20 (by decide) (fun zc20 => ?_) (fun zc20 => absurd (nI_le (by omega) (by omega)) zc20)
    refine ev_iconst (pc := 44) (v := 1) dX9_tokenIs_44 (by decide) ?_
    refine ev_iret (pc := 45) dX9_tokenIs_45 rfl ?_ ?_
    · first | rfl | exact nar_bI _ | (simp only [*]; exact nar_bI _) | (simp [narrow, *]; done)
    · refine ⟨?_, rfl⟩
      rw [bI_t]
      exact wdJ_iff.mpr ⟨by rw [(ch_wd zi hi).1]; exact hl, fun zj hj => H zj (by omega)⟩
  | succ zq ih =>
    intro zk hk H
    have hlt : zk < wdN.getD zi 0 := by omega
    have hc := (ch_wd zi hi).2 zk hlt
    have hb := (hT.2.2 (zs + zk) (by omega)).2
    refine ev_iload_n (pc := 15) dX9_tokenIs_15 rfl ?_
    refine ev_aload_n (pc := 16) dX9_tokenIs_16 rfl ?_
    refine ev_callS_out (pc := 17) (S := [.int (nI zk)]) hX hi rfl dX9_tokenIs_17 kJ0_length_8abf5 (tw2 135 rfl (by decide +kernel)) vJ0_length_8abf5 (cn_J0_length_8abf5 E h zi hX hi) rfl rfl (Nat.le_of_ble_eq_true rfl) ⟨Nat.le_of_ble_eq_true rfl, Nat.le_of_ble_eq_true rfl⟩ ⟨Nat.le_of_ble_eq_true rfl, Nat.le_of_ble_eq_true rfl⟩ ?_
    refine ev_icmp_ge (pc := 20) (tgt := 44) dX9_tokenIs_20 (by decide) (fun zc20 => absurd zc20 (nI_ge hlt (by omega))) (fun zc20 => ?_)
    refine ev_aload_n (pc := 23) dX9_tokenIs_23 rfl ?_
    refine ev_iload_n (pc := 24) dX9_tokenIs_24 rfl ?_
    refine ev_callVv (S := []) (pc := 25) dX9_tokenIs_25 kX9_tokenByte lX9_31 vX9_tokenByte (cn_X9_tokenByte E h zs ze zn zk hw h2 h3 hT.1 hze hT.2.1 (by omega)) rfl rfl (wlt hw (by decide)) rfl rfl (Nat.le_of_ble_eq_true rfl) ⟨Nat.le_of_ble_eq_true rfl, Nat.le_of_ble_eq_true rfl⟩ ⟨Nat.le_of_ble_eq_true rfl, Nat.le_of_ble_eq_true rfl⟩ ?_
    refine ev_eqI (e' := sbI (zb (zs + zk))) (hT.2.2 (zs + zk) (by omega)).1 ?_
    refine ev_aload_n (pc := 28) dX9_tokenIs_28 rfl ?_
    refine ev_iload_n (pc := 29) dX9_tokenIs_29 rfl ?_
    refine ev_callS_out (pc := 30) (S := [.int (sbI (zb (zs + zk)))]) hX hi rfl dX9_tokenIs_30 kJ0_charAt_5068e (tw2 149 rfl (by decide +kernel)) vJ0_charAt_5068e (cn_J0_charAt_5068e E h zk zi hX hi (by omega)) rfl rfl (Nat.le_of_ble_eq_true rfl) ⟨Nat.le_of_ble_eq_true rfl, Nat.le_of_ble_eq_true rfl⟩ ⟨Nat.le_of_ble_eq_true rfl, Nat.le_of_ble_eq_true rfl⟩ ?_
    refine ev_icmp_eq (pc := 33) (tgt := 38) dX9_tokenIs_33 (by decide) (fun zc33 => ?_) (fun zc33 => ?_)
    · -- eq at 33: taken
      refine ev_iinc (pc := 38) (v := nI (zk + 1)) (L' := [some (.ref 1), some (.ref ((1000 + zi))), some (.int (nI (zk + 1)))]) dX9_tokenIs_38 rfl (nI_1 _) (Nat.le_of_ble_eq_true rfl) rfl ?_
      refine ev_goto (pc := 41) (tgt := 15) dX9_tokenIs_41 (by decide) ?_
      rw [hc.1] at zc33
      exact ih (zk + 1) (by omega) (fun zj hj => by rcases Nat.lt_or_ge zj zk with z1 | z1; exact H zj z1; rw [show zj = zk by omega]; exact (sb_eq hb hc.2).mp zc33)
    · -- eq at 33: not taken
      refine ev_iconst (pc := 36) (v := 0) dX9_tokenIs_36 (by decide) ?_
      refine ev_iret (pc := 37) dX9_tokenIs_37 rfl ?_ ?_
      · first | rfl | exact nar_bI _ | (simp only [*]; exact nar_bI _) | (simp [narrow, *]; done)
      · refine ⟨?_, rfl⟩
        rw [bI_f]
        intro z
        refine zc33 ?_
        rw [hc.1]
        exact (sb_eq hb hc.2).mpr ((wdJ_iff.mp z).2 zk (by omega))
theorem cn_X9_tokenIs (E : ME) (h : AH) (zb : Nat → Nat) (zn zs ze zi : Nat) (hw : WF h) (hT : TCz h zb zn) (h2 : h.2.1 1 2 = nI zs) (h3 : h.2.1 1 3 = nI ze) (hse : zs ≤ ze) (hze : ze ≤ zn) (hX : XOK E) (hi : zi < 6) : Con E mX9_tokenIs 4 0 0 [.ref 1, .ref (1000 + zi)] h (fun r h' => r = some (.int (bI (wdJ zb zs (wdL.getD zi []) (ze - zs) = true))) ∧ h' = h) := by
  refine con_of2 (L := [some (.ref 1), some (.ref ((1000 + zi))), none]) rfl (Nat.le_of_ble_eq_true rfl) rfl ?_
  have hn := (wdN_s zi hi).1
  have h4 := hT.2.1
  refine ev_aload_n (pc := 0) dX9_tokenIs_0 rfl ?_
  refine ev_callVv (S := []) (pc := 1) dX9_tokenIs_1 kX9_tokenLength lX9_27 vX9_tokenLength (cn_X9_tokenLength E h hw) rfl rfl (wlt hw (by decide)) rfl rfl (Nat.le_of_ble_eq_true rfl) ⟨Nat.le_of_ble_eq_true rfl, Nat.le_of_ble_eq_true rfl⟩ ⟨Nat.le_of_ble_eq_true rfl, Nat.le_of_ble_eq_true rfl⟩ ?_
  refine ev_eqI (e' := nI (ze - zs)) (by rw [h3, h2, pk_sub hse]) ?_
  refine ev_aload_n (pc := 4) dX9_tokenIs_4 rfl ?_
  refine ev_callS_out (pc := 5) (S := [.int (nI (ze - zs))]) hX hi rfl dX9_tokenIs_5 kJ0_length_8abf5 (tw2 135 rfl (by decide +kernel)) vJ0_length_8abf5 (cn_J0_length_8abf5 E h zi hX hi) rfl rfl (Nat.le_of_ble_eq_true rfl) ⟨Nat.le_of_ble_eq_true rfl, Nat.le_of_ble_eq_true rfl⟩ ⟨Nat.le_of_ble_eq_true rfl, Nat.le_of_ble_eq_true rfl⟩ ?_
  refine ev_icmp_eq (pc := 8) (tgt := 13) dX9_tokenIs_8 (by decide) (fun zc8 => ?_) (fun zc8 => ?_)
  · -- eq at 8: taken
    refine ev_iconst (pc := 13) (v := 0) dX9_tokenIs_13 (by decide) ?_
    refine ev_istore_n (pc := 14) (L' := [some (.ref 1), some (.ref ((1000 + zi))), some (.int 0)]) dX9_tokenIs_14 (Nat.le_of_ble_eq_true rfl) rfl ?_
    exact lp_tis_15 E h zb zn zs ze zi hw hT h2 h3 hse hze hX hi ((nI_eq (by omega) (by omega)).mp zc8) (wdN.getD zi 0) 0 (Nat.zero_add _) (fun zj hj => by omega)
  · -- eq at 8: not taken
    refine ev_iconst (pc := 11) (v := 0) dX9_tokenIs_11 (by decide) ?_
    refine ev_iret (pc := 12) dX9_tokenIs_12 rfl ?_ ?_
    · first | rfl | exact nar_bI _ | (simp only [*]; exact nar_bI _) | (simp [narrow, *]; done)
    · refine ⟨?_, rfl⟩
      rw [bI_f]
      intro z
      refine zc8 (congrArg nI ?_)
      rw [(wdJ_iff.mp z).1]
      exact (ch_wd zi hi).1
