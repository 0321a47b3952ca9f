def seW (zg zk : Nat → Int32) (zs : Int32 × Int32 × Int32 × Int32) : Nat → Int32 × Int32 × Int32 × Int32
  | 0 => zs
  | zv + 1 => if unl zv then wtI zg zk zv (seW zg zk zs zv) 16 else seW zg zk zs zv
theorem wt_wt (zr : Nat → Int32) (zs zt : Int32 × Int32 × Int32 × Int32) : wtR (wtR zr zs) zt = wtR zr zt := by
  funext zi
  unfold wtR upd
  by_cases e6 : zi = 6 <;> by_cases e5 : zi = 5 <;> by_cases e4 : zi = 4 <;> by_cases e3 : zi = 3 <;> simp [e6, e5, e4, e3]
theorem un_i {zi : Nat} (h : zi < 256) : ((0 ≤ nI zi ∧ nI zi ≤ 255) ∧ unl (nI zi).toNatClampNeg) ↔ unl zi := by
  rw [nI_clamp (by omega)]
  exact ⟨fun z => z.2, fun z => ⟨⟨nI_pos' (by omega), nI_le (b := 255) (by omega) (by decide)⟩, z⟩⟩
theorem wt_st (h : AH) (zr : Nat → Int32) (zs zt : Int32 × Int32 × Int32 × Int32) : sI (sI h 36 (wtR zr zs)) 36 (wtR ((sI h 36 (wtR zr zs)).2.1 36) zt) = sI h 36 (wtR zr zt) := by
  rw [sI_at, wt_wt]
  exact sI_sI _ _ _ _
def seG (h : AH) : AH := sI (sI (sI (sI h 36 (upd (upd (h.2.1 36) 7 (h.2.1 25 7)) 3 (-1))) 39 (neM (h.2.1 26) (h.2.1 39) 16)) 37 (meM (neM (h.2.1 26) (h.2.1 39) 16) 0 4 (h.2.1 37) 16)) 38 (meM (neM (h.2.1 26) (h.2.1 39) 16) 8 12 (h.2.1 38) 16)
def seH (h : AH) : AH := sI (seG h) 36 (wtR ((seG h).2.1 36) (seW ((seG h).2.1 37) ((seG h).2.1 38) (wt0 (seG h)) 256))
theorem lp_se_36 (E : ME) (h : AH) (zr : Nat → Int32) (zs : Int32 × Int32 × Int32 × Int32) (hw : WF h) {post : PO} (K : Ev E mX4_search (rmm 4 0 0) (QM E 0 0 post) 0 0 61 [some (.ref 36), some (.ref 25), some (.int (nI 256))] [] (sI h 36 (wtR zr (seW (h.2.1 37) (h.2.1 38) zs 256)))) : ∀ n i : Nat, i + n = 256 → Ev E mX4_search (rmm 4 0 0) (QM E 0 0 post) 0 0 36 [some (.ref 36), some (.ref 25), some (.int (nI i))] [] (sI h 36 (wtR zr (seW (h.2.1 37) (h.2.1 38) zs i))) := by
  intro n
  induction n with
  | zero =>
    intro i hi
    obtain rfl : 256 = i := by omega
    refine ev_iload_n (pc := 36) dX4_search_36 rfl ?_
    refine ev_sipush (pc := 37) (v := 256) dX4_search_37 (by decide) ?_
    refine ev_icmp_ge (pc := 40) (tgt := 61) dX4_search_40 (by decide) (fun zc40 => ?_) (fun zc40 => absurd (by decide) zc40)
    exact K
  | succ n ih =>
    intro i hi
    have hlt : i < 256 := by omega
    refine ev_iload_n (pc := 36) dX4_search_36 rfl ?_
    refine ev_sipush (pc := 37) (v := 256) dX4_search_37 (by decide) ?_
    refine ev_icmp_ge (pc := 40) (tgt := 61) dX4_search_40 (by decide) (fun zc40 => absurd zc40 (nI_ge (b := 256) hlt (by decide))) (fun zc40 => ?_)
    refine ev_iload_n (pc := 43) dX4_search_43 rfl ?_
    refine ev_callSv (S := []) (pc := 44) dX4_search_44 kX4_allUnlike lX4_58 sX4_allUnlike (cn_X4_allUnlike E (sI h 36 (wtR zr (seW (h.2.1 37) (h.2.1 38) zs i))) (nI i) (wf_sI hw)) rfl rfl (Nat.le_of_ble_eq_true rfl) ⟨Nat.le_of_ble_eq_true rfl, Nat.le_of_ble_eq_true rfl⟩ ⟨Nat.le_of_ble_eq_true rfl, Nat.le_of_ble_eq_true rfl⟩ ?_
    refine ev_if_eq (pc := 47) (tgt := 55) dX4_search_47 (by decide) (fun zc47 => ?_) (fun zc47 => ?_)
    · -- eq at 47: taken
      refine ev_iinc (pc := 55) (v := nI (i + 1)) (L' := [some (.ref 36), some (.ref 25), some (.int (nI (i + 1)))]) dX4_search_55 rfl (nI_1 _) (Nat.le_of_ble_eq_true rfl) rfl ?_
      refine ev_goto (pc := 58) (tgt := 36) dX4_search_58 (by decide) ?_
      refine ev_eqH (h' := sI h 36 (wtR zr (seW (h.2.1 37) (h.2.1 38) zs (i + 1)))) (by rw [seW, if_neg (fun z => bI_0.mp zc47 ((un_i hlt).mpr z))]) ?_
      exact ih (i + 1) (by omega)
    · -- eq at 47: not taken
      refine ev_aload_n (pc := 50) dX4_search_50 rfl ?_
      refine ev_iload_n (pc := 51) dX4_search_51 rfl ?_
      refine ev_callV0 (S := []) (pc := 52) dX4_search_52 kX4_weighTurns lX4_62 vX4_weighTurns (cn_X4_weighTurns E (sI h 36 (wtR zr (seW (h.2.1 37) (h.2.1 38) zs i))) i (wf_sI hw) hlt) rfl rfl (wlt (wf_sI hw) (by decide)) rfl rfl (Nat.le_of_ble_eq_true rfl) ⟨Nat.le_of_ble_eq_true rfl, Nat.le_of_ble_eq_true rfl⟩ ⟨Nat.le_of_ble_eq_true rfl, Nat.le_of_ble_eq_true rfl⟩ ?_
      refine ev_eqH (h' := sI h 36 (wtR zr (wtI (h.2.1 37) (h.2.1 38) i (seW (h.2.1 37) (h.2.1 38) zs i) 16))) (wt_st h zr _ _) ?_
      refine ev_iinc (pc := 55) (v := nI (i + 1)) (L' := [some (.ref 36), some (.ref 25), some (.int (nI (i + 1)))]) dX4_search_55 rfl (nI_1 _) (Nat.le_of_ble_eq_true rfl) rfl ?_
      refine ev_goto (pc := 58) (tgt := 36) dX4_search_58 (by decide) ?_
      refine ev_eqH (h' := sI h 36 (wtR zr (seW (h.2.1 37) (h.2.1 38) zs (i + 1)))) (by rw [seW, if_pos ((un_i hlt).mp (bI_n0.mp zc47))]) ?_
      exact ih (i + 1) (by omega)
theorem wf_seG {h : AH} (hw : WF h) : WF (seG h) := wf_sI (wf_sI (wf_sI (wf_sI hw)))
theorem cn_X4_search (E : ME) (h : AH)  (hw : WF h) : Con E mX4_search 4 0 0 [.ref 36, .ref 25] h (fun r h' => r = none ∧ h' = if h.2.1 36 7 = h.2.1 25 7 then h else seH h) := by
  refine con_of2 (L := [some (.ref 36), some (.ref 25), none]) rfl (Nat.le_of_ble_eq_true rfl) rfl ?_
  refine ev_aload_n (pc := 0) dX4_search_0 rfl ?_
  refine ev_getI (pc := 1) dX4_search_1 fX4_21 rfl (wlt hw (by decide)) ?_
  refine ev_aload_n (pc := 4) dX4_search_4 rfl ?_
  refine ev_callVv (S := [.int (h.2.1 36 7)]) (pc := 5) dX4_search_5 kX2_changes lX4_45 vX2_changes (cn_X2_changes E h hw) rfl rfl (wlt hw (by decide)) rfl rfl (Nat.le_of_ble_eq_true rfl) ⟨Nat.le_of_ble_eq_true rfl, Nat.le_of_ble_eq_true rfl⟩ ⟨Nat.le_of_ble_eq_true rfl, Nat.le_of_ble_eq_true rfl⟩ ?_
  refine ev_icmp_ne (pc := 8) (tgt := 12) dX4_search_8 (by decide) (fun zc8 => ?_) (fun zc8 => ?_)
  · -- ne at 8: taken
    refine ev_aload_n (pc := 12) dX4_search_12 rfl ?_
    refine ev_aload_n (pc := 13) dX4_search_13 rfl ?_
    refine ev_callVv (S := [.ref 36]) (pc := 14) dX4_search_14 kX2_changes lX4_45 vX2_changes (cn_X2_changes E h hw) rfl rfl (wlt hw (by decide)) rfl rfl (Nat.le_of_ble_eq_true rfl) ⟨Nat.le_of_ble_eq_true rfl, Nat.le_of_ble_eq_true rfl⟩ ⟨Nat.le_of_ble_eq_true rfl, Nat.le_of_ble_eq_true rfl⟩ ?_
    refine ev_putI (pc := 17) dX4_search_17 fX4_21 rfl (wlt hw (by decide)) ?_
    refine ev_eqH (h' := sI h 36 (upd (h.2.1 36) 7 (h.2.1 25 7))) (by rfl) ?_
    refine ev_aload_n (pc := 20) dX4_search_20 rfl ?_
    refine ev_iconst (pc := 21) (v := (-1)) dX4_search_21 (by decide) ?_
    refine ev_putI (pc := 22) dX4_search_22 fX4_33 rfl (wlt (wf_sI hw) (by decide)) ?_
    refine ev_eqH (h' := sI h 36 (upd (upd (h.2.1 36) 7 (h.2.1 25 7)) 3 (-1))) (by exact sI_sI _ _ _ _) ?_
    refine ev_aload_n (pc := 25) dX4_search_25 rfl ?_
    refine ev_aload_n (pc := 26) dX4_search_26 rfl ?_
    refine ev_callV0 (S := []) (pc := 27) dX4_search_27 kX4_noteEdges lX4_51 vX4_noteEdges (cn_X4_noteEdges E (sI h 36 (upd (upd (h.2.1 36) 7 (h.2.1 25 7)) 3 (-1))) (wf_sI hw)) rfl rfl (wlt (wf_sI hw) (by decide)) rfl rfl (Nat.le_of_ble_eq_true rfl) ⟨Nat.le_of_ble_eq_true rfl, Nat.le_of_ble_eq_true rfl⟩ ⟨Nat.le_of_ble_eq_true rfl, Nat.le_of_ble_eq_true rfl⟩ ?_
    refine ev_eqH (h' := sI (sI h 36 (upd (upd (h.2.1 36) 7 (h.2.1 25 7)) 3 (-1))) 39 (neM (h.2.1 26) (h.2.1 39) 16)) rfl ?_
    refine ev_aload_n (pc := 30) dX4_search_30 rfl ?_
    refine ev_callV0 (S := []) (pc := 31) dX4_search_31 kX4_matchEdges lX4_55 vX4_matchEdges (cn_X4_matchEdges E (sI (sI h 36 (upd (upd (h.2.1 36) 7 (h.2.1 25 7)) 3 (-1))) 39 (neM (h.2.1 26) (h.2.1 39) 16)) (wf_sI (wf_sI hw))) rfl rfl (wlt (wf_sI (wf_sI hw)) (by decide)) rfl rfl (Nat.le_of_ble_eq_true rfl) ⟨Nat.le_of_ble_eq_true rfl, Nat.le_of_ble_eq_true rfl⟩ ⟨Nat.le_of_ble_eq_true rfl, Nat.le_of_ble_eq_true rfl⟩ ?_
    refine ev_eqH (h' := sI (sI (sI (sI h 36 (upd (upd (h.2.1 36) 7 (h.2.1 25 7)) 3 (-1))) 39 (neM (h.2.1 26) (h.2.1 39) 16)) 37 (meM (neM (h.2.1 26) (h.2.1 39) 16) 0 4 (h.2.1 37) 16)) 38 (meM (neM (h.2.1 26) (h.2.1 39) 16) 8 12 (h.2.1 38) 16)) rfl ?_
    refine ev_iconst (pc := 34) (v := 0) dX4_search_34 (by decide) ?_
    refine ev_istore_n (pc := 35) (L' := [some (.ref 36), some (.ref 25), some (.int 0)]) dX4_search_35 (Nat.le_of_ble_eq_true rfl) rfl ?_
    refine ev_eqH (h' := seG h) rfl ?_
    refine ev_eqH (wt_h (seG h)) ?_
    refine lp_se_36 E (seG h) ((seG h).2.1 36) (wt0 (seG h)) (wf_seG hw) ?_ 256 0 rfl
    refine ev_ret (pc := 61) dX4_search_61 rfl ?_
    · refine ⟨rfl, ?_⟩
      rw [if_neg zc8]
      rfl
  · -- ne at 8: not taken
    refine ev_ret (pc := 11) dX4_search_11 rfl ?_
    · refine ⟨rfl, ?_⟩
      rw [if_pos zc8]
