theorem sL_same {h : AH} {k j : Nat} {v : Int64} (hv : h.2.2.1 k j = v) : sL h k (vp_updL (h.2.2.1 k) j v) = h := by
  unfold sL
  refine Prod.ext rfl (Prod.ext rfl (Prod.ext (funext fun q => ?_) rfl))
  dsimp only
  split
  · rename_i e
    subst e
    funext zj
    unfold vp_updL
    split
    · rename_i e2
      rw [e2, hv]
    · rfl
  · rfl
theorem updL_twice (f : Nat → Int64) (j : Nat) (a b : Int64) : vp_updL (vp_updL f j a) j b = vp_updL f j b := by
  funext zj
  unfold vp_updL
  split <;> rfl
theorem fill_eq (W : AH) (f : Nat → Int64) (g : Nat → Int32) (K : Int64) : sL (sI (sL W 49 (vp_updL f 37 0)) 49 g) 49 (vp_updL (vp_updL f 37 0) 37 K) = sI (sL W 49 (vp_updL f 37 K)) 49 g := by
  rw [sL_dpI, updL_twice]
theorem cn_X11_fill (E : ME) (h : AH) (zb : Nat) (hw : WF h) (hb : h.2.1 49 16 = nI zb) (hb4 : zb ≤ 4) : Con E mX11_fill 5 0 0 [.ref 49] h (fun r h' => r = some (.int (fnF (h.2.1 69) (fun zj => suW h zb zj) 64)) ∧ ∃ h1, lwX h h1 ∧ h' = sI (sI (sL h1 49 (vp_updL (h1.2.2.1 49) 37 (flK h zb))) 49 (upd (h1.2.1 49) 38 1)) 69 (flF h zb)) := by
  refine con_of2 (L := [some (.ref 49), none, none]) rfl (Nat.le_of_ble_eq_true rfl) rfl ?_
  refine ev_aload_n (pc := 0) dX11_fill_0 rfl ?_
  refine ev_callV (S := []) (pc := 1) dX11_fill_1 kX11_layWords lX11_309 vX11_layWords (cn_X11_layWords E h zb hw hb hb4) rfl rfl (wlt hw (by decide)) rfl rfl (Nat.le_of_ble_eq_true rfl) ⟨Nat.le_of_ble_eq_true rfl, Nat.le_of_ble_eq_true rfl⟩ ⟨Nat.le_of_ble_eq_true rfl, Nat.le_of_ble_eq_true rfl⟩ ?_
  rintro _ _ ⟨rfl, za, zy, zd, rfl⟩
  refine ev_iconst (pc := 4) (v := 0) dX11_fill_4 (by decide) ?_
  refine ev_istore_n (pc := 5) (L' := [some (.ref 49), some (.int 0), none]) dX11_fill_5 (Nat.le_of_ble_eq_true rfl) rfl ?_
  refine ev_aload_n (pc := 6) dX11_fill_6 rfl ?_
  refine ev_lconst (pc := 7) (v := 0) dX11_fill_7 (by decide) ?_
  refine ev_putL (pc := 8) dX11_fill_8 fX11_257 rfl (wlt (wf_sI (wf_sI (wf_lc hw))) (by decide)) ?_
  refine ev_eqH (h' := sL (sI (sI (lcH h za zy zd) 70 (syW h)) 71 (bkW h zb)) 49 (vp_updL ((lcH h za zy zd).2.2.1 49) 37 0)) (by rfl) ?_
  refine ev_aload_n (pc := 11) dX11_fill_11 rfl ?_
  refine ev_iconst (pc := 12) (v := 1) dX11_fill_12 (by decide) ?_
  refine ev_putZ (pc := 13) dX11_fill_13 fX11_315 rfl (wlt (wf_sL (wf_sI (wf_sI (wf_lc hw)))) (by decide)) (by decide) ?_
  refine ev_eqH (h' := sI (sL (sI (sI (lcH h za zy zd) 70 (syW h)) 71 (bkW h zb)) 49 (vp_updL ((lcH h za zy zd).2.2.1 49) 37 0)) 49 (upd ((lcH h za zy zd).2.1 49) 38 1)) (by rfl) ?_
  refine ev_iconst (pc := 16) (v := 0) dX11_fill_16 (by decide) ?_
  refine ev_istore_n (pc := 17) (L' := [some (.ref 49), some (.int 0), some (.int 0)]) dX11_fill_17 (Nat.le_of_ble_eq_true rfl) rfl ?_
  refine ev_eqH (sL_same (h := sI (sL (sI (sI (lcH h za zy zd) 70 (syW h)) 71 (bkW h zb)) 49 (vp_updL ((lcH h za zy zd).2.2.1 49) 37 0)) 49 (upd ((lcH h za zy zd).2.1 49) 38 1)) (k := 49) (j := 37) (v := 0) rfl).symm ?_
  refine lp_fill_18 E (sI (sL (sI (sI (lcH h za zy zd) 70 (syW h)) 71 (bkW h zb)) 49 (vp_updL ((lcH h za zy zd).2.2.1 49) 37 0)) 49 (upd ((lcH h za zy zd).2.1 49) 38 1)) (wf_sI (wf_sL (wf_sI (wf_sI (wf_lc hw))))) ?_ 64 0 (Nat.zero_add _)
  refine ev_eqL (L' := [some (.ref 49), some (.int (fnF (h.2.1 69) (fun zj => suW h zb zj) 64)), some (.int (nI 64))]) rfl ?_
  refine ev_eqH (h' := sI (sL (sI (sI (lcH h za zy zd) 70 (syW h)) 71 (bkW h zb)) 49 (vp_updL ((lcH h za zy zd).2.2.1 49) 37 (flK h zb))) 49 (upd ((lcH h za zy zd).2.1 49) 38 1)) (fill_eq _ _ _ _) ?_
  refine ev_iconst (pc := 63) (v := 0) dX11_fill_63 (by decide) ?_
  refine ev_istore_n (pc := 64) (L' := [some (.ref 49), some (.int (fnF (h.2.1 69) (fun zj => suW h zb zj) 64)), some (.int 0)]) dX11_fill_64 (Nat.le_of_ble_eq_true rfl) rfl ?_
  refine ev_eqH (sI_id (sI (sL (sI (sI (lcH h za zy zd) 70 (syW h)) 71 (bkW h zb)) 49 (vp_updL ((lcH h za zy zd).2.2.1 49) 37 (flK h zb))) 49 (upd ((lcH h za zy zd).2.1 49) 38 1)) 69).symm ?_
  refine lp_fill_65 E (sI (sL (sI (sI (lcH h za zy zd) 70 (syW h)) 71 (bkW h zb)) 49 (vp_updL ((lcH h za zy zd).2.2.1 49) 37 (flK h zb))) 49 (upd ((lcH h za zy zd).2.1 49) 38 1)) (fnF (h.2.1 69) (fun zj => suW h zb zj) 64) (wf_sI (wf_sL (wf_sI (wf_sI (wf_lc hw))))) ?_ 64 0 (Nat.zero_add _)
  refine ev_eqH (h' := sI (sI (sL (sI (sI (lcH h za zy zd) 70 (syW h)) 71 (bkW h zb)) 49 (vp_updL ((lcH h za zy zd).2.2.1 49) 37 (flK h zb))) 49 (upd ((lcH h za zy zd).2.1 49) 38 1)) 69 (flF h zb)) rfl ?_
  refine ev_iload_n (pc := 110) dX11_fill_110 rfl ?_
  refine ev_iret (pc := 111) dX11_fill_111 rfl ?_ ?_
  · rfl
  · exact ⟨rfl, _, ⟨_, _, _, _, _, rfl⟩, rfl⟩
