def cutN (zi : Nat) : Nat := [0, 3, 8, 13, 18, 24, 28].getD zi 0
def letN (zi : Nat) : Nat := wdL.flatten.getD zi 0
def KTz (h : AH) : Prop := (∀ zi, zi < 7 → h.2.1 51 zi = nI (cutN zi)) ∧ ∀ zi, zi < 28 → h.2.1 52 zi = nI (letN zi)
theorem cut_ok : ∀ zi, zi < 6 → cutN zi + (wdL.getD zi []).length ≤ 28 ∧ ∀ zk, zk < (wdL.getD zi []).length → letN (cutN zi + zk) = (wdL.getD zi []).getD zk 0 ∧ (wdL.getD zi []).getD zk 0 < 256 := by decide
def wdV (zw : Nat) : Int32 := if zw = 6 then -4 else nI zw
theorem wdJ_len {zb : Nat → Nat} {zs zk : Nat} {zl : List Nat} (h : ¬ zk = zl.length) : wdJ zb zs zl zk = false := by
  unfold wdJ
  rw [decide_eq_false h]
  rfl
theorem wdJ_t {zb : Nat → Nat} {zs zk : Nat} {zl : List Nat} (h : zk = zl.length) (H : ∀ zj, zj < zk → zb (zs + zj) = zl.getD zj 0) : wdJ zb zs zl zk = true := by
  unfold wdJ
  rw [decide_eq_true h, Bool.true_and]
  exact List.all_eq_true.mpr (fun zx hx => decide_eq_true (H zx (List.mem_range.mp hx)))
theorem wdJ_f {zb : Nat → Nat} {zs zk zj : Nat} {zl : List Nat} (hj : zj < zk) (H : ¬ zb (zs + zj) = zl.getD zj 0) : wdJ zb zs zl zk = false := by
  unfold wdJ
  have h1 : (List.range zk).all (fun zi => decide (zb (zs + zi) = zl.getD zi 0)) = false := by
    rw [List.all_eq_false]
    exact ⟨zj, List.mem_range.mpr hj, by rw [decide_eq_false H]; decide⟩
  rw [h1, Bool.and_false]
theorem lp_lineName_43 (E : ME) (h : AH) (zb : Nat → Nat) (zn zp : Nat) (zi : Nat) (hw : WF h) (hT : TMz h zb zn) (hC : KTz h) (hL : LAz zb zn zp h) (hk0 : ¬ tK zb zn zp = 0) (hp : zp ≤ zn) (hi : zi < 6) (hl : ((tE zb zn zp) - (tS zb zn zp)) = (wdL.getD zi []).length) {post : PO} (K1 : wdJ zb (tS zb zn zp) (wdL.getD zi []) ((tE zb zn zp) - (tS zb zn zp)) = true → Ev E mX11_lineName (rmm 1 0 0) (QM E 0 0 post) 0 0 98 [some (.ref 49), some (.int (nI zi)), some (.int 1), none] [] h) (K0 : wdJ zb (tS zb zn zp) (wdL.getD zi []) ((tE zb zn zp) - (tS zb zn zp)) = false → Ev E mX11_lineName (rmm 1 0 0) (QM E 0 0 post) 0 0 98 [some (.ref 49), some (.int (nI zi)), some (.int 0), none] [] h) : ∀ zf zk : Nat, zk + zf = ((tE zb zn zp) - (tS zb zn zp)) → (∀ zj, zj < zk → zb ((tS zb zn zp) + zj) = (wdL.getD zi []).getD zj 0) → Ev E mX11_lineName (rmm 1 0 0) (QM E 0 0 post) 0 0 43 [some (.ref 49), some (.int (nI zi)), some (.int 1), some (.int (nI zk))] [] h := by
  have zcu := cut_ok zi hi
  have zok := tE_ok zb hp
  have zn4 := hT.2.1
  intro zf
  induction zf with
  | zero =>
    intro zk hk H
    refine ev_iload_n (pc := 43) dX11_lineName_43 rfl ?_
    refine ev_if_eq (pc := 44) (tgt := 98) dX11_lineName_44 (by decide) (fun zc44 => absurd zc44 (by decide)) (fun zc44 => ?_)
    refine ev_iload_n (pc := 47) dX11_lineName_47 rfl ?_
    refine ev_aload_n (pc := 48) dX11_lineName_48 rfl ?_
    refine ev_getI (pc := 49) dX11_lineName_49 fX11_109 rfl (wlt hw (by decide)) ?_
    refine ev_eqI (e' := nI (tE zb zn zp)) hL.1 ?_
    refine ev_aload_n (pc := 52) dX11_lineName_52 rfl ?_
    refine ev_getI (pc := 53) dX11_lineName_53 fX11_103 rfl (wlt hw (by decide)) ?_
    refine ev_eqI (e' := nI (tS zb zn zp)) hL.2.1 ?_
    refine ev_isub (pc := 56) dX11_lineName_56 ?_
    refine ev_eqI (e' := nI ((tE zb zn zp) - (tS zb zn zp))) (pk_sub (a := tE zb zn zp) (b := tS zb zn zp) (by omega)) ?_
    refine ev_icmp_ge (pc := 57) (tgt := 98) dX11_lineName_57 (by decide) (fun zc57 => ?_) (fun zc57 => absurd (nI_le (by omega) (by omega)) zc57)
    refine ev_less (L' := [some (.ref 49), some (.int (nI zi)), some (.int 1), none]) (ls_keep (ls_keep (ls_keep (ls_drop (ls_nil _))))) ?_
    exact K1 (wdJ_t hl (fun zj hj => H zj (by omega)))
  | succ zf ih =>
    intro zk hk H
    have zlt : zk < ((tE zb zn zp) - (tS zb zn zp)) := by omega
    refine ev_iload_n (pc := 43) dX11_lineName_43 rfl ?_
    refine ev_if_eq (pc := 44) (tgt := 98) dX11_lineName_44 (by decide) (fun zc44 => absurd zc44 (by decide)) (fun zc44 => ?_)
    refine ev_iload_n (pc := 47) dX11_lineName_47 rfl ?_
    refine ev_aload_n (pc := 48) dX11_lineName_48 rfl ?_
    refine ev_getI (pc := 49) dX11_lineName_49 fX11_109 rfl (wlt hw (by decide)) ?_
    refine ev_eqI (e' := nI (tE zb zn zp)) hL.1 ?_
    refine ev_aload_n (pc := 52) dX11_lineName_52 rfl ?_
    refine ev_getI (pc := 53) dX11_lineName_53 fX11_103 rfl (wlt hw (by decide)) ?_
    refine ev_eqI (e' := nI (tS zb zn zp)) hL.2.1 ?_
    refine ev_isub (pc := 56) dX11_lineName_56 ?_
    refine ev_eqI (e' := nI ((tE zb zn zp) - (tS zb zn zp))) (pk_sub (a := tE zb zn zp) (b := tS zb zn zp) (by omega)) ?_
    refine ev_icmp_ge (pc := 57) (tgt := 98) dX11_lineName_57 (by decide) (fun zc57 => absurd zc57 (nI_ge (by omega) (by omega))) (fun zc57 => ?_)
    have zb1 := hT.2.2 ((tS zb zn zp) + zk) (by omega)
    have zb2 := zcu.2 zk (by omega)
    refine ev_aload_n (pc := 60) dX11_lineName_60 rfl ?_
    refine ev_aload_n (pc := 61) dX11_lineName_61 rfl ?_
    refine ev_getI (pc := 62) dX11_lineName_62 fX11_103 rfl (wlt hw (by decide)) ?_
    refine ev_eqI (e' := nI (tS zb zn zp)) hL.2.1 ?_
    refine ev_iload_n (pc := 65) dX11_lineName_65 rfl ?_
    refine ev_iadd (pc := 66) dX11_lineName_66 ?_
    refine ev_eqI (e' := nI ((tS zb zn zp) + zk)) (nI_add (tS zb zn zp) zk) ?_
    refine ev_callVv (S := []) (pc := 67) dX11_lineName_67 kX11_byteAt lX11_112 vX11_byteAt (cn_byteN E h zb zn ((tS zb zn zp) + zk) hw hT (by have := hT.2.1; omega)) rfl rfl (wlt hw (by decide)) rfl rfl (Nat.le_of_ble_eq_true rfl) ⟨Nat.le_of_ble_eq_true rfl, Nat.le_of_ble_eq_true rfl⟩ ⟨Nat.le_of_ble_eq_true rfl, Nat.le_of_ble_eq_true rfl⟩ ?_
    refine ev_eqI (e' := nI (zb ((tS zb zn zp) + zk))) (if_pos (by omega)) ?_
    refine ev_aload_n (pc := 70) dX11_lineName_70 rfl ?_
    refine ev_getR (pc := 71) (q := 52) dX11_lineName_71 fX11_16 rfl (wlt hw (by decide)) (wr hw rfl) ?_
    refine ev_aload_n (pc := 74) dX11_lineName_74 rfl ?_
    refine ev_getR (pc := 75) (q := 51) dX11_lineName_75 fX11_13 rfl (wlt hw (by decide)) (wr hw rfl) ?_
    refine ev_iload_n (pc := 78) dX11_lineName_78 rfl ?_
    refine ev_iald (pc := 79) dX11_lineName_79 rfl (wlt hw (by decide)) (vp_in_nI (by omega) (by decide)) ?_
    refine ev_eqI (e' := h.2.1 51 zi) (by rw [show Int32.toNatClampNeg (nI zi) = zi from nI_clamp (by omega)] <;> rfl) ?_
    refine ev_eqI (e' := nI (cutN zi)) (hC.1 zi (by omega)) ?_
    refine ev_iload_n (pc := 80) dX11_lineName_80 rfl ?_
    refine ev_iadd (pc := 81) dX11_lineName_81 ?_
    refine ev_eqI (e' := nI ((cutN zi) + zk)) (nI_add (cutN zi) zk) ?_
    refine ev_iald (pc := 82) dX11_lineName_82 rfl (wlt hw (by decide)) (vp_in_nI (by omega) (by decide)) ?_
    refine ev_eqI (e' := h.2.1 52 ((cutN zi) + zk)) (by rw [show Int32.toNatClampNeg (nI ((cutN zi) + zk)) = (cutN zi) + zk from nI_clamp (by omega)] <;> rfl) ?_
    refine ev_eqI (e' := nI ((wdL.getD zi []).getD zk 0)) (by rw [hC.2 _ (by omega), (zcu.2 zk (by omega)).1]) ?_
    refine ev_icmp_ne (pc := 83) (tgt := 90) dX11_lineName_83 (by decide) (fun zc83 => ?_) (fun zc83 => ?_)
    · -- ne at 83: taken
      refine ev_iconst (pc := 90) (v := 0) dX11_lineName_90 (by decide) ?_
      refine ev_istore_n (pc := 91) (L' := [some (.ref 49), some (.int (nI zi)), some (.int 0), some (.int (nI zk))]) dX11_lineName_91 (Nat.le_of_ble_eq_true rfl) rfl ?_
      refine ev_iinc (pc := 92) (v := nI (zk + 1)) (L' := [some (.ref 49), some (.int (nI zi)), some (.int 0), some (.int (nI (zk + 1)))]) dX11_lineName_92 rfl (nI_1 _) (Nat.le_of_ble_eq_true rfl) rfl ?_
      refine ev_goto (pc := 95) (tgt := 43) dX11_lineName_95 (by decide) ?_
      refine ev_iload_n (pc := 43) dX11_lineName_43 rfl ?_
      refine ev_if_eq (pc := 44) (tgt := 98) dX11_lineName_44 (by decide) (fun zc44 => ?_) (fun zc44 => absurd rfl zc44)
      refine ev_less (L' := [some (.ref 49), some (.int (nI zi)), some (.int 0), none]) (ls_keep (ls_keep (ls_keep (ls_drop (ls_nil _))))) ?_
      exact K0 (wdJ_f zlt (fun z => zc83 (by rw [z])))
    · -- ne at 83: not taken
      refine ev_iconst (pc := 86) (v := 1) dX11_lineName_86 (by decide) ?_
      refine ev_goto (pc := 87) (tgt := 91) dX11_lineName_87 (by decide) ?_
      refine ev_istore_n (pc := 91) (L' := [some (.ref 49), some (.int (nI zi)), some (.int 1), some (.int (nI zk))]) dX11_lineName_91 (Nat.le_of_ble_eq_true rfl) rfl ?_
      refine ev_iinc (pc := 92) (v := nI (zk + 1)) (L' := [some (.ref 49), some (.int (nI zi)), some (.int 1), some (.int (nI (zk + 1)))]) dX11_lineName_92 rfl (nI_1 _) (Nat.le_of_ble_eq_true rfl) rfl ?_
      refine ev_goto (pc := 95) (tgt := 43) dX11_lineName_95 (by decide) ?_
      exact ih (zk + 1) (by omega) (fun zj hj => by rcases Nat.lt_or_ge zj zk with z1 | z1; exact H zj z1; rw [show zj = zk by omega]; exact (nI_eq (by omega) (by omega)).mp zc83)
theorem ln_6 (E : ME) (h : AH) (zb : Nat → Nat) (zn zp : Nat) (hw : WF h) (hT : TMz h zb zn) (hC : KTz h) (hL : LAz zb zn zp h) (hk0 : ¬ tK zb zn zp = 0) (hp : zp ≤ zn) (zj0 : wdJ zb (tS zb zn zp) (wdL.getD 0 []) ((tE zb zn zp) - (tS zb zn zp)) = false) (zj1 : wdJ zb (tS zb zn zp) (wdL.getD 1 []) ((tE zb zn zp) - (tS zb zn zp)) = false) (zj2 : wdJ zb (tS zb zn zp) (wdL.getD 2 []) ((tE zb zn zp) - (tS zb zn zp)) = false) (zj3 : wdJ zb (tS zb zn zp) (wdL.getD 3 []) ((tE zb zn zp) - (tS zb zn zp)) = false) (zj4 : wdJ zb (tS zb zn zp) (wdL.getD 4 []) ((tE zb zn zp) - (tS zb zn zp)) = false) (zj5 : wdJ zb (tS zb zn zp) (wdL.getD 5 []) ((tE zb zn zp) - (tS zb zn zp)) = false) : Ev E mX11_lineName (rmm 1 0 0) (QM E 0 0 (fun r h' => r = some (.int (wdV (wdF zb (tS zb zn zp) ((tE zb zn zp) - (tS zb zn zp))))) ∧ h' = h)) 0 0 2 [some (.ref 49), some (.int 6), none, none] [] h := by
  have zok := tE_ok zb hp
  have zn4 := hT.2.1
  refine ev_iload_n (pc := 2) dX11_lineName_2 rfl ?_
  refine ev_bipush (pc := 3) (v := 6) dX11_lineName_3 (by decide) ?_
  refine ev_icmp_ge (pc := 5) (tgt := 110) dX11_lineName_5 (by decide) (fun zc5 => ?_) (fun zc5 => absurd (by decide) zc5)
  refine ev_bipush (pc := 110) (v := (-4)) dX11_lineName_110 (by decide) ?_
  refine ev_iret (pc := 112) dX11_lineName_112 rfl ?_ ?_
  · rfl
  · refine ⟨?_, rfl⟩
    have zw : wdF zb (tS zb zn zp) ((tE zb zn zp) - (tS zb zn zp)) = 6 := by unfold wdF; rw [if_neg (by rw [zj0]; decide), if_neg (by rw [zj1]; decide), if_neg (by rw [zj2]; decide), if_neg (by rw [zj3]; decide), if_neg (by rw [zj4]; decide), if_neg (by rw [zj5]; decide)]
    rw [zw]
    rfl
theorem ln_5 (E : ME) (h : AH) (zb : Nat → Nat) (zn zp : Nat) (hw : WF h) (hT : TMz h zb zn) (hC : KTz h) (hL : LAz zb zn zp h) (hk0 : ¬ tK zb zn zp = 0) (hp : zp ≤ zn) (zj0 : wdJ zb (tS zb zn zp) (wdL.getD 0 []) ((tE zb zn zp) - (tS zb zn zp)) = false) (zj1 : wdJ zb (tS zb zn zp) (wdL.getD 1 []) ((tE zb zn zp) - (tS zb zn zp)) = false) (zj2 : wdJ zb (tS zb zn zp) (wdL.getD 2 []) ((tE zb zn zp) - (tS zb zn zp)) = false) (zj3 : wdJ zb (tS zb zn zp) (wdL.getD 3 []) ((tE zb zn zp) - (tS zb zn zp)) = false) (zj4 : wdJ zb (tS zb zn zp) (wdL.getD 4 []) ((tE zb zn zp) - (tS zb zn zp)) = false) : Ev E mX11_lineName (rmm 1 0 0) (QM E 0 0 (fun r h' => r = some (.int (wdV (wdF zb (tS zb zn zp) ((tE zb zn zp) - (tS zb zn zp))))) ∧ h' = h)) 0 0 2 [some (.ref 49), some (.int 5), none, none] [] h := by
  have zok := tE_ok zb hp
  have zn4 := hT.2.1
  refine ev_iload_n (pc := 2) dX11_lineName_2 rfl ?_
  refine ev_bipush (pc := 3) (v := 6) dX11_lineName_3 (by decide) ?_
  refine ev_icmp_ge (pc := 5) (tgt := 110) dX11_lineName_5 (by decide) (fun zc5 => absurd zc5 (by decide)) (fun zc5 => ?_)
  refine ev_aload_n (pc := 8) dX11_lineName_8 rfl ?_
  refine ev_getI (pc := 9) dX11_lineName_9 fX11_109 rfl (wlt hw (by decide)) ?_
  refine ev_eqI (e' := nI (tE zb zn zp)) hL.1 ?_
  refine ev_aload_n (pc := 12) dX11_lineName_12 rfl ?_
  refine ev_getI (pc := 13) dX11_lineName_13 fX11_103 rfl (wlt hw (by decide)) ?_
  refine ev_eqI (e' := nI (tS zb zn zp)) hL.2.1 ?_
  refine ev_isub (pc := 16) dX11_lineName_16 ?_
  refine ev_eqI (e' := nI ((tE zb zn zp) - (tS zb zn zp))) (pk_sub (a := tE zb zn zp) (b := tS zb zn zp) (by omega)) ?_
  refine ev_aload_n (pc := 17) dX11_lineName_17 rfl ?_
  refine ev_getR (pc := 18) (q := 51) dX11_lineName_18 fX11_13 rfl (wlt hw (by decide)) (wr hw rfl) ?_
  refine ev_iload_n (pc := 21) dX11_lineName_21 rfl ?_
  refine ev_iconst (pc := 22) (v := 1) dX11_lineName_22 (by decide) ?_
  refine ev_iadd (pc := 23) dX11_lineName_23 ?_
  refine ev_eqI (e' := 6) (by decide) ?_
  refine ev_iald (pc := 24) dX11_lineName_24 rfl (wlt hw (by decide)) (vp_in_nI (n := 6) (by decide) (by decide)) ?_
  refine ev_eqI (e' := h.2.1 51 6) (by rfl) ?_
  refine ev_eqI (e' := 28) (hC.1 6 (by decide)) ?_
  refine ev_aload_n (pc := 25) dX11_lineName_25 rfl ?_
  refine ev_getR (pc := 26) (q := 51) dX11_lineName_26 fX11_13 rfl (wlt hw (by decide)) (wr hw rfl) ?_
  refine ev_iload_n (pc := 29) dX11_lineName_29 rfl ?_
  refine ev_iald (pc := 30) dX11_lineName_30 rfl (wlt hw (by decide)) (vp_in_nI (n := 5) (by decide) (by decide)) ?_
  refine ev_eqI (e' := h.2.1 51 5) (by rfl) ?_
  refine ev_eqI (e' := 24) (hC.1 5 (by decide)) ?_
  refine ev_isub (pc := 31) dX11_lineName_31 ?_
  refine ev_eqI (e' := 4) (by decide) ?_
  refine ev_icmp_ne (pc := 32) (tgt := 39) dX11_lineName_32 (by decide) (fun zc32 => ?_) (fun zc32 => ?_)
  · -- ne at 32: taken
    refine ev_iconst (pc := 39) (v := 0) dX11_lineName_39 (by decide) ?_
    refine ev_istore_n (pc := 40) (L' := [some (.ref 49), some (.int 5), some (.int 0), none]) dX11_lineName_40 (Nat.le_of_ble_eq_true rfl) rfl ?_
    refine ev_iconst (pc := 41) (v := 0) dX11_lineName_41 (by decide) ?_
    refine ev_istore_n (pc := 42) (L' := [some (.ref 49), some (.int 5), some (.int 0), some (.int 0)]) dX11_lineName_42 (Nat.le_of_ble_eq_true rfl) rfl ?_
    have zj5 : wdJ zb (tS zb zn zp) (wdL.getD 5 []) ((tE zb zn zp) - (tS zb zn zp)) = false := wdJ_len (fun z => zc32 (congrArg nI z))
    refine ev_iload_n (pc := 43) dX11_lineName_43 rfl ?_
    refine ev_if_eq (pc := 44) (tgt := 98) dX11_lineName_44 (by decide) (fun zc44 => ?_) (fun zc44 => absurd rfl zc44)
    refine ev_iload_n (pc := 98) dX11_lineName_98 rfl ?_
    refine ev_if_eq (pc := 99) (tgt := 104) dX11_lineName_99 (by decide) (fun zc99 => ?_) (fun zc99 => absurd rfl zc99)
    refine ev_iinc (pc := 104) (v := 6) (L' := [some (.ref 49), some (.int 6), some (.int 0), some (.int 0)]) dX11_lineName_104 rfl (by decide) (Nat.le_of_ble_eq_true rfl) rfl ?_
    refine ev_goto (pc := 107) (tgt := 2) dX11_lineName_107 (by decide) ?_
    refine ev_less (L' := [some (.ref 49), some (.int 6), none, none]) (ls_keep (ls_keep (ls_drop (ls_drop (ls_nil _))))) ?_
    exact ln_6 E h zb zn zp hw hT hC hL hk0 hp zj0 zj1 zj2 zj3 zj4 zj5
  · -- ne at 32: not taken
    refine ev_iconst (pc := 35) (v := 1) dX11_lineName_35 (by decide) ?_
    refine ev_goto (pc := 36) (tgt := 40) dX11_lineName_36 (by decide) ?_
    refine ev_istore_n (pc := 40) (L' := [some (.ref 49), some (.int 5), some (.int 1), none]) dX11_lineName_40 (Nat.le_of_ble_eq_true rfl) rfl ?_
    refine ev_iconst (pc := 41) (v := 0) dX11_lineName_41 (by decide) ?_
    refine ev_istore_n (pc := 42) (L' := [some (.ref 49), some (.int 5), some (.int 1), some (.int 0)]) dX11_lineName_42 (Nat.le_of_ble_eq_true rfl) rfl ?_
    have zl : ((tE zb zn zp) - (tS zb zn zp)) = (wdL.getD 5 []).length := (nI_eq (a := ((tE zb zn zp) - (tS zb zn zp))) (b := 4) (by omega) (by decide)).mp zc32
    refine lp_lineName_43 E h zb zn zp 5 hw hT hC hL hk0 hp (by decide) zl (fun zJ => ?_) (fun zj5 => ?_) ((tE zb zn zp) - (tS zb zn zp)) 0 (Nat.zero_add _) (fun zj hj => absurd hj (Nat.not_lt_zero _))
    · refine ev_iload_n (pc := 98) dX11_lineName_98 rfl ?_
      refine ev_if_eq (pc := 99) (tgt := 104) dX11_lineName_99 (by decide) (fun zc99 => absurd zc99 (by decide)) (fun zc99 => ?_)
      refine ev_iload_n (pc := 102) dX11_lineName_102 rfl ?_
      refine ev_iret (pc := 103) dX11_lineName_103 rfl ?_ ?_
      · rfl
      · refine ⟨?_, rfl⟩
        have zw : wdF zb (tS zb zn zp) ((tE zb zn zp) - (tS zb zn zp)) = 5 := by unfold wdF; rw [if_neg (by rw [zj0]; decide), if_neg (by rw [zj1]; decide), if_neg (by rw [zj2]; decide), if_neg (by rw [zj3]; decide), if_neg (by rw [zj4]; decide), if_pos zJ]
        rw [zw]
        rfl
    · refine ev_iload_n (pc := 98) dX11_lineName_98 rfl ?_
      refine ev_if_eq (pc := 99) (tgt := 104) dX11_lineName_99 (by decide) (fun zc99 => ?_) (fun zc99 => absurd rfl zc99)
      refine ev_iinc (pc := 104) (v := 6) (L' := [some (.ref 49), some (.int 6), some (.int 0), none]) dX11_lineName_104 rfl (by decide) (Nat.le_of_ble_eq_true rfl) rfl ?_
      refine ev_goto (pc := 107) (tgt := 2) dX11_lineName_107 (by decide) ?_
      refine ev_less (L' := [some (.ref 49), some (.int 6), none, none]) (ls_keep (ls_keep (ls_drop (ls_keep (ls_nil _))))) ?_
      exact ln_6 E h zb zn zp hw hT hC hL hk0 hp zj0 zj1 zj2 zj3 zj4 zj5
theorem ln_4 (E : ME) (h : AH) (zb : Nat → Nat) (zn zp : Nat) (hw : WF h) (hT : TMz h zb zn) (hC : KTz h) (hL : LAz zb zn zp h) (hk0 : ¬ tK zb zn zp = 0) (hp : zp ≤ zn) (zj0 : wdJ zb (tS zb zn zp) (wdL.getD 0 []) ((tE zb zn zp) - (tS zb zn zp)) = false) (zj1 : wdJ zb (tS zb zn zp) (wdL.getD 1 []) ((tE zb zn zp) - (tS zb zn zp)) = false) (zj2 : wdJ zb (tS zb zn zp) (wdL.getD 2 []) ((tE zb zn zp) - (tS zb zn zp)) = false) (zj3 : wdJ zb (tS zb zn zp) (wdL.getD 3 []) ((tE zb zn zp) - (tS zb zn zp)) = false) : Ev E mX11_lineName (rmm 1 0 0) (QM E 0 0 (fun r h' => r = some (.int (wdV (wdF zb (tS zb zn zp) ((tE zb zn zp) - (tS zb zn zp))))) ∧ h' = h)) 0 0 2 [some (.ref 49), some (.int 4), none, none] [] h := by
  have zok := tE_ok zb hp
  have zn4 := hT.2.1
  refine ev_iload_n (pc := 2) dX11_lineName_2 rfl ?_
  refine ev_bipush (pc := 3) (v := 6) dX11_lineName_3 (by decide) ?_
  refine ev_icmp_ge (pc := 5) (tgt := 110) dX11_lineName_5 (by decide) (fun zc5 => absurd zc5 (by decide)) (fun zc5 => ?_)
  refine ev_aload_n (pc := 8) dX11_lineName_8 rfl ?_
  refine ev_getI (pc := 9) dX11_lineName_9 fX11_109 rfl (wlt hw (by decide)) ?_
  refine ev_eqI (e' := nI (tE zb zn zp)) hL.1 ?_
  refine ev_aload_n (pc := 12) dX11_lineName_12 rfl ?_
  refine ev_getI (pc := 13) dX11_lineName_13 fX11_103 rfl (wlt hw (by decide)) ?_
  refine ev_eqI (e' := nI (tS zb zn zp)) hL.2.1 ?_
  refine ev_isub (pc := 16) dX11_lineName_16 ?_
  refine ev_eqI (e' := nI ((tE zb zn zp) - (tS zb zn zp))) (pk_sub (a := tE zb zn zp) (b := tS zb zn zp) (by omega)) ?_
  refine ev_aload_n (pc := 17) dX11_lineName_17 rfl ?_
  refine ev_getR (pc := 18) (q := 51) dX11_lineName_18 fX11_13 rfl (wlt hw (by decide)) (wr hw rfl) ?_
  refine ev_iload_n (pc := 21) dX11_lineName_21 rfl ?_
  refine ev_iconst (pc := 22) (v := 1) dX11_lineName_22 (by decide) ?_
  refine ev_iadd (pc := 23) dX11_lineName_23 ?_
  refine ev_eqI (e' := 5) (by decide) ?_
  refine ev_iald (pc := 24) dX11_lineName_24 rfl (wlt hw (by decide)) (vp_in_nI (n := 5) (by decide) (by decide)) ?_
  refine ev_eqI (e' := h.2.1 51 5) (by rfl) ?_
  refine ev_eqI (e' := 24) (hC.1 5 (by decide)) ?_
  refine ev_aload_n (pc := 25) dX11_lineName_25 rfl ?_
  refine ev_getR (pc := 26) (q := 51) dX11_lineName_26 fX11_13 rfl (wlt hw (by decide)) (wr hw rfl) ?_
  refine ev_iload_n (pc := 29) dX11_lineName_29 rfl ?_
  refine ev_iald (pc := 30) dX11_lineName_30 rfl (wlt hw (by decide)) (vp_in_nI (n := 4) (by decide) (by decide)) ?_
  refine ev_eqI (e' := h.2.1 51 4) (by rfl) ?_
  refine ev_eqI (e' := 18) (hC.1 4 (by decide)) ?_
  refine ev_isub (pc := 31) dX11_lineName_31 ?_
  refine ev_eqI (e' := 6) (by decide) ?_
  refine ev_icmp_ne (pc := 32) (tgt := 39) dX11_lineName_32 (by decide) (fun zc32 => ?_) (fun zc32 => ?_)
  · -- ne at 32: taken
    refine ev_iconst (pc := 39) (v := 0) dX11_lineName_39 (by decide) ?_
    refine ev_istore_n (pc := 40) (L' := [some (.ref 49), some (.int 4), some (.int 0), none]) dX11_lineName_40 (Nat.le_of_ble_eq_true rfl) rfl ?_
    refine ev_iconst (pc := 41) (v := 0) dX11_lineName_41 (by decide) ?_
    refine ev_istore_n (pc := 42) (L' := [some (.ref 49), some (.int 4), some (.int 0), some (.int 0)]) dX11_lineName_42 (Nat.le_of_ble_eq_true rfl) rfl ?_
    have zj4 : wdJ zb (tS zb zn zp) (wdL.getD 4 []) ((tE zb zn zp) - (tS zb zn zp)) = false := wdJ_len (fun z => zc32 (congrArg nI z))
    refine ev_iload_n (pc := 43) dX11_lineName_43 rfl ?_
    refine ev_if_eq (pc := 44) (tgt := 98) dX11_lineName_44 (by decide) (fun zc44 => ?_) (fun zc44 => absurd rfl zc44)
    refine ev_iload_n (pc := 98) dX11_lineName_98 rfl ?_
    refine ev_if_eq (pc := 99) (tgt := 104) dX11_lineName_99 (by decide) (fun zc99 => ?_) (fun zc99 => absurd rfl zc99)
    refine ev_iinc (pc := 104) (v := 5) (L' := [some (.ref 49), some (.int 5), some (.int 0), some (.int 0)]) dX11_lineName_104 rfl (by decide) (Nat.le_of_ble_eq_true rfl) rfl ?_
    refine ev_goto (pc := 107) (tgt := 2) dX11_lineName_107 (by decide) ?_
    refine ev_less (L' := [some (.ref 49), some (.int 5), none, none]) (ls_keep (ls_keep (ls_drop (ls_drop (ls_nil _))))) ?_
    exact ln_5 E h zb zn zp hw hT hC hL hk0 hp zj0 zj1 zj2 zj3 zj4
  · -- ne at 32: not taken
    refine ev_iconst (pc := 35) (v := 1) dX11_lineName_35 (by decide) ?_
    refine ev_goto (pc := 36) (tgt := 40) dX11_lineName_36 (by decide) ?_
    refine ev_istore_n (pc := 40) (L' := [some (.ref 49), some (.int 4), some (.int 1), none]) dX11_lineName_40 (Nat.le_of_ble_eq_true rfl) rfl ?_
    refine ev_iconst (pc := 41) (v := 0) dX11_lineName_41 (by decide) ?_
    refine ev_istore_n (pc := 42) (L' := [some (.ref 49), some (.int 4), some (.int 1), some (.int 0)]) dX11_lineName_42 (Nat.le_of_ble_eq_true rfl) rfl ?_
    have zl : ((tE zb zn zp) - (tS zb zn zp)) = (wdL.getD 4 []).length := (nI_eq (a := ((tE zb zn zp) - (tS zb zn zp))) (b := 6) (by omega) (by decide)).mp zc32
    refine lp_lineName_43 E h zb zn zp 4 hw hT hC hL hk0 hp (by decide) zl (fun zJ => ?_) (fun zj4 => ?_) ((tE zb zn zp) - (tS zb zn zp)) 0 (Nat.zero_add _) (fun zj hj => absurd hj (Nat.not_lt_zero _))
    · refine ev_iload_n (pc := 98) dX11_lineName_98 rfl ?_
      refine ev_if_eq (pc := 99) (tgt := 104) dX11_lineName_99 (by decide) (fun zc99 => absurd zc99 (by decide)) (fun zc99 => ?_)
      refine ev_iload_n (pc := 102) dX11_lineName_102 rfl ?_
      refine ev_iret (pc := 103) dX11_lineName_103 rfl ?_ ?_
      · rfl
      · refine ⟨?_, rfl⟩
        have zw : wdF zb (tS zb zn zp) ((tE zb zn zp) - (tS zb zn zp)) = 4 := by unfold wdF; rw [if_neg (by rw [zj0]; decide), if_neg (by rw [zj1]; decide), if_neg (by rw [zj2]; decide), if_neg (by rw [zj3]; decide), if_pos zJ]
        rw [zw]
        rfl
    · refine ev_iload_n (pc := 98) dX11_lineName_98 rfl ?_
      refine ev_if_eq (pc := 99) (tgt := 104) dX11_lineName_99 (by decide) (fun zc99 => ?_) (fun zc99 => absurd rfl zc99)
      refine ev_iinc (pc := 104) (v := 5) (L' := [some (.ref 49), some (.int 5), some (.int 0), none]) dX11_lineName_104 rfl (by decide) (Nat.le_of_ble_eq_true rfl) rfl ?_
      refine ev_goto (pc := 107) (tgt := 2) dX11_lineName_107 (by decide) ?_
      refine ev_less (L' := [some (.ref 49), some (.int 5), none, none]) (ls_keep (ls_keep (ls_drop (ls_keep (ls_nil _))))) ?_
      exact ln_5 E h zb zn zp hw hT hC hL hk0 hp zj0 zj1 zj2 zj3 zj4
theorem ln_3 (E : ME) (h : AH) (zb : Nat → Nat) (zn zp : Nat) (hw : WF h) (hT : TMz h zb zn) (hC : KTz h) (hL : LAz zb zn zp h) (hk0 : ¬ tK zb zn zp = 0) (hp : zp ≤ zn) (zj0 : wdJ zb (tS zb zn zp) (wdL.getD 0 []) ((tE zb zn zp) - (tS zb zn zp)) = false) (zj1 : wdJ zb (tS zb zn zp) (wdL.getD 1 []) ((tE zb zn zp) - (tS zb zn zp)) = false) (zj2 : wdJ zb (tS zb zn zp) (wdL.getD 2 []) ((tE zb zn zp) - (tS zb zn zp)) = false) : Ev E mX11_lineName (rmm 1 0 0) (QM E 0 0 (fun r h' => r = some (.int (wdV (wdF zb (tS zb zn zp) ((tE zb zn zp) - (tS zb zn zp))))) ∧ h' = h)) 0 0 2 [some (.ref 49), some (.int 3), none, none] [] h := by
  have zok := tE_ok zb hp
  have zn4 := hT.2.1
  refine ev_iload_n (pc := 2) dX11_lineName_2 rfl ?_
  refine ev_bipush (pc := 3) (v := 6) dX11_lineName_3 (by decide) ?_
  refine ev_icmp_ge (pc := 5) (tgt := 110) dX11_lineName_5 (by decide) (fun zc5 => absurd zc5 (by decide)) (fun zc5 => ?_)
  refine ev_aload_n (pc := 8) dX11_lineName_8 rfl ?_
  refine ev_getI (pc := 9) dX11_lineName_9 fX11_109 rfl (wlt hw (by decide)) ?_
  refine ev_eqI (e' := nI (tE zb zn zp)) hL.1 ?_
  refine ev_aload_n (pc := 12) dX11_lineName_12 rfl ?_
  refine ev_getI (pc := 13) dX11_lineName_13 fX11_103 rfl (wlt hw (by decide)) ?_
  refine ev_eqI (e' := nI (tS zb zn zp)) hL.2.1 ?_
  refine ev_isub (pc := 16) dX11_lineName_16 ?_
  refine ev_eqI (e' := nI ((tE zb zn zp) - (tS zb zn zp))) (pk_sub (a := tE zb zn zp) (b := tS zb zn zp) (by omega)) ?_
  refine ev_aload_n (pc := 17) dX11_lineName_17 rfl ?_
  refine ev_getR (pc := 18) (q := 51) dX11_lineName_18 fX11_13 rfl (wlt hw (by decide)) (wr hw rfl) ?_
  refine ev_iload_n (pc := 21) dX11_lineName_21 rfl ?_
  refine ev_iconst (pc := 22) (v := 1) dX11_lineName_22 (by decide) ?_
  refine ev_iadd (pc := 23) dX11_lineName_23 ?_
  refine ev_eqI (e' := 4) (by decide) ?_
  refine ev_iald (pc := 24) dX11_lineName_24 rfl (wlt hw (by decide)) (vp_in_nI (n := 4) (by decide) (by decide)) ?_
  refine ev_eqI (e' := h.2.1 51 4) (by rfl) ?_
  refine ev_eqI (e' := 18) (hC.1 4 (by decide)) ?_
  refine ev_aload_n (pc := 25) dX11_lineName_25 rfl ?_
  refine ev_getR (pc := 26) (q := 51) dX11_lineName_26 fX11_13 rfl (wlt hw (by decide)) (wr hw rfl) ?_
  refine ev_iload_n (pc := 29) dX11_lineName_29 rfl ?_
  refine ev_iald (pc := 30) dX11_lineName_30 rfl (wlt hw (by decide)) (vp_in_nI (n := 3) (by decide) (by decide)) ?_
  refine ev_eqI (e' := h.2.1 51 3) (by rfl) ?_
  refine ev_eqI (e' := 13) (hC.1 3 (by decide)) ?_
  refine ev_isub (pc := 31) dX11_lineName_31 ?_
  refine ev_eqI (e' := 5) (by decide) ?_
  refine ev_icmp_ne (pc := 32) (tgt := 39) dX11_lineName_32 (by decide) (fun zc32 => ?_) (fun zc32 => ?_)
  · -- ne at 32: taken
    refine ev_iconst (pc := 39) (v := 0) dX11_lineName_39 (by decide) ?_
    refine ev_istore_n (pc := 40) (L' := [some (.ref 49), some (.int 3), some (.int 0), none]) dX11_lineName_40 (Nat.le_of_ble_eq_true rfl) rfl ?_
    refine ev_iconst (pc := 41) (v := 0) dX11_lineName_41 (by decide) ?_
    refine ev_istore_n (pc := 42) (L' := [some (.ref 49), some (.int 3), some (.int 0), some (.int 0)]) dX11_lineName_42 (Nat.le_of_ble_eq_true rfl) rfl ?_
    have zj3 : wdJ zb (tS zb zn zp) (wdL.getD 3 []) ((tE zb zn zp) - (tS zb zn zp)) = false := wdJ_len (fun z => zc32 (congrArg nI z))
    refine ev_iload_n (pc := 43) dX11_lineName_43 rfl ?_
    refine ev_if_eq (pc := 44) (tgt := 98) dX11_lineName_44 (by decide) (fun zc44 => ?_) (fun zc44 => absurd rfl zc44)
    refine ev_iload_n (pc := 98) dX11_lineName_98 rfl ?_
    refine ev_if_eq (pc := 99) (tgt := 104) dX11_lineName_99 (by decide) (fun zc99 => ?_) (fun zc99 => absurd rfl zc99)
    refine ev_iinc (pc := 104) (v := 4) (L' := [some (.ref 49), some (.int 4), some (.int 0), some (.int 0)]) dX11_lineName_104 rfl (by decide) (Nat.le_of_ble_eq_true rfl) rfl ?_
    refine ev_goto (pc := 107) (tgt := 2) dX11_lineName_107 (by decide) ?_
    refine ev_less (L' := [some (.ref 49), some (.int 4), none, none]) (ls_keep (ls_keep (ls_drop (ls_drop (ls_nil _))))) ?_
    exact ln_4 E h zb zn zp hw hT hC hL hk0 hp zj0 zj1 zj2 zj3
  · -- ne at 32: not taken
    refine ev_iconst (pc := 35) (v := 1) dX11_lineName_35 (by decide) ?_
    refine ev_goto (pc := 36) (tgt := 40) dX11_lineName_36 (by decide) ?_
    refine ev_istore_n (pc := 40) (L' := [some (.ref 49), some (.int 3), some (.int 1), none]) dX11_lineName_40 (Nat.le_of_ble_eq_true rfl) rfl ?_
    refine ev_iconst (pc := 41) (v := 0) dX11_lineName_41 (by decide) ?_
    refine ev_istore_n (pc := 42) (L' := [some (.ref 49), some (.int 3), some (.int 1), some (.int 0)]) dX11_lineName_42 (Nat.le_of_ble_eq_true rfl) rfl ?_
    have zl : ((tE zb zn zp) - (tS zb zn zp)) = (wdL.getD 3 []).length := (nI_eq (a := ((tE zb zn zp) - (tS zb zn zp))) (b := 5) (by omega) (by decide)).mp zc32
    refine lp_lineName_43 E h zb zn zp 3 hw hT hC hL hk0 hp (by decide) zl (fun zJ => ?_) (fun zj3 => ?_) ((tE zb zn zp) - (tS zb zn zp)) 0 (Nat.zero_add _) (fun zj hj => absurd hj (Nat.not_lt_zero _))
    · refine ev_iload_n (pc := 98) dX11_lineName_98 rfl ?_
      refine ev_if_eq (pc := 99) (tgt := 104) dX11_lineName_99 (by decide) (fun zc99 => absurd zc99 (by decide)) (fun zc99 => ?_)
      refine ev_iload_n (pc := 102) dX11_lineName_102 rfl ?_
      refine ev_iret (pc := 103) dX11_lineName_103 rfl ?_ ?_
      · rfl
      · refine ⟨?_, rfl⟩
        have zw : wdF zb (tS zb zn zp) ((tE zb zn zp) - (tS zb zn zp)) = 3 := by unfold wdF; rw [if_neg (by rw [zj0]; decide), if_neg (by rw [zj1]; decide), if_neg (by rw [zj2]; decide), if_pos zJ]
        rw [zw]
        rfl
    · refine ev_iload_n (pc := 98) dX11_lineName_98 rfl ?_
      refine ev_if_eq (pc := 99) (tgt := 104) dX11_lineName_99 (by decide) (fun zc99 => ?_) (fun zc99 => absurd rfl zc99)
      refine ev_iinc (pc := 104) (v := 4) (L' := [some (.ref 49), some (.int 4), some (.int 0), none]) dX11_lineName_104 rfl (by decide) (Nat.le_of_ble_eq_true rfl) rfl ?_
      refine ev_goto (pc := 107) (tgt := 2) dX11_lineName_107 (by decide) ?_
      refine ev_less (L' := [some (.ref 49), some (.int 4), none, none]) (ls_keep (ls_keep (ls_drop (ls_keep (ls_nil _))))) ?_
      exact ln_4 E h zb zn zp hw hT hC hL hk0 hp zj0 zj1 zj2 zj3
theorem ln_2 (E : ME) (h : AH) (zb : Nat → Nat) (zn zp : Nat) (hw : WF h) (hT : TMz h zb zn) (hC : KTz h) (hL : LAz zb zn zp h) (hk0 : ¬ tK zb zn zp = 0) (hp : zp ≤ zn) (zj0 : wdJ zb (tS zb zn zp) (wdL.getD 0 []) ((tE zb zn zp) - (tS zb zn zp)) = false) (zj1 : wdJ zb (tS zb zn zp) (wdL.getD 1 []) ((tE zb zn zp) - (tS zb zn zp)) = false) : Ev E mX11_lineName (rmm 1 0 0) (QM E 0 0 (fun r h' => r = some (.int (wdV (wdF zb (tS zb zn zp) ((tE zb zn zp) - (tS zb zn zp))))) ∧ h' = h)) 0 0 2 [some (.ref 49), some (.int 2), none, none] [] h := by
  have zok := tE_ok zb hp
  have zn4 := hT.2.1
  refine ev_iload_n (pc := 2) dX11_lineName_2 rfl ?_
  refine ev_bipush (pc := 3) (v := 6) dX11_lineName_3 (by decide) ?_
  refine ev_icmp_ge (pc := 5) (tgt := 110) dX11_lineName_5 (by decide) (fun zc5 => absurd zc5 (by decide)) (fun zc5 => ?_)
  refine ev_aload_n (pc := 8) dX11_lineName_8 rfl ?_
  refine ev_getI (pc := 9) dX11_lineName_9 fX11_109 rfl (wlt hw (by decide)) ?_
  refine ev_eqI (e' := nI (tE zb zn zp)) hL.1 ?_
  refine ev_aload_n (pc := 12) dX11_lineName_12 rfl ?_
  refine ev_getI (pc := 13) dX11_lineName_13 fX11_103 rfl (wlt hw (by decide)) ?_
  refine ev_eqI (e' := nI (tS zb zn zp)) hL.2.1 ?_
  refine ev_isub (pc := 16) dX11_lineName_16 ?_
  refine ev_eqI (e' := nI ((tE zb zn zp) - (tS zb zn zp))) (pk_sub (a := tE zb zn zp) (b := tS zb zn zp) (by omega)) ?_
  refine ev_aload_n (pc := 17) dX11_lineName_17 rfl ?_
  refine ev_getR (pc := 18) (q := 51) dX11_lineName_18 fX11_13 rfl (wlt hw (by decide)) (wr hw rfl) ?_
  refine ev_iload_n (pc := 21) dX11_lineName_21 rfl ?_
  refine ev_iconst (pc := 22) (v := 1) dX11_lineName_22 (by decide) ?_
  refine ev_iadd (pc := 23) dX11_lineName_23 ?_
  refine ev_eqI (e' := 3) (by decide) ?_
  refine ev_iald (pc := 24) dX11_lineName_24 rfl (wlt hw (by decide)) (vp_in_nI (n := 3) (by decide) (by decide)) ?_
  refine ev_eqI (e' := h.2.1 51 3) (by rfl) ?_
  refine ev_eqI (e' := 13) (hC.1 3 (by decide)) ?_
  refine ev_aload_n (pc := 25) dX11_lineName_25 rfl ?_
  refine ev_getR (pc := 26) (q := 51) dX11_lineName_26 fX11_13 rfl (wlt hw (by decide)) (wr hw rfl) ?_
  refine ev_iload_n (pc := 29) dX11_lineName_29 rfl ?_
  refine ev_iald (pc := 30) dX11_lineName_30 rfl (wlt hw (by decide)) (vp_in_nI (n := 2) (by decide) (by decide)) ?_
  refine ev_eqI (e' := h.2.1 51 2) (by rfl) ?_
  refine ev_eqI (e' := 8) (hC.1 2 (by decide)) ?_
  refine ev_isub (pc := 31) dX11_lineName_31 ?_
  refine ev_eqI (e' := 5) (by decide) ?_
  refine ev_icmp_ne (pc := 32) (tgt := 39) dX11_lineName_32 (by decide) (fun zc32 => ?_) (fun zc32 => ?_)
  · -- ne at 32: taken
    refine ev_iconst (pc := 39) (v := 0) dX11_lineName_39 (by decide) ?_
    refine ev_istore_n (pc := 40) (L' := [some (.ref 49), some (.int 2), some (.int 0), none]) dX11_lineName_40 (Nat.le_of_ble_eq_true rfl) rfl ?_
    refine ev_iconst (pc := 41) (v := 0) dX11_lineName_41 (by decide) ?_
    refine ev_istore_n (pc := 42) (L' := [some (.ref 49), some (.int 2), some (.int 0), some (.int 0)]) dX11_lineName_42 (Nat.le_of_ble_eq_true rfl) rfl ?_
    have zj2 : wdJ zb (tS zb zn zp) (wdL.getD 2 []) ((tE zb zn zp) - (tS zb zn zp)) = false := wdJ_len (fun z => zc32 (congrArg nI z))
    refine ev_iload_n (pc := 43) dX11_lineName_43 rfl ?_
    refine ev_if_eq (pc := 44) (tgt := 98) dX11_lineName_44 (by decide) (fun zc44 => ?_) (fun zc44 => absurd rfl zc44)
    refine ev_iload_n (pc := 98) dX11_lineName_98 rfl ?_
    refine ev_if_eq (pc := 99) (tgt := 104) dX11_lineName_99 (by decide) (fun zc99 => ?_) (fun zc99 => absurd rfl zc99)
    refine ev_iinc (pc := 104) (v := 3) (L' := [some (.ref 49), some (.int 3), some (.int 0), some (.int 0)]) dX11_lineName_104 rfl (by decide) (Nat.le_of_ble_eq_true rfl) rfl ?_
    refine ev_goto (pc := 107) (tgt := 2) dX11_lineName_107 (by decide) ?_
    refine ev_less (L' := [some (.ref 49), some (.int 3), none, none]) (ls_keep (ls_keep (ls_drop (ls_drop (ls_nil _))))) ?_
    exact ln_3 E h zb zn zp hw hT hC hL hk0 hp zj0 zj1 zj2
  · -- ne at 32: not taken
    refine ev_iconst (pc := 35) (v := 1) dX11_lineName_35 (by decide) ?_
    refine ev_goto (pc := 36) (tgt := 40) dX11_lineName_36 (by decide) ?_
    refine ev_istore_n (pc := 40) (L' := [some (.ref 49), some (.int 2), some (.int 1), none]) dX11_lineName_40 (Nat.le_of_ble_eq_true rfl) rfl ?_
    refine ev_iconst (pc := 41) (v := 0) dX11_lineName_41 (by decide) ?_
    refine ev_istore_n (pc := 42) (L' := [some (.ref 49), some (.int 2), some (.int 1), some (.int 0)]) dX11_lineName_42 (Nat.le_of_ble_eq_true rfl) rfl ?_
    have zl : ((tE zb zn zp) - (tS zb zn zp)) = (wdL.getD 2 []).length := (nI_eq (a := ((tE zb zn zp) - (tS zb zn zp))) (b := 5) (by omega) (by decide)).mp zc32
    refine lp_lineName_43 E h zb zn zp 2 hw hT hC hL hk0 hp (by decide) zl (fun zJ => ?_) (fun zj2 => ?_) ((tE zb zn zp) - (tS zb zn zp)) 0 (Nat.zero_add _) (fun zj hj => absurd hj (Nat.not_lt_zero _))
    · refine ev_iload_n (pc := 98) dX11_lineName_98 rfl ?_
      refine ev_if_eq (pc := 99) (tgt := 104) dX11_lineName_99 (by decide) (fun zc99 => absurd zc99 (by decide)) (fun zc99 => ?_)
      refine ev_iload_n (pc := 102) dX11_lineName_102 rfl ?_
      refine ev_iret (pc := 103) dX11_lineName_103 rfl ?_ ?_
      · rfl
      · refine ⟨?_, rfl⟩
        have zw : wdF zb (tS zb zn zp) ((tE zb zn zp) - (tS zb zn zp)) = 2 := by unfold wdF; rw [if_neg (by rw [zj0]; decide), if_neg (by rw [zj1]; decide), if_pos zJ]
        rw [zw]
        rfl
    · refine ev_iload_n (pc := 98) dX11_lineName_98 rfl ?_
      refine ev_if_eq (pc := 99) (tgt := 104) dX11_lineName_99 (by decide) (fun zc99 => ?_) (fun zc99 => absurd rfl zc99)
      refine ev_iinc (pc := 104) (v := 3) (L' := [some (.ref 49), some (.int 3), some (.int 0), none]) dX11_lineName_104 rfl (by decide) (Nat.le_of_ble_eq_true rfl) rfl ?_
      refine ev_goto (pc := 107) (tgt := 2) dX11_lineName_107 (by decide) ?_
      refine ev_less (L' := [some (.ref 49), some (.int 3), none, none]) (ls_keep (ls_keep (ls_drop (ls_keep (ls_nil _))))) ?_
      exact ln_3 E h zb zn zp hw hT hC hL hk0 hp zj0 zj1 zj2
theorem ln_1 (E : ME) (h : AH) (zb : Nat → Nat) (zn zp : Nat) (hw : WF h) (hT : TMz h zb zn) (hC : KTz h) (hL : LAz zb zn zp h) (hk0 : ¬ tK zb zn zp = 0) (hp : zp ≤ zn) (zj0 : wdJ zb (tS zb zn zp) (wdL.getD 0 []) ((tE zb zn zp) - (tS zb zn zp)) = false) : Ev E mX11_lineName (rmm 1 0 0) (QM E 0 0 (fun r h' => r = some (.int (wdV (wdF zb (tS zb zn zp) ((tE zb zn zp) - (tS zb zn zp))))) ∧ h' = h)) 0 0 2 [some (.ref 49), some (.int 1), none, none] [] h := by
  have zok := tE_ok zb hp
  have zn4 := hT.2.1
  refine ev_iload_n (pc := 2) dX11_lineName_2 rfl ?_
  refine ev_bipush (pc := 3) (v := 6) dX11_lineName_3 (by decide) ?_
  refine ev_icmp_ge (pc := 5) (tgt := 110) dX11_lineName_5 (by decide) (fun zc5 => absurd zc5 (by decide)) (fun zc5 => ?_)
  refine ev_aload_n (pc := 8) dX11_lineName_8 rfl ?_
  refine ev_getI (pc := 9) dX11_lineName_9 fX11_109 rfl (wlt hw (by decide)) ?_
  refine ev_eqI (e' := nI (tE zb zn zp)) hL.1 ?_
  refine ev_aload_n (pc := 12) dX11_lineName_12 rfl ?_
  refine ev_getI (pc := 13) dX11_lineName_13 fX11_103 rfl (wlt hw (by decide)) ?_
  refine ev_eqI (e' := nI (tS zb zn zp)) hL.2.1 ?_
  refine ev_isub (pc := 16) dX11_lineName_16 ?_
  refine ev_eqI (e' := nI ((tE zb zn zp) - (tS zb zn zp))) (pk_sub (a := tE zb zn zp) (b := tS zb zn zp) (by omega)) ?_
  refine ev_aload_n (pc := 17) dX11_lineName_17 rfl ?_
  refine ev_getR (pc := 18) (q := 51) dX11_lineName_18 fX11_13 rfl (wlt hw (by decide)) (wr hw rfl) ?_
  refine ev_iload_n (pc := 21) dX11_lineName_21 rfl ?_
  refine ev_iconst (pc := 22) (v := 1) dX11_lineName_22 (by decide) ?_
  refine ev_iadd (pc := 23) dX11_lineName_23 ?_
  refine ev_eqI (e' := 2) (by decide) ?_
  refine ev_iald (pc := 24) dX11_lineName_24 rfl (wlt hw (by decide)) (vp_in_nI (n := 2) (by decide) (by decide)) ?_
  refine ev_eqI (e' := h.2.1 51 2) (by rfl) ?_
  refine ev_eqI (e' := 8) (hC.1 2 (by decide)) ?_
  refine ev_aload_n (pc := 25) dX11_lineName_25 rfl ?_
  refine ev_getR (pc := 26) (q := 51) dX11_lineName_26 fX11_13 rfl (wlt hw (by decide)) (wr hw rfl) ?_
  refine ev_iload_n (pc := 29) dX11_lineName_29 rfl ?_
  refine ev_iald (pc := 30) dX11_lineName_30 rfl (wlt hw (by decide)) (vp_in_nI (n := 1) (by decide) (by decide)) ?_
  refine ev_eqI (e' := h.2.1 51 1) (by rfl) ?_
  refine ev_eqI (e' := 3) (hC.1 1 (by decide)) ?_
  refine ev_isub (pc := 31) dX11_lineName_31 ?_
  refine ev_eqI (e' := 5) (by decide) ?_
  refine ev_icmp_ne (pc := 32) (tgt := 39) dX11_lineName_32 (by decide) (fun zc32 => ?_) (fun zc32 => ?_)
  · -- ne at 32: taken
    refine ev_iconst (pc := 39) (v := 0) dX11_lineName_39 (by decide) ?_
    refine ev_istore_n (pc := 40) (L' := [some (.ref 49), some (.int 1), some (.int 0), none]) dX11_lineName_40 (Nat.le_of_ble_eq_true rfl) rfl ?_
    refine ev_iconst (pc := 41) (v := 0) dX11_lineName_41 (by decide) ?_
    refine ev_istore_n (pc := 42) (L' := [some (.ref 49), some (.int 1), some (.int 0), some (.int 0)]) dX11_lineName_42 (Nat.le_of_ble_eq_true rfl) rfl ?_
    have zj1 : wdJ zb (tS zb zn zp) (wdL.getD 1 []) ((tE zb zn zp) - (tS zb zn zp)) = false := wdJ_len (fun z => zc32 (congrArg nI z))
    refine ev_iload_n (pc := 43) dX11_lineName_43 rfl ?_
    refine ev_if_eq (pc := 44) (tgt := 98) dX11_lineName_44 (by decide) (fun zc44 => ?_) (fun zc44 => absurd rfl zc44)
    refine ev_iload_n (pc := 98) dX11_lineName_98 rfl ?_
    refine ev_if_eq (pc := 99) (tgt := 104) dX11_lineName_99 (by decide) (fun zc99 => ?_) (fun zc99 => absurd rfl zc99)
    refine ev_iinc (pc := 104) (v := 2) (L' := [some (.ref 49), some (.int 2), some (.int 0), some (.int 0)]) dX11_lineName_104 rfl (by decide) (Nat.le_of_ble_eq_true rfl) rfl ?_
    refine ev_goto (pc := 107) (tgt := 2) dX11_lineName_107 (by decide) ?_
    refine ev_less (L' := [some (.ref 49), some (.int 2), none, none]) (ls_keep (ls_keep (ls_drop (ls_drop (ls_nil _))))) ?_
    exact ln_2 E h zb zn zp hw hT hC hL hk0 hp zj0 zj1
  · -- ne at 32: not taken
    refine ev_iconst (pc := 35) (v := 1) dX11_lineName_35 (by decide) ?_
    refine ev_goto (pc := 36) (tgt := 40) dX11_lineName_36 (by decide) ?_
    refine ev_istore_n (pc := 40) (L' := [some (.ref 49), some (.int 1), some (.int 1), none]) dX11_lineName_40 (Nat.le_of_ble_eq_true rfl) rfl ?_
    refine ev_iconst (pc := 41) (v := 0) dX11_lineName_41 (by decide) ?_
    refine ev_istore_n (pc := 42) (L' := [some (.ref 49), some (.int 1), some (.int 1), some (.int 0)]) dX11_lineName_42 (Nat.le_of_ble_eq_true rfl) rfl ?_
    have zl : ((tE zb zn zp) - (tS zb zn zp)) = (wdL.getD 1 []).length := (nI_eq (a := ((tE zb zn zp) - (tS zb zn zp))) (b := 5) (by omega) (by decide)).mp zc32
    refine lp_lineName_43 E h zb zn zp 1 hw hT hC hL hk0 hp (by decide) zl (fun zJ => ?_) (fun zj1 => ?_) ((tE zb zn zp) - (tS zb zn zp)) 0 (Nat.zero_add _) (fun zj hj => absurd hj (Nat.not_lt_zero _))
    · refine ev_iload_n (pc := 98) dX11_lineName_98 rfl ?_
      refine ev_if_eq (pc := 99) (tgt := 104) dX11_lineName_99 (by decide) (fun zc99 => absurd zc99 (by decide)) (fun zc99 => ?_)
      refine ev_iload_n (pc := 102) dX11_lineName_102 rfl ?_
      refine ev_iret (pc := 103) dX11_lineName_103 rfl ?_ ?_
      · rfl
      · refine ⟨?_, rfl⟩
        have zw : wdF zb (tS zb zn zp) ((tE zb zn zp) - (tS zb zn zp)) = 1 := by unfold wdF; rw [if_neg (by rw [zj0]; decide), if_pos zJ]
        rw [zw]
        rfl
    · refine ev_iload_n (pc := 98) dX11_lineName_98 rfl ?_
      refine ev_if_eq (pc := 99) (tgt := 104) dX11_lineName_99 (by decide) (fun zc99 => ?_) (fun zc99 => absurd rfl zc99)
      refine ev_iinc (pc := 104) (v := 2) (L' := [some (.ref 49), some (.int 2), some (.int 0), none]) dX11_lineName_104 rfl (by decide) (Nat.le_of_ble_eq_true rfl) rfl ?_
      refine ev_goto (pc := 107) (tgt := 2) dX11_lineName_107 (by decide) ?_
      refine ev_less (L' := [some (.ref 49), some (.int 2), none, none]) (ls_keep (ls_keep (ls_drop (ls_keep (ls_nil _))))) ?_
      exact ln_2 E h zb zn zp hw hT hC hL hk0 hp zj0 zj1
theorem ln_0 (E : ME) (h : AH) (zb : Nat → Nat) (zn zp : Nat) (hw : WF h) (hT : TMz h zb zn) (hC : KTz h) (hL : LAz zb zn zp h) (hk0 : ¬ tK zb zn zp = 0) (hp : zp ≤ zn)  : Ev E mX11_lineName (rmm 1 0 0) (QM E 0 0 (fun r h' => r = some (.int (wdV (wdF zb (tS zb zn zp) ((tE zb zn zp) - (tS zb zn zp))))) ∧ h' = h)) 0 0 2 [some (.ref 49), some (.int 0), none, none] [] h := by
  have zok := tE_ok zb hp
  have zn4 := hT.2.1
  refine ev_iload_n (pc := 2) dX11_lineName_2 rfl ?_
  refine ev_bipush (pc := 3) (v := 6) dX11_lineName_3 (by decide) ?_
  refine ev_icmp_ge (pc := 5) (tgt := 110) dX11_lineName_5 (by decide) (fun zc5 => absurd zc5 (by decide)) (fun zc5 => ?_)
  refine ev_aload_n (pc := 8) dX11_lineName_8 rfl ?_
  refine ev_getI (pc := 9) dX11_lineName_9 fX11_109 rfl (wlt hw (by decide)) ?_
  refine ev_eqI (e' := nI (tE zb zn zp)) hL.1 ?_
  refine ev_aload_n (pc := 12) dX11_lineName_12 rfl ?_
  refine ev_getI (pc := 13) dX11_lineName_13 fX11_103 rfl (wlt hw (by decide)) ?_
  refine ev_eqI (e' := nI (tS zb zn zp)) hL.2.1 ?_
  refine ev_isub (pc := 16) dX11_lineName_16 ?_
  refine ev_eqI (e' := nI ((tE zb zn zp) - (tS zb zn zp))) (pk_sub (a := tE zb zn zp) (b := tS zb zn zp) (by omega)) ?_
  refine ev_aload_n (pc := 17) dX11_lineName_17 rfl ?_
  refine ev_getR (pc := 18) (q := 51) dX11_lineName_18 fX11_13 rfl (wlt hw (by decide)) (wr hw rfl) ?_
  refine ev_iload_n (pc := 21) dX11_lineName_21 rfl ?_
  refine ev_iconst (pc := 22) (v := 1) dX11_lineName_22 (by decide) ?_
  refine ev_iadd (pc := 23) dX11_lineName_23 ?_
  refine ev_eqI (e' := 1) (by decide) ?_
  refine ev_iald (pc := 24) dX11_lineName_24 rfl (wlt hw (by decide)) (vp_in_nI (n := 1) (by decide) (by decide)) ?_
  refine ev_eqI (e' := h.2.1 51 1) (by rfl) ?_
  refine ev_eqI (e' := 3) (hC.1 1 (by decide)) ?_
  refine ev_aload_n (pc := 25) dX11_lineName_25 rfl ?_
  refine ev_getR (pc := 26) (q := 51) dX11_lineName_26 fX11_13 rfl (wlt hw (by decide)) (wr hw rfl) ?_
  refine ev_iload_n (pc := 29) dX11_lineName_29 rfl ?_
  refine ev_iald (pc := 30) dX11_lineName_30 rfl (wlt hw (by decide)) (vp_in_nI (n := 0) (by decide) (by decide)) ?_
  refine ev_eqI (e' := h.2.1 51 0) (by rfl) ?_
  refine ev_eqI (e' := 0) (hC.1 0 (by decide)) ?_
  refine ev_isub (pc := 31) dX11_lineName_31 ?_
  refine ev_eqI (e' := 3) (by decide) ?_
  refine ev_icmp_ne (pc := 32) (tgt := 39) dX11_lineName_32 (by decide) (fun zc32 => ?_) (fun zc32 => ?_)
  · -- ne at 32: taken
    refine ev_iconst (pc := 39) (v := 0) dX11_lineName_39 (by decide) ?_
    refine ev_istore_n (pc := 40) (L' := [some (.ref 49), some (.int 0), some (.int 0), none]) dX11_lineName_40 (Nat.le_of_ble_eq_true rfl) rfl ?_
    refine ev_iconst (pc := 41) (v := 0) dX11_lineName_41 (by decide) ?_
    refine ev_istore_n (pc := 42) (L' := [some (.ref 49), some (.int 0), some (.int 0), some (.int 0)]) dX11_lineName_42 (Nat.le_of_ble_eq_true rfl) rfl ?_
    have zj0 : wdJ zb (tS zb zn zp) (wdL.getD 0 []) ((tE zb zn zp) - (tS zb zn zp)) = false := wdJ_len (fun z => zc32 (congrArg nI z))
    refine ev_iload_n (pc := 43) dX11_lineName_43 rfl ?_
    refine ev_if_eq (pc := 44) (tgt := 98) dX11_lineName_44 (by decide) (fun zc44 => ?_) (fun zc44 => absurd rfl zc44)
    refine ev_iload_n (pc := 98) dX11_lineName_98 rfl ?_
    refine ev_if_eq (pc := 99) (tgt := 104) dX11_lineName_99 (by decide) (fun zc99 => ?_) (fun zc99 => absurd rfl zc99)
    refine ev_iinc (pc := 104) (v := 1) (L' := [some (.ref 49), some (.int 1), some (.int 0), some (.int 0)]) dX11_lineName_104 rfl (by decide) (Nat.le_of_ble_eq_true rfl) rfl ?_
    refine ev_goto (pc := 107) (tgt := 2) dX11_lineName_107 (by decide) ?_
    refine ev_less (L' := [some (.ref 49), some (.int 1), none, none]) (ls_keep (ls_keep (ls_drop (ls_drop (ls_nil _))))) ?_
    exact ln_1 E h zb zn zp hw hT hC hL hk0 hp zj0
  · -- ne at 32: not taken
    refine ev_iconst (pc := 35) (v := 1) dX11_lineName_35 (by decide) ?_
    refine ev_goto (pc := 36) (tgt := 40) dX11_lineName_36 (by decide) ?_
    refine ev_istore_n (pc := 40) (L' := [some (.ref 49), some (.int 0), some (.int 1), none]) dX11_lineName_40 (Nat.le_of_ble_eq_true rfl) rfl ?_
    refine ev_iconst (pc := 41) (v := 0) dX11_lineName_41 (by decide) ?_
    refine ev_istore_n (pc := 42) (L' := [some (.ref 49), some (.int 0), some (.int 1), some (.int 0)]) dX11_lineName_42 (Nat.le_of_ble_eq_true rfl) rfl ?_
    have zl : ((tE zb zn zp) - (tS zb zn zp)) = (wdL.getD 0 []).length := (nI_eq (a := ((tE zb zn zp) - (tS zb zn zp))) (b := 3) (by omega) (by decide)).mp zc32
    refine lp_lineName_43 E h zb zn zp 0 hw hT hC hL hk0 hp (by decide) zl (fun zJ => ?_) (fun zj0 => ?_) ((tE zb zn zp) - (tS zb zn zp)) 0 (Nat.zero_add _) (fun zj hj => absurd hj (Nat.not_lt_zero _))
    · refine ev_iload_n (pc := 98) dX11_lineName_98 rfl ?_
      refine ev_if_eq (pc := 99) (tgt := 104) dX11_lineName_99 (by decide) (fun zc99 => absurd zc99 (by decide)) (fun zc99 => ?_)
      refine ev_iload_n (pc := 102) dX11_lineName_102 rfl ?_
      refine ev_iret (pc := 103) dX11_lineName_103 rfl ?_ ?_
      · rfl
      · refine ⟨?_, rfl⟩
        have zw : wdF zb (tS zb zn zp) ((tE zb zn zp) - (tS zb zn zp)) = 0 := by unfold wdF; rw [if_pos zJ]
        rw [zw]
        rfl
    · refine ev_iload_n (pc := 98) dX11_lineName_98 rfl ?_
      refine ev_if_eq (pc := 99) (tgt := 104) dX11_lineName_99 (by decide) (fun zc99 => ?_) (fun zc99 => absurd rfl zc99)
      refine ev_iinc (pc := 104) (v := 1) (L' := [some (.ref 49), some (.int 1), some (.int 0), none]) dX11_lineName_104 rfl (by decide) (Nat.le_of_ble_eq_true rfl) rfl ?_
      refine ev_goto (pc := 107) (tgt := 2) dX11_lineName_107 (by decide) ?_
      refine ev_less (L' := [some (.ref 49), some (.int 1), none, none]) (ls_keep (ls_keep (ls_drop (ls_keep (ls_nil _))))) ?_
      exact ln_1 E h zb zn zp hw hT hC hL hk0 hp zj0
theorem cn_X11_lineName (E : ME) (h : AH) (zb : Nat → Nat) (zn zp : Nat) (hw : WF h) (hT : TMz h zb zn) (hC : KTz h) (hL : LAz zb zn zp h) (hk0 : ¬ tK zb zn zp = 0) (hp : zp ≤ zn) : Con E mX11_lineName 1 0 0 [.ref 49] h (fun r h' => r = some (.int (wdV (wdF zb (tS zb zn zp) ((tE zb zn zp) - (tS zb zn zp))))) ∧ h' = h) := by
  refine con_of2 (L := [some (.ref 49), none, none, none]) rfl (Nat.le_of_ble_eq_true rfl) rfl ?_
  refine ev_iconst (pc := 0) (v := 0) dX11_lineName_0 (by decide) ?_
  refine ev_istore_n (pc := 1) (L' := [some (.ref 49), some (.int 0), none, none]) dX11_lineName_1 (Nat.le_of_ble_eq_true rfl) rfl ?_
  refine ev_less (L' := [some (.ref 49), some (.int 0), none, none]) (ls_keep (ls_keep (ls_keep (ls_keep (ls_nil _))))) ?_
  exact ln_0 E h zb zn zp hw hT hC hL hk0 hp
