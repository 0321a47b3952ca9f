/-- the floor while a copy is laid: colours below zi, of colour zi the cells below zk -/
def lyG (zt : Nat → Nat) (zf : Nat → Int32) (zi zk zj : Nat) : Int32 := if zj < 64 ∧ (zt zj < zi ∨ (zt zj = zi ∧ zj < zk)) ∧ zf zj = -1 then nI (zt zj) else zf zj
def lyB (zt : Nat → Nat) (zf : Nat → Int32) (zi zk zj : Nat) : Bool := decide ((zt zj < zi ∨ (zt zj = zi ∧ zj < zk)) ∧ zf zj = -1)
theorem lyG_0 (zt : Nat → Nat) (zf : Nat → Int32) : lyG zt zf 0 0 = zf := by
  funext zj
  unfold lyG
  rw [if_neg (fun z => by have := z.2.1; omega)]
theorem lyG_n (zt : Nat → Nat) (zf : Nat → Int32) (zi : Nat) {zk : Nat} (hk : ∀ zj, zj < 64 → zk ≤ zj → zt zj = zi → ¬ zf zj = -1) : lyG zt zf zi zk = lyG zt zf (zi + 1) 0 := by
  funext zj
  unfold lyG
  by_cases h : zj < 64 ∧ (zt zj < zi ∨ (zt zj = zi ∧ zj < zk)) ∧ zf zj = -1
  · rw [if_pos h, if_pos ⟨h.1, by have := h.2.1; omega, h.2.2⟩]
  · rw [if_neg h, if_neg (fun z => h ⟨z.1, ?_, z.2.2⟩)]
    rcases Nat.lt_or_ge (zt zj) zi with z1 | z1
    · exact Or.inl z1
    · refine Or.inr ⟨by have := z.2.1; omega, ?_⟩
      rcases Nat.lt_or_ge zj zk with z2 | z2
      · exact z2
      · exact absurd z.2.2 (hk zj z.1 z2 (by have := z.2.1; omega))
theorem lyG_s {zt : Nat → Nat} {zf : Nat → Int32} {zi zk : Nat} (h : ¬ (zt zk = zi ∧ zf zk = -1)) : lyG zt zf zi (zk + 1) = lyG zt zf zi zk := by
  funext zj
  unfold lyG
  by_cases e : zj = zk
  · subst e
    by_cases h2 : zj < 64 ∧ (zt zj < zi ∨ (zt zj = zi ∧ zj < zj)) ∧ zf zj = -1
    · rw [if_pos h2, if_pos ⟨h2.1, Or.inl (by have := h2.2.1; omega), h2.2.2⟩]
    · rw [if_neg h2, if_neg (fun z => h2 ⟨z.1, Or.inl (by rcases z.2.1 with z3 | z3; exact z3; exact absurd ⟨z3.1, z.2.2⟩ h), z.2.2⟩)]
  · have e2 : (zj < 64 ∧ (zt zj < zi ∨ (zt zj = zi ∧ zj < zk + 1)) ∧ zf zj = -1) ↔ (zj < 64 ∧ (zt zj < zi ∨ (zt zj = zi ∧ zj < zk)) ∧ zf zj = -1) := by
      constructor
      · rintro ⟨a, b, c⟩; exact ⟨a, by omega, c⟩
      · rintro ⟨a, b, c⟩; exact ⟨a, by omega, c⟩
    by_cases h2 : zj < 64 ∧ (zt zj < zi ∨ (zt zj = zi ∧ zj < zk)) ∧ zf zj = -1
    · rw [if_pos h2, if_pos (e2.mpr h2)]
    · rw [if_neg h2, if_neg (fun z => h2 (e2.mp z))]
theorem lyG_u {zt : Nat → Nat} {zf : Nat → Int32} {zi zk : Nat} (hk : zk < 64) (h : zt zk = zi ∧ zf zk = -1) : upd (lyG zt zf zi zk) zk (nI zi) = lyG zt zf zi (zk + 1) := by
  funext zj
  unfold upd
  by_cases e : zj = zk
  · subst e
    rw [if_pos rfl]
    unfold lyG
    rw [if_pos ⟨hk, Or.inr ⟨h.1, by omega⟩, h.2⟩, h.1]
  · rw [if_neg e]
    unfold lyG
    have e2 : (zj < 64 ∧ (zt zj < zi ∨ (zt zj = zi ∧ zj < zk + 1)) ∧ zf zj = -1) ↔ (zj < 64 ∧ (zt zj < zi ∨ (zt zj = zi ∧ zj < zk)) ∧ zf zj = -1) := by
      constructor
      · rintro ⟨a, b, c⟩; exact ⟨a, by omega, c⟩
      · rintro ⟨a, b, c⟩; exact ⟨a, by omega, c⟩
    by_cases h2 : zj < 64 ∧ (zt zj < zi ∨ (zt zj = zi ∧ zj < zk)) ∧ zf zj = -1
    · rw [if_pos h2, if_pos (e2.mpr h2)]
    · rw [if_neg h2, if_neg (fun z => h2 (e2.mp z))]
/-- a copy is being laid -/
def LYz (zt : Nat → Nat) (zf : Nat → Int32) (zx : Int64) (zi zk zm : Nat) (h g : AH) : Prop := ∃ zy, FNz zf (lyG zt zf zi zk) zy zm h g ∧ ∀ zj, zj < 64 → lbt zy zj = (lbt zx zj && !lyB zt zf zi zk zj)
theorem LY_s {zt : Nat → Nat} {zf : Nat → Int32} {zx : Int64} {zi zk zm : Nat} {h g : AH} (h1 : LYz zt zf zx zi zk zm h g) (h2 : ¬ (zt zk = zi ∧ zf zk = -1)) : LYz zt zf zx zi (zk + 1) (zm + 1) h g := by
  obtain ⟨zy, a, b⟩ := h1
  refine ⟨zy, by rw [lyG_s h2]; exact FN_s a, fun zj hj => ?_⟩
  rw [b zj hj]
  congr 2
  unfold lyB
  refine decide_eq_decide.mpr ⟨fun z => ⟨by omega, z.2⟩, fun z => ⟨?_, z.2⟩⟩
  rcases z.1 with z1 | z1
  · exact Or.inl z1
  · by_cases e : zj = zk
    · subst e; exact absurd ⟨z1.1, z.2⟩ h2
    · exact Or.inr ⟨z1.1, by omega⟩
theorem LY_c {zt : Nat → Nat} {zf : Nat → Int32} {zx zy : Int64} {zi zk zm : Nat} {h g k : AH} (a : FNz zf (lyG zt zf zi zk) zy zm h g) (b : ∀ zj, zj < 64 → lbt zy zj = (lbt zx zj && !lyB zt zf zi zk zj)) (hk : zk < 64) (h2 : zt zk = zi ∧ zf zk = -1) (h3 : FLz (upd (lyG zt zf zi zk) zk (nI zi)) (zy &&& ((1 <<< (Int32.toInt64 (nI zk) &&& 63)) ^^^ (-1))) k) (h4 : FrF g k) (h5 : k.2.1 25 7 = g.2.1 25 7 + 1) : LYz zt zf zx zi (zk + 1) (zm + 1) h k := by
  rw [lyG_u hk h2] at h3
  refine ⟨_, FN_c a h3 h4 h5, fun zj hj => ?_⟩
  rw [lb_clr hk hj, b zj hj]
  unfold lyB
  by_cases e : zj = zk
  · subst e
    rw [decide_eq_true (rfl : zj = zj), Bool.not_true, Bool.and_false, decide_eq_true (show (zt zj < zi ∨ (zt zj = zi ∧ zj < zj + 1)) ∧ zf zj = -1 from ⟨Or.inr ⟨h2.1, by omega⟩, h2.2⟩), Bool.not_true, Bool.and_false]
  · rw [decide_eq_false e, Bool.not_false, Bool.and_true]
    congr 2
    exact decide_eq_decide.mpr ⟨fun z => ⟨by omega, z.2⟩, fun z => ⟨by omega, z.2⟩⟩
theorem LY_n {zt : Nat → Nat} {zf : Nat → Int32} {zx : Int64} {zi zk zm : Nat} {h g : AH} (h1 : LYz zt zf zx zi zk zm h g) (hk : ∀ zj, zj < 64 → zk ≤ zj → zt zj = zi → ¬ zf zj = -1) (hm : zm ≤ 64 * (zi + 1)) : LYz zt zf zx (zi + 1) 0 (64 * (zi + 1)) h g := by
  obtain ⟨zy, ⟨a1, a2, zn, a3, a4, a5⟩, b⟩ := h1
  rw [lyG_n zt zf zi hk] at a1 a5
  refine ⟨zy, ⟨a1, a2, zn, by omega, a4, a5⟩, fun zj hj => ?_⟩
  rw [b zj hj]
  congr 2
  unfold lyB
  refine decide_eq_decide.mpr ⟨fun z => ⟨by omega, z.2⟩, fun z => ⟨?_, z.2⟩⟩
  rcases Nat.lt_or_ge (zt zj) zi with z1 | z1
  · exact Or.inl z1
  · refine Or.inr ⟨by omega, ?_⟩
    rcases Nat.lt_or_ge zj zk with z2 | z2
    · exact z2
    · exact absurd z.2 (hk zj hj z2 (by omega))
theorem lp_layOn_29 (E : ME) (h : AH) (zn zi : Nat) (zo zs : Int64) (zc : Nat → Nat → Nat) (zf : Nat → Int32) (zx : Int64) (hi : zi < 6) (hs : ∀ zj, zj < 64 → lbt zs zj = (decide (tcN zc zn zj = zi) && decide (zf zj = -1))) {post : PO} (K : ∀ zg : AH, WF zg → LYz (tcN zc zn) zf zx (zi + 1) 0 (64 * (zi + 1)) h zg → Ev E mX0_layOn (rmm 3 0 0) (QM E 0 0 post) 0 0 67 [some (.ref 30), some (.int (nI zn)), some (.ref 25), some (.long zo), none, some (.int (nI zi)), some (.long zs), none, none] [] zg) : ∀ (zq zk : Nat) (zg : AH), zk + zq = 64 → WF zg → LYz (tcN zc zn) zf zx zi zk (64 * zi + zk) h zg → Ev E mX0_layOn (rmm 3 0 0) (QM E 0 0 post) 0 0 29 [some (.ref 30), some (.int (nI zn)), some (.ref 25), some (.long zo), none, some (.int (nI zi)), some (.long zs), none, some (.int (nI zk))] [] zg := by
  intro zq
  induction zq with
  | zero =>
    intro zk zg hz hw hY
    obtain rfl : 64 = zk := by omega
    refine ev_iload (pc := 29) dX0_layOn_29 rfl ?_
    refine ev_bipush (pc := 31) (v := 64) dX0_layOn_31 (by decide) ?_
    refine ev_icmp_ge (pc := 33) (tgt := 67) dX0_layOn_33 (by decide) (fun zc33 => ?_) (fun zc33 => absurd (by decide) zc33)
    refine ev_less (L' := [some (.ref 30), some (.int (nI zn)), some (.ref 25), some (.long zo), none, some (.int (nI zi)), some (.long zs), none, none]) (ls_keep (ls_keep (ls_keep (ls_keep (ls_keep (ls_keep (ls_keep (ls_keep (ls_drop (ls_nil _)))))))))) ?_
    exact K zg hw (LY_n hY (fun zj h1 h2 => by omega) (by omega))
  | succ zq ih =>
    intro zk zg hz hw hY
    have hk : zk < 64 := by omega
    refine ev_iload (pc := 29) dX0_layOn_29 rfl ?_
    refine ev_bipush (pc := 31) (v := 64) dX0_layOn_31 (by decide) ?_
    refine ev_icmp_ge (pc := 33) (tgt := 67) dX0_layOn_33 (by decide) (fun zc33 => absurd zc33 (nI_ge (a := zk) (b := 64) hk (by decide))) (fun zc33 => ?_)
    refine ev_lload (pc := 36) dX0_layOn_36 rfl ?_
    refine ev_lconst (pc := 38) (v := 0) dX0_layOn_38 (by decide) ?_
    refine ev_lcmp (pc := 39) dX0_layOn_39 ?_
    refine ev_if_eq (pc := 40) (tgt := 67) dX0_layOn_40 (by decide) (fun zc40 => ?_) (fun zc40 => ?_)
    · -- eq at 40: taken
      refine ev_less (L' := [some (.ref 30), some (.int (nI zn)), some (.ref 25), some (.long zo), none, some (.int (nI zi)), some (.long zs), none, none]) (ls_keep (ls_keep (ls_keep (ls_keep (ls_keep (ls_keep (ls_keep (ls_keep (ls_drop (ls_nil _)))))))))) ?_
      have z0 := (lc_eq _ _).mp zc40
      exact K zg hw (LY_n hY (fun zj h1 h2 h3 h4 => by
        have z1 := hs zj h1
        rw [z0, lb_0, decide_eq_true h3, decide_eq_true h4] at z1
        exact absurd z1 (by decide)) (by omega))
    · -- eq at 40: not taken
      refine ev_lload (pc := 43) dX0_layOn_43 rfl ?_
      refine ev_iload (pc := 45) dX0_layOn_45 rfl ?_
      refine ev_callSv (S := []) (pc := 47) dX0_layOn_47 kX10_hasCell lX0_97 sX10_hasCell (cn_X10_hasCell E zg zs zk hw hk) rfl rfl (Nat.le_of_ble_eq_true rfl) ⟨Nat.le_of_ble_eq_true rfl, Nat.le_of_ble_eq_true rfl⟩ ⟨Nat.le_of_ble_eq_true rfl, Nat.le_of_ble_eq_true rfl⟩ ?_
      refine ev_if_eq (pc := 50) (tgt := 61) dX0_layOn_50 (by decide) (fun zc50 => ?_) (fun zc50 => ?_)
      · -- eq at 50: taken
        refine ev_iinc (pc := 61) (v := nI (zk + 1)) (L' := [some (.ref 30), some (.int (nI zn)), some (.ref 25), some (.long zo), none, some (.int (nI zi)), some (.long zs), none, some (.int (nI (zk + 1)))]) dX0_layOn_61 rfl (nI_1 _) (Nat.le_of_ble_eq_true rfl) rfl ?_
        refine ev_goto (pc := 64) (tgt := 29) dX0_layOn_64 (by decide) ?_
        refine ih (zk + 1) zg (by omega) hw (LY_s hY (fun z => bI_0.mp zc50 ?_))
        rw [hs zk hk, decide_eq_true z.1, decide_eq_true z.2]
        rfl
      · -- eq at 50: not taken
        have hz2 : tcN zc zn zk = zi ∧ zf zk = -1 := by
          have z1 := bI_n0.mp zc50
          rw [hs zk hk, Bool.and_eq_true, decide_eq_true_iff, decide_eq_true_iff] at z1
          exact z1
        obtain ⟨zy, hY1, hY2⟩ := hY
        refine ev_aload_n (pc := 53) dX0_layOn_53 rfl ?_
        refine ev_iload (pc := 54) dX0_layOn_54 rfl ?_
        refine ev_iload (pc := 56) dX0_layOn_56 rfl ?_
        refine ev_callV (S := []) (pc := 58) dX0_layOn_58 kX2_change lX0_101 vX2_change (cn_X2_changeC E zg zk zi _ zy hw hY1.1 hk hi) rfl rfl (wlt hw (by decide)) rfl rfl (Nat.le_of_ble_eq_true rfl) ⟨Nat.le_of_ble_eq_true rfl, Nat.le_of_ble_eq_true rfl⟩ ⟨Nat.le_of_ble_eq_true rfl, Nat.le_of_ble_eq_true rfl⟩ ?_
        rintro _ zg2 ⟨rfl, hF2, hR2, hn2⟩
        have wzg2 := FrF_w hR2 hw
        refine ev_iinc (pc := 61) (v := nI (zk + 1)) (L' := [some (.ref 30), some (.int (nI zn)), some (.ref 25), some (.long zo), none, some (.int (nI zi)), some (.long zs), none, some (.int (nI (zk + 1)))]) dX0_layOn_61 rfl (nI_1 _) (Nat.le_of_ble_eq_true rfl) rfl ?_
        refine ev_goto (pc := 64) (tgt := 29) dX0_layOn_64 (by decide) ?_
        exact ih (zk + 1) zg2 (by omega) wzg2 (LY_c hY1 hY2 hk hz2 hF2 hR2 hn2)
theorem lp_layOn_8 (E : ME) (h : AH) (zn : Nat) (zo : Int64) (zc : Nat → Nat → Nat) (zb : Nat) (zf : Nat → Int32) (zx : Int64) (hp : h.2.1 30 1 = nI zb) (hp4 : zb ≤ 4) (hS : SHz zc zb h) (hn : zn < zb * 208) (ho : ∀ zj, zj < 64 → lbt zo zj = decide (zf zj = -1)) {post : PO} (K : ∀ zg : AH, WF zg → LYz (tcN zc zn) zf zx 6 0 (384) h zg → Ev E mX0_layOn (rmm 3 0 0) (QM E 0 0 post) 0 0 73 [some (.ref 30), some (.int (nI zn)), some (.ref 25), some (.long zo), none, some (.int (nI 6)), none, none, none] [] zg) : ∀ (zq zi : Nat) (zg : AH), zi + zq = 6 → WF zg → LYz (tcN zc zn) zf zx zi 0 (64 * zi) h zg → Ev E mX0_layOn (rmm 3 0 0) (QM E 0 0 post) 0 0 8 [some (.ref 30), some (.int (nI zn)), some (.ref 25), some (.long zo), none, some (.int (nI zi)), none, none, none] [] zg := by
  intro zq
  induction zq with
  | zero =>
    intro zi zg hz hw hY
    obtain rfl : 6 = zi := by omega
    refine ev_iload (pc := 8) dX0_layOn_8 rfl ?_
    refine ev_bipush (pc := 10) (v := 6) dX0_layOn_10 (by decide) ?_
    refine ev_icmp_ge (pc := 12) (tgt := 73) dX0_layOn_12 (by decide) (fun zc12 => ?_) (fun zc12 => absurd (by decide) zc12)
    exact K zg hw hY
  | succ zq ih =>
    intro zi zg hz hw hY
    have hi : zi < 6 := by omega
    obtain ⟨-, ⟨-, hR, -⟩, -⟩ := id hY
    have e1 : zg.2.1 30 = h.2.1 30 := hR.2.2.1 30 (by decide) (by decide)
    have e2 : zg.2.2.1 31 = h.2.2.1 31 := hR.2.2.2.1 31 (by decide) (by decide)
    have hpg : zg.2.1 30 1 = nI zb := by rw [e1]; exact hp
    have hSg : SHz zc zb zg := by unfold SHz; rw [e2]; exact hS
    refine ev_iload (pc := 8) dX0_layOn_8 rfl ?_
    refine ev_bipush (pc := 10) (v := 6) dX0_layOn_10 (by decide) ?_
    refine ev_icmp_ge (pc := 12) (tgt := 73) dX0_layOn_12 (by decide) (fun zc12 => absurd zc12 (nI_ge (a := zi) (b := 6) hi (by decide))) (fun zc12 => ?_)
    refine ev_aload_n (pc := 15) dX0_layOn_15 rfl ?_
    refine ev_iload_n (pc := 16) dX0_layOn_16 rfl ?_
    refine ev_iload (pc := 17) dX0_layOn_17 rfl ?_
    refine ev_callVv (S := []) (pc := 19) dX0_layOn_19 kX0_toldCells lX0_75 vX0_toldCells (cn_X0_toldCells E zg zn zi zb hw hpg hp4 hn hi) rfl rfl (wlt hw (by decide)) rfl rfl (Nat.le_of_ble_eq_true rfl) ⟨Nat.le_of_ble_eq_true rfl, Nat.le_of_ble_eq_true rfl⟩ ⟨Nat.le_of_ble_eq_true rfl, Nat.le_of_ble_eq_true rfl⟩ ?_
    refine ev_lload_n (pc := 22) dX0_layOn_22 rfl ?_
    refine ev_land (pc := 23) dX0_layOn_23 ?_
    refine ev_lstore (pc := 24) (L' := [some (.ref 30), some (.int (nI zn)), some (.ref 25), some (.long zo), none, some (.int (nI zi)), some (.long ((toL zg zn zi) &&& zo)), none, none]) dX0_layOn_24 (Nat.le_of_ble_eq_true rfl) rfl ?_
    refine ev_iconst (pc := 26) (v := 0) dX0_layOn_26 (by decide) ?_
    refine ev_istore (pc := 27) (L' := [some (.ref 30), some (.int (nI zn)), some (.ref 25), some (.long zo), none, some (.int (nI zi)), some (.long ((toL zg zn zi) &&& zo)), none, some (.int 0)]) dX0_layOn_27 (Nat.le_of_ble_eq_true rfl) rfl ?_
    refine lp_layOn_29 E h zn zi zo (toL zg zn zi &&& zo) zc zf zx hi (fun zj hj => by rw [lb_and, to_bt hSg hn hi hj, ho zj hj]) (fun zg2 wzg2 hY2 => ?_) 64 0 zg (by decide) hw hY
    refine ev_iinc (pc := 67) (v := nI (zi + 1)) (L' := [some (.ref 30), some (.int (nI zn)), some (.ref 25), some (.long zo), none, some (.int (nI (zi + 1))), some (.long (toL zg zn zi &&& zo)), none, none]) dX0_layOn_67 rfl (nI_1 _) (Nat.le_of_ble_eq_true rfl) rfl ?_
    refine ev_goto (pc := 70) (tgt := 8) dX0_layOn_70 (by decide) ?_
    refine ev_less (L' := [some (.ref 30), some (.int (nI zn)), some (.ref 25), some (.long zo), none, some (.int (nI (zi + 1))), none, none, none]) (ls_keep (ls_keep (ls_keep (ls_keep (ls_keep (ls_keep (ls_drop (ls_keep (ls_keep (ls_nil _)))))))))) ?_
    exact ih (zi + 1) zg2 (by omega) wzg2 hY2
theorem cn_X0_layOn (E : ME) (h : AH) (zn : Nat) (zc : Nat → Nat → Nat) (zb : Nat) (zf : Nat → Int32) (zx : Int64) (hw : WF h) (hp : h.2.1 30 1 = nI zb) (hp4 : zb ≤ 4) (hS : SHz zc zb h) (hn : zn < zb * 208) (hF : FLz zf zx h) : Con E mX0_layOn 3 0 0 [.ref 30, .int (nI zn), .ref 25] h (fun r h' => r = none ∧ LYz (tcN zc zn) zf zx 6 0 384 h h') := by
  refine con_of2 (L := [some (.ref 30), some (.int (nI zn)), some (.ref 25), none, none, none, none, none, none]) rfl (Nat.le_of_ble_eq_true rfl) rfl ?_
  refine ev_aload_n (pc := 0) dX0_layOn_0 rfl ?_
  refine ev_callVv (S := []) (pc := 1) dX0_layOn_1 kX2_lostCells lX0_91 vX2_lostCells (cn_X2_lostCells E h hw) rfl rfl (wlt hw (by decide)) rfl rfl (Nat.le_of_ble_eq_true rfl) ⟨Nat.le_of_ble_eq_true rfl, Nat.le_of_ble_eq_true rfl⟩ ⟨Nat.le_of_ble_eq_true rfl, Nat.le_of_ble_eq_true rfl⟩ ?_
  refine ev_lstore_n (pc := 4) (L' := [some (.ref 30), some (.int (nI zn)), some (.ref 25), some (.long (h.2.2.1 25 4 ^^^ (-1))), none, none, none, none, none]) dX0_layOn_4 (Nat.le_of_ble_eq_true rfl) rfl ?_
  refine ev_iconst (pc := 5) (v := 0) dX0_layOn_5 (by decide) ?_
  refine ev_istore (pc := 6) (L' := [some (.ref 30), some (.int (nI zn)), some (.ref 25), some (.long (h.2.2.1 25 4 ^^^ (-1))), none, some (.int 0), none, none, none]) dX0_layOn_6 (Nat.le_of_ble_eq_true rfl) rfl ?_
  refine ev_less (L' := [some (.ref 30), some (.int (nI zn)), some (.ref 25), some (.long (h.2.2.1 25 4 ^^^ (-1))), none, some (.int 0), none, none, none]) (ls_keep (ls_keep (ls_keep (ls_keep (ls_keep (ls_keep (ls_keep (ls_keep (ls_keep (ls_nil _)))))))))) ?_
  refine lp_layOn_8 E h zn (h.2.2.1 25 4 ^^^ (-1)) zc zb zf zx hp hp4 hS hn (fun zj hj => by rw [lb_xor, lb_m1 zj hj, hF.2.2.2.1 zj hj]; cases decide (zf zj = -1) <;> rfl) (fun zg wzg hY => ?_) 6 0 h (by decide) hw ⟨zx, by rw [lyG_0]; exact FN_0 hF, fun zj hj => ?_⟩
  · refine ev_ret (pc := 73) dX0_layOn_73 rfl ?_
    · exact ⟨rfl, hY⟩
  · unfold lyB
    rw [decide_eq_false (fun z => by have := z.1; omega), Bool.not_false, Bool.and_true]
theorem cn_lt {zb : Nat} {zp zw zs zc : Int32} (hb : zb ≤ 4) (h : cpy (nI zb) zp zw zs zc) : cnN zp.toNatClampNeg zw.toNatClampNeg zs.toNatClampNeg zc.toNatClampNeg < zb * 208 := by
  obtain ⟨h1, h2, h3, h4, h5, h6⟩ := h
  obtain ⟨zp, hp, rfl⟩ := th_nat h1 (by omega : zb ≤ 4096)
  obtain ⟨zw, hw, rfl⟩ := vp_in_of (vp_sm (N := 8) h2.1 h2.2 (by decide) (by decide)) (by decide)
  obtain ⟨zs, hs, rfl⟩ := vp_in_of (vp_sm (N := 3) h3.1 h3.2 (by decide) (by decide)) (by decide)
  obtain ⟨zc, hc, rfl⟩ := vp_in_of (vp_sm (N := 64) h4.1 h4.2 (by decide) (by decide)) (by decide)
  have hcn := (cpy_n (zb := zb) (zw := zw) hb (show zp < 4 by omega) hs hc).mp ⟨h5, h6⟩
  have hs1 : 1 ≤ zs := (nI_leI (a := 1) (b := zs) (by decide) (by omega)).mp h3.1
  rw [nI_clamp (by omega), nI_clamp (by omega), nI_clamp (by omega), nI_clamp (by omega)]
  unfold cnN
  split <;> omega
theorem ge_m1 {p : Prop} [Decidable p] {zn : Nat} (hn : zn < 2 ^ 31) (h : 0 ≤ (if p then nI zn else (-1 : Int32))) : p := Decidable.byContradiction (fun hp => by
  rw [if_neg hp] at h
  exact absurd h (by decide))
theorem ge_p1 {p : Prop} [Decidable p] {zn : Nat} (hn : zn < 2 ^ 31) (h : ¬ 0 ≤ (if p then nI zn else (-1 : Int32))) : ¬ p := fun hp => h (by
  rw [if_pos hp]
  exact nI_pos' hn)
theorem clamp_lt (zx : Int32) : zx.toNatClampNeg < 2 ^ 31 := by
  show zx.toInt.toNat < 2 ^ 31
  have := fb_rng zx
  omega
theorem cp_ge {zb : Nat} {zp zw zs zc : Int32} (hb : zb ≤ 4) : 0 ≤ (if cpy (nI zb) zp zw zs zc then nI (cnN zp.toNatClampNeg zw.toNatClampNeg zs.toNatClampNeg zc.toNatClampNeg) else (-1 : Int32)) ↔ cpy (nI zb) zp zw zs zc := by
  by_cases h : cpy (nI zb) zp zw zs zc
  · rw [if_pos h]
    exact ⟨fun _ => h, fun _ => nI_pos' (by have := cn_lt hb h; omega)⟩
  · rw [if_neg h]
    exact ⟨fun z => absurd z (by decide), fun z => absurd z h⟩
theorem cn_X10_copy (E : ME) (h : AH) (zp0 zw0 zs0 zc0 zv : Int32) (zc : Nat → Nat → Nat) (zb : Nat) (zf : Nat → Int32) (zx : Int64) (hw : WF h) (hp : h.2.1 30 1 = nI zb) (hp4 : zb ≤ 4) (hS : SHz zc zb h) (hF : FLz zf zx h) : Con E mX10_copy 4 0 0 [.ref 0, .int zp0, .int zw0, .int zs0, .int zc0, .int zv] h (fun r h' => r = some (.int (if cpy (nI zb) zp0 zw0 zs0 zc0 then (if zv = 0 then nI (ctT (tcN zc (cnN zp0.toNatClampNeg zw0.toNatClampNeg zs0.toNatClampNeg zc0.toNatClampNeg)) (agQ zf) 6) else if zv = 1 then nI (ctT (tcN zc (cnN zp0.toNatClampNeg zw0.toNatClampNeg zs0.toNatClampNeg zc0.toNatClampNeg)) (clQ zf) 6) else if zv = 2 then nI (ctT (tcN zc (cnN zp0.toNatClampNeg zw0.toNatClampNeg zs0.toNatClampNeg zc0.toNatClampNeg)) (fiQ zf) 6) else -1) else -1)) ∧ h' = h) := by
  refine con_of2 (L := [some (.ref 0), some (.int zp0), some (.int zw0), some (.int zs0), some (.int zc0), some (.int zv), none]) rfl (Nat.le_of_ble_eq_true rfl) rfl ?_
  refine ev_aload_n (pc := 0) dX10_copy_0 rfl ?_
  refine ev_getR (pc := 1) (q := 30) dX10_copy_1 fX10_52 rfl (wlt hw (by decide)) (wr hw rfl) ?_
  refine ev_iload_n (pc := 4) dX10_copy_4 rfl ?_
  refine ev_iload_n (pc := 5) dX10_copy_5 rfl ?_
  refine ev_iload_n (pc := 6) dX10_copy_6 rfl ?_
  refine ev_iload (pc := 7) dX10_copy_7 rfl ?_
  refine ev_callVv (S := []) (pc := 9) dX10_copy_9 kX0_copyNumber lX10_170 vX0_copyNumber (cn_X0_copyNumber E h zp0 zw0 zs0 zc0 zb hw hp hp4) rfl rfl (wlt hw (by decide)) rfl rfl (Nat.le_of_ble_eq_true rfl) ⟨Nat.le_of_ble_eq_true rfl, Nat.le_of_ble_eq_true rfl⟩ ⟨Nat.le_of_ble_eq_true rfl, Nat.le_of_ble_eq_true rfl⟩ ?_
  refine ev_istore (pc := 12) (L' := [some (.ref 0), some (.int zp0), some (.int zw0), some (.int zs0), some (.int zc0), some (.int zv), some (.int (if cpy (nI zb) zp0 zw0 zs0 zc0 then nI (cnN zp0.toNatClampNeg zw0.toNatClampNeg zs0.toNatClampNeg zc0.toNatClampNeg) else -1))]) dX10_copy_12 (Nat.le_of_ble_eq_true rfl) rfl ?_
  refine ev_iload (pc := 14) dX10_copy_14 rfl ?_
  refine ev_if_ge (pc := 16) (tgt := 21) dX10_copy_16 (by decide) (fun zc16 => ?_) (fun zc16 => ?_)
  · -- ge at 16: taken
    have hC := (cp_ge hp4).mp zc16
    have hn := cn_lt hp4 hC
    refine ev_eqL (L' := [some (.ref 0), some (.int zp0), some (.int zw0), some (.int zs0), some (.int zc0), some (.int zv), some (.int (nI (cnN zp0.toNatClampNeg zw0.toNatClampNeg zs0.toNatClampNeg zc0.toNatClampNeg)))]) (by rw [if_pos hC]) ?_
    refine ev_iload (pc := 21) dX10_copy_21 rfl ?_
    refine ev_nmI (fun zsv ezsv => ?_)
    by_cases zq0 : zsv = 0
    · subst zq0
      refine ev_tabIn (pc := 23) (off := 25) (tgt := 48) dX10_copy_23 (by decide) (by decide) (by decide +kernel) (by decide) ?_
      refine ev_aload_n (pc := 48) dX10_copy_48 rfl ?_
      refine ev_getR (pc := 49) (q := 30) dX10_copy_49 fX10_52 rfl (wlt hw (by decide)) (wr hw rfl) ?_
      refine ev_iload (pc := 52) dX10_copy_52 rfl ?_
      refine ev_aload_n (pc := 54) dX10_copy_54 rfl ?_
      refine ev_getR (pc := 55) (q := 25) dX10_copy_55 fX10_45 rfl (wlt hw (by decide)) (wr hw rfl) ?_
      refine ev_callVv (S := []) (pc := 58) dX10_copy_58 kX0_agreesIn lX10_272 vX0_agreesIn (cn_X0_agreesIn E h (cnN zp0.toNatClampNeg zw0.toNatClampNeg zs0.toNatClampNeg zc0.toNatClampNeg) zc zb zf zx hw hp hp4 hS hn hF) rfl rfl (wlt hw (by decide)) rfl rfl (Nat.le_of_ble_eq_true rfl) ⟨Nat.le_of_ble_eq_true rfl, Nat.le_of_ble_eq_true rfl⟩ ⟨Nat.le_of_ble_eq_true rfl, Nat.le_of_ble_eq_true rfl⟩ ?_
      refine ev_iret (pc := 61) dX10_copy_61 rfl ?_ ?_
      · rfl
      · refine ⟨?_, rfl⟩
        rw [if_pos hC]
        subst ezsv
        rfl
    by_cases zq1 : zsv = 1
    · subst zq1
      refine ev_tabIn (pc := 23) (off := 39) (tgt := 62) dX10_copy_23 (by decide) (by decide) (by decide +kernel) (by decide) ?_
      refine ev_aload_n (pc := 62) dX10_copy_62 rfl ?_
      refine ev_getR (pc := 63) (q := 30) dX10_copy_63 fX10_52 rfl (wlt hw (by decide)) (wr hw rfl) ?_
      refine ev_iload (pc := 66) dX10_copy_66 rfl ?_
      refine ev_aload_n (pc := 68) dX10_copy_68 rfl ?_
      refine ev_getR (pc := 69) (q := 25) dX10_copy_69 fX10_45 rfl (wlt hw (by decide)) (wr hw rfl) ?_
      refine ev_callVv (S := []) (pc := 72) dX10_copy_72 kX0_clashesIn lX10_174 vX0_clashesIn (cn_X0_clashesIn E h (cnN zp0.toNatClampNeg zw0.toNatClampNeg zs0.toNatClampNeg zc0.toNatClampNeg) zc zb zf zx hw hp hp4 hS hn hF) rfl rfl (wlt hw (by decide)) rfl rfl (Nat.le_of_ble_eq_true rfl) ⟨Nat.le_of_ble_eq_true rfl, Nat.le_of_ble_eq_true rfl⟩ ⟨Nat.le_of_ble_eq_true rfl, Nat.le_of_ble_eq_true rfl⟩ ?_
      refine ev_iret (pc := 75) dX10_copy_75 rfl ?_ ?_
      · rfl
      · refine ⟨?_, rfl⟩
        rw [if_pos hC]
        subst ezsv
        rfl
    by_cases zq2 : zsv = 2
    · subst zq2
      refine ev_tabIn (pc := 23) (off := 53) (tgt := 76) dX10_copy_23 (by decide) (by decide) (by decide +kernel) (by decide) ?_
      refine ev_aload_n (pc := 76) dX10_copy_76 rfl ?_
      refine ev_getR (pc := 77) (q := 30) dX10_copy_77 fX10_52 rfl (wlt hw (by decide)) (wr hw rfl) ?_
      refine ev_iload (pc := 80) dX10_copy_80 rfl ?_
      refine ev_aload_n (pc := 82) dX10_copy_82 rfl ?_
      refine ev_getR (pc := 83) (q := 25) dX10_copy_83 fX10_45 rfl (wlt hw (by decide)) (wr hw rfl) ?_
      refine ev_callVv (S := []) (pc := 86) dX10_copy_86 kX0_wouldFill lX10_178 vX0_wouldFill (cn_X0_wouldFill E h (cnN zp0.toNatClampNeg zw0.toNatClampNeg zs0.toNatClampNeg zc0.toNatClampNeg) zc zb zf zx hw hp hp4 hS hn hF) rfl rfl (wlt hw (by decide)) rfl rfl (Nat.le_of_ble_eq_true rfl) ⟨Nat.le_of_ble_eq_true rfl, Nat.le_of_ble_eq_true rfl⟩ ⟨Nat.le_of_ble_eq_true rfl, Nat.le_of_ble_eq_true rfl⟩ ?_
      refine ev_iret (pc := 89) dX10_copy_89 rfl ?_ ?_
      · rfl
      · refine ⟨?_, rfl⟩
        rw [if_pos hC]
        subst ezsv
        rfl
    have zhout : zsv.toInt < 0 ∨ 2 < zsv.toInt := by
      have nzq0 := i32_ne zq0
      have nzq1 := i32_ne zq1
      have nzq2 := i32_ne zq2
      replace nzq0 : ¬ zsv.toInt = 0 := nzq0
      replace nzq1 : ¬ zsv.toInt = 1 := nzq1
      replace nzq2 : ¬ zsv.toInt = 2 := nzq2
      omega
    refine ev_tabOut (pc := 23) (tgt := 90) dX10_copy_23 zhout (by decide) ?_
    refine ev_iconst (pc := 90) (v := (-1)) dX10_copy_90 (by decide) ?_
    refine ev_iret (pc := 91) dX10_copy_91 rfl ?_ ?_
    · rfl
    · refine ⟨?_, rfl⟩
      rw [if_pos hC]
      subst ezsv
      rw [if_neg zq0, if_neg zq1, if_neg zq2]
  · -- ge at 16: not taken
    refine ev_iconst (pc := 19) (v := (-1)) dX10_copy_19 (by decide) ?_
    refine ev_iret (pc := 20) dX10_copy_20 rfl ?_ ?_
    · rfl
    · refine ⟨?_, rfl⟩
      rw [if_neg (fun z => zc16 ((cp_ge hp4).mpr z))]
theorem cn_X10_lay (E : ME) (h : AH) (zp0 zw0 zs0 zc0 : Int32) (zc : Nat → Nat → Nat) (zb : Nat) (zf : Nat → Int32) (zx : Int64) (hw : WF h) (hp : h.2.1 30 1 = nI zb) (hp4 : zb ≤ 4) (hS : SHz zc zb h) (hF : FLz zf zx h) : Con E mX10_lay 4 0 0 [.ref 0, .int zp0, .int zw0, .int zs0, .int zc0] h (fun r h' => r = some (.int (if cpy (nI zb) zp0 zw0 zs0 zc0 then (if ¬ ctT (tcN zc (cnN zp0.toNatClampNeg zw0.toNatClampNeg zs0.toNatClampNeg zc0.toNatClampNeg)) (clQ zf) 6 = 0 then -2 else nI (ctT (tcN zc (cnN zp0.toNatClampNeg zw0.toNatClampNeg zs0.toNatClampNeg zc0.toNatClampNeg)) (fiQ zf) 6)) else -1)) ∧ ((cpy (nI zb) zp0 zw0 zs0 zc0) ∧ ctT (tcN zc (cnN zp0.toNatClampNeg zw0.toNatClampNeg zs0.toNatClampNeg zc0.toNatClampNeg)) (clQ zf) 6 = 0 → LYz (tcN zc (cnN zp0.toNatClampNeg zw0.toNatClampNeg zs0.toNatClampNeg zc0.toNatClampNeg)) zf zx 6 0 384 h h') ∧ (¬ ((cpy (nI zb) zp0 zw0 zs0 zc0) ∧ ctT (tcN zc (cnN zp0.toNatClampNeg zw0.toNatClampNeg zs0.toNatClampNeg zc0.toNatClampNeg)) (clQ zf) 6 = 0) → h' = h)) := by
  refine con_of2 (L := [some (.ref 0), some (.int zp0), some (.int zw0), some (.int zs0), some (.int zc0), none, none]) rfl (Nat.le_of_ble_eq_true rfl) rfl ?_
  refine ev_aload_n (pc := 0) dX10_lay_0 rfl ?_
  refine ev_getR (pc := 1) (q := 30) dX10_lay_1 fX10_52 rfl (wlt hw (by decide)) (wr hw rfl) ?_
  refine ev_iload_n (pc := 4) dX10_lay_4 rfl ?_
  refine ev_iload_n (pc := 5) dX10_lay_5 rfl ?_
  refine ev_iload_n (pc := 6) dX10_lay_6 rfl ?_
  refine ev_iload (pc := 7) dX10_lay_7 rfl ?_
  refine ev_callVv (S := []) (pc := 9) dX10_lay_9 kX0_copyNumber lX10_170 vX0_copyNumber (cn_X0_copyNumber E h zp0 zw0 zs0 zc0 zb hw hp hp4) rfl rfl (wlt hw (by decide)) rfl rfl (Nat.le_of_ble_eq_true rfl) ⟨Nat.le_of_ble_eq_true rfl, Nat.le_of_ble_eq_true rfl⟩ ⟨Nat.le_of_ble_eq_true rfl, Nat.le_of_ble_eq_true rfl⟩ ?_
  refine ev_istore (pc := 12) (L' := [some (.ref 0), some (.int zp0), some (.int zw0), some (.int zs0), some (.int zc0), some (.int (if cpy (nI zb) zp0 zw0 zs0 zc0 then nI (cnN zp0.toNatClampNeg zw0.toNatClampNeg zs0.toNatClampNeg zc0.toNatClampNeg) else -1)), none]) dX10_lay_12 (Nat.le_of_ble_eq_true rfl) rfl ?_
  refine ev_iload (pc := 14) dX10_lay_14 rfl ?_
  refine ev_if_ge (pc := 16) (tgt := 21) dX10_lay_16 (by decide) (fun zc16 => ?_) (fun zc16 => ?_)
  · -- ge at 16: taken
    have hC := (cp_ge hp4).mp zc16
    have hn := cn_lt hp4 hC
    refine ev_eqL (L' := [some (.ref 0), some (.int zp0), some (.int zw0), some (.int zs0), some (.int zc0), some (.int (nI (cnN zp0.toNatClampNeg zw0.toNatClampNeg zs0.toNatClampNeg zc0.toNatClampNeg))), none]) (by rw [if_pos hC]) ?_
    refine ev_aload_n (pc := 21) dX10_lay_21 rfl ?_
    refine ev_getR (pc := 22) (q := 30) dX10_lay_22 fX10_52 rfl (wlt hw (by decide)) (wr hw rfl) ?_
    refine ev_iload (pc := 25) dX10_lay_25 rfl ?_
    refine ev_aload_n (pc := 27) dX10_lay_27 rfl ?_
    refine ev_getR (pc := 28) (q := 25) dX10_lay_28 fX10_45 rfl (wlt hw (by decide)) (wr hw rfl) ?_
    refine ev_callVv (S := []) (pc := 31) dX10_lay_31 kX0_clashesIn lX10_174 vX0_clashesIn (cn_X0_clashesIn E h (cnN zp0.toNatClampNeg zw0.toNatClampNeg zs0.toNatClampNeg zc0.toNatClampNeg) zc zb zf zx hw hp hp4 hS hn hF) rfl rfl (wlt hw (by decide)) rfl rfl (Nat.le_of_ble_eq_true rfl) ⟨Nat.le_of_ble_eq_true rfl, Nat.le_of_ble_eq_true rfl⟩ ⟨Nat.le_of_ble_eq_true rfl, Nat.le_of_ble_eq_true rfl⟩ ?_
    refine ev_if_le (pc := 34) (tgt := 40) dX10_lay_34 (by decide) (fun zc34 => ?_) (fun zc34 => ?_)
    · -- le at 34: taken
      refine ev_aload_n (pc := 40) dX10_lay_40 rfl ?_
      refine ev_getR (pc := 41) (q := 30) dX10_lay_41 fX10_52 rfl (wlt hw (by decide)) (wr hw rfl) ?_
      refine ev_iload (pc := 44) dX10_lay_44 rfl ?_
      refine ev_aload_n (pc := 46) dX10_lay_46 rfl ?_
      refine ev_getR (pc := 47) (q := 25) dX10_lay_47 fX10_45 rfl (wlt hw (by decide)) (wr hw rfl) ?_
      refine ev_callVv (S := []) (pc := 50) dX10_lay_50 kX0_wouldFill lX10_178 vX0_wouldFill (cn_X0_wouldFill E h (cnN zp0.toNatClampNeg zw0.toNatClampNeg zs0.toNatClampNeg zc0.toNatClampNeg) zc zb zf zx hw hp hp4 hS hn hF) rfl rfl (wlt hw (by decide)) rfl rfl (Nat.le_of_ble_eq_true rfl) ⟨Nat.le_of_ble_eq_true rfl, Nat.le_of_ble_eq_true rfl⟩ ⟨Nat.le_of_ble_eq_true rfl, Nat.le_of_ble_eq_true rfl⟩ ?_
      refine ev_istore (pc := 53) (L' := [some (.ref 0), some (.int zp0), some (.int zw0), some (.int zs0), some (.int zc0), some (.int (nI (cnN zp0.toNatClampNeg zw0.toNatClampNeg zs0.toNatClampNeg zc0.toNatClampNeg))), some (.int (nI (ctT (tcN zc (cnN zp0.toNatClampNeg zw0.toNatClampNeg zs0.toNatClampNeg zc0.toNatClampNeg)) (fiQ zf) 6)))]) dX10_lay_53 (Nat.le_of_ble_eq_true rfl) rfl ?_
      refine ev_aload_n (pc := 55) dX10_lay_55 rfl ?_
      refine ev_getR (pc := 56) (q := 30) dX10_lay_56 fX10_52 rfl (wlt hw (by decide)) (wr hw rfl) ?_
      refine ev_iload (pc := 59) dX10_lay_59 rfl ?_
      refine ev_aload_n (pc := 61) dX10_lay_61 rfl ?_
      refine ev_getR (pc := 62) (q := 25) dX10_lay_62 fX10_45 rfl (wlt hw (by decide)) (wr hw rfl) ?_
      refine ev_callV (S := []) (pc := 65) dX10_lay_65 kX0_layOn lX10_181 vX0_layOn (cn_X0_layOn E h (cnN zp0.toNatClampNeg zw0.toNatClampNeg zs0.toNatClampNeg zc0.toNatClampNeg) zc zb zf zx hw hp hp4 hS hn hF) rfl rfl (wlt hw (by decide)) rfl rfl (Nat.le_of_ble_eq_true rfl) ⟨Nat.le_of_ble_eq_true rfl, Nat.le_of_ble_eq_true rfl⟩ ⟨Nat.le_of_ble_eq_true rfl, Nat.le_of_ble_eq_true rfl⟩ ?_
      rintro _ zg ⟨rfl, hY⟩
      refine ev_iload (pc := 68) dX10_lay_68 rfl ?_
      refine ev_iret (pc := 70) dX10_lay_70 rfl ?_ ?_
      · rfl
      · have z0 : 0 < nI (ctT (tcN zc (cnN zp0.toNatClampNeg zw0.toNatClampNeg zs0.toNatClampNeg zc0.toNatClampNeg)) (clQ zf) 6) ↔ ¬ ctT (tcN zc (cnN zp0.toNatClampNeg zw0.toNatClampNeg zs0.toNatClampNeg zc0.toNatClampNeg)) (clQ zf) 6 = 0 := by
          have := ctT_b (tcN zc (cnN zp0.toNatClampNeg zw0.toNatClampNeg zs0.toNatClampNeg zc0.toNatClampNeg)) (clQ zf) 6
          exact (nI_ltI (a := 0) (by decide) (by omega)).trans (by omega)
        have z1 : ctT (tcN zc (cnN zp0.toNatClampNeg zw0.toNatClampNeg zs0.toNatClampNeg zc0.toNatClampNeg)) (clQ zf) 6 = 0 := Classical.not_not.mp (fun z => (i_lt2 _ _).mpr zc34 (z0.mpr z))
        rw [if_pos hC, if_neg (fun z => z z1)]
        exact ⟨rfl, fun _ => hY, fun z => absurd ⟨hC, z1⟩ z⟩
    · -- le at 34: not taken
      refine ev_bipush (pc := 37) (v := (-2)) dX10_lay_37 (by decide) ?_
      refine ev_iret (pc := 39) dX10_lay_39 rfl ?_ ?_
      · rfl
      · have z0 : 0 < nI (ctT (tcN zc (cnN zp0.toNatClampNeg zw0.toNatClampNeg zs0.toNatClampNeg zc0.toNatClampNeg)) (clQ zf) 6) ↔ ¬ ctT (tcN zc (cnN zp0.toNatClampNeg zw0.toNatClampNeg zs0.toNatClampNeg zc0.toNatClampNeg)) (clQ zf) 6 = 0 := by
          have := ctT_b (tcN zc (cnN zp0.toNatClampNeg zw0.toNatClampNeg zs0.toNatClampNeg zc0.toNatClampNeg)) (clQ zf) 6
          exact (nI_ltI (a := 0) (by decide) (by omega)).trans (by omega)
        have z1 := z0.mp ((i_le2 _ _).mp zc34)
        rw [if_pos hC, if_pos z1]
        exact ⟨rfl, fun z => absurd z.2 z1, fun _ => rfl⟩
  · -- ge at 16: not taken
    refine ev_iconst (pc := 19) (v := (-1)) dX10_lay_19 (by decide) ?_
    refine ev_iret (pc := 20) dX10_lay_20 rfl ?_ ?_
    · rfl
    · have hC : ¬ cpy (nI zb) zp0 zw0 zs0 zc0 := fun z => zc16 ((cp_ge hp4).mpr z)
      rw [if_neg hC]
      exact ⟨rfl, fun z => absurd z.1 hC, fun _ => rfl⟩
