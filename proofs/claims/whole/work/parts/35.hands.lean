def lsV (zx : Nat) : Int32 := if zx = 13 then -4 else nI zx
theorem lsV_4 {zx : Nat} (h : zx < 13) : lsV zx = nI zx ∧ ¬ lsV zx = -4 := by
  unfold lsV
  rw [if_neg (by omega)]
  exact ⟨rfl, by revert h; revert zx; decide⟩
theorem lsV_e {zx : Nat} (h : zx ≤ 13) : lsV zx = -4 ↔ zx = 13 := by
  constructor
  · intro z
    rcases Nat.lt_or_ge zx 13 with h1 | h1
    · exact absurd z (lsV_4 h1).2
    · omega
  · intro z
    rw [z]; rfl
def HNz (h : AH) (zm : Nat) (zc zl : Nat → Nat) (zp : Nat) : Prop := (∀ zt, zt < zm → h.2.1 53 zt = nI (zc zt) ∧ zc zt ≤ 99 ∧ h.2.1 54 zt = nI (zl zt) ∧ zl zt ≤ 999) ∧ h.2.1 49 17 = nI zp ∧ zp ≤ 99
theorem abv_N {h : AH} {zm : Nat} {zc zl : Nat → Nat} {zp za zb : Nat} (hz : HNz h zm zc zl zp) (hm : zm ≤ 12) (ha : za < zm) (hb : zb < zm) : (h.2.1 54 (Int32.toNatClampNeg (nI za)) * h.2.1 53 (Int32.toNatClampNeg (nI zb)) - h.2.1 54 (Int32.toNatClampNeg (nI zb)) * h.2.1 53 (Int32.toNatClampNeg (nI za))) < 0 ↔ zl za * zc zb < zl zb * zc za := by
  have h1 := hz.1 za ha
  have h2 := hz.1 zb hb
  rw [nI_clamp (by omega), nI_clamp (by omega), h1.1, h1.2.2.1, h2.1, h2.2.2.1, pk_mul, pk_mul]
  have m1 := mul_b h1.2.2.2 h2.2.1
  have m2 := mul_b h2.2.2.2 h1.2.1
  exact sub_neg (by omega) (by omega)
theorem sur_N {h : AH} {zm : Nat} {zc zl : Nat → Nat} {zp za zb : Nat} (hz : HNz h zm zc zl zp) (hm : zm ≤ 12) (ha : za < zm) (hb : zb < zm) : surI h (nI za) (nI zb) = if surN zc zl zp za zb then 1 else 0 := by
  have h1 := hz.1 za ha
  have h2 := hz.1 zb hb
  exact surI_N (by omega) (by omega) h1.1 h2.1 h1.2.2.1 h2.2.2.1 hz.2.1 hz.2.2 h1.2.1 h2.2.1 h1.2.2.2 h2.2.2.2
theorem sur_0 {h : AH} {zm : Nat} {zc zl : Nat → Nat} {zp za zb : Nat} (hz : HNz h zm zc zl zp) (hm : zm ≤ 12) (ha : za < zm) (hb : zb < zm) : surI h (nI za) (nI zb) = 0 ↔ surN zc zl zp za zb = false := by
  rw [sur_N hz hm ha hb]
  cases surN zc zl zp za zb <;> simp
theorem row_N {h : AH} {zm : Nat} {zc zl : Nat → Nat} {zp zt : Nat} (hz : HNz h zm zc zl zp) (hmm : h.2.1 49 14 = nI zm) (hm : zm ≤ 12) (ht : zt < zm) : ((0 ≤ nI zt ∧ nI zt ≤ h.2.1 49 14 - 1) ∧ 0 < h.2.1 53 (Int32.toNatClampNeg (nI zt))) ↔ 0 < zc zt := by
  have h1 := hz.1 zt ht
  rw [nI_clamp (by omega), h1.1, hmm, nI_m1 (by omega), nI_leI (by omega) (by omega)]
  have e0 : (0 : Int32) < nI (zc zt) ↔ 0 < zc zt := nI_ltI (a := 0) (by decide) (by omega)
  rw [e0]
  have e1 : (0 : Int32) ≤ nI zt := nI_pos' (by omega)
  exact ⟨fun q => q.2, fun q => ⟨⟨e1, by omega⟩, q⟩⟩
theorem lp_hands_22 (E : ME) (h : AH) (m : Nat) (zc zl : Nat → Nat) (zp : Nat) (zv : Int32) (hw : WF h) (hm : h.2.1 49 14 = nI m) (hm2 : m ≤ 12) (hz : HNz h m zc zl zp) {post : PO} (K : Ev E mX11_hands (rmm 3 0 0) (QM E 0 0 post) 0 0 54 [some (.ref 49), some (.int zv), some (.int (nI (rwsN zc m))), some (.int (nI m)), none, none, none] [] h) : ∀ n i : Nat, i + n = m → Ev E mX11_hands (rmm 3 0 0) (QM E 0 0 post) 0 0 22 [some (.ref 49), some (.int zv), some (.int (nI (rwsN zc i))), some (.int (nI i)), none, none, none] [] h := by
  intro n
  induction n with
  | zero =>
    intro i hi
    obtain rfl : m = i := by omega
    refine ev_iload_n (pc := 22) dX11_hands_22 rfl ?_
    refine ev_aload_n (pc := 23) dX11_hands_23 rfl ?_
    refine ev_getI (pc := 24) dX11_hands_24 fX11_184 rfl (wlt hw (by decide)) ?_
    refine ev_icmp_ge (pc := 27) (tgt := 54) dX11_hands_27 (by decide) (fun zc27 => ?_) (fun zc27 => absurd (by rw [hm]; exact nI_leI (by omega) (by omega) |>.mpr (Nat.le_refl _)) zc27)
    exact K
  | succ n ih =>
    intro i hi
    have hlt : i < m := by omega
    refine ev_iload_n (pc := 22) dX11_hands_22 rfl ?_
    refine ev_aload_n (pc := 23) dX11_hands_23 rfl ?_
    refine ev_getI (pc := 24) dX11_hands_24 fX11_184 rfl (wlt hw (by decide)) ?_
    refine ev_icmp_ge (pc := 27) (tgt := 54) dX11_hands_27 (by decide) (fun zc27 => absurd zc27 (by rw [hm]; exact nI_ge hlt (by omega))) (fun zc27 => ?_)
    refine ev_iload_n (pc := 30) dX11_hands_30 rfl ?_
    refine ev_aload_n (pc := 31) dX11_hands_31 rfl ?_
    refine ev_iload_n (pc := 32) dX11_hands_32 rfl ?_
    refine ev_callVv (S := [.int (nI (rwsN zc i))]) (pc := 33) dX11_hands_33 kX11_isRow lX11_226 vX11_isRow (cn_X11_isRow E h (nI i) m hw hm hm2) rfl rfl (wlt hw (by decide)) rfl rfl (Nat.le_of_ble_eq_true rfl) ⟨Nat.le_of_ble_eq_true rfl, Nat.le_of_ble_eq_true rfl⟩ ⟨Nat.le_of_ble_eq_true rfl, Nat.le_of_ble_eq_true rfl⟩ ?_
    refine ev_if_eq (pc := 36) (tgt := 45) dX11_hands_36 (by decide) (fun zc36 => ?_) (fun zc36 => ?_)
    · -- eq at 36: taken
      refine ev_iconst (pc := 45) (v := 0) dX11_hands_45 (by decide) ?_
      refine ev_ior (pc := 46) dX11_hands_46 ?_
      refine ev_istore_n (pc := 47) (L' := [some (.ref 49), some (.int zv), some (.int ((nI (rwsN zc i)) ||| 0)), some (.int (nI i)), none, none, none]) dX11_hands_47 (Nat.le_of_ble_eq_true rfl) rfl ?_
      refine ev_iinc (pc := 48) (v := nI (i + 1)) (L' := [some (.ref 49), some (.int zv), some (.int ((nI (rwsN zc i)) ||| 0)), some (.int (nI (i + 1))), none, none, none]) dX11_hands_48 rfl (nI_1 _) (Nat.le_of_ble_eq_true rfl) rfl ?_
      refine ev_goto (pc := 51) (tgt := 22) dX11_hands_51 (by decide) ?_
      refine ev_eqL (L' := [some (.ref 49), some (.int zv), some (.int (nI (rwsN zc (i + 1)))), some (.int (nI (i + 1))), none, none, none]) (by rw [rwsN, ← (if_or32f (zx := rwsN zc i) (zn := i) (fun z => (bI_0.mp zc36) ((row_N hz hm hm2 hlt).mpr z)))]) ?_
      exact ih (i + 1) (by omega)
    · -- eq at 36: not taken
      refine ev_iconst (pc := 39) (v := 1) dX11_hands_39 (by decide) ?_
      refine ev_iload_n (pc := 40) dX11_hands_40 rfl ?_
      refine ev_ishl (pc := 41) dX11_hands_41 ?_
      refine ev_goto (pc := 42) (tgt := 46) dX11_hands_42 (by decide) ?_
      refine ev_ior (pc := 46) dX11_hands_46 ?_
      refine ev_istore_n (pc := 47) (L' := [some (.ref 49), some (.int zv), some (.int ((nI (rwsN zc i)) ||| (1 <<< ((nI i) &&& 31)))), some (.int (nI i)), none, none, none]) dX11_hands_47 (Nat.le_of_ble_eq_true rfl) rfl ?_
      refine ev_iinc (pc := 48) (v := nI (i + 1)) (L' := [some (.ref 49), some (.int zv), some (.int ((nI (rwsN zc i)) ||| (1 <<< ((nI i) &&& 31)))), some (.int (nI (i + 1))), none, none, none]) dX11_hands_48 rfl (nI_1 _) (Nat.le_of_ble_eq_true rfl) rfl ?_
      refine ev_goto (pc := 51) (tgt := 22) dX11_hands_51 (by decide) ?_
      refine ev_eqL (L' := [some (.ref 49), some (.int zv), some (.int (nI (rwsN zc (i + 1)))), some (.int (nI (i + 1))), none, none, none]) (by rw [rwsN, ← (if_or32t (zx := rwsN zc i) (by omega) ((row_N hz hm hm2 hlt).mp (bI_n0.mp zc36)))]) ?_
      exact ih (i + 1) (by omega)
theorem ls_13 (zc zl : Nat → Nat) (zs : Nat) {zn : Nat} (hn : zn ≤ 13) : lsN zc zl zs zn ≤ 13 := by
  rcases ls_ok zc zl zs zn with z | z
  · omega
  · omega
theorem lp_hands_67 (E : ME) (h : AH) (m : Nat) (zc zl : Nat → Nat) (zp zs zn : Nat) (zv : Int32) (hw : WF h) (hm : h.2.1 49 14 = nI m) (hm2 : m ≤ 12) (hz : HNz h m zc zl zp) {post : PO} (K : Ev E mX11_hands (rmm 3 0 0) (QM E 0 0 post) 0 0 119 [some (.ref 49), some (.int zv), some (.int (nI zs)), some (.int (nI zn)), some (.int (lsV (lsN zc zl zs m))), some (.int (nI m)), none] [] h) : ∀ zf i : Nat, i + zf = m → Ev E mX11_hands (rmm 3 0 0) (QM E 0 0 post) 0 0 67 [some (.ref 49), some (.int zv), some (.int (nI zs)), some (.int (nI zn)), some (.int (lsV (lsN zc zl zs i))), some (.int (nI i)), none] [] h := by
  intro zf
  induction zf with
  | zero =>
    intro i hi
    obtain rfl : m = i := by omega
    refine ev_iload (pc := 67) dX11_hands_67 rfl ?_
    refine ev_aload_n (pc := 69) dX11_hands_69 rfl ?_
    refine ev_getI (pc := 70) dX11_hands_70 fX11_184 rfl (wlt hw (by decide)) ?_
    refine ev_icmp_ge (pc := 73) (tgt := 119) dX11_hands_73 (by decide) (fun zc73 => ?_) (fun zc73 => absurd (by rw [hm]; exact nI_leI (by omega) (by omega) |>.mpr (Nat.le_refl _)) zc73)
    exact K
  | succ zf ih =>
    intro i hi
    have hlt : i < m := by omega
    refine ev_iload (pc := 67) dX11_hands_67 rfl ?_
    refine ev_aload_n (pc := 69) dX11_hands_69 rfl ?_
    refine ev_getI (pc := 70) dX11_hands_70 fX11_184 rfl (wlt hw (by decide)) ?_
    refine ev_icmp_ge (pc := 73) (tgt := 119) dX11_hands_73 (by decide) (fun zc73 => absurd zc73 (by rw [hm]; exact nI_ge hlt (by omega))) (fun zc73 => ?_)
    refine ev_iload_n (pc := 76) dX11_hands_76 rfl ?_
    refine ev_iload (pc := 77) dX11_hands_77 rfl ?_
    refine ev_ishr (pc := 79) dX11_hands_79 ?_
    refine ev_iconst (pc := 80) (v := 1) dX11_hands_80 (by decide) ?_
    refine ev_iand (pc := 81) dX11_hands_81 ?_
    refine ev_iconst (pc := 82) (v := 1) dX11_hands_82 (by decide) ?_
    refine ev_icmp_ne (pc := 83) (tgt := 109) dX11_hands_83 (by decide) (fun zc83 => ?_) (fun zc83 => ?_)
    · -- ne at 83: taken
      refine ev_iload (pc := 109) dX11_hands_109 rfl ?_
      refine ev_istore (pc := 111) (L' := [some (.ref 49), some (.int zv), some (.int (nI zs)), some (.int (nI zn)), some (.int (lsV (lsN zc zl zs i))), some (.int (nI i)), none]) dX11_hands_111 (Nat.le_of_ble_eq_true rfl) rfl ?_
      refine ev_iinc (pc := 113) (v := nI (i + 1)) (L' := [some (.ref 49), some (.int zv), some (.int (nI zs)), some (.int (nI zn)), some (.int (lsV (lsN zc zl zs i))), some (.int (nI (i + 1))), none]) dX11_hands_113 rfl (nI_1 _) (Nat.le_of_ble_eq_true rfl) rfl ?_
      refine ev_goto (pc := 116) (tgt := 67) dX11_hands_116 (by decide) ?_
      refine ev_eqL (L' := [some (.ref 49), some (.int zv), some (.int (nI zs)), some (.int (nI zn)), some (.int (lsV (lsN zc zl zs (i + 1)))), some (.int (nI (i + 1))), none]) (by rw [lsN]; rw [if_neg (fun zq => zc83 ((bit_1 (by omega)).mpr zq.1))]) ?_
      exact ih (i + 1) (by omega)
    · -- ne at 83: not taken
      refine ev_iload (pc := 86) dX11_hands_86 rfl ?_
      refine ev_bipush (pc := 88) (v := (-4)) dX11_hands_88 (by decide) ?_
      refine ev_icmp_eq (pc := 90) (tgt := 104) dX11_hands_90 (by decide) (fun zc90 => ?_) (fun zc90 => ?_)
      · -- eq at 90: taken
        refine ev_iload (pc := 104) dX11_hands_104 rfl ?_
        refine ev_goto (pc := 106) (tgt := 111) dX11_hands_106 (by decide) ?_
        refine ev_istore (pc := 111) (L' := [some (.ref 49), some (.int zv), some (.int (nI zs)), some (.int (nI zn)), some (.int (nI i)), some (.int (nI i)), none]) dX11_hands_111 (Nat.le_of_ble_eq_true rfl) rfl ?_
        refine ev_iinc (pc := 113) (v := nI (i + 1)) (L' := [some (.ref 49), some (.int zv), some (.int (nI zs)), some (.int (nI zn)), some (.int (nI i)), some (.int (nI (i + 1))), none]) dX11_hands_113 rfl (nI_1 _) (Nat.le_of_ble_eq_true rfl) rfl ?_
        refine ev_goto (pc := 116) (tgt := 67) dX11_hands_116 (by decide) ?_
        refine ev_eqL (L' := [some (.ref 49), some (.int zv), some (.int (nI zs)), some (.int (nI zn)), some (.int (lsV (lsN zc zl zs (i + 1)))), some (.int (nI (i + 1))), none]) (by rw [lsN]; rw [if_pos ⟨(bit_1 (by omega)).mp zc83, Or.inl ((lsV_e (ls_13 zc zl zs (by omega))).mp zc90)⟩]; exact congrArg (fun zx => [some (Value.ref 49), some (Value.int zv), some (Value.int (nI zs)), some (Value.int (nI zn)), some (Value.int zx), some (Value.int (nI (i + 1))), none]) (lsV_4 (by omega)).1.symm) ?_
        exact ih (i + 1) (by omega)
      · -- eq at 90: not taken
        have zq13 : lsN zc zl zs i < i := by
          rcases ls_ok zc zl zs i with z | z
          · exact z.1
          · exact absurd ((lsV_e (ls_13 zc zl zs (by omega))).mpr z.1) zc90
        refine ev_eqL (L' := [some (.ref 49), some (.int zv), some (.int (nI zs)), some (.int (nI zn)), some (.int (nI (lsN zc zl zs i))), some (.int (nI i)), none]) (by rw [(lsV_4 (by omega)).1]) ?_
        refine ev_aload_n (pc := 93) dX11_hands_93 rfl ?_
        refine ev_iload (pc := 94) dX11_hands_94 rfl ?_
        refine ev_iload (pc := 96) dX11_hands_96 rfl ?_
        refine ev_callVv (S := []) (pc := 98) dX11_hands_98 kX11_above lX11_229 vX11_above (cn_X11_above E h (nI i) (nI (lsN zc zl zs i)) hw (vp_in_nI (by omega) (by decide)) (vp_in_nI (by omega) (by decide))) rfl rfl (wlt hw (by decide)) rfl rfl (Nat.le_of_ble_eq_true rfl) ⟨Nat.le_of_ble_eq_true rfl, Nat.le_of_ble_eq_true rfl⟩ ⟨Nat.le_of_ble_eq_true rfl, Nat.le_of_ble_eq_true rfl⟩ ?_
        refine ev_if_ge (pc := 101) (tgt := 109) dX11_hands_101 (by decide) (fun zc101 => ?_) (fun zc101 => ?_)
        · -- ge at 101: taken
          refine ev_iload (pc := 109) dX11_hands_109 rfl ?_
          refine ev_istore (pc := 111) (L' := [some (.ref 49), some (.int zv), some (.int (nI zs)), some (.int (nI zn)), some (.int (nI (lsN zc zl zs i))), some (.int (nI i)), none]) dX11_hands_111 (Nat.le_of_ble_eq_true rfl) rfl ?_
          refine ev_iinc (pc := 113) (v := nI (i + 1)) (L' := [some (.ref 49), some (.int zv), some (.int (nI zs)), some (.int (nI zn)), some (.int (nI (lsN zc zl zs i))), some (.int (nI (i + 1))), none]) dX11_hands_113 rfl (nI_1 _) (Nat.le_of_ble_eq_true rfl) rfl ?_
          refine ev_goto (pc := 116) (tgt := 67) dX11_hands_116 (by decide) ?_
          refine ev_eqL (L' := [some (.ref 49), some (.int zv), some (.int (nI zs)), some (.int (nI zn)), some (.int (lsV (lsN zc zl zs (i + 1)))), some (.int (nI (i + 1))), none]) (by rw [lsN]; rw [if_neg (fun zq => by rcases zq.2 with z | z; exact (by omega); exact (i_lt2 _ _).mpr zc101 ((abv_N hz hm2 hlt (by omega)).mpr z))]; rw [(lsV_4 (by omega)).1]) ?_
          exact ih (i + 1) (by omega)
        · -- ge at 101: not taken
          refine ev_iload (pc := 104) dX11_hands_104 rfl ?_
          refine ev_goto (pc := 106) (tgt := 111) dX11_hands_106 (by decide) ?_
          refine ev_istore (pc := 111) (L' := [some (.ref 49), some (.int zv), some (.int (nI zs)), some (.int (nI zn)), some (.int (nI i)), some (.int (nI i)), none]) dX11_hands_111 (Nat.le_of_ble_eq_true rfl) rfl ?_
          refine ev_iinc (pc := 113) (v := nI (i + 1)) (L' := [some (.ref 49), some (.int zv), some (.int (nI zs)), some (.int (nI zn)), some (.int (nI i)), some (.int (nI (i + 1))), none]) dX11_hands_113 rfl (nI_1 _) (Nat.le_of_ble_eq_true rfl) rfl ?_
          refine ev_goto (pc := 116) (tgt := 67) dX11_hands_116 (by decide) ?_
          refine ev_eqL (L' := [some (.ref 49), some (.int zv), some (.int (nI zs)), some (.int (nI zn)), some (.int (lsV (lsN zc zl zs (i + 1)))), some (.int (nI (i + 1))), none]) (by rw [lsN]; rw [if_pos ⟨(bit_1 (by omega)).mp zc83, Or.inr ((abv_N hz hm2 hlt (by omega)).mp ((i_le2 _ _).mp zc101))⟩]; rw [(lsV_4 (zx := i) (by omega)).1]) ?_
          exact ih (i + 1) (by omega)
theorem lp_hands_125 (E : ME) (h : AH) (m : Nat) (zc zl : Nat → Nat) (zp zs zn zq : Nat) (zv : Int32) (hw : WF h) (hm : h.2.1 49 14 = nI m) (hm2 : m ≤ 12) (hz : HNz h m zc zl zp) (hq : zq < m) {post : PO} (K : Ev E mX11_hands (rmm 3 0 0) (QM E 0 0 post) 0 0 174 [some (.ref 49), some (.int zv), some (.int (nI zs)), some (.int (nI zn)), some (.int (nI zq)), some (.int (nI (hdN zc zl zp zs zq m))), some (.int (nI m))] [] h) : ∀ zf i : Nat, i + zf = m → Ev E mX11_hands (rmm 3 0 0) (QM E 0 0 post) 0 0 125 [some (.ref 49), some (.int zv), some (.int (nI zs)), some (.int (nI zn)), some (.int (nI zq)), some (.int (nI (hdN zc zl zp zs zq i))), some (.int (nI i))] [] h := by
  intro zf
  induction zf with
  | zero =>
    intro i hi
    obtain rfl : m = i := by omega
    refine ev_iload (pc := 125) dX11_hands_125 rfl ?_
    refine ev_aload_n (pc := 127) dX11_hands_127 rfl ?_
    refine ev_getI (pc := 128) dX11_hands_128 fX11_184 rfl (wlt hw (by decide)) ?_
    refine ev_icmp_ge (pc := 131) (tgt := 174) dX11_hands_131 (by decide) (fun zc131 => ?_) (fun zc131 => absurd (by rw [hm]; exact nI_leI (by omega) (by omega) |>.mpr (Nat.le_refl _)) zc131)
    exact K
  | succ zf ih =>
    intro i hi
    have hlt : i < m := by omega
    refine ev_iload (pc := 125) dX11_hands_125 rfl ?_
    refine ev_aload_n (pc := 127) dX11_hands_127 rfl ?_
    refine ev_getI (pc := 128) dX11_hands_128 fX11_184 rfl (wlt hw (by decide)) ?_
    refine ev_icmp_ge (pc := 131) (tgt := 174) dX11_hands_131 (by decide) (fun zc131 => absurd zc131 (by rw [hm]; exact nI_ge hlt (by omega))) (fun zc131 => ?_)
    refine ev_iload (pc := 134) dX11_hands_134 rfl ?_
    refine ev_iload_n (pc := 136) dX11_hands_136 rfl ?_
    refine ev_iload (pc := 137) dX11_hands_137 rfl ?_
    refine ev_ishr (pc := 139) dX11_hands_139 ?_
    refine ev_iconst (pc := 140) (v := 1) dX11_hands_140 (by decide) ?_
    refine ev_iand (pc := 141) dX11_hands_141 ?_
    refine ev_iconst (pc := 142) (v := 1) dX11_hands_142 (by decide) ?_
    refine ev_icmp_ne (pc := 143) (tgt := 164) dX11_hands_143 (by decide) (fun zc143 => ?_) (fun zc143 => ?_)
    · -- ne at 143: taken
      refine ev_iconst (pc := 164) (v := 0) dX11_hands_164 (by decide) ?_
      refine ev_ior (pc := 165) dX11_hands_165 ?_
      refine ev_istore (pc := 166) (L' := [some (.ref 49), some (.int zv), some (.int (nI zs)), some (.int (nI zn)), some (.int (nI zq)), some (.int ((nI (hdN zc zl zp zs zq i)) ||| 0)), some (.int (nI i))]) dX11_hands_166 (Nat.le_of_ble_eq_true rfl) rfl ?_
      refine ev_iinc (pc := 168) (v := nI (i + 1)) (L' := [some (.ref 49), some (.int zv), some (.int (nI zs)), some (.int (nI zn)), some (.int (nI zq)), some (.int ((nI (hdN zc zl zp zs zq i)) ||| 0)), some (.int (nI (i + 1)))]) dX11_hands_168 rfl (nI_1 _) (Nat.le_of_ble_eq_true rfl) rfl ?_
      refine ev_goto (pc := 171) (tgt := 125) dX11_hands_171 (by decide) ?_
      refine ev_eqL (L' := [some (.ref 49), some (.int zv), some (.int (nI zs)), some (.int (nI zn)), some (.int (nI zq)), some (.int (nI (hdN zc zl zp zs zq (i + 1)))), some (.int (nI (i + 1)))]) (by rw [hdN, ← (if_or32f (zx := hdN zc zl zp zs zq i) (zn := i) (fun z => zc143 ((bit_1 (by omega)).mpr z.1)))]) ?_
      exact ih (i + 1) (by omega)
    · -- ne at 143: not taken
      refine ev_aload_n (pc := 146) dX11_hands_146 rfl ?_
      refine ev_iload (pc := 147) dX11_hands_147 rfl ?_
      refine ev_iload (pc := 149) dX11_hands_149 rfl ?_
      refine ev_callVv (S := [.int (nI (hdN zc zl zp zs zq i))]) (pc := 151) dX11_hands_151 kX11_areSure lX11_232 vX11_areSure (cn_X11_areSure E h (nI i) (nI zq) hw (vp_in_nI (by omega) (by decide)) (vp_in_nI (by omega) (by decide))) rfl rfl (wlt hw (by decide)) rfl rfl (Nat.le_of_ble_eq_true rfl) ⟨Nat.le_of_ble_eq_true rfl, Nat.le_of_ble_eq_true rfl⟩ ⟨Nat.le_of_ble_eq_true rfl, Nat.le_of_ble_eq_true rfl⟩ ?_
      refine ev_if_ne (pc := 154) (tgt := 164) dX11_hands_154 (by decide) (fun zc154 => ?_) (fun zc154 => ?_)
      · -- ne at 154: taken
        refine ev_iconst (pc := 164) (v := 0) dX11_hands_164 (by decide) ?_
        refine ev_ior (pc := 165) dX11_hands_165 ?_
        refine ev_istore (pc := 166) (L' := [some (.ref 49), some (.int zv), some (.int (nI zs)), some (.int (nI zn)), some (.int (nI zq)), some (.int ((nI (hdN zc zl zp zs zq i)) ||| 0)), some (.int (nI i))]) dX11_hands_166 (Nat.le_of_ble_eq_true rfl) rfl ?_
        refine ev_iinc (pc := 168) (v := nI (i + 1)) (L' := [some (.ref 49), some (.int zv), some (.int (nI zs)), some (.int (nI zn)), some (.int (nI zq)), some (.int ((nI (hdN zc zl zp zs zq i)) ||| 0)), some (.int (nI (i + 1)))]) dX11_hands_168 rfl (nI_1 _) (Nat.le_of_ble_eq_true rfl) rfl ?_
        refine ev_goto (pc := 171) (tgt := 125) dX11_hands_171 (by decide) ?_
        refine ev_eqL (L' := [some (.ref 49), some (.int zv), some (.int (nI zs)), some (.int (nI zn)), some (.int (nI zq)), some (.int (nI (hdN zc zl zp zs zq (i + 1)))), some (.int (nI (i + 1)))]) (by rw [hdN, ← (if_or32f (zx := hdN zc zl zp zs zq i) (zn := i) (fun z => zc154 ((sur_0 hz hm2 hlt hq).mpr z.2)))]) ?_
        exact ih (i + 1) (by omega)
      · -- ne at 154: not taken
        refine ev_iconst (pc := 157) (v := 1) dX11_hands_157 (by decide) ?_
        refine ev_iload (pc := 158) dX11_hands_158 rfl ?_
        refine ev_ishl (pc := 160) dX11_hands_160 ?_
        refine ev_goto (pc := 161) (tgt := 165) dX11_hands_161 (by decide) ?_
        refine ev_ior (pc := 165) dX11_hands_165 ?_
        refine ev_istore (pc := 166) (L' := [some (.ref 49), some (.int zv), some (.int (nI zs)), some (.int (nI zn)), some (.int (nI zq)), some (.int ((nI (hdN zc zl zp zs zq i)) ||| (1 <<< ((nI i) &&& 31)))), some (.int (nI i))]) dX11_hands_166 (Nat.le_of_ble_eq_true rfl) rfl ?_
        refine ev_iinc (pc := 168) (v := nI (i + 1)) (L' := [some (.ref 49), some (.int zv), some (.int (nI zs)), some (.int (nI zn)), some (.int (nI zq)), some (.int ((nI (hdN zc zl zp zs zq i)) ||| (1 <<< ((nI i) &&& 31)))), some (.int (nI (i + 1)))]) dX11_hands_168 rfl (nI_1 _) (Nat.le_of_ble_eq_true rfl) rfl ?_
        refine ev_goto (pc := 171) (tgt := 125) dX11_hands_171 (by decide) ?_
        refine ev_eqL (L' := [some (.ref 49), some (.int zv), some (.int (nI zs)), some (.int (nI zn)), some (.int (nI zq)), some (.int (nI (hdN zc zl zp zs zq (i + 1)))), some (.int (nI (i + 1)))]) (by rw [hdN, ← (if_or32t (zx := hdN zc zl zp zs zq i) (zn := i) (by omega) ⟨(bit_1 (by omega)).mp zc143, (sur_0 hz hm2 hlt hq).mp zc154⟩)]) ?_
        exact ih (i + 1) (by omega)
theorem lp_hands_56 (E : ME) (h : AH) (m : Nat) (zc zl : Nat → Nat) (zp : Nat) (zv : Int32) (hw : WF h) (hm : h.2.1 49 14 = nI m) (hm2 : m ≤ 12) (hz : HNz h m zc zl zp) {post : PO} : ∀ zf zn zs : Nat, zs < 2 ^ m → fb_ct zs.testBit m < zf → zn + fb_ct zs.testBit m ≤ 12 → post (some (.int (hndN zc zl zp m zv zf zn zs))) h → Ev E mX11_hands (rmm 3 0 0) (QM E 0 0 post) 0 0 56 [some (.ref 49), some (.int zv), some (.int (nI zs)), some (.int (nI zn)), none, none, none] [] h := by
  intro zf
  induction zf with
  | zero =>
    intro zn zs h1 h2
    exact absurd h2 (Nat.not_lt_zero _)
  | succ zf ih =>
    intro zn zs h1 h2 h3 hp
    refine ev_iload_n (pc := 56) dX11_hands_56 rfl ?_
    refine ev_if_eq (pc := 57) (tgt := 198) dX11_hands_57 (by decide) (fun zc57 => ?_) (fun zc57 => ?_)
    · -- eq at 57: taken
      refine ev_iload_n (pc := 198) dX11_hands_198 rfl ?_
      refine ev_if_ne (pc := 199) (tgt := 206) dX11_hands_199 (by decide) (fun zc199 => ?_) (fun zc199 => ?_)
      · -- ne at 199: taken
        refine ev_iconst (pc := 206) (v := (-1)) dX11_hands_206 (by decide) ?_
        refine ev_iret (pc := 207) dX11_hands_207 rfl ?_ ?_
        · rfl
        · have z9 : zs = 0 := (nI_eq (a := zs) (b := 0) (by have := pw_le hm2; omega) (by decide)).mp zc57
          rw [hndN, if_pos z9, if_neg zc199] at hp
          exact hp
      · -- ne at 199: not taken
        refine ev_iload_n (pc := 202) dX11_hands_202 rfl ?_
        refine ev_goto (pc := 203) (tgt := 207) dX11_hands_203 (by decide) ?_
        refine ev_iret (pc := 207) dX11_hands_207 rfl ?_ ?_
        · rfl
        · have z9 : zs = 0 := (nI_eq (a := zs) (b := 0) (by have := pw_le hm2; omega) (by decide)).mp zc57
          rw [hndN, if_pos z9, if_pos (by simpa using zc199)] at hp
          exact hp
    · -- eq at 57: not taken
      refine ev_bipush (pc := 60) (v := (-4)) dX11_hands_60 (by decide) ?_
      refine ev_istore (pc := 62) (L' := [some (.ref 49), some (.int zv), some (.int (nI zs)), some (.int (nI zn)), some (.int ((-4))), none, none]) dX11_hands_62 (Nat.le_of_ble_eq_true rfl) rfl ?_
      refine ev_iconst (pc := 64) (v := 0) dX11_hands_64 (by decide) ?_
      refine ev_istore (pc := 65) (L' := [some (.ref 49), some (.int zv), some (.int (nI zs)), some (.int (nI zn)), some (.int ((-4))), some (.int 0), none]) dX11_hands_65 (Nat.le_of_ble_eq_true rfl) rfl ?_
      have zs0 : zs ≠ 0 := fun z => zc57 (by rw [z]; rfl)
      have zls := ls_lt (zc := zc) (zl := zl) zs0 h1
      have zpw := pw_le hm2
      refine lp_hands_67 E h m zc zl zp zs zn zv hw hm hm2 hz ?_ m 0 (Nat.zero_add _)
      refine ev_eqL (L' := [some (.ref 49), some (.int zv), some (.int (nI zs)), some (.int (nI zn)), some (.int (nI (lsN zc zl zs m))), some (.int (nI m)), none]) (by rw [(lsV_4 (by omega)).1]) ?_
      refine ev_iconst (pc := 119) (v := 0) dX11_hands_119 (by decide) ?_
      refine ev_istore (pc := 120) (L' := [some (.ref 49), some (.int zv), some (.int (nI zs)), some (.int (nI zn)), some (.int (nI (lsN zc zl zs m))), some (.int 0), none]) dX11_hands_120 (Nat.le_of_ble_eq_true rfl) rfl ?_
      refine ev_iconst (pc := 122) (v := 0) dX11_hands_122 (by decide) ?_
      refine ev_istore (pc := 123) (L' := [some (.ref 49), some (.int zv), some (.int (nI zs)), some (.int (nI zn)), some (.int (nI (lsN zc zl zs m))), some (.int 0), some (.int 0)]) dX11_hands_123 (Nat.le_of_ble_eq_true rfl) rfl ?_
      refine lp_hands_125 E h m zc zl zp zs zn (lsN zc zl zs m) zv hw hm hm2 hz zls.1 ?_ m 0 (Nat.zero_add _)
      refine ev_iload_n (pc := 174) dX11_hands_174 rfl ?_
      refine ev_iload_n (pc := 175) dX11_hands_175 rfl ?_
      refine ev_bipush (pc := 176) (v := 10) dX11_hands_176 (by decide) ?_
      refine ev_isub (pc := 178) dX11_hands_178 ?_
      refine ev_icmp_ne (pc := 179) (tgt := 185) dX11_hands_179 (by decide) (fun zc179 => ?_) (fun zc179 => ?_)
      · -- ne at 179: taken
        refine ev_iload_n (pc := 185) dX11_hands_185 rfl ?_
        refine ev_iload (pc := 186) dX11_hands_186 rfl ?_
        refine ev_iconst (pc := 188) (v := (-1)) dX11_hands_188 (by decide) ?_
        refine ev_ixor (pc := 189) dX11_hands_189 ?_
        refine ev_iand (pc := 190) dX11_hands_190 ?_
        refine ev_eqI (e' := nI (zs ^^^ (hdN zc zl zp zs (lsN zc zl zs m) m))) (hd_less hm2 h1) ?_
        refine ev_istore_n (pc := 191) (L' := [some (.ref 49), some (.int zv), some (.int (nI (zs ^^^ (hdN zc zl zp zs (lsN zc zl zs m) m)))), some (.int (nI zn)), some (.int (nI (lsN zc zl zs m))), some (.int (nI (hdN zc zl zp zs (lsN zc zl zs m) m))), some (.int (nI m))]) dX11_hands_191 (Nat.le_of_ble_eq_true rfl) rfl ?_
        refine ev_iinc (pc := 192) (v := nI (zn + 1)) (L' := [some (.ref 49), some (.int zv), some (.int (nI (zs ^^^ (hdN zc zl zp zs (lsN zc zl zs m) m)))), some (.int (nI (zn + 1))), some (.int (nI (lsN zc zl zs m))), some (.int (nI (hdN zc zl zp zs (lsN zc zl zs m) m))), some (.int (nI m))]) dX11_hands_192 rfl (nI_1 _) (Nat.le_of_ble_eq_true rfl) rfl ?_
        refine ev_goto (pc := 195) (tgt := 56) dX11_hands_195 (by decide) ?_
        refine ev_less (L' := [some (.ref 49), some (.int zv), some (.int (nI (zs ^^^ (hdN zc zl zp zs (lsN zc zl zs m) m)))), some (.int (nI (zn + 1))), none, none, none]) (ls_keep (ls_keep (ls_keep (ls_keep (ls_drop (ls_drop (ls_drop (ls_nil _)))))))) ?_
        have zct := hd_ct (zc := zc) (zl := zl) (zp := zp) zs0 h1
        refine ih (zn + 1) _ (xor_lt2 h1 (hd_lt _ _ _ _ _ _)) (by omega) (by omega) ?_
        rw [hndN, if_neg zs0, if_neg (by simpa using zc179)] at hp
        exact hp
      · -- ne at 179: not taken
        refine ev_iload (pc := 182) dX11_hands_182 rfl ?_
        refine ev_iret (pc := 184) dX11_hands_184 rfl ?_ ?_
        · rfl
        · rw [hndN, if_neg zs0, if_pos (by simpa using zc179)] at hp
          exact hp
theorem cn_X11_hands (E : ME) (h : AH) (zv : Int32) (m : Nat) (zc zl : Nat → Nat) (zp : Nat) (hw : WF h) (hm : h.2.1 49 14 = nI m) (hm2 : m ≤ 12) (hz : HNz h m zc zl zp) : Con E mX11_hands 3 0 0 [.ref 49, .int zv] h (fun r h' => r = some (.int (if ¬ zv < 0 ∧ ¬ (1 ≤ zv ∧ zv ≤ 9) then hndN zc zl zp m zv 13 0 (rwsN zc m) else -1)) ∧ h' = h) := by
  refine con_of2 (L := [some (.ref 49), some (.int zv), none, none, none, none, none]) rfl (Nat.le_of_ble_eq_true rfl) rfl ?_
  refine ev_iload_n (pc := 0) dX11_hands_0 rfl ?_
  refine ev_if_lt (pc := 1) (tgt := 16) dX11_hands_1 (by decide) (fun zc1 => ?_) (fun zc1 => ?_)
  · -- lt at 1: taken
    refine ev_iconst (pc := 16) (v := (-1)) dX11_hands_16 (by decide) ?_
    refine ev_iret (pc := 17) dX11_hands_17 rfl ?_ ?_
    · rfl
    · refine ⟨?_, rfl⟩
      first | (rw [if_neg (fun zq => zq.1 zc1)]; done) | (rw [if_neg (fun zq => zq.2 (bI_n0.mp (by simpa using zc13)))]; done)
  · -- lt at 1: not taken
    refine ev_iload_n (pc := 4) dX11_hands_4 rfl ?_
    refine ev_i2l (pc := 5) dX11_hands_5 ?_
    refine ev_lconst (pc := 6) (v := 1) dX11_hands_6 (by decide) ?_
    refine ev_ldc2 (pc := 7) (v := 9) dX11_hands_7 kcX11_236 ?_
    refine ev_callSv (S := []) (pc := 10) dX11_hands_10 kX11_in lX11_96 sX11_in (cn_X11_inC E h zv 1 9 _ _ _ rfl (by decide) (by decide)) rfl rfl (Nat.le_of_ble_eq_true rfl) ⟨Nat.le_of_ble_eq_true rfl, Nat.le_of_ble_eq_true rfl⟩ ⟨Nat.le_of_ble_eq_true rfl, Nat.le_of_ble_eq_true rfl⟩ ?_
    refine ev_if_eq (pc := 13) (tgt := 18) dX11_hands_13 (by decide) (fun zc13 => ?_) (fun zc13 => ?_)
    · -- eq at 13: taken
      refine ev_iconst (pc := 18) (v := 0) dX11_hands_18 (by decide) ?_
      refine ev_istore_n (pc := 19) (L' := [some (.ref 49), some (.int zv), some (.int 0), none, none, none, none]) dX11_hands_19 (Nat.le_of_ble_eq_true rfl) rfl ?_
      refine ev_iconst (pc := 20) (v := 0) dX11_hands_20 (by decide) ?_
      refine ev_istore_n (pc := 21) (L' := [some (.ref 49), some (.int zv), some (.int 0), some (.int 0), none, none, none]) dX11_hands_21 (Nat.le_of_ble_eq_true rfl) rfl ?_
      refine lp_hands_22 E h m zc zl zp zv hw hm hm2 hz ?_ m 0 (Nat.zero_add _)
      refine ev_iconst (pc := 54) (v := 0) dX11_hands_54 (by decide) ?_
      refine ev_istore_n (pc := 55) (L' := [some (.ref 49), some (.int zv), some (.int (nI (rwsN zc m))), some (.int 0), none, none, none]) dX11_hands_55 (Nat.le_of_ble_eq_true rfl) rfl ?_
      refine ev_less (L' := [some (.ref 49), some (.int zv), some (.int (nI (rwsN zc m))), some (.int 0), none, none, none]) (ls_keep (ls_keep (ls_keep (ls_keep (ls_keep (ls_keep (ls_keep (ls_nil _)))))))) ?_
      refine lp_hands_56 E h m zc zl zp zv hw hm hm2 hz 13 0 _ (rws_lt zc m) (by have := fb_ct_le (rwsN zc m).testBit m; omega) (by have := fb_ct_le (rwsN zc m).testBit m; omega) ?_
      rw [if_pos (show ¬ zv < 0 ∧ ¬ (1 ≤ zv ∧ zv ≤ 9) from ⟨by simpa using zc1, bI_0.mp (by simpa using zc13)⟩)]
      exact ⟨rfl, rfl⟩
    · -- eq at 13: not taken
      refine ev_iconst (pc := 16) (v := (-1)) dX11_hands_16 (by decide) ?_
      refine ev_iret (pc := 17) dX11_hands_17 rfl ?_ ?_
      · rfl
      · refine ⟨?_, rfl⟩
        first | (rw [if_neg (fun zq => zq.1 zc1)]; done) | (rw [if_neg (fun zq => zq.2 (bI_n0.mp (by simpa using zc13)))]; done)
