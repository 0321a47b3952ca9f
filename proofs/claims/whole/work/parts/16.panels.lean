def seI (a b : Int32) : Int32 := if ¬ a = -1 ∧ a = b then 1 else 0
def smF (f : Nat → Int32) : Nat → Int32
  | 0 => 0
  | k + 1 => smF f k + seI (f (8 * k + 3)) (f (8 * k + 4)) + seI (f (24 + k)) (f (32 + k))
def fgI (v i : Int32) : Int32 := (v >>> ((6 - 2 * i) &&& 31)) &&& 3
def fg (v i : Nat) : Nat := (fgI (nI v) (nI i)).toNatClampNeg
theorem fg_ok : ∀ i, i < 4 → ∀ v, v < 256 → fgI (nI v) (nI i) = nI (fg v i) ∧ fg v i < 4 := by decide +kernel
def auF (v : Nat) : Nat → Int32
  | 0 => 0
  | i + 1 => auF v i ||| (1 <<< (nI (fg v i) &&& 31))
abbrev unl (v : Nat) : Prop := auF v 4 = 15
theorem cn_X11_seamOf (E : ME) (h : AH) (a b : Int32)  : Con E mX11_seamOf 0 0 0 [.int a, .int b] h (fun r h' => r = some (.int (seI a b)) ∧ h' = h) := by
  refine con_of2 (L := [some (.int a), some (.int b)]) rfl (Nat.le_of_ble_eq_true rfl) rfl ?_
  refine ev_iload_n (pc := 0) dX11_seamOf_0 rfl ?_
  refine ev_iconst (pc := 1) (v := (-1)) dX11_seamOf_1 (by decide) ?_
  refine ev_icmp_eq (pc := 2) (tgt := 14) dX11_seamOf_2 (by decide) (fun zc2 => ?_) (fun zc2 => ?_)
  · -- eq at 2: taken
    refine ev_iconst (pc := 14) (v := 0) dX11_seamOf_14 (by decide) ?_
    refine ev_iret (pc := 15) dX11_seamOf_15 rfl ?_ ?_
    · rfl
    · refine ⟨?_, rfl⟩
      unfold seI
      rw [if_neg (fun q => q.1 zc2)]
  · -- eq at 2: not taken
    refine ev_iload_n (pc := 5) dX11_seamOf_5 rfl ?_
    refine ev_iload_n (pc := 6) dX11_seamOf_6 rfl ?_
    refine ev_icmp_ne (pc := 7) (tgt := 14) dX11_seamOf_7 (by decide) (fun zc7 => ?_) (fun zc7 => ?_)
    · -- ne at 7: taken
      refine ev_iconst (pc := 14) (v := 0) dX11_seamOf_14 (by decide) ?_
      refine ev_iret (pc := 15) dX11_seamOf_15 rfl ?_ ?_
      · rfl
      · refine ⟨?_, rfl⟩
        unfold seI
        rw [if_neg (fun q => zc7 q.2)]
    · -- ne at 7: not taken
      refine ev_iconst (pc := 10) (v := 1) dX11_seamOf_10 (by decide) ?_
      refine ev_goto (pc := 11) (tgt := 15) dX11_seamOf_11 (by decide) ?_
      refine ev_iret (pc := 15) dX11_seamOf_15 rfl ?_ ?_
      · rfl
      · refine ⟨?_, rfl⟩
        unfold seI
        rw [if_pos ⟨zc2, zc7⟩]
theorem lp_seams_4 (E : ME) (h : AH) (hw : WF h) {post : PO} (K : Ev E mX11_seams (rmm 1 0 0) (QM E 0 0 post) 0 0 68 [some (.ref 49), some (.int (smF (h.2.1 69) 8)), some (.int (nI 8))] [] h) : ∀ n i : Nat, i + n = 8 → Ev E mX11_seams (rmm 1 0 0) (QM E 0 0 post) 0 0 4 [some (.ref 49), some (.int (smF (h.2.1 69) i)), some (.int (nI i))] [] h := by
  intro n
  induction n with
  | zero =>
    intro i hi
    obtain rfl : 8 = i := by omega
    refine ev_iload_n (pc := 4) dX11_seams_4 rfl ?_
    refine ev_bipush (pc := 5) (v := 8) dX11_seams_5 (by decide) ?_
    refine ev_icmp_ge (pc := 7) (tgt := 68) dX11_seams_7 (by decide) (fun zc7 => ?_) (fun zc7 => absurd (by decide) zc7)
    exact K
  | succ n ih =>
    intro i hi
    have hlt : i < 8 := by omega
    refine ev_iload_n (pc := 4) dX11_seams_4 rfl ?_
    refine ev_bipush (pc := 5) (v := 8) dX11_seams_5 (by decide) ?_
    refine ev_icmp_ge (pc := 7) (tgt := 68) dX11_seams_7 (by decide) (fun zc7 => absurd zc7 (nI_ge hlt (by decide))) (fun zc7 => ?_)
    refine ev_iload_n (pc := 10) dX11_seams_10 rfl ?_
    refine ev_aload_n (pc := 11) dX11_seams_11 rfl ?_
    refine ev_getR (pc := 12) (q := 69) dX11_seams_12 fX11_72 rfl (wlt hw (by decide)) (wr hw rfl) ?_
    refine ev_bipush (pc := 15) (v := 8) dX11_seams_15 (by decide) ?_
    refine ev_iload_n (pc := 17) dX11_seams_17 rfl ?_
    refine ev_imul (pc := 18) dX11_seams_18 ?_
    refine ev_eqI (e' := nI (8 * i)) (pk_mul 8 i) ?_
    refine ev_iconst (pc := 19) (v := 3) dX11_seams_19 (by decide) ?_
    refine ev_iadd (pc := 20) dX11_seams_20 ?_
    refine ev_eqI (e' := nI ((8 * i) + 3)) (nI_add (8 * i) 3) ?_
    refine ev_iald (pc := 21) dX11_seams_21 rfl (wlt hw (by decide)) (vp_in_nI (by omega) (by decide)) ?_
    refine ev_eqI (e' := h.2.1 69 ((8 * i) + 3)) (by rw [show Int32.toNatClampNeg (nI ((8 * i) + 3)) = (8 * i) + 3 from nI_clamp (by omega)] <;> rfl) ?_
    refine ev_aload_n (pc := 22) dX11_seams_22 rfl ?_
    refine ev_getR (pc := 23) (q := 69) dX11_seams_23 fX11_72 rfl (wlt hw (by decide)) (wr hw rfl) ?_
    refine ev_bipush (pc := 26) (v := 8) dX11_seams_26 (by decide) ?_
    refine ev_iload_n (pc := 28) dX11_seams_28 rfl ?_
    refine ev_imul (pc := 29) dX11_seams_29 ?_
    refine ev_eqI (e' := nI (8 * i)) (pk_mul 8 i) ?_
    refine ev_iconst (pc := 30) (v := 4) dX11_seams_30 (by decide) ?_
    refine ev_iadd (pc := 31) dX11_seams_31 ?_
    refine ev_eqI (e' := nI ((8 * i) + 4)) (nI_add (8 * i) 4) ?_
    refine ev_iald (pc := 32) dX11_seams_32 rfl (wlt hw (by decide)) (vp_in_nI (by omega) (by decide)) ?_
    refine ev_eqI (e' := h.2.1 69 ((8 * i) + 4)) (by rw [show Int32.toNatClampNeg (nI ((8 * i) + 4)) = (8 * i) + 4 from nI_clamp (by omega)] <;> rfl) ?_
    refine ev_callSv (S := [.int (smF (h.2.1 69) i)]) (pc := 33) dX11_seams_33 kX11_seamOf lX11_332 sX11_seamOf (cn_X11_seamOf E h (h.2.1 69 ((8 * i) + 3)) (h.2.1 69 ((8 * i) + 4))) rfl rfl (Nat.le_of_ble_eq_true rfl) ⟨Nat.le_of_ble_eq_true rfl, Nat.le_of_ble_eq_true rfl⟩ ⟨Nat.le_of_ble_eq_true rfl, Nat.le_of_ble_eq_true rfl⟩ ?_
    refine ev_iadd (pc := 36) dX11_seams_36 ?_
    refine ev_istore_n (pc := 37) (L' := [some (.ref 49), some (.int ((smF (h.2.1 69) i) + (seI (h.2.1 69 ((8 * i) + 3)) (h.2.1 69 ((8 * i) + 4))))), some (.int (nI i))]) dX11_seams_37 (Nat.le_of_ble_eq_true rfl) rfl ?_
    refine ev_iload_n (pc := 38) dX11_seams_38 rfl ?_
    refine ev_aload_n (pc := 39) dX11_seams_39 rfl ?_
    refine ev_getR (pc := 40) (q := 69) dX11_seams_40 fX11_72 rfl (wlt hw (by decide)) (wr hw rfl) ?_
    refine ev_bipush (pc := 43) (v := 24) dX11_seams_43 (by decide) ?_
    refine ev_iload_n (pc := 45) dX11_seams_45 rfl ?_
    refine ev_iadd (pc := 46) dX11_seams_46 ?_
    refine ev_eqI (e' := nI (24 + i)) (nI_add 24 i) ?_
    refine ev_iald (pc := 47) dX11_seams_47 rfl (wlt hw (by decide)) (vp_in_nI (by omega) (by decide)) ?_
    refine ev_eqI (e' := h.2.1 69 (24 + i)) (by rw [show Int32.toNatClampNeg (nI (24 + i)) = 24 + i from nI_clamp (by omega)] <;> rfl) ?_
    refine ev_aload_n (pc := 48) dX11_seams_48 rfl ?_
    refine ev_getR (pc := 49) (q := 69) dX11_seams_49 fX11_72 rfl (wlt hw (by decide)) (wr hw rfl) ?_
    refine ev_bipush (pc := 52) (v := 32) dX11_seams_52 (by decide) ?_
    refine ev_iload_n (pc := 54) dX11_seams_54 rfl ?_
    refine ev_iadd (pc := 55) dX11_seams_55 ?_
    refine ev_eqI (e' := nI (32 + i)) (nI_add 32 i) ?_
    refine ev_iald (pc := 56) dX11_seams_56 rfl (wlt hw (by decide)) (vp_in_nI (by omega) (by decide)) ?_
    refine ev_eqI (e' := h.2.1 69 (32 + i)) (by rw [show Int32.toNatClampNeg (nI (32 + i)) = 32 + i from nI_clamp (by omega)] <;> rfl) ?_
    refine ev_callSv (S := [.int ((smF (h.2.1 69) i) + (seI (h.2.1 69 ((8 * i) + 3)) (h.2.1 69 ((8 * i) + 4))))]) (pc := 57) dX11_seams_57 kX11_seamOf lX11_332 sX11_seamOf (cn_X11_seamOf E h (h.2.1 69 (24 + i)) (h.2.1 69 (32 + i))) rfl rfl (Nat.le_of_ble_eq_true rfl) ⟨Nat.le_of_ble_eq_true rfl, Nat.le_of_ble_eq_true rfl⟩ ⟨Nat.le_of_ble_eq_true rfl, Nat.le_of_ble_eq_true rfl⟩ ?_
    refine ev_iadd (pc := 60) dX11_seams_60 ?_
    refine ev_istore_n (pc := 61) (L' := [some (.ref 49), some (.int (((smF (h.2.1 69) i) + (seI (h.2.1 69 ((8 * i) + 3)) (h.2.1 69 ((8 * i) + 4)))) + (seI (h.2.1 69 (24 + i)) (h.2.1 69 (32 + i))))), some (.int (nI i))]) dX11_seams_61 (Nat.le_of_ble_eq_true rfl) rfl ?_
    refine ev_iinc (pc := 62) (v := nI (i + 1)) (L' := [some (.ref 49), some (.int (((smF (h.2.1 69) i) + (seI (h.2.1 69 ((8 * i) + 3)) (h.2.1 69 ((8 * i) + 4)))) + (seI (h.2.1 69 (24 + i)) (h.2.1 69 (32 + i))))), some (.int (nI (i + 1)))]) dX11_seams_62 rfl (nI_1 _) (Nat.le_of_ble_eq_true rfl) rfl ?_
    refine ev_goto (pc := 65) (tgt := 4) dX11_seams_65 (by decide) ?_
    exact ih (i + 1) (by omega)
theorem cn_X11_seams (E : ME) (h : AH)  (hw : WF h) : Con E mX11_seams 1 0 0 [.ref 49] h (fun r h' => r = some (.int (smF (h.2.1 69) 8)) ∧ h' = h) := by
  refine con_of2 (L := [some (.ref 49), none, none]) rfl (Nat.le_of_ble_eq_true rfl) rfl ?_
  refine ev_iconst (pc := 0) (v := 0) dX11_seams_0 (by decide) ?_
  refine ev_istore_n (pc := 1) (L' := [some (.ref 49), some (.int 0), none]) dX11_seams_1 (Nat.le_of_ble_eq_true rfl) rfl ?_
  refine ev_iconst (pc := 2) (v := 0) dX11_seams_2 (by decide) ?_
  refine ev_istore_n (pc := 3) (L' := [some (.ref 49), some (.int 0), some (.int 0)]) dX11_seams_3 (Nat.le_of_ble_eq_true rfl) rfl ?_
  refine lp_seams_4 E h hw ?_ 8 0 (Nat.zero_add _)
  refine ev_iload_n (pc := 68) dX11_seams_68 rfl ?_
  refine ev_iret (pc := 69) dX11_seams_69 rfl ?_ ?_
  · rfl
  · exact ⟨rfl, rfl⟩
theorem cn_X11_figure (E : ME) (h : AH) (v i : Int32)  : Con E mX11_figure 0 0 0 [.int v, .int i] h (fun r h' => r = some (.int (fgI v i)) ∧ h' = h) := by
  refine con_of2 (L := [some (.int v), some (.int i)]) rfl (Nat.le_of_ble_eq_true rfl) rfl ?_
  refine ev_iload_n (pc := 0) dX11_figure_0 rfl ?_
  refine ev_bipush (pc := 1) (v := 6) dX11_figure_1 (by decide) ?_
  refine ev_iconst (pc := 3) (v := 2) dX11_figure_3 (by decide) ?_
  refine ev_iload_n (pc := 4) dX11_figure_4 rfl ?_
  refine ev_imul (pc := 5) dX11_figure_5 ?_
  refine ev_isub (pc := 6) dX11_figure_6 ?_
  refine ev_ishr (pc := 7) dX11_figure_7 ?_
  refine ev_iconst (pc := 8) (v := 3) dX11_figure_8 (by decide) ?_
  refine ev_iand (pc := 9) dX11_figure_9 ?_
  refine ev_iret (pc := 10) dX11_figure_10 rfl ?_ ?_
  · rfl
  · exact ⟨rfl, rfl⟩
theorem cn_X11_fg (E : ME) (h : AH) (v i : Nat) (hv : v < 256) (hi : i < 4) : Con E mX11_figure 0 0 0 [.int (nI v), .int (nI i)] h (fun r h' => r = some (.int (nI (fg v i))) ∧ h' = h) := by
  have k := cn_X11_figure E h (nI v) (nI i)
  rw [(fg_ok i hi v hv).1] at k
  exact k
theorem cn_X11_upperLeft (E : ME) (h : AH) (p : Nat) (hp : p < 4) : Con E mX11_upperLeft 0 0 0 [.int (nI p)] h (fun r h' => r = some (.int (nI (32 * (p / 2) + 4 * (p % 2)))) ∧ h' = h) := by
  refine con_of2 (L := [some (.int (nI p))]) rfl (Nat.le_of_ble_eq_true rfl) rfl ?_
  refine ev_bipush (pc := 0) (v := 32) dX11_upperLeft_0 (by decide) ?_
  refine ev_iload_n (pc := 2) dX11_upperLeft_2 rfl ?_
  refine ev_iconst (pc := 3) (v := 2) dX11_upperLeft_3 (by decide) ?_
  refine ev_idiv (pc := 4) dX11_upperLeft_4 (by decide) ?_
  refine ev_eqI (e' := nI (p / 2)) (pk_div (a := p) (d := 2) (by omega) (by omega) (by omega)) ?_
  refine ev_imul (pc := 5) dX11_upperLeft_5 ?_
  refine ev_eqI (e' := nI (32 * (p / 2))) (pk_mul 32 (p / 2)) ?_
  refine ev_iconst (pc := 6) (v := 4) dX11_upperLeft_6 (by decide) ?_
  refine ev_iload_n (pc := 7) dX11_upperLeft_7 rfl ?_
  refine ev_iconst (pc := 8) (v := 2) dX11_upperLeft_8 (by decide) ?_
  refine ev_irem (pc := 9) dX11_upperLeft_9 (by decide) ?_
  refine ev_eqI (e' := nI (p % 2)) (pk_rem (a := p) (d := 2) (by omega) (by omega) (by omega)) ?_
  refine ev_imul (pc := 10) dX11_upperLeft_10 ?_
  refine ev_eqI (e' := nI (4 * (p % 2))) (pk_mul 4 (p % 2)) ?_
  refine ev_iadd (pc := 11) dX11_upperLeft_11 ?_
  refine ev_eqI (e' := nI ((32 * (p / 2)) + (4 * (p % 2)))) (nI_add (32 * (p / 2)) (4 * (p % 2))) ?_
  refine ev_iret (pc := 12) dX11_upperLeft_12 rfl ?_ ?_
  · rfl
  · exact ⟨rfl, rfl⟩
theorem lp_areUnlike_4 (E : ME) (h : AH) (v : Nat) (hw : WF h) (hv : v < 256) {post : PO} (K : Ev E mX11_areUnlike (rmm 1 0 0) (QM E 0 0 post) 0 0 25 [some (.int (nI v)), some (.int (auF v 4)), some (.int (nI 4))] [] h) : ∀ n i : Nat, i + n = 4 → Ev E mX11_areUnlike (rmm 1 0 0) (QM E 0 0 post) 0 0 4 [some (.int (nI v)), some (.int (auF v i)), some (.int (nI i))] [] h := by
  intro n
  induction n with
  | zero =>
    intro i hi
    obtain rfl : 4 = i := by omega
    refine ev_iload_n (pc := 4) dX11_areUnlike_4 rfl ?_
    refine ev_iconst (pc := 5) (v := 4) dX11_areUnlike_5 (by decide) ?_
    refine ev_icmp_ge (pc := 6) (tgt := 25) dX11_areUnlike_6 (by decide) (fun zc6 => ?_) (fun zc6 => absurd (by decide) zc6)
    exact K
  | succ n ih =>
    intro i hi
    have hlt : i < 4 := by omega
    refine ev_iload_n (pc := 4) dX11_areUnlike_4 rfl ?_
    refine ev_iconst (pc := 5) (v := 4) dX11_areUnlike_5 (by decide) ?_
    refine ev_icmp_ge (pc := 6) (tgt := 25) dX11_areUnlike_6 (by decide) (fun zc6 => absurd zc6 (nI_ge hlt (by decide))) (fun zc6 => ?_)
    refine ev_iload_n (pc := 9) dX11_areUnlike_9 rfl ?_
    refine ev_iconst (pc := 10) (v := 1) dX11_areUnlike_10 (by decide) ?_
    refine ev_iload_n (pc := 11) dX11_areUnlike_11 rfl ?_
    refine ev_iload_n (pc := 12) dX11_areUnlike_12 rfl ?_
    refine ev_callSv (S := [.int 1, .int (auF v i)]) (pc := 13) dX11_areUnlike_13 kX11_figure lX11_321 sX11_figure (cn_X11_fg E h v i (by omega) (by omega)) rfl rfl (Nat.le_of_ble_eq_true rfl) ⟨Nat.le_of_ble_eq_true rfl, Nat.le_of_ble_eq_true rfl⟩ ⟨Nat.le_of_ble_eq_true rfl, Nat.le_of_ble_eq_true rfl⟩ ?_
    refine ev_ishl (pc := 16) dX11_areUnlike_16 ?_
    refine ev_ior (pc := 17) dX11_areUnlike_17 ?_
    refine ev_istore_n (pc := 18) (L' := [some (.int (nI v)), some (.int ((auF v i) ||| (1 <<< ((nI (fg v i)) &&& 31)))), some (.int (nI i))]) dX11_areUnlike_18 (Nat.le_of_ble_eq_true rfl) rfl ?_
    refine ev_iinc (pc := 19) (v := nI (i + 1)) (L' := [some (.int (nI v)), some (.int ((auF v i) ||| (1 <<< ((nI (fg v i)) &&& 31)))), some (.int (nI (i + 1)))]) dX11_areUnlike_19 rfl (nI_1 _) (Nat.le_of_ble_eq_true rfl) rfl ?_
    refine ev_goto (pc := 22) (tgt := 4) dX11_areUnlike_22 (by decide) ?_
    exact ih (i + 1) (by omega)
theorem cn_X11_areUnlike (E : ME) (h : AH) (v : Nat) (hw : WF h) (hv : v < 256) : Con E mX11_areUnlike 1 0 0 [.int (nI v)] h (fun r h' => r = some (.int (bI (unl v))) ∧ h' = h) := by
  refine con_of2 (L := [some (.int (nI v)), none, none]) rfl (Nat.le_of_ble_eq_true rfl) rfl ?_
  refine ev_iconst (pc := 0) (v := 0) dX11_areUnlike_0 (by decide) ?_
  refine ev_istore_n (pc := 1) (L' := [some (.int (nI v)), some (.int 0), none]) dX11_areUnlike_1 (Nat.le_of_ble_eq_true rfl) rfl ?_
  refine ev_iconst (pc := 2) (v := 0) dX11_areUnlike_2 (by decide) ?_
  refine ev_istore_n (pc := 3) (L' := [some (.int (nI v)), some (.int 0), some (.int 0)]) dX11_areUnlike_3 (Nat.le_of_ble_eq_true rfl) rfl ?_
  refine lp_areUnlike_4 E h v hw hv ?_ 4 0 (Nat.zero_add _)
  refine ev_iload_n (pc := 25) dX11_areUnlike_25 rfl ?_
  refine ev_bipush (pc := 26) (v := 15) dX11_areUnlike_26 (by decide) ?_
  refine ev_icmp_ne (pc := 28) (tgt := 35) dX11_areUnlike_28 (by decide) (fun zc28 => ?_) (fun zc28 => ?_)
  · -- ne at 28: taken
    refine ev_iconst (pc := 35) (v := 0) dX11_areUnlike_35 (by decide) ?_
    refine ev_iret (pc := 36) dX11_areUnlike_36 rfl ?_ ?_
    · first | rfl | exact nar_bI _ | (simp only [*]; exact nar_bI _) | (simp [narrow, *]; done)
    · refine ⟨?_, rfl⟩
      first | rw [bI_f zc28] | rw [bI_t zc28]
  · -- ne at 28: not taken
    refine ev_iconst (pc := 31) (v := 1) dX11_areUnlike_31 (by decide) ?_
    refine ev_goto (pc := 32) (tgt := 36) dX11_areUnlike_32 (by decide) ?_
    refine ev_iret (pc := 36) dX11_areUnlike_36 rfl ?_ ?_
    · first | rfl | exact nar_bI _ | (simp only [*]; exact nar_bI _) | (simp [narrow, *]; done)
    · refine ⟨?_, rfl⟩
      first | rw [bI_f zc28] | rw [bI_t zc28]
def paN (pl tu i k : Nat) : Nat := 32 * (fg pl i / 2) + 4 * (fg pl i % 2) + 8 * (srN 4 (fg tu i) k / 4) + srN 4 (fg tu i) k % 4
theorem paN_lt {pl tu i k : Nat} (hp : pl < 256) (ht : tu < 256) (hi : i < 4) (hk : k < 16) : paN pl tu i k < 64 := by
  have h1 := (fg_ok i hi pl hp).2
  have h2 := (fg_ok i hi tu ht).2
  have h3 := (sr4 (fg tu i) (by omega) k hk).2
  unfold paN
  omega
theorem cn_X11_panelAt (E : ME) (h : AH) (pl tu i k : Nat) (hw : WF h) (hp : pl < 256) (ht : tu < 256) (hi : i < 4) (hk : k < 16) : Con E mX11_panelAt 1 0 0 [.ref 49, .int (nI pl), .int (nI tu), .int (nI i), .int (nI k)] h (fun r h' => r = some (.int (h.2.1 69 (paN pl tu i k))) ∧ h' = h) := by
  refine con_of2 (L := [some (.ref 49), some (.int (nI pl)), some (.int (nI tu)), some (.int (nI i)), some (.int (nI k)), none]) rfl (Nat.le_of_ble_eq_true rfl) rfl ?_
  refine ev_iload (pc := 0) dX11_panelAt_0 rfl ?_
  refine ev_iconst (pc := 2) (v := 4) dX11_panelAt_2 (by decide) ?_
  refine ev_iload_n (pc := 3) dX11_panelAt_3 rfl ?_
  refine ev_iload_n (pc := 4) dX11_panelAt_4 rfl ?_
  refine ev_callSv (S := [.int 4, .int (nI k)]) (pc := 5) dX11_panelAt_5 kX11_figure lX11_321 sX11_figure (cn_X11_fg E h tu i (by omega) (by omega)) rfl rfl (Nat.le_of_ble_eq_true rfl) ⟨Nat.le_of_ble_eq_true rfl, Nat.le_of_ble_eq_true rfl⟩ ⟨Nat.le_of_ble_eq_true rfl, Nat.le_of_ble_eq_true rfl⟩ ?_
  refine ev_callSv (S := []) (pc := 8) dX11_panelAt_8 kX11_sourceOf lX11_268 sX11_sourceOf (cn_X11_src4 E h k (fg tu i) hw (by have z1 := (fg_ok i hi pl hp).2; have z2 := (fg_ok i hi tu ht).2; have z3 := (sr4 (fg tu i) (by omega) k hk).2; omega) (by have z1 := (fg_ok i hi pl hp).2; have z2 := (fg_ok i hi tu ht).2; have z3 := (sr4 (fg tu i) (by omega) k hk).2; omega)) rfl rfl (Nat.le_of_ble_eq_true rfl) ⟨Nat.le_of_ble_eq_true rfl, Nat.le_of_ble_eq_true rfl⟩ ⟨Nat.le_of_ble_eq_true rfl, Nat.le_of_ble_eq_true rfl⟩ ?_
  refine ev_istore (pc := 11) (L' := [some (.ref 49), some (.int (nI pl)), some (.int (nI tu)), some (.int (nI i)), some (.int (nI k)), some (.int (nI (srN 4 (fg tu i) k)))]) dX11_panelAt_11 (Nat.le_of_ble_eq_true rfl) rfl ?_
  refine ev_aload_n (pc := 13) dX11_panelAt_13 rfl ?_
  refine ev_getR (pc := 14) (q := 69) dX11_panelAt_14 fX11_72 rfl (wlt hw (by decide)) (wr hw rfl) ?_
  refine ev_iload_n (pc := 17) dX11_panelAt_17 rfl ?_
  refine ev_iload_n (pc := 18) dX11_panelAt_18 rfl ?_
  refine ev_callSv (S := [.ref 69]) (pc := 19) dX11_panelAt_19 kX11_figure lX11_321 sX11_figure (cn_X11_fg E h pl i (by omega) (by omega)) rfl rfl (Nat.le_of_ble_eq_true rfl) ⟨Nat.le_of_ble_eq_true rfl, Nat.le_of_ble_eq_true rfl⟩ ⟨Nat.le_of_ble_eq_true rfl, Nat.le_of_ble_eq_true rfl⟩ ?_
  refine ev_callSv (S := [.ref 69]) (pc := 22) dX11_panelAt_22 kX11_upperLeft lX11_329 sX11_upperLeft (cn_X11_upperLeft E h (fg pl i) (by have z1 := (fg_ok i hi pl hp).2; have z2 := (fg_ok i hi tu ht).2; have z3 := (sr4 (fg tu i) (by omega) k hk).2; omega)) rfl rfl (Nat.le_of_ble_eq_true rfl) ⟨Nat.le_of_ble_eq_true rfl, Nat.le_of_ble_eq_true rfl⟩ ⟨Nat.le_of_ble_eq_true rfl, Nat.le_of_ble_eq_true rfl⟩ ?_
  refine ev_bipush (pc := 25) (v := 8) dX11_panelAt_25 (by decide) ?_
  refine ev_iload (pc := 27) dX11_panelAt_27 rfl ?_
  refine ev_iconst (pc := 29) (v := 4) dX11_panelAt_29 (by decide) ?_
  refine ev_idiv (pc := 30) dX11_panelAt_30 (by decide) ?_
  refine ev_eqI (e' := nI ((srN 4 (fg tu i) k) / 4)) (pk_div (a := srN 4 (fg tu i) k) (d := 4) (by have z1 := (fg_ok i hi pl hp).2; have z2 := (fg_ok i hi tu ht).2; have z3 := (sr4 (fg tu i) (by omega) k hk).2; omega) (by have z1 := (fg_ok i hi pl hp).2; have z2 := (fg_ok i hi tu ht).2; have z3 := (sr4 (fg tu i) (by omega) k hk).2; omega) (by have z1 := (fg_ok i hi pl hp).2; have z2 := (fg_ok i hi tu ht).2; have z3 := (sr4 (fg tu i) (by omega) k hk).2; omega)) ?_
  refine ev_imul (pc := 31) dX11_panelAt_31 ?_
  refine ev_eqI (e' := nI (8 * ((srN 4 (fg tu i) k) / 4))) (pk_mul 8 ((srN 4 (fg tu i) k) / 4)) ?_
  refine ev_iadd (pc := 32) dX11_panelAt_32 ?_
  refine ev_eqI (e' := nI ((32 * ((fg pl i) / 2) + 4 * ((fg pl i) % 2)) + (8 * ((srN 4 (fg tu i) k) / 4)))) (nI_add (32 * ((fg pl i) / 2) + 4 * ((fg pl i) % 2)) (8 * ((srN 4 (fg tu i) k) / 4))) ?_
  refine ev_iload (pc := 33) dX11_panelAt_33 rfl ?_
  refine ev_iconst (pc := 35) (v := 4) dX11_panelAt_35 (by decide) ?_
  refine ev_irem (pc := 36) dX11_panelAt_36 (by decide) ?_
  refine ev_eqI (e' := nI ((srN 4 (fg tu i) k) % 4)) (pk_rem (a := srN 4 (fg tu i) k) (d := 4) (by have z1 := (fg_ok i hi pl hp).2; have z2 := (fg_ok i hi tu ht).2; have z3 := (sr4 (fg tu i) (by omega) k hk).2; omega) (by have z1 := (fg_ok i hi pl hp).2; have z2 := (fg_ok i hi tu ht).2; have z3 := (sr4 (fg tu i) (by omega) k hk).2; omega) (by have z1 := (fg_ok i hi pl hp).2; have z2 := (fg_ok i hi tu ht).2; have z3 := (sr4 (fg tu i) (by omega) k hk).2; omega)) ?_
  refine ev_iadd (pc := 37) dX11_panelAt_37 ?_
  refine ev_eqI (e' := nI (((32 * ((fg pl i) / 2) + 4 * ((fg pl i) % 2)) + (8 * ((srN 4 (fg tu i) k) / 4))) + ((srN 4 (fg tu i) k) % 4))) (nI_add ((32 * ((fg pl i) / 2) + 4 * ((fg pl i) % 2)) + (8 * ((srN 4 (fg tu i) k) / 4))) ((srN 4 (fg tu i) k) % 4)) ?_
  refine ev_iald (pc := 38) dX11_panelAt_38 rfl (wlt hw (by decide)) (vp_in_nI (by have z1 := (fg_ok i hi pl hp).2; have z2 := (fg_ok i hi tu ht).2; have z3 := (sr4 (fg tu i) (by omega) k hk).2; omega) (by decide)) ?_
  refine ev_eqI (e' := h.2.1 69 (((32 * ((fg pl i) / 2) + 4 * ((fg pl i) % 2)) + (8 * ((srN 4 (fg tu i) k) / 4))) + ((srN 4 (fg tu i) k) % 4))) (by rw [show Int32.toNatClampNeg (nI (((32 * ((fg pl i) / 2) + 4 * ((fg pl i) % 2)) + (8 * ((srN 4 (fg tu i) k) / 4))) + ((srN 4 (fg tu i) k) % 4))) = ((32 * ((fg pl i) / 2) + 4 * ((fg pl i) % 2)) + (8 * ((srN 4 (fg tu i) k) / 4))) + ((srN 4 (fg tu i) k) % 4) from nI_clamp (by have z1 := (fg_ok i hi pl hp).2; have z2 := (fg_ok i hi tu ht).2; have z3 := (sr4 (fg tu i) (by omega) k hk).2; omega)] <;> rfl) ?_
  refine ev_iret (pc := 39) dX11_panelAt_39 rfl ?_ ?_
  · rfl
  · exact ⟨rfl, rfl⟩
def soH (f : Nat → Int32) (pl tu k : Nat) (a : Int32) : Nat → Int32
  | 0 => a
  | i + 1 => soH f pl tu k a i + seI (f (paN pl tu (2 * i) (4 * k + 3))) (f (paN pl tu (2 * i + 1) (4 * k))) + seI (f (paN pl tu i (12 + k))) (f (paN pl tu (2 + i) k))
def soK (f : Nat → Int32) (pl tu : Nat) : Nat → Int32
  | 0 => 0
  | k + 1 => soH f pl tu k (soK f pl tu k) 2
theorem lp_seamsOf_14 (E : ME) (h : AH) (pl tu k : Nat) (a : Int32) (hw : WF h) (hp : pl < 256) (ht : tu < 256) (hk : k < 4) {post : PO} (K : Ev E mX11_seamsOf (rmm 2 0 0) (QM E 0 0 post) 0 0 95 [some (.ref 49), some (.int (nI pl)), some (.int (nI tu)), some (.int (soH (h.2.1 69) pl tu k a 2)), some (.int (nI k)), some (.int (nI 2))] [] h) : ∀ n i : Nat, i + n = 2 → Ev E mX11_seamsOf (rmm 2 0 0) (QM E 0 0 post) 0 0 14 [some (.ref 49), some (.int (nI pl)), some (.int (nI tu)), some (.int (soH (h.2.1 69) pl tu k a i)), some (.int (nI k)), some (.int (nI i))] [] h := by
  intro n
  induction n with
  | zero =>
    intro i hi
    obtain rfl : 2 = i := by omega
    refine ev_iload (pc := 14) dX11_seamsOf_14 rfl ?_
    refine ev_iconst (pc := 16) (v := 2) dX11_seamsOf_16 (by decide) ?_
    refine ev_icmp_ge (pc := 17) (tgt := 95) dX11_seamsOf_17 (by decide) (fun zc17 => ?_) (fun zc17 => absurd (by decide) zc17)
    exact K
  | succ n ih =>
    intro i hi
    have hlt : i < 2 := by omega
    refine ev_iload (pc := 14) dX11_seamsOf_14 rfl ?_
    refine ev_iconst (pc := 16) (v := 2) dX11_seamsOf_16 (by decide) ?_
    refine ev_icmp_ge (pc := 17) (tgt := 95) dX11_seamsOf_17 (by decide) (fun zc17 => absurd zc17 (nI_ge hlt (by decide))) (fun zc17 => ?_)
    refine ev_iload_n (pc := 20) dX11_seamsOf_20 rfl ?_
    refine ev_aload_n (pc := 21) dX11_seamsOf_21 rfl ?_
    refine ev_iload_n (pc := 22) dX11_seamsOf_22 rfl ?_
    refine ev_iload_n (pc := 23) dX11_seamsOf_23 rfl ?_
    refine ev_iconst (pc := 24) (v := 2) dX11_seamsOf_24 (by decide) ?_
    refine ev_iload (pc := 25) dX11_seamsOf_25 rfl ?_
    refine ev_imul (pc := 27) dX11_seamsOf_27 ?_
    refine ev_eqI (e' := nI (2 * i)) (pk_mul 2 i) ?_
    refine ev_iconst (pc := 28) (v := 4) dX11_seamsOf_28 (by decide) ?_
    refine ev_iload (pc := 29) dX11_seamsOf_29 rfl ?_
    refine ev_imul (pc := 31) dX11_seamsOf_31 ?_
    refine ev_eqI (e' := nI (4 * k)) (pk_mul 4 k) ?_
    refine ev_iconst (pc := 32) (v := 3) dX11_seamsOf_32 (by decide) ?_
    refine ev_iadd (pc := 33) dX11_seamsOf_33 ?_
    refine ev_eqI (e' := nI ((4 * k) + 3)) (nI_add (4 * k) 3) ?_
    refine ev_callVv (S := [.int (soH (h.2.1 69) pl tu k a i)]) (pc := 34) dX11_seamsOf_34 kX11_panelAt lX11_335 vX11_panelAt (cn_X11_panelAt E h pl tu (2 * i) ((4 * k) + 3) hw (by omega) (by omega) (by omega) (by omega)) rfl rfl (wlt hw (by decide)) rfl rfl (Nat.le_of_ble_eq_true rfl) ⟨Nat.le_of_ble_eq_true rfl, Nat.le_of_ble_eq_true rfl⟩ ⟨Nat.le_of_ble_eq_true rfl, Nat.le_of_ble_eq_true rfl⟩ ?_
    refine ev_aload_n (pc := 37) dX11_seamsOf_37 rfl ?_
    refine ev_iload_n (pc := 38) dX11_seamsOf_38 rfl ?_
    refine ev_iload_n (pc := 39) dX11_seamsOf_39 rfl ?_
    refine ev_iconst (pc := 40) (v := 2) dX11_seamsOf_40 (by decide) ?_
    refine ev_iload (pc := 41) dX11_seamsOf_41 rfl ?_
    refine ev_imul (pc := 43) dX11_seamsOf_43 ?_
    refine ev_eqI (e' := nI (2 * i)) (pk_mul 2 i) ?_
    refine ev_iconst (pc := 44) (v := 1) dX11_seamsOf_44 (by decide) ?_
    refine ev_iadd (pc := 45) dX11_seamsOf_45 ?_
    refine ev_eqI (e' := nI ((2 * i) + 1)) (nI_add (2 * i) 1) ?_
    refine ev_iconst (pc := 46) (v := 4) dX11_seamsOf_46 (by decide) ?_
    refine ev_iload (pc := 47) dX11_seamsOf_47 rfl ?_
    refine ev_imul (pc := 49) dX11_seamsOf_49 ?_
    refine ev_eqI (e' := nI (4 * k)) (pk_mul 4 k) ?_
    refine ev_callVv (S := [.int (h.2.1 69 (paN pl tu (2 * i) ((4 * k) + 3))), .int (soH (h.2.1 69) pl tu k a i)]) (pc := 50) dX11_seamsOf_50 kX11_panelAt lX11_335 vX11_panelAt (cn_X11_panelAt E h pl tu ((2 * i) + 1) (4 * k) hw (by omega) (by omega) (by omega) (by omega)) rfl rfl (wlt hw (by decide)) rfl rfl (Nat.le_of_ble_eq_true rfl) ⟨Nat.le_of_ble_eq_true rfl, Nat.le_of_ble_eq_true rfl⟩ ⟨Nat.le_of_ble_eq_true rfl, Nat.le_of_ble_eq_true rfl⟩ ?_
    refine ev_callSv (S := [.int (soH (h.2.1 69) pl tu k a i)]) (pc := 53) dX11_seamsOf_53 kX11_seamOf lX11_332 sX11_seamOf (cn_X11_seamOf E h (h.2.1 69 (paN pl tu (2 * i) ((4 * k) + 3))) (h.2.1 69 (paN pl tu ((2 * i) + 1) (4 * k)))) rfl rfl (Nat.le_of_ble_eq_true rfl) ⟨Nat.le_of_ble_eq_true rfl, Nat.le_of_ble_eq_true rfl⟩ ⟨Nat.le_of_ble_eq_true rfl, Nat.le_of_ble_eq_true rfl⟩ ?_
    refine ev_iadd (pc := 56) dX11_seamsOf_56 ?_
    refine ev_istore_n (pc := 57) (L' := [some (.ref 49), some (.int (nI pl)), some (.int (nI tu)), some (.int ((soH (h.2.1 69) pl tu k a i) + (seI (h.2.1 69 (paN pl tu (2 * i) ((4 * k) + 3))) (h.2.1 69 (paN pl tu ((2 * i) + 1) (4 * k)))))), some (.int (nI k)), some (.int (nI i))]) dX11_seamsOf_57 (Nat.le_of_ble_eq_true rfl) rfl ?_
    refine ev_iload_n (pc := 58) dX11_seamsOf_58 rfl ?_
    refine ev_aload_n (pc := 59) dX11_seamsOf_59 rfl ?_
    refine ev_iload_n (pc := 60) dX11_seamsOf_60 rfl ?_
    refine ev_iload_n (pc := 61) dX11_seamsOf_61 rfl ?_
    refine ev_iload (pc := 62) dX11_seamsOf_62 rfl ?_
    refine ev_bipush (pc := 64) (v := 12) dX11_seamsOf_64 (by decide) ?_
    refine ev_iload (pc := 66) dX11_seamsOf_66 rfl ?_
    refine ev_iadd (pc := 68) dX11_seamsOf_68 ?_
    refine ev_eqI (e' := nI (12 + k)) (nI_add 12 k) ?_
    refine ev_callVv (S := [.int ((soH (h.2.1 69) pl tu k a i) + (seI (h.2.1 69 (paN pl tu (2 * i) ((4 * k) + 3))) (h.2.1 69 (paN pl tu ((2 * i) + 1) (4 * k)))))]) (pc := 69) dX11_seamsOf_69 kX11_panelAt lX11_335 vX11_panelAt (cn_X11_panelAt E h pl tu i (12 + k) hw (by omega) (by omega) (by omega) (by omega)) rfl rfl (wlt hw (by decide)) rfl rfl (Nat.le_of_ble_eq_true rfl) ⟨Nat.le_of_ble_eq_true rfl, Nat.le_of_ble_eq_true rfl⟩ ⟨Nat.le_of_ble_eq_true rfl, Nat.le_of_ble_eq_true rfl⟩ ?_
    refine ev_aload_n (pc := 72) dX11_seamsOf_72 rfl ?_
    refine ev_iload_n (pc := 73) dX11_seamsOf_73 rfl ?_
    refine ev_iload_n (pc := 74) dX11_seamsOf_74 rfl ?_
    refine ev_iconst (pc := 75) (v := 2) dX11_seamsOf_75 (by decide) ?_
    refine ev_iload (pc := 76) dX11_seamsOf_76 rfl ?_
    refine ev_iadd (pc := 78) dX11_seamsOf_78 ?_
    refine ev_eqI (e' := nI (2 + i)) (nI_add 2 i) ?_
    refine ev_iload (pc := 79) dX11_seamsOf_79 rfl ?_
    refine ev_callVv (S := [.int (h.2.1 69 (paN pl tu i (12 + k))), .int ((soH (h.2.1 69) pl tu k a i) + (seI (h.2.1 69 (paN pl tu (2 * i) ((4 * k) + 3))) (h.2.1 69 (paN pl tu ((2 * i) + 1) (4 * k)))))]) (pc := 81) dX11_seamsOf_81 kX11_panelAt lX11_335 vX11_panelAt (cn_X11_panelAt E h pl tu (2 + i) k hw (by omega) (by omega) (by omega) (by omega)) rfl rfl (wlt hw (by decide)) rfl rfl (Nat.le_of_ble_eq_true rfl) ⟨Nat.le_of_ble_eq_true rfl, Nat.le_of_ble_eq_true rfl⟩ ⟨Nat.le_of_ble_eq_true rfl, Nat.le_of_ble_eq_true rfl⟩ ?_
    refine ev_callSv (S := [.int ((soH (h.2.1 69) pl tu k a i) + (seI (h.2.1 69 (paN pl tu (2 * i) ((4 * k) + 3))) (h.2.1 69 (paN pl tu ((2 * i) + 1) (4 * k)))))]) (pc := 84) dX11_seamsOf_84 kX11_seamOf lX11_332 sX11_seamOf (cn_X11_seamOf E h (h.2.1 69 (paN pl tu i (12 + k))) (h.2.1 69 (paN pl tu (2 + i) k))) rfl rfl (Nat.le_of_ble_eq_true rfl) ⟨Nat.le_of_ble_eq_true rfl, Nat.le_of_ble_eq_true rfl⟩ ⟨Nat.le_of_ble_eq_true rfl, Nat.le_of_ble_eq_true rfl⟩ ?_
    refine ev_iadd (pc := 87) dX11_seamsOf_87 ?_
    refine ev_istore_n (pc := 88) (L' := [some (.ref 49), some (.int (nI pl)), some (.int (nI tu)), some (.int (((soH (h.2.1 69) pl tu k a i) + (seI (h.2.1 69 (paN pl tu (2 * i) ((4 * k) + 3))) (h.2.1 69 (paN pl tu ((2 * i) + 1) (4 * k))))) + (seI (h.2.1 69 (paN pl tu i (12 + k))) (h.2.1 69 (paN pl tu (2 + i) k))))), some (.int (nI k)), some (.int (nI i))]) dX11_seamsOf_88 (Nat.le_of_ble_eq_true rfl) rfl ?_
    refine ev_iinc (pc := 89) (v := nI (i + 1)) (L' := [some (.ref 49), some (.int (nI pl)), some (.int (nI tu)), some (.int (((soH (h.2.1 69) pl tu k a i) + (seI (h.2.1 69 (paN pl tu (2 * i) ((4 * k) + 3))) (h.2.1 69 (paN pl tu ((2 * i) + 1) (4 * k))))) + (seI (h.2.1 69 (paN pl tu i (12 + k))) (h.2.1 69 (paN pl tu (2 + i) k))))), some (.int (nI k)), some (.int (nI (i + 1)))]) dX11_seamsOf_89 rfl (nI_1 _) (Nat.le_of_ble_eq_true rfl) rfl ?_
    refine ev_goto (pc := 92) (tgt := 14) dX11_seamsOf_92 (by decide) ?_
    exact ih (i + 1) (by omega)
theorem lp_seamsOf_5 (E : ME) (h : AH) (pl tu : Nat) (hw : WF h) (hp : pl < 256) (ht : tu < 256) {post : PO} (K : Ev E mX11_seamsOf (rmm 2 0 0) (QM E 0 0 post) 0 0 101 [some (.ref 49), some (.int (nI pl)), some (.int (nI tu)), some (.int (soK (h.2.1 69) pl tu 4)), some (.int (nI 4)), none] [] h) : ∀ n i : Nat, i + n = 4 → Ev E mX11_seamsOf (rmm 2 0 0) (QM E 0 0 post) 0 0 5 [some (.ref 49), some (.int (nI pl)), some (.int (nI tu)), some (.int (soK (h.2.1 69) pl tu i)), some (.int (nI i)), none] [] h := by
  intro n
  induction n with
  | zero =>
    intro i hi
    obtain rfl : 4 = i := by omega
    refine ev_iload (pc := 5) dX11_seamsOf_5 rfl ?_
    refine ev_iconst (pc := 7) (v := 4) dX11_seamsOf_7 (by decide) ?_
    refine ev_icmp_ge (pc := 8) (tgt := 101) dX11_seamsOf_8 (by decide) (fun zc8 => ?_) (fun zc8 => absurd (by decide) zc8)
    exact K
  | succ n ih =>
    intro i hi
    have hlt : i < 4 := by omega
    refine ev_iload (pc := 5) dX11_seamsOf_5 rfl ?_
    refine ev_iconst (pc := 7) (v := 4) dX11_seamsOf_7 (by decide) ?_
    refine ev_icmp_ge (pc := 8) (tgt := 101) dX11_seamsOf_8 (by decide) (fun zc8 => absurd zc8 (nI_ge hlt (by decide))) (fun zc8 => ?_)
    refine ev_iconst (pc := 11) (v := 0) dX11_seamsOf_11 (by decide) ?_
    refine ev_istore (pc := 12) (L' := [some (.ref 49), some (.int (nI pl)), some (.int (nI tu)), some (.int (soK (h.2.1 69) pl tu i)), some (.int (nI i)), some (.int 0)]) dX11_seamsOf_12 (Nat.le_of_ble_eq_true rfl) rfl ?_
    refine lp_seamsOf_14 E h pl tu i (soK (h.2.1 69) pl tu i) hw hp ht hlt ?_ 2 0 (Nat.zero_add _)
    refine ev_iinc (pc := 95) (v := nI (i + 1)) (L' := [some (.ref 49), some (.int (nI pl)), some (.int (nI tu)), some (.int (soH (h.2.1 69) pl tu i (soK (h.2.1 69) pl tu i) 2)), some (.int (nI (i + 1))), some (.int (nI 2))]) dX11_seamsOf_95 rfl (nI_1 _) (Nat.le_of_ble_eq_true rfl) rfl ?_
    refine ev_goto (pc := 98) (tgt := 5) dX11_seamsOf_98 (by decide) ?_
    refine ev_less (L' := [some (.ref 49), some (.int (nI pl)), some (.int (nI tu)), some (.int (soH (h.2.1 69) pl tu i (soK (h.2.1 69) pl tu i) 2)), some (.int (nI (i + 1))), none]) (ls_keep (ls_keep (ls_keep (ls_keep (ls_keep (ls_drop (ls_nil _))))))) ?_
    exact ih (i + 1) (by omega)
theorem cn_X11_seamsOf (E : ME) (h : AH) (pl tu : Nat) (hw : WF h) (hp : pl < 256) (ht : tu < 256) : Con E mX11_seamsOf 2 0 0 [.ref 49, .int (nI pl), .int (nI tu)] h (fun r h' => r = some (.int (soK (h.2.1 69) pl tu 4)) ∧ h' = h) := by
  refine con_of2 (L := [some (.ref 49), some (.int (nI pl)), some (.int (nI tu)), none, none, none]) rfl (Nat.le_of_ble_eq_true rfl) rfl ?_
  refine ev_iconst (pc := 0) (v := 0) dX11_seamsOf_0 (by decide) ?_
  refine ev_istore_n (pc := 1) (L' := [some (.ref 49), some (.int (nI pl)), some (.int (nI tu)), some (.int 0), none, none]) dX11_seamsOf_1 (Nat.le_of_ble_eq_true rfl) rfl ?_
  refine ev_iconst (pc := 2) (v := 0) dX11_seamsOf_2 (by decide) ?_
  refine ev_istore (pc := 3) (L' := [some (.ref 49), some (.int (nI pl)), some (.int (nI tu)), some (.int 0), some (.int 0), none]) dX11_seamsOf_3 (Nat.le_of_ble_eq_true rfl) rfl ?_
  refine lp_seamsOf_5 E h pl tu hw hp ht ?_ 4 0 (Nat.zero_add _)
  refine ev_iload_n (pc := 101) dX11_seamsOf_101 rfl ?_
  refine ev_iret (pc := 102) dX11_seamsOf_102 rfl ?_ ?_
  · rfl
  · exact ⟨rfl, rfl⟩
/-- best, most, how many: over the turns, over the places -/
def tgT (g : Nat → Int32) (pl : Nat) (s : Int32 × Int32 × Int32) : Nat → Int32 × Int32 × Int32
  | 0 => s
  | t + 1 => (if (tgT g pl s t).2.1 < g t then nI (256 * pl + t) else (tgT g pl s t).1, if (tgT g pl s t).2.1 < g t then g t else (tgT g pl s t).2.1, if (tgT g pl s t).2.1 < g t then 1 else if g t = (tgT g pl s t).2.1 then (tgT g pl s t).2.2 + 1 else (tgT g pl s t).2.2)
def tgP (g : Nat → Nat → Int32) : Nat → Int32 × Int32 × Int32
  | 0 => (0, -1, 0)
  | p + 1 => if unl p then tgT (g p) p (tgP g p) 256 else tgP g p
theorem lp_together_35 (E : ME) (h : AH) (pl : Nat) (what : Int32) (s : Int32 × Int32 × Int32) (hw : WF h) (hp : pl < 256) (hu : unl pl) {post : PO} (K : Ev E mX11_together (rmm 3 0 0) (QM E 0 0 post) 0 0 127 [some (.ref 49), some (.int what), some (.int ((tgT (fun zt => soK (h.2.1 69) pl zt 4) pl s 256).1)), some (.int ((tgT (fun zt => soK (h.2.1 69) pl zt 4) pl s 256).2.1)), some (.int ((tgT (fun zt => soK (h.2.1 69) pl zt 4) pl s 256).2.2)), some (.int (nI pl)), some (.int (nI 256)), none] [] h) : ∀ n i : Nat, i + n = 256 → Ev E mX11_together (rmm 3 0 0) (QM E 0 0 post) 0 0 35 [some (.ref 49), some (.int what), some (.int ((tgT (fun zt => soK (h.2.1 69) pl zt 4) pl s i).1)), some (.int ((tgT (fun zt => soK (h.2.1 69) pl zt 4) pl s i).2.1)), some (.int ((tgT (fun zt => soK (h.2.1 69) pl zt 4) pl s i).2.2)), some (.int (nI pl)), some (.int (nI i)), none] [] h := by
  intro n
  induction n with
  | zero =>
    intro i hi
    obtain rfl : 256 = i := by omega
    refine ev_iload (pc := 35) dX11_together_35 rfl ?_
    refine ev_sipush (pc := 37) (v := 256) dX11_together_37 (by decide) ?_
    refine ev_icmp_ge (pc := 40) (tgt := 127) dX11_together_40 (by decide) (fun zc40 => ?_) (fun zc40 => absurd (by decide) zc40)
    exact K
  | succ n ih =>
    intro i hi
    have hlt : i < 256 := by omega
    refine ev_iload (pc := 35) dX11_together_35 rfl ?_
    refine ev_sipush (pc := 37) (v := 256) dX11_together_37 (by decide) ?_
    refine ev_icmp_ge (pc := 40) (tgt := 127) dX11_together_40 (by decide) (fun zc40 => absurd zc40 (nI_ge hlt (by decide))) (fun zc40 => ?_)
    refine ev_iload (pc := 43) dX11_together_43 rfl ?_
    refine ev_callSv (S := []) (pc := 45) dX11_together_45 kX11_areUnlike lX11_326 sX11_areUnlike (cn_X11_areUnlike E h pl hw (by omega)) rfl rfl (Nat.le_of_ble_eq_true rfl) ⟨Nat.le_of_ble_eq_true rfl, Nat.le_of_ble_eq_true rfl⟩ ⟨Nat.le_of_ble_eq_true rfl, Nat.le_of_ble_eq_true rfl⟩ ?_
    refine ev_if_eq (pc := 48) (tgt := 127) dX11_together_48 (by decide) (fun zc48 => absurd zc48 (by rw [bI_t hu]; decide)) (fun zc48 => ?_)
    refine ev_aload_n (pc := 51) dX11_together_51 rfl ?_
    refine ev_iload (pc := 52) dX11_together_52 rfl ?_
    refine ev_iload (pc := 54) dX11_together_54 rfl ?_
    refine ev_callVv (S := []) (pc := 56) dX11_together_56 kX11_seamsOf lX11_338 vX11_seamsOf (cn_X11_seamsOf E h pl i hw (by omega) (by omega)) rfl rfl (wlt hw (by decide)) rfl rfl (Nat.le_of_ble_eq_true rfl) ⟨Nat.le_of_ble_eq_true rfl, Nat.le_of_ble_eq_true rfl⟩ ⟨Nat.le_of_ble_eq_true rfl, Nat.le_of_ble_eq_true rfl⟩ ?_
    refine ev_nmI (fun zr56 ezr56 => ?_)
    refine ev_istore (pc := 59) (L' := [some (.ref 49), some (.int what), some (.int ((tgT (fun zt => soK (h.2.1 69) pl zt 4) pl s i).1)), some (.int ((tgT (fun zt => soK (h.2.1 69) pl zt 4) pl s i).2.1)), some (.int ((tgT (fun zt => soK (h.2.1 69) pl zt 4) pl s i).2.2)), some (.int (nI pl)), some (.int (nI i)), some (.int zr56)]) dX11_together_59 (Nat.le_of_ble_eq_true rfl) rfl ?_
    refine ev_iload (pc := 61) dX11_together_61 rfl ?_
    refine ev_iload_n (pc := 63) dX11_together_63 rfl ?_
    refine ev_icmp_le (pc := 64) (tgt := 79) dX11_together_64 (by decide) (fun zc64 => ?_) (fun zc64 => ?_)
    · -- le at 64: taken
      refine ev_iload_n (pc := 79) dX11_together_79 rfl ?_
      refine ev_istore_n (pc := 80) (L' := [some (.ref 49), some (.int what), some (.int ((tgT (fun zt => soK (h.2.1 69) pl zt 4) pl s i).1)), some (.int ((tgT (fun zt => soK (h.2.1 69) pl zt 4) pl s i).2.1)), some (.int ((tgT (fun zt => soK (h.2.1 69) pl zt 4) pl s i).2.2)), some (.int (nI pl)), some (.int (nI i)), some (.int zr56)]) dX11_together_80 (Nat.le_of_ble_eq_true rfl) rfl ?_
      refine ev_iload (pc := 81) dX11_together_81 rfl ?_
      refine ev_iload_n (pc := 83) dX11_together_83 rfl ?_
      refine ev_icmp_le (pc := 84) (tgt := 91) dX11_together_84 (by decide) (fun zc84 => ?_) (fun zc84 => absurd zc64 zc84)
      refine ev_iload (pc := 91) dX11_together_91 rfl ?_
      refine ev_iload_n (pc := 93) dX11_together_93 rfl ?_
      refine ev_icmp_ne (pc := 94) (tgt := 104) dX11_together_94 (by decide) (fun zc94 => ?_) (fun zc94 => ?_)
      · -- ne at 94: taken
        refine ev_iload (pc := 104) dX11_together_104 rfl ?_
        refine ev_istore (pc := 106) (L' := [some (.ref 49), some (.int what), some (.int ((tgT (fun zt => soK (h.2.1 69) pl zt 4) pl s i).1)), some (.int ((tgT (fun zt => soK (h.2.1 69) pl zt 4) pl s i).2.1)), some (.int ((tgT (fun zt => soK (h.2.1 69) pl zt 4) pl s i).2.2)), some (.int (nI pl)), some (.int (nI i)), some (.int zr56)]) dX11_together_106 (Nat.le_of_ble_eq_true rfl) rfl ?_
        refine ev_iload (pc := 108) dX11_together_108 rfl ?_
        refine ev_iload_n (pc := 110) dX11_together_110 rfl ?_
        refine ev_icmp_le (pc := 111) (tgt := 119) dX11_together_111 (by decide) (fun zc111 => ?_) (fun zc111 => absurd zc64 zc111)
        refine ev_iload_n (pc := 119) dX11_together_119 rfl ?_
        refine ev_istore_n (pc := 120) (L' := [some (.ref 49), some (.int what), some (.int ((tgT (fun zt => soK (h.2.1 69) pl zt 4) pl s i).1)), some (.int ((tgT (fun zt => soK (h.2.1 69) pl zt 4) pl s i).2.1)), some (.int ((tgT (fun zt => soK (h.2.1 69) pl zt 4) pl s i).2.2)), some (.int (nI pl)), some (.int (nI i)), some (.int zr56)]) dX11_together_120 (Nat.le_of_ble_eq_true rfl) rfl ?_
        refine ev_iinc (pc := 121) (v := nI (i + 1)) (L' := [some (.ref 49), some (.int what), some (.int ((tgT (fun zt => soK (h.2.1 69) pl zt 4) pl s i).1)), some (.int ((tgT (fun zt => soK (h.2.1 69) pl zt 4) pl s i).2.1)), some (.int ((tgT (fun zt => soK (h.2.1 69) pl zt 4) pl s i).2.2)), some (.int (nI pl)), some (.int (nI (i + 1))), some (.int zr56)]) dX11_together_121 rfl (nI_1 _) (Nat.le_of_ble_eq_true rfl) rfl ?_
        refine ev_goto (pc := 124) (tgt := 35) dX11_together_124 (by decide) ?_
        subst ezr56
        refine ev_eqL (L' := [some (.ref 49), some (.int what), some (.int ((tgT (fun zt => soK (h.2.1 69) pl zt 4) pl s (i + 1)).1)), some (.int ((tgT (fun zt => soK (h.2.1 69) pl zt 4) pl s (i + 1)).2.1)), some (.int ((tgT (fun zt => soK (h.2.1 69) pl zt 4) pl s (i + 1)).2.2)), some (.int (nI pl)), some (.int (nI (i + 1))), some (.int (soK (h.2.1 69) pl i 4))]) (by simp only [tgT, if_neg ((i_lt2 _ _).mpr zc64), if_neg zc94]) ?_
        refine ev_less (L' := [some (.ref 49), some (.int what), some (.int ((tgT (fun zt => soK (h.2.1 69) pl zt 4) pl s (i + 1)).1)), some (.int ((tgT (fun zt => soK (h.2.1 69) pl zt 4) pl s (i + 1)).2.1)), some (.int ((tgT (fun zt => soK (h.2.1 69) pl zt 4) pl s (i + 1)).2.2)), some (.int (nI pl)), some (.int (nI (i + 1))), none]) (ls_keep (ls_keep (ls_keep (ls_keep (ls_keep (ls_keep (ls_keep (ls_drop (ls_nil _))))))))) ?_
        exact ih (i + 1) (by omega)
      · -- ne at 94: not taken
        refine ev_iload (pc := 97) dX11_together_97 rfl ?_
        refine ev_iconst (pc := 99) (v := 1) dX11_together_99 (by decide) ?_
        refine ev_iadd (pc := 100) dX11_together_100 ?_
        refine ev_goto (pc := 101) (tgt := 106) dX11_together_101 (by decide) ?_
        refine ev_istore (pc := 106) (L' := [some (.ref 49), some (.int what), some (.int ((tgT (fun zt => soK (h.2.1 69) pl zt 4) pl s i).1)), some (.int ((tgT (fun zt => soK (h.2.1 69) pl zt 4) pl s i).2.1)), some (.int (((tgT (fun zt => soK (h.2.1 69) pl zt 4) pl s i).2.2) + 1)), some (.int (nI pl)), some (.int (nI i)), some (.int zr56)]) dX11_together_106 (Nat.le_of_ble_eq_true rfl) rfl ?_
        refine ev_iload (pc := 108) dX11_together_108 rfl ?_
        refine ev_iload_n (pc := 110) dX11_together_110 rfl ?_
        refine ev_icmp_le (pc := 111) (tgt := 119) dX11_together_111 (by decide) (fun zc111 => ?_) (fun zc111 => absurd zc64 zc111)
        refine ev_iload_n (pc := 119) dX11_together_119 rfl ?_
        refine ev_istore_n (pc := 120) (L' := [some (.ref 49), some (.int what), some (.int ((tgT (fun zt => soK (h.2.1 69) pl zt 4) pl s i).1)), some (.int ((tgT (fun zt => soK (h.2.1 69) pl zt 4) pl s i).2.1)), some (.int (((tgT (fun zt => soK (h.2.1 69) pl zt 4) pl s i).2.2) + 1)), some (.int (nI pl)), some (.int (nI i)), some (.int zr56)]) dX11_together_120 (Nat.le_of_ble_eq_true rfl) rfl ?_
        refine ev_iinc (pc := 121) (v := nI (i + 1)) (L' := [some (.ref 49), some (.int what), some (.int ((tgT (fun zt => soK (h.2.1 69) pl zt 4) pl s i).1)), some (.int ((tgT (fun zt => soK (h.2.1 69) pl zt 4) pl s i).2.1)), some (.int (((tgT (fun zt => soK (h.2.1 69) pl zt 4) pl s i).2.2) + 1)), some (.int (nI pl)), some (.int (nI (i + 1))), some (.int zr56)]) dX11_together_121 rfl (nI_1 _) (Nat.le_of_ble_eq_true rfl) rfl ?_
        refine ev_goto (pc := 124) (tgt := 35) dX11_together_124 (by decide) ?_
        subst ezr56
        refine ev_eqL (L' := [some (.ref 49), some (.int what), some (.int ((tgT (fun zt => soK (h.2.1 69) pl zt 4) pl s (i + 1)).1)), some (.int ((tgT (fun zt => soK (h.2.1 69) pl zt 4) pl s (i + 1)).2.1)), some (.int ((tgT (fun zt => soK (h.2.1 69) pl zt 4) pl s (i + 1)).2.2)), some (.int (nI pl)), some (.int (nI (i + 1))), some (.int (soK (h.2.1 69) pl i 4))]) (by simp only [tgT, if_neg ((i_lt2 _ _).mpr zc64), if_pos zc94]) ?_
        refine ev_less (L' := [some (.ref 49), some (.int what), some (.int ((tgT (fun zt => soK (h.2.1 69) pl zt 4) pl s (i + 1)).1)), some (.int ((tgT (fun zt => soK (h.2.1 69) pl zt 4) pl s (i + 1)).2.1)), some (.int ((tgT (fun zt => soK (h.2.1 69) pl zt 4) pl s (i + 1)).2.2)), some (.int (nI pl)), some (.int (nI (i + 1))), none]) (ls_keep (ls_keep (ls_keep (ls_keep (ls_keep (ls_keep (ls_keep (ls_drop (ls_nil _))))))))) ?_
        exact ih (i + 1) (by omega)
    · -- le at 64: not taken
      refine ev_sipush (pc := 67) (v := 256) dX11_together_67 (by decide) ?_
      refine ev_iload (pc := 70) dX11_together_70 rfl ?_
      refine ev_imul (pc := 72) dX11_together_72 ?_
      refine ev_eqI (e' := nI (256 * pl)) (pk_mul 256 pl) ?_
      refine ev_iload (pc := 73) dX11_together_73 rfl ?_
      refine ev_iadd (pc := 75) dX11_together_75 ?_
      refine ev_eqI (e' := nI ((256 * pl) + i)) (nI_add (256 * pl) i) ?_
      refine ev_goto (pc := 76) (tgt := 80) dX11_together_76 (by decide) ?_
      refine ev_istore_n (pc := 80) (L' := [some (.ref 49), some (.int what), some (.int (nI ((256 * pl) + i))), some (.int ((tgT (fun zt => soK (h.2.1 69) pl zt 4) pl s i).2.1)), some (.int ((tgT (fun zt => soK (h.2.1 69) pl zt 4) pl s i).2.2)), some (.int (nI pl)), some (.int (nI i)), some (.int zr56)]) dX11_together_80 (Nat.le_of_ble_eq_true rfl) rfl ?_
      refine ev_iload (pc := 81) dX11_together_81 rfl ?_
      refine ev_iload_n (pc := 83) dX11_together_83 rfl ?_
      refine ev_icmp_le (pc := 84) (tgt := 91) dX11_together_84 (by decide) (fun zc84 => absurd zc84 zc64) (fun zc84 => ?_)
      refine ev_iconst (pc := 87) (v := 1) dX11_together_87 (by decide) ?_
      refine ev_goto (pc := 88) (tgt := 106) dX11_together_88 (by decide) ?_
      refine ev_istore (pc := 106) (L' := [some (.ref 49), some (.int what), some (.int (nI ((256 * pl) + i))), some (.int ((tgT (fun zt => soK (h.2.1 69) pl zt 4) pl s i).2.1)), some (.int 1), some (.int (nI pl)), some (.int (nI i)), some (.int zr56)]) dX11_together_106 (Nat.le_of_ble_eq_true rfl) rfl ?_
      refine ev_iload (pc := 108) dX11_together_108 rfl ?_
      refine ev_iload_n (pc := 110) dX11_together_110 rfl ?_
      refine ev_icmp_le (pc := 111) (tgt := 119) dX11_together_111 (by decide) (fun zc111 => absurd zc111 zc64) (fun zc111 => ?_)
      refine ev_iload (pc := 114) dX11_together_114 rfl ?_
      refine ev_goto (pc := 116) (tgt := 120) dX11_together_116 (by decide) ?_
      refine ev_istore_n (pc := 120) (L' := [some (.ref 49), some (.int what), some (.int (nI ((256 * pl) + i))), some (.int zr56), some (.int 1), some (.int (nI pl)), some (.int (nI i)), some (.int zr56)]) dX11_together_120 (Nat.le_of_ble_eq_true rfl) rfl ?_
      refine ev_iinc (pc := 121) (v := nI (i + 1)) (L' := [some (.ref 49), some (.int what), some (.int (nI ((256 * pl) + i))), some (.int zr56), some (.int 1), some (.int (nI pl)), some (.int (nI (i + 1))), some (.int zr56)]) dX11_together_121 rfl (nI_1 _) (Nat.le_of_ble_eq_true rfl) rfl ?_
      refine ev_goto (pc := 124) (tgt := 35) dX11_together_124 (by decide) ?_
      subst ezr56
      refine ev_eqL (L' := [some (.ref 49), some (.int what), some (.int ((tgT (fun zt => soK (h.2.1 69) pl zt 4) pl s (i + 1)).1)), some (.int ((tgT (fun zt => soK (h.2.1 69) pl zt 4) pl s (i + 1)).2.1)), some (.int ((tgT (fun zt => soK (h.2.1 69) pl zt 4) pl s (i + 1)).2.2)), some (.int (nI pl)), some (.int (nI (i + 1))), some (.int (soK (h.2.1 69) pl i 4))]) (by simp only [tgT, if_pos ((i_le2 _ _).mp zc64)]) ?_
      refine ev_less (L' := [some (.ref 49), some (.int what), some (.int ((tgT (fun zt => soK (h.2.1 69) pl zt 4) pl s (i + 1)).1)), some (.int ((tgT (fun zt => soK (h.2.1 69) pl zt 4) pl s (i + 1)).2.1)), some (.int ((tgT (fun zt => soK (h.2.1 69) pl zt 4) pl s (i + 1)).2.2)), some (.int (nI pl)), some (.int (nI (i + 1))), none]) (ls_keep (ls_keep (ls_keep (ls_keep (ls_keep (ls_keep (ls_keep (ls_drop (ls_nil _))))))))) ?_
      exact ih (i + 1) (by omega)
theorem tgP_u {g : Nat → Nat → Int32} {p : Nat} (h : unl p) : tgP g (p + 1) = tgT (g p) p (tgP g p) 256 := by rw [tgP, if_pos h]
theorem tgP_n {g : Nat → Nat → Int32} {p : Nat} (h : ¬ unl p) : tgP g (p + 1) = tgP g p := by rw [tgP, if_neg h]
theorem lp_together_24 (E : ME) (h : AH) (what : Int32) (hw : WF h) {post : PO} (K : Ev E mX11_together (rmm 3 0 0) (QM E 0 0 post) 0 0 133 [some (.ref 49), some (.int what), some (.int ((tgP (fun zp zt => soK (h.2.1 69) zp zt 4) 256).1)), some (.int ((tgP (fun zp zt => soK (h.2.1 69) zp zt 4) 256).2.1)), some (.int ((tgP (fun zp zt => soK (h.2.1 69) zp zt 4) 256).2.2)), some (.int (nI 256)), none, none] [] h) : ∀ n i : Nat, i + n = 256 → Ev E mX11_together (rmm 3 0 0) (QM E 0 0 post) 0 0 24 [some (.ref 49), some (.int what), some (.int ((tgP (fun zp zt => soK (h.2.1 69) zp zt 4) i).1)), some (.int ((tgP (fun zp zt => soK (h.2.1 69) zp zt 4) i).2.1)), some (.int ((tgP (fun zp zt => soK (h.2.1 69) zp zt 4) i).2.2)), some (.int (nI i)), none, none] [] h := by
  intro n
  induction n with
  | zero =>
    intro i hi
    obtain rfl : 256 = i := by omega
    refine ev_iload (pc := 24) dX11_together_24 rfl ?_
    refine ev_sipush (pc := 26) (v := 256) dX11_together_26 (by decide) ?_
    refine ev_icmp_ge (pc := 29) (tgt := 133) dX11_together_29 (by decide) (fun zc29 => ?_) (fun zc29 => absurd (by decide) zc29)
    exact K
  | succ n ih =>
    intro i hi
    have hlt : i < 256 := by omega
    by_cases hu : unl i
    ·
      refine ev_iload (pc := 24) dX11_together_24 rfl ?_
      refine ev_sipush (pc := 26) (v := 256) dX11_together_26 (by decide) ?_
      refine ev_icmp_ge (pc := 29) (tgt := 133) dX11_together_29 (by decide) (fun zc29 => absurd zc29 (nI_ge hlt (by decide))) (fun zc29 => ?_)
      refine ev_iconst (pc := 32) (v := 0) dX11_together_32 (by decide) ?_
      refine ev_istore (pc := 33) (L' := [some (.ref 49), some (.int what), some (.int ((tgP (fun zp zt => soK (h.2.1 69) zp zt 4) i).1)), some (.int ((tgP (fun zp zt => soK (h.2.1 69) zp zt 4) i).2.1)), some (.int ((tgP (fun zp zt => soK (h.2.1 69) zp zt 4) i).2.2)), some (.int (nI i)), some (.int 0), none]) dX11_together_33 (Nat.le_of_ble_eq_true rfl) rfl ?_
      refine lp_together_35 E h i what (tgP (fun zp zt => soK (h.2.1 69) zp zt 4) i) hw hlt hu ?_ 256 0 (Nat.zero_add _)
      refine ev_iinc (pc := 127) (v := nI (i + 1)) (L' := [some (.ref 49), some (.int what), some (.int ((tgT (fun zt => soK (h.2.1 69) i zt 4) i (tgP (fun zp zt => soK (h.2.1 69) zp zt 4) i) 256).1)), some (.int ((tgT (fun zt => soK (h.2.1 69) i zt 4) i (tgP (fun zp zt => soK (h.2.1 69) zp zt 4) i) 256).2.1)), some (.int ((tgT (fun zt => soK (h.2.1 69) i zt 4) i (tgP (fun zp zt => soK (h.2.1 69) zp zt 4) i) 256).2.2)), some (.int (nI (i + 1))), some (.int (nI 256)), none]) dX11_together_127 rfl (nI_1 _) (Nat.le_of_ble_eq_true rfl) rfl ?_
      refine ev_goto (pc := 130) (tgt := 24) dX11_together_130 (by decide) ?_
      refine ev_less (L' := [some (.ref 49), some (.int what), some (.int ((tgT (fun zt => soK (h.2.1 69) i zt 4) i (tgP (fun zp zt => soK (h.2.1 69) zp zt 4) i) 256).1)), some (.int ((tgT (fun zt => soK (h.2.1 69) i zt 4) i (tgP (fun zp zt => soK (h.2.1 69) zp zt 4) i) 256).2.1)), some (.int ((tgT (fun zt => soK (h.2.1 69) i zt 4) i (tgP (fun zp zt => soK (h.2.1 69) zp zt 4) i) 256).2.2)), some (.int (nI (i + 1))), none, none]) (ls_keep (ls_keep (ls_keep (ls_keep (ls_keep (ls_keep (ls_drop (ls_keep (ls_nil _))))))))) ?_
      refine ev_eqL (L' := [some (.ref 49), some (.int what), some (.int ((tgP (fun zp zt => soK (h.2.1 69) zp zt 4) (i + 1)).1)), some (.int ((tgP (fun zp zt => soK (h.2.1 69) zp zt 4) (i + 1)).2.1)), some (.int ((tgP (fun zp zt => soK (h.2.1 69) zp zt 4) (i + 1)).2.2)), some (.int (nI (i + 1))), none, none]) (by rw [tgP_u hu]) ?_
      exact ih (i + 1) (by omega)
    ·
      refine ev_iload (pc := 24) dX11_together_24 rfl ?_
      refine ev_sipush (pc := 26) (v := 256) dX11_together_26 (by decide) ?_
      refine ev_icmp_ge (pc := 29) (tgt := 133) dX11_together_29 (by decide) (fun zc29 => absurd zc29 (nI_ge hlt (by decide))) (fun zc29 => ?_)
      refine ev_iconst (pc := 32) (v := 0) dX11_together_32 (by decide) ?_
      refine ev_istore (pc := 33) (L' := [some (.ref 49), some (.int what), some (.int ((tgP (fun zp zt => soK (h.2.1 69) zp zt 4) i).1)), some (.int ((tgP (fun zp zt => soK (h.2.1 69) zp zt 4) i).2.1)), some (.int ((tgP (fun zp zt => soK (h.2.1 69) zp zt 4) i).2.2)), some (.int (nI i)), some (.int 0), none]) dX11_together_33 (Nat.le_of_ble_eq_true rfl) rfl ?_
      refine ev_iload (pc := 35) dX11_together_35 rfl ?_
      refine ev_sipush (pc := 37) (v := 256) dX11_together_37 (by decide) ?_
      refine ev_icmp_ge (pc := 40) (tgt := 127) dX11_together_40 (by decide) (fun zc40 => absurd zc40 (by decide)) (fun zc40 => ?_)
      refine ev_iload (pc := 43) dX11_together_43 rfl ?_
      refine ev_callSv (S := []) (pc := 45) dX11_together_45 kX11_areUnlike lX11_326 sX11_areUnlike (cn_X11_areUnlike E h i hw (by omega)) rfl rfl (Nat.le_of_ble_eq_true rfl) ⟨Nat.le_of_ble_eq_true rfl, Nat.le_of_ble_eq_true rfl⟩ ⟨Nat.le_of_ble_eq_true rfl, Nat.le_of_ble_eq_true rfl⟩ ?_
      refine ev_if_eq (pc := 48) (tgt := 127) dX11_together_48 (by decide) (fun zc48 => ?_) (fun zc48 => absurd (bI_f hu) zc48)
      refine ev_iinc (pc := 127) (v := nI (i + 1)) (L' := [some (.ref 49), some (.int what), some (.int ((tgP (fun zp zt => soK (h.2.1 69) zp zt 4) i).1)), some (.int ((tgP (fun zp zt => soK (h.2.1 69) zp zt 4) i).2.1)), some (.int ((tgP (fun zp zt => soK (h.2.1 69) zp zt 4) i).2.2)), some (.int (nI (i + 1))), some (.int 0), none]) dX11_together_127 rfl (nI_1 _) (Nat.le_of_ble_eq_true rfl) rfl ?_
      refine ev_goto (pc := 130) (tgt := 24) dX11_together_130 (by decide) ?_
      refine ev_less (L' := [some (.ref 49), some (.int what), some (.int ((tgP (fun zp zt => soK (h.2.1 69) zp zt 4) i).1)), some (.int ((tgP (fun zp zt => soK (h.2.1 69) zp zt 4) i).2.1)), some (.int ((tgP (fun zp zt => soK (h.2.1 69) zp zt 4) i).2.2)), some (.int (nI (i + 1))), none, none]) (ls_keep (ls_keep (ls_keep (ls_keep (ls_keep (ls_keep (ls_drop (ls_keep (ls_nil _))))))))) ?_
      refine ev_eqL (L' := [some (.ref 49), some (.int what), some (.int ((tgP (fun zp zt => soK (h.2.1 69) zp zt 4) (i + 1)).1)), some (.int ((tgP (fun zp zt => soK (h.2.1 69) zp zt 4) (i + 1)).2.1)), some (.int ((tgP (fun zp zt => soK (h.2.1 69) zp zt 4) (i + 1)).2.2)), some (.int (nI (i + 1))), none, none]) (by rw [tgP_n hu]) ?_
      exact ih (i + 1) (by omega)
theorem cn_X11_together (E : ME) (h : AH) (what : Int32) (hw : WF h) : Con E mX11_together 3 0 0 [.ref 49, .int what] h (fun r h' => r = some (.int (if 0 ≤ what ∧ what ≤ 3 then (if what = 0 then (tgP (fun zp zt => soK (h.2.1 69) zp zt 4) 256).2.1 else if what = 1 then (tgP (fun zp zt => soK (h.2.1 69) zp zt 4) 256).1 / 256 else if what = 2 then (tgP (fun zp zt => soK (h.2.1 69) zp zt 4) 256).1 - (tgP (fun zp zt => soK (h.2.1 69) zp zt 4) 256).1 / 256 * 256 else (tgP (fun zp zt => soK (h.2.1 69) zp zt 4) 256).2.2) else -1)) ∧ h' = h) := by
  refine con_of2 (L := [some (.ref 49), some (.int what), none, none, none, none, none, none]) rfl (Nat.le_of_ble_eq_true rfl) rfl ?_
  refine ev_iload_n (pc := 0) dX11_together_0 rfl ?_
  refine ev_i2l (pc := 1) dX11_together_1 ?_
  refine ev_lconst (pc := 2) (v := 0) dX11_together_2 (by decide) ?_
  refine ev_ldc2 (pc := 3) (v := 3) dX11_together_3 kcX11_197 ?_
  refine ev_callSv (S := []) (pc := 6) dX11_together_6 kX11_in lX11_96 sX11_in (cn_X11_inC E h what 0 3 _ _ _ rfl (by decide) (by decide)) rfl rfl (Nat.le_of_ble_eq_true rfl) ⟨Nat.le_of_ble_eq_true rfl, Nat.le_of_ble_eq_true rfl⟩ ⟨Nat.le_of_ble_eq_true rfl, Nat.le_of_ble_eq_true rfl⟩ ?_
  refine ev_if_ne (pc := 9) (tgt := 14) dX11_together_9 (by decide) (fun zc9 => ?_) (fun zc9 => ?_)
  · -- ne at 9: taken
    refine ev_iconst (pc := 14) (v := 0) dX11_together_14 (by decide) ?_
    refine ev_istore_n (pc := 15) (L' := [some (.ref 49), some (.int what), some (.int 0), none, none, none, none, none]) dX11_together_15 (Nat.le_of_ble_eq_true rfl) rfl ?_
    refine ev_iconst (pc := 16) (v := (-1)) dX11_together_16 (by decide) ?_
    refine ev_istore_n (pc := 17) (L' := [some (.ref 49), some (.int what), some (.int 0), some (.int ((-1))), none, none, none, none]) dX11_together_17 (Nat.le_of_ble_eq_true rfl) rfl ?_
    refine ev_iconst (pc := 18) (v := 0) dX11_together_18 (by decide) ?_
    refine ev_istore (pc := 19) (L' := [some (.ref 49), some (.int what), some (.int 0), some (.int ((-1))), some (.int 0), none, none, none]) dX11_together_19 (Nat.le_of_ble_eq_true rfl) rfl ?_
    refine ev_iconst (pc := 21) (v := 0) dX11_together_21 (by decide) ?_
    refine ev_istore (pc := 22) (L' := [some (.ref 49), some (.int what), some (.int 0), some (.int ((-1))), some (.int 0), some (.int 0), none, none]) dX11_together_22 (Nat.le_of_ble_eq_true rfl) rfl ?_
    refine lp_together_24 E h what hw ?_ 256 0 (Nat.zero_add _)
    refine ev_iload_n (pc := 133) dX11_together_133 rfl ?_
    refine ev_if_ne (pc := 134) (tgt := 141) dX11_together_134 (by decide) (fun zc134 => ?_) (fun zc134 => ?_)
    · -- ne at 134: taken
      refine ev_iload_n (pc := 141) dX11_together_141 rfl ?_
      refine ev_iconst (pc := 142) (v := 1) dX11_together_142 (by decide) ?_
      refine ev_icmp_ne (pc := 143) (tgt := 154) dX11_together_143 (by decide) (fun zc143 => ?_) (fun zc143 => ?_)
      · -- ne at 143: taken
        refine ev_iload_n (pc := 154) dX11_together_154 rfl ?_
        refine ev_iconst (pc := 155) (v := 2) dX11_together_155 (by decide) ?_
        refine ev_icmp_ne (pc := 156) (tgt := 167) dX11_together_156 (by decide) (fun zc156 => ?_) (fun zc156 => ?_)
        · -- ne at 156: taken
          refine ev_iload (pc := 167) dX11_together_167 rfl ?_
          refine ev_iret (pc := 169) dX11_together_169 rfl ?_ ?_
          · rfl
          · refine ⟨?_, rfl⟩
            simp only [bI_0, bI_n0, Classical.not_not] at *
            have hC : 0 ≤ what ∧ what ≤ 3 := zc9
            rw [if_pos hC]
            simp [*]
        · -- ne at 156: not taken
          refine ev_iload_n (pc := 159) dX11_together_159 rfl ?_
          refine ev_sipush (pc := 160) (v := 256) dX11_together_160 (by decide) ?_
          refine ev_irem (pc := 163) dX11_together_163 (by decide) ?_
          refine ev_goto (pc := 164) (tgt := 169) dX11_together_164 (by decide) ?_
          refine ev_iret (pc := 169) dX11_together_169 rfl ?_ ?_
          · rfl
          · refine ⟨?_, rfl⟩
            simp only [bI_0, bI_n0, Classical.not_not] at *
            have hC : 0 ≤ what ∧ what ≤ 3 := zc9
            rw [if_pos hC]
            simp [*]
      · -- ne at 143: not taken
        refine ev_iload_n (pc := 146) dX11_together_146 rfl ?_
        refine ev_sipush (pc := 147) (v := 256) dX11_together_147 (by decide) ?_
        refine ev_idiv (pc := 150) dX11_together_150 (by decide) ?_
        refine ev_goto (pc := 151) (tgt := 169) dX11_together_151 (by decide) ?_
        refine ev_iret (pc := 169) dX11_together_169 rfl ?_ ?_
        · rfl
        · refine ⟨?_, rfl⟩
          simp only [bI_0, bI_n0, Classical.not_not] at *
          have hC : 0 ≤ what ∧ what ≤ 3 := zc9
          rw [if_pos hC]
          simp [*]
    · -- ne at 134: not taken
      refine ev_iload_n (pc := 137) dX11_together_137 rfl ?_
      refine ev_goto (pc := 138) (tgt := 169) dX11_together_138 (by decide) ?_
      refine ev_iret (pc := 169) dX11_together_169 rfl ?_ ?_
      · rfl
      · refine ⟨?_, rfl⟩
        simp only [bI_0, bI_n0, Classical.not_not] at *
        have hC : 0 ≤ what ∧ what ≤ 3 := zc9
        rw [if_pos hC]
        simp [*]
  · -- ne at 9: not taken
    refine ev_iconst (pc := 12) (v := (-1)) dX11_together_12 (by decide) ?_
    refine ev_iret (pc := 13) dX11_together_13 rfl ?_ ?_
    · rfl
    · refine ⟨?_, rfl⟩
      simp only [bI_0, bI_n0, Classical.not_not] at *
      have hC : ¬ (0 ≤ what ∧ what ≤ 3) := fun q => by first | exact zc9 q
      rw [if_neg hC]
