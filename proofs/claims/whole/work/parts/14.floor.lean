theorem cn_X11_knot (E : ME) (h : AH) (a : Int32) (zq : Nat) (hw : WF h) (hq : h.2.1 49 35 = nI zq) (hq2 : zq ≤ 24) : Con E mX11_knot 1 0 0 [.ref 49, .int a] h (fun r h' => r = some (.int (if (0 ≤ a ∧ a ≤ 999) ∧ (zq = 0 ∨ h.2.1 68 (zq - 1) < a) then (if zq = 24 then -3 else nI (zq + 1)) else -1)) ∧ h' = if (0 ≤ a ∧ a ≤ 999) ∧ (zq = 0 ∨ h.2.1 68 (zq - 1) < a) then (if zq = 24 then h else sI (sI h 68 (upd (h.2.1 68) zq a)) 49 (upd (h.2.1 49) 35 (nI (zq + 1)))) else h) := by
  refine con_of2 (L := [some (.ref 49), some (.int a)]) rfl (Nat.le_of_ble_eq_true rfl) rfl ?_
  refine ev_iload_n (pc := 0) dX11_knot_0 rfl ?_
  refine ev_i2l (pc := 1) dX11_knot_1 ?_
  refine ev_lconst (pc := 2) (v := 0) dX11_knot_2 (by decide) ?_
  refine ev_ldc2 (pc := 3) (v := 999) dX11_knot_3 kcX11_238 ?_
  refine ev_callSv (S := []) (pc := 6) dX11_knot_6 kX11_in lX11_96 sX11_in (cn_X11_inC E h a 0 999 _ _ _ rfl (by decide) (by decide)) rfl rfl (Nat.le_of_ble_eq_true rfl) ⟨Nat.le_of_ble_eq_true rfl, Nat.le_of_ble_eq_true rfl⟩ ⟨Nat.le_of_ble_eq_true rfl, Nat.le_of_ble_eq_true rfl⟩ ?_
  refine ev_if_eq (pc := 9) (tgt := 34) dX11_knot_9 (by decide) (fun zc9 => ?_) (fun zc9 => ?_)
  · -- eq at 9: taken
    refine ev_iconst (pc := 34) (v := (-1)) dX11_knot_34 (by decide) ?_
    refine ev_iret (pc := 35) dX11_knot_35 rfl ?_ ?_
    · rfl
    · simp only [bI_0, bI_n0, Classical.not_not] at *
      have hC : ¬ ((0 ≤ a ∧ a ≤ 999) ∧ (zq = 0 ∨ h.2.1 68 (zq - 1) < a)) := fun z => by
        first
        | exact zc9 z.1
        | exact z.2.elim (fun e => by subst e; exact absurd (by decide) zc16) (fun e => zc31 e)
      rw [if_neg hC, if_neg hC]
      exact ⟨rfl, rfl⟩
  · -- eq at 9: not taken
    refine ev_aload_n (pc := 12) dX11_knot_12 rfl ?_
    refine ev_getI (pc := 13) dX11_knot_13 fX11_240 rfl (wlt hw (by decide)) ?_
    refine ev_eqI (e' := nI zq) hq ?_
    refine ev_if_le (pc := 16) (tgt := 36) dX11_knot_16 (by decide) (fun zc16 => ?_) (fun zc16 => ?_)
    · -- le at 16: taken
      refine ev_aload_n (pc := 36) dX11_knot_36 rfl ?_
      refine ev_getI (pc := 37) dX11_knot_37 fX11_240 rfl (wlt hw (by decide)) ?_
      refine ev_eqI (e' := nI zq) hq ?_
      refine ev_bipush (pc := 40) (v := 24) dX11_knot_40 (by decide) ?_
      refine ev_icmp_ne (pc := 42) (tgt := 48) dX11_knot_42 (by decide) (fun zc42 => ?_) (fun zc42 => ?_)
      · -- ne at 42: taken
        refine ev_aload_n (pc := 48) dX11_knot_48 rfl ?_
        refine ev_getR (pc := 49) (q := 68) dX11_knot_49 fX11_69 rfl (wlt hw (by decide)) (wr hw rfl) ?_
        refine ev_aload_n (pc := 52) dX11_knot_52 rfl ?_
        refine ev_getI (pc := 53) dX11_knot_53 fX11_240 rfl (wlt hw (by decide)) ?_
        refine ev_eqI (e' := nI zq) hq ?_
        refine ev_iload_n (pc := 56) dX11_knot_56 rfl ?_
        refine ev_iast (pc := 57) dX11_knot_57 rfl (wlt hw (by decide)) (vp_in_nI (by have : ¬ zq = 24 := fun z => zc42 (by rw [z]; rfl); omega) (by decide)) ?_
        refine ev_eqH (h' := sI h 68 (upd (h.2.1 68) zq a)) (by rw [show Int32.toNatClampNeg (nI zq) = zq from nI_clamp (by omega)] <;> rfl) ?_
        refine ev_aload_n (pc := 58) dX11_knot_58 rfl ?_
        refine ev_dup (pc := 59) dX11_knot_59 rfl ?_
        refine ev_getI (pc := 60) dX11_knot_60 fX11_240 rfl (wlt (wf_sI hw) (by decide)) ?_
        refine ev_eqI (e' := h.2.1 49 35) (by rfl) ?_
        refine ev_eqI (e' := nI zq) hq ?_
        refine ev_iconst (pc := 63) (v := 1) dX11_knot_63 (by decide) ?_
        refine ev_iadd (pc := 64) dX11_knot_64 ?_
        refine ev_eqI (e' := nI (zq + 1)) (nI_add zq 1) ?_
        refine ev_putI (pc := 65) dX11_knot_65 fX11_240 rfl (wlt (wf_sI hw) (by decide)) ?_
        refine ev_eqH (h' := sI (sI h 68 (upd (h.2.1 68) zq a)) 49 (upd (h.2.1 49) 35 (nI (zq + 1)))) (by rfl) ?_
        refine ev_aload_n (pc := 68) dX11_knot_68 rfl ?_
        refine ev_getI (pc := 69) dX11_knot_69 fX11_240 rfl (wlt (wf_sI (wf_sI hw)) (by decide)) ?_
        refine ev_eqI (e' := nI (zq + 1)) (by rfl) ?_
        refine ev_iret (pc := 72) dX11_knot_72 rfl ?_ ?_
        · rfl
        · simp only [bI_0, bI_n0, Classical.not_not] at *
          have hC : (0 ≤ a ∧ a ≤ 999) ∧ (zq = 0 ∨ h.2.1 68 (zq - 1) < a) := ⟨zc9, by first | exact Or.inl (nI_s0 (by omega) zc16) | exact Or.inr zc31⟩
          have h24 : ¬ zq = 24 := fun z => zc42 (by rw [z]; rfl)
          rw [if_pos hC, if_pos hC, if_neg h24, if_neg h24]
          exact ⟨rfl, rfl⟩
      · -- ne at 42: not taken
        refine ev_bipush (pc := 45) (v := (-3)) dX11_knot_45 (by decide) ?_
        refine ev_iret (pc := 47) dX11_knot_47 rfl ?_ ?_
        · rfl
        · simp only [bI_0, bI_n0, Classical.not_not] at *
          have hC : (0 ≤ a ∧ a ≤ 999) ∧ (zq = 0 ∨ h.2.1 68 (zq - 1) < a) := ⟨zc9, by first | exact Or.inl (nI_s0 (by omega) zc16) | exact Or.inr zc31⟩
          have h24 : zq = 24 := (nI_eq (by omega) (by decide)).mp zc42
          rw [if_pos hC, if_pos hC, if_pos h24, if_pos h24]
          exact ⟨rfl, rfl⟩
    · -- le at 16: not taken
      refine ev_iload_n (pc := 19) dX11_knot_19 rfl ?_
      refine ev_aload_n (pc := 20) dX11_knot_20 rfl ?_
      refine ev_getR (pc := 21) (q := 68) dX11_knot_21 fX11_69 rfl (wlt hw (by decide)) (wr hw rfl) ?_
      refine ev_aload_n (pc := 24) dX11_knot_24 rfl ?_
      refine ev_getI (pc := 25) dX11_knot_25 fX11_240 rfl (wlt hw (by decide)) ?_
      refine ev_eqI (e' := nI zq) hq ?_
      refine ev_iconst (pc := 28) (v := 1) dX11_knot_28 (by decide) ?_
      refine ev_isub (pc := 29) dX11_knot_29 ?_
      refine ev_eqI (e' := nI (zq - 1)) (pk_sub (a := zq) (b := 1) (by have := nI_n0 (by omega) zc16; omega)) ?_
      refine ev_iald (pc := 30) dX11_knot_30 rfl (wlt hw (by decide)) (vp_in_nI (by have := nI_n0 (by omega) zc16; omega) (by decide)) ?_
      refine ev_eqI (e' := h.2.1 68 (zq - 1)) (by rw [show Int32.toNatClampNeg (nI (zq - 1)) = zq - 1 from nI_clamp (by omega)] <;> rfl) ?_
      refine ev_icmp_gt (pc := 31) (tgt := 36) dX11_knot_31 (by decide) (fun zc31 => ?_) (fun zc31 => ?_)
      · -- gt at 31: taken
        refine ev_aload_n (pc := 36) dX11_knot_36 rfl ?_
        refine ev_getI (pc := 37) dX11_knot_37 fX11_240 rfl (wlt hw (by decide)) ?_
        refine ev_eqI (e' := nI zq) hq ?_
        refine ev_bipush (pc := 40) (v := 24) dX11_knot_40 (by decide) ?_
        refine ev_icmp_ne (pc := 42) (tgt := 48) dX11_knot_42 (by decide) (fun zc42 => ?_) (fun zc42 => ?_)
        · -- ne at 42: taken
          refine ev_aload_n (pc := 48) dX11_knot_48 rfl ?_
          refine ev_getR (pc := 49) (q := 68) dX11_knot_49 fX11_69 rfl (wlt hw (by decide)) (wr hw rfl) ?_
          refine ev_aload_n (pc := 52) dX11_knot_52 rfl ?_
          refine ev_getI (pc := 53) dX11_knot_53 fX11_240 rfl (wlt hw (by decide)) ?_
          refine ev_eqI (e' := nI zq) hq ?_
          refine ev_iload_n (pc := 56) dX11_knot_56 rfl ?_
          refine ev_iast (pc := 57) dX11_knot_57 rfl (wlt hw (by decide)) (vp_in_nI (by have : ¬ zq = 24 := fun z => zc42 (by rw [z]; rfl); omega) (by decide)) ?_
          refine ev_eqH (h' := sI h 68 (upd (h.2.1 68) zq a)) (by rw [show Int32.toNatClampNeg (nI zq) = zq from nI_clamp (by omega)] <;> rfl) ?_
          refine ev_aload_n (pc := 58) dX11_knot_58 rfl ?_
          refine ev_dup (pc := 59) dX11_knot_59 rfl ?_
          refine ev_getI (pc := 60) dX11_knot_60 fX11_240 rfl (wlt (wf_sI hw) (by decide)) ?_
          refine ev_eqI (e' := h.2.1 49 35) (by rfl) ?_
          refine ev_eqI (e' := nI zq) hq ?_
          refine ev_iconst (pc := 63) (v := 1) dX11_knot_63 (by decide) ?_
          refine ev_iadd (pc := 64) dX11_knot_64 ?_
          refine ev_eqI (e' := nI (zq + 1)) (nI_add zq 1) ?_
          refine ev_putI (pc := 65) dX11_knot_65 fX11_240 rfl (wlt (wf_sI hw) (by decide)) ?_
          refine ev_eqH (h' := sI (sI h 68 (upd (h.2.1 68) zq a)) 49 (upd (h.2.1 49) 35 (nI (zq + 1)))) (by rfl) ?_
          refine ev_aload_n (pc := 68) dX11_knot_68 rfl ?_
          refine ev_getI (pc := 69) dX11_knot_69 fX11_240 rfl (wlt (wf_sI (wf_sI hw)) (by decide)) ?_
          refine ev_eqI (e' := nI (zq + 1)) (by rfl) ?_
          refine ev_iret (pc := 72) dX11_knot_72 rfl ?_ ?_
          · rfl
          · simp only [bI_0, bI_n0, Classical.not_not] at *
            have hC : (0 ≤ a ∧ a ≤ 999) ∧ (zq = 0 ∨ h.2.1 68 (zq - 1) < a) := ⟨zc9, by first | exact Or.inl (nI_s0 (by omega) zc16) | exact Or.inr zc31⟩
            have h24 : ¬ zq = 24 := fun z => zc42 (by rw [z]; rfl)
            rw [if_pos hC, if_pos hC, if_neg h24, if_neg h24]
            exact ⟨rfl, rfl⟩
        · -- ne at 42: not taken
          refine ev_bipush (pc := 45) (v := (-3)) dX11_knot_45 (by decide) ?_
          refine ev_iret (pc := 47) dX11_knot_47 rfl ?_ ?_
          · rfl
          · simp only [bI_0, bI_n0, Classical.not_not] at *
            have hC : (0 ≤ a ∧ a ≤ 999) ∧ (zq = 0 ∨ h.2.1 68 (zq - 1) < a) := ⟨zc9, by first | exact Or.inl (nI_s0 (by omega) zc16) | exact Or.inr zc31⟩
            have h24 : zq = 24 := (nI_eq (by omega) (by decide)).mp zc42
            rw [if_pos hC, if_pos hC, if_pos h24, if_pos h24]
            exact ⟨rfl, rfl⟩
      · -- gt at 31: not taken
        refine ev_iconst (pc := 34) (v := (-1)) dX11_knot_34 (by decide) ?_
        refine ev_iret (pc := 35) dX11_knot_35 rfl ?_ ?_
        · rfl
        · simp only [bI_0, bI_n0, Classical.not_not] at *
          have hC : ¬ ((0 ≤ a ∧ a ≤ 999) ∧ (zq = 0 ∨ h.2.1 68 (zq - 1) < a)) := fun z => by
            first
            | exact zc9 z.1
            | exact z.2.elim (fun e => by subst e; exact absurd (by decide) zc16) (fun e => zc31 e)
          rw [if_neg hC, if_neg hC]
          exact ⟨rfl, rfl⟩
/-- slips by k among the first knots -/
def slF (f : Nat → Int32) (k : Int32) : Nat → Int32
  | 0 => 0
  | i + 1 => slF f k i + (if f (i + 1) - f i = k then 0 else 1)
theorem lp_slipped_4 (E : ME) (h : AH) (zq : Nat) (k : Int32) (hw : WF h) (hq : h.2.1 49 35 = nI (zq + 1)) (hq2 : zq + 1 ≤ 24) {post : PO} (K : Ev E mX11_slipped (rmm 0 0 0) (QM E 0 0 post) 0 0 45 [some (.ref 49), some (.int k), some (.int (slF (h.2.1 68) k zq)), some (.int (nI (zq + 1)))] [] h) : ∀ n i : Nat, i + n = zq → Ev E mX11_slipped (rmm 0 0 0) (QM E 0 0 post) 0 0 4 [some (.ref 49), some (.int k), some (.int (slF (h.2.1 68) k i)), some (.int (nI (i + 1)))] [] h := by
  intro n
  induction n with
  | zero =>
    intro i hi
    obtain rfl : zq = i := by omega
    refine ev_iload_n (pc := 4) dX11_slipped_4 rfl ?_
    refine ev_aload_n (pc := 5) dX11_slipped_5 rfl ?_
    refine ev_getI (pc := 6) dX11_slipped_6 fX11_240 rfl (wlt hw (by decide)) ?_
    refine ev_eqI (e' := nI (zq + 1)) hq ?_
    refine ev_icmp_ge (pc := 9) (tgt := 45) dX11_slipped_9 (by decide) (fun zc9 => ?_) (fun zc9 => absurd ((nI_leI (by omega) (by omega)).mpr (by omega)) zc9)
    exact K
  | succ n ih =>
    intro i hi
    have hlt : i < zq := by omega
    refine ev_iload_n (pc := 4) dX11_slipped_4 rfl ?_
    refine ev_aload_n (pc := 5) dX11_slipped_5 rfl ?_
    refine ev_getI (pc := 6) dX11_slipped_6 fX11_240 rfl (wlt hw (by decide)) ?_
    refine ev_eqI (e' := nI (zq + 1)) hq ?_
    refine ev_icmp_ge (pc := 9) (tgt := 45) dX11_slipped_9 (by decide) (fun zc9 => absurd zc9 (nI_ge (by omega) (by omega))) (fun zc9 => ?_)
    refine ev_iload_n (pc := 12) dX11_slipped_12 rfl ?_
    refine ev_aload_n (pc := 13) dX11_slipped_13 rfl ?_
    refine ev_getR (pc := 14) (q := 68) dX11_slipped_14 fX11_69 rfl (wlt hw (by decide)) (wr hw rfl) ?_
    refine ev_iload_n (pc := 17) dX11_slipped_17 rfl ?_
    refine ev_iald (pc := 18) dX11_slipped_18 rfl (wlt hw (by decide)) (vp_in_nI (by omega) (by decide)) ?_
    refine ev_eqI (e' := h.2.1 68 (i + 1)) (by rw [show Int32.toNatClampNeg (nI (i + 1)) = i + 1 from nI_clamp (by omega)] <;> rfl) ?_
    refine ev_aload_n (pc := 19) dX11_slipped_19 rfl ?_
    refine ev_getR (pc := 20) (q := 68) dX11_slipped_20 fX11_69 rfl (wlt hw (by decide)) (wr hw rfl) ?_
    refine ev_iload_n (pc := 23) dX11_slipped_23 rfl ?_
    refine ev_iconst (pc := 24) (v := 1) dX11_slipped_24 (by decide) ?_
    refine ev_isub (pc := 25) dX11_slipped_25 ?_
    refine ev_eqI (e' := nI i) (nI_pred _) ?_
    refine ev_iald (pc := 26) dX11_slipped_26 rfl (wlt hw (by decide)) (vp_in_nI (by omega) (by decide)) ?_
    refine ev_eqI (e' := h.2.1 68 i) (by rw [show Int32.toNatClampNeg (nI i) = i from nI_clamp (by omega)] <;> rfl) ?_
    refine ev_isub (pc := 27) dX11_slipped_27 ?_
    refine ev_iload_n (pc := 28) dX11_slipped_28 rfl ?_
    refine ev_icmp_ne (pc := 29) (tgt := 36) dX11_slipped_29 (by decide) (fun zc29 => ?_) (fun zc29 => ?_)
    · -- ne at 29: taken
      refine ev_iconst (pc := 36) (v := 1) dX11_slipped_36 (by decide) ?_
      refine ev_iadd (pc := 37) dX11_slipped_37 ?_
      refine ev_istore_n (pc := 38) (L' := [some (.ref 49), some (.int k), some (.int ((slF (h.2.1 68) k i) + 1)), some (.int (nI (i + 1)))]) dX11_slipped_38 (Nat.le_of_ble_eq_true rfl) rfl ?_
      refine ev_iinc (pc := 39) (v := nI (i + 1 + 1)) (L' := [some (.ref 49), some (.int k), some (.int ((slF (h.2.1 68) k i) + 1)), some (.int (nI (i + 1 + 1)))]) dX11_slipped_39 rfl (nI_1 _) (Nat.le_of_ble_eq_true rfl) rfl ?_
      refine ev_goto (pc := 42) (tgt := 4) dX11_slipped_42 (by decide) ?_
      refine ev_eqL (L' := [some (.ref 49), some (.int k), some (.int (slF (h.2.1 68) k (i + 1))), some (.int (nI ((i + 1) + 1)))]) (by first | rfl | (simp only [slF]; first | rw [if_pos zc29] | rw [if_neg zc29]) | (simp [slF, zc29]; done)) ?_
      exact ih (i + 1) (by omega)
    · -- ne at 29: not taken
      refine ev_iconst (pc := 32) (v := 0) dX11_slipped_32 (by decide) ?_
      refine ev_goto (pc := 33) (tgt := 37) dX11_slipped_33 (by decide) ?_
      refine ev_iadd (pc := 37) dX11_slipped_37 ?_
      refine ev_istore_n (pc := 38) (L' := [some (.ref 49), some (.int k), some (.int ((slF (h.2.1 68) k i) + 0)), some (.int (nI (i + 1)))]) dX11_slipped_38 (Nat.le_of_ble_eq_true rfl) rfl ?_
      refine ev_iinc (pc := 39) (v := nI (i + 1 + 1)) (L' := [some (.ref 49), some (.int k), some (.int ((slF (h.2.1 68) k i) + 0)), some (.int (nI (i + 1 + 1)))]) dX11_slipped_39 rfl (nI_1 _) (Nat.le_of_ble_eq_true rfl) rfl ?_
      refine ev_goto (pc := 42) (tgt := 4) dX11_slipped_42 (by decide) ?_
      refine ev_eqL (L' := [some (.ref 49), some (.int k), some (.int (slF (h.2.1 68) k (i + 1))), some (.int (nI ((i + 1) + 1)))]) (by first | rfl | (simp only [slF]; first | rw [if_pos zc29] | rw [if_neg zc29]) | (simp [slF, zc29]; done)) ?_
      exact ih (i + 1) (by omega)
theorem cn_X11_slipped (E : ME) (h : AH) (k : Int32) (zq : Nat) (hw : WF h) (hq : h.2.1 49 35 = nI (zq + 1)) (hq2 : zq + 1 ≤ 24) : Con E mX11_slipped 0 0 0 [.ref 49, .int k] h (fun r h' => r = some (.int (slF (h.2.1 68) k zq)) ∧ h' = h) := by
  refine con_of2 (L := [some (.ref 49), some (.int k), none, none]) rfl (Nat.le_of_ble_eq_true rfl) rfl ?_
  refine ev_iconst (pc := 0) (v := 0) dX11_slipped_0 (by decide) ?_
  refine ev_istore_n (pc := 1) (L' := [some (.ref 49), some (.int k), some (.int 0), none]) dX11_slipped_1 (Nat.le_of_ble_eq_true rfl) rfl ?_
  refine ev_iconst (pc := 2) (v := 1) dX11_slipped_2 (by decide) ?_
  refine ev_istore_n (pc := 3) (L' := [some (.ref 49), some (.int k), some (.int 0), some (.int 1)]) dX11_slipped_3 (Nat.le_of_ble_eq_true rfl) rfl ?_
  refine lp_slipped_4 E h zq k hw hq hq2 ?_ zq 0 (Nat.zero_add _)
  refine ev_iload_n (pc := 45) dX11_slipped_45 rfl ?_
  refine ev_iret (pc := 46) dX11_slipped_46 rfl ?_ ?_
  · rfl
  · exact ⟨rfl, rfl⟩
theorem cn_X11_at (E : ME) (h : AH) (c : Int32) (hw : WF h) : Con E mX11_at 2 0 0 [.ref 49, .int c] h (fun r h' => r = some (.int (if 0 ≤ c ∧ c ≤ 63 then h.2.1 69 c.toNatClampNeg else -9)) ∧ h' = h) := by
  refine con_of2 (L := [some (.ref 49), some (.int c)]) rfl (Nat.le_of_ble_eq_true rfl) rfl ?_
  refine ev_iload_n (pc := 0) dX11_at_0 rfl ?_
  refine ev_callSv (S := []) (pc := 1) dX11_at_1 kX11_isCell lX11_254 sX11_isCell (cn_X11_isCell E h c) rfl rfl (Nat.le_of_ble_eq_true rfl) ⟨Nat.le_of_ble_eq_true rfl, Nat.le_of_ble_eq_true rfl⟩ ⟨Nat.le_of_ble_eq_true rfl, Nat.le_of_ble_eq_true rfl⟩ ?_
  refine ev_if_eq (pc := 4) (tgt := 16) dX11_at_4 (by decide) (fun zc4 => ?_) (fun zc4 => ?_)
  · -- eq at 4: taken
    refine ev_bipush (pc := 16) (v := (-9)) dX11_at_16 (by decide) ?_
    refine ev_iret (pc := 18) dX11_at_18 rfl ?_ ?_
    · rfl
    · refine ⟨?_, rfl⟩
      simp only [bI_0, bI_n0, Classical.not_not] at *
      first | rw [if_pos zc4] | rw [if_neg zc4]
  · -- eq at 4: not taken
    refine ev_aload_n (pc := 7) dX11_at_7 rfl ?_
    refine ev_getR (pc := 8) (q := 69) dX11_at_8 fX11_72 rfl (wlt hw (by decide)) (wr hw rfl) ?_
    refine ev_iload_n (pc := 11) dX11_at_11 rfl ?_
    refine ev_iald (pc := 12) dX11_at_12 rfl (wlt hw (by decide)) (by simp only [bI_0, bI_n0, Classical.not_not] at *; exact vp_sm zc4.1 zc4.2 (by decide) (by decide)) ?_
    refine ev_goto (pc := 13) (tgt := 18) dX11_at_13 (by decide) ?_
    refine ev_iret (pc := 18) dX11_at_18 rfl ?_ ?_
    · rfl
    · refine ⟨?_, rfl⟩
      simp only [bI_0, bI_n0, Classical.not_not] at *
      first | rw [if_pos zc4] | rw [if_neg zc4]
theorem cn_X11_put (E : ME) (h : AH) (c v : Int32) (hw : WF h) : Con E mX11_put 2 0 0 [.ref 49, .int c, .int v] h (fun r h' => r = some (.int (if (0 ≤ c ∧ c ≤ 63) ∧ (-1 ≤ v ∧ v ≤ 5) then h.2.1 69 c.toNatClampNeg else -9)) ∧ h' = if (0 ≤ c ∧ c ≤ 63) ∧ (-1 ≤ v ∧ v ≤ 5) then sL (sI h 69 (upd (h.2.1 69) c.toNatClampNeg v)) 49 (vp_updL (h.2.2.1 49) 37 (h.2.2.1 49 37 &&& ((1 <<< (c.toInt64 &&& 63)) ^^^ (-1)))) else h) := by
  refine con_of2 (L := [some (.ref 49), some (.int c), some (.int v), none]) rfl (Nat.le_of_ble_eq_true rfl) rfl ?_
  refine ev_iload_n (pc := 0) dX11_put_0 rfl ?_
  refine ev_callSv (S := []) (pc := 1) dX11_put_1 kX11_isCell lX11_254 sX11_isCell (cn_X11_isCell E h c) rfl rfl (Nat.le_of_ble_eq_true rfl) ⟨Nat.le_of_ble_eq_true rfl, Nat.le_of_ble_eq_true rfl⟩ ⟨Nat.le_of_ble_eq_true rfl, Nat.le_of_ble_eq_true rfl⟩ ?_
  refine ev_if_eq (pc := 4) (tgt := 21) dX11_put_4 (by decide) (fun zc4 => ?_) (fun zc4 => ?_)
  · -- eq at 4: taken
    refine ev_bipush (pc := 21) (v := (-9)) dX11_put_21 (by decide) ?_
    refine ev_iret (pc := 23) dX11_put_23 rfl ?_ ?_
    · rfl
    · simp only [bI_0, bI_n0, Classical.not_not] at *
      have hC : ¬ ((0 ≤ c ∧ c ≤ 63) ∧ (-1 ≤ v ∧ v ≤ 5)) := fun q => by first | exact zc4 q.1 | exact zc18 q.2
      rw [if_neg hC]
      try rw [if_neg hC]
      exact ⟨rfl, rfl⟩
  · -- eq at 4: not taken
    refine ev_iload_n (pc := 7) dX11_put_7 rfl ?_
    refine ev_i2l (pc := 8) dX11_put_8 ?_
    refine ev_ldc2 (pc := 9) (v := (-1)) dX11_put_9 kcX11_220 ?_
    refine ev_ldc2 (pc := 12) (v := 5) dX11_put_12 kcX11_144 ?_
    refine ev_callSv (S := []) (pc := 15) dX11_put_15 kX11_in lX11_96 sX11_in (cn_X11_inC E h v (-1) 5 _ _ _ rfl (by decide) (by decide)) rfl rfl (Nat.le_of_ble_eq_true rfl) ⟨Nat.le_of_ble_eq_true rfl, Nat.le_of_ble_eq_true rfl⟩ ⟨Nat.le_of_ble_eq_true rfl, Nat.le_of_ble_eq_true rfl⟩ ?_
    refine ev_if_ne (pc := 18) (tgt := 24) dX11_put_18 (by decide) (fun zc18 => ?_) (fun zc18 => ?_)
    · -- ne at 18: taken
      refine ev_aload_n (pc := 24) dX11_put_24 rfl ?_
      refine ev_getR (pc := 25) (q := 69) dX11_put_25 fX11_72 rfl (wlt hw (by decide)) (wr hw rfl) ?_
      refine ev_iload_n (pc := 28) dX11_put_28 rfl ?_
      refine ev_iald (pc := 29) dX11_put_29 rfl (wlt hw (by decide)) (by simp only [bI_0, bI_n0, Classical.not_not] at *; exact vp_sm zc4.1 zc4.2 (by decide) (by decide)) ?_
      refine ev_istore_n (pc := 30) (L' := [some (.ref 49), some (.int c), some (.int v), some (.int (h.2.1 69 (Int32.toNatClampNeg c)))]) dX11_put_30 (Nat.le_of_ble_eq_true rfl) rfl ?_
      refine ev_aload_n (pc := 31) dX11_put_31 rfl ?_
      refine ev_getR (pc := 32) (q := 69) dX11_put_32 fX11_72 rfl (wlt hw (by decide)) (wr hw rfl) ?_
      refine ev_iload_n (pc := 35) dX11_put_35 rfl ?_
      refine ev_iload_n (pc := 36) dX11_put_36 rfl ?_
      refine ev_iast (pc := 37) dX11_put_37 rfl (wlt hw (by decide)) (by simp only [bI_0, bI_n0, Classical.not_not] at *; exact vp_sm zc4.1 zc4.2 (by decide) (by decide)) ?_
      refine ev_eqH (h' := sI h 69 (upd (h.2.1 69) (Int32.toNatClampNeg c) v)) (by rfl) ?_
      refine ev_aload_n (pc := 38) dX11_put_38 rfl ?_
      refine ev_dup (pc := 39) dX11_put_39 rfl ?_
      refine ev_getL (pc := 40) dX11_put_40 fX11_257 rfl (wlt (wf_sI hw) (by decide)) ?_
      refine ev_eqJ (e' := h.2.2.1 49 37) (by rfl) ?_
      refine ev_lconst (pc := 43) (v := 1) dX11_put_43 (by decide) ?_
      refine ev_iload_n (pc := 44) dX11_put_44 rfl ?_
      refine ev_lshl (pc := 45) dX11_put_45 ?_
      refine ev_ldc2 (pc := 46) (v := (-1)) dX11_put_46 kcX11_220 ?_
      refine ev_lxor (pc := 49) dX11_put_49 ?_
      refine ev_land (pc := 50) dX11_put_50 ?_
      refine ev_putL (pc := 51) dX11_put_51 fX11_257 rfl (wlt (wf_sI hw) (by decide)) ?_
      refine ev_eqH (h' := sL (sI h 69 (upd (h.2.1 69) (Int32.toNatClampNeg c) v)) 49 (vp_updL (h.2.2.1 49) 37 ((h.2.2.1 49 37) &&& ((1 <<< (Int32.toInt64 c &&& 63)) ^^^ (-1))))) (by rfl) ?_
      refine ev_iload_n (pc := 54) dX11_put_54 rfl ?_
      refine ev_iret (pc := 55) dX11_put_55 rfl ?_ ?_
      · rfl
      · simp only [bI_0, bI_n0, Classical.not_not] at *
        have hC : (0 ≤ c ∧ c ≤ 63) ∧ (-1 ≤ v ∧ v ≤ 5) := ⟨zc4, zc18⟩
        rw [if_pos hC]
        try rw [if_pos hC]
        exact ⟨rfl, rfl⟩
    · -- ne at 18: not taken
      refine ev_bipush (pc := 21) (v := (-9)) dX11_put_21 (by decide) ?_
      refine ev_iret (pc := 23) dX11_put_23 rfl ?_ ?_
      · rfl
      · simp only [bI_0, bI_n0, Classical.not_not] at *
        have hC : ¬ ((0 ≤ c ∧ c ≤ 63) ∧ (-1 ≤ v ∧ v ≤ 5)) := fun q => by first | exact zc4 q.1 | exact zc18 q.2
        rw [if_neg hC]
        try rw [if_neg hC]
        exact ⟨rfl, rfl⟩
/-- how many of the first cells have a colour -/
def stF (f : Nat → Int32) (c : Int32) : Nat → Int32
  | 0 => 0
  | k + 1 => stF f c k + (if f k = c then 1 else 0)
theorem lp_stonesOf_4 (E : ME) (h : AH) (c : Int32) (hw : WF h) {post : PO} (K : Ev E mX11_stonesOf (rmm 0 0 0) (QM E 0 0 post) 0 0 34 [some (.ref 49), some (.int c), some (.int (stF (h.2.1 69) c 64)), some (.int (nI 64))] [] h) : ∀ n i : Nat, i + n = 64 → Ev E mX11_stonesOf (rmm 0 0 0) (QM E 0 0 post) 0 0 4 [some (.ref 49), some (.int c), some (.int (stF (h.2.1 69) c i)), some (.int (nI i))] [] h := by
  intro n
  induction n with
  | zero =>
    intro i hi
    obtain rfl : 64 = i := by omega
    refine ev_iload_n (pc := 4) dX11_stonesOf_4 rfl ?_
    refine ev_bipush (pc := 5) (v := 64) dX11_stonesOf_5 (by decide) ?_
    refine ev_icmp_ge (pc := 7) (tgt := 34) dX11_stonesOf_7 (by decide) (fun zc7 => ?_) (fun zc7 => absurd (by decide) zc7)
    exact K
  | succ n ih =>
    intro i hi
    have hlt : i < 64 := by omega
    refine ev_iload_n (pc := 4) dX11_stonesOf_4 rfl ?_
    refine ev_bipush (pc := 5) (v := 64) dX11_stonesOf_5 (by decide) ?_
    refine ev_icmp_ge (pc := 7) (tgt := 34) dX11_stonesOf_7 (by decide) (fun zc7 => absurd zc7 (nI_ge hlt (by decide))) (fun zc7 => ?_)
    refine ev_iload_n (pc := 10) dX11_stonesOf_10 rfl ?_
    refine ev_aload_n (pc := 11) dX11_stonesOf_11 rfl ?_
    refine ev_getR (pc := 12) (q := 69) dX11_stonesOf_12 fX11_72 rfl (wlt hw (by decide)) (wr hw rfl) ?_
    refine ev_iload_n (pc := 15) dX11_stonesOf_15 rfl ?_
    refine ev_iald (pc := 16) dX11_stonesOf_16 rfl (wlt hw (by decide)) (vp_in_nI (by omega) (by decide)) ?_
    refine ev_eqI (e' := h.2.1 69 i) (by rw [show Int32.toNatClampNeg (nI i) = i from nI_clamp (by omega)] <;> rfl) ?_
    refine ev_iload_n (pc := 17) dX11_stonesOf_17 rfl ?_
    refine ev_icmp_ne (pc := 18) (tgt := 25) dX11_stonesOf_18 (by decide) (fun zc18 => ?_) (fun zc18 => ?_)
    · -- ne at 18: taken
      refine ev_iconst (pc := 25) (v := 0) dX11_stonesOf_25 (by decide) ?_
      refine ev_iadd (pc := 26) dX11_stonesOf_26 ?_
      refine ev_istore_n (pc := 27) (L' := [some (.ref 49), some (.int c), some (.int ((stF (h.2.1 69) c i) + 0)), some (.int (nI i))]) dX11_stonesOf_27 (Nat.le_of_ble_eq_true rfl) rfl ?_
      refine ev_iinc (pc := 28) (v := nI (i + 1)) (L' := [some (.ref 49), some (.int c), some (.int ((stF (h.2.1 69) c i) + 0)), some (.int (nI (i + 1)))]) dX11_stonesOf_28 rfl (nI_1 _) (Nat.le_of_ble_eq_true rfl) rfl ?_
      refine ev_goto (pc := 31) (tgt := 4) dX11_stonesOf_31 (by decide) ?_
      refine ev_eqL (L' := [some (.ref 49), some (.int c), some (.int (stF (h.2.1 69) c (i + 1))), some (.int (nI (i + 1)))]) (by first | rfl | (simp only [stF]; first | rw [if_pos zc18] | rw [if_neg zc18]) | (simp [stF, zc18]; done)) ?_
      exact ih (i + 1) (by omega)
    · -- ne at 18: not taken
      refine ev_iconst (pc := 21) (v := 1) dX11_stonesOf_21 (by decide) ?_
      refine ev_goto (pc := 22) (tgt := 26) dX11_stonesOf_22 (by decide) ?_
      refine ev_iadd (pc := 26) dX11_stonesOf_26 ?_
      refine ev_istore_n (pc := 27) (L' := [some (.ref 49), some (.int c), some (.int ((stF (h.2.1 69) c i) + 1)), some (.int (nI i))]) dX11_stonesOf_27 (Nat.le_of_ble_eq_true rfl) rfl ?_
      refine ev_iinc (pc := 28) (v := nI (i + 1)) (L' := [some (.ref 49), some (.int c), some (.int ((stF (h.2.1 69) c i) + 1)), some (.int (nI (i + 1)))]) dX11_stonesOf_28 rfl (nI_1 _) (Nat.le_of_ble_eq_true rfl) rfl ?_
      refine ev_goto (pc := 31) (tgt := 4) dX11_stonesOf_31 (by decide) ?_
      refine ev_eqL (L' := [some (.ref 49), some (.int c), some (.int (stF (h.2.1 69) c (i + 1))), some (.int (nI (i + 1)))]) (by first | rfl | (simp only [stF]; first | rw [if_pos zc18] | rw [if_neg zc18]) | (simp [stF, zc18]; done)) ?_
      exact ih (i + 1) (by omega)
theorem cn_X11_stonesOf (E : ME) (h : AH) (c : Int32) (hw : WF h) : Con E mX11_stonesOf 0 0 0 [.ref 49, .int c] h (fun r h' => r = some (.int (stF (h.2.1 69) c 64)) ∧ h' = h) := by
  refine con_of2 (L := [some (.ref 49), some (.int c), none, none]) rfl (Nat.le_of_ble_eq_true rfl) rfl ?_
  refine ev_iconst (pc := 0) (v := 0) dX11_stonesOf_0 (by decide) ?_
  refine ev_istore_n (pc := 1) (L' := [some (.ref 49), some (.int c), some (.int 0), none]) dX11_stonesOf_1 (Nat.le_of_ble_eq_true rfl) rfl ?_
  refine ev_iconst (pc := 2) (v := 0) dX11_stonesOf_2 (by decide) ?_
  refine ev_istore_n (pc := 3) (L' := [some (.ref 49), some (.int c), some (.int 0), some (.int 0)]) dX11_stonesOf_3 (Nat.le_of_ble_eq_true rfl) rfl ?_
  refine lp_stonesOf_4 E h c hw ?_ 64 0 (Nat.zero_add _)
  refine ev_iload_n (pc := 34) dX11_stonesOf_34 rfl ?_
  refine ev_iret (pc := 35) dX11_stonesOf_35 rfl ?_ ?_
  · rfl
  · exact ⟨rfl, rfl⟩
theorem cn_X11_stones (E : ME) (h : AH) (c : Int32) (hw : WF h) : Con E mX11_stones 2 0 0 [.ref 49, .int c] h (fun r h' => r = some (.int (if 0 ≤ c ∧ c ≤ 5 then stF (h.2.1 69) c 64 else -1)) ∧ h' = h) := by
  refine con_of2 (L := [some (.ref 49), some (.int c)]) rfl (Nat.le_of_ble_eq_true rfl) rfl ?_
  refine ev_iload_n (pc := 0) dX11_stones_0 rfl ?_
  refine ev_callSv (S := []) (pc := 1) dX11_stones_1 kX11_isColour lX11_190 sX11_isColour (cn_X11_isColour E h c) rfl rfl (Nat.le_of_ble_eq_true rfl) ⟨Nat.le_of_ble_eq_true rfl, Nat.le_of_ble_eq_true rfl⟩ ⟨Nat.le_of_ble_eq_true rfl, Nat.le_of_ble_eq_true rfl⟩ ?_
  refine ev_if_eq (pc := 4) (tgt := 15) dX11_stones_4 (by decide) (fun zc4 => ?_) (fun zc4 => ?_)
  · -- eq at 4: taken
    refine ev_iconst (pc := 15) (v := (-1)) dX11_stones_15 (by decide) ?_
    refine ev_iret (pc := 16) dX11_stones_16 rfl ?_ ?_
    · rfl
    · refine ⟨?_, rfl⟩
      simp only [bI_0, bI_n0, Classical.not_not] at *
      first | rw [if_pos zc4] | rw [if_neg zc4]
  · -- eq at 4: not taken
    refine ev_aload_n (pc := 7) dX11_stones_7 rfl ?_
    refine ev_iload_n (pc := 8) dX11_stones_8 rfl ?_
    refine ev_callVv (S := []) (pc := 9) dX11_stones_9 kX11_stonesOf lX11_318 vX11_stonesOf (cn_X11_stonesOf E h c hw) rfl rfl (wlt hw (by decide)) rfl rfl (Nat.le_of_ble_eq_true rfl) ⟨Nat.le_of_ble_eq_true rfl, Nat.le_of_ble_eq_true rfl⟩ ⟨Nat.le_of_ble_eq_true rfl, Nat.le_of_ble_eq_true rfl⟩ ?_
    refine ev_goto (pc := 12) (tgt := 16) dX11_stones_12 (by decide) ?_
    refine ev_iret (pc := 16) dX11_stones_16 rfl ?_ ?_
    · rfl
    · refine ⟨?_, rfl⟩
      simp only [bI_0, bI_n0, Classical.not_not] at *
      first | rw [if_pos zc4] | rw [if_neg zc4]
