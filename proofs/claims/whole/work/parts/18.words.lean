def wdI (a b : Int32) : Int32 := if b = -4 ∨ b = -1 then a else if a = -4 then b else if a = b then a else -2
def suI (a b : Int32) : Int32 := if a = -2 ∨ b = -2 then -2 else if a = -4 then b else if b = -4 ∨ a = b then a else -2
theorem cn_X11_word (E : ME) (h : AH) (za zb : Int32)  : Con E mX11_word 0 0 0 [.int za, .int zb] h (fun r h' => r = some (.int (wdI za zb)) ∧ h' = h) := by
  refine con_of2 (L := [some (.int za), some (.int zb)]) rfl (Nat.le_of_ble_eq_true rfl) rfl ?_
  refine ev_iload_n (pc := 0) dX11_word_0 rfl ?_
  refine ev_bipush (pc := 1) (v := (-4)) dX11_word_1 (by decide) ?_
  refine ev_icmp_eq (pc := 3) (tgt := 11) dX11_word_3 (by decide) (fun zc3 => ?_) (fun zc3 => ?_)
  · -- eq at 3: taken
    refine ev_iload_n (pc := 11) dX11_word_11 rfl ?_
    refine ev_goto (pc := 12) (tgt := 36) dX11_word_12 (by decide) ?_
    refine ev_iret (pc := 36) dX11_word_36 rfl ?_ ?_
    · rfl
    · refine ⟨?_, rfl⟩
      simp [wdI, *]
  · -- eq at 3: not taken
    refine ev_iload_n (pc := 6) dX11_word_6 rfl ?_
    refine ev_iconst (pc := 7) (v := (-1)) dX11_word_7 (by decide) ?_
    refine ev_icmp_ne (pc := 8) (tgt := 15) dX11_word_8 (by decide) (fun zc8 => ?_) (fun zc8 => ?_)
    · -- ne at 8: taken
      refine ev_iload_n (pc := 15) dX11_word_15 rfl ?_
      refine ev_bipush (pc := 16) (v := (-4)) dX11_word_16 (by decide) ?_
      refine ev_icmp_ne (pc := 18) (tgt := 25) dX11_word_18 (by decide) (fun zc18 => ?_) (fun zc18 => ?_)
      · -- ne at 18: taken
        refine ev_iload_n (pc := 25) dX11_word_25 rfl ?_
        refine ev_iload_n (pc := 26) dX11_word_26 rfl ?_
        refine ev_icmp_ne (pc := 27) (tgt := 34) dX11_word_27 (by decide) (fun zc27 => ?_) (fun zc27 => ?_)
        · -- ne at 27: taken
          refine ev_bipush (pc := 34) (v := (-2)) dX11_word_34 (by decide) ?_
          refine ev_iret (pc := 36) dX11_word_36 rfl ?_ ?_
          · rfl
          · refine ⟨?_, rfl⟩
            simp [wdI, *]
        · -- ne at 27: not taken
          refine ev_iload_n (pc := 30) dX11_word_30 rfl ?_
          refine ev_goto (pc := 31) (tgt := 36) dX11_word_31 (by decide) ?_
          refine ev_iret (pc := 36) dX11_word_36 rfl ?_ ?_
          · rfl
          · refine ⟨?_, rfl⟩
            simp [wdI, *]
      · -- ne at 18: not taken
        refine ev_iload_n (pc := 21) dX11_word_21 rfl ?_
        refine ev_goto (pc := 22) (tgt := 36) dX11_word_22 (by decide) ?_
        refine ev_iret (pc := 36) dX11_word_36 rfl ?_ ?_
        · rfl
        · refine ⟨?_, rfl⟩
          simp [wdI, *]
    · -- ne at 8: not taken
      refine ev_iload_n (pc := 11) dX11_word_11 rfl ?_
      refine ev_goto (pc := 12) (tgt := 36) dX11_word_12 (by decide) ?_
      refine ev_iret (pc := 36) dX11_word_36 rfl ?_ ?_
      · rfl
      · refine ⟨?_, rfl⟩
        simp [wdI, *]
theorem cn_X11_sureOf (E : ME) (h : AH) (zk : Nat) (hw : WF h) (hk : zk < 64) : Con E mX11_sureOf 0 0 0 [.ref 49, .int (nI zk)] h (fun r h' => r = some (.int (suI (h.2.1 70 zk) (h.2.1 71 zk))) ∧ h' = h) := by
  refine con_of2 (L := [some (.ref 49), some (.int (nI zk)), none, none]) rfl (Nat.le_of_ble_eq_true rfl) rfl ?_
  refine ev_aload_n (pc := 0) dX11_sureOf_0 rfl ?_
  refine ev_getR (pc := 1) (q := 70) dX11_sureOf_1 fX11_75 rfl (wlt hw (by decide)) (wr hw rfl) ?_
  refine ev_iload_n (pc := 4) dX11_sureOf_4 rfl ?_
  refine ev_iald (pc := 5) dX11_sureOf_5 rfl (wlt hw (by decide)) (vp_in_nI (by omega) (by decide)) ?_
  refine ev_eqI (e' := h.2.1 70 zk) (by rw [show Int32.toNatClampNeg (nI zk) = zk from nI_clamp (by omega)] <;> rfl) ?_
  refine ev_istore_n (pc := 6) (L' := [some (.ref 49), some (.int (nI zk)), some (.int (h.2.1 70 zk)), none]) dX11_sureOf_6 (Nat.le_of_ble_eq_true rfl) rfl ?_
  refine ev_aload_n (pc := 7) dX11_sureOf_7 rfl ?_
  refine ev_getR (pc := 8) (q := 71) dX11_sureOf_8 fX11_78 rfl (wlt hw (by decide)) (wr hw rfl) ?_
  refine ev_iload_n (pc := 11) dX11_sureOf_11 rfl ?_
  refine ev_iald (pc := 12) dX11_sureOf_12 rfl (wlt hw (by decide)) (vp_in_nI (by omega) (by decide)) ?_
  refine ev_eqI (e' := h.2.1 71 zk) (by rw [show Int32.toNatClampNeg (nI zk) = zk from nI_clamp (by omega)] <;> rfl) ?_
  refine ev_istore_n (pc := 13) (L' := [some (.ref 49), some (.int (nI zk)), some (.int (h.2.1 70 zk)), some (.int (h.2.1 71 zk))]) dX11_sureOf_13 (Nat.le_of_ble_eq_true rfl) rfl ?_
  refine ev_iload_n (pc := 14) dX11_sureOf_14 rfl ?_
  refine ev_bipush (pc := 15) (v := (-2)) dX11_sureOf_15 (by decide) ?_
  refine ev_icmp_eq (pc := 17) (tgt := 26) dX11_sureOf_17 (by decide) (fun zc17 => ?_) (fun zc17 => ?_)
  · -- eq at 17: taken
    refine ev_bipush (pc := 26) (v := (-2)) dX11_sureOf_26 (by decide) ?_
    refine ev_goto (pc := 28) (tgt := 58) dX11_sureOf_28 (by decide) ?_
    refine ev_iret (pc := 58) dX11_sureOf_58 rfl ?_ ?_
    · rfl
    · refine ⟨?_, rfl⟩
      simp [suI, *]
  · -- eq at 17: not taken
    refine ev_iload_n (pc := 20) dX11_sureOf_20 rfl ?_
    refine ev_bipush (pc := 21) (v := (-2)) dX11_sureOf_21 (by decide) ?_
    refine ev_icmp_ne (pc := 23) (tgt := 31) dX11_sureOf_23 (by decide) (fun zc23 => ?_) (fun zc23 => ?_)
    · -- ne at 23: taken
      refine ev_iload_n (pc := 31) dX11_sureOf_31 rfl ?_
      refine ev_bipush (pc := 32) (v := (-4)) dX11_sureOf_32 (by decide) ?_
      refine ev_icmp_ne (pc := 34) (tgt := 41) dX11_sureOf_34 (by decide) (fun zc34 => ?_) (fun zc34 => ?_)
      · -- ne at 34: taken
        refine ev_iload_n (pc := 41) dX11_sureOf_41 rfl ?_
        refine ev_bipush (pc := 42) (v := (-4)) dX11_sureOf_42 (by decide) ?_
        refine ev_icmp_eq (pc := 44) (tgt := 52) dX11_sureOf_44 (by decide) (fun zc44 => ?_) (fun zc44 => ?_)
        · -- eq at 44: taken
          refine ev_iload_n (pc := 52) dX11_sureOf_52 rfl ?_
          refine ev_goto (pc := 53) (tgt := 58) dX11_sureOf_53 (by decide) ?_
          refine ev_iret (pc := 58) dX11_sureOf_58 rfl ?_ ?_
          · rfl
          · refine ⟨?_, rfl⟩
            simp [suI, *]
        · -- eq at 44: not taken
          refine ev_iload_n (pc := 47) dX11_sureOf_47 rfl ?_
          refine ev_iload_n (pc := 48) dX11_sureOf_48 rfl ?_
          refine ev_icmp_ne (pc := 49) (tgt := 56) dX11_sureOf_49 (by decide) (fun zc49 => ?_) (fun zc49 => ?_)
          · -- ne at 49: taken
            refine ev_bipush (pc := 56) (v := (-2)) dX11_sureOf_56 (by decide) ?_
            refine ev_iret (pc := 58) dX11_sureOf_58 rfl ?_ ?_
            · rfl
            · refine ⟨?_, rfl⟩
              simp [suI, *]
          · -- ne at 49: not taken
            refine ev_iload_n (pc := 52) dX11_sureOf_52 rfl ?_
            refine ev_goto (pc := 53) (tgt := 58) dX11_sureOf_53 (by decide) ?_
            refine ev_iret (pc := 58) dX11_sureOf_58 rfl ?_ ?_
            · rfl
            · refine ⟨?_, rfl⟩
              simp [suI, *]
      · -- ne at 34: not taken
        refine ev_iload_n (pc := 37) dX11_sureOf_37 rfl ?_
        refine ev_goto (pc := 38) (tgt := 58) dX11_sureOf_38 (by decide) ?_
        refine ev_iret (pc := 58) dX11_sureOf_58 rfl ?_ ?_
        · rfl
        · refine ⟨?_, rfl⟩
          simp [suI, *]
    · -- ne at 23: not taken
      refine ev_bipush (pc := 26) (v := (-2)) dX11_sureOf_26 (by decide) ?_
      refine ev_goto (pc := 28) (tgt := 58) dX11_sureOf_28 (by decide) ?_
      refine ev_iret (pc := 58) dX11_sureOf_58 rfl ?_ ?_
      · rfl
      · refine ⟨?_, rfl⟩
        simp [suI, *]
/-- does a way hold: of the first cells -/
def hoF (f : Nat → Int32) (zw : Nat) : Nat → Int32
  | 0 => 1
  | k + 1 => if ¬ hoF f zw k = 0 ∧ (f k = -1 ∨ f (srN 8 zw k) = -1 ∨ f k = f (srN 8 zw k)) then 1 else 0
theorem hoF_01 (f : Nat → Int32) (zw : Nat) : ∀ k, hoF f zw k = 0 ∨ hoF f zw k = 1
  | 0 => Or.inr rfl
  | k + 1 => (Decidable.em _).elim (fun z => Or.inr (if_pos z)) (fun z => Or.inl (if_neg z))
def syF (f : Nat → Int32) : Nat → Int32
  | 0 => 0
  | i + 1 => syF f i ||| (if hoF f (i + 1) 64 = 0 then (0 : Int32) else 1 <<< (nI (i + 1) &&& 31))
theorem lp_doesHold_4 (E : ME) (h : AH) (zw : Nat) (hw : WF h) (hw8 : zw < 8) {post : PO} (K : Ev E mX11_doesHold (rmm 1 0 0) (QM E 0 0 post) 0 0 67 [some (.ref 49), some (.int (nI zw)), some (.int (hoF (h.2.1 69) zw 64)), some (.int (nI 64)), none, none] [] h) : ∀ n i : Nat, i + n = 64 → Ev E mX11_doesHold (rmm 1 0 0) (QM E 0 0 post) 0 0 4 [some (.ref 49), some (.int (nI zw)), some (.int (hoF (h.2.1 69) zw i)), some (.int (nI i)), none, none] [] h := by
  intro n
  induction n with
  | zero =>
    intro i hi
    obtain rfl : 64 = i := by omega
    refine ev_iload_n (pc := 4) dX11_doesHold_4 rfl ?_
    refine ev_bipush (pc := 5) (v := 64) dX11_doesHold_5 (by decide) ?_
    refine ev_icmp_ge (pc := 7) (tgt := 67) dX11_doesHold_7 (by decide) (fun zc7 => ?_) (fun zc7 => absurd (by decide) zc7)
    exact K
  | succ n ih =>
    intro i hi
    have hlt : i < 64 := by omega
    refine ev_iload_n (pc := 4) dX11_doesHold_4 rfl ?_
    refine ev_bipush (pc := 5) (v := 64) dX11_doesHold_5 (by decide) ?_
    refine ev_icmp_ge (pc := 7) (tgt := 67) dX11_doesHold_7 (by decide) (fun zc7 => absurd zc7 (nI_ge hlt (by decide))) (fun zc7 => ?_)
    refine ev_aload_n (pc := 10) dX11_doesHold_10 rfl ?_
    refine ev_getR (pc := 11) (q := 69) dX11_doesHold_11 fX11_72 rfl (wlt hw (by decide)) (wr hw rfl) ?_
    refine ev_iload_n (pc := 14) dX11_doesHold_14 rfl ?_
    refine ev_iald (pc := 15) dX11_doesHold_15 rfl (wlt hw (by decide)) (vp_in_nI (by have z9 := (sr8 zw hw8 i (by omega)).2; omega) (by decide)) ?_
    refine ev_eqI (e' := h.2.1 69 i) (by rw [show Int32.toNatClampNeg (nI i) = i from nI_clamp (by have z9 := (sr8 zw hw8 i (by omega)).2; omega)] <;> rfl) ?_
    refine ev_istore (pc := 16) (L' := [some (.ref 49), some (.int (nI zw)), some (.int (hoF (h.2.1 69) zw i)), some (.int (nI i)), some (.int (h.2.1 69 i)), none]) dX11_doesHold_16 (Nat.le_of_ble_eq_true rfl) rfl ?_
    refine ev_aload_n (pc := 18) dX11_doesHold_18 rfl ?_
    refine ev_getR (pc := 19) (q := 69) dX11_doesHold_19 fX11_72 rfl (wlt hw (by decide)) (wr hw rfl) ?_
    refine ev_iload_n (pc := 22) dX11_doesHold_22 rfl ?_
    refine ev_bipush (pc := 23) (v := 8) dX11_doesHold_23 (by decide) ?_
    refine ev_iload_n (pc := 25) dX11_doesHold_25 rfl ?_
    refine ev_callSv (S := [.ref 69]) (pc := 26) dX11_doesHold_26 kX11_sourceOf lX11_268 sX11_sourceOf (cn_X11_src8 E h i zw hw (by omega) (by omega)) rfl rfl (Nat.le_of_ble_eq_true rfl) ⟨Nat.le_of_ble_eq_true rfl, Nat.le_of_ble_eq_true rfl⟩ ⟨Nat.le_of_ble_eq_true rfl, Nat.le_of_ble_eq_true rfl⟩ ?_
    refine ev_iald (pc := 29) dX11_doesHold_29 rfl (wlt hw (by decide)) (vp_in_nI (by have z9 := (sr8 zw hw8 i (by omega)).2; omega) (by decide)) ?_
    refine ev_eqI (e' := h.2.1 69 (srN 8 zw i)) (by rw [show Int32.toNatClampNeg (nI (srN 8 zw i)) = srN 8 zw i from nI_clamp (by have z9 := (sr8 zw hw8 i (by omega)).2; omega)] <;> rfl) ?_
    refine ev_istore (pc := 30) (L' := [some (.ref 49), some (.int (nI zw)), some (.int (hoF (h.2.1 69) zw i)), some (.int (nI i)), some (.int (h.2.1 69 i)), some (.int (h.2.1 69 (srN 8 zw i)))]) dX11_doesHold_30 (Nat.le_of_ble_eq_true rfl) rfl ?_
    refine ev_iload_n (pc := 32) dX11_doesHold_32 rfl ?_
    refine ev_if_eq (pc := 33) (tgt := 59) dX11_doesHold_33 (by decide) (fun zc33 => ?_) (fun zc33 => ?_)
    · -- eq at 33: taken
      refine ev_iconst (pc := 59) (v := 0) dX11_doesHold_59 (by decide) ?_
      refine ev_istore_n (pc := 60) (L' := [some (.ref 49), some (.int (nI zw)), some (.int 0), some (.int (nI i)), some (.int (h.2.1 69 i)), some (.int (h.2.1 69 (srN 8 zw i)))]) dX11_doesHold_60 (Nat.le_of_ble_eq_true rfl) rfl ?_
      refine ev_iinc (pc := 61) (v := nI (i + 1)) (L' := [some (.ref 49), some (.int (nI zw)), some (.int 0), some (.int (nI (i + 1))), some (.int (h.2.1 69 i)), some (.int (h.2.1 69 (srN 8 zw i)))]) dX11_doesHold_61 rfl (nI_1 _) (Nat.le_of_ble_eq_true rfl) rfl ?_
      refine ev_goto (pc := 64) (tgt := 4) dX11_doesHold_64 (by decide) ?_
      refine ev_eqL (L' := [some (.ref 49), some (.int (nI zw)), some (.int (hoF (h.2.1 69) zw (i + 1))), some (.int (nI (i + 1))), some (.int (h.2.1 69 i)), some (.int (h.2.1 69 (srN 8 zw i)))]) (by simp only [hoF]; simp [*]) ?_
      refine ev_less (L' := [some (.ref 49), some (.int (nI zw)), some (.int (hoF (h.2.1 69) zw (i + 1))), some (.int (nI (i + 1))), none, none]) (ls_keep (ls_keep (ls_keep (ls_keep (ls_drop (ls_drop (ls_nil _))))))) ?_
      exact ih (i + 1) (by omega)
    · -- eq at 33: not taken
      refine ev_iload (pc := 36) dX11_doesHold_36 rfl ?_
      refine ev_iconst (pc := 38) (v := (-1)) dX11_doesHold_38 (by decide) ?_
      refine ev_icmp_eq (pc := 39) (tgt := 55) dX11_doesHold_39 (by decide) (fun zc39 => ?_) (fun zc39 => ?_)
      · -- eq at 39: taken
        refine ev_iconst (pc := 55) (v := 1) dX11_doesHold_55 (by decide) ?_
        refine ev_goto (pc := 56) (tgt := 60) dX11_doesHold_56 (by decide) ?_
        refine ev_istore_n (pc := 60) (L' := [some (.ref 49), some (.int (nI zw)), some (.int 1), some (.int (nI i)), some (.int (h.2.1 69 i)), some (.int (h.2.1 69 (srN 8 zw i)))]) dX11_doesHold_60 (Nat.le_of_ble_eq_true rfl) rfl ?_
        refine ev_iinc (pc := 61) (v := nI (i + 1)) (L' := [some (.ref 49), some (.int (nI zw)), some (.int 1), some (.int (nI (i + 1))), some (.int (h.2.1 69 i)), some (.int (h.2.1 69 (srN 8 zw i)))]) dX11_doesHold_61 rfl (nI_1 _) (Nat.le_of_ble_eq_true rfl) rfl ?_
        refine ev_goto (pc := 64) (tgt := 4) dX11_doesHold_64 (by decide) ?_
        refine ev_eqL (L' := [some (.ref 49), some (.int (nI zw)), some (.int (hoF (h.2.1 69) zw (i + 1))), some (.int (nI (i + 1))), some (.int (h.2.1 69 i)), some (.int (h.2.1 69 (srN 8 zw i)))]) (by simp only [hoF]; simp [*]) ?_
        refine ev_less (L' := [some (.ref 49), some (.int (nI zw)), some (.int (hoF (h.2.1 69) zw (i + 1))), some (.int (nI (i + 1))), none, none]) (ls_keep (ls_keep (ls_keep (ls_keep (ls_drop (ls_drop (ls_nil _))))))) ?_
        exact ih (i + 1) (by omega)
      · -- eq at 39: not taken
        refine ev_iload (pc := 42) dX11_doesHold_42 rfl ?_
        refine ev_iconst (pc := 44) (v := (-1)) dX11_doesHold_44 (by decide) ?_
        refine ev_icmp_eq (pc := 45) (tgt := 55) dX11_doesHold_45 (by decide) (fun zc45 => ?_) (fun zc45 => ?_)
        · -- eq at 45: taken
          refine ev_iconst (pc := 55) (v := 1) dX11_doesHold_55 (by decide) ?_
          refine ev_goto (pc := 56) (tgt := 60) dX11_doesHold_56 (by decide) ?_
          refine ev_istore_n (pc := 60) (L' := [some (.ref 49), some (.int (nI zw)), some (.int 1), some (.int (nI i)), some (.int (h.2.1 69 i)), some (.int (h.2.1 69 (srN 8 zw i)))]) dX11_doesHold_60 (Nat.le_of_ble_eq_true rfl) rfl ?_
          refine ev_iinc (pc := 61) (v := nI (i + 1)) (L' := [some (.ref 49), some (.int (nI zw)), some (.int 1), some (.int (nI (i + 1))), some (.int (h.2.1 69 i)), some (.int (h.2.1 69 (srN 8 zw i)))]) dX11_doesHold_61 rfl (nI_1 _) (Nat.le_of_ble_eq_true rfl) rfl ?_
          refine ev_goto (pc := 64) (tgt := 4) dX11_doesHold_64 (by decide) ?_
          refine ev_eqL (L' := [some (.ref 49), some (.int (nI zw)), some (.int (hoF (h.2.1 69) zw (i + 1))), some (.int (nI (i + 1))), some (.int (h.2.1 69 i)), some (.int (h.2.1 69 (srN 8 zw i)))]) (by simp only [hoF]; simp [*]) ?_
          refine ev_less (L' := [some (.ref 49), some (.int (nI zw)), some (.int (hoF (h.2.1 69) zw (i + 1))), some (.int (nI (i + 1))), none, none]) (ls_keep (ls_keep (ls_keep (ls_keep (ls_drop (ls_drop (ls_nil _))))))) ?_
          exact ih (i + 1) (by omega)
        · -- eq at 45: not taken
          refine ev_iload (pc := 48) dX11_doesHold_48 rfl ?_
          refine ev_iload (pc := 50) dX11_doesHold_50 rfl ?_
          refine ev_icmp_ne (pc := 52) (tgt := 59) dX11_doesHold_52 (by decide) (fun zc52 => ?_) (fun zc52 => ?_)
          · -- ne at 52: taken
            refine ev_iconst (pc := 59) (v := 0) dX11_doesHold_59 (by decide) ?_
            refine ev_istore_n (pc := 60) (L' := [some (.ref 49), some (.int (nI zw)), some (.int 0), some (.int (nI i)), some (.int (h.2.1 69 i)), some (.int (h.2.1 69 (srN 8 zw i)))]) dX11_doesHold_60 (Nat.le_of_ble_eq_true rfl) rfl ?_
            refine ev_iinc (pc := 61) (v := nI (i + 1)) (L' := [some (.ref 49), some (.int (nI zw)), some (.int 0), some (.int (nI (i + 1))), some (.int (h.2.1 69 i)), some (.int (h.2.1 69 (srN 8 zw i)))]) dX11_doesHold_61 rfl (nI_1 _) (Nat.le_of_ble_eq_true rfl) rfl ?_
            refine ev_goto (pc := 64) (tgt := 4) dX11_doesHold_64 (by decide) ?_
            refine ev_eqL (L' := [some (.ref 49), some (.int (nI zw)), some (.int (hoF (h.2.1 69) zw (i + 1))), some (.int (nI (i + 1))), some (.int (h.2.1 69 i)), some (.int (h.2.1 69 (srN 8 zw i)))]) (by simp only [hoF]; simp [*]) ?_
            refine ev_less (L' := [some (.ref 49), some (.int (nI zw)), some (.int (hoF (h.2.1 69) zw (i + 1))), some (.int (nI (i + 1))), none, none]) (ls_keep (ls_keep (ls_keep (ls_keep (ls_drop (ls_drop (ls_nil _))))))) ?_
            exact ih (i + 1) (by omega)
          · -- ne at 52: not taken
            refine ev_iconst (pc := 55) (v := 1) dX11_doesHold_55 (by decide) ?_
            refine ev_goto (pc := 56) (tgt := 60) dX11_doesHold_56 (by decide) ?_
            refine ev_istore_n (pc := 60) (L' := [some (.ref 49), some (.int (nI zw)), some (.int 1), some (.int (nI i)), some (.int (h.2.1 69 i)), some (.int (h.2.1 69 (srN 8 zw i)))]) dX11_doesHold_60 (Nat.le_of_ble_eq_true rfl) rfl ?_
            refine ev_iinc (pc := 61) (v := nI (i + 1)) (L' := [some (.ref 49), some (.int (nI zw)), some (.int 1), some (.int (nI (i + 1))), some (.int (h.2.1 69 i)), some (.int (h.2.1 69 (srN 8 zw i)))]) dX11_doesHold_61 rfl (nI_1 _) (Nat.le_of_ble_eq_true rfl) rfl ?_
            refine ev_goto (pc := 64) (tgt := 4) dX11_doesHold_64 (by decide) ?_
            refine ev_eqL (L' := [some (.ref 49), some (.int (nI zw)), some (.int (hoF (h.2.1 69) zw (i + 1))), some (.int (nI (i + 1))), some (.int (h.2.1 69 i)), some (.int (h.2.1 69 (srN 8 zw i)))]) (by simp only [hoF]; simp [*]) ?_
            refine ev_less (L' := [some (.ref 49), some (.int (nI zw)), some (.int (hoF (h.2.1 69) zw (i + 1))), some (.int (nI (i + 1))), none, none]) (ls_keep (ls_keep (ls_keep (ls_keep (ls_drop (ls_drop (ls_nil _))))))) ?_
            exact ih (i + 1) (by omega)
theorem cn_X11_doesHold (E : ME) (h : AH) (zw : Nat) (hw : WF h) (hw8 : zw < 8) : Con E mX11_doesHold 1 0 0 [.ref 49, .int (nI zw)] h (fun r h' => r = some (.int (hoF (h.2.1 69) zw 64)) ∧ h' = h) := by
  refine con_of2 (L := [some (.ref 49), some (.int (nI zw)), none, none, none, none]) rfl (Nat.le_of_ble_eq_true rfl) rfl ?_
  refine ev_iconst (pc := 0) (v := 1) dX11_doesHold_0 (by decide) ?_
  refine ev_istore_n (pc := 1) (L' := [some (.ref 49), some (.int (nI zw)), some (.int 1), none, none, none]) dX11_doesHold_1 (Nat.le_of_ble_eq_true rfl) rfl ?_
  refine ev_iconst (pc := 2) (v := 0) dX11_doesHold_2 (by decide) ?_
  refine ev_istore_n (pc := 3) (L' := [some (.ref 49), some (.int (nI zw)), some (.int 1), some (.int 0), none, none]) dX11_doesHold_3 (Nat.le_of_ble_eq_true rfl) rfl ?_
  refine lp_doesHold_4 E h zw hw hw8 ?_ 64 0 (Nat.zero_add _)
  refine ev_iload_n (pc := 67) dX11_doesHold_67 rfl ?_
  refine ev_iret (pc := 68) dX11_doesHold_68 rfl ?_ ?_
  · rcases hoF_01 (h.2.1 69) zw 64 with z | z <;> rw [z] <;> rfl
  · exact ⟨rfl, rfl⟩
theorem lp_symmetries_4 (E : ME) (h : AH) (hw : WF h) {post : PO} (K : Ev E mX11_symmetries (rmm 2 0 0) (QM E 0 0 post) 0 0 34 [some (.ref 49), some (.int (syF (h.2.1 69) 7)), some (.int (nI (7 + 1)))] [] h) : ∀ n i : Nat, i + n = 7 → Ev E mX11_symmetries (rmm 2 0 0) (QM E 0 0 post) 0 0 4 [some (.ref 49), some (.int (syF (h.2.1 69) i)), some (.int (nI (i + 1)))] [] h := by
  intro n
  induction n with
  | zero =>
    intro i hi
    obtain rfl : 7 = i := by omega
    refine ev_iload_n (pc := 4) dX11_symmetries_4 rfl ?_
    refine ev_bipush (pc := 5) (v := 8) dX11_symmetries_5 (by decide) ?_
    refine ev_icmp_ge (pc := 7) (tgt := 34) dX11_symmetries_7 (by decide) (fun zc7 => ?_) (fun zc7 => absurd (by decide) zc7)
    exact K
  | succ n ih =>
    intro i hi
    have hlt : i < 7 := by omega
    refine ev_iload_n (pc := 4) dX11_symmetries_4 rfl ?_
    refine ev_bipush (pc := 5) (v := 8) dX11_symmetries_5 (by decide) ?_
    refine ev_icmp_ge (pc := 7) (tgt := 34) dX11_symmetries_7 (by decide) (fun zc7 => absurd zc7 (nI_ge (a := i + 1) (b := 8) (by omega) (by decide))) (fun zc7 => ?_)
    refine ev_iload_n (pc := 10) dX11_symmetries_10 rfl ?_
    refine ev_aload_n (pc := 11) dX11_symmetries_11 rfl ?_
    refine ev_iload_n (pc := 12) dX11_symmetries_12 rfl ?_
    refine ev_callVv (S := [.int (syF (h.2.1 69) i)]) (pc := 13) dX11_symmetries_13 kX11_doesHold lX11_300 vX11_doesHold (cn_X11_doesHold E h (i + 1) hw (by omega)) rfl rfl (wlt hw (by decide)) rfl rfl (Nat.le_of_ble_eq_true rfl) ⟨Nat.le_of_ble_eq_true rfl, Nat.le_of_ble_eq_true rfl⟩ ⟨Nat.le_of_ble_eq_true rfl, Nat.le_of_ble_eq_true rfl⟩ ?_
    refine ev_if_eq (pc := 16) (tgt := 25) dX11_symmetries_16 (by decide) (fun zc16 => ?_) (fun zc16 => ?_)
    · -- eq at 16: taken
      refine ev_iconst (pc := 25) (v := 0) dX11_symmetries_25 (by decide) ?_
      refine ev_ior (pc := 26) dX11_symmetries_26 ?_
      refine ev_istore_n (pc := 27) (L' := [some (.ref 49), some (.int ((syF (h.2.1 69) i) ||| 0)), some (.int (nI (i + 1)))]) dX11_symmetries_27 (Nat.le_of_ble_eq_true rfl) rfl ?_
      refine ev_iinc (pc := 28) (v := nI (i + 1 + 1)) (L' := [some (.ref 49), some (.int ((syF (h.2.1 69) i) ||| 0)), some (.int (nI (i + 1 + 1)))]) dX11_symmetries_28 rfl (nI_1 _) (Nat.le_of_ble_eq_true rfl) rfl ?_
      refine ev_goto (pc := 31) (tgt := 4) dX11_symmetries_31 (by decide) ?_
      refine ev_eqL (L' := [some (.ref 49), some (.int (syF (h.2.1 69) (i + 1))), some (.int (nI ((i + 1) + 1)))]) (by first | (simp only [syF]; first | rw [if_pos zc16] | rw [if_neg zc16]) | (simp [syF, zc16]; done)) ?_
      exact ih (i + 1) (by omega)
    · -- eq at 16: not taken
      refine ev_iconst (pc := 19) (v := 1) dX11_symmetries_19 (by decide) ?_
      refine ev_iload_n (pc := 20) dX11_symmetries_20 rfl ?_
      refine ev_ishl (pc := 21) dX11_symmetries_21 ?_
      refine ev_goto (pc := 22) (tgt := 26) dX11_symmetries_22 (by decide) ?_
      refine ev_ior (pc := 26) dX11_symmetries_26 ?_
      refine ev_istore_n (pc := 27) (L' := [some (.ref 49), some (.int ((syF (h.2.1 69) i) ||| (1 <<< ((nI (i + 1)) &&& 31)))), some (.int (nI (i + 1)))]) dX11_symmetries_27 (Nat.le_of_ble_eq_true rfl) rfl ?_
      refine ev_iinc (pc := 28) (v := nI (i + 1 + 1)) (L' := [some (.ref 49), some (.int ((syF (h.2.1 69) i) ||| (1 <<< ((nI (i + 1)) &&& 31)))), some (.int (nI (i + 1 + 1)))]) dX11_symmetries_28 rfl (nI_1 _) (Nat.le_of_ble_eq_true rfl) rfl ?_
      refine ev_goto (pc := 31) (tgt := 4) dX11_symmetries_31 (by decide) ?_
      refine ev_eqL (L' := [some (.ref 49), some (.int (syF (h.2.1 69) (i + 1))), some (.int (nI ((i + 1) + 1)))]) (by first | (simp only [syF]; first | rw [if_pos zc16] | rw [if_neg zc16]) | (simp [syF, zc16]; done)) ?_
      exact ih (i + 1) (by omega)
theorem cn_X11_symmetries (E : ME) (h : AH)  (hw : WF h) : Con E mX11_symmetries 2 0 0 [.ref 49] h (fun r h' => r = some (.int (syF (h.2.1 69) 7)) ∧ h' = h) := by
  refine con_of2 (L := [some (.ref 49), none, none]) rfl (Nat.le_of_ble_eq_true rfl) rfl ?_
  refine ev_iconst (pc := 0) (v := 0) dX11_symmetries_0 (by decide) ?_
  refine ev_istore_n (pc := 1) (L' := [some (.ref 49), some (.int 0), none]) dX11_symmetries_1 (Nat.le_of_ble_eq_true rfl) rfl ?_
  refine ev_iconst (pc := 2) (v := 1) dX11_symmetries_2 (by decide) ?_
  refine ev_istore_n (pc := 3) (L' := [some (.ref 49), some (.int 0), some (.int 1)]) dX11_symmetries_3 (Nat.le_of_ble_eq_true rfl) rfl ?_
  refine lp_symmetries_4 E h hw ?_ 7 0 (Nat.zero_add _)
  refine ev_iload_n (pc := 34) dX11_symmetries_34 rfl ?_
  refine ev_iret (pc := 35) dX11_symmetries_35 rfl ?_ ?_
  · rfl
  · exact ⟨rfl, rfl⟩
def rwF (f : Nat → Int32) : Nat → Int32
  | 0 => 0
  | t + 1 => rwF f t + (if 0 < f t then 1 else 0)
theorem lp_count_4 (E : ME) (h : AH) (m : Nat) (what : Int32) (hw : WF h) (hm : h.2.1 49 14 = nI m) (hm2 : m ≤ 12) {post : PO} (K : Ev E mX11_count (rmm 3 0 0) (QM E 0 0 post) 0 0 34 [some (.ref 49), some (.int what), some (.int (rwF (h.2.1 53) m)), some (.int (nI m))] [] h) : ∀ n i : Nat, i + n = m → Ev E mX11_count (rmm 3 0 0) (QM E 0 0 post) 0 0 4 [some (.ref 49), some (.int what), some (.int (rwF (h.2.1 53) i)), some (.int (nI i))] [] h := by
  intro n
  induction n with
  | zero =>
    intro i hi
    obtain rfl : m = i := by omega
    refine ev_iload_n (pc := 4) dX11_count_4 rfl ?_
    refine ev_aload_n (pc := 5) dX11_count_5 rfl ?_
    refine ev_getI (pc := 6) dX11_count_6 fX11_184 rfl (wlt hw (by decide)) ?_
    refine ev_icmp_ge (pc := 9) (tgt := 34) dX11_count_9 (by decide) (fun zc9 => ?_) (fun zc9 => absurd (by rw [hm]; exact (nI_leI (by omega) (by omega)).mpr (Nat.le_refl _)) zc9)
    exact K
  | succ n ih =>
    intro i hi
    have hlt : i < m := by omega
    refine ev_iload_n (pc := 4) dX11_count_4 rfl ?_
    refine ev_aload_n (pc := 5) dX11_count_5 rfl ?_
    refine ev_getI (pc := 6) dX11_count_6 fX11_184 rfl (wlt hw (by decide)) ?_
    refine ev_icmp_ge (pc := 9) (tgt := 34) dX11_count_9 (by decide) (fun zc9 => absurd zc9 (by rw [hm]; exact nI_ge hlt (by omega))) (fun zc9 => ?_)
    refine ev_iload_n (pc := 12) dX11_count_12 rfl ?_
    refine ev_aload_n (pc := 13) dX11_count_13 rfl ?_
    refine ev_iload_n (pc := 14) dX11_count_14 rfl ?_
    refine ev_callVv (S := [.int (rwF (h.2.1 53) i)]) (pc := 15) dX11_count_15 kX11_isRow lX11_226 vX11_isRow (cn_X11_isRow E h (nI i) m hw hm hm2) rfl rfl (wlt hw (by decide)) rfl rfl (Nat.le_of_ble_eq_true rfl) ⟨Nat.le_of_ble_eq_true rfl, Nat.le_of_ble_eq_true rfl⟩ ⟨Nat.le_of_ble_eq_true rfl, Nat.le_of_ble_eq_true rfl⟩ ?_
    refine ev_if_eq (pc := 18) (tgt := 25) dX11_count_18 (by decide) (fun zc18 => ?_) (fun zc18 => ?_)
    · -- eq at 18: taken
      refine ev_iconst (pc := 25) (v := 0) dX11_count_25 (by decide) ?_
      refine ev_iadd (pc := 26) dX11_count_26 ?_
      refine ev_istore_n (pc := 27) (L' := [some (.ref 49), some (.int what), some (.int ((rwF (h.2.1 53) i) + 0)), some (.int (nI i))]) dX11_count_27 (Nat.le_of_ble_eq_true rfl) rfl ?_
      refine ev_iinc (pc := 28) (v := nI (i + 1)) (L' := [some (.ref 49), some (.int what), some (.int ((rwF (h.2.1 53) i) + 0)), some (.int (nI (i + 1)))]) dX11_count_28 rfl (nI_1 _) (Nat.le_of_ble_eq_true rfl) rfl ?_
      refine ev_goto (pc := 31) (tgt := 4) dX11_count_31 (by decide) ?_
      refine ev_eqL (L' := [some (.ref 49), some (.int what), some (.int (rwF (h.2.1 53) (i + 1))), some (.int (nI (i + 1)))]) (by simp only [rwF]; rw [nI_clamp (by omega)] at zc18; simp only [bI_0, bI_n0, Classical.not_not] at zc18; first | rw [if_pos zc18.2] | rw [if_neg (fun z => zc18 ⟨⟨nI_pos' (by omega), by rw [hm, i_le, m1_toInt (by omega), nI_toInt (by omega)]; omega⟩, z⟩)]) ?_
      exact ih (i + 1) (by omega)
    · -- eq at 18: not taken
      refine ev_iconst (pc := 21) (v := 1) dX11_count_21 (by decide) ?_
      refine ev_goto (pc := 22) (tgt := 26) dX11_count_22 (by decide) ?_
      refine ev_iadd (pc := 26) dX11_count_26 ?_
      refine ev_istore_n (pc := 27) (L' := [some (.ref 49), some (.int what), some (.int ((rwF (h.2.1 53) i) + 1)), some (.int (nI i))]) dX11_count_27 (Nat.le_of_ble_eq_true rfl) rfl ?_
      refine ev_iinc (pc := 28) (v := nI (i + 1)) (L' := [some (.ref 49), some (.int what), some (.int ((rwF (h.2.1 53) i) + 1)), some (.int (nI (i + 1)))]) dX11_count_28 rfl (nI_1 _) (Nat.le_of_ble_eq_true rfl) rfl ?_
      refine ev_goto (pc := 31) (tgt := 4) dX11_count_31 (by decide) ?_
      refine ev_eqL (L' := [some (.ref 49), some (.int what), some (.int (rwF (h.2.1 53) (i + 1))), some (.int (nI (i + 1)))]) (by simp only [rwF]; rw [nI_clamp (by omega)] at zc18; simp only [bI_0, bI_n0, Classical.not_not] at zc18; first | rw [if_pos zc18.2] | rw [if_neg (fun z => zc18 ⟨⟨nI_pos' (by omega), by rw [hm, i_le, m1_toInt (by omega), nI_toInt (by omega)]; omega⟩, z⟩)]) ?_
      exact ih (i + 1) (by omega)
theorem cn_X11_count (E : ME) (h : AH) (what : Int32) (m : Nat) (hw : WF h) (hm : h.2.1 49 14 = nI m) (hm2 : m ≤ 12) : Con E mX11_count 3 0 0 [.ref 49, .int what] h (fun r h' => r = some (.int (if what = 0 then stF (h.2.1 69) (-1) 64 else if what = 1 then h.2.1 49 35 else if what = 2 then rwF (h.2.1 53) m else if what = 3 then h.2.1 49 14 - rwF (h.2.1 53) m else if what = 4 then h.2.1 49 1 else if what = 5 then (if h.2.1 73 0 = -4 then -4 else h.2.1 74 0) else -1)) ∧ h' = h) := by
  refine con_of2 (L := [some (.ref 49), some (.int what), none, none]) rfl (Nat.le_of_ble_eq_true rfl) rfl ?_
  refine ev_iconst (pc := 0) (v := 0) dX11_count_0 (by decide) ?_
  refine ev_istore_n (pc := 1) (L' := [some (.ref 49), some (.int what), some (.int 0), none]) dX11_count_1 (Nat.le_of_ble_eq_true rfl) rfl ?_
  refine ev_iconst (pc := 2) (v := 0) dX11_count_2 (by decide) ?_
  refine ev_istore_n (pc := 3) (L' := [some (.ref 49), some (.int what), some (.int 0), some (.int 0)]) dX11_count_3 (Nat.le_of_ble_eq_true rfl) rfl ?_
  refine lp_count_4 E h m what hw hm hm2 ?_ m 0 (Nat.zero_add _)
  refine ev_iload_n (pc := 34) dX11_count_34 rfl ?_
  refine ev_nmI (fun zsv ezsv => ?_)
  by_cases zq0 : zsv = 0
  · subst zq0
    refine ev_tabIn (pc := 35) (off := 37) (tgt := 72) dX11_count_35 (by decide) (by decide) (by decide +kernel) (by decide) ?_
    refine ev_aload_n (pc := 72) dX11_count_72 rfl ?_
    refine ev_iconst (pc := 73) (v := (-1)) dX11_count_73 (by decide) ?_
    refine ev_callVv (S := []) (pc := 74) dX11_count_74 kX11_stonesOf lX11_318 vX11_stonesOf (cn_X11_stonesOf E h (-1) hw) rfl rfl (wlt hw (by decide)) rfl rfl (Nat.le_of_ble_eq_true rfl) ⟨Nat.le_of_ble_eq_true rfl, Nat.le_of_ble_eq_true rfl⟩ ⟨Nat.le_of_ble_eq_true rfl, Nat.le_of_ble_eq_true rfl⟩ ?_
    refine ev_iret (pc := 77) dX11_count_77 rfl ?_ ?_
    · rfl
    · refine ⟨?_, rfl⟩
      subst ezsv
      simp [*]
  by_cases zq1 : zsv = 1
  · subst zq1
    refine ev_tabIn (pc := 35) (off := 43) (tgt := 78) dX11_count_35 (by decide) (by decide) (by decide +kernel) (by decide) ?_
    refine ev_aload_n (pc := 78) dX11_count_78 rfl ?_
    refine ev_getI (pc := 79) dX11_count_79 fX11_240 rfl (wlt hw (by decide)) ?_
    refine ev_iret (pc := 82) dX11_count_82 rfl ?_ ?_
    · rfl
    · refine ⟨?_, rfl⟩
      subst ezsv
      simp [*]
  by_cases zq2 : zsv = 2
  · subst zq2
    refine ev_tabIn (pc := 35) (off := 48) (tgt := 83) dX11_count_35 (by decide) (by decide) (by decide +kernel) (by decide) ?_
    refine ev_iload_n (pc := 83) dX11_count_83 rfl ?_
    refine ev_iret (pc := 84) dX11_count_84 rfl ?_ ?_
    · rfl
    · refine ⟨?_, rfl⟩
      subst ezsv
      simp [*]
  by_cases zq3 : zsv = 3
  · subst zq3
    refine ev_tabIn (pc := 35) (off := 50) (tgt := 85) dX11_count_35 (by decide) (by decide) (by decide +kernel) (by decide) ?_
    refine ev_aload_n (pc := 85) dX11_count_85 rfl ?_
    refine ev_getI (pc := 86) dX11_count_86 fX11_184 rfl (wlt hw (by decide)) ?_
    refine ev_iload_n (pc := 89) dX11_count_89 rfl ?_
    refine ev_isub (pc := 90) dX11_count_90 ?_
    refine ev_iret (pc := 91) dX11_count_91 rfl ?_ ?_
    · rfl
    · refine ⟨?_, rfl⟩
      subst ezsv
      simp [*]
  by_cases zq4 : zsv = 4
  · subst zq4
    refine ev_tabIn (pc := 35) (off := 57) (tgt := 92) dX11_count_35 (by decide) (by decide) (by decide +kernel) (by decide) ?_
    refine ev_aload_n (pc := 92) dX11_count_92 rfl ?_
    refine ev_getI (pc := 93) dX11_count_93 fX11_93 rfl (wlt hw (by decide)) ?_
    refine ev_iret (pc := 96) dX11_count_96 rfl ?_ ?_
    · rfl
    · refine ⟨?_, rfl⟩
      subst ezsv
      simp [*]
  by_cases zq5 : zsv = 5
  · subst zq5
    refine ev_tabIn (pc := 35) (off := 62) (tgt := 97) dX11_count_35 (by decide) (by decide) (by decide +kernel) (by decide) ?_
    refine ev_aload_n (pc := 97) dX11_count_97 rfl ?_
    refine ev_getR (pc := 98) (q := 73) dX11_count_98 fX11_84 rfl (wlt hw (by decide)) (wr hw rfl) ?_
    refine ev_iconst (pc := 101) (v := 0) dX11_count_101 (by decide) ?_
    refine ev_iald (pc := 102) dX11_count_102 rfl (wlt hw (by decide)) (vp_in_nI (n := 0) (by decide) (by decide)) ?_
    refine ev_eqI (e' := h.2.1 73 0) (by rfl) ?_
    refine ev_bipush (pc := 103) (v := (-4)) dX11_count_103 (by decide) ?_
    refine ev_icmp_ne (pc := 105) (tgt := 113) dX11_count_105 (by decide) (fun zc105 => ?_) (fun zc105 => ?_)
    · -- ne at 105: taken
      refine ev_aload_n (pc := 113) dX11_count_113 rfl ?_
      refine ev_getR (pc := 114) (q := 74) dX11_count_114 fX11_87 rfl (wlt hw (by decide)) (wr hw rfl) ?_
      refine ev_iconst (pc := 117) (v := 0) dX11_count_117 (by decide) ?_
      refine ev_iald (pc := 118) dX11_count_118 rfl (wlt hw (by decide)) (vp_in_nI (n := 0) (by decide) (by decide)) ?_
      refine ev_eqI (e' := h.2.1 74 0) (by rfl) ?_
      refine ev_iret (pc := 119) dX11_count_119 rfl ?_ ?_
      · rfl
      · refine ⟨?_, rfl⟩
        subst ezsv
        simp [*]
    · -- ne at 105: not taken
      refine ev_bipush (pc := 108) (v := (-4)) dX11_count_108 (by decide) ?_
      refine ev_goto (pc := 110) (tgt := 119) dX11_count_110 (by decide) ?_
      refine ev_iret (pc := 119) dX11_count_119 rfl ?_ ?_
      · rfl
      · refine ⟨?_, rfl⟩
        subst ezsv
        simp [*]
  have zhout : zsv.toInt < 0 ∨ 5 < zsv.toInt := by
    have nzq0 := i32_ne zq0
    have nzq1 := i32_ne zq1
    have nzq2 := i32_ne zq2
    have nzq3 := i32_ne zq3
    have nzq4 := i32_ne zq4
    have nzq5 := i32_ne zq5
    replace nzq0 : ¬ zsv.toInt = 0 := nzq0
    replace nzq1 : ¬ zsv.toInt = 1 := nzq1
    replace nzq2 : ¬ zsv.toInt = 2 := nzq2
    replace nzq3 : ¬ zsv.toInt = 3 := nzq3
    replace nzq4 : ¬ zsv.toInt = 4 := nzq4
    replace nzq5 : ¬ zsv.toInt = 5 := nzq5
    omega
  refine ev_tabOut (pc := 35) (tgt := 120) dX11_count_35 zhout (by decide) ?_
  refine ev_iconst (pc := 120) (v := (-1)) dX11_count_120 (by decide) ?_
  refine ev_iret (pc := 121) dX11_count_121 rfl ?_ ?_
  · rfl
  · refine ⟨?_, rfl⟩
    subst ezsv
    simp [*]
