/-- a square seen in a way: row and column after some quarter turns; where a cell comes from -/
def srS (sd r c : Int32) : Nat → Int32 × Int32
  | 0 => (r, c)
  | i + 1 => (sd - 1 - (srS sd r c i).2, (srS sd r c i).1)
def srI (sd c : Int32) (zw : Nat) : Int32 := sd * (srS sd (c / sd) (c - c / sd * sd) (zw % 4)).1 + (if 3 < zw then sd - 1 - (srS sd (c / sd) (c - c / sd * sd) (zw % 4)).2 else (srS sd (c / sd) (c - c / sd * sd) (zw % 4)).2)
def srN (sd zw c : Nat) : Nat := (srI (nI sd) (nI c) zw).toNatClampNeg
theorem sr4 : ∀ zw, zw < 8 → ∀ c, c < 16 → srI 4 (nI c) zw = nI (srN 4 zw c) ∧ srN 4 zw c < 16 := by decide +kernel
theorem sr8 : ∀ zw, zw < 8 → ∀ c, c < 64 → srI 8 (nI c) zw = nI (srN 8 zw c) ∧ srN 8 zw c < 64 := by decide +kernel
theorem lp_sourceOf_12 (E : ME) (h : AH) (c sd : Int32) (zw : Nat) (hw : WF h) (hw8 : zw < 8) {post : PO} (K : Ev E mX11_sourceOf (rmm 0 0 0) (QM E 0 0 post) 0 0 40 [some (.int c), some (.int sd), some (.int (nI zw)), some (.int ((srS sd (c / sd) (c - (c / sd) * sd) (zw % 4)).1)), some (.int ((srS sd (c / sd) (c - (c / sd) * sd) (zw % 4)).2)), some (.int (nI (zw % 4))), none] [] h) : ∀ n i : Nat, i + n = (zw % 4) → Ev E mX11_sourceOf (rmm 0 0 0) (QM E 0 0 post) 0 0 12 [some (.int c), some (.int sd), some (.int (nI zw)), some (.int ((srS sd (c / sd) (c - (c / sd) * sd) i).1)), some (.int ((srS sd (c / sd) (c - (c / sd) * sd) i).2)), some (.int (nI i)), none] [] h := by
  intro n
  induction n with
  | zero =>
    intro i hi
    obtain rfl : zw % 4 = i := by omega
    refine ev_iload (pc := 12) dX11_sourceOf_12 rfl ?_
    refine ev_iload_n (pc := 14) dX11_sourceOf_14 rfl ?_
    refine ev_iconst (pc := 15) (v := 4) dX11_sourceOf_15 (by decide) ?_
    refine ev_irem (pc := 16) dX11_sourceOf_16 (by decide) ?_
    refine ev_eqI (e' := nI (zw % 4)) (pk_rem (a := zw) (d := 4) (by omega) (by omega) (by omega)) ?_
    refine ev_icmp_ge (pc := 17) (tgt := 40) dX11_sourceOf_17 (by decide) (fun zc17 => ?_) (fun zc17 => absurd ((nI_leI (by omega) (by omega)).mpr (Nat.le_refl _)) zc17)
    exact K
  | succ n ih =>
    intro i hi
    have hlt : i < (zw % 4) := by omega
    refine ev_iload (pc := 12) dX11_sourceOf_12 rfl ?_
    refine ev_iload_n (pc := 14) dX11_sourceOf_14 rfl ?_
    refine ev_iconst (pc := 15) (v := 4) dX11_sourceOf_15 (by decide) ?_
    refine ev_irem (pc := 16) dX11_sourceOf_16 (by decide) ?_
    refine ev_eqI (e' := nI (zw % 4)) (pk_rem (a := zw) (d := 4) (by omega) (by omega) (by omega)) ?_
    refine ev_icmp_ge (pc := 17) (tgt := 40) dX11_sourceOf_17 (by decide) (fun zc17 => absurd zc17 (nI_ge hlt (by omega))) (fun zc17 => ?_)
    refine ev_iload_n (pc := 20) dX11_sourceOf_20 rfl ?_
    refine ev_istore (pc := 21) (L' := [some (.int c), some (.int sd), some (.int (nI zw)), some (.int ((srS sd (c / sd) (c - (c / sd) * sd) i).1)), some (.int ((srS sd (c / sd) (c - (c / sd) * sd) i).2)), some (.int (nI i)), some (.int ((srS sd (c / sd) (c - (c / sd) * sd) i).1))]) dX11_sourceOf_21 (Nat.le_of_ble_eq_true rfl) rfl ?_
    refine ev_iload_n (pc := 23) dX11_sourceOf_23 rfl ?_
    refine ev_iconst (pc := 24) (v := 1) dX11_sourceOf_24 (by decide) ?_
    refine ev_isub (pc := 25) dX11_sourceOf_25 ?_
    refine ev_iload (pc := 26) dX11_sourceOf_26 rfl ?_
    refine ev_isub (pc := 28) dX11_sourceOf_28 ?_
    refine ev_istore_n (pc := 29) (L' := [some (.int c), some (.int sd), some (.int (nI zw)), some (.int ((sd - 1) - ((srS sd (c / sd) (c - (c / sd) * sd) i).2))), some (.int ((srS sd (c / sd) (c - (c / sd) * sd) i).2)), some (.int (nI i)), some (.int ((srS sd (c / sd) (c - (c / sd) * sd) i).1))]) dX11_sourceOf_29 (Nat.le_of_ble_eq_true rfl) rfl ?_
    refine ev_iload (pc := 30) dX11_sourceOf_30 rfl ?_
    refine ev_istore (pc := 32) (L' := [some (.int c), some (.int sd), some (.int (nI zw)), some (.int ((sd - 1) - ((srS sd (c / sd) (c - (c / sd) * sd) i).2))), some (.int ((srS sd (c / sd) (c - (c / sd) * sd) i).1)), some (.int (nI i)), some (.int ((srS sd (c / sd) (c - (c / sd) * sd) i).1))]) dX11_sourceOf_32 (Nat.le_of_ble_eq_true rfl) rfl ?_
    refine ev_iinc (pc := 34) (v := nI (i + 1)) (L' := [some (.int c), some (.int sd), some (.int (nI zw)), some (.int ((sd - 1) - ((srS sd (c / sd) (c - (c / sd) * sd) i).2))), some (.int ((srS sd (c / sd) (c - (c / sd) * sd) i).1)), some (.int (nI (i + 1))), some (.int ((srS sd (c / sd) (c - (c / sd) * sd) i).1))]) dX11_sourceOf_34 rfl (nI_1 _) (Nat.le_of_ble_eq_true rfl) rfl ?_
    refine ev_goto (pc := 37) (tgt := 12) dX11_sourceOf_37 (by decide) ?_
    refine ev_less (L' := [some (.int c), some (.int sd), some (.int (nI zw)), some (.int ((sd - 1) - ((srS sd (c / sd) (c - (c / sd) * sd) i).2))), some (.int ((srS sd (c / sd) (c - (c / sd) * sd) i).1)), some (.int (nI (i + 1))), none]) (ls_keep (ls_keep (ls_keep (ls_keep (ls_keep (ls_keep (ls_drop (ls_nil _)))))))) ?_
    exact ih (i + 1) (by omega)
theorem cn_X11_sourceOf (E : ME) (h : AH) (c sd : Int32) (zw : Nat) (hw : WF h) (hw8 : zw < 8) (hs : ¬ sd = 0) : Con E mX11_sourceOf 0 0 0 [.int c, .int sd, .int (nI zw)] h (fun r h' => r = some (.int (srI sd c zw)) ∧ h' = h) := by
  refine con_of2 (L := [some (.int c), some (.int sd), some (.int (nI zw)), none, none, none, none]) rfl (Nat.le_of_ble_eq_true rfl) rfl ?_
  refine ev_iload_n (pc := 0) dX11_sourceOf_0 rfl ?_
  refine ev_iload_n (pc := 1) dX11_sourceOf_1 rfl ?_
  refine ev_idiv (pc := 2) dX11_sourceOf_2 hs ?_
  refine ev_istore_n (pc := 3) (L' := [some (.int c), some (.int sd), some (.int (nI zw)), some (.int (c / sd)), none, none, none]) dX11_sourceOf_3 (Nat.le_of_ble_eq_true rfl) rfl ?_
  refine ev_iload_n (pc := 4) dX11_sourceOf_4 rfl ?_
  refine ev_iload_n (pc := 5) dX11_sourceOf_5 rfl ?_
  refine ev_irem (pc := 6) dX11_sourceOf_6 hs ?_
  refine ev_istore (pc := 7) (L' := [some (.int c), some (.int sd), some (.int (nI zw)), some (.int (c / sd)), some (.int (c - c / sd * sd)), none, none]) dX11_sourceOf_7 (Nat.le_of_ble_eq_true rfl) rfl ?_
  refine ev_iconst (pc := 9) (v := 0) dX11_sourceOf_9 (by decide) ?_
  refine ev_istore (pc := 10) (L' := [some (.int c), some (.int sd), some (.int (nI zw)), some (.int (c / sd)), some (.int (c - c / sd * sd)), some (.int 0), none]) dX11_sourceOf_10 (Nat.le_of_ble_eq_true rfl) rfl ?_
  refine lp_sourceOf_12 E h c sd zw hw hw8 ?_ (zw % 4) 0 (Nat.zero_add _)
  refine ev_iload_n (pc := 40) dX11_sourceOf_40 rfl ?_
  refine ev_iconst (pc := 41) (v := 3) dX11_sourceOf_41 (by decide) ?_
  refine ev_icmp_le (pc := 42) (tgt := 54) dX11_sourceOf_42 (by decide) (fun zc42 => ?_) (fun zc42 => ?_)
  · -- le at 42: taken
    refine ev_iload (pc := 54) dX11_sourceOf_54 rfl ?_
    refine ev_istore (pc := 56) (L' := [some (.int c), some (.int sd), some (.int (nI zw)), some (.int ((srS sd (c / sd) (c - (c / sd) * sd) (zw % 4)).1)), some (.int ((srS sd (c / sd) (c - (c / sd) * sd) (zw % 4)).2)), some (.int (nI (zw % 4))), none]) dX11_sourceOf_56 (Nat.le_of_ble_eq_true rfl) rfl ?_
    refine ev_iload_n (pc := 58) dX11_sourceOf_58 rfl ?_
    refine ev_iload_n (pc := 59) dX11_sourceOf_59 rfl ?_
    refine ev_imul (pc := 60) dX11_sourceOf_60 ?_
    refine ev_iload (pc := 61) dX11_sourceOf_61 rfl ?_
    refine ev_iadd (pc := 63) dX11_sourceOf_63 ?_
    refine ev_iret (pc := 64) dX11_sourceOf_64 rfl ?_ ?_
    · rfl
    · refine ⟨?_, rfl⟩
      unfold srI
      first | rw [if_neg (by have := (nI_leI (a := zw) (b := 3) (by omega) (by decide)).mp zc42; omega)] | rw [if_pos (Nat.lt_of_not_le (fun z => zc42 ((nI_leI (a := zw) (b := 3) (by omega) (by decide)).mpr z)))]
  · -- le at 42: not taken
    refine ev_iload_n (pc := 45) dX11_sourceOf_45 rfl ?_
    refine ev_iconst (pc := 46) (v := 1) dX11_sourceOf_46 (by decide) ?_
    refine ev_isub (pc := 47) dX11_sourceOf_47 ?_
    refine ev_iload (pc := 48) dX11_sourceOf_48 rfl ?_
    refine ev_isub (pc := 50) dX11_sourceOf_50 ?_
    refine ev_goto (pc := 51) (tgt := 56) dX11_sourceOf_51 (by decide) ?_
    refine ev_istore (pc := 56) (L' := [some (.int c), some (.int sd), some (.int (nI zw)), some (.int ((srS sd (c / sd) (c - (c / sd) * sd) (zw % 4)).1)), some (.int ((sd - 1) - ((srS sd (c / sd) (c - (c / sd) * sd) (zw % 4)).2))), some (.int (nI (zw % 4))), none]) dX11_sourceOf_56 (Nat.le_of_ble_eq_true rfl) rfl ?_
    refine ev_iload_n (pc := 58) dX11_sourceOf_58 rfl ?_
    refine ev_iload_n (pc := 59) dX11_sourceOf_59 rfl ?_
    refine ev_imul (pc := 60) dX11_sourceOf_60 ?_
    refine ev_iload (pc := 61) dX11_sourceOf_61 rfl ?_
    refine ev_iadd (pc := 63) dX11_sourceOf_63 ?_
    refine ev_iret (pc := 64) dX11_sourceOf_64 rfl ?_ ?_
    · rfl
    · refine ⟨?_, rfl⟩
      unfold srI
      first | rw [if_neg (by have := (nI_leI (a := zw) (b := 3) (by omega) (by decide)).mp zc42; omega)] | rw [if_pos (Nat.lt_of_not_le (fun z => zc42 ((nI_leI (a := zw) (b := 3) (by omega) (by decide)).mpr z)))]
theorem cn_X11_src4 (E : ME) (h : AH) (c zw : Nat) (hw : WF h) (hc : c < 16) (hw8 : zw < 8) : Con E mX11_sourceOf 0 0 0 [.int (nI c), .int 4, .int (nI zw)] h (fun r h' => r = some (.int (nI (srN 4 zw c))) ∧ h' = h) := by
  have k := cn_X11_sourceOf E h (nI c) 4 zw hw hw8 (by decide)
  rw [(sr4 zw hw8 c hc).1] at k
  exact k
theorem cn_X11_src8 (E : ME) (h : AH) (c zw : Nat) (hw : WF h) (hc : c < 64) (hw8 : zw < 8) : Con E mX11_sourceOf 0 0 0 [.int (nI c), .int 8, .int (nI zw)] h (fun r h' => r = some (.int (nI (srN 8 zw c))) ∧ h' = h) := by
  have k := cn_X11_sourceOf E h (nI c) 8 zw hw hw8 (by decide)
  rw [(sr8 zw hw8 c hc).1] at k
  exact k
def spN (zs c k : Nat) : Nat := c + 8 * (k / (4 * zs)) + k % (4 * zs)
def tlN (f : Nat → Int32) (p zw zs k : Nat) : Int32 := f (16 * p + srN 4 zw (4 * (k / (4 * zs) / zs) + k % (4 * zs) / zs))
theorem cn_X11_spotOf (E : ME) (h : AH) (zs c k : Nat) (hw : WF h) (hsc : zs = 1 ∨ zs = 2) (hc : c < 64) (hk : k < 64) : Con E mX11_spotOf 0 0 0 [.int (nI zs), .int (nI c), .int (nI k)] h (fun r h' => r = some (.int (nI (spN zs c k))) ∧ h' = h) := by
  refine con_of2 (L := [some (.int (nI zs)), some (.int (nI c)), some (.int (nI k)), none]) rfl (Nat.le_of_ble_eq_true rfl) rfl ?_
  refine ev_iconst (pc := 0) (v := 4) dX11_spotOf_0 (by decide) ?_
  refine ev_iload_n (pc := 1) dX11_spotOf_1 rfl ?_
  refine ev_imul (pc := 2) dX11_spotOf_2 ?_
  refine ev_eqI (e' := nI (4 * zs)) (pk_mul 4 zs) ?_
  refine ev_istore_n (pc := 3) (L' := [some (.int (nI zs)), some (.int (nI c)), some (.int (nI k)), some (.int (nI (4 * zs)))]) dX11_spotOf_3 (Nat.le_of_ble_eq_true rfl) rfl ?_
  refine ev_iload_n (pc := 4) dX11_spotOf_4 rfl ?_
  refine ev_bipush (pc := 5) (v := 8) dX11_spotOf_5 (by decide) ?_
  refine ev_iload_n (pc := 7) dX11_spotOf_7 rfl ?_
  refine ev_iload_n (pc := 8) dX11_spotOf_8 rfl ?_
  refine ev_idiv (pc := 9) dX11_spotOf_9 (nI_ne0 (by rcases hsc with rfl | rfl <;> omega) (by rcases hsc with rfl | rfl <;> omega)) ?_
  refine ev_eqI (e' := nI (k / (4 * zs))) (pk_div (a := k) (d := 4 * zs) (by rcases hsc with rfl | rfl <;> omega) (by rcases hsc with rfl | rfl <;> omega) (by rcases hsc with rfl | rfl <;> omega)) ?_
  refine ev_imul (pc := 10) dX11_spotOf_10 ?_
  refine ev_eqI (e' := nI (8 * (k / (4 * zs)))) (pk_mul 8 (k / (4 * zs))) ?_
  refine ev_iadd (pc := 11) dX11_spotOf_11 ?_
  refine ev_eqI (e' := nI (c + (8 * (k / (4 * zs))))) (nI_add c (8 * (k / (4 * zs)))) ?_
  refine ev_iload_n (pc := 12) dX11_spotOf_12 rfl ?_
  refine ev_iload_n (pc := 13) dX11_spotOf_13 rfl ?_
  refine ev_irem (pc := 14) dX11_spotOf_14 (nI_ne0 (by rcases hsc with rfl | rfl <;> omega) (by rcases hsc with rfl | rfl <;> omega)) ?_
  refine ev_eqI (e' := nI (k % (4 * zs))) (pk_rem (a := k) (d := 4 * zs) (by rcases hsc with rfl | rfl <;> omega) (by rcases hsc with rfl | rfl <;> omega) (by rcases hsc with rfl | rfl <;> omega)) ?_
  refine ev_iadd (pc := 15) dX11_spotOf_15 ?_
  refine ev_eqI (e' := nI ((c + (8 * (k / (4 * zs)))) + (k % (4 * zs)))) (nI_add (c + (8 * (k / (4 * zs)))) (k % (4 * zs))) ?_
  refine ev_iret (pc := 16) dX11_spotOf_16 rfl ?_ ?_
  · rfl
  · exact ⟨rfl, rfl⟩
theorem cn_X11_tells (E : ME) (h : AH) (p zw zs k : Nat) (hw : WF h) (hsc : zs = 1 ∨ zs = 2) (hp : p < 4) (hw8 : zw < 8) (hk : k < 16 * zs * zs) : Con E mX11_tells 1 0 0 [.ref 49, .int (nI p), .int (nI zw), .int (nI zs), .int (nI k)] h (fun r h' => r = some (.int (tlN (h.2.1 56) p zw zs k)) ∧ h' = h) := by
  refine con_of2 (L := [some (.ref 49), some (.int (nI p)), some (.int (nI zw)), some (.int (nI zs)), some (.int (nI k)), none]) rfl (Nat.le_of_ble_eq_true rfl) rfl ?_
  refine ev_iconst (pc := 0) (v := 4) dX11_tells_0 (by decide) ?_
  refine ev_iload_n (pc := 1) dX11_tells_1 rfl ?_
  refine ev_imul (pc := 2) dX11_tells_2 ?_
  refine ev_eqI (e' := nI (4 * zs)) (pk_mul 4 zs) ?_
  refine ev_istore (pc := 3) (L' := [some (.ref 49), some (.int (nI p)), some (.int (nI zw)), some (.int (nI zs)), some (.int (nI k)), some (.int (nI (4 * zs)))]) dX11_tells_3 (Nat.le_of_ble_eq_true rfl) rfl ?_
  refine ev_aload_n (pc := 5) dX11_tells_5 rfl ?_
  refine ev_getR (pc := 6) (q := 56) dX11_tells_6 fX11_28 rfl (wlt hw (by decide)) (wr hw rfl) ?_
  refine ev_bipush (pc := 9) (v := 16) dX11_tells_9 (by decide) ?_
  refine ev_iload_n (pc := 11) dX11_tells_11 rfl ?_
  refine ev_imul (pc := 12) dX11_tells_12 ?_
  refine ev_eqI (e' := nI (16 * p)) (pk_mul 16 p) ?_
  refine ev_iconst (pc := 13) (v := 4) dX11_tells_13 (by decide) ?_
  refine ev_iload (pc := 14) dX11_tells_14 rfl ?_
  refine ev_iload (pc := 16) dX11_tells_16 rfl ?_
  refine ev_idiv (pc := 18) dX11_tells_18 (nI_ne0 (by rcases hsc with rfl | rfl <;> omega) (by rcases hsc with rfl | rfl <;> omega)) ?_
  refine ev_eqI (e' := nI (k / (4 * zs))) (pk_div (a := k) (d := 4 * zs) (by rcases hsc with rfl | rfl <;> omega) (by rcases hsc with rfl | rfl <;> omega) (by rcases hsc with rfl | rfl <;> omega)) ?_
  refine ev_iload_n (pc := 19) dX11_tells_19 rfl ?_
  refine ev_idiv (pc := 20) dX11_tells_20 (nI_ne0 (by rcases hsc with rfl | rfl <;> omega) (by rcases hsc with rfl | rfl <;> omega)) ?_
  refine ev_eqI (e' := nI ((k / (4 * zs)) / zs)) (pk_div (a := k / (4 * zs)) (d := zs) (by rcases hsc with rfl | rfl <;> omega) (by rcases hsc with rfl | rfl <;> omega) (by rcases hsc with rfl | rfl <;> omega)) ?_
  refine ev_imul (pc := 21) dX11_tells_21 ?_
  refine ev_eqI (e' := nI (4 * ((k / (4 * zs)) / zs))) (pk_mul 4 ((k / (4 * zs)) / zs)) ?_
  refine ev_iload (pc := 22) dX11_tells_22 rfl ?_
  refine ev_iload (pc := 24) dX11_tells_24 rfl ?_
  refine ev_irem (pc := 26) dX11_tells_26 (nI_ne0 (by rcases hsc with rfl | rfl <;> omega) (by rcases hsc with rfl | rfl <;> omega)) ?_
  refine ev_eqI (e' := nI (k % (4 * zs))) (pk_rem (a := k) (d := 4 * zs) (by rcases hsc with rfl | rfl <;> omega) (by rcases hsc with rfl | rfl <;> omega) (by rcases hsc with rfl | rfl <;> omega)) ?_
  refine ev_iload_n (pc := 27) dX11_tells_27 rfl ?_
  refine ev_idiv (pc := 28) dX11_tells_28 (nI_ne0 (by rcases hsc with rfl | rfl <;> omega) (by rcases hsc with rfl | rfl <;> omega)) ?_
  refine ev_eqI (e' := nI ((k % (4 * zs)) / zs)) (pk_div (a := k % (4 * zs)) (d := zs) (by rcases hsc with rfl | rfl <;> omega) (by rcases hsc with rfl | rfl <;> omega) (by rcases hsc with rfl | rfl <;> omega)) ?_
  refine ev_iadd (pc := 29) dX11_tells_29 ?_
  refine ev_eqI (e' := nI ((4 * ((k / (4 * zs)) / zs)) + ((k % (4 * zs)) / zs))) (nI_add (4 * ((k / (4 * zs)) / zs)) ((k % (4 * zs)) / zs)) ?_
  refine ev_iconst (pc := 30) (v := 4) dX11_tells_30 (by decide) ?_
  refine ev_iload_n (pc := 31) dX11_tells_31 rfl ?_
  refine ev_callSv (S := [.int (nI (16 * p)), .ref 56]) (pc := 32) dX11_tells_32 kX11_sourceOf lX11_268 sX11_sourceOf (cn_X11_src4 E h ((4 * ((k / (4 * zs)) / zs)) + ((k % (4 * zs)) / zs)) zw hw (by rcases hsc with rfl | rfl <;> omega) (by rcases hsc with rfl | rfl <;> omega)) rfl rfl (Nat.le_of_ble_eq_true rfl) ⟨Nat.le_of_ble_eq_true rfl, Nat.le_of_ble_eq_true rfl⟩ ⟨Nat.le_of_ble_eq_true rfl, Nat.le_of_ble_eq_true rfl⟩ ?_
  refine ev_iadd (pc := 35) dX11_tells_35 ?_
  refine ev_eqI (e' := nI ((16 * p) + (srN 4 zw ((4 * ((k / (4 * zs)) / zs)) + ((k % (4 * zs)) / zs))))) (nI_add (16 * p) (srN 4 zw ((4 * ((k / (4 * zs)) / zs)) + ((k % (4 * zs)) / zs)))) ?_
  refine ev_iald (pc := 36) dX11_tells_36 rfl (wlt hw (by decide)) (vp_in_nI (by have := (sr4 zw hw8 (4 * (k / (4 * zs) / zs) + k % (4 * zs) / zs) (by rcases hsc with rfl | rfl <;> omega)).2; omega) (by decide)) ?_
  refine ev_eqI (e' := h.2.1 56 ((16 * p) + (srN 4 zw ((4 * ((k / (4 * zs)) / zs)) + ((k % (4 * zs)) / zs))))) (by rw [show Int32.toNatClampNeg (nI ((16 * p) + (srN 4 zw ((4 * ((k / (4 * zs)) / zs)) + ((k % (4 * zs)) / zs))))) = ((16 * p) + (srN 4 zw ((4 * ((k / (4 * zs)) / zs)) + ((k % (4 * zs)) / zs)))) from nI_clamp (by have := (sr4 zw hw8 (4 * (k / (4 * zs) / zs) + k % (4 * zs) / zs) (by rcases hsc with rfl | rfl <;> omega)).2; omega)] <;> rfl) ?_
  refine ev_iret (pc := 37) dX11_tells_37 rfl ?_ ?_
  · rfl
  · exact ⟨rfl, rfl⟩
abbrev cpy (bk p v sc c : Int32) : Prop := (0 ≤ p ∧ p ≤ bk - 1) ∧ (0 ≤ v ∧ v ≤ 7) ∧ (1 ≤ sc ∧ sc ≤ 2) ∧ (0 ≤ c ∧ c ≤ 63) ∧ c / 8 + 4 * sc ≤ 8 ∧ c - c / 8 * 8 + 4 * sc ≤ 8
theorem cn_X11_isCopy (E : ME) (h : AH) (p v sc c : Int32) (hw : WF h) : Con E mX11_isCopy 2 0 0 [.ref 49, .int p, .int v, .int sc, .int c] h (fun r h' => r = some (.int (bI (cpy (h.2.1 49 16) p v sc c))) ∧ h' = h) := by
  refine con_of2 (L := [some (.ref 49), some (.int p), some (.int v), some (.int sc), some (.int c)]) rfl (Nat.le_of_ble_eq_true rfl) rfl ?_
  refine ev_aload_n (pc := 0) dX11_isCopy_0 rfl ?_
  refine ev_iload_n (pc := 1) dX11_isCopy_1 rfl ?_
  refine ev_callVv (S := []) (pc := 2) dX11_isCopy_2 kX11_isPattern lX11_261 vX11_isPattern (cn_X11_isPattern E h p hw) rfl rfl (wlt hw (by decide)) rfl rfl (Nat.le_of_ble_eq_true rfl) ⟨Nat.le_of_ble_eq_true rfl, Nat.le_of_ble_eq_true rfl⟩ ⟨Nat.le_of_ble_eq_true rfl, Nat.le_of_ble_eq_true rfl⟩ ?_
  refine ev_if_eq (pc := 5) (tgt := 72) dX11_isCopy_5 (by decide) (fun zc5 => ?_) (fun zc5 => ?_)
  · -- eq at 5: taken
    refine ev_iconst (pc := 72) (v := 0) dX11_isCopy_72 (by decide) ?_
    refine ev_iret (pc := 73) dX11_isCopy_73 rfl ?_ ?_
    · first | rfl | exact nar_bI _ | (simp only [*]; exact nar_bI _) | (simp [narrow, *]; done)
    · refine ⟨?_, rfl⟩
      simp only [bI_0, bI_n0, Classical.not_not] at *
      first | rw [bI_f (fun q => zc5 q.1)] | rw [bI_f (fun q => zc17 q.2.1)] | rw [bI_f (fun q => zc29 q.2.2.1)] | rw [bI_f (fun q => zc37 q.2.2.2.1)] | rw [bI_f (fun q => (i_le2 _ _).mpr zc51 q.2.2.2.2.1)] | rw [bI_f (fun q => (i_le2 _ _).mpr zc65 q.2.2.2.2.2)] | rw [bI_t ⟨zc5, zc17, zc29, zc37, (i_lt2 _ _).mp zc51, (i_lt2 _ _).mp zc65⟩]
  · -- eq at 5: not taken
    refine ev_iload_n (pc := 8) dX11_isCopy_8 rfl ?_
    refine ev_i2l (pc := 9) dX11_isCopy_9 ?_
    refine ev_lconst (pc := 10) (v := 0) dX11_isCopy_10 (by decide) ?_
    refine ev_ldc2 (pc := 11) (v := 7) dX11_isCopy_11 kcX11_264 ?_
    refine ev_callSv (S := []) (pc := 14) dX11_isCopy_14 kX11_in lX11_96 sX11_in (cn_X11_inC E h v 0 7 _ _ _ rfl (by decide) (by decide)) rfl rfl (Nat.le_of_ble_eq_true rfl) ⟨Nat.le_of_ble_eq_true rfl, Nat.le_of_ble_eq_true rfl⟩ ⟨Nat.le_of_ble_eq_true rfl, Nat.le_of_ble_eq_true rfl⟩ ?_
    refine ev_if_eq (pc := 17) (tgt := 72) dX11_isCopy_17 (by decide) (fun zc17 => ?_) (fun zc17 => ?_)
    · -- eq at 17: taken
      refine ev_iconst (pc := 72) (v := 0) dX11_isCopy_72 (by decide) ?_
      refine ev_iret (pc := 73) dX11_isCopy_73 rfl ?_ ?_
      · first | rfl | exact nar_bI _ | (simp only [*]; exact nar_bI _) | (simp [narrow, *]; done)
      · refine ⟨?_, rfl⟩
        simp only [bI_0, bI_n0, Classical.not_not] at *
        first | rw [bI_f (fun q => zc5 q.1)] | rw [bI_f (fun q => zc17 q.2.1)] | rw [bI_f (fun q => zc29 q.2.2.1)] | rw [bI_f (fun q => zc37 q.2.2.2.1)] | rw [bI_f (fun q => (i_le2 _ _).mpr zc51 q.2.2.2.2.1)] | rw [bI_f (fun q => (i_le2 _ _).mpr zc65 q.2.2.2.2.2)] | rw [bI_t ⟨zc5, zc17, zc29, zc37, (i_lt2 _ _).mp zc51, (i_lt2 _ _).mp zc65⟩]
    · -- eq at 17: not taken
      refine ev_iload_n (pc := 20) dX11_isCopy_20 rfl ?_
      refine ev_i2l (pc := 21) dX11_isCopy_21 ?_
      refine ev_lconst (pc := 22) (v := 1) dX11_isCopy_22 (by decide) ?_
      refine ev_ldc2 (pc := 23) (v := 2) dX11_isCopy_23 kcX11_245 ?_
      refine ev_callSv (S := []) (pc := 26) dX11_isCopy_26 kX11_in lX11_96 sX11_in (cn_X11_inC E h sc 1 2 _ _ _ rfl (by decide) (by decide)) rfl rfl (Nat.le_of_ble_eq_true rfl) ⟨Nat.le_of_ble_eq_true rfl, Nat.le_of_ble_eq_true rfl⟩ ⟨Nat.le_of_ble_eq_true rfl, Nat.le_of_ble_eq_true rfl⟩ ?_
      refine ev_if_eq (pc := 29) (tgt := 72) dX11_isCopy_29 (by decide) (fun zc29 => ?_) (fun zc29 => ?_)
      · -- eq at 29: taken
        refine ev_iconst (pc := 72) (v := 0) dX11_isCopy_72 (by decide) ?_
        refine ev_iret (pc := 73) dX11_isCopy_73 rfl ?_ ?_
        · first | rfl | exact nar_bI _ | (simp only [*]; exact nar_bI _) | (simp [narrow, *]; done)
        · refine ⟨?_, rfl⟩
          simp only [bI_0, bI_n0, Classical.not_not] at *
          first | rw [bI_f (fun q => zc5 q.1)] | rw [bI_f (fun q => zc17 q.2.1)] | rw [bI_f (fun q => zc29 q.2.2.1)] | rw [bI_f (fun q => zc37 q.2.2.2.1)] | rw [bI_f (fun q => (i_le2 _ _).mpr zc51 q.2.2.2.2.1)] | rw [bI_f (fun q => (i_le2 _ _).mpr zc65 q.2.2.2.2.2)] | rw [bI_t ⟨zc5, zc17, zc29, zc37, (i_lt2 _ _).mp zc51, (i_lt2 _ _).mp zc65⟩]
      · -- eq at 29: not taken
        refine ev_iload (pc := 32) dX11_isCopy_32 rfl ?_
        refine ev_callSv (S := []) (pc := 34) dX11_isCopy_34 kX11_isCell lX11_254 sX11_isCell (cn_X11_isCell E h c) rfl rfl (Nat.le_of_ble_eq_true rfl) ⟨Nat.le_of_ble_eq_true rfl, Nat.le_of_ble_eq_true rfl⟩ ⟨Nat.le_of_ble_eq_true rfl, Nat.le_of_ble_eq_true rfl⟩ ?_
        refine ev_if_eq (pc := 37) (tgt := 72) dX11_isCopy_37 (by decide) (fun zc37 => ?_) (fun zc37 => ?_)
        · -- eq at 37: taken
          refine ev_iconst (pc := 72) (v := 0) dX11_isCopy_72 (by decide) ?_
          refine ev_iret (pc := 73) dX11_isCopy_73 rfl ?_ ?_
          · first | rfl | exact nar_bI _ | (simp only [*]; exact nar_bI _) | (simp [narrow, *]; done)
          · refine ⟨?_, rfl⟩
            simp only [bI_0, bI_n0, Classical.not_not] at *
            first | rw [bI_f (fun q => zc5 q.1)] | rw [bI_f (fun q => zc17 q.2.1)] | rw [bI_f (fun q => zc29 q.2.2.1)] | rw [bI_f (fun q => zc37 q.2.2.2.1)] | rw [bI_f (fun q => (i_le2 _ _).mpr zc51 q.2.2.2.2.1)] | rw [bI_f (fun q => (i_le2 _ _).mpr zc65 q.2.2.2.2.2)] | rw [bI_t ⟨zc5, zc17, zc29, zc37, (i_lt2 _ _).mp zc51, (i_lt2 _ _).mp zc65⟩]
        · -- eq at 37: not taken
          refine ev_iload (pc := 40) dX11_isCopy_40 rfl ?_
          refine ev_bipush (pc := 42) (v := 8) dX11_isCopy_42 (by decide) ?_
          refine ev_idiv (pc := 44) dX11_isCopy_44 (by decide) ?_
          refine ev_iconst (pc := 45) (v := 4) dX11_isCopy_45 (by decide) ?_
          refine ev_iload_n (pc := 46) dX11_isCopy_46 rfl ?_
          refine ev_imul (pc := 47) dX11_isCopy_47 ?_
          refine ev_iadd (pc := 48) dX11_isCopy_48 ?_
          refine ev_bipush (pc := 49) (v := 8) dX11_isCopy_49 (by decide) ?_
          refine ev_icmp_gt (pc := 51) (tgt := 72) dX11_isCopy_51 (by decide) (fun zc51 => ?_) (fun zc51 => ?_)
          · -- gt at 51: taken
            refine ev_iconst (pc := 72) (v := 0) dX11_isCopy_72 (by decide) ?_
            refine ev_iret (pc := 73) dX11_isCopy_73 rfl ?_ ?_
            · first | rfl | exact nar_bI _ | (simp only [*]; exact nar_bI _) | (simp [narrow, *]; done)
            · refine ⟨?_, rfl⟩
              simp only [bI_0, bI_n0, Classical.not_not] at *
              first | rw [bI_f (fun q => zc5 q.1)] | rw [bI_f (fun q => zc17 q.2.1)] | rw [bI_f (fun q => zc29 q.2.2.1)] | rw [bI_f (fun q => zc37 q.2.2.2.1)] | rw [bI_f (fun q => (i_le2 _ _).mpr zc51 q.2.2.2.2.1)] | rw [bI_f (fun q => (i_le2 _ _).mpr zc65 q.2.2.2.2.2)] | rw [bI_t ⟨zc5, zc17, zc29, zc37, (i_lt2 _ _).mp zc51, (i_lt2 _ _).mp zc65⟩]
          · -- gt at 51: not taken
            refine ev_iload (pc := 54) dX11_isCopy_54 rfl ?_
            refine ev_bipush (pc := 56) (v := 8) dX11_isCopy_56 (by decide) ?_
            refine ev_irem (pc := 58) dX11_isCopy_58 (by decide) ?_
            refine ev_iconst (pc := 59) (v := 4) dX11_isCopy_59 (by decide) ?_
            refine ev_iload_n (pc := 60) dX11_isCopy_60 rfl ?_
            refine ev_imul (pc := 61) dX11_isCopy_61 ?_
            refine ev_iadd (pc := 62) dX11_isCopy_62 ?_
            refine ev_bipush (pc := 63) (v := 8) dX11_isCopy_63 (by decide) ?_
            refine ev_icmp_gt (pc := 65) (tgt := 72) dX11_isCopy_65 (by decide) (fun zc65 => ?_) (fun zc65 => ?_)
            · -- gt at 65: taken
              refine ev_iconst (pc := 72) (v := 0) dX11_isCopy_72 (by decide) ?_
              refine ev_iret (pc := 73) dX11_isCopy_73 rfl ?_ ?_
              · first | rfl | exact nar_bI _ | (simp only [*]; exact nar_bI _) | (simp [narrow, *]; done)
              · refine ⟨?_, rfl⟩
                simp only [bI_0, bI_n0, Classical.not_not] at *
                first | rw [bI_f (fun q => zc5 q.1)] | rw [bI_f (fun q => zc17 q.2.1)] | rw [bI_f (fun q => zc29 q.2.2.1)] | rw [bI_f (fun q => zc37 q.2.2.2.1)] | rw [bI_f (fun q => (i_le2 _ _).mpr zc51 q.2.2.2.2.1)] | rw [bI_f (fun q => (i_le2 _ _).mpr zc65 q.2.2.2.2.2)] | rw [bI_t ⟨zc5, zc17, zc29, zc37, (i_lt2 _ _).mp zc51, (i_lt2 _ _).mp zc65⟩]
            · -- gt at 65: not taken
              refine ev_iconst (pc := 68) (v := 1) dX11_isCopy_68 (by decide) ?_
              refine ev_goto (pc := 69) (tgt := 73) dX11_isCopy_69 (by decide) ?_
              refine ev_iret (pc := 73) dX11_isCopy_73 rfl ?_ ?_
              · first | rfl | exact nar_bI _ | (simp only [*]; exact nar_bI _) | (simp [narrow, *]; done)
              · refine ⟨?_, rfl⟩
                simp only [bI_0, bI_n0, Classical.not_not] at *
                first | rw [bI_f (fun q => zc5 q.1)] | rw [bI_f (fun q => zc17 q.2.1)] | rw [bI_f (fun q => zc29 q.2.2.1)] | rw [bI_f (fun q => zc37 q.2.2.2.1)] | rw [bI_f (fun q => (i_le2 _ _).mpr zc51 q.2.2.2.2.1)] | rw [bI_f (fun q => (i_le2 _ _).mpr zc65 q.2.2.2.2.2)] | rw [bI_t ⟨zc5, zc17, zc29, zc37, (i_lt2 _ _).mp zc51, (i_lt2 _ _).mp zc65⟩]
