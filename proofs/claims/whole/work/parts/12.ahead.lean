/-- the model's closure: the first loop, a row of the second, the second -/
def lb1 (lt bf : Nat → Int32) : Nat → Nat → Int32
  | 0 => bf
  | k + 1 => upd (lb1 lt bf k) k (lt k)
def lbT (k : Nat) (f : Nat → Int32) : Nat → Nat → Int32
  | 0 => f
  | t + 1 => upd (lbT k f t) t (lbT k f t t ||| (if (lbT k f t t >>> (nI k &&& 31)) &&& 1 = 1 then lbT k f t k else 0))
def lbK (m : Nat) (f : Nat → Int32) : Nat → Nat → Int32
  | 0 => f
  | k + 1 => lbT k (lbK m f k) m
def befF (m : Nat) (lt bf : Nat → Int32) : Nat → Int32 := lbK m (lb1 lt bf m) m
/-- bits of those that come to themselves -/
def rgF (bf : Nat → Int32) : Nat → Int32
  | 0 => 0
  | t + 1 => rgF bf t ||| (bf t &&& (1 <<< (nI t &&& 31)))
def cntF (x : Int32) : Nat → Int32
  | 0 => 0
  | k + 1 => cntF x k + ((x >>> (nI k &&& 31)) &&& 1)
def bhF (bf : Nat → Int32) (t : Int32) : Nat → Int32
  | 0 => 0
  | k + 1 => bhF bf t k ||| (if (bf k >>> (t &&& 31)) &&& 1 = 1 then 1 <<< (nI k &&& 31) else 0)
theorem lp_layBefore_2 (E : ME) (h : AH) (m : Nat) (hw : WF h) (hm : h.2.1 49 14 = nI m) (hm2 : m ≤ 12) {post : PO} (K : Ev E mX11_layBefore (rmm 0 0 0) (QM E 0 0 post) 0 0 28 [some (.ref 49), some (.int (nI m)), none] [] (sI h 66 (lb1 (h.2.1 55) (h.2.1 66) m))) : ∀ n i : Nat, i + n = m → Ev E mX11_layBefore (rmm 0 0 0) (QM E 0 0 post) 0 0 2 [some (.ref 49), some (.int (nI i)), none] [] (sI h 66 (lb1 (h.2.1 55) (h.2.1 66) i)) := by
  intro n
  induction n with
  | zero =>
    intro i hi
    obtain rfl : m = i := by omega
    refine ev_iload_n (pc := 2) dX11_layBefore_2 rfl ?_
    refine ev_aload_n (pc := 3) dX11_layBefore_3 rfl ?_
    refine ev_getI (pc := 4) dX11_layBefore_4 fX11_184 rfl (wlt (wf_sI hw) (by decide)) ?_
    refine ev_eqI (e' := h.2.1 49 14) (by rfl) ?_
    refine ev_icmp_ge (pc := 7) (tgt := 28) dX11_layBefore_7 (by decide) (fun zc7 => ?_) (fun zc7 => absurd (by rw [hm]; exact nI_leI (by omega) (by omega) |>.mpr (Nat.le_refl _)) zc7)
    exact K
  | succ n ih =>
    intro i hi
    have hlt : i < m := by omega
    refine ev_iload_n (pc := 2) dX11_layBefore_2 rfl ?_
    refine ev_aload_n (pc := 3) dX11_layBefore_3 rfl ?_
    refine ev_getI (pc := 4) dX11_layBefore_4 fX11_184 rfl (wlt (wf_sI hw) (by decide)) ?_
    refine ev_eqI (e' := h.2.1 49 14) (by rfl) ?_
    refine ev_icmp_ge (pc := 7) (tgt := 28) dX11_layBefore_7 (by decide) (fun zc7 => absurd zc7 (by rw [hm]; exact nI_ge hlt (by omega))) (fun zc7 => ?_)
    refine ev_aload_n (pc := 10) dX11_layBefore_10 rfl ?_
    refine ev_getR (pc := 11) (q := 66) dX11_layBefore_11 fX11_62 rfl (wlt (wf_sI hw) (by decide)) (wr (wf_sI hw) rfl) ?_
    refine ev_iload_n (pc := 14) dX11_layBefore_14 rfl ?_
    refine ev_aload_n (pc := 15) dX11_layBefore_15 rfl ?_
    refine ev_getR (pc := 16) (q := 55) dX11_layBefore_16 fX11_25 rfl (wlt (wf_sI hw) (by decide)) (wr (wf_sI hw) rfl) ?_
    refine ev_iload_n (pc := 19) dX11_layBefore_19 rfl ?_
    refine ev_iald (pc := 20) dX11_layBefore_20 rfl (wlt (wf_sI hw) (by decide)) (vp_in_nI (by omega) (by decide)) ?_
    refine ev_eqI (e' := h.2.1 55 i) (by rw [show Int32.toNatClampNeg (nI i) = i from nI_clamp (by omega)] <;> rfl) ?_
    refine ev_iast (pc := 21) dX11_layBefore_21 rfl (wlt (wf_sI hw) (by decide)) (vp_in_nI (by omega) (by decide)) ?_
    refine ev_eqH (h' := sI h 66 (upd (lb1 (h.2.1 55) (h.2.1 66) i) i (h.2.1 55 i))) (by rw [show Int32.toNatClampNeg (nI i) = i from nI_clamp (by omega)]; exact sI_sI _ _ _ _) ?_
    refine ev_iinc (pc := 22) (v := nI (i + 1)) (L' := [some (.ref 49), some (.int (nI (i + 1))), none]) dX11_layBefore_22 rfl (nI_1 _) (Nat.le_of_ble_eq_true rfl) rfl ?_
    refine ev_goto (pc := 25) (tgt := 2) dX11_layBefore_25 (by decide) ?_
    exact ih (i + 1) (by omega)
theorem lp_layBefore_40 (E : ME) (h : AH) (m k : Nat) (f : Nat → Int32) (hw : WF h) (hm : h.2.1 49 14 = nI m) (hm2 : m ≤ 12) (hk : k < m) {post : PO} (K : Ev E mX11_layBefore (rmm 0 0 0) (QM E 0 0 post) 0 0 87 [some (.ref 49), some (.int (nI k)), some (.int (nI m))] [] (sI h 66 (lbT k f m))) : ∀ n i : Nat, i + n = m → Ev E mX11_layBefore (rmm 0 0 0) (QM E 0 0 post) 0 0 40 [some (.ref 49), some (.int (nI k)), some (.int (nI i))] [] (sI h 66 (lbT k f i)) := by
  intro n
  induction n with
  | zero =>
    intro i hi
    obtain rfl : m = i := by omega
    refine ev_iload_n (pc := 40) dX11_layBefore_40 rfl ?_
    refine ev_aload_n (pc := 41) dX11_layBefore_41 rfl ?_
    refine ev_getI (pc := 42) dX11_layBefore_42 fX11_184 rfl (wlt (wf_sI hw) (by decide)) ?_
    refine ev_eqI (e' := h.2.1 49 14) (by rfl) ?_
    refine ev_icmp_ge (pc := 45) (tgt := 87) dX11_layBefore_45 (by decide) (fun zc45 => ?_) (fun zc45 => absurd (by rw [hm]; exact nI_leI (by omega) (by omega) |>.mpr (Nat.le_refl _)) zc45)
    exact K
  | succ n ih =>
    intro i hi
    have hlt : i < m := by omega
    refine ev_iload_n (pc := 40) dX11_layBefore_40 rfl ?_
    refine ev_aload_n (pc := 41) dX11_layBefore_41 rfl ?_
    refine ev_getI (pc := 42) dX11_layBefore_42 fX11_184 rfl (wlt (wf_sI hw) (by decide)) ?_
    refine ev_eqI (e' := h.2.1 49 14) (by rfl) ?_
    refine ev_icmp_ge (pc := 45) (tgt := 87) dX11_layBefore_45 (by decide) (fun zc45 => absurd zc45 (by rw [hm]; exact nI_ge hlt (by omega))) (fun zc45 => ?_)
    refine ev_aload_n (pc := 48) dX11_layBefore_48 rfl ?_
    refine ev_getR (pc := 49) (q := 66) dX11_layBefore_49 fX11_62 rfl (wlt (wf_sI hw) (by decide)) (wr (wf_sI hw) rfl) ?_
    refine ev_iload_n (pc := 52) dX11_layBefore_52 rfl ?_
    refine ev_dup2 (pc := 53) dX11_layBefore_53 rfl rfl ?_
    refine ev_iald (pc := 54) dX11_layBefore_54 rfl (wlt (wf_sI hw) (by decide)) (vp_in_nI (by omega) (by decide)) ?_
    refine ev_eqI (e' := (lbT k f i) i) (by rw [show Int32.toNatClampNeg (nI i) = i from nI_clamp (by omega)] <;> rfl) ?_
    refine ev_aload_n (pc := 55) dX11_layBefore_55 rfl ?_
    refine ev_getR (pc := 56) (q := 66) dX11_layBefore_56 fX11_62 rfl (wlt (wf_sI hw) (by decide)) (wr (wf_sI hw) rfl) ?_
    refine ev_iload_n (pc := 59) dX11_layBefore_59 rfl ?_
    refine ev_iald (pc := 60) dX11_layBefore_60 rfl (wlt (wf_sI hw) (by decide)) (vp_in_nI (by omega) (by decide)) ?_
    refine ev_eqI (e' := (lbT k f i) i) (by rw [show Int32.toNatClampNeg (nI i) = i from nI_clamp (by omega)] <;> rfl) ?_
    refine ev_iload_n (pc := 61) dX11_layBefore_61 rfl ?_
    refine ev_ishr (pc := 62) dX11_layBefore_62 ?_
    refine ev_iconst (pc := 63) (v := 1) dX11_layBefore_63 (by decide) ?_
    refine ev_iand (pc := 64) dX11_layBefore_64 ?_
    refine ev_iconst (pc := 65) (v := 1) dX11_layBefore_65 (by decide) ?_
    refine ev_icmp_ne (pc := 66) (tgt := 78) dX11_layBefore_66 (by decide) (fun zc66 => ?_) (fun zc66 => ?_)
    · -- ne at 66: taken
      refine ev_iconst (pc := 78) (v := 0) dX11_layBefore_78 (by decide) ?_
      refine ev_ior (pc := 79) dX11_layBefore_79 ?_
      refine ev_iast (pc := 80) dX11_layBefore_80 rfl (wlt (wf_sI hw) (by decide)) (vp_in_nI (by omega) (by decide)) ?_
      refine ev_eqH (h' := sI h 66 (upd (lbT k f i) i (((lbT k f i) i) ||| 0))) (by rw [show Int32.toNatClampNeg (nI i) = i from nI_clamp (by omega)]; exact sI_sI _ _ _ _) ?_
      refine ev_iinc (pc := 81) (v := nI (i + 1)) (L' := [some (.ref 49), some (.int (nI k)), some (.int (nI (i + 1)))]) dX11_layBefore_81 rfl (nI_1 _) (Nat.le_of_ble_eq_true rfl) rfl ?_
      refine ev_goto (pc := 84) (tgt := 40) dX11_layBefore_84 (by decide) ?_
      refine ev_eqH (h' := sI h 66 (lbT k f (i + 1))) (by simp only [lbT]; first | rw [if_pos zc66] | rw [if_neg zc66]) ?_
      exact ih (i + 1) (by omega)
    · -- ne at 66: not taken
      refine ev_aload_n (pc := 69) dX11_layBefore_69 rfl ?_
      refine ev_getR (pc := 70) (q := 66) dX11_layBefore_70 fX11_62 rfl (wlt (wf_sI hw) (by decide)) (wr (wf_sI hw) rfl) ?_
      refine ev_iload_n (pc := 73) dX11_layBefore_73 rfl ?_
      refine ev_iald (pc := 74) dX11_layBefore_74 rfl (wlt (wf_sI hw) (by decide)) (vp_in_nI (by omega) (by decide)) ?_
      refine ev_eqI (e' := (lbT k f i) k) (by rw [show Int32.toNatClampNeg (nI k) = k from nI_clamp (by omega)] <;> rfl) ?_
      refine ev_goto (pc := 75) (tgt := 79) dX11_layBefore_75 (by decide) ?_
      refine ev_ior (pc := 79) dX11_layBefore_79 ?_
      refine ev_iast (pc := 80) dX11_layBefore_80 rfl (wlt (wf_sI hw) (by decide)) (vp_in_nI (by omega) (by decide)) ?_
      refine ev_eqH (h' := sI h 66 (upd (lbT k f i) i (((lbT k f i) i) ||| ((lbT k f i) k)))) (by rw [show Int32.toNatClampNeg (nI i) = i from nI_clamp (by omega)]; exact sI_sI _ _ _ _) ?_
      refine ev_iinc (pc := 81) (v := nI (i + 1)) (L' := [some (.ref 49), some (.int (nI k)), some (.int (nI (i + 1)))]) dX11_layBefore_81 rfl (nI_1 _) (Nat.le_of_ble_eq_true rfl) rfl ?_
      refine ev_goto (pc := 84) (tgt := 40) dX11_layBefore_84 (by decide) ?_
      refine ev_eqH (h' := sI h 66 (lbT k f (i + 1))) (by simp only [lbT]; first | rw [if_pos zc66] | rw [if_neg zc66]) ?_
      exact ih (i + 1) (by omega)
theorem less_3 (a b c : Option Value) : ∀ (i : Nat) (v : Value), [a, b, none][i]? = some (some v) → [a, b, c][i]? = some (some v) := by
  intro i v h
  match i, h with
  | 0, h => exact h
  | 1, h => exact h
  | 2, h => simp at h
  | n + 3, h => simp at h
theorem lp_layBefore_30 (E : ME) (h : AH) (m : Nat) (f : Nat → Int32) (hw : WF h) (hm : h.2.1 49 14 = nI m) (hm2 : m ≤ 12) {post : PO} (K : Ev E mX11_layBefore (rmm 0 0 0) (QM E 0 0 post) 0 0 93 [some (.ref 49), some (.int (nI m)), none] [] (sI h 66 (lbK m f m))) : ∀ n i : Nat, i + n = m → Ev E mX11_layBefore (rmm 0 0 0) (QM E 0 0 post) 0 0 30 [some (.ref 49), some (.int (nI i)), none] [] (sI h 66 (lbK m f i)) := by
  intro n
  induction n with
  | zero =>
    intro i hi
    obtain rfl : m = i := by omega
    refine ev_iload_n (pc := 30) dX11_layBefore_30 rfl ?_
    refine ev_aload_n (pc := 31) dX11_layBefore_31 rfl ?_
    refine ev_getI (pc := 32) dX11_layBefore_32 fX11_184 rfl (wlt (wf_sI hw) (by decide)) ?_
    refine ev_eqI (e' := h.2.1 49 14) (by rfl) ?_
    refine ev_icmp_ge (pc := 35) (tgt := 93) dX11_layBefore_35 (by decide) (fun zc35 => ?_) (fun zc35 => absurd (by rw [hm]; exact nI_leI (by omega) (by omega) |>.mpr (Nat.le_refl _)) zc35)
    exact K
  | succ n ih =>
    intro i hi
    have hlt : i < m := by omega
    refine ev_iload_n (pc := 30) dX11_layBefore_30 rfl ?_
    refine ev_aload_n (pc := 31) dX11_layBefore_31 rfl ?_
    refine ev_getI (pc := 32) dX11_layBefore_32 fX11_184 rfl (wlt (wf_sI hw) (by decide)) ?_
    refine ev_eqI (e' := h.2.1 49 14) (by rfl) ?_
    refine ev_icmp_ge (pc := 35) (tgt := 93) dX11_layBefore_35 (by decide) (fun zc35 => absurd zc35 (by rw [hm]; exact nI_ge hlt (by omega))) (fun zc35 => ?_)
    refine ev_iconst (pc := 38) (v := 0) dX11_layBefore_38 (by decide) ?_
    refine ev_istore_n (pc := 39) (L' := [some (.ref 49), some (.int (nI i)), some (.int 0)]) dX11_layBefore_39 (Nat.le_of_ble_eq_true rfl) rfl ?_
    refine lp_layBefore_40 E h m i (lbK m f i) hw hm hm2 hlt ?_ m 0 (Nat.zero_add m)
    refine ev_iinc (pc := 87) (v := nI (i + 1)) (L' := [some (.ref 49), some (.int (nI (i + 1))), some (.int (nI m))]) dX11_layBefore_87 rfl (nI_1 _) (Nat.le_of_ble_eq_true rfl) rfl ?_
    refine ev_goto (pc := 90) (tgt := 30) dX11_layBefore_90 (by decide) ?_
    refine ev_less (L' := [some (.ref 49), some (.int (nI (i + 1))), none]) (less_3 _ _ _) ?_
    exact ih (i + 1) (by omega)
theorem cn_X11_layBefore (E : ME) (h : AH) (m : Nat) (hw : WF h) (hm : h.2.1 49 14 = nI m) (hm2 : m ≤ 12) : Con E mX11_layBefore 0 0 0 [.ref 49] h (fun r h' => r = none ∧ h' = sI h 66 (befF m (h.2.1 55) (h.2.1 66))) := by
  refine con_of2 (L := [some (.ref 49), none, none]) rfl (Nat.le_of_ble_eq_true rfl) rfl ?_
  refine ev_eqH (sI_id h 66).symm ?_
  refine ev_iconst (pc := 0) (v := 0) dX11_layBefore_0 (by decide) ?_
  refine ev_istore_n (pc := 1) (L' := [some (.ref 49), some (.int 0), none]) dX11_layBefore_1 (Nat.le_of_ble_eq_true rfl) rfl ?_
  refine lp_layBefore_2 E h m hw hm hm2 ?_ m 0 (Nat.zero_add m)
  refine ev_iconst (pc := 28) (v := 0) dX11_layBefore_28 (by decide) ?_
  refine ev_istore_n (pc := 29) (L' := [some (.ref 49), some (.int 0), none]) dX11_layBefore_29 (Nat.le_of_ble_eq_true rfl) rfl ?_
  refine lp_layBefore_30 E h m (lb1 (h.2.1 55) (h.2.1 66) m) hw hm hm2 ?_ m 0 (Nat.zero_add m)
  refine ev_ret (pc := 93) dX11_layBefore_93 rfl ?_
  · exact ⟨rfl, rfl⟩
theorem lp_ringed_4 (E : ME) (h : AH) (m : Nat) (hw : WF h) (hm : h.2.1 49 14 = nI m) (hm2 : m ≤ 12) {post : PO} (K : Ev E mX11_ringed (rmm 0 0 0) (QM E 0 0 post) 0 0 31 [some (.ref 49), some (.int (rgF (h.2.1 66) m)), some (.int (nI m))] [] h) : ∀ n i : Nat, i + n = m → Ev E mX11_ringed (rmm 0 0 0) (QM E 0 0 post) 0 0 4 [some (.ref 49), some (.int (rgF (h.2.1 66) i)), some (.int (nI i))] [] h := by
  intro n
  induction n with
  | zero =>
    intro i hi
    obtain rfl : m = i := by omega
    refine ev_iload_n (pc := 4) dX11_ringed_4 rfl ?_
    refine ev_aload_n (pc := 5) dX11_ringed_5 rfl ?_
    refine ev_getI (pc := 6) dX11_ringed_6 fX11_184 rfl (wlt hw (by decide)) ?_
    refine ev_icmp_ge (pc := 9) (tgt := 31) dX11_ringed_9 (by decide) (fun zc9 => ?_) (fun zc9 => absurd (by rw [hm]; exact nI_leI (by omega) (by omega) |>.mpr (Nat.le_refl _)) zc9)
    exact K
  | succ n ih =>
    intro i hi
    have hlt : i < m := by omega
    refine ev_iload_n (pc := 4) dX11_ringed_4 rfl ?_
    refine ev_aload_n (pc := 5) dX11_ringed_5 rfl ?_
    refine ev_getI (pc := 6) dX11_ringed_6 fX11_184 rfl (wlt hw (by decide)) ?_
    refine ev_icmp_ge (pc := 9) (tgt := 31) dX11_ringed_9 (by decide) (fun zc9 => absurd zc9 (by rw [hm]; exact nI_ge hlt (by omega))) (fun zc9 => ?_)
    refine ev_iload_n (pc := 12) dX11_ringed_12 rfl ?_
    refine ev_aload_n (pc := 13) dX11_ringed_13 rfl ?_
    refine ev_getR (pc := 14) (q := 66) dX11_ringed_14 fX11_62 rfl (wlt hw (by decide)) (wr hw rfl) ?_
    refine ev_iload_n (pc := 17) dX11_ringed_17 rfl ?_
    refine ev_iald (pc := 18) dX11_ringed_18 rfl (wlt hw (by decide)) (vp_in_nI (by omega) (by decide)) ?_
    refine ev_eqI (e' := h.2.1 66 i) (by rw [show Int32.toNatClampNeg (nI i) = i from nI_clamp (by omega)] <;> rfl) ?_
    refine ev_iconst (pc := 19) (v := 1) dX11_ringed_19 (by decide) ?_
    refine ev_iload_n (pc := 20) dX11_ringed_20 rfl ?_
    refine ev_ishl (pc := 21) dX11_ringed_21 ?_
    refine ev_iand (pc := 22) dX11_ringed_22 ?_
    refine ev_ior (pc := 23) dX11_ringed_23 ?_
    refine ev_istore_n (pc := 24) (L' := [some (.ref 49), some (.int ((rgF (h.2.1 66) i) ||| ((h.2.1 66 i) &&& (1 <<< ((nI i) &&& 31))))), some (.int (nI i))]) dX11_ringed_24 (Nat.le_of_ble_eq_true rfl) rfl ?_
    refine ev_iinc (pc := 25) (v := nI (i + 1)) (L' := [some (.ref 49), some (.int ((rgF (h.2.1 66) i) ||| ((h.2.1 66 i) &&& (1 <<< ((nI i) &&& 31))))), some (.int (nI (i + 1)))]) dX11_ringed_25 rfl (nI_1 _) (Nat.le_of_ble_eq_true rfl) rfl ?_
    refine ev_goto (pc := 28) (tgt := 4) dX11_ringed_28 (by decide) ?_
    exact ih (i + 1) (by omega)
theorem cn_X11_ringed (E : ME) (h : AH) (m : Nat) (hw : WF h) (hm : h.2.1 49 14 = nI m) (hm2 : m ≤ 12) : Con E mX11_ringed 0 0 0 [.ref 49] h (fun r h' => r = some (.int (rgF (h.2.1 66) m)) ∧ h' = h) := by
  refine con_of2 (L := [some (.ref 49), none, none]) rfl (Nat.le_of_ble_eq_true rfl) rfl ?_
  refine ev_iconst (pc := 0) (v := 0) dX11_ringed_0 (by decide) ?_
  refine ev_istore_n (pc := 1) (L' := [some (.ref 49), some (.int 0), none]) dX11_ringed_1 (Nat.le_of_ble_eq_true rfl) rfl ?_
  refine ev_iconst (pc := 2) (v := 0) dX11_ringed_2 (by decide) ?_
  refine ev_istore_n (pc := 3) (L' := [some (.ref 49), some (.int 0), some (.int 0)]) dX11_ringed_3 (Nat.le_of_ble_eq_true rfl) rfl ?_
  refine lp_ringed_4 E h m hw hm hm2 ?_ m 0 (Nat.zero_add _)
  refine ev_iload_n (pc := 31) dX11_ringed_31 rfl ?_
  refine ev_iret (pc := 32) dX11_ringed_32 rfl ?_ ?_
  · rfl
  · exact ⟨rfl, rfl⟩
theorem lp_countOf_4 (E : ME) (h : AH) (x : Int32) (hw : WF h) {post : PO} (K : Ev E mX11_countOf (rmm 0 0 0) (QM E 0 0 post) 0 0 24 [some (.int x), some (.int (cntF x 16)), some (.int (nI 16))] [] h) : ∀ n i : Nat, i + n = 16 → Ev E mX11_countOf (rmm 0 0 0) (QM E 0 0 post) 0 0 4 [some (.int x), some (.int (cntF x i)), some (.int (nI i))] [] h := by
  intro n
  induction n with
  | zero =>
    intro i hi
    obtain rfl : 16 = i := by omega
    refine ev_iload_n (pc := 4) dX11_countOf_4 rfl ?_
    refine ev_bipush (pc := 5) (v := 16) dX11_countOf_5 (by decide) ?_
    refine ev_icmp_ge (pc := 7) (tgt := 24) dX11_countOf_7 (by decide) (fun zc7 => ?_) (fun zc7 => absurd (by decide) zc7)
    exact K
  | succ n ih =>
    intro i hi
    have hlt : i < 16 := by omega
    refine ev_iload_n (pc := 4) dX11_countOf_4 rfl ?_
    refine ev_bipush (pc := 5) (v := 16) dX11_countOf_5 (by decide) ?_
    refine ev_icmp_ge (pc := 7) (tgt := 24) dX11_countOf_7 (by decide) (fun zc7 => absurd zc7 (nI_ge hlt (by decide))) (fun zc7 => ?_)
    refine ev_iload_n (pc := 10) dX11_countOf_10 rfl ?_
    refine ev_iload_n (pc := 11) dX11_countOf_11 rfl ?_
    refine ev_iload_n (pc := 12) dX11_countOf_12 rfl ?_
    refine ev_ishr (pc := 13) dX11_countOf_13 ?_
    refine ev_iconst (pc := 14) (v := 1) dX11_countOf_14 (by decide) ?_
    refine ev_iand (pc := 15) dX11_countOf_15 ?_
    refine ev_iadd (pc := 16) dX11_countOf_16 ?_
    refine ev_istore_n (pc := 17) (L' := [some (.int x), some (.int ((cntF x i) + ((x >>> ((nI i) &&& 31)) &&& 1))), some (.int (nI i))]) dX11_countOf_17 (Nat.le_of_ble_eq_true rfl) rfl ?_
    refine ev_iinc (pc := 18) (v := nI (i + 1)) (L' := [some (.int x), some (.int ((cntF x i) + ((x >>> ((nI i) &&& 31)) &&& 1))), some (.int (nI (i + 1)))]) dX11_countOf_18 rfl (nI_1 _) (Nat.le_of_ble_eq_true rfl) rfl ?_
    refine ev_goto (pc := 21) (tgt := 4) dX11_countOf_21 (by decide) ?_
    exact ih (i + 1) (by omega)
theorem cn_X11_countOf (E : ME) (h : AH) (x : Int32) (hw : WF h) : Con E mX11_countOf 0 0 0 [.int x] h (fun r h' => r = some (.int (cntF x 16)) ∧ h' = h) := by
  refine con_of2 (L := [some (.int x), none, none]) rfl (Nat.le_of_ble_eq_true rfl) rfl ?_
  refine ev_iconst (pc := 0) (v := 0) dX11_countOf_0 (by decide) ?_
  refine ev_istore_n (pc := 1) (L' := [some (.int x), some (.int 0), none]) dX11_countOf_1 (Nat.le_of_ble_eq_true rfl) rfl ?_
  refine ev_iconst (pc := 2) (v := 0) dX11_countOf_2 (by decide) ?_
  refine ev_istore_n (pc := 3) (L' := [some (.int x), some (.int 0), some (.int 0)]) dX11_countOf_3 (Nat.le_of_ble_eq_true rfl) rfl ?_
  refine lp_countOf_4 E h x hw ?_ 16 0 (Nat.zero_add _)
  refine ev_iload_n (pc := 24) dX11_countOf_24 rfl ?_
  refine ev_iret (pc := 25) dX11_countOf_25 rfl ?_ ?_
  · rfl
  · exact ⟨rfl, rfl⟩
theorem lp_behind_4 (E : ME) (h : AH) (m : Nat) (t : Int32) (hw : WF h) (hm : h.2.1 49 14 = nI m) (hm2 : m ≤ 12) {post : PO} (K : Ev E mX11_behind (rmm 0 0 0) (QM E 0 0 post) 0 0 42 [some (.ref 49), some (.int t), some (.int (bhF (h.2.1 66) t m)), some (.int (nI m))] [] h) : ∀ n i : Nat, i + n = m → Ev E mX11_behind (rmm 0 0 0) (QM E 0 0 post) 0 0 4 [some (.ref 49), some (.int t), some (.int (bhF (h.2.1 66) t i)), some (.int (nI i))] [] h := by
  intro n
  induction n with
  | zero =>
    intro i hi
    obtain rfl : m = i := by omega
    refine ev_iload_n (pc := 4) dX11_behind_4 rfl ?_
    refine ev_aload_n (pc := 5) dX11_behind_5 rfl ?_
    refine ev_getI (pc := 6) dX11_behind_6 fX11_184 rfl (wlt hw (by decide)) ?_
    refine ev_icmp_ge (pc := 9) (tgt := 42) dX11_behind_9 (by decide) (fun zc9 => ?_) (fun zc9 => absurd (by rw [hm]; exact nI_leI (by omega) (by omega) |>.mpr (Nat.le_refl _)) zc9)
    exact K
  | succ n ih =>
    intro i hi
    have hlt : i < m := by omega
    refine ev_iload_n (pc := 4) dX11_behind_4 rfl ?_
    refine ev_aload_n (pc := 5) dX11_behind_5 rfl ?_
    refine ev_getI (pc := 6) dX11_behind_6 fX11_184 rfl (wlt hw (by decide)) ?_
    refine ev_icmp_ge (pc := 9) (tgt := 42) dX11_behind_9 (by decide) (fun zc9 => absurd zc9 (by rw [hm]; exact nI_ge hlt (by omega))) (fun zc9 => ?_)
    refine ev_iload_n (pc := 12) dX11_behind_12 rfl ?_
    refine ev_aload_n (pc := 13) dX11_behind_13 rfl ?_
    refine ev_getR (pc := 14) (q := 66) dX11_behind_14 fX11_62 rfl (wlt hw (by decide)) (wr hw rfl) ?_
    refine ev_iload_n (pc := 17) dX11_behind_17 rfl ?_
    refine ev_iald (pc := 18) dX11_behind_18 rfl (wlt hw (by decide)) (vp_in_nI (by omega) (by decide)) ?_
    refine ev_eqI (e' := h.2.1 66 i) (by rw [show Int32.toNatClampNeg (nI i) = i from nI_clamp (by omega)] <;> rfl) ?_
    refine ev_iload_n (pc := 19) dX11_behind_19 rfl ?_
    refine ev_ishr (pc := 20) dX11_behind_20 ?_
    refine ev_iconst (pc := 21) (v := 1) dX11_behind_21 (by decide) ?_
    refine ev_iand (pc := 22) dX11_behind_22 ?_
    refine ev_iconst (pc := 23) (v := 1) dX11_behind_23 (by decide) ?_
    refine ev_icmp_ne (pc := 24) (tgt := 33) dX11_behind_24 (by decide) (fun zc24 => ?_) (fun zc24 => ?_)
    · -- ne at 24: taken
      refine ev_iconst (pc := 33) (v := 0) dX11_behind_33 (by decide) ?_
      refine ev_ior (pc := 34) dX11_behind_34 ?_
      refine ev_istore_n (pc := 35) (L' := [some (.ref 49), some (.int t), some (.int ((bhF (h.2.1 66) t i) ||| 0)), some (.int (nI i))]) dX11_behind_35 (Nat.le_of_ble_eq_true rfl) rfl ?_
      refine ev_iinc (pc := 36) (v := nI (i + 1)) (L' := [some (.ref 49), some (.int t), some (.int ((bhF (h.2.1 66) t i) ||| 0)), some (.int (nI (i + 1)))]) dX11_behind_36 rfl (nI_1 _) (Nat.le_of_ble_eq_true rfl) rfl ?_
      refine ev_goto (pc := 39) (tgt := 4) dX11_behind_39 (by decide) ?_
      refine ev_eqL (L' := [some (.ref 49), some (.int t), some (.int (bhF (h.2.1 66) t (i + 1))), some (.int (nI (i + 1)))]) (by first | rfl | (simp only [bhF]; first | rw [if_pos zc24] | rw [if_neg zc24]) | (simp [bhF, zc24]; done)) ?_
      exact ih (i + 1) (by omega)
    · -- ne at 24: not taken
      refine ev_iconst (pc := 27) (v := 1) dX11_behind_27 (by decide) ?_
      refine ev_iload_n (pc := 28) dX11_behind_28 rfl ?_
      refine ev_ishl (pc := 29) dX11_behind_29 ?_
      refine ev_goto (pc := 30) (tgt := 34) dX11_behind_30 (by decide) ?_
      refine ev_ior (pc := 34) dX11_behind_34 ?_
      refine ev_istore_n (pc := 35) (L' := [some (.ref 49), some (.int t), some (.int ((bhF (h.2.1 66) t i) ||| (1 <<< ((nI i) &&& 31)))), some (.int (nI i))]) dX11_behind_35 (Nat.le_of_ble_eq_true rfl) rfl ?_
      refine ev_iinc (pc := 36) (v := nI (i + 1)) (L' := [some (.ref 49), some (.int t), some (.int ((bhF (h.2.1 66) t i) ||| (1 <<< ((nI i) &&& 31)))), some (.int (nI (i + 1)))]) dX11_behind_36 rfl (nI_1 _) (Nat.le_of_ble_eq_true rfl) rfl ?_
      refine ev_goto (pc := 39) (tgt := 4) dX11_behind_39 (by decide) ?_
      refine ev_eqL (L' := [some (.ref 49), some (.int t), some (.int (bhF (h.2.1 66) t (i + 1))), some (.int (nI (i + 1)))]) (by first | rfl | (simp only [bhF]; first | rw [if_pos zc24] | rw [if_neg zc24]) | (simp [bhF, zc24]; done)) ?_
      exact ih (i + 1) (by omega)
theorem cn_X11_behind (E : ME) (h : AH) (t : Int32) (m : Nat) (hw : WF h) (hm : h.2.1 49 14 = nI m) (hm2 : m ≤ 12) : Con E mX11_behind 0 0 0 [.ref 49, .int t] h (fun r h' => r = some (.int (bhF (h.2.1 66) t m)) ∧ h' = h) := by
  refine con_of2 (L := [some (.ref 49), some (.int t), none, none]) rfl (Nat.le_of_ble_eq_true rfl) rfl ?_
  refine ev_iconst (pc := 0) (v := 0) dX11_behind_0 (by decide) ?_
  refine ev_istore_n (pc := 1) (L' := [some (.ref 49), some (.int t), some (.int 0), none]) dX11_behind_1 (Nat.le_of_ble_eq_true rfl) rfl ?_
  refine ev_iconst (pc := 2) (v := 0) dX11_behind_2 (by decide) ?_
  refine ev_istore_n (pc := 3) (L' := [some (.ref 49), some (.int t), some (.int 0), some (.int 0)]) dX11_behind_3 (Nat.le_of_ble_eq_true rfl) rfl ?_
  refine lp_behind_4 E h m t hw hm hm2 ?_ m 0 (Nat.zero_add _)
  refine ev_iload_n (pc := 42) dX11_behind_42 rfl ?_
  refine ev_iret (pc := 43) dX11_behind_43 rfl ?_ ?_
  · rfl
  · exact ⟨rfl, rfl⟩
/-- one told step back from a set; the fewest steps to itself -/
def rsF (lt : Nat → Int32) (x : Int32) : Nat → Int32
  | 0 => 0
  | k + 1 => rsF lt x k ||| (if (x >>> (nI k &&& 31)) &&& 1 = 1 then lt k else 0)
def rgo (lt : Nat → Int32) (m : Nat) (t : Int32) : Nat → Nat → Int32 → Int32
  | 0, _, _ => 0
  | f + 1, n, x => if (x >>> (t &&& 31)) &&& 1 = 1 then nI n else rgo lt m t f (n + 1) (rsF lt x m)
def lrF (g : Nat → Int32) : Nat → Int32
  | 0 => 0
  | t + 1 => if 0 < g t ∧ (lrF g t = 0 ∨ g t < lrF g t) then g t else lrF g t
theorem less_6 (a b c d e f : Option Value) : ∀ (i : Nat) (v : Value), [a, b, c, d, none, none][i]? = some (some v) → [a, b, c, d, e, f][i]? = some (some v) := by
  intro i v h
  match i, h with
  | 0, h => exact h
  | 1, h => exact h
  | 2, h => exact h
  | 3, h => exact h
  | 4, h => simp at h
  | 5, h => simp at h
  | n + 6, h => simp at h
theorem less_5 (a b c d e : Option Value) : ∀ (i : Nat) (v : Value), [a, b, c, d, none][i]? = some (some v) → [a, b, c, d, e][i]? = some (some v) := by
  intro i v h
  match i, h with
  | 0, h => exact h
  | 1, h => exact h
  | 2, h => exact h
  | 3, h => exact h
  | 4, h => simp at h
  | n + 5, h => simp at h
theorem lp_ringOf_34 (E : ME) (h : AH) (m n : Nat) (t x : Int32) (hw : WF h) (hm : h.2.1 49 14 = nI m) (hm2 : m ≤ 12) {post : PO} (K : Ev E mX11_ringOf (rmm 0 0 0) (QM E 0 0 post) 0 0 75 [some (.ref 49), some (.int t), some (.int x), some (.int (nI n)), some (.int (rsF (h.2.1 55) x m)), some (.int (nI m))] [] h) : ∀ q i : Nat, i + q = m → Ev E mX11_ringOf (rmm 0 0 0) (QM E 0 0 post) 0 0 34 [some (.ref 49), some (.int t), some (.int x), some (.int (nI n)), some (.int (rsF (h.2.1 55) x i)), some (.int (nI i))] [] h := by
  intro q
  induction q with
  | zero =>
    intro i hi
    obtain rfl : m = i := by omega
    refine ev_iload (pc := 34) dX11_ringOf_34 rfl ?_
    refine ev_aload_n (pc := 36) dX11_ringOf_36 rfl ?_
    refine ev_getI (pc := 37) dX11_ringOf_37 fX11_184 rfl (wlt hw (by decide)) ?_
    refine ev_icmp_ge (pc := 40) (tgt := 75) dX11_ringOf_40 (by decide) (fun zc40 => ?_) (fun zc40 => absurd (by rw [hm]; exact nI_leI (by omega) (by omega) |>.mpr (Nat.le_refl _)) zc40)
    exact K
  | succ q ih =>
    intro i hi
    have hlt : i < m := by omega
    refine ev_iload (pc := 34) dX11_ringOf_34 rfl ?_
    refine ev_aload_n (pc := 36) dX11_ringOf_36 rfl ?_
    refine ev_getI (pc := 37) dX11_ringOf_37 fX11_184 rfl (wlt hw (by decide)) ?_
    refine ev_icmp_ge (pc := 40) (tgt := 75) dX11_ringOf_40 (by decide) (fun zc40 => absurd zc40 (by rw [hm]; exact nI_ge hlt (by omega))) (fun zc40 => ?_)
    refine ev_iload (pc := 43) dX11_ringOf_43 rfl ?_
    refine ev_iload_n (pc := 45) dX11_ringOf_45 rfl ?_
    refine ev_iload (pc := 46) dX11_ringOf_46 rfl ?_
    refine ev_ishr (pc := 48) dX11_ringOf_48 ?_
    refine ev_iconst (pc := 49) (v := 1) dX11_ringOf_49 (by decide) ?_
    refine ev_iand (pc := 50) dX11_ringOf_50 ?_
    refine ev_iconst (pc := 51) (v := 1) dX11_ringOf_51 (by decide) ?_
    refine ev_icmp_ne (pc := 52) (tgt := 65) dX11_ringOf_52 (by decide) (fun zc52 => ?_) (fun zc52 => ?_)
    · -- ne at 52: taken
      refine ev_iconst (pc := 65) (v := 0) dX11_ringOf_65 (by decide) ?_
      refine ev_ior (pc := 66) dX11_ringOf_66 ?_
      refine ev_istore (pc := 67) (L' := [some (.ref 49), some (.int t), some (.int x), some (.int (nI n)), some (.int ((rsF (h.2.1 55) x i) ||| 0)), some (.int (nI i))]) dX11_ringOf_67 (Nat.le_of_ble_eq_true rfl) rfl ?_
      refine ev_iinc (pc := 69) (v := nI (i + 1)) (L' := [some (.ref 49), some (.int t), some (.int x), some (.int (nI n)), some (.int ((rsF (h.2.1 55) x i) ||| 0)), some (.int (nI (i + 1)))]) dX11_ringOf_69 rfl (nI_1 _) (Nat.le_of_ble_eq_true rfl) rfl ?_
      refine ev_goto (pc := 72) (tgt := 34) dX11_ringOf_72 (by decide) ?_
      refine ev_eqL (L' := [some (.ref 49), some (.int t), some (.int x), some (.int (nI n)), some (.int (rsF (h.2.1 55) x (i + 1))), some (.int (nI (i + 1)))]) (by first | rfl | (simp only [rsF]; first | rw [if_pos zc52] | rw [if_neg zc52]) | (simp [rsF, zc52]; done)) ?_
      exact ih (i + 1) (by omega)
    · -- ne at 52: not taken
      refine ev_aload_n (pc := 55) dX11_ringOf_55 rfl ?_
      refine ev_getR (pc := 56) (q := 55) dX11_ringOf_56 fX11_25 rfl (wlt hw (by decide)) (wr hw rfl) ?_
      refine ev_iload (pc := 59) dX11_ringOf_59 rfl ?_
      refine ev_iald (pc := 61) dX11_ringOf_61 rfl (wlt hw (by decide)) (vp_in_nI (by omega) (by decide)) ?_
      refine ev_eqI (e' := h.2.1 55 i) (by rw [show Int32.toNatClampNeg (nI i) = i from nI_clamp (by omega)] <;> rfl) ?_
      refine ev_goto (pc := 62) (tgt := 66) dX11_ringOf_62 (by decide) ?_
      refine ev_ior (pc := 66) dX11_ringOf_66 ?_
      refine ev_istore (pc := 67) (L' := [some (.ref 49), some (.int t), some (.int x), some (.int (nI n)), some (.int ((rsF (h.2.1 55) x i) ||| (h.2.1 55 i))), some (.int (nI i))]) dX11_ringOf_67 (Nat.le_of_ble_eq_true rfl) rfl ?_
      refine ev_iinc (pc := 69) (v := nI (i + 1)) (L' := [some (.ref 49), some (.int t), some (.int x), some (.int (nI n)), some (.int ((rsF (h.2.1 55) x i) ||| (h.2.1 55 i))), some (.int (nI (i + 1)))]) dX11_ringOf_69 rfl (nI_1 _) (Nat.le_of_ble_eq_true rfl) rfl ?_
      refine ev_goto (pc := 72) (tgt := 34) dX11_ringOf_72 (by decide) ?_
      refine ev_eqL (L' := [some (.ref 49), some (.int t), some (.int x), some (.int (nI n)), some (.int (rsF (h.2.1 55) x (i + 1))), some (.int (nI (i + 1)))]) (by first | rfl | (simp only [rsF]; first | rw [if_pos zc52] | rw [if_neg zc52]) | (simp [rsF, zc52]; done)) ?_
      exact ih (i + 1) (by omega)
theorem lp_ringOf_9 (E : ME) (h : AH) (m : Nat) (t : Int32) (hw : WF h) (hm : h.2.1 49 14 = nI m) (hm2 : m ≤ 12) {post : PO} : ∀ (f n : Nat) (x : Int32), n + f = m + 1 → post (some (.int (rgo (h.2.1 55) m t f n x))) h → Ev E mX11_ringOf (rmm 0 0 0) (QM E 0 0 post) 0 0 9 [some (.ref 49), some (.int t), some (.int x), some (.int (nI n)), none, none] [] h := by
  intro f
  induction f with
  | zero =>
    intro n x hn hp
    refine ev_iload_n (pc := 9) dX11_ringOf_9 rfl ?_
    refine ev_aload_n (pc := 10) dX11_ringOf_10 rfl ?_
    refine ev_getI (pc := 11) dX11_ringOf_11 fX11_184 rfl (wlt hw (by decide)) ?_
    refine ev_icmp_gt (pc := 14) (tgt := 84) dX11_ringOf_14 (by decide) (fun zc14 => ?_) (fun zc14 => absurd (by rw [hm]; exact (nI_ltI (by omega) (by omega)).mpr (by omega)) zc14)
    refine ev_iconst (pc := 84) (v := 0) dX11_ringOf_84 (by decide) ?_
    refine ev_iret (pc := 85) dX11_ringOf_85 rfl ?_ ?_
    · rfl
    · exact hp
  | succ f ih =>
    intro n x hn hp
    refine ev_iload_n (pc := 9) dX11_ringOf_9 rfl ?_
    refine ev_aload_n (pc := 10) dX11_ringOf_10 rfl ?_
    refine ev_getI (pc := 11) dX11_ringOf_11 fX11_184 rfl (wlt hw (by decide)) ?_
    refine ev_icmp_gt (pc := 14) (tgt := 84) dX11_ringOf_14 (by decide) (fun zc14 => absurd zc14 (by rw [hm, nI_ltI (by omega) (by omega)]; omega)) (fun zc14 => ?_)
    refine ev_iload_n (pc := 17) dX11_ringOf_17 rfl ?_
    refine ev_iload_n (pc := 18) dX11_ringOf_18 rfl ?_
    refine ev_ishr (pc := 19) dX11_ringOf_19 ?_
    refine ev_iconst (pc := 20) (v := 1) dX11_ringOf_20 (by decide) ?_
    refine ev_iand (pc := 21) dX11_ringOf_21 ?_
    refine ev_iconst (pc := 22) (v := 1) dX11_ringOf_22 (by decide) ?_
    refine ev_icmp_ne (pc := 23) (tgt := 28) dX11_ringOf_23 (by decide) (fun zc23 => ?_) (fun zc23 => ?_)
    · -- ne at 23: taken
      refine ev_iconst (pc := 28) (v := 0) dX11_ringOf_28 (by decide) ?_
      refine ev_istore (pc := 29) (L' := [some (.ref 49), some (.int t), some (.int x), some (.int (nI n)), some (.int 0), none]) dX11_ringOf_29 (Nat.le_of_ble_eq_true rfl) rfl ?_
      refine ev_iconst (pc := 31) (v := 0) dX11_ringOf_31 (by decide) ?_
      refine ev_istore (pc := 32) (L' := [some (.ref 49), some (.int t), some (.int x), some (.int (nI n)), some (.int 0), some (.int 0)]) dX11_ringOf_32 (Nat.le_of_ble_eq_true rfl) rfl ?_
      refine lp_ringOf_34 E h m n t x hw hm hm2 ?_ m 0 (Nat.zero_add m)
      refine ev_iload (pc := 75) dX11_ringOf_75 rfl ?_
      refine ev_istore_n (pc := 77) (L' := [some (.ref 49), some (.int t), some (.int (rsF (h.2.1 55) x m)), some (.int (nI n)), some (.int (rsF (h.2.1 55) x m)), some (.int (nI m))]) dX11_ringOf_77 (Nat.le_of_ble_eq_true rfl) rfl ?_
      refine ev_iinc (pc := 78) (v := nI (n + 1)) (L' := [some (.ref 49), some (.int t), some (.int (rsF (h.2.1 55) x m)), some (.int (nI (n + 1))), some (.int (rsF (h.2.1 55) x m)), some (.int (nI m))]) dX11_ringOf_78 rfl (nI_1 _) (Nat.le_of_ble_eq_true rfl) rfl ?_
      refine ev_goto (pc := 81) (tgt := 9) dX11_ringOf_81 (by decide) ?_
      refine ev_less (less_6 _ _ _ _ _ _) ?_
      exact ih (n + 1) _ (by omega) (by rw [rgo, if_neg zc23] at hp; exact hp)
    · -- ne at 23: not taken
      refine ev_iload_n (pc := 26) dX11_ringOf_26 rfl ?_
      refine ev_iret (pc := 27) dX11_ringOf_27 rfl ?_ ?_
      · rfl
      · rw [rgo, if_pos (by simpa using zc23)] at hp
        exact hp
theorem cn_X11_ringOf (E : ME) (h : AH) (k m : Nat) (hw : WF h) (hm : h.2.1 49 14 = nI m) (hm2 : m ≤ 12) (hk : k < m) : Con E mX11_ringOf 0 0 0 [.ref 49, .int (nI k)] h (fun r h' => r = some (.int (rgo (h.2.1 55) m (nI k) m 1 (h.2.1 55 k))) ∧ h' = h) := by
  refine con_of2 (L := [some (.ref 49), some (.int (nI k)), none, none, none, none]) rfl (Nat.le_of_ble_eq_true rfl) rfl ?_
  refine ev_aload_n (pc := 0) dX11_ringOf_0 rfl ?_
  refine ev_getR (pc := 1) (q := 55) dX11_ringOf_1 fX11_25 rfl (wlt hw (by decide)) (wr hw rfl) ?_
  refine ev_iload_n (pc := 4) dX11_ringOf_4 rfl ?_
  refine ev_iald (pc := 5) dX11_ringOf_5 rfl (wlt hw (by decide)) (vp_in_nI (by omega) (by decide)) ?_
  refine ev_eqI (e' := h.2.1 55 k) (by rw [show Int32.toNatClampNeg (nI k) = k from nI_clamp (by omega)] <;> rfl) ?_
  refine ev_istore_n (pc := 6) (L' := [some (.ref 49), some (.int (nI k)), some (.int (h.2.1 55 k)), none, none, none]) dX11_ringOf_6 (Nat.le_of_ble_eq_true rfl) rfl ?_
  refine ev_iconst (pc := 7) (v := 1) dX11_ringOf_7 (by decide) ?_
  refine ev_istore_n (pc := 8) (L' := [some (.ref 49), some (.int (nI k)), some (.int (h.2.1 55 k)), some (.int 1), none, none]) dX11_ringOf_8 (Nat.le_of_ble_eq_true rfl) rfl ?_
  exact lp_ringOf_9 E h m (nI k) hw hm hm2 m 1 (h.2.1 55 k) (by omega) ⟨rfl, rfl⟩
theorem lp_rings_29 (E : ME) (h : AH) (m : Nat) (what : Int32) (hw : WF h) (hm : h.2.1 49 14 = nI m) (hm2 : m ≤ 12) {post : PO} (K : Ev E mX11_rings (rmm 1 0 0) (QM E 0 0 post) 0 0 72 [some (.ref 49), some (.int what), some (.int (lrF (fun q => rgo (h.2.1 55) m (nI q) m 1 (h.2.1 55 q)) m)), some (.int (nI m)), none] [] h) : ∀ n i : Nat, i + n = m → Ev E mX11_rings (rmm 1 0 0) (QM E 0 0 post) 0 0 29 [some (.ref 49), some (.int what), some (.int (lrF (fun q => rgo (h.2.1 55) m (nI q) m 1 (h.2.1 55 q)) i)), some (.int (nI i)), none] [] h := by
  intro n
  induction n with
  | zero =>
    intro i hi
    obtain rfl : m = i := by omega
    refine ev_iload_n (pc := 29) dX11_rings_29 rfl ?_
    refine ev_aload_n (pc := 30) dX11_rings_30 rfl ?_
    refine ev_getI (pc := 31) dX11_rings_31 fX11_184 rfl (wlt hw (by decide)) ?_
    refine ev_icmp_ge (pc := 34) (tgt := 72) dX11_rings_34 (by decide) (fun zc34 => ?_) (fun zc34 => absurd (by rw [hm]; exact nI_leI (by omega) (by omega) |>.mpr (Nat.le_refl _)) zc34)
    exact K
  | succ n ih =>
    intro i hi
    have hlt : i < m := by omega
    refine ev_iload_n (pc := 29) dX11_rings_29 rfl ?_
    refine ev_aload_n (pc := 30) dX11_rings_30 rfl ?_
    refine ev_getI (pc := 31) dX11_rings_31 fX11_184 rfl (wlt hw (by decide)) ?_
    refine ev_icmp_ge (pc := 34) (tgt := 72) dX11_rings_34 (by decide) (fun zc34 => absurd zc34 (by rw [hm]; exact nI_ge hlt (by omega))) (fun zc34 => ?_)
    refine ev_aload_n (pc := 37) dX11_rings_37 rfl ?_
    refine ev_iload_n (pc := 38) dX11_rings_38 rfl ?_
    refine ev_callVv (S := []) (pc := 39) dX11_rings_39 kX11_ringOf lX11_205 vX11_ringOf (cn_X11_ringOf E h i m hw hm hm2 hlt) rfl rfl (wlt hw (by decide)) rfl rfl (Nat.le_of_ble_eq_true rfl) ⟨Nat.le_of_ble_eq_true rfl, Nat.le_of_ble_eq_true rfl⟩ ⟨Nat.le_of_ble_eq_true rfl, Nat.le_of_ble_eq_true rfl⟩ ?_
    refine ev_nmI (fun zr39 ezr39 => ?_)
    refine ev_istore (pc := 42) (L' := [some (.ref 49), some (.int what), some (.int (lrF (fun q => rgo (h.2.1 55) m (nI q) m 1 (h.2.1 55 q)) i)), some (.int (nI i)), some (.int zr39)]) dX11_rings_42 (Nat.le_of_ble_eq_true rfl) rfl ?_
    refine ev_iload (pc := 44) dX11_rings_44 rfl ?_
    refine ev_if_le (pc := 46) (tgt := 64) dX11_rings_46 (by decide) (fun zc46 => ?_) (fun zc46 => ?_)
    · -- le at 46: taken
      refine ev_iload_n (pc := 64) dX11_rings_64 rfl ?_
      refine ev_istore_n (pc := 65) (L' := [some (.ref 49), some (.int what), some (.int (lrF (fun q => rgo (h.2.1 55) m (nI q) m 1 (h.2.1 55 q)) i)), some (.int (nI i)), some (.int zr39)]) dX11_rings_65 (Nat.le_of_ble_eq_true rfl) rfl ?_
      refine ev_iinc (pc := 66) (v := nI (i + 1)) (L' := [some (.ref 49), some (.int what), some (.int (lrF (fun q => rgo (h.2.1 55) m (nI q) m 1 (h.2.1 55 q)) i)), some (.int (nI (i + 1))), some (.int zr39)]) dX11_rings_66 rfl (nI_1 _) (Nat.le_of_ble_eq_true rfl) rfl ?_
      refine ev_goto (pc := 69) (tgt := 29) dX11_rings_69 (by decide) ?_
      refine ev_eqL (L' := [some (.ref 49), some (.int what), some (.int (lrF (fun q => rgo (h.2.1 55) m (nI q) m 1 (h.2.1 55 q)) (i + 1))), some (.int (nI (i + 1))), some (.int zr39)]) (by simp only [lrF]; rw [← ezr39]; first | rw [if_neg (by (simp only [i_lt, i_le, i_eq, i_z0] at *; omega))] | rw [if_pos (by (simp only [i_lt, i_le, i_eq, i_z0] at *; omega))]) ?_
      refine ev_less (less_5 _ _ _ _ _) ?_
      exact ih (i + 1) (by omega)
    · -- le at 46: not taken
      refine ev_iload_n (pc := 49) dX11_rings_49 rfl ?_
      refine ev_if_eq (pc := 50) (tgt := 59) dX11_rings_50 (by decide) (fun zc50 => ?_) (fun zc50 => ?_)
      · -- eq at 50: taken
        refine ev_iload (pc := 59) dX11_rings_59 rfl ?_
        refine ev_goto (pc := 61) (tgt := 65) dX11_rings_61 (by decide) ?_
        refine ev_istore_n (pc := 65) (L' := [some (.ref 49), some (.int what), some (.int zr39), some (.int (nI i)), some (.int zr39)]) dX11_rings_65 (Nat.le_of_ble_eq_true rfl) rfl ?_
        refine ev_iinc (pc := 66) (v := nI (i + 1)) (L' := [some (.ref 49), some (.int what), some (.int zr39), some (.int (nI (i + 1))), some (.int zr39)]) dX11_rings_66 rfl (nI_1 _) (Nat.le_of_ble_eq_true rfl) rfl ?_
        refine ev_goto (pc := 69) (tgt := 29) dX11_rings_69 (by decide) ?_
        refine ev_eqL (L' := [some (.ref 49), some (.int what), some (.int (lrF (fun q => rgo (h.2.1 55) m (nI q) m 1 (h.2.1 55 q)) (i + 1))), some (.int (nI (i + 1))), some (.int zr39)]) (by simp only [lrF]; rw [← ezr39]; first | rw [if_neg (by (simp only [i_lt, i_le, i_eq, i_z0] at *; omega))] | rw [if_pos (by (simp only [i_lt, i_le, i_eq, i_z0] at *; omega))]) ?_
        refine ev_less (less_5 _ _ _ _ _) ?_
        exact ih (i + 1) (by omega)
      · -- eq at 50: not taken
        refine ev_iload (pc := 53) dX11_rings_53 rfl ?_
        refine ev_iload_n (pc := 55) dX11_rings_55 rfl ?_
        refine ev_icmp_ge (pc := 56) (tgt := 64) dX11_rings_56 (by decide) (fun zc56 => ?_) (fun zc56 => ?_)
        · -- ge at 56: taken
          refine ev_iload_n (pc := 64) dX11_rings_64 rfl ?_
          refine ev_istore_n (pc := 65) (L' := [some (.ref 49), some (.int what), some (.int (lrF (fun q => rgo (h.2.1 55) m (nI q) m 1 (h.2.1 55 q)) i)), some (.int (nI i)), some (.int zr39)]) dX11_rings_65 (Nat.le_of_ble_eq_true rfl) rfl ?_
          refine ev_iinc (pc := 66) (v := nI (i + 1)) (L' := [some (.ref 49), some (.int what), some (.int (lrF (fun q => rgo (h.2.1 55) m (nI q) m 1 (h.2.1 55 q)) i)), some (.int (nI (i + 1))), some (.int zr39)]) dX11_rings_66 rfl (nI_1 _) (Nat.le_of_ble_eq_true rfl) rfl ?_
          refine ev_goto (pc := 69) (tgt := 29) dX11_rings_69 (by decide) ?_
          refine ev_eqL (L' := [some (.ref 49), some (.int what), some (.int (lrF (fun q => rgo (h.2.1 55) m (nI q) m 1 (h.2.1 55 q)) (i + 1))), some (.int (nI (i + 1))), some (.int zr39)]) (by simp only [lrF]; rw [← ezr39]; first | rw [if_neg (by (simp only [i_lt, i_le, i_eq, i_z0] at *; omega))] | rw [if_pos (by (simp only [i_lt, i_le, i_eq, i_z0] at *; omega))]) ?_
          refine ev_less (less_5 _ _ _ _ _) ?_
          exact ih (i + 1) (by omega)
        · -- ge at 56: not taken
          refine ev_iload (pc := 59) dX11_rings_59 rfl ?_
          refine ev_goto (pc := 61) (tgt := 65) dX11_rings_61 (by decide) ?_
          refine ev_istore_n (pc := 65) (L' := [some (.ref 49), some (.int what), some (.int zr39), some (.int (nI i)), some (.int zr39)]) dX11_rings_65 (Nat.le_of_ble_eq_true rfl) rfl ?_
          refine ev_iinc (pc := 66) (v := nI (i + 1)) (L' := [some (.ref 49), some (.int what), some (.int zr39), some (.int (nI (i + 1))), some (.int zr39)]) dX11_rings_66 rfl (nI_1 _) (Nat.le_of_ble_eq_true rfl) rfl ?_
          refine ev_goto (pc := 69) (tgt := 29) dX11_rings_69 (by decide) ?_
          refine ev_eqL (L' := [some (.ref 49), some (.int what), some (.int (lrF (fun q => rgo (h.2.1 55) m (nI q) m 1 (h.2.1 55 q)) (i + 1))), some (.int (nI (i + 1))), some (.int zr39)]) (by simp only [lrF]; rw [← ezr39]; first | rw [if_neg (by (simp only [i_lt, i_le, i_eq, i_z0] at *; omega))] | rw [if_pos (by (simp only [i_lt, i_le, i_eq, i_z0] at *; omega))]) ?_
          refine ev_less (less_5 _ _ _ _ _) ?_
          exact ih (i + 1) (by omega)
theorem cn_X11_rings (E : ME) (h : AH) (what : Int32) (m : Nat) (hw : WF h) (hm : h.2.1 49 14 = nI m) (hm2 : m ≤ 12) : Con E mX11_rings 1 0 0 [.ref 49, .int what] h (fun r h' => r = some (.int (if what = 0 then rgF (befF m (h.2.1 55) (h.2.1 66)) m else if what = 1 then lrF (fun q => rgo (h.2.1 55) m (nI q) m 1 (h.2.1 55 q)) m else -1)) ∧ h' = if what = 0 ∨ what = 1 then sI h 66 (befF m (h.2.1 55) (h.2.1 66)) else h) := by
  refine con_of2 (L := [some (.ref 49), some (.int what), none, none, none]) rfl (Nat.le_of_ble_eq_true rfl) rfl ?_
  refine ev_iload_n (pc := 0) dX11_rings_0 rfl ?_
  refine ev_i2l (pc := 1) dX11_rings_1 ?_
  refine ev_lconst (pc := 2) (v := 0) dX11_rings_2 (by decide) ?_
  refine ev_lconst (pc := 3) (v := 1) dX11_rings_3 (by decide) ?_
  refine ev_callSv (S := []) (pc := 4) dX11_rings_4 kX11_in lX11_96 sX11_in (cn_X11_inC E h what 0 1 _ _ _ rfl (by decide) (by decide)) rfl rfl (Nat.le_of_ble_eq_true rfl) ⟨Nat.le_of_ble_eq_true rfl, Nat.le_of_ble_eq_true rfl⟩ ⟨Nat.le_of_ble_eq_true rfl, Nat.le_of_ble_eq_true rfl⟩ ?_
  refine ev_if_ne (pc := 7) (tgt := 12) dX11_rings_7 (by decide) (fun zc7 => ?_) (fun zc7 => ?_)
  · -- ne at 7: taken
    refine ev_aload_n (pc := 12) dX11_rings_12 rfl ?_
    refine ev_callV0 (S := []) (pc := 13) dX11_rings_13 kX11_layBefore lX11_199 vX11_layBefore (cn_X11_layBefore E h m hw hm hm2) rfl rfl (wlt hw (by decide)) rfl rfl (Nat.le_of_ble_eq_true rfl) ⟨Nat.le_of_ble_eq_true rfl, Nat.le_of_ble_eq_true rfl⟩ ⟨Nat.le_of_ble_eq_true rfl, Nat.le_of_ble_eq_true rfl⟩ ?_
    refine ev_eqH (h' := sI h 66 (befF m (h.2.1 55) (h.2.1 66))) rfl ?_
    refine ev_iload_n (pc := 16) dX11_rings_16 rfl ?_
    refine ev_if_ne (pc := 17) (tgt := 25) dX11_rings_17 (by decide) (fun zc17 => ?_) (fun zc17 => ?_)
    · -- ne at 17: taken
      refine ev_iconst (pc := 25) (v := 0) dX11_rings_25 (by decide) ?_
      refine ev_istore_n (pc := 26) (L' := [some (.ref 49), some (.int what), some (.int 0), none, none]) dX11_rings_26 (Nat.le_of_ble_eq_true rfl) rfl ?_
      refine ev_iconst (pc := 27) (v := 0) dX11_rings_27 (by decide) ?_
      refine ev_istore_n (pc := 28) (L' := [some (.ref 49), some (.int what), some (.int 0), some (.int 0), none]) dX11_rings_28 (Nat.le_of_ble_eq_true rfl) rfl ?_
      refine lp_rings_29 E (sI h 66 (befF m (h.2.1 55) (h.2.1 66))) m what (wf_sI hw) hm hm2 ?_ m 0 (Nat.zero_add m)
      refine ev_iload_n (pc := 72) dX11_rings_72 rfl ?_
      refine ev_iret (pc := 73) dX11_rings_73 rfl ?_ ?_
      · rfl
      · rw [bI_n0] at zc7
        have z1 : what = 1 := by simp only [i_lt, i_le, i_eq, i_z0] at *; have : (1 : Int32).toInt = 1 := rfl; omega
        subst z1
        exact ⟨rfl, rfl⟩
    · -- ne at 17: not taken
      refine ev_aload_n (pc := 20) dX11_rings_20 rfl ?_
      refine ev_callVv (S := []) (pc := 21) dX11_rings_21 kX11_ringed lX11_202 vX11_ringed (cn_X11_ringed E (sI h 66 (befF m (h.2.1 55) (h.2.1 66))) m (wf_sI hw) hm hm2) rfl rfl (wlt (wf_sI hw) (by decide)) rfl rfl (Nat.le_of_ble_eq_true rfl) ⟨Nat.le_of_ble_eq_true rfl, Nat.le_of_ble_eq_true rfl⟩ ⟨Nat.le_of_ble_eq_true rfl, Nat.le_of_ble_eq_true rfl⟩ ?_
      refine ev_nmI (fun zr21 ezr21 => ?_)
      refine ev_iret (pc := 24) dX11_rings_24 rfl ?_ ?_
      · rfl
      · simp [ezr21, zc17, sI_at]
  · -- ne at 7: not taken
    refine ev_iconst (pc := 10) (v := (-1)) dX11_rings_10 (by decide) ?_
    refine ev_iret (pc := 11) dX11_rings_11 rfl ?_ ?_
    · rfl
    · rw [bI_0] at zc7
      have z0 : ¬ what = 0 := fun q => zc7 (by rw [q]; decide)
      have z1 : ¬ what = 1 := fun q => zc7 (by rw [q]; decide)
      simp [z0, z1]
