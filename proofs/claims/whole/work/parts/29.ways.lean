theorem m1_add (x : Int32) : x + Int32.ofInt (-1) = x - 1 := by
  rw [Int32.sub_eq_add_neg]
  rfl
theorem sh_full : ∀ m, m < 13 → (1 : Int32) <<< (nI m &&& 31) - 1 = nI (2 ^ m - 1) := by decide +kernel
theorem sh_pow : ∀ t, t < 13 → (1 : Int32) <<< (nI t &&& 31) = nI (2 ^ t) := by decide +kernel
theorem pw_le {m : Nat} (h : m ≤ 12) : 1 ≤ 2 ^ m ∧ 2 ^ m ≤ 4096 := ⟨Nat.one_le_two_pow, Nat.pow_le_pow_right (by decide) h⟩
theorem or_lt {s t m : Nat} (hs : s < 2 ^ m) (ht : t < m) : s ||| 2 ^ t < 2 ^ m := Nat.or_lt_two_pow hs (Nat.pow_lt_pow_right (by decide) ht)
/-- ways of one set: over the things; of the sets from the whole one down -/
def wyT (bf : Nat → Int32) (za zb : Int32) (s : Nat) (f : Nat → Int64) : Nat → Nat → Int64
  | 0 => vp_updL f s 0
  | t + 1 => if (nI s >>> (nI t &&& 31)) &&& 1 = 0 ∧ (bf t ||| (if nI t = zb then 1 <<< (za &&& 31) else 0)) &&& (nI s ^^^ (-1)) = 0 then vp_updL (wyT bf za zb s f t) s (wyT bf za zb s f t s + wyT bf za zb s f t (s ||| 2 ^ t)) else wyT bf za zb s f t
def wyS (bf : Nat → Int32) (za zb : Int32) (m : Nat) (f : Nat → Int64) : Nat → Nat → Int64
  | 0 => vp_updL f (2 ^ m - 1) 1
  | j + 1 => wyT bf za zb (2 ^ m - 2 - j) (wyS bf za zb m f j) m
theorem lp_layWays_37 (E : ME) (h : AH) (m zs : Nat) (za zb : Int32) (zf : Nat → Int64) (hw : WF h) (hm : h.2.1 49 14 = nI m) (hm2 : m ≤ 12) (hs : zs < 2 ^ m) {post : PO} (K : Ev E mX11_layWays (rmm 0 0 0) (QM E 0 0 post) 0 0 117 [some (.ref 49), some (.int za), some (.int zb), some (.int (nI (2 ^ m - 1))), some (.int (nI zs)), some (.int (nI m)), none] [] (sL h 67 (wyT (h.2.1 66) za zb zs zf m))) : ∀ n i : Nat, i + n = m → Ev E mX11_layWays (rmm 0 0 0) (QM E 0 0 post) 0 0 37 [some (.ref 49), some (.int za), some (.int zb), some (.int (nI (2 ^ m - 1))), some (.int (nI zs)), some (.int (nI i)), none] [] (sL h 67 (wyT (h.2.1 66) za zb zs zf i)) := by
  intro n
  induction n with
  | zero =>
    intro i hi
    obtain rfl : m = i := by omega
    refine ev_iload (pc := 37) dX11_layWays_37 rfl ?_
    refine ev_aload_n (pc := 39) dX11_layWays_39 rfl ?_
    refine ev_getI (pc := 40) dX11_layWays_40 fX11_184 rfl (wlt (wf_sL hw) (by decide)) ?_
    refine ev_eqI (e' := h.2.1 49 14) (by rfl) ?_
    refine ev_eqI (e' := nI m) hm ?_
    refine ev_icmp_ge (pc := 43) (tgt := 117) dX11_layWays_43 (by decide) (fun zc43 => ?_) (fun zc43 => absurd ((nI_leI (by omega) (by omega)).mpr (Nat.le_refl _)) zc43)
    exact K
  | succ n ih =>
    intro i hi
    have hlt : i < m := by omega
    refine ev_iload (pc := 37) dX11_layWays_37 rfl ?_
    refine ev_aload_n (pc := 39) dX11_layWays_39 rfl ?_
    refine ev_getI (pc := 40) dX11_layWays_40 fX11_184 rfl (wlt (wf_sL hw) (by decide)) ?_
    refine ev_eqI (e' := h.2.1 49 14) (by rfl) ?_
    refine ev_eqI (e' := nI m) hm ?_
    refine ev_icmp_ge (pc := 43) (tgt := 117) dX11_layWays_43 (by decide) (fun zc43 => absurd zc43 (nI_ge hlt (by omega))) (fun zc43 => ?_)
    refine ev_aload_n (pc := 46) dX11_layWays_46 rfl ?_
    refine ev_getR (pc := 47) (q := 66) dX11_layWays_47 fX11_62 rfl (wlt (wf_sL hw) (by decide)) (wr (wf_sL hw) rfl) ?_
    refine ev_iload (pc := 50) dX11_layWays_50 rfl ?_
    refine ev_iald (pc := 52) dX11_layWays_52 rfl (wlt (wf_sL hw) (by decide)) (vp_in_nI (by have z1 := pw_le hm2; omega) (by decide)) ?_
    refine ev_eqI (e' := h.2.1 66 i) (by rw [show Int32.toNatClampNeg (nI i) = i from nI_clamp (by have z1 := pw_le hm2; omega)] <;> rfl) ?_
    refine ev_iload (pc := 53) dX11_layWays_53 rfl ?_
    refine ev_iload_n (pc := 55) dX11_layWays_55 rfl ?_
    refine ev_icmp_ne (pc := 56) (tgt := 65) dX11_layWays_56 (by decide) (fun zc56 => ?_) (fun zc56 => ?_)
    · -- ne at 56: taken
      refine ev_iconst (pc := 65) (v := 0) dX11_layWays_65 (by decide) ?_
      refine ev_ior (pc := 66) dX11_layWays_66 ?_
      refine ev_istore (pc := 67) (L' := [some (.ref 49), some (.int za), some (.int zb), some (.int (nI (2 ^ m - 1))), some (.int (nI zs)), some (.int (nI i)), some (.int ((h.2.1 66 i) ||| 0))]) dX11_layWays_67 (Nat.le_of_ble_eq_true rfl) rfl ?_
      refine ev_iload (pc := 69) dX11_layWays_69 rfl ?_
      refine ev_iload (pc := 71) dX11_layWays_71 rfl ?_
      refine ev_ishr (pc := 73) dX11_layWays_73 ?_
      refine ev_iconst (pc := 74) (v := 1) dX11_layWays_74 (by decide) ?_
      refine ev_iand (pc := 75) dX11_layWays_75 ?_
      refine ev_if_ne (pc := 76) (tgt := 111) dX11_layWays_76 (by decide) (fun zc76 => ?_) (fun zc76 => ?_)
      · -- ne at 76: taken
        refine ev_iinc (pc := 111) (v := nI (i + 1)) (L' := [some (.ref 49), some (.int za), some (.int zb), some (.int (nI (2 ^ m - 1))), some (.int (nI zs)), some (.int (nI (i + 1))), some (.int ((h.2.1 66 i) ||| 0))]) dX11_layWays_111 rfl (nI_1 _) (Nat.le_of_ble_eq_true rfl) rfl ?_
        refine ev_goto (pc := 114) (tgt := 37) dX11_layWays_114 (by decide) ?_
        refine ev_eqH (h' := sL h 67 (wyT (h.2.1 66) za zb zs zf (i + 1))) (by simp only [wyT]; rw [if_neg (show ¬ ((nI zs >>> (nI i &&& 31)) &&& 1 = 0 ∧ (h.2.1 66 i ||| (if nI i = zb then (1 : Int32) <<< (za &&& 31) else 0)) &&& (nI zs ^^^ (-1)) = 0) from fun z => zc76 z.1)]) ?_
        refine ev_less (L' := [some (.ref 49), some (.int za), some (.int zb), some (.int (nI (2 ^ m - 1))), some (.int (nI zs)), some (.int (nI (i + 1))), none]) (ls_keep (ls_keep (ls_keep (ls_keep (ls_keep (ls_keep (ls_drop (ls_nil _)))))))) ?_
        exact ih (i + 1) (by omega)
      · -- ne at 76: not taken
        refine ev_iload (pc := 79) dX11_layWays_79 rfl ?_
        refine ev_iload (pc := 81) dX11_layWays_81 rfl ?_
        refine ev_iconst (pc := 83) (v := (-1)) dX11_layWays_83 (by decide) ?_
        refine ev_ixor (pc := 84) dX11_layWays_84 ?_
        refine ev_iand (pc := 85) dX11_layWays_85 ?_
        refine ev_if_ne (pc := 86) (tgt := 111) dX11_layWays_86 (by decide) (fun zc86 => ?_) (fun zc86 => ?_)
        · -- ne at 86: taken
          refine ev_iinc (pc := 111) (v := nI (i + 1)) (L' := [some (.ref 49), some (.int za), some (.int zb), some (.int (nI (2 ^ m - 1))), some (.int (nI zs)), some (.int (nI (i + 1))), some (.int ((h.2.1 66 i) ||| 0))]) dX11_layWays_111 rfl (nI_1 _) (Nat.le_of_ble_eq_true rfl) rfl ?_
          refine ev_goto (pc := 114) (tgt := 37) dX11_layWays_114 (by decide) ?_
          refine ev_eqH (h' := sL h 67 (wyT (h.2.1 66) za zb zs zf (i + 1))) (by simp only [wyT]; rw [if_neg (show ¬ ((nI zs >>> (nI i &&& 31)) &&& 1 = 0 ∧ (h.2.1 66 i ||| (if nI i = zb then (1 : Int32) <<< (za &&& 31) else 0)) &&& (nI zs ^^^ (-1)) = 0) from fun z => zc86 (by have z9 := z.2; rw [if_neg zc56] at z9; exact z9))]) ?_
          refine ev_less (L' := [some (.ref 49), some (.int za), some (.int zb), some (.int (nI (2 ^ m - 1))), some (.int (nI zs)), some (.int (nI (i + 1))), none]) (ls_keep (ls_keep (ls_keep (ls_keep (ls_keep (ls_keep (ls_drop (ls_nil _)))))))) ?_
          exact ih (i + 1) (by omega)
        · -- ne at 86: not taken
          refine ev_aload_n (pc := 89) dX11_layWays_89 rfl ?_
          refine ev_getR (pc := 90) (q := 67) dX11_layWays_90 fX11_65 rfl (wlt (wf_sL hw) (by decide)) (wr (wf_sL hw) rfl) ?_
          refine ev_iload (pc := 93) dX11_layWays_93 rfl ?_
          refine ev_dup2 (pc := 95) dX11_layWays_95 rfl rfl ?_
          refine ev_lald (pc := 96) dX11_layWays_96 rfl (wlt (wf_sL hw) (by decide)) (vp_in_nI (by have z1 := pw_le hm2; omega) (by decide)) ?_
          refine ev_eqJ (e' := (wyT (h.2.1 66) za zb zs zf i) zs) (by rw [show Int32.toNatClampNeg (nI zs) = zs from nI_clamp (by have z1 := pw_le hm2; omega)] <;> rfl) ?_
          refine ev_aload_n (pc := 97) dX11_layWays_97 rfl ?_
          refine ev_getR (pc := 98) (q := 67) dX11_layWays_98 fX11_65 rfl (wlt (wf_sL hw) (by decide)) (wr (wf_sL hw) rfl) ?_
          refine ev_iload (pc := 101) dX11_layWays_101 rfl ?_
          refine ev_iconst (pc := 103) (v := 1) dX11_layWays_103 (by decide) ?_
          refine ev_iload (pc := 104) dX11_layWays_104 rfl ?_
          refine ev_ishl (pc := 106) dX11_layWays_106 ?_
          refine ev_ior (pc := 107) dX11_layWays_107 ?_
          refine ev_eqI (e' := nI (zs ||| 2 ^ i)) (by rw [sh_pow i (by omega)]; exact fa_or _ _) ?_
          refine ev_lald (pc := 108) dX11_layWays_108 rfl (wlt (wf_sL hw) (by decide)) (vp_in_nI (by have z1 := pw_le hm2; have z2 := or_lt hs hlt; omega) (by decide)) ?_
          refine ev_eqJ (e' := (wyT (h.2.1 66) za zb zs zf i) (zs ||| 2 ^ i)) (by rw [show Int32.toNatClampNeg (nI (zs ||| 2 ^ i)) = (zs ||| 2 ^ i) from nI_clamp (by have z1 := pw_le hm2; have z2 := or_lt hs hlt; omega)] <;> rfl) ?_
          refine ev_ladd (pc := 109) dX11_layWays_109 ?_
          refine ev_last (pc := 110) dX11_layWays_110 rfl (wlt (wf_sL hw) (by decide)) (vp_in_nI (by have z1 := pw_le hm2; omega) (by decide)) ?_
          refine ev_eqH (h' := sL h 67 (vp_updL (wyT (h.2.1 66) za zb zs zf i) zs (((wyT (h.2.1 66) za zb zs zf i) zs) + ((wyT (h.2.1 66) za zb zs zf i) (zs ||| 2 ^ i))))) (by rw [show Int32.toNatClampNeg (nI zs) = zs from nI_clamp (by have z1 := pw_le hm2; omega)]; exact sL_sL _ _ _ _) ?_
          refine ev_iinc (pc := 111) (v := nI (i + 1)) (L' := [some (.ref 49), some (.int za), some (.int zb), some (.int (nI (2 ^ m - 1))), some (.int (nI zs)), some (.int (nI (i + 1))), some (.int ((h.2.1 66 i) ||| 0))]) dX11_layWays_111 rfl (nI_1 _) (Nat.le_of_ble_eq_true rfl) rfl ?_
          refine ev_goto (pc := 114) (tgt := 37) dX11_layWays_114 (by decide) ?_
          refine ev_eqH (h' := sL h 67 (wyT (h.2.1 66) za zb zs zf (i + 1))) (by simp only [wyT]; rw [if_pos (show (nI zs >>> (nI i &&& 31)) &&& 1 = 0 ∧ (h.2.1 66 i ||| (if nI i = zb then (1 : Int32) <<< (za &&& 31) else 0)) &&& (nI zs ^^^ (-1)) = 0 from ⟨zc76, by rw [if_neg zc56]; exact zc86⟩)]) ?_
          refine ev_less (L' := [some (.ref 49), some (.int za), some (.int zb), some (.int (nI (2 ^ m - 1))), some (.int (nI zs)), some (.int (nI (i + 1))), none]) (ls_keep (ls_keep (ls_keep (ls_keep (ls_keep (ls_keep (ls_drop (ls_nil _)))))))) ?_
          exact ih (i + 1) (by omega)
    · -- ne at 56: not taken
      refine ev_iconst (pc := 59) (v := 1) dX11_layWays_59 (by decide) ?_
      refine ev_iload_n (pc := 60) dX11_layWays_60 rfl ?_
      refine ev_ishl (pc := 61) dX11_layWays_61 ?_
      refine ev_goto (pc := 62) (tgt := 66) dX11_layWays_62 (by decide) ?_
      refine ev_ior (pc := 66) dX11_layWays_66 ?_
      refine ev_istore (pc := 67) (L' := [some (.ref 49), some (.int za), some (.int zb), some (.int (nI (2 ^ m - 1))), some (.int (nI zs)), some (.int (nI i)), some (.int ((h.2.1 66 i) ||| (1 <<< (za &&& 31))))]) dX11_layWays_67 (Nat.le_of_ble_eq_true rfl) rfl ?_
      refine ev_iload (pc := 69) dX11_layWays_69 rfl ?_
      refine ev_iload (pc := 71) dX11_layWays_71 rfl ?_
      refine ev_ishr (pc := 73) dX11_layWays_73 ?_
      refine ev_iconst (pc := 74) (v := 1) dX11_layWays_74 (by decide) ?_
      refine ev_iand (pc := 75) dX11_layWays_75 ?_
      refine ev_if_ne (pc := 76) (tgt := 111) dX11_layWays_76 (by decide) (fun zc76 => ?_) (fun zc76 => ?_)
      · -- ne at 76: taken
        refine ev_iinc (pc := 111) (v := nI (i + 1)) (L' := [some (.ref 49), some (.int za), some (.int zb), some (.int (nI (2 ^ m - 1))), some (.int (nI zs)), some (.int (nI (i + 1))), some (.int ((h.2.1 66 i) ||| (1 <<< (za &&& 31))))]) dX11_layWays_111 rfl (nI_1 _) (Nat.le_of_ble_eq_true rfl) rfl ?_
        refine ev_goto (pc := 114) (tgt := 37) dX11_layWays_114 (by decide) ?_
        refine ev_eqH (h' := sL h 67 (wyT (h.2.1 66) za zb zs zf (i + 1))) (by simp only [wyT]; rw [if_neg (show ¬ ((nI zs >>> (nI i &&& 31)) &&& 1 = 0 ∧ (h.2.1 66 i ||| (if nI i = zb then (1 : Int32) <<< (za &&& 31) else 0)) &&& (nI zs ^^^ (-1)) = 0) from fun z => zc76 z.1)]) ?_
        refine ev_less (L' := [some (.ref 49), some (.int za), some (.int zb), some (.int (nI (2 ^ m - 1))), some (.int (nI zs)), some (.int (nI (i + 1))), none]) (ls_keep (ls_keep (ls_keep (ls_keep (ls_keep (ls_keep (ls_drop (ls_nil _)))))))) ?_
        exact ih (i + 1) (by omega)
      · -- ne at 76: not taken
        refine ev_iload (pc := 79) dX11_layWays_79 rfl ?_
        refine ev_iload (pc := 81) dX11_layWays_81 rfl ?_
        refine ev_iconst (pc := 83) (v := (-1)) dX11_layWays_83 (by decide) ?_
        refine ev_ixor (pc := 84) dX11_layWays_84 ?_
        refine ev_iand (pc := 85) dX11_layWays_85 ?_
        refine ev_if_ne (pc := 86) (tgt := 111) dX11_layWays_86 (by decide) (fun zc86 => ?_) (fun zc86 => ?_)
        · -- ne at 86: taken
          refine ev_iinc (pc := 111) (v := nI (i + 1)) (L' := [some (.ref 49), some (.int za), some (.int zb), some (.int (nI (2 ^ m - 1))), some (.int (nI zs)), some (.int (nI (i + 1))), some (.int ((h.2.1 66 i) ||| (1 <<< (za &&& 31))))]) dX11_layWays_111 rfl (nI_1 _) (Nat.le_of_ble_eq_true rfl) rfl ?_
          refine ev_goto (pc := 114) (tgt := 37) dX11_layWays_114 (by decide) ?_
          refine ev_eqH (h' := sL h 67 (wyT (h.2.1 66) za zb zs zf (i + 1))) (by simp only [wyT]; rw [if_neg (show ¬ ((nI zs >>> (nI i &&& 31)) &&& 1 = 0 ∧ (h.2.1 66 i ||| (if nI i = zb then (1 : Int32) <<< (za &&& 31) else 0)) &&& (nI zs ^^^ (-1)) = 0) from fun z => zc86 (by have z9 := z.2; rw [if_pos zc56] at z9; exact z9))]) ?_
          refine ev_less (L' := [some (.ref 49), some (.int za), some (.int zb), some (.int (nI (2 ^ m - 1))), some (.int (nI zs)), some (.int (nI (i + 1))), none]) (ls_keep (ls_keep (ls_keep (ls_keep (ls_keep (ls_keep (ls_drop (ls_nil _)))))))) ?_
          exact ih (i + 1) (by omega)
        · -- ne at 86: not taken
          refine ev_aload_n (pc := 89) dX11_layWays_89 rfl ?_
          refine ev_getR (pc := 90) (q := 67) dX11_layWays_90 fX11_65 rfl (wlt (wf_sL hw) (by decide)) (wr (wf_sL hw) rfl) ?_
          refine ev_iload (pc := 93) dX11_layWays_93 rfl ?_
          refine ev_dup2 (pc := 95) dX11_layWays_95 rfl rfl ?_
          refine ev_lald (pc := 96) dX11_layWays_96 rfl (wlt (wf_sL hw) (by decide)) (vp_in_nI (by have z1 := pw_le hm2; omega) (by decide)) ?_
          refine ev_eqJ (e' := (wyT (h.2.1 66) za zb zs zf i) zs) (by rw [show Int32.toNatClampNeg (nI zs) = zs from nI_clamp (by have z1 := pw_le hm2; omega)] <;> rfl) ?_
          refine ev_aload_n (pc := 97) dX11_layWays_97 rfl ?_
          refine ev_getR (pc := 98) (q := 67) dX11_layWays_98 fX11_65 rfl (wlt (wf_sL hw) (by decide)) (wr (wf_sL hw) rfl) ?_
          refine ev_iload (pc := 101) dX11_layWays_101 rfl ?_
          refine ev_iconst (pc := 103) (v := 1) dX11_layWays_103 (by decide) ?_
          refine ev_iload (pc := 104) dX11_layWays_104 rfl ?_
          refine ev_ishl (pc := 106) dX11_layWays_106 ?_
          refine ev_ior (pc := 107) dX11_layWays_107 ?_
          refine ev_eqI (e' := nI (zs ||| 2 ^ i)) (by rw [sh_pow i (by omega)]; exact fa_or _ _) ?_
          refine ev_lald (pc := 108) dX11_layWays_108 rfl (wlt (wf_sL hw) (by decide)) (vp_in_nI (by have z1 := pw_le hm2; have z2 := or_lt hs hlt; omega) (by decide)) ?_
          refine ev_eqJ (e' := (wyT (h.2.1 66) za zb zs zf i) (zs ||| 2 ^ i)) (by rw [show Int32.toNatClampNeg (nI (zs ||| 2 ^ i)) = (zs ||| 2 ^ i) from nI_clamp (by have z1 := pw_le hm2; have z2 := or_lt hs hlt; omega)] <;> rfl) ?_
          refine ev_ladd (pc := 109) dX11_layWays_109 ?_
          refine ev_last (pc := 110) dX11_layWays_110 rfl (wlt (wf_sL hw) (by decide)) (vp_in_nI (by have z1 := pw_le hm2; omega) (by decide)) ?_
          refine ev_eqH (h' := sL h 67 (vp_updL (wyT (h.2.1 66) za zb zs zf i) zs (((wyT (h.2.1 66) za zb zs zf i) zs) + ((wyT (h.2.1 66) za zb zs zf i) (zs ||| 2 ^ i))))) (by rw [show Int32.toNatClampNeg (nI zs) = zs from nI_clamp (by have z1 := pw_le hm2; omega)]; exact sL_sL _ _ _ _) ?_
          refine ev_iinc (pc := 111) (v := nI (i + 1)) (L' := [some (.ref 49), some (.int za), some (.int zb), some (.int (nI (2 ^ m - 1))), some (.int (nI zs)), some (.int (nI (i + 1))), some (.int ((h.2.1 66 i) ||| (1 <<< (za &&& 31))))]) dX11_layWays_111 rfl (nI_1 _) (Nat.le_of_ble_eq_true rfl) rfl ?_
          refine ev_goto (pc := 114) (tgt := 37) dX11_layWays_114 (by decide) ?_
          refine ev_eqH (h' := sL h 67 (wyT (h.2.1 66) za zb zs zf (i + 1))) (by simp only [wyT]; rw [if_pos (show (nI zs >>> (nI i &&& 31)) &&& 1 = 0 ∧ (h.2.1 66 i ||| (if nI i = zb then (1 : Int32) <<< (za &&& 31) else 0)) &&& (nI zs ^^^ (-1)) = 0 from ⟨zc76, by rw [if_pos zc56]; exact zc86⟩)]) ?_
          refine ev_less (L' := [some (.ref 49), some (.int za), some (.int zb), some (.int (nI (2 ^ m - 1))), some (.int (nI zs)), some (.int (nI (i + 1))), none]) (ls_keep (ls_keep (ls_keep (ls_keep (ls_keep (ls_keep (ls_drop (ls_nil _)))))))) ?_
          exact ih (i + 1) (by omega)
theorem lp_layWays_21 (E : ME) (h : AH) (m : Nat) (za zb : Int32) (zf : Nat → Int64) (hw : WF h) (hm : h.2.1 49 14 = nI m) (hm2 : m ≤ 12) {post : PO} (K : Ev E mX11_layWays (rmm 0 0 0) (QM E 0 0 post) 0 0 123 [some (.ref 49), some (.int za), some (.int zb), some (.int (nI (2 ^ m - 1))), some (.int (nI 0 - 1)), none, none] [] (sL h 67 (wyS (h.2.1 66) za zb m zf (2 ^ m - 1)))) : ∀ zt zj : Nat, zt + zj = 2 ^ m - 1 → Ev E mX11_layWays (rmm 0 0 0) (QM E 0 0 post) 0 0 21 [some (.ref 49), some (.int za), some (.int zb), some (.int (nI (2 ^ m - 1))), some (.int (nI zt - 1)), none, none] [] (sL h 67 (wyS (h.2.1 66) za zb m zf zj)) := by
  intro zt
  induction zt with
  | zero =>
    intro zj hj
    obtain rfl : zj = 2 ^ m - 1 := by omega
    refine ev_iload (pc := 21) dX11_layWays_21 rfl ?_
    refine ev_if_lt (pc := 23) (tgt := 123) dX11_layWays_23 (by decide) (fun zc23 => ?_) (fun zc23 => absurd (by decide) zc23)
    exact K
  | succ zs ih =>
    intro zj hj
    have z1 := pw_le hm2
    have hs : zs < 2 ^ m := by omega
    refine ev_eqL (L' := [some (.ref 49), some (.int za), some (.int zb), some (.int (nI (2 ^ m - 1))), some (.int (nI zs)), none, none]) (by rw [nI_pred]) ?_
    refine ev_iload (pc := 21) dX11_layWays_21 rfl ?_
    refine ev_if_lt (pc := 23) (tgt := 123) dX11_layWays_23 (by decide) (fun zc23 => absurd zc23 (nI_pos (by omega))) (fun zc23 => ?_)
    refine ev_aload_n (pc := 26) dX11_layWays_26 rfl ?_
    refine ev_getR (pc := 27) (q := 67) dX11_layWays_27 fX11_65 rfl (wlt (wf_sL hw) (by decide)) (wr (wf_sL hw) rfl) ?_
    refine ev_iload (pc := 30) dX11_layWays_30 rfl ?_
    refine ev_lconst (pc := 32) (v := 0) dX11_layWays_32 (by decide) ?_
    refine ev_last (pc := 33) dX11_layWays_33 rfl (wlt (wf_sL hw) (by decide)) (vp_in_nI (by omega) (by decide)) ?_
    refine ev_eqH (h' := sL h 67 (vp_updL (wyS (h.2.1 66) za zb m zf zj) zs 0)) (by rw [show Int32.toNatClampNeg (nI zs) = zs from nI_clamp (by omega)]; exact sL_sL _ _ _ _) ?_
    refine ev_iconst (pc := 34) (v := 0) dX11_layWays_34 (by decide) ?_
    refine ev_istore (pc := 35) (L' := [some (.ref 49), some (.int za), some (.int zb), some (.int (nI (2 ^ m - 1))), some (.int (nI zs)), some (.int 0), none]) dX11_layWays_35 (Nat.le_of_ble_eq_true rfl) rfl ?_
    refine lp_layWays_37 E h m zs za zb (wyS (h.2.1 66) za zb m zf zj) hw hm hm2 hs ?_ m 0 (Nat.zero_add _)
    refine ev_iinc (pc := 117) (v := (nI zs) - 1) (L' := [some (.ref 49), some (.int za), some (.int zb), some (.int (nI (2 ^ m - 1))), some (.int ((nI zs) - 1)), some (.int (nI m)), none]) dX11_layWays_117 rfl (m1_add _) (Nat.le_of_ble_eq_true rfl) rfl ?_
    refine ev_goto (pc := 120) (tgt := 21) dX11_layWays_120 (by decide) ?_
    refine ev_less (L' := [some (.ref 49), some (.int za), some (.int zb), some (.int (nI (2 ^ m - 1))), some (.int ((nI zs) - 1)), none, none]) (ls_keep (ls_keep (ls_keep (ls_keep (ls_keep (ls_drop (ls_keep (ls_nil _)))))))) ?_
    refine ev_eqH (h' := sL h 67 (wyS (h.2.1 66) za zb m zf (zj + 1))) (by rw [wyS, show 2 ^ m - 2 - zj = zs by omega]) ?_
    exact ih (zj + 1) (by omega)
theorem cn_X11_layWays (E : ME) (h : AH) (za zb : Int32) (m : Nat) (hw : WF h) (hm : h.2.1 49 14 = nI m) (hm2 : m ≤ 12) : Con E mX11_layWays 0 0 0 [.ref 49, .int za, .int zb] h (fun r h' => r = none ∧ h' = sL h 67 (wyS (h.2.1 66) za zb m (h.2.2.1 67) (2 ^ m - 1))) := by
  refine con_of2 (L := [some (.ref 49), some (.int za), some (.int zb), none, none, none, none]) rfl (Nat.le_of_ble_eq_true rfl) rfl ?_
  refine ev_iconst (pc := 0) (v := 1) dX11_layWays_0 (by decide) ?_
  refine ev_aload_n (pc := 1) dX11_layWays_1 rfl ?_
  refine ev_getI (pc := 2) dX11_layWays_2 fX11_184 rfl (wlt hw (by decide)) ?_
  refine ev_eqI (e' := nI m) hm ?_
  refine ev_ishl (pc := 5) dX11_layWays_5 ?_
  refine ev_iconst (pc := 6) (v := 1) dX11_layWays_6 (by decide) ?_
  refine ev_isub (pc := 7) dX11_layWays_7 ?_
  refine ev_eqI (e' := nI (2 ^ m - 1)) (sh_full m (by omega)) ?_
  refine ev_istore_n (pc := 8) (L' := [some (.ref 49), some (.int za), some (.int zb), some (.int (nI (2 ^ m - 1))), none, none, none]) dX11_layWays_8 (Nat.le_of_ble_eq_true rfl) rfl ?_
  refine ev_aload_n (pc := 9) dX11_layWays_9 rfl ?_
  refine ev_getR (pc := 10) (q := 67) dX11_layWays_10 fX11_65 rfl (wlt hw (by decide)) (wr hw rfl) ?_
  refine ev_iload_n (pc := 13) dX11_layWays_13 rfl ?_
  refine ev_lconst (pc := 14) (v := 1) dX11_layWays_14 (by decide) ?_
  refine ev_last (pc := 15) dX11_layWays_15 rfl (wlt hw (by decide)) (vp_in_nI (by have z1 := pw_le hm2; omega) (by decide)) ?_
  refine ev_eqH (h' := sL h 67 (vp_updL (h.2.2.1 67) (2 ^ m - 1) 1)) (by rw [show Int32.toNatClampNeg (nI (2 ^ m - 1)) = 2 ^ m - 1 from nI_clamp (by have z1 := pw_le hm2; omega)] <;> rfl) ?_
  refine ev_iload_n (pc := 16) dX11_layWays_16 rfl ?_
  refine ev_iconst (pc := 17) (v := 1) dX11_layWays_17 (by decide) ?_
  refine ev_isub (pc := 18) dX11_layWays_18 ?_
  refine ev_istore (pc := 19) (L' := [some (.ref 49), some (.int za), some (.int zb), some (.int (nI (2 ^ m - 1))), some (.int ((nI (2 ^ m - 1)) - 1)), none, none]) dX11_layWays_19 (Nat.le_of_ble_eq_true rfl) rfl ?_
  refine lp_layWays_21 E h m za zb (h.2.2.1 67) hw hm hm2 ?_ (2 ^ m - 1) 0 rfl
  refine ev_ret (pc := 123) dX11_layWays_123 rfl ?_
  · exact ⟨rfl, rfl⟩
