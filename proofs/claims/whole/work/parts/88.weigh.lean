/-- the best so far: its seams, its places, its turns, how many -/
def wtR (zr : Nat → Int32) (zs : Int32 × Int32 × Int32 × Int32) : Nat → Int32 := upd (upd (upd (upd zr 3 zs.1) 4 zs.2.1) 5 zs.2.2.1) 6 zs.2.2.2
def wtS (zs : Int32 × Int32 × Int32 × Int32) (zv zp zt : Int32) : Int32 × Int32 × Int32 × Int32 := if zv ≤ zs.1 then (if zv = zs.1 then (zs.1, zs.2.1, zs.2.2.1, zs.2.2.2 + 1) else zs) else (zv, zp, zt, 0 + 1)
theorem wt_new (zr : Nat → Int32) (zs : Int32 × Int32 × Int32 × Int32) (za zb zc zd : Int32) : upd (upd (upd (upd (wtR zr zs) 3 za) 4 zb) 5 zc) 6 zd = wtR zr (za, zb, zc, zd) := by
  funext zi
  unfold wtR upd
  by_cases e6 : zi = 6 <;> by_cases e5 : zi = 5 <;> by_cases e4 : zi = 4 <;> by_cases e3 : zi = 3 <;> simp [e6, e5, e4, e3]
theorem wt_inc (zr : Nat → Int32) (zs : Int32 × Int32 × Int32 × Int32) (zd : Int32) : upd (wtR zr zs) 6 zd = wtR zr (zs.1, zs.2.1, zs.2.2.1, zd) := by
  funext zi
  unfold wtR upd
  by_cases e6 : zi = 6 <;> simp [e6]
def wtV (zg zk : Nat → Int32) (zv zi zj : Nat) : Int32 := zg ((fg zv 0 * 4 + zi / 4) * 16 + (fg zv 1 * 4 + zi % 4)) + zk ((fg zv 0 * 4 + zi / 4) * 16 + (fg zv 2 * 4 + zj / 4)) + zk ((fg zv 1 * 4 + zi % 4) * 16 + (fg zv 3 * 4 + zj % 4)) + zg ((fg zv 2 * 4 + zj / 4) * 16 + (fg zv 3 * 4 + zj % 4))
def wtJ (zg zk : Nat → Int32) (zv zi : Nat) (zs : Int32 × Int32 × Int32 × Int32) : Nat → Int32 × Int32 × Int32 × Int32
  | 0 => zs
  | zj + 1 => wtS (wtJ zg zk zv zi zs zj) (wtV zg zk zv zi zj) (nI zv) (nI (zi * 16 + zj))
def wtI (zg zk : Nat → Int32) (zv : Nat) (zs : Int32 × Int32 × Int32 × Int32) : Nat → Int32 × Int32 × Int32 × Int32
  | 0 => zs
  | zi + 1 => wtJ zg zk zv zi (wtI zg zk zv zs zi) 16
theorem lp_wt_78 (E : ME) (h : AH) (zv zi : Nat) (zr : Nat → Int32) (zs : Int32 × Int32 × Int32 × Int32) (hw : WF h) (hv : zv < 256) (hi16 : zi < 16) {post : PO} (K : Ev E mX4_weighTurns (rmm 1 0 0) (QM E 0 0 post) 0 0 211 [some (.ref 36), some (.int (nI zv)), some (.int (nI (fg zv 0 * 4))), some (.int (nI (fg zv 1 * 4))), some (.int (nI (fg zv 2 * 4))), some (.int (nI (fg zv 3 * 4))), some (.int (nI zi)), some (.int (nI (fg zv 0 * 4 + zi / 4))), some (.int (nI (fg zv 1 * 4 + zi % 4))), some (.int (h.2.1 37 ((fg zv 0 * 4 + zi / 4) * 16 + (fg zv 1 * 4 + zi % 4)))), some (.int (nI 16)), none, none, none] [] (sI h 36 (wtR zr (wtJ (h.2.1 37) (h.2.1 38) zv zi zs 16)))) : ∀ n i : Nat, i + n = 16 → Ev E mX4_weighTurns (rmm 1 0 0) (QM E 0 0 post) 0 0 78 [some (.ref 36), some (.int (nI zv)), some (.int (nI (fg zv 0 * 4))), some (.int (nI (fg zv 1 * 4))), some (.int (nI (fg zv 2 * 4))), some (.int (nI (fg zv 3 * 4))), some (.int (nI zi)), some (.int (nI (fg zv 0 * 4 + zi / 4))), some (.int (nI (fg zv 1 * 4 + zi % 4))), some (.int (h.2.1 37 ((fg zv 0 * 4 + zi / 4) * 16 + (fg zv 1 * 4 + zi % 4)))), some (.int (nI i)), none, none, none] [] (sI h 36 (wtR zr (wtJ (h.2.1 37) (h.2.1 38) zv zi zs i))) := by
  intro n
  induction n with
  | zero =>
    intro i hi
    obtain rfl : 16 = i := by omega
    refine ev_iload (pc := 78) dX4_weighTurns_78 rfl ?_
    refine ev_bipush (pc := 80) (v := 16) dX4_weighTurns_80 (by decide) ?_
    refine ev_icmp_ge (pc := 82) (tgt := 211) dX4_weighTurns_82 (by decide) (fun zc82 => ?_) (fun zc82 => absurd (by decide) zc82)
    exact K
  | succ n ih =>
    intro i hi
    have hlt : i < 16 := by omega
    have zf0 := (fg_ok 0 (by decide) zv hv).2
    have zf1 := (fg_ok 1 (by decide) zv hv).2
    have zf2 := (fg_ok 2 (by decide) zv hv).2
    have zf3 := (fg_ok 3 (by decide) zv hv).2
    refine ev_iload (pc := 78) dX4_weighTurns_78 rfl ?_
    refine ev_bipush (pc := 80) (v := 16) dX4_weighTurns_80 (by decide) ?_
    refine ev_icmp_ge (pc := 82) (tgt := 211) dX4_weighTurns_82 (by decide) (fun zc82 => absurd zc82 (nI_ge (b := 16) hlt (by decide))) (fun zc82 => ?_)
    refine ev_iload (pc := 85) dX4_weighTurns_85 rfl ?_
    refine ev_iload (pc := 87) dX4_weighTurns_87 rfl ?_
    refine ev_iconst (pc := 89) (v := 2) dX4_weighTurns_89 (by decide) ?_
    refine ev_ishr (pc := 90) dX4_weighTurns_90 ?_
    refine ev_eqI (e' := nI (i / 4)) (m4_sh i hlt).1 ?_
    refine ev_iadd (pc := 91) dX4_weighTurns_91 ?_
    refine ev_eqI (e' := nI ((fg zv 2 * 4) + (i / 4))) (nI_add (fg zv 2 * 4) (i / 4)) ?_
    refine ev_istore (pc := 92) (L' := [some (.ref 36), some (.int (nI zv)), some (.int (nI (fg zv 0 * 4))), some (.int (nI (fg zv 1 * 4))), some (.int (nI (fg zv 2 * 4))), some (.int (nI (fg zv 3 * 4))), some (.int (nI zi)), some (.int (nI (fg zv 0 * 4 + zi / 4))), some (.int (nI (fg zv 1 * 4 + zi % 4))), some (.int (h.2.1 37 ((fg zv 0 * 4 + zi / 4) * 16 + (fg zv 1 * 4 + zi % 4)))), some (.int (nI i)), some (.int (nI ((fg zv 2 * 4) + (i / 4)))), none, none]) dX4_weighTurns_92 (Nat.le_of_ble_eq_true rfl) rfl ?_
    refine ev_iload (pc := 94) dX4_weighTurns_94 rfl ?_
    refine ev_iload (pc := 96) dX4_weighTurns_96 rfl ?_
    refine ev_iconst (pc := 98) (v := 3) dX4_weighTurns_98 (by decide) ?_
    refine ev_iand (pc := 99) dX4_weighTurns_99 ?_
    refine ev_eqI (e' := nI (i % 4)) (m4_sh i hlt).2 ?_
    refine ev_iadd (pc := 100) dX4_weighTurns_100 ?_
    refine ev_eqI (e' := nI ((fg zv 3 * 4) + (i % 4))) (nI_add (fg zv 3 * 4) (i % 4)) ?_
    refine ev_istore (pc := 101) (L' := [some (.ref 36), some (.int (nI zv)), some (.int (nI (fg zv 0 * 4))), some (.int (nI (fg zv 1 * 4))), some (.int (nI (fg zv 2 * 4))), some (.int (nI (fg zv 3 * 4))), some (.int (nI zi)), some (.int (nI (fg zv 0 * 4 + zi / 4))), some (.int (nI (fg zv 1 * 4 + zi % 4))), some (.int (h.2.1 37 ((fg zv 0 * 4 + zi / 4) * 16 + (fg zv 1 * 4 + zi % 4)))), some (.int (nI i)), some (.int (nI ((fg zv 2 * 4) + (i / 4)))), some (.int (nI ((fg zv 3 * 4) + (i % 4)))), none]) dX4_weighTurns_101 (Nat.le_of_ble_eq_true rfl) rfl ?_
    refine ev_iload (pc := 103) dX4_weighTurns_103 rfl ?_
    refine ev_aload_n (pc := 105) dX4_weighTurns_105 rfl ?_
    refine ev_getR (pc := 106) (q := 38) dX4_weighTurns_106 fX4_15 rfl (wlt (wf_sI hw) (by decide)) (wr (wf_sI hw) rfl) ?_
    refine ev_iload (pc := 109) dX4_weighTurns_109 rfl ?_
    refine ev_bipush (pc := 111) (v := 16) dX4_weighTurns_111 (by decide) ?_
    refine ev_imul (pc := 113) dX4_weighTurns_113 ?_
    refine ev_eqI (e' := nI ((fg zv 0 * 4 + zi / 4) * 16)) (pk_mul (fg zv 0 * 4 + zi / 4) 16) ?_
    refine ev_iload (pc := 114) dX4_weighTurns_114 rfl ?_
    refine ev_iadd (pc := 116) dX4_weighTurns_116 ?_
    refine ev_eqI (e' := nI (((fg zv 0 * 4 + zi / 4) * 16) + ((fg zv 2 * 4) + (i / 4)))) (nI_add ((fg zv 0 * 4 + zi / 4) * 16) ((fg zv 2 * 4) + (i / 4))) ?_
    refine ev_iald (pc := 117) dX4_weighTurns_117 rfl (wlt (wf_sI hw) (by decide)) (vp_in_nI (by omega) (by decide)) ?_
    refine ev_eqI (e' := h.2.1 38 (((fg zv 0 * 4 + zi / 4) * 16) + ((fg zv 2 * 4) + (i / 4)))) (by rw [show Int32.toNatClampNeg (nI (((fg zv 0 * 4 + zi / 4) * 16) + ((fg zv 2 * 4) + (i / 4)))) = ((fg zv 0 * 4 + zi / 4) * 16) + ((fg zv 2 * 4) + (i / 4)) from nI_clamp (by omega)] <;> rfl) ?_
    refine ev_iadd (pc := 118) dX4_weighTurns_118 ?_
    refine ev_aload_n (pc := 119) dX4_weighTurns_119 rfl ?_
    refine ev_getR (pc := 120) (q := 38) dX4_weighTurns_120 fX4_15 rfl (wlt (wf_sI hw) (by decide)) (wr (wf_sI hw) rfl) ?_
    refine ev_iload (pc := 123) dX4_weighTurns_123 rfl ?_
    refine ev_bipush (pc := 125) (v := 16) dX4_weighTurns_125 (by decide) ?_
    refine ev_imul (pc := 127) dX4_weighTurns_127 ?_
    refine ev_eqI (e' := nI ((fg zv 1 * 4 + zi % 4) * 16)) (pk_mul (fg zv 1 * 4 + zi % 4) 16) ?_
    refine ev_iload (pc := 128) dX4_weighTurns_128 rfl ?_
    refine ev_iadd (pc := 130) dX4_weighTurns_130 ?_
    refine ev_eqI (e' := nI (((fg zv 1 * 4 + zi % 4) * 16) + ((fg zv 3 * 4) + (i % 4)))) (nI_add ((fg zv 1 * 4 + zi % 4) * 16) ((fg zv 3 * 4) + (i % 4))) ?_
    refine ev_iald (pc := 131) dX4_weighTurns_131 rfl (wlt (wf_sI hw) (by decide)) (vp_in_nI (by omega) (by decide)) ?_
    refine ev_eqI (e' := h.2.1 38 (((fg zv 1 * 4 + zi % 4) * 16) + ((fg zv 3 * 4) + (i % 4)))) (by rw [show Int32.toNatClampNeg (nI (((fg zv 1 * 4 + zi % 4) * 16) + ((fg zv 3 * 4) + (i % 4)))) = ((fg zv 1 * 4 + zi % 4) * 16) + ((fg zv 3 * 4) + (i % 4)) from nI_clamp (by omega)] <;> rfl) ?_
    refine ev_iadd (pc := 132) dX4_weighTurns_132 ?_
    refine ev_aload_n (pc := 133) dX4_weighTurns_133 rfl ?_
    refine ev_getR (pc := 134) (q := 37) dX4_weighTurns_134 fX4_11 rfl (wlt (wf_sI hw) (by decide)) (wr (wf_sI hw) rfl) ?_
    refine ev_iload (pc := 137) dX4_weighTurns_137 rfl ?_
    refine ev_bipush (pc := 139) (v := 16) dX4_weighTurns_139 (by decide) ?_
    refine ev_imul (pc := 141) dX4_weighTurns_141 ?_
    refine ev_eqI (e' := nI (((fg zv 2 * 4) + (i / 4)) * 16)) (pk_mul ((fg zv 2 * 4) + (i / 4)) 16) ?_
    refine ev_iload (pc := 142) dX4_weighTurns_142 rfl ?_
    refine ev_iadd (pc := 144) dX4_weighTurns_144 ?_
    refine ev_eqI (e' := nI ((((fg zv 2 * 4) + (i / 4)) * 16) + ((fg zv 3 * 4) + (i % 4)))) (nI_add (((fg zv 2 * 4) + (i / 4)) * 16) ((fg zv 3 * 4) + (i % 4))) ?_
    refine ev_iald (pc := 145) dX4_weighTurns_145 rfl (wlt (wf_sI hw) (by decide)) (vp_in_nI (by omega) (by decide)) ?_
    refine ev_eqI (e' := h.2.1 37 ((((fg zv 2 * 4) + (i / 4)) * 16) + ((fg zv 3 * 4) + (i % 4)))) (by rw [show Int32.toNatClampNeg (nI ((((fg zv 2 * 4) + (i / 4)) * 16) + ((fg zv 3 * 4) + (i % 4)))) = (((fg zv 2 * 4) + (i / 4)) * 16) + ((fg zv 3 * 4) + (i % 4)) from nI_clamp (by omega)] <;> rfl) ?_
    refine ev_iadd (pc := 146) dX4_weighTurns_146 ?_
    refine ev_istore (pc := 147) (L' := [some (.ref 36), some (.int (nI zv)), some (.int (nI (fg zv 0 * 4))), some (.int (nI (fg zv 1 * 4))), some (.int (nI (fg zv 2 * 4))), some (.int (nI (fg zv 3 * 4))), some (.int (nI zi)), some (.int (nI (fg zv 0 * 4 + zi / 4))), some (.int (nI (fg zv 1 * 4 + zi % 4))), some (.int (h.2.1 37 ((fg zv 0 * 4 + zi / 4) * 16 + (fg zv 1 * 4 + zi % 4)))), some (.int (nI i)), some (.int (nI ((fg zv 2 * 4) + (i / 4)))), some (.int (nI ((fg zv 3 * 4) + (i % 4)))), some (.int ((((h.2.1 37 ((fg zv 0 * 4 + zi / 4) * 16 + (fg zv 1 * 4 + zi % 4))) + (h.2.1 38 (((fg zv 0 * 4 + zi / 4) * 16) + ((fg zv 2 * 4) + (i / 4))))) + (h.2.1 38 (((fg zv 1 * 4 + zi % 4) * 16) + ((fg zv 3 * 4) + (i % 4))))) + (h.2.1 37 ((((fg zv 2 * 4) + (i / 4)) * 16) + ((fg zv 3 * 4) + (i % 4))))))]) dX4_weighTurns_147 (Nat.le_of_ble_eq_true rfl) rfl ?_
    refine ev_iload (pc := 149) dX4_weighTurns_149 rfl ?_
    refine ev_aload_n (pc := 151) dX4_weighTurns_151 rfl ?_
    refine ev_getI (pc := 152) dX4_weighTurns_152 fX4_33 rfl (wlt (wf_sI hw) (by decide)) ?_
    refine ev_eqI (e' := (wtR zr (wtJ (h.2.1 37) (h.2.1 38) zv zi zs i)) 3) (by rfl) ?_
    refine ev_icmp_le (pc := 155) (tgt := 186) dX4_weighTurns_155 (by decide) (fun zc155 => ?_) (fun zc155 => ?_)
    · -- le at 155: taken
      refine ev_iload (pc := 186) dX4_weighTurns_186 rfl ?_
      refine ev_aload_n (pc := 188) dX4_weighTurns_188 rfl ?_
      refine ev_getI (pc := 189) dX4_weighTurns_189 fX4_33 rfl (wlt (wf_sI hw) (by decide)) ?_
      refine ev_eqI (e' := (wtR zr (wtJ (h.2.1 37) (h.2.1 38) zv zi zs i)) 3) (by rfl) ?_
      refine ev_icmp_ne (pc := 192) (tgt := 205) dX4_weighTurns_192 (by decide) (fun zc192 => ?_) (fun zc192 => ?_)
      · -- ne at 192: taken
        refine ev_iinc (pc := 205) (v := nI (i + 1)) (L' := [some (.ref 36), some (.int (nI zv)), some (.int (nI (fg zv 0 * 4))), some (.int (nI (fg zv 1 * 4))), some (.int (nI (fg zv 2 * 4))), some (.int (nI (fg zv 3 * 4))), some (.int (nI zi)), some (.int (nI (fg zv 0 * 4 + zi / 4))), some (.int (nI (fg zv 1 * 4 + zi % 4))), some (.int (h.2.1 37 ((fg zv 0 * 4 + zi / 4) * 16 + (fg zv 1 * 4 + zi % 4)))), some (.int (nI (i + 1))), some (.int (nI ((fg zv 2 * 4) + (i / 4)))), some (.int (nI ((fg zv 3 * 4) + (i % 4)))), some (.int ((((h.2.1 37 ((fg zv 0 * 4 + zi / 4) * 16 + (fg zv 1 * 4 + zi % 4))) + (h.2.1 38 (((fg zv 0 * 4 + zi / 4) * 16) + ((fg zv 2 * 4) + (i / 4))))) + (h.2.1 38 (((fg zv 1 * 4 + zi % 4) * 16) + ((fg zv 3 * 4) + (i % 4))))) + (h.2.1 37 ((((fg zv 2 * 4) + (i / 4)) * 16) + ((fg zv 3 * 4) + (i % 4))))))]) dX4_weighTurns_205 rfl (nI_1 _) (Nat.le_of_ble_eq_true rfl) rfl ?_
        refine ev_goto (pc := 208) (tgt := 78) dX4_weighTurns_208 (by decide) ?_
        refine ev_eqH (h' := sI h 36 (wtR zr (wtJ (h.2.1 37) (h.2.1 38) zv zi zs (i + 1)))) (by rw [wtJ, show wtS (wtJ (h.2.1 37) (h.2.1 38) zv zi zs i) (wtV (h.2.1 37) (h.2.1 38) zv zi i) (nI zv) (nI (zi * 16 + i)) = wtJ (h.2.1 37) (h.2.1 38) zv zi zs i from (if_pos zc155).trans (if_neg zc192)]) ?_
        refine ev_less (L' := [some (.ref 36), some (.int (nI zv)), some (.int (nI (fg zv 0 * 4))), some (.int (nI (fg zv 1 * 4))), some (.int (nI (fg zv 2 * 4))), some (.int (nI (fg zv 3 * 4))), some (.int (nI zi)), some (.int (nI (fg zv 0 * 4 + zi / 4))), some (.int (nI (fg zv 1 * 4 + zi % 4))), some (.int (h.2.1 37 ((fg zv 0 * 4 + zi / 4) * 16 + (fg zv 1 * 4 + zi % 4)))), some (.int (nI (i + 1))), none, none, none]) (ls_keep (ls_keep (ls_keep (ls_keep (ls_keep (ls_keep (ls_keep (ls_keep (ls_keep (ls_keep (ls_keep (ls_drop (ls_drop (ls_drop (ls_nil _))))))))))))))) ?_
        exact ih (i + 1) (by omega)
      · -- ne at 192: not taken
        refine ev_aload_n (pc := 195) dX4_weighTurns_195 rfl ?_
        refine ev_dup (pc := 196) dX4_weighTurns_196 rfl ?_
        refine ev_getI (pc := 197) dX4_weighTurns_197 fX4_42 rfl (wlt (wf_sI hw) (by decide)) ?_
        refine ev_eqI (e' := (wtR zr (wtJ (h.2.1 37) (h.2.1 38) zv zi zs i)) 6) (by rfl) ?_
        refine ev_iconst (pc := 200) (v := 1) dX4_weighTurns_200 (by decide) ?_
        refine ev_iadd (pc := 201) dX4_weighTurns_201 ?_
        refine ev_putI (pc := 202) dX4_weighTurns_202 fX4_42 rfl (wlt (wf_sI hw) (by decide)) ?_
        refine ev_eqH (h' := sI h 36 (upd (wtR zr (wtJ (h.2.1 37) (h.2.1 38) zv zi zs i)) 6 (((wtR zr (wtJ (h.2.1 37) (h.2.1 38) zv zi zs i)) 6) + 1))) (by exact sI_sI _ _ _ _) ?_
        refine ev_iinc (pc := 205) (v := nI (i + 1)) (L' := [some (.ref 36), some (.int (nI zv)), some (.int (nI (fg zv 0 * 4))), some (.int (nI (fg zv 1 * 4))), some (.int (nI (fg zv 2 * 4))), some (.int (nI (fg zv 3 * 4))), some (.int (nI zi)), some (.int (nI (fg zv 0 * 4 + zi / 4))), some (.int (nI (fg zv 1 * 4 + zi % 4))), some (.int (h.2.1 37 ((fg zv 0 * 4 + zi / 4) * 16 + (fg zv 1 * 4 + zi % 4)))), some (.int (nI (i + 1))), some (.int (nI ((fg zv 2 * 4) + (i / 4)))), some (.int (nI ((fg zv 3 * 4) + (i % 4)))), some (.int ((((h.2.1 37 ((fg zv 0 * 4 + zi / 4) * 16 + (fg zv 1 * 4 + zi % 4))) + (h.2.1 38 (((fg zv 0 * 4 + zi / 4) * 16) + ((fg zv 2 * 4) + (i / 4))))) + (h.2.1 38 (((fg zv 1 * 4 + zi % 4) * 16) + ((fg zv 3 * 4) + (i % 4))))) + (h.2.1 37 ((((fg zv 2 * 4) + (i / 4)) * 16) + ((fg zv 3 * 4) + (i % 4))))))]) dX4_weighTurns_205 rfl (nI_1 _) (Nat.le_of_ble_eq_true rfl) rfl ?_
        refine ev_goto (pc := 208) (tgt := 78) dX4_weighTurns_208 (by decide) ?_
        refine ev_eqH (h' := sI h 36 (wtR zr (wtJ (h.2.1 37) (h.2.1 38) zv zi zs (i + 1)))) (by rw [wtJ, show wtS (wtJ (h.2.1 37) (h.2.1 38) zv zi zs i) (wtV (h.2.1 37) (h.2.1 38) zv zi i) (nI zv) (nI (zi * 16 + i)) = ((wtJ (h.2.1 37) (h.2.1 38) zv zi zs i).1, (wtJ (h.2.1 37) (h.2.1 38) zv zi zs i).2.1, (wtJ (h.2.1 37) (h.2.1 38) zv zi zs i).2.2.1, (wtJ (h.2.1 37) (h.2.1 38) zv zi zs i).2.2.2 + 1) from (if_pos zc155).trans (if_pos zc192)]; exact congrArg (sI h 36) (wt_inc zr _ _)) ?_
        refine ev_less (L' := [some (.ref 36), some (.int (nI zv)), some (.int (nI (fg zv 0 * 4))), some (.int (nI (fg zv 1 * 4))), some (.int (nI (fg zv 2 * 4))), some (.int (nI (fg zv 3 * 4))), some (.int (nI zi)), some (.int (nI (fg zv 0 * 4 + zi / 4))), some (.int (nI (fg zv 1 * 4 + zi % 4))), some (.int (h.2.1 37 ((fg zv 0 * 4 + zi / 4) * 16 + (fg zv 1 * 4 + zi % 4)))), some (.int (nI (i + 1))), none, none, none]) (ls_keep (ls_keep (ls_keep (ls_keep (ls_keep (ls_keep (ls_keep (ls_keep (ls_keep (ls_keep (ls_keep (ls_drop (ls_drop (ls_drop (ls_nil _))))))))))))))) ?_
        exact ih (i + 1) (by omega)
    · -- le at 155: not taken
      refine ev_aload_n (pc := 158) dX4_weighTurns_158 rfl ?_
      refine ev_iload (pc := 159) dX4_weighTurns_159 rfl ?_
      refine ev_putI (pc := 161) dX4_weighTurns_161 fX4_33 rfl (wlt (wf_sI hw) (by decide)) ?_
      refine ev_eqH (h' := sI h 36 (upd (wtR zr (wtJ (h.2.1 37) (h.2.1 38) zv zi zs i)) 3 ((((h.2.1 37 ((fg zv 0 * 4 + zi / 4) * 16 + (fg zv 1 * 4 + zi % 4))) + (h.2.1 38 (((fg zv 0 * 4 + zi / 4) * 16) + ((fg zv 2 * 4) + (i / 4))))) + (h.2.1 38 (((fg zv 1 * 4 + zi % 4) * 16) + ((fg zv 3 * 4) + (i % 4))))) + (h.2.1 37 ((((fg zv 2 * 4) + (i / 4)) * 16) + ((fg zv 3 * 4) + (i % 4))))))) (by exact sI_sI _ _ _ _) ?_
      refine ev_aload_n (pc := 164) dX4_weighTurns_164 rfl ?_
      refine ev_iload_n (pc := 165) dX4_weighTurns_165 rfl ?_
      refine ev_putI (pc := 166) dX4_weighTurns_166 fX4_36 rfl (wlt (wf_sI hw) (by decide)) ?_
      refine ev_eqH (h' := sI h 36 (upd (upd (wtR zr (wtJ (h.2.1 37) (h.2.1 38) zv zi zs i)) 3 ((((h.2.1 37 ((fg zv 0 * 4 + zi / 4) * 16 + (fg zv 1 * 4 + zi % 4))) + (h.2.1 38 (((fg zv 0 * 4 + zi / 4) * 16) + ((fg zv 2 * 4) + (i / 4))))) + (h.2.1 38 (((fg zv 1 * 4 + zi % 4) * 16) + ((fg zv 3 * 4) + (i % 4))))) + (h.2.1 37 ((((fg zv 2 * 4) + (i / 4)) * 16) + ((fg zv 3 * 4) + (i % 4)))))) 4 (nI zv))) (by exact sI_sI _ _ _ _) ?_
      refine ev_aload_n (pc := 169) dX4_weighTurns_169 rfl ?_
      refine ev_iload (pc := 170) dX4_weighTurns_170 rfl ?_
      refine ev_bipush (pc := 172) (v := 16) dX4_weighTurns_172 (by decide) ?_
      refine ev_imul (pc := 174) dX4_weighTurns_174 ?_
      refine ev_eqI (e' := nI (zi * 16)) (pk_mul zi 16) ?_
      refine ev_iload (pc := 175) dX4_weighTurns_175 rfl ?_
      refine ev_iadd (pc := 177) dX4_weighTurns_177 ?_
      refine ev_eqI (e' := nI ((zi * 16) + i)) (nI_add (zi * 16) i) ?_
      refine ev_putI (pc := 178) dX4_weighTurns_178 fX4_39 rfl (wlt (wf_sI hw) (by decide)) ?_
      refine ev_eqH (h' := sI h 36 (upd (upd (upd (wtR zr (wtJ (h.2.1 37) (h.2.1 38) zv zi zs i)) 3 ((((h.2.1 37 ((fg zv 0 * 4 + zi / 4) * 16 + (fg zv 1 * 4 + zi % 4))) + (h.2.1 38 (((fg zv 0 * 4 + zi / 4) * 16) + ((fg zv 2 * 4) + (i / 4))))) + (h.2.1 38 (((fg zv 1 * 4 + zi % 4) * 16) + ((fg zv 3 * 4) + (i % 4))))) + (h.2.1 37 ((((fg zv 2 * 4) + (i / 4)) * 16) + ((fg zv 3 * 4) + (i % 4)))))) 4 (nI zv)) 5 (nI ((zi * 16) + i)))) (by exact sI_sI _ _ _ _) ?_
      refine ev_aload_n (pc := 181) dX4_weighTurns_181 rfl ?_
      refine ev_iconst (pc := 182) (v := 0) dX4_weighTurns_182 (by decide) ?_
      refine ev_putI (pc := 183) dX4_weighTurns_183 fX4_42 rfl (wlt (wf_sI hw) (by decide)) ?_
      refine ev_eqH (h' := sI h 36 (upd (upd (upd (upd (wtR zr (wtJ (h.2.1 37) (h.2.1 38) zv zi zs i)) 3 ((((h.2.1 37 ((fg zv 0 * 4 + zi / 4) * 16 + (fg zv 1 * 4 + zi % 4))) + (h.2.1 38 (((fg zv 0 * 4 + zi / 4) * 16) + ((fg zv 2 * 4) + (i / 4))))) + (h.2.1 38 (((fg zv 1 * 4 + zi % 4) * 16) + ((fg zv 3 * 4) + (i % 4))))) + (h.2.1 37 ((((fg zv 2 * 4) + (i / 4)) * 16) + ((fg zv 3 * 4) + (i % 4)))))) 4 (nI zv)) 5 (nI ((zi * 16) + i))) 6 0)) (by exact sI_sI _ _ _ _) ?_
      refine ev_iload (pc := 186) dX4_weighTurns_186 rfl ?_
      refine ev_aload_n (pc := 188) dX4_weighTurns_188 rfl ?_
      refine ev_getI (pc := 189) dX4_weighTurns_189 fX4_33 rfl (wlt (wf_sI hw) (by decide)) ?_
      refine ev_eqI (e' := (((h.2.1 37 ((fg zv 0 * 4 + zi / 4) * 16 + (fg zv 1 * 4 + zi % 4))) + (h.2.1 38 (((fg zv 0 * 4 + zi / 4) * 16) + ((fg zv 2 * 4) + (i / 4))))) + (h.2.1 38 (((fg zv 1 * 4 + zi % 4) * 16) + ((fg zv 3 * 4) + (i % 4))))) + (h.2.1 37 ((((fg zv 2 * 4) + (i / 4)) * 16) + ((fg zv 3 * 4) + (i % 4))))) (by rfl) ?_
      refine ev_icmp_ne (pc := 192) (tgt := 205) dX4_weighTurns_192 (by decide) (fun zc192 => absurd rfl zc192) (fun zc192 => ?_)
      refine ev_aload_n (pc := 195) dX4_weighTurns_195 rfl ?_
      refine ev_dup (pc := 196) dX4_weighTurns_196 rfl ?_
      refine ev_getI (pc := 197) dX4_weighTurns_197 fX4_42 rfl (wlt (wf_sI hw) (by decide)) ?_
      refine ev_eqI (e' := 0) (by rfl) ?_
      refine ev_iconst (pc := 200) (v := 1) dX4_weighTurns_200 (by decide) ?_
      refine ev_iadd (pc := 201) dX4_weighTurns_201 ?_
      refine ev_eqI (e' := 1) (by decide) ?_
      refine ev_putI (pc := 202) dX4_weighTurns_202 fX4_42 rfl (wlt (wf_sI hw) (by decide)) ?_
      refine ev_eqH (h' := sI h 36 (upd (upd (upd (upd (wtR zr (wtJ (h.2.1 37) (h.2.1 38) zv zi zs i)) 3 ((((h.2.1 37 ((fg zv 0 * 4 + zi / 4) * 16 + (fg zv 1 * 4 + zi % 4))) + (h.2.1 38 (((fg zv 0 * 4 + zi / 4) * 16) + ((fg zv 2 * 4) + (i / 4))))) + (h.2.1 38 (((fg zv 1 * 4 + zi % 4) * 16) + ((fg zv 3 * 4) + (i % 4))))) + (h.2.1 37 ((((fg zv 2 * 4) + (i / 4)) * 16) + ((fg zv 3 * 4) + (i % 4)))))) 4 (nI zv)) 5 (nI ((zi * 16) + i))) 6 1)) (by refine (sI_sI _ _ _ _).trans ?_; refine congrArg _ (funext fun zj => ?_); simp only [upd, vp_updL, sI_at]; (repeat' split) <;> first | rfl | (exfalso; omega)) ?_
      refine ev_iinc (pc := 205) (v := nI (i + 1)) (L' := [some (.ref 36), some (.int (nI zv)), some (.int (nI (fg zv 0 * 4))), some (.int (nI (fg zv 1 * 4))), some (.int (nI (fg zv 2 * 4))), some (.int (nI (fg zv 3 * 4))), some (.int (nI zi)), some (.int (nI (fg zv 0 * 4 + zi / 4))), some (.int (nI (fg zv 1 * 4 + zi % 4))), some (.int (h.2.1 37 ((fg zv 0 * 4 + zi / 4) * 16 + (fg zv 1 * 4 + zi % 4)))), some (.int (nI (i + 1))), some (.int (nI ((fg zv 2 * 4) + (i / 4)))), some (.int (nI ((fg zv 3 * 4) + (i % 4)))), some (.int ((((h.2.1 37 ((fg zv 0 * 4 + zi / 4) * 16 + (fg zv 1 * 4 + zi % 4))) + (h.2.1 38 (((fg zv 0 * 4 + zi / 4) * 16) + ((fg zv 2 * 4) + (i / 4))))) + (h.2.1 38 (((fg zv 1 * 4 + zi % 4) * 16) + ((fg zv 3 * 4) + (i % 4))))) + (h.2.1 37 ((((fg zv 2 * 4) + (i / 4)) * 16) + ((fg zv 3 * 4) + (i % 4))))))]) dX4_weighTurns_205 rfl (nI_1 _) (Nat.le_of_ble_eq_true rfl) rfl ?_
      refine ev_goto (pc := 208) (tgt := 78) dX4_weighTurns_208 (by decide) ?_
      refine ev_eqH (h' := sI h 36 (wtR zr (wtJ (h.2.1 37) (h.2.1 38) zv zi zs (i + 1)))) (by rw [wtJ, show wtS (wtJ (h.2.1 37) (h.2.1 38) zv zi zs i) (wtV (h.2.1 37) (h.2.1 38) zv zi i) (nI zv) (nI (zi * 16 + i)) = (wtV (h.2.1 37) (h.2.1 38) zv zi i, nI zv, nI (zi * 16 + i), 0 + 1) from if_neg zc155]; exact congrArg (sI h 36) (wt_new zr _ _ _ _ _)) ?_
      refine ev_less (L' := [some (.ref 36), some (.int (nI zv)), some (.int (nI (fg zv 0 * 4))), some (.int (nI (fg zv 1 * 4))), some (.int (nI (fg zv 2 * 4))), some (.int (nI (fg zv 3 * 4))), some (.int (nI zi)), some (.int (nI (fg zv 0 * 4 + zi / 4))), some (.int (nI (fg zv 1 * 4 + zi % 4))), some (.int (h.2.1 37 ((fg zv 0 * 4 + zi / 4) * 16 + (fg zv 1 * 4 + zi % 4)))), some (.int (nI (i + 1))), none, none, none]) (ls_keep (ls_keep (ls_keep (ls_keep (ls_keep (ls_keep (ls_keep (ls_keep (ls_keep (ls_keep (ls_keep (ls_drop (ls_drop (ls_drop (ls_nil _))))))))))))))) ?_
      exact ih (i + 1) (by omega)
