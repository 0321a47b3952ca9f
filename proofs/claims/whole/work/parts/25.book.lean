theorem lp_layWords_197 (E : ME) (h : AH) (zk zw zs zN : Nat) (zx za zy zd : Int32) (zf zg : Nat → Int32) (hw : WF h) (hsc : zs = 1 ∨ zs = 2) (hkk : zk < 4096) (hw8 : zw < 8) (he1 : zk % 64 / 8 + 4 * zs ≤ 8) (he2 : zk % 64 % 8 + 4 * zs ≤ 8) (hN : zN = 16 * zs * zs) (hcl : zy = 0) (hag : 3 < za) {post : PO} (K : Ev E mX11_layWords (rmm 4 0 0) (QM E 0 0 post) 0 0 272 [some (.ref 49), some (.int zx), some (.int (nI zk)), some (.int (nI zs)), some (.int (nI zw)), some (.int (nI zN)), none] [] (sI (sI (lcH h za zy zd) 70 zg) 71 (bwQ (fun zj => tlN (h.2.1 56) (zk / 1024) zw zs zj) (spN zs (zk % 64)) zf zN))) : ∀ n i : Nat, i + n = zN → Ev E mX11_layWords (rmm 4 0 0) (QM E 0 0 post) 0 0 197 [some (.ref 49), some (.int zx), some (.int (nI zk)), some (.int (nI zs)), some (.int (nI zw)), some (.int (nI i)), none] [] (sI (sI (lcH h za zy zd) 70 zg) 71 (bwQ (fun zj => tlN (h.2.1 56) (zk / 1024) zw zs zj) (spN zs (zk % 64)) zf i)) := by
  intro n
  induction n with
  | zero =>
    intro i hi
    obtain rfl : zN = i := by omega
    refine ev_iload (pc := 197) dX11_layWords_197 rfl ?_
    refine ev_bipush (pc := 199) (v := 16) dX11_layWords_199 (by decide) ?_
    refine ev_iload_n (pc := 201) dX11_layWords_201 rfl ?_
    refine ev_imul (pc := 202) dX11_layWords_202 ?_
    refine ev_eqI (e' := nI (16 * zs)) (pk_mul 16 zs) ?_
    refine ev_iload_n (pc := 203) dX11_layWords_203 rfl ?_
    refine ev_imul (pc := 204) dX11_layWords_204 ?_
    refine ev_eqI (e' := nI zN) (by rw [hN]; exact pk_mul _ _) ?_
    refine ev_icmp_ge (pc := 205) (tgt := 272) dX11_layWords_205 (by decide) (fun zc205 => ?_) (fun zc205 => absurd ((nI_leI (by rcases hsc with rfl | rfl <;> omega) (by rcases hsc with rfl | rfl <;> omega)).mpr (Nat.le_refl _)) zc205)
    exact K
  | succ n ih =>
    intro i hi
    have hlt : i < zN := by omega
    refine ev_iload (pc := 197) dX11_layWords_197 rfl ?_
    refine ev_bipush (pc := 199) (v := 16) dX11_layWords_199 (by decide) ?_
    refine ev_iload_n (pc := 201) dX11_layWords_201 rfl ?_
    refine ev_imul (pc := 202) dX11_layWords_202 ?_
    refine ev_eqI (e' := nI (16 * zs)) (pk_mul 16 zs) ?_
    refine ev_iload_n (pc := 203) dX11_layWords_203 rfl ?_
    refine ev_imul (pc := 204) dX11_layWords_204 ?_
    refine ev_eqI (e' := nI zN) (by rw [hN]; exact pk_mul _ _) ?_
    refine ev_icmp_ge (pc := 205) (tgt := 272) dX11_layWords_205 (by decide) (fun zc205 => absurd zc205 (nI_ge hlt (by rcases hsc with rfl | rfl <;> omega))) (fun zc205 => ?_)
    refine ev_aload_n (pc := 208) dX11_layWords_208 rfl ?_
    refine ev_getI (pc := 209) dX11_layWords_209 fX11_275 rfl (wlt (wf_sI (wf_sI (wf_lc hw))) (by decide)) ?_
    refine ev_eqI (e' := (lcH h za zy zd).2.1 49 40) (by rfl) ?_
    refine ev_eqI (e' := zy) rfl ?_
    refine ev_if_ne (pc := 212) (tgt := 272) dX11_layWords_212 (by decide) (fun zc212 => absurd hcl zc212) (fun zc212 => ?_)
    refine ev_aload_n (pc := 215) dX11_layWords_215 rfl ?_
    refine ev_getI (pc := 216) dX11_layWords_216 fX11_272 rfl (wlt (wf_sI (wf_sI (wf_lc hw))) (by decide)) ?_
    refine ev_eqI (e' := (lcH h za zy zd).2.1 49 39) (by rfl) ?_
    refine ev_eqI (e' := za) rfl ?_
    refine ev_iconst (pc := 219) (v := 3) dX11_layWords_219 (by decide) ?_
    refine ev_icmp_le (pc := 220) (tgt := 272) dX11_layWords_220 (by decide) (fun zc220 => absurd zc220 ((i_le2 _ _).mpr hag)) (fun zc220 => ?_)
    refine ev_iload_n (pc := 223) dX11_layWords_223 rfl ?_
    refine ev_iload_n (pc := 224) dX11_layWords_224 rfl ?_
    refine ev_bipush (pc := 225) (v := 64) dX11_layWords_225 (by decide) ?_
    refine ev_irem (pc := 227) dX11_layWords_227 (by decide) ?_
    refine ev_eqI (e' := nI (zk % 64)) (pk_rem (a := zk) (d := 64) (by rcases hsc with rfl | rfl <;> omega) (by rcases hsc with rfl | rfl <;> omega) (by rcases hsc with rfl | rfl <;> omega)) ?_
    refine ev_iload (pc := 228) dX11_layWords_228 rfl ?_
    refine ev_callSv (S := []) (pc := 230) dX11_layWords_230 kX11_spotOf lX11_285 sX11_spotOf (cn_X11_spotOf E (sI (sI (lcH h za zy zd) 70 zg) 71 (bwQ (fun zj => tlN (h.2.1 56) (zk / 1024) zw zs zj) (spN zs (zk % 64)) zf i)) zs (zk % 64) i (wf_sI (wf_sI (wf_lc hw))) hsc (by rcases hsc with rfl | rfl <;> omega) (by rcases hsc with rfl | rfl <;> omega)) rfl rfl (Nat.le_of_ble_eq_true rfl) ⟨Nat.le_of_ble_eq_true rfl, Nat.le_of_ble_eq_true rfl⟩ ⟨Nat.le_of_ble_eq_true rfl, Nat.le_of_ble_eq_true rfl⟩ ?_
    refine ev_istore (pc := 233) (L' := [some (.ref 49), some (.int zx), some (.int (nI zk)), some (.int (nI zs)), some (.int (nI zw)), some (.int (nI i)), some (.int (nI (spN zs (zk % 64) i)))]) dX11_layWords_233 (Nat.le_of_ble_eq_true rfl) rfl ?_
    refine ev_aload_n (pc := 235) dX11_layWords_235 rfl ?_
    refine ev_getR (pc := 236) (q := 71) dX11_layWords_236 fX11_78 rfl (wlt (wf_sI (wf_sI (wf_lc hw))) (by decide)) (wr (wf_sI (wf_sI (wf_lc hw))) rfl) ?_
    refine ev_iload (pc := 239) dX11_layWords_239 rfl ?_
    refine ev_aload_n (pc := 241) dX11_layWords_241 rfl ?_
    refine ev_getR (pc := 242) (q := 71) dX11_layWords_242 fX11_78 rfl (wlt (wf_sI (wf_sI (wf_lc hw))) (by decide)) (wr (wf_sI (wf_sI (wf_lc hw))) rfl) ?_
    refine ev_iload (pc := 245) dX11_layWords_245 rfl ?_
    refine ev_iald (pc := 247) dX11_layWords_247 rfl (wlt (wf_sI (wf_sI (wf_lc hw))) (by decide)) (vp_in_nI (by have z9 := spN_lt hsc he1 he2 (k := i) (by rcases hsc with rfl | rfl <;> omega); omega) (by decide)) ?_
    refine ev_eqI (e' := (bwQ (fun zj => tlN (h.2.1 56) (zk / 1024) zw zs zj) (spN zs (zk % 64)) zf i) (spN zs (zk % 64) i)) (by rw [show Int32.toNatClampNeg (nI (spN zs (zk % 64) i)) = (spN zs (zk % 64) i) from nI_clamp (by have z9 := spN_lt hsc he1 he2 (k := i) (by rcases hsc with rfl | rfl <;> omega); omega)] <;> rfl) ?_
    refine ev_aload_n (pc := 248) dX11_layWords_248 rfl ?_
    refine ev_iload_n (pc := 249) dX11_layWords_249 rfl ?_
    refine ev_sipush (pc := 250) (v := 1024) dX11_layWords_250 (by decide) ?_
    refine ev_idiv (pc := 253) dX11_layWords_253 (by decide) ?_
    refine ev_eqI (e' := nI (zk / 1024)) (pk_div (a := zk) (d := 1024) (by rcases hsc with rfl | rfl <;> omega) (by rcases hsc with rfl | rfl <;> omega) (by rcases hsc with rfl | rfl <;> omega)) ?_
    refine ev_iload (pc := 254) dX11_layWords_254 rfl ?_
    refine ev_iload_n (pc := 256) dX11_layWords_256 rfl ?_
    refine ev_iload (pc := 257) dX11_layWords_257 rfl ?_
    refine ev_callVv (S := [.int ((bwQ (fun zj => tlN (h.2.1 56) (zk / 1024) zw zs zj) (spN zs (zk % 64)) zf i) (spN zs (zk % 64) i)), .int (nI (spN zs (zk % 64) i)), .ref 71]) (pc := 259) dX11_layWords_259 kX11_tells lX11_281 vX11_tells (cn_X11_tells E (sI (sI (lcH h za zy zd) 70 zg) 71 (bwQ (fun zj => tlN (h.2.1 56) (zk / 1024) zw zs zj) (spN zs (zk % 64)) zf i)) (zk / 1024) zw zs i (wf_sI (wf_sI (wf_lc hw))) hsc (by omega) hw8 (by rcases hsc with rfl | rfl <;> omega)) rfl rfl (wlt (wf_sI (wf_sI (wf_lc hw))) (by decide)) rfl rfl (Nat.le_of_ble_eq_true rfl) ⟨Nat.le_of_ble_eq_true rfl, Nat.le_of_ble_eq_true rfl⟩ ⟨Nat.le_of_ble_eq_true rfl, Nat.le_of_ble_eq_true rfl⟩ ?_
    refine ev_callSv (S := [.int (nI (spN zs (zk % 64) i)), .ref 71]) (pc := 262) dX11_layWords_262 kX11_word lX11_306 sX11_word (cn_X11_word E (sI (sI (lcH h za zy zd) 70 zg) 71 (bwQ (fun zj => tlN (h.2.1 56) (zk / 1024) zw zs zj) (spN zs (zk % 64)) zf i)) ((bwQ (fun zj => tlN (h.2.1 56) (zk / 1024) zw zs zj) (spN zs (zk % 64)) zf i) (spN zs (zk % 64) i)) (tlN (h.2.1 56) (zk / 1024) zw zs i)) rfl rfl (Nat.le_of_ble_eq_true rfl) ⟨Nat.le_of_ble_eq_true rfl, Nat.le_of_ble_eq_true rfl⟩ ⟨Nat.le_of_ble_eq_true rfl, Nat.le_of_ble_eq_true rfl⟩ ?_
    refine ev_iast (pc := 265) dX11_layWords_265 rfl (wlt (wf_sI (wf_sI (wf_lc hw))) (by decide)) (vp_in_nI (by have z9 := spN_lt hsc he1 he2 (k := i) (by rcases hsc with rfl | rfl <;> omega); omega) (by decide)) ?_
    refine ev_eqH (h' := sI (sI (lcH h za zy zd) 70 zg) 71 (upd (bwQ (fun zj => tlN (h.2.1 56) (zk / 1024) zw zs zj) (spN zs (zk % 64)) zf i) (spN zs (zk % 64) i) (wdI ((bwQ (fun zj => tlN (h.2.1 56) (zk / 1024) zw zs zj) (spN zs (zk % 64)) zf i) (spN zs (zk % 64) i)) (tlN (h.2.1 56) (zk / 1024) zw zs i)))) (by rw [show Int32.toNatClampNeg (nI (spN zs (zk % 64) i)) = (spN zs (zk % 64) i) from nI_clamp (by have z9 := spN_lt hsc he1 he2 (k := i) (by rcases hsc with rfl | rfl <;> omega); omega)]; exact sI_sI _ _ _ _) ?_
    refine ev_iinc (pc := 266) (v := nI (i + 1)) (L' := [some (.ref 49), some (.int zx), some (.int (nI zk)), some (.int (nI zs)), some (.int (nI zw)), some (.int (nI (i + 1))), some (.int (nI (spN zs (zk % 64) i)))]) dX11_layWords_266 rfl (nI_1 _) (Nat.le_of_ble_eq_true rfl) rfl ?_
    refine ev_goto (pc := 269) (tgt := 197) dX11_layWords_269 (by decide) ?_
    refine ev_less (L' := [some (.ref 49), some (.int zx), some (.int (nI zk)), some (.int (nI zs)), some (.int (nI zw)), some (.int (nI (i + 1))), none]) (ls_keep (ls_keep (ls_keep (ls_keep (ls_keep (ls_keep (ls_drop (ls_nil _)))))))) ?_
    exact ih (i + 1) (by omega)
theorem bwK_u {h : AH} {g : Nat → Int32} {i : Nat} (hq : cpy (h.2.1 49 16) (nI (i / 1024)) (nI (i / 64 % 8)) (nI (i / 512 % 2 + 1)) (nI (i % 64)) ∧ clN h (i / 1024) (i / 64 % 8) (i / 512 % 2 + 1) (i % 64) = 0 ∧ 3 < agN h (i / 1024) (i / 64 % 8) (i / 512 % 2 + 1) (i % 64)) : bwK h g (i + 1) = bwQ (fun zj => tlN (h.2.1 56) (i / 1024) (i / 64 % 8) (i / 512 % 2 + 1) zj) (spN (i / 512 % 2 + 1) (i % 64)) (bwK h g i) (16 * (i / 512 % 2 + 1) * (i / 512 % 2 + 1)) := if_pos hq
theorem bwK_n {h : AH} {g : Nat → Int32} {i : Nat} (hq : ¬ (cpy (h.2.1 49 16) (nI (i / 1024)) (nI (i / 64 % 8)) (nI (i / 512 % 2 + 1)) (nI (i % 64)) ∧ clN h (i / 1024) (i / 64 % 8) (i / 512 % 2 + 1) (i % 64) = 0 ∧ 3 < agN h (i / 1024) (i / 64 % 8) (i / 512 % 2 + 1) (i % 64))) : bwK h g (i + 1) = bwK h g i := if_neg hq
theorem lp_layWords_128 (E : ME) (h : AH) (zb : Nat) (zx : Int32) (zf zg : Nat → Int32) (hw : WF h) (hb : h.2.1 49 16 = nI zb) (hb4 : zb ≤ 4) {post : PO} (K : ∀ (za zy zd : Int32), Ev E mX11_layWords (rmm 4 0 0) (QM E 0 0 post) 0 0 278 [some (.ref 49), some (.int zx), some (.int (nI (1024 * zb))), none, none, none, none] [] (sI (sI (lcH h za zy zd) 70 zg) 71 (bwK h zf (1024 * zb)))) : ∀ n i : Nat, ∀ (za zy zd : Int32), i + n = 1024 * zb → Ev E mX11_layWords (rmm 4 0 0) (QM E 0 0 post) 0 0 128 [some (.ref 49), some (.int zx), some (.int (nI i)), none, none, none, none] [] (sI (sI (lcH h za zy zd) 70 zg) 71 (bwK h zf i)) := by
  intro n
  induction n with
  | zero =>
    intro i za zy zd hi
    obtain rfl : 1024 * zb = i := by omega
    refine ev_iload_n (pc := 128) dX11_layWords_128 rfl ?_
    refine ev_sipush (pc := 129) (v := 1024) dX11_layWords_129 (by decide) ?_
    refine ev_aload_n (pc := 132) dX11_layWords_132 rfl ?_
    refine ev_getI (pc := 133) dX11_layWords_133 fX11_187 rfl (wlt (wf_sI (wf_sI (wf_lc hw))) (by decide)) ?_
    refine ev_eqI (e' := (lcH h za zy zd).2.1 49 16) (by rfl) ?_
    refine ev_eqI (e' := nI zb) hb ?_
    refine ev_imul (pc := 136) dX11_layWords_136 ?_
    refine ev_eqI (e' := nI (1024 * zb)) (pk_mul 1024 zb) ?_
    refine ev_icmp_ge (pc := 137) (tgt := 278) dX11_layWords_137 (by decide) (fun zc137 => ?_) (fun zc137 => absurd ((nI_leI (by omega) (by omega)).mpr (Nat.le_refl _)) zc137)
    exact K za zy zd
  | succ n ih =>
    intro i za zy zd hi
    have hlt : i < 1024 * zb := by omega
    by_cases hq : cpy (h.2.1 49 16) (nI (i / 1024)) (nI (i / 64 % 8)) (nI (i / 512 % 2 + 1)) (nI (i % 64)) ∧ clN h (i / 1024) (i / 64 % 8) (i / 512 % 2 + 1) (i % 64) = 0 ∧ 3 < agN h (i / 1024) (i / 64 % 8) (i / 512 % 2 + 1) (i % 64)
    ·
      refine ev_iload_n (pc := 128) dX11_layWords_128 rfl ?_
      refine ev_sipush (pc := 129) (v := 1024) dX11_layWords_129 (by decide) ?_
      refine ev_aload_n (pc := 132) dX11_layWords_132 rfl ?_
      refine ev_getI (pc := 133) dX11_layWords_133 fX11_187 rfl (wlt (wf_sI (wf_sI (wf_lc hw))) (by decide)) ?_
      refine ev_eqI (e' := (lcH h za zy zd).2.1 49 16) (by rfl) ?_
      refine ev_eqI (e' := nI zb) hb ?_
      refine ev_imul (pc := 136) dX11_layWords_136 ?_
      refine ev_eqI (e' := nI (1024 * zb)) (pk_mul 1024 zb) ?_
      refine ev_icmp_ge (pc := 137) (tgt := 278) dX11_layWords_137 (by decide) (fun zc137 => absurd zc137 (nI_ge hlt (by omega))) (fun zc137 => ?_)
      refine ev_iload_n (pc := 140) dX11_layWords_140 rfl ?_
      refine ev_sipush (pc := 141) (v := 512) dX11_layWords_141 (by decide) ?_
      refine ev_idiv (pc := 144) dX11_layWords_144 (by decide) ?_
      refine ev_eqI (e' := nI (i / 512)) (pk_div (a := i) (d := 512) (by omega) (by omega) (by omega)) ?_
      refine ev_iconst (pc := 145) (v := 2) dX11_layWords_145 (by decide) ?_
      refine ev_irem (pc := 146) dX11_layWords_146 (by decide) ?_
      refine ev_eqI (e' := nI ((i / 512) % 2)) (pk_rem (a := i / 512) (d := 2) (by omega) (by omega) (by omega)) ?_
      refine ev_iconst (pc := 147) (v := 1) dX11_layWords_147 (by decide) ?_
      refine ev_iadd (pc := 148) dX11_layWords_148 ?_
      refine ev_eqI (e' := nI (((i / 512) % 2) + 1)) (nI_add ((i / 512) % 2) 1) ?_
      refine ev_istore_n (pc := 149) (L' := [some (.ref 49), some (.int zx), some (.int (nI i)), some (.int (nI (((i / 512) % 2) + 1))), none, none, none]) dX11_layWords_149 (Nat.le_of_ble_eq_true rfl) rfl ?_
      refine ev_iload_n (pc := 150) dX11_layWords_150 rfl ?_
      refine ev_bipush (pc := 151) (v := 64) dX11_layWords_151 (by decide) ?_
      refine ev_idiv (pc := 153) dX11_layWords_153 (by decide) ?_
      refine ev_eqI (e' := nI (i / 64)) (pk_div (a := i) (d := 64) (by omega) (by omega) (by omega)) ?_
      refine ev_bipush (pc := 154) (v := 8) dX11_layWords_154 (by decide) ?_
      refine ev_irem (pc := 156) dX11_layWords_156 (by decide) ?_
      refine ev_eqI (e' := nI ((i / 64) % 8)) (pk_rem (a := i / 64) (d := 8) (by omega) (by omega) (by omega)) ?_
      refine ev_istore (pc := 157) (L' := [some (.ref 49), some (.int zx), some (.int (nI i)), some (.int (nI (((i / 512) % 2) + 1))), some (.int (nI ((i / 64) % 8))), none, none]) dX11_layWords_157 (Nat.le_of_ble_eq_true rfl) rfl ?_
      refine ev_aload_n (pc := 159) dX11_layWords_159 rfl ?_
      refine ev_iload_n (pc := 160) dX11_layWords_160 rfl ?_
      refine ev_sipush (pc := 161) (v := 1024) dX11_layWords_161 (by decide) ?_
      refine ev_idiv (pc := 164) dX11_layWords_164 (by decide) ?_
      refine ev_eqI (e' := nI (i / 1024)) (pk_div (a := i) (d := 1024) (by omega) (by omega) (by omega)) ?_
      refine ev_iload (pc := 165) dX11_layWords_165 rfl ?_
      refine ev_iload_n (pc := 167) dX11_layWords_167 rfl ?_
      refine ev_iload_n (pc := 168) dX11_layWords_168 rfl ?_
      refine ev_bipush (pc := 169) (v := 64) dX11_layWords_169 (by decide) ?_
      refine ev_irem (pc := 171) dX11_layWords_171 (by decide) ?_
      refine ev_eqI (e' := nI (i % 64)) (pk_rem (a := i) (d := 64) (by omega) (by omega) (by omega)) ?_
      refine ev_callVv (S := []) (pc := 172) dX11_layWords_172 kX11_isCopy lX11_288 vX11_isCopy (cn_X11_isCopy E (sI (sI (lcH h za zy zd) 70 zg) 71 (bwK h zf i)) (nI (i / 1024)) (nI ((i / 64) % 8)) (nI (((i / 512) % 2) + 1)) (nI (i % 64)) (wf_sI (wf_sI (wf_lc hw)))) rfl rfl (wlt (wf_sI (wf_sI (wf_lc hw))) (by decide)) rfl rfl (Nat.le_of_ble_eq_true rfl) ⟨Nat.le_of_ble_eq_true rfl, Nat.le_of_ble_eq_true rfl⟩ ⟨Nat.le_of_ble_eq_true rfl, Nat.le_of_ble_eq_true rfl⟩ ?_
      refine ev_if_eq (pc := 175) (tgt := 272) dX11_layWords_175 (by decide) (fun zc175 => absurd zc175 (fun z => (bI_0.mp z) hq.1)) (fun zc175 => ?_)
      have zF := cpy_f hb hb4 (by omega) (by omega) (by omega) (by omega) (show cpy (h.2.1 49 16) (nI (i / 1024)) (nI (i / 64 % 8)) (nI (i / 512 % 2 + 1)) (nI (i % 64)) from hq.1)
      refine ev_aload_n (pc := 178) dX11_layWords_178 rfl ?_
      refine ev_iload_n (pc := 179) dX11_layWords_179 rfl ?_
      refine ev_sipush (pc := 180) (v := 1024) dX11_layWords_180 (by decide) ?_
      refine ev_idiv (pc := 183) dX11_layWords_183 (by decide) ?_
      refine ev_eqI (e' := nI (i / 1024)) (pk_div (a := i) (d := 1024) (by omega) (by omega) (by omega)) ?_
      refine ev_iload (pc := 184) dX11_layWords_184 rfl ?_
      refine ev_iload_n (pc := 186) dX11_layWords_186 rfl ?_
      refine ev_iload_n (pc := 187) dX11_layWords_187 rfl ?_
      refine ev_bipush (pc := 188) (v := 64) dX11_layWords_188 (by decide) ?_
      refine ev_irem (pc := 190) dX11_layWords_190 (by decide) ?_
      refine ev_eqI (e' := nI (i % 64)) (pk_rem (a := i) (d := 64) (by omega) (by omega) (by omega)) ?_
      refine ev_callV (S := []) (pc := 191) dX11_layWords_191 kX11_layCopy lX11_292 vX11_layCopy (cn_X11_lc E (sI (sI (lcH h za zy zd) 70 zg) 71 (bwK h zf i)) (i / 1024) (i / 64 % 8) (i / 512 % 2 + 1) (i % 64) (wf_sI (wf_sI (wf_lc hw))) zF.2.2.1 (by omega) zF.2.1 zF.2.2.2.1 zF.2.2.2.2.1 zF.2.2.2.2.2) rfl rfl (wlt (wf_sI (wf_sI (wf_lc hw))) (by decide)) rfl rfl (Nat.le_of_ble_eq_true rfl) ⟨Nat.le_of_ble_eq_true rfl, Nat.le_of_ble_eq_true rfl⟩ ⟨Nat.le_of_ble_eq_true rfl, Nat.le_of_ble_eq_true rfl⟩ ?_
      rintro _ _ ⟨rfl, rfl⟩
      refine ev_eqH (h' := sI (sI (lcH h (agN h (i / 1024) (i / 64 % 8) (i / 512 % 2 + 1) (i % 64)) (clN h (i / 1024) (i / 64 % 8) (i / 512 % 2 + 1) (i % 64)) (fiN h (i / 1024) (i / 64 % 8) (i / 512 % 2 + 1) (i % 64))) 70 zg) 71 (bwK h zf i)) (by rw [lc_sI _ (by decide), lc_sI _ (by decide)]; exact congrArg (fun z => sI (sI z 70 zg) 71 (bwK h zf i)) (lcH_lcH h _ _ _ _ _ _)) ?_
      show Ev E mX11_layWords (rmm 4 0 0) (QM E 0 0 post) 0 0 194 [some (.ref 49), some (.int zx), some (.int (nI i)), some (.int (nI (((i / 512) % 2) + 1))), some (.int (nI ((i / 64) % 8))), none, none] [] (sI (sI (lcH h (agN h (i / 1024) (i / 64 % 8) (i / 512 % 2 + 1) (i % 64)) (clN h (i / 1024) (i / 64 % 8) (i / 512 % 2 + 1) (i % 64)) (fiN h (i / 1024) (i / 64 % 8) (i / 512 % 2 + 1) (i % 64))) 70 zg) 71 (bwK h zf i))
      refine ev_iconst (pc := 194) (v := 0) dX11_layWords_194 (by decide) ?_
      refine ev_istore (pc := 195) (L' := [some (.ref 49), some (.int zx), some (.int (nI i)), some (.int (nI (((i / 512) % 2) + 1))), some (.int (nI ((i / 64) % 8))), some (.int 0), none]) dX11_layWords_195 (Nat.le_of_ble_eq_true rfl) rfl ?_
      refine lp_layWords_197 E h i (i / 64 % 8) (i / 512 % 2 + 1) (16 * (i / 512 % 2 + 1) * (i / 512 % 2 + 1)) zx (agN h (i / 1024) (i / 64 % 8) (i / 512 % 2 + 1) (i % 64)) (clN h (i / 1024) (i / 64 % 8) (i / 512 % 2 + 1) (i % 64)) (fiN h (i / 1024) (i / 64 % 8) (i / 512 % 2 + 1) (i % 64)) (bwK h zf i) zg hw zF.2.2.1 (by omega) zF.2.1 zF.2.2.2.2.1 zF.2.2.2.2.2 rfl hq.2.1 hq.2.2 ?_ (16 * (i / 512 % 2 + 1) * (i / 512 % 2 + 1)) 0 (Nat.zero_add _)
      refine ev_iinc (pc := 272) (v := nI (i + 1)) (L' := [some (.ref 49), some (.int zx), some (.int (nI (i + 1))), some (.int (nI (i / 512 % 2 + 1))), some (.int (nI (i / 64 % 8))), some (.int (nI (16 * (i / 512 % 2 + 1) * (i / 512 % 2 + 1)))), none]) dX11_layWords_272 rfl (nI_1 _) (Nat.le_of_ble_eq_true rfl) rfl ?_
      refine ev_goto (pc := 275) (tgt := 128) dX11_layWords_275 (by decide) ?_
      refine ev_less (L' := [some (.ref 49), some (.int zx), some (.int (nI (i + 1))), none, none, none, none]) (ls_keep (ls_keep (ls_keep (ls_drop (ls_drop (ls_drop (ls_keep (ls_nil _)))))))) ?_
      refine ev_eqH (h' := sI (sI (lcH h (agN h (i / 1024) (i / 64 % 8) (i / 512 % 2 + 1) (i % 64)) (clN h (i / 1024) (i / 64 % 8) (i / 512 % 2 + 1) (i % 64)) (fiN h (i / 1024) (i / 64 % 8) (i / 512 % 2 + 1) (i % 64))) 70 zg) 71 (bwK h zf (i + 1))) (by rw [bwK_u hq]) ?_
      exact ih (i + 1) _ _ _ (by omega)
    ·
      refine ev_iload_n (pc := 128) dX11_layWords_128 rfl ?_
      refine ev_sipush (pc := 129) (v := 1024) dX11_layWords_129 (by decide) ?_
      refine ev_aload_n (pc := 132) dX11_layWords_132 rfl ?_
      refine ev_getI (pc := 133) dX11_layWords_133 fX11_187 rfl (wlt (wf_sI (wf_sI (wf_lc hw))) (by decide)) ?_
      refine ev_eqI (e' := (lcH h za zy zd).2.1 49 16) (by rfl) ?_
      refine ev_eqI (e' := nI zb) hb ?_
      refine ev_imul (pc := 136) dX11_layWords_136 ?_
      refine ev_eqI (e' := nI (1024 * zb)) (pk_mul 1024 zb) ?_
      refine ev_icmp_ge (pc := 137) (tgt := 278) dX11_layWords_137 (by decide) (fun zc137 => absurd zc137 (nI_ge hlt (by omega))) (fun zc137 => ?_)
      refine ev_iload_n (pc := 140) dX11_layWords_140 rfl ?_
      refine ev_sipush (pc := 141) (v := 512) dX11_layWords_141 (by decide) ?_
      refine ev_idiv (pc := 144) dX11_layWords_144 (by decide) ?_
      refine ev_eqI (e' := nI (i / 512)) (pk_div (a := i) (d := 512) (by omega) (by omega) (by omega)) ?_
      refine ev_iconst (pc := 145) (v := 2) dX11_layWords_145 (by decide) ?_
      refine ev_irem (pc := 146) dX11_layWords_146 (by decide) ?_
      refine ev_eqI (e' := nI ((i / 512) % 2)) (pk_rem (a := i / 512) (d := 2) (by omega) (by omega) (by omega)) ?_
      refine ev_iconst (pc := 147) (v := 1) dX11_layWords_147 (by decide) ?_
      refine ev_iadd (pc := 148) dX11_layWords_148 ?_
      refine ev_eqI (e' := nI (((i / 512) % 2) + 1)) (nI_add ((i / 512) % 2) 1) ?_
      refine ev_istore_n (pc := 149) (L' := [some (.ref 49), some (.int zx), some (.int (nI i)), some (.int (nI (((i / 512) % 2) + 1))), none, none, none]) dX11_layWords_149 (Nat.le_of_ble_eq_true rfl) rfl ?_
      refine ev_iload_n (pc := 150) dX11_layWords_150 rfl ?_
      refine ev_bipush (pc := 151) (v := 64) dX11_layWords_151 (by decide) ?_
      refine ev_idiv (pc := 153) dX11_layWords_153 (by decide) ?_
      refine ev_eqI (e' := nI (i / 64)) (pk_div (a := i) (d := 64) (by omega) (by omega) (by omega)) ?_
      refine ev_bipush (pc := 154) (v := 8) dX11_layWords_154 (by decide) ?_
      refine ev_irem (pc := 156) dX11_layWords_156 (by decide) ?_
      refine ev_eqI (e' := nI ((i / 64) % 8)) (pk_rem (a := i / 64) (d := 8) (by omega) (by omega) (by omega)) ?_
      refine ev_istore (pc := 157) (L' := [some (.ref 49), some (.int zx), some (.int (nI i)), some (.int (nI (((i / 512) % 2) + 1))), some (.int (nI ((i / 64) % 8))), none, none]) dX11_layWords_157 (Nat.le_of_ble_eq_true rfl) rfl ?_
      refine ev_aload_n (pc := 159) dX11_layWords_159 rfl ?_
      refine ev_iload_n (pc := 160) dX11_layWords_160 rfl ?_
      refine ev_sipush (pc := 161) (v := 1024) dX11_layWords_161 (by decide) ?_
      refine ev_idiv (pc := 164) dX11_layWords_164 (by decide) ?_
      refine ev_eqI (e' := nI (i / 1024)) (pk_div (a := i) (d := 1024) (by omega) (by omega) (by omega)) ?_
      refine ev_iload (pc := 165) dX11_layWords_165 rfl ?_
      refine ev_iload_n (pc := 167) dX11_layWords_167 rfl ?_
      refine ev_iload_n (pc := 168) dX11_layWords_168 rfl ?_
      refine ev_bipush (pc := 169) (v := 64) dX11_layWords_169 (by decide) ?_
      refine ev_irem (pc := 171) dX11_layWords_171 (by decide) ?_
      refine ev_eqI (e' := nI (i % 64)) (pk_rem (a := i) (d := 64) (by omega) (by omega) (by omega)) ?_
      refine ev_callVv (S := []) (pc := 172) dX11_layWords_172 kX11_isCopy lX11_288 vX11_isCopy (cn_X11_isCopy E (sI (sI (lcH h za zy zd) 70 zg) 71 (bwK h zf i)) (nI (i / 1024)) (nI ((i / 64) % 8)) (nI (((i / 512) % 2) + 1)) (nI (i % 64)) (wf_sI (wf_sI (wf_lc hw)))) rfl rfl (wlt (wf_sI (wf_sI (wf_lc hw))) (by decide)) rfl rfl (Nat.le_of_ble_eq_true rfl) ⟨Nat.le_of_ble_eq_true rfl, Nat.le_of_ble_eq_true rfl⟩ ⟨Nat.le_of_ble_eq_true rfl, Nat.le_of_ble_eq_true rfl⟩ ?_
      refine ev_if_eq (pc := 175) (tgt := 272) dX11_layWords_175 (by decide) (fun zc175 => ?_) (fun zc175 => ?_)
      · -- eq at 175: taken
        refine ev_iinc (pc := 272) (v := nI (i + 1)) (L' := [some (.ref 49), some (.int zx), some (.int (nI (i + 1))), some (.int (nI (((i / 512) % 2) + 1))), some (.int (nI ((i / 64) % 8))), none, none]) dX11_layWords_272 rfl (nI_1 _) (Nat.le_of_ble_eq_true rfl) rfl ?_
        refine ev_goto (pc := 275) (tgt := 128) dX11_layWords_275 (by decide) ?_
        refine ev_less (L' := [some (.ref 49), some (.int zx), some (.int (nI (i + 1))), none, none, none, none]) (ls_keep (ls_keep (ls_keep (ls_drop (ls_drop (ls_keep (ls_keep (ls_nil _)))))))) ?_
        refine ev_eqH (h' := sI (sI (lcH h za zy zd) 70 zg) 71 (bwK h zf (i + 1))) (by rw [bwK_n hq]) ?_
        exact ih (i + 1) _ _ _ (by omega)
      · -- eq at 175: not taken
        have zF := cpy_f hb hb4 (by omega) (by omega) (by omega) (by omega) (show cpy (h.2.1 49 16) (nI (i / 1024)) (nI (i / 64 % 8)) (nI (i / 512 % 2 + 1)) (nI (i % 64)) from bI_n0.mp zc175)
        refine ev_aload_n (pc := 178) dX11_layWords_178 rfl ?_
        refine ev_iload_n (pc := 179) dX11_layWords_179 rfl ?_
        refine ev_sipush (pc := 180) (v := 1024) dX11_layWords_180 (by decide) ?_
        refine ev_idiv (pc := 183) dX11_layWords_183 (by decide) ?_
        refine ev_eqI (e' := nI (i / 1024)) (pk_div (a := i) (d := 1024) (by omega) (by omega) (by omega)) ?_
        refine ev_iload (pc := 184) dX11_layWords_184 rfl ?_
        refine ev_iload_n (pc := 186) dX11_layWords_186 rfl ?_
        refine ev_iload_n (pc := 187) dX11_layWords_187 rfl ?_
        refine ev_bipush (pc := 188) (v := 64) dX11_layWords_188 (by decide) ?_
        refine ev_irem (pc := 190) dX11_layWords_190 (by decide) ?_
        refine ev_eqI (e' := nI (i % 64)) (pk_rem (a := i) (d := 64) (by omega) (by omega) (by omega)) ?_
        refine ev_callV (S := []) (pc := 191) dX11_layWords_191 kX11_layCopy lX11_292 vX11_layCopy (cn_X11_lc E (sI (sI (lcH h za zy zd) 70 zg) 71 (bwK h zf i)) (i / 1024) (i / 64 % 8) (i / 512 % 2 + 1) (i % 64) (wf_sI (wf_sI (wf_lc hw))) zF.2.2.1 (by omega) zF.2.1 zF.2.2.2.1 zF.2.2.2.2.1 zF.2.2.2.2.2) rfl rfl (wlt (wf_sI (wf_sI (wf_lc hw))) (by decide)) rfl rfl (Nat.le_of_ble_eq_true rfl) ⟨Nat.le_of_ble_eq_true rfl, Nat.le_of_ble_eq_true rfl⟩ ⟨Nat.le_of_ble_eq_true rfl, Nat.le_of_ble_eq_true rfl⟩ ?_
        rintro _ _ ⟨rfl, rfl⟩
        refine ev_eqH (h' := sI (sI (lcH h (agN h (i / 1024) (i / 64 % 8) (i / 512 % 2 + 1) (i % 64)) (clN h (i / 1024) (i / 64 % 8) (i / 512 % 2 + 1) (i % 64)) (fiN h (i / 1024) (i / 64 % 8) (i / 512 % 2 + 1) (i % 64))) 70 zg) 71 (bwK h zf i)) (by rw [lc_sI _ (by decide), lc_sI _ (by decide)]; exact congrArg (fun z => sI (sI z 70 zg) 71 (bwK h zf i)) (lcH_lcH h _ _ _ _ _ _)) ?_
        show Ev E mX11_layWords (rmm 4 0 0) (QM E 0 0 post) 0 0 194 [some (.ref 49), some (.int zx), some (.int (nI i)), some (.int (nI (((i / 512) % 2) + 1))), some (.int (nI ((i / 64) % 8))), none, none] [] (sI (sI (lcH h (agN h (i / 1024) (i / 64 % 8) (i / 512 % 2 + 1) (i % 64)) (clN h (i / 1024) (i / 64 % 8) (i / 512 % 2 + 1) (i % 64)) (fiN h (i / 1024) (i / 64 % 8) (i / 512 % 2 + 1) (i % 64))) 70 zg) 71 (bwK h zf i))
        refine ev_iconst (pc := 194) (v := 0) dX11_layWords_194 (by decide) ?_
        refine ev_istore (pc := 195) (L' := [some (.ref 49), some (.int zx), some (.int (nI i)), some (.int (nI (((i / 512) % 2) + 1))), some (.int (nI ((i / 64) % 8))), some (.int 0), none]) dX11_layWords_195 (Nat.le_of_ble_eq_true rfl) rfl ?_
        refine ev_iload (pc := 197) dX11_layWords_197 rfl ?_
        refine ev_bipush (pc := 199) (v := 16) dX11_layWords_199 (by decide) ?_
        refine ev_iload_n (pc := 201) dX11_layWords_201 rfl ?_
        refine ev_imul (pc := 202) dX11_layWords_202 ?_
        refine ev_eqI (e' := nI (16 * (((i / 512) % 2) + 1))) (pk_mul 16 (((i / 512) % 2) + 1)) ?_
        refine ev_iload_n (pc := 203) dX11_layWords_203 rfl ?_
        refine ev_imul (pc := 204) dX11_layWords_204 ?_
        refine ev_eqI (e' := nI ((16 * (((i / 512) % 2) + 1)) * (((i / 512) % 2) + 1))) (pk_mul (16 * (((i / 512) % 2) + 1)) (((i / 512) % 2) + 1)) ?_
        refine ev_icmp_ge (pc := 205) (tgt := 272) dX11_layWords_205 (by decide) (fun zc205 => absurd zc205 (nI_nle (by have := zF.2.2.1; rcases this with z | z <;> rw [z] <;> decide) (by have := zF.2.2.1; rcases this with z | z <;> rw [z] <;> decide))) (fun zc205 => ?_)
        refine ev_aload_n (pc := 208) dX11_layWords_208 rfl ?_
        refine ev_getI (pc := 209) dX11_layWords_209 fX11_275 rfl (wlt (wf_sI (wf_sI (wf_lc hw))) (by decide)) ?_
        refine ev_eqI (e' := (lcH h (agN h (i / 1024) (i / 64 % 8) (i / 512 % 2 + 1) (i % 64)) (clN h (i / 1024) (i / 64 % 8) (i / 512 % 2 + 1) (i % 64)) (fiN h (i / 1024) (i / 64 % 8) (i / 512 % 2 + 1) (i % 64))).2.1 49 40) (by rfl) ?_
        refine ev_eqI (e' := clN h (i / 1024) (i / 64 % 8) (i / 512 % 2 + 1) (i % 64)) rfl ?_
        refine ev_if_ne (pc := 212) (tgt := 272) dX11_layWords_212 (by decide) (fun zc212 => ?_) (fun zc212 => ?_)
        · -- ne at 212: taken
          refine ev_iinc (pc := 272) (v := nI (i + 1)) (L' := [some (.ref 49), some (.int zx), some (.int (nI (i + 1))), some (.int (nI (((i / 512) % 2) + 1))), some (.int (nI ((i / 64) % 8))), some (.int 0), none]) dX11_layWords_272 rfl (nI_1 _) (Nat.le_of_ble_eq_true rfl) rfl ?_
          refine ev_goto (pc := 275) (tgt := 128) dX11_layWords_275 (by decide) ?_
          refine ev_less (L' := [some (.ref 49), some (.int zx), some (.int (nI (i + 1))), none, none, none, none]) (ls_keep (ls_keep (ls_keep (ls_drop (ls_drop (ls_drop (ls_keep (ls_nil _)))))))) ?_
          refine ev_eqH (h' := sI (sI (lcH h (agN h (i / 1024) (i / 64 % 8) (i / 512 % 2 + 1) (i % 64)) (clN h (i / 1024) (i / 64 % 8) (i / 512 % 2 + 1) (i % 64)) (fiN h (i / 1024) (i / 64 % 8) (i / 512 % 2 + 1) (i % 64))) 70 zg) 71 (bwK h zf (i + 1))) (by rw [bwK_n hq]) ?_
          exact ih (i + 1) _ _ _ (by omega)
        · -- ne at 212: not taken
          refine ev_aload_n (pc := 215) dX11_layWords_215 rfl ?_
          refine ev_getI (pc := 216) dX11_layWords_216 fX11_272 rfl (wlt (wf_sI (wf_sI (wf_lc hw))) (by decide)) ?_
          refine ev_eqI (e' := (lcH h (agN h (i / 1024) (i / 64 % 8) (i / 512 % 2 + 1) (i % 64)) (clN h (i / 1024) (i / 64 % 8) (i / 512 % 2 + 1) (i % 64)) (fiN h (i / 1024) (i / 64 % 8) (i / 512 % 2 + 1) (i % 64))).2.1 49 39) (by rfl) ?_
          refine ev_eqI (e' := agN h (i / 1024) (i / 64 % 8) (i / 512 % 2 + 1) (i % 64)) rfl ?_
          refine ev_iconst (pc := 219) (v := 3) dX11_layWords_219 (by decide) ?_
          refine ev_icmp_le (pc := 220) (tgt := 272) dX11_layWords_220 (by decide) (fun zc220 => ?_) (fun zc220 => absurd ((i_lt2 _ _).mp (fun z => hq ⟨bI_n0.mp zc175, zc212, z⟩)) zc220)
          refine ev_iinc (pc := 272) (v := nI (i + 1)) (L' := [some (.ref 49), some (.int zx), some (.int (nI (i + 1))), some (.int (nI (((i / 512) % 2) + 1))), some (.int (nI ((i / 64) % 8))), some (.int 0), none]) dX11_layWords_272 rfl (nI_1 _) (Nat.le_of_ble_eq_true rfl) rfl ?_
          refine ev_goto (pc := 275) (tgt := 128) dX11_layWords_275 (by decide) ?_
          refine ev_less (L' := [some (.ref 49), some (.int zx), some (.int (nI (i + 1))), none, none, none, none]) (ls_keep (ls_keep (ls_keep (ls_drop (ls_drop (ls_drop (ls_keep (ls_nil _)))))))) ?_
          refine ev_eqH (h' := sI (sI (lcH h (agN h (i / 1024) (i / 64 % 8) (i / 512 % 2 + 1) (i % 64)) (clN h (i / 1024) (i / 64 % 8) (i / 512 % 2 + 1) (i % 64)) (fiN h (i / 1024) (i / 64 % 8) (i / 512 % 2 + 1) (i % 64))) 70 zg) 71 (bwK h zf (i + 1))) (by rw [bwK_n hq]) ?_
          exact ih (i + 1) _ _ _ (by omega)
noncomputable def syW (h : AH) : Nat → Int32 := swO (h.2.1 69) (syF (h.2.1 69) 7) (nf4 (h.2.1 70) 64) 7
noncomputable def bkW (h : AH) (zb : Nat) : Nat → Int32 := bwK h (nf4 (h.2.1 71) 64) (1024 * zb)
theorem cn_X11_layWords (E : ME) (h : AH) (zb : Nat) (hw : WF h) (hb : h.2.1 49 16 = nI zb) (hb4 : zb ≤ 4) : Con E mX11_layWords 4 0 0 [.ref 49] h (fun r h' => r = none ∧ ∃ za zy zd : Int32, h' = sI (sI (lcH h za zy zd) 70 (syW h)) 71 (bkW h zb)) := by
  refine con_of2 (L := [some (.ref 49), none, none, none, none, none, none]) rfl (Nat.le_of_ble_eq_true rfl) rfl ?_
  refine ev_iconst (pc := 0) (v := 0) dX11_layWords_0 (by decide) ?_
  refine ev_istore_n (pc := 1) (L' := [some (.ref 49), some (.int 0), none, none, none, none, none]) dX11_layWords_1 (Nat.le_of_ble_eq_true rfl) rfl ?_
  refine ev_eqH (h' := sI (sI h 70 (nf4 (h.2.1 70) 0)) 71 (nf4 (h.2.1 71) 0)) (by show h = sI (sI h 70 (h.2.1 70)) 71 (h.2.1 71); rw [sI_id h 70]; exact (sI_id h 71).symm) ?_
  refine lp_layWords_2 E h hw ?_ 64 0 (Nat.zero_add _)
  refine ev_aload_n (pc := 30) dX11_layWords_30 rfl ?_
  refine ev_callVv (S := []) (pc := 31) dX11_layWords_31 kX11_symmetries lX11_303 vX11_symmetries (cn_X11_symmetries E (sI (sI h 70 (nf4 (h.2.1 70) 64)) 71 (nf4 (h.2.1 71) 64)) (wf_sI (wf_sI hw))) rfl rfl (wlt (wf_sI (wf_sI hw)) (by decide)) rfl rfl (Nat.le_of_ble_eq_true rfl) ⟨Nat.le_of_ble_eq_true rfl, Nat.le_of_ble_eq_true rfl⟩ ⟨Nat.le_of_ble_eq_true rfl, Nat.le_of_ble_eq_true rfl⟩ ?_
  refine ev_istore_n (pc := 34) (L' := [some (.ref 49), some (.int (syF (h.2.1 69) 7)), none, none, none, none, none]) dX11_layWords_34 (Nat.le_of_ble_eq_true rfl) rfl ?_
  refine ev_iconst (pc := 35) (v := 1) dX11_layWords_35 (by decide) ?_
  refine ev_istore_n (pc := 36) (L' := [some (.ref 49), some (.int (syF (h.2.1 69) 7)), some (.int 1), none, none, none, none]) dX11_layWords_36 (Nat.le_of_ble_eq_true rfl) rfl ?_
  refine lp_layWords_37 E h (syF (h.2.1 69) 7) (nf4 (h.2.1 71) 64) (nf4 (h.2.1 70) 64) hw ?_ 7 0 (Nat.zero_add _)
  refine ev_iconst (pc := 126) (v := 0) dX11_layWords_126 (by decide) ?_
  refine ev_istore_n (pc := 127) (L' := [some (.ref 49), some (.int ((syF (h.2.1 69) 7))), some (.int 0), none, none, none, none]) dX11_layWords_127 (Nat.le_of_ble_eq_true rfl) rfl ?_
  refine ev_less (L' := [some (.ref 49), some (.int ((syF (h.2.1 69) 7))), some (.int 0), none, none, none, none]) (ls_keep (ls_keep (ls_keep (ls_keep (ls_keep (ls_keep (ls_keep (ls_nil _)))))))) ?_
  refine ev_eqH (h' := sI (sI (lcH h (h.2.1 49 39) (h.2.1 49 40) (h.2.1 49 41)) 70 (syW h)) 71 (bwK h (nf4 (h.2.1 71) 64) 0)) (by rw [lcH_id]; rfl) ?_
  refine lp_layWords_128 E h zb (syF (h.2.1 69) 7) (nf4 (h.2.1 71) 64) (syW h) hw hb hb4 (fun za zy zd => ?_) (1024 * zb) 0 _ _ _ (Nat.zero_add _)
  refine ev_ret (pc := 278) dX11_layWords_278 rfl ?_
  · exact ⟨rfl, _, _, _, rfl⟩
