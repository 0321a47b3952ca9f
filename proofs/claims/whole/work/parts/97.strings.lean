/-- the words: their bytes, lengths, places in the pool -/
def wdS : List (List Int32) := [[114, 111, 119], [112, 97, 116, 99, 104], [103, 105, 118, 101, 115], [97, 112, 97, 114, 116], [113, 117, 97, 114, 114, 121], [98, 111, 111, 107]]
def wdN : List Nat := [3, 5, 5, 5, 6, 4]
def wdP : List (Nat × String) := [(63, "row"), (73, "patch"), (78, "gives"), (83, "apart"), (88, "quarry"), (93, "book")]
def wdQ (zi : Nat) : Nat := (wdP.getD zi (0, "")).1
def wdX (zi : Nat) : String := (wdP.getD zi (0, "")).2
/-- what lies outside holds the words and the two statics of the JDK -/
def XOK (E : ME) : Prop := ∀ (U : State) (H : Heap), E.2.2.2.2.2 U H → vk_S 6 wdN wdS (fun zi => E.2.2.2.1 (1000 + zi)) (fun zi => E.2.2.2.1 (2000 + zi)) (fun q => eB E ≤ q) U H ∧ (∀ zi, zi < 6 → vk_R RX5 (wdQ zi) (wdX zi) (E.2.2.2.1 (1000 + zi)) U) ∧ va_Z "java/lang/String" "COMPACT_STRINGS" "Z" (.int 1) (fun q => eB E ≤ q) U H ∧ ∃ zv : Value, (zv = .null ∨ zv = .ref 3000) ∧ va_Z "jdk/internal/util/Preconditions" "SIOOBE_FORMATTER" "Ljava/util/function/BiFunction;" (cv E zv) (fun q => eB E ≤ q) U H
theorem adr_ge {E : ME} {k : Nat} (h : ¬ k < 1000) : adr E k = E.2.2.2.1 k := if_neg h
theorem cv_out (E : ME) (S : List Value) {k : Nat} (h : ¬ k < 1000) : (Value.ref k :: S).map (cv E) = .ref (E.2.2.2.1 k) :: S.map (cv E) := by
  show Value.ref (adr E k) :: _ = _
  rw [adr_ge h]
section EVX
variable {E : ME} {M : MM} {R : Room} {QX : List Frame → Array Value → State → State → Prop} {x y pc : Nat} {L : List (Option Value)} {S : List Value} {h : AH}
theorem ev_ldcS {zi idx : Nat} (hX : XOK E) (hi : zi < 6) (hM : M.1.cls = RX5) (hx : wdQ zi = idx) (hd : decode M.2.1 pc = .ok (.ldc idx, 2)) (K : Ev E M R QX x y (pc + 2) L (.ref (1000 + zi) :: S) h) : Ev E M R QX x y pc L S h := by
  intro p e s m args below meth c G H locs ls hR hS hl
  have hz := (hX s s.heap G.2.2.2.2.2.2.2.2.2.2.2.2).2.1 zi hi
  rw [hx] at hz
  have hK := K p e s m args below meth c G H locs ls hR hS hl
  rw [cv_out E S (by omega)] at hK
  exact va_ldcS G.1 G.2.1 (by rw [← hM]; exact G.2.2.2.1) hz hd hK
theorem ev_getSV {zi : Nat} (hX : XOK E) (hi : zi < 6) (hM : M.1.cls = RJ0) (hd : decode M.2.1 pc = .ok (.getfield 9, 3)) (K : Ev E M R QX x y (pc + 3) L (.ref (2000 + zi) :: S) h) : Ev E M R QX x y pc L (.ref (1000 + zi) :: S) h := by
  intro p e s m args below meth c G H locs ls hR hS hl
  have hz := ((hX s s.heap G.2.2.2.2.2.2.2.2.2.2.2.2).1.1 zi hi).2.2.1
  have hK := K p e s m args below meth c G H locs ls hR hS hl
  rw [cv_out E S (by omega)] at hK
  rw [cv_out E S (by omega)]
  exact vk_getf (own := RJ0) (ref := "java/lang/String") (index := 9) G.1 G.2.1 hz hS (by rw [← hM]; exact G.2.2.2.1) (G.2.2.2.2.1 _ (tw8 2 rfl (by decide +kernel))) (fun _ q => q) hd hK
theorem ev_getSC {zi : Nat} (hX : XOK E) (hi : zi < 6) (hM : M.1.cls = RJ0) (hd : decode M.2.1 pc = .ok (.getfield 15, 3)) (K : Ev E M R QX x y (pc + 3) L (.int 0 :: S) h) : Ev E M R QX x y pc L (.ref (1000 + zi) :: S) h := by
  intro p e s m args below meth c G H locs ls hR hS hl
  have hz := ((hX s s.heap G.2.2.2.2.2.2.2.2.2.2.2.2).1.1 zi hi).2.1
  have hK := K p e s m args below meth c G H locs ls hR hS hl
  rw [cv_out E S (by omega)]
  exact vk_getf (own := RJ0) (ref := "java/lang/String") (index := 15) G.1 G.2.1 hz hS (by rw [← hM]; exact G.2.2.2.1) (G.2.2.2.2.1 _ (tw8 3 rfl (by decide +kernel))) (fun _ q => q) hd hK
theorem ev_alenS {zi : Nat} (hX : XOK E) (hi : zi < 6) (hd : decode M.2.1 pc = .ok (.arraylength, 1)) (K : Ev E M R QX x y (pc + 1) L (.int (nI (wdN.getD zi 0)) :: S) h) : Ev E M R QX x y pc L (.ref (2000 + zi) :: S) h := by
  intro p e s m args below meth c G H locs ls hR hS hl
  have hz := ((hX s s.heap G.2.2.2.2.2.2.2.2.2.2.2.2).1.1 zi hi).2.2.2
  rw [cv_out E S (by omega)]
  exact va_tlen G.1 G.2.1 hz hS rfl hd (K p e s m args below meth c G H locs ls hR hS hl)
theorem ev_baldS {zi zk : Nat} (hX : XOK E) (hi : zi < 6) (hk : zk < wdN.getD zi 0) (hk2 : wdN.getD zi 0 < 100) (hd : decode M.2.1 pc = .ok (.baload, 1)) (K : Ev E M R QX x y (pc + 1) L (.int ((wdS.getD zi []).getD zk 0) :: S) h) : Ev E M R QX x y pc L (.int (nI zk) :: .ref (2000 + zi) :: S) h := by
  intro p e s m args below meth c G H locs ls hR hS hl
  have hz := ((hX s s.heap G.2.2.2.2.2.2.2.2.2.2.2.2).1.1 zi hi).2.2.2
  have e9 : (Value.int (nI zk) :: .ref (2000 + zi) :: S).map (cv E) = .int (nI zk) :: .ref (E.2.2.2.1 (2000 + zi)) :: S.map (cv E) := by
    rw [← cv_out E S (by omega)]
    rfl
  rw [e9]
  exact va_tb G.1 G.2.1 hz hS (vp_in_nI hk (by omega)) (by rw [nI_clamp (by omega)]; rfl) hd (K p e s m args below meth c G H locs ls hR hS hl)
theorem ev_getsC (hX : XOK E) (hM : M.1.cls = RJ0) (hd : decode M.2.1 pc = .ok (.getstatic 38, 3)) (K : Ev E M R QX x y (pc + 3) L (.int 1 :: S) h) : Ev E M R QX x y pc L S h := by
  intro p e s m args below meth c G H locs ls hR hS hl
  have hz := (hX s s.heap G.2.2.2.2.2.2.2.2.2.2.2.2).2.2.1
  exact va_gets (own := RJ0) (ref := "java/lang/String") (index := 38) G.1 G.2.1 hz hS (by rw [← hM]; exact G.2.2.2.1) (G.2.2.2.2.1 _ (tw2 143 rfl (by decide +kernel))) (fun _ q => q) hd (K p e s m args below meth c G H locs ls hR hS hl)
theorem ev_getsF (hX : XOK E) (hM : M.1.cls = RJ0) (hd : decode M.2.1 pc = .ok (.getstatic 1053, 3)) (K : ∀ zv : Value, (zv = .null ∨ zv = .ref 3000) → Ev E M R QX x y (pc + 3) L (zv :: S) h) : Ev E M R QX x y pc L S h := by
  intro p e s m args below meth c G H locs ls hR hS hl
  obtain ⟨zv, hv, hz⟩ := (hX s s.heap G.2.2.2.2.2.2.2.2.2.2.2.2).2.2.2
  exact va_gets (own := RJ0) (ref := "jdk/internal/util/Preconditions") (index := 1053) G.1 G.2.1 hz hS (by rw [← hM]; exact G.2.2.2.1) (G.2.2.2.2.1 _ (tw2 163 rfl (by decide +kernel))) (fun _ q => q) hd (K zv hv p e s m args below meth c G H locs ls hR hS hl)
theorem ev_i2c {a : Int32} (hd : decode M.2.1 pc = .ok (.i2c, 1)) (K : Ev E M R QX x y (pc + 1) L (.int ((a.toUInt32 % 65536).toInt32) :: S) h) : Ev E M R QX x y pc L (.int a :: S) h := by
  intro p e s m args below meth c G H locs ls hR hS hl
  exact lv_i2c G.1 G.2.1 hd rfl (K p e s m args below meth c G H locs ls hR hS hl)
theorem ev_callQ_out {M2 : MM} {idx n d2 mc2 ms2 zi : Nat} {as T : List Value} {Q : PO} (hX : XOK E) (hi : zi < 6) (hM : M2.1.cls = "java/lang/String") (hd : decode M.2.1 pc = .ok (.invokevirtual idx, 3)) (hM2 : MK M2 n) (hw : Cond.methodLink M.1.cls idx M2.1 ∈ tw) (hst : Cond.instanceMethod M2.1 ∈ tw ∧ Cond.selects M2.1.cls M2.1 M2.1 ∈ tw) (hc : Con E M2 d2 mc2 ms2 (.ref (1000 + zi) :: as) h Q) (hT : T = as.reverse ++ .ref (1000 + zi) :: S) (hn : as.length = n) (hW : (S.map Value.category).sum ≤ 8) (hRm : d2 + 1 ≤ R.frames ∧ 8 + (M2.2.2.1 + 11) + 43 * d2 ≤ R.locals) (hf : x + mc2 ≤ R.cells ∧ y + ms2 ≤ R.slots) (K : ∀ v h', Q v h' → Ev E M R QX (x + mc2) (y + ms2) (pc + 3) L (v.toList ++ S) h') : Ev E M R QX x y pc L T h := by
  intro p e s m args below meth c G H locs ls hR hS hl
  subst hT
  obtain ⟨hx, hb, hml, hown, hts, hK, hN, -⟩ := id G
  have hcv : cv E (.ref (1000 + zi)) = .ref (E.2.2.2.1 (1000 + zi)) := by
    show Value.ref (adr E (1000 + zi)) = _
    rw [adr_ge (by omega)]
  refine ev_after (a := (Value.ref (E.2.2.2.1 (1000 + zi)) :: as.map (cv E)).toArray) G hS hl ?_ K
  have hcell := vk_recv (hX s s.heap G.2.2.2.2.2.2.2.2.2.2.2.2).1 hi hS
  rw [← hM] at hcell
  have hp : PreV s H M2.1.cls (E.2.2.2.1 (1000 + zi)) (va_Pc ((Value.ref (1000 + zi) :: as).map (cv E)) (Pre E h)) (as.map (cv E)) := ⟨pre_blind, hcell, fun U hU hW => ⟨by rw [List.map_cons, hcv], gm_pre G hR hS U hU hW⟩⟩
  exact va_runV (Ts := tw) (bytes := M2.2.1) (maxL := M2.2.2.1) (ret := M2.2.2.2) (n := n) ⟨hx, hb, hml, hown, hts⟩ hc ⟨⟨rfl, rfl, hRm.1, hRm.2, mk_ws hts hM2, List.mem_cons_self, hts _ hM2.1, hts _ hM2.2.1, ⟨hM2.2.2.1, hM2.2.2.2.1⟩, mk_len hM2, hts _ hw⟩, hts _ hst.1, hts _ hst.2⟩ hp rfl (by rw [List.length_map]; exact hn) hl.1 (by simp [hcv]) (st_room (p := p) hW) hd hf
theorem ev_callS_out {M2 : MM} {idx n d2 zi : Nat} {as T : List Value} {v : Value} (hX : XOK E) (hi : zi < 6) (hM : M2.1.cls = "java/lang/String") (hd : decode M.2.1 pc = .ok (.invokevirtual idx, 3)) (hM2 : MK M2 n) (hw : Cond.methodLink M.1.cls idx M2.1 ∈ tw) (hst : Cond.instanceMethod M2.1 ∈ tw ∧ Cond.selects M2.1.cls M2.1 M2.1 ∈ tw) (hc : Con E M2 d2 0 0 (.ref (1000 + zi) :: as) h (fun r h' => r = some v ∧ h' = h)) (hT : T = as.reverse ++ .ref (1000 + zi) :: S) (hn : as.length = n) (hW : (S.map Value.category).sum ≤ 8) (hRm : d2 + 1 ≤ R.frames ∧ 8 + (M2.2.2.1 + 11) + 43 * d2 ≤ R.locals) (hf : x ≤ R.cells ∧ y ≤ R.slots) (K : Ev E M R QX x y (pc + 3) L (v :: S) h) : Ev E M R QX x y pc L T h :=
  ev_callQ_out hX hi hM hd hM2 hw hst hc hT hn hW hRm hf (fun v h' q => by obtain ⟨rfl, rfl⟩ := q; exact K)
end EVX
theorem cn_J3_r (E : ME) (h : AH) (za zb : Int32) (h0 : ¬ za < 0) (h1 : za < zb) : Con E mJ3_checkIndex_8e157 0 0 0 [.int za, .int zb, .ref 3000] h (fun r h' => r = some (.int (za)) ∧ h' = h) := by
  refine con_of2 (L := [some (.int za), some (.int zb), some (.ref 3000)]) rfl (Nat.le_of_ble_eq_true rfl) rfl ?_
  refine ev_iload_n (pc := 0) dJ3_checkIndex_8e157_0 rfl ?_
  refine ev_if_lt (pc := 1) (tgt := 9) dJ3_checkIndex_8e157_1 (by decide) (fun zc1 => absurd zc1 h0) (fun zc1 => ?_)
  refine ev_iload_n (pc := 4) dJ3_checkIndex_8e157_4 rfl ?_
  refine ev_iload_n (pc := 5) dJ3_checkIndex_8e157_5 rfl ?_
  refine ev_icmp_lt (pc := 6) (tgt := 16) dJ3_checkIndex_8e157_6 (by decide) (fun zc6 => ?_) (fun zc6 => absurd h1 zc6)
  refine ev_iload_n (pc := 16) dJ3_checkIndex_8e157_16 rfl ?_
  refine ev_iret (pc := 17) dJ3_checkIndex_8e157_17 rfl ?_ ?_
  · rfl
  · exact ⟨rfl, rfl⟩
theorem cn_J3_n (E : ME) (h : AH) (za zb : Int32) (h0 : ¬ za < 0) (h1 : za < zb) : Con E mJ3_checkIndex_8e157 0 0 0 [.int za, .int zb, .null] h (fun r h' => r = some (.int (za)) ∧ h' = h) := by
  refine con_of2 (L := [some (.int za), some (.int zb), some (.null)]) rfl (Nat.le_of_ble_eq_true rfl) rfl ?_
  refine ev_iload_n (pc := 0) dJ3_checkIndex_8e157_0 rfl ?_
  refine ev_if_lt (pc := 1) (tgt := 9) dJ3_checkIndex_8e157_1 (by decide) (fun zc1 => absurd zc1 h0) (fun zc1 => ?_)
  refine ev_iload_n (pc := 4) dJ3_checkIndex_8e157_4 rfl ?_
  refine ev_iload_n (pc := 5) dJ3_checkIndex_8e157_5 rfl ?_
  refine ev_icmp_lt (pc := 6) (tgt := 16) dJ3_checkIndex_8e157_6 (by decide) (fun zc6 => ?_) (fun zc6 => absurd h1 zc6)
  refine ev_iload_n (pc := 16) dJ3_checkIndex_8e157_16 rfl ?_
  refine ev_iret (pc := 17) dJ3_checkIndex_8e157_17 rfl ?_ ?_
  · rfl
  · exact ⟨rfl, rfl⟩
theorem cn_J3 (E : ME) (h : AH) (za zb : Int32) (zv : Value) (hv : zv = .null ∨ zv = .ref 3000) (h0 : ¬ za < 0) (h1 : za < zb) : Con E mJ3_checkIndex_8e157 0 0 0 [.int za, .int zb, zv] h (fun r h' => r = some (.int za) ∧ h' = h) := by
  rcases hv with rfl | rfl
  · exact cn_J3_n E h za zb h0 h1
  · exact cn_J3_r E h za zb h0 h1
theorem cn_J0_checkIndex (E : ME) (h : AH) (za zb : Int32) (hX : XOK E) (h0 : ¬ za < 0) (h1 : za < zb) : Con E mJ0_checkIndex_df160 1 0 0 [.int za, .int zb] h (fun r h' => r = none ∧ h' = h) := by
  refine con_of2 (L := [some (.int za), some (.int zb)]) rfl (Nat.le_of_ble_eq_true rfl) rfl ?_
  refine ev_iload_n (pc := 0) dJ0_checkIndex_df160_0 rfl ?_
  refine ev_iload_n (pc := 1) dJ0_checkIndex_df160_1 rfl ?_
  refine ev_getsF (pc := 2) hX rfl dJ0_checkIndex_df160_2 (fun zv hv => ?_)
  refine ev_callSv (pc := 5) (S := []) dJ0_checkIndex_df160_5 kJ3_checkIndex_8e157 lJ0_1059 sJ3_checkIndex_8e157 (cn_J3 E h za zb zv hv h0 h1) rfl rfl (Nat.le_of_ble_eq_true rfl) ⟨Nat.le_of_ble_eq_true rfl, Nat.le_of_ble_eq_true rfl⟩ ⟨Nat.le_of_ble_eq_true rfl, Nat.le_of_ble_eq_true rfl⟩ ?_
  refine ev_pop (pc := 8) dJ0_checkIndex_df160_8 rfl ?_
  exact ev_ret (pc := 9) dJ0_checkIndex_df160_9 rfl ⟨rfl, rfl⟩
theorem cn_J0_coder_7d493 (E : ME) (h : AH)  (zi : Nat) (hX : XOK E) (hi : zi < 6) : Con E mJ0_coder_7d493 0 0 0 [.ref (1000 + zi)] h (fun r h' => r = some (.int (0)) ∧ h' = h) := by
  refine con_of2 (L := [some (.ref ((1000 + zi)))]) rfl (Nat.le_of_ble_eq_true rfl) rfl ?_
  refine ev_getsC (pc := 0) hX rfl dJ0_coder_7d493_0 ?_
  refine ev_if_eq (pc := 3) (tgt := 13) dJ0_coder_7d493_3 (by decide) (fun zc3 => absurd zc3 (by decide)) (fun zc3 => ?_)
  refine ev_aload_n (pc := 6) dJ0_coder_7d493_6 rfl ?_
  refine ev_getSC (pc := 7) hX hi rfl dJ0_coder_7d493_7 ?_
  refine ev_goto (pc := 10) (tgt := 14) dJ0_coder_7d493_10 (by decide) ?_
  refine ev_iret (pc := 14) dJ0_coder_7d493_14 rfl ?_ ?_
  · rfl
  · exact ⟨rfl, rfl⟩
theorem cn_J0_isLatin1_aae02 (E : ME) (h : AH)  (zi : Nat) (hX : XOK E) (hi : zi < 6) : Con E mJ0_isLatin1_aae02 0 0 0 [.ref (1000 + zi)] h (fun r h' => r = some (.int (1)) ∧ h' = h) := by
  refine con_of2 (L := [some (.ref ((1000 + zi)))]) rfl (Nat.le_of_ble_eq_true rfl) rfl ?_
  refine ev_getsC (pc := 0) hX rfl dJ0_isLatin1_aae02_0 ?_
  refine ev_if_eq (pc := 3) (tgt := 17) dJ0_isLatin1_aae02_3 (by decide) (fun zc3 => absurd zc3 (by decide)) (fun zc3 => ?_)
  refine ev_aload_n (pc := 6) dJ0_isLatin1_aae02_6 rfl ?_
  refine ev_getSC (pc := 7) hX hi rfl dJ0_isLatin1_aae02_7 ?_
  refine ev_if_ne (pc := 10) (tgt := 17) dJ0_isLatin1_aae02_10 (by decide) (fun zc10 => absurd rfl zc10) (fun zc10 => ?_)
  refine ev_iconst (pc := 13) (v := 1) dJ0_isLatin1_aae02_13 (by decide) ?_
  refine ev_goto (pc := 14) (tgt := 18) dJ0_isLatin1_aae02_14 (by decide) ?_
  refine ev_iret (pc := 18) dJ0_isLatin1_aae02_18 rfl ?_ ?_
  · first | rfl | exact nar_bI _ | (simp only [*]; exact nar_bI _) | (simp [narrow, *]; done)
  · exact ⟨rfl, rfl⟩
theorem wdN_s : ∀ zi, zi < 6 → wdN.getD zi 0 < 7 ∧ nI (wdN.getD zi 0) >>> ((0 : Int32) &&& 31) = nI (wdN.getD zi 0) := by decide +kernel
theorem cn_J0_length_8abf5 (E : ME) (h : AH)  (zi : Nat) (hX : XOK E) (hi : zi < 6) : Con E mJ0_length_8abf5 1 0 0 [.ref (1000 + zi)] h (fun r h' => r = some (.int (nI (wdN.getD zi 0))) ∧ h' = h) := by
  refine con_of2 (L := [some (.ref ((1000 + zi)))]) rfl (Nat.le_of_ble_eq_true rfl) rfl ?_
  refine ev_aload_n (pc := 0) dJ0_length_8abf5_0 rfl ?_
  refine ev_getSV (pc := 1) hX hi rfl dJ0_length_8abf5_1 ?_
  refine ev_alenS (pc := 4) hX hi dJ0_length_8abf5_4 ?_
  refine ev_aload_n (pc := 5) dJ0_length_8abf5_5 rfl ?_
  refine ev_callS_out (pc := 6) (S := [.int (nI (wdN.getD zi 0))]) hX hi rfl dJ0_length_8abf5_6 kJ0_coder_7d493 (tw2 139 rfl (by decide +kernel)) vJ0_coder_7d493 (cn_J0_coder_7d493 E h zi hX hi) rfl rfl (Nat.le_of_ble_eq_true rfl) ⟨Nat.le_of_ble_eq_true rfl, Nat.le_of_ble_eq_true rfl⟩ ⟨Nat.le_of_ble_eq_true rfl, Nat.le_of_ble_eq_true rfl⟩ ?_
  refine ev_ishr (pc := 9) dJ0_length_8abf5_9 ?_
  refine ev_iret (pc := 10) dJ0_length_8abf5_10 rfl ?_ ?_
  · rfl
  · exact ⟨by rw [(wdN_s zi hi).2], rfl⟩
def chS (zi zk : Nat) : Int32 := (wdS.getD zi []).getD zk 0 &&& 255
theorem cn_J1_charAt_3b067 (E : ME) (h : AH) (zk : Nat) (zi : Nat) (hX : XOK E) (hi : zi < 6) (hk : zk < wdN.getD zi 0) : Con E mJ1_charAt_3b067 2 0 0 [.ref (2000 + zi), .int (nI zk)] h (fun r h' => r = some (.int (chS zi zk)) ∧ h' = h) := by
  refine con_of2 (L := [some (.ref ((2000 + zi))), some (.int (nI zk))]) rfl (Nat.le_of_ble_eq_true rfl) rfl ?_
  have hn := (wdN_s zi hi).1
  refine ev_iload_n (pc := 0) dJ1_charAt_3b067_0 rfl ?_
  refine ev_aload_n (pc := 1) dJ1_charAt_3b067_1 rfl ?_
  refine ev_alenS (pc := 2) hX hi dJ1_charAt_3b067_2 ?_
  refine ev_callS0 (S := []) (pc := 3) dJ1_charAt_3b067_3 kJ0_checkIndex_df160 lJ1_9 sJ0_checkIndex_df160 (cn_J0_checkIndex E h (nI zk) (nI (wdN.getD zi 0)) hX (nI_pos (by omega)) (nI_lt hk (by omega))) rfl rfl (Nat.le_of_ble_eq_true rfl) ⟨Nat.le_of_ble_eq_true rfl, Nat.le_of_ble_eq_true rfl⟩ ⟨Nat.le_of_ble_eq_true rfl, Nat.le_of_ble_eq_true rfl⟩ ?_
  refine ev_aload_n (pc := 6) dJ1_charAt_3b067_6 rfl ?_
  refine ev_iload_n (pc := 7) dJ1_charAt_3b067_7 rfl ?_
  refine ev_baldS (pc := 8) hX hi hk (by omega) dJ1_charAt_3b067_8 ?_
  refine ev_sipush (pc := 9) (v := 255) dJ1_charAt_3b067_9 (by decide) ?_
  refine ev_iand (pc := 12) dJ1_charAt_3b067_12 ?_
  refine ev_i2c (pc := 13) dJ1_charAt_3b067_13 ?_
  refine ev_eqI (e' := chS zi zk) (sc_c2 _) ?_
  refine ev_iret (pc := 14) dJ1_charAt_3b067_14 rfl ?_ ?_
  · exact sc_nar _
  · exact ⟨rfl, rfl⟩
theorem cn_J0_charAt_5068e (E : ME) (h : AH) (zk : Nat) (zi : Nat) (hX : XOK E) (hi : zi < 6) (hk : zk < wdN.getD zi 0) : Con E mJ0_charAt_5068e 3 0 0 [.ref (1000 + zi), .int (nI zk)] h (fun r h' => r = some (.int (chS zi zk)) ∧ h' = h) := by
  refine con_of2 (L := [some (.ref ((1000 + zi))), some (.int (nI zk))]) rfl (Nat.le_of_ble_eq_true rfl) rfl ?_
  refine ev_aload_n (pc := 0) dJ0_charAt_5068e_0 rfl ?_
  refine ev_callS_out (pc := 1) (S := []) hX hi rfl dJ0_charAt_5068e_1 kJ0_isLatin1_aae02 (tw2 153 rfl (by decide +kernel)) vJ0_isLatin1_aae02 (cn_J0_isLatin1_aae02 E h zi hX hi) rfl rfl (Nat.le_of_ble_eq_true rfl) ⟨Nat.le_of_ble_eq_true rfl, Nat.le_of_ble_eq_true rfl⟩ ⟨Nat.le_of_ble_eq_true rfl, Nat.le_of_ble_eq_true rfl⟩ ?_
  refine ev_if_eq (pc := 4) (tgt := 16) dJ0_charAt_5068e_4 (by decide) (fun zc4 => absurd zc4 (by decide)) (fun zc4 => ?_)
  refine ev_aload_n (pc := 7) dJ0_charAt_5068e_7 rfl ?_
  refine ev_getSV (pc := 8) hX hi rfl dJ0_charAt_5068e_8 ?_
  refine ev_iload_n (pc := 11) dJ0_charAt_5068e_11 rfl ?_
  refine ev_callSv (S := []) (pc := 12) dJ0_charAt_5068e_12 kJ1_charAt_3b067 lJ0_495 sJ1_charAt_3b067 (cn_J1_charAt_3b067 E h zk zi hX hi hk) rfl rfl (Nat.le_of_ble_eq_true rfl) ⟨Nat.le_of_ble_eq_true rfl, Nat.le_of_ble_eq_true rfl⟩ ⟨Nat.le_of_ble_eq_true rfl, Nat.le_of_ble_eq_true rfl⟩ ?_
  refine ev_iret (pc := 15) dJ0_charAt_5068e_15 rfl ?_ ?_
  · exact sc_nar _
  · exact ⟨rfl, rfl⟩
