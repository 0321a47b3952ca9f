def MK (M : MM) (n : Nat) : Prop := Cond.code M.1 M.2.1 M.2.2.1 M.2.2.2 ∈ tw ∧ Cond.initialized M.1.cls ∈ tw ∧ M.1.cls ≠ "java/lang/invoke/MethodHandle" ∧ M.1.cls ≠ "java/lang/invoke/VarHandle" ∧ (parseMethodDescriptor M.1.desc).map (fun d => d.parameters.length) = some n
def ML (own : String) (idx : Nat) (M : MM) : Prop := Cond.methodLink own idx M.1 ∈ tw ∨ ∃ host, Cond.methodLinkNest own idx M.1 host ∈ nests
theorem mk_ws {M : MM} {n : Nat} {args : Array Value} {s : State} (hts : ∀ w ∈ tw, w.before args s = true) (h : MK M n) : ∀ w ∈ Cond.code M.1 M.2.1 M.2.2.1 M.2.2.2 :: tw, ∀ (a' : Array Value) (U : State), s.WarmedH U.vm → w.before a' U = true := by
  intro w hw a' U hW
  have h1 : w ∈ tw := (List.mem_cons.mp hw).elim (fun e => e ▸ h.1) id
  exact word_at hW (tw_good h1) (hts w h1)
theorem mk_len {M : MM} {n : Nat} (h : MK M n) : ∀ sig, parseMethodDescriptor M.1.desc = some sig → n = sig.parameters.length := by
  intro sig hs
  have h2 := h.2.2.2.2
  rw [hs] at h2
  exact (Option.some.inj h2).symm
theorem pre_blind {E : ME} {h : AH} {av : List Value} : FrameBlind (va_Pc av (Pre E h)) := by
  intro a U g mk q
  obtain ⟨q0, q1, q2, q3, q4, q5⟩ := q
  exact ⟨q0, q1, va_K.moved (u := U) (U := U.calling g mk a) (Vm.Alike.refl U.vm) q2, nest_same (u := U) (U := U.calling g mk a) rfl q3, q4, q4.2.1 U (U.calling g mk a) _ rfl q5⟩
section EVC
variable {E : ME} {M : MM} {R : Room} {QX : List Frame → Array Value → State → State → Prop} {x y pc : Nat} {L : List (Option Value)} {S : List Value} {h : AH}
theorem gm_pre {p : Program} {s : State} {m : MethodId} {args : Array Value} {meth : Method} {c : Code} {H : Heap} {locs : List Loc} (G : Gm E M p s m args meth c) (hR : Rp E h H) (hS : va_S (fun q => eB E ≤ q) s.heap H locs) (U : State) (hU : U.heap = H) (hW : s.WarmedH U.vm) : Pre E h U := by
  obtain ⟨-, -, -, -, -, hK, hN, -, -, -, hE, hB, hX⟩ := G
  subst hU
  exact ⟨hR, va_K.moved hW.alike hK, nest_warm hW hN, hE, hE.1 s U _ hW (hE.2.2 s s.heap _ (fun a h1 h2 => hS.2.1 a h1 (Nat.not_le.mpr h2)) hX)⟩
theorem ev_after {p : Program} {e : Env} {s : State} {m : MethodId} {args : Array Value} {below : List Frame} {meth : Method} {c : Code} {H : Heap} {locs : List Loc} {ls : Array Slot} {st0 : List Value} {a : Array Value} {mc ms : Nat} {Q : PO} (G : Gm E M p s m args meth c) (hS : va_S (fun q => eB E ≤ q) s.heap H locs) (hl : lk E ls M.2.2.1 L)
    (hr : va_Run p E.1 e R s m args below meth c H locs x y mc ms (F0 m pc ls st0) (S.map (cv E)) (QQ E Q a) (fun q => eB E ≤ q))
    (K : ∀ v h', Q v h' → Ev E M R QX (x + mc) (y + ms) (pc + 3) L (v.toList ++ S) h') : W p E.1 e R s m args below meth c H locs x y (QX below args s) (F0 m pc ls st0) := by
  intro T hT X
  obtain ⟨v, st₀, t, T', Lc, h0, X', hL, e1, e2, ⟨v', h', hv, hq, hRp, hz, hk⟩, st⟩ := hr T hT X
  have hv2 : v = v'.map (cv E) := by injection hv
  subst hv2
  rw [h0] at hz hk
  have hS1 : va_S (fun q => eB E ≤ q) s.heap T'.heap (locs ++ Lc) := ⟨Nat.le_trans hS.1 (by rw [e1]; exact hz), fun q h1 h2 => by rw [e1, hk q (Nat.lt_of_lt_of_le h1 hS.1) h2]; exact hS.2.1 q h1 h2, fun q hq => by
      rcases List.mem_append.mp hq with h | h
      · exact hS.2.2 q h
      · exact hL q h⟩
  obtain ⟨t2, a1, b1⟩ := K v' h' hq p e s m args below meth c G T'.heap (locs ++ Lc) ls (by rw [e1]; exact hRp) hS1 hl T' rfl X'
  refine ⟨t2, st t2 ?_, b1⟩
  have he : (v'.map (cv E)).toList ++ S.map (cv E) = (v'.toList ++ S).map (cv E) := by cases v' <;> simp
  dsimp only
  rw [he]
  exact a1
theorem st_room {p : Program} {m : MethodId} {ls : Array Slot} {st : List Value} (hW : (S.map Value.category).sum ≤ 8) : 2 * (F0 m pc ls st).monitorRoom + ((S.map (cv E)).map fun v => v.category).sum ≤ 8 := by
  refine lv_room ?_
  have : (S.map (cv E)).map (fun v => v.category) = S.map Value.category := by simp [List.map_map, Function.comp_def, cv_cat]
  rw [this]
  exact hW
theorem ev_callS {M2 : MM} {idx n d2 mc2 ms2 : Nat} {as T : List Value} {Q : PO} (hd : decode M.2.1 pc = .ok (.invokestatic idx, 3)) (hM2 : MK M2 n) (hL2 : ML M.1.cls idx M2) (hst : Cond.static M2.1 ∈ tw) (hc : Con E M2 d2 mc2 ms2 as h Q) (hT : T = as.reverse ++ S) (hn : as.length = n) (hW : (S.map Value.category).sum ≤ 8) (hRm : d2 + 1 ≤ R.frames ∧ 8 + (M2.2.2.1 + 11) + 43 * d2 ≤ R.locals) (hf : x + mc2 ≤ R.cells ∧ y + ms2 ≤ R.slots) (K : ∀ v h', Q v h' → Ev E M R QX (x + mc2) (y + ms2) (pc + 3) L (v.toList ++ S) h') : Ev E M R QX x y pc L T h := by
  intro p e s m args below meth c G H locs ls hR hS hl
  subst hT
  obtain ⟨hx, hb, hml, hown, hts, -, hN, -⟩ := id G
  refine ev_after (a := (as.map (cv E)).toArray) G hS hl ?_ K
  have hp : PreS s H (va_Pc (as.map (cv E)) (Pre E h)) (as.map (cv E)) := ⟨pre_blind, fun U hU hW => ⟨rfl, gm_pre G hR hS U hU hW⟩⟩
  rcases hL2 with hw | ⟨host, hw⟩
  · exact va_runS (Ts := tw) (bytes := M2.2.1) (maxL := M2.2.2.1) (ret := M2.2.2.2) (n := n) ⟨hx, hb, hml, hown, hts⟩ hc ⟨⟨rfl, rfl, hRm.1, hRm.2, mk_ws hts hM2, List.mem_cons_self, hts _ hM2.1, hts _ hM2.2.1, ⟨hM2.2.2.1, hM2.2.2.2.1⟩, mk_len hM2, hts _ hw⟩, hts _ hst⟩ hp rfl (by rw [List.length_map]; exact hn) hl.1 (by simp) (st_room (p := p) hW) hd hf
  · exact va_runSN (Ts := tw) (bytes := M2.2.1) (maxL := M2.2.2.1) (ret := M2.2.2.2) (n := n) ⟨hx, hb, hml, hown, hts⟩ hc ⟨⟨⟨rfl, rfl, hRm.1, hRm.2, mk_ws hts hM2, List.mem_cons_self⟩, hts _ hM2.1, hts _ hM2.2.1, ⟨hM2.2.2.1, hM2.2.2.2.1⟩, mk_len hM2, va_Nw.use rfl (hN _ hw)⟩, hts _ hst, trivial⟩ hp rfl (by rw [List.length_map]; exact hn) hl.1 (by simp) (st_room (p := p) hW) hd hf
theorem ev_callV {M2 : MM} {idx n d2 mc2 ms2 k ci : Nat} {as T : List Value} {Q : PO} (hd : decode M.2.1 pc = .ok (.invokevirtual idx, 3)) (hM2 : MK M2 n) (hL2 : ML M.1.cls idx M2) (hst : Cond.instanceMethod M2.1 ∈ tw ∧ Cond.selects M2.1.cls M2.1 M2.1 ∈ tw) (hc : Con E M2 d2 mc2 ms2 (.ref k :: as) h Q) (hs : shp k = (0, ci)) (hci : classes[ci]?.map (fun r => r.1) = some M2.1.cls) (hk : k < h.1) (hT : T = as.reverse ++ .ref k :: S) (hn : as.length = n) (hW : (S.map Value.category).sum ≤ 8) (hRm : d2 + 1 ≤ R.frames ∧ 8 + (M2.2.2.1 + 11) + 43 * d2 ≤ R.locals) (hf : x + mc2 ≤ R.cells ∧ y + ms2 ≤ R.slots) (K : ∀ v h', Q v h' → Ev E M R QX (x + mc2) (y + ms2) (pc + 3) L (v.toList ++ S) h') : Ev E M R QX x y pc L T h := by
  intro p e s m args below meth c G H locs ls hR hS hl
  subst hT
  obtain ⟨hx, hb, hml, hown, hts, hK, hN, -⟩ := id G
  have hcv : cv E (.ref k) = .ref (adr E k) := rfl
  refine ev_after (a := (Value.ref (adr E k) :: as.map (cv E)).toArray) G hS hl ?_ K
  have hcell : ∃ cell : Cell, H[adr E k]? = some cell ∧ cell.vm.isStatics = false ∧ s.vm.findClass M2.1.cls = some cell.cls := by
    cases hcl : classes[ci]? with
    | none => rw [hcl] at hci; cases hci
    | some r =>
      rw [hcl] at hci
      have hr : r.1 = M2.1.cls := Option.some.inj hci
      rw [← hr]
      exact va_recv hK hR.1 hcl (q0 := k) (a := adr E k) (fs := fvs E h k 0 (ftys ci)) (by rw [wd_get hk, cE_o hs])
  have hp : PreV s H M2.1.cls (adr E k) (va_Pc ((Value.ref k :: as).map (cv E)) (Pre E h)) (as.map (cv E)) := ⟨pre_blind, hcell, fun U hU hW => ⟨rfl, gm_pre G hR hS U hU hW⟩⟩
  rcases hL2 with hw | ⟨host, hw⟩
  · exact va_runV (Ts := tw) (bytes := M2.2.1) (maxL := M2.2.2.1) (ret := M2.2.2.2) (n := n) ⟨hx, hb, hml, hown, hts⟩ hc ⟨⟨rfl, rfl, hRm.1, hRm.2, mk_ws hts hM2, List.mem_cons_self, hts _ hM2.1, hts _ hM2.2.1, ⟨hM2.2.2.1, hM2.2.2.2.1⟩, mk_len hM2, hts _ hw⟩, hts _ hst.1, hts _ hst.2⟩ hp rfl (by rw [List.length_map]; exact hn) hl.1 (by simp [hcv]) (st_room (p := p) hW) hd hf
  · exact va_runVN (Ts := tw) (bytes := M2.2.1) (maxL := M2.2.2.1) (ret := M2.2.2.2) (n := n) ⟨hx, hb, hml, hown, hts⟩ hc ⟨⟨⟨rfl, rfl, hRm.1, hRm.2, mk_ws hts hM2, List.mem_cons_self⟩, hts _ hM2.1, hts _ hM2.2.1, ⟨hM2.2.2.1, hM2.2.2.2.1⟩, mk_len hM2, va_Nw.use rfl (hN _ hw)⟩, hts _ hst.1, hts _ hst.2⟩ hp rfl (by rw [List.length_map]; exact hn) hl.1 (by simp [hcv]) (st_room (p := p) hW) hd hf
theorem ev_callI {M2 : MM} {idx n d2 mc2 ms2 k : Nat} {as T : List Value} {Q : PO} (hd : decode M.2.1 pc = .ok (.invokespecial idx, 3)) (hM2 : MK M2 n) (hL2 : ML M.1.cls idx M2) (hst : Cond.instanceMethod M2.1 ∈ tw ∧ M2.1.name = "<init>" ∧ M2.2.2.2 = none) (hc : Con E M2 d2 mc2 ms2 (.ref k :: as) h Q) (hT : T = as.reverse ++ .ref k :: S) (hn : as.length = n) (hW : (S.map Value.category).sum ≤ 8) (hRm : d2 + 1 ≤ R.frames ∧ 8 + (M2.2.2.1 + 11) + 43 * d2 ≤ R.locals) (hf : x + mc2 ≤ R.cells ∧ y + ms2 ≤ R.slots) (K : ∀ v h', Q v h' → Ev E M R QX (x + mc2) (y + ms2) (pc + 3) L (v.toList ++ S) h') : Ev E M R QX x y pc L T h := by
  intro p e s m args below meth c G H locs ls hR hS hl
  subst hT
  obtain ⟨y2, b2, n2, r2⟩ := M2
  obtain ⟨hst1, hst2, hst3⟩ := hst
  dsimp only at hst3
  subst hst3
  obtain ⟨hx, hb, hml, hown, hts, hK, hN, -⟩ := id G
  have hcv : cv E (.ref k) = .ref (adr E k) := rfl
  refine ev_after (a := (Value.ref (adr E k) :: as.map (cv E)).toArray) G hS hl ?_ K
  have hp : PreS s H (va_Pc ((Value.ref k :: as).map (cv E)) (Pre E h)) (.ref (adr E k) :: as.map (cv E)) := ⟨pre_blind, fun U hU hW => ⟨rfl, gm_pre G hR hS U hU hW⟩⟩
  rcases hL2 with hw | ⟨host, hw⟩
  · exact va_runI (Ts := tw) (bytes := b2) (maxL := n2) (n := n) ⟨hx, hb, hml, hown, hts⟩ hc ⟨⟨rfl, rfl, hRm.1, hRm.2, mk_ws hts hM2, List.mem_cons_self, hts _ hM2.1, hts _ hM2.2.1, ⟨hM2.2.2.1, hM2.2.2.2.1⟩, mk_len hM2, hts _ hw⟩, hst2, hts _ hst1⟩ hp rfl (by rw [List.length_map]; exact hn) hl.1 (by simp [hcv]) (st_room (p := p) hW) hd hf
  · exact va_runIN (Ts := tw) (bytes := b2) (maxL := n2) (n := n) ⟨hx, hb, hml, hown, hts⟩ hc ⟨⟨⟨rfl, rfl, hRm.1, hRm.2, mk_ws hts hM2, List.mem_cons_self⟩, hts _ hM2.1, hts _ hM2.2.1, ⟨hM2.2.2.1, hM2.2.2.2.1⟩, mk_len hM2, va_Nw.use rfl (hN _ hw)⟩, hst2, hts _ hst1⟩ hp rfl (by rw [List.length_map]; exact hn) hl.1 (by simp [hcv]) (st_room (p := p) hW) hd hf
theorem ev_iret {mc ms : Nat} {post : PO} {v : Int32} {ty : FieldType} (hd : decode M.2.1 pc = .ok (.ireturn, 1)) (hr : M.2.2.2 = some ty) (hn : narrow ty (.int v) = .int v) (hp : post (some (.int v)) h) : Ev E M R (QM E mc ms post) mc ms pc L [.int v] h := by
  intro p e s m args below meth c G H locs ls hR hS hl
  have hlocks : meth.locks = false := G.2.2.2.2.2.2.2.1
  exact W.zret G.1 G.2.1 (G.2.2.2.2.2.2.2.2.1.trans hr) hn (fun t ht hW => ⟨some (.int v), h, rfl, hp, by rw [ht]; exact hR, hS.F ht⟩) (fun q hq => hS.2.2 q hq) hd hlocks
theorem ev_lret {mc ms : Nat} {post : PO} {v : Int64} (hd : decode M.2.1 pc = .ok (.lreturn, 1)) (hr : M.2.2.2 = some .long) (hp : post (some (.long v)) h) : Ev E M R (QM E mc ms post) mc ms pc L [.long v] h := by
  intro p e s m args below meth c G H locs ls hR hS hl
  have hlocks : meth.locks = false := G.2.2.2.2.2.2.2.1
  exact W.lret G.1 G.2.1 (G.2.2.2.2.2.2.2.2.1.trans hr) (fun t ht hW => ⟨some (.long v), h, rfl, hp, by rw [ht]; exact hR, hS.F ht⟩) (fun q hq => hS.2.2 q hq) hd hlocks
theorem ev_ret {mc ms : Nat} {post : PO} (hd : decode M.2.1 pc = .ok (.return_, 1)) (hr : M.2.2.2 = none) (hp : post none h) : Ev E M R (QM E mc ms post) mc ms pc L [] h := by
  intro p e s m args below meth c G H locs ls hR hS hl
  have hlocks : meth.locks = false := G.2.2.2.2.2.2.2.1
  exact W.vret G.1 G.2.1 (G.2.2.2.2.2.2.2.2.1.trans hr) (fun t ht hW => ⟨none, h, rfl, hp, by rw [ht]; exact hR, hS.F ht⟩) (fun q hq => hS.2.2 q hq) hd hlocks
theorem ev_objInit {idx k : Nat} (hd : decode M.2.1 pc = .ok (.invokespecial idx, 3)) (hw : Cond.methodLink M.1.cls idx objectInit ∈ tw) (hw2 : Cond.instanceMethod objectInit ∈ tw) (hw3 : Cond.code objectInit ⟨#[0xb1]⟩ 1 none ∈ tw) (hW : (S.map Value.category).sum ≤ 8) (hf : 1 ≤ R.frames) (hlo : 20 ≤ R.locals) (K : Ev E M R QX x y (pc + 3) L S h) : Ev E M R QX x y pc L (.ref k :: S) h := by
  intro p e s m args below meth c G H locs ls hR hS hl
  obtain ⟨hx, hb, hml, hown, hts, hK, hN, -⟩ := id G
  refine W.objInit hx hb hown (hts _ hw) (hts _ hw2) (hts _ hw3) rfl (hl.1.trans hml.symm) rfl hd hf ?_ (K p e s m args below meth c G H locs ls hR hS hl)
  have := st_room (E := E) (S := S) (p := p) (m := m) (pc := pc) (ls := ls) (st := (Value.ref k :: S).map (cv E)) hW
  omega
theorem Rp_push {h' : AH} {H H1 : Heap} (hR : Rp E h H) (h1 : h'.1 = h.1 + 1) (hn : h.1 < 900) (ho : ∀ j, j ≠ h.1 → cE E h' j = cE E h j) (ha : va_at E.2.1 classes (adr E h.1, cE E h' h.1) H1) (z : H1.size = H.size + 1) (oq : ∀ q : Nat, q < H.size → H1[q]? = H[q]?) : Rp E h' H1 := by
  refine ⟨?_, by rw [z, hR.2.1, h1]; omega, by omega⟩
  rw [← wd_push (h := h) rfl h1 rfl ho]
  refine va_P.app (hR.1.kept (fun k q hk => oq q.1 ((hR.1 k q hk).lt))) (fun k q hk => ?_)
  have hz : k < 1 := (List.getElem?_eq_some_iff.mp hk).1
  rw [show k = 0 by omega] at hk
  cases hk
  exact ha
theorem va_S_push {H0 H H1 : Heap} {locs : List Loc} {A : Nat → Prop} (hS : va_S A H0 H locs) (z : H1.size = H.size + 1) (oq : ∀ q : Nat, q < H.size → H1[q]? = H[q]?) : va_S A H0 H1 locs :=
  ⟨Nat.le_trans hS.1 (by omega), fun q h1 h2 => (oq q (Nat.lt_of_lt_of_le h1 hS.1)).trans (hS.2.1 q h1 h2), hS.2.2⟩
theorem ev_new {idx ci N : Nat} {r : vw_C} (hd : decode M.2.1 pc = .ok (.new idx, 3)) (hc : classes[ci]? = some r) (hN : r.2.2 = N) (hw : Cond.classLink M.1.cls idx r.1 ∈ tw) (hs : shp h.1 = (0, ci)) (hn : h.1 < 900) (hf : x + 1 ≤ R.cells ∧ y + N ≤ R.slots) (K : Ev E M R QX (x + 1) (y + N) (pc + 3) L (.ref h.1 :: S) (nw h)) : Ev E M R QX x y pc L S h := by
  intro p e s m args below meth c G H locs ls hR hS hl
  obtain ⟨hx, hb, hml, hown, hts, hK, hN2, -⟩ := id G
  obtain ⟨C, T, N0⟩ := r
  obtain ⟨hin, ⟨ty0, hty, hlen, hdf⟩, hnm, hi1, hi2⟩ := clsK ci _ hc
  dsimp only at hN hw hin hty hlen hdf hi1 hi2
  subst hN
  have hKn := hK.1 ci _ hc
  refine W.newcK hx hb hown (hts _ hw) (hts _ hi1) (hts _ hi2) rfl hd hf.1 hf.2 hKn.2.1 hR.2.1 fun H1 kC hkC e1 z1 o1 => ?_
  have z1' : H1.size = H.size + 1 := by rw [z1, hR.2.1]
  have o1' : ∀ q : Nat, q < H.size → H1[q]? = H[q]? := fun q hq => o1 q (by rw [← hR.2.1]; exact hq)
  have hadr : adr E h.1 = eB E + h.1 := adr_lt (by omega)
  have hgoal := K p e s m args below meth c G H1 locs ls (Rp_push hR rfl hn (fun j hj => cE_nw hj) ?_ z1' o1') (va_S_push hS z1' o1') hl
  · have e9 : (Value.ref h.1 :: S).map (cv E) = .ref (eB E + h.1) :: S.map (cv E) := by
      show Value.ref (adr E h.1) :: _ = _
      rw [hadr]
    rw [e9] at hgoal
    exact hgoal
  · rw [cE_o hs]
    refine ⟨_, hc, ?_⟩
    rw [hadr]
    refine (u_born ty0 hts hin hKn hkC e1 hty).to (fun j hj => ?_)
    have hj2 : j < (ftys ci).length := by rw [hlen]; exact hj
    have h9 := fvs_get (E := E) (h := nw h) (k := h.1) (ftys ci) 0 j (List.getElem?_eq_getElem hj2)
    rw [fv_dfl (by simp [nw]) (by simp [nw]) (by simp [nw])] at h9
    rw [hdf j hj]
    show dfl ((ftys ci).getD j 0) = (fvs E (nw h) h.1 0 (ftys ci)).getD j .null
    rw [List.getD_eq_getElem?_getD, List.getD_eq_getElem?_getD, h9]
    simp [hj2]

theorem ev_newa_i {n : Int32} {N : Nat} (hd : decode M.2.1 pc = .ok (.newarray .int, 2)) (hw : Cond.arrayClass .int ∈ tw) (hs : shp h.1 = (1, N)) (hn0 : ¬ n < 0) (hN : n.toNatClampNeg = N) (hN2 : N ≤ 60000) (hn : h.1 < 900) (hf : x + 1 ≤ R.cells ∧ y + N ≤ R.slots) (K : Ev E M R QX (x + 1) (y + N) (pc + 2) L (.ref h.1 :: S) (nw h)) : Ev E M R QX x y pc L (.int n :: S) h := by
  intro p e s m args below meth c G H locs ls hR hS hl
  obtain ⟨hx, hb, hml, hown, hts, hK, hN3, -⟩ := id G
  refine va_newaK (atype := .int) (N := N) hx hb (hts _ hw) rfl hd rfl hn0 hN (by show N * 4 ≤ 536870912; omega) hf.1 hf.2 hR.2.1 fun H1 cA e1 z1 o1 hAr hNm => ?_
  have z1' : H1.size = H.size + 1 := by rw [z1, hR.2.1]
  have o1' : ∀ q : Nat, q < H.size → H1[q]? = H[q]? := fun q hq => o1 q (by rw [← hR.2.1]; exact hq)
  have hadr : adr E h.1 = eB E + h.1 := adr_lt (by omega)
  have hcA : cA = E.2.2.2.2.1 0 := by
    have h1 := (hK.2 0 _ rfl).2
    exact Option.some.inj (hNm.symm.trans h1)
  have hgoal := K p e s m args below meth c G H1 locs ls (Rp_push hR rfl hn (fun j hj => cE_nw hj) ?_ z1' o1') (va_S_push hS z1' o1') hl
  · have e9 : (Value.ref h.1 :: S).map (cv E) = .ref (eB E + h.1) :: S.map (cv E) := by
      show Value.ref (adr E h.1) :: _ = _
      rw [hadr]
    rw [e9] at hgoal
    exact hgoal
  · rw [cE_i hs]
    show H1[adr E h.1]? = some (vp_cell _ _)
    rw [hadr, e1, hcA]
    simp only [nw, if_pos]
    rfl
theorem ev_newa_l {n : Int32} {N : Nat} (hd : decode M.2.1 pc = .ok (.newarray .long, 2)) (hw : Cond.arrayClass .long ∈ tw) (hs : shp h.1 = (2, N)) (hn0 : ¬ n < 0) (hN : n.toNatClampNeg = N) (hN2 : N ≤ 60000) (hn : h.1 < 900) (hf : x + 1 ≤ R.cells ∧ y + N ≤ R.slots) (K : Ev E M R QX (x + 1) (y + N) (pc + 2) L (.ref h.1 :: S) (nw h)) : Ev E M R QX x y pc L (.int n :: S) h := by
  intro p e s m args below meth c G H locs ls hR hS hl
  obtain ⟨hx, hb, hml, hown, hts, hK, hN3, -⟩ := id G
  refine va_newaK (atype := .long) (N := N) hx hb (hts _ hw) rfl hd rfl hn0 hN (by show N * 8 ≤ 536870912; omega) hf.1 hf.2 hR.2.1 fun H1 cA e1 z1 o1 hAr hNm => ?_
  have z1' : H1.size = H.size + 1 := by rw [z1, hR.2.1]
  have o1' : ∀ q : Nat, q < H.size → H1[q]? = H[q]? := fun q hq => o1 q (by rw [← hR.2.1]; exact hq)
  have hadr : adr E h.1 = eB E + h.1 := adr_lt (by omega)
  have hcA : cA = E.2.2.2.2.1 1 := by
    have h1 := (hK.2 1 _ rfl).2
    exact Option.some.inj (hNm.symm.trans h1)
  have hgoal := K p e s m args below meth c G H1 locs ls (Rp_push hR rfl hn (fun j hj => cE_nw hj) ?_ z1' o1') (va_S_push hS z1' o1') hl
  · have e9 : (Value.ref h.1 :: S).map (cv E) = .ref (eB E + h.1) :: S.map (cv E) := by
      show Value.ref (adr E h.1) :: _ = _
      rw [hadr]
    rw [e9] at hgoal
    exact hgoal
  · rw [cE_l hs]
    show H1[adr E h.1]? = some (vp_cell _ _)
    rw [hadr, e1, hcA]
    simp only [nw, if_pos]
    rfl
theorem ev_newa_b {n : Int32} {N : Nat} (hd : decode M.2.1 pc = .ok (.newarray .byte, 2)) (hw : Cond.arrayClass .byte ∈ tw) (hs : shp h.1 = (3, N)) (hn0 : ¬ n < 0) (hN : n.toNatClampNeg = N) (hN2 : N ≤ 60000) (hn : h.1 < 900) (hf : x + 1 ≤ R.cells ∧ y + N ≤ R.slots) (K : Ev E M R QX (x + 1) (y + N) (pc + 2) L (.ref h.1 :: S) (nw h)) : Ev E M R QX x y pc L (.int n :: S) h := by
  intro p e s m args below meth c G H locs ls hR hS hl
  obtain ⟨hx, hb, hml, hown, hts, hK, hN3, -⟩ := id G
  refine va_newaK (atype := .byte) (N := N) hx hb (hts _ hw) rfl hd rfl hn0 hN (by show N * 1 ≤ 536870912; omega) hf.1 hf.2 hR.2.1 fun H1 cA e1 z1 o1 hAr hNm => ?_
  have z1' : H1.size = H.size + 1 := by rw [z1, hR.2.1]
  have o1' : ∀ q : Nat, q < H.size → H1[q]? = H[q]? := fun q hq => o1 q (by rw [← hR.2.1]; exact hq)
  have hadr : adr E h.1 = eB E + h.1 := adr_lt (by omega)
  have hcA : cA = E.2.2.2.2.1 2 := by
    have h1 := (hK.2 2 _ rfl).2
    exact Option.some.inj (hNm.symm.trans h1)
  have hgoal := K p e s m args below meth c G H1 locs ls (Rp_push hR rfl hn (fun j hj => cE_nw hj) ?_ z1' o1') (va_S_push hS z1' o1') hl
  · have e9 : (Value.ref h.1 :: S).map (cv E) = .ref (eB E + h.1) :: S.map (cv E) := by
      show Value.ref (adr E h.1) :: _ = _
      rw [hadr]
    rw [e9] at hgoal
    exact hgoal
  · rw [cE_b hs]
    show H1[adr E h.1]? = some (vp_cell _ _)
    rw [hadr, e1, hcA]
    simp only [nw, if_pos]
    rfl
theorem ev_anew {idx : Nat} {n : Int32} {N : Nat} (hd : decode M.2.1 pc = .ok (.anewarray idx, 3)) (hw : Cond.classLink M.1.cls idx RX7 ∈ tw) (hao : ∀ (s : State) (H : Heap), E.2.2.2.2.2 s H → va_AO RX7 s) (hs : shp h.1 = (4, N)) (hn0 : ¬ n < 0) (hN : n.toNatClampNeg = N) (hN2 : N ≤ 60000) (hn : h.1 < 900) (hf : x + 1 ≤ R.cells ∧ y + N ≤ R.slots) (K : Ev E M R QX (x + 1) (y + N) (pc + 3) L (.ref h.1 :: S) (nw h)) : Ev E M R QX x y pc L (.int n :: S) h := by
  intro p e s m args below meth c G H locs ls hR hS hl
  obtain ⟨hx, hb, hml, hown, hts, hK, hN3, -⟩ := id G
  subst hN
  refine W.anew hx hb hown (hts _ hw) (va_AO.use (hao s s.heap G.2.2.2.2.2.2.2.2.2.2.2.2)) rfl hd rfl hn0 (by omega) hf.1 hf.2 fun cA kA comp f1 f2 f3 f4 => ?_
  generalize hH1 : H.push ({ cls := cA, slots := Array.replicate n.toNatClampNeg .null, vm := .none } : Cell) = H1
  have z1 : H1.size = H.size + 1 := by rw [← hH1, Array.size_push]
  have e1 : H1[H.size]? = some (arrV cA n.toNatClampNeg (fun _ => .null)) := by rw [← hH1, Array.getElem?_push_size, ← arrV_new]
  have o1 : ∀ q : Nat, q < H.size → H1[q]? = H[q]? := fun q hq => by rw [← hH1, Array.getElem?_push, if_neg (Nat.ne_of_lt hq)]
  have hadr : adr E h.1 = eB E + h.1 := adr_lt (by omega)
  have hcA : cA = E.2.2.2.2.1 3 := by
    obtain ⟨kA2, comp2, k1, k2, k3, k4⟩ := (hK.2 3 _ rfl).2
    first | exact Option.some.inj (f1.symm.trans k4) | exact Option.some.inj (f3.symm.trans k4) | exact Option.some.inj (f2.symm.trans k4)
  have hgoal := K p e s m args below meth c G H1 locs ls (Rp_push hR rfl hn (fun j hj => cE_nw hj) ?_ z1 o1) (va_S_push hS z1 o1) hl
  · have e9 : (Value.ref h.1 :: S).map (cv E) = .ref H.size :: S.map (cv E) := by
      show Value.ref (adr E h.1) :: _ = _
      rw [hadr, hR.2.1]
    rw [e9] at hgoal
    exact hgoal
  · rw [cE_r hs]
    show H1[adr E h.1]? = some (vp_cell _ _)
    rw [hadr, ← hR.2.1, e1, hcA]
    simp only [nw, if_pos]
    rfl
theorem ev_aast {k n q : Nat} {i : Int32} (hd : decode M.2.1 pc = .ok (.aastore, 1)) (hs : shp k = (4, n)) (hk : k < h.1) (hsq : shp q = (0, 7)) (hq : q < h.1) (hi : vp_in i n) (K : Ev E M R QX x y (pc + 1) L S (sR h k (va_up (h.2.2.2 k) i.toNatClampNeg (some q)))) : Ev E M R QX x y pc L (.ref q :: .int i :: .ref k :: S) h := by
  intro p e s m args below meth c G H locs ls hR hS hl
  obtain ⟨hx, hb, hml, hown, hts, hK, hN3, -⟩ := id G
  have ha := wd_get (E := E) hk
  rw [cE_r hs] at ha
  have hv := wd_get (E := E) hq
  rw [cE_o hsq] at hv
  have hlt : i.toNatClampNeg < n := Nat.not_le.mp fun z => hi (Or.inr z)
  have h0 : ¬ i < 0 := fun z => hi (Or.inl z)
  obtain ⟨r', hr', cellV, g1, g2, g3, -⟩ := hR.1 q _ hv
  have hcls := (hK.1 7 _ rfl).2
  obtain ⟨kA, comp, k1, k2, k3, -⟩ := (hK.2 3 _ rfl).2
  have hcomp : comp = E.2.1.1 7 := Option.some.inj (k3.symm.trans hcls.1)
  subst hcomp
  obtain ⟨kC, hkC, -⟩ := hcls.2
  refine W.aast hx hb (hR.1 k _ ha) (fun z h => by cases h) (fun h => by cases h) k1 k2 rfl hkC ⟨h0, by show _ < (arrV _ _ _).slots.size; rw [arrV_size]; exact hlt⟩ g1 (fun z h => by rw [g3] at h; cases h) (by rw [g2]; exact hkC) (by rw [g2]; exact va_assign hcls) rfl rfl hd fun H1 e1 z oq => ?_
  refine K p e s m args below meth c G H1 _ ls (Rp_set (e := cE E (sR h k (va_up (h.2.2.2 k) i.toNatClampNeg (some q))) k) hR hk rfl rfl rfl (fun j hj => cE_sR hj) ?_ z oq) (hS.put z oq (adr_A hk hR.2.2)) hl
  rw [cE_r hs]
  show H1[adr E k]? = some (vp_cell _ _)
  rw [e1]
  simp only [sR, if_pos]
  rw [vp_cell_q, vp_cell_q, arrV_store]
  congr 2
  funext z
  by_cases hz : z = i.toNatClampNeg
  · subst hz
    simp [updV, va_up, va_rf, cv]
  · simp [updV, va_up, hz]
end EVC
