def R_law : String := "BeastFloorLaw"
def lw_P (b : Addr) (xs : List Int32) (args : Array Value) (s : State) : Prop := args = #[.ref b] ∧ s.IntsAt b xs ∧ xs.length ≤ 3072 ∧ (Jvm.Cond.and given_1 narrow_1).before args s = true
def lw_Q (_ : Array Value) (s : State) (o : Outcome) (t : State) : Prop := o = .returned (some (.int 1)) ∧ Framed s o t [] 600000 7302250
def lw_Z (below : List Frame) (a : Array Value) (s : State) : State → Prop := fun t => ∃ o, t.status = .running ∧ Ended t below o ∧ lw_Q a s o t
/-- the law's own end, with 1 on the stack, nothing written that was there before, its room as the claim has it -/
theorem lw_ret {p : Program} {l : Launch} {e : Env} {s : State} {m : MethodId} {below : List Frame} {meth : Method} {c : Code} {b : Nat} (hx : p.tables.exec = Jvm.exec) (hb : c.code = code) (hr : meth.sig.returnType = ret) (hlocks : meth.locks = false) {pc : Nat} {H : Heap} {ls : Array Slot} (hdg : decode code pc = .ok (.ireturn, 1)) : W p l e room_1 s m #[Value.ref b] below meth c H [] 600000 7302250 (lw_Z below #[Value.ref b] s) (F0 m pc ls [.int 1]) := by
  intro T hT X
  obtain ⟨fs, hret, hrun, hended, hW, hframe⟩ := X.leave (v := some (.int 1)) (hlocks := hlocks) (fun h => by rw [hr] at h; cases h)
  have hmeth' : T.vm.method? m = some meth := X.method'
  refine ⟨T.setFrames fs, ?_, .returned (some (.int 1)), hrun, hended, rfl, ⟨_, rfl⟩, hW, hframe⟩
  jvm_step X.here [X.here.top, hx, hb, hdg, hmeth', hr, ret, narrow_b1]
  (try refine ⟨rfl, ?_⟩); (try refine ⟨rfl, ?_⟩)
  first | (intro acts; rw [hret _ acts rfl rfl rfl]) | rw [hret _ _ rfl rfl rfl]
  exact Steps.refl _
/-- what holds at the law's entry: the machine, the code, the tables' words (any of lw_tbl by 'hts w (by decide +kernel)'), the script of L ints xs at the cell b, what the Statement gives of the start (any of its parts by flat_of_before) -/
def lw_At (p : Program) (s : State) (m : MethodId) (meth : Method) (c : Code) (b L : Nat) (xs : Nat → Int32) : Prop :=
  p.tables.exec = Jvm.exec ∧ c.code = code ∧ meth.sig.returnType = ret ∧ c.maxLocals = 4 ∧ s.vm.findClass R_law = some m.cls ∧ (∀ w ∈ lw_tbl, w.before #[Value.ref b] s = true) ∧ va_X b L xs s s.heap ∧ b < s.heap.size ∧ meth.locks = false ∧ (Jvm.Cond.and given_1 narrow_1).before #[Value.ref b] s = true
abbrev mLn (zn : String) : MM := (⟨RL, zn, "([I)Z"⟩, cL_law, 4, some .boolean)
def QXL (E : ME) (zb : Nat) : List Frame → Array Value → State → State → Prop := fun below args s t => (s.heap.size = eB E ∧ args = #[Value.ref zb]) → lw_Z below args s t
/-- the script lies outside -/
def XSc (E : ME) (zb zl : Nat) (zs : Nat → Int32) : Prop := E.2.2.2.1 4000 = zb ∧ zb < eB E ∧ ∀ (U : State) (H : Heap), E.2.2.2.2.2 U H → va_X zb zl zs U H
section EVY
variable {E : ME} {M : MM} {R : Room} {QX : List Frame → Array Value → State → State → Prop} {x y pc : Nat} {L : List (Option Value)} {S : List Value} {h : AH}
theorem ev_slen {zb zl : Nat} {zs : Nat → Int32} (hX : XSc E zb zl zs) (hd : decode M.2.1 pc = .ok (.arraylength, 1)) (K : Ev E M R QX x y (pc + 1) L (.int (nI zl) :: S) h) : Ev E M R QX x y pc L (.ref 4000 :: S) h := by
  intro p e s m args below meth c G H locs ls hR hS hl
  rw [cv_out E S (by omega), hX.1]
  exact va_slen G.1 G.2.1 (hX.2.2 s s.heap G.2.2.2.2.2.2.2.2.2.2.2.2) (Nat.lt_of_lt_of_le hX.2.1 G.2.2.2.2.2.2.2.2.2.2.2.1) (Nat.not_le.mpr hX.2.1) hS hd (K p e s m args below meth c G H locs ls hR hS hl)
theorem ev_sld {zb zl zj : Nat} {zs : Nat → Int32} (hX : XSc E zb zl zs) (hj : zj < zl) (hz : zl ≤ 3072) (hd : decode M.2.1 pc = .ok (.iaload, 1)) (K : Ev E M R QX x y (pc + 1) L (.int (zs zj) :: S) h) : Ev E M R QX x y pc L (.int (nI zj) :: .ref 4000 :: S) h := by
  intro p e s m args below meth c G H locs ls hR hS hl
  have e9 : (Value.int (nI zj) :: .ref 4000 :: S).map (cv E) = .int (nI zj) :: .ref zb :: S.map (cv E) := by
    rw [← hX.1, ← cv_out E S (by omega)]
    rfl
  rw [e9]
  refine va_sld G.1 G.2.1 (hX.2.2 s s.heap G.2.2.2.2.2.2.2.2.2.2.2.2) (Nat.lt_of_lt_of_le hX.2.1 G.2.2.2.2.2.2.2.2.2.2.2.1) (Nat.not_le.mpr hX.2.1) hS (vp_in_nI hj (by omega)) hd ?_
  rw [nI_clamp (by omega)]
  exact K p e s m args below meth c G H locs ls hR hS hl
theorem ev_lwret {zb : Nat} {zn : String} (hx : x ≤ 600000) (hy : y ≤ 7302250) (hd : decode cL_law pc = .ok (.ireturn, 1)) : Ev E (mLn zn) room_1 (QXL E zb) x y pc L [.int 1] h := by
  intro p e s m args below meth c G H locs ls hR hS hl
  by_cases hc : s.heap.size = eB E ∧ args = #[Value.ref zb]
  · obtain ⟨h1, h2⟩ := hc
    subst h2
    have hw : W p E.1 e room_1 s m #[Value.ref zb] below meth c H locs x y (lw_Z below #[Value.ref zb] s) (F0 m pc ls [Value.int 1]) := by
      refine va_forget (fun q hq => by rw [h1]; exact hS.2.2 q hq) ?_
      refine W.widen hx hy ?_
      exact lw_ret G.1 G.2.1 G.2.2.2.2.2.2.2.2.1 G.2.2.2.2.2.2.2.1 hd
    intro T hT X
    obtain ⟨t, a1, b1⟩ := hw T hT X
    exact ⟨t, a1, fun _ => b1⟩
  · intro T hT X
    exact ⟨_, Steps.refl _, fun z => absurd z hc⟩
theorem ev_st1 {zM zR : MM} {zd ze zp idx zn : Nat} {zs T : List Value} (hs : StI E zn zM zR zd ze zs h) (h7 : zd ≤ 7) (hd : decode M.2.1 pc = .ok (.invokevirtual idx, 3)) (hM2 : MK zM zp) (hL2 : ML M.1.cls idx zM) (hst : Cond.instanceMethod zM.1 ∈ tw ∧ Cond.selects zM.1.cls zM.1 zM.1 ∈ tw) (hcl : classes[10]?.map (fun r => r.1) = some zM.1.cls) (hw : WF h) (hT : T = zs.reverse ++ [.ref 0]) (hn : zs.length = zp) (hml : zM.2.2.1 ≤ 20) (hx : x ≤ 600000) (hy : y ≤ 7302250)
    (K : ∀ (zx : Int32) (h1 : AH), WF h1 → (∃ Q2 : PO, Con E zR ze 0 0 (.ref 49 :: zs) h1 Q2 ∧ ∀ zw h2, Q2 zw h2 → zw = some (.int zx) ∧ InV (zn + 1) h2) → Ev E M room_1 QX x y (pc + 3) L [.int zx] h1) : Ev E M room_1 QX x y pc L T h := by
  obtain ⟨Q1, c1, k1⟩ := hs
  refine ev_callV (S := []) hd hM2 hL2 hst c1 (ci := 10) rfl hcl (wlt hw (by decide)) hT hn (Nat.zero_le _) ⟨by show zd + 1 ≤ 10; omega, by show 8 + (zM.2.2.1 + 11) + 43 * zd ≤ 344; omega⟩ ⟨hx, hy⟩ (fun zv h1 z1 => ?_)
  obtain ⟨zx, rfl, Q2, w1, c2, k2⟩ := k1 zv h1 z1
  exact K zx h1 w1 ⟨Q2, c2, k2⟩
theorem ev_st2 {zR : MM} {ze zp idx zn : Nat} {zx : Int32} {zs T : List Value} (hs : ∃ Q2 : PO, Con E zR ze 0 0 (.ref 49 :: zs) h Q2 ∧ ∀ zw h2, Q2 zw h2 → zw = some (.int zx) ∧ InV (zn + 1) h2) (h7 : ze ≤ 7) (hd : decode M.2.1 pc = .ok (.invokevirtual idx, 3)) (hM2 : MK zR zp) (hL2 : ML M.1.cls idx zR) (hst : Cond.instanceMethod zR.1 ∈ tw ∧ Cond.selects zR.1.cls zR.1 zR.1 ∈ tw) (hcl : classes[11]?.map (fun r => r.1) = some zR.1.cls) (hw : WF h) (hT : T = zs.reverse ++ [.ref 49, .int zx]) (hn : zs.length = zp) (hml : zR.2.2.1 ≤ 20) (hx : x ≤ 600000) (hy : y ≤ 7302250)
    (K : ∀ h2 : AH, InV (zn + 1) h2 → Ev E M room_1 QX x y (pc + 3) L [.int zx, .int zx] h2) : Ev E M room_1 QX x y pc L T h := by
  obtain ⟨Q2, c2, k2⟩ := hs
  refine ev_callV (S := [.int zx]) hd hM2 hL2 hst c2 (ci := 11) rfl hcl (wlt hw (by decide)) hT hn (Nat.le_of_ble_eq_true rfl) ⟨by show ze + 1 ≤ 10; omega, by show 8 + (zR.2.2.1 + 11) + 43 * ze ≤ 344; omega⟩ ⟨hx, hy⟩ (fun zv h2 z2 => ?_)
  obtain ⟨rfl, i2⟩ := k2 zv h2 z2
  exact K h2 i2
theorem ev_sj1 {zM zR : MM} {zd ze zp idx zn : Nat} {zs T : List Value} (hs : StJ E zn zM zR zd ze zs h) (h7 : zd ≤ 7) (hd : decode M.2.1 pc = .ok (.invokevirtual idx, 3)) (hM2 : MK zM zp) (hL2 : ML M.1.cls idx zM) (hst : Cond.instanceMethod zM.1 ∈ tw ∧ Cond.selects zM.1.cls zM.1 zM.1 ∈ tw) (hcl : classes[10]?.map (fun r => r.1) = some zM.1.cls) (hw : WF h) (hT : T = zs.reverse ++ [.ref 0]) (hn : zs.length = zp) (hml : zM.2.2.1 ≤ 20) (hx : x ≤ 600000) (hy : y ≤ 7302250)
    (K : ∀ (zx : Int64) (h1 : AH), WF h1 → (∃ Q2 : PO, Con E zR ze 0 0 (.ref 49 :: zs) h1 Q2 ∧ ∀ zw h2, Q2 zw h2 → zw = some (.long zx) ∧ InV (zn + 1) h2) → Ev E M room_1 QX x y (pc + 3) L [.long zx] h1) : Ev E M room_1 QX x y pc L T h := by
  obtain ⟨Q1, c1, k1⟩ := hs
  refine ev_callV (S := []) hd hM2 hL2 hst c1 (ci := 10) rfl hcl (wlt hw (by decide)) hT hn (Nat.zero_le _) ⟨by show zd + 1 ≤ 10; omega, by show 8 + (zM.2.2.1 + 11) + 43 * zd ≤ 344; omega⟩ ⟨hx, hy⟩ (fun zv h1 z1 => ?_)
  obtain ⟨zx, rfl, Q2, w1, c2, k2⟩ := k1 zv h1 z1
  exact K zx h1 w1 ⟨Q2, c2, k2⟩
theorem ev_sj2 {zR : MM} {ze zp idx zn : Nat} {zx : Int64} {zs T : List Value} (hs : ∃ Q2 : PO, Con E zR ze 0 0 (.ref 49 :: zs) h Q2 ∧ ∀ zw h2, Q2 zw h2 → zw = some (.long zx) ∧ InV (zn + 1) h2) (h7 : ze ≤ 7) (hd : decode M.2.1 pc = .ok (.invokevirtual idx, 3)) (hM2 : MK zR zp) (hL2 : ML M.1.cls idx zR) (hst : Cond.instanceMethod zR.1 ∈ tw ∧ Cond.selects zR.1.cls zR.1 zR.1 ∈ tw) (hcl : classes[11]?.map (fun r => r.1) = some zR.1.cls) (hw : WF h) (hT : T = zs.reverse ++ [.ref 49, .long zx]) (hn : zs.length = zp) (hml : zR.2.2.1 ≤ 20) (hx : x ≤ 600000) (hy : y ≤ 7302250)
    (K : ∀ h2 : AH, InV (zn + 1) h2 → Ev E M room_1 QX x y (pc + 3) L [.long zx, .long zx] h2) : Ev E M room_1 QX x y pc L T h := by
  obtain ⟨Q2, c2, k2⟩ := hs
  refine ev_callV (S := [.long zx]) hd hM2 hL2 hst c2 (ci := 11) rfl hcl (wlt hw (by decide)) hT hn (Nat.le_of_ble_eq_true rfl) ⟨by show ze + 1 ≤ 10; omega, by show 8 + (zR.2.2.1 + 11) + 43 * ze ≤ 344; omega⟩ ⟨hx, hy⟩ (fun zv h2 z2 => ?_)
  obtain ⟨rfl, i2⟩ := k2 zv h2 z2
  exact K h2 i2
end EVY
