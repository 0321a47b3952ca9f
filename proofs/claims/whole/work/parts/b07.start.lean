theorem vk_S_c {zN : Nat} {zl : List Nat} {zy : List (List Int32)} {aK aV bK bV : Nat → Nat} {A : Nat → Prop} {U : State} {H : Heap} (h : vk_S zN zl zy aK aV A U H) (e1 : ∀ zi, zi < zN → aK zi = bK zi) (e2 : ∀ zi, zi < zN → aV zi = bV zi) : vk_S zN zl zy bK bV A U H := by
  refine ⟨fun zi hi => ?_, fun zi zj hi hj e => h.2 zi zj hi hj (by rw [e1 zi hi, e1 zj hj]; exact e)⟩
  rw [← e1 zi hi, ← e2 zi hi]
  exact h.1 zi hi
def fxL : List Cond := flatC (Jvm.Cond.and given_1 narrow_1)
def smT (zi : Nat) : Term := .string RX5 (wdQ zi)
theorem fx_1 : ∀ zi, zi < 6 → Cond.exactly (smT zi) "java/lang/String" ∈ fxL := by decide +kernel
theorem fx_2 : ∀ zi, zi < 6 → Cond.eq (.field (smT zi) "java/lang/String" "coder" "B") (.int 0) ∈ fxL := by decide +kernel
theorem fx_3 : ∀ zi, zi < 6 → Cond.arrayOf (.field (smT zi) "java/lang/String" "value" "[B") .byte ∈ fxL := by decide +kernel
theorem fx_4 : ∀ zi, zi < 6 → Cond.eq (.length (.field (smT zi) "java/lang/String" "value" "[B")) (.int (Int32.ofNat (wdN.getD zi 0))) ∈ fxL := by decide +kernel
theorem fx_5 : ∀ zi, zi < 6 → ∀ zj, zj < wdN.getD zi 0 → Cond.eq (.elem (.field (smT zi) "java/lang/String" "value" "[B") (.int (Int32.ofNat zj))) (.int ((wdS.getD zi []).getD zj 0)) ∈ fxL := by decide +kernel
theorem fx_6 : ∀ zi, zi < 6 → ∀ zj, zj < 6 → zi ≠ zj → (Cond.not (Cond.eq (smT zi) (smT zj)) ∈ fxL ∨ Cond.not (Cond.eq (smT zj) (smT zi)) ∈ fxL) := by decide +kernel
theorem fx_7 : Cond.eq (.static "java/lang/String" "COMPACT_STRINGS" "Z") (.int 1) ∈ fxL := by decide +kernel
theorem fx_8 : Cond.isRef (.static "jdk/internal/util/Preconditions" "SIOOBE_FORMATTER" "Ljava/util/function/BiFunction;") ∈ fxL := by decide +kernel
theorem sr_t : ∀ zi, zi < 6 → Cond.stringRef RX5 (wdQ zi) (wdX zi) ∈ tables_1 := by
  intro zi hi
  rcases (by omega : zi = 0 ∨ zi = 1 ∨ zi = 2 ∨ zi = 3 ∨ zi = 4 ∨ zi = 5) with rfl | rfl | rfl | rfl | rfl | rfl
  · exact tm2 126 rfl
  · exact tm2 214 rfl
  · exact tm2 231 rfl
  · exact tm3 2 rfl
  · exact tm3 15 rfl
  · exact tm3 30 rfl
theorem ls_1 : Cond.laysStatic "java/lang/String" "COMPACT_STRINGS" "Z" ∈ tables_1 := tm2 144 rfl
theorem ls_2 : Cond.laysStatic "jdk/internal/util/Preconditions" "SIOOBE_FORMATTER" "Ljava/util/function/BiFunction;" ∈ tables_1 := tm2 164 rfl
theorem in_1 : Cond.initialized "java/lang/String" ∈ tables_1 := tm1 14 rfl
theorem in_2 : Cond.initialized "jdk/internal/util/Preconditions" ∈ tables_1 := tm1 16 rfl
theorem ao_7 : Cond.arrayOver (.object RX7) ∈ tables_1 := tm2 14 rfl
/-- what lies outside, as facts of a state and a heap -/
def XSd (zb zl : Nat) (zs : Nat → Int32) (aK aV : Nat → Nat) (zf : Value) (zz : Nat) : State → Heap → Prop := fun U H => va_X zb zl zs U H ∧ vk_S 6 wdN wdS aK aV (fun q => zz ≤ q) U H ∧ (∀ zi, zi < 6 → vk_R RX5 (wdQ zi) (wdX zi) (aK zi) U) ∧ va_Z "java/lang/String" "COMPACT_STRINGS" "Z" (.int 1) (fun q => zz ≤ q) U H ∧ va_Z "jdk/internal/util/Preconditions" "SIOOBE_FORMATTER" "Ljava/util/function/BiFunction;" zf (fun q => zz ≤ q) U H ∧ va_AO RX7 U
def adX (zb : Nat) (aK aV : Nat → Nat) (zt : Nat) (zk : Nat) : Nat := if zk < 2000 then aK (zk - 1000) else if zk < 3000 then aV (zk - 2000) else if zk = 3000 then zt else zb
theorem XSd_ok {zb zl : Nat} {zs : Nat → Int32} {aK aV : Nat → Nat} {zf : Value} {zz : Nat} (hb : zb < zz) (E : ME) (hE : E.2.2.1 = zz) (hE2 : E.2.2.2.2.2 = XSd zb zl zs aK aV zf zz) : EOK E := by
  unfold EOK eB
  rw [hE, hE2]
  refine ⟨fun s U H hW h => ?_, fun u U H hv h => ?_, fun U H H1 hq h => ?_⟩
  · obtain ⟨h1, h2, h3, h4, h5, h6⟩ := h
    exact ⟨va_X.moved hW.alike h1, vk_S.moved hW.alike h2, fun zi hi => vk_R.warm hW (h3 zi hi), va_Z.moved hW.alike h4, va_Z.moved hW.alike h5, va_AO.moved hW.alike h6⟩
  · obtain ⟨h1, h2, h3, h4, h5, h6⟩ := h
    have ha : u.vm.Alike U.vm := by rw [hv]; exact Vm.Alike.refl _
    exact ⟨va_X.moved ha h1, vk_S.moved ha h2, fun zi hi => vk_R.same hv.symm (h3 zi hi), va_Z.moved ha h4, va_Z.moved ha h5, va_AO.moved ha h6⟩
  · obtain ⟨h1, h2, h3, h4, h5, h6⟩ := h
    have hk : ∀ a : Nat, a < H.size → ¬ (zz ≤ a) → H1[a]? = H[a]? := fun a a1 a2 => hq a a1 (Nat.not_le.mp a2)
    have hbs : zb < H.size := by
      obtain ⟨scr, g1, -⟩ := h1
      exact (Array.getElem?_eq_some_iff.mp g1).1
    exact ⟨va_X.kept h1 (hq zb hbs hb), vk_S.kept h2 hk, h3, va_Z.kept h4 hk, va_Z.kept h5 hk, h6⟩
theorem kn_all {s : State} {args : Array Value} (htw : ∀ w ∈ tw, w.before args s = true) : ∃ D : va_G, ∀ (k : Nat) (q : vw_C), classes[k]? = some q → u_Kn s q.1 q.2.1 q.2.2 (D.1 k) (D.2 k) := by
  have h0 : ∀ k : Nat, ∃ z : ClassId × (Nat → Nat), ∀ q : vw_C, classes[k]? = some q → u_Kn s q.1 q.2.1 q.2.2 z.1 z.2 := by
    intro k
    cases hq : classes[k]? with
    | none => exact ⟨(0, fun _ => 0), fun q h => by cases h⟩
    | some r =>
      obtain ⟨cC, iS, hk⟩ := u_known htw (clsK k r hq).1 (htw _ (clsK k r hq).2.2.2.1)
      exact ⟨(cC, iS), fun q h => by cases h; exact hk⟩
  obtain ⟨z, hz⟩ := Classical.axiomOfChoice h0
  exact ⟨(fun k => (z k).1, fun k => (z k).2), fun k q h => hz k q h⟩
theorem ar_p {s : State} {args : Array Value} {ty : FieldType} (h : (Cond.arrayClass ty).before args s = true) : ∃ cA : ClassId, ArrOfT s cA ty ∧ s.vm.findClass ("[" ++ ty.toString) = some cA := by
  obtain ⟨cA, kA, comp, h1, h2, h3⟩ := Cond.arrayClass_spec h
  exact ⟨cA, fun n z => ⟨fun k h => (by cases h), kA, h2, comp, h3⟩, h1⟩
theorem ar_o {s : State} {args : Array Value} {C : String} (h : (Cond.arrayOver (.object C)).before args s = true) : ∃ cA : ClassId, ArrOfT s cA (.object C) ∧ va_RA s cA (.object C) := by
  obtain ⟨comp, cA, kA, h1, -, h2, h3, h4⟩ := Cond.arrayOver_spec h
  exact ⟨cA, fun n z => ⟨fun k h => (by cases h), kA, h2, comp, h3⟩, kA, comp, h2, h3, h1, h4⟩
theorem whole_start {p : Program} {e : Env} {s : State} {m : MethodId} {below : List Frame} {meth : Method} {c : Code} (l : Launch) (hflags : l.flags = flags0) {b L : Nat} {xs : Nat → Int32} (hL : L ≤ 3072) (C0 : lw_At p s m meth c b L xs) : W p l e room_1 s m #[Value.ref b] below meth c s.heap [] 0 0 (lw_Z below #[Value.ref b] s) (entryFrame m ([Value.ref b] : List Value).toArray 4) := by
  obtain ⟨hx, hb, hr, hml, hown, hts, hXs, hbl, hlocks, hgv⟩ := id C0
  have hA : ∀ a : Nat, a < s.heap.size → ¬ (fun q : Nat => s.heap.size ≤ q) a := fun a h => Nat.not_le.mpr h
  have htw : ∀ w ∈ tw, w.before #[Value.ref b] s = true := fun w hw => hts w (List.mem_filter.mp hw).1
  have htb : ∀ w ∈ tables_1, w.before #[Value.ref b] s = true := fun w hw => hts w (List.mem_append_right _ hw)
  have hfx : ∀ w ∈ fxL, w.before #[Value.ref b] s = true := flat_of_before _ hgv
  obtain ⟨D, hD⟩ := kn_all htw
  obtain ⟨cI, i1, i2⟩ := ar_p (htw _ ac_int)
  obtain ⟨cJ, j1, j2⟩ := ar_p (htw _ ac_long)
  obtain ⟨cB, b1, b2⟩ := ar_p (htw _ ac_byte)
  obtain ⟨cR, r1, r2⟩ := ar_o (htb _ ao_7)
  have hN : ∀ w ∈ nests, va_Nw w s := by
    intro w hw
    have h2 := (List.mem_filter.mp hw).2
    have h1 := htb w (List.mem_filter.mp hw).1
    cases w <;> first | exact va_tabs rfl rfl h1 | (exact absurd h2 (by simp [isNest]))
  obtain ⟨aK, aV, hvS, hvT⟩ := vk_Sof (args := #[Value.ref b]) (s := s) (N := 6) (tm := smT) (len := wdN) (byt := wdS) (A := fun q => s.heap.size ≤ q) (by decide +kernel) (fun i hi => hfx _ (fx_1 i hi)) (fun i hi => hfx _ (fx_2 i hi)) (fun i hi => hfx _ (fx_3 i hi)) (fun i hi => hfx _ (fx_4 i hi)) (fun i hi j hj => hfx _ (fx_5 i hi j hj)) (fun i j hi hj hij => (fx_6 i hi j hj hij).elim (fun z => Or.inl (hfx _ z)) (fun z => Or.inr (hfx _ z))) hA
  have hvR : ∀ zi, zi < 6 → vk_R RX5 (wdQ zi) (wdX zi) (aK zi) s := fun zi hi => vk_R.of (htb _ (sr_t zi hi)) (hvT zi hi)
  have hZ1 : va_Z "java/lang/String" "COMPACT_STRINGS" "Z" (.int 1) (fun q => s.heap.size ≤ q) s s.heap := va_Zof (htb _ ls_1) (htb _ in_1) (va_eqt (hfx _ fx_7)) hA
  have hZ2 := va_Zqof (A := fun q => s.heap.size ≤ q) (htb _ ls_2) (htb _ in_2) (hfx _ fx_8) hA
  have hao : va_AO RX7 s := va_AO.of (htb _ ao_7)
  obtain ⟨zt, zv, zf, hzv, hZ3⟩ : ∃ (zt : Nat) (zv zf : Value), ((zv = .null ∧ zf = .null) ∨ (zv = .ref 3000 ∧ zf = .ref zt)) ∧ va_Z "jdk/internal/util/Preconditions" "SIOOBE_FORMATTER" "Ljava/util/function/BiFunction;" zf (fun q => s.heap.size ≤ q) s s.heap := by
    rcases hZ2 with h | ⟨t, h⟩
    · exact ⟨0, .null, .null, Or.inl ⟨rfl, rfl⟩, h⟩
    · exact ⟨t, .ref 3000, .ref t, Or.inr ⟨rfl, rfl⟩, h⟩
  obtain ⟨E, hEd⟩ : ∃ E : ME, E = (l, D, s.heap.size, adX b aK aV zt, (fun k => if k = 0 then cI else if k = 1 then cJ else if k = 2 then cB else cR), XSd b L xs aK aV zf s.heap.size) := ⟨_, rfl⟩
  have hE1 : E.1 = l := by rw [hEd]
  have hE2 : E.2.2.1 = s.heap.size := by rw [hEd]
  have hE3 : E.2.2.2.2.2 = XSd b L xs aK aV zf s.heap.size := by rw [hEd]
  have hE4 : E.2.2.2.1 = adX b aK aV zt := by rw [hEd]
  have hEB : eB E = s.heap.size := hE2
  have hEO : EOK E := XSd_ok hbl E hE2 hE3
  have hXO : XOK E := by
    intro U H h
    rw [hE3] at h
    obtain ⟨h1, h2, h3, h4, h5, h6⟩ := h
    rw [hE4]
    have hq : (fun q => eB E ≤ q) = (fun q => s.heap.size ≤ q) := by rw [hEB]
    rw [hq]
    have a1 : ∀ zi, zi < 6 → aK zi = adX b aK aV zt (1000 + zi) := fun zi hi => by
      unfold adX
      rw [if_pos (by omega), show 1000 + zi - 1000 = zi by omega]
    have a2 : ∀ zi, zi < 6 → aV zi = adX b aK aV zt (2000 + zi) := fun zi hi => by
      unfold adX
      rw [if_neg (by omega), if_pos (by omega), show 2000 + zi - 2000 = zi by omega]
    refine ⟨vk_S_c h2 a1 a2, fun zi hi => by rw [← a1 zi hi]; exact h3 zi hi, h4, zv, hzv.imp (fun z => z.1) (fun z => z.1), ?_⟩
    have e5 : cv E zv = zf := by
      rcases hzv with ⟨rfl, rfl⟩ | ⟨rfl, rfl⟩
      · rfl
      · show Value.ref (adr E 3000) = Value.ref zt
        rw [adr_ge (by omega), hE4]
        rfl
    rw [e5]
    exact h5
  have hXC : XSc E b L xs := by
    refine ⟨by rw [hE4]; rfl, by rw [hEB]; exact hbl, fun U H h => ?_⟩
    rw [hE3] at h
    exact h.1
  have hAO : ∀ (s : State) (H : Heap), E.2.2.2.2.2 s H → va_AO RX7 s := fun U H h => by
    rw [hE3] at h
    exact h.2.2.2.2.2
  have hK : va_K E.2.1 classes (tysE E) s := by
    rw [hEd]
    refine ⟨hD, fun k q hk => ?_⟩
    match k, hk with
    | 0, hk => cases hk; exact ⟨i1, i2⟩
    | 1, hk => cases hk; exact ⟨j1, j2⟩
    | 2, hk => cases hk; exact ⟨b1, b2⟩
    | 3, hk => cases hk; exact ⟨r1, r2⟩
    | k + 4, hk => simp [tysE] at hk
  have hG : Gm E (mLn meth.name) p s m #[Value.ref b] meth c := ⟨hx, hb, hml, hown, htw, hK, hN, hlocks, hr, rfl, hEO, by rw [hEB]; exact Nat.le_refl _, by rw [hE3]; exact ⟨hXs, hvS, hvR, hZ1, hZ3, hao⟩⟩
  have hR : Rp E hz0 s.heap := ⟨fun k q h => by simp [world, hz0] at h, by rw [hEB]; rfl, Nat.zero_le _⟩
  have hca : ([Value.ref 4000] : List Value).map (cv E) = [Value.ref b] := by
    show [Value.ref (adr E 4000)] = _
    rw [adr_ge (by omega), hE4]
    rfl
  have hent := lv_entry (([Value.ref 4000] : List Value).map (cv E)) (n := 4) (by rw [hca]; exact Nat.le_of_ble_eq_true rfl)
  have hlk := entL_lk hent
  rw [hca] at hlk
  rw [lg_entry_eq]
  have hw := lw_entry E meth.name hXO hXC hL hAO p e s m #[Value.ref b] below meth c hG s.heap [] _ hR va_S.rf hlk
  rw [hE1] at hw
  intro T hT X
  obtain ⟨t, a1, k1⟩ := hw T hT X
  exact ⟨t, a1, k1 ⟨hEB.symm, rfl⟩⟩
