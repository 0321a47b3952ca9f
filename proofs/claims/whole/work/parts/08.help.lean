def bI (p : Prop) [Decidable p] : Int32 := if p then 1 else 0
theorem nar_bI (p : Prop) [Decidable p] : narrow .boolean (.int (bI p)) = .int (bI p) := by unfold bI; split <;> rfl
theorem bI_t {p : Prop} [Decidable p] (h : p) : bI p = 1 := if_pos h
theorem bI_f {p : Prop} [Decidable p] (h : ¬ p) : bI p = 0 := if_neg h
theorem bI_0 {p : Prop} [Decidable p] : bI p = 0 ↔ ¬ p := by unfold bI; split <;> simp_all
theorem bI_n0 {p : Prop} [Decidable p] : ¬ bI p = 0 ↔ p := by rw [bI_0]; exact Decidable.not_not
theorem bI_1 {p : Prop} [Decidable p] : bI p = 1 ↔ p := by unfold bI; split <;> simp_all
theorem bI_c {p q : Prop} [Decidable p] [Decidable q] (h : p ↔ q) : bI p = bI q := by
  unfold bI
  by_cases hp : p
  · rw [if_pos hp, if_pos (h.mp hp)]
  · rw [if_neg hp, if_neg (fun z => hp (h.mpr z))]
theorem i32_ne {a b : Int32} (h : ¬ a = b) : ¬ a.toInt = b.toInt := fun q => h (Int32.toInt_inj.mp q)
theorem i_le {a b : Int32} : a ≤ b ↔ a.toInt ≤ b.toInt := Int32.le_iff_toInt_le
theorem i_lt {a b : Int32} : a < b ↔ a.toInt < b.toInt := Int32.lt_iff_toInt_lt
theorem i_eq {a b : Int32} : a = b ↔ a.toInt = b.toInt := Int32.toInt_inj.symm
theorem i_le2 (a b : Int32) : ¬ a ≤ b ↔ b < a := by rw [i_le, i_lt]; omega
theorem i_lt2 (a b : Int32) : ¬ a < b ↔ b ≤ a := by rw [i_le, i_lt]; omega
/-- where references point after construction (those that stay) -/
def rTab : List (List (Option Nat)) := [[some 1, none, none, some 19, some 20, some 25, some 30, some 32, some 34, some 36, some 40], [some 2], [], [some 4, some 5, some 6, some 7, some 8, some 9, some 10], [], [], [], [], [], [], [], [some 12, some 13, some 14, some 15, some 16, some 17, some 18], [], [], [], [], [], [], [], [some 1], [some 21, some 22, some 23, some 24], [], [], [], [], [some 26, some 27, some 28, some 29], [], [], [], [], [some 31], [], [some 33], [], [some 35], [], [some 37, some 38, some 39], [], [], [], [some 41, some 43, some 45, some 47], [some 42], [], [some 44], [], [some 46], [], [some 48], [], [some 50, none, none, none, none, none, none, none, none, some 51, some 52, some 53, some 54, some 55, none, some 56, none, none, some 57, some 58, some 59, some 60, some 61, some 62, none, some 63, none, none, some 64, some 65, none, none, some 66, some 67, some 68, none, some 69, none, none, none, none, none, some 70, some 71, some 72, some 73, some 74, some 75], [], [], [], [], [], [], [], [], [], [], [], [], [], [], [], [], [], [], [], [], [], [], [], [], [], []]
def rT (k j : Nat) : Option Nat := (rTab.getD k []).getD j none
def WF (h : AH) : Prop := h.1 = 76 ∧ ∀ k j q : Nat, rT k j = some q → h.2.2.2 k j = some q
theorem wlt {h : AH} {k : Nat} (hw : WF h) (hk : k < 76) : k < h.1 := by rw [hw.1]; exact hk
theorem wr {h : AH} {k j q : Nat} (hw : WF h) (hq : rT k j = some q) : h.2.2.2 k j = some q := hw.2 k j q hq
theorem wf_sI {h : AH} {k : Nat} {f : Nat → Int32} (hw : WF h) : WF (sI h k f) := hw
theorem wf_sL {h : AH} {k : Nat} {f : Nat → Int64} (hw : WF h) : WF (sL h k f) := hw
theorem con_of2 {E : ME} {M : MM} {d mc ms : Nat} {as : List Value} {h : AH} {post : PO} {L : List (Option Value)} (hy : plainName M.1.cls = true) (hl : (lg_sl (as.map (cv E))).length ≤ M.2.2.1) (hL : entL as M.2.2.1 = L) (K : Ev E M (rmm d mc ms) (QM E mc ms post) 0 0 0 L [] h) : Con E M d mc ms as h post := con_of hy hl (hL ▸ K)
theorem sI_sI (h : AH) (k : Nat) (f g : Nat → Int32) : sI (sI h k f) k g = sI h k g := by
  unfold sI
  refine Prod.ext rfl (Prod.ext (funext fun q => ?_) rfl)
  dsimp only
  split <;> rfl
theorem sL_sL (h : AH) (k : Nat) (f g : Nat → Int64) : sL (sL h k f) k g = sL h k g := by
  unfold sL
  refine Prod.ext rfl (Prod.ext rfl (Prod.ext (funext fun q => ?_) rfl))
  dsimp only
  split <;> rfl
theorem sR_sR (h : AH) (k : Nat) (f g : Nat → Option Nat) : sR (sR h k f) k g = sR h k g := by
  unfold sR
  refine Prod.ext rfl (Prod.ext rfl (Prod.ext rfl (funext fun q => ?_)))
  dsimp only
  split <;> rfl
theorem sI_cm (h : AH) {k j : Nat} (hjk : j ≠ k) (f g : Nat → Int32) : sI (sI h k f) j g = sI (sI h j g) k f := by
  unfold sI
  refine Prod.ext rfl (Prod.ext (funext fun q => ?_) rfl)
  dsimp only
  by_cases h1 : q = j
  · subst h1; rw [if_pos rfl, if_neg hjk, if_pos rfl]
  · rw [if_neg h1]; split
    · rfl
    · rfl
theorem sL_cm (h : AH) {k j : Nat} (hjk : j ≠ k) (f g : Nat → Int64) : sL (sL h k f) j g = sL (sL h j g) k f := by
  unfold sL
  refine Prod.ext rfl (Prod.ext rfl (Prod.ext (funext fun q => ?_) rfl))
  dsimp only
  by_cases h1 : q = j
  · subst h1; rw [if_pos rfl, if_neg hjk, if_pos rfl]
  · rw [if_neg h1]; split
    · rfl
    · rfl
theorem sI_sL (h : AH) (k j : Nat) (f : Nat → Int64) (g : Nat → Int32) : sI (sL h k f) j g = sL (sI h j g) k f := rfl
theorem sI_at (h : AH) (k : Nat) (f : Nat → Int32) : (sI h k f).2.1 k = f := if_pos rfl
theorem sI_ne (h : AH) {k j : Nat} (f : Nat → Int32) (hj : j ≠ k) : (sI h k f).2.1 j = h.2.1 j := if_neg hj
theorem sL_at (h : AH) (k : Nat) (f : Nat → Int64) : (sL h k f).2.2.1 k = f := if_pos rfl
theorem sL_ne (h : AH) {k j : Nat} (f : Nat → Int64) (hj : j ≠ k) : (sL h k f).2.2.1 j = h.2.2.1 j := if_neg hj
theorem sI_id (h : AH) (k : Nat) : sI h k (h.2.1 k) = h := by
  unfold sI
  refine Prod.ext rfl (Prod.ext (funext fun q => ?_) rfl)
  dsimp only
  split
  · rename_i e; rw [e]
  · rfl
section EVN
variable {E : ME} {M : MM} {R : Room} {QX : List Frame → Array Value → State → State → Prop} {x y pc : Nat} {L : List (Option Value)} {S : List Value} {h : AH}
theorem ev_nmI {e : Int32} (K : ∀ a : Int32, a = e → Ev E M R QX x y pc L (.int a :: S) h) : Ev E M R QX x y pc L (.int e :: S) h := K e rfl
theorem ev_nmJ {e : Int64} (K : ∀ a : Int64, a = e → Ev E M R QX x y pc L (.long a :: S) h) : Ev E M R QX x y pc L (.long e :: S) h := K e rfl
theorem ev_nmH (K : ∀ h2 : AH, h2 = h → Ev E M R QX x y pc L S h2) : Ev E M R QX x y pc L S h := K h rfl
theorem ev_eqI {e e' : Int32} (he : e = e') (K : Ev E M R QX x y pc L (.int e' :: S) h) : Ev E M R QX x y pc L (.int e :: S) h := he ▸ K
theorem ev_eqJ {e e' : Int64} (he : e = e') (K : Ev E M R QX x y pc L (.long e' :: S) h) : Ev E M R QX x y pc L (.long e :: S) h := he ▸ K
theorem ev_eqH {h' : AH} (he : h = h') (K : Ev E M R QX x y pc L S h') : Ev E M R QX x y pc L S h := he ▸ K
theorem ev_eqL {L' : List (Option Value)} (he : L = L') (K : Ev E M R QX x y pc L' S h) : Ev E M R QX x y pc L S h := he ▸ K
theorem ev_callSv {M2 : MM} {idx n d2 : Nat} {as T : List Value} {v : Value} {h2 : AH} (hd : decode M.2.1 pc = .ok (.invokestatic idx, 3)) (hM2 : MK M2 n) (hL2 : ML M.1.cls idx M2) (hst : Cond.static M2.1 ∈ tw) (hc : Con E M2 d2 0 0 as h (fun r h' => r = some v ∧ h' = h2)) (hT : T = as.reverse ++ S) (hn : as.length = n) (hW : (S.map Value.category).sum ≤ 8) (hRm : d2 + 1 ≤ R.frames ∧ 8 + (M2.2.2.1 + 11) + 43 * d2 ≤ R.locals) (hf : x ≤ R.cells ∧ y ≤ R.slots) (K : Ev E M R QX x y (pc + 3) L (v :: S) h2) : Ev E M R QX x y pc L T h :=
  ev_callS hd hM2 hL2 hst hc hT hn hW hRm hf (fun v h' q => by obtain ⟨rfl, rfl⟩ := q; exact K)
theorem ev_callS0 {M2 : MM} {idx n d2 : Nat} {as T : List Value} {h2 : AH} (hd : decode M.2.1 pc = .ok (.invokestatic idx, 3)) (hM2 : MK M2 n) (hL2 : ML M.1.cls idx M2) (hst : Cond.static M2.1 ∈ tw) (hc : Con E M2 d2 0 0 as h (fun r h' => r = none ∧ h' = h2)) (hT : T = as.reverse ++ S) (hn : as.length = n) (hW : (S.map Value.category).sum ≤ 8) (hRm : d2 + 1 ≤ R.frames ∧ 8 + (M2.2.2.1 + 11) + 43 * d2 ≤ R.locals) (hf : x ≤ R.cells ∧ y ≤ R.slots) (K : Ev E M R QX x y (pc + 3) L (S) h2) : Ev E M R QX x y pc L T h :=
  ev_callS hd hM2 hL2 hst hc hT hn hW hRm hf (fun v h' q => by obtain ⟨rfl, rfl⟩ := q; exact K)
theorem ev_callVv {M2 : MM} {idx n d2 k ci : Nat} {as T : List Value} {v : Value} {h2 : AH} (hd : decode M.2.1 pc = .ok (.invokevirtual idx, 3)) (hM2 : MK M2 n) (hL2 : ML M.1.cls idx M2) (hst : Cond.instanceMethod M2.1 ∈ tw ∧ Cond.selects M2.1.cls M2.1 M2.1 ∈ tw) (hc : Con E M2 d2 0 0 (.ref k :: as) h (fun r h' => r = some v ∧ h' = h2)) (hs : shp k = (0, ci)) (hci : classes[ci]?.map (fun r => r.1) = some M2.1.cls) (hk : k < h.1) (hT : T = as.reverse ++ .ref k :: S) (hn : as.length = n) (hW : (S.map Value.category).sum ≤ 8) (hRm : d2 + 1 ≤ R.frames ∧ 8 + (M2.2.2.1 + 11) + 43 * d2 ≤ R.locals) (hf : x ≤ R.cells ∧ y ≤ R.slots) (K : Ev E M R QX x y (pc + 3) L (v :: S) h2) : Ev E M R QX x y pc L T h :=
  ev_callV hd hM2 hL2 hst hc hs hci hk hT hn hW hRm hf (fun v h' q => by obtain ⟨rfl, rfl⟩ := q; exact K)
theorem ev_callV0 {M2 : MM} {idx n d2 k ci : Nat} {as T : List Value} {h2 : AH} (hd : decode M.2.1 pc = .ok (.invokevirtual idx, 3)) (hM2 : MK M2 n) (hL2 : ML M.1.cls idx M2) (hst : Cond.instanceMethod M2.1 ∈ tw ∧ Cond.selects M2.1.cls M2.1 M2.1 ∈ tw) (hc : Con E M2 d2 0 0 (.ref k :: as) h (fun r h' => r = none ∧ h' = h2)) (hs : shp k = (0, ci)) (hci : classes[ci]?.map (fun r => r.1) = some M2.1.cls) (hk : k < h.1) (hT : T = as.reverse ++ .ref k :: S) (hn : as.length = n) (hW : (S.map Value.category).sum ≤ 8) (hRm : d2 + 1 ≤ R.frames ∧ 8 + (M2.2.2.1 + 11) + 43 * d2 ≤ R.locals) (hf : x ≤ R.cells ∧ y ≤ R.slots) (K : Ev E M R QX x y (pc + 3) L (S) h2) : Ev E M R QX x y pc L T h :=
  ev_callV hd hM2 hL2 hst hc hs hci hk hT hn hW hRm hf (fun v h' q => by obtain ⟨rfl, rfl⟩ := q; exact K)
theorem ev_callI0 {M2 : MM} {idx n d2 k : Nat} {as T : List Value} {h2 : AH} (hd : decode M.2.1 pc = .ok (.invokespecial idx, 3)) (hM2 : MK M2 n) (hL2 : ML M.1.cls idx M2) (hst : Cond.instanceMethod M2.1 ∈ tw ∧ M2.1.name = "<init>" ∧ M2.2.2.2 = none) (hc : Con E M2 d2 0 0 (.ref k :: as) h (fun r h' => r = none ∧ h' = h2)) (hT : T = as.reverse ++ .ref k :: S) (hn : as.length = n) (hW : (S.map Value.category).sum ≤ 8) (hRm : d2 + 1 ≤ R.frames ∧ 8 + (M2.2.2.1 + 11) + 43 * d2 ≤ R.locals) (hf : x ≤ R.cells ∧ y ≤ R.slots) (K : Ev E M R QX x y (pc + 3) L (S) h2) : Ev E M R QX x y pc L T h :=
  ev_callI hd hM2 hL2 hst hc hT hn hW hRm hf (fun v h' q => by obtain ⟨rfl, rfl⟩ := q; exact K)
end EVN
