/-! ===== a light machine over the kit's: places for addresses, one picture of the whole heap ===== -/
def isNest : Cond → Bool
  | .fieldLinkNest .. => true
  | .methodLinkNest .. => true
  | _ => false
def tw : List Cond := lw_tbl.filter goodWord
def nests : List Cond := tables_1.filter isNest
theorem tw_i {w : Cond} (i : Nat) (h : tables_1[i]? = some w) (hg : goodWord w = true) : w ∈ tw := List.mem_filter.mpr ⟨List.mem_append_right _ (List.mem_of_getElem? h), hg⟩
theorem tw_p {w : Cond} (i : Nat) (h : (k2_sels lw_privs)[i]? = some w) (hg : goodWord w = true) : w ∈ tw := List.mem_filter.mpr ⟨List.mem_append_left _ (List.mem_of_getElem? h), hg⟩
theorem nest_i {w : Cond} (i : Nat) (h : tables_1[i]? = some w) (hg : isNest w = true) : w ∈ nests := List.mem_filter.mpr ⟨List.mem_of_getElem? h, hg⟩
theorem tw_good {w : Cond} (h : w ∈ tw) : (w.onTables && w.keeps) = true ∨ ∃ ty, w = .arrayClass ty := good_of_word (List.mem_filter.mp h).2
theorem nest_warm {s U : State} (hW : s.WarmedH U.vm) (h : ∀ w ∈ nests, va_Nw w s) : ∀ w ∈ nests, va_Nw w U := by
  intro w hw
  have h1 := h w hw
  have h2 := (List.mem_filter.mp hw).2
  cases w <;> first | exact va_Nw.warmF hW h1 | exact va_Nw.warmM hW h1 | (exact absurd h2 (by simp [isNest]))
theorem nest_same {u U : State} (hv : u.vm = U.vm) (h : ∀ w ∈ nests, va_Nw w u) : ∀ w ∈ nests, va_Nw w U := by
  intro w hw
  have h1 := h w hw
  have h2 := (List.mem_filter.mp hw).2
  cases w <;> first | exact va_Nw.same rfl hv h1 | (exact absurd h2 (by simp [isNest]))
/-- places allotted, ints, longs, references, by place and slot -/
abbrev AH : Type := Nat × (Nat → Nat → Int32) × (Nat → Nat → Int64) × (Nat → Nat → Option Nat)
/-- launch, tables' numbers, first address, addresses of what lies outside, array classes, facts outside -/
abbrev ME : Type := Launch × va_G × Nat × (Nat → Nat) × (Nat → ClassId) × (State → Heap → Prop)
/-- name, bytes, locals, type -/
abbrev MM : Type := MethodName × ByteArray × Nat × Option FieldType
def eB (E : ME) : Nat := E.2.2.1
def adr (E : ME) (k : Nat) : Nat := if k < 1000 then eB E + k else E.2.2.2.1 k
theorem adr_lt {E : ME} {k : Nat} (h : k < 1000) : adr E k = eB E + k := if_pos h
def cv (E : ME) (v : Value) : Value := match v with
  | .ref k => .ref (adr E k)
  | .int x => .int x
  | .long x => .long x
  | .float x => .float x
  | .double x => .double x
  | .null => .null
  | .retAddr x => .retAddr x
theorem cv_cat (E : ME) (v : Value) : (cv E v).category = v.category := by cases v <;> rfl
abbrev classes : List vw_C := [(RX0, TX0, 2), (RX1, TX1, 2), (RX2, TX2, 8), (RX3, TX3, 1), (RX4, TX4, 8), (RX5, TX5, 5), (RX6, TX6, 6), (RX7, TX7, 4), (RX8, TX8, 12), (RX9, TX9, 4), (RX10, TX10, 12), (RX11, TX11, 49)]
def ftL : List (List Nat) := [[2, 0], [2, 0], [2, 2, 2, 2, 1, 1, 0, 0], [2], [2, 2, 2, 0, 0, 0, 0, 0], [2, 2, 0, 0, 0], [2, 2, 2, 2, 0, 0], [2, 0, 0, 0], [2, 2, 2, 2, 2, 2, 2, 0, 0, 0, 0, 0], [2, 0, 0, 0], [2, 2, 2, 2, 2, 2, 2, 2, 2, 2, 2, 0], [2, 0, 0, 0, 0, 0, 0, 0, 0, 2, 2, 2, 2, 2, 0, 2, 0, 0, 2, 2, 2, 2, 2, 2, 0, 2, 0, 0, 2, 2, 0, 0, 2, 2, 2, 0, 2, 1, 0, 0, 0, 0, 2, 2, 2, 2, 2, 2, 0]]
def ftys (ci : Nat) : List Nat := ftL.getD ci []

def shL : List (Nat × Nat) := [(0, 10), (0, 9), (3, 400), (0, 8), (1, 12), (1, 12), (1, 12), (1, 12), (1, 6), (1, 6), (1, 64), (0, 8), (1, 12), (1, 12), (1, 12), (1, 12), (1, 6), (1, 6), (1, 64), (0, 5), (0, 6), (1, 12), (1, 12), (1, 4096), (1, 4096), (0, 2), (1, 64), (2, 6), (1, 512), (1, 64), (0, 0), (2, 384), (0, 3), (2, 6), (0, 1), (1, 24), (0, 4), (1, 256), (1, 256), (1, 256), (4, 4), (0, 7), (1, 64), (0, 7), (1, 64), (0, 7), (1, 64), (0, 7), (1, 64), (0, 11), (1, 400), (1, 7), (1, 28), (1, 12), (1, 12), (1, 12), (1, 64), (1, 6), (1, 6), (1, 12), (1, 12), (1, 12), (1, 12), (1, 64), (1, 6), (1, 6), (1, 12), (2, 4096), (1, 24), (1, 64), (1, 64), (1, 64), (1, 64), (1, 4), (1, 4), (1, 256)]
def shp (k : Nat) : Nat × Nat := shL.getD k (9, 0)
def fv (E : ME) (h : AH) (k j t : Nat) : Value := match t with
  | 0 => .int (h.2.1 k j)
  | 1 => .long (h.2.2.1 k j)
  | _ => va_rf ((h.2.2.2 k j).map (adr E))
def fvs (E : ME) (h : AH) (k : Nat) : Nat → List Nat → List Value
  | _, [] => []
  | j, t :: ts => fv E h k j t :: fvs E h k (j + 1) ts
def cE (E : ME) (h : AH) (k : Nat) : va_E := match shp k with
  | (0, ci) => .inr (ci, fvs E h k 0 (ftys ci))
  | (1, n) => .inl (E.2.2.2.2.1 0, n, .inl (h.2.1 k))
  | (2, n) => .inl (E.2.2.2.2.1 1, n, .inr (.inl (h.2.2.1 k)))
  | (3, n) => .inl (E.2.2.2.2.1 2, n, .inl (h.2.1 k))
  | (_, n) => .inl (E.2.2.2.2.1 3, n, .inr (.inr (.inr (.inr (fun j => (h.2.2.2 k j).map (adr E))))))
def tysE (E : ME) : List (ClassId × FieldType) := [(E.2.2.2.2.1 0, .int), (E.2.2.2.2.1 1, .long), (E.2.2.2.2.1 2, .byte), (E.2.2.2.2.1 3, .object RX7)]
def world (E : ME) (h : AH) : va_W := (List.range h.1).map (fun k => (adr E k, cE E h k))
theorem fvs_get {E : ME} {h : AH} {k t : Nat} : ∀ (ts : List Nat) (j0 j : Nat), ts[j]? = some t → (fvs E h k j0 ts)[j]? = some (fv E h k (j0 + j) t)
  | [], _, _, h => by simp at h
  | a :: ts, j0, 0, h => by
    simp at h
    subst h
    simp [fvs]
  | a :: ts, j0, j + 1, h => by
    simp at h
    simp only [fvs, List.getElem?_cons_succ]
    rw [fvs_get ts (j0 + 1) j h]
    congr 2
    omega
theorem fvs_len {E : ME} {h : AH} {k : Nat} : ∀ (ts : List Nat) (j0 : Nat), (fvs E h k j0 ts).length = ts.length
  | [], _ => rfl
  | _ :: ts, j0 => by simp [fvs, fvs_len ts (j0 + 1)]
theorem fvs_congr {E : ME} {h h' : AH} {k : Nat} : ∀ (ts : List Nat) (j0 : Nat), (∀ j t, ts[j]? = some t → fv E h' k (j0 + j) t = fv E h k (j0 + j) t) → fvs E h' k j0 ts = fvs E h k j0 ts
  | [], _, _ => rfl
  | a :: ts, j0, H => by
    have h0 := H 0 a (by simp)
    simp only [Nat.add_zero] at h0
    have e : fvs E h' k (j0 + 1) ts = fvs E h k (j0 + 1) ts := by
      refine fvs_congr ts (j0 + 1) (fun j t ht => ?_)
      have h9 := H (j + 1) t (by simpa using ht)
      rwa [show j0 + (j + 1) = j0 + 1 + j by omega] at h9
    simp only [fvs, h0, e]
theorem fvs_set {E : ME} {h h' : AH} {k : Nat} {v : Value} : ∀ (ts : List Nat) (j0 i : Nat) (ti : Nat), ts[i]? = some ti → fv E h' k (j0 + i) ti = v → (∀ j t, j ≠ i → ts[j]? = some t → fv E h' k (j0 + j) t = fv E h k (j0 + j) t) → (fvs E h k j0 ts).set i v = fvs E h' k j0 ts
  | [], _, _, _, h, _, _ => by simp at h
  | a :: ts, j0, 0, ti, hi, hv, H => by
    simp at hi
    subst hi
    simp only [fvs, List.set_cons_zero]
    simp only [Nat.add_zero] at hv
    rw [hv]
    congr 1
    exact (fvs_congr ts (j0 + 1) (fun j t ht => by
      have := H (j + 1) t (by omega) (by simpa using ht)
      rwa [show j0 + (j + 1) = j0 + 1 + j by omega] at this)).symm
  | a :: ts, j0, i + 1, ti, hi, hv, H => by
    have h0 := H 0 a (by omega) (by simp)
    simp only [Nat.add_zero] at h0
    simp only [fvs, List.set_cons_succ, h0]
    congr 1
    refine fvs_set ts (j0 + 1) i ti (by simpa using hi) (by rw [← hv]; congr 1; omega) (fun j t hj ht => ?_)
    have := H (j + 1) t (by omega) (by simpa using ht)
    rwa [show j0 + (j + 1) = j0 + 1 + j by omega] at this
theorem cE_congr {E : ME} {h h' : AH} {k : Nat} (h1 : h'.2.1 k = h.2.1 k) (h2 : h'.2.2.1 k = h.2.2.1 k) (h3 : h'.2.2.2 k = h.2.2.2 k) : cE E h' k = cE E h k := by
  have e : ∀ ts j0, fvs E h' k j0 ts = fvs E h k j0 ts := fun ts j0 => fvs_congr ts j0 (fun j t _ => by
    unfold fv
    split
    · rw [h1]
    · rw [h2]
    · rw [h3])
  unfold cE
  split
  · rw [e]
  · rw [h1]
  · rw [h2]
  · rw [h1]
  · rw [h3]
theorem cE_o {E : ME} {h : AH} {k ci : Nat} (hs : shp k = (0, ci)) : cE E h k = .inr (ci, fvs E h k 0 (ftys ci)) := by unfold cE; rw [hs] <;> rfl
theorem cE_i {E : ME} {h : AH} {k n : Nat} (hs : shp k = (1, n)) : cE E h k = .inl (E.2.2.2.2.1 0, n, .inl (h.2.1 k)) := by unfold cE; rw [hs] <;> rfl
theorem cE_l {E : ME} {h : AH} {k n : Nat} (hs : shp k = (2, n)) : cE E h k = .inl (E.2.2.2.2.1 1, n, .inr (.inl (h.2.2.1 k))) := by unfold cE; rw [hs] <;> rfl
theorem cE_b {E : ME} {h : AH} {k n : Nat} (hs : shp k = (3, n)) : cE E h k = .inl (E.2.2.2.2.1 2, n, .inl (h.2.1 k)) := by unfold cE; rw [hs] <;> rfl
theorem cE_r {E : ME} {h : AH} {k n : Nat} (hs : shp k = (4, n)) : cE E h k = .inl (E.2.2.2.2.1 3, n, .inr (.inr (.inr (.inr (fun j => (h.2.2.2 k j).map (adr E)))))) := by unfold cE; rw [hs] <;> rfl
theorem wd_get {E : ME} {h : AH} {k : Nat} (hk : k < h.1) : (world E h)[k]? = some (adr E k, cE E h k) := by
  simp [world, hk]
theorem wd_get' {E : ME} {h : AH} {k : Nat} {q : Nat × va_E} (hq : (world E h)[k]? = some q) : k < h.1 ∧ q = (adr E k, cE E h k) := by
  by_cases hk : k < h.1
  · rw [wd_get hk] at hq
    exact ⟨hk, (Option.some.inj hq).symm⟩
  · simp [world, hk] at hq
theorem wd_set {E : ME} {h h' : AH} {k : Nat} {e : va_E} (hk : k < h.1) (h1 : h'.1 = h.1) (he : cE E h' k = e) (ho : ∀ j, j ≠ k → cE E h' j = cE E h j) : (world E h).set k (adr E k, e) = world E h' := by
  apply List.ext_getElem?
  intro i
  by_cases hik : i = k
  · subst hik
    rw [List.getElem?_set_self (by simpa [world] using hk), wd_get (by omega), he]
  · rw [List.getElem?_set_ne (Ne.symm hik)]
    by_cases hi : i < h.1
    · rw [wd_get hi, wd_get (by omega), ho i hik]
    · simp [world, hi, h1]
theorem wd_D {E : ME} {h : AH} (hn : h.1 ≤ 900) : va_D (fun q => eB E ≤ q) (world E h) := by
  refine ⟨fun i j p q hi hj hpq => ?_, fun k q hk => ?_⟩
  · obtain ⟨h1, rfl⟩ := wd_get' hi
    obtain ⟨h2, rfl⟩ := wd_get' hj
    dsimp only at hpq
    rw [adr_lt (by omega), adr_lt (by omega)] at hpq
    omega
  · obtain ⟨h1, rfl⟩ := wd_get' hk
    show eB E ≤ adr E k
    rw [adr_lt (by omega)]
    omega
theorem wd_push {E : ME} {h h' : AH} {n : Nat} {e : va_E} (hn : h.1 = n) (h1 : h'.1 = n + 1) (he : cE E h' n = e) (ho : ∀ j, j ≠ n → cE E h' j = cE E h j) : world E h ++ [(adr E n, e)] = world E h' := by
  subst hn
  unfold world
  rw [h1, List.range_succ, List.map_append]
  congr 1
  · refine List.map_congr_left (fun k hk => ?_)
    have := List.mem_range.mp hk
    rw [ho k (by omega)]
  · simp [he]
/-- new heaps -/
def sI (h : AH) (k : Nat) (f : Nat → Int32) : AH := (h.1, fun q => if q = k then f else h.2.1 q, h.2.2.1, h.2.2.2)
def sL (h : AH) (k : Nat) (f : Nat → Int64) : AH := (h.1, h.2.1, fun q => if q = k then f else h.2.2.1 q, h.2.2.2)
def sR (h : AH) (k : Nat) (f : Nat → Option Nat) : AH := (h.1, h.2.1, h.2.2.1, fun q => if q = k then f else h.2.2.2 q)
/-- locals: by their numbers -/
def asc (E : ME) : Nat → List (Option Value) → List (Nat × Value)
  | _, [] => []
  | i, none :: t => asc E (i + 1) t
  | i, some v :: t => (i, cv E v) :: asc E (i + 1) t
theorem asc_mem {E : ME} {v : Value} : ∀ (L : List (Option Value)) (i j : Nat), L[j]? = some (some v) → (i + j, cv E v) ∈ asc E i L
  | [], _, _, h => by simp at h
  | none :: t, i, 0, h => by simp at h
  | some a :: t, i, 0, h => by
    simp at h
    subst h
    simp [asc]
  | none :: t, i, j + 1, h => by
    have := asc_mem (E := E) (v := v) t (i + 1) j (by simpa using h)
    rw [show i + 1 + j = i + (j + 1) by omega] at this
    exact this
  | some a :: t, i, j + 1, h => by
    have := asc_mem (E := E) (v := v) t (i + 1) j (by simpa using h)
    rw [show i + 1 + j = i + (j + 1) by omega] at this
    exact List.mem_cons_of_mem _ this
theorem asc_of {E : ME} {q : Nat × Value} : ∀ (L : List (Option Value)) (i : Nat), q ∈ asc E i L → ∃ j v, L[j]? = some (some v) ∧ q = (i + j, cv E v)
  | [], _, h => by simp [asc] at h
  | none :: t, i, h => by
    obtain ⟨j, v, h1, h2⟩ := asc_of (E := E) t (i + 1) h
    exact ⟨j + 1, v, by simpa using h1, by rw [h2]; congr 1; omega⟩
  | some a :: t, i, h => by
    rcases List.mem_cons.mp h with h | h
    · exact ⟨0, a, by simp, by simpa using h⟩
    · obtain ⟨j, v, h1, h2⟩ := asc_of (E := E) t (i + 1) h
      exact ⟨j + 1, v, by simpa using h1, by rw [h2]; congr 1; omega⟩
def lk (E : ME) (ls : Array Slot) (n : Nat) (L : List (Option Value)) : Prop := lv_has ls n (asc E 0 L)
theorem lk_at {E : ME} {ls : Array Slot} {n i : Nat} {L : List (Option Value)} {v : Value} (h : lk E ls n L) (hi : L[i]? = some (some v)) : ls[i]? = some (.val (cv E v)) := by
  have := h.2.2 _ (asc_mem (E := E) L 0 i hi)
  rwa [Nat.zero_add] at this
theorem lk_less {E : ME} {ls : Array Slot} {n : Nat} {L L' : List (Option Value)} (h : lk E ls n L) (hs : ∀ (i : Nat) (v : Value), L'[i]? = some (some v) → L[i]? = some (some v)) : lk E ls n L' := by
  refine ⟨h.1, h.2.1, fun q hq => ?_⟩
  obtain ⟨j, v, h1, rfl⟩ := asc_of L' 0 hq
  exact h.2.2 _ (asc_mem L 0 j (hs j v h1))
def pre2 (L : List (Option Value)) : Nat → List (Option Value)
  | 0 => L
  | j + 1 => match L[j]? with
    | some (some v) => if v.category = 2 then L.set j none else L
    | _ => L
def st1 (L : List (Option Value)) (i : Nat) (v : Value) : List (Option Value) := (pre2 L i).set i (some v)
def st2 (L : List (Option Value)) (i : Nat) (v : Value) : List (Option Value) := ((pre2 L i).set i (some v)).set (i + 1) none
theorem pre2_get {L : List (Option Value)} {i j : Nat} {w : Value} (h : (pre2 L i)[j]? = some (some w)) : L[j]? = some (some w) ∧ ¬ (j + 1 = i ∧ w.category = 2) := by
  cases i with
  | zero => exact ⟨h, fun q => by omega⟩
  | succ k =>
    simp only [pre2] at h
    split at h
    · rename_i v hv
      split at h
      · by_cases hjk : j = k
        · subst hjk
          have hl : j < L.length := (List.getElem?_eq_some_iff.mp hv).1
          rw [List.getElem?_set_self hl] at h
          cases h
        · rw [List.getElem?_set_ne (Ne.symm hjk)] at h
          exact ⟨h, fun q => hjk (by omega)⟩
      · rename_i hc
        refine ⟨h, fun q => ?_⟩
        have : j = k := by omega
        subst this
        rw [hv] at h
        cases h
        exact hc q.2
    · rename_i hn
      refine ⟨h, fun q => ?_⟩
      have : j = k := by omega
      subst this
      exact hn w h
theorem st1_mem {E : ME} {L : List (Option Value)} {i : Nat} {v : Value} {q : Nat × Value} (hq : q ∈ asc E 0 (st1 L i v)) : q ∈ (i, cv E v) :: (asc E 0 L).filter (fun q => !(q.1 == i) && !(q.1 + 1 == i && q.2.category == 2)) := by
  obtain ⟨j, w, h1, rfl⟩ := asc_of _ 0 hq
  rw [Nat.zero_add]
  unfold st1 at h1
  by_cases hji : j = i
  · subst hji
    have hl : j < (pre2 L j).length := by
      have := (List.getElem?_eq_some_iff.mp h1).1
      simpa using this
    rw [List.getElem?_set_self hl] at h1
    cases h1
    exact List.mem_cons_self
  · rw [List.getElem?_set_ne (Ne.symm hji)] at h1
    obtain ⟨h2, h3⟩ := pre2_get h1
    refine List.mem_cons_of_mem _ (List.mem_filter.mpr ⟨by have := asc_mem (E := E) L 0 j h2; rwa [Nat.zero_add] at this, ?_⟩)
    simp only [cv_cat]
    simp only [Bool.and_eq_true, Bool.not_eq_true', beq_eq_false_iff_ne, Bool.and_eq_false_imp, beq_iff_eq]
    exact ⟨hji, fun a b => h3 ⟨a, b⟩⟩
theorem st2_mem {E : ME} {L : List (Option Value)} {i : Nat} {v : Value} {q : Nat × Value} (hq : q ∈ asc E 0 (st2 L i v)) : q ∈ (i, cv E v) :: (asc E 0 L).filter (fun q => !(q.1 == i) && (!(q.1 == i + 1) && !(q.1 + 1 == i && q.2.category == 2))) := by
  obtain ⟨j, w, h1, rfl⟩ := asc_of _ 0 hq
  rw [Nat.zero_add]
  unfold st2 at h1
  by_cases hj1 : j = i + 1
  · subst hj1
    have hl : i + 1 < ((pre2 L i).set i (some v)).length := by
      have := (List.getElem?_eq_some_iff.mp h1).1
      simpa using this
    rw [List.getElem?_set_self hl] at h1
    cases h1
  · rw [List.getElem?_set_ne (Ne.symm hj1)] at h1
    by_cases hji : j = i
    · subst hji
      have hl : j < (pre2 L j).length := by
        have := (List.getElem?_eq_some_iff.mp h1).1
        simpa using this
      rw [List.getElem?_set_self hl] at h1
      cases h1
      exact List.mem_cons_self
    · rw [List.getElem?_set_ne (Ne.symm hji)] at h1
      obtain ⟨h2, h3⟩ := pre2_get h1
      refine List.mem_cons_of_mem _ (List.mem_filter.mpr ⟨by have := asc_mem (E := E) L 0 j h2; rwa [Nat.zero_add] at this, ?_⟩)
      simp only [cv_cat]
      simp only [Bool.and_eq_true, Bool.not_eq_true', beq_eq_false_iff_ne, Bool.and_eq_false_imp, beq_iff_eq]
      exact ⟨hji, hj1, fun a b => h3 ⟨a, b⟩⟩
theorem lk_sub {E : ME} {ls : Array Slot} {n : Nat} {L : List (Option Value)} {lv : List (Nat × Value)} (h : lv_has ls n lv) (hs : ∀ q ∈ asc E 0 L, q ∈ lv) : lk E ls n L := ⟨h.1, h.2.1, fun q hq => h.2.2 q (hs q hq)⟩
/-- a method's locals at its entry -/
def entA : List Value → List (Option Value)
  | [] => []
  | v :: t => if v.category = 2 then some v :: none :: entA t else some v :: entA t
def entL (vs : List Value) (n : Nat) : List (Option Value) := entA vs ++ List.replicate (n - (entA vs).length) none
theorem lv_args_mem {v : Value} : ∀ (vs : List Value) (i j : Nat) (E : ME), (entA vs)[j]? = some (some v) → (i + j, cv E v) ∈ lv_args i (vs.map (cv E))
  | [], _, _, _, h => by simp [entA] at h
  | a :: t, i, j, E, h => by
    unfold entA at h
    simp only [List.map_cons, lv_args, cv_cat]
    by_cases hc : a.category = 2
    · simp only [hc, if_true] at h ⊢
      match j, h with
      | 0, h => simp at h; subst h; simp
      | 1, h => simp at h
      | j + 2, h =>
        refine List.mem_cons_of_mem _ ?_
        have := lv_args_mem (v := v) t (i + 2) j E (by simpa using h)
        rwa [show i + 2 + j = i + (j + 2) by omega] at this
    · simp only [hc, if_false] at h ⊢
      match j, h with
      | 0, h => simp at h; subst h; simp
      | j + 1, h =>
        refine List.mem_cons_of_mem _ ?_
        have := lv_args_mem (v := v) t (i + 1) j E (by simpa using h)
        rwa [show i + 1 + j = i + (j + 1) by omega] at this
theorem entL_lk {E : ME} {vs : List Value} {n : Nat} {ls : Array Slot} (h : lv_has ls n (lv_args 0 (vs.map (cv E)))) : lk E ls n (entL vs n) := by
  refine lk_sub h (fun q hq => ?_)
  obtain ⟨j, v, h1, rfl⟩ := asc_of _ 0 hq
  rw [Nat.zero_add]
  have h2 : (entA vs)[j]? = some (some v) := by
    unfold entL at h1
    by_cases hj : j < (entA vs).length
    · rwa [List.getElem?_append_left hj] at h1
    · rw [List.getElem?_append_right (by omega), List.getElem?_replicate] at h1
      split at h1 <;> cases h1
  have := lv_args_mem vs 0 j E h2
  rwa [Nat.zero_add] at this
/-- what lies outside keeps, whatever the machine warms and whatever is written from the first address on -/
def EOK (E : ME) : Prop := (∀ (s U : State) (H : Heap), s.WarmedH U.vm → E.2.2.2.2.2 s H → E.2.2.2.2.2 U H) ∧ (∀ (u U : State) (H : Heap), u.vm = U.vm → E.2.2.2.2.2 u H → E.2.2.2.2.2 U H) ∧ ∀ (U : State) (H H1 : Heap), (∀ a : Nat, a < H.size → a < eB E → H1[a]? = H[a]?) → E.2.2.2.2.2 U H → E.2.2.2.2.2 U H1
def Gm (E : ME) (M : MM) (p : Program) (s : State) (m : MethodId) (args : Array Value) (meth : Method) (c : Code) : Prop :=
  p.tables.exec = Jvm.exec ∧ c.code = M.2.1 ∧ c.maxLocals = M.2.2.1 ∧ s.vm.findClass M.1.cls = some m.cls ∧ (∀ w ∈ tw, w.before args s = true) ∧ va_K E.2.1 classes (tysE E) s ∧ (∀ w ∈ nests, va_Nw w s) ∧ meth.locks = false ∧ meth.sig.returnType = M.2.2.2 ∧ meth.name = M.1.name ∧ EOK E ∧ eB E ≤ s.heap.size ∧ E.2.2.2.2.2 s s.heap
def Rp (E : ME) (h : AH) (H : Heap) : Prop := va_P E.2.1 classes (world E h) H ∧ H.size = eB E + h.1 ∧ h.1 ≤ 900
abbrev PO : Type := Option Value → AH → Prop
def QQ (E : ME) (post : PO) : Array Value → State → Outcome → State → Prop := fun _ st oc t => ∃ (v : Option Value) (h' : AH), oc = .returned (v.map (cv E)) ∧ post v h' ∧ Rp E h' t.heap ∧ va_F (fun q => eB E ≤ q) st t
def rmm (d mc ms : Nat) : Room := { frames := d, cells := mc, slots := ms, locals := 43 * d }
def Pre (E : ME) (h : AH) (U : State) : Prop := Rp E h U.heap ∧ va_K E.2.1 classes (tysE E) U ∧ (∀ w ∈ nests, va_Nw w U) ∧ EOK E ∧ E.2.2.2.2.2 U U.heap
/-- a method's contract -/
def Con (E : ME) (M : MM) (d mc ms : Nat) (as : List Value) (h : AH) (post : PO) : Prop :=
  Met E.1 M.1 (.code M.1 M.2.1 M.2.2.1 M.2.2.2 :: tw) (rmm d mc ms) (va_Pc (as.map (cv E)) (Pre E h)) (QQ E post) mc ms (fun q => eB E ≤ q)
/-- from here on the method comes to its end -/
def Ev (E : ME) (M : MM) (R : Room) (QX : List Frame → Array Value → State → State → Prop) (x y pc : Nat) (L : List (Option Value)) (S : List Value) (h : AH) : Prop :=
  ∀ (p : Program) (e : Env) (s : State) (m : MethodId) (args : Array Value) (below : List Frame) (meth : Method) (c : Code), Gm E M p s m args meth c →
  ∀ (H : Heap) (locs : List Loc) (ls : Array Slot), Rp E h H → va_S (fun q => eB E ≤ q) s.heap H locs → lk E ls M.2.2.1 L →
  W p E.1 e R s m args below meth c H locs x y (QX below args s) (F0 m pc ls (S.map (cv E)))
/-- a method's end, with a post -/
def QM (E : ME) (mc ms : Nat) (post : PO) : List Frame → Array Value → State → State → Prop := fun below args s => MQ below (QQ E post) args s mc ms (fun q => eB E ≤ q)
theorem con_of {E : ME} {M : MM} {d mc ms : Nat} {as : List Value} {h : AH} {post : PO} (hy : plainName M.1.cls = true) (hl : (lg_sl (as.map (cv E))).length ≤ M.2.2.1) (K : Ev E M (rmm d mc ms) (QM E mc ms post) 0 0 0 (entL as M.2.2.1) [] h) : Con E M d mc ms as h post := by
  refine Met.ofW (cc := M.2.1) (maxL := M.2.2.1) (ret := M.2.2.2) hy rfl ?_
  intro p e s m args below meth c s₁ B hml hv
  obtain ⟨rfl, hR, hK, hN, hE, hX⟩ := hv
  have hts := atoms_spec (ws := .code M.1 M.2.1 M.2.2.1 M.2.2.2 :: tw) B.pre
  have hent := lv_entry (as.map (cv E)) (n := M.2.2.1) hl
  rw [lg_entry_eq]
  exact K p e s m _ below meth c ⟨B.exec, B.bytes, hml, findClass_of_methodNamed B.named, fun w hw => hts w (List.mem_cons_of_mem _ hw), hK, hN, B.notSynchronized, B.returns, (name_of_methodNamed B.named B.method).1, hE, by rw [hR.2.1]; omega, hX⟩ s.heap [] _ hR va_S.rf (entL_lk hent)

section EV
variable {E : ME} {M : MM} {R : Room} {QX : List Frame → Array Value → State → State → Prop} {x y pc : Nat} {L : List (Option Value)} {S : List Value} {h : AH}
theorem ev_less {L' : List (Option Value)} (hs : ∀ (i : Nat) (v : Value), L'[i]? = some (some v) → L[i]? = some (some v)) (K : Ev E M R QX x y pc L' S h) : Ev E M R QX x y pc L S h :=
  fun p e s m args below meth c G H locs ls hR hS hl => K p e s m args below meth c G H locs ls hR hS (lk_less hl hs)
theorem ev_iadd {a b : Int32} (hd : decode M.2.1 pc = .ok (.iadd, 1)) (K : Ev E M R QX x y (pc + 1) L (.int (a + b) :: S) h) : Ev E M R QX x y pc L (.int b :: .int a :: S) h := by
  intro p e s m args below meth c G H locs ls hR hS hl
  exact lv_iadd G.1 G.2.1 hd (K p e s m args below meth c G H locs ls hR hS hl)
theorem ev_isub {a b : Int32} (hd : decode M.2.1 pc = .ok (.isub, 1)) (K : Ev E M R QX x y (pc + 1) L (.int (a - b) :: S) h) : Ev E M R QX x y pc L (.int b :: .int a :: S) h := by
  intro p e s m args below meth c G H locs ls hR hS hl
  exact lv_isub G.1 G.2.1 hd (K p e s m args below meth c G H locs ls hR hS hl)
theorem ev_imul {a b : Int32} (hd : decode M.2.1 pc = .ok (.imul, 1)) (K : Ev E M R QX x y (pc + 1) L (.int (a * b) :: S) h) : Ev E M R QX x y pc L (.int b :: .int a :: S) h := by
  intro p e s m args below meth c G H locs ls hR hS hl
  exact lv_imul G.1 G.2.1 hd (K p e s m args below meth c G H locs ls hR hS hl)
theorem ev_iand {a b : Int32} (hd : decode M.2.1 pc = .ok (.iand, 1)) (K : Ev E M R QX x y (pc + 1) L (.int (a &&& b) :: S) h) : Ev E M R QX x y pc L (.int b :: .int a :: S) h := by
  intro p e s m args below meth c G H locs ls hR hS hl
  exact lv_iand G.1 G.2.1 hd (K p e s m args below meth c G H locs ls hR hS hl)
theorem ev_ior {a b : Int32} (hd : decode M.2.1 pc = .ok (.ior, 1)) (K : Ev E M R QX x y (pc + 1) L (.int (a ||| b) :: S) h) : Ev E M R QX x y pc L (.int b :: .int a :: S) h := by
  intro p e s m args below meth c G H locs ls hR hS hl
  exact lv_ior G.1 G.2.1 hd (K p e s m args below meth c G H locs ls hR hS hl)
theorem ev_ixor {a b : Int32} (hd : decode M.2.1 pc = .ok (.ixor, 1)) (K : Ev E M R QX x y (pc + 1) L (.int (a ^^^ b) :: S) h) : Ev E M R QX x y pc L (.int b :: .int a :: S) h := by
  intro p e s m args below meth c G H locs ls hR hS hl
  exact lv_ixor G.1 G.2.1 hd (K p e s m args below meth c G H locs ls hR hS hl)
theorem ev_ishl {a b : Int32} (hd : decode M.2.1 pc = .ok (.ishl, 1)) (K : Ev E M R QX x y (pc + 1) L (.int (a <<< (b &&& 31)) :: S) h) : Ev E M R QX x y pc L (.int b :: .int a :: S) h := by
  intro p e s m args below meth c G H locs ls hR hS hl
  exact lv_ishl G.1 G.2.1 hd (K p e s m args below meth c G H locs ls hR hS hl)
theorem ev_ishr {a b : Int32} (hd : decode M.2.1 pc = .ok (.ishr, 1)) (K : Ev E M R QX x y (pc + 1) L (.int (a >>> (b &&& 31)) :: S) h) : Ev E M R QX x y pc L (.int b :: .int a :: S) h := by
  intro p e s m args below meth c G H locs ls hR hS hl
  exact lv_ishr G.1 G.2.1 hd (K p e s m args below meth c G H locs ls hR hS hl)
theorem ev_ladd {a b : Int64} (hd : decode M.2.1 pc = .ok (.ladd, 1)) (K : Ev E M R QX x y (pc + 1) L (.long (a + b) :: S) h) : Ev E M R QX x y pc L (.long b :: .long a :: S) h := by
  intro p e s m args below meth c G H locs ls hR hS hl
  exact lv_ladd G.1 G.2.1 hd (K p e s m args below meth c G H locs ls hR hS hl)
theorem ev_lsub {a b : Int64} (hd : decode M.2.1 pc = .ok (.lsub, 1)) (K : Ev E M R QX x y (pc + 1) L (.long (a - b) :: S) h) : Ev E M R QX x y pc L (.long b :: .long a :: S) h := by
  intro p e s m args below meth c G H locs ls hR hS hl
  exact lv_lsub G.1 G.2.1 hd (K p e s m args below meth c G H locs ls hR hS hl)
theorem ev_lmul {a b : Int64} (hd : decode M.2.1 pc = .ok (.lmul, 1)) (K : Ev E M R QX x y (pc + 1) L (.long (a * b) :: S) h) : Ev E M R QX x y pc L (.long b :: .long a :: S) h := by
  intro p e s m args below meth c G H locs ls hR hS hl
  exact lv_lmul G.1 G.2.1 hd (K p e s m args below meth c G H locs ls hR hS hl)
theorem ev_land {a b : Int64} (hd : decode M.2.1 pc = .ok (.land, 1)) (K : Ev E M R QX x y (pc + 1) L (.long (a &&& b) :: S) h) : Ev E M R QX x y pc L (.long b :: .long a :: S) h := by
  intro p e s m args below meth c G H locs ls hR hS hl
  exact lv_land G.1 G.2.1 hd (K p e s m args below meth c G H locs ls hR hS hl)
theorem ev_lor {a b : Int64} (hd : decode M.2.1 pc = .ok (.lor, 1)) (K : Ev E M R QX x y (pc + 1) L (.long (a ||| b) :: S) h) : Ev E M R QX x y pc L (.long b :: .long a :: S) h := by
  intro p e s m args below meth c G H locs ls hR hS hl
  exact lv_lor G.1 G.2.1 hd (K p e s m args below meth c G H locs ls hR hS hl)
theorem ev_lxor {a b : Int64} (hd : decode M.2.1 pc = .ok (.lxor, 1)) (K : Ev E M R QX x y (pc + 1) L (.long (a ^^^ b) :: S) h) : Ev E M R QX x y pc L (.long b :: .long a :: S) h := by
  intro p e s m args below meth c G H locs ls hR hS hl
  exact lv_lxor G.1 G.2.1 hd (K p e s m args below meth c G H locs ls hR hS hl)
theorem ev_iushr {a b : Int32} (hd : decode M.2.1 pc = .ok (.iushr, 1)) (K : Ev E M R QX x y (pc + 1) L (.int ((a.toUInt32 >>> (b.toUInt32 &&& Int32.toUInt32 31)).toInt32) :: S) h) : Ev E M R QX x y pc L (.int b :: .int a :: S) h := by
  intro p e s m args below meth c G H locs ls hR hS hl
  exact lv_iushr G.1 G.2.1 hd rfl (K p e s m args below meth c G H locs ls hR hS hl)
theorem ev_lshl {a : Int64} {b : Int32} (hd : decode M.2.1 pc = .ok (.lshl, 1)) (K : Ev E M R QX x y (pc + 1) L (.long (a <<< (b.toInt64 &&& 63)) :: S) h) : Ev E M R QX x y pc L (.int b :: .long a :: S) h := by
  intro p e s m args below meth c G H locs ls hR hS hl
  exact lv_lshl G.1 G.2.1 hd rfl (K p e s m args below meth c G H locs ls hR hS hl)
theorem ev_lshr {a : Int64} {b : Int32} (hd : decode M.2.1 pc = .ok (.lshr, 1)) (K : Ev E M R QX x y (pc + 1) L (.long (a >>> (b.toInt64 &&& 63)) :: S) h) : Ev E M R QX x y pc L (.int b :: .long a :: S) h := by
  intro p e s m args below meth c G H locs ls hR hS hl
  exact lv_lshr G.1 G.2.1 hd rfl (K p e s m args below meth c G H locs ls hR hS hl)
theorem ev_lushr {a : Int64} {b : Int32} (hd : decode M.2.1 pc = .ok (.lushr, 1)) (K : Ev E M R QX x y (pc + 1) L (.long ((a.toUInt64 >>> (b.toInt64.toUInt64 &&& Int64.toUInt64 63)).toInt64) :: S) h) : Ev E M R QX x y pc L (.int b :: .long a :: S) h := by
  intro p e s m args below meth c G H locs ls hR hS hl
  exact lv_lushr G.1 G.2.1 hd rfl (K p e s m args below meth c G H locs ls hR hS hl)
theorem ev_idiv {a b : Int32} (hd : decode M.2.1 pc = .ok (.idiv, 1)) (hn : ¬ b = 0) (K : Ev E M R QX x y (pc + 1) L (.int (a / b) :: S) h) : Ev E M R QX x y pc L (.int b :: .int a :: S) h := by
  intro p e s m args below meth c G H locs ls hR hS hl
  exact lv_idiv G.1 G.2.1 hd hn (K p e s m args below meth c G H locs ls hR hS hl)
theorem ev_irem {a b : Int32} (hd : decode M.2.1 pc = .ok (.irem, 1)) (hn : ¬ b = 0) (K : Ev E M R QX x y (pc + 1) L (.int (a - a / b * b) :: S) h) : Ev E M R QX x y pc L (.int b :: .int a :: S) h := by
  intro p e s m args below meth c G H locs ls hR hS hl
  exact lv_irem G.1 G.2.1 hd hn (K p e s m args below meth c G H locs ls hR hS hl)
theorem ev_ldiv {a b : Int64} (hd : decode M.2.1 pc = .ok (.ldiv, 1)) (hn : ¬ b = 0) (K : Ev E M R QX x y (pc + 1) L (.long (a / b) :: S) h) : Ev E M R QX x y pc L (.long b :: .long a :: S) h := by
  intro p e s m args below meth c G H locs ls hR hS hl
  exact lv_ldiv G.1 G.2.1 hd hn (K p e s m args below meth c G H locs ls hR hS hl)
theorem ev_lrem {a b : Int64} (hd : decode M.2.1 pc = .ok (.lrem, 1)) (hn : ¬ b = 0) (K : Ev E M R QX x y (pc + 1) L (.long (a - a / b * b) :: S) h) : Ev E M R QX x y pc L (.long b :: .long a :: S) h := by
  intro p e s m args below meth c G H locs ls hR hS hl
  exact lv_lrem G.1 G.2.1 hd hn (K p e s m args below meth c G H locs ls hR hS hl)
theorem ev_ineg {a : Int32} (hd : decode M.2.1 pc = .ok (.ineg, 1)) (K : Ev E M R QX x y (pc + 1) L (.int (-a) :: S) h) : Ev E M R QX x y pc L (.int a :: S) h := by
  intro p e s m args below meth c G H locs ls hR hS hl
  exact lv_ineg G.1 G.2.1 hd (K p e s m args below meth c G H locs ls hR hS hl)
theorem ev_i2l {a : Int32} (hd : decode M.2.1 pc = .ok (.i2l, 1)) (K : Ev E M R QX x y (pc + 1) L (.long a.toInt64 :: S) h) : Ev E M R QX x y pc L (.int a :: S) h := by
  intro p e s m args below meth c G H locs ls hR hS hl
  exact lv_i2l G.1 G.2.1 hd rfl (K p e s m args below meth c G H locs ls hR hS hl)
theorem ev_l2i {a : Int64} (hd : decode M.2.1 pc = .ok (.l2i, 1)) (K : Ev E M R QX x y (pc + 1) L (.int a.toInt32 :: S) h) : Ev E M R QX x y pc L (.long a :: S) h := by
  intro p e s m args below meth c G H locs ls hR hS hl
  exact lv_l2i G.1 G.2.1 hd rfl (K p e s m args below meth c G H locs ls hR hS hl)
theorem ev_i2b {a : Int32} (hd : decode M.2.1 pc = .ok (.i2b, 1)) (K : Ev E M R QX x y (pc + 1) L (.int a.toInt8.toInt32 :: S) h) : Ev E M R QX x y pc L (.int a :: S) h := by
  intro p e s m args below meth c G H locs ls hR hS hl
  exact lv_i2b G.1 G.2.1 hd rfl (K p e s m args below meth c G H locs ls hR hS hl)
theorem ev_i2s {a : Int32} (hd : decode M.2.1 pc = .ok (.i2s, 1)) (K : Ev E M R QX x y (pc + 1) L (.int a.toInt16.toInt32 :: S) h) : Ev E M R QX x y pc L (.int a :: S) h := by
  intro p e s m args below meth c G H locs ls hR hS hl
  exact lv_i2s G.1 G.2.1 hd rfl (K p e s m args below meth c G H locs ls hR hS hl)
theorem ev_lcmp {a b : Int64} (hd : decode M.2.1 pc = .ok (.lcmp, 1)) (K : Ev E M R QX x y (pc + 1) L (.int (lg_cmp a b) :: S) h) : Ev E M R QX x y pc L (.long b :: .long a :: S) h := by
  intro p e s m args below meth c G H locs ls hR hS hl
  exact W.lcmp G.1 G.2.1 hd (K p e s m args below meth c G H locs ls hR hS hl)
theorem ev_iconst {n : Int} {v : Int32} (hd : decode M.2.1 pc = .ok (.iconst n, 1)) (hv : Int32.ofInt n = v) (K : Ev E M R QX x y (pc + 1) L (.int v :: S) h) : Ev E M R QX x y pc L (S) h := by
  intro p e s m args below meth c G H locs ls hR hS hl
  exact lv_iconst G.1 G.2.1 hd hv (K p e s m args below meth c G H locs ls hR hS hl)
theorem ev_bipush {n : Int} {v : Int32} (hd : decode M.2.1 pc = .ok (.bipush n, 2)) (hv : (Int8.ofInt n).toInt32 = v) (K : Ev E M R QX x y (pc + 2) L (.int v :: S) h) : Ev E M R QX x y pc L (S) h := by
  intro p e s m args below meth c G H locs ls hR hS hl
  exact lv_bipush G.1 G.2.1 hd hv (K p e s m args below meth c G H locs ls hR hS hl)
theorem ev_sipush {n : Int} {v : Int32} (hd : decode M.2.1 pc = .ok (.sipush n, 3)) (hv : (Int16.ofInt n).toInt32 = v) (K : Ev E M R QX x y (pc + 3) L (.int v :: S) h) : Ev E M R QX x y pc L (S) h := by
  intro p e s m args below meth c G H locs ls hR hS hl
  exact lv_sipush G.1 G.2.1 hd hv (K p e s m args below meth c G H locs ls hR hS hl)
theorem ev_lconst {n : Fin 2} {v : Int64} (hd : decode M.2.1 pc = .ok (.lconst n, 1)) (hv : Int64.ofNat (n : Nat) = v) (K : Ev E M R QX x y (pc + 1) L (.long v :: S) h) : Ev E M R QX x y pc L (S) h := by
  intro p e s m args below meth c G H locs ls hR hS hl
  exact lv_lconst G.1 G.2.1 hd hv (K p e s m args below meth c G H locs ls hR hS hl)
theorem ev_ldc {i : Nat} {v : Int32} (hd : decode M.2.1 pc = .ok (.ldc i, 2)) (hw : Cond.constant M.1.cls i v ∈ tw) (K : Ev E M R QX x y (pc + 2) L (.int v :: S) h) : Ev E M R QX x y pc L (S) h := by
  intro p e s m args below meth c G H locs ls hR hS hl
  exact lv_ldc G.1 G.2.1 G.2.2.2.1 (G.2.2.2.2.1 _ hw) hd (K p e s m args below meth c G H locs ls hR hS hl)
theorem ev_ldcw {i : Nat} {v : Int32} (hd : decode M.2.1 pc = .ok (.ldc_w i, 3)) (hw : Cond.constant M.1.cls i v ∈ tw) (K : Ev E M R QX x y (pc + 3) L (.int v :: S) h) : Ev E M R QX x y pc L (S) h := by
  intro p e s m args below meth c G H locs ls hR hS hl
  exact lv_ldcw G.1 G.2.1 G.2.2.2.1 (G.2.2.2.2.1 _ hw) hd (K p e s m args below meth c G H locs ls hR hS hl)
theorem ev_ldc2 {i : Nat} {v : Int64} (hd : decode M.2.1 pc = .ok (.ldc2_w i, 3)) (hw : Cond.constantLong M.1.cls i v ∈ tw) (K : Ev E M R QX x y (pc + 3) L (.long v :: S) h) : Ev E M R QX x y pc L (S) h := by
  intro p e s m args below meth c G H locs ls hR hS hl
  exact lv_ldc2 G.1 G.2.1 G.2.2.2.1 (G.2.2.2.2.1 _ hw) hd (K p e s m args below meth c G H locs ls hR hS hl)
theorem ev_dup {a : Value} (hd : decode M.2.1 pc = .ok (.dup, 1)) (hc : a.category = 1) (K : Ev E M R QX x y (pc + 1) L (a :: a :: S) h) : Ev E M R QX x y pc L (a :: S) h := by
  intro p e s m args below meth c G H locs ls hR hS hl
  exact lv_dup G.1 G.2.1 hd (by rw [cv_cat]; exact hc) (K p e s m args below meth c G H locs ls hR hS hl)
theorem ev_pop {a : Value} (hd : decode M.2.1 pc = .ok (.pop, 1)) (hc : a.category = 1) (K : Ev E M R QX x y (pc + 1) L (S) h) : Ev E M R QX x y pc L (a :: S) h := by
  intro p e s m args below meth c G H locs ls hR hS hl
  exact lv_pop G.1 G.2.1 hd (by rw [cv_cat]; exact hc) (K p e s m args below meth c G H locs ls hR hS hl)
theorem ev_dup2 {a b : Value} (hd : decode M.2.1 pc = .ok (.dup2, 1)) (hc : a.category = 1) (hc2 : b.category = 1) (K : Ev E M R QX x y (pc + 1) L (a :: b :: a :: b :: S) h) : Ev E M R QX x y pc L (a :: b :: S) h := by
  intro p e s m args below meth c G H locs ls hR hS hl
  exact lv_dup2_11 G.1 G.2.1 hd (by rw [cv_cat]; exact hc) (by rw [cv_cat]; exact hc2) (K p e s m args below meth c G H locs ls hR hS hl)
theorem ev_iload_n {k : Fin 4} {a : Int32} (hd : decode M.2.1 pc = .ok (.iload_n k, 1)) (hi : L[(k : Nat)]? = some (some (.int a))) (K : Ev E M R QX x y (pc + 1) L (.int a :: S) h) : Ev E M R QX x y pc L (S) h := by
  intro p e s m args below meth c G H locs ls hR hS hl
  exact lv_iload_n G.1 G.2.1 hd rfl (lk_at hl hi) (K p e s m args below meth c G H locs ls hR hS hl)
theorem ev_iload {i : Nat} {a : Int32} (hd : decode M.2.1 pc = .ok (.iload i, 2)) (hi : L[i]? = some (some (.int a))) (K : Ev E M R QX x y (pc + 2) L (.int a :: S) h) : Ev E M R QX x y pc L (S) h := by
  intro p e s m args below meth c G H locs ls hR hS hl
  exact lv_iload G.1 G.2.1 hd (lk_at hl hi) (K p e s m args below meth c G H locs ls hR hS hl)
theorem ev_istore_n {k : Fin 4} {a : Int32} {L' : List (Option Value)} (hd : decode M.2.1 pc = .ok (.istore_n k, 1)) (hi : (k : Nat) < M.2.2.1) (hL : st1 L (k : Nat) (.int a) = L') (K : Ev E M R QX x y (pc + 1) L' S h) : Ev E M R QX x y pc L (.int a :: S) h := by
  intro p e s m args below meth c G H locs ls hR hS hl
  subst hL
  exact lv_istore_n G.1 G.2.1 hd rfl hl hi rfl (fun ls' hl' => K p e s m args below meth c G H locs ls' hR hS (lk_sub hl' (fun q hq => st1_mem hq)))
theorem ev_istore {i : Nat} {a : Int32} {L' : List (Option Value)} (hd : decode M.2.1 pc = .ok (.istore i, 2)) (hi : i < M.2.2.1) (hL : st1 L i (.int a) = L') (K : Ev E M R QX x y (pc + 2) L' S h) : Ev E M R QX x y pc L (.int a :: S) h := by
  intro p e s m args below meth c G H locs ls hR hS hl
  subst hL
  exact lv_istore G.1 G.2.1 hd hl hi rfl (fun ls' hl' => K p e s m args below meth c G H locs ls' hR hS (lk_sub hl' (fun q hq => st1_mem hq)))
theorem ev_lload_n {k : Fin 4} {a : Int64} (hd : decode M.2.1 pc = .ok (.lload_n k, 1)) (hi : L[(k : Nat)]? = some (some (.long a))) (K : Ev E M R QX x y (pc + 1) L (.long a :: S) h) : Ev E M R QX x y pc L (S) h := by
  intro p e s m args below meth c G H locs ls hR hS hl
  exact lv_lload_n G.1 G.2.1 hd rfl (lk_at hl hi) (K p e s m args below meth c G H locs ls hR hS hl)
theorem ev_lload {i : Nat} {a : Int64} (hd : decode M.2.1 pc = .ok (.lload i, 2)) (hi : L[i]? = some (some (.long a))) (K : Ev E M R QX x y (pc + 2) L (.long a :: S) h) : Ev E M R QX x y pc L (S) h := by
  intro p e s m args below meth c G H locs ls hR hS hl
  exact lv_lload G.1 G.2.1 hd (lk_at hl hi) (K p e s m args below meth c G H locs ls hR hS hl)
theorem ev_lstore_n {k : Fin 4} {a : Int64} {L' : List (Option Value)} (hd : decode M.2.1 pc = .ok (.lstore_n k, 1)) (hi : (k : Nat) + 1 < M.2.2.1) (hL : st2 L (k : Nat) (.long a) = L') (K : Ev E M R QX x y (pc + 1) L' S h) : Ev E M R QX x y pc L (.long a :: S) h := by
  intro p e s m args below meth c G H locs ls hR hS hl
  subst hL
  exact lv_lstore_n G.1 G.2.1 hd rfl hl hi rfl (fun ls' hl' => K p e s m args below meth c G H locs ls' hR hS (lk_sub hl' (fun q hq => st2_mem hq)))
theorem ev_lstore {i : Nat} {a : Int64} {L' : List (Option Value)} (hd : decode M.2.1 pc = .ok (.lstore i, 2)) (hi : i + 1 < M.2.2.1) (hL : st2 L i (.long a) = L') (K : Ev E M R QX x y (pc + 2) L' S h) : Ev E M R QX x y pc L (.long a :: S) h := by
  intro p e s m args below meth c G H locs ls hR hS hl
  subst hL
  exact lv_lstore G.1 G.2.1 hd hl hi rfl (fun ls' hl' => K p e s m args below meth c G H locs ls' hR hS (lk_sub hl' (fun q hq => st2_mem hq)))
theorem ev_aload_n {k : Fin 4} {a : Nat} (hd : decode M.2.1 pc = .ok (.aload_n k, 1)) (hi : L[(k : Nat)]? = some (some (.ref a))) (K : Ev E M R QX x y (pc + 1) L (.ref a :: S) h) : Ev E M R QX x y pc L (S) h := by
  intro p e s m args below meth c G H locs ls hR hS hl
  exact lv_aload_n G.1 G.2.1 hd rfl (lk_at hl hi) (K p e s m args below meth c G H locs ls hR hS hl)
theorem ev_aload {i : Nat} {a : Nat} (hd : decode M.2.1 pc = .ok (.aload i, 2)) (hi : L[i]? = some (some (.ref a))) (K : Ev E M R QX x y (pc + 2) L (.ref a :: S) h) : Ev E M R QX x y pc L (S) h := by
  intro p e s m args below meth c G H locs ls hR hS hl
  exact lv_aload G.1 G.2.1 hd (lk_at hl hi) (K p e s m args below meth c G H locs ls hR hS hl)
theorem ev_astore_n {k : Fin 4} {a : Nat} {L' : List (Option Value)} (hd : decode M.2.1 pc = .ok (.astore_n k, 1)) (hi : (k : Nat) < M.2.2.1) (hL : st1 L (k : Nat) (.ref a) = L') (K : Ev E M R QX x y (pc + 1) L' S h) : Ev E M R QX x y pc L (.ref a :: S) h := by
  intro p e s m args below meth c G H locs ls hR hS hl
  subst hL
  exact lv_astore_n G.1 G.2.1 hd rfl hl hi rfl (fun ls' hl' => K p e s m args below meth c G H locs ls' hR hS (lk_sub hl' (fun q hq => st1_mem hq)))
theorem ev_astore {i : Nat} {a : Nat} {L' : List (Option Value)} (hd : decode M.2.1 pc = .ok (.astore i, 2)) (hi : i < M.2.2.1) (hL : st1 L i (.ref a) = L') (K : Ev E M R QX x y (pc + 2) L' S h) : Ev E M R QX x y pc L (.ref a :: S) h := by
  intro p e s m args below meth c G H locs ls hR hS hl
  subst hL
  exact lv_astore G.1 G.2.1 hd hl hi rfl (fun ls' hl' => K p e s m args below meth c G H locs ls' hR hS (lk_sub hl' (fun q hq => st1_mem hq)))
theorem lk_mem {ls : Array Slot} {n i : Nat} {v : Value} (hi : L[i]? = some (some v)) : ∃ k : Nat, (asc E 0 L)[k]? = some (i, cv E v) := by
  have := asc_mem (E := E) L 0 i hi
  rw [Nat.zero_add] at this
  exact List.getElem?_of_mem this
theorem ev_iinc {i : Nat} {n : Int} {a v : Int32} {L' : List (Option Value)} (hd : decode M.2.1 pc = .ok (.iinc i n, 3)) (hi : L[i]? = some (some (.int a))) (hv : a + Int32.ofInt n = v) (hn : i < M.2.2.1) (hL : st1 L i (.int v) = L') (K : Ev E M R QX x y (pc + 3) L' S h) : Ev E M R QX x y pc L S h := by
  intro p e s m args below meth c G H locs ls hR hS hl
  subst hL
  obtain ⟨k, hk⟩ := lk_mem (E := E) (ls := ls) (n := 0) hi
  exact lv_iinc (k := k) G.1 G.2.1 hd hl hk hv hn rfl (fun ls' hl' => K p e s m args below meth c G H locs ls' hR hS (lk_sub hl' (fun q hq => st1_mem hq)))
theorem ev_goto {off : Int} {tgt : Nat} (hd : decode M.2.1 pc = .ok (.goto off, 3)) (ht : (pc : Int) + off = (tgt : Int)) (K : Ev E M R QX x y tgt L S h) : Ev E M R QX x y pc L S h := by
  intro p e s m args below meth c G H locs ls hR hS hl
  exact lv_goto G.1 G.2.1 hd ht (K p e s m args below meth c G H locs ls hR hS hl)
theorem ev_icmp_eq {a b : Int32} {off : Int} {tgt : Nat} (hd : decode M.2.1 pc = .ok (.if_icmp .eq off, 3)) (ht : (pc : Int) + off = (tgt : Int)) (K1 : a = b → Ev E M R QX x y tgt L S h) (K2 : ¬ a = b → Ev E M R QX x y (pc + 3) L S h) : Ev E M R QX x y pc L (.int b :: .int a :: S) h := by
  intro p e s m args below meth c G H locs ls hR hS hl
  exact lv_icmp_eq G.1 G.2.1 hd ht (fun q => K1 q p e s m args below meth c G H locs ls hR hS hl) (fun q => K2 q p e s m args below meth c G H locs ls hR hS hl)
theorem ev_if_eq {a : Int32} {off : Int} {tgt : Nat} (hd : decode M.2.1 pc = .ok (.ifCond .eq off, 3)) (ht : (pc : Int) + off = (tgt : Int)) (K1 : a = 0 → Ev E M R QX x y tgt L S h) (K2 : ¬ a = 0 → Ev E M R QX x y (pc + 3) L S h) : Ev E M R QX x y pc L (.int a :: S) h := by
  intro p e s m args below meth c G H locs ls hR hS hl
  exact lv_if_eq G.1 G.2.1 hd ht (fun q => K1 q p e s m args below meth c G H locs ls hR hS hl) (fun q => K2 q p e s m args below meth c G H locs ls hR hS hl)
theorem ev_icmp_ne {a b : Int32} {off : Int} {tgt : Nat} (hd : decode M.2.1 pc = .ok (.if_icmp .ne off, 3)) (ht : (pc : Int) + off = (tgt : Int)) (K1 : ¬ a = b → Ev E M R QX x y tgt L S h) (K2 : a = b → Ev E M R QX x y (pc + 3) L S h) : Ev E M R QX x y pc L (.int b :: .int a :: S) h := by
  intro p e s m args below meth c G H locs ls hR hS hl
  exact lv_icmp_ne G.1 G.2.1 hd ht (fun q => K1 q p e s m args below meth c G H locs ls hR hS hl) (fun q => K2 q p e s m args below meth c G H locs ls hR hS hl)
theorem ev_if_ne {a : Int32} {off : Int} {tgt : Nat} (hd : decode M.2.1 pc = .ok (.ifCond .ne off, 3)) (ht : (pc : Int) + off = (tgt : Int)) (K1 : ¬ a = 0 → Ev E M R QX x y tgt L S h) (K2 : a = 0 → Ev E M R QX x y (pc + 3) L S h) : Ev E M R QX x y pc L (.int a :: S) h := by
  intro p e s m args below meth c G H locs ls hR hS hl
  exact lv_if_ne G.1 G.2.1 hd ht (fun q => K1 q p e s m args below meth c G H locs ls hR hS hl) (fun q => K2 q p e s m args below meth c G H locs ls hR hS hl)
theorem ev_icmp_lt {a b : Int32} {off : Int} {tgt : Nat} (hd : decode M.2.1 pc = .ok (.if_icmp .lt off, 3)) (ht : (pc : Int) + off = (tgt : Int)) (K1 : a < b → Ev E M R QX x y tgt L S h) (K2 : ¬ a < b → Ev E M R QX x y (pc + 3) L S h) : Ev E M R QX x y pc L (.int b :: .int a :: S) h := by
  intro p e s m args below meth c G H locs ls hR hS hl
  exact lv_icmp_lt G.1 G.2.1 hd ht (fun q => K1 q p e s m args below meth c G H locs ls hR hS hl) (fun q => K2 q p e s m args below meth c G H locs ls hR hS hl)
theorem ev_if_lt {a : Int32} {off : Int} {tgt : Nat} (hd : decode M.2.1 pc = .ok (.ifCond .lt off, 3)) (ht : (pc : Int) + off = (tgt : Int)) (K1 : a < 0 → Ev E M R QX x y tgt L S h) (K2 : ¬ a < 0 → Ev E M R QX x y (pc + 3) L S h) : Ev E M R QX x y pc L (.int a :: S) h := by
  intro p e s m args below meth c G H locs ls hR hS hl
  exact lv_if_lt G.1 G.2.1 hd ht (fun q => K1 q p e s m args below meth c G H locs ls hR hS hl) (fun q => K2 q p e s m args below meth c G H locs ls hR hS hl)
theorem ev_icmp_ge {a b : Int32} {off : Int} {tgt : Nat} (hd : decode M.2.1 pc = .ok (.if_icmp .ge off, 3)) (ht : (pc : Int) + off = (tgt : Int)) (K1 : b ≤ a → Ev E M R QX x y tgt L S h) (K2 : ¬ b ≤ a → Ev E M R QX x y (pc + 3) L S h) : Ev E M R QX x y pc L (.int b :: .int a :: S) h := by
  intro p e s m args below meth c G H locs ls hR hS hl
  exact lv_icmp_ge G.1 G.2.1 hd ht (fun q => K1 q p e s m args below meth c G H locs ls hR hS hl) (fun q => K2 q p e s m args below meth c G H locs ls hR hS hl)
theorem ev_if_ge {a : Int32} {off : Int} {tgt : Nat} (hd : decode M.2.1 pc = .ok (.ifCond .ge off, 3)) (ht : (pc : Int) + off = (tgt : Int)) (K1 : 0 ≤ a → Ev E M R QX x y tgt L S h) (K2 : ¬ 0 ≤ a → Ev E M R QX x y (pc + 3) L S h) : Ev E M R QX x y pc L (.int a :: S) h := by
  intro p e s m args below meth c G H locs ls hR hS hl
  exact lv_if_ge G.1 G.2.1 hd ht (fun q => K1 q p e s m args below meth c G H locs ls hR hS hl) (fun q => K2 q p e s m args below meth c G H locs ls hR hS hl)
theorem ev_icmp_gt {a b : Int32} {off : Int} {tgt : Nat} (hd : decode M.2.1 pc = .ok (.if_icmp .gt off, 3)) (ht : (pc : Int) + off = (tgt : Int)) (K1 : b < a → Ev E M R QX x y tgt L S h) (K2 : ¬ b < a → Ev E M R QX x y (pc + 3) L S h) : Ev E M R QX x y pc L (.int b :: .int a :: S) h := by
  intro p e s m args below meth c G H locs ls hR hS hl
  exact lv_icmp_gt G.1 G.2.1 hd ht (fun q => K1 q p e s m args below meth c G H locs ls hR hS hl) (fun q => K2 q p e s m args below meth c G H locs ls hR hS hl)
theorem ev_if_gt {a : Int32} {off : Int} {tgt : Nat} (hd : decode M.2.1 pc = .ok (.ifCond .gt off, 3)) (ht : (pc : Int) + off = (tgt : Int)) (K1 : 0 < a → Ev E M R QX x y tgt L S h) (K2 : ¬ 0 < a → Ev E M R QX x y (pc + 3) L S h) : Ev E M R QX x y pc L (.int a :: S) h := by
  intro p e s m args below meth c G H locs ls hR hS hl
  exact lv_if_gt G.1 G.2.1 hd ht (fun q => K1 q p e s m args below meth c G H locs ls hR hS hl) (fun q => K2 q p e s m args below meth c G H locs ls hR hS hl)
theorem ev_icmp_le {a b : Int32} {off : Int} {tgt : Nat} (hd : decode M.2.1 pc = .ok (.if_icmp .le off, 3)) (ht : (pc : Int) + off = (tgt : Int)) (K1 : a ≤ b → Ev E M R QX x y tgt L S h) (K2 : ¬ a ≤ b → Ev E M R QX x y (pc + 3) L S h) : Ev E M R QX x y pc L (.int b :: .int a :: S) h := by
  intro p e s m args below meth c G H locs ls hR hS hl
  exact lv_icmp_le G.1 G.2.1 hd ht (fun q => K1 q p e s m args below meth c G H locs ls hR hS hl) (fun q => K2 q p e s m args below meth c G H locs ls hR hS hl)
theorem ev_if_le {a : Int32} {off : Int} {tgt : Nat} (hd : decode M.2.1 pc = .ok (.ifCond .le off, 3)) (ht : (pc : Int) + off = (tgt : Int)) (K1 : a ≤ 0 → Ev E M R QX x y tgt L S h) (K2 : ¬ a ≤ 0 → Ev E M R QX x y (pc + 3) L S h) : Ev E M R QX x y pc L (.int a :: S) h := by
  intro p e s m args below meth c G H locs ls hR hS hl
  exact lv_if_le G.1 G.2.1 hd ht (fun q => K1 q p e s m args below meth c G H locs ls hR hS hl) (fun q => K2 q p e s m args below meth c G H locs ls hR hS hl)
theorem ev_tabIn {dflt lo hi : Int} {offs : Array Int} {len : Nat} {a : Int32} {off : Int} {tgt : Nat} (hd : decode M.2.1 pc = .ok (.tableswitch dflt lo hi offs, len)) (h1 : ¬ a.toInt < lo) (h2 : ¬ hi < a.toInt) (ho : offs[(a.toInt - lo).toNat]? = some off) (ht : (pc : Int) + off = (tgt : Int)) (K : Ev E M R QX x y tgt L S h) : Ev E M R QX x y pc L (.int a :: S) h := by
  intro p e s m args below meth c G H locs ls hR hS hl
  exact lv_tableIn G.1 G.2.1 hd h1 h2 ho ht (K p e s m args below meth c G H locs ls hR hS hl)
theorem ev_tabOut {dflt lo hi : Int} {offs : Array Int} {len : Nat} {a : Int32} {tgt : Nat} (hd : decode M.2.1 pc = .ok (.tableswitch dflt lo hi offs, len)) (h1 : a.toInt < lo ∨ hi < a.toInt) (ht : (pc : Int) + dflt = (tgt : Int)) (K : Ev E M R QX x y tgt L S h) : Ev E M R QX x y pc L (.int a :: S) h := by
  intro p e s m args below meth c G H locs ls hR hS hl
  exact lv_tableOut G.1 G.2.1 hd h1 ht (K p e s m args below meth c G H locs ls hR hS hl)
theorem ev_look {dflt : Int} {ps : Array (Int × Int)} {len : Nat} {a : Int32} {off : Int} {tgt : Nat} (hd : decode M.2.1 pc = .ok (.lookupswitch dflt ps, len)) (hp : (ps.toList.zip (ps.toList.drop 1)).all (fun (a, next) => a.1 < next.1) = true) (ho : Op.lookupswitch.offset ps.toList dflt a.toInt = off) (ht : (pc : Int) + off = (tgt : Int)) (K : Ev E M R QX x y tgt L S h) : Ev E M R QX x y pc L (.int a :: S) h := by
  intro p e s m args below meth c G H locs ls hR hS hl
  exact lv_lookup G.1 G.2.1 hd hp ho ht (K p e s m args below meth c G H locs ls hR hS hl)
end EV
