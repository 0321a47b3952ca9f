theorem lc_eq (x y : Int64) : lg_cmp x y = 0 ↔ x = y := by
  unfold lg_cmp
  simp only [gt_iff_lt, Int64.lt_iff_toInt_lt, ← Int64.toInt_inj]
  repeat' split
  all_goals simp
  all_goals omega
theorem lc_lt (x y : Int64) : lg_cmp x y < 0 ↔ x < y := by
  unfold lg_cmp
  simp only [gt_iff_lt, Int64.lt_iff_toInt_lt, ← Int64.toInt_inj]
  repeat' split
  all_goals simp
  all_goals omega
theorem lc_le (x y : Int64) : lg_cmp x y ≤ 0 ↔ x ≤ y := by
  unfold lg_cmp
  simp only [gt_iff_lt, Int64.lt_iff_toInt_lt, Int64.le_iff_toInt_le, ← Int64.toInt_inj]
  repeat' split
  all_goals simp
  all_goals omega
theorem lc_gt (x y : Int64) : 0 < lg_cmp x y ↔ y < x := by
  unfold lg_cmp
  simp only [gt_iff_lt, Int64.lt_iff_toInt_lt, ← Int64.toInt_inj]
  repeat' split
  all_goals simp
  all_goals omega
theorem i_z0 : (0 : Int32).toInt = 0 := rfl
theorem l_le {a b : Int64} : a ≤ b ↔ a.toInt ≤ b.toInt := Int64.le_iff_toInt_le
theorem l_lt {a b : Int64} : a < b ↔ a.toInt < b.toInt := Int64.lt_iff_toInt_lt
theorem tl_le {a b : Int32} : a.toInt64 ≤ b.toInt64 ↔ a ≤ b := by rw [l_le, i_le, Int32.toInt_toInt64, Int32.toInt_toInt64]
theorem nI_toI {n : Nat} (h : n < 2 ^ 31) : (nI n).toInt = n := nI_toInt h
theorem m1_toInt {m : Nat} (h : m < 2 ^ 30) : (nI m - 1).toInt = (m : Int) - 1 := by
  have h1 := pk_sub_toInt (a := m) (b := 1) h (by decide)
  exact h1
theorem vp_th {t : Int32} {m : Nat} (N : Nat) (h0 : 0 ≤ t) (h1 : t ≤ nI m - 1) (hm : m ≤ N) (hN : N < 2 ^ 30) : vp_in t N := by
  rw [vp_in_iff]
  rw [i_le] at *
  rw [m1_toInt (by omega)] at h1
  rw [i_z0] at h0
  omega
theorem vp_sm {t : Int32} {a b : Int32} {N : Nat} (h0 : a ≤ t) (h1 : t ≤ b) (ha : 0 ≤ a.toInt) (hb : b.toInt < N) : vp_in t N := by
  rw [vp_in_iff]
  rw [i_le] at *
  omega
theorem vp_sm2 {t : Int32} {a b : Int32} {N : Nat} (h0 : a ≤ t) (h1 : t < b) (ha : 0 ≤ a.toInt) (hb : b.toInt ≤ N) : vp_in t N := by
  rw [vp_in_iff]
  rw [i_le] at *
  rw [i_lt] at *
  omega
theorem clamp_m1 {q : Nat} (h : 1 ≤ q) (h2 : q < 2 ^ 31) : (nI q - 1).toNatClampNeg = q - 1 := by
  have e := pk_sub (a := q) (b := 1) h
  have e2 : nI q - 1 = nI (q - 1) := e
  rw [e2]
  exact nI_clamp (by omega)
theorem nI_m1 {q : Nat} (h : 1 ≤ q) : nI q - 1 = nI (q - 1) := pk_sub (a := q) (b := 1) h
theorem nI_n0 {q : Nat} (hq : q < 2 ^ 31) (h : ¬ nI q ≤ 0) : 1 ≤ q := by
  rcases Nat.eq_zero_or_pos q with z | z
  · subst z; exact absurd (by decide) h
  · exact z
theorem nI_s0 {q : Nat} (hq : q < 2 ^ 31) (h : nI q ≤ 0) : q = 0 := by
  rw [i_le, nI_toInt hq, i_z0] at h
  omega
theorem ls_nil (L : List (Option Value)) : ∀ (i : Nat) (v : Value), ([] : List (Option Value))[i]? = some (some v) → L[i]? = some (some v) := by
  intro i v h
  simp at h
theorem ls_keep {a : Option Value} {L' L : List (Option Value)} (h : ∀ (i : Nat) (v : Value), L'[i]? = some (some v) → L[i]? = some (some v)) : ∀ (i : Nat) (v : Value), (a :: L')[i]? = some (some v) → (a :: L)[i]? = some (some v) := by
  intro i v hv
  cases i with
  | zero => exact hv
  | succ i => exact h i v hv
theorem ls_drop {a : Option Value} {L' L : List (Option Value)} (h : ∀ (i : Nat) (v : Value), L'[i]? = some (some v) → L[i]? = some (some v)) : ∀ (i : Nat) (v : Value), (none :: L')[i]? = some (some v) → (a :: L)[i]? = some (some v) := by
  intro i v hv
  cases i with
  | zero => simp at hv
  | succ i => exact h i v hv
theorem sI_dp (h : AH) {k j : Nat} (hjk : j ≠ k) (f f' g : Nat → Int32) : sI (sI (sI h k f) j g) k f' = sI (sI h k f') j g := by
  rw [sI_cm _ (Ne.symm hjk), sI_sI]
theorem sI_dpL (h : AH) (k j : Nat) (f f' : Nat → Int32) (g : Nat → Int64) : sI (sL (sI h k f) j g) k f' = sL (sI h k f') j g := by
  rw [sI_sL, sI_sI]
theorem sL_dpI (h : AH) (k j : Nat) (f f' : Nat → Int64) (g : Nat → Int32) : sL (sI (sL h k f) j g) k f' = sI (sL h k f') j g := by
  rw [sI_sL, sI_sL, sL_sL]

