def pFz (zj : Nat) : Prop := (3 ≤ zj ∧ zj ≤ 8) ∨ zj = 24 ∨ zj = 26 ∨ zj = 27 ∨ zj = 30 ∨ zj = 31
def FrM (h g : AH) : Prop := g.1 = h.1 ∧ g.2.2 = h.2.2 ∧ (∀ zk, zk ≠ 49 → (zk < 59 ∨ 65 < zk) → g.2.1 zk = h.2.1 zk) ∧ ∀ zj, ¬ pFz zj → g.2.1 49 zj = h.2.1 49 zj
theorem FrM_0 (h : AH) : FrM h h := ⟨rfl, rfl, fun _ _ _ => rfl, fun _ _ => rfl⟩
theorem FrM_t {h g k : AH} (h1 : FrM h g) (h2 : FrM g k) : FrM h k := ⟨h2.1.trans h1.1, h2.2.1.trans h1.2.1, fun zk hk hk2 => (h2.2.2.1 zk hk hk2).trans (h1.2.2.1 zk hk hk2), fun zj hj => (h2.2.2.2 zj hj).trans (h1.2.2.2 zj hj)⟩
theorem FrM_s {h g k : AH} (h1 : FrM h g) (h2 : scE g k) : FrM h k := ⟨h2.1.trans h1.1, h2.2.1.trans h1.2.1, fun zk hk hk2 => (h2.2.2.1 zk hk).trans (h1.2.2.1 zk hk hk2), fun zj hj => (h2.2.2.2 zj (by unfold pFz at hj; omega)).trans (h1.2.2.2 zj hj)⟩
theorem FrM_r {h g : AH} (h1 : FrM h g) {zk : Nat} {zf : Nat → Int32} (hk : 59 ≤ zk) (hk2 : zk ≤ 65) : FrM h (sI g zk zf) := ⟨h1.1, h1.2.1, fun zj hj hj2 => (sI_ne g zf (by omega)).trans (h1.2.2.1 zj hj hj2), fun zj hj => (congrFun (sI_ne g zf (by omega)) zj).trans (h1.2.2.2 zj hj)⟩
theorem FrM_49 {h g : AH} (h1 : FrM h g) {zf : Nat → Int32} (H : ∀ zj, ¬ pFz zj → zf zj = g.2.1 49 zj) : FrM h (sI g 49 zf) := ⟨h1.1, h1.2.1, fun zj hj hj2 => (sI_ne g zf hj).trans (h1.2.2.1 zj hj hj2), fun zj hj => (congrFun (sI_at g 49 zf) zj).trans ((H zj hj).trans (h1.2.2.2 zj hj))⟩
def ScZ (zt : PSt) (h : AH) : Prop := h.2.1 49 24 = nI (zt.1 1) ∧ h.2.1 49 26 = nI (zt.1 2) ∧ h.2.1 49 27 = nI (zt.1 3) ∧ h.2.1 49 30 = nI (zt.1 4) ∧ h.2.1 49 31 = nI (zt.1 5)
theorem scE_S {zt : PSt} {h g : AH} (hs : scE h g) (hv : ScZ zt h) : ScZ zt g := ⟨(hs.2.2.2 24 (by omega)).trans hv.1, (hs.2.2.2 26 (by omega)).trans hv.2.1, (hs.2.2.2 27 (by omega)).trans hv.2.2.1, (hs.2.2.2 30 (by omega)).trans hv.2.2.2.1, (hs.2.2.2 31 (by omega)).trans hv.2.2.2.2⟩
def clV (zc : Nat) : Int32 := if zc = 6 then -4 else nI zc
/-- the rows of the model's reader stand for what is told -/
def ArZ (zt : PSt) (h : AH) : Prop := (∀ zk, zk < zt.1 1 → h.2.1 59 zk = nI (zt.2 0 zk) ∧ h.2.1 60 zk = nI (zt.2 1 zk) ∧ h.2.1 61 zk = nI (zt.2 2 zk ||| zt.2 3 zk) ∧ h.2.1 62 zk = nI (zt.2 3 zk)) ∧ (∀ zk, zk < 6 → h.2.1 64 zk = nI (zt.2 4 zk) ∧ h.2.1 65 zk = nI (zt.2 5 zk)) ∧ ∀ zk, zk < 16 * zt.1 2 → h.2.1 63 zk = clV (zt.2 6 zk)
def MSz (zt : PSt) (h : AH) : Prop := ScZ zt h ∧ ArZ zt h
/-- what is told keeps its bounds -/
def POK (zt : PSt) : Prop := zt.1 1 ≤ 12 ∧ zt.1 2 ≤ 4 ∧ zt.1 3 ≤ 99 ∧ zt.1 4 ≤ 1 ∧ zt.1 5 < 64 ∧ (∀ zk, zk < zt.1 1 → zt.2 0 zk ≤ 99 ∧ zt.2 1 zk ≤ 999 ∧ zt.2 2 zk < 2 ^ zt.1 1 ∧ zt.2 3 zk < 2 ^ zt.1 1) ∧ (∀ zk, zk < 6 → zt.2 4 zk ≤ 99 ∧ 1 ≤ zt.2 5 zk ∧ zt.2 5 zk ≤ 99) ∧ ∀ zk, zk < 16 * zt.1 2 → zt.2 6 zk ≤ 6
theorem scE_A {zt : PSt} {h g : AH} (hs : scE h g) (hA : ArZ zt h) : ArZ zt g := by
  unfold ArZ at *
  rw [hs.2.2.1 59 (by decide), hs.2.2.1 60 (by decide), hs.2.2.1 61 (by decide), hs.2.2.1 62 (by decide), hs.2.2.1 63 (by decide), hs.2.2.1 64 (by decide), hs.2.2.1 65 (by decide)]
  exact hA
/-- a line's body is read -/
def RBz (zb : Nat → Nat) (zn : Nat) (zr : LRs) (h g : AH) : Prop := FrM h g ∧ (¬ zr.1.1 = 0 → g.2.1 49 3 = nI zr.1.1 ∧ g.2.1 49 4 = nI zr.1.2) ∧ (zr.1.1 = 0 → MSz zr.2.2 g ∧ LAz zb zn zr.2.1 g ∧ ¬ tK zb zn zr.2.1 = 0)
theorem RB_bad {zb : Nat → Nat} {zn zc zs : Nat} {zr : LRs} {h g : AH} (hf : FrM h g) (e : zr.1 = (zc, zs)) (h0 : ¬ zc = 0) (h3 : g.2.1 49 3 = nI zc) (h4 : g.2.1 49 4 = nI zs) : RBz zb zn zr h g := by
  refine ⟨hf, fun _ => ?_, fun z => ?_⟩
  · rw [e]; exact ⟨h3, h4⟩
  · rw [e] at z; exact absurd z h0
theorem RB_ok {zb : Nat → Nat} {zn : Nat} {zr : LRs} {h g : AH} (hf : FrM h g) (e : zr.1.1 = 0) (h3 : MSz zr.2.2 g ∧ LAz zb zn zr.2.1 g ∧ ¬ tK zb zn zr.2.1 = 0) : RBz zb zn zr h g := ⟨hf, fun z => absurd e z, fun _ => h3⟩
theorem wr_1 {zb : Nat → Nat} {zn zp : Nat} (h : tK zb zn zp = 0) : wrK zb zn zp = 1 := if_pos h
theorem wr_0 {zb : Nat → Nat} {zn zp : Nat} (h : ¬ tK zb zn zp = 0) : wrK zb zn zp = 0 := if_neg h
theorem fn_w {zb : Nat → Nat} {zn zp : Nat} (zl zm : Nat) (h : tK zb zn zp = 0) : fnK zb zn zp zl zm = wrK zb zn zp := by
  unfold fnK wrK
  rw [if_neg (by omega), if_pos h, if_pos h]
theorem fk_w {zb : Nat → Nat} {zn zp : Nat} {zk : Nat} (hk : 0 < zk) (h : tK zb zn zp = 0) : fkK zb zn zp zk = wrK zb zn zp := by
  unfold fkK wrK
  rw [if_neg (by omega), if_pos h, if_pos h]
theorem LA_b {zb : Nat → Nat} {zn zp : Nat} {h : AH} (hL : LAz zb zn zp h) (hk0 : tK zb zn zp = 0) : ¬ h.2.1 49 3 = 0 := by
  rw [hL.2.2.2.2.1, wr_1 hk0]
  decide
theorem LA_p {zb : Nat → Nat} {zn zp : Nat} {h : AH} (hL : LAz zb zn zp h) (hk0 : tK zb zn zp = 0) : 0 < h.2.1 49 3 := by
  rw [hL.2.2.2.2.1, wr_1 hk0]
  decide
theorem nb_0 {zx : Nat} (h5 : zx ≤ 5) (h : ¬ zx = 0) : ¬ nI zx = 0 := nI_ne0 (Nat.pos_of_ne_zero h) (by omega)
theorem nb_p {zx : Nat} (h5 : zx ≤ 5) (h : ¬ zx = 0) : 0 < nI zx := nI_lt (a := 0) (Nat.pos_of_ne_zero h) (by omega)
theorem cn_numOK (E : ME) (h : AH) (zb : Nat → Nat) (zn zp zl zm : Nat) (zh : Int32) (hw : WF h) (hL : LAz zb zn zp h) (hk0 : ¬ tK zb zn zp = 0) (hp : zp ≤ zn) (hh : zh = nI zm - 1) (hl : zl < 2000) (hm : zm ≤ 2000) (hF : fnK zb zn zp zl zm = 0) : Con E mX11_number 1 0 0 [.ref 49, .int (nI zl), .int zh] h (fun r h' => r = some (.int (nI (tV zb zn zp))) ∧ h' = h) := by
  have z1 := cn_X11_numberN E h zb zn zp zl zm zh hw hL hk0 hp hh hl hm
  rw [if_pos hF, if_pos hF] at z1
  exact z1
theorem cn_numBad (E : ME) (h : AH) (zb : Nat → Nat) (zn zp zl zm : Nat) (zh : Int32) (hw : WF h) (hL : LAz zb zn zp h) (hk0 : ¬ tK zb zn zp = 0) (hp : zp ≤ zn) (hh : zh = nI zm - 1) (hl : zl < 2000) (hm : zm ≤ 2000) (hF : ¬ fnK zb zn zp zl zm = 0) : Con E mX11_number 1 0 0 [.ref 49, .int (nI zl), .int zh] h (fun r h' => r = some (.int (nI zl)) ∧ h' = sI h 49 (upd (upd (h.2.1 49) 3 (nI (fnK zb zn zp zl zm))) 4 (nI (tS zb zn zp)))) := by
  have z1 := cn_X11_numberN E h zb zn zp zl zm zh hw hL hk0 hp hh hl hm
  rw [if_neg hF, if_neg hF] at z1
  exact z1
