/-- the draft: what is told so far, the rest blank -/
def SDz (zt : PSt) (zq : Nat) (h : AH) : Prop := STz zt zq h ∧ h.2.1 zq 10 = bI (¬ zt.1 4 = 0) ∧ h.2.1 zq 11 = nI (zt.1 5) ∧ ∀ zk, zt.1 1 ≤ zk → zk < 12 → h.2.1 (zq + 1) zk = 0 ∧ h.2.1 (zq + 2) zk = 0 ∧ h.2.1 (zq + 3) zk = 0 ∧ h.2.1 (zq + 4) zk = 0
theorem SD_cong {zt : PSt} {zq : Nat} {h g : AH} (e : ∀ zk, zq ≤ zk → zk ≤ zq + 7 → g.2.1 zk = h.2.1 zk) (hS : SDz zt zq h) : SDz zt zq g := by
  obtain ⟨hY, h10, h11, hb⟩ := hS
  unfold SDz STz
  rw [e zq (by omega) (by omega), e (zq + 1) (by omega) (by omega), e (zq + 2) (by omega) (by omega), e (zq + 3) (by omega) (by omega), e (zq + 4) (by omega) (by omega), e (zq + 5) (by omega) (by omega), e (zq + 6) (by omega) (by omega), e (zq + 7) (by omega) (by omega)]
  exact ⟨hY, h10, h11, hb⟩
theorem SD_T {zt : PSt} {zq : Nat} {h g : AH} (hq : zq = 3 ∨ zq = 11) (hf : FrT h g) (hS : SDz zt zq h) : SDz zt zq g := SD_cong (fun zk h1 h2 => hf.2.2.1 zk (by omega) (by omega)) hS
/-- only the tape's place, the reader's numbers and the draft have changed -/
def FrD (zq : Nat) (h g : AH) : Prop := g.1 = h.1 ∧ g.2.2 = h.2.2 ∧ (∀ zk, zk ≠ 1 → zk ≠ 19 → (zk < zq ∨ zq + 7 < zk) → g.2.1 zk = h.2.1 zk) ∧ g.2.1 1 1 = h.2.1 1 1
theorem FrD_t {zq : Nat} {h g k : AH} (h1 : FrD zq h g) (h2 : FrD zq g k) : FrD zq h k := ⟨h2.1.trans h1.1, h2.2.1.trans h1.2.1, fun zk a b c => (h2.2.2.1 zk a b c).trans (h1.2.2.1 zk a b c), h2.2.2.2.trans h1.2.2.2⟩
theorem FrD_T {zq : Nat} {h g : AH} (h1 : FrT h g) : FrD zq h g := ⟨h1.1, h1.2.1, fun zk a b _ => h1.2.2.1 zk a b, h1.2.2.2⟩
theorem FrD_s {zq : Nat} (h : AH) {zk : Nat} {zf : Nat → Int32} (hq : zq = 3 ∨ zq = 11) (h1 : zq ≤ zk) (h2 : zk ≤ zq + 7) : FrD zq h (sI h zk zf) := ⟨rfl, rfl, fun zj _ _ c => sI_ne h zf (by omega), congrFun (sI_ne h zf (by omega)) 1⟩
theorem FrD_w {zq : Nat} {h g : AH} (hs : FrD zq h g) (hw : WF h) : WF g := by
  refine ⟨hs.1.trans hw.1, fun k j q hq => ?_⟩
  rw [hs.2.1]
  exact hw.2 k j q hq
theorem FrD_C {zq : Nat} {h g : AH} {zb : Nat → Nat} {zn : Nat} (hq : zq = 3 ∨ zq = 11) (hs : FrD zq h g) (hT : TCz h zb zn) : TCz g zb zn := ⟨hs.2.2.2.trans hT.1, hT.2.1, fun zk hk => by rw [hs.2.2.1 2 (by decide) (by decide) (by omega)]; exact hT.2.2 zk hk⟩
/-- the reader stands at zp and has told zt -/
def RDs (zq : Nat) (zb : Nat → Nat) (zn zp : Nat) (zt : PSt) (h : AH) : Prop := TPz zb zn zp h ∧ h.2.2.2 19 1 = some zq ∧ SDz zt zq h
/-- a line has been taken, or refused -/
def LOz (zq : Nat) (zb : Nat → Nat) (zn : Nat) (zr : LRs) (h g : AH) (zx : Int32) : Prop := FrD zq h g ∧ (zr.1.1 = 0 → zx = 1 ∧ RDs zq zb zn zr.2.1 zr.2.2 g ∧ g.2.1 19 3 = h.2.1 19 3) ∧ (¬ zr.1.1 = 0 → zx = 0 ∧ g.2.1 19 3 = nI zr.1.1 ∧ g.2.1 19 4 = nI zr.1.2)
theorem LO_bad {zq : Nat} {zb : Nat → Nat} {zn zc zs : Nat} {zr : LRs} {h g : AH} (hf : FrD zq h g) (e : zr.1 = (zc, zs)) (h0 : ¬ zc = 0) (h3 : g.2.1 19 3 = nI zc) (h4 : g.2.1 19 4 = nI zs) : LOz zq zb zn zr h g 0 := by
  refine ⟨hf, fun z => ?_, fun _ => ?_⟩
  · rw [e] at z; exact absurd z h0
  · rw [e]; exact ⟨rfl, h3, h4⟩
/-- a body, then the sign -/
def lnE (zb : Nat → Nat) (zn : Nat) (zB : LRs) : LRs := (ckN zB.1 (fkK zb zn zB.2.1 4, tS zb zn zB.2.1), tE zb zn zB.2.1, zB.2.2)
theorem LO_last {zq : Nat} {zb : Nat → Nat} {zn : Nat} {zB : LRs} {h k g : AH} {zx : Int32} (hq : zq = 3 ∨ zq = 11) (hf : FrD zq h k) (h3 : k.2.1 19 3 = h.2.1 19 3) (hr : k.2.2.2 19 1 = some zq) (hS : SDz zB.2.2 zq k) (e : (lnE zb zn zB).1 = (fkK zb zn zB.2.1 4, tS zb zn zB.2.1)) (hR : OUt zb zn (fkK zb zn zB.2.1 4, tS zb zn zB.2.1) (tE zb zn zB.2.1) k g zx) : LOz zq zb zn (lnE zb zn zB) h g zx := by
  refine ⟨FrD_t hf (FrD_T hR.1), fun z => ?_, fun z => ?_⟩
  · rw [e] at z
    have z1 := hR.2.1 z
    exact ⟨z1.1, ⟨z1.2.1, by rw [hR.1.2.1]; exact hr, SD_T hq hR.1 hS⟩, z1.2.2.trans h3⟩
  · rw [e] at z
    rw [e]
    exact hR.2.2 z
theorem ck_as (za zb zc : Nat × Nat) : ckN (ckN za zb) zc = ckN za (ckN zb zc) := by
  by_cases h : za.1 = 0
  · rw [ck_0 h, ck_0 h]
  · rw [ck_1 h, ck_1 h, ck_1 h]
theorem ck_wf (zb : Nat → Nat) (zn zp : Nat) : ckN (wrK zb zn zp, tS zb zn zp) (fkK zb zn zp 4, tS zb zn zp) = (fkK zb zn zp 4, tS zb zn zp) := by
  by_cases h : tK zb zn zp = 0
  · rw [ck_1 (by rw [wr_1 h]; exact (show ¬ (1 : Nat) = 0 by decide)), fk_w (by decide) h]
  · exact ck_0 (wr_0 h)
theorem row_l (zb : Nat → Nat) (zn zs zp : Nat) (zt : PSt) : (lnE zb zn (rowB zb zn zs zp zt)).1 = ckN (if zt.1 1 = 12 then 5 else 0, zs) (ckN (fnK zb zn zp 1 100, tS zb zn zp) (ckN (fnK zb zn (tE zb zn zp) 1 1000, tS zb zn (tE zb zn zp)) (fkK zb zn (tE zb zn (tE zb zn zp)) 4, tS zb zn (tE zb zn (tE zb zn zp))))) := by
  show ckN (rowB zb zn zs zp zt).1 _ = _
  unfold rowB
  rw [ck_as, ck_as, ck_as, ck_wf]
theorem giv_l (zb : Nat → Nat) (zn zp : Nat) (zt : PSt) : (lnE zb zn (givB zb zn zp zt)).1 = ckN (fnK zb zn zp 0 (zt.1 1), tS zb zn zp) (ckN (fnK zb zn (tE zb zn zp) 0 (zt.1 1), tS zb zn (tE zb zn zp)) (ckN (if tV zb zn zp = tV zb zn (tE zb zn zp) then 3 else 0, tS zb zn (tE zb zn zp)) (ckN (if (zt.2 3 (tV zb zn zp)).testBit (tV zb zn (tE zb zn zp)) then 4 else 0, tS zb zn (tE zb zn zp)) (fkK zb zn (tE zb zn (tE zb zn zp)) 4, tS zb zn (tE zb zn (tE zb zn zp)))))) := by
  show ckN (givB zb zn zp zt).1 _ = _
  unfold givB
  rw [ck_as, ck_as, ck_as, ck_as, ck_wf]
theorem apa_l (zb : Nat → Nat) (zn zs zp : Nat) (zt : PSt) : (lnE zb zn (apaB zb zn zs zp zt)).1 = ckN (if zt.1 4 = 0 then 0 else 4, zs) (ckN (fnK zb zn zp 0 100, tS zb zn zp) (fkK zb zn (tE zb zn zp) 4, tS zb zn (tE zb zn zp))) := by
  show ckN (apaB zb zn zs zp zt).1 _ = _
  unfold apaB
  rw [ck_as, ck_as, ck_wf]
theorem qua_l (zb : Nat → Nat) (zn zp : Nat) (zt : PSt) : (lnE zb zn (quaB zb zn zp zt)).1 = ckN (fkK zb zn zp 2, tS zb zn zp) (ckN (if tE zb zn zp = tS zb zn zp + 1 ∧ zb (tS zb zn zp) - 97 < 6 then 0 else 3, tS zb zn zp) (ckN (if (zt.1 5).testBit (zb (tS zb zn zp) - 97) then 4 else 0, tS zb zn zp) (ckN (fnK zb zn (tE zb zn zp) 0 100, tS zb zn (tE zb zn zp)) (ckN (fnK zb zn (tE zb zn (tE zb zn zp)) 1 100, tS zb zn (tE zb zn (tE zb zn zp))) (fkK zb zn (tE zb zn (tE zb zn (tE zb zn zp))) 4, tS zb zn (tE zb zn (tE zb zn (tE zb zn zp)))))))) := by
  show ckN (quaB zb zn zp zt).1 _ = _
  unfold quaB
  rw [ck_as, ck_as, ck_as, ck_as, ck_as, ck_wf]
def rwT (zt : PSt) (za zc : Nat) : PSt := (upN zt.1 1 (zt.1 1 + 1), upM (upM (upM (upM zt.2 0 (zt.1 1) za) 1 (zt.1 1) zc) 2 (zt.1 1) 0) 3 (zt.1 1) 0)
def ptT (zt : PSt) (zc : Nat) : PSt := (upN zt.1 1 (zt.1 1 + 1), upM (upM (upM (upM zt.2 0 (zt.1 1) 0) 1 (zt.1 1) 0) 2 (zt.1 1) zc) 3 (zt.1 1) 0)
def gvT (zt : PSt) (za zc : Nat) : PSt := (zt.1, upM zt.2 3 za (zt.2 3 za ||| 2 ^ zc))
def apT (zt : PSt) (zv : Nat) : PSt := (upN (upN zt.1 3 zv) 4 1, zt.2)
def quT (zt : PSt) (zc za zd : Nat) : PSt := (upN zt.1 5 (zt.1 5 ||| 2 ^ zc), upM (upM zt.2 4 zc za) 5 zc zd)
def rwH (h : AH) (zq zn : Nat) (za zc : Int32) : AH := sI (sI (sI h (zq + 1) (upd (h.2.1 (zq + 1)) zn za)) (zq + 2) (upd (h.2.1 (zq + 2)) zn zc)) zq (upd (h.2.1 zq) 7 (nI (zn + 1)))
def ptH (h : AH) (zq zn : Nat) (za : Int32) : AH := sI (sI h (zq + 3) (upd (h.2.1 (zq + 3)) zn za)) zq (upd (h.2.1 zq) 7 (nI (zn + 1)))
def gvH (h : AH) (zq za : Nat) (zv : Int32) : AH := sI h (zq + 4) (upd (h.2.1 (zq + 4)) za zv)
def apH (h : AH) (zq : Nat) (zv : Int32) : AH := sI h zq (upd (upd (h.2.1 zq) 9 zv) 10 1)
def quH (h : AH) (zq zc : Nat) (za zd zv : Int32) : AH := sI (sI (sI h (zq + 5) (upd (h.2.1 (zq + 5)) zc za)) (zq + 6) (upd (h.2.1 (zq + 6)) zc zd)) zq (upd (h.2.1 zq) 11 zv)

theorem SD_row {zt : PSt} {zq za zc : Nat} {h : AH} (hS : SDz zt zq h) (hm : zt.1 1 < 12) : SDz (rwT zt za zc) zq (rwH h zq (zt.1 1) (nI za) (nI zc)) := by
  obtain ⟨⟨y1, y2, y3, y4, y5, y6⟩, h10, h11, hb⟩ := hS
  have r0 : (rwH h zq (zt.1 1) (nI za) (nI zc)).2.1 zq = upd (h.2.1 zq) 7 (nI (zt.1 1 + 1)) := by unfold rwH; (repeat first | rw [sI_at] | rw [sI_ne _ _ (by omega)])
  have r1 : (rwH h zq (zt.1 1) (nI za) (nI zc)).2.1 (zq + 1) = upd (h.2.1 (zq + 1)) (zt.1 1) (nI za) := by unfold rwH; (repeat first | rw [sI_at] | rw [sI_ne _ _ (by omega)])
  have r2 : (rwH h zq (zt.1 1) (nI za) (nI zc)).2.1 (zq + 2) = upd (h.2.1 (zq + 2)) (zt.1 1) (nI zc) := by unfold rwH; (repeat first | rw [sI_at] | rw [sI_ne _ _ (by omega)])
  have r3 : (rwH h zq (zt.1 1) (nI za) (nI zc)).2.1 (zq + 3) = h.2.1 (zq + 3) := by unfold rwH; (repeat first | rw [sI_at] | rw [sI_ne _ _ (by omega)])
  have r4 : (rwH h zq (zt.1 1) (nI za) (nI zc)).2.1 (zq + 4) = h.2.1 (zq + 4) := by unfold rwH; (repeat first | rw [sI_at] | rw [sI_ne _ _ (by omega)])
  have r5 : (rwH h zq (zt.1 1) (nI za) (nI zc)).2.1 (zq + 5) = h.2.1 (zq + 5) := by unfold rwH; (repeat first | rw [sI_at] | rw [sI_ne _ _ (by omega)])
  have r6 : (rwH h zq (zt.1 1) (nI za) (nI zc)).2.1 (zq + 6) = h.2.1 (zq + 6) := by unfold rwH; (repeat first | rw [sI_at] | rw [sI_ne _ _ (by omega)])
  have r7 : (rwH h zq (zt.1 1) (nI za) (nI zc)).2.1 (zq + 7) = h.2.1 (zq + 7) := by unfold rwH; (repeat first | rw [sI_at] | rw [sI_ne _ _ (by omega)])
  unfold SDz STz
  rw [r0, r1, r2, r3, r4, r5, r6, r7]
  refine ⟨⟨rfl, y2, y3, fun zk hk => ?_, y5, y6⟩, h10, h11, fun zk h1 h2 => ?_⟩
  · have hk' : zk < zt.1 1 + 1 := hk
    by_cases e : zk = zt.1 1
    · subst e
      have hb1 := hb (zt.1 1) (Nat.le_refl _) hm
      simp [rwT, upd, upM, upN, nI_0, hb1.2.2.1, hb1.2.2.2]
    · have h9 := y4 zk (by omega)
      simp [rwT, upd, upM, upN, e, h9]
  · have h1' : zt.1 1 + 1 ≤ zk := h1
    have h9 := hb zk (by omega) h2
    have e : zk ≠ zt.1 1 := by omega
    simp [upd, e, h9]
theorem SD_pat {zt : PSt} {zq zc : Nat} {h : AH} (hS : SDz zt zq h) (hm : zt.1 1 < 12) : SDz (ptT zt zc) zq (ptH h zq (zt.1 1) (nI zc)) := by
  obtain ⟨⟨y1, y2, y3, y4, y5, y6⟩, h10, h11, hb⟩ := hS
  have r0 : (ptH h zq (zt.1 1) (nI zc)).2.1 zq = upd (h.2.1 zq) 7 (nI (zt.1 1 + 1)) := by unfold ptH; (repeat first | rw [sI_at] | rw [sI_ne _ _ (by omega)])
  have r1 : (ptH h zq (zt.1 1) (nI zc)).2.1 (zq + 1) = h.2.1 (zq + 1) := by unfold ptH; (repeat first | rw [sI_at] | rw [sI_ne _ _ (by omega)])
  have r2 : (ptH h zq (zt.1 1) (nI zc)).2.1 (zq + 2) = h.2.1 (zq + 2) := by unfold ptH; (repeat first | rw [sI_at] | rw [sI_ne _ _ (by omega)])
  have r3 : (ptH h zq (zt.1 1) (nI zc)).2.1 (zq + 3) = upd (h.2.1 (zq + 3)) (zt.1 1) (nI zc) := by unfold ptH; (repeat first | rw [sI_at] | rw [sI_ne _ _ (by omega)])
  have r4 : (ptH h zq (zt.1 1) (nI zc)).2.1 (zq + 4) = h.2.1 (zq + 4) := by unfold ptH; (repeat first | rw [sI_at] | rw [sI_ne _ _ (by omega)])
  have r5 : (ptH h zq (zt.1 1) (nI zc)).2.1 (zq + 5) = h.2.1 (zq + 5) := by unfold ptH; (repeat first | rw [sI_at] | rw [sI_ne _ _ (by omega)])
  have r6 : (ptH h zq (zt.1 1) (nI zc)).2.1 (zq + 6) = h.2.1 (zq + 6) := by unfold ptH; (repeat first | rw [sI_at] | rw [sI_ne _ _ (by omega)])
  have r7 : (ptH h zq (zt.1 1) (nI zc)).2.1 (zq + 7) = h.2.1 (zq + 7) := by unfold ptH; (repeat first | rw [sI_at] | rw [sI_ne _ _ (by omega)])
  unfold SDz STz
  rw [r0, r1, r2, r3, r4, r5, r6, r7]
  refine ⟨⟨rfl, y2, y3, fun zk hk => ?_, y5, y6⟩, h10, h11, fun zk h1 h2 => ?_⟩
  · have hk' : zk < zt.1 1 + 1 := hk
    by_cases e : zk = zt.1 1
    · subst e
      have hb1 := hb (zt.1 1) (Nat.le_refl _) hm
      simp [ptT, upd, upM, upN, nI_0, hb1.1, hb1.2.1, hb1.2.2.2]
    · have h9 := y4 zk (by omega)
      simp [ptT, upd, upM, upN, e, h9]
  · have h1' : zt.1 1 + 1 ≤ zk := h1
    have h9 := hb zk (by omega) h2
    have e : zk ≠ zt.1 1 := by omega
    simp [upd, e, h9]
theorem SD_giv {zt : PSt} {zq za zc : Nat} {h : AH} (hS : SDz zt zq h) (hm : za < zt.1 1) : SDz (gvT zt za zc) zq (gvH h zq za (nI (zt.2 3 za ||| 2 ^ zc))) := by
  obtain ⟨⟨y1, y2, y3, y4, y5, y6⟩, h10, h11, hb⟩ := hS
  have r0 : (gvH h zq za (nI (zt.2 3 za ||| 2 ^ zc))).2.1 zq = h.2.1 zq := by unfold gvH; (repeat first | rw [sI_at] | rw [sI_ne _ _ (by omega)])
  have r1 : (gvH h zq za (nI (zt.2 3 za ||| 2 ^ zc))).2.1 (zq + 1) = h.2.1 (zq + 1) := by unfold gvH; (repeat first | rw [sI_at] | rw [sI_ne _ _ (by omega)])
  have r2 : (gvH h zq za (nI (zt.2 3 za ||| 2 ^ zc))).2.1 (zq + 2) = h.2.1 (zq + 2) := by unfold gvH; (repeat first | rw [sI_at] | rw [sI_ne _ _ (by omega)])
  have r3 : (gvH h zq za (nI (zt.2 3 za ||| 2 ^ zc))).2.1 (zq + 3) = h.2.1 (zq + 3) := by unfold gvH; (repeat first | rw [sI_at] | rw [sI_ne _ _ (by omega)])
  have r4 : (gvH h zq za (nI (zt.2 3 za ||| 2 ^ zc))).2.1 (zq + 4) = upd (h.2.1 (zq + 4)) za (nI (zt.2 3 za ||| 2 ^ zc)) := by unfold gvH; (repeat first | rw [sI_at] | rw [sI_ne _ _ (by omega)])
  have r5 : (gvH h zq za (nI (zt.2 3 za ||| 2 ^ zc))).2.1 (zq + 5) = h.2.1 (zq + 5) := by unfold gvH; (repeat first | rw [sI_at] | rw [sI_ne _ _ (by omega)])
  have r6 : (gvH h zq za (nI (zt.2 3 za ||| 2 ^ zc))).2.1 (zq + 6) = h.2.1 (zq + 6) := by unfold gvH; (repeat first | rw [sI_at] | rw [sI_ne _ _ (by omega)])
  have r7 : (gvH h zq za (nI (zt.2 3 za ||| 2 ^ zc))).2.1 (zq + 7) = h.2.1 (zq + 7) := by unfold gvH; (repeat first | rw [sI_at] | rw [sI_ne _ _ (by omega)])
  unfold SDz STz
  rw [r0, r1, r2, r3, r4, r5, r6, r7]
  refine ⟨⟨y1, y2, y3, fun zk hk => ?_, y5, y6⟩, h10, h11, fun zk h1 h2 => ?_⟩
  · have h9 := y4 zk hk
    by_cases e : zk = za
    · subst e
      simp [gvT, upd, upM, upN, h9]
    · simp [gvT, upd, upM, upN, e, h9]
  · have h9 := hb zk h1 h2
    have h1' : zt.1 1 ≤ zk := h1
    have e : zk ≠ za := by omega
    simp [upd, e, h9]
theorem SD_apa {zt : PSt} {zq zv : Nat} {h : AH} (hS : SDz zt zq h)  : SDz (apT zt zv) zq (apH h zq (nI zv)) := by
  obtain ⟨⟨y1, y2, y3, y4, y5, y6⟩, h10, h11, hb⟩ := hS
  have r0 : (apH h zq (nI zv)).2.1 zq = upd (upd (h.2.1 zq) 9 (nI zv)) 10 1 := by unfold apH; (repeat first | rw [sI_at] | rw [sI_ne _ _ (by omega)])
  have r1 : (apH h zq (nI zv)).2.1 (zq + 1) = h.2.1 (zq + 1) := by unfold apH; (repeat first | rw [sI_at] | rw [sI_ne _ _ (by omega)])
  have r2 : (apH h zq (nI zv)).2.1 (zq + 2) = h.2.1 (zq + 2) := by unfold apH; (repeat first | rw [sI_at] | rw [sI_ne _ _ (by omega)])
  have r3 : (apH h zq (nI zv)).2.1 (zq + 3) = h.2.1 (zq + 3) := by unfold apH; (repeat first | rw [sI_at] | rw [sI_ne _ _ (by omega)])
  have r4 : (apH h zq (nI zv)).2.1 (zq + 4) = h.2.1 (zq + 4) := by unfold apH; (repeat first | rw [sI_at] | rw [sI_ne _ _ (by omega)])
  have r5 : (apH h zq (nI zv)).2.1 (zq + 5) = h.2.1 (zq + 5) := by unfold apH; (repeat first | rw [sI_at] | rw [sI_ne _ _ (by omega)])
  have r6 : (apH h zq (nI zv)).2.1 (zq + 6) = h.2.1 (zq + 6) := by unfold apH; (repeat first | rw [sI_at] | rw [sI_ne _ _ (by omega)])
  have r7 : (apH h zq (nI zv)).2.1 (zq + 7) = h.2.1 (zq + 7) := by unfold apH; (repeat first | rw [sI_at] | rw [sI_ne _ _ (by omega)])
  unfold SDz STz
  rw [r0, r1, r2, r3, r4, r5, r6, r7]
  refine ⟨⟨y1, y2, rfl, y4, y5, y6⟩, rfl, h11, fun zk h1 h2 => ?_⟩
  · exact hb zk h1 h2
theorem SD_qua {zt : PSt} {zq zc za zd : Nat} {h : AH} (hS : SDz zt zq h)  : SDz (quT zt zc za zd) zq (quH h zq zc (nI za) (nI zd) (nI (zt.1 5 ||| 2 ^ zc))) := by
  obtain ⟨⟨y1, y2, y3, y4, y5, y6⟩, h10, h11, hb⟩ := hS
  have r0 : (quH h zq zc (nI za) (nI zd) (nI (zt.1 5 ||| 2 ^ zc))).2.1 zq = upd (h.2.1 zq) 11 (nI (zt.1 5 ||| 2 ^ zc)) := by unfold quH; (repeat first | rw [sI_at] | rw [sI_ne _ _ (by omega)])
  have r1 : (quH h zq zc (nI za) (nI zd) (nI (zt.1 5 ||| 2 ^ zc))).2.1 (zq + 1) = h.2.1 (zq + 1) := by unfold quH; (repeat first | rw [sI_at] | rw [sI_ne _ _ (by omega)])
  have r2 : (quH h zq zc (nI za) (nI zd) (nI (zt.1 5 ||| 2 ^ zc))).2.1 (zq + 2) = h.2.1 (zq + 2) := by unfold quH; (repeat first | rw [sI_at] | rw [sI_ne _ _ (by omega)])
  have r3 : (quH h zq zc (nI za) (nI zd) (nI (zt.1 5 ||| 2 ^ zc))).2.1 (zq + 3) = h.2.1 (zq + 3) := by unfold quH; (repeat first | rw [sI_at] | rw [sI_ne _ _ (by omega)])
  have r4 : (quH h zq zc (nI za) (nI zd) (nI (zt.1 5 ||| 2 ^ zc))).2.1 (zq + 4) = h.2.1 (zq + 4) := by unfold quH; (repeat first | rw [sI_at] | rw [sI_ne _ _ (by omega)])
  have r5 : (quH h zq zc (nI za) (nI zd) (nI (zt.1 5 ||| 2 ^ zc))).2.1 (zq + 5) = upd (h.2.1 (zq + 5)) zc (nI za) := by unfold quH; (repeat first | rw [sI_at] | rw [sI_ne _ _ (by omega)])
  have r6 : (quH h zq zc (nI za) (nI zd) (nI (zt.1 5 ||| 2 ^ zc))).2.1 (zq + 6) = upd (h.2.1 (zq + 6)) zc (nI zd) := by unfold quH; (repeat first | rw [sI_at] | rw [sI_ne _ _ (by omega)])
  have r7 : (quH h zq zc (nI za) (nI zd) (nI (zt.1 5 ||| 2 ^ zc))).2.1 (zq + 7) = h.2.1 (zq + 7) := by unfold quH; (repeat first | rw [sI_at] | rw [sI_ne _ _ (by omega)])
  unfold SDz STz
  rw [r0, r1, r2, r3, r4, r5, r6, r7]
  refine ⟨⟨y1, y2, y3, y4, fun zk hk => ?_, y6⟩, h10, rfl, fun zk h1 h2 => ?_⟩
  · have h9 := y5 zk hk
    by_cases e : zk = zc
    · subst e
      simp [quT, upd, upM, upN]
    · simp [quT, upd, upM, upN, e, h9]
  · exact hb zk h1 h2
