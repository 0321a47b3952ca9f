theorem tw_l {ws : List Cond} (ps : List Nat) (h : ws = ps.filterMap (fun i => tables_1[i]?)) (hg : ws.all goodWord = true) : ∀ w ∈ ws, w ∈ tw := by
  intro w hw
  have h1 := List.all_eq_true.mp hg w hw
  rw [h] at hw
  obtain ⟨i, -, hi⟩ := List.mem_filterMap.mp hw
  exact tw_i i hi h1
def dfl (t : Nat) : Value := match t with
  | 0 => .int 0
  | 1 => .long 0
  | _ => .null
def CK (ci : Nat) (r : vw_C) : Prop := (∀ w ∈ u_ws r.1 r.2.1 r.2.2, w ∈ tw) ∧ (∃ ty : Nat → FieldType, (∀ k, k < r.2.2 → parseFieldDescriptor (r.2.1 k).2.2.1 = some (ty k)) ∧ (ftys ci).length = r.2.2 ∧ ∀ k, k < r.2.2 → defaultValue (ty k) = dfl ((ftys ci).getD k 0)) ∧ (∀ a, a < r.2.2 → ∀ b, b < r.2.2 → a ≠ b → (r.2.1 a).2.1 ≠ (r.2.1 b).2.1) ∧ Cond.instantiable r.1 r.2.2 ∈ tw ∧ Cond.initialized r.1 ∈ tw
theorem ck0 : CK 0 (RX0, TX0, 2) := ⟨tw_l [194, 196] (by decide +kernel) (by decide +kernel), ⟨tyX0, tyX0_ok, by decide +kernel, by decide +kernel⟩, nmX0, tw_i 187 (by decide +kernel) (by decide +kernel), tw_i 8 (by decide +kernel) (by decide +kernel)⟩
theorem ck1 : CK 1 (RX1, TX1, 2) := ⟨tw_l [217, 219] (by decide +kernel) (by decide +kernel), ⟨tyX1, tyX1_ok, by decide +kernel, by decide +kernel⟩, nmX1, tw_i 210 (by decide +kernel) (by decide +kernel), tw_i 10 (by decide +kernel) (by decide +kernel)⟩
theorem ck2 : CK 2 (RX2, TX2, 8) := ⟨tw_l [168, 170, 172, 174, 176, 178, 180, 182] (by decide +kernel) (by decide +kernel), ⟨tyX2, tyX2_ok, by decide +kernel, by decide +kernel⟩, nmX2, tw_i 148 (by decide +kernel) (by decide +kernel), tw_i 7 (by decide +kernel) (by decide +kernel)⟩
theorem ck3 : CK 3 (RX3, TX3, 1) := ⟨tw_l [206] (by decide +kernel) (by decide +kernel), ⟨tyX3, tyX3_ok, by decide +kernel, by decide +kernel⟩, nmX3, tw_i 200 (by decide +kernel) (by decide +kernel), tw_i 9 (by decide +kernel) (by decide +kernel)⟩
theorem ck4 : CK 4 (RX4, TX4, 8) := ⟨tw_l [236, 238, 240, 242, 244, 246, 248, 250] (by decide +kernel) (by decide +kernel), ⟨tyX4, tyX4_ok, by decide +kernel, by decide +kernel⟩, nmX4, tw_i 223 (by decide +kernel) (by decide +kernel), tw_i 11 (by decide +kernel) (by decide +kernel)⟩
theorem ck5 : CK 5 (RX5, TX5, 5) := ⟨tw_l [111, 113, 115, 117, 119] (by decide +kernel) (by decide +kernel), ⟨tyX5, tyX5_ok, by decide +kernel, by decide +kernel⟩, nmX5, tw_i 101 (by decide +kernel) (by decide +kernel), tw_i 5 (by decide +kernel) (by decide +kernel)⟩
theorem ck6 : CK 6 (RX6, TX6, 6) := ⟨tw_l [134, 136, 138, 140, 142, 144] (by decide +kernel) (by decide +kernel), ⟨tyX6, tyX6_ok, by decide +kernel, by decide +kernel⟩, nmX6, tw_i 123 (by decide +kernel) (by decide +kernel), tw_i 6 (by decide +kernel) (by decide +kernel)⟩
theorem ck7 : CK 7 (RX7, TX7, 4) := ⟨tw_l [264, 266, 268, 270] (by decide +kernel) (by decide +kernel), ⟨tyX7, tyX7_ok, by decide +kernel, by decide +kernel⟩, nmX7, tw_i 255 (by decide +kernel) (by decide +kernel), tw_i 12 (by decide +kernel) (by decide +kernel)⟩
theorem ck8 : CK 8 (RX8, TX8, 12) := ⟨tw_l [74, 76, 78, 80, 82, 84, 86, 88, 90, 92, 94, 96] (by decide +kernel) (by decide +kernel), ⟨tyX8, tyX8_ok, by decide +kernel, by decide +kernel⟩, nmX8, tw_i 50 (by decide +kernel) (by decide +kernel), tw_i 3 (by decide +kernel) (by decide +kernel)⟩
theorem ck9 : CK 9 (RX9, TX9, 4) := ⟨tw_l [39, 41, 43, 45] (by decide +kernel) (by decide +kernel), ⟨tyX9, tyX9_ok, by decide +kernel, by decide +kernel⟩, nmX9, tw_i 30 (by decide +kernel) (by decide +kernel), tw_i 2 (by decide +kernel) (by decide +kernel)⟩
theorem ck10 : CK 10 (RX10, TX10, 12) := ⟨tw_l [285, 287, 289, 291, 293, 295, 297, 299, 301, 303, 305, 307] (by decide +kernel) (by decide +kernel), ⟨tyX10, tyX10_ok, by decide +kernel, by decide +kernel⟩, nmX10, tw_i 22 (by decide +kernel) (by decide +kernel), tw_i 1 (by decide +kernel) (by decide +kernel)⟩
theorem ck11 : CK 11 (RX11, TX11, 49) := ⟨tw_l [1232, 1234, 1236, 1238, 1240, 1242, 1244, 1246, 1248, 1250, 1252, 1254, 1256, 1258, 1260, 1262, 1264, 1266, 1268, 1270, 1272, 1274, 1276, 1278, 1280, 1282, 1284, 1286, 1288, 1290, 1292, 1294, 1296, 1298, 1300, 1302, 1304, 1306, 1308, 1310, 1312, 1314, 1316, 1318, 1320, 1322, 1324, 1326, 1328] (by decide +kernel) (by decide +kernel), ⟨tyX11, tyX11_ok, by decide +kernel, by decide +kernel⟩, nmX11, tw_i 1178 (by decide +kernel) (by decide +kernel), tw_i 13 (by decide +kernel) (by decide +kernel)⟩
theorem clsK : ∀ (ci : Nat) (r : vw_C), classes[ci]? = some r → CK ci r := by
  intro ci r h
  match ci, h with
  | 0, h => cases h; exact ck0
  | 1, h => cases h; exact ck1
  | 2, h => cases h; exact ck2
  | 3, h => cases h; exact ck3
  | 4, h => cases h; exact ck4
  | 5, h => cases h; exact ck5
  | 6, h => cases h; exact ck6
  | 7, h => cases h; exact ck7
  | 8, h => cases h; exact ck8
  | 9, h => cases h; exact ck9
  | 10, h => cases h; exact ck10
  | 11, h => cases h; exact ck11
  | n + 12, h => simp at h
/-- a field by the pool's entry: class number, slot, kind (0 int, 1 long, 2 reference), type, final -/
def FL (own : String) (idx ci j t : Nat) (ty : FieldType) (fin : Bool) : Prop := (ftys ci)[j]? = some t ∧ ∃ r : vw_C, classes[ci]? = some r ∧ j < r.2.2 ∧ parseFieldDescriptor (r.2.1 j).2.2.1 = some ty ∧ (r.2.1 j).2.2.2 = fin ∧ (r.2.1 j).1 = r.1 ∧ Cond.fieldLink own idx (r.2.1 j).1 (r.2.1 j).2.1 (r.2.1 j).2.2.1 ∈ tw
def nw (h : AH) : AH := (h.1 + 1, fun q => if q = h.1 then fun _ => 0 else h.2.1 q, fun q => if q = h.1 then fun _ => 0 else h.2.2.1 q, fun q => if q = h.1 then fun _ => none else h.2.2.2 q)
theorem fv_dfl {E : ME} {h : AH} {k j t : Nat} (h1 : h.2.1 k = fun _ => 0) (h2 : h.2.2.1 k = fun _ => 0) (h3 : h.2.2.2 k = fun _ => none) : fv E h k j t = dfl t := by
  match t with
  | 0 => simp [fv, dfl, h1]
  | 1 => simp [fv, dfl, h2]
  | t + 2 => simp [fv, dfl, h3, va_rf]
theorem cE_nw {E : ME} {h : AH} {k : Nat} (hk : k ≠ h.1) : cE E (nw h) k = cE E h k := cE_congr (by simp [nw, hk]) (by simp [nw, hk]) (by simp [nw, hk])
theorem cE_sI {E : ME} {h : AH} {k j : Nat} {f : Nat → Int32} (hj : j ≠ k) : cE E (sI h k f) j = cE E h j := cE_congr (by simp [sI, hj]) rfl rfl
theorem cE_sL {E : ME} {h : AH} {k j : Nat} {f : Nat → Int64} (hj : j ≠ k) : cE E (sL h k f) j = cE E h j := cE_congr rfl (by simp [sL, hj]) rfl
theorem cE_sR {E : ME} {h : AH} {k j : Nat} {f : Nat → Option Nat} (hj : j ≠ k) : cE E (sR h k f) j = cE E h j := cE_congr rfl rfl (by simp [sR, hj])
theorem Rp_set {E : ME} {h h' : AH} {k : Nat} {e0 e : va_E} {H H1 : Heap} (hR : Rp E h H) (hk : k < h.1) (h1 : h'.1 = h.1) (he0 : cE E h k = e0) (he : cE E h' k = e) (ho : ∀ j, j ≠ k → cE E h' j = cE E h j) (ha : va_at E.2.1 classes (adr E k, e) H1) (z : H1.size = H.size) (oq : ∀ q : Nat, q ≠ adr E k → H1[q]? = H[q]?) : Rp E h' H1 := by
  refine ⟨?_, by rw [z, hR.2.1, h1], by rw [h1]; exact hR.2.2⟩
  rw [← wd_set hk h1 he ho]
  exact hR.1.set (wd_D hR.2.2) (by rw [wd_get hk, he0]) ha oq
theorem adr_A {E : ME} {k n : Nat} (hk : k < n) (hn : n ≤ 900) : eB E ≤ adr E k := by rw [adr_lt (by omega)]; omega
section EVH
variable {E : ME} {M : MM} {R : Room} {QX : List Frame → Array Value → State → State → Prop} {x y pc : Nat} {L : List (Option Value)} {S : List Value} {h : AH}
theorem ev_get {k idx ci j t : Nat} {ty : FieldType} {fin : Bool} {v : Value} (hd : decode M.2.1 pc = .ok (.getfield idx, 3)) (hF : FL M.1.cls idx ci j t ty fin) (hs : shp k = (0, ci)) (hk : k < h.1) (hv : fv E h k j t = cv E v) (K : Ev E M R QX x y (pc + 3) L (v :: S) h) : Ev E M R QX x y pc L (.ref k :: S) h := by
  intro p e s m args below meth c G H locs ls hR hS hl
  obtain ⟨ht, ⟨C, T, N⟩, hc, hj, hp, hfin, hown, hw⟩ := hF
  have he : (world E h)[k]? = some (adr E k, .inr (ci, fvs E h k 0 (ftys ci))) := by rw [wd_get hk, cE_o hs]
  have hv2 : (fvs E h k 0 (ftys ci))[j]? = some (cv E v) := by
    have h9 := fvs_get (E := E) (h := h) (k := k) (ftys ci) 0 j ht
    rw [Nat.zero_add, hv] at h9
    exact h9
  exact va_get G.1 G.2.1 G.2.2.2.2.1 (clsK ci _ hc).1 G.2.2.2.1 G.2.2.2.2.2.1 hR.1 k he hc j hj (G.2.2.2.2.1 _ hw) (fun _ q => q) hv2 hd (K p e s m args below meth c G H locs ls hR hS hl)
theorem ev_getI {k idx ci j : Nat} {ty : FieldType} {fin : Bool} (hd : decode M.2.1 pc = .ok (.getfield idx, 3)) (hF : FL M.1.cls idx ci j 0 ty fin) (hs : shp k = (0, ci)) (hk : k < h.1) (K : Ev E M R QX x y (pc + 3) L (.int (h.2.1 k j) :: S) h) : Ev E M R QX x y pc L (.ref k :: S) h := ev_get hd hF hs hk rfl K
theorem ev_getL {k idx ci j : Nat} {ty : FieldType} {fin : Bool} (hd : decode M.2.1 pc = .ok (.getfield idx, 3)) (hF : FL M.1.cls idx ci j 1 ty fin) (hs : shp k = (0, ci)) (hk : k < h.1) (K : Ev E M R QX x y (pc + 3) L (.long (h.2.2.1 k j) :: S) h) : Ev E M R QX x y pc L (.ref k :: S) h := ev_get hd hF hs hk rfl K
theorem ev_getR {k idx ci j q : Nat} {ty : FieldType} {fin : Bool} (hd : decode M.2.1 pc = .ok (.getfield idx, 3)) (hF : FL M.1.cls idx ci j 2 ty fin) (hs : shp k = (0, ci)) (hk : k < h.1) (hq : h.2.2.2 k j = some q) (K : Ev E M R QX x y (pc + 3) L (.ref q :: S) h) : Ev E M R QX x y pc L (.ref k :: S) h := ev_get hd hF hs hk (by simp only [fv, hq]; rfl) K
theorem ev_put {k idx ci j t : Nat} {ty : FieldType} {fin : Bool} {v : Value} {h' : AH} (hd : decode M.2.1 pc = .ok (.putfield idx, 3)) (hF : FL M.1.cls idx ci j t ty fin) (hs : shp k = (0, ci)) (hk : k < h.1) (hfin : fin = false ∨ (M.1.name = "<init>" ∧ classes[ci]?.map (fun r => r.1) = some M.1.cls)) (hn : narrow ty (cv E v) = cv E v) (hfit : fits ty (cv E v) = true) (h1 : h'.1 = h.1) (hc : (fvs E h k 0 (ftys ci)).set j (cv E v) = fvs E h' k 0 (ftys ci)) (ho : ∀ j, j ≠ k → cE E h' j = cE E h j) (K : Ev E M R QX x y (pc + 3) L S h') : Ev E M R QX x y pc L (v :: .ref k :: S) h := by
  intro p e s m args below meth c G H locs ls hR hS hl
  obtain ⟨hx, hb, hml, hown, hts, hK, hN, -, -, hmn, -, -, -⟩ := id G
  obtain ⟨ht, ⟨C, T, N⟩, hcl, hj, hpd, hfn, hdec, hw⟩ := hF
  obtain ⟨hin, ⟨ty0, hty, hlen, -⟩, hnm, -, -⟩ := clsK ci _ hcl
  dsimp only at hj hpd hfn hdec hw hin hty hnm hlen
  have hap := va_apart (own := M.1.cls) hts hin ty0 hty hnm hK hcl
  have he : (world E h)[k]? = some (adr E k, .inr (ci, fvs E h k 0 (ftys ci))) := by rw [wd_get hk, cE_o hs]
  obtain ⟨r, hr1, cell, q1, q2, q3, q4⟩ := hR.1 k _ he
  have hr : r = (C, T, N) := Option.some.inj (hr1.symm.trans hcl)
  subst hr
  obtain ⟨hSl, hfc, kC, hkC, hkind⟩ := hK.1 ci _ hcl
  obtain ⟨cf, kf, fi, f, hi, hsl⟩ := hSl j hj
  have hst := (u_facts hfc hkC (u_lays hts hin hj) hi).1
  have tail : ∀ H1 : Heap, H1[adr E k]? = some (cell.setSlot f.slot (cv E v)) → H1.size = H.size → (∀ q : Nat, q ≠ adr E k → H1[q]? = H[q]?) → W p E.1 e R s m args below meth c H1 (locs ++ [⟨adr E k, f.slot⟩]) x y (QX below args s) (F0 m (pc + 3) ls (S.map (cv E))) := by
    intro H1 e1 e2 e3
    rw [hsl] at e1
    refine K p e s m args below meth c G H1 _ ls (Rp_set hR hk h1 (cE_o hs) (cE_o hs) ho ?_ e2 e3) (hS.put e2 e3 (adr_A hk hR.2.2)) hl
    refine ⟨_, hcl, ?_⟩
    rw [← hc]
    exact t_OB.to (V := updV (vp_V (fvs E h k 0 (ftys ci))) j (cv E v)) ⟨_, e1, q2, q3, t_set q4 hap hj (cv E v)⟩ (fun i _ => vp_updV_set (by rw [fvs_len, hlen]; exact hj) (cv E v) i)
  have hlay := hts _ (hin _ (u_in_lay hj))
  unfold u_lay at hlay
  cases fin with
  | false =>
    rw [if_neg (by rw [hfn]; decide)] at hlay
    have h6 := u_store hfc hkC hkind hlay hi hpd hn hfit
    exact W.putK hx hb (f := f) ⟨hown, hts _ hw, ⟨_, _, _, hi⟩, hst⟩ (by rw [q2]; exact h6) q1 q3 (by rw [hsl]; exact k2_hasslot (q4 j hj)) rfl rfl hd tail
  | true =>
    rw [if_pos hfn] at hlay
    rcases hfin with hfin | ⟨hin2, hcc⟩
    · cases hfin
    have hC : C = M.1.cls := by
      rw [hcl] at hcc
      exact Option.some.inj hcc
    have hcf : m.cls = cf := by
      obtain ⟨_, _, c', _, _, _, -, -, hf', -, -, -, hown2, -⟩ := Cond.laysFinal_spec hlay
      have e1 : c' = cf := by have := hi.symm.trans hf'; simp at this; exact this.1.symm
      rw [hdec, hC] at hown2
      rw [← e1]; exact Option.some.inj (hown.symm.trans hown2)
    have h6 := u_fits hfc hkC hkind (Or.inr hlay) hi hpd hn hfit
    exact W.putFinK hx hb hown (hts _ hw) hi hst hcf (hmn.trans hin2) (by rw [q2]; exact h6) q1 q3 (by rw [hsl]; exact k2_hasslot (q4 j hj)) rfl rfl hd tail
theorem ev_putI {k idx ci j : Nat} {a : Int32} (hd : decode M.2.1 pc = .ok (.putfield idx, 3)) (hF : FL M.1.cls idx ci j 0 .int false) (hs : shp k = (0, ci)) (hk : k < h.1) (K : Ev E M R QX x y (pc + 3) L S (sI h k (upd (h.2.1 k) j a))) : Ev E M R QX x y pc L (.int a :: .ref k :: S) h := by
  refine ev_put (h' := sI h k (upd (h.2.1 k) j a)) hd hF hs hk (Or.inl rfl) rfl rfl rfl (fvs_set (ftys ci) 0 j 0 hF.1 ?_ (fun i t hi _ => ?_)) (fun i hi => cE_sI hi) K
  · simp [fv, sI, upd, cv]
  · unfold fv
    split <;> simp [sI, upd, hi]
theorem ev_putZ {k idx ci j : Nat} {a : Int32} (hd : decode M.2.1 pc = .ok (.putfield idx, 3)) (hF : FL M.1.cls idx ci j 0 .boolean false) (hs : shp k = (0, ci)) (hk : k < h.1) (ha : a = 0 ∨ a = 1) (K : Ev E M R QX x y (pc + 3) L S (sI h k (upd (h.2.1 k) j a))) : Ev E M R QX x y pc L (.int a :: .ref k :: S) h := by
  refine ev_put (h' := sI h k (upd (h.2.1 k) j a)) hd hF hs hk (Or.inl rfl) (by rcases ha with rfl | rfl <;> rfl) (by rcases ha with rfl | rfl <;> rfl) rfl (fvs_set (ftys ci) 0 j 0 hF.1 ?_ (fun i t hi _ => ?_)) (fun i hi => cE_sI hi) K
  · simp [fv, sI, upd, cv]
  · unfold fv
    split <;> simp [sI, upd, hi]
theorem ev_putL {k idx ci j : Nat} {a : Int64} (hd : decode M.2.1 pc = .ok (.putfield idx, 3)) (hF : FL M.1.cls idx ci j 1 .long false) (hs : shp k = (0, ci)) (hk : k < h.1) (K : Ev E M R QX x y (pc + 3) L S (sL h k (vp_updL (h.2.2.1 k) j a))) : Ev E M R QX x y pc L (.long a :: .ref k :: S) h := by
  refine ev_put (h' := sL h k (vp_updL (h.2.2.1 k) j a)) hd hF hs hk (Or.inl rfl) rfl rfl rfl (fvs_set (ftys ci) 0 j 1 hF.1 ?_ (fun i t hi _ => ?_)) (fun i hi => cE_sL hi) K
  · simp [fv, sL, vp_updL, cv]
  · unfold fv
    split <;> simp [sL, vp_updL, hi]
theorem ev_putR {k idx ci j q : Nat} {ty : FieldType} {fin : Bool} (hd : decode M.2.1 pc = .ok (.putfield idx, 3)) (hF : FL M.1.cls idx ci j 2 ty fin) (hs : shp k = (0, ci)) (hk : k < h.1) (hfin : fin = false ∨ (M.1.name = "<init>" ∧ classes[ci]?.map (fun r => r.1) = some M.1.cls)) (hty : narrow ty (.ref (adr E q)) = .ref (adr E q) ∧ fits ty (.ref (adr E q)) = true) (K : Ev E M R QX x y (pc + 3) L S (sR h k (va_up (h.2.2.2 k) j (some q)))) : Ev E M R QX x y pc L (.ref q :: .ref k :: S) h := by
  refine ev_put (h' := sR h k (va_up (h.2.2.2 k) j (some q))) hd hF hs hk hfin hty.1 hty.2 rfl (fvs_set (ftys ci) 0 j 2 hF.1 ?_ (fun i t hi _ => ?_)) (fun i hi => cE_sR hi) K
  · simp [fv, sR, va_up, cv, va_rf]
  · unfold fv
    split <;> simp [sR, va_up, hi]
theorem ev_iald {k n : Nat} {i : Int32} (hd : decode M.2.1 pc = .ok (.iaload, 1)) (hs : shp k = (1, n)) (hk : k < h.1) (hi : vp_in i n) (K : Ev E M R QX x y (pc + 1) L (.int (h.2.1 k i.toNatClampNeg) :: S) h) : Ev E M R QX x y pc L (.int i :: .ref k :: S) h := by
  intro p e s m args below meth c G H locs ls hR hS hl
  exact va_iald G.1 G.2.1 G.2.2.2.2.2.1 hR.1 k 0 (by rw [wd_get hk, cE_i hs]) rfl hi hd (K p e s m args below meth c G H locs ls hR hS hl)
theorem ev_lald {k n : Nat} {i : Int32} (hd : decode M.2.1 pc = .ok (.laload, 1)) (hs : shp k = (2, n)) (hk : k < h.1) (hi : vp_in i n) (K : Ev E M R QX x y (pc + 1) L (.long (h.2.2.1 k i.toNatClampNeg) :: S) h) : Ev E M R QX x y pc L (.int i :: .ref k :: S) h := by
  intro p e s m args below meth c G H locs ls hR hS hl
  exact va_lald G.1 G.2.1 G.2.2.2.2.2.1 hR.1 k 1 (by rw [wd_get hk, cE_l hs]) rfl hi hd (K p e s m args below meth c G H locs ls hR hS hl)
theorem ev_bald {k n : Nat} {i : Int32} (hd : decode M.2.1 pc = .ok (.baload, 1)) (hs : shp k = (3, n)) (hk : k < h.1) (hi : vp_in i n) (K : Ev E M R QX x y (pc + 1) L (.int (h.2.1 k i.toNatClampNeg) :: S) h) : Ev E M R QX x y pc L (.int i :: .ref k :: S) h := by
  intro p e s m args below meth c G H locs ls hR hS hl
  exact va_bald G.1 G.2.1 G.2.2.2.2.2.1 hR.1 k 2 (by rw [wd_get hk, cE_b hs]) rfl hi hd (K p e s m args below meth c G H locs ls hR hS hl)
theorem ev_aald {k n q : Nat} {i : Int32} (hd : decode M.2.1 pc = .ok (.aaload, 1)) (hs : shp k = (4, n)) (hk : k < h.1) (hi : vp_in i n) (hq : h.2.2.2 k i.toNatClampNeg = some q) (K : Ev E M R QX x y (pc + 1) L (.ref q :: S) h) : Ev E M R QX x y pc L (.int i :: .ref k :: S) h := by
  intro p e s m args below meth c G H locs ls hR hS hl
  refine va_aldq G.1 G.2.1 G.2.2.2.2.2.1 hR.1 k 3 (by rw [wd_get hk, cE_r hs]) rfl hi hd ?_
  rw [hq]
  exact K p e s m args below meth c G H locs ls hR hS hl
theorem ev_alen {k n t : Nat} {v : Int32} (hd : decode M.2.1 pc = .ok (.arraylength, 1)) (hs : shp k = (t, n)) (ht : t = 1 ∨ t = 2 ∨ t = 3) (hk : k < h.1) (hv : Int32.ofNat n = v) (K : Ev E M R QX x y (pc + 1) L (.int v :: S) h) : Ev E M R QX x y pc L (.ref k :: S) h := by
  intro p e s m args below meth c G H locs ls hR hS hl
  rcases ht with rfl | rfl | rfl
  · exact va_alen G.1 G.2.1 G.2.2.2.2.2.1 hR.1 k 0 (by rw [wd_get hk, cE_i hs]) rfl hv hd (K p e s m args below meth c G H locs ls hR hS hl)
  · exact va_alen G.1 G.2.1 G.2.2.2.2.2.1 hR.1 k 1 (by rw [wd_get hk, cE_l hs]) rfl hv hd (K p e s m args below meth c G H locs ls hR hS hl)
  · exact va_alen G.1 G.2.1 G.2.2.2.2.2.1 hR.1 k 2 (by rw [wd_get hk, cE_b hs]) rfl hv hd (K p e s m args below meth c G H locs ls hR hS hl)
theorem ev_iast {k n : Nat} {i : Int32} {a : Int32} (hd : decode M.2.1 pc = .ok (.iastore, 1)) (hs : shp k = (1, n)) (hk : k < h.1) (hi : vp_in i n) (K : Ev E M R QX x y (pc + 1) L S (sI h k (upd (h.2.1 k) i.toNatClampNeg a))) : Ev E M R QX x y pc L (.int a :: .int i :: .ref k :: S) h := by
  intro p e s m args below meth c G H locs ls hR hS hl
  have ha := wd_get (E := E) hk
  rw [cE_i hs] at ha
  refine W.iast G.1 G.2.1 (hR.1 k _ ha) ((G.2.2.2.2.2.1.2 0 _ rfl).1 n (fun j => .int (h.2.1 k j))) (fun q => by cases q) (by show ¬ (i < 0 ∨ (arrV _ _ _).slots.size ≤ _); rw [arrV_size]; exact hi) rfl rfl hd fun H1 e1 z oq => ?_
  refine K p e s m args below meth c G H1 _ ls (Rp_set (e := cE E (sI h k (upd (h.2.1 k) i.toNatClampNeg a)) k) hR hk rfl rfl rfl (fun j hj => cE_sI hj) ?_ z oq) (hS.put z oq (adr_A hk hR.2.2)) hl
  rw [cE_i hs]
  show H1[adr E k]? = some (vp_cell _ _)
  rw [e1]
  simp only [sI, if_pos]
  rw [vp_cell_i, vp_cell_i, arrV_store]
  congr 2
  funext q
  by_cases hq : q = i.toNatClampNeg
  · subst hq
    simp [updV, upd, vp_updL, narrow]
  · simp [updV, upd, vp_updL, hq]
theorem ev_last {k n : Nat} {i : Int32} {a : Int64} (hd : decode M.2.1 pc = .ok (.lastore, 1)) (hs : shp k = (2, n)) (hk : k < h.1) (hi : vp_in i n) (K : Ev E M R QX x y (pc + 1) L S (sL h k (vp_updL (h.2.2.1 k) i.toNatClampNeg a))) : Ev E M R QX x y pc L (.long a :: .int i :: .ref k :: S) h := by
  intro p e s m args below meth c G H locs ls hR hS hl
  have ha := wd_get (E := E) hk
  rw [cE_l hs] at ha
  refine W.last G.1 G.2.1 (hR.1 k _ ha) ((G.2.2.2.2.2.1.2 1 _ rfl).1 n (fun j => .long (h.2.2.1 k j))) (fun q => by cases q) (by show ¬ (i < 0 ∨ (arrV _ _ _).slots.size ≤ _); rw [arrV_size]; exact hi) rfl rfl hd fun H1 e1 z oq => ?_
  refine K p e s m args below meth c G H1 _ ls (Rp_set (e := cE E (sL h k (vp_updL (h.2.2.1 k) i.toNatClampNeg a)) k) hR hk rfl rfl rfl (fun j hj => cE_sL hj) ?_ z oq) (hS.put z oq (adr_A hk hR.2.2)) hl
  rw [cE_l hs]
  show H1[adr E k]? = some (vp_cell _ _)
  rw [e1]
  simp only [sL, if_pos]
  rw [vp_cell_l, vp_cell_l, arrV_store]
  congr 2
  funext q
  by_cases hq : q = i.toNatClampNeg
  · subst hq
    simp [updV, upd, vp_updL, narrow]
  · simp [updV, upd, vp_updL, hq]
theorem ev_bast {k n : Nat} {i : Int32} {a : Int32} (hd : decode M.2.1 pc = .ok (.bastore, 1)) (hs : shp k = (3, n)) (hk : k < h.1) (hi : vp_in i n) (K : Ev E M R QX x y (pc + 1) L S (sI h k (upd (h.2.1 k) i.toNatClampNeg a.toInt8.toInt32))) : Ev E M R QX x y pc L (.int a :: .int i :: .ref k :: S) h := by
  intro p e s m args below meth c G H locs ls hR hS hl
  have ha := wd_get (E := E) hk
  rw [cE_b hs] at ha
  refine W.bast G.1 G.2.1 (hR.1 k _ ha) ((G.2.2.2.2.2.1.2 2 _ rfl).1 n (fun j => .int (h.2.1 k j))) (fun q => by cases q) (by show ¬ (i < 0 ∨ (arrV _ _ _).slots.size ≤ _); rw [arrV_size]; exact hi) rfl rfl hd fun H1 e1 z oq => ?_
  refine K p e s m args below meth c G H1 _ ls (Rp_set (e := cE E (sI h k (upd (h.2.1 k) i.toNatClampNeg a.toInt8.toInt32)) k) hR hk rfl rfl rfl (fun j hj => cE_sI hj) ?_ z oq) (hS.put z oq (adr_A hk hR.2.2)) hl
  rw [cE_b hs]
  show H1[adr E k]? = some (vp_cell _ _)
  rw [e1]
  simp only [sI, if_pos]
  rw [vp_cell_i, vp_cell_i, arrV_store]
  congr 2
  funext q
  by_cases hq : q = i.toNatClampNeg
  · subst hq
    simp [updV, upd, vp_updL, narrow]
  · simp [updV, upd, vp_updL, hq]
end EVH
