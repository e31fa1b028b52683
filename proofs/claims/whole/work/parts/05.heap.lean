theorem WS_sub {ws : List Cond} (ps : List Nat) (h : ws.map some = ps.map (fun i => lw_tbl[i]?)) (hg : ws.all goodWord = true) : ∀ w ∈ ws, w ∈ WS := by
  intro w hw
  have h1 : some w ∈ ws.map some := List.mem_map.mpr ⟨w, hw, rfl⟩
  rw [h] at h1
  obtain ⟨i, -, hi⟩ := List.mem_map.mp h1
  exact WS_in i hi (List.all_eq_true.mp hg w hw)
theorem inW0 : ∀ w ∈ u_ws RX0 TX0 6, w ∈ WS := WS_sub [310, 312, 314, 316, 318, 320] (by decide +kernel) (by decide +kernel)
theorem inW1 : ∀ w ∈ u_ws RX1 TX1 7, w ∈ WS := WS_sub [281, 283, 285, 287, 289, 291, 293] (by decide +kernel) (by decide +kernel)
theorem inW2 : ∀ w ∈ u_ws RX2 TX2 2, w ∈ WS := WS_sub [245, 247] (by decide +kernel) (by decide +kernel)
theorem inW3 : ∀ w ∈ u_ws RX3 TX3 4, w ∈ WS := WS_sub [226, 228, 230, 232] (by decide +kernel) (by decide +kernel)
theorem inW4 : ∀ w ∈ u_ws RX4 TX4 3, w ∈ WS := WS_sub [259, 261, 263] (by decide +kernel) (by decide +kernel)
theorem inW5 : ∀ w ∈ u_ws RX5 TX5 8, w ∈ WS := WS_sub [176, 178, 180, 182, 184, 186, 188, 190] (by decide +kernel) (by decide +kernel)
theorem inW6 : ∀ w ∈ u_ws RX6 TX6 4, w ∈ WS := WS_sub [336, 338, 340, 342] (by decide +kernel) (by decide +kernel)
theorem inW7 : ∀ w ∈ u_ws RX7 TX7 2, w ∈ WS := WS_sub [204, 206] (by decide +kernel) (by decide +kernel)
theorem inW8 : ∀ w ∈ u_ws RX8 TX8 2, w ∈ WS := WS_sub [99, 101] (by decide +kernel) (by decide +kernel)
theorem inW9 : ∀ w ∈ u_ws RX9 TX9 11, w ∈ WS := WS_sub [136, 138, 140, 142, 144, 146, 148, 150, 152, 154, 156] (by decide +kernel) (by decide +kernel)
theorem inW10 : ∀ w ∈ u_ws RX10 TX10 13, w ∈ WS := WS_sub [358, 360, 362, 364, 366, 368, 370, 372, 374, 376, 378, 380, 382] (by decide +kernel) (by decide +kernel)
theorem inW11 : ∀ w ∈ u_ws RX11 TX11 30, w ∈ WS := WS_sub [956, 958, 960, 962, 964, 966, 968, 970, 972, 974, 976, 978, 980, 982, 984, 986, 988, 990, 992, 994, 996, 998, 1000, 1002, 1004, 1006, 1008, 1010, 1012, 1014] (by decide +kernel) (by decide +kernel)
theorem inW {ci : Nat} (h : ci < 12) : ∀ w ∈ u_ws (fRX ci) (fTX ci) (ncl ci), w ∈ WS := by
  match ci, h with
  | 0, _ => exact inW0
  | 1, _ => exact inW1
  | 2, _ => exact inW2
  | 3, _ => exact inW3
  | 4, _ => exact inW4
  | 5, _ => exact inW5
  | 6, _ => exact inW6
  | 7, _ => exact inW7
  | 8, _ => exact inW8
  | 9, _ => exact inW9
  | 10, _ => exact inW10
  | 11, _ => exact inW11
  | n + 12, h => omega
theorem vwK_at {ci : Nat} (h : ci < 12) : vwK[ci]? = some (fRX ci, fTX ci, ncl ci) := by
  match ci, h with
  | 0, _ | 1, _ | 2, _ | 3, _ | 4, _ | 5, _ | 6, _ | 7, _ | 8, _ | 9, _ | 10, _ | 11, _ => rfl
  | n + 12, h => omega
theorem nmK {ci : Nat} (h : ci < 12) : ∀ a, a < ncl ci → ∀ b, b < ncl ci → a ≠ b → (fTX ci a).2.1 ≠ (fTX ci b).2.1 := by
  match ci, h with
  | 0, _ => exact nmX0
  | 1, _ => exact nmX1
  | 2, _ => exact nmX2
  | 3, _ => exact nmX3
  | 4, _ => exact nmX4
  | 5, _ => exact nmX5
  | 6, _ => exact nmX6
  | 7, _ => exact nmX7
  | 8, _ => exact nmX8
  | 9, _ => exact nmX9
  | 10, _ => exact nmX10
  | 11, _ => exact nmX11
  | n + 12, h => omega
theorem tyK {ci : Nat} (h : ci < 12) : ∀ k, k < ncl ci → parseFieldDescriptor (fTX ci k).2.2.1 = some (fty ci k) := by
  match ci, h with
  | 0, _ => exact tyX0_ok
  | 1, _ => exact tyX1_ok
  | 2, _ => exact tyX2_ok
  | 3, _ => exact tyX3_ok
  | 4, _ => exact tyX4_ok
  | 5, _ => exact tyX5_ok
  | 6, _ => exact tyX6_ok
  | 7, _ => exact tyX7_ok
  | 8, _ => exact tyX8_ok
  | 9, _ => exact tyX9_ok
  | 10, _ => exact tyX10_ok
  | 11, _ => exact tyX11_ok
  | n + 12, h => omega
theorem ncl_lt {ci k : Nat} (h : k < ncl ci) : ci < 12 := by
  rcases Nat.lt_or_ge ci 12 with q | q
  · exact q
  · match ci, q with
    | n + 12, _ => exact absurd h (Nat.not_lt_zero _)
theorem adr_in {E : En} {o : Nat} (h : o < 1000) : adr E o = EB E + o := by
  unfold adr
  rw [if_pos h]
theorem Wd.lt {E : En} {g : Geo} {I L : MI} {U : State} {H : Heap} (h : Wd E g I L U H) {o : Nat} {x : Shp} (hs : g.1[o]? = some x) : o < 1000 := Nat.lt_of_lt_of_le (List.getElem?_eq_some_iff.mp hs).1 h.2.2.1
theorem flds_get {E : En} {g : Geo} {I L : MI} {o ci k : Nat} (hk : k < ncl ci) : (flds E g I L o ci)[k]? = some (fvl E g I L o k (fty ci k)) := by
  unfold flds
  rw [List.getElem?_map, List.getElem?_range hk]
  rfl
theorem wld_eq {E : En} {g g' : Geo} {I L I' L' : MI} {o : Nat} {s : Shp} {en : va_E} (hg : g'.1 = g.1) (ho : g.1[o]? = some s) (he : en = ent E g' I' L' o s) (hne : ∀ (o' : Nat) (s' : Shp), g.1[o']? = some s' → o' ≠ o → ent E g I L o' s' = ent E g' I' L' o' s') : (wld E g I L).set o (EB E + o, en) = wld E g' I' L' := by
  refine List.ext_getElem? fun i => ?_
  rw [List.getElem?_set]
  unfold wld
  rw [List.getElem?_mapIdx, List.getElem?_mapIdx, hg, List.length_mapIdx]
  by_cases h : o = i
  · subst h
    rw [if_pos rfl, if_pos (List.getElem?_eq_some_iff.mp ho).1, ho, he]
    rfl
  · rw [if_neg h]
    cases hs : g.1[i]? with
    | none => rfl
    | some s' =>
      show some (EB E + i, ent E g I L i s') = some (EB E + i, ent E g' I' L' i s')
      rw [hne i s' hs (fun q => h q.symm)]
theorem ent_I {E : En} {g : Geo} {I L : MI} {o o' : Nat} {k z : Int} {s : Shp} (h : o' ≠ o) : ent E g I L o' s = ent E g (up2 I o k z) L o' s := by
  have e : ∀ j, up2 I o k z o' j = I o' j := fun j => by unfold up2; rw [if_neg (fun q => h q.1)]
  cases s with
  | inl ci =>
    show (Sum.inr (ci, _) : va_E) = Sum.inr (ci, _)
    unfold flds fvl
    simp only [e]
  | inr q =>
    show (Sum.inl (_, _, _) : va_E) = Sum.inl (_, _, _)
    unfold arf
    simp only [e]
theorem ent_L {E : En} {g : Geo} {I L : MI} {o o' : Nat} {k z : Int} {s : Shp} (h : o' ≠ o) : ent E g I L o' s = ent E g I (up2 L o k z) o' s := by
  have e : ∀ j, up2 L o k z o' j = L o' j := fun j => by unfold up2; rw [if_neg (fun q => h q.1)]
  cases s with
  | inl ci =>
    show (Sum.inr (ci, _) : va_E) = Sum.inr (ci, _)
    unfold flds fvl
    simp only [e]
  | inr q =>
    show (Sum.inl (_, _, _) : va_E) = Sum.inl (_, _, _)
    unfold arf
    simp only [e]
theorem ent_R {E : En} {g : Geo} {I L : MI} {o o' : Nat} {k : Int} {z : Option Nat} {s : Shp} (h : o' ≠ o) : ent E g I L o' s = ent E (g.1, upR g.2 o k z) I L o' s := by
  have e : ∀ j, upR g.2 o k z o' j = g.2 o' j := fun j => by unfold upR; rw [if_neg (fun q => h q.1)]
  cases s with
  | inl ci =>
    show (Sum.inr (ci, _) : va_E) = Sum.inr (ci, _)
    unfold flds fvl
    simp only [e]
  | inr q =>
    show (Sum.inl (_, _, _) : va_E) = Sum.inl (_, _, _)
    unfold arf
    simp only [e]
theorem MOK.upI {I L : MI} {o : Nat} {k z : Int} (h : MOK I L) (hz : Ir z) : MOK (up2 I o k z) L := ⟨fun o' k' => by unfold up2; split; exact hz; exact h.1 o' k', h.2⟩
theorem MOK.upL {I L : MI} {o : Nat} {k z : Int} (h : MOK I L) (hz : Jr z) : MOK I (up2 L o k z) := ⟨h.1, fun o' k' => by unfold up2; split; exact hz; exact h.2 o' k'⟩
/-- a field of an object is set -/
theorem flds_set {E : En} {g g' : Geo} {I L I' L' : MI} {o ci k : Nat} {v : Value} (hk : k < ncl ci) (hv : v = fvl E g' I' L' o k (fty ci k)) (hne : ∀ j, j ≠ k → fvl E g I L o j (fty ci j) = fvl E g' I' L' o j (fty ci j)) : (flds E g I L o ci).set k v = flds E g' I' L' o ci := by
  refine List.ext_getElem? fun i => ?_
  rw [List.getElem?_set]
  unfold flds
  rw [List.getElem?_map, List.getElem?_map, List.length_map, List.length_range]
  by_cases h : k = i
  · subst h
    rw [if_pos rfl, if_pos hk, List.getElem?_range hk, hv]
    rfl
  · rw [if_neg h]
    cases hs : (List.range (ncl ci))[i]? with
    | none => rfl
    | some j =>
      have hj : j = i := by
        obtain ⟨h1, h2⟩ := List.getElem?_eq_some_iff.mp hs
        rw [List.getElem_range] at h2
        exact h2.symm
      subst hj
      show some (fvl E g I L o j (fty ci j)) = some (fvl E g' I' L' o j (fty ci j))
      rw [hne j (fun q => h q.symm)]
theorem E_getI {E : En} {d : Nat} {μ : Mu} {pc : Nat} {al st : List AV} {κ : Kp} {I L : MI} {Z : Zt} {o ci n index : Nat} (hd : decode μ.2.1 pc = .ok (.getfield index, 3)) (hw : Cond.fieldLink μ.1.cls index (fTX ci n).1 (fTX ci n).2.1 (fTX ci n).2.2.1 ∈ WS) (hk : n < ncl ci) (hs : κ.1.1[o]? = some (.inl ci)) (hf : fkd (fty ci n) = 0) (k : Ir (I o (n : Int)) → Ev E d μ (pc + 3) al (vi (I o (n : Int)) :: st) κ I L Z) : Ev E d μ pc al (vr o :: st) κ I L Z := by
  intro R p e s m args below meth c H locs ls hR hC hX hW hS hL
  have ho := hW.lt hs
  have hv : fvl E κ.1 I L o n (fty ci n) = .int (Int32.ofInt (I o (n : Int))) := by unfold fvl; rw [hf]; rfl
  have e1 : F0 m pc ls ((vr o :: st).map (cv E)) = F0 m pc ls (.ref (EB E + o) :: st.map (cv E)) := by
    show F0 m pc ls (.ref (adr E o) :: st.map (cv E)) = _
    rw [adr_in ho]
  rw [e1]
  exact va_get hC.1 hC.2.1 (ref := (fTX ci n).1) hC.2.2.2.2.1 (inW (ncl_lt hk)) hC.2.2.2.1 hW.2.2.2.1 hW.1 o (wld_get hs) (vwK_at (ncl_lt hk)) n hk (hC.2.2.2.2.1 _ hw) (fun x h => h) (by rw [flds_get hk, hv]; rfl) hd (k (hW.2.2.2.2.1 o n) R p e s m args below meth c H locs ls hR hC hX hW hS hL)
theorem E_getL {E : En} {d : Nat} {μ : Mu} {pc : Nat} {al st : List AV} {κ : Kp} {I L : MI} {Z : Zt} {o ci n index : Nat} (hd : decode μ.2.1 pc = .ok (.getfield index, 3)) (hw : Cond.fieldLink μ.1.cls index (fTX ci n).1 (fTX ci n).2.1 (fTX ci n).2.2.1 ∈ WS) (hk : n < ncl ci) (hs : κ.1.1[o]? = some (.inl ci)) (hf : fkd (fty ci n) = 1) (k : Jr (L o (n : Int)) → Ev E d μ (pc + 3) al (vl (L o (n : Int)) :: st) κ I L Z) : Ev E d μ pc al (vr o :: st) κ I L Z := by
  intro R p e s m args below meth c H locs ls hR hC hX hW hS hL
  have ho := hW.lt hs
  have hv : fvl E κ.1 I L o n (fty ci n) = .long (Int64.ofInt (L o (n : Int))) := by unfold fvl; rw [hf]; rfl
  have e1 : F0 m pc ls ((vr o :: st).map (cv E)) = F0 m pc ls (.ref (EB E + o) :: st.map (cv E)) := by
    show F0 m pc ls (.ref (adr E o) :: st.map (cv E)) = _
    rw [adr_in ho]
  rw [e1]
  exact va_get hC.1 hC.2.1 (ref := (fTX ci n).1) hC.2.2.2.2.1 (inW (ncl_lt hk)) hC.2.2.2.1 hW.2.2.2.1 hW.1 o (wld_get hs) (vwK_at (ncl_lt hk)) n hk (hC.2.2.2.2.1 _ hw) (fun x h => h) (by rw [flds_get hk, hv]; rfl) hd (k (hW.2.2.2.2.2 o n) R p e s m args below meth c H locs ls hR hC hX hW hS hL)
theorem E_getR {E : En} {d : Nat} {μ : Mu} {pc : Nat} {al st : List AV} {κ : Kp} {I L : MI} {Z : Zt} {o ci n index q : Nat} (hd : decode μ.2.1 pc = .ok (.getfield index, 3)) (hw : Cond.fieldLink μ.1.cls index (fTX ci n).1 (fTX ci n).2.1 (fTX ci n).2.2.1 ∈ WS) (hk : n < ncl ci) (hs : κ.1.1[o]? = some (.inl ci)) (hf : fkd (fty ci n) = 2) (hq : κ.1.2 o (n : Int) = some q) (k : Ev E d μ (pc + 3) al (vr q :: st) κ I L Z) : Ev E d μ pc al (vr o :: st) κ I L Z := by
  intro R p e s m args below meth c H locs ls hR hC hX hW hS hL
  have ho := hW.lt hs
  have hv : fvl E κ.1 I L o n (fty ci n) = .ref (adr E q) := by unfold fvl; rw [hf, hq]; rfl
  have e1 : F0 m pc ls ((vr o :: st).map (cv E)) = F0 m pc ls (.ref (EB E + o) :: st.map (cv E)) := by
    show F0 m pc ls (.ref (adr E o) :: st.map (cv E)) = _
    rw [adr_in ho]
  rw [e1]
  exact va_get hC.1 hC.2.1 (ref := (fTX ci n).1) hC.2.2.2.2.1 (inW (ncl_lt hk)) hC.2.2.2.1 hW.2.2.2.1 hW.1 o (wld_get hs) (vwK_at (ncl_lt hk)) n hk (hC.2.2.2.2.1 _ hw) (fun x h => h) (by rw [flds_get hk, hv]; rfl) hd (k R p e s m args below meth c H locs ls hR hC hX hW hS hL)
/-- one object has changed -/
theorem Wd.wr {E : En} {g g' : Geo} {I L I' L' : MI} {U : State} {H H1 : Heap} {o : Nat} {s : Shp} (hW : Wd E g I L U H) (hg : g'.1 = g.1) (hs : g.1[o]? = some s) (hat : va_at (ED E) vwK (EB E + o, ent E g' I' L' o s) H1) (hz : H1.size = H.size) (oq : ∀ q : Nat, q ≠ EB E + o → H1[q]? = H[q]?)
    (hne : ∀ (o' : Nat) (s' : Shp), o' ≠ o → ent E g I L o' s' = ent E g' I' L' o' s') (hm : MOK I' L') : Wd E g' I' L' U H1 := by
  refine ⟨fun k q hk => ?_, by rw [hz, hg]; exact hW.2.1, by rw [hg]; exact hW.2.2.1, hW.2.2.2.1, hm⟩
  obtain ⟨s', hs', rfl⟩ := wld_of hk
  rw [hg] at hs'
  by_cases h : k = o
  · subst h
    cases hs.symm.trans hs'
    exact hat
  · rw [← hne k s' h]
    exact (hW.1 k _ (wld_get hs')).kept (oq _ (by show EB E + k ≠ EB E + o; omega))
theorem va_S.wr {E : En} {H0 H H1 : Heap} {locs : List Loc} {o k : Nat} (h : va_S (EF E) H0 H locs) (z : H1.size = H.size) (oq : ∀ q : Nat, q ≠ EB E + o → H1[q]? = H[q]?) : va_S (EF E) H0 H1 (locs ++ [⟨EB E + o, k⟩]) := h.put z oq (Nat.le_add_right _ _)
section PUTS
variable {p : Program} {l : Launch} {e : Env} {R : Room} {s : State} {m : MethodId} {args : Array Value} {below : List Frame} {meth : Method} {c : Code} {H : Heap} {locs : List Loc} {cells slots : Nat} {Q : State → Prop}
variable {cc : ByteArray} {pc : Nat} {ls : Array Slot} {rest : List Value}
theorem ow_put (hexec : p.tables.exec = Jvm.exec) (hb : c.code = cc) {D : va_G} {tys : List (ClassId × FieldType)} {ci k index a : Nat} {own : String} {v : Value} {fs : List Value} (hts : ∀ w ∈ WS, w.before args s = true) (hk : k < ncl ci) (hown : s.vm.findClass own = some m.cls) (hK : va_K D vwK tys s)
    (he : t_OB a (D.1 ci) (ncl ci) (D.2 ci) H (vp_V fs)) (hlink : (Cond.fieldLink own index (fTX ci k).1 (fTX ci k).2.1 (fTX ci k).2.2.1).before args s = true) (hfin : (fTX ci k).2.2.2 = false ∨ ((fTX ci k).2.2.2 = true ∧ meth.name = "<init>" ∧ (fTX ci k).1 = own)) (hn : narrow (fty ci k) v = v) (hfit : fits (fty ci k) v = true) (hdg : decode cc pc = .ok (.putfield index, 3))
    (kk : ∀ (H1 : Heap) (i : Nat), t_OB a (D.1 ci) (ncl ci) (D.2 ci) H1 (updV (vp_V fs) k v) → H1.size = H.size → (∀ q : Nat, q ≠ a → H1[q]? = H[q]?) → W p l e R s m args below meth c H1 (locs ++ [⟨a, i⟩]) cells slots Q (F0 m (pc + 3) ls rest)) : W p l e R s m args below meth c H locs cells slots Q (F0 m pc ls (v :: .ref a :: rest)) := by
  have hci := ncl_lt hk
  have hap := va_apart (own := own) hts (inW hci) (fty ci) (tyK hci) (nmK hci) hK (vwK_at hci)
  obtain ⟨cell, q1, q2, q3, q4⟩ := he
  obtain ⟨hS, hfc, kC, hkC, hkind⟩ := hK.1 ci _ (vwK_at hci)
  obtain ⟨cf, kf, fi, f, hi, hsl⟩ := hS k hk
  have hlay := hts _ (inW hci _ (u_in_lay hk))
  have hst := (u_facts hfc hkC (u_lays hts (inW hci) hk) hi).1
  unfold u_lay at hlay
  rcases hfin with hfin | ⟨hfin, hinit, hdecl⟩
  · rw [if_neg (by rw [hfin]; decide)] at hlay
    have h6 := u_store hfc hkC hkind hlay hi (tyK hci k hk) hn hfit
    refine W.putK hexec hb (f := f) ⟨hown, hlink, ⟨_, _, _, hi⟩, hst⟩ (by rw [q2]; exact h6) q1 q3 (by rw [hsl]; exact k2_hasslot (q4 k hk)) rfl rfl hdg fun H' e1 e2 e3 => ?_
    rw [hsl] at e1 ⊢
    exact kk H' _ ⟨_, e1, q2, q3, t_set q4 hap hk v⟩ e2 e3
  · rw [if_pos hfin] at hlay
    have hcf : m.cls = cf := by
      obtain ⟨_, _, c', _, _, _, -, -, hf', -, -, -, hown2, -⟩ := Cond.laysFinal_spec hlay
      have e1 : c' = cf := by have := hi.symm.trans hf'; simp at this; exact this.1.symm
      rw [hdecl] at hown2
      rw [← e1]; exact Option.some.inj (hown.symm.trans hown2)
    have h6 := u_fits hfc hkC hkind (Or.inr hlay) hi (tyK hci k hk) hn hfit
    refine W.putFinK hexec hb (f := f) hown hlink hi hst hcf hinit (by rw [q2]; exact h6) q1 q3 (by rw [hsl]; exact k2_hasslot (q4 k hk)) rfl rfl hdg fun H' e1 e2 e3 => ?_
    rw [hsl] at e1 ⊢
    exact kk H' _ ⟨_, e1, q2, q3, t_set q4 hap hk v⟩ e2 e3
end PUTS
theorem OB_new {E : En} {g g' : Geo} {I L I' L' : MI} {o ci k : Nat} {v : Value} {cC : ClassId} {iS : Nat → Nat} {H : Heap} (h : t_OB (EB E + o) cC (ncl ci) iS H (updV (vp_V (flds E g I L o ci)) k v)) (hk : k < ncl ci) (hv : v = fvl E g' I' L' o k (fty ci k)) (hne : ∀ j : Nat, j ≠ k → fvl E g I L o j (fty ci j) = fvl E g' I' L' o j (fty ci j)) : t_OB (EB E + o) cC (ncl ci) iS H (vp_V (flds E g' I' L' o ci)) := by
  refine h.to fun j hj => ?_
  have e1 : ∀ (G : Geo) (A B : MI), vp_V (flds E G A B o ci) j = fvl E G A B o j (fty ci j) := fun G A B => by
    unfold vp_V
    rw [List.getD_eq_getElem?_getD, flds_get hj]
    rfl
  unfold updV
  rw [e1 g' I' L']
  split
  next e => subst e; exact hv
  next e => rw [e1 g I L]; exact hne j e
theorem E_putI {E : En} {d : Nat} {μ : Mu} {pc : Nat} {al st : List AV} {κ : Kp} {I L : MI} {Z : Zt} {o ci n index : Nat} {z : Int} (hd : decode μ.2.1 pc = .ok (.putfield index, 3)) (hw : Cond.fieldLink μ.1.cls index (fTX ci n).1 (fTX ci n).2.1 (fTX ci n).2.2.1 ∈ WS) (hk : n < ncl ci) (hs : κ.1.1[o]? = some (.inl ci)) (hfin : (fTX ci n).2.2.2 = false) (hty : fty ci n = .int) (hz0 : Ir z) (k : Ev E d μ (pc + 3) al st κ (up2 I o (n : Int) z) L Z) : Ev E d μ pc al (vi z :: vr o :: st) κ I L Z := by
  intro R p e s m args below meth c H locs ls hR hC hX hW hS hL
  have ho := hW.lt hs
  have e1 : F0 m pc ls ((vi z :: vr o :: st).map (cv E)) = F0 m pc ls (.int (Int32.ofInt z) :: .ref (EB E + o) :: st.map (cv E)) := by
    show F0 m pc ls (.int (Int32.ofInt z) :: .ref (adr E o) :: st.map (cv E)) = _
    rw [adr_in ho]
  rw [e1]
  obtain ⟨r, hr, hOB⟩ := hW.1 o _ (wld_get hs)
  cases (vwK_at (ncl_lt hk)).symm.trans hr
  refine ow_put hC.1 hC.2.1 hC.2.2.2.2.1 hk hC.2.2.2.1 hW.2.2.2.1 hOB (hC.2.2.2.2.1 _ hw) (Or.inl hfin) (by rw [hty]; rfl) (by rw [hty]; rfl) hd fun H1 i hB hz oq => ?_
  refine k R p e s m args below meth c H1 _ ls hR hC hX (hW.wr rfl hs ⟨_, vwK_at (ncl_lt hk), OB_new hB hk ?_ fun j hj => ?_⟩ hz oq (fun o' s' h => ent_I h) (hW.2.2.2.2.upI hz0)) (hS.wr hz oq) hL
  · unfold fvl; rw [hty]; simp [fkd, up2]
  · have hj2 : ¬ (j : Int) = (n : Int) := by omega
    unfold fvl
    simp [up2, hj2]
theorem E_putZ {E : En} {d : Nat} {μ : Mu} {pc : Nat} {al st : List AV} {κ : Kp} {I L : MI} {Z : Zt} {o ci n index : Nat} {z : Int} (hd : decode μ.2.1 pc = .ok (.putfield index, 3)) (hw : Cond.fieldLink μ.1.cls index (fTX ci n).1 (fTX ci n).2.1 (fTX ci n).2.2.1 ∈ WS) (hk : n < ncl ci) (hs : κ.1.1[o]? = some (.inl ci)) (hfin : (fTX ci n).2.2.2 = false) (hty : fty ci n = .boolean) (hz0 : z = 0 ∨ z = 1) (k : Ev E d μ (pc + 3) al st κ (up2 I o (n : Int) z) L Z) : Ev E d μ pc al (vi z :: vr o :: st) κ I L Z := by
  intro R p e s m args below meth c H locs ls hR hC hX hW hS hL
  have ho := hW.lt hs
  have e1 : F0 m pc ls ((vi z :: vr o :: st).map (cv E)) = F0 m pc ls (.int (Int32.ofInt z) :: .ref (EB E + o) :: st.map (cv E)) := by
    show F0 m pc ls (.int (Int32.ofInt z) :: .ref (adr E o) :: st.map (cv E)) = _
    rw [adr_in ho]
  rw [e1]
  obtain ⟨r, hr, hOB⟩ := hW.1 o _ (wld_get hs)
  cases (vwK_at (ncl_lt hk)).symm.trans hr
  refine ow_put hC.1 hC.2.1 hC.2.2.2.2.1 hk hC.2.2.2.1 hW.2.2.2.1 hOB (hC.2.2.2.2.1 _ hw) (Or.inl hfin) (by rw [hty]; rcases hz0 with rfl | rfl <;> rfl) (by rw [hty]; rcases hz0 with rfl | rfl <;> decide) hd fun H1 i hB hz oq => ?_
  refine k R p e s m args below meth c H1 _ ls hR hC hX (hW.wr rfl hs ⟨_, vwK_at (ncl_lt hk), OB_new hB hk ?_ fun j hj => ?_⟩ hz oq (fun o' s' h => ent_I h) (hW.2.2.2.2.upI (by rcases hz0 with rfl | rfl <;> decide))) (hS.wr hz oq) hL
  · unfold fvl; rw [hty]; simp [fkd, up2]
  · have hj2 : ¬ (j : Int) = (n : Int) := by omega
    unfold fvl
    simp [up2, hj2]
theorem E_putL {E : En} {d : Nat} {μ : Mu} {pc : Nat} {al st : List AV} {κ : Kp} {I L : MI} {Z : Zt} {o ci n index : Nat} {z : Int} (hd : decode μ.2.1 pc = .ok (.putfield index, 3)) (hw : Cond.fieldLink μ.1.cls index (fTX ci n).1 (fTX ci n).2.1 (fTX ci n).2.2.1 ∈ WS) (hk : n < ncl ci) (hs : κ.1.1[o]? = some (.inl ci)) (hfin : (fTX ci n).2.2.2 = false) (hty : fty ci n = .long) (hz0 : Jr z) (k : Ev E d μ (pc + 3) al st κ I (up2 L o (n : Int) z) Z) : Ev E d μ pc al (vl z :: vr o :: st) κ I L Z := by
  intro R p e s m args below meth c H locs ls hR hC hX hW hS hL
  have ho := hW.lt hs
  have e1 : F0 m pc ls ((vl z :: vr o :: st).map (cv E)) = F0 m pc ls (.long (Int64.ofInt z) :: .ref (EB E + o) :: st.map (cv E)) := by
    show F0 m pc ls (.long (Int64.ofInt z) :: .ref (adr E o) :: st.map (cv E)) = _
    rw [adr_in ho]
  rw [e1]
  obtain ⟨r, hr, hOB⟩ := hW.1 o _ (wld_get hs)
  cases (vwK_at (ncl_lt hk)).symm.trans hr
  refine ow_put hC.1 hC.2.1 hC.2.2.2.2.1 hk hC.2.2.2.1 hW.2.2.2.1 hOB (hC.2.2.2.2.1 _ hw) (Or.inl hfin) (by rw [hty]; rfl) (by rw [hty]; rfl) hd fun H1 i hB hz oq => ?_
  refine k R p e s m args below meth c H1 _ ls hR hC hX (hW.wr rfl hs ⟨_, vwK_at (ncl_lt hk), OB_new hB hk ?_ fun j hj => ?_⟩ hz oq (fun o' s' h => ent_L h) (hW.2.2.2.2.upL hz0)) (hS.wr hz oq) hL
  · unfold fvl; rw [hty]; simp [fkd, up2]
  · have hj2 : ¬ (j : Int) = (n : Int) := by omega
    unfold fvl
    simp [up2, hj2]
theorem E_putRF {E : En} {d : Nat} {μ : Mu} {pc : Nat} {al st : List AV} {g : Geo} {cs : Nat × Nat} {I L : MI} {Z : Zt} {o ci n index q : Nat} (hd : decode μ.2.1 pc = .ok (.putfield index, 3)) (hw : Cond.fieldLink μ.1.cls index (fTX ci n).1 (fTX ci n).2.1 (fTX ci n).2.2.1 ∈ WS) (hk : n < ncl ci) (hs : g.1[o]? = some (.inl ci)) (hfin : (fTX ci n).2.2.2 = true) (hnm : μ.1.name = "<init>") (hdc : (fTX ci n).1 = μ.1.cls) (hty : fkd (fty ci n) = 2) (k : Ev E d μ (pc + 3) al st ((g.1, upR g.2 o (n : Int) (some q)), cs) I L Z) : Ev E d μ pc al (vr q :: vr o :: st) (g, cs) I L Z := by
  intro R p e s m args below meth c H locs ls hR hC hX hW hS hL
  have ho := hW.lt hs
  have e1 : F0 m pc ls ((vr q :: vr o :: st).map (cv E)) = F0 m pc ls (.ref (adr E q) :: .ref (EB E + o) :: st.map (cv E)) := by
    show F0 m pc ls (.ref (adr E q) :: .ref (adr E o) :: st.map (cv E)) = _
    rw [adr_in ho]
  rw [e1]
  obtain ⟨r, hr, hOB⟩ := hW.1 o _ (wld_get hs)
  cases (vwK_at (ncl_lt hk)).symm.trans hr
  have hnf : narrow (fty ci n) (.ref (adr E q)) = .ref (adr E q) ∧ fits (fty ci n) (.ref (adr E q)) = true := by
    cases ht : fty ci n with
    | object C => exact ⟨rfl, rfl⟩
    | array t => exact ⟨rfl, rfl⟩
    | _ => rw [ht] at hty; cases hty
  refine ow_put hC.1 hC.2.1 hC.2.2.2.2.1 hk hC.2.2.2.1 hW.2.2.2.1 hOB (hC.2.2.2.2.1 _ hw) (Or.inr ⟨hfin, hC.2.2.2.2.2.2.2 hnm, hdc⟩) hnf.1 hnf.2 hd fun H1 i hB hz oq => ?_
  refine k R p e s m args below meth c H1 _ ls hR hC hX (Wd.wr (g := g) (g' := (g.1, upR g.2 o (n : Int) (some q))) hW rfl hs ⟨_, vwK_at (ncl_lt hk), OB_new hB hk ?_ fun j hj => ?_⟩ hz oq (fun o' s' h => ent_R h) hW.2.2.2.2) (hS.wr hz oq) hL
  · unfold fvl; rw [hty]; simp [upR, va_rf]
  · have hj2 : ¬ (j : Int) = (n : Int) := by omega
    unfold fvl
    simp [upR, hj2]
/-- a cell that is an array, inside or outside -/
def avl (E : En) (g : Geo) (I L : MI) (o kd : Nat) (j : Int) : Value := match kd with
  | 0 => .int (Int32.ofInt (rdI E I o j))
  | 1 => .int (Int32.ofInt (rdI E I o j))
  | 2 => .int (Int32.ofInt (rdI E I o j))
  | 3 => .long (Int64.ofInt (rdL L o j))
  | _ => va_rf ((g.2 o j).map (adr E))
def cellA (E : En) (g : Geo) (I L : MI) (s : State) (H : Heap) (o kd n : Nat) : Prop := ∃ cell : Cell, H[adr E o]? = some cell ∧ s.isArrayOf cell (aty kd) ∧ cell.vm ≠ .unknown ∧ n ≤ cell.slots.size ∧ cell.slots.size.toInt32 = Int32.ofNat n ∧ ∀ j : Nat, j < n → cell.slots[j]? = some (avl E g I L o kd (j : Int))
theorem arf_cell {E : En} {g : Geo} {I L : MI} {o kd n : Nat} (ho : o < 1000) : vp_cell (EA E kd) (n, arf E g I L o kd) = arrV (EA E kd) n (fun j => avl E g I L o kd (j : Int)) := by
  match kd with
  | 0 => simp [arf, vp_cell, avl, rdI, ho]
  | 1 => simp [arf, vp_cell, avl, rdI, ho]
  | 2 => simp [arf, vp_cell, avl, rdI, ho]
  | 3 => simp [arf, vp_cell, avl, rdL, ho]
  | k + 4 => simp [arf, vp_cell, avl]
theorem tysE_at {E : En} {kd : Nat} (h : kd < 6) : (tysE E)[kd]? = some (EA E kd, aty kd) := by
  match kd, h with
  | 0, _ | 1, _ | 2, _ | 3, _ | 4, _ | 5, _ => rfl
  | n + 6, h => omega
/-- the table of kinds goes up to 5 -/
def gok (g : Geo) : Prop := ∀ (o : Nat) (q : Nat × Nat), g.1[o]? = some (.inr q) → q.1 < 6
theorem cell_of {E : En} {g : Geo} {I L : MI} {s : State} {H : Heap} {o kd n : Nat} (hkd : kd < 6) (hX : Xt E s s.heap) (hW : Wd E g I L s H) {locs : List Loc} (hS : va_S (EF E) s.heap H locs) (ha : arr E g o = some (kd, n)) : cellA E g I L s H o kd n := by
  unfold arr at ha
  split at ha
  next ho =>
    cases hs : g.1[o]? with
    | none => rw [hs] at ha; cases ha
    | some x =>
      rw [hs] at ha
      cases x with
      | inl ci => cases ha
      | inr q =>
        cases ha
        have h1 := hW.1 o _ (wld_get hs)
        have h2 : H[EB E + o]? = some (vp_cell (EA E kd) (n, arf E g I L o kd)) := h1
        rw [arf_cell ho] at h2
        have hA := hW.2.2.2.1.2 kd _ (tysE_at hkd)
        refine ⟨arrV (EA E kd) n (fun j => avl E g I L o kd (j : Int)), by rw [adr_in ho]; exact h2, hA.1 n _, ?_, by rw [arrV_size]; exact Nat.le_refl _, by rw [arrV_size] <;> rfl, fun j hj => arrV_read _ _ hj⟩
        intro q; cases q
  next ho =>
    have key : ∀ (y : Nat), (y ∈ ([1001, 1002, 1003, 1004, 1009, 1010, 1011, 1012] : List Nat)) → o = y → xln y = n → (∀ j : Nat, xvl y j = avl E g I L y kd (j : Int)) → xty y = aty kd → cellA E g I L s H o kd n := by
      intro y hy e hn hv ht
      subst e
      obtain ⟨cell, h1, h2, h3, h4, h5, h6, h7⟩ := hX.2.2.2.1 o hy
      refine ⟨cell, ?_, ht ▸ h2, h3, hn ▸ h4, hn ▸ h5, fun j hj => by rw [← hv j]; exact h6 j (by rw [hn]; exact hj)⟩
      unfold adr
      rw [if_neg ho, hS.2.1 _ (Array.getElem?_eq_some_iff.mp h1).1 h7]
      exact h1
    split at ha
    next =>
      cases ha
      obtain ⟨cell, h1, h2, h3, h4, h5⟩ := hX.2.1.1
      have hb := hX.2.1.2
      refine ⟨cell, ?_, h2, h3, by rw [h4]; exact Nat.le_refl _, by rw [h4] <;> rfl, fun j hj => ?_⟩
      · unfold adr
        rw [if_neg (by decide), hS.2.1 _ (Nat.lt_of_lt_of_le hb hX.1) (Nat.not_le.mpr hb)]
        exact h1
      · rw [h5 j hj]
        simp [avl, rdI]
    next => cases ha; exact key 1001 (by decide) rfl rfl (fun j => by simp [xvl, avl, rdI]) rfl
    next => cases ha; exact key 1002 (by decide) rfl rfl (fun j => by simp [xvl, avl, rdI]) rfl
    next => cases ha; exact key 1003 (by decide) rfl rfl (fun j => by simp [xvl, avl, rdI]) rfl
    next => cases ha; exact key 1004 (by decide) rfl rfl (fun j => by simp [xvl, avl, rdL]) rfl
    next => cases ha; exact key 1009 (by decide) rfl rfl (fun j => by simp [xvl, avl, rdI]) rfl
    next => cases ha; exact key 1010 (by decide) rfl rfl (fun j => by simp [xvl, avl, rdI]) rfl
    next => cases ha; exact key 1011 (by decide) rfl rfl (fun j => by simp [xvl, avl, rdI]) rfl
    next => cases ha; exact key 1012 (by decide) rfl rfl (fun j => by simp [xvl, avl, rdI]) rfl
    next => cases ha
theorem rdI_r {E : En} {I L : MI} (h : MOK I L) (o : Nat) (i : Int) : Ir (rdI E I o i) := by
  unfold rdI
  split
  · exact h.1 o i
  · split
    · have h1 := Int32.le_toInt (Exs E i.toNat)
      have h2 := Int32.toInt_lt (Exs E i.toNat)
      exact ⟨by omega, by omega⟩
    · exact xI_r o i
theorem rdL_r {I L : MI} (h : MOK I L) (o : Nat) (i : Int) : Jr (rdL L o i) := by
  unfold rdL
  split
  · exact h.2 o i
  · exact xL_r i
theorem ix_of {i : Int} {n : Nat} (h0 : 0 ≤ i) (h1 : i < n) : ((i.toNat : Nat) : Int) = i ∧ i.toNat < n := ⟨by omega, by omega⟩
theorem nin_of {i : Int} {n sz : Nat} (h0 : 0 ≤ i) (h1 : i < n) (hi : Ir i) (hsz : n ≤ sz) : ¬ (Int32.ofInt i < 0 ∨ sz ≤ (Int32.ofInt i).toNatClampNeg) := by
  have := oi_in h0 h1 hi
  intro h
  rcases h with h | h
  · exact this (Or.inl h)
  · exact this (Or.inr (Nat.le_trans hsz h))
theorem E_iald {E : En} {d : Nat} {μ : Mu} {pc : Nat} {al st : List AV} {κ : Kp} {I L : MI} {Z : Zt} {o n : Nat} {i : Int} (hd : decode μ.2.1 pc = .ok (.iaload, 1)) (ha : arr E κ.1 o = some (0, n)) (h0 : 0 ≤ i) (h1 : i < n) (hi : Ir i) (k : Ir (rdI E I o i) → Ev E d μ (pc + 1) al (vi (rdI E I o i) :: st) κ I L Z) : Ev E d μ pc al (vi i :: vr o :: st) κ I L Z := by
  intro R p e s m args below meth c H locs ls hR hC hX hW hS hL
  obtain ⟨cell, c1, c2, c3, c4, c5, c6⟩ := cell_of (by decide) hX hW hS ha
  have hx := ix_of h0 h1
  have hv := c6 i.toNat hx.2
  rw [hx.1] at hv
  exact W.iald hC.1 hC.2.1 c1 c2 c3 (nin_of h0 h1 hi c4) (by rw [oi_nat hi]; exact hv) rfl rfl hd (k (rdI_r hW.2.2.2.2 o i) R p e s m args below meth c H locs ls hR hC hX hW hS hL)
theorem E_bald {E : En} {d : Nat} {μ : Mu} {pc : Nat} {al st : List AV} {κ : Kp} {I L : MI} {Z : Zt} {o n : Nat} {i : Int} (hd : decode μ.2.1 pc = .ok (.baload, 1)) (ha : arr E κ.1 o = some (1, n)) (h0 : 0 ≤ i) (h1 : i < n) (hi : Ir i) (k : Ir (rdI E I o i) → Ev E d μ (pc + 1) al (vi (rdI E I o i) :: st) κ I L Z) : Ev E d μ pc al (vi i :: vr o :: st) κ I L Z := by
  intro R p e s m args below meth c H locs ls hR hC hX hW hS hL
  obtain ⟨cell, c1, c2, c3, c4, c5, c6⟩ := cell_of (by decide) hX hW hS ha
  have hx := ix_of h0 h1
  have hv := c6 i.toNat hx.2
  rw [hx.1] at hv
  exact W.bald hC.1 hC.2.1 c1 c2 c3 (nin_of h0 h1 hi c4) (by rw [oi_nat hi]; exact hv) rfl rfl hd (k (rdI_r hW.2.2.2.2 o i) R p e s m args below meth c H locs ls hR hC hX hW hS hL)
theorem E_zald {E : En} {d : Nat} {μ : Mu} {pc : Nat} {al st : List AV} {κ : Kp} {I L : MI} {Z : Zt} {o n : Nat} {i : Int} (hd : decode μ.2.1 pc = .ok (.baload, 1)) (ha : arr E κ.1 o = some (2, n)) (h0 : 0 ≤ i) (h1 : i < n) (hi : Ir i) (k : Ir (rdI E I o i) → Ev E d μ (pc + 1) al (vi (rdI E I o i) :: st) κ I L Z) : Ev E d μ pc al (vi i :: vr o :: st) κ I L Z := by
  intro R p e s m args below meth c H locs ls hR hC hX hW hS hL
  obtain ⟨cell, c1, c2, c3, c4, c5, c6⟩ := cell_of (by decide) hX hW hS ha
  have hx := ix_of h0 h1
  have hv := c6 i.toNat hx.2
  rw [hx.1] at hv
  exact W.zald hC.1 hC.2.1 c1 c2 c3 (nin_of h0 h1 hi c4) (by rw [oi_nat hi]; exact hv) rfl rfl hd (k (rdI_r hW.2.2.2.2 o i) R p e s m args below meth c H locs ls hR hC hX hW hS hL)
theorem E_lald {E : En} {d : Nat} {μ : Mu} {pc : Nat} {al st : List AV} {κ : Kp} {I L : MI} {Z : Zt} {o n : Nat} {i : Int} (hd : decode μ.2.1 pc = .ok (.laload, 1)) (ha : arr E κ.1 o = some (3, n)) (h0 : 0 ≤ i) (h1 : i < n) (hi : Ir i) (k : Jr (rdL L o i) → Ev E d μ (pc + 1) al (vl (rdL L o i) :: st) κ I L Z) : Ev E d μ pc al (vi i :: vr o :: st) κ I L Z := by
  intro R p e s m args below meth c H locs ls hR hC hX hW hS hL
  obtain ⟨cell, c1, c2, c3, c4, c5, c6⟩ := cell_of (by decide) hX hW hS ha
  have hx := ix_of h0 h1
  have hv := c6 i.toNat hx.2
  rw [hx.1] at hv
  exact W.lald hC.1 hC.2.1 c1 c2 c3 (nin_of h0 h1 hi c4) (by rw [oi_nat hi]; exact hv) rfl rfl hd (k (rdL_r hW.2.2.2.2 o i) R p e s m args below meth c H locs ls hR hC hX hW hS hL)
theorem E_aald {E : En} {d : Nat} {μ : Mu} {pc : Nat} {al st : List AV} {κ : Kp} {I L : MI} {Z : Zt} {o n kd q : Nat} {i : Int} (hd : decode μ.2.1 pc = .ok (.aaload, 1)) (ha : arr E κ.1 o = some (kd + 4, n)) (hkd : kd < 2) (h0 : 0 ≤ i) (h1 : i < n) (hi : Ir i) (hq : κ.1.2 o i = some q) (k : Ev E d μ (pc + 1) al (vr q :: st) κ I L Z) : Ev E d μ pc al (vi i :: vr o :: st) κ I L Z := by
  intro R p e s m args below meth c H locs ls hR hC hX hW hS hL
  obtain ⟨cell, c1, c2, c3, c4, c5, c6⟩ := cell_of (show kd + 4 < 6 by omega) hX hW hS ha
  have hx := ix_of h0 h1
  have hv := c6 i.toNat hx.2
  rw [hx.1] at hv
  have e2 : avl E κ.1 I L o (kd + 4) i = .ref (adr E q) := by
    show va_rf ((κ.1.2 o i).map (adr E)) = _
    rw [hq]; rfl
  rw [e2] at hv
  have hr : (aty (kd + 4)).isReference = true := by
    match kd, hkd with
    | 0, _ => rfl
    | 1, _ => rfl
    | n + 2, h => omega
  exact W.aald hC.1 hC.2.1 c1 c2 hr c3 (nin_of h0 h1 hi c4) (by rw [oi_nat hi]; exact hv) rfl rfl hd (k R p e s m args below meth c H locs ls hR hC hX hW hS hL)
theorem E_alen {E : En} {d : Nat} {μ : Mu} {pc : Nat} {al st : List AV} {κ : Kp} {I L : MI} {Z : Zt} {o n kd : Nat} {z : Int} (hd : decode μ.2.1 pc = .ok (.arraylength, 1)) (ha : arr E κ.1 o = some (kd, n)) (hkd : kd < 6) (hz : (n : Int) = z) (k : Ev E d μ (pc + 1) al (vi z :: st) κ I L Z) : Ev E d μ pc al (vr o :: st) κ I L Z := by
  intro R p e s m args below meth c H locs ls hR hC hX hW hS hL
  obtain ⟨cell, c1, c2, c3, c4, c5, c6⟩ := cell_of hkd hX hW hS ha
  refine W.alen hC.1 hC.2.1 c1 c2 (c5.trans ?_) rfl rfl hd (k R p e s m args below meth c H locs ls hR hC hX hW hS hL)
  rw [← hz]
  exact (Int32.ofInt_eq_ofNat).symm
theorem E_iast {E : En} {d : Nat} {μ : Mu} {pc : Nat} {al st : List AV} {κ : Kp} {I L : MI} {Z : Zt} {o n : Nat} {i z : Int} (hd : decode μ.2.1 pc = .ok (.iastore, 1)) (ha : κ.1.1[o]? = some (.inr (0, n))) (h0 : 0 ≤ i) (h1 : i < n) (hi : Ir i) (hz0 : Ir z) (k : Ev E d μ (pc + 1) al st κ (up2 I o i z) L Z) : Ev E d μ pc al (vi z :: vi i :: vr o :: st) κ I L Z := by
  intro R p e s m args below meth c H locs ls hR hC hX hW hS hL
  have ho := hW.lt ha
  have e1 : F0 m pc ls ((vi z :: vi i :: vr o :: st).map (cv E)) = F0 m pc ls (.int (Int32.ofInt z) :: .int (Int32.ofInt i) :: .ref (EB E + o) :: st.map (cv E)) := by
    show F0 m pc ls (.int (Int32.ofInt z) :: .int (Int32.ofInt i) :: .ref (adr E o) :: st.map (cv E)) = _
    rw [adr_in ho]
  rw [e1]
  have c1 : H[EB E + o]? = some (vp_cell (EA E 0) (n, arf E κ.1 I L o 0)) := hW.1 o _ (wld_get ha)
  rw [arf_cell ho] at c1
  have hA := hW.2.2.2.1.2 0 _ (tysE_at (by decide))
  refine W.iast hC.1 hC.2.1 c1 (hA.1 n _) (fun q => by cases q) (nin_of h0 h1 hi (by rw [arrV_size]; exact Nat.le_refl _)) rfl rfl hd fun H1 e3 hz oq => ?_
  rw [arrV_store, oi_nat hi] at e3
  refine k R p e s m args below meth c H1 _ ls hR hC hX (hW.wr rfl ha ?_ hz oq (fun o' s' h => ent_I h) (hW.2.2.2.2.upI hz0)) (hS.wr hz oq) hL
  show H1[EB E + o]? = some (vp_cell (EA E 0) (n, arf E κ.1 (up2 I o i z) (L) o 0))
  rw [e3, arf_cell ho]
  congr 2
  funext j
  unfold updV
  by_cases hj : j = i.toNat
  · have hj2 : (j : Int) = i := by omega
    rw [if_pos hj]
    simp [avl, rdI, rdL, up2, ho, hj2]
  · have hj2 : ¬ (j : Int) = i := by omega
    rw [if_neg hj]
    simp [avl, rdI, rdL, up2, ho, hj2]
theorem E_bast {E : En} {d : Nat} {μ : Mu} {pc : Nat} {al st : List AV} {κ : Kp} {I L : MI} {Z : Zt} {o n : Nat} {i z y : Int} (hd : decode μ.2.1 pc = .ok (.bastore, 1)) (ha : κ.1.1[o]? = some (.inr (1, n))) (h0 : 0 ≤ i) (h1 : i < n) (hi : Ir i) (hy0 : Ir y) (hy : narrow .byte (.int (Int32.ofInt z)) = .int (Int32.ofInt y)) (k : Ev E d μ (pc + 1) al st κ (up2 I o i y) L Z) : Ev E d μ pc al (vi z :: vi i :: vr o :: st) κ I L Z := by
  intro R p e s m args below meth c H locs ls hR hC hX hW hS hL
  have ho := hW.lt ha
  have e1 : F0 m pc ls ((vi z :: vi i :: vr o :: st).map (cv E)) = F0 m pc ls (.int (Int32.ofInt z) :: .int (Int32.ofInt i) :: .ref (EB E + o) :: st.map (cv E)) := by
    show F0 m pc ls (.int (Int32.ofInt z) :: .int (Int32.ofInt i) :: .ref (adr E o) :: st.map (cv E)) = _
    rw [adr_in ho]
  rw [e1]
  have c1 : H[EB E + o]? = some (vp_cell (EA E 1) (n, arf E κ.1 I L o 1)) := hW.1 o _ (wld_get ha)
  rw [arf_cell ho] at c1
  have hA := hW.2.2.2.1.2 1 _ (tysE_at (by decide))
  refine W.bast hC.1 hC.2.1 c1 (hA.1 n _) (fun q => by cases q) (nin_of h0 h1 hi (by rw [arrV_size]; exact Nat.le_refl _)) rfl rfl hd fun H1 e3 hz oq => ?_
  rw [arrV_store, oi_nat hi] at e3
  refine k R p e s m args below meth c H1 _ ls hR hC hX (hW.wr rfl ha ?_ hz oq (fun o' s' h => ent_I h) (hW.2.2.2.2.upI hy0)) (hS.wr hz oq) hL
  show H1[EB E + o]? = some (vp_cell (EA E 1) (n, arf E κ.1 (up2 I o i y) (L) o 1))
  rw [e3, arf_cell ho]
  congr 2
  funext j
  unfold updV
  by_cases hj : j = i.toNat
  · have hj2 : (j : Int) = i := by omega
    rw [if_pos hj]
    simp [avl, rdI, rdL, up2, ho, hj2, hy]
  · have hj2 : ¬ (j : Int) = i := by omega
    rw [if_neg hj]
    simp [avl, rdI, rdL, up2, ho, hj2]
theorem E_zast {E : En} {d : Nat} {μ : Mu} {pc : Nat} {al st : List AV} {κ : Kp} {I L : MI} {Z : Zt} {o n : Nat} {i z y : Int} (hd : decode μ.2.1 pc = .ok (.bastore, 1)) (ha : κ.1.1[o]? = some (.inr (2, n))) (h0 : 0 ≤ i) (h1 : i < n) (hi : Ir i) (hy0 : Ir y) (hy : narrow .boolean (.int (Int32.ofInt z)) = .int (Int32.ofInt y)) (k : Ev E d μ (pc + 1) al st κ (up2 I o i y) L Z) : Ev E d μ pc al (vi z :: vi i :: vr o :: st) κ I L Z := by
  intro R p e s m args below meth c H locs ls hR hC hX hW hS hL
  have ho := hW.lt ha
  have e1 : F0 m pc ls ((vi z :: vi i :: vr o :: st).map (cv E)) = F0 m pc ls (.int (Int32.ofInt z) :: .int (Int32.ofInt i) :: .ref (EB E + o) :: st.map (cv E)) := by
    show F0 m pc ls (.int (Int32.ofInt z) :: .int (Int32.ofInt i) :: .ref (adr E o) :: st.map (cv E)) = _
    rw [adr_in ho]
  rw [e1]
  have c1 : H[EB E + o]? = some (vp_cell (EA E 2) (n, arf E κ.1 I L o 2)) := hW.1 o _ (wld_get ha)
  rw [arf_cell ho] at c1
  have hA := hW.2.2.2.1.2 2 _ (tysE_at (by decide))
  refine W.zast hC.1 hC.2.1 c1 (hA.1 n _) (fun q => by cases q) (nin_of h0 h1 hi (by rw [arrV_size]; exact Nat.le_refl _)) rfl rfl hd fun H1 e3 hz oq => ?_
  rw [arrV_store, oi_nat hi] at e3
  refine k R p e s m args below meth c H1 _ ls hR hC hX (hW.wr rfl ha ?_ hz oq (fun o' s' h => ent_I h) (hW.2.2.2.2.upI hy0)) (hS.wr hz oq) hL
  show H1[EB E + o]? = some (vp_cell (EA E 2) (n, arf E κ.1 (up2 I o i y) (L) o 2))
  rw [e3, arf_cell ho]
  congr 2
  funext j
  unfold updV
  by_cases hj : j = i.toNat
  · have hj2 : (j : Int) = i := by omega
    rw [if_pos hj]
    simp [avl, rdI, rdL, up2, ho, hj2, hy]
  · have hj2 : ¬ (j : Int) = i := by omega
    rw [if_neg hj]
    simp [avl, rdI, rdL, up2, ho, hj2]
theorem E_last {E : En} {d : Nat} {μ : Mu} {pc : Nat} {al st : List AV} {κ : Kp} {I L : MI} {Z : Zt} {o n : Nat} {i z : Int} (hd : decode μ.2.1 pc = .ok (.lastore, 1)) (ha : κ.1.1[o]? = some (.inr (3, n))) (h0 : 0 ≤ i) (h1 : i < n) (hi : Ir i) (hz0 : Jr z) (k : Ev E d μ (pc + 1) al st κ I (up2 L o i z) Z) : Ev E d μ pc al (vl z :: vi i :: vr o :: st) κ I L Z := by
  intro R p e s m args below meth c H locs ls hR hC hX hW hS hL
  have ho := hW.lt ha
  have e1 : F0 m pc ls ((vl z :: vi i :: vr o :: st).map (cv E)) = F0 m pc ls (.long (Int64.ofInt z) :: .int (Int32.ofInt i) :: .ref (EB E + o) :: st.map (cv E)) := by
    show F0 m pc ls (.long (Int64.ofInt z) :: .int (Int32.ofInt i) :: .ref (adr E o) :: st.map (cv E)) = _
    rw [adr_in ho]
  rw [e1]
  have c1 : H[EB E + o]? = some (vp_cell (EA E 3) (n, arf E κ.1 I L o 3)) := hW.1 o _ (wld_get ha)
  rw [arf_cell ho] at c1
  have hA := hW.2.2.2.1.2 3 _ (tysE_at (by decide))
  refine W.last hC.1 hC.2.1 c1 (hA.1 n _) (fun q => by cases q) (nin_of h0 h1 hi (by rw [arrV_size]; exact Nat.le_refl _)) rfl rfl hd fun H1 e3 hz oq => ?_
  rw [arrV_store, oi_nat hi] at e3
  refine k R p e s m args below meth c H1 _ ls hR hC hX (hW.wr rfl ha ?_ hz oq (fun o' s' h => ent_L h) (hW.2.2.2.2.upL hz0)) (hS.wr hz oq) hL
  show H1[EB E + o]? = some (vp_cell (EA E 3) (n, arf E κ.1 (I) (up2 L o i z) o 3))
  rw [e3, arf_cell ho]
  congr 2
  funext j
  unfold updV
  by_cases hj : j = i.toNat
  · have hj2 : (j : Int) = i := by omega
    rw [if_pos hj]
    simp [avl, rdI, rdL, up2, ho, hj2]
  · have hj2 : ¬ (j : Int) = i := by omega
    rw [if_neg hj]
    simp [avl, rdI, rdL, up2, ho, hj2]
theorem E_gets {E : En} {d : Nat} {μ : Mu} {pc : Nat} {al st : List AV} {κ : Kp} {I L : MI} {Z : Zt} {n dsc : String} {index : Nat} {own : String} {v : AV} (hd : decode μ.2.1 pc = .ok (.getstatic index, 3)) (hw : Cond.fieldLink μ.1.cls index own n dsc ∈ WS) (hm : (own, n, dsc, v) ∈ stZ) (k : Ev E d μ (pc + 3) al (v :: st) κ I L Z) : Ev E d μ pc al st κ I L Z := by
  intro R p e s m args below meth c H locs ls hR hC hX hW hS hL
  exact va_gets hC.1 hC.2.1 (hX.2.2.1 _ hm) hS hC.2.2.2.1 (hC.2.2.2.2.1 _ hw) (fun x h => h) hd (k R p e s m args below meth c H locs ls hR hC hX hW hS hL)
theorem E_getsN {E : En} {d : Nat} {μ : Mu} {pc : Nat} {al st : List AV} {κ : Kp} {I L : MI} {Z : Zt} {n dsc : String} {index : Nat} {own host cl : String} {v : AV} (hd : decode μ.2.1 pc = .ok (.getstatic index, 3)) (hy : μ.1.cls = cl) (hw : (cl, index, own, n, dsc, host) ∈ nstF) (hm : (own, n, dsc, v) ∈ stZ) (k : Ev E d μ (pc + 3) al (v :: st) κ I L Z) : Ev E d μ pc al st κ I L Z := by
  subst hy
  intro R p e s m args below meth c H locs ls hR hC hX hW hS hL
  exact va_getsN hC.1 hC.2.1 (hX.2.2.1 _ hm) hS hC.2.2.2.1 (va_Nw.use rfl (hX.2.2.2.2.2.2.2.2.1 _ hw)) (fun x h => h) hd (k R p e s m args below meth c H locs ls hR hC hX hW hS hL)
theorem E_aconst {E : En} {d : Nat} {μ : Mu} {pc : Nat} {al st : List AV} {κ : Kp} {I L : MI} {Z : Zt} (hd : decode μ.2.1 pc = .ok (.aconst_null, 1)) (k : Ev E d μ (pc + 1) al (vn :: st) κ I L Z) : Ev E d μ pc al st κ I L Z := by
  intro R p e s m args below meth c H locs ls hR hC hX hW hS hL
  exact lv_null hC.1 hC.2.1 hd (k R p e s m args below meth c H locs ls hR hC hX hW hS hL)
theorem E_ifnull {E : En} {d : Nat} {μ : Mu} {pc : Nat} {al st : List AV} {κ : Kp} {I L : MI} {Z : Zt} {o : Nat} {off : Int} (hd : decode μ.2.1 pc = .ok (.ifnull off, 3)) (k : Ev E d μ (pc + 3) al st κ I L Z) : Ev E d μ pc al (vr o :: st) κ I L Z := by
  intro R p e s m args below meth c H locs ls hR hC hX hW hS hL
  exact lv_ifnull hC.1 hC.2.1 hd (k R p e s m args below meth c H locs ls hR hC hX hW hS hL)
theorem E_ifnullN {E : En} {d : Nat} {μ : Mu} {pc : Nat} {al st : List AV} {κ : Kp} {I L : MI} {Z : Zt} {tgt : Nat} {off : Int} (hd : decode μ.2.1 pc = .ok (.ifnull off, 3)) (k : Ev E d μ tgt al st κ I L Z) (ht : (pc : Int) + off = (tgt : Int) := by decide) : Ev E d μ pc al (vn :: st) κ I L Z := by
  intro R p e s m args below meth c H locs ls hR hC hX hW hS hL
  exact lv_ifnullN hC.1 hC.2.1 hd ht (k R p e s m args below meth c H locs ls hR hC hX hW hS hL)
theorem E_ifnonnull {E : En} {d : Nat} {μ : Mu} {pc : Nat} {al st : List AV} {κ : Kp} {I L : MI} {Z : Zt} {o : Nat} {tgt : Nat} {off : Int} (hd : decode μ.2.1 pc = .ok (.ifnonnull off, 3)) (k : Ev E d μ tgt al st κ I L Z) (ht : (pc : Int) + off = (tgt : Int) := by decide) : Ev E d μ pc al (vr o :: st) κ I L Z := by
  intro R p e s m args below meth c H locs ls hR hC hX hW hS hL
  exact lv_ifnonnull hC.1 hC.2.1 hd ht (k R p e s m args below meth c H locs ls hR hC hX hW hS hL)
theorem E_ifnonnullN {E : En} {d : Nat} {μ : Mu} {pc : Nat} {al st : List AV} {κ : Kp} {I L : MI} {Z : Zt} {off : Int} (hd : decode μ.2.1 pc = .ok (.ifnonnull off, 3)) (k : Ev E d μ (pc + 3) al st κ I L Z) : Ev E d μ pc al (vn :: st) κ I L Z := by
  intro R p e s m args below meth c H locs ls hR hC hX hW hS hL
  exact lv_ifnonnullN hC.1 hC.2.1 hd (k R p e s m args below meth c H locs ls hR hC hX hW hS hL)
theorem E_ireturn {E : En} {d : Nat} {μ : Mu} {pc : Nat} {al : List AV} {g : Geo} {cs : Nat × Nat} {I L : MI} {Q : Option AV → Geo → MI → MI → Prop} {z : Int} (hr : μ.2.2.2.1 = some .int) (hd : decode μ.2.1 pc = .ok (.ireturn, 1)) (hq : Q (some (vi z)) g I L) (h1 : cs.1 ≤ μ.2.2.2.2.1 := by decide) (h2 : cs.2 ≤ μ.2.2.2.2.2 := by decide) : Ev E d μ pc al [vi z] (g, cs) I L (ZQ E μ Q) := by
  intro R p e s m args below meth c H locs ls hR hC hX hW hS hL
  refine W.widen h1 h2 ?_
  exact W.iret hC.1 hC.2.1 (hC.2.2.2.2.2.1.trans hr) (fun t ht hw => ⟨⟨some (vi z), g, I, L, rfl, by rw [ht]; exact Wd.vm hw.alike hW, hq⟩, hS.F ht⟩) hS.2.2 hd hC.2.2.2.2.2.2.1
theorem E_zreturn {E : En} {d : Nat} {μ : Mu} {pc : Nat} {al : List AV} {g : Geo} {cs : Nat × Nat} {I L : MI} {Q : Option AV → Geo → MI → MI → Prop} {z : Int} (hr : μ.2.2.2.1 = some .boolean) (hz : z = 0 ∨ z = 1) (hd : decode μ.2.1 pc = .ok (.ireturn, 1)) (hq : Q (some (vi z)) g I L) (h1 : cs.1 ≤ μ.2.2.2.2.1 := by decide) (h2 : cs.2 ≤ μ.2.2.2.2.2 := by decide) : Ev E d μ pc al [vi z] (g, cs) I L (ZQ E μ Q) := by
  intro R p e s m args below meth c H locs ls hR hC hX hW hS hL
  refine W.widen h1 h2 ?_
  exact W.zret hC.1 hC.2.1 (hC.2.2.2.2.2.1.trans hr) (by rcases hz with rfl | rfl <;> rfl) (fun t ht hw => ⟨⟨some (vi z), g, I, L, rfl, by rw [ht]; exact Wd.vm hw.alike hW, hq⟩, hS.F ht⟩) hS.2.2 hd hC.2.2.2.2.2.2.1
theorem E_creturn {E : En} {d : Nat} {μ : Mu} {pc : Nat} {al : List AV} {g : Geo} {cs : Nat × Nat} {I L : MI} {Q : Option AV → Geo → MI → MI → Prop} {z : Int} {ty : FieldType} (hr : μ.2.2.2.1 = some ty) (hz : narrow ty (.int (Int32.ofInt z)) = .int (Int32.ofInt z)) (hd : decode μ.2.1 pc = .ok (.ireturn, 1)) (hq : Q (some (vi z)) g I L) (h1 : cs.1 ≤ μ.2.2.2.2.1 := by decide) (h2 : cs.2 ≤ μ.2.2.2.2.2 := by decide) : Ev E d μ pc al [vi z] (g, cs) I L (ZQ E μ Q) := by
  intro R p e s m args below meth c H locs ls hR hC hX hW hS hL
  refine W.widen h1 h2 ?_
  exact W.zret hC.1 hC.2.1 (hC.2.2.2.2.2.1.trans hr) hz (fun t ht hw => ⟨⟨some (vi z), g, I, L, rfl, by rw [ht]; exact Wd.vm hw.alike hW, hq⟩, hS.F ht⟩) hS.2.2 hd hC.2.2.2.2.2.2.1
theorem E_lreturn {E : En} {d : Nat} {μ : Mu} {pc : Nat} {al : List AV} {g : Geo} {cs : Nat × Nat} {I L : MI} {Q : Option AV → Geo → MI → MI → Prop} {z : Int} (hr : μ.2.2.2.1 = some .long) (hd : decode μ.2.1 pc = .ok (.lreturn, 1)) (hq : Q (some (vl z)) g I L) (h1 : cs.1 ≤ μ.2.2.2.2.1 := by decide) (h2 : cs.2 ≤ μ.2.2.2.2.2 := by decide) : Ev E d μ pc al [vl z] (g, cs) I L (ZQ E μ Q) := by
  intro R p e s m args below meth c H locs ls hR hC hX hW hS hL
  refine W.widen h1 h2 ?_
  exact W.lret hC.1 hC.2.1 (hC.2.2.2.2.2.1.trans hr) (fun t ht hw => ⟨⟨some (vl z), g, I, L, rfl, by rw [ht]; exact Wd.vm hw.alike hW, hq⟩, hS.F ht⟩) hS.2.2 hd hC.2.2.2.2.2.2.1
theorem E_areturn {E : En} {d : Nat} {μ : Mu} {pc : Nat} {al : List AV} {g : Geo} {cs : Nat × Nat} {I L : MI} {Q : Option AV → Geo → MI → MI → Prop} {z : Nat} {C : String} (hr : μ.2.2.2.1 = some (.object C)) (hd : decode μ.2.1 pc = .ok (.areturn, 1)) (hq : Q (some (vr z)) g I L) (h1 : cs.1 ≤ μ.2.2.2.2.1 := by decide) (h2 : cs.2 ≤ μ.2.2.2.2.2 := by decide) : Ev E d μ pc al [vr z] (g, cs) I L (ZQ E μ Q) := by
  intro R p e s m args below meth c H locs ls hR hC hX hW hS hL
  refine W.widen h1 h2 ?_
  exact W.aret hC.1 hC.2.1 (hC.2.2.2.2.2.1.trans hr) (Or.inl ⟨_, rfl⟩) (Or.inr ⟨_, rfl⟩) (fun t ht hw => ⟨⟨some (vr z), g, I, L, rfl, by rw [ht]; exact Wd.vm hw.alike hW, hq⟩, hS.F ht⟩) hS.2.2 hd hC.2.2.2.2.2.2.1
theorem E_areturnN {E : En} {d : Nat} {μ : Mu} {pc : Nat} {al : List AV} {g : Geo} {cs : Nat × Nat} {I L : MI} {Q : Option AV → Geo → MI → MI → Prop} {C : String} (hr : μ.2.2.2.1 = some (.object C)) (hd : decode μ.2.1 pc = .ok (.areturn, 1)) (hq : Q (some vn) g I L) (h1 : cs.1 ≤ μ.2.2.2.2.1 := by decide) (h2 : cs.2 ≤ μ.2.2.2.2.2 := by decide) : Ev E d μ pc al [vn] (g, cs) I L (ZQ E μ Q) := by
  intro R p e s m args below meth c H locs ls hR hC hX hW hS hL
  refine W.widen h1 h2 ?_
  exact W.aret hC.1 hC.2.1 (hC.2.2.2.2.2.1.trans hr) (Or.inl ⟨_, rfl⟩) (Or.inl rfl) (fun t ht hw => ⟨⟨some vn, g, I, L, rfl, by rw [ht]; exact Wd.vm hw.alike hW, hq⟩, hS.F ht⟩) hS.2.2 hd hC.2.2.2.2.2.2.1
theorem E_return {E : En} {d : Nat} {μ : Mu} {pc : Nat} {al : List AV} {g : Geo} {cs : Nat × Nat} {I L : MI} {Q : Option AV → Geo → MI → MI → Prop} (hr : μ.2.2.2.1 = none) (hd : decode μ.2.1 pc = .ok (.return_, 1)) (hq : Q none g I L) (h1 : cs.1 ≤ μ.2.2.2.2.1 := by decide) (h2 : cs.2 ≤ μ.2.2.2.2.2 := by decide) : Ev E d μ pc al [] (g, cs) I L (ZQ E μ Q) := by
  intro R p e s m args below meth c H locs ls hR hC hX hW hS hL
  refine W.widen h1 h2 ?_
  exact W.vret hC.1 hC.2.1 (hC.2.2.2.2.2.1.trans hr) (fun t ht hw => ⟨⟨none, g, I, L, rfl, by rw [ht]; exact Wd.vm hw.alike hW, hq⟩, hS.F ht⟩) hS.2.2 hd hC.2.2.2.2.2.2.1
theorem ow_call {E : En} {R : Room} {p : Program} {e : Env} {s : State} {m : MethodId} {args : Array Value} {below : List Frame} {meth : Method} {c : Code} {H : Heap} {locs : List Loc} {ls : Array Slot} {cells slots mc ms pc : Nat} {st0 rest : List Value} {a0 : Array Value} {Qf : State → Prop} {g : Geo} {I L : MI} {Q : Option AV → Geo → MI → MI → Prop}
    (hr : va_Run p (El E) e R s m args below meth c H locs cells slots mc ms (F0 m pc ls st0) rest (QcE E Q a0) (EF E)) (hS : va_S (EF E) s.heap H locs) (hW : Wd E g I L s H)
    (kk : ∀ (r : Option AV) (g' : Geo) (I' L' : MI) (H1 : Heap) (locs1 : List Loc), Q r g' I' L' → Wd E g' I' L' s H1 → va_S (EF E) s.heap H1 locs1 → W p (El E) e R s m args below meth c H1 locs1 (cells + mc) (slots + ms) Qf (F0 m (pc + 3) ls ((r.map (cv E)).toList ++ rest))) :
    W p (El E) e R s m args below meth c H locs cells slots Qf (F0 m pc ls st0) := by
  intro T hT X
  obtain ⟨v, st₀, t, T', Lc, h0, X', hL, e1, e2, ⟨⟨r, g', I', L', hv, hw, hq⟩, hz, hk⟩, stp⟩ := hr T hT X
  cases hv
  rw [h0] at hz hk
  have hA : s.vm.Alike t.vm := by rw [← e2]; exact X'.warmed.alike
  obtain ⟨t2, a1, b1⟩ := kk r g' I' L' T'.heap (locs ++ Lc) hq ⟨by rw [e1]; exact hw.1, by rw [e1]; exact hw.2.1, hw.2.2.1, hW.2.2.2.1, hw.2.2.2.2⟩
    ⟨Nat.le_trans hS.1 (by rw [e1]; exact hz), fun q h1 h2 => by rw [e1, hk q (Nat.lt_of_lt_of_le h1 hS.1) h2]; exact hS.2.1 q h1 h2, fun q hq2 => by
      rcases List.mem_append.mp hq2 with h | h
      · exact hS.2.2 q h
      · exact hL q h⟩ T' rfl X'
  exact ⟨t2, stp t2 a1, b1⟩
theorem pre_of {E : En} {as : List AV} {g : Geo} {I L : MI} {s : State} {H : Heap} {locs : List Loc} (hX : Xt E s s.heap) (hW : Wd E g I L s H) (hS : va_S (EF E) s.heap H locs) : ∀ U : State, U.heap = H → s.WarmedH U.vm → PcE E as g I L (as.map (cv E)).toArray U := by
  intro U hU hw
  refine ⟨rfl, ?_, ?_⟩
  · rw [hU]; exact (hX.warm hw).kept hS.1 hS.2.1
  · rw [hU]; exact hW.vm hw.alike
theorem room_of {d d' nL : Nat} {μ : Mu} {R : Room} {mc ms : Nat} (hR : RmOk d μ R) (hlt : d' + 1 ≤ d) (hn : nL ≤ 21) : (rmd d' mc ms).frames + 1 ≤ R.frames ∧ 8 + (nL + 11) + (rmd d' mc ms).locals ≤ R.locals := by
  have h1 := hR.1
  have h2 := hR.2.1
  exact ⟨Nat.le_trans hlt h1, by show 8 + (nL + 11) + 40 * d' ≤ R.locals; omega⟩
theorem mapst {E : En} {as rest : List AV} : (as.reverse ++ rest).map (cv E) = (as.map (cv E)).reverse ++ rest.map (cv E) := by
  rw [List.map_append, List.map_reverse]
def ctx (st : List AV) : Nat := (st.map fun v => match v with
  | .inr (.inl _) => 2
  | _ => 1).sum
theorem ctx_of {E : En} {st : List AV} : ((st.map (cv E)).map fun v => v.category).sum = ctx st := by
  unfold ctx
  rw [List.map_map]
  congr 1
  apply List.map_congr_left
  intro v _
  match v with
  | .inl z => rfl
  | .inr (.inl z) => rfl
  | .inr (.inr (.inl o)) => rfl
  | .inr (.inr (.inr (.inl u))) => rfl
  | .inr (.inr (.inr (.inr u))) => rfl
set_option maxHeartbeats 1000000 in
theorem E_callS {E : En} {d d' : Nat} {μ μ' : Mu} {pc : Nat} {al st as rest : List AV} {g : Geo} {cs : Nat × Nat} {I L : MI} {Z : Zt} {Q : Option AV → Geo → MI → MI → Prop} {index n : Nat} (hM : CM E d' μ' as g I L Q) (hd : decode μ.2.1 pc = .ok (.invokestatic index, 3)) (wl : Cond.methodLink μ.1.cls index μ'.1 ∈ WS) (ws : Cond.static μ'.1 ∈ WS) (hlt : d' + 1 ≤ d) (wc : Cond.code μ'.1 μ'.2.1 μ'.2.2.1 μ'.2.2.2.1 ∈ WS) (wi : Cond.initialized μ'.1.cls ∈ WS) (hdd : μ'.1.cls ≠ "java/lang/invoke/MethodHandle" ∧ μ'.1.cls ≠ "java/lang/invoke/VarHandle" ∧ (parseMethodDescriptor μ'.1.desc).map (fun d => d.parameters.length) = some n) (hn : as.length = n) (hnl : μ'.2.2.1 ≤ 21) (hct : ctx rest ≤ 8) (hc1 : cs.1 + μ'.2.2.2.2.1 ≤ μ.2.2.2.2.1) (hc2 : cs.2 + μ'.2.2.2.2.2 ≤ μ.2.2.2.2.2) (hst : as.reverse ++ rest = st) (kk : ∀ (r : Option AV) (g' : Geo) (I' L' : MI), Q r g' I' L' → Ev E d μ (pc + 3) al (r.toList ++ rest) (g', cs.1 + μ'.2.2.2.2.1, cs.2 + μ'.2.2.2.2.2) I' L' Z) : Ev E d μ pc al st (g, cs) I L Z := by
  subst hst
  intro R p e s m args below meth c H locs ls hR hC hX hW hS hL
  refine ow_call (Q := Q) (a0 := (as.map (cv E)).toArray) (rest := rest.map (cv E)) (mc := μ'.2.2.2.2.1) (ms := μ'.2.2.2.2.2) (g := g) (I := I) (L := L) ?run hS hW fun r g' I' L' H1 locs1 hq hW1 hS1 => ?_
  · exact va_runS ⟨hC.1, hC.2.1, hC.2.2.1, hC.2.2.2.1, hC.2.2.2.2.1⟩ hM ⟨(callB_of (rm := rmd d' μ'.2.2.2.2.1 μ'.2.2.2.2.2) (mc := μ'.2.2.2.2.1) (ms := μ'.2.2.2.2.2) (Ts := WS) (ws' := WS) n hC.2.2.2.2.1 (wsM_good wc) rfl rfl rfl (hC.2.2.2.2.1 _ wi) (hC.2.2.2.2.1 _ wl) hdd (room_of hR hlt hnl)), hC.2.2.2.2.1 _ ws⟩ ⟨PcE_blind, pre_of hX hW hS⟩ rfl (by rw [List.length_map]; exact hn) hL.1.1 mapst (by show 2 * 0 + _ ≤ 8; rw [ctx_of]; omega) hd ⟨Nat.le_trans hc1 hR.2.2.1, Nat.le_trans hc2 hR.2.2.2⟩
  · have hk := kk r g' I' L' hq R p e s m args below meth c H1 locs1 ls hR hC hX hW1 hS1 hL
    have e2 : (r.toList ++ rest).map (cv E) = (r.map (cv E)).toList ++ rest.map (cv E) := by
      rw [List.map_append]
      cases r <;> rfl
    rw [e2] at hk
    exact hk
set_option maxHeartbeats 1000000 in
theorem E_callSN {E : En} {d d' : Nat} {μ μ' : Mu} {pc : Nat} {al st as rest : List AV} {g : Geo} {cs : Nat × Nat} {I L : MI} {Z : Zt} {Q : Option AV → Geo → MI → MI → Prop} {index n : Nat} {host cl : String} (hM : CM E d' μ' as g I L Q) (hd : decode μ.2.1 pc = .ok (.invokestatic index, 3)) (hy : μ.1.cls = cl) (wl : (cl, index, μ'.1, host) ∈ nstM) (ws : Cond.static μ'.1 ∈ WS) (hlt : d' + 1 ≤ d) (wc : Cond.code μ'.1 μ'.2.1 μ'.2.2.1 μ'.2.2.2.1 ∈ WS) (wi : Cond.initialized μ'.1.cls ∈ WS) (hdd : μ'.1.cls ≠ "java/lang/invoke/MethodHandle" ∧ μ'.1.cls ≠ "java/lang/invoke/VarHandle" ∧ (parseMethodDescriptor μ'.1.desc).map (fun d => d.parameters.length) = some n) (hn : as.length = n) (hnl : μ'.2.2.1 ≤ 21) (hct : ctx rest ≤ 8) (hc1 : cs.1 + μ'.2.2.2.2.1 ≤ μ.2.2.2.2.1) (hc2 : cs.2 + μ'.2.2.2.2.2 ≤ μ.2.2.2.2.2) (hst : as.reverse ++ rest = st) (kk : ∀ (r : Option AV) (g' : Geo) (I' L' : MI), Q r g' I' L' → Ev E d μ (pc + 3) al (r.toList ++ rest) (g', cs.1 + μ'.2.2.2.2.1, cs.2 + μ'.2.2.2.2.2) I' L' Z) : Ev E d μ pc al st (g, cs) I L Z := by
  subst hst
  subst hy
  intro R p e s m args below meth c H locs ls hR hC hX hW hS hL
  refine ow_call (Q := Q) (a0 := (as.map (cv E)).toArray) (rest := rest.map (cv E)) (mc := μ'.2.2.2.2.1) (ms := μ'.2.2.2.2.2) (g := g) (I := I) (L := L) ?run hS hW fun r g' I' L' H1 locs1 hq hW1 hS1 => ?_
  · exact va_runSN ⟨hC.1, hC.2.1, hC.2.2.1, hC.2.2.2.1, hC.2.2.2.2.1⟩ hM ⟨(va_cnB (rm := rmd d' μ'.2.2.2.2.1 μ'.2.2.2.2.2) (mc := μ'.2.2.2.2.1) (ms := μ'.2.2.2.2.2) (Ts := WS) (ws' := WS) n hC.2.2.2.2.1 (wsM_good wc) rfl rfl rfl (hX.2.2.2.2.2.2.2.1 _ wl) (hC.2.2.2.2.1 _ wi) hdd (room_of hR hlt hnl)), hC.2.2.2.2.1 _ ws, trivial⟩ ⟨PcE_blind, pre_of hX hW hS⟩ rfl (by rw [List.length_map]; exact hn) hL.1.1 mapst (by show 2 * 0 + _ ≤ 8; rw [ctx_of]; omega) hd ⟨Nat.le_trans hc1 hR.2.2.1, Nat.le_trans hc2 hR.2.2.2⟩
  · have hk := kk r g' I' L' hq R p e s m args below meth c H1 locs1 ls hR hC hX hW1 hS1 hL
    have e2 : (r.toList ++ rest).map (cv E) = (r.map (cv E)).toList ++ rest.map (cv E) := by
      rw [List.map_append]
      cases r <;> rfl
    rw [e2] at hk
    exact hk
theorem mapsr {E : En} {as rest : List AV} {o : Nat} (ho : o < 1000) : (as.reverse ++ vr o :: rest).map (cv E) = (as.map (cv E)).reverse ++ .ref (EB E + o) :: rest.map (cv E) := by
  rw [List.map_append, List.map_reverse]
  show _ ++ Value.ref (adr E o) :: _ = _
  rw [adr_in ho]
theorem pre_or {E : En} {as : List AV} {o : Nat} {g : Geo} {I L : MI} {s : State} {H : Heap} {locs : List Loc} (ho : o < 1000) (hX : Xt E s s.heap) (hW : Wd E g I L s H) (hS : va_S (EF E) s.heap H locs) : ∀ U : State, U.heap = H → s.WarmedH U.vm → PcE E (vr o :: as) g I L (Value.ref (EB E + o) :: as.map (cv E)).toArray U := by
  have h := pre_of (as := vr o :: as) hX hW hS
  have e : (vr o :: as).map (cv E) = Value.ref (EB E + o) :: as.map (cv E) := by
    show Value.ref (adr E o) :: _ = _
    rw [adr_in ho]
  rw [e] at h
  exact h
set_option maxHeartbeats 1000000 in
theorem E_callV {E : En} {d d' : Nat} {μ μ' : Mu} {pc : Nat} {al st as rest : List AV} {g : Geo} {cs : Nat × Nat} {I L : MI} {Z : Zt} {Q : Option AV → Geo → MI → MI → Prop} {index n : Nat} {o ci : Nat} (hM : CM E d' μ' (vr o :: as) g I L Q) (hd : decode μ.2.1 pc = .ok (.invokevirtual index, 3)) (wl : Cond.methodLink μ.1.cls index μ'.1 ∈ WS) (ws : Cond.instanceMethod μ'.1 ∈ WS) (wsel : Cond.selects μ'.1.cls μ'.1 μ'.1 ∈ WS) (hs : g.1[o]? = some (.inl ci)) (hci : ci < 12) (hcl : fRX ci = μ'.1.cls) (hlt : d' + 1 ≤ d) (wc : Cond.code μ'.1 μ'.2.1 μ'.2.2.1 μ'.2.2.2.1 ∈ WS) (wi : Cond.initialized μ'.1.cls ∈ WS) (hdd : μ'.1.cls ≠ "java/lang/invoke/MethodHandle" ∧ μ'.1.cls ≠ "java/lang/invoke/VarHandle" ∧ (parseMethodDescriptor μ'.1.desc).map (fun d => d.parameters.length) = some n) (hn : as.length = n) (hnl : μ'.2.2.1 ≤ 21) (hct : ctx rest ≤ 8) (hc1 : cs.1 + μ'.2.2.2.2.1 ≤ μ.2.2.2.2.1) (hc2 : cs.2 + μ'.2.2.2.2.2 ≤ μ.2.2.2.2.2) (hst : as.reverse ++ vr o :: rest = st) (kk : ∀ (r : Option AV) (g' : Geo) (I' L' : MI), Q r g' I' L' → Ev E d μ (pc + 3) al (r.toList ++ rest) (g', cs.1 + μ'.2.2.2.2.1, cs.2 + μ'.2.2.2.2.2) I' L' Z) : Ev E d μ pc al st (g, cs) I L Z := by
  subst hst
  intro R p e s m args below meth c H locs ls hR hC hX hW hS hL
  have ho := hW.lt hs
  refine ow_call (Q := Q) (a0 := (Value.ref (EB E + o) :: as.map (cv E)).toArray) (rest := rest.map (cv E)) (mc := μ'.2.2.2.2.1) (ms := μ'.2.2.2.2.2) (g := g) (I := I) (L := L) ?run hS hW fun r g' I' L' H1 locs1 hq hW1 hS1 => ?_
  · exact va_runV (b := EB E + o) (C := μ'.1.cls) ⟨hC.1, hC.2.1, hC.2.2.1, hC.2.2.2.1, hC.2.2.2.2.1⟩ hM ⟨(callB_of (rm := rmd d' μ'.2.2.2.2.1 μ'.2.2.2.2.2) (mc := μ'.2.2.2.2.1) (ms := μ'.2.2.2.2.2) (Ts := WS) (ws' := WS) n hC.2.2.2.2.1 (wsM_good wc) rfl rfl rfl (hC.2.2.2.2.1 _ wi) (hC.2.2.2.2.1 _ wl) hdd (room_of hR hlt hnl)), hC.2.2.2.2.1 _ ws, hC.2.2.2.2.1 _ wsel⟩ ⟨PcE_blind, (by have := va_recv hW.2.2.2.1 hW.1 (vwK_at hci) (wld_get hs); rw [hcl] at this; exact this), pre_or ho hX hW hS⟩ rfl (by rw [List.length_map]; exact hn) hL.1.1 (mapsr ho) (by show 2 * 0 + _ ≤ 8; rw [ctx_of]; omega) hd ⟨Nat.le_trans hc1 hR.2.2.1, Nat.le_trans hc2 hR.2.2.2⟩
  · have hk := kk r g' I' L' hq R p e s m args below meth c H1 locs1 ls hR hC hX hW1 hS1 hL
    have e2 : (r.toList ++ rest).map (cv E) = (r.map (cv E)).toList ++ rest.map (cv E) := by
      rw [List.map_append]
      cases r <;> rfl
    rw [e2] at hk
    exact hk
set_option maxHeartbeats 1000000 in
theorem E_callI {E : En} {d d' : Nat} {μ μ' : Mu} {pc : Nat} {al st as rest : List AV} {g : Geo} {cs : Nat × Nat} {I L : MI} {Z : Zt} {Q : Option AV → Geo → MI → MI → Prop} {index n : Nat} {o : Nat} (ho : o < 1000) (hM : CM E d' μ' (vr o :: as) g I L Q) (hd : decode μ.2.1 pc = .ok (.invokespecial index, 3)) (hrt : μ'.2.2.2.1 = none) (hini : μ'.1.name = "<init>") (wl : Cond.methodLink μ.1.cls index μ'.1 ∈ WS) (ws : Cond.instanceMethod μ'.1 ∈ WS) (hlt : d' + 1 ≤ d) (wc : Cond.code μ'.1 μ'.2.1 μ'.2.2.1 μ'.2.2.2.1 ∈ WS) (wi : Cond.initialized μ'.1.cls ∈ WS) (hdd : μ'.1.cls ≠ "java/lang/invoke/MethodHandle" ∧ μ'.1.cls ≠ "java/lang/invoke/VarHandle" ∧ (parseMethodDescriptor μ'.1.desc).map (fun d => d.parameters.length) = some n) (hn : as.length = n) (hnl : μ'.2.2.1 ≤ 21) (hct : ctx rest ≤ 8) (hc1 : cs.1 + μ'.2.2.2.2.1 ≤ μ.2.2.2.2.1) (hc2 : cs.2 + μ'.2.2.2.2.2 ≤ μ.2.2.2.2.2) (hst : as.reverse ++ vr o :: rest = st) (kk : ∀ (r : Option AV) (g' : Geo) (I' L' : MI), Q r g' I' L' → Ev E d μ (pc + 3) al (r.toList ++ rest) (g', cs.1 + μ'.2.2.2.2.1, cs.2 + μ'.2.2.2.2.2) I' L' Z) : Ev E d μ pc al st (g, cs) I L Z := by
  subst hst
  intro R p e s m args below meth c H locs ls hR hC hX hW hS hL
  refine ow_call (Q := Q) (a0 := (Value.ref (EB E + o) :: as.map (cv E)).toArray) (rest := rest.map (cv E)) (mc := μ'.2.2.2.2.1) (ms := μ'.2.2.2.2.2) (g := g) (I := I) (L := L) ?run hS hW fun r g' I' L' H1 locs1 hq hW1 hS1 => ?_
  · exact va_runI (b := EB E + o) ⟨hC.1, hC.2.1, hC.2.2.1, hC.2.2.2.1, hC.2.2.2.2.1⟩ hM ⟨by have := (callB_of (rm := rmd d' μ'.2.2.2.2.1 μ'.2.2.2.2.2) (mc := μ'.2.2.2.2.1) (ms := μ'.2.2.2.2.2) (Ts := WS) (ws' := WS) n hC.2.2.2.2.1 (wsM_good wc) rfl rfl rfl (hC.2.2.2.2.1 _ wi) (hC.2.2.2.2.1 _ wl) hdd (room_of hR hlt hnl)); rw [hrt] at this; exact this, hini, hC.2.2.2.2.1 _ ws⟩ ⟨PcE_blind, pre_or ho hX hW hS⟩ rfl (by rw [List.length_map]; exact hn) hL.1.1 (mapsr ho) (by show 2 * 0 + _ ≤ 8; rw [ctx_of]; omega) hd ⟨Nat.le_trans hc1 hR.2.2.1, Nat.le_trans hc2 hR.2.2.2⟩
  · have hk := kk r g' I' L' hq R p e s m args below meth c H1 locs1 ls hR hC hX hW1 hS1 hL
    have e2 : (r.toList ++ rest).map (cv E) = (r.map (cv E)).toList ++ rest.map (cv E) := by
      rw [List.map_append]
      cases r <;> rfl
    rw [e2] at hk
    exact hk
set_option maxHeartbeats 1000000 in
theorem E_callIN {E : En} {d d' : Nat} {μ μ' : Mu} {pc : Nat} {al st as rest : List AV} {g : Geo} {cs : Nat × Nat} {I L : MI} {Z : Zt} {Q : Option AV → Geo → MI → MI → Prop} {index n : Nat} {o : Nat} {host cl : String} (ho : o < 1000) (hM : CM E d' μ' (vr o :: as) g I L Q) (hd : decode μ.2.1 pc = .ok (.invokespecial index, 3)) (hrt : μ'.2.2.2.1 = none) (hini : μ'.1.name = "<init>") (hy : μ.1.cls = cl) (wl : (cl, index, μ'.1, host) ∈ nstM) (ws : Cond.instanceMethod μ'.1 ∈ WS) (hlt : d' + 1 ≤ d) (wc : Cond.code μ'.1 μ'.2.1 μ'.2.2.1 μ'.2.2.2.1 ∈ WS) (wi : Cond.initialized μ'.1.cls ∈ WS) (hdd : μ'.1.cls ≠ "java/lang/invoke/MethodHandle" ∧ μ'.1.cls ≠ "java/lang/invoke/VarHandle" ∧ (parseMethodDescriptor μ'.1.desc).map (fun d => d.parameters.length) = some n) (hn : as.length = n) (hnl : μ'.2.2.1 ≤ 21) (hct : ctx rest ≤ 8) (hc1 : cs.1 + μ'.2.2.2.2.1 ≤ μ.2.2.2.2.1) (hc2 : cs.2 + μ'.2.2.2.2.2 ≤ μ.2.2.2.2.2) (hst : as.reverse ++ vr o :: rest = st) (kk : ∀ (r : Option AV) (g' : Geo) (I' L' : MI), Q r g' I' L' → Ev E d μ (pc + 3) al (r.toList ++ rest) (g', cs.1 + μ'.2.2.2.2.1, cs.2 + μ'.2.2.2.2.2) I' L' Z) : Ev E d μ pc al st (g, cs) I L Z := by
  subst hst
  subst hy
  intro R p e s m args below meth c H locs ls hR hC hX hW hS hL
  refine ow_call (Q := Q) (a0 := (Value.ref (EB E + o) :: as.map (cv E)).toArray) (rest := rest.map (cv E)) (mc := μ'.2.2.2.2.1) (ms := μ'.2.2.2.2.2) (g := g) (I := I) (L := L) ?run hS hW fun r g' I' L' H1 locs1 hq hW1 hS1 => ?_
  · exact va_runIN (b := EB E + o) ⟨hC.1, hC.2.1, hC.2.2.1, hC.2.2.2.1, hC.2.2.2.2.1⟩ hM ⟨by have := (va_cnB (rm := rmd d' μ'.2.2.2.2.1 μ'.2.2.2.2.2) (mc := μ'.2.2.2.2.1) (ms := μ'.2.2.2.2.2) (Ts := WS) (ws' := WS) n hC.2.2.2.2.1 (wsM_good wc) rfl rfl rfl (hX.2.2.2.2.2.2.2.1 _ wl) (hC.2.2.2.2.1 _ wi) hdd (room_of hR hlt hnl)); rw [hrt] at this; exact this, hini, hC.2.2.2.2.1 _ ws⟩ ⟨PcE_blind, pre_or ho hX hW hS⟩ rfl (by rw [List.length_map]; exact hn) hL.1.1 (mapsr ho) (by show 2 * 0 + _ ≤ 8; rw [ctx_of]; omega) hd ⟨Nat.le_trans hc1 hR.2.2.1, Nat.le_trans hc2 hR.2.2.2⟩
  · have hk := kk r g' I' L' hq R p e s m args below meth c H1 locs1 ls hR hC hX hW1 hS1 hL
    have e2 : (r.toList ++ rest).map (cv E) = (r.map (cv E)).toList ++ rest.map (cv E) := by
      rw [List.map_append]
      cases r <;> rfl
    rw [e2] at hk
    exact hk
