def zI (I : MI) (o : Nat) : MI := fun o' k => if o' = o then 0 else I o' k
def zR (f : Nat → Int → Option Nat) (o : Nat) : Nat → Int → Option Nat := fun o' k => if o' = o then none else f o' k
theorem MOK.z {I L : MI} {o : Nat} (h : MOK I L) : MOK (zI I o) (zI L o) := ⟨fun o' k => by unfold zI; split; exact ⟨by decide, by decide⟩; exact h.1 o' k, fun o' k => by unfold zI; split; exact ⟨by decide, by decide⟩; exact h.2 o' k⟩
theorem ent_z {E : En} {sh : List Shp} {rf : Nat → Int → Option Nat} {I L : MI} {o o' : Nat} {s x : Shp} (h : o' ≠ o) : ent E (sh, rf) I L o' s = ent E (sh ++ [x], zR rf o) (zI I o) (zI L o) o' s := by
  have e1 : ∀ j, zI I o o' j = I o' j := fun j => by unfold zI; rw [if_neg h]
  have e2 : ∀ j, zI L o o' j = L o' j := fun j => by unfold zI; rw [if_neg h]
  have e3 : ∀ j, zR rf o o' j = rf o' j := fun j => by unfold zR; rw [if_neg h]
  cases s with
  | inl ci =>
    show (Sum.inr (ci, _) : va_E) = Sum.inr (ci, _)
    unfold flds fvl
    simp only [e1, e2, e3]
  | inr q =>
    show (Sum.inl (_, _, _) : va_E) = Sum.inl (_, _, _)
    unfold arf
    simp only [e1, e2, e3]
/-- an object more -/
theorem Wd.push {E : En} {sh : List Shp} {rf : Nat → Int → Option Nat} {I L : MI} {U : State} {H H1 : Heap} {x : Shp} (hW : Wd E (sh, rf) I L U H) (hlt : sh.length < 1000) (hat : va_at (ED E) vwK (EB E + sh.length, ent E (sh ++ [x], zR rf sh.length) (zI I sh.length) (zI L sh.length) sh.length x) H1) (hz : H1.size = H.size + 1) (oq : ∀ q : Nat, q < H.size → H1[q]? = H[q]?) : Wd E (sh ++ [x], zR rf sh.length) (zI I sh.length) (zI L sh.length) U H1 := by
  have hsz := hW.2.1
  refine ⟨fun k q hk => ?_, by rw [hz, hsz]; simp; omega, by simp; omega, hW.2.2.2.1, hW.2.2.2.2.z⟩
  obtain ⟨s', hs', rfl⟩ := wld_of hk
  by_cases h : k = sh.length
  · subst h
    have : s' = x := by
      have h2 : (sh ++ [x])[sh.length]? = some s' := hs'
      simpa using h2.symm
    subst this
    exact hat
  · have hs2 : sh[k]? = some s' := by
      have h2 : (sh ++ [x])[k]? = some s' := hs'
      have hlt2 := (List.getElem?_eq_some_iff.mp h2).1
      rw [List.getElem?_append_left (by simp at hlt2; omega)] at h2
      exact h2
    rw [← ent_z h]
    have hkl := (List.getElem?_eq_some_iff.mp hs2).1
    exact (hW.1 k _ (wld_get (g := (sh, rf)) hs2)).kept (oq _ (by show EB E + k < H.size; rw [hsz]; show EB E + k < EB E + sh.length; omega))
theorem va_S.push {E : En} {H0 H H1 : Heap} {locs : List Loc} (h : va_S (EF E) H0 H locs) (z : H1.size = H.size + 1) (oq : ∀ q : Nat, q < H.size → H1[q]? = H[q]?) : va_S (EF E) H0 H1 locs :=
  ⟨Nat.le_trans h.1 (by omega), fun q h1 h2 => (oq q (Nat.lt_of_lt_of_le h1 h.1)).trans (h.2.1 q h1 h2), h.2.2⟩
set_option maxHeartbeats 1000000 in
theorem E_new {E : En} {d : Nat} {μ : Mu} {pc : Nat} {al st : List AV} {sh : List Shp} {rf : Nat → Int → Option Nat} {cells slots : Nat} {I L : MI} {Z : Zt} {ci index : Nat} (hd : decode μ.2.1 pc = .ok (.new index, 3)) (hci : ci < 12) (w1 : Cond.classLink μ.1.cls index (fRX ci) ∈ WS) (w2 : Cond.instantiable (fRX ci) (ncl ci) ∈ WS) (w3 : Cond.initialized (fRX ci) ∈ WS) (hlen : sh.length < 1000) (hc1 : cells + 1 ≤ μ.2.2.2.2.1) (hc2 : slots + ncl ci ≤ μ.2.2.2.2.2)
    (k : Ev E d μ (pc + 3) al (vr sh.length :: st) ((sh ++ [.inl ci], zR rf sh.length), cells + 1, slots + ncl ci) (zI I sh.length) (zI L sh.length) Z) : Ev E d μ pc al st ((sh, rf), cells, slots) I L Z := by
  intro R p e s m args below meth c H locs ls hR hC hX hW hS hL
  have hKn := hW.2.2.2.1.1 ci _ (vwK_at hci)
  refine W.newcK hC.1 hC.2.1 hC.2.2.2.1 (hC.2.2.2.2.1 _ w1) (hC.2.2.2.2.1 _ w2) (hC.2.2.2.2.1 _ w3) rfl hd (Nat.le_trans hc1 hR.2.2.1) (Nat.le_trans hc2 hR.2.2.2) hKn.2.1 rfl fun H1 kC hkC e1 z1 o1 => ?_
  have hsz : H.size = EB E + sh.length := hW.2.1
  have hat : va_at (ED E) vwK (EB E + sh.length, ent E (sh ++ [.inl ci], zR rf sh.length) (zI I sh.length) (zI L sh.length) sh.length (.inl ci)) H1 := by
    refine ⟨_, vwK_at hci, ?_⟩
    have hb := u_born (fty ci) hC.2.2.2.2.1 (inW hci) hKn hkC e1 (tyK hci)
    rw [hsz] at hb
    refine hb.to fun j hj => ?_
    show defaultValue (fty ci j) = vp_V (flds E _ _ _ _ ci) j
    unfold vp_V
    rw [List.getD_eq_getElem?_getD, flds_get hj]
    show _ = fvl E _ _ _ _ j (fty ci j)
    unfold fvl
    simp only [zI, zR, if_true]
    cases fty ci j <;> rfl
  have hk := k R p e s m args below meth c H1 locs ls hR hC hX (hW.push hlen hat z1 o1) (hS.push z1 o1) hL
  have e2 : (vr sh.length :: st).map (cv E) = Value.ref H.size :: st.map (cv E) := by
    show Value.ref (adr E sh.length) :: _ = _
    rw [adr_in hlen, hsz]
  rw [e2] at hk
  exact hk
theorem arf_new {E : En} {g : Geo} {I L : MI} {o kd n : Nat} {cA : ClassId} (hkd : kd < 6) (hI : ∀ i, I o i = 0) (hL : ∀ i, L o i = 0) (hR : ∀ i, g.2 o i = none) : vp_cell cA (n, arf E g I L o kd) = arrV cA n (fun _ => defaultValue (aty kd)) := by
  match kd, hkd with
  | 0, _ => simp [arf, vp_cell, aty, hI, defaultValue]
  | 1, _ => simp [arf, vp_cell, aty, hI, defaultValue]
  | 2, _ => simp [arf, vp_cell, aty, hI, defaultValue]
  | 3, _ => simp [arf, vp_cell, aty, hL, defaultValue]
  | 4, _ => simp [arf, vp_cell, aty, hR, defaultValue, va_rf]
  | 5, _ => simp [arf, vp_cell, aty, hR, defaultValue, va_rf]
  | n + 6, h => omega
set_option maxHeartbeats 1000000 in
theorem E_newaI {E : En} {d : Nat} {μ : Mu} {pc : Nat} {al st : List AV} {sh : List Shp} {rf : Nat → Int → Option Nat} {cells slots : Nat} {I L : MI} {Z : Zt} {n : Int} {N : Nat} (hd : decode μ.2.1 pc = .ok (.newarray .int, 2)) (w1 : Cond.arrayClass .int ∈ WS) (hn : n = (N : Int)) (hN : N ≤ 4000) (hlen : sh.length < 1000) (hc1 : cells + 1 ≤ μ.2.2.2.2.1) (hc2 : slots + N ≤ μ.2.2.2.2.2)
    (k : Ev E d μ (pc + 2) al (vr sh.length :: st) ((sh ++ [.inr (0, N)], zR rf sh.length), cells + 1, slots + N) (zI I sh.length) (zI L sh.length) Z) : Ev E d μ pc al (vi n :: st) ((sh, rf), cells, slots) I L Z := by
  subst hn
  intro R p e s m args below meth c H locs ls hR hC hX hW hS hL
  have hsz : H.size = EB E + sh.length := hW.2.1
  have hn1 : Ir (N : Int) := ⟨by omega, by omega⟩
  refine va_newaK (atype := .int) (N := N) hC.1 hC.2.1 (hC.2.2.2.2.1 _ w1) rfl hd rfl (fun q => ?_) (by rw [oi_nat hn1]; omega) (by show N * _ ≤ _; simp [newarray.typeOf, componentBytes]; omega) (Nat.le_trans hc1 hR.2.2.1) (Nat.le_trans hc2 hR.2.2.2) rfl fun H1 cA e1 z1 o1 hAr hNm => ?_
  · have h2 : Int32.ofInt (N : Int) < Int32.ofInt 0 := q
    rw [oi_lt hn1 ⟨by decide, by decide⟩] at h2
    omega
  have hA := (hW.2.2.2.1.2 0 _ (tysE_at (by decide))).2
  have hcA : cA = EA E 0 := by
    have h3 : s.vm.findClass ("[" ++ (.int : FieldType).toString) = some (EA E 0) := hA
    have h4 : s.vm.findClass ("[" ++ (.int : FieldType).toString) = some cA := hNm
    exact Option.some.inj (h4.symm.trans h3)
  subst hcA
  have hat : va_at (ED E) vwK (EB E + sh.length, ent E (sh ++ [.inr (0, N)], zR rf sh.length) (zI I sh.length) (zI L sh.length) sh.length (.inr (0, N))) H1 := by
    show H1[EB E + sh.length]? = some (vp_cell (EA E 0) (N, arf E _ _ _ _ 0))
    rw [← hsz, e1, arf_new (by decide) (fun i => by simp [zI]) (fun i => by simp [zI]) (fun i => by simp [zR])]
    rfl
  have hk := k R p e s m args below meth c H1 locs ls hR hC hX (hW.push hlen hat z1 o1) (hS.push z1 o1) hL
  have e2 : (vr sh.length :: st).map (cv E) = Value.ref H.size :: st.map (cv E) := by
    show Value.ref (adr E sh.length) :: _ = _
    rw [adr_in hlen, hsz]
  rw [e2] at hk
  exact hk
set_option maxHeartbeats 1000000 in
theorem E_newaB {E : En} {d : Nat} {μ : Mu} {pc : Nat} {al st : List AV} {sh : List Shp} {rf : Nat → Int → Option Nat} {cells slots : Nat} {I L : MI} {Z : Zt} {n : Int} {N : Nat} (hd : decode μ.2.1 pc = .ok (.newarray .byte, 2)) (w1 : Cond.arrayClass .byte ∈ WS) (hn : n = (N : Int)) (hN : N ≤ 4000) (hlen : sh.length < 1000) (hc1 : cells + 1 ≤ μ.2.2.2.2.1) (hc2 : slots + N ≤ μ.2.2.2.2.2)
    (k : Ev E d μ (pc + 2) al (vr sh.length :: st) ((sh ++ [.inr (1, N)], zR rf sh.length), cells + 1, slots + N) (zI I sh.length) (zI L sh.length) Z) : Ev E d μ pc al (vi n :: st) ((sh, rf), cells, slots) I L Z := by
  subst hn
  intro R p e s m args below meth c H locs ls hR hC hX hW hS hL
  have hsz : H.size = EB E + sh.length := hW.2.1
  have hn1 : Ir (N : Int) := ⟨by omega, by omega⟩
  refine va_newaK (atype := .byte) (N := N) hC.1 hC.2.1 (hC.2.2.2.2.1 _ w1) rfl hd rfl (fun q => ?_) (by rw [oi_nat hn1]; omega) (by show N * _ ≤ _; simp [newarray.typeOf, componentBytes]; omega) (Nat.le_trans hc1 hR.2.2.1) (Nat.le_trans hc2 hR.2.2.2) rfl fun H1 cA e1 z1 o1 hAr hNm => ?_
  · have h2 : Int32.ofInt (N : Int) < Int32.ofInt 0 := q
    rw [oi_lt hn1 ⟨by decide, by decide⟩] at h2
    omega
  have hA := (hW.2.2.2.1.2 1 _ (tysE_at (by decide))).2
  have hcA : cA = EA E 1 := by
    have h3 : s.vm.findClass ("[" ++ (.byte : FieldType).toString) = some (EA E 1) := hA
    have h4 : s.vm.findClass ("[" ++ (.byte : FieldType).toString) = some cA := hNm
    exact Option.some.inj (h4.symm.trans h3)
  subst hcA
  have hat : va_at (ED E) vwK (EB E + sh.length, ent E (sh ++ [.inr (1, N)], zR rf sh.length) (zI I sh.length) (zI L sh.length) sh.length (.inr (1, N))) H1 := by
    show H1[EB E + sh.length]? = some (vp_cell (EA E 1) (N, arf E _ _ _ _ 1))
    rw [← hsz, e1, arf_new (by decide) (fun i => by simp [zI]) (fun i => by simp [zI]) (fun i => by simp [zR])]
    rfl
  have hk := k R p e s m args below meth c H1 locs ls hR hC hX (hW.push hlen hat z1 o1) (hS.push z1 o1) hL
  have e2 : (vr sh.length :: st).map (cv E) = Value.ref H.size :: st.map (cv E) := by
    show Value.ref (adr E sh.length) :: _ = _
    rw [adr_in hlen, hsz]
  rw [e2] at hk
  exact hk
set_option maxHeartbeats 1000000 in
theorem E_newaZ {E : En} {d : Nat} {μ : Mu} {pc : Nat} {al st : List AV} {sh : List Shp} {rf : Nat → Int → Option Nat} {cells slots : Nat} {I L : MI} {Z : Zt} {n : Int} {N : Nat} (hd : decode μ.2.1 pc = .ok (.newarray .boolean, 2)) (w1 : Cond.arrayClass .boolean ∈ WS) (hn : n = (N : Int)) (hN : N ≤ 4000) (hlen : sh.length < 1000) (hc1 : cells + 1 ≤ μ.2.2.2.2.1) (hc2 : slots + N ≤ μ.2.2.2.2.2)
    (k : Ev E d μ (pc + 2) al (vr sh.length :: st) ((sh ++ [.inr (2, N)], zR rf sh.length), cells + 1, slots + N) (zI I sh.length) (zI L sh.length) Z) : Ev E d μ pc al (vi n :: st) ((sh, rf), cells, slots) I L Z := by
  subst hn
  intro R p e s m args below meth c H locs ls hR hC hX hW hS hL
  have hsz : H.size = EB E + sh.length := hW.2.1
  have hn1 : Ir (N : Int) := ⟨by omega, by omega⟩
  refine va_newaK (atype := .boolean) (N := N) hC.1 hC.2.1 (hC.2.2.2.2.1 _ w1) rfl hd rfl (fun q => ?_) (by rw [oi_nat hn1]; omega) (by show N * _ ≤ _; simp [newarray.typeOf, componentBytes]; omega) (Nat.le_trans hc1 hR.2.2.1) (Nat.le_trans hc2 hR.2.2.2) rfl fun H1 cA e1 z1 o1 hAr hNm => ?_
  · have h2 : Int32.ofInt (N : Int) < Int32.ofInt 0 := q
    rw [oi_lt hn1 ⟨by decide, by decide⟩] at h2
    omega
  have hA := (hW.2.2.2.1.2 2 _ (tysE_at (by decide))).2
  have hcA : cA = EA E 2 := by
    have h3 : s.vm.findClass ("[" ++ (.boolean : FieldType).toString) = some (EA E 2) := hA
    have h4 : s.vm.findClass ("[" ++ (.boolean : FieldType).toString) = some cA := hNm
    exact Option.some.inj (h4.symm.trans h3)
  subst hcA
  have hat : va_at (ED E) vwK (EB E + sh.length, ent E (sh ++ [.inr (2, N)], zR rf sh.length) (zI I sh.length) (zI L sh.length) sh.length (.inr (2, N))) H1 := by
    show H1[EB E + sh.length]? = some (vp_cell (EA E 2) (N, arf E _ _ _ _ 2))
    rw [← hsz, e1, arf_new (by decide) (fun i => by simp [zI]) (fun i => by simp [zI]) (fun i => by simp [zR])]
    rfl
  have hk := k R p e s m args below meth c H1 locs ls hR hC hX (hW.push hlen hat z1 o1) (hS.push z1 o1) hL
  have e2 : (vr sh.length :: st).map (cv E) = Value.ref H.size :: st.map (cv E) := by
    show Value.ref (adr E sh.length) :: _ = _
    rw [adr_in hlen, hsz]
  rw [e2] at hk
  exact hk
set_option maxHeartbeats 1000000 in
theorem E_newaL {E : En} {d : Nat} {μ : Mu} {pc : Nat} {al st : List AV} {sh : List Shp} {rf : Nat → Int → Option Nat} {cells slots : Nat} {I L : MI} {Z : Zt} {n : Int} {N : Nat} (hd : decode μ.2.1 pc = .ok (.newarray .long, 2)) (w1 : Cond.arrayClass .long ∈ WS) (hn : n = (N : Int)) (hN : N ≤ 4000) (hlen : sh.length < 1000) (hc1 : cells + 1 ≤ μ.2.2.2.2.1) (hc2 : slots + N ≤ μ.2.2.2.2.2)
    (k : Ev E d μ (pc + 2) al (vr sh.length :: st) ((sh ++ [.inr (3, N)], zR rf sh.length), cells + 1, slots + N) (zI I sh.length) (zI L sh.length) Z) : Ev E d μ pc al (vi n :: st) ((sh, rf), cells, slots) I L Z := by
  subst hn
  intro R p e s m args below meth c H locs ls hR hC hX hW hS hL
  have hsz : H.size = EB E + sh.length := hW.2.1
  have hn1 : Ir (N : Int) := ⟨by omega, by omega⟩
  refine va_newaK (atype := .long) (N := N) hC.1 hC.2.1 (hC.2.2.2.2.1 _ w1) rfl hd rfl (fun q => ?_) (by rw [oi_nat hn1]; omega) (by show N * _ ≤ _; simp [newarray.typeOf, componentBytes]; omega) (Nat.le_trans hc1 hR.2.2.1) (Nat.le_trans hc2 hR.2.2.2) rfl fun H1 cA e1 z1 o1 hAr hNm => ?_
  · have h2 : Int32.ofInt (N : Int) < Int32.ofInt 0 := q
    rw [oi_lt hn1 ⟨by decide, by decide⟩] at h2
    omega
  have hA := (hW.2.2.2.1.2 3 _ (tysE_at (by decide))).2
  have hcA : cA = EA E 3 := by
    have h3 : s.vm.findClass ("[" ++ (.long : FieldType).toString) = some (EA E 3) := hA
    have h4 : s.vm.findClass ("[" ++ (.long : FieldType).toString) = some cA := hNm
    exact Option.some.inj (h4.symm.trans h3)
  subst hcA
  have hat : va_at (ED E) vwK (EB E + sh.length, ent E (sh ++ [.inr (3, N)], zR rf sh.length) (zI I sh.length) (zI L sh.length) sh.length (.inr (3, N))) H1 := by
    show H1[EB E + sh.length]? = some (vp_cell (EA E 3) (N, arf E _ _ _ _ 3))
    rw [← hsz, e1, arf_new (by decide) (fun i => by simp [zI]) (fun i => by simp [zI]) (fun i => by simp [zR])]
    rfl
  have hk := k R p e s m args below meth c H1 locs ls hR hC hX (hW.push hlen hat z1 o1) (hS.push z1 o1) hL
  have e2 : (vr sh.length :: st).map (cv E) = Value.ref H.size :: st.map (cv E) := by
    show Value.ref (adr E sh.length) :: _ = _
    rw [adr_in hlen, hsz]
  rw [e2] at hk
  exact hk
set_option maxHeartbeats 1000000 in
theorem E_anew {E : En} {d : Nat} {μ : Mu} {pc : Nat} {al st : List AV} {sh : List Shp} {rf : Nat → Int → Option Nat} {cells slots : Nat} {I L : MI} {Z : Zt} {index kd : Nat} {C : String} {n : Int} {N : Nat} (hd : decode μ.2.1 pc = .ok (.anewarray index, 3)) (hkd : kd = 4 ∨ kd = 5) (hC0 : aty kd = .object C) (w1 : Cond.classLink μ.1.cls index C ∈ WS) (hn : n = (N : Int)) (hN : N ≤ 4000) (hlen : sh.length < 1000) (hc1 : cells + 1 ≤ μ.2.2.2.2.1) (hc2 : slots + N ≤ μ.2.2.2.2.2)
    (k : Ev E d μ (pc + 3) al (vr sh.length :: st) ((sh ++ [.inr (kd, N)], zR rf sh.length), cells + 1, slots + N) (zI I sh.length) (zI L sh.length) Z) : Ev E d μ pc al (vi n :: st) ((sh, rf), cells, slots) I L Z := by
  subst hn
  intro R p e s m args below meth c H locs ls hR hC hX hW hS hL
  have hsz : H.size = EB E + sh.length := hW.2.1
  have hn1 : Ir (N : Int) := ⟨by omega, by omega⟩
  have hov : va_AO C s := by
    have h9 := hX.2.2.2.2.2.2.2.2.2.2
    rcases hkd with rfl | rfl
    · cases hC0; exact h9.1
    · cases hC0; exact h9.2
  have hk6 : kd < 6 := by omega
  have hcn : (Int32.ofInt (N : Int)).toNatClampNeg = N := by rw [oi_nat hn1]; omega
  refine W.anew hC.1 hC.2.1 hC.2.2.2.1 (hC.2.2.2.2.1 _ w1) (va_AO.use hov) rfl hd rfl (fun q => ?_) (by rw [hcn]; omega) (Nat.le_trans hc1 hR.2.2.1) (by rw [hcn]; exact Nat.le_trans hc2 hR.2.2.2) fun cA kA comp f1 f2 f3 f4 => ?_
  · have h2 : Int32.ofInt (N : Int) < Int32.ofInt 0 := q
    rw [oi_lt hn1 ⟨by decide, by decide⟩] at h2
    omega
  have hA := (hW.2.2.2.1.2 kd _ (tysE_at hk6)).2
  have hA2 : va_RA s (EA E kd) (.object C) := hC0 ▸ hA
  have hcA : cA = EA E kd := by
    obtain ⟨kB, cB, b1, b2, b3, b4⟩ := hA2
    exact Option.some.inj (f1.symm.trans b4)
  subst hcA
  rw [hcn]
  have hat : va_at (ED E) vwK (EB E + sh.length, ent E (sh ++ [.inr (kd, N)], zR rf sh.length) (zI I sh.length) (zI L sh.length) sh.length (.inr (kd, N))) (H.push { cls := EA E kd, slots := Array.replicate N .null, vm := .none }) := by
    show (H.push _)[EB E + sh.length]? = some (vp_cell (EA E kd) (N, arf E _ _ _ _ kd))
    rw [← hsz, arf_new hk6 (fun i => by simp [zI]) (fun i => by simp [zI]) (fun i => by simp [zR]), hC0, ← arrV_new]
    simp [defaultValue]
  have hz1 : (H.push ({ cls := EA E kd, slots := Array.replicate N .null, vm := .none } : Cell)).size = H.size + 1 := by simp
  have ho1 : ∀ q : Nat, q < H.size → (H.push ({ cls := EA E kd, slots := Array.replicate N .null, vm := .none } : Cell))[q]? = H[q]? := fun q hq => by rw [Array.getElem?_push, if_neg (Nat.ne_of_lt hq)]
  have hk := k R p e s m args below meth c _ locs ls hR hC hX (hW.push hlen hat hz1 ho1) (hS.push hz1 ho1) hL
  have e2 : (vr sh.length :: st).map (cv E) = Value.ref H.size :: st.map (cv E) := by
    show Value.ref (adr E sh.length) :: _ = _
    rw [adr_in hlen, hsz]
  rw [e2] at hk
  exact hk
set_option maxHeartbeats 1000000 in
theorem E_aast {E : En} {d : Nat} {μ : Mu} {pc : Nat} {al st : List AV} {g : Geo} {cs : Nat × Nat} {I L : MI} {Z : Zt} {o kd n v ci : Nat} {i : Int} (hd : decode μ.2.1 pc = .ok (.aastore, 1)) (ha : g.1[o]? = some (.inr (kd + 4, n))) (hkd : kd < 2) (hv : g.1[v]? = some (.inl ci)) (hci : ci < 12) (hty : aty (kd + 4) = .object (fRX ci)) (h0 : 0 ≤ i) (h1 : i < n) (hi : Ir i)
    (k : Ev E d μ (pc + 1) al st ((g.1, upR g.2 o i (some v)), cs) I L Z) : Ev E d μ pc al (vr v :: vi i :: vr o :: st) (g, cs) I L Z := by
  intro R p e s m args below meth c H locs ls hR hC hX hW hS hL
  have ho := hW.lt ha
  have hov := hW.lt hv
  have e1 : F0 m pc ls ((vr v :: vi i :: vr o :: st).map (cv E)) = F0 m pc ls (.ref (EB E + v) :: .int (Int32.ofInt i) :: .ref (EB E + o) :: st.map (cv E)) := by
    show F0 m pc ls (.ref (adr E v) :: .int (Int32.ofInt i) :: .ref (adr E o) :: st.map (cv E)) = _
    rw [adr_in ho, adr_in hov]
  rw [e1]
  have c1 : H[EB E + o]? = some (vp_cell (EA E (kd + 4)) (n, arf E g I L o (kd + 4))) := hW.1 o _ (wld_get ha)
  rw [arf_cell ho] at c1
  obtain ⟨r, hr, cellV, g1, g2, g3, -⟩ := hW.1 v _ (wld_get hv)
  cases (vwK_at hci).symm.trans hr
  have hcls := (hW.2.2.2.1.1 ci _ (vwK_at hci)).2
  have hRA : va_RA s (EA E (kd + 4)) (.object (fRX ci)) := hty ▸ (hW.2.2.2.1.2 (kd + 4) _ (tysE_at (show kd + 4 < 6 by omega))).2
  obtain ⟨kA, comp, k1, k2, k3, -⟩ := hRA
  have hcomp : comp = (ED E).1 ci := Option.some.inj (k3.symm.trans hcls.1)
  subst hcomp
  obtain ⟨kC, hkC, -⟩ := hcls.2
  have hix := ix_of h0 h1
  have hnn : ¬ Int32.ofInt i < 0 := fun q => (oi_in h0 h1 hi) (Or.inl q)
  refine W.aast hC.1 hC.2.1 c1 (fun q h => by cases h) (fun h => by cases h) k1 k2 rfl hkC ⟨hnn, by rw [arrV_size, oi_nat hi]; exact hix.2⟩ g1 (fun q h => by rw [g3] at h; cases h) (by rw [g2]; exact hkC) (by rw [g2]; exact va_assign hcls) rfl rfl hd fun H1 e3 hz oq => ?_
  rw [arrV_store, oi_nat hi] at e3
  refine k R p e s m args below meth c H1 _ ls hR hC hX (Wd.wr (g := g) (g' := (g.1, upR g.2 o i (some v))) hW rfl ha ?_ hz oq (fun o' s' h => ent_R h) hW.2.2.2.2) (hS.wr hz oq) hL
  show H1[EB E + o]? = some (vp_cell (EA E (kd + 4)) (n, arf E _ I L o (kd + 4)))
  rw [e3, arf_cell ho]
  congr 2
  funext j
  unfold updV
  by_cases hj : j = i.toNat
  · have hj2 : (j : Int) = i := by omega
    rw [if_pos hj]
    simp [avl, upR, va_rf, hj2, adr_in hov]
  · have hj2 : ¬ (j : Int) = i := by omega
    rw [if_neg hj]
    simp [avl, upR, hj2]
theorem E_objInit {E : En} {d : Nat} {μ : Mu} {pc : Nat} {al st : List AV} {κ : Kp} {I L : MI} {Z : Zt} {o index : Nat} (hd : decode μ.2.1 pc = .ok (.invokespecial index, 3)) (w1 : Cond.methodLink μ.1.cls index Lib.objectInit ∈ WS) (w2 : Cond.instanceMethod Lib.objectInit ∈ WS) (w3 : Cond.code Lib.objectInit ⟨#[0xb1]⟩ 1 none ∈ WS) (hlt : 1 ≤ d) (hct : ctx st ≤ 8) (k : Ev E d μ (pc + 3) al st κ I L Z) : Ev E d μ pc al (vr o :: st) κ I L Z := by
  intro R p e s m args below meth c H locs ls hR hC hX hW hS hL
  have h1 := hR.1
  have h2 := hR.2.1
  exact W.objInit hC.1 hC.2.1 hC.2.2.2.1 (hC.2.2.2.2.1 _ w1) (hC.2.2.2.2.1 _ w2) (hC.2.2.2.2.1 _ w3) rfl (hL.1.1.trans hC.2.2.1.symm) rfl hd (by omega) (by show 2 * 0 + _ + 12 ≤ _; rw [ctx_of]; omega) (k R p e s m args below meth c H locs ls hR hC hX hW hS hL)
theorem E_mmax {E : En} {d : Nat} {μ : Mu} {pc : Nat} {al st : List AV} {κ : Kp} {I L : MI} {Z : Zt} {x y : Int} {index : Nat} (hd : decode μ.2.1 pc = .ok (.invokestatic index, 3)) (w1 : Cond.methodLink μ.1.cls index Lib.Math.max.name ∈ WS) (w2 : Cond.static Lib.Math.max.name ∈ WS) (w3 : Cond.initialized "java/lang/Math" ∈ WS) (w4 : Cond.code Lib.Math.max.name Lib.Math.max.code 2 (some .int) ∈ WS) (hlt : 1 ≤ d) (hct : ctx st ≤ 8) (hc1 : κ.2.1 ≤ μ.2.2.2.2.1) (hc2 : κ.2.2 ≤ μ.2.2.2.2.2) (hx : Ir x) (hy : Ir y) (k : Ev E d μ (pc + 3) al (vi (if x < y then y else x) :: st) κ I L Z) : Ev E d μ pc al (vi y :: vi x :: st) κ I L Z := by
  intro R p e s m args below meth c H locs ls hR hC hX hW hS hL
  have h1 := hR.1
  have h2 := hR.2.1
  refine va_mmax hC.1 hC.2.1 (hC.2.2.1.trans hL.1.1.symm) hC.2.2.2.1 (hC.2.2.2.2.1 _ w1) (hC.2.2.2.2.1 _ w2) (hC.2.2.2.2.1 _ w3) (hC.2.2.2.2.1 _ w4) (by omega) (by rw [ctx_of]; omega) (Nat.le_trans hc1 hR.2.2.1) (Nat.le_trans hc2 hR.2.2.2) hd ?_
  have e2 : Value.int (if Int32.ofInt x < Int32.ofInt y then Int32.ofInt y else Int32.ofInt x) = cv E (vi (if x < y then y else x)) := by
    show _ = Value.int (Int32.ofInt (if x < y then y else x))
    split
    next h => rw [if_pos ((oi_lt hx hy).mp h)]
    next h => rw [if_neg (fun q => h ((oi_lt hx hy).mpr q))]
  rw [e2]
  exact k R p e s m args below meth c H locs ls hR hC hX hW hS hL
theorem E_mmin {E : En} {d : Nat} {μ : Mu} {pc : Nat} {al st : List AV} {κ : Kp} {I L : MI} {Z : Zt} {x y : Int} {index : Nat} (hd : decode μ.2.1 pc = .ok (.invokestatic index, 3)) (w1 : Cond.methodLink μ.1.cls index Lib.Math.min.name ∈ WS) (w2 : Cond.static Lib.Math.min.name ∈ WS) (w3 : Cond.initialized "java/lang/Math" ∈ WS) (w4 : Cond.code Lib.Math.min.name Lib.Math.min.code 2 (some .int) ∈ WS) (hlt : 1 ≤ d) (hct : ctx st ≤ 8) (hc1 : κ.2.1 ≤ μ.2.2.2.2.1) (hc2 : κ.2.2 ≤ μ.2.2.2.2.2) (hx : Ir x) (hy : Ir y) (k : Ev E d μ (pc + 3) al (vi (if y < x then y else x) :: st) κ I L Z) : Ev E d μ pc al (vi y :: vi x :: st) κ I L Z := by
  intro R p e s m args below meth c H locs ls hR hC hX hW hS hL
  have h1 := hR.1
  have h2 := hR.2.1
  refine va_mmin hC.1 hC.2.1 (hC.2.2.1.trans hL.1.1.symm) hC.2.2.2.1 (hC.2.2.2.2.1 _ w1) (hC.2.2.2.2.1 _ w2) (hC.2.2.2.2.1 _ w3) (hC.2.2.2.2.1 _ w4) (by omega) (by rw [ctx_of]; omega) (Nat.le_trans hc1 hR.2.2.1) (Nat.le_trans hc2 hR.2.2.2) hd ?_
  have e2 : Value.int (if Int32.ofInt y < Int32.ofInt x then Int32.ofInt y else Int32.ofInt x) = cv E (vi (if y < x then y else x)) := by
    show _ = Value.int (Int32.ofInt (if y < x then y else x))
    split
    next h => rw [if_pos ((oi_lt hy hx).mp h)]
    next h => rw [if_neg (fun q => h ((oi_lt hy hx).mpr q))]
  rw [e2]
  exact k R p e s m args below meth c H locs ls hR hC hX hW hS hL
