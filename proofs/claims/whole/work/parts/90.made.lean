/-! THE OBJECTS AS THEY ARE MADE: the first n shapes, the first m references written -/
def TT : List (Nat × Int × Nat) := [(0, 0, 1), (2, 1, 3), (0, 1, 2), (4, 3, 5), (4, 4, 6), (4, 5, 7), (4, 6, 8), (4, 7, 9), (4, 8, 10), (4, 9, 11), (4, 10, 12), (0, 2, 4), (13, 0, 2), (13, 1, 4), (0, 3, 13), (15, 3, 16), (15, 4, 17), (15, 5, 18), (15, 6, 19), (15, 7, 20), (15, 8, 21), (15, 9, 22), (15, 10, 23), (14, 0, 15), (14, 1, 24), (0, 4, 14), (0, 5, 25), (26, 0, 27), (0, 6, 26), (28, 0, 29), (30, 0, 31), (28, 1, 30), (0, 7, 28), (0, 8, 32), (33, 0, 34), (33, 1, 35), (33, 2, 36), (33, 5, 37), (0, 9, 33), (38, 0, 39), (0, 10, 38), (40, 3, 41), (1, 0, 40), (42, 3, 43), (1, 1, 42), (44, 3, 45), (1, 2, 44), (46, 3, 47), (1, 3, 46), (48, 3, 49), (1, 4, 48), (50, 3, 51), (1, 5, 50), (52, 3, 53), (1, 6, 52), (54, 3, 55), (1, 7, 54), (57, 3, 58), (57, 4, 59), (57, 5, 60), (57, 6, 61), (57, 7, 62), (57, 8, 63), (57, 9, 64), (57, 10, 65), (56, 0, 57), (56, 1, 66), (25, 0, 56), (68, 3, 69), (68, 4, 70), (68, 5, 71), (68, 6, 72), (68, 7, 73), (68, 8, 74), (68, 9, 75), (68, 10, 76), (67, 0, 68), (67, 1, 77), (25, 1, 67), (78, 2, 79), (78, 3, 80), (78, 4, 81), (78, 5, 82), (78, 6, 83), (78, 8, 84), (78, 9, 85), (78, 19, 86), (78, 21, 87), (78, 22, 88), (78, 24, 89), (78, 25, 90), (78, 26, 91), (78, 27, 92), (78, 28, 93)]
def rfT (l : List (Nat × Int × Nat)) : Nat → Int → Option Nat := fun o k => (l.find? (fun q => q.1 == o && q.2.1 == k)).map (fun q => q.2.2)
def Gm (n m : Nat) : Geo := (SH0.take n, rfT (TT.take m))
def ML (j : Nat) : MI := fun o k => if o = 79 ∧ 0 ≤ k ∧ k < (j : Int) then -1 else 0
def Z0 : MI := fun _ _ => 0
def tlt (n m : Nat) : Bool := (TT.take m).all (fun q => decide (q.1 < n))
def ngt (m o : Nat) (k : Int) : Bool := (TT.take m).all (fun q => !(q.1 == o && q.2.1 == k))
def QG (n m j : Nat) : Option AV → Geo → MI → MI → Prop := fun r g A B => r = none ∧ g = Gm n m ∧ A = ML j ∧ B = Z0
theorem rfT_z {l : List (Nat × Int × Nat)} {n : Nat} (h : l.all (fun q => decide (q.1 < n)) = true) : zR (rfT l) n = rfT l := by
  funext o k
  unfold zR
  split
  next e =>
    subst e
    unfold rfT
    have h2 : l.find? (fun q => q.1 == o && q.2.1 == k) = none := by
      rw [List.find?_eq_none]
      intro q hq hc
      have h3 := List.all_eq_true.mp h q hq
      simp at h3 hc
      omega
    rw [h2]
    rfl
  next e => rfl
theorem rfT_up {l : List (Nat × Int × Nat)} {o : Nat} {k : Int} {v : Nat} (h : l.all (fun q => !(q.1 == o && q.2.1 == k)) = true) : upR (rfT l) o k (some v) = rfT (l ++ [(o, k, v)]) := by
  funext o' k'
  unfold upR rfT
  rw [List.find?_append]
  split
  next e =>
    obtain ⟨rfl, rfl⟩ := e
    have h2 : l.find? (fun q => q.1 == o' && q.2.1 == k') = none := by
      rw [List.find?_eq_none]
      intro q hq hc
      have h3 := List.all_eq_true.mp h q hq
      rw [hc] at h3
      cases h3
    rw [h2]
    simp
  next e =>
    have h2 : [(o, k, v)].find? (fun q => q.1 == o' && q.2.1 == k') = none := by
      rw [List.find?_eq_none]
      intro q hq hc
      simp at hq
      subst hq
      simp at hc
      exact e ⟨hc.1.symm, hc.2.symm⟩
    rw [h2]
    cases l.find? (fun q => q.1 == o' && q.2.1 == k') <;> rfl
theorem Gm_len {n : Nat} (h : n ≤ 94) : (SH0.take n).length = n := by
  rw [List.length_take]
  exact Nat.min_eq_left h
theorem Gm_push {n m : Nat} {x : Shp} (hx : SH0[n]? = some x) (ht : tlt n m = true) (hn : n < 94) : ((SH0.take n ++ [x], zR (rfT (TT.take m)) (SH0.take n).length) : Geo) = Gm (n + 1) m := by
  rw [Gm_len (by omega), rfT_z ht]
  unfold Gm
  rw [List.take_add_one, hx]
  rfl
theorem Gm_put {n m o v : Nat} {k : Int} (hx : TT[m]? = some (o, k, v)) (ht : ngt m o k = true) : ((SH0.take n, upR (rfT (TT.take m)) o k (some v)) : Geo) = Gm n (m + 1) := by
  rw [rfT_up ht]
  unfold Gm
  rw [List.take_add_one, hx]
  rfl
theorem ML_z {n j : Nat} (h : n ≠ 79 ∨ j = 0) : zI (ML j) n = ML j := by
  funext o k
  unfold zI ML
  split
  next e => rw [if_neg (by omega)]
  next e => rfl
theorem Z0_z (n : Nat) : zI Z0 n = Z0 := by
  funext o k
  unfold zI Z0
  split <;> rfl
theorem ML_up (j : Nat) : up2 (ML j) 79 (j : Int) (-1) = ML (j + 1) := by
  funext o k
  unfold up2 ML
  by_cases h : o = 79 ∧ k = (j : Int)
  · rw [if_pos h, if_pos (by omega)]
  · rw [if_neg h]
    by_cases h2 : o = 79 ∧ 0 ≤ k ∧ k < (j : Int)
    · rw [if_pos h2, if_pos (by omega)]
    · rw [if_neg h2, if_neg (by omega)]
theorem N_new {E : En} {d : Nat} {μ : Mu} {pc : Nat} {al st : List AV} {n m j cells slots : Nat} {Z : Zt} {ci index : Nat} (hd : decode μ.2.1 pc = .ok (.new index, 3)) (hci : ci < 12) (w1 : Cond.classLink μ.1.cls index (fRX ci) ∈ WS) (w2 : Cond.instantiable (fRX ci) (ncl ci) ∈ WS) (w3 : Cond.initialized (fRX ci) ∈ WS) (hx : SH0[n]? = some (.inl ci)) (ht : tlt n m = true) (hj : n ≠ 79 ∨ j = 0) (hn : n < 94) (hc1 : cells + 1 ≤ μ.2.2.2.2.1) (hc2 : slots + ncl ci ≤ μ.2.2.2.2.2)
    (k : Ev E d μ (pc + 3) al (vr n :: st) (Gm (n + 1) m, cells + 1, slots + ncl ci) (ML j) Z0 Z) : Ev E d μ pc al st (Gm n m, cells, slots) (ML j) Z0 Z := by
  have hl : (SH0.take n).length = n := Gm_len (by omega)
  refine E_new (sh := SH0.take n) (rf := rfT (TT.take m)) hd hci w1 w2 w3 (by omega) hc1 hc2 ?_
  rw [Gm_push hx ht hn, hl, ML_z hj, Z0_z]
  exact k
theorem N_newaI {E : En} {d : Nat} {μ : Mu} {pc : Nat} {al st : List AV} {n m j cells slots : Nat} {Z : Zt} {l : Int} {N : Nat} (hd : decode μ.2.1 pc = .ok (.newarray .int, 2)) (w1 : Cond.arrayClass .int ∈ WS) (hl : l = (N : Int)) (hN : N ≤ 4000) (hx : SH0[n]? = some (.inr (0, N))) (ht : tlt n m = true) (hj : n ≠ 79 ∨ j = 0) (hn : n < 94) (hc1 : cells + 1 ≤ μ.2.2.2.2.1) (hc2 : slots + N ≤ μ.2.2.2.2.2)
    (k : Ev E d μ (pc + 2) al (vr n :: st) (Gm (n + 1) m, cells + 1, slots + N) (ML j) Z0 Z) : Ev E d μ pc al (vi l :: st) (Gm n m, cells, slots) (ML j) Z0 Z := by
  have hl2 : (SH0.take n).length = n := Gm_len (by omega)
  refine E_newaI (sh := SH0.take n) (rf := rfT (TT.take m)) hd w1 hl hN (by omega) hc1 hc2 ?_
  rw [Gm_push hx ht hn, hl2, ML_z hj, Z0_z]
  exact k
theorem N_newaB {E : En} {d : Nat} {μ : Mu} {pc : Nat} {al st : List AV} {n m j cells slots : Nat} {Z : Zt} {l : Int} {N : Nat} (hd : decode μ.2.1 pc = .ok (.newarray .byte, 2)) (w1 : Cond.arrayClass .byte ∈ WS) (hl : l = (N : Int)) (hN : N ≤ 4000) (hx : SH0[n]? = some (.inr (1, N))) (ht : tlt n m = true) (hj : n ≠ 79 ∨ j = 0) (hn : n < 94) (hc1 : cells + 1 ≤ μ.2.2.2.2.1) (hc2 : slots + N ≤ μ.2.2.2.2.2)
    (k : Ev E d μ (pc + 2) al (vr n :: st) (Gm (n + 1) m, cells + 1, slots + N) (ML j) Z0 Z) : Ev E d μ pc al (vi l :: st) (Gm n m, cells, slots) (ML j) Z0 Z := by
  have hl2 : (SH0.take n).length = n := Gm_len (by omega)
  refine E_newaB (sh := SH0.take n) (rf := rfT (TT.take m)) hd w1 hl hN (by omega) hc1 hc2 ?_
  rw [Gm_push hx ht hn, hl2, ML_z hj, Z0_z]
  exact k
theorem N_newaZ {E : En} {d : Nat} {μ : Mu} {pc : Nat} {al st : List AV} {n m j cells slots : Nat} {Z : Zt} {l : Int} {N : Nat} (hd : decode μ.2.1 pc = .ok (.newarray .boolean, 2)) (w1 : Cond.arrayClass .boolean ∈ WS) (hl : l = (N : Int)) (hN : N ≤ 4000) (hx : SH0[n]? = some (.inr (2, N))) (ht : tlt n m = true) (hj : n ≠ 79 ∨ j = 0) (hn : n < 94) (hc1 : cells + 1 ≤ μ.2.2.2.2.1) (hc2 : slots + N ≤ μ.2.2.2.2.2)
    (k : Ev E d μ (pc + 2) al (vr n :: st) (Gm (n + 1) m, cells + 1, slots + N) (ML j) Z0 Z) : Ev E d μ pc al (vi l :: st) (Gm n m, cells, slots) (ML j) Z0 Z := by
  have hl2 : (SH0.take n).length = n := Gm_len (by omega)
  refine E_newaZ (sh := SH0.take n) (rf := rfT (TT.take m)) hd w1 hl hN (by omega) hc1 hc2 ?_
  rw [Gm_push hx ht hn, hl2, ML_z hj, Z0_z]
  exact k
theorem N_newaL {E : En} {d : Nat} {μ : Mu} {pc : Nat} {al st : List AV} {n m j cells slots : Nat} {Z : Zt} {l : Int} {N : Nat} (hd : decode μ.2.1 pc = .ok (.newarray .long, 2)) (w1 : Cond.arrayClass .long ∈ WS) (hl : l = (N : Int)) (hN : N ≤ 4000) (hx : SH0[n]? = some (.inr (3, N))) (ht : tlt n m = true) (hj : n ≠ 79 ∨ j = 0) (hn : n < 94) (hc1 : cells + 1 ≤ μ.2.2.2.2.1) (hc2 : slots + N ≤ μ.2.2.2.2.2)
    (k : Ev E d μ (pc + 2) al (vr n :: st) (Gm (n + 1) m, cells + 1, slots + N) (ML j) Z0 Z) : Ev E d μ pc al (vi l :: st) (Gm n m, cells, slots) (ML j) Z0 Z := by
  have hl2 : (SH0.take n).length = n := Gm_len (by omega)
  refine E_newaL (sh := SH0.take n) (rf := rfT (TT.take m)) hd w1 hl hN (by omega) hc1 hc2 ?_
  rw [Gm_push hx ht hn, hl2, ML_z hj, Z0_z]
  exact k
theorem N_anew {E : En} {d : Nat} {μ : Mu} {pc : Nat} {al st : List AV} {n m j cells slots : Nat} {Z : Zt} {index kd : Nat} {C : String} {l : Int} {N : Nat} (hd : decode μ.2.1 pc = .ok (.anewarray index, 3)) (hkd : kd = 4 ∨ kd = 5) (hC0 : aty kd = .object C) (w1 : Cond.classLink μ.1.cls index C ∈ WS) (hl : l = (N : Int)) (hN : N ≤ 4000) (hx : SH0[n]? = some (.inr (kd, N))) (ht : tlt n m = true) (hj : n ≠ 79 ∨ j = 0) (hn : n < 94) (hc1 : cells + 1 ≤ μ.2.2.2.2.1) (hc2 : slots + N ≤ μ.2.2.2.2.2)
    (k : Ev E d μ (pc + 3) al (vr n :: st) (Gm (n + 1) m, cells + 1, slots + N) (ML j) Z0 Z) : Ev E d μ pc al (vi l :: st) (Gm n m, cells, slots) (ML j) Z0 Z := by
  have hl2 : (SH0.take n).length = n := Gm_len (by omega)
  refine E_anew (sh := SH0.take n) (rf := rfT (TT.take m)) hd hkd hC0 w1 hl hN (by omega) hc1 hc2 ?_
  rw [Gm_push hx ht hn, hl2, ML_z hj, Z0_z]
  exact k
theorem N_put {E : En} {d : Nat} {μ : Mu} {pc : Nat} {al st : List AV} {n m : Nat} {cs : Nat × Nat} {I L : MI} {Z : Zt} {o ci i index q : Nat} (hd : decode μ.2.1 pc = .ok (.putfield index, 3)) (hw : Cond.fieldLink μ.1.cls index (fTX ci i).1 (fTX ci i).2.1 (fTX ci i).2.2.1 ∈ WS) (hk : i < ncl ci) (hs : (Gm n m).1[o]? = some (.inl ci)) (hfin : (fTX ci i).2.2.2 = true) (hnm : μ.1.name = "<init>") (hdc : (fTX ci i).1 = μ.1.cls) (hty : fkd (fty ci i) = 2) (hx : TT[m]? = some (o, (i : Int), q)) (ht : ngt m o (i : Int) = true)
    (k : Ev E d μ (pc + 3) al st (Gm n (m + 1), cs) I L Z) : Ev E d μ pc al (vr q :: vr o :: st) (Gm n m, cs) I L Z := by
  refine E_putRF (g := Gm n m) hd hw hk hs hfin hnm hdc hty ?_
  show Ev E d μ (pc + 3) al st ((SH0.take n, upR (rfT (TT.take m)) o (i : Int) (some q)), cs) I L Z
  rw [Gm_put hx ht]
  exact k
theorem N_aast {E : En} {d : Nat} {μ : Mu} {pc : Nat} {al st : List AV} {n m : Nat} {cs : Nat × Nat} {I L : MI} {Z : Zt} {o kd N v ci : Nat} {i : Int} (hd : decode μ.2.1 pc = .ok (.aastore, 1)) (ha : (Gm n m).1[o]? = some (.inr (kd + 4, N))) (hkd : kd < 2) (hv : (Gm n m).1[v]? = some (.inl ci)) (hci : ci < 12) (hty : aty (kd + 4) = .object (fRX ci)) (h0 : 0 ≤ i) (h1 : i < N) (hi : Ir i) (hx : TT[m]? = some (o, i, v)) (ht : ngt m o i = true)
    (k : Ev E d μ (pc + 1) al st (Gm n (m + 1), cs) I L Z) : Ev E d μ pc al (vr v :: vi i :: vr o :: st) (Gm n m, cs) I L Z := by
  refine E_aast (g := Gm n m) (kd := kd) hd ha hkd hv hci hty h0 h1 hi ?_
  show Ev E d μ (pc + 1) al st ((SH0.take n, upR (rfT (TT.take m)) o i (some v)), cs) I L Z
  rw [Gm_put hx ht]
  exact k
theorem N_iast {E : En} {d : Nat} {μ : Mu} {pc : Nat} {al st : List AV} {κ : Kp} {Z : Zt} {L : MI} {N j : Nat} (hd : decode μ.2.1 pc = .ok (.iastore, 1)) (ha : κ.1.1[79]? = some (.inr (0, N))) (h1 : j < N ∧ j < 100)
    (k : Ev E d μ (pc + 1) al st κ (ML (j + 1)) L Z) : Ev E d μ pc al (vi (-1) :: vi (j : Int) :: vr 79 :: st) κ (ML j) L Z := by
  refine E_iast hd ha (by omega) (by omega) ⟨by omega, by omega⟩ ⟨by decide, by decide⟩ ?_
  rw [ML_up]
  exact k
/-- only what the shapes can hold counts -/
def plc : Shp → Nat
  | .inl ci => ncl ci
  | .inr q => if q.1 < 4 then 0 else q.2
theorem arrV_cg {c : ClassId} {N : Nat} {f f' : Nat → Value} (h : ∀ j, j < N → f j = f' j) : arrV c N f = arrV c N f' := by
  unfold arrV
  congr 2
  funext j
  exact h j.1 j.2
theorem Wd.geo {E : En} {g g' : Geo} {I L : MI} {U : State} {H : Heap} (h1 : g.1 = g'.1) (h2 : ∀ (o : Nat) (s : Shp), g.1[o]? = some s → ∀ k : Nat, k < plc s → g.2 o (k : Int) = g'.2 o (k : Int)) (hW : Wd E g I L U H) : Wd E g' I L U H := by
  refine ⟨fun o q hq => ?_, by rw [← h1]; exact hW.2.1, by rw [← h1]; exact hW.2.2.1, hW.2.2.2.1, hW.2.2.2.2⟩
  obtain ⟨s, hs, rfl⟩ := wld_of hq
  rw [← h1] at hs
  have h3 := hW.1 o _ (wld_get hs)
  have h4 := h2 o s hs
  cases s with
  | inl ci =>
    have e : flds E g I L o ci = flds E g' I L o ci := by
      unfold flds
      refine List.map_congr_left fun k hk => ?_
      unfold fvl
      rw [h4 k (List.mem_range.mp hk)]
    show va_at (ED E) vwK (EB E + o, .inr (ci, flds E g' I L o ci)) H
    rw [← e]
    exact h3
  | inr q =>
    obtain ⟨kd, N⟩ := q
    have h5 : H[EB E + o]? = some (vp_cell (EA E kd) (N, arf E g I L o kd)) := h3
    show H[EB E + o]? = some (vp_cell (EA E kd) (N, arf E g' I L o kd))
    rw [h5]
    congr 1
    match kd, h4 with
    | 0, _ => rfl
    | 1, _ => rfl
    | 2, _ => rfl
    | 3, _ => rfl
    | k + 4, h4 =>
      have e1 : ∀ G : Geo, vp_cell (EA E (k + 4)) (N, arf E G I L o (k + 4)) = arrV (EA E (k + 4)) N (fun j => va_rf ((G.2 o (j : Int)).map (adr E))) := fun G => by simp [arf, vp_cell]
      rw [e1 g, e1 g']
      refine arrV_cg fun j hj => ?_
      have := h4 j (by show j < (if k + 4 < 4 then 0 else N); rw [if_neg (by omega)]; exact hj)
      show va_rf ((g.2 o (j : Int)).map (adr E)) = va_rf ((g'.2 o (j : Int)).map (adr E))
      rw [this]
theorem Ev.geo {E : En} {d : Nat} {μ : Mu} {pc : Nat} {al st : List AV} {g g' : Geo} {cs : Nat × Nat} {I L : MI} {Z : Zt} (h1 : g.1 = g'.1) (h2 : ∀ (o : Nat) (s : Shp), g.1[o]? = some s → ∀ k : Nat, k < plc s → g.2 o (k : Int) = g'.2 o (k : Int)) (k : Ev E d μ pc al st (g', cs) I L Z) : Ev E d μ pc al st (g, cs) I L Z := by
  intro R p e s m args below meth c H locs ls hR hC hX hW hS hL
  exact k R p e s m args below meth c H locs ls hR hC hX (hW.geo h1 h2) hS hL
theorem Gm_end : ∀ (o : Nat) (s : Shp), (Gm 94 94).1[o]? = some s → ∀ k : Nat, k < plc s → (Gm 94 94).2 o (k : Int) = G0.2 o (k : Int) := by
  have h : ∀ o, o < 94 → ∀ k, k < plc (SH0.getD o (.inl 4)) → rfT TT o ((k : Nat) : Int) = RF0 o ((k : Nat) : Int) := by decide +kernel
  intro o s hs k hk
  have h1 : (SH0.take 94)[o]? = some s := hs
  have h2 : o < 94 := by
    have := (List.getElem?_eq_some_iff.mp h1).1
    simp at this
    omega
  have h3 : SH0.take 94 = SH0 := List.take_of_length_le (by decide)
  rw [h3] at h1
  have h4 := h o h2 k (by rw [List.getD_eq_getElem?_getD, h1]; exact hk)
  have h5 : TT.take 94 = TT := List.take_of_length_le (by decide)
  show rfT (TT.take 94) o (k : Int) = RF0 o (k : Int)
  rw [h5]
  exact h4
