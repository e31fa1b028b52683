theorem E_aloadN_n {E : En} {d : Nat} {μ : Mu} {pc : Nat} {al st : List AV} {κ : Kp} {I L : MI} {Z : Zt} {j : Fin 4} (hd : decode μ.2.1 pc = .ok (.aload_n j, 1)) (hl : al[(j : Nat)]? = some vn := by rfl) (k : Ev E d μ (pc + 1) al (vn :: st) κ I L Z) : Ev E d μ pc al st κ I L Z := by
  intro R p e s m args below meth c H locs ls hR hC hX hW hS hL
  exact lv_aload_nN hC.1 hC.2.1 hd rfl (hL.get hl rfl) (k R p e s m args below meth c H locs ls hR hC hX hW hS hL)
theorem E_astoreN_n {E : En} {d : Nat} {μ : Mu} {pc : Nat} {al st : List AV} {κ : Kp} {I L : MI} {Z : Zt} {j : Fin 4} {al' : List AV} (hd : decode μ.2.1 pc = .ok (.astore_n j, 1)) (hs : s1 al (j : Nat) vn = al' := by rfl) (hi : (j : Nat) < al.length := by simp) (k : Ev E d μ (pc + 1) al' st κ I L Z) : Ev E d μ pc al (vn :: st) κ I L Z := by
  intro R p e s m args below meth c H locs ls hR hC hX hW hS hL
  exact lv_astore_nN hC.1 hC.2.1 hd rfl hL.1 (hL.2 ▸ hi) rfl (fun ls' h' => k R p e s m args below meth c H locs ls' hR hC hX hW hS (Lr.st1 (v := vn) hL.2 hs h'))
theorem E_aloadN {E : En} {d : Nat} {μ : Mu} {pc : Nat} {al st : List AV} {κ : Kp} {I L : MI} {Z : Zt} {j : Nat} (hd : decode μ.2.1 pc = .ok (.aload j, 2)) (hl : al[j]? = some vn := by rfl) (k : Ev E d μ (pc + 2) al (vn :: st) κ I L Z) : Ev E d μ pc al st κ I L Z := by
  intro R p e s m args below meth c H locs ls hR hC hX hW hS hL
  exact lv_aloadN hC.1 hC.2.1 hd (hL.get hl rfl) (k R p e s m args below meth c H locs ls hR hC hX hW hS hL)
theorem E_astoreN {E : En} {d : Nat} {μ : Mu} {pc : Nat} {al st : List AV} {κ : Kp} {I L : MI} {Z : Zt} {j : Nat} {al' : List AV} (hd : decode μ.2.1 pc = .ok (.astore j, 2)) (hs : s1 al j vn = al' := by rfl) (hi : j < al.length := by simp) (k : Ev E d μ (pc + 2) al' st κ I L Z) : Ev E d μ pc al (vn :: st) κ I L Z := by
  intro R p e s m args below meth c H locs ls hR hC hX hW hS hL
  exact lv_astoreN hC.1 hC.2.1 hd hL.1 (hL.2 ▸ hi) rfl (fun ls' h' => k R p e s m args below meth c H locs ls' hR hC hX hW hS (Lr.st1 (v := vn) hL.2 hs h'))
theorem E_iinc {E : En} {d : Nat} {μ : Mu} {pc : Nat} {al st : List AV} {κ : Kp} {I L : MI} {Z : Zt} {j : Nat} {n x : Int} {al' : List AV} (hd : decode μ.2.1 pc = .ok (.iinc j n, 3)) (hl : al[j]? = some (vi x) := by rfl) (hs : s1 al j (vi (x + n)) = al' := by rfl) (hi : j < al.length := by simp) (k : Ev E d μ (pc + 3) al' st κ I L Z) : Ev E d μ pc al st κ I L Z := by
  intro R p e s m args below meth c H locs ls hR hC hX hW hS hL
  obtain ⟨kk, hkk⟩ := List.getElem?_of_mem (lvl_in (E := E) hl rfl)
  exact lv_iinc hC.1 hC.2.1 hd hL.1 (k := kk) hkk (v := Int32.ofInt (x + n)) (Int32.ofInt_add x n).symm (hL.2 ▸ hi) rfl (fun ls' h' => k R p e s m args below meth c H locs ls' hR hC hX hW hS (Lr.st1 (v := vi (x + n)) hL.2 hs h'))
theorem E_tswO {E : En} {d : Nat} {μ : Mu} {pc : Nat} {al st : List AV} {κ : Kp} {I L : MI} {Z : Zt} {dflt lo hi x : Int} {offs : Array Int} {len tgt : Nat} (hd : decode μ.2.1 pc = .ok (.tableswitch dflt lo hi offs, len)) (hx : Ir x) (h : x < lo ∨ hi < x) (ht : (pc : Int) + dflt = (tgt : Int)) (k : Ev E d μ tgt al st κ I L Z) : Ev E d μ pc al (vi x :: st) κ I L Z := by
  intro R p e s m args below meth c H locs ls hR hC hX hW hS hL
  exact lv_tableOut hC.1 hC.2.1 hd (by rw [oi_toInt hx]; exact h) ht (k R p e s m args below meth c H locs ls hR hC hX hW hS hL)
theorem E_tswI {E : En} {d : Nat} {μ : Mu} {pc : Nat} {al st : List AV} {κ : Kp} {I L : MI} {Z : Zt} {dflt lo hi x off : Int} {offs : Array Int} {len tgt : Nat} (hd : decode μ.2.1 pc = .ok (.tableswitch dflt lo hi offs, len)) (hx : Ir x) (h1 : lo ≤ x) (h2 : x ≤ hi) (ho : offs[(x - lo).toNat]? = some off) (ht : (pc : Int) + off = (tgt : Int)) (k : Ev E d μ tgt al st κ I L Z) : Ev E d μ pc al (vi x :: st) κ I L Z := by
  intro R p e s m args below meth c H locs ls hR hC hX hW hS hL
  exact lv_tableIn hC.1 hC.2.1 hd (by rw [oi_toInt hx]; omega) (by rw [oi_toInt hx]; omega) (by rw [oi_toInt hx]; exact ho) ht (k R p e s m args below meth c H locs ls hR hC hX hW hS hL)
theorem E_ishl {E : En} {d : Nat} {μ : Mu} {pc : Nat} {al st : List AV} {κ : Kp} {I L : MI} {Z : Zt} {x y z : Int} (hd : decode μ.2.1 pc = .ok (.ishl, 1)) (hz : Int32.ofInt x <<< (Int32.ofInt y &&& 31) = Int32.ofInt z) (k : Ev E d μ (pc + 1) al (vi z :: st) κ I L Z) : Ev E d μ pc al (vi y :: vi x :: st) κ I L Z := by
  intro R p e s m args below meth c H locs ls hR hC hX hW hS hL
  refine lv_ishl hC.1 hC.2.1 hd ?_
  rw [hz]
  exact k R p e s m args below meth c H locs ls hR hC hX hW hS hL
theorem E_ishr {E : En} {d : Nat} {μ : Mu} {pc : Nat} {al st : List AV} {κ : Kp} {I L : MI} {Z : Zt} {x y z : Int} (hd : decode μ.2.1 pc = .ok (.ishr, 1)) (hz : Int32.ofInt x >>> (Int32.ofInt y &&& 31) = Int32.ofInt z) (k : Ev E d μ (pc + 1) al (vi z :: st) κ I L Z) : Ev E d μ pc al (vi y :: vi x :: st) κ I L Z := by
  intro R p e s m args below meth c H locs ls hR hC hX hW hS hL
  refine lv_ishr hC.1 hC.2.1 hd ?_
  rw [hz]
  exact k R p e s m args below meth c H locs ls hR hC hX hW hS hL
theorem E_lshl {E : En} {d : Nat} {μ : Mu} {pc : Nat} {al st : List AV} {κ : Kp} {I L : MI} {Z : Zt} {x y z : Int} (hd : decode μ.2.1 pc = .ok (.lshl, 1)) (hz : Int64.ofInt x <<< ((Int32.ofInt y).toInt64 &&& 63) = Int64.ofInt z) (k : Ev E d μ (pc + 1) al (vl z :: st) κ I L Z) : Ev E d μ pc al (vi y :: vl x :: st) κ I L Z := by
  intro R p e s m args below meth c H locs ls hR hC hX hW hS hL
  exact lv_lshl hC.1 hC.2.1 hd hz (k R p e s m args below meth c H locs ls hR hC hX hW hS hL)
theorem E_lshr {E : En} {d : Nat} {μ : Mu} {pc : Nat} {al st : List AV} {κ : Kp} {I L : MI} {Z : Zt} {x y z : Int} (hd : decode μ.2.1 pc = .ok (.lshr, 1)) (hz : Int64.ofInt x >>> ((Int32.ofInt y).toInt64 &&& 63) = Int64.ofInt z) (k : Ev E d μ (pc + 1) al (vl z :: st) κ I L Z) : Ev E d μ pc al (vi y :: vl x :: st) κ I L Z := by
  intro R p e s m args below meth c H locs ls hR hC hX hW hS hL
  exact lv_lshr hC.1 hC.2.1 hd hz (k R p e s m args below meth c H locs ls hR hC hX hW hS hL)
theorem E_lushr {E : En} {d : Nat} {μ : Mu} {pc : Nat} {al st : List AV} {κ : Kp} {I L : MI} {Z : Zt} {x y z : Int} (hd : decode μ.2.1 pc = .ok (.lushr, 1)) (hz : ((Int64.ofInt x).toUInt64 >>> ((Int32.ofInt y).toInt64.toUInt64 &&& Int64.toUInt64 63)).toInt64 = Int64.ofInt z) (k : Ev E d μ (pc + 1) al (vl z :: st) κ I L Z) : Ev E d μ pc al (vi y :: vl x :: st) κ I L Z := by
  intro R p e s m args below meth c H locs ls hR hC hX hW hS hL
  exact lv_lushr hC.1 hC.2.1 hd hz (k R p e s m args below meth c H locs ls hR hC hX hW hS hL)
def cpI (I : MI) (a : Nat) (i : Int) (b : Nat) (j n : Int) : MI := fun o k => if o = b ∧ j ≤ k ∧ k < j + n then I a (i + (k - j)) else I o k
theorem MOK.cp {I L : MI} {a b : Nat} {i j n : Int} (h : MOK I L) : MOK (cpI I a i b j n) L := ⟨fun o k => by unfold cpI; split; exact h.1 _ _; exact h.1 o k, h.2⟩
theorem ent_cp {E : En} {g : Geo} {I L : MI} {a b o' : Nat} {i j n : Int} {s : Shp} (h : o' ≠ b) : ent E g I L o' s = ent E g (cpI I a i b j n) L o' s := by
  have e : ∀ k, cpI I a i b j n o' k = I o' k := fun k => by unfold cpI; rw [if_neg (fun q => h q.1)]
  cases s with
  | inl ci =>
    show (Sum.inr (ci, _) : va_E) = Sum.inr (ci, _)
    unfold flds fvl
    simp only [e]
  | inr q =>
    show (Sum.inl (_, _, _) : va_E) = Sum.inl (_, _, _)
    unfold arf
    simp only [e]
set_option maxHeartbeats 1000000 in
theorem E_copy {E : En} {d : Nat} {μ : Mu} {pc : Nat} {al st : List AV} {κ : Kp} {I L : MI} {Z : Zt} {oa ob na nb index : Nat} {i j n : Int} (hd : decode μ.2.1 pc = .ok (.invokestatic index, 3)) (w1 : Cond.methodLink μ.1.cls index arraycopyName ∈ WS) (w2 : Cond.native arraycopyName ∈ WS) (w3 : Cond.static arraycopyName ∈ WS) (w4 : Cond.initialized "java/lang/System" ∈ WS) (ha : κ.1.1[oa]? = some (.inr (0, na))) (hb : κ.1.1[ob]? = some (.inr (0, nb))) (hi : 0 ≤ i) (hj : 0 ≤ j) (hn : 0 ≤ n) (h1 : i + n ≤ na) (h2 : j + n ≤ nb) (ri : Ir i) (rj : Ir j) (rn : Ir n) (hlt : 1 ≤ d) (hct : ctx st + (nativeFrameWords "java/lang/System" "arraycopy" 5 + 11) ≤ 40)
    (k : Ev E d μ (pc + 3) al st κ (cpI I oa i ob j n) L Z) : Ev E d μ pc al (vi n :: vi j :: vr ob :: vi i :: vr oa :: st) κ I L Z := by
  intro R p e s m args below meth c H locs ls hR hC hX hW hS hL
  have hoa := hW.lt ha
  have hob := hW.lt hb
  have e1 : F0 m pc ls ((vi n :: vi j :: vr ob :: vi i :: vr oa :: st).map (cv E)) = F0 m pc ls (.int (Int32.ofInt n) :: .int (Int32.ofInt j) :: .ref (EB E + ob) :: .int (Int32.ofInt i) :: .ref (EB E + oa) :: st.map (cv E)) := by
    show F0 m pc ls (.int (Int32.ofInt n) :: .int (Int32.ofInt j) :: .ref (adr E ob) :: .int (Int32.ofInt i) :: .ref (adr E oa) :: st.map (cv E)) = _
    rw [adr_in hoa, adr_in hob]
  rw [e1]
  have c0 : H[EB E + oa]? = some (vp_cell (EA E 0) (na, arf E κ.1 I L oa 0)) := hW.1 oa _ (wld_get ha)
  have c1 : H[EB E + ob]? = some (vp_cell (EA E 0) (nb, arf E κ.1 I L ob 0)) := hW.1 ob _ (wld_get hb)
  rw [arf_cell hoa] at c0
  rw [arf_cell hob] at c1
  have hA := (hW.2.2.2.1.2 0 _ (tysE_at (by decide))).1
  obtain ⟨-, k0, hk0, cm0, hkk0⟩ := hA na (fun q => avl E κ.1 I L oa 0 (q : Int))
  obtain ⟨-, k1, hk1, cm1, hkk1⟩ := hA nb (fun q => avl E κ.1 I L ob 0 (q : Int))
  have hR1 := hR.1
  have hR2 := hR.2.1
  have neg : ∀ z : Int, 0 ≤ z → Ir z → ¬ Int32.ofInt z < 0 := fun z hz hr q => by
    have q2 : Int32.ofInt z < Int32.ofInt 0 := q
    rw [oi_lt hr ⟨by decide, by decide⟩] at q2
    omega
  intro T hT X
  obtain ⟨vm', X', step⟩ := X.arraycopy hC.1 hC.2.2.2.1 (hC.2.2.2.2.1 _ w1) (hC.2.2.2.2.1 _ w2) (hC.2.2.2.2.1 _ w3) (hC.2.2.2.2.1 _ w4) (src := EB E + oa) (dst := EB E + ob) (srcPos := Int32.ofInt i) (destPos := Int32.ofInt j) (n := Int32.ofInt n) (by rw [hT]; exact c0) (by rw [hT]; exact c1)
    (fun _ h => by cases h) (fun _ h => by cases h) (fun h => by cases h) (fun h => by cases h) hk0 hk1 hkk0 hkk1 (by simp [refKind, aty]) (neg i hi ri) (neg j hj rj) (neg n hn rn)
    (by rw [oi_toInt ri, oi_toInt rn, arrV_size]; omega)
    (by rw [oi_toInt rj, oi_toInt rn, arrV_size]; omega)
    (fun vm₁ _ q hq => by
      rw [oi_nat rn] at hq
      have e : (arrV (EA E 0) na (fun q => avl E κ.1 I L oa 0 (q : Int))).slots.getD ((Int32.ofInt i).toNatClampNeg + q) .null = .int (Int32.ofInt (I oa (i + q))) := by
        rw [Array.getD_eq_getD_getElem?, oi_nat ri, arrV_read _ _ (by omega)]
        show avl E κ.1 I L oa 0 ((i.toNat + q : Nat) : Int) = _
        have e3 : ((i.toNat + q : Nat) : Int) = i + q := by omega
        simp [avl, rdI, hoa, e3]
      refine ⟨?_, ?_⟩
      · rw [e]; rfl
      · rw [e]; exact trivial)
    (g := F0 m pc ls (.int (Int32.ofInt n) :: .int (Int32.ofInt j) :: .ref (EB E + ob) :: .int (Int32.ofInt i) :: .ref (EB E + oa) :: st.map (cv E))) rfl (hL.1.1.trans hC.2.2.1.symm) (rest := st.map (cv E)) rfl (by rw [hC.2.1]; exact hd) (by omega) (by show 2 * 0 + _ + _ ≤ _; rw [ctx_of]; omega)
  have e2 : copied (arrV (EA E 0) na (fun q => avl E κ.1 I L oa 0 (q : Int))) (arrV (EA E 0) nb (fun q => avl E κ.1 I L ob 0 (q : Int))) (Int32.ofInt i) (Int32.ofInt j) (Int32.ofInt n) = vp_cell (EA E 0) (nb, arf E κ.1 (cpI I oa i ob j n) L ob 0) := by
    rw [arf_cell hob]
    have h4 : (Int32.ofInt i).toNatClampNeg + (Int32.ofInt n).toNatClampNeg ≤ na := by rw [oi_nat ri, oi_nat rn]; omega
    have e0 := va_copied (fun z : Value => z) (EA E 0) (EA E 0) (n0 := na) (n1 := nb) (sp := (Int32.ofInt i).toNatClampNeg) (dp := (Int32.ofInt j).toNatClampNeg) (n := (Int32.ofInt n).toNatClampNeg) (fun q => avl E κ.1 I L oa 0 (q : Int)) (fun q => avl E κ.1 I L ob 0 (q : Int)) h4
    refine Eq.trans e0 ?_
    congr 1
    funext q
    unfold va_cpy
    rw [oi_nat ri, oi_nat rj, oi_nat rn]
    by_cases hq : j.toNat ≤ q ∧ q < j.toNat + n.toNat
    · have hq2 : j ≤ (q : Int) ∧ (q : Int) < j + n := by omega
      rw [if_pos hq]
      have e3 : ((i.toNat + (q - j.toNat) : Nat) : Int) = i + (q - j) := by omega
      simp [avl, rdI, hoa, hob, cpI, hq2, e3]
    · have hq2 : ¬ (j ≤ (q : Int) ∧ (q : Int) < j + n) := by omega
      rw [if_neg hq]
      simp [avl, rdI, hob, cpI, hq2]
  rw [e2] at X' step
  have hl : EB E + ob < H.size := (Array.getElem?_eq_some_iff.mp c1).1
  have oq : ∀ q : Nat, q ≠ EB E + ob → (H.setIfInBounds (EB E + ob) (vp_cell (EA E 0) (nb, arf E κ.1 (cpI I oa i ob j n) L ob 0)))[q]? = H[q]? := fun q hq => by simp [Array.getElem?_setIfInBounds, Ne.symm hq]
  have hz : (H.setIfInBounds (EB E + ob) (vp_cell (EA E 0) (nb, arf E κ.1 (cpI I oa i ob j n) L ob 0))).size = H.size := by simp
  have hheap : ((T.setVm vm').setCell (EB E + ob) (vp_cell (EA E 0) (nb, arf E κ.1 (cpI I oa i ob j n) L ob 0))).heap = H.setIfInBounds (EB E + ob) (vp_cell (EA E 0) (nb, arf E κ.1 (cpI I oa i ob j n) L ob 0)) := by rw [← hT]; rfl
  obtain ⟨t, a1, b1⟩ := k R p e s m args below meth c _ _ ls hR hC hX (hW.wr (g' := κ.1) (I' := cpI I oa i ob j n) (L' := L) rfl hb (show (H.setIfInBounds (EB E + ob) _)[EB E + ob]? = some _ by simp [Array.getElem?_setIfInBounds, hl]) hz oq (fun o' s' h => ent_cp h) hW.2.2.2.2.cp) ⟨by rw [hz]; exact hS.1, fun q g1 g2 => by
      rw [oq q (fun e => g2 (by rw [e]; exact Nat.le_add_right _ _))]
      exact hS.2.1 q g1 g2, fun q hq => by
      rcases List.mem_append.mp hq with h | h
      · exact hS.2.2 q h
      · obtain ⟨z, -, hz⟩ := List.mem_map.mp h
        rw [← hz]
        exact Nat.le_add_right _ _⟩ hL _ hheap X'
  exact ⟨t, step t a1, b1⟩
theorem E_strV {E : En} {d : Nat} {μ : Mu} {pc : Nat} {al st : List AV} {κ : Kp} {I L : MI} {Z : Zt} {q index : Nat} (hd : decode μ.2.1 pc = .ok (.getfield index, 3)) (hw : Cond.fieldLink μ.1.cls index "java/lang/String" "value" "[B" ∈ WS) (hq : q ∈ ([1005, 1006, 1007, 1008] : List Nat)) (k : Ev E d μ (pc + 3) al (vr (q + 4) :: st) κ I L Z) : Ev E d μ pc al (vr q :: st) κ I L Z := by
  intro R p e s m args below meth c H locs ls hR hC hX hW hS hL
  have h6 := (hX.2.2.2.2.1 q hq).2.2
  have hq2 : 1005 ≤ q ∧ q ≤ 1008 := by simp at hq; omega
  have e1 : (vr q :: st).map (cv E) = Value.ref (EX E (q - 1000)) :: st.map (cv E) := by
    show Value.ref (adr E q) :: _ = _
    unfold adr
    rw [if_neg (by omega)]
  rw [e1]
  have hk := k R p e s m args below meth c H locs ls hR hC hX hW hS hL
  have e2 : (vr (q + 4) :: st).map (cv E) = Value.ref (EX E (q - 996)) :: st.map (cv E) := by
    show Value.ref (adr E (q + 4)) :: _ = _
    unfold adr
    rw [if_neg (by omega), show q + 4 - 1000 = q - 996 by omega]
  rw [e2] at hk
  exact vk_getf hC.1 hC.2.1 h6 hS hC.2.2.2.1 (hC.2.2.2.2.1 _ hw) (fun x h => h) hd hk
theorem E_strC {E : En} {d : Nat} {μ : Mu} {pc : Nat} {al st : List AV} {κ : Kp} {I L : MI} {Z : Zt} {q index : Nat} (hd : decode μ.2.1 pc = .ok (.getfield index, 3)) (hw : Cond.fieldLink μ.1.cls index "java/lang/String" "coder" "B" ∈ WS) (hq : q ∈ ([1005, 1006, 1007, 1008] : List Nat)) (k : Ev E d μ (pc + 3) al (vi 0 :: st) κ I L Z) : Ev E d μ pc al (vr q :: st) κ I L Z := by
  intro R p e s m args below meth c H locs ls hR hC hX hW hS hL
  have h6 := (hX.2.2.2.2.1 q hq).2.1
  have hq2 : 1005 ≤ q ∧ q ≤ 1008 := by simp at hq; omega
  have e1 : (vr q :: st).map (cv E) = Value.ref (EX E (q - 1000)) :: st.map (cv E) := by
    show Value.ref (adr E q) :: _ = _
    unfold adr
    rw [if_neg (by omega)]
  rw [e1]
  have hk := k R p e s m args below meth c H locs ls hR hC hX hW hS hL
  have e2 : (vi 0 :: st).map (cv E) = Value.int 0 :: st.map (cv E) := by
    rfl
  rw [e2] at hk
  exact vk_getf hC.1 hC.2.1 h6 hS hC.2.2.2.1 (hC.2.2.2.2.1 _ hw) (fun x h => h) hd hk
theorem E_getsq {E : En} {d : Nat} {μ : Mu} {pc : Nat} {al st : List AV} {κ : Kp} {I L : MI} {Z : Zt} {index : Nat} (hd : decode μ.2.1 pc = .ok (.getstatic index, 3)) (hw : Cond.fieldLink μ.1.cls index "jdk/internal/util/Preconditions" "SIOOBE_FORMATTER" "Ljava/util/function/BiFunction;" ∈ WS) (kn : Ev E d μ (pc + 3) al (vn :: st) κ I L Z) (kr : Ev E d μ (pc + 3) al (vr 1013 :: st) κ I L Z) : Ev E d μ pc al st κ I L Z := by
  intro R p e s m args below meth c H locs ls hR hC hX hW hS hL
  rcases hX.2.2.2.2.2.2.1 with h | h
  · exact va_gets hC.1 hC.2.1 h hS hC.2.2.2.1 (hC.2.2.2.2.1 _ hw) (fun x h => h) hd (kn R p e s m args below meth c H locs ls hR hC hX hW hS hL)
  · exact va_gets hC.1 hC.2.1 h hS hC.2.2.2.1 (hC.2.2.2.2.1 _ hw) (fun x h => h) hd (kr R p e s m args below meth c H locs ls hR hC hX hW hS hL)
theorem E_dup2 {E : En} {d : Nat} {μ : Mu} {pc : Nat} {al st : List AV} {κ : Kp} {I L : MI} {Z : Zt} {v w : AV} (hd : decode μ.2.1 pc = .ok (.dup2, 1)) (hv : (cv E v).category = 1) (hw : (cv E w).category = 1) (k : Ev E d μ (pc + 1) al (v :: w :: v :: w :: st) κ I L Z) : Ev E d μ pc al (v :: w :: st) κ I L Z := by
  intro R p e s m args below meth c H locs ls hR hC hX hW hS hL
  exact lv_dup2_11 hC.1 hC.2.1 hd hv hw (k R p e s m args below meth c H locs ls hR hC hX hW hS hL)
theorem E_pop {E : En} {d : Nat} {μ : Mu} {pc : Nat} {al st : List AV} {κ : Kp} {I L : MI} {Z : Zt} {v : AV} (hd : decode μ.2.1 pc = .ok (.pop, 1)) (hv : (cv E v).category = 1) (k : Ev E d μ (pc + 1) al st κ I L Z) : Ev E d μ pc al (v :: st) κ I L Z := by
  intro R p e s m args below meth c H locs ls hR hC hX hW hS hL
  exact lv_pop hC.1 hC.2.1 hd hv (k R p e s m args below meth c H locs ls hR hC hX hW hS hL)
theorem E_i2c {E : En} {d : Nat} {μ : Mu} {pc : Nat} {al st : List AV} {κ : Kp} {I L : MI} {Z : Zt} {x z : Int} (hd : decode μ.2.1 pc = .ok (.i2c, 1)) (hz : ((Int32.ofInt x).toUInt32 % 65536).toInt32 = Int32.ofInt z) (k : Ev E d μ (pc + 1) al (vi z :: st) κ I L Z) : Ev E d μ pc al (vi x :: st) κ I L Z := by
  intro R p e s m args below meth c H locs ls hR hC hX hW hS hL
  exact lv_i2c hC.1 hC.2.1 hd hz (k R p e s m args below meth c H locs ls hR hC hX hW hS hL)
theorem E_iushr {E : En} {d : Nat} {μ : Mu} {pc : Nat} {al st : List AV} {κ : Kp} {I L : MI} {Z : Zt} {x y z : Int} (hd : decode μ.2.1 pc = .ok (.iushr, 1)) (hz : ((Int32.ofInt x).toUInt32 >>> ((Int32.ofInt y).toUInt32 &&& Int32.toUInt32 31)).toInt32 = Int32.ofInt z) (k : Ev E d μ (pc + 1) al (vi z :: st) κ I L Z) : Ev E d μ pc al (vi y :: vi x :: st) κ I L Z := by
  intro R p e s m args below meth c H locs ls hR hC hX hW hS hL
  exact lv_iushr hC.1 hC.2.1 hd hz (k R p e s m args below meth c H locs ls hR hC hX hW hS hL)
theorem E_ldcw {E : En} {d : Nat} {μ : Mu} {pc : Nat} {al st : List AV} {κ : Kp} {I L : MI} {Z : Zt} {n : Nat} {v : Int} (hd : decode μ.2.1 pc = .ok (.ldc_w n, 3)) (hw : Cond.constant μ.1.cls n (Int32.ofInt v) ∈ WS) (k : Ev E d μ (pc + 3) al (vi v :: st) κ I L Z) : Ev E d μ pc al st κ I L Z := by
  intro R p e s m args below meth c H locs ls hR hC hX hW hS hL
  exact lv_ldcw hC.1 hC.2.1 hC.2.2.2.1 (hC.2.2.2.2.1 _ hw) hd (k R p e s m args below meth c H locs ls hR hC hX hW hS hL)
theorem E_ialdI {E : En} {d : Nat} {μ : Mu} {pc : Nat} {al st : List AV} {κ : Kp} {I L : MI} {Z : Zt} {o n : Nat} {i : Int} (hd : decode μ.2.1 pc = .ok (.iaload, 1)) (hs : κ.1.1[o]? = some (.inr (0, n))) (h0 : 0 ≤ i) (h1 : i < n) (hi : Ir i) (k : Ir (I o i) → Ev E d μ (pc + 1) al (vi (I o i) :: st) κ I L Z) : Ev E d μ pc al (vi i :: vr o :: st) κ I L Z := by
  intro R p e s m args below meth c H locs ls hR hC hX hW hS hL
  have ho := hW.lt hs
  have ha : arr E κ.1 o = some (0, n) := by unfold arr; rw [if_pos ho, hs]
  refine E_iald hd ha h0 h1 hi (fun hr => ?_) R p e s m args below meth c H locs ls hR hC hX hW hS hL
  have e : rdI E I o i = I o i := by unfold rdI; rw [if_pos ho]
  rw [e] at hr ⊢
  exact k hr
theorem E_baldI {E : En} {d : Nat} {μ : Mu} {pc : Nat} {al st : List AV} {κ : Kp} {I L : MI} {Z : Zt} {o n : Nat} {i : Int} (hd : decode μ.2.1 pc = .ok (.baload, 1)) (hs : κ.1.1[o]? = some (.inr (1, n))) (h0 : 0 ≤ i) (h1 : i < n) (hi : Ir i) (k : Ir (I o i) → Ev E d μ (pc + 1) al (vi (I o i) :: st) κ I L Z) : Ev E d μ pc al (vi i :: vr o :: st) κ I L Z := by
  intro R p e s m args below meth c H locs ls hR hC hX hW hS hL
  have ho := hW.lt hs
  have ha : arr E κ.1 o = some (1, n) := by unfold arr; rw [if_pos ho, hs]
  refine E_bald hd ha h0 h1 hi (fun hr => ?_) R p e s m args below meth c H locs ls hR hC hX hW hS hL
  have e : rdI E I o i = I o i := by unfold rdI; rw [if_pos ho]
  rw [e] at hr ⊢
  exact k hr
theorem E_zaldI {E : En} {d : Nat} {μ : Mu} {pc : Nat} {al st : List AV} {κ : Kp} {I L : MI} {Z : Zt} {o n : Nat} {i : Int} (hd : decode μ.2.1 pc = .ok (.baload, 1)) (hs : κ.1.1[o]? = some (.inr (2, n))) (h0 : 0 ≤ i) (h1 : i < n) (hi : Ir i) (k : Ir (I o i) → Ev E d μ (pc + 1) al (vi (I o i) :: st) κ I L Z) : Ev E d μ pc al (vi i :: vr o :: st) κ I L Z := by
  intro R p e s m args below meth c H locs ls hR hC hX hW hS hL
  have ho := hW.lt hs
  have ha : arr E κ.1 o = some (2, n) := by unfold arr; rw [if_pos ho, hs]
  refine E_zald hd ha h0 h1 hi (fun hr => ?_) R p e s m args below meth c H locs ls hR hC hX hW hS hL
  have e : rdI E I o i = I o i := by unfold rdI; rw [if_pos ho]
  rw [e] at hr ⊢
  exact k hr
theorem E_laldI {E : En} {d : Nat} {μ : Mu} {pc : Nat} {al st : List AV} {κ : Kp} {I L : MI} {Z : Zt} {o n : Nat} {i : Int} (hd : decode μ.2.1 pc = .ok (.laload, 1)) (hs : κ.1.1[o]? = some (.inr (3, n))) (h0 : 0 ≤ i) (h1 : i < n) (hi : Ir i) (k : Jr (L o i) → Ev E d μ (pc + 1) al (vl (L o i) :: st) κ I L Z) : Ev E d μ pc al (vi i :: vr o :: st) κ I L Z := by
  intro R p e s m args below meth c H locs ls hR hC hX hW hS hL
  have ho := hW.lt hs
  have ha : arr E κ.1 o = some (3, n) := by unfold arr; rw [if_pos ho, hs]
  refine E_lald hd ha h0 h1 hi (fun hr => ?_) R p e s m args below meth c H locs ls hR hC hX hW hS hL
  have e : rdL L o i = L o i := by unfold rdL; rw [if_pos ho]
  rw [e] at hr ⊢
  exact k hr
set_option maxHeartbeats 1000000 in
theorem E_callVS {E : En} {d d' : Nat} {μ μ' : Mu} {pc : Nat} {al st as rest : List AV} {g : Geo} {cs : Nat × Nat} {I L : MI} {Z : Zt} {Q : Option AV → Geo → MI → MI → Prop} {index n : Nat} {q : Nat} (hM : CM E d' μ' (vr q :: as) g I L Q) (hd : decode μ.2.1 pc = .ok (.invokevirtual index, 3)) (wl : Cond.methodLink μ.1.cls index μ'.1 ∈ WS) (ws : Cond.instanceMethod μ'.1 ∈ WS) (wsel : Cond.selects μ'.1.cls μ'.1 μ'.1 ∈ WS) (hs : q ∈ ([1005, 1006, 1007, 1008] : List Nat)) (hcl : μ'.1.cls = "java/lang/String") (hlt : d' + 1 ≤ d) (wc : Cond.code μ'.1 μ'.2.1 μ'.2.2.1 μ'.2.2.2.1 ∈ WS) (wi : Cond.initialized μ'.1.cls ∈ WS) (hdd : μ'.1.cls ≠ "java/lang/invoke/MethodHandle" ∧ μ'.1.cls ≠ "java/lang/invoke/VarHandle" ∧ (parseMethodDescriptor μ'.1.desc).map (fun d => d.parameters.length) = some n) (hn : as.length = n) (hnl : μ'.2.2.1 ≤ 21) (hct : ctx rest ≤ 8) (hc1 : cs.1 + μ'.2.2.2.2.1 ≤ μ.2.2.2.2.1) (hc2 : cs.2 + μ'.2.2.2.2.2 ≤ μ.2.2.2.2.2) (hst : as.reverse ++ vr q :: rest = st) (kk : ∀ (r : Option AV) (g' : Geo) (I' L' : MI), Q r g' I' L' → Ev E d μ (pc + 3) al (r.toList ++ rest) (g', cs.1 + μ'.2.2.2.2.1, cs.2 + μ'.2.2.2.2.2) I' L' Z) : Ev E d μ pc al st (g, cs) I L Z := by
  subst hst
  intro R p e s m args below meth c H locs ls hR hC hX hW hS hL
  have hq2 : 1005 ≤ q ∧ q ≤ 1008 := by simp at hs; omega
  have hb : adr E q = EX E (q - 1000) := by unfold adr; rw [if_neg (by omega)]
  have ms : (as.reverse ++ vr q :: rest).map (cv E) = (as.map (cv E)).reverse ++ .ref (EX E (q - 1000)) :: rest.map (cv E) := by
    rw [List.map_append, List.map_reverse]
    show _ ++ Value.ref (adr E q) :: _ = _
    rw [hb]
  have pr : ∀ U : State, U.heap = H → s.WarmedH U.vm → PcE E (vr q :: as) g I L (Value.ref (EX E (q - 1000)) :: as.map (cv E)).toArray U := by
    have h := pre_of (as := vr q :: as) hX hW hS
    have e : (vr q :: as).map (cv E) = Value.ref (EX E (q - 1000)) :: as.map (cv E) := by
      show Value.ref (adr E q) :: _ = _
      rw [hb]
    rw [e] at h
    exact h
  have hrc : ∃ cell : Cell, H[EX E (q - 1000)]? = some cell ∧ cell.vm.isStatics = false ∧ s.vm.findClass μ'.1.cls = some cell.cls := by
    obtain ⟨cell, h1, h2, h3, -⟩ := (hX.2.2.2.2.1 q hs).1.kept hS.2.1
    exact ⟨cell, h1, h2, by rw [hcl]; exact h3⟩
  refine ow_call (Q := Q) (a0 := (Value.ref (EX E (q - 1000)) :: as.map (cv E)).toArray) (rest := rest.map (cv E)) (mc := μ'.2.2.2.2.1) (ms := μ'.2.2.2.2.2) (g := g) (I := I) (L := L) ?run hS hW fun r g' I' L' H1 locs1 hq hW1 hS1 => ?_
  · exact va_runV (b := EX E (q - 1000)) (C := μ'.1.cls) ⟨hC.1, hC.2.1, hC.2.2.1, hC.2.2.2.1, hC.2.2.2.2.1⟩ hM ⟨(callB_of (rm := rmd d' μ'.2.2.2.2.1 μ'.2.2.2.2.2) (mc := μ'.2.2.2.2.1) (ms := μ'.2.2.2.2.2) (Ts := WS) (ws' := WS) n hC.2.2.2.2.1 (wsM_good wc) rfl rfl rfl (hC.2.2.2.2.1 _ wi) (hC.2.2.2.2.1 _ wl) hdd (room_of hR hlt hnl)), hC.2.2.2.2.1 _ ws, hC.2.2.2.2.1 _ wsel⟩ ⟨PcE_blind, hrc, pr⟩ rfl (by rw [List.length_map]; exact hn) hL.1.1 ms (by show 2 * 0 + _ ≤ 8; rw [ctx_of]; omega) hd ⟨Nat.le_trans hc1 hR.2.2.1, Nat.le_trans hc2 hR.2.2.2⟩
  · have hk := kk r g' I' L' hq R p e s m args below meth c H1 locs1 ls hR hC hX hW1 hS1 hL
    have e2 : (r.toList ++ rest).map (cv E) = (r.map (cv E)).toList ++ rest.map (cv E) := by
      rw [List.map_append]
      cases r <;> rfl
    rw [e2] at hk
    exact hk
