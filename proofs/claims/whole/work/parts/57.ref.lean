theorem t57_X11_isGood_0 {E : En} {d : Nat} {κ : Kp} {I L : MI} {Z : Zt} {a0 : Nat} {a1 : Int}  (k : Ev E d M_X11_isGood 1 [vr a0, vl a1, vu] [vr a0] κ I L Z) : Ev E d M_X11_isGood 0 [vr a0, vl a1, vu] [] κ I L Z := E_aload_n dX11_isGood_0 rfl k
theorem t57_X11_isGood_1 {E : En} {d : Nat} {κ : Kp} {I L : MI} {Z : Zt} {a0 b0 : Nat} {a1 : Int}  (k : Ev E d M_X11_isGood 2 [vr a0, vl a1, vu] [vl a1, vr b0] κ I L Z) : Ev E d M_X11_isGood 1 [vr a0, vl a1, vu] [vr b0] κ I L Z := E_lload_n dX11_isGood_1 rfl k
theorem t57_X11_isGood_2 {E : En} {d d' : Nat} {cs : Nat × Nat} {I L : MI} {Z : Zt} {a0 b1 : Nat} {a1 b0 : Int} {Q : MI → MI → Prop} (hs : G0.1[b1]? = some (.inl 11)) (hM : CQv E d' M_X11_take [vr b1, vl b0] I L Q) (hlt : d' + 1 ≤ d) (kk : ∀ (I' L' : MI), Q I' L' → Ev E d M_X11_isGood 5 [vr a0, vl a1, vu] [] (G0, cs) I' L' Z) (hc1 : cs.1 ≤ M_X11_isGood.2.2.2.2.1 := by decide) (hc2 : cs.2 ≤ M_X11_isGood.2.2.2.2.2 := by decide) : Ev E d M_X11_isGood 2 [vr a0, vl a1, vu] [vl b0, vr b1] (G0, cs) I L Z := E_callV (as := [vl b0]) (rest := []) (n := 1) hM dX11_isGood_2 wM_RX11_229 wS_X11_take wV_X11_take hs (by decide) rfl hlt wC_X11_take wI_X11 (by decide +kernel) rfl (by decide) (Nat.le_of_ble_eq_true rfl) hc1 hc2 rfl (fun r g' I' L' h => by obtain ⟨rfl, rfl, h⟩ := h; exact kk I' L' h)
theorem t57_X11_isGood_5 {E : En} {d : Nat} {κ : Kp} {I L : MI} {Z : Zt} {a0 : Nat} {a1 : Int}  (k : Ev E d M_X11_isGood 6 [vr a0, vl a1, vu] [vr a0] κ I L Z) : Ev E d M_X11_isGood 5 [vr a0, vl a1, vu] [] κ I L Z := E_aload_n dX11_isGood_5 rfl k
theorem t57_X11_isGood_6 {E : En} {d d' : Nat} {cs : Nat × Nat} {I L : MI} {Z : Zt} {a0 b0 : Nat} {a1 : Int} {P : Prop} {I' L' : MI} (hs : G0.1[b0]? = some (.inl 11)) (hM : CB E d' M_X11_isGoodNow [vr b0] I L P I' L') (hlt : d' + 1 ≤ d) (kt : P → Ev E d M_X11_isGood 9 [vr a0, vl a1, vu] [vi 1] (G0, cs) I' L' Z) (kf : ¬ P → Ev E d M_X11_isGood 9 [vr a0, vl a1, vu] [vi 0] (G0, cs) I' L' Z) (hc1 : cs.1 ≤ M_X11_isGood.2.2.2.2.1 := by decide) (hc2 : cs.2 ≤ M_X11_isGood.2.2.2.2.2 := by decide) : Ev E d M_X11_isGood 6 [vr a0, vl a1, vu] [vr b0] (G0, cs) I L Z := E_callV (as := []) (rest := []) (n := 0) hM dX11_isGood_6 wM_RX11_233 wS_X11_isGoodNow wV_X11_isGoodNow hs (by decide) rfl hlt wC_X11_isGoodNow wI_X11 (by decide +kernel) rfl (by decide) (Nat.le_of_ble_eq_true rfl) hc1 hc2 rfl (fun r g' I2 L2 h => by obtain ⟨rfl, z, rfl, rfl, rfl, ⟨rfl, h⟩ | ⟨rfl, h⟩⟩ := h; exact kt h; exact kf h)
theorem t57_X11_isGood_9 {E : En} {d : Nat} {g : Geo} {I L : MI} {Q : Option AV → Geo → MI → MI → Prop} {cs : Nat × Nat} {a0 : Nat} {a1 b0 : Int} (hz : b0 = 0 ∨ b0 = 1) (hq : Q (some (vi b0)) g I L) (h1 : cs.1 ≤ M_X11_isGood.2.2.2.2.1 := by decide) (h2 : cs.2 ≤ M_X11_isGood.2.2.2.2.2 := by decide) : Ev E d M_X11_isGood 9 [vr a0, vl a1, vu] [vi b0] (g, cs) I L (ZQ E M_X11_isGood Q) := E_zreturn rfl hz dX11_isGood_9 hq h1 h2
/-! THE TWO TONGUES: the class's at t, the reference's in array a from b on -/
def TRl (I : MI) (t a : Nat) (b : Int) : Prop := I a (b + 0) = I t 0 ∧ I a (b + 1) = I t 1 ∧ I a (b + 2) = I t 2 ∧
  (∀ k, 0 ≤ k → k < I t 0 → I a (b + (3 + 3 * k)) = I (t + 1) k ∧ I a (b + (3 + 3 * k + 1)) = I (t + 2) k ∧ I a (b + (3 + 3 * k + 2)) = I (t + 3) k) ∧
  (∀ s, 0 ≤ s → s < 5 → (I a (b + (39 + 2 * s)) < 0 ∧ ∀ r, 0 ≤ r → r < I t 1 → I (t + 4) r ≠ s) ∨ (∃ r, 0 ≤ r ∧ r < I t 1 ∧ I (t + 4) r = s ∧ I a (b + (39 + 2 * s)) = I (t + 5) r ∧ I a (b + (39 + 2 * s + 1)) = I (t + 6) r)) ∧
  (∀ k, 0 ≤ k → k < I t 2 → I a (b + (49 + 2 * k)) = I (t + 7) k ∧ I a (b + (49 + 2 * k + 1)) = I (t + 8) k)
def TRq (I : MI) : Prop := WfT I 15 ∧ ((I 78 7 = 0 ∧ I 15 0 = 0 ∧ I 15 1 = 0 ∧ I 15 2 = 0 ∧ I 82 0 = 0 ∧ I 82 1 = 0 ∧ I 82 2 = 0) ∨ (I 78 7 = 1 ∧ 1 ≤ I 15 0 ∧ TRl I 15 82 0))
theorem TR_n {I : MI} (h : TRq I) : I 82 0 = I 15 0 ∧ I 82 1 = I 15 1 ∧ I 82 2 = I 15 2 := by
  rcases h.2 with h | ⟨-, -, h0, h1, h2, -⟩
  · omega
  · rw [Int.zero_add] at h0 h1 h2
    exact ⟨h0, h1, h2⟩
theorem TR_t {I : MI} (h : TRq I) {k : Int} (k0 : 0 ≤ k) (k1 : k < I 15 0) : I 82 (3 + 3 * k) = I (15 + 1) k ∧ I 82 (3 + 3 * k + 1) = I (15 + 2) k ∧ I 82 (3 + 3 * k + 2) = I (15 + 3) k := by
  rcases h.2 with h | ⟨-, -, -, -, -, h3, -⟩
  · omega
  · have := h3 k k0 k1
    rw [Int.zero_add, Int.zero_add, Int.zero_add] at this
    exact this
theorem TR_p {I : MI} (h : TRq I) {k : Int} (k0 : 0 ≤ k) (k1 : k < I 15 2) : I 82 (49 + 2 * k) = I (15 + 7) k ∧ I 82 (49 + 2 * k + 1) = I (15 + 8) k := by
  rcases h.2 with h | ⟨-, -, -, -, -, -, -, h3⟩
  · omega
  · have := h3 k k0 k1
    rw [Int.zero_add, Int.zero_add] at this
    exact this
theorem TR_F {I : MI} (h : TRq I) : rF I = fstI I 15 := by
  funext k
  have n := (TR_n h).1
  have n2 := h.1.1.1
  unfold rF fstI
  by_cases q : 0 ≤ k ∧ k < I 15 0
  · rw [if_pos (by omega), if_pos (by omega), atI_in (by omega)]
    exact (TR_t h q.1 q.2).1
  · rw [if_neg (by omega)]
    by_cases q2 : k < I 15 0
    · rw [if_pos q2]; unfold atI; rw [if_neg (by omega)]
    · rw [if_neg q2]
theorem TR_O {I : MI} (h : TRq I) : rO I = othI I 15 := by
  funext k
  have n := (TR_n h).1
  have n2 := h.1.1.1
  unfold rO othI
  by_cases q : 0 ≤ k ∧ k < I 15 0
  · rw [if_pos (by omega), if_pos (by omega), atI_in (by omega)]
    exact (TR_t h q.1 q.2).2.1
  · rw [if_neg (by omega)]
    by_cases q2 : k < I 15 0
    · rw [if_pos q2]; unfold atI; rw [if_neg (by omega)]
    · rw [if_neg q2]
theorem TR_B {I : MI} (h : TRq I) : RtB I := by
  have n := (TR_n h).1
  have n2 := h.1.1.1
  refine ⟨by omega, fun k k0 k1 => ?_⟩
  have e := TR_t h k0 (by omega)
  have w := h.1.2.1 k k0 (by omega)
  omega
/-- what the relation of the tongues reads -/
def RSm (I J : MI) : Prop := TSame I J 15 ∧ (∀ k, J 82 k = I 82 k) ∧ J 78 7 = I 78 7
theorem TR_f {I J : MI} (f : RSm I J) (h : TRq I) : TRq J := by
  obtain ⟨s, f1, f2⟩ := f
  refine ⟨WfT_same s h.1, ?_⟩
  have h2 := h.2
  unfold TRl at *
  simpa only [f1, f2, s 15 (by decide) (by decide), s (15 + 1) (by decide) (by decide), s (15 + 2) (by decide) (by decide), s (15 + 3) (by decide) (by decide), s (15 + 4) (by decide) (by decide), s (15 + 5) (by decide) (by decide), s (15 + 6) (by decide) (by decide), s (15 + 7) (by decide) (by decide), s (15 + 8) (by decide) (by decide)] using h2
theorem RSm_th (I : MI) (z : Int) : RSm I (up2 I 78 0 z) := ⟨fun o o1 o2 k => up2_ne (.inl (by omega)), fun k => up2_ne (.inl (by decide)), up2_ne (.inr (by decide))⟩
theorem RSm_st (I : MI) (z : Int) : RSm I (up2 I 78 1 z) := ⟨fun o o1 o2 k => up2_ne (.inl (by omega)), fun k => up2_ne (.inl (by decide)), up2_ne (.inr (by decide))⟩
theorem RSm_t {I J K : MI} (h : RSm I J) (g : RSm J K) : RSm I K := ⟨fun o o1 o2 k => (g.1 o o1 o2 k).trans (h.1 o o1 o2 k), fun k => (g.2.1 k).trans (h.2.1 k), g.2.2.trans h.2.2⟩
theorem RSm_86 {I J : MI} (h : ∀ o, o ≠ 86 → ∀ k, J o k = I o k) : RSm I J := ⟨fun o o1 o2 k => h o (by omega) k, h 82 (by decide), h 78 (by decide) 7⟩
/-- taken apart by both alike -/
abbrev tkc (I : MI) (v : Int) (k : Nat) : Int := tkC (fstI I 15) (othI I 15) v k
theorem TR_tk {I L I' L' : MI} {v : Int} (h : TRq I) (hq : rTkQ I L v I' L') : L' 78 20 = tkR (fstI I 15) (othI I 15) v 12 ∧ ∀ k : Nat, k < 12 → I' 86 k = tkC (fstI I 15) (othI I 15) v k := by
  have := hq.2.2
  rw [TR_F h, TR_O h] at this
  exact this
theorem TR_sb {I L I' L' : MI} {v : Int} (h : TRq I) (hq : rTkQ I L v I' L') (hv : 0 ≤ v) : StB I' := fun k hk => by
  have e : I' 86 k = tkC (fstI I 15) (othI I 15) v k := (TR_tk h hq).2 k hk
  have b := tkC_b (F := fstI I 15) (O := othI I 15) (v := v) hv k
  rw [e]
  omega
theorem TR_so {I L I' L' : MI} {v s : Int} (h : TRq I) (hq : rTkQ I L v I' L') : ∀ n : Nat, (n : Int) ≤ I 15 0 → rSoN (I' 82) (I' 86) s n = sortS (I (15 + 3)) (ctI (fstI I 15) (othI I 15) v) s n := by
  intro n
  have n2 := h.1.1.1
  induction n with
  | zero => intro _; rfl
  | succ n ih =>
    intro hn
    unfold rSoN sortS
    rw [ih (by omega), hq.1 82 (by decide), (TR_t h (k := (n : Int)) (by omega) (by omega)).2.2, (TR_tk h hq).2 n (by omega)]
    rfl
theorem TR_ci {I L I' L' : MI} {v : Int} (h : TRq I) (hq : rTkQ I L v I' L') {j : Int} (hj : 0 ≤ j ∧ j < 12) : I' 86 j = catI (ctI (fstI I 15) (othI I 15) v) 12 j := by
  have := (TR_tk h hq).2 j.toNat (by omega)
  rw [Int.toNat_of_nonneg hj.1] at this
  rw [this]
  unfold catI
  rw [if_pos (by omega)]
  rfl
theorem TR_G {I L I' L' : MI} {v : Int} (h : TRq I) (hq : rTkQ I L v I' L') (hv : 0 ≤ v) : rGd I' L' (I 15 0).toNat 5 (I' 82 2) ↔ GoodP I 15 v := by
  have n2 := h.1.1.1
  have e20 := (TR_tk h hq).1
  have sb := TR_sb h hq hv
  have so := fun s => TR_so (s := s) h hq (I 15 0).toNat (by omega)
  have e82 : ∀ k, I' 82 k = I 82 k := hq.1 82 (by decide)
  have e7 : I' 78 7 = I 78 7 := hq.1 78 (by decide) 7
  have w := h.1
  have nn := TR_n h
  have rel : ∀ s, 0 ≤ s → s < 5 → (rKp I' (I 15 0).toNat s ↔ ∀ r, 0 ≤ r → r < I 15 1 → I (15 + 4) r = s → I (15 + 5) r ≤ sortS (I (15 + 3)) (ctI (fstI I 15) (othI I 15) v) s (I 15 0).toNat ∧ sortS (I (15 + 3)) (ctI (fstI I 15) (othI I 15) v) s (I 15 0).toNat ≤ I (15 + 6) r) := by
    intro s s0 s1
    unfold rKp
    rw [so s, e82, e82, e7]
    rcases h.2 with h | ⟨h7, -, -, -, -, -, hr, -⟩
    · exact ⟨fun _ r r0 r1 => by omega, fun _ => .inl h.1⟩
    · have g := hr s s0 s1
      rw [Int.zero_add, Int.zero_add] at g
      rcases g with ⟨g1, g2⟩ | ⟨r, r0, r1, r2, r3, r4⟩
      · exact ⟨fun _ r r0 r1 rs => absurd rs (g2 r r0 r1), fun _ => .inr (.inl g1)⟩
      · have wr := w.2.2.1 r r0 r1
        rw [r3, r4]
        refine ⟨fun q r' a0 a1 as => ?_, fun q => .inr (.inr (q r r0 r1 r2))⟩
        have er : r' = r := by
          apply Classical.byContradiction
          intro ne
          rcases Int.lt_or_gt_of_ne ne with lt | lt
          · exact w.2.2.2.1 r' r a0 lt r1 (by rw [as, r2])
          · exact w.2.2.2.1 r r' r0 lt a1 (by rw [as, r2])
        subst er
        rcases q with q | q | q
        · omega
        · omega
        · exact q
  have relp : ∀ q, 0 ≤ q → q < I 15 2 → (rPp I' q ↔ ¬ (0 < catI (ctI (fstI I 15) (othI I 15) v) 12 (I (15 + 7) q) ∧ 0 < catI (ctI (fstI I 15) (othI I 15) v) 12 (I (15 + 8) q))) := by
    intro q q0 q1
    have wq := w.2.2.2.2 q q0 q1
    have ep := TR_p h q0 q1
    unfold rPp
    rw [e82, e82, ep.1, ep.2, ← TR_ci h hq (j := I (15 + 7) q) (by omega), ← TR_ci h hq (j := I (15 + 8) q) (by omega)]
    have b1 := sb (I (15 + 7) q).toNat (by omega)
    have b2 := sb (I (15 + 8) q).toNat (by omega)
    rw [Int.toNat_of_nonneg (by omega)] at b1 b2
    omega
  unfold rGd GoodP KRP KPP
  rw [e20, e82, nn.2.2]
  refine ⟨fun g => ⟨g.1, fun r r0 r1 => ?_, fun q q0 q1 => (relp q q0 q1).mp (g.2.2 q q0 q1)⟩, fun g => ⟨g.1, fun s s0 s1 => (rel s s0 s1).mpr fun r r0 r1 rs => ?_, fun q q0 q1 => (relp q q0 q1).mpr (g.2.2 q q0 q1)⟩⟩
  · have wr := w.2.2.1 r r0 r1
    exact (rel _ wr.1.1 (by omega)).mp (g.2.1 _ wr.1.1 (by omega)) r r0 r1 rfl
  · rw [← rs]
    exact g.2.1 r r0 r1
theorem c_X11_goodT {E : En} {I L I' L' : MI} {v : Int} (h : TRq I) (hq : rTkQ I L v I' L') (hv : 0 ≤ v) : CB E 2 M_X11_isGoodNow [vr 78] I' L' (GoodP I 15 v) I' L' := by
  have n2 := h.1.1.1
  have nn := TR_n h
  have p2 := h.1.1.2.2
  have e82 : ∀ k, I' 82 k = I 82 k := hq.1 82 (by decide)
  have := c_X11_isGoodNow (E := E) (I := I') (L := L') (n := (I 15 0).toNat) (by rw [e82]; omega) (by omega) (TR_sb h hq hv) (by rw [e82]; omega) (fun q q0 q1 => by
    rw [e82, nn.2.2] at q1
    have ep := TR_p h q0 q1
    have wq := h.1.2.2.2.2 q q0 q1
    rw [e82, e82, ep.1, ep.2]
    omega)
  rw [propext (TR_G h hq hv)] at this
  exact this
def rJgQ (I L : MI) (v : Int) : Int → MI → MI → Prop := fun z I' L' => (∀ o, o ≠ 86 → ∀ k, I' o k = I o k) ∧ (∀ o k, o ≠ 78 ∨ k ≠ 20 → L' o k = L o k) ∧ ((z = 1 ∧ GoodP I 15 v) ∨ (z = 0 ∧ ¬ GoodP I 15 v))
theorem c_X11_isGood {E : En} {I L : MI} {v : Int} (hv : 1 ≤ v ∧ v ≤ 1000000000000000) (h : TRq I) : CQi E 3 M_X11_isGood [vr 78, vl v] I L (rJgQ I L v) := by
  refine CM_of' (al := [vr _, vl _, vu]) rfl (Nat.le_of_ble_eq_true rfl) rfl (fun hM => ?_)
  refine (t57_X11_isGood_0 (t57_X11_isGood_1 (t57_X11_isGood_2 (by first | assumption | rfl) ((c_X11_take hv (TR_B h))) (by first | decide | omega) (fun I2 L2 q2 => ?_))))
  -- 1 leaves: :call2
  have gt := c_X11_goodT (E := E) h q2 (by omega)
  refine (t57_X11_isGood_5 (t57_X11_isGood_6 (by first | assumption | rfl) (gt) (by first | decide | omega) (fun c6 => (t57_X11_isGood_9 (by first | exact Or.inl rfl | exact Or.inr rfl | assumption | omega) ?_)) (fun c6 => (t57_X11_isGood_9 (by first | exact Or.inl rfl | exact Or.inr rfl | assumption | omega) ?_))))
  -- 2 leaves: 6T :ret9 | 6F :ret9
  · exact qqi ⟨q2.1, q2.2.1, .inl ⟨rfl, c6⟩⟩
  · exact qqi ⟨q2.1, q2.2.1, .inr ⟨rfl, c6⟩⟩
