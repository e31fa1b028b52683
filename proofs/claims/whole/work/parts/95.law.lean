theorem t95_L_law_18 {E : En} {d : Nat} {κ : Kp} {I L : MI} {Z : Zt} {a0 a1 a2 : Nat} {a3 : Int}  (k : Ev E d M_L_law 19 [vr a0, vr a1, vr a2, vi a3] [vi a3] κ I L Z) : Ev E d M_L_law 18 [vr a0, vr a1, vr a2, vi a3] [] κ I L Z := E_iload_n dL_law_18 rfl k
theorem t95_L_law_19 {E : En} {d : Nat} {κ : Kp} {I L : MI} {Z : Zt} {a0 a1 a2 : Nat} {a3 b0 : Int}  (k : Ev E d M_L_law 20 [vr a0, vr a1, vr a2, vi a3] [vr a0, vi b0] κ I L Z) : Ev E d M_L_law 19 [vr a0, vr a1, vr a2, vi a3] [vi b0] κ I L Z := E_aload_n dL_law_19 rfl k
theorem t95_L_law_20 {E : En} {d : Nat} {κ : Kp} {I L : MI} {Z : Zt} {a0 a1 a2 b0 : Nat} {a3 b1 : Int} {n kd : Nat} {z : Int} (ha : arr E κ.1 b0 = some (kd, n)) (hk : kd < 6) (hz : (n : Int) = z) (k : Ev E d M_L_law 21 [vr a0, vr a1, vr a2, vi a3] [vi z, vi b1] κ I L Z) : Ev E d M_L_law 20 [vr a0, vr a1, vr a2, vi a3] [vr b0, vi b1] κ I L Z := E_alen dL_law_20 ha hk hz k
theorem t95_L_law_21 {E : En} {d : Nat} {κ : Kp} {I L : MI} {Z : Zt} {a0 a1 a2 : Nat} {a3 b0 b1 : Int}  (k : Ev E d M_L_law 23 [vr a0, vr a1, vr a2, vi a3] [vi 6, vi b0, vi b1] κ I L Z) : Ev E d M_L_law 21 [vr a0, vr a1, vr a2, vi a3] [vi b0, vi b1] κ I L Z := E_bipush (v := 6) dL_law_21 rfl k
theorem t95_L_law_23 {E : En} {d : Nat} {κ : Kp} {I L : MI} {Z : Zt} {a0 a1 a2 : Nat} {a3 b0 b1 b2 : Int}  (k : Ev E d M_L_law 24 [vr a0, vr a1, vr a2, vi a3] [vi (b1 - b0), vi b2] κ I L Z) : Ev E d M_L_law 23 [vr a0, vr a1, vr a2, vi a3] [vi b0, vi b1, vi b2] κ I L Z := E_isub dL_law_23 k
theorem t95_L_law_24 {E : En} {d : Nat} {κ : Kp} {I L : MI} {Z : Zt} {a0 a1 a2 : Nat} {a3 b0 b1 : Int} (hx : Ir b1) (hy : Ir b0) (kt : b0 < b1 → Ev E d M_L_law 1059 [vr a0, vr a1, vr a2, vi a3] [] κ I L Z) (kf : b1 ≤ b0 → Ev E d M_L_law 27 [vr a0, vr a1, vr a2, vi a3] [] κ I L Z) : Ev E d M_L_law 24 [vr a0, vr a1, vr a2, vi a3] [vi b0, vi b1] κ I L Z := E_icmp_gt dL_law_24 hx hy kt kf (by decide)
theorem t95_L_law_1059 {E : En} {d : Nat} {κ : Kp} {I L : MI} {Z : Zt} {a0 a1 a2 : Nat} {a3 : Int}  (k : Ev E d M_L_law 1060 [vr a0, vr a1, vr a2, vi a3] [vi 1] κ I L Z) : Ev E d M_L_law 1059 [vr a0, vr a1, vr a2, vi a3] [] κ I L Z := E_iconst (v := 1) dL_law_1059 rfl k
theorem t95_L_law_27 {E : En} {d : Nat} {κ : Kp} {I L : MI} {Z : Zt} {a0 a1 a2 : Nat} {a3 : Int}  (k : Ev E d M_L_law 28 [vr a0, vr a1, vr a2, vi a3] [vr a0] κ I L Z) : Ev E d M_L_law 27 [vr a0, vr a1, vr a2, vi a3] [] κ I L Z := E_aload_n dL_law_27 rfl k
theorem t95_L_law_28 {E : En} {d : Nat} {κ : Kp} {I L : MI} {Z : Zt} {a0 a1 a2 b0 : Nat} {a3 : Int}  (k : Ev E d M_L_law 29 [vr a0, vr a1, vr a2, vi a3] [vi a3, vr b0] κ I L Z) : Ev E d M_L_law 28 [vr a0, vr a1, vr a2, vi a3] [vr b0] κ I L Z := E_iload_n dL_law_28 rfl k
theorem t95_L_law_29 {E : En} {d : Nat} {κ : Kp} {I L : MI} {Z : Zt} {a0 a1 a2 b1 : Nat} {a3 b0 : Int} {n : Nat} (ha : arr E κ.1 b1 = some (0, n)) (h0 : 0 ≤ b0) (h1 : b0 < n) (hi : Ir b0) (k : Ir (rdI E I b1 b0) → Ev E d M_L_law 30 [vr a0, vr a1, vr a2, vi a3] [vi (rdI E I b1 b0)] κ I L Z) : Ev E d M_L_law 29 [vr a0, vr a1, vr a2, vi a3] [vi b0, vr b1] κ I L Z := E_iald dL_law_29 ha h0 h1 hi k
theorem t95_L_law_30 {E : En} {d : Nat} {κ : Kp} {I L : MI} {Z : Zt} {a0 a1 a2 : Nat} {a3 b0 : Int}  (k : Ev E d M_L_law 32 [vr a0, vr a1, vr a2, vi a3] [vi 31, vi b0] κ I L Z) : Ev E d M_L_law 30 [vr a0, vr a1, vr a2, vi a3] [vi b0] κ I L Z := E_bipush (v := 31) dL_law_30 rfl k
theorem t95_L_law_32 {E : En} {d : Nat} {κ : Kp} {I L : MI} {Z : Zt} {a0 a1 a2 : Nat} {a3 b0 b1 : Int} {z : Int} (hz : Int32.ofInt b1 &&& Int32.ofInt b0 = Int32.ofInt z) (k : Ev E d M_L_law 33 [vr a0, vr a1, vr a2, vi a3] [vi z] κ I L Z) : Ev E d M_L_law 32 [vr a0, vr a1, vr a2, vi a3] [vi b0, vi b1] κ I L Z := E_iand dL_law_32 hz k
theorem t95_L_law_1053 {E : En} {d : Nat} {κ : Kp} {I L : MI} {Z : Zt} {a0 a1 a2 : Nat} {a3 : Int}  (k : Ev E d M_L_law 1056 [vr a0, vr a1, vr a2, vi (a3 + 6)] [] κ I L Z) : Ev E d M_L_law 1053 [vr a0, vr a1, vr a2, vi a3] [] κ I L Z := E_iinc dL_law_1053 rfl rfl (Nat.le_of_ble_eq_true rfl) k
theorem t95_L_law_1056 {E : En} {d : Nat} {κ : Kp} {I L : MI} {Z : Zt} {a0 a1 a2 : Nat} {a3 : Int}  (k : Ev E d M_L_law 18 [vr a0, vr a1, vr a2, vi a3] [] κ I L Z) : Ev E d M_L_law 1056 [vr a0, vr a1, vr a2, vi a3] [] κ I L Z := E_goto dL_law_1056 (by decide) k
/-! the law's loop -/
theorem W_imp {p : Program} {l : Launch} {e : Env} {R : Room} {s : State} {m : MethodId} {args : Array Value} {below : List Frame} {meth : Method} {c : Code} {H : Heap} {locs : List Loc} {cells slots : Nat} {Q Q2 : State → Prop} {g : JFrame} (f : ∀ t, Q t → Q2 t) (h : W p l e R s m args below meth c H locs cells slots Q g) : W p l e R s m args below meth c H locs cells slots Q2 g := fun T hT X => by
  obtain ⟨t, a, b⟩ := h T hT X
  exact ⟨t, a, f t b⟩
def ZL (E : En) : Zt := fun below args s t => s.heap.size = EB E → lw_Z below args s t
theorem E_lret {E : En} {d : Nat} {pc : Nat} {al : List AV} {g : Geo} {cs : Nat × Nat} {I L : MI} (hd : decode cL_law pc = .ok (.ireturn, 1)) (h1 : cs.1 ≤ 600000) (h2 : cs.2 ≤ 7302250) : Ev E d M_L_law pc al [vi 1] (g, cs) I L (ZL E) := by
  intro R p e s m args below meth c H locs ls hR hC hX hW hS hL
  by_cases hz : s.heap.size = EB E
  · refine va_forget (fun q hq => by have := hS.2.2 q hq; rw [hz]; exact this) ?_
    refine W.widen h1 h2 ?_
    refine W_imp (Q := MQ below (fun _ _ o _ => o = .returned (some (.int 1))) args s 600000 7302250 (fun _ => False)) (fun t ht _ => ?_) (W.zret hC.1 hC.2.1 hC.2.2.2.2.2.1 rfl (fun t _ _ => rfl) (fun q hq => by cases hq) hd hC.2.2.2.2.2.2.1)
    obtain ⟨o, a1, a2, rfl, L', hf, hl⟩ := ht
    have e : L' = [] := by
      cases L' with
      | nil => rfl
      | cons q r => exact (hl q List.mem_cons_self).elim
    subst e
    exact ⟨_, a1, a2, rfl, hf⟩
  · refine W.widen h1 h2 ?_
    exact W_imp (fun t _ h => absurd h hz) (W.zret (Qc := fun _ _ _ _ => True) (free := EF E) hC.1 hC.2.1 hC.2.2.2.2.2.1 rfl (fun _ _ _ => trivial) hS.2.2 hd hC.2.2.2.2.2.2.1)
theorem ir32 (x : Int32) : Ir x.toInt := ⟨Int32.le_toInt x, Int32.toInt_le x⟩
set_option maxHeartbeats 8000000 in
theorem law_at {E : En} {d : Nat} {i w : Int} {I L : MI} {Z : Zt} (hd : 24 ≤ d) (hN : EN E ≤ 3072) (h : Inv I L) (i0 : 0 ≤ i) (i1 : i + 6 ≤ EN E) (hw : Ir w) (k : ∀ I2 L2 : MI, Inv I2 L2 → Ev E d M_L_law 1053 [vr 1000, vr 0, vr 78, vi i] [] (G0, 94, 4362) I2 L2 Z) : Ev E d M_L_law 33 [vr 1000, vr 0, vr 78, vi i] [vi w] (G0, 94, 4362) I L Z := by
  by_cases ho : w < 0 ∨ 25 < w
  · exact E_tswO dL_law_33 hw ho (by decide) (k I L h)
  have hc : w = 0 ∨ w = 1 ∨ w = 2 ∨ w = 3 ∨ w = 4 ∨ w = 5 ∨ w = 6 ∨ w = 7 ∨ w = 8 ∨ w = 9 ∨ w = 10 ∨ w = 11 ∨ w = 12 ∨ w = 13 ∨ w = 14 ∨ w = 15 ∨ w = 16 ∨ w = 17 ∨ w = 18 ∨ w = 19 ∨ w = 20 ∨ w = 21 ∨ w = 22 ∨ w = 23 ∨ w = 24 ∨ w = 25 := by omega
  rcases hc with rfl | rfl | rfl | rfl | rfl | rfl | rfl | rfl | rfl | rfl | rfl | rfl | rfl | rfl | rfl | rfl | rfl | rfl | rfl | rfl | rfl | rfl | rfl | rfl | rfl | rfl
  · exact E_tswI dL_law_33 (by decide) (by decide) (by decide) (off := 119) (by decide) (by decide) (law_row hd hN h i0 i1 k)
  · exact E_tswI dL_law_33 (by decide) (by decide) (by decide) (off := 163) (by decide) (by decide) (law_set hd hN h i0 i1 k)
  · exact E_tswI dL_law_33 (by decide) (by decide) (by decide) (off := 207) (by decide) (by decide) (law_copy hd hN h i0 i1 k)
  · exact E_tswI dL_law_33 (by decide) (by decide) (by decide) (off := 271) (by decide) (by decide) (law_drop hd hN h i0 i1 k)
  · exact E_tswI dL_law_33 (by decide) (by decide) (by decide) (off := 295) (by decide) (by decide) (law_feed hd hN h i0 i1 k)
  · exact E_tswI dL_law_33 (by decide) (by decide) (by decide) (off := 359) (by decide) (by decide) (law_tongue hd hN h i0 i1 k)
  · exact E_tswI dL_law_33 (by decide) (by decide) (by decide) (off := 373) (by decide) (by decide) (law_fault hd hN h i0 i1 k)
  · exact E_tswI dL_law_33 (by decide) (by decide) (by decide) (off := 386) (by decide) (by decide) (law_put hd hN h i0 i1 k)
  · exact E_tswI dL_law_33 (by decide) (by decide) (by decide) (off := 450) (by decide) (by decide) (law_say hd hN h i0 i1 k)
  · exact E_tswI dL_law_33 (by decide) (by decide) (by decide) (off := 504) (by decide) (by decide) (law_said hd hN h i0 i1 k)
  · exact E_tswI dL_law_33 (by decide) (by decide) (by decide) (off := 528) (by decide) (by decide) (law_apart hd hN h i0 i1 k)
  · exact E_tswI dL_law_33 (by decide) (by decide) (by decide) (off := 562) (by decide) (by decide) (law_both hd hN h i0 i1 k)
  · exact E_tswI dL_law_33 (by decide) (by decide) (by decide) (off := 606) (by decide) (by decide) (law_heard hd hN h i0 i1 k)
  · exact E_tswI dL_law_33 (by decide) (by decide) (by decide) (off := 640) (by decide) (by decide) (law_dealt hd hN h i0 i1 k)
  · exact E_tswI dL_law_33 (by decide) (by decide) (by decide) (off := 694) (by decide) (by decide) (law_secret hd hN h i0 i1 k)
  · exact E_tswI dL_law_33 (by decide) (by decide) (by decide) (off := 728) (by decide) (by decide) (law_signed hd hN h i0 i1 k)
  · exact E_tswI dL_law_33 (by decide) (by decide) (by decide) (off := 762) (by decide) (by decide) (law_plus hd hN h i0 i1 k)
  · exact E_tswI dL_law_33 (by decide) (by decide) (by decide) (off := 796) (by decide) (by decide) (law_same hd hN h i0 i1 k)
  · exact E_tswI dL_law_33 (by decide) (by decide) (by decide) (off := 820) (by decide) (by decide) (law_image hd hN h i0 i1 k)
  · exact E_tswI dL_law_33 (by decide) (by decide) (by decide) (off := 844) (by decide) (by decide) (law_restore hd hN h i0 i1 k)
  · exact E_tswI dL_law_33 (by decide) (by decide) (by decide) (off := 868) (by decide) (by decide) (law_kind hd hN h i0 i1 k)
  · exact E_tswI dL_law_33 (by decide) (by decide) (by decide) (off := 892) (by decide) (by decide) (law_as hd hN h i0 i1 k)
  · exact E_tswI dL_law_33 (by decide) (by decide) (by decide) (off := 926) (by decide) (by decide) (law_ask hd hN h i0 i1 k)
  · exact E_tswI dL_law_33 (by decide) (by decide) (by decide) (off := 960) (by decide) (by decide) (law_trace hd hN h i0 i1 k)
  · exact E_tswI dL_law_33 (by decide) (by decide) (by decide) (off := 983) (by decide) (by decide) (law_count hd hN h i0 i1 k)
  · exact E_tswI dL_law_33 (by decide) (by decide) (by decide) (off := 1007) (by decide) (by decide) (law_status hd hN h i0 i1 k)
set_option maxHeartbeats 8000000 in
theorem law_loop {E : En} {d : Nat} (hd : 24 ≤ d) (hN : EN E ≤ 3072) : ∀ (f : Nat) (i : Int) (I L : MI), Inv I L → 0 ≤ i → i ≤ EN E → (EN E : Int) - i < f → Ev E d M_L_law 18 [vr 1000, vr 0, vr 78, vi i] [] (G0, 94, 4362) I L (ZL E) := by
  have hA : arr E G0 1000 = some (0, EN E) := rfl
  intro f
  induction f with
  | zero => intro i I L h i0 i1 hf; omega
  | succ f ih =>
    intro i I L h i0 i1 hf
    refine (t95_L_law_18 (t95_L_law_19 (t95_L_law_20 (by first | assumption | rfl) (by decide) rfl (t95_L_law_21 (t95_L_law_23 (t95_L_law_24 (by omega) (by omega) (fun c24 => (t95_L_law_1059 ?_)) (fun c24 => (t95_L_law_27 (t95_L_law_28 (t95_L_law_29 (by first | assumption | rfl) (by omega) (by omega) (by omega) (fun r29 => (t95_L_law_30 (t95_L_law_32 (Int32.ofInt_toInt _).symm ?_)))))))))))))
    -- 2 leaves: 24t :->1060 | 24f :->33
    · exact E_lret dL_law_1060 (by decide) (by decide)
    · refine law_at hd hN h i0 (by omega) (ir32 _) (fun I2 L2 h2 => ?_)
      refine (t95_L_law_1053 (t95_L_law_1056 ?_))
      -- 1 leaves: :->18
      exact ih _ _ _ h2 (by omega) (by omega) (by omega)
theorem law_all {E : En} {d : Nat} (hd : 24 ≤ d) (hN : EN E ≤ 3072) : Ev E d M_L_law 0 [vr 1000, vu, vu, vu] [] (Gm 0 0, 0, 0) (ML 0) Z0 (ZL E) := by
  refine law_made (by omega) ?_
  refine Ev.geo (g' := G0) (List.take_of_length_le (by decide)) Gm_end ?_
  refine E_iconst (v := 0) dL_law_16 rfl ?_
  refine E_istore_n (al' := [vr 1000, vr 0, vr 78, vi 0]) dL_law_17 rfl (Nat.le_of_ble_eq_true rfl) ?_
  exact law_loop hd hN (EN E + 1) 0 _ _ Inv_0 (by omega) (by omega) (by omega)
