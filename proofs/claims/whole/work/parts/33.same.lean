theorem t33_X10_rowsThere_4 {E : En} {d : Nat} {κ : Kp} {I L : MI} {Z : Zt} {a0 : Nat} {a1 a2 : Int}  (k : Ev E d M_X10_rowsThere 5 [vr a0, vi a1, vi a2, vu] [vi a2] κ I L Z) : Ev E d M_X10_rowsThere 4 [vr a0, vi a1, vi a2, vu] [] κ I L Z := E_iload_n dX10_rowsThere_4 rfl k
theorem t33_X10_rowsThere_5 {E : En} {d : Nat} {κ : Kp} {I L : MI} {Z : Zt} {a0 : Nat} {a1 a2 b0 : Int}  (k : Ev E d M_X10_rowsThere 6 [vr a0, vi a1, vi a2, vu] [vr a0, vi b0] κ I L Z) : Ev E d M_X10_rowsThere 5 [vr a0, vi a1, vi a2, vu] [vi b0] κ I L Z := E_aload_n dX10_rowsThere_5 rfl k
theorem t33_X10_rowsThere_6 {E : En} {d : Nat} {κ : Kp} {I L : MI} {Z : Zt} {a0 b0 : Nat} {a1 a2 b1 : Int} {q : Nat} (hs : κ.1.1[b0]? = some (.inl 10)) (hq : κ.1.2 b0 0 = some q) (k : Ev E d M_X10_rowsThere 9 [vr a0, vi a1, vi a2, vu] [vr q, vi b1] κ I L Z) : Ev E d M_X10_rowsThere 6 [vr a0, vi a1, vi a2, vu] [vr b0, vi b1] κ I L Z := E_getR (ci := 10) (n := 0) dX10_rowsThere_6 wF_RX10_11 (by decide) hs rfl hq k
theorem t33_X10_rowsThere_9 {E : En} {d : Nat} {κ : Kp} {I L : MI} {Z : Zt} {a0 b0 : Nat} {a1 a2 b1 : Int} {n kd : Nat} {z : Int} (ha : arr E κ.1 b0 = some (kd, n)) (hk : kd < 6) (hz : (n : Int) = z) (k : Ev E d M_X10_rowsThere 10 [vr a0, vi a1, vi a2, vu] [vi z, vi b1] κ I L Z) : Ev E d M_X10_rowsThere 9 [vr a0, vi a1, vi a2, vu] [vr b0, vi b1] κ I L Z := E_alen dX10_rowsThere_9 ha hk hz k
theorem t33_X10_rowsThere_10 {E : En} {d : Nat} {κ : Kp} {I L : MI} {Z : Zt} {a0 : Nat} {a1 a2 b0 b1 : Int} (hx : Ir b1) (hy : Ir b0) (kt : b0 ≤ b1 → Ev E d M_X10_rowsThere 40 [vr a0, vi a1, vi a2, vu] [] κ I L Z) (kf : b1 < b0 → Ev E d M_X10_rowsThere 13 [vr a0, vi a1, vi a2, vu] [] κ I L Z) : Ev E d M_X10_rowsThere 10 [vr a0, vi a1, vi a2, vu] [vi b0, vi b1] κ I L Z := E_icmp_ge dX10_rowsThere_10 hx hy kt kf (by decide)
theorem t33_X10_rowsThere_40 {E : En} {d : Nat} {κ : Kp} {I L : MI} {Z : Zt} {a0 : Nat} {a1 a2 : Int}  (k : Ev E d M_X10_rowsThere 41 [vr a0, vi a1, vi a2, vu] [vi a1] κ I L Z) : Ev E d M_X10_rowsThere 40 [vr a0, vi a1, vi a2, vu] [] κ I L Z := E_iload_n dX10_rowsThere_40 rfl k
theorem t33_X10_rowsThere_41 {E : En} {d : Nat} {g : Geo} {I L : MI} {Q : Option AV → Geo → MI → MI → Prop} {cs : Nat × Nat} {a0 : Nat} {a1 a2 b0 : Int} (hq : Q (some (vi b0)) g I L) (h1 : cs.1 ≤ M_X10_rowsThere.2.2.2.2.1 := by decide) (h2 : cs.2 ≤ M_X10_rowsThere.2.2.2.2.2 := by decide) : Ev E d M_X10_rowsThere 41 [vr a0, vi a1, vi a2, vu] [vi b0] (g, cs) I L (ZQ E M_X10_rowsThere Q) := E_ireturn rfl dX10_rowsThere_41 hq h1 h2
theorem t33_X10_rowsThere_13 {E : En} {d : Nat} {κ : Kp} {I L : MI} {Z : Zt} {a0 : Nat} {a1 a2 : Int}  (k : Ev E d M_X10_rowsThere 14 [vr a0, vi a1, vi a2, vu] [vr a0] κ I L Z) : Ev E d M_X10_rowsThere 13 [vr a0, vi a1, vi a2, vu] [] κ I L Z := E_aload_n dX10_rowsThere_13 rfl k
theorem t33_X10_rowsThere_14 {E : En} {d : Nat} {κ : Kp} {I L : MI} {Z : Zt} {a0 b0 : Nat} {a1 a2 : Int} {q : Nat} (hs : κ.1.1[b0]? = some (.inl 10)) (hq : κ.1.2 b0 0 = some q) (k : Ev E d M_X10_rowsThere 17 [vr a0, vi a1, vi a2, vu] [vr q] κ I L Z) : Ev E d M_X10_rowsThere 14 [vr a0, vi a1, vi a2, vu] [vr b0] κ I L Z := E_getR (ci := 10) (n := 0) dX10_rowsThere_14 wF_RX10_11 (by decide) hs rfl hq k
theorem t33_X10_rowsThere_17 {E : En} {d : Nat} {κ : Kp} {I L : MI} {Z : Zt} {a0 b0 : Nat} {a1 a2 : Int}  (k : Ev E d M_X10_rowsThere 18 [vr a0, vi a1, vi a2, vu] [vi a2, vr b0] κ I L Z) : Ev E d M_X10_rowsThere 17 [vr a0, vi a1, vi a2, vu] [vr b0] κ I L Z := E_iload_n dX10_rowsThere_17 rfl k
theorem t33_X10_rowsThere_18 {E : En} {d : Nat} {κ : Kp} {I L : MI} {Z : Zt} {a0 b1 : Nat} {a1 a2 b0 : Int} {n q : Nat} (ha : arr E κ.1 b1 = some (4, n)) (h0 : 0 ≤ b0) (h1 : b0 < n) (hi : Ir b0) (hq : κ.1.2 b1 b0 = some q) (k : Ev E d M_X10_rowsThere 19 [vr a0, vi a1, vi a2, vu] [vr q] κ I L Z) : Ev E d M_X10_rowsThere 18 [vr a0, vi a1, vi a2, vu] [vi b0, vr b1] κ I L Z := E_aald (kd := 0) dX10_rowsThere_18 ha (by decide) h0 h1 hi hq k
theorem t33_X10_rowsThere_19 {E : En} {d : Nat} {κ : Kp} {I L : MI} {Z : Zt} {a0 b0 : Nat} {a1 a2 : Int}  (k : Ev E d M_X10_rowsThere 20 [vr a0, vi a1, vi a2, vr b0] [] κ I L Z) : Ev E d M_X10_rowsThere 19 [vr a0, vi a1, vi a2, vu] [vr b0] κ I L Z := E_astore_n dX10_rowsThere_19 rfl (Nat.le_of_ble_eq_true rfl) k
theorem t33_X10_rowsThere_20 {E : En} {d : Nat} {κ : Kp} {I L : MI} {Z : Zt} {a0 a3 : Nat} {a1 a2 : Int}  (k : Ev E d M_X10_rowsThere 21 [vr a0, vi a1, vi a2, vr a3] [vr a3] κ I L Z) : Ev E d M_X10_rowsThere 20 [vr a0, vi a1, vi a2, vr a3] [] κ I L Z := E_aload_n dX10_rowsThere_20 rfl k
theorem t33_X10_rowsThere_21 {E : En} {d : Nat} {κ : Kp} {I L : MI} {Z : Zt} {a0 a3 b0 : Nat} {a1 a2 : Int}  (k : Ev E d M_X10_rowsThere 24 [vr a0, vi a1, vi a2, vr a3] [] κ I L Z) : Ev E d M_X10_rowsThere 21 [vr a0, vi a1, vi a2, vr a3] [vr b0] κ I L Z := E_ifnull dX10_rowsThere_21 k
theorem t33_X10_rowsThere_24 {E : En} {d : Nat} {κ : Kp} {I L : MI} {Z : Zt} {a0 a3 : Nat} {a1 a2 : Int}  (k : Ev E d M_X10_rowsThere 25 [vr a0, vi a1, vi a2, vr a3] [vr a3] κ I L Z) : Ev E d M_X10_rowsThere 24 [vr a0, vi a1, vi a2, vr a3] [] κ I L Z := E_aload_n dX10_rowsThere_24 rfl k
theorem t33_X10_rowsThere_25 {E : En} {d : Nat} {κ : Kp} {I L : MI} {Z : Zt} {a0 a3 b0 : Nat} {a1 a2 : Int} (hs : κ.1.1[b0]? = some (.inl 6)) (k : Ir (I b0 0) → Ev E d M_X10_rowsThere 28 [vr a0, vi a1, vi a2, vr a3] [vi (I b0 0)] κ I L Z) : Ev E d M_X10_rowsThere 25 [vr a0, vi a1, vi a2, vr a3] [vr b0] κ I L Z := E_getI (ci := 6) (n := 0) dX10_rowsThere_25 wF_RX10_103 (by decide) hs rfl k
theorem t33_X10_rowsThere_28 {E : En} {d : Nat} {κ : Kp} {I L : MI} {Z : Zt} {a0 a3 : Nat} {a1 a2 b0 : Int} (hx : Ir b0) (kt : b0 = 0 → Ev E d M_X10_rowsThere 34 [vr a0, vi a1, vi a2, vr a3] [] κ I L Z) (kf : ¬ b0 = 0 → Ev E d M_X10_rowsThere 31 [vr a0, vi a1, vi a2, vr a3] [] κ I L Z) : Ev E d M_X10_rowsThere 28 [vr a0, vi a1, vi a2, vr a3] [vi b0] κ I L Z := E_if_eq dX10_rowsThere_28 hx kt kf (by decide)
theorem t33_X10_rowsThere_34 {E : En} {d : Nat} {κ : Kp} {I L : MI} {Z : Zt} {a0 a3 : Nat} {a1 a2 : Int}  (k : Ev E d M_X10_rowsThere 37 [vr a0, vi a1, vi (a2 + 1), vr a3] [] κ I L Z) : Ev E d M_X10_rowsThere 34 [vr a0, vi a1, vi a2, vr a3] [] κ I L Z := E_iinc dX10_rowsThere_34 rfl rfl (Nat.le_of_ble_eq_true rfl) k
theorem t33_X10_rowsThere_37 {E : En} {d : Nat} {κ : Kp} {I L : MI} {Z : Zt} {a0 a3 : Nat} {a1 a2 : Int}  (k : Ev E d M_X10_rowsThere 4 [vr a0, vi a1, vi a2, vr a3] [] κ I L Z) : Ev E d M_X10_rowsThere 37 [vr a0, vi a1, vi a2, vr a3] [] κ I L Z := E_goto dX10_rowsThere_37 (by decide) k
theorem t33_X10_rowsThere_31 {E : En} {d : Nat} {κ : Kp} {I L : MI} {Z : Zt} {a0 a3 : Nat} {a1 a2 : Int}  (k : Ev E d M_X10_rowsThere 34 [vr a0, vi (a1 + 1), vi a2, vr a3] [] κ I L Z) : Ev E d M_X10_rowsThere 31 [vr a0, vi a1, vi a2, vr a3] [] κ I L Z := E_iinc dX10_rowsThere_31 rfl rfl (Nat.le_of_ble_eq_true rfl) k
theorem t33_X10_rowsThere_0 {E : En} {d : Nat} {κ : Kp} {I L : MI} {Z : Zt} {a0 : Nat}  (k : Ev E d M_X10_rowsThere 1 [vr a0, vu, vu, vu] [vi 0] κ I L Z) : Ev E d M_X10_rowsThere 0 [vr a0, vu, vu, vu] [] κ I L Z := E_iconst (v := 0) dX10_rowsThere_0 rfl k
theorem t33_X10_rowsThere_1 {E : En} {d : Nat} {κ : Kp} {I L : MI} {Z : Zt} {a0 : Nat} {b0 : Int}  (k : Ev E d M_X10_rowsThere 2 [vr a0, vi b0, vu, vu] [] κ I L Z) : Ev E d M_X10_rowsThere 1 [vr a0, vu, vu, vu] [vi b0] κ I L Z := E_istore_n dX10_rowsThere_1 rfl (Nat.le_of_ble_eq_true rfl) k
theorem t33_X10_rowsThere_2 {E : En} {d : Nat} {κ : Kp} {I L : MI} {Z : Zt} {a0 : Nat} {a1 : Int}  (k : Ev E d M_X10_rowsThere 3 [vr a0, vi a1, vu, vu] [vi 0] κ I L Z) : Ev E d M_X10_rowsThere 2 [vr a0, vi a1, vu, vu] [] κ I L Z := E_iconst (v := 0) dX10_rowsThere_2 rfl k
theorem t33_X10_rowsThere_3 {E : En} {d : Nat} {κ : Kp} {I L : MI} {Z : Zt} {a0 : Nat} {a1 b0 : Int}  (k : Ev E d M_X10_rowsThere 4 [vr a0, vi a1, vi b0, vu] [] κ I L Z) : Ev E d M_X10_rowsThere 3 [vr a0, vi a1, vu, vu] [vi b0] κ I L Z := E_istore_n dX10_rowsThere_3 rfl (Nat.le_of_ble_eq_true rfl) k
theorem t33_X10_leastOfSameMeaning_21 {E : En} {d : Nat} {κ : Kp} {I L : MI} {Z : Zt} {a0 : Nat} {a1 a3 a4 : Int}  (k : Ev E d M_X10_leastOfSameMeaning 23 [vr a0, vl a1, vu, vi a3, vi a4] [vi a4] κ I L Z) : Ev E d M_X10_leastOfSameMeaning 21 [vr a0, vl a1, vu, vi a3, vi a4] [] κ I L Z := E_iload dX10_leastOfSameMeaning_21 rfl k
theorem t33_X10_leastOfSameMeaning_23 {E : En} {d : Nat} {κ : Kp} {I L : MI} {Z : Zt} {a0 : Nat} {a1 a3 a4 b0 : Int}  (k : Ev E d M_X10_leastOfSameMeaning 24 [vr a0, vl a1, vu, vi a3, vi a4] [vr a0, vi b0] κ I L Z) : Ev E d M_X10_leastOfSameMeaning 23 [vr a0, vl a1, vu, vi a3, vi a4] [vi b0] κ I L Z := E_aload_n dX10_leastOfSameMeaning_23 rfl k
theorem t33_X10_leastOfSameMeaning_24 {E : En} {d : Nat} {κ : Kp} {I L : MI} {Z : Zt} {a0 b0 : Nat} {a1 a3 a4 b1 : Int} {q : Nat} (hs : κ.1.1[b0]? = some (.inl 10)) (hq : κ.1.2 b0 6 = some q) (k : Ev E d M_X10_leastOfSameMeaning 27 [vr a0, vl a1, vu, vi a3, vi a4] [vr q, vi b1] κ I L Z) : Ev E d M_X10_leastOfSameMeaning 24 [vr a0, vl a1, vu, vi a3, vi a4] [vr b0, vi b1] κ I L Z := E_getR (ci := 10) (n := 6) dX10_leastOfSameMeaning_24 wF_RX10_52 (by decide) hs rfl hq k
theorem t33_X10_leastOfSameMeaning_27 {E : En} {d : Nat} {κ : Kp} {I L : MI} {Z : Zt} {a0 b0 : Nat} {a1 a3 a4 b1 : Int} {q : Nat} (hs : κ.1.1[b0]? = some (.inl 3)) (hq : κ.1.2 b0 0 = some q) (k : Ev E d M_X10_leastOfSameMeaning 30 [vr a0, vl a1, vu, vi a3, vi a4] [vr q, vi b1] κ I L Z) : Ev E d M_X10_leastOfSameMeaning 27 [vr a0, vl a1, vu, vi a3, vi a4] [vr b0, vi b1] κ I L Z := E_getR (ci := 3) (n := 0) dX10_leastOfSameMeaning_27 wF_RX10_205 (by decide) hs rfl hq k
theorem t33_X10_leastOfSameMeaning_30 {E : En} {d : Nat} {κ : Kp} {I L : MI} {Z : Zt} {a0 b0 : Nat} {a1 a3 a4 b1 : Int}  (k : Ev E d M_X10_leastOfSameMeaning 31 [vr a0, vl a1, vu, vi a3, vi a4] [vi a3, vr b0, vi b1] κ I L Z) : Ev E d M_X10_leastOfSameMeaning 30 [vr a0, vl a1, vu, vi a3, vi a4] [vr b0, vi b1] κ I L Z := E_iload_n dX10_leastOfSameMeaning_30 rfl k
theorem t33_X10_leastOfSameMeaning_31 {E : En} {d d' : Nat} {cs : Nat × Nat} {I L : MI} {Z : Zt} {a0 b1 : Nat} {a1 a3 a4 b0 b2 : Int} {z : Int} {I' L' : MI} (hM : CFi E d' M_X10_at [vr b1, vi b0] I L z I' L') (hlt : d' + 1 ≤ d) (k : Ir z → Ev E d M_X10_leastOfSameMeaning 34 [vr a0, vl a1, vu, vi a3, vi a4] [vi z, vi b2] (G0, cs) I' L' Z) (hc1 : cs.1 ≤ M_X10_leastOfSameMeaning.2.2.2.2.1 := by decide) (hc2 : cs.2 ≤ M_X10_leastOfSameMeaning.2.2.2.2.2 := by decide) : Ev E d M_X10_leastOfSameMeaning 31 [vr a0, vl a1, vu, vi a3, vi a4] [vi b0, vr b1, vi b2] (G0, cs) I L Z := E_callS (as := [vr b1, vi b0]) (rest := [vi b2]) (n := 2) hM dX10_leastOfSameMeaning_31 wM_RX10_208 wS_X10_at hlt wC_X10_at wI_X10 (by decide +kernel) rfl (by decide) (Nat.le_of_ble_eq_true rfl) hc1 hc2 rfl (fun r g' I2 L2 h => by obtain ⟨rfl, z, rfl, hr, rfl, rfl, rfl⟩ := h; exact k hr)
theorem t33_X10_leastOfSameMeaning_34 {E : En} {d : Nat} {κ : Kp} {I L : MI} {Z : Zt} {a0 : Nat} {a1 a3 a4 b0 b1 : Int} (hx : Ir b1) (hy : Ir b0) (kt : b0 ≤ b1 → Ev E d M_X10_leastOfSameMeaning 58 [vr a0, vl a1, vu, vi a3, vi a4] [] κ I L Z) (kf : b1 < b0 → Ev E d M_X10_leastOfSameMeaning 37 [vr a0, vl a1, vu, vi a3, vi a4] [] κ I L Z) : Ev E d M_X10_leastOfSameMeaning 34 [vr a0, vl a1, vu, vi a3, vi a4] [vi b0, vi b1] κ I L Z := E_icmp_ge dX10_leastOfSameMeaning_34 hx hy kt kf (by decide)
theorem t33_X10_leastOfSameMeaning_58 {E : En} {d : Nat} {κ : Kp} {I L : MI} {Z : Zt} {a0 : Nat} {a1 a3 a4 : Int}  (k : Ev E d M_X10_leastOfSameMeaning 61 [vr a0, vl a1, vu, vi (a3 + 1), vi a4] [] κ I L Z) : Ev E d M_X10_leastOfSameMeaning 58 [vr a0, vl a1, vu, vi a3, vi a4] [] κ I L Z := E_iinc dX10_leastOfSameMeaning_58 rfl rfl (Nat.le_of_ble_eq_true rfl) k
theorem t33_X10_leastOfSameMeaning_61 {E : En} {d : Nat} {κ : Kp} {I L : MI} {Z : Zt} {a0 : Nat} {a1 a3 a4 : Int}  (k : Ev E d M_X10_leastOfSameMeaning 4 [vr a0, vl a1, vu, vi a3, vi a4] [] κ I L Z) : Ev E d M_X10_leastOfSameMeaning 61 [vr a0, vl a1, vu, vi a3, vi a4] [] κ I L Z := E_goto dX10_leastOfSameMeaning_61 (by decide) k
theorem t33_X10_leastOfSameMeaning_37 {E : En} {d : Nat} {κ : Kp} {I L : MI} {Z : Zt} {a0 : Nat} {a1 a3 a4 : Int}  (k : Ev E d M_X10_leastOfSameMeaning 38 [vr a0, vl a1, vu, vi a3, vi a4] [vl a1] κ I L Z) : Ev E d M_X10_leastOfSameMeaning 37 [vr a0, vl a1, vu, vi a3, vi a4] [] κ I L Z := E_lload_n dX10_leastOfSameMeaning_37 rfl k
theorem t33_X10_leastOfSameMeaning_38 {E : En} {d : Nat} {κ : Kp} {I L : MI} {Z : Zt} {a0 : Nat} {a1 a3 a4 b0 : Int}  (k : Ev E d M_X10_leastOfSameMeaning 39 [vr a0, vl a1, vu, vi a3, vi a4] [vr a0, vl b0] κ I L Z) : Ev E d M_X10_leastOfSameMeaning 38 [vr a0, vl a1, vu, vi a3, vi a4] [vl b0] κ I L Z := E_aload_n dX10_leastOfSameMeaning_38 rfl k
theorem t33_X10_leastOfSameMeaning_39 {E : En} {d : Nat} {κ : Kp} {I L : MI} {Z : Zt} {a0 b0 : Nat} {a1 a3 a4 b1 : Int} {q : Nat} (hs : κ.1.1[b0]? = some (.inl 10)) (hq : κ.1.2 b0 4 = some q) (k : Ev E d M_X10_leastOfSameMeaning 42 [vr a0, vl a1, vu, vi a3, vi a4] [vr q, vl b1] κ I L Z) : Ev E d M_X10_leastOfSameMeaning 39 [vr a0, vl a1, vu, vi a3, vi a4] [vr b0, vl b1] κ I L Z := E_getR (ci := 10) (n := 4) dX10_leastOfSameMeaning_39 wF_RX10_41 (by decide) hs rfl hq k
theorem t33_X10_leastOfSameMeaning_42 {E : En} {d : Nat} {κ : Kp} {I L : MI} {Z : Zt} {a0 b0 : Nat} {a1 a3 a4 b1 : Int} {q : Nat} (hs : κ.1.1[b0]? = some (.inl 7)) (hq : κ.1.2 b0 0 = some q) (k : Ev E d M_X10_leastOfSameMeaning 45 [vr a0, vl a1, vu, vi a3, vi a4] [vr q, vl b1] κ I L Z) : Ev E d M_X10_leastOfSameMeaning 42 [vr a0, vl a1, vu, vi a3, vi a4] [vr b0, vl b1] κ I L Z := E_getR (ci := 7) (n := 0) dX10_leastOfSameMeaning_42 wF_RX10_190 (by decide) hs rfl hq k
theorem t33_X10_leastOfSameMeaning_45 {E : En} {d : Nat} {κ : Kp} {I L : MI} {Z : Zt} {a0 b0 : Nat} {a1 a3 a4 b1 : Int}  (k : Ev E d M_X10_leastOfSameMeaning 46 [vr a0, vl a1, vu, vi a3, vi a4] [vi a3, vr b0, vl b1] κ I L Z) : Ev E d M_X10_leastOfSameMeaning 45 [vr a0, vl a1, vu, vi a3, vi a4] [vr b0, vl b1] κ I L Z := E_iload_n dX10_leastOfSameMeaning_45 rfl k
theorem t33_X10_leastOfSameMeaning_46 {E : En} {d d' : Nat} {cs : Nat × Nat} {I L : MI} {Z : Zt} {a0 b1 : Nat} {a1 a3 a4 b0 b2 : Int} {z : Int} {I' L' : MI} (hs : G0.1[b1]? = some (.inl 9)) (hM : CFi E d' M_X9_lesserNumber [vr b1, vi b0] I L z I' L') (hlt : d' + 1 ≤ d) (k : Ir z → Ev E d M_X10_leastOfSameMeaning 49 [vr a0, vl a1, vu, vi a3, vi a4] [vi z, vl b2] (G0, cs) I' L' Z) (hc1 : cs.1 ≤ M_X10_leastOfSameMeaning.2.2.2.2.1 := by decide) (hc2 : cs.2 ≤ M_X10_leastOfSameMeaning.2.2.2.2.2 := by decide) : Ev E d M_X10_leastOfSameMeaning 46 [vr a0, vl a1, vu, vi a3, vi a4] [vi b0, vr b1, vl b2] (G0, cs) I L Z := E_callV (as := [vi b0]) (rest := [vl b2]) (n := 1) hM dX10_leastOfSameMeaning_46 wM_RX10_336 wS_X9_lesserNumber wV_X9_lesserNumber hs (by decide) rfl hlt wC_X9_lesserNumber wI_X9 (by decide +kernel) rfl (by decide) (Nat.le_of_ble_eq_true rfl) hc1 hc2 rfl (fun r g' I2 L2 h => by obtain ⟨rfl, z, rfl, hr, rfl, rfl, rfl⟩ := h; exact k hr)
theorem t33_X10_leastOfSameMeaning_49 {E : En} {d : Nat} {κ : Kp} {I L : MI} {Z : Zt} {a0 : Nat} {a1 a3 a4 b0 b1 : Int} (hx : Ir b0) (k : Ev E d M_X10_leastOfSameMeaning 50 [vr a0, vl a1, vu, vi a3, vi a4] [vl b0, vl b1] κ I L Z) : Ev E d M_X10_leastOfSameMeaning 49 [vr a0, vl a1, vu, vi a3, vi a4] [vi b0, vl b1] κ I L Z := E_i2l dX10_leastOfSameMeaning_49 hx k
theorem t33_X10_leastOfSameMeaning_50 {E : En} {d : Nat} {κ : Kp} {I L : MI} {Z : Zt} {a0 : Nat} {a1 a3 a4 b0 b1 : Int}  (k : Ev E d M_X10_leastOfSameMeaning 51 [vr a0, vl a1, vu, vi a3, vi a4] [vl (b1 * b0)] κ I L Z) : Ev E d M_X10_leastOfSameMeaning 50 [vr a0, vl a1, vu, vi a3, vi a4] [vl b0, vl b1] κ I L Z := E_lmul dX10_leastOfSameMeaning_50 k
theorem t33_X10_leastOfSameMeaning_51 {E : En} {d : Nat} {κ : Kp} {I L : MI} {Z : Zt} {a0 : Nat} {a1 a3 a4 b0 : Int}  (k : Ev E d M_X10_leastOfSameMeaning 52 [vr a0, vl b0, vu, vi a3, vi a4] [] κ I L Z) : Ev E d M_X10_leastOfSameMeaning 51 [vr a0, vl a1, vu, vi a3, vi a4] [vl b0] κ I L Z := E_lstore_n dX10_leastOfSameMeaning_51 rfl (Nat.le_of_ble_eq_true rfl) k
theorem t33_X10_leastOfSameMeaning_52 {E : En} {d : Nat} {κ : Kp} {I L : MI} {Z : Zt} {a0 : Nat} {a1 a3 a4 : Int}  (k : Ev E d M_X10_leastOfSameMeaning 55 [vr a0, vl a1, vu, vi a3, vi (a4 + 1)] [] κ I L Z) : Ev E d M_X10_leastOfSameMeaning 52 [vr a0, vl a1, vu, vi a3, vi a4] [] κ I L Z := E_iinc dX10_leastOfSameMeaning_52 rfl rfl (Nat.le_of_ble_eq_true rfl) k
theorem t33_X10_leastOfSameMeaning_55 {E : En} {d : Nat} {κ : Kp} {I L : MI} {Z : Zt} {a0 : Nat} {a1 a3 a4 : Int}  (k : Ev E d M_X10_leastOfSameMeaning 21 [vr a0, vl a1, vu, vi a3, vi a4] [] κ I L Z) : Ev E d M_X10_leastOfSameMeaning 55 [vr a0, vl a1, vu, vi a3, vi a4] [] κ I L Z := E_goto dX10_leastOfSameMeaning_55 (by decide) k
theorem t33_X10_leastOfSameMeaning_4 {E : En} {d : Nat} {κ : Kp} {I L : MI} {Z : Zt} {a0 : Nat} {a1 a3 : Int}  (k : Ev E d M_X10_leastOfSameMeaning 5 [vr a0, vl a1, vu, vi a3, vu] [vi a3] κ I L Z) : Ev E d M_X10_leastOfSameMeaning 4 [vr a0, vl a1, vu, vi a3, vu] [] κ I L Z := E_iload_n dX10_leastOfSameMeaning_4 rfl k
theorem t33_X10_leastOfSameMeaning_5 {E : En} {d : Nat} {κ : Kp} {I L : MI} {Z : Zt} {a0 : Nat} {a1 a3 b0 : Int}  (k : Ev E d M_X10_leastOfSameMeaning 6 [vr a0, vl a1, vu, vi a3, vu] [vr a0, vi b0] κ I L Z) : Ev E d M_X10_leastOfSameMeaning 5 [vr a0, vl a1, vu, vi a3, vu] [vi b0] κ I L Z := E_aload_n dX10_leastOfSameMeaning_5 rfl k
theorem t33_X10_leastOfSameMeaning_6 {E : En} {d : Nat} {κ : Kp} {I L : MI} {Z : Zt} {a0 b0 : Nat} {a1 a3 b1 : Int} {q : Nat} (hs : κ.1.1[b0]? = some (.inl 10)) (hq : κ.1.2 b0 4 = some q) (k : Ev E d M_X10_leastOfSameMeaning 9 [vr a0, vl a1, vu, vi a3, vu] [vr q, vi b1] κ I L Z) : Ev E d M_X10_leastOfSameMeaning 6 [vr a0, vl a1, vu, vi a3, vu] [vr b0, vi b1] κ I L Z := E_getR (ci := 10) (n := 4) dX10_leastOfSameMeaning_6 wF_RX10_41 (by decide) hs rfl hq k
theorem t33_X10_leastOfSameMeaning_9 {E : En} {d : Nat} {κ : Kp} {I L : MI} {Z : Zt} {a0 b0 : Nat} {a1 a3 b1 : Int} {q : Nat} (hs : κ.1.1[b0]? = some (.inl 7)) (hq : κ.1.2 b0 0 = some q) (k : Ev E d M_X10_leastOfSameMeaning 12 [vr a0, vl a1, vu, vi a3, vu] [vr q, vi b1] κ I L Z) : Ev E d M_X10_leastOfSameMeaning 9 [vr a0, vl a1, vu, vi a3, vu] [vr b0, vi b1] κ I L Z := E_getR (ci := 7) (n := 0) dX10_leastOfSameMeaning_9 wF_RX10_190 (by decide) hs rfl hq k
theorem t33_X10_leastOfSameMeaning_12 {E : En} {d : Nat} {κ : Kp} {I L : MI} {Z : Zt} {a0 b0 : Nat} {a1 a3 b1 : Int} (hs : κ.1.1[b0]? = some (.inl 9)) (k : Ir (I b0 0) → Ev E d M_X10_leastOfSameMeaning 15 [vr a0, vl a1, vu, vi a3, vu] [vi (I b0 0), vi b1] κ I L Z) : Ev E d M_X10_leastOfSameMeaning 12 [vr a0, vl a1, vu, vi a3, vu] [vr b0, vi b1] κ I L Z := E_getI (ci := 9) (n := 0) dX10_leastOfSameMeaning_12 wF_RX10_169 (by decide) hs rfl k
theorem t33_X10_leastOfSameMeaning_15 {E : En} {d : Nat} {κ : Kp} {I L : MI} {Z : Zt} {a0 : Nat} {a1 a3 b0 b1 : Int} (hx : Ir b1) (hy : Ir b0) (kt : b0 ≤ b1 → Ev E d M_X10_leastOfSameMeaning 64 [vr a0, vl a1, vu, vi a3, vu] [] κ I L Z) (kf : b1 < b0 → Ev E d M_X10_leastOfSameMeaning 18 [vr a0, vl a1, vu, vi a3, vu] [] κ I L Z) : Ev E d M_X10_leastOfSameMeaning 15 [vr a0, vl a1, vu, vi a3, vu] [vi b0, vi b1] κ I L Z := E_icmp_ge dX10_leastOfSameMeaning_15 hx hy kt kf (by decide)
theorem t33_X10_leastOfSameMeaning_64 {E : En} {d : Nat} {κ : Kp} {I L : MI} {Z : Zt} {a0 : Nat} {a1 a3 : Int}  (k : Ev E d M_X10_leastOfSameMeaning 65 [vr a0, vl a1, vu, vi a3, vu] [vl a1] κ I L Z) : Ev E d M_X10_leastOfSameMeaning 64 [vr a0, vl a1, vu, vi a3, vu] [] κ I L Z := E_lload_n dX10_leastOfSameMeaning_64 rfl k
theorem t33_X10_leastOfSameMeaning_65 {E : En} {d : Nat} {g : Geo} {I L : MI} {Q : Option AV → Geo → MI → MI → Prop} {cs : Nat × Nat} {a0 : Nat} {a1 a3 b0 : Int} (hq : Q (some (vl b0)) g I L) (h1 : cs.1 ≤ M_X10_leastOfSameMeaning.2.2.2.2.1 := by decide) (h2 : cs.2 ≤ M_X10_leastOfSameMeaning.2.2.2.2.2 := by decide) : Ev E d M_X10_leastOfSameMeaning 65 [vr a0, vl a1, vu, vi a3, vu] [vl b0] (g, cs) I L (ZQ E M_X10_leastOfSameMeaning Q) := E_lreturn rfl dX10_leastOfSameMeaning_65 hq h1 h2
theorem t33_X10_leastOfSameMeaning_18 {E : En} {d : Nat} {κ : Kp} {I L : MI} {Z : Zt} {a0 : Nat} {a1 a3 : Int}  (k : Ev E d M_X10_leastOfSameMeaning 19 [vr a0, vl a1, vu, vi a3, vu] [vi 0] κ I L Z) : Ev E d M_X10_leastOfSameMeaning 18 [vr a0, vl a1, vu, vi a3, vu] [] κ I L Z := E_iconst (v := 0) dX10_leastOfSameMeaning_18 rfl k
theorem t33_X10_leastOfSameMeaning_19 {E : En} {d : Nat} {κ : Kp} {I L : MI} {Z : Zt} {a0 : Nat} {a1 a3 b0 : Int}  (k : Ev E d M_X10_leastOfSameMeaning 21 [vr a0, vl a1, vu, vi a3, vi b0] [] κ I L Z) : Ev E d M_X10_leastOfSameMeaning 19 [vr a0, vl a1, vu, vi a3, vu] [vi b0] κ I L Z := E_istore dX10_leastOfSameMeaning_19 rfl (Nat.le_of_ble_eq_true rfl) k
theorem t33_X10_leastOfSameMeaning_0 {E : En} {d : Nat} {κ : Kp} {I L : MI} {Z : Zt} {a0 : Nat}  (k : Ev E d M_X10_leastOfSameMeaning 1 [vr a0, vu, vu, vu, vu] [vl 1] κ I L Z) : Ev E d M_X10_leastOfSameMeaning 0 [vr a0, vu, vu, vu, vu] [] κ I L Z := E_lconst (v := 1) dX10_leastOfSameMeaning_0 rfl k
theorem t33_X10_leastOfSameMeaning_1 {E : En} {d : Nat} {κ : Kp} {I L : MI} {Z : Zt} {a0 : Nat} {b0 : Int}  (k : Ev E d M_X10_leastOfSameMeaning 2 [vr a0, vl b0, vu, vu, vu] [] κ I L Z) : Ev E d M_X10_leastOfSameMeaning 1 [vr a0, vu, vu, vu, vu] [vl b0] κ I L Z := E_lstore_n dX10_leastOfSameMeaning_1 rfl (Nat.le_of_ble_eq_true rfl) k
theorem t33_X10_leastOfSameMeaning_2 {E : En} {d : Nat} {κ : Kp} {I L : MI} {Z : Zt} {a0 : Nat} {a1 : Int}  (k : Ev E d M_X10_leastOfSameMeaning 3 [vr a0, vl a1, vu, vu, vu] [vi 0] κ I L Z) : Ev E d M_X10_leastOfSameMeaning 2 [vr a0, vl a1, vu, vu, vu] [] κ I L Z := E_iconst (v := 0) dX10_leastOfSameMeaning_2 rfl k
theorem t33_X10_leastOfSameMeaning_3 {E : En} {d : Nat} {κ : Kp} {I L : MI} {Z : Zt} {a0 : Nat} {a1 b0 : Int}  (k : Ev E d M_X10_leastOfSameMeaning 4 [vr a0, vl a1, vu, vi b0, vu] [] κ I L Z) : Ev E d M_X10_leastOfSameMeaning 3 [vr a0, vl a1, vu, vu, vu] [vi b0] κ I L Z := E_istore_n dX10_leastOfSameMeaning_3 rfl (Nat.le_of_ble_eq_true rfl) k
/-! CONTRACTS: rows that are there; the least of the same meaning; the ways to say it -/
def rtN (I : MI) : Nat → Int
  | 0 => 0
  | k + 1 => rtN I k + if I (40 + 2 * (k : Int).toNat) 0 = 0 then 0 else 1
theorem rtN_b (I : MI) : ∀ k : Nat, 0 ≤ rtN I k ∧ rtN I k ≤ k := by
  intro k
  induction k with
  | zero => exact ⟨Int.le_refl _, Int.le_refl _⟩
  | succ k ih => unfold rtN; split <;> omega
theorem c_X10_rowsThere {E : En} {I L : MI} : CFi E 1 M_X10_rowsThere [vr 0] I L (rtN I 8) I L := by
  have a1 := arr1 (E := E)
  refine CM_of' (al := [vr _, vu, vu, vu]) rfl (Nat.le_of_ble_eq_true rfl) rfl (fun hM => ?_)
  have key : ∀ (f : Nat) (k : Nat), 8 - k < f → k ≤ 8 → Ev E 1 M_X10_rowsThere 4 [vr 0, vi (rtN I k), vi (k : Int), vu] [] (G0, 0, 0) I L (ZQ E M_X10_rowsThere (QFi (rtN I 8) I L)) := by
    intro f
    induction f with
    | zero => intro k h1 h2; omega
    | succ f ih =>
      intro k k1 k2
      have b := rtN_b I k
      have hR := fun h : k < 8 => RwS_at (k := (k : Int)) (by omega) (by omega)
      have h9 := fun h : k < 8 => (hR h).1.1
      refine (t33_X10_rowsThere_4 (t33_X10_rowsThere_5 (t33_X10_rowsThere_6 (by first | assumption | rfl) (by first | assumption | rfl) (t33_X10_rowsThere_9 (by first | assumption | rfl) (by decide) rfl (t33_X10_rowsThere_10 (by omega) (by omega) (fun c10 => (t33_X10_rowsThere_40 (t33_X10_rowsThere_41 ?_))) (fun c10 => (t33_X10_rowsThere_13 (t33_X10_rowsThere_14 (by first | assumption | rfl) (by first | assumption | rfl) (t33_X10_rowsThere_17 (t33_X10_rowsThere_18 (by first | assumption | rfl) (by omega) (by omega) (by omega) ((hR (by omega)).2) (t33_X10_rowsThere_19 (t33_X10_rowsThere_20 (t33_X10_rowsThere_21 (t33_X10_rowsThere_24 (t33_X10_rowsThere_25 (h9 (by omega)) (fun r25 => (t33_X10_rowsThere_28 (by omega) (fun c28 => (t33_X10_rowsThere_34 (t33_X10_rowsThere_37 (Ev.wk (al' := [_, _, _, vu]) ⟨.inl rfl, .inl rfl, .inl rfl, .inr rfl, trivial⟩ ?_)))) (fun c28 => (t33_X10_rowsThere_31 (t33_X10_rowsThere_34 (t33_X10_rowsThere_37 (Ev.wk (al' := [_, _, _, vu]) ⟨.inl rfl, .inl rfl, .inl rfl, .inr rfl, trivial⟩ ?_))))))))))))))))))))))
      -- 3 leaves: 10t :ret41 | 10f 28t :->4 | 10f 28f :->4
      · have : k = 8 := by omega
        subst this
        exact qfi (by omega) rfl
      · have h := ih (k + 1) (by omega) (by omega)
        unfold rtN at h
        rw [if_pos c28, show rtN I k + 0 = rtN I k by omega] at h
        exact h
      · have h := ih (k + 1) (by omega) (by omega)
        unfold rtN at h
        rw [if_neg c28] at h
        exact h
  refine (t33_X10_rowsThere_0 (t33_X10_rowsThere_1 (t33_X10_rowsThere_2 (t33_X10_rowsThere_3 ?_))))
  -- 1 leaves: :->4
  exact key 9 0 (by omega) (by omega)
def pwM (x p : Int) : Nat → Int
  | 0 => x
  | k + 1 => pwM x p k * p
theorem pwM_m {x p : Int} (hx : 0 ≤ x) (hp : 1 ≤ p) : ∀ (k j : Nat), x ≤ pwM x p k ∧ pwM x p k ≤ pwM x p (k + j) := by
  have h0 : ∀ k, 0 ≤ pwM x p k := fun k => by
    induction k with
    | zero => exact hx
    | succ k ih => exact Int.mul_nonneg ih (by omega)
  have h1 : ∀ k, pwM x p k ≤ pwM x p (k + 1) := fun k => by
    have : pwM x p k * 1 ≤ pwM x p k * p := Int.mul_le_mul_of_nonneg_left hp (h0 k)
    rw [Int.mul_one] at this
    exact this
  have h2 : ∀ k j, pwM x p k ≤ pwM x p (k + j) := fun k j => by
    induction j with
    | zero => exact Int.le_refl _
    | succ j ih => exact Int.le_trans ih (h1 (k + j))
  intro k j
  exact ⟨by have := h2 0 k; rw [Nat.zero_add] at this; exact this, h2 k j⟩
def lsP (F : Nat → Int) (c : Nat → Nat) : Nat → Int
  | 0 => 1
  | t + 1 => pwM (lsP F c t) (F t) (c t)
theorem lsP_p {F : Nat → Int} {c : Nat → Nat} {n : Nat} (hF : ∀ t, t < n → 1 ≤ F t) : ∀ t, t ≤ n → 1 ≤ lsP F c t := by
  intro t
  induction t with
  | zero => intro _; exact Int.le_refl _
  | succ t ih =>
    intro ht
    have h1 := ih (by omega)
    have h2 := pwM_m (x := lsP F c t) (p := F t) (by omega) (hF t (by omega)) (c t) 0
    show 1 ≤ pwM (lsP F c t) (F t) (c t)
    omega
theorem c_X10_leastOfSameMeaning {E : En} {I L : MI} {n : Nat} {c : Nat → Nat} (hn : I 15 0 = n) (hn2 : n ≤ 12) (hc : ∀ t : Nat, t < 12 → I 27 t = c t) (hF : ∀ t : Nat, t < n → 1 ≤ lesI I 15 t) (hb : ∀ t : Nat, t ≤ n → lsP (fun t => lesI I 15 t) c t ≤ 1000000000000000) : CFl E 4 M_X10_leastOfSameMeaning [vr 0] I L (lsP (fun t => lesI I 15 t) c n) I L := by
  have t15 := TgS15
  have p26 := PtS26
  refine CM_of' (al := [vr _, vu, vu, vu, vu]) rfl (Nat.le_of_ble_eq_true rfl) rfl (fun hM => ?_)
  have lp := lsP_p (F := fun t => lesI I 15 t) (c := c) hF
  have inner : ∀ (t : Nat), t < n → Ev E 4 M_X10_leastOfSameMeaning 4 [vr 0, vl (lsP (fun t => lesI I 15 t) c (t + 1)), vu, vi ((t : Int) + 1), vu] [] (G0, 0, 0) I L (ZQ E M_X10_leastOfSameMeaning (QFl (lsP (fun t => lesI I 15 t) c n) I L)) → ∀ (f : Nat) (k : Nat), c t - k < f → k ≤ c t → Ev E 4 M_X10_leastOfSameMeaning 21 [vr 0, vl (pwM (lsP (fun t => lesI I 15 t) c t) (lesI I 15 t) k), vu, vi (t : Int), vi (k : Int)] [] (G0, 0, 0) I L (ZQ E M_X10_leastOfSameMeaning (QFl (lsP (fun t => lesI I 15 t) c n) I L)) := by
    intro t ht hnext f
    induction f with
    | zero => intro k h1 h2; omega
    | succ f ih =>
      intro k k1 k2
      have l0 := lp t (by omega)
      have m1 := pwM_m (x := lsP (fun t => lesI I 15 t) c t) (p := lesI I 15 t) (by omega) (hF t ht) k (c t - k)
      have m2 := fun h : k < c t => pwM_m (x := lsP (fun t => lesI I 15 t) c t) (p := lesI I 15 t) (by omega) (hF t ht) (k + 1) (c t - (k + 1))
      rw [show k + (c t - k) = c t by omega] at m1
      have hb1 : pwM (lsP (fun t => lesI I 15 t) c t) (lesI I 15 t) (c t) ≤ 1000000000000000 := hb (t + 1) (by omega)
      have hat : atI I (26 + 1) 12 t = c t := by unfold atI; rw [if_pos (by omega)]; exact hc t (by omega)
      have hat2 : atI I 27 12 t = c t := hat
      have hci := hM.1 27 t
      rw [hc t (by omega)] at hci
      have hm : k < c t → 0 ≤ pwM (lsP (fun t => lesI I 15 t) c t) (lesI I 15 t) k * lesI I 15 t ∧ pwM (lsP (fun t => lesI I 15 t) c t) (lesI I 15 t) k * lesI I 15 t ≤ 1000000000000000 := fun h => by
        have h2 := m2 h
        rw [show k + 1 + (c t - (k + 1)) = c t by omega] at h2
        have e : pwM (lsP (fun t => lesI I 15 t) c t) (lesI I 15 t) (k + 1) = pwM (lsP (fun t => lesI I 15 t) c t) (lesI I 15 t) k * lesI I 15 t := rfl
        omega
      refine (t33_X10_leastOfSameMeaning_21 (t33_X10_leastOfSameMeaning_23 (t33_X10_leastOfSameMeaning_24 (by first | assumption | rfl) (by first | assumption | rfl) (t33_X10_leastOfSameMeaning_27 (by first | assumption | rfl) (by first | assumption | rfl) (t33_X10_leastOfSameMeaning_30 (t33_X10_leastOfSameMeaning_31 c_X10_at (by first | decide | omega) (fun r31 => (t33_X10_leastOfSameMeaning_34 (by omega) (by omega) (fun c34 => (t33_X10_leastOfSameMeaning_58 (t33_X10_leastOfSameMeaning_61 (Ev.wk (al' := [_, _, vu, _, vu]) ⟨.inl rfl, .inl rfl, .inl rfl, .inl rfl, .inr rfl, trivial⟩ ?_)))) (fun c34 => (t33_X10_leastOfSameMeaning_37 (t33_X10_leastOfSameMeaning_38 (t33_X10_leastOfSameMeaning_39 (by first | assumption | rfl) (by first | assumption | rfl) (t33_X10_leastOfSameMeaning_42 (by first | assumption | rfl) (by first | assumption | rfl) (t33_X10_leastOfSameMeaning_45 (t33_X10_leastOfSameMeaning_46 (by first | assumption | rfl) c_X9_lesserNumber (by first | decide | omega) (fun r46 => (t33_X10_leastOfSameMeaning_49 (by omega) (t33_X10_leastOfSameMeaning_50 (t33_X10_leastOfSameMeaning_51 (t33_X10_leastOfSameMeaning_52 (t33_X10_leastOfSameMeaning_55 ?_)))))))))))))))))))))
      -- 2 leaves: 34t :->4 | 34f :->21
      · have : k = c t := by omega
        subst this
        exact hnext
      · exact ih (k + 1) (by omega) (by omega)
  have key : ∀ (f : Nat) (t : Nat), n - t < f → t ≤ n → Ev E 4 M_X10_leastOfSameMeaning 4 [vr 0, vl (lsP (fun t => lesI I 15 t) c t), vu, vi (t : Int), vu] [] (G0, 0, 0) I L (ZQ E M_X10_leastOfSameMeaning (QFl (lsP (fun t => lesI I 15 t) c n) I L)) := by
    intro f
    induction f with
    | zero => intro t h1 h2; omega
    | succ f ih =>
      intro t t1 t2
      have l0 := lp t t2
      have l1 := hb t t2
      refine (t33_X10_leastOfSameMeaning_4 (t33_X10_leastOfSameMeaning_5 (t33_X10_leastOfSameMeaning_6 (by first | assumption | rfl) (by first | assumption | rfl) (t33_X10_leastOfSameMeaning_9 (by first | assumption | rfl) (by first | assumption | rfl) (t33_X10_leastOfSameMeaning_12 (by first | assumption | rfl) (fun r12 => (t33_X10_leastOfSameMeaning_15 (by omega) (by omega) (fun c15 => (t33_X10_leastOfSameMeaning_64 (t33_X10_leastOfSameMeaning_65 ?_))) (fun c15 => (t33_X10_leastOfSameMeaning_18 (t33_X10_leastOfSameMeaning_19 ?_))))))))))
      -- 2 leaves: 15t :ret65 | 15f :->21
      · have : t = n := by omega
        subst this
        exact qfl (by omega) rfl
      · exact inner t (by omega) (ih (t + 1) (by omega) (by omega)) (c t + 1) 0 (by omega) (by omega)
  refine (t33_X10_leastOfSameMeaning_0 (t33_X10_leastOfSameMeaning_1 (t33_X10_leastOfSameMeaning_2 (t33_X10_leastOfSameMeaning_3 ?_))))
  -- 1 leaves: :->4
  exact key (n + 1) 0 (by omega) (by omega)
