theorem t29_X7_begin_10 {E : En} {d : Nat} {κ : Kp} {I L : MI} {Z : Zt} {a0 a1 : Nat} {a2 : Int}  (k : Ev E d M_X7_begin 11 [vr a0, vr a1, vi a2] [vi a2] κ I L Z) : Ev E d M_X7_begin 10 [vr a0, vr a1, vi a2] [] κ I L Z := E_iload_n dX7_begin_10 rfl k
theorem t29_X7_begin_11 {E : En} {d : Nat} {κ : Kp} {I L : MI} {Z : Zt} {a0 a1 : Nat} {a2 b0 : Int}  (k : Ev E d M_X7_begin 13 [vr a0, vr a1, vi a2] [vi 8, vi b0] κ I L Z) : Ev E d M_X7_begin 11 [vr a0, vr a1, vi a2] [vi b0] κ I L Z := E_bipush (v := 8) dX7_begin_11 rfl k
theorem t29_X7_begin_13 {E : En} {d : Nat} {κ : Kp} {I L : MI} {Z : Zt} {a0 a1 : Nat} {a2 b0 b1 : Int} (hx : Ir b1) (hy : Ir b0) (kt : b0 ≤ b1 → Ev E d M_X7_begin 28 [vr a0, vr a1, vi a2] [] κ I L Z) (kf : b1 < b0 → Ev E d M_X7_begin 16 [vr a0, vr a1, vi a2] [] κ I L Z) : Ev E d M_X7_begin 13 [vr a0, vr a1, vi a2] [vi b0, vi b1] κ I L Z := E_icmp_ge dX7_begin_13 hx hy kt kf (by decide)
theorem t29_X7_begin_28 {E : En} {d : Nat} {g : Geo} {I L : MI} {Q : Option AV → Geo → MI → MI → Prop} {cs : Nat × Nat} {a0 a1 : Nat} {a2 : Int} (hq : Q none g I L) (h1 : cs.1 ≤ M_X7_begin.2.2.2.2.1 := by decide) (h2 : cs.2 ≤ M_X7_begin.2.2.2.2.2 := by decide) : Ev E d M_X7_begin 28 [vr a0, vr a1, vi a2] [] (g, cs) I L (ZQ E M_X7_begin Q) := E_return rfl dX7_begin_28 hq h1 h2
theorem t29_X7_begin_16 {E : En} {d : Nat} {κ : Kp} {I L : MI} {Z : Zt} {a0 a1 : Nat} {a2 : Int}  (k : Ev E d M_X7_begin 17 [vr a0, vr a1, vi a2] [vr a0] κ I L Z) : Ev E d M_X7_begin 16 [vr a0, vr a1, vi a2] [] κ I L Z := E_aload_n dX7_begin_16 rfl k
theorem t29_X7_begin_17 {E : En} {d : Nat} {κ : Kp} {I L : MI} {Z : Zt} {a0 a1 b0 : Nat} {a2 : Int}  (k : Ev E d M_X7_begin 18 [vr a0, vr a1, vi a2] [vi a2, vr b0] κ I L Z) : Ev E d M_X7_begin 17 [vr a0, vr a1, vi a2] [vr b0] κ I L Z := E_iload_n dX7_begin_17 rfl k
theorem t29_X7_begin_18 {E : En} {d : Nat} {κ : Kp} {I L : MI} {Z : Zt} {a0 a1 b1 : Nat} {a2 b0 : Int}  (k : Ev E d M_X7_begin 19 [vr a0, vr a1, vi a2] [vl 0, vi b0, vr b1] κ I L Z) : Ev E d M_X7_begin 18 [vr a0, vr a1, vi a2] [vi b0, vr b1] κ I L Z := E_lconst (v := 0) dX7_begin_18 rfl k
theorem t29_X7_begin_19 {E : En} {d d' : Nat} {cs : Nat × Nat} {I L : MI} {Z : Zt} {a0 a1 b2 : Nat} {a2 b0 b1 : Int} {I' L' : MI} (hs : G0.1[b2]? = some (.inl 7)) (hM : CFv E d' M_X7_keep [vr b2, vi b1, vl b0] I L I' L') (hlt : d' + 1 ≤ d) (k : Ev E d M_X7_begin 22 [vr a0, vr a1, vi a2] [] (G0, cs) I' L' Z) (hc1 : cs.1 ≤ M_X7_begin.2.2.2.2.1 := by decide) (hc2 : cs.2 ≤ M_X7_begin.2.2.2.2.2 := by decide) : Ev E d M_X7_begin 19 [vr a0, vr a1, vi a2] [vl b0, vi b1, vr b2] (G0, cs) I L Z := E_callV (as := [vi b1, vl b0]) (rest := []) (n := 2) hM dX7_begin_19 wM_RX7_26 wS_X7_keep wV_X7_keep hs (by decide) rfl hlt wC_X7_keep wI_X7 (by decide +kernel) rfl (by decide) (Nat.le_of_ble_eq_true rfl) hc1 hc2 rfl (fun r g' I2 L2 h => by obtain ⟨rfl, rfl, rfl, rfl⟩ := h; exact k)
theorem t29_X7_begin_22 {E : En} {d : Nat} {κ : Kp} {I L : MI} {Z : Zt} {a0 a1 : Nat} {a2 : Int}  (k : Ev E d M_X7_begin 25 [vr a0, vr a1, vi (a2 + 1)] [] κ I L Z) : Ev E d M_X7_begin 22 [vr a0, vr a1, vi a2] [] κ I L Z := E_iinc dX7_begin_22 rfl rfl (Nat.le_of_ble_eq_true rfl) k
theorem t29_X7_begin_25 {E : En} {d : Nat} {κ : Kp} {I L : MI} {Z : Zt} {a0 a1 : Nat} {a2 : Int}  (k : Ev E d M_X7_begin 10 [vr a0, vr a1, vi a2] [] κ I L Z) : Ev E d M_X7_begin 25 [vr a0, vr a1, vi a2] [] κ I L Z := E_goto dX7_begin_25 (by decide) k
theorem t29_X7_begin_0 {E : En} {d : Nat} {κ : Kp} {I L : MI} {Z : Zt} {a0 a1 : Nat}  (k : Ev E d M_X7_begin 1 [vr a0, vr a1, vu] [vr a0] κ I L Z) : Ev E d M_X7_begin 0 [vr a0, vr a1, vu] [] κ I L Z := E_aload_n dX7_begin_0 rfl k
theorem t29_X7_begin_1 {E : En} {d : Nat} {κ : Kp} {I L : MI} {Z : Zt} {a0 a1 b0 : Nat} {q : Nat} (hs : κ.1.1[b0]? = some (.inl 7)) (hq : κ.1.2 b0 0 = some q) (k : Ev E d M_X7_begin 4 [vr a0, vr a1, vu] [vr q] κ I L Z) : Ev E d M_X7_begin 1 [vr a0, vr a1, vu] [vr b0] κ I L Z := E_getR (ci := 7) (n := 0) dX7_begin_1 wF_RX7_12 (by decide) hs rfl hq k
theorem t29_X7_begin_4 {E : En} {d : Nat} {κ : Kp} {I L : MI} {Z : Zt} {a0 a1 b0 : Nat}  (k : Ev E d M_X7_begin 5 [vr a0, vr a1, vu] [vr a1, vr b0] κ I L Z) : Ev E d M_X7_begin 4 [vr a0, vr a1, vu] [vr b0] κ I L Z := E_aload_n dX7_begin_4 rfl k
theorem t29_X7_begin_5 {E : En} {d d' : Nat} {cs : Nat × Nat} {I L : MI} {Z : Zt} {a0 a1 b0 b1 : Nat} {Q : MI → MI → Prop} (hs : G0.1[b1]? = some (.inl 9)) (hM : CQv E d' M_X9_become [vr b1, vr b0] I L Q) (hlt : d' + 1 ≤ d) (kk : ∀ (I' L' : MI), Q I' L' → Ev E d M_X7_begin 8 [vr a0, vr a1, vu] [] (G0, cs) I' L' Z) (hc1 : cs.1 ≤ M_X7_begin.2.2.2.2.1 := by decide) (hc2 : cs.2 ≤ M_X7_begin.2.2.2.2.2 := by decide) : Ev E d M_X7_begin 5 [vr a0, vr a1, vu] [vr b0, vr b1] (G0, cs) I L Z := E_callV (as := [vr b0]) (rest := []) (n := 1) hM dX7_begin_5 wM_RX7_22 wS_X9_become wV_X9_become hs (by decide) rfl hlt wC_X9_become wI_X9 (by decide +kernel) rfl (by decide) (Nat.le_of_ble_eq_true rfl) hc1 hc2 rfl (fun r g' I' L' h => by obtain ⟨rfl, rfl, h⟩ := h; exact kk I' L' h)
theorem t29_X7_begin_8 {E : En} {d : Nat} {κ : Kp} {I L : MI} {Z : Zt} {a0 a1 : Nat}  (k : Ev E d M_X7_begin 9 [vr a0, vr a1, vu] [vi 0] κ I L Z) : Ev E d M_X7_begin 8 [vr a0, vr a1, vu] [] κ I L Z := E_iconst (v := 0) dX7_begin_8 rfl k
theorem t29_X7_begin_9 {E : En} {d : Nat} {κ : Kp} {I L : MI} {Z : Zt} {a0 a1 : Nat} {b0 : Int}  (k : Ev E d M_X7_begin 10 [vr a0, vr a1, vi b0] [] κ I L Z) : Ev E d M_X7_begin 9 [vr a0, vr a1, vu] [vi b0] κ I L Z := E_istore_n dX7_begin_9 rfl (Nat.le_of_ble_eq_true rfl) k
theorem t29_X7_become_13 {E : En} {d : Nat} {κ : Kp} {I L : MI} {Z : Zt} {a0 a1 : Nat} {a2 : Int}  (k : Ev E d M_X7_become 14 [vr a0, vr a1, vi a2] [vi a2] κ I L Z) : Ev E d M_X7_become 13 [vr a0, vr a1, vi a2] [] κ I L Z := E_iload_n dX7_become_13 rfl k
theorem t29_X7_become_14 {E : En} {d : Nat} {κ : Kp} {I L : MI} {Z : Zt} {a0 a1 : Nat} {a2 b0 : Int}  (k : Ev E d M_X7_become 16 [vr a0, vr a1, vi a2] [vi 8, vi b0] κ I L Z) : Ev E d M_X7_become 14 [vr a0, vr a1, vi a2] [vi b0] κ I L Z := E_bipush (v := 8) dX7_become_14 rfl k
theorem t29_X7_become_16 {E : En} {d : Nat} {κ : Kp} {I L : MI} {Z : Zt} {a0 a1 : Nat} {a2 b0 b1 : Int} (hx : Ir b1) (hy : Ir b0) (kt : b0 ≤ b1 → Ev E d M_X7_become 35 [vr a0, vr a1, vi a2] [] κ I L Z) (kf : b1 < b0 → Ev E d M_X7_become 19 [vr a0, vr a1, vi a2] [] κ I L Z) : Ev E d M_X7_become 16 [vr a0, vr a1, vi a2] [vi b0, vi b1] κ I L Z := E_icmp_ge dX7_become_16 hx hy kt kf (by decide)
theorem t29_X7_become_35 {E : En} {d : Nat} {g : Geo} {I L : MI} {Q : Option AV → Geo → MI → MI → Prop} {cs : Nat × Nat} {a0 a1 : Nat} {a2 : Int} (hq : Q none g I L) (h1 : cs.1 ≤ M_X7_become.2.2.2.2.1 := by decide) (h2 : cs.2 ≤ M_X7_become.2.2.2.2.2 := by decide) : Ev E d M_X7_become 35 [vr a0, vr a1, vi a2] [] (g, cs) I L (ZQ E M_X7_become Q) := E_return rfl dX7_become_35 hq h1 h2
theorem t29_X7_become_19 {E : En} {d : Nat} {κ : Kp} {I L : MI} {Z : Zt} {a0 a1 : Nat} {a2 : Int}  (k : Ev E d M_X7_become 20 [vr a0, vr a1, vi a2] [vr a0] κ I L Z) : Ev E d M_X7_become 19 [vr a0, vr a1, vi a2] [] κ I L Z := E_aload_n dX7_become_19 rfl k
theorem t29_X7_become_20 {E : En} {d : Nat} {κ : Kp} {I L : MI} {Z : Zt} {a0 a1 b0 : Nat} {a2 : Int}  (k : Ev E d M_X7_become 21 [vr a0, vr a1, vi a2] [vi a2, vr b0] κ I L Z) : Ev E d M_X7_become 20 [vr a0, vr a1, vi a2] [vr b0] κ I L Z := E_iload_n dX7_become_20 rfl k
theorem t29_X7_become_21 {E : En} {d : Nat} {κ : Kp} {I L : MI} {Z : Zt} {a0 a1 b1 : Nat} {a2 b0 : Int}  (k : Ev E d M_X7_become 22 [vr a0, vr a1, vi a2] [vr a1, vi b0, vr b1] κ I L Z) : Ev E d M_X7_become 21 [vr a0, vr a1, vi a2] [vi b0, vr b1] κ I L Z := E_aload_n dX7_become_21 rfl k
theorem t29_X7_become_22 {E : En} {d : Nat} {κ : Kp} {I L : MI} {Z : Zt} {a0 a1 b0 b2 : Nat} {a2 b1 : Int}  (k : Ev E d M_X7_become 23 [vr a0, vr a1, vi a2] [vi a2, vr b0, vi b1, vr b2] κ I L Z) : Ev E d M_X7_become 22 [vr a0, vr a1, vi a2] [vr b0, vi b1, vr b2] κ I L Z := E_iload_n dX7_become_22 rfl k
theorem t29_X7_become_23 {E : En} {d d' : Nat} {cs : Nat × Nat} {I L : MI} {Z : Zt} {a0 a1 b1 b3 : Nat} {a2 b0 b2 : Int} {z : Int} {I' L' : MI} (hs : G0.1[b1]? = some (.inl 7)) (hM : CFl E d' M_X7_held [vr b1, vi b0] I L z I' L') (hlt : d' + 1 ≤ d) (k : Jr z → Ev E d M_X7_become 26 [vr a0, vr a1, vi a2] [vl z, vi b2, vr b3] (G0, cs) I' L' Z) (hc1 : cs.1 ≤ M_X7_become.2.2.2.2.1 := by decide) (hc2 : cs.2 ≤ M_X7_become.2.2.2.2.2 := by decide) : Ev E d M_X7_become 23 [vr a0, vr a1, vi a2] [vi b0, vr b1, vi b2, vr b3] (G0, cs) I L Z := E_callV (as := [vi b0]) (rest := [vi b2, vr b3]) (n := 1) hM dX7_become_23 wM_RX7_30 wS_X7_held wV_X7_held hs (by decide) rfl hlt wC_X7_held wI_X7 (by decide +kernel) rfl (by decide) (Nat.le_of_ble_eq_true rfl) hc1 hc2 rfl (fun r g' I2 L2 h => by obtain ⟨rfl, z, rfl, hr, rfl, rfl, rfl⟩ := h; exact k hr)
theorem t29_X7_become_26 {E : En} {d d' : Nat} {cs : Nat × Nat} {I L : MI} {Z : Zt} {a0 a1 b2 : Nat} {a2 b0 b1 : Int} {I' L' : MI} (hs : G0.1[b2]? = some (.inl 7)) (hM : CFv E d' M_X7_keep [vr b2, vi b1, vl b0] I L I' L') (hlt : d' + 1 ≤ d) (k : Ev E d M_X7_become 29 [vr a0, vr a1, vi a2] [] (G0, cs) I' L' Z) (hc1 : cs.1 ≤ M_X7_become.2.2.2.2.1 := by decide) (hc2 : cs.2 ≤ M_X7_become.2.2.2.2.2 := by decide) : Ev E d M_X7_become 26 [vr a0, vr a1, vi a2] [vl b0, vi b1, vr b2] (G0, cs) I L Z := E_callV (as := [vi b1, vl b0]) (rest := []) (n := 2) hM dX7_become_26 wM_RX7_26 wS_X7_keep wV_X7_keep hs (by decide) rfl hlt wC_X7_keep wI_X7 (by decide +kernel) rfl (by decide) (Nat.le_of_ble_eq_true rfl) hc1 hc2 rfl (fun r g' I2 L2 h => by obtain ⟨rfl, rfl, rfl, rfl⟩ := h; exact k)
theorem t29_X7_become_29 {E : En} {d : Nat} {κ : Kp} {I L : MI} {Z : Zt} {a0 a1 : Nat} {a2 : Int}  (k : Ev E d M_X7_become 32 [vr a0, vr a1, vi (a2 + 1)] [] κ I L Z) : Ev E d M_X7_become 29 [vr a0, vr a1, vi a2] [] κ I L Z := E_iinc dX7_become_29 rfl rfl (Nat.le_of_ble_eq_true rfl) k
theorem t29_X7_become_32 {E : En} {d : Nat} {κ : Kp} {I L : MI} {Z : Zt} {a0 a1 : Nat} {a2 : Int}  (k : Ev E d M_X7_become 13 [vr a0, vr a1, vi a2] [] κ I L Z) : Ev E d M_X7_become 32 [vr a0, vr a1, vi a2] [] κ I L Z := E_goto dX7_become_32 (by decide) k
theorem t29_X7_become_0 {E : En} {d : Nat} {κ : Kp} {I L : MI} {Z : Zt} {a0 a1 : Nat}  (k : Ev E d M_X7_become 1 [vr a0, vr a1, vu] [vr a0] κ I L Z) : Ev E d M_X7_become 0 [vr a0, vr a1, vu] [] κ I L Z := E_aload_n dX7_become_0 rfl k
theorem t29_X7_become_1 {E : En} {d : Nat} {κ : Kp} {I L : MI} {Z : Zt} {a0 a1 b0 : Nat} {q : Nat} (hs : κ.1.1[b0]? = some (.inl 7)) (hq : κ.1.2 b0 0 = some q) (k : Ev E d M_X7_become 4 [vr a0, vr a1, vu] [vr q] κ I L Z) : Ev E d M_X7_become 1 [vr a0, vr a1, vu] [vr b0] κ I L Z := E_getR (ci := 7) (n := 0) dX7_become_1 wF_RX7_12 (by decide) hs rfl hq k
theorem t29_X7_become_4 {E : En} {d : Nat} {κ : Kp} {I L : MI} {Z : Zt} {a0 a1 b0 : Nat}  (k : Ev E d M_X7_become 5 [vr a0, vr a1, vu] [vr a1, vr b0] κ I L Z) : Ev E d M_X7_become 4 [vr a0, vr a1, vu] [vr b0] κ I L Z := E_aload_n dX7_become_4 rfl k
theorem t29_X7_become_5 {E : En} {d : Nat} {κ : Kp} {I L : MI} {Z : Zt} {a0 a1 b0 b1 : Nat} {q : Nat} (hs : κ.1.1[b0]? = some (.inl 7)) (hq : κ.1.2 b0 0 = some q) (k : Ev E d M_X7_become 8 [vr a0, vr a1, vu] [vr q, vr b1] κ I L Z) : Ev E d M_X7_become 5 [vr a0, vr a1, vu] [vr b0, vr b1] κ I L Z := E_getR (ci := 7) (n := 0) dX7_become_5 wF_RX7_12 (by decide) hs rfl hq k
theorem t29_X7_become_8 {E : En} {d d' : Nat} {cs : Nat × Nat} {I L : MI} {Z : Zt} {a0 a1 b0 b1 : Nat} {Q : MI → MI → Prop} (hs : G0.1[b1]? = some (.inl 9)) (hM : CQv E d' M_X9_become [vr b1, vr b0] I L Q) (hlt : d' + 1 ≤ d) (kk : ∀ (I' L' : MI), Q I' L' → Ev E d M_X7_become 11 [vr a0, vr a1, vu] [] (G0, cs) I' L' Z) (hc1 : cs.1 ≤ M_X7_become.2.2.2.2.1 := by decide) (hc2 : cs.2 ≤ M_X7_become.2.2.2.2.2 := by decide) : Ev E d M_X7_become 8 [vr a0, vr a1, vu] [vr b0, vr b1] (G0, cs) I L Z := E_callV (as := [vr b0]) (rest := []) (n := 1) hM dX7_become_8 wM_RX7_22 wS_X9_become wV_X9_become hs (by decide) rfl hlt wC_X9_become wI_X9 (by decide +kernel) rfl (by decide) (Nat.le_of_ble_eq_true rfl) hc1 hc2 rfl (fun r g' I' L' h => by obtain ⟨rfl, rfl, h⟩ := h; exact kk I' L' h)
theorem t29_X7_become_11 {E : En} {d : Nat} {κ : Kp} {I L : MI} {Z : Zt} {a0 a1 : Nat}  (k : Ev E d M_X7_become 12 [vr a0, vr a1, vu] [vi 0] κ I L Z) : Ev E d M_X7_become 11 [vr a0, vr a1, vu] [] κ I L Z := E_iconst (v := 0) dX7_become_11 rfl k
theorem t29_X7_become_12 {E : En} {d : Nat} {κ : Kp} {I L : MI} {Z : Zt} {a0 a1 : Nat} {b0 : Int}  (k : Ev E d M_X7_become 13 [vr a0, vr a1, vi b0] [] κ I L Z) : Ev E d M_X7_become 12 [vr a0, vr a1, vu] [vi b0] κ I L Z := E_istore_n dX7_become_12 rfl (Nat.le_of_ble_eq_true rfl) k
theorem t29_X1_dealAll_7 {E : En} {d : Nat} {κ : Kp} {I L : MI} {Z : Zt} {a0 a1 : Nat} {a2 : Int}  (k : Ev E d M_X1_dealAll 8 [vr a0, vr a1, vi a2] [vi a2] κ I L Z) : Ev E d M_X1_dealAll 7 [vr a0, vr a1, vi a2] [] κ I L Z := E_iload_n dX1_dealAll_7 rfl k
theorem t29_X1_dealAll_8 {E : En} {d : Nat} {κ : Kp} {I L : MI} {Z : Zt} {a0 a1 : Nat} {a2 b0 : Int}  (k : Ev E d M_X1_dealAll 9 [vr a0, vr a1, vi a2] [vr a0, vi b0] κ I L Z) : Ev E d M_X1_dealAll 8 [vr a0, vr a1, vi a2] [vi b0] κ I L Z := E_aload_n dX1_dealAll_8 rfl k
theorem t29_X1_dealAll_9 {E : En} {d : Nat} {κ : Kp} {I L : MI} {Z : Zt} {a0 a1 b0 : Nat} {a2 b1 : Int} (hs : κ.1.1[b0]? = some (.inl 1)) (k : Ir (I b0 4) → Ev E d M_X1_dealAll 12 [vr a0, vr a1, vi a2] [vi (I b0 4), vi b1] κ I L Z) : Ev E d M_X1_dealAll 9 [vr a0, vr a1, vi a2] [vr b0, vi b1] κ I L Z := E_getI (ci := 1) (n := 4) dX1_dealAll_9 wF_RX1_29 (by decide) hs rfl k
theorem t29_X1_dealAll_12 {E : En} {d : Nat} {κ : Kp} {I L : MI} {Z : Zt} {a0 a1 : Nat} {a2 b0 b1 : Int} (hx : Ir b1) (hy : Ir b0) (kt : b0 ≤ b1 → Ev E d M_X1_dealAll 28 [vr a0, vr a1, vi a2] [] κ I L Z) (kf : b1 < b0 → Ev E d M_X1_dealAll 15 [vr a0, vr a1, vi a2] [] κ I L Z) : Ev E d M_X1_dealAll 12 [vr a0, vr a1, vi a2] [vi b0, vi b1] κ I L Z := E_icmp_ge dX1_dealAll_12 hx hy kt kf (by decide)
theorem t29_X1_dealAll_15 {E : En} {d : Nat} {κ : Kp} {I L : MI} {Z : Zt} {a0 a1 : Nat} {a2 : Int}  (k : Ev E d M_X1_dealAll 16 [vr a0, vr a1, vi a2] [vr a0] κ I L Z) : Ev E d M_X1_dealAll 15 [vr a0, vr a1, vi a2] [] κ I L Z := E_aload_n dX1_dealAll_15 rfl k
theorem t29_X1_dealAll_16 {E : En} {d : Nat} {κ : Kp} {I L : MI} {Z : Zt} {a0 a1 b0 : Nat} {a2 : Int}  (k : Ev E d M_X1_dealAll 17 [vr a0, vr a1, vi a2] [vi 0, vr b0] κ I L Z) : Ev E d M_X1_dealAll 16 [vr a0, vr a1, vi a2] [vr b0] κ I L Z := E_iconst (v := 0) dX1_dealAll_16 rfl k
theorem t29_X1_dealAll_17 {E : En} {d : Nat} {κ : Kp} {I L : MI} {Z : Zt} {a0 a1 b1 : Nat} {a2 b0 : Int}  (k : Ev E d M_X1_dealAll 18 [vr a0, vr a1, vi a2] [vi a2, vi b0, vr b1] κ I L Z) : Ev E d M_X1_dealAll 17 [vr a0, vr a1, vi a2] [vi b0, vr b1] κ I L Z := E_iload_n dX1_dealAll_17 rfl k
theorem t29_X1_dealAll_18 {E : En} {d : Nat} {κ : Kp} {I L : MI} {Z : Zt} {a0 a1 b2 : Nat} {a2 b0 b1 : Int}  (k : Ev E d M_X1_dealAll 19 [vr a0, vr a1, vi a2] [vl 1, vi b0, vi b1, vr b2] κ I L Z) : Ev E d M_X1_dealAll 18 [vr a0, vr a1, vi a2] [vi b0, vi b1, vr b2] κ I L Z := E_lconst (v := 1) dX1_dealAll_18 rfl k
theorem t29_X1_dealAll_19 {E : En} {d d' : Nat} {cs : Nat × Nat} {I L : MI} {Z : Zt} {a0 a1 b3 : Nat} {a2 b0 b1 b2 : Int} {I' L' : MI} (hs : G0.1[b3]? = some (.inl 1)) (hM : CFv E d' M_X1_keepMade [vr b3, vi b2, vi b1, vl b0] I L I' L') (hlt : d' + 1 ≤ d) (k : Ev E d M_X1_dealAll 22 [vr a0, vr a1, vi a2] [] (G0, cs) I' L' Z) (hc1 : cs.1 ≤ M_X1_dealAll.2.2.2.2.1 := by decide) (hc2 : cs.2 ≤ M_X1_dealAll.2.2.2.2.2 := by decide) : Ev E d M_X1_dealAll 19 [vr a0, vr a1, vi a2] [vl b0, vi b1, vi b2, vr b3] (G0, cs) I L Z := E_callV (as := [vi b2, vi b1, vl b0]) (rest := []) (n := 3) hM dX1_dealAll_19 wM_RX1_46 wS_X1_keepMade wV_X1_keepMade hs (by decide) rfl hlt wC_X1_keepMade wI_X1 (by decide +kernel) rfl (by decide) (Nat.le_of_ble_eq_true rfl) hc1 hc2 rfl (fun r g' I2 L2 h => by obtain ⟨rfl, rfl, rfl, rfl⟩ := h; exact k)
theorem t29_X1_dealAll_22 {E : En} {d : Nat} {κ : Kp} {I L : MI} {Z : Zt} {a0 a1 : Nat} {a2 : Int}  (k : Ev E d M_X1_dealAll 25 [vr a0, vr a1, vi (a2 + 1)] [] κ I L Z) : Ev E d M_X1_dealAll 22 [vr a0, vr a1, vi a2] [] κ I L Z := E_iinc dX1_dealAll_22 rfl rfl (Nat.le_of_ble_eq_true rfl) k
theorem t29_X1_dealAll_25 {E : En} {d : Nat} {κ : Kp} {I L : MI} {Z : Zt} {a0 a1 : Nat} {a2 : Int}  (k : Ev E d M_X1_dealAll 7 [vr a0, vr a1, vi a2] [] κ I L Z) : Ev E d M_X1_dealAll 25 [vr a0, vr a1, vi a2] [] κ I L Z := E_goto dX1_dealAll_25 (by decide) k
theorem t29_X1_dealAll_28 {E : En} {d : Nat} {κ : Kp} {I L : MI} {Z : Zt} {a0 a1 : Nat} {a2 : Int}  (k : Ev E d M_X1_dealAll 29 [vr a0, vr a1, vi a2] [vr a0] κ I L Z) : Ev E d M_X1_dealAll 28 [vr a0, vr a1, vi a2] [] κ I L Z := E_aload_n dX1_dealAll_28 rfl k
theorem t29_X1_dealAll_29 {E : En} {d : Nat} {κ : Kp} {I L : MI} {Z : Zt} {a0 a1 b0 : Nat} {a2 : Int}  (k : Ev E d M_X1_dealAll 30 [vr a0, vr a1, vi a2] [vr a1, vr b0] κ I L Z) : Ev E d M_X1_dealAll 29 [vr a0, vr a1, vi a2] [vr b0] κ I L Z := E_aload_n dX1_dealAll_29 rfl k
theorem t29_X1_dealAll_30 {E : En} {d : Nat} {κ : Kp} {I L : MI} {Z : Zt} {a0 a1 b0 b1 : Nat} {a2 : Int}  (k : Ev E d M_X1_dealAll 31 [vr a0, vr a1, vi a2] [vi 0, vr b0, vr b1] κ I L Z) : Ev E d M_X1_dealAll 30 [vr a0, vr a1, vi a2] [vr b0, vr b1] κ I L Z := E_iconst (v := 0) dX1_dealAll_30 rfl k
theorem t29_X1_dealAll_31 {E : En} {d : Nat} {κ : Kp} {I L : MI} {Z : Zt} {a0 a1 b1 b2 : Nat} {a2 b0 : Int}  (k : Ev E d M_X1_dealAll 32 [vr a0, vr a1, vi a2] [vi 0, vi b0, vr b1, vr b2] κ I L Z) : Ev E d M_X1_dealAll 31 [vr a0, vr a1, vi a2] [vi b0, vr b1, vr b2] κ I L Z := E_iconst (v := 0) dX1_dealAll_31 rfl k
theorem t29_X1_dealAll_32 {E : En} {d d' : Nat} {cs : Nat × Nat} {I L : MI} {Z : Zt} {a0 a1 b2 b3 : Nat} {a2 b0 b1 : Int} {Q : MI → MI → Prop} (hM : CQv E d' M_X1_dealFrom [vr b3, vr b2, vi b1, vi b0] I L Q) (hlt : d' + 1 ≤ d) (kk : ∀ (I' L' : MI), Q I' L' → Ev E d M_X1_dealAll 35 [vr a0, vr a1, vi a2] [] (G0, cs) I' L' Z) (hc1 : cs.1 ≤ M_X1_dealAll.2.2.2.2.1 := by decide) (hc2 : cs.2 ≤ M_X1_dealAll.2.2.2.2.2 := by decide) : Ev E d M_X1_dealAll 32 [vr a0, vr a1, vi a2] [vi b0, vi b1, vr b2, vr b3] (G0, cs) I L Z := E_callS (as := [vr b3, vr b2, vi b1, vi b0]) (rest := []) (n := 4) hM dX1_dealAll_32 wM_RX1_50 wS_X1_dealFrom hlt wC_X1_dealFrom wI_X1 (by decide +kernel) rfl (by decide) (Nat.le_of_ble_eq_true rfl) hc1 hc2 rfl (fun r g' I' L' h => by obtain ⟨rfl, rfl, h⟩ := h; exact kk I' L' h)
theorem t29_X1_dealAll_35 {E : En} {d : Nat} {g : Geo} {I L : MI} {Q : Option AV → Geo → MI → MI → Prop} {cs : Nat × Nat} {a0 a1 : Nat} {a2 : Int} (hq : Q none g I L) (h1 : cs.1 ≤ M_X1_dealAll.2.2.2.2.1 := by decide) (h2 : cs.2 ≤ M_X1_dealAll.2.2.2.2.2 := by decide) : Ev E d M_X1_dealAll 35 [vr a0, vr a1, vi a2] [] (g, cs) I L (ZQ E M_X1_dealAll Q) := E_return rfl dX1_dealAll_35 hq h1 h2
theorem t29_X1_dealAll_0 {E : En} {d : Nat} {κ : Kp} {I L : MI} {Z : Zt} {a0 a1 : Nat}  (k : Ev E d M_X1_dealAll 1 [vr a0, vr a1, vu] [vr a0] κ I L Z) : Ev E d M_X1_dealAll 0 [vr a0, vr a1, vu] [] κ I L Z := E_aload_n dX1_dealAll_0 rfl k
theorem t29_X1_dealAll_1 {E : En} {d : Nat} {κ : Kp} {I L : MI} {Z : Zt} {a0 a1 b0 : Nat}  (k : Ev E d M_X1_dealAll 2 [vr a0, vr a1, vu] [vl 0, vr b0] κ I L Z) : Ev E d M_X1_dealAll 1 [vr a0, vr a1, vu] [vr b0] κ I L Z := E_lconst (v := 0) dX1_dealAll_1 rfl k
theorem t29_X1_dealAll_2 {E : En} {d : Nat} {κ : Kp} {I L : MI} {Z : Zt} {a0 a1 b1 : Nat} {b0 : Int} (hs : κ.1.1[b1]? = some (.inl 1)) (hz : Jr b0) (k : Ev E d M_X1_dealAll 5 [vr a0, vr a1, vu] [] κ I (up2 L b1 6 b0) Z) : Ev E d M_X1_dealAll 2 [vr a0, vr a1, vu] [vl b0, vr b1] κ I L Z := E_putL (ci := 1) (n := 6) dX1_dealAll_2 wF_RX1_42 (by decide) hs rfl rfl hz k
theorem t29_X1_dealAll_5 {E : En} {d : Nat} {κ : Kp} {I L : MI} {Z : Zt} {a0 a1 : Nat}  (k : Ev E d M_X1_dealAll 6 [vr a0, vr a1, vu] [vi 0] κ I L Z) : Ev E d M_X1_dealAll 5 [vr a0, vr a1, vu] [] κ I L Z := E_iconst (v := 0) dX1_dealAll_5 rfl k
theorem t29_X1_dealAll_6 {E : En} {d : Nat} {κ : Kp} {I L : MI} {Z : Zt} {a0 a1 : Nat} {b0 : Int}  (k : Ev E d M_X1_dealAll 7 [vr a0, vr a1, vi b0] [] κ I L Z) : Ev E d M_X1_dealAll 6 [vr a0, vr a1, vu] [vi b0] κ I L Z := E_istore_n dX1_dealAll_6 rfl (Nat.le_of_ble_eq_true rfl) k
/-! CONTRACTS: speeches; all dealings -/
def BgQ (I L : MI) (s u : Nat) : MI → MI → Prop := fun I' L' => TFr I I' (s + 1) ∧ TEq I' (s + 1) I u (I u 0) (I u 1) (I u 2) ∧ (∀ o, o ≠ s + 10 → ∀ k, L' o k = L o k) ∧ ∀ k : Int, 0 ≤ k → k < 8 → L' (s + 10) k = 0
def SbQ (I L : MI) (s r : Nat) : MI → MI → Prop := fun I' L' => TFr I I' (s + 1) ∧ TEq I' (s + 1) I (r + 1) (I (r + 1) 0) (I (r + 1) 1) (I (r + 1) 2) ∧ (∀ o, o ≠ s + 10 → ∀ k, L' o k = L o k) ∧ ∀ k : Int, 0 ≤ k → k < 8 → L' (s + 10) k = L (r + 10) k
theorem c_X7_begin {E : En} {I L : MI} {s u : Nat} (hs : SpS s := by assumption) (ht : TgS (s + 1) := by assumption) (hu : TgS u := by assumption) (hne : u + 8 < s + 1 ∨ s + 1 + 8 < u := by omega) (hb : TB I u := by assumption) : CQv E 4 M_X7_begin [vr s, vr u] I L (BgQ I L s u) := by
  obtain ⟨s1, s2, s3, s4⟩ := id hs
  have h91 := ht.1
  have h92 := hu.1
  refine CM_of' (al := [vr _, vr _, vu]) rfl (Nat.le_of_ble_eq_true rfl) rfl (fun hM => ?_)
  have key : ∀ (f : Nat) (k : Int) (I1 L1 : MI), 8 - k < f → 0 ≤ k → k ≤ 8 → TFr I I1 (s + 1) → TEq I1 (s + 1) I u (I u 0) (I u 1) (I u 2) → (∀ o, o ≠ s + 10 → ∀ k, L1 o k = L o k) → (∀ j : Int, 0 ≤ j → j < k → L1 (s + 10) j = 0) → Ev E 4 M_X7_begin 10 [vr s, vr u, vi k] [] (G0, 0, 0) I1 L1 (ZQ E M_X7_begin (QQv (BgQ I L s u))) := by
    intro f
    induction f with
    | zero => intro k I1 L1 h1 h2; omega
    | succ f ih =>
      intro k I1 L1 k1 k2 k3 g1 g2 g3 g4
      refine (t29_X7_begin_10 (t29_X7_begin_11 (t29_X7_begin_13 (by omega) (by omega) (fun c13 => (t29_X7_begin_28 ?_)) (fun c13 => (t29_X7_begin_16 (t29_X7_begin_17 (t29_X7_begin_18 (t29_X7_begin_19 (by first | assumption | rfl) c_X7_keep (by first | decide | omega) (t29_X7_begin_22 (t29_X7_begin_25 ?_))))))))))
      -- 2 leaves: 13t :ret28 | 13f :->10
      · exact qqv ⟨g1, g2, g3, fun j j0 j1 => g4 j j0 (by omega)⟩
      · refine ih (k + 1) _ _ (by omega) (by omega) (by omega) g1 g2 (fun o o1 j => by rw [stL_ne (.inl o1)]; exact g3 o o1 j) fun j j0 j1 => ?_
        by_cases e : j = k
        · subst e; rw [stL_at (by omega)]
        · rw [stL_ne (.inr e)]; exact g4 j j0 (by omega)
  refine (t29_X7_begin_0 (t29_X7_begin_1 (by first | assumption | rfl) (by first | assumption | rfl) (t29_X7_begin_4 (t29_X7_begin_5 (by first | assumption | rfl) c_X9_become (by first | decide | omega) (fun I5 L5 q5 => ?_)))))
  -- 1 leaves: :call5
  obtain ⟨rfl, q1, q2⟩ := q5
  refine (t29_X7_begin_8 (t29_X7_begin_9 ?_))
  -- 1 leaves: :->10
  exact key 9 0 _ _ (by omega) (by omega) (by omega) q1 q2 (fun o _ k => rfl) (fun j j0 j1 => by omega)
theorem c_X7_become {E : En} {I L : MI} {s r : Nat} (hs : SpS s := by assumption) (ht : TgS (s + 1) := by assumption) (hr : SpS r := by assumption) (hu : TgS (r + 1) := by assumption) (hne : r + 10 < s ∨ s + 10 < r := by omega) (hb : TB I (r + 1) := by assumption) : CQv E 4 M_X7_become [vr s, vr r] I L (SbQ I L s r) := by
  obtain ⟨s1, s2, s3, s4⟩ := id hs
  obtain ⟨r1, r2, r3, r4⟩ := id hr
  have h91 := ht.1
  have h92 := hu.1
  refine CM_of' (al := [vr _, vr _, vu]) rfl (Nat.le_of_ble_eq_true rfl) rfl (fun hM => ?_)
  have key : ∀ (f : Nat) (k : Int) (I1 L1 : MI), 8 - k < f → 0 ≤ k → k ≤ 8 → TFr I I1 (s + 1) → TEq I1 (s + 1) I (r + 1) (I (r + 1) 0) (I (r + 1) 1) (I (r + 1) 2) → (∀ o, o ≠ s + 10 → ∀ k, L1 o k = L o k) → (∀ j : Int, 0 ≤ j → j < k → L1 (s + 10) j = L (r + 10) j) → Ev E 4 M_X7_become 13 [vr s, vr r, vi k] [] (G0, 0, 0) I1 L1 (ZQ E M_X7_become (QQv (SbQ I L s r))) := by
    intro f
    induction f with
    | zero => intro k I1 L1 h1 h2; omega
    | succ f ih =>
      intro k I1 L1 k1 k2 k3 g1 g2 g3 g4
      refine (t29_X7_become_13 (t29_X7_become_14 (t29_X7_become_16 (by omega) (by omega) (fun c16 => (t29_X7_become_35 ?_)) (fun c16 => (t29_X7_become_19 (t29_X7_become_20 (t29_X7_become_21 (t29_X7_become_22 (t29_X7_become_23 (by first | assumption | rfl) c_X7_held (by first | decide | omega) (fun r23 => (t29_X7_become_26 (by first | assumption | rfl) c_X7_keep (by first | decide | omega) (t29_X7_become_29 (t29_X7_become_32 ?_)))))))))))))
      -- 2 leaves: 16t :ret35 | 16f :->13
      · exact qqv ⟨g1, g2, g3, fun j j0 j1 => g4 j j0 (by omega)⟩
      · refine ih (k + 1) _ _ (by omega) (by omega) (by omega) g1 g2 (fun o o1 j => by rw [stL_ne (.inl o1)]; exact g3 o o1 j) fun j j0 j1 => ?_
        by_cases e : j = k
        · subst e; rw [stL_at (by omega)]; unfold atL; rw [if_pos (by omega)]; exact g3 _ (by omega) _
        · rw [stL_ne (.inr e)]; exact g4 j j0 (by omega)
  refine (t29_X7_become_0 (t29_X7_become_1 (by first | assumption | rfl) (by first | assumption | rfl) (t29_X7_become_4 (t29_X7_become_5 (by first | assumption | rfl) (by first | assumption | rfl) (t29_X7_become_8 (by first | assumption | rfl) c_X9_become (by first | decide | omega) (fun I8 L8 q8 => ?_))))))
  -- 1 leaves: :call8
  obtain ⟨rfl, q1, q2⟩ := q8
  refine (t29_X7_become_11 (t29_X7_become_12 ?_))
  -- 1 leaves: :->13
  exact key 9 0 _ _ (by omega) (by omega) (by omega) q1 q2 (fun o _ k => rfl) (fun j j0 j1 => by omega)
def dlA (I : MI) (n m : Nat) (D : Nat → Nat → Int) (P : Nat → Int) : Int × (Nat → Int) := dfA n m D P n 0 (fun _ => 0) (0, fun t => I 37 t)
def DaQ (I L : MI) (n : Nat) (b : Int × (Nat → Int)) : MI → MI → Prop := fun I' L' => (∀ o, o ≠ 35 → o ≠ 37 → ∀ j, I' o j = I o j) ∧ (∀ o, o ≠ 33 → o ≠ 36 → ∀ j, L' o j = L o j) ∧ L' 33 6 = b.1 ∧ ∀ t : Nat, t < n → I' 37 t = b.2 t
theorem c_X1_dealAll {E : En} {I L : MI} {n m : Nat} {D : Nat → Nat → Int} {P : Nat → Int} (hn : n ≤ 6) (hm : 0 < m ∧ m ≤ 4) (hn1 : 0 < n) (hw : DlW I n m D P) : CQv E 10 M_X1_dealAll [vr 33, vr 15] I L (DaQ I L n (dlA I n m D P)) := by
  have i4 : I 33 4 = m := hw.2.1
  refine CM_of' (al := [vr _, vr _, vu]) rfl (Nat.le_of_ble_eq_true rfl) rfl (fun hM => ?_)
  have key : ∀ (f : Nat) (k : Nat) (L1 : MI), m - k < f → k ≤ m → (∀ o, o ≠ 33 → o ≠ 36 → ∀ j, L1 o j = L o j) → L1 33 6 = 0 → (∀ q : Nat, q < k → L1 36 q = 1) → Ev E 10 M_X1_dealAll 7 [vr 33, vr 15, vi (k : Int)] [] (G0, 0, 0) I L1 (ZQ E M_X1_dealAll (QQv (DaQ I L n (dlA I n m D P)))) := by
    intro f
    induction f with
    | zero => intro k L1 h1 h2; omega
    | succ f ih =>
      intro k L1 k1 k2 f1 f2 f3
      have hc : DlS I L1 n m 0 0 D P (fun _ => 0) (0, fun t => I 37 t) → CQv E (3 + n) M_X1_dealFrom [vr 33, vr 15, vi 0, vi 0] I L1 (DlQ I L1 n 0 (dlA I n m D P)) := fun hd => c_X1_dealFrom hn hm hn1 n 0 0 (fun _ => 0) (0, fun t => I 37 t) I L1 (by omega) (Nat.pos_of_ne_zero (by simp)) rfl (fun t => hn1) hw hd
      refine (t29_X1_dealAll_7 (t29_X1_dealAll_8 (t29_X1_dealAll_9 (by first | assumption | rfl) (fun r9 => (t29_X1_dealAll_12 (by omega) (by omega) (fun c12 => ?_) (fun c12 => (t29_X1_dealAll_15 (t29_X1_dealAll_16 (t29_X1_dealAll_17 (t29_X1_dealAll_18 (t29_X1_dealAll_19 (by first | assumption | rfl) c_X1_keepMade (by first | decide | omega) (t29_X1_dealAll_22 (t29_X1_dealAll_25 ?_)))))))))))))
      -- 2 leaves: 12t :->28 | 12f :->7
      · have : k = m := by omega
        subst this
        have hd := hc ⟨fun t ht => by omega, fun q hq => ⟨?_, ?_, ?_⟩, f2, fun t ht => rfl⟩
        refine (t29_X1_dealAll_28 (t29_X1_dealAll_29 (t29_X1_dealAll_30 (t29_X1_dealAll_31 (t29_X1_dealAll_32 (hd) (by first | decide | omega) (fun I32 L32 q32 => ?_))))))
        -- 1 leaves: :call32
        · obtain ⟨q1, q2, q3, q4, q5, q6⟩ := q32
          refine (t29_X1_dealAll_35 ?_)
          -- 1 leaves: :ret35
          exact qqv ⟨q1, fun o o1 o2 j => (q3 o o1 o2 j).trans (f1 o o1 o2 j), q5, q6⟩
        · have := f3 q hq
          rw [show ((0 : Nat) : Int) * 4 + (q : Int) = q by omega]
          exact this
        · show (0 : Int) < 1; decide
        · show (1 : Int) ≤ 1000000000000000; decide
      · have : ((k : Int) + 1) = ((k + 1 : Nat) : Int) := by omega
        rw [this]
        refine ih (k + 1) _ (by omega) (by omega) (fun o o1 o2 j => by rw [stL_ne (.inl o2)]; exact f1 o o1 o2 j) (by rw [stL_ne (.inl (by decide))]; exact f2) fun q hq => ?_
        by_cases e : q = k
        · subst e; rw [show (0 : Int) * 4 + (q : Int) = q by omega, stL_at (by omega)]
        · rw [stL_ne (.inr (by omega))]; exact f3 q (by omega)
  refine (t29_X1_dealAll_0 (t29_X1_dealAll_1 (t29_X1_dealAll_2 (by first | assumption | rfl) (by omega) (t29_X1_dealAll_5 (t29_X1_dealAll_6 ?_)))))
  -- 1 leaves: :->7
  exact key (m + 1) 0 _ (by omega) (by omega) (fun o o1 _ j => up2_ne (.inl o1)) (up2_eq _ _ _ _) (fun q hq => by omega)
