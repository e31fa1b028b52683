theorem t24_X5_readNumber_52 {E : En} {d : Nat} {κ : Kp} {I L : MI} {Z : Zt} {a0 : Nat} {a1 a2 a3 : Int}  (k : Ev E d M_X5_readNumber 53 [vr a0, vi a1, vi a2, vi a3, vu] [vr a0] κ I L Z) : Ev E d M_X5_readNumber 52 [vr a0, vi a1, vi a2, vi a3, vu] [] κ I L Z := E_aload_n dX5_readNumber_52 rfl k
theorem t24_X5_readNumber_53 {E : En} {d : Nat} {κ : Kp} {I L : MI} {Z : Zt} {a0 b0 : Nat} {a1 a2 a3 : Int} (hs : κ.1.1[b0]? = some (.inl 5)) (k : Ir (I b0 6) → Ev E d M_X5_readNumber 56 [vr a0, vi a1, vi a2, vi a3, vu] [vi (I b0 6)] κ I L Z) : Ev E d M_X5_readNumber 53 [vr a0, vi a1, vi a2, vi a3, vu] [vr b0] κ I L Z := E_getI (ci := 5) (n := 6) dX5_readNumber_53 wF_RX5_19 (by decide) hs rfl k
theorem t24_X5_readNumber_56 {E : En} {d : Nat} {κ : Kp} {I L : MI} {Z : Zt} {a0 : Nat} {a1 a2 a3 b0 : Int} (hx : Ir b0) (kt : b0 = 0 → Ev E d M_X5_readNumber 61 [vr a0, vi a1, vi a2, vi a3, vu] [] κ I L Z) (kf : ¬ b0 = 0 → Ev E d M_X5_readNumber 59 [vr a0, vi a1, vi a2, vi a3, vu] [] κ I L Z) : Ev E d M_X5_readNumber 56 [vr a0, vi a1, vi a2, vi a3, vu] [vi b0] κ I L Z := E_if_eq dX5_readNumber_56 hx kt kf (by decide)
theorem t24_X5_readNumber_61 {E : En} {d : Nat} {κ : Kp} {I L : MI} {Z : Zt} {a0 : Nat} {a1 a2 a3 : Int}  (k : Ev E d M_X5_readNumber 62 [vr a0, vi a1, vi a2, vi a3, vu] [vr a0] κ I L Z) : Ev E d M_X5_readNumber 61 [vr a0, vi a1, vi a2, vi a3, vu] [] κ I L Z := E_aload_n dX5_readNumber_61 rfl k
theorem t24_X5_readNumber_62 {E : En} {d : Nat} {κ : Kp} {I L : MI} {Z : Zt} {a0 b0 : Nat} {a1 a2 a3 : Int} (hs : κ.1.1[b0]? = some (.inl 5)) (k : Ir (I b0 5) → Ev E d M_X5_readNumber 65 [vr a0, vi a1, vi a2, vi a3, vu] [vi (I b0 5)] κ I L Z) : Ev E d M_X5_readNumber 62 [vr a0, vi a1, vi a2, vi a3, vu] [vr b0] κ I L Z := E_getI (ci := 5) (n := 5) dX5_readNumber_62 wF_RX5_80 (by decide) hs rfl k
theorem t24_X5_readNumber_65 {E : En} {d : Nat} {κ : Kp} {I L : MI} {Z : Zt} {a0 : Nat} {a1 a2 a3 b0 : Int}  (k : Ev E d M_X5_readNumber 67 [vr a0, vi a1, vi a2, vi a3, vi b0] [] κ I L Z) : Ev E d M_X5_readNumber 65 [vr a0, vi a1, vi a2, vi a3, vu] [vi b0] κ I L Z := E_istore dX5_readNumber_65 rfl (Nat.le_of_ble_eq_true rfl) k
theorem t24_X5_readNumber_67 {E : En} {d : Nat} {κ : Kp} {I L : MI} {Z : Zt} {a0 : Nat} {a1 a2 a3 a4 : Int}  (k : Ev E d M_X5_readNumber 68 [vr a0, vi a1, vi a2, vi a3, vi a4] [vr a0] κ I L Z) : Ev E d M_X5_readNumber 67 [vr a0, vi a1, vi a2, vi a3, vi a4] [] κ I L Z := E_aload_n dX5_readNumber_67 rfl k
theorem t24_X5_readNumber_68 {E : En} {d d' : Nat} {cs : Nat × Nat} {I L : MI} {Z : Zt} {a0 b0 : Nat} {a1 a2 a3 a4 : Int} {Q : MI → MI → Prop} (hs : G0.1[b0]? = some (.inl 5)) (hM : CQv E d' M_X5_next [vr b0] I L Q) (hlt : d' + 1 ≤ d) (kk : ∀ (I' L' : MI), Q I' L' → Ev E d M_X5_readNumber 71 [vr a0, vi a1, vi a2, vi a3, vi a4] [] (G0, cs) I' L' Z) (hc1 : cs.1 ≤ M_X5_readNumber.2.2.2.2.1 := by decide) (hc2 : cs.2 ≤ M_X5_readNumber.2.2.2.2.2 := by decide) : Ev E d M_X5_readNumber 68 [vr a0, vi a1, vi a2, vi a3, vi a4] [vr b0] (G0, cs) I L Z := E_callV (as := []) (rest := []) (n := 0) hM dX5_readNumber_68 wM_RX5_31 wS_X5_next wV_X5_next hs (by decide) rfl hlt wC_X5_next wI_X5 (by decide +kernel) rfl (by decide) (Nat.le_of_ble_eq_true rfl) hc1 hc2 rfl (fun r g' I' L' h => by obtain ⟨rfl, rfl, h⟩ := h; exact kk I' L' h)
theorem t24_X5_readNumber_59 {E : En} {d : Nat} {κ : Kp} {I L : MI} {Z : Zt} {a0 : Nat} {a1 a2 a3 : Int}  (k : Ev E d M_X5_readNumber 60 [vr a0, vi a1, vi a2, vi a3, vu] [vi 0] κ I L Z) : Ev E d M_X5_readNumber 59 [vr a0, vi a1, vi a2, vi a3, vu] [] κ I L Z := E_iconst (v := 0) dX5_readNumber_59 rfl k
theorem t24_X5_readNumber_60 {E : En} {d : Nat} {g : Geo} {I L : MI} {Q : Option AV → Geo → MI → MI → Prop} {cs : Nat × Nat} {a0 : Nat} {a1 a2 a3 b0 : Int} (hq : Q (some (vi b0)) g I L) (h1 : cs.1 ≤ M_X5_readNumber.2.2.2.2.1 := by decide) (h2 : cs.2 ≤ M_X5_readNumber.2.2.2.2.2 := by decide) : Ev E d M_X5_readNumber 60 [vr a0, vi a1, vi a2, vi a3, vu] [vi b0] (g, cs) I L (ZQ E M_X5_readNumber Q) := E_ireturn rfl dX5_readNumber_60 hq h1 h2
theorem t24_X5_readNumber_71 {E : En} {d : Nat} {κ : Kp} {I L : MI} {Z : Zt} {a0 : Nat} {a1 a2 a3 a4 : Int}  (k : Ev E d M_X5_readNumber 73 [vr a0, vi a1, vi a2, vi a3, vi a4] [vi a4] κ I L Z) : Ev E d M_X5_readNumber 71 [vr a0, vi a1, vi a2, vi a3, vi a4] [] κ I L Z := E_iload dX5_readNumber_71 rfl k
theorem t24_X5_readNumber_73 {E : En} {d : Nat} {g : Geo} {I L : MI} {Q : Option AV → Geo → MI → MI → Prop} {cs : Nat × Nat} {a0 : Nat} {a1 a2 a3 a4 b0 : Int} (hq : Q (some (vi b0)) g I L) (h1 : cs.1 ≤ M_X5_readNumber.2.2.2.2.1 := by decide) (h2 : cs.2 ≤ M_X5_readNumber.2.2.2.2.2 := by decide) : Ev E d M_X5_readNumber 73 [vr a0, vi a1, vi a2, vi a3, vi a4] [vi b0] (g, cs) I L (ZQ E M_X5_readNumber Q) := E_ireturn rfl dX5_readNumber_73 hq h1 h2
theorem t24_X5_readNumber_20 {E : En} {d : Nat} {κ : Kp} {I L : MI} {Z : Zt} {a0 : Nat} {a1 a2 a3 : Int}  (k : Ev E d M_X5_readNumber 21 [vr a0, vi a1, vi a2, vi a3, vu] [vr a0] κ I L Z) : Ev E d M_X5_readNumber 20 [vr a0, vi a1, vi a2, vi a3, vu] [] κ I L Z := E_aload_n dX5_readNumber_20 rfl k
theorem t24_X5_readNumber_21 {E : En} {d : Nat} {κ : Kp} {I L : MI} {Z : Zt} {a0 b0 : Nat} {a1 a2 a3 : Int} (hs : κ.1.1[b0]? = some (.inl 5)) (k : Ir (I b0 6) → Ev E d M_X5_readNumber 24 [vr a0, vi a1, vi a2, vi a3, vu] [vi (I b0 6)] κ I L Z) : Ev E d M_X5_readNumber 21 [vr a0, vi a1, vi a2, vi a3, vu] [vr b0] κ I L Z := E_getI (ci := 5) (n := 6) dX5_readNumber_21 wF_RX5_19 (by decide) hs rfl k
theorem t24_X5_readNumber_24 {E : En} {d : Nat} {κ : Kp} {I L : MI} {Z : Zt} {a0 : Nat} {a1 a2 a3 b0 : Int} (hx : Ir b0) (kt : ¬ b0 = 0 → Ev E d M_X5_readNumber 52 [vr a0, vi a1, vi a2, vi a3, vu] [] κ I L Z) (kf : b0 = 0 → Ev E d M_X5_readNumber 27 [vr a0, vi a1, vi a2, vi a3, vu] [] κ I L Z) : Ev E d M_X5_readNumber 24 [vr a0, vi a1, vi a2, vi a3, vu] [vi b0] κ I L Z := E_if_ne dX5_readNumber_24 hx kt kf (by decide)
theorem t24_X5_readNumber_27 {E : En} {d : Nat} {κ : Kp} {I L : MI} {Z : Zt} {a0 : Nat} {a1 a2 a3 : Int}  (k : Ev E d M_X5_readNumber 28 [vr a0, vi a1, vi a2, vi a3, vu] [vr a0] κ I L Z) : Ev E d M_X5_readNumber 27 [vr a0, vi a1, vi a2, vi a3, vu] [] κ I L Z := E_aload_n dX5_readNumber_27 rfl k
theorem t24_X5_readNumber_28 {E : En} {d : Nat} {κ : Kp} {I L : MI} {Z : Zt} {a0 b0 : Nat} {a1 a2 a3 : Int} (hs : κ.1.1[b0]? = some (.inl 5)) (k : Ir (I b0 5) → Ev E d M_X5_readNumber 31 [vr a0, vi a1, vi a2, vi a3, vu] [vi (I b0 5)] κ I L Z) : Ev E d M_X5_readNumber 28 [vr a0, vi a1, vi a2, vi a3, vu] [vr b0] κ I L Z := E_getI (ci := 5) (n := 5) dX5_readNumber_28 wF_RX5_80 (by decide) hs rfl k
theorem t24_X5_readNumber_31 {E : En} {d : Nat} {κ : Kp} {I L : MI} {Z : Zt} {a0 : Nat} {a1 a2 a3 b0 : Int}  (k : Ev E d M_X5_readNumber 32 [vr a0, vi a1, vi a2, vi a3, vu] [vi a1, vi b0] κ I L Z) : Ev E d M_X5_readNumber 31 [vr a0, vi a1, vi a2, vi a3, vu] [vi b0] κ I L Z := E_iload_n dX5_readNumber_31 rfl k
theorem t24_X5_readNumber_32 {E : En} {d : Nat} {κ : Kp} {I L : MI} {Z : Zt} {a0 : Nat} {a1 a2 a3 b0 b1 : Int} (hx : Ir b1) (hy : Ir b0) (kt : b1 < b0 → Ev E d M_X5_readNumber 47 [vr a0, vi a1, vi a2, vi a3, vu] [] κ I L Z) (kf : b0 ≤ b1 → Ev E d M_X5_readNumber 35 [vr a0, vi a1, vi a2, vi a3, vu] [] κ I L Z) : Ev E d M_X5_readNumber 32 [vr a0, vi a1, vi a2, vi a3, vu] [vi b0, vi b1] κ I L Z := E_icmp_lt dX5_readNumber_32 hx hy kt kf (by decide)
theorem t24_X5_readNumber_47 {E : En} {d : Nat} {κ : Kp} {I L : MI} {Z : Zt} {a0 : Nat} {a1 a2 a3 : Int}  (k : Ev E d M_X5_readNumber 48 [vr a0, vi a1, vi a2, vi a3, vu] [vr a0] κ I L Z) : Ev E d M_X5_readNumber 47 [vr a0, vi a1, vi a2, vi a3, vu] [] κ I L Z := E_aload_n dX5_readNumber_47 rfl k
theorem t24_X5_readNumber_48 {E : En} {d : Nat} {κ : Kp} {I L : MI} {Z : Zt} {a0 b0 : Nat} {a1 a2 a3 : Int}  (k : Ev E d M_X5_readNumber 49 [vr a0, vi a1, vi a2, vi a3, vu] [vi 2, vr b0] κ I L Z) : Ev E d M_X5_readNumber 48 [vr a0, vi a1, vi a2, vi a3, vu] [vr b0] κ I L Z := E_iconst (v := 2) dX5_readNumber_48 rfl k
theorem t24_X5_readNumber_49 {E : En} {d d' : Nat} {cs : Nat × Nat} {I L : MI} {Z : Zt} {a0 b1 : Nat} {a1 a2 a3 b0 : Int} {I' L' : MI} (hs : G0.1[b1]? = some (.inl 5)) (hM : CFv E d' M_X5_fail [vr b1, vi b0] I L I' L') (hlt : d' + 1 ≤ d) (k : Ev E d M_X5_readNumber 52 [vr a0, vi a1, vi a2, vi a3, vu] [] (G0, cs) I' L' Z) (hc1 : cs.1 ≤ M_X5_readNumber.2.2.2.2.1 := by decide) (hc2 : cs.2 ≤ M_X5_readNumber.2.2.2.2.2 := by decide) : Ev E d M_X5_readNumber 49 [vr a0, vi a1, vi a2, vi a3, vu] [vi b0, vr b1] (G0, cs) I L Z := E_callV (as := [vi b0]) (rest := []) (n := 1) hM dX5_readNumber_49 wM_RX5_40 wS_X5_fail wV_X5_fail hs (by decide) rfl hlt wC_X5_fail wI_X5 (by decide +kernel) rfl (by decide) (Nat.le_of_ble_eq_true rfl) hc1 hc2 rfl (fun r g' I2 L2 h => by obtain ⟨rfl, rfl, rfl, rfl⟩ := h; exact k)
theorem t24_X5_readNumber_35 {E : En} {d : Nat} {κ : Kp} {I L : MI} {Z : Zt} {a0 : Nat} {a1 a2 a3 : Int}  (k : Ev E d M_X5_readNumber 36 [vr a0, vi a1, vi a2, vi a3, vu] [vr a0] κ I L Z) : Ev E d M_X5_readNumber 35 [vr a0, vi a1, vi a2, vi a3, vu] [] κ I L Z := E_aload_n dX5_readNumber_35 rfl k
theorem t24_X5_readNumber_36 {E : En} {d : Nat} {κ : Kp} {I L : MI} {Z : Zt} {a0 b0 : Nat} {a1 a2 a3 : Int} (hs : κ.1.1[b0]? = some (.inl 5)) (k : Ir (I b0 5) → Ev E d M_X5_readNumber 39 [vr a0, vi a1, vi a2, vi a3, vu] [vi (I b0 5)] κ I L Z) : Ev E d M_X5_readNumber 36 [vr a0, vi a1, vi a2, vi a3, vu] [vr b0] κ I L Z := E_getI (ci := 5) (n := 5) dX5_readNumber_36 wF_RX5_80 (by decide) hs rfl k
theorem t24_X5_readNumber_39 {E : En} {d : Nat} {κ : Kp} {I L : MI} {Z : Zt} {a0 : Nat} {a1 a2 a3 b0 : Int}  (k : Ev E d M_X5_readNumber 40 [vr a0, vi a1, vi a2, vi a3, vu] [vi a2, vi b0] κ I L Z) : Ev E d M_X5_readNumber 39 [vr a0, vi a1, vi a2, vi a3, vu] [vi b0] κ I L Z := E_iload_n dX5_readNumber_39 rfl k
theorem t24_X5_readNumber_40 {E : En} {d : Nat} {κ : Kp} {I L : MI} {Z : Zt} {a0 : Nat} {a1 a2 a3 b0 b1 : Int} (hx : Ir b1) (hy : Ir b0) (kt : b0 < b1 → Ev E d M_X5_readNumber 47 [vr a0, vi a1, vi a2, vi a3, vu] [] κ I L Z) (kf : b1 ≤ b0 → Ev E d M_X5_readNumber 43 [vr a0, vi a1, vi a2, vi a3, vu] [] κ I L Z) : Ev E d M_X5_readNumber 40 [vr a0, vi a1, vi a2, vi a3, vu] [vi b0, vi b1] κ I L Z := E_icmp_gt dX5_readNumber_40 hx hy kt kf (by decide)
theorem t24_X5_readNumber_43 {E : En} {d : Nat} {κ : Kp} {I L : MI} {Z : Zt} {a0 : Nat} {a1 a2 a3 : Int}  (k : Ev E d M_X5_readNumber 44 [vr a0, vi a1, vi a2, vi a3, vu] [vi a3] κ I L Z) : Ev E d M_X5_readNumber 43 [vr a0, vi a1, vi a2, vi a3, vu] [] κ I L Z := E_iload_n dX5_readNumber_43 rfl k
theorem t24_X5_readNumber_44 {E : En} {d : Nat} {κ : Kp} {I L : MI} {Z : Zt} {a0 : Nat} {a1 a2 a3 b0 : Int} (hx : Ir b0) (kt : ¬ b0 = 0 → Ev E d M_X5_readNumber 52 [vr a0, vi a1, vi a2, vi a3, vu] [] κ I L Z) (kf : b0 = 0 → Ev E d M_X5_readNumber 47 [vr a0, vi a1, vi a2, vi a3, vu] [] κ I L Z) : Ev E d M_X5_readNumber 44 [vr a0, vi a1, vi a2, vi a3, vu] [vi b0] κ I L Z := E_if_ne dX5_readNumber_44 hx kt kf (by decide)
theorem t24_X5_readNumber_0 {E : En} {d : Nat} {κ : Kp} {I L : MI} {Z : Zt} {a0 : Nat} {a1 a2 a3 : Int}  (k : Ev E d M_X5_readNumber 1 [vr a0, vi a1, vi a2, vi a3, vu] [vr a0] κ I L Z) : Ev E d M_X5_readNumber 0 [vr a0, vi a1, vi a2, vi a3, vu] [] κ I L Z := E_aload_n dX5_readNumber_0 rfl k
theorem t24_X5_readNumber_1 {E : En} {d : Nat} {κ : Kp} {I L : MI} {Z : Zt} {a0 b0 : Nat} {a1 a2 a3 : Int} (hs : κ.1.1[b0]? = some (.inl 5)) (k : Ir (I b0 6) → Ev E d M_X5_readNumber 4 [vr a0, vi a1, vi a2, vi a3, vu] [vi (I b0 6)] κ I L Z) : Ev E d M_X5_readNumber 1 [vr a0, vi a1, vi a2, vi a3, vu] [vr b0] κ I L Z := E_getI (ci := 5) (n := 6) dX5_readNumber_1 wF_RX5_19 (by decide) hs rfl k
theorem t24_X5_readNumber_4 {E : En} {d : Nat} {κ : Kp} {I L : MI} {Z : Zt} {a0 : Nat} {a1 a2 a3 b0 : Int} (hx : Ir b0) (kt : ¬ b0 = 0 → Ev E d M_X5_readNumber 20 [vr a0, vi a1, vi a2, vi a3, vu] [] κ I L Z) (kf : b0 = 0 → Ev E d M_X5_readNumber 7 [vr a0, vi a1, vi a2, vi a3, vu] [] κ I L Z) : Ev E d M_X5_readNumber 4 [vr a0, vi a1, vi a2, vi a3, vu] [vi b0] κ I L Z := E_if_ne dX5_readNumber_4 hx kt kf (by decide)
theorem t24_X5_readNumber_7 {E : En} {d : Nat} {κ : Kp} {I L : MI} {Z : Zt} {a0 : Nat} {a1 a2 a3 : Int}  (k : Ev E d M_X5_readNumber 8 [vr a0, vi a1, vi a2, vi a3, vu] [vr a0] κ I L Z) : Ev E d M_X5_readNumber 7 [vr a0, vi a1, vi a2, vi a3, vu] [] κ I L Z := E_aload_n dX5_readNumber_7 rfl k
theorem t24_X5_readNumber_8 {E : En} {d : Nat} {κ : Kp} {I L : MI} {Z : Zt} {a0 b0 : Nat} {a1 a2 a3 : Int} (hs : κ.1.1[b0]? = some (.inl 5)) (k : Ir (I b0 2) → Ev E d M_X5_readNumber 11 [vr a0, vi a1, vi a2, vi a3, vu] [vi (I b0 2)] κ I L Z) : Ev E d M_X5_readNumber 8 [vr a0, vi a1, vi a2, vi a3, vu] [vr b0] κ I L Z := E_getI (ci := 5) (n := 2) dX5_readNumber_8 wF_RX5_57 (by decide) hs rfl k
theorem t24_X5_readNumber_11 {E : En} {d : Nat} {κ : Kp} {I L : MI} {Z : Zt} {a0 : Nat} {a1 a2 a3 b0 : Int}  (k : Ev E d M_X5_readNumber 12 [vr a0, vi a1, vi a2, vi a3, vu] [vi 3, vi b0] κ I L Z) : Ev E d M_X5_readNumber 11 [vr a0, vi a1, vi a2, vi a3, vu] [vi b0] κ I L Z := E_iconst (v := 3) dX5_readNumber_11 rfl k
theorem t24_X5_readNumber_12 {E : En} {d : Nat} {κ : Kp} {I L : MI} {Z : Zt} {a0 : Nat} {a1 a2 a3 b0 b1 : Int} (hx : Ir b1) (hy : Ir b0) (kt : b1 = b0 → Ev E d M_X5_readNumber 20 [vr a0, vi a1, vi a2, vi a3, vu] [] κ I L Z) (kf : ¬ b1 = b0 → Ev E d M_X5_readNumber 15 [vr a0, vi a1, vi a2, vi a3, vu] [] κ I L Z) : Ev E d M_X5_readNumber 12 [vr a0, vi a1, vi a2, vi a3, vu] [vi b0, vi b1] κ I L Z := E_icmp_eq dX5_readNumber_12 hx hy kt kf (by decide)
theorem t24_X5_readNumber_15 {E : En} {d : Nat} {κ : Kp} {I L : MI} {Z : Zt} {a0 : Nat} {a1 a2 a3 : Int}  (k : Ev E d M_X5_readNumber 16 [vr a0, vi a1, vi a2, vi a3, vu] [vr a0] κ I L Z) : Ev E d M_X5_readNumber 15 [vr a0, vi a1, vi a2, vi a3, vu] [] κ I L Z := E_aload_n dX5_readNumber_15 rfl k
theorem t24_X5_readNumber_16 {E : En} {d : Nat} {κ : Kp} {I L : MI} {Z : Zt} {a0 b0 : Nat} {a1 a2 a3 : Int}  (k : Ev E d M_X5_readNumber 17 [vr a0, vi a1, vi a2, vi a3, vu] [vi 1, vr b0] κ I L Z) : Ev E d M_X5_readNumber 16 [vr a0, vi a1, vi a2, vi a3, vu] [vr b0] κ I L Z := E_iconst (v := 1) dX5_readNumber_16 rfl k
theorem t24_X5_readNumber_17 {E : En} {d d' : Nat} {cs : Nat × Nat} {I L : MI} {Z : Zt} {a0 b1 : Nat} {a1 a2 a3 b0 : Int} {I' L' : MI} (hs : G0.1[b1]? = some (.inl 5)) (hM : CFv E d' M_X5_fail [vr b1, vi b0] I L I' L') (hlt : d' + 1 ≤ d) (k : Ev E d M_X5_readNumber 20 [vr a0, vi a1, vi a2, vi a3, vu] [] (G0, cs) I' L' Z) (hc1 : cs.1 ≤ M_X5_readNumber.2.2.2.2.1 := by decide) (hc2 : cs.2 ≤ M_X5_readNumber.2.2.2.2.2 := by decide) : Ev E d M_X5_readNumber 17 [vr a0, vi a1, vi a2, vi a3, vu] [vi b0, vr b1] (G0, cs) I L Z := E_callV (as := [vi b0]) (rest := []) (n := 1) hM dX5_readNumber_17 wM_RX5_40 wS_X5_fail wV_X5_fail hs (by decide) rfl hlt wC_X5_fail wI_X5 (by decide +kernel) rfl (by decide) (Nat.le_of_ble_eq_true rfl) hc1 hc2 rfl (fun r g' I2 L2 h => by obtain ⟨rfl, rfl, rfl, rfl⟩ := h; exact k)
theorem t24_X5_readSign_20 {E : En} {d : Nat} {κ : Kp} {I L : MI} {Z : Zt} {a0 : Nat}  (k : Ev E d M_X5_readSign 21 [vr a0] [vr a0] κ I L Z) : Ev E d M_X5_readSign 20 [vr a0] [] κ I L Z := E_aload_n dX5_readSign_20 rfl k
theorem t24_X5_readSign_21 {E : En} {d : Nat} {κ : Kp} {I L : MI} {Z : Zt} {a0 b0 : Nat} (hs : κ.1.1[b0]? = some (.inl 5)) (k : Ir (I b0 6) → Ev E d M_X5_readSign 24 [vr a0] [vi (I b0 6)] κ I L Z) : Ev E d M_X5_readSign 21 [vr a0] [vr b0] κ I L Z := E_getI (ci := 5) (n := 6) dX5_readSign_21 wF_RX5_19 (by decide) hs rfl k
theorem t24_X5_readSign_24 {E : En} {d : Nat} {κ : Kp} {I L : MI} {Z : Zt} {a0 : Nat} {b0 : Int} (hx : Ir b0) (kt : ¬ b0 = 0 → Ev E d M_X5_readSign 31 [vr a0] [] κ I L Z) (kf : b0 = 0 → Ev E d M_X5_readSign 27 [vr a0] [] κ I L Z) : Ev E d M_X5_readSign 24 [vr a0] [vi b0] κ I L Z := E_if_ne dX5_readSign_24 hx kt kf (by decide)
theorem t24_X5_readSign_31 {E : En} {d : Nat} {g : Geo} {I L : MI} {Q : Option AV → Geo → MI → MI → Prop} {cs : Nat × Nat} {a0 : Nat} (hq : Q none g I L) (h1 : cs.1 ≤ M_X5_readSign.2.2.2.2.1 := by decide) (h2 : cs.2 ≤ M_X5_readSign.2.2.2.2.2 := by decide) : Ev E d M_X5_readSign 31 [vr a0] [] (g, cs) I L (ZQ E M_X5_readSign Q) := E_return rfl dX5_readSign_31 hq h1 h2
theorem t24_X5_readSign_27 {E : En} {d : Nat} {κ : Kp} {I L : MI} {Z : Zt} {a0 : Nat}  (k : Ev E d M_X5_readSign 28 [vr a0] [vr a0] κ I L Z) : Ev E d M_X5_readSign 27 [vr a0] [] κ I L Z := E_aload_n dX5_readSign_27 rfl k
theorem t24_X5_readSign_28 {E : En} {d d' : Nat} {cs : Nat × Nat} {I L : MI} {Z : Zt} {a0 b0 : Nat} {Q : MI → MI → Prop} (hs : G0.1[b0]? = some (.inl 5)) (hM : CQv E d' M_X5_next [vr b0] I L Q) (hlt : d' + 1 ≤ d) (kk : ∀ (I' L' : MI), Q I' L' → Ev E d M_X5_readSign 31 [vr a0] [] (G0, cs) I' L' Z) (hc1 : cs.1 ≤ M_X5_readSign.2.2.2.2.1 := by decide) (hc2 : cs.2 ≤ M_X5_readSign.2.2.2.2.2 := by decide) : Ev E d M_X5_readSign 28 [vr a0] [vr b0] (G0, cs) I L Z := E_callV (as := []) (rest := []) (n := 0) hM dX5_readSign_28 wM_RX5_31 wS_X5_next wV_X5_next hs (by decide) rfl hlt wC_X5_next wI_X5 (by decide +kernel) rfl (by decide) (Nat.le_of_ble_eq_true rfl) hc1 hc2 rfl (fun r g' I' L' h => by obtain ⟨rfl, rfl, h⟩ := h; exact kk I' L' h)
theorem t24_X5_readSign_0 {E : En} {d : Nat} {κ : Kp} {I L : MI} {Z : Zt} {a0 : Nat}  (k : Ev E d M_X5_readSign 1 [vr a0] [vr a0] κ I L Z) : Ev E d M_X5_readSign 0 [vr a0] [] κ I L Z := E_aload_n dX5_readSign_0 rfl k
theorem t24_X5_readSign_1 {E : En} {d : Nat} {κ : Kp} {I L : MI} {Z : Zt} {a0 b0 : Nat} (hs : κ.1.1[b0]? = some (.inl 5)) (k : Ir (I b0 6) → Ev E d M_X5_readSign 4 [vr a0] [vi (I b0 6)] κ I L Z) : Ev E d M_X5_readSign 1 [vr a0] [vr b0] κ I L Z := E_getI (ci := 5) (n := 6) dX5_readSign_1 wF_RX5_19 (by decide) hs rfl k
theorem t24_X5_readSign_4 {E : En} {d : Nat} {κ : Kp} {I L : MI} {Z : Zt} {a0 : Nat} {b0 : Int} (hx : Ir b0) (kt : ¬ b0 = 0 → Ev E d M_X5_readSign 20 [vr a0] [] κ I L Z) (kf : b0 = 0 → Ev E d M_X5_readSign 7 [vr a0] [] κ I L Z) : Ev E d M_X5_readSign 4 [vr a0] [vi b0] κ I L Z := E_if_ne dX5_readSign_4 hx kt kf (by decide)
theorem t24_X5_readSign_7 {E : En} {d : Nat} {κ : Kp} {I L : MI} {Z : Zt} {a0 : Nat}  (k : Ev E d M_X5_readSign 8 [vr a0] [vr a0] κ I L Z) : Ev E d M_X5_readSign 7 [vr a0] [] κ I L Z := E_aload_n dX5_readSign_7 rfl k
theorem t24_X5_readSign_8 {E : En} {d : Nat} {κ : Kp} {I L : MI} {Z : Zt} {a0 b0 : Nat} (hs : κ.1.1[b0]? = some (.inl 5)) (k : Ir (I b0 2) → Ev E d M_X5_readSign 11 [vr a0] [vi (I b0 2)] κ I L Z) : Ev E d M_X5_readSign 8 [vr a0] [vr b0] κ I L Z := E_getI (ci := 5) (n := 2) dX5_readSign_8 wF_RX5_57 (by decide) hs rfl k
theorem t24_X5_readSign_11 {E : En} {d : Nat} {κ : Kp} {I L : MI} {Z : Zt} {a0 : Nat} {b0 : Int}  (k : Ev E d M_X5_readSign 12 [vr a0] [vi 4, vi b0] κ I L Z) : Ev E d M_X5_readSign 11 [vr a0] [vi b0] κ I L Z := E_iconst (v := 4) dX5_readSign_11 rfl k
theorem t24_X5_readSign_12 {E : En} {d : Nat} {κ : Kp} {I L : MI} {Z : Zt} {a0 : Nat} {b0 b1 : Int} (hx : Ir b1) (hy : Ir b0) (kt : b1 = b0 → Ev E d M_X5_readSign 20 [vr a0] [] κ I L Z) (kf : ¬ b1 = b0 → Ev E d M_X5_readSign 15 [vr a0] [] κ I L Z) : Ev E d M_X5_readSign 12 [vr a0] [vi b0, vi b1] κ I L Z := E_icmp_eq dX5_readSign_12 hx hy kt kf (by decide)
theorem t24_X5_readSign_15 {E : En} {d : Nat} {κ : Kp} {I L : MI} {Z : Zt} {a0 : Nat}  (k : Ev E d M_X5_readSign 16 [vr a0] [vr a0] κ I L Z) : Ev E d M_X5_readSign 15 [vr a0] [] κ I L Z := E_aload_n dX5_readSign_15 rfl k
theorem t24_X5_readSign_16 {E : En} {d : Nat} {κ : Kp} {I L : MI} {Z : Zt} {a0 b0 : Nat}  (k : Ev E d M_X5_readSign 17 [vr a0] [vi 1, vr b0] κ I L Z) : Ev E d M_X5_readSign 16 [vr a0] [vr b0] κ I L Z := E_iconst (v := 1) dX5_readSign_16 rfl k
theorem t24_X5_readSign_17 {E : En} {d d' : Nat} {cs : Nat × Nat} {I L : MI} {Z : Zt} {a0 b1 : Nat} {b0 : Int} {I' L' : MI} (hs : G0.1[b1]? = some (.inl 5)) (hM : CFv E d' M_X5_fail [vr b1, vi b0] I L I' L') (hlt : d' + 1 ≤ d) (k : Ev E d M_X5_readSign 20 [vr a0] [] (G0, cs) I' L' Z) (hc1 : cs.1 ≤ M_X5_readSign.2.2.2.2.1 := by decide) (hc2 : cs.2 ≤ M_X5_readSign.2.2.2.2.2 := by decide) : Ev E d M_X5_readSign 17 [vr a0] [vi b0, vr b1] (G0, cs) I L Z := E_callV (as := [vi b0]) (rest := []) (n := 1) hM dX5_readSign_17 wM_RX5_40 wS_X5_fail wV_X5_fail hs (by decide) rfl hlt wC_X5_fail wI_X5 (by decide +kernel) rfl (by decide) (Nat.le_of_ble_eq_true rfl) hc1 hc2 rfl (fun r g' I2 L2 h => by obtain ⟨rfl, rfl, rfl, rfl⟩ := h; exact k)
/-! CONTRACTS: the reader's numbers and signs -/
theorem BOK_ok {s : PR} {c : Int} (h : RI s) : RI (failR s c) := h
theorem num1_ok {s : PR} (h : RI s) : RI (num1 s) := by unfold num1; split; exact h; exact h
theorem num2_ok {s : PR} {lo hi : Int} {f : Bool} (h : RI s) : RI (num2 s lo hi f) := by
  unfold num2
  split
  · exact BOK_ok (num1_ok h)
  · exact num1_ok h
theorem num2_pv {s : PR} {lo hi : Int} {f : Bool} : pv (num2 s lo hi f) = pv s := by
  unfold num2 num1
  split <;> split <;> rfl
theorem numR_ok {B : Int → Int} (hB : BOK B) {s : PR} {lo hi : Int} {f : Bool} (h : RI s) : RI (numR B s lo hi f) := by
  unfold numR
  split
  · exact nextR_ok hB (num2_ok h).2.1
  · exact num2_ok h
theorem sgnR_ok {B : Int → Int} (hB : BOK B) {s : PR} (h : RI s) : RI (sgnR B s) := by
  have h1 : RI (if pf s = 0 ∧ pk s ≠ 4 then failR s 1 else s) := by split; exact h; exact h
  unfold sgnR
  generalize (if pf s = 0 ∧ pk s ≠ 4 then failR s 1 else s) = x at *
  split
  · exact nextR_ok hB h1.2.1
  · exact h1
theorem num_good {B : Int → Int} {s : PR} {lo hi : Int} {f : Bool} (h : pf (numR B s lo hi f) = 0) : pf s = 0 ∧ pk s = 3 ∧ lo ≤ pv s ∧ pv s ≤ hi ∧ f = true ∧ numV s lo hi f = pv s ∧ numR B s lo hi f = nextR B s := by
  have h2 : pf (num2 s lo hi f) = 0 := by
    apply Classical.byContradiction
    intro q
    unfold numR at h
    rw [if_neg q] at h
    exact q h
  have h1 : ¬ (pf (num1 s) = 0 ∧ (pv s < lo ∨ hi < pv s ∨ f = false)) := fun q => by
    unfold num2 at h2
    rw [if_pos q] at h2
    exact absurd (show (2 : Int) = 0 from h2) (by decide)
  have e2 : num2 s lo hi f = num1 s := by unfold num2; rw [if_neg h1]
  rw [e2] at h2
  have h0 : ¬ (pf s = 0 ∧ pk s ≠ 3) := fun q => by
    unfold num1 at h2
    rw [if_pos q] at h2
    exact absurd (show (1 : Int) = 0 from h2) (by decide)
  have e1 : num1 s = s := by unfold num1; rw [if_neg h0]
  rw [e1] at h1 h2 e2
  have hf : f = true := by
    cases f with
    | true => rfl
    | false => exact absurd ⟨h2, .inr (.inr rfl)⟩ h1
  refine ⟨h2, Classical.byContradiction fun q => h0 ⟨h2, q⟩, ?_, ?_, hf, ?_, ?_⟩
  · apply Classical.byContradiction
    intro q
    exact h1 ⟨h2, .inl (by omega)⟩
  · apply Classical.byContradiction
    intro q
    exact h1 ⟨h2, .inr (.inl (by omega))⟩
  · unfold numV; rw [e2, if_pos h2]
  · unfold numR; rw [e2, if_pos h2]
theorem numV_b {s : PR} {lo hi : Int} {f : Bool} (h : RI s) : -1 ≤ numV s lo hi f ∧ numV s lo hi f ≤ 999 := by
  unfold numV
  split
  · exact h.2.2.1
  · decide
def NmQ (I L : MI) (lo hi : Int) (f : Bool) : Int → MI → MI → Prop := fun z I' L' => L' = L ∧ RFr I I' ∧ rg I' = numR (byI I) (rg I) lo hi f ∧ z = numV (rg I) lo hi f
theorem c_X5_readNumber {E : En} {I L : MI} {lo hi b : Int} (hlo : Ir lo := by omega) (hhi : Ir hi := by omega) (hb : b = 0 ∨ b = 1 := by omega) (hr : RI (rg I) := by assumption) : CQi E 4 M_X5_readNumber [vr 13, vi lo, vi hi, vi b] I L (NmQ I L lo hi (decide (b = 1))) := by
  refine CM_of' (al := [vr _, vi _, vi _, vi _, vu]) rfl (Nat.le_of_ble_eq_true rfl) rfl (fun hM => ?_)
  have k52 : ∀ I1, RFr I I1 → rg I1 = num2 (rg I) lo hi (decide (b = 1)) → Ev E 4 M_X5_readNumber 52 [vr 13, vi lo, vi hi, vi b, vu] [] (G0, 0, 0) I1 L (ZQ E M_X5_readNumber (QQi (NmQ I L lo hi (decide (b = 1))))) := by
    intro I1 f1 e1
    have hr1 : RI (rg I1) := by rw [e1]; exact num2_ok hr
    have he : 0 ≤ I1 13 4 ∧ I1 13 4 ≤ 400 := hr1.2.1
    have hv : -1 ≤ I1 13 5 ∧ I1 13 5 ≤ 999 := hr1.2.2.1
    have pe1 : pf (num2 (rg I) lo hi (decide (b = 1))) = I1 13 6 := by rw [← e1]; rfl
    refine (t24_X5_readNumber_52 (t24_X5_readNumber_53 (by first | assumption | rfl) (fun r53 => (t24_X5_readNumber_56 (by omega) (fun c56 => (t24_X5_readNumber_61 (t24_X5_readNumber_62 (by first | assumption | rfl) (fun r62 => (t24_X5_readNumber_65 (t24_X5_readNumber_67 (t24_X5_readNumber_68 (by first | assumption | rfl) c_X5_next (by first | decide | omega) (fun I68 L68 q68 => ?_)))))))) (fun c56 => (t24_X5_readNumber_59 (t24_X5_readNumber_60 ?_)))))))
    -- 2 leaves: 56t :call68 | 56f :ret60
    · obtain ⟨g1, g2, g3⟩ := q68
      refine (t24_X5_readNumber_71 (t24_X5_readNumber_73 ?_))
      -- 1 leaves: :ret73
      refine qqi (show NmQ I L lo hi (decide (b = 1)) _ I68 L68 from ⟨g1, fun o h k => (g2 o h k).trans (f1 o h k), ?_, ?_⟩)
      · rw [g3, e1, byI_f f1]; unfold numR; rw [if_pos (pe1.trans c56)]
      · unfold numV; rw [if_pos (pe1.trans c56), ← num2_pv (s := rg I) (lo := lo) (hi := hi) (f := decide (b = 1)), ← e1]; rfl
    · refine qqi ⟨rfl, f1, ?_, ?_⟩
      · unfold numR; rw [if_neg (by rw [pe1]; exact c56)]; exact e1
      · unfold numV; rw [if_neg (by rw [pe1]; exact c56)]
  have k20 : ∀ I1, RFr I I1 → rg I1 = num1 (rg I) → Ev E 4 M_X5_readNumber 20 [vr 13, vi lo, vi hi, vi b, vu] [] (G0, 0, 0) I1 L (ZQ E M_X5_readNumber (QQi (NmQ I L lo hi (decide (b = 1))))) := by
    intro I1 f1 e1
    have hr1 : RI (rg I1) := by rw [e1]; exact num1_ok hr
    have hb1 : 0 ≤ I1 13 3 ∧ I1 13 3 ≤ 400 := hr1.1
    have hv : -1 ≤ I1 13 5 ∧ I1 13 5 ≤ 999 := hr1.2.2.1
    have pe1 : pf (num1 (rg I)) = I1 13 6 := by rw [← e1]; rfl
    have pv1 : pv (rg I) = I1 13 5 := by
      have h : pv (num1 (rg I)) = pv (rg I) := by unfold num1; split <;> rfl
      rw [← h, ← e1]; rfl
    have bad : pf (num1 (rg I)) = 0 → (pv (rg I) < lo ∨ hi < pv (rg I) ∨ decide (b = 1) = false) → rg (up2 (up2 I1 13 6 2) 13 7 (I1 13 3)) = num2 (rg I) lo hi (decide (b = 1)) := fun h1 h2 => by
      rw [fail_rg, e1]
      unfold num2
      rw [if_pos ⟨h1, h2⟩]
    have good : ¬ (pf (num1 (rg I)) = 0 ∧ (pv (rg I) < lo ∨ hi < pv (rg I) ∨ decide (b = 1) = false)) → rg I1 = num2 (rg I) lo hi (decide (b = 1)) := fun h => by
      unfold num2
      rw [if_neg h]
      exact e1
    have ff : RFr I (up2 (up2 I1 13 6 2) 13 7 (I1 13 3)) := fun o h k => (fail_fr o h k).trans (f1 o h k)
    refine (t24_X5_readNumber_20 (t24_X5_readNumber_21 (by first | assumption | rfl) (fun r21 => (t24_X5_readNumber_24 (by omega) (fun c24 => ?_) (fun c24 => (t24_X5_readNumber_27 (t24_X5_readNumber_28 (by first | assumption | rfl) (fun r28 => (t24_X5_readNumber_31 (t24_X5_readNumber_32 (by omega) (by omega) (fun c32 => (t24_X5_readNumber_47 (t24_X5_readNumber_48 (t24_X5_readNumber_49 (by first | assumption | rfl) c_X5_fail (by first | decide | omega) ?_)))) (fun c32 => (t24_X5_readNumber_35 (t24_X5_readNumber_36 (by first | assumption | rfl) (fun r36 => (t24_X5_readNumber_39 (t24_X5_readNumber_40 (by omega) (by omega) (fun c40 => (t24_X5_readNumber_47 (t24_X5_readNumber_48 (t24_X5_readNumber_49 (by first | assumption | rfl) c_X5_fail (by first | decide | omega) ?_)))) (fun c40 => (t24_X5_readNumber_43 (t24_X5_readNumber_44 (by omega) (fun c44 => ?_) (fun c44 => (t24_X5_readNumber_47 (t24_X5_readNumber_48 (t24_X5_readNumber_49 (by first | assumption | rfl) c_X5_fail (by first | decide | omega) ?_)))))))))))))))))))))))
    -- 5 leaves: 24t :->52 | 24f 32t :->52 | 24f 32f 40t :->52 | 24f 32f 40f 44t :->52 | 24f 32f 40f 44f :->52
    · exact k52 _ f1 (good fun h => c24 (pe1.symm.trans h.1))
    · exact k52 _ ff (bad (pe1.trans c24) (.inl (by omega)))
    · exact k52 _ ff (bad (pe1.trans c24) (.inr (.inl (by omega))))
    · have b1 : b = 1 := by omega
      refine k52 _ f1 (good fun h => ?_)
      rcases h.2 with h | h | h
      · omega
      · omega
      · rw [b1] at h; exact absurd h (by decide)
    · have b0 : b = 0 := by omega
      exact k52 _ ff (bad (pe1.trans c24) (.inr (.inr (by rw [b0]; decide))))
  refine (t24_X5_readNumber_0 (t24_X5_readNumber_1 (by first | assumption | rfl) (fun r1 => (t24_X5_readNumber_4 (by omega) (fun c4 => ?_) (fun c4 => (t24_X5_readNumber_7 (t24_X5_readNumber_8 (by first | assumption | rfl) (fun r8 => (t24_X5_readNumber_11 (t24_X5_readNumber_12 (by omega) (by omega) (fun c12 => ?_) (fun c12 => (t24_X5_readNumber_15 (t24_X5_readNumber_16 (t24_X5_readNumber_17 (by first | assumption | rfl) c_X5_fail (by first | decide | omega) ?_))))))))))))))
  -- 3 leaves: 4t :->20 | 4f 12t :->20 | 4f 12f :->20
  · exact k20 _ (fun o _ k => rfl) (by unfold num1; rw [if_neg (fun h => c4 h.1)])
  · exact k20 _ (fun o _ k => rfl) (by unfold num1; rw [if_neg (fun h => h.2 c12)])
  · exact k20 _ fail_fr (by rw [fail_rg]; unfold num1; rw [if_pos ⟨c4, c12⟩])
def SgQ (I L : MI) : MI → MI → Prop := fun I' L' => L' = L ∧ RFr I I' ∧ rg I' = sgnR (byI I) (rg I)
theorem c_X5_readSign {E : En} {I L : MI} (hr : RI (rg I) := by assumption) : CQv E 4 M_X5_readSign [vr 13] I L (SgQ I L) := by
  have hb1 : 0 ≤ I 13 3 ∧ I 13 3 ≤ 400 := hr.1
  refine CM_of' (al := [vr _]) rfl (Nat.le_of_ble_eq_true rfl) rfl (fun hM => ?_)
  have k20 : ∀ I1, RFr I I1 → rg I1 = (if pf (rg I) = 0 ∧ pk (rg I) ≠ 4 then failR (rg I) 1 else rg I) → Ev E 4 M_X5_readSign 20 [vr 13] [] (G0, 0, 0) I1 L (ZQ E M_X5_readSign (QQv (SgQ I L))) := by
    intro I1 f1 e1
    have hr1 : RI (rg I1) := by rw [e1]; split; exact hr; exact hr
    have he : 0 ≤ I1 13 4 ∧ I1 13 4 ≤ 400 := hr1.2.1
    refine (t24_X5_readSign_20 (t24_X5_readSign_21 (by first | assumption | rfl) (fun r21 => (t24_X5_readSign_24 (by omega) (fun c24 => (t24_X5_readSign_31 ?_)) (fun c24 => (t24_X5_readSign_27 (t24_X5_readSign_28 (by first | assumption | rfl) c_X5_next (by first | decide | omega) (fun I28 L28 q28 => ?_))))))))
    -- 2 leaves: 24t :ret31 | 24f :call28
    · refine qqv ⟨rfl, f1, ?_⟩
      unfold sgnR
      rw [← e1, if_neg (show ¬ pf (rg I1) = 0 from c24)]
    · obtain ⟨g1, g2, g3⟩ := q28
      refine (t24_X5_readSign_31 ?_)
      -- 1 leaves: :ret31
      refine qqv (show SgQ I L I28 L28 from ⟨g1, fun o h k => (g2 o h k).trans (f1 o h k), ?_⟩)
      rw [g3, byI_f f1]
      unfold sgnR
      rw [← e1, if_pos (show pf (rg I1) = 0 from c24)]
  refine (t24_X5_readSign_0 (t24_X5_readSign_1 (by first | assumption | rfl) (fun r1 => (t24_X5_readSign_4 (by omega) (fun c4 => ?_) (fun c4 => (t24_X5_readSign_7 (t24_X5_readSign_8 (by first | assumption | rfl) (fun r8 => (t24_X5_readSign_11 (t24_X5_readSign_12 (by omega) (by omega) (fun c12 => ?_) (fun c12 => (t24_X5_readSign_15 (t24_X5_readSign_16 (t24_X5_readSign_17 (by first | assumption | rfl) c_X5_fail (by first | decide | omega) ?_))))))))))))))
  -- 3 leaves: 4t :->20 | 4f 12t :->20 | 4f 12f :->20
  · exact k20 _ (fun o _ k => rfl) (by rw [if_neg (fun h => c4 h.1)])
  · exact k20 _ (fun o _ k => rfl) (by rw [if_neg (fun h => h.2 c12)])
  · exact k20 _ fail_fr (by rw [fail_rg, if_pos ⟨c4, c12⟩])
