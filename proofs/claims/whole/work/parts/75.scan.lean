theorem t75_X11_number_0 {E : En} {d : Nat} {κ : Kp} {I L : MI} {Z : Zt} {a0 : Nat} {a1 a2 : Int}  (k : Ev E d M_X11_number 1 [vr a0, vi a1, vi a2, vu] [vr a0] κ I L Z) : Ev E d M_X11_number 0 [vr a0, vi a1, vi a2, vu] [] κ I L Z := E_aload_n dX11_number_0 rfl k
theorem t75_X11_number_1 {E : En} {d : Nat} {κ : Kp} {I L : MI} {Z : Zt} {a0 b0 : Nat} {a1 a2 : Int} (hs : κ.1.1[b0]? = some (.inl 11)) (k : Ir (I b0 17) → Ev E d M_X11_number 4 [vr a0, vi a1, vi a2, vu] [vi (I b0 17)] κ I L Z) : Ev E d M_X11_number 1 [vr a0, vi a1, vi a2, vu] [vr b0] κ I L Z := E_getI (ci := 11) (n := 17) dX11_number_1 wF_RX11_119 (by decide) hs rfl k
theorem t75_X11_number_4 {E : En} {d : Nat} {κ : Kp} {I L : MI} {Z : Zt} {a0 : Nat} {a1 a2 b0 : Int} (hx : Ir b0) (kt : b0 ≤ 0 → Ev E d M_X11_number 9 [vr a0, vi a1, vi a2, vu] [] κ I L Z) (kf : 0 < b0 → Ev E d M_X11_number 7 [vr a0, vi a1, vi a2, vu] [] κ I L Z) : Ev E d M_X11_number 4 [vr a0, vi a1, vi a2, vu] [vi b0] κ I L Z := E_if_le dX11_number_4 hx kt kf (by decide)
theorem t75_X11_number_7 {E : En} {d : Nat} {κ : Kp} {I L : MI} {Z : Zt} {a0 : Nat} {a1 a2 : Int}  (k : Ev E d M_X11_number 8 [vr a0, vi a1, vi a2, vu] [vi 0] κ I L Z) : Ev E d M_X11_number 7 [vr a0, vi a1, vi a2, vu] [] κ I L Z := E_iconst (v := 0) dX11_number_7 rfl k
theorem t75_X11_number_8 {E : En} {d : Nat} {g : Geo} {I L : MI} {Q : Option AV → Geo → MI → MI → Prop} {cs : Nat × Nat} {a0 : Nat} {a1 a2 b0 : Int} (hq : Q (some (vi b0)) g I L) (h1 : cs.1 ≤ M_X11_number.2.2.2.2.1 := by decide) (h2 : cs.2 ≤ M_X11_number.2.2.2.2.2 := by decide) : Ev E d M_X11_number 8 [vr a0, vi a1, vi a2, vu] [vi b0] (g, cs) I L (ZQ E M_X11_number Q) := E_ireturn rfl dX11_number_8 hq h1 h2
theorem t75_X11_number_9 {E : En} {d : Nat} {κ : Kp} {I L : MI} {Z : Zt} {a0 : Nat} {a1 a2 : Int}  (k : Ev E d M_X11_number 10 [vr a0, vi a1, vi a2, vu] [vr a0] κ I L Z) : Ev E d M_X11_number 9 [vr a0, vi a1, vi a2, vu] [] κ I L Z := E_aload_n dX11_number_9 rfl k
theorem t75_X11_number_10 {E : En} {d d' : Nat} {cs : Nat × Nat} {I L : MI} {Z : Zt} {a0 b0 : Nat} {a1 a2 : Int} {z : Int} {I' L' : MI} (hs : G0.1[b0]? = some (.inl 11)) (hM : CFi E d' M_X11_figures [vr b0] I L z I' L') (hlt : d' + 1 ≤ d) (k : Ir z → Ev E d M_X11_number 13 [vr a0, vi a1, vi a2, vu] [vi z] (G0, cs) I' L' Z) (hc1 : cs.1 ≤ M_X11_number.2.2.2.2.1 := by decide) (hc2 : cs.2 ≤ M_X11_number.2.2.2.2.2 := by decide) : Ev E d M_X11_number 10 [vr a0, vi a1, vi a2, vu] [vr b0] (G0, cs) I L Z := E_callV (as := []) (rest := []) (n := 0) hM dX11_number_10 wM_RX11_132 wS_X11_figures wV_X11_figures hs (by decide) rfl hlt wC_X11_figures wI_X11 (by decide +kernel) rfl (by decide) (Nat.le_of_ble_eq_true rfl) hc1 hc2 rfl (fun r g' I2 L2 h => by obtain ⟨rfl, z, rfl, hr, rfl, rfl, rfl⟩ := h; exact k hr)
theorem t75_X11_number_13 {E : En} {d : Nat} {κ : Kp} {I L : MI} {Z : Zt} {a0 : Nat} {a1 a2 b0 : Int}  (k : Ev E d M_X11_number 14 [vr a0, vi a1, vi a2, vi b0] [] κ I L Z) : Ev E d M_X11_number 13 [vr a0, vi a1, vi a2, vu] [vi b0] κ I L Z := E_istore_n dX11_number_13 rfl (Nat.le_of_ble_eq_true rfl) k
theorem t75_X11_number_14 {E : En} {d : Nat} {κ : Kp} {I L : MI} {Z : Zt} {a0 : Nat} {a1 a2 a3 : Int}  (k : Ev E d M_X11_number 15 [vr a0, vi a1, vi a2, vi a3] [vr a0] κ I L Z) : Ev E d M_X11_number 14 [vr a0, vi a1, vi a2, vi a3] [] κ I L Z := E_aload_n dX11_number_14 rfl k
theorem t75_X11_number_15 {E : En} {d : Nat} {κ : Kp} {I L : MI} {Z : Zt} {a0 b0 : Nat} {a1 a2 a3 : Int} (hs : κ.1.1[b0]? = some (.inl 11)) (k : Ir (I b0 14) → Ev E d M_X11_number 18 [vr a0, vi a1, vi a2, vi a3] [vi (I b0 14)] κ I L Z) : Ev E d M_X11_number 15 [vr a0, vi a1, vi a2, vi a3] [vr b0] κ I L Z := E_getI (ci := 11) (n := 14) dX11_number_15 wF_RX11_107 (by decide) hs rfl k
theorem t75_X11_number_18 {E : En} {d : Nat} {κ : Kp} {I L : MI} {Z : Zt} {a0 : Nat} {a1 a2 a3 b0 : Int}  (k : Ev E d M_X11_number 19 [vr a0, vi a1, vi a2, vi a3] [vi 3, vi b0] κ I L Z) : Ev E d M_X11_number 18 [vr a0, vi a1, vi a2, vi a3] [vi b0] κ I L Z := E_iconst (v := 3) dX11_number_18 rfl k
theorem t75_X11_number_19 {E : En} {d : Nat} {κ : Kp} {I L : MI} {Z : Zt} {a0 : Nat} {a1 a2 a3 b0 b1 : Int} (hx : Ir b1) (hy : Ir b0) (kt : ¬ b1 = b0 → Ev E d M_X11_number 39 [vr a0, vi a1, vi a2, vi a3] [] κ I L Z) (kf : b1 = b0 → Ev E d M_X11_number 22 [vr a0, vi a1, vi a2, vi a3] [] κ I L Z) : Ev E d M_X11_number 19 [vr a0, vi a1, vi a2, vi a3] [vi b0, vi b1] κ I L Z := E_icmp_ne dX11_number_19 hx hy kt kf (by decide)
theorem t75_X11_number_22 {E : En} {d : Nat} {κ : Kp} {I L : MI} {Z : Zt} {a0 : Nat} {a1 a2 a3 : Int}  (k : Ev E d M_X11_number 23 [vr a0, vi a1, vi a2, vi a3] [vi a3] κ I L Z) : Ev E d M_X11_number 22 [vr a0, vi a1, vi a2, vi a3] [] κ I L Z := E_iload_n dX11_number_22 rfl k
theorem t75_X11_number_23 {E : En} {d : Nat} {κ : Kp} {I L : MI} {Z : Zt} {a0 : Nat} {a1 a2 a3 b0 : Int} (hx : Ir b0) (k : Ev E d M_X11_number 24 [vr a0, vi a1, vi a2, vi a3] [vl b0] κ I L Z) : Ev E d M_X11_number 23 [vr a0, vi a1, vi a2, vi a3] [vi b0] κ I L Z := E_i2l dX11_number_23 hx k
theorem t75_X11_number_24 {E : En} {d : Nat} {κ : Kp} {I L : MI} {Z : Zt} {a0 : Nat} {a1 a2 a3 b0 : Int}  (k : Ev E d M_X11_number 25 [vr a0, vi a1, vi a2, vi a3] [vi a1, vl b0] κ I L Z) : Ev E d M_X11_number 24 [vr a0, vi a1, vi a2, vi a3] [vl b0] κ I L Z := E_iload_n dX11_number_24 rfl k
theorem t75_X11_number_25 {E : En} {d : Nat} {κ : Kp} {I L : MI} {Z : Zt} {a0 : Nat} {a1 a2 a3 b0 b1 : Int} (hx : Ir b0) (k : Ev E d M_X11_number 26 [vr a0, vi a1, vi a2, vi a3] [vl b0, vl b1] κ I L Z) : Ev E d M_X11_number 25 [vr a0, vi a1, vi a2, vi a3] [vi b0, vl b1] κ I L Z := E_i2l dX11_number_25 hx k
theorem t75_X11_number_26 {E : En} {d : Nat} {κ : Kp} {I L : MI} {Z : Zt} {a0 : Nat} {a1 a2 a3 b0 b1 : Int}  (k : Ev E d M_X11_number 27 [vr a0, vi a1, vi a2, vi a3] [vi a2, vl b0, vl b1] κ I L Z) : Ev E d M_X11_number 26 [vr a0, vi a1, vi a2, vi a3] [vl b0, vl b1] κ I L Z := E_iload_n dX11_number_26 rfl k
theorem t75_X11_number_27 {E : En} {d : Nat} {κ : Kp} {I L : MI} {Z : Zt} {a0 : Nat} {a1 a2 a3 b0 b1 b2 : Int} (hx : Ir b0) (k : Ev E d M_X11_number 28 [vr a0, vi a1, vi a2, vi a3] [vl b0, vl b1, vl b2] κ I L Z) : Ev E d M_X11_number 27 [vr a0, vi a1, vi a2, vi a3] [vi b0, vl b1, vl b2] κ I L Z := E_i2l dX11_number_27 hx k
theorem t75_X11_number_28 {E : En} {d d' : Nat} {cs : Nat × Nat} {I L : MI} {Z : Zt} {a0 : Nat} {a1 a2 a3 b0 b1 b2 : Int} {P : Prop} {I' L' : MI} (hM : CB E d' M_X11_in [vl b2, vl b1, vl b0] I L P I' L') (hlt : d' + 1 ≤ d) (kt : P → Ev E d M_X11_number 31 [vr a0, vi a1, vi a2, vi a3] [vi 1] (G0, cs) I' L' Z) (kf : ¬ P → Ev E d M_X11_number 31 [vr a0, vi a1, vi a2, vi a3] [vi 0] (G0, cs) I' L' Z) (hc1 : cs.1 ≤ M_X11_number.2.2.2.2.1 := by decide) (hc2 : cs.2 ≤ M_X11_number.2.2.2.2.2 := by decide) : Ev E d M_X11_number 28 [vr a0, vi a1, vi a2, vi a3] [vl b0, vl b1, vl b2] (G0, cs) I L Z := E_callS (as := [vl b2, vl b1, vl b0]) (rest := []) (n := 3) hM dX11_number_28 wM_RX11_68 wS_X11_in hlt wC_X11_in wI_X11 (by decide +kernel) rfl (by decide) (Nat.le_of_ble_eq_true rfl) hc1 hc2 rfl (fun r g' I2 L2 h => by obtain ⟨rfl, z, rfl, rfl, rfl, ⟨rfl, h⟩ | ⟨rfl, h⟩⟩ := h; exact kt h; exact kf h)
theorem t75_X11_number_31 {E : En} {d : Nat} {κ : Kp} {I L : MI} {Z : Zt} {a0 : Nat} {a1 a2 a3 b0 : Int} (hx : Ir b0) (kt : ¬ b0 = 0 → Ev E d M_X11_number 39 [vr a0, vi a1, vi a2, vi a3] [] κ I L Z) (kf : b0 = 0 → Ev E d M_X11_number 34 [vr a0, vi a1, vi a2, vi a3] [] κ I L Z) : Ev E d M_X11_number 31 [vr a0, vi a1, vi a2, vi a3] [vi b0] κ I L Z := E_if_ne dX11_number_31 hx kt kf (by decide)
theorem t75_X11_number_34 {E : En} {d : Nat} {κ : Kp} {I L : MI} {Z : Zt} {a0 : Nat} {a1 a2 a3 : Int}  (k : Ev E d M_X11_number 35 [vr a0, vi a1, vi a2, vi a3] [vr a0] κ I L Z) : Ev E d M_X11_number 34 [vr a0, vi a1, vi a2, vi a3] [] κ I L Z := E_aload_n dX11_number_34 rfl k
theorem t75_X11_number_35 {E : En} {d : Nat} {κ : Kp} {I L : MI} {Z : Zt} {a0 b0 : Nat} {a1 a2 a3 : Int}  (k : Ev E d M_X11_number 36 [vr a0, vi a1, vi a2, vi a3] [vi 2, vr b0] κ I L Z) : Ev E d M_X11_number 35 [vr a0, vi a1, vi a2, vi a3] [vr b0] κ I L Z := E_iconst (v := 2) dX11_number_35 rfl k
theorem t75_X11_number_36 {E : En} {d d' : Nat} {cs : Nat × Nat} {I L : MI} {Z : Zt} {a0 b1 : Nat} {a1 a2 a3 b0 : Int} {I' L' : MI} (hs : G0.1[b1]? = some (.inl 11)) (hM : CFv E d' M_X11_bad [vr b1, vi b0] I L I' L') (hlt : d' + 1 ≤ d) (k : Ev E d M_X11_number 39 [vr a0, vi a1, vi a2, vi a3] [] (G0, cs) I' L' Z) (hc1 : cs.1 ≤ M_X11_number.2.2.2.2.1 := by decide) (hc2 : cs.2 ≤ M_X11_number.2.2.2.2.2 := by decide) : Ev E d M_X11_number 36 [vr a0, vi a1, vi a2, vi a3] [vi b0, vr b1] (G0, cs) I L Z := E_callV (as := [vi b0]) (rest := []) (n := 1) hM dX11_number_36 wM_RX11_128 wS_X11_bad wV_X11_bad hs (by decide) rfl hlt wC_X11_bad wI_X11 (by decide +kernel) rfl (by decide) (Nat.le_of_ble_eq_true rfl) hc1 hc2 rfl (fun r g' I2 L2 h => by obtain ⟨rfl, rfl, rfl, rfl⟩ := h; exact k)
theorem t75_X11_number_39 {E : En} {d : Nat} {κ : Kp} {I L : MI} {Z : Zt} {a0 : Nat} {a1 a2 a3 : Int}  (k : Ev E d M_X11_number 40 [vr a0, vi a1, vi a2, vi a3] [vr a0] κ I L Z) : Ev E d M_X11_number 39 [vr a0, vi a1, vi a2, vi a3] [] κ I L Z := E_aload_n dX11_number_39 rfl k
theorem t75_X11_number_40 {E : En} {d : Nat} {κ : Kp} {I L : MI} {Z : Zt} {a0 b0 : Nat} {a1 a2 a3 : Int}  (k : Ev E d M_X11_number 41 [vr a0, vi a1, vi a2, vi a3] [vr a0, vr b0] κ I L Z) : Ev E d M_X11_number 40 [vr a0, vi a1, vi a2, vi a3] [vr b0] κ I L Z := E_aload_n dX11_number_40 rfl k
theorem t75_X11_number_41 {E : En} {d : Nat} {κ : Kp} {I L : MI} {Z : Zt} {a0 b0 b1 : Nat} {a1 a2 a3 : Int} (hs : κ.1.1[b0]? = some (.inl 11)) (k : Ir (I b0 14) → Ev E d M_X11_number 44 [vr a0, vi a1, vi a2, vi a3] [vi (I b0 14), vr b1] κ I L Z) : Ev E d M_X11_number 41 [vr a0, vi a1, vi a2, vi a3] [vr b0, vr b1] κ I L Z := E_getI (ci := 11) (n := 14) dX11_number_41 wF_RX11_107 (by decide) hs rfl k
theorem t75_X11_number_44 {E : En} {d : Nat} {κ : Kp} {I L : MI} {Z : Zt} {a0 b1 : Nat} {a1 a2 a3 b0 : Int}  (k : Ev E d M_X11_number 45 [vr a0, vi a1, vi a2, vi a3] [vi 3, vi b0, vr b1] κ I L Z) : Ev E d M_X11_number 44 [vr a0, vi a1, vi a2, vi a3] [vi b0, vr b1] κ I L Z := E_iconst (v := 3) dX11_number_44 rfl k
theorem t75_X11_number_45 {E : En} {d : Nat} {κ : Kp} {I L : MI} {Z : Zt} {a0 b2 : Nat} {a1 a2 a3 b0 b1 : Int} (hx : Ir b1) (hy : Ir b0) (kt : ¬ b1 = b0 → Ev E d M_X11_number 52 [vr a0, vi a1, vi a2, vi a3] [vr b2] κ I L Z) (kf : b1 = b0 → Ev E d M_X11_number 48 [vr a0, vi a1, vi a2, vi a3] [vr b2] κ I L Z) : Ev E d M_X11_number 45 [vr a0, vi a1, vi a2, vi a3] [vi b0, vi b1, vr b2] κ I L Z := E_icmp_ne dX11_number_45 hx hy kt kf (by decide)
theorem t75_X11_number_52 {E : En} {d : Nat} {κ : Kp} {I L : MI} {Z : Zt} {a0 b0 : Nat} {a1 a2 a3 : Int}  (k : Ev E d M_X11_number 53 [vr a0, vi a1, vi a2, vi a3] [vi 0, vr b0] κ I L Z) : Ev E d M_X11_number 52 [vr a0, vi a1, vi a2, vi a3] [vr b0] κ I L Z := E_iconst (v := 0) dX11_number_52 rfl k
theorem t75_X11_number_48 {E : En} {d : Nat} {κ : Kp} {I L : MI} {Z : Zt} {a0 b0 : Nat} {a1 a2 a3 : Int}  (k : Ev E d M_X11_number 49 [vr a0, vi a1, vi a2, vi a3] [vi 1, vr b0] κ I L Z) : Ev E d M_X11_number 48 [vr a0, vi a1, vi a2, vi a3] [vr b0] κ I L Z := E_iconst (v := 1) dX11_number_48 rfl k
theorem t75_X11_number_49 {E : En} {d : Nat} {κ : Kp} {I L : MI} {Z : Zt} {a0 b1 : Nat} {a1 a2 a3 b0 : Int}  (k : Ev E d M_X11_number 53 [vr a0, vi a1, vi a2, vi a3] [vi b0, vr b1] κ I L Z) : Ev E d M_X11_number 49 [vr a0, vi a1, vi a2, vi a3] [vi b0, vr b1] κ I L Z := E_goto dX11_number_49 (by decide) k
theorem t75_X11_number_53 {E : En} {d d' : Nat} {cs : Nat × Nat} {I L : MI} {Z : Zt} {a0 b1 : Nat} {a1 a2 a3 b0 : Int} {Q : MI → MI → Prop} (hs : G0.1[b1]? = some (.inl 11)) (hM : CQv E d' M_X11_must [vr b1, vi b0] I L Q) (hlt : d' + 1 ≤ d) (kk : ∀ (I' L' : MI), Q I' L' → Ev E d M_X11_number 56 [vr a0, vi a1, vi a2, vi a3] [] (G0, cs) I' L' Z) (hc1 : cs.1 ≤ M_X11_number.2.2.2.2.1 := by decide) (hc2 : cs.2 ≤ M_X11_number.2.2.2.2.2 := by decide) : Ev E d M_X11_number 53 [vr a0, vi a1, vi a2, vi a3] [vi b0, vr b1] (G0, cs) I L Z := E_callV (as := [vi b0]) (rest := []) (n := 1) hM dX11_number_53 wM_RX11_136 wS_X11_must wV_X11_must hs (by decide) rfl hlt wC_X11_must wI_X11 (by decide +kernel) rfl (by decide) (Nat.le_of_ble_eq_true rfl) hc1 hc2 rfl (fun r g' I' L' h => by obtain ⟨rfl, rfl, h⟩ := h; exact kk I' L' h)
theorem t75_X11_number_56 {E : En} {d : Nat} {κ : Kp} {I L : MI} {Z : Zt} {a0 : Nat} {a1 a2 a3 : Int}  (k : Ev E d M_X11_number 57 [vr a0, vi a1, vi a2, vi a3] [vi a3] κ I L Z) : Ev E d M_X11_number 56 [vr a0, vi a1, vi a2, vi a3] [] κ I L Z := E_iload_n dX11_number_56 rfl k
theorem t75_X11_number_57 {E : En} {d : Nat} {g : Geo} {I L : MI} {Q : Option AV → Geo → MI → MI → Prop} {cs : Nat × Nat} {a0 : Nat} {a1 a2 a3 b0 : Int} (hq : Q (some (vi b0)) g I L) (h1 : cs.1 ≤ M_X11_number.2.2.2.2.1 := by decide) (h2 : cs.2 ≤ M_X11_number.2.2.2.2.2 := by decide) : Ev E d M_X11_number 57 [vr a0, vi a1, vi a2, vi a3] [vi b0] (g, cs) I L (ZQ E M_X11_number Q) := E_ireturn rfl dX11_number_57 hq h1 h2
theorem t75_X11_mustEnd_0 {E : En} {d : Nat} {κ : Kp} {I L : MI} {Z : Zt} {a0 : Nat}  (k : Ev E d M_X11_mustEnd 1 [vr a0] [vr a0] κ I L Z) : Ev E d M_X11_mustEnd 0 [vr a0] [] κ I L Z := E_aload_n dX11_mustEnd_0 rfl k
theorem t75_X11_mustEnd_1 {E : En} {d : Nat} {κ : Kp} {I L : MI} {Z : Zt} {a0 b0 : Nat} (hs : κ.1.1[b0]? = some (.inl 11)) (k : Ir (I b0 17) → Ev E d M_X11_mustEnd 4 [vr a0] [vi (I b0 17)] κ I L Z) : Ev E d M_X11_mustEnd 1 [vr a0] [vr b0] κ I L Z := E_getI (ci := 11) (n := 17) dX11_mustEnd_1 wF_RX11_119 (by decide) hs rfl k
theorem t75_X11_mustEnd_4 {E : En} {d : Nat} {κ : Kp} {I L : MI} {Z : Zt} {a0 : Nat} {b0 : Int} (hx : Ir b0) (kt : ¬ b0 = 0 → Ev E d M_X11_mustEnd 24 [vr a0] [] κ I L Z) (kf : b0 = 0 → Ev E d M_X11_mustEnd 7 [vr a0] [] κ I L Z) : Ev E d M_X11_mustEnd 4 [vr a0] [vi b0] κ I L Z := E_if_ne dX11_mustEnd_4 hx kt kf (by decide)
theorem t75_X11_mustEnd_24 {E : En} {d : Nat} {g : Geo} {I L : MI} {Q : Option AV → Geo → MI → MI → Prop} {cs : Nat × Nat} {a0 : Nat} (hq : Q none g I L) (h1 : cs.1 ≤ M_X11_mustEnd.2.2.2.2.1 := by decide) (h2 : cs.2 ≤ M_X11_mustEnd.2.2.2.2.2 := by decide) : Ev E d M_X11_mustEnd 24 [vr a0] [] (g, cs) I L (ZQ E M_X11_mustEnd Q) := E_return rfl dX11_mustEnd_24 hq h1 h2
theorem t75_X11_mustEnd_7 {E : En} {d : Nat} {κ : Kp} {I L : MI} {Z : Zt} {a0 : Nat}  (k : Ev E d M_X11_mustEnd 8 [vr a0] [vr a0] κ I L Z) : Ev E d M_X11_mustEnd 7 [vr a0] [] κ I L Z := E_aload_n dX11_mustEnd_7 rfl k
theorem t75_X11_mustEnd_8 {E : En} {d : Nat} {κ : Kp} {I L : MI} {Z : Zt} {a0 b0 : Nat}  (k : Ev E d M_X11_mustEnd 9 [vr a0] [vr a0, vr b0] κ I L Z) : Ev E d M_X11_mustEnd 8 [vr a0] [vr b0] κ I L Z := E_aload_n dX11_mustEnd_8 rfl k
theorem t75_X11_mustEnd_9 {E : En} {d : Nat} {κ : Kp} {I L : MI} {Z : Zt} {a0 b0 b1 : Nat} (hs : κ.1.1[b0]? = some (.inl 11)) (k : Ir (I b0 14) → Ev E d M_X11_mustEnd 12 [vr a0] [vi (I b0 14), vr b1] κ I L Z) : Ev E d M_X11_mustEnd 9 [vr a0] [vr b0, vr b1] κ I L Z := E_getI (ci := 11) (n := 14) dX11_mustEnd_9 wF_RX11_107 (by decide) hs rfl k
theorem t75_X11_mustEnd_12 {E : En} {d : Nat} {κ : Kp} {I L : MI} {Z : Zt} {a0 b1 : Nat} {b0 : Int}  (k : Ev E d M_X11_mustEnd 13 [vr a0] [vi 4, vi b0, vr b1] κ I L Z) : Ev E d M_X11_mustEnd 12 [vr a0] [vi b0, vr b1] κ I L Z := E_iconst (v := 4) dX11_mustEnd_12 rfl k
theorem t75_X11_mustEnd_13 {E : En} {d : Nat} {κ : Kp} {I L : MI} {Z : Zt} {a0 b2 : Nat} {b0 b1 : Int} (hx : Ir b1) (hy : Ir b0) (kt : ¬ b1 = b0 → Ev E d M_X11_mustEnd 20 [vr a0] [vr b2] κ I L Z) (kf : b1 = b0 → Ev E d M_X11_mustEnd 16 [vr a0] [vr b2] κ I L Z) : Ev E d M_X11_mustEnd 13 [vr a0] [vi b0, vi b1, vr b2] κ I L Z := E_icmp_ne dX11_mustEnd_13 hx hy kt kf (by decide)
theorem t75_X11_mustEnd_20 {E : En} {d : Nat} {κ : Kp} {I L : MI} {Z : Zt} {a0 b0 : Nat}  (k : Ev E d M_X11_mustEnd 21 [vr a0] [vi 0, vr b0] κ I L Z) : Ev E d M_X11_mustEnd 20 [vr a0] [vr b0] κ I L Z := E_iconst (v := 0) dX11_mustEnd_20 rfl k
theorem t75_X11_mustEnd_16 {E : En} {d : Nat} {κ : Kp} {I L : MI} {Z : Zt} {a0 b0 : Nat}  (k : Ev E d M_X11_mustEnd 17 [vr a0] [vi 1, vr b0] κ I L Z) : Ev E d M_X11_mustEnd 16 [vr a0] [vr b0] κ I L Z := E_iconst (v := 1) dX11_mustEnd_16 rfl k
theorem t75_X11_mustEnd_17 {E : En} {d : Nat} {κ : Kp} {I L : MI} {Z : Zt} {a0 b1 : Nat} {b0 : Int}  (k : Ev E d M_X11_mustEnd 21 [vr a0] [vi b0, vr b1] κ I L Z) : Ev E d M_X11_mustEnd 17 [vr a0] [vi b0, vr b1] κ I L Z := E_goto dX11_mustEnd_17 (by decide) k
theorem t75_X11_mustEnd_21 {E : En} {d d' : Nat} {cs : Nat × Nat} {I L : MI} {Z : Zt} {a0 b1 : Nat} {b0 : Int} {Q : MI → MI → Prop} (hs : G0.1[b1]? = some (.inl 11)) (hM : CQv E d' M_X11_must [vr b1, vi b0] I L Q) (hlt : d' + 1 ≤ d) (kk : ∀ (I' L' : MI), Q I' L' → Ev E d M_X11_mustEnd 24 [vr a0] [] (G0, cs) I' L' Z) (hc1 : cs.1 ≤ M_X11_mustEnd.2.2.2.2.1 := by decide) (hc2 : cs.2 ≤ M_X11_mustEnd.2.2.2.2.2 := by decide) : Ev E d M_X11_mustEnd 21 [vr a0] [vi b0, vr b1] (G0, cs) I L Z := E_callV (as := [vi b0]) (rest := []) (n := 1) hM dX11_mustEnd_21 wM_RX11_136 wS_X11_must wV_X11_must hs (by decide) rfl hlt wC_X11_must wI_X11 (by decide +kernel) rfl (by decide) (Nat.le_of_ble_eq_true rfl) hc1 hc2 rfl (fun r g' I' L' h => by obtain ⟨rfl, rfl, h⟩ := h; exact kk I' L' h)
theorem t75_X11_begins_0 {E : En} {d : Nat} {κ : Kp} {I L : MI} {Z : Zt} {a0 : Nat} {a1 a2 : Int}  (k : Ev E d M_X11_begins 1 [vr a0, vi a1, vi a2] [vr a0] κ I L Z) : Ev E d M_X11_begins 0 [vr a0, vi a1, vi a2] [] κ I L Z := E_aload_n dX11_begins_0 rfl k
theorem t75_X11_begins_1 {E : En} {d : Nat} {κ : Kp} {I L : MI} {Z : Zt} {a0 b0 : Nat} {a1 a2 : Int} {q : Nat} (hs : κ.1.1[b0]? = some (.inl 11)) (hq : κ.1.2 b0 6 = some q) (k : Ev E d M_X11_begins 4 [vr a0, vi a1, vi a2] [vr q] κ I L Z) : Ev E d M_X11_begins 1 [vr a0, vi a1, vi a2] [vr b0] κ I L Z := E_getR (ci := 11) (n := 6) dX11_begins_1 wF_RX11_22 (by decide) hs rfl hq k
theorem t75_X11_begins_4 {E : En} {d : Nat} {κ : Kp} {I L : MI} {Z : Zt} {a0 b0 : Nat} {a1 a2 : Int}  (k : Ev E d M_X11_begins 5 [vr a0, vi a1, vi a2] [vi a1, vr b0] κ I L Z) : Ev E d M_X11_begins 4 [vr a0, vi a1, vi a2] [vr b0] κ I L Z := E_iload_n dX11_begins_4 rfl k
theorem t75_X11_begins_5 {E : En} {d : Nat} {κ : Kp} {I L : MI} {Z : Zt} {a0 b1 : Nat} {a1 a2 b0 : Int} {n : Nat} (hs : κ.1.1[b1]? = some (.inr (0, n))) (h0 : 0 ≤ b0) (h1 : b0 < n) (hi : Ir b0) (k : Ir (I b1 b0) → Ev E d M_X11_begins 6 [vr a0, vi a1, vi a2] [vi (I b1 b0)] κ I L Z) : Ev E d M_X11_begins 5 [vr a0, vi a1, vi a2] [vi b0, vr b1] κ I L Z := E_ialdI dX11_begins_5 hs h0 h1 hi k
theorem t75_X11_begins_6 {E : En} {d : Nat} {κ : Kp} {I L : MI} {Z : Zt} {a0 : Nat} {a1 a2 b0 : Int}  (k : Ev E d M_X11_begins 7 [vr a0, vi a1, vi a2] [vi a2, vi b0] κ I L Z) : Ev E d M_X11_begins 6 [vr a0, vi a1, vi a2] [vi b0] κ I L Z := E_iload_n dX11_begins_6 rfl k
theorem t75_X11_begins_7 {E : En} {d : Nat} {κ : Kp} {I L : MI} {Z : Zt} {a0 : Nat} {a1 a2 b0 b1 : Int} (hx : Ir b1) (hy : Ir b0) (kt : ¬ b1 = b0 → Ev E d M_X11_begins 15 [vr a0, vi a1, vi a2] [] κ I L Z) (kf : b1 = b0 → Ev E d M_X11_begins 10 [vr a0, vi a1, vi a2] [] κ I L Z) : Ev E d M_X11_begins 7 [vr a0, vi a1, vi a2] [vi b0, vi b1] κ I L Z := E_icmp_ne dX11_begins_7 hx hy kt kf (by decide)
theorem t75_X11_begins_10 {E : En} {d : Nat} {κ : Kp} {I L : MI} {Z : Zt} {a0 : Nat} {a1 a2 : Int}  (k : Ev E d M_X11_begins 11 [vr a0, vi a1, vi a2] [vr a0] κ I L Z) : Ev E d M_X11_begins 10 [vr a0, vi a1, vi a2] [] κ I L Z := E_aload_n dX11_begins_10 rfl k
theorem t75_X11_begins_11 {E : En} {d : Nat} {κ : Kp} {I L : MI} {Z : Zt} {a0 b0 : Nat} {a1 a2 : Int}  (k : Ev E d M_X11_begins 12 [vr a0, vi a1, vi a2] [vi 3, vr b0] κ I L Z) : Ev E d M_X11_begins 11 [vr a0, vi a1, vi a2] [vr b0] κ I L Z := E_iconst (v := 3) dX11_begins_11 rfl k
theorem t75_X11_begins_12 {E : En} {d d' : Nat} {cs : Nat × Nat} {I L : MI} {Z : Zt} {a0 b1 : Nat} {a1 a2 b0 : Int} {I' L' : MI} (hs : G0.1[b1]? = some (.inl 11)) (hM : CFv E d' M_X11_bad [vr b1, vi b0] I L I' L') (hlt : d' + 1 ≤ d) (k : Ev E d M_X11_begins 15 [vr a0, vi a1, vi a2] [] (G0, cs) I' L' Z) (hc1 : cs.1 ≤ M_X11_begins.2.2.2.2.1 := by decide) (hc2 : cs.2 ≤ M_X11_begins.2.2.2.2.2 := by decide) : Ev E d M_X11_begins 12 [vr a0, vi a1, vi a2] [vi b0, vr b1] (G0, cs) I L Z := E_callV (as := [vi b0]) (rest := []) (n := 1) hM dX11_begins_12 wM_RX11_128 wS_X11_bad wV_X11_bad hs (by decide) rfl hlt wC_X11_bad wI_X11 (by decide +kernel) rfl (by decide) (Nat.le_of_ble_eq_true rfl) hc1 hc2 rfl (fun r g' I2 L2 h => by obtain ⟨rfl, rfl, rfl, rfl⟩ := h; exact k)
theorem t75_X11_begins_15 {E : En} {d : Nat} {κ : Kp} {I L : MI} {Z : Zt} {a0 : Nat} {a1 a2 : Int}  (k : Ev E d M_X11_begins 16 [vr a0, vi a1, vi a2] [vr a0] κ I L Z) : Ev E d M_X11_begins 15 [vr a0, vi a1, vi a2] [] κ I L Z := E_aload_n dX11_begins_15 rfl k
theorem t75_X11_begins_16 {E : En} {d : Nat} {κ : Kp} {I L : MI} {Z : Zt} {a0 b0 : Nat} {a1 a2 : Int}  (k : Ev E d M_X11_begins 17 [vr a0, vi a1, vi a2] [vi 1, vr b0] κ I L Z) : Ev E d M_X11_begins 16 [vr a0, vi a1, vi a2] [vr b0] κ I L Z := E_iconst (v := 1) dX11_begins_16 rfl k
theorem t75_X11_begins_17 {E : En} {d d' : Nat} {cs : Nat × Nat} {I L : MI} {Z : Zt} {a0 b1 : Nat} {a1 a2 b0 : Int} {Q : MI → MI → Prop} (hs : G0.1[b1]? = some (.inl 11)) (hM : CQv E d' M_X11_must [vr b1, vi b0] I L Q) (hlt : d' + 1 ≤ d) (kk : ∀ (I' L' : MI), Q I' L' → Ev E d M_X11_begins 20 [vr a0, vi a1, vi a2] [] (G0, cs) I' L' Z) (hc1 : cs.1 ≤ M_X11_begins.2.2.2.2.1 := by decide) (hc2 : cs.2 ≤ M_X11_begins.2.2.2.2.2 := by decide) : Ev E d M_X11_begins 17 [vr a0, vi a1, vi a2] [vi b0, vr b1] (G0, cs) I L Z := E_callV (as := [vi b0]) (rest := []) (n := 1) hM dX11_begins_17 wM_RX11_136 wS_X11_must wV_X11_must hs (by decide) rfl hlt wC_X11_must wI_X11 (by decide +kernel) rfl (by decide) (Nat.le_of_ble_eq_true rfl) hc1 hc2 rfl (fun r g' I' L' h => by obtain ⟨rfl, rfl, h⟩ := h; exact kk I' L' h)
theorem t75_X11_begins_20 {E : En} {d : Nat} {g : Geo} {I L : MI} {Q : Option AV → Geo → MI → MI → Prop} {cs : Nat × Nat} {a0 : Nat} {a1 a2 : Int} (hq : Q none g I L) (h1 : cs.1 ≤ M_X11_begins.2.2.2.2.1 := by decide) (h2 : cs.2 ≤ M_X11_begins.2.2.2.2.2 := by decide) : Ev E d M_X11_begins 20 [vr a0, vi a1, vi a2] [] (g, cs) I L (ZQ E M_X11_begins Q) := E_return rfl dX11_begins_20 hq h1 h2
/-! THE REFERENCE READS: numbers, signs, what is new -/
def rNmQ (I L : MI) (B : Int → Int) (n : Int) (s : PR) (v : Int) : Int → MI → MI → Prop := fun z I' L' => rStQ I L B n s I' L' ∧ (pf s = 0 → z = v) ∧ 0 ≤ z ∧ z ≤ 999
theorem numR_x {B : Int → Int} {s : PR} {lo hi : Int} {f : Bool} (h : pf s ≠ 0) : numR B s lo hi f = s := by
  have e1 : num1 s = s := by unfold num1; rw [if_neg (fun q => h q.1)]
  have e2 : num2 s lo hi f = s := by unfold num2; rw [e1, if_neg (fun q => h q.1)]
  unfold numR
  rw [e2, if_neg h]
theorem numR_k {B : Int → Int} {s : PR} {lo hi : Int} {f : Bool} (h : pf s = 0) (hk : pk s ≠ 3) : numR B s lo hi f = failR s 1 := by
  have e1 : num1 s = failR s 1 := by unfold num1; rw [if_pos ⟨h, hk⟩]
  have p1 : pf (failR s 1) ≠ 0 := by show (1 : Int) ≠ 0; decide
  have e2 : num2 s lo hi f = failR s 1 := by unfold num2; rw [e1, if_neg (fun q => p1 q.1)]
  unfold numR
  rw [e2, if_neg p1]
theorem numR_b {B : Int → Int} {s : PR} {lo hi : Int} {f : Bool} (h : pf s = 0) (hk : pk s = 3) (hv : pv s < lo ∨ hi < pv s ∨ f = false) : numR B s lo hi f = failR s 2 := by
  have e1 : num1 s = s := by unfold num1; rw [if_neg (fun q => q.2 hk)]
  have e2 : num2 s lo hi f = failR s 2 := by unfold num2; rw [e1, if_pos ⟨h, hv⟩]
  have p1 : pf (failR s 2) ≠ 0 := by show (2 : Int) ≠ 0; decide
  unfold numR
  rw [e2, if_neg p1]
theorem numR_g {B : Int → Int} {s : PR} {lo hi : Int} {f : Bool} (h : pf s = 0) (hk : pk s = 3) (hv : ¬ (pv s < lo ∨ hi < pv s ∨ f = false)) : numR B s lo hi f = nextR B s := by
  have e1 : num1 s = s := by unfold num1; rw [if_neg (fun q => q.2 hk)]
  have e2 : num2 s lo hi f = s := by unfold num2; rw [e1, if_neg (fun q => hv q.2)]
  unfold numR
  rw [e2, if_pos h]
theorem c_X11_number {E : En} {I L : MI} {B : Int → Int} {n lo hi : Int} {s : PR} (hB : BOK B) (h : RR I B n s) (hlo : Ir lo) (hhi : Ir hi) : CQi E 5 M_X11_number [vr 78, vi lo, vi hi] I L (rNmQ I L B n (numR B s lo hi true) (pv s)) := by
  have tk := RR_tk hB h
  have ri := RR_RI hB h
  have h17 := h.2.2.1
  have h5 := h.2.2.2.2.1
  have pv1 := ri.2.2.1
  have pv2 := ri.2.2.2
  have fb : 0 ≤ figV s ∧ figV s ≤ 999 := by
    unfold figV
    split
    next q => have := pv2 q; omega
    next => decide
  refine CM_of' (al := [vr _, vi _, vi _, vu]) rfl (Nat.le_of_ble_eq_true rfl) rfl (fun hM => ?_)
  refine (t75_X11_number_0 (t75_X11_number_1 (by first | assumption | rfl) (fun r1 => (t75_X11_number_4 (by omega) (fun c4 => ?_) (fun c4 => (t75_X11_number_7 (t75_X11_number_8 ?_)))))))
  -- 2 leaves: 4t :->9 | 4f :ret8
  · have h9 : pf s = 0 := by omega
    by_cases k3 : pk s = 3
    · have k14 := tk.2.2.1.mpr k3
      have ef : figV s = pv s := if_pos k3
      refine (t75_X11_number_9 (t75_X11_number_10 (by first | assumption | rfl) ((c_X11_figures hB h)) (by first | decide | omega) (fun r10 => (t75_X11_number_13 (t75_X11_number_14 (t75_X11_number_15 (by first | assumption | rfl) (fun r15 => (t75_X11_number_18 (t75_X11_number_19 (by omega) (by omega) (fun c19 => ?_) (fun c19 => (t75_X11_number_22 (t75_X11_number_23 (by omega) (t75_X11_number_24 (t75_X11_number_25 (by omega) (t75_X11_number_26 (t75_X11_number_27 (by omega) (t75_X11_number_28 c_X11_in (by first | decide | omega) (fun c28 => (t75_X11_number_31 (by decide) (fun _ => ?_) (fun h => absurd h (by decide)))) (fun c28 => (t75_X11_number_31 (by decide) (fun h => absurd rfl h) (fun _ => (t75_X11_number_34 (t75_X11_number_35 (t75_X11_number_36 (by first | assumption | rfl) c_X11_bad (by first | decide | omega) ?_)))))))))))))))))))))))
      -- 3 leaves: 19t :->39 | 19f 28T :->39 | 19f 28F :->39
      · omega
      · rw [ef] at c28 ⊢
        have fits : ¬ (pv s < lo ∨ hi < pv s ∨ true = false) := fun q => by rcases q with q | q | q <;> first | omega | exact absurd q (by decide)
        refine (t75_X11_number_39 (t75_X11_number_40 (t75_X11_number_41 (by first | assumption | rfl) (fun r41 => (t75_X11_number_44 (t75_X11_number_45 (by omega) (by omega) (fun c45 => (t75_X11_number_52 ?_)) (fun c45 => (t75_X11_number_48 (t75_X11_number_49 ?_)))))))))
        -- 2 leaves: 45t :->53 | 45f :->53
        · omega
        · refine (t75_X11_number_53 (by first | assumption | rfl) ((c_X11_must (b := 1) hB h (.inr rfl) (fun _ _ => .inr (.inl k3)))) (by first | decide | omega) (fun I53 L53 q53 => ?_))
          -- 1 leaves: :call53
          obtain ⟨rfl, f1, t1⟩ := q53
          refine (t75_X11_number_56 (t75_X11_number_57 ?_))
          -- 1 leaves: :ret57
          refine qqi ⟨⟨rfl, f1, ?_⟩, fun _ => rfl, by omega, by omega⟩
          rw [numR_g h9 k3 fits]
          unfold mstR at t1
          rw [if_pos h9, if_pos (by decide)] at t1
          exact t1
      · rw [ef] at c28 ⊢
        have hb := RR_bad h (c := 2) (by decide)
        have e14 : rbd I 2 78 14 = 3 := by rw [rbd_k (by decide)]; exact k14
        have eb : badR s 2 = failR s 2 := if_pos h9
        rw [eb] at hb
        refine (t75_X11_number_39 (t75_X11_number_40 (t75_X11_number_41 (by first | assumption | rfl) (fun r41 => (t75_X11_number_44 (t75_X11_number_45 (by omega) (by omega) (fun c45 => (t75_X11_number_52 ?_)) (fun c45 => (t75_X11_number_48 (t75_X11_number_49 ?_)))))))))
        -- 2 leaves: 45t :->53 | 45f :->53
        · omega
        · refine (t75_X11_number_53 (by first | assumption | rfl) ((c_X11_must (b := 1) hB hb (.inr rfl) (fun _ z => absurd z (by show (2 : Int) ≠ 0; decide)))) (by first | decide | omega) (fun I53 L53 q53 => ?_))
          -- 1 leaves: :call53
          obtain ⟨rfl, f1, t1⟩ := q53
          refine (t75_X11_number_56 (t75_X11_number_57 ?_))
          -- 1 leaves: :ret57
          refine qqi ⟨⟨rfl, RFs_t rbd_f f1, ?_⟩, fun _ => rfl, by omega, by omega⟩
          rw [numR_b h9 k3 (by omega)]
          unfold mstR at t1
          rw [if_neg (by show (2 : Int) ≠ 0; decide)] at t1
          exact t1
    · have k14 : I 78 14 ≠ 3 := fun z => k3 (tk.2.2.1.mp z)
      refine (t75_X11_number_9 (t75_X11_number_10 (by first | assumption | rfl) ((c_X11_figures hB h)) (by first | decide | omega) (fun r10 => (t75_X11_number_13 (t75_X11_number_14 (t75_X11_number_15 (by first | assumption | rfl) (fun r15 => (t75_X11_number_18 (t75_X11_number_19 (by omega) (by omega) (fun c19 => ?_) (fun c19 => (t75_X11_number_22 (t75_X11_number_23 (by omega) (t75_X11_number_24 (t75_X11_number_25 (by omega) (t75_X11_number_26 (t75_X11_number_27 (by omega) (t75_X11_number_28 c_X11_in (by first | decide | omega) (fun c28 => (t75_X11_number_31 (by decide) (fun _ => ?_) (fun h => absurd h (by decide)))) (fun c28 => (t75_X11_number_31 (by decide) (fun h => absurd rfl h) (fun _ => (t75_X11_number_34 (t75_X11_number_35 (t75_X11_number_36 (by first | assumption | rfl) c_X11_bad (by first | decide | omega) ?_)))))))))))))))))))))))
      -- 3 leaves: 19t :->39 | 19f 28T :->39 | 19f 28F :->39
      · refine (t75_X11_number_39 (t75_X11_number_40 (t75_X11_number_41 (by first | assumption | rfl) (fun r41 => (t75_X11_number_44 (t75_X11_number_45 (by omega) (by omega) (fun c45 => (t75_X11_number_52 ?_)) (fun c45 => (t75_X11_number_48 (t75_X11_number_49 ?_)))))))))
        -- 2 leaves: 45t :->53 | 45f :->53
        · refine (t75_X11_number_53 (by first | assumption | rfl) ((c_X11_must (b := 0) hB h (.inl rfl) (fun z => absurd z (by decide)))) (by first | decide | omega) (fun I53 L53 q53 => ?_))
          -- 1 leaves: :call53
          obtain ⟨rfl, f1, t1⟩ := q53
          refine (t75_X11_number_56 (t75_X11_number_57 ?_))
          -- 1 leaves: :ret57
          refine qqi ⟨⟨rfl, f1, ?_⟩, fun z => ?_, by omega, by omega⟩
          · rw [numR_k h9 k3]
            unfold mstR at t1
            rw [if_pos h9, if_neg (by decide)] at t1
            exact t1
          · rw [numR_k h9 k3] at z
            exact absurd z (by show (1 : Int) ≠ 0; decide)
        · omega
      · omega
      · omega
  · have h9 : pf s ≠ 0 := by omega
    rw [numR_x h9]
    exact qqi ⟨⟨rfl, RFs_r I, h⟩, fun q => absurd q h9, by decide, by decide⟩
theorem sgnR_e {B : Int → Int} {s : PR} : sgnR B s = mstR B s (decide (pk s = 4)) := by
  unfold sgnR mstR
  by_cases h : pf s = 0
  · by_cases k : pk s = 4
    · have e : (if pf s = 0 ∧ pk s ≠ 4 then failR s 1 else s) = s := if_neg (fun q => q.2 k)
      rw [e, if_pos h, if_pos h, if_pos (decide_eq_true k)]
    · have e : (if pf s = 0 ∧ pk s ≠ 4 then failR s 1 else s) = failR s 1 := if_pos ⟨h, k⟩
      rw [e, if_neg (by show ¬ (1 : Int) = 0; decide), if_pos h, if_neg (by simpa using k)]
  · have e : (if pf s = 0 ∧ pk s ≠ 4 then failR s 1 else s) = s := if_neg (fun q => h q.1)
    rw [e, if_neg h, if_neg h]
theorem c_X11_mustEnd {E : En} {I L : MI} {B : Int → Int} {n : Int} {s : PR} (hB : BOK B) (h : RR I B n s) : CQv E 5 M_X11_mustEnd [vr 78] I L (rStQ I L B n (sgnR B s)) := by
  have tk := RR_tk hB h
  have h17 := h.2.2.1
  rw [sgnR_e]
  refine CM_of' (al := [vr _]) rfl (Nat.le_of_ble_eq_true rfl) rfl (fun hM => ?_)
  refine (t75_X11_mustEnd_0 (t75_X11_mustEnd_1 (by first | assumption | rfl) (fun r1 => (t75_X11_mustEnd_4 (by omega) (fun c4 => (t75_X11_mustEnd_24 ?_)) (fun c4 => (t75_X11_mustEnd_7 (t75_X11_mustEnd_8 (t75_X11_mustEnd_9 (by first | assumption | rfl) (fun r9 => (t75_X11_mustEnd_12 (t75_X11_mustEnd_13 (by omega) (by omega) (fun c13 => (t75_X11_mustEnd_20 ?_)) (fun c13 => (t75_X11_mustEnd_16 (t75_X11_mustEnd_17 ?_))))))))))))))
  -- 3 leaves: 4t :ret24 | 4f 13t :->21 | 4f 13f :->21
  · refine qqv ⟨rfl, RFs_r I, ?_⟩
    unfold mstR
    rw [if_neg (by omega)]
    exact h
  · have k4 : ¬ pk s = 4 := fun z => c13 (tk.2.2.2.1.mpr z)
    rw [decide_eq_false k4]
    refine (t75_X11_mustEnd_21 (by first | assumption | rfl) ((c_X11_must (b := 0) hB h (.inl rfl) (fun z => absurd z (by decide)))) (by first | decide | omega) (fun I21 L21 q21 => ?_))
    -- 1 leaves: :call21
    refine (t75_X11_mustEnd_24 ?_)
    -- 1 leaves: :ret24
    exact qqv q21
  · have k4 : pk s = 4 := tk.2.2.2.1.mp c13
    rw [decide_eq_true k4]
    refine (t75_X11_mustEnd_21 (by first | assumption | rfl) ((c_X11_must (b := 1) hB h (.inr rfl) (fun _ _ => .inr (.inr k4)))) (by first | decide | omega) (fun I21 L21 q21 => ?_))
    -- 1 leaves: :call21
    refine (t75_X11_mustEnd_24 ?_)
    -- 1 leaves: :ret24
    exact qqv q21
theorem c_X11_begins {E : En} {I L : MI} {B : Int → Int} {n i m : Int} {s : PR} (hB : BOK B) (h : RR I B n s) (hi : 0 ≤ i ∧ i < 65) (hm : Ir m) (h0 : pf s = 0) (h2 : pk s = 2) : CQv E 5 M_X11_begins [vr 78, vi i, vi m] I L (rStQ I L B n (if I 83 i = m then failR s 3 else nextR B s)) := by
  have g83 : G0.1[83]? = some (.inr (0, 65)) := rfl
  refine CM_of' (al := [vr _, vi _, vi _]) rfl (Nat.le_of_ble_eq_true rfl) rfl (fun hM => ?_)
  refine (t75_X11_begins_0 (t75_X11_begins_1 (by first | assumption | rfl) (by first | assumption | rfl) (t75_X11_begins_4 (t75_X11_begins_5 (by first | assumption | rfl) (by omega) (by omega) (by omega) (fun r5 => (t75_X11_begins_6 (t75_X11_begins_7 (by omega) (by omega) (fun c7 => ?_) (fun c7 => (t75_X11_begins_10 (t75_X11_begins_11 (t75_X11_begins_12 (by first | assumption | rfl) c_X11_bad (by first | decide | omega) ?_)))))))))))
  -- 2 leaves: 7t :->15 | 7f :->15
  · rw [if_neg c7]
    refine (t75_X11_begins_15 (t75_X11_begins_16 (t75_X11_begins_17 (by first | assumption | rfl) ((c_X11_must (b := 1) hB h (.inr rfl) (fun _ _ => .inl h2))) (by first | decide | omega) (fun I17 L17 q17 => ?_))))
    -- 1 leaves: :call17
    refine (t75_X11_begins_20 ?_)
    -- 1 leaves: :ret20
    have : mstR B s (decide ((1 : Int) = 1)) = nextR B s := by unfold mstR; rw [if_pos h0, if_pos (by decide)]
    rw [this] at q17
    exact qqv q17
  · rw [if_pos c7]
    have hb := RR_bad h (c := 3) (by decide)
    have eb : badR s 3 = failR s 3 := if_pos h0
    rw [eb] at hb
    refine (t75_X11_begins_15 (t75_X11_begins_16 (t75_X11_begins_17 (by first | assumption | rfl) ((c_X11_must (b := 1) hB hb (.inr rfl) (fun _ z => absurd z (by show (3 : Int) ≠ 0; decide)))) (by first | decide | omega) (fun I17 L17 q17 => ?_))))
    -- 1 leaves: :call17
    refine (t75_X11_begins_20 ?_)
    -- 1 leaves: :ret20
    have : mstR B (failR s 3) (decide ((1 : Int) = 1)) = failR s 3 := by unfold mstR; rw [if_neg (by show ¬ (3 : Int) = 0; decide)]
    rw [this] at q17
    exact qqv ⟨q17.1, RFs_t rbd_f q17.2.1, q17.2.2⟩
