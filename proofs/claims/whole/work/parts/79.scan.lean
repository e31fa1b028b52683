theorem t79_X11_begin_0 {E : En} {d : Nat} {κ : Kp} {I L : MI} {Z : Zt} {a0 : Nat}  (k : Ev E d M_X11_begin 1 [vr a0] [vr a0] κ I L Z) : Ev E d M_X11_begin 0 [vr a0] [] κ I L Z := E_aload_n dX11_begin_0 rfl k
theorem t79_X11_begin_1 {E : En} {d : Nat} {κ : Kp} {I L : MI} {Z : Zt} {a0 b0 : Nat}  (k : Ev E d M_X11_begin 2 [vr a0] [vr a0, vr b0] κ I L Z) : Ev E d M_X11_begin 1 [vr a0] [vr b0] κ I L Z := E_aload_n dX11_begin_1 rfl k
theorem t79_X11_begin_2 {E : En} {d : Nat} {κ : Kp} {I L : MI} {Z : Zt} {a0 b0 b1 : Nat} (hs : κ.1.1[b0]? = some (.inl 11)) (k : Ir (I b0 10) → Ev E d M_X11_begin 5 [vr a0] [vi (I b0 10), vr b1] κ I L Z) : Ev E d M_X11_begin 2 [vr a0] [vr b0, vr b1] κ I L Z := E_getI (ci := 11) (n := 10) dX11_begin_2 wF_RX11_86 (by decide) hs rfl k
theorem t79_X11_begin_5 {E : En} {d : Nat} {κ : Kp} {I L : MI} {Z : Zt} {a0 b1 : Nat} {b0 : Int} (hs : κ.1.1[b1]? = some (.inl 11)) (hz : Ir b0) (k : Ev E d M_X11_begin 8 [vr a0] [] κ (up2 I b1 12 b0) L Z) : Ev E d M_X11_begin 5 [vr a0] [vi b0, vr b1] κ I L Z := E_putI (ci := 11) (n := 12) dX11_begin_5 wF_RX11_93 (by decide) hs rfl rfl hz k
theorem t79_X11_begin_8 {E : En} {d : Nat} {κ : Kp} {I L : MI} {Z : Zt} {a0 : Nat}  (k : Ev E d M_X11_begin 9 [vr a0] [vr a0] κ I L Z) : Ev E d M_X11_begin 8 [vr a0] [] κ I L Z := E_aload_n dX11_begin_8 rfl k
theorem t79_X11_begin_9 {E : En} {d : Nat} {κ : Kp} {I L : MI} {Z : Zt} {a0 b0 : Nat}  (k : Ev E d M_X11_begin 10 [vr a0] [vi 0, vr b0] κ I L Z) : Ev E d M_X11_begin 9 [vr a0] [vr b0] κ I L Z := E_iconst (v := 0) dX11_begin_9 rfl k
theorem t79_X11_begin_10 {E : En} {d : Nat} {κ : Kp} {I L : MI} {Z : Zt} {a0 b1 : Nat} {b0 : Int} (hs : κ.1.1[b1]? = some (.inl 11)) (hz : Ir b0) (k : Ev E d M_X11_begin 13 [vr a0] [] κ (up2 I b1 10 b0) L Z) : Ev E d M_X11_begin 10 [vr a0] [vi b0, vr b1] κ I L Z := E_putI (ci := 11) (n := 10) dX11_begin_10 wF_RX11_86 (by decide) hs rfl rfl hz k
theorem t79_X11_begin_13 {E : En} {d : Nat} {κ : Kp} {I L : MI} {Z : Zt} {a0 : Nat}  (k : Ev E d M_X11_begin 14 [vr a0] [vr a0] κ I L Z) : Ev E d M_X11_begin 13 [vr a0] [] κ I L Z := E_aload_n dX11_begin_13 rfl k
theorem t79_X11_begin_14 {E : En} {d : Nat} {κ : Kp} {I L : MI} {Z : Zt} {a0 b0 : Nat}  (k : Ev E d M_X11_begin 15 [vr a0] [vi 0, vr b0] κ I L Z) : Ev E d M_X11_begin 14 [vr a0] [vr b0] κ I L Z := E_iconst (v := 0) dX11_begin_14 rfl k
theorem t79_X11_begin_15 {E : En} {d : Nat} {κ : Kp} {I L : MI} {Z : Zt} {a0 b1 : Nat} {b0 : Int} (hs : κ.1.1[b1]? = some (.inl 11)) (hz : Ir b0) (k : Ev E d M_X11_begin 18 [vr a0] [] κ (up2 I b1 13 b0) L Z) : Ev E d M_X11_begin 15 [vr a0] [vi b0, vr b1] κ I L Z := E_putI (ci := 11) (n := 13) dX11_begin_15 wF_RX11_97 (by decide) hs rfl rfl hz k
theorem t79_X11_begin_18 {E : En} {d : Nat} {κ : Kp} {I L : MI} {Z : Zt} {a0 : Nat}  (k : Ev E d M_X11_begin 19 [vr a0] [vr a0] κ I L Z) : Ev E d M_X11_begin 18 [vr a0] [] κ I L Z := E_aload_n dX11_begin_18 rfl k
theorem t79_X11_begin_19 {E : En} {d : Nat} {κ : Kp} {I L : MI} {Z : Zt} {a0 b0 : Nat}  (k : Ev E d M_X11_begin 20 [vr a0] [vi 0, vr b0] κ I L Z) : Ev E d M_X11_begin 19 [vr a0] [vr b0] κ I L Z := E_iconst (v := 0) dX11_begin_19 rfl k
theorem t79_X11_begin_20 {E : En} {d : Nat} {κ : Kp} {I L : MI} {Z : Zt} {a0 b1 : Nat} {b0 : Int} (hs : κ.1.1[b1]? = some (.inl 11)) (hz : Ir b0) (k : Ev E d M_X11_begin 23 [vr a0] [] κ (up2 I b1 17 b0) L Z) : Ev E d M_X11_begin 20 [vr a0] [vi b0, vr b1] κ I L Z := E_putI (ci := 11) (n := 17) dX11_begin_20 wF_RX11_119 (by decide) hs rfl rfl hz k
theorem t79_X11_begin_23 {E : En} {d : Nat} {κ : Kp} {I L : MI} {Z : Zt} {a0 : Nat}  (k : Ev E d M_X11_begin 24 [vr a0] [vr a0] κ I L Z) : Ev E d M_X11_begin 23 [vr a0] [] κ I L Z := E_aload_n dX11_begin_23 rfl k
theorem t79_X11_begin_24 {E : En} {d d' : Nat} {cs : Nat × Nat} {I L : MI} {Z : Zt} {a0 b0 : Nat} {Q : MI → MI → Prop} (hs : G0.1[b0]? = some (.inl 11)) (hM : CQv E d' M_X11_next [vr b0] I L Q) (hlt : d' + 1 ≤ d) (kk : ∀ (I' L' : MI), Q I' L' → Ev E d M_X11_begin 27 [vr a0] [] (G0, cs) I' L' Z) (hc1 : cs.1 ≤ M_X11_begin.2.2.2.2.1 := by decide) (hc2 : cs.2 ≤ M_X11_begin.2.2.2.2.2 := by decide) : Ev E d M_X11_begin 24 [vr a0] [vr b0] (G0, cs) I L Z := E_callV (as := []) (rest := []) (n := 0) hM dX11_begin_24 wM_RX11_122 wS_X11_next wV_X11_next hs (by decide) rfl hlt wC_X11_next wI_X11 (by decide +kernel) rfl (by decide) (Nat.le_of_ble_eq_true rfl) hc1 hc2 rfl (fun r g' I' L' h => by obtain ⟨rfl, rfl, h⟩ := h; exact kk I' L' h)
theorem t79_X11_begin_27 {E : En} {d : Nat} {g : Geo} {I L : MI} {Q : Option AV → Geo → MI → MI → Prop} {cs : Nat × Nat} {a0 : Nat} (hq : Q none g I L) (h1 : cs.1 ≤ M_X11_begin.2.2.2.2.1 := by decide) (h2 : cs.2 ≤ M_X11_begin.2.2.2.2.2 := by decide) : Ev E d M_X11_begin 27 [vr a0] [] (g, cs) I L (ZQ E M_X11_begin Q) := E_return rfl dX11_begin_27 hq h1 h2
theorem t79_X11_tongue_0 {E : En} {d : Nat} {κ : Kp} {I L : MI} {Z : Zt} {a0 : Nat}  (k : Ev E d M_X11_tongue 1 [vr a0, vu] [vr a0] κ I L Z) : Ev E d M_X11_tongue 0 [vr a0, vu] [] κ I L Z := E_aload_n dX11_tongue_0 rfl k
theorem t79_X11_tongue_1 {E : En} {d : Nat} {κ : Kp} {I L : MI} {Z : Zt} {a0 b0 : Nat}  (k : Ev E d M_X11_tongue 2 [vr a0, vu] [vi 0, vr b0] κ I L Z) : Ev E d M_X11_tongue 1 [vr a0, vu] [vr b0] κ I L Z := E_iconst (v := 0) dX11_tongue_1 rfl k
theorem t79_X11_tongue_2 {E : En} {d : Nat} {κ : Kp} {I L : MI} {Z : Zt} {a0 b1 : Nat} {b0 : Int} (hs : κ.1.1[b1]? = some (.inl 11)) (hz : Ir b0) (k : Ev E d M_X11_tongue 5 [vr a0, vu] [] κ (up2 I b1 0 b0) L Z) : Ev E d M_X11_tongue 2 [vr a0, vu] [vi b0, vr b1] κ I L Z := E_putI (ci := 11) (n := 0) dX11_tongue_2 wF_RX11_57 (by decide) hs rfl rfl hz k
theorem t79_X11_tongue_5 {E : En} {d : Nat} {κ : Kp} {I L : MI} {Z : Zt} {a0 : Nat}  (k : Ev E d M_X11_tongue 6 [vr a0, vu] [vr a0] κ I L Z) : Ev E d M_X11_tongue 5 [vr a0, vu] [] κ I L Z := E_aload_n dX11_tongue_5 rfl k
theorem t79_X11_tongue_6 {E : En} {d d' : Nat} {cs : Nat × Nat} {I L : MI} {Z : Zt} {a0 b0 : Nat} {Q : MI → MI → Prop} (hs : G0.1[b0]? = some (.inl 11)) (hM : CQv E d' M_X11_begin [vr b0] I L Q) (hlt : d' + 1 ≤ d) (kk : ∀ (I' L' : MI), Q I' L' → Ev E d M_X11_tongue 9 [vr a0, vu] [] (G0, cs) I' L' Z) (hc1 : cs.1 ≤ M_X11_tongue.2.2.2.2.1 := by decide) (hc2 : cs.2 ≤ M_X11_tongue.2.2.2.2.2 := by decide) : Ev E d M_X11_tongue 6 [vr a0, vu] [vr b0] (G0, cs) I L Z := E_callV (as := []) (rest := []) (n := 0) hM dX11_tongue_6 wM_RX11_168 wS_X11_begin wV_X11_begin hs (by decide) rfl hlt wC_X11_begin wI_X11 (by decide +kernel) rfl (by decide) (Nat.le_of_ble_eq_true rfl) hc1 hc2 rfl (fun r g' I' L' h => by obtain ⟨rfl, rfl, h⟩ := h; exact kk I' L' h)
theorem t79_X11_tongue_194 {E : En} {d : Nat} {κ : Kp} {I L : MI} {Z : Zt} {a0 : Nat} {a1 : Int}  (k : Ev E d M_X11_tongue 195 [vr a0, vi a1] [vi a1] κ I L Z) : Ev E d M_X11_tongue 194 [vr a0, vi a1] [] κ I L Z := E_iload_n dX11_tongue_194 rfl k
theorem t79_X11_tongue_195 {E : En} {d : Nat} {κ : Kp} {I L : MI} {Z : Zt} {a0 : Nat} {a1 b0 : Int}  (k : Ev E d M_X11_tongue 197 [vr a0, vi a1] [vi 8, vi b0] κ I L Z) : Ev E d M_X11_tongue 195 [vr a0, vi a1] [vi b0] κ I L Z := E_bipush (v := 8) dX11_tongue_195 rfl k
theorem t79_X11_tongue_197 {E : En} {d : Nat} {κ : Kp} {I L : MI} {Z : Zt} {a0 : Nat} {a1 b0 b1 : Int} (hx : Ir b1) (hy : Ir b0) (kt : b0 ≤ b1 → Ev E d M_X11_tongue 213 [vr a0, vi a1] [] κ I L Z) (kf : b1 < b0 → Ev E d M_X11_tongue 200 [vr a0, vi a1] [] κ I L Z) : Ev E d M_X11_tongue 197 [vr a0, vi a1] [vi b0, vi b1] κ I L Z := E_icmp_ge dX11_tongue_197 hx hy kt kf (by decide)
theorem t79_X11_tongue_213 {E : En} {d : Nat} {κ : Kp} {I L : MI} {Z : Zt} {a0 : Nat} {a1 : Int}  (k : Ev E d M_X11_tongue 214 [vr a0, vi a1] [vr a0] κ I L Z) : Ev E d M_X11_tongue 213 [vr a0, vi a1] [] κ I L Z := E_aload_n dX11_tongue_213 rfl k
theorem t79_X11_tongue_214 {E : En} {d : Nat} {κ : Kp} {I L : MI} {Z : Zt} {a0 b0 : Nat} {a1 : Int} {q : Nat} (hs : κ.1.1[b0]? = some (.inl 11)) (hq : κ.1.2 b0 5 = some q) (k : Ev E d M_X11_tongue 217 [vr a0, vi a1] [vr q] κ I L Z) : Ev E d M_X11_tongue 214 [vr a0, vi a1] [vr b0] κ I L Z := E_getR (ci := 11) (n := 5) dX11_tongue_214 wF_RX11_19 (by decide) hs rfl hq k
theorem t79_X11_tongue_217 {E : En} {d : Nat} {κ : Kp} {I L : MI} {Z : Zt} {a0 b0 : Nat} {a1 : Int}  (k : Ev E d M_X11_tongue 218 [vr a0, vi a1] [vi 0, vr b0] κ I L Z) : Ev E d M_X11_tongue 217 [vr a0, vi a1] [vr b0] κ I L Z := E_iconst (v := 0) dX11_tongue_217 rfl k
theorem t79_X11_tongue_218 {E : En} {d : Nat} {κ : Kp} {I L : MI} {Z : Zt} {a0 b1 : Nat} {a1 b0 : Int} {n : Nat} (hs : κ.1.1[b1]? = some (.inr (0, n))) (h0 : 0 ≤ b0) (h1 : b0 < n) (hi : Ir b0) (k : Ir (I b1 b0) → Ev E d M_X11_tongue 219 [vr a0, vi a1] [vi (I b1 b0)] κ I L Z) : Ev E d M_X11_tongue 218 [vr a0, vi a1] [vi b0, vr b1] κ I L Z := E_ialdI dX11_tongue_218 hs h0 h1 hi k
theorem t79_X11_tongue_219 {E : En} {d : Nat} {κ : Kp} {I L : MI} {Z : Zt} {a0 : Nat} {a1 b0 : Int} (hx : Ir b0) (k : Ev E d M_X11_tongue 220 [vr a0, vi a1] [vl b0] κ I L Z) : Ev E d M_X11_tongue 219 [vr a0, vi a1] [vi b0] κ I L Z := E_i2l dX11_tongue_219 hx k
theorem t79_X11_tongue_220 {E : En} {d : Nat} {g : Geo} {I L : MI} {Q : Option AV → Geo → MI → MI → Prop} {cs : Nat × Nat} {a0 : Nat} {a1 b0 : Int} (hq : Q (some (vl b0)) g I L) (h1 : cs.1 ≤ M_X11_tongue.2.2.2.2.1 := by decide) (h2 : cs.2 ≤ M_X11_tongue.2.2.2.2.2 := by decide) : Ev E d M_X11_tongue 220 [vr a0, vi a1] [vl b0] (g, cs) I L (ZQ E M_X11_tongue Q) := E_lreturn rfl dX11_tongue_220 hq h1 h2
theorem t79_X11_tongue_200 {E : En} {d : Nat} {κ : Kp} {I L : MI} {Z : Zt} {a0 : Nat} {a1 : Int}  (k : Ev E d M_X11_tongue 201 [vr a0, vi a1] [vr a0] κ I L Z) : Ev E d M_X11_tongue 200 [vr a0, vi a1] [] κ I L Z := E_aload_n dX11_tongue_200 rfl k
theorem t79_X11_tongue_201 {E : En} {d : Nat} {κ : Kp} {I L : MI} {Z : Zt} {a0 b0 : Nat} {a1 : Int} {q : Nat} (hs : κ.1.1[b0]? = some (.inl 11)) (hq : κ.1.2 b0 8 = some q) (k : Ev E d M_X11_tongue 204 [vr a0, vi a1] [vr q] κ I L Z) : Ev E d M_X11_tongue 201 [vr a0, vi a1] [vr b0] κ I L Z := E_getR (ci := 11) (n := 8) dX11_tongue_201 wF_RX11_25 (by decide) hs rfl hq k
theorem t79_X11_tongue_204 {E : En} {d : Nat} {κ : Kp} {I L : MI} {Z : Zt} {a0 b0 : Nat} {a1 : Int}  (k : Ev E d M_X11_tongue 205 [vr a0, vi a1] [vi a1, vr b0] κ I L Z) : Ev E d M_X11_tongue 204 [vr a0, vi a1] [vr b0] κ I L Z := E_iload_n dX11_tongue_204 rfl k
theorem t79_X11_tongue_205 {E : En} {d : Nat} {κ : Kp} {I L : MI} {Z : Zt} {a0 b1 : Nat} {a1 b0 : Int}  (k : Ev E d M_X11_tongue 206 [vr a0, vi a1] [vl 0, vi b0, vr b1] κ I L Z) : Ev E d M_X11_tongue 205 [vr a0, vi a1] [vi b0, vr b1] κ I L Z := E_lconst (v := 0) dX11_tongue_205 rfl k
theorem t79_X11_tongue_206 {E : En} {d : Nat} {κ : Kp} {I L : MI} {Z : Zt} {a0 b2 : Nat} {a1 b0 b1 : Int} {n : Nat} (ha : κ.1.1[b2]? = some (.inr (3, n))) (h0 : 0 ≤ b1) (h1 : b1 < n) (hi : Ir b1) (hz : Jr b0) (k : Ev E d M_X11_tongue 207 [vr a0, vi a1] [] κ I (up2 L b2 b1 b0) Z) : Ev E d M_X11_tongue 206 [vr a0, vi a1] [vl b0, vi b1, vr b2] κ I L Z := E_last dX11_tongue_206 ha h0 h1 hi hz k
theorem t79_X11_tongue_207 {E : En} {d : Nat} {κ : Kp} {I L : MI} {Z : Zt} {a0 : Nat} {a1 : Int}  (k : Ev E d M_X11_tongue 210 [vr a0, vi (a1 + 1)] [] κ I L Z) : Ev E d M_X11_tongue 207 [vr a0, vi a1] [] κ I L Z := E_iinc dX11_tongue_207 rfl rfl (Nat.le_of_ble_eq_true rfl) k
theorem t79_X11_tongue_210 {E : En} {d : Nat} {κ : Kp} {I L : MI} {Z : Zt} {a0 : Nat} {a1 : Int}  (k : Ev E d M_X11_tongue 194 [vr a0, vi a1] [] κ I L Z) : Ev E d M_X11_tongue 210 [vr a0, vi a1] [] κ I L Z := E_goto dX11_tongue_210 (by decide) k
theorem t79_X11_tongue_168 {E : En} {d : Nat} {κ : Kp} {I L : MI} {Z : Zt} {a0 : Nat} {a1 : Int}  (k : Ev E d M_X11_tongue 169 [vr a0, vi a1] [vi a1] κ I L Z) : Ev E d M_X11_tongue 168 [vr a0, vi a1] [] κ I L Z := E_iload_n dX11_tongue_168 rfl k
theorem t79_X11_tongue_169 {E : En} {d : Nat} {κ : Kp} {I L : MI} {Z : Zt} {a0 : Nat} {a1 b0 : Int}  (k : Ev E d M_X11_tongue 171 [vr a0, vi a1] [vi 65, vi b0] κ I L Z) : Ev E d M_X11_tongue 169 [vr a0, vi a1] [vi b0] κ I L Z := E_bipush (v := 65) dX11_tongue_169 rfl k
theorem t79_X11_tongue_171 {E : En} {d : Nat} {κ : Kp} {I L : MI} {Z : Zt} {a0 : Nat} {a1 b0 b1 : Int} (hx : Ir b1) (hy : Ir b0) (kt : b0 ≤ b1 → Ev E d M_X11_tongue 192 [vr a0, vi a1] [] κ I L Z) (kf : b1 < b0 → Ev E d M_X11_tongue 174 [vr a0, vi a1] [] κ I L Z) : Ev E d M_X11_tongue 171 [vr a0, vi a1] [vi b0, vi b1] κ I L Z := E_icmp_ge dX11_tongue_171 hx hy kt kf (by decide)
theorem t79_X11_tongue_192 {E : En} {d : Nat} {κ : Kp} {I L : MI} {Z : Zt} {a0 : Nat} {a1 : Int}  (k : Ev E d M_X11_tongue 193 [vr a0, vi a1] [vi 0] κ I L Z) : Ev E d M_X11_tongue 192 [vr a0, vi a1] [] κ I L Z := E_iconst (v := 0) dX11_tongue_192 rfl k
theorem t79_X11_tongue_193 {E : En} {d : Nat} {κ : Kp} {I L : MI} {Z : Zt} {a0 : Nat} {a1 b0 : Int}  (k : Ev E d M_X11_tongue 194 [vr a0, vi b0] [] κ I L Z) : Ev E d M_X11_tongue 193 [vr a0, vi a1] [vi b0] κ I L Z := E_istore_n dX11_tongue_193 rfl (Nat.le_of_ble_eq_true rfl) k
theorem t79_X11_tongue_174 {E : En} {d : Nat} {κ : Kp} {I L : MI} {Z : Zt} {a0 : Nat} {a1 : Int}  (k : Ev E d M_X11_tongue 175 [vr a0, vi a1] [vr a0] κ I L Z) : Ev E d M_X11_tongue 174 [vr a0, vi a1] [] κ I L Z := E_aload_n dX11_tongue_174 rfl k
theorem t79_X11_tongue_175 {E : En} {d : Nat} {κ : Kp} {I L : MI} {Z : Zt} {a0 b0 : Nat} {a1 : Int} {q : Nat} (hs : κ.1.1[b0]? = some (.inl 11)) (hq : κ.1.2 b0 5 = some q) (k : Ev E d M_X11_tongue 178 [vr a0, vi a1] [vr q] κ I L Z) : Ev E d M_X11_tongue 175 [vr a0, vi a1] [vr b0] κ I L Z := E_getR (ci := 11) (n := 5) dX11_tongue_175 wF_RX11_19 (by decide) hs rfl hq k
theorem t79_X11_tongue_178 {E : En} {d : Nat} {κ : Kp} {I L : MI} {Z : Zt} {a0 b0 : Nat} {a1 : Int}  (k : Ev E d M_X11_tongue 179 [vr a0, vi a1] [vi a1, vr b0] κ I L Z) : Ev E d M_X11_tongue 178 [vr a0, vi a1] [vr b0] κ I L Z := E_iload_n dX11_tongue_178 rfl k
theorem t79_X11_tongue_179 {E : En} {d : Nat} {κ : Kp} {I L : MI} {Z : Zt} {a0 b1 : Nat} {a1 b0 : Int}  (k : Ev E d M_X11_tongue 180 [vr a0, vi a1] [vr a0, vi b0, vr b1] κ I L Z) : Ev E d M_X11_tongue 179 [vr a0, vi a1] [vi b0, vr b1] κ I L Z := E_aload_n dX11_tongue_179 rfl k
theorem t79_X11_tongue_180 {E : En} {d : Nat} {κ : Kp} {I L : MI} {Z : Zt} {a0 b0 b2 : Nat} {a1 b1 : Int} {q : Nat} (hs : κ.1.1[b0]? = some (.inl 11)) (hq : κ.1.2 b0 6 = some q) (k : Ev E d M_X11_tongue 183 [vr a0, vi a1] [vr q, vi b1, vr b2] κ I L Z) : Ev E d M_X11_tongue 180 [vr a0, vi a1] [vr b0, vi b1, vr b2] κ I L Z := E_getR (ci := 11) (n := 6) dX11_tongue_180 wF_RX11_22 (by decide) hs rfl hq k
theorem t79_X11_tongue_183 {E : En} {d : Nat} {κ : Kp} {I L : MI} {Z : Zt} {a0 b0 b2 : Nat} {a1 b1 : Int}  (k : Ev E d M_X11_tongue 184 [vr a0, vi a1] [vi a1, vr b0, vi b1, vr b2] κ I L Z) : Ev E d M_X11_tongue 183 [vr a0, vi a1] [vr b0, vi b1, vr b2] κ I L Z := E_iload_n dX11_tongue_183 rfl k
theorem t79_X11_tongue_184 {E : En} {d : Nat} {κ : Kp} {I L : MI} {Z : Zt} {a0 b1 b3 : Nat} {a1 b0 b2 : Int} {n : Nat} (hs : κ.1.1[b1]? = some (.inr (0, n))) (h0 : 0 ≤ b0) (h1 : b0 < n) (hi : Ir b0) (k : Ir (I b1 b0) → Ev E d M_X11_tongue 185 [vr a0, vi a1] [vi (I b1 b0), vi b2, vr b3] κ I L Z) : Ev E d M_X11_tongue 184 [vr a0, vi a1] [vi b0, vr b1, vi b2, vr b3] κ I L Z := E_ialdI dX11_tongue_184 hs h0 h1 hi k
theorem t79_X11_tongue_185 {E : En} {d : Nat} {κ : Kp} {I L : MI} {Z : Zt} {a0 b2 : Nat} {a1 b0 b1 : Int} {n : Nat} (ha : κ.1.1[b2]? = some (.inr (0, n))) (h0 : 0 ≤ b1) (h1 : b1 < n) (hi : Ir b1) (hz : Ir b0) (k : Ev E d M_X11_tongue 186 [vr a0, vi a1] [] κ (up2 I b2 b1 b0) L Z) : Ev E d M_X11_tongue 185 [vr a0, vi a1] [vi b0, vi b1, vr b2] κ I L Z := E_iast dX11_tongue_185 ha h0 h1 hi hz k
theorem t79_X11_tongue_186 {E : En} {d : Nat} {κ : Kp} {I L : MI} {Z : Zt} {a0 : Nat} {a1 : Int}  (k : Ev E d M_X11_tongue 189 [vr a0, vi (a1 + 1)] [] κ I L Z) : Ev E d M_X11_tongue 186 [vr a0, vi a1] [] κ I L Z := E_iinc dX11_tongue_186 rfl rfl (Nat.le_of_ble_eq_true rfl) k
theorem t79_X11_tongue_189 {E : En} {d : Nat} {κ : Kp} {I L : MI} {Z : Zt} {a0 : Nat} {a1 : Int}  (k : Ev E d M_X11_tongue 168 [vr a0, vi a1] [] κ I L Z) : Ev E d M_X11_tongue 189 [vr a0, vi a1] [] κ I L Z := E_goto dX11_tongue_189 (by decide) k
theorem t79_X11_tongue_136 {E : En} {d : Nat} {κ : Kp} {I L : MI} {Z : Zt} {a0 : Nat} {a1 : Int}  (k : Ev E d M_X11_tongue 137 [vr a0, vi a1] [vr a0] κ I L Z) : Ev E d M_X11_tongue 136 [vr a0, vi a1] [] κ I L Z := E_aload_n dX11_tongue_136 rfl k
theorem t79_X11_tongue_137 {E : En} {d : Nat} {κ : Kp} {I L : MI} {Z : Zt} {a0 b0 : Nat} {a1 : Int} (hs : κ.1.1[b0]? = some (.inl 11)) (k : Ir (I b0 17) → Ev E d M_X11_tongue 140 [vr a0, vi a1] [vi (I b0 17)] κ I L Z) : Ev E d M_X11_tongue 137 [vr a0, vi a1] [vr b0] κ I L Z := E_getI (ci := 11) (n := 17) dX11_tongue_137 wF_RX11_119 (by decide) hs rfl k
theorem t79_X11_tongue_140 {E : En} {d : Nat} {κ : Kp} {I L : MI} {Z : Zt} {a0 : Nat} {a1 b0 : Int} (hx : Ir b0) (kt : b0 ≤ 0 → Ev E d M_X11_tongue 161 [vr a0, vi a1] [] κ I L Z) (kf : 0 < b0 → Ev E d M_X11_tongue 143 [vr a0, vi a1] [] κ I L Z) : Ev E d M_X11_tongue 140 [vr a0, vi a1] [vi b0] κ I L Z := E_if_le dX11_tongue_140 hx kt kf (by decide)
theorem t79_X11_tongue_161 {E : En} {d : Nat} {κ : Kp} {I L : MI} {Z : Zt} {a0 : Nat} {a1 : Int}  (k : Ev E d M_X11_tongue 162 [vr a0, vi a1] [vr a0] κ I L Z) : Ev E d M_X11_tongue 161 [vr a0, vi a1] [] κ I L Z := E_aload_n dX11_tongue_161 rfl k
theorem t79_X11_tongue_162 {E : En} {d : Nat} {κ : Kp} {I L : MI} {Z : Zt} {a0 b0 : Nat} {a1 : Int}  (k : Ev E d M_X11_tongue 163 [vr a0, vi a1] [vi 1, vr b0] κ I L Z) : Ev E d M_X11_tongue 162 [vr a0, vi a1] [vr b0] κ I L Z := E_iconst (v := 1) dX11_tongue_162 rfl k
theorem t79_X11_tongue_163 {E : En} {d : Nat} {κ : Kp} {I L : MI} {Z : Zt} {a0 b1 : Nat} {a1 b0 : Int} (hs : κ.1.1[b1]? = some (.inl 11)) (hz : b0 = 0 ∨ b0 = 1) (k : Ev E d M_X11_tongue 166 [vr a0, vi a1] [] κ (up2 I b1 7 b0) L Z) : Ev E d M_X11_tongue 163 [vr a0, vi a1] [vi b0, vr b1] κ I L Z := E_putZ (ci := 11) (n := 7) dX11_tongue_163 wF_RX11_191 (by decide) hs rfl rfl hz k
theorem t79_X11_tongue_166 {E : En} {d : Nat} {κ : Kp} {I L : MI} {Z : Zt} {a0 : Nat} {a1 : Int}  (k : Ev E d M_X11_tongue 167 [vr a0, vi a1] [vi 0] κ I L Z) : Ev E d M_X11_tongue 166 [vr a0, vi a1] [] κ I L Z := E_iconst (v := 0) dX11_tongue_166 rfl k
theorem t79_X11_tongue_167 {E : En} {d : Nat} {κ : Kp} {I L : MI} {Z : Zt} {a0 : Nat} {a1 b0 : Int}  (k : Ev E d M_X11_tongue 168 [vr a0, vi b0] [] κ I L Z) : Ev E d M_X11_tongue 167 [vr a0, vi a1] [vi b0] κ I L Z := E_istore_n dX11_tongue_167 rfl (Nat.le_of_ble_eq_true rfl) k
theorem t79_X11_tongue_143 {E : En} {d : Nat} {κ : Kp} {I L : MI} {Z : Zt} {a0 : Nat} {a1 : Int}  (k : Ev E d M_X11_tongue 144 [vr a0, vi a1] [vr a0] κ I L Z) : Ev E d M_X11_tongue 143 [vr a0, vi a1] [] κ I L Z := E_aload_n dX11_tongue_143 rfl k
theorem t79_X11_tongue_144 {E : En} {d : Nat} {κ : Kp} {I L : MI} {Z : Zt} {a0 b0 : Nat} {a1 : Int}  (k : Ev E d M_X11_tongue 145 [vr a0, vi a1] [vr a0, vr b0] κ I L Z) : Ev E d M_X11_tongue 144 [vr a0, vi a1] [vr b0] κ I L Z := E_aload_n dX11_tongue_144 rfl k
theorem t79_X11_tongue_145 {E : En} {d : Nat} {κ : Kp} {I L : MI} {Z : Zt} {a0 b0 b1 : Nat} {a1 : Int} (hs : κ.1.1[b0]? = some (.inl 11)) (k : Ir (I b0 17) → Ev E d M_X11_tongue 148 [vr a0, vi a1] [vi (I b0 17), vr b1] κ I L Z) : Ev E d M_X11_tongue 145 [vr a0, vi a1] [vr b0, vr b1] κ I L Z := E_getI (ci := 11) (n := 17) dX11_tongue_145 wF_RX11_119 (by decide) hs rfl k
theorem t79_X11_tongue_148 {E : En} {d : Nat} {κ : Kp} {I L : MI} {Z : Zt} {a0 b1 : Nat} {a1 b0 : Int} (hs : κ.1.1[b1]? = some (.inl 11)) (hz : Ir b0) (k : Ev E d M_X11_tongue 151 [vr a0, vi a1] [] κ (up2 I b1 11 b0) L Z) : Ev E d M_X11_tongue 148 [vr a0, vi a1] [vi b0, vr b1] κ I L Z := E_putI (ci := 11) (n := 11) dX11_tongue_148 wF_RX11_186 (by decide) hs rfl rfl hz k
theorem t79_X11_tongue_151 {E : En} {d : Nat} {κ : Kp} {I L : MI} {Z : Zt} {a0 : Nat} {a1 : Int}  (k : Ev E d M_X11_tongue 154 [vr a0, vi a1] [vl (-9000000000000000100)] κ I L Z) : Ev E d M_X11_tongue 151 [vr a0, vi a1] [] κ I L Z := E_ldc2 (v := (-9000000000000000100)) dX11_tongue_151 wK_RX11_189 k
theorem t79_X11_tongue_154 {E : En} {d : Nat} {κ : Kp} {I L : MI} {Z : Zt} {a0 : Nat} {a1 b0 : Int}  (k : Ev E d M_X11_tongue 155 [vr a0, vi a1] [vr a0, vl b0] κ I L Z) : Ev E d M_X11_tongue 154 [vr a0, vi a1] [vl b0] κ I L Z := E_aload_n dX11_tongue_154 rfl k
theorem t79_X11_tongue_155 {E : En} {d : Nat} {κ : Kp} {I L : MI} {Z : Zt} {a0 b0 : Nat} {a1 b1 : Int} (hs : κ.1.1[b0]? = some (.inl 11)) (k : Ir (I b0 18) → Ev E d M_X11_tongue 158 [vr a0, vi a1] [vi (I b0 18), vl b1] κ I L Z) : Ev E d M_X11_tongue 155 [vr a0, vi a1] [vr b0, vl b1] κ I L Z := E_getI (ci := 11) (n := 18) dX11_tongue_155 wF_RX11_125 (by decide) hs rfl k
theorem t79_X11_tongue_158 {E : En} {d : Nat} {κ : Kp} {I L : MI} {Z : Zt} {a0 : Nat} {a1 b0 b1 : Int} (hx : Ir b0) (k : Ev E d M_X11_tongue 159 [vr a0, vi a1] [vl b0, vl b1] κ I L Z) : Ev E d M_X11_tongue 158 [vr a0, vi a1] [vi b0, vl b1] κ I L Z := E_i2l dX11_tongue_158 hx k
theorem t79_X11_tongue_159 {E : En} {d : Nat} {κ : Kp} {I L : MI} {Z : Zt} {a0 : Nat} {a1 b0 b1 : Int}  (k : Ev E d M_X11_tongue 160 [vr a0, vi a1] [vl (b1 - b0)] κ I L Z) : Ev E d M_X11_tongue 159 [vr a0, vi a1] [vl b0, vl b1] κ I L Z := E_lsub dX11_tongue_159 k
theorem t79_X11_tongue_160 {E : En} {d : Nat} {g : Geo} {I L : MI} {Q : Option AV → Geo → MI → MI → Prop} {cs : Nat × Nat} {a0 : Nat} {a1 b0 : Int} (hq : Q (some (vl b0)) g I L) (h1 : cs.1 ≤ M_X11_tongue.2.2.2.2.1 := by decide) (h2 : cs.2 ≤ M_X11_tongue.2.2.2.2.2 := by decide) : Ev E d M_X11_tongue 160 [vr a0, vi a1] [vl b0] (g, cs) I L (ZQ E M_X11_tongue Q) := E_lreturn rfl dX11_tongue_160 hq h1 h2
theorem t79_X11_tongue_116 {E : En} {d : Nat} {κ : Kp} {I L : MI} {Z : Zt} {a0 : Nat} {a1 : Int}  (k : Ev E d M_X11_tongue 117 [vr a0, vi a1] [vr a0] κ I L Z) : Ev E d M_X11_tongue 116 [vr a0, vi a1] [] κ I L Z := E_aload_n dX11_tongue_116 rfl k
theorem t79_X11_tongue_117 {E : En} {d : Nat} {κ : Kp} {I L : MI} {Z : Zt} {a0 b0 : Nat} {a1 : Int} (hs : κ.1.1[b0]? = some (.inl 11)) (k : Ir (I b0 17) → Ev E d M_X11_tongue 120 [vr a0, vi a1] [vi (I b0 17)] κ I L Z) : Ev E d M_X11_tongue 117 [vr a0, vi a1] [vr b0] κ I L Z := E_getI (ci := 11) (n := 17) dX11_tongue_117 wF_RX11_119 (by decide) hs rfl k
theorem t79_X11_tongue_120 {E : En} {d : Nat} {κ : Kp} {I L : MI} {Z : Zt} {a0 : Nat} {a1 b0 : Int} (hx : Ir b0) (kt : ¬ b0 = 0 → Ev E d M_X11_tongue 136 [vr a0, vi a1] [] κ I L Z) (kf : b0 = 0 → Ev E d M_X11_tongue 123 [vr a0, vi a1] [] κ I L Z) : Ev E d M_X11_tongue 120 [vr a0, vi a1] [vi b0] κ I L Z := E_if_ne dX11_tongue_120 hx kt kf (by decide)
theorem t79_X11_tongue_123 {E : En} {d : Nat} {κ : Kp} {I L : MI} {Z : Zt} {a0 : Nat} {a1 : Int}  (k : Ev E d M_X11_tongue 124 [vr a0, vi a1] [vr a0] κ I L Z) : Ev E d M_X11_tongue 123 [vr a0, vi a1] [] κ I L Z := E_aload_n dX11_tongue_123 rfl k
theorem t79_X11_tongue_124 {E : En} {d : Nat} {κ : Kp} {I L : MI} {Z : Zt} {a0 b0 : Nat} {a1 : Int} (hs : κ.1.1[b0]? = some (.inl 11)) (k : Ir (I b0 14) → Ev E d M_X11_tongue 127 [vr a0, vi a1] [vi (I b0 14)] κ I L Z) : Ev E d M_X11_tongue 124 [vr a0, vi a1] [vr b0] κ I L Z := E_getI (ci := 11) (n := 14) dX11_tongue_124 wF_RX11_107 (by decide) hs rfl k
theorem t79_X11_tongue_127 {E : En} {d : Nat} {κ : Kp} {I L : MI} {Z : Zt} {a0 : Nat} {a1 b0 : Int}  (k : Ev E d M_X11_tongue 128 [vr a0, vi a1] [vi 1, vi b0] κ I L Z) : Ev E d M_X11_tongue 127 [vr a0, vi a1] [vi b0] κ I L Z := E_iconst (v := 1) dX11_tongue_127 rfl k
theorem t79_X11_tongue_128 {E : En} {d : Nat} {κ : Kp} {I L : MI} {Z : Zt} {a0 : Nat} {a1 b0 b1 : Int} (hx : Ir b1) (hy : Ir b0) (kt : b1 = b0 → Ev E d M_X11_tongue 136 [vr a0, vi a1] [] κ I L Z) (kf : ¬ b1 = b0 → Ev E d M_X11_tongue 131 [vr a0, vi a1] [] κ I L Z) : Ev E d M_X11_tongue 128 [vr a0, vi a1] [vi b0, vi b1] κ I L Z := E_icmp_eq dX11_tongue_128 hx hy kt kf (by decide)
theorem t79_X11_tongue_131 {E : En} {d : Nat} {κ : Kp} {I L : MI} {Z : Zt} {a0 : Nat} {a1 : Int}  (k : Ev E d M_X11_tongue 132 [vr a0, vi a1] [vr a0] κ I L Z) : Ev E d M_X11_tongue 131 [vr a0, vi a1] [] κ I L Z := E_aload_n dX11_tongue_131 rfl k
theorem t79_X11_tongue_132 {E : En} {d : Nat} {κ : Kp} {I L : MI} {Z : Zt} {a0 b0 : Nat} {a1 : Int}  (k : Ev E d M_X11_tongue 133 [vr a0, vi a1] [vi 1, vr b0] κ I L Z) : Ev E d M_X11_tongue 132 [vr a0, vi a1] [vr b0] κ I L Z := E_iconst (v := 1) dX11_tongue_132 rfl k
theorem t79_X11_tongue_133 {E : En} {d d' : Nat} {cs : Nat × Nat} {I L : MI} {Z : Zt} {a0 b1 : Nat} {a1 b0 : Int} {I' L' : MI} (hs : G0.1[b1]? = some (.inl 11)) (hM : CFv E d' M_X11_bad [vr b1, vi b0] I L I' L') (hlt : d' + 1 ≤ d) (k : Ev E d M_X11_tongue 136 [vr a0, vi a1] [] (G0, cs) I' L' Z) (hc1 : cs.1 ≤ M_X11_tongue.2.2.2.2.1 := by decide) (hc2 : cs.2 ≤ M_X11_tongue.2.2.2.2.2 := by decide) : Ev E d M_X11_tongue 133 [vr a0, vi a1] [vi b0, vr b1] (G0, cs) I L Z := E_callV (as := [vi b0]) (rest := []) (n := 1) hM dX11_tongue_133 wM_RX11_128 wS_X11_bad wV_X11_bad hs (by decide) rfl hlt wC_X11_bad wI_X11 (by decide +kernel) rfl (by decide) (Nat.le_of_ble_eq_true rfl) hc1 hc2 rfl (fun r g' I2 L2 h => by obtain ⟨rfl, rfl, rfl, rfl⟩ := h; exact k)
theorem t79_X11_tongue_98 {E : En} {d : Nat} {κ : Kp} {I L : MI} {Z : Zt} {a0 : Nat} {a1 : Int}  (k : Ev E d M_X11_tongue 99 [vr a0, vi a1] [vr a0] κ I L Z) : Ev E d M_X11_tongue 98 [vr a0, vi a1] [] κ I L Z := E_aload_n dX11_tongue_98 rfl k
theorem t79_X11_tongue_99 {E : En} {d d' : Nat} {cs : Nat × Nat} {I L : MI} {Z : Zt} {a0 b0 : Nat} {a1 : Int} {z : Int} {I' L' : MI} (hs : G0.1[b0]? = some (.inl 11)) (hM : CFl E d' M_X11_name [vr b0] I L z I' L') (hlt : d' + 1 ≤ d) (k : Jr z → Ev E d M_X11_tongue 102 [vr a0, vi a1] [vl z] (G0, cs) I' L' Z) (hc1 : cs.1 ≤ M_X11_tongue.2.2.2.2.1 := by decide) (hc2 : cs.2 ≤ M_X11_tongue.2.2.2.2.2 := by decide) : Ev E d M_X11_tongue 99 [vr a0, vi a1] [vr b0] (G0, cs) I L Z := E_callV (as := []) (rest := []) (n := 0) hM dX11_tongue_99 wM_RX11_157 wS_X11_name wV_X11_name hs (by decide) rfl hlt wC_X11_name wI_X11 (by decide +kernel) rfl (by decide) (Nat.le_of_ble_eq_true rfl) hc1 hc2 rfl (fun r g' I2 L2 h => by obtain ⟨rfl, z, rfl, hr, rfl, rfl, rfl⟩ := h; exact k hr)
theorem t79_X11_tongue_102 {E : En} {d : Nat} {κ : Kp} {I L : MI} {Z : Zt} {a0 : Nat} {a1 b0 : Int}  (k : Ev E d M_X11_tongue 105 [vr a0, vi a1] [vl 1885432178, vl b0] κ I L Z) : Ev E d M_X11_tongue 102 [vr a0, vi a1] [vl b0] κ I L Z := E_ldc2 (v := 1885432178) dX11_tongue_102 wK_RX11_181 k
theorem t79_X11_tongue_105 {E : En} {d : Nat} {κ : Kp} {I L : MI} {Z : Zt} {a0 : Nat} {a1 b0 b1 : Int} (hx : Jr b1) (hy : Jr b0) (kt : ¬ b1 = b0 → Ev E d M_X11_tongue 116 [vr a0, vi a1] [] κ I L Z) (kf : b1 = b0 → Ev E d M_X11_tongue 109 [vr a0, vi a1] [] κ I L Z) : Ev E d M_X11_tongue 105 [vr a0, vi a1] [vl b0, vl b1] κ I L Z := E_lcmp_ne dX11_tongue_105 dX11_tongue_106 hx hy kt kf (by decide)
theorem t79_X11_tongue_109 {E : En} {d : Nat} {κ : Kp} {I L : MI} {Z : Zt} {a0 : Nat} {a1 : Int}  (k : Ev E d M_X11_tongue 110 [vr a0, vi a1] [vr a0] κ I L Z) : Ev E d M_X11_tongue 109 [vr a0, vi a1] [] κ I L Z := E_aload_n dX11_tongue_109 rfl k
theorem t79_X11_tongue_110 {E : En} {d d' : Nat} {cs : Nat × Nat} {I L : MI} {Z : Zt} {a0 b0 : Nat} {a1 : Int} {Q : MI → MI → Prop} (hs : G0.1[b0]? = some (.inl 11)) (hM : CQv E d' M_X11_readPair [vr b0] I L Q) (hlt : d' + 1 ≤ d) (kk : ∀ (I' L' : MI), Q I' L' → Ev E d M_X11_tongue 113 [vr a0, vi a1] [] (G0, cs) I' L' Z) (hc1 : cs.1 ≤ M_X11_tongue.2.2.2.2.1 := by decide) (hc2 : cs.2 ≤ M_X11_tongue.2.2.2.2.2 := by decide) : Ev E d M_X11_tongue 110 [vr a0, vi a1] [vr b0] (G0, cs) I L Z := E_callV (as := []) (rest := []) (n := 0) hM dX11_tongue_110 wM_RX11_183 wS_X11_readPair wV_X11_readPair hs (by decide) rfl hlt wC_X11_readPair wI_X11 (by decide +kernel) rfl (by decide) (Nat.le_of_ble_eq_true rfl) hc1 hc2 rfl (fun r g' I' L' h => by obtain ⟨rfl, rfl, h⟩ := h; exact kk I' L' h)
theorem t79_X11_tongue_113 {E : En} {d : Nat} {κ : Kp} {I L : MI} {Z : Zt} {a0 : Nat} {a1 : Int}  (k : Ev E d M_X11_tongue 98 [vr a0, vi a1] [] κ I L Z) : Ev E d M_X11_tongue 113 [vr a0, vi a1] [] κ I L Z := E_goto dX11_tongue_113 (by decide) k
theorem t79_X11_tongue_80 {E : En} {d : Nat} {κ : Kp} {I L : MI} {Z : Zt} {a0 : Nat} {a1 : Int}  (k : Ev E d M_X11_tongue 81 [vr a0, vi a1] [vr a0] κ I L Z) : Ev E d M_X11_tongue 80 [vr a0, vi a1] [] κ I L Z := E_aload_n dX11_tongue_80 rfl k
theorem t79_X11_tongue_81 {E : En} {d d' : Nat} {cs : Nat × Nat} {I L : MI} {Z : Zt} {a0 b0 : Nat} {a1 : Int} {z : Int} {I' L' : MI} (hs : G0.1[b0]? = some (.inl 11)) (hM : CFl E d' M_X11_name [vr b0] I L z I' L') (hlt : d' + 1 ≤ d) (k : Jr z → Ev E d M_X11_tongue 84 [vr a0, vi a1] [vl z] (G0, cs) I' L' Z) (hc1 : cs.1 ≤ M_X11_tongue.2.2.2.2.1 := by decide) (hc2 : cs.2 ≤ M_X11_tongue.2.2.2.2.2 := by decide) : Ev E d M_X11_tongue 81 [vr a0, vi a1] [vr b0] (G0, cs) I L Z := E_callV (as := []) (rest := []) (n := 0) hM dX11_tongue_81 wM_RX11_157 wS_X11_name wV_X11_name hs (by decide) rfl hlt wC_X11_name wI_X11 (by decide +kernel) rfl (by decide) (Nat.le_of_ble_eq_true rfl) hc1 hc2 rfl (fun r g' I2 L2 h => by obtain ⟨rfl, z, rfl, hr, rfl, rfl, rfl⟩ := h; exact k hr)
theorem t79_X11_tongue_84 {E : En} {d : Nat} {κ : Kp} {I L : MI} {Z : Zt} {a0 : Nat} {a1 b0 : Int}  (k : Ev E d M_X11_tongue 87 [vr a0, vi a1] [vl 1920298085, vl b0] κ I L Z) : Ev E d M_X11_tongue 84 [vr a0, vi a1] [vl b0] κ I L Z := E_ldc2 (v := 1920298085) dX11_tongue_84 wK_RX11_176 k
theorem t79_X11_tongue_87 {E : En} {d : Nat} {κ : Kp} {I L : MI} {Z : Zt} {a0 : Nat} {a1 b0 b1 : Int} (hx : Jr b1) (hy : Jr b0) (kt : ¬ b1 = b0 → Ev E d M_X11_tongue 98 [vr a0, vi a1] [] κ I L Z) (kf : b1 = b0 → Ev E d M_X11_tongue 91 [vr a0, vi a1] [] κ I L Z) : Ev E d M_X11_tongue 87 [vr a0, vi a1] [vl b0, vl b1] κ I L Z := E_lcmp_ne dX11_tongue_87 dX11_tongue_88 hx hy kt kf (by decide)
theorem t79_X11_tongue_91 {E : En} {d : Nat} {κ : Kp} {I L : MI} {Z : Zt} {a0 : Nat} {a1 : Int}  (k : Ev E d M_X11_tongue 92 [vr a0, vi a1] [vr a0] κ I L Z) : Ev E d M_X11_tongue 91 [vr a0, vi a1] [] κ I L Z := E_aload_n dX11_tongue_91 rfl k
theorem t79_X11_tongue_92 {E : En} {d d' : Nat} {cs : Nat × Nat} {I L : MI} {Z : Zt} {a0 b0 : Nat} {a1 : Int} {Q : MI → MI → Prop} (hs : G0.1[b0]? = some (.inl 11)) (hM : CQv E d' M_X11_readRule [vr b0] I L Q) (hlt : d' + 1 ≤ d) (kk : ∀ (I' L' : MI), Q I' L' → Ev E d M_X11_tongue 95 [vr a0, vi a1] [] (G0, cs) I' L' Z) (hc1 : cs.1 ≤ M_X11_tongue.2.2.2.2.1 := by decide) (hc2 : cs.2 ≤ M_X11_tongue.2.2.2.2.2 := by decide) : Ev E d M_X11_tongue 92 [vr a0, vi a1] [vr b0] (G0, cs) I L Z := E_callV (as := []) (rest := []) (n := 0) hM dX11_tongue_92 wM_RX11_178 wS_X11_readRule wV_X11_readRule hs (by decide) rfl hlt wC_X11_readRule wI_X11 (by decide +kernel) rfl (by decide) (Nat.le_of_ble_eq_true rfl) hc1 hc2 rfl (fun r g' I' L' h => by obtain ⟨rfl, rfl, h⟩ := h; exact kk I' L' h)
theorem t79_X11_tongue_95 {E : En} {d : Nat} {κ : Kp} {I L : MI} {Z : Zt} {a0 : Nat} {a1 : Int}  (k : Ev E d M_X11_tongue 80 [vr a0, vi a1] [] κ I L Z) : Ev E d M_X11_tongue 95 [vr a0, vi a1] [] κ I L Z := E_goto dX11_tongue_95 (by decide) k
theorem t79_X11_tongue_62 {E : En} {d : Nat} {κ : Kp} {I L : MI} {Z : Zt} {a0 : Nat} {a1 : Int}  (k : Ev E d M_X11_tongue 63 [vr a0, vi a1] [vr a0] κ I L Z) : Ev E d M_X11_tongue 62 [vr a0, vi a1] [] κ I L Z := E_aload_n dX11_tongue_62 rfl k
theorem t79_X11_tongue_63 {E : En} {d d' : Nat} {cs : Nat × Nat} {I L : MI} {Z : Zt} {a0 b0 : Nat} {a1 : Int} {z : Int} {I' L' : MI} (hs : G0.1[b0]? = some (.inl 11)) (hM : CFl E d' M_X11_name [vr b0] I L z I' L') (hlt : d' + 1 ≤ d) (k : Jr z → Ev E d M_X11_tongue 66 [vr a0, vi a1] [vl z] (G0, cs) I' L' Z) (hc1 : cs.1 ≤ M_X11_tongue.2.2.2.2.1 := by decide) (hc2 : cs.2 ≤ M_X11_tongue.2.2.2.2.2 := by decide) : Ev E d M_X11_tongue 63 [vr a0, vi a1] [vr b0] (G0, cs) I L Z := E_callV (as := []) (rest := []) (n := 0) hM dX11_tongue_63 wM_RX11_157 wS_X11_name wV_X11_name hs (by decide) rfl hlt wC_X11_name wI_X11 (by decide +kernel) rfl (by decide) (Nat.le_of_ble_eq_true rfl) hc1 hc2 rfl (fun r g' I2 L2 h => by obtain ⟨rfl, z, rfl, hr, rfl, rfl, rfl⟩ := h; exact k hr)
theorem t79_X11_tongue_66 {E : En} {d : Nat} {κ : Kp} {I L : MI} {Z : Zt} {a0 : Nat} {a1 b0 : Int}  (k : Ev E d M_X11_tongue 69 [vr a0, vi a1] [vl 499967946343, vl b0] κ I L Z) : Ev E d M_X11_tongue 66 [vr a0, vi a1] [vl b0] κ I L Z := E_ldc2 (v := 499967946343) dX11_tongue_66 wK_RX11_171 k
theorem t79_X11_tongue_69 {E : En} {d : Nat} {κ : Kp} {I L : MI} {Z : Zt} {a0 : Nat} {a1 b0 b1 : Int} (hx : Jr b1) (hy : Jr b0) (kt : ¬ b1 = b0 → Ev E d M_X11_tongue 80 [vr a0, vi a1] [] κ I L Z) (kf : b1 = b0 → Ev E d M_X11_tongue 73 [vr a0, vi a1] [] κ I L Z) : Ev E d M_X11_tongue 69 [vr a0, vi a1] [vl b0, vl b1] κ I L Z := E_lcmp_ne dX11_tongue_69 dX11_tongue_70 hx hy kt kf (by decide)
theorem t79_X11_tongue_73 {E : En} {d : Nat} {κ : Kp} {I L : MI} {Z : Zt} {a0 : Nat} {a1 : Int}  (k : Ev E d M_X11_tongue 74 [vr a0, vi a1] [vr a0] κ I L Z) : Ev E d M_X11_tongue 73 [vr a0, vi a1] [] κ I L Z := E_aload_n dX11_tongue_73 rfl k
theorem t79_X11_tongue_74 {E : En} {d d' : Nat} {cs : Nat × Nat} {I L : MI} {Z : Zt} {a0 b0 : Nat} {a1 : Int} {Q : MI → MI → Prop} (hs : G0.1[b0]? = some (.inl 11)) (hM : CQv E d' M_X11_readThing [vr b0] I L Q) (hlt : d' + 1 ≤ d) (kk : ∀ (I' L' : MI), Q I' L' → Ev E d M_X11_tongue 77 [vr a0, vi a1] [] (G0, cs) I' L' Z) (hc1 : cs.1 ≤ M_X11_tongue.2.2.2.2.1 := by decide) (hc2 : cs.2 ≤ M_X11_tongue.2.2.2.2.2 := by decide) : Ev E d M_X11_tongue 74 [vr a0, vi a1] [vr b0] (G0, cs) I L Z := E_callV (as := []) (rest := []) (n := 0) hM dX11_tongue_74 wM_RX11_173 wS_X11_readThing wV_X11_readThing hs (by decide) rfl hlt wC_X11_readThing wI_X11 (by decide +kernel) rfl (by decide) (Nat.le_of_ble_eq_true rfl) hc1 hc2 rfl (fun r g' I' L' h => by obtain ⟨rfl, rfl, h⟩ := h; exact kk I' L' h)
theorem t79_X11_tongue_77 {E : En} {d : Nat} {κ : Kp} {I L : MI} {Z : Zt} {a0 : Nat} {a1 : Int}  (k : Ev E d M_X11_tongue 62 [vr a0, vi a1] [] κ I L Z) : Ev E d M_X11_tongue 77 [vr a0, vi a1] [] κ I L Z := E_goto dX11_tongue_77 (by decide) k
theorem t79_X11_tongue_11 {E : En} {d : Nat} {κ : Kp} {I L : MI} {Z : Zt} {a0 : Nat} {a1 : Int}  (k : Ev E d M_X11_tongue 12 [vr a0, vi a1] [vi a1] κ I L Z) : Ev E d M_X11_tongue 11 [vr a0, vi a1] [] κ I L Z := E_iload_n dX11_tongue_11 rfl k
theorem t79_X11_tongue_12 {E : En} {d : Nat} {κ : Kp} {I L : MI} {Z : Zt} {a0 : Nat} {a1 b0 : Int}  (k : Ev E d M_X11_tongue 14 [vr a0, vi a1] [vi 65, vi b0] κ I L Z) : Ev E d M_X11_tongue 12 [vr a0, vi a1] [vi b0] κ I L Z := E_bipush (v := 65) dX11_tongue_12 rfl k
theorem t79_X11_tongue_14 {E : En} {d : Nat} {κ : Kp} {I L : MI} {Z : Zt} {a0 : Nat} {a1 b0 b1 : Int} (hx : Ir b1) (hy : Ir b0) (kt : b0 ≤ b1 → Ev E d M_X11_tongue 46 [vr a0, vi a1] [] κ I L Z) (kf : b1 < b0 → Ev E d M_X11_tongue 17 [vr a0, vi a1] [] κ I L Z) : Ev E d M_X11_tongue 14 [vr a0, vi a1] [vi b0, vi b1] κ I L Z := E_icmp_ge dX11_tongue_14 hx hy kt kf (by decide)
theorem t79_X11_tongue_46 {E : En} {d : Nat} {κ : Kp} {I L : MI} {Z : Zt} {a0 : Nat} {a1 : Int}  (k : Ev E d M_X11_tongue 47 [vr a0, vi a1] [vr a0] κ I L Z) : Ev E d M_X11_tongue 46 [vr a0, vi a1] [] κ I L Z := E_aload_n dX11_tongue_46 rfl k
theorem t79_X11_tongue_47 {E : En} {d d' : Nat} {cs : Nat × Nat} {I L : MI} {Z : Zt} {a0 b0 : Nat} {a1 : Int} {z : Int} {I' L' : MI} (hs : G0.1[b0]? = some (.inl 11)) (hM : CFl E d' M_X11_name [vr b0] I L z I' L') (hlt : d' + 1 ≤ d) (k : Jr z → Ev E d M_X11_tongue 50 [vr a0, vi a1] [vl z] (G0, cs) I' L' Z) (hc1 : cs.1 ≤ M_X11_tongue.2.2.2.2.1 := by decide) (hc2 : cs.2 ≤ M_X11_tongue.2.2.2.2.2 := by decide) : Ev E d M_X11_tongue 47 [vr a0, vi a1] [vr b0] (G0, cs) I L Z := E_callV (as := []) (rest := []) (n := 0) hM dX11_tongue_47 wM_RX11_157 wS_X11_name wV_X11_name hs (by decide) rfl hlt wC_X11_name wI_X11 (by decide +kernel) rfl (by decide) (Nat.le_of_ble_eq_true rfl) hc1 hc2 rfl (fun r g' I2 L2 h => by obtain ⟨rfl, z, rfl, hr, rfl, rfl, rfl⟩ := h; exact k hr)
theorem t79_X11_tongue_50 {E : En} {d : Nat} {κ : Kp} {I L : MI} {Z : Zt} {a0 : Nat} {a1 b0 : Int}  (k : Ev E d M_X11_tongue 53 [vr a0, vi a1] [vl 499967946343, vl b0] κ I L Z) : Ev E d M_X11_tongue 50 [vr a0, vi a1] [vl b0] κ I L Z := E_ldc2 (v := 499967946343) dX11_tongue_50 wK_RX11_171 k
theorem t79_X11_tongue_53 {E : En} {d : Nat} {κ : Kp} {I L : MI} {Z : Zt} {a0 : Nat} {a1 b0 b1 : Int} (hx : Jr b1) (hy : Jr b0) (kt : b1 = b0 → Ev E d M_X11_tongue 62 [vr a0, vi a1] [] κ I L Z) (kf : ¬ b1 = b0 → Ev E d M_X11_tongue 57 [vr a0, vi a1] [] κ I L Z) : Ev E d M_X11_tongue 53 [vr a0, vi a1] [vl b0, vl b1] κ I L Z := E_lcmp_eq dX11_tongue_53 dX11_tongue_54 hx hy kt kf (by decide)
theorem t79_X11_tongue_57 {E : En} {d : Nat} {κ : Kp} {I L : MI} {Z : Zt} {a0 : Nat} {a1 : Int}  (k : Ev E d M_X11_tongue 58 [vr a0, vi a1] [vr a0] κ I L Z) : Ev E d M_X11_tongue 57 [vr a0, vi a1] [] κ I L Z := E_aload_n dX11_tongue_57 rfl k
theorem t79_X11_tongue_58 {E : En} {d : Nat} {κ : Kp} {I L : MI} {Z : Zt} {a0 b0 : Nat} {a1 : Int}  (k : Ev E d M_X11_tongue 59 [vr a0, vi a1] [vi 1, vr b0] κ I L Z) : Ev E d M_X11_tongue 58 [vr a0, vi a1] [vr b0] κ I L Z := E_iconst (v := 1) dX11_tongue_58 rfl k
theorem t79_X11_tongue_59 {E : En} {d d' : Nat} {cs : Nat × Nat} {I L : MI} {Z : Zt} {a0 b1 : Nat} {a1 b0 : Int} {I' L' : MI} (hs : G0.1[b1]? = some (.inl 11)) (hM : CFv E d' M_X11_bad [vr b1, vi b0] I L I' L') (hlt : d' + 1 ≤ d) (k : Ev E d M_X11_tongue 62 [vr a0, vi a1] [] (G0, cs) I' L' Z) (hc1 : cs.1 ≤ M_X11_tongue.2.2.2.2.1 := by decide) (hc2 : cs.2 ≤ M_X11_tongue.2.2.2.2.2 := by decide) : Ev E d M_X11_tongue 59 [vr a0, vi a1] [vi b0, vr b1] (G0, cs) I L Z := E_callV (as := [vi b0]) (rest := []) (n := 1) hM dX11_tongue_59 wM_RX11_128 wS_X11_bad wV_X11_bad hs (by decide) rfl hlt wC_X11_bad wI_X11 (by decide +kernel) rfl (by decide) (Nat.le_of_ble_eq_true rfl) hc1 hc2 rfl (fun r g' I2 L2 h => by obtain ⟨rfl, rfl, rfl, rfl⟩ := h; exact k)
theorem t79_X11_tongue_17 {E : En} {d : Nat} {κ : Kp} {I L : MI} {Z : Zt} {a0 : Nat} {a1 : Int}  (k : Ev E d M_X11_tongue 18 [vr a0, vi a1] [vr a0] κ I L Z) : Ev E d M_X11_tongue 17 [vr a0, vi a1] [] κ I L Z := E_aload_n dX11_tongue_17 rfl k
theorem t79_X11_tongue_18 {E : En} {d : Nat} {κ : Kp} {I L : MI} {Z : Zt} {a0 b0 : Nat} {a1 : Int} {q : Nat} (hs : κ.1.1[b0]? = some (.inl 11)) (hq : κ.1.2 b0 6 = some q) (k : Ev E d M_X11_tongue 21 [vr a0, vi a1] [vr q] κ I L Z) : Ev E d M_X11_tongue 18 [vr a0, vi a1] [vr b0] κ I L Z := E_getR (ci := 11) (n := 6) dX11_tongue_18 wF_RX11_22 (by decide) hs rfl hq k
theorem t79_X11_tongue_21 {E : En} {d : Nat} {κ : Kp} {I L : MI} {Z : Zt} {a0 b0 : Nat} {a1 : Int}  (k : Ev E d M_X11_tongue 22 [vr a0, vi a1] [vi a1, vr b0] κ I L Z) : Ev E d M_X11_tongue 21 [vr a0, vi a1] [vr b0] κ I L Z := E_iload_n dX11_tongue_21 rfl k
theorem t79_X11_tongue_22 {E : En} {d : Nat} {κ : Kp} {I L : MI} {Z : Zt} {a0 b1 : Nat} {a1 b0 : Int}  (k : Ev E d M_X11_tongue 23 [vr a0, vi a1] [vi a1, vi b0, vr b1] κ I L Z) : Ev E d M_X11_tongue 22 [vr a0, vi a1] [vi b0, vr b1] κ I L Z := E_iload_n dX11_tongue_22 rfl k
theorem t79_X11_tongue_23 {E : En} {d : Nat} {κ : Kp} {I L : MI} {Z : Zt} {a0 b2 : Nat} {a1 b0 b1 : Int}  (k : Ev E d M_X11_tongue 25 [vr a0, vi a1] [vi 39, vi b0, vi b1, vr b2] κ I L Z) : Ev E d M_X11_tongue 23 [vr a0, vi a1] [vi b0, vi b1, vr b2] κ I L Z := E_bipush (v := 39) dX11_tongue_23 rfl k
theorem t79_X11_tongue_25 {E : En} {d : Nat} {κ : Kp} {I L : MI} {Z : Zt} {a0 b3 : Nat} {a1 b0 b1 b2 : Int} (hx : Ir b1) (hy : Ir b0) (kt : b1 < b0 → Ev E d M_X11_tongue 38 [vr a0, vi a1] [vi b2, vr b3] κ I L Z) (kf : b0 ≤ b1 → Ev E d M_X11_tongue 28 [vr a0, vi a1] [vi b2, vr b3] κ I L Z) : Ev E d M_X11_tongue 25 [vr a0, vi a1] [vi b0, vi b1, vi b2, vr b3] κ I L Z := E_icmp_lt dX11_tongue_25 hx hy kt kf (by decide)
theorem t79_X11_tongue_38 {E : En} {d : Nat} {κ : Kp} {I L : MI} {Z : Zt} {a0 b1 : Nat} {a1 b0 : Int}  (k : Ev E d M_X11_tongue 39 [vr a0, vi a1] [vi 0, vi b0, vr b1] κ I L Z) : Ev E d M_X11_tongue 38 [vr a0, vi a1] [vi b0, vr b1] κ I L Z := E_iconst (v := 0) dX11_tongue_38 rfl k
theorem t79_X11_tongue_39 {E : En} {d : Nat} {κ : Kp} {I L : MI} {Z : Zt} {a0 b2 : Nat} {a1 b0 b1 : Int} {n : Nat} (ha : κ.1.1[b2]? = some (.inr (0, n))) (h0 : 0 ≤ b1) (h1 : b1 < n) (hi : Ir b1) (hz : Ir b0) (k : Ev E d M_X11_tongue 40 [vr a0, vi a1] [] κ (up2 I b2 b1 b0) L Z) : Ev E d M_X11_tongue 39 [vr a0, vi a1] [vi b0, vi b1, vr b2] κ I L Z := E_iast dX11_tongue_39 ha h0 h1 hi hz k
theorem t79_X11_tongue_40 {E : En} {d : Nat} {κ : Kp} {I L : MI} {Z : Zt} {a0 : Nat} {a1 : Int}  (k : Ev E d M_X11_tongue 43 [vr a0, vi (a1 + 1)] [] κ I L Z) : Ev E d M_X11_tongue 40 [vr a0, vi a1] [] κ I L Z := E_iinc dX11_tongue_40 rfl rfl (Nat.le_of_ble_eq_true rfl) k
theorem t79_X11_tongue_43 {E : En} {d : Nat} {κ : Kp} {I L : MI} {Z : Zt} {a0 : Nat} {a1 : Int}  (k : Ev E d M_X11_tongue 11 [vr a0, vi a1] [] κ I L Z) : Ev E d M_X11_tongue 43 [vr a0, vi a1] [] κ I L Z := E_goto dX11_tongue_43 (by decide) k
theorem t79_X11_tongue_28 {E : En} {d : Nat} {κ : Kp} {I L : MI} {Z : Zt} {a0 b1 : Nat} {a1 b0 : Int}  (k : Ev E d M_X11_tongue 29 [vr a0, vi a1] [vi a1, vi b0, vr b1] κ I L Z) : Ev E d M_X11_tongue 28 [vr a0, vi a1] [vi b0, vr b1] κ I L Z := E_iload_n dX11_tongue_28 rfl k
theorem t79_X11_tongue_29 {E : En} {d : Nat} {κ : Kp} {I L : MI} {Z : Zt} {a0 b2 : Nat} {a1 b0 b1 : Int}  (k : Ev E d M_X11_tongue 31 [vr a0, vi a1] [vi 49, vi b0, vi b1, vr b2] κ I L Z) : Ev E d M_X11_tongue 29 [vr a0, vi a1] [vi b0, vi b1, vr b2] κ I L Z := E_bipush (v := 49) dX11_tongue_29 rfl k
theorem t79_X11_tongue_31 {E : En} {d : Nat} {κ : Kp} {I L : MI} {Z : Zt} {a0 b3 : Nat} {a1 b0 b1 b2 : Int} (hx : Ir b1) (hy : Ir b0) (kt : b0 ≤ b1 → Ev E d M_X11_tongue 38 [vr a0, vi a1] [vi b2, vr b3] κ I L Z) (kf : b1 < b0 → Ev E d M_X11_tongue 34 [vr a0, vi a1] [vi b2, vr b3] κ I L Z) : Ev E d M_X11_tongue 31 [vr a0, vi a1] [vi b0, vi b1, vi b2, vr b3] κ I L Z := E_icmp_ge dX11_tongue_31 hx hy kt kf (by decide)
theorem t79_X11_tongue_34 {E : En} {d : Nat} {κ : Kp} {I L : MI} {Z : Zt} {a0 b1 : Nat} {a1 b0 : Int}  (k : Ev E d M_X11_tongue 35 [vr a0, vi a1] [vi (-1), vi b0, vr b1] κ I L Z) : Ev E d M_X11_tongue 34 [vr a0, vi a1] [vi b0, vr b1] κ I L Z := E_iconst (v := (-1)) dX11_tongue_34 rfl k
theorem t79_X11_tongue_35 {E : En} {d : Nat} {κ : Kp} {I L : MI} {Z : Zt} {a0 b2 : Nat} {a1 b0 b1 : Int}  (k : Ev E d M_X11_tongue 39 [vr a0, vi a1] [vi b0, vi b1, vr b2] κ I L Z) : Ev E d M_X11_tongue 35 [vr a0, vi a1] [vi b0, vi b1, vr b2] κ I L Z := E_goto dX11_tongue_35 (by decide) k
theorem t79_X11_tongue_9 {E : En} {d : Nat} {κ : Kp} {I L : MI} {Z : Zt} {a0 : Nat}  (k : Ev E d M_X11_tongue 10 [vr a0, vu] [vi 0] κ I L Z) : Ev E d M_X11_tongue 9 [vr a0, vu] [] κ I L Z := E_iconst (v := 0) dX11_tongue_9 rfl k
theorem t79_X11_tongue_10 {E : En} {d : Nat} {κ : Kp} {I L : MI} {Z : Zt} {a0 : Nat} {b0 : Int}  (k : Ev E d M_X11_tongue 11 [vr a0, vi b0] [] κ I L Z) : Ev E d M_X11_tongue 10 [vr a0, vu] [vi b0] κ I L Z := E_istore_n dX11_tongue_10 rfl (Nat.le_of_ble_eq_true rfl) k
/-! THE REFERENCE READS: a tongue -/
theorem thgR_s {B : Int → Int} {s : PR} {D : MI} (h : pf (thgR B s D).1 = 0) : (thgR B s D).2 4 0 = D 4 0 + 1 := by
  have k3 : ∀ (a o : Int) (x : PR), pf (thg3 B D a o x).1 = 0 → (thg3 B D a o x).2 4 0 = D 4 0 + 1 := fun a o x hx => by
    unfold thg3 at *
    split at hx
    next q => rw [if_pos q]; simp [addT, up2_at]
    next q => exact absurd hx q
  unfold thgR at *
  split at h
  next q =>
    rw [if_pos q]
    unfold thg1 thg2 at *
    split at h
    next q2 => rw [if_pos q2]; exact k3 _ _ _ h
    next q2 => rw [if_neg q2]; exact k3 _ _ _ h
  next q => exact absurd h (by show (3 : Int) ≠ 0; decide)
theorem rulR_s {B : Int → Int} {s : PR} {D : MI} (h : pf (rulR B s D).1 = 0) : (rulR B s D).2 4 1 = D 4 1 + 1 := by
  unfold rulR rul1 rul2 rul3 at *
  split at h
  next q => rw [if_pos q]; simp [addR, up2_at]
  next q => exact absurd h q
theorem parR_s {B : Int → Int} {s : PR} {D : MI} (h : pf (parR B s D).1 = 0) : (parR B s D).2 4 2 = D 4 2 + 1 := by
  have k3 : ∀ (a o : Int) (x : PR), pf (par3 B D a o x).1 = 0 → (par3 B D a o x).2 4 2 = D 4 2 + 1 := fun a o x hx => by
    unfold par3 at *
    split at hx
    next q => rw [if_pos q]; simp [addP, up2_at]
    next q => exact absurd hx q
  unfold parR at *
  split at h
  next q => rw [if_pos q]; exact k3 _ _ _ h
  next q => exact absurd h (by show (3 : Int) ≠ 0; decide)
theorem rulR_0 {B : Int → Int} {s : PR} {D : MI} : (rulR B s D).2 4 0 = D 4 0 := by
  unfold rulR rul1 rul2 rul3
  split
  · simp [addR, up2_at]
  · rfl
theorem parR_0 {B : Int → Int} {s : PR} {D : MI} : (parR B s D).2 4 0 = D 4 0 := by
  unfold parR par1 par2 par3
  split
  · split
    · simp [addP, up2_at]
    · rfl
  · rfl
theorem TR2_cp {I J D : MI} {t a a' : Nat} {b b' : Int} (hw : WfT D t) (h : TR2 I D t a b) (f : ∀ x, 0 ≤ x → x < 65 → J a' (b' + x) = I a (b + x)) : TR2 J D t a' b' := by
  obtain ⟨⟨n0, n1, n2⟩, -⟩ := hw
  obtain ⟨h0, h1, h2, h3, h4, h5⟩ := h
  refine ⟨by rw [f 0 (by omega) (by omega)]; exact h0, by rw [f 1 (by omega) (by omega)]; exact h1, by rw [f 2 (by omega) (by omega)]; exact h2, fun k k0 k1 => ?_, fun s s0 s1 => ?_, fun k k0 k1 => ?_⟩
  · rw [f _ (by omega) (by omega), f _ (by omega) (by omega), f _ (by omega) (by omega)]; exact h3 k k0 k1
  · rw [f _ (by omega) (by omega), f _ (by omega) (by omega)]; exact h4 s s0 s1
  · rw [f _ (by omega) (by omega), f _ (by omega) (by omega)]; exact h5 k k0 k1
/-- where nothing but the end and the fault of before matter -/
theorem al0_e {B : Int → Int} {s : PR} {D : MI} : ∃ p, al0 B s D = (if bP (isWP B (nextR B (0, 0, 0, 0, 0, p)) 1005) = true then nextR B (0, 0, 0, 0, 0, p) else failR (nextR B (0, 0, 0, 0, 0, p)) 1, clrT D 4) := ⟨pp s, rfl⟩
def rTonQ (I L : MI) (R : PR × MI) : Int → MI → MI → Prop := fun z I' L' => I' 78 10 = 0 ∧
  ((pf (finR R.1) ≠ 0 ∧ z = -9000000000000000100 - pp (finR R.1) ∧ I' 78 11 = pf (finR R.1) ∧ L' = L ∧ (∀ o, o ≠ 78 → o ≠ 83 → ∀ k, I' o k = I o k) ∧ ∀ k, k = 1 ∨ k = 7 ∨ k = 29 → I' 78 k = I 78 k) ∨
   (pf (finR R.1) = 0 ∧ z = R.2 4 0 ∧ 1 ≤ R.2 4 0 ∧ I' 78 7 = 1 ∧ (∀ o, o ≠ 78 → o ≠ 82 → o ≠ 83 → ∀ k, I' o k = I o k) ∧ (∀ k, k = 1 ∨ k = 11 ∨ k = 29 → I' 78 k = I 78 k) ∧ WfT R.2 4 ∧ TR2 I' R.2 4 82 0 ∧ (∀ o, o ≠ 84 → ∀ k, L' o k = L o k) ∧ ∀ k : Int, 0 ≤ k → k < 8 → L' 84 k = 0))
theorem c_X11_begin {E : En} {I L : MI} {B : Int → Int} {n p : Int} (hn : I 78 10 = n) (hB : BOK B) (h : TpR I B n) : CQv E 4 M_X11_begin [vr 78] I L (fun I' L' => L' = L ∧ (∀ o, o ≠ 78 → ∀ k, I' o k = I o k) ∧ (∀ k, (k < 10 ∨ k = 11 ∨ 18 < k) → I' 78 k = I 78 k) ∧ I' 78 10 = 0 ∧ RR I' B n (nextR B (0, 0, 0, 0, 0, p))) := by
  refine CM_of' (al := [vr _]) rfl (Nat.le_of_ble_eq_true rfl) rfl (fun hM => ?_)
  refine (t79_X11_begin_0 (t79_X11_begin_1 (t79_X11_begin_2 (by first | assumption | rfl) (fun r2 => (t79_X11_begin_5 (by first | assumption | rfl) (by omega) (t79_X11_begin_8 (t79_X11_begin_9 (t79_X11_begin_10 (by first | assumption | rfl) (by omega) (t79_X11_begin_13 (t79_X11_begin_14 (t79_X11_begin_15 (by first | assumption | rfl) (by omega) (t79_X11_begin_18 (t79_X11_begin_19 (t79_X11_begin_20 (by first | assumption | rfl) (by omega) ?_))))))))))))))
  -- 1 leaves: :->23
  generalize hI1 : up2 (up2 (up2 (up2 I 78 12 (I 78 10)) 78 10 0) 78 13 0) 78 17 0 = I1
  have f1 : ∀ o, o ≠ 78 → ∀ k, I1 o k = I o k := fun o o1 k => by rw [← hI1, up2_ne (.inl o1), up2_ne (.inl o1), up2_ne (.inl o1), up2_ne (.inl o1)]
  have f2 : ∀ k, k ≠ 10 → k ≠ 12 → k ≠ 13 → k ≠ 17 → I1 78 k = I 78 k := fun k k1 k2 k3 k4 => by rw [← hI1, up2_ne (.inr k4), up2_ne (.inr k3), up2_ne (.inr k1), up2_ne (.inr k2)]
  have v12 : I1 78 12 = n := by rw [← hI1, up2_ne (.inr (by decide)), up2_ne (.inr (by decide)), up2_ne (.inr (by decide)), up2_eq]; exact hn
  have v10 : I1 78 10 = 0 := by rw [← hI1, up2_ne (.inr (by decide)), up2_ne (.inr (by decide)), up2_eq]
  have v13 : I1 78 13 = 0 := by rw [← hI1, up2_ne (.inr (by decide)), up2_eq]
  have v17 : I1 78 17 = 0 := by rw [← hI1, up2_eq]
  have hT : TpR I1 B n := ⟨h.1, fun k k0 k1 => by rw [f1 85 (by decide)]; exact h.2.1 k k0 k1, h.2.2⟩
  refine (t79_X11_begin_23 (t79_X11_begin_24 (by first | assumption | rfl) ((c_X11_next (B := B) (n := n) (e := 0) v12 hT v13 (by decide))) (by first | decide | omega) (fun I24 L24 q24 => ?_)))
  -- 1 leaves: :call24
  obtain ⟨rfl, g1, t1⟩ := q24
  refine (t79_X11_begin_27 ?_)
  -- 1 leaves: :ret27
  refine qqv ⟨rfl, fun o o1 k => (g1.1 o o1 k).trans (f1 o o1 k), fun k hk => ?_, ?_, ?_⟩
  · rw [g1.2 k (by omega)]; exact f2 k (by omega) (by omega) (by omega) (by omega)
  · rw [g1.2 10 (by omega)]; exact v10
  · exact ⟨by rw [g1.2 12 (by omega)]; exact v12, TpR_f hT g1, by rw [g1.2 17 (by omega)]; exact v17, fun q => absurd rfl q, ⟨by show (0 : Int) ≤ 0; decide, by show (0 : Int) ≤ 3; decide⟩, 0, ⟨by decide, by decide⟩, rfl, rfl, rfl, rfl, t1⟩
theorem c_X11_tongue {E : En} {I L : MI} {B : Int → Int} {n : Int} {s0 : PR} {D0 : MI} (hn : I 78 10 = n) (hB : BOK B) (h : TpR I B n) : CQl E 10 M_X11_tongue [vr 78] I L (rTonQ I L (al3 B s0 D0)) := by
  have g82 : G0.1[82]? = some (.inr (0, 65)) := rfl
  have g83 : G0.1[83]? = some (.inr (0, 65)) := rfl
  have g84 : G0.1[84]? = some (.inr (3, 8)) := rfl
  obtain ⟨p, ha0⟩ := al0_e (B := B) (s := s0) (D := D0)
  have e10 : up2 I 78 0 0 78 10 = n := by rw [up2_ne (.inr (by decide))]; exact hn
  have hT : TpR (up2 I 78 0 0) B n := ⟨h.1, fun k k0 k1 => by rw [up2_ne (.inl (by decide))]; exact h.2.1 k k0 k1, h.2.2⟩
  have ok := al3_ok hB s0 D0
  refine CM_of' (al := [vr _, vu]) rfl (Nat.le_of_ble_eq_true rfl) rfl (fun hM => ?_)
  refine (t79_X11_tongue_0 (t79_X11_tongue_1 (t79_X11_tongue_2 (by first | assumption | rfl) (by omega) (t79_X11_tongue_5 (t79_X11_tongue_6 (by first | assumption | rfl) ((c_X11_begin (p := p) e10 hB hT)) (by first | decide | omega) (fun I6 L6 q6 => ?_))))))
  -- 1 leaves: :call6
  obtain ⟨rfl, g1, g2, g3, r0⟩ := q6
  -- the end: the slots are emptied
  have slots : ∀ (f : Nat) (k : Int) (I1 L1 : MI), k + f = 8 → 0 ≤ k → I1 78 10 = 0 → pf (finR (al3 B s0 D0).1) = 0 → 1 ≤ (al3 B s0 D0).2 4 0 → I1 78 7 = 1 → (∀ o, o ≠ 78 → o ≠ 82 → o ≠ 83 → ∀ j, I1 o j = I o j) → (∀ j, j = 1 ∨ j = 11 ∨ j = 29 → I1 78 j = I 78 j) → I1 82 0 = (al3 B s0 D0).2 4 0 → TR2 I1 (al3 B s0 D0).2 4 82 0 → (∀ o, o ≠ 84 → ∀ j, L1 o j = L6 o j) → (∀ j : Int, 0 ≤ j → j < k → L1 84 j = 0) → Ev E 10 M_X11_tongue 194 [vr 78, vi k] [] (G0, 0, 0) I1 L1 (ZQ E M_X11_tongue (QQl (rTonQ I L6 (al3 B s0 D0)))) := by
    intro f
    induction f with
    | zero =>
      intro k I1 L1 h1 h2 v10 pz t1 v7 f1 f2 e82 tr l1 l2
      have : k = 8 := by omega
      subst this
      refine (t79_X11_tongue_194 (t79_X11_tongue_195 (t79_X11_tongue_197 (by omega) (by omega) (fun c197 => (t79_X11_tongue_213 (t79_X11_tongue_214 (by first | assumption | rfl) (by first | assumption | rfl) (t79_X11_tongue_217 (t79_X11_tongue_218 (by first | assumption | rfl) (by omega) (by omega) (by omega) (fun r218 => (t79_X11_tongue_219 (by omega) (t79_X11_tongue_220 ?_)))))))) (fun c197 => ?_))))
      -- 2 leaves: 197t :ret220 | 197f :->200
      · exact qql ⟨v10, .inr ⟨pz, by rw [e82], t1, v7, f1, f2, ok.2, tr, l1, l2⟩⟩
      · omega
    | succ f ih =>
      intro k I1 L1 h1 h2 v10 pz t1 v7 f1 f2 e82 tr l1 l2
      refine (t79_X11_tongue_194 (t79_X11_tongue_195 (t79_X11_tongue_197 (by omega) (by omega) (fun c197 => ?_) (fun c197 => (t79_X11_tongue_200 (t79_X11_tongue_201 (by first | assumption | rfl) (by first | assumption | rfl) (t79_X11_tongue_204 (t79_X11_tongue_205 (t79_X11_tongue_206 (by first | assumption | rfl) (by omega) (by omega) (by omega) (by omega) (t79_X11_tongue_207 (t79_X11_tongue_210 ?_)))))))))))
      -- 2 leaves: 197t :->213 | 197f :->194
      · omega
      · refine ih (k + 1) _ _ (by omega) (by omega) v10 pz t1 v7 f1 f2 e82 tr (fun o o1 j => by rw [up2_ne (.inl o1)]; exact l1 o o1 j) (fun j j0 j1 => ?_)
        by_cases e : j = k
        · subst e; rw [up2_eq]
        · rw [up2_ne (.inr e)]; exact l2 j j0 (by omega)
  have cpy : ∀ (f : Nat) (k : Int) (I1 : MI), k + f = 65 → 0 ≤ k → I1 78 10 = 0 → pf (finR (al3 B s0 D0).1) = 0 → 1 ≤ (al3 B s0 D0).2 4 0 → I1 78 7 = 1 → (∀ o, o ≠ 78 → o ≠ 82 → o ≠ 83 → ∀ j, I1 o j = I o j) → (∀ j, j = 1 ∨ j = 11 ∨ j = 29 → I1 78 j = I 78 j) → TR2 I1 (al3 B s0 D0).2 4 83 0 → (∀ j, 0 ≤ j → j < k → I1 82 j = I1 83 j) → Ev E 10 M_X11_tongue 168 [vr 78, vi k] [] (G0, 0, 0) I1 L6 (ZQ E M_X11_tongue (QQl (rTonQ I L6 (al3 B s0 D0)))) := by
    intro f
    induction f with
    | zero =>
      intro k I1 h1 h2 v10 pz t1 v7 f1 f2 tr cp
      have : k = 65 := by omega
      subst this
      have tr2 : TR2 I1 (al3 B s0 D0).2 4 82 0 := TR2_cp ok.2 tr (fun x x0 x1 => by rw [Int.zero_add]; exact cp x x0 x1)
      have e82 := tr2.1
      rw [Int.zero_add] at e82
      refine (t79_X11_tongue_168 (t79_X11_tongue_169 (t79_X11_tongue_171 (by omega) (by omega) (fun c171 => (t79_X11_tongue_192 (t79_X11_tongue_193 ?_))) (fun c171 => ?_))))
      -- 2 leaves: 171t :->194 | 171f :->174
      · exact slots 8 0 I1 L6 (by omega) (by omega) v10 pz t1 v7 f1 f2 e82 tr2 (fun o _ j => rfl) (fun j j0 j1 => by omega)
      · omega
    | succ f ih =>
      intro k I1 h1 h2 v10 pz t1 v7 f1 f2 tr cp
      refine (t79_X11_tongue_168 (t79_X11_tongue_169 (t79_X11_tongue_171 (by omega) (by omega) (fun c171 => ?_) (fun c171 => (t79_X11_tongue_174 (t79_X11_tongue_175 (by first | assumption | rfl) (by first | assumption | rfl) (t79_X11_tongue_178 (t79_X11_tongue_179 (t79_X11_tongue_180 (by first | assumption | rfl) (by first | assumption | rfl) (t79_X11_tongue_183 (t79_X11_tongue_184 (by first | assumption | rfl) (by omega) (by omega) (by omega) (fun r184 => (t79_X11_tongue_185 (by first | assumption | rfl) (by omega) (by omega) (by omega) (by omega) (t79_X11_tongue_186 (t79_X11_tongue_189 ?_)))))))))))))))
      -- 2 leaves: 171t :->192 | 171f :->168
      · omega
      · have u : ∀ {o : Nat} {j : Int}, o ≠ 82 → up2 I1 82 k (I1 83 k) o j = I1 o j := fun h => up2_ne (.inl h)
        refine ih (k + 1) _ (by omega) (by omega) (by rw [u (by decide)]; exact v10) pz t1 (by rw [u (by decide)]; exact v7) (fun o o1 o2 o3 j => by rw [u o2]; exact f1 o o1 o2 o3 j) (fun j hj => by rw [u (by decide)]; exact f2 j hj) ?_ (fun j j0 j1 => ?_)
        · unfold TR2 at *
          simpa only [u (show (83 : Nat) ≠ 82 by decide)] using tr
        · rw [u (show (83 : Nat) ≠ 82 by decide)]
          by_cases e : j = k
          · subst e; rw [up2_eq]
          · rw [up2_ne (.inr e)]; exact cp j j0 (by omega)
  -- what stays while it is read
  have keep : ∀ {I1 : MI}, RFt I6 I1 → (∀ o, o ≠ 78 → o ≠ 83 → ∀ j, I1 o j = I o j) ∧ I1 78 10 = 0 ∧ ∀ j, j = 1 ∨ j = 7 ∨ j = 11 ∨ j = 29 → I1 78 j = I 78 j := fun f => ⟨fun o o1 o2 j => by rw [f.1 o o1 o2, g1 o o1, up2_ne (.inl o1)], by rw [f.2 10 (by omega)]; exact g3, fun j hj => by rw [f.2 j (by omega), g2 j (by omega), up2_ne (.inr (by omega))]⟩
  have fin : ∀ (I1 : MI), RFt I6 I1 → RR I1 B n (al3 B s0 D0).1 → DR I1 (al3 B s0 D0).2 → (pf (al3 B s0 D0).1 = 0 → 1 ≤ (al3 B s0 D0).2 4 0) → Ev E 10 M_X11_tongue 116 [vr 78, vi 65] [] (G0, 0, 0) I1 L6 (ZQ E M_X11_tongue (QQl (rTonQ I L6 (al3 B s0 D0)))) := by
    intro I1 f1 r1 d1 t1
    have last : ∀ (I2 : MI), RFt I6 I2 → RR I2 B n (finR (al3 B s0 D0).1) → DR I2 (al3 B s0 D0).2 → Ev E 10 M_X11_tongue 136 [vr 78, vi 65] [] (G0, 0, 0) I2 L6 (ZQ E M_X11_tongue (QQl (rTonQ I L6 (al3 B s0 D0)))) := by
      intro I2 f2 r2 d2
      have kp := keep f2
      have h17 := r2.2.2.1
      have h5 := r2.2.2.2.2.1
      refine (t79_X11_tongue_136 (t79_X11_tongue_137 (by first | assumption | rfl) (fun r137 => (t79_X11_tongue_140 (by omega) (fun c140 => (t79_X11_tongue_161 (t79_X11_tongue_162 (t79_X11_tongue_163 (by first | assumption | rfl) (by first | exact Or.inl rfl | exact Or.inr rfl | assumption) (t79_X11_tongue_166 (t79_X11_tongue_167 ?_)))))) (fun c140 => (t79_X11_tongue_143 (t79_X11_tongue_144 (t79_X11_tongue_145 (by first | assumption | rfl) (fun r145 => (t79_X11_tongue_148 (by first | assumption | rfl) (by omega) (t79_X11_tongue_151 (t79_X11_tongue_154 (t79_X11_tongue_155 (by first | assumption | rfl) (fun r155 => (t79_X11_tongue_158 (by omega) (t79_X11_tongue_159 (t79_X11_tongue_160 ?_)))))))))))))))))
      -- 2 leaves: 140t :->168 | 140f :ret160
      · have pz : pf (finR (al3 B s0 D0).1) = 0 := by omega
        have pz0 : pf (al3 B s0 D0).1 = 0 := by
          unfold finR at pz
          split at pz
          · exact absurd pz (by show (1 : Int) ≠ 0; decide)
          · exact pz
        refine cpy 65 0 _ (by omega) (by omega) (by rw [up2_ne (.inr (by decide))]; exact kp.2.1) pz (t1 pz0) (up2_eq _ _ _ _) (fun o o1 o2 o3 j => by rw [up2_ne (.inl o1)]; exact kp.1 o o1 o3 j) (fun j hj => by rw [up2_ne (.inr (by omega))]; exact kp.2.2 j (by omega)) ?_ (fun j j0 j1 => by omega)
        have tr := d2.2
        unfold TR2 at *
        have u : ∀ j, up2 I2 78 7 1 83 j = I2 83 j := fun j => up2_ne (.inl (by decide))
        simpa only [u] using tr
      · have pn : pf (finR (al3 B s0 D0).1) ≠ 0 := by omega
        have e18 := r2.2.2.2.1 pn
        have e18b : up2 I2 78 11 (I2 78 17) 78 18 = pp (finR (al3 B s0 D0).1) := by rw [up2_ne (.inr (by decide))]; exact e18
        refine qql ⟨by rw [up2_ne (.inr (by decide))]; exact kp.2.1, .inl ⟨pn, by rw [e18b], by rw [up2_eq]; exact h17, rfl, fun o o1 o2 j => by rw [up2_ne (.inl o1)]; exact kp.1 o o1 o2 j, fun j hj => by rw [up2_ne (.inr (by omega))]; exact kp.2.2 j (by omega)⟩⟩
    have tk := RR_tk hB r1
    have h17 := r1.2.2.1
    have ri1 := RR_RI hB r1
    refine (t79_X11_tongue_116 (t79_X11_tongue_117 (by first | assumption | rfl) (fun r117 => (t79_X11_tongue_120 (by omega) (fun c120 => ?_) (fun c120 => (t79_X11_tongue_123 (t79_X11_tongue_124 (by first | assumption | rfl) (fun r124 => (t79_X11_tongue_127 (t79_X11_tongue_128 (by omega) (by omega) (fun c128 => ?_) (fun c128 => (t79_X11_tongue_131 (t79_X11_tongue_132 (t79_X11_tongue_133 (by first | assumption | rfl) c_X11_bad (by first | decide | omega) ?_))))))))))))))
    -- 3 leaves: 120t :->136 | 120f 128t :->136 | 120f 128f :->136
    · refine last I1 f1 ?_ d1
      unfold finR
      rw [if_neg (fun q => by omega)]
      exact r1
    · refine last I1 f1 ?_ d1
      unfold finR
      rw [if_neg (fun q => q.2 (tk.1.mp c128))]
      exact r1
    · have pz : pf (al3 B s0 D0).1 = 0 := by omega
      have hb := RR_bad r1 (c := 1) (by decide)
      have eb : badR (al3 B s0 D0).1 1 = finR (al3 B s0 D0).1 := by
        unfold badR finR
        rw [if_pos pz, if_pos ⟨pz, fun q => c128 (tk.1.mpr q)⟩]
      rw [eb] at hb
      exact last _ (RFt_t f1 (RFs_T rbd_f)) hb (DR_f d1 (rbd_f.1 83 (by decide)))
  have pairs : ∀ (f : Nat) (x : PR × MI) (I1 : MI), RFt I6 I1 → RR I1 B n x.1 → DR I1 x.2 → (pf x.1 = 0 → 9 - x.2 4 2 ≤ f) → (pf x.1 = 0 → 1 ≤ x.2 4 0) → lpR B parR 1007 f x = al3 B s0 D0 → Ev E 10 M_X11_tongue 98 [vr 78, vi 65] [] (G0, 0, 0) I1 L6 (ZQ E M_X11_tongue (QQl (rTonQ I L6 (al3 B s0 D0)))) := by
    intro f
    induction f with
    | zero =>
      intro x I1 f1 r1 d1 hf t1 hx
      have nb := d1.1.1.2.2
      have pn : pf x.1 ≠ 0 := fun q => by have := hf q; omega
      have nm := (nm_is hB r1).2.2.1
      have hx2 : x = al3 B s0 D0 := hx
      subst hx2
      refine (t79_X11_tongue_98 (t79_X11_tongue_99 (by first | assumption | rfl) ((c_X11_name hB r1)) (by first | decide | omega) (fun r99 => (t79_X11_tongue_102 (t79_X11_tongue_105 (by omega) (by omega) (fun c105 => ?_) (fun c105 => ?_))))))
      -- 2 leaves: 105t :->116 | 105f :->109
      · exact fin I1 f1 r1 d1 t1
      · exact absurd (nm.mp c105).1 pn
    | succ f ih =>
      intro x I1 f1 r1 d1 hf t1 hx
      have nm := (nm_is hB r1).2.2.1
      refine (t79_X11_tongue_98 (t79_X11_tongue_99 (by first | assumption | rfl) ((c_X11_name hB r1)) (by first | decide | omega) (fun r99 => (t79_X11_tongue_102 (t79_X11_tongue_105 (by omega) (by omega) (fun c105 => ?_) (fun c105 => ?_))))))
      -- 2 leaves: 105t :->116 | 105f :->109
      · rw [lpR_x (fun q => c105 (nm.mpr q))] at hx
        subst hx
        exact fin I1 f1 r1 d1 t1
      · have yes := nm.mp c105
        refine (t79_X11_tongue_109 (t79_X11_tongue_110 (by first | assumption | rfl) ((c_X11_readPair hB r1 d1 yes.1 yes.2.1)) (by first | decide | omega) (fun I110 L110 q110 => ?_)))
        -- 1 leaves: :call110
        obtain ⟨rfl, f2, r2, d2⟩ := q110
        rw [lpR_s yes] at hx
        refine (t79_X11_tongue_113 ?_)
        -- 1 leaves: :->98
        refine ih _ _ (RFt_t f1 f2) r2 d2 (fun q => ?_) (fun q => ?_) hx
        · have := parR_s q; have := hf yes.1; omega
        · rw [parR_0]; exact t1 yes.1
  have rules : ∀ (f : Nat) (x : PR × MI) (I1 : MI), RFt I6 I1 → RR I1 B n x.1 → DR I1 x.2 → (pf x.1 = 0 → 6 - x.2 4 1 ≤ f) → (pf x.1 = 0 → 1 ≤ x.2 4 0) → lpR B rulR 1006 f x = al2 B s0 D0 → Ev E 10 M_X11_tongue 80 [vr 78, vi 65] [] (G0, 0, 0) I1 L6 (ZQ E M_X11_tongue (QQl (rTonQ I L6 (al3 B s0 D0)))) := by
    intro f
    have on : ∀ (x : PR × MI) (I1 : MI), RFt I6 I1 → RR I1 B n x.1 → DR I1 x.2 → (pf x.1 = 0 → 1 ≤ x.2 4 0) → x = al2 B s0 D0 → Ev E 10 M_X11_tongue 98 [vr 78, vi 65] [] (G0, 0, 0) I1 L6 (ZQ E M_X11_tongue (QQl (rTonQ I L6 (al3 B s0 D0)))) := fun x I1 f1 r1 d1 t1 hx => by
      subst hx
      have nb := d1.1.1.2.2
      exact pairs 9 _ I1 f1 r1 d1 (fun _ => by omega) t1 rfl
    induction f with
    | zero =>
      intro x I1 f1 r1 d1 hf t1 hx
      have nb := d1.1.1.2.1
      have pn : pf x.1 ≠ 0 := fun q => by have := hf q; omega
      have nm := (nm_is hB r1).2.1
      refine (t79_X11_tongue_80 (t79_X11_tongue_81 (by first | assumption | rfl) ((c_X11_name hB r1)) (by first | decide | omega) (fun r81 => (t79_X11_tongue_84 (t79_X11_tongue_87 (by omega) (by omega) (fun c87 => ?_) (fun c87 => ?_))))))
      -- 2 leaves: 87t :->98 | 87f :->91
      · exact on x I1 f1 r1 d1 t1 hx
      · exact absurd (nm.mp c87).1 pn
    | succ f ih =>
      intro x I1 f1 r1 d1 hf t1 hx
      have nm := (nm_is hB r1).2.1
      refine (t79_X11_tongue_80 (t79_X11_tongue_81 (by first | assumption | rfl) ((c_X11_name hB r1)) (by first | decide | omega) (fun r81 => (t79_X11_tongue_84 (t79_X11_tongue_87 (by omega) (by omega) (fun c87 => ?_) (fun c87 => ?_))))))
      -- 2 leaves: 87t :->98 | 87f :->91
      · rw [lpR_x (fun q => c87 (nm.mpr q))] at hx
        exact on x I1 f1 r1 d1 t1 hx
      · have yes := nm.mp c87
        refine (t79_X11_tongue_91 (t79_X11_tongue_92 (by first | assumption | rfl) ((c_X11_readRule hB r1 d1 yes.1 yes.2.1)) (by first | decide | omega) (fun I92 L92 q92 => ?_)))
        -- 1 leaves: :call92
        obtain ⟨rfl, f2, r2, d2⟩ := q92
        rw [lpR_s yes] at hx
        refine (t79_X11_tongue_95 ?_)
        -- 1 leaves: :->80
        refine ih _ _ (RFt_t f1 f2) r2 d2 (fun q => ?_) (fun q => ?_) hx
        · have := rulR_s q; have := hf yes.1; omega
        · rw [rulR_0]; exact t1 yes.1
  have things : ∀ (f : Nat) (x : PR × MI) (I1 : MI), RFt I6 I1 → RR I1 B n x.1 → DR I1 x.2 → (pf x.1 = 0 → 13 - x.2 4 0 ≤ f) → (pf x.1 = 0 → isWP B x.1 1005 ∨ 1 ≤ x.2 4 0) → lpR B thgR 1005 f x = al1 B s0 D0 → Ev E 10 M_X11_tongue 62 [vr 78, vi 65] [] (G0, 0, 0) I1 L6 (ZQ E M_X11_tongue (QQl (rTonQ I L6 (al3 B s0 D0)))) := by
    intro f
    have on : ∀ (x : PR × MI) (I1 : MI), RFt I6 I1 → RR I1 B n x.1 → DR I1 x.2 → (pf x.1 = 0 → 1 ≤ x.2 4 0) → x = al1 B s0 D0 → Ev E 10 M_X11_tongue 80 [vr 78, vi 65] [] (G0, 0, 0) I1 L6 (ZQ E M_X11_tongue (QQl (rTonQ I L6 (al3 B s0 D0)))) := fun x I1 f1 r1 d1 t1 hx => by
      subst hx
      have nb := d1.1.1.2.1
      exact rules 6 _ I1 f1 r1 d1 (fun _ => by omega) t1 rfl
    induction f with
    | zero =>
      intro x I1 f1 r1 d1 hf t1 hx
      have nb := d1.1.1.1
      have pn : pf x.1 ≠ 0 := fun q => by have := hf q; omega
      have nm := (nm_is hB r1).1
      refine (t79_X11_tongue_62 (t79_X11_tongue_63 (by first | assumption | rfl) ((c_X11_name hB r1)) (by first | decide | omega) (fun r63 => (t79_X11_tongue_66 (t79_X11_tongue_69 (by omega) (by omega) (fun c69 => ?_) (fun c69 => ?_))))))
      -- 2 leaves: 69t :->80 | 69f :->73
      · exact on x I1 f1 r1 d1 (fun q => absurd q pn) hx
      · exact absurd (nm.mp c69).1 pn
    | succ f ih =>
      intro x I1 f1 r1 d1 hf t1 hx
      have nm := (nm_is hB r1).1
      have nb := d1.1.1.1
      refine (t79_X11_tongue_62 (t79_X11_tongue_63 (by first | assumption | rfl) ((c_X11_name hB r1)) (by first | decide | omega) (fun r63 => (t79_X11_tongue_66 (t79_X11_tongue_69 (by omega) (by omega) (fun c69 => ?_) (fun c69 => ?_))))))
      -- 2 leaves: 69t :->80 | 69f :->73
      · rw [lpR_x (fun q => c69 (nm.mpr q))] at hx
        refine on x I1 f1 r1 d1 (fun q => ?_) hx
        rcases t1 q with z | z
        · exact absurd (nm.mpr ⟨q, z⟩) c69
        · exact z
      · have yes := nm.mp c69
        refine (t79_X11_tongue_73 (t79_X11_tongue_74 (by first | assumption | rfl) ((c_X11_readThing hB r1 d1 yes.1 yes.2.1)) (by first | decide | omega) (fun I74 L74 q74 => ?_)))
        -- 1 leaves: :call74
        obtain ⟨rfl, f2, r2, d2⟩ := q74
        rw [lpR_s yes] at hx
        refine (t79_X11_tongue_77 ?_)
        -- 1 leaves: :->62
        refine ih _ _ (RFt_t f1 f2) r2 d2 (fun q => ?_) (fun q => .inr ?_) hx
        · have := thgR_s q; have := hf yes.1; omega
        · have := thgR_s q; omega
  have clear : ∀ (f : Nat) (k : Int) (I1 : MI), k + f = 65 → 0 ≤ k → RFt I6 I1 → RR I1 B n (nextR B (0, 0, 0, 0, 0, p)) → (∀ j, 0 ≤ j → j < k → I1 83 j = if 39 ≤ j ∧ j < 49 then -1 else 0) → Ev E 10 M_X11_tongue 11 [vr 78, vi k] [] (G0, 0, 0) I1 L6 (ZQ E M_X11_tongue (QQl (rTonQ I L6 (al3 B s0 D0)))) := by
    intro f
    induction f with
    | zero =>
      intro k I1 h1 h2 f1 r1 hz
      have : k = 65 := by omega
      subst this
      have c0 : clrT D0 4 4 0 = 0 := by simp [clrT, up2_at]
      have c1 : clrT D0 4 4 1 = 0 := by simp [clrT, up2_at]
      have c2 : clrT D0 4 4 2 = 0 := by simp [clrT, up2_at]
      have d1 : DR I1 (clrT D0 4) := DR_mk (Wf_clr D0 4) ⟨by rw [c0, hz 0 (by omega) (by omega), if_neg (by omega)], by rw [c1, hz 1 (by omega) (by omega), if_neg (by omega)], by rw [c2, hz 2 (by omega) (by omega), if_neg (by omega)]⟩ (fun k k0 k1 => by rw [c0] at k1; omega) (fun q q0 q1 => .inl ⟨by rw [hz _ (by omega) (by omega), if_pos (by omega)]; decide, fun r r0 r1 => by rw [c1] at r1; omega⟩) (fun k k0 k1 => by rw [c2] at k1; omega)
      have nm := (nm_is hB r1).1
      have p0 : pf (nextR B (0, 0, 0, 0, 0, p)) = 0 := rfl
      refine (t79_X11_tongue_11 (t79_X11_tongue_12 (t79_X11_tongue_14 (by omega) (by omega) (fun c14 => (t79_X11_tongue_46 (t79_X11_tongue_47 (by first | assumption | rfl) ((c_X11_name hB r1)) (by first | decide | omega) (fun r47 => (t79_X11_tongue_50 (t79_X11_tongue_53 (by omega) (by omega) (fun c53 => ?_) (fun c53 => (t79_X11_tongue_57 (t79_X11_tongue_58 (t79_X11_tongue_59 (by first | assumption | rfl) c_X11_bad (by first | decide | omega) ?_)))))))))) (fun c14 => ?_))))
      -- 3 leaves: 14t 53t :->62 | 14t 53f :->62 | 14f :->17
      · have yes := nm.mp c53
        have e0 : al0 B s0 D0 = (nextR B (0, 0, 0, 0, 0, p), clrT D0 4) := by rw [ha0, if_pos (bP_t yes.2)]
        refine things 13 (nextR B (0, 0, 0, 0, 0, p), clrT D0 4) I1 f1 r1 d1 (fun _ => by show 13 - clrT D0 4 4 0 ≤ _; omega) (fun _ => .inl yes.2) ?_
        rw [← e0]
        rfl
      · have no : ¬ isWP B (nextR B (0, 0, 0, 0, 0, p)) 1005 := fun q => c53 (nm.mpr ⟨p0, q⟩)
        have e0 : al0 B s0 D0 = (failR (nextR B (0, 0, 0, 0, 0, p)) 1, clrT D0 4) := by rw [ha0, if_neg (fun q => no (bP_i.mp q))]
        have hb := RR_bad r1 (c := 1) (by decide)
        have eb : badR (nextR B (0, 0, 0, 0, 0, p)) 1 = failR (nextR B (0, 0, 0, 0, 0, p)) 1 := if_pos p0
        rw [eb] at hb
        refine things 13 (failR (nextR B (0, 0, 0, 0, 0, p)) 1, clrT D0 4) _ (RFt_t f1 (RFs_T rbd_f)) hb (DR_f d1 (rbd_f.1 83 (by decide))) (fun _ => by show 13 - clrT D0 4 4 0 ≤ _; omega) (fun q => absurd q (by show (1 : Int) ≠ 0; decide)) ?_
        rw [← e0]
        rfl
      · omega
    | succ f ih =>
      intro k I1 h1 h2 f1 r1 hz
      have go : ∀ z : Int, z = (if 39 ≤ k ∧ k < 49 then -1 else 0) → Ev E 10 M_X11_tongue 11 [vr 78, vi (k + 1)] [] (G0, 0, 0) (up2 I1 83 k z) L6 (ZQ E M_X11_tongue (QQl (rTonQ I L6 (al3 B s0 D0)))) := fun z hzz => by
        refine ih (k + 1) _ (by omega) (by omega) (RFt_83 f1) (RR_83 r1) (fun j j0 j1 => ?_)
        by_cases e : j = k
        · subst e; rw [up2_eq]; exact hzz
        · rw [up2_ne (.inr e)]; exact hz j j0 (by omega)
      refine (t79_X11_tongue_11 (t79_X11_tongue_12 (t79_X11_tongue_14 (by omega) (by omega) (fun c14 => ?_) (fun c14 => (t79_X11_tongue_17 (t79_X11_tongue_18 (by first | assumption | rfl) (by first | assumption | rfl) (t79_X11_tongue_21 (t79_X11_tongue_22 (t79_X11_tongue_23 (t79_X11_tongue_25 (by omega) (by omega) (fun c25 => (t79_X11_tongue_38 (t79_X11_tongue_39 (by first | assumption | rfl) (by omega) (by omega) (by omega) (by omega) (t79_X11_tongue_40 (t79_X11_tongue_43 ?_))))) (fun c25 => (t79_X11_tongue_28 (t79_X11_tongue_29 (t79_X11_tongue_31 (by omega) (by omega) (fun c31 => (t79_X11_tongue_38 (t79_X11_tongue_39 (by first | assumption | rfl) (by omega) (by omega) (by omega) (by omega) (t79_X11_tongue_40 (t79_X11_tongue_43 ?_))))) (fun c31 => (t79_X11_tongue_34 (t79_X11_tongue_35 (t79_X11_tongue_39 (by first | assumption | rfl) (by omega) (by omega) (by omega) (by omega) (t79_X11_tongue_40 (t79_X11_tongue_43 ?_))))))))))))))))))))
      -- 4 leaves: 14t :->46 | 14f 25t :->11 | 14f 25f 31t :->11 | 14f 25f 31f :->11
      · omega
      · exact go 0 (by rw [if_neg (by omega)])
      · exact go 0 (by rw [if_neg (by omega)])
      · exact go (-1) (by rw [if_pos (by omega)])
  refine (t79_X11_tongue_9 (t79_X11_tongue_10 ?_))
  -- 1 leaves: :->11
  exact clear 65 0 I6 (by omega) (by omega) (RFt_r I6) r0 (fun j j0 j1 => by omega)
