theorem t72_X11_byteAt_0 {E : En} {d : Nat} {κ : Kp} {I L : MI} {Z : Zt} {a0 : Nat} {a1 : Int}  (k : Ev E d M_X11_byteAt 1 [vr a0, vi a1] [vi a1] κ I L Z) : Ev E d M_X11_byteAt 0 [vr a0, vi a1] [] κ I L Z := E_iload_n dX11_byteAt_0 rfl k
theorem t72_X11_byteAt_1 {E : En} {d : Nat} {κ : Kp} {I L : MI} {Z : Zt} {a0 : Nat} {a1 b0 : Int}  (k : Ev E d M_X11_byteAt 2 [vr a0, vi a1] [vr a0, vi b0] κ I L Z) : Ev E d M_X11_byteAt 1 [vr a0, vi a1] [vi b0] κ I L Z := E_aload_n dX11_byteAt_1 rfl k
theorem t72_X11_byteAt_2 {E : En} {d : Nat} {κ : Kp} {I L : MI} {Z : Zt} {a0 b0 : Nat} {a1 b1 : Int} (hs : κ.1.1[b0]? = some (.inl 11)) (k : Ir (I b0 12) → Ev E d M_X11_byteAt 5 [vr a0, vi a1] [vi (I b0 12), vi b1] κ I L Z) : Ev E d M_X11_byteAt 2 [vr a0, vi a1] [vr b0, vi b1] κ I L Z := E_getI (ci := 11) (n := 12) dX11_byteAt_2 wF_RX11_93 (by decide) hs rfl k
theorem t72_X11_byteAt_5 {E : En} {d : Nat} {κ : Kp} {I L : MI} {Z : Zt} {a0 : Nat} {a1 b0 b1 : Int} (hx : Ir b1) (hy : Ir b0) (kt : b0 ≤ b1 → Ev E d M_X11_byteAt 17 [vr a0, vi a1] [] κ I L Z) (kf : b1 < b0 → Ev E d M_X11_byteAt 8 [vr a0, vi a1] [] κ I L Z) : Ev E d M_X11_byteAt 5 [vr a0, vi a1] [vi b0, vi b1] κ I L Z := E_icmp_ge dX11_byteAt_5 hx hy kt kf (by decide)
theorem t72_X11_byteAt_17 {E : En} {d : Nat} {κ : Kp} {I L : MI} {Z : Zt} {a0 : Nat} {a1 : Int}  (k : Ev E d M_X11_byteAt 19 [vr a0, vi a1] [vi (-1000000)] κ I L Z) : Ev E d M_X11_byteAt 17 [vr a0, vi a1] [] κ I L Z := E_ldc (v := (-1000000)) dX11_byteAt_17 wK_RX11_96 k
theorem t72_X11_byteAt_19 {E : En} {d : Nat} {g : Geo} {I L : MI} {Q : Option AV → Geo → MI → MI → Prop} {cs : Nat × Nat} {a0 : Nat} {a1 b0 : Int} (hq : Q (some (vi b0)) g I L) (h1 : cs.1 ≤ M_X11_byteAt.2.2.2.2.1 := by decide) (h2 : cs.2 ≤ M_X11_byteAt.2.2.2.2.2 := by decide) : Ev E d M_X11_byteAt 19 [vr a0, vi a1] [vi b0] (g, cs) I L (ZQ E M_X11_byteAt Q) := E_ireturn rfl dX11_byteAt_19 hq h1 h2
theorem t72_X11_byteAt_8 {E : En} {d : Nat} {κ : Kp} {I L : MI} {Z : Zt} {a0 : Nat} {a1 : Int}  (k : Ev E d M_X11_byteAt 9 [vr a0, vi a1] [vr a0] κ I L Z) : Ev E d M_X11_byteAt 8 [vr a0, vi a1] [] κ I L Z := E_aload_n dX11_byteAt_8 rfl k
theorem t72_X11_byteAt_9 {E : En} {d : Nat} {κ : Kp} {I L : MI} {Z : Zt} {a0 b0 : Nat} {a1 : Int} {q : Nat} (hs : κ.1.1[b0]? = some (.inl 11)) (hq : κ.1.2 b0 9 = some q) (k : Ev E d M_X11_byteAt 12 [vr a0, vi a1] [vr q] κ I L Z) : Ev E d M_X11_byteAt 9 [vr a0, vi a1] [vr b0] κ I L Z := E_getR (ci := 11) (n := 9) dX11_byteAt_9 wF_RX11_29 (by decide) hs rfl hq k
theorem t72_X11_byteAt_12 {E : En} {d : Nat} {κ : Kp} {I L : MI} {Z : Zt} {a0 b0 : Nat} {a1 : Int}  (k : Ev E d M_X11_byteAt 13 [vr a0, vi a1] [vi a1, vr b0] κ I L Z) : Ev E d M_X11_byteAt 12 [vr a0, vi a1] [vr b0] κ I L Z := E_iload_n dX11_byteAt_12 rfl k
theorem t72_X11_byteAt_13 {E : En} {d : Nat} {κ : Kp} {I L : MI} {Z : Zt} {a0 b1 : Nat} {a1 b0 : Int} {n : Nat} (hs : κ.1.1[b1]? = some (.inr (0, n))) (h0 : 0 ≤ b0) (h1 : b0 < n) (hi : Ir b0) (k : Ir (I b1 b0) → Ev E d M_X11_byteAt 14 [vr a0, vi a1] [vi (I b1 b0)] κ I L Z) : Ev E d M_X11_byteAt 13 [vr a0, vi a1] [vi b0, vr b1] κ I L Z := E_ialdI dX11_byteAt_13 hs h0 h1 hi k
theorem t72_X11_byteAt_14 {E : En} {d : Nat} {κ : Kp} {I L : MI} {Z : Zt} {a0 : Nat} {a1 b0 : Int}  (k : Ev E d M_X11_byteAt 19 [vr a0, vi a1] [vi b0] κ I L Z) : Ev E d M_X11_byteAt 14 [vr a0, vi a1] [vi b0] κ I L Z := E_goto dX11_byteAt_14 (by decide) k
theorem t72_X11_isLetter_0 {E : En} {d : Nat} {κ : Kp} {I L : MI} {Z : Zt} {a0 : Int}  (k : Ev E d M_X11_isLetter 1 [vi a0] [vi a0] κ I L Z) : Ev E d M_X11_isLetter 0 [vi a0] [] κ I L Z := E_iload_n dX11_isLetter_0 rfl k
theorem t72_X11_isLetter_1 {E : En} {d : Nat} {κ : Kp} {I L : MI} {Z : Zt} {a0 b0 : Int}  (k : Ev E d M_X11_isLetter 3 [vi a0] [vi 97, vi b0] κ I L Z) : Ev E d M_X11_isLetter 1 [vi a0] [vi b0] κ I L Z := E_bipush (v := 97) dX11_isLetter_1 rfl k
theorem t72_X11_isLetter_3 {E : En} {d : Nat} {κ : Kp} {I L : MI} {Z : Zt} {a0 b0 b1 : Int} (hx : Ir b1) (hy : Ir b0) (kt : b1 < b0 → Ev E d M_X11_isLetter 16 [vi a0] [] κ I L Z) (kf : b0 ≤ b1 → Ev E d M_X11_isLetter 6 [vi a0] [] κ I L Z) : Ev E d M_X11_isLetter 3 [vi a0] [vi b0, vi b1] κ I L Z := E_icmp_lt dX11_isLetter_3 hx hy kt kf (by decide)
theorem t72_X11_isLetter_16 {E : En} {d : Nat} {κ : Kp} {I L : MI} {Z : Zt} {a0 : Int}  (k : Ev E d M_X11_isLetter 17 [vi a0] [vi 0] κ I L Z) : Ev E d M_X11_isLetter 16 [vi a0] [] κ I L Z := E_iconst (v := 0) dX11_isLetter_16 rfl k
theorem t72_X11_isLetter_17 {E : En} {d : Nat} {g : Geo} {I L : MI} {Q : Option AV → Geo → MI → MI → Prop} {cs : Nat × Nat} {a0 b0 : Int} (hz : b0 = 0 ∨ b0 = 1) (hq : Q (some (vi b0)) g I L) (h1 : cs.1 ≤ M_X11_isLetter.2.2.2.2.1 := by decide) (h2 : cs.2 ≤ M_X11_isLetter.2.2.2.2.2 := by decide) : Ev E d M_X11_isLetter 17 [vi a0] [vi b0] (g, cs) I L (ZQ E M_X11_isLetter Q) := E_zreturn rfl hz dX11_isLetter_17 hq h1 h2
theorem t72_X11_isLetter_6 {E : En} {d : Nat} {κ : Kp} {I L : MI} {Z : Zt} {a0 : Int}  (k : Ev E d M_X11_isLetter 7 [vi a0] [vi a0] κ I L Z) : Ev E d M_X11_isLetter 6 [vi a0] [] κ I L Z := E_iload_n dX11_isLetter_6 rfl k
theorem t72_X11_isLetter_7 {E : En} {d : Nat} {κ : Kp} {I L : MI} {Z : Zt} {a0 b0 : Int}  (k : Ev E d M_X11_isLetter 9 [vi a0] [vi 122, vi b0] κ I L Z) : Ev E d M_X11_isLetter 7 [vi a0] [vi b0] κ I L Z := E_bipush (v := 122) dX11_isLetter_7 rfl k
theorem t72_X11_isLetter_9 {E : En} {d : Nat} {κ : Kp} {I L : MI} {Z : Zt} {a0 b0 b1 : Int} (hx : Ir b1) (hy : Ir b0) (kt : b0 < b1 → Ev E d M_X11_isLetter 16 [vi a0] [] κ I L Z) (kf : b1 ≤ b0 → Ev E d M_X11_isLetter 12 [vi a0] [] κ I L Z) : Ev E d M_X11_isLetter 9 [vi a0] [vi b0, vi b1] κ I L Z := E_icmp_gt dX11_isLetter_9 hx hy kt kf (by decide)
theorem t72_X11_isLetter_12 {E : En} {d : Nat} {κ : Kp} {I L : MI} {Z : Zt} {a0 : Int}  (k : Ev E d M_X11_isLetter 13 [vi a0] [vi 1] κ I L Z) : Ev E d M_X11_isLetter 12 [vi a0] [] κ I L Z := E_iconst (v := 1) dX11_isLetter_12 rfl k
theorem t72_X11_isLetter_13 {E : En} {d : Nat} {κ : Kp} {I L : MI} {Z : Zt} {a0 b0 : Int}  (k : Ev E d M_X11_isLetter 17 [vi a0] [vi b0] κ I L Z) : Ev E d M_X11_isLetter 13 [vi a0] [vi b0] κ I L Z := E_goto dX11_isLetter_13 (by decide) k
theorem t72_X11_isFigure_0 {E : En} {d : Nat} {κ : Kp} {I L : MI} {Z : Zt} {a0 : Int}  (k : Ev E d M_X11_isFigure 1 [vi a0] [vi a0] κ I L Z) : Ev E d M_X11_isFigure 0 [vi a0] [] κ I L Z := E_iload_n dX11_isFigure_0 rfl k
theorem t72_X11_isFigure_1 {E : En} {d : Nat} {κ : Kp} {I L : MI} {Z : Zt} {a0 b0 : Int}  (k : Ev E d M_X11_isFigure 3 [vi a0] [vi 48, vi b0] κ I L Z) : Ev E d M_X11_isFigure 1 [vi a0] [vi b0] κ I L Z := E_bipush (v := 48) dX11_isFigure_1 rfl k
theorem t72_X11_isFigure_3 {E : En} {d : Nat} {κ : Kp} {I L : MI} {Z : Zt} {a0 b0 b1 : Int} (hx : Ir b1) (hy : Ir b0) (kt : b1 < b0 → Ev E d M_X11_isFigure 16 [vi a0] [] κ I L Z) (kf : b0 ≤ b1 → Ev E d M_X11_isFigure 6 [vi a0] [] κ I L Z) : Ev E d M_X11_isFigure 3 [vi a0] [vi b0, vi b1] κ I L Z := E_icmp_lt dX11_isFigure_3 hx hy kt kf (by decide)
theorem t72_X11_isFigure_16 {E : En} {d : Nat} {κ : Kp} {I L : MI} {Z : Zt} {a0 : Int}  (k : Ev E d M_X11_isFigure 17 [vi a0] [vi 0] κ I L Z) : Ev E d M_X11_isFigure 16 [vi a0] [] κ I L Z := E_iconst (v := 0) dX11_isFigure_16 rfl k
theorem t72_X11_isFigure_17 {E : En} {d : Nat} {g : Geo} {I L : MI} {Q : Option AV → Geo → MI → MI → Prop} {cs : Nat × Nat} {a0 b0 : Int} (hz : b0 = 0 ∨ b0 = 1) (hq : Q (some (vi b0)) g I L) (h1 : cs.1 ≤ M_X11_isFigure.2.2.2.2.1 := by decide) (h2 : cs.2 ≤ M_X11_isFigure.2.2.2.2.2 := by decide) : Ev E d M_X11_isFigure 17 [vi a0] [vi b0] (g, cs) I L (ZQ E M_X11_isFigure Q) := E_zreturn rfl hz dX11_isFigure_17 hq h1 h2
theorem t72_X11_isFigure_6 {E : En} {d : Nat} {κ : Kp} {I L : MI} {Z : Zt} {a0 : Int}  (k : Ev E d M_X11_isFigure 7 [vi a0] [vi a0] κ I L Z) : Ev E d M_X11_isFigure 6 [vi a0] [] κ I L Z := E_iload_n dX11_isFigure_6 rfl k
theorem t72_X11_isFigure_7 {E : En} {d : Nat} {κ : Kp} {I L : MI} {Z : Zt} {a0 b0 : Int}  (k : Ev E d M_X11_isFigure 9 [vi a0] [vi 57, vi b0] κ I L Z) : Ev E d M_X11_isFigure 7 [vi a0] [vi b0] κ I L Z := E_bipush (v := 57) dX11_isFigure_7 rfl k
theorem t72_X11_isFigure_9 {E : En} {d : Nat} {κ : Kp} {I L : MI} {Z : Zt} {a0 b0 b1 : Int} (hx : Ir b1) (hy : Ir b0) (kt : b0 < b1 → Ev E d M_X11_isFigure 16 [vi a0] [] κ I L Z) (kf : b1 ≤ b0 → Ev E d M_X11_isFigure 12 [vi a0] [] κ I L Z) : Ev E d M_X11_isFigure 9 [vi a0] [vi b0, vi b1] κ I L Z := E_icmp_gt dX11_isFigure_9 hx hy kt kf (by decide)
theorem t72_X11_isFigure_12 {E : En} {d : Nat} {κ : Kp} {I L : MI} {Z : Zt} {a0 : Int}  (k : Ev E d M_X11_isFigure 13 [vi a0] [vi 1] κ I L Z) : Ev E d M_X11_isFigure 12 [vi a0] [] κ I L Z := E_iconst (v := 1) dX11_isFigure_12 rfl k
theorem t72_X11_isFigure_13 {E : En} {d : Nat} {κ : Kp} {I L : MI} {Z : Zt} {a0 b0 : Int}  (k : Ev E d M_X11_isFigure 17 [vi a0] [vi b0] κ I L Z) : Ev E d M_X11_isFigure 13 [vi a0] [vi b0] κ I L Z := E_goto dX11_isFigure_13 (by decide) k
theorem t72_X11_next_196 {E : En} {d : Nat} {κ : Kp} {I L : MI} {Z : Zt} {a0 : Nat} {a1 : Int}  (k : Ev E d M_X11_next 197 [vr a0, vi a1] [vr a0] κ I L Z) : Ev E d M_X11_next 196 [vr a0, vi a1] [] κ I L Z := E_aload_n dX11_next_196 rfl k
theorem t72_X11_next_197 {E : En} {d : Nat} {κ : Kp} {I L : MI} {Z : Zt} {a0 b0 : Nat} {a1 : Int}  (k : Ev E d M_X11_next 198 [vr a0, vi a1] [vr a0, vr b0] κ I L Z) : Ev E d M_X11_next 197 [vr a0, vi a1] [vr b0] κ I L Z := E_aload_n dX11_next_197 rfl k
theorem t72_X11_next_198 {E : En} {d : Nat} {κ : Kp} {I L : MI} {Z : Zt} {a0 b0 b1 : Nat} {a1 : Int} (hs : κ.1.1[b0]? = some (.inl 11)) (k : Ir (I b0 13) → Ev E d M_X11_next 201 [vr a0, vi a1] [vi (I b0 13), vr b1] κ I L Z) : Ev E d M_X11_next 198 [vr a0, vi a1] [vr b0, vr b1] κ I L Z := E_getI (ci := 11) (n := 13) dX11_next_198 wF_RX11_97 (by decide) hs rfl k
theorem t72_X11_next_201 {E : En} {d : Nat} {κ : Kp} {I L : MI} {Z : Zt} {a0 b1 : Nat} {a1 b0 : Int} (hs : κ.1.1[b1]? = some (.inl 11)) (hz : Ir b0) (k : Ev E d M_X11_next 204 [vr a0, vi a1] [] κ (up2 I b1 16 b0) L Z) : Ev E d M_X11_next 201 [vr a0, vi a1] [vi b0, vr b1] κ I L Z := E_putI (ci := 11) (n := 16) dX11_next_201 wF_RX11_116 (by decide) hs rfl rfl hz k
theorem t72_X11_next_204 {E : En} {d : Nat} {g : Geo} {I L : MI} {Q : Option AV → Geo → MI → MI → Prop} {cs : Nat × Nat} {a0 : Nat} {a1 : Int} (hq : Q none g I L) (h1 : cs.1 ≤ M_X11_next.2.2.2.2.1 := by decide) (h2 : cs.2 ≤ M_X11_next.2.2.2.2.2 := by decide) : Ev E d M_X11_next 204 [vr a0, vi a1] [] (g, cs) I L (ZQ E M_X11_next Q) := E_return rfl dX11_next_204 hq h1 h2
theorem t72_X11_next_77 {E : En} {d : Nat} {κ : Kp} {I L : MI} {Z : Zt} {a0 : Nat} {a1 : Int}  (k : Ev E d M_X11_next 78 [vr a0, vi a1] [vr a0] κ I L Z) : Ev E d M_X11_next 77 [vr a0, vi a1] [] κ I L Z := E_aload_n dX11_next_77 rfl k
theorem t72_X11_next_78 {E : En} {d : Nat} {κ : Kp} {I L : MI} {Z : Zt} {a0 b0 : Nat} {a1 : Int}  (k : Ev E d M_X11_next 79 [vr a0, vi a1] [vr a0, vr b0] κ I L Z) : Ev E d M_X11_next 78 [vr a0, vi a1] [vr b0] κ I L Z := E_aload_n dX11_next_78 rfl k
theorem t72_X11_next_79 {E : En} {d : Nat} {κ : Kp} {I L : MI} {Z : Zt} {a0 b0 b1 : Nat} {a1 : Int} (hs : κ.1.1[b0]? = some (.inl 11)) (k : Ir (I b0 13) → Ev E d M_X11_next 82 [vr a0, vi a1] [vi (I b0 13), vr b1] κ I L Z) : Ev E d M_X11_next 79 [vr a0, vi a1] [vr b0, vr b1] κ I L Z := E_getI (ci := 11) (n := 13) dX11_next_79 wF_RX11_97 (by decide) hs rfl k
theorem t72_X11_next_82 {E : En} {d d' : Nat} {cs : Nat × Nat} {I L : MI} {Z : Zt} {a0 b1 : Nat} {a1 b0 : Int} {z : Int} {I' L' : MI} (hs : G0.1[b1]? = some (.inl 11)) (hM : CFi E d' M_X11_byteAt [vr b1, vi b0] I L z I' L') (hlt : d' + 1 ≤ d) (k : Ir z → Ev E d M_X11_next 85 [vr a0, vi a1] [vi z] (G0, cs) I' L' Z) (hc1 : cs.1 ≤ M_X11_next.2.2.2.2.1 := by decide) (hc2 : cs.2 ≤ M_X11_next.2.2.2.2.2 := by decide) : Ev E d M_X11_next 82 [vr a0, vi a1] [vi b0, vr b1] (G0, cs) I L Z := E_callV (as := [vi b0]) (rest := []) (n := 1) hM dX11_next_82 wM_RX11_100 wS_X11_byteAt wV_X11_byteAt hs (by decide) rfl hlt wC_X11_byteAt wI_X11 (by decide +kernel) rfl (by decide) (Nat.le_of_ble_eq_true rfl) hc1 hc2 rfl (fun r g' I2 L2 h => by obtain ⟨rfl, z, rfl, hr, rfl, rfl, rfl⟩ := h; exact k hr)
theorem t72_X11_next_85 {E : En} {d d' : Nat} {cs : Nat × Nat} {I L : MI} {Z : Zt} {a0 : Nat} {a1 b0 : Int} {P : Prop} {I' L' : MI} (hM : CB E d' M_X11_isLetter [vi b0] I L P I' L') (hlt : d' + 1 ≤ d) (kt : P → Ev E d M_X11_next 88 [vr a0, vi a1] [vi 1] (G0, cs) I' L' Z) (kf : ¬ P → Ev E d M_X11_next 88 [vr a0, vi a1] [vi 0] (G0, cs) I' L' Z) (hc1 : cs.1 ≤ M_X11_next.2.2.2.2.1 := by decide) (hc2 : cs.2 ≤ M_X11_next.2.2.2.2.2 := by decide) : Ev E d M_X11_next 85 [vr a0, vi a1] [vi b0] (G0, cs) I L Z := E_callS (as := [vi b0]) (rest := []) (n := 1) hM dX11_next_85 wM_RX11_110 wS_X11_isLetter hlt wC_X11_isLetter wI_X11 (by decide +kernel) rfl (by decide) (Nat.le_of_ble_eq_true rfl) hc1 hc2 rfl (fun r g' I2 L2 h => by obtain ⟨rfl, z, rfl, rfl, rfl, ⟨rfl, h⟩ | ⟨rfl, h⟩⟩ := h; exact kt h; exact kf h)
theorem t72_X11_next_88 {E : En} {d : Nat} {κ : Kp} {I L : MI} {Z : Zt} {a0 : Nat} {a1 b0 : Int} (hx : Ir b0) (kt : b0 = 0 → Ev E d M_X11_next 104 [vr a0, vi a1] [] κ I L Z) (kf : ¬ b0 = 0 → Ev E d M_X11_next 91 [vr a0, vi a1] [] κ I L Z) : Ev E d M_X11_next 88 [vr a0, vi a1] [vi b0] κ I L Z := E_if_eq dX11_next_88 hx kt kf (by decide)
theorem t72_X11_next_91 {E : En} {d : Nat} {κ : Kp} {I L : MI} {Z : Zt} {a0 : Nat} {a1 : Int}  (k : Ev E d M_X11_next 92 [vr a0, vi a1] [vr a0] κ I L Z) : Ev E d M_X11_next 91 [vr a0, vi a1] [] κ I L Z := E_aload_n dX11_next_91 rfl k
theorem t72_X11_next_92 {E : En} {d : Nat} {κ : Kp} {I L : MI} {Z : Zt} {a0 b0 : Nat} {a1 : Int}  (k : Ev E d M_X11_next 93 [vr a0, vi a1] [vr b0, vr b0] κ I L Z) : Ev E d M_X11_next 92 [vr a0, vi a1] [vr b0] κ I L Z := E_dup dX11_next_92 rfl k
theorem t72_X11_next_93 {E : En} {d : Nat} {κ : Kp} {I L : MI} {Z : Zt} {a0 b0 b1 : Nat} {a1 : Int} (hs : κ.1.1[b0]? = some (.inl 11)) (k : Ir (I b0 13) → Ev E d M_X11_next 96 [vr a0, vi a1] [vi (I b0 13), vr b1] κ I L Z) : Ev E d M_X11_next 93 [vr a0, vi a1] [vr b0, vr b1] κ I L Z := E_getI (ci := 11) (n := 13) dX11_next_93 wF_RX11_97 (by decide) hs rfl k
theorem t72_X11_next_96 {E : En} {d : Nat} {κ : Kp} {I L : MI} {Z : Zt} {a0 b1 : Nat} {a1 b0 : Int}  (k : Ev E d M_X11_next 97 [vr a0, vi a1] [vi 1, vi b0, vr b1] κ I L Z) : Ev E d M_X11_next 96 [vr a0, vi a1] [vi b0, vr b1] κ I L Z := E_iconst (v := 1) dX11_next_96 rfl k
theorem t72_X11_next_97 {E : En} {d : Nat} {κ : Kp} {I L : MI} {Z : Zt} {a0 b2 : Nat} {a1 b0 b1 : Int}  (k : Ev E d M_X11_next 98 [vr a0, vi a1] [vi (b1 + b0), vr b2] κ I L Z) : Ev E d M_X11_next 97 [vr a0, vi a1] [vi b0, vi b1, vr b2] κ I L Z := E_iadd dX11_next_97 k
theorem t72_X11_next_98 {E : En} {d : Nat} {κ : Kp} {I L : MI} {Z : Zt} {a0 b1 : Nat} {a1 b0 : Int} (hs : κ.1.1[b1]? = some (.inl 11)) (hz : Ir b0) (k : Ev E d M_X11_next 101 [vr a0, vi a1] [] κ (up2 I b1 13 b0) L Z) : Ev E d M_X11_next 98 [vr a0, vi a1] [vi b0, vr b1] κ I L Z := E_putI (ci := 11) (n := 13) dX11_next_98 wF_RX11_97 (by decide) hs rfl rfl hz k
theorem t72_X11_next_101 {E : En} {d : Nat} {κ : Kp} {I L : MI} {Z : Zt} {a0 : Nat} {a1 : Int}  (k : Ev E d M_X11_next 77 [vr a0, vi a1] [] κ I L Z) : Ev E d M_X11_next 101 [vr a0, vi a1] [] κ I L Z := E_goto dX11_next_101 (by decide) k
theorem t72_X11_next_104 {E : En} {d : Nat} {κ : Kp} {I L : MI} {Z : Zt} {a0 : Nat} {a1 : Int}  (k : Ev E d M_X11_next 105 [vr a0, vi a1] [vr a0] κ I L Z) : Ev E d M_X11_next 104 [vr a0, vi a1] [] κ I L Z := E_aload_n dX11_next_104 rfl k
theorem t72_X11_next_105 {E : En} {d : Nat} {κ : Kp} {I L : MI} {Z : Zt} {a0 b0 : Nat} {a1 : Int}  (k : Ev E d M_X11_next 106 [vr a0, vi a1] [vi 2, vr b0] κ I L Z) : Ev E d M_X11_next 105 [vr a0, vi a1] [vr b0] κ I L Z := E_iconst (v := 2) dX11_next_105 rfl k
theorem t72_X11_next_106 {E : En} {d : Nat} {κ : Kp} {I L : MI} {Z : Zt} {a0 b1 : Nat} {a1 b0 : Int} (hs : κ.1.1[b1]? = some (.inl 11)) (hz : Ir b0) (k : Ev E d M_X11_next 109 [vr a0, vi a1] [] κ (up2 I b1 14 b0) L Z) : Ev E d M_X11_next 106 [vr a0, vi a1] [vi b0, vr b1] κ I L Z := E_putI (ci := 11) (n := 14) dX11_next_106 wF_RX11_107 (by decide) hs rfl rfl hz k
theorem t72_X11_next_109 {E : En} {d : Nat} {κ : Kp} {I L : MI} {Z : Zt} {a0 : Nat} {a1 : Int}  (k : Ev E d M_X11_next 196 [vr a0, vi a1] [] κ I L Z) : Ev E d M_X11_next 109 [vr a0, vi a1] [] κ I L Z := E_goto dX11_next_109 (by decide) k
theorem t72_X11_next_119 {E : En} {d : Nat} {κ : Kp} {I L : MI} {Z : Zt} {a0 : Nat} {a1 : Int}  (k : Ev E d M_X11_next 120 [vr a0, vi a1] [vr a0] κ I L Z) : Ev E d M_X11_next 119 [vr a0, vi a1] [] κ I L Z := E_aload_n dX11_next_119 rfl k
theorem t72_X11_next_120 {E : En} {d : Nat} {κ : Kp} {I L : MI} {Z : Zt} {a0 b0 : Nat} {a1 : Int}  (k : Ev E d M_X11_next 121 [vr a0, vi a1] [vr a0, vr b0] κ I L Z) : Ev E d M_X11_next 120 [vr a0, vi a1] [vr b0] κ I L Z := E_aload_n dX11_next_120 rfl k
theorem t72_X11_next_121 {E : En} {d : Nat} {κ : Kp} {I L : MI} {Z : Zt} {a0 b0 b1 : Nat} {a1 : Int} (hs : κ.1.1[b0]? = some (.inl 11)) (k : Ir (I b0 13) → Ev E d M_X11_next 124 [vr a0, vi a1] [vi (I b0 13), vr b1] κ I L Z) : Ev E d M_X11_next 121 [vr a0, vi a1] [vr b0, vr b1] κ I L Z := E_getI (ci := 11) (n := 13) dX11_next_121 wF_RX11_97 (by decide) hs rfl k
theorem t72_X11_next_124 {E : En} {d d' : Nat} {cs : Nat × Nat} {I L : MI} {Z : Zt} {a0 b1 : Nat} {a1 b0 : Int} {z : Int} {I' L' : MI} (hs : G0.1[b1]? = some (.inl 11)) (hM : CFi E d' M_X11_byteAt [vr b1, vi b0] I L z I' L') (hlt : d' + 1 ≤ d) (k : Ir z → Ev E d M_X11_next 127 [vr a0, vi a1] [vi z] (G0, cs) I' L' Z) (hc1 : cs.1 ≤ M_X11_next.2.2.2.2.1 := by decide) (hc2 : cs.2 ≤ M_X11_next.2.2.2.2.2 := by decide) : Ev E d M_X11_next 124 [vr a0, vi a1] [vi b0, vr b1] (G0, cs) I L Z := E_callV (as := [vi b0]) (rest := []) (n := 1) hM dX11_next_124 wM_RX11_100 wS_X11_byteAt wV_X11_byteAt hs (by decide) rfl hlt wC_X11_byteAt wI_X11 (by decide +kernel) rfl (by decide) (Nat.le_of_ble_eq_true rfl) hc1 hc2 rfl (fun r g' I2 L2 h => by obtain ⟨rfl, z, rfl, hr, rfl, rfl, rfl⟩ := h; exact k hr)
theorem t72_X11_next_127 {E : En} {d d' : Nat} {cs : Nat × Nat} {I L : MI} {Z : Zt} {a0 : Nat} {a1 b0 : Int} {P : Prop} {I' L' : MI} (hM : CB E d' M_X11_isFigure [vi b0] I L P I' L') (hlt : d' + 1 ≤ d) (kt : P → Ev E d M_X11_next 130 [vr a0, vi a1] [vi 1] (G0, cs) I' L' Z) (kf : ¬ P → Ev E d M_X11_next 130 [vr a0, vi a1] [vi 0] (G0, cs) I' L' Z) (hc1 : cs.1 ≤ M_X11_next.2.2.2.2.1 := by decide) (hc2 : cs.2 ≤ M_X11_next.2.2.2.2.2 := by decide) : Ev E d M_X11_next 127 [vr a0, vi a1] [vi b0] (G0, cs) I L Z := E_callS (as := [vi b0]) (rest := []) (n := 1) hM dX11_next_127 wM_RX11_113 wS_X11_isFigure hlt wC_X11_isFigure wI_X11 (by decide +kernel) rfl (by decide) (Nat.le_of_ble_eq_true rfl) hc1 hc2 rfl (fun r g' I2 L2 h => by obtain ⟨rfl, z, rfl, rfl, rfl, ⟨rfl, h⟩ | ⟨rfl, h⟩⟩ := h; exact kt h; exact kf h)
theorem t72_X11_next_130 {E : En} {d : Nat} {κ : Kp} {I L : MI} {Z : Zt} {a0 : Nat} {a1 b0 : Int} (hx : Ir b0) (kt : b0 = 0 → Ev E d M_X11_next 146 [vr a0, vi a1] [] κ I L Z) (kf : ¬ b0 = 0 → Ev E d M_X11_next 133 [vr a0, vi a1] [] κ I L Z) : Ev E d M_X11_next 130 [vr a0, vi a1] [vi b0] κ I L Z := E_if_eq dX11_next_130 hx kt kf (by decide)
theorem t72_X11_next_133 {E : En} {d : Nat} {κ : Kp} {I L : MI} {Z : Zt} {a0 : Nat} {a1 : Int}  (k : Ev E d M_X11_next 134 [vr a0, vi a1] [vr a0] κ I L Z) : Ev E d M_X11_next 133 [vr a0, vi a1] [] κ I L Z := E_aload_n dX11_next_133 rfl k
theorem t72_X11_next_134 {E : En} {d : Nat} {κ : Kp} {I L : MI} {Z : Zt} {a0 b0 : Nat} {a1 : Int}  (k : Ev E d M_X11_next 135 [vr a0, vi a1] [vr b0, vr b0] κ I L Z) : Ev E d M_X11_next 134 [vr a0, vi a1] [vr b0] κ I L Z := E_dup dX11_next_134 rfl k
theorem t72_X11_next_135 {E : En} {d : Nat} {κ : Kp} {I L : MI} {Z : Zt} {a0 b0 b1 : Nat} {a1 : Int} (hs : κ.1.1[b0]? = some (.inl 11)) (k : Ir (I b0 13) → Ev E d M_X11_next 138 [vr a0, vi a1] [vi (I b0 13), vr b1] κ I L Z) : Ev E d M_X11_next 135 [vr a0, vi a1] [vr b0, vr b1] κ I L Z := E_getI (ci := 11) (n := 13) dX11_next_135 wF_RX11_97 (by decide) hs rfl k
theorem t72_X11_next_138 {E : En} {d : Nat} {κ : Kp} {I L : MI} {Z : Zt} {a0 b1 : Nat} {a1 b0 : Int}  (k : Ev E d M_X11_next 139 [vr a0, vi a1] [vi 1, vi b0, vr b1] κ I L Z) : Ev E d M_X11_next 138 [vr a0, vi a1] [vi b0, vr b1] κ I L Z := E_iconst (v := 1) dX11_next_138 rfl k
theorem t72_X11_next_139 {E : En} {d : Nat} {κ : Kp} {I L : MI} {Z : Zt} {a0 b2 : Nat} {a1 b0 b1 : Int}  (k : Ev E d M_X11_next 140 [vr a0, vi a1] [vi (b1 + b0), vr b2] κ I L Z) : Ev E d M_X11_next 139 [vr a0, vi a1] [vi b0, vi b1, vr b2] κ I L Z := E_iadd dX11_next_139 k
theorem t72_X11_next_140 {E : En} {d : Nat} {κ : Kp} {I L : MI} {Z : Zt} {a0 b1 : Nat} {a1 b0 : Int} (hs : κ.1.1[b1]? = some (.inl 11)) (hz : Ir b0) (k : Ev E d M_X11_next 143 [vr a0, vi a1] [] κ (up2 I b1 13 b0) L Z) : Ev E d M_X11_next 140 [vr a0, vi a1] [vi b0, vr b1] κ I L Z := E_putI (ci := 11) (n := 13) dX11_next_140 wF_RX11_97 (by decide) hs rfl rfl hz k
theorem t72_X11_next_143 {E : En} {d : Nat} {κ : Kp} {I L : MI} {Z : Zt} {a0 : Nat} {a1 : Int}  (k : Ev E d M_X11_next 119 [vr a0, vi a1] [] κ I L Z) : Ev E d M_X11_next 143 [vr a0, vi a1] [] κ I L Z := E_goto dX11_next_143 (by decide) k
theorem t72_X11_next_146 {E : En} {d : Nat} {κ : Kp} {I L : MI} {Z : Zt} {a0 : Nat} {a1 : Int}  (k : Ev E d M_X11_next 147 [vr a0, vi a1] [vr a0] κ I L Z) : Ev E d M_X11_next 146 [vr a0, vi a1] [] κ I L Z := E_aload_n dX11_next_146 rfl k
theorem t72_X11_next_147 {E : En} {d : Nat} {κ : Kp} {I L : MI} {Z : Zt} {a0 b0 : Nat} {a1 : Int}  (k : Ev E d M_X11_next 148 [vr a0, vi a1] [vr a0, vr b0] κ I L Z) : Ev E d M_X11_next 147 [vr a0, vi a1] [vr b0] κ I L Z := E_aload_n dX11_next_147 rfl k
theorem t72_X11_next_148 {E : En} {d : Nat} {κ : Kp} {I L : MI} {Z : Zt} {a0 b0 b1 : Nat} {a1 : Int} (hs : κ.1.1[b0]? = some (.inl 11)) (k : Ir (I b0 13) → Ev E d M_X11_next 151 [vr a0, vi a1] [vi (I b0 13), vr b1] κ I L Z) : Ev E d M_X11_next 148 [vr a0, vi a1] [vr b0, vr b1] κ I L Z := E_getI (ci := 11) (n := 13) dX11_next_148 wF_RX11_97 (by decide) hs rfl k
theorem t72_X11_next_151 {E : En} {d : Nat} {κ : Kp} {I L : MI} {Z : Zt} {a0 b1 : Nat} {a1 b0 : Int}  (k : Ev E d M_X11_next 152 [vr a0, vi a1] [vr a0, vi b0, vr b1] κ I L Z) : Ev E d M_X11_next 151 [vr a0, vi a1] [vi b0, vr b1] κ I L Z := E_aload_n dX11_next_151 rfl k
theorem t72_X11_next_152 {E : En} {d : Nat} {κ : Kp} {I L : MI} {Z : Zt} {a0 b0 b2 : Nat} {a1 b1 : Int} (hs : κ.1.1[b0]? = some (.inl 11)) (k : Ir (I b0 15) → Ev E d M_X11_next 155 [vr a0, vi a1] [vi (I b0 15), vi b1, vr b2] κ I L Z) : Ev E d M_X11_next 152 [vr a0, vi a1] [vr b0, vi b1, vr b2] κ I L Z := E_getI (ci := 11) (n := 15) dX11_next_152 wF_RX11_104 (by decide) hs rfl k
theorem t72_X11_next_155 {E : En} {d : Nat} {κ : Kp} {I L : MI} {Z : Zt} {a0 b2 : Nat} {a1 b0 b1 : Int}  (k : Ev E d M_X11_next 156 [vr a0, vi a1] [vi (b1 - b0), vr b2] κ I L Z) : Ev E d M_X11_next 155 [vr a0, vi a1] [vi b0, vi b1, vr b2] κ I L Z := E_isub dX11_next_155 k
theorem t72_X11_next_156 {E : En} {d : Nat} {κ : Kp} {I L : MI} {Z : Zt} {a0 b1 : Nat} {a1 b0 : Int}  (k : Ev E d M_X11_next 157 [vr a0, vi a1] [vi 3, vi b0, vr b1] κ I L Z) : Ev E d M_X11_next 156 [vr a0, vi a1] [vi b0, vr b1] κ I L Z := E_iconst (v := 3) dX11_next_156 rfl k
theorem t72_X11_next_157 {E : En} {d : Nat} {κ : Kp} {I L : MI} {Z : Zt} {a0 b2 : Nat} {a1 b0 b1 : Int} (hx : Ir b1) (hy : Ir b0) (kt : b1 ≤ b0 → Ev E d M_X11_next 164 [vr a0, vi a1] [vr b2] κ I L Z) (kf : b0 < b1 → Ev E d M_X11_next 160 [vr a0, vi a1] [vr b2] κ I L Z) : Ev E d M_X11_next 157 [vr a0, vi a1] [vi b0, vi b1, vr b2] κ I L Z := E_icmp_le dX11_next_157 hx hy kt kf (by decide)
theorem t72_X11_next_164 {E : En} {d : Nat} {κ : Kp} {I L : MI} {Z : Zt} {a0 b0 : Nat} {a1 : Int}  (k : Ev E d M_X11_next 165 [vr a0, vi a1] [vi 3, vr b0] κ I L Z) : Ev E d M_X11_next 164 [vr a0, vi a1] [vr b0] κ I L Z := E_iconst (v := 3) dX11_next_164 rfl k
theorem t72_X11_next_165 {E : En} {d : Nat} {κ : Kp} {I L : MI} {Z : Zt} {a0 b1 : Nat} {a1 b0 : Int} (hs : κ.1.1[b1]? = some (.inl 11)) (hz : Ir b0) (k : Ev E d M_X11_next 168 [vr a0, vi a1] [] κ (up2 I b1 14 b0) L Z) : Ev E d M_X11_next 165 [vr a0, vi a1] [vi b0, vr b1] κ I L Z := E_putI (ci := 11) (n := 14) dX11_next_165 wF_RX11_107 (by decide) hs rfl rfl hz k
theorem t72_X11_next_168 {E : En} {d : Nat} {κ : Kp} {I L : MI} {Z : Zt} {a0 : Nat} {a1 : Int}  (k : Ev E d M_X11_next 196 [vr a0, vi a1] [] κ I L Z) : Ev E d M_X11_next 168 [vr a0, vi a1] [] κ I L Z := E_goto dX11_next_168 (by decide) k
theorem t72_X11_next_160 {E : En} {d : Nat} {κ : Kp} {I L : MI} {Z : Zt} {a0 b0 : Nat} {a1 : Int}  (k : Ev E d M_X11_next 161 [vr a0, vi a1] [vi 0, vr b0] κ I L Z) : Ev E d M_X11_next 160 [vr a0, vi a1] [vr b0] κ I L Z := E_iconst (v := 0) dX11_next_160 rfl k
theorem t72_X11_next_161 {E : En} {d : Nat} {κ : Kp} {I L : MI} {Z : Zt} {a0 b1 : Nat} {a1 b0 : Int}  (k : Ev E d M_X11_next 165 [vr a0, vi a1] [vi b0, vr b1] κ I L Z) : Ev E d M_X11_next 161 [vr a0, vi a1] [vi b0, vr b1] κ I L Z := E_goto dX11_next_161 (by decide) k
theorem t72_X11_next_39 {E : En} {d : Nat} {κ : Kp} {I L : MI} {Z : Zt} {a0 : Nat}  (k : Ev E d M_X11_next 40 [vr a0, vu] [vr a0] κ I L Z) : Ev E d M_X11_next 39 [vr a0, vu] [] κ I L Z := E_aload_n dX11_next_39 rfl k
theorem t72_X11_next_40 {E : En} {d : Nat} {κ : Kp} {I L : MI} {Z : Zt} {a0 b0 : Nat}  (k : Ev E d M_X11_next 41 [vr a0, vu] [vr a0, vr b0] κ I L Z) : Ev E d M_X11_next 40 [vr a0, vu] [vr b0] κ I L Z := E_aload_n dX11_next_40 rfl k
theorem t72_X11_next_41 {E : En} {d : Nat} {κ : Kp} {I L : MI} {Z : Zt} {a0 b0 b1 : Nat} (hs : κ.1.1[b0]? = some (.inl 11)) (k : Ir (I b0 13) → Ev E d M_X11_next 44 [vr a0, vu] [vi (I b0 13), vr b1] κ I L Z) : Ev E d M_X11_next 41 [vr a0, vu] [vr b0, vr b1] κ I L Z := E_getI (ci := 11) (n := 13) dX11_next_41 wF_RX11_97 (by decide) hs rfl k
theorem t72_X11_next_44 {E : En} {d : Nat} {κ : Kp} {I L : MI} {Z : Zt} {a0 b1 : Nat} {b0 : Int} (hs : κ.1.1[b1]? = some (.inl 11)) (hz : Ir b0) (k : Ev E d M_X11_next 47 [vr a0, vu] [] κ (up2 I b1 15 b0) L Z) : Ev E d M_X11_next 44 [vr a0, vu] [vi b0, vr b1] κ I L Z := E_putI (ci := 11) (n := 15) dX11_next_44 wF_RX11_104 (by decide) hs rfl rfl hz k
theorem t72_X11_next_47 {E : En} {d : Nat} {κ : Kp} {I L : MI} {Z : Zt} {a0 : Nat}  (k : Ev E d M_X11_next 48 [vr a0, vu] [vr a0] κ I L Z) : Ev E d M_X11_next 47 [vr a0, vu] [] κ I L Z := E_aload_n dX11_next_47 rfl k
theorem t72_X11_next_48 {E : En} {d : Nat} {κ : Kp} {I L : MI} {Z : Zt} {a0 b0 : Nat}  (k : Ev E d M_X11_next 49 [vr a0, vu] [vr a0, vr b0] κ I L Z) : Ev E d M_X11_next 48 [vr a0, vu] [vr b0] κ I L Z := E_aload_n dX11_next_48 rfl k
theorem t72_X11_next_49 {E : En} {d : Nat} {κ : Kp} {I L : MI} {Z : Zt} {a0 b0 b1 : Nat} (hs : κ.1.1[b0]? = some (.inl 11)) (k : Ir (I b0 13) → Ev E d M_X11_next 52 [vr a0, vu] [vi (I b0 13), vr b1] κ I L Z) : Ev E d M_X11_next 49 [vr a0, vu] [vr b0, vr b1] κ I L Z := E_getI (ci := 11) (n := 13) dX11_next_49 wF_RX11_97 (by decide) hs rfl k
theorem t72_X11_next_52 {E : En} {d d' : Nat} {cs : Nat × Nat} {I L : MI} {Z : Zt} {a0 b1 : Nat} {b0 : Int} {z : Int} {I' L' : MI} (hs : G0.1[b1]? = some (.inl 11)) (hM : CFi E d' M_X11_byteAt [vr b1, vi b0] I L z I' L') (hlt : d' + 1 ≤ d) (k : Ir z → Ev E d M_X11_next 55 [vr a0, vu] [vi z] (G0, cs) I' L' Z) (hc1 : cs.1 ≤ M_X11_next.2.2.2.2.1 := by decide) (hc2 : cs.2 ≤ M_X11_next.2.2.2.2.2 := by decide) : Ev E d M_X11_next 52 [vr a0, vu] [vi b0, vr b1] (G0, cs) I L Z := E_callV (as := [vi b0]) (rest := []) (n := 1) hM dX11_next_52 wM_RX11_100 wS_X11_byteAt wV_X11_byteAt hs (by decide) rfl hlt wC_X11_byteAt wI_X11 (by decide +kernel) rfl (by decide) (Nat.le_of_ble_eq_true rfl) hc1 hc2 rfl (fun r g' I2 L2 h => by obtain ⟨rfl, z, rfl, hr, rfl, rfl, rfl⟩ := h; exact k hr)
theorem t72_X11_next_55 {E : En} {d : Nat} {κ : Kp} {I L : MI} {Z : Zt} {a0 : Nat} {b0 : Int}  (k : Ev E d M_X11_next 56 [vr a0, vi b0] [] κ I L Z) : Ev E d M_X11_next 55 [vr a0, vu] [vi b0] κ I L Z := E_istore_n dX11_next_55 rfl (Nat.le_of_ble_eq_true rfl) k
theorem t72_X11_next_56 {E : En} {d : Nat} {κ : Kp} {I L : MI} {Z : Zt} {a0 : Nat} {a1 : Int}  (k : Ev E d M_X11_next 57 [vr a0, vi a1] [vi a1] κ I L Z) : Ev E d M_X11_next 56 [vr a0, vi a1] [] κ I L Z := E_iload_n dX11_next_56 rfl k
theorem t72_X11_next_57 {E : En} {d : Nat} {κ : Kp} {I L : MI} {Z : Zt} {a0 : Nat} {a1 b0 : Int}  (k : Ev E d M_X11_next 59 [vr a0, vi a1] [vi (-1000000), vi b0] κ I L Z) : Ev E d M_X11_next 57 [vr a0, vi a1] [vi b0] κ I L Z := E_ldc (v := (-1000000)) dX11_next_57 wK_RX11_96 k
theorem t72_X11_next_59 {E : En} {d : Nat} {κ : Kp} {I L : MI} {Z : Zt} {a0 : Nat} {a1 b0 b1 : Int} (hx : Ir b1) (hy : Ir b0) (kt : ¬ b1 = b0 → Ev E d M_X11_next 70 [vr a0, vi a1] [] κ I L Z) (kf : b1 = b0 → Ev E d M_X11_next 62 [vr a0, vi a1] [] κ I L Z) : Ev E d M_X11_next 59 [vr a0, vi a1] [vi b0, vi b1] κ I L Z := E_icmp_ne dX11_next_59 hx hy kt kf (by decide)
theorem t72_X11_next_70 {E : En} {d : Nat} {κ : Kp} {I L : MI} {Z : Zt} {a0 : Nat} {a1 : Int}  (k : Ev E d M_X11_next 71 [vr a0, vi a1] [vi a1] κ I L Z) : Ev E d M_X11_next 70 [vr a0, vi a1] [] κ I L Z := E_iload_n dX11_next_70 rfl k
theorem t72_X11_next_71 {E : En} {d d' : Nat} {cs : Nat × Nat} {I L : MI} {Z : Zt} {a0 : Nat} {a1 b0 : Int} {P : Prop} {I' L' : MI} (hM : CB E d' M_X11_isLetter [vi b0] I L P I' L') (hlt : d' + 1 ≤ d) (kt : P → Ev E d M_X11_next 74 [vr a0, vi a1] [vi 1] (G0, cs) I' L' Z) (kf : ¬ P → Ev E d M_X11_next 74 [vr a0, vi a1] [vi 0] (G0, cs) I' L' Z) (hc1 : cs.1 ≤ M_X11_next.2.2.2.2.1 := by decide) (hc2 : cs.2 ≤ M_X11_next.2.2.2.2.2 := by decide) : Ev E d M_X11_next 71 [vr a0, vi a1] [vi b0] (G0, cs) I L Z := E_callS (as := [vi b0]) (rest := []) (n := 1) hM dX11_next_71 wM_RX11_110 wS_X11_isLetter hlt wC_X11_isLetter wI_X11 (by decide +kernel) rfl (by decide) (Nat.le_of_ble_eq_true rfl) hc1 hc2 rfl (fun r g' I2 L2 h => by obtain ⟨rfl, z, rfl, rfl, rfl, ⟨rfl, h⟩ | ⟨rfl, h⟩⟩ := h; exact kt h; exact kf h)
theorem t72_X11_next_74 {E : En} {d : Nat} {κ : Kp} {I L : MI} {Z : Zt} {a0 : Nat} {a1 b0 : Int} (hx : Ir b0) (kt : b0 = 0 → Ev E d M_X11_next 112 [vr a0, vi a1] [] κ I L Z) (kf : ¬ b0 = 0 → Ev E d M_X11_next 77 [vr a0, vi a1] [] κ I L Z) : Ev E d M_X11_next 74 [vr a0, vi a1] [vi b0] κ I L Z := E_if_eq dX11_next_74 hx kt kf (by decide)
theorem t72_X11_next_112 {E : En} {d : Nat} {κ : Kp} {I L : MI} {Z : Zt} {a0 : Nat} {a1 : Int}  (k : Ev E d M_X11_next 113 [vr a0, vi a1] [vi a1] κ I L Z) : Ev E d M_X11_next 112 [vr a0, vi a1] [] κ I L Z := E_iload_n dX11_next_112 rfl k
theorem t72_X11_next_113 {E : En} {d d' : Nat} {cs : Nat × Nat} {I L : MI} {Z : Zt} {a0 : Nat} {a1 b0 : Int} {P : Prop} {I' L' : MI} (hM : CB E d' M_X11_isFigure [vi b0] I L P I' L') (hlt : d' + 1 ≤ d) (kt : P → Ev E d M_X11_next 116 [vr a0, vi a1] [vi 1] (G0, cs) I' L' Z) (kf : ¬ P → Ev E d M_X11_next 116 [vr a0, vi a1] [vi 0] (G0, cs) I' L' Z) (hc1 : cs.1 ≤ M_X11_next.2.2.2.2.1 := by decide) (hc2 : cs.2 ≤ M_X11_next.2.2.2.2.2 := by decide) : Ev E d M_X11_next 113 [vr a0, vi a1] [vi b0] (G0, cs) I L Z := E_callS (as := [vi b0]) (rest := []) (n := 1) hM dX11_next_113 wM_RX11_113 wS_X11_isFigure hlt wC_X11_isFigure wI_X11 (by decide +kernel) rfl (by decide) (Nat.le_of_ble_eq_true rfl) hc1 hc2 rfl (fun r g' I2 L2 h => by obtain ⟨rfl, z, rfl, rfl, rfl, ⟨rfl, h⟩ | ⟨rfl, h⟩⟩ := h; exact kt h; exact kf h)
theorem t72_X11_next_116 {E : En} {d : Nat} {κ : Kp} {I L : MI} {Z : Zt} {a0 : Nat} {a1 b0 : Int} (hx : Ir b0) (kt : b0 = 0 → Ev E d M_X11_next 171 [vr a0, vi a1] [] κ I L Z) (kf : ¬ b0 = 0 → Ev E d M_X11_next 119 [vr a0, vi a1] [] κ I L Z) : Ev E d M_X11_next 116 [vr a0, vi a1] [vi b0] κ I L Z := E_if_eq dX11_next_116 hx kt kf (by decide)
theorem t72_X11_next_171 {E : En} {d : Nat} {κ : Kp} {I L : MI} {Z : Zt} {a0 : Nat} {a1 : Int}  (k : Ev E d M_X11_next 172 [vr a0, vi a1] [vr a0] κ I L Z) : Ev E d M_X11_next 171 [vr a0, vi a1] [] κ I L Z := E_aload_n dX11_next_171 rfl k
theorem t72_X11_next_172 {E : En} {d : Nat} {κ : Kp} {I L : MI} {Z : Zt} {a0 b0 : Nat} {a1 : Int}  (k : Ev E d M_X11_next 173 [vr a0, vi a1] [vr b0, vr b0] κ I L Z) : Ev E d M_X11_next 172 [vr a0, vi a1] [vr b0] κ I L Z := E_dup dX11_next_172 rfl k
theorem t72_X11_next_173 {E : En} {d : Nat} {κ : Kp} {I L : MI} {Z : Zt} {a0 b0 b1 : Nat} {a1 : Int} (hs : κ.1.1[b0]? = some (.inl 11)) (k : Ir (I b0 13) → Ev E d M_X11_next 176 [vr a0, vi a1] [vi (I b0 13), vr b1] κ I L Z) : Ev E d M_X11_next 173 [vr a0, vi a1] [vr b0, vr b1] κ I L Z := E_getI (ci := 11) (n := 13) dX11_next_173 wF_RX11_97 (by decide) hs rfl k
theorem t72_X11_next_176 {E : En} {d : Nat} {κ : Kp} {I L : MI} {Z : Zt} {a0 b1 : Nat} {a1 b0 : Int}  (k : Ev E d M_X11_next 177 [vr a0, vi a1] [vi 1, vi b0, vr b1] κ I L Z) : Ev E d M_X11_next 176 [vr a0, vi a1] [vi b0, vr b1] κ I L Z := E_iconst (v := 1) dX11_next_176 rfl k
theorem t72_X11_next_177 {E : En} {d : Nat} {κ : Kp} {I L : MI} {Z : Zt} {a0 b2 : Nat} {a1 b0 b1 : Int}  (k : Ev E d M_X11_next 178 [vr a0, vi a1] [vi (b1 + b0), vr b2] κ I L Z) : Ev E d M_X11_next 177 [vr a0, vi a1] [vi b0, vi b1, vr b2] κ I L Z := E_iadd dX11_next_177 k
theorem t72_X11_next_178 {E : En} {d : Nat} {κ : Kp} {I L : MI} {Z : Zt} {a0 b1 : Nat} {a1 b0 : Int} (hs : κ.1.1[b1]? = some (.inl 11)) (hz : Ir b0) (k : Ev E d M_X11_next 181 [vr a0, vi a1] [] κ (up2 I b1 13 b0) L Z) : Ev E d M_X11_next 178 [vr a0, vi a1] [vi b0, vr b1] κ I L Z := E_putI (ci := 11) (n := 13) dX11_next_178 wF_RX11_97 (by decide) hs rfl rfl hz k
theorem t72_X11_next_181 {E : En} {d : Nat} {κ : Kp} {I L : MI} {Z : Zt} {a0 : Nat} {a1 : Int}  (k : Ev E d M_X11_next 182 [vr a0, vi a1] [vr a0] κ I L Z) : Ev E d M_X11_next 181 [vr a0, vi a1] [] κ I L Z := E_aload_n dX11_next_181 rfl k
theorem t72_X11_next_182 {E : En} {d : Nat} {κ : Kp} {I L : MI} {Z : Zt} {a0 b0 : Nat} {a1 : Int}  (k : Ev E d M_X11_next 183 [vr a0, vi a1] [vi a1, vr b0] κ I L Z) : Ev E d M_X11_next 182 [vr a0, vi a1] [vr b0] κ I L Z := E_iload_n dX11_next_182 rfl k
theorem t72_X11_next_183 {E : En} {d : Nat} {κ : Kp} {I L : MI} {Z : Zt} {a0 b1 : Nat} {a1 b0 : Int}  (k : Ev E d M_X11_next 185 [vr a0, vi a1] [vi 59, vi b0, vr b1] κ I L Z) : Ev E d M_X11_next 183 [vr a0, vi a1] [vi b0, vr b1] κ I L Z := E_bipush (v := 59) dX11_next_183 rfl k
theorem t72_X11_next_185 {E : En} {d : Nat} {κ : Kp} {I L : MI} {Z : Zt} {a0 b2 : Nat} {a1 b0 b1 : Int} (hx : Ir b1) (hy : Ir b0) (kt : ¬ b1 = b0 → Ev E d M_X11_next 192 [vr a0, vi a1] [vr b2] κ I L Z) (kf : b1 = b0 → Ev E d M_X11_next 188 [vr a0, vi a1] [vr b2] κ I L Z) : Ev E d M_X11_next 185 [vr a0, vi a1] [vi b0, vi b1, vr b2] κ I L Z := E_icmp_ne dX11_next_185 hx hy kt kf (by decide)
theorem t72_X11_next_192 {E : En} {d : Nat} {κ : Kp} {I L : MI} {Z : Zt} {a0 b0 : Nat} {a1 : Int}  (k : Ev E d M_X11_next 193 [vr a0, vi a1] [vi 0, vr b0] κ I L Z) : Ev E d M_X11_next 192 [vr a0, vi a1] [vr b0] κ I L Z := E_iconst (v := 0) dX11_next_192 rfl k
theorem t72_X11_next_193 {E : En} {d : Nat} {κ : Kp} {I L : MI} {Z : Zt} {a0 b1 : Nat} {a1 b0 : Int} (hs : κ.1.1[b1]? = some (.inl 11)) (hz : Ir b0) (k : Ev E d M_X11_next 196 [vr a0, vi a1] [] κ (up2 I b1 14 b0) L Z) : Ev E d M_X11_next 193 [vr a0, vi a1] [vi b0, vr b1] κ I L Z := E_putI (ci := 11) (n := 14) dX11_next_193 wF_RX11_107 (by decide) hs rfl rfl hz k
theorem t72_X11_next_188 {E : En} {d : Nat} {κ : Kp} {I L : MI} {Z : Zt} {a0 b0 : Nat} {a1 : Int}  (k : Ev E d M_X11_next 189 [vr a0, vi a1] [vi 4, vr b0] κ I L Z) : Ev E d M_X11_next 188 [vr a0, vi a1] [vr b0] κ I L Z := E_iconst (v := 4) dX11_next_188 rfl k
theorem t72_X11_next_189 {E : En} {d : Nat} {κ : Kp} {I L : MI} {Z : Zt} {a0 b1 : Nat} {a1 b0 : Int}  (k : Ev E d M_X11_next 193 [vr a0, vi a1] [vi b0, vr b1] κ I L Z) : Ev E d M_X11_next 189 [vr a0, vi a1] [vi b0, vr b1] κ I L Z := E_goto dX11_next_189 (by decide) k
theorem t72_X11_next_62 {E : En} {d : Nat} {κ : Kp} {I L : MI} {Z : Zt} {a0 : Nat} {a1 : Int}  (k : Ev E d M_X11_next 63 [vr a0, vi a1] [vr a0] κ I L Z) : Ev E d M_X11_next 62 [vr a0, vi a1] [] κ I L Z := E_aload_n dX11_next_62 rfl k
theorem t72_X11_next_63 {E : En} {d : Nat} {κ : Kp} {I L : MI} {Z : Zt} {a0 b0 : Nat} {a1 : Int}  (k : Ev E d M_X11_next 64 [vr a0, vi a1] [vi 1, vr b0] κ I L Z) : Ev E d M_X11_next 63 [vr a0, vi a1] [vr b0] κ I L Z := E_iconst (v := 1) dX11_next_63 rfl k
theorem t72_X11_next_64 {E : En} {d : Nat} {κ : Kp} {I L : MI} {Z : Zt} {a0 b1 : Nat} {a1 b0 : Int} (hs : κ.1.1[b1]? = some (.inl 11)) (hz : Ir b0) (k : Ev E d M_X11_next 67 [vr a0, vi a1] [] κ (up2 I b1 14 b0) L Z) : Ev E d M_X11_next 64 [vr a0, vi a1] [vi b0, vr b1] κ I L Z := E_putI (ci := 11) (n := 14) dX11_next_64 wF_RX11_107 (by decide) hs rfl rfl hz k
theorem t72_X11_next_67 {E : En} {d : Nat} {κ : Kp} {I L : MI} {Z : Zt} {a0 : Nat} {a1 : Int}  (k : Ev E d M_X11_next 196 [vr a0, vi a1] [] κ I L Z) : Ev E d M_X11_next 67 [vr a0, vi a1] [] κ I L Z := E_goto dX11_next_67 (by decide) k
theorem t72_X11_next_0 {E : En} {d : Nat} {κ : Kp} {I L : MI} {Z : Zt} {a0 : Nat}  (k : Ev E d M_X11_next 1 [vr a0, vu] [vr a0] κ I L Z) : Ev E d M_X11_next 0 [vr a0, vu] [] κ I L Z := E_aload_n dX11_next_0 rfl k
theorem t72_X11_next_1 {E : En} {d : Nat} {κ : Kp} {I L : MI} {Z : Zt} {a0 b0 : Nat}  (k : Ev E d M_X11_next 2 [vr a0, vu] [vr a0, vr b0] κ I L Z) : Ev E d M_X11_next 1 [vr a0, vu] [vr b0] κ I L Z := E_aload_n dX11_next_1 rfl k
theorem t72_X11_next_2 {E : En} {d : Nat} {κ : Kp} {I L : MI} {Z : Zt} {a0 b0 b1 : Nat} (hs : κ.1.1[b0]? = some (.inl 11)) (k : Ir (I b0 13) → Ev E d M_X11_next 5 [vr a0, vu] [vi (I b0 13), vr b1] κ I L Z) : Ev E d M_X11_next 2 [vr a0, vu] [vr b0, vr b1] κ I L Z := E_getI (ci := 11) (n := 13) dX11_next_2 wF_RX11_97 (by decide) hs rfl k
theorem t72_X11_next_5 {E : En} {d d' : Nat} {cs : Nat × Nat} {I L : MI} {Z : Zt} {a0 b1 : Nat} {b0 : Int} {z : Int} {I' L' : MI} (hs : G0.1[b1]? = some (.inl 11)) (hM : CFi E d' M_X11_byteAt [vr b1, vi b0] I L z I' L') (hlt : d' + 1 ≤ d) (k : Ir z → Ev E d M_X11_next 8 [vr a0, vu] [vi z] (G0, cs) I' L' Z) (hc1 : cs.1 ≤ M_X11_next.2.2.2.2.1 := by decide) (hc2 : cs.2 ≤ M_X11_next.2.2.2.2.2 := by decide) : Ev E d M_X11_next 5 [vr a0, vu] [vi b0, vr b1] (G0, cs) I L Z := E_callV (as := [vi b0]) (rest := []) (n := 1) hM dX11_next_5 wM_RX11_100 wS_X11_byteAt wV_X11_byteAt hs (by decide) rfl hlt wC_X11_byteAt wI_X11 (by decide +kernel) rfl (by decide) (Nat.le_of_ble_eq_true rfl) hc1 hc2 rfl (fun r g' I2 L2 h => by obtain ⟨rfl, z, rfl, hr, rfl, rfl, rfl⟩ := h; exact k hr)
theorem t72_X11_next_8 {E : En} {d : Nat} {κ : Kp} {I L : MI} {Z : Zt} {a0 : Nat} {b0 : Int}  (k : Ev E d M_X11_next 10 [vr a0, vu] [vi 32, vi b0] κ I L Z) : Ev E d M_X11_next 8 [vr a0, vu] [vi b0] κ I L Z := E_bipush (v := 32) dX11_next_8 rfl k
theorem t72_X11_next_10 {E : En} {d : Nat} {κ : Kp} {I L : MI} {Z : Zt} {a0 : Nat} {b0 b1 : Int} (hx : Ir b1) (hy : Ir b0) (kt : b1 = b0 → Ev E d M_X11_next 26 [vr a0, vu] [] κ I L Z) (kf : ¬ b1 = b0 → Ev E d M_X11_next 13 [vr a0, vu] [] κ I L Z) : Ev E d M_X11_next 10 [vr a0, vu] [vi b0, vi b1] κ I L Z := E_icmp_eq dX11_next_10 hx hy kt kf (by decide)
theorem t72_X11_next_26 {E : En} {d : Nat} {κ : Kp} {I L : MI} {Z : Zt} {a0 : Nat}  (k : Ev E d M_X11_next 27 [vr a0, vu] [vr a0] κ I L Z) : Ev E d M_X11_next 26 [vr a0, vu] [] κ I L Z := E_aload_n dX11_next_26 rfl k
theorem t72_X11_next_27 {E : En} {d : Nat} {κ : Kp} {I L : MI} {Z : Zt} {a0 b0 : Nat}  (k : Ev E d M_X11_next 28 [vr a0, vu] [vr b0, vr b0] κ I L Z) : Ev E d M_X11_next 27 [vr a0, vu] [vr b0] κ I L Z := E_dup dX11_next_27 rfl k
theorem t72_X11_next_28 {E : En} {d : Nat} {κ : Kp} {I L : MI} {Z : Zt} {a0 b0 b1 : Nat} (hs : κ.1.1[b0]? = some (.inl 11)) (k : Ir (I b0 13) → Ev E d M_X11_next 31 [vr a0, vu] [vi (I b0 13), vr b1] κ I L Z) : Ev E d M_X11_next 28 [vr a0, vu] [vr b0, vr b1] κ I L Z := E_getI (ci := 11) (n := 13) dX11_next_28 wF_RX11_97 (by decide) hs rfl k
theorem t72_X11_next_31 {E : En} {d : Nat} {κ : Kp} {I L : MI} {Z : Zt} {a0 b1 : Nat} {b0 : Int}  (k : Ev E d M_X11_next 32 [vr a0, vu] [vi 1, vi b0, vr b1] κ I L Z) : Ev E d M_X11_next 31 [vr a0, vu] [vi b0, vr b1] κ I L Z := E_iconst (v := 1) dX11_next_31 rfl k
theorem t72_X11_next_32 {E : En} {d : Nat} {κ : Kp} {I L : MI} {Z : Zt} {a0 b2 : Nat} {b0 b1 : Int}  (k : Ev E d M_X11_next 33 [vr a0, vu] [vi (b1 + b0), vr b2] κ I L Z) : Ev E d M_X11_next 32 [vr a0, vu] [vi b0, vi b1, vr b2] κ I L Z := E_iadd dX11_next_32 k
theorem t72_X11_next_33 {E : En} {d : Nat} {κ : Kp} {I L : MI} {Z : Zt} {a0 b1 : Nat} {b0 : Int} (hs : κ.1.1[b1]? = some (.inl 11)) (hz : Ir b0) (k : Ev E d M_X11_next 36 [vr a0, vu] [] κ (up2 I b1 13 b0) L Z) : Ev E d M_X11_next 33 [vr a0, vu] [vi b0, vr b1] κ I L Z := E_putI (ci := 11) (n := 13) dX11_next_33 wF_RX11_97 (by decide) hs rfl rfl hz k
theorem t72_X11_next_36 {E : En} {d : Nat} {κ : Kp} {I L : MI} {Z : Zt} {a0 : Nat}  (k : Ev E d M_X11_next 0 [vr a0, vu] [] κ I L Z) : Ev E d M_X11_next 36 [vr a0, vu] [] κ I L Z := E_goto dX11_next_36 (by decide) k
theorem t72_X11_next_13 {E : En} {d : Nat} {κ : Kp} {I L : MI} {Z : Zt} {a0 : Nat}  (k : Ev E d M_X11_next 14 [vr a0, vu] [vr a0] κ I L Z) : Ev E d M_X11_next 13 [vr a0, vu] [] κ I L Z := E_aload_n dX11_next_13 rfl k
theorem t72_X11_next_14 {E : En} {d : Nat} {κ : Kp} {I L : MI} {Z : Zt} {a0 b0 : Nat}  (k : Ev E d M_X11_next 15 [vr a0, vu] [vr a0, vr b0] κ I L Z) : Ev E d M_X11_next 14 [vr a0, vu] [vr b0] κ I L Z := E_aload_n dX11_next_14 rfl k
theorem t72_X11_next_15 {E : En} {d : Nat} {κ : Kp} {I L : MI} {Z : Zt} {a0 b0 b1 : Nat} (hs : κ.1.1[b0]? = some (.inl 11)) (k : Ir (I b0 13) → Ev E d M_X11_next 18 [vr a0, vu] [vi (I b0 13), vr b1] κ I L Z) : Ev E d M_X11_next 15 [vr a0, vu] [vr b0, vr b1] κ I L Z := E_getI (ci := 11) (n := 13) dX11_next_15 wF_RX11_97 (by decide) hs rfl k
theorem t72_X11_next_18 {E : En} {d d' : Nat} {cs : Nat × Nat} {I L : MI} {Z : Zt} {a0 b1 : Nat} {b0 : Int} {z : Int} {I' L' : MI} (hs : G0.1[b1]? = some (.inl 11)) (hM : CFi E d' M_X11_byteAt [vr b1, vi b0] I L z I' L') (hlt : d' + 1 ≤ d) (k : Ir z → Ev E d M_X11_next 21 [vr a0, vu] [vi z] (G0, cs) I' L' Z) (hc1 : cs.1 ≤ M_X11_next.2.2.2.2.1 := by decide) (hc2 : cs.2 ≤ M_X11_next.2.2.2.2.2 := by decide) : Ev E d M_X11_next 18 [vr a0, vu] [vi b0, vr b1] (G0, cs) I L Z := E_callV (as := [vi b0]) (rest := []) (n := 1) hM dX11_next_18 wM_RX11_100 wS_X11_byteAt wV_X11_byteAt hs (by decide) rfl hlt wC_X11_byteAt wI_X11 (by decide +kernel) rfl (by decide) (Nat.le_of_ble_eq_true rfl) hc1 hc2 rfl (fun r g' I2 L2 h => by obtain ⟨rfl, z, rfl, hr, rfl, rfl, rfl⟩ := h; exact k hr)
theorem t72_X11_next_21 {E : En} {d : Nat} {κ : Kp} {I L : MI} {Z : Zt} {a0 : Nat} {b0 : Int}  (k : Ev E d M_X11_next 23 [vr a0, vu] [vi 10, vi b0] κ I L Z) : Ev E d M_X11_next 21 [vr a0, vu] [vi b0] κ I L Z := E_bipush (v := 10) dX11_next_21 rfl k
theorem t72_X11_next_23 {E : En} {d : Nat} {κ : Kp} {I L : MI} {Z : Zt} {a0 : Nat} {b0 b1 : Int} (hx : Ir b1) (hy : Ir b0) (kt : ¬ b1 = b0 → Ev E d M_X11_next 39 [vr a0, vu] [] κ I L Z) (kf : b1 = b0 → Ev E d M_X11_next 26 [vr a0, vu] [] κ I L Z) : Ev E d M_X11_next 23 [vr a0, vu] [vi b0, vi b1] κ I L Z := E_icmp_ne dX11_next_23 hx hy kt kf (by decide)
/-! THE REFERENCE READS: bytes, tokens -/
def TpR (I : MI) (B : Int → Int) (n : Int) : Prop := (0 ≤ n ∧ n ≤ 400) ∧ (∀ k, 0 ≤ k → k < n → I 85 k = B k ∧ 0 ≤ B k ∧ B k ≤ 255) ∧ ∀ k, n ≤ k → B k = -1
def bxF (B : Int → Int) (n k : Int) : Int := if k < n then B k else -1000000
theorem bx_ty {I : MI} {B : Int → Int} {n : Int} (h : TpR I B n) {k : Int} (hk : 0 ≤ k) : ((bxF B n k = 32 ∨ bxF B n k = 10) ↔ tyP (B k) = 1) ∧ (bxF B n k = -1000000 ↔ tyP (B k) = 0) ∧ ((97 ≤ bxF B n k ∧ bxF B n k ≤ 122) ↔ tyP (B k) = 2) ∧ ((48 ≤ bxF B n k ∧ bxF B n k ≤ 57) ↔ tyP (B k) = 3) ∧ (bxF B n k = 59 ↔ tyP (B k) = 4) ∧ (tyP (B k) ≠ 0 → k < n ∧ k < 400) ∧ (-1000000 ≤ bxF B n k ∧ bxF B n k ≤ 255) := by
  unfold bxF
  by_cases q : k < n
  · have h1 := h.2.1 k hk q
    have h2 := h.1
    rw [if_pos q]
    unfold tyP
    rw [if_neg (by omega)]
    generalize B k = b at *
    by_cases a1 : b = 32 ∨ b = 10
    · rw [if_pos a1]; omega
    · rw [if_neg a1]
      by_cases a2 : 97 ≤ b ∧ b ≤ 122
      · rw [if_pos a2]; omega
      · rw [if_neg a2]
        by_cases a3 : 48 ≤ b ∧ b ≤ 57
        · rw [if_pos a3]; omega
        · rw [if_neg a3]
          by_cases a4 : b = 59
          · rw [if_pos a4]; omega
          · rw [if_neg a4]; omega
  · rw [if_neg q, h.2.2 k (by omega)]
    have : tyP (-1) = 0 := by decide
    rw [this]
    omega
theorem c_X11_byteAt {E : En} {I L : MI} {B : Int → Int} {n k : Int} (hn : I 78 12 = n) (h : TpR I B n) (hk : 0 ≤ k ∧ k ≤ 1000) : CFi E 1 M_X11_byteAt [vr 78, vi k] I L (bxF B n k) I L := by
  have g85 : G0.1[85]? = some (.inr (0, 400)) := rfl
  have h1 := h.1
  refine CM_of' (al := [vr _, vi _]) rfl (Nat.le_of_ble_eq_true rfl) rfl (fun hM => ?_)
  refine (t72_X11_byteAt_0 (t72_X11_byteAt_1 (t72_X11_byteAt_2 (by first | assumption | rfl) (fun r2 => (t72_X11_byteAt_5 (by omega) (by omega) (fun c5 => (t72_X11_byteAt_17 (t72_X11_byteAt_19 ?_))) (fun c5 => (t72_X11_byteAt_8 (t72_X11_byteAt_9 (by first | assumption | rfl) (by first | assumption | rfl) (t72_X11_byteAt_12 (t72_X11_byteAt_13 (by first | assumption | rfl) (by omega) (by omega) (by omega) (fun r13 => (t72_X11_byteAt_14 (t72_X11_byteAt_19 ?_)))))))))))))
  -- 2 leaves: 5t :ret19 | 5f :ret19
  · exact qfi (by decide) (by unfold bxF; rw [if_neg (by omega)])
  · exact qfi (by omega) (by unfold bxF; rw [if_pos (by omega)]; exact (h.2.1 k hk.1 (by omega)).1)
theorem c_X11_isLetter {E : En} {I L : MI} {k : Int} (hk : Ir k := by omega) : CB E 1 M_X11_isLetter [vi k] I L (97 ≤ k ∧ k ≤ 122) I L := by
  refine CM_of' (al := [vi _]) rfl (Nat.le_of_ble_eq_true rfl) rfl (fun hM => ?_)
  refine (t72_X11_isLetter_0 (t72_X11_isLetter_1 (t72_X11_isLetter_3 (by omega) (by omega) (fun c3 => (t72_X11_isLetter_16 (t72_X11_isLetter_17 (by first | exact Or.inl rfl | exact Or.inr rfl | assumption | omega) ?_))) (fun c3 => (t72_X11_isLetter_6 (t72_X11_isLetter_7 (t72_X11_isLetter_9 (by omega) (by omega) (fun c9 => (t72_X11_isLetter_16 (t72_X11_isLetter_17 (by first | exact Or.inl rfl | exact Or.inr rfl | assumption | omega) ?_))) (fun c9 => (t72_X11_isLetter_12 (t72_X11_isLetter_13 (t72_X11_isLetter_17 (by first | exact Or.inl rfl | exact Or.inr rfl | assumption | omega) ?_)))))))))))
  -- 3 leaves: 3t :ret17 | 3f 9t :ret17 | 3f 9f :ret17
  all_goals first | exact qb1 (by omega) | exact qb0 (by omega)
theorem c_X11_isFigure {E : En} {I L : MI} {k : Int} (hk : Ir k := by omega) : CB E 1 M_X11_isFigure [vi k] I L (48 ≤ k ∧ k ≤ 57) I L := by
  refine CM_of' (al := [vi _]) rfl (Nat.le_of_ble_eq_true rfl) rfl (fun hM => ?_)
  refine (t72_X11_isFigure_0 (t72_X11_isFigure_1 (t72_X11_isFigure_3 (by omega) (by omega) (fun c3 => (t72_X11_isFigure_16 (t72_X11_isFigure_17 (by first | exact Or.inl rfl | exact Or.inr rfl | assumption | omega) ?_))) (fun c3 => (t72_X11_isFigure_6 (t72_X11_isFigure_7 (t72_X11_isFigure_9 (by omega) (by omega) (fun c9 => (t72_X11_isFigure_16 (t72_X11_isFigure_17 (by first | exact Or.inl rfl | exact Or.inr rfl | assumption | omega) ?_))) (fun c9 => (t72_X11_isFigure_12 (t72_X11_isFigure_13 (t72_X11_isFigure_17 (by first | exact Or.inl rfl | exact Or.inr rfl | assumption | omega) ?_)))))))))))
  -- 3 leaves: 3t :ret17 | 3f 9t :ret17 | 3f 9f :ret17
  all_goals first | exact qb1 (by omega) | exact qb0 (by omega)
def rkF (k : Int) : Int := if k = 0 then 1 else if k = 5 then 0 else k
/-- the registers hold the token that is read from e on -/
def TkR (I : MI) (B : Int → Int) (e : Int) : Prop := I 78 15 = nxB B e ∧ I 78 14 = rkF (nxK B e) ∧ ((nxK B e = 2 ∨ nxK B e = 3 ∨ nxK B e = 4) → I 78 13 = nxE B e ∧ I 78 16 = nxE B e) ∧ (0 ≤ I 78 16 ∧ I 78 16 ≤ 1000)
def RFm (I J : MI) : Prop := (∀ o, o ≠ 78 → ∀ k, J o k = I o k) ∧ ∀ k, k < 13 ∨ 16 < k → J 78 k = I 78 k
theorem RFm_r (I : MI) : RFm I I := ⟨fun o _ k => rfl, fun k _ => rfl⟩
theorem RFm_t {I J K : MI} (h : RFm I J) (g : RFm J K) : RFm I K := ⟨fun o o1 k => (g.1 o o1 k).trans (h.1 o o1 k), fun k hk => (g.2 k hk).trans (h.2 k hk)⟩
theorem RFm_u {I J : MI} (h : RFm I J) {k z : Int} (hk : 13 ≤ k ∧ k ≤ 16) : RFm I (up2 J 78 k z) := ⟨fun o o1 j => by rw [up2_ne (.inl o1)]; exact h.1 o o1 j, fun j hj => by rw [up2_ne (.inr (by omega))]; exact h.2 j hj⟩
theorem TpR_f {I J : MI} {B : Int → Int} {n : Int} (h : TpR I B n) (f : RFm I J) : TpR J B n := ⟨h.1, fun k k0 k1 => by rw [f.1 85 (by decide)]; exact h.2.1 k k0 k1, h.2.2⟩
def rNxQ (I L : MI) (B : Int → Int) (e : Int) : MI → MI → Prop := fun I' L' => L' = L ∧ RFm I I' ∧ TkR I' B e
theorem runP_s {B : Int → Int} {t : Int} {f : Nat} {i : Int} (h : i < 400 ∧ tyP (B i) = t) : runP B t (f + 1) i = runP B t f (i + 1) := by
  conv => lhs; unfold runP
  rw [if_pos h]
theorem runP_x {B : Int → Int} {t : Int} {i : Int} (h : ¬ (i < 400 ∧ tyP (B i) = t)) : ∀ f : Nat, runP B t f i = i := fun f => by
  cases f with
  | zero => rfl
  | succ f => unfold runP; rw [if_neg h]
theorem c_X11_next {E : En} {I L : MI} {B : Int → Int} {n e : Int} (hn : I 78 12 = n) (h : TpR I B n) (hc : I 78 13 = e) (he : 0 ≤ e ∧ e ≤ 400) : CQv E 3 M_X11_next [vr 78] I L (rNxQ I L B e) := by
  have nb := h.1
  have b1 := runP_b (B := B) (t := 1) 401 e he.2
  have hB : nxB B e = runP B 1 401 e := rfl
  have x1 := runP_e (B := B) (t := 1) 401 e (by omega)
  rw [← hB] at b1 x1
  have ty := bx_ty h (k := nxB B e) (by omega)
  have b2 := runP_b (B := B) (t := tyP (B (nxB B e))) 401 (nxB B e) b1.2
  refine CM_of' (al := [vr _, vu]) rfl (Nat.le_of_ble_eq_true rfl) rfl (fun hM => ?_)
  have tail : ∀ (I1 : MI) (w : Int), RFm I I1 → I1 78 15 = nxB B e → I1 78 14 = rkF (nxK B e) → ((nxK B e = 2 ∨ nxK B e = 3 ∨ nxK B e = 4) → I1 78 13 = nxE B e) → 0 ≤ I1 78 13 → I1 78 13 ≤ 1000 → Ev E 3 M_X11_next 196 [vr 78, vi w] [] (G0, 0, 0) I1 L (ZQ E M_X11_next (QQv (rNxQ I L B e))) := by
    intro I1 w f1 e1 e2 e3 e4 e5
    refine (t72_X11_next_196 (t72_X11_next_197 (t72_X11_next_198 (by first | assumption | rfl) (fun r198 => (t72_X11_next_201 (by first | assumption | rfl) (by omega) (t72_X11_next_204 ?_))))))
    -- 1 leaves: :ret204
    refine qqv ⟨rfl, RFm_u f1 ⟨by decide, by decide⟩, ?_, ?_, fun q => ⟨?_, ?_⟩, ?_⟩
    · rw [up2_ne (.inr (by decide))]; exact e1
    · rw [up2_ne (.inr (by decide))]; exact e2
    · rw [up2_ne (.inr (by decide))]; exact e3 q
    · rw [up2_eq]; exact e3 q
    · rw [up2_eq]; exact ⟨e4, e5⟩
  have letters : ∀ (f : Nat) (c w : Int) (I1 : MI), 400 - c < f → nxB B e ≤ c → c ≤ 400 → RFm I I1 → I1 78 15 = nxB B e → I1 78 13 = c → tyP (B (nxB B e)) = 2 → runP B 2 f c = runP B 2 401 (nxB B e) → Ev E 3 M_X11_next 77 [vr 78, vi w] [] (G0, 0, 0) I1 L (ZQ E M_X11_next (QQv (rNxQ I L B e))) := by
    intro f
    induction f with
    | zero => intro c w I1 h1 h2 h3; omega
    | succ f ih =>
      intro c w I1 h1 h2 h3 f1 e1 e2 ht hr
      have tc := bx_ty h (k := c) (by omega)
      have ek : nxK B e = 2 := by unfold nxK; rw [ht, if_neg (by omega)]
      have eE : nxE B e = runP B 2 401 (nxB B e) := by unfold nxE; rw [ht, if_pos (.inl rfl)]
      refine (t72_X11_next_77 (t72_X11_next_78 (t72_X11_next_79 (by first | assumption | rfl) (fun r79 => (t72_X11_next_82 (by first | assumption | rfl) ((c_X11_byteAt (B := B) (n := n) (by rw [f1.2 12 (by omega)]; exact hn) (TpR_f h f1) (by omega))) (by first | decide | omega) (fun r82 => (t72_X11_next_85 c_X11_isLetter (by first | decide | omega) (fun c85 => (t72_X11_next_88 (by decide) (fun h => absurd h (by decide)) (fun _ => (t72_X11_next_91 (t72_X11_next_92 (t72_X11_next_93 (by first | assumption | rfl) (fun r93 => (t72_X11_next_96 (t72_X11_next_97 (t72_X11_next_98 (by first | assumption | rfl) (by omega) (t72_X11_next_101 ?_))))))))))) (fun c85 => (t72_X11_next_88 (by decide) (fun _ => ?_) (fun h => absurd rfl h))))))))))
      -- 2 leaves: 85T :->77 | 85F :->104
      · rw [e2] at c85
        have t2 := tc.2.2.1.mp c85
        have tl := tc.2.2.2.2.2.1 (by omega)
        refine ih (c + 1) w _ (by omega) (by omega) (by omega) (RFm_u f1 ⟨by decide, by decide⟩) (by rw [up2_ne (.inr (by decide))]; exact e1) (by rw [up2_eq, e2]) ht ?_
        rw [← hr, runP_s ⟨tl.2, t2⟩]
      · rw [e2] at c85
        rw [runP_x (fun q => c85 (tc.2.2.1.mpr q.2))] at hr
        refine (t72_X11_next_104 (t72_X11_next_105 (t72_X11_next_106 (by first | assumption | rfl) (by omega) (t72_X11_next_109 ?_))))
        -- 1 leaves: :->196
        exact tail _ w (RFm_u f1 ⟨by decide, by decide⟩) (by rw [up2_ne (.inr (by decide))]; exact e1) (by rw [up2_eq, ek]; rfl) (fun _ => by rw [up2_ne (.inr (by decide)), e2, eE]; exact hr) (by rw [up2_ne (.inr (by decide))]; omega) (by rw [up2_ne (.inr (by decide))]; omega)
  have figs : ∀ (f : Nat) (c w : Int) (I1 : MI), 400 - c < f → nxB B e ≤ c → c ≤ 400 → RFm I I1 → I1 78 15 = nxB B e → I1 78 13 = c → tyP (B (nxB B e)) = 3 → runP B 3 f c = runP B 3 401 (nxB B e) → Ev E 3 M_X11_next 119 [vr 78, vi w] [] (G0, 0, 0) I1 L (ZQ E M_X11_next (QQv (rNxQ I L B e))) := by
    intro f
    induction f with
    | zero => intro c w I1 h1 h2 h3; omega
    | succ f ih =>
      intro c w I1 h1 h2 h3 f1 e1 e2 ht hr
      have tc := bx_ty h (k := c) (by omega)
      have eE : nxE B e = runP B 3 401 (nxB B e) := by unfold nxE; rw [ht, if_pos (.inr rfl)]
      have ek : nxK B e = if nxE B e - nxB B e > 3 then 5 else 3 := by
        unfold nxK
        rw [ht]
        by_cases q : nxE B e - nxB B e > 3
        · rw [if_pos ⟨rfl, q⟩, if_pos q]
        · rw [if_neg (fun z => q z.2), if_neg q]
      refine (t72_X11_next_119 (t72_X11_next_120 (t72_X11_next_121 (by first | assumption | rfl) (fun r121 => (t72_X11_next_124 (by first | assumption | rfl) ((c_X11_byteAt (B := B) (n := n) (by rw [f1.2 12 (by omega)]; exact hn) (TpR_f h f1) (by omega))) (by first | decide | omega) (fun r124 => (t72_X11_next_127 c_X11_isFigure (by first | decide | omega) (fun c127 => (t72_X11_next_130 (by decide) (fun h => absurd h (by decide)) (fun _ => (t72_X11_next_133 (t72_X11_next_134 (t72_X11_next_135 (by first | assumption | rfl) (fun r135 => (t72_X11_next_138 (t72_X11_next_139 (t72_X11_next_140 (by first | assumption | rfl) (by omega) (t72_X11_next_143 ?_))))))))))) (fun c127 => (t72_X11_next_130 (by decide) (fun _ => ?_) (fun h => absurd rfl h))))))))))
      -- 2 leaves: 127T :->119 | 127F :->146
      · rw [e2] at c127
        have t2 := tc.2.2.2.1.mp c127
        have tl := tc.2.2.2.2.2.1 (by omega)
        refine ih (c + 1) w _ (by omega) (by omega) (by omega) (RFm_u f1 ⟨by decide, by decide⟩) (by rw [up2_ne (.inr (by decide))]; exact e1) (by rw [up2_eq, e2]) ht ?_
        rw [← hr, runP_s ⟨tl.2, t2⟩]
      · rw [e2] at c127
        rw [runP_x (fun q => c127 (tc.2.2.2.1.mpr q.2))] at hr
        refine (t72_X11_next_146 (t72_X11_next_147 (t72_X11_next_148 (by first | assumption | rfl) (fun r148 => (t72_X11_next_151 (t72_X11_next_152 (by first | assumption | rfl) (fun r152 => (t72_X11_next_155 (t72_X11_next_156 (t72_X11_next_157 (by omega) (by omega) (fun c157 => (t72_X11_next_164 (t72_X11_next_165 (by first | assumption | rfl) (by omega) (t72_X11_next_168 ?_)))) (fun c157 => (t72_X11_next_160 (t72_X11_next_161 (t72_X11_next_165 (by first | assumption | rfl) (by omega) (t72_X11_next_168 ?_)))))))))))))))
        -- 2 leaves: 157t :->196 | 157f :->196
        · exact tail _ w (RFm_u f1 ⟨by decide, by decide⟩) (by rw [up2_ne (.inr (by decide))]; exact e1) (by rw [up2_eq, ek, if_neg (by omega)]; rfl) (fun _ => by rw [up2_ne (.inr (by decide)), e2, eE]; exact hr) (by rw [up2_ne (.inr (by decide))]; omega) (by rw [up2_ne (.inr (by decide))]; omega)
        · exact tail _ w (RFm_u f1 ⟨by decide, by decide⟩) (by rw [up2_ne (.inr (by decide))]; exact e1) (by rw [up2_eq, ek, if_pos (by omega)]; rfl) (fun _ => by rw [up2_ne (.inr (by decide)), e2, eE]; exact hr) (by rw [up2_ne (.inr (by decide))]; omega) (by rw [up2_ne (.inr (by decide))]; omega)
  have token : ∀ (I1 : MI) (x : AV), RFm I I1 → I1 78 13 = nxB B e → Ev E 3 M_X11_next 39 [vr 78, vu] [] (G0, 0, 0) I1 L (ZQ E M_X11_next (QQv (rNxQ I L B e))) := by
    intro I1 x f1 e2
    refine (t72_X11_next_39 (t72_X11_next_40 (t72_X11_next_41 (by first | assumption | rfl) (fun r41 => (t72_X11_next_44 (by first | assumption | rfl) (by omega) ?_)))))
    -- 1 leaves: :->47
    have f2 : RFm I (up2 I1 78 15 (I1 78 13)) := RFm_u f1 ⟨by decide, by decide⟩
    have e3 : up2 I1 78 15 (I1 78 13) 78 13 = nxB B e := by rw [up2_ne (.inr (by decide))]; exact e2
    have e1 : up2 I1 78 15 (I1 78 13) 78 15 = nxB B e := by rw [up2_eq]; exact e2
    generalize up2 I1 78 15 (I1 78 13) = I2 at *
    refine (t72_X11_next_47 (t72_X11_next_48 (t72_X11_next_49 (by first | assumption | rfl) (fun r49 => (t72_X11_next_52 (by first | assumption | rfl) ((c_X11_byteAt (B := B) (n := n) (by rw [f2.2 12 (by omega)]; exact hn) (TpR_f h f2) (by omega))) (by first | decide | omega) (fun r52 => (t72_X11_next_55 (t72_X11_next_56 (t72_X11_next_57 (t72_X11_next_59 (by omega) (by omega) (fun c59 => (t72_X11_next_70 (t72_X11_next_71 c_X11_isLetter (by first | decide | omega) (fun c71 => (t72_X11_next_74 (by decide) (fun h => absurd h (by decide)) (fun _ => ?_))) (fun c71 => (t72_X11_next_74 (by decide) (fun _ => (t72_X11_next_112 (t72_X11_next_113 c_X11_isFigure (by first | decide | omega) (fun c113 => (t72_X11_next_116 (by decide) (fun h => absurd h (by decide)) (fun _ => ?_))) (fun c113 => (t72_X11_next_116 (by decide) (fun _ => (t72_X11_next_171 (t72_X11_next_172 (t72_X11_next_173 (by first | assumption | rfl) (fun r173 => (t72_X11_next_176 (t72_X11_next_177 (t72_X11_next_178 (by first | assumption | rfl) (by omega) (t72_X11_next_181 (t72_X11_next_182 (t72_X11_next_183 (t72_X11_next_185 (by omega) (by omega) (fun c185 => (t72_X11_next_192 (t72_X11_next_193 (by first | assumption | rfl) (by omega) ?_))) (fun c185 => (t72_X11_next_188 (t72_X11_next_189 (t72_X11_next_193 (by first | assumption | rfl) (by omega) ?_)))))))))))))))) (fun h => absurd rfl h)))))) (fun h => absurd rfl h)))))) (fun c59 => (t72_X11_next_62 (t72_X11_next_63 (t72_X11_next_64 (by first | assumption | rfl) (by omega) (t72_X11_next_67 ?_)))))))))))))))
    -- 5 leaves: 59t 71T :->77 | 59t 71F 113T :->119 | 59t 71F 113F 185t :->196 | 59t 71F 113F 185f :->196 | 59f :->196
    · rw [e3] at c71 ⊢
      exact letters 401 (nxB B e) _ I2 (by omega) (by omega) (by omega) f2 e1 e3 (ty.2.2.1.mp c71) rfl
    · rw [e3] at c113 ⊢
      exact figs 401 (nxB B e) _ I2 (by omega) (by omega) (by omega) f2 e1 e3 (ty.2.2.2.1.mp c113) rfl
    · rw [e3] at c59 c71 c113 c185
      have t5 : tyP (B (nxB B e)) = 5 := by
        have r := tyP_r (B (nxB B e))
        have n0 : tyP (B (nxB B e)) ≠ 0 := fun q => c59 (ty.2.1.mpr q)
        have n1 : tyP (B (nxB B e)) ≠ 1 := fun q => x1 ⟨(ty.2.2.2.2.2.1 n0).2, q⟩
        have n2 : tyP (B (nxB B e)) ≠ 2 := fun q => c71 (ty.2.2.1.mpr q)
        have n3 : tyP (B (nxB B e)) ≠ 3 := fun q => c113 (ty.2.2.2.1.mpr q)
        have n4 : tyP (B (nxB B e)) ≠ 4 := fun q => c185 (ty.2.2.2.2.1.mpr q)
        omega
      have ek : nxK B e = 5 := by unfold nxK; rw [t5, if_neg (by omega)]
      exact tail _ _ (RFm_u (RFm_u f2 ⟨by decide, by decide⟩) ⟨by decide, by decide⟩) (by rw [up2_ne (.inr (by decide)), up2_ne (.inr (by decide))]; exact e1) (by rw [up2_eq, ek]; rfl) (fun q => by omega) (by rw [up2_ne (.inr (by decide)), up2_eq]; omega) (by rw [up2_ne (.inr (by decide)), up2_eq]; omega)
    · rw [e3] at c185
      have t4 := ty.2.2.2.2.1.mp c185
      have ek : nxK B e = 4 := by unfold nxK; rw [t4, if_neg (by omega)]
      have eE : nxE B e = nxB B e + 1 := by unfold nxE; rw [t4, if_neg (by omega), if_pos rfl]
      exact tail _ _ (RFm_u (RFm_u f2 ⟨by decide, by decide⟩) ⟨by decide, by decide⟩) (by rw [up2_ne (.inr (by decide)), up2_ne (.inr (by decide))]; exact e1) (by rw [up2_eq, ek]; rfl) (fun q => by rw [up2_ne (.inr (by decide)), up2_eq, eE, e3]) (by rw [up2_ne (.inr (by decide)), up2_eq]; omega) (by rw [up2_ne (.inr (by decide)), up2_eq]; omega)
    · rw [e3] at c59
      have t0 := ty.2.1.mp c59
      have ek : nxK B e = 0 := by unfold nxK; rw [t0, if_neg (by omega)]
      exact tail _ _ (RFm_u f2 ⟨by decide, by decide⟩) (by rw [up2_ne (.inr (by decide))]; exact e1) (by rw [up2_eq, ek]; rfl) (fun q => by omega) (by rw [up2_ne (.inr (by decide))]; omega) (by rw [up2_ne (.inr (by decide))]; omega)
  have blank : ∀ (f : Nat) (c : Int) (I1 : MI), 400 - c < f → e ≤ c → c ≤ 400 → RFm I I1 → I1 78 13 = c → runP B 1 f c = nxB B e → Ev E 3 M_X11_next 0 [vr 78, vu] [] (G0, 0, 0) I1 L (ZQ E M_X11_next (QQv (rNxQ I L B e))) := by
    intro f
    induction f with
    | zero => intro c I1 h1 h2 h3; omega
    | succ f ih =>
      intro c I1 h1 h2 h3 f1 e2 hr
      have tc := bx_ty h (k := c) (by omega)
      have on : tyP (B c) = 1 → ∀ z, z = c + 1 → Ev E 3 M_X11_next 0 [vr 78, vu] [] (G0, 0, 0) (up2 I1 78 13 z) L (ZQ E M_X11_next (QQv (rNxQ I L B e))) := fun t1 z hz => by
        subst hz
        have tl := tc.2.2.2.2.2.1 (by omega)
        exact ih (c + 1) _ (by omega) (by omega) (by omega) (RFm_u f1 ⟨by decide, by decide⟩) (up2_eq _ _ _ _) (by rw [← hr, runP_s ⟨tl.2, t1⟩])
      have e12 : I1 78 12 = n := by rw [f1.2 12 (by omega)]; exact hn
      refine (t72_X11_next_0 (t72_X11_next_1 (t72_X11_next_2 (by first | assumption | rfl) (fun r2 => (t72_X11_next_5 (by first | assumption | rfl) ((c_X11_byteAt (B := B) (n := n) e12 (TpR_f h f1) (by omega))) (by first | decide | omega) (fun r5 => (t72_X11_next_8 (t72_X11_next_10 (by omega) (by omega) (fun c10 => (t72_X11_next_26 (t72_X11_next_27 (t72_X11_next_28 (by first | assumption | rfl) (fun r28 => (t72_X11_next_31 (t72_X11_next_32 (t72_X11_next_33 (by first | assumption | rfl) (by omega) (t72_X11_next_36 ?_))))))))) (fun c10 => (t72_X11_next_13 (t72_X11_next_14 (t72_X11_next_15 (by first | assumption | rfl) (fun r15 => (t72_X11_next_18 (by first | assumption | rfl) ((c_X11_byteAt (B := B) (n := n) e12 (TpR_f h f1) (by omega))) (by first | decide | omega) (fun r18 => (t72_X11_next_21 (t72_X11_next_23 (by omega) (by omega) (fun c23 => ?_) (fun c23 => (t72_X11_next_26 (t72_X11_next_27 (t72_X11_next_28 (by first | assumption | rfl) (fun r28 => (t72_X11_next_31 (t72_X11_next_32 (t72_X11_next_33 (by first | assumption | rfl) (by omega) (t72_X11_next_36 ?_))))))))))))))))))))))))))
      -- 3 leaves: 10t :->0 | 10f 23t :->39 | 10f 23f :->0
      · rw [e2] at c10
        exact on (tc.1.mp (.inl c10)) _ (by rw [e2])
      · rw [e2] at c10 c23
        have nt : ¬ (c < 400 ∧ tyP (B c) = 1) := fun q => by
          rcases tc.1.mpr q.2 with z | z
          · exact c10 z
          · exact c23 z
        rw [runP_x nt] at hr
        exact token I1 vu f1 (by rw [e2, hr])
      · rw [e2] at c23
        exact on (tc.1.mp (.inr c23)) _ (by rw [e2])
  exact blank 401 e I (by omega) (by omega) he.2 (RFm_r I) hc hB.symm
