theorem t77_X11_readThing_37 {E : En} {d : Nat} {κ : Kp} {I L : MI} {Z : Zt} {a0 : Nat} {a1 a2 : Int}  (k : Ev E d M_X11_readThing 38 [vr a0, vi a1, vi a2, vu, vu] [vr a0] κ I L Z) : Ev E d M_X11_readThing 37 [vr a0, vi a1, vi a2, vu, vu] [] κ I L Z := E_aload_n dX11_readThing_37 rfl k
theorem t77_X11_readThing_38 {E : En} {d : Nat} {κ : Kp} {I L : MI} {Z : Zt} {a0 b0 : Nat} {a1 a2 : Int}  (k : Ev E d M_X11_readThing 39 [vr a0, vi a1, vi a2, vu, vu] [vi 0, vr b0] κ I L Z) : Ev E d M_X11_readThing 38 [vr a0, vi a1, vi a2, vu, vu] [vr b0] κ I L Z := E_iconst (v := 0) dX11_readThing_38 rfl k
theorem t77_X11_readThing_39 {E : En} {d : Nat} {κ : Kp} {I L : MI} {Z : Zt} {a0 b1 : Nat} {a1 a2 b0 : Int}  (k : Ev E d M_X11_readThing 40 [vr a0, vi a1, vi a2, vu, vu] [vi 4, vi b0, vr b1] κ I L Z) : Ev E d M_X11_readThing 39 [vr a0, vi a1, vi a2, vu, vu] [vi b0, vr b1] κ I L Z := E_iconst (v := 4) dX11_readThing_39 rfl k
theorem t77_X11_readThing_40 {E : En} {d d' : Nat} {cs : Nat × Nat} {I L : MI} {Z : Zt} {a0 b2 : Nat} {a1 a2 b0 b1 : Int} {Q : Int → MI → MI → Prop} (hs : G0.1[b2]? = some (.inl 11)) (hM : CQi E d' M_X11_number [vr b2, vi b1, vi b0] I L Q) (hlt : d' + 1 ≤ d) (kk : ∀ (z : Int) (I' L' : MI), Q z I' L' → Ev E d M_X11_readThing 43 [vr a0, vi a1, vi a2, vu, vu] [vi z] (G0, cs) I' L' Z) (hc1 : cs.1 ≤ M_X11_readThing.2.2.2.2.1 := by decide) (hc2 : cs.2 ≤ M_X11_readThing.2.2.2.2.2 := by decide) : Ev E d M_X11_readThing 40 [vr a0, vi a1, vi a2, vu, vu] [vi b0, vi b1, vr b2] (G0, cs) I L Z := E_callV (as := [vi b1, vi b0]) (rest := []) (n := 2) hM dX11_readThing_40 wM_RX11_146 wS_X11_number wV_X11_number hs (by decide) rfl hlt wC_X11_number wI_X11 (by decide +kernel) rfl (by decide) (Nat.le_of_ble_eq_true rfl) hc1 hc2 rfl (fun r g' I' L' h => by obtain ⟨rfl, z, rfl, h⟩ := h; exact kk z I' L' h)
theorem t77_X11_readThing_43 {E : En} {d : Nat} {κ : Kp} {I L : MI} {Z : Zt} {a0 : Nat} {a1 a2 b0 : Int}  (k : Ev E d M_X11_readThing 44 [vr a0, vi a1, vi a2, vi b0, vu] [] κ I L Z) : Ev E d M_X11_readThing 43 [vr a0, vi a1, vi a2, vu, vu] [vi b0] κ I L Z := E_istore_n dX11_readThing_43 rfl (Nat.le_of_ble_eq_true rfl) k
theorem t77_X11_readThing_44 {E : En} {d : Nat} {κ : Kp} {I L : MI} {Z : Zt} {a0 : Nat} {a1 a2 a3 : Int}  (k : Ev E d M_X11_readThing 45 [vr a0, vi a1, vi a2, vi a3, vu] [vr a0] κ I L Z) : Ev E d M_X11_readThing 44 [vr a0, vi a1, vi a2, vi a3, vu] [] κ I L Z := E_aload_n dX11_readThing_44 rfl k
theorem t77_X11_readThing_45 {E : En} {d d' : Nat} {cs : Nat × Nat} {I L : MI} {Z : Zt} {a0 b0 : Nat} {a1 a2 a3 : Int} {Q : MI → MI → Prop} (hs : G0.1[b0]? = some (.inl 11)) (hM : CQv E d' M_X11_mustEnd [vr b0] I L Q) (hlt : d' + 1 ≤ d) (kk : ∀ (I' L' : MI), Q I' L' → Ev E d M_X11_readThing 48 [vr a0, vi a1, vi a2, vi a3, vu] [] (G0, cs) I' L' Z) (hc1 : cs.1 ≤ M_X11_readThing.2.2.2.2.1 := by decide) (hc2 : cs.2 ≤ M_X11_readThing.2.2.2.2.2 := by decide) : Ev E d M_X11_readThing 45 [vr a0, vi a1, vi a2, vi a3, vu] [vr b0] (G0, cs) I L Z := E_callV (as := []) (rest := []) (n := 0) hM dX11_readThing_45 wM_RX11_163 wS_X11_mustEnd wV_X11_mustEnd hs (by decide) rfl hlt wC_X11_mustEnd wI_X11 (by decide +kernel) rfl (by decide) (Nat.le_of_ble_eq_true rfl) hc1 hc2 rfl (fun r g' I' L' h => by obtain ⟨rfl, rfl, h⟩ := h; exact kk I' L' h)
theorem t77_X11_readThing_48 {E : En} {d : Nat} {κ : Kp} {I L : MI} {Z : Zt} {a0 : Nat} {a1 a2 a3 : Int}  (k : Ev E d M_X11_readThing 49 [vr a0, vi a1, vi a2, vi a3, vu] [vr a0] κ I L Z) : Ev E d M_X11_readThing 48 [vr a0, vi a1, vi a2, vi a3, vu] [] κ I L Z := E_aload_n dX11_readThing_48 rfl k
theorem t77_X11_readThing_49 {E : En} {d : Nat} {κ : Kp} {I L : MI} {Z : Zt} {a0 b0 : Nat} {a1 a2 a3 : Int} (hs : κ.1.1[b0]? = some (.inl 11)) (k : Ir (I b0 17) → Ev E d M_X11_readThing 52 [vr a0, vi a1, vi a2, vi a3, vu] [vi (I b0 17)] κ I L Z) : Ev E d M_X11_readThing 49 [vr a0, vi a1, vi a2, vi a3, vu] [vr b0] κ I L Z := E_getI (ci := 11) (n := 17) dX11_readThing_49 wF_RX11_119 (by decide) hs rfl k
theorem t77_X11_readThing_52 {E : En} {d : Nat} {κ : Kp} {I L : MI} {Z : Zt} {a0 : Nat} {a1 a2 a3 b0 : Int} (hx : Ir b0) (kt : ¬ b0 = 0 → Ev E d M_X11_readThing 105 [vr a0, vi a1, vi a2, vi a3, vu] [] κ I L Z) (kf : b0 = 0 → Ev E d M_X11_readThing 55 [vr a0, vi a1, vi a2, vi a3, vu] [] κ I L Z) : Ev E d M_X11_readThing 52 [vr a0, vi a1, vi a2, vi a3, vu] [vi b0] κ I L Z := E_if_ne dX11_readThing_52 hx kt kf (by decide)
theorem t77_X11_readThing_105 {E : En} {d : Nat} {g : Geo} {I L : MI} {Q : Option AV → Geo → MI → MI → Prop} {cs : Nat × Nat} {a0 : Nat} {a1 a2 a3 : Int} (hq : Q none g I L) (h1 : cs.1 ≤ M_X11_readThing.2.2.2.2.1 := by decide) (h2 : cs.2 ≤ M_X11_readThing.2.2.2.2.2 := by decide) : Ev E d M_X11_readThing 105 [vr a0, vi a1, vi a2, vi a3, vu] [] (g, cs) I L (ZQ E M_X11_readThing Q) := E_return rfl dX11_readThing_105 hq h1 h2
theorem t77_X11_readThing_55 {E : En} {d : Nat} {κ : Kp} {I L : MI} {Z : Zt} {a0 : Nat} {a1 a2 a3 : Int}  (k : Ev E d M_X11_readThing 56 [vr a0, vi a1, vi a2, vi a3, vu] [vi 3] κ I L Z) : Ev E d M_X11_readThing 55 [vr a0, vi a1, vi a2, vi a3, vu] [] κ I L Z := E_iconst (v := 3) dX11_readThing_55 rfl k
theorem t77_X11_readThing_56 {E : En} {d : Nat} {κ : Kp} {I L : MI} {Z : Zt} {a0 : Nat} {a1 a2 a3 b0 : Int}  (k : Ev E d M_X11_readThing 57 [vr a0, vi a1, vi a2, vi a3, vu] [vi 3, vi b0] κ I L Z) : Ev E d M_X11_readThing 56 [vr a0, vi a1, vi a2, vi a3, vu] [vi b0] κ I L Z := E_iconst (v := 3) dX11_readThing_56 rfl k
theorem t77_X11_readThing_57 {E : En} {d : Nat} {κ : Kp} {I L : MI} {Z : Zt} {a0 : Nat} {a1 a2 a3 b0 b1 : Int}  (k : Ev E d M_X11_readThing 58 [vr a0, vi a1, vi a2, vi a3, vu] [vr a0, vi b0, vi b1] κ I L Z) : Ev E d M_X11_readThing 57 [vr a0, vi a1, vi a2, vi a3, vu] [vi b0, vi b1] κ I L Z := E_aload_n dX11_readThing_57 rfl k
theorem t77_X11_readThing_58 {E : En} {d : Nat} {κ : Kp} {I L : MI} {Z : Zt} {a0 b0 : Nat} {a1 a2 a3 b1 b2 : Int} {q : Nat} (hs : κ.1.1[b0]? = some (.inl 11)) (hq : κ.1.2 b0 6 = some q) (k : Ev E d M_X11_readThing 61 [vr a0, vi a1, vi a2, vi a3, vu] [vr q, vi b1, vi b2] κ I L Z) : Ev E d M_X11_readThing 58 [vr a0, vi a1, vi a2, vi a3, vu] [vr b0, vi b1, vi b2] κ I L Z := E_getR (ci := 11) (n := 6) dX11_readThing_58 wF_RX11_22 (by decide) hs rfl hq k
theorem t77_X11_readThing_61 {E : En} {d : Nat} {κ : Kp} {I L : MI} {Z : Zt} {a0 b0 : Nat} {a1 a2 a3 b1 b2 : Int}  (k : Ev E d M_X11_readThing 62 [vr a0, vi a1, vi a2, vi a3, vu] [vi 0, vr b0, vi b1, vi b2] κ I L Z) : Ev E d M_X11_readThing 61 [vr a0, vi a1, vi a2, vi a3, vu] [vr b0, vi b1, vi b2] κ I L Z := E_iconst (v := 0) dX11_readThing_61 rfl k
theorem t77_X11_readThing_62 {E : En} {d : Nat} {κ : Kp} {I L : MI} {Z : Zt} {a0 b1 : Nat} {a1 a2 a3 b0 b2 b3 : Int} {n : Nat} (hs : κ.1.1[b1]? = some (.inr (0, n))) (h0 : 0 ≤ b0) (h1 : b0 < n) (hi : Ir b0) (k : Ir (I b1 b0) → Ev E d M_X11_readThing 63 [vr a0, vi a1, vi a2, vi a3, vu] [vi (I b1 b0), vi b2, vi b3] κ I L Z) : Ev E d M_X11_readThing 62 [vr a0, vi a1, vi a2, vi a3, vu] [vi b0, vr b1, vi b2, vi b3] κ I L Z := E_ialdI dX11_readThing_62 hs h0 h1 hi k
theorem t77_X11_readThing_63 {E : En} {d : Nat} {κ : Kp} {I L : MI} {Z : Zt} {a0 : Nat} {a1 a2 a3 b0 b1 b2 : Int}  (k : Ev E d M_X11_readThing 64 [vr a0, vi a1, vi a2, vi a3, vu] [vi (b1 * b0), vi b2] κ I L Z) : Ev E d M_X11_readThing 63 [vr a0, vi a1, vi a2, vi a3, vu] [vi b0, vi b1, vi b2] κ I L Z := E_imul dX11_readThing_63 k
theorem t77_X11_readThing_64 {E : En} {d : Nat} {κ : Kp} {I L : MI} {Z : Zt} {a0 : Nat} {a1 a2 a3 b0 b1 : Int}  (k : Ev E d M_X11_readThing 65 [vr a0, vi a1, vi a2, vi a3, vu] [vi (b1 + b0)] κ I L Z) : Ev E d M_X11_readThing 64 [vr a0, vi a1, vi a2, vi a3, vu] [vi b0, vi b1] κ I L Z := E_iadd dX11_readThing_64 k
theorem t77_X11_readThing_65 {E : En} {d : Nat} {κ : Kp} {I L : MI} {Z : Zt} {a0 : Nat} {a1 a2 a3 b0 : Int}  (k : Ev E d M_X11_readThing 67 [vr a0, vi a1, vi a2, vi a3, vi b0] [] κ I L Z) : Ev E d M_X11_readThing 65 [vr a0, vi a1, vi a2, vi a3, vu] [vi b0] κ I L Z := E_istore dX11_readThing_65 rfl (Nat.le_of_ble_eq_true rfl) k
theorem t77_X11_readThing_67 {E : En} {d : Nat} {κ : Kp} {I L : MI} {Z : Zt} {a0 : Nat} {a1 a2 a3 a4 : Int}  (k : Ev E d M_X11_readThing 68 [vr a0, vi a1, vi a2, vi a3, vi a4] [vr a0] κ I L Z) : Ev E d M_X11_readThing 67 [vr a0, vi a1, vi a2, vi a3, vi a4] [] κ I L Z := E_aload_n dX11_readThing_67 rfl k
theorem t77_X11_readThing_68 {E : En} {d : Nat} {κ : Kp} {I L : MI} {Z : Zt} {a0 b0 : Nat} {a1 a2 a3 a4 : Int} {q : Nat} (hs : κ.1.1[b0]? = some (.inl 11)) (hq : κ.1.2 b0 6 = some q) (k : Ev E d M_X11_readThing 71 [vr a0, vi a1, vi a2, vi a3, vi a4] [vr q] κ I L Z) : Ev E d M_X11_readThing 68 [vr a0, vi a1, vi a2, vi a3, vi a4] [vr b0] κ I L Z := E_getR (ci := 11) (n := 6) dX11_readThing_68 wF_RX11_22 (by decide) hs rfl hq k
theorem t77_X11_readThing_71 {E : En} {d : Nat} {κ : Kp} {I L : MI} {Z : Zt} {a0 b0 : Nat} {a1 a2 a3 a4 : Int}  (k : Ev E d M_X11_readThing 73 [vr a0, vi a1, vi a2, vi a3, vi a4] [vi a4, vr b0] κ I L Z) : Ev E d M_X11_readThing 71 [vr a0, vi a1, vi a2, vi a3, vi a4] [vr b0] κ I L Z := E_iload dX11_readThing_71 rfl k
theorem t77_X11_readThing_73 {E : En} {d : Nat} {κ : Kp} {I L : MI} {Z : Zt} {a0 b1 : Nat} {a1 a2 a3 a4 b0 : Int}  (k : Ev E d M_X11_readThing 74 [vr a0, vi a1, vi a2, vi a3, vi a4] [vi a1, vi b0, vr b1] κ I L Z) : Ev E d M_X11_readThing 73 [vr a0, vi a1, vi a2, vi a3, vi a4] [vi b0, vr b1] κ I L Z := E_iload_n dX11_readThing_73 rfl k
theorem t77_X11_readThing_74 {E : En} {d : Nat} {κ : Kp} {I L : MI} {Z : Zt} {a0 b2 : Nat} {a1 a2 a3 a4 b0 b1 : Int} {n : Nat} (ha : κ.1.1[b2]? = some (.inr (0, n))) (h0 : 0 ≤ b1) (h1 : b1 < n) (hi : Ir b1) (hz : Ir b0) (k : Ev E d M_X11_readThing 75 [vr a0, vi a1, vi a2, vi a3, vi a4] [] κ (up2 I b2 b1 b0) L Z) : Ev E d M_X11_readThing 74 [vr a0, vi a1, vi a2, vi a3, vi a4] [vi b0, vi b1, vr b2] κ I L Z := E_iast dX11_readThing_74 ha h0 h1 hi hz k
theorem t77_X11_readThing_75 {E : En} {d : Nat} {κ : Kp} {I L : MI} {Z : Zt} {a0 : Nat} {a1 a2 a3 a4 : Int}  (k : Ev E d M_X11_readThing 76 [vr a0, vi a1, vi a2, vi a3, vi a4] [vr a0] κ I L Z) : Ev E d M_X11_readThing 75 [vr a0, vi a1, vi a2, vi a3, vi a4] [] κ I L Z := E_aload_n dX11_readThing_75 rfl k
theorem t77_X11_readThing_76 {E : En} {d : Nat} {κ : Kp} {I L : MI} {Z : Zt} {a0 b0 : Nat} {a1 a2 a3 a4 : Int} {q : Nat} (hs : κ.1.1[b0]? = some (.inl 11)) (hq : κ.1.2 b0 6 = some q) (k : Ev E d M_X11_readThing 79 [vr a0, vi a1, vi a2, vi a3, vi a4] [vr q] κ I L Z) : Ev E d M_X11_readThing 76 [vr a0, vi a1, vi a2, vi a3, vi a4] [vr b0] κ I L Z := E_getR (ci := 11) (n := 6) dX11_readThing_76 wF_RX11_22 (by decide) hs rfl hq k
theorem t77_X11_readThing_79 {E : En} {d : Nat} {κ : Kp} {I L : MI} {Z : Zt} {a0 b0 : Nat} {a1 a2 a3 a4 : Int}  (k : Ev E d M_X11_readThing 81 [vr a0, vi a1, vi a2, vi a3, vi a4] [vi a4, vr b0] κ I L Z) : Ev E d M_X11_readThing 79 [vr a0, vi a1, vi a2, vi a3, vi a4] [vr b0] κ I L Z := E_iload dX11_readThing_79 rfl k
theorem t77_X11_readThing_81 {E : En} {d : Nat} {κ : Kp} {I L : MI} {Z : Zt} {a0 b1 : Nat} {a1 a2 a3 a4 b0 : Int}  (k : Ev E d M_X11_readThing 82 [vr a0, vi a1, vi a2, vi a3, vi a4] [vi 1, vi b0, vr b1] κ I L Z) : Ev E d M_X11_readThing 81 [vr a0, vi a1, vi a2, vi a3, vi a4] [vi b0, vr b1] κ I L Z := E_iconst (v := 1) dX11_readThing_81 rfl k
theorem t77_X11_readThing_82 {E : En} {d : Nat} {κ : Kp} {I L : MI} {Z : Zt} {a0 b2 : Nat} {a1 a2 a3 a4 b0 b1 : Int}  (k : Ev E d M_X11_readThing 83 [vr a0, vi a1, vi a2, vi a3, vi a4] [vi (b1 + b0), vr b2] κ I L Z) : Ev E d M_X11_readThing 82 [vr a0, vi a1, vi a2, vi a3, vi a4] [vi b0, vi b1, vr b2] κ I L Z := E_iadd dX11_readThing_82 k
theorem t77_X11_readThing_83 {E : En} {d : Nat} {κ : Kp} {I L : MI} {Z : Zt} {a0 b1 : Nat} {a1 a2 a3 a4 b0 : Int}  (k : Ev E d M_X11_readThing 84 [vr a0, vi a1, vi a2, vi a3, vi a4] [vi a2, vi b0, vr b1] κ I L Z) : Ev E d M_X11_readThing 83 [vr a0, vi a1, vi a2, vi a3, vi a4] [vi b0, vr b1] κ I L Z := E_iload_n dX11_readThing_83 rfl k
theorem t77_X11_readThing_84 {E : En} {d : Nat} {κ : Kp} {I L : MI} {Z : Zt} {a0 b2 : Nat} {a1 a2 a3 a4 b0 b1 : Int} {n : Nat} (ha : κ.1.1[b2]? = some (.inr (0, n))) (h0 : 0 ≤ b1) (h1 : b1 < n) (hi : Ir b1) (hz : Ir b0) (k : Ev E d M_X11_readThing 85 [vr a0, vi a1, vi a2, vi a3, vi a4] [] κ (up2 I b2 b1 b0) L Z) : Ev E d M_X11_readThing 84 [vr a0, vi a1, vi a2, vi a3, vi a4] [vi b0, vi b1, vr b2] κ I L Z := E_iast dX11_readThing_84 ha h0 h1 hi hz k
theorem t77_X11_readThing_85 {E : En} {d : Nat} {κ : Kp} {I L : MI} {Z : Zt} {a0 : Nat} {a1 a2 a3 a4 : Int}  (k : Ev E d M_X11_readThing 86 [vr a0, vi a1, vi a2, vi a3, vi a4] [vr a0] κ I L Z) : Ev E d M_X11_readThing 85 [vr a0, vi a1, vi a2, vi a3, vi a4] [] κ I L Z := E_aload_n dX11_readThing_85 rfl k
theorem t77_X11_readThing_86 {E : En} {d : Nat} {κ : Kp} {I L : MI} {Z : Zt} {a0 b0 : Nat} {a1 a2 a3 a4 : Int} {q : Nat} (hs : κ.1.1[b0]? = some (.inl 11)) (hq : κ.1.2 b0 6 = some q) (k : Ev E d M_X11_readThing 89 [vr a0, vi a1, vi a2, vi a3, vi a4] [vr q] κ I L Z) : Ev E d M_X11_readThing 86 [vr a0, vi a1, vi a2, vi a3, vi a4] [vr b0] κ I L Z := E_getR (ci := 11) (n := 6) dX11_readThing_86 wF_RX11_22 (by decide) hs rfl hq k
theorem t77_X11_readThing_89 {E : En} {d : Nat} {κ : Kp} {I L : MI} {Z : Zt} {a0 b0 : Nat} {a1 a2 a3 a4 : Int}  (k : Ev E d M_X11_readThing 91 [vr a0, vi a1, vi a2, vi a3, vi a4] [vi a4, vr b0] κ I L Z) : Ev E d M_X11_readThing 89 [vr a0, vi a1, vi a2, vi a3, vi a4] [vr b0] κ I L Z := E_iload dX11_readThing_89 rfl k
theorem t77_X11_readThing_91 {E : En} {d : Nat} {κ : Kp} {I L : MI} {Z : Zt} {a0 b1 : Nat} {a1 a2 a3 a4 b0 : Int}  (k : Ev E d M_X11_readThing 92 [vr a0, vi a1, vi a2, vi a3, vi a4] [vi 2, vi b0, vr b1] κ I L Z) : Ev E d M_X11_readThing 91 [vr a0, vi a1, vi a2, vi a3, vi a4] [vi b0, vr b1] κ I L Z := E_iconst (v := 2) dX11_readThing_91 rfl k
theorem t77_X11_readThing_92 {E : En} {d : Nat} {κ : Kp} {I L : MI} {Z : Zt} {a0 b2 : Nat} {a1 a2 a3 a4 b0 b1 : Int}  (k : Ev E d M_X11_readThing 93 [vr a0, vi a1, vi a2, vi a3, vi a4] [vi (b1 + b0), vr b2] κ I L Z) : Ev E d M_X11_readThing 92 [vr a0, vi a1, vi a2, vi a3, vi a4] [vi b0, vi b1, vr b2] κ I L Z := E_iadd dX11_readThing_92 k
theorem t77_X11_readThing_93 {E : En} {d : Nat} {κ : Kp} {I L : MI} {Z : Zt} {a0 b1 : Nat} {a1 a2 a3 a4 b0 : Int}  (k : Ev E d M_X11_readThing 94 [vr a0, vi a1, vi a2, vi a3, vi a4] [vi a3, vi b0, vr b1] κ I L Z) : Ev E d M_X11_readThing 93 [vr a0, vi a1, vi a2, vi a3, vi a4] [vi b0, vr b1] κ I L Z := E_iload_n dX11_readThing_93 rfl k
theorem t77_X11_readThing_94 {E : En} {d : Nat} {κ : Kp} {I L : MI} {Z : Zt} {a0 b2 : Nat} {a1 a2 a3 a4 b0 b1 : Int} {n : Nat} (ha : κ.1.1[b2]? = some (.inr (0, n))) (h0 : 0 ≤ b1) (h1 : b1 < n) (hi : Ir b1) (hz : Ir b0) (k : Ev E d M_X11_readThing 95 [vr a0, vi a1, vi a2, vi a3, vi a4] [] κ (up2 I b2 b1 b0) L Z) : Ev E d M_X11_readThing 94 [vr a0, vi a1, vi a2, vi a3, vi a4] [vi b0, vi b1, vr b2] κ I L Z := E_iast dX11_readThing_94 ha h0 h1 hi hz k
theorem t77_X11_readThing_95 {E : En} {d : Nat} {κ : Kp} {I L : MI} {Z : Zt} {a0 : Nat} {a1 a2 a3 a4 : Int}  (k : Ev E d M_X11_readThing 96 [vr a0, vi a1, vi a2, vi a3, vi a4] [vr a0] κ I L Z) : Ev E d M_X11_readThing 95 [vr a0, vi a1, vi a2, vi a3, vi a4] [] κ I L Z := E_aload_n dX11_readThing_95 rfl k
theorem t77_X11_readThing_96 {E : En} {d : Nat} {κ : Kp} {I L : MI} {Z : Zt} {a0 b0 : Nat} {a1 a2 a3 a4 : Int} {q : Nat} (hs : κ.1.1[b0]? = some (.inl 11)) (hq : κ.1.2 b0 6 = some q) (k : Ev E d M_X11_readThing 99 [vr a0, vi a1, vi a2, vi a3, vi a4] [vr q] κ I L Z) : Ev E d M_X11_readThing 96 [vr a0, vi a1, vi a2, vi a3, vi a4] [vr b0] κ I L Z := E_getR (ci := 11) (n := 6) dX11_readThing_96 wF_RX11_22 (by decide) hs rfl hq k
theorem t77_X11_readThing_99 {E : En} {d : Nat} {κ : Kp} {I L : MI} {Z : Zt} {a0 b0 : Nat} {a1 a2 a3 a4 : Int}  (k : Ev E d M_X11_readThing 100 [vr a0, vi a1, vi a2, vi a3, vi a4] [vi 0, vr b0] κ I L Z) : Ev E d M_X11_readThing 99 [vr a0, vi a1, vi a2, vi a3, vi a4] [vr b0] κ I L Z := E_iconst (v := 0) dX11_readThing_99 rfl k
theorem t77_X11_readThing_100 {E : En} {d : Nat} {κ : Kp} {I L : MI} {Z : Zt} {a0 b1 : Nat} {a1 a2 a3 a4 b0 : Int}  (k : Ev E d M_X11_readThing 101 [vr a0, vi a1, vi a2, vi a3, vi a4] [vi b0, vr b1, vi b0, vr b1] κ I L Z) : Ev E d M_X11_readThing 100 [vr a0, vi a1, vi a2, vi a3, vi a4] [vi b0, vr b1] κ I L Z := E_dup2 dX11_readThing_100 rfl rfl k
theorem t77_X11_readThing_101 {E : En} {d : Nat} {κ : Kp} {I L : MI} {Z : Zt} {a0 b1 b3 : Nat} {a1 a2 a3 a4 b0 b2 : Int} {n : Nat} (hs : κ.1.1[b1]? = some (.inr (0, n))) (h0 : 0 ≤ b0) (h1 : b0 < n) (hi : Ir b0) (k : Ir (I b1 b0) → Ev E d M_X11_readThing 102 [vr a0, vi a1, vi a2, vi a3, vi a4] [vi (I b1 b0), vi b2, vr b3] κ I L Z) : Ev E d M_X11_readThing 101 [vr a0, vi a1, vi a2, vi a3, vi a4] [vi b0, vr b1, vi b2, vr b3] κ I L Z := E_ialdI dX11_readThing_101 hs h0 h1 hi k
theorem t77_X11_readThing_102 {E : En} {d : Nat} {κ : Kp} {I L : MI} {Z : Zt} {a0 b2 : Nat} {a1 a2 a3 a4 b0 b1 : Int}  (k : Ev E d M_X11_readThing 103 [vr a0, vi a1, vi a2, vi a3, vi a4] [vi 1, vi b0, vi b1, vr b2] κ I L Z) : Ev E d M_X11_readThing 102 [vr a0, vi a1, vi a2, vi a3, vi a4] [vi b0, vi b1, vr b2] κ I L Z := E_iconst (v := 1) dX11_readThing_102 rfl k
theorem t77_X11_readThing_103 {E : En} {d : Nat} {κ : Kp} {I L : MI} {Z : Zt} {a0 b3 : Nat} {a1 a2 a3 a4 b0 b1 b2 : Int}  (k : Ev E d M_X11_readThing 104 [vr a0, vi a1, vi a2, vi a3, vi a4] [vi (b1 + b0), vi b2, vr b3] κ I L Z) : Ev E d M_X11_readThing 103 [vr a0, vi a1, vi a2, vi a3, vi a4] [vi b0, vi b1, vi b2, vr b3] κ I L Z := E_iadd dX11_readThing_103 k
theorem t77_X11_readThing_104 {E : En} {d : Nat} {κ : Kp} {I L : MI} {Z : Zt} {a0 b2 : Nat} {a1 a2 a3 a4 b0 b1 : Int} {n : Nat} (ha : κ.1.1[b2]? = some (.inr (0, n))) (h0 : 0 ≤ b1) (h1 : b1 < n) (hi : Ir b1) (hz : Ir b0) (k : Ev E d M_X11_readThing 105 [vr a0, vi a1, vi a2, vi a3, vi a4] [] κ (up2 I b2 b1 b0) L Z) : Ev E d M_X11_readThing 104 [vr a0, vi a1, vi a2, vi a3, vi a4] [vi b0, vi b1, vr b2] κ I L Z := E_iast dX11_readThing_104 ha h0 h1 hi hz k
theorem t77_X11_readThing_105v1 {E : En} {d : Nat} {g : Geo} {I L : MI} {Q : Option AV → Geo → MI → MI → Prop} {cs : Nat × Nat} {a0 : Nat} {a1 a2 a3 a4 : Int} (hq : Q none g I L) (h1 : cs.1 ≤ M_X11_readThing.2.2.2.2.1 := by decide) (h2 : cs.2 ≤ M_X11_readThing.2.2.2.2.2 := by decide) : Ev E d M_X11_readThing 105 [vr a0, vi a1, vi a2, vi a3, vi a4] [] (g, cs) I L (ZQ E M_X11_readThing Q) := E_return rfl dX11_readThing_105 hq h1 h2
theorem t77_X11_readThing_0 {E : En} {d : Nat} {κ : Kp} {I L : MI} {Z : Zt} {a0 : Nat}  (k : Ev E d M_X11_readThing 1 [vr a0, vu, vu, vu, vu] [vr a0] κ I L Z) : Ev E d M_X11_readThing 0 [vr a0, vu, vu, vu, vu] [] κ I L Z := E_aload_n dX11_readThing_0 rfl k
theorem t77_X11_readThing_1 {E : En} {d : Nat} {κ : Kp} {I L : MI} {Z : Zt} {a0 b0 : Nat}  (k : Ev E d M_X11_readThing 2 [vr a0, vu, vu, vu, vu] [vi 0, vr b0] κ I L Z) : Ev E d M_X11_readThing 1 [vr a0, vu, vu, vu, vu] [vr b0] κ I L Z := E_iconst (v := 0) dX11_readThing_1 rfl k
theorem t77_X11_readThing_2 {E : En} {d : Nat} {κ : Kp} {I L : MI} {Z : Zt} {a0 b1 : Nat} {b0 : Int}  (k : Ev E d M_X11_readThing 4 [vr a0, vu, vu, vu, vu] [vi 12, vi b0, vr b1] κ I L Z) : Ev E d M_X11_readThing 2 [vr a0, vu, vu, vu, vu] [vi b0, vr b1] κ I L Z := E_bipush (v := 12) dX11_readThing_2 rfl k
theorem t77_X11_readThing_4 {E : En} {d d' : Nat} {cs : Nat × Nat} {I L : MI} {Z : Zt} {a0 b2 : Nat} {b0 b1 : Int} {Q : MI → MI → Prop} (hs : G0.1[b2]? = some (.inl 11)) (hM : CQv E d' M_X11_begins [vr b2, vi b1, vi b0] I L Q) (hlt : d' + 1 ≤ d) (kk : ∀ (I' L' : MI), Q I' L' → Ev E d M_X11_readThing 7 [vr a0, vu, vu, vu, vu] [] (G0, cs) I' L' Z) (hc1 : cs.1 ≤ M_X11_readThing.2.2.2.2.1 := by decide) (hc2 : cs.2 ≤ M_X11_readThing.2.2.2.2.2 := by decide) : Ev E d M_X11_readThing 4 [vr a0, vu, vu, vu, vu] [vi b0, vi b1, vr b2] (G0, cs) I L Z := E_callV (as := [vi b1, vi b0]) (rest := []) (n := 2) hM dX11_readThing_4 wM_RX11_150 wS_X11_begins wV_X11_begins hs (by decide) rfl hlt wC_X11_begins wI_X11 (by decide +kernel) rfl (by decide) (Nat.le_of_ble_eq_true rfl) hc1 hc2 rfl (fun r g' I' L' h => by obtain ⟨rfl, rfl, h⟩ := h; exact kk I' L' h)
theorem t77_X11_readThing_7 {E : En} {d : Nat} {κ : Kp} {I L : MI} {Z : Zt} {a0 : Nat}  (k : Ev E d M_X11_readThing 8 [vr a0, vu, vu, vu, vu] [vr a0] κ I L Z) : Ev E d M_X11_readThing 7 [vr a0, vu, vu, vu, vu] [] κ I L Z := E_aload_n dX11_readThing_7 rfl k
theorem t77_X11_readThing_8 {E : En} {d : Nat} {κ : Kp} {I L : MI} {Z : Zt} {a0 b0 : Nat}  (k : Ev E d M_X11_readThing 9 [vr a0, vu, vu, vu, vu] [vi 0, vr b0] κ I L Z) : Ev E d M_X11_readThing 8 [vr a0, vu, vu, vu, vu] [vr b0] κ I L Z := E_iconst (v := 0) dX11_readThing_8 rfl k
theorem t77_X11_readThing_9 {E : En} {d d' : Nat} {cs : Nat × Nat} {I L : MI} {Z : Zt} {a0 b1 : Nat} {b0 : Int} {Q : Int → MI → MI → Prop} (hs : G0.1[b1]? = some (.inl 11)) (hM : CQi E d' M_X11_newNumber [vr b1, vi b0] I L Q) (hlt : d' + 1 ≤ d) (kk : ∀ (z : Int) (I' L' : MI), Q z I' L' → Ev E d M_X11_readThing 12 [vr a0, vu, vu, vu, vu] [vi z] (G0, cs) I' L' Z) (hc1 : cs.1 ≤ M_X11_readThing.2.2.2.2.1 := by decide) (hc2 : cs.2 ≤ M_X11_readThing.2.2.2.2.2 := by decide) : Ev E d M_X11_readThing 9 [vr a0, vu, vu, vu, vu] [vi b0, vr b1] (G0, cs) I L Z := E_callV (as := [vi b0]) (rest := []) (n := 1) hM dX11_readThing_9 wM_RX11_154 wS_X11_newNumber wV_X11_newNumber hs (by decide) rfl hlt wC_X11_newNumber wI_X11 (by decide +kernel) rfl (by decide) (Nat.le_of_ble_eq_true rfl) hc1 hc2 rfl (fun r g' I' L' h => by obtain ⟨rfl, z, rfl, h⟩ := h; exact kk z I' L' h)
theorem t77_X11_readThing_12 {E : En} {d : Nat} {κ : Kp} {I L : MI} {Z : Zt} {a0 : Nat} {b0 : Int}  (k : Ev E d M_X11_readThing 13 [vr a0, vi b0, vu, vu, vu] [] κ I L Z) : Ev E d M_X11_readThing 12 [vr a0, vu, vu, vu, vu] [vi b0] κ I L Z := E_istore_n dX11_readThing_12 rfl (Nat.le_of_ble_eq_true rfl) k
theorem t77_X11_readThing_13 {E : En} {d : Nat} {κ : Kp} {I L : MI} {Z : Zt} {a0 : Nat} {a1 : Int}  (k : Ev E d M_X11_readThing 14 [vr a0, vi a1, vu, vu, vu] [vi 0] κ I L Z) : Ev E d M_X11_readThing 13 [vr a0, vi a1, vu, vu, vu] [] κ I L Z := E_iconst (v := 0) dX11_readThing_13 rfl k
theorem t77_X11_readThing_14 {E : En} {d : Nat} {κ : Kp} {I L : MI} {Z : Zt} {a0 : Nat} {a1 b0 : Int}  (k : Ev E d M_X11_readThing 15 [vr a0, vi a1, vi b0, vu, vu] [] κ I L Z) : Ev E d M_X11_readThing 14 [vr a0, vi a1, vu, vu, vu] [vi b0] κ I L Z := E_istore_n dX11_readThing_14 rfl (Nat.le_of_ble_eq_true rfl) k
theorem t77_X11_readThing_15 {E : En} {d : Nat} {κ : Kp} {I L : MI} {Z : Zt} {a0 : Nat} {a1 a2 : Int}  (k : Ev E d M_X11_readThing 16 [vr a0, vi a1, vi a2, vu, vu] [vr a0] κ I L Z) : Ev E d M_X11_readThing 15 [vr a0, vi a1, vi a2, vu, vu] [] κ I L Z := E_aload_n dX11_readThing_15 rfl k
theorem t77_X11_readThing_16 {E : En} {d d' : Nat} {cs : Nat × Nat} {I L : MI} {Z : Zt} {a0 b0 : Nat} {a1 a2 : Int} {z : Int} {I' L' : MI} (hs : G0.1[b0]? = some (.inl 11)) (hM : CFl E d' M_X11_name [vr b0] I L z I' L') (hlt : d' + 1 ≤ d) (k : Jr z → Ev E d M_X11_readThing 19 [vr a0, vi a1, vi a2, vu, vu] [vl z] (G0, cs) I' L' Z) (hc1 : cs.1 ≤ M_X11_readThing.2.2.2.2.1 := by decide) (hc2 : cs.2 ≤ M_X11_readThing.2.2.2.2.2 := by decide) : Ev E d M_X11_readThing 16 [vr a0, vi a1, vi a2, vu, vu] [vr b0] (G0, cs) I L Z := E_callV (as := []) (rest := []) (n := 0) hM dX11_readThing_16 wM_RX11_157 wS_X11_name wV_X11_name hs (by decide) rfl hlt wC_X11_name wI_X11 (by decide +kernel) rfl (by decide) (Nat.le_of_ble_eq_true rfl) hc1 hc2 rfl (fun r g' I2 L2 h => by obtain ⟨rfl, z, rfl, hr, rfl, rfl, rfl⟩ := h; exact k hr)
theorem t77_X11_readThing_19 {E : En} {d : Nat} {κ : Kp} {I L : MI} {Z : Zt} {a0 : Nat} {a1 a2 b0 : Int}  (k : Ev E d M_X11_readThing 22 [vr a0, vi a1, vi a2, vu, vu] [vl 28530, vl b0] κ I L Z) : Ev E d M_X11_readThing 19 [vr a0, vi a1, vi a2, vu, vu] [vl b0] κ I L Z := E_ldc2 (v := 28530) dX11_readThing_19 wK_RX11_161 k
theorem t77_X11_readThing_22 {E : En} {d : Nat} {κ : Kp} {I L : MI} {Z : Zt} {a0 : Nat} {a1 a2 b0 b1 : Int} (hx : Jr b1) (hy : Jr b0) (kt : ¬ b1 = b0 → Ev E d M_X11_readThing 37 [vr a0, vi a1, vi a2, vu, vu] [] κ I L Z) (kf : b1 = b0 → Ev E d M_X11_readThing 26 [vr a0, vi a1, vi a2, vu, vu] [] κ I L Z) : Ev E d M_X11_readThing 22 [vr a0, vi a1, vi a2, vu, vu] [vl b0, vl b1] κ I L Z := E_lcmp_ne dX11_readThing_22 dX11_readThing_23 hx hy kt kf (by decide)
theorem t77_X11_readThing_26 {E : En} {d : Nat} {κ : Kp} {I L : MI} {Z : Zt} {a0 : Nat} {a1 a2 : Int}  (k : Ev E d M_X11_readThing 27 [vr a0, vi a1, vi a2, vu, vu] [vr a0] κ I L Z) : Ev E d M_X11_readThing 26 [vr a0, vi a1, vi a2, vu, vu] [] κ I L Z := E_aload_n dX11_readThing_26 rfl k
theorem t77_X11_readThing_27 {E : En} {d : Nat} {κ : Kp} {I L : MI} {Z : Zt} {a0 b0 : Nat} {a1 a2 : Int}  (k : Ev E d M_X11_readThing 28 [vr a0, vi a1, vi a2, vu, vu] [vi 1, vr b0] κ I L Z) : Ev E d M_X11_readThing 27 [vr a0, vi a1, vi a2, vu, vu] [vr b0] κ I L Z := E_iconst (v := 1) dX11_readThing_27 rfl k
theorem t77_X11_readThing_28 {E : En} {d d' : Nat} {cs : Nat × Nat} {I L : MI} {Z : Zt} {a0 b1 : Nat} {a1 a2 b0 : Int} {Q : MI → MI → Prop} (hs : G0.1[b1]? = some (.inl 11)) (hM : CQv E d' M_X11_must [vr b1, vi b0] I L Q) (hlt : d' + 1 ≤ d) (kk : ∀ (I' L' : MI), Q I' L' → Ev E d M_X11_readThing 31 [vr a0, vi a1, vi a2, vu, vu] [] (G0, cs) I' L' Z) (hc1 : cs.1 ≤ M_X11_readThing.2.2.2.2.1 := by decide) (hc2 : cs.2 ≤ M_X11_readThing.2.2.2.2.2 := by decide) : Ev E d M_X11_readThing 28 [vr a0, vi a1, vi a2, vu, vu] [vi b0, vr b1] (G0, cs) I L Z := E_callV (as := [vi b0]) (rest := []) (n := 1) hM dX11_readThing_28 wM_RX11_136 wS_X11_must wV_X11_must hs (by decide) rfl hlt wC_X11_must wI_X11 (by decide +kernel) rfl (by decide) (Nat.le_of_ble_eq_true rfl) hc1 hc2 rfl (fun r g' I' L' h => by obtain ⟨rfl, rfl, h⟩ := h; exact kk I' L' h)
theorem t77_X11_readThing_31 {E : En} {d : Nat} {κ : Kp} {I L : MI} {Z : Zt} {a0 : Nat} {a1 a2 : Int}  (k : Ev E d M_X11_readThing 32 [vr a0, vi a1, vi a2, vu, vu] [vr a0] κ I L Z) : Ev E d M_X11_readThing 31 [vr a0, vi a1, vi a2, vu, vu] [] κ I L Z := E_aload_n dX11_readThing_31 rfl k
theorem t77_X11_readThing_32 {E : En} {d : Nat} {κ : Kp} {I L : MI} {Z : Zt} {a0 b0 : Nat} {a1 a2 : Int}  (k : Ev E d M_X11_readThing 33 [vr a0, vi a1, vi a2, vu, vu] [vi a1, vr b0] κ I L Z) : Ev E d M_X11_readThing 32 [vr a0, vi a1, vi a2, vu, vu] [vr b0] κ I L Z := E_iload_n dX11_readThing_32 rfl k
theorem t77_X11_readThing_33 {E : En} {d d' : Nat} {cs : Nat × Nat} {I L : MI} {Z : Zt} {a0 b1 : Nat} {a1 a2 b0 : Int} {Q : Int → MI → MI → Prop} (hs : G0.1[b1]? = some (.inl 11)) (hM : CQi E d' M_X11_newNumber [vr b1, vi b0] I L Q) (hlt : d' + 1 ≤ d) (kk : ∀ (z : Int) (I' L' : MI), Q z I' L' → Ev E d M_X11_readThing 36 [vr a0, vi a1, vi a2, vu, vu] [vi z] (G0, cs) I' L' Z) (hc1 : cs.1 ≤ M_X11_readThing.2.2.2.2.1 := by decide) (hc2 : cs.2 ≤ M_X11_readThing.2.2.2.2.2 := by decide) : Ev E d M_X11_readThing 33 [vr a0, vi a1, vi a2, vu, vu] [vi b0, vr b1] (G0, cs) I L Z := E_callV (as := [vi b0]) (rest := []) (n := 1) hM dX11_readThing_33 wM_RX11_154 wS_X11_newNumber wV_X11_newNumber hs (by decide) rfl hlt wC_X11_newNumber wI_X11 (by decide +kernel) rfl (by decide) (Nat.le_of_ble_eq_true rfl) hc1 hc2 rfl (fun r g' I' L' h => by obtain ⟨rfl, z, rfl, h⟩ := h; exact kk z I' L' h)
theorem t77_X11_readThing_36 {E : En} {d : Nat} {κ : Kp} {I L : MI} {Z : Zt} {a0 : Nat} {a1 a2 b0 : Int}  (k : Ev E d M_X11_readThing 37 [vr a0, vi a1, vi b0, vu, vu] [] κ I L Z) : Ev E d M_X11_readThing 36 [vr a0, vi a1, vi a2, vu, vu] [vi b0] κ I L Z := E_istore_n dX11_readThing_36 rfl (Nat.le_of_ble_eq_true rfl) k
/-! THE REFERENCE READS: a thing -/
def RFt (I J : MI) : Prop := (∀ o, o ≠ 78 → o ≠ 83 → ∀ k, J o k = I o k) ∧ ∀ k, k < 13 ∨ 18 < k → J 78 k = I 78 k
theorem RFt_r (I : MI) : RFt I I := ⟨fun o _ _ k => rfl, fun k _ => rfl⟩
theorem RFt_t {I J K : MI} (h : RFt I J) (g : RFt J K) : RFt I K := ⟨fun o o1 o2 k => (g.1 o o1 o2 k).trans (h.1 o o1 o2 k), fun k hk => (g.2 k hk).trans (h.2 k hk)⟩
theorem RFs_T {I J : MI} (h : RFs I J) : RFt I J := ⟨fun o o1 _ k => h.1 o o1 k, h.2⟩
theorem RFt_83 {I J : MI} (h : RFt I J) {k z : Int} : RFt I (up2 J 83 k z) := ⟨fun o o1 o2 j => by rw [up2_ne (.inl o2)]; exact h.1 o o1 o2 j, fun j hj => by rw [up2_ne (.inl (by decide))]; exact h.2 j hj⟩
theorem RR_83 {I : MI} {B : Int → Int} {n k z : Int} {s : PR} (h : RR I B n s) : RR (up2 I 83 k z) B n s := by
  obtain ⟨h1, h2, h3, h4, h5, e, he, e1, e2, e3, e4, t1, t2, t3, t4⟩ := h
  have u : ∀ j, up2 I 83 k z 78 j = I 78 j := fun j => up2_ne (.inl (by decide))
  refine ⟨by rw [u]; exact h1, ⟨h2.1, fun j j0 j1 => by rw [up2_ne (.inl (by decide))]; exact h2.2.1 j j0 j1, h2.2.2⟩, by rw [u]; exact h3, fun q => by rw [u]; exact h4 q, h5, e, he, e1, e2, e3, e4, by rw [u]; exact t1, by rw [u]; exact t2, by rw [u, u]; exact t3, by rw [u]; exact t4⟩
def rThQ (I L : MI) (B : Int → Int) (n : Int) (r : PR × MI) : MI → MI → Prop := fun I' L' => L' = L ∧ RFt I I' ∧ RR I' B n r.1 ∧ DR I' r.2
theorem sgnR_x {B : Int → Int} {s : PR} (h : pf s ≠ 0) : sgnR B s = s := by
  rw [sgnR_e]
  unfold mstR
  rw [if_neg h]
theorem DR_T {I D : MI} (h : DR I D) {a o s : Int} (hn : D 4 0 < 12) (ha : 2 ≤ a ∧ a ≤ 199) (ho : (o = 0 ∨ (2 ≤ o ∧ o ≤ 199)) ∧ o ≠ a) (hs : 0 ≤ s ∧ s ≤ 4) : DR (up2 (up2 (up2 (up2 I 83 (3 + 3 * D 4 0) a) 83 (3 + 3 * D 4 0 + 1) o) 83 (3 + 3 * D 4 0 + 2) s) 83 0 (D 4 0 + 1)) (addT D 4 a o s) := by
  have n := DR_n h
  have nb := h.1.1
  have h0 : 0 ≤ D 4 0 := nb.1.1
  have e0 : addT D 4 a o s 4 0 = D 4 0 + 1 := by simp [addT, up2_at]
  have e1 : addT D 4 a o s 4 1 = D 4 1 := by simp [addT, up2_at]
  have e2 : addT D 4 a o s 4 2 = D 4 2 := by simp [addT, up2_at]
  have eo : ∀ q : Nat, (q < 4 ∨ 7 < q) → ∀ k, addT D 4 a o s q k = D q k := fun q hq k => by
    unfold addT
    rw [up2_ne (.inl (by omega)), up2_ne (.inl (by omega)), up2_ne (.inl (by omega)), up2_ne (.inl (by omega))]
  have rd : ∀ k : Int, k ≠ 0 → k ≠ 3 + 3 * D 4 0 → k ≠ 3 + 3 * D 4 0 + 1 → k ≠ 3 + 3 * D 4 0 + 2 → up2 (up2 (up2 (up2 I 83 (3 + 3 * D 4 0) a) 83 (3 + 3 * D 4 0 + 1) o) 83 (3 + 3 * D 4 0 + 2) s) 83 0 (D 4 0 + 1) 83 k = I 83 k := fun k k1 k2 k3 k4 => by
    rw [up2_ne (.inr k1), up2_ne (.inr k4), up2_ne (.inr k3), up2_ne (.inr k2)]
  refine DR_mk (Wf_T h.1 hn ha ho hs) ⟨by rw [up2_eq, e0], by rw [rd 1 (by omega) (by omega) (by omega) (by omega), e1]; exact n.2.1, by rw [rd 2 (by omega) (by omega) (by omega) (by omega), e2]; exact n.2.2⟩ (fun k k0 k1 => ?_) (fun q q0 q1 => ?_) (fun k k0 k1 => ?_)
  · rw [e0] at k1
    by_cases e : k = D 4 0
    · subst e
      refine ⟨?_, ?_, ?_⟩
      · rw [up2_ne (.inr (by omega)), up2_ne (.inr (by omega)), up2_ne (.inr (by omega)), up2_eq]; simp [addT, up2_at]
      · rw [up2_ne (.inr (by omega)), up2_ne (.inr (by omega)), up2_eq]; simp [addT, up2_at]
      · rw [up2_ne (.inr (by omega)), up2_eq]; simp [addT, up2_at]
    · have t := DR_t h k0 (by omega)
      rw [rd _ (by omega) (by omega) (by omega) (by omega), rd _ (by omega) (by omega) (by omega) (by omega), rd _ (by omega) (by omega) (by omega) (by omega), t.1, t.2.1, t.2.2]
      refine ⟨?_, ?_, ?_⟩ <;> simp [addT, up2_at, e]
  · rw [rd _ (by omega) (by omega) (by omega) (by omega), rd _ (by omega) (by omega) (by omega) (by omega), e1]
    have r := DR_r h q0 q1
    simpa only [eo (4 + 4) (by decide), eo (4 + 5) (by decide), eo (4 + 6) (by decide)] using r
  · rw [e2] at k1
    rw [rd _ (by omega) (by omega) (by omega) (by omega), rd _ (by omega) (by omega) (by omega) (by omega), eo (4 + 7) (by decide), eo (4 + 8) (by decide)]
    exact DR_p h k0 k1
theorem thg1_x {B : Int → Int} {D : MI} {s : PR} (h : pf s ≠ 0) : thg1 B D s = (s, D) := by
  unfold thg1
  rw [numR_x h]
  unfold thg2
  rw [if_neg (fun q => h q.1)]
  unfold thg3
  rw [numR_x h, sgnR_x h, if_neg h]
theorem c_X11_readThing {E : En} {I L D : MI} {B : Int → Int} {n : Int} {s : PR} (hB : BOK B) (h : RR I B n s) (hd : DR I D) (h0 : pf s = 0) (h2 : pk s = 2) : CQv E 8 M_X11_readThing [vr 78] I L (rThQ I L B n (thgR B s D)) := by
  have g83 : G0.1[83]? = some (.inr (0, 65)) := rfl
  have nn := (DR_n hd).1
  have nb := hd.1.1.1
  have i0 : Ir (12 : Int) := by omega
  refine CM_of' (al := [vr _, vu, vu, vu, vu]) rfl (Nat.le_of_ble_eq_true rfl) rfl (fun hM => ?_)
  have k37 : ∀ (I1 : MI) (s1 : PR) (z1 z2 a o : Int), RFt I I1 → RR I1 B n s1 → DR I1 D → (pf s1 = 0 → D 4 0 < 12) → (0 ≤ z1 ∧ z1 ≤ 999) → (0 ≤ z2 ∧ z2 ≤ 999) → (pf s1 = 0 → z1 = a ∧ z2 = o ∧ (2 ≤ a ∧ a ≤ 199) ∧ (o = 0 ∨ (2 ≤ o ∧ o ≤ 199)) ∧ o ≠ a) → thgR B s D = thg3 B D a o s1 → Ev E 8 M_X11_readThing 37 [vr 78, vi z1, vi z2, vu, vu] [] (G0, 0, 0) I1 L (ZQ E M_X11_readThing (QQv (rThQ I L B n (thgR B s D)))) := by
    intro I1 s1 z1 z2 a o f1 r1 d1 hn b1 b2 hz hth
    rw [hth]
    refine (t77_X11_readThing_37 (t77_X11_readThing_38 (t77_X11_readThing_39 (t77_X11_readThing_40 (by first | assumption | rfl) ((c_X11_number (s := s1) hB r1 (by omega) (by omega))) (by first | decide | omega) (fun z40 I40 L40 q40 => ?_)))))
    -- 1 leaves: :call40
    obtain ⟨⟨rfl, f2, r2⟩, hz3, b3⟩ := q40
    have d2 := DR_f d1 (f2.1 83 (by decide))
    refine (t77_X11_readThing_43 (t77_X11_readThing_44 (t77_X11_readThing_45 (by first | assumption | rfl) ((c_X11_mustEnd hB r2)) (by first | decide | omega) (fun I45 L45 q45 => ?_))))
    -- 1 leaves: :call45
    obtain ⟨rfl, f3, r3⟩ := q45
    have d3 := DR_f d2 (f3.1 83 (by decide))
    have f4 := RFt_t (RFt_t f1 (RFs_T f2)) (RFs_T f3)
    have h17 := r3.2.2.1
    have n3 := (DR_n d3).1
    by_cases pz : pf (sgnR B (numR B s1 0 4 true)) = 0
    · have g1 := sgn_good pz
      have g2 := num_good g1.1
      have g3 := hz g2.1
      have hn2 := hn g2.1
      have e3 := hz3 g1.1
      have ev := g2.2.2.2.2.2.1
      obtain ⟨rfl, rfl, ha, ho⟩ := g3
      have e830 : up2 (up2 (up2 I45 83 (3 + 3 * I45 83 0) z1) 83 (3 + 3 * I45 83 0 + 1) z2) 83 (3 + 3 * I45 83 0 + 2) z40 83 0 = I45 83 0 := by
        rw [up2_ne (.inr (by omega)), up2_ne (.inr (by omega)), up2_ne (.inr (by omega))]
      refine (t77_X11_readThing_48 (t77_X11_readThing_49 (by first | assumption | rfl) (fun r49 => (t77_X11_readThing_52 (by omega) (fun c52 => (t77_X11_readThing_105 ?_)) (fun c52 => (t77_X11_readThing_55 (t77_X11_readThing_56 (t77_X11_readThing_57 (t77_X11_readThing_58 (by first | assumption | rfl) (by first | assumption | rfl) (t77_X11_readThing_61 (t77_X11_readThing_62 (by first | assumption | rfl) (by omega) (by omega) (by omega) (fun r62 => (t77_X11_readThing_63 (t77_X11_readThing_64 (t77_X11_readThing_65 (t77_X11_readThing_67 (t77_X11_readThing_68 (by first | assumption | rfl) (by first | assumption | rfl) (t77_X11_readThing_71 (t77_X11_readThing_73 (t77_X11_readThing_74 (by first | assumption | rfl) (by omega) (by omega) (by omega) (by omega) (t77_X11_readThing_75 (t77_X11_readThing_76 (by first | assumption | rfl) (by first | assumption | rfl) (t77_X11_readThing_79 (t77_X11_readThing_81 (t77_X11_readThing_82 (t77_X11_readThing_83 (t77_X11_readThing_84 (by first | assumption | rfl) (by omega) (by omega) (by omega) (by omega) (t77_X11_readThing_85 (t77_X11_readThing_86 (by first | assumption | rfl) (by first | assumption | rfl) (t77_X11_readThing_89 (t77_X11_readThing_91 (t77_X11_readThing_92 (t77_X11_readThing_93 (t77_X11_readThing_94 (by first | assumption | rfl) (by omega) (by omega) (by omega) (by omega) (t77_X11_readThing_95 (t77_X11_readThing_96 (by first | assumption | rfl) (by first | assumption | rfl) (t77_X11_readThing_99 (t77_X11_readThing_100 (t77_X11_readThing_101 (by first | assumption | rfl) (by omega) (by omega) (by omega) (fun r101 => (t77_X11_readThing_102 (t77_X11_readThing_103 (t77_X11_readThing_104 (by first | assumption | rfl) (by omega) (by omega) (by omega) (by omega) (t77_X11_readThing_105v1 ?_))))))))))))))))))))))))))))))))))))))))))))
      -- 2 leaves: 52t :ret105 | 52f :ret105
      · omega
      · rw [e830, n3]
        refine qqv ⟨rfl, RFt_83 (RFt_83 (RFt_83 (RFt_83 f4))), ?_⟩
        unfold thg3
        rw [if_pos pz, ev, ← e3]
        exact ⟨RR_83 (RR_83 (RR_83 (RR_83 r3))), DR_T d3 hn2 ha ho (by omega)⟩
    · have et : thg3 B D a o s1 = (sgnR B (numR B s1 0 4 true), D) := by unfold thg3; rw [if_neg pz]
      rw [et]
      refine (t77_X11_readThing_48 (t77_X11_readThing_49 (by first | assumption | rfl) (fun r49 => (t77_X11_readThing_52 (by omega) (fun c52 => (t77_X11_readThing_105 ?_)) (fun c52 => ?_)))))
      -- 2 leaves: 52t :ret105 | 52f :->55
      · exact qqv ⟨rfl, f4, r3, d3⟩
      · omega
  have es1 : thgR B s D = thg1 B D (if I 83 0 = 12 then failR s 3 else nextR B s) := by
    unfold thgR
    by_cases q : D 4 0 < 12
    · rw [if_pos q, if_neg (by omega)]
    · rw [if_neg q, if_pos (by omega), thg1_x (by show (3 : Int) ≠ 0; decide)]
  have hs12 : pf (if I 83 0 = 12 then failR s 3 else nextR B s) = 0 → D 4 0 < 12 := fun q => by
    split at q
    · exact absurd q (by show (3 : Int) ≠ 0; decide)
    · omega
  refine (t77_X11_readThing_0 (t77_X11_readThing_1 (t77_X11_readThing_2 (t77_X11_readThing_4 (by first | assumption | rfl) ((c_X11_begins (i := 0) (m := 12) hB h (by decide) i0 h0 h2)) (by first | decide | omega) (fun I4 L4 q4 => ?_)))))
  -- 1 leaves: :call4
  generalize (if I 83 0 = 12 then failR s 3 else nextR B s) = s1 at *
  obtain ⟨rfl, f1, r1⟩ := q4
  have d1 := DR_f hd (f1.1 83 (by decide))
  refine (t77_X11_readThing_7 (t77_X11_readThing_8 (t77_X11_readThing_9 (by first | assumption | rfl) ((c_X11_newNumber (but := 0) hB r1 d1 (by omega))) (by first | decide | omega) (fun z9 I9 L9 q9 => ?_))))
  -- 1 leaves: :call9
  obtain ⟨⟨rfl, f2, r2⟩, hz, b9⟩ := q9
  have d2 := DR_f d1 (f2.1 83 (by decide))
  have f3 := RFt_t (RFs_T f1) (RFs_T f2)
  have nm := (nm_is hB r2).2.2.2
  have good := fun z => num_good (B := B) (s := s1) (lo := 2) (hi := 199) (f := newN D s1 0) z
  have e2 : thg1 B D s1 = thg2 B D (numV s1 2 199 (newN D s1 0)) (numR B s1 2 199 (newN D s1 0)) := rfl
  rw [e2] at es1
  generalize hs2 : numR B s1 2 199 (newN D s1 0) = s2 at *
  have rnm : Jr (nmV B s2) ∨ True := .inr trivial
  refine (t77_X11_readThing_12 (t77_X11_readThing_13 (t77_X11_readThing_14 (t77_X11_readThing_15 (t77_X11_readThing_16 (by first | assumption | rfl) ((c_X11_name hB r2)) (by first | decide | omega) (fun r16 => (t77_X11_readThing_19 (t77_X11_readThing_22 (by omega) (by omega) (fun c22 => ?_) (fun c22 => ?_)))))))))
  -- 2 leaves: 22t :->37 | 22f :->26
  · have no : ¬ (pf s2 = 0 ∧ isWP B s2 1008) := fun z => c22 (nm.mpr z)
    refine k37 _ s2 z9 0 (numV s1 2 199 (newN D s1 0)) 0 f3 r2 d2 (fun z => hs12 (good z).1) b9 (by decide) (fun z => ?_) ?_
    · have g := good z
      have := hz z
      exact ⟨by omega, rfl, by omega, .inl rfl, by omega⟩
    · rw [es1]
      unfold thg2
      rw [if_neg (fun z => no ⟨z.1, bP_i.mp z.2⟩)]
  · have yes := nm.mp c22
    have g := good yes.1
    have e9 : z9 = numV s1 2 199 (newN D s1 0) := by have := hz yes.1; omega
    have hth : thgR B s D = thg3 B D z9 (numV (nextR B s2) 2 199 (newN D (nextR B s2) z9)) (numR B (nextR B s2) 2 199 (newN D (nextR B s2) z9)) := by
      rw [es1, e9]
      unfold thg2
      rw [if_pos ⟨yes.1, bP_t yes.2⟩]
    refine (t77_X11_readThing_26 (t77_X11_readThing_27 (t77_X11_readThing_28 (by first | assumption | rfl) ((c_X11_must (b := 1) hB r2 (.inr rfl) (fun _ _ => .inl yes.2.1))) (by first | decide | omega) (fun I28 L28 q28 => ?_))))
    -- 1 leaves: :call28
    have em : mstR B s2 (decide ((1 : Int) = 1)) = nextR B s2 := by unfold mstR; rw [if_pos yes.1, if_pos (by decide)]
    rw [em] at q28
    obtain ⟨rfl, f4, r4⟩ := q28
    have d4 := DR_f d2 (f4.1 83 (by decide))
    refine (t77_X11_readThing_31 (t77_X11_readThing_32 (t77_X11_readThing_33 (by first | assumption | rfl) ((c_X11_newNumber (but := z9) hB r4 d4 (by omega))) (by first | decide | omega) (fun z33 I33 L33 q33 => ?_))))
    -- 1 leaves: :call33
    obtain ⟨⟨rfl, f5, r5⟩, hz5, b5⟩ := q33
    have d5 := DR_f d4 (f5.1 83 (by decide))
    refine (t77_X11_readThing_36 ?_)
    -- 1 leaves: :->37
    refine k37 _ _ z9 z33 z9 _ (RFt_t f3 (RFt_t (RFs_T f4) (RFs_T f5))) r5 d5 (fun _ => hs12 g.1) b9 b5 (fun z => ?_) hth
    have g5 := num_good z
    have e5 := hz5 z
    have nw : newP D (pv (nextR B s2)) z9 := bP_i.mp g5.2.2.2.2.1
    refine ⟨rfl, by omega, by omega, .inr (by omega), ?_⟩
    rw [g5.2.2.2.2.2.1]
    exact nw.1
