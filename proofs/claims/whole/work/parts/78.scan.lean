theorem t78_X11_readRule_0 {E : En} {d : Nat} {κ : Kp} {I L : MI} {Z : Zt} {a0 : Nat}  (k : Ev E d M_X11_readRule 1 [vr a0, vu, vu, vu] [vr a0] κ I L Z) : Ev E d M_X11_readRule 0 [vr a0, vu, vu, vu] [] κ I L Z := E_aload_n dX11_readRule_0 rfl k
theorem t78_X11_readRule_1 {E : En} {d : Nat} {κ : Kp} {I L : MI} {Z : Zt} {a0 b0 : Nat}  (k : Ev E d M_X11_readRule 2 [vr a0, vu, vu, vu] [vi 1, vr b0] κ I L Z) : Ev E d M_X11_readRule 1 [vr a0, vu, vu, vu] [vr b0] κ I L Z := E_iconst (v := 1) dX11_readRule_1 rfl k
theorem t78_X11_readRule_2 {E : En} {d d' : Nat} {cs : Nat × Nat} {I L : MI} {Z : Zt} {a0 b1 : Nat} {b0 : Int} {Q : MI → MI → Prop} (hs : G0.1[b1]? = some (.inl 11)) (hM : CQv E d' M_X11_must [vr b1, vi b0] I L Q) (hlt : d' + 1 ≤ d) (kk : ∀ (I' L' : MI), Q I' L' → Ev E d M_X11_readRule 5 [vr a0, vu, vu, vu] [] (G0, cs) I' L' Z) (hc1 : cs.1 ≤ M_X11_readRule.2.2.2.2.1 := by decide) (hc2 : cs.2 ≤ M_X11_readRule.2.2.2.2.2 := by decide) : Ev E d M_X11_readRule 2 [vr a0, vu, vu, vu] [vi b0, vr b1] (G0, cs) I L Z := E_callV (as := [vi b0]) (rest := []) (n := 1) hM dX11_readRule_2 wM_RX11_136 wS_X11_must wV_X11_must hs (by decide) rfl hlt wC_X11_must wI_X11 (by decide +kernel) rfl (by decide) (Nat.le_of_ble_eq_true rfl) hc1 hc2 rfl (fun r g' I' L' h => by obtain ⟨rfl, rfl, h⟩ := h; exact kk I' L' h)
theorem t78_X11_readRule_56 {E : En} {d : Nat} {κ : Kp} {I L : MI} {Z : Zt} {a0 : Nat} {a1 : Int}  (k : Ev E d M_X11_readRule 57 [vr a0, vi a1, vu, vu] [vr a0] κ I L Z) : Ev E d M_X11_readRule 56 [vr a0, vi a1, vu, vu] [] κ I L Z := E_aload_n dX11_readRule_56 rfl k
theorem t78_X11_readRule_57 {E : En} {d : Nat} {κ : Kp} {I L : MI} {Z : Zt} {a0 b0 : Nat} {a1 : Int}  (k : Ev E d M_X11_readRule 58 [vr a0, vi a1, vu, vu] [vi 0, vr b0] κ I L Z) : Ev E d M_X11_readRule 57 [vr a0, vi a1, vu, vu] [vr b0] κ I L Z := E_iconst (v := 0) dX11_readRule_57 rfl k
theorem t78_X11_readRule_58 {E : En} {d : Nat} {κ : Kp} {I L : MI} {Z : Zt} {a0 b1 : Nat} {a1 b0 : Int}  (k : Ev E d M_X11_readRule 59 [vr a0, vi a1, vu, vu] [vi 4, vi b0, vr b1] κ I L Z) : Ev E d M_X11_readRule 58 [vr a0, vi a1, vu, vu] [vi b0, vr b1] κ I L Z := E_iconst (v := 4) dX11_readRule_58 rfl k
theorem t78_X11_readRule_59 {E : En} {d d' : Nat} {cs : Nat × Nat} {I L : MI} {Z : Zt} {a0 b2 : Nat} {a1 b0 b1 : Int} {Q : Int → MI → MI → Prop} (hs : G0.1[b2]? = some (.inl 11)) (hM : CQi E d' M_X11_number [vr b2, vi b1, vi b0] I L Q) (hlt : d' + 1 ≤ d) (kk : ∀ (z : Int) (I' L' : MI), Q z I' L' → Ev E d M_X11_readRule 62 [vr a0, vi a1, vu, vu] [vi z] (G0, cs) I' L' Z) (hc1 : cs.1 ≤ M_X11_readRule.2.2.2.2.1 := by decide) (hc2 : cs.2 ≤ M_X11_readRule.2.2.2.2.2 := by decide) : Ev E d M_X11_readRule 59 [vr a0, vi a1, vu, vu] [vi b0, vi b1, vr b2] (G0, cs) I L Z := E_callV (as := [vi b1, vi b0]) (rest := []) (n := 2) hM dX11_readRule_59 wM_RX11_146 wS_X11_number wV_X11_number hs (by decide) rfl hlt wC_X11_number wI_X11 (by decide +kernel) rfl (by decide) (Nat.le_of_ble_eq_true rfl) hc1 hc2 rfl (fun r g' I' L' h => by obtain ⟨rfl, z, rfl, h⟩ := h; exact kk z I' L' h)
theorem t78_X11_readRule_62 {E : En} {d : Nat} {κ : Kp} {I L : MI} {Z : Zt} {a0 : Nat} {a1 b0 : Int}  (k : Ev E d M_X11_readRule 63 [vr a0, vi b0, vu, vu] [] κ I L Z) : Ev E d M_X11_readRule 62 [vr a0, vi a1, vu, vu] [vi b0] κ I L Z := E_istore_n dX11_readRule_62 rfl (Nat.le_of_ble_eq_true rfl) k
theorem t78_X11_readRule_63 {E : En} {d : Nat} {κ : Kp} {I L : MI} {Z : Zt} {a0 : Nat} {a1 : Int}  (k : Ev E d M_X11_readRule 64 [vr a0, vi a1, vu, vu] [vr a0] κ I L Z) : Ev E d M_X11_readRule 63 [vr a0, vi a1, vu, vu] [] κ I L Z := E_aload_n dX11_readRule_63 rfl k
theorem t78_X11_readRule_64 {E : En} {d : Nat} {κ : Kp} {I L : MI} {Z : Zt} {a0 b0 : Nat} {a1 : Int}  (k : Ev E d M_X11_readRule 65 [vr a0, vi a1, vu, vu] [vi 0, vr b0] κ I L Z) : Ev E d M_X11_readRule 64 [vr a0, vi a1, vu, vu] [vr b0] κ I L Z := E_iconst (v := 0) dX11_readRule_64 rfl k
theorem t78_X11_readRule_65 {E : En} {d : Nat} {κ : Kp} {I L : MI} {Z : Zt} {a0 b1 : Nat} {a1 b0 : Int}  (k : Ev E d M_X11_readRule 67 [vr a0, vi a1, vu, vu] [vi 9, vi b0, vr b1] κ I L Z) : Ev E d M_X11_readRule 65 [vr a0, vi a1, vu, vu] [vi b0, vr b1] κ I L Z := E_bipush (v := 9) dX11_readRule_65 rfl k
theorem t78_X11_readRule_67 {E : En} {d d' : Nat} {cs : Nat × Nat} {I L : MI} {Z : Zt} {a0 b2 : Nat} {a1 b0 b1 : Int} {Q : Int → MI → MI → Prop} (hs : G0.1[b2]? = some (.inl 11)) (hM : CQi E d' M_X11_number [vr b2, vi b1, vi b0] I L Q) (hlt : d' + 1 ≤ d) (kk : ∀ (z : Int) (I' L' : MI), Q z I' L' → Ev E d M_X11_readRule 70 [vr a0, vi a1, vu, vu] [vi z] (G0, cs) I' L' Z) (hc1 : cs.1 ≤ M_X11_readRule.2.2.2.2.1 := by decide) (hc2 : cs.2 ≤ M_X11_readRule.2.2.2.2.2 := by decide) : Ev E d M_X11_readRule 67 [vr a0, vi a1, vu, vu] [vi b0, vi b1, vr b2] (G0, cs) I L Z := E_callV (as := [vi b1, vi b0]) (rest := []) (n := 2) hM dX11_readRule_67 wM_RX11_146 wS_X11_number wV_X11_number hs (by decide) rfl hlt wC_X11_number wI_X11 (by decide +kernel) rfl (by decide) (Nat.le_of_ble_eq_true rfl) hc1 hc2 rfl (fun r g' I' L' h => by obtain ⟨rfl, z, rfl, h⟩ := h; exact kk z I' L' h)
theorem t78_X11_readRule_70 {E : En} {d : Nat} {κ : Kp} {I L : MI} {Z : Zt} {a0 : Nat} {a1 b0 : Int}  (k : Ev E d M_X11_readRule 71 [vr a0, vi a1, vi b0, vu] [] κ I L Z) : Ev E d M_X11_readRule 70 [vr a0, vi a1, vu, vu] [vi b0] κ I L Z := E_istore_n dX11_readRule_70 rfl (Nat.le_of_ble_eq_true rfl) k
theorem t78_X11_readRule_71 {E : En} {d : Nat} {κ : Kp} {I L : MI} {Z : Zt} {a0 : Nat} {a1 a2 : Int}  (k : Ev E d M_X11_readRule 72 [vr a0, vi a1, vi a2, vu] [vr a0] κ I L Z) : Ev E d M_X11_readRule 71 [vr a0, vi a1, vi a2, vu] [] κ I L Z := E_aload_n dX11_readRule_71 rfl k
theorem t78_X11_readRule_72 {E : En} {d : Nat} {κ : Kp} {I L : MI} {Z : Zt} {a0 b0 : Nat} {a1 a2 : Int}  (k : Ev E d M_X11_readRule 73 [vr a0, vi a1, vi a2, vu] [vi a2, vr b0] κ I L Z) : Ev E d M_X11_readRule 72 [vr a0, vi a1, vi a2, vu] [vr b0] κ I L Z := E_iload_n dX11_readRule_72 rfl k
theorem t78_X11_readRule_73 {E : En} {d : Nat} {κ : Kp} {I L : MI} {Z : Zt} {a0 b1 : Nat} {a1 a2 b0 : Int}  (k : Ev E d M_X11_readRule 75 [vr a0, vi a1, vi a2, vu] [vi 9, vi b0, vr b1] κ I L Z) : Ev E d M_X11_readRule 73 [vr a0, vi a1, vi a2, vu] [vi b0, vr b1] κ I L Z := E_bipush (v := 9) dX11_readRule_73 rfl k
theorem t78_X11_readRule_75 {E : En} {d d' : Nat} {cs : Nat × Nat} {I L : MI} {Z : Zt} {a0 b2 : Nat} {a1 a2 b0 b1 : Int} {Q : Int → MI → MI → Prop} (hs : G0.1[b2]? = some (.inl 11)) (hM : CQi E d' M_X11_number [vr b2, vi b1, vi b0] I L Q) (hlt : d' + 1 ≤ d) (kk : ∀ (z : Int) (I' L' : MI), Q z I' L' → Ev E d M_X11_readRule 78 [vr a0, vi a1, vi a2, vu] [vi z] (G0, cs) I' L' Z) (hc1 : cs.1 ≤ M_X11_readRule.2.2.2.2.1 := by decide) (hc2 : cs.2 ≤ M_X11_readRule.2.2.2.2.2 := by decide) : Ev E d M_X11_readRule 75 [vr a0, vi a1, vi a2, vu] [vi b0, vi b1, vr b2] (G0, cs) I L Z := E_callV (as := [vi b1, vi b0]) (rest := []) (n := 2) hM dX11_readRule_75 wM_RX11_146 wS_X11_number wV_X11_number hs (by decide) rfl hlt wC_X11_number wI_X11 (by decide +kernel) rfl (by decide) (Nat.le_of_ble_eq_true rfl) hc1 hc2 rfl (fun r g' I' L' h => by obtain ⟨rfl, z, rfl, h⟩ := h; exact kk z I' L' h)
theorem t78_X11_readRule_78 {E : En} {d : Nat} {κ : Kp} {I L : MI} {Z : Zt} {a0 : Nat} {a1 a2 b0 : Int}  (k : Ev E d M_X11_readRule 79 [vr a0, vi a1, vi a2, vi b0] [] κ I L Z) : Ev E d M_X11_readRule 78 [vr a0, vi a1, vi a2, vu] [vi b0] κ I L Z := E_istore_n dX11_readRule_78 rfl (Nat.le_of_ble_eq_true rfl) k
theorem t78_X11_readRule_79 {E : En} {d : Nat} {κ : Kp} {I L : MI} {Z : Zt} {a0 : Nat} {a1 a2 a3 : Int}  (k : Ev E d M_X11_readRule 80 [vr a0, vi a1, vi a2, vi a3] [vr a0] κ I L Z) : Ev E d M_X11_readRule 79 [vr a0, vi a1, vi a2, vi a3] [] κ I L Z := E_aload_n dX11_readRule_79 rfl k
theorem t78_X11_readRule_80 {E : En} {d d' : Nat} {cs : Nat × Nat} {I L : MI} {Z : Zt} {a0 b0 : Nat} {a1 a2 a3 : Int} {Q : MI → MI → Prop} (hs : G0.1[b0]? = some (.inl 11)) (hM : CQv E d' M_X11_mustEnd [vr b0] I L Q) (hlt : d' + 1 ≤ d) (kk : ∀ (I' L' : MI), Q I' L' → Ev E d M_X11_readRule 83 [vr a0, vi a1, vi a2, vi a3] [] (G0, cs) I' L' Z) (hc1 : cs.1 ≤ M_X11_readRule.2.2.2.2.1 := by decide) (hc2 : cs.2 ≤ M_X11_readRule.2.2.2.2.2 := by decide) : Ev E d M_X11_readRule 80 [vr a0, vi a1, vi a2, vi a3] [vr b0] (G0, cs) I L Z := E_callV (as := []) (rest := []) (n := 0) hM dX11_readRule_80 wM_RX11_163 wS_X11_mustEnd wV_X11_mustEnd hs (by decide) rfl hlt wC_X11_mustEnd wI_X11 (by decide +kernel) rfl (by decide) (Nat.le_of_ble_eq_true rfl) hc1 hc2 rfl (fun r g' I' L' h => by obtain ⟨rfl, rfl, h⟩ := h; exact kk I' L' h)
theorem t78_X11_readRule_83 {E : En} {d : Nat} {κ : Kp} {I L : MI} {Z : Zt} {a0 : Nat} {a1 a2 a3 : Int}  (k : Ev E d M_X11_readRule 84 [vr a0, vi a1, vi a2, vi a3] [vr a0] κ I L Z) : Ev E d M_X11_readRule 83 [vr a0, vi a1, vi a2, vi a3] [] κ I L Z := E_aload_n dX11_readRule_83 rfl k
theorem t78_X11_readRule_84 {E : En} {d : Nat} {κ : Kp} {I L : MI} {Z : Zt} {a0 b0 : Nat} {a1 a2 a3 : Int} (hs : κ.1.1[b0]? = some (.inl 11)) (k : Ir (I b0 17) → Ev E d M_X11_readRule 87 [vr a0, vi a1, vi a2, vi a3] [vi (I b0 17)] κ I L Z) : Ev E d M_X11_readRule 84 [vr a0, vi a1, vi a2, vi a3] [vr b0] κ I L Z := E_getI (ci := 11) (n := 17) dX11_readRule_84 wF_RX11_119 (by decide) hs rfl k
theorem t78_X11_readRule_87 {E : En} {d : Nat} {κ : Kp} {I L : MI} {Z : Zt} {a0 : Nat} {a1 a2 a3 b0 : Int} (hx : Ir b0) (kt : ¬ b0 = 0 → Ev E d M_X11_readRule 126 [vr a0, vi a1, vi a2, vi a3] [] κ I L Z) (kf : b0 = 0 → Ev E d M_X11_readRule 90 [vr a0, vi a1, vi a2, vi a3] [] κ I L Z) : Ev E d M_X11_readRule 87 [vr a0, vi a1, vi a2, vi a3] [vi b0] κ I L Z := E_if_ne dX11_readRule_87 hx kt kf (by decide)
theorem t78_X11_readRule_126 {E : En} {d : Nat} {g : Geo} {I L : MI} {Q : Option AV → Geo → MI → MI → Prop} {cs : Nat × Nat} {a0 : Nat} {a1 a2 a3 : Int} (hq : Q none g I L) (h1 : cs.1 ≤ M_X11_readRule.2.2.2.2.1 := by decide) (h2 : cs.2 ≤ M_X11_readRule.2.2.2.2.2 := by decide) : Ev E d M_X11_readRule 126 [vr a0, vi a1, vi a2, vi a3] [] (g, cs) I L (ZQ E M_X11_readRule Q) := E_return rfl dX11_readRule_126 hq h1 h2
theorem t78_X11_readRule_90 {E : En} {d : Nat} {κ : Kp} {I L : MI} {Z : Zt} {a0 : Nat} {a1 a2 a3 : Int}  (k : Ev E d M_X11_readRule 91 [vr a0, vi a1, vi a2, vi a3] [vr a0] κ I L Z) : Ev E d M_X11_readRule 90 [vr a0, vi a1, vi a2, vi a3] [] κ I L Z := E_aload_n dX11_readRule_90 rfl k
theorem t78_X11_readRule_91 {E : En} {d : Nat} {κ : Kp} {I L : MI} {Z : Zt} {a0 b0 : Nat} {a1 a2 a3 : Int} {q : Nat} (hs : κ.1.1[b0]? = some (.inl 11)) (hq : κ.1.2 b0 6 = some q) (k : Ev E d M_X11_readRule 94 [vr a0, vi a1, vi a2, vi a3] [vr q] κ I L Z) : Ev E d M_X11_readRule 91 [vr a0, vi a1, vi a2, vi a3] [vr b0] κ I L Z := E_getR (ci := 11) (n := 6) dX11_readRule_91 wF_RX11_22 (by decide) hs rfl hq k
theorem t78_X11_readRule_94 {E : En} {d : Nat} {κ : Kp} {I L : MI} {Z : Zt} {a0 b0 : Nat} {a1 a2 a3 : Int}  (k : Ev E d M_X11_readRule 96 [vr a0, vi a1, vi a2, vi a3] [vi 39, vr b0] κ I L Z) : Ev E d M_X11_readRule 94 [vr a0, vi a1, vi a2, vi a3] [vr b0] κ I L Z := E_bipush (v := 39) dX11_readRule_94 rfl k
theorem t78_X11_readRule_96 {E : En} {d : Nat} {κ : Kp} {I L : MI} {Z : Zt} {a0 b1 : Nat} {a1 a2 a3 b0 : Int}  (k : Ev E d M_X11_readRule 97 [vr a0, vi a1, vi a2, vi a3] [vi 2, vi b0, vr b1] κ I L Z) : Ev E d M_X11_readRule 96 [vr a0, vi a1, vi a2, vi a3] [vi b0, vr b1] κ I L Z := E_iconst (v := 2) dX11_readRule_96 rfl k
theorem t78_X11_readRule_97 {E : En} {d : Nat} {κ : Kp} {I L : MI} {Z : Zt} {a0 b2 : Nat} {a1 a2 a3 b0 b1 : Int}  (k : Ev E d M_X11_readRule 98 [vr a0, vi a1, vi a2, vi a3] [vi a1, vi b0, vi b1, vr b2] κ I L Z) : Ev E d M_X11_readRule 97 [vr a0, vi a1, vi a2, vi a3] [vi b0, vi b1, vr b2] κ I L Z := E_iload_n dX11_readRule_97 rfl k
theorem t78_X11_readRule_98 {E : En} {d : Nat} {κ : Kp} {I L : MI} {Z : Zt} {a0 b3 : Nat} {a1 a2 a3 b0 b1 b2 : Int}  (k : Ev E d M_X11_readRule 99 [vr a0, vi a1, vi a2, vi a3] [vi (b1 * b0), vi b2, vr b3] κ I L Z) : Ev E d M_X11_readRule 98 [vr a0, vi a1, vi a2, vi a3] [vi b0, vi b1, vi b2, vr b3] κ I L Z := E_imul dX11_readRule_98 k
theorem t78_X11_readRule_99 {E : En} {d : Nat} {κ : Kp} {I L : MI} {Z : Zt} {a0 b2 : Nat} {a1 a2 a3 b0 b1 : Int}  (k : Ev E d M_X11_readRule 100 [vr a0, vi a1, vi a2, vi a3] [vi (b1 + b0), vr b2] κ I L Z) : Ev E d M_X11_readRule 99 [vr a0, vi a1, vi a2, vi a3] [vi b0, vi b1, vr b2] κ I L Z := E_iadd dX11_readRule_99 k
theorem t78_X11_readRule_100 {E : En} {d : Nat} {κ : Kp} {I L : MI} {Z : Zt} {a0 b1 : Nat} {a1 a2 a3 b0 : Int}  (k : Ev E d M_X11_readRule 101 [vr a0, vi a1, vi a2, vi a3] [vi a2, vi b0, vr b1] κ I L Z) : Ev E d M_X11_readRule 100 [vr a0, vi a1, vi a2, vi a3] [vi b0, vr b1] κ I L Z := E_iload_n dX11_readRule_100 rfl k
theorem t78_X11_readRule_101 {E : En} {d : Nat} {κ : Kp} {I L : MI} {Z : Zt} {a0 b2 : Nat} {a1 a2 a3 b0 b1 : Int} {n : Nat} (ha : κ.1.1[b2]? = some (.inr (0, n))) (h0 : 0 ≤ b1) (h1 : b1 < n) (hi : Ir b1) (hz : Ir b0) (k : Ev E d M_X11_readRule 102 [vr a0, vi a1, vi a2, vi a3] [] κ (up2 I b2 b1 b0) L Z) : Ev E d M_X11_readRule 101 [vr a0, vi a1, vi a2, vi a3] [vi b0, vi b1, vr b2] κ I L Z := E_iast dX11_readRule_101 ha h0 h1 hi hz k
theorem t78_X11_readRule_102 {E : En} {d : Nat} {κ : Kp} {I L : MI} {Z : Zt} {a0 : Nat} {a1 a2 a3 : Int}  (k : Ev E d M_X11_readRule 103 [vr a0, vi a1, vi a2, vi a3] [vr a0] κ I L Z) : Ev E d M_X11_readRule 102 [vr a0, vi a1, vi a2, vi a3] [] κ I L Z := E_aload_n dX11_readRule_102 rfl k
theorem t78_X11_readRule_103 {E : En} {d : Nat} {κ : Kp} {I L : MI} {Z : Zt} {a0 b0 : Nat} {a1 a2 a3 : Int} {q : Nat} (hs : κ.1.1[b0]? = some (.inl 11)) (hq : κ.1.2 b0 6 = some q) (k : Ev E d M_X11_readRule 106 [vr a0, vi a1, vi a2, vi a3] [vr q] κ I L Z) : Ev E d M_X11_readRule 103 [vr a0, vi a1, vi a2, vi a3] [vr b0] κ I L Z := E_getR (ci := 11) (n := 6) dX11_readRule_103 wF_RX11_22 (by decide) hs rfl hq k
theorem t78_X11_readRule_106 {E : En} {d : Nat} {κ : Kp} {I L : MI} {Z : Zt} {a0 b0 : Nat} {a1 a2 a3 : Int}  (k : Ev E d M_X11_readRule 108 [vr a0, vi a1, vi a2, vi a3] [vi 39, vr b0] κ I L Z) : Ev E d M_X11_readRule 106 [vr a0, vi a1, vi a2, vi a3] [vr b0] κ I L Z := E_bipush (v := 39) dX11_readRule_106 rfl k
theorem t78_X11_readRule_108 {E : En} {d : Nat} {κ : Kp} {I L : MI} {Z : Zt} {a0 b1 : Nat} {a1 a2 a3 b0 : Int}  (k : Ev E d M_X11_readRule 109 [vr a0, vi a1, vi a2, vi a3] [vi 2, vi b0, vr b1] κ I L Z) : Ev E d M_X11_readRule 108 [vr a0, vi a1, vi a2, vi a3] [vi b0, vr b1] κ I L Z := E_iconst (v := 2) dX11_readRule_108 rfl k
theorem t78_X11_readRule_109 {E : En} {d : Nat} {κ : Kp} {I L : MI} {Z : Zt} {a0 b2 : Nat} {a1 a2 a3 b0 b1 : Int}  (k : Ev E d M_X11_readRule 110 [vr a0, vi a1, vi a2, vi a3] [vi a1, vi b0, vi b1, vr b2] κ I L Z) : Ev E d M_X11_readRule 109 [vr a0, vi a1, vi a2, vi a3] [vi b0, vi b1, vr b2] κ I L Z := E_iload_n dX11_readRule_109 rfl k
theorem t78_X11_readRule_110 {E : En} {d : Nat} {κ : Kp} {I L : MI} {Z : Zt} {a0 b3 : Nat} {a1 a2 a3 b0 b1 b2 : Int}  (k : Ev E d M_X11_readRule 111 [vr a0, vi a1, vi a2, vi a3] [vi (b1 * b0), vi b2, vr b3] κ I L Z) : Ev E d M_X11_readRule 110 [vr a0, vi a1, vi a2, vi a3] [vi b0, vi b1, vi b2, vr b3] κ I L Z := E_imul dX11_readRule_110 k
theorem t78_X11_readRule_111 {E : En} {d : Nat} {κ : Kp} {I L : MI} {Z : Zt} {a0 b2 : Nat} {a1 a2 a3 b0 b1 : Int}  (k : Ev E d M_X11_readRule 112 [vr a0, vi a1, vi a2, vi a3] [vi (b1 + b0), vr b2] κ I L Z) : Ev E d M_X11_readRule 111 [vr a0, vi a1, vi a2, vi a3] [vi b0, vi b1, vr b2] κ I L Z := E_iadd dX11_readRule_111 k
theorem t78_X11_readRule_112 {E : En} {d : Nat} {κ : Kp} {I L : MI} {Z : Zt} {a0 b1 : Nat} {a1 a2 a3 b0 : Int}  (k : Ev E d M_X11_readRule 113 [vr a0, vi a1, vi a2, vi a3] [vi 1, vi b0, vr b1] κ I L Z) : Ev E d M_X11_readRule 112 [vr a0, vi a1, vi a2, vi a3] [vi b0, vr b1] κ I L Z := E_iconst (v := 1) dX11_readRule_112 rfl k
theorem t78_X11_readRule_113 {E : En} {d : Nat} {κ : Kp} {I L : MI} {Z : Zt} {a0 b2 : Nat} {a1 a2 a3 b0 b1 : Int}  (k : Ev E d M_X11_readRule 114 [vr a0, vi a1, vi a2, vi a3] [vi (b1 + b0), vr b2] κ I L Z) : Ev E d M_X11_readRule 113 [vr a0, vi a1, vi a2, vi a3] [vi b0, vi b1, vr b2] κ I L Z := E_iadd dX11_readRule_113 k
theorem t78_X11_readRule_114 {E : En} {d : Nat} {κ : Kp} {I L : MI} {Z : Zt} {a0 b1 : Nat} {a1 a2 a3 b0 : Int}  (k : Ev E d M_X11_readRule 115 [vr a0, vi a1, vi a2, vi a3] [vi a3, vi b0, vr b1] κ I L Z) : Ev E d M_X11_readRule 114 [vr a0, vi a1, vi a2, vi a3] [vi b0, vr b1] κ I L Z := E_iload_n dX11_readRule_114 rfl k
theorem t78_X11_readRule_115 {E : En} {d : Nat} {κ : Kp} {I L : MI} {Z : Zt} {a0 b2 : Nat} {a1 a2 a3 b0 b1 : Int} {n : Nat} (ha : κ.1.1[b2]? = some (.inr (0, n))) (h0 : 0 ≤ b1) (h1 : b1 < n) (hi : Ir b1) (hz : Ir b0) (k : Ev E d M_X11_readRule 116 [vr a0, vi a1, vi a2, vi a3] [] κ (up2 I b2 b1 b0) L Z) : Ev E d M_X11_readRule 115 [vr a0, vi a1, vi a2, vi a3] [vi b0, vi b1, vr b2] κ I L Z := E_iast dX11_readRule_115 ha h0 h1 hi hz k
theorem t78_X11_readRule_116 {E : En} {d : Nat} {κ : Kp} {I L : MI} {Z : Zt} {a0 : Nat} {a1 a2 a3 : Int}  (k : Ev E d M_X11_readRule 117 [vr a0, vi a1, vi a2, vi a3] [vr a0] κ I L Z) : Ev E d M_X11_readRule 116 [vr a0, vi a1, vi a2, vi a3] [] κ I L Z := E_aload_n dX11_readRule_116 rfl k
theorem t78_X11_readRule_117 {E : En} {d : Nat} {κ : Kp} {I L : MI} {Z : Zt} {a0 b0 : Nat} {a1 a2 a3 : Int} {q : Nat} (hs : κ.1.1[b0]? = some (.inl 11)) (hq : κ.1.2 b0 6 = some q) (k : Ev E d M_X11_readRule 120 [vr a0, vi a1, vi a2, vi a3] [vr q] κ I L Z) : Ev E d M_X11_readRule 117 [vr a0, vi a1, vi a2, vi a3] [vr b0] κ I L Z := E_getR (ci := 11) (n := 6) dX11_readRule_117 wF_RX11_22 (by decide) hs rfl hq k
theorem t78_X11_readRule_120 {E : En} {d : Nat} {κ : Kp} {I L : MI} {Z : Zt} {a0 b0 : Nat} {a1 a2 a3 : Int}  (k : Ev E d M_X11_readRule 121 [vr a0, vi a1, vi a2, vi a3] [vi 1, vr b0] κ I L Z) : Ev E d M_X11_readRule 120 [vr a0, vi a1, vi a2, vi a3] [vr b0] κ I L Z := E_iconst (v := 1) dX11_readRule_120 rfl k
theorem t78_X11_readRule_121 {E : En} {d : Nat} {κ : Kp} {I L : MI} {Z : Zt} {a0 b1 : Nat} {a1 a2 a3 b0 : Int}  (k : Ev E d M_X11_readRule 122 [vr a0, vi a1, vi a2, vi a3] [vi b0, vr b1, vi b0, vr b1] κ I L Z) : Ev E d M_X11_readRule 121 [vr a0, vi a1, vi a2, vi a3] [vi b0, vr b1] κ I L Z := E_dup2 dX11_readRule_121 rfl rfl k
theorem t78_X11_readRule_122 {E : En} {d : Nat} {κ : Kp} {I L : MI} {Z : Zt} {a0 b1 b3 : Nat} {a1 a2 a3 b0 b2 : Int} {n : Nat} (hs : κ.1.1[b1]? = some (.inr (0, n))) (h0 : 0 ≤ b0) (h1 : b0 < n) (hi : Ir b0) (k : Ir (I b1 b0) → Ev E d M_X11_readRule 123 [vr a0, vi a1, vi a2, vi a3] [vi (I b1 b0), vi b2, vr b3] κ I L Z) : Ev E d M_X11_readRule 122 [vr a0, vi a1, vi a2, vi a3] [vi b0, vr b1, vi b2, vr b3] κ I L Z := E_ialdI dX11_readRule_122 hs h0 h1 hi k
theorem t78_X11_readRule_123 {E : En} {d : Nat} {κ : Kp} {I L : MI} {Z : Zt} {a0 b2 : Nat} {a1 a2 a3 b0 b1 : Int}  (k : Ev E d M_X11_readRule 124 [vr a0, vi a1, vi a2, vi a3] [vi 1, vi b0, vi b1, vr b2] κ I L Z) : Ev E d M_X11_readRule 123 [vr a0, vi a1, vi a2, vi a3] [vi b0, vi b1, vr b2] κ I L Z := E_iconst (v := 1) dX11_readRule_123 rfl k
theorem t78_X11_readRule_124 {E : En} {d : Nat} {κ : Kp} {I L : MI} {Z : Zt} {a0 b3 : Nat} {a1 a2 a3 b0 b1 b2 : Int}  (k : Ev E d M_X11_readRule 125 [vr a0, vi a1, vi a2, vi a3] [vi (b1 + b0), vi b2, vr b3] κ I L Z) : Ev E d M_X11_readRule 124 [vr a0, vi a1, vi a2, vi a3] [vi b0, vi b1, vi b2, vr b3] κ I L Z := E_iadd dX11_readRule_124 k
theorem t78_X11_readRule_125 {E : En} {d : Nat} {κ : Kp} {I L : MI} {Z : Zt} {a0 b2 : Nat} {a1 a2 a3 b0 b1 : Int} {n : Nat} (ha : κ.1.1[b2]? = some (.inr (0, n))) (h0 : 0 ≤ b1) (h1 : b1 < n) (hi : Ir b1) (hz : Ir b0) (k : Ev E d M_X11_readRule 126 [vr a0, vi a1, vi a2, vi a3] [] κ (up2 I b2 b1 b0) L Z) : Ev E d M_X11_readRule 125 [vr a0, vi a1, vi a2, vi a3] [vi b0, vi b1, vr b2] κ I L Z := E_iast dX11_readRule_125 ha h0 h1 hi hz k
theorem t78_X11_readRule_5 {E : En} {d : Nat} {κ : Kp} {I L : MI} {Z : Zt} {a0 : Nat}  (k : Ev E d M_X11_readRule 6 [vr a0, vu, vu, vu] [vr a0] κ I L Z) : Ev E d M_X11_readRule 5 [vr a0, vu, vu, vu] [] κ I L Z := E_aload_n dX11_readRule_5 rfl k
theorem t78_X11_readRule_6 {E : En} {d d' : Nat} {cs : Nat × Nat} {I L : MI} {Z : Zt} {a0 b0 : Nat} {z : Int} {I' L' : MI} (hs : G0.1[b0]? = some (.inl 11)) (hM : CFi E d' M_X11_figures [vr b0] I L z I' L') (hlt : d' + 1 ≤ d) (k : Ir z → Ev E d M_X11_readRule 9 [vr a0, vu, vu, vu] [vi z] (G0, cs) I' L' Z) (hc1 : cs.1 ≤ M_X11_readRule.2.2.2.2.1 := by decide) (hc2 : cs.2 ≤ M_X11_readRule.2.2.2.2.2 := by decide) : Ev E d M_X11_readRule 6 [vr a0, vu, vu, vu] [vr b0] (G0, cs) I L Z := E_callV (as := []) (rest := []) (n := 0) hM dX11_readRule_6 wM_RX11_132 wS_X11_figures wV_X11_figures hs (by decide) rfl hlt wC_X11_figures wI_X11 (by decide +kernel) rfl (by decide) (Nat.le_of_ble_eq_true rfl) hc1 hc2 rfl (fun r g' I2 L2 h => by obtain ⟨rfl, z, rfl, hr, rfl, rfl, rfl⟩ := h; exact k hr)
theorem t78_X11_readRule_9 {E : En} {d : Nat} {κ : Kp} {I L : MI} {Z : Zt} {a0 : Nat} {b0 : Int}  (k : Ev E d M_X11_readRule 10 [vr a0, vi b0, vu, vu] [] κ I L Z) : Ev E d M_X11_readRule 9 [vr a0, vu, vu, vu] [vi b0] κ I L Z := E_istore_n dX11_readRule_9 rfl (Nat.le_of_ble_eq_true rfl) k
theorem t78_X11_readRule_10 {E : En} {d : Nat} {κ : Kp} {I L : MI} {Z : Zt} {a0 : Nat} {a1 : Int}  (k : Ev E d M_X11_readRule 11 [vr a0, vi a1, vu, vu] [vr a0] κ I L Z) : Ev E d M_X11_readRule 10 [vr a0, vi a1, vu, vu] [] κ I L Z := E_aload_n dX11_readRule_10 rfl k
theorem t78_X11_readRule_11 {E : En} {d : Nat} {κ : Kp} {I L : MI} {Z : Zt} {a0 b0 : Nat} {a1 : Int} (hs : κ.1.1[b0]? = some (.inl 11)) (k : Ir (I b0 17) → Ev E d M_X11_readRule 14 [vr a0, vi a1, vu, vu] [vi (I b0 17)] κ I L Z) : Ev E d M_X11_readRule 11 [vr a0, vi a1, vu, vu] [vr b0] κ I L Z := E_getI (ci := 11) (n := 17) dX11_readRule_11 wF_RX11_119 (by decide) hs rfl k
theorem t78_X11_readRule_14 {E : En} {d : Nat} {κ : Kp} {I L : MI} {Z : Zt} {a0 : Nat} {a1 b0 : Int} (hx : Ir b0) (kt : ¬ b0 = 0 → Ev E d M_X11_readRule 56 [vr a0, vi a1, vu, vu] [] κ I L Z) (kf : b0 = 0 → Ev E d M_X11_readRule 17 [vr a0, vi a1, vu, vu] [] κ I L Z) : Ev E d M_X11_readRule 14 [vr a0, vi a1, vu, vu] [vi b0] κ I L Z := E_if_ne dX11_readRule_14 hx kt kf (by decide)
theorem t78_X11_readRule_17 {E : En} {d : Nat} {κ : Kp} {I L : MI} {Z : Zt} {a0 : Nat} {a1 : Int}  (k : Ev E d M_X11_readRule 18 [vr a0, vi a1, vu, vu] [vr a0] κ I L Z) : Ev E d M_X11_readRule 17 [vr a0, vi a1, vu, vu] [] κ I L Z := E_aload_n dX11_readRule_17 rfl k
theorem t78_X11_readRule_18 {E : En} {d : Nat} {κ : Kp} {I L : MI} {Z : Zt} {a0 b0 : Nat} {a1 : Int} (hs : κ.1.1[b0]? = some (.inl 11)) (k : Ir (I b0 14) → Ev E d M_X11_readRule 21 [vr a0, vi a1, vu, vu] [vi (I b0 14)] κ I L Z) : Ev E d M_X11_readRule 18 [vr a0, vi a1, vu, vu] [vr b0] κ I L Z := E_getI (ci := 11) (n := 14) dX11_readRule_18 wF_RX11_107 (by decide) hs rfl k
theorem t78_X11_readRule_21 {E : En} {d : Nat} {κ : Kp} {I L : MI} {Z : Zt} {a0 : Nat} {a1 b0 : Int}  (k : Ev E d M_X11_readRule 22 [vr a0, vi a1, vu, vu] [vi 3, vi b0] κ I L Z) : Ev E d M_X11_readRule 21 [vr a0, vi a1, vu, vu] [vi b0] κ I L Z := E_iconst (v := 3) dX11_readRule_21 rfl k
theorem t78_X11_readRule_22 {E : En} {d : Nat} {κ : Kp} {I L : MI} {Z : Zt} {a0 : Nat} {a1 b0 b1 : Int} (hx : Ir b1) (hy : Ir b0) (kt : ¬ b1 = b0 → Ev E d M_X11_readRule 56 [vr a0, vi a1, vu, vu] [] κ I L Z) (kf : b1 = b0 → Ev E d M_X11_readRule 25 [vr a0, vi a1, vu, vu] [] κ I L Z) : Ev E d M_X11_readRule 22 [vr a0, vi a1, vu, vu] [vi b0, vi b1] κ I L Z := E_icmp_ne dX11_readRule_22 hx hy kt kf (by decide)
theorem t78_X11_readRule_25 {E : En} {d : Nat} {κ : Kp} {I L : MI} {Z : Zt} {a0 : Nat} {a1 : Int}  (k : Ev E d M_X11_readRule 26 [vr a0, vi a1, vu, vu] [vi a1] κ I L Z) : Ev E d M_X11_readRule 25 [vr a0, vi a1, vu, vu] [] κ I L Z := E_iload_n dX11_readRule_25 rfl k
theorem t78_X11_readRule_26 {E : En} {d : Nat} {κ : Kp} {I L : MI} {Z : Zt} {a0 : Nat} {a1 b0 : Int} (hx : Ir b0) (k : Ev E d M_X11_readRule 27 [vr a0, vi a1, vu, vu] [vl b0] κ I L Z) : Ev E d M_X11_readRule 26 [vr a0, vi a1, vu, vu] [vi b0] κ I L Z := E_i2l dX11_readRule_26 hx k
theorem t78_X11_readRule_27 {E : En} {d : Nat} {κ : Kp} {I L : MI} {Z : Zt} {a0 : Nat} {a1 b0 : Int}  (k : Ev E d M_X11_readRule 28 [vr a0, vi a1, vu, vu] [vl 0, vl b0] κ I L Z) : Ev E d M_X11_readRule 27 [vr a0, vi a1, vu, vu] [vl b0] κ I L Z := E_lconst (v := 0) dX11_readRule_27 rfl k
theorem t78_X11_readRule_28 {E : En} {d : Nat} {κ : Kp} {I L : MI} {Z : Zt} {a0 : Nat} {a1 b0 b1 : Int}  (k : Ev E d M_X11_readRule 31 [vr a0, vi a1, vu, vu] [vl 4, vl b0, vl b1] κ I L Z) : Ev E d M_X11_readRule 28 [vr a0, vi a1, vu, vu] [vl b0, vl b1] κ I L Z := E_ldc2 (v := 4) dX11_readRule_28 wK_RX11_166 k
theorem t78_X11_readRule_31 {E : En} {d d' : Nat} {cs : Nat × Nat} {I L : MI} {Z : Zt} {a0 : Nat} {a1 b0 b1 b2 : Int} {P : Prop} {I' L' : MI} (hM : CB E d' M_X11_in [vl b2, vl b1, vl b0] I L P I' L') (hlt : d' + 1 ≤ d) (kt : P → Ev E d M_X11_readRule 34 [vr a0, vi a1, vu, vu] [vi 1] (G0, cs) I' L' Z) (kf : ¬ P → Ev E d M_X11_readRule 34 [vr a0, vi a1, vu, vu] [vi 0] (G0, cs) I' L' Z) (hc1 : cs.1 ≤ M_X11_readRule.2.2.2.2.1 := by decide) (hc2 : cs.2 ≤ M_X11_readRule.2.2.2.2.2 := by decide) : Ev E d M_X11_readRule 31 [vr a0, vi a1, vu, vu] [vl b0, vl b1, vl b2] (G0, cs) I L Z := E_callS (as := [vl b2, vl b1, vl b0]) (rest := []) (n := 3) hM dX11_readRule_31 wM_RX11_68 wS_X11_in hlt wC_X11_in wI_X11 (by decide +kernel) rfl (by decide) (Nat.le_of_ble_eq_true rfl) hc1 hc2 rfl (fun r g' I2 L2 h => by obtain ⟨rfl, z, rfl, rfl, rfl, ⟨rfl, h⟩ | ⟨rfl, h⟩⟩ := h; exact kt h; exact kf h)
theorem t78_X11_readRule_34 {E : En} {d : Nat} {κ : Kp} {I L : MI} {Z : Zt} {a0 : Nat} {a1 b0 : Int} (hx : Ir b0) (kt : b0 = 0 → Ev E d M_X11_readRule 56 [vr a0, vi a1, vu, vu] [] κ I L Z) (kf : ¬ b0 = 0 → Ev E d M_X11_readRule 37 [vr a0, vi a1, vu, vu] [] κ I L Z) : Ev E d M_X11_readRule 34 [vr a0, vi a1, vu, vu] [vi b0] κ I L Z := E_if_eq dX11_readRule_34 hx kt kf (by decide)
theorem t78_X11_readRule_37 {E : En} {d : Nat} {κ : Kp} {I L : MI} {Z : Zt} {a0 : Nat} {a1 : Int}  (k : Ev E d M_X11_readRule 38 [vr a0, vi a1, vu, vu] [vr a0] κ I L Z) : Ev E d M_X11_readRule 37 [vr a0, vi a1, vu, vu] [] κ I L Z := E_aload_n dX11_readRule_37 rfl k
theorem t78_X11_readRule_38 {E : En} {d : Nat} {κ : Kp} {I L : MI} {Z : Zt} {a0 b0 : Nat} {a1 : Int} {q : Nat} (hs : κ.1.1[b0]? = some (.inl 11)) (hq : κ.1.2 b0 6 = some q) (k : Ev E d M_X11_readRule 41 [vr a0, vi a1, vu, vu] [vr q] κ I L Z) : Ev E d M_X11_readRule 38 [vr a0, vi a1, vu, vu] [vr b0] κ I L Z := E_getR (ci := 11) (n := 6) dX11_readRule_38 wF_RX11_22 (by decide) hs rfl hq k
theorem t78_X11_readRule_41 {E : En} {d : Nat} {κ : Kp} {I L : MI} {Z : Zt} {a0 b0 : Nat} {a1 : Int}  (k : Ev E d M_X11_readRule 43 [vr a0, vi a1, vu, vu] [vi 39, vr b0] κ I L Z) : Ev E d M_X11_readRule 41 [vr a0, vi a1, vu, vu] [vr b0] κ I L Z := E_bipush (v := 39) dX11_readRule_41 rfl k
theorem t78_X11_readRule_43 {E : En} {d : Nat} {κ : Kp} {I L : MI} {Z : Zt} {a0 b1 : Nat} {a1 b0 : Int}  (k : Ev E d M_X11_readRule 44 [vr a0, vi a1, vu, vu] [vi 2, vi b0, vr b1] κ I L Z) : Ev E d M_X11_readRule 43 [vr a0, vi a1, vu, vu] [vi b0, vr b1] κ I L Z := E_iconst (v := 2) dX11_readRule_43 rfl k
theorem t78_X11_readRule_44 {E : En} {d : Nat} {κ : Kp} {I L : MI} {Z : Zt} {a0 b2 : Nat} {a1 b0 b1 : Int}  (k : Ev E d M_X11_readRule 45 [vr a0, vi a1, vu, vu] [vi a1, vi b0, vi b1, vr b2] κ I L Z) : Ev E d M_X11_readRule 44 [vr a0, vi a1, vu, vu] [vi b0, vi b1, vr b2] κ I L Z := E_iload_n dX11_readRule_44 rfl k
theorem t78_X11_readRule_45 {E : En} {d : Nat} {κ : Kp} {I L : MI} {Z : Zt} {a0 b3 : Nat} {a1 b0 b1 b2 : Int}  (k : Ev E d M_X11_readRule 46 [vr a0, vi a1, vu, vu] [vi (b1 * b0), vi b2, vr b3] κ I L Z) : Ev E d M_X11_readRule 45 [vr a0, vi a1, vu, vu] [vi b0, vi b1, vi b2, vr b3] κ I L Z := E_imul dX11_readRule_45 k
theorem t78_X11_readRule_46 {E : En} {d : Nat} {κ : Kp} {I L : MI} {Z : Zt} {a0 b2 : Nat} {a1 b0 b1 : Int}  (k : Ev E d M_X11_readRule 47 [vr a0, vi a1, vu, vu] [vi (b1 + b0), vr b2] κ I L Z) : Ev E d M_X11_readRule 46 [vr a0, vi a1, vu, vu] [vi b0, vi b1, vr b2] κ I L Z := E_iadd dX11_readRule_46 k
theorem t78_X11_readRule_47 {E : En} {d : Nat} {κ : Kp} {I L : MI} {Z : Zt} {a0 b1 : Nat} {a1 b0 : Int} {n : Nat} (hs : κ.1.1[b1]? = some (.inr (0, n))) (h0 : 0 ≤ b0) (h1 : b0 < n) (hi : Ir b0) (k : Ir (I b1 b0) → Ev E d M_X11_readRule 48 [vr a0, vi a1, vu, vu] [vi (I b1 b0)] κ I L Z) : Ev E d M_X11_readRule 47 [vr a0, vi a1, vu, vu] [vi b0, vr b1] κ I L Z := E_ialdI dX11_readRule_47 hs h0 h1 hi k
theorem t78_X11_readRule_48 {E : En} {d : Nat} {κ : Kp} {I L : MI} {Z : Zt} {a0 : Nat} {a1 b0 : Int} (hx : Ir b0) (kt : b0 < 0 → Ev E d M_X11_readRule 56 [vr a0, vi a1, vu, vu] [] κ I L Z) (kf : 0 ≤ b0 → Ev E d M_X11_readRule 51 [vr a0, vi a1, vu, vu] [] κ I L Z) : Ev E d M_X11_readRule 48 [vr a0, vi a1, vu, vu] [vi b0] κ I L Z := E_if_lt dX11_readRule_48 hx kt kf (by decide)
theorem t78_X11_readRule_51 {E : En} {d : Nat} {κ : Kp} {I L : MI} {Z : Zt} {a0 : Nat} {a1 : Int}  (k : Ev E d M_X11_readRule 52 [vr a0, vi a1, vu, vu] [vr a0] κ I L Z) : Ev E d M_X11_readRule 51 [vr a0, vi a1, vu, vu] [] κ I L Z := E_aload_n dX11_readRule_51 rfl k
theorem t78_X11_readRule_52 {E : En} {d : Nat} {κ : Kp} {I L : MI} {Z : Zt} {a0 b0 : Nat} {a1 : Int}  (k : Ev E d M_X11_readRule 53 [vr a0, vi a1, vu, vu] [vi 2, vr b0] κ I L Z) : Ev E d M_X11_readRule 52 [vr a0, vi a1, vu, vu] [vr b0] κ I L Z := E_iconst (v := 2) dX11_readRule_52 rfl k
theorem t78_X11_readRule_53 {E : En} {d d' : Nat} {cs : Nat × Nat} {I L : MI} {Z : Zt} {a0 b1 : Nat} {a1 b0 : Int} {I' L' : MI} (hs : G0.1[b1]? = some (.inl 11)) (hM : CFv E d' M_X11_bad [vr b1, vi b0] I L I' L') (hlt : d' + 1 ≤ d) (k : Ev E d M_X11_readRule 56 [vr a0, vi a1, vu, vu] [] (G0, cs) I' L' Z) (hc1 : cs.1 ≤ M_X11_readRule.2.2.2.2.1 := by decide) (hc2 : cs.2 ≤ M_X11_readRule.2.2.2.2.2 := by decide) : Ev E d M_X11_readRule 53 [vr a0, vi a1, vu, vu] [vi b0, vr b1] (G0, cs) I L Z := E_callV (as := [vi b0]) (rest := []) (n := 1) hM dX11_readRule_53 wM_RX11_128 wS_X11_bad wV_X11_bad hs (by decide) rfl hlt wC_X11_bad wI_X11 (by decide +kernel) rfl (by decide) (Nat.le_of_ble_eq_true rfl) hc1 hc2 rfl (fun r g' I2 L2 h => by obtain ⟨rfl, rfl, rfl, rfl⟩ := h; exact k)
theorem t78_X11_readPair_0 {E : En} {d : Nat} {κ : Kp} {I L : MI} {Z : Zt} {a0 : Nat}  (k : Ev E d M_X11_readPair 1 [vr a0, vu, vu] [vr a0] κ I L Z) : Ev E d M_X11_readPair 0 [vr a0, vu, vu] [] κ I L Z := E_aload_n dX11_readPair_0 rfl k
theorem t78_X11_readPair_1 {E : En} {d : Nat} {κ : Kp} {I L : MI} {Z : Zt} {a0 b0 : Nat}  (k : Ev E d M_X11_readPair 2 [vr a0, vu, vu] [vi 2, vr b0] κ I L Z) : Ev E d M_X11_readPair 1 [vr a0, vu, vu] [vr b0] κ I L Z := E_iconst (v := 2) dX11_readPair_1 rfl k
theorem t78_X11_readPair_2 {E : En} {d : Nat} {κ : Kp} {I L : MI} {Z : Zt} {a0 b1 : Nat} {b0 : Int}  (k : Ev E d M_X11_readPair 4 [vr a0, vu, vu] [vi 8, vi b0, vr b1] κ I L Z) : Ev E d M_X11_readPair 2 [vr a0, vu, vu] [vi b0, vr b1] κ I L Z := E_bipush (v := 8) dX11_readPair_2 rfl k
theorem t78_X11_readPair_4 {E : En} {d d' : Nat} {cs : Nat × Nat} {I L : MI} {Z : Zt} {a0 b2 : Nat} {b0 b1 : Int} {Q : MI → MI → Prop} (hs : G0.1[b2]? = some (.inl 11)) (hM : CQv E d' M_X11_begins [vr b2, vi b1, vi b0] I L Q) (hlt : d' + 1 ≤ d) (kk : ∀ (I' L' : MI), Q I' L' → Ev E d M_X11_readPair 7 [vr a0, vu, vu] [] (G0, cs) I' L' Z) (hc1 : cs.1 ≤ M_X11_readPair.2.2.2.2.1 := by decide) (hc2 : cs.2 ≤ M_X11_readPair.2.2.2.2.2 := by decide) : Ev E d M_X11_readPair 4 [vr a0, vu, vu] [vi b0, vi b1, vr b2] (G0, cs) I L Z := E_callV (as := [vi b1, vi b0]) (rest := []) (n := 2) hM dX11_readPair_4 wM_RX11_150 wS_X11_begins wV_X11_begins hs (by decide) rfl hlt wC_X11_begins wI_X11 (by decide +kernel) rfl (by decide) (Nat.le_of_ble_eq_true rfl) hc1 hc2 rfl (fun r g' I' L' h => by obtain ⟨rfl, rfl, h⟩ := h; exact kk I' L' h)
theorem t78_X11_readPair_7 {E : En} {d : Nat} {κ : Kp} {I L : MI} {Z : Zt} {a0 : Nat}  (k : Ev E d M_X11_readPair 8 [vr a0, vu, vu] [vr a0] κ I L Z) : Ev E d M_X11_readPair 7 [vr a0, vu, vu] [] κ I L Z := E_aload_n dX11_readPair_7 rfl k
theorem t78_X11_readPair_8 {E : En} {d : Nat} {κ : Kp} {I L : MI} {Z : Zt} {a0 b0 : Nat}  (k : Ev E d M_X11_readPair 9 [vr a0, vu, vu] [vi 0, vr b0] κ I L Z) : Ev E d M_X11_readPair 8 [vr a0, vu, vu] [vr b0] κ I L Z := E_iconst (v := 0) dX11_readPair_8 rfl k
theorem t78_X11_readPair_9 {E : En} {d : Nat} {κ : Kp} {I L : MI} {Z : Zt} {a0 b1 : Nat} {b0 : Int}  (k : Ev E d M_X11_readPair 10 [vr a0, vu, vu] [vr a0, vi b0, vr b1] κ I L Z) : Ev E d M_X11_readPair 9 [vr a0, vu, vu] [vi b0, vr b1] κ I L Z := E_aload_n dX11_readPair_9 rfl k
theorem t78_X11_readPair_10 {E : En} {d : Nat} {κ : Kp} {I L : MI} {Z : Zt} {a0 b0 b2 : Nat} {b1 : Int} {q : Nat} (hs : κ.1.1[b0]? = some (.inl 11)) (hq : κ.1.2 b0 6 = some q) (k : Ev E d M_X11_readPair 13 [vr a0, vu, vu] [vr q, vi b1, vr b2] κ I L Z) : Ev E d M_X11_readPair 10 [vr a0, vu, vu] [vr b0, vi b1, vr b2] κ I L Z := E_getR (ci := 11) (n := 6) dX11_readPair_10 wF_RX11_22 (by decide) hs rfl hq k
theorem t78_X11_readPair_13 {E : En} {d : Nat} {κ : Kp} {I L : MI} {Z : Zt} {a0 b0 b2 : Nat} {b1 : Int}  (k : Ev E d M_X11_readPair 14 [vr a0, vu, vu] [vi 0, vr b0, vi b1, vr b2] κ I L Z) : Ev E d M_X11_readPair 13 [vr a0, vu, vu] [vr b0, vi b1, vr b2] κ I L Z := E_iconst (v := 0) dX11_readPair_13 rfl k
theorem t78_X11_readPair_14 {E : En} {d : Nat} {κ : Kp} {I L : MI} {Z : Zt} {a0 b1 b3 : Nat} {b0 b2 : Int} {n : Nat} (hs : κ.1.1[b1]? = some (.inr (0, n))) (h0 : 0 ≤ b0) (h1 : b0 < n) (hi : Ir b0) (k : Ir (I b1 b0) → Ev E d M_X11_readPair 15 [vr a0, vu, vu] [vi (I b1 b0), vi b2, vr b3] κ I L Z) : Ev E d M_X11_readPair 14 [vr a0, vu, vu] [vi b0, vr b1, vi b2, vr b3] κ I L Z := E_ialdI dX11_readPair_14 hs h0 h1 hi k
theorem t78_X11_readPair_15 {E : En} {d : Nat} {κ : Kp} {I L : MI} {Z : Zt} {a0 b2 : Nat} {b0 b1 : Int}  (k : Ev E d M_X11_readPair 16 [vr a0, vu, vu] [vi 1, vi b0, vi b1, vr b2] κ I L Z) : Ev E d M_X11_readPair 15 [vr a0, vu, vu] [vi b0, vi b1, vr b2] κ I L Z := E_iconst (v := 1) dX11_readPair_15 rfl k
theorem t78_X11_readPair_16 {E : En} {d : Nat} {κ : Kp} {I L : MI} {Z : Zt} {a0 b3 : Nat} {b0 b1 b2 : Int}  (k : Ev E d M_X11_readPair 17 [vr a0, vu, vu] [vi (b1 - b0), vi b2, vr b3] κ I L Z) : Ev E d M_X11_readPair 16 [vr a0, vu, vu] [vi b0, vi b1, vi b2, vr b3] κ I L Z := E_isub dX11_readPair_16 k
theorem t78_X11_readPair_17 {E : En} {d d' : Nat} {cs : Nat × Nat} {I L : MI} {Z : Zt} {a0 b2 : Nat} {b0 b1 : Int} {Q : Int → MI → MI → Prop} (hs : G0.1[b2]? = some (.inl 11)) (hM : CQi E d' M_X11_number [vr b2, vi b1, vi b0] I L Q) (hlt : d' + 1 ≤ d) (kk : ∀ (z : Int) (I' L' : MI), Q z I' L' → Ev E d M_X11_readPair 20 [vr a0, vu, vu] [vi z] (G0, cs) I' L' Z) (hc1 : cs.1 ≤ M_X11_readPair.2.2.2.2.1 := by decide) (hc2 : cs.2 ≤ M_X11_readPair.2.2.2.2.2 := by decide) : Ev E d M_X11_readPair 17 [vr a0, vu, vu] [vi b0, vi b1, vr b2] (G0, cs) I L Z := E_callV (as := [vi b1, vi b0]) (rest := []) (n := 2) hM dX11_readPair_17 wM_RX11_146 wS_X11_number wV_X11_number hs (by decide) rfl hlt wC_X11_number wI_X11 (by decide +kernel) rfl (by decide) (Nat.le_of_ble_eq_true rfl) hc1 hc2 rfl (fun r g' I' L' h => by obtain ⟨rfl, z, rfl, h⟩ := h; exact kk z I' L' h)
theorem t78_X11_readPair_49 {E : En} {d : Nat} {κ : Kp} {I L : MI} {Z : Zt} {a0 : Nat} {a1 : Int}  (k : Ev E d M_X11_readPair 50 [vr a0, vi a1, vu] [vr a0] κ I L Z) : Ev E d M_X11_readPair 49 [vr a0, vi a1, vu] [] κ I L Z := E_aload_n dX11_readPair_49 rfl k
theorem t78_X11_readPair_50 {E : En} {d : Nat} {κ : Kp} {I L : MI} {Z : Zt} {a0 b0 : Nat} {a1 : Int}  (k : Ev E d M_X11_readPair 51 [vr a0, vi a1, vu] [vi 0, vr b0] κ I L Z) : Ev E d M_X11_readPair 50 [vr a0, vi a1, vu] [vr b0] κ I L Z := E_iconst (v := 0) dX11_readPair_50 rfl k
theorem t78_X11_readPair_51 {E : En} {d : Nat} {κ : Kp} {I L : MI} {Z : Zt} {a0 b1 : Nat} {a1 b0 : Int}  (k : Ev E d M_X11_readPair 52 [vr a0, vi a1, vu] [vr a0, vi b0, vr b1] κ I L Z) : Ev E d M_X11_readPair 51 [vr a0, vi a1, vu] [vi b0, vr b1] κ I L Z := E_aload_n dX11_readPair_51 rfl k
theorem t78_X11_readPair_52 {E : En} {d : Nat} {κ : Kp} {I L : MI} {Z : Zt} {a0 b0 b2 : Nat} {a1 b1 : Int} {q : Nat} (hs : κ.1.1[b0]? = some (.inl 11)) (hq : κ.1.2 b0 6 = some q) (k : Ev E d M_X11_readPair 55 [vr a0, vi a1, vu] [vr q, vi b1, vr b2] κ I L Z) : Ev E d M_X11_readPair 52 [vr a0, vi a1, vu] [vr b0, vi b1, vr b2] κ I L Z := E_getR (ci := 11) (n := 6) dX11_readPair_52 wF_RX11_22 (by decide) hs rfl hq k
theorem t78_X11_readPair_55 {E : En} {d : Nat} {κ : Kp} {I L : MI} {Z : Zt} {a0 b0 b2 : Nat} {a1 b1 : Int}  (k : Ev E d M_X11_readPair 56 [vr a0, vi a1, vu] [vi 0, vr b0, vi b1, vr b2] κ I L Z) : Ev E d M_X11_readPair 55 [vr a0, vi a1, vu] [vr b0, vi b1, vr b2] κ I L Z := E_iconst (v := 0) dX11_readPair_55 rfl k
theorem t78_X11_readPair_56 {E : En} {d : Nat} {κ : Kp} {I L : MI} {Z : Zt} {a0 b1 b3 : Nat} {a1 b0 b2 : Int} {n : Nat} (hs : κ.1.1[b1]? = some (.inr (0, n))) (h0 : 0 ≤ b0) (h1 : b0 < n) (hi : Ir b0) (k : Ir (I b1 b0) → Ev E d M_X11_readPair 57 [vr a0, vi a1, vu] [vi (I b1 b0), vi b2, vr b3] κ I L Z) : Ev E d M_X11_readPair 56 [vr a0, vi a1, vu] [vi b0, vr b1, vi b2, vr b3] κ I L Z := E_ialdI dX11_readPair_56 hs h0 h1 hi k
theorem t78_X11_readPair_57 {E : En} {d : Nat} {κ : Kp} {I L : MI} {Z : Zt} {a0 b2 : Nat} {a1 b0 b1 : Int}  (k : Ev E d M_X11_readPair 58 [vr a0, vi a1, vu] [vi 1, vi b0, vi b1, vr b2] κ I L Z) : Ev E d M_X11_readPair 57 [vr a0, vi a1, vu] [vi b0, vi b1, vr b2] κ I L Z := E_iconst (v := 1) dX11_readPair_57 rfl k
theorem t78_X11_readPair_58 {E : En} {d : Nat} {κ : Kp} {I L : MI} {Z : Zt} {a0 b3 : Nat} {a1 b0 b1 b2 : Int}  (k : Ev E d M_X11_readPair 59 [vr a0, vi a1, vu] [vi (b1 - b0), vi b2, vr b3] κ I L Z) : Ev E d M_X11_readPair 58 [vr a0, vi a1, vu] [vi b0, vi b1, vi b2, vr b3] κ I L Z := E_isub dX11_readPair_58 k
theorem t78_X11_readPair_59 {E : En} {d d' : Nat} {cs : Nat × Nat} {I L : MI} {Z : Zt} {a0 b2 : Nat} {a1 b0 b1 : Int} {Q : Int → MI → MI → Prop} (hs : G0.1[b2]? = some (.inl 11)) (hM : CQi E d' M_X11_number [vr b2, vi b1, vi b0] I L Q) (hlt : d' + 1 ≤ d) (kk : ∀ (z : Int) (I' L' : MI), Q z I' L' → Ev E d M_X11_readPair 62 [vr a0, vi a1, vu] [vi z] (G0, cs) I' L' Z) (hc1 : cs.1 ≤ M_X11_readPair.2.2.2.2.1 := by decide) (hc2 : cs.2 ≤ M_X11_readPair.2.2.2.2.2 := by decide) : Ev E d M_X11_readPair 59 [vr a0, vi a1, vu] [vi b0, vi b1, vr b2] (G0, cs) I L Z := E_callV (as := [vi b1, vi b0]) (rest := []) (n := 2) hM dX11_readPair_59 wM_RX11_146 wS_X11_number wV_X11_number hs (by decide) rfl hlt wC_X11_number wI_X11 (by decide +kernel) rfl (by decide) (Nat.le_of_ble_eq_true rfl) hc1 hc2 rfl (fun r g' I' L' h => by obtain ⟨rfl, z, rfl, h⟩ := h; exact kk z I' L' h)
theorem t78_X11_readPair_62 {E : En} {d : Nat} {κ : Kp} {I L : MI} {Z : Zt} {a0 : Nat} {a1 b0 : Int}  (k : Ev E d M_X11_readPair 63 [vr a0, vi a1, vi b0] [] κ I L Z) : Ev E d M_X11_readPair 62 [vr a0, vi a1, vu] [vi b0] κ I L Z := E_istore_n dX11_readPair_62 rfl (Nat.le_of_ble_eq_true rfl) k
theorem t78_X11_readPair_63 {E : En} {d : Nat} {κ : Kp} {I L : MI} {Z : Zt} {a0 : Nat} {a1 a2 : Int}  (k : Ev E d M_X11_readPair 64 [vr a0, vi a1, vi a2] [vr a0] κ I L Z) : Ev E d M_X11_readPair 63 [vr a0, vi a1, vi a2] [] κ I L Z := E_aload_n dX11_readPair_63 rfl k
theorem t78_X11_readPair_64 {E : En} {d d' : Nat} {cs : Nat × Nat} {I L : MI} {Z : Zt} {a0 b0 : Nat} {a1 a2 : Int} {Q : MI → MI → Prop} (hs : G0.1[b0]? = some (.inl 11)) (hM : CQv E d' M_X11_mustEnd [vr b0] I L Q) (hlt : d' + 1 ≤ d) (kk : ∀ (I' L' : MI), Q I' L' → Ev E d M_X11_readPair 67 [vr a0, vi a1, vi a2] [] (G0, cs) I' L' Z) (hc1 : cs.1 ≤ M_X11_readPair.2.2.2.2.1 := by decide) (hc2 : cs.2 ≤ M_X11_readPair.2.2.2.2.2 := by decide) : Ev E d M_X11_readPair 64 [vr a0, vi a1, vi a2] [vr b0] (G0, cs) I L Z := E_callV (as := []) (rest := []) (n := 0) hM dX11_readPair_64 wM_RX11_163 wS_X11_mustEnd wV_X11_mustEnd hs (by decide) rfl hlt wC_X11_mustEnd wI_X11 (by decide +kernel) rfl (by decide) (Nat.le_of_ble_eq_true rfl) hc1 hc2 rfl (fun r g' I' L' h => by obtain ⟨rfl, rfl, h⟩ := h; exact kk I' L' h)
theorem t78_X11_readPair_67 {E : En} {d : Nat} {κ : Kp} {I L : MI} {Z : Zt} {a0 : Nat} {a1 a2 : Int}  (k : Ev E d M_X11_readPair 68 [vr a0, vi a1, vi a2] [vr a0] κ I L Z) : Ev E d M_X11_readPair 67 [vr a0, vi a1, vi a2] [] κ I L Z := E_aload_n dX11_readPair_67 rfl k
theorem t78_X11_readPair_68 {E : En} {d : Nat} {κ : Kp} {I L : MI} {Z : Zt} {a0 b0 : Nat} {a1 a2 : Int} (hs : κ.1.1[b0]? = some (.inl 11)) (k : Ir (I b0 17) → Ev E d M_X11_readPair 71 [vr a0, vi a1, vi a2] [vi (I b0 17)] κ I L Z) : Ev E d M_X11_readPair 68 [vr a0, vi a1, vi a2] [vr b0] κ I L Z := E_getI (ci := 11) (n := 17) dX11_readPair_68 wF_RX11_119 (by decide) hs rfl k
theorem t78_X11_readPair_71 {E : En} {d : Nat} {κ : Kp} {I L : MI} {Z : Zt} {a0 : Nat} {a1 a2 b0 : Int} (hx : Ir b0) (kt : ¬ b0 = 0 → Ev E d M_X11_readPair 120 [vr a0, vi a1, vi a2] [] κ I L Z) (kf : b0 = 0 → Ev E d M_X11_readPair 74 [vr a0, vi a1, vi a2] [] κ I L Z) : Ev E d M_X11_readPair 71 [vr a0, vi a1, vi a2] [vi b0] κ I L Z := E_if_ne dX11_readPair_71 hx kt kf (by decide)
theorem t78_X11_readPair_120 {E : En} {d : Nat} {g : Geo} {I L : MI} {Q : Option AV → Geo → MI → MI → Prop} {cs : Nat × Nat} {a0 : Nat} {a1 a2 : Int} (hq : Q none g I L) (h1 : cs.1 ≤ M_X11_readPair.2.2.2.2.1 := by decide) (h2 : cs.2 ≤ M_X11_readPair.2.2.2.2.2 := by decide) : Ev E d M_X11_readPair 120 [vr a0, vi a1, vi a2] [] (g, cs) I L (ZQ E M_X11_readPair Q) := E_return rfl dX11_readPair_120 hq h1 h2
theorem t78_X11_readPair_74 {E : En} {d : Nat} {κ : Kp} {I L : MI} {Z : Zt} {a0 : Nat} {a1 a2 : Int}  (k : Ev E d M_X11_readPair 75 [vr a0, vi a1, vi a2] [vr a0] κ I L Z) : Ev E d M_X11_readPair 74 [vr a0, vi a1, vi a2] [] κ I L Z := E_aload_n dX11_readPair_74 rfl k
theorem t78_X11_readPair_75 {E : En} {d : Nat} {κ : Kp} {I L : MI} {Z : Zt} {a0 b0 : Nat} {a1 a2 : Int} {q : Nat} (hs : κ.1.1[b0]? = some (.inl 11)) (hq : κ.1.2 b0 6 = some q) (k : Ev E d M_X11_readPair 78 [vr a0, vi a1, vi a2] [vr q] κ I L Z) : Ev E d M_X11_readPair 75 [vr a0, vi a1, vi a2] [vr b0] κ I L Z := E_getR (ci := 11) (n := 6) dX11_readPair_75 wF_RX11_22 (by decide) hs rfl hq k
theorem t78_X11_readPair_78 {E : En} {d : Nat} {κ : Kp} {I L : MI} {Z : Zt} {a0 b0 : Nat} {a1 a2 : Int}  (k : Ev E d M_X11_readPair 80 [vr a0, vi a1, vi a2] [vi 49, vr b0] κ I L Z) : Ev E d M_X11_readPair 78 [vr a0, vi a1, vi a2] [vr b0] κ I L Z := E_bipush (v := 49) dX11_readPair_78 rfl k
theorem t78_X11_readPair_80 {E : En} {d : Nat} {κ : Kp} {I L : MI} {Z : Zt} {a0 b1 : Nat} {a1 a2 b0 : Int}  (k : Ev E d M_X11_readPair 81 [vr a0, vi a1, vi a2] [vi 2, vi b0, vr b1] κ I L Z) : Ev E d M_X11_readPair 80 [vr a0, vi a1, vi a2] [vi b0, vr b1] κ I L Z := E_iconst (v := 2) dX11_readPair_80 rfl k
theorem t78_X11_readPair_81 {E : En} {d : Nat} {κ : Kp} {I L : MI} {Z : Zt} {a0 b2 : Nat} {a1 a2 b0 b1 : Int}  (k : Ev E d M_X11_readPair 82 [vr a0, vi a1, vi a2] [vr a0, vi b0, vi b1, vr b2] κ I L Z) : Ev E d M_X11_readPair 81 [vr a0, vi a1, vi a2] [vi b0, vi b1, vr b2] κ I L Z := E_aload_n dX11_readPair_81 rfl k
theorem t78_X11_readPair_82 {E : En} {d : Nat} {κ : Kp} {I L : MI} {Z : Zt} {a0 b0 b3 : Nat} {a1 a2 b1 b2 : Int} {q : Nat} (hs : κ.1.1[b0]? = some (.inl 11)) (hq : κ.1.2 b0 6 = some q) (k : Ev E d M_X11_readPair 85 [vr a0, vi a1, vi a2] [vr q, vi b1, vi b2, vr b3] κ I L Z) : Ev E d M_X11_readPair 82 [vr a0, vi a1, vi a2] [vr b0, vi b1, vi b2, vr b3] κ I L Z := E_getR (ci := 11) (n := 6) dX11_readPair_82 wF_RX11_22 (by decide) hs rfl hq k
theorem t78_X11_readPair_85 {E : En} {d : Nat} {κ : Kp} {I L : MI} {Z : Zt} {a0 b0 b3 : Nat} {a1 a2 b1 b2 : Int}  (k : Ev E d M_X11_readPair 86 [vr a0, vi a1, vi a2] [vi 2, vr b0, vi b1, vi b2, vr b3] κ I L Z) : Ev E d M_X11_readPair 85 [vr a0, vi a1, vi a2] [vr b0, vi b1, vi b2, vr b3] κ I L Z := E_iconst (v := 2) dX11_readPair_85 rfl k
theorem t78_X11_readPair_86 {E : En} {d : Nat} {κ : Kp} {I L : MI} {Z : Zt} {a0 b1 b4 : Nat} {a1 a2 b0 b2 b3 : Int} {n : Nat} (hs : κ.1.1[b1]? = some (.inr (0, n))) (h0 : 0 ≤ b0) (h1 : b0 < n) (hi : Ir b0) (k : Ir (I b1 b0) → Ev E d M_X11_readPair 87 [vr a0, vi a1, vi a2] [vi (I b1 b0), vi b2, vi b3, vr b4] κ I L Z) : Ev E d M_X11_readPair 86 [vr a0, vi a1, vi a2] [vi b0, vr b1, vi b2, vi b3, vr b4] κ I L Z := E_ialdI dX11_readPair_86 hs h0 h1 hi k
theorem t78_X11_readPair_87 {E : En} {d : Nat} {κ : Kp} {I L : MI} {Z : Zt} {a0 b3 : Nat} {a1 a2 b0 b1 b2 : Int}  (k : Ev E d M_X11_readPair 88 [vr a0, vi a1, vi a2] [vi (b1 * b0), vi b2, vr b3] κ I L Z) : Ev E d M_X11_readPair 87 [vr a0, vi a1, vi a2] [vi b0, vi b1, vi b2, vr b3] κ I L Z := E_imul dX11_readPair_87 k
theorem t78_X11_readPair_88 {E : En} {d : Nat} {κ : Kp} {I L : MI} {Z : Zt} {a0 b2 : Nat} {a1 a2 b0 b1 : Int}  (k : Ev E d M_X11_readPair 89 [vr a0, vi a1, vi a2] [vi (b1 + b0), vr b2] κ I L Z) : Ev E d M_X11_readPair 88 [vr a0, vi a1, vi a2] [vi b0, vi b1, vr b2] κ I L Z := E_iadd dX11_readPair_88 k
theorem t78_X11_readPair_89 {E : En} {d : Nat} {κ : Kp} {I L : MI} {Z : Zt} {a0 b1 : Nat} {a1 a2 b0 : Int}  (k : Ev E d M_X11_readPair 90 [vr a0, vi a1, vi a2] [vi a1, vi b0, vr b1] κ I L Z) : Ev E d M_X11_readPair 89 [vr a0, vi a1, vi a2] [vi b0, vr b1] κ I L Z := E_iload_n dX11_readPair_89 rfl k
theorem t78_X11_readPair_90 {E : En} {d : Nat} {κ : Kp} {I L : MI} {Z : Zt} {a0 b2 : Nat} {a1 a2 b0 b1 : Int} {n : Nat} (ha : κ.1.1[b2]? = some (.inr (0, n))) (h0 : 0 ≤ b1) (h1 : b1 < n) (hi : Ir b1) (hz : Ir b0) (k : Ev E d M_X11_readPair 91 [vr a0, vi a1, vi a2] [] κ (up2 I b2 b1 b0) L Z) : Ev E d M_X11_readPair 90 [vr a0, vi a1, vi a2] [vi b0, vi b1, vr b2] κ I L Z := E_iast dX11_readPair_90 ha h0 h1 hi hz k
theorem t78_X11_readPair_91 {E : En} {d : Nat} {κ : Kp} {I L : MI} {Z : Zt} {a0 : Nat} {a1 a2 : Int}  (k : Ev E d M_X11_readPair 92 [vr a0, vi a1, vi a2] [vr a0] κ I L Z) : Ev E d M_X11_readPair 91 [vr a0, vi a1, vi a2] [] κ I L Z := E_aload_n dX11_readPair_91 rfl k
theorem t78_X11_readPair_92 {E : En} {d : Nat} {κ : Kp} {I L : MI} {Z : Zt} {a0 b0 : Nat} {a1 a2 : Int} {q : Nat} (hs : κ.1.1[b0]? = some (.inl 11)) (hq : κ.1.2 b0 6 = some q) (k : Ev E d M_X11_readPair 95 [vr a0, vi a1, vi a2] [vr q] κ I L Z) : Ev E d M_X11_readPair 92 [vr a0, vi a1, vi a2] [vr b0] κ I L Z := E_getR (ci := 11) (n := 6) dX11_readPair_92 wF_RX11_22 (by decide) hs rfl hq k
theorem t78_X11_readPair_95 {E : En} {d : Nat} {κ : Kp} {I L : MI} {Z : Zt} {a0 b0 : Nat} {a1 a2 : Int}  (k : Ev E d M_X11_readPair 97 [vr a0, vi a1, vi a2] [vi 49, vr b0] κ I L Z) : Ev E d M_X11_readPair 95 [vr a0, vi a1, vi a2] [vr b0] κ I L Z := E_bipush (v := 49) dX11_readPair_95 rfl k
theorem t78_X11_readPair_97 {E : En} {d : Nat} {κ : Kp} {I L : MI} {Z : Zt} {a0 b1 : Nat} {a1 a2 b0 : Int}  (k : Ev E d M_X11_readPair 98 [vr a0, vi a1, vi a2] [vi 2, vi b0, vr b1] κ I L Z) : Ev E d M_X11_readPair 97 [vr a0, vi a1, vi a2] [vi b0, vr b1] κ I L Z := E_iconst (v := 2) dX11_readPair_97 rfl k
theorem t78_X11_readPair_98 {E : En} {d : Nat} {κ : Kp} {I L : MI} {Z : Zt} {a0 b2 : Nat} {a1 a2 b0 b1 : Int}  (k : Ev E d M_X11_readPair 99 [vr a0, vi a1, vi a2] [vr a0, vi b0, vi b1, vr b2] κ I L Z) : Ev E d M_X11_readPair 98 [vr a0, vi a1, vi a2] [vi b0, vi b1, vr b2] κ I L Z := E_aload_n dX11_readPair_98 rfl k
theorem t78_X11_readPair_99 {E : En} {d : Nat} {κ : Kp} {I L : MI} {Z : Zt} {a0 b0 b3 : Nat} {a1 a2 b1 b2 : Int} {q : Nat} (hs : κ.1.1[b0]? = some (.inl 11)) (hq : κ.1.2 b0 6 = some q) (k : Ev E d M_X11_readPair 102 [vr a0, vi a1, vi a2] [vr q, vi b1, vi b2, vr b3] κ I L Z) : Ev E d M_X11_readPair 99 [vr a0, vi a1, vi a2] [vr b0, vi b1, vi b2, vr b3] κ I L Z := E_getR (ci := 11) (n := 6) dX11_readPair_99 wF_RX11_22 (by decide) hs rfl hq k
theorem t78_X11_readPair_102 {E : En} {d : Nat} {κ : Kp} {I L : MI} {Z : Zt} {a0 b0 b3 : Nat} {a1 a2 b1 b2 : Int}  (k : Ev E d M_X11_readPair 103 [vr a0, vi a1, vi a2] [vi 2, vr b0, vi b1, vi b2, vr b3] κ I L Z) : Ev E d M_X11_readPair 102 [vr a0, vi a1, vi a2] [vr b0, vi b1, vi b2, vr b3] κ I L Z := E_iconst (v := 2) dX11_readPair_102 rfl k
theorem t78_X11_readPair_103 {E : En} {d : Nat} {κ : Kp} {I L : MI} {Z : Zt} {a0 b1 b4 : Nat} {a1 a2 b0 b2 b3 : Int} {n : Nat} (hs : κ.1.1[b1]? = some (.inr (0, n))) (h0 : 0 ≤ b0) (h1 : b0 < n) (hi : Ir b0) (k : Ir (I b1 b0) → Ev E d M_X11_readPair 104 [vr a0, vi a1, vi a2] [vi (I b1 b0), vi b2, vi b3, vr b4] κ I L Z) : Ev E d M_X11_readPair 103 [vr a0, vi a1, vi a2] [vi b0, vr b1, vi b2, vi b3, vr b4] κ I L Z := E_ialdI dX11_readPair_103 hs h0 h1 hi k
theorem t78_X11_readPair_104 {E : En} {d : Nat} {κ : Kp} {I L : MI} {Z : Zt} {a0 b3 : Nat} {a1 a2 b0 b1 b2 : Int}  (k : Ev E d M_X11_readPair 105 [vr a0, vi a1, vi a2] [vi (b1 * b0), vi b2, vr b3] κ I L Z) : Ev E d M_X11_readPair 104 [vr a0, vi a1, vi a2] [vi b0, vi b1, vi b2, vr b3] κ I L Z := E_imul dX11_readPair_104 k
theorem t78_X11_readPair_105 {E : En} {d : Nat} {κ : Kp} {I L : MI} {Z : Zt} {a0 b2 : Nat} {a1 a2 b0 b1 : Int}  (k : Ev E d M_X11_readPair 106 [vr a0, vi a1, vi a2] [vi (b1 + b0), vr b2] κ I L Z) : Ev E d M_X11_readPair 105 [vr a0, vi a1, vi a2] [vi b0, vi b1, vr b2] κ I L Z := E_iadd dX11_readPair_105 k
theorem t78_X11_readPair_106 {E : En} {d : Nat} {κ : Kp} {I L : MI} {Z : Zt} {a0 b1 : Nat} {a1 a2 b0 : Int}  (k : Ev E d M_X11_readPair 107 [vr a0, vi a1, vi a2] [vi 1, vi b0, vr b1] κ I L Z) : Ev E d M_X11_readPair 106 [vr a0, vi a1, vi a2] [vi b0, vr b1] κ I L Z := E_iconst (v := 1) dX11_readPair_106 rfl k
theorem t78_X11_readPair_107 {E : En} {d : Nat} {κ : Kp} {I L : MI} {Z : Zt} {a0 b2 : Nat} {a1 a2 b0 b1 : Int}  (k : Ev E d M_X11_readPair 108 [vr a0, vi a1, vi a2] [vi (b1 + b0), vr b2] κ I L Z) : Ev E d M_X11_readPair 107 [vr a0, vi a1, vi a2] [vi b0, vi b1, vr b2] κ I L Z := E_iadd dX11_readPair_107 k
theorem t78_X11_readPair_108 {E : En} {d : Nat} {κ : Kp} {I L : MI} {Z : Zt} {a0 b1 : Nat} {a1 a2 b0 : Int}  (k : Ev E d M_X11_readPair 109 [vr a0, vi a1, vi a2] [vi a2, vi b0, vr b1] κ I L Z) : Ev E d M_X11_readPair 108 [vr a0, vi a1, vi a2] [vi b0, vr b1] κ I L Z := E_iload_n dX11_readPair_108 rfl k
theorem t78_X11_readPair_109 {E : En} {d : Nat} {κ : Kp} {I L : MI} {Z : Zt} {a0 b2 : Nat} {a1 a2 b0 b1 : Int} {n : Nat} (ha : κ.1.1[b2]? = some (.inr (0, n))) (h0 : 0 ≤ b1) (h1 : b1 < n) (hi : Ir b1) (hz : Ir b0) (k : Ev E d M_X11_readPair 110 [vr a0, vi a1, vi a2] [] κ (up2 I b2 b1 b0) L Z) : Ev E d M_X11_readPair 109 [vr a0, vi a1, vi a2] [vi b0, vi b1, vr b2] κ I L Z := E_iast dX11_readPair_109 ha h0 h1 hi hz k
theorem t78_X11_readPair_110 {E : En} {d : Nat} {κ : Kp} {I L : MI} {Z : Zt} {a0 : Nat} {a1 a2 : Int}  (k : Ev E d M_X11_readPair 111 [vr a0, vi a1, vi a2] [vr a0] κ I L Z) : Ev E d M_X11_readPair 110 [vr a0, vi a1, vi a2] [] κ I L Z := E_aload_n dX11_readPair_110 rfl k
theorem t78_X11_readPair_111 {E : En} {d : Nat} {κ : Kp} {I L : MI} {Z : Zt} {a0 b0 : Nat} {a1 a2 : Int} {q : Nat} (hs : κ.1.1[b0]? = some (.inl 11)) (hq : κ.1.2 b0 6 = some q) (k : Ev E d M_X11_readPair 114 [vr a0, vi a1, vi a2] [vr q] κ I L Z) : Ev E d M_X11_readPair 111 [vr a0, vi a1, vi a2] [vr b0] κ I L Z := E_getR (ci := 11) (n := 6) dX11_readPair_111 wF_RX11_22 (by decide) hs rfl hq k
theorem t78_X11_readPair_114 {E : En} {d : Nat} {κ : Kp} {I L : MI} {Z : Zt} {a0 b0 : Nat} {a1 a2 : Int}  (k : Ev E d M_X11_readPair 115 [vr a0, vi a1, vi a2] [vi 2, vr b0] κ I L Z) : Ev E d M_X11_readPair 114 [vr a0, vi a1, vi a2] [vr b0] κ I L Z := E_iconst (v := 2) dX11_readPair_114 rfl k
theorem t78_X11_readPair_115 {E : En} {d : Nat} {κ : Kp} {I L : MI} {Z : Zt} {a0 b1 : Nat} {a1 a2 b0 : Int}  (k : Ev E d M_X11_readPair 116 [vr a0, vi a1, vi a2] [vi b0, vr b1, vi b0, vr b1] κ I L Z) : Ev E d M_X11_readPair 115 [vr a0, vi a1, vi a2] [vi b0, vr b1] κ I L Z := E_dup2 dX11_readPair_115 rfl rfl k
theorem t78_X11_readPair_116 {E : En} {d : Nat} {κ : Kp} {I L : MI} {Z : Zt} {a0 b1 b3 : Nat} {a1 a2 b0 b2 : Int} {n : Nat} (hs : κ.1.1[b1]? = some (.inr (0, n))) (h0 : 0 ≤ b0) (h1 : b0 < n) (hi : Ir b0) (k : Ir (I b1 b0) → Ev E d M_X11_readPair 117 [vr a0, vi a1, vi a2] [vi (I b1 b0), vi b2, vr b3] κ I L Z) : Ev E d M_X11_readPair 116 [vr a0, vi a1, vi a2] [vi b0, vr b1, vi b2, vr b3] κ I L Z := E_ialdI dX11_readPair_116 hs h0 h1 hi k
theorem t78_X11_readPair_117 {E : En} {d : Nat} {κ : Kp} {I L : MI} {Z : Zt} {a0 b2 : Nat} {a1 a2 b0 b1 : Int}  (k : Ev E d M_X11_readPair 118 [vr a0, vi a1, vi a2] [vi 1, vi b0, vi b1, vr b2] κ I L Z) : Ev E d M_X11_readPair 117 [vr a0, vi a1, vi a2] [vi b0, vi b1, vr b2] κ I L Z := E_iconst (v := 1) dX11_readPair_117 rfl k
theorem t78_X11_readPair_118 {E : En} {d : Nat} {κ : Kp} {I L : MI} {Z : Zt} {a0 b3 : Nat} {a1 a2 b0 b1 b2 : Int}  (k : Ev E d M_X11_readPair 119 [vr a0, vi a1, vi a2] [vi (b1 + b0), vi b2, vr b3] κ I L Z) : Ev E d M_X11_readPair 118 [vr a0, vi a1, vi a2] [vi b0, vi b1, vi b2, vr b3] κ I L Z := E_iadd dX11_readPair_118 k
theorem t78_X11_readPair_119 {E : En} {d : Nat} {κ : Kp} {I L : MI} {Z : Zt} {a0 b2 : Nat} {a1 a2 b0 b1 : Int} {n : Nat} (ha : κ.1.1[b2]? = some (.inr (0, n))) (h0 : 0 ≤ b1) (h1 : b1 < n) (hi : Ir b1) (hz : Ir b0) (k : Ev E d M_X11_readPair 120 [vr a0, vi a1, vi a2] [] κ (up2 I b2 b1 b0) L Z) : Ev E d M_X11_readPair 119 [vr a0, vi a1, vi a2] [vi b0, vi b1, vr b2] κ I L Z := E_iast dX11_readPair_119 ha h0 h1 hi hz k
theorem t78_X11_readPair_20 {E : En} {d : Nat} {κ : Kp} {I L : MI} {Z : Zt} {a0 : Nat} {b0 : Int}  (k : Ev E d M_X11_readPair 21 [vr a0, vi b0, vu] [] κ I L Z) : Ev E d M_X11_readPair 20 [vr a0, vu, vu] [vi b0] κ I L Z := E_istore_n dX11_readPair_20 rfl (Nat.le_of_ble_eq_true rfl) k
theorem t78_X11_readPair_21 {E : En} {d : Nat} {κ : Kp} {I L : MI} {Z : Zt} {a0 : Nat} {a1 : Int}  (k : Ev E d M_X11_readPair 22 [vr a0, vi a1, vu] [vr a0] κ I L Z) : Ev E d M_X11_readPair 21 [vr a0, vi a1, vu] [] κ I L Z := E_aload_n dX11_readPair_21 rfl k
theorem t78_X11_readPair_22 {E : En} {d : Nat} {κ : Kp} {I L : MI} {Z : Zt} {a0 b0 : Nat} {a1 : Int} (hs : κ.1.1[b0]? = some (.inl 11)) (k : Ir (I b0 17) → Ev E d M_X11_readPair 25 [vr a0, vi a1, vu] [vi (I b0 17)] κ I L Z) : Ev E d M_X11_readPair 22 [vr a0, vi a1, vu] [vr b0] κ I L Z := E_getI (ci := 11) (n := 17) dX11_readPair_22 wF_RX11_119 (by decide) hs rfl k
theorem t78_X11_readPair_25 {E : En} {d : Nat} {κ : Kp} {I L : MI} {Z : Zt} {a0 : Nat} {a1 b0 : Int} (hx : Ir b0) (kt : ¬ b0 = 0 → Ev E d M_X11_readPair 49 [vr a0, vi a1, vu] [] κ I L Z) (kf : b0 = 0 → Ev E d M_X11_readPair 28 [vr a0, vi a1, vu] [] κ I L Z) : Ev E d M_X11_readPair 25 [vr a0, vi a1, vu] [vi b0] κ I L Z := E_if_ne dX11_readPair_25 hx kt kf (by decide)
theorem t78_X11_readPair_28 {E : En} {d : Nat} {κ : Kp} {I L : MI} {Z : Zt} {a0 : Nat} {a1 : Int}  (k : Ev E d M_X11_readPair 29 [vr a0, vi a1, vu] [vr a0] κ I L Z) : Ev E d M_X11_readPair 28 [vr a0, vi a1, vu] [] κ I L Z := E_aload_n dX11_readPair_28 rfl k
theorem t78_X11_readPair_29 {E : En} {d : Nat} {κ : Kp} {I L : MI} {Z : Zt} {a0 b0 : Nat} {a1 : Int} (hs : κ.1.1[b0]? = some (.inl 11)) (k : Ir (I b0 14) → Ev E d M_X11_readPair 32 [vr a0, vi a1, vu] [vi (I b0 14)] κ I L Z) : Ev E d M_X11_readPair 29 [vr a0, vi a1, vu] [vr b0] κ I L Z := E_getI (ci := 11) (n := 14) dX11_readPair_29 wF_RX11_107 (by decide) hs rfl k
theorem t78_X11_readPair_32 {E : En} {d : Nat} {κ : Kp} {I L : MI} {Z : Zt} {a0 : Nat} {a1 b0 : Int}  (k : Ev E d M_X11_readPair 33 [vr a0, vi a1, vu] [vi 3, vi b0] κ I L Z) : Ev E d M_X11_readPair 32 [vr a0, vi a1, vu] [vi b0] κ I L Z := E_iconst (v := 3) dX11_readPair_32 rfl k
theorem t78_X11_readPair_33 {E : En} {d : Nat} {κ : Kp} {I L : MI} {Z : Zt} {a0 : Nat} {a1 b0 b1 : Int} (hx : Ir b1) (hy : Ir b0) (kt : ¬ b1 = b0 → Ev E d M_X11_readPair 49 [vr a0, vi a1, vu] [] κ I L Z) (kf : b1 = b0 → Ev E d M_X11_readPair 36 [vr a0, vi a1, vu] [] κ I L Z) : Ev E d M_X11_readPair 33 [vr a0, vi a1, vu] [vi b0, vi b1] κ I L Z := E_icmp_ne dX11_readPair_33 hx hy kt kf (by decide)
theorem t78_X11_readPair_36 {E : En} {d : Nat} {κ : Kp} {I L : MI} {Z : Zt} {a0 : Nat} {a1 : Int}  (k : Ev E d M_X11_readPair 37 [vr a0, vi a1, vu] [vr a0] κ I L Z) : Ev E d M_X11_readPair 36 [vr a0, vi a1, vu] [] κ I L Z := E_aload_n dX11_readPair_36 rfl k
theorem t78_X11_readPair_37 {E : En} {d d' : Nat} {cs : Nat × Nat} {I L : MI} {Z : Zt} {a0 b0 : Nat} {a1 : Int} {z : Int} {I' L' : MI} (hs : G0.1[b0]? = some (.inl 11)) (hM : CFi E d' M_X11_figures [vr b0] I L z I' L') (hlt : d' + 1 ≤ d) (k : Ir z → Ev E d M_X11_readPair 40 [vr a0, vi a1, vu] [vi z] (G0, cs) I' L' Z) (hc1 : cs.1 ≤ M_X11_readPair.2.2.2.2.1 := by decide) (hc2 : cs.2 ≤ M_X11_readPair.2.2.2.2.2 := by decide) : Ev E d M_X11_readPair 37 [vr a0, vi a1, vu] [vr b0] (G0, cs) I L Z := E_callV (as := []) (rest := []) (n := 0) hM dX11_readPair_37 wM_RX11_132 wS_X11_figures wV_X11_figures hs (by decide) rfl hlt wC_X11_figures wI_X11 (by decide +kernel) rfl (by decide) (Nat.le_of_ble_eq_true rfl) hc1 hc2 rfl (fun r g' I2 L2 h => by obtain ⟨rfl, z, rfl, hr, rfl, rfl, rfl⟩ := h; exact k hr)
theorem t78_X11_readPair_40 {E : En} {d : Nat} {κ : Kp} {I L : MI} {Z : Zt} {a0 : Nat} {a1 b0 : Int}  (k : Ev E d M_X11_readPair 41 [vr a0, vi a1, vu] [vi a1, vi b0] κ I L Z) : Ev E d M_X11_readPair 40 [vr a0, vi a1, vu] [vi b0] κ I L Z := E_iload_n dX11_readPair_40 rfl k
theorem t78_X11_readPair_41 {E : En} {d : Nat} {κ : Kp} {I L : MI} {Z : Zt} {a0 : Nat} {a1 b0 b1 : Int} (hx : Ir b1) (hy : Ir b0) (kt : ¬ b1 = b0 → Ev E d M_X11_readPair 49 [vr a0, vi a1, vu] [] κ I L Z) (kf : b1 = b0 → Ev E d M_X11_readPair 44 [vr a0, vi a1, vu] [] κ I L Z) : Ev E d M_X11_readPair 41 [vr a0, vi a1, vu] [vi b0, vi b1] κ I L Z := E_icmp_ne dX11_readPair_41 hx hy kt kf (by decide)
theorem t78_X11_readPair_44 {E : En} {d : Nat} {κ : Kp} {I L : MI} {Z : Zt} {a0 : Nat} {a1 : Int}  (k : Ev E d M_X11_readPair 45 [vr a0, vi a1, vu] [vr a0] κ I L Z) : Ev E d M_X11_readPair 44 [vr a0, vi a1, vu] [] κ I L Z := E_aload_n dX11_readPair_44 rfl k
theorem t78_X11_readPair_45 {E : En} {d : Nat} {κ : Kp} {I L : MI} {Z : Zt} {a0 b0 : Nat} {a1 : Int}  (k : Ev E d M_X11_readPair 46 [vr a0, vi a1, vu] [vi 2, vr b0] κ I L Z) : Ev E d M_X11_readPair 45 [vr a0, vi a1, vu] [vr b0] κ I L Z := E_iconst (v := 2) dX11_readPair_45 rfl k
theorem t78_X11_readPair_46 {E : En} {d d' : Nat} {cs : Nat × Nat} {I L : MI} {Z : Zt} {a0 b1 : Nat} {a1 b0 : Int} {I' L' : MI} (hs : G0.1[b1]? = some (.inl 11)) (hM : CFv E d' M_X11_bad [vr b1, vi b0] I L I' L') (hlt : d' + 1 ≤ d) (k : Ev E d M_X11_readPair 49 [vr a0, vi a1, vu] [] (G0, cs) I' L' Z) (hc1 : cs.1 ≤ M_X11_readPair.2.2.2.2.1 := by decide) (hc2 : cs.2 ≤ M_X11_readPair.2.2.2.2.2 := by decide) : Ev E d M_X11_readPair 46 [vr a0, vi a1, vu] [vi b0, vr b1] (G0, cs) I L Z := E_callV (as := [vi b0]) (rest := []) (n := 1) hM dX11_readPair_46 wM_RX11_128 wS_X11_bad wV_X11_bad hs (by decide) rfl hlt wC_X11_bad wI_X11 (by decide +kernel) rfl (by decide) (Nat.le_of_ble_eq_true rfl) hc1 hc2 rfl (fun r g' I2 L2 h => by obtain ⟨rfl, rfl, rfl, rfl⟩ := h; exact k)
/-! THE REFERENCE READS: a rule, a pair -/
theorem DR_R {I D : MI} (h : DR I D) {s l i : Int} (hn : ¬ hsR D s) (hs : 0 ≤ s ∧ s ≤ 4) (hl : 0 ≤ l ∧ l ≤ i) (hi : i ≤ 9) : DR (up2 (up2 (up2 I 83 (39 + 2 * s) l) 83 (39 + 2 * s + 1) i) 83 1 (D 4 1 + 1)) (addR D 4 s l i) := by
  have n := DR_n h
  obtain ⟨nb0, nb1, nb2⟩ := h.1.1
  have room := Wf_room h.1 hs hn
  have e0 : addR D 4 s l i 4 0 = D 4 0 := by simp [addR, up2_at]
  have e1 : addR D 4 s l i 4 1 = D 4 1 + 1 := by simp [addR, up2_at]
  have e2 : addR D 4 s l i 4 2 = D 4 2 := by simp [addR, up2_at]
  have eo : ∀ q : Nat, (q < 4 ∨ 10 < q ∨ q = 5 ∨ q = 6 ∨ q = 7) → ∀ k, addR D 4 s l i q k = D q k := fun q hq k => by
    unfold addR
    rw [up2_ne (.inl (by omega)), up2_ne (.inl (by omega)), up2_ne (.inl (by omega)), up2_ne (.inl (by omega))]
  have rd : ∀ k : Int, k ≠ 1 → k ≠ 39 + 2 * s → k ≠ 39 + 2 * s + 1 → up2 (up2 (up2 I 83 (39 + 2 * s) l) 83 (39 + 2 * s + 1) i) 83 1 (D 4 1 + 1) 83 k = I 83 k := fun k k1 k2 k3 => by
    rw [up2_ne (.inr k1), up2_ne (.inr k3), up2_ne (.inr k2)]
  refine DR_mk (Wf_R h.1 hn hs hl hi) ⟨by rw [rd 0 (by omega) (by omega) (by omega), e0]; exact n.1, by rw [up2_eq, e1], by rw [rd 2 (by omega) (by omega) (by omega), e2]; exact n.2.2⟩ (fun k k0 k1 => ?_) (fun q q0 q1 => ?_) (fun k k0 k1 => ?_)
  · rw [e0] at k1
    rw [rd _ (by omega) (by omega) (by omega), rd _ (by omega) (by omega) (by omega), rd _ (by omega) (by omega) (by omega), eo (4 + 1) (by decide), eo (4 + 2) (by decide), eo (4 + 3) (by decide)]
    exact DR_t h k0 k1
  · rw [e1]
    by_cases e : q = s
    · subst e
      refine .inr ⟨D 4 1, by omega, by omega, ?_, ?_, ?_⟩
      · simp [addR, up2_at]
      · rw [up2_ne (.inr (by omega)), up2_ne (.inr (by omega)), up2_eq]; simp [addR, up2_at]
      · rw [up2_ne (.inr (by omega)), up2_eq]; simp [addR, up2_at]
    · rw [rd _ (by omega) (by omega) (by omega), rd _ (by omega) (by omega) (by omega)]
      rcases DR_r h q0 q1 with ⟨r1, r2⟩ | ⟨r, r0, r1, r2, r3, r4⟩
      · refine .inl ⟨r1, fun r r0 r1 => ?_⟩
        by_cases er : r = D 4 1
        · subst er
          simp [addR, up2_at]
          omega
        · have := r2 r r0 (by omega)
          simp [addR, up2_at, er]
          exact this
      · have er : r ≠ D 4 1 := by omega
        refine .inr ⟨r, r0, by omega, ?_, ?_, ?_⟩
        · simp [addR, up2_at, er]; exact r2
        · simp [addR, up2_at, er]; exact r3
        · simp [addR, up2_at, er]; exact r4
  · rw [e2] at k1
    rw [rd _ (by omega) (by omega) (by omega), rd _ (by omega) (by omega) (by omega), eo (4 + 7) (by decide), eo (4 + 8) (by decide)]
    exact DR_p h k0 k1
theorem DR_P {I D : MI} (h : DR I D) {a b : Int} (hn : D 4 2 < 8) (ha : 0 ≤ a ∧ a < D 4 0) (hb : 0 ≤ b ∧ b < D 4 0) : DR (up2 (up2 (up2 I 83 (49 + 2 * D 4 2) a) 83 (49 + 2 * D 4 2 + 1) b) 83 2 (D 4 2 + 1)) (addP D 4 a b) := by
  have n := DR_n h
  obtain ⟨nb0, nb1, nb2⟩ := h.1.1
  have e0 : addP D 4 a b 4 0 = D 4 0 := by simp [addP, up2_at]
  have e1 : addP D 4 a b 4 1 = D 4 1 := by simp [addP, up2_at]
  have e2 : addP D 4 a b 4 2 = D 4 2 + 1 := by simp [addP, up2_at]
  have eo : ∀ q : Nat, (q < 4 ∨ 12 < q ∨ (5 ≤ q ∧ q ≤ 10)) → ∀ k, addP D 4 a b q k = D q k := fun q hq k => by
    unfold addP
    rw [up2_ne (.inl (by omega)), up2_ne (.inl (by omega)), up2_ne (.inl (by omega))]
  have rd : ∀ k : Int, k ≠ 2 → k ≠ 49 + 2 * D 4 2 → k ≠ 49 + 2 * D 4 2 + 1 → up2 (up2 (up2 I 83 (49 + 2 * D 4 2) a) 83 (49 + 2 * D 4 2 + 1) b) 83 2 (D 4 2 + 1) 83 k = I 83 k := fun k k1 k2 k3 => by
    rw [up2_ne (.inr k1), up2_ne (.inr k3), up2_ne (.inr k2)]
  refine DR_mk (Wf_P h.1 hn ha hb) ⟨by rw [rd 0 (by omega) (by omega) (by omega), e0]; exact n.1, by rw [rd 1 (by omega) (by omega) (by omega), e1]; exact n.2.1, by rw [up2_eq, e2]⟩ (fun k k0 k1 => ?_) (fun q q0 q1 => ?_) (fun k k0 k1 => ?_)
  · rw [e0] at k1
    rw [rd _ (by omega) (by omega) (by omega), rd _ (by omega) (by omega) (by omega), rd _ (by omega) (by omega) (by omega), eo (4 + 1) (by decide), eo (4 + 2) (by decide), eo (4 + 3) (by decide)]
    exact DR_t h k0 k1
  · rw [rd _ (by omega) (by omega) (by omega), rd _ (by omega) (by omega) (by omega), e1]
    have r := DR_r h q0 q1
    simpa only [eo (4 + 4) (by decide), eo (4 + 5) (by decide), eo (4 + 6) (by decide)] using r
  · rw [e2] at k1
    by_cases e : k = D 4 2
    · subst e
      refine ⟨?_, ?_⟩
      · rw [up2_ne (.inr (by omega)), up2_ne (.inr (by omega)), up2_eq]; simp [addP, up2_at]
      · rw [up2_ne (.inr (by omega)), up2_eq]; simp [addP, up2_at]
    · have t := DR_p h k0 (by omega)
      rw [rd _ (by omega) (by omega) (by omega), rd _ (by omega) (by omega) (by omega), t.1, t.2]
      refine ⟨?_, ?_⟩ <;> simp [addP, up2_at, e]
theorem hsR_i {I D : MI} (h : DR I D) {v : Int} (v0 : 0 ≤ v ∧ v ≤ 4) : hsR D v ↔ 0 ≤ I 83 (39 + 2 * v) := by
  rcases DR_r h v0.1 (by omega) with ⟨r1, r2⟩ | ⟨r, r0, r1, r2, r3, r4⟩
  · exact ⟨fun ⟨k, k0, k1, k2⟩ => absurd k2 (r2 k k0 k1), fun q => by omega⟩
  · have := h.1.2.2.1 r r0 r1
    exact ⟨fun _ => by omega, fun _ => ⟨r, r0, r1, r2⟩⟩
theorem c_X11_readRule {E : En} {I L D : MI} {B : Int → Int} {n : Int} {s : PR} (hB : BOK B) (h : RR I B n s) (hd : DR I D) (h0 : pf s = 0) (h2 : pk s = 2) : CQv E 8 M_X11_readRule [vr 78] I L (rThQ I L B n (rulR B s D)) := by
  have g83 : G0.1[83]? = some (.inr (0, 65)) := rfl
  obtain ⟨nb0, nb1, nb2⟩ := hd.1.1
  refine CM_of' (al := [vr _, vu, vu, vu]) rfl (Nat.le_of_ble_eq_true rfl) rfl (fun hM => ?_)
  refine (t78_X11_readRule_0 (t78_X11_readRule_1 (t78_X11_readRule_2 (by first | assumption | rfl) ((c_X11_must (b := 1) hB h (.inr rfl) (fun _ _ => .inl h2))) (by first | decide | omega) (fun I2 L2 q2 => ?_))))
  -- 1 leaves: :call2
  have em : mstR B s (decide ((1 : Int) = 1)) = nextR B s := by unfold mstR; rw [if_pos h0, if_pos (by decide)]
  rw [em] at q2
  have er : rulR B s D = rul1 B D (nextR B s) := rfl
  rw [er]
  have hs0 : pf (nextR B s) = 0 := h0
  generalize nextR B s = s1 at *
  obtain ⟨rfl, f1, r1⟩ := q2
  have d1 := DR_f hd (f1.1 83 (by decide))
  have tk := RR_tk hB r1
  have h17 := r1.2.2.1
  have fe : pk s1 = 3 → figV s1 = pv s1 := fun q => if_pos q
  have ri := RR_RI hB r1
  have fb : 0 ≤ figV s1 ∧ figV s1 ≤ 999 := by
    unfold figV
    split
    next q => have := ri.2.2.1; have := ri.2.2.2 q; omega
    next => decide
  -- from the sort on
  have k56 : ∀ (I2 : MI) (w : Int) (sx : PR), RFs I I2 → RR I2 B n sx → DR I2 D → numR B sx 0 4 true = numR B s1 0 4 (bP (¬ hsR D (pv s1))) → (pf (numR B s1 0 4 (bP (¬ hsR D (pv s1)))) = 0 → pv sx = pv s1) → Ev E 8 M_X11_readRule 56 [vr 78, vi w, vu, vu] [] (G0, 0, 0) I2 L2 (ZQ E M_X11_readRule (QQv (rThQ I L2 B n (rul1 B D s1)))) := by
    intro I2 w sx f2 r2 d2 es hv
    have e1 : rul1 B D s1 = rul2 B D (numV s1 0 4 (bP (¬ hsR D (pv s1)))) (numR B s1 0 4 (bP (¬ hsR D (pv s1)))) := rfl
    rw [e1]
    have good2 := fun z => num_good (B := B) (s := s1) (lo := 0) (hi := 4) (f := bP (¬ hsR D (pv s1))) z
    generalize hs2 : numR B s1 0 4 (bP (¬ hsR D (pv s1))) = s2 at *
    refine (t78_X11_readRule_56 (t78_X11_readRule_57 (t78_X11_readRule_58 (t78_X11_readRule_59 (by first | assumption | rfl) ((c_X11_number (s := sx) hB r2 (by omega) (by omega))) (by first | decide | omega) (fun z59 I59 L59 q59 => ?_)))))
    -- 1 leaves: :call59
    rw [es] at q59
    obtain ⟨⟨rfl, f3, r3⟩, z1, b1⟩ := q59
    have d3 := DR_f d2 (f3.1 83 (by decide))
    refine (t78_X11_readRule_62 (t78_X11_readRule_63 (t78_X11_readRule_64 (t78_X11_readRule_65 (t78_X11_readRule_67 (by first | assumption | rfl) ((c_X11_number (s := s2) hB r3 (by omega) (by omega))) (by first | decide | omega) (fun z67 I67 L67 q67 => ?_))))))
    -- 1 leaves: :call67
    obtain ⟨⟨rfl, f4, r4⟩, z2, b2⟩ := q67
    have d4 := DR_f d3 (f4.1 83 (by decide))
    have good3 := fun z => num_good (B := B) (s := s2) (lo := 0) (hi := 9) (f := true) z
    have e2 : rul2 B D (numV s1 0 4 (bP (¬ hsR D (pv s1)))) s2 = rul3 B D (numV s1 0 4 (bP (¬ hsR D (pv s1)))) (numV s2 0 9 true) (numR B s2 0 9 true) := rfl
    rw [e2]
    generalize numR B s2 0 9 true = s3 at *
    have e4 : numR B s3 (numV s2 0 9 true) 9 true = numR B s3 z67 9 true := by
      by_cases p3 : pf s3 = 0
      · have g := good3 p3
        rw [g.2.2.2.2.2.1, z2 p3]
      · rw [numR_x p3, numR_x p3]
    refine (t78_X11_readRule_70 (t78_X11_readRule_71 (t78_X11_readRule_72 (t78_X11_readRule_73 (t78_X11_readRule_75 (by first | assumption | rfl) ((c_X11_number (s := s3) hB r4 (by omega) (by omega))) (by first | decide | omega) (fun z75 I75 L75 q75 => ?_))))))
    -- 1 leaves: :call75
    obtain ⟨⟨rfl, f5, r5⟩, z3, b3⟩ := q75
    have d5 := DR_f d4 (f5.1 83 (by decide))
    have good4 := fun z => num_good (B := B) (s := s3) (lo := z67) (hi := 9) (f := true) z
    refine (t78_X11_readRule_78 (t78_X11_readRule_79 (t78_X11_readRule_80 (by first | assumption | rfl) ((c_X11_mustEnd hB r5)) (by first | decide | omega) (fun I80 L80 q80 => ?_))))
    -- 1 leaves: :call80
    obtain ⟨rfl, f6, r6⟩ := q80
    have d6 := DR_f d5 (f6.1 83 (by decide))
    have ff := RFs_T (RFs_t f2 (RFs_t f3 (RFs_t f4 (RFs_t f5 f6))))
    have h17 := r6.2.2.1
    have n6 := (DR_n d6).2.1
    by_cases pz : pf (sgnR B (numR B s3 z67 9 true)) = 0
    · have g5 := sgn_good pz
      have g4 := good4 g5.1
      have g3 := good3 g4.1
      have g2 := good2 g3.1
      have a3 := z3 g5.1
      have a2 := z2 g4.1
      have a1 := z1 g3.1
      have a0 := hv g3.1
      have nh : ¬ hsR D (pv s1) := bP_i.mp g2.2.2.2.2.1
      have e831 : up2 (up2 I80 83 (39 + 2 * z59) z67) 83 (39 + 2 * z59 + 1) z75 83 1 = I80 83 1 := by
        rw [up2_ne (.inr (by omega)), up2_ne (.inr (by omega))]
      refine (t78_X11_readRule_83 (t78_X11_readRule_84 (by first | assumption | rfl) (fun r84 => (t78_X11_readRule_87 (by omega) (fun c87 => (t78_X11_readRule_126 ?_)) (fun c87 => (t78_X11_readRule_90 (t78_X11_readRule_91 (by first | assumption | rfl) (by first | assumption | rfl) (t78_X11_readRule_94 (t78_X11_readRule_96 (t78_X11_readRule_97 (t78_X11_readRule_98 (t78_X11_readRule_99 (t78_X11_readRule_100 (t78_X11_readRule_101 (by first | assumption | rfl) (by omega) (by omega) (by omega) (by omega) (t78_X11_readRule_102 (t78_X11_readRule_103 (by first | assumption | rfl) (by first | assumption | rfl) (t78_X11_readRule_106 (t78_X11_readRule_108 (t78_X11_readRule_109 (t78_X11_readRule_110 (t78_X11_readRule_111 (t78_X11_readRule_112 (t78_X11_readRule_113 (t78_X11_readRule_114 (t78_X11_readRule_115 (by first | assumption | rfl) (by omega) (by omega) (by omega) (by omega) (t78_X11_readRule_116 (t78_X11_readRule_117 (by first | assumption | rfl) (by first | assumption | rfl) (t78_X11_readRule_120 (t78_X11_readRule_121 (t78_X11_readRule_122 (by first | assumption | rfl) (by omega) (by omega) (by omega) (fun r122 => (t78_X11_readRule_123 (t78_X11_readRule_124 (t78_X11_readRule_125 (by first | assumption | rfl) (by omega) (by omega) (by omega) (by omega) (t78_X11_readRule_126 ?_)))))))))))))))))))))))))))))))))))
      -- 2 leaves: 87t :ret126 | 87f :ret126
      · omega
      · rw [e831, n6]
        refine qqv ⟨rfl, RFt_83 (RFt_83 (RFt_83 ff)), ?_⟩
        unfold rul3
        rw [e4, if_pos pz]
        refine ⟨RR_83 (RR_83 (RR_83 r6)), ?_⟩
        have ev4 : numV s3 (numV s2 0 9 true) 9 true = z75 := by
          rw [g3.2.2.2.2.2.1, ← a2, g4.2.2.2.2.2.1, a3]
        rw [ev4, g2.2.2.2.2.2.1, g3.2.2.2.2.2.1, ← a2, ← a0, ← a1]
        exact DR_R d6 (by rw [a1, a0]; exact nh) (by omega) (by omega) (by omega)
    · have et : rul3 B D (numV s1 0 4 (bP (¬ hsR D (pv s1)))) (numV s2 0 9 true) s3 = (sgnR B (numR B s3 z67 9 true), D) := by unfold rul3; rw [e4, if_neg pz]
      rw [et]
      refine (t78_X11_readRule_83 (t78_X11_readRule_84 (by first | assumption | rfl) (fun r84 => (t78_X11_readRule_87 (by omega) (fun c87 => (t78_X11_readRule_126 ?_)) (fun c87 => ?_)))))
      -- 2 leaves: 87t :ret126 | 87f :->90
      · exact qqv ⟨rfl, ff, r6, d6⟩
      · omega
  have same : (pk s1 = 3 → ¬ (pv s1 < 0 ∨ 4 < pv s1) → ¬ hsR D (pv s1)) → numR B s1 0 4 true = numR B s1 0 4 (bP (¬ hsR D (pv s1))) := fun hh => by
    by_cases h3 : pk s1 = 3
    · by_cases hv : pv s1 < 0 ∨ 4 < pv s1
      · rw [numR_b hs0 h3 (by omega), numR_b hs0 h3 (by omega)]
      · rw [bP_t (hh h3 hv)]
    · rw [numR_k hs0 h3, numR_k hs0 h3]
  refine (t78_X11_readRule_5 (t78_X11_readRule_6 (by first | assumption | rfl) ((c_X11_figures hB r1)) (by first | decide | omega) (fun r6 => (t78_X11_readRule_9 (t78_X11_readRule_10 (t78_X11_readRule_11 (by first | assumption | rfl) (fun r11 => (t78_X11_readRule_14 (by omega) (fun c14 => ?_) (fun c14 => (t78_X11_readRule_17 (t78_X11_readRule_18 (by first | assumption | rfl) (fun r18 => (t78_X11_readRule_21 (t78_X11_readRule_22 (by omega) (by omega) (fun c22 => ?_) (fun c22 => (t78_X11_readRule_25 (t78_X11_readRule_26 (by omega) (t78_X11_readRule_27 (t78_X11_readRule_28 (t78_X11_readRule_31 c_X11_in (by first | decide | omega) (fun c31 => (t78_X11_readRule_34 (by decide) (fun h => absurd h (by decide)) (fun _ => (t78_X11_readRule_37 (t78_X11_readRule_38 (by first | assumption | rfl) (by first | assumption | rfl) (t78_X11_readRule_41 (t78_X11_readRule_43 (t78_X11_readRule_44 (t78_X11_readRule_45 (t78_X11_readRule_46 (t78_X11_readRule_47 (by first | assumption | rfl) (by omega) (by omega) (by omega) (fun r47 => (t78_X11_readRule_48 (by omega) (fun c48 => ?_) (fun c48 => (t78_X11_readRule_51 (t78_X11_readRule_52 (t78_X11_readRule_53 (by first | assumption | rfl) c_X11_bad (by first | decide | omega) ?_))))))))))))))))) (fun c31 => (t78_X11_readRule_34 (by decide) (fun _ => ?_) (fun h => absurd rfl h)))))))))))))))))))))))
  -- 5 leaves: 14t :->56 | 14f 22t :->56 | 14f 22f 31T 48t :->56 | 14f 22f 31T 48f :->56 | 14f 22f 31F :->56
  · omega
  · exact k56 _ _ s1 f1 r1 d1 (same fun k3 _ => absurd (tk.2.2.1.mpr k3) c22) (fun _ => rfl)
  · have k3 := tk.2.2.1.mp c22
    rw [fe k3] at c31 c48 ⊢
    exact k56 _ _ s1 f1 r1 d1 (same fun _ _ => fun q => by have := (hsR_i d1 (by omega)).mp q; omega) (fun _ => rfl)
  · have k3 := tk.2.2.1.mp c22
    rw [fe k3] at c31 c48 ⊢
    have hh : hsR D (pv s1) := (hsR_i d1 (by omega)).mpr (by omega)
    have hbd := RR_bad r1 (c := 2) (by decide)
    have eb : badR s1 2 = failR s1 2 := if_pos hs0
    rw [eb] at hbd
    have e1 : numR B s1 0 4 (bP (¬ hsR D (pv s1))) = failR s1 2 := numR_b hs0 k3 (by rw [bP_f (fun q => q hh)]; exact .inr (.inr rfl))
    exact k56 _ _ (failR s1 2) (RFs_t f1 rbd_f) hbd (DR_f d1 (rbd_f.1 83 (by decide))) (by rw [e1]; exact numR_x (by show (2 : Int) ≠ 0; decide)) (fun _ => rfl)
  · have k3 := fun z => fe z
    refine k56 _ _ s1 f1 r1 d1 (same fun k3 hv => ?_) (fun _ => rfl)
    rw [fe k3] at c31
    omega
theorem par3_x {B : Int → Int} {D : MI} {a b : Int} {s : PR} (h : pf s ≠ 0) : par3 B D a b s = (s, D) := by
  unfold par3
  rw [sgnR_x h, if_neg h]
theorem par1_x {B : Int → Int} {D : MI} {s : PR} (h : pf s ≠ 0) : par1 B D s = (s, D) := by
  unfold par1
  rw [numR_x h]
  unfold par2
  rw [numR_x h, par3_x h]
theorem c_X11_readPair {E : En} {I L D : MI} {B : Int → Int} {n : Int} {s : PR} (hB : BOK B) (h : RR I B n s) (hd : DR I D) (h0 : pf s = 0) (h2 : pk s = 2) : CQv E 8 M_X11_readPair [vr 78] I L (rThQ I L B n (parR B s D)) := by
  have g83 : G0.1[83]? = some (.inr (0, 65)) := rfl
  obtain ⟨nb0, nb1, nb2⟩ := hd.1.1
  have nn := DR_n hd
  have es1 : parR B s D = par1 B D (if I 83 2 = 8 then failR s 3 else nextR B s) := by
    unfold parR
    by_cases q : D 4 2 < 8
    · rw [if_pos q, if_neg (by omega)]
    · rw [if_neg q, if_pos (by omega), par1_x (by show (3 : Int) ≠ 0; decide)]
  have hs8 : pf (if I 83 2 = 8 then failR s 3 else nextR B s) = 0 → D 4 2 < 8 := fun q => by
    split at q
    · exact absurd q (by show (3 : Int) ≠ 0; decide)
    · omega
  rw [es1]
  refine CM_of' (al := [vr _, vu, vu]) rfl (Nat.le_of_ble_eq_true rfl) rfl (fun hM => ?_)
  refine (t78_X11_readPair_0 (t78_X11_readPair_1 (t78_X11_readPair_2 (t78_X11_readPair_4 (by first | assumption | rfl) ((c_X11_begins (i := 2) (m := 8) hB h (by decide) (by omega) h0 h2)) (by first | decide | omega) (fun I4 L4 q4 => ?_)))))
  -- 1 leaves: :call4
  generalize (if I 83 2 = 8 then failR s 3 else nextR B s) = s1 at *
  obtain ⟨rfl, f1, r1⟩ := q4
  have d1 := DR_f hd (f1.1 83 (by decide))
  have n1 := DR_n d1
  refine (t78_X11_readPair_7 (t78_X11_readPair_8 (t78_X11_readPair_9 (t78_X11_readPair_10 (by first | assumption | rfl) (by first | assumption | rfl) (t78_X11_readPair_13 (t78_X11_readPair_14 (by first | assumption | rfl) (by omega) (by omega) (by omega) (fun r14 => (t78_X11_readPair_15 (t78_X11_readPair_16 (t78_X11_readPair_17 (by first | assumption | rfl) ((c_X11_number (s := s1) hB r1 (by omega) (by omega))) (by first | decide | omega) (fun z17 I17 L17 q17 => ?_)))))))))))
  -- 1 leaves: :call17
  rw [n1.1] at q17
  obtain ⟨⟨rfl, f2, r2⟩, z1, b1⟩ := q17
  have d2 := DR_f d1 (f2.1 83 (by decide))
  have n2 := DR_n d2
  have good2 := fun z => num_good (B := B) (s := s1) (lo := 0) (hi := D 4 0 - 1) (f := true) z
  have e1 : par1 B D s1 = par2 B D (numV s1 0 (D 4 0 - 1) true) (numR B s1 0 (D 4 0 - 1) true) := rfl
  rw [e1]
  generalize numR B s1 0 (D 4 0 - 1) true = s2 at *
  have tk := RR_tk hB r2
  have h17 := r2.2.2.1
  have ri := RR_RI hB r2
  have fe : pk s2 = 3 → figV s2 = pv s2 := fun q => if_pos q
  have fb : 0 ≤ figV s2 ∧ figV s2 ≤ 999 := by
    unfold figV
    split
    next q => have := ri.2.2.1; have := ri.2.2.2 q; omega
    next => decide
  have k49 : ∀ (I2 : MI) (sx : PR), RFs I I2 → RR I2 B n sx → DR I2 D → numR B sx 0 (D 4 0 - 1) true = numR B s2 0 (D 4 0 - 1) (bP (pv s2 ≠ numV s1 0 (D 4 0 - 1) true)) → (pf (numR B s2 0 (D 4 0 - 1) (bP (pv s2 ≠ numV s1 0 (D 4 0 - 1) true))) = 0 → pv sx = pv s2) → Ev E 8 M_X11_readPair 49 [vr 78, vi z17, vu] [] (G0, 0, 0) I2 L17 (ZQ E M_X11_readPair (QQv (rThQ I L17 B n (par2 B D (numV s1 0 (D 4 0 - 1) true) s2)))) := by
    intro I2 sx f3 r3 d3 es hv
    have n3 := DR_n d3
    have e2 : par2 B D (numV s1 0 (D 4 0 - 1) true) s2 = par3 B D (numV s1 0 (D 4 0 - 1) true) (numV s2 0 (D 4 0 - 1) (bP (pv s2 ≠ numV s1 0 (D 4 0 - 1) true))) (numR B s2 0 (D 4 0 - 1) (bP (pv s2 ≠ numV s1 0 (D 4 0 - 1) true))) := rfl
    rw [e2]
    have good3 := fun z => num_good (B := B) (s := s2) (lo := 0) (hi := D 4 0 - 1) (f := bP (pv s2 ≠ numV s1 0 (D 4 0 - 1) true)) z
    generalize hs3 : numR B s2 0 (D 4 0 - 1) (bP (pv s2 ≠ numV s1 0 (D 4 0 - 1) true)) = s3 at *
    refine (t78_X11_readPair_49 (t78_X11_readPair_50 (t78_X11_readPair_51 (t78_X11_readPair_52 (by first | assumption | rfl) (by first | assumption | rfl) (t78_X11_readPair_55 (t78_X11_readPair_56 (by first | assumption | rfl) (by omega) (by omega) (by omega) (fun r56 => (t78_X11_readPair_57 (t78_X11_readPair_58 (t78_X11_readPair_59 (by first | assumption | rfl) ((c_X11_number (s := sx) hB r3 (by omega) (by omega))) (by first | decide | omega) (fun z59 I59 L59 q59 => ?_)))))))))))
    -- 1 leaves: :call59
    rw [n3.1, es] at q59
    obtain ⟨⟨rfl, f4, r4⟩, z2, b2⟩ := q59
    have d4 := DR_f d3 (f4.1 83 (by decide))
    refine (t78_X11_readPair_62 (t78_X11_readPair_63 (t78_X11_readPair_64 (by first | assumption | rfl) ((c_X11_mustEnd hB r4)) (by first | decide | omega) (fun I64 L64 q64 => ?_))))
    -- 1 leaves: :call64
    obtain ⟨rfl, f5, r5⟩ := q64
    have d5 := DR_f d4 (f5.1 83 (by decide))
    have ff := RFs_T (RFs_t f3 (RFs_t f4 f5))
    have h17 := r5.2.2.1
    have n5 := (DR_n d5).2.2
    by_cases pz : pf (sgnR B s3) = 0
    · have g5 := sgn_good pz
      have g3 := good3 g5.1
      have g2 := good2 g3.1
      have a2 := z2 g5.1
      have a1 := z1 g3.1
      have a0 := hv g5.1
      have hn := hs8 g2.1
      have e832 : up2 I64 83 (49 + 2 * I64 83 2) z17 83 2 = I64 83 2 := by rw [up2_ne (.inr (by omega))]
      have e833 : up2 (up2 I64 83 (49 + 2 * I64 83 2) z17) 83 (49 + 2 * I64 83 2 + 1) z59 83 2 = I64 83 2 := by rw [up2_ne (.inr (by omega)), up2_ne (.inr (by omega))]
      refine (t78_X11_readPair_67 (t78_X11_readPair_68 (by first | assumption | rfl) (fun r68 => (t78_X11_readPair_71 (by omega) (fun c71 => (t78_X11_readPair_120 ?_)) (fun c71 => (t78_X11_readPair_74 (t78_X11_readPair_75 (by first | assumption | rfl) (by first | assumption | rfl) (t78_X11_readPair_78 (t78_X11_readPair_80 (t78_X11_readPair_81 (t78_X11_readPair_82 (by first | assumption | rfl) (by first | assumption | rfl) (t78_X11_readPair_85 (t78_X11_readPair_86 (by first | assumption | rfl) (by omega) (by omega) (by omega) (fun r86 => (t78_X11_readPair_87 (t78_X11_readPair_88 (t78_X11_readPair_89 (t78_X11_readPair_90 (by first | assumption | rfl) (by omega) (by omega) (by omega) (by omega) ?_))))))))))))))))))
      -- 2 leaves: 71t :ret120 | 71f :->91
      · omega
      · refine (t78_X11_readPair_91 (t78_X11_readPair_92 (by first | assumption | rfl) (by first | assumption | rfl) (t78_X11_readPair_95 (t78_X11_readPair_97 (t78_X11_readPair_98 (t78_X11_readPair_99 (by first | assumption | rfl) (by first | assumption | rfl) (t78_X11_readPair_102 (t78_X11_readPair_103 (by first | assumption | rfl) (by omega) (by omega) (by omega) (fun r103 => (t78_X11_readPair_104 (t78_X11_readPair_105 (t78_X11_readPair_106 (t78_X11_readPair_107 (t78_X11_readPair_108 (t78_X11_readPair_109 (by first | assumption | rfl) (by omega) (by omega) (by omega) (by omega) ?_)))))))))))))))
        -- 1 leaves: :->110
        rw [e832]
        refine (t78_X11_readPair_110 (t78_X11_readPair_111 (by first | assumption | rfl) (by first | assumption | rfl) (t78_X11_readPair_114 (t78_X11_readPair_115 (t78_X11_readPair_116 (by first | assumption | rfl) (by omega) (by omega) (by omega) (fun r116 => (t78_X11_readPair_117 (t78_X11_readPair_118 (t78_X11_readPair_119 (by first | assumption | rfl) (by omega) (by omega) (by omega) (by omega) (t78_X11_readPair_120 ?_))))))))))
        -- 1 leaves: :ret120
        rw [e833, n5]
        refine qqv ⟨rfl, RFt_83 (RFt_83 (RFt_83 ff)), ?_⟩
        unfold par3
        rw [if_pos pz]
        refine ⟨RR_83 (RR_83 (RR_83 r5)), ?_⟩
        rw [g3.2.2.2.2.2.1, g2.2.2.2.2.2.1, ← a0, ← a2, ← a1]
        exact DR_P d5 hn (by omega) (by omega)
    · rw [show par3 B D (numV s1 0 (D 4 0 - 1) true) (numV s2 0 (D 4 0 - 1) (bP (pv s2 ≠ numV s1 0 (D 4 0 - 1) true))) s3 = (sgnR B s3, D) by unfold par3; rw [if_neg pz]]
      refine (t78_X11_readPair_67 (t78_X11_readPair_68 (by first | assumption | rfl) (fun r68 => (t78_X11_readPair_71 (by omega) (fun c71 => (t78_X11_readPair_120 ?_)) (fun c71 => ?_)))))
      -- 2 leaves: 71t :ret120 | 71f :->74
      · exact qqv ⟨rfl, ff, r5, d5⟩
      · omega
  have same : (pf s2 = 0 → pk s2 = 3 → pv s2 ≠ numV s1 0 (D 4 0 - 1) true) → numR B s2 0 (D 4 0 - 1) true = numR B s2 0 (D 4 0 - 1) (bP (pv s2 ≠ numV s1 0 (D 4 0 - 1) true)) := fun hh => by
    by_cases hs0 : pf s2 = 0
    · by_cases h3 : pk s2 = 3
      · rw [bP_t (hh hs0 h3)]
      · rw [numR_k hs0 h3, numR_k hs0 h3]
    · rw [numR_x hs0, numR_x hs0]
  have f12 := RFs_t f1 f2
  have av : pf s2 = 0 → z17 = numV s1 0 (D 4 0 - 1) true := fun z => by
    rw [(good2 z).2.2.2.2.2.1]
    exact z1 z
  refine (t78_X11_readPair_20 (t78_X11_readPair_21 (t78_X11_readPair_22 (by first | assumption | rfl) (fun r22 => (t78_X11_readPair_25 (by omega) (fun c25 => ?_) (fun c25 => (t78_X11_readPair_28 (t78_X11_readPair_29 (by first | assumption | rfl) (fun r29 => (t78_X11_readPair_32 (t78_X11_readPair_33 (by omega) (by omega) (fun c33 => ?_) (fun c33 => (t78_X11_readPair_36 (t78_X11_readPair_37 (by first | assumption | rfl) ((c_X11_figures hB r2)) (by first | decide | omega) (fun r37 => (t78_X11_readPair_40 (t78_X11_readPair_41 (by omega) (by omega) (fun c41 => ?_) (fun c41 => (t78_X11_readPair_44 (t78_X11_readPair_45 (t78_X11_readPair_46 (by first | assumption | rfl) c_X11_bad (by first | decide | omega) ?_)))))))))))))))))))))
  -- 4 leaves: 25t :->49 | 25f 33t :->49 | 25f 33f 41t :->49 | 25f 33f 41f :->49
  · exact k49 _ s2 f12 r2 d2 (same fun z => absurd (h17.trans z) c25) (fun _ => rfl)
  · exact k49 _ s2 f12 r2 d2 (same fun _ z => absurd (tk.2.2.1.mpr z) c33) (fun _ => rfl)
  · have k3 := tk.2.2.1.mp c33
    have p0 : pf s2 = 0 := by omega
    rw [fe k3, av p0] at c41
    exact k49 _ s2 f12 r2 d2 (same fun _ _ => c41) (fun _ => rfl)
  · have k3 := tk.2.2.1.mp c33
    have p0 : pf s2 = 0 := by omega
    rw [fe k3, av p0] at c41
    have hbd := RR_bad r2 (c := 2) (by decide)
    have eb : badR s2 2 = failR s2 2 := if_pos p0
    rw [eb] at hbd
    have e3 : numR B s2 0 (D 4 0 - 1) (bP (pv s2 ≠ numV s1 0 (D 4 0 - 1) true)) = failR s2 2 := numR_b p0 k3 (by rw [bP_f (fun q => q c41)]; exact .inr (.inr rfl))
    exact k49 _ (failR s2 2) (RFs_t f12 rbd_f) hbd (DR_f d2 (rbd_f.1 83 (by decide))) (by rw [e3]; exact numR_x (by show (2 : Int) ≠ 0; decide)) (fun _ => rfl)
