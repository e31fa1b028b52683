theorem t12_X9_become_88 {E : En} {d : Nat} {κ : Kp} {I L : MI} {Z : Zt} {a0 a1 : Nat} {a2 : Int}  (k : Ev E d M_X9_become 89 [vr a0, vr a1, vi a2] [vi a2] κ I L Z) : Ev E d M_X9_become 88 [vr a0, vr a1, vi a2] [] κ I L Z := E_iload_n dX9_become_88 rfl k
theorem t12_X9_become_89 {E : En} {d : Nat} {κ : Kp} {I L : MI} {Z : Zt} {a0 a1 : Nat} {a2 b0 : Int}  (k : Ev E d M_X9_become 90 [vr a0, vr a1, vi a2] [vr a1, vi b0] κ I L Z) : Ev E d M_X9_become 89 [vr a0, vr a1, vi a2] [vi b0] κ I L Z := E_aload_n dX9_become_89 rfl k
theorem t12_X9_become_90 {E : En} {d : Nat} {κ : Kp} {I L : MI} {Z : Zt} {a0 a1 b0 : Nat} {a2 b1 : Int} (hs : κ.1.1[b0]? = some (.inl 9)) (k : Ir (I b0 2) → Ev E d M_X9_become 93 [vr a0, vr a1, vi a2] [vi (I b0 2), vi b1] κ I L Z) : Ev E d M_X9_become 90 [vr a0, vr a1, vi a2] [vr b0, vi b1] κ I L Z := E_getI (ci := 9) (n := 2) dX9_become_90 wF_RX9_43 (by decide) hs rfl k
theorem t12_X9_become_93 {E : En} {d : Nat} {κ : Kp} {I L : MI} {Z : Zt} {a0 a1 : Nat} {a2 b0 b1 : Int} (hx : Ir b1) (hy : Ir b0) (kt : b0 ≤ b1 → Ev E d M_X9_become 122 [vr a0, vr a1, vi a2] [] κ I L Z) (kf : b1 < b0 → Ev E d M_X9_become 96 [vr a0, vr a1, vi a2] [] κ I L Z) : Ev E d M_X9_become 93 [vr a0, vr a1, vi a2] [vi b0, vi b1] κ I L Z := E_icmp_ge dX9_become_93 hx hy kt kf (by decide)
theorem t12_X9_become_122 {E : En} {d : Nat} {g : Geo} {I L : MI} {Q : Option AV → Geo → MI → MI → Prop} {cs : Nat × Nat} {a0 a1 : Nat} {a2 : Int} (hq : Q none g I L) (h1 : cs.1 ≤ M_X9_become.2.2.2.2.1 := by decide) (h2 : cs.2 ≤ M_X9_become.2.2.2.2.2 := by decide) : Ev E d M_X9_become 122 [vr a0, vr a1, vi a2] [] (g, cs) I L (ZQ E M_X9_become Q) := E_return rfl dX9_become_122 hq h1 h2
theorem t12_X9_become_96 {E : En} {d : Nat} {κ : Kp} {I L : MI} {Z : Zt} {a0 a1 : Nat} {a2 : Int}  (k : Ev E d M_X9_become 97 [vr a0, vr a1, vi a2] [vr a0] κ I L Z) : Ev E d M_X9_become 96 [vr a0, vr a1, vi a2] [] κ I L Z := E_aload_n dX9_become_96 rfl k
theorem t12_X9_become_97 {E : En} {d : Nat} {κ : Kp} {I L : MI} {Z : Zt} {a0 a1 b0 : Nat} {a2 : Int}  (k : Ev E d M_X9_become 98 [vr a0, vr a1, vi a2] [vr a1, vr b0] κ I L Z) : Ev E d M_X9_become 97 [vr a0, vr a1, vi a2] [vr b0] κ I L Z := E_aload_n dX9_become_97 rfl k
theorem t12_X9_become_98 {E : En} {d : Nat} {κ : Kp} {I L : MI} {Z : Zt} {a0 a1 b0 b1 : Nat} {a2 : Int} {q : Nat} (hs : κ.1.1[b0]? = some (.inl 9)) (hq : κ.1.2 b0 9 = some q) (k : Ev E d M_X9_become 101 [vr a0, vr a1, vi a2] [vr q, vr b1] κ I L Z) : Ev E d M_X9_become 98 [vr a0, vr a1, vi a2] [vr b0, vr b1] κ I L Z := E_getR (ci := 9) (n := 9) dX9_become_98 wF_RX9_30 (by decide) hs rfl hq k
theorem t12_X9_become_101 {E : En} {d : Nat} {κ : Kp} {I L : MI} {Z : Zt} {a0 a1 b0 b1 : Nat} {a2 : Int}  (k : Ev E d M_X9_become 102 [vr a0, vr a1, vi a2] [vi a2, vr b0, vr b1] κ I L Z) : Ev E d M_X9_become 101 [vr a0, vr a1, vi a2] [vr b0, vr b1] κ I L Z := E_iload_n dX9_become_101 rfl k
theorem t12_X9_become_102 {E : En} {d d' : Nat} {cs : Nat × Nat} {I L : MI} {Z : Zt} {a0 a1 b1 b2 : Nat} {a2 b0 : Int} {z : Int} {I' L' : MI} (hM : CFi E d' M_X10_at [vr b1, vi b0] I L z I' L') (hlt : d' + 1 ≤ d) (k : Ir z → Ev E d M_X9_become 105 [vr a0, vr a1, vi a2] [vi z, vr b2] (G0, cs) I' L' Z) (hc1 : cs.1 ≤ M_X9_become.2.2.2.2.1 := by decide) (hc2 : cs.2 ≤ M_X9_become.2.2.2.2.2 := by decide) : Ev E d M_X9_become 102 [vr a0, vr a1, vi a2] [vi b0, vr b1, vr b2] (G0, cs) I L Z := E_callSN (as := [vr b1, vi b0]) (rest := [vr b2]) (n := 2) hM dX9_become_102 rfl (host := "SaidByTimes") (cl := RX9) (by decide +kernel) wS_X10_at hlt wC_X10_at wI_X10 (by decide +kernel) rfl (by decide) (Nat.le_of_ble_eq_true rfl) hc1 hc2 rfl (fun r g' I2 L2 h => by obtain ⟨rfl, z, rfl, hr, rfl, rfl, rfl⟩ := h; exact k hr)
theorem t12_X9_become_105 {E : En} {d : Nat} {κ : Kp} {I L : MI} {Z : Zt} {a0 a1 b1 : Nat} {a2 b0 : Int}  (k : Ev E d M_X9_become 106 [vr a0, vr a1, vi a2] [vr a1, vi b0, vr b1] κ I L Z) : Ev E d M_X9_become 105 [vr a0, vr a1, vi a2] [vi b0, vr b1] κ I L Z := E_aload_n dX9_become_105 rfl k
theorem t12_X9_become_106 {E : En} {d : Nat} {κ : Kp} {I L : MI} {Z : Zt} {a0 a1 b0 b2 : Nat} {a2 b1 : Int} {q : Nat} (hs : κ.1.1[b0]? = some (.inl 9)) (hq : κ.1.2 b0 10 = some q) (k : Ev E d M_X9_become 109 [vr a0, vr a1, vi a2] [vr q, vi b1, vr b2] κ I L Z) : Ev E d M_X9_become 106 [vr a0, vr a1, vi a2] [vr b0, vi b1, vr b2] κ I L Z := E_getR (ci := 9) (n := 10) dX9_become_106 wF_RX9_33 (by decide) hs rfl hq k
theorem t12_X9_become_109 {E : En} {d : Nat} {κ : Kp} {I L : MI} {Z : Zt} {a0 a1 b0 b2 : Nat} {a2 b1 : Int}  (k : Ev E d M_X9_become 110 [vr a0, vr a1, vi a2] [vi a2, vr b0, vi b1, vr b2] κ I L Z) : Ev E d M_X9_become 109 [vr a0, vr a1, vi a2] [vr b0, vi b1, vr b2] κ I L Z := E_iload_n dX9_become_109 rfl k
theorem t12_X9_become_110 {E : En} {d d' : Nat} {cs : Nat × Nat} {I L : MI} {Z : Zt} {a0 a1 b1 b3 : Nat} {a2 b0 b2 : Int} {z : Int} {I' L' : MI} (hM : CFi E d' M_X10_at [vr b1, vi b0] I L z I' L') (hlt : d' + 1 ≤ d) (k : Ir z → Ev E d M_X9_become 113 [vr a0, vr a1, vi a2] [vi z, vi b2, vr b3] (G0, cs) I' L' Z) (hc1 : cs.1 ≤ M_X9_become.2.2.2.2.1 := by decide) (hc2 : cs.2 ≤ M_X9_become.2.2.2.2.2 := by decide) : Ev E d M_X9_become 110 [vr a0, vr a1, vi a2] [vi b0, vr b1, vi b2, vr b3] (G0, cs) I L Z := E_callSN (as := [vr b1, vi b0]) (rest := [vi b2, vr b3]) (n := 2) hM dX9_become_110 rfl (host := "SaidByTimes") (cl := RX9) (by decide +kernel) wS_X10_at hlt wC_X10_at wI_X10 (by decide +kernel) rfl (by decide) (Nat.le_of_ble_eq_true rfl) hc1 hc2 rfl (fun r g' I2 L2 h => by obtain ⟨rfl, z, rfl, hr, rfl, rfl, rfl⟩ := h; exact k hr)
theorem t12_X9_become_113 {E : En} {d d' : Nat} {cs : Nat × Nat} {I L : MI} {Z : Zt} {a0 a1 b2 : Nat} {a2 b0 b1 : Int} {I' L' : MI} (hs : G0.1[b2]? = some (.inl 9)) (hM : CFv E d' M_X9_addPair [vr b2, vi b1, vi b0] I L I' L') (hlt : d' + 1 ≤ d) (k : Ev E d M_X9_become 116 [vr a0, vr a1, vi a2] [] (G0, cs) I' L' Z) (hc1 : cs.1 ≤ M_X9_become.2.2.2.2.1 := by decide) (hc2 : cs.2 ≤ M_X9_become.2.2.2.2.2 := by decide) : Ev E d M_X9_become 113 [vr a0, vr a1, vi a2] [vi b0, vi b1, vr b2] (G0, cs) I L Z := E_callV (as := [vi b1, vi b0]) (rest := []) (n := 2) hM dX9_become_113 wM_RX9_71 wS_X9_addPair wV_X9_addPair hs (by decide) rfl hlt wC_X9_addPair wI_X9 (by decide +kernel) rfl (by decide) (Nat.le_of_ble_eq_true rfl) hc1 hc2 rfl (fun r g' I2 L2 h => by obtain ⟨rfl, rfl, rfl, rfl⟩ := h; exact k)
theorem t12_X9_become_116 {E : En} {d : Nat} {κ : Kp} {I L : MI} {Z : Zt} {a0 a1 : Nat} {a2 : Int}  (k : Ev E d M_X9_become 119 [vr a0, vr a1, vi (a2 + 1)] [] κ I L Z) : Ev E d M_X9_become 116 [vr a0, vr a1, vi a2] [] κ I L Z := E_iinc dX9_become_116 rfl rfl (by simp) k
theorem t12_X9_become_119 {E : En} {d : Nat} {κ : Kp} {I L : MI} {Z : Zt} {a0 a1 : Nat} {a2 : Int}  (k : Ev E d M_X9_become 88 [vr a0, vr a1, vi a2] [] κ I L Z) : Ev E d M_X9_become 119 [vr a0, vr a1, vi a2] [] κ I L Z := E_goto dX9_become_119 (by decide) k
theorem t12_X9_become_44 {E : En} {d : Nat} {κ : Kp} {I L : MI} {Z : Zt} {a0 a1 : Nat} {a2 : Int}  (k : Ev E d M_X9_become 45 [vr a0, vr a1, vi a2] [vi a2] κ I L Z) : Ev E d M_X9_become 44 [vr a0, vr a1, vi a2] [] κ I L Z := E_iload_n dX9_become_44 rfl k
theorem t12_X9_become_45 {E : En} {d : Nat} {κ : Kp} {I L : MI} {Z : Zt} {a0 a1 : Nat} {a2 b0 : Int}  (k : Ev E d M_X9_become 46 [vr a0, vr a1, vi a2] [vr a1, vi b0] κ I L Z) : Ev E d M_X9_become 45 [vr a0, vr a1, vi a2] [vi b0] κ I L Z := E_aload_n dX9_become_45 rfl k
theorem t12_X9_become_46 {E : En} {d : Nat} {κ : Kp} {I L : MI} {Z : Zt} {a0 a1 b0 : Nat} {a2 b1 : Int} (hs : κ.1.1[b0]? = some (.inl 9)) (k : Ir (I b0 1) → Ev E d M_X9_become 49 [vr a0, vr a1, vi a2] [vi (I b0 1), vi b1] κ I L Z) : Ev E d M_X9_become 46 [vr a0, vr a1, vi a2] [vr b0, vi b1] κ I L Z := E_getI (ci := 9) (n := 1) dX9_become_46 wF_RX9_40 (by decide) hs rfl k
theorem t12_X9_become_49 {E : En} {d : Nat} {κ : Kp} {I L : MI} {Z : Zt} {a0 a1 : Nat} {a2 b0 b1 : Int} (hx : Ir b1) (hy : Ir b0) (kt : b0 ≤ b1 → Ev E d M_X9_become 86 [vr a0, vr a1, vi a2] [] κ I L Z) (kf : b1 < b0 → Ev E d M_X9_become 52 [vr a0, vr a1, vi a2] [] κ I L Z) : Ev E d M_X9_become 49 [vr a0, vr a1, vi a2] [vi b0, vi b1] κ I L Z := E_icmp_ge dX9_become_49 hx hy kt kf (by decide)
theorem t12_X9_become_86 {E : En} {d : Nat} {κ : Kp} {I L : MI} {Z : Zt} {a0 a1 : Nat} {a2 : Int}  (k : Ev E d M_X9_become 87 [vr a0, vr a1, vi a2] [vi 0] κ I L Z) : Ev E d M_X9_become 86 [vr a0, vr a1, vi a2] [] κ I L Z := E_iconst (v := 0) dX9_become_86 rfl k
theorem t12_X9_become_87 {E : En} {d : Nat} {κ : Kp} {I L : MI} {Z : Zt} {a0 a1 : Nat} {a2 b0 : Int}  (k : Ev E d M_X9_become 88 [vr a0, vr a1, vi b0] [] κ I L Z) : Ev E d M_X9_become 87 [vr a0, vr a1, vi a2] [vi b0] κ I L Z := E_istore_n dX9_become_87 rfl (by simp) k
theorem t12_X9_become_52 {E : En} {d : Nat} {κ : Kp} {I L : MI} {Z : Zt} {a0 a1 : Nat} {a2 : Int}  (k : Ev E d M_X9_become 53 [vr a0, vr a1, vi a2] [vr a0] κ I L Z) : Ev E d M_X9_become 52 [vr a0, vr a1, vi a2] [] κ I L Z := E_aload_n dX9_become_52 rfl k
theorem t12_X9_become_53 {E : En} {d : Nat} {κ : Kp} {I L : MI} {Z : Zt} {a0 a1 b0 : Nat} {a2 : Int}  (k : Ev E d M_X9_become 54 [vr a0, vr a1, vi a2] [vr a1, vr b0] κ I L Z) : Ev E d M_X9_become 53 [vr a0, vr a1, vi a2] [vr b0] κ I L Z := E_aload_n dX9_become_53 rfl k
theorem t12_X9_become_54 {E : En} {d : Nat} {κ : Kp} {I L : MI} {Z : Zt} {a0 a1 b0 b1 : Nat} {a2 : Int} {q : Nat} (hs : κ.1.1[b0]? = some (.inl 9)) (hq : κ.1.2 b0 6 = some q) (k : Ev E d M_X9_become 57 [vr a0, vr a1, vi a2] [vr q, vr b1] κ I L Z) : Ev E d M_X9_become 54 [vr a0, vr a1, vi a2] [vr b0, vr b1] κ I L Z := E_getR (ci := 9) (n := 6) dX9_become_54 wF_RX9_21 (by decide) hs rfl hq k
theorem t12_X9_become_57 {E : En} {d : Nat} {κ : Kp} {I L : MI} {Z : Zt} {a0 a1 b0 b1 : Nat} {a2 : Int}  (k : Ev E d M_X9_become 58 [vr a0, vr a1, vi a2] [vi a2, vr b0, vr b1] κ I L Z) : Ev E d M_X9_become 57 [vr a0, vr a1, vi a2] [vr b0, vr b1] κ I L Z := E_iload_n dX9_become_57 rfl k
theorem t12_X9_become_58 {E : En} {d d' : Nat} {cs : Nat × Nat} {I L : MI} {Z : Zt} {a0 a1 b1 b2 : Nat} {a2 b0 : Int} {z : Int} {I' L' : MI} (hM : CFi E d' M_X10_at [vr b1, vi b0] I L z I' L') (hlt : d' + 1 ≤ d) (k : Ir z → Ev E d M_X9_become 61 [vr a0, vr a1, vi a2] [vi z, vr b2] (G0, cs) I' L' Z) (hc1 : cs.1 ≤ M_X9_become.2.2.2.2.1 := by decide) (hc2 : cs.2 ≤ M_X9_become.2.2.2.2.2 := by decide) : Ev E d M_X9_become 58 [vr a0, vr a1, vi a2] [vi b0, vr b1, vr b2] (G0, cs) I L Z := E_callSN (as := [vr b1, vi b0]) (rest := [vr b2]) (n := 2) hM dX9_become_58 rfl (host := "SaidByTimes") (cl := RX9) (by decide +kernel) wS_X10_at hlt wC_X10_at wI_X10 (by decide +kernel) rfl (by decide) (Nat.le_of_ble_eq_true rfl) hc1 hc2 rfl (fun r g' I2 L2 h => by obtain ⟨rfl, z, rfl, hr, rfl, rfl, rfl⟩ := h; exact k hr)
theorem t12_X9_become_61 {E : En} {d : Nat} {κ : Kp} {I L : MI} {Z : Zt} {a0 a1 b1 : Nat} {a2 b0 : Int}  (k : Ev E d M_X9_become 62 [vr a0, vr a1, vi a2] [vr a1, vi b0, vr b1] κ I L Z) : Ev E d M_X9_become 61 [vr a0, vr a1, vi a2] [vi b0, vr b1] κ I L Z := E_aload_n dX9_become_61 rfl k
theorem t12_X9_become_62 {E : En} {d : Nat} {κ : Kp} {I L : MI} {Z : Zt} {a0 a1 b0 b2 : Nat} {a2 b1 : Int} {q : Nat} (hs : κ.1.1[b0]? = some (.inl 9)) (hq : κ.1.2 b0 7 = some q) (k : Ev E d M_X9_become 65 [vr a0, vr a1, vi a2] [vr q, vi b1, vr b2] κ I L Z) : Ev E d M_X9_become 62 [vr a0, vr a1, vi a2] [vr b0, vi b1, vr b2] κ I L Z := E_getR (ci := 9) (n := 7) dX9_become_62 wF_RX9_24 (by decide) hs rfl hq k
theorem t12_X9_become_65 {E : En} {d : Nat} {κ : Kp} {I L : MI} {Z : Zt} {a0 a1 b0 b2 : Nat} {a2 b1 : Int}  (k : Ev E d M_X9_become 66 [vr a0, vr a1, vi a2] [vi a2, vr b0, vi b1, vr b2] κ I L Z) : Ev E d M_X9_become 65 [vr a0, vr a1, vi a2] [vr b0, vi b1, vr b2] κ I L Z := E_iload_n dX9_become_65 rfl k
theorem t12_X9_become_66 {E : En} {d d' : Nat} {cs : Nat × Nat} {I L : MI} {Z : Zt} {a0 a1 b1 b3 : Nat} {a2 b0 b2 : Int} {z : Int} {I' L' : MI} (hM : CFi E d' M_X10_at [vr b1, vi b0] I L z I' L') (hlt : d' + 1 ≤ d) (k : Ir z → Ev E d M_X9_become 69 [vr a0, vr a1, vi a2] [vi z, vi b2, vr b3] (G0, cs) I' L' Z) (hc1 : cs.1 ≤ M_X9_become.2.2.2.2.1 := by decide) (hc2 : cs.2 ≤ M_X9_become.2.2.2.2.2 := by decide) : Ev E d M_X9_become 66 [vr a0, vr a1, vi a2] [vi b0, vr b1, vi b2, vr b3] (G0, cs) I L Z := E_callSN (as := [vr b1, vi b0]) (rest := [vi b2, vr b3]) (n := 2) hM dX9_become_66 rfl (host := "SaidByTimes") (cl := RX9) (by decide +kernel) wS_X10_at hlt wC_X10_at wI_X10 (by decide +kernel) rfl (by decide) (Nat.le_of_ble_eq_true rfl) hc1 hc2 rfl (fun r g' I2 L2 h => by obtain ⟨rfl, z, rfl, hr, rfl, rfl, rfl⟩ := h; exact k hr)
theorem t12_X9_become_69 {E : En} {d : Nat} {κ : Kp} {I L : MI} {Z : Zt} {a0 a1 b2 : Nat} {a2 b0 b1 : Int}  (k : Ev E d M_X9_become 70 [vr a0, vr a1, vi a2] [vr a1, vi b0, vi b1, vr b2] κ I L Z) : Ev E d M_X9_become 69 [vr a0, vr a1, vi a2] [vi b0, vi b1, vr b2] κ I L Z := E_aload_n dX9_become_69 rfl k
theorem t12_X9_become_70 {E : En} {d : Nat} {κ : Kp} {I L : MI} {Z : Zt} {a0 a1 b0 b3 : Nat} {a2 b1 b2 : Int} {q : Nat} (hs : κ.1.1[b0]? = some (.inl 9)) (hq : κ.1.2 b0 8 = some q) (k : Ev E d M_X9_become 73 [vr a0, vr a1, vi a2] [vr q, vi b1, vi b2, vr b3] κ I L Z) : Ev E d M_X9_become 70 [vr a0, vr a1, vi a2] [vr b0, vi b1, vi b2, vr b3] κ I L Z := E_getR (ci := 9) (n := 8) dX9_become_70 wF_RX9_27 (by decide) hs rfl hq k
theorem t12_X9_become_73 {E : En} {d : Nat} {κ : Kp} {I L : MI} {Z : Zt} {a0 a1 b0 b3 : Nat} {a2 b1 b2 : Int}  (k : Ev E d M_X9_become 74 [vr a0, vr a1, vi a2] [vi a2, vr b0, vi b1, vi b2, vr b3] κ I L Z) : Ev E d M_X9_become 73 [vr a0, vr a1, vi a2] [vr b0, vi b1, vi b2, vr b3] κ I L Z := E_iload_n dX9_become_73 rfl k
theorem t12_X9_become_74 {E : En} {d d' : Nat} {cs : Nat × Nat} {I L : MI} {Z : Zt} {a0 a1 b1 b4 : Nat} {a2 b0 b2 b3 : Int} {z : Int} {I' L' : MI} (hM : CFi E d' M_X10_at [vr b1, vi b0] I L z I' L') (hlt : d' + 1 ≤ d) (k : Ir z → Ev E d M_X9_become 77 [vr a0, vr a1, vi a2] [vi z, vi b2, vi b3, vr b4] (G0, cs) I' L' Z) (hc1 : cs.1 ≤ M_X9_become.2.2.2.2.1 := by decide) (hc2 : cs.2 ≤ M_X9_become.2.2.2.2.2 := by decide) : Ev E d M_X9_become 74 [vr a0, vr a1, vi a2] [vi b0, vr b1, vi b2, vi b3, vr b4] (G0, cs) I L Z := E_callSN (as := [vr b1, vi b0]) (rest := [vi b2, vi b3, vr b4]) (n := 2) hM dX9_become_74 rfl (host := "SaidByTimes") (cl := RX9) (by decide +kernel) wS_X10_at hlt wC_X10_at wI_X10 (by decide +kernel) rfl (by decide) (Nat.le_of_ble_eq_true rfl) hc1 hc2 rfl (fun r g' I2 L2 h => by obtain ⟨rfl, z, rfl, hr, rfl, rfl, rfl⟩ := h; exact k hr)
theorem t12_X9_become_77 {E : En} {d d' : Nat} {cs : Nat × Nat} {I L : MI} {Z : Zt} {a0 a1 b3 : Nat} {a2 b0 b1 b2 : Int} {I' L' : MI} (hs : G0.1[b3]? = some (.inl 9)) (hM : CFv E d' M_X9_addRule [vr b3, vi b2, vi b1, vi b0] I L I' L') (hlt : d' + 1 ≤ d) (k : Ev E d M_X9_become 80 [vr a0, vr a1, vi a2] [] (G0, cs) I' L' Z) (hc1 : cs.1 ≤ M_X9_become.2.2.2.2.1 := by decide) (hc2 : cs.2 ≤ M_X9_become.2.2.2.2.2 := by decide) : Ev E d M_X9_become 77 [vr a0, vr a1, vi a2] [vi b0, vi b1, vi b2, vr b3] (G0, cs) I L Z := E_callV (as := [vi b2, vi b1, vi b0]) (rest := []) (n := 3) hM dX9_become_77 wM_RX9_68 wS_X9_addRule wV_X9_addRule hs (by decide) rfl hlt wC_X9_addRule wI_X9 (by decide +kernel) rfl (by decide) (Nat.le_of_ble_eq_true rfl) hc1 hc2 rfl (fun r g' I2 L2 h => by obtain ⟨rfl, rfl, rfl, rfl⟩ := h; exact k)
theorem t12_X9_become_80 {E : En} {d : Nat} {κ : Kp} {I L : MI} {Z : Zt} {a0 a1 : Nat} {a2 : Int}  (k : Ev E d M_X9_become 83 [vr a0, vr a1, vi (a2 + 1)] [] κ I L Z) : Ev E d M_X9_become 80 [vr a0, vr a1, vi a2] [] κ I L Z := E_iinc dX9_become_80 rfl rfl (by simp) k
theorem t12_X9_become_83 {E : En} {d : Nat} {κ : Kp} {I L : MI} {Z : Zt} {a0 a1 : Nat} {a2 : Int}  (k : Ev E d M_X9_become 44 [vr a0, vr a1, vi a2] [] κ I L Z) : Ev E d M_X9_become 83 [vr a0, vr a1, vi a2] [] κ I L Z := E_goto dX9_become_83 (by decide) k
theorem t12_X9_become_6 {E : En} {d : Nat} {κ : Kp} {I L : MI} {Z : Zt} {a0 a1 : Nat} {a2 : Int}  (k : Ev E d M_X9_become 7 [vr a0, vr a1, vi a2] [vi a2] κ I L Z) : Ev E d M_X9_become 6 [vr a0, vr a1, vi a2] [] κ I L Z := E_iload_n dX9_become_6 rfl k
theorem t12_X9_become_7 {E : En} {d : Nat} {κ : Kp} {I L : MI} {Z : Zt} {a0 a1 : Nat} {a2 b0 : Int}  (k : Ev E d M_X9_become 8 [vr a0, vr a1, vi a2] [vr a1, vi b0] κ I L Z) : Ev E d M_X9_become 7 [vr a0, vr a1, vi a2] [vi b0] κ I L Z := E_aload_n dX9_become_7 rfl k
theorem t12_X9_become_8 {E : En} {d : Nat} {κ : Kp} {I L : MI} {Z : Zt} {a0 a1 b0 : Nat} {a2 b1 : Int} (hs : κ.1.1[b0]? = some (.inl 9)) (k : Ir (I b0 0) → Ev E d M_X9_become 11 [vr a0, vr a1, vi a2] [vi (I b0 0), vi b1] κ I L Z) : Ev E d M_X9_become 8 [vr a0, vr a1, vi a2] [vr b0, vi b1] κ I L Z := E_getI (ci := 9) (n := 0) dX9_become_8 wF_RX9_36 (by decide) hs rfl k
theorem t12_X9_become_11 {E : En} {d : Nat} {κ : Kp} {I L : MI} {Z : Zt} {a0 a1 : Nat} {a2 b0 b1 : Int} (hx : Ir b1) (hy : Ir b0) (kt : b0 ≤ b1 → Ev E d M_X9_become 42 [vr a0, vr a1, vi a2] [] κ I L Z) (kf : b1 < b0 → Ev E d M_X9_become 14 [vr a0, vr a1, vi a2] [] κ I L Z) : Ev E d M_X9_become 11 [vr a0, vr a1, vi a2] [vi b0, vi b1] κ I L Z := E_icmp_ge dX9_become_11 hx hy kt kf (by decide)
theorem t12_X9_become_42 {E : En} {d : Nat} {κ : Kp} {I L : MI} {Z : Zt} {a0 a1 : Nat} {a2 : Int}  (k : Ev E d M_X9_become 43 [vr a0, vr a1, vi a2] [vi 0] κ I L Z) : Ev E d M_X9_become 42 [vr a0, vr a1, vi a2] [] κ I L Z := E_iconst (v := 0) dX9_become_42 rfl k
theorem t12_X9_become_43 {E : En} {d : Nat} {κ : Kp} {I L : MI} {Z : Zt} {a0 a1 : Nat} {a2 b0 : Int}  (k : Ev E d M_X9_become 44 [vr a0, vr a1, vi b0] [] κ I L Z) : Ev E d M_X9_become 43 [vr a0, vr a1, vi a2] [vi b0] κ I L Z := E_istore_n dX9_become_43 rfl (by simp) k
theorem t12_X9_become_14 {E : En} {d : Nat} {κ : Kp} {I L : MI} {Z : Zt} {a0 a1 : Nat} {a2 : Int}  (k : Ev E d M_X9_become 15 [vr a0, vr a1, vi a2] [vr a0] κ I L Z) : Ev E d M_X9_become 14 [vr a0, vr a1, vi a2] [] κ I L Z := E_aload_n dX9_become_14 rfl k
theorem t12_X9_become_15 {E : En} {d : Nat} {κ : Kp} {I L : MI} {Z : Zt} {a0 a1 b0 : Nat} {a2 : Int}  (k : Ev E d M_X9_become 16 [vr a0, vr a1, vi a2] [vr a1, vr b0] κ I L Z) : Ev E d M_X9_become 15 [vr a0, vr a1, vi a2] [vr b0] κ I L Z := E_aload_n dX9_become_15 rfl k
theorem t12_X9_become_16 {E : En} {d : Nat} {κ : Kp} {I L : MI} {Z : Zt} {a0 a1 b0 b1 : Nat} {a2 : Int}  (k : Ev E d M_X9_become 17 [vr a0, vr a1, vi a2] [vi a2, vr b0, vr b1] κ I L Z) : Ev E d M_X9_become 16 [vr a0, vr a1, vi a2] [vr b0, vr b1] κ I L Z := E_iload_n dX9_become_16 rfl k
theorem t12_X9_become_17 {E : En} {d d' : Nat} {cs : Nat × Nat} {I L : MI} {Z : Zt} {a0 a1 b1 b2 : Nat} {a2 b0 : Int} {z : Int} {I' L' : MI} (hs : G0.1[b1]? = some (.inl 9)) (hM : CFi E d' M_X9_first [vr b1, vi b0] I L z I' L') (hlt : d' + 1 ≤ d) (k : Ir z → Ev E d M_X9_become 20 [vr a0, vr a1, vi a2] [vi z, vr b2] (G0, cs) I' L' Z) (hc1 : cs.1 ≤ M_X9_become.2.2.2.2.1 := by decide) (hc2 : cs.2 ≤ M_X9_become.2.2.2.2.2 := by decide) : Ev E d M_X9_become 17 [vr a0, vr a1, vi a2] [vi b0, vr b1, vr b2] (G0, cs) I L Z := E_callV (as := [vi b0]) (rest := [vr b2]) (n := 1) hM dX9_become_17 wM_RX9_53 wS_X9_first wV_X9_first hs (by decide) rfl hlt wC_X9_first wI_X9 (by decide +kernel) rfl (by decide) (Nat.le_of_ble_eq_true rfl) hc1 hc2 rfl (fun r g' I2 L2 h => by obtain ⟨rfl, z, rfl, hr, rfl, rfl, rfl⟩ := h; exact k hr)
theorem t12_X9_become_20 {E : En} {d : Nat} {κ : Kp} {I L : MI} {Z : Zt} {a0 a1 b1 : Nat} {a2 b0 : Int}  (k : Ev E d M_X9_become 21 [vr a0, vr a1, vi a2] [vr a1, vi b0, vr b1] κ I L Z) : Ev E d M_X9_become 20 [vr a0, vr a1, vi a2] [vi b0, vr b1] κ I L Z := E_aload_n dX9_become_20 rfl k
theorem t12_X9_become_21 {E : En} {d : Nat} {κ : Kp} {I L : MI} {Z : Zt} {a0 a1 b0 b2 : Nat} {a2 b1 : Int}  (k : Ev E d M_X9_become 22 [vr a0, vr a1, vi a2] [vi a2, vr b0, vi b1, vr b2] κ I L Z) : Ev E d M_X9_become 21 [vr a0, vr a1, vi a2] [vr b0, vi b1, vr b2] κ I L Z := E_iload_n dX9_become_21 rfl k
theorem t12_X9_become_22 {E : En} {d d' : Nat} {cs : Nat × Nat} {I L : MI} {Z : Zt} {a0 a1 b1 b3 : Nat} {a2 b0 b2 : Int} {z : Int} {I' L' : MI} (hs : G0.1[b1]? = some (.inl 9)) (hM : CFi E d' M_X9_other [vr b1, vi b0] I L z I' L') (hlt : d' + 1 ≤ d) (k : Ir z → Ev E d M_X9_become 25 [vr a0, vr a1, vi a2] [vi z, vi b2, vr b3] (G0, cs) I' L' Z) (hc1 : cs.1 ≤ M_X9_become.2.2.2.2.1 := by decide) (hc2 : cs.2 ≤ M_X9_become.2.2.2.2.2 := by decide) : Ev E d M_X9_become 22 [vr a0, vr a1, vi a2] [vi b0, vr b1, vi b2, vr b3] (G0, cs) I L Z := E_callV (as := [vi b0]) (rest := [vi b2, vr b3]) (n := 1) hM dX9_become_22 wM_RX9_57 wS_X9_other wV_X9_other hs (by decide) rfl hlt wC_X9_other wI_X9 (by decide +kernel) rfl (by decide) (Nat.le_of_ble_eq_true rfl) hc1 hc2 rfl (fun r g' I2 L2 h => by obtain ⟨rfl, z, rfl, hr, rfl, rfl, rfl⟩ := h; exact k hr)
theorem t12_X9_become_25 {E : En} {d : Nat} {κ : Kp} {I L : MI} {Z : Zt} {a0 a1 b2 : Nat} {a2 b0 b1 : Int}  (k : Ev E d M_X9_become 26 [vr a0, vr a1, vi a2] [vr a1, vi b0, vi b1, vr b2] κ I L Z) : Ev E d M_X9_become 25 [vr a0, vr a1, vi a2] [vi b0, vi b1, vr b2] κ I L Z := E_aload_n dX9_become_25 rfl k
theorem t12_X9_become_26 {E : En} {d : Nat} {κ : Kp} {I L : MI} {Z : Zt} {a0 a1 b0 b3 : Nat} {a2 b1 b2 : Int} {q : Nat} (hs : κ.1.1[b0]? = some (.inl 9)) (hq : κ.1.2 b0 5 = some q) (k : Ev E d M_X9_become 29 [vr a0, vr a1, vi a2] [vr q, vi b1, vi b2, vr b3] κ I L Z) : Ev E d M_X9_become 26 [vr a0, vr a1, vi a2] [vr b0, vi b1, vi b2, vr b3] κ I L Z := E_getR (ci := 9) (n := 5) dX9_become_26 wF_RX9_18 (by decide) hs rfl hq k
theorem t12_X9_become_29 {E : En} {d : Nat} {κ : Kp} {I L : MI} {Z : Zt} {a0 a1 b0 b3 : Nat} {a2 b1 b2 : Int}  (k : Ev E d M_X9_become 30 [vr a0, vr a1, vi a2] [vi a2, vr b0, vi b1, vi b2, vr b3] κ I L Z) : Ev E d M_X9_become 29 [vr a0, vr a1, vi a2] [vr b0, vi b1, vi b2, vr b3] κ I L Z := E_iload_n dX9_become_29 rfl k
theorem t12_X9_become_30 {E : En} {d d' : Nat} {cs : Nat × Nat} {I L : MI} {Z : Zt} {a0 a1 b1 b4 : Nat} {a2 b0 b2 b3 : Int} {z : Int} {I' L' : MI} (hM : CFi E d' M_X10_at [vr b1, vi b0] I L z I' L') (hlt : d' + 1 ≤ d) (k : Ir z → Ev E d M_X9_become 33 [vr a0, vr a1, vi a2] [vi z, vi b2, vi b3, vr b4] (G0, cs) I' L' Z) (hc1 : cs.1 ≤ M_X9_become.2.2.2.2.1 := by decide) (hc2 : cs.2 ≤ M_X9_become.2.2.2.2.2 := by decide) : Ev E d M_X9_become 30 [vr a0, vr a1, vi a2] [vi b0, vr b1, vi b2, vi b3, vr b4] (G0, cs) I L Z := E_callSN (as := [vr b1, vi b0]) (rest := [vi b2, vi b3, vr b4]) (n := 2) hM dX9_become_30 rfl (host := "SaidByTimes") (cl := RX9) (by decide +kernel) wS_X10_at hlt wC_X10_at wI_X10 (by decide +kernel) rfl (by decide) (Nat.le_of_ble_eq_true rfl) hc1 hc2 rfl (fun r g' I2 L2 h => by obtain ⟨rfl, z, rfl, hr, rfl, rfl, rfl⟩ := h; exact k hr)
theorem t12_X9_become_33 {E : En} {d d' : Nat} {cs : Nat × Nat} {I L : MI} {Z : Zt} {a0 a1 b3 : Nat} {a2 b0 b1 b2 : Int} {I' L' : MI} (hs : G0.1[b3]? = some (.inl 9)) (hM : CFv E d' M_X9_addThing [vr b3, vi b2, vi b1, vi b0] I L I' L') (hlt : d' + 1 ≤ d) (k : Ev E d M_X9_become 36 [vr a0, vr a1, vi a2] [] (G0, cs) I' L' Z) (hc1 : cs.1 ≤ M_X9_become.2.2.2.2.1 := by decide) (hc2 : cs.2 ≤ M_X9_become.2.2.2.2.2 := by decide) : Ev E d M_X9_become 33 [vr a0, vr a1, vi a2] [vi b0, vi b1, vi b2, vr b3] (G0, cs) I L Z := E_callV (as := [vi b2, vi b1, vi b0]) (rest := []) (n := 3) hM dX9_become_33 wM_RX9_64 wS_X9_addThing wV_X9_addThing hs (by decide) rfl hlt wC_X9_addThing wI_X9 (by decide +kernel) rfl (by decide) (Nat.le_of_ble_eq_true rfl) hc1 hc2 rfl (fun r g' I2 L2 h => by obtain ⟨rfl, rfl, rfl, rfl⟩ := h; exact k)
theorem t12_X9_become_36 {E : En} {d : Nat} {κ : Kp} {I L : MI} {Z : Zt} {a0 a1 : Nat} {a2 : Int}  (k : Ev E d M_X9_become 39 [vr a0, vr a1, vi (a2 + 1)] [] κ I L Z) : Ev E d M_X9_become 36 [vr a0, vr a1, vi a2] [] κ I L Z := E_iinc dX9_become_36 rfl rfl (by simp) k
theorem t12_X9_become_39 {E : En} {d : Nat} {κ : Kp} {I L : MI} {Z : Zt} {a0 a1 : Nat} {a2 : Int}  (k : Ev E d M_X9_become 6 [vr a0, vr a1, vi a2] [] κ I L Z) : Ev E d M_X9_become 39 [vr a0, vr a1, vi a2] [] κ I L Z := E_goto dX9_become_39 (by decide) k
theorem t12_X9_become_0 {E : En} {d : Nat} {κ : Kp} {I L : MI} {Z : Zt} {a0 a1 : Nat}  (k : Ev E d M_X9_become 1 [vr a0, vr a1, vu] [vr a0] κ I L Z) : Ev E d M_X9_become 0 [vr a0, vr a1, vu] [] κ I L Z := E_aload_n dX9_become_0 rfl k
theorem t12_X9_become_1 {E : En} {d d' : Nat} {cs : Nat × Nat} {I L : MI} {Z : Zt} {a0 a1 b0 : Nat} {I' L' : MI} (hs : G0.1[b0]? = some (.inl 9)) (hM : CFv E d' M_X9_clear [vr b0] I L I' L') (hlt : d' + 1 ≤ d) (k : Ev E d M_X9_become 4 [vr a0, vr a1, vu] [] (G0, cs) I' L' Z) (hc1 : cs.1 ≤ M_X9_become.2.2.2.2.1 := by decide) (hc2 : cs.2 ≤ M_X9_become.2.2.2.2.2 := by decide) : Ev E d M_X9_become 1 [vr a0, vr a1, vu] [vr b0] (G0, cs) I L Z := E_callV (as := []) (rest := []) (n := 0) hM dX9_become_1 wM_RX9_50 wS_X9_clear wV_X9_clear hs (by decide) rfl hlt wC_X9_clear wI_X9 (by decide +kernel) rfl (by decide) (Nat.le_of_ble_eq_true rfl) hc1 hc2 rfl (fun r g' I2 L2 h => by obtain ⟨rfl, rfl, rfl, rfl⟩ := h; exact k)
theorem t12_X9_become_4 {E : En} {d : Nat} {κ : Kp} {I L : MI} {Z : Zt} {a0 a1 : Nat}  (k : Ev E d M_X9_become 5 [vr a0, vr a1, vu] [vi 0] κ I L Z) : Ev E d M_X9_become 4 [vr a0, vr a1, vu] [] κ I L Z := E_iconst (v := 0) dX9_become_4 rfl k
theorem t12_X9_become_5 {E : En} {d : Nat} {κ : Kp} {I L : MI} {Z : Zt} {a0 a1 : Nat} {b0 : Int}  (k : Ev E d M_X9_become 6 [vr a0, vr a1, vi b0] [] κ I L Z) : Ev E d M_X9_become 5 [vr a0, vr a1, vu] [vi b0] κ I L Z := E_istore_n dX9_become_5 rfl (by simp) k
/-! CONTRACTS: bits; a tongue becomes another one; rows, the tape, slots, the picker -/
theorem t32 (x : Int32) : Ir x.toInt := by
  have h1 := Int32.le_toInt x
  have h2 := Int32.toInt_lt x
  exact ⟨by omega, by omega⟩
theorem t64 (x : Int64) : Jr x.toInt := by
  have h1 := Int64.le_toInt x
  have h2 := Int64.toInt_lt x
  exact ⟨by omega, by omega⟩
theorem b_or (a b : Nat) : Int32.ofInt (a : Int) ||| Int32.ofInt (b : Int) = Int32.ofInt ((a ||| b : Nat) : Int) := by
  apply Int32.toBitVec.inj
  simp
theorem b_and (a b : Nat) : Int32.ofInt (a : Int) &&& Int32.ofInt (b : Int) = Int32.ofInt ((a &&& b : Nat) : Int) := by
  apply Int32.toBitVec.inj
  simp
theorem b_255 (x : Int) : Int32.ofInt x &&& Int32.ofInt 255 = Int32.ofInt (x % 256) := by
  apply Int32.toBitVec.inj
  show BitVec.ofInt 32 x &&& BitVec.ofInt 32 255 = BitVec.ofInt 32 (x % 256)
  apply BitVec.eq_of_toNat_eq
  rw [BitVec.toNat_and, BitVec.toNat_ofInt, BitVec.toNat_ofInt, BitVec.toNat_ofInt]
  rw [show ((255 : Int) % ((2 ^ 32 : Nat) : Int)).toNat = 2 ^ 8 - 1 by decide, Nat.and_two_pow_sub_one_eq_mod]
  omega
theorem b_shl (s : Nat) (h : s < 12) : Int32.ofInt 1 <<< (Int32.ofInt (s : Int) &&& 31) = Int32.ofInt ((2 ^ s : Nat) : Int) := by
  have : ∀ s : Fin 12, Int32.ofInt 1 <<< (Int32.ofInt (s.val : Int) &&& 31) = Int32.ofInt ((2 ^ s.val : Nat) : Int) := by decide +kernel
  exact this ⟨s, h⟩
theorem b_bit (a s : Nat) (ha : a < 256) (hs : s < 8) : (Int32.ofInt (a : Int) >>> (Int32.ofInt (s : Int) &&& 31)) &&& Int32.ofInt 1 = Int32.ofInt ((a / 2 ^ s % 2 : Nat) : Int) := by
  have : ∀ a : Fin 256, ∀ s : Fin 8, (Int32.ofInt (a.val : Int) >>> (Int32.ofInt (s.val : Int) &&& 31)) &&& Int32.ofInt 1 = Int32.ofInt ((a.val / 2 ^ s.val % 2 : Nat) : Int) := by decide +kernel
  exact this ⟨a, ha⟩ ⟨s, hs⟩
def bN (x : Int) : Int := ((Int32.ofInt x).toInt8.toInt32).toInt
def sN (x : Int) : Int := ((Int32.ofInt x).toInt16.toInt32).toInt
/-- the same tongue in two places -/
def TEq (I' : MI) (t : Nat) (I : MI) (u : Nat) (n r p : Int) : Prop := I' t 0 = n ∧ I' t 1 = r ∧ I' t 2 = p ∧ (∀ k, 0 ≤ k → k < n → I' (t + 1) k = I (u + 1) k ∧ I' (t + 2) k = I (u + 2) k ∧ I' (t + 3) k = I (u + 3) k) ∧ (∀ k, 0 ≤ k → k < r → I' (t + 4) k = I (u + 4) k ∧ I' (t + 5) k = I (u + 5) k ∧ I' (t + 6) k = I (u + 6) k) ∧ (∀ k, 0 ≤ k → k < p → I' (t + 7) k = I (u + 7) k ∧ I' (t + 8) k = I (u + 8) k)
def TFr (I I' : MI) (t : Nat) : Prop := ∀ o : Nat, (o < t ∨ t + 8 < o) → ∀ k, I' o k = I o k
def TB (I : MI) (u : Nat) : Prop := (0 ≤ I u 0 ∧ I u 0 ≤ 12) ∧ (0 ≤ I u 1 ∧ I u 1 ≤ 5) ∧ (0 ≤ I u 2 ∧ I u 2 ≤ 8)
theorem TEq_T {I I1 : MI} {t u : Nat} {n r p : Int} (h : TEq I1 t I u n r p) : TEq (addT I1 t (I (u + 1) n) (I (u + 2) n) (I (u + 3) n)) t I u (n + 1) r p := by
  obtain ⟨h0, h1, h2, h3, h4, h5⟩ := h
  refine ⟨by simp [addT, up2_at, h0], by simp [addT, up2_at, h1], by simp [addT, up2_at, h2], fun k k0 k1 => ?_, fun k k0 k1 => ?_, fun k k0 k1 => ?_⟩
  · by_cases e : k = n
    · subst e
      simp [addT, up2_at, h0]
    · have := h3 k k0 (by omega)
      simp [addT, up2_at, h0, e, this]
  · have := h4 k k0 k1
    simp [addT, up2_at, this]
  · have := h5 k k0 k1
    simp [addT, up2_at, this]
theorem TEq_R {I I1 : MI} {t u : Nat} {n r p : Int} (h : TEq I1 t I u n r p) : TEq (addR I1 t (I (u + 4) r) (I (u + 5) r) (I (u + 6) r)) t I u n (r + 1) p := by
  obtain ⟨h0, h1, h2, h3, h4, h5⟩ := h
  refine ⟨by simp [addR, up2_at, h0], by simp [addR, up2_at, h1], by simp [addR, up2_at, h2], fun k k0 k1 => ?_, fun k k0 k1 => ?_, fun k k0 k1 => ?_⟩
  · have := h3 k k0 k1
    simp [addR, up2_at, this]
  · by_cases e : k = r
    · subst e
      simp [addR, up2_at, h1]
    · have := h4 k k0 (by omega)
      simp [addR, up2_at, h1, e, this]
  · have := h5 k k0 k1
    simp [addR, up2_at, this]
theorem TEq_P {I I1 : MI} {t u : Nat} {n r p : Int} (h : TEq I1 t I u n r p) : TEq (addP I1 t (I (u + 7) p) (I (u + 8) p)) t I u n r (p + 1) := by
  obtain ⟨h0, h1, h2, h3, h4, h5⟩ := h
  refine ⟨by simp [addP, up2_at, h0], by simp [addP, up2_at, h1], by simp [addP, up2_at, h2], fun k k0 k1 => ?_, fun k k0 k1 => ?_, fun k k0 k1 => ?_⟩
  · have := h3 k k0 k1
    simp [addP, up2_at, this]
  · have := h4 k k0 k1
    simp [addP, up2_at, this]
  · by_cases e : k = p
    · subst e
      simp [addP, up2_at, h2]
    · have := h5 k k0 (by omega)
      simp [addP, up2_at, h2, e, this]
theorem TFr_T {I I1 : MI} {t : Nat} {a b c : Int} (h : TFr I I1 t) : TFr I (addT I1 t a b c) t := fun o ho k => by
  rw [← h o ho k]; simp only [addT]; rw [up2_ne (.inl (by omega)), up2_ne (.inl (by omega)), up2_ne (.inl (by omega)), up2_ne (.inl (by omega))]
theorem TFr_R {I I1 : MI} {t : Nat} {a b c : Int} (h : TFr I I1 t) : TFr I (addR I1 t a b c) t := fun o ho k => by
  rw [← h o ho k]; simp only [addR]; rw [up2_ne (.inl (by omega)), up2_ne (.inl (by omega)), up2_ne (.inl (by omega)), up2_ne (.inl (by omega))]
theorem TFr_P {I I1 : MI} {t : Nat} {a b : Int} (h : TFr I I1 t) : TFr I (addP I1 t a b) t := fun o ho k => by
  rw [← h o ho k]; simp only [addP]; rw [up2_ne (.inl (by omega)), up2_ne (.inl (by omega)), up2_ne (.inl (by omega))]
def BecQ (I L : MI) (t u : Nat) : MI → MI → Prop := fun I' L' => L' = L ∧ TFr I I' t ∧ TEq I' t I u (I u 0) (I u 1) (I u 2)
theorem c_X9_become {E : En} {I L : MI} {t u : Nat} (ht : TgS t := by assumption) (hu : TgS u := by assumption) (hne : u < t ∨ t + 8 < u := by omega) (hne2 : u + 8 < t ∨ t + 8 < u := by omega) (hb : TB I u := by assumption) : CQv E 3 M_X9_become [vr t, vr u] I L (BecQ I L t u) := by
  have h9 := ht.1
  obtain ⟨g9, ⟨g1, g2, g3, g4, g5, g6, g7, g8⟩, p3, p4, p5, p6, p7, p8, p9, p10⟩ := id hu
  obtain ⟨b0, b1, b2⟩ := hb
  have rd : ∀ {I1 : MI}, TFr I I1 t → (∀ k, I1 u k = I u k) ∧ (∀ k, I1 (u + 1) k = I (u + 1) k) ∧ (∀ k, I1 (u + 2) k = I (u + 2) k) ∧ (∀ k, I1 (u + 3) k = I (u + 3) k) ∧ (∀ k, I1 (u + 4) k = I (u + 4) k) ∧ (∀ k, I1 (u + 5) k = I (u + 5) k) ∧ (∀ k, I1 (u + 6) k = I (u + 6) k) ∧ (∀ k, I1 (u + 7) k = I (u + 7) k) ∧ (∀ k, I1 (u + 8) k = I (u + 8) k) := fun h => ⟨h u (by omega), h (u + 1) (by omega), h (u + 2) (by omega), h (u + 3) (by omega), h (u + 4) (by omega), h (u + 5) (by omega), h (u + 6) (by omega), h (u + 7) (by omega), h (u + 8) (by omega)⟩
  refine CM_of' (al := [vr _, vr _, vu]) rfl (Nat.le_of_ble_eq_true rfl) rfl (fun hM => ?_)
  have k3 : ∀ (m : Nat) (k : Int) (I1 : MI), I u 2 - k < m → 0 ≤ k → k ≤ I u 2 → TFr I I1 t → TEq I1 t I u (I u 0) (I u 1) k → Ev E 3 M_X9_become 88 [vr t, vr u, vi k] [] (G0, 0, 0) I1 L (ZQ E M_X9_become (QQv (BecQ I L t u))) := by
    intro m
    induction m with
    | zero => intro k I1 h1 h2 h3; omega
    | succ m ih =>
      intro k I1 h1 h2 h3 hf he
      obtain ⟨e0, e1, e2, e3, e4, e5, e6, e7, e8⟩ := rd hf
      refine Ev.mok fun hM1 => ?_
      have hp := he.2.2.1
      have r0 := hM1.1 t 2
      refine (t12_X9_become_88 (t12_X9_become_89 (t12_X9_become_90 (by first | assumption | rfl) (fun r90 => (t12_X9_become_93 (by omega) (by omega) (fun c93 => (t12_X9_become_122 ?_)) (fun c93 => (t12_X9_become_96 (t12_X9_become_97 (t12_X9_become_98 (by first | assumption | rfl) (by first | assumption | rfl) (t12_X9_become_101 (t12_X9_become_102 c_X10_at (by decide) (fun r102 => (t12_X9_become_105 (t12_X9_become_106 (by first | assumption | rfl) (by first | assumption | rfl) (t12_X9_become_109 (t12_X9_become_110 c_X10_at (by decide) (fun r110 => ?_)))))))))))))))))
      -- 2 leaves
      · exact qqv ⟨rfl, hf, by have : k = I u 2 := by rw [e0] at c93; omega
                               subst this; exact he⟩
      · rw [e0] at c93
        rw [atI_in (by omega), atI_in (by omega), e7, e8] at *
        have a1 := hM.1 (u + 7) k
        have a2 := hM.1 (u + 8) k
        refine (t12_X9_become_113 (by first | assumption | rfl) c_X9_addPair (by decide) (t12_X9_become_116 (t12_X9_become_119 ?_)))
        -- 1 leaves
        exact ih (k + 1) _ (by omega) (by omega) (by omega) (TFr_P hf) (TEq_P he)
  have k2 : ∀ (m : Nat) (k : Int) (I1 : MI), I u 1 - k < m → 0 ≤ k → k ≤ I u 1 → TFr I I1 t → TEq I1 t I u (I u 0) k 0 → Ev E 3 M_X9_become 44 [vr t, vr u, vi k] [] (G0, 0, 0) I1 L (ZQ E M_X9_become (QQv (BecQ I L t u))) := by
    intro m
    induction m with
    | zero => intro k I1 h1 h2 h3; omega
    | succ m ih =>
      intro k I1 h1 h2 h3 hf he
      obtain ⟨e0, e1, e2, e3, e4, e5, e6, e7, e8⟩ := rd hf
      refine Ev.mok fun hM1 => ?_
      have hp := he.2.1
      refine (t12_X9_become_44 (t12_X9_become_45 (t12_X9_become_46 (by first | assumption | rfl) (fun r46 => (t12_X9_become_49 (by omega) (by omega) (fun c49 => (t12_X9_become_86 (t12_X9_become_87 ?_))) (fun c49 => (t12_X9_become_52 (t12_X9_become_53 (t12_X9_become_54 (by first | assumption | rfl) (by first | assumption | rfl) (t12_X9_become_57 (t12_X9_become_58 c_X10_at (by decide) (fun r58 => (t12_X9_become_61 (t12_X9_become_62 (by first | assumption | rfl) (by first | assumption | rfl) (t12_X9_become_65 (t12_X9_become_66 c_X10_at (by decide) (fun r66 => (t12_X9_become_69 (t12_X9_become_70 (by first | assumption | rfl) (by first | assumption | rfl) (t12_X9_become_73 (t12_X9_become_74 c_X10_at (by decide) (fun r74 => ?_))))))))))))))))))))))
      -- 2 leaves
      · rw [e0] at c49
        have : k = I u 1 := by omega
        subst this
        exact k3 (I u 2 + 1).toNat 0 I1 (by omega) (by omega) (by omega) hf he
      · rw [e0] at c49
        rw [atI_in (by omega), atI_in (by omega), atI_in (by omega), e4, e5, e6] at *
        have a1 := hM.1 (u + 4) k
        have a2 := hM.1 (u + 5) k
        have a3 := hM.1 (u + 6) k
        refine (t12_X9_become_77 (by first | assumption | rfl) c_X9_addRule (by decide) (t12_X9_become_80 (t12_X9_become_83 ?_)))
        -- 1 leaves
        exact ih (k + 1) _ (by omega) (by omega) (by omega) (TFr_R hf) (TEq_R he)
  have k1 : ∀ (m : Nat) (k : Int) (I1 : MI), I u 0 - k < m → 0 ≤ k → k ≤ I u 0 → TFr I I1 t → TEq I1 t I u k 0 0 → Ev E 3 M_X9_become 6 [vr t, vr u, vi k] [] (G0, 0, 0) I1 L (ZQ E M_X9_become (QQv (BecQ I L t u))) := by
    intro m
    induction m with
    | zero => intro k I1 h1 h2 h3; omega
    | succ m ih =>
      intro k I1 h1 h2 h3 hf he
      obtain ⟨e0, e1, e2, e3, e4, e5, e6, e7, e8⟩ := rd hf
      refine Ev.mok fun hM1 => ?_
      have hp := he.1
      refine (t12_X9_become_6 (t12_X9_become_7 (t12_X9_become_8 (by first | assumption | rfl) (fun r8 => (t12_X9_become_11 (by omega) (by omega) (fun c11 => (t12_X9_become_42 (t12_X9_become_43 ?_))) (fun c11 => (t12_X9_become_14 (t12_X9_become_15 (t12_X9_become_16 (t12_X9_become_17 (by first | assumption | rfl) c_X9_first (by decide) (fun r17 => (t12_X9_become_20 (t12_X9_become_21 (t12_X9_become_22 (by first | assumption | rfl) c_X9_other (by decide) (fun r22 => (t12_X9_become_25 (t12_X9_become_26 (by first | assumption | rfl) (by first | assumption | rfl) (t12_X9_become_29 (t12_X9_become_30 c_X10_at (by decide) (fun r30 => ?_))))))))))))))))))))
      -- 2 leaves
      · rw [e0] at c11
        have : k = I u 0 := by omega
        subst this
        exact k2 (I u 1 + 1).toNat 0 I1 (by omega) (by omega) (by omega) hf he
      · have c := c11
        rw [e0] at c
        have f1 : fstI I1 u k = I (u + 1) k := by unfold fstI; rw [if_pos c11, atI_in (by omega), e1]
        have f2 : othI I1 u k = I (u + 2) k := by unfold othI; rw [if_pos c11, atI_in (by omega), e2]
        rw [f1, f2, atI_in (by omega), e3]
        have a1 := hM.1 (u + 1) k
        have a2 := hM.1 (u + 2) k
        have a3 := hM.1 (u + 3) k
        refine (t12_X9_become_33 (by first | assumption | rfl) c_X9_addThing (by decide) (t12_X9_become_36 (t12_X9_become_39 ?_)))
        -- 1 leaves
        exact ih (k + 1) _ (by omega) (by omega) (by omega) (TFr_T hf) (TEq_T he)
  refine (t12_X9_become_0 (t12_X9_become_1 (by first | assumption | rfl) c_X9_clear (by decide) (t12_X9_become_4 (t12_X9_become_5 ?_))))
  -- 1 leaves
  refine k1 (I u 0 + 1).toNat 0 _ (by omega) (by omega) (by omega) (fun o ho k => ?_) ⟨?_, ?_, ?_, by omega, by omega, by omega⟩
  · rw [up2_ne (.inl (by omega)), up2_ne (.inl (by omega)), up2_ne (.inl (by omega))]
  · simp [up2_at]
  · simp [up2_at]
  · simp [up2_at]
