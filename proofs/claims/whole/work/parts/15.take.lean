theorem t15_X3_take_13 {E : En} {d : Nat} {κ : Kp} {I L : MI} {Z : Zt} {a0 a1 : Nat} {a2 a4 : Int}  (k : Ev E d M_X3_take 15 [vr a0, vr a1, vl a2, vu, vi a4, vu] [vi a4] κ I L Z) : Ev E d M_X3_take 13 [vr a0, vr a1, vl a2, vu, vi a4, vu] [] κ I L Z := E_iload dX3_take_13 rfl k
theorem t15_X3_take_15 {E : En} {d : Nat} {κ : Kp} {I L : MI} {Z : Zt} {a0 a1 : Nat} {a2 a4 b0 : Int}  (k : Ev E d M_X3_take 17 [vr a0, vr a1, vl a2, vu, vi a4, vu] [vi 12, vi b0] κ I L Z) : Ev E d M_X3_take 15 [vr a0, vr a1, vl a2, vu, vi a4, vu] [vi b0] κ I L Z := E_bipush (v := 12) dX3_take_15 rfl k
theorem t15_X3_take_17 {E : En} {d : Nat} {κ : Kp} {I L : MI} {Z : Zt} {a0 a1 : Nat} {a2 a4 b0 b1 : Int} (hx : Ir b1) (hy : Ir b0) (kt : b0 ≤ b1 → Ev E d M_X3_take 71 [vr a0, vr a1, vl a2, vu, vi a4, vu] [] κ I L Z) (kf : b1 < b0 → Ev E d M_X3_take 20 [vr a0, vr a1, vl a2, vu, vi a4, vu] [] κ I L Z) : Ev E d M_X3_take 17 [vr a0, vr a1, vl a2, vu, vi a4, vu] [vi b0, vi b1] κ I L Z := E_icmp_ge dX3_take_17 hx hy kt kf (by decide)
theorem t15_X3_take_20 {E : En} {d : Nat} {κ : Kp} {I L : MI} {Z : Zt} {a0 a1 : Nat} {a2 a4 : Int}  (k : Ev E d M_X3_take 21 [vr a0, vr a1, vl a2, vu, vi a4, vu] [vr a0] κ I L Z) : Ev E d M_X3_take 20 [vr a0, vr a1, vl a2, vu, vi a4, vu] [] κ I L Z := E_aload_n dX3_take_20 rfl k
theorem t15_X3_take_21 {E : En} {d : Nat} {κ : Kp} {I L : MI} {Z : Zt} {a0 a1 b0 : Nat} {a2 a4 : Int}  (k : Ev E d M_X3_take 22 [vr a0, vr a1, vl a2, vu, vi a4, vu] [vr a1, vr b0] κ I L Z) : Ev E d M_X3_take 21 [vr a0, vr a1, vl a2, vu, vi a4, vu] [vr b0] κ I L Z := E_aload_n dX3_take_21 rfl k
theorem t15_X3_take_22 {E : En} {d : Nat} {κ : Kp} {I L : MI} {Z : Zt} {a0 a1 b0 b1 : Nat} {a2 a4 : Int}  (k : Ev E d M_X3_take 24 [vr a0, vr a1, vl a2, vu, vi a4, vu] [vi a4, vr b0, vr b1] κ I L Z) : Ev E d M_X3_take 22 [vr a0, vr a1, vl a2, vu, vi a4, vu] [vr b0, vr b1] κ I L Z := E_iload dX3_take_22 rfl k
theorem t15_X3_take_71 {E : En} {d : Nat} {κ : Kp} {I L : MI} {Z : Zt} {a0 a1 : Nat} {a2 a4 : Int}  (k : Ev E d M_X3_take 72 [vr a0, vr a1, vl a2, vu, vi a4, vu] [vr a0] κ I L Z) : Ev E d M_X3_take 71 [vr a0, vr a1, vl a2, vu, vi a4, vu] [] κ I L Z := E_aload_n dX3_take_71 rfl k
theorem t15_X3_take_72 {E : En} {d : Nat} {κ : Kp} {I L : MI} {Z : Zt} {a0 a1 b0 : Nat} {a2 a4 : Int}  (k : Ev E d M_X3_take 73 [vr a0, vr a1, vl a2, vu, vi a4, vu] [vr a0, vr b0] κ I L Z) : Ev E d M_X3_take 72 [vr a0, vr a1, vl a2, vu, vi a4, vu] [vr b0] κ I L Z := E_aload_n dX3_take_72 rfl k
theorem t15_X3_take_73 {E : En} {d : Nat} {κ : Kp} {I L : MI} {Z : Zt} {a0 a1 b0 b1 : Nat} {a2 a4 : Int} (hs : κ.1.1[b0]? = some (.inl 3)) (k : Jr (L b0 1) → Ev E d M_X3_take 76 [vr a0, vr a1, vl a2, vu, vi a4, vu] [vl (L b0 1), vr b1] κ I L Z) : Ev E d M_X3_take 73 [vr a0, vr a1, vl a2, vu, vi a4, vu] [vr b0, vr b1] κ I L Z := E_getL (ci := 3) (n := 1) dX3_take_73 wF_RX3_15 (by decide) hs rfl k
theorem t15_X3_take_76 {E : En} {d : Nat} {κ : Kp} {I L : MI} {Z : Zt} {a0 a1 b1 : Nat} {a2 a4 b0 : Int}  (k : Ev E d M_X3_take 77 [vr a0, vr a1, vl a2, vu, vi a4, vu] [vl 1, vl b0, vr b1] κ I L Z) : Ev E d M_X3_take 76 [vr a0, vr a1, vl a2, vu, vi a4, vu] [vl b0, vr b1] κ I L Z := E_lconst (v := 1) dX3_take_76 rfl k
theorem t15_X3_take_77 {E : En} {d : Nat} {κ : Kp} {I L : MI} {Z : Zt} {a0 a1 b2 : Nat} {a2 a4 b0 b1 : Int} (hx : Jr b1) (hy : Jr b0) (kt : ¬ b1 = b0 → Ev E d M_X3_take 101 [vr a0, vr a1, vl a2, vu, vi a4, vu] [vr b2] κ I L Z) (kf : b1 = b0 → Ev E d M_X3_take 81 [vr a0, vr a1, vl a2, vu, vi a4, vu] [vr b2] κ I L Z) : Ev E d M_X3_take 77 [vr a0, vr a1, vl a2, vu, vi a4, vu] [vl b0, vl b1, vr b2] κ I L Z := E_lcmp_ne dX3_take_77 dX3_take_78 hx hy kt kf (by decide)
theorem t15_X3_take_101 {E : En} {d : Nat} {κ : Kp} {I L : MI} {Z : Zt} {a0 a1 b0 : Nat} {a2 a4 : Int}  (k : Ev E d M_X3_take 102 [vr a0, vr a1, vl a2, vu, vi a4, vu] [vi 0, vr b0] κ I L Z) : Ev E d M_X3_take 101 [vr a0, vr a1, vl a2, vu, vi a4, vu] [vr b0] κ I L Z := E_iconst (v := 0) dX3_take_101 rfl k
theorem t15_X3_take_102 {E : En} {d : Nat} {κ : Kp} {I L : MI} {Z : Zt} {a0 a1 b1 : Nat} {a2 a4 b0 : Int} (hs : κ.1.1[b1]? = some (.inl 3)) (hz : b0 = 0 ∨ b0 = 1) (k : Ev E d M_X3_take 105 [vr a0, vr a1, vl a2, vu, vi a4, vu] [] κ (up2 I b1 3 b0) L Z) : Ev E d M_X3_take 102 [vr a0, vr a1, vl a2, vu, vi a4, vu] [vi b0, vr b1] κ I L Z := E_putZ (ci := 3) (n := 3) dX3_take_102 wF_RX3_46 (by decide) hs rfl rfl hz k
theorem t15_X3_take_105 {E : En} {d : Nat} {g : Geo} {I L : MI} {Q : Option AV → Geo → MI → MI → Prop} {cs : Nat × Nat} {a0 a1 : Nat} {a2 a4 : Int} (hq : Q none g I L) (h1 : cs.1 ≤ M_X3_take.2.2.2.2.1 := by decide) (h2 : cs.2 ≤ M_X3_take.2.2.2.2.2 := by decide) : Ev E d M_X3_take 105 [vr a0, vr a1, vl a2, vu, vi a4, vu] [] (g, cs) I L (ZQ E M_X3_take Q) := E_return rfl dX3_take_105 hq h1 h2
theorem t15_X3_take_81 {E : En} {d : Nat} {κ : Kp} {I L : MI} {Z : Zt} {a0 a1 b0 : Nat} {a2 a4 : Int}  (k : Ev E d M_X3_take 82 [vr a0, vr a1, vl a2, vu, vi a4, vu] [vr a0, vr b0] κ I L Z) : Ev E d M_X3_take 81 [vr a0, vr a1, vl a2, vu, vi a4, vu] [vr b0] κ I L Z := E_aload_n dX3_take_81 rfl k
theorem t15_X3_take_82 {E : En} {d : Nat} {κ : Kp} {I L : MI} {Z : Zt} {a0 a1 b0 b1 : Nat} {a2 a4 : Int}  (k : Ev E d M_X3_take 83 [vr a0, vr a1, vl a2, vu, vi a4, vu] [vr a1, vr b0, vr b1] κ I L Z) : Ev E d M_X3_take 82 [vr a0, vr a1, vl a2, vu, vi a4, vu] [vr b0, vr b1] κ I L Z := E_aload_n dX3_take_82 rfl k
theorem t15_X3_take_83 {E : En} {d d' : Nat} {cs : Nat × Nat} {I L : MI} {Z : Zt} {a0 a1 b0 b1 b2 : Nat} {a2 a4 : Int} {P : Prop} {I' L' : MI} (hs : G0.1[b1]? = some (.inl 3)) (hM : CB E d' M_X3_keepsRules [vr b1, vr b0] I L P I' L') (hlt : d' + 1 ≤ d) (kt : P → Ev E d M_X3_take 86 [vr a0, vr a1, vl a2, vu, vi a4, vu] [vi 1, vr b2] (G0, cs) I' L' Z) (kf : ¬ P → Ev E d M_X3_take 86 [vr a0, vr a1, vl a2, vu, vi a4, vu] [vi 0, vr b2] (G0, cs) I' L' Z) (hc1 : cs.1 ≤ M_X3_take.2.2.2.2.1 := by decide) (hc2 : cs.2 ≤ M_X3_take.2.2.2.2.2 := by decide) : Ev E d M_X3_take 83 [vr a0, vr a1, vl a2, vu, vi a4, vu] [vr b0, vr b1, vr b2] (G0, cs) I L Z := E_callV (as := [vr b0]) (rest := [vr b2]) (n := 1) hM dX3_take_83 wM_RX3_39 wS_X3_keepsRules wV_X3_keepsRules hs (by decide) rfl hlt wC_X3_keepsRules wI_X3 (by decide +kernel) rfl (by decide) (Nat.le_of_ble_eq_true rfl) hc1 hc2 rfl (fun r g' I2 L2 h => by obtain ⟨rfl, z, rfl, rfl, rfl, ⟨rfl, h⟩ | ⟨rfl, h⟩⟩ := h; exact kt h; exact kf h)
theorem t15_X3_take_86 {E : En} {d : Nat} {κ : Kp} {I L : MI} {Z : Zt} {a0 a1 b1 : Nat} {a2 a4 b0 : Int} (hx : Ir b0) (kt : b0 = 0 → Ev E d M_X3_take 101 [vr a0, vr a1, vl a2, vu, vi a4, vu] [vr b1] κ I L Z) (kf : ¬ b0 = 0 → Ev E d M_X3_take 89 [vr a0, vr a1, vl a2, vu, vi a4, vu] [vr b1] κ I L Z) : Ev E d M_X3_take 86 [vr a0, vr a1, vl a2, vu, vi a4, vu] [vi b0, vr b1] κ I L Z := E_if_eq dX3_take_86 hx kt kf (by decide)
theorem t15_X3_take_89 {E : En} {d : Nat} {κ : Kp} {I L : MI} {Z : Zt} {a0 a1 b0 : Nat} {a2 a4 : Int}  (k : Ev E d M_X3_take 90 [vr a0, vr a1, vl a2, vu, vi a4, vu] [vr a0, vr b0] κ I L Z) : Ev E d M_X3_take 89 [vr a0, vr a1, vl a2, vu, vi a4, vu] [vr b0] κ I L Z := E_aload_n dX3_take_89 rfl k
theorem t15_X3_take_90 {E : En} {d : Nat} {κ : Kp} {I L : MI} {Z : Zt} {a0 a1 b0 b1 : Nat} {a2 a4 : Int}  (k : Ev E d M_X3_take 91 [vr a0, vr a1, vl a2, vu, vi a4, vu] [vr a1, vr b0, vr b1] κ I L Z) : Ev E d M_X3_take 90 [vr a0, vr a1, vl a2, vu, vi a4, vu] [vr b0, vr b1] κ I L Z := E_aload_n dX3_take_90 rfl k
theorem t15_X3_take_91 {E : En} {d d' : Nat} {cs : Nat × Nat} {I L : MI} {Z : Zt} {a0 a1 b0 b1 b2 : Nat} {a2 a4 : Int} {P : Prop} {I' L' : MI} (hs : G0.1[b1]? = some (.inl 3)) (hM : CB E d' M_X3_keepsPairs [vr b1, vr b0] I L P I' L') (hlt : d' + 1 ≤ d) (kt : P → Ev E d M_X3_take 94 [vr a0, vr a1, vl a2, vu, vi a4, vu] [vi 1, vr b2] (G0, cs) I' L' Z) (kf : ¬ P → Ev E d M_X3_take 94 [vr a0, vr a1, vl a2, vu, vi a4, vu] [vi 0, vr b2] (G0, cs) I' L' Z) (hc1 : cs.1 ≤ M_X3_take.2.2.2.2.1 := by decide) (hc2 : cs.2 ≤ M_X3_take.2.2.2.2.2 := by decide) : Ev E d M_X3_take 91 [vr a0, vr a1, vl a2, vu, vi a4, vu] [vr b0, vr b1, vr b2] (G0, cs) I L Z := E_callV (as := [vr b0]) (rest := [vr b2]) (n := 1) hM dX3_take_91 wM_RX3_43 wS_X3_keepsPairs wV_X3_keepsPairs hs (by decide) rfl hlt wC_X3_keepsPairs wI_X3 (by decide +kernel) rfl (by decide) (Nat.le_of_ble_eq_true rfl) hc1 hc2 rfl (fun r g' I2 L2 h => by obtain ⟨rfl, z, rfl, rfl, rfl, ⟨rfl, h⟩ | ⟨rfl, h⟩⟩ := h; exact kt h; exact kf h)
theorem t15_X3_take_94 {E : En} {d : Nat} {κ : Kp} {I L : MI} {Z : Zt} {a0 a1 b1 : Nat} {a2 a4 b0 : Int} (hx : Ir b0) (kt : b0 = 0 → Ev E d M_X3_take 101 [vr a0, vr a1, vl a2, vu, vi a4, vu] [vr b1] κ I L Z) (kf : ¬ b0 = 0 → Ev E d M_X3_take 97 [vr a0, vr a1, vl a2, vu, vi a4, vu] [vr b1] κ I L Z) : Ev E d M_X3_take 94 [vr a0, vr a1, vl a2, vu, vi a4, vu] [vi b0, vr b1] κ I L Z := E_if_eq dX3_take_94 hx kt kf (by decide)
theorem t15_X3_take_97 {E : En} {d : Nat} {κ : Kp} {I L : MI} {Z : Zt} {a0 a1 b0 : Nat} {a2 a4 : Int}  (k : Ev E d M_X3_take 98 [vr a0, vr a1, vl a2, vu, vi a4, vu] [vi 1, vr b0] κ I L Z) : Ev E d M_X3_take 97 [vr a0, vr a1, vl a2, vu, vi a4, vu] [vr b0] κ I L Z := E_iconst (v := 1) dX3_take_97 rfl k
theorem t15_X3_take_98 {E : En} {d : Nat} {κ : Kp} {I L : MI} {Z : Zt} {a0 a1 b1 : Nat} {a2 a4 b0 : Int}  (k : Ev E d M_X3_take 102 [vr a0, vr a1, vl a2, vu, vi a4, vu] [vi b0, vr b1] κ I L Z) : Ev E d M_X3_take 98 [vr a0, vr a1, vl a2, vu, vi a4, vu] [vi b0, vr b1] κ I L Z := E_goto dX3_take_98 (by decide) k
theorem t15_X3_take_24 {E : En} {d d' : Nat} {cs : Nat × Nat} {I L : MI} {Z : Zt} {a0 a1 b1 b2 : Nat} {a2 a4 b0 : Int} {z : Int} {I' L' : MI} (hs : G0.1[b1]? = some (.inl 9)) (hM : CFi E d' M_X9_first [vr b1, vi b0] I L z I' L') (hlt : d' + 1 ≤ d) (k : Ir z → Ev E d M_X3_take 27 [vr a0, vr a1, vl a2, vu, vi a4, vu] [vi z, vr b2] (G0, cs) I' L' Z) (hc1 : cs.1 ≤ M_X3_take.2.2.2.2.1 := by decide) (hc2 : cs.2 ≤ M_X3_take.2.2.2.2.2 := by decide) : Ev E d M_X3_take 24 [vr a0, vr a1, vl a2, vu, vi a4, vu] [vi b0, vr b1, vr b2] (G0, cs) I L Z := E_callV (as := [vi b0]) (rest := [vr b2]) (n := 1) hM dX3_take_24 wM_RX3_23 wS_X9_first wV_X9_first hs (by decide) rfl hlt wC_X9_first wI_X9 (by decide +kernel) rfl (by decide) (Nat.le_of_ble_eq_true rfl) hc1 hc2 rfl (fun r g' I2 L2 h => by obtain ⟨rfl, z, rfl, hr, rfl, rfl, rfl⟩ := h; exact k hr)
theorem t15_X3_take_27 {E : En} {d d' : Nat} {cs : Nat × Nat} {I L : MI} {Z : Zt} {a0 a1 b1 : Nat} {a2 a4 b0 : Int} {z : Int} {I' L' : MI} (hs : G0.1[b1]? = some (.inl 3)) (hM : CFi E d' M_X3_takeOut [vr b1, vi b0] I L z I' L') (hlt : d' + 1 ≤ d) (k : Ir z → Ev E d M_X3_take 30 [vr a0, vr a1, vl a2, vu, vi a4, vu] [vi z] (G0, cs) I' L' Z) (hc1 : cs.1 ≤ M_X3_take.2.2.2.2.1 := by decide) (hc2 : cs.2 ≤ M_X3_take.2.2.2.2.2 := by decide) : Ev E d M_X3_take 27 [vr a0, vr a1, vl a2, vu, vi a4, vu] [vi b0, vr b1] (G0, cs) I L Z := E_callV (as := [vi b0]) (rest := []) (n := 1) hM dX3_take_27 wM_RX3_29 wS_X3_takeOut wV_X3_takeOut hs (by decide) rfl hlt wC_X3_takeOut wI_X3 (by decide +kernel) rfl (by decide) (Nat.le_of_ble_eq_true rfl) hc1 hc2 rfl (fun r g' I2 L2 h => by obtain ⟨rfl, z, rfl, hr, rfl, rfl, rfl⟩ := h; exact k hr)
theorem t15_X3_take_30 {E : En} {d : Nat} {κ : Kp} {I L : MI} {Z : Zt} {a0 a1 : Nat} {a2 a4 b0 : Int}  (k : Ev E d M_X3_take 31 [vr a0, vr a1, vl a2, vu, vi a4, vu] [vr a0, vi b0] κ I L Z) : Ev E d M_X3_take 30 [vr a0, vr a1, vl a2, vu, vi a4, vu] [vi b0] κ I L Z := E_aload_n dX3_take_30 rfl k
theorem t15_X3_take_31 {E : En} {d : Nat} {κ : Kp} {I L : MI} {Z : Zt} {a0 a1 b0 : Nat} {a2 a4 b1 : Int}  (k : Ev E d M_X3_take 32 [vr a0, vr a1, vl a2, vu, vi a4, vu] [vr a1, vr b0, vi b1] κ I L Z) : Ev E d M_X3_take 31 [vr a0, vr a1, vl a2, vu, vi a4, vu] [vr b0, vi b1] κ I L Z := E_aload_n dX3_take_31 rfl k
theorem t15_X3_take_32 {E : En} {d : Nat} {κ : Kp} {I L : MI} {Z : Zt} {a0 a1 b0 b1 : Nat} {a2 a4 b2 : Int}  (k : Ev E d M_X3_take 34 [vr a0, vr a1, vl a2, vu, vi a4, vu] [vi a4, vr b0, vr b1, vi b2] κ I L Z) : Ev E d M_X3_take 32 [vr a0, vr a1, vl a2, vu, vi a4, vu] [vr b0, vr b1, vi b2] κ I L Z := E_iload dX3_take_32 rfl k
theorem t15_X3_take_34 {E : En} {d d' : Nat} {cs : Nat × Nat} {I L : MI} {Z : Zt} {a0 a1 b1 b2 : Nat} {a2 a4 b0 b3 : Int} {z : Int} {I' L' : MI} (hs : G0.1[b1]? = some (.inl 9)) (hM : CFi E d' M_X9_other [vr b1, vi b0] I L z I' L') (hlt : d' + 1 ≤ d) (k : Ir z → Ev E d M_X3_take 37 [vr a0, vr a1, vl a2, vu, vi a4, vu] [vi z, vr b2, vi b3] (G0, cs) I' L' Z) (hc1 : cs.1 ≤ M_X3_take.2.2.2.2.1 := by decide) (hc2 : cs.2 ≤ M_X3_take.2.2.2.2.2 := by decide) : Ev E d M_X3_take 34 [vr a0, vr a1, vl a2, vu, vi a4, vu] [vi b0, vr b1, vr b2, vi b3] (G0, cs) I L Z := E_callV (as := [vi b0]) (rest := [vr b2, vi b3]) (n := 1) hM dX3_take_34 wM_RX3_32 wS_X9_other wV_X9_other hs (by decide) rfl hlt wC_X9_other wI_X9 (by decide +kernel) rfl (by decide) (Nat.le_of_ble_eq_true rfl) hc1 hc2 rfl (fun r g' I2 L2 h => by obtain ⟨rfl, z, rfl, hr, rfl, rfl, rfl⟩ := h; exact k hr)
theorem t15_X3_take_37 {E : En} {d d' : Nat} {cs : Nat × Nat} {I L : MI} {Z : Zt} {a0 a1 b1 : Nat} {a2 a4 b0 b2 : Int} {z : Int} {I' L' : MI} (hs : G0.1[b1]? = some (.inl 3)) (hM : CFi E d' M_X3_takeOut [vr b1, vi b0] I L z I' L') (hlt : d' + 1 ≤ d) (k : Ir z → Ev E d M_X3_take 40 [vr a0, vr a1, vl a2, vu, vi a4, vu] [vi z, vi b2] (G0, cs) I' L' Z) (hc1 : cs.1 ≤ M_X3_take.2.2.2.2.1 := by decide) (hc2 : cs.2 ≤ M_X3_take.2.2.2.2.2 := by decide) : Ev E d M_X3_take 37 [vr a0, vr a1, vl a2, vu, vi a4, vu] [vi b0, vr b1, vi b2] (G0, cs) I L Z := E_callV (as := [vi b0]) (rest := [vi b2]) (n := 1) hM dX3_take_37 wM_RX3_29 wS_X3_takeOut wV_X3_takeOut hs (by decide) rfl hlt wC_X3_takeOut wI_X3 (by decide +kernel) rfl (by decide) (Nat.le_of_ble_eq_true rfl) hc1 hc2 rfl (fun r g' I2 L2 h => by obtain ⟨rfl, z, rfl, hr, rfl, rfl, rfl⟩ := h; exact k hr)
theorem t15_X3_take_40 {E : En} {d : Nat} {κ : Kp} {I L : MI} {Z : Zt} {a0 a1 : Nat} {a2 a4 b0 b1 : Int}  (k : Ev E d M_X3_take 41 [vr a0, vr a1, vl a2, vu, vi a4, vu] [vi (b1 + b0)] κ I L Z) : Ev E d M_X3_take 40 [vr a0, vr a1, vl a2, vu, vi a4, vu] [vi b0, vi b1] κ I L Z := E_iadd dX3_take_40 k
theorem t15_X3_take_41 {E : En} {d : Nat} {κ : Kp} {I L : MI} {Z : Zt} {a0 a1 : Nat} {a2 a4 b0 : Int}  (k : Ev E d M_X3_take 43 [vr a0, vr a1, vl a2, vu, vi a4, vi b0] [] κ I L Z) : Ev E d M_X3_take 41 [vr a0, vr a1, vl a2, vu, vi a4, vu] [vi b0] κ I L Z := E_istore dX3_take_41 rfl (Nat.le_of_ble_eq_true rfl) k
theorem t15_X3_take_43 {E : En} {d : Nat} {κ : Kp} {I L : MI} {Z : Zt} {a0 a1 : Nat} {a2 a4 a5 : Int}  (k : Ev E d M_X3_take 44 [vr a0, vr a1, vl a2, vu, vi a4, vi a5] [vr a0] κ I L Z) : Ev E d M_X3_take 43 [vr a0, vr a1, vl a2, vu, vi a4, vi a5] [] κ I L Z := E_aload_n dX3_take_43 rfl k
theorem t15_X3_take_44 {E : En} {d : Nat} {κ : Kp} {I L : MI} {Z : Zt} {a0 a1 b0 : Nat} {a2 a4 a5 : Int} {q : Nat} (hs : κ.1.1[b0]? = some (.inl 3)) (hq : κ.1.2 b0 0 = some q) (k : Ev E d M_X3_take 47 [vr a0, vr a1, vl a2, vu, vi a4, vi a5] [vr q] κ I L Z) : Ev E d M_X3_take 44 [vr a0, vr a1, vl a2, vu, vi a4, vi a5] [vr b0] κ I L Z := E_getR (ci := 3) (n := 0) dX3_take_44 wF_RX3_9 (by decide) hs rfl hq k
theorem t15_X3_take_47 {E : En} {d : Nat} {κ : Kp} {I L : MI} {Z : Zt} {a0 a1 b0 : Nat} {a2 a4 a5 : Int}  (k : Ev E d M_X3_take 49 [vr a0, vr a1, vl a2, vu, vi a4, vi a5] [vi a4, vr b0] κ I L Z) : Ev E d M_X3_take 47 [vr a0, vr a1, vl a2, vu, vi a4, vi a5] [vr b0] κ I L Z := E_iload dX3_take_47 rfl k
theorem t15_X3_take_49 {E : En} {d : Nat} {κ : Kp} {I L : MI} {Z : Zt} {a0 a1 b1 : Nat} {a2 a4 a5 b0 : Int}  (k : Ev E d M_X3_take 51 [vr a0, vr a1, vl a2, vu, vi a4, vi a5] [vi a5, vi b0, vr b1] κ I L Z) : Ev E d M_X3_take 49 [vr a0, vr a1, vl a2, vu, vi a4, vi a5] [vi b0, vr b1] κ I L Z := E_iload dX3_take_49 rfl k
theorem t15_X3_take_51 {E : En} {d d' : Nat} {cs : Nat × Nat} {I L : MI} {Z : Zt} {a0 a1 b2 : Nat} {a2 a4 a5 b0 b1 : Int} {I' L' : MI} (hM : CFv E d' M_X10_store [vr b2, vi b1, vi b0] I L I' L') (hlt : d' + 1 ≤ d) (k : Ev E d M_X3_take 54 [vr a0, vr a1, vl a2, vu, vi a4, vi a5] [] (G0, cs) I' L' Z) (hc1 : cs.1 ≤ M_X3_take.2.2.2.2.1 := by decide) (hc2 : cs.2 ≤ M_X3_take.2.2.2.2.2 := by decide) : Ev E d M_X3_take 51 [vr a0, vr a1, vl a2, vu, vi a4, vi a5] [vi b0, vi b1, vr b2] (G0, cs) I L Z := E_callSN (as := [vr b2, vi b1, vi b0]) (rest := []) (n := 3) hM dX3_take_51 rfl (host := "SaidByTimes") (cl := RX3) (by decide +kernel) wS_X10_store hlt wC_X10_store wI_X10 (by decide +kernel) rfl (by decide) (Nat.le_of_ble_eq_true rfl) hc1 hc2 rfl (fun r g' I2 L2 h => by obtain ⟨rfl, rfl, rfl, rfl⟩ := h; exact k)
theorem t15_X3_take_54 {E : En} {d : Nat} {κ : Kp} {I L : MI} {Z : Zt} {a0 a1 : Nat} {a2 a4 a5 : Int}  (k : Ev E d M_X3_take 55 [vr a0, vr a1, vl a2, vu, vi a4, vi a5] [vr a0] κ I L Z) : Ev E d M_X3_take 54 [vr a0, vr a1, vl a2, vu, vi a4, vi a5] [] κ I L Z := E_aload_n dX3_take_54 rfl k
theorem t15_X3_take_55 {E : En} {d : Nat} {κ : Kp} {I L : MI} {Z : Zt} {a0 a1 b0 : Nat} {a2 a4 a5 : Int}  (k : Ev E d M_X3_take 56 [vr a0, vr a1, vl a2, vu, vi a4, vi a5] [vr b0, vr b0] κ I L Z) : Ev E d M_X3_take 55 [vr a0, vr a1, vl a2, vu, vi a4, vi a5] [vr b0] κ I L Z := E_dup dX3_take_55 rfl k
theorem t15_X3_take_56 {E : En} {d : Nat} {κ : Kp} {I L : MI} {Z : Zt} {a0 a1 b0 b1 : Nat} {a2 a4 a5 : Int} (hs : κ.1.1[b0]? = some (.inl 3)) (k : Ir (I b0 2) → Ev E d M_X3_take 59 [vr a0, vr a1, vl a2, vu, vi a4, vi a5] [vi (I b0 2), vr b1] κ I L Z) : Ev E d M_X3_take 56 [vr a0, vr a1, vl a2, vu, vi a4, vi a5] [vr b0, vr b1] κ I L Z := E_getI (ci := 3) (n := 2) dX3_take_56 wF_RX3_19 (by decide) hs rfl k
theorem t15_X3_take_59 {E : En} {d : Nat} {κ : Kp} {I L : MI} {Z : Zt} {a0 a1 b1 : Nat} {a2 a4 a5 b0 : Int}  (k : Ev E d M_X3_take 61 [vr a0, vr a1, vl a2, vu, vi a4, vi a5] [vi a5, vi b0, vr b1] κ I L Z) : Ev E d M_X3_take 59 [vr a0, vr a1, vl a2, vu, vi a4, vi a5] [vi b0, vr b1] κ I L Z := E_iload dX3_take_59 rfl k
theorem t15_X3_take_61 {E : En} {d : Nat} {κ : Kp} {I L : MI} {Z : Zt} {a0 a1 b2 : Nat} {a2 a4 a5 b0 b1 : Int}  (k : Ev E d M_X3_take 62 [vr a0, vr a1, vl a2, vu, vi a4, vi a5] [vi (b1 + b0), vr b2] κ I L Z) : Ev E d M_X3_take 61 [vr a0, vr a1, vl a2, vu, vi a4, vi a5] [vi b0, vi b1, vr b2] κ I L Z := E_iadd dX3_take_61 k
theorem t15_X3_take_62 {E : En} {d : Nat} {κ : Kp} {I L : MI} {Z : Zt} {a0 a1 b1 : Nat} {a2 a4 a5 b0 : Int} (hs : κ.1.1[b1]? = some (.inl 3)) (hz : Ir b0) (k : Ev E d M_X3_take 65 [vr a0, vr a1, vl a2, vu, vi a4, vi a5] [] κ (up2 I b1 2 b0) L Z) : Ev E d M_X3_take 62 [vr a0, vr a1, vl a2, vu, vi a4, vi a5] [vi b0, vr b1] κ I L Z := E_putI (ci := 3) (n := 2) dX3_take_62 wF_RX3_19 (by decide) hs rfl rfl hz k
theorem t15_X3_take_65 {E : En} {d : Nat} {κ : Kp} {I L : MI} {Z : Zt} {a0 a1 : Nat} {a2 a4 a5 : Int}  (k : Ev E d M_X3_take 68 [vr a0, vr a1, vl a2, vu, vi (a4 + 1), vi a5] [] κ I L Z) : Ev E d M_X3_take 65 [vr a0, vr a1, vl a2, vu, vi a4, vi a5] [] κ I L Z := E_iinc dX3_take_65 rfl rfl (Nat.le_of_ble_eq_true rfl) k
theorem t15_X3_take_68 {E : En} {d : Nat} {κ : Kp} {I L : MI} {Z : Zt} {a0 a1 : Nat} {a2 a4 a5 : Int}  (k : Ev E d M_X3_take 13 [vr a0, vr a1, vl a2, vu, vi a4, vi a5] [] κ I L Z) : Ev E d M_X3_take 68 [vr a0, vr a1, vl a2, vu, vi a4, vi a5] [] κ I L Z := E_goto dX3_take_68 (by decide) k
theorem t15_X3_take_0 {E : En} {d : Nat} {κ : Kp} {I L : MI} {Z : Zt} {a0 a1 : Nat} {a2 : Int}  (k : Ev E d M_X3_take 1 [vr a0, vr a1, vl a2, vu, vu, vu] [vr a0] κ I L Z) : Ev E d M_X3_take 0 [vr a0, vr a1, vl a2, vu, vu, vu] [] κ I L Z := E_aload_n dX3_take_0 rfl k
theorem t15_X3_take_1 {E : En} {d : Nat} {κ : Kp} {I L : MI} {Z : Zt} {a0 a1 b0 : Nat} {a2 : Int}  (k : Ev E d M_X3_take 2 [vr a0, vr a1, vl a2, vu, vu, vu] [vl a2, vr b0] κ I L Z) : Ev E d M_X3_take 1 [vr a0, vr a1, vl a2, vu, vu, vu] [vr b0] κ I L Z := E_lload_n dX3_take_1 rfl k
theorem t15_X3_take_2 {E : En} {d : Nat} {κ : Kp} {I L : MI} {Z : Zt} {a0 a1 b1 : Nat} {a2 b0 : Int} (hs : κ.1.1[b1]? = some (.inl 3)) (hz : Jr b0) (k : Ev E d M_X3_take 5 [vr a0, vr a1, vl a2, vu, vu, vu] [] κ I (up2 L b1 1 b0) Z) : Ev E d M_X3_take 2 [vr a0, vr a1, vl a2, vu, vu, vu] [vl b0, vr b1] κ I L Z := E_putL (ci := 3) (n := 1) dX3_take_2 wF_RX3_15 (by decide) hs rfl rfl hz k
theorem t15_X3_take_5 {E : En} {d : Nat} {κ : Kp} {I L : MI} {Z : Zt} {a0 a1 : Nat} {a2 : Int}  (k : Ev E d M_X3_take 6 [vr a0, vr a1, vl a2, vu, vu, vu] [vr a0] κ I L Z) : Ev E d M_X3_take 5 [vr a0, vr a1, vl a2, vu, vu, vu] [] κ I L Z := E_aload_n dX3_take_5 rfl k
theorem t15_X3_take_6 {E : En} {d : Nat} {κ : Kp} {I L : MI} {Z : Zt} {a0 a1 b0 : Nat} {a2 : Int}  (k : Ev E d M_X3_take 7 [vr a0, vr a1, vl a2, vu, vu, vu] [vi 0, vr b0] κ I L Z) : Ev E d M_X3_take 6 [vr a0, vr a1, vl a2, vu, vu, vu] [vr b0] κ I L Z := E_iconst (v := 0) dX3_take_6 rfl k
theorem t15_X3_take_7 {E : En} {d : Nat} {κ : Kp} {I L : MI} {Z : Zt} {a0 a1 b1 : Nat} {a2 b0 : Int} (hs : κ.1.1[b1]? = some (.inl 3)) (hz : Ir b0) (k : Ev E d M_X3_take 10 [vr a0, vr a1, vl a2, vu, vu, vu] [] κ (up2 I b1 2 b0) L Z) : Ev E d M_X3_take 7 [vr a0, vr a1, vl a2, vu, vu, vu] [vi b0, vr b1] κ I L Z := E_putI (ci := 3) (n := 2) dX3_take_7 wF_RX3_19 (by decide) hs rfl rfl hz k
theorem t15_X3_take_10 {E : En} {d : Nat} {κ : Kp} {I L : MI} {Z : Zt} {a0 a1 : Nat} {a2 : Int}  (k : Ev E d M_X3_take 11 [vr a0, vr a1, vl a2, vu, vu, vu] [vi 0] κ I L Z) : Ev E d M_X3_take 10 [vr a0, vr a1, vl a2, vu, vu, vu] [] κ I L Z := E_iconst (v := 0) dX3_take_10 rfl k
theorem t15_X3_take_11 {E : En} {d : Nat} {κ : Kp} {I L : MI} {Z : Zt} {a0 a1 : Nat} {a2 b0 : Int}  (k : Ev E d M_X3_take 13 [vr a0, vr a1, vl a2, vu, vi b0, vu] [] κ I L Z) : Ev E d M_X3_take 11 [vr a0, vr a1, vl a2, vu, vu, vu] [vi b0] κ I L Z := E_istore dX3_take_11 rfl (Nat.le_of_ble_eq_true rfl) k
theorem t15_X3_standingBits_4 {E : En} {d : Nat} {κ : Kp} {I L : MI} {Z : Zt} {a0 : Nat} {a1 a2 : Int}  (k : Ev E d M_X3_standingBits 5 [vr a0, vi a1, vi a2] [vi a2] κ I L Z) : Ev E d M_X3_standingBits 4 [vr a0, vi a1, vi a2] [] κ I L Z := E_iload_n dX3_standingBits_4 rfl k
theorem t15_X3_standingBits_5 {E : En} {d : Nat} {κ : Kp} {I L : MI} {Z : Zt} {a0 : Nat} {a1 a2 b0 : Int}  (k : Ev E d M_X3_standingBits 7 [vr a0, vi a1, vi a2] [vi 12, vi b0] κ I L Z) : Ev E d M_X3_standingBits 5 [vr a0, vi a1, vi a2] [vi b0] κ I L Z := E_bipush (v := 12) dX3_standingBits_5 rfl k
theorem t15_X3_standingBits_7 {E : En} {d : Nat} {κ : Kp} {I L : MI} {Z : Zt} {a0 : Nat} {a1 a2 b0 b1 : Int} (hx : Ir b1) (hy : Ir b0) (kt : b0 ≤ b1 → Ev E d M_X3_standingBits 33 [vr a0, vi a1, vi a2] [] κ I L Z) (kf : b1 < b0 → Ev E d M_X3_standingBits 10 [vr a0, vi a1, vi a2] [] κ I L Z) : Ev E d M_X3_standingBits 7 [vr a0, vi a1, vi a2] [vi b0, vi b1] κ I L Z := E_icmp_ge dX3_standingBits_7 hx hy kt kf (by decide)
theorem t15_X3_standingBits_33 {E : En} {d : Nat} {κ : Kp} {I L : MI} {Z : Zt} {a0 : Nat} {a1 a2 : Int}  (k : Ev E d M_X3_standingBits 34 [vr a0, vi a1, vi a2] [vi a1] κ I L Z) : Ev E d M_X3_standingBits 33 [vr a0, vi a1, vi a2] [] κ I L Z := E_iload_n dX3_standingBits_33 rfl k
theorem t15_X3_standingBits_34 {E : En} {d : Nat} {g : Geo} {I L : MI} {Q : Option AV → Geo → MI → MI → Prop} {cs : Nat × Nat} {a0 : Nat} {a1 a2 b0 : Int} (hq : Q (some (vi b0)) g I L) (h1 : cs.1 ≤ M_X3_standingBits.2.2.2.2.1 := by decide) (h2 : cs.2 ≤ M_X3_standingBits.2.2.2.2.2 := by decide) : Ev E d M_X3_standingBits 34 [vr a0, vi a1, vi a2] [vi b0] (g, cs) I L (ZQ E M_X3_standingBits Q) := E_ireturn rfl dX3_standingBits_34 hq h1 h2
theorem t15_X3_standingBits_10 {E : En} {d : Nat} {κ : Kp} {I L : MI} {Z : Zt} {a0 : Nat} {a1 a2 : Int}  (k : Ev E d M_X3_standingBits 11 [vr a0, vi a1, vi a2] [vr a0] κ I L Z) : Ev E d M_X3_standingBits 10 [vr a0, vi a1, vi a2] [] κ I L Z := E_aload_n dX3_standingBits_10 rfl k
theorem t15_X3_standingBits_11 {E : En} {d : Nat} {κ : Kp} {I L : MI} {Z : Zt} {a0 b0 : Nat} {a1 a2 : Int} {q : Nat} (hs : κ.1.1[b0]? = some (.inl 3)) (hq : κ.1.2 b0 0 = some q) (k : Ev E d M_X3_standingBits 14 [vr a0, vi a1, vi a2] [vr q] κ I L Z) : Ev E d M_X3_standingBits 11 [vr a0, vi a1, vi a2] [vr b0] κ I L Z := E_getR (ci := 3) (n := 0) dX3_standingBits_11 wF_RX3_9 (by decide) hs rfl hq k
theorem t15_X3_standingBits_14 {E : En} {d : Nat} {κ : Kp} {I L : MI} {Z : Zt} {a0 b0 : Nat} {a1 a2 : Int}  (k : Ev E d M_X3_standingBits 15 [vr a0, vi a1, vi a2] [vi a2, vr b0] κ I L Z) : Ev E d M_X3_standingBits 14 [vr a0, vi a1, vi a2] [vr b0] κ I L Z := E_iload_n dX3_standingBits_14 rfl k
theorem t15_X3_standingBits_15 {E : En} {d d' : Nat} {cs : Nat × Nat} {I L : MI} {Z : Zt} {a0 b1 : Nat} {a1 a2 b0 : Int} {z : Int} {I' L' : MI} (hM : CFi E d' M_X10_at [vr b1, vi b0] I L z I' L') (hlt : d' + 1 ≤ d) (k : Ir z → Ev E d M_X3_standingBits 18 [vr a0, vi a1, vi a2] [vi z] (G0, cs) I' L' Z) (hc1 : cs.1 ≤ M_X3_standingBits.2.2.2.2.1 := by decide) (hc2 : cs.2 ≤ M_X3_standingBits.2.2.2.2.2 := by decide) : Ev E d M_X3_standingBits 15 [vr a0, vi a1, vi a2] [vi b0, vr b1] (G0, cs) I L Z := E_callSN (as := [vr b1, vi b0]) (rest := []) (n := 2) hM dX3_standingBits_15 rfl (host := "SaidByTimes") (cl := RX3) (by decide +kernel) wS_X10_at hlt wC_X10_at wI_X10 (by decide +kernel) rfl (by decide) (Nat.le_of_ble_eq_true rfl) hc1 hc2 rfl (fun r g' I2 L2 h => by obtain ⟨rfl, z, rfl, hr, rfl, rfl, rfl⟩ := h; exact k hr)
theorem t15_X3_standingBits_18 {E : En} {d : Nat} {κ : Kp} {I L : MI} {Z : Zt} {a0 : Nat} {a1 a2 b0 : Int} (hx : Ir b0) (kt : b0 ≤ 0 → Ev E d M_X3_standingBits 27 [vr a0, vi a1, vi a2] [] κ I L Z) (kf : 0 < b0 → Ev E d M_X3_standingBits 21 [vr a0, vi a1, vi a2] [] κ I L Z) : Ev E d M_X3_standingBits 18 [vr a0, vi a1, vi a2] [vi b0] κ I L Z := E_if_le dX3_standingBits_18 hx kt kf (by decide)
theorem t15_X3_standingBits_27 {E : En} {d : Nat} {κ : Kp} {I L : MI} {Z : Zt} {a0 : Nat} {a1 a2 : Int}  (k : Ev E d M_X3_standingBits 30 [vr a0, vi a1, vi (a2 + 1)] [] κ I L Z) : Ev E d M_X3_standingBits 27 [vr a0, vi a1, vi a2] [] κ I L Z := E_iinc dX3_standingBits_27 rfl rfl (Nat.le_of_ble_eq_true rfl) k
theorem t15_X3_standingBits_30 {E : En} {d : Nat} {κ : Kp} {I L : MI} {Z : Zt} {a0 : Nat} {a1 a2 : Int}  (k : Ev E d M_X3_standingBits 4 [vr a0, vi a1, vi a2] [] κ I L Z) : Ev E d M_X3_standingBits 30 [vr a0, vi a1, vi a2] [] κ I L Z := E_goto dX3_standingBits_30 (by decide) k
theorem t15_X3_standingBits_21 {E : En} {d : Nat} {κ : Kp} {I L : MI} {Z : Zt} {a0 : Nat} {a1 a2 : Int}  (k : Ev E d M_X3_standingBits 22 [vr a0, vi a1, vi a2] [vi a1] κ I L Z) : Ev E d M_X3_standingBits 21 [vr a0, vi a1, vi a2] [] κ I L Z := E_iload_n dX3_standingBits_21 rfl k
theorem t15_X3_standingBits_22 {E : En} {d : Nat} {κ : Kp} {I L : MI} {Z : Zt} {a0 : Nat} {a1 a2 b0 : Int}  (k : Ev E d M_X3_standingBits 23 [vr a0, vi a1, vi a2] [vi 1, vi b0] κ I L Z) : Ev E d M_X3_standingBits 22 [vr a0, vi a1, vi a2] [vi b0] κ I L Z := E_iconst (v := 1) dX3_standingBits_22 rfl k
theorem t15_X3_standingBits_23 {E : En} {d : Nat} {κ : Kp} {I L : MI} {Z : Zt} {a0 : Nat} {a1 a2 b0 b1 : Int}  (k : Ev E d M_X3_standingBits 24 [vr a0, vi a1, vi a2] [vi a2, vi b0, vi b1] κ I L Z) : Ev E d M_X3_standingBits 23 [vr a0, vi a1, vi a2] [vi b0, vi b1] κ I L Z := E_iload_n dX3_standingBits_23 rfl k
theorem t15_X3_standingBits_24 {E : En} {d : Nat} {κ : Kp} {I L : MI} {Z : Zt} {a0 : Nat} {a1 a2 b0 b1 b2 : Int} {z : Int} (hz : Int32.ofInt b1 <<< (Int32.ofInt b0 &&& 31) = Int32.ofInt z) (k : Ev E d M_X3_standingBits 25 [vr a0, vi a1, vi a2] [vi z, vi b2] κ I L Z) : Ev E d M_X3_standingBits 24 [vr a0, vi a1, vi a2] [vi b0, vi b1, vi b2] κ I L Z := E_ishl dX3_standingBits_24 hz k
theorem t15_X3_standingBits_25 {E : En} {d : Nat} {κ : Kp} {I L : MI} {Z : Zt} {a0 : Nat} {a1 a2 b0 b1 : Int} {z : Int} (hz : Int32.ofInt b1 ||| Int32.ofInt b0 = Int32.ofInt z) (k : Ev E d M_X3_standingBits 26 [vr a0, vi a1, vi a2] [vi z] κ I L Z) : Ev E d M_X3_standingBits 25 [vr a0, vi a1, vi a2] [vi b0, vi b1] κ I L Z := E_ior dX3_standingBits_25 hz k
theorem t15_X3_standingBits_26 {E : En} {d : Nat} {κ : Kp} {I L : MI} {Z : Zt} {a0 : Nat} {a1 a2 b0 : Int}  (k : Ev E d M_X3_standingBits 27 [vr a0, vi b0, vi a2] [] κ I L Z) : Ev E d M_X3_standingBits 26 [vr a0, vi a1, vi a2] [vi b0] κ I L Z := E_istore_n dX3_standingBits_26 rfl (Nat.le_of_ble_eq_true rfl) k
theorem t15_X3_standingBits_0 {E : En} {d : Nat} {κ : Kp} {I L : MI} {Z : Zt} {a0 : Nat}  (k : Ev E d M_X3_standingBits 1 [vr a0, vu, vu] [vi 0] κ I L Z) : Ev E d M_X3_standingBits 0 [vr a0, vu, vu] [] κ I L Z := E_iconst (v := 0) dX3_standingBits_0 rfl k
theorem t15_X3_standingBits_1 {E : En} {d : Nat} {κ : Kp} {I L : MI} {Z : Zt} {a0 : Nat} {b0 : Int}  (k : Ev E d M_X3_standingBits 2 [vr a0, vi b0, vu] [] κ I L Z) : Ev E d M_X3_standingBits 1 [vr a0, vu, vu] [vi b0] κ I L Z := E_istore_n dX3_standingBits_1 rfl (Nat.le_of_ble_eq_true rfl) k
theorem t15_X3_standingBits_2 {E : En} {d : Nat} {κ : Kp} {I L : MI} {Z : Zt} {a0 : Nat} {a1 : Int}  (k : Ev E d M_X3_standingBits 3 [vr a0, vi a1, vu] [vi 0] κ I L Z) : Ev E d M_X3_standingBits 2 [vr a0, vi a1, vu] [] κ I L Z := E_iconst (v := 0) dX3_standingBits_2 rfl k
theorem t15_X3_standingBits_3 {E : En} {d : Nat} {κ : Kp} {I L : MI} {Z : Zt} {a0 : Nat} {a1 b0 : Int}  (k : Ev E d M_X3_standingBits 4 [vr a0, vi a1, vi b0] [] κ I L Z) : Ev E d M_X3_standingBits 3 [vr a0, vi a1, vu] [vi b0] κ I L Z := E_istore_n dX3_standingBits_3 rfl (Nat.le_of_ble_eq_true rfl) k
theorem t15_X3_toldAs_32 {E : En} {d : Nat} {κ : Kp} {I L : MI} {Z : Zt} {a0 : Nat} {a1 : Int}  (k : Ev E d M_X3_toldAs 33 [vr a0, vi a1] [vi a1] κ I L Z) : Ev E d M_X3_toldAs 32 [vr a0, vi a1] [] κ I L Z := E_iload_n dX3_toldAs_32 rfl k
theorem t15_X3_toldAs_33 {E : En} {d : Nat} {κ : Kp} {I L : MI} {Z : Zt} {a0 : Nat} {a1 b0 : Int}  (k : Ev E d M_X3_toldAs 35 [vr a0, vi a1] [vi 12, vi b0] κ I L Z) : Ev E d M_X3_toldAs 33 [vr a0, vi a1] [vi b0] κ I L Z := E_bipush (v := 12) dX3_toldAs_33 rfl k
theorem t15_X3_toldAs_35 {E : En} {d : Nat} {κ : Kp} {I L : MI} {Z : Zt} {a0 : Nat} {a1 b0 b1 : Int} (hx : Ir b1) (hy : Ir b0) (kt : b0 ≤ b1 → Ev E d M_X3_toldAs 58 [vr a0, vi a1] [] κ I L Z) (kf : b1 < b0 → Ev E d M_X3_toldAs 38 [vr a0, vi a1] [] κ I L Z) : Ev E d M_X3_toldAs 35 [vr a0, vi a1] [vi b0, vi b1] κ I L Z := E_icmp_ge dX3_toldAs_35 hx hy kt kf (by decide)
theorem t15_X3_toldAs_58 {E : En} {d : Nat} {κ : Kp} {I L : MI} {Z : Zt} {a0 : Nat} {a1 : Int}  (k : Ev E d M_X3_toldAs 59 [vr a0, vi a1] [vi 1] κ I L Z) : Ev E d M_X3_toldAs 58 [vr a0, vi a1] [] κ I L Z := E_iconst (v := 1) dX3_toldAs_58 rfl k
theorem t15_X3_toldAs_59 {E : En} {d : Nat} {g : Geo} {I L : MI} {Q : Option AV → Geo → MI → MI → Prop} {cs : Nat × Nat} {a0 : Nat} {a1 b0 : Int} (hq : Q (some (vi b0)) g I L) (h1 : cs.1 ≤ M_X3_toldAs.2.2.2.2.1 := by decide) (h2 : cs.2 ≤ M_X3_toldAs.2.2.2.2.2 := by decide) : Ev E d M_X3_toldAs 59 [vr a0, vi a1] [vi b0] (g, cs) I L (ZQ E M_X3_toldAs Q) := E_ireturn rfl dX3_toldAs_59 hq h1 h2
theorem t15_X3_toldAs_38 {E : En} {d : Nat} {κ : Kp} {I L : MI} {Z : Zt} {a0 : Nat} {a1 : Int}  (k : Ev E d M_X3_toldAs 39 [vr a0, vi a1] [vr a0] κ I L Z) : Ev E d M_X3_toldAs 38 [vr a0, vi a1] [] κ I L Z := E_aload_n dX3_toldAs_38 rfl k
theorem t15_X3_toldAs_39 {E : En} {d : Nat} {κ : Kp} {I L : MI} {Z : Zt} {a0 b0 : Nat} {a1 : Int} {q : Nat} (hs : κ.1.1[b0]? = some (.inl 3)) (hq : κ.1.2 b0 0 = some q) (k : Ev E d M_X3_toldAs 42 [vr a0, vi a1] [vr q] κ I L Z) : Ev E d M_X3_toldAs 39 [vr a0, vi a1] [vr b0] κ I L Z := E_getR (ci := 3) (n := 0) dX3_toldAs_39 wF_RX3_9 (by decide) hs rfl hq k
theorem t15_X3_toldAs_42 {E : En} {d : Nat} {κ : Kp} {I L : MI} {Z : Zt} {a0 b0 : Nat} {a1 : Int}  (k : Ev E d M_X3_toldAs 43 [vr a0, vi a1] [vi a1, vr b0] κ I L Z) : Ev E d M_X3_toldAs 42 [vr a0, vi a1] [vr b0] κ I L Z := E_iload_n dX3_toldAs_42 rfl k
theorem t15_X3_toldAs_43 {E : En} {d d' : Nat} {cs : Nat × Nat} {I L : MI} {Z : Zt} {a0 b1 : Nat} {a1 b0 : Int} {z : Int} {I' L' : MI} (hM : CFi E d' M_X10_at [vr b1, vi b0] I L z I' L') (hlt : d' + 1 ≤ d) (k : Ir z → Ev E d M_X3_toldAs 46 [vr a0, vi a1] [vi z] (G0, cs) I' L' Z) (hc1 : cs.1 ≤ M_X3_toldAs.2.2.2.2.1 := by decide) (hc2 : cs.2 ≤ M_X3_toldAs.2.2.2.2.2 := by decide) : Ev E d M_X3_toldAs 43 [vr a0, vi a1] [vi b0, vr b1] (G0, cs) I L Z := E_callSN (as := [vr b1, vi b0]) (rest := []) (n := 2) hM dX3_toldAs_43 rfl (host := "SaidByTimes") (cl := RX3) (by decide +kernel) wS_X10_at hlt wC_X10_at wI_X10 (by decide +kernel) rfl (by decide) (Nat.le_of_ble_eq_true rfl) hc1 hc2 rfl (fun r g' I2 L2 h => by obtain ⟨rfl, z, rfl, hr, rfl, rfl, rfl⟩ := h; exact k hr)
theorem t15_X3_toldAs_46 {E : En} {d : Nat} {κ : Kp} {I L : MI} {Z : Zt} {a0 : Nat} {a1 b0 : Int}  (k : Ev E d M_X3_toldAs 47 [vr a0, vi a1] [vi 3, vi b0] κ I L Z) : Ev E d M_X3_toldAs 46 [vr a0, vi a1] [vi b0] κ I L Z := E_iconst (v := 3) dX3_toldAs_46 rfl k
theorem t15_X3_toldAs_47 {E : En} {d : Nat} {κ : Kp} {I L : MI} {Z : Zt} {a0 : Nat} {a1 b0 b1 : Int} (hx : Ir b1) (hy : Ir b0) (kt : b1 < b0 → Ev E d M_X3_toldAs 52 [vr a0, vi a1] [] κ I L Z) (kf : b0 ≤ b1 → Ev E d M_X3_toldAs 50 [vr a0, vi a1] [] κ I L Z) : Ev E d M_X3_toldAs 47 [vr a0, vi a1] [vi b0, vi b1] κ I L Z := E_icmp_lt dX3_toldAs_47 hx hy kt kf (by decide)
theorem t15_X3_toldAs_52 {E : En} {d : Nat} {κ : Kp} {I L : MI} {Z : Zt} {a0 : Nat} {a1 : Int}  (k : Ev E d M_X3_toldAs 55 [vr a0, vi (a1 + 1)] [] κ I L Z) : Ev E d M_X3_toldAs 52 [vr a0, vi a1] [] κ I L Z := E_iinc dX3_toldAs_52 rfl rfl (Nat.le_of_ble_eq_true rfl) k
theorem t15_X3_toldAs_55 {E : En} {d : Nat} {κ : Kp} {I L : MI} {Z : Zt} {a0 : Nat} {a1 : Int}  (k : Ev E d M_X3_toldAs 32 [vr a0, vi a1] [] κ I L Z) : Ev E d M_X3_toldAs 55 [vr a0, vi a1] [] κ I L Z := E_goto dX3_toldAs_55 (by decide) k
theorem t15_X3_toldAs_50 {E : En} {d : Nat} {κ : Kp} {I L : MI} {Z : Zt} {a0 : Nat} {a1 : Int}  (k : Ev E d M_X3_toldAs 51 [vr a0, vi a1] [vi 5] κ I L Z) : Ev E d M_X3_toldAs 50 [vr a0, vi a1] [] κ I L Z := E_iconst (v := 5) dX3_toldAs_50 rfl k
theorem t15_X3_toldAs_51 {E : En} {d : Nat} {g : Geo} {I L : MI} {Q : Option AV → Geo → MI → MI → Prop} {cs : Nat × Nat} {a0 : Nat} {a1 b0 : Int} (hq : Q (some (vi b0)) g I L) (h1 : cs.1 ≤ M_X3_toldAs.2.2.2.2.1 := by decide) (h2 : cs.2 ≤ M_X3_toldAs.2.2.2.2.2 := by decide) : Ev E d M_X3_toldAs 51 [vr a0, vi a1] [vi b0] (g, cs) I L (ZQ E M_X3_toldAs Q) := E_ireturn rfl dX3_toldAs_51 hq h1 h2
theorem t15_X3_toldAs_0 {E : En} {d : Nat} {κ : Kp} {I L : MI} {Z : Zt} {a0 : Nat}  (k : Ev E d M_X3_toldAs 1 [vr a0, vu] [vr a0] κ I L Z) : Ev E d M_X3_toldAs 0 [vr a0, vu] [] κ I L Z := E_aload_n dX3_toldAs_0 rfl k
theorem t15_X3_toldAs_1 {E : En} {d : Nat} {κ : Kp} {I L : MI} {Z : Zt} {a0 b0 : Nat} (hs : κ.1.1[b0]? = some (.inl 3)) (k : Jr (L b0 1) → Ev E d M_X3_toldAs 4 [vr a0, vu] [vl (L b0 1)] κ I L Z) : Ev E d M_X3_toldAs 1 [vr a0, vu] [vr b0] κ I L Z := E_getL (ci := 3) (n := 1) dX3_toldAs_1 wF_RX3_15 (by decide) hs rfl k
theorem t15_X3_toldAs_4 {E : En} {d : Nat} {κ : Kp} {I L : MI} {Z : Zt} {a0 : Nat} {b0 : Int}  (k : Ev E d M_X3_toldAs 5 [vr a0, vu] [vl 1, vl b0] κ I L Z) : Ev E d M_X3_toldAs 4 [vr a0, vu] [vl b0] κ I L Z := E_lconst (v := 1) dX3_toldAs_4 rfl k
theorem t15_X3_toldAs_5 {E : En} {d : Nat} {κ : Kp} {I L : MI} {Z : Zt} {a0 : Nat} {b0 b1 : Int} (hx : Jr b1) (hy : Jr b0) (kt : b1 = b0 → Ev E d M_X3_toldAs 11 [vr a0, vu] [] κ I L Z) (kf : ¬ b1 = b0 → Ev E d M_X3_toldAs 9 [vr a0, vu] [] κ I L Z) : Ev E d M_X3_toldAs 5 [vr a0, vu] [vl b0, vl b1] κ I L Z := E_lcmp_eq dX3_toldAs_5 dX3_toldAs_6 hx hy kt kf (by decide)
theorem t15_X3_toldAs_11 {E : En} {d : Nat} {κ : Kp} {I L : MI} {Z : Zt} {a0 : Nat}  (k : Ev E d M_X3_toldAs 12 [vr a0, vu] [vr a0] κ I L Z) : Ev E d M_X3_toldAs 11 [vr a0, vu] [] κ I L Z := E_aload_n dX3_toldAs_11 rfl k
theorem t15_X3_toldAs_12 {E : En} {d : Nat} {κ : Kp} {I L : MI} {Z : Zt} {a0 b0 : Nat} (hs : κ.1.1[b0]? = some (.inl 3)) (k : Ir (I b0 3) → Ev E d M_X3_toldAs 15 [vr a0, vu] [vi (I b0 3)] κ I L Z) : Ev E d M_X3_toldAs 12 [vr a0, vu] [vr b0] κ I L Z := E_getI (ci := 3) (n := 3) dX3_toldAs_12 wF_RX3_46 (by decide) hs rfl k
theorem t15_X3_toldAs_15 {E : En} {d : Nat} {κ : Kp} {I L : MI} {Z : Zt} {a0 : Nat} {b0 : Int} (hx : Ir b0) (kt : ¬ b0 = 0 → Ev E d M_X3_toldAs 20 [vr a0, vu] [] κ I L Z) (kf : b0 = 0 → Ev E d M_X3_toldAs 18 [vr a0, vu] [] κ I L Z) : Ev E d M_X3_toldAs 15 [vr a0, vu] [vi b0] κ I L Z := E_if_ne dX3_toldAs_15 hx kt kf (by decide)
theorem t15_X3_toldAs_20 {E : En} {d : Nat} {κ : Kp} {I L : MI} {Z : Zt} {a0 : Nat}  (k : Ev E d M_X3_toldAs 21 [vr a0, vu] [vr a0] κ I L Z) : Ev E d M_X3_toldAs 20 [vr a0, vu] [] κ I L Z := E_aload_n dX3_toldAs_20 rfl k
theorem t15_X3_toldAs_21 {E : En} {d : Nat} {κ : Kp} {I L : MI} {Z : Zt} {a0 b0 : Nat} (hs : κ.1.1[b0]? = some (.inl 3)) (k : Ir (I b0 2) → Ev E d M_X3_toldAs 24 [vr a0, vu] [vi (I b0 2)] κ I L Z) : Ev E d M_X3_toldAs 21 [vr a0, vu] [vr b0] κ I L Z := E_getI (ci := 3) (n := 2) dX3_toldAs_21 wF_RX3_19 (by decide) hs rfl k
theorem t15_X3_toldAs_24 {E : En} {d : Nat} {κ : Kp} {I L : MI} {Z : Zt} {a0 : Nat} {b0 : Int}  (k : Ev E d M_X3_toldAs 25 [vr a0, vu] [vi 1, vi b0] κ I L Z) : Ev E d M_X3_toldAs 24 [vr a0, vu] [vi b0] κ I L Z := E_iconst (v := 1) dX3_toldAs_24 rfl k
theorem t15_X3_toldAs_25 {E : En} {d : Nat} {κ : Kp} {I L : MI} {Z : Zt} {a0 : Nat} {b0 b1 : Int} (hx : Ir b1) (hy : Ir b0) (kt : ¬ b1 = b0 → Ev E d M_X3_toldAs 30 [vr a0, vu] [] κ I L Z) (kf : b1 = b0 → Ev E d M_X3_toldAs 28 [vr a0, vu] [] κ I L Z) : Ev E d M_X3_toldAs 25 [vr a0, vu] [vi b0, vi b1] κ I L Z := E_icmp_ne dX3_toldAs_25 hx hy kt kf (by decide)
theorem t15_X3_toldAs_30 {E : En} {d : Nat} {κ : Kp} {I L : MI} {Z : Zt} {a0 : Nat}  (k : Ev E d M_X3_toldAs 31 [vr a0, vu] [vi 0] κ I L Z) : Ev E d M_X3_toldAs 30 [vr a0, vu] [] κ I L Z := E_iconst (v := 0) dX3_toldAs_30 rfl k
theorem t15_X3_toldAs_31 {E : En} {d : Nat} {κ : Kp} {I L : MI} {Z : Zt} {a0 : Nat} {b0 : Int}  (k : Ev E d M_X3_toldAs 32 [vr a0, vi b0] [] κ I L Z) : Ev E d M_X3_toldAs 31 [vr a0, vu] [vi b0] κ I L Z := E_istore_n dX3_toldAs_31 rfl (Nat.le_of_ble_eq_true rfl) k
theorem t15_X3_toldAs_28 {E : En} {d : Nat} {κ : Kp} {I L : MI} {Z : Zt} {a0 : Nat}  (k : Ev E d M_X3_toldAs 29 [vr a0, vu] [vi 2] κ I L Z) : Ev E d M_X3_toldAs 28 [vr a0, vu] [] κ I L Z := E_iconst (v := 2) dX3_toldAs_28 rfl k
theorem t15_X3_toldAs_29 {E : En} {d : Nat} {g : Geo} {I L : MI} {Q : Option AV → Geo → MI → MI → Prop} {cs : Nat × Nat} {a0 : Nat} {b0 : Int} (hq : Q (some (vi b0)) g I L) (h1 : cs.1 ≤ M_X3_toldAs.2.2.2.2.1 := by decide) (h2 : cs.2 ≤ M_X3_toldAs.2.2.2.2.2 := by decide) : Ev E d M_X3_toldAs 29 [vr a0, vu] [vi b0] (g, cs) I L (ZQ E M_X3_toldAs Q) := E_ireturn rfl dX3_toldAs_29 hq h1 h2
theorem t15_X3_toldAs_18 {E : En} {d : Nat} {κ : Kp} {I L : MI} {Z : Zt} {a0 : Nat}  (k : Ev E d M_X3_toldAs 19 [vr a0, vu] [vi 3] κ I L Z) : Ev E d M_X3_toldAs 18 [vr a0, vu] [] κ I L Z := E_iconst (v := 3) dX3_toldAs_18 rfl k
theorem t15_X3_toldAs_19 {E : En} {d : Nat} {g : Geo} {I L : MI} {Q : Option AV → Geo → MI → MI → Prop} {cs : Nat × Nat} {a0 : Nat} {b0 : Int} (hq : Q (some (vi b0)) g I L) (h1 : cs.1 ≤ M_X3_toldAs.2.2.2.2.1 := by decide) (h2 : cs.2 ≤ M_X3_toldAs.2.2.2.2.2 := by decide) : Ev E d M_X3_toldAs 19 [vr a0, vu] [vi b0] (g, cs) I L (ZQ E M_X3_toldAs Q) := E_ireturn rfl dX3_toldAs_19 hq h1 h2
theorem t15_X3_toldAs_9 {E : En} {d : Nat} {κ : Kp} {I L : MI} {Z : Zt} {a0 : Nat}  (k : Ev E d M_X3_toldAs 10 [vr a0, vu] [vi 4] κ I L Z) : Ev E d M_X3_toldAs 9 [vr a0, vu] [] κ I L Z := E_iconst (v := 4) dX3_toldAs_9 rfl k
theorem t15_X3_toldAs_10 {E : En} {d : Nat} {g : Geo} {I L : MI} {Q : Option AV → Geo → MI → MI → Prop} {cs : Nat × Nat} {a0 : Nat} {b0 : Int} (hq : Q (some (vi b0)) g I L) (h1 : cs.1 ≤ M_X3_toldAs.2.2.2.2.1 := by decide) (h2 : cs.2 ≤ M_X3_toldAs.2.2.2.2.2 := by decide) : Ev E d M_X3_toldAs 10 [vr a0, vu] [vi b0] (g, cs) I L (ZQ E M_X3_toldAs Q) := E_ireturn rfl dX3_toldAs_10 hq h1 h2
/-! CONTRACTS: a saying taken apart, told as a kind; the judge -/
def ctI (F O : Int → Int) (v : Int) (j : Int) : Int := tkC F O v j.toNat
def GoodP (I : MI) (t : Nat) (v : Int) : Prop := tkR (fstI I t) (othI I t) v 12 = 1 ∧ KRP I t (ctI (fstI I t) (othI I t) v) ∧ KPP I t (ctI (fstI I t) (othI I t) v)
def TkQ (I L : MI) (p t : Nat) (v : Int) : MI → MI → Prop := fun I' L' =>
  (∀ o, o ≠ p → o ≠ p + 1 → ∀ k, I' o k = I o k) ∧ (∀ o, o ≠ p → ∀ k, L' o k = L o k) ∧ L' p 1 = tkR (fstI I t) (othI I t) v 12 ∧ I' p 2 = tkS (fstI I t) (othI I t) v 12 ∧ (∀ k : Nat, k < 12 → I' (p + 1) k = tkC (fstI I t) (othI I t) v k) ∧ ((I' p 3 = 1 ∧ GoodP I t v) ∨ (I' p 3 = 0 ∧ ¬ GoodP I t v))
theorem fstI_c {I I' : MI} {t : Nat} (h0 : ∀ k, I' t k = I t k) (h1 : ∀ k, I' (t + 1) k = I (t + 1) k) : fstI I' t = fstI I t := by
  funext k
  unfold fstI atI
  rw [h0, h1]
theorem othI_c {I I' : MI} {t : Nat} (h0 : ∀ k, I' t k = I t k) (h1 : ∀ k, I' (t + 2) k = I (t + 2) k) : othI I' t = othI I t := by
  funext k
  unfold othI atI
  rw [h0, h1]
/-- memory agrees on a tongue -/
def TSame (I I' : MI) (t : Nat) : Prop := ∀ o : Nat, t ≤ o → o ≤ t + 8 → ∀ k, I' o k = I o k
theorem KRP_same {I I' : MI} {t : Nat} {C : Int → Int} (h : TSame I I' t) : KRP I' t C ↔ KRP I t C := by
  have a0 := h t (by omega) (by omega)
  have a3 : I' (t + 3) = I (t + 3) := funext (h (t + 3) (by omega) (by omega))
  have a4 := h (t + 4) (by omega) (by omega)
  have a5 := h (t + 5) (by omega) (by omega)
  have a6 := h (t + 6) (by omega) (by omega)
  unfold KRP
  simp only [a0, a3, a4, a5, a6]
theorem KPP_same {I I' : MI} {t : Nat} {C : Int → Int} (h : TSame I I' t) : KPP I' t C ↔ KPP I t C := by
  have a0 := h t (by omega) (by omega)
  have a7 := h (t + 7) (by omega) (by omega)
  have a8 := h (t + 8) (by omega) (by omega)
  unfold KPP
  simp only [a0, a7, a8]
theorem fstI_same {I I' : MI} {t : Nat} (h : TSame I I' t) : fstI I' t = fstI I t := fstI_c (h t (by omega) (by omega)) (h (t + 1) (by omega) (by omega))
theorem othI_same {I I' : MI} {t : Nat} (h : TSame I I' t) : othI I' t = othI I t := othI_c (h t (by omega) (by omega)) (h (t + 2) (by omega) (by omega))
theorem GoodP_same {I I' : MI} {t : Nat} {v : Int} (h : TSame I I' t) : GoodP I' t v ↔ GoodP I t v := by
  unfold GoodP
  rw [fstI_same h, othI_same h, KRP_same h, KPP_same h]
theorem c_X3_take {E : En} {I L : MI} {p t : Nat} {v : Int} (hp : PtS p := by assumption) (ht : TgS t := by assumption) (hb : TB I t := by assumption) (hne : p + 1 < t ∨ t + 8 < p := by omega) (hv : 0 ≤ v ∧ v ≤ 1000000000000000 := by omega) : CQv E 3 M_X3_take [vr p, vr t, vl v] I L (TkQ I L p t v) := by
  obtain ⟨p1, p2, p3⟩ := id hp
  have h9 := ht.1
  refine CM_of' (al := [vr _, vr _, vl _, vu, vu, vu]) rfl (Nat.le_of_ble_eq_true rfl) rfl (fun hM => ?_)
  have key : ∀ (m : Nat) (k : Nat) (I1 L1 : MI) (x5 : AV), 12 - k < m → k ≤ 12 → (∀ o, o ≠ p → o ≠ p + 1 → ∀ k, I1 o k = I o k) → (∀ o, o ≠ p → ∀ k, L1 o k = L o k) → L1 p 1 = tkR (fstI I t) (othI I t) v k → I1 p 2 = tkS (fstI I t) (othI I t) v k → (∀ j : Nat, j < k → I1 (p + 1) j = tkC (fstI I t) (othI I t) v j) → Ev E 3 M_X3_take 13 [vr p, vr t, vl v, vu, vi (k : Int), vu] [] (G0, 0, 0) I1 L1 (ZQ E M_X3_take (QQv (TkQ I L p t v))) := by
    intro m
    induction m with
    | zero => intro k I1 L1 x5 h1 h2; omega
    | succ m ih =>
      intro k I1 L1 x5 k1 k2 f1 f2 e1 e2 e3
      have sm : TSame I I1 t := fun o o1 o2 => f1 o (by omega) (by omega)
      have hb1 : TB I1 t := by
        have a0 := sm t (by omega) (by omega)
        unfold TB
        rw [a0, a0, a0]
        exact hb
      have rb := tkR_b (F := fstI I t) (O := othI I t) hv.1 k
      refine Ev.mok fun hM1 => ?_
      refine (t15_X3_take_13 (t15_X3_take_15 (t15_X3_take_17 (by omega) (by omega) (fun c17 => ?_) (fun c17 => (t15_X3_take_20 (t15_X3_take_21 (t15_X3_take_22 ?_)))))))
      -- 2 leaves
      · have k3 : k = 12 := by omega
        subst k3
        have cb : ∀ k : Nat, k < 12 → 0 ≤ I1 (p + 1) k ∧ I1 (p + 1) k ≤ 128 := fun k hk => by rw [e3 k hk]; exact tkC_b hv.1 k
        have ct : ∀ k : Nat, k < 12 → I1 (p + 1) k = ctI (fstI I t) (othI I t) v k := fun k hk => by rw [e3 k hk]; rfl
        have kr : KRP I1 t (I1 (p + 1)) ↔ KRP I t (ctI (fstI I t) (othI I t) v) := (KRP_c hb1.1.2 ct).trans (KRP_same sm)
        have kp : KPP I1 t (I1 (p + 1)) ↔ KPP I t (ctI (fstI I t) (othI I t) v) := (KPP_c ct).trans (KPP_same sm)
        have fin : ∀ g : Int, ((g = 1 ∧ GoodP I t v) ∨ (g = 0 ∧ ¬ GoodP I t v)) → TkQ I L p t v (up2 I1 p 3 g) L1 := fun g hg => by
          refine ⟨fun o o1 o2 k => ?_, f2, e1, ?_, fun k hk => ?_, ?_⟩
          · rw [up2_ne (.inl o1)]; exact f1 o o1 o2 k
          · rw [up2_ne (.inr (by decide))]; exact e2
          · rw [up2_ne (.inl (by omega))]; exact e3 k hk
          · rw [up2_eq]; exact hg
        refine (t15_X3_take_71 (t15_X3_take_72 (t15_X3_take_73 (by first | assumption | rfl) (fun r73 => (t15_X3_take_76 (t15_X3_take_77 (by omega) (by omega) (fun c77 => (t15_X3_take_101 (t15_X3_take_102 (by first | assumption | rfl) (by first | exact Or.inl rfl | exact Or.inr rfl | assumption) (t15_X3_take_105 ?_)))) (fun c77 => (t15_X3_take_81 (t15_X3_take_82 (t15_X3_take_83 (by first | assumption | rfl) c_X3_keepsRules (by decide) (fun c83 => (t15_X3_take_86 (by decide) (fun h => absurd h (by decide)) (fun _ => (t15_X3_take_89 (t15_X3_take_90 (t15_X3_take_91 (by first | assumption | rfl) c_X3_keepsPairs (by decide) (fun c91 => (t15_X3_take_94 (by decide) (fun h => absurd h (by decide)) (fun _ => (t15_X3_take_97 (t15_X3_take_98 (t15_X3_take_102 (by first | assumption | rfl) (by first | exact Or.inl rfl | exact Or.inr rfl | assumption) (t15_X3_take_105 ?_))))))) (fun c91 => (t15_X3_take_94 (by decide) (fun _ => (t15_X3_take_101 (t15_X3_take_102 (by first | assumption | rfl) (by first | exact Or.inl rfl | exact Or.inr rfl | assumption) (t15_X3_take_105 ?_)))) (fun h => absurd rfl h))))))))) (fun c83 => (t15_X3_take_86 (by decide) (fun _ => (t15_X3_take_101 (t15_X3_take_102 (by first | assumption | rfl) (by first | exact Or.inl rfl | exact Or.inr rfl | assumption) (t15_X3_take_105 ?_)))) (fun h => absurd rfl h)))))))))))))
        -- 4 leaves
        · exact qqv (fin 0 (.inr ⟨rfl, fun h => c77 (by rw [e1]; exact h.1)⟩))
        · exact qqv (fin 1 (.inl ⟨rfl, by rw [e1] at c77; exact c77, kr.mp c83, kp.mp c91⟩))
        · exact qqv (fin 0 (.inr ⟨rfl, fun h => c91 (kp.mpr h.2.2)⟩))
        · exact qqv (fin 0 (.inr ⟨rfl, fun h => c83 (kr.mpr h.2.1)⟩))
      · have ef : fstI I1 t = fstI I t := fstI_same sm
        have eo : othI I1 t = othI I t := othI_same sm
        have t1 := tko_b (fstI I t k) rb.1
        have t2 := tko_b (othI I t k) t1.1
        have q1 : 0 ≤ L1 p 1 ∧ L1 p 1 ≤ 1000000000000000 := by rw [e1]; omega
        refine (t15_X3_take_24 (by first | assumption | rfl) c_X9_first (by decide) (fun r24 => (t15_X3_take_27 (by first | assumption | rfl) c_X3_takeOut (by decide) (fun r27 => (t15_X3_take_30 (t15_X3_take_31 (t15_X3_take_32 ?_)))))))
        -- 1 leaves
        rw [ef] at *
        rw [e1] at *
        have q2 : 0 ≤ up2 L1 p 1 (tko (fstI I t k) (tkR (fstI I t) (othI I t) v k)).1 p 1 ∧ up2 L1 p 1 (tko (fstI I t k) (tkR (fstI I t) (othI I t) v k)).1 p 1 ≤ 1000000000000000 := by rw [up2_eq]; omega
        refine (t15_X3_take_34 (by first | assumption | rfl) c_X9_other (by decide) (fun r34 => (t15_X3_take_37 (by first | assumption | rfl) c_X3_takeOut (by decide) (fun r37 => ?_))))
        -- 1 leaves
        rw [up2_eq, up2_up, eo] at *
        have e4 : (tko (fstI I t k) (tkR (fstI I t) (othI I t) v k)).2 + (tko (othI I t k) (tko (fstI I t k) (tkR (fstI I t) (othI I t) v k)).1).2 = tkC (fstI I t) (othI I t) v k := rfl
        have e5 : (tko (othI I t k) (tko (fstI I t k) (tkR (fstI I t) (othI I t) v k)).1).1 = tkR (fstI I t) (othI I t) v (k + 1) := rfl
        have cb := tkC_b (F := fstI I t) (O := othI I t) hv.1 k
        have sb := tkS_b (F := fstI I t) (O := othI I t) hv.1 k
        refine (t15_X3_take_40 (t15_X3_take_41 (t15_X3_take_43 (t15_X3_take_44 (by first | assumption | rfl) (by first | assumption | rfl) (t15_X3_take_47 (t15_X3_take_49 ?_))))))
        -- 1 leaves
        rw [e4, e5]
        have e6 : stI I1 (p + 1) 12 k (tkC (fstI I t) (othI I t) v k) p 2 = tkS (fstI I t) (othI I t) v k := by rw [stI_ne (by omega)]; exact e2
        refine (t15_X3_take_51 c_X10_store (by decide) (t15_X3_take_54 (t15_X3_take_55 (t15_X3_take_56 (by first | assumption | rfl) (fun r56 => (t15_X3_take_59 (t15_X3_take_61 (t15_X3_take_62 (by first | assumption | rfl) (by rw [e6]; omega) (t15_X3_take_65 (t15_X3_take_68 (Ev.wk (al' := [_, _, _, vu, _, vu]) ⟨.inl rfl, .inl rfl, .inl rfl, .inl rfl, .inl rfl, .inr rfl, trivial⟩ ?_)))))))))))
        -- 1 leaves
        rw [e6]
        refine ih (k + 1) _ _ vu (by omega) (by omega) (fun o o1 o2 j => ?_) (fun o o1 j => ?_) ?_ ?_ (fun j hj => ?_)
        · rw [up2_ne (.inl o1), stI_ne o2]; exact f1 o o1 o2 j
        · rw [up2_ne (.inl o1)]; exact f2 o o1 j
        · rw [up2_eq]
        · rw [up2_eq]; rfl
        · rw [up2_ne (.inl (by omega)), stI_in (by omega)]
          by_cases ej : j = k
          · subst ej; rw [up2_eq]
          · rw [up2_ne (.inr (by omega))]; exact e3 j (by omega)
  refine (t15_X3_take_0 (t15_X3_take_1 (t15_X3_take_2 (by first | assumption | rfl) (by omega) (t15_X3_take_5 (t15_X3_take_6 (t15_X3_take_7 (by first | assumption | rfl) (by omega) (t15_X3_take_10 (t15_X3_take_11 ?_))))))))
  -- 1 leaves
  refine key 13 0 _ _ vu (by omega) (by omega) (fun o o1 o2 k => ?_) (fun o o1 k => ?_) ?_ ?_ (fun j hj => by omega)
  · rw [up2_ne (.inl o1)]
  · rw [up2_ne (.inl o1)]
  · rw [up2_eq]; rfl
  · rw [up2_eq]; rfl
/-- which THINGS stand, the first k of them, as bits -/
def sbN (C : Int → Int) : Nat → Nat
  | 0 => 0
  | k + 1 => sbN C k + if 0 < C (k : Int) then 2 ^ k else 0
theorem sbN_lt (C : Int → Int) (k : Nat) : sbN C k < 2 ^ k := by
  induction k with
  | zero => exact Nat.one_pos
  | succ k ih =>
    unfold sbN
    rw [Nat.pow_succ]
    split <;> omega
theorem c_X3_standingBits {E : En} {I L : MI} {p : Nat} (hp : PtS p := by assumption) : CFi E 2 M_X3_standingBits [vr p] I L (sbN (I (p + 1)) 12 : Nat) I L := by
  obtain ⟨p1, p2, p3⟩ := id hp
  refine CM_of' (al := [vr _, vu, vu]) rfl (Nat.le_of_ble_eq_true rfl) rfl (fun hM => ?_)
  have key : ∀ (m : Nat) (k : Nat), 12 - k < m → k ≤ 12 → Ev E 2 M_X3_standingBits 4 [vr p, vi (sbN (I (p + 1)) k : Nat), vi (k : Int)] [] (G0, 0, 0) I L (ZQ E M_X3_standingBits (QFi (sbN (I (p + 1)) 12 : Nat) I L)) := by
    intro m
    induction m with
    | zero => intro k h1 h2; omega
    | succ m ih =>
      intro k k1 k2
      have lt := sbN_lt (I (p + 1)) k
      have l8 := p2_le k2
      have e1 : k < 12 → atI I (p + 1) 12 k = I (p + 1) k := fun h => atI_in (by omega)
      refine (t15_X3_standingBits_4 (t15_X3_standingBits_5 (t15_X3_standingBits_7 (by omega) (by omega) (fun c7 => (t15_X3_standingBits_33 (t15_X3_standingBits_34 ?_))) (fun c7 => (t15_X3_standingBits_10 (t15_X3_standingBits_11 (by first | assumption | rfl) (by first | assumption | rfl) (t15_X3_standingBits_14 (t15_X3_standingBits_15 c_X10_at (by decide) (fun r15 => (t15_X3_standingBits_18 (by omega) (fun c18 => (t15_X3_standingBits_27 (t15_X3_standingBits_30 ?_))) (fun c18 => ?_)))))))))))
      -- 3 leaves
      · have : k = 12 := by omega
        subst this
        exact qfi (by omega) rfl
      · rw [e1 (by omega)] at c18
        have e : sbN (I (p + 1)) (k + 1) = sbN (I (p + 1)) k := by simp [sbN, Int.not_lt.mpr c18]
        have h := ih (k + 1) (by omega) (by omega)
        rw [e] at h
        exact h
      · rw [e1 (by omega)] at c18
        have e : sbN (I (p + 1)) (k + 1) = sbN (I (p + 1)) k + 2 ^ k := by simp [sbN, c18]
        have h := ih (k + 1) (by omega) (by omega)
        rw [e] at h
        refine (t15_X3_standingBits_21 (t15_X3_standingBits_22 (t15_X3_standingBits_23 (t15_X3_standingBits_24 (b_shl k (by omega)) (t15_X3_standingBits_25 (b_orp lt) (t15_X3_standingBits_26 (t15_X3_standingBits_27 (t15_X3_standingBits_30 ?_))))))))
        -- 1 leaves
        exact h
  refine (t15_X3_standingBits_0 (t15_X3_standingBits_1 (t15_X3_standingBits_2 (t15_X3_standingBits_3 ?_))))
  -- 1 leaves
  exact key 13 0 (by omega) (by omega)
/-- some THING stands three times or more, among the first k -/
def chtN (C : Int → Int) : Nat → Bool
  | 0 => false
  | k + 1 => chtN C k || decide (3 ≤ C (k : Int))
def toldF (rest good stand : Int) (C : Int → Int) : Int := if rest ≠ 1 then 4 else if good = 0 then 3 else if stand = 1 then 2 else if chtN C 12 = true then 5 else 1
theorem toldF_r {a b c : Int} {C : Int → Int} : 1 ≤ toldF a b c C ∧ toldF a b c C ≤ 5 := by
  unfold toldF
  split
  · decide
  · split
    · decide
    · split
      · decide
      · split <;> decide
theorem chtN_m {C : Int → Int} {k : Nat} : ∀ {n : Nat}, k < n → 3 ≤ C k → chtN C n = true := by
  intro n
  induction n with
  | zero => intro h; omega
  | succ n ih =>
    intro h h3
    unfold chtN
    by_cases e : k = n
    · subst e; simp [h3]
    · rw [ih (by omega) h3]; rfl
theorem c_X3_toldAs {E : En} {I L : MI} {p : Nat} (hp : PtS p := by assumption) : CFi E 2 M_X3_toldAs [vr p] I L (toldF (L p 1) (I p 3) (I p 2) (I (p + 1))) I L := by
  obtain ⟨p1, p2, p3⟩ := id hp
  have tr := toldF_r (a := L p 1) (b := I p 3) (c := I p 2) (C := I (p + 1))
  refine CM_of' (al := [vr _, vu]) rfl (Nat.le_of_ble_eq_true rfl) rfl (fun hM => ?_)
  have key : ∀ (m : Nat) (k : Nat), 12 - k < m → k ≤ 12 → chtN (I (p + 1)) k = false → L p 1 = 1 → ¬ I p 3 = 0 → ¬ I p 2 = 1 → Ev E 2 M_X3_toldAs 32 [vr p, vi (k : Int)] [] (G0, 0, 0) I L (ZQ E M_X3_toldAs (QFi (toldF (L p 1) (I p 3) (I p 2) (I (p + 1))) I L)) := by
    intro m
    induction m with
    | zero => intro k h1 h2; omega
    | succ m ih =>
      intro k k1 k2 hc d1 d2 d3
      have e1 : k < 12 → atI I (p + 1) 12 k = I (p + 1) k := fun h => atI_in (by omega)
      refine (t15_X3_toldAs_32 (t15_X3_toldAs_33 (t15_X3_toldAs_35 (by omega) (by omega) (fun c35 => (t15_X3_toldAs_58 (t15_X3_toldAs_59 ?_))) (fun c35 => (t15_X3_toldAs_38 (t15_X3_toldAs_39 (by first | assumption | rfl) (by first | assumption | rfl) (t15_X3_toldAs_42 (t15_X3_toldAs_43 c_X10_at (by decide) (fun r43 => (t15_X3_toldAs_46 (t15_X3_toldAs_47 (by omega) (by omega) (fun c47 => (t15_X3_toldAs_52 (t15_X3_toldAs_55 ?_))) (fun c47 => (t15_X3_toldAs_50 (t15_X3_toldAs_51 ?_))))))))))))))
      -- 3 leaves
      · have : k = 12 := by omega
        subst this
        exact qfi (by decide) (by unfold toldF; rw [if_neg (by omega), if_neg d2, if_neg d3, hc]; rfl)
      · rw [e1 (by omega)] at c47
        exact ih (k + 1) (by omega) (by omega) (by unfold chtN; rw [hc]; simp; omega) d1 d2 d3
      · rw [e1 (by omega)] at c47
        have := chtN_m (C := I (p + 1)) (show k < 12 by omega) c47
        exact qfi (by decide) (by unfold toldF; rw [if_neg (by omega), if_neg d2, if_neg d3, if_pos this])
  refine (t15_X3_toldAs_0 (t15_X3_toldAs_1 (by first | assumption | rfl) (fun r1 => (t15_X3_toldAs_4 (t15_X3_toldAs_5 (by omega) (by omega) (fun c5 => (t15_X3_toldAs_11 (t15_X3_toldAs_12 (by first | assumption | rfl) (fun r12 => (t15_X3_toldAs_15 (by omega) (fun c15 => (t15_X3_toldAs_20 (t15_X3_toldAs_21 (by first | assumption | rfl) (fun r21 => (t15_X3_toldAs_24 (t15_X3_toldAs_25 (by omega) (by omega) (fun c25 => (t15_X3_toldAs_30 (t15_X3_toldAs_31 ?_))) (fun c25 => (t15_X3_toldAs_28 (t15_X3_toldAs_29 ?_))))))))) (fun c15 => (t15_X3_toldAs_18 (t15_X3_toldAs_19 ?_)))))))) (fun c5 => (t15_X3_toldAs_9 (t15_X3_toldAs_10 ?_))))))))
  -- 4 leaves
  · exact key 13 0 (by omega) (by omega) rfl c5 c15 c25
  · exact qfi (by decide) (by unfold toldF; rw [if_neg (by omega), if_neg c15, if_pos c25])
  · exact qfi (by decide) (by unfold toldF; rw [if_neg (by omega), if_pos c15])
  · exact qfi (by decide) (by unfold toldF; rw [if_pos c5])
