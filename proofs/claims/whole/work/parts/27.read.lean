theorem t27_X5_readRule_29 {E : En} {d : Nat} {κ : Kp} {I L : MI} {Z : Zt} {a0 : Nat} {b0 : Int}  (k : Ev E d M_X5_readRule 30 [vr a0, vi b0, vu, vu] [] κ I L Z) : Ev E d M_X5_readRule 29 [vr a0, vu, vu, vu] [vi b0] κ I L Z := E_istore_n dX5_readRule_29 rfl (Nat.le_of_ble_eq_true rfl) k
theorem t27_X5_readRule_30 {E : En} {d : Nat} {κ : Kp} {I L : MI} {Z : Zt} {a0 : Nat} {a1 : Int}  (k : Ev E d M_X5_readRule 31 [vr a0, vi a1, vu, vu] [vr a0] κ I L Z) : Ev E d M_X5_readRule 30 [vr a0, vi a1, vu, vu] [] κ I L Z := E_aload_n dX5_readRule_30 rfl k
theorem t27_X5_readRule_31 {E : En} {d : Nat} {κ : Kp} {I L : MI} {Z : Zt} {a0 b0 : Nat} {a1 : Int}  (k : Ev E d M_X5_readRule 32 [vr a0, vi a1, vu, vu] [vi 0, vr b0] κ I L Z) : Ev E d M_X5_readRule 31 [vr a0, vi a1, vu, vu] [vr b0] κ I L Z := E_iconst (v := 0) dX5_readRule_31 rfl k
theorem t27_X5_readRule_32 {E : En} {d : Nat} {κ : Kp} {I L : MI} {Z : Zt} {a0 b1 : Nat} {a1 b0 : Int}  (k : Ev E d M_X5_readRule 34 [vr a0, vi a1, vu, vu] [vi 9, vi b0, vr b1] κ I L Z) : Ev E d M_X5_readRule 32 [vr a0, vi a1, vu, vu] [vi b0, vr b1] κ I L Z := E_bipush (v := 9) dX5_readRule_32 rfl k
theorem t27_X5_readRule_34 {E : En} {d : Nat} {κ : Kp} {I L : MI} {Z : Zt} {a0 b2 : Nat} {a1 b0 b1 : Int}  (k : Ev E d M_X5_readRule 35 [vr a0, vi a1, vu, vu] [vi 1, vi b0, vi b1, vr b2] κ I L Z) : Ev E d M_X5_readRule 34 [vr a0, vi a1, vu, vu] [vi b0, vi b1, vr b2] κ I L Z := E_iconst (v := 1) dX5_readRule_34 rfl k
theorem t27_X5_readRule_35 {E : En} {d d' : Nat} {cs : Nat × Nat} {I L : MI} {Z : Zt} {a0 b3 : Nat} {a1 b0 b1 b2 : Int} {Q : Int → MI → MI → Prop} (hs : G0.1[b3]? = some (.inl 5)) (hM : CQi E d' M_X5_readNumber [vr b3, vi b2, vi b1, vi b0] I L Q) (hlt : d' + 1 ≤ d) (kk : ∀ (z : Int) (I' L' : MI), Q z I' L' → Ev E d M_X5_readRule 38 [vr a0, vi a1, vu, vu] [vi z] (G0, cs) I' L' Z) (hc1 : cs.1 ≤ M_X5_readRule.2.2.2.2.1 := by decide) (hc2 : cs.2 ≤ M_X5_readRule.2.2.2.2.2 := by decide) : Ev E d M_X5_readRule 35 [vr a0, vi a1, vu, vu] [vi b0, vi b1, vi b2, vr b3] (G0, cs) I L Z := E_callV (as := [vi b2, vi b1, vi b0]) (rest := []) (n := 3) hM dX5_readRule_35 wM_RX5_67 wS_X5_readNumber wV_X5_readNumber hs (by decide) rfl hlt wC_X5_readNumber wI_X5 (by decide +kernel) rfl (by decide) (Nat.le_of_ble_eq_true rfl) hc1 hc2 rfl (fun r g' I' L' h => by obtain ⟨rfl, z, rfl, h⟩ := h; exact kk z I' L' h)
theorem t27_X5_readRule_38 {E : En} {d : Nat} {κ : Kp} {I L : MI} {Z : Zt} {a0 : Nat} {a1 b0 : Int}  (k : Ev E d M_X5_readRule 39 [vr a0, vi a1, vi b0, vu] [] κ I L Z) : Ev E d M_X5_readRule 38 [vr a0, vi a1, vu, vu] [vi b0] κ I L Z := E_istore_n dX5_readRule_38 rfl (Nat.le_of_ble_eq_true rfl) k
theorem t27_X5_readRule_39 {E : En} {d : Nat} {κ : Kp} {I L : MI} {Z : Zt} {a0 : Nat} {a1 a2 : Int}  (k : Ev E d M_X5_readRule 40 [vr a0, vi a1, vi a2, vu] [vr a0] κ I L Z) : Ev E d M_X5_readRule 39 [vr a0, vi a1, vi a2, vu] [] κ I L Z := E_aload_n dX5_readRule_39 rfl k
theorem t27_X5_readRule_40 {E : En} {d : Nat} {κ : Kp} {I L : MI} {Z : Zt} {a0 b0 : Nat} {a1 a2 : Int}  (k : Ev E d M_X5_readRule 41 [vr a0, vi a1, vi a2, vu] [vi a2, vr b0] κ I L Z) : Ev E d M_X5_readRule 40 [vr a0, vi a1, vi a2, vu] [vr b0] κ I L Z := E_iload_n dX5_readRule_40 rfl k
theorem t27_X5_readRule_41 {E : En} {d : Nat} {κ : Kp} {I L : MI} {Z : Zt} {a0 b1 : Nat} {a1 a2 b0 : Int}  (k : Ev E d M_X5_readRule 43 [vr a0, vi a1, vi a2, vu] [vi 9, vi b0, vr b1] κ I L Z) : Ev E d M_X5_readRule 41 [vr a0, vi a1, vi a2, vu] [vi b0, vr b1] κ I L Z := E_bipush (v := 9) dX5_readRule_41 rfl k
theorem t27_X5_readRule_43 {E : En} {d : Nat} {κ : Kp} {I L : MI} {Z : Zt} {a0 b2 : Nat} {a1 a2 b0 b1 : Int}  (k : Ev E d M_X5_readRule 44 [vr a0, vi a1, vi a2, vu] [vi 1, vi b0, vi b1, vr b2] κ I L Z) : Ev E d M_X5_readRule 43 [vr a0, vi a1, vi a2, vu] [vi b0, vi b1, vr b2] κ I L Z := E_iconst (v := 1) dX5_readRule_43 rfl k
theorem t27_X5_readRule_44 {E : En} {d d' : Nat} {cs : Nat × Nat} {I L : MI} {Z : Zt} {a0 b3 : Nat} {a1 a2 b0 b1 b2 : Int} {Q : Int → MI → MI → Prop} (hs : G0.1[b3]? = some (.inl 5)) (hM : CQi E d' M_X5_readNumber [vr b3, vi b2, vi b1, vi b0] I L Q) (hlt : d' + 1 ≤ d) (kk : ∀ (z : Int) (I' L' : MI), Q z I' L' → Ev E d M_X5_readRule 47 [vr a0, vi a1, vi a2, vu] [vi z] (G0, cs) I' L' Z) (hc1 : cs.1 ≤ M_X5_readRule.2.2.2.2.1 := by decide) (hc2 : cs.2 ≤ M_X5_readRule.2.2.2.2.2 := by decide) : Ev E d M_X5_readRule 44 [vr a0, vi a1, vi a2, vu] [vi b0, vi b1, vi b2, vr b3] (G0, cs) I L Z := E_callV (as := [vi b2, vi b1, vi b0]) (rest := []) (n := 3) hM dX5_readRule_44 wM_RX5_67 wS_X5_readNumber wV_X5_readNumber hs (by decide) rfl hlt wC_X5_readNumber wI_X5 (by decide +kernel) rfl (by decide) (Nat.le_of_ble_eq_true rfl) hc1 hc2 rfl (fun r g' I' L' h => by obtain ⟨rfl, z, rfl, h⟩ := h; exact kk z I' L' h)
theorem t27_X5_readRule_47 {E : En} {d : Nat} {κ : Kp} {I L : MI} {Z : Zt} {a0 : Nat} {a1 a2 b0 : Int}  (k : Ev E d M_X5_readRule 48 [vr a0, vi a1, vi a2, vi b0] [] κ I L Z) : Ev E d M_X5_readRule 47 [vr a0, vi a1, vi a2, vu] [vi b0] κ I L Z := E_istore_n dX5_readRule_47 rfl (Nat.le_of_ble_eq_true rfl) k
theorem t27_X5_readRule_48 {E : En} {d : Nat} {κ : Kp} {I L : MI} {Z : Zt} {a0 : Nat} {a1 a2 a3 : Int}  (k : Ev E d M_X5_readRule 49 [vr a0, vi a1, vi a2, vi a3] [vr a0] κ I L Z) : Ev E d M_X5_readRule 48 [vr a0, vi a1, vi a2, vi a3] [] κ I L Z := E_aload_n dX5_readRule_48 rfl k
theorem t27_X5_readRule_49 {E : En} {d d' : Nat} {cs : Nat × Nat} {I L : MI} {Z : Zt} {a0 b0 : Nat} {a1 a2 a3 : Int} {Q : MI → MI → Prop} (hs : G0.1[b0]? = some (.inl 5)) (hM : CQv E d' M_X5_readSign [vr b0] I L Q) (hlt : d' + 1 ≤ d) (kk : ∀ (I' L' : MI), Q I' L' → Ev E d M_X5_readRule 52 [vr a0, vi a1, vi a2, vi a3] [] (G0, cs) I' L' Z) (hc1 : cs.1 ≤ M_X5_readRule.2.2.2.2.1 := by decide) (hc2 : cs.2 ≤ M_X5_readRule.2.2.2.2.2 := by decide) : Ev E d M_X5_readRule 49 [vr a0, vi a1, vi a2, vi a3] [vr b0] (G0, cs) I L Z := E_callV (as := []) (rest := []) (n := 0) hM dX5_readRule_49 wM_RX5_73 wS_X5_readSign wV_X5_readSign hs (by decide) rfl hlt wC_X5_readSign wI_X5 (by decide +kernel) rfl (by decide) (Nat.le_of_ble_eq_true rfl) hc1 hc2 rfl (fun r g' I' L' h => by obtain ⟨rfl, rfl, h⟩ := h; exact kk I' L' h)
theorem t27_X5_readRule_52 {E : En} {d : Nat} {κ : Kp} {I L : MI} {Z : Zt} {a0 : Nat} {a1 a2 a3 : Int}  (k : Ev E d M_X5_readRule 53 [vr a0, vi a1, vi a2, vi a3] [vr a0] κ I L Z) : Ev E d M_X5_readRule 52 [vr a0, vi a1, vi a2, vi a3] [] κ I L Z := E_aload_n dX5_readRule_52 rfl k
theorem t27_X5_readRule_53 {E : En} {d : Nat} {κ : Kp} {I L : MI} {Z : Zt} {a0 b0 : Nat} {a1 a2 a3 : Int} (hs : κ.1.1[b0]? = some (.inl 5)) (k : Ir (I b0 6) → Ev E d M_X5_readRule 56 [vr a0, vi a1, vi a2, vi a3] [vi (I b0 6)] κ I L Z) : Ev E d M_X5_readRule 53 [vr a0, vi a1, vi a2, vi a3] [vr b0] κ I L Z := E_getI (ci := 5) (n := 6) dX5_readRule_53 wF_RX5_19 (by decide) hs rfl k
theorem t27_X5_readRule_56 {E : En} {d : Nat} {κ : Kp} {I L : MI} {Z : Zt} {a0 : Nat} {a1 a2 a3 b0 : Int} (hx : Ir b0) (kt : ¬ b0 = 0 → Ev E d M_X5_readRule 69 [vr a0, vi a1, vi a2, vi a3] [] κ I L Z) (kf : b0 = 0 → Ev E d M_X5_readRule 59 [vr a0, vi a1, vi a2, vi a3] [] κ I L Z) : Ev E d M_X5_readRule 56 [vr a0, vi a1, vi a2, vi a3] [vi b0] κ I L Z := E_if_ne dX5_readRule_56 hx kt kf (by decide)
theorem t27_X5_readRule_69 {E : En} {d : Nat} {g : Geo} {I L : MI} {Q : Option AV → Geo → MI → MI → Prop} {cs : Nat × Nat} {a0 : Nat} {a1 a2 a3 : Int} (hq : Q none g I L) (h1 : cs.1 ≤ M_X5_readRule.2.2.2.2.1 := by decide) (h2 : cs.2 ≤ M_X5_readRule.2.2.2.2.2 := by decide) : Ev E d M_X5_readRule 69 [vr a0, vi a1, vi a2, vi a3] [] (g, cs) I L (ZQ E M_X5_readRule Q) := E_return rfl dX5_readRule_69 hq h1 h2
theorem t27_X5_readRule_59 {E : En} {d : Nat} {κ : Kp} {I L : MI} {Z : Zt} {a0 : Nat} {a1 a2 a3 : Int}  (k : Ev E d M_X5_readRule 60 [vr a0, vi a1, vi a2, vi a3] [vr a0] κ I L Z) : Ev E d M_X5_readRule 59 [vr a0, vi a1, vi a2, vi a3] [] κ I L Z := E_aload_n dX5_readRule_59 rfl k
theorem t27_X5_readRule_60 {E : En} {d : Nat} {κ : Kp} {I L : MI} {Z : Zt} {a0 b0 : Nat} {a1 a2 a3 : Int} {q : Nat} (hs : κ.1.1[b0]? = some (.inl 5)) (hq : κ.1.2 b0 1 = some q) (k : Ev E d M_X5_readRule 63 [vr a0, vi a1, vi a2, vi a3] [vr q] κ I L Z) : Ev E d M_X5_readRule 60 [vr a0, vi a1, vi a2, vi a3] [vr b0] κ I L Z := E_getR (ci := 5) (n := 1) dX5_readRule_60 wF_RX5_15 (by decide) hs rfl hq k
theorem t27_X5_readRule_63 {E : En} {d : Nat} {κ : Kp} {I L : MI} {Z : Zt} {a0 b0 : Nat} {a1 a2 a3 : Int}  (k : Ev E d M_X5_readRule 64 [vr a0, vi a1, vi a2, vi a3] [vi a1, vr b0] κ I L Z) : Ev E d M_X5_readRule 63 [vr a0, vi a1, vi a2, vi a3] [vr b0] κ I L Z := E_iload_n dX5_readRule_63 rfl k
theorem t27_X5_readRule_64 {E : En} {d : Nat} {κ : Kp} {I L : MI} {Z : Zt} {a0 b1 : Nat} {a1 a2 a3 b0 : Int}  (k : Ev E d M_X5_readRule 65 [vr a0, vi a1, vi a2, vi a3] [vi a2, vi b0, vr b1] κ I L Z) : Ev E d M_X5_readRule 64 [vr a0, vi a1, vi a2, vi a3] [vi b0, vr b1] κ I L Z := E_iload_n dX5_readRule_64 rfl k
theorem t27_X5_readRule_65 {E : En} {d : Nat} {κ : Kp} {I L : MI} {Z : Zt} {a0 b2 : Nat} {a1 a2 a3 b0 b1 : Int}  (k : Ev E d M_X5_readRule 66 [vr a0, vi a1, vi a2, vi a3] [vi a3, vi b0, vi b1, vr b2] κ I L Z) : Ev E d M_X5_readRule 65 [vr a0, vi a1, vi a2, vi a3] [vi b0, vi b1, vr b2] κ I L Z := E_iload_n dX5_readRule_65 rfl k
theorem t27_X5_readRule_66 {E : En} {d d' : Nat} {cs : Nat × Nat} {I L : MI} {Z : Zt} {a0 b3 : Nat} {a1 a2 a3 b0 b1 b2 : Int} {I' L' : MI} (hs : G0.1[b3]? = some (.inl 9)) (hM : CFv E d' M_X9_addRule [vr b3, vi b2, vi b1, vi b0] I L I' L') (hlt : d' + 1 ≤ d) (k : Ev E d M_X5_readRule 69 [vr a0, vi a1, vi a2, vi a3] [] (G0, cs) I' L' Z) (hc1 : cs.1 ≤ M_X5_readRule.2.2.2.2.1 := by decide) (hc2 : cs.2 ≤ M_X5_readRule.2.2.2.2.2 := by decide) : Ev E d M_X5_readRule 66 [vr a0, vi a1, vi a2, vi a3] [vi b0, vi b1, vi b2, vr b3] (G0, cs) I L Z := E_callV (as := [vi b2, vi b1, vi b0]) (rest := []) (n := 3) hM dX5_readRule_66 wM_RX5_86 wS_X9_addRule wV_X9_addRule hs (by decide) rfl hlt wC_X9_addRule wI_X9 (by decide +kernel) rfl (by decide) (Nat.le_of_ble_eq_true rfl) hc1 hc2 rfl (fun r g' I2 L2 h => by obtain ⟨rfl, rfl, rfl, rfl⟩ := h; exact k)
theorem t27_X5_readRule_0 {E : En} {d : Nat} {κ : Kp} {I L : MI} {Z : Zt} {a0 : Nat}  (k : Ev E d M_X5_readRule 1 [vr a0, vu, vu, vu] [vr a0] κ I L Z) : Ev E d M_X5_readRule 0 [vr a0, vu, vu, vu] [] κ I L Z := E_aload_n dX5_readRule_0 rfl k
theorem t27_X5_readRule_1 {E : En} {d d' : Nat} {cs : Nat × Nat} {I L : MI} {Z : Zt} {a0 b0 : Nat} {Q : MI → MI → Prop} (hs : G0.1[b0]? = some (.inl 5)) (hM : CQv E d' M_X5_next [vr b0] I L Q) (hlt : d' + 1 ≤ d) (kk : ∀ (I' L' : MI), Q I' L' → Ev E d M_X5_readRule 4 [vr a0, vu, vu, vu] [] (G0, cs) I' L' Z) (hc1 : cs.1 ≤ M_X5_readRule.2.2.2.2.1 := by decide) (hc2 : cs.2 ≤ M_X5_readRule.2.2.2.2.2 := by decide) : Ev E d M_X5_readRule 1 [vr a0, vu, vu, vu] [vr b0] (G0, cs) I L Z := E_callV (as := []) (rest := []) (n := 0) hM dX5_readRule_1 wM_RX5_31 wS_X5_next wV_X5_next hs (by decide) rfl hlt wC_X5_next wI_X5 (by decide +kernel) rfl (by decide) (Nat.le_of_ble_eq_true rfl) hc1 hc2 rfl (fun r g' I' L' h => by obtain ⟨rfl, rfl, h⟩ := h; exact kk I' L' h)
theorem t27_X5_readRule_4 {E : En} {d : Nat} {κ : Kp} {I L : MI} {Z : Zt} {a0 : Nat}  (k : Ev E d M_X5_readRule 5 [vr a0, vu, vu, vu] [vr a0] κ I L Z) : Ev E d M_X5_readRule 4 [vr a0, vu, vu, vu] [] κ I L Z := E_aload_n dX5_readRule_4 rfl k
theorem t27_X5_readRule_5 {E : En} {d : Nat} {κ : Kp} {I L : MI} {Z : Zt} {a0 b0 : Nat}  (k : Ev E d M_X5_readRule 6 [vr a0, vu, vu, vu] [vi 0, vr b0] κ I L Z) : Ev E d M_X5_readRule 5 [vr a0, vu, vu, vu] [vr b0] κ I L Z := E_iconst (v := 0) dX5_readRule_5 rfl k
theorem t27_X5_readRule_6 {E : En} {d : Nat} {κ : Kp} {I L : MI} {Z : Zt} {a0 b1 : Nat} {b0 : Int}  (k : Ev E d M_X5_readRule 7 [vr a0, vu, vu, vu] [vi 4, vi b0, vr b1] κ I L Z) : Ev E d M_X5_readRule 6 [vr a0, vu, vu, vu] [vi b0, vr b1] κ I L Z := E_iconst (v := 4) dX5_readRule_6 rfl k
theorem t27_X5_readRule_7 {E : En} {d : Nat} {κ : Kp} {I L : MI} {Z : Zt} {a0 b2 : Nat} {b0 b1 : Int}  (k : Ev E d M_X5_readRule 8 [vr a0, vu, vu, vu] [vr a0, vi b0, vi b1, vr b2] κ I L Z) : Ev E d M_X5_readRule 7 [vr a0, vu, vu, vu] [vi b0, vi b1, vr b2] κ I L Z := E_aload_n dX5_readRule_7 rfl k
theorem t27_X5_readRule_8 {E : En} {d : Nat} {κ : Kp} {I L : MI} {Z : Zt} {a0 b0 b3 : Nat} {b1 b2 : Int} {q : Nat} (hs : κ.1.1[b0]? = some (.inl 5)) (hq : κ.1.2 b0 1 = some q) (k : Ev E d M_X5_readRule 11 [vr a0, vu, vu, vu] [vr q, vi b1, vi b2, vr b3] κ I L Z) : Ev E d M_X5_readRule 8 [vr a0, vu, vu, vu] [vr b0, vi b1, vi b2, vr b3] κ I L Z := E_getR (ci := 5) (n := 1) dX5_readRule_8 wF_RX5_15 (by decide) hs rfl hq k
theorem t27_X5_readRule_11 {E : En} {d : Nat} {κ : Kp} {I L : MI} {Z : Zt} {a0 b0 b3 : Nat} {b1 b2 : Int}  (k : Ev E d M_X5_readRule 12 [vr a0, vu, vu, vu] [vr a0, vr b0, vi b1, vi b2, vr b3] κ I L Z) : Ev E d M_X5_readRule 11 [vr a0, vu, vu, vu] [vr b0, vi b1, vi b2, vr b3] κ I L Z := E_aload_n dX5_readRule_11 rfl k
theorem t27_X5_readRule_12 {E : En} {d : Nat} {κ : Kp} {I L : MI} {Z : Zt} {a0 b0 b1 b4 : Nat} {b2 b3 : Int} (hs : κ.1.1[b0]? = some (.inl 5)) (k : Ir (I b0 5) → Ev E d M_X5_readRule 15 [vr a0, vu, vu, vu] [vi (I b0 5), vr b1, vi b2, vi b3, vr b4] κ I L Z) : Ev E d M_X5_readRule 12 [vr a0, vu, vu, vu] [vr b0, vr b1, vi b2, vi b3, vr b4] κ I L Z := E_getI (ci := 5) (n := 5) dX5_readRule_12 wF_RX5_80 (by decide) hs rfl k
theorem t27_X5_readRule_15 {E : En} {d d' : Nat} {cs : Nat × Nat} {I L : MI} {Z : Zt} {a0 b1 b4 : Nat} {b0 b2 b3 : Int} {P : Prop} {I' L' : MI} (hs : G0.1[b1]? = some (.inl 9)) (hM : CB E d' M_X9_hasRule [vr b1, vi b0] I L P I' L') (hlt : d' + 1 ≤ d) (kt : P → Ev E d M_X5_readRule 18 [vr a0, vu, vu, vu] [vi 1, vi b2, vi b3, vr b4] (G0, cs) I' L' Z) (kf : ¬ P → Ev E d M_X5_readRule 18 [vr a0, vu, vu, vu] [vi 0, vi b2, vi b3, vr b4] (G0, cs) I' L' Z) (hc1 : cs.1 ≤ M_X5_readRule.2.2.2.2.1 := by decide) (hc2 : cs.2 ≤ M_X5_readRule.2.2.2.2.2 := by decide) : Ev E d M_X5_readRule 15 [vr a0, vu, vu, vu] [vi b0, vr b1, vi b2, vi b3, vr b4] (G0, cs) I L Z := E_callV (as := [vi b0]) (rest := [vi b2, vi b3, vr b4]) (n := 1) hM dX5_readRule_15 wM_RX5_83 wS_X9_hasRule wV_X9_hasRule hs (by decide) rfl hlt wC_X9_hasRule wI_X9 (by decide +kernel) rfl (by decide) (Nat.le_of_ble_eq_true rfl) hc1 hc2 rfl (fun r g' I2 L2 h => by obtain ⟨rfl, z, rfl, rfl, rfl, ⟨rfl, h⟩ | ⟨rfl, h⟩⟩ := h; exact kt h; exact kf h)
theorem t27_X5_readRule_18 {E : En} {d : Nat} {κ : Kp} {I L : MI} {Z : Zt} {a0 b3 : Nat} {b0 b1 b2 : Int} (hx : Ir b0) (kt : ¬ b0 = 0 → Ev E d M_X5_readRule 25 [vr a0, vu, vu, vu] [vi b1, vi b2, vr b3] κ I L Z) (kf : b0 = 0 → Ev E d M_X5_readRule 21 [vr a0, vu, vu, vu] [vi b1, vi b2, vr b3] κ I L Z) : Ev E d M_X5_readRule 18 [vr a0, vu, vu, vu] [vi b0, vi b1, vi b2, vr b3] κ I L Z := E_if_ne dX5_readRule_18 hx kt kf (by decide)
theorem t27_X5_readRule_25 {E : En} {d : Nat} {κ : Kp} {I L : MI} {Z : Zt} {a0 b2 : Nat} {b0 b1 : Int}  (k : Ev E d M_X5_readRule 26 [vr a0, vu, vu, vu] [vi 0, vi b0, vi b1, vr b2] κ I L Z) : Ev E d M_X5_readRule 25 [vr a0, vu, vu, vu] [vi b0, vi b1, vr b2] κ I L Z := E_iconst (v := 0) dX5_readRule_25 rfl k
theorem t27_X5_readRule_26 {E : En} {d d' : Nat} {cs : Nat × Nat} {I L : MI} {Z : Zt} {a0 b3 : Nat} {b0 b1 b2 : Int} {Q : Int → MI → MI → Prop} (hs : G0.1[b3]? = some (.inl 5)) (hM : CQi E d' M_X5_readNumber [vr b3, vi b2, vi b1, vi b0] I L Q) (hlt : d' + 1 ≤ d) (kk : ∀ (z : Int) (I' L' : MI), Q z I' L' → Ev E d M_X5_readRule 29 [vr a0, vu, vu, vu] [vi z] (G0, cs) I' L' Z) (hc1 : cs.1 ≤ M_X5_readRule.2.2.2.2.1 := by decide) (hc2 : cs.2 ≤ M_X5_readRule.2.2.2.2.2 := by decide) : Ev E d M_X5_readRule 26 [vr a0, vu, vu, vu] [vi b0, vi b1, vi b2, vr b3] (G0, cs) I L Z := E_callV (as := [vi b2, vi b1, vi b0]) (rest := []) (n := 3) hM dX5_readRule_26 wM_RX5_67 wS_X5_readNumber wV_X5_readNumber hs (by decide) rfl hlt wC_X5_readNumber wI_X5 (by decide +kernel) rfl (by decide) (Nat.le_of_ble_eq_true rfl) hc1 hc2 rfl (fun r g' I' L' h => by obtain ⟨rfl, z, rfl, h⟩ := h; exact kk z I' L' h)
theorem t27_X5_readRule_21 {E : En} {d : Nat} {κ : Kp} {I L : MI} {Z : Zt} {a0 b2 : Nat} {b0 b1 : Int}  (k : Ev E d M_X5_readRule 22 [vr a0, vu, vu, vu] [vi 1, vi b0, vi b1, vr b2] κ I L Z) : Ev E d M_X5_readRule 21 [vr a0, vu, vu, vu] [vi b0, vi b1, vr b2] κ I L Z := E_iconst (v := 1) dX5_readRule_21 rfl k
theorem t27_X5_readRule_22 {E : En} {d : Nat} {κ : Kp} {I L : MI} {Z : Zt} {a0 b3 : Nat} {b0 b1 b2 : Int}  (k : Ev E d M_X5_readRule 26 [vr a0, vu, vu, vu] [vi b0, vi b1, vi b2, vr b3] κ I L Z) : Ev E d M_X5_readRule 22 [vr a0, vu, vu, vu] [vi b0, vi b1, vi b2, vr b3] κ I L Z := E_goto dX5_readRule_22 (by decide) k
theorem t27_X5_readPair_65 {E : En} {d : Nat} {κ : Kp} {I L : MI} {Z : Zt} {a0 : Nat} {a1 b0 : Int}  (k : Ev E d M_X5_readPair 66 [vr a0, vi a1, vi b0] [] κ I L Z) : Ev E d M_X5_readPair 65 [vr a0, vi a1, vu] [vi b0] κ I L Z := E_istore_n dX5_readPair_65 rfl (Nat.le_of_ble_eq_true rfl) k
theorem t27_X5_readPair_66 {E : En} {d : Nat} {κ : Kp} {I L : MI} {Z : Zt} {a0 : Nat} {a1 a2 : Int}  (k : Ev E d M_X5_readPair 67 [vr a0, vi a1, vi a2] [vr a0] κ I L Z) : Ev E d M_X5_readPair 66 [vr a0, vi a1, vi a2] [] κ I L Z := E_aload_n dX5_readPair_66 rfl k
theorem t27_X5_readPair_67 {E : En} {d d' : Nat} {cs : Nat × Nat} {I L : MI} {Z : Zt} {a0 b0 : Nat} {a1 a2 : Int} {Q : MI → MI → Prop} (hs : G0.1[b0]? = some (.inl 5)) (hM : CQv E d' M_X5_readSign [vr b0] I L Q) (hlt : d' + 1 ≤ d) (kk : ∀ (I' L' : MI), Q I' L' → Ev E d M_X5_readPair 70 [vr a0, vi a1, vi a2] [] (G0, cs) I' L' Z) (hc1 : cs.1 ≤ M_X5_readPair.2.2.2.2.1 := by decide) (hc2 : cs.2 ≤ M_X5_readPair.2.2.2.2.2 := by decide) : Ev E d M_X5_readPair 67 [vr a0, vi a1, vi a2] [vr b0] (G0, cs) I L Z := E_callV (as := []) (rest := []) (n := 0) hM dX5_readPair_67 wM_RX5_73 wS_X5_readSign wV_X5_readSign hs (by decide) rfl hlt wC_X5_readSign wI_X5 (by decide +kernel) rfl (by decide) (Nat.le_of_ble_eq_true rfl) hc1 hc2 rfl (fun r g' I' L' h => by obtain ⟨rfl, rfl, h⟩ := h; exact kk I' L' h)
theorem t27_X5_readPair_70 {E : En} {d : Nat} {κ : Kp} {I L : MI} {Z : Zt} {a0 : Nat} {a1 a2 : Int}  (k : Ev E d M_X5_readPair 71 [vr a0, vi a1, vi a2] [vr a0] κ I L Z) : Ev E d M_X5_readPair 70 [vr a0, vi a1, vi a2] [] κ I L Z := E_aload_n dX5_readPair_70 rfl k
theorem t27_X5_readPair_71 {E : En} {d : Nat} {κ : Kp} {I L : MI} {Z : Zt} {a0 b0 : Nat} {a1 a2 : Int} (hs : κ.1.1[b0]? = some (.inl 5)) (k : Ir (I b0 6) → Ev E d M_X5_readPair 74 [vr a0, vi a1, vi a2] [vi (I b0 6)] κ I L Z) : Ev E d M_X5_readPair 71 [vr a0, vi a1, vi a2] [vr b0] κ I L Z := E_getI (ci := 5) (n := 6) dX5_readPair_71 wF_RX5_19 (by decide) hs rfl k
theorem t27_X5_readPair_74 {E : En} {d : Nat} {κ : Kp} {I L : MI} {Z : Zt} {a0 : Nat} {a1 a2 b0 : Int} (hx : Ir b0) (kt : ¬ b0 = 0 → Ev E d M_X5_readPair 86 [vr a0, vi a1, vi a2] [] κ I L Z) (kf : b0 = 0 → Ev E d M_X5_readPair 77 [vr a0, vi a1, vi a2] [] κ I L Z) : Ev E d M_X5_readPair 74 [vr a0, vi a1, vi a2] [vi b0] κ I L Z := E_if_ne dX5_readPair_74 hx kt kf (by decide)
theorem t27_X5_readPair_86 {E : En} {d : Nat} {g : Geo} {I L : MI} {Q : Option AV → Geo → MI → MI → Prop} {cs : Nat × Nat} {a0 : Nat} {a1 a2 : Int} (hq : Q none g I L) (h1 : cs.1 ≤ M_X5_readPair.2.2.2.2.1 := by decide) (h2 : cs.2 ≤ M_X5_readPair.2.2.2.2.2 := by decide) : Ev E d M_X5_readPair 86 [vr a0, vi a1, vi a2] [] (g, cs) I L (ZQ E M_X5_readPair Q) := E_return rfl dX5_readPair_86 hq h1 h2
theorem t27_X5_readPair_77 {E : En} {d : Nat} {κ : Kp} {I L : MI} {Z : Zt} {a0 : Nat} {a1 a2 : Int}  (k : Ev E d M_X5_readPair 78 [vr a0, vi a1, vi a2] [vr a0] κ I L Z) : Ev E d M_X5_readPair 77 [vr a0, vi a1, vi a2] [] κ I L Z := E_aload_n dX5_readPair_77 rfl k
theorem t27_X5_readPair_78 {E : En} {d : Nat} {κ : Kp} {I L : MI} {Z : Zt} {a0 b0 : Nat} {a1 a2 : Int} {q : Nat} (hs : κ.1.1[b0]? = some (.inl 5)) (hq : κ.1.2 b0 1 = some q) (k : Ev E d M_X5_readPair 81 [vr a0, vi a1, vi a2] [vr q] κ I L Z) : Ev E d M_X5_readPair 78 [vr a0, vi a1, vi a2] [vr b0] κ I L Z := E_getR (ci := 5) (n := 1) dX5_readPair_78 wF_RX5_15 (by decide) hs rfl hq k
theorem t27_X5_readPair_81 {E : En} {d : Nat} {κ : Kp} {I L : MI} {Z : Zt} {a0 b0 : Nat} {a1 a2 : Int}  (k : Ev E d M_X5_readPair 82 [vr a0, vi a1, vi a2] [vi a1, vr b0] κ I L Z) : Ev E d M_X5_readPair 81 [vr a0, vi a1, vi a2] [vr b0] κ I L Z := E_iload_n dX5_readPair_81 rfl k
theorem t27_X5_readPair_82 {E : En} {d : Nat} {κ : Kp} {I L : MI} {Z : Zt} {a0 b1 : Nat} {a1 a2 b0 : Int}  (k : Ev E d M_X5_readPair 83 [vr a0, vi a1, vi a2] [vi a2, vi b0, vr b1] κ I L Z) : Ev E d M_X5_readPair 82 [vr a0, vi a1, vi a2] [vi b0, vr b1] κ I L Z := E_iload_n dX5_readPair_82 rfl k
theorem t27_X5_readPair_83 {E : En} {d d' : Nat} {cs : Nat × Nat} {I L : MI} {Z : Zt} {a0 b2 : Nat} {a1 a2 b0 b1 : Int} {I' L' : MI} (hs : G0.1[b2]? = some (.inl 9)) (hM : CFv E d' M_X9_addPair [vr b2, vi b1, vi b0] I L I' L') (hlt : d' + 1 ≤ d) (k : Ev E d M_X5_readPair 86 [vr a0, vi a1, vi a2] [] (G0, cs) I' L' Z) (hc1 : cs.1 ≤ M_X5_readPair.2.2.2.2.1 := by decide) (hc2 : cs.2 ≤ M_X5_readPair.2.2.2.2.2 := by decide) : Ev E d M_X5_readPair 83 [vr a0, vi a1, vi a2] [vi b0, vi b1, vr b2] (G0, cs) I L Z := E_callV (as := [vi b1, vi b0]) (rest := []) (n := 2) hM dX5_readPair_83 wM_RX5_92 wS_X9_addPair wV_X9_addPair hs (by decide) rfl hlt wC_X9_addPair wI_X9 (by decide +kernel) rfl (by decide) (Nat.le_of_ble_eq_true rfl) hc1 hc2 rfl (fun r g' I2 L2 h => by obtain ⟨rfl, rfl, rfl, rfl⟩ := h; exact k)
theorem t27_X5_readPair_0 {E : En} {d : Nat} {κ : Kp} {I L : MI} {Z : Zt} {a0 : Nat}  (k : Ev E d M_X5_readPair 1 [vr a0, vu, vu] [vr a0] κ I L Z) : Ev E d M_X5_readPair 0 [vr a0, vu, vu] [] κ I L Z := E_aload_n dX5_readPair_0 rfl k
theorem t27_X5_readPair_1 {E : En} {d : Nat} {κ : Kp} {I L : MI} {Z : Zt} {a0 b0 : Nat} {q : Nat} (hs : κ.1.1[b0]? = some (.inl 5)) (hq : κ.1.2 b0 1 = some q) (k : Ev E d M_X5_readPair 4 [vr a0, vu, vu] [vr q] κ I L Z) : Ev E d M_X5_readPair 1 [vr a0, vu, vu] [vr b0] κ I L Z := E_getR (ci := 5) (n := 1) dX5_readPair_1 wF_RX5_15 (by decide) hs rfl hq k
theorem t27_X5_readPair_4 {E : En} {d : Nat} {κ : Kp} {I L : MI} {Z : Zt} {a0 b0 : Nat} (hs : κ.1.1[b0]? = some (.inl 9)) (k : Ir (I b0 2) → Ev E d M_X5_readPair 7 [vr a0, vu, vu] [vi (I b0 2)] κ I L Z) : Ev E d M_X5_readPair 4 [vr a0, vu, vu] [vr b0] κ I L Z := E_getI (ci := 9) (n := 2) dX5_readPair_4 wF_RX5_89 (by decide) hs rfl k
theorem t27_X5_readPair_7 {E : En} {d : Nat} {κ : Kp} {I L : MI} {Z : Zt} {a0 : Nat} {b0 : Int}  (k : Ev E d M_X5_readPair 9 [vr a0, vu, vu] [vi 8, vi b0] κ I L Z) : Ev E d M_X5_readPair 7 [vr a0, vu, vu] [vi b0] κ I L Z := E_bipush (v := 8) dX5_readPair_7 rfl k
theorem t27_X5_readPair_9 {E : En} {d : Nat} {κ : Kp} {I L : MI} {Z : Zt} {a0 : Nat} {b0 b1 : Int} (hx : Ir b1) (hy : Ir b0) (kt : b1 < b0 → Ev E d M_X5_readPair 18 [vr a0, vu, vu] [] κ I L Z) (kf : b0 ≤ b1 → Ev E d M_X5_readPair 12 [vr a0, vu, vu] [] κ I L Z) : Ev E d M_X5_readPair 9 [vr a0, vu, vu] [vi b0, vi b1] κ I L Z := E_icmp_lt dX5_readPair_9 hx hy kt kf (by decide)
theorem t27_X5_readPair_18 {E : En} {d : Nat} {κ : Kp} {I L : MI} {Z : Zt} {a0 : Nat}  (k : Ev E d M_X5_readPair 19 [vr a0, vu, vu] [vr a0] κ I L Z) : Ev E d M_X5_readPair 18 [vr a0, vu, vu] [] κ I L Z := E_aload_n dX5_readPair_18 rfl k
theorem t27_X5_readPair_19 {E : En} {d d' : Nat} {cs : Nat × Nat} {I L : MI} {Z : Zt} {a0 b0 : Nat} {Q : MI → MI → Prop} (hs : G0.1[b0]? = some (.inl 5)) (hM : CQv E d' M_X5_next [vr b0] I L Q) (hlt : d' + 1 ≤ d) (kk : ∀ (I' L' : MI), Q I' L' → Ev E d M_X5_readPair 22 [vr a0, vu, vu] [] (G0, cs) I' L' Z) (hc1 : cs.1 ≤ M_X5_readPair.2.2.2.2.1 := by decide) (hc2 : cs.2 ≤ M_X5_readPair.2.2.2.2.2 := by decide) : Ev E d M_X5_readPair 19 [vr a0, vu, vu] [vr b0] (G0, cs) I L Z := E_callV (as := []) (rest := []) (n := 0) hM dX5_readPair_19 wM_RX5_31 wS_X5_next wV_X5_next hs (by decide) rfl hlt wC_X5_next wI_X5 (by decide +kernel) rfl (by decide) (Nat.le_of_ble_eq_true rfl) hc1 hc2 rfl (fun r g' I' L' h => by obtain ⟨rfl, rfl, h⟩ := h; exact kk I' L' h)
theorem t27_X5_readPair_12 {E : En} {d : Nat} {κ : Kp} {I L : MI} {Z : Zt} {a0 : Nat}  (k : Ev E d M_X5_readPair 13 [vr a0, vu, vu] [vr a0] κ I L Z) : Ev E d M_X5_readPair 12 [vr a0, vu, vu] [] κ I L Z := E_aload_n dX5_readPair_12 rfl k
theorem t27_X5_readPair_13 {E : En} {d : Nat} {κ : Kp} {I L : MI} {Z : Zt} {a0 b0 : Nat}  (k : Ev E d M_X5_readPair 14 [vr a0, vu, vu] [vi 3, vr b0] κ I L Z) : Ev E d M_X5_readPair 13 [vr a0, vu, vu] [vr b0] κ I L Z := E_iconst (v := 3) dX5_readPair_13 rfl k
theorem t27_X5_readPair_14 {E : En} {d d' : Nat} {cs : Nat × Nat} {I L : MI} {Z : Zt} {a0 b1 : Nat} {b0 : Int} {I' L' : MI} (hs : G0.1[b1]? = some (.inl 5)) (hM : CFv E d' M_X5_fail [vr b1, vi b0] I L I' L') (hlt : d' + 1 ≤ d) (k : Ev E d M_X5_readPair 17 [vr a0, vu, vu] [] (G0, cs) I' L' Z) (hc1 : cs.1 ≤ M_X5_readPair.2.2.2.2.1 := by decide) (hc2 : cs.2 ≤ M_X5_readPair.2.2.2.2.2 := by decide) : Ev E d M_X5_readPair 14 [vr a0, vu, vu] [vi b0, vr b1] (G0, cs) I L Z := E_callV (as := [vi b0]) (rest := []) (n := 1) hM dX5_readPair_14 wM_RX5_40 wS_X5_fail wV_X5_fail hs (by decide) rfl hlt wC_X5_fail wI_X5 (by decide +kernel) rfl (by decide) (Nat.le_of_ble_eq_true rfl) hc1 hc2 rfl (fun r g' I2 L2 h => by obtain ⟨rfl, rfl, rfl, rfl⟩ := h; exact k)
theorem t27_X5_readPair_17 {E : En} {d : Nat} {g : Geo} {I L : MI} {Q : Option AV → Geo → MI → MI → Prop} {cs : Nat × Nat} {a0 : Nat} (hq : Q none g I L) (h1 : cs.1 ≤ M_X5_readPair.2.2.2.2.1 := by decide) (h2 : cs.2 ≤ M_X5_readPair.2.2.2.2.2 := by decide) : Ev E d M_X5_readPair 17 [vr a0, vu, vu] [] (g, cs) I L (ZQ E M_X5_readPair Q) := E_return rfl dX5_readPair_17 hq h1 h2
theorem t27_X5_readPair_22 {E : En} {d : Nat} {κ : Kp} {I L : MI} {Z : Zt} {a0 : Nat}  (k : Ev E d M_X5_readPair 23 [vr a0, vu, vu] [vr a0] κ I L Z) : Ev E d M_X5_readPair 22 [vr a0, vu, vu] [] κ I L Z := E_aload_n dX5_readPair_22 rfl k
theorem t27_X5_readPair_23 {E : En} {d : Nat} {κ : Kp} {I L : MI} {Z : Zt} {a0 b0 : Nat}  (k : Ev E d M_X5_readPair 24 [vr a0, vu, vu] [vi 0, vr b0] κ I L Z) : Ev E d M_X5_readPair 23 [vr a0, vu, vu] [vr b0] κ I L Z := E_iconst (v := 0) dX5_readPair_23 rfl k
theorem t27_X5_readPair_24 {E : En} {d : Nat} {κ : Kp} {I L : MI} {Z : Zt} {a0 b1 : Nat} {b0 : Int}  (k : Ev E d M_X5_readPair 25 [vr a0, vu, vu] [vr a0, vi b0, vr b1] κ I L Z) : Ev E d M_X5_readPair 24 [vr a0, vu, vu] [vi b0, vr b1] κ I L Z := E_aload_n dX5_readPair_24 rfl k
theorem t27_X5_readPair_25 {E : En} {d : Nat} {κ : Kp} {I L : MI} {Z : Zt} {a0 b0 b2 : Nat} {b1 : Int} {q : Nat} (hs : κ.1.1[b0]? = some (.inl 5)) (hq : κ.1.2 b0 1 = some q) (k : Ev E d M_X5_readPair 28 [vr a0, vu, vu] [vr q, vi b1, vr b2] κ I L Z) : Ev E d M_X5_readPair 25 [vr a0, vu, vu] [vr b0, vi b1, vr b2] κ I L Z := E_getR (ci := 5) (n := 1) dX5_readPair_25 wF_RX5_15 (by decide) hs rfl hq k
theorem t27_X5_readPair_28 {E : En} {d : Nat} {κ : Kp} {I L : MI} {Z : Zt} {a0 b0 b2 : Nat} {b1 : Int} (hs : κ.1.1[b0]? = some (.inl 9)) (k : Ir (I b0 0) → Ev E d M_X5_readPair 31 [vr a0, vu, vu] [vi (I b0 0), vi b1, vr b2] κ I L Z) : Ev E d M_X5_readPair 28 [vr a0, vu, vu] [vr b0, vi b1, vr b2] κ I L Z := E_getI (ci := 9) (n := 0) dX5_readPair_28 wF_RX5_60 (by decide) hs rfl k
theorem t27_X5_readPair_31 {E : En} {d : Nat} {κ : Kp} {I L : MI} {Z : Zt} {a0 b2 : Nat} {b0 b1 : Int}  (k : Ev E d M_X5_readPair 32 [vr a0, vu, vu] [vi 1, vi b0, vi b1, vr b2] κ I L Z) : Ev E d M_X5_readPair 31 [vr a0, vu, vu] [vi b0, vi b1, vr b2] κ I L Z := E_iconst (v := 1) dX5_readPair_31 rfl k
theorem t27_X5_readPair_32 {E : En} {d : Nat} {κ : Kp} {I L : MI} {Z : Zt} {a0 b3 : Nat} {b0 b1 b2 : Int}  (k : Ev E d M_X5_readPair 33 [vr a0, vu, vu] [vi (b1 - b0), vi b2, vr b3] κ I L Z) : Ev E d M_X5_readPair 32 [vr a0, vu, vu] [vi b0, vi b1, vi b2, vr b3] κ I L Z := E_isub dX5_readPair_32 k
theorem t27_X5_readPair_33 {E : En} {d : Nat} {κ : Kp} {I L : MI} {Z : Zt} {a0 b2 : Nat} {b0 b1 : Int}  (k : Ev E d M_X5_readPair 34 [vr a0, vu, vu] [vi 1, vi b0, vi b1, vr b2] κ I L Z) : Ev E d M_X5_readPair 33 [vr a0, vu, vu] [vi b0, vi b1, vr b2] κ I L Z := E_iconst (v := 1) dX5_readPair_33 rfl k
theorem t27_X5_readPair_34 {E : En} {d d' : Nat} {cs : Nat × Nat} {I L : MI} {Z : Zt} {a0 b3 : Nat} {b0 b1 b2 : Int} {Q : Int → MI → MI → Prop} (hs : G0.1[b3]? = some (.inl 5)) (hM : CQi E d' M_X5_readNumber [vr b3, vi b2, vi b1, vi b0] I L Q) (hlt : d' + 1 ≤ d) (kk : ∀ (z : Int) (I' L' : MI), Q z I' L' → Ev E d M_X5_readPair 37 [vr a0, vu, vu] [vi z] (G0, cs) I' L' Z) (hc1 : cs.1 ≤ M_X5_readPair.2.2.2.2.1 := by decide) (hc2 : cs.2 ≤ M_X5_readPair.2.2.2.2.2 := by decide) : Ev E d M_X5_readPair 34 [vr a0, vu, vu] [vi b0, vi b1, vi b2, vr b3] (G0, cs) I L Z := E_callV (as := [vi b2, vi b1, vi b0]) (rest := []) (n := 3) hM dX5_readPair_34 wM_RX5_67 wS_X5_readNumber wV_X5_readNumber hs (by decide) rfl hlt wC_X5_readNumber wI_X5 (by decide +kernel) rfl (by decide) (Nat.le_of_ble_eq_true rfl) hc1 hc2 rfl (fun r g' I' L' h => by obtain ⟨rfl, z, rfl, h⟩ := h; exact kk z I' L' h)
theorem t27_X5_readPair_37 {E : En} {d : Nat} {κ : Kp} {I L : MI} {Z : Zt} {a0 : Nat} {b0 : Int}  (k : Ev E d M_X5_readPair 38 [vr a0, vi b0, vu] [] κ I L Z) : Ev E d M_X5_readPair 37 [vr a0, vu, vu] [vi b0] κ I L Z := E_istore_n dX5_readPair_37 rfl (Nat.le_of_ble_eq_true rfl) k
theorem t27_X5_readPair_38 {E : En} {d : Nat} {κ : Kp} {I L : MI} {Z : Zt} {a0 : Nat} {a1 : Int}  (k : Ev E d M_X5_readPair 39 [vr a0, vi a1, vu] [vr a0] κ I L Z) : Ev E d M_X5_readPair 38 [vr a0, vi a1, vu] [] κ I L Z := E_aload_n dX5_readPair_38 rfl k
theorem t27_X5_readPair_39 {E : En} {d : Nat} {κ : Kp} {I L : MI} {Z : Zt} {a0 b0 : Nat} {a1 : Int}  (k : Ev E d M_X5_readPair 40 [vr a0, vi a1, vu] [vi 0, vr b0] κ I L Z) : Ev E d M_X5_readPair 39 [vr a0, vi a1, vu] [vr b0] κ I L Z := E_iconst (v := 0) dX5_readPair_39 rfl k
theorem t27_X5_readPair_40 {E : En} {d : Nat} {κ : Kp} {I L : MI} {Z : Zt} {a0 b1 : Nat} {a1 b0 : Int}  (k : Ev E d M_X5_readPair 41 [vr a0, vi a1, vu] [vr a0, vi b0, vr b1] κ I L Z) : Ev E d M_X5_readPair 40 [vr a0, vi a1, vu] [vi b0, vr b1] κ I L Z := E_aload_n dX5_readPair_40 rfl k
theorem t27_X5_readPair_41 {E : En} {d : Nat} {κ : Kp} {I L : MI} {Z : Zt} {a0 b0 b2 : Nat} {a1 b1 : Int} {q : Nat} (hs : κ.1.1[b0]? = some (.inl 5)) (hq : κ.1.2 b0 1 = some q) (k : Ev E d M_X5_readPair 44 [vr a0, vi a1, vu] [vr q, vi b1, vr b2] κ I L Z) : Ev E d M_X5_readPair 41 [vr a0, vi a1, vu] [vr b0, vi b1, vr b2] κ I L Z := E_getR (ci := 5) (n := 1) dX5_readPair_41 wF_RX5_15 (by decide) hs rfl hq k
theorem t27_X5_readPair_44 {E : En} {d : Nat} {κ : Kp} {I L : MI} {Z : Zt} {a0 b0 b2 : Nat} {a1 b1 : Int} (hs : κ.1.1[b0]? = some (.inl 9)) (k : Ir (I b0 0) → Ev E d M_X5_readPair 47 [vr a0, vi a1, vu] [vi (I b0 0), vi b1, vr b2] κ I L Z) : Ev E d M_X5_readPair 44 [vr a0, vi a1, vu] [vr b0, vi b1, vr b2] κ I L Z := E_getI (ci := 9) (n := 0) dX5_readPair_44 wF_RX5_60 (by decide) hs rfl k
theorem t27_X5_readPair_47 {E : En} {d : Nat} {κ : Kp} {I L : MI} {Z : Zt} {a0 b2 : Nat} {a1 b0 b1 : Int}  (k : Ev E d M_X5_readPair 48 [vr a0, vi a1, vu] [vi 1, vi b0, vi b1, vr b2] κ I L Z) : Ev E d M_X5_readPair 47 [vr a0, vi a1, vu] [vi b0, vi b1, vr b2] κ I L Z := E_iconst (v := 1) dX5_readPair_47 rfl k
theorem t27_X5_readPair_48 {E : En} {d : Nat} {κ : Kp} {I L : MI} {Z : Zt} {a0 b3 : Nat} {a1 b0 b1 b2 : Int}  (k : Ev E d M_X5_readPair 49 [vr a0, vi a1, vu] [vi (b1 - b0), vi b2, vr b3] κ I L Z) : Ev E d M_X5_readPair 48 [vr a0, vi a1, vu] [vi b0, vi b1, vi b2, vr b3] κ I L Z := E_isub dX5_readPair_48 k
theorem t27_X5_readPair_49 {E : En} {d : Nat} {κ : Kp} {I L : MI} {Z : Zt} {a0 b2 : Nat} {a1 b0 b1 : Int}  (k : Ev E d M_X5_readPair 50 [vr a0, vi a1, vu] [vr a0, vi b0, vi b1, vr b2] κ I L Z) : Ev E d M_X5_readPair 49 [vr a0, vi a1, vu] [vi b0, vi b1, vr b2] κ I L Z := E_aload_n dX5_readPair_49 rfl k
theorem t27_X5_readPair_50 {E : En} {d : Nat} {κ : Kp} {I L : MI} {Z : Zt} {a0 b0 b3 : Nat} {a1 b1 b2 : Int} (hs : κ.1.1[b0]? = some (.inl 5)) (k : Ir (I b0 5) → Ev E d M_X5_readPair 53 [vr a0, vi a1, vu] [vi (I b0 5), vi b1, vi b2, vr b3] κ I L Z) : Ev E d M_X5_readPair 50 [vr a0, vi a1, vu] [vr b0, vi b1, vi b2, vr b3] κ I L Z := E_getI (ci := 5) (n := 5) dX5_readPair_50 wF_RX5_80 (by decide) hs rfl k
theorem t27_X5_readPair_53 {E : En} {d : Nat} {κ : Kp} {I L : MI} {Z : Zt} {a0 b3 : Nat} {a1 b0 b1 b2 : Int}  (k : Ev E d M_X5_readPair 54 [vr a0, vi a1, vu] [vi a1, vi b0, vi b1, vi b2, vr b3] κ I L Z) : Ev E d M_X5_readPair 53 [vr a0, vi a1, vu] [vi b0, vi b1, vi b2, vr b3] κ I L Z := E_iload_n dX5_readPair_53 rfl k
theorem t27_X5_readPair_54 {E : En} {d : Nat} {κ : Kp} {I L : MI} {Z : Zt} {a0 b4 : Nat} {a1 b0 b1 b2 b3 : Int} (hx : Ir b1) (hy : Ir b0) (kt : b1 = b0 → Ev E d M_X5_readPair 61 [vr a0, vi a1, vu] [vi b2, vi b3, vr b4] κ I L Z) (kf : ¬ b1 = b0 → Ev E d M_X5_readPair 57 [vr a0, vi a1, vu] [vi b2, vi b3, vr b4] κ I L Z) : Ev E d M_X5_readPair 54 [vr a0, vi a1, vu] [vi b0, vi b1, vi b2, vi b3, vr b4] κ I L Z := E_icmp_eq dX5_readPair_54 hx hy kt kf (by decide)
theorem t27_X5_readPair_61 {E : En} {d : Nat} {κ : Kp} {I L : MI} {Z : Zt} {a0 b2 : Nat} {a1 b0 b1 : Int}  (k : Ev E d M_X5_readPair 62 [vr a0, vi a1, vu] [vi 0, vi b0, vi b1, vr b2] κ I L Z) : Ev E d M_X5_readPair 61 [vr a0, vi a1, vu] [vi b0, vi b1, vr b2] κ I L Z := E_iconst (v := 0) dX5_readPair_61 rfl k
theorem t27_X5_readPair_62 {E : En} {d d' : Nat} {cs : Nat × Nat} {I L : MI} {Z : Zt} {a0 b3 : Nat} {a1 b0 b1 b2 : Int} {Q : Int → MI → MI → Prop} (hs : G0.1[b3]? = some (.inl 5)) (hM : CQi E d' M_X5_readNumber [vr b3, vi b2, vi b1, vi b0] I L Q) (hlt : d' + 1 ≤ d) (kk : ∀ (z : Int) (I' L' : MI), Q z I' L' → Ev E d M_X5_readPair 65 [vr a0, vi a1, vu] [vi z] (G0, cs) I' L' Z) (hc1 : cs.1 ≤ M_X5_readPair.2.2.2.2.1 := by decide) (hc2 : cs.2 ≤ M_X5_readPair.2.2.2.2.2 := by decide) : Ev E d M_X5_readPair 62 [vr a0, vi a1, vu] [vi b0, vi b1, vi b2, vr b3] (G0, cs) I L Z := E_callV (as := [vi b2, vi b1, vi b0]) (rest := []) (n := 3) hM dX5_readPair_62 wM_RX5_67 wS_X5_readNumber wV_X5_readNumber hs (by decide) rfl hlt wC_X5_readNumber wI_X5 (by decide +kernel) rfl (by decide) (Nat.le_of_ble_eq_true rfl) hc1 hc2 rfl (fun r g' I' L' h => by obtain ⟨rfl, z, rfl, h⟩ := h; exact kk z I' L' h)
theorem t27_X5_readPair_57 {E : En} {d : Nat} {κ : Kp} {I L : MI} {Z : Zt} {a0 b2 : Nat} {a1 b0 b1 : Int}  (k : Ev E d M_X5_readPair 58 [vr a0, vi a1, vu] [vi 1, vi b0, vi b1, vr b2] κ I L Z) : Ev E d M_X5_readPair 57 [vr a0, vi a1, vu] [vi b0, vi b1, vr b2] κ I L Z := E_iconst (v := 1) dX5_readPair_57 rfl k
theorem t27_X5_readPair_58 {E : En} {d : Nat} {κ : Kp} {I L : MI} {Z : Zt} {a0 b3 : Nat} {a1 b0 b1 b2 : Int}  (k : Ev E d M_X5_readPair 62 [vr a0, vi a1, vu] [vi b0, vi b1, vi b2, vr b3] κ I L Z) : Ev E d M_X5_readPair 58 [vr a0, vi a1, vu] [vi b0, vi b1, vi b2, vr b3] κ I L Z := E_goto dX5_readPair_58 (by decide) k
/-! CONTRACTS: the reader's rules and pairs -/
theorem hsR_f {I J : MI} (h : RFr I J) {v : Int} : hsR J v ↔ hsR I v := by
  unfold hsR
  rw [h 4 (by decide)]
  simp only [h (4 + 4) (by decide)]
theorem c_X5_readRule {E : En} {I L : MI} (hr : RI (rg I) := by assumption) (hw : WfT I 4 := by assumption) : CQv E 5 M_X5_readRule [vr 13] I L (ThQ L (rulR (byI I) (rg I) I)) := by
  have hb1 : 0 ≤ I 13 3 ∧ I 13 3 ≤ 400 := hr.1
  have he1 : 0 ≤ I 13 4 ∧ I 13 4 ≤ 400 := hr.2.1
  have t4 := TgS4
  have hw1 := hw.1.2.1
  refine CM_of' (al := [vr _, vu, vu, vu]) rfl (Nat.le_of_ble_eq_true rfl) rfl (fun hM => ?_)
  have k29 : ∀ (I1 : MI) (a : Int) (f : Bool), RFr I I1 → a = numV (nextR (byI I) (rg I)) 0 4 f → rg I1 = numR (byI I) (nextR (byI I) (rg I)) 0 4 f → f = bP (¬ hsR I (pv (nextR (byI I) (rg I)))) → Ev E 5 M_X5_readRule 29 [vr 13, vu, vu, vu] [vi a] (G0, 0, 0) I1 L (ZQ E M_X5_readRule (QQv (ThQ L (rulR (byI I) (rg I) I)))) := by
    intro I1 a f f1 ha e1 hf
    have r0 := nextR_ok (s := rg I) (byI_ok I) he1
    have r1 : RI (rg I1) := by rw [e1]; exact numR_ok (byI_ok I) r0
    have ba : -1 ≤ a ∧ a ≤ 999 := by rw [ha]; exact numV_b r0
    refine (t27_X5_readRule_29 (t27_X5_readRule_30 (t27_X5_readRule_31 (t27_X5_readRule_32 (t27_X5_readRule_34 (t27_X5_readRule_35 (by first | assumption | rfl) c_X5_readNumber (by first | decide | omega) (fun z35 I35 L35 q35 => ?_)))))))
    -- 1 leaves: :call35
    obtain ⟨g1, g2, g3, g4⟩ := q35
    subst g1
    have f2 := RFr_t f1 g2
    rw [byI_f f1] at g3
    have r2 : RI (rg I35) := by rw [g3]; exact numR_ok (byI_ok I) r1
    have bl : -1 ≤ z35 ∧ z35 ≤ 999 := by rw [g4]; exact numV_b r1
    refine (t27_X5_readRule_38 (t27_X5_readRule_39 (t27_X5_readRule_40 (t27_X5_readRule_41 (t27_X5_readRule_43 (t27_X5_readRule_44 (by first | assumption | rfl) c_X5_readNumber (by first | decide | omega) (fun z44 I44 L44 q44 => ?_)))))))
    -- 1 leaves: :call44
    obtain ⟨j1, j2, j3, j4⟩ := q44
    subst j1
    have f3 := RFr_t f2 j2
    rw [byI_f f2] at j3
    have r3 : RI (rg I44) := by rw [j3]; exact numR_ok (byI_ok I) r2
    have bh : -1 ≤ z44 ∧ z44 ≤ 999 := by rw [j4]; exact numV_b r2
    refine (t27_X5_readRule_47 (t27_X5_readRule_48 (t27_X5_readRule_49 (by first | assumption | rfl) c_X5_readSign (by first | decide | omega) (fun I49 L49 q49 => ?_))))
    -- 1 leaves: :call49
    obtain ⟨m1, m2, m3⟩ := q49
    subst m1
    have f4 := RFr_t f3 m2
    rw [byI_f f3, j3] at m3
    have hth : rulR (byI I) (rg I) I = rul3 (byI I) I a z35 (rg I35) := by
      unfold rulR rul1 rul2
      rw [← hf, ← ha, ← e1, g3, g4]
      rfl
    rw [hth]
    have e6 : pf (sgnR (byI I) (numR (byI I) (rg I35) z35 9 true)) = I49 13 6 := by
      have : pf (rg I49) = I49 13 6 := rfl
      rw [← this, m3]
      rfl
    by_cases z6 : I49 13 6 = 0
    · -- all was as it has to be
      have n3 := num_good (sgn_good (e6.trans z6)).1
      rw [g3] at n3
      have n2 := num_good n3.1
      rw [e1] at n2
      have n1 := num_good n2.1
      have hno := bP_i.mp (hf.symm.trans n1.2.2.2.2.1)
      have room := Wf_room hw (v := pv (nextR (byI I) (rg I))) (by omega) hno
      have e41 : I49 4 1 = I 4 1 := f4 4 (by decide) 1
      have h0 : 0 ≤ I49 4 1 ∧ I49 4 1 < 5 := by omega
      refine (t27_X5_readRule_52 (t27_X5_readRule_53 (by first | assumption | rfl) (fun r53 => (t27_X5_readRule_56 (by omega) (fun c56 => (t27_X5_readRule_69 ?_)) (fun c56 => (t27_X5_readRule_59 (t27_X5_readRule_60 (by first | assumption | rfl) (by first | assumption | rfl) (t27_X5_readRule_63 (t27_X5_readRule_64 (t27_X5_readRule_65 (t27_X5_readRule_66 (by first | assumption | rfl) c_X9_addRule (by first | decide | omega) (t27_X5_readRule_69 ?_))))))))))))
      -- 2 leaves: 56t :ret69 | 56f :ret69
      · exact absurd z6 c56
      · refine qqv (show ThQ _ _ _ _ from ⟨rfl, ?_, ?_⟩)
        · unfold rul3; rw [if_pos (e6.trans c56), j4]; exact addR_f f4
        · unfold rul3; rw [if_pos (e6.trans c56), rg_addR]; exact m3
    · refine (t27_X5_readRule_52 (t27_X5_readRule_53 (by first | assumption | rfl) (fun r53 => (t27_X5_readRule_56 (by omega) (fun c56 => (t27_X5_readRule_69 ?_)) (fun c56 => ?_)))))
      -- 2 leaves: 56t :ret69 | 56f :->59
      · refine qqv (show ThQ _ _ _ _ from ⟨rfl, ?_, ?_⟩)
        · unfold rul3; rw [if_neg (by rw [e6]; exact c56)]; exact f4
        · unfold rul3; rw [if_neg (by rw [e6]; exact c56)]; exact m3
      · exact absurd c56 z6
  refine (t27_X5_readRule_0 (t27_X5_readRule_1 (by first | assumption | rfl) c_X5_next (by first | decide | omega) (fun I1 L1 q1 => ?_)))
  -- 1 leaves: :call1
  obtain ⟨g1, g2, g3⟩ := q1
  subst g1
  have r2 : RI (rg I1) := by rw [g3]; exact nextR_ok (byI_ok I) he1
  have e4 : I1 4 1 = I 4 1 := g2 4 (by decide) 1
  have h0 : 0 ≤ I1 4 1 ∧ I1 4 1 ≤ 5 := by omega
  have ev : pv (nextR (byI I) (rg I)) = I1 13 5 := by rw [← g3]; rfl
  have hv := r2.2.2.1
  have hv2 : -1 ≤ I1 13 5 ∧ I1 13 5 ≤ 999 := hv
  refine (t27_X5_readRule_4 (t27_X5_readRule_5 (t27_X5_readRule_6 (t27_X5_readRule_7 (t27_X5_readRule_8 (by first | assumption | rfl) (by first | assumption | rfl) (t27_X5_readRule_11 (t27_X5_readRule_12 (by first | assumption | rfl) (fun r12 => (t27_X5_readRule_15 (by first | assumption | rfl) c_X9_hasRule (by first | decide | omega) (fun c15 => (t27_X5_readRule_18 (by decide) (fun _ => (t27_X5_readRule_25 (t27_X5_readRule_26 (by first | assumption | rfl) c_X5_readNumber (by first | decide | omega) (fun z26 I26 L26 q26 => ?_)))) (fun h => absurd h (by decide)))) (fun c15 => (t27_X5_readRule_18 (by decide) (fun h => absurd rfl h) (fun _ => (t27_X5_readRule_21 (t27_X5_readRule_22 (t27_X5_readRule_26 (by first | assumption | rfl) c_X5_readNumber (by first | decide | omega) (fun z26 I26 L26 q26 => ?_))))))))))))))))
  -- 2 leaves: 15T :call26 | 15F :call26
  · obtain ⟨j1, j2, j3, j4⟩ := q26
    subst j1
    have ef : decide ((0 : Int) = 1) = bP (¬ hsR I (pv (nextR (byI I) (rg I)))) := (bP_f (fun h => h (by rw [ev]; exact (hsR_f g2).mp c15))).symm
    refine k29 _ _ _ (RFr_t g2 j2) (by rw [j4, g3]) (by rw [j3, byI_f g2, g3]) ef
  · obtain ⟨j1, j2, j3, j4⟩ := q26
    subst j1
    have ef : decide ((1 : Int) = 1) = bP (¬ hsR I (pv (nextR (byI I) (rg I)))) := (bP_t (by rw [ev]; exact fun h => c15 ((hsR_f g2).mpr h))).symm
    refine k29 _ _ _ (RFr_t g2 j2) (by rw [j4, g3]) (by rw [j3, byI_f g2, g3]) ef
theorem c_X5_readPair {E : En} {I L : MI} (hr : RI (rg I) := by assumption) (hw : WfT I 4 := by assumption) : CQv E 5 M_X5_readPair [vr 13] I L (ThQ L (parR (byI I) (rg I) I)) := by
  have hb1 : 0 ≤ I 13 3 ∧ I 13 3 ≤ 400 := hr.1
  have he1 : 0 ≤ I 13 4 ∧ I 13 4 ≤ 400 := hr.2.1
  have t4 := TgS4
  obtain ⟨hw0, -, hw2⟩ := hw.1
  refine CM_of' (al := [vr _, vu, vu]) rfl (Nat.le_of_ble_eq_true rfl) rfl (fun hM => ?_)
  have k65 : ∀ (I1 : MI) (a b : Int), RFr I I1 → RI (rg I1) → (-1 ≤ a ∧ a ≤ 999) → (-1 ≤ b ∧ b ≤ 999) → I 4 2 < 8 → parR (byI I) (rg I) I = par3 (byI I) I a b (rg I1) → Ev E 5 M_X5_readPair 65 [vr 13, vi a, vu] [vi b] (G0, 0, 0) I1 L (ZQ E M_X5_readPair (QQv (ThQ L (parR (byI I) (rg I) I)))) := by
    intro I1 a b f1 r1 ha hb h8 hth
    rw [hth]
    refine (t27_X5_readPair_65 (t27_X5_readPair_66 (t27_X5_readPair_67 (by first | assumption | rfl) c_X5_readSign (by first | decide | omega) (fun I67 L67 q67 => ?_))))
    -- 1 leaves: :call67
    obtain ⟨m1, m2, m3⟩ := q67
    subst m1
    have f4 := RFr_t f1 m2
    rw [byI_f f1] at m3
    have e6 : pf (sgnR (byI I) (rg I1)) = I67 13 6 := by
      have : pf (rg I67) = I67 13 6 := rfl
      rw [← this, m3]
    have e41 : I67 4 2 = I 4 2 := f4 4 (by decide) 2
    have h0 : 0 ≤ I67 4 2 ∧ I67 4 2 < 8 := by omega
    refine (t27_X5_readPair_70 (t27_X5_readPair_71 (by first | assumption | rfl) (fun r71 => (t27_X5_readPair_74 (by omega) (fun c74 => (t27_X5_readPair_86 ?_)) (fun c74 => (t27_X5_readPair_77 (t27_X5_readPair_78 (by first | assumption | rfl) (by first | assumption | rfl) (t27_X5_readPair_81 (t27_X5_readPair_82 (t27_X5_readPair_83 (by first | assumption | rfl) c_X9_addPair (by first | decide | omega) (t27_X5_readPair_86 ?_)))))))))))
    -- 2 leaves: 74t :ret86 | 74f :ret86
    · refine qqv (show ThQ _ _ _ _ from ⟨rfl, ?_, ?_⟩)
      · unfold par3; rw [if_neg (by rw [e6]; exact c74)]; exact f4
      · unfold par3; rw [if_neg (by rw [e6]; exact c74)]; exact m3
    · refine qqv (show ThQ _ _ _ _ from ⟨rfl, ?_, ?_⟩)
      · unfold par3; rw [if_pos (e6.trans c74)]; exact addP_f f4
      · unfold par3; rw [if_pos (e6.trans c74), rg_addP]; exact m3
  refine (t27_X5_readPair_0 (t27_X5_readPair_1 (by first | assumption | rfl) (by first | assumption | rfl) (t27_X5_readPair_4 (by first | assumption | rfl) (fun r4 => (t27_X5_readPair_7 (t27_X5_readPair_9 (by omega) (by omega) (fun c9 => (t27_X5_readPair_18 (t27_X5_readPair_19 (by first | assumption | rfl) c_X5_next (by first | decide | omega) (fun I19 L19 q19 => ?_)))) (fun c9 => (t27_X5_readPair_12 (t27_X5_readPair_13 (t27_X5_readPair_14 (by first | assumption | rfl) c_X5_fail (by first | decide | omega) (t27_X5_readPair_17 ?_)))))))))))
  -- 2 leaves: 9t :call19 | 9f :ret17
  · obtain ⟨g1, g2, g3⟩ := q19
    subst g1
    have r2 : RI (rg I19) := by rw [g3]; exact nextR_ok (byI_ok I) he1
    have e4 : I19 4 0 = I 4 0 := g2 4 (by decide) 0
    have hth : parR (byI I) (rg I) I = par1 (byI I) I (nextR (byI I) (rg I)) := by unfold parR; rw [if_pos (by omega)]
    refine (t27_X5_readPair_22 (t27_X5_readPair_23 (t27_X5_readPair_24 (t27_X5_readPair_25 (by first | assumption | rfl) (by first | assumption | rfl) (t27_X5_readPair_28 (by first | assumption | rfl) (fun r28 => (t27_X5_readPair_31 (t27_X5_readPair_32 (t27_X5_readPair_33 (t27_X5_readPair_34 (by first | assumption | rfl) c_X5_readNumber (by first | decide | omega) (fun z34 I34 L34 q34 => ?_)))))))))))
    -- 1 leaves: :call34
    obtain ⟨j1, j2, j3, j4⟩ := q34
    subst j1
    have f2 := RFr_t g2 j2
    have r3 : RI (rg I34) := by rw [j3]; exact numR_ok (byI_ok I19) r2
    rw [byI_f g2, g3, e4] at j3
    have bz : -1 ≤ z34 ∧ z34 ≤ 999 := by rw [j4]; exact numV_b r2
    rw [g3, e4] at j4
    have e5 : I34 4 0 = I 4 0 := f2 4 (by decide) 0
    have ev : pv (rg I34) = I34 13 5 := rfl
    have hth2 : parR (byI I) (rg I) I = par2 (byI I) I z34 (rg I34) := by rw [hth, j3, j4]; rfl
    refine (t27_X5_readPair_37 (t27_X5_readPair_38 (t27_X5_readPair_39 (t27_X5_readPair_40 (t27_X5_readPair_41 (by first | assumption | rfl) (by first | assumption | rfl) (t27_X5_readPair_44 (by first | assumption | rfl) (fun r44 => (t27_X5_readPair_47 (t27_X5_readPair_48 (t27_X5_readPair_49 (t27_X5_readPair_50 (by first | assumption | rfl) (fun r50 => (t27_X5_readPair_53 (t27_X5_readPair_54 (by omega) (by omega) (fun c54 => (t27_X5_readPair_61 (t27_X5_readPair_62 (by first | assumption | rfl) c_X5_readNumber (by first | decide | omega) (fun z62 I62 L62 q62 => ?_)))) (fun c54 => (t27_X5_readPair_57 (t27_X5_readPair_58 (t27_X5_readPair_62 (by first | assumption | rfl) c_X5_readNumber (by first | decide | omega) (fun z62 I62 L62 q62 => ?_)))))))))))))))))))
    -- 2 leaves: 54t :call62 | 54f :call62
    · obtain ⟨n1, n2, n3, n4⟩ := q62
      subst n1
      have ef : bP (pv (rg I34) ≠ z34) = decide ((0 : Int) = 1) := bP_f (fun h => h c54)
      rw [byI_f f2, ← ef, e5] at n3
      rw [← ef, e5] at n4
      refine k65 _ _ _ (RFr_t f2 n2) ?_ bz ?_ (by omega) (by rw [hth2, n3, n4]; rfl)
      · rw [n3]; exact numR_ok (byI_ok I) r3
      · rw [n4]; exact numV_b r3
    · obtain ⟨n1, n2, n3, n4⟩ := q62
      subst n1
      have ef : bP (pv (rg I34) ≠ z34) = decide ((1 : Int) = 1) := bP_t c54
      rw [byI_f f2, ← ef, e5] at n3
      rw [← ef, e5] at n4
      refine k65 _ _ _ (RFr_t f2 n2) ?_ bz ?_ (by omega) (by rw [hth2, n3, n4]; rfl)
      · rw [n3]; exact numR_ok (byI_ok I) r3
      · rw [n4]; exact numV_b r3
  · refine qqv (show ThQ _ _ _ _ from ⟨rfl, ?_, ?_⟩)
    · unfold parR; rw [if_neg (by omega)]; exact fail_fr
    · unfold parR; rw [if_neg (by omega)]; exact fail_rg
