theorem t26_X5_readThing_72 {E : En} {d : Nat} {κ : Kp} {I L : MI} {Z : Zt} {a0 : Nat} {a1 a2 : Int}  (k : Ev E d M_X5_readThing 73 [vr a0, vi a1, vi a2, vu] [vr a0] κ I L Z) : Ev E d M_X5_readThing 72 [vr a0, vi a1, vi a2, vu] [] κ I L Z := E_aload_n dX5_readThing_72 rfl k
theorem t26_X5_readThing_73 {E : En} {d : Nat} {κ : Kp} {I L : MI} {Z : Zt} {a0 b0 : Nat} {a1 a2 : Int}  (k : Ev E d M_X5_readThing 74 [vr a0, vi a1, vi a2, vu] [vi 0, vr b0] κ I L Z) : Ev E d M_X5_readThing 73 [vr a0, vi a1, vi a2, vu] [vr b0] κ I L Z := E_iconst (v := 0) dX5_readThing_73 rfl k
theorem t26_X5_readThing_74 {E : En} {d : Nat} {κ : Kp} {I L : MI} {Z : Zt} {a0 b1 : Nat} {a1 a2 b0 : Int}  (k : Ev E d M_X5_readThing 75 [vr a0, vi a1, vi a2, vu] [vi 4, vi b0, vr b1] κ I L Z) : Ev E d M_X5_readThing 74 [vr a0, vi a1, vi a2, vu] [vi b0, vr b1] κ I L Z := E_iconst (v := 4) dX5_readThing_74 rfl k
theorem t26_X5_readThing_75 {E : En} {d : Nat} {κ : Kp} {I L : MI} {Z : Zt} {a0 b2 : Nat} {a1 a2 b0 b1 : Int}  (k : Ev E d M_X5_readThing 76 [vr a0, vi a1, vi a2, vu] [vi 1, vi b0, vi b1, vr b2] κ I L Z) : Ev E d M_X5_readThing 75 [vr a0, vi a1, vi a2, vu] [vi b0, vi b1, vr b2] κ I L Z := E_iconst (v := 1) dX5_readThing_75 rfl k
theorem t26_X5_readThing_76 {E : En} {d d' : Nat} {cs : Nat × Nat} {I L : MI} {Z : Zt} {a0 b3 : Nat} {a1 a2 b0 b1 b2 : Int} {Q : Int → MI → MI → Prop} (hs : G0.1[b3]? = some (.inl 5)) (hM : CQi E d' M_X5_readNumber [vr b3, vi b2, vi b1, vi b0] I L Q) (hlt : d' + 1 ≤ d) (kk : ∀ (z : Int) (I' L' : MI), Q z I' L' → Ev E d M_X5_readThing 79 [vr a0, vi a1, vi a2, vu] [vi z] (G0, cs) I' L' Z) (hc1 : cs.1 ≤ M_X5_readThing.2.2.2.2.1 := by decide) (hc2 : cs.2 ≤ M_X5_readThing.2.2.2.2.2 := by decide) : Ev E d M_X5_readThing 76 [vr a0, vi a1, vi a2, vu] [vi b0, vi b1, vi b2, vr b3] (G0, cs) I L Z := E_callV (as := [vi b2, vi b1, vi b0]) (rest := []) (n := 3) hM dX5_readThing_76 wM_RX5_67 wS_X5_readNumber wV_X5_readNumber hs (by decide) rfl hlt wC_X5_readNumber wI_X5 (by decide +kernel) rfl (by decide) (Nat.le_of_ble_eq_true rfl) hc1 hc2 rfl (fun r g' I' L' h => by obtain ⟨rfl, z, rfl, h⟩ := h; exact kk z I' L' h)
theorem t26_X5_readThing_79 {E : En} {d : Nat} {κ : Kp} {I L : MI} {Z : Zt} {a0 : Nat} {a1 a2 b0 : Int}  (k : Ev E d M_X5_readThing 80 [vr a0, vi a1, vi a2, vi b0] [] κ I L Z) : Ev E d M_X5_readThing 79 [vr a0, vi a1, vi a2, vu] [vi b0] κ I L Z := E_istore_n dX5_readThing_79 rfl (Nat.le_of_ble_eq_true rfl) k
theorem t26_X5_readThing_80 {E : En} {d : Nat} {κ : Kp} {I L : MI} {Z : Zt} {a0 : Nat} {a1 a2 a3 : Int}  (k : Ev E d M_X5_readThing 81 [vr a0, vi a1, vi a2, vi a3] [vr a0] κ I L Z) : Ev E d M_X5_readThing 80 [vr a0, vi a1, vi a2, vi a3] [] κ I L Z := E_aload_n dX5_readThing_80 rfl k
theorem t26_X5_readThing_81 {E : En} {d d' : Nat} {cs : Nat × Nat} {I L : MI} {Z : Zt} {a0 b0 : Nat} {a1 a2 a3 : Int} {Q : MI → MI → Prop} (hs : G0.1[b0]? = some (.inl 5)) (hM : CQv E d' M_X5_readSign [vr b0] I L Q) (hlt : d' + 1 ≤ d) (kk : ∀ (I' L' : MI), Q I' L' → Ev E d M_X5_readThing 84 [vr a0, vi a1, vi a2, vi a3] [] (G0, cs) I' L' Z) (hc1 : cs.1 ≤ M_X5_readThing.2.2.2.2.1 := by decide) (hc2 : cs.2 ≤ M_X5_readThing.2.2.2.2.2 := by decide) : Ev E d M_X5_readThing 81 [vr a0, vi a1, vi a2, vi a3] [vr b0] (G0, cs) I L Z := E_callV (as := []) (rest := []) (n := 0) hM dX5_readThing_81 wM_RX5_73 wS_X5_readSign wV_X5_readSign hs (by decide) rfl hlt wC_X5_readSign wI_X5 (by decide +kernel) rfl (by decide) (Nat.le_of_ble_eq_true rfl) hc1 hc2 rfl (fun r g' I' L' h => by obtain ⟨rfl, rfl, h⟩ := h; exact kk I' L' h)
theorem t26_X5_readThing_84 {E : En} {d : Nat} {κ : Kp} {I L : MI} {Z : Zt} {a0 : Nat} {a1 a2 a3 : Int}  (k : Ev E d M_X5_readThing 85 [vr a0, vi a1, vi a2, vi a3] [vr a0] κ I L Z) : Ev E d M_X5_readThing 84 [vr a0, vi a1, vi a2, vi a3] [] κ I L Z := E_aload_n dX5_readThing_84 rfl k
theorem t26_X5_readThing_85 {E : En} {d : Nat} {κ : Kp} {I L : MI} {Z : Zt} {a0 b0 : Nat} {a1 a2 a3 : Int} (hs : κ.1.1[b0]? = some (.inl 5)) (k : Ir (I b0 6) → Ev E d M_X5_readThing 88 [vr a0, vi a1, vi a2, vi a3] [vi (I b0 6)] κ I L Z) : Ev E d M_X5_readThing 85 [vr a0, vi a1, vi a2, vi a3] [vr b0] κ I L Z := E_getI (ci := 5) (n := 6) dX5_readThing_85 wF_RX5_19 (by decide) hs rfl k
theorem t26_X5_readThing_88 {E : En} {d : Nat} {κ : Kp} {I L : MI} {Z : Zt} {a0 : Nat} {a1 a2 a3 b0 : Int} (hx : Ir b0) (kt : ¬ b0 = 0 → Ev E d M_X5_readThing 101 [vr a0, vi a1, vi a2, vi a3] [] κ I L Z) (kf : b0 = 0 → Ev E d M_X5_readThing 91 [vr a0, vi a1, vi a2, vi a3] [] κ I L Z) : Ev E d M_X5_readThing 88 [vr a0, vi a1, vi a2, vi a3] [vi b0] κ I L Z := E_if_ne dX5_readThing_88 hx kt kf (by decide)
theorem t26_X5_readThing_101 {E : En} {d : Nat} {g : Geo} {I L : MI} {Q : Option AV → Geo → MI → MI → Prop} {cs : Nat × Nat} {a0 : Nat} {a1 a2 a3 : Int} (hq : Q none g I L) (h1 : cs.1 ≤ M_X5_readThing.2.2.2.2.1 := by decide) (h2 : cs.2 ≤ M_X5_readThing.2.2.2.2.2 := by decide) : Ev E d M_X5_readThing 101 [vr a0, vi a1, vi a2, vi a3] [] (g, cs) I L (ZQ E M_X5_readThing Q) := E_return rfl dX5_readThing_101 hq h1 h2
theorem t26_X5_readThing_91 {E : En} {d : Nat} {κ : Kp} {I L : MI} {Z : Zt} {a0 : Nat} {a1 a2 a3 : Int}  (k : Ev E d M_X5_readThing 92 [vr a0, vi a1, vi a2, vi a3] [vr a0] κ I L Z) : Ev E d M_X5_readThing 91 [vr a0, vi a1, vi a2, vi a3] [] κ I L Z := E_aload_n dX5_readThing_91 rfl k
theorem t26_X5_readThing_92 {E : En} {d : Nat} {κ : Kp} {I L : MI} {Z : Zt} {a0 b0 : Nat} {a1 a2 a3 : Int} {q : Nat} (hs : κ.1.1[b0]? = some (.inl 5)) (hq : κ.1.2 b0 1 = some q) (k : Ev E d M_X5_readThing 95 [vr a0, vi a1, vi a2, vi a3] [vr q] κ I L Z) : Ev E d M_X5_readThing 92 [vr a0, vi a1, vi a2, vi a3] [vr b0] κ I L Z := E_getR (ci := 5) (n := 1) dX5_readThing_92 wF_RX5_15 (by decide) hs rfl hq k
theorem t26_X5_readThing_95 {E : En} {d : Nat} {κ : Kp} {I L : MI} {Z : Zt} {a0 b0 : Nat} {a1 a2 a3 : Int}  (k : Ev E d M_X5_readThing 96 [vr a0, vi a1, vi a2, vi a3] [vi a1, vr b0] κ I L Z) : Ev E d M_X5_readThing 95 [vr a0, vi a1, vi a2, vi a3] [vr b0] κ I L Z := E_iload_n dX5_readThing_95 rfl k
theorem t26_X5_readThing_96 {E : En} {d : Nat} {κ : Kp} {I L : MI} {Z : Zt} {a0 b1 : Nat} {a1 a2 a3 b0 : Int}  (k : Ev E d M_X5_readThing 97 [vr a0, vi a1, vi a2, vi a3] [vi a2, vi b0, vr b1] κ I L Z) : Ev E d M_X5_readThing 96 [vr a0, vi a1, vi a2, vi a3] [vi b0, vr b1] κ I L Z := E_iload_n dX5_readThing_96 rfl k
theorem t26_X5_readThing_97 {E : En} {d : Nat} {κ : Kp} {I L : MI} {Z : Zt} {a0 b2 : Nat} {a1 a2 a3 b0 b1 : Int}  (k : Ev E d M_X5_readThing 98 [vr a0, vi a1, vi a2, vi a3] [vi a3, vi b0, vi b1, vr b2] κ I L Z) : Ev E d M_X5_readThing 97 [vr a0, vi a1, vi a2, vi a3] [vi b0, vi b1, vr b2] κ I L Z := E_iload_n dX5_readThing_97 rfl k
theorem t26_X5_readThing_98 {E : En} {d d' : Nat} {cs : Nat × Nat} {I L : MI} {Z : Zt} {a0 b3 : Nat} {a1 a2 a3 b0 b1 b2 : Int} {I' L' : MI} (hs : G0.1[b3]? = some (.inl 9)) (hM : CFv E d' M_X9_addThing [vr b3, vi b2, vi b1, vi b0] I L I' L') (hlt : d' + 1 ≤ d) (k : Ev E d M_X5_readThing 101 [vr a0, vi a1, vi a2, vi a3] [] (G0, cs) I' L' Z) (hc1 : cs.1 ≤ M_X5_readThing.2.2.2.2.1 := by decide) (hc2 : cs.2 ≤ M_X5_readThing.2.2.2.2.2 := by decide) : Ev E d M_X5_readThing 98 [vr a0, vi a1, vi a2, vi a3] [vi b0, vi b1, vi b2, vr b3] (G0, cs) I L Z := E_callV (as := [vi b2, vi b1, vi b0]) (rest := []) (n := 3) hM dX5_readThing_98 wM_RX5_76 wS_X9_addThing wV_X9_addThing hs (by decide) rfl hlt wC_X9_addThing wI_X9 (by decide +kernel) rfl (by decide) (Nat.le_of_ble_eq_true rfl) hc1 hc2 rfl (fun r g' I2 L2 h => by obtain ⟨rfl, rfl, rfl, rfl⟩ := h; exact k)
theorem t26_X5_readThing_35 {E : En} {d : Nat} {κ : Kp} {I L : MI} {Z : Zt} {a0 : Nat} {b0 : Int}  (k : Ev E d M_X5_readThing 36 [vr a0, vi b0, vu, vu] [] κ I L Z) : Ev E d M_X5_readThing 35 [vr a0, vu, vu, vu] [vi b0] κ I L Z := E_istore_n dX5_readThing_35 rfl (Nat.le_of_ble_eq_true rfl) k
theorem t26_X5_readThing_36 {E : En} {d : Nat} {κ : Kp} {I L : MI} {Z : Zt} {a0 : Nat} {a1 : Int}  (k : Ev E d M_X5_readThing 37 [vr a0, vi a1, vu, vu] [vi 0] κ I L Z) : Ev E d M_X5_readThing 36 [vr a0, vi a1, vu, vu] [] κ I L Z := E_iconst (v := 0) dX5_readThing_36 rfl k
theorem t26_X5_readThing_37 {E : En} {d : Nat} {κ : Kp} {I L : MI} {Z : Zt} {a0 : Nat} {a1 b0 : Int}  (k : Ev E d M_X5_readThing 38 [vr a0, vi a1, vi b0, vu] [] κ I L Z) : Ev E d M_X5_readThing 37 [vr a0, vi a1, vu, vu] [vi b0] κ I L Z := E_istore_n dX5_readThing_37 rfl (Nat.le_of_ble_eq_true rfl) k
theorem t26_X5_readThing_38 {E : En} {d : Nat} {κ : Kp} {I L : MI} {Z : Zt} {a0 : Nat} {a1 a2 : Int}  (k : Ev E d M_X5_readThing 39 [vr a0, vi a1, vi a2, vu] [vr a0] κ I L Z) : Ev E d M_X5_readThing 38 [vr a0, vi a1, vi a2, vu] [] κ I L Z := E_aload_n dX5_readThing_38 rfl k
theorem t26_X5_readThing_39 {E : En} {d : Nat} {κ : Kp} {I L : MI} {Z : Zt} {a0 b0 : Nat} {a1 a2 : Int} (hs : κ.1.1[b0]? = some (.inl 5)) (k : Ir (I b0 6) → Ev E d M_X5_readThing 42 [vr a0, vi a1, vi a2, vu] [vi (I b0 6)] κ I L Z) : Ev E d M_X5_readThing 39 [vr a0, vi a1, vi a2, vu] [vr b0] κ I L Z := E_getI (ci := 5) (n := 6) dX5_readThing_39 wF_RX5_19 (by decide) hs rfl k
theorem t26_X5_readThing_42 {E : En} {d : Nat} {κ : Kp} {I L : MI} {Z : Zt} {a0 : Nat} {a1 a2 b0 : Int} (hx : Ir b0) (kt : ¬ b0 = 0 → Ev E d M_X5_readThing 72 [vr a0, vi a1, vi a2, vu] [] κ I L Z) (kf : b0 = 0 → Ev E d M_X5_readThing 45 [vr a0, vi a1, vi a2, vu] [] κ I L Z) : Ev E d M_X5_readThing 42 [vr a0, vi a1, vi a2, vu] [vi b0] κ I L Z := E_if_ne dX5_readThing_42 hx kt kf (by decide)
theorem t26_X5_readThing_45 {E : En} {d : Nat} {κ : Kp} {I L : MI} {Z : Zt} {a0 : Nat} {a1 a2 : Int}  (k : Ev E d M_X5_readThing 46 [vr a0, vi a1, vi a2, vu] [vr a0] κ I L Z) : Ev E d M_X5_readThing 45 [vr a0, vi a1, vi a2, vu] [] κ I L Z := E_aload_n dX5_readThing_45 rfl k
theorem t26_X5_readThing_46 {E : En} {d : Nat} {κ : Kp} {I L : MI} {Z : Zt} {a0 b0 : Nat} {a1 a2 : Int}  (k : Ev E d M_X5_readThing 48 [vr a0, vi a1, vi a2, vu] [vr 1008, vr b0] κ I L Z) : Ev E d M_X5_readThing 46 [vr a0, vi a1, vi a2, vu] [vr b0] κ I L Z := E_ldcS (j := 8) (tx := "or") dX5_readThing_46 rfl (by decide) k
theorem t26_X5_readThing_48 {E : En} {d d' : Nat} {cs : Nat × Nat} {I L : MI} {Z : Zt} {a0 b0 b1 : Nat} {a1 a2 : Int} {P : Prop} {I' L' : MI} (hs : G0.1[b1]? = some (.inl 5)) (hM : CB E d' M_X5_isWord [vr b1, vr b0] I L P I' L') (hlt : d' + 1 ≤ d) (kt : P → Ev E d M_X5_readThing 51 [vr a0, vi a1, vi a2, vu] [vi 1] (G0, cs) I' L' Z) (kf : ¬ P → Ev E d M_X5_readThing 51 [vr a0, vi a1, vi a2, vu] [vi 0] (G0, cs) I' L' Z) (hc1 : cs.1 ≤ M_X5_readThing.2.2.2.2.1 := by decide) (hc2 : cs.2 ≤ M_X5_readThing.2.2.2.2.2 := by decide) : Ev E d M_X5_readThing 48 [vr a0, vi a1, vi a2, vu] [vr b0, vr b1] (G0, cs) I L Z := E_callV (as := [vr b0]) (rest := []) (n := 1) hM dX5_readThing_48 wM_RX5_36 wS_X5_isWord wV_X5_isWord hs (by decide) rfl hlt wC_X5_isWord wI_X5 (by decide +kernel) rfl (by decide) (Nat.le_of_ble_eq_true rfl) hc1 hc2 rfl (fun r g' I2 L2 h => by obtain ⟨rfl, z, rfl, rfl, rfl, ⟨rfl, h⟩ | ⟨rfl, h⟩⟩ := h; exact kt h; exact kf h)
theorem t26_X5_readThing_51 {E : En} {d : Nat} {κ : Kp} {I L : MI} {Z : Zt} {a0 : Nat} {a1 a2 b0 : Int} (hx : Ir b0) (kt : b0 = 0 → Ev E d M_X5_readThing 72 [vr a0, vi a1, vi a2, vu] [] κ I L Z) (kf : ¬ b0 = 0 → Ev E d M_X5_readThing 54 [vr a0, vi a1, vi a2, vu] [] κ I L Z) : Ev E d M_X5_readThing 51 [vr a0, vi a1, vi a2, vu] [vi b0] κ I L Z := E_if_eq dX5_readThing_51 hx kt kf (by decide)
theorem t26_X5_readThing_54 {E : En} {d : Nat} {κ : Kp} {I L : MI} {Z : Zt} {a0 : Nat} {a1 a2 : Int}  (k : Ev E d M_X5_readThing 55 [vr a0, vi a1, vi a2, vu] [vr a0] κ I L Z) : Ev E d M_X5_readThing 54 [vr a0, vi a1, vi a2, vu] [] κ I L Z := E_aload_n dX5_readThing_54 rfl k
theorem t26_X5_readThing_55 {E : En} {d d' : Nat} {cs : Nat × Nat} {I L : MI} {Z : Zt} {a0 b0 : Nat} {a1 a2 : Int} {Q : MI → MI → Prop} (hs : G0.1[b0]? = some (.inl 5)) (hM : CQv E d' M_X5_next [vr b0] I L Q) (hlt : d' + 1 ≤ d) (kk : ∀ (I' L' : MI), Q I' L' → Ev E d M_X5_readThing 58 [vr a0, vi a1, vi a2, vu] [] (G0, cs) I' L' Z) (hc1 : cs.1 ≤ M_X5_readThing.2.2.2.2.1 := by decide) (hc2 : cs.2 ≤ M_X5_readThing.2.2.2.2.2 := by decide) : Ev E d M_X5_readThing 55 [vr a0, vi a1, vi a2, vu] [vr b0] (G0, cs) I L Z := E_callV (as := []) (rest := []) (n := 0) hM dX5_readThing_55 wM_RX5_31 wS_X5_next wV_X5_next hs (by decide) rfl hlt wC_X5_next wI_X5 (by decide +kernel) rfl (by decide) (Nat.le_of_ble_eq_true rfl) hc1 hc2 rfl (fun r g' I' L' h => by obtain ⟨rfl, rfl, h⟩ := h; exact kk I' L' h)
theorem t26_X5_readThing_58 {E : En} {d : Nat} {κ : Kp} {I L : MI} {Z : Zt} {a0 : Nat} {a1 a2 : Int}  (k : Ev E d M_X5_readThing 59 [vr a0, vi a1, vi a2, vu] [vr a0] κ I L Z) : Ev E d M_X5_readThing 58 [vr a0, vi a1, vi a2, vu] [] κ I L Z := E_aload_n dX5_readThing_58 rfl k
theorem t26_X5_readThing_59 {E : En} {d : Nat} {κ : Kp} {I L : MI} {Z : Zt} {a0 b0 : Nat} {a1 a2 : Int}  (k : Ev E d M_X5_readThing 60 [vr a0, vi a1, vi a2, vu] [vi 2, vr b0] κ I L Z) : Ev E d M_X5_readThing 59 [vr a0, vi a1, vi a2, vu] [vr b0] κ I L Z := E_iconst (v := 2) dX5_readThing_59 rfl k
theorem t26_X5_readThing_60 {E : En} {d : Nat} {κ : Kp} {I L : MI} {Z : Zt} {a0 b1 : Nat} {a1 a2 b0 : Int}  (k : Ev E d M_X5_readThing 63 [vr a0, vi a1, vi a2, vu] [vi 199, vi b0, vr b1] κ I L Z) : Ev E d M_X5_readThing 60 [vr a0, vi a1, vi a2, vu] [vi b0, vr b1] κ I L Z := E_sipush (v := 199) dX5_readThing_60 rfl k
theorem t26_X5_readThing_63 {E : En} {d : Nat} {κ : Kp} {I L : MI} {Z : Zt} {a0 b2 : Nat} {a1 a2 b0 b1 : Int}  (k : Ev E d M_X5_readThing 64 [vr a0, vi a1, vi a2, vu] [vr a0, vi b0, vi b1, vr b2] κ I L Z) : Ev E d M_X5_readThing 63 [vr a0, vi a1, vi a2, vu] [vi b0, vi b1, vr b2] κ I L Z := E_aload_n dX5_readThing_63 rfl k
theorem t26_X5_readThing_64 {E : En} {d : Nat} {κ : Kp} {I L : MI} {Z : Zt} {a0 b0 b3 : Nat} {a1 a2 b1 b2 : Int}  (k : Ev E d M_X5_readThing 65 [vr a0, vi a1, vi a2, vu] [vi a1, vr b0, vi b1, vi b2, vr b3] κ I L Z) : Ev E d M_X5_readThing 64 [vr a0, vi a1, vi a2, vu] [vr b0, vi b1, vi b2, vr b3] κ I L Z := E_iload_n dX5_readThing_64 rfl k
theorem t26_X5_readThing_65 {E : En} {d d' : Nat} {cs : Nat × Nat} {I L : MI} {Z : Zt} {a0 b1 b4 : Nat} {a1 a2 b0 b2 b3 : Int} {P : Prop} {I' L' : MI} (hs : G0.1[b1]? = some (.inl 5)) (hM : CB E d' M_X5_isNew [vr b1, vi b0] I L P I' L') (hlt : d' + 1 ≤ d) (kt : P → Ev E d M_X5_readThing 68 [vr a0, vi a1, vi a2, vu] [vi 1, vi b2, vi b3, vr b4] (G0, cs) I' L' Z) (kf : ¬ P → Ev E d M_X5_readThing 68 [vr a0, vi a1, vi a2, vu] [vi 0, vi b2, vi b3, vr b4] (G0, cs) I' L' Z) (hc1 : cs.1 ≤ M_X5_readThing.2.2.2.2.1 := by decide) (hc2 : cs.2 ≤ M_X5_readThing.2.2.2.2.2 := by decide) : Ev E d M_X5_readThing 65 [vr a0, vi a1, vi a2, vu] [vi b0, vr b1, vi b2, vi b3, vr b4] (G0, cs) I L Z := E_callV (as := [vi b0]) (rest := [vi b2, vi b3, vr b4]) (n := 1) hM dX5_readThing_65 wM_RX5_63 wS_X5_isNew wV_X5_isNew hs (by decide) rfl hlt wC_X5_isNew wI_X5 (by decide +kernel) rfl (by decide) (Nat.le_of_ble_eq_true rfl) hc1 hc2 rfl (fun r g' I2 L2 h => by obtain ⟨rfl, z, rfl, rfl, rfl, ⟨rfl, h⟩ | ⟨rfl, h⟩⟩ := h; exact kt h; exact kf h)
theorem t26_X5_readThing_68 {E : En} {d d' : Nat} {cs : Nat × Nat} {I L : MI} {Z : Zt} {a0 b3 : Nat} {a1 a2 b0 b1 b2 : Int} {Q : Int → MI → MI → Prop} (hs : G0.1[b3]? = some (.inl 5)) (hM : CQi E d' M_X5_readNumber [vr b3, vi b2, vi b1, vi b0] I L Q) (hlt : d' + 1 ≤ d) (kk : ∀ (z : Int) (I' L' : MI), Q z I' L' → Ev E d M_X5_readThing 71 [vr a0, vi a1, vi a2, vu] [vi z] (G0, cs) I' L' Z) (hc1 : cs.1 ≤ M_X5_readThing.2.2.2.2.1 := by decide) (hc2 : cs.2 ≤ M_X5_readThing.2.2.2.2.2 := by decide) : Ev E d M_X5_readThing 68 [vr a0, vi a1, vi a2, vu] [vi b0, vi b1, vi b2, vr b3] (G0, cs) I L Z := E_callV (as := [vi b2, vi b1, vi b0]) (rest := []) (n := 3) hM dX5_readThing_68 wM_RX5_67 wS_X5_readNumber wV_X5_readNumber hs (by decide) rfl hlt wC_X5_readNumber wI_X5 (by decide +kernel) rfl (by decide) (Nat.le_of_ble_eq_true rfl) hc1 hc2 rfl (fun r g' I' L' h => by obtain ⟨rfl, z, rfl, h⟩ := h; exact kk z I' L' h)
theorem t26_X5_readThing_71 {E : En} {d : Nat} {κ : Kp} {I L : MI} {Z : Zt} {a0 : Nat} {a1 a2 b0 : Int}  (k : Ev E d M_X5_readThing 72 [vr a0, vi a1, vi b0, vu] [] κ I L Z) : Ev E d M_X5_readThing 71 [vr a0, vi a1, vi a2, vu] [vi b0] κ I L Z := E_istore_n dX5_readThing_71 rfl (Nat.le_of_ble_eq_true rfl) k
theorem t26_X5_readThing_0 {E : En} {d : Nat} {κ : Kp} {I L : MI} {Z : Zt} {a0 : Nat}  (k : Ev E d M_X5_readThing 1 [vr a0, vu, vu, vu] [vr a0] κ I L Z) : Ev E d M_X5_readThing 0 [vr a0, vu, vu, vu] [] κ I L Z := E_aload_n dX5_readThing_0 rfl k
theorem t26_X5_readThing_1 {E : En} {d : Nat} {κ : Kp} {I L : MI} {Z : Zt} {a0 b0 : Nat} {q : Nat} (hs : κ.1.1[b0]? = some (.inl 5)) (hq : κ.1.2 b0 1 = some q) (k : Ev E d M_X5_readThing 4 [vr a0, vu, vu, vu] [vr q] κ I L Z) : Ev E d M_X5_readThing 1 [vr a0, vu, vu, vu] [vr b0] κ I L Z := E_getR (ci := 5) (n := 1) dX5_readThing_1 wF_RX5_15 (by decide) hs rfl hq k
theorem t26_X5_readThing_4 {E : En} {d : Nat} {κ : Kp} {I L : MI} {Z : Zt} {a0 b0 : Nat} (hs : κ.1.1[b0]? = some (.inl 9)) (k : Ir (I b0 0) → Ev E d M_X5_readThing 7 [vr a0, vu, vu, vu] [vi (I b0 0)] κ I L Z) : Ev E d M_X5_readThing 4 [vr a0, vu, vu, vu] [vr b0] κ I L Z := E_getI (ci := 9) (n := 0) dX5_readThing_4 wF_RX5_60 (by decide) hs rfl k
theorem t26_X5_readThing_7 {E : En} {d : Nat} {κ : Kp} {I L : MI} {Z : Zt} {a0 : Nat} {b0 : Int}  (k : Ev E d M_X5_readThing 9 [vr a0, vu, vu, vu] [vi 12, vi b0] κ I L Z) : Ev E d M_X5_readThing 7 [vr a0, vu, vu, vu] [vi b0] κ I L Z := E_bipush (v := 12) dX5_readThing_7 rfl k
theorem t26_X5_readThing_9 {E : En} {d : Nat} {κ : Kp} {I L : MI} {Z : Zt} {a0 : Nat} {b0 b1 : Int} (hx : Ir b1) (hy : Ir b0) (kt : b1 < b0 → Ev E d M_X5_readThing 18 [vr a0, vu, vu, vu] [] κ I L Z) (kf : b0 ≤ b1 → Ev E d M_X5_readThing 12 [vr a0, vu, vu, vu] [] κ I L Z) : Ev E d M_X5_readThing 9 [vr a0, vu, vu, vu] [vi b0, vi b1] κ I L Z := E_icmp_lt dX5_readThing_9 hx hy kt kf (by decide)
theorem t26_X5_readThing_18 {E : En} {d : Nat} {κ : Kp} {I L : MI} {Z : Zt} {a0 : Nat}  (k : Ev E d M_X5_readThing 19 [vr a0, vu, vu, vu] [vr a0] κ I L Z) : Ev E d M_X5_readThing 18 [vr a0, vu, vu, vu] [] κ I L Z := E_aload_n dX5_readThing_18 rfl k
theorem t26_X5_readThing_19 {E : En} {d d' : Nat} {cs : Nat × Nat} {I L : MI} {Z : Zt} {a0 b0 : Nat} {Q : MI → MI → Prop} (hs : G0.1[b0]? = some (.inl 5)) (hM : CQv E d' M_X5_next [vr b0] I L Q) (hlt : d' + 1 ≤ d) (kk : ∀ (I' L' : MI), Q I' L' → Ev E d M_X5_readThing 22 [vr a0, vu, vu, vu] [] (G0, cs) I' L' Z) (hc1 : cs.1 ≤ M_X5_readThing.2.2.2.2.1 := by decide) (hc2 : cs.2 ≤ M_X5_readThing.2.2.2.2.2 := by decide) : Ev E d M_X5_readThing 19 [vr a0, vu, vu, vu] [vr b0] (G0, cs) I L Z := E_callV (as := []) (rest := []) (n := 0) hM dX5_readThing_19 wM_RX5_31 wS_X5_next wV_X5_next hs (by decide) rfl hlt wC_X5_next wI_X5 (by decide +kernel) rfl (by decide) (Nat.le_of_ble_eq_true rfl) hc1 hc2 rfl (fun r g' I' L' h => by obtain ⟨rfl, rfl, h⟩ := h; exact kk I' L' h)
theorem t26_X5_readThing_12 {E : En} {d : Nat} {κ : Kp} {I L : MI} {Z : Zt} {a0 : Nat}  (k : Ev E d M_X5_readThing 13 [vr a0, vu, vu, vu] [vr a0] κ I L Z) : Ev E d M_X5_readThing 12 [vr a0, vu, vu, vu] [] κ I L Z := E_aload_n dX5_readThing_12 rfl k
theorem t26_X5_readThing_13 {E : En} {d : Nat} {κ : Kp} {I L : MI} {Z : Zt} {a0 b0 : Nat}  (k : Ev E d M_X5_readThing 14 [vr a0, vu, vu, vu] [vi 3, vr b0] κ I L Z) : Ev E d M_X5_readThing 13 [vr a0, vu, vu, vu] [vr b0] κ I L Z := E_iconst (v := 3) dX5_readThing_13 rfl k
theorem t26_X5_readThing_14 {E : En} {d d' : Nat} {cs : Nat × Nat} {I L : MI} {Z : Zt} {a0 b1 : Nat} {b0 : Int} {I' L' : MI} (hs : G0.1[b1]? = some (.inl 5)) (hM : CFv E d' M_X5_fail [vr b1, vi b0] I L I' L') (hlt : d' + 1 ≤ d) (k : Ev E d M_X5_readThing 17 [vr a0, vu, vu, vu] [] (G0, cs) I' L' Z) (hc1 : cs.1 ≤ M_X5_readThing.2.2.2.2.1 := by decide) (hc2 : cs.2 ≤ M_X5_readThing.2.2.2.2.2 := by decide) : Ev E d M_X5_readThing 14 [vr a0, vu, vu, vu] [vi b0, vr b1] (G0, cs) I L Z := E_callV (as := [vi b0]) (rest := []) (n := 1) hM dX5_readThing_14 wM_RX5_40 wS_X5_fail wV_X5_fail hs (by decide) rfl hlt wC_X5_fail wI_X5 (by decide +kernel) rfl (by decide) (Nat.le_of_ble_eq_true rfl) hc1 hc2 rfl (fun r g' I2 L2 h => by obtain ⟨rfl, rfl, rfl, rfl⟩ := h; exact k)
theorem t26_X5_readThing_17 {E : En} {d : Nat} {g : Geo} {I L : MI} {Q : Option AV → Geo → MI → MI → Prop} {cs : Nat × Nat} {a0 : Nat} (hq : Q none g I L) (h1 : cs.1 ≤ M_X5_readThing.2.2.2.2.1 := by decide) (h2 : cs.2 ≤ M_X5_readThing.2.2.2.2.2 := by decide) : Ev E d M_X5_readThing 17 [vr a0, vu, vu, vu] [] (g, cs) I L (ZQ E M_X5_readThing Q) := E_return rfl dX5_readThing_17 hq h1 h2
theorem t26_X5_readThing_22 {E : En} {d : Nat} {κ : Kp} {I L : MI} {Z : Zt} {a0 : Nat}  (k : Ev E d M_X5_readThing 23 [vr a0, vu, vu, vu] [vr a0] κ I L Z) : Ev E d M_X5_readThing 22 [vr a0, vu, vu, vu] [] κ I L Z := E_aload_n dX5_readThing_22 rfl k
theorem t26_X5_readThing_23 {E : En} {d : Nat} {κ : Kp} {I L : MI} {Z : Zt} {a0 b0 : Nat}  (k : Ev E d M_X5_readThing 24 [vr a0, vu, vu, vu] [vi 2, vr b0] κ I L Z) : Ev E d M_X5_readThing 23 [vr a0, vu, vu, vu] [vr b0] κ I L Z := E_iconst (v := 2) dX5_readThing_23 rfl k
theorem t26_X5_readThing_24 {E : En} {d : Nat} {κ : Kp} {I L : MI} {Z : Zt} {a0 b1 : Nat} {b0 : Int}  (k : Ev E d M_X5_readThing 27 [vr a0, vu, vu, vu] [vi 199, vi b0, vr b1] κ I L Z) : Ev E d M_X5_readThing 24 [vr a0, vu, vu, vu] [vi b0, vr b1] κ I L Z := E_sipush (v := 199) dX5_readThing_24 rfl k
theorem t26_X5_readThing_27 {E : En} {d : Nat} {κ : Kp} {I L : MI} {Z : Zt} {a0 b2 : Nat} {b0 b1 : Int}  (k : Ev E d M_X5_readThing 28 [vr a0, vu, vu, vu] [vr a0, vi b0, vi b1, vr b2] κ I L Z) : Ev E d M_X5_readThing 27 [vr a0, vu, vu, vu] [vi b0, vi b1, vr b2] κ I L Z := E_aload_n dX5_readThing_27 rfl k
theorem t26_X5_readThing_28 {E : En} {d : Nat} {κ : Kp} {I L : MI} {Z : Zt} {a0 b0 b3 : Nat} {b1 b2 : Int}  (k : Ev E d M_X5_readThing 29 [vr a0, vu, vu, vu] [vi 0, vr b0, vi b1, vi b2, vr b3] κ I L Z) : Ev E d M_X5_readThing 28 [vr a0, vu, vu, vu] [vr b0, vi b1, vi b2, vr b3] κ I L Z := E_iconst (v := 0) dX5_readThing_28 rfl k
theorem t26_X5_readThing_29 {E : En} {d d' : Nat} {cs : Nat × Nat} {I L : MI} {Z : Zt} {a0 b1 b4 : Nat} {b0 b2 b3 : Int} {P : Prop} {I' L' : MI} (hs : G0.1[b1]? = some (.inl 5)) (hM : CB E d' M_X5_isNew [vr b1, vi b0] I L P I' L') (hlt : d' + 1 ≤ d) (kt : P → Ev E d M_X5_readThing 32 [vr a0, vu, vu, vu] [vi 1, vi b2, vi b3, vr b4] (G0, cs) I' L' Z) (kf : ¬ P → Ev E d M_X5_readThing 32 [vr a0, vu, vu, vu] [vi 0, vi b2, vi b3, vr b4] (G0, cs) I' L' Z) (hc1 : cs.1 ≤ M_X5_readThing.2.2.2.2.1 := by decide) (hc2 : cs.2 ≤ M_X5_readThing.2.2.2.2.2 := by decide) : Ev E d M_X5_readThing 29 [vr a0, vu, vu, vu] [vi b0, vr b1, vi b2, vi b3, vr b4] (G0, cs) I L Z := E_callV (as := [vi b0]) (rest := [vi b2, vi b3, vr b4]) (n := 1) hM dX5_readThing_29 wM_RX5_63 wS_X5_isNew wV_X5_isNew hs (by decide) rfl hlt wC_X5_isNew wI_X5 (by decide +kernel) rfl (by decide) (Nat.le_of_ble_eq_true rfl) hc1 hc2 rfl (fun r g' I2 L2 h => by obtain ⟨rfl, z, rfl, rfl, rfl, ⟨rfl, h⟩ | ⟨rfl, h⟩⟩ := h; exact kt h; exact kf h)
theorem t26_X5_readThing_32 {E : En} {d d' : Nat} {cs : Nat × Nat} {I L : MI} {Z : Zt} {a0 b3 : Nat} {b0 b1 b2 : Int} {Q : Int → MI → MI → Prop} (hs : G0.1[b3]? = some (.inl 5)) (hM : CQi E d' M_X5_readNumber [vr b3, vi b2, vi b1, vi b0] I L Q) (hlt : d' + 1 ≤ d) (kk : ∀ (z : Int) (I' L' : MI), Q z I' L' → Ev E d M_X5_readThing 35 [vr a0, vu, vu, vu] [vi z] (G0, cs) I' L' Z) (hc1 : cs.1 ≤ M_X5_readThing.2.2.2.2.1 := by decide) (hc2 : cs.2 ≤ M_X5_readThing.2.2.2.2.2 := by decide) : Ev E d M_X5_readThing 32 [vr a0, vu, vu, vu] [vi b0, vi b1, vi b2, vr b3] (G0, cs) I L Z := E_callV (as := [vi b2, vi b1, vi b0]) (rest := []) (n := 3) hM dX5_readThing_32 wM_RX5_67 wS_X5_readNumber wV_X5_readNumber hs (by decide) rfl hlt wC_X5_readNumber wI_X5 (by decide +kernel) rfl (by decide) (Nat.le_of_ble_eq_true rfl) hc1 hc2 rfl (fun r g' I' L' h => by obtain ⟨rfl, z, rfl, h⟩ := h; exact kk z I' L' h)
/-! CONTRACTS: the reader's things, rules and pairs -/
def ThQ (L : MI) (r : PR × MI) : MI → MI → Prop := fun I' L' => L' = L ∧ RFr r.2 I' ∧ rg I' = r.1
theorem RFr_t {I J K : MI} (h : RFr I J) (g : RFr J K) : RFr I K := fun o o1 k => (g o o1 k).trans (h o o1 k)
theorem newP_f {I J : MI} (h : RFr I J) {v b : Int} : newP J v b ↔ newP I v b := by
  unfold newP
  have e : fstI J 4 = fstI I 4 := fstI_c (h 4 (by decide)) (h 5 (by decide))
  have e2 : othI J 4 = othI I 4 := by
    funext k
    unfold othI atI
    rw [h 4 (by decide), h (4 + 2) (by decide)]
  rw [e, e2, h 4 (by decide)]
theorem addT_f {I J : MI} (h : RFr I J) {a o s : Int} : RFr (addT I 4 a o s) (addT J 4 a o s) := fun q q1 k => by
  simp only [addT, up2_at, h 4 (by decide), h q q1]
theorem addR_f {I J : MI} (h : RFr I J) {a o s : Int} : RFr (addR I 4 a o s) (addR J 4 a o s) := fun q q1 k => by
  simp only [addR, up2_at, h 4 (by decide), h q q1]
theorem addP_f {I J : MI} (h : RFr I J) {a o : Int} : RFr (addP I 4 a o) (addP J 4 a o) := fun q q1 k => by
  simp only [addP, up2_at, h 4 (by decide), h q q1]
theorem rg_addT {I : MI} {a o s : Int} : rg (addT I 4 a o s) = rg I := by
  unfold rg
  simp [addT, up2_at]
theorem rg_addR {I : MI} {a o s : Int} : rg (addR I 4 a o s) = rg I := by
  unfold rg
  simp [addR, up2_at]
theorem rg_addP {I : MI} {a o : Int} : rg (addP I 4 a o) = rg I := by
  unfold rg
  simp [addP, up2_at]
theorem c_X5_readThing {E : En} {I L : MI} (hr : RI (rg I) := by assumption) (hw : 0 ≤ I 4 0 ∧ I 4 0 ≤ 12 := by assumption) : CQv E 6 M_X5_readThing [vr 13] I L (ThQ L (thgR (byI I) (rg I) I)) := by
  have hb1 : 0 ≤ I 13 3 ∧ I 13 3 ≤ 400 := hr.1
  have he1 : 0 ≤ I 13 4 ∧ I 13 4 ≤ 400 := hr.2.1
  have t4 := TgS4
  refine CM_of' (al := [vr _, vu, vu, vu]) rfl (Nat.le_of_ble_eq_true rfl) rfl (fun hM => ?_)
  have k72 : ∀ (I1 : MI) (a o : Int), RFr I I1 → RI (rg I1) → (-1 ≤ a ∧ a ≤ 999) → (-1 ≤ o ∧ o ≤ 999) → I 4 0 < 12 → thgR (byI I) (rg I) I = thg3 (byI I) I a o (rg I1) → Ev E 6 M_X5_readThing 72 [vr 13, vi a, vi o, vu] [] (G0, 0, 0) I1 L (ZQ E M_X5_readThing (QQv (ThQ L (thgR (byI I) (rg I) I)))) := by
    intro I1 a o f1 r1 ha ho h12 hth
    rw [hth]
    refine (t26_X5_readThing_72 (t26_X5_readThing_73 (t26_X5_readThing_74 (t26_X5_readThing_75 (t26_X5_readThing_76 (by first | assumption | rfl) c_X5_readNumber (by first | decide | omega) (fun z76 I76 L76 q76 => ?_))))))
    -- 1 leaves: :call76
    obtain ⟨g1, g2, g3, g4⟩ := q76
    subst g1
    rw [byI_f f1] at g3
    have r2 : RI (rg I76) := by rw [g3]; exact numR_ok (byI_ok I) r1
    have hz := numV_b (lo := 0) (hi := 4) (f := decide ((1 : Int) = 1)) r1
    rw [← g4] at hz
    have f2 := RFr_t f1 g2
    refine (t26_X5_readThing_79 (t26_X5_readThing_80 (t26_X5_readThing_81 (by first | assumption | rfl) c_X5_readSign (by first | decide | omega) (fun I81 L81 q81 => ?_))))
    -- 1 leaves: :call81
    obtain ⟨j1, j2, j3⟩ := q81
    subst j1
    have f3 := RFr_t f2 j2
    rw [byI_f f2, g3] at j3
    have e6 : pf (sgnR (byI I) (numR (byI I) (rg I1) 0 4 true)) = I81 13 6 := by
      have : pf (rg I81) = I81 13 6 := rfl
      rw [← this, j3]
      rfl
    have e4 : I81 4 0 = I 4 0 := f3 4 (by decide) 0
    have h0 : 0 ≤ I81 4 0 ∧ I81 4 0 < 12 := by omega
    refine (t26_X5_readThing_84 (t26_X5_readThing_85 (by first | assumption | rfl) (fun r85 => (t26_X5_readThing_88 (by omega) (fun c88 => (t26_X5_readThing_101 ?_)) (fun c88 => (t26_X5_readThing_91 (t26_X5_readThing_92 (by first | assumption | rfl) (by first | assumption | rfl) (t26_X5_readThing_95 (t26_X5_readThing_96 (t26_X5_readThing_97 (t26_X5_readThing_98 (by first | assumption | rfl) c_X9_addThing (by first | decide | omega) (t26_X5_readThing_101 ?_))))))))))))
    -- 2 leaves: 88t :ret101 | 88f :ret101
    · refine qqv (show ThQ _ _ _ _ from ⟨rfl, ?_, ?_⟩)
      · unfold thg3; rw [if_neg (by rw [e6]; exact c88)]; exact f3
      · unfold thg3; rw [if_neg (by rw [e6]; exact c88)]; exact j3
    · refine qqv (show ThQ _ _ _ _ from ⟨rfl, ?_, ?_⟩)
      · unfold thg3; rw [if_pos (e6.trans c88), g4]; exact addT_f f3
      · unfold thg3; rw [if_pos (e6.trans c88), rg_addT]; exact j3
  have k35 : ∀ (I1 : MI) (a : Int), RFr I I1 → RI (rg I1) → (-1 ≤ a ∧ a ≤ 999) → I 4 0 < 12 → thgR (byI I) (rg I) I = thg2 (byI I) I a (rg I1) → Ev E 6 M_X5_readThing 35 [vr 13, vu, vu, vu] [vi a] (G0, 0, 0) I1 L (ZQ E M_X5_readThing (QQv (ThQ L (thgR (byI I) (rg I) I)))) := by
    intro I1 a f1 r1 ha h12 hth
    have he : 0 ≤ I1 13 4 ∧ I1 13 4 ≤ 400 := r1.2.1
    have hth0 : ¬ (pf (rg I1) = 0 ∧ bP (isWP (byI I) (rg I1) 1008) = true) → thgR (byI I) (rg I) I = thg3 (byI I) I a 0 (rg I1) := fun q => by
      rw [hth]
      unfold thg2
      rw [if_neg q]
    refine (t26_X5_readThing_35 (t26_X5_readThing_36 (t26_X5_readThing_37 (t26_X5_readThing_38 (t26_X5_readThing_39 (by first | assumption | rfl) (fun r39 => (t26_X5_readThing_42 (by omega) (fun c42 => ?_) (fun c42 => (t26_X5_readThing_45 (t26_X5_readThing_46 (t26_X5_readThing_48 (by first | assumption | rfl) c_X5_isWord (by first | decide | omega) (fun c48 => (t26_X5_readThing_51 (by decide) (fun h => absurd h (by decide)) (fun _ => (t26_X5_readThing_54 (t26_X5_readThing_55 (by first | assumption | rfl) c_X5_next (by first | decide | omega) (fun I55 L55 q55 => ?_)))))) (fun c48 => (t26_X5_readThing_51 (by decide) (fun _ => ?_) (fun h => absurd rfl h))))))))))))))
    -- 3 leaves: 42t :->72 | 42f 48T :call55 | 42f 48F :->72
    · exact k72 I1 a 0 f1 r1 ha (by omega) h12 (hth0 fun q => c42 q.1)
    · have hth1 : thgR (byI I) (rg I) I = thg3 (byI I) I a (numV (nextR (byI I) (rg I1)) 2 199 (newN I (nextR (byI I) (rg I1)) a)) (numR (byI I) (nextR (byI I) (rg I1)) 2 199 (newN I (nextR (byI I) (rg I1)) a)) := by
        rw [hth]
        unfold thg2
        rw [if_pos ⟨c42, bP_t (by rw [← byI_f f1]; exact c48)⟩]
      obtain ⟨g1, g2, g3⟩ := q55
      subst g1
      rw [byI_f f1] at g3
      have r2 : RI (rg I55) := by rw [g3]; exact nextR_ok (byI_ok I) he
      have f2 := RFr_t f1 g2
      have e4 : I55 4 0 = I 4 0 := f2 4 (by decide) 0
      have h0 : 0 ≤ I55 4 0 ∧ I55 4 0 ≤ 12 := by omega
      have ev : pv (nextR (byI I) (rg I1)) = I55 13 5 := by rw [← g3]; rfl
      refine (t26_X5_readThing_58 (t26_X5_readThing_59 (t26_X5_readThing_60 (t26_X5_readThing_63 (t26_X5_readThing_64 (t26_X5_readThing_65 (by first | assumption | rfl) c_X5_isNew (by first | decide | omega) (fun c65 => (t26_X5_readThing_68 (by first | assumption | rfl) c_X5_readNumber (by first | decide | omega) (fun z68 I68 L68 q68 => ?_))) (fun c65 => (t26_X5_readThing_68 (by first | assumption | rfl) c_X5_readNumber (by first | decide | omega) (fun z68 I68 L68 q68 => ?_)))))))))
      -- 2 leaves: 65T :call68 | 65F :call68
      · obtain ⟨j1, j2, j3, j4⟩ := q68
        subst j1
        have ef : newN I (nextR (byI I) (rg I1)) a = decide ((1 : Int) = 1) := bP_t (by rw [ev]; exact (newP_f f2).mp c65)
        rw [byI_f f2, g3, ← ef] at j3
        rw [g3, ← ef] at j4
        refine (t26_X5_readThing_71 ?_)
        -- 1 leaves: :->72
        refine k72 _ a z68 (RFr_t f2 j2) ?_ ha ?_ h12 (by rw [hth1, j3, j4])
        · rw [j3]; exact numR_ok (byI_ok I) (nextR_ok (byI_ok I) he)
        · rw [j4]; exact numV_b (nextR_ok (byI_ok I) he)
      · obtain ⟨j1, j2, j3, j4⟩ := q68
        subst j1
        have ef : newN I (nextR (byI I) (rg I1)) a = decide ((0 : Int) = 1) := bP_f (by rw [ev]; exact fun h => c65 ((newP_f f2).mpr h))
        rw [byI_f f2, g3, ← ef] at j3
        rw [g3, ← ef] at j4
        refine (t26_X5_readThing_71 ?_)
        -- 1 leaves: :->72
        refine k72 _ a z68 (RFr_t f2 j2) ?_ ha ?_ h12 (by rw [hth1, j3, j4])
        · rw [j3]; exact numR_ok (byI_ok I) (nextR_ok (byI_ok I) he)
        · rw [j4]; exact numV_b (nextR_ok (byI_ok I) he)
    · exact k72 I1 a 0 f1 r1 ha (by omega) h12 (hth0 fun q => c48 (by rw [byI_f f1]; exact bP_i.mp q.2))
  refine (t26_X5_readThing_0 (t26_X5_readThing_1 (by first | assumption | rfl) (by first | assumption | rfl) (t26_X5_readThing_4 (by first | assumption | rfl) (fun r4 => (t26_X5_readThing_7 (t26_X5_readThing_9 (by omega) (by omega) (fun c9 => (t26_X5_readThing_18 (t26_X5_readThing_19 (by first | assumption | rfl) c_X5_next (by first | decide | omega) (fun I19 L19 q19 => ?_)))) (fun c9 => (t26_X5_readThing_12 (t26_X5_readThing_13 (t26_X5_readThing_14 (by first | assumption | rfl) c_X5_fail (by first | decide | omega) (t26_X5_readThing_17 ?_)))))))))))
  -- 2 leaves: 9t :call19 | 9f :ret17
  · obtain ⟨g1, g2, g3⟩ := q19
    subst g1
    have r2 : RI (rg I19) := by rw [g3]; exact nextR_ok (byI_ok I) he1
    have e4 : I19 4 0 = I 4 0 := g2 4 (by decide) 0
    have h0 : 0 ≤ I19 4 0 ∧ I19 4 0 ≤ 12 := by omega
    have ev : pv (nextR (byI I) (rg I)) = I19 13 5 := by rw [← g3]; rfl
    have hth : thgR (byI I) (rg I) I = thg1 (byI I) I (nextR (byI I) (rg I)) := by unfold thgR; rw [if_pos (by omega)]
    refine (t26_X5_readThing_22 (t26_X5_readThing_23 (t26_X5_readThing_24 (t26_X5_readThing_27 (t26_X5_readThing_28 (t26_X5_readThing_29 (by first | assumption | rfl) c_X5_isNew (by first | decide | omega) (fun c29 => (t26_X5_readThing_32 (by first | assumption | rfl) c_X5_readNumber (by first | decide | omega) (fun z32 I32 L32 q32 => ?_))) (fun c29 => (t26_X5_readThing_32 (by first | assumption | rfl) c_X5_readNumber (by first | decide | omega) (fun z32 I32 L32 q32 => ?_)))))))))
    -- 2 leaves: 29T :call32 | 29F :call32
    · obtain ⟨j1, j2, j3, j4⟩ := q32
      subst j1
      have ef : newN I (nextR (byI I) (rg I)) 0 = decide ((1 : Int) = 1) := bP_t (by rw [ev]; exact (newP_f g2).mp c29)
      rw [byI_f g2, g3, ← ef] at j3
      rw [g3, ← ef] at j4
      refine k35 _ z32 (RFr_t g2 j2) ?_ ?_ (by omega) (by rw [hth, j3, j4]; rfl)
      · rw [j3]; exact numR_ok (byI_ok I) (nextR_ok (byI_ok I) he1)
      · rw [j4]; exact numV_b (nextR_ok (byI_ok I) he1)
    · obtain ⟨j1, j2, j3, j4⟩ := q32
      subst j1
      have ef : newN I (nextR (byI I) (rg I)) 0 = decide ((0 : Int) = 1) := bP_f (by rw [ev]; exact fun h => c29 ((newP_f g2).mpr h))
      rw [byI_f g2, g3, ← ef] at j3
      rw [g3, ← ef] at j4
      refine k35 _ z32 (RFr_t g2 j2) ?_ ?_ (by omega) (by rw [hth, j3, j4]; rfl)
      · rw [j3]; exact numR_ok (byI_ok I) (nextR_ok (byI_ok I) he1)
      · rw [j4]; exact numV_b (nextR_ok (byI_ok I) he1)
  · refine qqv (show ThQ _ _ _ _ from ⟨rfl, ?_, ?_⟩)
    · unfold thgR; rw [if_neg (by omega)]; exact fail_fr
    · unfold thgR; rw [if_neg (by omega)]; exact fail_rg
