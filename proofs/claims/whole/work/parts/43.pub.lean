theorem t43_X10_heard_76 {E : En} {d : Nat} {κ : Kp} {I L : MI} {Z : Zt} {a0 : Nat} {a1 a2 a3 a5 : Int}  (k : Ev E d M_X10_heard 78 [vr a0, vi a1, vi a2, vl a3, vu, vi a5] [vi a5] κ I L Z) : Ev E d M_X10_heard 76 [vr a0, vi a1, vi a2, vl a3, vu, vi a5] [] κ I L Z := E_iload dX10_heard_76 rfl k
theorem t43_X10_heard_78 {E : En} {d : Nat} {κ : Kp} {I L : MI} {Z : Zt} {a0 : Nat} {a1 a2 a3 a5 b0 : Int}  (k : Ev E d M_X10_heard 81 [vr a0, vi a1, vi a2, vl a3, vu, vi a5] [vr 1004, vi b0] κ I L Z) : Ev E d M_X10_heard 78 [vr a0, vi a1, vi a2, vl a3, vu, vi a5] [vi b0] κ I L Z := E_gets dX10_heard_78 wF_RX10_225 (v := vr 1004) (List.mem_of_getElem? (i := 3) rfl) k
theorem t43_X10_heard_81 {E : En} {d : Nat} {κ : Kp} {I L : MI} {Z : Zt} {a0 b0 : Nat} {a1 a2 a3 a5 b1 : Int} {n kd : Nat} {z : Int} (ha : arr E κ.1 b0 = some (kd, n)) (hk : kd < 6) (hz : (n : Int) = z) (k : Ev E d M_X10_heard 82 [vr a0, vi a1, vi a2, vl a3, vu, vi a5] [vi z, vi b1] κ I L Z) : Ev E d M_X10_heard 81 [vr a0, vi a1, vi a2, vl a3, vu, vi a5] [vr b0, vi b1] κ I L Z := E_alen dX10_heard_81 ha hk hz k
theorem t43_X10_heard_82 {E : En} {d : Nat} {κ : Kp} {I L : MI} {Z : Zt} {a0 : Nat} {a1 a2 a3 a5 b0 b1 : Int} (hx : Ir b1) (hy : Ir b0) (kt : b0 ≤ b1 → Ev E d M_X10_heard 102 [vr a0, vi a1, vi a2, vl a3, vu, vi a5] [] κ I L Z) (kf : b1 < b0 → Ev E d M_X10_heard 85 [vr a0, vi a1, vi a2, vl a3, vu, vi a5] [] κ I L Z) : Ev E d M_X10_heard 82 [vr a0, vi a1, vi a2, vl a3, vu, vi a5] [vi b0, vi b1] κ I L Z := E_icmp_ge dX10_heard_82 hx hy kt kf (by decide)
theorem t43_X10_heard_102 {E : En} {d : Nat} {κ : Kp} {I L : MI} {Z : Zt} {a0 : Nat} {a1 a2 a3 a5 : Int}  (k : Ev E d M_X10_heard 103 [vr a0, vi a1, vi a2, vl a3, vu, vi a5] [vr a0] κ I L Z) : Ev E d M_X10_heard 102 [vr a0, vi a1, vi a2, vl a3, vu, vi a5] [] κ I L Z := E_aload_n dX10_heard_102 rfl k
theorem t43_X10_heard_103 {E : En} {d : Nat} {κ : Kp} {I L : MI} {Z : Zt} {a0 b0 : Nat} {a1 a2 a3 a5 : Int} {q : Nat} (hs : κ.1.1[b0]? = some (.inl 10)) (hq : κ.1.2 b0 8 = some q) (k : Ev E d M_X10_heard 106 [vr a0, vi a1, vi a2, vl a3, vu, vi a5] [vr q] κ I L Z) : Ev E d M_X10_heard 103 [vr a0, vi a1, vi a2, vl a3, vu, vi a5] [vr b0] κ I L Z := E_getR (ci := 10) (n := 8) dX10_heard_103 wF_RX10_66 (by decide) hs rfl hq k
theorem t43_X10_heard_106 {E : En} {d d' : Nat} {cs : Nat × Nat} {I L : MI} {Z : Zt} {a0 b0 : Nat} {a1 a2 a3 a5 : Int} {z : Int} {I' L' : MI} (hs : G0.1[b0]? = some (.inl 4)) (hM : CFl E d' M_X4_answer [vr b0] I L z I' L') (hlt : d' + 1 ≤ d) (k : Jr z → Ev E d M_X10_heard 109 [vr a0, vi a1, vi a2, vl a3, vu, vi a5] [vl z] (G0, cs) I' L' Z) (hc1 : cs.1 ≤ M_X10_heard.2.2.2.2.1 := by decide) (hc2 : cs.2 ≤ M_X10_heard.2.2.2.2.2 := by decide) : Ev E d M_X10_heard 106 [vr a0, vi a1, vi a2, vl a3, vu, vi a5] [vr b0] (G0, cs) I L Z := E_callV (as := []) (rest := []) (n := 0) hM dX10_heard_106 wM_RX10_236 wS_X4_answer wV_X4_answer hs (by decide) rfl hlt wC_X4_answer wI_X4 (by decide +kernel) rfl (by decide) (Nat.le_of_ble_eq_true rfl) hc1 hc2 rfl (fun r g' I2 L2 h => by obtain ⟨rfl, z, rfl, hr, rfl, rfl, rfl⟩ := h; exact k hr)
theorem t43_X10_heard_109 {E : En} {d : Nat} {g : Geo} {I L : MI} {Q : Option AV → Geo → MI → MI → Prop} {cs : Nat × Nat} {a0 : Nat} {a1 a2 a3 a5 b0 : Int} (hq : Q (some (vl b0)) g I L) (h1 : cs.1 ≤ M_X10_heard.2.2.2.2.1 := by decide) (h2 : cs.2 ≤ M_X10_heard.2.2.2.2.2 := by decide) : Ev E d M_X10_heard 109 [vr a0, vi a1, vi a2, vl a3, vu, vi a5] [vl b0] (g, cs) I L (ZQ E M_X10_heard Q) := E_lreturn rfl dX10_heard_109 hq h1 h2
theorem t43_X10_heard_85 {E : En} {d : Nat} {κ : Kp} {I L : MI} {Z : Zt} {a0 : Nat} {a1 a2 a3 a5 : Int}  (k : Ev E d M_X10_heard 86 [vr a0, vi a1, vi a2, vl a3, vu, vi a5] [vr a0] κ I L Z) : Ev E d M_X10_heard 85 [vr a0, vi a1, vi a2, vl a3, vu, vi a5] [] κ I L Z := E_aload_n dX10_heard_85 rfl k
theorem t43_X10_heard_86 {E : En} {d : Nat} {κ : Kp} {I L : MI} {Z : Zt} {a0 b0 : Nat} {a1 a2 a3 a5 : Int}  (k : Ev E d M_X10_heard 87 [vr a0, vi a1, vi a2, vl a3, vu, vi a5] [vl a3, vr b0] κ I L Z) : Ev E d M_X10_heard 86 [vr a0, vi a1, vi a2, vl a3, vu, vi a5] [vr b0] κ I L Z := E_lload_n dX10_heard_86 rfl k
theorem t43_X10_heard_87 {E : En} {d : Nat} {κ : Kp} {I L : MI} {Z : Zt} {a0 b1 : Nat} {a1 a2 a3 a5 b0 : Int}  (k : Ev E d M_X10_heard 90 [vr a0, vi a1, vi a2, vl a3, vu, vi a5] [vr 1004, vl b0, vr b1] κ I L Z) : Ev E d M_X10_heard 87 [vr a0, vi a1, vi a2, vl a3, vu, vi a5] [vl b0, vr b1] κ I L Z := E_gets dX10_heard_87 wF_RX10_225 (v := vr 1004) (List.mem_of_getElem? (i := 3) rfl) k
theorem t43_X10_heard_90 {E : En} {d : Nat} {κ : Kp} {I L : MI} {Z : Zt} {a0 b0 b2 : Nat} {a1 a2 a3 a5 b1 : Int}  (k : Ev E d M_X10_heard 92 [vr a0, vi a1, vi a2, vl a3, vu, vi a5] [vi a5, vr b0, vl b1, vr b2] κ I L Z) : Ev E d M_X10_heard 90 [vr a0, vi a1, vi a2, vl a3, vu, vi a5] [vr b0, vl b1, vr b2] κ I L Z := E_iload dX10_heard_90 rfl k
theorem t43_X10_heard_92 {E : En} {d : Nat} {κ : Kp} {I L : MI} {Z : Zt} {a0 b1 b3 : Nat} {a1 a2 a3 a5 b0 b2 : Int} {n : Nat} (ha : arr E κ.1 b1 = some (3, n)) (h0 : 0 ≤ b0) (h1 : b0 < n) (hi : Ir b0) (k : Jr (rdL L b1 b0) → Ev E d M_X10_heard 93 [vr a0, vi a1, vi a2, vl a3, vu, vi a5] [vl (rdL L b1 b0), vl b2, vr b3] κ I L Z) : Ev E d M_X10_heard 92 [vr a0, vi a1, vi a2, vl a3, vu, vi a5] [vi b0, vr b1, vl b2, vr b3] κ I L Z := E_lald dX10_heard_92 ha h0 h1 hi k
theorem t43_X10_heard_93 {E : En} {d d' : Nat} {cs : Nat × Nat} {I L : MI} {Z : Zt} {a0 b2 : Nat} {a1 a2 a3 a5 b0 b1 : Int} {Q : MI → MI → Prop} (hs : G0.1[b2]? = some (.inl 10)) (hM : CQv E d' M_X10_offerMoreAt [vr b2, vl b1, vl b0] I L Q) (hlt : d' + 1 ≤ d) (kk : ∀ (I' L' : MI), Q I' L' → Ev E d M_X10_heard 96 [vr a0, vi a1, vi a2, vl a3, vu, vi a5] [] (G0, cs) I' L' Z) (hc1 : cs.1 ≤ M_X10_heard.2.2.2.2.1 := by decide) (hc2 : cs.2 ≤ M_X10_heard.2.2.2.2.2 := by decide) : Ev E d M_X10_heard 93 [vr a0, vi a1, vi a2, vl a3, vu, vi a5] [vl b0, vl b1, vr b2] (G0, cs) I L Z := E_callV (as := [vl b1, vl b0]) (rest := []) (n := 2) hM dX10_heard_93 wM_RX10_233 wS_X10_offerMoreAt wV_X10_offerMoreAt hs (by decide) rfl hlt wC_X10_offerMoreAt wI_X10 (by decide +kernel) rfl (by decide) (Nat.le_of_ble_eq_true rfl) hc1 hc2 rfl (fun r g' I' L' h => by obtain ⟨rfl, rfl, h⟩ := h; exact kk I' L' h)
theorem t43_X10_heard_96 {E : En} {d : Nat} {κ : Kp} {I L : MI} {Z : Zt} {a0 : Nat} {a1 a2 a3 a5 : Int}  (k : Ev E d M_X10_heard 99 [vr a0, vi a1, vi a2, vl a3, vu, vi (a5 + 1)] [] κ I L Z) : Ev E d M_X10_heard 96 [vr a0, vi a1, vi a2, vl a3, vu, vi a5] [] κ I L Z := E_iinc dX10_heard_96 rfl rfl (Nat.le_of_ble_eq_true rfl) k
theorem t43_X10_heard_99 {E : En} {d : Nat} {κ : Kp} {I L : MI} {Z : Zt} {a0 : Nat} {a1 a2 a3 a5 : Int}  (k : Ev E d M_X10_heard 76 [vr a0, vi a1, vi a2, vl a3, vu, vi a5] [] κ I L Z) : Ev E d M_X10_heard 99 [vr a0, vi a1, vi a2, vl a3, vu, vi a5] [] κ I L Z := E_goto dX10_heard_99 (by decide) k
theorem t43_X10_heard_51 {E : En} {d : Nat} {κ : Kp} {I L : MI} {Z : Zt} {a0 : Nat} {a1 a2 a3 a5 : Int}  (k : Ev E d M_X10_heard 53 [vr a0, vi a1, vi a2, vl a3, vu, vi a5] [vi a5] κ I L Z) : Ev E d M_X10_heard 51 [vr a0, vi a1, vi a2, vl a3, vu, vi a5] [] κ I L Z := E_iload dX10_heard_51 rfl k
theorem t43_X10_heard_53 {E : En} {d : Nat} {κ : Kp} {I L : MI} {Z : Zt} {a0 : Nat} {a1 a2 a3 a5 b0 : Int} (hx : Ir b0) (kt : b0 < 0 → Ev E d M_X10_heard 73 [vr a0, vi a1, vi a2, vl a3, vu, vi a5] [] κ I L Z) (kf : 0 ≤ b0 → Ev E d M_X10_heard 56 [vr a0, vi a1, vi a2, vl a3, vu, vi a5] [] κ I L Z) : Ev E d M_X10_heard 53 [vr a0, vi a1, vi a2, vl a3, vu, vi a5] [vi b0] κ I L Z := E_if_lt dX10_heard_53 hx kt kf (by decide)
theorem t43_X10_heard_73 {E : En} {d : Nat} {κ : Kp} {I L : MI} {Z : Zt} {a0 : Nat} {a1 a2 a3 a5 : Int}  (k : Ev E d M_X10_heard 74 [vr a0, vi a1, vi a2, vl a3, vu, vi a5] [vi 0] κ I L Z) : Ev E d M_X10_heard 73 [vr a0, vi a1, vi a2, vl a3, vu, vi a5] [] κ I L Z := E_iconst (v := 0) dX10_heard_73 rfl k
theorem t43_X10_heard_74 {E : En} {d : Nat} {κ : Kp} {I L : MI} {Z : Zt} {a0 : Nat} {a1 a2 a3 a5 b0 : Int}  (k : Ev E d M_X10_heard 76 [vr a0, vi a1, vi a2, vl a3, vu, vi b0] [] κ I L Z) : Ev E d M_X10_heard 74 [vr a0, vi a1, vi a2, vl a3, vu, vi a5] [vi b0] κ I L Z := E_istore dX10_heard_74 rfl (Nat.le_of_ble_eq_true rfl) k
theorem t43_X10_heard_56 {E : En} {d : Nat} {κ : Kp} {I L : MI} {Z : Zt} {a0 : Nat} {a1 a2 a3 a5 : Int}  (k : Ev E d M_X10_heard 57 [vr a0, vi a1, vi a2, vl a3, vu, vi a5] [vr a0] κ I L Z) : Ev E d M_X10_heard 56 [vr a0, vi a1, vi a2, vl a3, vu, vi a5] [] κ I L Z := E_aload_n dX10_heard_56 rfl k
theorem t43_X10_heard_57 {E : En} {d : Nat} {κ : Kp} {I L : MI} {Z : Zt} {a0 b0 : Nat} {a1 a2 a3 a5 : Int}  (k : Ev E d M_X10_heard 58 [vr a0, vi a1, vi a2, vl a3, vu, vi a5] [vl a3, vr b0] κ I L Z) : Ev E d M_X10_heard 57 [vr a0, vi a1, vi a2, vl a3, vu, vi a5] [vr b0] κ I L Z := E_lload_n dX10_heard_57 rfl k
theorem t43_X10_heard_58 {E : En} {d : Nat} {κ : Kp} {I L : MI} {Z : Zt} {a0 b1 : Nat} {a1 a2 a3 a5 b0 : Int}  (k : Ev E d M_X10_heard 61 [vr a0, vi a1, vi a2, vl a3, vu, vi a5] [vr 1004, vl b0, vr b1] κ I L Z) : Ev E d M_X10_heard 58 [vr a0, vi a1, vi a2, vl a3, vu, vi a5] [vl b0, vr b1] κ I L Z := E_gets dX10_heard_58 wF_RX10_225 (v := vr 1004) (List.mem_of_getElem? (i := 3) rfl) k
theorem t43_X10_heard_61 {E : En} {d : Nat} {κ : Kp} {I L : MI} {Z : Zt} {a0 b0 b2 : Nat} {a1 a2 a3 a5 b1 : Int}  (k : Ev E d M_X10_heard 63 [vr a0, vi a1, vi a2, vl a3, vu, vi a5] [vi a5, vr b0, vl b1, vr b2] κ I L Z) : Ev E d M_X10_heard 61 [vr a0, vi a1, vi a2, vl a3, vu, vi a5] [vr b0, vl b1, vr b2] κ I L Z := E_iload dX10_heard_61 rfl k
theorem t43_X10_heard_63 {E : En} {d : Nat} {κ : Kp} {I L : MI} {Z : Zt} {a0 b1 b3 : Nat} {a1 a2 a3 a5 b0 b2 : Int} {n : Nat} (ha : arr E κ.1 b1 = some (3, n)) (h0 : 0 ≤ b0) (h1 : b0 < n) (hi : Ir b0) (k : Jr (rdL L b1 b0) → Ev E d M_X10_heard 64 [vr a0, vi a1, vi a2, vl a3, vu, vi a5] [vl (rdL L b1 b0), vl b2, vr b3] κ I L Z) : Ev E d M_X10_heard 63 [vr a0, vi a1, vi a2, vl a3, vu, vi a5] [vi b0, vr b1, vl b2, vr b3] κ I L Z := E_lald dX10_heard_63 ha h0 h1 hi k
theorem t43_X10_heard_64 {E : En} {d d' : Nat} {cs : Nat × Nat} {I L : MI} {Z : Zt} {a0 b2 : Nat} {a1 a2 a3 a5 b0 b1 : Int} {Q : MI → MI → Prop} (hs : G0.1[b2]? = some (.inl 10)) (hM : CQv E d' M_X10_offerLessAt [vr b2, vl b1, vl b0] I L Q) (hlt : d' + 1 ≤ d) (kk : ∀ (I' L' : MI), Q I' L' → Ev E d M_X10_heard 67 [vr a0, vi a1, vi a2, vl a3, vu, vi a5] [] (G0, cs) I' L' Z) (hc1 : cs.1 ≤ M_X10_heard.2.2.2.2.1 := by decide) (hc2 : cs.2 ≤ M_X10_heard.2.2.2.2.2 := by decide) : Ev E d M_X10_heard 64 [vr a0, vi a1, vi a2, vl a3, vu, vi a5] [vl b0, vl b1, vr b2] (G0, cs) I L Z := E_callV (as := [vl b1, vl b0]) (rest := []) (n := 2) hM dX10_heard_64 wM_RX10_229 wS_X10_offerLessAt wV_X10_offerLessAt hs (by decide) rfl hlt wC_X10_offerLessAt wI_X10 (by decide +kernel) rfl (by decide) (Nat.le_of_ble_eq_true rfl) hc1 hc2 rfl (fun r g' I' L' h => by obtain ⟨rfl, rfl, h⟩ := h; exact kk I' L' h)
theorem t43_X10_heard_67 {E : En} {d : Nat} {κ : Kp} {I L : MI} {Z : Zt} {a0 : Nat} {a1 a2 a3 a5 : Int}  (k : Ev E d M_X10_heard 70 [vr a0, vi a1, vi a2, vl a3, vu, vi (a5 + (-1))] [] κ I L Z) : Ev E d M_X10_heard 67 [vr a0, vi a1, vi a2, vl a3, vu, vi a5] [] κ I L Z := E_iinc dX10_heard_67 rfl rfl (Nat.le_of_ble_eq_true rfl) k
theorem t43_X10_heard_70 {E : En} {d : Nat} {κ : Kp} {I L : MI} {Z : Zt} {a0 : Nat} {a1 a2 a3 a5 : Int}  (k : Ev E d M_X10_heard 51 [vr a0, vi a1, vi a2, vl a3, vu, vi a5] [] κ I L Z) : Ev E d M_X10_heard 70 [vr a0, vi a1, vi a2, vl a3, vu, vi a5] [] κ I L Z := E_goto dX10_heard_70 (by decide) k
theorem t43_X10_heard_0 {E : En} {d : Nat} {κ : Kp} {I L : MI} {Z : Zt} {a0 : Nat} {a1 a2 : Int}  (k : Ev E d M_X10_heard 1 [vr a0, vi a1, vi a2, vu, vu, vu] [vi a1] κ I L Z) : Ev E d M_X10_heard 0 [vr a0, vi a1, vi a2, vu, vu, vu] [] κ I L Z := E_iload_n dX10_heard_0 rfl k
theorem t43_X10_heard_1 {E : En} {d d' : Nat} {cs : Nat × Nat} {I L : MI} {Z : Zt} {a0 : Nat} {a1 a2 b0 : Int} {P : Prop} {I' L' : MI} (hM : CB E d' M_X10_isSlot [vi b0] I L P I' L') (hlt : d' + 1 ≤ d) (kt : P → Ev E d M_X10_heard 4 [vr a0, vi a1, vi a2, vu, vu, vu] [vi 1] (G0, cs) I' L' Z) (kf : ¬ P → Ev E d M_X10_heard 4 [vr a0, vi a1, vi a2, vu, vu, vu] [vi 0] (G0, cs) I' L' Z) (hc1 : cs.1 ≤ M_X10_heard.2.2.2.2.1 := by decide) (hc2 : cs.2 ≤ M_X10_heard.2.2.2.2.2 := by decide) : Ev E d M_X10_heard 1 [vr a0, vi a1, vi a2, vu, vu, vu] [vi b0] (G0, cs) I L Z := E_callS (as := [vi b0]) (rest := []) (n := 1) hM dX10_heard_1 wM_RX10_172 wS_X10_isSlot hlt wC_X10_isSlot wI_X10 (by decide +kernel) rfl (by decide) (Nat.le_of_ble_eq_true rfl) hc1 hc2 rfl (fun r g' I2 L2 h => by obtain ⟨rfl, z, rfl, rfl, rfl, ⟨rfl, h⟩ | ⟨rfl, h⟩⟩ := h; exact kt h; exact kf h)
theorem t43_X10_heard_4 {E : En} {d : Nat} {κ : Kp} {I L : MI} {Z : Zt} {a0 : Nat} {a1 a2 b0 : Int} (hx : Ir b0) (kt : b0 = 0 → Ev E d M_X10_heard 12 [vr a0, vi a1, vi a2, vu, vu, vu] [] κ I L Z) (kf : ¬ b0 = 0 → Ev E d M_X10_heard 7 [vr a0, vi a1, vi a2, vu, vu, vu] [] κ I L Z) : Ev E d M_X10_heard 4 [vr a0, vi a1, vi a2, vu, vu, vu] [vi b0] κ I L Z := E_if_eq dX10_heard_4 hx kt kf (by decide)
theorem t43_X10_heard_7 {E : En} {d : Nat} {κ : Kp} {I L : MI} {Z : Zt} {a0 : Nat} {a1 a2 : Int}  (k : Ev E d M_X10_heard 8 [vr a0, vi a1, vi a2, vu, vu, vu] [vi a2] κ I L Z) : Ev E d M_X10_heard 7 [vr a0, vi a1, vi a2, vu, vu, vu] [] κ I L Z := E_iload_n dX10_heard_7 rfl k
theorem t43_X10_heard_8 {E : En} {d : Nat} {κ : Kp} {I L : MI} {Z : Zt} {a0 : Nat} {a1 a2 b0 : Int}  (k : Ev E d M_X10_heard 9 [vr a0, vi a1, vi a2, vu, vu, vu] [vi (-1), vi b0] κ I L Z) : Ev E d M_X10_heard 8 [vr a0, vi a1, vi a2, vu, vu, vu] [vi b0] κ I L Z := E_iconst (v := (-1)) dX10_heard_8 rfl k
theorem t43_X10_heard_9 {E : En} {d : Nat} {κ : Kp} {I L : MI} {Z : Zt} {a0 : Nat} {a1 a2 b0 b1 : Int} (hx : Ir b1) (hy : Ir b0) (kt : b0 ≤ b1 → Ev E d M_X10_heard 16 [vr a0, vi a1, vi a2, vu, vu, vu] [] κ I L Z) (kf : b1 < b0 → Ev E d M_X10_heard 12 [vr a0, vi a1, vi a2, vu, vu, vu] [] κ I L Z) : Ev E d M_X10_heard 9 [vr a0, vi a1, vi a2, vu, vu, vu] [vi b0, vi b1] κ I L Z := E_icmp_ge dX10_heard_9 hx hy kt kf (by decide)
theorem t43_X10_heard_16 {E : En} {d : Nat} {κ : Kp} {I L : MI} {Z : Zt} {a0 : Nat} {a1 a2 : Int}  (k : Ev E d M_X10_heard 17 [vr a0, vi a1, vi a2, vu, vu, vu] [vr a0] κ I L Z) : Ev E d M_X10_heard 16 [vr a0, vi a1, vi a2, vu, vu, vu] [] κ I L Z := E_aload_n dX10_heard_16 rfl k
theorem t43_X10_heard_17 {E : En} {d : Nat} {κ : Kp} {I L : MI} {Z : Zt} {a0 b0 : Nat} {a1 a2 : Int} {q : Nat} (hs : κ.1.1[b0]? = some (.inl 10)) (hq : κ.1.2 b0 4 = some q) (k : Ev E d M_X10_heard 20 [vr a0, vi a1, vi a2, vu, vu, vu] [vr q] κ I L Z) : Ev E d M_X10_heard 17 [vr a0, vi a1, vi a2, vu, vu, vu] [vr b0] κ I L Z := E_getR (ci := 10) (n := 4) dX10_heard_17 wF_RX10_41 (by decide) hs rfl hq k
theorem t43_X10_heard_20 {E : En} {d : Nat} {κ : Kp} {I L : MI} {Z : Zt} {a0 b0 : Nat} {a1 a2 : Int}  (k : Ev E d M_X10_heard 21 [vr a0, vi a1, vi a2, vu, vu, vu] [vi a1, vr b0] κ I L Z) : Ev E d M_X10_heard 20 [vr a0, vi a1, vi a2, vu, vu, vu] [vr b0] κ I L Z := E_iload_n dX10_heard_20 rfl k
theorem t43_X10_heard_21 {E : En} {d d' : Nat} {cs : Nat × Nat} {I L : MI} {Z : Zt} {a0 b1 : Nat} {a1 a2 b0 : Int} {z : Int} {I' L' : MI} (hs : G0.1[b1]? = some (.inl 7)) (hM : CFl E d' M_X7_held [vr b1, vi b0] I L z I' L') (hlt : d' + 1 ≤ d) (k : Jr z → Ev E d M_X10_heard 24 [vr a0, vi a1, vi a2, vu, vu, vu] [vl z] (G0, cs) I' L' Z) (hc1 : cs.1 ≤ M_X10_heard.2.2.2.2.1 := by decide) (hc2 : cs.2 ≤ M_X10_heard.2.2.2.2.2 := by decide) : Ev E d M_X10_heard 21 [vr a0, vi a1, vi a2, vu, vu, vu] [vi b0, vr b1] (G0, cs) I L Z := E_callV (as := [vi b0]) (rest := []) (n := 1) hM dX10_heard_21 wM_RX10_185 wS_X7_held wV_X7_held hs (by decide) rfl hlt wC_X7_held wI_X7 (by decide +kernel) rfl (by decide) (Nat.le_of_ble_eq_true rfl) hc1 hc2 rfl (fun r g' I2 L2 h => by obtain ⟨rfl, z, rfl, hr, rfl, rfl, rfl⟩ := h; exact k hr)
theorem t43_X10_heard_24 {E : En} {d : Nat} {κ : Kp} {I L : MI} {Z : Zt} {a0 : Nat} {a1 a2 b0 : Int}  (k : Ev E d M_X10_heard 25 [vr a0, vi a1, vi a2, vl b0, vu, vu] [] κ I L Z) : Ev E d M_X10_heard 24 [vr a0, vi a1, vi a2, vu, vu, vu] [vl b0] κ I L Z := E_lstore_n dX10_heard_24 rfl (Nat.le_of_ble_eq_true rfl) k
theorem t43_X10_heard_25 {E : En} {d : Nat} {κ : Kp} {I L : MI} {Z : Zt} {a0 : Nat} {a1 a2 a3 : Int}  (k : Ev E d M_X10_heard 26 [vr a0, vi a1, vi a2, vl a3, vu, vu] [vl a3] κ I L Z) : Ev E d M_X10_heard 25 [vr a0, vi a1, vi a2, vl a3, vu, vu] [] κ I L Z := E_lload_n dX10_heard_25 rfl k
theorem t43_X10_heard_26 {E : En} {d : Nat} {κ : Kp} {I L : MI} {Z : Zt} {a0 : Nat} {a1 a2 a3 b0 : Int}  (k : Ev E d M_X10_heard 27 [vr a0, vi a1, vi a2, vl a3, vu, vu] [vl 0, vl b0] κ I L Z) : Ev E d M_X10_heard 26 [vr a0, vi a1, vi a2, vl a3, vu, vu] [vl b0] κ I L Z := E_lconst (v := 0) dX10_heard_26 rfl k
theorem t43_X10_heard_27 {E : En} {d : Nat} {κ : Kp} {I L : MI} {Z : Zt} {a0 : Nat} {a1 a2 a3 b0 b1 : Int} (hx : Jr b1) (hy : Jr b0) (kt : ¬ b1 = b0 → Ev E d M_X10_heard 35 [vr a0, vi a1, vi a2, vl a3, vu, vu] [] κ I L Z) (kf : b1 = b0 → Ev E d M_X10_heard 31 [vr a0, vi a1, vi a2, vl a3, vu, vu] [] κ I L Z) : Ev E d M_X10_heard 27 [vr a0, vi a1, vi a2, vl a3, vu, vu] [vl b0, vl b1] κ I L Z := E_lcmp_ne dX10_heard_27 dX10_heard_28 hx hy kt kf (by decide)
theorem t43_X10_heard_35 {E : En} {d : Nat} {κ : Kp} {I L : MI} {Z : Zt} {a0 : Nat} {a1 a2 a3 : Int}  (k : Ev E d M_X10_heard 36 [vr a0, vi a1, vi a2, vl a3, vu, vu] [vr a0] κ I L Z) : Ev E d M_X10_heard 35 [vr a0, vi a1, vi a2, vl a3, vu, vu] [] κ I L Z := E_aload_n dX10_heard_35 rfl k
theorem t43_X10_heard_36 {E : En} {d : Nat} {κ : Kp} {I L : MI} {Z : Zt} {a0 b0 : Nat} {a1 a2 a3 : Int} {q : Nat} (hs : κ.1.1[b0]? = some (.inl 10)) (hq : κ.1.2 b0 8 = some q) (k : Ev E d M_X10_heard 39 [vr a0, vi a1, vi a2, vl a3, vu, vu] [vr q] κ I L Z) : Ev E d M_X10_heard 36 [vr a0, vi a1, vi a2, vl a3, vu, vu] [vr b0] κ I L Z := E_getR (ci := 10) (n := 8) dX10_heard_36 wF_RX10_66 (by decide) hs rfl hq k
theorem t43_X10_heard_39 {E : En} {d : Nat} {κ : Kp} {I L : MI} {Z : Zt} {a0 b0 : Nat} {a1 a2 a3 : Int}  (k : Ev E d M_X10_heard 40 [vr a0, vi a1, vi a2, vl a3, vu, vu] [vi a2, vr b0] κ I L Z) : Ev E d M_X10_heard 39 [vr a0, vi a1, vi a2, vl a3, vu, vu] [vr b0] κ I L Z := E_iload_n dX10_heard_39 rfl k
theorem t43_X10_heard_40 {E : En} {d d' : Nat} {cs : Nat × Nat} {I L : MI} {Z : Zt} {a0 b1 : Nat} {a1 a2 a3 b0 : Int} {I' L' : MI} (hs : G0.1[b1]? = some (.inl 4)) (hM : CFv E d' M_X4_begin [vr b1, vi b0] I L I' L') (hlt : d' + 1 ≤ d) (k : Ev E d M_X10_heard 43 [vr a0, vi a1, vi a2, vl a3, vu, vu] [] (G0, cs) I' L' Z) (hc1 : cs.1 ≤ M_X10_heard.2.2.2.2.1 := by decide) (hc2 : cs.2 ≤ M_X10_heard.2.2.2.2.2 := by decide) : Ev E d M_X10_heard 40 [vr a0, vi a1, vi a2, vl a3, vu, vu] [vi b0, vr b1] (G0, cs) I L Z := E_callV (as := [vi b0]) (rest := []) (n := 1) hM dX10_heard_40 wM_RX10_222 wS_X4_begin wV_X4_begin hs (by decide) rfl hlt wC_X4_begin wI_X4 (by decide +kernel) rfl (by decide) (Nat.le_of_ble_eq_true rfl) hc1 hc2 rfl (fun r g' I2 L2 h => by obtain ⟨rfl, rfl, rfl, rfl⟩ := h; exact k)
theorem t43_X10_heard_43 {E : En} {d : Nat} {κ : Kp} {I L : MI} {Z : Zt} {a0 : Nat} {a1 a2 a3 : Int}  (k : Ev E d M_X10_heard 46 [vr a0, vi a1, vi a2, vl a3, vu, vu] [vr 1004] κ I L Z) : Ev E d M_X10_heard 43 [vr a0, vi a1, vi a2, vl a3, vu, vu] [] κ I L Z := E_gets dX10_heard_43 wF_RX10_225 (v := vr 1004) (List.mem_of_getElem? (i := 3) rfl) k
theorem t43_X10_heard_46 {E : En} {d : Nat} {κ : Kp} {I L : MI} {Z : Zt} {a0 b0 : Nat} {a1 a2 a3 : Int} {n kd : Nat} {z : Int} (ha : arr E κ.1 b0 = some (kd, n)) (hk : kd < 6) (hz : (n : Int) = z) (k : Ev E d M_X10_heard 47 [vr a0, vi a1, vi a2, vl a3, vu, vu] [vi z] κ I L Z) : Ev E d M_X10_heard 46 [vr a0, vi a1, vi a2, vl a3, vu, vu] [vr b0] κ I L Z := E_alen dX10_heard_46 ha hk hz k
theorem t43_X10_heard_47 {E : En} {d : Nat} {κ : Kp} {I L : MI} {Z : Zt} {a0 : Nat} {a1 a2 a3 b0 : Int}  (k : Ev E d M_X10_heard 48 [vr a0, vi a1, vi a2, vl a3, vu, vu] [vi 1, vi b0] κ I L Z) : Ev E d M_X10_heard 47 [vr a0, vi a1, vi a2, vl a3, vu, vu] [vi b0] κ I L Z := E_iconst (v := 1) dX10_heard_47 rfl k
theorem t43_X10_heard_48 {E : En} {d : Nat} {κ : Kp} {I L : MI} {Z : Zt} {a0 : Nat} {a1 a2 a3 b0 b1 : Int}  (k : Ev E d M_X10_heard 49 [vr a0, vi a1, vi a2, vl a3, vu, vu] [vi (b1 - b0)] κ I L Z) : Ev E d M_X10_heard 48 [vr a0, vi a1, vi a2, vl a3, vu, vu] [vi b0, vi b1] κ I L Z := E_isub dX10_heard_48 k
theorem t43_X10_heard_49 {E : En} {d : Nat} {κ : Kp} {I L : MI} {Z : Zt} {a0 : Nat} {a1 a2 a3 b0 : Int}  (k : Ev E d M_X10_heard 51 [vr a0, vi a1, vi a2, vl a3, vu, vi b0] [] κ I L Z) : Ev E d M_X10_heard 49 [vr a0, vi a1, vi a2, vl a3, vu, vu] [vi b0] κ I L Z := E_istore dX10_heard_49 rfl (Nat.le_of_ble_eq_true rfl) k
theorem t43_X10_heard_31 {E : En} {d : Nat} {κ : Kp} {I L : MI} {Z : Zt} {a0 : Nat} {a1 a2 a3 : Int}  (k : Ev E d M_X10_heard 34 [vr a0, vi a1, vi a2, vl a3, vu, vu] [vl (-9000000000000000002)] κ I L Z) : Ev E d M_X10_heard 31 [vr a0, vi a1, vi a2, vl a3, vu, vu] [] κ I L Z := E_ldc2 (v := (-9000000000000000002)) dX10_heard_31 wK_RX10_196 k
theorem t43_X10_heard_34 {E : En} {d : Nat} {g : Geo} {I L : MI} {Q : Option AV → Geo → MI → MI → Prop} {cs : Nat × Nat} {a0 : Nat} {a1 a2 a3 b0 : Int} (hq : Q (some (vl b0)) g I L) (h1 : cs.1 ≤ M_X10_heard.2.2.2.2.1 := by decide) (h2 : cs.2 ≤ M_X10_heard.2.2.2.2.2 := by decide) : Ev E d M_X10_heard 34 [vr a0, vi a1, vi a2, vl a3, vu, vu] [vl b0] (g, cs) I L (ZQ E M_X10_heard Q) := E_lreturn rfl dX10_heard_34 hq h1 h2
theorem t43_X10_heard_12 {E : En} {d : Nat} {κ : Kp} {I L : MI} {Z : Zt} {a0 : Nat} {a1 a2 : Int}  (k : Ev E d M_X10_heard 15 [vr a0, vi a1, vi a2, vu, vu, vu] [vl (-9000000000000000001)] κ I L Z) : Ev E d M_X10_heard 12 [vr a0, vi a1, vi a2, vu, vu, vu] [] κ I L Z := E_ldc2 (v := (-9000000000000000001)) dX10_heard_12 wK_RX10_89 k
theorem t43_X10_heard_15 {E : En} {d : Nat} {g : Geo} {I L : MI} {Q : Option AV → Geo → MI → MI → Prop} {cs : Nat × Nat} {a0 : Nat} {a1 a2 b0 : Int} (hq : Q (some (vl b0)) g I L) (h1 : cs.1 ≤ M_X10_heard.2.2.2.2.1 := by decide) (h2 : cs.2 ≤ M_X10_heard.2.2.2.2.2 := by decide) : Ev E d M_X10_heard 15 [vr a0, vi a1, vi a2, vu, vu, vu] [vl b0] (g, cs) I L (ZQ E M_X10_heard Q) := E_lreturn rfl dX10_heard_15 hq h1 h2
theorem t43_X10_plus_48 {E : En} {d : Nat} {κ : Kp} {I L : MI} {Z : Zt} {a0 : Nat} {a1 a2 a3 : Int}  (k : Ev E d M_X10_plus 49 [vr a0, vi a1, vi a2, vi a3] [vi a3] κ I L Z) : Ev E d M_X10_plus 48 [vr a0, vi a1, vi a2, vi a3] [] κ I L Z := E_iload_n dX10_plus_48 rfl k
theorem t43_X10_plus_49 {E : En} {d : Nat} {κ : Kp} {I L : MI} {Z : Zt} {a0 : Nat} {a1 a2 a3 b0 : Int}  (k : Ev E d M_X10_plus 50 [vr a0, vi a1, vi a2, vi a3] [vi a1, vi b0] κ I L Z) : Ev E d M_X10_plus 49 [vr a0, vi a1, vi a2, vi a3] [vi b0] κ I L Z := E_iload_n dX10_plus_49 rfl k
theorem t43_X10_plus_50 {E : En} {d : Nat} {κ : Kp} {I L : MI} {Z : Zt} {a0 : Nat} {a1 a2 a3 b0 b1 : Int}  (k : Ev E d M_X10_plus 51 [vr a0, vi a1, vi a2, vi a3] [vi 2, vi b0, vi b1] κ I L Z) : Ev E d M_X10_plus 50 [vr a0, vi a1, vi a2, vi a3] [vi b0, vi b1] κ I L Z := E_iconst (v := 2) dX10_plus_50 rfl k
theorem t43_X10_plus_51 {E : En} {d : Nat} {κ : Kp} {I L : MI} {Z : Zt} {a0 : Nat} {a1 a2 a3 b0 b1 b2 : Int} (hx : Ir b1) (hy : Ir b0) (h0 : b0 ≠ 0) (hm : b0 ≠ -1) (k : Ev E d M_X10_plus 52 [vr a0, vi a1, vi a2, vi a3] [vi (b1.tdiv b0), vi b2] κ I L Z) : Ev E d M_X10_plus 51 [vr a0, vi a1, vi a2, vi a3] [vi b0, vi b1, vi b2] κ I L Z := E_idiv dX10_plus_51 hx hy h0 hm k
theorem t43_X10_plus_52 {E : En} {d : Nat} {κ : Kp} {I L : MI} {Z : Zt} {a0 : Nat} {a1 a2 a3 b0 b1 : Int} (hx : Ir b1) (hy : Ir b0) (kt : b0 < b1 → Ev E d M_X10_plus 110 [vr a0, vi a1, vi a2, vi a3] [] κ I L Z) (kf : b1 ≤ b0 → Ev E d M_X10_plus 55 [vr a0, vi a1, vi a2, vi a3] [] κ I L Z) : Ev E d M_X10_plus 52 [vr a0, vi a1, vi a2, vi a3] [vi b0, vi b1] κ I L Z := E_icmp_gt dX10_plus_52 hx hy kt kf (by decide)
theorem t43_X10_plus_110 {E : En} {d : Nat} {κ : Kp} {I L : MI} {Z : Zt} {a0 : Nat} {a1 a2 a3 : Int}  (k : Ev E d M_X10_plus 111 [vr a0, vi a1, vi a2, vi a3] [vr a0] κ I L Z) : Ev E d M_X10_plus 110 [vr a0, vi a1, vi a2, vi a3] [] κ I L Z := E_aload_n dX10_plus_110 rfl k
theorem t43_X10_plus_111 {E : En} {d : Nat} {κ : Kp} {I L : MI} {Z : Zt} {a0 b0 : Nat} {a1 a2 a3 : Int} {q : Nat} (hs : κ.1.1[b0]? = some (.inl 10)) (hq : κ.1.2 b0 8 = some q) (k : Ev E d M_X10_plus 114 [vr a0, vi a1, vi a2, vi a3] [vr q] κ I L Z) : Ev E d M_X10_plus 111 [vr a0, vi a1, vi a2, vi a3] [vr b0] κ I L Z := E_getR (ci := 10) (n := 8) dX10_plus_111 wF_RX10_66 (by decide) hs rfl hq k
theorem t43_X10_plus_114 {E : En} {d d' : Nat} {cs : Nat × Nat} {I L : MI} {Z : Zt} {a0 b0 : Nat} {a1 a2 a3 : Int} {z : Int} {I' L' : MI} (hs : G0.1[b0]? = some (.inl 4)) (hM : CFl E d' M_X4_answer [vr b0] I L z I' L') (hlt : d' + 1 ≤ d) (k : Jr z → Ev E d M_X10_plus 117 [vr a0, vi a1, vi a2, vi a3] [vl z] (G0, cs) I' L' Z) (hc1 : cs.1 ≤ M_X10_plus.2.2.2.2.1 := by decide) (hc2 : cs.2 ≤ M_X10_plus.2.2.2.2.2 := by decide) : Ev E d M_X10_plus 114 [vr a0, vi a1, vi a2, vi a3] [vr b0] (G0, cs) I L Z := E_callV (as := []) (rest := []) (n := 0) hM dX10_plus_114 wM_RX10_236 wS_X4_answer wV_X4_answer hs (by decide) rfl hlt wC_X4_answer wI_X4 (by decide +kernel) rfl (by decide) (Nat.le_of_ble_eq_true rfl) hc1 hc2 rfl (fun r g' I2 L2 h => by obtain ⟨rfl, z, rfl, hr, rfl, rfl, rfl⟩ := h; exact k hr)
theorem t43_X10_plus_117 {E : En} {d : Nat} {g : Geo} {I L : MI} {Q : Option AV → Geo → MI → MI → Prop} {cs : Nat × Nat} {a0 : Nat} {a1 a2 a3 b0 : Int} (hq : Q (some (vl b0)) g I L) (h1 : cs.1 ≤ M_X10_plus.2.2.2.2.1 := by decide) (h2 : cs.2 ≤ M_X10_plus.2.2.2.2.2 := by decide) : Ev E d M_X10_plus 117 [vr a0, vi a1, vi a2, vi a3] [vl b0] (g, cs) I L (ZQ E M_X10_plus Q) := E_lreturn rfl dX10_plus_117 hq h1 h2
theorem t43_X10_plus_55 {E : En} {d : Nat} {κ : Kp} {I L : MI} {Z : Zt} {a0 : Nat} {a1 a2 a3 : Int}  (k : Ev E d M_X10_plus 56 [vr a0, vi a1, vi a2, vi a3] [vr a0] κ I L Z) : Ev E d M_X10_plus 55 [vr a0, vi a1, vi a2, vi a3] [] κ I L Z := E_aload_n dX10_plus_55 rfl k
theorem t43_X10_plus_56 {E : En} {d : Nat} {κ : Kp} {I L : MI} {Z : Zt} {a0 b0 : Nat} {a1 a2 a3 : Int} {q : Nat} (hs : κ.1.1[b0]? = some (.inl 10)) (hq : κ.1.2 b0 7 = some q) (k : Ev E d M_X10_plus 59 [vr a0, vi a1, vi a2, vi a3] [vr q] κ I L Z) : Ev E d M_X10_plus 56 [vr a0, vi a1, vi a2, vi a3] [vr b0] κ I L Z := E_getR (ci := 10) (n := 7) dX10_plus_56 wF_RX10_59 (by decide) hs rfl hq k
theorem t43_X10_plus_59 {E : En} {d : Nat} {κ : Kp} {I L : MI} {Z : Zt} {a0 b0 : Nat} {a1 a2 a3 : Int}  (k : Ev E d M_X10_plus 60 [vr a0, vi a1, vi a2, vi a3] [vr a0, vr b0] κ I L Z) : Ev E d M_X10_plus 59 [vr a0, vi a1, vi a2, vi a3] [vr b0] κ I L Z := E_aload_n dX10_plus_59 rfl k
theorem t43_X10_plus_60 {E : En} {d : Nat} {κ : Kp} {I L : MI} {Z : Zt} {a0 b0 b1 : Nat} {a1 a2 a3 : Int} {q : Nat} (hs : κ.1.1[b0]? = some (.inl 10)) (hq : κ.1.2 b0 4 = some q) (k : Ev E d M_X10_plus 63 [vr a0, vi a1, vi a2, vi a3] [vr q, vr b1] κ I L Z) : Ev E d M_X10_plus 60 [vr a0, vi a1, vi a2, vi a3] [vr b0, vr b1] κ I L Z := E_getR (ci := 10) (n := 4) dX10_plus_60 wF_RX10_41 (by decide) hs rfl hq k
theorem t43_X10_plus_63 {E : En} {d : Nat} {κ : Kp} {I L : MI} {Z : Zt} {a0 b0 b1 : Nat} {a1 a2 a3 : Int} {q : Nat} (hs : κ.1.1[b0]? = some (.inl 7)) (hq : κ.1.2 b0 0 = some q) (k : Ev E d M_X10_plus 66 [vr a0, vi a1, vi a2, vi a3] [vr q, vr b1] κ I L Z) : Ev E d M_X10_plus 63 [vr a0, vi a1, vi a2, vi a3] [vr b0, vr b1] κ I L Z := E_getR (ci := 7) (n := 0) dX10_plus_63 wF_RX10_190 (by decide) hs rfl hq k
theorem t43_X10_plus_66 {E : En} {d : Nat} {κ : Kp} {I L : MI} {Z : Zt} {a0 b0 b1 : Nat} {a1 a2 a3 : Int}  (k : Ev E d M_X10_plus 67 [vr a0, vi a1, vi a2, vi a3] [vi a3, vr b0, vr b1] κ I L Z) : Ev E d M_X10_plus 66 [vr a0, vi a1, vi a2, vi a3] [vr b0, vr b1] κ I L Z := E_iload_n dX10_plus_66 rfl k
theorem t43_X10_plus_67 {E : En} {d : Nat} {κ : Kp} {I L : MI} {Z : Zt} {a0 b1 b2 : Nat} {a1 a2 a3 b0 : Int} (hx : Ir b0) (k : Ev E d M_X10_plus 68 [vr a0, vi a1, vi a2, vi a3] [vl b0, vr b1, vr b2] κ I L Z) : Ev E d M_X10_plus 67 [vr a0, vi a1, vi a2, vi a3] [vi b0, vr b1, vr b2] κ I L Z := E_i2l dX10_plus_67 hx k
theorem t43_X10_plus_68 {E : En} {d d' : Nat} {cs : Nat × Nat} {I L : MI} {Z : Zt} {a0 b1 b2 : Nat} {a1 a2 a3 b0 : Int} {Q : Int → MI → MI → Prop} (hs : G0.1[b2]? = some (.inl 2)) (hM : CQi E d' M_X2_isGood [vr b2, vr b1, vl b0] I L Q) (hlt : d' + 1 ≤ d) (kk : ∀ (z : Int) (I' L' : MI), Q z I' L' → Ev E d M_X10_plus 71 [vr a0, vi a1, vi a2, vi a3] [vi z] (G0, cs) I' L' Z) (hc1 : cs.1 ≤ M_X10_plus.2.2.2.2.1 := by decide) (hc2 : cs.2 ≤ M_X10_plus.2.2.2.2.2 := by decide) : Ev E d M_X10_plus 68 [vr a0, vi a1, vi a2, vi a3] [vl b0, vr b1, vr b2] (G0, cs) I L Z := E_callV (as := [vr b1, vl b0]) (rest := []) (n := 2) hM dX10_plus_68 wM_RX10_269 wS_X2_isGood wV_X2_isGood hs (by decide) rfl hlt wC_X2_isGood wI_X2 (by decide +kernel) rfl (by decide) (Nat.le_of_ble_eq_true rfl) hc1 hc2 rfl (fun r g' I' L' h => by obtain ⟨rfl, z, rfl, h⟩ := h; exact kk z I' L' h)
theorem t43_X10_plus_71 {E : En} {d : Nat} {κ : Kp} {I L : MI} {Z : Zt} {a0 : Nat} {a1 a2 a3 b0 : Int} (hx : Ir b0) (kt : b0 = 0 → Ev E d M_X10_plus 104 [vr a0, vi a1, vi a2, vi a3] [] κ I L Z) (kf : ¬ b0 = 0 → Ev E d M_X10_plus 74 [vr a0, vi a1, vi a2, vi a3] [] κ I L Z) : Ev E d M_X10_plus 71 [vr a0, vi a1, vi a2, vi a3] [vi b0] κ I L Z := E_if_eq dX10_plus_71 hx kt kf (by decide)
theorem t43_X10_plus_104 {E : En} {d : Nat} {κ : Kp} {I L : MI} {Z : Zt} {a0 : Nat} {a1 a2 a3 : Int}  (k : Ev E d M_X10_plus 107 [vr a0, vi a1, vi a2, vi (a3 + 1)] [] κ I L Z) : Ev E d M_X10_plus 104 [vr a0, vi a1, vi a2, vi a3] [] κ I L Z := E_iinc dX10_plus_104 rfl rfl (Nat.le_of_ble_eq_true rfl) k
theorem t43_X10_plus_107 {E : En} {d : Nat} {κ : Kp} {I L : MI} {Z : Zt} {a0 : Nat} {a1 a2 a3 : Int}  (k : Ev E d M_X10_plus 48 [vr a0, vi a1, vi a2, vi a3] [] κ I L Z) : Ev E d M_X10_plus 107 [vr a0, vi a1, vi a2, vi a3] [] κ I L Z := E_goto dX10_plus_107 (by decide) k
theorem t43_X10_plus_74 {E : En} {d : Nat} {κ : Kp} {I L : MI} {Z : Zt} {a0 : Nat} {a1 a2 a3 : Int}  (k : Ev E d M_X10_plus 75 [vr a0, vi a1, vi a2, vi a3] [vr a0] κ I L Z) : Ev E d M_X10_plus 74 [vr a0, vi a1, vi a2, vi a3] [] κ I L Z := E_aload_n dX10_plus_74 rfl k
theorem t43_X10_plus_75 {E : En} {d : Nat} {κ : Kp} {I L : MI} {Z : Zt} {a0 b0 : Nat} {a1 a2 a3 : Int} {q : Nat} (hs : κ.1.1[b0]? = some (.inl 10)) (hq : κ.1.2 b0 7 = some q) (k : Ev E d M_X10_plus 78 [vr a0, vi a1, vi a2, vi a3] [vr q] κ I L Z) : Ev E d M_X10_plus 75 [vr a0, vi a1, vi a2, vi a3] [vr b0] κ I L Z := E_getR (ci := 10) (n := 7) dX10_plus_75 wF_RX10_59 (by decide) hs rfl hq k
theorem t43_X10_plus_78 {E : En} {d : Nat} {κ : Kp} {I L : MI} {Z : Zt} {a0 b0 : Nat} {a1 a2 a3 : Int}  (k : Ev E d M_X10_plus 79 [vr a0, vi a1, vi a2, vi a3] [vr a0, vr b0] κ I L Z) : Ev E d M_X10_plus 78 [vr a0, vi a1, vi a2, vi a3] [vr b0] κ I L Z := E_aload_n dX10_plus_78 rfl k
theorem t43_X10_plus_79 {E : En} {d : Nat} {κ : Kp} {I L : MI} {Z : Zt} {a0 b0 b1 : Nat} {a1 a2 a3 : Int} {q : Nat} (hs : κ.1.1[b0]? = some (.inl 10)) (hq : κ.1.2 b0 4 = some q) (k : Ev E d M_X10_plus 82 [vr a0, vi a1, vi a2, vi a3] [vr q, vr b1] κ I L Z) : Ev E d M_X10_plus 79 [vr a0, vi a1, vi a2, vi a3] [vr b0, vr b1] κ I L Z := E_getR (ci := 10) (n := 4) dX10_plus_79 wF_RX10_41 (by decide) hs rfl hq k
theorem t43_X10_plus_82 {E : En} {d : Nat} {κ : Kp} {I L : MI} {Z : Zt} {a0 b0 b1 : Nat} {a1 a2 a3 : Int} {q : Nat} (hs : κ.1.1[b0]? = some (.inl 7)) (hq : κ.1.2 b0 0 = some q) (k : Ev E d M_X10_plus 85 [vr a0, vi a1, vi a2, vi a3] [vr q, vr b1] κ I L Z) : Ev E d M_X10_plus 82 [vr a0, vi a1, vi a2, vi a3] [vr b0, vr b1] κ I L Z := E_getR (ci := 7) (n := 0) dX10_plus_82 wF_RX10_190 (by decide) hs rfl hq k
theorem t43_X10_plus_85 {E : En} {d : Nat} {κ : Kp} {I L : MI} {Z : Zt} {a0 b0 b1 : Nat} {a1 a2 a3 : Int}  (k : Ev E d M_X10_plus 86 [vr a0, vi a1, vi a2, vi a3] [vi a1, vr b0, vr b1] κ I L Z) : Ev E d M_X10_plus 85 [vr a0, vi a1, vi a2, vi a3] [vr b0, vr b1] κ I L Z := E_iload_n dX10_plus_85 rfl k
theorem t43_X10_plus_86 {E : En} {d : Nat} {κ : Kp} {I L : MI} {Z : Zt} {a0 b1 b2 : Nat} {a1 a2 a3 b0 : Int}  (k : Ev E d M_X10_plus 87 [vr a0, vi a1, vi a2, vi a3] [vi a3, vi b0, vr b1, vr b2] κ I L Z) : Ev E d M_X10_plus 86 [vr a0, vi a1, vi a2, vi a3] [vi b0, vr b1, vr b2] κ I L Z := E_iload_n dX10_plus_86 rfl k
theorem t43_X10_plus_87 {E : En} {d : Nat} {κ : Kp} {I L : MI} {Z : Zt} {a0 b2 b3 : Nat} {a1 a2 a3 b0 b1 : Int}  (k : Ev E d M_X10_plus 88 [vr a0, vi a1, vi a2, vi a3] [vi (b1 - b0), vr b2, vr b3] κ I L Z) : Ev E d M_X10_plus 87 [vr a0, vi a1, vi a2, vi a3] [vi b0, vi b1, vr b2, vr b3] κ I L Z := E_isub dX10_plus_87 k
theorem t43_X10_plus_88 {E : En} {d : Nat} {κ : Kp} {I L : MI} {Z : Zt} {a0 b1 b2 : Nat} {a1 a2 a3 b0 : Int} (hx : Ir b0) (k : Ev E d M_X10_plus 89 [vr a0, vi a1, vi a2, vi a3] [vl b0, vr b1, vr b2] κ I L Z) : Ev E d M_X10_plus 88 [vr a0, vi a1, vi a2, vi a3] [vi b0, vr b1, vr b2] κ I L Z := E_i2l dX10_plus_88 hx k
theorem t43_X10_plus_89 {E : En} {d d' : Nat} {cs : Nat × Nat} {I L : MI} {Z : Zt} {a0 b1 b2 : Nat} {a1 a2 a3 b0 : Int} {Q : Int → MI → MI → Prop} (hs : G0.1[b2]? = some (.inl 2)) (hM : CQi E d' M_X2_isGood [vr b2, vr b1, vl b0] I L Q) (hlt : d' + 1 ≤ d) (kk : ∀ (z : Int) (I' L' : MI), Q z I' L' → Ev E d M_X10_plus 92 [vr a0, vi a1, vi a2, vi a3] [vi z] (G0, cs) I' L' Z) (hc1 : cs.1 ≤ M_X10_plus.2.2.2.2.1 := by decide) (hc2 : cs.2 ≤ M_X10_plus.2.2.2.2.2 := by decide) : Ev E d M_X10_plus 89 [vr a0, vi a1, vi a2, vi a3] [vl b0, vr b1, vr b2] (G0, cs) I L Z := E_callV (as := [vr b1, vl b0]) (rest := []) (n := 2) hM dX10_plus_89 wM_RX10_269 wS_X2_isGood wV_X2_isGood hs (by decide) rfl hlt wC_X2_isGood wI_X2 (by decide +kernel) rfl (by decide) (Nat.le_of_ble_eq_true rfl) hc1 hc2 rfl (fun r g' I' L' h => by obtain ⟨rfl, z, rfl, h⟩ := h; exact kk z I' L' h)
theorem t43_X10_plus_92 {E : En} {d : Nat} {κ : Kp} {I L : MI} {Z : Zt} {a0 : Nat} {a1 a2 a3 b0 : Int} (hx : Ir b0) (kt : b0 = 0 → Ev E d M_X10_plus 104 [vr a0, vi a1, vi a2, vi a3] [] κ I L Z) (kf : ¬ b0 = 0 → Ev E d M_X10_plus 95 [vr a0, vi a1, vi a2, vi a3] [] κ I L Z) : Ev E d M_X10_plus 92 [vr a0, vi a1, vi a2, vi a3] [vi b0] κ I L Z := E_if_eq dX10_plus_92 hx kt kf (by decide)
theorem t43_X10_plus_95 {E : En} {d : Nat} {κ : Kp} {I L : MI} {Z : Zt} {a0 : Nat} {a1 a2 a3 : Int}  (k : Ev E d M_X10_plus 96 [vr a0, vi a1, vi a2, vi a3] [vr a0] κ I L Z) : Ev E d M_X10_plus 95 [vr a0, vi a1, vi a2, vi a3] [] κ I L Z := E_aload_n dX10_plus_95 rfl k
theorem t43_X10_plus_96 {E : En} {d : Nat} {κ : Kp} {I L : MI} {Z : Zt} {a0 b0 : Nat} {a1 a2 a3 : Int} {q : Nat} (hs : κ.1.1[b0]? = some (.inl 10)) (hq : κ.1.2 b0 8 = some q) (k : Ev E d M_X10_plus 99 [vr a0, vi a1, vi a2, vi a3] [vr q] κ I L Z) : Ev E d M_X10_plus 96 [vr a0, vi a1, vi a2, vi a3] [vr b0] κ I L Z := E_getR (ci := 10) (n := 8) dX10_plus_96 wF_RX10_66 (by decide) hs rfl hq k
theorem t43_X10_plus_99 {E : En} {d : Nat} {κ : Kp} {I L : MI} {Z : Zt} {a0 b0 : Nat} {a1 a2 a3 : Int}  (k : Ev E d M_X10_plus 100 [vr a0, vi a1, vi a2, vi a3] [vi a3, vr b0] κ I L Z) : Ev E d M_X10_plus 99 [vr a0, vi a1, vi a2, vi a3] [vr b0] κ I L Z := E_iload_n dX10_plus_99 rfl k
theorem t43_X10_plus_100 {E : En} {d : Nat} {κ : Kp} {I L : MI} {Z : Zt} {a0 b1 : Nat} {a1 a2 a3 b0 : Int} (hx : Ir b0) (k : Ev E d M_X10_plus 101 [vr a0, vi a1, vi a2, vi a3] [vl b0, vr b1] κ I L Z) : Ev E d M_X10_plus 100 [vr a0, vi a1, vi a2, vi a3] [vi b0, vr b1] κ I L Z := E_i2l dX10_plus_100 hx k
theorem t43_X10_plus_101 {E : En} {d d' : Nat} {cs : Nat × Nat} {I L : MI} {Z : Zt} {a0 b1 : Nat} {a1 a2 a3 b0 : Int} {I' L' : MI} (hs : G0.1[b1]? = some (.inl 4)) (hM : CFv E d' M_X4_offer [vr b1, vl b0] I L I' L') (hlt : d' + 1 ≤ d) (k : Ev E d M_X10_plus 104 [vr a0, vi a1, vi a2, vi a3] [] (G0, cs) I' L' Z) (hc1 : cs.1 ≤ M_X10_plus.2.2.2.2.1 := by decide) (hc2 : cs.2 ≤ M_X10_plus.2.2.2.2.2 := by decide) : Ev E d M_X10_plus 101 [vr a0, vi a1, vi a2, vi a3] [vl b0, vr b1] (G0, cs) I L Z := E_callV (as := [vl b0]) (rest := []) (n := 1) hM dX10_plus_101 wM_RX10_273 wS_X4_offer wV_X4_offer hs (by decide) rfl hlt wC_X4_offer wI_X4 (by decide +kernel) rfl (by decide) (Nat.le_of_ble_eq_true rfl) hc1 hc2 rfl (fun r g' I2 L2 h => by obtain ⟨rfl, rfl, rfl, rfl⟩ := h; exact k)
theorem t43_X10_plus_0 {E : En} {d : Nat} {κ : Kp} {I L : MI} {Z : Zt} {a0 : Nat} {a1 a2 : Int}  (k : Ev E d M_X10_plus 1 [vr a0, vi a1, vi a2, vu] [vr a0] κ I L Z) : Ev E d M_X10_plus 0 [vr a0, vi a1, vi a2, vu] [] κ I L Z := E_aload_n dX10_plus_0 rfl k
theorem t43_X10_plus_1 {E : En} {d : Nat} {κ : Kp} {I L : MI} {Z : Zt} {a0 b0 : Nat} {a1 a2 : Int} {q : Nat} (hs : κ.1.1[b0]? = some (.inl 10)) (hq : κ.1.2 b0 4 = some q) (k : Ev E d M_X10_plus 4 [vr a0, vi a1, vi a2, vu] [vr q] κ I L Z) : Ev E d M_X10_plus 1 [vr a0, vi a1, vi a2, vu] [vr b0] κ I L Z := E_getR (ci := 10) (n := 4) dX10_plus_1 wF_RX10_41 (by decide) hs rfl hq k
theorem t43_X10_plus_4 {E : En} {d : Nat} {κ : Kp} {I L : MI} {Z : Zt} {a0 b0 : Nat} {a1 a2 : Int} {q : Nat} (hs : κ.1.1[b0]? = some (.inl 7)) (hq : κ.1.2 b0 0 = some q) (k : Ev E d M_X10_plus 7 [vr a0, vi a1, vi a2, vu] [vr q] κ I L Z) : Ev E d M_X10_plus 4 [vr a0, vi a1, vi a2, vu] [vr b0] κ I L Z := E_getR (ci := 7) (n := 0) dX10_plus_4 wF_RX10_190 (by decide) hs rfl hq k
theorem t43_X10_plus_7 {E : En} {d : Nat} {κ : Kp} {I L : MI} {Z : Zt} {a0 b0 : Nat} {a1 a2 : Int} (hs : κ.1.1[b0]? = some (.inl 9)) (k : Ir (I b0 0) → Ev E d M_X10_plus 10 [vr a0, vi a1, vi a2, vu] [vi (I b0 0)] κ I L Z) : Ev E d M_X10_plus 7 [vr a0, vi a1, vi a2, vu] [vr b0] κ I L Z := E_getI (ci := 9) (n := 0) dX10_plus_7 wF_RX10_169 (by decide) hs rfl k
theorem t43_X10_plus_10 {E : En} {d : Nat} {κ : Kp} {I L : MI} {Z : Zt} {a0 : Nat} {a1 a2 b0 : Int} (hx : Ir b0) (kt : ¬ b0 = 0 → Ev E d M_X10_plus 17 [vr a0, vi a1, vi a2, vu] [] κ I L Z) (kf : b0 = 0 → Ev E d M_X10_plus 13 [vr a0, vi a1, vi a2, vu] [] κ I L Z) : Ev E d M_X10_plus 10 [vr a0, vi a1, vi a2, vu] [vi b0] κ I L Z := E_if_ne dX10_plus_10 hx kt kf (by decide)
theorem t43_X10_plus_17 {E : En} {d : Nat} {κ : Kp} {I L : MI} {Z : Zt} {a0 : Nat} {a1 a2 : Int}  (k : Ev E d M_X10_plus 18 [vr a0, vi a1, vi a2, vu] [vi a1] κ I L Z) : Ev E d M_X10_plus 17 [vr a0, vi a1, vi a2, vu] [] κ I L Z := E_iload_n dX10_plus_17 rfl k
theorem t43_X10_plus_18 {E : En} {d : Nat} {κ : Kp} {I L : MI} {Z : Zt} {a0 : Nat} {a1 a2 b0 : Int}  (k : Ev E d M_X10_plus 19 [vr a0, vi a1, vi a2, vu] [vi 2, vi b0] κ I L Z) : Ev E d M_X10_plus 18 [vr a0, vi a1, vi a2, vu] [vi b0] κ I L Z := E_iconst (v := 2) dX10_plus_18 rfl k
theorem t43_X10_plus_19 {E : En} {d : Nat} {κ : Kp} {I L : MI} {Z : Zt} {a0 : Nat} {a1 a2 b0 b1 : Int} (hx : Ir b1) (hy : Ir b0) (kt : b1 < b0 → Ev E d M_X10_plus 34 [vr a0, vi a1, vi a2, vu] [] κ I L Z) (kf : b0 ≤ b1 → Ev E d M_X10_plus 22 [vr a0, vi a1, vi a2, vu] [] κ I L Z) : Ev E d M_X10_plus 19 [vr a0, vi a1, vi a2, vu] [vi b0, vi b1] κ I L Z := E_icmp_lt dX10_plus_19 hx hy kt kf (by decide)
theorem t43_X10_plus_34 {E : En} {d : Nat} {κ : Kp} {I L : MI} {Z : Zt} {a0 : Nat} {a1 a2 : Int}  (k : Ev E d M_X10_plus 37 [vr a0, vi a1, vi a2, vu] [vl (-9000000000000000001)] κ I L Z) : Ev E d M_X10_plus 34 [vr a0, vi a1, vi a2, vu] [] κ I L Z := E_ldc2 (v := (-9000000000000000001)) dX10_plus_34 wK_RX10_89 k
theorem t43_X10_plus_37 {E : En} {d : Nat} {g : Geo} {I L : MI} {Q : Option AV → Geo → MI → MI → Prop} {cs : Nat × Nat} {a0 : Nat} {a1 a2 b0 : Int} (hq : Q (some (vl b0)) g I L) (h1 : cs.1 ≤ M_X10_plus.2.2.2.2.1 := by decide) (h2 : cs.2 ≤ M_X10_plus.2.2.2.2.2 := by decide) : Ev E d M_X10_plus 37 [vr a0, vi a1, vi a2, vu] [vl b0] (g, cs) I L (ZQ E M_X10_plus Q) := E_lreturn rfl dX10_plus_37 hq h1 h2
theorem t43_X10_plus_22 {E : En} {d : Nat} {κ : Kp} {I L : MI} {Z : Zt} {a0 : Nat} {a1 a2 : Int}  (k : Ev E d M_X10_plus 23 [vr a0, vi a1, vi a2, vu] [vi a1] κ I L Z) : Ev E d M_X10_plus 22 [vr a0, vi a1, vi a2, vu] [] κ I L Z := E_iload_n dX10_plus_22 rfl k
theorem t43_X10_plus_23 {E : En} {d : Nat} {κ : Kp} {I L : MI} {Z : Zt} {a0 : Nat} {a1 a2 b0 : Int}  (k : Ev E d M_X10_plus 26 [vr a0, vi a1, vi a2, vu] [vi 2000, vi b0] κ I L Z) : Ev E d M_X10_plus 23 [vr a0, vi a1, vi a2, vu] [vi b0] κ I L Z := E_sipush (v := 2000) dX10_plus_23 rfl k
theorem t43_X10_plus_26 {E : En} {d : Nat} {κ : Kp} {I L : MI} {Z : Zt} {a0 : Nat} {a1 a2 b0 b1 : Int} (hx : Ir b1) (hy : Ir b0) (kt : b0 < b1 → Ev E d M_X10_plus 34 [vr a0, vi a1, vi a2, vu] [] κ I L Z) (kf : b1 ≤ b0 → Ev E d M_X10_plus 29 [vr a0, vi a1, vi a2, vu] [] κ I L Z) : Ev E d M_X10_plus 26 [vr a0, vi a1, vi a2, vu] [vi b0, vi b1] κ I L Z := E_icmp_gt dX10_plus_26 hx hy kt kf (by decide)
theorem t43_X10_plus_29 {E : En} {d : Nat} {κ : Kp} {I L : MI} {Z : Zt} {a0 : Nat} {a1 a2 : Int}  (k : Ev E d M_X10_plus 30 [vr a0, vi a1, vi a2, vu] [vi a2] κ I L Z) : Ev E d M_X10_plus 29 [vr a0, vi a1, vi a2, vu] [] κ I L Z := E_iload_n dX10_plus_29 rfl k
theorem t43_X10_plus_30 {E : En} {d : Nat} {κ : Kp} {I L : MI} {Z : Zt} {a0 : Nat} {a1 a2 b0 : Int}  (k : Ev E d M_X10_plus 31 [vr a0, vi a1, vi a2, vu] [vi (-1), vi b0] κ I L Z) : Ev E d M_X10_plus 30 [vr a0, vi a1, vi a2, vu] [vi b0] κ I L Z := E_iconst (v := (-1)) dX10_plus_30 rfl k
theorem t43_X10_plus_31 {E : En} {d : Nat} {κ : Kp} {I L : MI} {Z : Zt} {a0 : Nat} {a1 a2 b0 b1 : Int} (hx : Ir b1) (hy : Ir b0) (kt : b0 ≤ b1 → Ev E d M_X10_plus 38 [vr a0, vi a1, vi a2, vu] [] κ I L Z) (kf : b1 < b0 → Ev E d M_X10_plus 34 [vr a0, vi a1, vi a2, vu] [] κ I L Z) : Ev E d M_X10_plus 31 [vr a0, vi a1, vi a2, vu] [vi b0, vi b1] κ I L Z := E_icmp_ge dX10_plus_31 hx hy kt kf (by decide)
theorem t43_X10_plus_38 {E : En} {d : Nat} {κ : Kp} {I L : MI} {Z : Zt} {a0 : Nat} {a1 a2 : Int}  (k : Ev E d M_X10_plus 39 [vr a0, vi a1, vi a2, vu] [vr a0] κ I L Z) : Ev E d M_X10_plus 38 [vr a0, vi a1, vi a2, vu] [] κ I L Z := E_aload_n dX10_plus_38 rfl k
theorem t43_X10_plus_39 {E : En} {d : Nat} {κ : Kp} {I L : MI} {Z : Zt} {a0 b0 : Nat} {a1 a2 : Int} {q : Nat} (hs : κ.1.1[b0]? = some (.inl 10)) (hq : κ.1.2 b0 8 = some q) (k : Ev E d M_X10_plus 42 [vr a0, vi a1, vi a2, vu] [vr q] κ I L Z) : Ev E d M_X10_plus 39 [vr a0, vi a1, vi a2, vu] [vr b0] κ I L Z := E_getR (ci := 10) (n := 8) dX10_plus_39 wF_RX10_66 (by decide) hs rfl hq k
theorem t43_X10_plus_42 {E : En} {d : Nat} {κ : Kp} {I L : MI} {Z : Zt} {a0 b0 : Nat} {a1 a2 : Int}  (k : Ev E d M_X10_plus 43 [vr a0, vi a1, vi a2, vu] [vi a2, vr b0] κ I L Z) : Ev E d M_X10_plus 42 [vr a0, vi a1, vi a2, vu] [vr b0] κ I L Z := E_iload_n dX10_plus_42 rfl k
theorem t43_X10_plus_43 {E : En} {d d' : Nat} {cs : Nat × Nat} {I L : MI} {Z : Zt} {a0 b1 : Nat} {a1 a2 b0 : Int} {I' L' : MI} (hs : G0.1[b1]? = some (.inl 4)) (hM : CFv E d' M_X4_begin [vr b1, vi b0] I L I' L') (hlt : d' + 1 ≤ d) (k : Ev E d M_X10_plus 46 [vr a0, vi a1, vi a2, vu] [] (G0, cs) I' L' Z) (hc1 : cs.1 ≤ M_X10_plus.2.2.2.2.1 := by decide) (hc2 : cs.2 ≤ M_X10_plus.2.2.2.2.2 := by decide) : Ev E d M_X10_plus 43 [vr a0, vi a1, vi a2, vu] [vi b0, vr b1] (G0, cs) I L Z := E_callV (as := [vi b0]) (rest := []) (n := 1) hM dX10_plus_43 wM_RX10_222 wS_X4_begin wV_X4_begin hs (by decide) rfl hlt wC_X4_begin wI_X4 (by decide +kernel) rfl (by decide) (Nat.le_of_ble_eq_true rfl) hc1 hc2 rfl (fun r g' I2 L2 h => by obtain ⟨rfl, rfl, rfl, rfl⟩ := h; exact k)
theorem t43_X10_plus_46 {E : En} {d : Nat} {κ : Kp} {I L : MI} {Z : Zt} {a0 : Nat} {a1 a2 : Int}  (k : Ev E d M_X10_plus 47 [vr a0, vi a1, vi a2, vu] [vi 1] κ I L Z) : Ev E d M_X10_plus 46 [vr a0, vi a1, vi a2, vu] [] κ I L Z := E_iconst (v := 1) dX10_plus_46 rfl k
theorem t43_X10_plus_47 {E : En} {d : Nat} {κ : Kp} {I L : MI} {Z : Zt} {a0 : Nat} {a1 a2 b0 : Int}  (k : Ev E d M_X10_plus 48 [vr a0, vi a1, vi a2, vi b0] [] κ I L Z) : Ev E d M_X10_plus 47 [vr a0, vi a1, vi a2, vu] [vi b0] κ I L Z := E_istore_n dX10_plus_47 rfl (Nat.le_of_ble_eq_true rfl) k
theorem t43_X10_plus_13 {E : En} {d : Nat} {κ : Kp} {I L : MI} {Z : Zt} {a0 : Nat} {a1 a2 : Int}  (k : Ev E d M_X10_plus 16 [vr a0, vi a1, vi a2, vu] [vl (-9000000000000000002)] κ I L Z) : Ev E d M_X10_plus 13 [vr a0, vi a1, vi a2, vu] [] κ I L Z := E_ldc2 (v := (-9000000000000000002)) dX10_plus_13 wK_RX10_196 k
theorem t43_X10_plus_16 {E : En} {d : Nat} {g : Geo} {I L : MI} {Q : Option AV → Geo → MI → MI → Prop} {cs : Nat × Nat} {a0 : Nat} {a1 a2 b0 : Int} (hq : Q (some (vl b0)) g I L) (h1 : cs.1 ≤ M_X10_plus.2.2.2.2.1 := by decide) (h2 : cs.2 ≤ M_X10_plus.2.2.2.2.2 := by decide) : Ev E d M_X10_plus 16 [vr a0, vi a1, vi a2, vu] [vl b0] (g, cs) I L (ZQ E M_X10_plus Q) := E_lreturn rfl dX10_plus_16 hq h1 h2
/-! THE CALLS: heard -/
noncomputable def hlN (G : Int → Prop) (w v : Int) : Nat → Int × Int → Int × Int
  | 0, x => x
  | p + 1, x => hlN G w v p (lsA G w v (xL p) x)
noncomputable def hmN (G : Int → Prop) (w v : Int) : Nat → Nat → Int × Int → Int × Int
  | 0, _, x => x
  | f + 1, p, x => hmN G w v f (p + 1) (moA G w v (xL p) x)
noncomputable def heaP (G : Int → Prop) (w v : Int) : Int × Int := hmN G w v 16 0 (hlN G w v 16 (0, -1000000))
theorem xL_b (p : Nat) (h : p < 16) : 0 < xL p ∧ xL p ≤ 1000000000000000 := by
  have : ∀ q : Fin 16, 0 < xL (q.val : Int) ∧ xL (q.val : Int) ≤ 1000000000000000 := by decide
  exact this ⟨p, h⟩
theorem lsN_b {G : Int → Prop} {w v u fig : Int} : ∀ (n : Nat) (j : Int) (x : Int × Int), x.1 ≤ (lsN G w v u fig n j x).1 ∧ (lsN G w v u fig n j x).1 ≤ x.1 + n := by
  intro n
  induction n with
  | zero => intro j x; unfold lsN; omega
  | succ n ih =>
    intro j x
    unfold lsN
    have h1 := ih (j + 1) (ofG G w x (v - (fig - j) * u))
    have h2 := ofG_b (G := G) (w := w) (x := x) (v := v - (fig - j) * u)
    split <;> omega
theorem moN_b {G : Int → Prop} {w v u fig : Int} : ∀ (n : Nat) (j : Int) (x : Int × Int), x.1 ≤ (moN G w v u fig n j x).1 ∧ (moN G w v u fig n j x).1 ≤ x.1 + n := by
  intro n
  induction n with
  | zero => intro j x; unfold moN; omega
  | succ n ih =>
    intro j x
    unfold moN
    have h1 := ih (j + 1) (ofG G w x (v + (j - fig) * u))
    have h2 := ofG_b (G := G) (w := w) (x := x) (v := v + (j - fig) * u)
    split <;> omega
theorem lsA_b {G : Int → Prop} {w v u : Int} {x : Int × Int} : x.1 ≤ (lsA G w v u x).1 ∧ (lsA G w v u x).1 ≤ x.1 + 10 := by
  unfold lsA
  split
  · omega
  · have := lsN_b (G := G) (w := w) (v := v) (u := u) (fig := (v.tdiv u).tmod 10) 10 (if v.tdiv u < 10 then 1 else 0) x
    omega
theorem moA_b {G : Int → Prop} {w v u : Int} {x : Int × Int} : x.1 ≤ (moA G w v u x).1 ∧ (moA G w v u x).1 ≤ x.1 + 10 := by
  unfold moA
  split
  · omega
  · have := moN_b (G := G) (w := w) (v := v) (u := u) (fig := (v.tdiv u).tmod 10) 10 ((v.tdiv u).tmod 10 + 1) x
    omega
/-- what heard and plus leave alone -/
def HFr (I L I' L' : MI) : Prop := (∀ o, o ≠ 29 → o ≠ 30 → o ≠ 31 → o ≠ 32 → ∀ k, I' o k = I o k) ∧ (∀ o, o ≠ 30 → o ≠ 32 → ∀ k, L' o k = L o k) ∧ JOK I' 15
def HdS (I L : MI) (i : Int) (x : Int × Int) (I1 L1 : MI) : Prop := (∀ o, o ≠ 29 → o ≠ 30 → o ≠ 31 → o ≠ 32 → ∀ k, I1 o k = I o k) ∧ I1 32 0 = i ∧ (∀ o, o ≠ 30 → o ≠ 32 → ∀ k, L1 o k = L o k) ∧ JOK I1 15 ∧ I1 32 1 = x.1 ∧ L1 32 2 = x.2
def HeaQ (I L : MI) (k i : Int) : Int → MI → MI → Prop := fun z I' L' =>
  ((¬ ((0 ≤ k ∧ k < 8) ∧ -1 ≤ i) ∧ z = -9000000000000000001 ∧ I' = I ∧ L' = L) ∨
   (((0 ≤ k ∧ k < 8) ∧ -1 ≤ i) ∧ L 24 k = 0 ∧ z = -9000000000000000002 ∧ I' = I ∧ L' = L) ∨
   (((0 ≤ k ∧ k < 8) ∧ -1 ≤ i) ∧ L 24 k ≠ 0 ∧ HFr I L I' L' ∧ z = if i = -1 then (heaP (GoodV I 15) i (L 24 k)).1 else (heaP (GoodV I 15) i (L 24 k)).2))
theorem HdS_t {I L J M K N : MI} {i : Int} {x y : Int × Int} (h : HdS I L i x J M) (g : HQ J M y K N) : HdS I L i y K N :=
  ⟨fun o a b c d k => (g.1 o a b c d k).trans (h.1 o a b c d k), g.2.1.trans h.2.1, fun o a b k => (g.2.2.1 o a b k).trans (h.2.2.1 o a b k), g.2.2.2⟩
theorem c_X10_heard {E : En} {I L : MI} {k i : Int} (hk : Ir k) (hi : Ir i) (hb : TB I 15) (hj : JOK I 15) (hs : SlB L) : CQl E 7 M_X10_heard [vr 0, vi k, vi i] I L (HeaQ I L k i) := by
  have s14 := SpS14
  have e : ∀ {k : Int}, 0 ≤ k ∧ k < 8 → atL L (14 + 10) 8 k = L 24 k := fun h => if_pos h
  have a4 : arr E G0 1004 = some (3, 16) := rfl
  refine CM_of' (al := [vr _, vi _, vi _, vu, vu, vu]) rfl (Nat.le_of_ble_eq_true rfl) rfl (fun hM => ?_)
  -- what stands while it is offered
  have st : ∀ {x : Int × Int} {I1 L1 : MI}, HdS I L i x I1 L1 → TSame I I1 15 := fun h o o1 o2 k => h.1 o (by omega) (by omega) (by omega) (by omega) k
  have more : ∀ (f : Nat) (p : Nat) (x : Int × Int) (I1 L1 : MI), p + f = 16 → 0 ≤ x.1 → x.1 ≤ 200 + 10 * p → HdS I L i x I1 L1 → hmN (GoodV I 15) i (L 24 k) f p x = heaP (GoodV I 15) i (L 24 k) → ((0 ≤ k ∧ k < 8) ∧ -1 ≤ i) → L 24 k ≠ 0 → Ev E 7 M_X10_heard 76 [vr 0, vi k, vi i, vl (L 24 k), vu, vi (p : Int)] [] (G0, 0, 0) I1 L1 (ZQ E M_X10_heard (QQl (HeaQ I L k i))) := by
    intro f
    induction f with
    | zero =>
      intro p x I1 L1 hp x0 x1 hst hx hk1 hk2
      refine (t43_X10_heard_76 (t43_X10_heard_78 (t43_X10_heard_81 (by first | assumption | rfl) (by decide) rfl (t43_X10_heard_82 (by omega) (by omega) (fun c82 => (t43_X10_heard_102 (t43_X10_heard_103 (by first | assumption | rfl) (by first | assumption | rfl) (t43_X10_heard_106 (by first | assumption | rfl) c_X4_answer (by first | decide | omega) (fun r106 => (t43_X10_heard_109 ?_)))))) (fun c82 => ?_)))))
      -- 2 leaves: 82t :ret109 | 82f :->85
      · refine qql (.inr (.inr ⟨hk1, hk2, ⟨hst.1, hst.2.2.1, hst.2.2.2.1⟩, ?_⟩))
        rw [hst.2.1, hst.2.2.2.2.1, hst.2.2.2.2.2, ← hx]
        rfl
      · omega
    | succ f ih =>
      intro p x I1 L1 hp x0 x1 hst hx hk1 hk2
      have sv := hs k hk1.1.1 hk1.1.2
      have tb := TB_same (st hst) hb
      have jk := hst.2.2.2.1
      have h1 : I1 32 1 = x.1 := hst.2.2.2.2.1
      have xb := xL_b p (by omega)
      have ru : rdL L1 1004 (p : Int) = xL p := rfl
      refine (t43_X10_heard_76 (t43_X10_heard_78 (t43_X10_heard_81 (by first | assumption | rfl) (by decide) rfl (t43_X10_heard_82 (by omega) (by omega) (fun c82 => (t43_X10_heard_102 (t43_X10_heard_103 (by first | assumption | rfl) (by first | assumption | rfl) (t43_X10_heard_106 (by first | assumption | rfl) c_X4_answer (by first | decide | omega) (fun r106 => (t43_X10_heard_109 ?_)))))) (fun c82 => (t43_X10_heard_85 (t43_X10_heard_86 (t43_X10_heard_87 (t43_X10_heard_90 (t43_X10_heard_92 (by first | assumption | rfl) (by omega) (by omega) (by omega) (fun r92 => (t43_X10_heard_93 (by first | assumption | rfl) c_X10_offerMoreAt (by first | decide | omega) (fun I93 L93 q93 => ?_)))))))))))))
      -- 2 leaves: 82t :ret109 | 82f :call93
      · omega
      · rw [ru, GoodV_same (st hst), hst.2.1, h1, hst.2.2.2.2.2] at q93
        have mb := moA_b (G := GoodV I 15) (w := i) (v := L 24 k) (u := xL p) (x := x)
        refine (t43_X10_heard_96 (t43_X10_heard_99 ?_))
        -- 1 leaves: :->76
        exact ih (p + 1) (moA (GoodV I 15) i (L 24 k) (xL p) x) _ _ (by omega) (by omega) (by omega) (HdS_t hst q93) hx hk1 hk2
  have less : ∀ (p : Nat) (x : Int × Int) (I1 L1 : MI), p ≤ 16 → 0 ≤ x.1 → x.1 + 10 * p ≤ 160 → HdS I L i x I1 L1 → hmN (GoodV I 15) i (L 24 k) 16 0 (hlN (GoodV I 15) i (L 24 k) p x) = heaP (GoodV I 15) i (L 24 k) → ((0 ≤ k ∧ k < 8) ∧ -1 ≤ i) → L 24 k ≠ 0 → Ev E 7 M_X10_heard 51 [vr 0, vi k, vi i, vl (L 24 k), vu, vi ((p : Int) + -1)] [] (G0, 0, 0) I1 L1 (ZQ E M_X10_heard (QQl (HeaQ I L k i))) := by
    intro p
    induction p with
    | zero =>
      intro x I1 L1 hp x0 x1 hst hx hk1 hk2
      refine (t43_X10_heard_51 (t43_X10_heard_53 (by omega) (fun c53 => (t43_X10_heard_73 (t43_X10_heard_74 ?_))) (fun c53 => ?_)))
      -- 2 leaves: 53t :->76 | 53f :->56
      · exact more 16 0 x I1 L1 (by omega) x0 (by omega) hst hx hk1 hk2
      · omega
    | succ p ih =>
      intro x I1 L1 hp x0 x1 hst hx hk1 hk2
      have sv := hs k hk1.1.1 hk1.1.2
      have tb := TB_same (st hst) hb
      have jk := hst.2.2.2.1
      have h1 : I1 32 1 = x.1 := hst.2.2.2.2.1
      have xb := xL_b p (by omega)
      have ru : rdL L1 1004 (p : Int) = xL p := rfl
      rw [show ((p + 1 : Nat) : Int) + -1 = (p : Int) by omega]
      refine (t43_X10_heard_51 (t43_X10_heard_53 (by omega) (fun c53 => (t43_X10_heard_73 (t43_X10_heard_74 ?_))) (fun c53 => (t43_X10_heard_56 (t43_X10_heard_57 (t43_X10_heard_58 (t43_X10_heard_61 (t43_X10_heard_63 (by first | assumption | rfl) (by omega) (by omega) (by omega) (fun r63 => (t43_X10_heard_64 (by first | assumption | rfl) c_X10_offerLessAt (by first | decide | omega) (fun I64 L64 q64 => ?_)))))))))))
      -- 2 leaves: 53t :->76 | 53f :call64
      · omega
      · rw [ru, GoodV_same (st hst), hst.2.1, h1, hst.2.2.2.2.2] at q64
        have mb := lsA_b (G := GoodV I 15) (w := i) (v := L 24 k) (u := xL p) (x := x)
        refine (t43_X10_heard_67 (t43_X10_heard_70 ?_))
        -- 1 leaves: :->51
        exact ih (lsA (GoodV I 15) i (L 24 k) (xL p) x) _ _ (by omega) (by omega) (by omega) (HdS_t hst q64) hx hk1 hk2
  refine (t43_X10_heard_0 (t43_X10_heard_1 c_X10_isSlot (by first | decide | omega) (fun c1 => (t43_X10_heard_4 (by decide) (fun h => absurd h (by decide)) (fun _ => (t43_X10_heard_7 (t43_X10_heard_8 (t43_X10_heard_9 (by omega) (by omega) (fun c9 => (t43_X10_heard_16 (t43_X10_heard_17 (by first | assumption | rfl) (by first | assumption | rfl) (t43_X10_heard_20 (t43_X10_heard_21 (by first | assumption | rfl) c_X7_held (by first | decide | omega) (fun r21 => (t43_X10_heard_24 (t43_X10_heard_25 (t43_X10_heard_26 (t43_X10_heard_27 (by omega) (by omega) (fun c27 => (t43_X10_heard_35 (t43_X10_heard_36 (by first | assumption | rfl) (by first | assumption | rfl) (t43_X10_heard_39 (t43_X10_heard_40 (by first | assumption | rfl) c_X4_begin (by first | decide | omega) (t43_X10_heard_43 (t43_X10_heard_46 (by first | assumption | rfl) (by decide) rfl (t43_X10_heard_47 (t43_X10_heard_48 (t43_X10_heard_49 ?_)))))))))) (fun c27 => (t43_X10_heard_31 (t43_X10_heard_34 ?_))))))))))))) (fun c9 => (t43_X10_heard_12 (t43_X10_heard_15 ?_))))))))) (fun c1 => (t43_X10_heard_4 (by decide) (fun _ => (t43_X10_heard_12 (t43_X10_heard_15 ?_))) (fun h => absurd rfl h)))))
  -- 4 leaves: 1T 9t 27t :->51 | 1T 9t 27f :ret34 | 1T 9f :ret15 | 1F :ret15
  · rw [e c1]
    rw [e c1] at c27
    have jk : JOK (up2 (up2 I 32 0 i) 32 1 0) 15 := fun n n1 n2 => by
      rw [up2_ne (.inl (by decide)), up2_ne (.inl (by decide)), GoodP_same (I := I) (fun o o1 o2 k => by rw [up2_ne (.inl (by omega)), up2_ne (.inl (by omega))])]
      exact hj n n1 n2
    have h := less 16 (0, -1000000) (up2 (up2 I 32 0 i) 32 1 0) (up2 L 32 2 (-1000000)) (by omega) (by show (0 : Int) ≤ 0; decide) (by show (0 : Int) + _ ≤ _; decide) ⟨fun o _ _ _ o4 k => by rw [up2_ne (.inl o4), up2_ne (.inl o4)], by rw [up2_ne (.inr (by decide)), up2_eq], fun o _ o2 k => up2_ne (.inl o2), jk, up2_eq _ _ _ _, up2_eq _ _ _ _⟩ rfl ⟨c1, by omega⟩ c27
    exact h
  · rw [e c1] at c27
    exact qql (.inr (.inl ⟨by omega, c27, rfl, rfl, rfl⟩))
  · exact qql (.inl ⟨by omega, rfl, rfl, rfl⟩)
  · exact qql (.inl ⟨by omega, rfl, rfl, rfl⟩)
/-- plus: the pairs in their order -/
noncomputable def plN (G : Int → Prop) (w n : Int) : Nat → Int → Int × Int → Int × Int
  | 0, _, x => x
  | f + 1, a, x => plN G w n f (a + 1) (if bP (G a ∧ G (n - a)) = true then (x.1 + 1, if x.1 = w then a else x.2) else x)
noncomputable def pluP (G : Int → Prop) (w n : Int) : Int × Int := plN G w n (n / 2).toNat 1 (0, -1000000)
def PluQ (I L : MI) (n i : Int) : Int → MI → MI → Prop := fun z I' L' =>
  ((I 15 0 = 0 ∧ z = -9000000000000000002 ∧ I' = I ∧ L' = L) ∨
   (I 15 0 ≠ 0 ∧ ¬ ((2 ≤ n ∧ n ≤ 2000) ∧ -1 ≤ i) ∧ z = -9000000000000000001 ∧ I' = I ∧ L' = L) ∨
   (I 15 0 ≠ 0 ∧ ((2 ≤ n ∧ n ≤ 2000) ∧ -1 ≤ i) ∧ HFr I L I' L' ∧ z = if i = -1 then (pluP (GoodV I 15) i n).1 else (pluP (GoodV I 15) i n).2))
theorem HdS_j {I L J M K N : MI} {i : Int} {x : Int × Int} (h : HdS I L i x J M) (g : JFr J M K N) (hj : JOK K 15) : HdS I L i x K N :=
  ⟨fun o a b c d k => (g.1 o a b c k).trans (h.1 o a b c d k), (g.1 32 (by decide) (by decide) (by decide) 0).trans h.2.1, fun o a b k => (g.2 o a k).trans (h.2.2.1 o a b k), hj, (g.1 32 (by decide) (by decide) (by decide) 1).trans h.2.2.2.2.1, (g.2 32 (by decide) 2).trans h.2.2.2.2.2⟩
theorem HdS_o {I L J M : MI} {i a : Int} {x : Int × Int} (h : HdS I L i x J M) : HdS I L i (x.1 + 1, if x.1 = i then a else x.2) (up2 J 32 1 (J 32 1 + 1)) (offL J M a) := by
  obtain ⟨h1, h2, h3, h4, h5, h6⟩ := h
  refine ⟨fun o a b c d k => by rw [up2_ne (.inl d)]; exact h1 o a b c d k, by rw [up2_ne (.inr (by decide))]; exact h2, fun o a b k => ?_, fun n n1 n2 => ?_, by rw [up2_eq, h5], ?_⟩
  · unfold offL
    split
    · rw [up2_ne (.inl b)]; exact h3 o a b k
    · exact h3 o a b k
  · rw [up2_ne (.inl (by decide)), GoodP_same (I := J) (fun o o1 o2 k => up2_ne (.inl (by omega)))]
    exact h4 n n1 n2
  · unfold offL
    rw [h5, h2]
    show _ = if x.1 = i then a else x.2
    split
    · rw [up2_eq]
    · exact h6
theorem c_X10_plus {E : En} {I L : MI} {n i : Int} (hn : Ir n) (hi : Ir i) (hb : TB I 15) (hj : JOK I 15) : CQl E 7 M_X10_plus [vr 0, vi n, vi i] I L (PluQ I L n i) := by
  have t15 := TgS15
  refine CM_of' (al := [vr _, vi _, vi _, vu]) rfl (Nat.le_of_ble_eq_true rfl) rfl (fun hM => ?_)
  have key : ∀ (f : Nat) (a : Int) (x : Int × Int) (I1 L1 : MI), I 15 0 ≠ 0 → ((2 ≤ n ∧ n ≤ 2000) ∧ -1 ≤ i) → 1 ≤ a → a + f = n.tdiv 2 + 1 → 0 ≤ x.1 → x.1 < a → HdS I L i x I1 L1 → plN (GoodV I 15) i n f a x = pluP (GoodV I 15) i n → Ev E 7 M_X10_plus 48 [vr 0, vi n, vi i, vi a] [] (G0, 0, 0) I1 L1 (ZQ E M_X10_plus (QQl (PluQ I L n i))) := by
    intro f
    induction f with
    | zero =>
      intro a x I1 L1 k1 k2 a1 ha x0 x1 hst hx
      have hd : n.tdiv 2 = n / 2 := Int.tdiv_eq_ediv_of_nonneg (by omega)
      refine (t43_X10_plus_48 (t43_X10_plus_49 (t43_X10_plus_50 (t43_X10_plus_51 (by omega) (by omega) (by omega) (by omega) (t43_X10_plus_52 (by omega) (by omega) (fun c52 => (t43_X10_plus_110 (t43_X10_plus_111 (by first | assumption | rfl) (by first | assumption | rfl) (t43_X10_plus_114 (by first | assumption | rfl) c_X4_answer (by first | decide | omega) (fun r114 => (t43_X10_plus_117 ?_)))))) (fun c52 => ?_))))))
      -- 2 leaves: 52t :ret117 | 52f :->55
      · refine qql (.inr (.inr ⟨k1, k2, ⟨hst.1, hst.2.2.1, hst.2.2.2.1⟩, ?_⟩))
        rw [hst.2.1, hst.2.2.2.2.1, hst.2.2.2.2.2, ← hx]
        rfl
      · omega
    | succ f ih =>
      intro a x I1 L1 k1 k2 a1 ha x0 x1 hst hx
      have hd : n.tdiv 2 = n / 2 := Int.tdiv_eq_ediv_of_nonneg (by omega)
      have sm : TSame I I1 15 := fun o o1 o2 k => hst.1 o (by omega) (by omega) (by omega) (by omega) k
      have tb := TB_same sm hb
      have jk := hst.2.2.2.1
      have es : plN (GoodV I 15) i n (f + 1) a x = plN (GoodV I 15) i n f (a + 1) (if bP (GoodV I 15 a ∧ GoodV I 15 (n - a)) = true then (x.1 + 1, if x.1 = i then a else x.2) else x) := rfl
      rw [es] at hx
      have no : ¬ (GoodV I 15 a ∧ GoodV I 15 (n - a)) → plN (GoodV I 15) i n f (a + 1) x = pluP (GoodV I 15) i n := fun h => by rw [if_neg (fun q => h (bP_i.mp q))] at hx; exact hx
      refine (t43_X10_plus_48 (t43_X10_plus_49 (t43_X10_plus_50 (t43_X10_plus_51 (by omega) (by omega) (by omega) (by omega) (t43_X10_plus_52 (by omega) (by omega) (fun c52 => (t43_X10_plus_110 (t43_X10_plus_111 (by first | assumption | rfl) (by first | assumption | rfl) (t43_X10_plus_114 (by first | assumption | rfl) c_X4_answer (by first | decide | omega) (fun r114 => (t43_X10_plus_117 ?_)))))) (fun c52 => (t43_X10_plus_55 (t43_X10_plus_56 (by first | assumption | rfl) (by first | assumption | rfl) (t43_X10_plus_59 (t43_X10_plus_60 (by first | assumption | rfl) (by first | assumption | rfl) (t43_X10_plus_63 (by first | assumption | rfl) (by first | assumption | rfl) (t43_X10_plus_66 (t43_X10_plus_67 (by omega) (t43_X10_plus_68 (by first | assumption | rfl) c_X2_isGood (by first | decide | omega) (fun z68 I68 L68 q68 => ?_)))))))))))))))
      -- 2 leaves: 52t :ret117 | 52f :call68
      · omega
      · obtain ⟨j1, j2, j3⟩ := q68
        rw [GoodV_same sm] at j3
        have hst1 := HdS_j hst j1 j2
        have sm1 : TSame I I68 15 := fun o o1 o2 k => hst1.1 o (by omega) (by omega) (by omega) (by omega) k
        have tb1 := TB_same sm1 hb
        refine (t43_X10_plus_71 (by omega) (fun c71 => (t43_X10_plus_104 (t43_X10_plus_107 ?_))) (fun c71 => (t43_X10_plus_74 (t43_X10_plus_75 (by first | assumption | rfl) (by first | assumption | rfl) (t43_X10_plus_78 (t43_X10_plus_79 (by first | assumption | rfl) (by first | assumption | rfl) (t43_X10_plus_82 (by first | assumption | rfl) (by first | assumption | rfl) (t43_X10_plus_85 (t43_X10_plus_86 (t43_X10_plus_87 (t43_X10_plus_88 (by omega) (t43_X10_plus_89 (by first | assumption | rfl) c_X2_isGood (by first | decide | omega) (fun z89 I89 L89 q89 => ?_)))))))))))))
        -- 2 leaves: 71t :->48 | 71f :call89
        · refine ih (a + 1) x _ _ k1 k2 (by omega) (by omega) x0 (by omega) hst1 (no fun h => ?_)
          rcases j3 with ⟨q, -⟩ | ⟨-, q⟩
          · omega
          · exact q h.1
        · obtain ⟨g1, g2, g3⟩ := q89
          rw [GoodV_same sm1] at g3
          have hst2 := HdS_j hst1 g1 g2
          have ga : GoodV I 15 a := by
            rcases j3 with ⟨-, q⟩ | ⟨q, -⟩
            · exact q
            · omega
          have e32 : I89 32 1 = x.1 := hst2.2.2.2.2.1
          refine (t43_X10_plus_92 (by omega) (fun c92 => (t43_X10_plus_104 (t43_X10_plus_107 ?_))) (fun c92 => (t43_X10_plus_95 (t43_X10_plus_96 (by first | assumption | rfl) (by first | assumption | rfl) (t43_X10_plus_99 (t43_X10_plus_100 (by omega) (t43_X10_plus_101 (by first | assumption | rfl) c_X4_offer (by first | decide | omega) (t43_X10_plus_104 (t43_X10_plus_107 ?_)))))))))
          -- 2 leaves: 92t :->48 | 92f :->48
          · refine ih (a + 1) x _ _ k1 k2 (by omega) (by omega) x0 (by omega) hst2 (no fun h => ?_)
            rcases g3 with ⟨q, -⟩ | ⟨-, q⟩
            · omega
            · exact q h.2
          · have gb : GoodV I 15 (n - a) := by
              rcases g3 with ⟨-, q⟩ | ⟨q, -⟩
              · exact q
              · omega
            rw [if_pos (bP_t ⟨ga, gb⟩)] at hx
            exact ih (a + 1) _ _ _ k1 k2 (by omega) (by omega) (by show 0 ≤ x.1 + 1; omega) (by show x.1 + 1 < a + 1; omega) (HdS_o hst2) hx
  refine (t43_X10_plus_0 (t43_X10_plus_1 (by first | assumption | rfl) (by first | assumption | rfl) (t43_X10_plus_4 (by first | assumption | rfl) (by first | assumption | rfl) (t43_X10_plus_7 (by first | assumption | rfl) (fun r7 => (t43_X10_plus_10 (by omega) (fun c10 => (t43_X10_plus_17 (t43_X10_plus_18 (t43_X10_plus_19 (by omega) (by omega) (fun c19 => (t43_X10_plus_34 (t43_X10_plus_37 ?_))) (fun c19 => (t43_X10_plus_22 (t43_X10_plus_23 (t43_X10_plus_26 (by omega) (by omega) (fun c26 => (t43_X10_plus_34 (t43_X10_plus_37 ?_))) (fun c26 => (t43_X10_plus_29 (t43_X10_plus_30 (t43_X10_plus_31 (by omega) (by omega) (fun c31 => (t43_X10_plus_38 (t43_X10_plus_39 (by first | assumption | rfl) (by first | assumption | rfl) (t43_X10_plus_42 (t43_X10_plus_43 (by first | assumption | rfl) c_X4_begin (by first | decide | omega) (t43_X10_plus_46 (t43_X10_plus_47 ?_))))))) (fun c31 => (t43_X10_plus_34 (t43_X10_plus_37 ?_))))))))))))))) (fun c10 => (t43_X10_plus_13 (t43_X10_plus_16 ?_)))))))))
  -- 5 leaves: 10t 19t :ret37 | 10t 19f 26t :ret37 | 10t 19f 26f 31t :->48 | 10t 19f 26f 31f :ret37 | 10f :ret16
  · exact qql (.inr (.inl ⟨c10, by omega, rfl, rfl, rfl⟩))
  · exact qql (.inr (.inl ⟨c10, by omega, rfl, rfl, rfl⟩))
  · have jk : JOK (up2 (up2 I 32 0 i) 32 1 0) 15 := fun n n1 n2 => by
      rw [up2_ne (.inl (by decide)), up2_ne (.inl (by decide)), GoodP_same (I := I) (fun o o1 o2 k => by rw [up2_ne (.inl (by omega)), up2_ne (.inl (by omega))])]
      exact hj n n1 n2
    have hd : n.tdiv 2 = n / 2 := Int.tdiv_eq_ediv_of_nonneg (by omega)
    exact key (n / 2).toNat 1 (0, -1000000) _ _ c10 ⟨by omega, by omega⟩ (by omega) (by omega) (by show (0 : Int) ≤ 0; decide) (by show (0 : Int) < 1; decide) ⟨fun o _ _ _ o4 k => by rw [up2_ne (.inl o4), up2_ne (.inl o4)], by rw [up2_ne (.inr (by decide)), up2_eq], fun o _ o2 k => up2_ne (.inl o2), jk, up2_eq _ _ _ _, up2_eq _ _ _ _⟩ rfl
  · exact qql (.inr (.inl ⟨c10, by omega, rfl, rfl, rfl⟩))
  · exact qql (.inl ⟨c10, rfl, rfl, rfl⟩)
