theorem t28_X5_readAll_136 {E : En} {d : Nat} {κ : Kp} {I L : MI} {Z : Zt} {a0 : Nat} {a1 : Int}  (k : Ev E d M_X5_readAll 137 [vr a0, vi a1] [vr a0] κ I L Z) : Ev E d M_X5_readAll 136 [vr a0, vi a1] [] κ I L Z := E_aload_n dX5_readAll_136 rfl k
theorem t28_X5_readAll_137 {E : En} {d : Nat} {κ : Kp} {I L : MI} {Z : Zt} {a0 b0 : Nat} {a1 : Int} (hs : κ.1.1[b0]? = some (.inl 5)) (k : Ir (I b0 6) → Ev E d M_X5_readAll 140 [vr a0, vi a1] [vi (I b0 6)] κ I L Z) : Ev E d M_X5_readAll 137 [vr a0, vi a1] [vr b0] κ I L Z := E_getI (ci := 5) (n := 6) dX5_readAll_137 wF_RX5_19 (by decide) hs rfl k
theorem t28_X5_readAll_140 {E : En} {d : Nat} {κ : Kp} {I L : MI} {Z : Zt} {a0 : Nat} {a1 b0 : Int} (hx : Ir b0) (kt : ¬ b0 = 0 → Ev E d M_X5_readAll 155 [vr a0, vi a1] [] κ I L Z) (kf : b0 = 0 → Ev E d M_X5_readAll 143 [vr a0, vi a1] [] κ I L Z) : Ev E d M_X5_readAll 140 [vr a0, vi a1] [vi b0] κ I L Z := E_if_ne dX5_readAll_140 hx kt kf (by decide)
theorem t28_X5_readAll_155 {E : En} {d : Nat} {κ : Kp} {I L : MI} {Z : Zt} {a0 : Nat} {a1 : Int}  (k : Ev E d M_X5_readAll 156 [vr a0, vi a1] [vr a0] κ I L Z) : Ev E d M_X5_readAll 155 [vr a0, vi a1] [] κ I L Z := E_aload_n dX5_readAll_155 rfl k
theorem t28_X5_readAll_156 {E : En} {d : Nat} {κ : Kp} {I L : MI} {Z : Zt} {a0 b0 : Nat} {a1 : Int} (hs : κ.1.1[b0]? = some (.inl 5)) (k : Ir (I b0 6) → Ev E d M_X5_readAll 159 [vr a0, vi a1] [vi (I b0 6)] κ I L Z) : Ev E d M_X5_readAll 156 [vr a0, vi a1] [vr b0] κ I L Z := E_getI (ci := 5) (n := 6) dX5_readAll_156 wF_RX5_19 (by decide) hs rfl k
theorem t28_X5_readAll_159 {E : En} {d : Nat} {κ : Kp} {I L : MI} {Z : Zt} {a0 : Nat} {a1 b0 : Int} (hx : Ir b0) (kt : ¬ b0 = 0 → Ev E d M_X5_readAll 166 [vr a0, vi a1] [] κ I L Z) (kf : b0 = 0 → Ev E d M_X5_readAll 162 [vr a0, vi a1] [] κ I L Z) : Ev E d M_X5_readAll 159 [vr a0, vi a1] [vi b0] κ I L Z := E_if_ne dX5_readAll_159 hx kt kf (by decide)
theorem t28_X5_readAll_166 {E : En} {d : Nat} {κ : Kp} {I L : MI} {Z : Zt} {a0 : Nat} {a1 : Int}  (k : Ev E d M_X5_readAll 167 [vr a0, vi a1] [vi 0] κ I L Z) : Ev E d M_X5_readAll 166 [vr a0, vi a1] [] κ I L Z := E_iconst (v := 0) dX5_readAll_166 rfl k
theorem t28_X5_readAll_167 {E : En} {d : Nat} {g : Geo} {I L : MI} {Q : Option AV → Geo → MI → MI → Prop} {cs : Nat × Nat} {a0 : Nat} {a1 b0 : Int} (hz : b0 = 0 ∨ b0 = 1) (hq : Q (some (vi b0)) g I L) (h1 : cs.1 ≤ M_X5_readAll.2.2.2.2.1 := by decide) (h2 : cs.2 ≤ M_X5_readAll.2.2.2.2.2 := by decide) : Ev E d M_X5_readAll 167 [vr a0, vi a1] [vi b0] (g, cs) I L (ZQ E M_X5_readAll Q) := E_zreturn rfl hz dX5_readAll_167 hq h1 h2
theorem t28_X5_readAll_162 {E : En} {d : Nat} {κ : Kp} {I L : MI} {Z : Zt} {a0 : Nat} {a1 : Int}  (k : Ev E d M_X5_readAll 163 [vr a0, vi a1] [vi 1] κ I L Z) : Ev E d M_X5_readAll 162 [vr a0, vi a1] [] κ I L Z := E_iconst (v := 1) dX5_readAll_162 rfl k
theorem t28_X5_readAll_163 {E : En} {d : Nat} {κ : Kp} {I L : MI} {Z : Zt} {a0 : Nat} {a1 b0 : Int}  (k : Ev E d M_X5_readAll 167 [vr a0, vi a1] [vi b0] κ I L Z) : Ev E d M_X5_readAll 163 [vr a0, vi a1] [vi b0] κ I L Z := E_goto dX5_readAll_163 (by decide) k
theorem t28_X5_readAll_143 {E : En} {d : Nat} {κ : Kp} {I L : MI} {Z : Zt} {a0 : Nat} {a1 : Int}  (k : Ev E d M_X5_readAll 144 [vr a0, vi a1] [vr a0] κ I L Z) : Ev E d M_X5_readAll 143 [vr a0, vi a1] [] κ I L Z := E_aload_n dX5_readAll_143 rfl k
theorem t28_X5_readAll_144 {E : En} {d : Nat} {κ : Kp} {I L : MI} {Z : Zt} {a0 b0 : Nat} {a1 : Int} (hs : κ.1.1[b0]? = some (.inl 5)) (k : Ir (I b0 2) → Ev E d M_X5_readAll 147 [vr a0, vi a1] [vi (I b0 2)] κ I L Z) : Ev E d M_X5_readAll 144 [vr a0, vi a1] [vr b0] κ I L Z := E_getI (ci := 5) (n := 2) dX5_readAll_144 wF_RX5_57 (by decide) hs rfl k
theorem t28_X5_readAll_147 {E : En} {d : Nat} {κ : Kp} {I L : MI} {Z : Zt} {a0 : Nat} {a1 b0 : Int} (hx : Ir b0) (kt : b0 = 0 → Ev E d M_X5_readAll 155 [vr a0, vi a1] [] κ I L Z) (kf : ¬ b0 = 0 → Ev E d M_X5_readAll 150 [vr a0, vi a1] [] κ I L Z) : Ev E d M_X5_readAll 147 [vr a0, vi a1] [vi b0] κ I L Z := E_if_eq dX5_readAll_147 hx kt kf (by decide)
theorem t28_X5_readAll_150 {E : En} {d : Nat} {κ : Kp} {I L : MI} {Z : Zt} {a0 : Nat} {a1 : Int}  (k : Ev E d M_X5_readAll 151 [vr a0, vi a1] [vr a0] κ I L Z) : Ev E d M_X5_readAll 150 [vr a0, vi a1] [] κ I L Z := E_aload_n dX5_readAll_150 rfl k
theorem t28_X5_readAll_151 {E : En} {d : Nat} {κ : Kp} {I L : MI} {Z : Zt} {a0 b0 : Nat} {a1 : Int}  (k : Ev E d M_X5_readAll 152 [vr a0, vi a1] [vi 1, vr b0] κ I L Z) : Ev E d M_X5_readAll 151 [vr a0, vi a1] [vr b0] κ I L Z := E_iconst (v := 1) dX5_readAll_151 rfl k
theorem t28_X5_readAll_152 {E : En} {d d' : Nat} {cs : Nat × Nat} {I L : MI} {Z : Zt} {a0 b1 : Nat} {a1 b0 : Int} {I' L' : MI} (hs : G0.1[b1]? = some (.inl 5)) (hM : CFv E d' M_X5_fail [vr b1, vi b0] I L I' L') (hlt : d' + 1 ≤ d) (k : Ev E d M_X5_readAll 155 [vr a0, vi a1] [] (G0, cs) I' L' Z) (hc1 : cs.1 ≤ M_X5_readAll.2.2.2.2.1 := by decide) (hc2 : cs.2 ≤ M_X5_readAll.2.2.2.2.2 := by decide) : Ev E d M_X5_readAll 152 [vr a0, vi a1] [vi b0, vr b1] (G0, cs) I L Z := E_callV (as := [vi b0]) (rest := []) (n := 1) hM dX5_readAll_152 wM_RX5_40 wS_X5_fail wV_X5_fail hs (by decide) rfl hlt wC_X5_fail wI_X5 (by decide +kernel) rfl (by decide) (Nat.le_of_ble_eq_true rfl) hc1 hc2 rfl (fun r g' I2 L2 h => by obtain ⟨rfl, rfl, rfl, rfl⟩ := h; exact k)
theorem t28_X5_readAll_104 {E : En} {d : Nat} {κ : Kp} {I L : MI} {Z : Zt} {a0 : Nat} {a1 : Int}  (k : Ev E d M_X5_readAll 105 [vr a0, vi a1] [vi a1] κ I L Z) : Ev E d M_X5_readAll 104 [vr a0, vi a1] [] κ I L Z := E_iload_n dX5_readAll_104 rfl k
theorem t28_X5_readAll_105 {E : En} {d : Nat} {κ : Kp} {I L : MI} {Z : Zt} {a0 : Nat} {a1 b0 : Int}  (k : Ev E d M_X5_readAll 107 [vr a0, vi a1] [vi 8, vi b0] κ I L Z) : Ev E d M_X5_readAll 105 [vr a0, vi a1] [vi b0] κ I L Z := E_bipush (v := 8) dX5_readAll_105 rfl k
theorem t28_X5_readAll_107 {E : En} {d : Nat} {κ : Kp} {I L : MI} {Z : Zt} {a0 : Nat} {a1 b0 b1 : Int} (hx : Ir b1) (hy : Ir b0) (kt : b0 < b1 → Ev E d M_X5_readAll 136 [vr a0, vi a1] [] κ I L Z) (kf : b1 ≤ b0 → Ev E d M_X5_readAll 110 [vr a0, vi a1] [] κ I L Z) : Ev E d M_X5_readAll 107 [vr a0, vi a1] [vi b0, vi b1] κ I L Z := E_icmp_gt dX5_readAll_107 hx hy kt kf (by decide)
theorem t28_X5_readAll_110 {E : En} {d : Nat} {κ : Kp} {I L : MI} {Z : Zt} {a0 : Nat} {a1 : Int}  (k : Ev E d M_X5_readAll 111 [vr a0, vi a1] [vr a0] κ I L Z) : Ev E d M_X5_readAll 110 [vr a0, vi a1] [] κ I L Z := E_aload_n dX5_readAll_110 rfl k
theorem t28_X5_readAll_111 {E : En} {d : Nat} {κ : Kp} {I L : MI} {Z : Zt} {a0 b0 : Nat} {a1 : Int} (hs : κ.1.1[b0]? = some (.inl 5)) (k : Ir (I b0 6) → Ev E d M_X5_readAll 114 [vr a0, vi a1] [vi (I b0 6)] κ I L Z) : Ev E d M_X5_readAll 111 [vr a0, vi a1] [vr b0] κ I L Z := E_getI (ci := 5) (n := 6) dX5_readAll_111 wF_RX5_19 (by decide) hs rfl k
theorem t28_X5_readAll_114 {E : En} {d : Nat} {κ : Kp} {I L : MI} {Z : Zt} {a0 : Nat} {a1 b0 : Int} (hx : Ir b0) (kt : ¬ b0 = 0 → Ev E d M_X5_readAll 136 [vr a0, vi a1] [] κ I L Z) (kf : b0 = 0 → Ev E d M_X5_readAll 117 [vr a0, vi a1] [] κ I L Z) : Ev E d M_X5_readAll 114 [vr a0, vi a1] [vi b0] κ I L Z := E_if_ne dX5_readAll_114 hx kt kf (by decide)
theorem t28_X5_readAll_117 {E : En} {d : Nat} {κ : Kp} {I L : MI} {Z : Zt} {a0 : Nat} {a1 : Int}  (k : Ev E d M_X5_readAll 118 [vr a0, vi a1] [vr a0] κ I L Z) : Ev E d M_X5_readAll 117 [vr a0, vi a1] [] κ I L Z := E_aload_n dX5_readAll_117 rfl k
theorem t28_X5_readAll_118 {E : En} {d : Nat} {κ : Kp} {I L : MI} {Z : Zt} {a0 b0 : Nat} {a1 : Int}  (k : Ev E d M_X5_readAll 120 [vr a0, vi a1] [vr 1007, vr b0] κ I L Z) : Ev E d M_X5_readAll 118 [vr a0, vi a1] [vr b0] κ I L Z := E_ldcS (j := 7) (tx := "pair") dX5_readAll_118 rfl (by decide) k
theorem t28_X5_readAll_120 {E : En} {d d' : Nat} {cs : Nat × Nat} {I L : MI} {Z : Zt} {a0 b0 b1 : Nat} {a1 : Int} {P : Prop} {I' L' : MI} (hs : G0.1[b1]? = some (.inl 5)) (hM : CB E d' M_X5_isWord [vr b1, vr b0] I L P I' L') (hlt : d' + 1 ≤ d) (kt : P → Ev E d M_X5_readAll 123 [vr a0, vi a1] [vi 1] (G0, cs) I' L' Z) (kf : ¬ P → Ev E d M_X5_readAll 123 [vr a0, vi a1] [vi 0] (G0, cs) I' L' Z) (hc1 : cs.1 ≤ M_X5_readAll.2.2.2.2.1 := by decide) (hc2 : cs.2 ≤ M_X5_readAll.2.2.2.2.2 := by decide) : Ev E d M_X5_readAll 120 [vr a0, vi a1] [vr b0, vr b1] (G0, cs) I L Z := E_callV (as := [vr b0]) (rest := []) (n := 1) hM dX5_readAll_120 wM_RX5_36 wS_X5_isWord wV_X5_isWord hs (by decide) rfl hlt wC_X5_isWord wI_X5 (by decide +kernel) rfl (by decide) (Nat.le_of_ble_eq_true rfl) hc1 hc2 rfl (fun r g' I2 L2 h => by obtain ⟨rfl, z, rfl, rfl, rfl, ⟨rfl, h⟩ | ⟨rfl, h⟩⟩ := h; exact kt h; exact kf h)
theorem t28_X5_readAll_123 {E : En} {d : Nat} {κ : Kp} {I L : MI} {Z : Zt} {a0 : Nat} {a1 b0 : Int} (hx : Ir b0) (kt : b0 = 0 → Ev E d M_X5_readAll 136 [vr a0, vi a1] [] κ I L Z) (kf : ¬ b0 = 0 → Ev E d M_X5_readAll 126 [vr a0, vi a1] [] κ I L Z) : Ev E d M_X5_readAll 123 [vr a0, vi a1] [vi b0] κ I L Z := E_if_eq dX5_readAll_123 hx kt kf (by decide)
theorem t28_X5_readAll_126 {E : En} {d : Nat} {κ : Kp} {I L : MI} {Z : Zt} {a0 : Nat} {a1 : Int}  (k : Ev E d M_X5_readAll 127 [vr a0, vi a1] [vr a0] κ I L Z) : Ev E d M_X5_readAll 126 [vr a0, vi a1] [] κ I L Z := E_aload_n dX5_readAll_126 rfl k
theorem t28_X5_readAll_127 {E : En} {d d' : Nat} {cs : Nat × Nat} {I L : MI} {Z : Zt} {a0 b0 : Nat} {a1 : Int} {Q : MI → MI → Prop} (hs : G0.1[b0]? = some (.inl 5)) (hM : CQv E d' M_X5_readPair [vr b0] I L Q) (hlt : d' + 1 ≤ d) (kk : ∀ (I' L' : MI), Q I' L' → Ev E d M_X5_readAll 130 [vr a0, vi a1] [] (G0, cs) I' L' Z) (hc1 : cs.1 ≤ M_X5_readAll.2.2.2.2.1 := by decide) (hc2 : cs.2 ≤ M_X5_readAll.2.2.2.2.2 := by decide) : Ev E d M_X5_readAll 127 [vr a0, vi a1] [vr b0] (G0, cs) I L Z := E_callV (as := []) (rest := []) (n := 0) hM dX5_readAll_127 wM_RX5_54 wS_X5_readPair wV_X5_readPair hs (by decide) rfl hlt wC_X5_readPair wI_X5 (by decide +kernel) rfl (by decide) (Nat.le_of_ble_eq_true rfl) hc1 hc2 rfl (fun r g' I' L' h => by obtain ⟨rfl, rfl, h⟩ := h; exact kk I' L' h)
theorem t28_X5_readAll_130 {E : En} {d : Nat} {κ : Kp} {I L : MI} {Z : Zt} {a0 : Nat} {a1 : Int}  (k : Ev E d M_X5_readAll 133 [vr a0, vi (a1 + 1)] [] κ I L Z) : Ev E d M_X5_readAll 130 [vr a0, vi a1] [] κ I L Z := E_iinc dX5_readAll_130 rfl rfl (Nat.le_of_ble_eq_true rfl) k
theorem t28_X5_readAll_133 {E : En} {d : Nat} {κ : Kp} {I L : MI} {Z : Zt} {a0 : Nat} {a1 : Int}  (k : Ev E d M_X5_readAll 104 [vr a0, vi a1] [] κ I L Z) : Ev E d M_X5_readAll 133 [vr a0, vi a1] [] κ I L Z := E_goto dX5_readAll_133 (by decide) k
theorem t28_X5_readAll_71 {E : En} {d : Nat} {κ : Kp} {I L : MI} {Z : Zt} {a0 : Nat} {a1 : Int}  (k : Ev E d M_X5_readAll 72 [vr a0, vi a1] [vi a1] κ I L Z) : Ev E d M_X5_readAll 71 [vr a0, vi a1] [] κ I L Z := E_iload_n dX5_readAll_71 rfl k
theorem t28_X5_readAll_72 {E : En} {d : Nat} {κ : Kp} {I L : MI} {Z : Zt} {a0 : Nat} {a1 b0 : Int}  (k : Ev E d M_X5_readAll 73 [vr a0, vi a1] [vi 5, vi b0] κ I L Z) : Ev E d M_X5_readAll 72 [vr a0, vi a1] [vi b0] κ I L Z := E_iconst (v := 5) dX5_readAll_72 rfl k
theorem t28_X5_readAll_73 {E : En} {d : Nat} {κ : Kp} {I L : MI} {Z : Zt} {a0 : Nat} {a1 b0 b1 : Int} (hx : Ir b1) (hy : Ir b0) (kt : b0 < b1 → Ev E d M_X5_readAll 102 [vr a0, vi a1] [] κ I L Z) (kf : b1 ≤ b0 → Ev E d M_X5_readAll 76 [vr a0, vi a1] [] κ I L Z) : Ev E d M_X5_readAll 73 [vr a0, vi a1] [vi b0, vi b1] κ I L Z := E_icmp_gt dX5_readAll_73 hx hy kt kf (by decide)
theorem t28_X5_readAll_102 {E : En} {d : Nat} {κ : Kp} {I L : MI} {Z : Zt} {a0 : Nat} {a1 : Int}  (k : Ev E d M_X5_readAll 103 [vr a0, vi a1] [vi 0] κ I L Z) : Ev E d M_X5_readAll 102 [vr a0, vi a1] [] κ I L Z := E_iconst (v := 0) dX5_readAll_102 rfl k
theorem t28_X5_readAll_103 {E : En} {d : Nat} {κ : Kp} {I L : MI} {Z : Zt} {a0 : Nat} {a1 b0 : Int}  (k : Ev E d M_X5_readAll 104 [vr a0, vi b0] [] κ I L Z) : Ev E d M_X5_readAll 103 [vr a0, vi a1] [vi b0] κ I L Z := E_istore_n dX5_readAll_103 rfl (Nat.le_of_ble_eq_true rfl) k
theorem t28_X5_readAll_76 {E : En} {d : Nat} {κ : Kp} {I L : MI} {Z : Zt} {a0 : Nat} {a1 : Int}  (k : Ev E d M_X5_readAll 77 [vr a0, vi a1] [vr a0] κ I L Z) : Ev E d M_X5_readAll 76 [vr a0, vi a1] [] κ I L Z := E_aload_n dX5_readAll_76 rfl k
theorem t28_X5_readAll_77 {E : En} {d : Nat} {κ : Kp} {I L : MI} {Z : Zt} {a0 b0 : Nat} {a1 : Int} (hs : κ.1.1[b0]? = some (.inl 5)) (k : Ir (I b0 6) → Ev E d M_X5_readAll 80 [vr a0, vi a1] [vi (I b0 6)] κ I L Z) : Ev E d M_X5_readAll 77 [vr a0, vi a1] [vr b0] κ I L Z := E_getI (ci := 5) (n := 6) dX5_readAll_77 wF_RX5_19 (by decide) hs rfl k
theorem t28_X5_readAll_80 {E : En} {d : Nat} {κ : Kp} {I L : MI} {Z : Zt} {a0 : Nat} {a1 b0 : Int} (hx : Ir b0) (kt : ¬ b0 = 0 → Ev E d M_X5_readAll 102 [vr a0, vi a1] [] κ I L Z) (kf : b0 = 0 → Ev E d M_X5_readAll 83 [vr a0, vi a1] [] κ I L Z) : Ev E d M_X5_readAll 80 [vr a0, vi a1] [vi b0] κ I L Z := E_if_ne dX5_readAll_80 hx kt kf (by decide)
theorem t28_X5_readAll_83 {E : En} {d : Nat} {κ : Kp} {I L : MI} {Z : Zt} {a0 : Nat} {a1 : Int}  (k : Ev E d M_X5_readAll 84 [vr a0, vi a1] [vr a0] κ I L Z) : Ev E d M_X5_readAll 83 [vr a0, vi a1] [] κ I L Z := E_aload_n dX5_readAll_83 rfl k
theorem t28_X5_readAll_84 {E : En} {d : Nat} {κ : Kp} {I L : MI} {Z : Zt} {a0 b0 : Nat} {a1 : Int}  (k : Ev E d M_X5_readAll 86 [vr a0, vi a1] [vr 1006, vr b0] κ I L Z) : Ev E d M_X5_readAll 84 [vr a0, vi a1] [vr b0] κ I L Z := E_ldcS (j := 6) (tx := "rule") dX5_readAll_84 rfl (by decide) k
theorem t28_X5_readAll_86 {E : En} {d d' : Nat} {cs : Nat × Nat} {I L : MI} {Z : Zt} {a0 b0 b1 : Nat} {a1 : Int} {P : Prop} {I' L' : MI} (hs : G0.1[b1]? = some (.inl 5)) (hM : CB E d' M_X5_isWord [vr b1, vr b0] I L P I' L') (hlt : d' + 1 ≤ d) (kt : P → Ev E d M_X5_readAll 89 [vr a0, vi a1] [vi 1] (G0, cs) I' L' Z) (kf : ¬ P → Ev E d M_X5_readAll 89 [vr a0, vi a1] [vi 0] (G0, cs) I' L' Z) (hc1 : cs.1 ≤ M_X5_readAll.2.2.2.2.1 := by decide) (hc2 : cs.2 ≤ M_X5_readAll.2.2.2.2.2 := by decide) : Ev E d M_X5_readAll 86 [vr a0, vi a1] [vr b0, vr b1] (G0, cs) I L Z := E_callV (as := [vr b0]) (rest := []) (n := 1) hM dX5_readAll_86 wM_RX5_36 wS_X5_isWord wV_X5_isWord hs (by decide) rfl hlt wC_X5_isWord wI_X5 (by decide +kernel) rfl (by decide) (Nat.le_of_ble_eq_true rfl) hc1 hc2 rfl (fun r g' I2 L2 h => by obtain ⟨rfl, z, rfl, rfl, rfl, ⟨rfl, h⟩ | ⟨rfl, h⟩⟩ := h; exact kt h; exact kf h)
theorem t28_X5_readAll_89 {E : En} {d : Nat} {κ : Kp} {I L : MI} {Z : Zt} {a0 : Nat} {a1 b0 : Int} (hx : Ir b0) (kt : b0 = 0 → Ev E d M_X5_readAll 102 [vr a0, vi a1] [] κ I L Z) (kf : ¬ b0 = 0 → Ev E d M_X5_readAll 92 [vr a0, vi a1] [] κ I L Z) : Ev E d M_X5_readAll 89 [vr a0, vi a1] [vi b0] κ I L Z := E_if_eq dX5_readAll_89 hx kt kf (by decide)
theorem t28_X5_readAll_92 {E : En} {d : Nat} {κ : Kp} {I L : MI} {Z : Zt} {a0 : Nat} {a1 : Int}  (k : Ev E d M_X5_readAll 93 [vr a0, vi a1] [vr a0] κ I L Z) : Ev E d M_X5_readAll 92 [vr a0, vi a1] [] κ I L Z := E_aload_n dX5_readAll_92 rfl k
theorem t28_X5_readAll_93 {E : En} {d d' : Nat} {cs : Nat × Nat} {I L : MI} {Z : Zt} {a0 b0 : Nat} {a1 : Int} {Q : MI → MI → Prop} (hs : G0.1[b0]? = some (.inl 5)) (hM : CQv E d' M_X5_readRule [vr b0] I L Q) (hlt : d' + 1 ≤ d) (kk : ∀ (I' L' : MI), Q I' L' → Ev E d M_X5_readAll 96 [vr a0, vi a1] [] (G0, cs) I' L' Z) (hc1 : cs.1 ≤ M_X5_readAll.2.2.2.2.1 := by decide) (hc2 : cs.2 ≤ M_X5_readAll.2.2.2.2.2 := by decide) : Ev E d M_X5_readAll 93 [vr a0, vi a1] [vr b0] (G0, cs) I L Z := E_callV (as := []) (rest := []) (n := 0) hM dX5_readAll_93 wM_RX5_49 wS_X5_readRule wV_X5_readRule hs (by decide) rfl hlt wC_X5_readRule wI_X5 (by decide +kernel) rfl (by decide) (Nat.le_of_ble_eq_true rfl) hc1 hc2 rfl (fun r g' I' L' h => by obtain ⟨rfl, rfl, h⟩ := h; exact kk I' L' h)
theorem t28_X5_readAll_96 {E : En} {d : Nat} {κ : Kp} {I L : MI} {Z : Zt} {a0 : Nat} {a1 : Int}  (k : Ev E d M_X5_readAll 99 [vr a0, vi (a1 + 1)] [] κ I L Z) : Ev E d M_X5_readAll 96 [vr a0, vi a1] [] κ I L Z := E_iinc dX5_readAll_96 rfl rfl (Nat.le_of_ble_eq_true rfl) k
theorem t28_X5_readAll_99 {E : En} {d : Nat} {κ : Kp} {I L : MI} {Z : Zt} {a0 : Nat} {a1 : Int}  (k : Ev E d M_X5_readAll 71 [vr a0, vi a1] [] κ I L Z) : Ev E d M_X5_readAll 99 [vr a0, vi a1] [] κ I L Z := E_goto dX5_readAll_99 (by decide) k
theorem t28_X5_readAll_37 {E : En} {d : Nat} {κ : Kp} {I L : MI} {Z : Zt} {a0 : Nat} {a1 : Int}  (k : Ev E d M_X5_readAll 38 [vr a0, vi a1] [vi a1] κ I L Z) : Ev E d M_X5_readAll 37 [vr a0, vi a1] [] κ I L Z := E_iload_n dX5_readAll_37 rfl k
theorem t28_X5_readAll_38 {E : En} {d : Nat} {κ : Kp} {I L : MI} {Z : Zt} {a0 : Nat} {a1 b0 : Int}  (k : Ev E d M_X5_readAll 40 [vr a0, vi a1] [vi 12, vi b0] κ I L Z) : Ev E d M_X5_readAll 38 [vr a0, vi a1] [vi b0] κ I L Z := E_bipush (v := 12) dX5_readAll_38 rfl k
theorem t28_X5_readAll_40 {E : En} {d : Nat} {κ : Kp} {I L : MI} {Z : Zt} {a0 : Nat} {a1 b0 b1 : Int} (hx : Ir b1) (hy : Ir b0) (kt : b0 < b1 → Ev E d M_X5_readAll 69 [vr a0, vi a1] [] κ I L Z) (kf : b1 ≤ b0 → Ev E d M_X5_readAll 43 [vr a0, vi a1] [] κ I L Z) : Ev E d M_X5_readAll 40 [vr a0, vi a1] [vi b0, vi b1] κ I L Z := E_icmp_gt dX5_readAll_40 hx hy kt kf (by decide)
theorem t28_X5_readAll_69 {E : En} {d : Nat} {κ : Kp} {I L : MI} {Z : Zt} {a0 : Nat} {a1 : Int}  (k : Ev E d M_X5_readAll 70 [vr a0, vi a1] [vi 0] κ I L Z) : Ev E d M_X5_readAll 69 [vr a0, vi a1] [] κ I L Z := E_iconst (v := 0) dX5_readAll_69 rfl k
theorem t28_X5_readAll_70 {E : En} {d : Nat} {κ : Kp} {I L : MI} {Z : Zt} {a0 : Nat} {a1 b0 : Int}  (k : Ev E d M_X5_readAll 71 [vr a0, vi b0] [] κ I L Z) : Ev E d M_X5_readAll 70 [vr a0, vi a1] [vi b0] κ I L Z := E_istore_n dX5_readAll_70 rfl (Nat.le_of_ble_eq_true rfl) k
theorem t28_X5_readAll_43 {E : En} {d : Nat} {κ : Kp} {I L : MI} {Z : Zt} {a0 : Nat} {a1 : Int}  (k : Ev E d M_X5_readAll 44 [vr a0, vi a1] [vr a0] κ I L Z) : Ev E d M_X5_readAll 43 [vr a0, vi a1] [] κ I L Z := E_aload_n dX5_readAll_43 rfl k
theorem t28_X5_readAll_44 {E : En} {d : Nat} {κ : Kp} {I L : MI} {Z : Zt} {a0 b0 : Nat} {a1 : Int} (hs : κ.1.1[b0]? = some (.inl 5)) (k : Ir (I b0 6) → Ev E d M_X5_readAll 47 [vr a0, vi a1] [vi (I b0 6)] κ I L Z) : Ev E d M_X5_readAll 44 [vr a0, vi a1] [vr b0] κ I L Z := E_getI (ci := 5) (n := 6) dX5_readAll_44 wF_RX5_19 (by decide) hs rfl k
theorem t28_X5_readAll_47 {E : En} {d : Nat} {κ : Kp} {I L : MI} {Z : Zt} {a0 : Nat} {a1 b0 : Int} (hx : Ir b0) (kt : ¬ b0 = 0 → Ev E d M_X5_readAll 69 [vr a0, vi a1] [] κ I L Z) (kf : b0 = 0 → Ev E d M_X5_readAll 50 [vr a0, vi a1] [] κ I L Z) : Ev E d M_X5_readAll 47 [vr a0, vi a1] [vi b0] κ I L Z := E_if_ne dX5_readAll_47 hx kt kf (by decide)
theorem t28_X5_readAll_50 {E : En} {d : Nat} {κ : Kp} {I L : MI} {Z : Zt} {a0 : Nat} {a1 : Int}  (k : Ev E d M_X5_readAll 51 [vr a0, vi a1] [vr a0] κ I L Z) : Ev E d M_X5_readAll 50 [vr a0, vi a1] [] κ I L Z := E_aload_n dX5_readAll_50 rfl k
theorem t28_X5_readAll_51 {E : En} {d : Nat} {κ : Kp} {I L : MI} {Z : Zt} {a0 b0 : Nat} {a1 : Int}  (k : Ev E d M_X5_readAll 53 [vr a0, vi a1] [vr 1005, vr b0] κ I L Z) : Ev E d M_X5_readAll 51 [vr a0, vi a1] [vr b0] κ I L Z := E_ldcS (j := 5) (tx := "thing") dX5_readAll_51 rfl (by decide) k
theorem t28_X5_readAll_53 {E : En} {d d' : Nat} {cs : Nat × Nat} {I L : MI} {Z : Zt} {a0 b0 b1 : Nat} {a1 : Int} {P : Prop} {I' L' : MI} (hs : G0.1[b1]? = some (.inl 5)) (hM : CB E d' M_X5_isWord [vr b1, vr b0] I L P I' L') (hlt : d' + 1 ≤ d) (kt : P → Ev E d M_X5_readAll 56 [vr a0, vi a1] [vi 1] (G0, cs) I' L' Z) (kf : ¬ P → Ev E d M_X5_readAll 56 [vr a0, vi a1] [vi 0] (G0, cs) I' L' Z) (hc1 : cs.1 ≤ M_X5_readAll.2.2.2.2.1 := by decide) (hc2 : cs.2 ≤ M_X5_readAll.2.2.2.2.2 := by decide) : Ev E d M_X5_readAll 53 [vr a0, vi a1] [vr b0, vr b1] (G0, cs) I L Z := E_callV (as := [vr b0]) (rest := []) (n := 1) hM dX5_readAll_53 wM_RX5_36 wS_X5_isWord wV_X5_isWord hs (by decide) rfl hlt wC_X5_isWord wI_X5 (by decide +kernel) rfl (by decide) (Nat.le_of_ble_eq_true rfl) hc1 hc2 rfl (fun r g' I2 L2 h => by obtain ⟨rfl, z, rfl, rfl, rfl, ⟨rfl, h⟩ | ⟨rfl, h⟩⟩ := h; exact kt h; exact kf h)
theorem t28_X5_readAll_56 {E : En} {d : Nat} {κ : Kp} {I L : MI} {Z : Zt} {a0 : Nat} {a1 b0 : Int} (hx : Ir b0) (kt : b0 = 0 → Ev E d M_X5_readAll 69 [vr a0, vi a1] [] κ I L Z) (kf : ¬ b0 = 0 → Ev E d M_X5_readAll 59 [vr a0, vi a1] [] κ I L Z) : Ev E d M_X5_readAll 56 [vr a0, vi a1] [vi b0] κ I L Z := E_if_eq dX5_readAll_56 hx kt kf (by decide)
theorem t28_X5_readAll_59 {E : En} {d : Nat} {κ : Kp} {I L : MI} {Z : Zt} {a0 : Nat} {a1 : Int}  (k : Ev E d M_X5_readAll 60 [vr a0, vi a1] [vr a0] κ I L Z) : Ev E d M_X5_readAll 59 [vr a0, vi a1] [] κ I L Z := E_aload_n dX5_readAll_59 rfl k
theorem t28_X5_readAll_60 {E : En} {d d' : Nat} {cs : Nat × Nat} {I L : MI} {Z : Zt} {a0 b0 : Nat} {a1 : Int} {Q : MI → MI → Prop} (hs : G0.1[b0]? = some (.inl 5)) (hM : CQv E d' M_X5_readThing [vr b0] I L Q) (hlt : d' + 1 ≤ d) (kk : ∀ (I' L' : MI), Q I' L' → Ev E d M_X5_readAll 63 [vr a0, vi a1] [] (G0, cs) I' L' Z) (hc1 : cs.1 ≤ M_X5_readAll.2.2.2.2.1 := by decide) (hc2 : cs.2 ≤ M_X5_readAll.2.2.2.2.2 := by decide) : Ev E d M_X5_readAll 60 [vr a0, vi a1] [vr b0] (G0, cs) I L Z := E_callV (as := []) (rest := []) (n := 0) hM dX5_readAll_60 wM_RX5_44 wS_X5_readThing wV_X5_readThing hs (by decide) rfl hlt wC_X5_readThing wI_X5 (by decide +kernel) rfl (by decide) (Nat.le_of_ble_eq_true rfl) hc1 hc2 rfl (fun r g' I' L' h => by obtain ⟨rfl, rfl, h⟩ := h; exact kk I' L' h)
theorem t28_X5_readAll_63 {E : En} {d : Nat} {κ : Kp} {I L : MI} {Z : Zt} {a0 : Nat} {a1 : Int}  (k : Ev E d M_X5_readAll 66 [vr a0, vi (a1 + 1)] [] κ I L Z) : Ev E d M_X5_readAll 63 [vr a0, vi a1] [] κ I L Z := E_iinc dX5_readAll_63 rfl rfl (Nat.le_of_ble_eq_true rfl) k
theorem t28_X5_readAll_66 {E : En} {d : Nat} {κ : Kp} {I L : MI} {Z : Zt} {a0 : Nat} {a1 : Int}  (k : Ev E d M_X5_readAll 37 [vr a0, vi a1] [] κ I L Z) : Ev E d M_X5_readAll 66 [vr a0, vi a1] [] κ I L Z := E_goto dX5_readAll_66 (by decide) k
theorem t28_X5_readAll_0 {E : En} {d : Nat} {κ : Kp} {I L : MI} {Z : Zt} {a0 : Nat}  (k : Ev E d M_X5_readAll 1 [vr a0, vu] [vr a0] κ I L Z) : Ev E d M_X5_readAll 0 [vr a0, vu] [] κ I L Z := E_aload_n dX5_readAll_0 rfl k
theorem t28_X5_readAll_1 {E : En} {d : Nat} {κ : Kp} {I L : MI} {Z : Zt} {a0 b0 : Nat}  (k : Ev E d M_X5_readAll 2 [vr a0, vu] [vi 0, vr b0] κ I L Z) : Ev E d M_X5_readAll 1 [vr a0, vu] [vr b0] κ I L Z := E_iconst (v := 0) dX5_readAll_1 rfl k
theorem t28_X5_readAll_2 {E : En} {d : Nat} {κ : Kp} {I L : MI} {Z : Zt} {a0 b1 : Nat} {b0 : Int} (hs : κ.1.1[b1]? = some (.inl 5)) (hz : Ir b0) (k : Ev E d M_X5_readAll 5 [vr a0, vu] [] κ (up2 I b1 6 b0) L Z) : Ev E d M_X5_readAll 2 [vr a0, vu] [vi b0, vr b1] κ I L Z := E_putI (ci := 5) (n := 6) dX5_readAll_2 wF_RX5_19 (by decide) hs rfl rfl hz k
theorem t28_X5_readAll_5 {E : En} {d : Nat} {κ : Kp} {I L : MI} {Z : Zt} {a0 : Nat}  (k : Ev E d M_X5_readAll 6 [vr a0, vu] [vr a0] κ I L Z) : Ev E d M_X5_readAll 5 [vr a0, vu] [] κ I L Z := E_aload_n dX5_readAll_5 rfl k
theorem t28_X5_readAll_6 {E : En} {d : Nat} {κ : Kp} {I L : MI} {Z : Zt} {a0 b0 : Nat}  (k : Ev E d M_X5_readAll 7 [vr a0, vu] [vi 0, vr b0] κ I L Z) : Ev E d M_X5_readAll 6 [vr a0, vu] [vr b0] κ I L Z := E_iconst (v := 0) dX5_readAll_6 rfl k
theorem t28_X5_readAll_7 {E : En} {d : Nat} {κ : Kp} {I L : MI} {Z : Zt} {a0 b1 : Nat} {b0 : Int} (hs : κ.1.1[b1]? = some (.inl 5)) (hz : Ir b0) (k : Ev E d M_X5_readAll 10 [vr a0, vu] [] κ (up2 I b1 4 b0) L Z) : Ev E d M_X5_readAll 7 [vr a0, vu] [vi b0, vr b1] κ I L Z := E_putI (ci := 5) (n := 4) dX5_readAll_7 wF_RX5_23 (by decide) hs rfl rfl hz k
theorem t28_X5_readAll_10 {E : En} {d : Nat} {κ : Kp} {I L : MI} {Z : Zt} {a0 : Nat}  (k : Ev E d M_X5_readAll 11 [vr a0, vu] [vr a0] κ I L Z) : Ev E d M_X5_readAll 10 [vr a0, vu] [] κ I L Z := E_aload_n dX5_readAll_10 rfl k
theorem t28_X5_readAll_11 {E : En} {d : Nat} {κ : Kp} {I L : MI} {Z : Zt} {a0 b0 : Nat} {q : Nat} (hs : κ.1.1[b0]? = some (.inl 5)) (hq : κ.1.2 b0 1 = some q) (k : Ev E d M_X5_readAll 14 [vr a0, vu] [vr q] κ I L Z) : Ev E d M_X5_readAll 11 [vr a0, vu] [vr b0] κ I L Z := E_getR (ci := 5) (n := 1) dX5_readAll_11 wF_RX5_15 (by decide) hs rfl hq k
theorem t28_X5_readAll_14 {E : En} {d d' : Nat} {cs : Nat × Nat} {I L : MI} {Z : Zt} {a0 b0 : Nat} {I' L' : MI} (hs : G0.1[b0]? = some (.inl 9)) (hM : CFv E d' M_X9_clear [vr b0] I L I' L') (hlt : d' + 1 ≤ d) (k : Ev E d M_X5_readAll 17 [vr a0, vu] [] (G0, cs) I' L' Z) (hc1 : cs.1 ≤ M_X5_readAll.2.2.2.2.1 := by decide) (hc2 : cs.2 ≤ M_X5_readAll.2.2.2.2.2 := by decide) : Ev E d M_X5_readAll 14 [vr a0, vu] [vr b0] (G0, cs) I L Z := E_callV (as := []) (rest := []) (n := 0) hM dX5_readAll_14 wM_RX5_26 wS_X9_clear wV_X9_clear hs (by decide) rfl hlt wC_X9_clear wI_X9 (by decide +kernel) rfl (by decide) (Nat.le_of_ble_eq_true rfl) hc1 hc2 rfl (fun r g' I2 L2 h => by obtain ⟨rfl, rfl, rfl, rfl⟩ := h; exact k)
theorem t28_X5_readAll_17 {E : En} {d : Nat} {κ : Kp} {I L : MI} {Z : Zt} {a0 : Nat}  (k : Ev E d M_X5_readAll 18 [vr a0, vu] [vr a0] κ I L Z) : Ev E d M_X5_readAll 17 [vr a0, vu] [] κ I L Z := E_aload_n dX5_readAll_17 rfl k
theorem t28_X5_readAll_18 {E : En} {d d' : Nat} {cs : Nat × Nat} {I L : MI} {Z : Zt} {a0 b0 : Nat} {Q : MI → MI → Prop} (hs : G0.1[b0]? = some (.inl 5)) (hM : CQv E d' M_X5_next [vr b0] I L Q) (hlt : d' + 1 ≤ d) (kk : ∀ (I' L' : MI), Q I' L' → Ev E d M_X5_readAll 21 [vr a0, vu] [] (G0, cs) I' L' Z) (hc1 : cs.1 ≤ M_X5_readAll.2.2.2.2.1 := by decide) (hc2 : cs.2 ≤ M_X5_readAll.2.2.2.2.2 := by decide) : Ev E d M_X5_readAll 18 [vr a0, vu] [vr b0] (G0, cs) I L Z := E_callV (as := []) (rest := []) (n := 0) hM dX5_readAll_18 wM_RX5_31 wS_X5_next wV_X5_next hs (by decide) rfl hlt wC_X5_next wI_X5 (by decide +kernel) rfl (by decide) (Nat.le_of_ble_eq_true rfl) hc1 hc2 rfl (fun r g' I' L' h => by obtain ⟨rfl, rfl, h⟩ := h; exact kk I' L' h)
theorem t28_X5_readAll_21 {E : En} {d : Nat} {κ : Kp} {I L : MI} {Z : Zt} {a0 : Nat}  (k : Ev E d M_X5_readAll 22 [vr a0, vu] [vr a0] κ I L Z) : Ev E d M_X5_readAll 21 [vr a0, vu] [] κ I L Z := E_aload_n dX5_readAll_21 rfl k
theorem t28_X5_readAll_22 {E : En} {d : Nat} {κ : Kp} {I L : MI} {Z : Zt} {a0 b0 : Nat}  (k : Ev E d M_X5_readAll 24 [vr a0, vu] [vr 1005, vr b0] κ I L Z) : Ev E d M_X5_readAll 22 [vr a0, vu] [vr b0] κ I L Z := E_ldcS (j := 5) (tx := "thing") dX5_readAll_22 rfl (by decide) k
theorem t28_X5_readAll_24 {E : En} {d d' : Nat} {cs : Nat × Nat} {I L : MI} {Z : Zt} {a0 b0 b1 : Nat} {P : Prop} {I' L' : MI} (hs : G0.1[b1]? = some (.inl 5)) (hM : CB E d' M_X5_isWord [vr b1, vr b0] I L P I' L') (hlt : d' + 1 ≤ d) (kt : P → Ev E d M_X5_readAll 27 [vr a0, vu] [vi 1] (G0, cs) I' L' Z) (kf : ¬ P → Ev E d M_X5_readAll 27 [vr a0, vu] [vi 0] (G0, cs) I' L' Z) (hc1 : cs.1 ≤ M_X5_readAll.2.2.2.2.1 := by decide) (hc2 : cs.2 ≤ M_X5_readAll.2.2.2.2.2 := by decide) : Ev E d M_X5_readAll 24 [vr a0, vu] [vr b0, vr b1] (G0, cs) I L Z := E_callV (as := [vr b0]) (rest := []) (n := 1) hM dX5_readAll_24 wM_RX5_36 wS_X5_isWord wV_X5_isWord hs (by decide) rfl hlt wC_X5_isWord wI_X5 (by decide +kernel) rfl (by decide) (Nat.le_of_ble_eq_true rfl) hc1 hc2 rfl (fun r g' I2 L2 h => by obtain ⟨rfl, z, rfl, rfl, rfl, ⟨rfl, h⟩ | ⟨rfl, h⟩⟩ := h; exact kt h; exact kf h)
theorem t28_X5_readAll_27 {E : En} {d : Nat} {κ : Kp} {I L : MI} {Z : Zt} {a0 : Nat} {b0 : Int} (hx : Ir b0) (kt : ¬ b0 = 0 → Ev E d M_X5_readAll 35 [vr a0, vu] [] κ I L Z) (kf : b0 = 0 → Ev E d M_X5_readAll 30 [vr a0, vu] [] κ I L Z) : Ev E d M_X5_readAll 27 [vr a0, vu] [vi b0] κ I L Z := E_if_ne dX5_readAll_27 hx kt kf (by decide)
theorem t28_X5_readAll_35 {E : En} {d : Nat} {κ : Kp} {I L : MI} {Z : Zt} {a0 : Nat}  (k : Ev E d M_X5_readAll 36 [vr a0, vu] [vi 0] κ I L Z) : Ev E d M_X5_readAll 35 [vr a0, vu] [] κ I L Z := E_iconst (v := 0) dX5_readAll_35 rfl k
theorem t28_X5_readAll_36 {E : En} {d : Nat} {κ : Kp} {I L : MI} {Z : Zt} {a0 : Nat} {b0 : Int}  (k : Ev E d M_X5_readAll 37 [vr a0, vi b0] [] κ I L Z) : Ev E d M_X5_readAll 36 [vr a0, vu] [vi b0] κ I L Z := E_istore_n dX5_readAll_36 rfl (Nat.le_of_ble_eq_true rfl) k
theorem t28_X5_readAll_30 {E : En} {d : Nat} {κ : Kp} {I L : MI} {Z : Zt} {a0 : Nat}  (k : Ev E d M_X5_readAll 31 [vr a0, vu] [vr a0] κ I L Z) : Ev E d M_X5_readAll 30 [vr a0, vu] [] κ I L Z := E_aload_n dX5_readAll_30 rfl k
theorem t28_X5_readAll_31 {E : En} {d : Nat} {κ : Kp} {I L : MI} {Z : Zt} {a0 b0 : Nat}  (k : Ev E d M_X5_readAll 32 [vr a0, vu] [vi 1, vr b0] κ I L Z) : Ev E d M_X5_readAll 31 [vr a0, vu] [vr b0] κ I L Z := E_iconst (v := 1) dX5_readAll_31 rfl k
theorem t28_X5_readAll_32 {E : En} {d d' : Nat} {cs : Nat × Nat} {I L : MI} {Z : Zt} {a0 b1 : Nat} {b0 : Int} {I' L' : MI} (hs : G0.1[b1]? = some (.inl 5)) (hM : CFv E d' M_X5_fail [vr b1, vi b0] I L I' L') (hlt : d' + 1 ≤ d) (k : Ev E d M_X5_readAll 35 [vr a0, vu] [] (G0, cs) I' L' Z) (hc1 : cs.1 ≤ M_X5_readAll.2.2.2.2.1 := by decide) (hc2 : cs.2 ≤ M_X5_readAll.2.2.2.2.2 := by decide) : Ev E d M_X5_readAll 32 [vr a0, vu] [vi b0, vr b1] (G0, cs) I L Z := E_callV (as := [vi b0]) (rest := []) (n := 1) hM dX5_readAll_32 wM_RX5_40 wS_X5_fail wV_X5_fail hs (by decide) rfl hlt wC_X5_fail wI_X5 (by decide +kernel) rfl (by decide) (Nat.le_of_ble_eq_true rfl) hc1 hc2 rfl (fun r g' I2 L2 h => by obtain ⟨rfl, rfl, rfl, rfl⟩ := h; exact k)
/-! CONTRACTS: the reader reads all -/
theorem newN_f {I J : MI} (h : RFr I J) {s : PR} {b : Int} : newN J s b = newN I s b := by
  unfold newN
  rw [propext (newP_f h)]
theorem Wf_f {I J : MI} (h : RFr I J) (w : WfT I 4) : WfT J 4 := by
  unfold WfT TB at *
  simpa only [h 4 (by decide), h (4 + 1) (by decide), h (4 + 2) (by decide), h (4 + 3) (by decide), h (4 + 4) (by decide), h (4 + 5) (by decide), h (4 + 6) (by decide), h (4 + 7) (by decide), h (4 + 8) (by decide)] using w
def StF (st : (Int → Int) → PR → MI → PR × MI) : Prop := ∀ (B : Int → Int) (s : PR) (D I : MI), RFr D I → (st B s I).1 = (st B s D).1 ∧ RFr (st B s D).2 (st B s I).2
theorem thg3_f {B : Int → Int} {s : PR} {D I : MI} {a o : Int} (h : RFr D I) : (thg3 B I a o s).1 = (thg3 B D a o s).1 ∧ RFr (thg3 B D a o s).2 (thg3 B I a o s).2 := by
  unfold thg3
  split
  · exact ⟨rfl, addT_f h⟩
  · exact ⟨rfl, h⟩
theorem thgR_f : StF thgR := fun B s D I h => by
  unfold thgR
  rw [h 4 (by decide)]
  split
  · unfold thg1 thg2
    simp only [newN_f h]
    split
    · exact thg3_f h
    · exact thg3_f h
  · exact ⟨rfl, h⟩
theorem rulR_f : StF rulR := fun B s D I h => by
  unfold rulR rul1 rul2 rul3
  simp only [propext (hsR_f h)]
  split
  · exact ⟨rfl, addR_f h⟩
  · exact ⟨rfl, h⟩
theorem parR_f : StF parR := fun B s D I h => by
  unfold parR
  rw [h 4 (by decide)]
  split
  · unfold par1 par2 par3
    rw [h 4 (by decide)]
    split
    · exact ⟨rfl, addP_f h⟩
    · exact ⟨rfl, h⟩
  · exact ⟨rfl, h⟩
noncomputable def lpR (B : Int → Int) (st : (Int → Int) → PR → MI → PR × MI) (q : Nat) : Nat → PR × MI → PR × MI
  | 0, x => x
  | n + 1, x => if pf x.1 = 0 ∧ bP (isWP B x.1 q) = true then lpR B st q n (st B x.1 x.2) else x
theorem lpR_x {B : Int → Int} {st : (Int → Int) → PR → MI → PR × MI} {q : Nat} {x : PR × MI} (h : ¬ (pf x.1 = 0 ∧ isWP B x.1 q)) : ∀ n, lpR B st q n x = x := fun n => by
  cases n with
  | zero => rfl
  | succ n => unfold lpR; rw [if_neg (fun z => h ⟨z.1, bP_i.mp z.2⟩)]
theorem lpR_s {B : Int → Int} {st : (Int → Int) → PR → MI → PR × MI} {q : Nat} {x : PR × MI} (h : pf x.1 = 0 ∧ isWP B x.1 q) (n : Nat) : lpR B st q (n + 1) x = lpR B st q n (st B x.1 x.2) := by
  conv => lhs; unfold lpR
  rw [if_pos ⟨h.1, bP_t h.2⟩]
def finR (s : PR) : PR := if pf s = 0 ∧ pk s ≠ 0 then failR s 1 else s
def clrT (D : MI) (t : Nat) : MI := up2 (up2 (up2 D t 0 0) t 1 0) t 2 0
noncomputable def al0 (B : Int → Int) (s : PR) (D : MI) : PR × MI := (if bP (isWP B (nextR B (pk s, pb s, 0, pv s, 0, pp s)) 1005) = true then nextR B (pk s, pb s, 0, pv s, 0, pp s) else failR (nextR B (pk s, pb s, 0, pv s, 0, pp s)) 1, clrT D 4)
noncomputable def al1 (B : Int → Int) (s : PR) (D : MI) : PR × MI := lpR B thgR 1005 13 (al0 B s D)
noncomputable def al2 (B : Int → Int) (s : PR) (D : MI) : PR × MI := lpR B rulR 1006 6 (al1 B s D)
noncomputable def al3 (B : Int → Int) (s : PR) (D : MI) : PR × MI := lpR B parR 1007 9 (al2 B s D)
def AlQ (B : Int → Int) (s : PR) (L D : MI) : Int → MI → MI → Prop := fun z I' L' => L' = L ∧ RFr (al3 B s D).2 I' ∧ rg I' = finR (al3 B s D).1 ∧ z = (if pf (finR (al3 B s D).1) = 0 then 1 else 0)
theorem Wf_clr (D : MI) (t : Nat) : WfT (clrT D t) t := by
  have e0 : clrT D t t 0 = 0 := by simp [clrT, up2_at]
  have e1 : clrT D t t 1 = 0 := by simp [clrT, up2_at]
  have e2 : clrT D t t 2 = 0 := by simp [clrT, up2_at]
  exact ⟨⟨by omega, by omega, by omega⟩, fun k k0 k1 => by omega, fun k k0 k1 => by omega, fun j k j0 jk k1 => by omega, fun k k0 k1 => by omega⟩
theorem lpR_ok {B : Int → Int} {st : (Int → Int) → PR → MI → PR × MI} {q : Nat} (hst : ∀ s D, RI s → WfT D 4 → RI (st B s D).1 ∧ WfT (st B s D).2 4) : ∀ (n : Nat) (x : PR × MI), RI x.1 → WfT x.2 4 → RI (lpR B st q n x).1 ∧ WfT (lpR B st q n x).2 4 := by
  intro n
  induction n with
  | zero => intro x h1 h2; exact ⟨h1, h2⟩
  | succ n ih =>
    intro x h1 h2
    unfold lpR
    split
    · have := hst x.1 x.2 h1 h2; exact ih _ this.1 this.2
    · exact ⟨h1, h2⟩
theorem al3_ok {B : Int → Int} (hB : BOK B) (s : PR) (D : MI) : RI (al3 B s D).1 ∧ WfT (al3 B s D).2 4 := by
  have h0 : RI (al0 B s D).1 ∧ WfT (al0 B s D).2 4 := by
    refine ⟨?_, Wf_clr D 4⟩
    have := nextR_ok (s := (pk s, pb s, 0, pv s, 0, pp s)) hB (by show (0 : Int) ≤ 0 ∧ (0 : Int) ≤ 400; decide)
    unfold al0
    show RI (if _ then _ else _)
    split
    · exact this
    · exact this
  have h1 := lpR_ok (q := 1005) (fun s D a b => thgR_ok hB a b) 13 _ h0.1 h0.2
  have h2 := lpR_ok (q := 1006) (fun s D a b => rulR_ok hB a b) 6 _ h1.1 h1.2
  exact lpR_ok (q := 1007) (fun s D a b => parR_ok hB a b) 9 _ h2.1 h2.2
theorem thgR_23 {B : Int → Int} {s : PR} {D : MI} {o : Nat} (ho : o = 2 ∨ o = 3) (k : Int) : (thgR B s D).2 o k = D o k := by
  have ha : ∀ a b c, addT D 4 a b c o k = D o k := fun a b c => by rcases ho with rfl | rfl <;> simp [addT, up2_at]
  have h3 : ∀ a b s, (thg3 B D a b s).2 o k = D o k := fun a b s => by unfold thg3; split; exact ha _ _ _; rfl
  unfold thgR
  split
  · unfold thg1 thg2
    split
    · exact h3 _ _ _
    · exact h3 _ _ _
  · rfl
theorem rulR_23 {B : Int → Int} {s : PR} {D : MI} {o : Nat} (ho : o = 2 ∨ o = 3) (k : Int) : (rulR B s D).2 o k = D o k := by
  have ha : ∀ a b c, addR D 4 a b c o k = D o k := fun a b c => by rcases ho with rfl | rfl <;> simp [addR, up2_at]
  unfold rulR rul1 rul2 rul3
  split
  · exact ha _ _ _
  · rfl
theorem parR_23 {B : Int → Int} {s : PR} {D : MI} {o : Nat} (ho : o = 2 ∨ o = 3) (k : Int) : (parR B s D).2 o k = D o k := by
  have ha : ∀ a b, addP D 4 a b o k = D o k := fun a b => by rcases ho with rfl | rfl <;> simp [addP, up2_at]
  unfold parR
  split
  · unfold par1 par2 par3
    split
    · exact ha _ _
    · rfl
  · rfl
theorem c_X5_readAll {E : En} {I L : MI} : CQi E 7 M_X5_readAll [vr 13] I L (AlQ (byI I) (rg I) L I) := by
  have t4 := TgS4
  refine CM_of' (al := [vr _, vu]) rfl (Nat.le_of_ble_eq_true rfl) rfl (fun hM => ?_)
  have k136 : ∀ (I1 : MI) (k : Int) (x : PR × MI), byI I1 = byI I → RFr x.2 I1 → rg I1 = x.1 → RI x.1 → x = al3 (byI I) (rg I) I → Ev E 7 M_X5_readAll 136 [vr 13, vi k] [] (G0, 0, 0) I1 L (ZQ E M_X5_readAll (QQi (AlQ (byI I) (rg I) L I))) := by
    intro I1 k x hb f1 e1 r1 hx
    have b3 : 0 ≤ I1 13 3 ∧ I1 13 3 ≤ 400 := by have := r1.1; rw [← e1] at this; exact this
    have eF : pf x.1 = I1 13 6 := by rw [← e1]; rfl
    have eK : pk x.1 = I1 13 2 := by rw [← e1]; rfl
    unfold AlQ
    rw [← hx]
    clear hx
    refine (t28_X5_readAll_136 (t28_X5_readAll_137 (by first | assumption | rfl) (fun r137 => (t28_X5_readAll_140 (by omega) (fun c140 => (t28_X5_readAll_155 (t28_X5_readAll_156 (by first | assumption | rfl) (fun r156 => (t28_X5_readAll_159 (by omega) (fun c159 => (t28_X5_readAll_166 (t28_X5_readAll_167 (by first | exact Or.inl rfl | exact Or.inr rfl | assumption | omega) ?_))) (fun c159 => (t28_X5_readAll_162 (t28_X5_readAll_163 (t28_X5_readAll_167 (by first | exact Or.inl rfl | exact Or.inr rfl | assumption | omega) ?_))))))))) (fun c140 => (t28_X5_readAll_143 (t28_X5_readAll_144 (by first | assumption | rfl) (fun r144 => (t28_X5_readAll_147 (by omega) (fun c147 => (t28_X5_readAll_155 (t28_X5_readAll_156 (by first | assumption | rfl) (fun r156 => (t28_X5_readAll_159 (by omega) (fun c159 => (t28_X5_readAll_166 (t28_X5_readAll_167 (by first | exact Or.inl rfl | exact Or.inr rfl | assumption | omega) ?_))) (fun c159 => (t28_X5_readAll_162 (t28_X5_readAll_163 (t28_X5_readAll_167 (by first | exact Or.inl rfl | exact Or.inr rfl | assumption | omega) ?_))))))))) (fun c147 => (t28_X5_readAll_150 (t28_X5_readAll_151 (t28_X5_readAll_152 (by first | assumption | rfl) c_X5_fail (by first | decide | omega) (t28_X5_readAll_155 (t28_X5_readAll_156 (by first | assumption | rfl) (fun r156 => (t28_X5_readAll_159 (by omega) (fun c159 => (t28_X5_readAll_166 (t28_X5_readAll_167 (by first | exact Or.inl rfl | exact Or.inr rfl | assumption | omega) ?_))) (fun c159 => (t28_X5_readAll_162 (t28_X5_readAll_163 (t28_X5_readAll_167 (by first | exact Or.inl rfl | exact Or.inr rfl | assumption | omega) ?_)))))))))))))))))))))
    -- 6 leaves: 140t 159t :ret167 | 140t 159f :ret167 | 140f 147t 159t :ret167 | 140f 147t 159f :ret167 | 140f 147f 159t :ret167 | 140f 147f 159f :ret167
    · have hz : ¬ (pf x.1 = 0 ∧ pk x.1 ≠ 0) := fun h => c140 (eF.symm.trans h.1)
      exact qqi (show _ ∧ _ from ⟨rfl, f1, by rw [show finR x.1 = x.1 from if_neg hz]; exact e1, by rw [show finR x.1 = x.1 from if_neg hz, if_neg (by rw [eF]; exact c140)]⟩)
    · exact absurd c159 c140
    · exact absurd c140 c159
    · have hz : ¬ (pf x.1 = 0 ∧ pk x.1 ≠ 0) := fun h => h.2 (eK.trans c147)
      exact qqi (show _ ∧ _ from ⟨rfl, f1, by rw [show finR x.1 = x.1 from if_neg hz]; exact e1, by rw [show finR x.1 = x.1 from if_neg hz, if_pos (eF.trans c140)]⟩)
    · have hz : pf x.1 = 0 ∧ pk x.1 ≠ 0 := ⟨eF.trans c140, by rw [eK]; exact c147⟩
      refine qqi (show _ ∧ _ from ⟨rfl, RFr_t f1 fail_fr, ?_, ?_⟩)
      · rw [show finR x.1 = failR x.1 1 from if_pos hz, fail_rg, e1]
      · rw [show finR x.1 = failR x.1 1 from if_pos hz, if_neg (show ¬ pf (failR x.1 1) = 0 from by show ¬ (1 : Int) = 0; decide)]
    · exact absurd c159 (by simp [up2_at])
  have key3 : ∀ (f : Nat) (k : Int) (x : PR × MI) (I1 : MI), k + f = 9 → 0 ≤ k → byI I1 = byI I → RFr x.2 I1 → rg I1 = x.1 → RI x.1 → WfT x.2 4 → lpR (byI I) parR 1007 f x = al3 (byI I) (rg I) I → Ev E 7 M_X5_readAll 104 [vr 13, vi k] [] (G0, 0, 0) I1 L (ZQ E M_X5_readAll (QQi (AlQ (byI I) (rg I) L I))) := by
    intro f
    induction f with
    | zero =>
      intro k x I1 hk k0 hb f1 e1 r1 w1 hx
      refine (t28_X5_readAll_104 (t28_X5_readAll_105 (t28_X5_readAll_107 (by omega) (by omega) (fun c107 => ?_) (fun c107 => ?_))))
      -- 2 leaves: 107t :->136 | 107f :->110
      · exact k136 _ _ _ hb f1 e1 r1 hx
      · omega
    | succ f ih =>
      intro k x I1 hk k0 hb f1 e1 r1 w1 hx
      have eF : pf x.1 = I1 13 6 := by rw [← e1]; rfl
      have r2 : RI (rg I1) := by rw [e1]; exact r1
      have hx0 : ¬ (pf x.1 = 0 ∧ isWP (byI I) x.1 1007) → x = al3 (byI I) (rg I) I := fun h => by rw [← hx, lpR_x h]
      have w2 : WfT I1 4 := Wf_f f1 w1
      refine (t28_X5_readAll_104 (t28_X5_readAll_105 (t28_X5_readAll_107 (by omega) (by omega) (fun c107 => ?_) (fun c107 => (t28_X5_readAll_110 (t28_X5_readAll_111 (by first | assumption | rfl) (fun r111 => (t28_X5_readAll_114 (by omega) (fun c114 => ?_) (fun c114 => (t28_X5_readAll_117 (t28_X5_readAll_118 (t28_X5_readAll_120 (by first | assumption | rfl) c_X5_isWord (by first | decide | omega) (fun c120 => (t28_X5_readAll_123 (by decide) (fun h => absurd h (by decide)) (fun _ => (t28_X5_readAll_126 (t28_X5_readAll_127 (by first | assumption | rfl) c_X5_readPair (by first | decide | omega) (fun I127 L127 q127 => ?_)))))) (fun c120 => (t28_X5_readAll_123 (by decide) (fun _ => ?_) (fun h => absurd rfl h)))))))))))))))
      -- 4 leaves: 107t :->136 | 107f 114t :->136 | 107f 114f 120T :call127 | 107f 114f 120F :->136
      · omega
      · have hx : lpR (byI I) parR 1007 0 x = al3 (byI I) (rg I) I := hx0 (fun h => c114 (eF.symm.trans h.1))
        exact k136 _ _ _ hb f1 e1 r1 hx
      · obtain ⟨g1, g2, g3⟩ := q127
        subst g1
        rw [hb, e1] at g2 g3
        have st := parR_f (byI I) x.1 x.2 I1 f1
        have ok := parR_ok (byI_ok I) r1 w1
        refine (t28_X5_readAll_130 (t28_X5_readAll_133 ?_))
        -- 1 leaves: :->104
        refine ih (k + 1) (parR (byI I) x.1 x.2) _ (by omega) (by omega) ?_ (RFr_t st.2 g2) (g3.trans st.1) ok.1 ok.2 ?_
        · rw [← hb]; exact byI_c (fun j => (g2 2 (by decide) j).trans (parR_23 (.inl rfl) j)) (fun j => (g2 3 (by decide) j).trans (parR_23 (.inr rfl) j))
        · rw [← hx, lpR_s ⟨eF.trans c114, by rw [← e1, ← hb]; exact c120⟩]
      · have hx : lpR (byI I) parR 1007 0 x = al3 (byI I) (rg I) I := hx0 (fun h => c120 (by rw [e1, hb]; exact h.2))
        exact k136 _ _ _ hb f1 e1 r1 hx
  have key2 : ∀ (f : Nat) (k : Int) (x : PR × MI) (I1 : MI), k + f = 6 → 0 ≤ k → byI I1 = byI I → RFr x.2 I1 → rg I1 = x.1 → RI x.1 → WfT x.2 4 → lpR (byI I) rulR 1006 f x = al2 (byI I) (rg I) I → Ev E 7 M_X5_readAll 71 [vr 13, vi k] [] (G0, 0, 0) I1 L (ZQ E M_X5_readAll (QQi (AlQ (byI I) (rg I) L I))) := by
    intro f
    induction f with
    | zero =>
      intro k x I1 hk k0 hb f1 e1 r1 w1 hx
      refine (t28_X5_readAll_71 (t28_X5_readAll_72 (t28_X5_readAll_73 (by omega) (by omega) (fun c73 => (t28_X5_readAll_102 (t28_X5_readAll_103 ?_))) (fun c73 => ?_))))
      -- 2 leaves: 73t :->104 | 73f :->76
      · exact key3 9 0 x _ (by omega) (by omega) hb f1 e1 r1 w1 (show lpR _ _ _ 9 x = lpR _ _ _ 9 (al2 _ _ _) from by rw [show x = al2 _ _ _ from hx])
      · omega
    | succ f ih =>
      intro k x I1 hk k0 hb f1 e1 r1 w1 hx
      have eF : pf x.1 = I1 13 6 := by rw [← e1]; rfl
      have r2 : RI (rg I1) := by rw [e1]; exact r1
      have hx0 : ¬ (pf x.1 = 0 ∧ isWP (byI I) x.1 1006) → x = al2 (byI I) (rg I) I := fun h => by rw [← hx, lpR_x h]
      have w2 : WfT I1 4 := Wf_f f1 w1
      refine (t28_X5_readAll_71 (t28_X5_readAll_72 (t28_X5_readAll_73 (by omega) (by omega) (fun c73 => (t28_X5_readAll_102 (t28_X5_readAll_103 ?_))) (fun c73 => (t28_X5_readAll_76 (t28_X5_readAll_77 (by first | assumption | rfl) (fun r77 => (t28_X5_readAll_80 (by omega) (fun c80 => (t28_X5_readAll_102 (t28_X5_readAll_103 ?_))) (fun c80 => (t28_X5_readAll_83 (t28_X5_readAll_84 (t28_X5_readAll_86 (by first | assumption | rfl) c_X5_isWord (by first | decide | omega) (fun c86 => (t28_X5_readAll_89 (by decide) (fun h => absurd h (by decide)) (fun _ => (t28_X5_readAll_92 (t28_X5_readAll_93 (by first | assumption | rfl) c_X5_readRule (by first | decide | omega) (fun I93 L93 q93 => ?_)))))) (fun c86 => (t28_X5_readAll_89 (by decide) (fun _ => (t28_X5_readAll_102 (t28_X5_readAll_103 ?_))) (fun h => absurd rfl h)))))))))))))))
      -- 4 leaves: 73t :->104 | 73f 80t :->104 | 73f 80f 86T :call93 | 73f 80f 86F :->104
      · omega
      · have hx : lpR (byI I) rulR 1006 0 x = al2 (byI I) (rg I) I := hx0 (fun h => c80 (eF.symm.trans h.1))
        exact key3 9 0 x _ (by omega) (by omega) hb f1 e1 r1 w1 (show lpR _ _ _ 9 x = lpR _ _ _ 9 (al2 _ _ _) from by rw [show x = al2 _ _ _ from hx])
      · obtain ⟨g1, g2, g3⟩ := q93
        subst g1
        rw [hb, e1] at g2 g3
        have st := rulR_f (byI I) x.1 x.2 I1 f1
        have ok := rulR_ok (byI_ok I) r1 w1
        refine (t28_X5_readAll_96 (t28_X5_readAll_99 ?_))
        -- 1 leaves: :->71
        refine ih (k + 1) (rulR (byI I) x.1 x.2) _ (by omega) (by omega) ?_ (RFr_t st.2 g2) (g3.trans st.1) ok.1 ok.2 ?_
        · rw [← hb]; exact byI_c (fun j => (g2 2 (by decide) j).trans (rulR_23 (.inl rfl) j)) (fun j => (g2 3 (by decide) j).trans (rulR_23 (.inr rfl) j))
        · rw [← hx, lpR_s ⟨eF.trans c80, by rw [← e1, ← hb]; exact c86⟩]
      · have hx : lpR (byI I) rulR 1006 0 x = al2 (byI I) (rg I) I := hx0 (fun h => c86 (by rw [e1, hb]; exact h.2))
        exact key3 9 0 x _ (by omega) (by omega) hb f1 e1 r1 w1 (show lpR _ _ _ 9 x = lpR _ _ _ 9 (al2 _ _ _) from by rw [show x = al2 _ _ _ from hx])
  have key1 : ∀ (f : Nat) (k : Int) (x : PR × MI) (I1 : MI), k + f = 13 → 0 ≤ k → byI I1 = byI I → RFr x.2 I1 → rg I1 = x.1 → RI x.1 → WfT x.2 4 → lpR (byI I) thgR 1005 f x = al1 (byI I) (rg I) I → Ev E 7 M_X5_readAll 37 [vr 13, vi k] [] (G0, 0, 0) I1 L (ZQ E M_X5_readAll (QQi (AlQ (byI I) (rg I) L I))) := by
    intro f
    induction f with
    | zero =>
      intro k x I1 hk k0 hb f1 e1 r1 w1 hx
      refine (t28_X5_readAll_37 (t28_X5_readAll_38 (t28_X5_readAll_40 (by omega) (by omega) (fun c40 => (t28_X5_readAll_69 (t28_X5_readAll_70 ?_))) (fun c40 => ?_))))
      -- 2 leaves: 40t :->71 | 40f :->43
      · exact key2 6 0 x _ (by omega) (by omega) hb f1 e1 r1 w1 (show lpR _ _ _ 6 x = lpR _ _ _ 6 (al1 _ _ _) from by rw [show x = al1 _ _ _ from hx])
      · omega
    | succ f ih =>
      intro k x I1 hk k0 hb f1 e1 r1 w1 hx
      have eF : pf x.1 = I1 13 6 := by rw [← e1]; rfl
      have r2 : RI (rg I1) := by rw [e1]; exact r1
      have hx0 : ¬ (pf x.1 = 0 ∧ isWP (byI I) x.1 1005) → x = al1 (byI I) (rg I) I := fun h => by rw [← hx, lpR_x h]
      have w2 : 0 ≤ I1 4 0 ∧ I1 4 0 ≤ 12 := by have := w1.1.1; rw [← f1 4 (by decide)] at this; exact this
      refine (t28_X5_readAll_37 (t28_X5_readAll_38 (t28_X5_readAll_40 (by omega) (by omega) (fun c40 => (t28_X5_readAll_69 (t28_X5_readAll_70 ?_))) (fun c40 => (t28_X5_readAll_43 (t28_X5_readAll_44 (by first | assumption | rfl) (fun r44 => (t28_X5_readAll_47 (by omega) (fun c47 => (t28_X5_readAll_69 (t28_X5_readAll_70 ?_))) (fun c47 => (t28_X5_readAll_50 (t28_X5_readAll_51 (t28_X5_readAll_53 (by first | assumption | rfl) c_X5_isWord (by first | decide | omega) (fun c53 => (t28_X5_readAll_56 (by decide) (fun h => absurd h (by decide)) (fun _ => (t28_X5_readAll_59 (t28_X5_readAll_60 (by first | assumption | rfl) c_X5_readThing (by first | decide | omega) (fun I60 L60 q60 => ?_)))))) (fun c53 => (t28_X5_readAll_56 (by decide) (fun _ => (t28_X5_readAll_69 (t28_X5_readAll_70 ?_))) (fun h => absurd rfl h)))))))))))))))
      -- 4 leaves: 40t :->71 | 40f 47t :->71 | 40f 47f 53T :call60 | 40f 47f 53F :->71
      · omega
      · have hx : lpR (byI I) thgR 1005 0 x = al1 (byI I) (rg I) I := hx0 (fun h => c47 (eF.symm.trans h.1))
        exact key2 6 0 x _ (by omega) (by omega) hb f1 e1 r1 w1 (show lpR _ _ _ 6 x = lpR _ _ _ 6 (al1 _ _ _) from by rw [show x = al1 _ _ _ from hx])
      · obtain ⟨g1, g2, g3⟩ := q60
        subst g1
        rw [hb, e1] at g2 g3
        have st := thgR_f (byI I) x.1 x.2 I1 f1
        have ok := thgR_ok (byI_ok I) r1 w1
        refine (t28_X5_readAll_63 (t28_X5_readAll_66 ?_))
        -- 1 leaves: :->37
        refine ih (k + 1) (thgR (byI I) x.1 x.2) _ (by omega) (by omega) ?_ (RFr_t st.2 g2) (g3.trans st.1) ok.1 ok.2 ?_
        · rw [← hb]; exact byI_c (fun j => (g2 2 (by decide) j).trans (thgR_23 (.inl rfl) j)) (fun j => (g2 3 (by decide) j).trans (thgR_23 (.inr rfl) j))
        · rw [← hx, lpR_s ⟨eF.trans c47, by rw [← e1, ← hb]; exact c53⟩]
      · have hx : lpR (byI I) thgR 1005 0 x = al1 (byI I) (rg I) I := hx0 (fun h => c53 (by rw [e1, hb]; exact h.2))
        exact key2 6 0 x _ (by omega) (by omega) hb f1 e1 r1 w1 (show lpR _ _ _ 6 x = lpR _ _ _ 6 (al1 _ _ _) from by rw [show x = al1 _ _ _ from hx])
  refine (t28_X5_readAll_0 (t28_X5_readAll_1 (t28_X5_readAll_2 (by first | assumption | rfl) (by omega) (t28_X5_readAll_5 (t28_X5_readAll_6 (t28_X5_readAll_7 (by first | assumption | rfl) (by omega) (t28_X5_readAll_10 (t28_X5_readAll_11 (by first | assumption | rfl) (by first | assumption | rfl) (t28_X5_readAll_14 (by first | assumption | rfl) c_X9_clear (by first | decide | omega) ?_)))))))))
  -- 1 leaves: :->17
  generalize hJ : up2 (up2 (up2 (up2 (up2 I 13 6 0) 13 4 0) 4 0 0) 4 1 0) 4 2 0 = J
  have fJ : RFr (clrT I 4) J := fun o o1 k => by rw [← hJ]; simp only [clrT, up2_at]; simp [o1]
  have rJ : rg J = (pk (rg I), pb (rg I), 0, pv (rg I), 0, pp (rg I)) := by rw [← hJ]; unfold rg; simp [up2_at]
  have bJ : byI J = byI I := byI_c (fun k => by rw [← hJ]; simp [up2_at]) (fun k => by rw [← hJ]; simp [up2_at])
  have heJ0 : J 13 4 = 0 := by rw [← hJ]; simp [up2_at]
  have heJ : 0 ≤ J 13 4 ∧ J 13 4 ≤ 400 := by omega
  refine (t28_X5_readAll_17 (t28_X5_readAll_18 (by first | assumption | rfl) c_X5_next (by first | decide | omega) (fun I18 L18 q18 => ?_)))
  -- 1 leaves: :call18
  obtain ⟨g1, g2, g3⟩ := q18
  subst g1
  rw [bJ, rJ] at g3
  have f1 := RFr_t fJ g2
  have r1 : RI (rg I18) := by rw [g3]; exact nextR_ok (byI_ok I) (by show (0 : Int) ≤ 0 ∧ (0 : Int) ≤ 400; decide)
  have b1 : byI I18 = byI I := (byI_f g2).trans bJ
  have hb3 : 0 ≤ I18 13 3 ∧ I18 13 3 ≤ 400 := r1.1
  refine (t28_X5_readAll_21 (t28_X5_readAll_22 (t28_X5_readAll_24 (by first | assumption | rfl) c_X5_isWord (by first | decide | omega) (fun c24 => (t28_X5_readAll_27 (by decide) (fun _ => (t28_X5_readAll_35 (t28_X5_readAll_36 ?_))) (fun h => absurd h (by decide)))) (fun c24 => (t28_X5_readAll_27 (by decide) (fun h => absurd rfl h) (fun _ => (t28_X5_readAll_30 (t28_X5_readAll_31 (t28_X5_readAll_32 (by first | assumption | rfl) c_X5_fail (by first | decide | omega) (t28_X5_readAll_35 (t28_X5_readAll_36 ?_)))))))))))
  -- 2 leaves: 24T :->37 | 24F :->37
  · refine key1 13 0 (al0 (byI I) (rg I) I) _ (by omega) (by omega) b1 f1 ?_ ?_ (Wf_clr I 4) rfl
    · unfold al0; rw [if_pos (bP_t (by rw [← g3, ← b1]; exact c24))]; exact g3
    · unfold al0; rw [if_pos (bP_t (by rw [← g3, ← b1]; exact c24)), ← g3]; exact r1
  · refine key1 13 0 (al0 (byI I) (rg I) I) _ (by omega) (by omega) ((byI_f fail_fr).trans b1) (RFr_t f1 fail_fr) ?_ ?_ (Wf_clr I 4) rfl
    · unfold al0; rw [if_neg (fun h => c24 (by have := bP_i.mp h; rw [← g3, ← b1] at this; exact this)), fail_rg, g3]
    · unfold al0; rw [if_neg (fun h => c24 (by have := bP_i.mp h; rw [← g3, ← b1] at this; exact this)), ← g3]; exact r1
