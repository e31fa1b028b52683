theorem t22_X5_typeOf_0 {E : En} {d : Nat} {κ : Kp} {I L : MI} {Z : Zt} {a0 : Int}  (k : Ev E d M_X5_typeOf 1 [vi a0] [vi a0] κ I L Z) : Ev E d M_X5_typeOf 0 [vi a0] [] κ I L Z := E_iload_n dX5_typeOf_0 rfl k
theorem t22_X5_typeOf_1 {E : En} {d : Nat} {κ : Kp} {I L : MI} {Z : Zt} {a0 b0 : Int} (hx : Ir b0) (kt : 0 ≤ b0 → Ev E d M_X5_typeOf 6 [vi a0] [] κ I L Z) (kf : b0 < 0 → Ev E d M_X5_typeOf 4 [vi a0] [] κ I L Z) : Ev E d M_X5_typeOf 1 [vi a0] [vi b0] κ I L Z := E_if_ge dX5_typeOf_1 hx kt kf (by decide)
theorem t22_X5_typeOf_6 {E : En} {d : Nat} {κ : Kp} {I L : MI} {Z : Zt} {a0 : Int}  (k : Ev E d M_X5_typeOf 7 [vi a0] [vi a0] κ I L Z) : Ev E d M_X5_typeOf 6 [vi a0] [] κ I L Z := E_iload_n dX5_typeOf_6 rfl k
theorem t22_X5_typeOf_7 {E : En} {d : Nat} {κ : Kp} {I L : MI} {Z : Zt} {a0 b0 : Int}  (k : Ev E d M_X5_typeOf 9 [vi a0] [vi 32, vi b0] κ I L Z) : Ev E d M_X5_typeOf 7 [vi a0] [vi b0] κ I L Z := E_bipush (v := 32) dX5_typeOf_7 rfl k
theorem t22_X5_typeOf_9 {E : En} {d : Nat} {κ : Kp} {I L : MI} {Z : Zt} {a0 b0 b1 : Int} (hx : Ir b1) (hy : Ir b0) (kt : b1 = b0 → Ev E d M_X5_typeOf 18 [vi a0] [] κ I L Z) (kf : ¬ b1 = b0 → Ev E d M_X5_typeOf 12 [vi a0] [] κ I L Z) : Ev E d M_X5_typeOf 9 [vi a0] [vi b0, vi b1] κ I L Z := E_icmp_eq dX5_typeOf_9 hx hy kt kf (by decide)
theorem t22_X5_typeOf_18 {E : En} {d : Nat} {κ : Kp} {I L : MI} {Z : Zt} {a0 : Int}  (k : Ev E d M_X5_typeOf 19 [vi a0] [vi 1] κ I L Z) : Ev E d M_X5_typeOf 18 [vi a0] [] κ I L Z := E_iconst (v := 1) dX5_typeOf_18 rfl k
theorem t22_X5_typeOf_19 {E : En} {d : Nat} {g : Geo} {I L : MI} {Q : Option AV → Geo → MI → MI → Prop} {cs : Nat × Nat} {a0 b0 : Int} (hq : Q (some (vi b0)) g I L) (h1 : cs.1 ≤ M_X5_typeOf.2.2.2.2.1 := by decide) (h2 : cs.2 ≤ M_X5_typeOf.2.2.2.2.2 := by decide) : Ev E d M_X5_typeOf 19 [vi a0] [vi b0] (g, cs) I L (ZQ E M_X5_typeOf Q) := E_ireturn rfl dX5_typeOf_19 hq h1 h2
theorem t22_X5_typeOf_12 {E : En} {d : Nat} {κ : Kp} {I L : MI} {Z : Zt} {a0 : Int}  (k : Ev E d M_X5_typeOf 13 [vi a0] [vi a0] κ I L Z) : Ev E d M_X5_typeOf 12 [vi a0] [] κ I L Z := E_iload_n dX5_typeOf_12 rfl k
theorem t22_X5_typeOf_13 {E : En} {d : Nat} {κ : Kp} {I L : MI} {Z : Zt} {a0 b0 : Int}  (k : Ev E d M_X5_typeOf 15 [vi a0] [vi 10, vi b0] κ I L Z) : Ev E d M_X5_typeOf 13 [vi a0] [vi b0] κ I L Z := E_bipush (v := 10) dX5_typeOf_13 rfl k
theorem t22_X5_typeOf_15 {E : En} {d : Nat} {κ : Kp} {I L : MI} {Z : Zt} {a0 b0 b1 : Int} (hx : Ir b1) (hy : Ir b0) (kt : ¬ b1 = b0 → Ev E d M_X5_typeOf 20 [vi a0] [] κ I L Z) (kf : b1 = b0 → Ev E d M_X5_typeOf 18 [vi a0] [] κ I L Z) : Ev E d M_X5_typeOf 15 [vi a0] [vi b0, vi b1] κ I L Z := E_icmp_ne dX5_typeOf_15 hx hy kt kf (by decide)
theorem t22_X5_typeOf_20 {E : En} {d : Nat} {κ : Kp} {I L : MI} {Z : Zt} {a0 : Int}  (k : Ev E d M_X5_typeOf 21 [vi a0] [vi a0] κ I L Z) : Ev E d M_X5_typeOf 20 [vi a0] [] κ I L Z := E_iload_n dX5_typeOf_20 rfl k
theorem t22_X5_typeOf_21 {E : En} {d : Nat} {κ : Kp} {I L : MI} {Z : Zt} {a0 b0 : Int}  (k : Ev E d M_X5_typeOf 23 [vi a0] [vi 97, vi b0] κ I L Z) : Ev E d M_X5_typeOf 21 [vi a0] [vi b0] κ I L Z := E_bipush (v := 97) dX5_typeOf_21 rfl k
theorem t22_X5_typeOf_23 {E : En} {d : Nat} {κ : Kp} {I L : MI} {Z : Zt} {a0 b0 b1 : Int} (hx : Ir b1) (hy : Ir b0) (kt : b1 < b0 → Ev E d M_X5_typeOf 34 [vi a0] [] κ I L Z) (kf : b0 ≤ b1 → Ev E d M_X5_typeOf 26 [vi a0] [] κ I L Z) : Ev E d M_X5_typeOf 23 [vi a0] [vi b0, vi b1] κ I L Z := E_icmp_lt dX5_typeOf_23 hx hy kt kf (by decide)
theorem t22_X5_typeOf_34 {E : En} {d : Nat} {κ : Kp} {I L : MI} {Z : Zt} {a0 : Int}  (k : Ev E d M_X5_typeOf 35 [vi a0] [vi a0] κ I L Z) : Ev E d M_X5_typeOf 34 [vi a0] [] κ I L Z := E_iload_n dX5_typeOf_34 rfl k
theorem t22_X5_typeOf_35 {E : En} {d : Nat} {κ : Kp} {I L : MI} {Z : Zt} {a0 b0 : Int}  (k : Ev E d M_X5_typeOf 37 [vi a0] [vi 48, vi b0] κ I L Z) : Ev E d M_X5_typeOf 35 [vi a0] [vi b0] κ I L Z := E_bipush (v := 48) dX5_typeOf_35 rfl k
theorem t22_X5_typeOf_37 {E : En} {d : Nat} {κ : Kp} {I L : MI} {Z : Zt} {a0 b0 b1 : Int} (hx : Ir b1) (hy : Ir b0) (kt : b1 < b0 → Ev E d M_X5_typeOf 48 [vi a0] [] κ I L Z) (kf : b0 ≤ b1 → Ev E d M_X5_typeOf 40 [vi a0] [] κ I L Z) : Ev E d M_X5_typeOf 37 [vi a0] [vi b0, vi b1] κ I L Z := E_icmp_lt dX5_typeOf_37 hx hy kt kf (by decide)
theorem t22_X5_typeOf_48 {E : En} {d : Nat} {κ : Kp} {I L : MI} {Z : Zt} {a0 : Int}  (k : Ev E d M_X5_typeOf 49 [vi a0] [vi a0] κ I L Z) : Ev E d M_X5_typeOf 48 [vi a0] [] κ I L Z := E_iload_n dX5_typeOf_48 rfl k
theorem t22_X5_typeOf_49 {E : En} {d : Nat} {κ : Kp} {I L : MI} {Z : Zt} {a0 b0 : Int}  (k : Ev E d M_X5_typeOf 51 [vi a0] [vi 59, vi b0] κ I L Z) : Ev E d M_X5_typeOf 49 [vi a0] [vi b0] κ I L Z := E_bipush (v := 59) dX5_typeOf_49 rfl k
theorem t22_X5_typeOf_51 {E : En} {d : Nat} {κ : Kp} {I L : MI} {Z : Zt} {a0 b0 b1 : Int} (hx : Ir b1) (hy : Ir b0) (kt : ¬ b1 = b0 → Ev E d M_X5_typeOf 58 [vi a0] [] κ I L Z) (kf : b1 = b0 → Ev E d M_X5_typeOf 54 [vi a0] [] κ I L Z) : Ev E d M_X5_typeOf 51 [vi a0] [vi b0, vi b1] κ I L Z := E_icmp_ne dX5_typeOf_51 hx hy kt kf (by decide)
theorem t22_X5_typeOf_58 {E : En} {d : Nat} {κ : Kp} {I L : MI} {Z : Zt} {a0 : Int}  (k : Ev E d M_X5_typeOf 59 [vi a0] [vi 5] κ I L Z) : Ev E d M_X5_typeOf 58 [vi a0] [] κ I L Z := E_iconst (v := 5) dX5_typeOf_58 rfl k
theorem t22_X5_typeOf_59 {E : En} {d : Nat} {g : Geo} {I L : MI} {Q : Option AV → Geo → MI → MI → Prop} {cs : Nat × Nat} {a0 b0 : Int} (hq : Q (some (vi b0)) g I L) (h1 : cs.1 ≤ M_X5_typeOf.2.2.2.2.1 := by decide) (h2 : cs.2 ≤ M_X5_typeOf.2.2.2.2.2 := by decide) : Ev E d M_X5_typeOf 59 [vi a0] [vi b0] (g, cs) I L (ZQ E M_X5_typeOf Q) := E_ireturn rfl dX5_typeOf_59 hq h1 h2
theorem t22_X5_typeOf_54 {E : En} {d : Nat} {κ : Kp} {I L : MI} {Z : Zt} {a0 : Int}  (k : Ev E d M_X5_typeOf 55 [vi a0] [vi 4] κ I L Z) : Ev E d M_X5_typeOf 54 [vi a0] [] κ I L Z := E_iconst (v := 4) dX5_typeOf_54 rfl k
theorem t22_X5_typeOf_55 {E : En} {d : Nat} {κ : Kp} {I L : MI} {Z : Zt} {a0 b0 : Int}  (k : Ev E d M_X5_typeOf 59 [vi a0] [vi b0] κ I L Z) : Ev E d M_X5_typeOf 55 [vi a0] [vi b0] κ I L Z := E_goto dX5_typeOf_55 (by decide) k
theorem t22_X5_typeOf_40 {E : En} {d : Nat} {κ : Kp} {I L : MI} {Z : Zt} {a0 : Int}  (k : Ev E d M_X5_typeOf 41 [vi a0] [vi a0] κ I L Z) : Ev E d M_X5_typeOf 40 [vi a0] [] κ I L Z := E_iload_n dX5_typeOf_40 rfl k
theorem t22_X5_typeOf_41 {E : En} {d : Nat} {κ : Kp} {I L : MI} {Z : Zt} {a0 b0 : Int}  (k : Ev E d M_X5_typeOf 43 [vi a0] [vi 57, vi b0] κ I L Z) : Ev E d M_X5_typeOf 41 [vi a0] [vi b0] κ I L Z := E_bipush (v := 57) dX5_typeOf_41 rfl k
theorem t22_X5_typeOf_43 {E : En} {d : Nat} {κ : Kp} {I L : MI} {Z : Zt} {a0 b0 b1 : Int} (hx : Ir b1) (hy : Ir b0) (kt : b0 < b1 → Ev E d M_X5_typeOf 48 [vi a0] [] κ I L Z) (kf : b1 ≤ b0 → Ev E d M_X5_typeOf 46 [vi a0] [] κ I L Z) : Ev E d M_X5_typeOf 43 [vi a0] [vi b0, vi b1] κ I L Z := E_icmp_gt dX5_typeOf_43 hx hy kt kf (by decide)
theorem t22_X5_typeOf_46 {E : En} {d : Nat} {κ : Kp} {I L : MI} {Z : Zt} {a0 : Int}  (k : Ev E d M_X5_typeOf 47 [vi a0] [vi 3] κ I L Z) : Ev E d M_X5_typeOf 46 [vi a0] [] κ I L Z := E_iconst (v := 3) dX5_typeOf_46 rfl k
theorem t22_X5_typeOf_47 {E : En} {d : Nat} {g : Geo} {I L : MI} {Q : Option AV → Geo → MI → MI → Prop} {cs : Nat × Nat} {a0 b0 : Int} (hq : Q (some (vi b0)) g I L) (h1 : cs.1 ≤ M_X5_typeOf.2.2.2.2.1 := by decide) (h2 : cs.2 ≤ M_X5_typeOf.2.2.2.2.2 := by decide) : Ev E d M_X5_typeOf 47 [vi a0] [vi b0] (g, cs) I L (ZQ E M_X5_typeOf Q) := E_ireturn rfl dX5_typeOf_47 hq h1 h2
theorem t22_X5_typeOf_26 {E : En} {d : Nat} {κ : Kp} {I L : MI} {Z : Zt} {a0 : Int}  (k : Ev E d M_X5_typeOf 27 [vi a0] [vi a0] κ I L Z) : Ev E d M_X5_typeOf 26 [vi a0] [] κ I L Z := E_iload_n dX5_typeOf_26 rfl k
theorem t22_X5_typeOf_27 {E : En} {d : Nat} {κ : Kp} {I L : MI} {Z : Zt} {a0 b0 : Int}  (k : Ev E d M_X5_typeOf 29 [vi a0] [vi 122, vi b0] κ I L Z) : Ev E d M_X5_typeOf 27 [vi a0] [vi b0] κ I L Z := E_bipush (v := 122) dX5_typeOf_27 rfl k
theorem t22_X5_typeOf_29 {E : En} {d : Nat} {κ : Kp} {I L : MI} {Z : Zt} {a0 b0 b1 : Int} (hx : Ir b1) (hy : Ir b0) (kt : b0 < b1 → Ev E d M_X5_typeOf 34 [vi a0] [] κ I L Z) (kf : b1 ≤ b0 → Ev E d M_X5_typeOf 32 [vi a0] [] κ I L Z) : Ev E d M_X5_typeOf 29 [vi a0] [vi b0, vi b1] κ I L Z := E_icmp_gt dX5_typeOf_29 hx hy kt kf (by decide)
theorem t22_X5_typeOf_32 {E : En} {d : Nat} {κ : Kp} {I L : MI} {Z : Zt} {a0 : Int}  (k : Ev E d M_X5_typeOf 33 [vi a0] [vi 2] κ I L Z) : Ev E d M_X5_typeOf 32 [vi a0] [] κ I L Z := E_iconst (v := 2) dX5_typeOf_32 rfl k
theorem t22_X5_typeOf_33 {E : En} {d : Nat} {g : Geo} {I L : MI} {Q : Option AV → Geo → MI → MI → Prop} {cs : Nat × Nat} {a0 b0 : Int} (hq : Q (some (vi b0)) g I L) (h1 : cs.1 ≤ M_X5_typeOf.2.2.2.2.1 := by decide) (h2 : cs.2 ≤ M_X5_typeOf.2.2.2.2.2 := by decide) : Ev E d M_X5_typeOf 33 [vi a0] [vi b0] (g, cs) I L (ZQ E M_X5_typeOf Q) := E_ireturn rfl dX5_typeOf_33 hq h1 h2
theorem t22_X5_typeOf_4 {E : En} {d : Nat} {κ : Kp} {I L : MI} {Z : Zt} {a0 : Int}  (k : Ev E d M_X5_typeOf 5 [vi a0] [vi 0] κ I L Z) : Ev E d M_X5_typeOf 4 [vi a0] [] κ I L Z := E_iconst (v := 0) dX5_typeOf_4 rfl k
theorem t22_X5_typeOf_5 {E : En} {d : Nat} {g : Geo} {I L : MI} {Q : Option AV → Geo → MI → MI → Prop} {cs : Nat × Nat} {a0 b0 : Int} (hq : Q (some (vi b0)) g I L) (h1 : cs.1 ≤ M_X5_typeOf.2.2.2.2.1 := by decide) (h2 : cs.2 ≤ M_X5_typeOf.2.2.2.2.2 := by decide) : Ev E d M_X5_typeOf 5 [vi a0] [vi b0] (g, cs) I L (ZQ E M_X5_typeOf Q) := E_ireturn rfl dX5_typeOf_5 hq h1 h2
theorem t22_X5_pastRun_2 {E : En} {d : Nat} {κ : Kp} {I L : MI} {Z : Zt} {a0 : Nat} {a1 a2 a3 : Int}  (k : Ev E d M_X5_pastRun 3 [vr a0, vi a1, vi a2, vi a3] [vi a3] κ I L Z) : Ev E d M_X5_pastRun 2 [vr a0, vi a1, vi a2, vi a3] [] κ I L Z := E_iload_n dX5_pastRun_2 rfl k
theorem t22_X5_pastRun_3 {E : En} {d : Nat} {κ : Kp} {I L : MI} {Z : Zt} {a0 : Nat} {a1 a2 a3 b0 : Int}  (k : Ev E d M_X5_pastRun 6 [vr a0, vi a1, vi a2, vi a3] [vi 400, vi b0] κ I L Z) : Ev E d M_X5_pastRun 3 [vr a0, vi a1, vi a2, vi a3] [vi b0] κ I L Z := E_sipush (v := 400) dX5_pastRun_3 rfl k
theorem t22_X5_pastRun_6 {E : En} {d : Nat} {κ : Kp} {I L : MI} {Z : Zt} {a0 : Nat} {a1 a2 a3 b0 b1 : Int} (hx : Ir b1) (hy : Ir b0) (kt : b0 ≤ b1 → Ev E d M_X5_pastRun 30 [vr a0, vi a1, vi a2, vi a3] [] κ I L Z) (kf : b1 < b0 → Ev E d M_X5_pastRun 9 [vr a0, vi a1, vi a2, vi a3] [] κ I L Z) : Ev E d M_X5_pastRun 6 [vr a0, vi a1, vi a2, vi a3] [vi b0, vi b1] κ I L Z := E_icmp_ge dX5_pastRun_6 hx hy kt kf (by decide)
theorem t22_X5_pastRun_30 {E : En} {d : Nat} {κ : Kp} {I L : MI} {Z : Zt} {a0 : Nat} {a1 a2 a3 : Int}  (k : Ev E d M_X5_pastRun 31 [vr a0, vi a1, vi a2, vi a3] [vi a3] κ I L Z) : Ev E d M_X5_pastRun 30 [vr a0, vi a1, vi a2, vi a3] [] κ I L Z := E_iload_n dX5_pastRun_30 rfl k
theorem t22_X5_pastRun_31 {E : En} {d : Nat} {g : Geo} {I L : MI} {Q : Option AV → Geo → MI → MI → Prop} {cs : Nat × Nat} {a0 : Nat} {a1 a2 a3 b0 : Int} (hq : Q (some (vi b0)) g I L) (h1 : cs.1 ≤ M_X5_pastRun.2.2.2.2.1 := by decide) (h2 : cs.2 ≤ M_X5_pastRun.2.2.2.2.2 := by decide) : Ev E d M_X5_pastRun 31 [vr a0, vi a1, vi a2, vi a3] [vi b0] (g, cs) I L (ZQ E M_X5_pastRun Q) := E_ireturn rfl dX5_pastRun_31 hq h1 h2
theorem t22_X5_pastRun_9 {E : En} {d : Nat} {κ : Kp} {I L : MI} {Z : Zt} {a0 : Nat} {a1 a2 a3 : Int}  (k : Ev E d M_X5_pastRun 10 [vr a0, vi a1, vi a2, vi a3] [vr a0] κ I L Z) : Ev E d M_X5_pastRun 9 [vr a0, vi a1, vi a2, vi a3] [] κ I L Z := E_aload_n dX5_pastRun_9 rfl k
theorem t22_X5_pastRun_10 {E : En} {d : Nat} {κ : Kp} {I L : MI} {Z : Zt} {a0 b0 : Nat} {a1 a2 a3 : Int} {q : Nat} (hs : κ.1.1[b0]? = some (.inl 5)) (hq : κ.1.2 b0 0 = some q) (k : Ev E d M_X5_pastRun 13 [vr a0, vi a1, vi a2, vi a3] [vr q] κ I L Z) : Ev E d M_X5_pastRun 10 [vr a0, vi a1, vi a2, vi a3] [vr b0] κ I L Z := E_getR (ci := 5) (n := 0) dX5_pastRun_10 wF_RX5_9 (by decide) hs rfl hq k
theorem t22_X5_pastRun_13 {E : En} {d : Nat} {κ : Kp} {I L : MI} {Z : Zt} {a0 b0 : Nat} {a1 a2 a3 : Int}  (k : Ev E d M_X5_pastRun 14 [vr a0, vi a1, vi a2, vi a3] [vi a3, vr b0] κ I L Z) : Ev E d M_X5_pastRun 13 [vr a0, vi a1, vi a2, vi a3] [vr b0] κ I L Z := E_iload_n dX5_pastRun_13 rfl k
theorem t22_X5_pastRun_14 {E : En} {d d' : Nat} {cs : Nat × Nat} {I L : MI} {Z : Zt} {a0 b1 : Nat} {a1 a2 a3 b0 : Int} {z : Int} {I' L' : MI} (hs : G0.1[b1]? = some (.inl 8)) (hM : CFi E d' M_X8_byteAt [vr b1, vi b0] I L z I' L') (hlt : d' + 1 ≤ d) (k : Ir z → Ev E d M_X5_pastRun 17 [vr a0, vi a1, vi a2, vi a3] [vi z] (G0, cs) I' L' Z) (hc1 : cs.1 ≤ M_X5_pastRun.2.2.2.2.1 := by decide) (hc2 : cs.2 ≤ M_X5_pastRun.2.2.2.2.2 := by decide) : Ev E d M_X5_pastRun 14 [vr a0, vi a1, vi a2, vi a3] [vi b0, vr b1] (G0, cs) I L Z := E_callV (as := [vi b0]) (rest := []) (n := 1) hM dX5_pastRun_14 wM_RX5_112 wS_X8_byteAt wV_X8_byteAt hs (by decide) rfl hlt wC_X8_byteAt wI_X8 (by decide +kernel) rfl (by decide) (Nat.le_of_ble_eq_true rfl) hc1 hc2 rfl (fun r g' I2 L2 h => by obtain ⟨rfl, z, rfl, hr, rfl, rfl, rfl⟩ := h; exact k hr)
theorem t22_X5_pastRun_17 {E : En} {d d' : Nat} {cs : Nat × Nat} {I L : MI} {Z : Zt} {a0 : Nat} {a1 a2 a3 b0 : Int} {z : Int} {I' L' : MI} (hM : CFi E d' M_X5_typeOf [vi b0] I L z I' L') (hlt : d' + 1 ≤ d) (k : Ir z → Ev E d M_X5_pastRun 20 [vr a0, vi a1, vi a2, vi a3] [vi z] (G0, cs) I' L' Z) (hc1 : cs.1 ≤ M_X5_pastRun.2.2.2.2.1 := by decide) (hc2 : cs.2 ≤ M_X5_pastRun.2.2.2.2.2 := by decide) : Ev E d M_X5_pastRun 17 [vr a0, vi a1, vi a2, vi a3] [vi b0] (G0, cs) I L Z := E_callS (as := [vi b0]) (rest := []) (n := 1) hM dX5_pastRun_17 wM_RX5_118 wS_X5_typeOf hlt wC_X5_typeOf wI_X5 (by decide +kernel) rfl (by decide) (Nat.le_of_ble_eq_true rfl) hc1 hc2 rfl (fun r g' I2 L2 h => by obtain ⟨rfl, z, rfl, hr, rfl, rfl, rfl⟩ := h; exact k hr)
theorem t22_X5_pastRun_20 {E : En} {d : Nat} {κ : Kp} {I L : MI} {Z : Zt} {a0 : Nat} {a1 a2 a3 b0 : Int}  (k : Ev E d M_X5_pastRun 21 [vr a0, vi a1, vi a2, vi a3] [vi a2, vi b0] κ I L Z) : Ev E d M_X5_pastRun 20 [vr a0, vi a1, vi a2, vi a3] [vi b0] κ I L Z := E_iload_n dX5_pastRun_20 rfl k
theorem t22_X5_pastRun_21 {E : En} {d : Nat} {κ : Kp} {I L : MI} {Z : Zt} {a0 : Nat} {a1 a2 a3 b0 b1 : Int} (hx : Ir b1) (hy : Ir b0) (kt : ¬ b1 = b0 → Ev E d M_X5_pastRun 30 [vr a0, vi a1, vi a2, vi a3] [] κ I L Z) (kf : b1 = b0 → Ev E d M_X5_pastRun 24 [vr a0, vi a1, vi a2, vi a3] [] κ I L Z) : Ev E d M_X5_pastRun 21 [vr a0, vi a1, vi a2, vi a3] [vi b0, vi b1] κ I L Z := E_icmp_ne dX5_pastRun_21 hx hy kt kf (by decide)
theorem t22_X5_pastRun_24 {E : En} {d : Nat} {κ : Kp} {I L : MI} {Z : Zt} {a0 : Nat} {a1 a2 a3 : Int}  (k : Ev E d M_X5_pastRun 27 [vr a0, vi a1, vi a2, vi (a3 + 1)] [] κ I L Z) : Ev E d M_X5_pastRun 24 [vr a0, vi a1, vi a2, vi a3] [] κ I L Z := E_iinc dX5_pastRun_24 rfl rfl (Nat.le_of_ble_eq_true rfl) k
theorem t22_X5_pastRun_27 {E : En} {d : Nat} {κ : Kp} {I L : MI} {Z : Zt} {a0 : Nat} {a1 a2 a3 : Int}  (k : Ev E d M_X5_pastRun 2 [vr a0, vi a1, vi a2, vi a3] [] κ I L Z) : Ev E d M_X5_pastRun 27 [vr a0, vi a1, vi a2, vi a3] [] κ I L Z := E_goto dX5_pastRun_27 (by decide) k
theorem t22_X5_pastRun_0 {E : En} {d : Nat} {κ : Kp} {I L : MI} {Z : Zt} {a0 : Nat} {a1 a2 : Int}  (k : Ev E d M_X5_pastRun 1 [vr a0, vi a1, vi a2, vu] [vi a1] κ I L Z) : Ev E d M_X5_pastRun 0 [vr a0, vi a1, vi a2, vu] [] κ I L Z := E_iload_n dX5_pastRun_0 rfl k
theorem t22_X5_pastRun_1 {E : En} {d : Nat} {κ : Kp} {I L : MI} {Z : Zt} {a0 : Nat} {a1 a2 b0 : Int}  (k : Ev E d M_X5_pastRun 2 [vr a0, vi a1, vi a2, vi b0] [] κ I L Z) : Ev E d M_X5_pastRun 1 [vr a0, vi a1, vi a2, vu] [vi b0] κ I L Z := E_istore_n dX5_pastRun_1 rfl (Nat.le_of_ble_eq_true rfl) k
theorem t22_X5_figures_7 {E : En} {d : Nat} {κ : Kp} {I L : MI} {Z : Zt} {a0 : Nat} {a1 a2 : Int}  (k : Ev E d M_X5_figures 8 [vr a0, vi a1, vi a2] [vi a2] κ I L Z) : Ev E d M_X5_figures 7 [vr a0, vi a1, vi a2] [] κ I L Z := E_iload_n dX5_figures_7 rfl k
theorem t22_X5_figures_8 {E : En} {d : Nat} {κ : Kp} {I L : MI} {Z : Zt} {a0 : Nat} {a1 a2 b0 : Int}  (k : Ev E d M_X5_figures 9 [vr a0, vi a1, vi a2] [vr a0, vi b0] κ I L Z) : Ev E d M_X5_figures 8 [vr a0, vi a1, vi a2] [vi b0] κ I L Z := E_aload_n dX5_figures_8 rfl k
theorem t22_X5_figures_9 {E : En} {d : Nat} {κ : Kp} {I L : MI} {Z : Zt} {a0 b0 : Nat} {a1 a2 b1 : Int} (hs : κ.1.1[b0]? = some (.inl 5)) (k : Ir (I b0 4) → Ev E d M_X5_figures 12 [vr a0, vi a1, vi a2] [vi (I b0 4), vi b1] κ I L Z) : Ev E d M_X5_figures 9 [vr a0, vi a1, vi a2] [vr b0, vi b1] κ I L Z := E_getI (ci := 5) (n := 4) dX5_figures_9 wF_RX5_23 (by decide) hs rfl k
theorem t22_X5_figures_12 {E : En} {d : Nat} {κ : Kp} {I L : MI} {Z : Zt} {a0 : Nat} {a1 a2 b0 b1 : Int} (hx : Ir b1) (hy : Ir b0) (kt : b0 ≤ b1 → Ev E d M_X5_figures 38 [vr a0, vi a1, vi a2] [] κ I L Z) (kf : b1 < b0 → Ev E d M_X5_figures 15 [vr a0, vi a1, vi a2] [] κ I L Z) : Ev E d M_X5_figures 12 [vr a0, vi a1, vi a2] [vi b0, vi b1] κ I L Z := E_icmp_ge dX5_figures_12 hx hy kt kf (by decide)
theorem t22_X5_figures_38 {E : En} {d : Nat} {κ : Kp} {I L : MI} {Z : Zt} {a0 : Nat} {a1 a2 : Int}  (k : Ev E d M_X5_figures 39 [vr a0, vi a1, vi a2] [vi a1] κ I L Z) : Ev E d M_X5_figures 38 [vr a0, vi a1, vi a2] [] κ I L Z := E_iload_n dX5_figures_38 rfl k
theorem t22_X5_figures_39 {E : En} {d : Nat} {g : Geo} {I L : MI} {Q : Option AV → Geo → MI → MI → Prop} {cs : Nat × Nat} {a0 : Nat} {a1 a2 b0 : Int} (hq : Q (some (vi b0)) g I L) (h1 : cs.1 ≤ M_X5_figures.2.2.2.2.1 := by decide) (h2 : cs.2 ≤ M_X5_figures.2.2.2.2.2 := by decide) : Ev E d M_X5_figures 39 [vr a0, vi a1, vi a2] [vi b0] (g, cs) I L (ZQ E M_X5_figures Q) := E_ireturn rfl dX5_figures_39 hq h1 h2
theorem t22_X5_figures_15 {E : En} {d : Nat} {κ : Kp} {I L : MI} {Z : Zt} {a0 : Nat} {a1 a2 : Int}  (k : Ev E d M_X5_figures 16 [vr a0, vi a1, vi a2] [vi a1] κ I L Z) : Ev E d M_X5_figures 15 [vr a0, vi a1, vi a2] [] κ I L Z := E_iload_n dX5_figures_15 rfl k
theorem t22_X5_figures_16 {E : En} {d : Nat} {κ : Kp} {I L : MI} {Z : Zt} {a0 : Nat} {a1 a2 b0 : Int}  (k : Ev E d M_X5_figures 18 [vr a0, vi a1, vi a2] [vi 10, vi b0] κ I L Z) : Ev E d M_X5_figures 16 [vr a0, vi a1, vi a2] [vi b0] κ I L Z := E_bipush (v := 10) dX5_figures_16 rfl k
theorem t22_X5_figures_18 {E : En} {d : Nat} {κ : Kp} {I L : MI} {Z : Zt} {a0 : Nat} {a1 a2 b0 b1 : Int}  (k : Ev E d M_X5_figures 19 [vr a0, vi a1, vi a2] [vi (b1 * b0)] κ I L Z) : Ev E d M_X5_figures 18 [vr a0, vi a1, vi a2] [vi b0, vi b1] κ I L Z := E_imul dX5_figures_18 k
theorem t22_X5_figures_19 {E : En} {d : Nat} {κ : Kp} {I L : MI} {Z : Zt} {a0 : Nat} {a1 a2 b0 : Int}  (k : Ev E d M_X5_figures 20 [vr a0, vi a1, vi a2] [vr a0, vi b0] κ I L Z) : Ev E d M_X5_figures 19 [vr a0, vi a1, vi a2] [vi b0] κ I L Z := E_aload_n dX5_figures_19 rfl k
theorem t22_X5_figures_20 {E : En} {d : Nat} {κ : Kp} {I L : MI} {Z : Zt} {a0 b0 : Nat} {a1 a2 b1 : Int} {q : Nat} (hs : κ.1.1[b0]? = some (.inl 5)) (hq : κ.1.2 b0 0 = some q) (k : Ev E d M_X5_figures 23 [vr a0, vi a1, vi a2] [vr q, vi b1] κ I L Z) : Ev E d M_X5_figures 20 [vr a0, vi a1, vi a2] [vr b0, vi b1] κ I L Z := E_getR (ci := 5) (n := 0) dX5_figures_20 wF_RX5_9 (by decide) hs rfl hq k
theorem t22_X5_figures_23 {E : En} {d : Nat} {κ : Kp} {I L : MI} {Z : Zt} {a0 b0 : Nat} {a1 a2 b1 : Int}  (k : Ev E d M_X5_figures 24 [vr a0, vi a1, vi a2] [vi a2, vr b0, vi b1] κ I L Z) : Ev E d M_X5_figures 23 [vr a0, vi a1, vi a2] [vr b0, vi b1] κ I L Z := E_iload_n dX5_figures_23 rfl k
theorem t22_X5_figures_24 {E : En} {d d' : Nat} {cs : Nat × Nat} {I L : MI} {Z : Zt} {a0 b1 : Nat} {a1 a2 b0 b2 : Int} {z : Int} {I' L' : MI} (hs : G0.1[b1]? = some (.inl 8)) (hM : CFi E d' M_X8_byteAt [vr b1, vi b0] I L z I' L') (hlt : d' + 1 ≤ d) (k : Ir z → Ev E d M_X5_figures 27 [vr a0, vi a1, vi a2] [vi z, vi b2] (G0, cs) I' L' Z) (hc1 : cs.1 ≤ M_X5_figures.2.2.2.2.1 := by decide) (hc2 : cs.2 ≤ M_X5_figures.2.2.2.2.2 := by decide) : Ev E d M_X5_figures 24 [vr a0, vi a1, vi a2] [vi b0, vr b1, vi b2] (G0, cs) I L Z := E_callV (as := [vi b0]) (rest := [vi b2]) (n := 1) hM dX5_figures_24 wM_RX5_112 wS_X8_byteAt wV_X8_byteAt hs (by decide) rfl hlt wC_X8_byteAt wI_X8 (by decide +kernel) rfl (by decide) (Nat.le_of_ble_eq_true rfl) hc1 hc2 rfl (fun r g' I2 L2 h => by obtain ⟨rfl, z, rfl, hr, rfl, rfl, rfl⟩ := h; exact k hr)
theorem t22_X5_figures_27 {E : En} {d : Nat} {κ : Kp} {I L : MI} {Z : Zt} {a0 : Nat} {a1 a2 b0 b1 : Int}  (k : Ev E d M_X5_figures 28 [vr a0, vi a1, vi a2] [vi (b1 + b0)] κ I L Z) : Ev E d M_X5_figures 27 [vr a0, vi a1, vi a2] [vi b0, vi b1] κ I L Z := E_iadd dX5_figures_27 k
theorem t22_X5_figures_28 {E : En} {d : Nat} {κ : Kp} {I L : MI} {Z : Zt} {a0 : Nat} {a1 a2 b0 : Int}  (k : Ev E d M_X5_figures 30 [vr a0, vi a1, vi a2] [vi 48, vi b0] κ I L Z) : Ev E d M_X5_figures 28 [vr a0, vi a1, vi a2] [vi b0] κ I L Z := E_bipush (v := 48) dX5_figures_28 rfl k
theorem t22_X5_figures_30 {E : En} {d : Nat} {κ : Kp} {I L : MI} {Z : Zt} {a0 : Nat} {a1 a2 b0 b1 : Int}  (k : Ev E d M_X5_figures 31 [vr a0, vi a1, vi a2] [vi (b1 - b0)] κ I L Z) : Ev E d M_X5_figures 30 [vr a0, vi a1, vi a2] [vi b0, vi b1] κ I L Z := E_isub dX5_figures_30 k
theorem t22_X5_figures_31 {E : En} {d : Nat} {κ : Kp} {I L : MI} {Z : Zt} {a0 : Nat} {a1 a2 b0 : Int}  (k : Ev E d M_X5_figures 32 [vr a0, vi b0, vi a2] [] κ I L Z) : Ev E d M_X5_figures 31 [vr a0, vi a1, vi a2] [vi b0] κ I L Z := E_istore_n dX5_figures_31 rfl (Nat.le_of_ble_eq_true rfl) k
theorem t22_X5_figures_32 {E : En} {d : Nat} {κ : Kp} {I L : MI} {Z : Zt} {a0 : Nat} {a1 a2 : Int}  (k : Ev E d M_X5_figures 35 [vr a0, vi a1, vi (a2 + 1)] [] κ I L Z) : Ev E d M_X5_figures 32 [vr a0, vi a1, vi a2] [] κ I L Z := E_iinc dX5_figures_32 rfl rfl (Nat.le_of_ble_eq_true rfl) k
theorem t22_X5_figures_35 {E : En} {d : Nat} {κ : Kp} {I L : MI} {Z : Zt} {a0 : Nat} {a1 a2 : Int}  (k : Ev E d M_X5_figures 7 [vr a0, vi a1, vi a2] [] κ I L Z) : Ev E d M_X5_figures 35 [vr a0, vi a1, vi a2] [] κ I L Z := E_goto dX5_figures_35 (by decide) k
theorem t22_X5_figures_0 {E : En} {d : Nat} {κ : Kp} {I L : MI} {Z : Zt} {a0 : Nat}  (k : Ev E d M_X5_figures 1 [vr a0, vu, vu] [vi 0] κ I L Z) : Ev E d M_X5_figures 0 [vr a0, vu, vu] [] κ I L Z := E_iconst (v := 0) dX5_figures_0 rfl k
theorem t22_X5_figures_1 {E : En} {d : Nat} {κ : Kp} {I L : MI} {Z : Zt} {a0 : Nat} {b0 : Int}  (k : Ev E d M_X5_figures 2 [vr a0, vi b0, vu] [] κ I L Z) : Ev E d M_X5_figures 1 [vr a0, vu, vu] [vi b0] κ I L Z := E_istore_n dX5_figures_1 rfl (Nat.le_of_ble_eq_true rfl) k
theorem t22_X5_figures_2 {E : En} {d : Nat} {κ : Kp} {I L : MI} {Z : Zt} {a0 : Nat} {a1 : Int}  (k : Ev E d M_X5_figures 3 [vr a0, vi a1, vu] [vr a0] κ I L Z) : Ev E d M_X5_figures 2 [vr a0, vi a1, vu] [] κ I L Z := E_aload_n dX5_figures_2 rfl k
theorem t22_X5_figures_3 {E : En} {d : Nat} {κ : Kp} {I L : MI} {Z : Zt} {a0 b0 : Nat} {a1 : Int} (hs : κ.1.1[b0]? = some (.inl 5)) (k : Ir (I b0 3) → Ev E d M_X5_figures 6 [vr a0, vi a1, vu] [vi (I b0 3)] κ I L Z) : Ev E d M_X5_figures 3 [vr a0, vi a1, vu] [vr b0] κ I L Z := E_getI (ci := 5) (n := 3) dX5_figures_3 wF_RX5_102 (by decide) hs rfl k
theorem t22_X5_figures_6 {E : En} {d : Nat} {κ : Kp} {I L : MI} {Z : Zt} {a0 : Nat} {a1 b0 : Int}  (k : Ev E d M_X5_figures 7 [vr a0, vi a1, vi b0] [] κ I L Z) : Ev E d M_X5_figures 6 [vr a0, vi a1, vu] [vi b0] κ I L Z := E_istore_n dX5_figures_6 rfl (Nat.le_of_ble_eq_true rfl) k
theorem t22_X5_next_0 {E : En} {d : Nat} {κ : Kp} {I L : MI} {Z : Zt} {a0 : Nat}  (k : Ev E d M_X5_next 1 [vr a0] [vr a0] κ I L Z) : Ev E d M_X5_next 0 [vr a0] [] κ I L Z := E_aload_n dX5_next_0 rfl k
theorem t22_X5_next_1 {E : En} {d : Nat} {κ : Kp} {I L : MI} {Z : Zt} {a0 b0 : Nat}  (k : Ev E d M_X5_next 2 [vr a0] [vr a0, vr b0] κ I L Z) : Ev E d M_X5_next 1 [vr a0] [vr b0] κ I L Z := E_aload_n dX5_next_1 rfl k
theorem t22_X5_next_2 {E : En} {d : Nat} {κ : Kp} {I L : MI} {Z : Zt} {a0 b0 b1 : Nat}  (k : Ev E d M_X5_next 3 [vr a0] [vr a0, vr b0, vr b1] κ I L Z) : Ev E d M_X5_next 2 [vr a0] [vr b0, vr b1] κ I L Z := E_aload_n dX5_next_2 rfl k
theorem t22_X5_next_3 {E : En} {d : Nat} {κ : Kp} {I L : MI} {Z : Zt} {a0 b0 b1 b2 : Nat} (hs : κ.1.1[b0]? = some (.inl 5)) (k : Ir (I b0 4) → Ev E d M_X5_next 6 [vr a0] [vi (I b0 4), vr b1, vr b2] κ I L Z) : Ev E d M_X5_next 3 [vr a0] [vr b0, vr b1, vr b2] κ I L Z := E_getI (ci := 5) (n := 4) dX5_next_3 wF_RX5_23 (by decide) hs rfl k
theorem t22_X5_next_6 {E : En} {d : Nat} {κ : Kp} {I L : MI} {Z : Zt} {a0 b1 b2 : Nat} {b0 : Int}  (k : Ev E d M_X5_next 7 [vr a0] [vi 1, vi b0, vr b1, vr b2] κ I L Z) : Ev E d M_X5_next 6 [vr a0] [vi b0, vr b1, vr b2] κ I L Z := E_iconst (v := 1) dX5_next_6 rfl k
theorem t22_X5_next_7 {E : En} {d d' : Nat} {cs : Nat × Nat} {I L : MI} {Z : Zt} {a0 b2 b3 : Nat} {b0 b1 : Int} {z : Int} {I' L' : MI} (hs : G0.1[b2]? = some (.inl 5)) (hM : CFi E d' M_X5_pastRun [vr b2, vi b1, vi b0] I L z I' L') (hlt : d' + 1 ≤ d) (k : Ir z → Ev E d M_X5_next 10 [vr a0] [vi z, vr b3] (G0, cs) I' L' Z) (hc1 : cs.1 ≤ M_X5_next.2.2.2.2.1 := by decide) (hc2 : cs.2 ≤ M_X5_next.2.2.2.2.2 := by decide) : Ev E d M_X5_next 7 [vr a0] [vi b0, vi b1, vr b2, vr b3] (G0, cs) I L Z := E_callV (as := [vi b1, vi b0]) (rest := [vr b3]) (n := 2) hM dX5_next_7 wM_RX5_108 wS_X5_pastRun wV_X5_pastRun hs (by decide) rfl hlt wC_X5_pastRun wI_X5 (by decide +kernel) rfl (by decide) (Nat.le_of_ble_eq_true rfl) hc1 hc2 rfl (fun r g' I2 L2 h => by obtain ⟨rfl, z, rfl, hr, rfl, rfl, rfl⟩ := h; exact k hr)
theorem t22_X5_next_10 {E : En} {d : Nat} {κ : Kp} {I L : MI} {Z : Zt} {a0 b1 : Nat} {b0 : Int} (hs : κ.1.1[b1]? = some (.inl 5)) (hz : Ir b0) (k : Ev E d M_X5_next 13 [vr a0] [] κ (up2 I b1 3 b0) L Z) : Ev E d M_X5_next 10 [vr a0] [vi b0, vr b1] κ I L Z := E_putI (ci := 5) (n := 3) dX5_next_10 wF_RX5_102 (by decide) hs rfl rfl hz k
theorem t22_X5_next_13 {E : En} {d : Nat} {κ : Kp} {I L : MI} {Z : Zt} {a0 : Nat}  (k : Ev E d M_X5_next 14 [vr a0] [vr a0] κ I L Z) : Ev E d M_X5_next 13 [vr a0] [] κ I L Z := E_aload_n dX5_next_13 rfl k
theorem t22_X5_next_14 {E : En} {d : Nat} {κ : Kp} {I L : MI} {Z : Zt} {a0 b0 : Nat}  (k : Ev E d M_X5_next 15 [vr a0] [vr a0, vr b0] κ I L Z) : Ev E d M_X5_next 14 [vr a0] [vr b0] κ I L Z := E_aload_n dX5_next_14 rfl k
theorem t22_X5_next_15 {E : En} {d : Nat} {κ : Kp} {I L : MI} {Z : Zt} {a0 b0 b1 : Nat} {q : Nat} (hs : κ.1.1[b0]? = some (.inl 5)) (hq : κ.1.2 b0 0 = some q) (k : Ev E d M_X5_next 18 [vr a0] [vr q, vr b1] κ I L Z) : Ev E d M_X5_next 15 [vr a0] [vr b0, vr b1] κ I L Z := E_getR (ci := 5) (n := 0) dX5_next_15 wF_RX5_9 (by decide) hs rfl hq k
theorem t22_X5_next_18 {E : En} {d : Nat} {κ : Kp} {I L : MI} {Z : Zt} {a0 b0 b1 : Nat}  (k : Ev E d M_X5_next 19 [vr a0] [vr a0, vr b0, vr b1] κ I L Z) : Ev E d M_X5_next 18 [vr a0] [vr b0, vr b1] κ I L Z := E_aload_n dX5_next_18 rfl k
theorem t22_X5_next_19 {E : En} {d : Nat} {κ : Kp} {I L : MI} {Z : Zt} {a0 b0 b1 b2 : Nat} (hs : κ.1.1[b0]? = some (.inl 5)) (k : Ir (I b0 3) → Ev E d M_X5_next 22 [vr a0] [vi (I b0 3), vr b1, vr b2] κ I L Z) : Ev E d M_X5_next 19 [vr a0] [vr b0, vr b1, vr b2] κ I L Z := E_getI (ci := 5) (n := 3) dX5_next_19 wF_RX5_102 (by decide) hs rfl k
theorem t22_X5_next_22 {E : En} {d d' : Nat} {cs : Nat × Nat} {I L : MI} {Z : Zt} {a0 b1 b2 : Nat} {b0 : Int} {z : Int} {I' L' : MI} (hs : G0.1[b1]? = some (.inl 8)) (hM : CFi E d' M_X8_byteAt [vr b1, vi b0] I L z I' L') (hlt : d' + 1 ≤ d) (k : Ir z → Ev E d M_X5_next 25 [vr a0] [vi z, vr b2] (G0, cs) I' L' Z) (hc1 : cs.1 ≤ M_X5_next.2.2.2.2.1 := by decide) (hc2 : cs.2 ≤ M_X5_next.2.2.2.2.2 := by decide) : Ev E d M_X5_next 22 [vr a0] [vi b0, vr b1, vr b2] (G0, cs) I L Z := E_callV (as := [vi b0]) (rest := [vr b2]) (n := 1) hM dX5_next_22 wM_RX5_112 wS_X8_byteAt wV_X8_byteAt hs (by decide) rfl hlt wC_X8_byteAt wI_X8 (by decide +kernel) rfl (by decide) (Nat.le_of_ble_eq_true rfl) hc1 hc2 rfl (fun r g' I2 L2 h => by obtain ⟨rfl, z, rfl, hr, rfl, rfl, rfl⟩ := h; exact k hr)
theorem t22_X5_next_25 {E : En} {d d' : Nat} {cs : Nat × Nat} {I L : MI} {Z : Zt} {a0 b1 : Nat} {b0 : Int} {z : Int} {I' L' : MI} (hM : CFi E d' M_X5_typeOf [vi b0] I L z I' L') (hlt : d' + 1 ≤ d) (k : Ir z → Ev E d M_X5_next 28 [vr a0] [vi z, vr b1] (G0, cs) I' L' Z) (hc1 : cs.1 ≤ M_X5_next.2.2.2.2.1 := by decide) (hc2 : cs.2 ≤ M_X5_next.2.2.2.2.2 := by decide) : Ev E d M_X5_next 25 [vr a0] [vi b0, vr b1] (G0, cs) I L Z := E_callS (as := [vi b0]) (rest := [vr b1]) (n := 1) hM dX5_next_25 wM_RX5_118 wS_X5_typeOf hlt wC_X5_typeOf wI_X5 (by decide +kernel) rfl (by decide) (Nat.le_of_ble_eq_true rfl) hc1 hc2 rfl (fun r g' I2 L2 h => by obtain ⟨rfl, z, rfl, hr, rfl, rfl, rfl⟩ := h; exact k hr)
theorem t22_X5_next_28 {E : En} {d : Nat} {κ : Kp} {I L : MI} {Z : Zt} {a0 b1 : Nat} {b0 : Int} (hs : κ.1.1[b1]? = some (.inl 5)) (hz : Ir b0) (k : Ev E d M_X5_next 31 [vr a0] [] κ (up2 I b1 2 b0) L Z) : Ev E d M_X5_next 28 [vr a0] [vi b0, vr b1] κ I L Z := E_putI (ci := 5) (n := 2) dX5_next_28 wF_RX5_57 (by decide) hs rfl rfl hz k
theorem t22_X5_next_88 {E : En} {d : Nat} {κ : Kp} {I L : MI} {Z : Zt} {a0 : Nat}  (k : Ev E d M_X5_next 89 [vr a0] [vr a0] κ I L Z) : Ev E d M_X5_next 88 [vr a0] [] κ I L Z := E_aload_n dX5_next_88 rfl k
theorem t22_X5_next_89 {E : En} {d : Nat} {κ : Kp} {I L : MI} {Z : Zt} {a0 b0 : Nat} (hs : κ.1.1[b0]? = some (.inl 5)) (k : Ir (I b0 2) → Ev E d M_X5_next 92 [vr a0] [vi (I b0 2)] κ I L Z) : Ev E d M_X5_next 89 [vr a0] [vr b0] κ I L Z := E_getI (ci := 5) (n := 2) dX5_next_89 wF_RX5_57 (by decide) hs rfl k
theorem t22_X5_next_92 {E : En} {d : Nat} {κ : Kp} {I L : MI} {Z : Zt} {a0 : Nat} {b0 : Int}  (k : Ev E d M_X5_next 93 [vr a0] [vi 3, vi b0] κ I L Z) : Ev E d M_X5_next 92 [vr a0] [vi b0] κ I L Z := E_iconst (v := 3) dX5_next_92 rfl k
theorem t22_X5_next_93 {E : En} {d : Nat} {κ : Kp} {I L : MI} {Z : Zt} {a0 : Nat} {b0 b1 : Int} (hx : Ir b1) (hy : Ir b0) (kt : ¬ b1 = b0 → Ev E d M_X5_next 114 [vr a0] [] κ I L Z) (kf : b1 = b0 → Ev E d M_X5_next 96 [vr a0] [] κ I L Z) : Ev E d M_X5_next 93 [vr a0] [vi b0, vi b1] κ I L Z := E_icmp_ne dX5_next_93 hx hy kt kf (by decide)
theorem t22_X5_next_96 {E : En} {d : Nat} {κ : Kp} {I L : MI} {Z : Zt} {a0 : Nat}  (k : Ev E d M_X5_next 97 [vr a0] [vr a0] κ I L Z) : Ev E d M_X5_next 96 [vr a0] [] κ I L Z := E_aload_n dX5_next_96 rfl k
theorem t22_X5_next_97 {E : En} {d : Nat} {κ : Kp} {I L : MI} {Z : Zt} {a0 b0 : Nat} (hs : κ.1.1[b0]? = some (.inl 5)) (k : Ir (I b0 4) → Ev E d M_X5_next 100 [vr a0] [vi (I b0 4)] κ I L Z) : Ev E d M_X5_next 97 [vr a0] [vr b0] κ I L Z := E_getI (ci := 5) (n := 4) dX5_next_97 wF_RX5_23 (by decide) hs rfl k
theorem t22_X5_next_100 {E : En} {d : Nat} {κ : Kp} {I L : MI} {Z : Zt} {a0 : Nat} {b0 : Int}  (k : Ev E d M_X5_next 101 [vr a0] [vr a0, vi b0] κ I L Z) : Ev E d M_X5_next 100 [vr a0] [vi b0] κ I L Z := E_aload_n dX5_next_100 rfl k
theorem t22_X5_next_101 {E : En} {d : Nat} {κ : Kp} {I L : MI} {Z : Zt} {a0 b0 : Nat} {b1 : Int} (hs : κ.1.1[b0]? = some (.inl 5)) (k : Ir (I b0 3) → Ev E d M_X5_next 104 [vr a0] [vi (I b0 3), vi b1] κ I L Z) : Ev E d M_X5_next 101 [vr a0] [vr b0, vi b1] κ I L Z := E_getI (ci := 5) (n := 3) dX5_next_101 wF_RX5_102 (by decide) hs rfl k
theorem t22_X5_next_104 {E : En} {d : Nat} {κ : Kp} {I L : MI} {Z : Zt} {a0 : Nat} {b0 b1 : Int}  (k : Ev E d M_X5_next 105 [vr a0] [vi (b1 - b0)] κ I L Z) : Ev E d M_X5_next 104 [vr a0] [vi b0, vi b1] κ I L Z := E_isub dX5_next_104 k
theorem t22_X5_next_105 {E : En} {d : Nat} {κ : Kp} {I L : MI} {Z : Zt} {a0 : Nat} {b0 : Int}  (k : Ev E d M_X5_next 106 [vr a0] [vi 3, vi b0] κ I L Z) : Ev E d M_X5_next 105 [vr a0] [vi b0] κ I L Z := E_iconst (v := 3) dX5_next_105 rfl k
theorem t22_X5_next_106 {E : En} {d : Nat} {κ : Kp} {I L : MI} {Z : Zt} {a0 : Nat} {b0 b1 : Int} (hx : Ir b1) (hy : Ir b0) (kt : b1 ≤ b0 → Ev E d M_X5_next 114 [vr a0] [] κ I L Z) (kf : b0 < b1 → Ev E d M_X5_next 109 [vr a0] [] κ I L Z) : Ev E d M_X5_next 106 [vr a0] [vi b0, vi b1] κ I L Z := E_icmp_le dX5_next_106 hx hy kt kf (by decide)
theorem t22_X5_next_109 {E : En} {d : Nat} {κ : Kp} {I L : MI} {Z : Zt} {a0 : Nat}  (k : Ev E d M_X5_next 110 [vr a0] [vr a0] κ I L Z) : Ev E d M_X5_next 109 [vr a0] [] κ I L Z := E_aload_n dX5_next_109 rfl k
theorem t22_X5_next_110 {E : En} {d : Nat} {κ : Kp} {I L : MI} {Z : Zt} {a0 b0 : Nat}  (k : Ev E d M_X5_next 111 [vr a0] [vi 5, vr b0] κ I L Z) : Ev E d M_X5_next 110 [vr a0] [vr b0] κ I L Z := E_iconst (v := 5) dX5_next_110 rfl k
theorem t22_X5_next_111 {E : En} {d : Nat} {κ : Kp} {I L : MI} {Z : Zt} {a0 b1 : Nat} {b0 : Int} (hs : κ.1.1[b1]? = some (.inl 5)) (hz : Ir b0) (k : Ev E d M_X5_next 114 [vr a0] [] κ (up2 I b1 2 b0) L Z) : Ev E d M_X5_next 111 [vr a0] [vi b0, vr b1] κ I L Z := E_putI (ci := 5) (n := 2) dX5_next_111 wF_RX5_57 (by decide) hs rfl rfl hz k
theorem t22_X5_next_114 {E : En} {d : Nat} {κ : Kp} {I L : MI} {Z : Zt} {a0 : Nat}  (k : Ev E d M_X5_next 115 [vr a0] [vr a0] κ I L Z) : Ev E d M_X5_next 114 [vr a0] [] κ I L Z := E_aload_n dX5_next_114 rfl k
theorem t22_X5_next_115 {E : En} {d : Nat} {κ : Kp} {I L : MI} {Z : Zt} {a0 b0 : Nat}  (k : Ev E d M_X5_next 116 [vr a0] [vr a0, vr b0] κ I L Z) : Ev E d M_X5_next 115 [vr a0] [vr b0] κ I L Z := E_aload_n dX5_next_115 rfl k
theorem t22_X5_next_116 {E : En} {d : Nat} {κ : Kp} {I L : MI} {Z : Zt} {a0 b0 b1 : Nat} (hs : κ.1.1[b0]? = some (.inl 5)) (k : Ir (I b0 2) → Ev E d M_X5_next 119 [vr a0] [vi (I b0 2), vr b1] κ I L Z) : Ev E d M_X5_next 116 [vr a0] [vr b0, vr b1] κ I L Z := E_getI (ci := 5) (n := 2) dX5_next_116 wF_RX5_57 (by decide) hs rfl k
theorem t22_X5_next_119 {E : En} {d : Nat} {κ : Kp} {I L : MI} {Z : Zt} {a0 b1 : Nat} {b0 : Int}  (k : Ev E d M_X5_next 120 [vr a0] [vi 3, vi b0, vr b1] κ I L Z) : Ev E d M_X5_next 119 [vr a0] [vi b0, vr b1] κ I L Z := E_iconst (v := 3) dX5_next_119 rfl k
theorem t22_X5_next_120 {E : En} {d : Nat} {κ : Kp} {I L : MI} {Z : Zt} {a0 b2 : Nat} {b0 b1 : Int} (hx : Ir b1) (hy : Ir b0) (kt : ¬ b1 = b0 → Ev E d M_X5_next 130 [vr a0] [vr b2] κ I L Z) (kf : b1 = b0 → Ev E d M_X5_next 123 [vr a0] [vr b2] κ I L Z) : Ev E d M_X5_next 120 [vr a0] [vi b0, vi b1, vr b2] κ I L Z := E_icmp_ne dX5_next_120 hx hy kt kf (by decide)
theorem t22_X5_next_130 {E : En} {d : Nat} {κ : Kp} {I L : MI} {Z : Zt} {a0 b0 : Nat}  (k : Ev E d M_X5_next 131 [vr a0] [vi (-1), vr b0] κ I L Z) : Ev E d M_X5_next 130 [vr a0] [vr b0] κ I L Z := E_iconst (v := (-1)) dX5_next_130 rfl k
theorem t22_X5_next_131 {E : En} {d : Nat} {κ : Kp} {I L : MI} {Z : Zt} {a0 b1 : Nat} {b0 : Int} (hs : κ.1.1[b1]? = some (.inl 5)) (hz : Ir b0) (k : Ev E d M_X5_next 134 [vr a0] [] κ (up2 I b1 5 b0) L Z) : Ev E d M_X5_next 131 [vr a0] [vi b0, vr b1] κ I L Z := E_putI (ci := 5) (n := 5) dX5_next_131 wF_RX5_80 (by decide) hs rfl rfl hz k
theorem t22_X5_next_134 {E : En} {d : Nat} {g : Geo} {I L : MI} {Q : Option AV → Geo → MI → MI → Prop} {cs : Nat × Nat} {a0 : Nat} (hq : Q none g I L) (h1 : cs.1 ≤ M_X5_next.2.2.2.2.1 := by decide) (h2 : cs.2 ≤ M_X5_next.2.2.2.2.2 := by decide) : Ev E d M_X5_next 134 [vr a0] [] (g, cs) I L (ZQ E M_X5_next Q) := E_return rfl dX5_next_134 hq h1 h2
theorem t22_X5_next_123 {E : En} {d : Nat} {κ : Kp} {I L : MI} {Z : Zt} {a0 b0 : Nat}  (k : Ev E d M_X5_next 124 [vr a0] [vr a0, vr b0] κ I L Z) : Ev E d M_X5_next 123 [vr a0] [vr b0] κ I L Z := E_aload_n dX5_next_123 rfl k
theorem t22_X5_next_124 {E : En} {d d' : Nat} {cs : Nat × Nat} {I L : MI} {Z : Zt} {a0 b0 b1 : Nat} {z : Int} {I' L' : MI} (hs : G0.1[b0]? = some (.inl 5)) (hM : CFi E d' M_X5_figures [vr b0] I L z I' L') (hlt : d' + 1 ≤ d) (k : Ir z → Ev E d M_X5_next 127 [vr a0] [vi z, vr b1] (G0, cs) I' L' Z) (hc1 : cs.1 ≤ M_X5_next.2.2.2.2.1 := by decide) (hc2 : cs.2 ≤ M_X5_next.2.2.2.2.2 := by decide) : Ev E d M_X5_next 124 [vr a0] [vr b0, vr b1] (G0, cs) I L Z := E_callV (as := []) (rest := [vr b1]) (n := 0) hM dX5_next_124 wM_RX5_121 wS_X5_figures wV_X5_figures hs (by decide) rfl hlt wC_X5_figures wI_X5 (by decide +kernel) rfl (by decide) (Nat.le_of_ble_eq_true rfl) hc1 hc2 rfl (fun r g' I2 L2 h => by obtain ⟨rfl, z, rfl, hr, rfl, rfl, rfl⟩ := h; exact k hr)
theorem t22_X5_next_127 {E : En} {d : Nat} {κ : Kp} {I L : MI} {Z : Zt} {a0 b1 : Nat} {b0 : Int}  (k : Ev E d M_X5_next 131 [vr a0] [vi b0, vr b1] κ I L Z) : Ev E d M_X5_next 127 [vr a0] [vi b0, vr b1] κ I L Z := E_goto dX5_next_127 (by decide) k
theorem t22_X5_next_70 {E : En} {d : Nat} {κ : Kp} {I L : MI} {Z : Zt} {a0 : Nat}  (k : Ev E d M_X5_next 71 [vr a0] [vr a0] κ I L Z) : Ev E d M_X5_next 70 [vr a0] [] κ I L Z := E_aload_n dX5_next_70 rfl k
theorem t22_X5_next_71 {E : En} {d : Nat} {κ : Kp} {I L : MI} {Z : Zt} {a0 b0 : Nat} (hs : κ.1.1[b0]? = some (.inl 5)) (k : Ir (I b0 2) → Ev E d M_X5_next 74 [vr a0] [vi (I b0 2)] κ I L Z) : Ev E d M_X5_next 71 [vr a0] [vr b0] κ I L Z := E_getI (ci := 5) (n := 2) dX5_next_71 wF_RX5_57 (by decide) hs rfl k
theorem t22_X5_next_74 {E : En} {d : Nat} {κ : Kp} {I L : MI} {Z : Zt} {a0 : Nat} {b0 : Int}  (k : Ev E d M_X5_next 75 [vr a0] [vi 4, vi b0] κ I L Z) : Ev E d M_X5_next 74 [vr a0] [vi b0] κ I L Z := E_iconst (v := 4) dX5_next_74 rfl k
theorem t22_X5_next_75 {E : En} {d : Nat} {κ : Kp} {I L : MI} {Z : Zt} {a0 : Nat} {b0 b1 : Int} (hx : Ir b1) (hy : Ir b0) (kt : ¬ b1 = b0 → Ev E d M_X5_next 88 [vr a0] [] κ I L Z) (kf : b1 = b0 → Ev E d M_X5_next 78 [vr a0] [] κ I L Z) : Ev E d M_X5_next 75 [vr a0] [vi b0, vi b1] κ I L Z := E_icmp_ne dX5_next_75 hx hy kt kf (by decide)
theorem t22_X5_next_78 {E : En} {d : Nat} {κ : Kp} {I L : MI} {Z : Zt} {a0 : Nat}  (k : Ev E d M_X5_next 79 [vr a0] [vr a0] κ I L Z) : Ev E d M_X5_next 78 [vr a0] [] κ I L Z := E_aload_n dX5_next_78 rfl k
theorem t22_X5_next_79 {E : En} {d : Nat} {κ : Kp} {I L : MI} {Z : Zt} {a0 b0 : Nat}  (k : Ev E d M_X5_next 80 [vr a0] [vr a0, vr b0] κ I L Z) : Ev E d M_X5_next 79 [vr a0] [vr b0] κ I L Z := E_aload_n dX5_next_79 rfl k
theorem t22_X5_next_80 {E : En} {d : Nat} {κ : Kp} {I L : MI} {Z : Zt} {a0 b0 b1 : Nat} (hs : κ.1.1[b0]? = some (.inl 5)) (k : Ir (I b0 3) → Ev E d M_X5_next 83 [vr a0] [vi (I b0 3), vr b1] κ I L Z) : Ev E d M_X5_next 80 [vr a0] [vr b0, vr b1] κ I L Z := E_getI (ci := 5) (n := 3) dX5_next_80 wF_RX5_102 (by decide) hs rfl k
theorem t22_X5_next_83 {E : En} {d : Nat} {κ : Kp} {I L : MI} {Z : Zt} {a0 b1 : Nat} {b0 : Int}  (k : Ev E d M_X5_next 84 [vr a0] [vi 1, vi b0, vr b1] κ I L Z) : Ev E d M_X5_next 83 [vr a0] [vi b0, vr b1] κ I L Z := E_iconst (v := 1) dX5_next_83 rfl k
theorem t22_X5_next_84 {E : En} {d : Nat} {κ : Kp} {I L : MI} {Z : Zt} {a0 b2 : Nat} {b0 b1 : Int}  (k : Ev E d M_X5_next 85 [vr a0] [vi (b1 + b0), vr b2] κ I L Z) : Ev E d M_X5_next 84 [vr a0] [vi b0, vi b1, vr b2] κ I L Z := E_iadd dX5_next_84 k
theorem t22_X5_next_85 {E : En} {d : Nat} {κ : Kp} {I L : MI} {Z : Zt} {a0 b1 : Nat} {b0 : Int} (hs : κ.1.1[b1]? = some (.inl 5)) (hz : Ir b0) (k : Ev E d M_X5_next 88 [vr a0] [] κ (up2 I b1 4 b0) L Z) : Ev E d M_X5_next 85 [vr a0] [vi b0, vr b1] κ I L Z := E_putI (ci := 5) (n := 4) dX5_next_85 wF_RX5_23 (by decide) hs rfl rfl hz k
theorem t22_X5_next_31 {E : En} {d : Nat} {κ : Kp} {I L : MI} {Z : Zt} {a0 : Nat}  (k : Ev E d M_X5_next 32 [vr a0] [vr a0] κ I L Z) : Ev E d M_X5_next 31 [vr a0] [] κ I L Z := E_aload_n dX5_next_31 rfl k
theorem t22_X5_next_32 {E : En} {d : Nat} {κ : Kp} {I L : MI} {Z : Zt} {a0 b0 : Nat}  (k : Ev E d M_X5_next 33 [vr a0] [vr a0, vr b0] κ I L Z) : Ev E d M_X5_next 32 [vr a0] [vr b0] κ I L Z := E_aload_n dX5_next_32 rfl k
theorem t22_X5_next_33 {E : En} {d : Nat} {κ : Kp} {I L : MI} {Z : Zt} {a0 b0 b1 : Nat} (hs : κ.1.1[b0]? = some (.inl 5)) (k : Ir (I b0 2) → Ev E d M_X5_next 36 [vr a0] [vi (I b0 2), vr b1] κ I L Z) : Ev E d M_X5_next 33 [vr a0] [vr b0, vr b1] κ I L Z := E_getI (ci := 5) (n := 2) dX5_next_33 wF_RX5_57 (by decide) hs rfl k
theorem t22_X5_next_36 {E : En} {d : Nat} {κ : Kp} {I L : MI} {Z : Zt} {a0 b1 : Nat} {b0 : Int}  (k : Ev E d M_X5_next 37 [vr a0] [vi 2, vi b0, vr b1] κ I L Z) : Ev E d M_X5_next 36 [vr a0] [vi b0, vr b1] κ I L Z := E_iconst (v := 2) dX5_next_36 rfl k
theorem t22_X5_next_37 {E : En} {d : Nat} {κ : Kp} {I L : MI} {Z : Zt} {a0 b2 : Nat} {b0 b1 : Int} (hx : Ir b1) (hy : Ir b0) (kt : b1 = b0 → Ev E d M_X5_next 48 [vr a0] [vr b2] κ I L Z) (kf : ¬ b1 = b0 → Ev E d M_X5_next 40 [vr a0] [vr b2] κ I L Z) : Ev E d M_X5_next 37 [vr a0] [vi b0, vi b1, vr b2] κ I L Z := E_icmp_eq dX5_next_37 hx hy kt kf (by decide)
theorem t22_X5_next_48 {E : En} {d : Nat} {κ : Kp} {I L : MI} {Z : Zt} {a0 b0 : Nat}  (k : Ev E d M_X5_next 49 [vr a0] [vr a0, vr b0] κ I L Z) : Ev E d M_X5_next 48 [vr a0] [vr b0] κ I L Z := E_aload_n dX5_next_48 rfl k
theorem t22_X5_next_49 {E : En} {d : Nat} {κ : Kp} {I L : MI} {Z : Zt} {a0 b0 b1 : Nat}  (k : Ev E d M_X5_next 50 [vr a0] [vr a0, vr b0, vr b1] κ I L Z) : Ev E d M_X5_next 49 [vr a0] [vr b0, vr b1] κ I L Z := E_aload_n dX5_next_49 rfl k
theorem t22_X5_next_50 {E : En} {d : Nat} {κ : Kp} {I L : MI} {Z : Zt} {a0 b0 b1 b2 : Nat} (hs : κ.1.1[b0]? = some (.inl 5)) (k : Ir (I b0 3) → Ev E d M_X5_next 53 [vr a0] [vi (I b0 3), vr b1, vr b2] κ I L Z) : Ev E d M_X5_next 50 [vr a0] [vr b0, vr b1, vr b2] κ I L Z := E_getI (ci := 5) (n := 3) dX5_next_50 wF_RX5_102 (by decide) hs rfl k
theorem t22_X5_next_53 {E : En} {d : Nat} {κ : Kp} {I L : MI} {Z : Zt} {a0 b1 b2 : Nat} {b0 : Int}  (k : Ev E d M_X5_next 54 [vr a0] [vr a0, vi b0, vr b1, vr b2] κ I L Z) : Ev E d M_X5_next 53 [vr a0] [vi b0, vr b1, vr b2] κ I L Z := E_aload_n dX5_next_53 rfl k
theorem t22_X5_next_54 {E : En} {d : Nat} {κ : Kp} {I L : MI} {Z : Zt} {a0 b0 b2 b3 : Nat} {b1 : Int} (hs : κ.1.1[b0]? = some (.inl 5)) (k : Ir (I b0 2) → Ev E d M_X5_next 57 [vr a0] [vi (I b0 2), vi b1, vr b2, vr b3] κ I L Z) : Ev E d M_X5_next 54 [vr a0] [vr b0, vi b1, vr b2, vr b3] κ I L Z := E_getI (ci := 5) (n := 2) dX5_next_54 wF_RX5_57 (by decide) hs rfl k
theorem t22_X5_next_57 {E : En} {d d' : Nat} {cs : Nat × Nat} {I L : MI} {Z : Zt} {a0 b2 b3 : Nat} {b0 b1 : Int} {z : Int} {I' L' : MI} (hs : G0.1[b2]? = some (.inl 5)) (hM : CFi E d' M_X5_pastRun [vr b2, vi b1, vi b0] I L z I' L') (hlt : d' + 1 ≤ d) (k : Ir z → Ev E d M_X5_next 60 [vr a0] [vi z, vr b3] (G0, cs) I' L' Z) (hc1 : cs.1 ≤ M_X5_next.2.2.2.2.1 := by decide) (hc2 : cs.2 ≤ M_X5_next.2.2.2.2.2 := by decide) : Ev E d M_X5_next 57 [vr a0] [vi b0, vi b1, vr b2, vr b3] (G0, cs) I L Z := E_callV (as := [vi b1, vi b0]) (rest := [vr b3]) (n := 2) hM dX5_next_57 wM_RX5_108 wS_X5_pastRun wV_X5_pastRun hs (by decide) rfl hlt wC_X5_pastRun wI_X5 (by decide +kernel) rfl (by decide) (Nat.le_of_ble_eq_true rfl) hc1 hc2 rfl (fun r g' I2 L2 h => by obtain ⟨rfl, z, rfl, hr, rfl, rfl, rfl⟩ := h; exact k hr)
theorem t22_X5_next_60 {E : En} {d : Nat} {κ : Kp} {I L : MI} {Z : Zt} {a0 b1 : Nat} {b0 : Int}  (k : Ev E d M_X5_next 67 [vr a0] [vi b0, vr b1] κ I L Z) : Ev E d M_X5_next 60 [vr a0] [vi b0, vr b1] κ I L Z := E_goto dX5_next_60 (by decide) k
theorem t22_X5_next_67 {E : En} {d : Nat} {κ : Kp} {I L : MI} {Z : Zt} {a0 b1 : Nat} {b0 : Int} (hs : κ.1.1[b1]? = some (.inl 5)) (hz : Ir b0) (k : Ev E d M_X5_next 70 [vr a0] [] κ (up2 I b1 4 b0) L Z) : Ev E d M_X5_next 67 [vr a0] [vi b0, vr b1] κ I L Z := E_putI (ci := 5) (n := 4) dX5_next_67 wF_RX5_23 (by decide) hs rfl rfl hz k
theorem t22_X5_next_40 {E : En} {d : Nat} {κ : Kp} {I L : MI} {Z : Zt} {a0 b0 : Nat}  (k : Ev E d M_X5_next 41 [vr a0] [vr a0, vr b0] κ I L Z) : Ev E d M_X5_next 40 [vr a0] [vr b0] κ I L Z := E_aload_n dX5_next_40 rfl k
theorem t22_X5_next_41 {E : En} {d : Nat} {κ : Kp} {I L : MI} {Z : Zt} {a0 b0 b1 : Nat} (hs : κ.1.1[b0]? = some (.inl 5)) (k : Ir (I b0 2) → Ev E d M_X5_next 44 [vr a0] [vi (I b0 2), vr b1] κ I L Z) : Ev E d M_X5_next 41 [vr a0] [vr b0, vr b1] κ I L Z := E_getI (ci := 5) (n := 2) dX5_next_41 wF_RX5_57 (by decide) hs rfl k
theorem t22_X5_next_44 {E : En} {d : Nat} {κ : Kp} {I L : MI} {Z : Zt} {a0 b1 : Nat} {b0 : Int}  (k : Ev E d M_X5_next 45 [vr a0] [vi 3, vi b0, vr b1] κ I L Z) : Ev E d M_X5_next 44 [vr a0] [vi b0, vr b1] κ I L Z := E_iconst (v := 3) dX5_next_44 rfl k
theorem t22_X5_next_45 {E : En} {d : Nat} {κ : Kp} {I L : MI} {Z : Zt} {a0 b2 : Nat} {b0 b1 : Int} (hx : Ir b1) (hy : Ir b0) (kt : ¬ b1 = b0 → Ev E d M_X5_next 63 [vr a0] [vr b2] κ I L Z) (kf : b1 = b0 → Ev E d M_X5_next 48 [vr a0] [vr b2] κ I L Z) : Ev E d M_X5_next 45 [vr a0] [vi b0, vi b1, vr b2] κ I L Z := E_icmp_ne dX5_next_45 hx hy kt kf (by decide)
theorem t22_X5_next_63 {E : En} {d : Nat} {κ : Kp} {I L : MI} {Z : Zt} {a0 b0 : Nat}  (k : Ev E d M_X5_next 64 [vr a0] [vr a0, vr b0] κ I L Z) : Ev E d M_X5_next 63 [vr a0] [vr b0] κ I L Z := E_aload_n dX5_next_63 rfl k
theorem t22_X5_next_64 {E : En} {d : Nat} {κ : Kp} {I L : MI} {Z : Zt} {a0 b0 b1 : Nat} (hs : κ.1.1[b0]? = some (.inl 5)) (k : Ir (I b0 3) → Ev E d M_X5_next 67 [vr a0] [vi (I b0 3), vr b1] κ I L Z) : Ev E d M_X5_next 64 [vr a0] [vr b0, vr b1] κ I L Z := E_getI (ci := 5) (n := 3) dX5_next_64 wF_RX5_102 (by decide) hs rfl k
/-! THE READER, in numbers: a tape B (-1 behind its end), registers s = (token, begin, end, value, fault, place), a draft D (a tongue at 0) -/
abbrev PR : Type := Int × Int × Int × Int × Int × Int
abbrev pk (s : PR) : Int := s.1
abbrev pb (s : PR) : Int := s.2.1
abbrev pe (s : PR) : Int := s.2.2.1
abbrev pv (s : PR) : Int := s.2.2.2.1
abbrev pf (s : PR) : Int := s.2.2.2.2.1
abbrev pp (s : PR) : Int := s.2.2.2.2.2
def tyP (b : Int) : Int := if b < 0 then 0 else if b = 32 ∨ b = 10 then 1 else if 97 ≤ b ∧ b ≤ 122 then 2 else if 48 ≤ b ∧ b ≤ 57 then 3 else if b = 59 then 4 else 5
theorem tyP_r (b : Int) : 0 ≤ tyP b ∧ tyP b ≤ 5 := by
  unfold tyP
  split
  · decide
  · split
    · decide
    · split
      · decide
      · split
        · decide
        · split <;> decide
def runP (B : Int → Int) (t : Int) : Nat → Int → Int
  | 0, i => i
  | f + 1, i => if i < 400 ∧ tyP (B i) = t then runP B t f (i + 1) else i
theorem runP_b {B : Int → Int} {t : Int} : ∀ (f : Nat) (i : Int), i ≤ 400 → i ≤ runP B t f i ∧ runP B t f i ≤ 400 := by
  intro f
  induction f with
  | zero => intro i h; exact ⟨Int.le_refl _, h⟩
  | succ f ih =>
    intro i h
    unfold runP
    split
    next q => have := ih (i + 1) (by omega); omega
    next => exact ⟨Int.le_refl _, h⟩
theorem runP_e {B : Int → Int} {t : Int} : ∀ (f : Nat) (i : Int), 400 - i < f → ¬ (runP B t f i < 400 ∧ tyP (B (runP B t f i)) = t) := by
  intro f
  induction f with
  | zero => intro i h; unfold runP; omega
  | succ f ih =>
    intro i h
    unfold runP
    split
    next q => exact ih (i + 1) (by omega)
    next q => exact q
theorem runP_in {B : Int → Int} {t : Int} : ∀ (f : Nat) (i j : Int), i ≤ j → j < runP B t f i → tyP (B j) = t ∧ j < 400 := by
  intro f
  induction f with
  | zero => intro i j h1 h2; unfold runP at h2; omega
  | succ f ih =>
    intro i j h1 h2
    unfold runP at h2
    split at h2
    next q =>
      by_cases e : j = i
      · subst e; exact ⟨q.2, q.1⟩
      · exact ih (i + 1) j (by omega) h2
    next => omega
/-- the number that figures spell -/
def figP (B : Int → Int) (b : Int) : Nat → Int
  | 0 => 0
  | k + 1 => figP B b k * 10 + B (b + k) - 48
def nxB (B : Int → Int) (e : Int) : Int := runP B 1 401 e
def nxE (B : Int → Int) (e : Int) : Int := if tyP (B (nxB B e)) = 2 ∨ tyP (B (nxB B e)) = 3 then runP B (tyP (B (nxB B e))) 401 (nxB B e) else if tyP (B (nxB B e)) = 4 then nxB B e + 1 else nxB B e
def nxK (B : Int → Int) (e : Int) : Int := if tyP (B (nxB B e)) = 3 ∧ nxE B e - nxB B e > 3 then 5 else tyP (B (nxB B e))
def nxV (B : Int → Int) (e : Int) : Int := if nxK B e = 3 then figP B (nxB B e) (nxE B e - nxB B e).toNat else -1
def nextR (B : Int → Int) (s : PR) : PR := (nxK B (pe s), nxB B (pe s), nxE B (pe s), nxV B (pe s), pf s, pp s)
def failR (s : PR) (c : Int) : PR := (pk s, pb s, pe s, pv s, c, pb s)
def num1 (s : PR) : PR := if pf s = 0 ∧ pk s ≠ 3 then failR s 1 else s
def num2 (s : PR) (lo hi : Int) (fits : Bool) : PR := if pf (num1 s) = 0 ∧ (pv s < lo ∨ hi < pv s ∨ fits = false) then failR (num1 s) 2 else num1 s
def numR (B : Int → Int) (s : PR) (lo hi : Int) (fits : Bool) : PR := if pf (num2 s lo hi fits) = 0 then nextR B (num2 s lo hi fits) else num2 s lo hi fits
def numV (s : PR) (lo hi : Int) (fits : Bool) : Int := if pf (num2 s lo hi fits) = 0 then pv s else 0
def sgnR (B : Int → Int) (s : PR) : PR := if pf (if pf s = 0 ∧ pk s ≠ 4 then failR s 1 else s) = 0 then nextR B (if pf s = 0 ∧ pk s ≠ 4 then failR s 1 else s) else (if pf s = 0 ∧ pk s ≠ 4 then failR s 1 else s)
/-- the token is a word (its bytes at q) -/
def isWP (B : Int → Int) (s : PR) (q : Nat) : Prop := pk s = 2 ∧ pe s - pb s = xln (q + 4) ∧ ∀ i : Nat, i < xln (q + 4) → B (pb s + i) = xI (q + 4) i % 256
/-- nothing goes into it (a number below 200) -/
def prmP (v : Int) : Prop := 1 < v ∧ ∀ d, 2 ≤ d → d < v → v.tmod d ≠ 0
/-! CONTRACTS -/
def rg (I : MI) : PR := (I 13 2, I 13 3, I 13 4, I 13 5, I 13 6, I 13 7)
/-- what the reader's steps leave alone: all but its registers -/
def RFr (I I' : MI) : Prop := ∀ o, o ≠ 13 → ∀ k, I' o k = I o k
theorem byI_c {I I' : MI} (h2 : ∀ k, I' 2 k = I 2 k) (h3 : ∀ k, I' 3 k = I 3 k) : byI I' = byI I := by
  funext i
  unfold byI
  rw [h2, h3]
theorem byI_f {I I' : MI} (h : RFr I I') : byI I' = byI I := byI_c (h 2 (by decide)) (h 3 (by decide))
theorem c_X5_typeOf {E : En} {I L : MI} {b : Int} (hb : Ir b := by omega) : CFi E 1 M_X5_typeOf [vi b] I L (tyP b) I L := by
  refine CM_of' (al := [vi _]) rfl (Nat.le_of_ble_eq_true rfl) rfl (fun hM => ?_)
  refine (t22_X5_typeOf_0 (t22_X5_typeOf_1 (by omega) (fun c1 => (t22_X5_typeOf_6 (t22_X5_typeOf_7 (t22_X5_typeOf_9 (by omega) (by omega) (fun c9 => (t22_X5_typeOf_18 (t22_X5_typeOf_19 ?_))) (fun c9 => (t22_X5_typeOf_12 (t22_X5_typeOf_13 (t22_X5_typeOf_15 (by omega) (by omega) (fun c15 => (t22_X5_typeOf_20 (t22_X5_typeOf_21 (t22_X5_typeOf_23 (by omega) (by omega) (fun c23 => (t22_X5_typeOf_34 (t22_X5_typeOf_35 (t22_X5_typeOf_37 (by omega) (by omega) (fun c37 => (t22_X5_typeOf_48 (t22_X5_typeOf_49 (t22_X5_typeOf_51 (by omega) (by omega) (fun c51 => (t22_X5_typeOf_58 (t22_X5_typeOf_59 ?_))) (fun c51 => (t22_X5_typeOf_54 (t22_X5_typeOf_55 (t22_X5_typeOf_59 ?_)))))))) (fun c37 => (t22_X5_typeOf_40 (t22_X5_typeOf_41 (t22_X5_typeOf_43 (by omega) (by omega) (fun c43 => (t22_X5_typeOf_48 (t22_X5_typeOf_49 (t22_X5_typeOf_51 (by omega) (by omega) (fun c51 => (t22_X5_typeOf_58 (t22_X5_typeOf_59 ?_))) (fun c51 => (t22_X5_typeOf_54 (t22_X5_typeOf_55 (t22_X5_typeOf_59 ?_)))))))) (fun c43 => (t22_X5_typeOf_46 (t22_X5_typeOf_47 ?_))))))))))) (fun c23 => (t22_X5_typeOf_26 (t22_X5_typeOf_27 (t22_X5_typeOf_29 (by omega) (by omega) (fun c29 => (t22_X5_typeOf_34 (t22_X5_typeOf_35 (t22_X5_typeOf_37 (by omega) (by omega) (fun c37 => (t22_X5_typeOf_48 (t22_X5_typeOf_49 (t22_X5_typeOf_51 (by omega) (by omega) (fun c51 => (t22_X5_typeOf_58 (t22_X5_typeOf_59 ?_))) (fun c51 => (t22_X5_typeOf_54 (t22_X5_typeOf_55 (t22_X5_typeOf_59 ?_)))))))) (fun c37 => (t22_X5_typeOf_40 (t22_X5_typeOf_41 (t22_X5_typeOf_43 (by omega) (by omega) (fun c43 => (t22_X5_typeOf_48 (t22_X5_typeOf_49 (t22_X5_typeOf_51 (by omega) (by omega) (fun c51 => (t22_X5_typeOf_58 (t22_X5_typeOf_59 ?_))) (fun c51 => (t22_X5_typeOf_54 (t22_X5_typeOf_55 (t22_X5_typeOf_59 ?_)))))))) (fun c43 => (t22_X5_typeOf_46 (t22_X5_typeOf_47 ?_))))))))))) (fun c29 => (t22_X5_typeOf_32 (t22_X5_typeOf_33 ?_))))))))))) (fun c15 => (t22_X5_typeOf_18 (t22_X5_typeOf_19 ?_))))))))))) (fun c1 => (t22_X5_typeOf_4 (t22_X5_typeOf_5 ?_)))))
  -- 14 leaves: 1t 9t :ret19 | 1t 9f 15t 23t 37t 51t :ret59 | 1t 9f 15t 23t 37t 51f :ret59 | 1t 9f 15t 23t 37f 43t 51t :ret59 | 1t 9f 15t 23t 37f 43t 51f :ret59 | 1t 9f 15t 23t 37f 43f :ret47 | 1t 9f 15t 23f 29t 37t 51t :ret59 | 1t 9f 15t 23f 29t 37t 51f :ret59 | 1t 9f 15t 23f 29t 37f 43t 51t :ret59 | 1t 9f 15t 23f 29t 37f 43t 51f :ret59 | 1t 9f 15t 23f 29t 37f 43f :ret47 | 1t 9f 15t 23f 29f :ret33 | 1t 9f 15f :ret19 | 1f :ret5
  all_goals
    refine qfi (by decide) ?_
    unfold tyP
    (repeat' split) <;> omega
theorem c_X5_pastRun {E : En} {I L : MI} {i t : Int} (hi : 0 ≤ i ∧ i ≤ 400 := by omega) (ht : Ir t := by omega) : CFi E 2 M_X5_pastRun [vr 13, vi i, vi t] I L (runP (byI I) t 401 i) I L := by
  refine CM_of' (al := [vr _, vi _, vi _, vu]) rfl (Nat.le_of_ble_eq_true rfl) rfl (fun hM => ?_)
  have key : ∀ (f : Nat) (j : Int), 400 - j < f → 0 ≤ j → j ≤ 400 → runP (byI I) t f j = runP (byI I) t 401 i → Ev E 2 M_X5_pastRun 2 [vr 13, vi i, vi t, vi j] [] (G0, 0, 0) I L (ZQ E M_X5_pastRun (QFi (runP (byI I) t 401 i) I L)) := by
    intro f
    induction f with
    | zero => intro j h1 h2; omega
    | succ f ih =>
      intro j j1 j2 j3 he
      refine (t22_X5_pastRun_2 (t22_X5_pastRun_3 (t22_X5_pastRun_6 (by omega) (by omega) (fun c6 => (t22_X5_pastRun_30 (t22_X5_pastRun_31 ?_))) (fun c6 => (t22_X5_pastRun_9 (t22_X5_pastRun_10 (by first | assumption | rfl) (by first | assumption | rfl) (t22_X5_pastRun_13 (t22_X5_pastRun_14 (by first | assumption | rfl) c_X8_byteAt (by first | decide | omega) (fun r14 => (t22_X5_pastRun_17 c_X5_typeOf (by first | decide | omega) (fun r17 => (t22_X5_pastRun_20 (t22_X5_pastRun_21 (by omega) (by omega) (fun c21 => (t22_X5_pastRun_30 (t22_X5_pastRun_31 ?_))) (fun c21 => (t22_X5_pastRun_24 (t22_X5_pastRun_27 ?_))))))))))))))))
      -- 3 leaves: 6t :ret31 | 6f 21t :ret31 | 6f 21f :->2
      · exact qfi (by omega) (by rw [← he]; unfold runP; rw [if_neg (by omega)])
      · exact qfi (by omega) (by rw [← he]; unfold runP; rw [if_neg (fun q => c21 q.2)])
      · refine ih (j + 1) (by omega) (by omega) (by omega) ?_
        rw [← he]
        conv => rhs; unfold runP
        rw [if_pos ⟨by omega, c21⟩]
  refine (t22_X5_pastRun_0 (t22_X5_pastRun_1 ?_))
  -- 1 leaves: :->2
  exact key 401 i (by omega) (by omega) (by omega) rfl
theorem byI_r (I : MI) (i : Int) : -1 ≤ byI I i ∧ byI I i ≤ 255 := by
  unfold byI
  split <;> omega
theorem figP_b {I : MI} {b : Int} : ∀ k : Nat, k ≤ 3 → -10000 ≤ figP (byI I) b k ∧ figP (byI I) b k ≤ 100000 := by
  have h : ∀ k : Nat, -6 * (10 ^ k : Nat) + 6 ≤ figP (byI I) b k ∧ figP (byI I) b k ≤ 23 * (10 ^ k : Nat) - 23 := by
    intro k
    induction k with
    | zero => show -6 * ((1 : Nat) : Int) + 6 ≤ 0 ∧ (0 : Int) ≤ 23 * ((1 : Nat) : Int) - 23; decide
    | succ k ih =>
      have r := byI_r I (b + k)
      unfold figP
      rw [Nat.pow_succ]
      have hp : (1 : Nat) ≤ 10 ^ k := Nat.pos_of_ne_zero (by simp)
      generalize (10 ^ k : Nat) = P at *
      omega
  intro k hk
  have := h k
  have h3 : (10 ^ k : Nat) ≤ 10 ^ 3 := Nat.pow_le_pow_right (by decide) hk
  generalize (10 ^ k : Nat) = P at *
  omega
theorem c_X5_figures {E : En} {I L : MI} {n : Nat} (hb : 0 ≤ I 13 3 ∧ I 13 3 ≤ 400 := by assumption) (hn : I 13 4 - I 13 3 = n) (h3 : n ≤ 3) : CFi E 2 M_X5_figures [vr 13] I L (figP (byI I) (I 13 3) n) I L := by
  refine CM_of' (al := [vr _, vu, vu]) rfl (Nat.le_of_ble_eq_true rfl) rfl (fun hM => ?_)
  have key : ∀ (f : Nat) (k : Nat), n - k < f → k ≤ n → Ev E 2 M_X5_figures 7 [vr 13, vi (figP (byI I) (I 13 3) k), vi (I 13 3 + k)] [] (G0, 0, 0) I L (ZQ E M_X5_figures (QFi (figP (byI I) (I 13 3) n) I L)) := by
    intro f
    induction f with
    | zero => intro k h1 h2; omega
    | succ f ih =>
      intro k k1 k2
      have fb := figP_b (I := I) (b := I 13 3) k (by omega)
      refine (t22_X5_figures_7 (t22_X5_figures_8 (t22_X5_figures_9 (by first | assumption | rfl) (fun r9 => (t22_X5_figures_12 (by omega) (by omega) (fun c12 => (t22_X5_figures_38 (t22_X5_figures_39 ?_))) (fun c12 => (t22_X5_figures_15 (t22_X5_figures_16 (t22_X5_figures_18 (t22_X5_figures_19 (t22_X5_figures_20 (by first | assumption | rfl) (by first | assumption | rfl) (t22_X5_figures_23 (t22_X5_figures_24 (by first | assumption | rfl) c_X8_byteAt (by first | decide | omega) (fun r24 => (t22_X5_figures_27 (t22_X5_figures_28 (t22_X5_figures_30 (t22_X5_figures_31 (t22_X5_figures_32 (t22_X5_figures_35 ?_))))))))))))))))))))
      -- 2 leaves: 12t :ret39 | 12f :->7
      · have : k = n := by omega
        subst this
        exact qfi (by omega) rfl
      · have h := ih (k + 1) (by omega) (by omega)
        have e : (I 13 3 + ((k + 1 : Nat) : Int)) = I 13 3 + k + 1 := by omega
        rw [e] at h
        exact h
  refine (t22_X5_figures_0 (t22_X5_figures_1 (t22_X5_figures_2 (t22_X5_figures_3 (by first | assumption | rfl) (fun r3 => (t22_X5_figures_6 ?_))))))
  -- 1 leaves: :->7
  have h := key (n + 1) 0 (by omega) (by omega)
  rw [show (I 13 3 + ((0 : Nat) : Int)) = I 13 3 by omega] at h
  exact h
def NxQ (I L : MI) : MI → MI → Prop := fun I' L' => L' = L ∧ RFr I I' ∧ rg I' = nextR (byI I) (rg I)
theorem c_X5_next {E : En} {I L : MI} (he : 0 ≤ I 13 4 ∧ I 13 4 ≤ 400 := by assumption) : CQv E 3 M_X5_next [vr 13] I L (NxQ I L) := by
  have b0 := runP_b (B := byI I) (t := 1) 401 (I 13 4) he.2
  have hB : nxB (byI I) (I 13 4) = runP (byI I) 1 401 (I 13 4) := rfl
  have fr : ∀ (I1 : MI), RFr I I1 → byI I1 = byI I := fun I1 h => byI_f h
  refine CM_of' (al := [vr _]) rfl (Nat.le_of_ble_eq_true rfl) rfl (fun hM => ?_)
  refine (t22_X5_next_0 (t22_X5_next_1 (t22_X5_next_2 (t22_X5_next_3 (by first | assumption | rfl) (fun r3 => (t22_X5_next_6 (t22_X5_next_7 (by first | assumption | rfl) c_X5_pastRun (by first | decide | omega) (fun r7 => (t22_X5_next_10 (by first | assumption | rfl) (by omega) ?_)))))))))
  -- 1 leaves: :->13
  generalize hI1 : up2 I 13 3 (runP (byI I) 1 401 (I 13 4)) = I1
  have f1 : RFr I I1 := fun o o1 k => by rw [← hI1]; exact up2_ne (.inl o1)
  have v3 : I1 13 3 = nxB (byI I) (I 13 4) := by rw [← hI1]; exact up2_eq _ _ _ _
  have v4 : I1 13 4 = I 13 4 := by rw [← hI1]; exact up2_ne (.inr (by decide))
  have v6 : I1 13 6 = I 13 6 := by rw [← hI1]; exact up2_ne (.inr (by decide))
  have v7 : I1 13 7 = I 13 7 := by rw [← hI1]; exact up2_ne (.inr (by decide))
  have bb : 0 ≤ nxB (byI I) (I 13 4) ∧ nxB (byI I) (I 13 4) ≤ 400 := by rw [hB]; omega
  refine (t22_X5_next_13 (t22_X5_next_14 (t22_X5_next_15 (by first | assumption | rfl) (by first | assumption | rfl) (t22_X5_next_18 (t22_X5_next_19 (by first | assumption | rfl) (fun r19 => (t22_X5_next_22 (by first | assumption | rfl) c_X8_byteAt (by first | decide | omega) (fun r22 => (t22_X5_next_25 c_X5_typeOf (by first | decide | omega) (fun r25 => (t22_X5_next_28 (by first | assumption | rfl) (by omega) ?_)))))))))))
  -- 1 leaves: :->31
  rw [v3, byI_f f1]
  have ty := tyP_r (byI I (nxB (byI I) (I 13 4)))
  generalize hI2 : up2 I1 13 2 (tyP (byI I (nxB (byI I) (I 13 4)))) = I2
  have f2 : RFr I I2 := fun o o1 k => by rw [← hI2, up2_ne (.inl o1)]; exact f1 o o1 k
  have w2 : I2 13 2 = tyP (byI I (nxB (byI I) (I 13 4))) := by rw [← hI2]; exact up2_eq _ _ _ _
  have w3 : I2 13 3 = nxB (byI I) (I 13 4) := by rw [← hI2, up2_ne (.inr (by decide))]; exact v3
  have w6 : I2 13 6 = I 13 6 := by rw [← hI2, up2_ne (.inr (by decide))]; exact v6
  have w7 : I2 13 7 = I 13 7 := by rw [← hI2, up2_ne (.inr (by decide))]; exact v7
  have b2 := runP_b (B := byI I2) (t := I2 13 2) 401 (I2 13 3) (by omega)
  -- the end
  have tail : ∀ (I3 : MI), RFr I I3 → I3 13 2 = tyP (byI I (nxB (byI I) (I 13 4))) → I3 13 3 = nxB (byI I) (I 13 4) → I3 13 4 = nxE (byI I) (I 13 4) → I3 13 6 = I 13 6 → I3 13 7 = I 13 7 → Ev E 3 M_X5_next 88 [vr 13] [] (G0, 0, 0) I3 L (ZQ E M_X5_next (QQv (NxQ I L))) := by
    intro I3 f3 x2 x3 x4 x6 x7
    have be : nxB (byI I) (I 13 4) ≤ nxE (byI I) (I 13 4) ∧ nxE (byI I) (I 13 4) ≤ 401 := by
      unfold nxE
      split
      · have := runP_b (B := byI I) (t := tyP (byI I (nxB (byI I) (I 13 4)))) 401 (nxB (byI I) (I 13 4)) bb.2; omega
      · split <;> omega
    have fin : ∀ (I4 : MI) (v : Int), RFr I I4 → I4 13 2 = nxK (byI I) (I 13 4) → I4 13 3 = nxB (byI I) (I 13 4) → I4 13 4 = nxE (byI I) (I 13 4) → I4 13 6 = I 13 6 → I4 13 7 = I 13 7 → v = nxV (byI I) (I 13 4) → NxQ I L (up2 I4 13 5 v) L := by
      intro I4 v f4 y2 y3 y4 y6 y7 yv
      refine ⟨rfl, fun o o1 k => by rw [up2_ne (.inl o1)]; exact f4 o o1 k, ?_⟩
      unfold rg nextR
      rw [up2_ne (.inr (by decide)), up2_ne (.inr (by decide)), up2_ne (.inr (by decide)), up2_eq, up2_ne (.inr (by decide)), up2_ne (.inr (by decide)), y2, y3, y4, y6, y7, yv]
    refine (t22_X5_next_88 (t22_X5_next_89 (by first | assumption | rfl) (fun r89 => (t22_X5_next_92 (t22_X5_next_93 (by omega) (by omega) (fun c93 => ?_) (fun c93 => (t22_X5_next_96 (t22_X5_next_97 (by first | assumption | rfl) (fun r97 => (t22_X5_next_100 (t22_X5_next_101 (by first | assumption | rfl) (fun r101 => (t22_X5_next_104 (t22_X5_next_105 (t22_X5_next_106 (by omega) (by omega) (fun c106 => ?_) (fun c106 => (t22_X5_next_109 (t22_X5_next_110 (t22_X5_next_111 (by first | assumption | rfl) (by omega) ?_)))))))))))))))))))
    -- 3 leaves: 93t :->114 | 93f 106t :->114 | 93f 106f :->114
    · -- three figures at most, or no number
      have ek : nxK (byI I) (I 13 4) = tyP (byI I (nxB (byI I) (I 13 4))) := by unfold nxK; rw [if_neg (fun h => c93 (by rw [x2]; exact h.1))]
      refine (t22_X5_next_114 (t22_X5_next_115 (t22_X5_next_116 (by first | assumption | rfl) (fun r116 => (t22_X5_next_119 (t22_X5_next_120 (by omega) (by omega) (fun c120 => (t22_X5_next_130 (t22_X5_next_131 (by first | assumption | rfl) (by omega) (t22_X5_next_134 ?_)))) (fun c120 => ?_)))))))
      -- 2 leaves: 120t :ret134 | 120f :->123
      · exact qqv (fin I3 (-1) f3 (x2.trans ek.symm) x3 x4 x6 x7 (by unfold nxV; rw [if_neg (by rw [ek, ← x2]; exact c93)]))
      · exact absurd c120 c93
    · have ek : nxK (byI I) (I 13 4) = tyP (byI I (nxB (byI I) (I 13 4))) := by unfold nxK; rw [if_neg (fun h => by have := h.2; omega)]
      have hb3 : 0 ≤ I3 13 3 ∧ I3 13 3 ≤ 400 := by rw [x3]; exact bb
      refine (t22_X5_next_114 (t22_X5_next_115 (t22_X5_next_116 (by first | assumption | rfl) (fun r116 => (t22_X5_next_119 (t22_X5_next_120 (by omega) (by omega) (fun c120 => (t22_X5_next_130 (t22_X5_next_131 (by first | assumption | rfl) (by omega) (t22_X5_next_134 ?_)))) (fun c120 => ?_)))))))
      -- 2 leaves: 120t :ret134 | 120f :->123
      · exact absurd c93 c120
      · refine (t22_X5_next_123 (t22_X5_next_124 (by first | assumption | rfl) ((c_X5_figures (n := (I3 13 4 - I3 13 3).toNat) hb3 (by omega) (by omega))) (by first | decide | omega) (fun r124 => (t22_X5_next_127 (t22_X5_next_131 (by first | assumption | rfl) (by omega) (t22_X5_next_134 ?_))))))
        -- 1 leaves: :ret134
        refine qqv (fin I3 _ f3 (x2.trans ek.symm) x3 x4 x6 x7 ?_)
        unfold nxV
        rw [if_pos (by rw [ek, ← x2]; exact c93), byI_f f3, x3, x4]
    · have ek : nxK (byI I) (I 13 4) = 5 := by unfold nxK; rw [if_pos ⟨by rw [← x2]; exact c93, by omega⟩]
      refine (t22_X5_next_114 (t22_X5_next_115 (t22_X5_next_116 (by first | assumption | rfl) (fun r116 => (t22_X5_next_119 (t22_X5_next_120 (by omega) (by omega) (fun c120 => (t22_X5_next_130 (t22_X5_next_131 (by first | assumption | rfl) (by omega) (t22_X5_next_134 ?_)))) (fun c120 => ?_)))))))
      -- 2 leaves: 120t :ret134 | 120f :->123
      · refine qqv (fin _ (-1) (fun o o1 k => by rw [up2_ne (.inl o1)]; exact f3 o o1 k) (by rw [up2_eq, ek]) (by rw [up2_ne (.inr (by decide))]; exact x3) (by rw [up2_ne (.inr (by decide))]; exact x4) (by rw [up2_ne (.inr (by decide))]; exact x6) (by rw [up2_ne (.inr (by decide))]; exact x7) ?_)
        unfold nxV
        rw [if_neg (by rw [ek]; decide)]
      · exact absurd c120 (by rw [up2_eq]; decide)
  have mid : ∀ (e : Int), ((tyP (byI I (nxB (byI I) (I 13 4))) = 4 ∧ e = nxB (byI I) (I 13 4)) ∨ (tyP (byI I (nxB (byI I) (I 13 4))) ≠ 4 ∧ e = nxE (byI I) (I 13 4))) → Ev E 3 M_X5_next 70 [vr 13] [] (G0, 0, 0) (up2 I2 13 4 e) L (ZQ E M_X5_next (QQv (NxQ I L))) := by
    intro e he2
    have x2 : up2 I2 13 4 e 13 2 = tyP (byI I (nxB (byI I) (I 13 4))) := by rw [up2_ne (.inr (by decide))]; exact w2
    have x3 : up2 I2 13 4 e 13 3 = nxB (byI I) (I 13 4) := by rw [up2_ne (.inr (by decide))]; exact w3
    have x6 : up2 I2 13 4 e 13 6 = I 13 6 := by rw [up2_ne (.inr (by decide))]; exact w6
    have x7 : up2 I2 13 4 e 13 7 = I 13 7 := by rw [up2_ne (.inr (by decide))]; exact w7
    refine (t22_X5_next_70 (t22_X5_next_71 (by first | assumption | rfl) (fun r71 => (t22_X5_next_74 (t22_X5_next_75 (by omega) (by omega) (fun c75 => ?_) (fun c75 => (t22_X5_next_78 (t22_X5_next_79 (t22_X5_next_80 (by first | assumption | rfl) (fun r80 => (t22_X5_next_83 (t22_X5_next_84 (t22_X5_next_85 (by first | assumption | rfl) (by rw [x3]; omega) ?_)))))))))))))
    -- 2 leaves: 75t :->88 | 75f :->88
    · refine tail _ (fun o o1 k => by rw [up2_ne (.inl o1)]; exact f2 o o1 k) x2 x3 ?_ x6 x7
      rw [up2_eq]
      rcases he2 with h | h
      · exact absurd (x2.trans h.1) c75
      · exact h.2
    · refine tail _ (fun o o1 k => by rw [up2_ne (.inl o1), up2_ne (.inl o1)]; exact f2 o o1 k) (by rw [up2_ne (.inr (by decide))]; exact x2) (by rw [up2_ne (.inr (by decide))]; exact x3) ?_ (by rw [up2_ne (.inr (by decide))]; exact x6) (by rw [up2_ne (.inr (by decide))]; exact x7)
      rw [up2_eq, x3]
      have c4 := x2.symm.trans c75
      unfold nxE
      rw [if_neg (by omega), if_pos c4]
  refine (t22_X5_next_31 (t22_X5_next_32 (t22_X5_next_33 (by first | assumption | rfl) (fun r33 => (t22_X5_next_36 (t22_X5_next_37 (by omega) (by omega) (fun c37 => (t22_X5_next_48 (t22_X5_next_49 (t22_X5_next_50 (by first | assumption | rfl) (fun r50 => (t22_X5_next_53 (t22_X5_next_54 (by first | assumption | rfl) (fun r54 => (t22_X5_next_57 (by first | assumption | rfl) c_X5_pastRun (by first | decide | omega) (fun r57 => (t22_X5_next_60 (t22_X5_next_67 (by first | assumption | rfl) (by omega) ?_)))))))))))) (fun c37 => (t22_X5_next_40 (t22_X5_next_41 (by first | assumption | rfl) (fun r41 => (t22_X5_next_44 (t22_X5_next_45 (by omega) (by omega) (fun c45 => (t22_X5_next_63 (t22_X5_next_64 (by first | assumption | rfl) (fun r64 => (t22_X5_next_67 (by first | assumption | rfl) (by omega) ?_))))) (fun c45 => (t22_X5_next_48 (t22_X5_next_49 (t22_X5_next_50 (by first | assumption | rfl) (fun r50 => (t22_X5_next_53 (t22_X5_next_54 (by first | assumption | rfl) (fun r54 => (t22_X5_next_57 (by first | assumption | rfl) c_X5_pastRun (by first | decide | omega) (fun r57 => (t22_X5_next_60 (t22_X5_next_67 (by first | assumption | rfl) (by omega) ?_))))))))))))))))))))))))
  -- 3 leaves: 37t :->70 | 37f 45t :->70 | 37f 45f :->70
  · rw [w3, w2, byI_f f2]
    refine mid _ (.inr ⟨by rw [← w2, c37]; decide, ?_⟩)
    unfold nxE
    rw [if_pos (.inl (by rw [← w2]; exact c37))]
  · rw [w3]
    refine mid _ ?_
    by_cases h4 : tyP (byI I (nxB (byI I) (I 13 4))) = 4
    · exact .inl ⟨h4, rfl⟩
    · refine .inr ⟨h4, ?_⟩
      unfold nxE
      rw [if_neg (by rw [← w2]; omega), if_neg h4]
  · rw [w3, w2, byI_f f2]
    refine mid _ (.inr ⟨by rw [← w2, c45]; decide, ?_⟩)
    unfold nxE
    rw [if_pos (.inr (by rw [← w2]; exact c45))]
