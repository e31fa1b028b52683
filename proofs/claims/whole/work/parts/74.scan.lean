theorem t74_X11_name_7 {E : En} {d : Nat} {κ : Kp} {I L : MI} {Z : Zt} {a0 : Nat} {a1 a3 : Int}  (k : Ev E d M_X11_name 8 [vr a0, vl a1, vu, vi a3] [vi a3] κ I L Z) : Ev E d M_X11_name 7 [vr a0, vl a1, vu, vi a3] [] κ I L Z := E_iload_n dX11_name_7 rfl k
theorem t74_X11_name_8 {E : En} {d : Nat} {κ : Kp} {I L : MI} {Z : Zt} {a0 : Nat} {a1 a3 b0 : Int}  (k : Ev E d M_X11_name 9 [vr a0, vl a1, vu, vi a3] [vr a0, vi b0] κ I L Z) : Ev E d M_X11_name 8 [vr a0, vl a1, vu, vi a3] [vi b0] κ I L Z := E_aload_n dX11_name_8 rfl k
theorem t74_X11_name_9 {E : En} {d : Nat} {κ : Kp} {I L : MI} {Z : Zt} {a0 b0 : Nat} {a1 a3 b1 : Int} (hs : κ.1.1[b0]? = some (.inl 11)) (k : Ir (I b0 16) → Ev E d M_X11_name 12 [vr a0, vl a1, vu, vi a3] [vi (I b0 16), vi b1] κ I L Z) : Ev E d M_X11_name 9 [vr a0, vl a1, vu, vi a3] [vr b0, vi b1] κ I L Z := E_getI (ci := 11) (n := 16) dX11_name_9 wF_RX11_116 (by decide) hs rfl k
theorem t74_X11_name_12 {E : En} {d : Nat} {κ : Kp} {I L : MI} {Z : Zt} {a0 : Nat} {a1 a3 b0 b1 : Int} (hx : Ir b1) (hy : Ir b0) (kt : b0 ≤ b1 → Ev E d M_X11_name 56 [vr a0, vl a1, vu, vi a3] [] κ I L Z) (kf : b1 < b0 → Ev E d M_X11_name 15 [vr a0, vl a1, vu, vi a3] [] κ I L Z) : Ev E d M_X11_name 12 [vr a0, vl a1, vu, vi a3] [vi b0, vi b1] κ I L Z := E_icmp_ge dX11_name_12 hx hy kt kf (by decide)
theorem t74_X11_name_56 {E : En} {d : Nat} {κ : Kp} {I L : MI} {Z : Zt} {a0 : Nat} {a1 a3 : Int}  (k : Ev E d M_X11_name 57 [vr a0, vl a1, vu, vi a3] [vr a0] κ I L Z) : Ev E d M_X11_name 56 [vr a0, vl a1, vu, vi a3] [] κ I L Z := E_aload_n dX11_name_56 rfl k
theorem t74_X11_name_57 {E : En} {d : Nat} {κ : Kp} {I L : MI} {Z : Zt} {a0 b0 : Nat} {a1 a3 : Int} (hs : κ.1.1[b0]? = some (.inl 11)) (k : Ir (I b0 17) → Ev E d M_X11_name 60 [vr a0, vl a1, vu, vi a3] [vi (I b0 17)] κ I L Z) : Ev E d M_X11_name 57 [vr a0, vl a1, vu, vi a3] [vr b0] κ I L Z := E_getI (ci := 11) (n := 17) dX11_name_57 wF_RX11_119 (by decide) hs rfl k
theorem t74_X11_name_60 {E : En} {d : Nat} {κ : Kp} {I L : MI} {Z : Zt} {a0 : Nat} {a1 a3 b0 : Int} (hx : Ir b0) (kt : ¬ b0 = 0 → Ev E d M_X11_name 67 [vr a0, vl a1, vu, vi a3] [] κ I L Z) (kf : b0 = 0 → Ev E d M_X11_name 63 [vr a0, vl a1, vu, vi a3] [] κ I L Z) : Ev E d M_X11_name 60 [vr a0, vl a1, vu, vi a3] [vi b0] κ I L Z := E_if_ne dX11_name_60 hx kt kf (by decide)
theorem t74_X11_name_67 {E : En} {d : Nat} {κ : Kp} {I L : MI} {Z : Zt} {a0 : Nat} {a1 a3 : Int}  (k : Ev E d M_X11_name 68 [vr a0, vl a1, vu, vi a3] [vl 0] κ I L Z) : Ev E d M_X11_name 67 [vr a0, vl a1, vu, vi a3] [] κ I L Z := E_lconst (v := 0) dX11_name_67 rfl k
theorem t74_X11_name_68 {E : En} {d : Nat} {g : Geo} {I L : MI} {Q : Option AV → Geo → MI → MI → Prop} {cs : Nat × Nat} {a0 : Nat} {a1 a3 b0 : Int} (hq : Q (some (vl b0)) g I L) (h1 : cs.1 ≤ M_X11_name.2.2.2.2.1 := by decide) (h2 : cs.2 ≤ M_X11_name.2.2.2.2.2 := by decide) : Ev E d M_X11_name 68 [vr a0, vl a1, vu, vi a3] [vl b0] (g, cs) I L (ZQ E M_X11_name Q) := E_lreturn rfl dX11_name_68 hq h1 h2
theorem t74_X11_name_63 {E : En} {d : Nat} {κ : Kp} {I L : MI} {Z : Zt} {a0 : Nat} {a1 a3 : Int}  (k : Ev E d M_X11_name 64 [vr a0, vl a1, vu, vi a3] [vl a1] κ I L Z) : Ev E d M_X11_name 63 [vr a0, vl a1, vu, vi a3] [] κ I L Z := E_lload_n dX11_name_63 rfl k
theorem t74_X11_name_64 {E : En} {d : Nat} {κ : Kp} {I L : MI} {Z : Zt} {a0 : Nat} {a1 a3 b0 : Int}  (k : Ev E d M_X11_name 68 [vr a0, vl a1, vu, vi a3] [vl b0] κ I L Z) : Ev E d M_X11_name 64 [vr a0, vl a1, vu, vi a3] [vl b0] κ I L Z := E_goto dX11_name_64 (by decide) k
theorem t74_X11_name_15 {E : En} {d : Nat} {κ : Kp} {I L : MI} {Z : Zt} {a0 : Nat} {a1 a3 : Int}  (k : Ev E d M_X11_name 16 [vr a0, vl a1, vu, vi a3] [vr a0] κ I L Z) : Ev E d M_X11_name 15 [vr a0, vl a1, vu, vi a3] [] κ I L Z := E_aload_n dX11_name_15 rfl k
theorem t74_X11_name_16 {E : En} {d : Nat} {κ : Kp} {I L : MI} {Z : Zt} {a0 b0 : Nat} {a1 a3 : Int} (hs : κ.1.1[b0]? = some (.inl 11)) (k : Ir (I b0 14) → Ev E d M_X11_name 19 [vr a0, vl a1, vu, vi a3] [vi (I b0 14)] κ I L Z) : Ev E d M_X11_name 16 [vr a0, vl a1, vu, vi a3] [vr b0] κ I L Z := E_getI (ci := 11) (n := 14) dX11_name_16 wF_RX11_107 (by decide) hs rfl k
theorem t74_X11_name_19 {E : En} {d : Nat} {κ : Kp} {I L : MI} {Z : Zt} {a0 : Nat} {a1 a3 b0 : Int}  (k : Ev E d M_X11_name 20 [vr a0, vl a1, vu, vi a3] [vi 2, vi b0] κ I L Z) : Ev E d M_X11_name 19 [vr a0, vl a1, vu, vi a3] [vi b0] κ I L Z := E_iconst (v := 2) dX11_name_19 rfl k
theorem t74_X11_name_20 {E : En} {d : Nat} {κ : Kp} {I L : MI} {Z : Zt} {a0 : Nat} {a1 a3 b0 b1 : Int} (hx : Ir b1) (hy : Ir b0) (kt : ¬ b1 = b0 → Ev E d M_X11_name 56 [vr a0, vl a1, vu, vi a3] [] κ I L Z) (kf : b1 = b0 → Ev E d M_X11_name 23 [vr a0, vl a1, vu, vi a3] [] κ I L Z) : Ev E d M_X11_name 20 [vr a0, vl a1, vu, vi a3] [vi b0, vi b1] κ I L Z := E_icmp_ne dX11_name_20 hx hy kt kf (by decide)
theorem t74_X11_name_23 {E : En} {d : Nat} {κ : Kp} {I L : MI} {Z : Zt} {a0 : Nat} {a1 a3 : Int}  (k : Ev E d M_X11_name 24 [vr a0, vl a1, vu, vi a3] [vr a0] κ I L Z) : Ev E d M_X11_name 23 [vr a0, vl a1, vu, vi a3] [] κ I L Z := E_aload_n dX11_name_23 rfl k
theorem t74_X11_name_24 {E : En} {d : Nat} {κ : Kp} {I L : MI} {Z : Zt} {a0 b0 : Nat} {a1 a3 : Int} (hs : κ.1.1[b0]? = some (.inl 11)) (k : Ir (I b0 16) → Ev E d M_X11_name 27 [vr a0, vl a1, vu, vi a3] [vi (I b0 16)] κ I L Z) : Ev E d M_X11_name 24 [vr a0, vl a1, vu, vi a3] [vr b0] κ I L Z := E_getI (ci := 11) (n := 16) dX11_name_24 wF_RX11_116 (by decide) hs rfl k
theorem t74_X11_name_27 {E : En} {d : Nat} {κ : Kp} {I L : MI} {Z : Zt} {a0 : Nat} {a1 a3 b0 : Int}  (k : Ev E d M_X11_name 28 [vr a0, vl a1, vu, vi a3] [vr a0, vi b0] κ I L Z) : Ev E d M_X11_name 27 [vr a0, vl a1, vu, vi a3] [vi b0] κ I L Z := E_aload_n dX11_name_27 rfl k
theorem t74_X11_name_28 {E : En} {d : Nat} {κ : Kp} {I L : MI} {Z : Zt} {a0 b0 : Nat} {a1 a3 b1 : Int} (hs : κ.1.1[b0]? = some (.inl 11)) (k : Ir (I b0 15) → Ev E d M_X11_name 31 [vr a0, vl a1, vu, vi a3] [vi (I b0 15), vi b1] κ I L Z) : Ev E d M_X11_name 28 [vr a0, vl a1, vu, vi a3] [vr b0, vi b1] κ I L Z := E_getI (ci := 11) (n := 15) dX11_name_28 wF_RX11_104 (by decide) hs rfl k
theorem t74_X11_name_31 {E : En} {d : Nat} {κ : Kp} {I L : MI} {Z : Zt} {a0 : Nat} {a1 a3 b0 b1 : Int}  (k : Ev E d M_X11_name 32 [vr a0, vl a1, vu, vi a3] [vi (b1 - b0)] κ I L Z) : Ev E d M_X11_name 31 [vr a0, vl a1, vu, vi a3] [vi b0, vi b1] κ I L Z := E_isub dX11_name_31 k
theorem t74_X11_name_32 {E : En} {d : Nat} {κ : Kp} {I L : MI} {Z : Zt} {a0 : Nat} {a1 a3 b0 : Int}  (k : Ev E d M_X11_name 34 [vr a0, vl a1, vu, vi a3] [vi 8, vi b0] κ I L Z) : Ev E d M_X11_name 32 [vr a0, vl a1, vu, vi a3] [vi b0] κ I L Z := E_bipush (v := 8) dX11_name_32 rfl k
theorem t74_X11_name_34 {E : En} {d : Nat} {κ : Kp} {I L : MI} {Z : Zt} {a0 : Nat} {a1 a3 b0 b1 : Int} (hx : Ir b1) (hy : Ir b0) (kt : b0 ≤ b1 → Ev E d M_X11_name 56 [vr a0, vl a1, vu, vi a3] [] κ I L Z) (kf : b1 < b0 → Ev E d M_X11_name 37 [vr a0, vl a1, vu, vi a3] [] κ I L Z) : Ev E d M_X11_name 34 [vr a0, vl a1, vu, vi a3] [vi b0, vi b1] κ I L Z := E_icmp_ge dX11_name_34 hx hy kt kf (by decide)
theorem t74_X11_name_37 {E : En} {d : Nat} {κ : Kp} {I L : MI} {Z : Zt} {a0 : Nat} {a1 a3 : Int}  (k : Ev E d M_X11_name 38 [vr a0, vl a1, vu, vi a3] [vl a1] κ I L Z) : Ev E d M_X11_name 37 [vr a0, vl a1, vu, vi a3] [] κ I L Z := E_lload_n dX11_name_37 rfl k
theorem t74_X11_name_38 {E : En} {d : Nat} {κ : Kp} {I L : MI} {Z : Zt} {a0 : Nat} {a1 a3 b0 : Int}  (k : Ev E d M_X11_name 40 [vr a0, vl a1, vu, vi a3] [vi 8, vl b0] κ I L Z) : Ev E d M_X11_name 38 [vr a0, vl a1, vu, vi a3] [vl b0] κ I L Z := E_bipush (v := 8) dX11_name_38 rfl k
theorem t74_X11_name_40 {E : En} {d : Nat} {κ : Kp} {I L : MI} {Z : Zt} {a0 : Nat} {a1 a3 b0 b1 : Int} {z : Int} (hz : Int64.ofInt b1 <<< ((Int32.ofInt b0).toInt64 &&& 63) = Int64.ofInt z) (k : Ev E d M_X11_name 41 [vr a0, vl a1, vu, vi a3] [vl z] κ I L Z) : Ev E d M_X11_name 40 [vr a0, vl a1, vu, vi a3] [vi b0, vl b1] κ I L Z := E_lshl dX11_name_40 hz k
theorem t74_X11_name_41 {E : En} {d : Nat} {κ : Kp} {I L : MI} {Z : Zt} {a0 : Nat} {a1 a3 b0 : Int}  (k : Ev E d M_X11_name 42 [vr a0, vl a1, vu, vi a3] [vr a0, vl b0] κ I L Z) : Ev E d M_X11_name 41 [vr a0, vl a1, vu, vi a3] [vl b0] κ I L Z := E_aload_n dX11_name_41 rfl k
theorem t74_X11_name_42 {E : En} {d : Nat} {κ : Kp} {I L : MI} {Z : Zt} {a0 b0 : Nat} {a1 a3 b1 : Int} {q : Nat} (hs : κ.1.1[b0]? = some (.inl 11)) (hq : κ.1.2 b0 9 = some q) (k : Ev E d M_X11_name 45 [vr a0, vl a1, vu, vi a3] [vr q, vl b1] κ I L Z) : Ev E d M_X11_name 42 [vr a0, vl a1, vu, vi a3] [vr b0, vl b1] κ I L Z := E_getR (ci := 11) (n := 9) dX11_name_42 wF_RX11_29 (by decide) hs rfl hq k
theorem t74_X11_name_45 {E : En} {d : Nat} {κ : Kp} {I L : MI} {Z : Zt} {a0 b0 : Nat} {a1 a3 b1 : Int}  (k : Ev E d M_X11_name 46 [vr a0, vl a1, vu, vi a3] [vi a3, vr b0, vl b1] κ I L Z) : Ev E d M_X11_name 45 [vr a0, vl a1, vu, vi a3] [vr b0, vl b1] κ I L Z := E_iload_n dX11_name_45 rfl k
theorem t74_X11_name_46 {E : En} {d : Nat} {κ : Kp} {I L : MI} {Z : Zt} {a0 b1 : Nat} {a1 a3 b0 b2 : Int} {n : Nat} (hs : κ.1.1[b1]? = some (.inr (0, n))) (h0 : 0 ≤ b0) (h1 : b0 < n) (hi : Ir b0) (k : Ir (I b1 b0) → Ev E d M_X11_name 47 [vr a0, vl a1, vu, vi a3] [vi (I b1 b0), vl b2] κ I L Z) : Ev E d M_X11_name 46 [vr a0, vl a1, vu, vi a3] [vi b0, vr b1, vl b2] κ I L Z := E_ialdI dX11_name_46 hs h0 h1 hi k
theorem t74_X11_name_47 {E : En} {d : Nat} {κ : Kp} {I L : MI} {Z : Zt} {a0 : Nat} {a1 a3 b0 b1 : Int} (hx : Ir b0) (k : Ev E d M_X11_name 48 [vr a0, vl a1, vu, vi a3] [vl b0, vl b1] κ I L Z) : Ev E d M_X11_name 47 [vr a0, vl a1, vu, vi a3] [vi b0, vl b1] κ I L Z := E_i2l dX11_name_47 hx k
theorem t74_X11_name_48 {E : En} {d : Nat} {κ : Kp} {I L : MI} {Z : Zt} {a0 : Nat} {a1 a3 b0 b1 : Int} {z : Int} (hz : Int64.ofInt b1 ||| Int64.ofInt b0 = Int64.ofInt z) (k : Ev E d M_X11_name 49 [vr a0, vl a1, vu, vi a3] [vl z] κ I L Z) : Ev E d M_X11_name 48 [vr a0, vl a1, vu, vi a3] [vl b0, vl b1] κ I L Z := E_lor dX11_name_48 hz k
theorem t74_X11_name_49 {E : En} {d : Nat} {κ : Kp} {I L : MI} {Z : Zt} {a0 : Nat} {a1 a3 b0 : Int}  (k : Ev E d M_X11_name 50 [vr a0, vl b0, vu, vi a3] [] κ I L Z) : Ev E d M_X11_name 49 [vr a0, vl a1, vu, vi a3] [vl b0] κ I L Z := E_lstore_n dX11_name_49 rfl (Nat.le_of_ble_eq_true rfl) k
theorem t74_X11_name_50 {E : En} {d : Nat} {κ : Kp} {I L : MI} {Z : Zt} {a0 : Nat} {a1 a3 : Int}  (k : Ev E d M_X11_name 53 [vr a0, vl a1, vu, vi (a3 + 1)] [] κ I L Z) : Ev E d M_X11_name 50 [vr a0, vl a1, vu, vi a3] [] κ I L Z := E_iinc dX11_name_50 rfl rfl (Nat.le_of_ble_eq_true rfl) k
theorem t74_X11_name_53 {E : En} {d : Nat} {κ : Kp} {I L : MI} {Z : Zt} {a0 : Nat} {a1 a3 : Int}  (k : Ev E d M_X11_name 7 [vr a0, vl a1, vu, vi a3] [] κ I L Z) : Ev E d M_X11_name 53 [vr a0, vl a1, vu, vi a3] [] κ I L Z := E_goto dX11_name_53 (by decide) k
theorem t74_X11_name_0 {E : En} {d : Nat} {κ : Kp} {I L : MI} {Z : Zt} {a0 : Nat}  (k : Ev E d M_X11_name 1 [vr a0, vu, vu, vu] [vl 0] κ I L Z) : Ev E d M_X11_name 0 [vr a0, vu, vu, vu] [] κ I L Z := E_lconst (v := 0) dX11_name_0 rfl k
theorem t74_X11_name_1 {E : En} {d : Nat} {κ : Kp} {I L : MI} {Z : Zt} {a0 : Nat} {b0 : Int}  (k : Ev E d M_X11_name 2 [vr a0, vl b0, vu, vu] [] κ I L Z) : Ev E d M_X11_name 1 [vr a0, vu, vu, vu] [vl b0] κ I L Z := E_lstore_n dX11_name_1 rfl (Nat.le_of_ble_eq_true rfl) k
theorem t74_X11_name_2 {E : En} {d : Nat} {κ : Kp} {I L : MI} {Z : Zt} {a0 : Nat} {a1 : Int}  (k : Ev E d M_X11_name 3 [vr a0, vl a1, vu, vu] [vr a0] κ I L Z) : Ev E d M_X11_name 2 [vr a0, vl a1, vu, vu] [] κ I L Z := E_aload_n dX11_name_2 rfl k
theorem t74_X11_name_3 {E : En} {d : Nat} {κ : Kp} {I L : MI} {Z : Zt} {a0 b0 : Nat} {a1 : Int} (hs : κ.1.1[b0]? = some (.inl 11)) (k : Ir (I b0 15) → Ev E d M_X11_name 6 [vr a0, vl a1, vu, vu] [vi (I b0 15)] κ I L Z) : Ev E d M_X11_name 3 [vr a0, vl a1, vu, vu] [vr b0] κ I L Z := E_getI (ci := 11) (n := 15) dX11_name_3 wF_RX11_104 (by decide) hs rfl k
theorem t74_X11_name_6 {E : En} {d : Nat} {κ : Kp} {I L : MI} {Z : Zt} {a0 : Nat} {a1 b0 : Int}  (k : Ev E d M_X11_name 7 [vr a0, vl a1, vu, vi b0] [] κ I L Z) : Ev E d M_X11_name 6 [vr a0, vl a1, vu, vu] [vi b0] κ I L Z := E_istore_n dX11_name_6 rfl (Nat.le_of_ble_eq_true rfl) k
/-! THE REFERENCE READS: names, numbers, signs -/
def pkN (B : Int → Int) (b : Int) : Nat → Int
  | 0 => 0
  | k + 1 => pkN B b k * 256 + B (b + k)
theorem pkN_b {B : Int → Int} {b : Int} : ∀ {k : Nat}, (∀ j : Nat, j < k → 0 ≤ B (b + j) ∧ B (b + j) ≤ 255) → 0 ≤ pkN B b k ∧ pkN B b k < ((256 ^ k : Nat) : Int) := by
  intro k
  induction k with
  | zero => intro _; exact ⟨Int.le_refl _, by show (0 : Int) < ((1 : Nat) : Int); decide⟩
  | succ k ih =>
    intro h
    have h1 := ih (fun j hj => h j (by omega))
    have h2 := h k (by omega)
    unfold pkN
    rw [Nat.pow_succ]
    generalize (256 ^ k : Nat) = Q at *
    omega
theorem b64_sh (m : Nat) : Int64.ofInt (m : Int) <<< ((Int32.ofInt 8).toInt64 &&& 63) = Int64.ofInt ((m * 256 : Nat) : Int) := by
  apply Int64.toBitVec.inj
  show BitVec.ofInt 64 (m : Int) <<< (((Int32.ofInt 8).toInt64 &&& 63).toBitVec.smod 64) = BitVec.ofInt 64 ((m * 256 : Nat) : Int)
  rw [show (((Int32.ofInt 8).toInt64 &&& 63).toBitVec.smod 64) = 8#64 by decide]
  show BitVec.ofInt 64 (m : Int) <<< (8 : Nat) = _
  apply BitVec.eq_of_toNat_eq
  rw [BitVec.toNat_shiftLeft, BitVec.toNat_ofInt, BitVec.toNat_ofInt, Nat.shiftLeft_eq]
  omega
theorem b64_or0 (a b : Nat) : Int64.ofInt (a : Int) ||| Int64.ofInt (b : Int) = Int64.ofInt ((a ||| b : Nat) : Int) := by
  apply Int64.toBitVec.inj
  simp
theorem all2 {P : Nat → Prop} : (∀ i : Nat, i < 2 → P i) ↔ P 0 ∧ P 1 := by
  refine ⟨fun h => ⟨h 0 (by decide), h 1 (by decide)⟩, fun h i hi => ?_⟩
  match i, hi with
  | 0, _ => exact h.1
  | 1, _ => exact h.2
theorem all4 {P : Nat → Prop} : (∀ i : Nat, i < 4 → P i) ↔ P 0 ∧ P 1 ∧ P 2 ∧ P 3 := by
  refine ⟨fun h => ⟨h 0 (by decide), h 1 (by decide), h 2 (by decide), h 3 (by decide)⟩, fun h i hi => ?_⟩
  match i, hi with
  | 0, _ => exact h.1
  | 1, _ => exact h.2.1
  | 2, _ => exact h.2.2.1
  | 3, _ => exact h.2.2.2
theorem all5 {P : Nat → Prop} : (∀ i : Nat, i < 5 → P i) ↔ P 0 ∧ P 1 ∧ P 2 ∧ P 3 ∧ P 4 := by
  refine ⟨fun h => ⟨h 0 (by decide), h 1 (by decide), h 2 (by decide), h 3 (by decide), h 4 (by decide)⟩, fun h i hi => ?_⟩
  match i, hi with
  | 0, _ => exact h.1
  | 1, _ => exact h.2.1
  | 2, _ => exact h.2.2.1
  | 3, _ => exact h.2.2.2.1
  | 4, _ => exact h.2.2.2.2
theorem b64_or {m b : Nat} (hb : b < 256) : Int64.ofInt ((m * 256 : Nat) : Int) ||| Int64.ofInt (b : Int) = Int64.ofInt ((m * 256 + b : Nat) : Int) := by
  have h := Nat.two_pow_add_eq_or_of_lt (i := 8) (b := b) hb m
  rw [show (2 : Nat) ^ 8 = 256 from rfl, Nat.mul_comm] at h
  rw [h, b64_or0]
/-- a name at the token, its bytes in one number -/
def nmV (B : Int → Int) (s : PR) : Int := if pf s = 0 ∧ pk s = 2 ∧ pe s - pb s < 8 then pkN B (pb s) (pe s - pb s).toNat else 0
theorem c_X11_name {E : En} {I L : MI} {B : Int → Int} {n : Int} {s : PR} (hB : BOK B) (h : RR I B n s) : CFl E 1 M_X11_name [vr 78] I L (nmV B s) I L := by
  have g85 : G0.1[85]? = some (.inr (0, 400)) := rfl
  have tk := RR_tk hB h
  have ri := RR_RI hB h
  have hT := h.2.1
  have h17 := h.2.2.1
  obtain ⟨-, -, -, -, -, e, he, e1, e2, e3, e4, -⟩ := h
  have rb := ri.1
  have re := ri.2.1
  have k15 := tk.2.2.2.2.1
  have k16b := tk.2.2.2.2.2.2
  refine CM_of' (al := [vr _, vu, vu, vu]) rfl (Nat.le_of_ble_eq_true rfl) rfl (fun hM => ?_)
  by_cases q : pk s = 2 ∧ pe s - pb s < 8
  · have t2 := tok2 (e1.symm.trans q.1)
    rw [← e2, ← e3] at t2
    have k16 := (tk.2.2.2.2.2.1 (.inl q.1)).2
    have k14 := tk.2.1.mpr q.1
    have ble := (runP_b (B := B) (t := 2) 401 (pb s) rb.2).1
    rw [← t2] at ble
    have dig : ∀ j : Nat, (j : Int) < pe s - pb s → tyP (B (pb s + j)) = 2 := fun j hj => (runP_in 401 (pb s) (pb s + j) (by omega) (by rw [← t2]; omega)).1
    have fv : nmV B s = if pf s = 0 then pkN B (pb s) (pe s - pb s).toNat else 0 := by
      unfold nmV
      by_cases z : pf s = 0
      · rw [if_pos ⟨z, q⟩, if_pos z]
      · rw [if_neg (fun y => z y.1), if_neg z]
    have byt : ∀ j : Nat, 0 ≤ B (pb s + j) + 1 := fun j => by have := (hB (pb s + j)).1; omega
    have key : ∀ (f j : Nat), (pe s - pb s).toNat - j < f → j ≤ (pe s - pb s).toNat → Ev E 1 M_X11_name 7 [vr 78, vl (pkN B (pb s) j), vu, vi (pb s + (j : Int))] [] (G0, 0, 0) I L (ZQ E M_X11_name (QFl (nmV B s) I L)) := by
      intro f
      induction f with
      | zero => intro j h1 h2; omega
      | succ f ih =>
        intro j j1 j2
        have es : pkN B (pb s) (j + 1) = pkN B (pb s) j * 256 + B (pb s + j) := rfl
        have hd := fun z : (j : Int) < pe s - pb s => TpR_in hT (k := pb s + j) (by omega) (by rw [dig j z]; decide)
        have bnd : 0 ≤ pkN B (pb s) j ∧ pkN B (pb s) j < ((256 ^ j : Nat) : Int) := pkN_b fun i hi => by
          have d2 := dig i (by omega)
          have b1 := (hB (pb s + i)).1
          refine ⟨?_, b1.2⟩
          apply Classical.byContradiction
          intro z
          have : B (pb s + i) = -1 := by omega
          rw [this] at d2
          exact absurd d2 (by decide)
        have p7 : (256 ^ j : Nat) ≤ 256 ^ 7 := Nat.pow_le_pow_right (by decide) (by omega)
        rw [show (256 : Nat) ^ 7 = 72057594037927936 from rfl] at p7
        generalize (256 ^ j : Nat) = Q at *
        refine (t74_X11_name_7 (t74_X11_name_8 (t74_X11_name_9 (by first | assumption | rfl) (fun r9 => (t74_X11_name_12 (by omega) (by omega) (fun c12 => (t74_X11_name_56 (t74_X11_name_57 (by first | assumption | rfl) (fun r57 => (t74_X11_name_60 (by omega) (fun c60 => (t74_X11_name_67 (t74_X11_name_68 ?_))) (fun c60 => (t74_X11_name_63 (t74_X11_name_64 (t74_X11_name_68 ?_))))))))) (fun c12 => (t74_X11_name_15 (t74_X11_name_16 (by first | assumption | rfl) (fun r16 => (t74_X11_name_19 (t74_X11_name_20 (by omega) (by omega) (fun c20 => (t74_X11_name_56 (t74_X11_name_57 (by first | assumption | rfl) (fun r57 => (t74_X11_name_60 (by omega) (fun c60 => (t74_X11_name_67 (t74_X11_name_68 ?_))) (fun c60 => (t74_X11_name_63 (t74_X11_name_64 (t74_X11_name_68 ?_))))))))) (fun c20 => (t74_X11_name_23 (t74_X11_name_24 (by first | assumption | rfl) (fun r24 => (t74_X11_name_27 (t74_X11_name_28 (by first | assumption | rfl) (fun r28 => (t74_X11_name_31 (t74_X11_name_32 (t74_X11_name_34 (by omega) (by omega) (fun c34 => (t74_X11_name_56 (t74_X11_name_57 (by first | assumption | rfl) (fun r57 => (t74_X11_name_60 (by omega) (fun c60 => (t74_X11_name_67 (t74_X11_name_68 ?_))) (fun c60 => (t74_X11_name_63 (t74_X11_name_64 (t74_X11_name_68 ?_))))))))) (fun c34 => ?_))))))))))))))))))))))
        -- 7 leaves: 12t 60t :ret68 | 12t 60f :ret68 | 12f 20t 60t :ret68 | 12f 20t 60f :ret68 | 12f 20f 34t 60t :ret68 | 12f 20f 34t 60f :ret68 | 12f 20f 34f :->37
        · have : j = (pe s - pb s).toNat := by omega
          subst this
          exact qfl (by decide) (by rw [fv, if_neg (by omega)])
        · have : j = (pe s - pb s).toNat := by omega
          subst this
          exact qfl (by omega) (by rw [fv, if_pos (by omega)])
        · omega
        · omega
        · omega
        · omega
        · have hi := ih (j + 1) (by omega) (by omega)
          have ed := hd (by omega)
          have bb := (hB (pb s + j)).1
          have b0 : 0 ≤ B (pb s + j) := by
            apply Classical.byContradiction
            intro z
            have d2 := dig j (by omega)
            have : B (pb s + j) = -1 := by omega
            rw [this] at d2
            exact absurd d2 (by decide)
          rw [es, show pb s + ((j + 1 : Nat) : Int) = pb s + j + 1 by omega] at hi
          obtain ⟨m, hm⟩ := Int.eq_ofNat_of_zero_le bnd.1
          obtain ⟨c, hcc⟩ := Int.eq_ofNat_of_zero_le b0
          have e85 : I 85 (pb s + (j : Int)) = (c : Int) := by rw [ed.1, hcc]
          rw [hm, hcc, show (m : Int) * 256 + (c : Int) = ((m * 256 + c : Nat) : Int) by omega] at hi
          rw [hm]
          refine (t74_X11_name_37 (t74_X11_name_38 (t74_X11_name_40 (b64_sh m) (t74_X11_name_41 (t74_X11_name_42 (by first | assumption | rfl) (by first | assumption | rfl) (t74_X11_name_45 (t74_X11_name_46 (by first | assumption | rfl) (by omega) (by omega) (by omega) (fun r46 => (t74_X11_name_47 (by omega) (t74_X11_name_48 (by rw [e85]; exact b64_or (by omega)) (t74_X11_name_49 (t74_X11_name_50 (t74_X11_name_53 ?_)))))))))))))
          -- 1 leaves: :->7
          exact hi
    have h0 := key ((pe s - pb s).toNat + 1) 0 (by omega) (by omega)
    rw [show pb s + ((0 : Nat) : Int) = pb s by omega] at h0
    refine (t74_X11_name_0 (t74_X11_name_1 (t74_X11_name_2 (t74_X11_name_3 (by first | assumption | rfl) (fun r3 => (t74_X11_name_6 ?_))))))
    -- 1 leaves: :->7
    rw [k15]
    exact h0
  · have fv : nmV B s = 0 := if_neg (fun z => q z.2)
    have k14 : I 78 14 = 2 → I 78 16 = pe s ∧ pk s = 2 := fun z => ⟨(tk.2.2.2.2.2.1 (.inl (tk.2.1.mp z))).2, tk.2.1.mp z⟩
    rw [fv]
    refine (t74_X11_name_0 (t74_X11_name_1 (t74_X11_name_2 (t74_X11_name_3 (by first | assumption | rfl) (fun r3 => (t74_X11_name_6 (t74_X11_name_7 (t74_X11_name_8 (t74_X11_name_9 (by first | assumption | rfl) (fun r9 => (t74_X11_name_12 (by omega) (by omega) (fun c12 => (t74_X11_name_56 (t74_X11_name_57 (by first | assumption | rfl) (fun r57 => (t74_X11_name_60 (by omega) (fun c60 => (t74_X11_name_67 (t74_X11_name_68 ?_))) (fun c60 => (t74_X11_name_63 (t74_X11_name_64 (t74_X11_name_68 ?_))))))))) (fun c12 => (t74_X11_name_15 (t74_X11_name_16 (by first | assumption | rfl) (fun r16 => (t74_X11_name_19 (t74_X11_name_20 (by omega) (by omega) (fun c20 => (t74_X11_name_56 (t74_X11_name_57 (by first | assumption | rfl) (fun r57 => (t74_X11_name_60 (by omega) (fun c60 => (t74_X11_name_67 (t74_X11_name_68 ?_))) (fun c60 => (t74_X11_name_63 (t74_X11_name_64 (t74_X11_name_68 ?_))))))))) (fun c20 => (t74_X11_name_23 (t74_X11_name_24 (by first | assumption | rfl) (fun r24 => (t74_X11_name_27 (t74_X11_name_28 (by first | assumption | rfl) (fun r28 => (t74_X11_name_31 (t74_X11_name_32 (t74_X11_name_34 (by omega) (by omega) (fun c34 => (t74_X11_name_56 (t74_X11_name_57 (by first | assumption | rfl) (fun r57 => (t74_X11_name_60 (by omega) (fun c60 => (t74_X11_name_67 (t74_X11_name_68 ?_))) (fun c60 => (t74_X11_name_63 (t74_X11_name_64 (t74_X11_name_68 ?_))))))))) (fun c34 => ?_))))))))))))))))))))))))))))
    -- 7 leaves: 12t 60t :ret68 | 12t 60f :ret68 | 12f 20t 60t :ret68 | 12f 20t 60f :ret68 | 12f 20f 34t 60t :ret68 | 12f 20f 34t 60f :ret68 | 12f 20f 34f :->37
    all_goals first
      | exact qfl (by decide) rfl
      | (exfalso; have := k14 (by omega); exact q ⟨this.2, by omega⟩)
theorem pk_inj {B w : Int → Int} {b : Int} : ∀ m k : Nat, (∀ j : Nat, j < m → 1 ≤ B (b + j) ∧ B (b + j) ≤ 255) → (∀ j : Nat, j < k → 1 ≤ w (0 + j) ∧ w (0 + j) ≤ 255) → pkN B b m = pkN w 0 k → m = k ∧ ∀ i : Nat, i < k → B (b + i) = w (0 + i) := by
  intro m
  induction m with
  | zero =>
    intro k h1 h2 h
    cases k with
    | zero => exact ⟨rfl, fun i hi => by omega⟩
    | succ k =>
      have a := (pkN_b (B := w) (b := 0) (k := k) (fun j hj => by have := h2 j (by omega); omega)).1
      have c := h2 k (by omega)
      have e : (0 : Int) = pkN w 0 k * 256 + w (0 + k) := h
      omega
  | succ m ih =>
    intro k h1 h2 h
    have a1 := (pkN_b (B := B) (b := b) (k := m) (fun j hj => by have := h1 j (by omega); omega)).1
    have c1 := h1 m (by omega)
    cases k with
    | zero =>
      have e : pkN B b m * 256 + B (b + m) = 0 := h
      omega
    | succ k =>
      have a2 := (pkN_b (B := w) (b := 0) (k := k) (fun j hj => by have := h2 j (by omega); omega)).1
      have c2 := h2 k (by omega)
      have e : pkN B b m * 256 + B (b + m) = pkN w 0 k * 256 + w (0 + k) := h
      have hi := ih k (fun j hj => h1 j (by omega)) (fun j hj => h2 j (by omega)) (by omega)
      refine ⟨by omega, fun i ik => ?_⟩
      by_cases q : i = k
      · subst q
        have := hi.1
        subst this
        omega
      · exact hi.2 i (by omega)
theorem pk_c {B w : Int → Int} {b : Int} : ∀ {k : Nat}, (∀ i : Nat, i < k → B (b + i) = w (0 + i)) → pkN B b k = pkN w 0 k := by
  intro k
  induction k with
  | zero => intro _; rfl
  | succ k ih =>
    intro h
    show pkN B b k * 256 + B (b + k) = pkN w 0 k * 256 + w (0 + k)
    rw [ih (fun i hi => h i (by omega)), h k (by omega)]
/-- the name is just the word (its bytes behind q) -/
theorem nm_is {I : MI} {B : Int → Int} {n : Int} {s : PR} (hB : BOK B) (h : RR I B n s) : (nmV B s = 499967946343 ↔ pf s = 0 ∧ isWP B s 1005) ∧ (nmV B s = 1920298085 ↔ pf s = 0 ∧ isWP B s 1006) ∧ (nmV B s = 1885432178 ↔ pf s = 0 ∧ isWP B s 1007) ∧ (nmV B s = 28530 ↔ pf s = 0 ∧ isWP B s 1008) := by
  have ri := RR_RI hB h
  obtain ⟨-, -, -, -, -, e, he, e1, e2, e3, e4, -⟩ := h
  have no : ∀ (c : Int) (q : Nat), c ≠ 0 → xln (q + 4) < 8 → ¬ (pf s = 0 ∧ pk s = 2 ∧ pe s - pb s < 8) → (nmV B s = c ↔ pf s = 0 ∧ isWP B s q) := fun c q hc hx hn => by
    have : nmV B s = 0 := if_neg hn
    rw [this]
    refine ⟨fun z => absurd z.symm hc, fun z => absurd ⟨z.1, z.2.1, ?_⟩ hn⟩
    have := z.2.2.1
    omega
  by_cases hn : pf s = 0 ∧ pk s = 2 ∧ pe s - pb s < 8
  · have t2 := tok2 (e1.symm.trans hn.2.1)
    rw [← e2, ← e3] at t2
    have ble := (runP_b (B := B) (t := 2) 401 (pb s) ri.1.2).1
    rw [← t2] at ble
    have dig : ∀ j : Nat, (j : Int) < pe s - pb s → 97 ≤ B (pb s + j) ∧ B (pb s + j) ≤ 122 := fun j hj => by
      have := (runP_in (B := B) (t := 2) 401 (pb s) (pb s + j) (by omega) (by rw [← t2]; omega)).1
      unfold tyP at this
      (repeat' split at this) <;> omega
    have fv : nmV B s = pkN B (pb s) (pe s - pb s).toNat := if_pos hn
    obtain ⟨m, hm⟩ := Int.eq_ofNat_of_zero_le (show 0 ≤ pe s - pb s by omega)
    have wd : ∀ (c : Int) (q : Nat), (∀ j : Nat, j < xln (q + 4) → 1 ≤ xI (q + 4) ((0 : Int) + j) % 256 ∧ xI (q + 4) ((0 : Int) + j) % 256 ≤ 255) → pkN (fun i => xI (q + 4) i % 256) 0 (xln (q + 4)) = c → (nmV B s = c ↔ pf s = 0 ∧ isWP B s q) := fun c q hw hc => by
      rw [fv, ← hc]
      constructor
      · intro z
        have := pk_inj (B := B) (w := fun i => xI (q + 4) i % 256) (b := pb s) (pe s - pb s).toNat (xln (q + 4)) (fun j hj => by have := dig j (by omega); omega) hw z
        refine ⟨hn.1, hn.2.1, by omega, fun i hi => ?_⟩
        have e := this.2 i hi
        rw [Int.zero_add] at e
        exact e
      · intro z
        have e1 := z.2.2.1
        have e2 : (pe s - pb s).toNat = xln (q + 4) := by omega
        rw [e2]
        exact pk_c fun i hi => by
          rw [Int.zero_add]
          exact z.2.2.2 i hi
    have w5 : ∀ j : Fin 5, 1 ≤ xI (1005 + 4) ((0 : Int) + (j.val : Int)) % 256 ∧ xI (1005 + 4) ((0 : Int) + (j.val : Int)) % 256 ≤ 255 := by decide
    have w6 : ∀ j : Fin 4, 1 ≤ xI (1006 + 4) ((0 : Int) + (j.val : Int)) % 256 ∧ xI (1006 + 4) ((0 : Int) + (j.val : Int)) % 256 ≤ 255 := by decide
    have w7 : ∀ j : Fin 4, 1 ≤ xI (1007 + 4) ((0 : Int) + (j.val : Int)) % 256 ∧ xI (1007 + 4) ((0 : Int) + (j.val : Int)) % 256 ≤ 255 := by decide
    have w8 : ∀ j : Fin 2, 1 ≤ xI (1008 + 4) ((0 : Int) + (j.val : Int)) % 256 ∧ xI (1008 + 4) ((0 : Int) + (j.val : Int)) % 256 ≤ 255 := by decide
    exact ⟨wd _ 1005 (fun j hj => w5 ⟨j, hj⟩) (by decide), wd _ 1006 (fun j hj => w6 ⟨j, hj⟩) (by decide), wd _ 1007 (fun j hj => w7 ⟨j, hj⟩) (by decide), wd _ 1008 (fun j hj => w8 ⟨j, hj⟩) (by decide)⟩
  · exact ⟨no _ _ (by decide) (by decide) hn, no _ _ (by decide) (by decide) hn, no _ _ (by decide) (by decide) hn, no _ _ (by decide) (by decide) hn⟩
