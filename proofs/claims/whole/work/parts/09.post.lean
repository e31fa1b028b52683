def SH0 : List Shp := [.inl 10, .inr (4, 8), .inl 8, .inr (1, 400), .inl 9, .inr (0, 12), .inr (0, 12), .inr (0, 12), .inr (0, 5), .inr (0, 5), .inr (0, 5), .inr (0, 8), .inr (0, 8), .inl 5, .inl 7, .inl 9, .inr (0, 12), .inr (0, 12), .inr (0, 12), .inr (0, 5), .inr (0, 5), .inr (0, 5), .inr (0, 8), .inr (0, 8), .inr (3, 8), .inr (5, 2), .inl 3, .inr (0, 12), .inl 2, .inr (0, 2001), .inl 3, .inr (0, 12), .inl 4, .inl 1, .inr (0, 24), .inr (0, 6), .inr (3, 28), .inr (0, 6), .inl 0, .inr (0, 16), .inl 6, .inr (0, 40), .inl 6, .inr (0, 40), .inl 6, .inr (0, 40), .inl 6, .inr (0, 40), .inl 6, .inr (0, 40), .inl 6, .inr (0, 40), .inl 6, .inr (0, 40), .inl 6, .inr (0, 40), .inl 7, .inl 9, .inr (0, 12), .inr (0, 12), .inr (0, 12), .inr (0, 5), .inr (0, 5), .inr (0, 5), .inr (0, 8), .inr (0, 8), .inr (3, 8), .inl 7, .inl 9, .inr (0, 12), .inr (0, 12), .inr (0, 12), .inr (0, 5), .inr (0, 5), .inr (0, 5), .inr (0, 8), .inr (0, 8), .inr (3, 8), .inl 11, .inr (0, 8), .inr (0, 8), .inr (0, 320), .inr (0, 65), .inr (0, 65), .inr (3, 8), .inr (0, 400), .inr (0, 12), .inr (0, 6), .inr (0, 6), .inr (0, 12), .inr (2, 2), .inr (0, 130), .inr (3, 16), .inr (0, 16)]
def RFT : Nat → List (Option Nat)
  | 0 => [some 1, some 2, some 4, some 13, some 14, some 25, some 26, some 28, some 32, some 33, some 38]
  | 1 => [some 40, some 42, some 44, some 46, some 48, some 50, some 52, some 54]
  | 2 => [none, some 3]
  | 4 => [none, none, none, some 5, some 6, some 7, some 8, some 9, some 10, some 11, some 12]
  | 13 => [some 2, some 4]
  | 14 => [some 15, some 24]
  | 15 => [none, none, none, some 16, some 17, some 18, some 19, some 20, some 21, some 22, some 23]
  | 25 => [some 56, some 67]
  | 26 => [some 27]
  | 28 => [some 29, some 30]
  | 30 => [some 31]
  | 33 => [some 34, some 35, some 36, none, none, some 37]
  | 38 => [some 39]
  | 40 => [none, none, none, some 41]
  | 42 => [none, none, none, some 43]
  | 44 => [none, none, none, some 45]
  | 46 => [none, none, none, some 47]
  | 48 => [none, none, none, some 49]
  | 50 => [none, none, none, some 51]
  | 52 => [none, none, none, some 53]
  | 54 => [none, none, none, some 55]
  | 56 => [some 57, some 66]
  | 57 => [none, none, none, some 58, some 59, some 60, some 61, some 62, some 63, some 64, some 65]
  | 67 => [some 68, some 77]
  | 68 => [none, none, none, some 69, some 70, some 71, some 72, some 73, some 74, some 75, some 76]
  | 78 => [none, none, some 79, some 80, some 81, some 82, some 83, none, some 84, some 85, none, none, none, none, none, none, none, none, none, some 86, none, some 87, some 88, none, some 89, some 90, some 91, some 92, some 93]
  | _ => []
def RF0 (o : Nat) (k : Int) : Option Nat := if k < 0 then none else (RFT o).getD k.toNat none
def G0 : Geo := (SH0, RF0)
abbrev κ0 : Kp := (G0, 0, 0)
/-- contracts of methods that make nothing: what they end with -/
abbrev Qt : Type := Option AV → Geo → MI → MI → Prop
def QQv (Q : MI → MI → Prop) : Qt := fun r g A B => g = G0 ∧ r = none ∧ Q A B
def QQi (Q : Int → MI → MI → Prop) : Qt := fun r g A B => g = G0 ∧ ∃ z, r = some (vi z) ∧ Q z A B
def QQl (Q : Int → MI → MI → Prop) : Qt := fun r g A B => g = G0 ∧ ∃ z, r = some (vl z) ∧ Q z A B
def QFv (I' L' : MI) : Qt := fun r g A B => g = G0 ∧ r = none ∧ A = I' ∧ B = L'
def QFi (z : Int) (I' L' : MI) : Qt := fun r g A B => g = G0 ∧ ∃ y, r = some (vi y) ∧ Ir y ∧ y = z ∧ A = I' ∧ B = L'
def QFl (z : Int) (I' L' : MI) : Qt := fun r g A B => g = G0 ∧ ∃ y, r = some (vl y) ∧ Jr y ∧ y = z ∧ A = I' ∧ B = L'
/-- yes or no -/
def QB (P : Prop) (I' L' : MI) : Qt := fun r g A B => g = G0 ∧ ∃ y, r = some (vi y) ∧ A = I' ∧ B = L' ∧ ((y = 1 ∧ P) ∨ (y = 0 ∧ ¬ P))
/-- a reference, or null -/
def QO (P : Prop) (z : Nat) (I' L' : MI) : Qt := fun r g A B => g = G0 ∧ A = I' ∧ B = L' ∧ ((r = some (vr z) ∧ P) ∨ (r = some vn ∧ ¬ P))
def CQv (E : En) (d : Nat) (μ : Mu) (as : List AV) (I L : MI) (Q : MI → MI → Prop) : Prop := CM E d μ as G0 I L (QQv Q)
def CQi (E : En) (d : Nat) (μ : Mu) (as : List AV) (I L : MI) (Q : Int → MI → MI → Prop) : Prop := CM E d μ as G0 I L (QQi Q)
def CQl (E : En) (d : Nat) (μ : Mu) (as : List AV) (I L : MI) (Q : Int → MI → MI → Prop) : Prop := CM E d μ as G0 I L (QQl Q)
def CFv (E : En) (d : Nat) (μ : Mu) (as : List AV) (I L : MI) (I' L' : MI) : Prop := CM E d μ as G0 I L (QFv I' L')
def CFi (E : En) (d : Nat) (μ : Mu) (as : List AV) (I L : MI) (z : Int) (I' L' : MI) : Prop := CM E d μ as G0 I L (QFi z I' L')
def CFl (E : En) (d : Nat) (μ : Mu) (as : List AV) (I L : MI) (z : Int) (I' L' : MI) : Prop := CM E d μ as G0 I L (QFl z I' L')
def CB (E : En) (d : Nat) (μ : Mu) (as : List AV) (I L : MI) (P : Prop) (I' L' : MI) : Prop := CM E d μ as G0 I L (QB P I' L')
def CO (E : En) (d : Nat) (μ : Mu) (as : List AV) (I L : MI) (P : Prop) (z : Nat) (I' L' : MI) : Prop := CM E d μ as G0 I L (QO P z I' L')
theorem qb1 {P : Prop} {I L : MI} (h : P) : QB P I L (some (vi 1)) G0 I L := ⟨rfl, _, rfl, rfl, rfl, .inl ⟨rfl, h⟩⟩
theorem qb0 {P : Prop} {I L : MI} (h : ¬ P) : QB P I L (some (vi 0)) G0 I L := ⟨rfl, _, rfl, rfl, rfl, .inr ⟨rfl, h⟩⟩
theorem qb1' {P : Prop} {I L A B : MI} (h : P) (hA : A = I) (hB : B = L) : QB P I L (some (vi 1)) G0 A B := ⟨rfl, _, rfl, hA, hB, .inl ⟨rfl, h⟩⟩
theorem qb0' {P : Prop} {I L A B : MI} (h : ¬ P) (hA : A = I) (hB : B = L) : QB P I L (some (vi 0)) G0 A B := ⟨rfl, _, rfl, hA, hB, .inr ⟨rfl, h⟩⟩
theorem qfi {y z : Int} {I L : MI} (hr : Ir y) (h : y = z) : QFi z I L (some (vi y)) G0 I L := ⟨rfl, _, rfl, hr, h, rfl, rfl⟩
theorem qfi' {y z : Int} {I L A B : MI} (hr : Ir y) (h : y = z) (hA : A = I) (hB : B = L) : QFi z I L (some (vi y)) G0 A B := ⟨rfl, _, rfl, hr, h, hA, hB⟩
theorem qfl {y z : Int} {I L : MI} (hr : Jr y) (h : y = z) : QFl z I L (some (vl y)) G0 I L := ⟨rfl, _, rfl, hr, h, rfl, rfl⟩
theorem qfl' {y z : Int} {I L A B : MI} (hr : Jr y) (h : y = z) (hA : A = I) (hB : B = L) : QFl z I L (some (vl y)) G0 A B := ⟨rfl, _, rfl, hr, h, hA, hB⟩
theorem qfv {I L A B : MI} (hA : A = I) (hB : B = L) : QFv I L none G0 A B := ⟨rfl, rfl, hA, hB⟩
theorem qqv {Q : MI → MI → Prop} {A B : MI} (h : Q A B) : QQv Q none G0 A B := ⟨rfl, rfl, h⟩
theorem qqi {Q : Int → MI → MI → Prop} {y : Int} {A B : MI} (h : Q y A B) : QQi Q (some (vi y)) G0 A B := ⟨rfl, _, rfl, h⟩
theorem qql {Q : Int → MI → MI → Prop} {y : Int} {A B : MI} (h : Q y A B) : QQl Q (some (vl y)) G0 A B := ⟨rfl, _, rfl, h⟩
theorem qo1 {P : Prop} {z : Nat} {I L : MI} (h : P) : QO P z I L (some (vr z)) G0 I L := ⟨rfl, rfl, rfl, .inl ⟨rfl, h⟩⟩
theorem qo0 {P : Prop} {z : Nat} {I L : MI} (h : ¬ P) : QO P z I L (some vn) G0 I L := ⟨rfl, rfl, rfl, .inr ⟨rfl, h⟩⟩
def wkl : List AV → List AV → Prop
  | [], [] => True
  | x :: xs, y :: ys => (y = x ∨ y = vu) ∧ wkl xs ys
  | _, _ => False
theorem wkl_ok : ∀ {al al' : List AV}, wkl al al' → al'.length = al.length ∧ ∀ (i : Nat) (v : AV), al'[i]? = some v → isu v = false → al[i]? = some v := by
  intro al
  induction al with
  | nil =>
    intro al' h
    cases al' with
    | nil => exact ⟨rfl, fun i v h => by simp at h⟩
    | cons y ys => exact h.elim
  | cons x xs ih =>
    intro al' h
    cases al' with
    | nil => exact h.elim
    | cons y ys =>
      obtain ⟨h1, h2⟩ := h
      obtain ⟨i1, i2⟩ := ih h2
      refine ⟨by simp [i1], fun i v hv hu => ?_⟩
      cases i with
      | zero =>
        simp at hv ⊢
        rcases h1 with h1 | h1
        · rw [← h1]; exact hv
        · rw [← hv, h1] at hu; cases hu
      | succ i =>
        simp at hv ⊢
        exact i2 i v hv hu
theorem Ev.wk {E : En} {d : Nat} {μ : Mu} {pc : Nat} {al al' st : List AV} {κ : Kp} {I L : MI} {Z : Zt} (h : wkl al al') (k : Ev E d μ pc al' st κ I L Z) : Ev E d μ pc al st κ I L Z := Ev.weak (wkl_ok h).1 (wkl_ok h).2 k
theorem Ev.mok {E : En} {d : Nat} {μ : Mu} {pc : Nat} {al st : List AV} {κ : Kp} {I L : MI} {Z : Zt} (k : MOK I L → Ev E d μ pc al st κ I L Z) : Ev E d μ pc al st κ I L Z := by
  intro R p e s m args below meth c H locs ls hR hC hX hW hS hL
  exact k hW.2.2.2.2 R p e s m args below meth c H locs ls hR hC hX hW hS hL
theorem CM_of' {E : En} {d : Nat} {μ : Mu} {as al : List AV} {g : Geo} {I L : MI} {Q : Option AV → Geo → MI → MI → Prop} (hy : plainName μ.1.cls = true) (hn : (alOf as).length ≤ μ.2.2.1) (ha : alOf as ++ List.replicate (μ.2.2.1 - (alOf as).length) vu = al)
    (h : MOK I L → Ev E d μ 0 al [] (g, 0, 0) I L (ZQ E μ Q)) : CM E d μ as g I L Q := CM_of hy hn ha (Ev.mok h)
theorem arr_of {E : En} {g : Geo} {o : Nat} {q : Nat × Nat} (ho : o < 1000) (h : g.1[o]? = some (.inr q)) : arr E g o = some q := by
  unfold arr
  rw [if_pos ho, h]
theorem G0_lt {o : Nat} {x : Shp} (h : G0.1[o]? = some x) : o < 1000 := Nat.lt_of_lt_of_le (List.getElem?_eq_some_iff.mp h).1 (by decide)
/-- the ends of contracts -/
theorem up2_eq (f : MI) (o : Nat) (k z : Int) : up2 f o k z o k = z := by unfold up2; rw [if_pos ⟨rfl, rfl⟩]
theorem up2_ne {f : MI} {o o' : Nat} {k k' z : Int} (h : o' ≠ o ∨ k' ≠ k) : up2 f o k z o' k' = f o' k' := by
  unfold up2
  rw [if_neg (fun q => h.elim (fun h => h q.1) (fun h => h q.2))]
theorem up2_at (f : MI) (o o' : Nat) (k k' z : Int) : up2 f o k z o' k' = if o' = o ∧ k' = k then z else f o' k' := rfl
