
/-! THE LAW: what a call of the class leaves for the reference's call behind it -/
def KT (I J : MI) : Prop := TSame I J 15 ∧ ∀ o, 78 ≤ o → ∀ k, J o k = I o k
def HL (L M : MI) : Prop := ∀ o, 78 ≤ o → ∀ k, M o k = L o k
theorem KT_r (I : MI) : KT I I := ⟨fun o _ _ k => rfl, fun o _ k => rfl⟩
theorem HL_r (L : MI) : HL L L := fun o _ k => rfl
theorem KT_s (I : MI) (c : Int) : KT I (up2 I 0 12 c) := ⟨fun o o1 _ k => up2_ne (.inl (by omega)), fun o o1 k => up2_ne (.inl (by omega))⟩
theorem KT_t {I J K : MI} (h : KT I J) (g : KT J K) : KT I K := ⟨fun o o1 o2 k => (g.1 o o1 o2 k).trans (h.1 o o1 o2 k), fun o o1 k => (g.2 o o1 k).trans (h.2 o o1 k)⟩
theorem KT_n {I J : MI} (h : ∀ o, (15 ≤ o ∧ o ≤ 23) ∨ 78 ≤ o → ∀ k, J o k = I o k) : KT I J := ⟨fun o o1 o2 k => h o (.inl ⟨o1, o2⟩) k, fun o o1 k => h o (.inr o1) k⟩
theorem KT_TR {I J : MI} (h : KT I J) (t : TRq I) : TRq J := TR_f ⟨h.1, h.2 82 (by decide), h.2 78 (by decide) 7⟩ t
theorem KT_sz {I J : MI} (h : KT I J) (z : ∀ q : Int, 0 ≤ q → q < 8 → 0 ≤ I 80 q ∧ I 80 q ≤ 40) : ∀ q : Int, 0 ≤ q → q < 8 → 0 ≤ J 80 q ∧ J 80 q ≤ 40 := fun q q0 q1 => by rw [h.2 80 (by decide)]; exact z q q0 q1
theorem HL_SR {L M : MI} (h : HL L M) (z : SlR L) : SlR M := fun k k0 k1 => by rw [h 84 (by decide)]; exact z k k0 k1
theorem kt_tk {I L I1 L1 : MI} {v : Int} (c : TkQ I L 26 15 v I1 L1) : KT I I1 ∧ HL L L1 := ⟨KT_n fun o ho k => c.1 o (by omega) (by omega) k, fun o ho k => c.2.1 o (by omega) k⟩
theorem kt_hf {I L I1 L1 : MI} (c : HFr I L I1 L1) : KT I I1 ∧ HL L L1 := ⟨KT_n fun o ho k => c.1 o (by omega) (by omega) (by omega) (by omega) k, fun o ho k => c.2.1 o (by omega) (by omega) k⟩
theorem kt_set {I L I1 L1 : MI} {r i v z : Int} (c : SetQ I L r i v z I1 L1) : KT I I1 := by
  obtain ⟨-, c⟩ := c
  rcases c with ⟨-, -, rfl⟩ | ⟨-, -, -, rfl⟩ | ⟨-, -, -, -, rfl⟩ | ⟨h, -, -, -, rfl⟩
  · exact KT_r _
  · exact KT_s _ _
  · exact KT_s _ _
  · exact KT_n fun o ho k => by rw [up2_ne (.inl (by omega)), up2_ne (.inl (by omega))]
theorem kt_copy {I L I1 L1 : MI} {a i b j n z : Int} (c : CpyQ I L a i b j n z I1 L1) : KT I I1 := by
  obtain ⟨-, c⟩ := c
  rcases c with ⟨-, -, rfl⟩ | ⟨-, -, -, rfl⟩ | ⟨-, -, -, -, rfl⟩ | ⟨-, -, -, -, -, rfl⟩ | ⟨h, -, -, -, -, rfl⟩
  · exact KT_r _
  · exact KT_s _ _
  · exact KT_s _ _
  · exact KT_s _ _
  · exact KT_n fun o ho k => by rw [up2_ne (.inl (by omega)), cpI_n (.inl (by omega))]
theorem kt_feed {I L I1 L1 : MI} {w n z : Int} (c : FedQ I L w n z I1 L1) : KT I I1 := by
  obtain ⟨-, c⟩ := c
  rcases c with ⟨-, -, rfl⟩ | ⟨-, -, -, rfl⟩ | ⟨-, -, -, -, f, -, -⟩
  · exact KT_r _
  · exact KT_r _
  · exact KT_n fun o ho k => f o (by omega) (by omega) k
theorem kt_ton {I L I1 L1 : MI} {R : PR × MI} {z : Int} (c : TonQ I L R z I1 L1) : ∀ o, 78 ≤ o → ∀ k, I1 o k = I o k := by
  obtain ⟨-, c⟩ := c
  rcases c with ⟨-, -, -, -, -, f⟩ | ⟨-, -, f, -, -, -, -⟩
  · exact fun o ho k => f o (by omega) (by omega) (by omega) (by omega) k
  · exact fun o ho k => f o (by omega) (by omega) (by omega) (by omega) (by omega) k
theorem kt_say {I L I1 L1 : MI} {k r i n z : Int} (c : SayQ I L k r i n z I1 L1) : KT I I1 := by
  rcases c with ⟨-, -, rfl, -⟩ | ⟨-, -, -, rfl, -⟩ | ⟨-, -, -, -, rfl, -⟩ | ⟨-, -, -, -, ⟨-, rfl, -⟩ | ⟨-, rfl, -⟩⟩
  · exact KT_r _
  · exact KT_s _ _
  · exact KT_s _ _
  · exact KT_r _
  · exact KT_s _ _
theorem kt_apart {I L I1 L1 : MI} {k t z : Int} (c : AptQ I L k t z I1 L1) : KT I I1 ∧ HL L L1 := by
  rcases c with ⟨-, -, rfl, rfl⟩ | ⟨-, -, -, rfl, rfl⟩ | ⟨-, -, c, -⟩
  · exact ⟨KT_r _, HL_r _⟩
  · exact ⟨KT_r _, HL_r _⟩
  · exact kt_tk c
theorem kt_heard {I L I1 L1 : MI} {k i z : Int} (c : HeaQ I L k i z I1 L1) : KT I I1 ∧ HL L L1 := by
  rcases c with ⟨-, -, rfl, rfl⟩ | ⟨-, -, -, rfl, rfl⟩ | ⟨-, -, c, -⟩
  · exact ⟨KT_r _, HL_r _⟩
  · exact ⟨KT_r _, HL_r _⟩
  · exact kt_hf c
theorem kt_plus {I L I1 L1 : MI} {n i z : Int} (c : PluQ I L n i z I1 L1) : KT I I1 ∧ HL L L1 := by
  rcases c with ⟨-, -, rfl, rfl⟩ | ⟨-, -, -, rfl, rfl⟩ | ⟨-, -, c, -⟩
  · exact ⟨KT_r _, HL_r _⟩
  · exact ⟨KT_r _, HL_r _⟩
  · exact kt_hf c
theorem kt_dealt {I L I1 L1 : MI} {r n m t z : Int} (c : DltQ I L r n m t z I1 L1) : KT I I1 := by
  rcases c with ⟨-, -, rfl, -⟩ | ⟨-, ⟨-, -, rfl, -⟩ | ⟨-, -, -, rfl, -⟩ | ⟨-, -, -, -, f, -⟩ | ⟨-, -, -, -, f, -⟩⟩
  · exact KT_r _
  · exact KT_s _ _
  · exact KT_s _ _
  · exact KT_n fun o ho k => f o (by omega) (by omega) k
  · exact KT_n fun o ho k => f o (by omega) (by omega) (by omega) (by omega) (by omega) k
theorem kt_signed {I L I1 L1 : MI} {k w z : Int} (c : SgdQ I L k w z I1 L1) : KT I I1 ∧ HL L L1 := by
  rcases c with ⟨-, -, rfl, rfl⟩ | ⟨-, -, -, rfl, rfl⟩ | ⟨-, -, c, -⟩
  · exact ⟨KT_r _, HL_r _⟩
  · exact ⟨KT_r _, HL_r _⟩
  · exact kt_tk c
theorem kt_same {I L I1 L1 : MI} {k z : Int} (c : SamQ I L k z I1 L1) : KT I I1 ∧ HL L L1 := by
  rcases c with ⟨-, -, rfl, rfl⟩ | ⟨-, -, -, rfl, rfl⟩ | ⟨-, -, c, -⟩
  · exact ⟨KT_r _, HL_r _⟩
  · exact ⟨KT_r _, HL_r _⟩
  · exact kt_tk c
theorem kt_kind {I L I1 L1 : MI} {k z : Int} (c : KndQ I L k z I1 L1) : KT I I1 ∧ HL L L1 := by
  rcases c with ⟨-, -, rfl, rfl⟩ | ⟨-, -, -, rfl, rfl⟩ | ⟨-, -, c, -⟩
  · exact ⟨KT_r _, HL_r _⟩
  · exact ⟨KT_r _, HL_r _⟩
  · exact kt_tk c
theorem kt_as {I L I1 L1 : MI} {k w z : Int} (c : AsQ I L k w z I1 L1) : KT I I1 ∧ HL L L1 := by
  rcases c with ⟨-, -, rfl, rfl⟩ | ⟨-, -, -, rfl, rfl⟩ | ⟨-, -, J, c, ⟨-, -, rfl⟩ | ⟨-, -, rfl⟩⟩
  · exact ⟨KT_r _, HL_r _⟩
  · exact ⟨KT_r _, HL_r _⟩
  · exact ⟨KT_t (kt_tk c).1 (KT_s _ _), (kt_tk c).2⟩
  · exact ⟨KT_t (kt_tk c).1 (KT_s _ _), (kt_tk c).2⟩
theorem KT_lt {I : MI} : ∀ (l : List Int) {J : MI}, KT I J → KT I (l.foldl ltI J) := by
  intro l
  induction l with
  | nil => exact fun h => h
  | cons a l ih =>
    intro J h
    refine ih (KT_t h (KT_n fun o ho k => ?_))
    unfold ltI
    split
    · rw [up2_ne (.inl (by omega)), up2_ne (.inl (by omega))]
    · rfl
theorem kt_ask {I L I1 L1 : MI} {k w z : Int} (c : AskQ I L k w z I1 L1) : KT I I1 ∧ HL L L1 := by
  rcases c with ⟨-, -, rfl, rfl⟩ | ⟨-, -, -, rfl, rfl⟩ | ⟨-, -, J, M, K, c, -, -, rfl, rfl⟩
  · exact ⟨KT_r _, HL_r _⟩
  · exact ⟨KT_r _, HL_r _⟩
  · refine ⟨KT_lt _ (KT_t (kt_tk c).1 (KT_n fun o ho k => ?_)), fun o ho k => ?_⟩
    · rw [up2_ne (.inl (by omega)), up2_ne (.inl (by omega)), up2_ne (.inl (by omega)), up2_ne (.inl (by omega))]
    · rw [up2_ne (.inl (by omega))]
      exact (kt_tk c).2 o ho k
/-- at the start both sides stand for the same -/
theorem Inv_0 : Inv (ML 8) Z0 := by
  have z : ∀ o, o ≠ 79 → ∀ k, ML 8 o k = 0 := fun o h k => by unfold ML; rw [if_neg (by omega)]
  have tb : ∀ u, u ≠ 79 → TB (ML 8) u := fun u h => by
    unfold TB
    rw [z u h, z u h, z u h]
    omega
  refine ⟨⟨⟨tb 15 (by decide), fun k k0 k1 => ?_, fun k k0 k1 => ?_, fun j k j0 j1 k1 => ?_, fun k k0 k1 => ?_⟩, .inl ⟨z _ (by decide) _, z _ (by decide) _, z _ (by decide) _, z _ (by decide) _, z _ (by decide) _, z _ (by decide) _, z _ (by decide) _⟩⟩, fun r r0 r1 => ⟨.inl ⟨z _ (by omega) _, ?_⟩, ?_, ?_, fun i i0 i1 => ?_⟩, ⟨?_, ?_, fun k k0 k1 => ?_⟩, fun k k0 k1 => ⟨rfl, Int.le_refl _, (by decide : (0 : Int) ≤ 1000000000000000)⟩, fun n n1 n2 => .inl (z _ (by decide) _), ?_, ?_, ⟨?_, ?_, fun j j0 j1 => ?_⟩, .inl ⟨z _ (by decide) _, z _ (by decide) _, tb _ (by decide)⟩, .inl ⟨z _ (by decide) _, z _ (by decide) _, tb _ (by decide)⟩⟩
  · rw [z _ (by decide)] at k1; omega
  · rw [z _ (by decide)] at k1; omega
  · rw [z _ (by decide)] at k1; omega
  · rw [z _ (by decide)] at k1; omega
  · unfold ML; rw [if_pos (by omega)]; decide
  · rw [z _ (by decide), z _ (by omega)]
  · rw [z _ (by decide)]; decide
  · rw [z _ (by decide), z _ (by omega)]
  · rw [z _ (by decide), z _ (by decide)]
  · rw [z _ (by decide)]; decide
  · rw [z _ (by decide)] at k1; omega
  · rw [z _ (by decide), z _ (by decide)]
  · rw [z _ (by decide), z _ (by decide)]
  · rw [z _ (by decide), z _ (by decide)]
  · rw [z _ (by decide)]; decide
  · rw [z _ (by decide)] at j1; omega
