/-! ===== a piece of a sheet is laid into another ===== -/
def cpS (B : Bs) (f p t a m : Nat) : Bs := (B.1, B.2.1, fun j i => if j = t ∧ a ≤ i ∧ i < a + m then B.2.2 f (p + (i - a)) else B.2.2 j i)
def cpI (B : Bs) (f t : Nat) (p a m : Int32) : Prop := ¬ m < 0 ∧ ¬ p < 0 ∧ ¬ a < 0 ∧ p ≤ nI (B.2.1 f) - m ∧ a ≤ nI (B.2.1 t) - m
theorem cp_nat {p m : Int32} {sz : Nat} (hs : sz ≤ 24) (hm : ¬ m < 0) (hp : ¬ p < 0) (h : p ≤ nI sz - m) : ∃ u v, p = nI u ∧ m = nI v ∧ u + v ≤ sz := by
  obtain ⟨v, hv, rfl⟩ := nI_of hm
  obtain ⟨u, hu, rfl⟩ := nI_of hp
  refine ⟨u, v, rfl, rfl, ?_⟩
  have h := Int32.le_iff_toInt_le.mp h
  rw [Int32.toInt_sub, nI_toInt hu, nI_toInt hv, nI_toInt (by omega), Int.bmod_eq_of_le (by omega) (by omega)] at h
  omega
theorem rb_copy {σ τ : Me} {B : Bs} (h : RB σ B) {f p t a m : Nat} (hm : a + m ≤ 24) (e12 : ∀ j, τ 12 j = σ 12 j) (e13 : ∀ j, τ 13 j = σ 13 j) (e14 : ∀ i, i < m → τ 14 (24 * t + a + i) = B.2.2 f (p + i)) (f14 : ∀ j, j < 24 * t + a ∨ 24 * t + a + m ≤ j → τ 14 j = σ 14 j) : RB τ (cpS B f p t a m) := by
  intro j hj
  obtain ⟨g1, g2, g3, g4⟩ := h j hj
  refine ⟨(e12 j).trans g1, (e13 j).trans g2, g3, fun i hi => ?_⟩
  show _ = (if j = t ∧ a ≤ i ∧ i < a + m then B.2.2 f (p + (i - a)) else B.2.2 j i)
  by_cases q : j = t ∧ a ≤ i ∧ i < a + m
  · rw [if_pos q, ← e14 (i - a) (by omega), q.1, show 24 * t + a + (i - a) = 24 * t + i by omega]
  · rw [if_neg q, f14 _ (by omega)]; exact g4 i hi
