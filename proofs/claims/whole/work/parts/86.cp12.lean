/-! ===== the class's waiting numbers and slots ===== -/
def RWc (σ : Me) (Q : Wt) : Prop := σ 100 7 = nI Q.1 ∧ Q.1 ≤ 60 ∧ ∀ k, k < Q.1 → σ 109 k = Q.2 k
def pWc (c i : Nat) : Bool := decide (c = 109) || (decide (c = 100) && decide (i = 7))
theorem rwc_s {σ : Me} {Q : Wt} (h : RWc σ Q) {v : Int32} (hq : Q.1 < 60) : RWc (up (up σ 109 Q.1 v) 100 7 (nI (Q.1 + 1))) (Q.1 + 1, fun k => if k = Q.1 then v else Q.2 k) := by
  refine ⟨up_s, by show Q.1 + 1 ≤ 60; omega, fun k hk => ?_⟩
  have hk : k < Q.1 + 1 := hk
  show _ = (if k = Q.1 then v else Q.2 k)
  rw [up_n (by omega)]
  by_cases e : k = Q.1
  · rw [if_pos e, e, up_s]
  · rw [if_neg e, up_n (by omega)]; exact h.2.2 k (by omega)
theorem CAt.sl {L : La} (h : CAt L) {s : Nat} (hs : s < 5) : L.2.1 (120 + 3 * s) = some (4, 0) ∧ L.2.2 108 s = some (120 + 3 * s) := by
  rcases (show s = 0 ∨ s = 1 ∨ s = 2 ∨ s = 3 ∨ s = 4 by omega) with rfl | rfl | rfl | rfl | rfl
  · exact ⟨h.1 120 _ rfl, h.2.1 108 0 120 rfl⟩
  · exact ⟨h.1 123 _ rfl, h.2.1 108 1 123 rfl⟩
  · exact ⟨h.1 126 _ rfl, h.2.1 108 2 126 rfl⟩
  · exact ⟨h.1 129 _ rfl, h.2.1 108 3 129 rfl⟩
  · exact ⟨h.1 132 _ rfl, h.2.1 108 4 132 rfl⟩
def RSc (L : La) (σ : Me) (Q : Ls) : Prop := ∀ k, k < 5 → σ (120 + 3 * k) 0 = nI (Q.1 k) ∧ Q.1 k ≤ 3 ∧ (Q.1 k = 1 → ∃ a, a ≤ 5 ∧ Q.2.1 k = nI a ∧ 1 ≤ Q.2.2.1 k ∧ Q.2.2.1 k ≤ 5 ∧ σ (120 + 3 * k) 1 = nI a ∧ σ (120 + 3 * k) 2 = nI (sayN a (Q.2.2.1 k))) ∧ (Q.1 k = 2 → ∃ a, a ≤ 24 ∧ Q.2.1 k = nI a ∧ L.2.2 (120 + 3 * k) 4 = some (121 + 3 * k) ∧ SA L (121 + 3 * k) ∧ σ (121 + 3 * k) 1 = nI a ∧ ∀ i, i < 24 → σ (121 + 3 * k + 1) i = Q.2.2.2 k i) ∧ (Q.1 k = 3 → σ (120 + 3 * k) 3 = Q.2.1 k)
def pSc (c _i : Nat) : Bool := decide (120 ≤ c) && decide (c < 135)
theorem RSc.ex {L : La} {σ τ : Me} {Q : Ls} (h : RSc L σ Q) (e : ∀ c i, 120 ≤ c → c < 135 → τ c i = σ c i) : RSc L τ Q := fun k hk => by
  obtain ⟨h1, h2, h3, h4, h5⟩ := h k hk
  refine ⟨(e _ _ (by omega) (by omega)).trans h1, h2, fun q => ?_, fun q => ?_, fun q => (e _ _ (by omega) (by omega)).trans (h5 q)⟩
  · obtain ⟨a, ha, g1, g2, g3, g4, g5⟩ := h3 q
    exact ⟨a, ha, g1, g2, g3, (e _ _ (by omega) (by omega)).trans g4, (e _ _ (by omega) (by omega)).trans g5⟩
  · obtain ⟨a, ha, g1, g2, g3, g4, g5⟩ := h4 q
    exact ⟨a, ha, g1, g2, g3, (e _ _ (by omega) (by omega)).trans g4, fun i hi => (e _ _ (by omega) (by omega)).trans (g5 i hi)⟩
theorem rem_m1 (x : Int32) : rem x (-1) = nI 0 := by
  show x - x / (-1) * (-1) = nI 0
  rw [div_m1]
  have : -x * -1 = x := by grind
  rw [this]
  show x - x = nI 0
  rw [Int32.sub_self]
  rfl
theorem nt_is {Q : Ls} {q t : Nat} (h : inB (nI q) (nI 0) (nI 4) = true) (hq : q ≤ 4) : ntH Q (nI q) t = if Q.1 q = 0 then -1000000011 else if Q.1 q = t then nI 0 else -1000000012 := by
  rw [ntH, if_pos h, nI_clamp (by omega)]
theorem nt_b {Q : Ls} {s : Int32} {t : Nat} (h : inB s (nI 0) (nI 4) = false) : ntH Q s t = -1000000001 := by rw [ntH, if_neg (by rw [h]; decide)]
theorem ask_b {Q : Ls} {s k : Int32} (h : inB s (nI 0) (nI 4) = false) : oAsk Q s k = -1000000001 := by
  rw [oAsk, nt_b h, if_neg (show ¬ (-1000000001 : Int32) = nI 0 by decide)]
  split <;> rfl
theorem item_b {Q : Ls} {s p : Int32} (h : inB s (nI 0) (nI 4) = false) : oItem Q s p = -1000000001 := by rw [oItem, nt_b h, if_neg (by decide)]
theorem rest_b {Q : Ls} {s n : Int32} (h : inB s (nI 0) (nI 4) = false) : oRest Q s n = -1000000001 := by rw [oRest, nt_b h, if_neg (by decide)]
theorem rem_if (x n : Int32) : rem x n = if n = -1 then nI 0 else rem x n := by
  by_cases h : n = -1
  · rw [if_pos h, h, rem_m1]
  · rw [if_neg h]
