/-! ===== slots ===== -/
abbrev Ls : Type := (Nat → Nat) × (Nat → Int32) × (Nat → Nat) × (Nat → Nat → Int32)
def RSl (σ : Me) (Q : Ls) : Prop := ∀ k, k < 5 → σ 16 k = nI (Q.1 k) ∧ Q.1 k ≤ 3 ∧ σ 17 k = Q.2.1 k ∧ σ 18 k = nI (Q.2.2.1 k) ∧ (∀ i, i < 24 → σ 19 (24 * k + i) = Q.2.2.2 k i) ∧ (Q.1 k = 1 → ∃ a, a ≤ 5 ∧ Q.2.1 k = nI a ∧ 1 ≤ Q.2.2.1 k ∧ Q.2.2.1 k ≤ 5) ∧ (Q.1 k = 2 → ∃ a, a ≤ 24 ∧ Q.2.1 k = nI a)
def ntH (Q : Ls) (s : Int32) (t : Nat) : Int32 := if inB s (nI 0) (nI 4) = true then (if Q.1 s.toNatClampNeg = 0 then -1000000011 else if Q.1 s.toNatClampNeg = t then nI 0 else -1000000012) else -1000000001
theorem ntH_0 {Q : Ls} {s : Int32} {t : Nat} (h : ntH Q s t = nI 0) : ∃ k, k < 5 ∧ s = nI k ∧ Q.1 k = t := by
  unfold ntH at h
  split at h
  · rename_i h1
    obtain ⟨k, -, hk, rfl⟩ := inB_nat h1 (by decide) (by decide)
    rw [nI_clamp (by omega)] at h
    split at h
    · exact absurd h (by decide)
    · split at h
      · rename_i h3; exact ⟨k, by omega, rfl, h3⟩
      · exact absurd h (by decide)
  · exact absurd h (by decide)
def oRest (Q : Ls) (s n : Int32) : Int32 := if ntH Q s 3 = nI 0 then (if n = nI 0 then -1000000002 else if n = -1 then nI 0 else rem (Q.2.1 s.toNatClampNeg) n) else ntH Q s 3
def oItem (Q : Ls) (s p : Int32) : Int32 := if ntH Q s 2 = nI 0 then (if isB p (Q.2.1 s.toNatClampNeg).toNatClampNeg = true then (if Q.2.2.2 s.toNatClampNeg p.toNatClampNeg = -1000000005 then -1000000012 else Q.2.2.2 s.toNatClampNeg p.toNatClampNeg) else -1000000013) else ntH Q s 2
def oAsk (Q : Ls) (s k : Int32) : Int32 := if inB k (nI 0) (nI 5) = true then (if ntH Q s 1 = nI 0 then (if undB (Q.2.1 s.toNatClampNeg).toNatClampNeg k.toNatClampNeg = true then nI (sayN (Q.2.1 s.toNatClampNeg).toNatClampNeg (Q.2.2.1 s.toNatClampNeg)) else -1000000012) else ntH Q s 1) else -1000000001
