/-! ===== the class's reader: words and signs ===== -/
def srtN (c : Nat) : Nat := match c with | 0 => 0 | 1 => 2 | 2 => 3 | _ => 1
def nxN (q : Lx) : Nat := if wwB q = true ∧ q.2.2.2 = true then 4 else srtN q.2.1
def RLc (σ : Me) (q : Lx) : Prop := σ 105 6 = nI (nxN q) ∧ σ 105 7 = nI q.1 ∧ σ 105 8 = nI q.2.2.1
def pXc (c i : Nat) : Bool := decide (c = 105) && decide (6 ≤ i) && decide (i ≤ 8)
theorem sb_lt : ∀ {v : Nat}, v < 128 → sb v = nI v := fun {v} h => by
  revert h
  revert v
  unfold sb
  decide +kernel
theorem sb_neg : ∀ v, v < 256 → 128 ≤ v → sb v < 0 := by
  unfold sb
  decide +kernel
theorem sb_eq {v c : Nat} (hv : v < 256) (hc : c < 128) : sb v = nI c ↔ v = c := by
  rcases Nat.lt_or_ge v 128 with h | h
  · rw [sb_lt h]; exact nI_eq (by omega) (by omega)
  · constructor
    · intro e
      have := sb_neg v hv h
      rw [e] at this
      exact absurd this (nI_pos (by omega))
    · intro e; omega
theorem RTc.xc {σ τ : Me} {P : Tp} (h : RTc σ P) (e : Ex pXc σ τ) : RTc τ P := h.ex (fun c i hc => e c i (by unfold pXc; simp; omega))
theorem srt_le (c : Nat) : srtN c ≤ 3 := by unfold srtN; split <;> decide
theorem srt_inj {a b : Nat} (ha : a ≤ 3) (hb : b ≤ 3) (h : srtN a = srtN b) : a = b := by
  rcases (show a = 0 ∨ a = 1 ∨ a = 2 ∨ a = 3 by omega) with rfl | rfl | rfl | rfl <;> rcases (show b = 0 ∨ b = 1 ∨ b = 2 ∨ b = 3 by omega) with rfl | rfl | rfl | rfl <;> first | rfl | (exact absurd h (by decide))
theorem cl_let {P : Tp} {p : Nat} (hp : p < P.1) (h1 : 97 ≤ P.2 p) (h2 : P.2 p ≤ 122) : cl P p = 1 := by unfold cl clN; rw [if_pos hp, if_pos ⟨h1, h2⟩]
theorem cl_dig {P : Tp} {p : Nat} (hp : p < P.1) (h1 : 48 ≤ P.2 p) (h2 : P.2 p ≤ 57) : cl P p = 2 := by unfold cl clN; rw [if_pos hp, if_neg (by omega), if_pos ⟨h1, h2⟩]
theorem cl_mrk {P : Tp} {p : Nat} (hp : p < P.1) (h1 : ¬ (97 ≤ P.2 p ∧ P.2 p ≤ 122)) (h2 : ¬ (48 ≤ P.2 p ∧ P.2 p ≤ 57)) : cl P p = 3 := by unfold cl clN; rw [if_pos hp, if_neg h1, if_neg h2]
theorem cl_end {P : Tp} {p : Nat} (hp : ¬ p < P.1) : cl P p = 0 := by unfold cl; rw [if_neg hp]
