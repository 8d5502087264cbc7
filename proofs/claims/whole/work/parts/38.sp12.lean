/-! ===== the first word ===== -/
def kyL (P : Tp) (s : Nat) (tx : List Nat) : Nat → Bool
  | 0 => true
  | k + 1 => kyL P s tx k && decide (P.2 (s + k) = tx.getD k 0)
def kyB (P : Tp) (q : Lx) (tx : List Nat) : Bool := decide (mkN q = 1) && decide (szN q = tx.length) && kyL P q.1 tx (szN q)
theorem kyL_no {P : Tp} {s k : Nat} {tx : List Nat} (h : kyL P s tx k = false) : ∀ n, k ≤ n → kyL P s tx n = false := by
  intro n
  induction n with
  | zero => intro hn; rw [show k = 0 by omega] at h; exact h
  | succ n ih =>
    intro hn
    by_cases e : k = n + 1
    · rw [← e]; exact h
    · rw [kyL, ih (by omega)]; rfl
theorem sz_in {P : Tp} {q : Lx} (h : Lok P q) : q.1 + szN q ≤ P.1 := by
  have h1 := h.2.1
  have h2 := h.2.2.1
  unfold szN
  split <;> omega
