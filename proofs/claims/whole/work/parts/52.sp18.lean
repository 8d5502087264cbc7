/-! ===== how many from the begin on ===== -/
def pfx (f : Nat → Bool) : Nat → Nat
  | 0 => 0
  | m + 1 => if pfx f m = m ∧ f m = true then m + 1 else pfx f m
theorem pfx_le (f : Nat → Bool) : ∀ m, pfx f m ≤ m
  | 0 => Nat.le_refl 0
  | m + 1 => by
    have h := pfx_le f m
    unfold pfx
    split <;> omega
theorem pfx_s {f : Nat → Bool} {k : Nat} (h : pfx f k = k) (hf : f k = true) : pfx f (k + 1) = k + 1 := by rw [pfx, if_pos ⟨h, hf⟩]
theorem pfx_no {f : Nat → Bool} {k : Nat} (h : pfx f k = k) (hf : f k = false) : ∀ n, k ≤ n → pfx f n = k := by
  intro n
  induction n with
  | zero => intro hn; rw [show k = 0 by omega]; rfl
  | succ n ih =>
    intro hn
    by_cases e : k = n + 1
    · rw [← e]; exact h
    · have hi := ih (by omega)
      rw [pfx, if_neg (fun z => by
        obtain ⟨z1, z2⟩ := z
        rw [hi] at z1
        rw [← z1, hf] at z2
        cases z2), hi]
def tdN (B : Bs) (q : Nat) : Nat := pfx (fun i => atB (B.2.2 q i)) (B.2.1 q)
