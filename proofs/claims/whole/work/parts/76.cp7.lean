/-! ===== written words ===== -/
theorem wrA_same (A : Al) (k t n h s : Nat) : aT (wrA A k t n h s) = aT A ∧ aN (wrA A k t n h s) = aN A ∧ aX (wrA A k t n h s) = aX A ∧ aZ (wrA A k t n h s) = aZ A ∧ aO (wrA A k t n h s) = aO A ∧ aB (wrA A k t n h s) = aB A ∧ aE (wrA A k t n h s) = aE A := by
  unfold wrA
  split <;> exact ⟨rfl, rfl, rfl, rfl, rfl, rfl, rfl⟩
theorem RC.addW {L : La} {σ τ : Me} {b : Nat} {A : Al} {k t n h s : Nat} (hr : RC L σ b A) (hb : b < 260) (hw : RW τ b (addW A k t n h s)) (e : Wf b σ τ) : RC L τ b (addW A k t n h s) := RC.wf hr hb hw e rfl rfl rfl rfl rfl rfl rfl
theorem RC.wrA {L : La} {σ τ : Me} {b : Nat} {A : Al} {k t n h s : Nat} (hr : RC L σ b A) (hb : b < 260) (hw : RW τ b (wrA A k t n h s)) (e : Wf b σ τ) : RC L τ b (wrA A k t n h s) :=
  have q := wrA_same A k t n h s
  RC.wf hr hb hw e q.1 q.2.1 q.2.2.1 q.2.2.2.1 q.2.2.2.2.1 q.2.2.2.2.2.1 q.2.2.2.2.2.2
