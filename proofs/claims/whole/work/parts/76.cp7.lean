/-! ===== written words ===== -/
theorem wrA_same (A : Al) (k t n h s : Nat) : aT (wrA A k t n h s) = aT A ∧ aN (wrA A k t n h s) = aN A ∧ aX (wrA A k t n h s) = aX A ∧ aZ (wrA A k t n h s) = aZ A ∧ aO (wrA A k t n h s) = aO A ∧ aB (wrA A k t n h s) = aB A ∧ aE (wrA A k t n h s) = aE A := by
  unfold wrA
  split <;> exact ⟨rfl, rfl, rfl, rfl, rfl, rfl, rfl⟩
theorem RC.addW {L : La} {σ τ : Me} {b : Nat} {A : Al} {k t n h s : Nat} (hr : RC L σ b A) (hb : b < 260) (hw : RW τ b (addW A k t n h s)) (e : Wf b σ τ) : RC L τ b (addW A k t n h s) := RC.wf hr hb hw e rfl rfl rfl rfl rfl rfl rfl
theorem RC.wrA {L : La} {σ τ : Me} {b : Nat} {A : Al} {k t n h s : Nat} (hr : RC L σ b A) (hb : b < 260) (hw : RW τ b (wrA A k t n h s)) (e : Wf b σ τ) : RC L τ b (wrA A k t n h s) :=
  have q := wrA_same A k t n h s
  RC.wf hr hb hw e q.1 q.2.1 q.2.2.1 q.2.2.2.1 q.2.2.2.2.1 q.2.2.2.2.2.1 q.2.2.2.2.2.2
theorem or_0 (x : Int32) : x ||| nI 0 = x := by
  apply Int32.toBitVec_inj.mp
  rw [Int32.toBitVec_or, show (nI 0).toBitVec = 0#32 from rfl]
  simp
theorem and_1 (x : Int32) (h : ¬ x &&& nI 1 = nI 1) : x &&& nI 1 = 0 := by
  apply Int32.toBitVec_inj.mp
  have h : ¬ (x &&& nI 1).toBitVec = (nI 1).toBitVec := fun e => h (Int32.toBitVec_inj.mp e)
  rw [Int32.toBitVec_and, show (nI 1).toBitVec = 1#32 from rfl] at h
  rw [Int32.toBitVec_and, show (nI 1).toBitVec = 1#32 from rfl, show (0 : Int32).toBitVec = 0#32 from rfl]
  revert h
  generalize x.toBitVec = z
  intro h
  apply BitVec.eq_of_toNat_eq
  rw [BitVec.toNat_and]
  show z.toNat &&& 1 = 0
  rw [Nat.and_one_is_mod]
  have h2 : ¬ z.toNat % 2 = 1 := fun e => h (by
    apply BitVec.eq_of_toNat_eq
    rw [BitVec.toNat_and]
    show z.toNat &&& 1 = 1
    rw [Nat.and_one_is_mod]
    exact e)
  omega
theorem gok_1 {F : Nat → Int32} {s a : Nat} (h : ¬ (nI s >>> (nI a &&& 31)) &&& nI 1 = nI 1) : gokB F s a = true := by unfold gokB; rw [decide_eq_true (and_1 _ h)]; rfl
theorem gok_2 {F : Nat → Int32} {s a : Nat} (h : nI s &&& (F a ^^^ (-1)) = 0) : gokB F s a = true := by unfold gokB; rw [decide_eq_true (p := nI s &&& (F a ^^^ (-1)) = 0) h, Bool.or_true]
theorem gok_3 {F : Nat → Int32} {s a : Nat} (h1 : (nI s >>> (nI a &&& 31)) &&& nI 1 = nI 1) (h : ¬ nI s &&& (F a ^^^ (-1)) = 0) : gokB F s a = false := by
  unfold gokB
  rw [decide_eq_false (p := nI s &&& (F a ^^^ (-1)) = 0) h, decide_eq_false (p := (nI s >>> (nI a &&& 31)) &&& nI 1 = 0) (by rw [h1]; decide)]
  rfl
def GAt (L : La) : Prop := L.2.1 101 = some (0, 0) ∧ L.2.1 102 = some (10, 12) ∧ L.2.2 101 0 = some 102
