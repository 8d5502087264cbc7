/-! ===== sheets ===== -/
/-- of each sheet: none, or whether it is of the second sort; its size; its places -/
abbrev Bs : Type := (Nat → Option Bool) × (Nat → Nat) × (Nat → Nat → Int32)
def srI (o : Option Bool) : Int32 := match o with
  | none => -1
  | some b => bI b
def RB (σ : Me) (B : Bs) : Prop := ∀ k, k < 4 → σ 12 k = srI (B.1 k) ∧ σ 13 k = nI (B.2.1 k) ∧ B.2.1 k ≤ 24 ∧ ∀ i, i < 24 → σ 14 (24 * k + i) = B.2.2 k i
def setS (B : Bs) (k : Nat) (o : Option Bool) (n : Nat) : Bs := (fun j => if j = k then o else B.1 j, fun j => if j = k then n else B.2.1 j, fun j i => if j = k then nI 0 else B.2.2 j i)
def pB (c _i : Nat) : Bool := decide (c = 12) || decide (c = 13) || decide (c = 14)
def srO (s : Int32) : Option Bool := if s < 0 then none else some (decide (s = nI 1))
def oSheet (B : Bs) (k s n : Int32) : Int32 × Bs :=
  if inB k (nI 0) (nI 3) = true ∧ inB s (-1) (nI 1) = true ∧ ¬ (¬ s < 0 ∧ nI 24 < n) then (if ¬ s < 0 ∧ n < 0 then (-1000000014, B) else (if s < 0 then nI 0 else n, setS B k.toNatClampNeg (srO s) (if s < 0 then 0 else n.toNatClampNeg)))
  else (-1000000001, B)
theorem in_s {s : Int32} (h : inB s (-1) (nI 1) = true) : s = -1 ∨ s = nI 0 ∨ s = nI 1 := by
  unfold inB at h
  simp at h
  obtain ⟨h1, h2⟩ := h
  have h1 := Int32.le_iff_toInt_le.mp h1
  have h2 := Int32.le_iff_toInt_le.mp h2
  rw [show (-1 : Int32).toInt = -1 by decide] at h1
  rw [show (nI 1).toInt = 1 by decide] at h2
  rcases (show s.toInt = -1 ∨ s.toInt = 0 ∨ s.toInt = 1 by omega) with e | e | e
  · exact Or.inl (Int32.toInt_inj.mp (by rw [e]; decide))
  · exact Or.inr (Or.inl (Int32.toInt_inj.mp (by rw [e]; decide)))
  · exact Or.inr (Or.inr (Int32.toInt_inj.mp (by rw [e]; decide)))
theorem n24 {n : Int32} (h0 : ¬ n < 0) (h : ¬ nI 24 < n) : ∃ m, m ≤ 24 ∧ n = nI m := by
  obtain ⟨m, hm, rfl⟩ := nI_of h0
  refine ⟨m, ?_, rfl⟩
  rcases Nat.lt_or_ge 24 m with q | q
  · exact absurd (nI_lt q hm) h
  · exact q
/-- a sheet is laid anew -/
theorem rb_set {σ τ : Me} {B : Bs} (h : RB σ B) {k n : Nat} {o : Option Bool} (hk : k < 4) (hn : n ≤ 24) (e12 : τ 12 k = srI o) (e13 : τ 13 k = nI n) (e14 : ∀ i, i < 24 → τ 14 (24 * k + i) = nI 0) (f12 : ∀ j, j ≠ k → τ 12 j = σ 12 j) (f13 : ∀ j, j ≠ k → τ 13 j = σ 13 j) (f14 : ∀ j, j < 24 * k ∨ 24 * k + 24 ≤ j → τ 14 j = σ 14 j) : RB τ (setS B k o n) := by
  intro j hj
  show τ 12 j = srI (if j = k then o else B.1 j) ∧ τ 13 j = nI (if j = k then n else B.2.1 j) ∧ (if j = k then n else B.2.1 j) ≤ 24 ∧ ∀ i, i < 24 → τ 14 (24 * j + i) = (if j = k then nI 0 else B.2.2 j i)
  by_cases q : j = k
  · subst q
    simp only [if_true]
    exact ⟨e12, e13, hn, e14⟩
  · simp only [q, if_false]
    obtain ⟨g1, g2, g3, g4⟩ := h j hj
    exact ⟨(f12 j q).trans g1, (f13 j q).trans g2, g3, fun i hi => (f14 _ (by omega)).trans (g4 i hi)⟩
def mkS (B : Bs) (k p : Nat) (v : Int32) : Bs := (B.1, B.2.1, fun j i => if j = k ∧ i = p then v else B.2.2 j i)
def oMark (B : Bs) (k p v : Int32) : Int32 × Bs :=
  if inB k (nI 0) (nI 3) = true then (match B.1 k.toNatClampNeg with
    | none => (-1000000011, B)
    | some b => if isB p (B.2.1 k.toNatClampNeg) = true then (if b = false ∧ v = -1000000005 then (-1000000012, B) else if b = true ∧ v ≠ -1000000005 ∧ inB v (-99999) 99999 = false then (-1000000001, B) else (nI 1, mkS B k.toNatClampNeg p.toNatClampNeg (if b = true then v else v.toInt16.toInt32))) else (-1000000013, B))
  else (-1000000001, B)
theorem rb_mark {σ : Me} {B : Bs} (h : RB σ B) {k p : Nat} {v : Int32} (hk : k < 4) (hp : p < 24) : RB (up σ 14 (24 * k + p) v) (mkS B k p v) := by
  intro j hj
  obtain ⟨g1, g2, g3, g4⟩ := h j hj
  refine ⟨(up_n (by omega)).trans g1, (up_n (by omega)).trans g2, g3, fun i hi => ?_⟩
  show _ = (if j = k ∧ i = p then v else B.2.2 j i)
  by_cases q : j = k ∧ i = p
  · rw [if_pos q, q.1, q.2, up_s]
  · rw [if_neg q, up_n (by omega)]; exact g4 i hi
