/-! ===== a text, read whole ===== -/
def txt3 : Nat → List Nat
  | 0 => [119, 101, 105, 103, 104]
  | 1 => [115, 105, 103, 110]
  | _ => [115, 104, 111, 119]
def kyO (P : Tp) (q : Lx) : Option Nat := if kyB P q (txt3 0) = true then some 0 else if kyB P q (txt3 1) = true then some 1 else if kyB P q (txt3 2) = true then some 2 else none
abbrev Rd : Type := Nat ⊕ (Nat × List Nat × Nat)
def rdE (key : Nat) (r : Rs) : Rd := match r with
  | .inl f => .inl f
  | .inr p => if mkN p.1 = 0 then .inr (key, p.2.1, p.2.2) else .inl p.1.1
def rdT (P : Tp) : Rd := match kyO P (nx P 0 false) with
  | none => .inl (nx P 0 false).1
  | some key => rdE key (prs P key 70 0 0 0 (nxq P (nx P 0 false)))
def RQ (σ : Me) (r : Rd) : Prop := match r with
  | .inl f => σ 0 26 = nI 1 ∧ σ 0 27 = nI f
  | .inr p => σ 0 26 = nI 0 ∧ σ 0 30 = nI p.1 ∧ σ 0 31 = nI p.2.1.length ∧ σ 0 32 = nI p.2.2 ∧ ∀ k, k < p.2.1.length → σ 10 k = nI (p.2.1.getD k 0)
/-- the three words that the reference knows, by their places -/
def MS (D : Ds) (K : Nat → Nat × Nat) : Prop := (∀ i, i < 3 → SD D (txt3 i) (K i).1 (K i).2) ∧ ∀ s, D.2.2.2.2 s → vk_R RX10 328 "weigh" (K 0).1 s ∧ vk_R RX10 334 "sign" (K 1).1 s ∧ vk_R RX10 335 "show" (K 2).1 s
theorem PS.start {σ : Me} {P : Tp} {q : Lx} (hT : RT σ P) (hl : RLx σ P q) (h26 : σ 0 26 = nI 0) (h28 : σ 0 28 = nI 0) (h29 : σ 0 29 = nI 0) (h31 : σ 0 31 = nI 0) (h32 : σ 0 32 = nI 0) (key : Nat) : PS (up σ 0 30 (nI key)) P key 0 0 q [] 0 :=
  ⟨hT.other (by omega) (by omega), hl.other (by omega), (up_n (by omega)).trans h26, (up_n (by omega)).trans h28, (up_n (by omega)).trans h29, up_s, (up_n (by omega)).trans h31, (up_n (by omega)).trans h32, fun k hk => absurd hk (Nat.not_lt_zero k)⟩
theorem lok_first (P : Tp) : Lok P (nx P 0 false) := by
  obtain ⟨h1, h2, h3, h4, h5⟩ := lx_ok P (Nat.zero_le P.1) false
  exact ⟨h1, h3, h4, h5⟩
theorem rdE_y {key : Nat} {q : Lx} {c : List Nat} {n : Nat} (h : mkN q = 0) : rdE key (.inr (q, c, n)) = .inr (key, c, n) := if_pos h
theorem rdE_n {key : Nat} {q : Lx} {c : List Nat} {n : Nat} (h : ¬ mkN q = 0) : rdE key (.inr (q, c, n)) = .inl q.1 := if_neg h
theorem rdT_k {P : Tp} {key : Nat} (h : kyO P (nx P 0 false) = some key) : rdT P = rdE key (prs P key 70 0 0 0 (nxq P (nx P 0 false))) := by unfold rdT; rw [h]
theorem rdT_0 {P : Tp} (h : kyO P (nx P 0 false) = none) : rdT P = .inl (nx P 0 false).1 := by unfold rdT; rw [h]
theorem PS.rq {σ : Me} {P : Tp} {key o nt n : Nat} {q : Lx} {C : List Nat} (h : PS σ P key o nt q C n) {c : List Nat} {m : Nat} (e : C = c) (e2 : n = m) : RQ σ (.inr (key, c, m)) := by
  rw [← e, ← e2]
  exact ⟨h.2.2.1, h.2.2.2.2.2.1, h.2.2.2.2.2.2.1, h.2.2.2.2.2.2.2.1, h.2.2.2.2.2.2.2.2⟩
