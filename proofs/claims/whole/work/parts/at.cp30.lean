/-! ===== the law: what each kind of call leaves ===== -/
theorem IC.cs {L : La} {σ τ : Me} {s : Sx} {N : Nat} (h : IC L σ s N) (e : Cs σ τ) : IC L τ s N ∧ Lo L σ L τ :=
  ⟨h.up (A := s.1) (P := s.2.2.1) (B := s.2.2.2.1) (W := s.2.2.2.2.1) (fun c i _ _ => e c i (by unfold sc; omega)) (fun c i _ _ _ _ => e c i (by unfold sc; omega)) (fun c i _ _ => e c i (by unfold sc; omega)) (Or.inl ⟨rfl, fun c i _ _ _ _ => e c i (by unfold sc; omega)⟩) (Or.inl ⟨rfl, fun c i hc => e c i (by unfold sc; omega)⟩) (Or.inl ⟨rfl, fun c i _ _ => e c i (by unfold sc; omega)⟩) (Or.inl ⟨rfl, e _ _ (by unfold sc; omega), fun i => e _ _ (by unfold sc; omega)⟩), Lo.m (fun d i hd => e d i (by unfold sc; omega))⟩
theorem IC.cb {L : La} {σ τ : Me} {s : Sx} {N : Nat} (h : IC L σ s N) {A : Al} (hR : RC L τ 200 A) (hV : Va A) (e : Cb 200 σ τ) : IC L τ (A, s.2) N ∧ Lo L σ L τ :=
  ⟨h.up (A := A) (P := s.2.2.1) (B := s.2.2.2.1) (W := s.2.2.2.2.1) (fun c i _ _ => e c i (by unfold sc; omega) (by omega)) (fun c i _ _ _ _ => e c i (by unfold sc; omega) (by omega)) (fun c i _ _ => e c i (by unfold sc; omega) (by omega)) (Or.inr ⟨hR, hV⟩) (Or.inl ⟨rfl, fun c i hc => e c i (by unfold sc; omega) (by omega)⟩) (Or.inl ⟨rfl, fun c i _ _ => e c i (by unfold sc; omega) (by omega)⟩) (Or.inl ⟨rfl, e _ _ (by unfold sc; omega) (by omega), fun i => e _ _ (by unfold sc; omega) (by omega)⟩), Lo.m (fun d i hd => e d i (by unfold sc; omega) (by omega))⟩
theorem IC.tp {L : La} {σ τ : Me} {s : Sx} {N : Nat} (h : IC L σ s N) {P : Tp} (hR : RTc τ P) (e : Ex pTc σ τ) : IC L τ (s.1, s.2.1, P, s.2.2.2) N ∧ Lo L σ L τ := by
  have e : ∀ c i, c ≠ 103 → c ≠ 104 → τ c i = σ c i := fun c i h1 h2 => e c i (by unfold pTc; simp; omega)
  exact ⟨h.up (A := s.1) (P := P) (B := s.2.2.2.1) (W := s.2.2.2.2.1) (fun c i _ _ => e c i (by omega) (by omega)) (fun c i _ _ _ _ => e c i (by omega) (by omega)) (fun c i _ _ => e c i (by omega) (by omega)) (Or.inl ⟨rfl, fun c i _ _ _ _ => e c i (by omega) (by omega)⟩) (Or.inr hR) (Or.inl ⟨rfl, fun c i _ _ => e c i (by omega) (by omega)⟩) (Or.inl ⟨rfl, e _ _ (by omega) (by omega), fun i => e _ _ (by omega) (by omega)⟩), Lo.m (fun d i hd => e d i (by omega) (by omega))⟩
theorem IC.sh {L : La} {σ τ : Me} {s : Sx} {N : Nat} (h : IC L σ s N) {B : Bs} (hR : RBc τ B) (e : Ex pBc σ τ) : IC L τ (s.1, s.2.1, s.2.2.1, B, s.2.2.2.2) N ∧ Lo L σ L τ := by
  have e : ∀ c i, c < 110 ∨ 118 ≤ c → τ c i = σ c i := fun c i h1 => e c i (by unfold pBc; simp; omega)
  exact ⟨h.up (A := s.1) (P := s.2.2.1) (B := B) (W := s.2.2.2.2.1) (fun c i _ _ => e c i (by omega)) (fun c i _ _ _ _ => e c i (by omega)) (fun c i _ _ => e c i (by omega)) (Or.inl ⟨rfl, fun c i _ _ _ _ => e c i (by omega)⟩) (Or.inl ⟨rfl, fun c i hc => e c i (by omega)⟩) (Or.inr hR) (Or.inl ⟨rfl, e _ _ (by omega), fun i => e _ _ (by omega)⟩), Lo.m (fun d i hd => e d i (by omega))⟩
theorem IC.wt {L : La} {σ τ : Me} {s : Sx} {N : Nat} (h : IC L σ s N) {W : Wt} (hR : RWc τ W) (e : Ex pWc σ τ) : IC L τ (s.1, s.2.1, s.2.2.1, s.2.2.2.1, W, s.2.2.2.2.2) N ∧ Lo L σ L τ := by
  have e : ∀ c i, c ≠ 109 → c ≠ 100 → τ c i = σ c i := fun c i h1 h2 => e c i (by unfold pWc; simp; omega)
  exact ⟨h.up (A := s.1) (P := s.2.2.1) (B := s.2.2.2.1) (W := W) (fun c i _ _ => e c i (by omega) (by omega)) (fun c i _ _ _ _ => e c i (by omega) (by omega)) (fun c i _ _ => e c i (by omega) (by omega)) (Or.inl ⟨rfl, fun c i _ _ _ _ => e c i (by omega) (by omega)⟩) (Or.inl ⟨rfl, fun c i hc => e c i (by omega) (by omega)⟩) (Or.inl ⟨rfl, fun c i _ _ => e c i (by omega) (by omega)⟩) (Or.inr hR), Lo.m (fun d i hd => e d i (by omega) (by omega))⟩
/-! layouts -/
theorem LT.gen {L L2 : La} {b : Nat} {p : Nat → Prop} (h : LT L b) (x : LX p L L2) (hp : ∀ d, p d → L.2.1 d ≠ some (6, 0)) (h5 : ¬ p (b + 5)) : LT L2 b := h.lx x (fun d e z => hp d z e) (fun j _ => (x _ h5).2.2 j)
theorem RC.gen {L L2 : La} {σ τ : Me} {b : Nat} {A : Al} {p : Nat → Prop} (h : RC L σ b A) (x : LX p L L2) (hp : ∀ d, 1000 ≤ d → ¬ p d) (h5 : ¬ p (b + 5)) (e : ∀ c i, b ≤ c → c ≤ b + 13 → c ≠ b + 7 → c ≠ b + 8 → τ c i = σ c i) (e2 : ∀ c i, 1000 ≤ c → c % 3 ≠ 0 → τ c i = σ c i) : RC L2 τ b A :=
  have q := h.mem e e2
  ⟨q.1, q.2.1, q.2.2.lx x (fun d _ h1 _ => hp d h1) (fun j _ => (x _ h5).2.2 j)⟩
theorem RAt.no6 {L : La} {b d : Nat} (h : RAt L b) (hd : pRm b d) : L.2.1 d ≠ some (6, 0) := by
  unfold pRm at hd
  obtain ⟨i, rfl⟩ := Nat.exists_eq_add_of_le hd.1
  rcases (show i = 0 ∨ i = 1 ∨ i = 2 ∨ i = 3 ∨ i = 4 ∨ i = 5 ∨ i = 6 ∨ i = 7 ∨ i = 8 ∨ i = 9 ∨ i = 10 ∨ i = 11 ∨ i = 12 ∨ i = 13 by omega) with rfl | rfl | rfl | rfl | rfl | rfl | rfl | rfl | rfl | rfl | rfl | rfl | rfl | rfl <;> (rw [h.1 _ _ rfl]; decide)
theorem fr_no6 {L : La} {b d : Nat} (h : ∀ i, i < 14 → L.2.1 (b + i) = none) (hd : pRm b d) : L.2.1 d ≠ some (6, 0) := by
  unfold pRm at hd
  obtain ⟨i, rfl⟩ := Nat.exists_eq_add_of_le hd.1
  rw [h i (by omega)]
  decide
theorem Im.no6 {L : La} {σ : Me} {K : Option Al} {d : Nat} (h : Im L σ K) (hd : pRm 220 d) : L.2.1 d ≠ some (6, 0) := by
  cases K with
  | none => exact fr_no6 h.2 hd
  | some B => exact h.2.1.no6 hd
theorem TrC.no6 {L : La} {d : Nat} (h : TrC L) (hd : pRm 240 d) : L.2.1 d ≠ some (6, 0) := by
  rcases h with h | h
  · exact fr_no6 h.2 hd
  · exact h.2.no6 hd
theorem SlC.no6 {L : La} {d : Nat} (hA : CAt L) (h : SlC L) (hd : 120 ≤ d ∧ d < 135) : L.2.1 d ≠ some (6, 0) := by
  obtain ⟨k, r, rfl, hr, hk⟩ : ∃ k r, d = 120 + 3 * k + r ∧ r < 3 ∧ k < 5 := ⟨(d - 120) / 3, (d - 120) % 3, by omega, by omega, by omega⟩
  rcases (show r = 0 ∨ r = 1 ∨ r = 2 by omega) with rfl | rfl | rfl
  · rw [Nat.add_zero, (hA.sl hk).1]; decide
  · rcases h k hk with z | z
    · rw [z.2.1]; decide
    · rw [z.2.1]; decide
  · rcases h k hk with z | z
    · rw [show 120 + 3 * k + 2 = 120 + 3 * k + 1 + 1 by omega, z.2.2]; decide
    · rw [show 120 + 3 * k + 2 = 120 + 3 * k + 1 + 1 by omega, z.2.2.1]; decide
theorem RAt.gen {L L2 : La} {b : Nat} {p : Nat → Prop} (h : RAt L b) (x : LX p L L2) (hp : ∀ d, pRm b d → ¬ p d) : RAt L2 b := h.lx x (fun i hi _ => hp _ ⟨by omega, by omega⟩) (x _ (hp _ ⟨by omega, by omega⟩)).2.1
theorem TrC.gen {L L2 : La} {p : Nat → Prop} (h : TrC L) (x : LX p L L2) (hp : ∀ d, pRm 240 d → ¬ p d) (h9 : L2.2.2 100 9 = L.2.2 100 9) : TrC L2 := by
  rcases h with h | h
  · exact Or.inl ⟨h9.trans h.1, fun i hi => (x _ (hp _ ⟨by omega, by omega⟩)).2.1.trans (h.2 i hi)⟩
  · exact Or.inr ⟨h9.trans h.1, h.2.gen x hp⟩
theorem SlC.gen {L L2 : La} {p : Nat → Prop} (h : SlC L) (x : LX p L L2) (hp : ∀ d, 120 ≤ d → d < 135 → ¬ p d) : SlC L2 := fun k hk => (h k hk).lx x (hp _ (by omega) (by omega)) (hp _ (by omega) (by omega)) (hp _ (by omega) (by omega))
theorem Im.gen {L L2 : La} {σ τ : Me} {K : Option Al} {p : Nat → Prop} (h : Im L σ K) (x : LX p L L2) (hp : ∀ d, pRm 220 d ∨ 1000 ≤ d → ¬ p d) (h6 : ∀ d, p d → L.2.1 d ≠ some (6, 0)) (h8 : L2.2.2 100 8 = L.2.2 100 8) (e : ∀ c i, 220 ≤ c → c ≤ 233 → c ≠ 227 → c ≠ 228 → τ c i = σ c i) (e2 : ∀ c i, 1000 ≤ c → c % 3 ≠ 0 → τ c i = σ c i) : Im L2 τ K := by
  cases K with
  | none => exact ⟨h8.trans h.1, fun i hi => (x _ (hp _ (Or.inl ⟨by omega, by omega⟩))).2.1.trans (h.2 i hi)⟩
  | some B => exact ⟨h8.trans h.1, h.2.1.gen x (fun d hd => hp d (Or.inl hd)), h.2.2.1.gen x (fun d hd => hp d (Or.inr hd)) (hp _ (Or.inl ⟨by decide, by decide⟩)) (fun c i h1 h2 h3 h4 => e c i h1 h2 h3 h4) e2, h.2.2.2.1.gen x h6 (hp _ (Or.inl ⟨by decide, by decide⟩)), h.2.2.2.2⟩
theorem IC.lay {L L2 : La} {σ τ : Me} {s : Sx} {N : Nat} (h : IC L σ s N) {Q : Ls} (hS : RSc L2 τ Q) (y : LyP L σ L2 τ) : IC L2 τ (s.1, s.2.1, s.2.2.1, s.2.2.2.1, s.2.2.2.2.1, Q) N ∧ Lo L σ L2 τ := by
  obtain ⟨⟨a1, a2, a3, a4, a5, a6⟩, g2, g3, g4, g5, g6, g7, g8⟩ := h
  obtain ⟨y1, y2, x, y4, e⟩ := y
  have hN := a6.1
  have h6 : ∀ d, 120 ≤ d ∧ d < 135 → L.2.1 d ≠ some (6, 0) := fun d hd => a5.no6 a1 hd
  refine ⟨⟨⟨y1, y2, a3.gen x h6 (by omega), a4.gen x (fun d hd => by unfold pRm at hd; omega) ((x 100 (by omega)).2.2 9), y4, a6.lx x (fun d hd => by omega)⟩, g2.gen x (fun d hd => by omega) (by omega) (fun c i _ _ _ _ => e c i (by omega)) (fun c i _ _ => e c i (by omega)), g3, g4.gen x (fun d hd => by unfold pRm at hd; omega) h6 ((x 100 (by omega)).2.2 8) (fun c i _ _ _ _ => e c i (by omega)) (fun c i _ _ => e c i (by omega)), g5.ex (fun c i _ => e c i (by omega)), g6.ex2 (fun c i _ _ => e c i (by omega)), g7.ex (e _ _ (by omega)) (fun i => e _ _ (by omega)), hS⟩, fun d hd => x d (fun z => by have z : 120 ≤ d ∧ d < 135 := z; omega), (x 100 (by omega)).1, fun d i hd => e d i (by omega)⟩
theorem IC.keep {L L2 : La} {σ τ : Me} {s : Sx} {N : Nat} (h : IC L σ s N) (y : KpP L σ s.1 L2 τ) : IC L2 τ (s.1, some s.1, s.2.2) N ∧ Lo L σ L2 τ := by
  obtain ⟨⟨a1, a2, a3, a4, a5, a6⟩, g2, g3, g4, g5, g6, g7, g8⟩ := h
  obtain ⟨y1, y2, x, y4, y5, y6, y7, y8, y9, e⟩ := y
  have hN := a6.1
  have h6 : ∀ d, d = 100 ∨ pRm 220 d → L.2.1 d ≠ some (6, 0) := fun d hd => by
    rcases hd with rfl | hd
    · rw [a1.1 100 _ rfl]; decide
    · exact g4.no6 hd
  have np : ∀ d, (d < 220 ∧ d ≠ 100) ∨ 234 ≤ d → ¬ (d = 100 ∨ pRm 220 d) := fun d hd => by unfold pRm; omega
  have e : ∀ c i, c < 220 ∨ 234 ≤ c → τ c i = σ c i := fun c i hc => e c i (by unfold pRm; omega)
  refine ⟨⟨⟨y1, y2, a3.gen x h6 (np _ (by omega)), a4.gen x (fun d hd => np _ (by unfold pRm at hd; omega)) y6, a5.gen x (fun d _ _ => np _ (by omega)), a6.lx x (fun d hd => np _ (by omega))⟩, g2.gen x (fun d hd => np _ (by omega)) (np _ (by omega)) (fun c i _ _ _ _ => e c i (by omega)) (fun c i _ _ => e c i (by omega)), g3, ⟨y5, y7, y8, y9, g3⟩, g5.ex (fun c i _ => e c i (by omega)), g6.ex2 (fun c i _ _ => e c i (by omega)), g7.ex (e _ _ (by omega)) (fun i => e _ _ (by omega)), g8.ex2 (fun d _ _ => (x d (np _ (by omega))).2) (fun c i _ _ => e c i (by omega))⟩, fun d hd => x d (np _ (by have z : ¬ 100 ≤ d := hd; omega)), y4, fun d i hd => e d i (by omega)⟩
theorem IC.back {L L2 : La} {σ τ : Me} {s : Sx} {N : Nat} {B : Al} (h : IC L σ s N) (hK : s.2.1 = some B) (y : BkP L σ B L2 τ) : IC L2 τ (B, s.2) N ∧ Lo L σ L2 τ := by
  obtain ⟨⟨a1, a2, a3, a4, a5, a6⟩, g2, g3, g4, g5, g6, g7, g8⟩ := h
  obtain ⟨y1, y2, x, y4, y5, y6, y7, e⟩ := y
  have hN := a6.1
  have e : ∀ c i, c < 200 ∨ 214 ≤ c → τ c i = σ c i := fun c i hc => e c i (by unfold pRm; omega)
  have h6 : ∀ d, d = 205 → L.2.1 d ≠ some (6, 0) := fun d hd => by rw [hd, a1.2.2.1 5 _ rfl]; decide
  refine ⟨⟨⟨y1, y2, y7, a4.gen x (fun d hd => by unfold pRm at hd; omega) ((x 100 (by omega)).2.2 9), a5.gen x (fun d _ _ => by omega), a6.lx x (fun d hd => by omega)⟩, y6, ?_, ?_, g5.ex (fun c i _ => e c i (by omega)), g6.ex2 (fun c i _ _ => e c i (by omega)), g7.ex (e _ _ (by omega)) (fun i => e _ _ (by omega)), g8.ex2 (fun d _ _ => (x d (by omega)).2) (fun c i _ _ => e c i (by omega))⟩, fun d hd => x d (fun z => by have z : d = 205 := z; have hd : ¬ 100 ≤ d := hd; omega), (x 100 (by omega)).1, fun d i hd => e d i (by omega)⟩
  · rw [hK] at g4; exact g4.2.2.2.2
  · exact g4.gen x (fun d hd => by unfold pRm at hd; omega) h6 ((x 100 (by omega)).2.2 8) (fun c i _ _ _ _ => e c i (by omega)) (fun c i _ _ => e c i (by omega))
theorem IC.check {L L2 : La} {σ τ : Me} {s : Sx} {N : Nat} (h : IC L σ s N) (y : ChP L σ L2 τ) : IC L2 τ (s.1, s.2.1, s.2.2.1, s.2.2.2.1, (0, s.2.2.2.2.1.2), s.2.2.2.2.2) N ∧ Lo L σ L2 τ := by
  obtain ⟨⟨a1, a2, a3, a4, a5, a6⟩, g2, g3, g4, g5, g6, g7, g8⟩ := h
  obtain ⟨y1, y2, x, y4, y5, y6, y7, e⟩ := y
  have hN := a6.1
  have h6 : ∀ d, d = 100 ∨ pRm 240 d → L.2.1 d ≠ some (6, 0) := fun d hd => by
    rcases hd with rfl | hd
    · rw [a1.1 100 _ rfl]; decide
    · exact a4.no6 hd
  have np : ∀ d, (d < 240 ∧ d ≠ 100) ∨ 254 ≤ d → ¬ (d = 100 ∨ pRm 240 d) := fun d hd => by unfold pRm; omega
  refine ⟨⟨⟨y1, y2, a3.gen x h6 (np _ (by omega)), y6, a5.gen x (fun d _ _ => np _ (by omega)), a6.lx x (fun d hd => np _ (by omega))⟩, g2.gen x (fun d hd => np _ (by omega)) (np _ (by omega)) (fun c i _ _ _ _ => e c i (by unfold sc; omega) (by omega) (by omega)) (fun c i _ _ => e c i (by unfold sc; omega) (by omega) (by omega)), g3, g4.gen x (fun d hd => np _ (by unfold pRm at hd; omega)) h6 y5 (fun c i _ _ _ _ => e c i (by unfold sc; omega) (by omega) (by omega)) (fun c i _ _ => e c i (by unfold sc; omega) (by omega) (by omega)), g5.ex (fun c i _ => e c i (by unfold sc; omega) (by omega) (by omega)), g6.ex2 (fun c i _ _ => e c i (by unfold sc; omega) (by omega) (by omega)), ⟨y7, Nat.zero_le _, fun k hk => absurd hk (Nat.not_lt_zero k)⟩, g8.ex2 (fun d _ _ => (x d (np _ (by omega))).2) (fun c i _ _ => e c i (by unfold sc; omega) (by omega) (by omega))⟩, fun d hd => x d (np _ (by have z : ¬ 100 ≤ d := hd; omega)), y4, fun d i hd => e d i (by unfold sc; omega) (by omega) (by omega)⟩
theorem IC.text {L L2 : La} {σ τ : Me} {s : Sx} {N : Nat} {A : Al} (h : IC L σ s N) (hR : RC L2 τ 200 A) (hV : Va A) (y : XtP L σ N L2 τ) : IC L2 τ (A, s.2.1, (0, s.2.2.1.2), s.2.2.2) (N + 3) ∧ Lo L σ L2 τ := by
  obtain ⟨⟨a1, a2, a3, a4, a5, a6⟩, g2, g3, g4, g5, g6, g7, g8⟩ := h
  obtain ⟨y1, y2, y3, x, y5, y6, y7, e⟩ := y
  have hN := a6.1
  have np : ∀ d, d < N → d ≠ 205 → ¬ (d = 205 ∨ pTx N d) := fun d h1 h2 => by unfold pTx; omega
  have pY : ∀ c i, c < 105 ∨ 107 ≤ c → pYc c i = false := fun c i hc => by unfold pYc; simp; omega
  have e : ∀ c i, (c < 103 ∨ 107 ≤ c) → c < N → c ≠ 200 → c ≠ 206 → τ c i = σ c i := fun c i h1 h2 h3 h4 => e c i (by unfold pTx; omega) h3 h4 (by omega) (pY c i (by omega))
  refine ⟨⟨⟨y1, y2, y3, a4.gen x (fun d hd => np _ (by unfold pRm at hd; omega) (by unfold pRm at hd; omega)) ((x 100 (np _ (by omega) (by omega))).2.2 9), a5.gen x (fun d _ _ => np _ (by omega) (by omega)), a6.tx x⟩, hR, hV, ?_, ⟨y7, Nat.zero_le _, fun k hk => absurd hk (Nat.not_lt_zero k)⟩, g6.ex2 (fun c i _ _ => e c i (by omega) (by omega) (by omega) (by omega)), g7.ex (e _ _ (by omega) (by omega) (by omega) (by omega)) (fun i => e _ _ (by omega) (by omega) (by omega) (by omega)), g8.ex2 (fun d _ _ => (x d (np _ (by omega) (by omega))).2) (fun c i _ _ => e c i (by omega) (by omega) (by omega) (by omega))⟩, fun d hd => x d (np _ (by have z : ¬ 100 ≤ d := hd; omega) (by have z : ¬ 100 ≤ d := hd; omega)), (x 100 (np _ (by omega) (by omega))).1, fun d i hd => e d i (by omega) (by omega) (by omega) (by omega)⟩
  have h8 := (x 100 (np _ (by omega) (by omega))).2.2 8
  cases hK : s.2.1 with
  | none =>
    rw [hK] at g4
    exact ⟨h8.trans g4.1, fun i hi => (x _ (np _ (by omega) (by omega))).2.1.trans (g4.2 i hi)⟩
  | some B =>
    rw [hK] at g4
    obtain ⟨k1, k2, k3, k4, k5⟩ := g4
    refine ⟨h8.trans k1, k2.gen x (fun d hd => np _ (by unfold pRm at hd; omega) (by unfold pRm at hd; omega)), ⟨k3.1.lay (fun c i _ _ => e c i (by omega) (by omega) (by omega) (by omega)), k3.2.1.lay (fun c i _ _ => e c i (by omega) (by omega) (by omega) (by omega)), ?_⟩, k4.gen x (fun d hd => ?_) (np _ (by omega) (by omega)), k5⟩
    · exact (k3.2.2.mem a6 (fun c i h1 h2 h3 => e c i (by omega) h2 (by omega) (by omega))).lx x (fun d z _ hz hd => by
        rcases hd with hd | hd
        · omega
        · rw [a6.2.2 d hd.1] at hz; cases hz) (fun j _ => (x _ (np _ (by omega) (by omega))).2.2 j)
    · rcases hd with rfl | hd
      · rw [a1.2.2.1 5 _ rfl]; decide
      · rw [a6.2.2 d hd.1]; decide
