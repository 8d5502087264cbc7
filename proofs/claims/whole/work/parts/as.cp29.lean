/-! ===== the law: what holds between two calls ===== -/
/-- things and words, what was kept, the tape, the sheets, what waits, the slots -/
abbrev Sx : Type := Al × Option Al × Tp × Bs × Wt × Ls
def Im (L : La) (σ : Me) (K : Option Al) : Prop := match K with
  | none => L.2.2 100 8 = none ∧ ∀ i, i < 14 → L.2.1 (220 + i) = none
  | some B => L.2.2 100 8 = some 220 ∧ RAt L 220 ∧ RC L σ 220 B ∧ LT L 220 ∧ Va B
/-- the layout, as the class has it -/
def IL (L : La) (N : Nat) : Prop := CAt L ∧ Wl L ∧ LT L 200 ∧ TrC L ∧ SlC L ∧ NF L N
def IC (L : La) (σ : Me) (s : Sx) (N : Nat) : Prop := IL L N ∧ RC L σ 200 s.1 ∧ Va s.1 ∧ Im L σ s.2.1 ∧ RTc σ s.2.2.1 ∧ RBc σ s.2.2.2.1 ∧ RWc σ s.2.2.2.2.1 ∧ RSc L σ s.2.2.2.2.2
def IR (L : La) (σ : Me) (s : Sx) : Prop := MAt L ∧ RM (σ 1) s.1 ∧ RK σ s.2.1 ∧ RT σ s.2.2.1 ∧ RB σ s.2.2.2.1 ∧ RWt σ s.2.2.2.2.1 ∧ RSl σ s.2.2.2.2.2
/-- what a call of the class leaves of the reference's -/
def Lo (L : La) (σ : Me) (L2 : La) (σ2 : Me) : Prop := LX (fun d => 100 ≤ d) L L2 ∧ L2.1 100 = L.1 100 ∧ ∀ d i, d < 100 → σ2 d i = σ d i
/-- what a call of the reference leaves of the class's -/
def Hi (σ σ2 : Me) : Prop := ∀ d i, 100 ≤ d → σ2 d i = σ d i
theorem Hi.rf (σ : Me) : Hi σ σ := fun _ _ _ => rfl
theorem Lo.rf {L : La} {σ : Me} : Lo L σ L σ := ⟨LX.rf _ L, rfl, fun _ _ _ => rfl⟩
theorem Lo.m {L : La} {σ τ : Me} (h : ∀ d i, d < 100 → τ d i = σ d i) : Lo L σ L τ := ⟨LX.rf _ L, rfl, h⟩
theorem msh_lt {id : Nat} {x : Nat × Nat} (h : msh id = some x) : id < 20 := by
  apply Nat.lt_of_not_le
  intro z
  obtain ⟨k, rfl⟩ := Nat.exists_eq_add_of_le z
  rw [Nat.add_comm] at h
  cases h
theorem RB.ex {σ τ : Me} {B : Bs} (h : RB σ B) (e : ∀ c i, 12 ≤ c → c ≤ 14 → τ c i = σ c i) : RB τ B := fun k hk => by
  obtain ⟨a, b, c, d⟩ := h k hk
  exact ⟨(e _ _ (by decide) (by decide)).trans a, (e _ _ (by decide) (by decide)).trans b, c, fun i hi => (e _ _ (by decide) (by decide)).trans (d i hi)⟩
theorem RSl.ex {σ τ : Me} {Q : Ls} (h : RSl σ Q) (e : ∀ c i, 16 ≤ c → c ≤ 19 → τ c i = σ c i) : RSl τ Q := fun k hk => by
  obtain ⟨a, b, c, d, f, g⟩ := h k hk
  exact ⟨(e _ _ (by decide) (by decide)).trans a, b, (e _ _ (by decide) (by decide)).trans c, (e _ _ (by decide) (by decide)).trans d, fun i hi => (e _ _ (by decide) (by decide)).trans (f i hi), g⟩
theorem RT.ex0 {σ τ : Me} {P : Tp} (h : RT σ P) (e0 : τ 0 5 = σ 0 5) (e : ∀ i, τ 4 i = σ 4 i) : RT τ P := ⟨e0.trans h.1, h.2.1, fun k hk => ⟨(e k).trans (h.2.2 k hk).1, (h.2.2 k hk).2⟩⟩
theorem RWt.ex0 {σ τ : Me} {Q : Wt} (h : RWt σ Q) (e0 : τ 0 7 = σ 0 7) (e : ∀ i, τ 5 i = σ 5 i) : RWt τ Q := ⟨e0.trans h.1, h.2.1, fun k hk => (e k).trans (h.2.2 k hk)⟩
theorem RK.ex0 {σ τ : Me} {o : Option Al} (h : RK σ o) (e0 : τ 0 3 = σ 0 3) (e : ∀ i, τ 2 i = σ 2 i) : RK τ o := ⟨e0.trans h.1, fun A hA => by
  rw [show τ 2 = σ 2 from funext e]; exact h.2 A hA⟩
theorem IR.lo {L L2 : La} {σ σ2 : Me} {s : Sx} (h : IR L σ s) (x : Lo L σ L2 σ2) : IR L2 σ2 s := by
  obtain ⟨h1, h2, h3, h4, h5, h6, h7⟩ := h
  obtain ⟨x1, -, x3⟩ := x
  refine ⟨⟨fun id y hy => (x1 id (fun z => by have z : 100 ≤ id := z; have := msh_lt hy; omega)).2.1.trans (h1.1 id y hy), fun j id hj => ((x1 0 (by omega)).2.2 j).trans (h1.2 j id hj)⟩, ?_, h3.ex0 (x3 _ _ (by decide)) (fun i => x3 _ _ (by decide)), h4.ex0 (x3 _ _ (by decide)) (fun i => x3 _ _ (by decide)), h5.ex (fun c i _ _ => x3 _ _ (by omega)), h6.ex0 (x3 _ _ (by decide)) (fun i => x3 _ _ (by decide)), h7.ex (fun c i _ _ => x3 _ _ (by omega))⟩
  rw [show σ2 1 = σ 1 from funext fun i => x3 _ _ (by decide)]
  exact h2
/-- the rest of the reference's state, a change that writes only scratch and what p names -/
theorem IR.up {L : La} {σ τ : Me} {s : Sx} (h : IR L σ s) {A : Al} {K : Option Al} {P : Tp} {B : Bs} {W : Wt} {Q : Ls} (h1 : (A = s.1 ∧ ∀ i, τ 1 i = σ 1 i) ∨ RM (τ 1) A) (h2 : (K = s.2.1 ∧ τ 0 3 = σ 0 3 ∧ ∀ i, τ 2 i = σ 2 i) ∨ RK τ K) (h3 : (P = s.2.2.1 ∧ τ 0 5 = σ 0 5 ∧ ∀ i, τ 4 i = σ 4 i) ∨ RT τ P) (h4 : (B = s.2.2.2.1 ∧ ∀ c i, 12 ≤ c → c ≤ 14 → τ c i = σ c i) ∨ RB τ B) (h5 : (W = s.2.2.2.2.1 ∧ τ 0 7 = σ 0 7 ∧ ∀ i, τ 5 i = σ 5 i) ∨ RWt τ W) (h6 : (Q = s.2.2.2.2.2 ∧ ∀ c i, 16 ≤ c → c ≤ 19 → τ c i = σ c i) ∨ RSl τ Q) : IR L τ (A, K, P, B, W, Q) := by
  obtain ⟨g1, g2, g3, g4, g5, g6, g7⟩ := h
  refine ⟨g1, ?_, ?_, ?_, ?_, ?_, ?_⟩
  · rcases h1 with ⟨rfl, e⟩ | e
    · show RM (τ 1) s.1; rw [show τ 1 = σ 1 from funext e]; exact g2
    · exact e
  · rcases h2 with ⟨rfl, e, e2⟩ | e
    · exact g3.ex0 e e2
    · exact e
  · rcases h3 with ⟨rfl, e, e2⟩ | e
    · exact g4.ex0 e e2
    · exact e
  · rcases h4 with ⟨rfl, e⟩ | e
    · exact g5.ex e
    · exact e
  · rcases h5 with ⟨rfl, e, e2⟩ | e
    · exact g6.ex0 e e2
    · exact e
  · rcases h6 with ⟨rfl, e⟩ | e
    · exact g7.ex e
    · exact e
theorem RBc.ex2 {σ τ : Me} {B : Bs} (h : RBc σ B) (e : ∀ c i, 110 ≤ c → c < 118 → τ c i = σ c i) : RBc τ B := fun k hk => by
  obtain ⟨a, b, c, d⟩ := h k hk
  exact ⟨(e _ _ (by omega) (by omega)).trans a, (e _ _ (by omega) (by omega)).trans b, c, fun i hi => (e _ _ (by omega) (by omega)).trans (d i hi)⟩
theorem RWc.ex {σ τ : Me} {Q : Wt} (h : RWc σ Q) (e0 : τ 100 7 = σ 100 7) (e : ∀ i, τ 109 i = σ 109 i) : RWc τ Q := ⟨e0.trans h.1, h.2.1, fun k hk => (e k).trans (h.2.2 k hk)⟩
theorem RSc.ex2 {L L2 : La} {σ τ : Me} {Q : Ls} (h : RSc L σ Q) (x : ∀ d, 120 ≤ d → d < 136 → L2.2.1 d = L.2.1 d ∧ ∀ j, L2.2.2 d j = L.2.2 d j) (e : ∀ c i, 120 ≤ c → c < 136 → τ c i = σ c i) : RSc L2 τ Q := fun k hk => by
  obtain ⟨a, b, c, d, f⟩ := h k hk
  refine ⟨(e _ _ (by omega) (by omega)).trans a, b, fun z => ?_, fun z => ?_, fun z => (e _ _ (by omega) (by omega)).trans (f z)⟩
  · obtain ⟨a, a1, a2, a3, a4, a5, a6⟩ := c z
    exact ⟨a, a1, a2, a3, a4, (e _ _ (by omega) (by omega)).trans a5, (e _ _ (by omega) (by omega)).trans a6⟩
  · obtain ⟨a, a1, a2, a3, a4, a5, a6⟩ := d z
    exact ⟨a, a1, a2, ((x _ (by omega) (by omega)).2 4).trans a3, ⟨(x _ (by omega) (by omega)).1.trans a4.1, (x _ (by omega) (by omega)).1.trans a4.2.1, ((x _ (by omega) (by omega)).2 2).trans a4.2.2⟩, (e _ _ (by omega) (by omega)).trans a5, fun i hi => (e _ _ (by omega) (by omega)).trans (a6 i hi)⟩
theorem RC.mem {L : La} {σ τ : Me} {b : Nat} {A : Al} (h : RC L σ b A) (e : ∀ c i, b ≤ c → c ≤ b + 13 → c ≠ b + 7 → c ≠ b + 8 → τ c i = σ c i) (e2 : ∀ c i, 1000 ≤ c → c % 3 ≠ 0 → τ c i = σ c i) : RC L τ b A :=
  ⟨h.1.kept (fun c i hc => e c i (by omega) (by omega) (by omega) (by omega)), h.2.1.kept (fun c i hc => e c i (by omega) (by omega) (by omega) (by omega)), h.2.2.kept e2⟩
theorem Im.mem {L : La} {σ τ : Me} {K : Option Al} (h : Im L σ K) (e : ∀ c i, 220 ≤ c → c ≤ 233 → c ≠ 227 → c ≠ 228 → τ c i = σ c i) (e2 : ∀ c i, 1000 ≤ c → c % 3 ≠ 0 → τ c i = σ c i) : Im L τ K := by
  cases K with
  | none => exact h
  | some B => exact ⟨h.1, h.2.1, h.2.2.1.mem (fun c i h1 h2 h3 h4 => e c i h1 h2 h3 h4) e2, h.2.2.2⟩
/-- only memory changes -/
theorem IC.up {L : La} {σ τ : Me} {s : Sx} {N : Nat} (h : IC L σ s N) {A : Al} {P : Tp} {B : Bs} {W : Wt} (eX : ∀ c i, 1000 ≤ c → c % 3 ≠ 0 → τ c i = σ c i) (eI : ∀ c i, 220 ≤ c → c ≤ 233 → c ≠ 227 → c ≠ 228 → τ c i = σ c i) (eS : ∀ c i, 120 ≤ c → c < 136 → τ c i = σ c i) (h1 : (A = s.1 ∧ ∀ c i, 200 ≤ c → c ≤ 213 → c ≠ 207 → c ≠ 208 → τ c i = σ c i) ∨ (RC L τ 200 A ∧ Va A)) (h3 : (P = s.2.2.1 ∧ ∀ c i, c = 103 ∨ c = 104 → τ c i = σ c i) ∨ RTc τ P) (h4 : (B = s.2.2.2.1 ∧ ∀ c i, 110 ≤ c → c < 118 → τ c i = σ c i) ∨ RBc τ B) (h5 : (W = s.2.2.2.2.1 ∧ τ 100 7 = σ 100 7 ∧ ∀ i, τ 109 i = σ 109 i) ∨ RWc τ W) : IC L τ (A, s.2.1, P, B, W, s.2.2.2.2.2) N := by
  obtain ⟨g1, g2, g3, g4, g5, g6, g7, g8⟩ := h
  have hA : RC L τ 200 A ∧ Va A := by
    rcases h1 with ⟨rfl, e⟩ | e
    · exact ⟨g2.mem (fun c i z1 z2 z3 z4 => e c i z1 z2 z3 z4) eX, g3⟩
    · exact e
  refine ⟨g1, hA.1, hA.2, g4.mem eI eX, ?_, ?_, ?_, g8.ex2 (fun d _ _ => ⟨rfl, fun _ => rfl⟩) eS⟩
  · rcases h3 with ⟨rfl, e⟩ | e
    · exact g5.ex e
    · exact e
  · rcases h4 with ⟨rfl, e⟩ | e
    · exact g6.ex2 e
    · exact e
  · rcases h5 with ⟨rfl, e, e2⟩ | e
    · exact g7.ex e e2
    · exact e
theorem IC.hi {L : La} {σ τ : Me} {s : Sx} {N : Nat} (h : IC L σ s N) (e : Hi σ τ) : IC L τ s N :=
  h.up (A := s.1) (P := s.2.2.1) (B := s.2.2.2.1) (W := s.2.2.2.2.1) (fun c i _ _ => e c i (by omega)) (fun c i _ _ _ _ => e c i (by omega)) (fun c i _ _ => e c i (by omega)) (Or.inl ⟨rfl, fun c i _ _ _ _ => e c i (by omega)⟩) (Or.inl ⟨rfl, fun c i hc => e c i (by omega)⟩) (Or.inl ⟨rfl, fun c i _ _ => e c i (by omega)⟩) (Or.inl ⟨rfl, e _ _ (by decide), fun i => e _ _ (by decide)⟩)
