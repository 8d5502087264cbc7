/-! ===== the law: what each kind of call of the reference leaves ===== -/
theorem IR.gen {L : La} {σ τ : Me} {s : Sx} (h : IR L σ s) {p : Nat → Nat → Bool} (e : Ex p σ τ) (hp : ∀ c i, 100 ≤ c → p c i = false) {A : Al} {K : Option Al} {P : Tp} {B : Bs} {W : Wt} {Q : Ls} (h1 : (A = s.1 ∧ ∀ i, p 1 i = false) ∨ RM (τ 1) A) (h2 : (K = s.2.1 ∧ p 0 3 = false ∧ ∀ i, p 2 i = false) ∨ RK τ K) (h3 : (P = s.2.2.1 ∧ p 0 5 = false ∧ ∀ i, p 4 i = false) ∨ RT τ P) (h4 : (B = s.2.2.2.1 ∧ ∀ c i, 12 ≤ c → c ≤ 14 → p c i = false) ∨ RB τ B) (h5 : (W = s.2.2.2.2.1 ∧ p 0 7 = false ∧ ∀ i, p 5 i = false) ∨ RWt τ W) (h6 : (Q = s.2.2.2.2.2 ∧ ∀ c i, 16 ≤ c → c ≤ 19 → p c i = false) ∨ RSl τ Q) : IR L τ (A, K, P, B, W, Q) ∧ Hi σ τ :=
  ⟨h.up (h1.imp_left fun z => ⟨z.1, fun i => e _ _ (z.2 i)⟩) (h2.imp_left fun z => ⟨z.1, e _ _ z.2.1, fun i => e _ _ (z.2.2 i)⟩) (h3.imp_left fun z => ⟨z.1, e _ _ z.2.1, fun i => e _ _ (z.2.2 i)⟩) (h4.imp_left fun z => ⟨z.1, fun c i a b => e _ _ (z.2 c i a b)⟩) (h5.imp_left fun z => ⟨z.1, e _ _ z.2.1, fun i => e _ _ (z.2.2 i)⟩) (h6.imp_left fun z => ⟨z.1, fun c i a b => e _ _ (z.2 c i a b)⟩), fun d i hd => e d i (hp d i hd)⟩
theorem scr_f {c i : Nat} (h : c ≠ 0 ∨ i = 3 ∨ i = 5 ∨ i = 7) (h2 : c < 6 ∨ 11 < c) (h3 : c ≠ 15) : scr c i = false := by unfold scr; simp; omega
theorem IR.sm {L : La} {σ τ : Me} {s : Sx} (h : IR L σ s) (e : Sm σ τ) : IR L τ s ∧ Hi σ τ :=
  h.gen (p := scr) e (fun c i hc => scr_f (by omega) (by omega) (by omega)) (A := s.1) (K := s.2.1) (P := s.2.2.1) (B := s.2.2.2.1) (W := s.2.2.2.2.1) (Q := s.2.2.2.2.2) (Or.inl ⟨rfl, fun i => scr_f (by omega) (by omega) (by omega)⟩) (Or.inl ⟨rfl, rfl, fun i => scr_f (by omega) (by omega) (by omega)⟩) (Or.inl ⟨rfl, rfl, fun i => scr_f (by omega) (by omega) (by omega)⟩) (Or.inl ⟨rfl, fun c i _ _ => scr_f (by omega) (by omega) (by omega)⟩) (Or.inl ⟨rfl, rfl, fun i => scr_f (by omega) (by omega) (by omega)⟩) (Or.inl ⟨rfl, fun c i _ _ => scr_f (by omega) (by omega) (by omega)⟩)
theorem IR.s1 {L : La} {σ τ : Me} {s : Sx} (h : IR L σ s) {A : Al} (hR : RM (τ 1) A) (e : S1 σ τ) : IR L τ (A, s.2) ∧ Hi σ τ := by
  have e : Ex (fun c i => decide (c = 1) || scr c i) σ τ := fun c i z => by
    rw [Bool.or_eq_false_iff] at z
    exact e c i (of_decide_eq_false z.1) z.2
  have f : ∀ c i, c ≠ 1 → (c ≠ 0 ∨ i = 3 ∨ i = 5 ∨ i = 7) → (c < 6 ∨ 11 < c) → c ≠ 15 → (decide (c = 1) || scr c i) = false := fun c i h1 h2 h3 h4 => by
    rw [Bool.or_eq_false_iff]; exact ⟨decide_eq_false h1, scr_f h2 h3 h4⟩
  exact h.gen e (fun c i hc => f c i (by omega) (by omega) (by omega) (by omega)) (A := A) (K := s.2.1) (P := s.2.2.1) (B := s.2.2.2.1) (W := s.2.2.2.2.1) (Q := s.2.2.2.2.2) (Or.inr hR) (Or.inl ⟨rfl, rfl, fun i => f _ _ (by omega) (by omega) (by omega) (by omega)⟩) (Or.inl ⟨rfl, rfl, fun i => f _ _ (by omega) (by omega) (by omega) (by omega)⟩) (Or.inl ⟨rfl, fun c i _ _ => f _ _ (by omega) (by omega) (by omega) (by omega)⟩) (Or.inl ⟨rfl, rfl, fun i => f _ _ (by omega) (by omega) (by omega) (by omega)⟩) (Or.inl ⟨rfl, fun c i _ _ => f _ _ (by omega) (by omega) (by omega) (by omega)⟩)
theorem IR.tp {L : La} {σ τ : Me} {s : Sx} (h : IR L σ s) {P : Tp} (hR : RT τ P) (e : Ex pT σ τ) : IR L τ (s.1, s.2.1, P, s.2.2.2) ∧ Hi σ τ := by
  have f : ∀ c i, c ≠ 4 → (c ≠ 0 ∨ i ≠ 5) → pT c i = false := fun c i h1 h2 => by unfold pT; simp; omega
  exact h.gen e (fun c i hc => f c i (by omega) (by omega)) (A := s.1) (K := s.2.1) (P := P) (B := s.2.2.2.1) (W := s.2.2.2.2.1) (Q := s.2.2.2.2.2) (Or.inl ⟨rfl, fun i => f _ _ (by omega) (by omega)⟩) (Or.inl ⟨rfl, rfl, fun i => f _ _ (by omega) (by omega)⟩) (Or.inr hR) (Or.inl ⟨rfl, fun c i _ _ => f _ _ (by omega) (by omega)⟩) (Or.inl ⟨rfl, rfl, fun i => f _ _ (by omega) (by omega)⟩) (Or.inl ⟨rfl, fun c i _ _ => f _ _ (by omega) (by omega)⟩)
theorem IR.sh' {L : La} {σ τ : Me} {s : Sx} (h : IR L σ s) {B : Bs} (hR : RB τ B) (e : Ex (fun c _ => decide (12 ≤ c) && decide (c ≤ 15)) σ τ) : IR L τ (s.1, s.2.1, s.2.2.1, B, s.2.2.2.2) ∧ Hi σ τ := by
  have f : ∀ c : Nat, (c < 12 ∨ 15 < c) → (decide (12 ≤ c) && decide (c ≤ 15)) = false := fun c h1 => by simp; omega
  exact h.gen e (fun c i hc => f c (by omega)) (A := s.1) (K := s.2.1) (P := s.2.2.1) (B := B) (W := s.2.2.2.2.1) (Q := s.2.2.2.2.2) (Or.inl ⟨rfl, fun i => f _ (by omega)⟩) (Or.inl ⟨rfl, rfl, fun i => f _ (by omega)⟩) (Or.inl ⟨rfl, rfl, fun i => f _ (by omega)⟩) (Or.inr hR) (Or.inl ⟨rfl, rfl, fun i => f _ (by omega)⟩) (Or.inl ⟨rfl, fun c i _ _ => f _ (by omega)⟩)
theorem IR.sh {L : La} {σ τ : Me} {s : Sx} (h : IR L σ s) {B : Bs} (hR : RB τ B) (e : Ex pB σ τ) : IR L τ (s.1, s.2.1, s.2.2.1, B, s.2.2.2.2) ∧ Hi σ τ := h.sh' hR (e.mono (fun c i z => by unfold pB; simp at z ⊢; omega))
theorem IR.cp {L : La} {σ τ : Me} {s : Sx} (h : IR L σ s) {B : Bs} (hR : RB τ B) (e : Ex (fun c _ => decide (c = 14) || decide (c = 15)) σ τ) : IR L τ (s.1, s.2.1, s.2.2.1, B, s.2.2.2.2) ∧ Hi σ τ := h.sh' hR (e.mono (fun c i z => by simp at z ⊢; omega))
theorem IR.wt {L : La} {σ τ : Me} {s : Sx} (h : IR L σ s) {W : Wt} (hR : RWt τ W) (e : Ex pW σ τ) : IR L τ (s.1, s.2.1, s.2.2.1, s.2.2.2.1, W, s.2.2.2.2.2) ∧ Hi σ τ := by
  have f : ∀ c i, c ≠ 5 → (c ≠ 0 ∨ i ≠ 7) → pW c i = false := fun c i h1 h2 => by unfold pW; simp; omega
  exact h.gen e (fun c i hc => f c i (by omega) (by omega)) (A := s.1) (K := s.2.1) (P := s.2.2.1) (B := s.2.2.2.1) (W := W) (Q := s.2.2.2.2.2) (Or.inl ⟨rfl, fun i => f _ _ (by omega) (by omega)⟩) (Or.inl ⟨rfl, rfl, fun i => f _ _ (by omega) (by omega)⟩) (Or.inl ⟨rfl, rfl, fun i => f _ _ (by omega) (by omega)⟩) (Or.inl ⟨rfl, fun c i _ _ => f _ _ (by omega) (by omega)⟩) (Or.inr hR) (Or.inl ⟨rfl, fun c i _ _ => f _ _ (by omega) (by omega)⟩)
theorem IR.lay {L : La} {σ τ : Me} {s : Sx} (h : IR L σ s) {Q : Ls} (hR : RSl τ Q) (e : Ex pL σ τ) : IR L τ (s.1, s.2.1, s.2.2.1, s.2.2.2.1, s.2.2.2.2.1, Q) ∧ Hi σ τ := by
  have f : ∀ c i, (c < 16 ∨ 19 < c) → pL c i = false := fun c i h1 => by unfold pL; simp; omega
  exact h.gen e (fun c i hc => f c i (by omega)) (A := s.1) (K := s.2.1) (P := s.2.2.1) (B := s.2.2.2.1) (W := s.2.2.2.2.1) (Q := Q) (Or.inl ⟨rfl, fun i => f _ _ (by omega)⟩) (Or.inl ⟨rfl, rfl, fun i => f _ _ (by omega)⟩) (Or.inl ⟨rfl, rfl, fun i => f _ _ (by omega)⟩) (Or.inl ⟨rfl, fun c i _ _ => f _ _ (by omega)⟩) (Or.inl ⟨rfl, rfl, fun i => f _ _ (by omega)⟩) (Or.inr hR)
theorem IR.text {L : La} {σ τ : Me} {s : Sx} (h : IR L σ s) {A : Al} (hR : RM (τ 1) A) (h5 : τ 0 5 = nI 0) (e : Ex pZ σ τ) : IR L τ (A, s.2.1, (0, s.2.2.1.2), s.2.2.2) ∧ Hi σ τ := by
  have f : ∀ c i, (c ≠ 0 ∨ i = 3 ∨ i = 7) → c ≠ 1 → c ≠ 10 → pZ c i = false := fun c i h1 h2 h3 => by unfold pZ pY; simp; omega
  exact h.gen e (fun c i hc => f c i (by omega) (by omega) (by omega)) (A := A) (K := s.2.1) (P := (0, s.2.2.1.2)) (B := s.2.2.2.1) (W := s.2.2.2.2.1) (Q := s.2.2.2.2.2) (Or.inr hR) (Or.inl ⟨rfl, rfl, fun i => f _ _ (by omega) (by omega) (by omega)⟩) (Or.inr ⟨h5, Nat.zero_le _, fun k hk => absurd hk (Nat.not_lt_zero k)⟩) (Or.inl ⟨rfl, fun c i _ _ => f _ _ (by omega) (by omega) (by omega)⟩) (Or.inl ⟨rfl, rfl, fun i => f _ _ (by omega) (by omega) (by omega)⟩) (Or.inl ⟨rfl, fun c i _ _ => f _ _ (by omega) (by omega) (by omega)⟩)
theorem IR.keep {L : La} {σ τ : Me} {s : Sx} (h : IR L σ s) {A : Al} {K : Option Al} (hK : RK τ K) (hR : RM (τ 1) A) (e : Ex pK σ τ) : IR L τ (A, K, s.2.2) ∧ Hi σ τ := by
  have f : ∀ c i, (c ≠ 0 ∨ i ≠ 3) → c ≠ 2 → pK c i = false := fun c i h1 h2 => by unfold pK; simp; omega
  exact h.gen e (fun c i hc => f c i (by omega) (by omega)) (A := A) (K := K) (P := s.2.2.1) (B := s.2.2.2.1) (W := s.2.2.2.2.1) (Q := s.2.2.2.2.2) (Or.inr hR) (Or.inr hK) (Or.inl ⟨rfl, rfl, fun i => f _ _ (by omega) (by omega)⟩) (Or.inl ⟨rfl, fun c i _ _ => f _ _ (by omega) (by omega)⟩) (Or.inl ⟨rfl, rfl, fun i => f _ _ (by omega) (by omega)⟩) (Or.inl ⟨rfl, fun c i _ _ => f _ _ (by omega) (by omega)⟩)
theorem IR.back {L : La} {σ τ : Me} {s : Sx} (h : IR L σ s) {A : Al} (hR : RM (τ 1) A) (e : Ex (fun c _ => decide (c = 1)) σ τ) : IR L τ (A, s.2) ∧ Hi σ τ :=
  h.s1 hR (fun c i h1 _ => e c i (decide_eq_false h1))
theorem IR.check {L : La} {σ τ : Me} {s : Sx} (h : IR L σ s) (hW : RWt τ (0, s.2.2.2.2.1.2)) (hR : RM (τ 1) s.1) (e : Ex pCh σ τ) : IR L τ (s.1, s.2.1, s.2.2.1, s.2.2.2.1, (0, s.2.2.2.2.1.2), s.2.2.2.2.2) ∧ Hi σ τ := by
  have f : ∀ c i, (c ≠ 0 ∨ i = 3 ∨ i = 5) → c ≠ 1 → c ≠ 3 → (c < 6 ∨ 11 < c) → c ≠ 15 → pCh c i = false := fun c i h1 h2 h3 h4 h5 => by
    unfold pCh
    rw [scr_f (by omega) h4 h5]
    simp
    omega
  exact h.gen e (fun c i hc => f c i (by omega) (by omega) (by omega) (by omega) (by omega)) (A := s.1) (K := s.2.1) (P := s.2.2.1) (B := s.2.2.2.1) (W := (0, s.2.2.2.2.1.2)) (Q := s.2.2.2.2.2) (Or.inr hR) (Or.inl ⟨rfl, rfl, fun i => f _ _ (by omega) (by omega) (by omega) (by omega) (by omega)⟩) (Or.inl ⟨rfl, rfl, fun i => f _ _ (by omega) (by omega) (by omega) (by omega) (by omega)⟩) (Or.inl ⟨rfl, fun c i _ _ => f _ _ (by omega) (by omega) (by omega) (by omega) (by omega)⟩) (Or.inr hW) (Or.inl ⟨rfl, fun c i _ _ => f _ _ (by omega) (by omega) (by omega) (by omega) (by omega)⟩)
/-! one form for all -/
theorem Ct.mono {l : Launch} {y : MethodName} {cc : ByteArray} {nl : Nat} {ret : Option FieldType} {rm : Room} {D : Ds} {L : La} {σ : Me} {As : List Value} {post post' : Po} (h : Ct l y cc nl ret rm D L σ As post) (hp : ∀ v L' σ', post v L' σ' → post' v L' σ') : Ct l y cc nl ret rm D L σ As post' := fun sz =>
  MetFree.mono (h sz) (fun _ _ h => h) (fun _ _ _ _ _ h => h) (fun a s o t _ hq => by
    obtain ⟨⟨⟨v, L', σ', e1, e2, e3⟩, e4⟩, e5⟩ := hq
    exact ⟨⟨⟨v, L', σ', e1, hp v L' σ' e2, e3⟩, e4⟩, e5⟩)
def PC (L : La) (σ : Me) (r0 : Int32) (s : Sx) : Po := PNI (fun r L2 σ2 => r = r0 ∧ (∃ N, IC L2 σ2 s N) ∧ Lo L σ L2 σ2)
def PRf (L : La) (σ : Me) (r0 : Int32) (s : Sx) : Po := PNI (fun r L2 σ2 => r = r0 ∧ L2 = L ∧ IR L σ2 s ∧ Hi σ σ2)
theorem PC.f {L : La} {σ : Me} {r0 : Int32} {s : Sx} {N : Nat} (h : IC L σ s N) : ∀ v L' σ', PF L σ r0 v L' σ' → PC L σ r0 s v L' σ' := fun v L' σ' q => by
  obtain ⟨rfl, rfl, rfl⟩ := q
  exact ⟨_, rfl, rfl, ⟨N, h⟩, Lo.rf⟩
theorem PC.i {L : La} {σ : Me} {r0 : Int32} {s : Sx} {q : Int32 → Me → Prop} (h : ∀ r τ, q r τ → r = r0 ∧ ∃ N, IC L τ s N ∧ Lo L σ L τ) : ∀ v L' σ', PI L q v L' σ' → PC L σ r0 s v L' σ' := fun v L' σ' p => by
  obtain ⟨r, rfl, rfl, hq⟩ := p
  obtain ⟨e, N, h1, h2⟩ := h r σ' hq
  exact ⟨r, rfl, e, ⟨N, h1⟩, h2⟩
theorem PC.n {L : La} {σ : Me} {r0 : Int32} {s : Sx} {q : Int32 → La → Me → Prop} (h : ∀ r L2 τ, q r L2 τ → r = r0 ∧ ∃ N, IC L2 τ s N ∧ Lo L σ L2 τ) : ∀ v L' σ', PNI q v L' σ' → PC L σ r0 s v L' σ' := fun v L' σ' p => by
  obtain ⟨r, rfl, hq⟩ := p
  obtain ⟨e, N, h1, h2⟩ := h r L' σ' hq
  exact ⟨r, rfl, e, ⟨N, h1⟩, h2⟩
theorem PRf.f {L : La} {σ : Me} {r0 : Int32} {s : Sx} (h : IR L σ s) : ∀ v L' σ', PF L σ r0 v L' σ' → PRf L σ r0 s v L' σ' := fun v L' σ' q => by
  obtain ⟨rfl, rfl, rfl⟩ := q
  exact ⟨_, rfl, rfl, rfl, h, Hi.rf _⟩
theorem PRf.i {L : La} {σ : Me} {r0 : Int32} {s : Sx} {q : Int32 → Me → Prop} (h : ∀ r τ, q r τ → r = r0 ∧ IR L τ s ∧ Hi σ τ) : ∀ v L' σ', PI L q v L' σ' → PRf L σ r0 s v L' σ' := fun v L' σ' p => by
  obtain ⟨r, rfl, rfl, hq⟩ := p
  obtain ⟨e, h1, h2⟩ := h r σ' hq
  exact ⟨r, rfl, e, rfl, h1, h2⟩
/-- the script -/
def SX (X : Cx) (b n : Nat) (f : Nat → Int32) : Prop := va_X b n f (xs X) (xs X).heap ∧ b < (xs X).heap.size ∧ ¬ xA X b
section
variable {X : Cx} {cc : ByteArray} {own nm : String} {rm : Room} {ret : Option FieldType} {L : La} {σ : Me} {mc ms : Nat} {ls : List (Nat × Value)} {pc nx : Nat} {st : List Value}
theorem r_slen (hX : Ok X cc own nm rm ret) {b n : Nat} {f : Nat → Int32} (hS : SX X b n f) (hd : Dc cc pc .arraylength 1 nx) (k : At X L σ mc ms ls nx (.int (nI n) :: st)) : At X L σ mc ms ls pc (.ref b :: st) := by
  obtain ⟨hd, rfl⟩ := hd
  exact fun H locs la h1 h2 h3 h4 => va_slen hX.1 hX.2.1 hS.1 hS.2.1 hS.2.2 h3 hd (k H locs la h1 h2 h3 h4)
theorem r_sld (hX : Ok X cc own nm rm ret) {b n i : Nat} {f : Nat → Int32} (hS : SX X b n f) (hi : i < n) (hn : n < 2 ^ 31) (hd : Dc cc pc .iaload 1 nx) (k : At X L σ mc ms ls nx (.int (f i) :: st)) : At X L σ mc ms ls pc (.int (nI i) :: .ref b :: st) := by
  obtain ⟨hd, rfl⟩ := hd
  exact fun H locs la h1 h2 h3 h4 => va_sld (i := nI i) hX.1 hX.2.1 hS.1 hS.2.1 hS.2.2 h3 (vp_in_nI hi hn) hd (by rw [nI_clamp (by omega)]; exact k H locs la h1 h2 h3 h4)
end
