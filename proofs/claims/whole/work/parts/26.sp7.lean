/-! ===== only what p names changes ===== -/
def Ex (p : Nat → Nat → Bool) (σ τ : Me) : Prop := ∀ c i, p c i = false → τ c i = σ c i
theorem Ex.rf {p : Nat → Nat → Bool} (σ : Me) : Ex p σ σ := fun _ _ _ => rfl
theorem Ex.tr {p : Nat → Nat → Bool} {σ τ ρ : Me} (h : Ex p σ τ) (h2 : Ex p τ ρ) : Ex p σ ρ := fun c i e => (h2 c i e).trans (h c i e)
theorem Ex.up {p : Nat → Nat → Bool} {σ τ : Me} {c i : Nat} {v : Int32} (h : Ex p σ τ) (hc : p c i = true) : Ex p σ (up τ c i v) := fun d j e => by
  rw [up_n ?_]
  · exact h d j e
  · by_cases h1 : d = c
    · right
      intro h2
      rw [h1, h2, hc] at e
      cases e
    · exact Or.inl h1
theorem Ex.mono {p q : Nat → Nat → Bool} {σ τ : Me} (h : Ex p σ τ) (hq : ∀ c i, q c i = false → p c i = false) : Ex q σ τ := fun c i e => h c i (hq c i e)
theorem RM.lt {S S' : Nat → Int32} {A : Al} (hR : RM S A) (hV : Va A) (e : ∀ j, j < 1605 → S' j = S j) : RM S' A := by
  obtain ⟨h1, h2, h3, h4, h5, h6, h7, h8, h9⟩ := hR
  have g1 := hV.1
  have g2 := hV.2.1
  have g3 := hV.2.2.1
  have g4 := hV.2.2.2.1
  refine ⟨by rw [e _ (by omega)]; exact h1, by rw [e _ (by omega)]; exact h2, by rw [e _ (by omega)]; exact h3, by rw [e _ (by omega)]; exact h4, by rw [e _ (by omega)]; exact h5, fun t ht => ?_, fun n hn => ?_, fun w f hw hf => ?_, fun x hx => ?_⟩
  · rw [e _ (by omega), e _ (by omega)]; exact h6 t ht
  · rw [e _ (by omega)]; exact h7 n hn
  · rw [e _ (by omega)]; exact h8 w f hw hf
  · have hl := (okT_at hV hx).2.1
    unfold tx at hl
    obtain ⟨q1, q2, q3, q4⟩ := h9 x hx
    exact ⟨by rw [e _ (by omega)]; exact q1, by rw [e _ (by omega)]; exact q2, by rw [e _ (by omega)]; exact q3, fun k hk => by rw [e _ (by omega)]; exact q4 k hk⟩
/-! ===== tape, numbers that wait, image ===== -/
abbrev Tp : Type := Nat × (Nat → Nat)
abbrev Wt : Type := Nat × (Nat → Int32)
def RT (σ : Me) (P : Tp) : Prop := σ 0 5 = nI P.1 ∧ P.1 ≤ 96 ∧ ∀ k, k < P.1 → σ 4 k = nI (P.2 k) ∧ P.2 k < 256
def RWt (σ : Me) (Q : Wt) : Prop := σ 0 7 = nI Q.1 ∧ Q.1 ≤ 60 ∧ ∀ k, k < Q.1 → σ 5 k = Q.2 k
def RK (σ : Me) (o : Option Al) : Prop := σ 0 3 = bI o.isSome ∧ ∀ A, o = some A → RM (σ 2) A ∧ Va A
def bnI (x : Int32) (j : Nat) : Int32 := (x >>> (nI (24 - 8 * j) &&& 31)) &&& nI 255
def byN (x : Int32) (j : Nat) : Nat := (x >>> (nI (24 - 8 * j) &&& 31)).toBitVec.toNat % 2 ^ 8
theorem bnI_eq (x : Int32) (j : Nat) : bnI x j = nI (byN x j) := pk_and _ 8 (by decide)
theorem byN_lt (x : Int32) (j : Nat) : byN x j < 256 := Nat.mod_lt _ (by decide)
/-- byte k of the twelve -/
def by12 (a b c : Int32) (k : Nat) : Nat := byN (if k < 4 then a else if k < 8 then b else c) (k % 4)
def fdK (P : Tp) (a b c : Int32) (k : Nat) : Tp := (P.1 + k, fun i => if i < P.1 then P.2 i else by12 a b c (i - P.1))
def oFeed (P : Tp) (a b c : Int32) : Int32 × Tp := if P.1 + 12 ≤ 96 then (nI (P.1 + 12), fdK P a b c 12) else ((-1000000003), P)
def oTrim (P : Tp) (n : Int32) : Int32 × Tp := if inB n (nI 0) (nI P.1) = true then (n, (n.toNatClampNeg, P.2)) else ((-1000000001), P)
def oTell (Q : Wt) (v : Int32) : Int32 × Wt := if Q.1 = 60 then ((-1000000003), Q) else (nI (Q.1 + 1), (Q.1 + 1, fun k => if k = Q.1 then v else Q.2 k))
def oTextTold (A : Al) (x wh : Int32) : Int32 := if isB x (aX A).length = true ∧ inB wh (nI 0) (nI 1) = true then (if wh = nI 0 then nI (tx A x.toNatClampNeg).1 else nI (tx A x.toNatClampNeg).2.1) else (-1000000001)
def oWhy (A : Al) (k : Int32) : Int32 := if inB k (nI 0) (nI 2) = true then nI? (lst A k.toNatClampNeg (aX A).length) else (-1000000001)
def trN (A : Al) : Nat → Nat
  | 0 => 0
  | n + 1 => trN A n + if trB (aF A n 0) = true then 1 else 0
theorem trN_le (A : Al) : ∀ n, trN A n ≤ n
  | 0 => Nat.le_refl 0
  | n + 1 => by have := trN_le A n; unfold trN; split <;> omega
def oCount (A : Al) (P : Tp) (Q : Wt) (wh : Int32) : Int32 := if wh = nI 0 then nI (aT A) else if wh = nI 1 then nI (aN A) else if wh = nI 2 then nI (aW A) else if wh = nI 3 then nI (trN A (aW A)) else if wh = nI 4 then nI (aX A).length else if wh = nI 5 then nI Q.1 else if wh = nI 6 then nI P.1 else if wh = nI 7 then aZ A else (-1000000001)
def pT (c i : Nat) : Bool := decide (c = 4) || (decide (c = 0) && decide (i = 5))
def pW (c i : Nat) : Bool := decide (c = 5) || (decide (c = 0) && decide (i = 7))
def pK (c i : Nat) : Bool := decide (c = 2) || (decide (c = 0) && decide (i = 3))
theorem rt_fd {σ τ : Me} {P : Tp} {a b c : Int32} {k : Nat} (h : RT σ (fdK P a b c k)) (hk : P.1 + k < 96) (h5 : τ 0 5 = nI (P.1 + k + 1)) (h4 : τ 4 (P.1 + k) = nI (by12 a b c k)) (e : ∀ j, j ≠ P.1 + k → τ 4 j = σ 4 j) : RT τ (fdK P a b c (k + 1)) := by
  refine ⟨h5, by show P.1 + (k + 1) ≤ 96; omega, fun i hi => ?_⟩
  have hi : i < P.1 + (k + 1) := hi
  by_cases q : i = P.1 + k
  · subst q
    show τ 4 (P.1 + k) = nI (if P.1 + k < P.1 then _ else by12 a b c (P.1 + k - P.1)) ∧ (if P.1 + k < P.1 then _ else by12 a b c (P.1 + k - P.1)) < 256
    rw [if_neg (by omega), show P.1 + k - P.1 = k by omega]
    exact ⟨h4, byN_lt _ _⟩
  · rw [e i q]
    exact h.2.2 i (by show i < P.1 + k; omega)
theorem rt_0 {σ : Me} {P : Tp} (a b c : Int32) (h : RT σ P) : RT σ (fdK P a b c 0) := by
  refine ⟨h.1, h.2.1, fun i hi => ?_⟩
  have hi : i < P.1 + 0 := hi
  show σ 4 i = nI (if i < P.1 then P.2 i else _) ∧ (if i < P.1 then P.2 i else _) < 256
  rw [if_pos (by omega)]
  exact h.2.2 i (by omega)
theorem nI?_oI {o : Option Nat} : nI? o = match o with | none => (-1000000005) | some x => nI x := by cases o <;> rfl
theorem wt_s {σ : Me} {Q : Wt} (h : RWt σ Q) {v : Int32} : ∀ k, k < Q.1 + 1 → up (up σ 5 Q.1 v) 0 7 (nI (Q.1 + 1)) 5 k = (if k = Q.1 then v else Q.2 k) := fun k hk => by
  rw [up_n (by omega)]
  by_cases e : k = Q.1
  · rw [e, if_pos rfl, up_s]
  · rw [if_neg e, up_n (by omega)]
    exact h.2.2 k (by omega)
theorem cpk_ex {σ : Me} {n : Nat} : Ex pK σ (cpk σ 1 2 n) := fun c i e => by
  unfold cpk
  rw [if_neg (fun q => by rw [q] at e; simp [pK] at e)]
theorem cpk_ex1 {σ : Me} {a n : Nat} : Ex (fun c _ => decide (c = 1)) σ (cpk σ a 1 n) := fun c i e => by
  unfold cpk
  rw [if_neg (fun q => by rw [q] at e; simp at e)]
def oBack (o : Option Al) : Int32 := match o with | none => (-1000000002) | some B => nI (aW B)
def oBackA (A : Al) (o : Option Al) : Al := match o with | none => A | some B => B
