/-! ===== pour, reads of a sheet, lay of a slot, check ===== -/
/-- the first i places of a sheet's row, as plain words -/
def prK (A : Al) (t n : Nat) (f : Nat → Int32) : Nat → Al
  | 0 => A
  | i + 1 => addW (prK A t n f i) 0 t n ((f i).toNatClampNeg / 10) ((f i).toNatClampNeg % 10)
theorem prK_W (A : Al) (t n : Nat) (f : Nat → Int32) : ∀ i, aW (prK A t n f i) = aW A + i ∧ aN (prK A t n f i) = aN A ∧ aT (prK A t n f i) = aT A
  | 0 => ⟨rfl, rfl, rfl⟩
  | i + 1 => by
    obtain ⟨h1, h2, h3⟩ := prK_W A t n f i
    refine ⟨?_, ?_, ?_⟩
    · show aW (prK A t n f i) + 1 = _; omega
    · exact h2
    · exact h3
theorem va_prK {A : Al} (hV : Va A) {t n : Nat} {f : Nat → Int32} (ht : t < aT A) (hn : n < aN A) : ∀ i, aW A + i ≤ 24 → (∀ k, k < i → atB (f k) = true) → Va (prK A t n f i)
  | 0, _, _ => hV
  | i + 1, h1, h2 => by
    obtain ⟨q1, q2, q3⟩ := prK_W A t n f i
    obtain ⟨a, ha, he, ha1, ha5⟩ := at_nat (h2 i (by omega))
    have e : (f i).toNatClampNeg = a := by rw [he, nI_clamp (by omega)]
    exact va_addW (va_prK hV ht hn i (by omega) (fun k hk => h2 k (by omega))) (by omega) (by omega) (by omega) (by omega) (by rw [e]; omega) (by rw [e]; exact ha1) (by rw [e]; exact ha5)
theorem pfx_all {f : Nat → Bool} : ∀ {m k : Nat}, k < pfx f m → f k = true
  | 0, k, h => absurd h (Nat.not_lt_zero k)
  | m + 1, k, h => by
    unfold pfx at h
    split at h
    · rename_i e
      by_cases q : k = m
      · rw [q]; exact e.2
      · exact pfx_all (m := m) (by omega)
    · exact pfx_all h
def oPour (A : Al) (B : Bs) (k o : Int32) : Int32 × Al :=
  if inB k (nI 0) (nI 3) = true ∧ ofB A o = true then (match B.1 k.toNatClampNeg with
    | none => (-1000000011, A)
    | some _ => if 24 < aW A + tdN B k.toNatClampNeg then (-1000000003, A) else (nI (tdN B k.toNatClampNeg), prK A (o.toNatClampNeg / 100) (o.toNatClampNeg % 100) (B.2.2 k.toNatClampNeg) (tdN B k.toNatClampNeg)))
  else (-1000000001, A)
theorem oPour_0 {A : Al} {B : Bs} {k : Nat} {o : Int32} (hk : k < 4) (h1 : inB (nI k) (nI 0) (nI 3) = true) (h2 : ofB A o = true) (hs : B.1 k = none) : oPour A B (nI k) o = (-1000000011, A) := by
  unfold oPour; rw [if_pos ⟨h1, h2⟩, nI_clamp (by omega), hs]
theorem oPour_f {A : Al} {B : Bs} {k : Nat} {b : Bool} {o : Int32} (hk : k < 4) (h1 : inB (nI k) (nI 0) (nI 3) = true) (h2 : ofB A o = true) (hs : B.1 k = some b) (h : 24 < aW A + tdN B k) : oPour A B (nI k) o = (-1000000003, A) := by
  unfold oPour; rw [if_pos ⟨h1, h2⟩, nI_clamp (by omega), hs]; show (if _ then _ else _) = _; rw [if_pos h]
theorem oPour_y {A : Al} {B : Bs} {k : Nat} {b : Bool} {o : Nat} (hk : k < 4) (ho : o < 2 ^ 31) (h1 : inB (nI k) (nI 0) (nI 3) = true) (h2 : ofB A (nI o) = true) (hs : B.1 k = some b) (h : ¬ 24 < aW A + tdN B k) : oPour A B (nI k) (nI o) = (nI (tdN B k), prK A (o / 100) (o % 100) (B.2.2 k) (tdN B k)) := by
  unfold oPour; rw [if_pos ⟨h1, h2⟩, nI_clamp (by omega), nI_clamp (n := o) (by omega), hs]; show (if _ then _ else _) = _; rw [if_neg h]
/-- is a place of a sheet wrong? -/
def wrB (A : Al) (B : Bs) (q i : Nat) : Bool := !(decide (B.2.2 q i = -1000000005)) && !(decide (i < aT A) && decide (B.2.2 q i = nI (mz A i)))
def rsN (A : Al) (B : Bs) (q : Nat) : Nat := pfx (fun i => !(wrB A B q i)) (B.2.1 q)
def oReads (A : Al) (B : Bs) (k : Int32) : Int32 :=
  if inB k (nI 0) (nI 3) = true then (match B.1 k.toNatClampNeg with
    | none => -1000000011
    | some _ => if rsN A B k.toNatClampNeg < B.2.1 k.toNatClampNeg then nI (rsN A B k.toNatClampNeg) else -1000000005)
  else -1000000001
theorem wr_f1 {A : Al} {B : Bs} {q i : Nat} (h : B.2.2 q i = -1000000005) : (!(wrB A B q i)) = true := by unfold wrB; simp [h]
theorem wr_f2 {A : Al} {B : Bs} {q i : Nat} (h : i < aT A) (h2 : B.2.2 q i = nI (mz A i)) : (!(wrB A B q i)) = true := by unfold wrB; rw [decide_eq_true h, decide_eq_true h2]; simp
theorem wr_t1 {A : Al} {B : Bs} {q i : Nat} (h0 : ¬ B.2.2 q i = -1000000005) (h : ¬ i < aT A) : (!(wrB A B q i)) = false := by unfold wrB; rw [decide_eq_false h0, decide_eq_false h]; rfl
theorem wr_t2 {A : Al} {B : Bs} {q i : Nat} (h0 : ¬ B.2.2 q i = -1000000005) (h2 : ¬ B.2.2 q i = nI (mz A i)) : (!(wrB A B q i)) = false := by unfold wrB; rw [decide_eq_false h0, decide_eq_false h2]; simp
theorem isB_lt {k n : Nat} (hk : k < 2 ^ 31) (hn : n < 2 ^ 30) (h : isB (nI k) n = true) : k < n := by
  obtain ⟨j, hj, e⟩ := isB_nat h hn
  rw [nI_eq hk (by omega)] at e
  omega
theorem isB_ge {k n : Nat} (hn : n < 2 ^ 30) (h : isB (nI k) n = false) : ¬ k < n := fun e => by
  rw [isB_mk e hn] at h
  cases h
theorem oReads_0 {A : Al} {B : Bs} {k : Nat} (hk : k < 4) (h1 : inB (nI k) (nI 0) (nI 3) = true) (hs : B.1 k = none) : oReads A B (nI k) = -1000000011 := by
  unfold oReads; rw [if_pos h1, nI_clamp (by omega), hs]
theorem oReads_n {A : Al} {B : Bs} {k : Nat} {b : Bool} (hk : k < 4) (h1 : inB (nI k) (nI 0) (nI 3) = true) (hs : B.1 k = some b) (h : rsN A B k = B.2.1 k) : oReads A B (nI k) = -1000000005 := by
  unfold oReads; rw [if_pos h1, nI_clamp (by omega), hs]; show (if _ then _ else _) = _; rw [if_neg (by omega)]
theorem oReads_y {A : Al} {B : Bs} {k i : Nat} {b : Bool} (hk : k < 4) (h1 : inB (nI k) (nI 0) (nI 3) = true) (hs : B.1 k = some b) (h : rsN A B k = i) (hi : i < B.2.1 k) : oReads A B (nI k) = nI i := by
  unfold oReads; rw [if_pos h1, nI_clamp (by omega), hs]; show (if _ then _ else _) = _; rw [if_pos (by omega), h]
/-! slots -/
def lyS (Q : Ls) (s t : Nat) (a : Int32) (b : Nat) (f : Nat → Int32) : Ls := (fun j => if j = s then t else Q.1 j, fun j => if j = s then a else Q.2.1 j, fun j => if j = s then b else Q.2.2.1 j, fun j i => if j = s then f i else Q.2.2.2 j i)
def oLay (A : Al) (B : Bs) (Q : Ls) (s t k : Int32) : Int32 × Ls :=
  if inB s (nI 0) (nI 4) = true ∧ inB t (nI 0) (nI 3) = true ∧ ¬ (t = nI 1 ∧ isB k (aW A) = false) ∧ ¬ (t = nI 2 ∧ inB k (nI 0) (nI 3) = false) then
    (if t = nI 2 ∧ B.1 k.toNatClampNeg = none then (-1000000011, Q) else
      (nI (Q.1 s.toNatClampNeg), lyS Q s.toNatClampNeg t.toNatClampNeg (if t = nI 1 then nI (aF A k.toNatClampNeg 0) else if t = nI 2 then nI (B.2.1 k.toNatClampNeg) else k) (if t = nI 1 then aF A k.toNatClampNeg 4 else 0) (if t = nI 2 then B.2.2 k.toNatClampNeg else Q.2.2.2 s.toNatClampNeg)))
  else (-1000000001, Q)
theorem rsl_lay {σ τ : Me} {Q : Ls} (h : RSl σ Q) {s t b : Nat} {a : Int32} {f : Nat → Int32} (hs : s < 5) (ht : t ≤ 3) (e16 : τ 16 s = nI t) (e17 : τ 17 s = a) (e18 : τ 18 s = nI b) (e19 : ∀ i, i < 24 → τ 19 (24 * s + i) = f i) (f16 : ∀ j, j ≠ s → τ 16 j = σ 16 j) (f17 : ∀ j, j ≠ s → τ 17 j = σ 17 j) (f18 : ∀ j, j ≠ s → τ 18 j = σ 18 j) (f19 : ∀ j, j < 24 * s ∨ 24 * s + 24 ≤ j → τ 19 j = σ 19 j) (h1 : t = 1 → ∃ x, x ≤ 5 ∧ a = nI x ∧ 1 ≤ b ∧ b ≤ 5) (h2 : t = 2 → ∃ x, x ≤ 24 ∧ a = nI x) : RSl τ (lyS Q s t a b f) := by
  intro j hj
  show τ 16 j = nI (if j = s then t else Q.1 j) ∧ (if j = s then t else Q.1 j) ≤ 3 ∧ τ 17 j = (if j = s then a else Q.2.1 j) ∧ τ 18 j = nI (if j = s then b else Q.2.2.1 j) ∧ (∀ i, i < 24 → τ 19 (24 * j + i) = (if j = s then f i else Q.2.2.2 j i)) ∧ ((if j = s then t else Q.1 j) = 1 → ∃ x, x ≤ 5 ∧ (if j = s then a else Q.2.1 j) = nI x ∧ 1 ≤ (if j = s then b else Q.2.2.1 j) ∧ (if j = s then b else Q.2.2.1 j) ≤ 5) ∧ ((if j = s then t else Q.1 j) = 2 → ∃ x, x ≤ 24 ∧ (if j = s then a else Q.2.1 j) = nI x)
  by_cases q : j = s
  · subst q
    simp only [if_true]
    exact ⟨e16, ht, e17, e18, e19, h1, h2⟩
  · simp only [q, if_false]
    obtain ⟨g1, g2, g3, g4, g5, g6, g7⟩ := h j hj
    exact ⟨(f16 j q).trans g1, g2, (f17 j q).trans g3, (f18 j q).trans g4, fun i hi => (f19 (24 * j + i) (by clear g6 g7 h1 h2; omega)).trans (g5 i hi), g6, g7⟩
def pL (c _i : Nat) : Bool := decide (16 ≤ c) && decide (c ≤ 19)
/-! check -/
/-- behind k buys: the state, how many numbers were right, whether all were -/
noncomputable def rgS (A : Al) (h : Nat) (Q : Wt) : Nat → Al × Nat × Bool
  | 0 => (A, 0, true)
  | k + 1 =>
    if (rgS A h Q k).2.2 = true then
      (if (rgS A h Q k).2.1 < Q.1 ∧ Q.2 (rgS A h Q k).2.1 = nI (byT (rgS A h Q k).1).1 then
        (if (rgS A h Q k).2.1 + 1 < Q.1 ∧ Q.2 ((rgS A h Q k).2.1 + 1) = nI (byR (rgS A h Q k).1) then (byE (rgS A h Q k).1 h, (rgS A h Q k).2.1 + 1 + 1, true) else (byE (rgS A h Q k).1 h, (rgS A h Q k).2.1 + 1, false))
      else (byE (rgS A h Q k).1 h, (rgS A h Q k).2.1, false))
    else rgS A h Q k
theorem rgS_y {A : Al} {h : Nat} {Q : Wt} {k : Nat} (e : (rgS A h Q k).2.2 = true) (e1 : (rgS A h Q k).2.1 < Q.1) (e2 : Q.2 (rgS A h Q k).2.1 = nI (byT (rgS A h Q k).1).1) (e3 : (rgS A h Q k).2.1 + 1 < Q.1) (e4 : Q.2 ((rgS A h Q k).2.1 + 1) = nI (byR (rgS A h Q k).1)) : rgS A h Q (k + 1) = (byE (rgS A h Q k).1 h, (rgS A h Q k).2.1 + 1 + 1, true) := by rw [rgS, if_pos e, if_pos ⟨e1, e2⟩, if_pos ⟨e3, e4⟩]
theorem rgS_m {A : Al} {h : Nat} {Q : Wt} {k : Nat} (e : (rgS A h Q k).2.2 = true) (e1 : (rgS A h Q k).2.1 < Q.1) (e2 : Q.2 (rgS A h Q k).2.1 = nI (byT (rgS A h Q k).1).1) (e3 : ¬ ((rgS A h Q k).2.1 + 1 < Q.1 ∧ Q.2 ((rgS A h Q k).2.1 + 1) = nI (byR (rgS A h Q k).1))) : rgS A h Q (k + 1) = (byE (rgS A h Q k).1 h, (rgS A h Q k).2.1 + 1, false) := by rw [rgS, if_pos e, if_pos ⟨e1, e2⟩, if_neg e3]
theorem rgS_n {A : Al} {h : Nat} {Q : Wt} {k : Nat} (e : (rgS A h Q k).2.2 = true) (e1 : ¬ ((rgS A h Q k).2.1 < Q.1 ∧ Q.2 (rgS A h Q k).2.1 = nI (byT (rgS A h Q k).1).1)) : rgS A h Q (k + 1) = (byE (rgS A h Q k).1 h, (rgS A h Q k).2.1, false) := by rw [rgS, if_pos e, if_neg e1]
theorem rgS_f {A : Al} {h : Nat} {Q : Wt} {k : Nat} (e : (rgS A h Q k).2.2 = false) : ∀ n, k ≤ n → rgS A h Q n = rgS A h Q k := by
  intro n
  induction n with
  | zero => intro hn; rw [show k = 0 by omega]
  | succ n ih =>
    intro hn
    by_cases q : k = n + 1
    · rw [← q]
    · have hi := ih (by omega)
      rw [rgS, if_neg (by rw [hi, e]; decide), hi]
theorem rgS_ok {A : Al} (hV : Va A) (hT : 0 < aT A) {h : Nat} (hh : h ≤ 999) (Q : Wt) : ∀ k, Va (rgS A h Q k).1 ∧ aT (rgS A h Q k).1 = aT A ∧ (rgS A h Q k).2.1 ≤ Q.1
  | 0 => ⟨hV, rfl, Nat.zero_le _⟩
  | k + 1 => by
    obtain ⟨h1, h2, h3⟩ := rgS_ok hV hT hh Q k
    obtain ⟨q1, q2⟩ := va_byE h1 (by rw [h2]; exact hT) hh
    unfold rgS
    split
    · split
      · split
        · rename_i e1 e2 e3; exact ⟨q1, q2.trans h2, e3.1⟩
        · rename_i e1 e2 e3; exact ⟨q1, q2.trans h2, e2.1⟩
      · exact ⟨q1, q2.trans h2, h3⟩
    · exact ⟨h1, h2, h3⟩
noncomputable def oCheck (Q : Wt) (o : Option Al) (n h : Int32) : Int32 :=
  if inB n (nI 1) (nI 30) = true ∧ inB h (nI 0) (nI 999) = true then (match o with
    | none => -1000000002
    | some B => if aT B = 0 then -1000000002 else if (rgS B h.toNatClampNeg Q n.toNatClampNeg).2.1 = 2 * n.toNatClampNeg ∧ Q.1 = (rgS B h.toNatClampNeg Q n.toNatClampNeg).2.1 then nI 0 else nI (1 + (rgS B h.toNatClampNeg Q n.toNatClampNeg).2.1))
  else -1000000001
def pCh (c i : Nat) : Bool := scr c i || decide (c = 1) || decide (c = 3) || (decide (c = 0) && decide (i = 7))
theorem ck_fin {σ τ1 τ2 τ3 τ4 : Me} {A : Al} {Q : Wt} (hR : RM (σ 1) A) (hV : Va A) (e1 : τ1 = cpk (up σ 0 7 (nI 0)) 1 3 1605) (e2 : τ2 = cpk τ1 2 1 1605) (hS : S1 τ2 τ3) (e3 : τ4 = cpk τ3 3 1 1605) : RWt τ4 (0, Q.2) ∧ RM (τ4 1) A ∧ Ex pCh σ τ4 := by
  refine ⟨⟨?_, Nat.zero_le _, fun k hk => absurd hk (Nat.not_lt_zero k)⟩, RM.lt hR hV (fun j hj => ?_), fun c i h => ?_⟩
  · rw [e3, show cpk τ3 3 1 1605 0 7 = τ3 0 7 from rfl, hS 0 7 (by decide) (by decide), e2, e1]
    rfl
  · rw [e3]
    simp only [cpk, if_true, if_pos hj]
    rw [hS 3 j (by decide) (by simp [scr]), e2, e1]
    simp [cpk, hj, up]
  · unfold pCh at h
    simp only [Bool.or_eq_false_iff, decide_eq_false_iff_not] at h
    obtain ⟨⟨⟨h0, h1⟩, h3⟩, h7⟩ := h
    rw [e3]
    simp only [cpk, h1, if_false]
    rw [hS c i h1 h0, e2, e1]
    simp only [cpk, h1, h3, if_false]
    exact up_n (by
      rw [Bool.and_eq_false_iff] at h7
      simp at h7
      omega)
