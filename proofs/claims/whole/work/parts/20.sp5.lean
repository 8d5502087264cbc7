/-! ===== what the changing calls answer and leave ===== -/
def oThing (A : Al) (w : Int32) : Int32 × Al := if inB w (nI 0) (nI 100) = true then (if aT A = 6 then ((-1000000003), A) else (nI (aT A), addT A w.toNatClampNeg)) else ((-1000000001), A)
def oSet (A : Al) (th wh v : Int32) : Int32 × Al :=
  if isB th (aT A) = true then (if wh = nI 0 then (if inB v (nI 0) (nI 100) = true then (nI (aO A th.toNatClampNeg), setO A th.toNatClampNeg v.toNatClampNeg) else ((-1000000001), A)) else if wh = nI 1 then (if inB v (nI 0) (nI 9999) = true then (nI (aB A th.toNatClampNeg), setB A th.toNatClampNeg v.toNatClampNeg) else ((-1000000001), A)) else ((-1000000001), A)) else ((-1000000001), A)
def oName (A : Al) (b : Int32) : Int32 × Al := if inB b (nI 0) (nI 999) = true then (if aN A = 12 then ((-1000000003), A) else (nI (aN A), addN A b.toNatClampNeg)) else ((-1000000001), A)
def oWord (A : Al) (k o a : Int32) : Int32 × Al :=
  if inB k (nI 0) (nI 5) = true ∧ ofB A o = true ∧ atB a = true then (if aW A = 24 then ((-1000000003), A) else (nI (aW A), addW A k.toNatClampNeg (o.toNatClampNeg / 100) (o.toNatClampNeg % 100) (a.toNatClampNeg / 10) (a.toNatClampNeg % 10))) else ((-1000000001), A)
def oTurns (A : Al) (wo k : Int32) : Int32 × Al := if isB wo (aW A) = true ∧ inB k (nI 0) (nI 5) = true then (nI (aF A wo.toNatClampNeg 0), setF A wo.toNatClampNeg 0 k.toNatClampNeg) else ((-1000000001), A)
def oStar (A : Al) (wo v : Int32) : Int32 × Al := if isB wo (aW A) = true ∧ inB v (nI 1) (nI 5) = true then (nI (aF A wo.toNatClampNeg 4), setF A wo.toNatClampNeg 4 v.toNatClampNeg) else ((-1000000001), A)
def oDrop (A : Al) (wo : Int32) : Int32 × Al := if isB wo (aW A) = true then (nI (aW A - 1), delW A wo.toNatClampNeg) else ((-1000000001), A)
def oSeed (A : Al) (v : Int32) : Int32 × Al := (aZ A, setZ A v)
/-- i words of a job -/
def jobK (A : Al) (t h s : Nat) : Nat → Al
  | 0 => A
  | i + 1 => addW (jobK A t h s i) 2 t (i % aN A) (h + i) s
def oJob (A : Al) (th n h s : Int32) : Int32 × Al :=
  if isB th (aT A) = true ∧ inB n (nI 1) (nI 12) = true ∧ inB h (nI 0) (nI 1000 - n) = true ∧ inB s (nI 1) (nI 5) = true then (if aN A = 0 then ((-1000000002), A) else if 24 < aW A + n.toNatClampNeg then ((-1000000003), A) else (nI (aW A), jobK A th.toNatClampNeg h.toNatClampNeg s.toNatClampNeg n.toNatClampNeg)) else ((-1000000001), A)
def dz (z : Int32) : Int32 := z * 1103515245 + nI 12345
def drN (z : Int32) : Nat := z.toBitVec.toNat / 256
theorem drN_lt (z : Int32) : drN z < 16777216 := by
  unfold drN
  have := z.toBitVec.isLt
  omega
theorem ushr8 (z : Int32) : ushr z (nI 8) = nI (drN z) := by
  have h := pk_ushr z (nI 8) 8 (by decide)
  have h2 : (nI (drN z)).toBitVec.toNat = drN z := pk_tn (by have := drN_lt z; omega)
  apply Int32.toBitVec_inj.mp
  apply BitVec.eq_of_toNat_eq
  rw [h2]
  exact h
theorem at_nat {v : Int32} (h : atB v = true) : ∃ a, a ≤ 9999 ∧ v = nI a ∧ 1 ≤ a % 10 ∧ a % 10 ≤ 5 := by
  unfold atB at h
  rw [Bool.and_eq_true] at h
  obtain ⟨a, -, h2, rfl⟩ := inB_nat h.1 (by decide) (by decide)
  have h3 := h.2
  rw [rem, pk_rem (by omega) (by decide) (by decide)] at h3
  obtain ⟨b, h4, h5, h6⟩ := inB_nat h3 (by decide) (by decide)
  rw [nI_eq (by omega) (by omega)] at h6
  exact ⟨a, h2, rfl, by omega, by omega⟩
theorem of_nat {A : Al} (hV : Va A) {v : Int32} (h : ofB A v = true) : ∃ a, a < 2 ^ 31 ∧ v = nI a ∧ a / 100 < aT A ∧ a % 100 < aN A := by
  have hT := hV.1
  have hN := hV.2.1
  unfold ofB at h
  rw [Bool.and_eq_true, Bool.and_eq_true] at h
  obtain ⟨h1, h2, h3⟩ := h
  have h0 : (0 : Int32) ≤ v := by simpa using h1
  obtain ⟨a, ha, rfl⟩ := nI_of (x := v) (sgn_ge h0)
  rw [pk_div ha (by decide) (by decide)] at h2
  rw [rem, pk_rem ha (by decide) (by decide)] at h3
  obtain ⟨b, hb, e1⟩ := isB_nat h2 (by omega)
  obtain ⟨c, hc, e2⟩ := isB_nat h3 (by omega)
  rw [nI_eq (by omega) (by omega)] at e1 e2
  exact ⟨a, ha, rfl, by omega, by omega⟩
/-- places a .. a + i of the row s hold what stood five behind -/
def shm (σ : Me) (a i : Nat) : Me := fun d j => if d = 1 ∧ a ≤ j ∧ j < a + i then σ 1 (j + 5) else σ d j
theorem shm_0 (σ : Me) (a : Nat) : shm σ a 0 = σ := by
  funext d j
  unfold shm
  rw [if_neg (by omega)]
theorem shm_s (σ : Me) {a i : Nat} : up (shm σ a i) 1 (a + i) (σ 1 (a + i + 5)) = shm σ a (i + 1) := by
  funext d j
  by_cases h : d = 1 ∧ j = a + i
  · obtain ⟨rfl, rfl⟩ := h
    rw [up_s]
    unfold shm
    rw [if_pos (by omega)]
  · rw [up_n (by omega)]
    unfold shm
    by_cases h2 : d = 1 ∧ a ≤ j ∧ j < a + i
    · rw [if_pos h2, if_pos (by omega)]
    · rw [if_neg h2, if_neg (by omega)]
theorem shm_o (σ : Me) {a i d j : Nat} (h : ¬ (d = 1 ∧ a ≤ j ∧ j < a + i)) : shm σ a i d j = σ d j := by unfold shm; rw [if_neg h]
theorem shm_of (σ : Me) (a i : Nat) : Of 1 σ (shm σ a i) := fun c j h => shm_o σ (fun q => h q.1)
theorem jobK_W (A : Al) (t h s : Nat) : ∀ i, aW (jobK A t h s i) = aW A + i ∧ aN (jobK A t h s i) = aN A ∧ aT (jobK A t h s i) = aT A
  | 0 => ⟨rfl, rfl, rfl⟩
  | i + 1 => by
    obtain ⟨h1, h2, h3⟩ := jobK_W A t h s i
    refine ⟨?_, ?_, ?_⟩
    · show aW (jobK A t h s i) + 1 = _; omega
    · exact h2
    · exact h3
theorem va_jobK {A : Al} (hV : Va A) {t h s : Nat} (ht : t < aT A) (hn : 0 < aN A) (hs1 : 1 ≤ s) (hs5 : s ≤ 5) : ∀ i, aW A + i ≤ 24 → h + i ≤ 1000 → Va (jobK A t h s i)
  | 0, _, _ => hV
  | i + 1, h1, h2 => by
    obtain ⟨q1, q2, q3⟩ := jobK_W A t h s i
    exact va_addW (va_jobK hV ht hn hs1 hs5 i (by omega) (by omega)) (by omega) (by omega) (by omega) (by rw [q2]; exact Nat.mod_lt _ hn) (by omega) hs1 hs5
theorem Of.s1 {σ τ : Me} (h : Of 1 σ τ) : S1 σ τ := fun c i e _ => h c i e
theorem wd5_all {S : Nat → Int32} {a k t n h s : Nat} (h0 : S (a + 0) = nI k) (h1 : S (a + 1) = nI t) (h2 : S (a + 2) = nI n) (h3 : S (a + 3) = nI h) (h4 : S (a + 4) = nI s) : ∀ f, f < 5 → S (a + f) = nI (wd5 k t n h s f) := fun f hf => by
  rcases (show f = 0 ∨ f = 1 ∨ f = 2 ∨ f = 3 ∨ f = 4 by omega) with rfl | rfl | rfl | rfl | rfl
  · exact h0
  · exact h1
  · exact h2
  · exact h3
  · exact h4
