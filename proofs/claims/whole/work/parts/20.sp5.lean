/-! ===== parts of a changed state ===== -/
theorem aT_setO (A : Al) (q v : Nat) : aT (setO A q v) = aT A := rfl
theorem aN_setO (A : Al) (q v : Nat) : aN (setO A q v) = aN A := rfl
theorem aW_setO (A : Al) (q v : Nat) : aW (setO A q v) = aW A := rfl
theorem aO_setO (A : Al) (q v : Nat) : aO (setO A q v) = (fun t => if t = q then v else aO A t) := rfl
theorem aB_setO (A : Al) (q v : Nat) : aB (setO A q v) = aB A := rfl
theorem aE_setO (A : Al) (q v : Nat) : aE (setO A q v) = aE A := rfl
theorem aF_setO (A : Al) (q v : Nat) : aF (setO A q v) = aF A := rfl
theorem aZ_setO (A : Al) (q v : Nat) : aZ (setO A q v) = aZ A := rfl
theorem aX_setO (A : Al) (q v : Nat) : aX (setO A q v) = aX A := rfl
theorem aT_setB (A : Al) (q v : Nat) : aT (setB A q v) = aT A := rfl
theorem aN_setB (A : Al) (q v : Nat) : aN (setB A q v) = aN A := rfl
theorem aW_setB (A : Al) (q v : Nat) : aW (setB A q v) = aW A := rfl
theorem aO_setB (A : Al) (q v : Nat) : aO (setB A q v) = aO A := rfl
theorem aB_setB (A : Al) (q v : Nat) : aB (setB A q v) = (fun t => if t = q then v else aB A t) := rfl
theorem aE_setB (A : Al) (q v : Nat) : aE (setB A q v) = aE A := rfl
theorem aF_setB (A : Al) (q v : Nat) : aF (setB A q v) = aF A := rfl
theorem aZ_setB (A : Al) (q v : Nat) : aZ (setB A q v) = aZ A := rfl
theorem aX_setB (A : Al) (q v : Nat) : aX (setB A q v) = aX A := rfl
theorem aT_setF (A : Al) (q g v : Nat) : aT (setF A q g v) = aT A := rfl
theorem aN_setF (A : Al) (q g v : Nat) : aN (setF A q g v) = aN A := rfl
theorem aW_setF (A : Al) (q g v : Nat) : aW (setF A q g v) = aW A := rfl
theorem aO_setF (A : Al) (q g v : Nat) : aO (setF A q g v) = aO A := rfl
theorem aB_setF (A : Al) (q g v : Nat) : aB (setF A q g v) = aB A := rfl
theorem aE_setF (A : Al) (q g v : Nat) : aE (setF A q g v) = aE A := rfl
theorem aF_setF (A : Al) (q g v : Nat) : aF (setF A q g v) = (fun w f => if w = q ∧ f = g then v else aF A w f) := rfl
theorem aZ_setF (A : Al) (q g v : Nat) : aZ (setF A q g v) = aZ A := rfl
theorem aX_setF (A : Al) (q g v : Nat) : aX (setF A q g v) = aX A := rfl
theorem aT_setZ (A : Al) (z : Int32) : aT (setZ A z) = aT A := rfl
theorem aN_setZ (A : Al) (z : Int32) : aN (setZ A z) = aN A := rfl
theorem aW_setZ (A : Al) (z : Int32) : aW (setZ A z) = aW A := rfl
theorem aO_setZ (A : Al) (z : Int32) : aO (setZ A z) = aO A := rfl
theorem aB_setZ (A : Al) (z : Int32) : aB (setZ A z) = aB A := rfl
theorem aE_setZ (A : Al) (z : Int32) : aE (setZ A z) = aE A := rfl
theorem aF_setZ (A : Al) (z : Int32) : aF (setZ A z) = aF A := rfl
theorem aZ_setZ (A : Al) (z : Int32) : aZ (setZ A z) = z := rfl
theorem aX_setZ (A : Al) (z : Int32) : aX (setZ A z) = aX A := rfl
theorem aT_addX (A : Al) (x : Tx) : aT (addX A x) = aT A := rfl
theorem aN_addX (A : Al) (x : Tx) : aN (addX A x) = aN A := rfl
theorem aW_addX (A : Al) (x : Tx) : aW (addX A x) = aW A := rfl
theorem aO_addX (A : Al) (x : Tx) : aO (addX A x) = aO A := rfl
theorem aB_addX (A : Al) (x : Tx) : aB (addX A x) = aB A := rfl
theorem aE_addX (A : Al) (x : Tx) : aE (addX A x) = aE A := rfl
theorem aF_addX (A : Al) (x : Tx) : aF (addX A x) = aF A := rfl
theorem aZ_addX (A : Al) (x : Tx) : aZ (addX A x) = aZ A := rfl
theorem aX_addX (A : Al) (x : Tx) : aX (addX A x) = (aX A ++ [x]) := rfl
theorem aT_addT (A : Al) (v : Nat) : aT (addT A v) = (aT A + 1) := rfl
theorem aN_addT (A : Al) (v : Nat) : aN (addT A v) = aN A := rfl
theorem aW_addT (A : Al) (v : Nat) : aW (addT A v) = aW A := rfl
theorem aO_addT (A : Al) (v : Nat) : aO (addT A v) = (fun t => if t = aT A then v else aO A t) := rfl
theorem aB_addT (A : Al) (v : Nat) : aB (addT A v) = (fun t => if t = aT A then 0 else aB A t) := rfl
theorem aE_addT (A : Al) (v : Nat) : aE (addT A v) = aE A := rfl
theorem aF_addT (A : Al) (v : Nat) : aF (addT A v) = aF A := rfl
theorem aZ_addT (A : Al) (v : Nat) : aZ (addT A v) = aZ A := rfl
theorem aX_addT (A : Al) (v : Nat) : aX (addT A v) = aX A := rfl
theorem aT_addN (A : Al) (v : Nat) : aT (addN A v) = aT A := rfl
theorem aN_addN (A : Al) (v : Nat) : aN (addN A v) = (aN A + 1) := rfl
theorem aW_addN (A : Al) (v : Nat) : aW (addN A v) = aW A := rfl
theorem aO_addN (A : Al) (v : Nat) : aO (addN A v) = aO A := rfl
theorem aB_addN (A : Al) (v : Nat) : aB (addN A v) = aB A := rfl
theorem aE_addN (A : Al) (v : Nat) : aE (addN A v) = (fun t => if t = aN A then v else aE A t) := rfl
theorem aF_addN (A : Al) (v : Nat) : aF (addN A v) = aF A := rfl
theorem aZ_addN (A : Al) (v : Nat) : aZ (addN A v) = aZ A := rfl
theorem aX_addN (A : Al) (v : Nat) : aX (addN A v) = aX A := rfl
theorem aT_addW (A : Al) (k t n h s : Nat) : aT (addW A k t n h s) = aT A := rfl
theorem aN_addW (A : Al) (k t n h s : Nat) : aN (addW A k t n h s) = aN A := rfl
theorem aW_addW (A : Al) (k t n h s : Nat) : aW (addW A k t n h s) = (aW A + 1) := rfl
theorem aO_addW (A : Al) (k t n h s : Nat) : aO (addW A k t n h s) = aO A := rfl
theorem aB_addW (A : Al) (k t n h s : Nat) : aB (addW A k t n h s) = aB A := rfl
theorem aE_addW (A : Al) (k t n h s : Nat) : aE (addW A k t n h s) = aE A := rfl
theorem aF_addW (A : Al) (k t n h s : Nat) : aF (addW A k t n h s) = (fun w f => if w = aW A then wd5 k t n h s f else aF A w f) := rfl
theorem aZ_addW (A : Al) (k t n h s : Nat) : aZ (addW A k t n h s) = aZ A := rfl
theorem aX_addW (A : Al) (k t n h s : Nat) : aX (addW A k t n h s) = aX A := rfl
theorem aT_delW (A : Al) (q : Nat) : aT (delW A q) = aT A := rfl
theorem aN_delW (A : Al) (q : Nat) : aN (delW A q) = aN A := rfl
theorem aW_delW (A : Al) (q : Nat) : aW (delW A q) = (aW A - 1) := rfl
theorem aO_delW (A : Al) (q : Nat) : aO (delW A q) = aO A := rfl
theorem aB_delW (A : Al) (q : Nat) : aB (delW A q) = aB A := rfl
theorem aE_delW (A : Al) (q : Nat) : aE (delW A q) = aE A := rfl
theorem aF_delW (A : Al) (q : Nat) : aF (delW A q) = (fun w f => if w < q then aF A w f else aF A (w + 1) f) := rfl
theorem aZ_delW (A : Al) (q : Nat) : aZ (delW A q) = aZ A := rfl
theorem aX_delW (A : Al) (q : Nat) : aX (delW A q) = aX A := rfl
/-! ===== what the changing calls answer and leave ===== -/
def oThing (A : Al) (w : Int32) : Int32 × Al := if inB w (nI 0) (nI 100) = true then (if aT A = 6 then ((-1000000003), A) else (nI (aT A), addT A w.toNatClampNeg)) else ((-1000000001), A)
def oSet (A : Al) (th wh v : Int32) : Int32 × Al :=
  if isB th (aT A) = true then (if wh = nI 0 then (if inB v (nI 0) (nI 100) = true then (nI (aO A th.toNatClampNeg), setO A th.toNatClampNeg v.toNatClampNeg) else ((-1000000001), A)) else if wh = nI 1 then (if inB v (nI 0) (nI 9999) = true then (nI (aB A th.toNatClampNeg), setB A th.toNatClampNeg v.toNatClampNeg) else ((-1000000001), A)) else ((-1000000001), A)) else ((-1000000001), A)
def oName (A : Al) (b : Int32) : Int32 × Al := if inB b (nI 0) (nI 999) = true then (if aN A = 12 then ((-1000000003), A) else (nI (aN A), addN A b.toNatClampNeg)) else ((-1000000001), A)
def oWord (A : Al) (k o a : Int32) : Int32 × Al :=
  if inB k (nI 0) (nI 5) = true ∧ ofB A o = true ∧ atB a = true then (if aW A = 24 then ((-1000000003), A) else (nI (aW A), addW A k.toNatClampNeg (o.toNatClampNeg / 100) (o.toNatClampNeg % 100) (a.toNatClampNeg / 10) (a.toNatClampNeg % 10))) else ((-1000000001), A)
def oTurns (A : Al) (wo k : Int32) : Int32 × Al := if isB wo (aW A) = true ∧ inB k (nI 0) (nI 5) = true then (nI (aF A wo.toNatClampNeg 0), setF A wo.toNatClampNeg 0 k.toNatClampNeg) else ((-1000000001), A)
def oStar (A : Al) (wo v : Int32) : Int32 × Al := if isB wo (aW A) = true ∧ inB v (nI 1) (nI 5) = true then (nI (aF A wo.toNatClampNeg 4), setF A wo.toNatClampNeg 4 v.toNatClampNeg) else ((-1000000001), A)
def oDrop (A : Al) (wo : Int32) : Int32 × Al := if isB wo (aW A) = true then (nI (aW A - 1), delW A wo.toNatClampNeg) else ((-1000000001), A)
def oSeed (A : Al) (v : Int32) : Int32 × Al := (aZ A, setZ A v)
/-- i words of a job -/
def jobK (A : Al) (t h s : Nat) : Nat → Al
  | 0 => A
  | i + 1 => addW (jobK A t h s i) 2 t (i % aN A) (h + i) s
def oJob (A : Al) (th n h s : Int32) : Int32 × Al :=
  if isB th (aT A) = true ∧ inB n (nI 1) (nI 12) = true ∧ inB h (nI 0) (nI 1000 - n) = true ∧ inB s (nI 1) (nI 5) = true then (if aN A = 0 then ((-1000000002), A) else if 24 < aW A + n.toNatClampNeg then ((-1000000003), A) else (nI (aW A), jobK A th.toNatClampNeg h.toNatClampNeg s.toNatClampNeg n.toNatClampNeg)) else ((-1000000001), A)
/-- a draw's new z, kept closed so that nothing works the product out -/
theorem dz_ex (z : Int32) : ∃ y : Int32, y = z * 1103515245 + nI 12345 := ⟨_, rfl⟩
noncomputable def dz (z : Int32) : Int32 := Classical.choose (dz_ex z)
theorem dz_eq (z : Int32) : dz z = z * 1103515245 + nI 12345 := Classical.choose_spec (dz_ex z)
def drN (z : Int32) : Nat := z.toBitVec.toNat / 256
theorem drN_lt (z : Int32) : drN z < 16777216 := by
  unfold drN
  have := z.toBitVec.isLt
  omega
theorem ushr8 (z : Int32) : ushr z (nI 8) = nI (drN z) := by
  have h := pk_ushr z (nI 8) 8 (by decide)
  have h2 : (nI (drN z)).toBitVec.toNat = drN z := pk_tn (by have := drN_lt z; omega)
  apply Int32.toBitVec_inj.mp
  apply BitVec.eq_of_toNat_eq
  rw [h2]
  exact h
/-- behind a draw; it gives drN (aZ ..) -/
noncomputable def drA (A : Al) : Al := setZ A (dz (aZ A))
theorem aT_drA (A : Al) : aT (drA A) = aT A := by unfold drA; exact aT_setZ A _
theorem aN_drA (A : Al) : aN (drA A) = aN A := by unfold drA; exact aN_setZ A _
theorem aW_drA (A : Al) : aW (drA A) = aW A := by unfold drA; exact aW_setZ A _
theorem aO_drA (A : Al) : aO (drA A) = aO A := by unfold drA; exact aO_setZ A _
theorem aB_drA (A : Al) : aB (drA A) = aB A := by unfold drA; exact aB_setZ A _
theorem aE_drA (A : Al) : aE (drA A) = aE A := by unfold drA; exact aE_setZ A _
theorem aF_drA (A : Al) : aF (drA A) = aF A := by unfold drA; exact aF_setZ A _
theorem aZ_drA (A : Al) : aZ (drA A) = dz (aZ A) := by unfold drA; exact aZ_setZ A _
theorem aX_drA (A : Al) : aX (drA A) = aX A := by unfold drA; exact aX_setZ A _
theorem at_nat {v : Int32} (h : atB v = true) : ∃ a, a ≤ 9999 ∧ v = nI a ∧ 1 ≤ a % 10 ∧ a % 10 ≤ 5 := by
  unfold atB at h
  rw [Bool.and_eq_true] at h
  obtain ⟨a, -, h2, rfl⟩ := inB_nat h.1 (by decide) (by decide)
  have h3 := h.2
  rw [rem, pk_rem (by omega) (by decide) (by decide)] at h3
  obtain ⟨b, h4, h5, h6⟩ := inB_nat h3 (by decide) (by decide)
  rw [nI_eq (by omega) (by omega)] at h6
  exact ⟨a, h2, rfl, by omega, by omega⟩
theorem of_nat {A : Al} (hV : Va A) {v : Int32} (h : ofB A v = true) : ∃ a, a < 2 ^ 31 ∧ v = nI a ∧ a / 100 < aT A ∧ a % 100 < aN A := by
  have hT := hV.1
  have hN := hV.2.1
  unfold ofB at h
  rw [Bool.and_eq_true, Bool.and_eq_true] at h
  obtain ⟨h1, h2, h3⟩ := h
  have h0 : (0 : Int32) ≤ v := by simpa using h1
  obtain ⟨a, ha, rfl⟩ := nI_of (x := v) (sgn_ge h0)
  rw [pk_div ha (by decide) (by decide)] at h2
  rw [rem, pk_rem ha (by decide) (by decide)] at h3
  obtain ⟨b, hb, e1⟩ := isB_nat h2 (by omega)
  obtain ⟨c, hc, e2⟩ := isB_nat h3 (by omega)
  rw [nI_eq (by omega) (by omega)] at e1 e2
  exact ⟨a, ha, rfl, by omega, by omega⟩
/-- places a .. a + i of the row s hold what stood five behind -/
def shm (σ : Me) (a i : Nat) : Me := fun d j => if d = 1 ∧ a ≤ j ∧ j < a + i then σ 1 (j + 5) else σ d j
theorem shm_0 (σ : Me) (a : Nat) : shm σ a 0 = σ := by
  funext d j
  unfold shm
  rw [if_neg (by omega)]
theorem shm_s (σ : Me) {a i : Nat} : up (shm σ a i) 1 (a + i) (σ 1 (a + i + 5)) = shm σ a (i + 1) := by
  funext d j
  by_cases h : d = 1 ∧ j = a + i
  · obtain ⟨rfl, rfl⟩ := h
    rw [up_s]
    unfold shm
    rw [if_pos (by omega)]
  · rw [up_n (by omega)]
    unfold shm
    by_cases h2 : d = 1 ∧ a ≤ j ∧ j < a + i
    · rw [if_pos h2, if_pos (by omega)]
    · rw [if_neg h2, if_neg (by omega)]
theorem shm_o (σ : Me) {a i d j : Nat} (h : ¬ (d = 1 ∧ a ≤ j ∧ j < a + i)) : shm σ a i d j = σ d j := by unfold shm; rw [if_neg h]
theorem shm_of (σ : Me) (a i : Nat) : Of 1 σ (shm σ a i) := fun c j h => shm_o σ (fun q => h q.1)
theorem jobK_W (A : Al) (t h s : Nat) : ∀ i, aW (jobK A t h s i) = aW A + i ∧ aN (jobK A t h s i) = aN A ∧ aT (jobK A t h s i) = aT A
  | 0 => ⟨rfl, rfl, rfl⟩
  | i + 1 => by
    obtain ⟨h1, h2, h3⟩ := jobK_W A t h s i
    refine ⟨?_, ?_, ?_⟩
    · show aW (jobK A t h s i) + 1 = _; omega
    · exact h2
    · exact h3
theorem va_jobK {A : Al} (hV : Va A) {t h s : Nat} (ht : t < aT A) (hn : 0 < aN A) (hs1 : 1 ≤ s) (hs5 : s ≤ 5) : ∀ i, aW A + i ≤ 24 → h + i ≤ 1000 → Va (jobK A t h s i)
  | 0, _, _ => hV
  | i + 1, h1, h2 => by
    obtain ⟨q1, q2, q3⟩ := jobK_W A t h s i
    exact va_addW (va_jobK hV ht hn hs1 hs5 i (by omega) (by omega)) (by omega) (by omega) (by omega) (by rw [q2]; exact Nat.mod_lt _ hn) (by omega) hs1 hs5
theorem Of.s1 {σ τ : Me} (h : Of 1 σ τ) : S1 σ τ := fun c i e _ => h c i e
theorem wd5_all {S : Nat → Int32} {a k t n h s : Nat} (h0 : S (a + 0) = nI k) (h1 : S (a + 1) = nI t) (h2 : S (a + 2) = nI n) (h3 : S (a + 3) = nI h) (h4 : S (a + 4) = nI s) : ∀ f, f < 5 → S (a + f) = nI (wd5 k t n h s f) := fun f hf => by
  rcases (show f = 0 ∨ f = 1 ∨ f = 2 ∨ f = 3 ∨ f = 4 by omega) with rfl | rfl | rfl | rfl | rfl
  · exact h0
  · exact h1
  · exact h2
  · exact h3
  · exact h4
