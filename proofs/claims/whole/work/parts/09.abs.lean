/-! ===== what both sides hold, as numbers: THINGS, NAMES, WORDS, worths, buyers, hours of birth, the words' five numbers, z, texts (key, leaves, code) ===== -/
abbrev Tx : Type := Nat × Nat × List Nat
abbrev Al : Type := Nat × Nat × Nat × (Nat → Nat) × (Nat → Nat) × (Nat → Nat) × (Nat → Nat → Nat) × Int32 × List Tx
def aT (A : Al) : Nat := A.1
def aN (A : Al) : Nat := A.2.1
def aW (A : Al) : Nat := A.2.2.1
def aO (A : Al) : Nat → Nat := A.2.2.2.1
def aB (A : Al) : Nat → Nat := A.2.2.2.2.1
def aE (A : Al) : Nat → Nat := A.2.2.2.2.2.1
def aF (A : Al) : Nat → Nat → Nat := A.2.2.2.2.2.2.1
def aZ (A : Al) : Int32 := A.2.2.2.2.2.2.2.1
def aX (A : Al) : List Tx := A.2.2.2.2.2.2.2.2
def inB (v lo hi : Int32) : Bool := decide (lo ≤ v) && decide (v ≤ hi)
def isB (v : Int32) (n : Nat) : Bool := inB v (nI 0) (nI n - nI 1)
def hdI (v m : Int32) : Int32 := if v < 0 then nI 0 else if m < v then m else v
def apN (a b : Nat) : Nat := if a < b then b - a else a - b
def pc12 (n : Nat) : Nat := (List.range 12).foldl (fun a i => if n.testBit i then a + 1 else a) 0
/-- how many of the first n words have x as their number f -/
def cw (A : Al) (f x : Nat) : Nat → Nat
  | 0 => 0
  | n + 1 => cw A f x n + if aF A n f = x then 1 else 0
/-- their stars together -/
def ss (A : Al) (f x : Nat) : Nat → Nat
  | 0 => 0
  | n + 1 => ss A f x n + if aF A n f = x then aF A n 4 else 0
def abv (k : Nat) : Nat := match k with | 3 => 1 | 4 => 2 | _ => 0
def undB (k a : Nat) : Bool := decide (k = a) || decide (a = 0) || (decide (k = 3) && decide (a = 1)) || (decide (k = 4) && decide (a = 2))
def trB (k : Nat) : Bool := !(decide (k = 5)) && !(undB k 2)
def sayN (k s : Nat) : Nat := match k with | 3 => 20 * s - 20 | 2 => 50 | 4 => 50 + s | 5 => 100 - 20 * s | _ => 20 * s
def cpk (σ : Me) (a b k : Nat) : Me := fun d j => if d = b then (if j < k then σ a j else σ d j) else σ d j
/-! ===== the reference's row s ===== -/
def RM (S : Nat → Int32) (A : Al) : Prop :=
  S 0 = nI (aT A) ∧ S 1 = nI (aN A) ∧ S 2 = nI (aW A) ∧ S 3 = nI (aX A).length ∧ S 4 = aZ A ∧ (∀ t, t < aT A → S (5 + 2 * t) = nI (aO A t) ∧ S (5 + 2 * t + 1) = nI (aB A t)) ∧ (∀ n, n < aN A → S (17 + n) = nI (aE A n)) ∧ (∀ w f, w < aW A → f < 5 → S (29 + 5 * w + f) = nI (aF A w f)) ∧
  ∀ x, x < (aX A).length → S (149 + 104 * x) = nI ((aX A).getD x (0, 0, [])).1 ∧ S (149 + 104 * x + 1) = nI ((aX A).getD x (0, 0, [])).2.1 ∧ S (149 + 104 * x + 2) = nI ((aX A).getD x (0, 0, [])).2.2.length ∧ ∀ k, k < ((aX A).getD x (0, 0, [])).2.2.length → S (149 + 104 * x + 3 + k) = nI (((aX A).getD x (0, 0, [])).2.2.getD k 0)
/-- the number of values on the pile behind a row of code; none: it does not go -/
def dpt : Nat → List Nat → Option Nat
  | d, [] => some d
  | d, c :: r => if c < 20000 then dpt (d + 1) r else if c = 20000 then (if d = 0 then none else dpt d r) else if d < 2 then none else dpt (d - 1) r
def lvs (l : List Nat) : Nat := (l.filter (fun c => decide (c < 20000))).length
/-- the letters of a key: s 18, h 7, b 1, c 2, m 12, w 22 -/
def ltr (key i : Nat) : Bool := if key = 2 then (decide (i = 12) || decide (i = 22) || decide (i = 2)) else (decide (i = 18) || decide (i = 7) || decide (i = 1) || (decide (key = 1) && decide (i = 2)))
theorem ltr_lt {key i : Nat} (h : ltr key i = true) : i < 26 := by
  unfold ltr at h
  split at h <;> simp at h <;> omega
def okT (t : Tx) : Prop := t.1 ≤ 2 ∧ t.2.2.length ≤ 92 ∧ dpt 0 t.2.2 = some 1 ∧ t.2.1 = lvs t.2.2 ∧ ∀ c ∈ t.2.2, c < 10000 ∨ (10000 ≤ c ∧ c < 20000 ∧ ltr t.1 (c - 10000) = true) ∨ (20000 ≤ c ∧ c ≤ 20009)
def Va (A : Al) : Prop :=
  aT A ≤ 6 ∧ aN A ≤ 12 ∧ aW A ≤ 24 ∧ (aX A).length ≤ 14 ∧ (∀ t, t < aT A → aO A t ≤ 100 ∧ aB A t ≤ 9999) ∧ (∀ n, n < aN A → aE A n ≤ 999) ∧
  (∀ w, w < aW A → aF A w 0 ≤ 5 ∧ aF A w 1 < aT A ∧ aF A w 2 < aN A ∧ aF A w 3 ≤ 999 ∧ 1 ≤ aF A w 4 ∧ aF A w 4 ≤ 5) ∧ ∀ t ∈ aX A, okT t
theorem cw_le (A : Al) (f x : Nat) : ∀ n, cw A f x n ≤ n
  | 0 => Nat.le_refl 0
  | n + 1 => by
    have h := cw_le A f x n
    show cw A f x n + _ ≤ _
    split <;> omega
theorem by64 {P : Nat → Prop} (h : ∀ a, a < 64 → ∀ b, b < 64 → P (64 * a + b)) : ∀ n, n < 4096 → P n := by
  intro n hn
  have := h (n / 64) (by omega) (n % 64) (by omega)
  rw [show 64 * (n / 64) + n % 64 = n by omega] at this
  exact this
theorem pc12_step : ∀ n, n < 4096 → 0 < n → pc12 (n &&& (n - 1)) + 1 = pc12 n ∧ (n &&& (n - 1)) < n := by64 (P := fun n => 0 < n → pc12 (n &&& (n - 1)) + 1 = pc12 n ∧ (n &&& (n - 1)) < n) (by decide +kernel)
theorem pc12_0 : pc12 0 = 0 := by decide
theorem pc12_le : ∀ n, n < 4096 → pc12 n ≤ 12 := by64 (P := fun n => pc12 n ≤ 12) (by decide +kernel)
theorem m1_ne {a : Nat} (h : a < 2 ^ 31) : ¬ ((-1 : Int32) = nI a) := fun e => by
  have := congrArg Int32.toInt e
  rw [nI_toInt h] at this
  have h2 : (-1 : Int32).toInt = -1 := by decide
  omega
def abI (k : Nat) : Int32 := if k = 0 then (-1) else nI (abv k)
def atB (v : Int32) : Bool := inB v (nI 0) (nI 9999) && inB (rem v (nI 10)) (nI 1) (nI 5)
def ofB (A : Al) (v : Int32) : Bool := decide (0 ≤ v) && (isB (v / nI 100) (aT A) && isB (rem v (nI 100)) (aN A))
theorem va_sm {A : Al} (hV : Va A) {w f : Nat} (hw : w < aW A) (hf : f < 5) : aF A w f < 1000 := by
  obtain ⟨h1, h2, h3, h4, h5, h6⟩ := hV.2.2.2.2.2.2.1 w hw
  have ht := hV.1
  have hn := hV.2.1
  rcases (show f = 0 ∨ f = 1 ∨ f = 2 ∨ f = 3 ∨ f = 4 by omega) with rfl | rfl | rfl | rfl | rfl <;> omega
theorem cpk_0 (σ : Me) (a b : Nat) : cpk σ a b 0 = σ := by
  funext d j
  simp [cpk]
theorem cpk_s (σ : Me) {a b k : Nat} : up (cpk σ a b k) b k (σ a k) = cpk σ a b (k + 1) := by
  funext d j
  by_cases h : d = b
  · subst h
    by_cases h2 : j = k
    · subst h2; simp [up, cpk]
    · simp only [up, cpk, h2, if_true, if_false]
      by_cases h3 : j < k
      · rw [if_pos h3, if_pos (by omega)]
      · rw [if_neg h3, if_neg (by omega)]
  · simp [up, cpk, h]
theorem cpk_o (σ : Me) {a b k i : Nat} (h : a ≠ b) : cpk σ a b k a i = σ a i := by simp [cpk, h]
theorem nneg_ne {a : Nat} {v : Int32} (h : a < 2 ^ 31) (hv : v < 0) : ¬ (nI a = v) := fun e => by
  rw [← e] at hv
  exact nI_pos h hv
theorem nneg_ne' {a : Nat} {v : Int32} (h : a < 2 ^ 31) (hv : v < 0) : ¬ (v = nI a) := fun e => nneg_ne h hv e.symm
