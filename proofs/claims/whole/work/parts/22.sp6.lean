/-! ===== groups, waves, changes, signs, buyers ===== -/
def anyB (p : Nat → Bool) : Nat → Bool
  | 0 => false
  | n + 1 => anyB p n || p n
def allB (p : Nat → Bool) : Nat → Bool
  | 0 => true
  | n + 1 => allB p n && p n
def cntB (p : Nat → Bool) : Nat → Nat
  | 0 => 0
  | n + 1 => cntB p n + if p n = true then 1 else 0
theorem anyB_of {p : Nat → Bool} {k : Nat} (h : p k = true) : ∀ {n : Nat}, k < n → anyB p n = true
  | 0, hk => absurd hk (Nat.not_lt_zero k)
  | n + 1, hk => by
    unfold anyB
    by_cases e : k = n
    · rw [← e, h, Bool.or_true]
    · rw [anyB_of h (by omega : k < n), Bool.true_or]
theorem anyB_s {p : Nat → Bool} {n : Nat} (h : anyB p n = false) (h2 : p n = false) : anyB p (n + 1) = false := by rw [anyB, h, h2]; rfl
theorem anyB_iff {p : Nat → Bool} : ∀ {n : Nat}, anyB p n = true ↔ ∃ k, k < n ∧ p k = true
  | 0 => ⟨fun h => (by cases h), fun ⟨k, h, _⟩ => absurd h (Nat.not_lt_zero k)⟩
  | n + 1 => by
    constructor
    · intro h
      unfold anyB at h
      rcases (Bool.or_eq_true _ _).mp h with h | h
      · obtain ⟨k, h1, h2⟩ := anyB_iff.mp h; exact ⟨k, by omega, h2⟩
      · exact ⟨n, by omega, h⟩
    · rintro ⟨k, h1, h2⟩; exact anyB_of h2 h1
theorem allB_of {p : Nat → Bool} {k : Nat} (h : p k = false) : ∀ {n : Nat}, k < n → allB p n = false
  | 0, hk => absurd hk (Nat.not_lt_zero k)
  | n + 1, hk => by
    unfold allB
    by_cases e : k = n
    · rw [← e, h, Bool.and_false]
    · rw [allB_of h (by omega : k < n), Bool.false_and]
theorem allB_s {p : Nat → Bool} {n : Nat} (h : allB p n = true) (h2 : p n = true) : allB p (n + 1) = true := by rw [allB, h, h2]; rfl
theorem cntB_le (p : Nat → Bool) : ∀ n, cntB p n ≤ n
  | 0 => Nat.le_refl 0
  | n + 1 => by have := cntB_le p n; unfold cntB; split <;> omega
theorem cntB_cong {p q : Nat → Bool} : ∀ {n : Nat}, (∀ k, k < n → p k = q k) → cntB p n = cntB q n
  | 0, _ => rfl
  | n + 1, h => by unfold cntB; rw [cntB_cong (fun k hk => h k (by omega)), h n (by omega)]
def mtB (A : Al) (o1 o2 t w a b : Nat) : Bool := decide (aF A a 2 = o1) && decide (aF A b 2 = o2) && decide (aF A a 1 = t) && decide (aF A b 1 = t) && decide (aF A a 4 = aF A b 4) && decide (apN (aF A a 3) (aF A b 3) ≤ w)
def alR (A : Al) (o1 o2 t w a : Nat) : Bool := anyB (fun b => mtB A o1 o2 t w a b) (aW A)
def alB (A : Al) (o1 o2 t w : Nat) : Bool := anyB (alR A o1 o2 t w) (aW A)
def alN (A : Al) (o1 o2 w : Nat) : Nat := cntB (fun t => alB A o1 o2 t w) (aT A)
theorem alN_le {A : Al} (hV : Va A) (o1 o2 w : Nat) : alN A o1 o2 w ≤ 6 := Nat.le_trans (cntB_le _ _) hV.1
def oAlike (A : Al) (one other w : Int32) : Int32 := if isB one (aN A) = true ∧ isB other (aN A) = true ∧ ¬ one = other ∧ inB w (nI 0) (nI 999) = true then nI (alN A one.toNatClampNeg other.toNatClampNeg w.toNatClampNeg) else (-1000000001)
/-- the bits of a name's friends, of the first b names -/
def frI (A : Al) (k w a : Nat) : Nat → Int32
  | 0 => nI 1 <<< (nI a &&& 31)
  | b + 1 => frI A k w a b ||| (if ¬ a = b ∧ k ≤ alN A a b w then nI 1 <<< (nI b &&& 31) else nI 0)
def gokB (F : Nat → Int32) (s a : Nat) : Bool := decide ((nI s >>> (nI a &&& 31)) &&& nI 1 = 0) || decide (nI s &&& (F a ^^^ (-1)) = 0)
/-- the best of the sets up to i -/
def bst (F : Nat → Int32) (n : Nat) : Nat → Nat
  | 0 => 0
  | i + 1 => if pc12 (bst F n i) < pc12 (i + 1) ∧ allB (gokB F (i + 1)) n = true then i + 1 else bst F n i
theorem bst_le (F : Nat → Int32) (n : Nat) : ∀ i, bst F n i ≤ i
  | 0 => Nat.le_refl 0
  | i + 1 => by have := bst_le F n i; unfold bst; split <;> omega
def grp (A : Al) (k w : Nat) : Nat := bst (fun a => frI A k w a (aN A)) (aN A) (2 ^ aN A - 1)
def oGroup (A : Al) (k w : Int32) : Int32 := if inB k (nI 1) (nI 6) = true ∧ inB w (nI 0) (nI 999) = true then nI (grp A k.toNatClampNeg w.toNatClampNeg) else (-1000000001)
theorem shl1 : ∀ n, n ≤ 12 → nI 1 <<< (nI n &&& 31) = nI (2 ^ n) := by decide +kernel
theorem two_le {n : Nat} (h : n ≤ 12) : 2 ^ n ≤ 4096 := Nat.pow_le_pow_right (by decide) h
theorem two_pos (n : Nat) : 0 < 2 ^ n := Nat.pow_pos (by decide)
/-- words within an hour and the w - 1 behind it, of the first n -/
def wiN (A : Al) (f w : Nat) : Nat → Nat
  | 0 => 0
  | n + 1 => wiN A f w n + if f ≤ aF A n 3 ∧ aF A n 3 < f + w then 1 else 0
theorem wiN_le (A : Al) (f w : Nat) : ∀ n, wiN A f w n ≤ n
  | 0 => Nat.le_refl 0
  | n + 1 => by have := wiN_le A f w n; unfold wiN; split <;> omega
theorem in_wi {h f w : Nat} (h1 : h < 2 ^ 30) (h2 : f < 2 ^ 30) (h3 : 1 ≤ w) (h4 : w < 2 ^ 30) : inB (nI h - nI f) (nI 0) (nI (w - 1)) = decide (f ≤ h ∧ h < f + w) := by
  have e := pk_sub_toInt h1 h2
  unfold inB
  rw [show decide (nI 0 ≤ nI h - nI f) = decide (f ≤ h) from decide_eq_decide.mpr ⟨fun q => by have := Int32.le_iff_toInt_le.mp q; rw [e, nI_toInt (by decide)] at this; omega, fun q => Int32.le_iff_toInt_le.mpr (by rw [e, nI_toInt (by decide)]; omega)⟩]
  rw [show decide (nI h - nI f ≤ nI (w - 1)) = decide (h < f + w) from decide_eq_decide.mpr ⟨fun q => by have := Int32.le_iff_toInt_le.mp q; rw [e, nI_toInt (by omega)] at this; omega, fun q => Int32.le_iff_toInt_le.mpr (by rw [e, nI_toInt (by omega)]; omega)⟩]
  rw [Bool.decide_and]
def wvN (A : Al) (w : Nat) : Nat → Nat
  | 0 => 0
  | i + 1 => if wiN A (wvN A w i) w (aW A) < wiN A (i + 1) w (aW A) then i + 1 else wvN A w i
theorem wvN_le (A : Al) (w : Nat) : ∀ i, wvN A w i ≤ i
  | 0 => Nat.le_refl 0
  | i + 1 => by have := wvN_le A w i; unfold wvN; split <;> omega
def oWave (A : Al) (w wh : Int32) : Int32 := if inB w (nI 1) (nI 1000) = true ∧ inB wh (nI 0) (nI 1) = true then (if aW A = 0 then (-1000000005) else if wh = nI 0 then nI (wvN A w.toNatClampNeg 999) else nI (wiN A (wvN A w.toNatClampNeg 999) w.toNatClampNeg (aW A))) else (-1000000001)
/-- words of a thing ahead of an hour, and their stars, of the first n -/
def dcN (A : Al) (t h : Nat) : Nat → Nat
  | 0 => 0
  | n + 1 => dcN A t h n + if aF A n 1 = t ∧ aF A n 3 < h then 1 else 0
def dsN (A : Al) (t h : Nat) : Nat → Nat
  | 0 => 0
  | n + 1 => dsN A t h n + if aF A n 1 = t ∧ aF A n 3 < h then aF A n 4 else 0
theorem ds_le {A : Al} (t h : Nat) : ∀ n, dcN A t h n ≤ cw A 1 t n ∧ dsN A t h n ≤ ss A 1 t n
  | 0 => ⟨Nat.le_refl _, Nat.le_refl _⟩
  | n + 1 => by
    have := ds_le (A := A) t h n
    unfold dcN dsN cw ss
    by_cases e : aF A n 1 = t
    · rw [if_pos e, if_pos e]
      split <;> omega
    · rw [if_neg e, if_neg e, if_neg (fun q => e q.1), if_neg (fun q => e q.1)]; exact this
theorem dc_lt {A : Al} {t h w : Nat} (h1 : aF A w 1 = t) (h2 : aF A w 3 = h) : ∀ n, w < n → dcN A t h n < cw A 1 t n
  | 0, hw => absurd hw (Nat.not_lt_zero w)
  | n + 1, hw => by
    unfold dcN cw
    by_cases e : w = n
    · subst e
      have := (ds_le (A := A) t h w).1
      rw [if_pos h1, if_neg (by omega)]; omega
    · have := dc_lt h1 h2 n (by omega)
      by_cases q : aF A n 1 = t
      · rw [if_pos q]; split <;> omega
      · rw [if_neg q, if_neg (fun z => q z.1)]; omega
def dfO (A : Al) (t h : Nat) : Option Nat := if dcN A t h (aW A) = 0 then none else some (apN (100 * dsN A t h (aW A) / dcN A t h (aW A)) (100 * (ss A 1 t (aW A) - dsN A t h (aW A)) / (cw A 1 t (aW A) - dcN A t h (aW A))))
/-- the hour of the greatest change among the first n words, and how great it is -/
def chK (A : Al) (t : Nat) : Nat → Option (Nat × Nat)
  | 0 => none
  | n + 1 => if aF A n 1 = t then (match dfO A t (aF A n 3), chK A t n with
      | none, p => p
      | some b, none => some (aF A n 3, b)
      | some b, some p => if p.2 < b ∨ (b = p.2 ∧ aF A n 3 < p.1) then some (aF A n 3, b) else some p) else chK A t n
def oChanged (A : Al) (th wh : Int32) : Int32 := if isB th (aT A) = true ∧ inB wh (nI 0) (nI 1) = true then (match chK A th.toNatClampNeg (aW A) with
  | none => (-1000000005)
  | some p => if wh = nI 0 then nI p.1 else nI p.2) else (-1000000001)
def ctN (A : Al) (v b : Nat) : Nat → Nat
  | 0 => 0
  | n + 1 => ctN A v b n + if v ≤ sgN A n ∧ bI (trB (aF A n 0)) = nI b then 1 else 0
theorem ctN_le (A : Al) (v b : Nat) : ∀ n, ctN A v b n ≤ n
  | 0 => Nat.le_refl 0
  | n + 1 => by have := ctN_le A v b n; unfold ctN; split <;> omega
def oOff (A : Al) (v wh : Int32) : Int32 := if inB v (nI 0) (nI 10) = true ∧ inB wh (nI 0) (nI 1) = true then nI (ctN A v.toNatClampNeg wh.toNatClampNeg (aW A)) else (-1000000001)
def gnI (A : Al) (v : Nat) : Int32 := nI (ctN A v 0 (aW A)) - nI (ctN A v 1 (aW A))
/-- the best bound from 10 down, behind i steps -/
def bdK (A : Al) : Nat → Nat
  | 0 => 10
  | i + 1 => if gnI A (bdK A i) < gnI A (9 - i) then 9 - i else bdK A i
theorem bdK_le (A : Al) : ∀ i, bdK A i ≤ 10
  | 0 => Nat.le_refl _
  | i + 1 => by have := bdK_le A i; unfold bdK; split <;> omega
def oBound (A : Al) (wh : Int32) : Int32 := if inB wh (nI 0) (nI 1) = true then (if wh = nI 0 then nI (bdK A 10) else gnI A (bdK A 10)) else (-1000000001)
/-! ===== buyers ===== -/
def topO (V : Nat → Int32) (n : Nat) : Nat → Option Nat
  | 0 => none
  | k + 1 => if ahd V k n = 0 then some k else topO V n k
theorem topO_lt {V : Nat → Int32} {n : Nat} : ∀ {k t : Nat}, topO V n k = some t → t < k ∧ ahd V t n = 0
  | 0, _, h => by cases h
  | k + 1, t, h => by
    unfold topO at h
    split at h
    · cases h; exact ⟨by omega, by assumption⟩
    · have := topO_lt h; exact ⟨by omega, this.2⟩
theorem topO_some {V : Nat → Int32} {n t : Nat} (h : ahd V t n = 0) : ∀ {k : Nat}, t < k → ∃ u, topO V n k = some u
  | 0, hk => absurd hk (Nat.not_lt_zero t)
  | k + 1, hk => by
    unfold topO
    split
    · exact ⟨k, rfl⟩
    · by_cases e : t = k
      · subst e; contradiction
      · exact topO_some h (by omega)
theorem shf_top (V : Nat → Int32) (n : Nat) (hn : n < 2 ^ 31) : ∀ k, shf V n (nI 0) k = nI? (topO V n k)
  | 0 => rfl
  | k + 1 => by
    have := ahd_le V k n
    unfold shf topO
    by_cases e : ahd V k n = 0
    · rw [if_pos e, if_pos (by rw [e])]; rfl
    · rw [if_neg e, if_neg (fun q => e ((nI_eq (by omega) (by decide)).mp q))]; exact shf_top V n hn k
theorem ahd_0 {V : Nat → Int32} {t : Nat} : ∀ {n : Nat}, (∀ s, s < n → ¬ (V t < V s ∨ (V s = V t ∧ s < t))) → ahd V t n = 0
  | 0, _ => rfl
  | n + 1, h => by unfold ahd; rw [ahd_0 (fun s hs => h s (by omega)), if_neg (h n (by omega))]
theorem top_ex (V : Nat → Int32) {n : Nat} (hn : 0 < n) : ∃ t, topO V n n = some t := by
  obtain ⟨i, h1, h2, h3⟩ := fb_best (fun j => (V j).toInt) hn
  refine topO_some (t := i) (ahd_0 (fun s hs q => ?_)) h1
  rcases q with q | ⟨q1, q2⟩
  · have := Int32.lt_iff_toInt_lt.mp q
    have := h2 s hs
    omega
  · have := h3 s q2
    simp only [q1] at this
    omega
def topN (V : Nat → Int32) (n : Nat) : Nat := (topO V n n).getD 0
theorem topN_ok (V : Nat → Int32) {n : Nat} (hn : 0 < n) (hn2 : n < 2 ^ 31) : topN V n < n ∧ shf V n (nI 0) n = nI (topN V n) := by
  obtain ⟨t, ht⟩ := top_ex V hn
  rw [shf_top V n hn2]
  unfold topN
  rw [ht]
  exact ⟨(topO_lt ht).1, rfl⟩
/-- the thing a buyer takes, and what is then -/
noncomputable def byT (A : Al) : Nat × Al := if drN (aZ (drA A)) % 3 = 0 then (drN (aZ (drA (drA A))) % aT A, drA (drA A)) else (topN (shI (drA A)) (aT A), drA A)
noncomputable def byB (A : Al) : Al := setB (byT A).2 (byT A).1 (min 9999 (aB A (byT A).1 + 1))
noncomputable def byF (A : Al) : Nat := if cw (byB A) 1 (byT A).1 (aW (byB A)) = 0 then 50 else apN (aO A (byT A).1) (mn (byB A) (byT A).1 / 5)
noncomputable def byC (A : Al) : Al := drA (byB A)
noncomputable def byW (A : Al) : Bool := decide (drN (aZ (byC A)) % 100 < byF A) && decide (0 < aN A) && decide (aW A < 24)
noncomputable def byS (A : Al) : Nat := min 5 (aO A (byT A).1 / 20 + 1)
noncomputable def byR (A : Al) : Nat := if byW A = true then byS A else 0
noncomputable def byE (A : Al) (h : Nat) : Al := if byW A = true then addW (drA (byC A)) 1 (byT A).1 (drN (aZ (drA (byC A))) % aN A) h (byS A) else byC A
theorem byT_same (A : Al) : aT (byT A).2 = aT A ∧ aN (byT A).2 = aN A ∧ aW (byT A).2 = aW A ∧ aO (byT A).2 = aO A ∧ aB (byT A).2 = aB A := by
  unfold byT
  split <;> simp only [aT_drA, aN_drA, aW_drA, aO_drA, aB_drA, and_self]
theorem va_byT {A : Al} (hV : Va A) : Va (byT A).2 := by
  unfold byT
  split
  · exact va_setZ (va_setZ hV)
  · exact va_setZ hV
noncomputable def buyK (A : Al) (h : Nat) : Nat → Al × Nat
  | 0 => (A, 0)
  | i + 1 => (byE (buyK A h i).1 h, (buyK A h i).2 + if 0 < byR (buyK A h i).1 then 1 else 0)
noncomputable def oBuy (A : Al) (n h : Int32) : Int32 × Al := if inB n (nI 1) (nI 20) = true ∧ inB h (nI 0) (nI 999) = true then (if aT A = 0 then ((-1000000002), A) else (nI (buyK A h.toNatClampNeg n.toNatClampNeg).2, (buyK A h.toNatClampNeg n.toNatClampNeg).1)) else ((-1000000001), A)
theorem byT_lt {A : Al} (hV : Va A) (hT : 0 < aT A) : (byT A).1 < aT A := by
  have := hV.1
  unfold byT
  split
  · exact Nat.mod_lt _ hT
  · exact (topN_ok _ hT (by omega)).1
theorem va_byC {A : Al} (hV : Va A) : Va (byC A) := va_setZ (va_setB (va_byT hV) (Nat.min_le_left _ _))
theorem byC_same (A : Al) : aT (byC A) = aT A ∧ aN (byC A) = aN A ∧ aW (byC A) = aW A := by
  obtain ⟨h1, h2, h3, -, -⟩ := byT_same A
  simp only [byC, byB, aT_drA, aN_drA, aW_drA, aT_setB, aN_setB, aW_setB]
  exact ⟨h1, h2, h3⟩
theorem byS_in (A : Al) : 1 ≤ byS A ∧ byS A ≤ 5 := by unfold byS; omega
theorem va_byE {A : Al} (hV : Va A) (hT : 0 < aT A) {h : Nat} (hh : h ≤ 999) : Va (byE A h) ∧ aT (byE A h) = aT A := by
  obtain ⟨h1, h2, h3⟩ := byC_same A
  unfold byE
  split
  · rename_i e
    unfold byW at e
    simp at e
    have hb := byT_lt hV hT
    have hs := byS_in A
    exact ⟨va_addW (va_setZ (va_byC hV)) (by rw [aW_setZ]; omega) (by decide) (by rw [aT_setZ]; omega) (by rw [aN_setZ, h2]; exact Nat.mod_lt _ e.1.2) hh hs.1 hs.2, by rw [aT_addW, aT_drA]; exact h1⟩
  · exact ⟨va_byC hV, h1⟩
theorem va_buyK {A : Al} (hV : Va A) (hT : 0 < aT A) {h : Nat} (hh : h ≤ 999) : ∀ i, Va (buyK A h i).1 ∧ aT (buyK A h i).1 = aT A ∧ (buyK A h i).2 ≤ i
  | 0 => ⟨hV, rfl, Nat.le_refl _⟩
  | i + 1 => by
    obtain ⟨h1, h2, h3⟩ := va_buyK hV hT hh i
    obtain ⟨q1, q2⟩ := va_byE h1 (by rw [h2]; exact hT) hh
    refine ⟨q1, q2.trans h2, ?_⟩
    show (buyK A h i).2 + _ ≤ _
    split <;> omega
/-! ===== taken off ===== -/
def dlK (A : Al) (v : Nat) : Nat → Al
  | 0 => A
  | i + 1 => if v ≤ sgN A (aW A - 1 - i) then delW (dlK A v i) (aW A - 1 - i) else dlK A v i
theorem dlK_ok {A : Al} (hV : Va A) (v : Nat) : ∀ i, i ≤ aW A → Va (dlK A v i) ∧ aW A - i ≤ aW (dlK A v i) ∧ aW (dlK A v i) ≤ aW A
  | 0, _ => ⟨hV, Nat.le_refl _, Nat.le_refl _⟩
  | i + 1, hi => by
    obtain ⟨h1, h2, h3⟩ := dlK_ok hV v i (by omega)
    unfold dlK
    split
    · exact ⟨va_delW h1 (by omega), by rw [aW_delW]; omega, by rw [aW_delW]; omega⟩
    · exact ⟨h1, by omega, h3⟩
def oClean (A : Al) (v : Int32) : Int32 × Al := if inB v (nI 0) (nI 10) = true then (nI (aW A - aW (dlK A v.toNatClampNeg (aW A))), dlK A v.toNatClampNeg (aW A)) else ((-1000000001), A)
theorem dec9 : ∀ i, i < 10 → nI 9 - nI (i + 1) = nI (9 - i) + (-1) := by decide +kernel
theorem decW : ∀ n, n ≤ 24 → ∀ i, i < n → nI n - nI 1 - nI (i + 1) = nI (n - 1 - i) + (-1) := by decide +kernel
theorem decW0 : ∀ n, n ≤ 24 → nI n - nI 1 - nI n = (-1) := by decide +kernel
def chH (o : Option (Nat × Nat)) : Int32 := match o with | none => (-1000000005) | some p => nI p.1
def chM (o : Option (Nat × Nat)) : Int32 := match o with | none => (-1) | some p => nI p.2
theorem chK_no {A : Al} {t n : Nat} (h : ¬ aF A n 1 = t) : chK A t (n + 1) = chK A t n := by rw [chK, if_neg h]
theorem chK_0 {A : Al} {t n : Nat} (h : aF A n 1 = t) (hd : dfO A t (aF A n 3) = none) : chK A t (n + 1) = chK A t n := by rw [chK, if_pos h, hd]
theorem chK_1 {A : Al} {t n b : Nat} (h : aF A n 1 = t) (hd : dfO A t (aF A n 3) = some b) (hc : chK A t n = none) : chK A t (n + 1) = some (aF A n 3, b) := by rw [chK, if_pos h, hd, hc]
theorem chK_y {A : Al} {t n b : Nat} {p : Nat × Nat} (h : aF A n 1 = t) (hd : dfO A t (aF A n 3) = some b) (hc : chK A t n = some p) (hp : p.2 < b ∨ (b = p.2 ∧ aF A n 3 < p.1)) : chK A t (n + 1) = some (aF A n 3, b) := by
  rw [chK, if_pos h, hd, hc]
  show (if p.2 < b ∨ (b = p.2 ∧ aF A n 3 < p.1) then some (aF A n 3, b) else some p) = _
  rw [if_pos hp]
theorem chK_n {A : Al} {t n b : Nat} {p : Nat × Nat} (h : aF A n 1 = t) (hd : dfO A t (aF A n 3) = some b) (hc : chK A t n = some p) (hp : ¬ (p.2 < b ∨ (b = p.2 ∧ aF A n 3 < p.1))) : chK A t (n + 1) = some p := by
  rw [chK, if_pos h, hd, hc]
  show (if p.2 < b ∨ (b = p.2 ∧ aF A n 3 < p.1) then some (aF A n 3, b) else some p) = _
  rw [if_neg hp]
theorem apN_le {a b m : Nat} (ha : a ≤ m) (hb : b ≤ m) : apN a b ≤ m := by
  unfold apN
  split <;> omega
theorem dfO_lt {A : Al} (hV : Va A) {t h b : Nat} (e : dfO A t h = some b) : b < 20000 := by
  have hss := ss_le hV t
  have hdl := ds_le (A := A) t h (aW A)
  unfold dfO at e
  split at e
  · cases e
  · cases e
    have h1 := Nat.div_le_self (100 * dsN A t h (aW A)) (dcN A t h (aW A))
    have h2 := Nat.div_le_self (100 * (ss A 1 t (aW A) - dsN A t h (aW A))) (cw A 1 t (aW A) - dcN A t h (aW A))
    exact Nat.lt_of_le_of_lt (apN_le (m := 12000) (Nat.le_trans h1 (by omega)) (Nat.le_trans h2 (by omega))) (by decide)
theorem chK_lt {A : Al} (hV : Va A) {t : Nat} : ∀ {n : Nat} {p : Nat × Nat}, n ≤ aW A → chK A t n = some p → p.1 ≤ 999 ∧ p.2 < 20000
  | 0, p, _, h => by cases h
  | n + 1, p, hn, h => by
    have hh := (hV.2.2.2.2.2.2.1 n (by omega)).2.2.2.1
    by_cases e : aF A n 1 = t
    · cases hd : dfO A t (aF A n 3) with
      | none => rw [chK_0 e hd] at h; exact chK_lt hV (by omega) h
      | some b =>
        have hb := dfO_lt hV hd
        cases hc : chK A t n with
        | none => rw [chK_1 e hd hc] at h; cases h; exact ⟨hh, hb⟩
        | some p' =>
          by_cases hp : p'.2 < b ∨ (b = p'.2 ∧ aF A n 3 < p'.1)
          · rw [chK_y e hd hc hp] at h; cases h; exact ⟨hh, hb⟩
          · rw [chK_n e hd hc hp] at h; cases h; exact chK_lt hV (by omega) hc
    · rw [chK_no e] at h; exact chK_lt hV (by omega) h
theorem nlt1 {a : Nat} {v : Int32} (h : a < 2 ^ 31) (hv : v < 0) : v < nI a := Int32.lt_iff_toInt_lt.mpr (by rw [nI_toInt h]; have := Int32.lt_iff_toInt_lt.mp hv; simp at this; omega)
theorem nlt2 {a : Nat} {v : Int32} (h : a < 2 ^ 31) (hv : v < 0) : ¬ nI a < v := fun q => by have := Int32.lt_iff_toInt_lt.mp (nlt1 h hv); have := Int32.lt_iff_toInt_lt.mp q; omega
theorem nle1 {a : Nat} {v : Int32} (h : a < 2 ^ 31) (hv : v < 0) : v ≤ nI a := Int32.le_iff_toInt_le.mpr (by have := Int32.lt_iff_toInt_lt.mp (nlt1 h hv); omega)
theorem nle2 {a : Nat} {v : Int32} (h : a < 2 ^ 31) (hv : v < 0) : ¬ nI a ≤ v := fun q => by have := Int32.lt_iff_toInt_lt.mp (nlt1 h hv); have := Int32.le_iff_toInt_le.mp q; omega
theorem hdI_nat {a m : Nat} (ha : a < 2 ^ 31) (hm : m < 2 ^ 31) : hdI (nI a) (nI m) = nI (min m a) := by
  unfold hdI
  rw [if_neg (nI_pos ha)]
  by_cases h : m < a
  · rw [if_pos ((nI_ltI hm ha).mpr h), Nat.min_eq_left (by omega)]
  · rw [if_neg (fun q => h ((nI_ltI hm ha).mp q)), Nat.min_eq_right (by omega)]
theorem tak_s {σ : Me} {k : Nat} {V : Nat → Int32} {v : Int32} (h : ∀ t, t < k → σ 8 t = V t) (hv : v = V k) : ∀ t, t < k + 1 → up σ 8 k v 8 t = V t := fun t ht => by
  by_cases e : t = k
  · subst e; rw [up_s]; exact hv
  · rw [up_n (Or.inr e)]; exact h t (by omega)
theorem allB_le {p : Nat → Bool} {a : Nat} (h : allB p a = false) : ∀ {n : Nat}, a ≤ n → allB p n = false
  | 0, hn => by rw [← show a = 0 by omega]; exact h
  | n + 1, hn => by
    by_cases e : a = n + 1
    · rw [← e]; exact h
    · unfold allB; rw [allB_le h (by omega : a ≤ n), Bool.false_and]
theorem bst_y {F : Nat → Int32} {n i : Nat} (h1 : pc12 (bst F n i) < pc12 (1 + i)) (h2 : allB (gokB F (1 + i)) n = true) : bst F n (i + 1) = 1 + i := by
  rw [bst, show i + 1 = 1 + i by omega, if_pos ⟨h1, h2⟩]
theorem bst_n1 {F : Nat → Int32} {n i : Nat} (h1 : pc12 (1 + i) ≤ pc12 (bst F n i)) : bst F n (i + 1) = bst F n i := by
  rw [bst, show i + 1 = 1 + i by omega, if_neg (fun q => absurd q.1 (by omega))]
theorem bst_n2 {F : Nat → Int32} {n i : Nat} (h2 : allB (gokB F (1 + i)) n = false) : bst F n (i + 1) = bst F n i := by
  rw [bst, show i + 1 = 1 + i by omega, if_neg (fun q => by rw [h2] at q; cases q.2)]
