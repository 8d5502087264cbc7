/-! ===== words and signs of the tape ===== -/
/-- what stands at a place: 0 the end, 1 a letter, 2 a digit, 3 another sign -/
def clN (v : Nat) : Nat := if 97 ≤ v ∧ v ≤ 122 then 1 else if 48 ≤ v ∧ v ≤ 57 then 2 else 3
def cl (P : Tp) (p : Nat) : Nat := if p < P.1 then clN (P.2 p) else 0
def skF (P : Tp) : Nat → Nat → Nat
  | 0, e => e
  | m + 1, e => if P.2 e = 32 then skF P m (e + 1) else e
def skp (P : Tp) (e : Nat) : Nat := skF P (P.1 - e) e
def rnF (P : Tp) (k : Nat) : Nat → Nat → Nat
  | 0, p => p
  | m + 1, p => if clN (P.2 p) = k then rnF P k m (p + 1) else p
def rnn (P : Tp) (k p : Nat) : Nat := rnF P k (P.1 - p) p
theorem skF_ok (P : Tp) : ∀ m e, e + m = P.1 → e ≤ skF P m e ∧ skF P m e ≤ P.1 ∧ (∀ j, e ≤ j → j < skF P m e → P.2 j = 32) ∧ ¬ (skF P m e < P.1 ∧ P.2 (skF P m e) = 32)
  | 0, e, h => ⟨Nat.le_refl _, by show e ≤ _; omega, fun j h1 h2 => absurd h2 (by show ¬ j < e; omega), fun q => absurd q.1 (by show ¬ e < _; omega)⟩
  | m + 1, e, h => by
    unfold skF
    split
    · rename_i h1
      obtain ⟨q1, q2, q3, q4⟩ := skF_ok P m (e + 1) (by omega)
      exact ⟨by omega, q2, fun j h2 h3 => by by_cases z : j = e
                                             · rw [z]; exact h1
                                             · exact q3 j (by omega) h3, q4⟩
    · rename_i h1
      exact ⟨Nat.le_refl _, by omega, fun j h2 h3 => absurd h3 (by omega), fun q => h1 q.2⟩
theorem skp_ok (P : Tp) {e : Nat} (h : e ≤ P.1) : e ≤ skp P e ∧ skp P e ≤ P.1 ∧ (∀ j, e ≤ j → j < skp P e → P.2 j = 32) ∧ ¬ (skp P e < P.1 ∧ P.2 (skp P e) = 32) := skF_ok P (P.1 - e) e (by omega)
theorem rnF_ok (P : Tp) (k : Nat) : ∀ m e, e + m = P.1 → e ≤ rnF P k m e ∧ rnF P k m e ≤ P.1 ∧ (∀ j, e ≤ j → j < rnF P k m e → clN (P.2 j) = k) ∧ ¬ (rnF P k m e < P.1 ∧ clN (P.2 (rnF P k m e)) = k)
  | 0, e, h => ⟨Nat.le_refl _, by show e ≤ _; omega, fun j h1 h2 => absurd h2 (by show ¬ j < e; omega), fun q => absurd q.1 (by show ¬ e < _; omega)⟩
  | m + 1, e, h => by
    unfold rnF
    split
    · rename_i h1
      obtain ⟨q1, q2, q3, q4⟩ := rnF_ok P k m (e + 1) (by omega)
      exact ⟨by omega, q2, fun j h2 h3 => by by_cases z : j = e
                                             · rw [z]; exact h1
                                             · exact q3 j (by omega) h3, q4⟩
    · rename_i h1
      exact ⟨Nat.le_refl _, by omega, fun j h2 h3 => absurd h3 (by omega), fun q => h1 q.2⟩
theorem rnn_ok (P : Tp) (k : Nat) {e : Nat} (h : e ≤ P.1) : e ≤ rnn P k e ∧ rnn P k e ≤ P.1 ∧ (∀ j, e ≤ j → j < rnn P k e → clN (P.2 j) = k) ∧ ¬ (rnn P k e < P.1 ∧ clN (P.2 (rnn P k e)) = k) := rnF_ok P k (P.1 - e) e (by omega)
/-- a word or sign: its first place, what it is, the place behind it, whether a word stands right ahead of it -/
abbrev Lx : Type := Nat × Nat × Nat × Bool
def lxE (P : Tp) (s : Nat) : Nat := if cl P s = 0 then s else if cl P s = 3 then s + 1 else rnn P (cl P s) s
/-- the next one -/
def nx (P : Tp) (e : Nat) (ww : Bool) : Lx := (skp P e, cl P (skp P e), lxE P (skp P e), ww && decide (skp P e = e))
def wwB (q : Lx) : Bool := decide (q.2.1 = 1) || decide (q.2.1 = 2)
def nxq (P : Tp) (q : Lx) : Lx := nx P q.2.2.1 (wwB q)
def okL (P : Tp) (q : Lx) : Prop := q.1 ≤ P.1 ∧ q.2.1 = cl P q.1 ∧ q.2.2.1 = lxE P q.1
/-- the reference's number for it -/
def mkN (q : Lx) : Nat := if (wwB q = true ∧ q.2.2.2 = true) ∨ (q.2.1 = 2 ∧ 4 < q.2.2.1 - q.1) then 4 else q.2.1
/-- the number that the first j digits make, four at most -/
def vD (P : Tp) (s : Nat) : Nat → Nat
  | 0 => 0
  | j + 1 => if j < 4 then 10 * vD P s j + (P.2 (s + j) - 48) else vD P s j
def szN (q : Lx) : Nat := if wwB q = true then q.2.2.1 - q.1 else 0
def vlN (P : Tp) (q : Lx) : Nat := if q.2.1 = 1 then P.2 q.1 else if q.2.1 = 2 then vD P q.1 (q.2.2.1 - q.1) else if q.2.1 = 3 then P.2 q.1 else 0
/-- the reference's lexer fields -/
def RLx (σ : Me) (P : Tp) (q : Lx) : Prop := σ 0 20 = nI q.2.2.1 ∧ σ 0 21 = nI q.1 ∧ σ 0 22 = nI (mkN q) ∧ σ 0 23 = nI (szN q) ∧ σ 0 24 = nI (vlN P q) ∧ σ 0 25 = bI (wwB q)
theorem vD_lt {P : Tp} {s : Nat} : ∀ j, (∀ i, i < j → clN (P.2 (s + i)) = 2) → vD P s j < 10 ^ (min j 4)
  | 0, _ => by show 0 < 10 ^ (min 0 4); decide
  | j + 1, h => by
    have ih := vD_lt (P := P) (s := s) j (fun i hi => h i (by omega))
    have hb := h j (by omega)
    unfold clN at hb
    have hb2 : P.2 (s + j) ≤ 57 := by
      split at hb
      · omega
      · split at hb <;> omega
    unfold vD
    split
    · rename_i h4
      rw [Nat.min_eq_left (by omega), Nat.pow_succ]
      rw [Nat.min_eq_left (by omega)] at ih
      omega
    · rw [Nat.min_eq_right (by omega)]
      rwa [Nat.min_eq_right (by omega)] at ih
theorem lx_ok (P : Tp) {e : Nat} (h : e ≤ P.1) (ww : Bool) : okL P (nx P e ww) ∧ e ≤ (nx P e ww).1 ∧ (nx P e ww).1 ≤ (nx P e ww).2.2.1 ∧ (nx P e ww).2.2.1 ≤ P.1 ∧ ((nx P e ww).2.1 ≠ 0 → (nx P e ww).1 < (nx P e ww).2.2.1) := by
  obtain ⟨h1, h2, h3, h4⟩ := skp_ok P h
  refine ⟨⟨h2, rfl, rfl⟩, h1, ?_⟩
  show skp P e ≤ lxE P (skp P e) ∧ lxE P (skp P e) ≤ P.1 ∧ (cl P (skp P e) ≠ 0 → skp P e < lxE P (skp P e))
  unfold lxE
  by_cases c0 : cl P (skp P e) = 0
  · rw [if_pos c0]; exact ⟨Nat.le_refl _, h2, fun q => absurd c0 q⟩
  · have hlt : skp P e < P.1 := by
      by_cases z : skp P e < P.1
      · exact z
      · exact absurd (by unfold cl; rw [if_neg z]) c0
    rw [if_neg c0]
    by_cases c3 : cl P (skp P e) = 3
    · rw [if_pos c3]; exact ⟨by omega, by omega, fun _ => by omega⟩
    · rw [if_neg c3]
      obtain ⟨r1, r2, r3, r4⟩ := rnn_ok P (cl P (skp P e)) h2
      have : skp P e < rnn P (cl P (skp P e)) (skp P e) := by
        by_cases z : rnn P (cl P (skp P e)) (skp P e) = skp P e
        · rw [z] at r4
          exact absurd ⟨hlt, by unfold cl; rw [if_pos hlt]⟩ r4
        · omega
      exact ⟨by omega, r2, fun _ => this⟩
theorem nxq_ok {P : Tp} {q : Lx} (h : q.2.2.1 ≤ P.1) : okL P (nxq P q) ∧ q.2.2.1 ≤ (nxq P q).1 ∧ (nxq P q).1 ≤ (nxq P q).2.2.1 ∧ (nxq P q).2.2.1 ≤ P.1 ∧ ((nxq P q).2.1 ≠ 0 → (nxq P q).1 < (nxq P q).2.2.1) := lx_ok P h _
def pX (c i : Nat) : Bool := (decide (c = 0) && decide (20 ≤ i) && decide (i ≤ 25))
/-- the byte at a place, -1 behind the end -/
def bt (P : Tp) (k : Nat) : Int32 := if k < P.1 then nI (P.2 k) else (-1)
theorem bt_lt {P : Tp} {k : Nat} (h : k < P.1) : bt P k = nI (P.2 k) := by unfold bt; rw [if_pos h]
theorem inB_m1 (a b : Nat) (ha : a < 2 ^ 31) : inB (-1) (nI a) (nI b) = false := by
  unfold inB
  rw [decide_eq_false (nle2 ha (by decide))]
  rfl
theorem cl_cases (P : Tp) (hb : ∀ k, k < P.1 → P.2 k < 256) (s : Nat) : (cl P s = 0 ∧ P.1 ≤ s ∧ bt P s = (-1)) ∨ (cl P s = 1 ∧ s < P.1 ∧ bt P s = nI (P.2 s) ∧ inB (nI (P.2 s)) (nI 97) (nI 122) = true) ∨ (cl P s = 2 ∧ s < P.1 ∧ bt P s = nI (P.2 s) ∧ inB (nI (P.2 s)) (nI 97) (nI 122) = false ∧ inB (nI (P.2 s)) (nI 48) (nI 57) = true) ∨ (cl P s = 3 ∧ s < P.1 ∧ bt P s = nI (P.2 s) ∧ inB (nI (P.2 s)) (nI 97) (nI 122) = false ∧ inB (nI (P.2 s)) (nI 48) (nI 57) = false) := by
  by_cases h : s < P.1
  · have h256 := hb s h
    right
    unfold cl bt clN
    rw [if_pos h, if_pos h]
    by_cases h1 : 97 ≤ P.2 s ∧ P.2 s ≤ 122
    · rw [if_pos h1]; exact Or.inl ⟨rfl, h, rfl, inB_mk h1.1 h1.2 (by decide)⟩
    · rw [if_neg h1]
      by_cases h2 : 48 ≤ P.2 s ∧ P.2 s ≤ 57
      · rw [if_pos h2]; exact Or.inr (Or.inl ⟨rfl, h, rfl, inB_no (by omega) (by omega) (by decide) (by decide), inB_mk h2.1 h2.2 (by decide)⟩)
      · rw [if_neg h2]; exact Or.inr (Or.inr ⟨rfl, h, rfl, inB_no (by omega) (by omega) (by decide) (by decide), inB_no (by omega) (by omega) (by decide) (by decide)⟩)
  · left
    unfold cl bt
    rw [if_neg h, if_neg h]
    exact ⟨rfl, by omega, rfl⟩
theorem let_in {v : Nat} (h : clN v = 1) : inB (nI v) (nI 97) (nI 122) = true := by
  unfold clN at h
  split at h
  · rename_i q; exact inB_mk q.1 q.2 (by decide)
  · split at h <;> omega
theorem dig_in {v : Nat} (h : clN v = 2) : 48 ≤ v ∧ v ≤ 57 := by
  unfold clN at h
  split at h
  · omega
  · split at h
    · assumption
    · omega
theorem let_out {P : Tp} (hb : ∀ k, k < P.1 → P.2 k < 256) {p : Nat} (h : ¬ (p < P.1 ∧ clN (P.2 p) = 1)) : inB (bt P p) (nI 97) (nI 122) = false := by
  by_cases z : p < P.1
  · rw [bt_lt z]
    have h2 : ¬ (97 ≤ P.2 p ∧ P.2 p ≤ 122) := fun q => h ⟨z, by unfold clN; rw [if_pos q]⟩
    have := hb p z
    exact inB_no (by omega) (by omega) (by decide) (by decide)
  · unfold bt; rw [if_neg z]; exact inB_m1 97 122 (by decide)
theorem dig_out {P : Tp} (hb : ∀ k, k < P.1 → P.2 k < 256) {p : Nat} (h : ¬ (p < P.1 ∧ clN (P.2 p) = 2)) : inB (bt P p) (nI 48) (nI 57) = false := by
  by_cases z : p < P.1
  · rw [bt_lt z]
    have h2 : ¬ (48 ≤ P.2 p ∧ P.2 p ≤ 57) := fun q => h ⟨z, by unfold clN; rw [if_neg (by omega), if_pos q]⟩
    have := hb p z
    exact inB_no (by omega) (by omega) (by decide) (by decide)
  · unfold bt; rw [if_neg z]; exact inB_m1 48 57 (by decide)
theorem sp_out {P : Tp} (hb : ∀ k, k < P.1 → P.2 k < 256) {p : Nat} (h : ¬ (p < P.1 ∧ P.2 p = 32)) : ¬ bt P p = nI 32 := by
  by_cases z : p < P.1
  · rw [bt_lt z]
    have := hb p z
    exact fun e => h ⟨z, (nI_eq (by omega) (by decide)).mp e⟩
  · unfold bt; rw [if_neg z]; decide
theorem RT.ex {σ τ : Me} {P : Tp} (h : RT σ P) (e : Ex pX σ τ) : RT τ P := ⟨(e 0 5 rfl).trans h.1, h.2.1, fun k hk => ⟨(e 4 k rfl).trans (h.2.2 k hk).1, (h.2.2 k hk).2⟩⟩
theorem rnn_pos {P : Tp} {s k : Nat} (hc : cl P s = k) (hs : s < P.1) : s < rnn P k s := by
  obtain ⟨r1, r2, r3, r4⟩ := rnn_ok P k (Nat.le_of_lt hs)
  by_cases z : rnn P k s = s
  · rw [z] at r4
    exact absurd ⟨hs, by unfold cl at hc; rw [if_pos hs] at hc; exact hc⟩ r4
  · omega
