/-! ===== words: what the class works out in its own way ===== -/
theorem sstep {A : Al} {f x n : Nat} : cw A f x (n + 1) = cw A f x n + if aF A n f = x then 1 else 0 := rfl
theorem mz_mx {A : Al} (hV : Va A) (t : Nat) : mxI (nI 0) (mnI A t) = nI (mz A t) := by
  have hm := mn_le hV t
  unfold mz
  by_cases h : cw A 1 t (aW A) = 0
  · rw [mnI_0 h, if_pos h]; decide
  · rw [mnI_1 h, if_neg h, mxI_n (by decide) (by omega), Nat.max_eq_right (by omega)]
theorem swI_eq {A : Al} (hV : Va A) (t : Nat) : nI (100 * (ss A 1 t (aW A) + 5) / (cw A 1 t (aW A) + 1)) - nI (mz A t) = swI A t := by
  unfold swI mz
  by_cases h : cw A 1 t (aW A) = 0
  · have hs : ss A 1 t (aW A) = 0 := by have := (ss_cw hV t (aW A) (Nat.le_refl _)).2; omega
    rw [if_pos h, if_pos h, hs, h, pk_sub (by decide)]
  · rw [if_neg h, if_neg h, mnI_1 h]
/-- alike: one pair of words -/
def arB (A : Al) (i j w : Nat) : Bool := decide (aF A i 1 = aF A j 1) && decide (aF A i 4 = aF A j 4) && decide (apN (aF A i 3) (aF A j 3) ≤ w)
/-- six bits -/
def mB (p : Nat → Bool) : Nat := (if p 0 = true then 1 else 0) + (if p 1 = true then 2 else 0) + (if p 2 = true then 4 else 0) + (if p 3 = true then 8 else 0) + (if p 4 = true then 16 else 0) + (if p 5 = true then 32 else 0)
theorem mB_all : ∀ a b c d e f : Bool, pc12 ((if a = true then 1 else 0) + (if b = true then 2 else 0) + (if c = true then 4 else 0) + (if d = true then 8 else 0) + (if e = true then 16 else 0) + (if f = true then 32 else 0)) = (if a = true then 1 else 0) + (if b = true then 1 else 0) + (if c = true then 1 else 0) + (if d = true then 1 else 0) + (if e = true then 1 else 0) + (if f = true then 1 else 0) := by decide +kernel
theorem mB_pc (p : Nat → Bool) : pc12 (mB p) = cntB p 6 := by
  unfold mB
  rw [mB_all]
  simp [cntB]
theorem mB_lt (p : Nat → Bool) : mB p < 64 := by
  unfold mB
  repeat' split
  all_goals omega
theorem mB_or6 : ∀ a b c d e f : Bool, ∀ t, t < 6 → nI ((if a = true then 1 else 0) + (if b = true then 2 else 0) + (if c = true then 4 else 0) + (if d = true then 8 else 0) + (if e = true then 16 else 0) + (if f = true then 32 else 0)) ||| nI (2 ^ t) = nI ((if (a || decide (0 = t)) = true then 1 else 0) + (if (b || decide (1 = t)) = true then 2 else 0) + (if (c || decide (2 = t)) = true then 4 else 0) + (if (d || decide (3 = t)) = true then 8 else 0) + (if (e || decide (4 = t)) = true then 16 else 0) + (if (f || decide (5 = t)) = true then 32 else 0)) := by decide +kernel
theorem mB_or (p : Nat → Bool) {t : Nat} (h : t < 6) : nI (mB p) ||| nI (2 ^ t) = nI (mB (fun u => p u || decide (u = t))) := mB_or6 _ _ _ _ _ _ t h
theorem mB_cg {p q : Nat → Bool} (h : ∀ t, p t = q t) : mB p = mB q := by rw [show p = q from funext h]
theorem cnt_ext (p : Nat → Bool) : ∀ {n m : Nat}, n ≤ m → (∀ t, n ≤ t → p t = false) → cntB p m = cntB p n
  | n, 0, h, _ => by rw [show n = 0 by omega]
  | n, m + 1, h, hp => by
    by_cases e : n = m + 1
    · rw [e]
    · rw [cntB, hp m (by omega), cnt_ext p (by omega : n ≤ m) hp]
      simp
/-- which things so far: all of the first i words, and of word i with the first j -/
def tmP (A : Al) (o1 o2 w i j t : Nat) : Bool := anyB (alR A o1 o2 t w) i || anyB (fun x => mtB A o1 o2 t w i x) j
theorem tm_0 (A : Al) (o1 o2 w i t : Nat) : tmP A o1 o2 w i 0 t = anyB (alR A o1 o2 t w) i := by unfold tmP; simp [anyB]
theorem tm_n (A : Al) (o1 o2 w i t : Nat) : tmP A o1 o2 w i (aW A) t = anyB (alR A o1 o2 t w) (i + 1) := by unfold tmP; simp [anyB, alR]
theorem tm_no {A : Al} {o1 o2 w i : Nat} (h : ¬ aF A i 2 = o1) (j t : Nat) : tmP A o1 o2 w i j t = anyB (alR A o1 o2 t w) i := by
  unfold tmP
  rw [show anyB (fun x => mtB A o1 o2 t w i x) j = false from ?_, Bool.or_false]
  induction j with
  | zero => rfl
  | succ j ih => rw [anyB, ih]; simp [mtB, h]
theorem tm_s0 {A : Al} {o1 o2 w i j : Nat} (h : ¬ aF A j 2 = o2 ∨ arB A i j w = false) (t : Nat) : tmP A o1 o2 w i (j + 1) t = tmP A o1 o2 w i j t := by
  unfold tmP
  rw [anyB, show mtB A o1 o2 t w i j = false from ?_, Bool.or_false]
  unfold mtB
  rcases h with h | h
  · simp [h]
  · unfold arB at h
    grind
theorem tm_s1 {A : Al} {o1 o2 w i j : Nat} (h1 : aF A i 2 = o1) (h2 : aF A j 2 = o2) (h : arB A i j w = true) (t : Nat) : tmP A o1 o2 w i (j + 1) t = (tmP A o1 o2 w i j t || decide (t = aF A i 1)) := by
  unfold tmP
  rw [anyB, show mtB A o1 o2 t w i j = decide (t = aF A i 1) from ?_, Bool.or_assoc]
  unfold mtB arB at *
  grind
theorem tm_fin {A : Al} (hV : Va A) (o1 o2 w : Nat) : pc12 (mB (fun t => anyB (alR A o1 o2 t w) (aW A))) = alN A o1 o2 w := by
  rw [mB_pc]
  unfold alN alB
  refine cnt_ext _ hV.1 (fun t ht => ?_)
  have key : ∀ i, i ≤ aW A → anyB (alR A o1 o2 t w) i = false := by
    intro i
    induction i with
    | zero => intro _; rfl
    | succ i ih =>
      intro hi
      have hf := (hV.2.2.2.2.2.2.1 i (by omega)).2.1
      rw [anyB, ih (by omega)]
      have key2 : ∀ j, anyB (fun x => mtB A o1 o2 t w i x) j = false := by
        intro j
        induction j with
        | zero => rfl
        | succ j ih2 => rw [anyB, ih2]; unfold mtB; rw [decide_eq_false (p := aF A i 1 = t) (by omega)]; simp
      simp [alR, key2]
  exact key _ (Nat.le_refl _)
/-- the wave as the class finds it: the begin, how many -/
def wfK (A : Al) (w : Nat) : Nat → Nat × Nat
  | 0 => (0, 0)
  | i + 1 => if (wfK A w i).2 < wiN A (aF A i 3 + 1 - w) w (aW A) ∨ (wiN A (aF A i 3 + 1 - w) w (aW A) = (wfK A w i).2 ∧ aF A i 3 + 1 - w < (wfK A w i).1) then (aF A i 3 + 1 - w, wiN A (aF A i 3 + 1 - w) w (aW A)) else wfK A w i
theorem wfK_s1 {A : Al} {w i : Nat} (h : (wfK A w i).2 < wiN A (aF A i 3 + 1 - w) w (aW A) ∨ (wiN A (aF A i 3 + 1 - w) w (aW A) = (wfK A w i).2 ∧ aF A i 3 + 1 - w < (wfK A w i).1)) : wfK A w (i + 1) = (aF A i 3 + 1 - w, wiN A (aF A i 3 + 1 - w) w (aW A)) := by rw [wfK, if_pos h]
theorem wfK_s0 {A : Al} {w i : Nat} (h : ¬ ((wfK A w i).2 < wiN A (aF A i 3 + 1 - w) w (aW A) ∨ (wiN A (aF A i 3 + 1 - w) w (aW A) = (wfK A w i).2 ∧ aF A i 3 + 1 - w < (wfK A w i).1))) : wfK A w (i + 1) = wfK A w i := by rw [wfK, if_neg h]
theorem wfK_le {A : Al} (hV : Va A) {w : Nat} (hw : 1 ≤ w) : ∀ i, i ≤ aW A → (wfK A w i).1 ≤ 999 ∧ (wfK A w i).2 ≤ 24
  | 0, _ => ⟨Nat.zero_le _, Nat.zero_le _⟩
  | i + 1, hi => by
    have := wfK_le hV hw i (by omega)
    have hf := (hV.2.2.2.2.2.2.1 i (by omega)).2.2.2.1
    have hl := wiN_le A (aF A i 3 + 1 - w) w (aW A)
    have hW := hV.2.2.1
    unfold wfK
    split
    · exact ⟨by show aF A i 3 + 1 - w ≤ 999; omega, by show wiN A _ w (aW A) ≤ 24; omega⟩
    · exact this
/-- the class's is at least as good as every hour that it tries, and the least such -/
theorem wfK_best {A : Al} {w : Nat} : ∀ i, ∀ j, j < i → wiN A (aF A j 3 + 1 - w) w (aW A) < (wfK A w i).2 ∨ (wiN A (aF A j 3 + 1 - w) w (aW A) = (wfK A w i).2 ∧ (wfK A w i).1 ≤ aF A j 3 + 1 - w)
  | 0, j, h => absurd h (Nat.not_lt_zero j)
  | i + 1, j, h => by
    by_cases q : (wfK A w i).2 < wiN A (aF A i 3 + 1 - w) w (aW A) ∨ (wiN A (aF A i 3 + 1 - w) w (aW A) = (wfK A w i).2 ∧ aF A i 3 + 1 - w < (wfK A w i).1)
    · rw [wfK_s1 q]
      by_cases e : j = i
      · subst e; exact Or.inr ⟨rfl, Nat.le_refl _⟩
      · have := wfK_best (A := A) (w := w) i j (by omega)
        show _ < wiN A (aF A i 3 + 1 - w) w (aW A) ∨ (_ = wiN A (aF A i 3 + 1 - w) w (aW A) ∧ aF A i 3 + 1 - w ≤ _)
        omega
    · rw [wfK_s0 q]
      by_cases e : j = i
      · subst e; omega
      · exact wfK_best i j (by omega)
theorem wfK_is {A : Al} {w : Nat} : ∀ i, (wfK A w i).2 = 0 ∨ wiN A (wfK A w i).1 w (aW A) = (wfK A w i).2
  | 0 => Or.inl rfl
  | i + 1 => by
    by_cases q : (wfK A w i).2 < wiN A (aF A i 3 + 1 - w) w (aW A) ∨ (wiN A (aF A i 3 + 1 - w) w (aW A) = (wfK A w i).2 ∧ aF A i 3 + 1 - w < (wfK A w i).1)
    · rw [wfK_s1 q]; exact Or.inr rfl
    · rw [wfK_s0 q]; exact wfK_is i
theorem wiN_pos {A : Al} {f w k : Nat} : ∀ {n}, k < n → f ≤ aF A k 3 → aF A k 3 < f + w → 0 < wiN A f w n
  | 0, h, _, _ => absurd h (Nat.not_lt_zero k)
  | n + 1, h, h1, h2 => by
    unfold wiN
    by_cases e : k = n
    · subst e; rw [if_pos ⟨h1, h2⟩]; omega
    · have := wiN_pos (n := n) (by omega) h1 h2; omega
theorem wiN_ex {A : Al} {f w : Nat} : ∀ {n}, 0 < wiN A f w n → ∃ k, k < n ∧ f ≤ aF A k 3 ∧ aF A k 3 < f + w
  | 0, h => absurd h (Nat.not_lt_zero 0)
  | n + 1, h => by
    unfold wiN at h
    by_cases e : f ≤ aF A n 3 ∧ aF A n 3 < f + w
    · exact ⟨n, by omega, e.1, e.2⟩
    · rw [if_neg e] at h
      obtain ⟨k, h1, h2⟩ := wiN_ex (n := n) (by omega)
      exact ⟨k, by omega, h2⟩
theorem wiN_sh {A : Al} {f w : Nat} : ∀ {n}, (∀ k, k < n → ¬ aF A k 3 = f + 1 + w - 1) → 1 ≤ w → wiN A (f + 1) w n ≤ wiN A f w n
  | 0, _, _ => Nat.le_refl _
  | n + 1, h, hw => by
    have := wiN_sh (A := A) (f := f) (n := n) (fun k hk => h k (by omega)) hw
    have hn := h n (by omega)
    unfold wiN
    by_cases e : f + 1 ≤ aF A n 3 ∧ aF A n 3 < f + 1 + w
    · rw [if_pos e, if_pos (by omega)]; omega
    · rw [if_neg e]; omega
theorem wvN_best {A : Al} {w : Nat} : ∀ n f, f ≤ n → wiN A f w (aW A) < wiN A (wvN A w n) w (aW A) ∨ (wiN A f w (aW A) = wiN A (wvN A w n) w (aW A) ∧ wvN A w n ≤ f)
  | 0, f, h => by rw [show f = 0 by omega]; exact Or.inr ⟨rfl, Nat.zero_le _⟩
  | n + 1, f, h => by
    unfold wvN
    by_cases q : wiN A (wvN A w n) w (aW A) < wiN A (n + 1) w (aW A)
    · rw [if_pos q]
      by_cases e : f = n + 1
      · rw [e]; exact Or.inr ⟨rfl, Nat.le_refl _⟩
      · have := wvN_best (A := A) (w := w) n f (by omega); omega
    · rw [if_neg q]
      by_cases e : f = n + 1
      · subst e
        have := wvN_le A w n
        omega
      · exact wvN_best n f (by omega)
theorem wfK_wv {A : Al} (hV : Va A) {w : Nat} (hw : 1 ≤ w) (hW : 0 < aW A) : (wfK A w (aW A)).1 = wvN A w 999 := by
  have hle := wvN_le A w 999
  have h0 := hV.2.2.2.2.2.2.1 0 hW
  have hp : 0 < wiN A (wvN A w 999) w (aW A) := by
    have h1 := wiN_pos (A := A) (f := aF A 0 3) (w := w) hW (Nat.le_refl _) (by omega)
    have h2 := wvN_best (A := A) (w := w) 999 (aF A 0 3) h0.2.2.2.1
    omega
  -- the wave's begin is one that the class tries
  have hc : ∃ j, j < aW A ∧ aF A j 3 + 1 - w = wvN A w 999 := by
    rcases Nat.eq_zero_or_pos (wvN A w 999) with e | e
    · rw [e] at hp ⊢
      obtain ⟨k, hk, h1, h2⟩ := wiN_ex hp
      exact ⟨k, hk, by omega⟩
    · obtain ⟨g, hg⟩ : ∃ g, wvN A w 999 = g + 1 := ⟨wvN A w 999 - 1, by omega⟩
      refine Classical.byContradiction fun hn => ?_
      have h3 := wiN_sh (A := A) (f := g) (w := w) (n := aW A) (fun k hk q => hn ⟨k, hk, by omega⟩) hw
      have h4 := wvN_best (A := A) (w := w) 999 g (by omega)
      rw [hg] at h4
      omega
  obtain ⟨j, hj, he⟩ := hc
  have h5 := wfK_best (A := A) (w := w) (aW A) j hj
  rw [he] at h5
  have h6 := wfK_le hV hw (aW A) (Nat.le_refl _)
  have h7 := wvN_best (A := A) (w := w) 999 (wfK A w (aW A)).1 h6.1
  rcases wfK_is (A := A) (w := w) (aW A) with h8 | h8
  · omega
  · omega
def chN (o : Option (Nat × Nat)) : Int32 := match o with | none => (-1000000005) | some p => nI p.2
theorem chK_df {A : Al} {t : Nat} : ∀ {n : Nat} {p : Nat × Nat}, chK A t n = some p → dfO A t p.1 = some p.2 ∧ ∃ w, w < n ∧ aF A w 1 = t ∧ aF A w 3 = p.1
  | 0, p, h => by cases h
  | n + 1, p, h => by
    by_cases e : aF A n 1 = t
    · cases hd : dfO A t (aF A n 3) with
      | none =>
        rw [chK_0 e hd] at h
        obtain ⟨h1, w, h2, h3⟩ := chK_df h
        exact ⟨h1, w, by omega, h3⟩
      | some b =>
        cases hc : chK A t n with
        | none => rw [chK_1 e hd hc] at h; cases h; exact ⟨hd, n, by omega, e, rfl⟩
        | some p' =>
          by_cases hp : p'.2 < b ∨ (b = p'.2 ∧ aF A n 3 < p'.1)
          · rw [chK_y e hd hc hp] at h; cases h; exact ⟨hd, n, by omega, e, rfl⟩
          · rw [chK_n e hd hc hp] at h; cases h
            obtain ⟨h1, w, h2, h3⟩ := chK_df hc
            exact ⟨h1, w, by omega, h3⟩
    · rw [chK_no e] at h
      obtain ⟨h1, w, h2, h3⟩ := chK_df h
      exact ⟨h1, w, by omega, h3⟩
/-! words written, moved, taken out -/
def wrA (A : Al) (k t n h s : Nat) : Al := if aW A < 24 then addW A k t n h s else A
def wrI (A : Al) : Int32 := if aW A < 24 then nI (aW A) else (-1000000003)
theorem rw_addW {σ τ : Me} {b : Nat} {A : Al} {k t n h s : Nat} (hR : RW σ b A) (e4 : τ (b + 4) 0 = nI (aW A + 1)) (e9 : τ (b + 9) (aW A) = nI k) (e10 : τ (b + 10) (aW A) = nI t) (e11 : τ (b + 11) (aW A) = nI n) (e12 : τ (b + 12) (aW A) = nI h) (e13 : τ (b + 13) (aW A) = nI s) (hk : ∀ c w, b + 9 ≤ c → c ≤ b + 13 → w < aW A → τ c w = σ c w) : RW τ b (addW A k t n h s) := by
  obtain ⟨h0, h1, h2, h3, h4, h5⟩ := hR
  refine ⟨e4, fun w hw => ?_, fun w hw => ?_, fun w hw => ?_, fun w hw => ?_, fun w hw => ?_⟩ <;> (have hw : w < aW A + 1 := hw)
  · show _ = nI (if w = aW A then k else aF A w 0)
    by_cases e : w = aW A
    · rw [if_pos e, e]; exact e9
    · rw [if_neg e, hk _ _ (by omega) (by omega) (by omega)]; exact h1 w (by omega)
  · show _ = nI (if w = aW A then t else aF A w 1)
    by_cases e : w = aW A
    · rw [if_pos e, e]; exact e10
    · rw [if_neg e, hk _ _ (by omega) (by omega) (by omega)]; exact h2 w (by omega)
  · show _ = nI (if w = aW A then n else aF A w 2)
    by_cases e : w = aW A
    · rw [if_pos e, e]; exact e11
    · rw [if_neg e, hk _ _ (by omega) (by omega) (by omega)]; exact h3 w (by omega)
  · show _ = nI (if w = aW A then h else aF A w 3)
    by_cases e : w = aW A
    · rw [if_pos e, e]; exact e12
    · rw [if_neg e, hk _ _ (by omega) (by omega) (by omega)]; exact h4 w (by omega)
  · show _ = nI (if w = aW A then s else aF A w 4)
    by_cases e : w = aW A
    · rw [if_pos e, e]; exact e13
    · rw [if_neg e, hk _ _ (by omega) (by omega) (by omega)]; exact h5 w (by omega)
def mvM (σ : Me) (b f t : Nat) : Me := fun c j => if (b + 9 ≤ c ∧ c ≤ b + 13) ∧ j = t then σ c f else σ c j
theorem mvM_eq (σ : Me) (b f t : Nat) : up (up (up (up (up σ (b + 9) t (σ (b + 9) f)) (b + 10) t (σ (b + 10) f)) (b + 11) t (σ (b + 11) f)) (b + 12) t (σ (b + 12) f)) (b + 13) t (σ (b + 13) f) = mvM σ b f t := by
  funext c j
  unfold mvM
  by_cases h : (b + 9 ≤ c ∧ c ≤ b + 13) ∧ j = t
  · rw [if_pos h]
    obtain ⟨h, rfl⟩ := h
    rcases (show c = b + 9 ∨ c = b + 10 ∨ c = b + 11 ∨ c = b + 12 ∨ c = b + 13 by omega) with rfl | rfl | rfl | rfl | rfl
    · rw [up_n (by omega), up_n (by omega), up_n (by omega), up_n (by omega), up_s]
    · rw [up_n (by omega), up_n (by omega), up_n (by omega), up_s]
    · rw [up_n (by omega), up_n (by omega), up_s]
    · rw [up_n (by omega), up_s]
    · rw [up_s]
  · rw [if_neg h, up_n (by omega), up_n (by omega), up_n (by omega), up_n (by omega), up_n (by omega)]
theorem mvM_o {σ : Me} {b f t c j : Nat} (h : ¬ ((b + 9 ≤ c ∧ c ≤ b + 13) ∧ j = t)) : mvM σ b f t c j = σ c j := by unfold mvM; rw [if_neg h]
theorem mvM_t {σ : Me} {b f t c : Nat} (h : b + 9 ≤ c ∧ c ≤ b + 13) : mvM σ b f t c t = σ c f := by unfold mvM; rw [if_pos ⟨h, rfl⟩]
theorem mvM_wf (σ : Me) (b f t : Nat) : Wf b σ (mvM σ b f t) := fun c i h1 h2 => mvM_o (by omega)
/-- row by row: the words of τ are those of σ at other places -/
theorem rw_pick {σ τ : Me} {b : Nat} {A B : Al} (g : Nat → Nat) (hR : RW σ b A) (e4 : τ (b + 4) 0 = nI (aW B)) (hg : ∀ w, w < aW B → g w < aW A ∧ ∀ f, f < 5 → aF B w f = aF A (g w) f) (hk : ∀ c w, b + 9 ≤ c → c ≤ b + 13 → w < aW B → τ c w = σ c (g w)) : RW τ b B := by
  obtain ⟨h0, h1, h2, h3, h4, h5⟩ := hR
  exact ⟨e4, fun w hw => by rw [hk _ _ (by omega) (by omega) hw, (hg w hw).2 0 (by decide)]; exact h1 _ (hg w hw).1,
    fun w hw => by rw [hk _ _ (by omega) (by omega) hw, (hg w hw).2 1 (by decide)]; exact h2 _ (hg w hw).1,
    fun w hw => by rw [hk _ _ (by omega) (by omega) hw, (hg w hw).2 2 (by decide)]; exact h3 _ (hg w hw).1,
    fun w hw => by rw [hk _ _ (by omega) (by omega) hw, (hg w hw).2 3 (by decide)]; exact h4 _ (hg w hw).1,
    fun w hw => by rw [hk _ _ (by omega) (by omega) hw, (hg w hw).2 4 (by decide)]; exact h5 _ (hg w hw).1⟩
/-- what stays: the places of the words that are kept, in their order -/
def kpL (A : Al) (v n : Nat) : List Nat := (List.range n).filter (fun w => decide (sgN A w < v))
theorem mom_eq (v : Int32) : atB v = (decide (0 ≤ v) && (inB (v / nI 10) (nI 0) (nI 999) && inB (rem v (nI 10)) (nI 1) (nI 5))) := by
  unfold atB
  by_cases h : 0 ≤ v
  · obtain ⟨a, ha, rfl⟩ := nI_of (x := v) (sgn_ge h)
    rw [decide_eq_true h, Bool.true_and, pk_div ha (by decide) (by decide)]
    congr 1
    unfold inB
    rw [show decide (nI 0 ≤ nI a) = decide (nI 0 ≤ nI (a / 10)) from by rw [decide_eq_true (p := nI 0 ≤ nI a) (nI_pos' ha), decide_eq_true (p := nI 0 ≤ nI (a / 10)) (nI_pos' (by omega))]]
    congr 1
    refine decide_eq_decide.mpr ?_
    rw [nI_leI ha (by decide), nI_leI (by omega) (by decide)]
    omega
  · rw [decide_eq_false h, Bool.false_and]
    unfold inB
    rw [decide_eq_false (p := nI 0 ≤ v) h, Bool.false_and, Bool.false_and]
theorem wv_mx {h w : Nat} (h1 : h ≤ 999) (h2 : w ≤ 1000) : mxI (nI 0) (nI h - nI w + nI 1) = nI (h + 1 - w) := by
  rcases Nat.lt_or_ge (h + 1) w with q | q
  · rw [show h + 1 - w = 0 by omega, show nI h - nI w + nI 1 = -(nI (w - (h + 1))) from ?_]
    · unfold mxI
      rw [if_neg ?_]
      intro z
      have := Int32.lt_iff_toInt_lt.mp z
      rw [Int32.toInt_neg, nI_toInt (show w - (h + 1) < 2 ^ 31 by omega), nI_toInt (show 0 < 2 ^ 31 by decide), Int.bmod_eq_of_le (by omega) (by omega)] at this
      omega
    · rw [← pk_sub (by omega), ← nI_add]
      grind
  · rw [show nI h - nI w + nI 1 = nI (h + 1 - w) from ?_, mxI_n (by decide) (by omega), Nat.max_eq_right (by omega)]
    rw [← pk_sub (by omega), ← nI_add]
    grind
