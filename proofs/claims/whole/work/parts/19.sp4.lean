/-! ===== changes ===== -/
def mkA (t n w : Nat) (o b e : Nat → Nat) (f : Nat → Nat → Nat) (z : Int32) (x : List Tx) : Al := (t, n, w, o, b, e, f, z, x)
def addT (A : Al) (v : Nat) : Al := mkA (aT A + 1) (aN A) (aW A) (fun t => if t = aT A then v else aO A t) (fun t => if t = aT A then 0 else aB A t) (aE A) (aF A) (aZ A) (aX A)
def setO (A : Al) (q v : Nat) : Al := mkA (aT A) (aN A) (aW A) (fun t => if t = q then v else aO A t) (aB A) (aE A) (aF A) (aZ A) (aX A)
def setB (A : Al) (q v : Nat) : Al := mkA (aT A) (aN A) (aW A) (aO A) (fun t => if t = q then v else aB A t) (aE A) (aF A) (aZ A) (aX A)
def addN (A : Al) (v : Nat) : Al := mkA (aT A) (aN A + 1) (aW A) (aO A) (aB A) (fun t => if t = aN A then v else aE A t) (aF A) (aZ A) (aX A)
def wd5 (k t n h s f : Nat) : Nat := match f with | 0 => k | 1 => t | 2 => n | 3 => h | _ => s
def addW (A : Al) (k t n h s : Nat) : Al := mkA (aT A) (aN A) (aW A + 1) (aO A) (aB A) (aE A) (fun w f => if w = aW A then wd5 k t n h s f else aF A w f) (aZ A) (aX A)
def setF (A : Al) (q g v : Nat) : Al := mkA (aT A) (aN A) (aW A) (aO A) (aB A) (aE A) (fun w f => if w = q ∧ f = g then v else aF A w f) (aZ A) (aX A)
def delW (A : Al) (q : Nat) : Al := mkA (aT A) (aN A) (aW A - 1) (aO A) (aB A) (aE A) (fun w f => if w < q then aF A w f else aF A (w + 1) f) (aZ A) (aX A)
def setZ (A : Al) (z : Int32) : Al := mkA (aT A) (aN A) (aW A) (aO A) (aB A) (aE A) (aF A) z (aX A)
def addX (A : Al) (t : Tx) : Al := mkA (aT A) (aN A) (aW A) (aO A) (aB A) (aE A) (aF A) (aZ A) (aX A ++ [t])
theorem va_addT {A : Al} (hV : Va A) {v : Nat} (h : aT A < 6) (hv : v ≤ 100) : Va (addT A v) := by
  obtain ⟨h1, h2, h3, h4, h5, h6, h7, h8⟩ := hV
  refine ⟨by show aT A + 1 ≤ 6; omega, h2, h3, h4, fun t ht => ?_, h6, fun w hw => ?_, h8⟩
  · have ht : t < aT A + 1 := ht
    show (if t = aT A then v else aO A t) ≤ 100 ∧ (if t = aT A then 0 else aB A t) ≤ 9999
    by_cases e : t = aT A
    · simp [e, hv]
    · simp [e]; exact h5 t (by omega)
  · obtain ⟨q1, q2, q3⟩ := h7 w hw
    exact ⟨q1, Nat.lt_succ_of_lt q2, q3⟩
theorem va_setO {A : Al} (hV : Va A) {q v : Nat} (hv : v ≤ 100) : Va (setO A q v) := by
  obtain ⟨h1, h2, h3, h4, h5, h6, h7, h8⟩ := hV
  refine ⟨h1, h2, h3, h4, fun t ht => ?_, h6, h7, h8⟩
  show (if t = q then v else aO A t) ≤ 100 ∧ aB A t ≤ 9999
  by_cases e : t = q
  · rw [if_pos e]; exact ⟨hv, (h5 t ht).2⟩
  · rw [if_neg e]; exact h5 t ht
theorem va_setB {A : Al} (hV : Va A) {q v : Nat} (hv : v ≤ 9999) : Va (setB A q v) := by
  obtain ⟨h1, h2, h3, h4, h5, h6, h7, h8⟩ := hV
  refine ⟨h1, h2, h3, h4, fun t ht => ?_, h6, h7, h8⟩
  show aO A t ≤ 100 ∧ (if t = q then v else aB A t) ≤ 9999
  by_cases e : t = q
  · rw [if_pos e]; exact ⟨(h5 t ht).1, hv⟩
  · rw [if_neg e]; exact h5 t ht
theorem va_addN {A : Al} (hV : Va A) {v : Nat} (h : aN A < 12) (hv : v ≤ 999) : Va (addN A v) := by
  obtain ⟨h1, h2, h3, h4, h5, h6, h7, h8⟩ := hV
  refine ⟨h1, by show aN A + 1 ≤ 12; omega, h3, h4, h5, fun t ht => ?_, fun w hw => ?_, h8⟩
  · have ht : t < aN A + 1 := ht
    show (if t = aN A then v else aE A t) ≤ 999
    by_cases e : t = aN A
    · simp [e, hv]
    · simp [e]; exact h6 t (by omega)
  · obtain ⟨q1, q2, q3, q4⟩ := h7 w hw
    exact ⟨q1, q2, Nat.lt_succ_of_lt q3, q4⟩
theorem va_addW {A : Al} (hV : Va A) {k t n h s : Nat} (hw : aW A < 24) (h1 : k ≤ 5) (h2 : t < aT A) (h3 : n < aN A) (h4 : h ≤ 999) (h5 : 1 ≤ s) (h6 : s ≤ 5) : Va (addW A k t n h s) := by
  obtain ⟨g1, g2, g3, g4, g5, g6, g7, g8⟩ := hV
  refine ⟨g1, g2, by show aW A + 1 ≤ 24; omega, g4, g5, g6, fun w hw => ?_, g8⟩
  have hw : w < aW A + 1 := hw
  by_cases e : w = aW A
  · simp only [addW, mkA, aF, aT, aN, e, if_true, wd5]
    exact ⟨h1, h2, h3, h4, h5, h6⟩
  · have := g7 w (by omega)
    simp only [addW, mkA, aF, aT, aN] at this ⊢
    simp only [e, if_false]
    exact this
theorem va_setF {A : Al} (hV : Va A) {q g v : Nat} (h : (g = 0 ∧ v ≤ 5) ∨ (g = 4 ∧ 1 ≤ v ∧ v ≤ 5)) : Va (setF A q g v) := by
  obtain ⟨g1, g2, g3, g4, g5, g6, g7, g8⟩ := hV
  refine ⟨g1, g2, g3, g4, g5, g6, fun w hw => ?_, g8⟩
  obtain ⟨q1, q2, q3, q4, q5, q6⟩ := g7 w hw
  show (if w = q ∧ 0 = g then v else aF A w 0) ≤ 5 ∧ (if w = q ∧ 1 = g then v else aF A w 1) < aT A ∧ (if w = q ∧ 2 = g then v else aF A w 2) < aN A ∧ (if w = q ∧ 3 = g then v else aF A w 3) ≤ 999 ∧ 1 ≤ (if w = q ∧ 4 = g then v else aF A w 4) ∧ (if w = q ∧ 4 = g then v else aF A w 4) ≤ 5
  rcases h with ⟨rfl, h⟩ | ⟨rfl, h, h'⟩
  · simp; refine ⟨by split <;> omega, q2, q3, q4, q5, q6⟩
  · simp; refine ⟨q1, q2, q3, q4, by split <;> omega, by split <;> omega⟩
theorem va_delW {A : Al} (hV : Va A) {q : Nat} (hq : q < aW A) : Va (delW A q) := by
  obtain ⟨g1, g2, g3, g4, g5, g6, g7, g8⟩ := hV
  refine ⟨g1, g2, by show aW A - 1 ≤ 24; omega, g4, g5, g6, fun w hw => ?_, g8⟩
  have hw : w < aW A - 1 := hw
  show (if w < q then aF A w 0 else aF A (w + 1) 0) ≤ 5 ∧ (if w < q then aF A w 1 else aF A (w + 1) 1) < aT A ∧ (if w < q then aF A w 2 else aF A (w + 1) 2) < aN A ∧ (if w < q then aF A w 3 else aF A (w + 1) 3) ≤ 999 ∧ 1 ≤ (if w < q then aF A w 4 else aF A (w + 1) 4) ∧ (if w < q then aF A w 4 else aF A (w + 1) 4) ≤ 5
  by_cases e : w < q
  · simp only [e, if_true]; exact g7 w (by omega)
  · simp only [e, if_false]; exact g7 (w + 1) (by omega)
theorem va_setZ {A : Al} (hV : Va A) {z : Int32} : Va (setZ A z) := hV
theorem va_addX {A : Al} (hV : Va A) {t : Tx} (h : (aX A).length < 14) (ht : okT t) : Va (addX A t) := by
  obtain ⟨g1, g2, g3, g4, g5, g6, g7, g8⟩ := hV
  refine ⟨g1, g2, g3, by show (aX A ++ [t]).length ≤ 14; simp; omega, g5, g6, g7, fun x hx => ?_⟩
  have hx : x ∈ aX A ++ [t] := hx
  rcases List.mem_append.mp hx with h | h
  · exact g8 x h
  · rw [List.mem_singleton.mp h]; exact ht
/-! ===== the reference's row behind a change ===== -/
/-- the texts of a row, read off -/
def RX (S : Nat → Int32) (X : List Tx) : Prop := ∀ x, x < X.length → S (149 + 104 * x) = nI (X.getD x (0, 0, [])).1 ∧ S (149 + 104 * x + 1) = nI (X.getD x (0, 0, [])).2.1 ∧ S (149 + 104 * x + 2) = nI (X.getD x (0, 0, [])).2.2.length ∧ ∀ k, k < (X.getD x (0, 0, [])).2.2.length → S (149 + 104 * x + 3 + k) = nI ((X.getD x (0, 0, [])).2.2.getD k 0)
theorem RX.same {S S' : Nat → Int32} {X : List Tx} (h : RX S X) (e : ∀ j, 149 ≤ j → S' j = S j) : RX S' X := fun x hx => by
  obtain ⟨h1, h2, h3, h4⟩ := h x hx
  exact ⟨by rw [e _ (by omega)]; exact h1, by rw [e _ (by omega)]; exact h2, by rw [e _ (by omega)]; exact h3, fun k hk => by rw [e _ (by omega)]; exact h4 k hk⟩
theorem rm_addT {S S' : Nat → Int32} {A : Al} (hR : RM S A) (hV : Va A) {v : Nat} (h : aT A < 6) (h0 : S' 0 = nI (aT A + 1)) (ho : S' (5 + 2 * aT A) = nI v) (hb : S' (5 + 2 * aT A + 1) = nI 0) (e : ∀ j, j ≠ 0 → j ≠ 5 + 2 * aT A → j ≠ 5 + 2 * aT A + 1 → S' j = S j) : RM S' (addT A v) := by
  obtain ⟨h1, h2, h3, h4, h5, h6, h7, h8, h9⟩ := hR
  have hT := hV.1
  have hN := hV.2.1
  refine ⟨h0, by rw [e _ (by omega) (by omega) (by omega)]; exact h2, by rw [e _ (by omega) (by omega) (by omega)]; exact h3, by rw [e _ (by omega) (by omega) (by omega)]; exact h4, by rw [e _ (by omega) (by omega) (by omega)]; exact h5, fun t ht => ?_, fun n hn => ?_, fun w f hw hf => ?_, RX.same h9 (fun j hj => e j (by omega) (by omega) (by omega))⟩
  · have ht : t < aT A + 1 := ht
    show S' (5 + 2 * t) = nI (if t = aT A then v else aO A t) ∧ S' (5 + 2 * t + 1) = nI (if t = aT A then 0 else aB A t)
    by_cases q : t = aT A
    · subst q; simp only [if_true]; exact ⟨ho, hb⟩
    · simp only [q, if_false]
      rw [e _ (by omega) (by omega) (by omega), e _ (by omega) (by omega) (by omega)]
      exact h6 t (by omega)
  · rw [e _ (by omega) (by omega) (by omega)]; exact h7 n hn
  · rw [e _ (by omega) (by omega) (by omega)]; exact h8 w f hw hf
theorem rm_setO {S S' : Nat → Int32} {A : Al} (hR : RM S A) (hV : Va A) {q v : Nat} (hq : q < aT A) (ho : S' (5 + 2 * q) = nI v) (e : ∀ j, j ≠ 5 + 2 * q → S' j = S j) : RM S' (setO A q v) := by
  obtain ⟨h1, h2, h3, h4, h5, h6, h7, h8, h9⟩ := hR
  have hT := hV.1
  refine ⟨by rw [e _ (by omega)]; exact h1, by rw [e _ (by omega)]; exact h2, by rw [e _ (by omega)]; exact h3, by rw [e _ (by omega)]; exact h4, by rw [e _ (by omega)]; exact h5, fun t ht => ?_, fun n hn => ?_, fun w f hw hf => ?_, RX.same h9 (fun j hj => e j (by omega))⟩
  · have ht : t < aT A := ht
    show S' (5 + 2 * t) = nI (if t = q then v else aO A t) ∧ S' (5 + 2 * t + 1) = nI (aB A t)
    by_cases z : t = q
    · subst z; simp only [if_true]; exact ⟨ho, by rw [e _ (by omega)]; exact (h6 t ht).2⟩
    · simp only [z, if_false]
      rw [e _ (by omega), e _ (by omega)]
      exact h6 t (by omega)
  · rw [e _ (by omega)]; exact h7 n hn
  · rw [e _ (by omega)]; exact h8 w f hw hf
theorem rm_setB {S S' : Nat → Int32} {A : Al} (hR : RM S A) (hV : Va A) {q v : Nat} (hq : q < aT A) (ho : S' (5 + 2 * q + 1) = nI v) (e : ∀ j, j ≠ 5 + 2 * q + 1 → S' j = S j) : RM S' (setB A q v) := by
  obtain ⟨h1, h2, h3, h4, h5, h6, h7, h8, h9⟩ := hR
  have hT := hV.1
  refine ⟨by rw [e _ (by omega)]; exact h1, by rw [e _ (by omega)]; exact h2, by rw [e _ (by omega)]; exact h3, by rw [e _ (by omega)]; exact h4, by rw [e _ (by omega)]; exact h5, fun t ht => ?_, fun n hn => ?_, fun w f hw hf => ?_, RX.same h9 (fun j hj => e j (by omega))⟩
  · have ht : t < aT A := ht
    show S' (5 + 2 * t) = nI (aO A t) ∧ S' (5 + 2 * t + 1) = nI (if t = q then v else aB A t)
    by_cases z : t = q
    · subst z; simp only [if_true]; exact ⟨by rw [e _ (by omega)]; exact (h6 t ht).1, ho⟩
    · simp only [z, if_false]
      rw [e _ (by omega), e _ (by omega)]
      exact h6 t (by omega)
  · rw [e _ (by omega)]; exact h7 n hn
  · rw [e _ (by omega)]; exact h8 w f hw hf
theorem rm_addN {S S' : Nat → Int32} {A : Al} (hR : RM S A) (hV : Va A) {v : Nat} (h : aN A < 12) (h0 : S' 1 = nI (aN A + 1)) (ho : S' (17 + aN A) = nI v) (e : ∀ j, j ≠ 1 → j ≠ 17 + aN A → S' j = S j) : RM S' (addN A v) := by
  obtain ⟨h1, h2, h3, h4, h5, h6, h7, h8, h9⟩ := hR
  have hT := hV.1
  refine ⟨by rw [e _ (by omega) (by omega)]; exact h1, h0, by rw [e _ (by omega) (by omega)]; exact h3, by rw [e _ (by omega) (by omega)]; exact h4, by rw [e _ (by omega) (by omega)]; exact h5, fun t ht => ?_, fun n hn => ?_, fun w f hw hf => ?_, RX.same h9 (fun j hj => e j (by omega) (by omega))⟩
  · have ht : t < aT A := ht
    rw [e _ (by omega) (by omega), e _ (by omega) (by omega)]
    exact h6 t ht
  · have hn : n < aN A + 1 := hn
    show S' (17 + n) = nI (if n = aN A then v else aE A n)
    by_cases q : n = aN A
    · subst q; simp only [if_true]; exact ho
    · simp only [q, if_false]
      rw [e _ (by omega) (by omega)]
      exact h7 n (by omega)
  · rw [e _ (by omega) (by omega)]; exact h8 w f hw hf
theorem rm_addW {S S' : Nat → Int32} {A : Al} (hR : RM S A) (hV : Va A) {k t n h s : Nat} (hw : aW A < 24) (h0 : S' 2 = nI (aW A + 1)) (ho : ∀ f, f < 5 → S' (29 + 5 * aW A + f) = nI (wd5 k t n h s f)) (e : ∀ j, j ≠ 2 → (j < 29 + 5 * aW A ∨ 29 + 5 * aW A + 5 ≤ j) → S' j = S j) : RM S' (addW A k t n h s) := by
  obtain ⟨h1, h2, h3, h4, h5, h6, h7, h8, h9⟩ := hR
  have hT := hV.1
  have hN := hV.2.1
  refine ⟨by rw [e _ (by omega) (by omega)]; exact h1, by rw [e _ (by omega) (by omega)]; exact h2, h0, by rw [e _ (by omega) (by omega)]; exact h4, by rw [e _ (by omega) (by omega)]; exact h5, fun t ht => ?_, fun n hn => ?_, fun w f hw hf => ?_, RX.same h9 (fun j hj => e j (by omega) (by omega))⟩
  · have ht : t < aT A := ht
    rw [e _ (by omega) (by omega), e _ (by omega) (by omega)]
    exact h6 t ht
  · have hn : n < aN A := hn
    rw [e _ (by omega) (by omega)]; exact h7 n hn
  · have hw : w < aW A + 1 := hw
    show S' (29 + 5 * w + f) = nI (if w = aW A then wd5 k t n h s f else aF A w f)
    by_cases q : w = aW A
    · subst q; simp only [if_true]; exact ho f hf
    · simp only [q, if_false]
      rw [e _ (by omega) (by omega)]
      exact h8 w f (by omega) hf
theorem rm_setF {S S' : Nat → Int32} {A : Al} (hR : RM S A) (hV : Va A) {q g v : Nat} (hq : q < aW A) (hg : g < 5) (ho : S' (29 + 5 * q + g) = nI v) (e : ∀ j, j ≠ 29 + 5 * q + g → S' j = S j) : RM S' (setF A q g v) := by
  obtain ⟨h1, h2, h3, h4, h5, h6, h7, h8, h9⟩ := hR
  have hT := hV.1
  have hN := hV.2.1
  have hW := hV.2.2.1
  refine ⟨by rw [e _ (by omega)]; exact h1, by rw [e _ (by omega)]; exact h2, by rw [e _ (by omega)]; exact h3, by rw [e _ (by omega)]; exact h4, by rw [e _ (by omega)]; exact h5, fun t ht => ?_, fun n hn => ?_, fun w f hw hf => ?_, RX.same h9 (fun j hj => e j (by omega))⟩
  · have ht : t < aT A := ht
    rw [e _ (by omega), e _ (by omega)]; exact h6 t ht
  · have hn : n < aN A := hn
    rw [e _ (by omega)]; exact h7 n hn
  · show S' (29 + 5 * w + f) = nI (if w = q ∧ f = g then v else aF A w f)
    by_cases z : w = q ∧ f = g
    · rw [if_pos z, z.1, z.2]; exact ho
    · rw [if_neg z, e _ (by omega)]; exact h8 w f hw hf
theorem rm_delW {S S' : Nat → Int32} {A : Al} (hR : RM S A) (hV : Va A) {q : Nat} (hq : q < aW A) (h0 : S' 2 = nI (aW A - 1)) (ho : ∀ j, 29 + 5 * q ≤ j → j < 29 + 5 * (aW A - 1) → S' j = S (j + 5)) (e : ∀ j, j ≠ 2 → (j < 29 + 5 * q ∨ 149 ≤ j) → S' j = S j) : RM S' (delW A q) := by
  obtain ⟨h1, h2, h3, h4, h5, h6, h7, h8, h9⟩ := hR
  have hT := hV.1
  have hN := hV.2.1
  have hW := hV.2.2.1
  refine ⟨by rw [e _ (by omega) (by omega)]; exact h1, by rw [e _ (by omega) (by omega)]; exact h2, h0, by rw [e _ (by omega) (by omega)]; exact h4, by rw [e _ (by omega) (by omega)]; exact h5, fun t ht => ?_, fun n hn => ?_, fun w f hw hf => ?_, RX.same h9 (fun j hj => e j (by omega) (by omega))⟩
  · have ht : t < aT A := ht
    rw [e _ (by omega) (by omega), e _ (by omega) (by omega)]; exact h6 t ht
  · have hn : n < aN A := hn
    rw [e _ (by omega) (by omega)]; exact h7 n hn
  · have hw : w < aW A - 1 := hw
    show S' (29 + 5 * w + f) = nI (if w < q then aF A w f else aF A (w + 1) f)
    by_cases z : w < q
    · rw [if_pos z, e _ (by omega) (by omega)]; exact h8 w f (by omega) hf
    · rw [if_neg z, ho _ (by omega) (by omega)]
      have := h8 (w + 1) f (by omega) hf
      rw [show 29 + 5 * w + f + 5 = 29 + 5 * (w + 1) + f by omega]
      exact this
theorem rm_setZ {S S' : Nat → Int32} {A : Al} (hR : RM S A) (hV : Va A) {z : Int32} (h0 : S' 4 = z) (e : ∀ j, j ≠ 4 → S' j = S j) : RM S' (setZ A z) := by
  obtain ⟨h1, h2, h3, h4, h5, h6, h7, h8, h9⟩ := hR
  have hT := hV.1
  refine ⟨by rw [e _ (by omega)]; exact h1, by rw [e _ (by omega)]; exact h2, by rw [e _ (by omega)]; exact h3, by rw [e _ (by omega)]; exact h4, h0, fun t ht => ?_, fun n hn => ?_, fun w f hw hf => ?_, RX.same h9 (fun j hj => e j (by omega))⟩
  · have ht : t < aT A := ht
    rw [e _ (by omega), e _ (by omega)]; exact h6 t ht
  · rw [e _ (by omega)]; exact h7 n hn
  · rw [e _ (by omega)]; exact h8 w f hw hf
/-- the row s, and what is not seen, alone change -/
def S1 (σ τ : Me) : Prop := ∀ c i, c ≠ 1 → scr c i = false → τ c i = σ c i
theorem S1.rf (σ : Me) : S1 σ σ := fun _ _ _ _ => rfl
theorem S1.tr {σ τ ρ : Me} (h : S1 σ τ) (h2 : S1 τ ρ) : S1 σ ρ := fun c i e1 e2 => (h2 c i e1 e2).trans (h c i e1 e2)
theorem S1.up {σ τ : Me} {c i : Nat} {v : Int32} (h : S1 σ τ) (hc : c = 1 ∨ scr c i = true) : S1 σ (up τ c i v) := fun d j e1 e => by
  rw [up_n ?_]
  · exact h d j e1 e
  · by_cases h1 : d = c
    · right
      intro h2
      rcases hc with hc | hc
      · exact e1 (h1.trans hc)
      · rw [h1, h2, hc] at e
        cases e
    · exact Or.inl h1
theorem Sm.s1 {σ τ : Me} (h : Sm σ τ) : S1 σ τ := fun c i _ e => h c i e
theorem Sw.s1 {σ τ : Me} (h : Sw σ τ) : S1 σ τ := h.sm.s1
theorem Su.s1 {σ τ : Me} (h : Su σ τ) : S1 σ τ := h.sm.s1
