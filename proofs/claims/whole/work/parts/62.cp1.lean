/-! ===== the class's rooms: cells b .. b + 13 ===== -/
def rsh : Nat → Option (Nat × Nat)
  | 0 => some (2, 0) | 1 => some (10, 6) | 2 => some (10, 6) | 3 => some (10, 12) | 4 => some (7, 0) | 5 => some (15, 14) | 6 => some (10, 3) | 7 => some (10, 6) | 8 => some (10, 24) | 9 => some (10, 24) | 10 => some (10, 24) | 11 => some (10, 24) | 12 => some (10, 24) | 13 => some (10, 24) | _ => none
def rtg : Nat → Nat → Option Nat
  | 0, 1 => some 1 | 0, 2 => some 2 | 0, 4 => some 3 | 0, 5 => some 4 | 0, 7 => some 5 | 0, 8 => some 6 | 0, 10 => some 7 | 0, 11 => some 8 | 4, 1 => some 9 | 4, 2 => some 10 | 4, 3 => some 11 | 4, 4 => some 12 | 4, 5 => some 13 | _, _ => none
def RAt (L : La) (b : Nat) : Prop := (∀ i x, rsh i = some x → L.2.1 (b + i) = some x) ∧ (∀ i j t, rtg i j = some t → L.2.2 (b + i) j = some (b + t)) ∧ b % 20 = 0 ∧ 200 ≤ b ∧ b < 260
/-- what may change without being seen: a text's pile, near, shown, signs -/
def sc (c : Nat) : Prop := (1000 ≤ c ∧ c % 3 = 0) ∨ c = 102 ∨ (200 ≤ c ∧ c < 260 ∧ (c % 20 = 7 ∨ c % 20 = 8))
def Cs (σ τ : Me) : Prop := ∀ c i, ¬ sc c → τ c i = σ c i
theorem Cs.rf (σ : Me) : Cs σ σ := fun _ _ _ => rfl
theorem Cs.tr {σ τ ρ : Me} (h : Cs σ τ) (h2 : Cs τ ρ) : Cs σ ρ := fun c i e => (h2 c i e).trans (h c i e)
theorem Cs.up {σ τ : Me} {c i : Nat} {v : Int32} (h : Cs σ τ) (hc : sc c) : Cs σ (up τ c i v) := fun d j e => by
  rw [up_n (Or.inl (fun q => e (by rw [q]; exact hc)))]
  exact h d j e
/-- of the words alone -/
def Wf (b : Nat) (σ τ : Me) : Prop := ∀ c i, c ≠ b + 4 → (c < b + 9 ∨ b + 13 < c) → τ c i = σ c i
theorem Wf.rf (b : Nat) (σ : Me) : Wf b σ σ := fun _ _ _ _ => rfl
theorem Wf.tr {b : Nat} {σ τ ρ : Me} (h : Wf b σ τ) (h2 : Wf b τ ρ) : Wf b σ ρ := fun c i e e2 => (h2 c i e e2).trans (h c i e e2)
theorem Wf.up {b : Nat} {σ τ : Me} {c i : Nat} {v : Int32} (h : Wf b σ τ) (hc : c = b + 4 ∨ (b + 9 ≤ c ∧ c ≤ b + 13)) : Wf b σ (up τ c i v) := fun d j e e2 => by
  rw [up_n (by omega)]
  exact h d j e e2
/-- of one room -/
def Cb (b : Nat) (σ τ : Me) : Prop := ∀ c i, ¬ sc c → (c < b ∨ b + 20 ≤ c) → τ c i = σ c i
theorem Cb.rf (b : Nat) (σ : Me) : Cb b σ σ := fun _ _ _ _ => rfl
theorem Cb.tr {b : Nat} {σ τ ρ : Me} (h : Cb b σ τ) (h2 : Cb b τ ρ) : Cb b σ ρ := fun c i e e2 => (h2 c i e e2).trans (h c i e e2)
theorem Cb.up {b : Nat} {σ τ : Me} {c i : Nat} {v : Int32} (h : Cb b σ τ) (hc : b ≤ c ∧ c < b + 20) : Cb b σ (up τ c i v) := fun d j e e2 => by
  rw [up_n (by omega)]
  exact h d j e e2
theorem Cs.cb {b : Nat} {σ τ : Me} (h : Cs σ τ) : Cb b σ τ := fun c i e _ => h c i e
theorem Wf.cb {b : Nat} {σ τ : Me} (h : Wf b σ τ) : Cb b σ τ := fun c i _ e => h c i (by omega) (by omega)
def RW (σ : Me) (b : Nat) (A : Al) : Prop := σ (b + 4) 0 = nI (aW A) ∧ (∀ w, w < aW A → σ (b + 9) w = nI (aF A w 0)) ∧ (∀ w, w < aW A → σ (b + 10) w = nI (aF A w 1)) ∧ (∀ w, w < aW A → σ (b + 11) w = nI (aF A w 2)) ∧ (∀ w, w < aW A → σ (b + 12) w = nI (aF A w 3)) ∧ ∀ w, w < aW A → σ (b + 13) w = nI (aF A w 4)
def R0 (σ : Me) (b : Nat) (A : Al) : Prop := σ (b + 0) 0 = nI (aT A) ∧ σ (b + 0) 3 = nI (aN A) ∧ σ (b + 0) 6 = nI (aX A).length ∧ σ (b + 0) 9 = aZ A ∧ (∀ t, t < aT A → σ (b + 1) t = nI (aO A t)) ∧ (∀ t, t < aT A → σ (b + 2) t = nI (aB A t)) ∧ (∀ n, n < aN A → σ (b + 3) n = nI (aE A n)) ∧ ∀ y, y < 3 → σ (b + 6) y = oI (lst A y (aX A).length)
theorem RW.kept {σ τ : Me} {b : Nat} {A : Al} (h : RW σ b A) (e : ∀ c i, (c = b + 4 ∨ (b + 9 ≤ c ∧ c ≤ b + 13)) → τ c i = σ c i) : RW τ b A := by
  obtain ⟨h0, h1, h2, h3, h4, h5⟩ := h
  exact ⟨(e _ _ (by omega)).trans h0, fun w hw => (e _ _ (by omega)).trans (h1 w hw), fun w hw => (e _ _ (by omega)).trans (h2 w hw), fun w hw => (e _ _ (by omega)).trans (h3 w hw), fun w hw => (e _ _ (by omega)).trans (h4 w hw), fun w hw => (e _ _ (by omega)).trans (h5 w hw)⟩
theorem R0.kept {σ τ : Me} {b : Nat} {A : Al} (h : R0 σ b A) (e : ∀ c i, (b ≤ c ∧ c ≤ b + 3 ∨ c = b + 6) → τ c i = σ c i) : R0 τ b A := by
  obtain ⟨h0, h1, h2, h3, h4, h5, h6, h7⟩ := h
  exact ⟨(e _ _ (by omega)).trans h0, (e _ _ (by omega)).trans h1, (e _ _ (by omega)).trans h2, (e _ _ (by omega)).trans h3, fun w hw => (e _ _ (by omega)).trans (h4 w hw), fun w hw => (e _ _ (by omega)).trans (h5 w hw), fun w hw => (e _ _ (by omega)).trans (h6 w hw), fun w hw => (e _ _ (by omega)).trans (h7 w hw)⟩
theorem RW.cs {σ τ : Me} {b : Nat} {A : Al} {L : La} (h : RW σ b A) (hC : RAt L b) (e : Cs σ τ) : RW τ b A := h.kept (fun c i hc => e c i (by have := hC.2.2; unfold sc; omega))
theorem R0.cs {σ τ : Me} {b : Nat} {A : Al} {L : La} (h : R0 σ b A) (hC : RAt L b) (e : Cs σ τ) : R0 τ b A := h.kept (fun c i hc => e c i (by have := hC.2.2; unfold sc; omega))
/-- the row of KINDS above, which the launch holds -/
def KS (D : Ds) (a : Nat) : Prop := ∀ s, D.2.2.2.2 s → va_Z "FiveStars$Kinds" "ABOVE" "[I" (.ref a) No s D.2.2.2.1 ∧ va_T .int a 6 (fun j => .int (abI j)) No s D.2.2.2.1
section
variable {X : Cx} {cc : ByteArray} {own nm : String} {rm : Room} {ret : Option FieldType} {L : La} {σ : Me} {mc ms : Nat} {ls : List (Nat × Value)} {pc nx tgt : Nat} {st : List Value} {off : Int}
theorem r_ialdT (hX : Ok X cc own nm rm ret) {t N k : Nat} {f : Nat → Value} (hT : va_T .int t N f No (xs X) (xD X).2.2.2.1) (hd : Dc cc pc .iaload 1 nx) (hN : N < 2 ^ 31) (hk : k < N) (v : Int32) (hv : f k = .int v) (kk : At X L σ mc ms ls nx (.int v :: st)) : At X L σ mc ms ls pc (.int (nI k) :: .ref t :: st) := by
  obtain ⟨hd, rfl⟩ := hd
  intro H locs la h1 h2 h3 h4
  obtain ⟨cell, e1, e2, e3, e4, e5, e6, e7⟩ := hT.kept (at_base h1)
  have hin := nI_in hk hN
  have hin2 : ¬ (nI k < 0 ∨ cell.slots.size ≤ (nI k).toNatClampNeg) := by
    rw [nI_clamp (by omega)] at hin ⊢
    intro q
    rcases q with q | q
    · exact hin (Or.inl q)
    · omega
  exact W.iald (v := .int v) hX.1 hX.2.1 e1 e2 e3 hin2 (by rw [nI_clamp (by omega), e6 _ hk, hv]) rfl rfl hd (kk H locs la h1 h2 h3 h4)
theorem r_alen (hX : Ok X cc own nm rm ret) {id k n : Nat} (hd : Dc cc pc .arraylength 1 nx) (hs : L.2.1 id = some (k, n)) (hk : 10 ≤ k) (hk2 : k < 16) (kk : At X L σ mc ms ls nx (.int (nI n) :: st)) : At X L σ mc ms ls pc (.ref (L.1 id) :: st) := by
  obtain ⟨hd, rfl⟩ := hd
  intro H locs la h1 h2 h3 h4
  have hc := h1.1 id k n hs
  unfold Ce at hc
  rw [if_neg (by omega)] at hc
  split at hc
  · exact W.alen (n := nI n) hX.1 hX.2.1 hc ((hX.2.2.2.2.2.1.2.1 k hk hk2).1 n _) (by rw [arrV_size]; rfl) rfl rfl hd (kk H locs la h1 h2 h3 h4)
  · exact W.alen (n := nI n) hX.1 hX.2.1 hc ((hX.2.2.2.2.2.1.2.1 k hk hk2).1 n _) (by rw [arrV_size]; rfl) rfl rfl hd (kk H locs la h1 h2 h3 h4)
end
/-! the JDK's small ones -/
def mxI (a b : Int32) : Int32 := if a < b then b else a
def miI (a b : Int32) : Int32 := if b < a then b else a
def abs' (a : Int32) : Int32 := if 0 ≤ a then a else 0 - a
theorem mxI_n {a b : Nat} (ha : a < 2 ^ 31) (hb : b < 2 ^ 31) : mxI (nI a) (nI b) = nI (max a b) := by
  unfold mxI
  by_cases h : a < b
  · rw [if_pos ((nI_ltI ha hb).mpr h), Nat.max_eq_right (by omega)]
  · rw [if_neg (fun e => h ((nI_ltI ha hb).mp e)), Nat.max_eq_left (by omega)]
theorem miI_n {a b : Nat} (ha : a < 2 ^ 31) (hb : b < 2 ^ 31) : miI (nI a) (nI b) = nI (min a b) := by
  unfold miI
  by_cases h : b < a
  · rw [if_pos ((nI_ltI hb ha).mpr h), Nat.min_eq_right (by omega)]
  · rw [if_neg (fun e => h ((nI_ltI hb ha).mp e)), Nat.min_eq_left (by omega)]
theorem abs_sub {a b : Nat} (ha : a < 2 ^ 31) (hb : b < 2 ^ 31) : abs' (nI a - nI b) = nI (apN a b) := by
  unfold abs' apN
  rcases Nat.lt_or_ge a b with h | h
  · have e : nI a - nI b = -(nI (b - a)) := by rw [← pk_sub (by omega)]; exact (Int32.neg_sub).symm
    rw [e, if_neg ?_, if_pos h, Int32.zero_sub, Int32.neg_neg]
    intro q
    have := Int32.le_iff_toInt_le.mp q
    rw [Int32.toInt_neg, nI_toInt (by omega)] at this
    have h0 : (0 : Int32).toInt = 0 := by decide
    rw [h0, Int.bmod_eq_of_le (by omega) (by omega)] at this
    omega
  · rw [pk_sub h, if_pos (nI_pos' (by omega)), if_neg (by omega)]
def bcI (q : Int32) : Int32 :=
  let a := q - (ushr q (nI 1) &&& 1431655765)
  let b := (a &&& 858993459) + (ushr a (nI 2) &&& 858993459)
  let c := (b + ushr b (nI 4)) &&& 252645135
  let d := c + ushr c (nI 8)
  let e := d + ushr d (nI 16)
  e &&& nI 63
theorem bcI_n : ∀ q, q < 4096 → bcI (nI q) = nI (pc12 q) := by64 (P := fun q => bcI (nI q) = nI (pc12 q)) (by decide +kernel)
theorem mxI_p {p : Nat} (h : p < 2 ^ 31) : mxI (nI 0) (nI p - nI 1) = nI (p - 1) := by
  rcases Nat.eq_zero_or_pos p with e | e
  · subst e; decide
  · rw [pk_sub (by omega), mxI_n (by decide) (by omega), Nat.max_eq_right (by omega)]
section
variable {X : Cx} {cc : ByteArray} {own nm : String} {rm : Room} {ret : Option FieldType} {L : La} {σ : Me} {mc ms : Nat} {ls : List (Nat × Value)} {pc nx tgt : Nat} {st : List Value} {off : Int}
theorem r_max (hX : Ok X cc own nm rm ret) {idx : Nat} {x y : Int32} (hd : Dc cc pc (.invokestatic idx) 3 nx) (hw : CB own idx yJ9_max_7cf53 cJ9_max_7cf53 2 (some .int) 2 ∧ Cond.static yJ9_max_7cf53 ∈ TT) (hR : 1 ≤ rm.frames ∧ 21 ≤ rm.locals) (hC : mc ≤ rm.cells ∧ ms ≤ rm.slots) (hcat : (st.map fun v => v.category).sum ≤ 8) (v : Int32) (hv : mxI x y = v) (kk : At X L σ mc ms ls nx (.int v :: st)) : At X L σ mc ms ls pc (.int y :: .int x :: st) := by
  obtain ⟨hd, rfl⟩ := hd
  subst hv
  obtain ⟨⟨w1, w2, w3, -⟩, w4⟩ := hw
  intro H locs la h1 h2 h3 h4
  have hr := hX.2.2.2.2.2.2.2.2.1
  exact va_mmax hX.1 hX.2.1 (hX.2.2.1.trans h4.1.symm) hX.2.2.2.1 (hX.2.2.2.2.1 _ w1) (hX.2.2.2.2.1 _ w4) (hX.2.2.2.2.1 _ w2) (hX.2.2.2.2.1 _ w3) (by rw [hr]; exact hR.1) (by rw [hr]; omega) (by rw [hr]; exact hC.1) (by rw [hr]; exact hC.2) hd (kk H locs la h1 h2 h3 h4)
theorem r_min (hX : Ok X cc own nm rm ret) {idx : Nat} {x y : Int32} (hd : Dc cc pc (.invokestatic idx) 3 nx) (hw : CB own idx yJ9_min_7cf53 cJ9_min_7cf53 2 (some .int) 2 ∧ Cond.static yJ9_min_7cf53 ∈ TT) (hR : 1 ≤ rm.frames ∧ 21 ≤ rm.locals) (hC : mc ≤ rm.cells ∧ ms ≤ rm.slots) (hcat : (st.map fun v => v.category).sum ≤ 8) (v : Int32) (hv : miI x y = v) (kk : At X L σ mc ms ls nx (.int v :: st)) : At X L σ mc ms ls pc (.int y :: .int x :: st) := by
  obtain ⟨hd, rfl⟩ := hd
  subst hv
  obtain ⟨⟨w1, w2, w3, -⟩, w4⟩ := hw
  intro H locs la h1 h2 h3 h4
  have hr := hX.2.2.2.2.2.2.2.2.1
  exact va_mmin hX.1 hX.2.1 (hX.2.2.1.trans h4.1.symm) hX.2.2.2.1 (hX.2.2.2.2.1 _ w1) (hX.2.2.2.2.1 _ w4) (hX.2.2.2.2.1 _ w2) (hX.2.2.2.2.1 _ w3) (by rw [hr]; exact hR.1) (by rw [hr]; omega) (by rw [hr]; exact hC.1) (by rw [hr]; exact hC.2) hd (kk H locs la h1 h2 h3 h4)
theorem r_abs (hX : Ok X cc own nm rm ret) {idx : Nat} {x : Int32} (hd : Dc cc pc (.invokestatic idx) 3 nx) (hw : CB own idx yJ9_abs_0f7a4 cJ9_abs_0f7a4 1 (some .int) 1 ∧ Cond.static yJ9_abs_0f7a4 ∈ TT) (hR : 1 ≤ rm.frames ∧ 21 ≤ rm.locals) (hC : mc ≤ rm.cells ∧ ms ≤ rm.slots) (hcat : (st.map fun v => v.category).sum ≤ 8) (v : Int32) (hv : abs' x = v) (kk : At X L σ mc ms ls nx (.int v :: st)) : At X L σ mc ms ls pc (.int x :: st) := by
  obtain ⟨hd, rfl⟩ := hd
  subst hv
  obtain ⟨⟨w1, w2, w3, -⟩, w4⟩ := hw
  intro H locs la h1 h2 h3 h4
  have hr := hX.2.2.2.2.2.2.2.2.1
  exact va_mabs hX.1 hX.2.1 (hX.2.2.1.trans h4.1.symm) hX.2.2.2.1 (hX.2.2.2.2.1 _ w1) (hX.2.2.2.2.1 _ w4) (hX.2.2.2.2.1 _ w2) (hX.2.2.2.2.1 _ w3) (by rw [hr]; exact hR.1) (by rw [hr]; omega) (by rw [hr]; exact hC.1) (by rw [hr]; exact hC.2) hd (kk H locs la h1 h2 h3 h4)
end
