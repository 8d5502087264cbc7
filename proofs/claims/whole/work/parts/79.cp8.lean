/-! ===== the class's object: 100; groups 101, 102; tape 103, 104; reader 105, 106; sheets 107, slots 108, waiting 109; sheets 110 .. 117; slots 120 .. 134; rooms 200, 220, 240; texts from 1000 on ===== -/
def csh : Nat → Option (Nat × Nat)
  | 100 => some (8, 0) | 101 => some (0, 0) | 102 => some (10, 12) | 103 => some (5, 0) | 104 => some (11, 96) | 105 => some (1, 0) | 106 => some (10, 96) | 107 => some (13, 4) | 108 => some (14, 5) | 109 => some (10, 60)
  | 110 => some (3, 0) | 111 => some (10, 24) | 112 => some (3, 0) | 113 => some (10, 24) | 114 => some (3, 0) | 115 => some (10, 24) | 116 => some (3, 0) | 117 => some (10, 24) | 120 => some (4, 0) | 123 => some (4, 0) | 126 => some (4, 0) | 129 => some (4, 0) | 132 => some (4, 0) | _ => none
def ctg : Nat → Nat → Option Nat
  | 100, 0 => some 200 | 100, 1 => some 101 | 100, 2 => some 103 | 100, 3 => some 105 | 100, 4 => some 107 | 100, 5 => some 108 | 100, 6 => some 109 | 101, 0 => some 102 | 103, 0 => some 104 | 105, 0 => some 103 | 105, 1 => some 106
  | 107, 0 => some 110 | 107, 1 => some 112 | 107, 2 => some 114 | 107, 3 => some 116 | 110, 2 => some 111 | 112, 2 => some 113 | 114, 2 => some 115 | 116, 2 => some 117 | 108, 0 => some 120 | 108, 1 => some 123 | 108, 2 => some 126 | 108, 3 => some 129 | 108, 4 => some 132 | _, _ => none
def CAt (L : La) : Prop := (∀ id x, csh id = some x → L.2.1 id = some x) ∧ (∀ id j t, ctg id j = some t → L.2.2 id j = some t) ∧ RAt L 200
theorem CAt.g {L : La} (h : CAt L) : GAt L := ⟨h.1 101 _ rfl, h.1 102 _ rfl, h.2.1 101 0 102 rfl⟩
theorem pair_eq {A : Al} (hV : Va A) (v : Int32) : ofB A v = (decide (0 ≤ v) && (decide (v / nI 100 < nI (aT A)) && decide (rem v (nI 100) < nI (aN A)))) := by
  have hT := hV.1
  have hN := hV.2.1
  unfold ofB
  by_cases h : 0 ≤ v
  · obtain ⟨a, ha, rfl⟩ := nI_of (x := v) (sgn_ge h)
    rw [decide_eq_true h, Bool.true_and, Bool.true_and, pk_div ha (by decide) (by decide), rem, pk_rem ha (by decide) (by decide)]
    have key : ∀ x n : Nat, x < 2 ^ 31 → n ≤ 12 → isB (nI x) n = decide (nI x < nI n) := by
      intro x n hx hn
      by_cases e : x < n
      · rw [isB_mk e (by omega), decide_eq_true ((nI_ltI hx (by omega)).mpr e)]
      · rw [decide_eq_false (fun q => e ((nI_ltI hx (by omega)).mp q))]
        cases hb : isB (nI x) n
        · rfl
        · exact absurd (isB_lt hx (by omega) hb) e
    rw [key _ _ (by omega) (by omega), key _ _ (by omega) (by omega)]
  · rw [decide_eq_false h]; rfl
theorem job_h {h : Int32} {q : Nat} (hq1 : 1 ≤ q) (hq : q ≤ 12) : inB h (nI 0) (nI 1000 - nI q) = (inB h (nI 0) (nI 999) && inB (h + nI q - nI 1) (nI 0) (nI 999)) := by
  rw [pk_sub (by omega)]
  by_cases e : inB h (nI 0) (nI 999) = true
  · rw [e, Bool.true_and]
    obtain ⟨y, -, hy, rfl⟩ := inB_nat e (by decide) (by decide)
    rw [nI_add, pk_sub (by omega)]
    unfold inB
    rw [decide_eq_true (p := nI 0 ≤ nI y) (nI_pos' (by omega)), decide_eq_true (p := nI 0 ≤ nI (y + q - 1)) (nI_pos' (by omega)), Bool.true_and, Bool.true_and]
    refine decide_eq_decide.mpr ?_
    rw [nI_leI (by omega) (by omega), nI_leI (by omega) (by omega)]
    omega
  · have e : inB h (nI 0) (nI 999) = false := by simpa using e
    rw [e, Bool.false_and]
    cases hb : inB h (nI 0) (nI (1000 - q))
    · rfl
    · exfalso
      obtain ⟨y, -, hy, rfl⟩ := inB_nat hb (by decide) (by omega)
      unfold inB at e
      rw [decide_eq_true (p := nI 0 ≤ nI y) (nI_pos' (by omega)), decide_eq_true (p := nI y ≤ nI 999) ((nI_leI (by omega) (by decide)).mpr (by omega))] at e
      cases e
def adT (A : Al) (v : Nat) : Al := if aT A < 6 then addT A v else A
def adN (A : Al) (v : Nat) : Al := if aN A < 12 then addN A v else A
theorem rw_setF {σ : Me} {b : Nat} {A : Al} {w v : Nat} (h : RW σ b A) {f : Nat} (hf : f < 5) (hw : w < aW A) : RW (up σ (b + 9 + f) w (nI v)) b (setF A w f v) := by
  obtain ⟨h0, h1, h2, h3, h4, h5⟩ := h
  have key : ∀ g, g < 5 → (∀ x, x < aW A → σ (b + 9 + g) x = nI (aF A x g)) → ∀ x, x < aW (setF A w f v) → up σ (b + 9 + f) w (nI v) (b + 9 + g) x = nI (aF (setF A w f v) x g) := by
    intro g hg hh x hx
    show _ = nI (if x = w ∧ g = f then v else aF A x g)
    by_cases e : x = w ∧ g = f
    · rw [if_pos e, e.1, e.2, up_s]
    · rw [if_neg e, up_n (by omega)]; exact hh x hx
  exact ⟨(up_n (by omega)).trans h0, key 0 (by decide) h1, key 1 (by decide) h2, key 2 (by decide) h3, key 3 (by decide) h4, key 4 (by decide) h5⟩
theorem thing_fin {L : La} {σ τ : Me} {A : Al} {q : Nat} (h6 : aT A ≤ 6) (h : RC L τ 200 (adT A q)) (e : Cb 200 σ τ) : (if aT A < 6 then nI (aT A) else (-1000000003)) = (if aT A = 6 then ((-1000000003 : Int32), A) else (nI (aT A), addT A q)).1 ∧ RC L τ 200 (if aT A = 6 then ((-1000000003 : Int32), A) else (nI (aT A), addT A q)).2 ∧ Cb 200 σ τ := by
  unfold adT at h
  by_cases q : aT A = 6
  · rw [if_neg (by omega)] at h ⊢
    rw [if_pos q]
    exact ⟨rfl, h, e⟩
  · rw [if_pos (by omega)] at h ⊢
    rw [if_neg q]
    exact ⟨rfl, h, e⟩
theorem name_fin {L : La} {σ τ : Me} {A : Al} {q : Nat} (h6 : aN A ≤ 12) (h : RC L τ 200 (adN A q)) (e : Cb 200 σ τ) : (if aN A < 12 then nI (aN A) else (-1000000003)) = (if aN A = 12 then ((-1000000003 : Int32), A) else (nI (aN A), addN A q)).1 ∧ RC L τ 200 (if aN A = 12 then ((-1000000003 : Int32), A) else (nI (aN A), addN A q)).2 ∧ Cb 200 σ τ := by
  unfold adN at h
  by_cases q : aN A = 12
  · rw [if_neg (by omega)] at h ⊢
    rw [if_pos q]
    exact ⟨rfl, h, e⟩
  · rw [if_pos (by omega)] at h ⊢
    rw [if_neg q]
    exact ⟨rfl, h, e⟩
theorem word_fin {L : La} {σ τ : Me} {A : Al} {k t n h s : Nat} (h6 : aW A ≤ 24) (hr : RC L τ 200 (wrA A k t n h s)) (e : Cb 200 σ τ) : wrI A = (if aW A = 24 then ((-1000000003 : Int32), A) else (nI (aW A), addW A k t n h s)).1 ∧ RC L τ 200 (if aW A = 24 then ((-1000000003 : Int32), A) else (nI (aW A), addW A k t n h s)).2 ∧ Cb 200 σ τ := by
  unfold wrA at hr
  unfold wrI
  by_cases q : aW A = 24
  · rw [if_neg (by omega)] at hr ⊢
    rw [if_pos q]
    exact ⟨rfl, hr, e⟩
  · rw [if_pos (by omega)] at hr ⊢
    rw [if_neg q]
    exact ⟨rfl, hr, e⟩
