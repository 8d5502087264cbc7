/-! ===== what the reading calls answer ===== -/
def oThingTold (A : Al) (th wh : Int32) : Int32 :=
  if isB th (aT A) = true then (if wh = nI 0 then nI (aO A th.toNatClampNeg) else if wh = nI 1 then nI (aB A th.toNatClampNeg) else if wh = nI 2 then nI (cw A 1 th.toNatClampNeg (aW A)) else if wh = nI 3 then nI (ahd (shI A) th.toNatClampNeg (aT A)) else (-1000000001)) else (-1000000001)
/-- the least hour of the first n words of a name -/
def fh (A : Al) (x : Nat) : Nat → Option Nat
  | 0 => none
  | n + 1 => if aF A n 2 = x ∧ (fh A x n = none ∨ ∃ h, fh A x n = some h ∧ aF A n 3 < h) then some (aF A n 3) else fh A x n
def nI? (o : Option Nat) : Int32 := match o with
  | none => (-1000000005)
  | some x => nI x
def oNameTold (A : Al) (nm wh : Int32) : Int32 :=
  if isB nm (aN A) = true then (if wh = nI 0 then nI (aE A nm.toNatClampNeg) else if wh = nI 1 then nI (cw A 2 nm.toNatClampNeg (aW A)) else if wh = nI 2 then nI? (fh A nm.toNatClampNeg (aW A)) else (-1000000001)) else (-1000000001)
def oTold (A : Al) (wo wh : Int32) : Int32 :=
  if isB wo (aW A) = true then (if wh = nI 0 then nI (aF A wo.toNatClampNeg 0) else if wh = nI 1 then nI (aF A wo.toNatClampNeg 1) else if wh = nI 2 then nI (aF A wo.toNatClampNeg 2) else if wh = nI 3 then nI (aF A wo.toNatClampNeg 3) else if wh = nI 4 then nI (aF A wo.toNatClampNeg 4) else if wh = nI 5 then nI (wtN A wo.toNatClampNeg) else if wh = nI 6 then nI (sayN (aF A wo.toNatClampNeg 0) (aF A wo.toNatClampNeg 4)) else if wh = nI 7 then nI (sgN A wo.toNatClampNeg) else if wh = nI 8 then bI (trB (aF A wo.toNatClampNeg 0)) else (-1000000001)) else (-1000000001)
def oAs (A : Al) (wo kd : Int32) : Int32 :=
  if isB wo (aW A) = true ∧ inB kd (nI 0) (nI 5) = true then (if undB (aF A wo.toNatClampNeg 0) kd.toNatClampNeg = true then nI (aF A wo.toNatClampNeg 4) else (-1000000012)) else (-1000000001)
def wdI (A : Al) (t : Nat) : Int32 := if sW A t = 0 then (-1000000005) else nI (100 * sM A t / sW A t)
def gdI (A : Al) (t : Nat) : Int32 := if sW A t = 0 then (-1000000005) else nI (sG A t / sW A t)
def oMean (A : Al) (th wh : Int32) : Int32 :=
  if isB th (aT A) = true then (if wh = nI 0 then mnI A th.toNatClampNeg else if wh = nI 1 then wdI A th.toNatClampNeg else if wh = nI 2 then gdI A th.toNatClampNeg else if wh = nI 3 then spI (cw A 1 th.toNatClampNeg (aW A)) (sS A th.toNatClampNeg) (aB A th.toNatClampNeg) 0 else if wh = nI 4 then spI (cw A 1 th.toNatClampNeg (aW A)) (sS A th.toNatClampNeg) (aB A th.toNatClampNeg) 1 else if wh = nI 5 then swI A th.toNatClampNeg else (-1000000001)) else (-1000000001)
def oShelf (A : Al) (p : Int32) : Int32 := if p < 0 then (-1000000001) else shf (shI A) (aT A) p (aT A)
theorem inB_nat {v : Int32} {lo hi : Nat} (h : inB v (nI lo) (nI hi) = true) (hl : lo < 2 ^ 31) (hh : hi < 2 ^ 31) : ∃ k, lo ≤ k ∧ k ≤ hi ∧ v = nI k := by
  unfold inB at h
  simp at h
  obtain ⟨h1, h2⟩ := h
  have h3 : 0 ≤ v.toInt := by
    have := Int32.le_iff_toInt_le.mp h1
    rw [nI_toInt hl] at this
    omega
  obtain ⟨j, hj, rfl⟩ := nI_of (x := v) (fun q => by have := Int32.lt_iff_toInt_lt.mp q; simp at this; omega)
  exact ⟨j, (nI_leI hl hj).mp h1, (nI_leI hj hh).mp h2, rfl⟩
theorem inB_mk {k lo hi : Nat} (h1 : lo ≤ k) (h2 : k ≤ hi) (hh : hi < 2 ^ 31) : inB (nI k) (nI lo) (nI hi) = true := by
  unfold inB
  simp
  exact ⟨(nI_leI (by omega) (by omega)).mpr h1, (nI_leI (by omega) hh).mpr h2⟩
theorem inB_no {k lo hi : Nat} (h : k < lo ∨ hi < k) (hk : k < 2 ^ 31) (hl : lo < 2 ^ 31) (hh : hi < 2 ^ 31) : inB (nI k) (nI lo) (nI hi) = false := by
  cases e : inB (nI k) (nI lo) (nI hi) with
  | false => rfl
  | true =>
    obtain ⟨j, h1, h2, h3⟩ := inB_nat e hl hh
    have hj : j < 2 ^ 31 := by omega
    rw [nI_eq hk hj] at h3
    omega
theorem isB_nat {v : Int32} {n : Nat} (h : isB v n = true) (hn : n < 2 ^ 30) : ∃ k, k < n ∧ v = nI k := by
  by_cases e : n = 0
  · subst e
    unfold isB inB at h
    simp at h
    have h1 := Int32.le_iff_toInt_le.mp h.1
    have h2 := Int32.le_iff_toInt_le.mp h.2
    have e1 : (nI 0).toInt = 0 := by decide
    have e2 : (nI 0 - nI 1).toInt = -1 := by decide
    omega
  · unfold isB at h
    rw [pk_sub (by omega)] at h
    obtain ⟨k, h1, h2, h3⟩ := inB_nat h (by decide) (by omega)
    exact ⟨k, by omega, h3⟩
theorem isB_mk {k n : Nat} (h : k < n) (hn : n < 2 ^ 30) : isB (nI k) n = true := by
  unfold isB
  rw [pk_sub (by omega)]
  exact inB_mk (by omega) (by omega) (by omega)
theorem nI?_none {o : Option Nat} (h : ∀ x, o = some x → x < 2 ^ 31) : nI? o = (-1000000005) ↔ o = none := by
  cases o with
  | none => exact ⟨fun _ => rfl, fun _ => rfl⟩
  | some x => exact ⟨fun e => absurd e (nneg_ne (h x rfl) (by decide)), fun e => by cases e⟩
theorem fh_lt {A : Al} (hV : Va A) (x : Nat) : ∀ n, n ≤ aW A → ∀ y, fh A x n = some y → y ≤ 999
  | 0, _, y, h => by cases h
  | n + 1, hn, y, h => by
    unfold fh at h
    split at h
    · cases h; exact (hV.2.2.2.2.2.2.1 n (by omega)).2.2.2.1
    · exact fh_lt hV x n (by omega) y h
theorem shown_s {σ : Me} {k : Nat} {V : Nat → Int32} (h : ∀ t, t < k → σ 6 t = V t) : ∀ t, t < k + 1 → up σ 6 k (V k) 6 t = V t := fun t ht => by
  by_cases e : t = k
  · subst e; exact up_s
  · rw [up_n (Or.inr e)]; exact h t (by omega)
theorem sgn_ge {x : Int32} (h : 0 ≤ x) : ¬ x < 0 := Int32.not_lt.mpr h
theorem sgn_lt {x : Int32} (h : ¬ 0 ≤ x) : x < 0 := Int32.not_le.mp h
theorem fh_y {A : Al} {x n : Nat} (e : aF A n 2 = x) (h : fh A x n = none ∨ ∃ h, fh A x n = some h ∧ aF A n 3 < h) : fh A x (n + 1) = some (aF A n 3) := by
  rw [fh, if_pos ⟨e, h⟩]
theorem fh_n1 {A : Al} {x n : Nat} (e : ¬ aF A n 2 = x) : fh A x (n + 1) = fh A x n := by
  rw [fh, if_neg (fun q => e q.1)]
theorem fh_n2 {A : Al} {x n y : Nat} (h : fh A x n = some y) (e : y ≤ aF A n 3) : fh A x (n + 1) = fh A x n := by
  rw [fh, if_neg]
  rintro ⟨-, q | ⟨z, q, q2⟩⟩
  · rw [q] at h; cases h
  · rw [h] at q; cases q; omega
