/-! ===== a piece of a sheet is laid into another ===== -/
def cpS (B : Bs) (f p t a m : Nat) : Bs := (B.1, B.2.1, fun j i => if j = t ∧ a ≤ i ∧ i < a + m then B.2.2 f (p + (i - a)) else B.2.2 j i)
abbrev cpI (B : Bs) (f t : Nat) (p a m : Int32) : Prop := ¬ m < 0 ∧ ¬ p < 0 ∧ ¬ a < 0 ∧ p ≤ nI (B.2.1 f) - m ∧ a ≤ nI (B.2.1 t) - m
theorem cp_nat {p m : Int32} {sz : Nat} (hs : sz ≤ 24) (hm : ¬ m < 0) (hp : ¬ p < 0) (h : p ≤ nI sz - m) : ∃ u v, p = nI u ∧ m = nI v ∧ u + v ≤ sz := by
  obtain ⟨v, hv, rfl⟩ := nI_of hm
  obtain ⟨u, hu, rfl⟩ := nI_of hp
  refine ⟨u, v, rfl, rfl, ?_⟩
  have h := Int32.le_iff_toInt_le.mp h
  rw [Int32.toInt_sub, nI_toInt hu, nI_toInt hv, nI_toInt (by omega), Int.bmod_eq_of_le (by omega) (by omega)] at h
  omega
theorem rb_copy {σ τ : Me} {B : Bs} (h : RB σ B) {f p t a m : Nat} (hm : a + m ≤ 24) (e12 : ∀ j, τ 12 j = σ 12 j) (e13 : ∀ j, τ 13 j = σ 13 j) (e14 : ∀ i, i < m → τ 14 (24 * t + a + i) = B.2.2 f (p + i)) (f14 : ∀ j, j < 24 * t + a ∨ 24 * t + a + m ≤ j → τ 14 j = σ 14 j) : RB τ (cpS B f p t a m) := by
  intro j hj
  obtain ⟨g1, g2, g3, g4⟩ := h j hj
  refine ⟨(e12 j).trans g1, (e13 j).trans g2, g3, fun i hi => ?_⟩
  show _ = (if j = t ∧ a ≤ i ∧ i < a + m then B.2.2 f (p + (i - a)) else B.2.2 j i)
  by_cases q : j = t ∧ a ≤ i ∧ i < a + m
  · rw [if_pos q, ← e14 (i - a) (by omega), q.1, show 24 * t + a + (i - a) = 24 * t + i by omega]
  · rw [if_neg q, f14 _ (by omega)]; exact g4 i hi
theorem cp_nat2 {a : Int32} {v sz : Nat} (hs : sz ≤ 24) (hv : v ≤ 24) (hp : ¬ a < 0) (h : a ≤ nI sz - nI v) : ∃ w, a = nI w ∧ w + v ≤ sz := by
  obtain ⟨w, hw, rfl⟩ := nI_of hp
  refine ⟨w, rfl, ?_⟩
  have h := Int32.le_iff_toInt_le.mp h
  rw [Int32.toInt_sub, nI_toInt hw, nI_toInt (by omega), nI_toInt (by omega), Int.bmod_eq_of_le (by omega) (by omega)] at h
  omega
def oCopy (B : Bs) (f p t a m : Int32) : Int32 × Bs := if inB f (nI 0) (nI 3) = true ∧ inB t (nI 0) (nI 3) = true then (match B.1 f.toNatClampNeg with
    | none => (-1000000011, B)
    | some b => match B.1 t.toNatClampNeg with
      | none => (-1000000011, B)
      | some c => if b = c then (if cpI B f.toNatClampNeg t.toNatClampNeg p a m then (m, cpS B f.toNatClampNeg p.toNatClampNeg t.toNatClampNeg a.toNatClampNeg m.toNatClampNeg) else (-1000000013, B)) else (-1000000012, B))
  else (-1000000001, B)
theorem oCopy_0 {B : Bs} {q r : Nat} {p a m : Int32} (hq : q ≤ 3) (hr : r ≤ 3) (h1 : inB (nI q) (nI 0) (nI 3) = true) (h2 : inB (nI r) (nI 0) (nI 3) = true) (h : B.1 q = none ∨ B.1 r = none) : oCopy B (nI q) p (nI r) a m = (-1000000011, B) := by
  rw [oCopy, if_pos ⟨h1, h2⟩, nI_clamp (by omega), nI_clamp (by omega)]
  rcases h with h | h
  · rw [h]
  · cases e : B.1 q with
    | none => rfl
    | some b => simp only [h]
theorem oCopy_k {B : Bs} {q r : Nat} {p a m : Int32} {b c : Bool} (hq : q ≤ 3) (hr : r ≤ 3) (h1 : inB (nI q) (nI 0) (nI 3) = true) (h2 : inB (nI r) (nI 0) (nI 3) = true) (hb : B.1 q = some b) (hc : B.1 r = some c) (h : ¬ b = c) : oCopy B (nI q) p (nI r) a m = (-1000000012, B) := by
  rw [oCopy, if_pos ⟨h1, h2⟩, nI_clamp (by omega), nI_clamp (by omega), hb]
  simp only [hc, if_neg h]
theorem oCopy_i {B : Bs} {q r : Nat} {p a m : Int32} {b c : Bool} (hq : q ≤ 3) (hr : r ≤ 3) (h1 : inB (nI q) (nI 0) (nI 3) = true) (h2 : inB (nI r) (nI 0) (nI 3) = true) (hb : B.1 q = some b) (hc : B.1 r = some c) (h : b = c) (hi : ¬ cpI B q r p a m) : oCopy B (nI q) p (nI r) a m = (-1000000013, B) := by
  rw [oCopy, if_pos ⟨h1, h2⟩, nI_clamp (by omega), nI_clamp (by omega), hb]
  simp only [hc, if_pos h, if_neg hi]
theorem oCopy_y {B : Bs} {q r u w v : Nat} {b c : Bool} (hq : q ≤ 3) (hr : r ≤ 3) (hu : u ≤ 24) (hw : w ≤ 24) (hv : v ≤ 24) (h1 : inB (nI q) (nI 0) (nI 3) = true) (h2 : inB (nI r) (nI 0) (nI 3) = true) (hb : B.1 q = some b) (hc : B.1 r = some c) (h : b = c) (hi : cpI B q r (nI u) (nI w) (nI v)) : oCopy B (nI q) (nI u) (nI r) (nI w) (nI v) = (nI v, cpS B q u r w v) := by
  rw [oCopy, if_pos ⟨h1, h2⟩, nI_clamp (by omega), nI_clamp (by omega), hb]
  simp only [hc, if_pos h, if_pos hi]
  rw [nI_clamp (by omega), nI_clamp (by omega), nI_clamp (by omega)]
