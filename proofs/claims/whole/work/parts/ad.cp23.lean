
/-! ===== check ===== -/
def TrC (L : La) : Prop := (L.2.2 100 9 = none ∧ ∀ i, i < 14 → L.2.1 (240 + i) = none) ∨ (L.2.2 100 9 = some 240 ∧ RAt L 240)
def ChP (L : La) (σ : Me) (L' : La) (σ' : Me) : Prop := CAt L' ∧ Wl L' ∧ LX (fun d => d = 100 ∨ pRm 240 d) L L' ∧ L'.1 100 = L.1 100 ∧ L'.2.2 100 8 = L.2.2 100 8 ∧ TrC L' ∧ σ' 100 7 = nI 0 ∧ ∀ d i, ¬ sc d → (d < 240 ∨ 260 ≤ d) → (d ≠ 100 ∨ i ≠ 7) → σ' d i = σ d i
theorem ChP.no {L : La} {σ : Me} (hA : CAt L) (hW : Wl L) (hT : TrC L) : ChP L σ L (up σ 100 7 (nI 0)) := ⟨hA, hW, LX.rf _ L, rfl, rfl, hT, up_s, fun d i _ _ h => up_n h⟩
theorem ck_bad {Q : Wt} {o : Option Al} {n h : Int32} (e : ¬ (inB n (nI 1) (nI 30) = true ∧ inB h (nI 0) (nI 999) = true)) : oCheck Q o n h = -1000000001 := by unfold oCheck; exact if_neg e
theorem ck_no {Q : Wt} {B : Al} {n h : Int32} (e : inB n (nI 1) (nI 30) = true ∧ inB h (nI 0) (nI 999) = true) (hT : aT B = 0) : oCheck Q (some B) n h = -1000000002 := by unfold oCheck; rw [if_pos e]; exact if_pos hT
theorem ck_none {Q : Wt} {n h : Int32} (e : inB n (nI 1) (nI 30) = true ∧ inB h (nI 0) (nI 999) = true) : oCheck Q none n h = -1000000002 := by unfold oCheck; rw [if_pos e]
theorem ck_y {Q : Wt} {B : Al} {q y m : Nat} (e : inB (nI q) (nI 1) (nI 30) = true ∧ inB (nI y) (nI 0) (nI 999) = true) (hq : q ≤ 30) (hy : y ≤ 999) (hT : ¬ aT B = 0) (hm : (rgS B y Q q).2.1 = m) : oCheck Q (some B) (nI q) (nI y) = if m = 2 * q ∧ Q.1 = m then nI 0 else nI (1 + m) := by
  unfold oCheck
  rw [if_pos e]
  show (if aT B = 0 then _ else _) = _
  rw [if_neg hT, nI_clamp (by omega), nI_clamp (by omega), hm]
theorem ck_s {Q : Wt} {B : Al} {q y m k : Nat} (e : inB (nI q) (nI 1) (nI 30) = true ∧ inB (nI y) (nI 0) (nI 999) = true) (hq : q ≤ 30) (hy : y ≤ 999) (hT : ¬ aT B = 0) (hk : k < q) {C : Al} (hs : rgS B y Q (k + 1) = (C, m, false)) (hm : m < 2 * q) : oCheck Q (some B) (nI q) (nI y) = nI (1 + m) := by
  have h2 := rgS_f (A := B) (h := y) (Q := Q) (k := k + 1) (by rw [hs]) q (by omega)
  rw [ck_y e hq hy hT (m := m) (by rw [h2, hs]), if_neg (by omega)]
theorem ck_d {a b : Nat} (h : b ≤ 5) : (10 * a + b) / 10 = a := by omega
theorem ck_r {a b : Nat} (h : b ≤ 5) : (10 * a + b) % 10 = b := by omega
