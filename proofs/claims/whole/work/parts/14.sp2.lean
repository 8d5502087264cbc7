/-! ===== means, spans, the shelf ===== -/
def NONEI : Int32 := (-1000000005)
def spI (m d bu b : Nat) : Int32 := if max bu m = 0 then (-1000000005) else nI ((d + if b = 1 then 100 * (max bu m - m) else 0) / max bu m)
def swI (A : Al) (t : Nat) : Int32 := if cw A 1 t (aW A) = 0 then nI 500 else nI (100 * (ss A 1 t (aW A) + 5) / (cw A 1 t (aW A) + 1)) - mnI A t
def mz (A : Al) (t : Nat) : Nat := if cw A 1 t (aW A) = 0 then 0 else mn A t
def gM (A : Al) (w : Nat) : Nat := wtN A w * aF A w 4
def gG (A : Al) (w : Nat) : Nat := wtN A w * sayN (aF A w 0) (aF A w 4)
def gS (A : Al) (w : Nat) : Nat := sayN (aF A w 0) (aF A w 4)
def sW (A : Al) (t : Nat) : Nat := sm A t (wtN A) (aW A)
def sM (A : Al) (t : Nat) : Nat := sm A t (gM A) (aW A)
def sG (A : Al) (t : Nat) : Nat := sm A t (gG A) (aW A)
def sS (A : Al) (t : Nat) : Nat := sm A t (gS A) (aW A)
def wz (A : Al) (t : Nat) : Nat := if sW A t = 0 then 0 else 100 * sM A t / sW A t
def fS (A : Al) (t i : Nat) : Int32 := if i = 12 then nI (mz A t) else if i = 22 then nI (wz A t) else if i = 2 then nI (cw A 1 t (aW A)) else 0
def shI (A : Al) (t : Nat) : Int32 := match lst A 2 (aX A).length with
  | none => nI (mz A t)
  | some x => evV (fS A t) (tx A x).2.2
/-- how many of the first n stand ahead of one -/
def ahd (V : Nat → Int32) (th : Nat) : Nat → Nat
  | 0 => 0
  | n + 1 => ahd V th n + if V th < V n ∨ (V n = V th ∧ n < th) then 1 else 0
theorem ahd_le (V : Nat → Int32) (th : Nat) : ∀ n, ahd V th n ≤ n
  | 0 => Nat.le_refl 0
  | n + 1 => by have := ahd_le V th n; unfold ahd; split <;> omega
def shf (V : Nat → Int32) (n : Nat) (p : Int32) : Nat → Int32
  | 0 => (-1000000005)
  | k + 1 => if nI (ahd V k n) = p then nI k else shf V n p k
theorem gM_le {A : Al} (hV : Va A) {w : Nat} (hw : w < aW A) : gM A w ≤ 50 := by
  have h1 := wtN_le A w
  have h2 := (hV.2.2.2.2.2.2.1 w hw).2.2.2.2.2
  unfold gM
  exact Nat.le_trans (Nat.mul_le_mul h1 h2) (by omega)
theorem gS_le {A : Al} (hV : Va A) {w : Nat} (hw : w < aW A) : gS A w ≤ 100 := by
  have h2 := (hV.2.2.2.2.2.2.1 w hw).2.2.2.2
  exact sayN_le h2.1 h2.2
theorem gG_le {A : Al} (hV : Va A) {w : Nat} (hw : w < aW A) : gG A w ≤ 1000 := by
  have h1 := wtN_le A w
  have h2 := gS_le hV hw
  unfold gG
  exact Nat.le_trans (Nat.mul_le_mul h1 h2) (by omega)
theorem sW_le {A : Al} (hV : Va A) (t n : Nat) (hn : n ≤ aW A) : sm A t (wtN A) n ≤ 240 := by
  have := sm_le (A := A) (t := t) (b := 10) (n := n) (g := wtN A) (fun w _ => wtN_le A w)
  have := hV.2.2.1
  omega
theorem sM_le {A : Al} (hV : Va A) (t n : Nat) (hn : n ≤ aW A) : sm A t (gM A) n ≤ 1200 := by
  have := sm_le (A := A) (t := t) (b := 50) (n := n) (g := gM A) (fun w hw => gM_le hV (by omega))
  have := hV.2.2.1
  omega
theorem sG_le {A : Al} (hV : Va A) (t n : Nat) (hn : n ≤ aW A) : sm A t (gG A) n ≤ 24000 := by
  have := sm_le (A := A) (t := t) (b := 1000) (n := n) (g := gG A) (fun w hw => gG_le hV (by omega))
  have := hV.2.2.1
  omega
theorem sS_le {A : Al} (hV : Va A) (t n : Nat) (hn : n ≤ aW A) : sm A t (gS A) n ≤ 2400 := by
  have := sm_le (A := A) (t := t) (b := 100) (n := n) (g := gS A) (fun w hw => gS_le hV (by omega))
  have := hV.2.2.1
  omega
/-- what sums leaves in the object's fields -/
def Sums (A : Al) (t : Nat) (n : Nat) (σ : Me) : Prop := σ 0 8 = nI (cw A 1 t n) ∧ σ 0 9 = nI (ss A 1 t n) ∧ σ 0 10 = nI (sm A t (wtN A) n) ∧ σ 0 11 = nI (sm A t (gM A) n) ∧ σ 0 12 = nI (sm A t (gG A) n) ∧ σ 0 13 = nI (sm A t (gS A) n)
theorem Sums.not {A : Al} {t n : Nat} {σ : Me} (h : Sums A t n σ) (e : ¬ aF A n 1 = t) : Sums A t (n + 1) σ := by
  unfold Sums at h ⊢
  unfold cw ss sm
  rw [if_neg e, if_neg e, if_neg e, if_neg e, if_neg e, if_neg e]
  exact h
theorem mnI_0 {A : Al} {t : Nat} (h : cw A 1 t (aW A) = 0) : mnI A t = (-1000000005) := by unfold mnI; rw [if_pos h]
theorem mnI_1 {A : Al} {t : Nat} (h : ¬ cw A 1 t (aW A) = 0) : mnI A t = nI (mn A t) := by unfold mnI; rw [if_neg h]
theorem Sums.rd {A : Al} {t n : Nat} {σ τ : Me} (h : Sums A t n σ) (e : ∀ j, τ 0 j = σ 0 j) : Sums A t n τ := by
  unfold Sums at h ⊢
  rw [e, e, e, e, e, e]
  exact h
