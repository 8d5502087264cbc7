/-! ===== texts as they are read ===== -/
abbrev Rs : Type := Nat ⊕ (Lx × List Nat × Nat)
def opl (v : Nat) : Nat := if v = 124 then 0 else if v = 38 then 1 else if v = 60 ∨ v = 61 ∨ v = 62 then 2 else if v = 43 ∨ v = 45 then 3 else if v = 42 ∨ v = 47 then 4 else 9
def opc (v : Nat) : Nat := if v = 124 then 20001 else if v = 38 then 20002 else if v = 60 then 20003 else if v = 61 then 20004 else if v = 62 then 20005 else if v = 43 then 20006 else if v = 45 then 20007 else if v = 42 then 20008 else 20009
/-- is it the sign v -/
def sgB (P : Tp) (q : Lx) (v : Nat) : Bool := decide (q.2.1 = 3) && decide (P.2 q.1 = v)
def lvq (P : Tp) (q : Lx) : Nat := if q.2.1 = 3 then opl (P.2 q.1) else 9
def cont (r : Rs) (f : Lx → List Nat → Nat → Rs) : Rs := match r with
  | .inl x => .inl x
  | .inr p => f p.1 p.2.1 p.2.2
def lpr (sub : Lx → Rs) (P : Tp) (lv : Nat) : Nat → Lx → List Nat → Nat → Rs
  | 0, q, c, n => .inr (q, c, n)
  | m + 1, q, c, n => if lvq P q = lv then cont (sub (nxq P q)) (fun q2 c2 n2 => if lv = 2 then .inr (q2, c ++ c2 ++ [opc (P.2 q.1)], n + n2) else lpr sub P lv m q2 (c ++ c2 ++ [opc (P.2 q.1)]) (n + n2)) else .inr (q, c, n)
def nmB (P : Tp) (key : Nat) (q : Lx) : Bool := decide (mkN q = 1) && decide (szN q = 1) && ltr key (P.2 q.1 - 97)
def pce (P : Tp) (key : Nat) (subP subE : Lx → Rs) (o nt : Nat) (q : Lx) : Rs :=
  if sgB P q 33 = true then (if nt = 8 then .inl q.1 else cont (subP (nxq P q)) (fun q2 c n => .inr (q2, c ++ [20000], n)))
  else if sgB P q 40 = true then (if o = 8 then .inl q.1 else cont (subE (nxq P q)) (fun q2 c n => if sgB P q2 41 = true then .inr (nxq P q2, c, n) else .inl q2.1))
  else if mkN q = 2 then .inr (nxq P q, [vlN P q], 1)
  else if nmB P key q = true then .inr (nxq P q, [10000 + (P.2 q.1 - 97)], 1)
  else .inl q.1
def prs (P : Tp) (key : Nat) : Nat → Nat → Nat → Nat → Lx → Rs
  | 0, _, _, _, q => .inl q.1
  | d + 1, lv, o, nt, q => if lv < 5 then cont (prs P key d (lv + 1) o nt q) (fun q2 c n => lpr (prs P key d (lv + 1) o nt) P lv 97 q2 c n) else pce P key (prs P key d 5 o (nt + 1)) (prs P key d 0 (o + 1) nt) o nt q
/-- how deep it may still go -/
def dep (lv o nt : Nat) : Nat := 7 * (8 - o) + (8 - nt) + (5 - lv) + 1
def Lok (P : Tp) (q : Lx) : Prop := okL P q ∧ q.1 ≤ q.2.2.1 ∧ q.2.2.1 ≤ P.1 ∧ (q.2.1 ≠ 0 → q.1 < q.2.2.1)
theorem Lok.nx {P : Tp} {q : Lx} (h : Lok P q) : Lok P (nxq P q) ∧ q.2.2.1 ≤ (nxq P q).1 ∧ q.1 ≤ (nxq P q).1 := by
  obtain ⟨h1, h2, h3, h4, h5⟩ := nxq_ok (q := q) h.2.2.1
  exact ⟨⟨h1, h3, h4, h5⟩, h2, Nat.le_trans h.2.1 h2⟩
theorem sg_lt {P : Tp} {q : Lx} {v : Nat} (h : Lok P q) (hs : sgB P q v = true) : q.1 < (nxq P q).1 := by
  unfold sgB at hs
  simp at hs
  have := h.2.2.2 (by omega)
  have := h.nx.2.1
  omega
/-- what a reading leaves stands behind, and no more signs of code come than places are read -/
def Rok (P : Tp) (q : Lx) (r : Rs) : Prop := match r with
  | .inl f => q.1 ≤ f ∧ f ≤ P.1
  | .inr p => Lok P p.1 ∧ q.1 + p.2.1.length ≤ p.1.1 ∧ q.1 < p.1.1
theorem lpr_ok {sub : Lx → Rs} {P : Tp} {lv : Nat} (hlv : lv < 5) {q0 : Lx} (hs : ∀ q, Lok P q → Rok P q (sub q)) : ∀ m q c n, Lok P q → q0.1 + c.length ≤ q.1 → q0.1 < q.1 → Rok P q0 (lpr sub P lv m q c n)
  | 0, q, c, n, h, h1, h2 => ⟨h, h1, h2⟩
  | m + 1, q, c, n, h, h1, h2 => by
    unfold lpr
    split
    · rename_i hl
      have hk : q.2.1 = 3 := by
        unfold lvq at hl
        split at hl
        · assumption
        · omega
      have hlt := h.2.2.2 (by omega)
      obtain ⟨g1, g2, g3⟩ := h.nx
      have hsub := hs _ g1
      cases e : sub (nxq P q) with
      | inl f =>
        rw [e] at hsub
        exact ⟨by have := hsub.1; omega, hsub.2⟩
      | inr p =>
        rw [e] at hsub
        obtain ⟨p1, p2, p3⟩ := p
        obtain ⟨k1, k2, k3⟩ := hsub
        have hlen : (c ++ p2 ++ [opc (P.2 q.1)]).length = c.length + p2.length + 1 := by simp; omega
        show Rok P q0 (if lv = 2 then .inr (p1, c ++ p2 ++ [opc (P.2 q.1)], n + p3) else lpr sub P lv m p1 (c ++ p2 ++ [opc (P.2 q.1)]) (n + p3))
        split
        · exact ⟨k1, by simp only [hlen]; simp only at k2; omega, by simp only at k3; simp only; omega⟩
        · exact lpr_ok hlv hs m p1 _ _ k1 (by rw [hlen]; simp only at k2; omega) (by simp only at k3; omega)
    · exact ⟨h, h1, h2⟩
theorem prs_ok (P : Tp) (key : Nat) : ∀ d lv o nt q, Lok P q → Rok P q (prs P key d lv o nt q)
  | 0, lv, o, nt, q, h => ⟨Nat.le_refl _, Nat.le_trans h.2.1 h.2.2.1⟩
  | d + 1, lv, o, nt, q, h => by
    obtain ⟨g1, g2, g3⟩ := h.nx
    unfold prs
    split
    · rename_i hl
      have h1 := prs_ok P key d (lv + 1) o nt q h
      cases e : prs P key d (lv + 1) o nt q with
      | inl f => rw [e] at h1; exact h1
      | inr p =>
        rw [e] at h1
        obtain ⟨p1, p2, p3⟩ := p
        exact lpr_ok hl (fun q hq => prs_ok P key d (lv + 1) o nt q hq) 97 p1 p2 p3 h1.1 h1.2.1 h1.2.2
    · unfold pce
      split
      · rename_i hs
        have hlt := sg_lt h hs
        split
        · exact ⟨Nat.le_refl _, Nat.le_trans h.2.1 h.2.2.1⟩
        · have h1 := prs_ok P key d 5 o (nt + 1) _ g1
          cases e : prs P key d 5 o (nt + 1) (nxq P q) with
          | inl f => rw [e] at h1; exact ⟨by have := h1.1; omega, h1.2⟩
          | inr p =>
            rw [e] at h1
            obtain ⟨p1, p2, p3⟩ := p
            obtain ⟨k1, k2, k3⟩ := h1
            exact ⟨k1, by show q.1 + (p2 ++ [20000]).length ≤ p1.1; simp; simp only at k2; omega, by show q.1 < p1.1; simp only at k3; omega⟩
      · split
        · rename_i hs
          have hlt := sg_lt h hs
          split
          · exact ⟨Nat.le_refl _, Nat.le_trans h.2.1 h.2.2.1⟩
          · have h1 := prs_ok P key d 0 (o + 1) nt _ g1
            cases e : prs P key d 0 (o + 1) nt (nxq P q) with
            | inl f => rw [e] at h1; exact ⟨by have := h1.1; omega, h1.2⟩
            | inr p =>
              rw [e] at h1
              obtain ⟨p1, p2, p3⟩ := p
              obtain ⟨k1, k2, k3⟩ := h1
              simp only at k2 k3
              have k1 : Lok P p1 := k1
              show Rok P q (if sgB P p1 41 = true then .inr (nxq P p1, p2, p3) else .inl p1.1)
              split
              · rename_i hs2
                have hl2 := sg_lt k1 hs2
                exact ⟨k1.nx.1, by show q.1 + p2.length ≤ (nxq P p1).1; omega, by show q.1 < (nxq P p1).1; omega⟩
              · exact ⟨by omega, by have := k1.2.1; have := k1.2.2.1; omega⟩
        · split
          · rename_i hm
            have hk : q.2.1 ≠ 0 := by
              intro hk
              unfold mkN wwB at hm
              rw [hk] at hm
              simp at hm
            have := h.2.2.2 hk
            exact ⟨g1, by show q.1 + 1 ≤ (nxq P q).1; omega, by show q.1 < (nxq P q).1; omega⟩
          · split
            · rename_i hm
              have hk : q.2.1 ≠ 0 := by
                intro hk
                unfold nmB mkN wwB at hm
                rw [hk] at hm
                simp at hm
              have := h.2.2.2 hk
              exact ⟨g1, by show q.1 + 1 ≤ (nxq P q).1; omega, by show q.1 < (nxq P q).1; omega⟩
            · exact ⟨Nat.le_refl _, Nat.le_trans h.2.1 h.2.2.1⟩
/-! ===== the reference's fields while it reads ===== -/
def PS (σ : Me) (P : Tp) (key o nt : Nat) (q : Lx) (C : List Nat) (n : Nat) : Prop := RT σ P ∧ RLx σ P q ∧ σ 0 26 = nI 0 ∧ σ 0 28 = nI o ∧ σ 0 29 = nI nt ∧ σ 0 30 = nI key ∧ σ 0 31 = nI C.length ∧ σ 0 32 = nI n ∧ ∀ k, k < C.length → σ 10 k = nI (C.getD k 0)
def PQ (σ : Me) (P : Tp) (key o nt : Nat) (C : List Nat) (n : Nat) (r : Rs) : Prop := match r with
  | .inl f => σ 0 26 = nI 1 ∧ σ 0 27 = nI f
  | .inr p => PS σ P key o nt p.1 (C ++ p.2.1) (n + p.2.2)
def pY (c i : Nat) : Bool := (decide (c = 0) && decide (20 ≤ i) && decide (i ≤ 32)) || decide (c = 10)
theorem pX_pY {σ τ : Me} (h : Ex pX σ τ) : Ex pY σ τ := h.mono (fun c i e => by
  unfold pY at e
  unfold pX
  simp at e ⊢
  omega)
