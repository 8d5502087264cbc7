/-! ===== what a reading makes is a text ===== -/
def Gd (key : Nat) (c : List Nat) (n : Nat) : Prop := (∀ d r, dpt d (c ++ r) = dpt (d + 1) r) ∧ n = lvs c ∧ ∀ x ∈ c, x < 10000 ∨ (10000 ≤ x ∧ x < 20000 ∧ ltr key (x - 10000) = true) ∨ (20000 ≤ x ∧ x ≤ 20009)
def Gr (key : Nat) (r : Rs) : Prop := match r with
  | .inl _ => True
  | .inr p => Gd key p.2.1 p.2.2
theorem gd_1 {key x : Nat} (h : x < 10000 ∨ (10000 ≤ x ∧ x < 20000 ∧ ltr key (x - 10000) = true)) : Gd key [x] 1 := by
  have hx : x < 20000 := by omega
  refine ⟨fun d r => ?_, ?_, fun y hy => ?_⟩
  · show dpt d (x :: r) = _
    rw [dpt, if_pos hx]
  · simp [lvs, hx]
  · rw [List.mem_singleton.mp hy]
    rcases h with h | h
    · exact Or.inl h
    · exact Or.inr (Or.inl h)
theorem gd_not {key n : Nat} {c : List Nat} (h : Gd key c n) : Gd key (c ++ [20000]) n := by
  obtain ⟨h1, h2, h3⟩ := h
  refine ⟨fun d r => ?_, ?_, fun y hy => ?_⟩
  · rw [List.append_assoc, h1]
    show dpt (d + 1) (20000 :: r) = _
    rw [dpt, if_neg (by decide), if_pos rfl, if_neg (by omega)]
  · rw [h2]; simp [lvs]
  · rcases List.mem_append.mp hy with h | h
    · exact h3 y h
    · rw [List.mem_singleton.mp h]; exact Or.inr (Or.inr (by omega))
theorem gd_bin {key n n2 o : Nat} {c c2 : List Nat} (h : Gd key c n) (g : Gd key c2 n2) (ho : 20001 ≤ o ∧ o ≤ 20009) : Gd key (c ++ c2 ++ [o]) (n + n2) := by
  obtain ⟨h1, h2, h3⟩ := h
  obtain ⟨g1, g2, g3⟩ := g
  refine ⟨fun d r => ?_, ?_, fun y hy => ?_⟩
  · rw [List.append_assoc, List.append_assoc, h1, g1]
    show dpt (d + 1 + 1) (o :: r) = _
    rw [dpt, if_neg (by omega), if_neg (by omega), if_neg (by omega)]
    rfl
  · have : ¬ o < 20000 := by omega
    rw [h2, g2]; simp [lvs, this]
  · rcases List.mem_append.mp hy with h | h
    · rcases List.mem_append.mp h with h | h
      · exact h3 y h
      · exact g3 y h
    · rw [List.mem_singleton.mp h]; exact Or.inr (Or.inr (by omega))
theorem opc_in (v : Nat) : 20001 ≤ opc v ∧ opc v ≤ 20009 := by
  unfold opc
  (repeat' split) <;> omega
theorem lpr_gd {P : Tp} {key lv : Nat} {sub : Lx → Rs} (hs : ∀ q, Lok P q → Rok P q (sub q)) (hg : ∀ q, Lok P q → Gr key (sub q)) : ∀ m q c n, Lok P q → Gd key c n → Gr key (lpr sub P lv m q c n)
  | 0, q, c, n, h, g => g
  | m + 1, q, c, n, h, g => by
    unfold lpr
    split
    · have h1 := hs _ h.nx.1
      have h2 := hg _ h.nx.1
      cases e : sub (nxq P q) with
      | inl f => exact trivial
      | inr p =>
        rw [e] at h1 h2
        obtain ⟨p1, p2, p3⟩ := p
        have h3 := gd_bin g h2 (opc_in (P.2 q.1))
        show Gr key (if lv = 2 then .inr (p1, c ++ p2 ++ [opc (P.2 q.1)], n + p3) else lpr sub P lv m p1 (c ++ p2 ++ [opc (P.2 q.1)]) (n + p3))
        split
        · exact h3
        · exact lpr_gd hs hg m p1 _ _ h1.1 h3
    · exact g
theorem prs_gd (P : Tp) (hb : ∀ k, k < P.1 → P.2 k < 256) (key : Nat) : ∀ d lv o nt q, Lok P q → Gr key (prs P key d lv o nt q)
  | 0, lv, o, nt, q, h => trivial
  | d + 1, lv, o, nt, q, h => by
    unfold prs
    split
    · have h1 := prs_ok P key d (lv + 1) o nt q h
      have h2 := prs_gd P hb key d (lv + 1) o nt q h
      cases e : prs P key d (lv + 1) o nt q with
      | inl f => exact trivial
      | inr p =>
        rw [e] at h1 h2
        exact lpr_gd (fun q hq => prs_ok P key d (lv + 1) o nt q hq) (fun q hq => prs_gd P hb key d (lv + 1) o nt q hq) 97 p.1 p.2.1 p.2.2 h1.1 h2
    · unfold pce
      split
      · split
        · exact trivial
        · have h2 := prs_gd P hb key d 5 o (nt + 1) _ h.nx.1
          cases e : prs P key d 5 o (nt + 1) (nxq P q) with
          | inl f => exact trivial
          | inr p => rw [e] at h2; exact gd_not h2
      · split
        · split
          · exact trivial
          · have h2 := prs_gd P hb key d 0 (o + 1) nt _ h.nx.1
            cases e : prs P key d 0 (o + 1) nt (nxq P q) with
            | inl f => exact trivial
            | inr p =>
              rw [e] at h2
              show Gr key (if sgB P p.1 41 = true then .inr (nxq P p.1, p.2.1, p.2.2) else .inl p.1.1)
              split
              · exact h2
              · exact trivial
        · split
          · exact gd_1 (Or.inl (lex_le hb h).2.1)
          · split
            · rename_i hn
              obtain ⟨e1, e2, e3, e4⟩ := nm_vl h hn
              unfold nmB at hn
              simp at hn
              exact gd_1 (Or.inr ⟨by omega, by omega, by rw [show 10000 + (P.2 q.1 - 97) - 10000 = P.2 q.1 - 97 by omega]; exact hn.2⟩)
            · exact trivial
theorem kyB_4 {P : Tp} {q : Lx} {i : Nat} (h : kyB P q (txt3 i) = true) (lok : Lok P q) : 4 ≤ (nxq P q).1 := by
  unfold kyB at h
  simp at h
  have h1 := h.1.2
  have h4 : 4 ≤ (txt3 i).length := by unfold txt3; split <;> decide
  have h5 : szN q ≤ q.2.2.1 := by unfold szN; split <;> omega
  have := lok.nx.2.1
  omega
theorem rdT_ok {P : Tp} (hb : ∀ k, k < P.1 → P.2 k < 256) (hP : P.1 ≤ 96) {t : Nat × List Nat × Nat} (h : rdT P = .inr t) : okT (t.1, t.2.2, t.2.1) := by
  unfold rdT at h
  have lok := lok_first P
  have hk : ∀ key, kyO P (nx P 0 false) = some key → key ≤ 2 ∧ 4 ≤ (nxq P (nx P 0 false)).1 := by
    intro key hk
    unfold kyO at hk
    split at hk
    · rename_i c; cases hk; exact ⟨by decide, kyB_4 c lok⟩
    · split at hk
      · rename_i c; cases hk; exact ⟨by decide, kyB_4 c lok⟩
      · split at hk
        · rename_i c; cases hk; exact ⟨by decide, kyB_4 c lok⟩
        · cases hk
  cases e : kyO P (nx P 0 false) with
  | none => rw [e] at h; cases h
  | some key =>
    rw [e] at h
    have h : rdE key (prs P key 70 0 0 0 (nxq P (nx P 0 false))) = .inr t := h
    obtain ⟨k1, k2⟩ := hk key e
    have h1 := prs_ok P key 70 0 0 0 _ lok.nx.1
    have h2 := prs_gd P hb key 70 0 0 0 _ lok.nx.1
    cases e2 : prs P key 70 0 0 0 (nxq P (nx P 0 false)) with
    | inl f => rw [e2] at h; cases h
    | inr p =>
      rw [e2] at h h1 h2
      obtain ⟨p1, p2, p3⟩ := p
      have h : (if mkN p1 = 0 then (Sum.inr (key, p2, p3) : Rd) else .inl p1.1) = .inr t := h
      split at h
      · cases h
        obtain ⟨g1, g2, g3⟩ := h2
        obtain ⟨f1, f2, f3⟩ := h1
        have a1 := f1.2.1
        have a2 := f1.2.2.1
        refine ⟨k1, ?_, ?_, g2, g3⟩
        · show p2.length ≤ 92
          simp only at f2 a1 a2
          omega
        · have := g1 0 []
          rw [List.append_nil] at this
          exact this
      · cases h
