set_option maxHeartbeats 4000000 in
theorem c_parC {l : Launch} {D : Ds} {L : La} (J : Nat → Nat × Nat) (hJ : CW D J) (hA : CAt L) (P : Tp) (key : Nat) (hkey : key ≤ 2) : ∀ d : Nat, (∀ lv o nt : Nat, lv ≤ 5 → o ≤ 8 → nt ≤ 8 → dep lv o nt ≤ d → ∀ (σ : Me) (q : Lx) (C : List Nat) (n : Nat), PSc σ P key q C n → Lok P q → C.length + 1 ≤ q.1 → Ct l yX2_level cX2_level 6 none { frames := 2 * (d) + 11, cells := 0, slots := 0, locals := 50 * (d) + 325 } D L σ [.ref (L.1 105), .int (nI lv), .int (nI o), .int (nI nt)] (PV L (fun σ2 => PQc σ2 P key C n (prs P key d lv o nt q) ∧ Ex pYc σ σ2))) ∧ (∀ o nt : Nat, o ≤ 8 → nt ≤ 8 → dep 5 o nt ≤ d → ∀ (σ : Me) (q : Lx) (C : List Nat) (n : Nat), PSc σ P key q C n → Lok P q → C.length + 1 ≤ q.1 → Ct l yX2_piece cX2_piece 3 none { frames := 2 * (d) + 10, cells := 0, slots := 0, locals := 50 * (d) + 300 } D L σ [.ref (L.1 105), .int (nI o), .int (nI nt)] (PV L (fun σ2 => PQc σ2 P key C n (prs P key d 5 o nt q) ∧ Ex pYc σ σ2))) := by
  intro d
  induction d with
  | zero => exact ⟨fun lv o nt _ _ _ h => absurd h (by unfold dep; omega), fun o nt _ _ h => absurd h (by unfold dep; omega)⟩
  | succ d ih =>
    obtain ⟨i1, i2⟩ := ih
    have hp : ∀ o nt : Nat, o ≤ 8 → nt ≤ 8 → dep 5 o nt ≤ d + 1 → ∀ (σ : Me) (q : Lx) (C : List Nat) (n : Nat), PSc σ P key q C n → Lok P q → C.length + 1 ≤ q.1 → Ct l yX2_piece cX2_piece 3 none { frames := 2 * (d + 1) + 10, cells := 0, slots := 0, locals := 50 * (d + 1) + 300 } D L σ [.ref (L.1 105), .int (nI o), .int (nI nt)] (PV L (fun σ2 => PQc σ2 P key C n (prs P key (d + 1) 5 o nt q) ∧ Ex pYc σ σ2)) := fun o nt ho hn hd => c_X2_pieceA J hJ hA P key d o nt hkey ho hn (fun h => i2 o (nt + 1) ho (by omega) (by unfold dep at hd ⊢; omega)) (fun h => i1 0 (o + 1) nt (by decide) (by omega) hn (by unfold dep at hd ⊢; omega))
    refine ⟨fun lv o nt hl ho hn hd => ?_, hp⟩
    by_cases e : lv = 5
    · subst e
      exact c_X2_levelB P key (d + 1) o nt hA (hp o nt ho hn hd)
    · exact c_X2_levelA hA P key d lv o nt (by omega) ho hn (i1 (lv + 1) o nt (by omega) ho hn (by unfold dep at hd ⊢; omega))
