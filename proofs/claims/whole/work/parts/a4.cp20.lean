
/-! ===== what constructors leave ===== -/
def AO (D : Ds) : Prop := ∀ s, D.2.2.2.2 s → va_AO "FiveStars$Sheet" s ∧ va_AO "FiveStars$Slot" s ∧ va_AO "FiveStars$Text" s
def pWd (b d : Nat) : Prop := d = b + 4 ∨ (b + 9 ≤ d ∧ d ≤ b + 13)
def pOb (e d : Nat) : Prop := d = e ∨ d = e + 1
def pSl (e d : Nat) : Prop := d = e
def pRm (b d : Nat) : Prop := b ≤ d ∧ d ≤ b + 13
/-- an object and its one array -/
def NwO (L : La) (σ : Me) (e j k n : Nat) (p : Me → Prop) (L' : La) (σ' : Me) : Prop := LX (pOb e) L L' ∧ L'.1 e = L.1 e ∧ L'.2.1 e = L.2.1 e ∧ L'.2.1 (e + 1) = some (k, n) ∧ L'.2.2 e j = some (e + 1) ∧ Wl L' ∧ (∀ i, σ' (e + 1) i = 0) ∧ p σ' ∧ ∀ d i, ¬ pOb e d → σ' d i = σ d i
def A0 : Al := (0, 0, 0, fun _ => 0, fun _ => 0, fun _ => 0, fun _ _ => 0, 1, [])
theorem Va0 : Va A0 := by
  unfold Va A0 aT aN aW aX aF aO aB aE
  simp
theorem nI0 : nI 0 = 0 := rfl
def NwW (L : La) (σ : Me) (b : Nat) (L' : La) (σ' : Me) : Prop := LX (pWd b) L L' ∧ L'.1 (b + 4) = L.1 (b + 4) ∧ L'.2.1 (b + 4) = some (7, 0) ∧ (L'.2.1 (b + 9) = some (10, 24) ∧ L'.2.1 (b + 10) = some (10, 24) ∧ L'.2.1 (b + 11) = some (10, 24) ∧ L'.2.1 (b + 12) = some (10, 24) ∧ L'.2.1 (b + 13) = some (10, 24)) ∧ (L'.2.2 (b + 4) 1 = some (b + 9) ∧ L'.2.2 (b + 4) 2 = some (b + 10) ∧ L'.2.2 (b + 4) 3 = some (b + 11) ∧ L'.2.2 (b + 4) 4 = some (b + 12) ∧ L'.2.2 (b + 4) 5 = some (b + 13)) ∧ Wl L' ∧ σ' (b + 4) 0 = nI 0 ∧ ∀ d i, ¬ pWd b d → σ' d i = σ d i
theorem RAt.of {L : La} {b : Nat} (hb : b % 20 = 0 ∧ 200 ≤ b ∧ b < 260) (s0 : L.2.1 (b + 0) = some (2, 0)) (s1 : L.2.1 (b + 1) = some (10, 6)) (s2 : L.2.1 (b + 2) = some (10, 6)) (s3 : L.2.1 (b + 3) = some (10, 12)) (s4 : L.2.1 (b + 4) = some (7, 0)) (s5 : L.2.1 (b + 5) = some (15, 14)) (s6 : L.2.1 (b + 6) = some (10, 3)) (s7 : L.2.1 (b + 7) = some (10, 6)) (s8 : L.2.1 (b + 8) = some (10, 24)) (s9 : L.2.1 (b + 9) = some (10, 24)) (s10 : L.2.1 (b + 10) = some (10, 24)) (s11 : L.2.1 (b + 11) = some (10, 24)) (s12 : L.2.1 (b + 12) = some (10, 24)) (s13 : L.2.1 (b + 13) = some (10, 24)) (t0 : L.2.2 (b + 0) 1 = some (b + 1)) (t1 : L.2.2 (b + 0) 2 = some (b + 2)) (t2 : L.2.2 (b + 0) 4 = some (b + 3)) (t3 : L.2.2 (b + 0) 5 = some (b + 4)) (t4 : L.2.2 (b + 0) 7 = some (b + 5)) (t5 : L.2.2 (b + 0) 8 = some (b + 6)) (t6 : L.2.2 (b + 0) 10 = some (b + 7)) (t7 : L.2.2 (b + 0) 11 = some (b + 8)) (t8 : L.2.2 (b + 4) 1 = some (b + 9)) (t9 : L.2.2 (b + 4) 2 = some (b + 10)) (t10 : L.2.2 (b + 4) 3 = some (b + 11)) (t11 : L.2.2 (b + 4) 4 = some (b + 12)) (t12 : L.2.2 (b + 4) 5 = some (b + 13)) : RAt L b := by
  refine ⟨fun i x h => ?_, fun i j t h => ?_, hb⟩
  · match i, h with
    | 0, h => exact s0.trans h
    | 1, h => exact s1.trans h
    | 2, h => exact s2.trans h
    | 3, h => exact s3.trans h
    | 4, h => exact s4.trans h
    | 5, h => exact s5.trans h
    | 6, h => exact s6.trans h
    | 7, h => exact s7.trans h
    | 8, h => exact s8.trans h
    | 9, h => exact s9.trans h
    | 10, h => exact s10.trans h
    | 11, h => exact s11.trans h
    | 12, h => exact s12.trans h
    | 13, h => exact s13.trans h
    | (n + 14), h => exact absurd (show (none : Option (Nat × Nat)) = some x from h) (fun e => nomatch e)
  · match i, j, h with
    | 0, 0, h => exact absurd (show (none : Option Nat) = some t from h) (fun e => nomatch e)
    | 0, 1, h => exact t0.trans (congrArg (Option.map (fun z => b + z)) h)
    | 0, 2, h => exact t1.trans (congrArg (Option.map (fun z => b + z)) h)
    | 0, 3, h => exact absurd (show (none : Option Nat) = some t from h) (fun e => nomatch e)
    | 0, 4, h => exact t2.trans (congrArg (Option.map (fun z => b + z)) h)
    | 0, 5, h => exact t3.trans (congrArg (Option.map (fun z => b + z)) h)
    | 0, 6, h => exact absurd (show (none : Option Nat) = some t from h) (fun e => nomatch e)
    | 0, 7, h => exact t4.trans (congrArg (Option.map (fun z => b + z)) h)
    | 0, 8, h => exact t5.trans (congrArg (Option.map (fun z => b + z)) h)
    | 0, 9, h => exact absurd (show (none : Option Nat) = some t from h) (fun e => nomatch e)
    | 0, 10, h => exact t6.trans (congrArg (Option.map (fun z => b + z)) h)
    | 0, 11, h => exact t7.trans (congrArg (Option.map (fun z => b + z)) h)
    | 0, (n + 12), h => exact absurd (show (none : Option Nat) = some t from h) (fun e => nomatch e)
    | 4, 0, h => exact absurd (show (none : Option Nat) = some t from h) (fun e => nomatch e)
    | 4, 1, h => exact t8.trans (congrArg (Option.map (fun z => b + z)) h)
    | 4, 2, h => exact t9.trans (congrArg (Option.map (fun z => b + z)) h)
    | 4, 3, h => exact t10.trans (congrArg (Option.map (fun z => b + z)) h)
    | 4, 4, h => exact t11.trans (congrArg (Option.map (fun z => b + z)) h)
    | 4, 5, h => exact t12.trans (congrArg (Option.map (fun z => b + z)) h)
    | 4, (n + 6), h => exact absurd (show (none : Option Nat) = some t from h) (fun e => nomatch e)
    | 1, _, h => exact absurd (show (none : Option Nat) = some t from h) (fun e => nomatch e)
    | 2, _, h => exact absurd (show (none : Option Nat) = some t from h) (fun e => nomatch e)
    | 3, _, h => exact absurd (show (none : Option Nat) = some t from h) (fun e => nomatch e)
    | (n + 5), _, h => exact absurd (show (none : Option Nat) = some t from h) (fun e => nomatch e)
def NwR (L : La) (σ : Me) (b : Nat) (L' : La) (σ' : Me) : Prop := LX (pRm b) L L' ∧ L'.1 (b + 0) = L.1 (b + 0) ∧ RAt L' b ∧ Wl L' ∧ (∀ j, L'.2.2 (b + 5) j = none) ∧ R0 σ' b A0 ∧ RW σ' b A0 ∧ ∀ d i, ¬ pRm b d → σ' d i = σ d i
