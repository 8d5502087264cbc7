/-! ===== a room that changes ===== -/
theorem lst_al {A B : Al} (h : aX B = aX A) (y : Nat) : ∀ n, lst B y n = lst A y n
  | 0 => rfl
  | n + 1 => by unfold lst tx; rw [h, lst_al h y n]
theorem RX'.al {L : La} {σ : Me} {b : Nat} {A B : Al} (h : RX' L σ b A) (e : aX B = aX A) : RX' L σ b B := fun x hx => by
  rw [e] at hx
  obtain ⟨o, h1, h2, h3, h4, h5⟩ := h x hx
  exact ⟨o, h1, h2, h3, by unfold tx; rw [e]; exact h4, by unfold tx; rw [e]; exact h5⟩
theorem RW.al {σ : Me} {b : Nat} {A B : Al} (h : RW σ b A) (e : aW B = aW A) (e2 : aF B = aF A) : RW σ b B := by
  unfold RW at *
  rw [e, e2]
  exact h
theorem R0.al {σ : Me} {b : Nat} {A B : Al} (h : R0 σ b A) (hT : aT B = aT A) (hN : aN B = aN A) (hX : aX B = aX A) (hZ : aZ B = aZ A) (hO : aO B = aO A) (hB : aB B = aB A) (hE : aE B = aE A) : R0 σ b B := by
  unfold R0 at *
  rw [hT, hN, hX, hZ, hO, hB, hE]
  refine ⟨h.1, h.2.1, h.2.2.1, h.2.2.2.1, h.2.2.2.2.1, h.2.2.2.2.2.1, h.2.2.2.2.2.2.1, fun y hy => ?_⟩
  rw [lst_al hX]
  exact h.2.2.2.2.2.2.2 y hy
theorem r0_setZ {σ : Me} {b : Nat} {A : Al} (h : R0 σ b A) (z : Int32) : R0 (up σ (b + 0) 9 z) b (setZ A z) :=
  ⟨(up_n (by omega)).trans h.1, (up_n (by omega)).trans h.2.1, (up_n (by omega)).trans h.2.2.1, up_s, fun t ht => (up_n (by omega)).trans (h.2.2.2.2.1 t ht), fun t ht => (up_n (by omega)).trans (h.2.2.2.2.2.1 t ht), fun t ht => (up_n (by omega)).trans (h.2.2.2.2.2.2.1 t ht), fun y hy => (up_n (by omega)).trans ((h.2.2.2.2.2.2.2 y hy).trans (congrArg oI (lst_al (A := A) (B := setZ A z) rfl y _).symm))⟩
theorem r0_setB {σ : Me} {b : Nat} {A : Al} (h : R0 σ b A) {q v : Nat} : R0 (up σ (b + 2) q (nI v)) b (setB A q v) :=
  ⟨(up_n (by omega)).trans h.1, (up_n (by omega)).trans h.2.1, (up_n (by omega)).trans h.2.2.1, (up_n (by omega)).trans h.2.2.2.1, fun t ht => (up_n (by omega)).trans (h.2.2.2.2.1 t ht), fun t ht => by
    show _ = nI (if t = q then v else aB A t)
    by_cases e : t = q
    · rw [if_pos e, e, up_s]
    · rw [if_neg e, up_n (by omega)]; exact h.2.2.2.2.2.1 t ht, fun t ht => (up_n (by omega)).trans (h.2.2.2.2.2.2.1 t ht), fun y hy => (up_n (by omega)).trans ((h.2.2.2.2.2.2.2 y hy).trans (congrArg oI (lst_al (A := A) (B := setB A q v) rfl y _).symm))⟩
theorem r0_setO {σ : Me} {b : Nat} {A : Al} (h : R0 σ b A) {q v : Nat} : R0 (up σ (b + 1) q (nI v)) b (setO A q v) :=
  ⟨(up_n (by omega)).trans h.1, (up_n (by omega)).trans h.2.1, (up_n (by omega)).trans h.2.2.1, (up_n (by omega)).trans h.2.2.2.1, fun t ht => by
    show _ = nI (if t = q then v else aO A t)
    by_cases e : t = q
    · rw [if_pos e, e, up_s]
    · rw [if_neg e, up_n (by omega)]; exact h.2.2.2.2.1 t ht, fun t ht => (up_n (by omega)).trans (h.2.2.2.2.2.1 t ht), fun t ht => (up_n (by omega)).trans (h.2.2.2.2.2.2.1 t ht), fun y hy => (up_n (by omega)).trans ((h.2.2.2.2.2.2.2 y hy).trans (congrArg oI (lst_al (A := A) (B := setO A q v) rfl y _).symm))⟩
theorem r0_addT {σ : Me} {b : Nat} {A : Al} (h : R0 σ b A) {v : Nat} : R0 (up (up (up σ (b + 1) (aT A) (nI v)) (b + 2) (aT A) (nI 0)) (b + 0) 0 (nI (aT A + 1))) b (addT A v) :=
  ⟨up_s, (up_n (by omega)).trans ((up_n (by omega)).trans ((up_n (by omega)).trans h.2.1)), (up_n (by omega)).trans ((up_n (by omega)).trans ((up_n (by omega)).trans h.2.2.1)), (up_n (by omega)).trans ((up_n (by omega)).trans ((up_n (by omega)).trans h.2.2.2.1)), fun t ht => by
    have ht : t < aT A + 1 := ht
    show _ = nI (if t = aT A then v else aO A t)
    by_cases e : t = aT A
    · rw [if_pos e, e, up_n (by omega), up_n (by omega), up_s]
    · rw [if_neg e, up_n (by omega), up_n (by omega), up_n (by omega)]; exact h.2.2.2.2.1 t (by omega), fun t ht => by
    have ht : t < aT A + 1 := ht
    show _ = nI (if t = aT A then 0 else aB A t)
    by_cases e : t = aT A
    · rw [if_pos e, e, up_n (by omega), up_s]
    · rw [if_neg e, up_n (by omega), up_n (by omega), up_n (by omega)]; exact h.2.2.2.2.2.1 t (by omega), fun t ht => (up_n (by omega)).trans ((up_n (by omega)).trans ((up_n (by omega)).trans (h.2.2.2.2.2.2.1 t ht))), fun y hy => (up_n (by omega)).trans ((up_n (by omega)).trans ((up_n (by omega)).trans ((h.2.2.2.2.2.2.2 y hy).trans (congrArg oI (lst_al (A := A) (B := addT A v) rfl y _).symm))))⟩
theorem r0_addN {σ : Me} {b : Nat} {A : Al} (h : R0 σ b A) {v : Nat} : R0 (up (up σ (b + 3) (aN A) (nI v)) (b + 0) 3 (nI (aN A + 1))) b (addN A v) :=
  ⟨(up_n (by omega)).trans ((up_n (by omega)).trans h.1), up_s, (up_n (by omega)).trans ((up_n (by omega)).trans h.2.2.1), (up_n (by omega)).trans ((up_n (by omega)).trans h.2.2.2.1), fun t ht => (up_n (by omega)).trans ((up_n (by omega)).trans (h.2.2.2.2.1 t ht)), fun t ht => (up_n (by omega)).trans ((up_n (by omega)).trans (h.2.2.2.2.2.1 t ht)), fun t ht => by
    have ht : t < aN A + 1 := ht
    show _ = nI (if t = aN A then v else aE A t)
    by_cases e : t = aN A
    · rw [if_pos e, e, up_n (by omega), up_s]
    · rw [if_neg e, up_n (by omega), up_n (by omega)]; exact h.2.2.2.2.2.2.1 t (by omega), fun y hy => (up_n (by omega)).trans ((up_n (by omega)).trans ((h.2.2.2.2.2.2.2 y hy).trans (congrArg oI (lst_al (A := A) (B := addN A v) rfl y _).symm)))⟩
theorem RC.wf {L : La} {σ τ : Me} {b : Nat} {A B : Al} (h : RC L σ b A) (hb : b < 260) (hw : RW τ b B) (e : Wf b σ τ) (hT : aT B = aT A) (hN : aN B = aN A) (hX : aX B = aX A) (hZ : aZ B = aZ A) (hO : aO B = aO A) (hB : aB B = aB A) (hE : aE B = aE A) : RC L τ b B :=
  ⟨(h.1.kept (fun c i hc => e c i (by omega) (by omega))).al hT hN hX hZ hO hB hE, hw, (h.2.2.kept (fun c i h1 h2 => e c i (by omega) (by omega))).al hX⟩
theorem Cb.cs {b : Nat} {σ τ : Me} (h : Cs σ τ) : Cb b σ τ := h.cb

theorem dlK_same (A : Al) (v : Nat) : ∀ i, aT (dlK A v i) = aT A ∧ aN (dlK A v i) = aN A ∧ aX (dlK A v i) = aX A ∧ aZ (dlK A v i) = aZ A ∧ aO (dlK A v i) = aO A ∧ aB (dlK A v i) = aB A ∧ aE (dlK A v i) = aE A
  | 0 => ⟨rfl, rfl, rfl, rfl, rfl, rfl, rfl⟩
  | i + 1 => by
    have h := dlK_same A v i
    unfold dlK
    split
    · exact h
    · exact h
