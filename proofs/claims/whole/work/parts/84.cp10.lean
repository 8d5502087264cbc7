/-! ===== the class's tape ===== -/
def sb (n : Nat) : Int32 := (nI n).toInt8.toInt32
def RTc (σ : Me) (P : Tp) : Prop := σ 103 1 = nI P.1 ∧ P.1 ≤ 96 ∧ ∀ k, k < P.1 → σ 104 k = sb (P.2 k) ∧ P.2 k < 256
def pTc (c _i : Nat) : Bool := decide (c = 103) || decide (c = 104)
theorem sb_of (y : Int32) : y.toInt8.toInt32 = sb (y.toBitVec.toNat % 2 ^ 8) := by
  unfold sb
  congr 1
  apply Int8.toBitVec_inj.mp
  have h : (nI (y.toBitVec.toNat % 2 ^ 8)).toBitVec.toNat = y.toBitVec.toNat % 2 ^ 8 := pk_tn (by have := Nat.mod_lt y.toBitVec.toNat (show 0 < 2 ^ 8 by decide); omega)
  rw [Int32.toBitVec_toInt8, Int32.toBitVec_toInt8, BitVec.signExtend_eq_setWidth_of_le _ (by decide), BitVec.signExtend_eq_setWidth_of_le _ (by decide)]
  apply BitVec.eq_of_toNat_eq
  rw [BitVec.toNat_setWidth, BitVec.toNat_setWidth, h, Nat.mod_mod]
theorem sb_byN (x : Int32) (j : Nat) : (x >>> (nI (24 - 8 * j) &&& 31)).toInt8.toInt32 = sb (byN x j) := sb_of _
theorem i8_2 (x : Int32) : x.toInt8.toInt32.toInt8.toInt32 = x.toInt8.toInt32 := by rw [Int8.toInt8_toInt32]
def tkP (P : Tp) (x : Int32) : Tp := (P.1 + 4, fun i => if i < P.1 then P.2 i else byN x (i - P.1))
theorem RTc.cg {σ : Me} {P Q : Tp} (h : RTc σ P) (e1 : Q.1 = P.1) (e2 : ∀ k, k < P.1 → Q.2 k = P.2 k) : RTc σ Q :=
  ⟨by rw [e1]; exact h.1, by rw [e1]; exact h.2.1, fun k hk => by rw [e1] at hk; rw [e2 k hk]; exact h.2.2 k hk⟩
theorem tkP_fd {σ : Me} {P : Tp} {a b c : Int32} (h : RTc σ (tkP (tkP (tkP P a) b) c)) : RTc σ (fdK P a b c 12) := by
  refine h.cg rfl (fun k hk => ?_)
  have hk : k < P.1 + 4 + 4 + 4 := hk
  show (if k < P.1 then P.2 k else by12 a b c (k - P.1)) = (if k < P.1 + 4 + 4 then (if k < P.1 + 4 then (if k < P.1 then P.2 k else byN a (k - P.1)) else byN b (k - (P.1 + 4))) else byN c (k - (P.1 + 4 + 4)))
  by_cases h0 : k < P.1
  · rw [if_pos h0, if_pos (by omega), if_pos (by omega), if_pos h0]
  · rw [if_neg h0]
    unfold by12
    by_cases h1 : k < P.1 + 4
    · rw [if_pos (show k - P.1 < 4 by omega), if_pos (show k < P.1 + 4 + 4 by omega), if_pos h1, if_neg h0, Nat.mod_eq_of_lt (by omega)]
    · by_cases h2 : k < P.1 + 8
      · rw [if_neg (show ¬ k - P.1 < 4 by omega), if_pos (show k - P.1 < 8 by omega), if_pos (show k < P.1 + 4 + 4 by omega), if_neg h1]
        congr 1
        omega
      · rw [if_neg (show ¬ k - P.1 < 4 by omega), if_neg (show ¬ k - P.1 < 8 by omega), if_neg (show ¬ k < P.1 + 4 + 4 by omega)]
        congr 1
        omega
theorem tk_fin {σ τ : Me} {P : Tp} {x : Int32} (h : RTc σ P) (h96 : P.1 + 4 ≤ 96) (e1 : τ 103 1 = nI (P.1 + 4)) (q0 : τ 104 P.1 = sb (byN x 0)) (q1 : τ 104 (P.1 + 1) = sb (byN x 1)) (q2 : τ 104 (P.1 + 2) = sb (byN x 2)) (q3 : τ 104 (P.1 + 3) = sb (byN x 3)) (o : ∀ k, k < P.1 → τ 104 k = σ 104 k) : RTc τ (tkP P x) := by
  refine ⟨e1, h96, fun k hk => ?_⟩
  have hk : k < P.1 + 4 := hk
  show τ 104 k = sb (if k < P.1 then P.2 k else byN x (k - P.1)) ∧ (if k < P.1 then P.2 k else byN x (k - P.1)) < 256
  by_cases e : k < P.1
  · rw [if_pos e, o k e]; exact h.2.2 k e
  · rw [if_neg e]
    refine ⟨?_, byN_lt _ _⟩
    rcases (show k = P.1 ∨ k = P.1 + 1 ∨ k = P.1 + 2 ∨ k = P.1 + 3 by omega) with rfl | rfl | rfl | rfl
    · rw [Nat.sub_self]; exact q0
    · rw [Nat.add_sub_cancel_left]; exact q1
    · rw [Nat.add_sub_cancel_left]; exact q2
    · rw [Nat.add_sub_cancel_left]; exact q3
theorem RTc.ex {σ τ : Me} {P : Tp} (h : RTc σ P) (e : ∀ c i, c = 103 ∨ c = 104 → τ c i = σ c i) : RTc τ P := ⟨(e _ _ (by omega)).trans h.1, h.2.1, fun k hk => ⟨(e _ _ (by omega)).trans (h.2.2 k hk).1, (h.2.2 k hk).2⟩⟩
/-! ===== the class's sheets ===== -/
def SA (L : La) (s : Nat) : Prop := L.2.1 s = some (3, 0) ∧ L.2.1 (s + 1) = some (10, 24) ∧ L.2.2 s 2 = some (s + 1)
theorem CAt.sh {L : La} (h : CAt L) {q : Nat} (hq : q < 4) : SA L (110 + 2 * q) ∧ L.2.2 107 q = some (110 + 2 * q) := by
  rcases (show q = 0 ∨ q = 1 ∨ q = 2 ∨ q = 3 by omega) with rfl | rfl | rfl | rfl
  · exact ⟨⟨h.1 110 _ rfl, h.1 111 _ rfl, h.2.1 110 2 111 rfl⟩, h.2.1 107 0 110 rfl⟩
  · exact ⟨⟨h.1 112 _ rfl, h.1 113 _ rfl, h.2.1 112 2 113 rfl⟩, h.2.1 107 1 112 rfl⟩
  · exact ⟨⟨h.1 114 _ rfl, h.1 115 _ rfl, h.2.1 114 2 115 rfl⟩, h.2.1 107 2 114 rfl⟩
  · exact ⟨⟨h.1 116 _ rfl, h.1 117 _ rfl, h.2.1 116 2 117 rfl⟩, h.2.1 107 3 116 rfl⟩
def RBc (σ : Me) (B : Bs) : Prop := ∀ k, k < 4 → σ (110 + 2 * k) 0 = srI (B.1 k) ∧ σ (110 + 2 * k) 1 = nI (B.2.1 k) ∧ B.2.1 k ≤ 24 ∧ ∀ i, i < 24 → σ (110 + 2 * k + 1) i = B.2.2 k i
def pBc (c _i : Nat) : Bool := decide (110 ≤ c) && decide (c < 118)
theorem RBc.ex {σ τ : Me} {B : Bs} (h : RBc σ B) (e : ∀ c i, 110 ≤ c → c < 118 → τ c i = σ c i) : RBc τ B := fun k hk => ⟨(e _ _ (by omega) (by omega)).trans (h k hk).1, (e _ _ (by omega) (by omega)).trans (h k hk).2.1, (h k hk).2.2.1, fun i hi => (e _ _ (by omega) (by omega)).trans ((h k hk).2.2.2 i hi)⟩
theorem rbc_set {σ τ : Me} {B : Bs} (h : RBc σ B) {k n : Nat} {o : Option Bool} (hk : k < 4) (hn : n ≤ 24) (e0 : τ (110 + 2 * k) 0 = srI o) (e1 : τ (110 + 2 * k) 1 = nI n) (e2 : ∀ i, i < 24 → τ (110 + 2 * k + 1) i = nI 0) (f : ∀ c i, c ≠ 110 + 2 * k → c ≠ 110 + 2 * k + 1 → τ c i = σ c i) : RBc τ (setS B k o n) := by
  intro j hj
  show τ (110 + 2 * j) 0 = srI (if j = k then o else B.1 j) ∧ τ (110 + 2 * j) 1 = nI (if j = k then n else B.2.1 j) ∧ (if j = k then n else B.2.1 j) ≤ 24 ∧ ∀ i, i < 24 → τ (110 + 2 * j + 1) i = (if j = k then nI 0 else B.2.2 j i)
  by_cases q : j = k
  · subst q
    simp only [if_true]
    exact ⟨e0, e1, hn, e2⟩
  · simp only [q, if_false]
    obtain ⟨g1, g2, g3, g4⟩ := h j hj
    exact ⟨(f _ _ (by omega) (by omega)).trans g1, (f _ _ (by omega) (by omega)).trans g2, g3, fun i hi => (f _ _ (by omega) (by omega)).trans (g4 i hi)⟩
theorem rbc_mark {σ : Me} {B : Bs} (h : RBc σ B) {k p : Nat} {v : Int32} (hk : k < 4) (hp : p < 24) : RBc (up σ (110 + 2 * k + 1) p v) (mkS B k p v) := by
  intro j hj
  obtain ⟨g1, g2, g3, g4⟩ := h j hj
  refine ⟨(up_n (by omega)).trans g1, (up_n (by omega)).trans g2, g3, fun i hi => ?_⟩
  show _ = (if j = k ∧ i = p then v else B.2.2 j i)
  by_cases q : j = k ∧ i = p
  · rw [if_pos q, q.1, q.2, up_s]
  · rw [if_neg q, up_n (by omega)]; exact g4 i hi
theorem hr_iff {p m : Int32} {sz : Nat} (hs : sz ≤ 24) (hm : ¬ m < 0) : (inB p (nI 0) (nI sz) && decide (m ≤ nI sz - p)) = true ↔ (¬ p < 0 ∧ p ≤ nI sz - m) := by
  constructor
  · intro h
    rw [Bool.and_eq_true] at h
    obtain ⟨u, -, hu, rfl⟩ := inB_nat h.1 (by decide) (by omega)
    obtain ⟨v, hv, rfl⟩ := nI_of hm
    have h2 : nI v ≤ nI sz - nI u := by simpa using h.2
    rw [pk_sub hu, nI_leI hv (by omega)] at h2
    refine ⟨nI_pos (by omega), ?_⟩
    rw [pk_sub (by omega), nI_leI (by omega) (by omega)]
    omega
  · intro h
    obtain ⟨u, v, rfl, rfl, huv⟩ := cp_nat hs hm h.1 h.2
    rw [Bool.and_eq_true]
    refine ⟨?_, ?_⟩
    · unfold inB
      rw [decide_eq_true (p := nI 0 ≤ nI u) (nI_pos' (by omega)), decide_eq_true (p := nI u ≤ nI sz) ((nI_leI (by omega) (by omega)).mpr (by omega))]
      rfl
    · rw [pk_sub (by omega)]
      exact decide_eq_true ((nI_leI (by omega) (by omega)).mpr (by omega))
theorem rbc_copy {σ : Me} {B : Bs} (h : RBc σ B) {f p t a m : Nat} (hf : f < 4) (ht : t < 4) (hpm : p + m ≤ 24) (ham : a + m ≤ 24) : RBc (cpM σ (110 + 2 * f + 1) (110 + 2 * t + 1) p a m) (cpS B f p t a m) := by
  intro j hj
  obtain ⟨g1, g2, g3, g4⟩ := h j hj
  refine ⟨(cpM_o (by omega)).trans g1, (cpM_o (by omega)).trans g2, g3, fun i hi => ?_⟩
  show _ = (if j = t ∧ a ≤ i ∧ i < a + m then B.2.2 f (p + (i - a)) else B.2.2 j i)
  by_cases q : j = t
  · subst q
    by_cases z : a ≤ i ∧ i < a + m
    · rw [if_pos ⟨rfl, z⟩, cpM_in z]; exact (h f hf).2.2.2 _ (by omega)
    · rw [if_neg (fun e => z e.2), cpM_out z]; exact g4 i hi
  · rw [if_neg (fun e => q e.1), cpM_o (by omega)]; exact g4 i hi
theorem none_of {o : Option Bool} (h : o.isNone = true) : o = none := by cases o with | none => rfl | some b => cases h
theorem some_of {o : Option Bool} (h : o.isNone = false) : ∃ b, o = some b := by cases o with | none => cases h | some b => exact ⟨b, rfl⟩
theorem mis_eq (o : Option Bool) : decide (srI o = (-1)) = o.isNone := by
  rcases o with _ | _ | _ <;> decide
