/-! ===== rows over numbers ===== -/
theorem nI_toN {n : Nat} (h : n < 2 ^ 31) : (nI n).toNatClampNeg = n := nI_clamp h
theorem loopUp {P : Nat → Prop} (n : Nat) (he : P n) (hs : ∀ k, k < n → P (k + 1) → P k) : ∀ k, k ≤ n → P k := by
  have key : ∀ d k, k + d = n → P k := by
    intro d
    induction d with
    | zero => intro k h; rw [show k = n by omega]; exact he
    | succ d ih => intro k h; exact hs k (by omega) (ih (k + 1) (by omega))
  exact fun k h => key (n - k) k (by omega)
section
variable {X : Cx} {cc : ByteArray} {own nm : String} {rm : Room} {ret : Option FieldType} {L : La} {σ : Me} {mc ms : Nat} {ls : List (Nat × Value)} {pc nx tgt : Nat} {st : List Value} {off : Int} {a b : Nat}
theorem At.to {ls' : List (Nat × Value)} {st' : List Value} {σ' : Me} (h : At X L σ' mc ms ls' pc st') (e1 : ls' = ls) (e2 : st' = st) (e3 : σ' = σ) : At X L σ mc ms ls pc st := by
  subst e1; subst e2; subst e3; exact h
theorem r_iaddN (hX : Ok X cc own nm rm ret) (hd : Dc cc pc .iadd 1 nx) (k : At X L σ mc ms ls nx (.int (nI (a + b)) :: st)) : At X L σ mc ms ls pc (.int (nI b) :: .int (nI a) :: st) :=
  r_iadd hX hd (by rw [nI_add]; exact k)
theorem r_imulN (hX : Ok X cc own nm rm ret) (hd : Dc cc pc .imul 1 nx) (k : At X L σ mc ms ls nx (.int (nI (a * b)) :: st)) : At X L σ mc ms ls pc (.int (nI b) :: .int (nI a) :: st) :=
  r_imul hX hd (by rw [pk_mul]; exact k)
theorem r_isubN (hX : Ok X cc own nm rm ret) (hd : Dc cc pc .isub 1 nx) (h : b ≤ a) (k : At X L σ mc ms ls nx (.int (nI (a - b)) :: st)) : At X L σ mc ms ls pc (.int (nI b) :: .int (nI a) :: st) :=
  r_isub hX hd (by rw [pk_sub h]; exact k)
theorem r_idivN (hX : Ok X cc own nm rm ret) (hd : Dc cc pc .idiv 1 nx) (ha : a < 2 ^ 31) (h0 : 0 < b) (hb : b < 2 ^ 31) (k : At X L σ mc ms ls nx (.int (nI (a / b)) :: st)) : At X L σ mc ms ls pc (.int (nI b) :: .int (nI a) :: st) :=
  r_idiv hX hd (nI_ne0 h0 hb) (by rw [pk_div ha h0 hb]; exact k)
theorem r_iremN (hX : Ok X cc own nm rm ret) (hd : Dc cc pc .irem 1 nx) (ha : a < 2 ^ 31) (h0 : 0 < b) (hb : b < 2 ^ 31) (k : At X L σ mc ms ls nx (.int (nI (a % b)) :: st)) : At X L σ mc ms ls pc (.int (nI b) :: .int (nI a) :: st) :=
  r_irem hX hd (nI_ne0 h0 hb) (by rw [rem, pk_rem ha h0 hb]; exact k)
theorem r_iincN (hX : Ok X cc own nm rm ret) {i n : Nat} (ls' : List (Nat × Value)) (hd : Dc cc pc (.iinc i (n : Int)) 3 nx) (hk : lk ls i = some (.int (nI a))) (hn : i < xn X) (hl : sl i (.int (nI (a + n))) ls = ls') (k : At X L σ mc ms ls' nx st) : At X L σ mc ms ls pc st :=
  r_iinc hX (nI (a + n)) ls' hd hk (by rw [← nI_add]; rfl) hn hl k
theorem r_aldN (hX : Ok X cc own nm rm ret) {id n i : Nat} (hd : Dc cc pc .iaload 1 nx) (hs : L.2.1 id = some (10, n)) (hn : n < 2 ^ 31) (hi : i < n) (v : Int32) (hv : σ id i = v) (kk : At X L σ mc ms ls nx (.int v :: st)) : At X L σ mc ms ls pc (.int (nI i) :: .ref (L.1 id) :: st) :=
  r_ald hX hd hs (vp_in_nI hi hn) (by rw [nI_clamp (by omega), hv]; exact kk)
theorem r_baldN (hX : Ok X cc own nm rm ret) {id n i : Nat} (hd : Dc cc pc .baload 1 nx) (hs : L.2.1 id = some (11, n)) (hn : n < 2 ^ 31) (hi : i < n) (v : Int32) (hv : σ id i = v) (kk : At X L σ mc ms ls nx (.int v :: st)) : At X L σ mc ms ls pc (.int (nI i) :: .ref (L.1 id) :: st) :=
  r_bald hX hd hs (vp_in_nI hi hn) (by rw [nI_clamp (by omega), hv]; exact kk)
theorem r_zaldN (hX : Ok X cc own nm rm ret) {id n i : Nat} (hd : Dc cc pc .baload 1 nx) (hs : L.2.1 id = some (12, n)) (hn : n < 2 ^ 31) (hi : i < n) (v : Int32) (hv : σ id i = v) (kk : At X L σ mc ms ls nx (.int v :: st)) : At X L σ mc ms ls pc (.int (nI i) :: .ref (L.1 id) :: st) :=
  r_zald hX hd hs (vp_in_nI hi hn) (by rw [nI_clamp (by omega), hv]; exact kk)
theorem r_astN (hX : Ok X cc own nm rm ret) {id n i : Nat} {x : Int32} (hd : Dc cc pc .iastore 1 nx) (hs : L.2.1 id = some (10, n)) (hn : n < 2 ^ 31) (hi : i < n) (kk : At X L (up σ id i x) mc ms ls nx st) : At X L σ mc ms ls pc (.int x :: .int (nI i) :: .ref (L.1 id) :: st) :=
  r_ast hX hd hs (vp_in_nI hi hn) (by rw [nI_clamp (by omega)]; exact kk)
theorem r_bastN (hX : Ok X cc own nm rm ret) {id n i : Nat} {x : Int32} (hd : Dc cc pc .bastore 1 nx) (hs : L.2.1 id = some (11, n)) (hn : n < 2 ^ 31) (hi : i < n) (kk : At X L (up σ id i x.toInt8.toInt32) mc ms ls nx st) : At X L σ mc ms ls pc (.int x :: .int (nI i) :: .ref (L.1 id) :: st) :=
  r_bast hX hd hs (vp_in_nI hi hn) (by rw [nI_clamp (by omega)]; exact kk)
theorem r_zastN (hX : Ok X cc own nm rm ret) {id n i : Nat} {x : Int32} (hd : Dc cc pc .bastore 1 nx) (hs : L.2.1 id = some (12, n)) (hn : n < 2 ^ 31) (hi : i < n) (hx : vp_nar .boolean x = x) (kk : At X L (up σ id i x) mc ms ls nx st) : At X L σ mc ms ls pc (.int x :: .int (nI i) :: .ref (L.1 id) :: st) :=
  r_zast hX hd hs (vp_in_nI hi hn) (by rw [nI_clamp (by omega), hx]; exact kk)
theorem r_icmpN_eq (hX : Ok X cc own nm rm ret) (hd : Dj cc pc (.if_icmp .eq off) off nx tgt) (ha : a < 2 ^ 31) (hb : b < 2 ^ 31) (kt : a = b → At X L σ mc ms ls tgt st) (kf : ¬ a = b → At X L σ mc ms ls nx st) : At X L σ mc ms ls pc (.int (nI b) :: .int (nI a) :: st) :=
  r_icmp_eq hX hd (fun c => kt ((nI_eq ha hb).mp c)) (fun c => kf (fun e => c ((nI_eq ha hb).mpr e)))
theorem r_icmpN_ne (hX : Ok X cc own nm rm ret) (hd : Dj cc pc (.if_icmp .ne off) off nx tgt) (ha : a < 2 ^ 31) (hb : b < 2 ^ 31) (kt : ¬ a = b → At X L σ mc ms ls tgt st) (kf : a = b → At X L σ mc ms ls nx st) : At X L σ mc ms ls pc (.int (nI b) :: .int (nI a) :: st) :=
  r_icmp_ne hX hd (fun c => kt (fun e => c ((nI_eq ha hb).mpr e))) (fun c => kf ((nI_eq ha hb).mp c))
theorem r_icmpN_lt (hX : Ok X cc own nm rm ret) (hd : Dj cc pc (.if_icmp .lt off) off nx tgt) (ha : a < 2 ^ 31) (hb : b < 2 ^ 31) (kt : a < b → At X L σ mc ms ls tgt st) (kf : b ≤ a → At X L σ mc ms ls nx st) : At X L σ mc ms ls pc (.int (nI b) :: .int (nI a) :: st) :=
  r_icmp_lt hX hd (fun c => kt ((nI_ltI ha hb).mp c)) (fun c => kf (Nat.le_of_not_lt fun e => c ((nI_ltI ha hb).mpr e)))
theorem r_icmpN_ge (hX : Ok X cc own nm rm ret) (hd : Dj cc pc (.if_icmp .ge off) off nx tgt) (ha : a < 2 ^ 31) (hb : b < 2 ^ 31) (kt : b ≤ a → At X L σ mc ms ls tgt st) (kf : a < b → At X L σ mc ms ls nx st) : At X L σ mc ms ls pc (.int (nI b) :: .int (nI a) :: st) :=
  r_icmp_ge hX hd (fun c => kt ((nI_leI hb ha).mp c)) (fun c => kf (Nat.lt_of_not_le fun e => c ((nI_leI hb ha).mpr e)))
theorem r_icmpN_gt (hX : Ok X cc own nm rm ret) (hd : Dj cc pc (.if_icmp .gt off) off nx tgt) (ha : a < 2 ^ 31) (hb : b < 2 ^ 31) (kt : b < a → At X L σ mc ms ls tgt st) (kf : a ≤ b → At X L σ mc ms ls nx st) : At X L σ mc ms ls pc (.int (nI b) :: .int (nI a) :: st) :=
  r_icmp_gt hX hd (fun c => kt ((nI_ltI hb ha).mp c)) (fun c => kf (Nat.le_of_not_lt fun e => c ((nI_ltI hb ha).mpr e)))
theorem r_icmpN_le (hX : Ok X cc own nm rm ret) (hd : Dj cc pc (.if_icmp .le off) off nx tgt) (ha : a < 2 ^ 31) (hb : b < 2 ^ 31) (kt : a ≤ b → At X L σ mc ms ls tgt st) (kf : b < a → At X L σ mc ms ls nx st) : At X L σ mc ms ls pc (.int (nI b) :: .int (nI a) :: st) :=
  r_icmp_le hX hd (fun c => kt ((nI_leI ha hb).mp c)) (fun c => kf (Nat.lt_of_not_le fun e => c ((nI_leI ha hb).mpr e)))
theorem r_ifN_eq (hX : Ok X cc own nm rm ret) (hd : Dj cc pc (.ifCond .eq off) off nx tgt) (ha : a < 2 ^ 31) (kt : a = 0 → At X L σ mc ms ls tgt st) (kf : ¬ a = 0 → At X L σ mc ms ls nx st) : At X L σ mc ms ls pc (.int (nI a) :: st) :=
  r_if_eq hX hd (fun c => kt ((nI_eq ha (by decide)).mp (c.trans nI_0.symm))) (fun c => kf (fun e => c (by rw [e]; exact nI_0)))
theorem r_ifN_ne (hX : Ok X cc own nm rm ret) (hd : Dj cc pc (.ifCond .ne off) off nx tgt) (ha : a < 2 ^ 31) (kt : ¬ a = 0 → At X L σ mc ms ls tgt st) (kf : a = 0 → At X L σ mc ms ls nx st) : At X L σ mc ms ls pc (.int (nI a) :: st) :=
  r_if_ne hX hd (fun c => kt (fun e => c (by rw [e]; exact nI_0))) (fun c => kf ((nI_eq ha (by decide)).mp (c.trans nI_0.symm)))
theorem r_ifN_lt (hX : Ok X cc own nm rm ret) (hd : Dj cc pc (.ifCond .lt off) off nx tgt) (ha : a < 2 ^ 31) (kf : At X L σ mc ms ls nx st) : At X L σ mc ms ls pc (.int (nI a) :: st) :=
  r_if_lt hX hd (fun c => absurd c (nI_pos ha)) (fun _ => kf)
theorem r_ifN_ge (hX : Ok X cc own nm rm ret) (hd : Dj cc pc (.ifCond .ge off) off nx tgt) (ha : a < 2 ^ 31) (kt : At X L σ mc ms ls tgt st) : At X L σ mc ms ls pc (.int (nI a) :: st) :=
  r_if_ge hX hd (fun _ => kt) (fun c => absurd (nI_pos' ha) c)
theorem r_ifN_gt (hX : Ok X cc own nm rm ret) (hd : Dj cc pc (.ifCond .gt off) off nx tgt) (ha : a < 2 ^ 31) (kt : 0 < a → At X L σ mc ms ls tgt st) (kf : a = 0 → At X L σ mc ms ls nx st) : At X L σ mc ms ls pc (.int (nI a) :: st) :=
  r_if_gt hX hd (fun c => kt (by rw [← nI_0] at c; exact (nI_ltI (by decide) ha).mp c)) (fun c => kf (Nat.eq_zero_of_not_pos fun e => c (by rw [← nI_0]; exact (nI_ltI (by decide) ha).mpr e)))
theorem r_ifN_le (hX : Ok X cc own nm rm ret) (hd : Dj cc pc (.ifCond .le off) off nx tgt) (ha : a < 2 ^ 31) (kt : a = 0 → At X L σ mc ms ls tgt st) (kf : 0 < a → At X L σ mc ms ls nx st) : At X L σ mc ms ls pc (.int (nI a) :: st) :=
  r_if_le hX hd (fun c => kt (Nat.eq_zero_of_not_pos fun e => by rw [← nI_0] at c; exact absurd ((nI_leI ha (by decide)).mp c) (by omega))) (fun c => kf (Nat.pos_of_ne_zero fun e => c (by rw [e, nI_0]; exact Int32.le_refl 0)))
end
/-! ===== truth values ===== -/
def bI (b : Bool) : Int32 := if b = true then nI 1 else nI 0
theorem nar_bI (b : Bool) : narrow .boolean (.int (bI b)) = .int (bI b) := by cases b <;> rfl
theorem fit_bI (b : Bool) : fits .boolean (.int (bI b)) = true := by cases b <;> rfl
theorem vnar_bI (b : Bool) : vp_nar .boolean (bI b) = bI b := by cases b <;> rfl
theorem bI_t {b : Bool} (h : b = true) : bI b = nI 1 := by rw [h]; rfl
theorem bI_f {b : Bool} (h : b = false) : bI b = nI 0 := by rw [h]; rfl
theorem PF.mk {L : La} {σ : Me} {r r0 : Int32} (h : r = r0) : PF L σ r0 (some (.int r)) L σ := ⟨by rw [h], rfl, rfl⟩
theorem PI.mk {L : La} {σ : Me} {r : Int32} {p : Int32 → Me → Prop} (h : p r σ) : PI L p (some (.int r)) L σ := ⟨r, rfl, rfl, h⟩
theorem PV.mk {L : La} {σ : Me} {p : Me → Prop} (h : p σ) : PV L p none L σ := ⟨rfl, rfl, h⟩
theorem ne_toInt {x : Int32} {v : Nat} (hv : v < 2 ^ 31) (h : ¬ x = nI v) : x.toInt ≠ v := fun e => h (Int32.toInt_inj.mp (by rw [e, nI_toInt hv]))
section
variable {X : Cx} {cc : ByteArray} {own nm : String} {rm : Room} {ret : Option FieldType} {L : La} {σ : Me} {mc ms : Nat} {ls : List (Nat × Value)} {pc nx tgt : Nat} {st : List Value} {off : Int} {b : Bool}
theorem r_ifB_eq (hX : Ok X cc own nm rm ret) (hd : Dj cc pc (.ifCond .eq off) off nx tgt) (kt : b = false → At X L σ mc ms ls tgt st) (kf : b = true → At X L σ mc ms ls nx st) : At X L σ mc ms ls pc (.int (bI b) :: st) := by
  refine r_if_eq hX hd (fun c => kt ?_) (fun c => kf ?_)
  · cases b
    · rfl
    · exact absurd c (by decide)
  · cases b
    · exact absurd rfl c
    · rfl
theorem r_ifB_ne (hX : Ok X cc own nm rm ret) (hd : Dj cc pc (.ifCond .ne off) off nx tgt) (kt : b = true → At X L σ mc ms ls tgt st) (kf : b = false → At X L σ mc ms ls nx st) : At X L σ mc ms ls pc (.int (bI b) :: st) := by
  refine r_if_ne hX hd (fun c => kt ?_) (fun c => kf ?_)
  · cases b
    · exact absurd rfl c
    · rfl
  · cases b
    · rfl
    · exact absurd c (by decide)
theorem r_getIV (hX : Ok X cc own nm rm ret) {idx id k j n : Nat} (hd : Dc cc pc (.getfield idx) 3 nx) (hf : FL own idx k j) (hs : L.2.1 id = some (k, n)) (hr : rk k j = false) (v : Int32) (hv : σ id j = v) (kk : At X L σ mc ms ls nx (.int v :: st)) : At X L σ mc ms ls pc (.ref (L.1 id) :: st) := by
  subst hv; exact r_getI hX hd hf hs hr kk
theorem r_tabInN (hX : Ok X cc own nm rm ret) {v : Nat} {dflt lo hi : Int} {offs : Array Int} {len : Nat} (tgt : Nat) (hd : Dc cc pc (.tableswitch dflt lo hi offs) len nx) (hv : v < 2 ^ 31) (h1 : ¬ (v : Int) < lo) (h2 : ¬ hi < (v : Int)) (off : Int) (ho : offs[((v : Int) - lo).toNat]? = some off) (ht : (pc : Int) + off = (tgt : Int)) (k : At X L σ mc ms ls tgt st) : At X L σ mc ms ls pc (.int (nI v) :: st) :=
  r_tabIn hX tgt hd (v : Int) (nI_toInt hv) h1 h2 off ho ht k
theorem r_lookN (hX : Ok X cc own nm rm ret) {v : Nat} {dflt : Int} {ps : Array (Int × Int)} {len : Nat} (tgt : Nat) (hd : Dc cc pc (.lookupswitch dflt ps) len nx) (hv : v < 2 ^ 31) (hp : (ps.toList.zip (ps.toList.drop 1)).all (fun (a, next) => a.1 < next.1) = true) (off : Int) (ho : Op.lookupswitch.offset ps.toList dflt (v : Int) = off) (ht : (pc : Int) + off = (tgt : Int)) (k : At X L σ mc ms ls tgt st) : At X L σ mc ms ls pc (.int (nI v) :: st) :=
  r_lookup hX tgt hd hp off (by rw [nI_toInt hv]; exact ho) ht k
end
/-! ===== the reference's cells: 0 the object, 1 s, 2 kept, 3 aside, 4 tape, 5 waits, 6 shown, 7 friends, 8 isTaken, 9 fact, 10 code, 11 pile, 12 sorts, 13 sizes, 14 cells, 15 between, 16 things, 17 first, 18 second, 19 rows ===== -/
def msh : Nat → Option (Nat × Nat)
  | 0 => some (9, 0) | 1 => some (10, 1605) | 2 => some (10, 1605) | 3 => some (10, 1605) | 4 => some (10, 96) | 5 => some (10, 60) | 6 => some (10, 6) | 7 => some (10, 12) | 8 => some (12, 24) | 9 => some (10, 26)
  | 10 => some (10, 100) | 11 => some (10, 100) | 12 => some (10, 4) | 13 => some (10, 4) | 14 => some (10, 96) | 15 => some (10, 24) | 16 => some (10, 5) | 17 => some (10, 5) | 18 => some (10, 5) | 19 => some (10, 120) | _ => none
def mtg : Nat → Option Nat
  | 0 => some 1 | 1 => some 2 | 2 => some 3 | 4 => some 4 | 6 => some 5 | 14 => some 6 | 15 => some 7 | 16 => some 8 | 19 => some 9 | 33 => some 10 | 34 => some 11 | 35 => some 12 | 36 => some 13 | 37 => some 14 | 38 => some 15 | 39 => some 16 | 40 => some 17 | 41 => some 18 | 42 => some 19 | _ => none
def MAt (L : La) : Prop := (∀ id x, msh id = some x → L.2.1 id = some x) ∧ ∀ j id, mtg j = some id → L.2.2 0 j = some id
