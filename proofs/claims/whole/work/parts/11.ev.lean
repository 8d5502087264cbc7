/-! ===== what may change without being seen ===== -/
def scr (c i : Nat) : Bool := (decide (c = 0) && !(decide (i = 3)) && !(decide (i = 5)) && !(decide (i = 7))) || (decide (6 ≤ c) && decide (c ≤ 11)) || decide (c = 15)
def Sm (σ τ : Me) : Prop := ∀ c i, scr c i = false → τ c i = σ c i
theorem Sm.rf (σ : Me) : Sm σ σ := fun _ _ _ => rfl
theorem Sm.tr {σ τ ρ : Me} (h : Sm σ τ) (h2 : Sm τ ρ) : Sm σ ρ := fun c i e => (h2 c i e).trans (h c i e)
theorem Sm.up {σ τ : Me} {c i : Nat} {v : Int32} (h : Sm σ τ) (hc : scr c i = true) : Sm σ (up τ c i v) := fun d j e => by
  rw [up_n ?_]
  · exact h d j e
  · by_cases h1 : d = c
    · right
      intro h2
      rw [h1, h2, hc] at e
      cases e
    · exact Or.inl h1
theorem Sm.row {σ τ : Me} (h : Sm σ τ) {c : Nat} (hc : ∀ i, scr c i = false) : τ c = σ c := funext fun i => h c i (hc i)
theorem Sm.r1 {σ τ : Me} (h : Sm σ τ) : τ 1 = σ 1 := h.row (fun _ => rfl)
theorem Sm.rm {σ τ : Me} {A : Al} (h : Sm σ τ) (hR : RM (σ 1) A) : RM (τ 1) A := by rw [h.r1]; exact hR
/-- only cell a changes -/
def Of (a : Nat) (σ τ : Me) : Prop := ∀ c i, c ≠ a → τ c i = σ c i
theorem Of.rf {a : Nat} (σ : Me) : Of a σ σ := fun _ _ _ => rfl
theorem Of.tr {a : Nat} {σ τ ρ : Me} (h : Of a σ τ) (h2 : Of a τ ρ) : Of a σ ρ := fun c i e => (h2 c i e).trans (h c i e)
theorem Of.up {a : Nat} {σ τ : Me} (h : Of a σ τ) {i : Nat} {v : Int32} : Of a σ (up τ a i v) := fun d j e => by
  rw [up_n (Or.inl e)]; exact h d j e
theorem Of.row {a c : Nat} {σ τ : Me} (h : Of a σ τ) (hc : c ≠ a) : τ c = σ c := funext fun i => h c i hc
theorem Of.sm {a : Nat} {σ τ : Me} (h : Of a σ τ) (ha : ∀ i, scr a i = true) : Sm σ τ := fun c i e => h c i (fun q => by rw [q, ha i] at e; cases e)
/-! ===== texts ===== -/
def tx (A : Al) (x : Nat) : Tx := (aX A).getD x (0, 0, [])
def oI (o : Option Nat) : Int32 := match o with
  | none => (-1)
  | some x => nI x
/-- the text that counts -/
def lst (A : Al) (key : Nat) : Nat → Option Nat
  | 0 => none
  | n + 1 => if (tx A n).1 = key then some n else lst A key n
theorem lst_lt {A : Al} {key : Nat} : ∀ {n x : Nat}, lst A key n = some x → x < n ∧ (tx A x).1 = key
  | 0, _, h => by cases h
  | n + 1, x, h => by
    unfold lst at h
    split at h
    · cases h; exact ⟨by omega, by assumption⟩
    · have := lst_lt h; exact ⟨by omega, this.2⟩
def doI (c : Nat) (a b : Int32) : Int32 :=
  if c = 20001 then (if a = 0 ∧ b = 0 then nI 0 else nI 1) else if c = 20002 then (if a = 0 ∨ b = 0 then nI 0 else nI 1) else if c = 20003 then (if a < b then nI 1 else nI 0) else if c = 20004 then (if a = b then nI 1 else nI 0) else if c = 20005 then (if b < a then nI 1 else nI 0)
  else if c = 20006 then a + b else if c = 20007 then a - b else if c = 20008 then a * b else if b = 0 then nI 0 else a / b
theorem div_m1 (a : Int32) : a / (-1) = -a := by
  apply Int32.toInt_inj.mp
  have h1 : (-1 : Int32).toInt = -1 := by decide
  rw [Int32.toInt_div, h1, Int32.toInt_neg]
  congr 1
  simp
def ev1 (f : Nat → Int32) (c : Nat) (st : List Int32) : List Int32 :=
  if c < 10000 then nI c :: st else if c < 20000 then f (c - 10000) :: st
  else if c = 20000 then (match st with | x :: r => (if x = 0 then nI 1 else nI 0) :: r | [] => [])
  else match st with | y :: x :: r => doI c x y :: r | r => r
def evs (f : Nat → Int32) : List Nat → List Int32 → List Int32
  | [], st => st
  | c :: r, st => evs f r (ev1 f c st)
def evV (f : Nat → Int32) (code : List Nat) : Int32 := (evs f code []).headD 0
/-- the pile behind the first k signs -/
def stk (f : Nat → Int32) (code : List Nat) (k : Nat) : List Int32 := evs f (code.take k) []
theorem evs_app (f : Nat → Int32) : ∀ (a b : List Nat) (st : List Int32), evs f (a ++ b) st = evs f b (evs f a st)
  | [], _, _ => rfl
  | c :: a, b, st => evs_app f a b (ev1 f c st)
theorem stk_0 (f : Nat → Int32) (code : List Nat) : stk f code 0 = [] := rfl
theorem stk_s (f : Nat → Int32) {code : List Nat} {k : Nat} (h : k < code.length) : stk f code (k + 1) = ev1 f (code.getD k 0) (stk f code k) := by
  unfold stk
  rw [List.take_succ, List.getElem?_eq_getElem h, evs_app]
  simp [evs, List.getD_eq_getElem?_getD, List.getElem?_eq_getElem h]
theorem stk_n (f : Nat → Int32) (code : List Nat) : stk f code code.length = evs f code [] := by
  unfold stk; rw [List.take_length]
theorem dpt_drop {code : List Nat} {k d e : Nat} (h : k < code.length) (hd : dpt d (code.drop k) = some e) : (code.getD k 0 < 20000 ∧ dpt (d + 1) (code.drop (k + 1)) = some e) ∨ (code.getD k 0 = 20000 ∧ 1 ≤ d ∧ dpt d (code.drop (k + 1)) = some e) ∨ (20000 < code.getD k 0 ∧ 2 ≤ d ∧ dpt (d - 1) (code.drop (k + 1)) = some e) := by
  rw [List.drop_eq_getElem_cons h] at hd
  rw [show code.getD k 0 = code[k] by simp [List.getD_eq_getElem?_getD, List.getElem?_eq_getElem h]]
  unfold dpt at hd
  split at hd
  · exact Or.inl ⟨by assumption, hd⟩
  · split at hd
    · split at hd
      · cases hd
      · exact Or.inr (Or.inl ⟨by assumption, by omega, hd⟩)
    · split at hd
      · cases hd
      · exact Or.inr (Or.inr ⟨by omega, by omega, hd⟩)
/-- the pile in a row of ints -/
def pil (P : Nat → Int32) (st : List Int32) : Prop := ∀ i, i < st.length → P i = st.getD (st.length - 1 - i) 0
theorem pil_nil (P : Nat → Int32) : pil P [] := fun _ h => absurd h (Nat.not_lt_zero _)
theorem pil_push {σ : Me} {c : Nat} {st : List Int32} {v : Int32} (h : pil (σ c) st) : pil (up σ c st.length v c) (v :: st) := by
  intro i hi
  by_cases e : i = st.length
  · subst e
    rw [up_s]; simp
  · have hi2 : i < st.length := by simp at hi; omega
    rw [up_n (Or.inr e), h i hi2]
    have : (v :: st).length - 1 - i = (st.length - 1 - i) + 1 := by simp; omega
    rw [this]; rfl
theorem pil_top {P : Nat → Int32} {x : Int32} {st : List Int32} (h : pil P (x :: st)) : P st.length = x := by
  have := h st.length (by simp)
  simpa using this
theorem pil_tail {P : Nat → Int32} {x : Int32} {st : List Int32} (h : pil P (x :: st)) : pil P st := by
  intro i hi
  rw [h i (by simp; omega)]
  have : (x :: st).length - 1 - i = (st.length - 1 - i) + 1 := by simp; omega
  rw [this]; rfl
theorem getD_mem {code : List Nat} {k : Nat} (h : k < code.length) : code.getD k 0 ∈ code := by
  simp [List.getD_eq_getElem?_getD, List.getElem?_eq_getElem h]
theorem okT_at {A : Al} (hV : Va A) {x : Nat} (hx : x < (aX A).length) : okT (tx A x) := by
  apply hV.2.2.2.2.2.2.2
  unfold tx
  simp [List.getD_eq_getElem?_getD, List.getElem?_eq_getElem hx]
theorem ev1_num {f : Nat → Int32} {c : Nat} {st : List Int32} (h : c < 10000) : ev1 f c st = nI c :: st := by rw [ev1.eq_def, if_pos h]
theorem ev1_let {f : Nat → Int32} {c : Nat} {st : List Int32} (h : 10000 ≤ c) (h2 : c < 20000) : ev1 f c st = f (c - 10000) :: st := by rw [ev1.eq_def, if_neg (by omega), if_pos h2]
theorem ev1_not {f : Nat → Int32} {c : Nat} {st : List Int32} (h : c = 20000) (hl : 1 ≤ st.length) : ev1 f c st = (if st.getD 0 0 = 0 then nI 1 else nI 0) :: st.tail := by
  rw [ev1.eq_def, if_neg (by omega), if_neg (by omega), if_pos h]
  cases st with
  | nil => simp at hl
  | cons x r => rfl
theorem ev1_op {f : Nat → Int32} {c : Nat} {st : List Int32} (h : 20000 < c) (hl : 2 ≤ st.length) : ev1 f c st = doI c (st.getD 1 0) (st.getD 0 0) :: st.drop 2 := by
  rw [ev1.eq_def, if_neg (by omega), if_neg (by omega), if_neg (by omega)]
  cases st with
  | nil => simp at hl
  | cons y r =>
    cases r with
    | nil => simp at hl
    | cons x r => rfl
theorem pil_top1 {P : Nat → Int32} {st : List Int32} (h : pil P st) (hl : 1 ≤ st.length) : P (st.length - 1) = st.getD 0 0 := by
  rw [h _ (by omega)]
  congr 1
  omega
theorem pil_top2 {P : Nat → Int32} {st : List Int32} (h : pil P st) (hl : 2 ≤ st.length) : P (st.length - 1 - 1) = st.getD 1 0 := by
  rw [h _ (by omega)]
  congr 1
  omega
theorem pil_set1 {σ : Me} {c : Nat} {st : List Int32} {v : Int32} (h : pil (σ c) st) (hl : 1 ≤ st.length) : pil (up σ c (st.length - 1) v c) (v :: st.tail) := by
  cases st with
  | nil => simp at hl
  | cons x r =>
    have := pil_push (σ := σ) (c := c) (v := v) (pil_tail h)
    simpa using this
theorem pil_set2 {σ : Me} {c : Nat} {st : List Int32} {v : Int32} (h : pil (σ c) st) (hl : 2 ≤ st.length) : pil (up σ c (st.length - 1 - 1) v c) (v :: st.drop 2) := by
  cases st with
  | nil => simp at hl
  | cons y r =>
    cases r with
    | nil => simp at hl
    | cons x r =>
      have := pil_push (σ := σ) (c := c) (v := v) (pil_tail (pil_tail h))
      simpa using this
theorem stk_dpt (f : Nat → Int32) {code : List Nat} (h : dpt 0 code = some 1) : ∀ k, k ≤ code.length → dpt (stk f code k).length (code.drop k) = some 1 ∧ (stk f code k).length ≤ k
  | 0, _ => ⟨h, Nat.le_refl 0⟩
  | k + 1, hk => by
    obtain ⟨h1, h2⟩ := stk_dpt f h k (by omega)
    rw [stk_s f (by omega)]
    rcases dpt_drop (by omega) h1 with ⟨q1, q2⟩ | ⟨q1, q2, q3⟩ | ⟨q1, q2, q3⟩
    · by_cases e : code.getD k 0 < 10000
      · rw [ev1_num e]; exact ⟨q2, by simp; omega⟩
      · rw [ev1_let (by omega) q1]; exact ⟨q2, by simp; omega⟩
    · rw [ev1_not q1 q2]
      have : ((if (stk f code k).getD 0 0 = 0 then nI 1 else nI 0) :: (stk f code k).tail).length = (stk f code k).length := by simp; omega
      rw [this]; exact ⟨q3, by omega⟩
    · rw [ev1_op q1 q2]
      have : (doI (code.getD k 0) ((stk f code k).getD 1 0) ((stk f code k).getD 0 0) :: (stk f code k).drop 2).length = (stk f code k).length - 1 := by simp; omega
      rw [this]; exact ⟨q3, by omega⟩
theorem stk_end (f : Nat → Int32) {code : List Nat} (h : dpt 0 code = some 1) : (stk f code code.length).length = 1 := by
  have h1 := (stk_dpt f h code.length (Nat.le_refl _)).1
  rw [List.drop_length] at h1
  unfold dpt at h1
  exact Option.some.inj h1
theorem evV_top {P f : Nat → Int32} {code : List Nat} (h : dpt 0 code = some 1) (hp : pil P (stk f code code.length)) : P 0 = evV f code := by
  have h1 := stk_end f h
  have h2 := pil_top1 hp (by omega)
  rw [h1] at h2
  rw [h2, stk_n]
  unfold evV
  cases evs f code [] <;> rfl
theorem code_lt {t : Tx} (h : okT t) {k : Nat} (hk : k < t.2.2.length) : t.2.2.getD k 0 < 10026 ∨ (20000 ≤ t.2.2.getD k 0 ∧ t.2.2.getD k 0 ≤ 20009) := by
  rcases h.2.2.2.2 _ (getD_mem hk) with h | ⟨h1, h2, h3⟩ | h
  · omega
  · have := ltr_lt h3; omega
  · omega
theorem evs_cong {f g : Nat → Int32} {p : Nat → Bool} (hp : ∀ i, p i = true → f i = g i) : ∀ (code : List Nat) (st : List Int32), (∀ c ∈ code, c < 10000 ∨ (10000 ≤ c ∧ c < 20000 ∧ p (c - 10000) = true) ∨ 20000 ≤ c) → evs f code st = evs g code st
  | [], _, _ => rfl
  | c :: r, st, h => by
    unfold evs
    have e : ev1 f c st = ev1 g c st := by
      rcases h c List.mem_cons_self with h1 | ⟨h1, h2, h3⟩ | h1
      · rw [ev1_num h1, ev1_num h1]
      · rw [ev1_let h1 h2, ev1_let h1 h2, hp _ h3]
      · have h4 : ¬ c < 10000 := by omega
        have h5 : ¬ c < 20000 := by omega
        simp only [ev1, h4, h5, if_false]
    rw [e]
    exact evs_cong hp r _ (fun c hc => h c (List.mem_cons_of_mem _ hc))
theorem evV_cong {f g : Nat → Int32} {t : Tx} (h : okT t) (hp : ∀ i, ltr t.1 i = true → f i = g i) : evV f t.2.2 = evV g t.2.2 := by
  unfold evV
  rw [evs_cong hp _ _ (fun c hc => (h.2.2.2.2 c hc).imp_right (fun q => q.imp_right (fun q => q.1)))]
/-! ===== facts, weights, signs ===== -/
def fW (A : Al) (w i : Nat) : Int32 := if i = 18 then nI (aF A w 4) else if i = 7 then nI (aF A w 3) else if i = 1 then nI (aE A (aF A w 2)) else if i = 2 then nI (cw A 2 (aF A w 2) (aW A)) else 0
def hdN (v : Int32) : Nat := if v < 0 then 0 else if nI 9 < v then 9 else v.toNatClampNeg
theorem hdN_le (v : Int32) : hdN v ≤ 9 := by
  unfold hdN
  split
  · omega
  · split
    · omega
    · rename_i h1 h2
      have : v.toInt ≤ 9 := by
        have h3 : ¬ (nI 9).toInt < v.toInt := fun h => h2 (Int32.lt_iff_toInt_lt.mpr h)
        rw [nI_toInt (by decide)] at h3
        omega
      show v.toInt.toNat ≤ 9
      omega
theorem hdI_9 (v : Int32) : hdI v (nI 9) = nI (hdN v) := by
  unfold hdI hdN
  split
  · rfl
  · split
    · rfl
    · rename_i h1 h2
      obtain ⟨j, hj, rfl⟩ := nI_of h1
      rw [nI_clamp hj]
def pwN (A : Al) (w : Nat) : Nat := match lst A 0 (aX A).length with
  | none => 2
  | some x => hdN (evV (fW A w) (tx A x).2.2)
def sgN (A : Al) (w : Nat) : Nat := match lst A 1 (aX A).length with
  | none => 0
  | some x => hdN (evV (fW A w) (tx A x).2.2)
theorem pwN_le (A : Al) (w : Nat) : pwN A w ≤ 9 := by
  unfold pwN
  split
  · omega
  · exact hdN_le _
theorem sgN_le (A : Al) (w : Nat) : sgN A w ≤ 9 := by
  unfold sgN
  split
  · omega
  · exact hdN_le _
def wkN (k p h : Nat) : Nat := match k with | 1 => p + 1 | 3 => (p + 1) / 2 | 2 => p - 1 | 4 => if h % 2 = 0 then p - 1 else 0 | 5 => 0 | _ => p
def wtN (A : Al) (w : Nat) : Nat := wkN (aF A w 0) (pwN A w) (aF A w 3)
theorem wtN_le (A : Al) (w : Nat) : wtN A w ≤ 10 := by
  have := pwN_le A w
  unfold wtN wkN
  split <;> (try split) <;> omega
theorem sayN_le {k q : Nat} (h1 : 1 ≤ q) (h5 : q ≤ 5) : sayN k q ≤ 100 := by
  unfold sayN
  split <;> omega
/-- the sum of g over the words of a thing, of the first n -/
def sm (A : Al) (t : Nat) (g : Nat → Nat) : Nat → Nat
  | 0 => 0
  | n + 1 => sm A t g n + if aF A n 1 = t then g n else 0
theorem sm_le {A : Al} {t b : Nat} {g : Nat → Nat} : ∀ {n : Nat}, (∀ w, w < n → g w ≤ b) → sm A t g n ≤ b * n
  | 0, _ => Nat.le_refl _
  | n + 1, h => by
    have h1 := sm_le (A := A) (t := t) (fun w hw => h w (Nat.lt_succ_of_lt hw))
    have h2 := h n (Nat.lt_succ_self n)
    unfold sm
    rw [Nat.mul_succ]
    split <;> omega
theorem ss_sm (A : Al) (t : Nat) : ∀ n, ss A 1 t n = sm A t (fun w => aF A w 4) n
  | 0 => rfl
  | n + 1 => by unfold ss sm; rw [ss_sm A t n]
theorem cw_sm (A : Al) (t : Nat) : ∀ n, cw A 1 t n = sm A t (fun _ => 1) n
  | 0 => rfl
  | n + 1 => by unfold cw sm; rw [cw_sm A t n]
theorem ss_le {A : Al} (hV : Va A) (t : Nat) : ss A 1 t (aW A) ≤ 120 := by
  rw [ss_sm]
  have := sm_le (A := A) (t := t) (b := 5) (n := aW A) (g := fun w => aF A w 4) (fun w hw => (hV.2.2.2.2.2.2.1 w hw).2.2.2.2.2)
  have := hV.2.2.1
  omega
theorem ss_cw {A : Al} (hV : Va A) (t : Nat) : ∀ n, n ≤ aW A → cw A 1 t n ≤ ss A 1 t n ∧ ss A 1 t n ≤ 5 * cw A 1 t n
  | 0, _ => ⟨Nat.le_refl _, Nat.le_refl _⟩
  | n + 1, h => by
    have h1 := ss_cw hV t n (by omega)
    have h2 := (hV.2.2.2.2.2.2.1 n (by omega)).2.2.2.2
    unfold cw ss
    split <;> omega
/-- MEAN; NONE: there are no words -/
def mn (A : Al) (t : Nat) : Nat := 100 * ss A 1 t (aW A) / cw A 1 t (aW A)
def mnI (A : Al) (t : Nat) : Int32 := if cw A 1 t (aW A) = 0 then (-1000000005) else nI (mn A t)
theorem mn_le {A : Al} (hV : Va A) (t : Nat) : mn A t ≤ 500 := by
  unfold mn
  have h := (ss_cw hV t (aW A) (Nat.le_refl _)).2
  by_cases e : cw A 1 t (aW A) = 0
  · rw [e]; simp
  · exact Nat.div_le_of_le_mul (by omega)
theorem up_row {σ : Me} {c i d : Nat} {v : Int32} (h : d ≠ c) : up σ c i v d = σ d := funext fun j => up_n (Or.inl h)
/-- facts and pile alone change -/
def Sw (σ τ : Me) : Prop := ∀ c i, c ≠ 9 → c ≠ 11 → τ c i = σ c i
theorem Sw.rf (σ : Me) : Sw σ σ := fun _ _ _ _ => rfl
theorem Sw.tr {σ τ ρ : Me} (h : Sw σ τ) (h2 : Sw τ ρ) : Sw σ ρ := fun c i e1 e2 => (h2 c i e1 e2).trans (h c i e1 e2)
theorem Sw.row {σ τ : Me} (h : Sw σ τ) {c : Nat} (h1 : c ≠ 9) (h2 : c ≠ 11) : τ c = σ c := funext fun i => h c i h1 h2
theorem Sw.rm {σ τ : Me} {A : Al} (h : Sw σ τ) (hR : RM (σ 1) A) : RM (τ 1) A := by rw [h.row (by decide) (by decide)]; exact hR
theorem Sw.sm {σ τ : Me} (h : Sw σ τ) : Sm σ τ := fun c i e => h c i (fun q => by rw [q] at e; simp [scr] at e) (fun q => by rw [q] at e; simp [scr] at e)
theorem Of.s9 {σ τ : Me} (h : Of 9 σ τ) : Sw σ τ := fun c i e1 _ => h c i e1
theorem Of.s11 {σ τ : Me} (h : Of 11 σ τ) : Sw σ τ := fun c i _ e2 => h c i e2
/-- the sums' fields, facts and pile alone change -/
def scu (c i : Nat) : Bool := (decide (c = 0) && decide (8 ≤ i) && decide (i ≤ 13)) || decide (c = 9) || decide (c = 11)
def Su (σ τ : Me) : Prop := ∀ c i, scu c i = false → τ c i = σ c i
theorem Su.rf (σ : Me) : Su σ σ := fun _ _ _ => rfl
theorem Su.tr {σ τ ρ : Me} (h : Su σ τ) (h2 : Su τ ρ) : Su σ ρ := fun c i e => (h2 c i e).trans (h c i e)
theorem Su.up {σ τ : Me} {c i : Nat} {v : Int32} (h : Su σ τ) (hc : scu c i = true) : Su σ (up τ c i v) := fun d j e => by
  rw [up_n ?_]
  · exact h d j e
  · by_cases h1 : d = c
    · right
      intro h2
      rw [h1, h2, hc] at e
      cases e
    · exact Or.inl h1
theorem Su.row {σ τ : Me} (h : Su σ τ) {c : Nat} (hc : ∀ i, scu c i = false) : τ c = σ c := funext fun i => h c i (hc i)
theorem Su.rm {σ τ : Me} {A : Al} (h : Su σ τ) (hR : RM (σ 1) A) : RM (τ 1) A := by rw [h.row (fun _ => rfl)]; exact hR
theorem Su.sm {σ τ : Me} (h : Su σ τ) : Sm σ τ := fun c i e => h c i (by
  cases q : scu c i with
  | false => rfl
  | true =>
    unfold scu at q
    unfold scr at e
    simp at q e
    rcases q with (⟨⟨q1, q2⟩, q3⟩ | q) | q
    · subst q1; simp at e; omega
    · subst q; simp at e
    · subst q; simp at e)
theorem Sw.su {σ τ : Me} (h : Sw σ τ) : Su σ τ := fun c i e => h c i (fun q => by rw [q] at e; simp [scu] at e) (fun q => by rw [q] at e; simp [scu] at e)
