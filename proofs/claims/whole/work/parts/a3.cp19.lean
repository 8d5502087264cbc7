/-! ===== the words of new ===== -/
theorem nb_L_7 : NB RL 7 8 := ⟨by decide, (inT_1 (List.mem_of_getElem? (i := 21) rfl) rfl), (inT_1 (List.mem_of_getElem? (i := 22) rfl) rfl), (inT_1 (List.mem_of_getElem? (i := 1) rfl) rfl)⟩
theorem nb_X9_7 : NB RX9 7 2 := ⟨by decide, (inT_1 (List.mem_of_getElem? (i := 29) rfl) rfl), (inT_1 (List.mem_of_getElem? (i := 30) rfl) rfl), (inT_1 (List.mem_of_getElem? (i := 2) rfl) rfl)⟩
theorem nb_X3_28 : NB RX3 28 7 := ⟨by decide, (inT_1 (List.mem_of_getElem? (i := 35) rfl) rfl), (inT_1 (List.mem_of_getElem? (i := 36) rfl) rfl), (inT_1 (List.mem_of_getElem? (i := 3) rfl) rfl)⟩
theorem nb_X3_38 : NB RX3 38 6 := ⟨by decide, (inT_1 (List.mem_of_getElem? (i := 73) rfl) rfl), (inT_4 (List.mem_of_getElem? (i := 83) rfl) rfl), (inT_1 (List.mem_of_getElem? (i := 11) rfl) rfl)⟩
theorem nb_X9_16 : NB RX9 16 0 := ⟨by decide, (inT_1 (List.mem_of_getElem? (i := 124) rfl) rfl), (inT_1 (List.mem_of_getElem? (i := 125) rfl) rfl), (inT_1 (List.mem_of_getElem? (i := 4) rfl) rfl)⟩
theorem nb_X9_23 : NB RX9 23 5 := ⟨by decide, (inT_1 (List.mem_of_getElem? (i := 134) rfl) rfl), (inT_1 (List.mem_of_getElem? (i := 135) rfl) rfl), (inT_1 (List.mem_of_getElem? (i := 5) rfl) rfl)⟩
theorem nb_X9_30 : NB RX9 30 1 := ⟨by decide, (inT_1 (List.mem_of_getElem? (i := 151) rfl) rfl), (inT_1 (List.mem_of_getElem? (i := 152) rfl) rfl), (inT_1 (List.mem_of_getElem? (i := 6) rfl) rfl)⟩
theorem nb_X9_39 : NB RX9 39 3 := ⟨by decide, (inT_1 (List.mem_of_getElem? (i := 186) rfl) rfl), (inT_1 (List.mem_of_getElem? (i := 190) rfl) rfl), (inT_1 (List.mem_of_getElem? (i := 7) rfl) rfl)⟩
theorem nb_X9_45 : NB RX9 45 4 := ⟨by decide, (inT_1 (List.mem_of_getElem? (i := 188) rfl) rfl), (inT_1 (List.mem_of_getElem? (i := 208) rfl) rfl), (inT_1 (List.mem_of_getElem? (i := 8) rfl) rfl)⟩
theorem nb_X2_52 : NB RX2 52 6 := ⟨by decide, (inT_4 (List.mem_of_getElem? (i := 82) rfl) rfl), (inT_4 (List.mem_of_getElem? (i := 83) rfl) rfl), (inT_1 (List.mem_of_getElem? (i := 11) rfl) rfl)⟩
theorem nb_X5_28 : NB RX5 28 3 := ⟨by decide, (inT_4 (List.mem_of_getElem? (i := 195) rfl) rfl), (inT_1 (List.mem_of_getElem? (i := 190) rfl) rfl), (inT_1 (List.mem_of_getElem? (i := 7) rfl) rfl)⟩
theorem nb_L_10 : NB RL 10 9 := ⟨by decide, (inT_5 (List.mem_of_getElem? (i := 9) rfl) rfl), (inT_5 (List.mem_of_getElem? (i := 10) rfl) rfl), (inT_1 (List.mem_of_getElem? (i := 9) rfl) rfl)⟩
theorem w_oi : Cond.instanceMethod Lib.objectInit ∈ TT ∧ Cond.code Lib.objectInit ⟨#[0xb1]⟩ 1 none ∈ TT := ⟨(inT_1 (List.mem_of_getElem? (i := 27) rfl) rfl), (inT_1 (List.mem_of_getElem? (i := 28) rfl) rfl)⟩
/-- only cells in p have changed, or are new -/
def LX (p : Nat → Prop) (L L' : La) : Prop := ∀ d, ¬ p d → L'.1 d = L.1 d ∧ L'.2.1 d = L.2.1 d ∧ ∀ j, L'.2.2 d j = L.2.2 d j
theorem LX.rf (p : Nat → Prop) (L : La) : LX p L L := fun _ _ => ⟨rfl, rfl, fun _ => rfl⟩
theorem LX.tr {p : Nat → Prop} {L L' L2 : La} (h : LX p L L') (h2 : LX p L' L2) : LX p L L2 := fun d hd => ⟨(h2 d hd).1.trans (h d hd).1, (h2 d hd).2.1.trans (h d hd).2.1, fun j => ((h2 d hd).2.2 j).trans ((h d hd).2.2 j)⟩
theorem LX.nw {p : Nat → Prop} {L L' L2 : La} {e k n : Nat} (h : LX p L L') (q : Nw L' L2 e k n) (hp : p e) : LX p L L2 := fun d hd => by
  have := q.1 d (fun z => hd (by rw [z]; exact hp))
  exact ⟨this.1.trans (h d hd).1, this.2.1.trans (h d hd).2.1, fun j => (this.2.2 j).trans ((h d hd).2.2 j)⟩
theorem LX.ut {p : Nat → Prop} {L L' : La} {c i : Nat} {v : Option Nat} (h : LX p L L') (hp : p c) : LX p L (ut L' c i v) := fun d hd => ⟨(h d hd).1, (h d hd).2.1, fun j => (ut_n (Or.inl (fun z => hd (by rw [z]; exact hp)))).trans ((h d hd).2.2 j)⟩
theorem LX.mono {p q : Nat → Prop} {L L' : La} (h : LX p L L') (hpq : ∀ d, p d → q d) : LX q L L' := fun d hd => h d (fun z => hd (hpq d z))
/-- void; the layout grows -/
def PN (p : La → Me → Prop) : Po := fun v L' σ' => v = none ∧ p L' σ'
theorem PN.mk {L : La} {σ : Me} {p : La → Me → Prop} (h : p L σ) : PN p none L σ := ⟨rfl, h⟩
def PNI (p : Int32 → La → Me → Prop) : Po := fun v L' σ' => ∃ r, v = some (.int r) ∧ p r L' σ'
theorem PNI.mk {L : La} {σ : Me} {r : Int32} {p : Int32 → La → Me → Prop} (h : p r L σ) : PNI p (some (.int r)) L σ := ⟨r, rfl, h⟩
