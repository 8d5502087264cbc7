/-! ===== the law: all calls in one form ===== -/
/-- what the launch gives -/
def LE (D : Ds) : Prop := NL D ∧ AO D ∧ (∃ ka, KS D ka) ∧ (∃ J, CW D J) ∧ ∃ K, MS D K

theorem k_thing {l : Launch} {D : Ds} {L : La} {σ : Me} {s : Sx} {N : Nat} (hE : LE D) (h : IC L σ s N) (a1 : Int32) : Ct l yX9_thing cX9_thing 2 (some .int) { frames := 1, cells := 0, slots := 0, locals := 22 } D L σ [.ref (L.1 100), .int a1] (PC L σ ((oThing s.1 a1).1) ((oThing s.1 a1).2, s.2)) := by
  obtain ⟨⟨hA, hWl, hLT, hTr, hSl, hNF⟩, hRC, hV, hIm, hP, hB, hWt, hSl2⟩ := id h
  exact (c_X9_thing hA σ s.1 hRC.1 hRC.2.1 hRC.2.2 hV a1).mono (PC.i (fun r τ q => ⟨q.1, N, h.cb q.2.1 (vo_thing hV a1) q.2.2⟩))

theorem k_thingTold {l : Launch} {D : Ds} {L : La} {σ : Me} {s : Sx} {N : Nat} (hE : LE D) (h : IC L σ s N) (a1 a2 : Int32) : Ct l yX9_thingTold cX9_thingTold 3 (some .int) { frames := 5, cells := 0, slots := 0, locals := 123 } D L σ [.ref (L.1 100), .int a1, .int a2] (PC L σ (oThingTold s.1 a1 a2) s) := by
  obtain ⟨⟨hA, hWl, hLT, hTr, hSl, hNF⟩, hRC, hV, hIm, hP, hB, hWt, hSl2⟩ := id h
  exact (c_X9_thingTold hA σ s.1 hRC.1 hRC.2.1 hRC.2.2 hV a1 a2).mono (PC.i (fun r τ q => ⟨q.1, N, h.cs q.2⟩))

theorem k_set {l : Launch} {D : Ds} {L : La} {σ : Me} {s : Sx} {N : Nat} (hE : LE D) (h : IC L σ s N) (a1 a2 a3 : Int32) : Ct l yX9_set cX9_set 6 (some .int) { frames := 2, cells := 0, slots := 0, locals := 43 } D L σ [.ref (L.1 100), .int a1, .int a2, .int a3] (PC L σ ((oSet s.1 a1 a2 a3).1) ((oSet s.1 a1 a2 a3).2, s.2)) := by
  obtain ⟨⟨hA, hWl, hLT, hTr, hSl, hNF⟩, hRC, hV, hIm, hP, hB, hWt, hSl2⟩ := id h
  exact (c_X9_set hA σ s.1 hRC.1 hRC.2.1 hRC.2.2 hV a1 a2 a3).mono (PC.i (fun r τ q => ⟨q.1, N, h.cb q.2.1 (vo_set hV a1 a2 a3) q.2.2⟩))

theorem k_name {l : Launch} {D : Ds} {L : La} {σ : Me} {s : Sx} {N : Nat} (hE : LE D) (h : IC L σ s N) (a1 : Int32) : Ct l yX9_name cX9_name 2 (some .int) { frames := 2, cells := 0, slots := 0, locals := 42 } D L σ [.ref (L.1 100), .int a1] (PC L σ ((oName s.1 a1).1) ((oName s.1 a1).2, s.2)) := by
  obtain ⟨⟨hA, hWl, hLT, hTr, hSl, hNF⟩, hRC, hV, hIm, hP, hB, hWt, hSl2⟩ := id h
  exact (c_X9_name hA σ s.1 hRC.1 hRC.2.1 hRC.2.2 hV a1).mono (PC.i (fun r τ q => ⟨q.1, N, h.cb q.2.1 (vo_name hV a1) q.2.2⟩))

theorem k_nameTold {l : Launch} {D : Ds} {L : La} {σ : Me} {s : Sx} {N : Nat} (hE : LE D) (h : IC L σ s N) (a1 a2 : Int32) : Ct l yX9_nameTold cX9_nameTold 3 (some .int) { frames := 1, cells := 0, slots := 0, locals := 23 } D L σ [.ref (L.1 100), .int a1, .int a2] (PC L σ ((oNameTold s.1 a1 a2)) s) := by
  obtain ⟨⟨hA, hWl, hLT, hTr, hSl, hNF⟩, hRC, hV, hIm, hP, hB, hWt, hSl2⟩ := id h
  exact (c_X9_nameTold hA σ s.1 hRC.1 hRC.2.1 hRC.2.2 hV a1 a2).mono (PC.f h)

theorem k_word {l : Launch} {D : Ds} {L : La} {σ : Me} {s : Sx} {N : Nat} (hE : LE D) (h : IC L σ s N) (a1 a2 a3 : Int32) : Ct l yX9_word cX9_word 4 (some .int) { frames := 3, cells := 0, slots := 0, locals := 62 } D L σ [.ref (L.1 100), .int a1, .int a2, .int a3] (PC L σ ((oWord s.1 a1 a2 a3).1) ((oWord s.1 a1 a2 a3).2, s.2)) := by
  obtain ⟨⟨hA, hWl, hLT, hTr, hSl, hNF⟩, hRC, hV, hIm, hP, hB, hWt, hSl2⟩ := id h
  exact (c_X9_word hA σ s.1 hRC.1 hRC.2.1 hRC.2.2 hV a1 a2 a3).mono (PC.i (fun r τ q => ⟨q.1, N, h.cb q.2.1 (vo_word hV a1 a2 a3) q.2.2⟩))

theorem k_told {l : Launch} {D : Ds} {L : La} {σ : Me} {s : Sx} {N : Nat} (hE : LE D) (h : IC L σ s N) (a1 a2 : Int32) : Ct l yX9_told cX9_told 4 (some .int) { frames := 3, cells := 0, slots := 0, locals := 74 } D L σ [.ref (L.1 100), .int a1, .int a2] (PC L σ (oTold s.1 a1 a2) s) := by
  obtain ⟨⟨hA, hWl, hLT, hTr, hSl, hNF⟩, hRC, hV, hIm, hP, hB, hWt, hSl2⟩ := id h
  obtain ⟨ka, hK⟩ := hE.2.2.1
  exact (c_X9_told ka hK hA σ s.1 hRC.1 hRC.2.1 hRC.2.2 hV a1 a2).mono (PC.i (fun r τ q => ⟨q.1, N, h.cs q.2⟩))

theorem k_as {l : Launch} {D : Ds} {L : La} {σ : Me} {s : Sx} {N : Nat} (hE : LE D) (h : IC L σ s N) (a1 a2 : Int32) : Ct l yX9_as cX9_as 3 (some .int) { frames := 2, cells := 0, slots := 0, locals := 43 } D L σ [.ref (L.1 100), .int a1, .int a2] (PC L σ ((oAs s.1 a1 a2)) s) := by
  obtain ⟨⟨hA, hWl, hLT, hTr, hSl, hNF⟩, hRC, hV, hIm, hP, hB, hWt, hSl2⟩ := id h
  obtain ⟨ka, hK⟩ := hE.2.2.1
  exact (c_X9_as ka hK hA σ s.1 hRC.1 hRC.2.1 hRC.2.2 hV a1 a2).mono (PC.f h)

theorem k_turns {l : Launch} {D : Ds} {L : La} {σ : Me} {s : Sx} {N : Nat} (hE : LE D) (h : IC L σ s N) (a1 a2 : Int32) : Ct l yX9_turns cX9_turns 4 (some .int) { frames := 2, cells := 0, slots := 0, locals := 43 } D L σ [.ref (L.1 100), .int a1, .int a2] (PC L σ ((oTurns s.1 a1 a2).1) ((oTurns s.1 a1 a2).2, s.2)) := by
  obtain ⟨⟨hA, hWl, hLT, hTr, hSl, hNF⟩, hRC, hV, hIm, hP, hB, hWt, hSl2⟩ := id h
  exact (c_X9_turns hA σ s.1 hRC.1 hRC.2.1 hRC.2.2 hV a1 a2).mono (PC.i (fun r τ q => ⟨q.1, N, h.cb q.2.1 (vo_turns hV a1 a2) q.2.2⟩))

theorem k_star {l : Launch} {D : Ds} {L : La} {σ : Me} {s : Sx} {N : Nat} (hE : LE D) (h : IC L σ s N) (a1 a2 : Int32) : Ct l yX9_star cX9_star 4 (some .int) { frames := 2, cells := 0, slots := 0, locals := 43 } D L σ [.ref (L.1 100), .int a1, .int a2] (PC L σ ((oStar s.1 a1 a2).1) ((oStar s.1 a1 a2).2, s.2)) := by
  obtain ⟨⟨hA, hWl, hLT, hTr, hSl, hNF⟩, hRC, hV, hIm, hP, hB, hWt, hSl2⟩ := id h
  exact (c_X9_star hA σ s.1 hRC.1 hRC.2.1 hRC.2.2 hV a1 a2).mono (PC.i (fun r τ q => ⟨q.1, N, h.cb q.2.1 (vo_star hV a1 a2) q.2.2⟩))

theorem k_drop {l : Launch} {D : Ds} {L : La} {σ : Me} {s : Sx} {N : Nat} (hE : LE D) (h : IC L σ s N) (a1 : Int32) : Ct l yX9_drop cX9_drop 2 (some .int) { frames := 2, cells := 0, slots := 0, locals := 44 } D L σ [.ref (L.1 100), .int a1] (PC L σ ((oDrop s.1 a1).1) ((oDrop s.1 a1).2, s.2)) := by
  obtain ⟨⟨hA, hWl, hLT, hTr, hSl, hNF⟩, hRC, hV, hIm, hP, hB, hWt, hSl2⟩ := id h
  exact (c_X9_drop hA σ s.1 hRC.1 hRC.2.1 hRC.2.2 hV a1).mono (PC.i (fun r τ q => ⟨q.1, N, h.cb q.2.1 (vo_drop hV a1) q.2.2⟩))

theorem k_mean {l : Launch} {D : Ds} {L : La} {σ : Me} {s : Sx} {N : Nat} (hE : LE D) (h : IC L σ s N) (a1 a2 : Int32) : Ct l yX9_mean cX9_mean 3 (some .int) { frames := 4, cells := 0, slots := 0, locals := 100 } D L σ [.ref (L.1 100), .int a1, .int a2] (PC L σ (oMean s.1 a1 a2) s) := by
  obtain ⟨⟨hA, hWl, hLT, hTr, hSl, hNF⟩, hRC, hV, hIm, hP, hB, hWt, hSl2⟩ := id h
  exact (c_X9_mean hA σ s.1 hRC.1 hRC.2.1 hRC.2.2 hV a1 a2).mono (PC.i (fun r τ q => ⟨q.1, N, h.cs q.2⟩))

theorem k_shelf {l : Launch} {D : Ds} {L : La} {σ : Me} {s : Sx} {N : Nat} (hE : LE D) (h : IC L σ s N) (a1 : Int32) : Ct l yX9_shelf cX9_shelf 2 (some .int) { frames := 5, cells := 0, slots := 0, locals := 123 } D L σ [.ref (L.1 100), .int a1] (PC L σ (oShelf s.1 a1) s) := by
  obtain ⟨⟨hA, hWl, hLT, hTr, hSl, hNF⟩, hRC, hV, hIm, hP, hB, hWt, hSl2⟩ := id h
  exact (c_X9_shelf hA σ s.1 hRC.1 hRC.2.1 hRC.2.2 hV a1).mono (PC.i (fun r τ q => ⟨q.1, N, h.cs q.2⟩))

theorem k_alike {l : Launch} {D : Ds} {L : La} {σ : Me} {s : Sx} {N : Nat} (hE : LE D) (h : IC L σ s N) (a1 a2 a3 : Int32) : Ct l yX9_alike cX9_alike 5 (some .int) { frames := 3, cells := 0, slots := 0, locals := 70 } D L σ [.ref (L.1 100), .int a1, .int a2, .int a3] (PC L σ ((oAlike s.1 a1 a2 a3)) s) := by
  obtain ⟨⟨hA, hWl, hLT, hTr, hSl, hNF⟩, hRC, hV, hIm, hP, hB, hWt, hSl2⟩ := id h
  exact (c_X9_alike hA σ s.1 hRC.1 hRC.2.1 hRC.2.2 hV a1 a2 a3).mono (PC.f h)

theorem k_group {l : Launch} {D : Ds} {L : La} {σ : Me} {s : Sx} {N : Nat} (hE : LE D) (h : IC L σ s N) (a1 a2 : Int32) : Ct l yX9_group cX9_group 3 (some .int) { frames := 5, cells := 0, slots := 0, locals := 120 } D L σ [.ref (L.1 100), .int a1, .int a2] (PC L σ (oGroup s.1 a1 a2) s) := by
  obtain ⟨⟨hA, hWl, hLT, hTr, hSl, hNF⟩, hRC, hV, hIm, hP, hB, hWt, hSl2⟩ := id h
  exact (c_X9_group hA σ s.1 hRC.1 hRC.2.1 hRC.2.2 hV a1 a2).mono (PC.i (fun r τ q => ⟨q.1, N, h.cs q.2⟩))

theorem k_wave {l : Launch} {D : Ds} {L : La} {σ : Me} {s : Sx} {N : Nat} (hE : LE D) (h : IC L σ s N) (a1 a2 : Int32) : Ct l yX9_wave cX9_wave 4 (some .int) { frames := 2, cells := 0, slots := 0, locals := 50 } D L σ [.ref (L.1 100), .int a1, .int a2] (PC L σ ((oWave s.1 a1 a2)) s) := by
  obtain ⟨⟨hA, hWl, hLT, hTr, hSl, hNF⟩, hRC, hV, hIm, hP, hB, hWt, hSl2⟩ := id h
  exact (c_X9_wave hA σ s.1 hRC.1 hRC.2.1 hRC.2.2 hV a1 a2).mono (PC.f h)

theorem k_changed {l : Launch} {D : Ds} {L : La} {σ : Me} {s : Sx} {N : Nat} (hE : LE D) (h : IC L σ s N) (a1 a2 : Int32) : Ct l yX9_changed cX9_changed 4 (some .int) { frames := 3, cells := 0, slots := 0, locals := 73 } D L σ [.ref (L.1 100), .int a1, .int a2] (PC L σ ((oChanged s.1 a1 a2)) s) := by
  obtain ⟨⟨hA, hWl, hLT, hTr, hSl, hNF⟩, hRC, hV, hIm, hP, hB, hWt, hSl2⟩ := id h
  exact (c_X9_changed hA σ s.1 hRC.1 hRC.2.1 hRC.2.2 hV a1 a2).mono (PC.f h)

theorem k_off {l : Launch} {D : Ds} {L : La} {σ : Me} {s : Sx} {N : Nat} (hE : LE D) (h : IC L σ s N) (a1 a2 : Int32) : Ct l yX9_off cX9_off 3 (some .int) { frames := 4, cells := 0, slots := 0, locals := 94 } D L σ [.ref (L.1 100), .int a1, .int a2] (PC L σ (oOff s.1 a1 a2) s) := by
  obtain ⟨⟨hA, hWl, hLT, hTr, hSl, hNF⟩, hRC, hV, hIm, hP, hB, hWt, hSl2⟩ := id h
  obtain ⟨ka, hK⟩ := hE.2.2.1
  exact (c_X9_off ka hK hA σ s.1 hRC.1 hRC.2.1 hRC.2.2 hV a1 a2).mono (PC.i (fun r τ q => ⟨q.1, N, h.cs q.2⟩))

theorem k_bound {l : Launch} {D : Ds} {L : La} {σ : Me} {s : Sx} {N : Nat} (hE : LE D) (h : IC L σ s N) (a1 : Int32) : Ct l yX9_bound cX9_bound 3 (some .int) { frames := 5, cells := 0, slots := 0, locals := 110 } D L σ [.ref (L.1 100), .int a1] (PC L σ (oBound s.1 a1) s) := by
  obtain ⟨⟨hA, hWl, hLT, hTr, hSl, hNF⟩, hRC, hV, hIm, hP, hB, hWt, hSl2⟩ := id h
  obtain ⟨ka, hK⟩ := hE.2.2.1
  exact (c_X9_bound ka hK hA σ s.1 hRC.1 hRC.2.1 hRC.2.2 hV a1).mono (PC.i (fun r τ q => ⟨q.1, N, h.cs q.2⟩))

theorem k_clean {l : Launch} {D : Ds} {L : La} {σ : Me} {s : Sx} {N : Nat} (hE : LE D) (h : IC L σ s N) (a1 : Int32) : Ct l yX9_clean cX9_clean 2 (some .int) { frames := 4, cells := 0, slots := 0, locals := 94 } D L σ [.ref (L.1 100), .int a1] (PC L σ ((oClean s.1 a1).1) ((oClean s.1 a1).2, s.2)) := by
  obtain ⟨⟨hA, hWl, hLT, hTr, hSl, hNF⟩, hRC, hV, hIm, hP, hB, hWt, hSl2⟩ := id h
  exact (c_X9_clean hA σ s.1 hRC.1 hRC.2.1 hRC.2.2 hV a1).mono (PC.i (fun r τ q => ⟨q.1, N, h.cb q.2.1 (vo_clean hV a1) q.2.2⟩))

theorem k_buy {l : Launch} {D : Ds} {L : La} {σ : Me} {s : Sx} {N : Nat} (hE : LE D) (h : IC L σ s N) (a1 a2 : Int32) : Ct l yX9_buy cX9_buy 5 (some .int) { frames := 6, cells := 0, slots := 0, locals := 149 } D L σ [.ref (L.1 100), .int a1, .int a2] (PC L σ ((oBuy s.1 a1 a2).1) ((oBuy s.1 a1 a2).2, s.2)) := by
  obtain ⟨⟨hA, hWl, hLT, hTr, hSl, hNF⟩, hRC, hV, hIm, hP, hB, hWt, hSl2⟩ := id h
  exact (c_X9_buy hA σ s.1 hRC.1 hRC.2.1 hRC.2.2 hV a1 a2).mono (PC.i (fun r τ q => ⟨q.1, N, h.cb q.2.1 (vo_buy hV a1 a2) q.2.2⟩))

theorem k_job {l : Launch} {D : Ds} {L : La} {σ : Me} {s : Sx} {N : Nat} (hE : LE D) (h : IC L σ s N) (a1 a2 a3 a4 : Int32) : Ct l yX9_job cX9_job 7 (some .int) { frames := 2, cells := 0, slots := 0, locals := 43 } D L σ [.ref (L.1 100), .int a1, .int a2, .int a3, .int a4] (PC L σ ((oJob s.1 a1 a2 a3 a4).1) ((oJob s.1 a1 a2 a3 a4).2, s.2)) := by
  obtain ⟨⟨hA, hWl, hLT, hTr, hSl, hNF⟩, hRC, hV, hIm, hP, hB, hWt, hSl2⟩ := id h
  exact (c_X9_job hA σ s.1 hRC.1 hRC.2.1 hRC.2.2 hV a1 a2 a3 a4).mono (PC.i (fun r τ q => ⟨q.1, N, h.cb q.2.1 (vo_job hV a1 a2 a3 a4) q.2.2⟩))

theorem k_seed {l : Launch} {D : Ds} {L : La} {σ : Me} {s : Sx} {N : Nat} (hE : LE D) (h : IC L σ s N) (a1 : Int32) : Ct l yX9_seed cX9_seed 3 (some .int) { frames := 0, cells := 0, slots := 0, locals := 0 } D L σ [.ref (L.1 100), .int a1] (PC L σ ((oSeed s.1 a1).1) ((oSeed s.1 a1).2, s.2)) := by
  obtain ⟨⟨hA, hWl, hLT, hTr, hSl, hNF⟩, hRC, hV, hIm, hP, hB, hWt, hSl2⟩ := id h
  exact (c_X9_seed hA σ s.1 hRC.1 hRC.2.1 hRC.2.2 hV a1).mono (PC.i (fun r τ q => ⟨q.1, N, h.cb q.2.1 (vo_seed hV a1) q.2.2⟩))

theorem k_feed {l : Launch} {D : Ds} {L : La} {σ : Me} {s : Sx} {N : Nat} (hE : LE D) (h : IC L σ s N) (a1 a2 a3 : Int32) : Ct l yX9_feed cX9_feed 4 (some .int) { frames := 1, cells := 0, slots := 0, locals := 22 } D L σ [.ref (L.1 100), .int a1, .int a2, .int a3] (PC L σ ((oFeed s.2.2.1 a1 a2 a3).1) (s.1, s.2.1, (oFeed s.2.2.1 a1 a2 a3).2, s.2.2.2)) := by
  obtain ⟨⟨hA, hWl, hLT, hTr, hSl, hNF⟩, hRC, hV, hIm, hP, hB, hWt, hSl2⟩ := id h
  exact (c_X9_feed hA σ s.2.2.1 hP a1 a2 a3).mono (PC.i (fun r τ q => ⟨q.1, N, h.tp q.2.1 q.2.2⟩))

theorem k_trim {l : Launch} {D : Ds} {L : La} {σ : Me} {s : Sx} {N : Nat} (hE : LE D) (h : IC L σ s N) (a1 : Int32) : Ct l yX9_trim cX9_trim 2 (some .int) { frames := 1, cells := 0, slots := 0, locals := 22 } D L σ [.ref (L.1 100), .int a1] (PC L σ ((oTrim s.2.2.1 a1).1) (s.1, s.2.1, (oTrim s.2.2.1 a1).2, s.2.2.2)) := by
  obtain ⟨⟨hA, hWl, hLT, hTr, hSl, hNF⟩, hRC, hV, hIm, hP, hB, hWt, hSl2⟩ := id h
  exact (c_X9_trim hA σ s.2.2.1 hP a1).mono (PC.i (fun r τ q => ⟨q.1, N, h.tp q.2.1 q.2.2⟩))

theorem k_text {l : Launch} {D : Ds} {L : La} {σ : Me} {s : Sx} {N : Nat} (hE : LE D) (h : IC L σ s N) : Ct l yX9_text cX9_text 2 (some .int) { frames := 153, cells := 3, slots := 196, locals := 3870 } D L σ [.ref (L.1 100)] (PC L σ ((oText s.1 s.2.2.1).1) ((oText s.1 s.2.2.1).2, s.2.1, (0, s.2.2.1.2), s.2.2.2)) := by
  obtain ⟨⟨hA, hWl, hLT, hTr, hSl, hNF⟩, hRC, hV, hIm, hP, hB, hWt, hSl2⟩ := id h
  obtain ⟨J, hJ⟩ := hE.2.2.2.1
  exact (c_X9_text J hJ hA σ s.1 hRC.1 hRC.2.1 hRC.2.2 hV hWl hLT N hNF s.2.2.1 hP).mono (PC.n (fun r L2 τ q => ⟨q.1, N + 3, h.text q.2.1 (vo_text hV hP) q.2.2⟩))

theorem k_textTold {l : Launch} {D : Ds} {L : La} {σ : Me} {s : Sx} {N : Nat} (hE : LE D) (h : IC L σ s N) (a1 a2 : Int32) : Ct l yX9_textTold cX9_textTold 4 (some .int) { frames := 1, cells := 0, slots := 0, locals := 22 } D L σ [.ref (L.1 100), .int a1, .int a2] (PC L σ ((oTextTold s.1 a1 a2)) s) := by
  obtain ⟨⟨hA, hWl, hLT, hTr, hSl, hNF⟩, hRC, hV, hIm, hP, hB, hWt, hSl2⟩ := id h
  exact (c_X9_textTold hA σ s.1 hRC.1 hRC.2.1 hRC.2.2 hV a1 a2).mono (PC.f h)

theorem k_why {l : Launch} {D : Ds} {L : La} {σ : Me} {s : Sx} {N : Nat} (hE : LE D) (h : IC L σ s N) (a1 : Int32) : Ct l yX9_why cX9_why 2 (some .int) { frames := 1, cells := 0, slots := 0, locals := 22 } D L σ [.ref (L.1 100), .int a1] (PC L σ ((oWhy s.1 a1)) s) := by
  obtain ⟨⟨hA, hWl, hLT, hTr, hSl, hNF⟩, hRC, hV, hIm, hP, hB, hWt, hSl2⟩ := id h
  exact (c_X9_why hA σ s.1 hRC.1 hRC.2.1 hRC.2.2 hV a1).mono (PC.f h)

theorem k_sheet {l : Launch} {D : Ds} {L : La} {σ : Me} {s : Sx} {N : Nat} (hE : LE D) (h : IC L σ s N) (a1 a2 a3 : Int32) : Ct l yX9_sheet cX9_sheet 5 (some .int) { frames := 2, cells := 0, slots := 0, locals := 45 } D L σ [.ref (L.1 100), .int a1, .int a2, .int a3] (PC L σ ((oSheet s.2.2.2.1 a1 a2 a3).1) (s.1, s.2.1, s.2.2.1, (oSheet s.2.2.2.1 a1 a2 a3).2, s.2.2.2.2)) := by
  obtain ⟨⟨hA, hWl, hLT, hTr, hSl, hNF⟩, hRC, hV, hIm, hP, hB, hWt, hSl2⟩ := id h
  exact (c_X9_sheet hA σ s.2.2.2.1 hB a1 a2 a3).mono (PC.i (fun r τ q => ⟨q.1, N, h.sh q.2.1 q.2.2⟩))

theorem k_mark {l : Launch} {D : Ds} {L : La} {σ : Me} {s : Sx} {N : Nat} (hE : LE D) (h : IC L σ s N) (a1 a2 a3 : Int32) : Ct l yX9_mark cX9_mark 5 (some .int) { frames := 2, cells := 0, slots := 0, locals := 43 } D L σ [.ref (L.1 100), .int a1, .int a2, .int a3] (PC L σ ((oMark s.2.2.2.1 a1 a2 a3).1) (s.1, s.2.1, s.2.2.1, (oMark s.2.2.2.1 a1 a2 a3).2, s.2.2.2.2)) := by
  obtain ⟨⟨hA, hWl, hLT, hTr, hSl, hNF⟩, hRC, hV, hIm, hP, hB, hWt, hSl2⟩ := id h
  exact (c_X9_mark hE.1 hA σ s.2.2.2.1 hB a1 a2 a3).mono (PC.i (fun r τ q => ⟨q.1, N, h.sh q.2.1 q.2.2⟩))

theorem k_pour {l : Launch} {D : Ds} {L : La} {σ : Me} {s : Sx} {N : Nat} (hE : LE D) (h : IC L σ s N) (a1 a2 : Int32) : Ct l yX9_pour cX9_pour 6 (some .int) { frames := 4, cells := 0, slots := 0, locals := 83 } D L σ [.ref (L.1 100), .int a1, .int a2] (PC L σ ((oPour s.1 s.2.2.2.1 a1 a2).1) ((oPour s.1 s.2.2.2.1 a1 a2).2, s.2)) := by
  obtain ⟨⟨hA, hWl, hLT, hTr, hSl, hNF⟩, hRC, hV, hIm, hP, hB, hWt, hSl2⟩ := id h
  exact (c_X9_pour hA σ s.1 hRC.1 hRC.2.1 hRC.2.2 hV s.2.2.2.1 hB a1 a2).mono (PC.i (fun r τ q => ⟨q.1, N, h.cb q.2.1 (vo_pour hV a1 a2) q.2.2⟩))

theorem k_reads {l : Launch} {D : Ds} {L : La} {σ : Me} {s : Sx} {N : Nat} (hE : LE D) (h : IC L σ s N) (a1 : Int32) : Ct l yX9_reads cX9_reads 5 (some .int) { frames := 3, cells := 0, slots := 0, locals := 66 } D L σ [.ref (L.1 100), .int a1] (PC L σ ((oReads s.1 s.2.2.2.1 a1)) s) := by
  obtain ⟨⟨hA, hWl, hLT, hTr, hSl, hNF⟩, hRC, hV, hIm, hP, hB, hWt, hSl2⟩ := id h
  exact (c_X9_reads hA σ s.1 hRC.1 hRC.2.1 hRC.2.2 hV s.2.2.2.1 hB a1).mono (PC.f h)

theorem k_copy {l : Launch} {D : Ds} {L : La} {σ : Me} {s : Sx} {N : Nat} (hE : LE D) (h : IC L σ s N) (a1 a2 a3 a4 a5 : Int32) : Ct l yX9_copy cX9_copy 8 (some .int) { frames := 2, cells := 0, slots := 0, locals := 44 } D L σ [.ref (L.1 100), .int a1, .int a2, .int a3, .int a4, .int a5] (PC L σ ((oCopy s.2.2.2.1 a1 a2 a3 a4 a5).1) (s.1, s.2.1, s.2.2.1, (oCopy s.2.2.2.1 a1 a2 a3 a4 a5).2, s.2.2.2.2)) := by
  obtain ⟨⟨hA, hWl, hLT, hTr, hSl, hNF⟩, hRC, hV, hIm, hP, hB, hWt, hSl2⟩ := id h
  exact (c_X9_copy hE.1 hA σ s.2.2.2.1 hB a1 a2 a3 a4 a5).mono (PC.i (fun r τ q => ⟨q.1, N, h.sh q.2.1 q.2.2⟩))

theorem k_lay {l : Launch} {D : Ds} {L : La} {σ : Me} {s : Sx} {N : Nat} (hE : LE D) (h : IC L σ s N) (a1 a2 a3 : Int32) : Ct l yX9_lay cX9_lay 6 (some .int) { frames := 3, cells := 2, slots := 27, locals := 81 } D L σ [.ref (L.1 100), .int a1, .int a2, .int a3] (PC L σ ((oLay s.1 s.2.2.2.1 s.2.2.2.2.2 a1 a2 a3).1) (s.1, s.2.1, s.2.2.1, s.2.2.2.1, s.2.2.2.2.1, (oLay s.1 s.2.2.2.1 s.2.2.2.2.2 a1 a2 a3).2)) := by
  obtain ⟨⟨hA, hWl, hLT, hTr, hSl, hNF⟩, hRC, hV, hIm, hP, hB, hWt, hSl2⟩ := id h
  exact (c_X9_lay hE.1 hA σ s.1 hRC.1 hRC.2.1 hRC.2.2 hV hWl s.2.2.2.1 hB s.2.2.2.2.2 hSl2 hSl a1 a2 a3).mono (PC.n (fun r L2 τ q => ⟨q.1, N, h.lay q.2.1 q.2.2⟩))

theorem k_ask {l : Launch} {D : Ds} {L : La} {σ : Me} {s : Sx} {N : Nat} (hE : LE D) (h : IC L σ s N) (a1 a2 : Int32) : Ct l yX9_ask cX9_ask 4 (some .int) { frames := 2, cells := 0, slots := 0, locals := 42 } D L σ [.ref (L.1 100), .int a1, .int a2] (PC L σ ((oAsk s.2.2.2.2.2 a1 a2)) s) := by
  obtain ⟨⟨hA, hWl, hLT, hTr, hSl, hNF⟩, hRC, hV, hIm, hP, hB, hWt, hSl2⟩ := id h
  obtain ⟨ka, hK⟩ := hE.2.2.1
  exact (c_X9_ask ka hK hA σ s.2.2.2.2.2 hSl2 a1 a2).mono (PC.f h)

theorem k_item {l : Launch} {D : Ds} {L : La} {σ : Me} {s : Sx} {N : Nat} (hE : LE D) (h : IC L σ s N) (a1 a2 : Int32) : Ct l yX9_item cX9_item 5 (some .int) { frames := 2, cells := 0, slots := 0, locals := 43 } D L σ [.ref (L.1 100), .int a1, .int a2] (PC L σ ((oItem s.2.2.2.2.2 a1 a2)) s) := by
  obtain ⟨⟨hA, hWl, hLT, hTr, hSl, hNF⟩, hRC, hV, hIm, hP, hB, hWt, hSl2⟩ := id h
  exact (c_X9_item hE.1 hA σ s.2.2.2.2.2 hSl2 a1 a2).mono (PC.f h)

theorem k_rest {l : Launch} {D : Ds} {L : La} {σ : Me} {s : Sx} {N : Nat} (hE : LE D) (h : IC L σ s N) (a1 a2 : Int32) : Ct l yX9_rest cX9_rest 4 (some .int) { frames := 2, cells := 0, slots := 0, locals := 42 } D L σ [.ref (L.1 100), .int a1, .int a2] (PC L σ ((oRest s.2.2.2.2.2 a1 a2)) s) := by
  obtain ⟨⟨hA, hWl, hLT, hTr, hSl, hNF⟩, hRC, hV, hIm, hP, hB, hWt, hSl2⟩ := id h
  exact (c_X9_rest hA σ s.2.2.2.2.2 hSl2 a1 a2).mono (PC.f h)

theorem k_tell {l : Launch} {D : Ds} {L : La} {σ : Me} {s : Sx} {N : Nat} (hE : LE D) (h : IC L σ s N) (a1 : Int32) : Ct l yX9_tell cX9_tell 2 (some .int) { frames := 0, cells := 0, slots := 0, locals := 0 } D L σ [.ref (L.1 100), .int a1] (PC L σ ((oTell s.2.2.2.2.1 a1).1) (s.1, s.2.1, s.2.2.1, s.2.2.2.1, (oTell s.2.2.2.2.1 a1).2, s.2.2.2.2.2)) := by
  obtain ⟨⟨hA, hWl, hLT, hTr, hSl, hNF⟩, hRC, hV, hIm, hP, hB, hWt, hSl2⟩ := id h
  exact (c_X9_tell hA σ s.2.2.2.2.1 hWt a1).mono (PC.i (fun r τ q => ⟨q.1, N, h.wt q.2.1 q.2.2⟩))

theorem k_checkN {l : Launch} {D : Ds} {L : La} {σ : Me} {s : Sx} {N : Nat} (hE : LE D) (h : IC L σ s N) (hK : s.2.1 = none) (a1 a2 : Int32) : Ct l yX9_check cX9_check 7 (some .int) { frames := 2, cells := 0, slots := 0, locals := 42 } D L σ [.ref (L.1 100), .int a1, .int a2] (PC L σ (oCheck s.2.2.2.2.1 s.2.1 a1 a2) (s.1, s.2.1, s.2.2.1, s.2.2.2.1, (0, s.2.2.2.2.1.2), s.2.2.2.2.2)) := by
  obtain ⟨⟨hA, hWl, hLT, hTr, hSl, hNF⟩, hRC, hV, hIm, hP, hB, hWt, hSl2⟩ := id h
  exact (c_X9_checkN hA hWl hTr σ s.2.2.2.2.1 hWt (by rw [hK] at hIm; exact hIm.1) a1 a2).mono (by rw [hK]; exact PC.n (fun r L2 τ q => ⟨q.1, N, by rw [← hK]; exact h.check q.2⟩))

theorem k_check0 {l : Launch} {D : Ds} {L : La} {σ : Me} {s : Sx} {N : Nat} (hE : LE D) (h : IC L σ s N) {B : Al} (hK : s.2.1 = some B) (hT : L.2.2 100 9 = none ∧ ∀ i, i < 14 → L.2.1 (240 + i) = none) (a1 a2 : Int32) : Ct l yX9_check cX9_check 7 (some .int) { frames := 6, cells := 14, slots := 275, locals := 149 } D L σ [.ref (L.1 100), .int a1, .int a2] (PC L σ (oCheck s.2.2.2.2.1 s.2.1 a1 a2) (s.1, s.2.1, s.2.2.1, s.2.2.2.1, (0, s.2.2.2.2.1.2), s.2.2.2.2.2)) := by
  obtain ⟨⟨hA, hWl, hLT, hTr, hSl, hNF⟩, hRC, hV, hIm, hP, hB, hWt, hSl2⟩ := id h
  exact (c_X9_check0 hE.1 hE.2.1 hA hWl hTr σ s.2.2.2.2.1 hWt B (by rw [hK] at hIm; exact hIm.1) (by rw [hK] at hIm; exact hIm.2.1) (by rw [hK] at hIm; exact hIm.2.2.1.1) (by rw [hK] at hIm; exact hIm.2.2.1.2.1) (by rw [hK] at hIm; exact hIm.2.2.1.2.2) (by rw [hK] at hIm; exact hIm.2.2.2.2) (by rw [hK] at hIm; exact hIm.2.2.2.1) a1 a2 hT.1 hT.2).mono (by rw [hK]; exact PC.n (fun r L2 τ q => ⟨q.1, N, by rw [← hK]; exact h.check q.2⟩))

theorem k_check1 {l : Launch} {D : Ds} {L : La} {σ : Me} {s : Sx} {N : Nat} (hE : LE D) (h : IC L σ s N) {B : Al} (hK : s.2.1 = some B) (hT : L.2.2 100 9 = some 240 ∧ RAt L 240) (a1 a2 : Int32) : Ct l yX9_check cX9_check 7 (some .int) { frames := 6, cells := 0, slots := 0, locals := 149 } D L σ [.ref (L.1 100), .int a1, .int a2] (PC L σ (oCheck s.2.2.2.2.1 s.2.1 a1 a2) (s.1, s.2.1, s.2.2.1, s.2.2.2.1, (0, s.2.2.2.2.1.2), s.2.2.2.2.2)) := by
  obtain ⟨⟨hA, hWl, hLT, hTr, hSl, hNF⟩, hRC, hV, hIm, hP, hB, hWt, hSl2⟩ := id h
  exact (c_X9_check1 hA hWl hTr σ s.2.2.2.2.1 hWt B (by rw [hK] at hIm; exact hIm.1) (by rw [hK] at hIm; exact hIm.2.1) (by rw [hK] at hIm; exact hIm.2.2.1.1) (by rw [hK] at hIm; exact hIm.2.2.1.2.1) (by rw [hK] at hIm; exact hIm.2.2.1.2.2) (by rw [hK] at hIm; exact hIm.2.2.2.2) (by rw [hK] at hIm; exact hIm.2.2.2.1) a1 a2 hT.1 hT.2).mono (by rw [hK]; exact PC.n (fun r L2 τ q => ⟨q.1, N, by rw [← hK]; exact h.check q.2⟩))

theorem k_keep0 {l : Launch} {D : Ds} {L : La} {σ : Me} {s : Sx} {N : Nat} (hE : LE D) (h : IC L σ s N) (hK : s.2.1 = none) : Ct l yX9_keep cX9_keep 1 (some .int) { frames := 3, cells := 14, slots := 275, locals := 74 } D L σ [.ref (L.1 100)] (PC L σ (nI (aW s.1)) (s.1, some s.1, s.2.2)) := by
  obtain ⟨⟨hA, hWl, hLT, hTr, hSl, hNF⟩, hRC, hV, hIm, hP, hB, hWt, hSl2⟩ := id h
  exact (c_X9_keep0 hE.1 hE.2.1 hA hWl σ s.1 hRC.1 hRC.2.1 hRC.2.2 hV hLT (by rw [hK] at hIm; exact hIm.1) (by rw [hK] at hIm; exact hIm.2)).mono (PC.n (fun r L2 τ q => ⟨q.1, N, h.keep q.2⟩))

theorem k_keep1 {l : Launch} {D : Ds} {L : La} {σ : Me} {s : Sx} {N : Nat} (hE : LE D) (h : IC L σ s N) {B : Al} (hK : s.2.1 = some B) : Ct l yX9_keep cX9_keep 1 (some .int) { frames := 3, cells := 0, slots := 0, locals := 74 } D L σ [.ref (L.1 100)] (PC L σ (nI (aW s.1)) (s.1, some s.1, s.2.2)) := by
  obtain ⟨⟨hA, hWl, hLT, hTr, hSl, hNF⟩, hRC, hV, hIm, hP, hB, hWt, hSl2⟩ := id h
  exact (c_X9_keep1 hA hWl σ s.1 hRC.1 hRC.2.1 hRC.2.2 hV hLT (by rw [hK] at hIm; exact hIm.1) (by rw [hK] at hIm; exact hIm.2.1)).mono (PC.n (fun r L2 τ q => ⟨q.1, N, h.keep q.2⟩))

theorem k_back0 {l : Launch} {D : Ds} {L : La} {σ : Me} {s : Sx} {N : Nat} (hE : LE D) (h : IC L σ s N) (hK : s.2.1 = none) : Ct l yX9_back cX9_back 1 (some .int) { frames := 0, cells := 0, slots := 0, locals := 0 } D L σ [.ref (L.1 100)] (PC L σ (oBack s.2.1) (oBackA s.1 s.2.1, s.2)) := by
  obtain ⟨⟨hA, hWl, hLT, hTr, hSl, hNF⟩, hRC, hV, hIm, hP, hB, hWt, hSl2⟩ := id h
  exact (c_X9_back0 hA (by rw [hK] at hIm; exact hIm.1) σ).mono (by rw [hK]; exact PC.f h)

theorem k_back1 {l : Launch} {D : Ds} {L : La} {σ : Me} {s : Sx} {N : Nat} (hE : LE D) (h : IC L σ s N) {B : Al} (hK : s.2.1 = some B) : Ct l yX9_back cX9_back 1 (some .int) { frames := 3, cells := 0, slots := 0, locals := 74 } D L σ [.ref (L.1 100)] (PC L σ (oBack s.2.1) (oBackA s.1 s.2.1, s.2)) := by
  obtain ⟨⟨hA, hWl, hLT, hTr, hSl, hNF⟩, hRC, hV, hIm, hP, hB, hWt, hSl2⟩ := id h
  exact (c_X9_back1 hA hWl (by rw [hK] at hIm; exact hIm.1) (by rw [hK] at hIm; exact hIm.2.1) σ B (by rw [hK] at hIm; exact hIm.2.2.1.1) (by rw [hK] at hIm; exact hIm.2.2.1.2.1) (by rw [hK] at hIm; exact hIm.2.2.1.2.2) (by rw [hK] at hIm; exact hIm.2.2.2.2) (by rw [hK] at hIm; exact hIm.2.2.2.1)).mono (by rw [hK]; exact PC.n (fun r L2 τ q => ⟨q.1, N, h.back hK q.2⟩))

theorem k_count {l : Launch} {D : Ds} {L : La} {σ : Me} {s : Sx} {N : Nat} (hE : LE D) (h : IC L σ s N) (a1 : Int32) : Ct l yX9_count cX9_count 2 (some .int) { frames := 3, cells := 0, slots := 0, locals := 65 } D L σ [.ref (L.1 100), .int a1] (PC L σ ((oCount s.1 s.2.2.1 s.2.2.2.2.1 a1)) s) := by
  obtain ⟨⟨hA, hWl, hLT, hTr, hSl, hNF⟩, hRC, hV, hIm, hP, hB, hWt, hSl2⟩ := id h
  obtain ⟨ka, hK⟩ := hE.2.2.1
  exact (c_X9_count ka hK hA σ s.1 hRC.1 hRC.2.1 hRC.2.2 hV s.2.2.1 hP s.2.2.2.2.1 hWt a1).mono (PC.f h)

theorem j_thing {l : Launch} {D : Ds} {L : La} {σ : Me} {s : Sx} (hE : LE D) (hV : Va s.1) (h : IR L σ s) (a1 : Int32) : Ct l yX10_thing cX10_thing 3 (some .int) { frames := 1, cells := 0, slots := 0, locals := 22 } D L σ [.ref (L.1 0), .int a1] (PRf L σ ((oThing s.1 a1).1) ((oThing s.1 a1).2, s.2)) := by
  obtain ⟨hM, hR, hKo, hP, hB, hWt, hSl2⟩ := id h
  exact (c_X10_thing hM σ s.1 hR hV a1).mono (PRf.i (fun r τ q => ⟨q.1, h.s1 q.2.1 q.2.2⟩))

theorem j_thingTold {l : Launch} {D : Ds} {L : La} {σ : Me} {s : Sx} (hE : LE D) (hV : Va s.1) (h : IR L σ s) (a1 a2 : Int32) : Ct l yX10_thingTold cX10_thingTold 3 (some .int) { frames := 9, cells := 0, slots := 0, locals := 201 } D L σ [.ref (L.1 0), .int a1, .int a2] (PRf L σ (oThingTold s.1 a1 a2) s) := by
  obtain ⟨hM, hR, hKo, hP, hB, hWt, hSl2⟩ := id h
  exact (c_X10_thingTold hM σ s.1 hR hV a1 a2).mono (PRf.i (fun r τ q => ⟨q.1, h.sm q.2⟩))

theorem j_set {l : Launch} {D : Ds} {L : La} {σ : Me} {s : Sx} (hE : LE D) (hV : Va s.1) (h : IR L σ s) (a1 a2 a3 : Int32) : Ct l yX10_set cX10_set 5 (some .int) { frames := 2, cells := 0, slots := 0, locals := 43 } D L σ [.ref (L.1 0), .int a1, .int a2, .int a3] (PRf L σ ((oSet s.1 a1 a2 a3).1) ((oSet s.1 a1 a2 a3).2, s.2)) := by
  obtain ⟨hM, hR, hKo, hP, hB, hWt, hSl2⟩ := id h
  exact (c_X10_set hM σ s.1 hR hV a1 a2 a3).mono (PRf.i (fun r τ q => ⟨q.1, h.s1 q.2.1 q.2.2⟩))

theorem j_name {l : Launch} {D : Ds} {L : La} {σ : Me} {s : Sx} (hE : LE D) (hV : Va s.1) (h : IR L σ s) (a1 : Int32) : Ct l yX10_name cX10_name 3 (some .int) { frames := 1, cells := 0, slots := 0, locals := 22 } D L σ [.ref (L.1 0), .int a1] (PRf L σ ((oName s.1 a1).1) ((oName s.1 a1).2, s.2)) := by
  obtain ⟨hM, hR, hKo, hP, hB, hWt, hSl2⟩ := id h
  exact (c_X10_name hM σ s.1 hR hV a1).mono (PRf.i (fun r τ q => ⟨q.1, h.s1 q.2.1 q.2.2⟩))

theorem j_nameTold {l : Launch} {D : Ds} {L : La} {σ : Me} {s : Sx} (hE : LE D) (hV : Va s.1) (h : IR L σ s) (a1 a2 : Int32) : Ct l yX10_nameTold cX10_nameTold 6 (some .int) { frames := 2, cells := 0, slots := 0, locals := 46 } D L σ [.ref (L.1 0), .int a1, .int a2] (PRf L σ ((oNameTold s.1 a1 a2)) s) := by
  obtain ⟨hM, hR, hKo, hP, hB, hWt, hSl2⟩ := id h
  exact (c_X10_nameTold hM σ s.1 hR hV a1 a2).mono (PRf.i (fun r τ q => ⟨q.1, h.sm q.2⟩))

theorem j_word {l : Launch} {D : Ds} {L : La} {σ : Me} {s : Sx} (hE : LE D) (hV : Va s.1) (h : IR L σ s) (a1 a2 a3 : Int32) : Ct l yX10_word cX10_word 4 (some .int) { frames := 3, cells := 0, slots := 0, locals := 64 } D L σ [.ref (L.1 0), .int a1, .int a2, .int a3] (PRf L σ ((oWord s.1 a1 a2 a3).1) ((oWord s.1 a1 a2 a3).2, s.2)) := by
  obtain ⟨hM, hR, hKo, hP, hB, hWt, hSl2⟩ := id h
  exact (c_X10_word hM σ s.1 hR hV a1 a2 a3).mono (PRf.i (fun r τ q => ⟨q.1, h.s1 q.2.1 q.2.2⟩))

theorem j_told {l : Launch} {D : Ds} {L : La} {σ : Me} {s : Sx} (hE : LE D) (hV : Va s.1) (h : IR L σ s) (a1 a2 : Int32) : Ct l yX10_told cX10_told 3 (some .int) { frames := 5, cells := 0, slots := 0, locals := 111 } D L σ [.ref (L.1 0), .int a1, .int a2] (PRf L σ (oTold s.1 a1 a2) s) := by
  obtain ⟨hM, hR, hKo, hP, hB, hWt, hSl2⟩ := id h
  exact (c_X10_told hM σ s.1 hR hV a1 a2).mono (PRf.i (fun r τ q => ⟨q.1, h.sm q.2⟩))

theorem j_as {l : Launch} {D : Ds} {L : La} {σ : Me} {s : Sx} (hE : LE D) (hV : Va s.1) (h : IR L σ s) (a1 a2 : Int32) : Ct l yX10_as cX10_as 3 (some .int) { frames := 2, cells := 0, slots := 0, locals := 43 } D L σ [.ref (L.1 0), .int a1, .int a2] (PRf L σ ((oAs s.1 a1 a2)) s) := by
  obtain ⟨hM, hR, hKo, hP, hB, hWt, hSl2⟩ := id h
  exact (c_X10_as hM σ s.1 hR hV a1 a2).mono (PRf.f h)

theorem j_turns {l : Launch} {D : Ds} {L : La} {σ : Me} {s : Sx} (hE : LE D) (hV : Va s.1) (h : IR L σ s) (a1 a2 : Int32) : Ct l yX10_turns cX10_turns 3 (some .int) { frames := 2, cells := 0, slots := 0, locals := 46 } D L σ [.ref (L.1 0), .int a1, .int a2] (PRf L σ ((oTurns s.1 a1 a2).1) ((oTurns s.1 a1 a2).2, s.2)) := by
  obtain ⟨hM, hR, hKo, hP, hB, hWt, hSl2⟩ := id h
  exact (c_X10_turns hM σ s.1 hR hV a1 a2).mono (PRf.i (fun r τ q => ⟨q.1, h.s1 q.2.1 q.2.2⟩))

theorem j_star {l : Launch} {D : Ds} {L : La} {σ : Me} {s : Sx} (hE : LE D) (hV : Va s.1) (h : IR L σ s) (a1 a2 : Int32) : Ct l yX10_star cX10_star 3 (some .int) { frames := 2, cells := 0, slots := 0, locals := 46 } D L σ [.ref (L.1 0), .int a1, .int a2] (PRf L σ ((oStar s.1 a1 a2).1) ((oStar s.1 a1 a2).2, s.2)) := by
  obtain ⟨hM, hR, hKo, hP, hB, hWt, hSl2⟩ := id h
  exact (c_X10_star hM σ s.1 hR hV a1 a2).mono (PRf.i (fun r τ q => ⟨q.1, h.s1 q.2.1 q.2.2⟩))

theorem j_drop {l : Launch} {D : Ds} {L : La} {σ : Me} {s : Sx} (hE : LE D) (hV : Va s.1) (h : IR L σ s) (a1 : Int32) : Ct l yX10_drop cX10_drop 2 (some .int) { frames := 2, cells := 0, slots := 0, locals := 43 } D L σ [.ref (L.1 0), .int a1] (PRf L σ ((oDrop s.1 a1).1) ((oDrop s.1 a1).2, s.2)) := by
  obtain ⟨hM, hR, hKo, hP, hB, hWt, hSl2⟩ := id h
  exact (c_X10_drop hM σ s.1 hR hV a1).mono (PRf.i (fun r τ q => ⟨q.1, h.s1 q.2.1 q.2.2⟩))

theorem j_mean {l : Launch} {D : Ds} {L : La} {σ : Me} {s : Sx} (hE : LE D) (hV : Va s.1) (h : IR L σ s) (a1 a2 : Int32) : Ct l yX10_mean cX10_mean 3 (some .int) { frames := 6, cells := 0, slots := 0, locals := 135 } D L σ [.ref (L.1 0), .int a1, .int a2] (PRf L σ (oMean s.1 a1 a2) s) := by
  obtain ⟨hM, hR, hKo, hP, hB, hWt, hSl2⟩ := id h
  exact (c_X10_mean hM σ s.1 hR hV a1 a2).mono (PRf.i (fun r τ q => ⟨q.1, h.sm q.2⟩))

theorem j_shelf {l : Launch} {D : Ds} {L : La} {σ : Me} {s : Sx} (hE : LE D) (hV : Va s.1) (h : IR L σ s) (a1 : Int32) : Ct l yX10_shelf cX10_shelf 2 (some .int) { frames := 9, cells := 0, slots := 0, locals := 203 } D L σ [.ref (L.1 0), .int a1] (PRf L σ (oShelf s.1 a1) s) := by
  obtain ⟨hM, hR, hKo, hP, hB, hWt, hSl2⟩ := id h
  exact (c_X10_shelf hM σ s.1 hR hV a1).mono (PRf.i (fun r τ q => ⟨q.1, h.sm q.2⟩))

theorem j_alike {l : Launch} {D : Ds} {L : La} {σ : Me} {s : Sx} (hE : LE D) (hV : Va s.1) (h : IR L σ s) (a1 a2 a3 : Int32) : Ct l yX10_alike cX10_alike 4 (some .int) { frames := 3, cells := 0, slots := 0, locals := 74 } D L σ [.ref (L.1 0), .int a1, .int a2, .int a3] (PRf L σ ((oAlike s.1 a1 a2 a3)) s) := by
  obtain ⟨hM, hR, hKo, hP, hB, hWt, hSl2⟩ := id h
  exact (c_X10_alike hM σ s.1 hR hV a1 a2 a3).mono (PRf.f h)

theorem j_group {l : Launch} {D : Ds} {L : La} {σ : Me} {s : Sx} (hE : LE D) (hV : Va s.1) (h : IR L σ s) (a1 a2 : Int32) : Ct l yX10_group cX10_group 7 (some .int) { frames := 3, cells := 0, slots := 0, locals := 74 } D L σ [.ref (L.1 0), .int a1, .int a2] (PRf L σ (oGroup s.1 a1 a2) s) := by
  obtain ⟨hM, hR, hKo, hP, hB, hWt, hSl2⟩ := id h
  exact (c_X10_group hM σ s.1 hR hV a1 a2).mono (PRf.i (fun r τ q => ⟨q.1, h.sm q.2⟩))

theorem j_wave {l : Launch} {D : Ds} {L : La} {σ : Me} {s : Sx} (hE : LE D) (hV : Va s.1) (h : IR L σ s) (a1 a2 : Int32) : Ct l yX10_wave cX10_wave 5 (some .int) { frames := 2, cells := 0, slots := 0, locals := 46 } D L σ [.ref (L.1 0), .int a1, .int a2] (PRf L σ ((oWave s.1 a1 a2)) s) := by
  obtain ⟨hM, hR, hKo, hP, hB, hWt, hSl2⟩ := id h
  exact (c_X10_wave hM σ s.1 hR hV a1 a2).mono (PRf.f h)

theorem j_changed {l : Launch} {D : Ds} {L : La} {σ : Me} {s : Sx} (hE : LE D) (hV : Va s.1) (h : IR L σ s) (a1 a2 : Int32) : Ct l yX10_changed cX10_changed 8 (some .int) { frames := 3, cells := 0, slots := 0, locals := 72 } D L σ [.ref (L.1 0), .int a1, .int a2] (PRf L σ ((oChanged s.1 a1 a2)) s) := by
  obtain ⟨hM, hR, hKo, hP, hB, hWt, hSl2⟩ := id h
  exact (c_X10_changed hM σ s.1 hR hV a1 a2).mono (PRf.f h)

theorem j_off {l : Launch} {D : Ds} {L : La} {σ : Me} {s : Sx} (hE : LE D) (hV : Va s.1) (h : IR L σ s) (a1 a2 : Int32) : Ct l yX10_off cX10_off 3 (some .int) { frames := 5, cells := 0, slots := 0, locals := 113 } D L σ [.ref (L.1 0), .int a1, .int a2] (PRf L σ (oOff s.1 a1 a2) s) := by
  obtain ⟨hM, hR, hKo, hP, hB, hWt, hSl2⟩ := id h
  exact (c_X10_off hM σ s.1 hR hV a1 a2).mono (PRf.i (fun r τ q => ⟨q.1, h.sm q.2⟩))

theorem j_bound {l : Launch} {D : Ds} {L : La} {σ : Me} {s : Sx} (hE : LE D) (hV : Va s.1) (h : IR L σ s) (a1 : Int32) : Ct l yX10_bound cX10_bound 6 (some .int) { frames := 5, cells := 0, slots := 0, locals := 113 } D L σ [.ref (L.1 0), .int a1] (PRf L σ (oBound s.1 a1) s) := by
  obtain ⟨hM, hR, hKo, hP, hB, hWt, hSl2⟩ := id h
  exact (c_X10_bound hM σ s.1 hR hV a1).mono (PRf.i (fun r τ q => ⟨q.1, h.sm q.2⟩))

theorem j_clean {l : Launch} {D : Ds} {L : La} {σ : Me} {s : Sx} (hE : LE D) (hV : Va s.1) (h : IR L σ s) (a1 : Int32) : Ct l yX10_clean cX10_clean 4 (some .int) { frames := 4, cells := 0, slots := 0, locals := 89 } D L σ [.ref (L.1 0), .int a1] (PRf L σ ((oClean s.1 a1).1) ((oClean s.1 a1).2, s.2)) := by
  obtain ⟨hM, hR, hKo, hP, hB, hWt, hSl2⟩ := id h
  exact (c_X10_clean hM σ s.1 hR hV a1).mono (PRf.i (fun r τ q => ⟨q.1, h.s1 q.2.1 q.2.2⟩))

theorem j_buy {l : Launch} {D : Ds} {L : La} {σ : Me} {s : Sx} (hE : LE D) (hV : Va s.1) (h : IR L σ s) (a1 a2 : Int32) : Ct l yX10_buy cX10_buy 5 (some .int) { frames := 10, cells := 0, slots := 0, locals := 227 } D L σ [.ref (L.1 0), .int a1, .int a2] (PRf L σ ((oBuy s.1 a1 a2).1) ((oBuy s.1 a1 a2).2, s.2)) := by
  obtain ⟨hM, hR, hKo, hP, hB, hWt, hSl2⟩ := id h
  exact (c_X10_buy hM σ s.1 hR hV a1 a2).mono (PRf.i (fun r τ q => ⟨q.1, h.s1 q.2.1 q.2.2⟩))

theorem j_job {l : Launch} {D : Ds} {L : La} {σ : Me} {s : Sx} (hE : LE D) (hV : Va s.1) (h : IR L σ s) (a1 a2 a3 a4 : Int32) : Ct l yX10_job cX10_job 7 (some .int) { frames := 2, cells := 0, slots := 0, locals := 43 } D L σ [.ref (L.1 0), .int a1, .int a2, .int a3, .int a4] (PRf L σ ((oJob s.1 a1 a2 a3 a4).1) ((oJob s.1 a1 a2 a3 a4).2, s.2)) := by
  obtain ⟨hM, hR, hKo, hP, hB, hWt, hSl2⟩ := id h
  exact (c_X10_job hM σ s.1 hR hV a1 a2 a3 a4).mono (PRf.i (fun r τ q => ⟨q.1, h.s1 q.2.1 q.2.2⟩))

theorem j_seed {l : Launch} {D : Ds} {L : La} {σ : Me} {s : Sx} (hE : LE D) (hV : Va s.1) (h : IR L σ s) (a1 : Int32) : Ct l yX10_seed cX10_seed 3 (some .int) { frames := 0, cells := 0, slots := 0, locals := 0 } D L σ [.ref (L.1 0), .int a1] (PRf L σ ((oSeed s.1 a1).1) ((oSeed s.1 a1).2, s.2)) := by
  obtain ⟨hM, hR, hKo, hP, hB, hWt, hSl2⟩ := id h
  exact (c_X10_seed hM σ s.1 hR hV a1).mono (PRf.i (fun r τ q => ⟨q.1, h.s1 q.2.1 q.2.2⟩))

theorem j_feed {l : Launch} {D : Ds} {L : La} {σ : Me} {s : Sx} (hE : LE D) (hV : Va s.1) (h : IR L σ s) (a1 a2 a3 : Int32) : Ct l yX10_feed cX10_feed 6 (some .int) { frames := 0, cells := 0, slots := 0, locals := 0 } D L σ [.ref (L.1 0), .int a1, .int a2, .int a3] (PRf L σ ((oFeed s.2.2.1 a1 a2 a3).1) (s.1, s.2.1, (oFeed s.2.2.1 a1 a2 a3).2, s.2.2.2)) := by
  obtain ⟨hM, hR, hKo, hP, hB, hWt, hSl2⟩ := id h
  exact (c_X10_feed hM σ s.2.2.1 hP a1 a2 a3).mono (PRf.i (fun r τ q => ⟨q.1, h.tp q.2.1 q.2.2⟩))

theorem j_trim {l : Launch} {D : Ds} {L : La} {σ : Me} {s : Sx} (hE : LE D) (hV : Va s.1) (h : IR L σ s) (a1 : Int32) : Ct l yX10_trim cX10_trim 2 (some .int) { frames := 1, cells := 0, slots := 0, locals := 22 } D L σ [.ref (L.1 0), .int a1] (PRf L σ ((oTrim s.2.2.1 a1).1) (s.1, s.2.1, (oTrim s.2.2.1 a1).2, s.2.2.2)) := by
  obtain ⟨hM, hR, hKo, hP, hB, hWt, hSl2⟩ := id h
  exact (c_X10_trim hM σ s.2.2.1 hP a1).mono (PRf.i (fun r τ q => ⟨q.1, h.tp q.2.1 q.2.2⟩))

theorem j_text {l : Launch} {D : Ds} {L : La} {σ : Me} {s : Sx} (hE : LE D) (hV : Va s.1) (h : IR L σ s) : Ct l yX10_text cX10_text 4 (some .int) { frames := 81, cells := 0, slots := 0, locals := 2420 } D L σ [.ref (L.1 0)] (PRf L σ ((oText s.1 s.2.2.1).1) ((oText s.1 s.2.2.1).2, s.2.1, (0, s.2.2.1.2), s.2.2.2)) := by
  obtain ⟨hM, hR, hKo, hP, hB, hWt, hSl2⟩ := id h
  obtain ⟨K, hMS⟩ := hE.2.2.2.2
  exact (c_X10_text hM σ s.1 hR hV s.2.2.1 hP K hMS).mono (PRf.i (fun r τ q => ⟨q.1, h.text q.2.1.1 q.2.1.2 q.2.2⟩))

theorem j_textTold {l : Launch} {D : Ds} {L : La} {σ : Me} {s : Sx} (hE : LE D) (hV : Va s.1) (h : IR L σ s) (a1 a2 : Int32) : Ct l yX10_textTold cX10_textTold 3 (some .int) { frames := 1, cells := 0, slots := 0, locals := 22 } D L σ [.ref (L.1 0), .int a1, .int a2] (PRf L σ ((oTextTold s.1 a1 a2)) s) := by
  obtain ⟨hM, hR, hKo, hP, hB, hWt, hSl2⟩ := id h
  exact (c_X10_textTold hM σ s.1 hR hV a1 a2).mono (PRf.f h)

theorem j_why {l : Launch} {D : Ds} {L : La} {σ : Me} {s : Sx} (hE : LE D) (hV : Va s.1) (h : IR L σ s) (a1 : Int32) : Ct l yX10_why cX10_why 3 (some .int) { frames := 1, cells := 0, slots := 0, locals := 23 } D L σ [.ref (L.1 0), .int a1] (PRf L σ ((oWhy s.1 a1)) s) := by
  obtain ⟨hM, hR, hKo, hP, hB, hWt, hSl2⟩ := id h
  exact (c_X10_why hM σ s.1 hR hV a1).mono (PRf.f h)

theorem j_sheet {l : Launch} {D : Ds} {L : La} {σ : Me} {s : Sx} (hE : LE D) (hV : Va s.1) (h : IR L σ s) (a1 a2 a3 : Int32) : Ct l yX10_sheet cX10_sheet 5 (some .int) { frames := 2, cells := 0, slots := 0, locals := 42 } D L σ [.ref (L.1 0), .int a1, .int a2, .int a3] (PRf L σ ((oSheet s.2.2.2.1 a1 a2 a3).1) (s.1, s.2.1, s.2.2.1, (oSheet s.2.2.2.1 a1 a2 a3).2, s.2.2.2.2)) := by
  obtain ⟨hM, hR, hKo, hP, hB, hWt, hSl2⟩ := id h
  exact (c_X10_sheet hM σ s.2.2.2.1 hB a1 a2 a3).mono (PRf.i (fun r τ q => ⟨q.1, h.sh q.2.1 q.2.2⟩))

theorem j_mark {l : Launch} {D : Ds} {L : La} {σ : Me} {s : Sx} (hE : LE D) (hV : Va s.1) (h : IR L σ s) (a1 a2 a3 : Int32) : Ct l yX10_mark cX10_mark 4 (some .int) { frames := 2, cells := 0, slots := 0, locals := 42 } D L σ [.ref (L.1 0), .int a1, .int a2, .int a3] (PRf L σ ((oMark s.2.2.2.1 a1 a2 a3).1) (s.1, s.2.1, s.2.2.1, (oMark s.2.2.2.1 a1 a2 a3).2, s.2.2.2.2)) := by
  obtain ⟨hM, hR, hKo, hP, hB, hWt, hSl2⟩ := id h
  exact (c_X10_mark hM σ s.2.2.2.1 hB a1 a2 a3).mono (PRf.i (fun r τ q => ⟨q.1, h.sh q.2.1 q.2.2⟩))

theorem j_pour {l : Launch} {D : Ds} {L : La} {σ : Me} {s : Sx} (hE : LE D) (hV : Va s.1) (h : IR L σ s) (a1 a2 : Int32) : Ct l yX10_pour cX10_pour 6 (some .int) { frames := 3, cells := 0, slots := 0, locals := 64 } D L σ [.ref (L.1 0), .int a1, .int a2] (PRf L σ ((oPour s.1 s.2.2.2.1 a1 a2).1) ((oPour s.1 s.2.2.2.1 a1 a2).2, s.2)) := by
  obtain ⟨hM, hR, hKo, hP, hB, hWt, hSl2⟩ := id h
  exact (c_X10_pour hM σ s.1 hR hV s.2.2.2.1 hB a1 a2).mono (PRf.i (fun r τ q => ⟨q.1, h.s1 q.2.1 q.2.2⟩))

theorem j_reads {l : Launch} {D : Ds} {L : La} {σ : Me} {s : Sx} (hE : LE D) (hV : Va s.1) (h : IR L σ s) (a1 : Int32) : Ct l yX10_reads_ cX10_reads_ 6 (some .int) { frames := 3, cells := 0, slots := 0, locals := 68 } D L σ [.ref (L.1 0), .int a1] (PRf L σ ((oReads s.1 s.2.2.2.1 a1)) s) := by
  obtain ⟨hM, hR, hKo, hP, hB, hWt, hSl2⟩ := id h
  exact (c_X10_reads_ hM σ s.1 hR hV s.2.2.2.1 hB a1).mono (PRf.f h)

theorem j_copy {l : Launch} {D : Ds} {L : La} {σ : Me} {s : Sx} (hE : LE D) (hV : Va s.1) (h : IR L σ s) (a1 a2 a3 a4 a5 : Int32) : Ct l yX10_copy cX10_copy 7 (some .int) { frames := 2, cells := 0, slots := 0, locals := 42 } D L σ [.ref (L.1 0), .int a1, .int a2, .int a3, .int a4, .int a5] (PRf L σ ((oCopy s.2.2.2.1 a1 a2 a3 a4 a5).1) (s.1, s.2.1, s.2.2.1, (oCopy s.2.2.2.1 a1 a2 a3 a4 a5).2, s.2.2.2.2)) := by
  obtain ⟨hM, hR, hKo, hP, hB, hWt, hSl2⟩ := id h
  exact (c_X10_copy hM σ s.2.2.2.1 hB a1 a2 a3 a4 a5).mono (PRf.i (fun r τ q => ⟨q.1, h.cp q.2.1 q.2.2⟩))

theorem j_lay {l : Launch} {D : Ds} {L : La} {σ : Me} {s : Sx} (hE : LE D) (hV : Va s.1) (h : IR L σ s) (a1 a2 a3 : Int32) : Ct l yX10_lay_ cX10_lay_ 6 (some .int) { frames := 2, cells := 0, slots := 0, locals := 43 } D L σ [.ref (L.1 0), .int a1, .int a2, .int a3] (PRf L σ ((oLay s.1 s.2.2.2.1 s.2.2.2.2.2 a1 a2 a3).1) (s.1, s.2.1, s.2.2.1, s.2.2.2.1, s.2.2.2.2.1, (oLay s.1 s.2.2.2.1 s.2.2.2.2.2 a1 a2 a3).2)) := by
  obtain ⟨hM, hR, hKo, hP, hB, hWt, hSl2⟩ := id h
  exact (c_X10_lay_ hM σ s.1 hR hV s.2.2.2.1 hB s.2.2.2.2.2 hSl2 a1 a2 a3).mono (PRf.i (fun r τ q => ⟨q.1, h.lay q.2.1 q.2.2⟩))

theorem j_ask {l : Launch} {D : Ds} {L : La} {σ : Me} {s : Sx} (hE : LE D) (hV : Va s.1) (h : IR L σ s) (a1 a2 : Int32) : Ct l yX10_ask cX10_ask 4 (some .int) { frames := 3, cells := 0, slots := 0, locals := 64 } D L σ [.ref (L.1 0), .int a1, .int a2] (PRf L σ ((oAsk s.2.2.2.2.2 a1 a2)) s) := by
  obtain ⟨hM, hR, hKo, hP, hB, hWt, hSl2⟩ := id h
  exact (c_X10_ask hM σ s.2.2.2.2.2 hSl2 a1 a2).mono (PRf.f h)

theorem j_item {l : Launch} {D : Ds} {L : La} {σ : Me} {s : Sx} (hE : LE D) (hV : Va s.1) (h : IR L σ s) (a1 a2 : Int32) : Ct l yX10_item cX10_item 5 (some .int) { frames := 3, cells := 0, slots := 0, locals := 64 } D L σ [.ref (L.1 0), .int a1, .int a2] (PRf L σ ((oItem s.2.2.2.2.2 a1 a2)) s) := by
  obtain ⟨hM, hR, hKo, hP, hB, hWt, hSl2⟩ := id h
  exact (c_X10_item hM σ s.2.2.2.2.2 hSl2 a1 a2).mono (PRf.f h)

theorem j_rest {l : Launch} {D : Ds} {L : La} {σ : Me} {s : Sx} (hE : LE D) (hV : Va s.1) (h : IR L σ s) (a1 a2 : Int32) : Ct l yX10_rest cX10_rest 4 (some .int) { frames := 3, cells := 0, slots := 0, locals := 64 } D L σ [.ref (L.1 0), .int a1, .int a2] (PRf L σ ((oRest s.2.2.2.2.2 a1 a2)) s) := by
  obtain ⟨hM, hR, hKo, hP, hB, hWt, hSl2⟩ := id h
  exact (c_X10_rest hM σ s.2.2.2.2.2 hSl2 a1 a2).mono (PRf.f h)

theorem j_tell {l : Launch} {D : Ds} {L : La} {σ : Me} {s : Sx} (hE : LE D) (hV : Va s.1) (h : IR L σ s) (a1 : Int32) : Ct l yX10_tell cX10_tell 2 (some .int) { frames := 0, cells := 0, slots := 0, locals := 0 } D L σ [.ref (L.1 0), .int a1] (PRf L σ ((oTell s.2.2.2.2.1 a1).1) (s.1, s.2.1, s.2.2.1, s.2.2.2.1, (oTell s.2.2.2.2.1 a1).2, s.2.2.2.2.2)) := by
  obtain ⟨hM, hR, hKo, hP, hB, hWt, hSl2⟩ := id h
  exact (c_X10_tell hM σ s.2.2.2.2.1 hWt a1).mono (PRf.i (fun r τ q => ⟨q.1, h.wt q.2.1 q.2.2⟩))

theorem j_check {l : Launch} {D : Ds} {L : La} {σ : Me} {s : Sx} (hE : LE D) (hV : Va s.1) (h : IR L σ s) (a1 a2 : Int32) : Ct l yX10_check cX10_check 5 (some .int) { frames := 11, cells := 0, slots := 0, locals := 253 } D L σ [.ref (L.1 0), .int a1, .int a2] (PRf L σ (oCheck s.2.2.2.2.1 s.2.1 a1 a2) (s.1, s.2.1, s.2.2.1, s.2.2.2.1, (0, s.2.2.2.2.1.2), s.2.2.2.2.2)) := by
  obtain ⟨hM, hR, hKo, hP, hB, hWt, hSl2⟩ := id h
  exact (c_X10_check hM σ s.1 hR hV s.2.2.2.2.1 hWt s.2.1 hKo a1 a2).mono (PRf.i (fun r τ q => ⟨q.1, h.check q.2.1 q.2.2.1 q.2.2.2⟩))

theorem j_keep {l : Launch} {D : Ds} {L : La} {σ : Me} {s : Sx} (hE : LE D) (hV : Va s.1) (h : IR L σ s) : Ct l yX10_keep cX10_keep 1 (some .int) { frames := 1, cells := 0, slots := 0, locals := 22 } D L σ [.ref (L.1 0)] (PRf L σ (nI (aW s.1)) (s.1, some s.1, s.2.2)) := by
  obtain ⟨hM, hR, hKo, hP, hB, hWt, hSl2⟩ := id h
  exact (c_X10_keep hM σ s.1 hR hV).mono (PRf.i (fun r τ q => ⟨q.1, h.keep q.2.1 q.2.2.1 q.2.2.2⟩))

theorem j_back {l : Launch} {D : Ds} {L : La} {σ : Me} {s : Sx} (hE : LE D) (hV : Va s.1) (h : IR L σ s) : Ct l yX10_back cX10_back 1 (some .int) { frames := 1, cells := 0, slots := 0, locals := 22 } D L σ [.ref (L.1 0)] (PRf L σ (oBack s.2.1) (oBackA s.1 s.2.1, s.2)) := by
  obtain ⟨hM, hR, hKo, hP, hB, hWt, hSl2⟩ := id h
  exact (c_X10_back hM σ s.1 hR hV s.2.1 hKo).mono (PRf.i (fun r τ q => ⟨q.1, h.back q.2.1 q.2.2⟩))

theorem j_count {l : Launch} {D : Ds} {L : La} {σ : Me} {s : Sx} (hE : LE D) (hV : Va s.1) (h : IR L σ s) (a1 : Int32) : Ct l yX10_count cX10_count 4 (some .int) { frames := 3, cells := 0, slots := 0, locals := 62 } D L σ [.ref (L.1 0), .int a1] (PRf L σ ((oCount s.1 s.2.2.1 s.2.2.2.2.1 a1)) s) := by
  obtain ⟨hM, hR, hKo, hP, hB, hWt, hSl2⟩ := id h
  exact (c_X10_count hM σ s.1 hR hV s.2.2.1 hP s.2.2.2.2.1 hWt a1).mono (PRf.f h)
