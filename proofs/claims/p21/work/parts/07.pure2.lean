/-! PURE 2: every call keeps the class's invariant -/
abbrev S5 : Type := SS × SS × SS × SS × SS
def CI (mo : Nat) (u : S5) : Prop := CInv mo u.1 u.2.1 u.2.2.1 u.2.2.2.1 u.2.2.2.2
section P2
variable {mo : Nat} {ω η κ χ ν : SS} {q1 q2 q3 : Int32}
theorem sBegin_NR (h : NR ν) : NR (F_sBegin ν) := ⟨h.1, Or.inl rfl, 0, by omega, rfl, fun i hi => absurd hi (by omega)⟩
theorem sClose_NR (h : NR ν) : NR (F_sClose ν) := h
theorem addL_NR (h : NR ν) (hl : vp_in (ν 4 0) 60) : NR (F_addL ν) := by
  obtain ⟨h1, h2, lc, h3, h4, h5⟩ := h
  unfold F_addL
  split
  · rename_i hf
    rw [h4] at hf
    have hlt : lc < 256 := (nI_ltI (by omega) (by decide)).mp hf
    refine ⟨h1, h2, lc + 1, by omega, ?_, fun i hi => ?_⟩
    · show ν 1 0 + 1 = _
      rw [h4, nI_1]
    · show vp_in (upd (ν 0) (ν 1 0).toNatClampNeg (ν 4 0) i) 60
      rw [h4, nI_clamp (by omega)]
      unfold upd
      by_cases q : i = lc
      · rw [if_pos q]; exact hl
      · rw [if_neg q]; exact h5 i (by omega)
  · exact ⟨h1, h2, lc, h3, h4, h5⟩
theorem remLL_NR (h : NR ν) (h0 : ¬ ν 1 0 ≤ 0) : NR (F_remLL ν).2 := by
  obtain ⟨h1, h2, lc, h3, h4, h5⟩ := h
  have hp : 0 < lc := by
    rcases Nat.eq_zero_or_pos lc with q | q
    · subst q; exact absurd (by rw [h4]; decide) h0
    · exact q
  refine ⟨h1, h2, lc - 1, by omega, ?_, fun i hi => h5 i (by omega)⟩
  show ν 1 0 - 1 = _
  rw [h4, nI_dn hp]
theorem person_in (h : CInv mo ω η κ χ ν) : CI mo (F_person mo ω η κ χ ν q1 q2 q3).2 := by
  obtain ⟨hmo, hof, hH, hK, hX, hN⟩ := h.un
  unfold F_person
  repeat' split
  all_goals exact CInv.mk hmo hof hH hK hX hN
theorem block_in (h : CInv mo ω η κ χ ν) : CI mo (F_block mo ω η κ χ ν q1 q2).2 := by
  obtain ⟨hmo, hof, hH, hK, hX, hN⟩ := h.un
  unfold F_block
  repeat' split
  all_goals exact CInv.mk hmo hof hH hK hX hN
theorem reserve_in (h : CInv mo ω η κ χ ν) : CI mo (F_reserve mo ω η κ χ ν q1 q2).2 := by
  obtain ⟨hmo, hof, hH, hK, hX, hN⟩ := h.un
  unfold F_reserve
  repeat' split
  all_goals first
    | exact CInv.mk hmo hof hH hK hX hN
    | exact CInv.mk hmo hof ⟨upd_or (f := η 5) (k := q1.toNatClampNeg) (x := q2) hH.1 (Or.inl ‹_›), hH.2⟩ hK hX hN
    | exact CInv.mk hmo hof ⟨upd_or (f := η 5) (k := q1.toNatClampNeg) (x := q2) hH.1 (Or.inr (in_isPerson ‹_›)), hH.2⟩ hK hX hN
theorem card_in (h : CInv mo ω η κ χ ν) : CI mo (F_card mo ω η κ χ ν q1).2 := by
  obtain ⟨hmo, hof, hH, hK, hX, hN⟩ := h.un
  unfold F_card
  repeat' split
  all_goals first
    | exact CInv.mk hmo hof hH hK hX hN
    | exact CInv.mk hmo hof hH hK hX ⟨in_isPerson ‹_›, hN.2.1, hN.2.2⟩
theorem codeM_in (h : CInv mo ω η κ χ ν) : CI mo (F_codeM mo ω η κ χ ν q1).2 := by
  obtain ⟨hmo, hof, hH, hK, hX, hN⟩ := h.un
  unfold F_codeM
  repeat' split
  all_goals first
    | exact CInv.mk hmo hof hH hK hX hN
    | exact CInv.mk hmo hof hH hK hX (sBegin_NR hN)
theorem scan_in (h : CInv mo ω η κ χ ν) : CI mo (F_scan mo ω η κ χ ν q1).2 := by
  obtain ⟨hmo, hof, hH, hK, hX, hN⟩ := h.un
  unfold F_scan
  repeat' split
  all_goals first
    | exact CInv.mk hmo hof hH hK hX hN
    | exact CInv.mk hmo hof hH hK hX ⟨hN.1, Or.inr (in_isItem ‹_›), hN.2.2⟩
theorem twice_in (h : CInv mo ω η κ χ ν) : CI mo (F_twice mo ω η κ χ ν).2 := by
  obtain ⟨hmo, hof, hH, hK, hX, hN⟩ := h.un
  unfold F_twice
  repeat' split
  all_goals first
    | exact CInv.mk hmo hof hH hK hX hN
    | exact CInv.mk hmo hof hH hK hX ⟨hN.1, Or.inl rfl, hN.2.2⟩
theorem lend_in (h : CInv mo ω η κ χ ν) : CI mo (F_lend mo ω η κ χ ν).2 := by
  obtain ⟨hmo, hof, hH, hK, hX, hN⟩ := h.un
  unfold F_lend
  repeat' split
  all_goals first
    | exact CInv.mk hmo hof hH hK hX hN
    | exact CInv.mk hmo hof (giveO_HR hH) hK hX (addL_NR hN (hN.2.1.resolve_left (hasI_ne ‹_›)))
    | exact CInv.mk hmo hof hH (rAdd_KR hmo hK (hN.2.1.resolve_left (hasI_ne ‹_›)) (Or.inr hN.1)) hX (addL_NR hN (hN.2.1.resolve_left (hasI_ne ‹_›)))
theorem back_in (h : CInv mo ω η κ χ ν) : CI mo (F_back mo ω η κ χ ν q1).2 := by
  obtain ⟨hmo, hof, hH, hK, hX, hN⟩ := h.un
  unfold F_back
  repeat' split
  all_goals first
    | exact CInv.mk hmo hof hH hK hX hN
    | exact CInv.mk hmo hof (takeB_HR hH) hK hX hN
    | exact CInv.mk hmo hof hH (rAdd_KR hmo hK (in_isItem ‹_›) (Or.inl rfl)) hX hN
theorem undo_in (h : CInv mo ω η κ χ ν) (h0 : ¬ ν 1 0 ≤ 0) : CI mo (F_undo mo ω η κ χ ν) := by
  obtain ⟨hmo, hof, hH, hK, hX, hN⟩ := h.un
  unfold F_undo
  repeat' split
  all_goals first
    | exact CInv.mk hmo hof (takeB_HR hH) hK hX (remLL_NR hN h0)
    | exact CInv.mk hmo hof hH (rLL_KR hmo hK) hX (remLL_NR hN h0)
theorem endM_in (h : CInv mo ω η κ χ ν) : CI mo (F_endM mo ω η κ χ ν q1).2 := by
  obtain ⟨hmo, hof, hH, hK, hX, hN⟩ := h.un
  unfold F_endM
  repeat' split
  all_goals first
    | exact CInv.mk hmo hof hH hK hX hN
    | exact (let u := CInv.un (undo_in h ‹_›); CInv.mk u.1 u.2.1 u.2.2.1 u.2.2.2.1 u.2.2.2.2.1 (sClose_NR u.2.2.2.2.2))
theorem offl_in (h : CInv mo ω η κ χ ν) (hz : q1 = 0 ∨ q1 = 1) : CI mo (F_offl mo ω η κ χ ν q1).2 := by
  obtain ⟨hmo, hof, hH, hK, hX, hN⟩ := h.un
  exact CInv.mk hmo hz hH hK hX hN
theorem locker_in (h : CInv mo ω η κ χ ν) : CI mo (F_locker mo ω η κ χ ν q1).2 := by
  obtain ⟨hmo, hof, hH, hK, hX, hN⟩ := h.un
  unfold F_locker
  repeat' split
  all_goals first
    | exact CInv.mk hmo hof hH hK hX hN
    | exact CInv.mk hmo hof ⟨hH.1, upd_or (f := η 7) (k := q1.toNatClampNeg) (x := F_fel η) hH.2.1 (Or.inr (fel_in ‹_›)), upd_or (f := η 8) (k := (F_fel η).toNatClampNeg) (x := q1) hH.2.2 (Or.inr (in_isItem ‹_›))⟩ hK hX hN
theorem opn_in (h : CInv mo ω η κ χ ν) : CI mo (F_opn mo ω η κ χ ν q1 q2).2 := by
  obtain ⟨hmo, hof, hH, hK, hX, hN⟩ := h.un
  unfold F_opn
  repeat' split
  all_goals first
    | exact CInv.mk hmo hof hH hK hX hN
    | exact CInv.mk hmo hof (giveO_HR hH) hK hX hN
theorem join_in (h : CInv mo ω η κ χ ν) : CI mo (F_join mo ω η κ χ ν q1).2 := by
  obtain ⟨hmo, hof, hH, hK, hX, hN⟩ := h.un
  have hI2 : CInv mo ω η κ (F_remF mo χ (χ 2 0)) ν := CInv.mk hmo hof hH hK (remF_all hmo hX).1 hN
  unfold F_join
  repeat' split
  all_goals first
    | exact CInv.mk hmo hof hH hK hX hN
    | exact (let u := CInv.un (jn_in hI2 q1.toNatClampNeg).1; CInv.mk u.1 u.2.1 u.2.2.1 (by rw [(jn_in hI2 q1.toNatClampNeg).2]; exact remF_KR hmo hK ‹_› ‹_›) u.2.2.2.2.1 u.2.2.2.2.2)
end P2

