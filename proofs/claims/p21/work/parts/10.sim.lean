/-! THE SIMULATION, call by call -/
theorem lt3 {x : Int32} : x < 3 ↔ x ≤ 2 := by
  rw [Int32.lt_iff_toInt_lt, Int32.le_iff_toInt_le]
  have e1 : Int32.toInt 3 = 3 := rfl
  have e2 : Int32.toInt 2 = 2 := rfl
  omega
theorem z0 : vp_nar .boolean 0 = 0 := rfl
theorem z1 : vp_nar .boolean 1 = 1 := rfl
theorem upd_s (f : Nat → Int32) (k : Nat) (x : Int32) : upd f k x k = x := if_pos rfl
theorem upd_n {f : Nat → Int32} {k j : Nat} {x : Int32} (h : j ≠ k) : upd f k x j = f j := if_neg h
theorem upd_id {f : Nat → Int32} {k : Nat} {x : Int32} (h : f k = x) : upd f k x = f := by
  funext j
  unfold upd
  by_cases q : j = k
  · rw [if_pos q, q, h]
  · rw [if_neg q]
/-- the part of the relation on wrong codes -/
def RW (η ν ρ : SS) : Prop := ∀ p, p < 40 → ∃ w : Nat, w ≤ 3 ∧ η 3 p = nI w ∧ (ρ 3 p = 0 ↔ w < 3) ∧ (ν 2 0 = 1 → p = (ν 3 0).toNatClampNeg → w < 3)
theorem bbc {η ν ρ : SS} {q : Int32} (h : RW η ν ρ) (hq : vp_in q 40) : F_isBBC η q = 0 ↔ ρ 3 q.toNatClampNeg = 0 := by
  obtain ⟨w, h1, h2, h3, -⟩ := h _ (clt hq)
  rw [h3]
  unfold F_isBBC
  rw [h2, show (3 : Int32) = nI 3 from rfl]
  by_cases c : w < 3
  · rw [if_pos (nI_lt c (by decide))]; exact ⟨fun _ => c, fun _ => rfl⟩
  · rw [if_neg (nI_nlt (by omega) (by omega))]; exact ⟨fun x => absurd x (by decide), fun x => absurd x c⟩
theorem isB_eq {η ν ρ : SS} {q : Int32} (h : RW η ν ρ) (h2 : η 2 = ρ 2) (hq : vp_in q 40) : F_isBl η q = F_mIsB ρ q := by
  unfold F_isBl F_mIsB
  rw [h2]
  by_cases c : ρ 2 q.toNatClampNeg = 0
  · rw [if_pos c, if_pos c]
    by_cases c2 : F_isBBC η q = 0
    · rw [if_pos c2, if_pos ((bbc h hq).mp c2)]
    · rw [if_neg c2, if_neg (fun x => c2 ((bbc h hq).mpr x))]
  · rw [if_neg c, if_neg c]
section SIM
variable {mo t : Nat} {ω η κ χ ν ρ : SS}
theorem sim_person (h : LI mo t ω η κ χ ν ρ) (ht : t < 512) (q1 q2 q3 : Int32) : (F_person mo ω η κ χ ν q1 q2 q3).1 = (F_mPerson ρ q1 q2 q3).1 ∧ LI mo (t + 1) (F_person mo ω η κ χ ν q1 q2 q3).2.1 (F_person mo ω η κ χ ν q1 q2 q3).2.2.1 (F_person mo ω η κ χ ν q1 q2 q3).2.2.2.1 (F_person mo ω η κ χ ν q1 q2 q3).2.2.2.2.1 (F_person mo ω η κ χ ν q1 q2 q3).2.2.2.2.2 (F_mPerson ρ q1 q2 q3).2 := by
  obtain ⟨hI, ⟨a0, a1, a2, a3, a4, a5, a6, a7⟩, hb, hc, hd, he, hf, hg, hk, hm⟩ := li_t h
  have hi := person_in (q1 := q1) (q2 := q2) (q3 := q3) hI
  revert hi
  unfold F_person F_mPerson
  rw [show F_mIsP q1 = F_isPerson q1 from rfl]
  by_cases c1 : F_isPerson q1 = 0
  · rw [if_pos c1, if_pos c1]; exact fun _ => ⟨rfl, li_14 (li_t h)⟩
  · rw [if_neg c1, if_neg c1]
    by_cases c2 : q3 < 0
    · rw [if_pos c2, if_pos c2]; exact fun _ => ⟨rfl, li_14 (li_t h)⟩
    · rw [if_neg c2, if_neg c2]
      by_cases c3 : q3 < 3
      · rw [if_pos c3, if_pos (lt3.mp c3)]
        exact fun hi => ⟨rfl, hi, ⟨congrArg (fun f => upd f q1.toNatClampNeg q2) a0, congrArg (fun f => upd f q1.toNatClampNeg q3) a1, a2, a3, a4, a5, a6, a7⟩, hb, hc, hd, he, hf, hg, hk, hm⟩
      · rw [if_neg c3, if_neg (fun x => c3 (lt3.mpr x))]; exact fun _ => ⟨rfl, li_14 (li_t h)⟩
theorem sim_block (h : LI mo t ω η κ χ ν ρ) (ht : t < 512) (q1 q2 : Int32) (hz : q2 = 0 ∨ q2 = 1) : (F_block mo ω η κ χ ν q1 q2).1 = (F_mBlock ρ q1 q2).1 ∧ LI mo (t + 1) (F_block mo ω η κ χ ν q1 q2).2.1 (F_block mo ω η κ χ ν q1 q2).2.2.1 (F_block mo ω η κ χ ν q1 q2).2.2.2.1 (F_block mo ω η κ χ ν q1 q2).2.2.2.2.1 (F_block mo ω η κ χ ν q1 q2).2.2.2.2.2 (F_mBlock ρ q1 q2).2 := by
  obtain ⟨hI, ⟨a0, a1, a2, a3, a4, a5, a6, a7⟩, hb, hc, hd, he, hf, hg, hk, hm⟩ := li_t h
  have hi := block_in (q1 := q1) (q2 := q2) hI
  revert hi
  unfold F_block F_mBlock
  rw [show F_mIsP q1 = F_isPerson q1 from rfl]
  by_cases c1 : F_isPerson q1 = 0
  · rw [if_pos c1, if_pos c1]; exact fun _ => ⟨rfl, li_14 (li_t h)⟩
  · rw [if_neg c1, if_neg c1]
    intro hi
    refine ⟨isB_eq (ρ := ρ) he a2 (in_isPerson c1), hi, ⟨a0, a1, congrArg (fun f => upd f q1.toNatClampNeg (vp_nar .boolean q2)) a2, congrArg (fun f => upd f q1.toNatClampNeg 0) a3, a4, a5, a6, a7⟩, hb, hc, hd, ?_, hf, hg, hk, hm⟩
    intro p hp
    show ∃ w : Nat, w ≤ 3 ∧ upd (η 3) q1.toNatClampNeg 0 p = nI w ∧ (upd (ρ 3) q1.toNatClampNeg (vp_nar .boolean 0) p = 0 ↔ w < 3) ∧ (ν 2 0 = 1 → p = (ν 3 0).toNatClampNeg → w < 3)
    by_cases c : p = q1.toNatClampNeg
    · subst c
      rw [upd_s, upd_s]
      exact ⟨0, by omega, rfl, ⟨fun _ => by omega, fun _ => rfl⟩, fun _ _ => by omega⟩
    · rw [upd_n c, upd_n c]; exact he p hp
theorem sim_reserve (h : LI mo t ω η κ χ ν ρ) (ht : t < 512) (q1 q2 : Int32) : (F_reserve mo ω η κ χ ν q1 q2).1 = (F_mReserve ρ q1 q2).1 ∧ LI mo (t + 1) (F_reserve mo ω η κ χ ν q1 q2).2.1 (F_reserve mo ω η κ χ ν q1 q2).2.2.1 (F_reserve mo ω η κ χ ν q1 q2).2.2.2.1 (F_reserve mo ω η κ χ ν q1 q2).2.2.2.2.1 (F_reserve mo ω η κ χ ν q1 q2).2.2.2.2.2 (F_mReserve ρ q1 q2).2 := by
  obtain ⟨hI, ⟨a0, a1, a2, a3, a4, a5, a6, a7⟩, hb, hc, hd, he, hf, hg, hk, hm⟩ := li_t h
  have hi := reserve_in (q1 := q1) (q2 := q2) hI
  revert hi
  unfold F_reserve F_mReserve
  rw [show F_mIsI q1 = F_isItem q1 from rfl, show F_mIsP q2 = F_isPerson q2 from rfl]
  by_cases c1 : F_isItem q1 = 0
  · rw [if_pos c1, if_pos c1]; exact fun _ => ⟨rfl, li_14 (li_t h)⟩
  · rw [if_neg c1, if_neg c1]
    by_cases c2 : q2 = -1
    · rw [if_pos c2, if_pos c2]
      exact fun hi => ⟨rfl, hi, ⟨a0, a1, a2, a3, a4, congrArg (fun f => upd f q1.toNatClampNeg q2) a5, a6, a7⟩, hb, hc, hd, he, hf, hg, hk, hm⟩
    · rw [if_neg c2, if_neg c2]
      by_cases c3 : F_isPerson q2 = 0
      · rw [if_pos c3, if_pos c3]; exact fun _ => ⟨rfl, li_14 (li_t h)⟩
      · rw [if_neg c3, if_neg c3]
        exact fun hi => ⟨rfl, hi, ⟨a0, a1, a2, a3, a4, congrArg (fun f => upd f q1.toNatClampNeg q2) a5, a6, a7⟩, hb, hc, hd, he, hf, hg, hk, hm⟩
theorem RW.ask {q : Int32} (h : RW η ν ρ) (hq : ρ 3 q.toNatClampNeg = 0) : ∀ p, p < 40 → ∃ w : Nat, w ≤ 3 ∧ η 3 p = nI w ∧ (ρ 3 p = 0 ↔ w < 3) ∧ ((1 : Int32) = 1 → p = q.toNatClampNeg → w < 3) := by
  intro p hp
  obtain ⟨w, h1, h2, h3, -⟩ := h p hp
  exact ⟨w, h1, h2, h3, fun _ e => h3.mp (by rw [e]; exact hq)⟩
theorem sim_card (h : LI mo t ω η κ χ ν ρ) (ht : t < 512) (q1 : Int32) : (F_card mo ω η κ χ ν q1).1 = (F_mCard ρ q1).1 ∧ LI mo (t + 1) (F_card mo ω η κ χ ν q1).2.1 (F_card mo ω η κ χ ν q1).2.2.1 (F_card mo ω η κ χ ν q1).2.2.2.1 (F_card mo ω η κ χ ν q1).2.2.2.2.1 (F_card mo ω η κ χ ν q1).2.2.2.2.2 (F_mCard ρ q1).2 := by
  obtain ⟨hI, ⟨a0, a1, a2, a3, a4, a5, a6, a7⟩, hb, ⟨c0, c1, c2, c3, c4, c5⟩, hd, he, hf, hg, hk, hm⟩ := li_t h
  have hi := card_in (q1 := q1) hI
  revert hi
  unfold F_card F_mCard F_isRef
  rw [show F_mIsP q1 = F_isPerson q1 from rfl, ← c2, ← c0]
  by_cases e1 : F_isPerson q1 = 0
  · rw [if_pos e1, if_pos e1]; exact fun _ => ⟨rfl, li_14 (li_t h)⟩
  · rw [if_neg e1, if_neg e1]
    have hq := in_isPerson e1
    by_cases e2 : ν 2 0 = 0
    · rw [if_pos e2, if_pos e2]
      by_cases e3 : ω 0 0 = 0
      · rw [if_pos e3, if_pos e3, show F_mIsB (ss ρ 14 fun _ => 0) q1 = F_mIsB ρ q1 from rfl, ← isB_eq (ρ := ρ) he a2 hq]
        by_cases e4 : F_isBl η q1 = 0
        · rw [if_pos e4, if_pos e4]
          have hb3 : ρ 3 q1.toNatClampNeg = 0 := by
            refine (bbc (ν := ν) he hq).mp ?_
            by_cases x : F_isBBC η q1 = 0
            · exact x
            · exfalso
              unfold F_isBl at e4
              rw [if_neg x] at e4
              by_cases y : η 2 q1.toNatClampNeg = 0
              · rw [if_pos y] at e4; exact absurd e4 (by decide)
              · rw [if_neg y] at e4; exact absurd e4 (by decide)
          exact fun hi => ⟨rfl, hi, ⟨a0, a1, a2, a3, a4, a5, a6, a7⟩, hb, ⟨c0, c1, rfl, rfl, c4, c5⟩, hd, RW.ask he hb3, hf, hg, fun x => absurd (show (1 : Int32) = 2 from x) (by decide), hm⟩
        · rw [if_neg e4, if_neg e4]; exact fun _ => ⟨rfl, li_14 (li_t h)⟩
      · rw [if_neg e3, if_neg e3]
        by_cases e4 : F_isBBC η q1 = 0
        · rw [if_pos e4, if_pos ((bbc (ν := ν) he hq).mp e4)]
          exact fun hi => ⟨rfl, hi, ⟨a0, a1, a2, a3, a4, a5, a6, a7⟩, hb, ⟨c0, c1, rfl, rfl, c4, c5⟩, hd, RW.ask he ((bbc (ν := ν) he hq).mp e4), hf, hg, fun x => absurd (show (1 : Int32) = 2 from x) (by decide), hm⟩
        · rw [if_neg e4, if_neg (fun x => e4 ((bbc (ν := ν) he hq).mpr x))]; exact fun _ => ⟨rfl, li_14 (li_t h)⟩
    · rw [if_neg e2, if_neg e2]; exact fun _ => ⟨rfl, li_14 (li_t h)⟩
theorem sim_scan (h : LI mo t ω η κ χ ν ρ) (ht : t < 512) (q1 : Int32) : (F_scan mo ω η κ χ ν q1).1 = (F_mScan ρ q1).1 ∧ LI mo (t + 1) (F_scan mo ω η κ χ ν q1).2.1 (F_scan mo ω η κ χ ν q1).2.2.1 (F_scan mo ω η κ χ ν q1).2.2.2.1 (F_scan mo ω η κ χ ν q1).2.2.2.2.1 (F_scan mo ω η κ χ ν q1).2.2.2.2.2 (F_mScan ρ q1).2 := by
  obtain ⟨hI, ha, hb, ⟨c0, c1, c2, c3, c4, c5⟩, hd, he, hf, hg, hk, hm⟩ := li_t h
  obtain ⟨lc, m1, m2, m3, m4⟩ := h.2.2.2.2.2.2.2.2.2
  have hi := scan_in (q1 := q1) hI
  revert hi
  unfold F_scan F_mScan
  rw [show F_mIsI q1 = F_isItem q1 from rfl, ← c2, ← c4]
  by_cases e1 : F_isItem q1 = 0
  · rw [if_pos e1, if_pos e1]; exact fun _ => ⟨rfl, li_14 (li_t h)⟩
  · rw [if_neg e1, if_neg e1]
    by_cases e2 : ν 2 0 = 2
    · rw [if_pos e2, if_pos e2]
      by_cases e3 : ν 4 0 = q1
      · rw [if_pos e3, if_pos e3.symm]; exact fun _ => ⟨rfl, li_14 (li_t h)⟩
      · rw [if_neg e3, if_neg (fun x => e3 x.symm)]
        exact fun hi => ⟨rfl, hi, ha, hb, ⟨c0, c1, c2, c3, rfl, fun _ => rfl⟩, hd, he, hf, hg, hk, ⟨lc, m1, m2, by omega, fun _ _ => by omega⟩⟩
    · rw [if_neg e2, if_neg e2]; exact fun _ => ⟨rfl, li_14 (li_t h)⟩
theorem sim_twice (h : LI mo t ω η κ χ ν ρ) (ht : t < 512) : (F_twice mo ω η κ χ ν).1 = (F_mTwice ρ).1 ∧ LI mo (t + 1) (F_twice mo ω η κ χ ν).2.1 (F_twice mo ω η κ χ ν).2.2.1 (F_twice mo ω η κ χ ν).2.2.2.1 (F_twice mo ω η κ χ ν).2.2.2.2.1 (F_twice mo ω η κ χ ν).2.2.2.2.2 (F_mTwice ρ).2 := by
  obtain ⟨hI, ha, hb, ⟨c0, c1, c2, c3, c4, c5⟩, hd, he, hf, hg, hk, ⟨lc, m1, m2, m3, m4⟩⟩ := li_t h
  have hi := twice_in hI
  revert hi
  unfold F_twice F_mTwice
  rw [← c2]
  by_cases e2 : ν 2 0 = 2
  · rw [if_pos e2, if_pos e2]
    exact fun hi => ⟨rfl, hi, ha, hb, ⟨c0, c1, c2, c3, rfl, fun x => absurd rfl x⟩, hd, he, hf, hg, hk, ⟨lc, m1, m2, m3, fun x => absurd rfl x⟩⟩
  · rw [if_neg e2, if_neg e2]; exact fun _ => ⟨rfl, li_14 (li_t h)⟩
theorem sim_codeM (h : LI mo t ω η κ χ ν ρ) (ht : t < 512) (q1 : Int32) : (F_codeM mo ω η κ χ ν q1).1 = (F_mCode ρ q1).1 ∧ LI mo (t + 1) (F_codeM mo ω η κ χ ν q1).2.1 (F_codeM mo ω η κ χ ν q1).2.2.1 (F_codeM mo ω η κ χ ν q1).2.2.2.1 (F_codeM mo ω η κ χ ν q1).2.2.2.2.1 (F_codeM mo ω η κ χ ν q1).2.2.2.2.2 (F_mCode ρ q1).2 := by
  obtain ⟨hI, ⟨a0, a1, a2, a3, a4, a5, a6, a7⟩, hb, ⟨c0, c1, c2, c3, c4, c5⟩, hd, he, hf, hg, hk, ⟨lc, m1, m2, m3, m4⟩⟩ := li_t h
  have hpe := hI.2.2.2.2.2.2.2.1
  have hi := codeM_in (q1 := q1) hI
  revert hi
  unfold F_codeM F_mCode
  rw [← c2, ← c3, ← a0, ← a3]
  by_cases e1 : ν 2 0 = 1
  · rw [if_pos e1, if_pos e1]
    by_cases e2 : η 0 (ν 3 0).toNatClampNeg = q1
    · rw [if_pos e2, if_pos e2.symm]
      intro hi
      refine ⟨rfl, hi, ⟨a0, a1, a2, rfl, a4, a5, a6, a7⟩, hb, ⟨c0, rfl, rfl, c3, rfl, fun x => absurd rfl x⟩, hd, ?_, hf, hg, fun _ _ => ⟨0, by omega, rfl, fun x => absurd x (by omega)⟩, ⟨0, rfl, by omega, by omega, fun x => absurd rfl x⟩⟩
      intro p hp
      show ∃ w : Nat, w ≤ 3 ∧ upd (η 3) (ν 3 0).toNatClampNeg 0 p = nI w ∧ (ρ 3 p = 0 ↔ w < 3) ∧ ((2 : Int32) = 1 → p = (ν 3 0).toNatClampNeg → w < 3)
      obtain ⟨w, h1, h2, h3, h4⟩ := he p hp
      by_cases c : p = (ν 3 0).toNatClampNeg
      · have hw := h4 e1 c
        rw [c, upd_s]
        exact ⟨0, by omega, rfl, ⟨fun _ => by omega, fun _ => by rw [← c]; exact h3.mpr hw⟩, fun x => absurd x (by decide)⟩
      · rw [upd_n c]; exact ⟨w, h1, h2, h3, fun x => absurd x (by decide)⟩
    · rw [if_neg e2, if_neg (show ¬ q1 = η 0 (ν 3 0).toNatClampNeg from fun x => e2 x.symm), upd_s]
      obtain ⟨w, h1, h2, h3, h4⟩ := he _ (clt hpe)
      have hw := h4 e1 rfl
      have ew : η 3 (ν 3 0).toNatClampNeg + 1 = nI (w + 1) := by rw [h2, nI_1]
      have eB : F_isBBC (ss η 3 (upd (η 3) (ν 3 0).toNatClampNeg (η 3 (ν 3 0).toNatClampNeg + 1))) (ν 3 0) = if w + 1 < 3 then 0 else 1 := by
        show (if upd (η 3) (ν 3 0).toNatClampNeg (η 3 (ν 3 0).toNatClampNeg + 1) (ν 3 0).toNatClampNeg < 3 then (0 : Int32) else 1) = _
        rw [upd_s, ew]
        by_cases x : w + 1 < 3
        · rw [if_pos x, if_pos (show nI (w + 1) < (3 : Int32) from nI_lt (b := 3) x (by decide))]
        · rw [if_neg x, if_neg (show ¬ nI (w + 1) < (3 : Int32) from nI_nlt (b := 3) (by omega) (by omega))]
      rw [eB, ew]
      by_cases x : w + 1 < 3
      · rw [if_pos x, if_pos rfl, if_neg (show ¬ nI (w + 1) = 3 from fun q => by have := (nI_eq (a := w + 1) (b := 3) (by omega) (by decide)).mp q; omega)]
        intro hi
        refine ⟨rfl, hi, ⟨a0, a1, a2, rfl, a4, a5, a6, a7⟩, hb, ⟨c0, c1, rfl, c3, c4, c5⟩, hd, ?_, hf, hg, fun x => absurd (show (0 : Int32) = 2 from x) (by decide), ⟨lc, m1, m2, m3, m4⟩⟩
        intro p hp
        show ∃ w : Nat, w ≤ 3 ∧ upd (η 3) (ν 3 0).toNatClampNeg (nI _) p = nI w ∧ (ρ 3 p = 0 ↔ w < 3) ∧ ((0 : Int32) = 1 → p = (ν 3 0).toNatClampNeg → w < 3)
        by_cases c : p = (ν 3 0).toNatClampNeg
        · rw [c, upd_s]
          exact ⟨w + 1, by omega, rfl, ⟨fun _ => x, fun _ => h3.mpr hw⟩, fun x => absurd x (by decide)⟩
        · rw [upd_n c]
          obtain ⟨w', g1, g2, g3, -⟩ := he p hp
          exact ⟨w', g1, g2, g3, fun x => absurd x (by decide)⟩
      · rw [if_neg x, if_neg (show ¬ (1 : Int32) = 0 by decide), if_pos (show nI (w + 1) = 3 by rw [show w + 1 = 3 by omega]; rfl)]
        intro hi
        refine ⟨rfl, hi, ⟨a0, a1, a2, rfl, a4, a5, a6, a7⟩, hb, ⟨c0, c1, rfl, c3, c4, c5⟩, hd, ?_, hf, hg, fun x => absurd (show (0 : Int32) = 2 from x) (by decide), ⟨lc, m1, m2, m3, m4⟩⟩
        intro p hp
        show ∃ w : Nat, w ≤ 3 ∧ upd (η 3) (ν 3 0).toNatClampNeg (nI _) p = nI w ∧ (upd (ρ 3) (ν 3 0).toNatClampNeg (vp_nar .boolean 1) p = 0 ↔ w < 3) ∧ ((0 : Int32) = 1 → p = (ν 3 0).toNatClampNeg → w < 3)
        by_cases c : p = (ν 3 0).toNatClampNeg
        · rw [c, upd_s, upd_s]
          exact ⟨w + 1, by omega, rfl, ⟨fun y => absurd y (by decide), fun y => absurd y x⟩, fun x => absurd x (by decide)⟩
        · rw [upd_n c, upd_n c]
          obtain ⟨w', g1, g2, g3, -⟩ := he p hp
          exact ⟨w', g1, g2, g3, fun x => absurd x (by decide)⟩
  · rw [if_neg e1, if_neg e1]; exact fun _ => ⟨rfl, li_14 (li_t h)⟩
theorem sim_offl (h : LI mo t ω η κ χ ν ρ) (ht : t < 512) (q1 : Int32) (hz : q1 = 0 ∨ q1 = 1) : (F_offl mo ω η κ χ ν q1).1 = (F_mOffl ρ q1).1 ∧ LI mo (t + 1) (F_offl mo ω η κ χ ν q1).2.1 (F_offl mo ω η κ χ ν q1).2.2.1 (F_offl mo ω η κ χ ν q1).2.2.2.1 (F_offl mo ω η κ χ ν q1).2.2.2.2.1 (F_offl mo ω η κ χ ν q1).2.2.2.2.2 (F_mOffl ρ q1).2 := by
  obtain ⟨hI, ha, hb, ⟨c0, c1, c2, c3, c4, c5⟩, hd, he, hf, hg, hk, hm⟩ := li_t h
  refine ⟨c0, offl_in hI hz, ha, hb, ⟨rfl, c1, rfl, c3, c4, c5⟩, hd, ?_, hf, hg, fun x => absurd (show (0 : Int32) = 2 from x) (by decide), hm⟩
  intro p hp
  obtain ⟨w', g1, g2, g3, -⟩ := he p hp
  exact ⟨w', g1, g2, g3, fun x => absurd (show (0 : Int32) = 1 from x) (by decide)⟩
theorem w3 {x : Int32} (h0 : ¬ x < 0) (h2 : x ≤ 2) : x = 0 ∨ x = 1 ∨ x = 2 := by
  obtain ⟨j, hj, rfl⟩ := nI_of2 (M := 2) (n := 2) (by decide) h0 h2
  rcases (show j = 0 ∨ j = 1 ∨ j = 2 by omega) with q | q | q
  · subst q; exact Or.inl rfl
  · subst q; exact Or.inr (Or.inl rfl)
  · subst q; exact Or.inr (Or.inr rfl)
theorem ro_clash (q1 q2 : Int32) : (F_mClash ρ q1 q2).2 = ss ρ 14 (fun _ => 0) := by
  unfold F_mClash
  repeat' split
  all_goals rfl
theorem ro_door (q1 : Int32) : (F_mDoor ρ q1).2 = ss ρ 14 (fun _ => 0) := by
  unfold F_mDoor
  repeat' split
  all_goals rfl
theorem ro_receipt (q1 : Int32) : (F_mReceipt ρ q1).2 = ss ρ 14 (fun _ => 0) := by
  unfold F_mReceipt
  repeat' split
  all_goals rfl
theorem ro_screen : (F_mScreen ρ).2 = ss ρ 14 (fun _ => 0) := by
  unfold F_mScreen
  repeat' split
  all_goals rfl
theorem ro_item (q1 q2 : Int32) : (F_mItem ρ q1 q2).2 = ss ρ 14 (fun _ => 0) := by
  unfold F_mItem
  repeat' split
  all_goals rfl
theorem sim_door (h : LI mo t ω η κ χ ν ρ) (ht : t < 512) (q1 : Int32) : LI mo (t + 1) ω η κ χ ν (F_mDoor ρ q1).2 := by
  rw [ro_door]; exact li_14 (li_t h)
theorem sim_rowsM (h : LI mo t ω η κ χ ν ρ) (ht : t < 512) : F_rowsM mo ω η κ χ ν = (F_mRows ρ).1 ∧ LI mo (t + 1) ω η κ χ ν (F_mRows ρ).2 := ⟨h.2.2.1.2.2.2, li_14 (li_t h)⟩
theorem sim_receipt (h : LI mo t ω η κ χ ν ρ) (ht : t < 512) (q1 : Int32) : F_receipt mo ω η κ χ ν q1 = (F_mReceipt ρ q1).1 ∧ LI mo (t + 1) ω η κ χ ν (F_mReceipt ρ q1).2 := by
  refine ⟨?_, by rw [ro_receipt]; exact li_14 (li_t h)⟩
  obtain ⟨-, -, ⟨b0, -⟩, ⟨-, c1, -⟩, -⟩ := h
  unfold F_receipt F_mReceipt
  rw [← c1, ← b0]
  by_cases e1 : q1 < 0
  · rw [if_pos e1, if_pos e1]
  · rw [if_neg e1, if_neg e1]
    by_cases e2 : ν 1 0 ≤ q1
    · rw [if_pos e2, if_neg (fun x => by rw [Int32.lt_iff_toInt_lt] at x; rw [Int32.le_iff_toInt_le] at e2; omega)]
    · rw [if_neg e2, if_pos (by rw [Int32.lt_iff_toInt_lt]; rw [Int32.le_iff_toInt_le] at e2; omega)]
theorem sim_screen (h : LI mo t ω η κ χ ν ρ) (ht : t < 512) : F_screen mo ω η κ χ ν = (F_mScreen ρ).1 ∧ LI mo (t + 1) ω η κ χ ν (F_mScreen ρ).2 := by
  refine ⟨?_, by rw [ro_screen]; exact li_14 (li_t h)⟩
  obtain ⟨-, ⟨-, a1, -⟩, -, ⟨c0, -, c2, c3, -⟩, -⟩ := h
  unfold F_screen F_mScreen
  rw [← c0, ← c2, ← c3, ← a1, Int32.mul_comm 10]
  by_cases e1 : ν 2 0 = 0
  · rw [if_pos e1, if_pos e1]
    by_cases e2 : ω 0 0 = 0
    · rw [if_pos e2, if_pos e2]; rfl
    · rw [if_neg e2, if_neg e2]; rfl
  · rw [if_neg e1, if_neg e1]
    by_cases e2 : ω 0 0 = 0
    · rw [if_pos e2, if_pos e2]
    · rw [if_neg e2, if_neg e2]
theorem sim_itemM (h : LI mo t ω η κ χ ν ρ) (ht : t < 512) (q1 q2 : Int32) : F_itemM mo ω η κ χ ν q1 q2 = (F_mItem ρ q1 q2).1 ∧ LI mo (t + 1) ω η κ χ ν (F_mItem ρ q1 q2).2 := by
  refine ⟨?_, by rw [ro_item]; exact li_14 (li_t h)⟩
  obtain ⟨-, ⟨-, -, -, -, a4, a5, a6, -⟩, -⟩ := h
  unfold F_itemM F_mItem
  rw [← a4, ← a5, ← a6, show F_mIsI q1 = F_isItem q1 from rfl]
  by_cases e1 : F_isItem q1 = 0
  · rw [if_pos e1, if_pos e1]
  · rw [if_neg e1, if_neg e1]
    by_cases e2 : q2 < 0
    · rw [if_pos e2, if_neg (fun x => by subst x; exact absurd e2 (by decide)), if_neg (fun x => by subst x; exact absurd e2 (by decide)), if_neg (fun x => by subst x; exact absurd e2 (by decide))]
    · rw [if_neg e2]
      by_cases e3 : q2 ≤ 2
      · rw [if_pos e3]
        rcases w3 e2 e3 with q | q | q
        · subst q; rfl
        · subst q; rfl
        · subst q; rfl
      · rw [if_neg e3, if_neg (fun x => by subst x; exact absurd (by decide) e3), if_neg (fun x => by subst x; exact absurd (by decide) e3), if_neg (fun x => by subst x; exact absurd (by decide) e3)]
theorem sim_clash (h : LI mo t ω η κ χ ν ρ) (ht : t < 512) (q1 q2 : Int32) : F_clash mo ω η κ χ ν q1 q2 = (F_mClash ρ q1 q2).1 ∧ LI mo (t + 1) ω η κ χ ν (F_mClash ρ q1 q2).2 := by
  refine ⟨?_, by rw [ro_clash]; exact li_14 (li_t h)⟩
  obtain ⟨hI, -, -, -, -, -, ⟨xc, x1, x2, x3, x4⟩, -⟩ := h
  have hmo := hI.1
  unfold F_clash F_mClash
  rw [x2, x3]
  by_cases e1 : q1 < 0
  · rw [if_pos e1, if_pos e1]
  · rw [if_neg e1, if_neg e1]
    obtain ⟨i, hi, rfl⟩ := nI_of e1
    by_cases e2 : i < xc
    · rw [if_pos (nI_lt e2 (by omega)), if_neg (nI_ge e2 (by omega))]
      obtain ⟨y0, y1, y2⟩ := x4 i e2
      by_cases e3 : q2 < 0
      · rw [if_pos e3, if_neg (fun x => by subst x; exact absurd e3 (by decide)), if_neg (fun x => by subst x; exact absurd e3 (by decide)), if_neg (fun x => by subst x; exact absurd e3 (by decide))]
      · rw [if_neg e3]
        by_cases e4 : q2 ≤ 2
        · rw [if_pos e4, nI_clamp hi]
          rcases w3 e3 e4 with q | q | q
          · subst q
            rw [if_pos rfl, show (3 : Int32) * nI i + 0 = nI (3 * i) by rw [show (3 : Int32) = nI 3 from rfl, pk_mul]; exact Int32.add_zero _, nI_clamp (by omega), y0]
          · subst q
            rw [if_neg (by decide), if_pos rfl, show (3 : Int32) * nI i + 1 = nI (3 * i + 1) by rw [show (3 : Int32) = nI 3 from rfl, pk_mul]; exact nI_1 _, nI_clamp (by omega), y1]
          · subst q
            rw [if_neg (by decide), if_neg (by decide), if_pos rfl, show (3 : Int32) * nI i + 2 = nI (3 * i + 2) by rw [show (3 : Int32) = nI 3 from rfl, pk_mul]; exact nI_add _ 2, nI_clamp (by omega), y2]
            show (if (if χ 1 (nI i).toNatClampNeg = -1 then (0 : Int32) else 1) = 0 then (1 : Int32) else 0) = _
            rw [nI_clamp hi]
            by_cases z : χ 1 i = -1
            · rw [if_pos z, if_pos z]; rfl
            · rw [if_neg z, if_neg z]; rfl
        · rw [if_neg e4, if_neg (fun x => by subst x; exact absurd (by decide) e4), if_neg (fun x => by subst x; exact absurd (by decide) e4), if_neg (fun x => by subst x; exact absurd (by decide) e4)]
    · rw [if_neg (nI_nlt (by omega) hi), if_pos (nI_le (by omega) hi)]
/-- the part on lockers -/
def RG (η : SS) : Prop := (∀ i, i < 60 → ¬ η 7 i = -1 → η 4 i = -1) ∧ ∀ j, j < 10 → ¬ η 8 j = -1 → η 7 (η 8 j).toNatClampNeg = nI j
theorem refu_eq {x y : Int32} (he : RW η ν ρ) (a2 : η 2 = ρ 2) (a4 : η 4 = ρ 5) (a5 : η 5 = ρ 6) (hy : vp_in y 40) : F_refu η x y = F_mAg ρ x y := by
  unfold F_refu F_mAg
  rw [isB_eq he a2 hy, show F_cntI η y = F_mHas ρ y from by show nI (cnt (η 4) y 60) = nI (cnt (ρ 5) y 60); rw [a4], a4, a5]
theorem ag_0 {x y : Int32} : 0 ≤ F_mAg ρ x y ↔ F_mAg ρ x y = 0 := by
  unfold F_mAg
  repeat' split
  all_goals decide
theorem ag_res {x y : Int32} (h : F_mAg ρ x y = 0) : ρ 5 x.toNatClampNeg = -1 ∧ (ρ 6 x.toNatClampNeg = -1 ∨ ρ 6 x.toNatClampNeg = y) := by
  unfold F_mAg at h
  by_cases c1 : ρ 5 x.toNatClampNeg = -1
  · refine ⟨c1, ?_⟩
    rw [if_pos c1] at h
    by_cases c2 : ρ 6 x.toNatClampNeg = -1
    · exact Or.inl c2
    · rw [if_neg c2] at h
      by_cases c3 : ρ 6 x.toNatClampNeg = y
      · exact Or.inr c3
      · rw [if_neg c3] at h; exact absurd h (by decide)
  · rw [if_neg c1] at h; exact absurd h (by decide)
theorem giveO_k (x y : Int32) : F_giveO η x y 0 = η 0 ∧ F_giveO η x y 1 = η 1 ∧ F_giveO η x y 2 = η 2 ∧ F_giveO η x y 3 = η 3 ∧ F_giveO η x y 4 = upd (η 4) x.toNatClampNeg y ∧ F_giveO η x y 5 = (if η 5 x.toNatClampNeg = y then upd (η 5) x.toNatClampNeg (-1) else η 5) ∧ F_giveO η x y 7 = (if η 7 x.toNatClampNeg = -1 then η 7 else upd (η 7) x.toNatClampNeg (-1)) ∧ F_giveO η x y 8 = (if η 7 x.toNatClampNeg = -1 then η 8 else upd (η 8) (η 7 x.toNatClampNeg).toNatClampNeg (-1)) := by
  unfold F_giveO
  by_cases c1 : η 5 x.toNatClampNeg = y
  · rw [if_pos c1, if_pos c1]
    by_cases c2 : η 7 x.toNatClampNeg = -1
    · rw [if_pos c2, if_pos c2, if_pos c2]; exact ⟨rfl, rfl, rfl, rfl, rfl, rfl, rfl, rfl⟩
    · rw [if_neg c2, if_neg c2, if_neg c2]; exact ⟨rfl, rfl, rfl, rfl, rfl, rfl, rfl, rfl⟩
  · rw [if_neg c1, if_neg c1]
    by_cases c2 : η 7 x.toNatClampNeg = -1
    · rw [if_pos c2, if_pos c2, if_pos c2]; exact ⟨rfl, rfl, rfl, rfl, rfl, rfl, rfl, rfl⟩
    · rw [if_neg c2, if_neg c2, if_neg c2]; exact ⟨rfl, rfl, rfl, rfl, rfl, rfl, rfl, rfl⟩
theorem giveO_rel {x y : Int32} (a4 : η 4 = ρ 5) (a5 : η 5 = ρ 6) (a6 : η 7 = ρ 8) (a7 : η 8 = ρ 9) (hr : ρ 6 x.toNatClampNeg = -1 ∨ ρ 6 x.toNatClampNeg = y) : F_giveO η x y 4 = F_mGo ρ x y 5 ∧ F_giveO η x y 5 = F_mGo ρ x y 6 ∧ F_giveO η x y 7 = F_mGo ρ x y 8 ∧ F_giveO η x y 8 = F_mGo ρ x y 9 := by
  obtain ⟨-, -, -, -, k4, k5, k7, k8⟩ := giveO_k (η := η) x y
  rw [k4, k5, k7, k8, a4, a5, a6, a7]
  refine ⟨rfl, ?_, rfl, rfl⟩
  show _ = upd (ρ 6) x.toNatClampNeg (-1)
  by_cases c : ρ 6 x.toNatClampNeg = y
  · rw [if_pos c]
  · rw [if_neg c, upd_id (hr.resolve_right c)]
theorem giveO_RG {x y : Int32} (h : RG η) : RG (F_giveO η x y) := by
  obtain ⟨-, -, -, -, k4, k5, k7, k8⟩ := giveO_k (η := η) x y
  obtain ⟨h1, h2⟩ := h
  unfold RG
  rw [k4, k7, k8]
  by_cases c : η 7 x.toNatClampNeg = -1
  · rw [if_pos c, if_pos c]
    refine ⟨fun i hi hn => ?_, h2⟩
    have hne : i ≠ x.toNatClampNeg := fun q => hn (by rw [q]; exact c)
    rw [upd_n hne]; exact h1 i hi hn
  · rw [if_neg c, if_neg c]
    refine ⟨fun i hi hn => ?_, fun j hj hn => ?_⟩
    · have hne : i ≠ x.toNatClampNeg := fun q => hn (by rw [q]; exact upd_s _ _ _)
      rw [upd_n hne] at hn ⊢
      exact h1 i hi hn
    · have hne : j ≠ (η 7 x.toNatClampNeg).toNatClampNeg := fun q => hn (by rw [q]; exact upd_s _ _ _)
      rw [upd_n hne] at hn ⊢
      have e := h2 j hj hn
      have hne2 : (η 8 j).toNatClampNeg ≠ x.toNatClampNeg := fun q => by
        rw [q] at e
        exact hne (by rw [e, nI_clamp (by omega)])
      rw [upd_n hne2]; exact e
theorem full_0 {kc : Nat} (hmo : mo ≤ 100) (hk : kc ≤ mo) (ek : κ 2 0 = nI kc) : F_isFull mo κ = 0 ↔ ¬ κ 2 0 = nI mo := by
  unfold F_isFull
  rw [ek]
  by_cases c : kc < mo
  · rw [if_pos (nI_lt c (by omega))]
    exact ⟨fun _ x => by have := (nI_eq (by omega) (by omega)).mp x; omega, fun _ => rfl⟩
  · rw [if_neg (nI_nlt (by omega) (by omega))]
    exact ⟨fun x => absurd x (by decide), fun x => absurd (by rw [show kc = mo by omega]) x⟩
theorem in_ne {x : Int32} {n : Nat} (h : vp_in x n) : ¬ x = -1 := by
  intro q
  subst q
  exact h (Or.inl (by decide))
theorem LI_out {η' : SS} {f5 f6 f7 f8 f9 g0 g1 z : Nat → Int32} {v v' : Int32} (hi : CInv mo ω η' κ χ (ss (ss (ss ν 0 g0) 1 (fun _ => v)) 5 (fun _ => 1))) (a : η' 0 = ρ 0 ∧ η' 1 = ρ 1 ∧ η' 2 = ρ 2 ∧ η' 3 = ρ 4 ∧ η' 4 = f5 ∧ η' 5 = f6 ∧ η' 7 = f8 ∧ η' 8 = f9) (b : g0 = g1 ∧ κ 0 = ρ 11 ∧ κ 1 = ρ 12 ∧ κ 2 0 = ρ 22 0) (c : ω 0 0 = ρ 18 0 ∧ v = v' ∧ ν 2 0 = ρ 16 0 ∧ ν 3 0 = ρ 17 0 ∧ ν 4 0 = ρ 20 0) (hd : ρ 15 0 = nI mo) (he : RW η' ν ρ)
    (hf : ∃ xc : Nat, xc ≤ mo ∧ χ 2 0 = nI xc ∧ ρ 23 0 = nI xc ∧ ∀ i, i < xc → ρ 13 (3 * i) = χ 0 i ∧ ρ 13 (3 * i + 1) = χ 1 i ∧ ρ 13 (3 * i + 2) = (if χ 1 i = -1 then 1 else 0)) (hg : RG η') (hw : ω 0 0 = 0) (hm : ∃ l : Nat, v = nI l ∧ l ≤ 256 ∧ 2 * l ≤ t + 1) : LI mo (t + 1) ω η' κ χ (ss (ss (ss ν 0 g0) 1 (fun _ => v)) 5 (fun _ => 1)) (ss (ss (ss (ss (ss (ss (ss (ss (ss ρ 5 f5) 6 f6) 7 f7) 8 f8) 9 f9) 10 g1) 14 z) 19 (fun _ => v')) 21 (fun _ => 1)) := by
  obtain ⟨l, l1, l2, l3⟩ := hm
  exact ⟨hi, a, b, ⟨c.1, c.2.1, c.2.2.1, c.2.2.2.1, c.2.2.2.2, fun _ => rfl⟩, hd, he, hf, hg, fun _ x => absurd hw x, ⟨l, l1, l2, l3, fun _ x => absurd (show (1 : Int32) = 0 from x) (by decide)⟩⟩
theorem sim_lend (h : LI mo t ω η κ χ ν ρ) (ht : t < 512) : (F_lend mo ω η κ χ ν).1 = (F_mLend ρ).1 ∧ LI mo (t + 1) (F_lend mo ω η κ χ ν).2.1 (F_lend mo ω η κ χ ν).2.2.1 (F_lend mo ω η κ χ ν).2.2.2.1 (F_lend mo ω η κ χ ν).2.2.2.2.1 (F_lend mo ω η κ χ ν).2.2.2.2.2 (F_mLend ρ).2 := by
  obtain ⟨hI, ⟨a0, a1, a2, a3, a4, a5, a6, a7⟩, ⟨b0, b1, b2, b3⟩, ⟨c0, c1, c2, c3, c4, c5⟩, hd, he, hf, hg, hk, hm⟩ := li_t h
  obtain ⟨lc, m1, m2, m3, m4⟩ := h.2.2.2.2.2.2.2.2.2
  obtain ⟨hmo, hof, hH, ⟨kc, k1, k2, k3⟩, hX, hN⟩ := hI.un
  have hi := lend_in hI
  revert hi
  unfold F_lend F_mLend
  rw [show F_mAg (ss ρ 14 fun _ => 0) (ρ 20 0) (ρ 17 0) = F_mAg ρ (ρ 20 0) (ρ 17 0) from rfl, ← c2, ← c4, ← c0, ← c3]
  by_cases e1 : ν 2 0 = 2
  · rw [if_pos e1, if_pos e1]
    by_cases e2 : ν 4 0 = -1
    · rw [if_pos e2, if_pos (show F_hasI ν = 0 by unfold F_hasI; rw [if_pos e2])]; exact fun _ => ⟨rfl, li_14 (li_t h)⟩
    · rw [if_neg e2, ← c5 e2]
      by_cases e3 : ν 5 0 = 0
      · have hlt : 2 * lc + 1 ≤ t := m4 e2 e3
        have hh : ¬ F_hasI ν = 0 := by
          unfold F_hasI
          rw [if_neg e2, if_pos e3, m1, if_neg (nI_ge (by omega) (by decide))]
          decide
        rw [if_neg hh, if_pos e3]
        have hla : vp_in (ν 4 0) 60 := hN.2.1.resolve_left e2
        have eL : F_addL ν = ss (ss (ss ν 0 (upd (ν 0) (ν 1 0).toNatClampNeg (ν 4 0))) 1 (fun _ => ν 1 0 + 1)) 5 (fun _ => 1) := if_pos (by rw [m1]; exact nI_lt (by omega) (by decide))
        have hm2 : ∃ l : Nat, ν 1 0 + 1 = nI l ∧ l ≤ 256 ∧ 2 * l ≤ t + 1 ∧ (¬ ν 4 0 = -1 → (1 : Int32) = 0 → 2 * l + 1 ≤ t + 1) := ⟨lc + 1, by rw [m1, nI_1], by omega, by omega, fun _ x => absurd x (by decide)⟩
        by_cases e4 : ω 0 0 = 0
        · rw [if_pos e4, if_pos e4, refu_eq (x := ν 4 0) he a2 a4 a5 hN.1]
          by_cases e5 : F_mAg ρ (ν 4 0) (ν 3 0) = 0
          · rw [if_pos e5, if_pos (ag_0.mpr e5), eL]
            intro hi
            obtain ⟨g0, g1, g2, g3, -⟩ := giveO_k (η := η) (ν 4 0) (ν 3 0)
            obtain ⟨r4, r5, r7, r8⟩ := giveO_rel (ρ := ss ρ 14 (fun _ => 0)) a4 a5 a6 a7 (ag_res e5).2
            have he2 : RW (F_giveO η (ν 4 0) (ν 3 0)) ν ρ := by
              intro p hp
              rw [g3]; exact he p hp
            have hm3 : ∃ l : Nat, ν 1 0 + 1 = nI l ∧ l ≤ 256 ∧ 2 * l ≤ t + 1 := ⟨lc + 1, by rw [m1, nI_1], by omega, by omega⟩
            exact ⟨congrArg (· + 1) c1, LI_out hi ⟨g0.trans a0, g1.trans a1, g2.trans a2, g3.trans a3, r4, r5, r7, r8⟩ ⟨by rw [b0, c1], b1, b2, b3⟩ ⟨c0, congrArg (· + 1) c1, c2, c3, c4⟩ hd he2 hf (giveO_RG hg) e4 hm3⟩
          · rw [if_neg e5, if_neg (fun x => e5 (ag_0.mp x))]; exact fun _ => ⟨rfl, li_14 (li_t h)⟩
        · rw [if_neg e4, if_neg e4]
          obtain ⟨l5, n1, n2, n3⟩ := hk e1 e4
          have el : l5 = lc := (nI_eq (by omega) (by omega)).mp (n2.symm.trans m1)
          subst el
          unfold F_refO
          rw [← c1, ← b3, hd, m1, show (5 : Int32) = nI 5 from rfl]
          by_cases e5 : l5 < 5
          · rw [if_pos (nI_lt e5 (by decide)), if_neg (show ¬ nI l5 = nI 5 from fun x => by have := (nI_eq (by omega) (by decide)).mp x; omega)]
            by_cases e6 : F_isFull mo κ = 0
            · have eA : F_rAdd mo κ (ν 4 0) (ν 3 0) = ss (ss (ss κ 0 (upd (κ 0) (κ 2 0).toNatClampNeg (ν 4 0))) 1 (upd (κ 1) (κ 2 0).toNatClampNeg (ν 3 0))) 2 (fun _ => κ 2 0 + 1) := if_pos e6
              have hkm : kc < mo := by
                have x := (full_0 hmo k1 k2).mp e6
                rw [k2] at x
                rcases Nat.lt_or_ge kc mo with q | q
                · exact q
                · exact absurd (by rw [show kc = mo by omega]) x
              rw [if_pos e6, if_pos rfl, if_neg ((full_0 hmo k1 k2).mp e6), eL, eA]
              intro hi
              rw [m1] at hi hm2 ⊢
              refine ⟨rfl, hi, ⟨a0, a1, a2, a3, a4, a5, a6, a7⟩, ⟨by show upd (ν 0) (nI l5).toNatClampNeg (ν 4 0) = upd (ρ 10) (nI l5).toNatClampNeg (ν 4 0); rw [b0], by show upd (κ 0) (κ 2 0).toNatClampNeg (ν 4 0) = upd (ρ 11) (κ 2 0).toNatClampNeg (ν 4 0); rw [b1], by show upd (κ 1) (κ 2 0).toNatClampNeg (ν 3 0) = upd (ρ 12) (κ 2 0).toNatClampNeg (ν 3 0); rw [b2], rfl⟩, ⟨c0, rfl, c2, c3, c4, fun _ => rfl⟩, hd, he, hf, hg, fun _ _ => ⟨l5 + 1, by omega, nI_1 _, fun _ => ⟨kc + 1, kc, by show κ 2 0 + 1 = _; rw [k2, nI_1], by omega, by omega, ?_⟩⟩, hm2⟩
              show ¬ upd (κ 1) (κ 2 0).toNatClampNeg (ν 3 0) kc = -1
              rw [k2, nI_clamp (by omega), upd_s]
              exact in_ne hN.1
            · rw [if_neg e6, if_neg (show ¬ (-7 : Int32) = 0 by decide), if_pos (show κ 2 0 = nI mo from Classical.byContradiction fun x => e6 ((full_0 hmo k1 k2).mpr x))]
              exact fun _ => ⟨rfl, li_14 (li_t h)⟩
          · rw [if_neg (nI_nlt (by omega) (by omega)), if_pos (show nI l5 = nI 5 by rw [show l5 = 5 by omega]), if_neg (show ¬ (-6 : Int32) = 0 by decide)]
            exact fun _ => ⟨rfl, li_14 (li_t h)⟩
      · rw [if_neg e3, if_pos (show F_hasI ν = 0 by unfold F_hasI; rw [if_neg e2, if_neg e3])]; exact fun _ => ⟨rfl, li_14 (li_t h)⟩
  · rw [if_neg e1, if_neg e1]; exact fun _ => ⟨rfl, li_14 (li_t h)⟩
theorem takeB_k (x : Int32) : F_takeB η x = (if η 4 x.toNatClampNeg = -1 then 2 else if η 5 x.toNatClampNeg = -1 then 0 else 1, ss (ss η 4 (upd (η 4) x.toNatClampNeg (-1))) 6 (upd (η 6) x.toNatClampNeg (vp_nar .boolean 1))) := by
  unfold F_takeB
  by_cases c1 : η 4 x.toNatClampNeg = -1
  · rw [if_pos c1, if_pos c1, upd_id c1, ss_id]
  · rw [if_neg c1, if_neg c1]
    by_cases c2 : η 5 x.toNatClampNeg = -1
    · rw [if_pos c2, if_pos c2]
    · rw [if_neg c2, if_neg c2]
theorem take_RG {x : Int32} (h : RG η) : RG (ss (ss η 4 (upd (η 4) x.toNatClampNeg (-1))) 6 (upd (η 6) x.toNatClampNeg (vp_nar .boolean 1))) := by
  refine ⟨fun i hi hn => ?_, h.2⟩
  show upd (η 4) x.toNatClampNeg (-1) i = -1
  by_cases c : i = x.toNatClampNeg
  · rw [c, upd_s]
  · rw [upd_n c]; exact h.1 i hi hn
theorem sim_back (h : LI mo t ω η κ χ ν ρ) (ht : t < 512) (q1 : Int32) : (F_back mo ω η κ χ ν q1).1 = (F_mBack ρ q1).1 ∧ LI mo (t + 1) (F_back mo ω η κ χ ν q1).2.1 (F_back mo ω η κ χ ν q1).2.2.1 (F_back mo ω η κ χ ν q1).2.2.2.1 (F_back mo ω η κ χ ν q1).2.2.2.2.1 (F_back mo ω η κ χ ν q1).2.2.2.2.2 (F_mBack ρ q1).2 := by
  obtain ⟨hI, ⟨a0, a1, a2, a3, a4, a5, a6, a7⟩, ⟨b0, b1, b2, b3⟩, ⟨c0, c1, c2, c3, c4, c5⟩, hd, he, hf, hg, hk, hm⟩ := li_t h
  obtain ⟨hmo, hof, hH, ⟨kc, k1, k2, k3⟩, hX, hN⟩ := hI.un
  have hi := back_in (q1 := q1) hI
  revert hi
  unfold F_back F_mBack
  rw [show F_mIsI q1 = F_isItem q1 from rfl, ← c0, ← b3, hd]
  by_cases e1 : F_isItem q1 = 0
  · rw [if_pos e1, if_pos e1]; exact fun _ => ⟨rfl, li_14 (li_t h)⟩
  · rw [if_neg e1, if_neg e1]
    by_cases e2 : ω 0 0 = 0
    · rw [if_pos e2, if_pos e2, takeB_k]
      intro hi
      refine ⟨?_, hi, ⟨a0, a1, a2, a3, congrArg (fun f => upd f q1.toNatClampNeg (-1)) a4, a5, a6, a7⟩, ⟨b0, b1, b2, b3⟩, ⟨c0, c1, c2, c3, c4, c5⟩, hd, he, hf, take_RG hg, hk, hm⟩
      show (if η 4 q1.toNatClampNeg = -1 then (2 : Int32) else if η 5 q1.toNatClampNeg = -1 then 0 else 1) = (if ρ 5 q1.toNatClampNeg = -1 then (2 : Int32) else if ρ 6 q1.toNatClampNeg = -1 then 0 else 1)
      rw [a4, a5]
    · rw [if_neg e2, if_neg e2]
      by_cases e6 : F_isFull mo κ = 0
      · have eA : F_rAdd mo κ q1 (-1) = ss (ss (ss κ 0 (upd (κ 0) (κ 2 0).toNatClampNeg q1)) 1 (upd (κ 1) (κ 2 0).toNatClampNeg (-1))) 2 (fun _ => κ 2 0 + 1) := if_pos e6
        have hkm : kc < mo := by
          have x := (full_0 hmo k1 k2).mp e6
          rw [k2] at x
          rcases Nat.lt_or_ge kc mo with q | q
          · exact q
          · exact absurd (by rw [show kc = mo by omega]) x
        rw [if_pos e6, if_neg ((full_0 hmo k1 k2).mp e6), eA]
        intro hi
        refine ⟨rfl, hi, ⟨a0, a1, a2, a3, a4, a5, a6, a7⟩, ⟨b0, by show upd (κ 0) (κ 2 0).toNatClampNeg q1 = upd (ρ 11) (κ 2 0).toNatClampNeg q1; rw [b1], by show upd (κ 1) (κ 2 0).toNatClampNeg (-1) = upd (ρ 12) (κ 2 0).toNatClampNeg (-1); rw [b2], rfl⟩, ⟨c0, c1, c2, c3, c4, c5⟩, hd, he, hf, hg, fun s1 s2 => ?_, hm⟩
        obtain ⟨l5, n1, n2, n3⟩ := hk s1 s2
        refine ⟨l5, n1, n2, fun hl => ?_⟩
        obtain ⟨kc', r, p1, p2, p3, p4⟩ := n3 hl
        have ek : kc' = kc := (nI_eq (by omega) (by omega)).mp (p1.symm.trans k2)
        subst ek
        refine ⟨kc' + 1, r, by show κ 2 0 + 1 = _; rw [k2, nI_1], by omega, by omega, ?_⟩
        show ¬ upd (κ 1) (κ 2 0).toNatClampNeg (-1) r = -1
        rw [k2, nI_clamp (by omega), upd_n (by omega)]
        exact p4
      · rw [if_neg e6, if_pos (show κ 2 0 = nI mo from Classical.byContradiction fun x => e6 ((full_0 hmo k1 k2).mpr x))]
        exact fun _ => ⟨rfl, li_14 (li_t h)⟩
theorem lt10 {x : Int32} : 10 ≤ x ↔ 9 < x := by
  rw [Int32.lt_iff_toInt_lt, Int32.le_iff_toInt_le]
  have e1 : Int32.toInt 10 = 10 := rfl
  have e2 : Int32.toInt 9 = 9 := rfl
  omega
theorem LI_opn {η' : SS} {f5 f6 f7 f8 f9 z : Nat → Int32} (hi : CInv mo ω η' κ χ ν) (a : η' 0 = ρ 0 ∧ η' 1 = ρ 1 ∧ η' 2 = ρ 2 ∧ η' 3 = ρ 4 ∧ η' 4 = f5 ∧ η' 5 = f6 ∧ η' 7 = f8 ∧ η' 8 = f9) (h : LI mo t ω η κ χ ν ρ) (he : RW η' ν ρ) (hg : RG η') : LI mo t ω η' κ χ ν (ss (ss (ss (ss (ss (ss ρ 5 f5) 6 f6) 7 f7) 8 f8) 9 f9) 14 z) := by
  obtain ⟨-, -, hb, hc, hd, -, hf, -, hk, hm⟩ := h
  exact ⟨hi, a, hb, hc, hd, he, hf, hg, hk, hm⟩
theorem sim_opn (h : LI mo t ω η κ χ ν ρ) (ht : t < 512) (q1 q2 : Int32) : (F_opn mo ω η κ χ ν q1 q2).1 = (F_mOpn ρ q1 q2).1 ∧ LI mo (t + 1) (F_opn mo ω η κ χ ν q1 q2).2.1 (F_opn mo ω η κ χ ν q1 q2).2.2.1 (F_opn mo ω η κ χ ν q1 q2).2.2.2.1 (F_opn mo ω η κ χ ν q1 q2).2.2.2.2.1 (F_opn mo ω η κ χ ν q1 q2).2.2.2.2.2 (F_mOpn ρ q1 q2).2 := by
  obtain ⟨hI, ⟨a0, a1, a2, a3, a4, a5, a6, a7⟩, hb, hc, hd, he, hf, hg, hk, hm⟩ := li_t h
  obtain ⟨hmo, hof, hH, hK, hX, hN⟩ := hI.un
  have hi := opn_in (q1 := q1) (q2 := q2) hI
  revert hi
  unfold F_opn F_mOpn
  rw [← a7, ← a5, ← a0]
  by_cases e1 : q1 < 0
  · rw [if_pos e1, if_pos e1]; exact fun _ => ⟨rfl, li_14 (li_t h)⟩
  · rw [if_neg e1, if_neg e1]
    by_cases e2 : 10 ≤ q1
    · rw [if_pos e2, if_pos (lt10.mp e2)]; exact fun _ => ⟨rfl, li_14 (li_t h)⟩
    · rw [if_neg e2, if_neg (fun x => e2 (lt10.mpr x))]
      have hq : vp_in q1 10 := in_ge (n := 10) e1 e2 (by decide)
      by_cases e3 : η 8 q1.toNatClampNeg = -1
      · rw [if_pos e3, if_pos e3]; exact fun _ => ⟨rfl, li_14 (li_t h)⟩
      · rw [if_neg e3, if_neg e3]
        have hx : vp_in (η 8 q1.toNatClampNeg) 60 := (hH.2.2 _ (clt hq)).resolve_left e3
        have h7 := hg.2 _ (clt hq) e3
        have h4 : η 4 (η 8 q1.toNatClampNeg).toNatClampNeg = -1 := hg.1 _ (clt hx) (by rw [h7]; exact nI_m1 (by have := clt hq; omega))
        generalize η 8 q1.toNatClampNeg = x at hx h4 ⊢
        by_cases e4 : η 5 x.toNatClampNeg = -1
        · rw [if_pos e4, if_pos e4]; exact fun _ => ⟨rfl, li_14 (li_t h)⟩
        · rw [if_neg e4, if_neg e4]
          have hp : vp_in (η 5 x.toNatClampNeg) 40 := (hH.1 _ (clt hx)).resolve_left e4
          have hr5 : ρ 6 x.toNatClampNeg = -1 ∨ ρ 6 x.toNatClampNeg = η 5 x.toNatClampNeg := Or.inr (by rw [a5])
          have eR : ∀ y, y = η 5 x.toNatClampNeg → F_refu η x y = if F_isBl η y = 0 then (if F_cntI η y < 10 then 0 else -5) else -4 := by
            intro y hy
            unfold F_refu
            rw [if_pos h4, if_neg e4, if_pos hy.symm]
          by_cases e5 : η 0 (η 5 x.toNatClampNeg).toNatClampNeg = q2
          · rw [if_pos e5, if_pos e5, eR _ rfl]
            generalize hy : η 5 x.toNatClampNeg = y at hp hr5 ⊢
            rw [show F_mIsB (ss ρ 14 fun _ => 0) y = F_mIsB ρ y from rfl, ← isB_eq he a2 hp, show F_mHas (ss ρ 14 fun _ => 0) y = F_cntI η y from by show nI (cnt (ρ 5) y 60) = nI (cnt (η 4) y 60); rw [a4]]
            by_cases e6 : F_isBl η y = 0
            · rw [if_pos e6, if_pos e6]
              by_cases e7 : F_cntI η y < 10
              · rw [if_pos e7, if_pos e7, if_pos rfl]
                intro hi
                obtain ⟨g0, g1, g2, g3, -⟩ := giveO_k (η := η) x y
                obtain ⟨r4, r5, r7, r8⟩ := giveO_rel (ρ := ss ρ 14 (fun _ => 0)) a4 a5 a6 a7 hr5
                have he2 : RW (F_giveO η x y) ν ρ := by
                  intro p hp
                  rw [g3]; exact he p hp
                exact ⟨rfl, LI_opn hi ⟨g0.trans a0, g1.trans a1, g2.trans a2, g3.trans a3, r4, r5, r7, r8⟩ (li_t h) he2 (giveO_RG hg)⟩
              · rw [if_neg e7, if_neg e7, if_neg (show ¬ (-5 : Int32) = 0 by decide)]; exact fun _ => ⟨rfl, li_14 (li_t h)⟩
            · rw [if_neg e6, if_neg e6, if_neg (show ¬ (-4 : Int32) = 0 by decide)]; exact fun _ => ⟨rfl, li_14 (li_t h)⟩
          · rw [if_neg e5, if_neg e5]; exact fun _ => ⟨rfl, li_14 (li_t h)⟩
theorem sim_locker (h : LI mo t ω η κ χ ν ρ) (ht : t < 512) (q1 : Int32) : (F_locker mo ω η κ χ ν q1).1 = (F_mLocker ρ q1).1 ∧ LI mo (t + 1) (F_locker mo ω η κ χ ν q1).2.1 (F_locker mo ω η κ χ ν q1).2.2.1 (F_locker mo ω η κ χ ν q1).2.2.2.1 (F_locker mo ω η κ χ ν q1).2.2.2.2.1 (F_locker mo ω η κ χ ν q1).2.2.2.2.2 (F_mLocker ρ q1).2 := by
  obtain ⟨hI, ⟨a0, a1, a2, a3, a4, a5, a6, a7⟩, hb, hc, hd, he, hf, hg, hk, hm⟩ := li_t h
  have hi := locker_in (q1 := q1) hI
  revert hi
  unfold F_locker F_mLocker F_mayG
  rw [← a4, ← a5, ← a6, ← a7, show F_mIsI q1 = F_isItem q1 from rfl, show fst_from (η 8) 10 0 = F_fel η from rfl]
  by_cases e1 : F_isItem q1 = 0
  · rw [if_pos e1, if_pos e1]; exact fun _ => ⟨rfl, li_14 (li_t h)⟩
  · rw [if_neg e1, if_neg e1]
    by_cases e2 : η 4 q1.toNatClampNeg = -1
    · rw [if_pos e2, if_pos e2]
      by_cases e3 : η 5 q1.toNatClampNeg = -1
      · rw [if_pos e3, if_pos e3, if_pos rfl]; exact fun _ => ⟨rfl, li_14 (li_t h)⟩
      · rw [if_neg e3, if_neg e3]
        by_cases e4 : η 7 q1.toNatClampNeg = -1
        · rw [if_pos e4, if_pos e4, if_neg (show ¬ (1 : Int32) = 0 by decide)]
          by_cases e5 : F_fel η = -1
          · rw [if_pos e5, if_pos e5, e5]; exact fun _ => ⟨rfl, li_14 (li_t h)⟩
          · rw [if_neg e5, if_neg e5]
            have hfl := fel_in e5
            obtain ⟨v, hv, ev⟩ := vp_in_of hfl (by decide)
            rw [ev]
            intro hi
            refine ⟨rfl, hi, ⟨a0, a1, a2, a3, a4, a5, rfl, rfl⟩, hb, hc, hd, he, hf, ⟨fun i hi9 hn => ?_, fun j hj hn => ?_⟩, hk, hm⟩
            · show η 4 i = -1
              by_cases c : i = q1.toNatClampNeg
              · rw [c]; exact e2
              · exact hg.1 i hi9 (by have hn2 : ¬ upd (η 7) q1.toNatClampNeg (nI v) i = -1 := hn; rw [upd_n c] at hn2; exact hn2)
            · show upd (η 7) q1.toNatClampNeg (nI v) (upd (η 8) (nI v).toNatClampNeg q1 j).toNatClampNeg = nI j
              have hn2 : ¬ upd (η 8) (nI v).toNatClampNeg q1 j = -1 := hn
              rw [nI_clamp (by omega)] at hn2 ⊢
              by_cases c : j = v
              · subst c; rw [upd_s, upd_s]
              · rw [upd_n c] at hn2 ⊢
                have e := hg.2 j hj hn2
                have hne : (η 8 j).toNatClampNeg ≠ q1.toNatClampNeg := fun q => by
                  rw [q, e4] at e
                  exact absurd e.symm (nI_m1 (by omega))
                rw [upd_n hne]; exact e
        · rw [if_neg e4, if_neg e4, if_pos rfl]; exact fun _ => ⟨rfl, li_14 (li_t h)⟩
    · rw [if_neg e2, if_neg e2, if_pos rfl]; exact fun _ => ⟨rfl, li_14 (li_t h)⟩
theorem rl_rf {kc : Nat} (hk : kc ≤ 100) : ∀ j, j ≤ kc → (∃ r, r < j ∧ ¬ κ 1 r = -1) → rl mo κ j = F_remR mo κ (nI (rf (κ 1) j)) (nI (rf (κ 1) j) + 1) := by
  intro j
  induction j with
  | zero => intro _ ⟨r, h, _⟩; omega
  | succ j ih =>
    intro hj ⟨r, h1, h2⟩
    have eq : F_isLend mo κ (nI j) = if κ 1 j = -1 then 0 else 1 := by
      unfold F_isLend
      rw [nI_clamp (by omega)]
    by_cases c : κ 1 j = -1
    · have hrj : r < j := by
        rcases Nat.lt_or_ge r j with a | a
        · exact a
        · exact absurd (by rw [show r = j by omega]; exact c) h2
      rw [rl_f (j := j + 1) (by omega) (by show F_isLend mo κ (nI j) = 0; rw [eq, if_pos c]), rf_f (j := j + 1) (by omega) c]
      exact ih (by omega) ⟨r, hrj, h2⟩
    · rw [rl_t (j := j + 1) (by omega) (by show ¬ F_isLend mo κ (nI j) = 0; rw [eq, if_neg c]; decide), rf_t (j := j + 1) (by omega) c]
theorem RW.z {ν' : SS} (h : RW η ν ρ) (hz : ν' 2 0 = 0) : RW η ν' ρ := by
  intro p hp
  obtain ⟨w, h1, h2, h3, -⟩ := h p hp
  exact ⟨w, h1, h2, h3, fun x => absurd (hz.symm.trans x) (by decide)⟩
theorem LI_end {η' κ' : SS} {f5 f11 f12 : Nat → Int32} {v v22 : Int32} (hi : CInv mo ω η' κ' χ (ss (ss ν 1 (fun _ => v)) 2 (fun _ => 0))) (h : LI mo t ω η κ χ ν ρ) (a : η' 0 = ρ 0 ∧ η' 1 = ρ 1 ∧ η' 2 = ρ 2 ∧ η' 3 = ρ 4 ∧ η' 4 = f5 ∧ η' 5 = ρ 6 ∧ η' 7 = ρ 8 ∧ η' 8 = ρ 9) (b : κ' 0 = f11 ∧ κ' 1 = f12 ∧ κ' 2 0 = v22) (he : RW η' (ss (ss ν 1 (fun _ => v)) 2 (fun _ => 0)) ρ) (hg : RG η') (hm : ∃ l l0 : Nat, v = nI l ∧ ν 1 0 = nI l0 ∧ l ≤ l0 ∧ l0 ≤ 256) (ρ' : SS) (r : ρ' 0 = ρ 0 ∧ ρ' 1 = ρ 1 ∧ ρ' 2 = ρ 2 ∧ ρ' 3 = ρ 3 ∧ ρ' 4 = ρ 4 ∧ ρ' 5 = f5 ∧ ρ' 6 = ρ 6 ∧ ρ' 8 = ρ 8 ∧ ρ' 9 = ρ 9) (r2 : ρ' 10 = ρ 10 ∧ ρ' 11 = f11 ∧ ρ' 12 = f12 ∧ ρ' 13 = ρ 13 ∧ ρ' 15 = ρ 15 ∧ ρ' 16 0 = 0 ∧ ρ' 17 = ρ 17 ∧ ρ' 18 = ρ 18 ∧ ρ' 19 0 = v ∧ ρ' 20 = ρ 20 ∧ ρ' 21 = ρ 21 ∧ ρ' 22 0 = v22 ∧ ρ' 23 = ρ 23) : LI mo t ω η' κ' χ (ss (ss ν 1 (fun _ => v)) 2 (fun _ => 0)) ρ' := by
  obtain ⟨-, -, ⟨b0, -⟩, ⟨c0, c1, c2, c3, c4, c5⟩, hd, -, hf, -, -, ⟨lc, m1, m2, m3, m4⟩⟩ := h
  obtain ⟨l, l0, l1, l2, l3, l4⟩ := hm
  have el : l0 = lc := (nI_eq (by omega) (by omega)).mp (l2.symm.trans m1)
  subst el
  obtain ⟨r0, r1, r2', r3, r4, r5, r6, r8, r9⟩ := r
  obtain ⟨s10, s11, s12, s13, s15, s16, s17, s18, s19, s20, s21, s22, s23⟩ := r2
  refine ⟨hi, ⟨by rw [r0]; exact a.1, by rw [r1]; exact a.2.1, by rw [r2']; exact a.2.2.1, by rw [r4]; exact a.2.2.2.1, by rw [r5]; exact a.2.2.2.2.1, by rw [r6]; exact a.2.2.2.2.2.1, by rw [r8]; exact a.2.2.2.2.2.2.1, by rw [r9]; exact a.2.2.2.2.2.2.2⟩, ⟨by rw [s10]; exact b0, by rw [s11]; exact b.1, by rw [s12]; exact b.2.1, by rw [s22]; exact b.2.2⟩, ⟨by rw [s18]; exact c0, by rw [s19]; rfl, by rw [s16]; rfl, by rw [s17]; exact c3, by rw [s20]; exact c4, fun x => by rw [s21]; exact c5 x⟩, by rw [s15]; exact hd, ?_, ?_, hg, fun x => absurd (show (0 : Int32) = 2 from x) (by decide), ⟨l, l1, by omega, by omega, fun x y => by have := m4 x y; omega⟩⟩
  · intro p hp
    rw [r3]; exact he p hp
  · rw [s13, s23]; exact hf
theorem sim_endM (h : LI mo t ω η κ χ ν ρ) (ht : t < 512) (q1 : Int32) (hz : q1 = 0 ∨ q1 = 1) : (F_endM mo ω η κ χ ν q1).1 = (F_mEnd ρ q1).1 ∧ LI mo (t + 1) (F_endM mo ω η κ χ ν q1).2.1 (F_endM mo ω η κ χ ν q1).2.2.1 (F_endM mo ω η κ χ ν q1).2.2.2.1 (F_endM mo ω η κ χ ν q1).2.2.2.2.1 (F_endM mo ω η κ χ ν q1).2.2.2.2.2 (F_mEnd ρ q1).2 := by
  obtain ⟨hI, ⟨a0, a1, a2, a3, a4, a5, a6, a7⟩, ⟨b0, b1, b2, b3⟩, ⟨c0, c1, c2, c3, c4, c5⟩, hd, he, hf, hg, hk, ⟨lc, m1, m2, m3, m4⟩⟩ := li_t h
  obtain ⟨hmo, hof, hH, ⟨kc, k1, k2, k3⟩, hX, hN⟩ := hI.un
  have hi := endM_in (q1 := q1) hI
  revert hi
  unfold F_endM F_mEnd F_undo
  rw [← c2, ← c1, ← c0, ← b0, ← b2, ← b3]
  by_cases e1 : ν 2 0 = 2
  · rw [if_pos e1, if_pos e1]
    by_cases e2 : q1 = 0
    · rw [if_pos e2, if_pos e2]
      exact fun hi => ⟨rfl, hi, ⟨a0, a1, a2, a3, a4, a5, a6, a7⟩, ⟨b0, b1, b2, b3⟩, ⟨c0, c1, rfl, c3, c4, c5⟩, hd, RW.z he rfl, hf, hg, fun x => absurd (show (0 : Int32) = 2 from x) (by decide), ⟨lc, m1, m2, m3, m4⟩⟩
    · rw [if_neg e2, if_neg e2]
      by_cases e3 : ν 1 0 ≤ 0
      · rw [if_pos e3, if_pos e3]
        exact fun hi => ⟨rfl, hi, ⟨a0, a1, a2, a3, a4, a5, a6, a7⟩, ⟨b0, b1, b2, b3⟩, ⟨c0, c1, rfl, c3, c4, c5⟩, hd, RW.z he rfl, hf, hg, fun x => absurd (show (0 : Int32) = 2 from x) (by decide), ⟨lc, m1, m2, m3, m4⟩⟩
      · rw [if_neg e3, if_neg e3]
        have hp : 0 < lc := by
          rcases Nat.eq_zero_or_pos lc with q | q
          · subst q; exact absurd (by rw [m1]; decide) e3
          · exact q
        have hml : ∃ l l0 : Nat, ν 1 0 - 1 = nI l ∧ ν 1 0 = nI l0 ∧ l ≤ l0 ∧ l0 ≤ 256 := ⟨lc - 1, lc, by rw [m1, nI_dn hp], m1, by omega, m2⟩
        by_cases e4 : ω 0 0 = 0
        · rw [if_pos e4, if_pos e4, takeB_k]
          intro hi
          refine ⟨rfl, LI_end (η' := ss (ss η 4 (upd (η 4) (ν 0 (ν 1 0 - 1).toNatClampNeg).toNatClampNeg (-1))) 6 (upd (η 6) (ν 0 (ν 1 0 - 1).toNatClampNeg).toNatClampNeg (vp_nar .boolean 1))) (κ' := κ) (f5 := upd (ρ 5) (ν 0 (ν 1 0 - 1).toNatClampNeg).toNatClampNeg (-1)) (f11 := ρ 11) (f12 := ρ 12) (v := ν 1 0 - 1) (v22 := ρ 22 0) hi (li_t h) ⟨a0, a1, a2, a3, by show upd (η 4) _ (-1) = _; rw [a4], a5, a6, a7⟩ ⟨b1, b2, b3⟩ (RW.z (ν := ν) (η := η) he rfl) (take_RG hg) hml _ ⟨rfl, rfl, rfl, rfl, rfl, rfl, rfl, rfl, rfl⟩ ⟨rfl, rfl, rfl, rfl, rfl, rfl, rfl, rfl, rfl, rfl, rfl, rfl, rfl⟩⟩
        · rw [if_neg e4, if_neg e4]
          obtain ⟨l5, n1, n2, n3⟩ := hk e1 e4
          have el : l5 = lc := (nI_eq (by omega) (by omega)).mp (n2.symm.trans m1)
          subst el
          obtain ⟨kc', r9, p1, p2, p3, p4⟩ := n3 hp
          have ek9 : kc' = kc := (nI_eq (by omega) (by omega)).mp (p1.symm.trans k2)
          subst ek9
          have hrow : ∃ r, r < kc' ∧ ¬ κ 1 r = -1 := ⟨r9, p2, p4⟩
          have hrl := rf_lt kc' hrow
          have er := rl_rf (mo := mo) (κ := κ) (kc := kc') (by omega) kc' (Nat.le_refl _) hrow
          have eK : F_rLL mo κ = ss (ss (ss κ 0 (shl (κ 0) (rf (κ 1) kc') (rf (κ 1) kc' + 1) (kc' - 1 - rf (κ 1) kc'))) 1 (shl (κ 1) (rf (κ 1) kc') (rf (κ 1) kc' + 1) (kc' - 1 - rf (κ 1) kc'))) 2 (fun _ => nI (kc' - 1)) := by
            show rl mo κ (κ 2 0).toNatClampNeg = _
            rw [k2, nI_clamp (by omega), er, nI_1, remR_eq hmo k1 k2 (by omega) (by omega), show kc' - (rf (κ 1) kc' + 1) = kc' - 1 - rf (κ 1) kc' by omega, show kc' - (rf (κ 1) kc' + 1 - rf (κ 1) kc') = kc' - 1 by omega]
          rw [eK]
          intro hi
          have hrk : (nI (rf (κ 1) kc')).toNatClampNeg = rf (κ 1) kc' := nI_clamp (by omega)
          have hkk : (ρ 22 0).toNatClampNeg = kc' := by rw [← b3, k2, nI_clamp (by omega)]
          have hkk2 : (κ 2 0).toNatClampNeg = kc' := by rw [k2, nI_clamp (by omega)]
          refine ⟨rfl, LI_end (η' := ss η 6 (upd (η 6) (ν 0 (ν 1 0 - 1).toNatClampNeg).toNatClampNeg (vp_nar .boolean 1))) (f5 := ρ 5) (f11 := shl (ρ 11) (rf (κ 1) kc') (rf (κ 1) kc' + 1) (kc' - 1 - rf (κ 1) kc')) (f12 := shl (ρ 12) (rf (κ 1) kc') (rf (κ 1) kc' + 1) (kc' - 1 - rf (κ 1) kc')) (v := ν 1 0 - 1) (v22 := nI (kc' - 1)) hi (li_t h) ⟨a0, a1, a2, a3, a4, a5, a6, a7⟩ ⟨by show shl (κ 0) _ _ _ = _; rw [b1], by show shl (κ 1) _ _ _ = _; rw [b2], rfl⟩ (RW.z (ν := ν) (η := η) he rfl) hg hml _ ⟨rfl, rfl, rfl, rfl, rfl, rfl, rfl, rfl, rfl⟩ ⟨rfl, ?_, ?_, rfl, rfl, rfl, rfl, rfl, rfl, rfl, rfl, ?_, rfl⟩⟩
          · show shl (ρ 11) (nI (rf (κ 1) (κ 2 0).toNatClampNeg)).toNatClampNeg ((nI (rf (κ 1) (κ 2 0).toNatClampNeg)).toNatClampNeg + 1) ((ρ 22 0).toNatClampNeg - 1 - (nI (rf (κ 1) (κ 2 0).toNatClampNeg)).toNatClampNeg) = _
            rw [hkk, hkk2, hrk]
          · show shl (ρ 12) (nI (rf (κ 1) (κ 2 0).toNatClampNeg)).toNatClampNeg ((nI (rf (κ 1) (κ 2 0).toNatClampNeg)).toNatClampNeg + 1) ((ρ 22 0).toNatClampNeg - 1 - (nI (rf (κ 1) (κ 2 0).toNatClampNeg)).toNatClampNeg) = _
            rw [hkk, hkk2, hrk]
          · show ρ 22 0 - 1 = _
            rw [← b3, k2, nI_dn (by omega)]
  · rw [if_neg e1, if_neg e1]; exact fun _ => ⟨rfl, li_14 (li_t h)⟩
/-- what the rows of clashes are -/
def RX (mo xc : Nat) (χ ρ : SS) : Prop := χ 2 0 = nI xc ∧ ρ 23 0 = nI xc ∧ ∀ i, i < xc → ρ 13 (3 * i) = χ 0 i ∧ ρ 13 (3 * i + 1) = χ 1 i ∧ ρ 13 (3 * i + 2) = (if χ 1 i = -1 then 1 else 0)
theorem RX.add {xc : Nat} {x p fl : Int32} (hmo : mo ≤ 100) (hx : xc < mo) (h : RX mo xc χ ρ) (hfl : fl = if p = -1 then 1 else 0) (ρ' : SS) (e13 : ρ' 13 = upd (upd (upd (ρ 13) (3 * ρ 23 0).toNatClampNeg x) (3 * ρ 23 0 + 1).toNatClampNeg p) (3 * ρ 23 0 + 2).toNatClampNeg fl) (e23 : ρ' 23 0 = ρ 23 0 + 1) : RX mo (xc + 1) (F_rAdd mo χ x p) ρ' := by
  obtain ⟨h1, h2, h3⟩ := h
  have hfull : F_isFull mo χ = 0 := by
    unfold F_isFull
    rw [h1, if_pos (nI_lt hx (by omega))]
  have eA : F_rAdd mo χ x p = ss (ss (ss χ 0 (upd (χ 0) (χ 2 0).toNatClampNeg x)) 1 (upd (χ 1) (χ 2 0).toNatClampNeg p)) 2 (fun _ => χ 2 0 + 1) := if_pos hfull
  have i0 : (3 * ρ 23 0).toNatClampNeg = 3 * xc := by rw [h2, show (3 : Int32) = nI 3 from rfl, pk_mul, nI_clamp (by omega)]
  have i1 : (3 * ρ 23 0 + 1).toNatClampNeg = 3 * xc + 1 := by rw [h2, show (3 : Int32) = nI 3 from rfl, pk_mul, nI_1, nI_clamp (by omega)]
  have i2 : (3 * ρ 23 0 + 2).toNatClampNeg = 3 * xc + 2 := by rw [h2, show (3 : Int32) = nI 3 from rfl, pk_mul, show (2 : Int32) = nI 2 from rfl, nI_add, nI_clamp (by omega)]
  have ic : (χ 2 0).toNatClampNeg = xc := by rw [h1, nI_clamp (by omega)]
  rw [i0, i1, i2] at e13
  refine ⟨by rw [eA]; show χ 2 0 + 1 = _; rw [h1, nI_1], by rw [e23, h2, nI_1], fun i hi => ?_⟩
  rw [eA, e13]
  show upd (upd (upd (ρ 13) (3 * xc) x) (3 * xc + 1) p) (3 * xc + 2) fl (3 * i) = upd (χ 0) (χ 2 0).toNatClampNeg x i ∧ upd (upd (upd (ρ 13) (3 * xc) x) (3 * xc + 1) p) (3 * xc + 2) fl (3 * i + 1) = upd (χ 1) (χ 2 0).toNatClampNeg p i ∧ upd (upd (upd (ρ 13) (3 * xc) x) (3 * xc + 1) p) (3 * xc + 2) fl (3 * i + 2) = (if upd (χ 1) (χ 2 0).toNatClampNeg p i = -1 then 1 else 0)
  rw [ic]
  by_cases c : i = xc
  · subst c
    rw [upd_s, upd_s, upd_n (show 3 * i ≠ 3 * i + 2 by omega), upd_n (show 3 * i ≠ 3 * i + 1 by omega), upd_s, upd_n (show 3 * i + 1 ≠ 3 * i + 2 by omega), upd_s, upd_s]
    exact ⟨rfl, rfl, hfl⟩
  · rw [upd_n c, upd_n c, upd_n (show 3 * i ≠ 3 * xc + 2 by omega), upd_n (show 3 * i ≠ 3 * xc + 1 by omega), upd_n (show 3 * i ≠ 3 * xc by omega), upd_n (show 3 * i + 1 ≠ 3 * xc + 2 by omega), upd_n (show 3 * i + 1 ≠ 3 * xc + 1 by omega), upd_n (show 3 * i + 1 ≠ 3 * xc by omega), upd_n (show 3 * i + 2 ≠ 3 * xc + 2 by omega), upd_n (show 3 * i + 2 ≠ 3 * xc + 1 by omega), upd_n (show 3 * i + 2 ≠ 3 * xc by omega)]
    exact h3 i (by omega)
/-- the states while rows are joined -/
def JJ (mo i : Nat) (η χ ν ρ : SS) : Prop := (η 0 = ρ 0 ∧ η 1 = ρ 1 ∧ η 2 = ρ 2 ∧ η 3 = ρ 4 ∧ η 4 = ρ 5 ∧ η 5 = ρ 6 ∧ η 7 = ρ 8 ∧ η 8 = ρ 9) ∧ RW η ν ρ ∧ (∃ xc, xc ≤ i ∧ RX mo xc χ ρ) ∧ RG η
/-- what joining doesn't touch in the reference -/
def JU (ρ ρ' : SS) : Prop := ρ' 10 = ρ 10 ∧ ρ' 11 = ρ 11 ∧ ρ' 12 = ρ 12 ∧ ρ' 15 = ρ 15 ∧ ρ' 16 = ρ 16 ∧ ρ' 17 = ρ 17 ∧ ρ' 18 = ρ 18 ∧ ρ' 19 = ρ 19 ∧ ρ' 20 = ρ 20 ∧ ρ' 21 = ρ 21 ∧ ρ' 22 = ρ 22
theorem JU.tr {ρ ρ' ρ2 : SS} (h : JU ρ ρ') (g : JU ρ' ρ2) : JU ρ ρ2 := by
  obtain ⟨h1, h2, h3, h4, h5, h6, h7, h8, h9, h10, h11⟩ := h
  obtain ⟨g1, g2, g3, g4, g5, g6, g7, g8, g9, g10, g11⟩ := g
  exact ⟨g1.trans h1, g2.trans h2, g3.trans h3, g4.trans h4, g5.trans h5, g6.trans h6, g7.trans h7, g8.trans h8, g9.trans h9, g10.trans h10, g11.trans h11⟩
theorem jst_u (ρ : SS) (i : Nat) : JU ρ (F_mJst ρ i) := by
  unfold F_mJst
  repeat' split
  all_goals exact ⟨rfl, rfl, rfl, rfl, rfl, rfl, rfl, rfl, rfl, rfl, rfl⟩
theorem joinR_k (x p : Int32) : (F_joinR mo ω η κ χ ν x p).1 = ω ∧ (F_joinR mo ω η κ χ ν x p).2.2.1 = κ ∧ (F_joinR mo ω η κ χ ν x p).2.2.2.2 = ν := by
  unfold F_joinR
  repeat' split
  all_goals exact ⟨rfl, rfl, rfl⟩
theorem JJ_out {i : Nat} {η' : SS} {f5 f6 f7 f8 f9 : Nat → Int32} (h : JJ mo i η χ ν ρ) (a : η' 0 = ρ 0 ∧ η' 1 = ρ 1 ∧ η' 2 = ρ 2 ∧ η' 3 = ρ 4 ∧ η' 4 = f5 ∧ η' 5 = f6 ∧ η' 7 = f8 ∧ η' 8 = f9) (he : RW η' ν ρ) (hg : RG η') : JJ mo (i + 1) η' χ ν (ss (ss (ss (ss (ss ρ 5 f5) 6 f6) 7 f7) 8 f8) 9 f9) := by
  obtain ⟨-, -, ⟨xc, x1, x2⟩, -⟩ := h
  exact ⟨a, he, ⟨xc, by omega, x2⟩, hg⟩
theorem JJ_come {i : Nat} {η' : SS} {f5 f7 : Nat → Int32} (h : JJ mo i η χ ν ρ) (a : η' 0 = ρ 0 ∧ η' 1 = ρ 1 ∧ η' 2 = ρ 2 ∧ η' 3 = ρ 4 ∧ η' 4 = f5 ∧ η' 5 = ρ 6 ∧ η' 7 = ρ 8 ∧ η' 8 = ρ 9) (he : RW η' ν ρ) (hg : RG η') : JJ mo (i + 1) η' χ ν (ss (ss ρ 5 f5) 7 f7) := by
  obtain ⟨-, -, ⟨xc, x1, x2⟩, -⟩ := h
  exact ⟨a, he, ⟨xc, by omega, x2⟩, hg⟩
theorem JJ_clash {i : Nat} {η' : SS} {x p fl : Int32} (hmo : mo ≤ 100) (hi : i < mo) (h : JJ mo i η χ ν ρ) (a : η' 0 = ρ 0 ∧ η' 1 = ρ 1 ∧ η' 2 = ρ 2 ∧ η' 3 = ρ 4 ∧ η' 4 = ρ 5 ∧ η' 5 = ρ 6 ∧ η' 7 = ρ 8 ∧ η' 8 = ρ 9) (he : RW η' ν ρ) (hg : RG η') (hfl : fl = if p = -1 then 1 else 0) : JJ mo (i + 1) η' (F_rAdd mo χ x p) ν (ss (ss ρ 13 (upd (upd (upd (ρ 13) (3 * ρ 23 0).toNatClampNeg x) (3 * ρ 23 0 + 1).toNatClampNeg p) (3 * ρ 23 0 + 2).toNatClampNeg fl)) 23 (fun _ => ρ 23 0 + 1)) := by
  obtain ⟨-, -, ⟨xc, x1, x2⟩, -⟩ := h
  exact ⟨a, he, ⟨xc + 1, by omega, RX.add hmo (by omega) x2 hfl _ rfl rfl⟩, hg⟩
theorem JJ_step {i : Nat} (hmo : mo ≤ 100) (hi : i < mo) (h : JJ mo i η χ ν ρ) (hp : ρ 12 i = -1 ∨ vp_in (ρ 12 i) 40) : JJ mo (i + 1) (F_joinR mo ω η κ χ ν (ρ 11 i) (ρ 12 i)).2.1 (F_joinR mo ω η κ χ ν (ρ 11 i) (ρ 12 i)).2.2.2.1 ν (F_mJst ρ i) := by
  obtain ⟨⟨a0, a1, a2, a3, a4, a5, a6, a7⟩, he, hx, hg⟩ := id h
  unfold F_joinR F_mJst
  rw [nI_clamp (show i < 2 ^ 31 by omega)]
  generalize ρ 11 i = x
  generalize ρ 12 i = p at hp ⊢
  by_cases c1 : p = -1
  · rw [if_pos c1, if_pos c1, takeB_k]
    by_cases c2 : η 4 x.toNatClampNeg = -1
    · rw [if_pos c2, if_pos rfl, if_pos (show ρ 5 x.toNatClampNeg = -1 by rw [← a4]; exact c2)]
      exact JJ_clash hmo hi h ⟨a0, a1, a2, a3, (upd_id c2).trans a4, a5, a6, a7⟩ he (take_RG hg) (by rw [if_pos c1])
    · rw [if_neg c2, if_neg (show ¬ (if η 5 x.toNatClampNeg = -1 then (0 : Int32) else 1) = 2 by split <;> decide), if_neg (show ¬ ρ 5 x.toNatClampNeg = -1 by rw [← a4]; exact c2)]
      exact JJ_come h ⟨a0, a1, a2, a3, congrArg (fun f => upd f x.toNatClampNeg (-1)) a4, a5, a6, a7⟩ he (take_RG hg)
  · rw [if_neg c1, if_neg c1, refu_eq (x := x) he a2 a4 a5 (hp.resolve_left c1)]
    by_cases c3 : F_mAg ρ x p = 0
    · rw [if_pos c3, if_pos (ag_0.mpr c3)]
      obtain ⟨g0, g1, g2, g3, -⟩ := giveO_k (η := η) x p
      obtain ⟨r4, r5, r7, r8⟩ := giveO_rel (ρ := ρ) a4 a5 a6 a7 (ag_res c3).2
      have he2 : RW (F_giveO η x p) ν ρ := by
        intro q hq
        rw [g3]; exact he q hq
      exact JJ_out h ⟨g0.trans a0, g1.trans a1, g2.trans a2, g3.trans a3, r4, r5, r7, r8⟩ he2 (giveO_RG hg)
    · rw [if_neg c3, if_neg (fun y => c3 (ag_0.mp y))]
      exact JJ_clash hmo hi h ⟨a0, a1, a2, a3, a4, a5, a6, a7⟩ he hg (by rw [if_neg c1])
theorem jj_all {ρ1 : SS} {rc kc : Nat} (hmo : mo ≤ 100) (hrk : rc ≤ kc) (hkm : kc ≤ mo) (h0 : JJ mo 0 η χ ν ρ1) (b1 : κ 0 = ρ1 11) (b2 : κ 1 = ρ1 12) (hrow : ∀ i, i < kc → vp_in (κ 0 i) 60 ∧ (κ 1 i = -1 ∨ vp_in (κ 1 i) 40)) : ∀ i, i ≤ rc → JJ mo i (jn mo ω η κ χ ν i).2.1 (jn mo ω η κ χ ν i).2.2.2.1 ν (mJ ρ1 i) ∧ JU ρ1 (mJ ρ1 i) ∧ (jn mo ω η κ χ ν i).1 = ω ∧ (jn mo ω η κ χ ν i).2.2.1 = κ ∧ (jn mo ω η κ χ ν i).2.2.2.2 = ν := by
  intro i
  induction i with
  | zero => intro _; exact ⟨h0, ⟨rfl, rfl, rfl, rfl, rfl, rfl, rfl, rfl, rfl, rfl, rfl⟩, rfl, rfl, rfl⟩
  | succ i ih =>
    intro hi
    obtain ⟨j1, j2, j3, j4, j5⟩ := ih (by omega)
    show JJ mo (i + 1) (F_joinR mo (jn mo ω η κ χ ν i).1 (jn mo ω η κ χ ν i).2.1 (jn mo ω η κ χ ν i).2.2.1 (jn mo ω η κ χ ν i).2.2.2.1 (jn mo ω η κ χ ν i).2.2.2.2 ((jn mo ω η κ χ ν i).2.2.1 0 i) ((jn mo ω η κ χ ν i).2.2.1 1 i)).2.1 (F_joinR mo (jn mo ω η κ χ ν i).1 (jn mo ω η κ χ ν i).2.1 (jn mo ω η κ χ ν i).2.2.1 (jn mo ω η κ χ ν i).2.2.2.1 (jn mo ω η κ χ ν i).2.2.2.2 ((jn mo ω η κ χ ν i).2.2.1 0 i) ((jn mo ω η κ χ ν i).2.2.1 1 i)).2.2.2.1 ν (F_mJst (mJ ρ1 i) i) ∧ JU ρ1 (F_mJst (mJ ρ1 i) i) ∧ (F_joinR mo (jn mo ω η κ χ ν i).1 (jn mo ω η κ χ ν i).2.1 (jn mo ω η κ χ ν i).2.2.1 (jn mo ω η κ χ ν i).2.2.2.1 (jn mo ω η κ χ ν i).2.2.2.2 ((jn mo ω η κ χ ν i).2.2.1 0 i) ((jn mo ω η κ χ ν i).2.2.1 1 i)).1 = ω ∧ (F_joinR mo (jn mo ω η κ χ ν i).1 (jn mo ω η κ χ ν i).2.1 (jn mo ω η κ χ ν i).2.2.1 (jn mo ω η κ χ ν i).2.2.2.1 (jn mo ω η κ χ ν i).2.2.2.2 ((jn mo ω η κ χ ν i).2.2.1 0 i) ((jn mo ω η κ χ ν i).2.2.1 1 i)).2.2.1 = κ ∧ (F_joinR mo (jn mo ω η κ χ ν i).1 (jn mo ω η κ χ ν i).2.1 (jn mo ω η κ χ ν i).2.2.1 (jn mo ω η κ χ ν i).2.2.2.1 (jn mo ω η κ χ ν i).2.2.2.2 ((jn mo ω η κ χ ν i).2.2.1 0 i) ((jn mo ω η κ χ ν i).2.2.1 1 i)).2.2.2.2 = ν
    rw [j3, j4, j5]
    obtain ⟨k1, k2, k3⟩ := joinR_k (mo := mo) (ω := ω) (η := (jn mo ω η κ χ ν i).2.1) (κ := κ) (χ := (jn mo ω η κ χ ν i).2.2.2.1) (ν := ν) (κ 0 i) (κ 1 i)
    refine ⟨?_, JU.tr j2 (jst_u _ i), k1, k2, k3⟩
    have e11 : κ 0 i = mJ ρ1 i 11 i := by rw [j2.2.1, b1]
    have e12 : κ 1 i = mJ ρ1 i 12 i := by rw [j2.2.2.1, b2]
    have hp := (hrow i (by omega)).2
    rw [e12] at hp
    rw [e11, e12]
    exact JJ_step hmo (by omega) j1 hp
theorem LI_join {η' κ' χ' : SS} {f11 f12 : Nat → Int32} {v22 : Int32} {rc : Nat} (hi : CInv mo ω η' κ' χ' ν) (h : LI mo t ω η κ χ ν ρ) (hw : ω 0 0 = 0) (ρj : SS) (hj : JJ mo rc η' χ' ν ρj) (hu : JU ρ ρj) (hrc : rc ≤ mo) (b : κ' 0 = f11 ∧ κ' 1 = f12 ∧ κ' 2 0 = v22) : LI mo t ω η' κ' χ' ν (ss (ss (ss ρj 11 f11) 12 f12) 22 (fun _ => v22)) := by
  obtain ⟨-, -, ⟨b0, -⟩, ⟨c0, c1, c2, c3, c4, c5⟩, hd, -, -, -, -, hm⟩ := h
  obtain ⟨ja, je, ⟨xc, x1, x2, x3, x4⟩, jg⟩ := hj
  obtain ⟨u10, u11, u12, u15, u16, u17, u18, u19, u20, u21, u22⟩ := hu
  exact ⟨hi, ja, ⟨b0.trans u10.symm, b.1, b.2.1, b.2.2⟩, ⟨c0.trans (congrFun u18 0).symm, c1.trans (congrFun u19 0).symm, c2.trans (congrFun u16 0).symm, c3.trans (congrFun u17 0).symm, c4.trans (congrFun u20 0).symm, fun x => (c5 x).trans (congrFun u21 0).symm⟩, (congrFun u15 0).trans hd, je, ⟨xc, by omega, x2, x3, x4⟩, jg, fun _ x => absurd hw x, hm⟩
theorem sim_join (h : LI mo t ω η κ χ ν ρ) (ht : t < 512) (q1 : Int32) : (F_join mo ω η κ χ ν q1).1 = (F_mJoin ρ q1).1 ∧ LI mo (t + 1) (F_join mo ω η κ χ ν q1).2.1 (F_join mo ω η κ χ ν q1).2.2.1 (F_join mo ω η κ χ ν q1).2.2.2.1 (F_join mo ω η κ χ ν q1).2.2.2.2.1 (F_join mo ω η κ χ ν q1).2.2.2.2.2 (F_mJoin ρ q1).2 := by
  obtain ⟨hI, ha, ⟨b0, b1, b2, b3⟩, ⟨c0, c1, c2, c3, c4, c5⟩, hd, he, hf, hg, hk, hm⟩ := li_t h
  obtain ⟨hmo, hof, hH, ⟨kc, k1, k2, k3⟩, hX, hN⟩ := hI.un
  have hi := join_in (q1 := q1) hI
  revert hi
  unfold F_join F_mJoin
  rw [← c0, ← b3]
  by_cases e1 : ω 0 0 = 0
  · rw [if_pos e1, if_pos e1]
    by_cases e2 : q1 < 0
    · rw [if_pos e2, if_pos e2]; exact fun _ => ⟨rfl, li_14 (li_t h)⟩
    · rw [if_neg e2, if_neg e2]
      by_cases e3 : q1 ≤ κ 2 0
      · rw [if_pos e3, if_pos e3]
        obtain ⟨rc, hr9, rfl⟩ := nI_of e2
        rw [k2] at e3
        have hrk : rc ≤ kc := (nI_leI hr9 (by omega)).mp e3
        rw [nI_clamp hr9, k2, nI_clamp (show kc < 2 ^ 31 by omega)]
        have hx0 := (remF_all hmo hX).2
        have h0 : JJ mo 0 η (F_remF mo χ (χ 2 0)) ν (ss (ss ρ 14 fun _ => 0) 23 fun _ => 0) := ⟨ha, he, ⟨0, Nat.le_refl _, hx0, rfl, fun i hi => absurd hi (by omega)⟩, hg⟩
        obtain ⟨j1, j2, j3, j4, j5⟩ := jj_all (ω := ω) (κ := κ) (ρ1 := ss (ss ρ 14 fun _ => 0) 23 fun _ => 0) hmo hrk k1 h0 b1 b2 k3 rc (Nat.le_refl _)
        have h22 : mJ (ss (ss ρ 14 fun _ => 0) 23 fun _ => 0) rc 22 0 = nI kc := by
          rw [j2.2.2.2.2.2.2.2.2.2.2]
          show ρ 22 0 = _
          rw [← b3, k2]
        have hJU : JU ρ (mJ (ss (ss ρ 14 fun _ => 0) 23 fun _ => 0) rc) := j2
        have h11 : mJ (ss (ss ρ 14 fun _ => 0) 23 fun _ => 0) rc 11 = ρ 11 := j2.2.1
        have h12 : mJ (ss (ss ρ 14 fun _ => 0) 23 fun _ => 0) rc 12 = ρ 12 := j2.2.2.1
        generalize mJ (ss (ss ρ 14 fun _ => 0) 23 fun _ => 0) rc = ρj at j1 h22 hJU h11 h12 ⊢
        generalize jn mo ω η κ (F_remF mo χ (χ 2 0)) ν rc = J at j1 j3 j4 j5 ⊢
        obtain ⟨w, n, k, x, v⟩ := J
        dsimp only at j1 j3 j4 j5 ⊢
        subst j3 j4 j5
        rw [remF_eq hmo k1 k2 hrk, h22, pk_sub hrk, h11, h12]
        intro hi
        have hans : x 2 0 = ρj 23 0 := by
          obtain ⟨-, -, ⟨xc, -, y1, y2, -⟩, -⟩ := j1
          rw [y1, y2]
        exact ⟨hans, LI_join hi (li_t h) e1 ρj j1 hJU (by omega) ⟨congrArg (fun f => shl f 0 rc (kc - rc)) b1, congrArg (fun f => shl f 0 rc (kc - rc)) b2, rfl⟩⟩
      · rw [if_neg e3, if_neg e3]; exact fun _ => ⟨rfl, li_14 (li_t h)⟩
  · rw [if_neg e1, if_neg e1]; exact fun _ => ⟨rfl, li_14 (li_t h)⟩
end SIM

