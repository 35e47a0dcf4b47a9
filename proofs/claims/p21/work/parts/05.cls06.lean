def F_block (mo : Nat) (ω η κ χ ν : SS) (q1 : Int32) (q2 : Int32) : Int32 × SS × SS × SS × SS × SS :=
  if (F_isPerson q1) = 0 then
    (0, ω, η, κ, χ, ν)
  else
    (F_isBl η q1, ω, (ss (ss η 2 (upd (η 2) q1.toNatClampNeg (vp_nar .boolean q2))) 3 (upd (η 3) q1.toNatClampNeg 0)), κ, χ, ν)
set_option maxHeartbeats 4000000 in
set_option maxRecDepth 100000 in
theorem c_block (l : Launch) (dC : Nat → ClassId) (dI : Nat → Nat → Nat) (cI cZ : ClassId) (mo : Nat) (oM hH hH0 hH1 hH2 hH3 hH4 hH5 hH6 hH7 hH8 kR kR0 kR1 xR xR0 xR1 sS sS0 : Nat) (sz : Nat) (ω η κ χ ν : SS) (q1 : Int32) (q2 : Int32) (hz : q2 = 0 ∨ q2 = 1) : Met l y_block [Cond.code y_block prog_1_method_3_code 4 (some .boolean)] ({ frames := 2, cells := 0, slots := 0, locals := 42 }) (pcW (dC, dI) (w_Main cI cZ mo oM hH hH0 hH1 hH2 hH3 hH4 hH5 hH6 hH7 hH8 kR kR0 kR1 xR xR0 xR1 sS sS0 (ω 0 0) (η 0) (η 1) (η 2) (η 3) (η 4) (η 5) (η 6) (η 7) (η 8) (κ 0) (κ 1) (κ 2 0) (χ 0) (χ 1) (χ 2 0) (ν 0) (ν 1 0) (ν 2 0) (ν 3 0) (ν 4 0) (ν 5 0)) (tyC cI cZ) sz [.ref oM, .int q1, .int q2]) (qI (fun r u => r = (F_block mo ω η κ χ ν q1 q2).1 ∧ u = (F_block mo ω η κ χ ν q1 q2).2) (dC, dI) (fun u : SS × SS × SS × SS × SS => w_Main cI cZ mo oM hH hH0 hH1 hH2 hH3 hH4 hH5 hH6 hH7 hH8 kR kR0 kR1 xR xR0 xR1 sS sS0 (u.1 0 0) (u.2.1 0) (u.2.1 1) (u.2.1 2) (u.2.1 3) (u.2.1 4) (u.2.1 5) (u.2.1 6) (u.2.1 7) (u.2.1 8) (u.2.2.1 0) (u.2.2.1 1) (u.2.2.1 2 0) (u.2.2.2.1 0) (u.2.2.2.1 1) (u.2.2.2.1 2 0) (u.2.2.2.2 0) (u.2.2.2.2 1 0) (u.2.2.2.2 2 0) (u.2.2.2.2 3 0) (u.2.2.2.2 4 0) (u.2.2.2.2 5 0)) (va_A (w_Main cI cZ mo oM hH hH0 hH1 hH2 hH3 hH4 hH5 hH6 hH7 hH8 kR kR0 kR1 xR xR0 xR1 sS sS0 (ω 0 0) (η 0) (η 1) (η 2) (η 3) (η 4) (η 5) (η 6) (η 7) (η 8) (κ 0) (κ 1) (κ 2 0) (χ 0) (χ 1) (χ 2 0) (ν 0) (ν 1 0) (ν 2 0) (ν 3 0) (ν 4 0) (ν 5 0)) sz)) 0 0 (va_A (w_Main cI cZ mo oM hH hH0 hH1 hH2 hH3 hH4 hH5 hH6 hH7 hH8 kR kR0 kR1 xR xR0 xR1 sS sS0 (ω 0 0) (η 0) (η 1) (η 2) (η 3) (η 4) (η 5) (η 6) (η 7) (η 8) (κ 0) (κ 1) (κ 2 0) (χ 0) (χ 1) (χ 2 0) (ν 0) (ν 1 0) (ν 2 0) (ν 3 0) (ν 4 0) (ν 5 0)) sz) := by
  refine Met.ofW (cc := prog_1_method_3_code) (maxL := 4) (ret := (some .boolean)) (by decide) rfl ?_
  intro p e s m args below meth c s₁ B hml hv
  obtain ⟨rfl, hsz, hT, hP, hK, hD0⟩ := hv
  have hx := B.exec
  have hb := B.bytes
  have hr := B.returns
  have hts : ∀ w ∈ lw_ok, w.before ([.ref oM, .int q1, .int q2] : List Value).toArray s = true := hT.use
  have hown : s.vm.findClass R_Main = some m.cls := findClass_of_methodNamed B.named
  have hlocks := B.notSynchronized
  subst hsz
  have hD := hD0.self (sz := s.heap.size)
  generalize hAe : va_A (w_Main cI cZ mo oM hH hH0 hH1 hH2 hH3 hH4 hH5 hH6 hH7 hH8 kR kR0 kR1 xR xR0 xR1 sS sS0 (ω 0 0) (η 0) (η 1) (η 2) (η 3) (η 4) (η 5) (η 6) (η 7) (η 8) (κ 0) (κ 1) (κ 2 0) (χ 0) (χ 1) (χ 2 0) (ν 0) (ν 1 0) (ν 2 0) (ν 3 0) (ν 4 0) (ν 5 0)) s.heap.size = A at hD ⊢
  have hA : ∀ q : Nat, s.heap.size ≤ q → A q := fun q h => by rw [← hAe]; exact Or.inr h
  have hS : va_S A s.heap s.heap [] := va_S.rf
  have hl := lv_entry ([.ref oM, .int q1, .int q2]) (n := 4) (Nat.le_of_ble_eq_true rfl)
  rw [lg_entry_eq]
  generalize (lg_sl ([.ref oM, .int q1, .int q2]) ++ List.replicate (4 - (lg_sl ([.ref oM, .int q1, .int q2])).length) Slot.unset).toArray = ls at hl ⊢
  have hl : lv_has ls 4 [(0, .ref oM), (1, .int q1), (2, .int q2)] := hl
  refine lv_iload_n hx hb d_block_0 rfl (lv_at hl 1 rfl) ?_
  refine xc_S0 (As := [.int q1]) (rest := []) ⟨hx, hb, hml, hown, hts⟩ hT (c_isPerson l q1) ⟨xw_B 1 hts mw_155 mw_13 mw_153 rfl rfl (by decide +kernel) ⟨Nat.le_of_ble_eq_true rfl, Nat.le_of_ble_eq_true rfl⟩, hts _ mw_154⟩ rfl hl.1 rfl (Nat.le_of_ble_eq_true rfl) d_block_1 ⟨Nat.zero_le _, Nat.zero_le _⟩ (fun r hw => ?_)
  subst hw
  refine lv_if_ne (tgt := 9) hx hb d_block_4 (by decide) (fun c_1 => ?_) (fun c_1 => ?_)
  · refine lv_aload_n hx hb d_block_9 rfl (lv_at hl 0 rfl) ?_
    refine va_get (D := (dC, dI)) (ci := 3) (v := .ref hH) (C := R_Main) (T := T_Main) (N := 5) hx hb hts in_Main hown hK hP 0 rfl rfl 0 (by decide) (hts _ mw_133) (fun _ h9 => h9) rfl d_block_10 ?_
    refine lv_iload_n hx hb d_block_13 rfl (lv_at hl 1 rfl) ?_
    refine xc_VR (As := [.int q1]) (rest := []) (ci := 0) ⟨hx, hb, hml, hown, hts⟩ hT hK hP (c_isBl l dC dI cI cZ hH hH0 hH1 hH2 hH3 hH4 hH5 hH6 hH7 hH8 η q1 (by first | assumption | exact in_isPerson ‹_› | exact in_isItem ‹_›)) [1, 2, 3, 4, 5, 6, 7, 8, 9, 10] rfl (xw_V 1 hts mw_163 mw_15 mw_160 mw_161 mw_162 rfl rfl (by decide +kernel) ⟨Nat.le_of_ble_eq_true rfl, Nat.le_of_ble_eq_true rfl⟩) rfl rfl rfl hl.1 rfl (Nat.le_of_ble_eq_true rfl) d_block_14 ⟨Nat.zero_le _, Nat.zero_le _⟩ (fun r hw => ?_)
    subst hw
    refine lv_istore_n (lv' := [(3, .int (F_isBl η q1)), (0, .ref oM), (1, .int q1), (2, .int q2)]) hx hb d_block_17 rfl hl (by decide) rfl (fun ls hl => ?_)
    refine lv_aload_n hx hb d_block_18 rfl (lv_at hl 1 rfl) ?_
    refine va_get (D := (dC, dI)) (ci := 3) (v := .ref hH) (C := R_Main) (T := T_Main) (N := 5) hx hb hts in_Main hown hK hP 0 rfl rfl 0 (by decide) (hts _ mw_133) (fun _ h9 => h9) rfl d_block_19 ?_
    refine va_getN (D := (dC, dI)) (ci := 0) (v := .ref hH2) (C := R_House) (T := T_House) (N := 9) hx hb hts in_House hown hK hP 1 rfl rfl 2 (by decide) (hts _ mw_48) (fun _ h9 => h9) rfl d_block_22 ?_
    refine lv_iload_n hx hb d_block_25 rfl (lv_at hl 2 rfl) ?_
    refine lv_iload_n hx hb d_block_26 rfl (lv_at hl 3 rfl) ?_
    refine va_zast (n := 40) (f := η 2) hx hb hK hP hD hS 4 1 rfl rfl (i := q1) (x := q2) (by first | assumption | exact in_isPerson ‹_› | exact in_isItem ‹_›) d_block_27 (fun H locs hP hD hS => ?_)
    have hP : va_P (dC, dI) vwCl (w_Main cI cZ mo oM hH hH0 hH1 hH2 hH3 hH4 hH5 hH6 hH7 hH8 kR kR0 kR1 xR xR0 xR1 sS sS0 (ω 0 0) (η 0) (η 1) (upd (η 2) q1.toNatClampNeg (vp_nar .boolean q2)) (η 3) (η 4) (η 5) (η 6) (η 7) (η 8) (κ 0) (κ 1) (κ 2 0) (χ 0) (χ 1) (χ 2 0) (ν 0) (ν 1 0) (ν 2 0) (ν 3 0) (ν 4 0) (ν 5 0)) H := hP
    have hD : va_D A (w_Main cI cZ mo oM hH hH0 hH1 hH2 hH3 hH4 hH5 hH6 hH7 hH8 kR kR0 kR1 xR xR0 xR1 sS sS0 (ω 0 0) (η 0) (η 1) (upd (η 2) q1.toNatClampNeg (vp_nar .boolean q2)) (η 3) (η 4) (η 5) (η 6) (η 7) (η 8) (κ 0) (κ 1) (κ 2 0) (χ 0) (χ 1) (χ 2 0) (ν 0) (ν 1 0) (ν 2 0) (ν 3 0) (ν 4 0) (ν 5 0)) := hD
    refine lv_aload_n hx hb d_block_28 rfl (lv_at hl 1 rfl) ?_
    refine va_get (D := (dC, dI)) (ci := 3) (v := .ref hH) (C := R_Main) (T := T_Main) (N := 5) hx hb hts in_Main hown hK hP 0 rfl rfl 0 (by decide) (hts _ mw_133) (fun _ h9 => h9) rfl d_block_29 ?_
    refine va_getN (D := (dC, dI)) (ci := 0) (v := .ref hH3) (C := R_House) (T := T_House) (N := 9) hx hb hts in_House hown hK hP 1 rfl rfl 3 (by decide) (hts _ mw_50) (fun _ h9 => h9) rfl d_block_32 ?_
    refine lv_iload_n hx hb d_block_35 rfl (lv_at hl 2 rfl) ?_
    refine lv_iconst (v := 0) hx hb d_block_36 (by decide) ?_
    refine va_iast (n := 40) (f := η 3) hx hb hK hP hD hS 5 0 rfl rfl (i := q1) (x := 0) (by first | assumption | exact in_isPerson ‹_› | exact in_isItem ‹_›) d_block_37 (fun H locs hP hD hS => ?_)
    have hP : va_P (dC, dI) vwCl (w_Main cI cZ mo oM hH hH0 hH1 hH2 hH3 hH4 hH5 hH6 hH7 hH8 kR kR0 kR1 xR xR0 xR1 sS sS0 (ω 0 0) (η 0) (η 1) (upd (η 2) q1.toNatClampNeg (vp_nar .boolean q2)) (upd (η 3) q1.toNatClampNeg 0) (η 4) (η 5) (η 6) (η 7) (η 8) (κ 0) (κ 1) (κ 2 0) (χ 0) (χ 1) (χ 2 0) (ν 0) (ν 1 0) (ν 2 0) (ν 3 0) (ν 4 0) (ν 5 0)) H := hP
    have hD : va_D A (w_Main cI cZ mo oM hH hH0 hH1 hH2 hH3 hH4 hH5 hH6 hH7 hH8 kR kR0 kR1 xR xR0 xR1 sS sS0 (ω 0 0) (η 0) (η 1) (upd (η 2) q1.toNatClampNeg (vp_nar .boolean q2)) (upd (η 3) q1.toNatClampNeg 0) (η 4) (η 5) (η 6) (η 7) (η 8) (κ 0) (κ 1) (κ 2 0) (χ 0) (χ 1) (χ 2 0) (ν 0) (ν 1 0) (ν 2 0) (ν 3 0) (ν 4 0) (ν 5 0)) := hD
    refine lv_iload_n hx hb d_block_38 rfl (lv_at hl 0 rfl) ?_
    have hF : F_block mo ω η κ χ ν q1 q2 = (F_isBl η q1, ω, (ss (ss η 2 (upd (η 2) q1.toNatClampNeg (vp_nar .boolean q2))) 3 (upd (η 3) q1.toNatClampNeg 0)), κ, χ, ν) := (if_neg c_1).trans rfl
    exact W.zret (ty := .boolean) (v := F_isBl η q1) hx hb hr (by first | exact nz_b ‹_› | exact nz_b b01_Bl) (fun t ht hW => ⟨⟨F_isBl η q1, (ω, (ss (ss η 2 (upd (η 2) q1.toNatClampNeg (vp_nar .boolean q2))) 3 (upd (η 3) q1.toNatClampNeg 0)), κ, χ, ν), rfl, ⟨(congrArg Prod.fst hF).symm, (congrArg Prod.snd hF).symm⟩, by rw [ht]; exact hP, hD⟩, hS.F ht⟩) hS.2.2 d_block_39
  · refine lv_iconst (v := 0) hx hb d_block_7 (by decide) ?_
    have hF : F_block mo ω η κ χ ν q1 q2 = (0, ω, η, κ, χ, ν) := (if_pos c_1).trans rfl
    exact W.zret (ty := .boolean) (v := 0) hx hb hr (by decide) (fun t ht hW => ⟨⟨0, (ω, η, κ, χ, ν), rfl, ⟨(congrArg Prod.fst hF).symm, (congrArg Prod.snd hF).symm⟩, by rw [ht]; exact hP, hD⟩, hS.F ht⟩) hS.2.2 d_block_8
def F_reserve (mo : Nat) (ω η κ χ ν : SS) (q1 : Int32) (q2 : Int32) : Int32 × SS × SS × SS × SS × SS :=
  if (F_isItem q1) = 0 then
    (0, ω, η, κ, χ, ν)
  else
    if q2 = (-1) then
      (1, ω, (ss η 5 (upd (η 5) q1.toNatClampNeg q2)), κ, χ, ν)
    else
      if (F_isPerson q2) = 0 then
        (0, ω, η, κ, χ, ν)
      else
        (1, ω, (ss η 5 (upd (η 5) q1.toNatClampNeg q2)), κ, χ, ν)
set_option maxHeartbeats 4000000 in
set_option maxRecDepth 100000 in
theorem c_reserve (l : Launch) (dC : Nat → ClassId) (dI : Nat → Nat → Nat) (cI cZ : ClassId) (mo : Nat) (oM hH hH0 hH1 hH2 hH3 hH4 hH5 hH6 hH7 hH8 kR kR0 kR1 xR xR0 xR1 sS sS0 : Nat) (sz : Nat) (ω η κ χ ν : SS) (q1 : Int32) (q2 : Int32) : Met l y_reserve [Cond.code y_reserve prog_1_method_4_code 3 (some .int)] ({ frames := 1, cells := 0, slots := 0, locals := 20 }) (pcW (dC, dI) (w_Main cI cZ mo oM hH hH0 hH1 hH2 hH3 hH4 hH5 hH6 hH7 hH8 kR kR0 kR1 xR xR0 xR1 sS sS0 (ω 0 0) (η 0) (η 1) (η 2) (η 3) (η 4) (η 5) (η 6) (η 7) (η 8) (κ 0) (κ 1) (κ 2 0) (χ 0) (χ 1) (χ 2 0) (ν 0) (ν 1 0) (ν 2 0) (ν 3 0) (ν 4 0) (ν 5 0)) (tyC cI cZ) sz [.ref oM, .int q1, .int q2]) (qI (fun r u => r = (F_reserve mo ω η κ χ ν q1 q2).1 ∧ u = (F_reserve mo ω η κ χ ν q1 q2).2) (dC, dI) (fun u : SS × SS × SS × SS × SS => w_Main cI cZ mo oM hH hH0 hH1 hH2 hH3 hH4 hH5 hH6 hH7 hH8 kR kR0 kR1 xR xR0 xR1 sS sS0 (u.1 0 0) (u.2.1 0) (u.2.1 1) (u.2.1 2) (u.2.1 3) (u.2.1 4) (u.2.1 5) (u.2.1 6) (u.2.1 7) (u.2.1 8) (u.2.2.1 0) (u.2.2.1 1) (u.2.2.1 2 0) (u.2.2.2.1 0) (u.2.2.2.1 1) (u.2.2.2.1 2 0) (u.2.2.2.2 0) (u.2.2.2.2 1 0) (u.2.2.2.2 2 0) (u.2.2.2.2 3 0) (u.2.2.2.2 4 0) (u.2.2.2.2 5 0)) (va_A (w_Main cI cZ mo oM hH hH0 hH1 hH2 hH3 hH4 hH5 hH6 hH7 hH8 kR kR0 kR1 xR xR0 xR1 sS sS0 (ω 0 0) (η 0) (η 1) (η 2) (η 3) (η 4) (η 5) (η 6) (η 7) (η 8) (κ 0) (κ 1) (κ 2 0) (χ 0) (χ 1) (χ 2 0) (ν 0) (ν 1 0) (ν 2 0) (ν 3 0) (ν 4 0) (ν 5 0)) sz)) 0 0 (va_A (w_Main cI cZ mo oM hH hH0 hH1 hH2 hH3 hH4 hH5 hH6 hH7 hH8 kR kR0 kR1 xR xR0 xR1 sS sS0 (ω 0 0) (η 0) (η 1) (η 2) (η 3) (η 4) (η 5) (η 6) (η 7) (η 8) (κ 0) (κ 1) (κ 2 0) (χ 0) (χ 1) (χ 2 0) (ν 0) (ν 1 0) (ν 2 0) (ν 3 0) (ν 4 0) (ν 5 0)) sz) := by
  refine Met.ofW (cc := prog_1_method_4_code) (maxL := 3) (ret := (some .int)) (by decide) rfl ?_
  intro p e s m args below meth c s₁ B hml hv
  obtain ⟨rfl, hsz, hT, hP, hK, hD0⟩ := hv
  have hx := B.exec
  have hb := B.bytes
  have hr := B.returns
  have hts : ∀ w ∈ lw_ok, w.before ([.ref oM, .int q1, .int q2] : List Value).toArray s = true := hT.use
  have hown : s.vm.findClass R_Main = some m.cls := findClass_of_methodNamed B.named
  have hlocks := B.notSynchronized
  subst hsz
  have hD := hD0.self (sz := s.heap.size)
  generalize hAe : va_A (w_Main cI cZ mo oM hH hH0 hH1 hH2 hH3 hH4 hH5 hH6 hH7 hH8 kR kR0 kR1 xR xR0 xR1 sS sS0 (ω 0 0) (η 0) (η 1) (η 2) (η 3) (η 4) (η 5) (η 6) (η 7) (η 8) (κ 0) (κ 1) (κ 2 0) (χ 0) (χ 1) (χ 2 0) (ν 0) (ν 1 0) (ν 2 0) (ν 3 0) (ν 4 0) (ν 5 0)) s.heap.size = A at hD ⊢
  have hA : ∀ q : Nat, s.heap.size ≤ q → A q := fun q h => by rw [← hAe]; exact Or.inr h
  have hS : va_S A s.heap s.heap [] := va_S.rf
  have hl := lv_entry ([.ref oM, .int q1, .int q2]) (n := 3) (Nat.le_of_ble_eq_true rfl)
  rw [lg_entry_eq]
  generalize (lg_sl ([.ref oM, .int q1, .int q2]) ++ List.replicate (3 - (lg_sl ([.ref oM, .int q1, .int q2])).length) Slot.unset).toArray = ls at hl ⊢
  have hl : lv_has ls 3 [(0, .ref oM), (1, .int q1), (2, .int q2)] := hl
  refine lv_iload_n hx hb d_reserve_0 rfl (lv_at hl 1 rfl) ?_
  refine xc_S0 (As := [.int q1]) (rest := []) ⟨hx, hb, hml, hown, hts⟩ hT (c_isItem l q1) ⟨xw_B 1 hts mw_174 mw_13 mw_172 rfl rfl (by decide +kernel) ⟨Nat.le_of_ble_eq_true rfl, Nat.le_of_ble_eq_true rfl⟩, hts _ mw_173⟩ rfl hl.1 rfl (Nat.le_of_ble_eq_true rfl) d_reserve_1 ⟨Nat.zero_le _, Nat.zero_le _⟩ (fun r hw => ?_)
  subst hw
  refine lv_if_eq (tgt := 19) hx hb d_reserve_4 (by decide) (fun c_1 => ?_) (fun c_1 => ?_)
  · refine lv_iconst (v := 0) hx hb d_reserve_19 (by decide) ?_
    have hF : F_reserve mo ω η κ χ ν q1 q2 = (0, ω, η, κ, χ, ν) := (if_pos c_1).trans rfl
    exact W.iret (v := 0) hx hb hr (fun t ht hW => ⟨⟨0, (ω, η, κ, χ, ν), rfl, ⟨(congrArg Prod.fst hF).symm, (congrArg Prod.snd hF).symm⟩, by rw [ht]; exact hP, hD⟩, hS.F ht⟩) hS.2.2 d_reserve_20
  · refine lv_iload_n hx hb d_reserve_7 rfl (lv_at hl 2 rfl) ?_
    refine lv_iconst (v := -1) hx hb d_reserve_8 (by decide) ?_
    refine lv_icmp_eq (tgt := 21) hx hb d_reserve_9 (by decide) (fun c_2 => ?_) (fun c_2 => ?_)
    · refine lv_aload_n hx hb d_reserve_21 rfl (lv_at hl 0 rfl) ?_
      refine va_get (D := (dC, dI)) (ci := 3) (v := .ref hH) (C := R_Main) (T := T_Main) (N := 5) hx hb hts in_Main hown hK hP 0 rfl rfl 0 (by decide) (hts _ mw_133) (fun _ h9 => h9) rfl d_reserve_22 ?_
      refine va_getN (D := (dC, dI)) (ci := 0) (v := .ref hH5) (C := R_House) (T := T_House) (N := 9) hx hb hts in_House hown hK hP 1 rfl rfl 5 (by decide) (hts _ mw_54) (fun _ h9 => h9) rfl d_reserve_25 ?_
      refine lv_iload_n hx hb d_reserve_28 rfl (lv_at hl 1 rfl) ?_
      refine lv_iload_n hx hb d_reserve_29 rfl (lv_at hl 2 rfl) ?_
      refine va_iast (n := 60) (f := η 5) hx hb hK hP hD hS 7 0 rfl rfl (i := q1) (x := q2) (by first | assumption | exact in_isPerson ‹_› | exact in_isItem ‹_›) d_reserve_30 (fun H locs hP hD hS => ?_)
      have hP : va_P (dC, dI) vwCl (w_Main cI cZ mo oM hH hH0 hH1 hH2 hH3 hH4 hH5 hH6 hH7 hH8 kR kR0 kR1 xR xR0 xR1 sS sS0 (ω 0 0) (η 0) (η 1) (η 2) (η 3) (η 4) (upd (η 5) q1.toNatClampNeg q2) (η 6) (η 7) (η 8) (κ 0) (κ 1) (κ 2 0) (χ 0) (χ 1) (χ 2 0) (ν 0) (ν 1 0) (ν 2 0) (ν 3 0) (ν 4 0) (ν 5 0)) H := hP
      have hD : va_D A (w_Main cI cZ mo oM hH hH0 hH1 hH2 hH3 hH4 hH5 hH6 hH7 hH8 kR kR0 kR1 xR xR0 xR1 sS sS0 (ω 0 0) (η 0) (η 1) (η 2) (η 3) (η 4) (upd (η 5) q1.toNatClampNeg q2) (η 6) (η 7) (η 8) (κ 0) (κ 1) (κ 2 0) (χ 0) (χ 1) (χ 2 0) (ν 0) (ν 1 0) (ν 2 0) (ν 3 0) (ν 4 0) (ν 5 0)) := hD
      refine lv_iconst (v := 1) hx hb d_reserve_31 (by decide) ?_
      have hF : F_reserve mo ω η κ χ ν q1 q2 = (1, ω, (ss η 5 (upd (η 5) q1.toNatClampNeg q2)), κ, χ, ν) := (if_neg c_1).trans ((if_pos c_2).trans rfl)
      exact W.iret (v := 1) hx hb hr (fun t ht hW => ⟨⟨1, (ω, (ss η 5 (upd (η 5) q1.toNatClampNeg q2)), κ, χ, ν), rfl, ⟨(congrArg Prod.fst hF).symm, (congrArg Prod.snd hF).symm⟩, by rw [ht]; exact hP, hD⟩, hS.F ht⟩) hS.2.2 d_reserve_32
    · refine lv_iload_n hx hb d_reserve_12 rfl (lv_at hl 2 rfl) ?_
      refine xc_S0 (As := [.int q2]) (rest := []) ⟨hx, hb, hml, hown, hts⟩ hT (c_isPerson l q2) ⟨xw_B 1 hts mw_155 mw_13 mw_153 rfl rfl (by decide +kernel) ⟨Nat.le_of_ble_eq_true rfl, Nat.le_of_ble_eq_true rfl⟩, hts _ mw_154⟩ rfl hl.1 rfl (Nat.le_of_ble_eq_true rfl) d_reserve_13 ⟨Nat.zero_le _, Nat.zero_le _⟩ (fun r hw => ?_)
      subst hw
      refine lv_if_ne (tgt := 21) hx hb d_reserve_16 (by decide) (fun c_3 => ?_) (fun c_3 => ?_)
      · refine lv_aload_n hx hb d_reserve_21 rfl (lv_at hl 0 rfl) ?_
        refine va_get (D := (dC, dI)) (ci := 3) (v := .ref hH) (C := R_Main) (T := T_Main) (N := 5) hx hb hts in_Main hown hK hP 0 rfl rfl 0 (by decide) (hts _ mw_133) (fun _ h9 => h9) rfl d_reserve_22 ?_
        refine va_getN (D := (dC, dI)) (ci := 0) (v := .ref hH5) (C := R_House) (T := T_House) (N := 9) hx hb hts in_House hown hK hP 1 rfl rfl 5 (by decide) (hts _ mw_54) (fun _ h9 => h9) rfl d_reserve_25 ?_
        refine lv_iload_n hx hb d_reserve_28 rfl (lv_at hl 1 rfl) ?_
        refine lv_iload_n hx hb d_reserve_29 rfl (lv_at hl 2 rfl) ?_
        refine va_iast (n := 60) (f := η 5) hx hb hK hP hD hS 7 0 rfl rfl (i := q1) (x := q2) (by first | assumption | exact in_isPerson ‹_› | exact in_isItem ‹_›) d_reserve_30 (fun H locs hP hD hS => ?_)
        have hP : va_P (dC, dI) vwCl (w_Main cI cZ mo oM hH hH0 hH1 hH2 hH3 hH4 hH5 hH6 hH7 hH8 kR kR0 kR1 xR xR0 xR1 sS sS0 (ω 0 0) (η 0) (η 1) (η 2) (η 3) (η 4) (upd (η 5) q1.toNatClampNeg q2) (η 6) (η 7) (η 8) (κ 0) (κ 1) (κ 2 0) (χ 0) (χ 1) (χ 2 0) (ν 0) (ν 1 0) (ν 2 0) (ν 3 0) (ν 4 0) (ν 5 0)) H := hP
        have hD : va_D A (w_Main cI cZ mo oM hH hH0 hH1 hH2 hH3 hH4 hH5 hH6 hH7 hH8 kR kR0 kR1 xR xR0 xR1 sS sS0 (ω 0 0) (η 0) (η 1) (η 2) (η 3) (η 4) (upd (η 5) q1.toNatClampNeg q2) (η 6) (η 7) (η 8) (κ 0) (κ 1) (κ 2 0) (χ 0) (χ 1) (χ 2 0) (ν 0) (ν 1 0) (ν 2 0) (ν 3 0) (ν 4 0) (ν 5 0)) := hD
        refine lv_iconst (v := 1) hx hb d_reserve_31 (by decide) ?_
        have hF : F_reserve mo ω η κ χ ν q1 q2 = (1, ω, (ss η 5 (upd (η 5) q1.toNatClampNeg q2)), κ, χ, ν) := (if_neg c_1).trans ((if_neg c_2).trans ((if_neg c_3).trans rfl))
        exact W.iret (v := 1) hx hb hr (fun t ht hW => ⟨⟨1, (ω, (ss η 5 (upd (η 5) q1.toNatClampNeg q2)), κ, χ, ν), rfl, ⟨(congrArg Prod.fst hF).symm, (congrArg Prod.snd hF).symm⟩, by rw [ht]; exact hP, hD⟩, hS.F ht⟩) hS.2.2 d_reserve_32
      · refine lv_iconst (v := 0) hx hb d_reserve_19 (by decide) ?_
        have hF : F_reserve mo ω η κ χ ν q1 q2 = (0, ω, η, κ, χ, ν) := (if_neg c_1).trans ((if_neg c_2).trans ((if_pos c_3).trans rfl))
        exact W.iret (v := 0) hx hb hr (fun t ht hW => ⟨⟨0, (ω, η, κ, χ, ν), rfl, ⟨(congrArg Prod.fst hF).symm, (congrArg Prod.snd hF).symm⟩, by rw [ht]; exact hP, hD⟩, hS.F ht⟩) hS.2.2 d_reserve_20
def F_card (mo : Nat) (ω η κ χ ν : SS) (q1 : Int32) : Int32 × SS × SS × SS × SS × SS :=
  if (F_isPerson q1) = 0 then
    (0, ω, η, κ, χ, ν)
  else
    if (ν 2 0) = 0 then
      if (F_isRef mo ω η κ χ ν q1) = 0 then
        (1, ω, η, κ, χ, (ss (ss ν 2 (fun _ => 1)) 3 (fun _ => q1)))
      else
        (-1, ω, η, κ, χ, ν)
    else
      (0, ω, η, κ, χ, ν)
set_option maxHeartbeats 4000000 in
set_option maxRecDepth 100000 in
theorem c_card (l : Launch) (dC : Nat → ClassId) (dI : Nat → Nat → Nat) (cI cZ : ClassId) (mo : Nat) (oM hH hH0 hH1 hH2 hH3 hH4 hH5 hH6 hH7 hH8 kR kR0 kR1 xR xR0 xR1 sS sS0 : Nat) (sz : Nat) (ω η κ χ ν : SS) (q1 : Int32) : Met l y_card [Cond.code y_card prog_1_method_5_code 2 (some .int)] ({ frames := 3, cells := 0, slots := 0, locals := 63 }) (pcW (dC, dI) (w_Main cI cZ mo oM hH hH0 hH1 hH2 hH3 hH4 hH5 hH6 hH7 hH8 kR kR0 kR1 xR xR0 xR1 sS sS0 (ω 0 0) (η 0) (η 1) (η 2) (η 3) (η 4) (η 5) (η 6) (η 7) (η 8) (κ 0) (κ 1) (κ 2 0) (χ 0) (χ 1) (χ 2 0) (ν 0) (ν 1 0) (ν 2 0) (ν 3 0) (ν 4 0) (ν 5 0)) (tyC cI cZ) sz [.ref oM, .int q1]) (qI (fun r u => r = (F_card mo ω η κ χ ν q1).1 ∧ u = (F_card mo ω η κ χ ν q1).2) (dC, dI) (fun u : SS × SS × SS × SS × SS => w_Main cI cZ mo oM hH hH0 hH1 hH2 hH3 hH4 hH5 hH6 hH7 hH8 kR kR0 kR1 xR xR0 xR1 sS sS0 (u.1 0 0) (u.2.1 0) (u.2.1 1) (u.2.1 2) (u.2.1 3) (u.2.1 4) (u.2.1 5) (u.2.1 6) (u.2.1 7) (u.2.1 8) (u.2.2.1 0) (u.2.2.1 1) (u.2.2.1 2 0) (u.2.2.2.1 0) (u.2.2.2.1 1) (u.2.2.2.1 2 0) (u.2.2.2.2 0) (u.2.2.2.2 1 0) (u.2.2.2.2 2 0) (u.2.2.2.2 3 0) (u.2.2.2.2 4 0) (u.2.2.2.2 5 0)) (va_A (w_Main cI cZ mo oM hH hH0 hH1 hH2 hH3 hH4 hH5 hH6 hH7 hH8 kR kR0 kR1 xR xR0 xR1 sS sS0 (ω 0 0) (η 0) (η 1) (η 2) (η 3) (η 4) (η 5) (η 6) (η 7) (η 8) (κ 0) (κ 1) (κ 2 0) (χ 0) (χ 1) (χ 2 0) (ν 0) (ν 1 0) (ν 2 0) (ν 3 0) (ν 4 0) (ν 5 0)) sz)) 0 0 (va_A (w_Main cI cZ mo oM hH hH0 hH1 hH2 hH3 hH4 hH5 hH6 hH7 hH8 kR kR0 kR1 xR xR0 xR1 sS sS0 (ω 0 0) (η 0) (η 1) (η 2) (η 3) (η 4) (η 5) (η 6) (η 7) (η 8) (κ 0) (κ 1) (κ 2 0) (χ 0) (χ 1) (χ 2 0) (ν 0) (ν 1 0) (ν 2 0) (ν 3 0) (ν 4 0) (ν 5 0)) sz) := by
  refine Met.ofW (cc := prog_1_method_5_code) (maxL := 2) (ret := (some .int)) (by decide) rfl ?_
  intro p e s m args below meth c s₁ B hml hv
  obtain ⟨rfl, hsz, hT, hP, hK, hD0⟩ := hv
  have hx := B.exec
  have hb := B.bytes
  have hr := B.returns
  have hts : ∀ w ∈ lw_ok, w.before ([.ref oM, .int q1] : List Value).toArray s = true := hT.use
  have hown : s.vm.findClass R_Main = some m.cls := findClass_of_methodNamed B.named
  have hlocks := B.notSynchronized
  subst hsz
  have hD := hD0.self (sz := s.heap.size)
  generalize hAe : va_A (w_Main cI cZ mo oM hH hH0 hH1 hH2 hH3 hH4 hH5 hH6 hH7 hH8 kR kR0 kR1 xR xR0 xR1 sS sS0 (ω 0 0) (η 0) (η 1) (η 2) (η 3) (η 4) (η 5) (η 6) (η 7) (η 8) (κ 0) (κ 1) (κ 2 0) (χ 0) (χ 1) (χ 2 0) (ν 0) (ν 1 0) (ν 2 0) (ν 3 0) (ν 4 0) (ν 5 0)) s.heap.size = A at hD ⊢
  have hA : ∀ q : Nat, s.heap.size ≤ q → A q := fun q h => by rw [← hAe]; exact Or.inr h
  have hS : va_S A s.heap s.heap [] := va_S.rf
  have hl := lv_entry ([.ref oM, .int q1]) (n := 2) (Nat.le_of_ble_eq_true rfl)
  rw [lg_entry_eq]
  generalize (lg_sl ([.ref oM, .int q1]) ++ List.replicate (2 - (lg_sl ([.ref oM, .int q1])).length) Slot.unset).toArray = ls at hl ⊢
  have hl : lv_has ls 2 [(0, .ref oM), (1, .int q1)] := hl
  refine lv_iload_n hx hb d_card_0 rfl (lv_at hl 1 rfl) ?_
  refine xc_S0 (As := [.int q1]) (rest := []) ⟨hx, hb, hml, hown, hts⟩ hT (c_isPerson l q1) ⟨xw_B 1 hts mw_155 mw_13 mw_153 rfl rfl (by decide +kernel) ⟨Nat.le_of_ble_eq_true rfl, Nat.le_of_ble_eq_true rfl⟩, hts _ mw_154⟩ rfl hl.1 rfl (Nat.le_of_ble_eq_true rfl) d_card_1 ⟨Nat.zero_le _, Nat.zero_le _⟩ (fun r hw => ?_)
  subst hw
  refine lv_if_eq (tgt := 17) hx hb d_card_4 (by decide) (fun c_1 => ?_) (fun c_1 => ?_)
  · refine lv_iconst (v := 0) hx hb d_card_17 (by decide) ?_
    have hF : F_card mo ω η κ χ ν q1 = (0, ω, η, κ, χ, ν) := (if_pos c_1).trans rfl
    exact W.iret (v := 0) hx hb hr (fun t ht hW => ⟨⟨0, (ω, η, κ, χ, ν), rfl, ⟨(congrArg Prod.fst hF).symm, (congrArg Prod.snd hF).symm⟩, by rw [ht]; exact hP, hD⟩, hS.F ht⟩) hS.2.2 d_card_18
  · refine lv_aload_n hx hb d_card_7 rfl (lv_at hl 0 rfl) ?_
    refine va_get (D := (dC, dI)) (ci := 3) (v := .ref sS) (C := R_Main) (T := T_Main) (N := 5) hx hb hts in_Main hown hK hP 0 rfl rfl 3 (by decide) (hts _ mw_136) (fun _ h9 => h9) rfl d_card_8 ?_
    refine va_getN (D := (dC, dI)) (ci := 2) (v := .int (ν 2 0)) (C := R_Ses) (T := T_Ses) (N := 6) hx hb hts in_Ses hown hK hP 17 rfl rfl 2 (by decide) (hts _ mw_113) (fun _ h9 => h9) rfl d_card_11 ?_
    refine lv_if_eq (tgt := 19) hx hb d_card_14 (by decide) (fun c_2 => ?_) (fun c_2 => ?_)
    · refine lv_aload_n hx hb d_card_19 rfl (lv_at hl 0 rfl) ?_
      refine lv_iload_n hx hb d_card_20 rfl (lv_at hl 1 rfl) ?_
      refine xc_VR (As := [.int q1]) (rest := []) (ci := 3) ⟨hx, hb, hml, hown, hts⟩ hT hK hP (c_isRef l dC dI cI cZ mo oM hH hH0 hH1 hH2 hH3 hH4 hH5 hH6 hH7 hH8 kR kR0 kR1 xR xR0 xR1 sS sS0 ω η κ χ ν q1 (by first | assumption | exact in_isPerson ‹_› | exact in_isItem ‹_›)) [0, 1, 2, 3, 4, 5, 6, 7, 8, 9, 10, 11, 12, 13, 14, 15, 16, 17, 18] rfl (xw_V 1 hts mw_182 mw_13 mw_179 mw_181 mw_0 rfl rfl (by decide +kernel) ⟨Nat.le_of_ble_eq_true rfl, Nat.le_of_ble_eq_true rfl⟩) rfl rfl rfl hl.1 rfl (Nat.le_of_ble_eq_true rfl) d_card_21 ⟨Nat.zero_le _, Nat.zero_le _⟩ (fun r hw => ?_)
      subst hw
      refine lv_if_eq (tgt := 29) hx hb d_card_24 (by decide) (fun c_3 => ?_) (fun c_3 => ?_)
      · refine lv_aload_n hx hb d_card_29 rfl (lv_at hl 0 rfl) ?_
        refine va_get (D := (dC, dI)) (ci := 3) (v := .ref sS) (C := R_Main) (T := T_Main) (N := 5) hx hb hts in_Main hown hK hP 0 rfl rfl 3 (by decide) (hts _ mw_136) (fun _ h9 => h9) rfl d_card_30 ?_
        refine lv_iconst (v := 1) hx hb d_card_33 (by decide) ?_
        refine va_putN (D := (dC, dI)) (ci := 2) (v := .int 1) (ty := .int) (C := R_Ses) (T := T_Ses) (N := 6) hx hb hts in_Ses ty_Ses tyok_Ses nm_Ses hown hK hP hD hS 17 rfl rfl 2 (by decide) (hts _ mw_113) (fun _ h9 => h9) rfl (by decide +kernel) rfl rfl (Nat.le_of_ble_eq_true rfl) d_card_34 (fun H locs hP hD hS => ?_)
        have hP : va_P (dC, dI) vwCl (w_Main cI cZ mo oM hH hH0 hH1 hH2 hH3 hH4 hH5 hH6 hH7 hH8 kR kR0 kR1 xR xR0 xR1 sS sS0 (ω 0 0) (η 0) (η 1) (η 2) (η 3) (η 4) (η 5) (η 6) (η 7) (η 8) (κ 0) (κ 1) (κ 2 0) (χ 0) (χ 1) (χ 2 0) (ν 0) (ν 1 0) 1 (ν 3 0) (ν 4 0) (ν 5 0)) H := hP
        have hD : va_D A (w_Main cI cZ mo oM hH hH0 hH1 hH2 hH3 hH4 hH5 hH6 hH7 hH8 kR kR0 kR1 xR xR0 xR1 sS sS0 (ω 0 0) (η 0) (η 1) (η 2) (η 3) (η 4) (η 5) (η 6) (η 7) (η 8) (κ 0) (κ 1) (κ 2 0) (χ 0) (χ 1) (χ 2 0) (ν 0) (ν 1 0) 1 (ν 3 0) (ν 4 0) (ν 5 0)) := hD
        refine lv_aload_n hx hb d_card_37 rfl (lv_at hl 0 rfl) ?_
        refine va_get (D := (dC, dI)) (ci := 3) (v := .ref sS) (C := R_Main) (T := T_Main) (N := 5) hx hb hts in_Main hown hK hP 0 rfl rfl 3 (by decide) (hts _ mw_136) (fun _ h9 => h9) rfl d_card_38 ?_
        refine lv_iload_n hx hb d_card_41 rfl (lv_at hl 1 rfl) ?_
        refine va_putN (D := (dC, dI)) (ci := 2) (v := .int q1) (ty := .int) (C := R_Ses) (T := T_Ses) (N := 6) hx hb hts in_Ses ty_Ses tyok_Ses nm_Ses hown hK hP hD hS 17 rfl rfl 3 (by decide) (hts _ mw_115) (fun _ h9 => h9) rfl (by decide +kernel) rfl rfl (Nat.le_of_ble_eq_true rfl) d_card_42 (fun H locs hP hD hS => ?_)
        have hP : va_P (dC, dI) vwCl (w_Main cI cZ mo oM hH hH0 hH1 hH2 hH3 hH4 hH5 hH6 hH7 hH8 kR kR0 kR1 xR xR0 xR1 sS sS0 (ω 0 0) (η 0) (η 1) (η 2) (η 3) (η 4) (η 5) (η 6) (η 7) (η 8) (κ 0) (κ 1) (κ 2 0) (χ 0) (χ 1) (χ 2 0) (ν 0) (ν 1 0) 1 q1 (ν 4 0) (ν 5 0)) H := hP
        have hD : va_D A (w_Main cI cZ mo oM hH hH0 hH1 hH2 hH3 hH4 hH5 hH6 hH7 hH8 kR kR0 kR1 xR xR0 xR1 sS sS0 (ω 0 0) (η 0) (η 1) (η 2) (η 3) (η 4) (η 5) (η 6) (η 7) (η 8) (κ 0) (κ 1) (κ 2 0) (χ 0) (χ 1) (χ 2 0) (ν 0) (ν 1 0) 1 q1 (ν 4 0) (ν 5 0)) := hD
        refine lv_iconst (v := 1) hx hb d_card_45 (by decide) ?_
        have hF : F_card mo ω η κ χ ν q1 = (1, ω, η, κ, χ, (ss (ss ν 2 (fun _ => 1)) 3 (fun _ => q1))) := (if_neg c_1).trans ((if_pos c_2).trans ((if_pos c_3).trans rfl))
        exact W.iret (v := 1) hx hb hr (fun t ht hW => ⟨⟨1, (ω, η, κ, χ, (ss (ss ν 2 (fun _ => 1)) 3 (fun _ => q1))), rfl, ⟨(congrArg Prod.fst hF).symm, (congrArg Prod.snd hF).symm⟩, by rw [ht]; exact hP, hD⟩, hS.F ht⟩) hS.2.2 d_card_46
      · refine lv_iconst (v := -1) hx hb d_card_27 (by decide) ?_
        have hF : F_card mo ω η κ χ ν q1 = (-1, ω, η, κ, χ, ν) := (if_neg c_1).trans ((if_pos c_2).trans ((if_neg c_3).trans rfl))
        exact W.iret (v := -1) hx hb hr (fun t ht hW => ⟨⟨-1, (ω, η, κ, χ, ν), rfl, ⟨(congrArg Prod.fst hF).symm, (congrArg Prod.snd hF).symm⟩, by rw [ht]; exact hP, hD⟩, hS.F ht⟩) hS.2.2 d_card_28
    · refine lv_iconst (v := 0) hx hb d_card_17 (by decide) ?_
      have hF : F_card mo ω η κ χ ν q1 = (0, ω, η, κ, χ, ν) := (if_neg c_1).trans ((if_neg c_2).trans rfl)
      exact W.iret (v := 0) hx hb hr (fun t ht hW => ⟨⟨0, (ω, η, κ, χ, ν), rfl, ⟨(congrArg Prod.fst hF).symm, (congrArg Prod.snd hF).symm⟩, by rw [ht]; exact hP, hD⟩, hS.F ht⟩) hS.2.2 d_card_18
def F_codeM (mo : Nat) (ω η κ χ ν : SS) (q1 : Int32) : Int32 × SS × SS × SS × SS × SS :=
  if (ν 2 0) = 1 then
    if (η 0 (ν 3 0).toNatClampNeg) = q1 then
      (1, ω, (ss η 3 (upd (η 3) (ν 3 0).toNatClampNeg 0)), κ, χ, (F_sBegin ν))
    else
      if (F_isBBC (ss η 3 (upd (η 3) (ν 3 0).toNatClampNeg ((η 3 (ν 3 0).toNatClampNeg) + 1))) (ν 3 0)) = 0 then
        (0, ω, (ss η 3 (upd (η 3) (ν 3 0).toNatClampNeg ((η 3 (ν 3 0).toNatClampNeg) + 1))), κ, χ, (F_sClose ν))
      else
        (-1, ω, (ss η 3 (upd (η 3) (ν 3 0).toNatClampNeg ((η 3 (ν 3 0).toNatClampNeg) + 1))), κ, χ, (F_sClose ν))
  else
    (-2, ω, η, κ, χ, ν)
set_option maxHeartbeats 4000000 in
set_option maxRecDepth 100000 in
theorem c_codeM (l : Launch) (dC : Nat → ClassId) (dI : Nat → Nat → Nat) (cI cZ : ClassId) (mo : Nat) (oM hH hH0 hH1 hH2 hH3 hH4 hH5 hH6 hH7 hH8 kR kR0 kR1 xR xR0 xR1 sS sS0 : Nat) (sz : Nat) (ω η κ χ ν : SS) (q1 : Int32) (hI : CInv mo ω η κ χ ν) : Met l y_codeM [Cond.code y_codeM prog_1_method_6_code 3 (some .int)] ({ frames := 1, cells := 0, slots := 0, locals := 21 }) (pcW (dC, dI) (w_Main cI cZ mo oM hH hH0 hH1 hH2 hH3 hH4 hH5 hH6 hH7 hH8 kR kR0 kR1 xR xR0 xR1 sS sS0 (ω 0 0) (η 0) (η 1) (η 2) (η 3) (η 4) (η 5) (η 6) (η 7) (η 8) (κ 0) (κ 1) (κ 2 0) (χ 0) (χ 1) (χ 2 0) (ν 0) (ν 1 0) (ν 2 0) (ν 3 0) (ν 4 0) (ν 5 0)) (tyC cI cZ) sz [.ref oM, .int q1]) (qI (fun r u => r = (F_codeM mo ω η κ χ ν q1).1 ∧ u = (F_codeM mo ω η κ χ ν q1).2) (dC, dI) (fun u : SS × SS × SS × SS × SS => w_Main cI cZ mo oM hH hH0 hH1 hH2 hH3 hH4 hH5 hH6 hH7 hH8 kR kR0 kR1 xR xR0 xR1 sS sS0 (u.1 0 0) (u.2.1 0) (u.2.1 1) (u.2.1 2) (u.2.1 3) (u.2.1 4) (u.2.1 5) (u.2.1 6) (u.2.1 7) (u.2.1 8) (u.2.2.1 0) (u.2.2.1 1) (u.2.2.1 2 0) (u.2.2.2.1 0) (u.2.2.2.1 1) (u.2.2.2.1 2 0) (u.2.2.2.2 0) (u.2.2.2.2 1 0) (u.2.2.2.2 2 0) (u.2.2.2.2 3 0) (u.2.2.2.2 4 0) (u.2.2.2.2 5 0)) (va_A (w_Main cI cZ mo oM hH hH0 hH1 hH2 hH3 hH4 hH5 hH6 hH7 hH8 kR kR0 kR1 xR xR0 xR1 sS sS0 (ω 0 0) (η 0) (η 1) (η 2) (η 3) (η 4) (η 5) (η 6) (η 7) (η 8) (κ 0) (κ 1) (κ 2 0) (χ 0) (χ 1) (χ 2 0) (ν 0) (ν 1 0) (ν 2 0) (ν 3 0) (ν 4 0) (ν 5 0)) sz)) 0 0 (va_A (w_Main cI cZ mo oM hH hH0 hH1 hH2 hH3 hH4 hH5 hH6 hH7 hH8 kR kR0 kR1 xR xR0 xR1 sS sS0 (ω 0 0) (η 0) (η 1) (η 2) (η 3) (η 4) (η 5) (η 6) (η 7) (η 8) (κ 0) (κ 1) (κ 2 0) (χ 0) (χ 1) (χ 2 0) (ν 0) (ν 1 0) (ν 2 0) (ν 3 0) (ν 4 0) (ν 5 0)) sz) := by
  refine Met.ofW (cc := prog_1_method_6_code) (maxL := 3) (ret := (some .int)) (by decide) rfl ?_
  intro p e s m args below meth c s₁ B hml hv
  obtain ⟨rfl, hsz, hT, hP, hK, hD0⟩ := hv
  have hx := B.exec
  have hb := B.bytes
  have hr := B.returns
  have hts : ∀ w ∈ lw_ok, w.before ([.ref oM, .int q1] : List Value).toArray s = true := hT.use
  have hown : s.vm.findClass R_Main = some m.cls := findClass_of_methodNamed B.named
  have hlocks := B.notSynchronized
  subst hsz
  have hD := hD0.self (sz := s.heap.size)
  generalize hAe : va_A (w_Main cI cZ mo oM hH hH0 hH1 hH2 hH3 hH4 hH5 hH6 hH7 hH8 kR kR0 kR1 xR xR0 xR1 sS sS0 (ω 0 0) (η 0) (η 1) (η 2) (η 3) (η 4) (η 5) (η 6) (η 7) (η 8) (κ 0) (κ 1) (κ 2 0) (χ 0) (χ 1) (χ 2 0) (ν 0) (ν 1 0) (ν 2 0) (ν 3 0) (ν 4 0) (ν 5 0)) s.heap.size = A at hD ⊢
  have hA : ∀ q : Nat, s.heap.size ≤ q → A q := fun q h => by rw [← hAe]; exact Or.inr h
  have hS : va_S A s.heap s.heap [] := va_S.rf
  have hl := lv_entry ([.ref oM, .int q1]) (n := 3) (Nat.le_of_ble_eq_true rfl)
  rw [lg_entry_eq]
  generalize (lg_sl ([.ref oM, .int q1]) ++ List.replicate (3 - (lg_sl ([.ref oM, .int q1])).length) Slot.unset).toArray = ls at hl ⊢
  have hl : lv_has ls 3 [(0, .ref oM), (1, .int q1)] := hl
  obtain ⟨hmo, hof, hre, hlo, hlk, hkc, hxc, hpe, hla, hlc⟩ := id hI
  refine lv_aload_n hx hb d_codeM_0 rfl (lv_at hl 0 rfl) ?_
  refine va_get (D := (dC, dI)) (ci := 3) (v := .ref sS) (C := R_Main) (T := T_Main) (N := 5) hx hb hts in_Main hown hK hP 0 rfl rfl 3 (by decide) (hts _ mw_136) (fun _ h9 => h9) rfl d_codeM_1 ?_
  refine va_getN (D := (dC, dI)) (ci := 2) (v := .int (ν 2 0)) (C := R_Ses) (T := T_Ses) (N := 6) hx hb hts in_Ses hown hK hP 17 rfl rfl 2 (by decide) (hts _ mw_113) (fun _ h9 => h9) rfl d_codeM_4 ?_
  refine lv_iconst (v := 1) hx hb d_codeM_7 (by decide) ?_
  refine lv_icmp_eq (tgt := 14) hx hb d_codeM_8 (by decide) (fun c_1 => ?_) (fun c_1 => ?_)
  · refine lv_aload_n hx hb d_codeM_14 rfl (lv_at hl 0 rfl) ?_
    refine va_get (D := (dC, dI)) (ci := 3) (v := .ref sS) (C := R_Main) (T := T_Main) (N := 5) hx hb hts in_Main hown hK hP 0 rfl rfl 3 (by decide) (hts _ mw_136) (fun _ h9 => h9) rfl d_codeM_15 ?_
    refine va_getN (D := (dC, dI)) (ci := 2) (v := .int (ν 3 0)) (C := R_Ses) (T := T_Ses) (N := 6) hx hb hts in_Ses hown hK hP 17 rfl rfl 3 (by decide) (hts _ mw_115) (fun _ h9 => h9) rfl d_codeM_18 ?_
    refine lv_istore_n (lv' := [(2, .int (ν 3 0)), (0, .ref oM), (1, .int q1)]) hx hb d_codeM_21 rfl hl (by decide) rfl (fun ls hl => ?_)
    refine lv_aload_n hx hb d_codeM_22 rfl (lv_at hl 1 rfl) ?_
    refine va_get (D := (dC, dI)) (ci := 3) (v := .ref hH) (C := R_Main) (T := T_Main) (N := 5) hx hb hts in_Main hown hK hP 0 rfl rfl 0 (by decide) (hts _ mw_133) (fun _ h9 => h9) rfl d_codeM_23 ?_
    refine va_getN (D := (dC, dI)) (ci := 0) (v := .ref hH0) (C := R_House) (T := T_House) (N := 9) hx hb hts in_House hown hK hP 1 rfl rfl 0 (by decide) (hts _ mw_44) (fun _ h9 => h9) rfl d_codeM_26 ?_
    refine lv_iload_n hx hb d_codeM_29 rfl (lv_at hl 0 rfl) ?_
    refine va_iald (n := 40) (f := η 0) hx hb hK hP 2 0 rfl rfl (i := ν 3 0) (by first | assumption | exact in_isPerson ‹_› | exact in_isItem ‹_›) d_codeM_30 ?_
    refine lv_iload_n hx hb d_codeM_31 rfl (lv_at hl 2 rfl) ?_
    refine lv_icmp_ne (tgt := 54) hx hb d_codeM_32 (by decide) (fun c_2 => ?_) (fun c_2 => ?_)
    · refine lv_aload_n hx hb d_codeM_54 rfl (lv_at hl 1 rfl) ?_
      refine va_get (D := (dC, dI)) (ci := 3) (v := .ref hH) (C := R_Main) (T := T_Main) (N := 5) hx hb hts in_Main hown hK hP 0 rfl rfl 0 (by decide) (hts _ mw_133) (fun _ h9 => h9) rfl d_codeM_55 ?_
      refine va_getN (D := (dC, dI)) (ci := 0) (v := .ref hH3) (C := R_House) (T := T_House) (N := 9) hx hb hts in_House hown hK hP 1 rfl rfl 3 (by decide) (hts _ mw_50) (fun _ h9 => h9) rfl d_codeM_58 ?_
      refine lv_iload_n hx hb d_codeM_61 rfl (lv_at hl 0 rfl) ?_
      refine lv_dup2_11 hx hb d_codeM_62 rfl rfl ?_
      refine va_iald (n := 40) (f := η 3) hx hb hK hP 5 0 rfl rfl (i := ν 3 0) (by first | assumption | exact in_isPerson ‹_› | exact in_isItem ‹_›) d_codeM_63 ?_
      refine lv_iconst (v := 1) hx hb d_codeM_64 (by decide) ?_
      refine lv_iadd hx hb d_codeM_65 ?_
      refine va_iast (n := 40) (f := η 3) hx hb hK hP hD hS 5 0 rfl rfl (i := ν 3 0) (x := (η 3 (ν 3 0).toNatClampNeg) + 1) (by first | assumption | exact in_isPerson ‹_› | exact in_isItem ‹_›) d_codeM_66 (fun H locs hP hD hS => ?_)
      have hP : va_P (dC, dI) vwCl (w_Main cI cZ mo oM hH hH0 hH1 hH2 hH3 hH4 hH5 hH6 hH7 hH8 kR kR0 kR1 xR xR0 xR1 sS sS0 (ω 0 0) (η 0) (η 1) (η 2) (upd (η 3) (ν 3 0).toNatClampNeg ((η 3 (ν 3 0).toNatClampNeg) + 1)) (η 4) (η 5) (η 6) (η 7) (η 8) (κ 0) (κ 1) (κ 2 0) (χ 0) (χ 1) (χ 2 0) (ν 0) (ν 1 0) (ν 2 0) (ν 3 0) (ν 4 0) (ν 5 0)) H := hP
      have hD : va_D A (w_Main cI cZ mo oM hH hH0 hH1 hH2 hH3 hH4 hH5 hH6 hH7 hH8 kR kR0 kR1 xR xR0 xR1 sS sS0 (ω 0 0) (η 0) (η 1) (η 2) (upd (η 3) (ν 3 0).toNatClampNeg ((η 3 (ν 3 0).toNatClampNeg) + 1)) (η 4) (η 5) (η 6) (η 7) (η 8) (κ 0) (κ 1) (κ 2 0) (χ 0) (χ 1) (χ 2 0) (ν 0) (ν 1 0) (ν 2 0) (ν 3 0) (ν 4 0) (ν 5 0)) := hD
      refine lv_aload_n hx hb d_codeM_67 rfl (lv_at hl 1 rfl) ?_
      refine va_get (D := (dC, dI)) (ci := 3) (v := .ref sS) (C := R_Main) (T := T_Main) (N := 5) hx hb hts in_Main hown hK hP 0 rfl rfl 3 (by decide) (hts _ mw_136) (fun _ h9 => h9) rfl d_codeM_68 ?_
      refine xc_VWv (As := []) (rest := []) (ci := 2) (wr := (r_Main_S cI cZ mo oM hH hH0 hH1 hH2 hH3 hH4 hH5 hH6 hH7 hH8 kR kR0 kR1 xR xR0 xR1 sS sS0 (ω 0 0) (η 0) (η 1) (η 2) (upd (η 3) (ν 3 0).toNatClampNeg ((η 3 (ν 3 0).toNatClampNeg) + 1)) (η 4) (η 5) (η 6) (η 7) (η 8) (κ 0) (κ 1) (κ 2 0) (χ 0) (χ 1) (χ 2 0) (ν 0) (ν 1 0) (ν 2 0) (ν 3 0) (ν 4 0) (ν 5 0))) ⟨hx, hb, hml, hown, hts⟩ hT hK hP hD hS hA (c_sClose l dC dI cI cZ sS sS0 H.size ν) [17, 18] [0, 1, 2, 3, 4, 5, 6, 7, 8, 9, 10, 11, 12, 13, 14, 15, 16] rfl (by decide) rfl (by decide) (by decide) (xw_V 0 hts mw_195 mw_18 mw_192 mw_193 mw_194 rfl rfl (by decide +kernel) ⟨Nat.le_of_ble_eq_true rfl, Nat.le_of_ble_eq_true rfl⟩) rfl rfl rfl hl.1 rfl (Nat.le_of_ble_eq_true rfl) d_codeM_71 ⟨Nat.zero_le _, Nat.zero_le _⟩ (fun u H locs hw hP hD hS => ?_)
      obtain rfl := hw
      have hP : va_P (dC, dI) vwCl (w_Main cI cZ mo oM hH hH0 hH1 hH2 hH3 hH4 hH5 hH6 hH7 hH8 kR kR0 kR1 xR xR0 xR1 sS sS0 (ω 0 0) (η 0) (η 1) (η 2) (upd (η 3) (ν 3 0).toNatClampNeg ((η 3 (ν 3 0).toNatClampNeg) + 1)) (η 4) (η 5) (η 6) (η 7) (η 8) (κ 0) (κ 1) (κ 2 0) (χ 0) (χ 1) (χ 2 0) ((F_sClose ν) 0) ((F_sClose ν) 1 0) ((F_sClose ν) 2 0) ((F_sClose ν) 3 0) ((F_sClose ν) 4 0) ((F_sClose ν) 5 0)) H := hP.sub [0, 1, 2, 3, 4, 5, 6, 7, 8, 9, 10, 11, 12, 13, 14, 15, 16, 17, 18] rfl
      have hD : va_D A (w_Main cI cZ mo oM hH hH0 hH1 hH2 hH3 hH4 hH5 hH6 hH7 hH8 kR kR0 kR1 xR xR0 xR1 sS sS0 (ω 0 0) (η 0) (η 1) (η 2) (upd (η 3) (ν 3 0).toNatClampNeg ((η 3 (ν 3 0).toNatClampNeg) + 1)) (η 4) (η 5) (η 6) (η 7) (η 8) (κ 0) (κ 1) (κ 2 0) (χ 0) (χ 1) (χ 2 0) ((F_sClose ν) 0) ((F_sClose ν) 1 0) ((F_sClose ν) 2 0) ((F_sClose ν) 3 0) ((F_sClose ν) 4 0) ((F_sClose ν) 5 0)) := hD.sub [0, 1, 2, 3, 4, 5, 6, 7, 8, 9, 10, 11, 12, 13, 14, 15, 16, 17, 18] (by decide) rfl
      refine lv_aload_n hx hb d_codeM_74 rfl (lv_at hl 1 rfl) ?_
      refine va_get (D := (dC, dI)) (ci := 3) (v := .ref hH) (C := R_Main) (T := T_Main) (N := 5) hx hb hts in_Main hown hK hP 0 rfl rfl 0 (by decide) (hts _ mw_133) (fun _ h9 => h9) rfl d_codeM_75 ?_
      refine lv_iload_n hx hb d_codeM_78 rfl (lv_at hl 0 rfl) ?_
      refine xc_VR (As := [.int (ν 3 0)]) (rest := []) (ci := 0) ⟨hx, hb, hml, hown, hts⟩ hT hK hP (c_isBBC l dC dI cI cZ hH hH0 hH1 hH2 hH3 hH4 hH5 hH6 hH7 hH8 (ss η 3 (upd (η 3) (ν 3 0).toNatClampNeg ((η 3 (ν 3 0).toNatClampNeg) + 1))) (ν 3 0) (by first | assumption | exact in_isPerson ‹_› | exact in_isItem ‹_›)) [1, 2, 3, 4, 5, 6, 7, 8, 9, 10] rfl (xw_V 1 hts mw_167 mw_15 mw_183 mw_165 mw_166 rfl rfl (by decide +kernel) ⟨Nat.le_of_ble_eq_true rfl, Nat.le_of_ble_eq_true rfl⟩) rfl rfl rfl hl.1 rfl (Nat.le_of_ble_eq_true rfl) d_codeM_79 ⟨Nat.zero_le _, Nat.zero_le _⟩ (fun r hw => ?_)
      subst hw
      refine lv_if_eq (tgt := 89) hx hb d_codeM_82 (by decide) (fun c_3 => ?_) (fun c_3 => ?_)
      · refine lv_iconst (v := 0) hx hb d_codeM_89 (by decide) ?_
        have hF : F_codeM mo ω η κ χ ν q1 = (0, ω, (ss η 3 (upd (η 3) (ν 3 0).toNatClampNeg ((η 3 (ν 3 0).toNatClampNeg) + 1))), κ, χ, (F_sClose ν)) := (if_pos c_1).trans ((if_neg c_2).trans ((if_pos c_3).trans rfl))
        exact W.iret (v := 0) hx hb hr (fun t ht hW => ⟨⟨0, (ω, (ss η 3 (upd (η 3) (ν 3 0).toNatClampNeg ((η 3 (ν 3 0).toNatClampNeg) + 1))), κ, χ, (F_sClose ν)), rfl, ⟨(congrArg Prod.fst hF).symm, (congrArg Prod.snd hF).symm⟩, by rw [ht]; exact hP, hD⟩, hS.F ht⟩) hS.2.2 d_codeM_90
      · refine lv_iconst (v := -1) hx hb d_codeM_85 (by decide) ?_
        refine lv_goto (tgt := 90) hx hb d_codeM_86 (by decide) ?_
        have hF : F_codeM mo ω η κ χ ν q1 = (-1, ω, (ss η 3 (upd (η 3) (ν 3 0).toNatClampNeg ((η 3 (ν 3 0).toNatClampNeg) + 1))), κ, χ, (F_sClose ν)) := (if_pos c_1).trans ((if_neg c_2).trans ((if_neg c_3).trans rfl))
        exact W.iret (v := -1) hx hb hr (fun t ht hW => ⟨⟨-1, (ω, (ss η 3 (upd (η 3) (ν 3 0).toNatClampNeg ((η 3 (ν 3 0).toNatClampNeg) + 1))), κ, χ, (F_sClose ν)), rfl, ⟨(congrArg Prod.fst hF).symm, (congrArg Prod.snd hF).symm⟩, by rw [ht]; exact hP, hD⟩, hS.F ht⟩) hS.2.2 d_codeM_90
    · refine lv_aload_n hx hb d_codeM_35 rfl (lv_at hl 1 rfl) ?_
      refine va_get (D := (dC, dI)) (ci := 3) (v := .ref hH) (C := R_Main) (T := T_Main) (N := 5) hx hb hts in_Main hown hK hP 0 rfl rfl 0 (by decide) (hts _ mw_133) (fun _ h9 => h9) rfl d_codeM_36 ?_
      refine va_getN (D := (dC, dI)) (ci := 0) (v := .ref hH3) (C := R_House) (T := T_House) (N := 9) hx hb hts in_House hown hK hP 1 rfl rfl 3 (by decide) (hts _ mw_50) (fun _ h9 => h9) rfl d_codeM_39 ?_
      refine lv_iload_n hx hb d_codeM_42 rfl (lv_at hl 0 rfl) ?_
      refine lv_iconst (v := 0) hx hb d_codeM_43 (by decide) ?_
      refine va_iast (n := 40) (f := η 3) hx hb hK hP hD hS 5 0 rfl rfl (i := ν 3 0) (x := 0) (by first | assumption | exact in_isPerson ‹_› | exact in_isItem ‹_›) d_codeM_44 (fun H locs hP hD hS => ?_)
      have hP : va_P (dC, dI) vwCl (w_Main cI cZ mo oM hH hH0 hH1 hH2 hH3 hH4 hH5 hH6 hH7 hH8 kR kR0 kR1 xR xR0 xR1 sS sS0 (ω 0 0) (η 0) (η 1) (η 2) (upd (η 3) (ν 3 0).toNatClampNeg 0) (η 4) (η 5) (η 6) (η 7) (η 8) (κ 0) (κ 1) (κ 2 0) (χ 0) (χ 1) (χ 2 0) (ν 0) (ν 1 0) (ν 2 0) (ν 3 0) (ν 4 0) (ν 5 0)) H := hP
      have hD : va_D A (w_Main cI cZ mo oM hH hH0 hH1 hH2 hH3 hH4 hH5 hH6 hH7 hH8 kR kR0 kR1 xR xR0 xR1 sS sS0 (ω 0 0) (η 0) (η 1) (η 2) (upd (η 3) (ν 3 0).toNatClampNeg 0) (η 4) (η 5) (η 6) (η 7) (η 8) (κ 0) (κ 1) (κ 2 0) (χ 0) (χ 1) (χ 2 0) (ν 0) (ν 1 0) (ν 2 0) (ν 3 0) (ν 4 0) (ν 5 0)) := hD
      refine lv_aload_n hx hb d_codeM_45 rfl (lv_at hl 1 rfl) ?_
      refine va_get (D := (dC, dI)) (ci := 3) (v := .ref sS) (C := R_Main) (T := T_Main) (N := 5) hx hb hts in_Main hown hK hP 0 rfl rfl 3 (by decide) (hts _ mw_136) (fun _ h9 => h9) rfl d_codeM_46 ?_
      refine xc_VWv (As := []) (rest := []) (ci := 2) (wr := (r_Main_S cI cZ mo oM hH hH0 hH1 hH2 hH3 hH4 hH5 hH6 hH7 hH8 kR kR0 kR1 xR xR0 xR1 sS sS0 (ω 0 0) (η 0) (η 1) (η 2) (upd (η 3) (ν 3 0).toNatClampNeg 0) (η 4) (η 5) (η 6) (η 7) (η 8) (κ 0) (κ 1) (κ 2 0) (χ 0) (χ 1) (χ 2 0) (ν 0) (ν 1 0) (ν 2 0) (ν 3 0) (ν 4 0) (ν 5 0))) ⟨hx, hb, hml, hown, hts⟩ hT hK hP hD hS hA (c_sBegin l dC dI cI cZ sS sS0 H.size ν) [17, 18] [0, 1, 2, 3, 4, 5, 6, 7, 8, 9, 10, 11, 12, 13, 14, 15, 16] rfl (by decide) rfl (by decide) (by decide) (xw_V 0 hts mw_191 mw_18 mw_188 mw_189 mw_190 rfl rfl (by decide +kernel) ⟨Nat.le_of_ble_eq_true rfl, Nat.le_of_ble_eq_true rfl⟩) rfl rfl rfl hl.1 rfl (Nat.le_of_ble_eq_true rfl) d_codeM_49 ⟨Nat.zero_le _, Nat.zero_le _⟩ (fun u H locs hw hP hD hS => ?_)
      obtain rfl := hw
      have hP : va_P (dC, dI) vwCl (w_Main cI cZ mo oM hH hH0 hH1 hH2 hH3 hH4 hH5 hH6 hH7 hH8 kR kR0 kR1 xR xR0 xR1 sS sS0 (ω 0 0) (η 0) (η 1) (η 2) (upd (η 3) (ν 3 0).toNatClampNeg 0) (η 4) (η 5) (η 6) (η 7) (η 8) (κ 0) (κ 1) (κ 2 0) (χ 0) (χ 1) (χ 2 0) ((F_sBegin ν) 0) ((F_sBegin ν) 1 0) ((F_sBegin ν) 2 0) ((F_sBegin ν) 3 0) ((F_sBegin ν) 4 0) ((F_sBegin ν) 5 0)) H := hP.sub [0, 1, 2, 3, 4, 5, 6, 7, 8, 9, 10, 11, 12, 13, 14, 15, 16, 17, 18] rfl
      have hD : va_D A (w_Main cI cZ mo oM hH hH0 hH1 hH2 hH3 hH4 hH5 hH6 hH7 hH8 kR kR0 kR1 xR xR0 xR1 sS sS0 (ω 0 0) (η 0) (η 1) (η 2) (upd (η 3) (ν 3 0).toNatClampNeg 0) (η 4) (η 5) (η 6) (η 7) (η 8) (κ 0) (κ 1) (κ 2 0) (χ 0) (χ 1) (χ 2 0) ((F_sBegin ν) 0) ((F_sBegin ν) 1 0) ((F_sBegin ν) 2 0) ((F_sBegin ν) 3 0) ((F_sBegin ν) 4 0) ((F_sBegin ν) 5 0)) := hD.sub [0, 1, 2, 3, 4, 5, 6, 7, 8, 9, 10, 11, 12, 13, 14, 15, 16, 17, 18] (by decide) rfl
      refine lv_iconst (v := 1) hx hb d_codeM_52 (by decide) ?_
      have hF : F_codeM mo ω η κ χ ν q1 = (1, ω, (ss η 3 (upd (η 3) (ν 3 0).toNatClampNeg 0)), κ, χ, (F_sBegin ν)) := (if_pos c_1).trans ((if_pos c_2).trans rfl)
      exact W.iret (v := 1) hx hb hr (fun t ht hW => ⟨⟨1, (ω, (ss η 3 (upd (η 3) (ν 3 0).toNatClampNeg 0)), κ, χ, (F_sBegin ν)), rfl, ⟨(congrArg Prod.fst hF).symm, (congrArg Prod.snd hF).symm⟩, by rw [ht]; exact hP, hD⟩, hS.F ht⟩) hS.2.2 d_codeM_53
  · refine lv_bipush (v := -2) hx hb d_codeM_11 (by decide) ?_
    have hF : F_codeM mo ω η κ χ ν q1 = (-2, ω, η, κ, χ, ν) := (if_neg c_1).trans rfl
    exact W.iret (v := -2) hx hb hr (fun t ht hW => ⟨⟨-2, (ω, η, κ, χ, ν), rfl, ⟨(congrArg Prod.fst hF).symm, (congrArg Prod.snd hF).symm⟩, by rw [ht]; exact hP, hD⟩, hS.F ht⟩) hS.2.2 d_codeM_13
