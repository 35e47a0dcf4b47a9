def F_back (mo : Nat) (ω η κ χ ν : SS) (q1 : Int32) : Int32 × SS × SS × SS × SS × SS :=
  if (F_isItem q1) = 0 then
    (-1, ω, η, κ, χ, ν)
  else
    if (ω 0 0) = 0 then
      ((F_takeB η q1).1, ω, ((F_takeB η q1).2), κ, χ, ν)
    else
      if (F_isFull mo κ) = 0 then
        (0, ω, (ss η 6 (upd (η 6) q1.toNatClampNeg (vp_nar .boolean 1))), (F_rAdd mo κ q1 (-1)), χ, ν)
      else
        (-7, ω, η, κ, χ, ν)
set_option maxHeartbeats 4000000 in
set_option maxRecDepth 100000 in
theorem c_back (l : Launch) (dC : Nat → ClassId) (dI : Nat → Nat → Nat) (cI cZ : ClassId) (mo : Nat) (oM hH hH0 hH1 hH2 hH3 hH4 hH5 hH6 hH7 hH8 kR kR0 kR1 xR xR0 xR1 sS sS0 : Nat) (sz : Nat) (ω η κ χ ν : SS) (q1 : Int32) (hI : CInv mo ω η κ χ ν) : Met l y_back [Cond.code y_back prog_1_method_10_code 2 (some .int)] ({ frames := 2, cells := 0, slots := 0, locals := 42 }) (pcW (dC, dI) (w_Main cI cZ mo oM hH hH0 hH1 hH2 hH3 hH4 hH5 hH6 hH7 hH8 kR kR0 kR1 xR xR0 xR1 sS sS0 (ω 0 0) (η 0) (η 1) (η 2) (η 3) (η 4) (η 5) (η 6) (η 7) (η 8) (κ 0) (κ 1) (κ 2 0) (χ 0) (χ 1) (χ 2 0) (ν 0) (ν 1 0) (ν 2 0) (ν 3 0) (ν 4 0) (ν 5 0)) (tyC cI cZ) sz [.ref oM, .int q1]) (qI (fun r u => r = (F_back mo ω η κ χ ν q1).1 ∧ u = (F_back mo ω η κ χ ν q1).2) (dC, dI) (fun u : SS × SS × SS × SS × SS => w_Main cI cZ mo oM hH hH0 hH1 hH2 hH3 hH4 hH5 hH6 hH7 hH8 kR kR0 kR1 xR xR0 xR1 sS sS0 (u.1 0 0) (u.2.1 0) (u.2.1 1) (u.2.1 2) (u.2.1 3) (u.2.1 4) (u.2.1 5) (u.2.1 6) (u.2.1 7) (u.2.1 8) (u.2.2.1 0) (u.2.2.1 1) (u.2.2.1 2 0) (u.2.2.2.1 0) (u.2.2.2.1 1) (u.2.2.2.1 2 0) (u.2.2.2.2 0) (u.2.2.2.2 1 0) (u.2.2.2.2 2 0) (u.2.2.2.2 3 0) (u.2.2.2.2 4 0) (u.2.2.2.2 5 0)) (va_A (w_Main cI cZ mo oM hH hH0 hH1 hH2 hH3 hH4 hH5 hH6 hH7 hH8 kR kR0 kR1 xR xR0 xR1 sS sS0 (ω 0 0) (η 0) (η 1) (η 2) (η 3) (η 4) (η 5) (η 6) (η 7) (η 8) (κ 0) (κ 1) (κ 2 0) (χ 0) (χ 1) (χ 2 0) (ν 0) (ν 1 0) (ν 2 0) (ν 3 0) (ν 4 0) (ν 5 0)) sz)) 0 0 (va_A (w_Main cI cZ mo oM hH hH0 hH1 hH2 hH3 hH4 hH5 hH6 hH7 hH8 kR kR0 kR1 xR xR0 xR1 sS sS0 (ω 0 0) (η 0) (η 1) (η 2) (η 3) (η 4) (η 5) (η 6) (η 7) (η 8) (κ 0) (κ 1) (κ 2 0) (χ 0) (χ 1) (χ 2 0) (ν 0) (ν 1 0) (ν 2 0) (ν 3 0) (ν 4 0) (ν 5 0)) sz) := by
  refine Met.ofW (cc := prog_1_method_10_code) (maxL := 2) (ret := (some .int)) (by decide) rfl ?_
  intro p e s m args below meth c s₁ B hml hv
  obtain ⟨rfl, hsz, hT, hP, hK, hD0⟩ := hv
  have hx := B.exec
  have hb := B.bytes
  have hr := B.returns
  have hts : ∀ w ∈ lw_ok, w.before ([.ref oM, .int q1] : List Value).toArray s = true := hT.use
  have hown : s.vm.findClass R_Main = some m.cls := findClass_of_methodNamed B.named
  have hlocks := B.notSynchronized
  subst hsz
  have hD := hD0.self (sz := s.heap.size)
  generalize hAe : va_A (w_Main cI cZ mo oM hH hH0 hH1 hH2 hH3 hH4 hH5 hH6 hH7 hH8 kR kR0 kR1 xR xR0 xR1 sS sS0 (ω 0 0) (η 0) (η 1) (η 2) (η 3) (η 4) (η 5) (η 6) (η 7) (η 8) (κ 0) (κ 1) (κ 2 0) (χ 0) (χ 1) (χ 2 0) (ν 0) (ν 1 0) (ν 2 0) (ν 3 0) (ν 4 0) (ν 5 0)) s.heap.size = A at hD ⊢
  have hA : ∀ q : Nat, s.heap.size ≤ q → A q := fun q h => by rw [← hAe]; exact Or.inr h
  have hS : va_S A s.heap s.heap [] := va_S.rf
  have hl := lv_entry ([.ref oM, .int q1]) (n := 2) (Nat.le_of_ble_eq_true rfl)
  rw [lg_entry_eq]
  generalize (lg_sl ([.ref oM, .int q1]) ++ List.replicate (2 - (lg_sl ([.ref oM, .int q1])).length) Slot.unset).toArray = ls at hl ⊢
  have hl : lv_has ls 2 [(0, .ref oM), (1, .int q1)] := hl
  obtain ⟨hmo, hof, hre, hlo, hlk, hkc, hxc, hpe, hla, hlc⟩ := id hI
  refine lv_iload_n hx hb d_back_0 rfl (lv_at hl 1 rfl) ?_
  refine xc_S0 (As := [.int q1]) (rest := []) ⟨hx, hb, hml, hown, hts⟩ hT (c_isItem l q1) ⟨xw_B 1 hts mw_174 mw_13 mw_172 rfl rfl (by decide +kernel) ⟨Nat.le_of_ble_eq_true rfl, Nat.le_of_ble_eq_true rfl⟩, hts _ mw_173⟩ rfl hl.1 rfl (Nat.le_of_ble_eq_true rfl) d_back_1 ⟨Nat.zero_le _, Nat.zero_le _⟩ (fun r hw => ?_)
  subst hw
  refine lv_if_ne (tgt := 9) hx hb d_back_4 (by decide) (fun c_1 => ?_) (fun c_1 => ?_)
  · refine lv_aload_n hx hb d_back_9 rfl (lv_at hl 0 rfl) ?_
    refine va_get (D := (dC, dI)) (ci := 3) (v := .int (ω 0 0)) (C := R_Main) (T := T_Main) (N := 5) hx hb hts in_Main hown hK hP 0 rfl rfl 4 (by decide) (hts _ mw_137) (fun _ h9 => h9) rfl d_back_10 ?_
    refine lv_if_ne (tgt := 25) hx hb d_back_13 (by decide) (fun c_2 => ?_) (fun c_2 => ?_)
    · refine lv_aload_n hx hb d_back_25 rfl (lv_at hl 0 rfl) ?_
      refine va_get (D := (dC, dI)) (ci := 3) (v := .ref kR) (C := R_Main) (T := T_Main) (N := 5) hx hb hts in_Main hown hK hP 0 rfl rfl 1 (by decide) (hts _ mw_134) (fun _ h9 => h9) rfl d_back_26 ?_
      refine xc_VR (As := []) (rest := []) (ci := 1) ⟨hx, hb, hml, hown, hts⟩ hT hK hP (c_isFull l dC dI cI cZ mo kR kR0 kR1 κ) [11, 12, 13] rfl (xw_V 0 hts mw_219 mw_17 mw_216 mw_217 mw_218 rfl rfl (by decide +kernel) ⟨Nat.le_of_ble_eq_true rfl, Nat.le_of_ble_eq_true rfl⟩) rfl rfl rfl hl.1 rfl (Nat.le_of_ble_eq_true rfl) d_back_29 ⟨Nat.zero_le _, Nat.zero_le _⟩ (fun r hw => ?_)
      subst hw
      refine lv_if_eq (tgt := 38) hx hb d_back_32 (by decide) (fun c_3 => ?_) (fun c_3 => ?_)
      · refine lv_aload_n hx hb d_back_38 rfl (lv_at hl 0 rfl) ?_
        refine va_get (D := (dC, dI)) (ci := 3) (v := .ref kR) (C := R_Main) (T := T_Main) (N := 5) hx hb hts in_Main hown hK hP 0 rfl rfl 1 (by decide) (hts _ mw_134) (fun _ h9 => h9) rfl d_back_39 ?_
        refine lv_iload_n hx hb d_back_42 rfl (lv_at hl 1 rfl) ?_
        refine lv_iconst (v := -1) hx hb d_back_43 (by decide) ?_
        refine xc_VWv (As := [.int q1, .int (-1)]) (rest := []) (ci := 1) (wr := (r_Main_K cI cZ mo oM hH hH0 hH1 hH2 hH3 hH4 hH5 hH6 hH7 hH8 kR kR0 kR1 xR xR0 xR1 sS sS0 (ω 0 0) (η 0) (η 1) (η 2) (η 3) (η 4) (η 5) (η 6) (η 7) (η 8) (κ 0) (κ 1) (κ 2 0) (χ 0) (χ 1) (χ 2 0) (ν 0) (ν 1 0) (ν 2 0) (ν 3 0) (ν 4 0) (ν 5 0))) ⟨hx, hb, hml, hown, hts⟩ hT hK hP hD hS hA (c_rAdd l dC dI cI cZ mo kR kR0 kR1 s.heap.size κ q1 (-1) (by first | assumption | exact in_isPerson ‹_› | exact in_isItem ‹_› | exact kb hkc) (by first | assumption | exact in_isPerson ‹_› | exact in_isItem ‹_› | exact kb hkc)) [11, 12, 13] [0, 1, 2, 3, 4, 5, 6, 7, 8, 9, 10, 14, 15, 16, 17, 18] rfl (by decide) rfl (by decide) (by decide) (xw_V 2 hts mw_232 mw_17 mw_229 mw_230 mw_231 rfl rfl (by decide +kernel) ⟨Nat.le_of_ble_eq_true rfl, Nat.le_of_ble_eq_true rfl⟩) rfl rfl rfl hl.1 rfl (Nat.le_of_ble_eq_true rfl) d_back_44 ⟨Nat.zero_le _, Nat.zero_le _⟩ (fun u H locs hw hP hD hS => ?_)
        obtain rfl := hw
        have hP : va_P (dC, dI) vwCl (w_Main cI cZ mo oM hH hH0 hH1 hH2 hH3 hH4 hH5 hH6 hH7 hH8 kR kR0 kR1 xR xR0 xR1 sS sS0 (ω 0 0) (η 0) (η 1) (η 2) (η 3) (η 4) (η 5) (η 6) (η 7) (η 8) ((F_rAdd mo κ q1 (-1)) 0) ((F_rAdd mo κ q1 (-1)) 1) ((F_rAdd mo κ q1 (-1)) 2 0) (χ 0) (χ 1) (χ 2 0) (ν 0) (ν 1 0) (ν 2 0) (ν 3 0) (ν 4 0) (ν 5 0)) H := hP.sub [0, 1, 2, 3, 4, 5, 6, 7, 8, 9, 10, 16, 17, 18, 11, 12, 13, 14, 15] rfl
        have hD : va_D A (w_Main cI cZ mo oM hH hH0 hH1 hH2 hH3 hH4 hH5 hH6 hH7 hH8 kR kR0 kR1 xR xR0 xR1 sS sS0 (ω 0 0) (η 0) (η 1) (η 2) (η 3) (η 4) (η 5) (η 6) (η 7) (η 8) ((F_rAdd mo κ q1 (-1)) 0) ((F_rAdd mo κ q1 (-1)) 1) ((F_rAdd mo κ q1 (-1)) 2 0) (χ 0) (χ 1) (χ 2 0) (ν 0) (ν 1 0) (ν 2 0) (ν 3 0) (ν 4 0) (ν 5 0)) := hD.sub [0, 1, 2, 3, 4, 5, 6, 7, 8, 9, 10, 16, 17, 18, 11, 12, 13, 14, 15] (by decide) rfl
        refine lv_aload_n hx hb d_back_47 rfl (lv_at hl 0 rfl) ?_
        refine va_get (D := (dC, dI)) (ci := 3) (v := .ref hH) (C := R_Main) (T := T_Main) (N := 5) hx hb hts in_Main hown hK hP 0 rfl rfl 0 (by decide) (hts _ mw_133) (fun _ h9 => h9) rfl d_back_48 ?_
        refine va_getN (D := (dC, dI)) (ci := 0) (v := .ref hH6) (C := R_House) (T := T_House) (N := 9) hx hb hts in_House hown hK hP 1 rfl rfl 6 (by decide) (hts _ mw_56) (fun _ h9 => h9) rfl d_back_51 ?_
        refine lv_iload_n hx hb d_back_54 rfl (lv_at hl 1 rfl) ?_
        refine lv_iconst (v := 1) hx hb d_back_55 (by decide) ?_
        refine va_zast (n := 60) (f := η 6) hx hb hK hP hD hS 8 1 rfl rfl (i := q1) (x := 1) (by first | assumption | exact in_isPerson ‹_› | exact in_isItem ‹_› | exact kb hkc) d_back_56 (fun H locs hP hD hS => ?_)
        have hP : va_P (dC, dI) vwCl (w_Main cI cZ mo oM hH hH0 hH1 hH2 hH3 hH4 hH5 hH6 hH7 hH8 kR kR0 kR1 xR xR0 xR1 sS sS0 (ω 0 0) (η 0) (η 1) (η 2) (η 3) (η 4) (η 5) (upd (η 6) q1.toNatClampNeg (vp_nar .boolean 1)) (η 7) (η 8) ((F_rAdd mo κ q1 (-1)) 0) ((F_rAdd mo κ q1 (-1)) 1) ((F_rAdd mo κ q1 (-1)) 2 0) (χ 0) (χ 1) (χ 2 0) (ν 0) (ν 1 0) (ν 2 0) (ν 3 0) (ν 4 0) (ν 5 0)) H := hP
        have hD : va_D A (w_Main cI cZ mo oM hH hH0 hH1 hH2 hH3 hH4 hH5 hH6 hH7 hH8 kR kR0 kR1 xR xR0 xR1 sS sS0 (ω 0 0) (η 0) (η 1) (η 2) (η 3) (η 4) (η 5) (upd (η 6) q1.toNatClampNeg (vp_nar .boolean 1)) (η 7) (η 8) ((F_rAdd mo κ q1 (-1)) 0) ((F_rAdd mo κ q1 (-1)) 1) ((F_rAdd mo κ q1 (-1)) 2 0) (χ 0) (χ 1) (χ 2 0) (ν 0) (ν 1 0) (ν 2 0) (ν 3 0) (ν 4 0) (ν 5 0)) := hD
        refine lv_iconst (v := 0) hx hb d_back_57 (by decide) ?_
        have hF : F_back mo ω η κ χ ν q1 = (0, ω, (ss η 6 (upd (η 6) q1.toNatClampNeg (vp_nar .boolean 1))), (F_rAdd mo κ q1 (-1)), χ, ν) := (if_neg c_1).trans ((if_neg c_2).trans ((if_pos c_3).trans rfl))
        exact W.iret (v := 0) hx hb hr (fun t ht hW => ⟨⟨0, (ω, (ss η 6 (upd (η 6) q1.toNatClampNeg (vp_nar .boolean 1))), (F_rAdd mo κ q1 (-1)), χ, ν), rfl, ⟨(congrArg Prod.fst hF).symm, (congrArg Prod.snd hF).symm⟩, by rw [ht]; exact hP, hD⟩, hS.F ht⟩) hS.2.2 d_back_58
      · refine lv_bipush (v := -7) hx hb d_back_35 (by decide) ?_
        have hF : F_back mo ω η κ χ ν q1 = (-7, ω, η, κ, χ, ν) := (if_neg c_1).trans ((if_neg c_2).trans ((if_neg c_3).trans rfl))
        exact W.iret (v := -7) hx hb hr (fun t ht hW => ⟨⟨-7, (ω, η, κ, χ, ν), rfl, ⟨(congrArg Prod.fst hF).symm, (congrArg Prod.snd hF).symm⟩, by rw [ht]; exact hP, hD⟩, hS.F ht⟩) hS.2.2 d_back_37
    · refine lv_aload_n hx hb d_back_16 rfl (lv_at hl 0 rfl) ?_
      refine va_get (D := (dC, dI)) (ci := 3) (v := .ref hH) (C := R_Main) (T := T_Main) (N := 5) hx hb hts in_Main hown hK hP 0 rfl rfl 0 (by decide) (hts _ mw_133) (fun _ h9 => h9) rfl d_back_17 ?_
      refine lv_iload_n hx hb d_back_20 rfl (lv_at hl 1 rfl) ?_
      refine xc_VWi (As := [.int q1]) (rest := []) (ci := 0) (wr := (r_Main_H cI cZ mo oM hH hH0 hH1 hH2 hH3 hH4 hH5 hH6 hH7 hH8 kR kR0 kR1 xR xR0 xR1 sS sS0 (ω 0 0) (η 0) (η 1) (η 2) (η 3) (η 4) (η 5) (η 6) (η 7) (η 8) (κ 0) (κ 1) (κ 2 0) (χ 0) (χ 1) (χ 2 0) (ν 0) (ν 1 0) (ν 2 0) (ν 3 0) (ν 4 0) (ν 5 0))) ⟨hx, hb, hml, hown, hts⟩ hT hK hP hD hS hA (c_takeB l dC dI cI cZ hH hH0 hH1 hH2 hH3 hH4 hH5 hH6 hH7 hH8 s.heap.size η q1 (by first | assumption | exact in_isPerson ‹_› | exact in_isItem ‹_› | exact kb hkc)) [1, 2, 3, 4, 5, 6, 7, 8, 9, 10] [0, 11, 12, 13, 14, 15, 16, 17, 18] rfl (by decide) rfl (by decide) (by decide) (xw_V 1 hts mw_249 mw_15 mw_246 mw_247 mw_248 rfl rfl (by decide +kernel) ⟨Nat.le_of_ble_eq_true rfl, Nat.le_of_ble_eq_true rfl⟩) rfl rfl rfl hl.1 rfl (Nat.le_of_ble_eq_true rfl) d_back_21 ⟨Nat.zero_le _, Nat.zero_le _⟩ (fun r u H locs hw hP hD hS => ?_)
      obtain ⟨rfl, rfl⟩ := hw
      have hP : va_P (dC, dI) vwCl (w_Main cI cZ mo oM hH hH0 hH1 hH2 hH3 hH4 hH5 hH6 hH7 hH8 kR kR0 kR1 xR xR0 xR1 sS sS0 (ω 0 0) (((F_takeB η q1).2) 0) (((F_takeB η q1).2) 1) (((F_takeB η q1).2) 2) (((F_takeB η q1).2) 3) (((F_takeB η q1).2) 4) (((F_takeB η q1).2) 5) (((F_takeB η q1).2) 6) (((F_takeB η q1).2) 7) (((F_takeB η q1).2) 8) (κ 0) (κ 1) (κ 2 0) (χ 0) (χ 1) (χ 2 0) (ν 0) (ν 1 0) (ν 2 0) (ν 3 0) (ν 4 0) (ν 5 0)) H := hP.sub [0, 9, 10, 11, 12, 13, 14, 15, 16, 17, 18, 1, 2, 3, 4, 5, 6, 7, 8] rfl
      have hD : va_D A (w_Main cI cZ mo oM hH hH0 hH1 hH2 hH3 hH4 hH5 hH6 hH7 hH8 kR kR0 kR1 xR xR0 xR1 sS sS0 (ω 0 0) (((F_takeB η q1).2) 0) (((F_takeB η q1).2) 1) (((F_takeB η q1).2) 2) (((F_takeB η q1).2) 3) (((F_takeB η q1).2) 4) (((F_takeB η q1).2) 5) (((F_takeB η q1).2) 6) (((F_takeB η q1).2) 7) (((F_takeB η q1).2) 8) (κ 0) (κ 1) (κ 2 0) (χ 0) (χ 1) (χ 2 0) (ν 0) (ν 1 0) (ν 2 0) (ν 3 0) (ν 4 0) (ν 5 0)) := hD.sub [0, 9, 10, 11, 12, 13, 14, 15, 16, 17, 18, 1, 2, 3, 4, 5, 6, 7, 8] (by decide) rfl
      have hF : F_back mo ω η κ χ ν q1 = ((F_takeB η q1).1, ω, ((F_takeB η q1).2), κ, χ, ν) := (if_neg c_1).trans ((if_pos c_2).trans rfl)
      exact W.iret (v := (F_takeB η q1).1) hx hb hr (fun t ht hW => ⟨⟨(F_takeB η q1).1, (ω, ((F_takeB η q1).2), κ, χ, ν), rfl, ⟨(congrArg Prod.fst hF).symm, (congrArg Prod.snd hF).symm⟩, by rw [ht]; exact hP, hD⟩, hS.F ht⟩) hS.2.2 d_back_24
  · refine lv_iconst (v := -1) hx hb d_back_7 (by decide) ?_
    have hF : F_back mo ω η κ χ ν q1 = (-1, ω, η, κ, χ, ν) := (if_pos c_1).trans rfl
    exact W.iret (v := -1) hx hb hr (fun t ht hW => ⟨⟨-1, (ω, η, κ, χ, ν), rfl, ⟨(congrArg Prod.fst hF).symm, (congrArg Prod.snd hF).symm⟩, by rw [ht]; exact hP, hD⟩, hS.F ht⟩) hS.2.2 d_back_8
def F_undo (mo : Nat) (ω η κ χ ν : SS) : SS × SS × SS × SS × SS :=
  if (ω 0 0) = 0 then
    (ω, ((F_takeB η ((F_remLL ν).1)).2), κ, χ, ((F_remLL ν).2))
  else
    (ω, (ss η 6 (upd (η 6) ((F_remLL ν).1).toNatClampNeg (vp_nar .boolean 1))), (F_rLL mo κ), χ, ((F_remLL ν).2))
set_option maxHeartbeats 4000000 in
set_option maxRecDepth 100000 in
theorem c_undo (l : Launch) (dC : Nat → ClassId) (dI : Nat → Nat → Nat) (cI cZ : ClassId) (mo : Nat) (oM hH hH0 hH1 hH2 hH3 hH4 hH5 hH6 hH7 hH8 kR kR0 kR1 xR xR0 xR1 sS sS0 : Nat) (sz : Nat) (ω η κ χ ν : SS) (hI : CInv mo ω η κ χ ν) (h0 : ¬ ν 1 0 ≤ 0) : Met l y_undo [Cond.code y_undo prog_1_method_26_code 2 none] ({ frames := 2, cells := 0, slots := 0, locals := 44 }) (pcW (dC, dI) (w_Main cI cZ mo oM hH hH0 hH1 hH2 hH3 hH4 hH5 hH6 hH7 hH8 kR kR0 kR1 xR xR0 xR1 sS sS0 (ω 0 0) (η 0) (η 1) (η 2) (η 3) (η 4) (η 5) (η 6) (η 7) (η 8) (κ 0) (κ 1) (κ 2 0) (χ 0) (χ 1) (χ 2 0) (ν 0) (ν 1 0) (ν 2 0) (ν 3 0) (ν 4 0) (ν 5 0)) (tyC cI cZ) sz [.ref oM]) (qV (fun u => u = F_undo mo ω η κ χ ν) (dC, dI) (fun u : SS × SS × SS × SS × SS => w_Main cI cZ mo oM hH hH0 hH1 hH2 hH3 hH4 hH5 hH6 hH7 hH8 kR kR0 kR1 xR xR0 xR1 sS sS0 (u.1 0 0) (u.2.1 0) (u.2.1 1) (u.2.1 2) (u.2.1 3) (u.2.1 4) (u.2.1 5) (u.2.1 6) (u.2.1 7) (u.2.1 8) (u.2.2.1 0) (u.2.2.1 1) (u.2.2.1 2 0) (u.2.2.2.1 0) (u.2.2.2.1 1) (u.2.2.2.1 2 0) (u.2.2.2.2 0) (u.2.2.2.2 1 0) (u.2.2.2.2 2 0) (u.2.2.2.2 3 0) (u.2.2.2.2 4 0) (u.2.2.2.2 5 0)) (va_A (w_Main cI cZ mo oM hH hH0 hH1 hH2 hH3 hH4 hH5 hH6 hH7 hH8 kR kR0 kR1 xR xR0 xR1 sS sS0 (ω 0 0) (η 0) (η 1) (η 2) (η 3) (η 4) (η 5) (η 6) (η 7) (η 8) (κ 0) (κ 1) (κ 2 0) (χ 0) (χ 1) (χ 2 0) (ν 0) (ν 1 0) (ν 2 0) (ν 3 0) (ν 4 0) (ν 5 0)) sz)) 0 0 (va_A (w_Main cI cZ mo oM hH hH0 hH1 hH2 hH3 hH4 hH5 hH6 hH7 hH8 kR kR0 kR1 xR xR0 xR1 sS sS0 (ω 0 0) (η 0) (η 1) (η 2) (η 3) (η 4) (η 5) (η 6) (η 7) (η 8) (κ 0) (κ 1) (κ 2 0) (χ 0) (χ 1) (χ 2 0) (ν 0) (ν 1 0) (ν 2 0) (ν 3 0) (ν 4 0) (ν 5 0)) sz) := by
  refine Met.ofW (cc := prog_1_method_26_code) (maxL := 2) (ret := none) (by decide) rfl ?_
  intro p e s m args below meth c s₁ B hml hv
  obtain ⟨rfl, hsz, hT, hP, hK, hD0⟩ := hv
  have hx := B.exec
  have hb := B.bytes
  have hr := B.returns
  have hts : ∀ w ∈ lw_ok, w.before ([.ref oM] : List Value).toArray s = true := hT.use
  have hown : s.vm.findClass R_Main = some m.cls := findClass_of_methodNamed B.named
  have hlocks := B.notSynchronized
  subst hsz
  have hD := hD0.self (sz := s.heap.size)
  generalize hAe : va_A (w_Main cI cZ mo oM hH hH0 hH1 hH2 hH3 hH4 hH5 hH6 hH7 hH8 kR kR0 kR1 xR xR0 xR1 sS sS0 (ω 0 0) (η 0) (η 1) (η 2) (η 3) (η 4) (η 5) (η 6) (η 7) (η 8) (κ 0) (κ 1) (κ 2 0) (χ 0) (χ 1) (χ 2 0) (ν 0) (ν 1 0) (ν 2 0) (ν 3 0) (ν 4 0) (ν 5 0)) s.heap.size = A at hD ⊢
  have hA : ∀ q : Nat, s.heap.size ≤ q → A q := fun q h => by rw [← hAe]; exact Or.inr h
  have hS : va_S A s.heap s.heap [] := va_S.rf
  have hl := lv_entry ([.ref oM]) (n := 2) (Nat.le_of_ble_eq_true rfl)
  rw [lg_entry_eq]
  generalize (lg_sl ([.ref oM]) ++ List.replicate (2 - (lg_sl ([.ref oM])).length) Slot.unset).toArray = ls at hl ⊢
  have hl : lv_has ls 2 [(0, .ref oM)] := hl
  obtain ⟨hmo, hof, hre, hlo, hlk, hkc, hxc, hpe, hla, hlc⟩ := id hI
  refine lv_aload_n hx hb d_undo_0 rfl (lv_at hl 0 rfl) ?_
  refine va_get (D := (dC, dI)) (ci := 3) (v := .ref sS) (C := R_Main) (T := T_Main) (N := 5) hx hb hts in_Main hown hK hP 0 rfl rfl 3 (by decide) (hts _ mw_136) (fun _ h9 => h9) rfl d_undo_1 ?_
  refine xc_VWi (As := []) (rest := []) (ci := 2) (wr := (r_Main_S cI cZ mo oM hH hH0 hH1 hH2 hH3 hH4 hH5 hH6 hH7 hH8 kR kR0 kR1 xR xR0 xR1 sS sS0 (ω 0 0) (η 0) (η 1) (η 2) (η 3) (η 4) (η 5) (η 6) (η 7) (η 8) (κ 0) (κ 1) (κ 2 0) (χ 0) (χ 1) (χ 2 0) (ν 0) (ν 1 0) (ν 2 0) (ν 3 0) (ν 4 0) (ν 5 0))) ⟨hx, hb, hml, hown, hts⟩ hT hK hP hD hS hA (c_remLL l dC dI cI cZ sS sS0 s.heap.size ν (by first | assumption | exact (lcm hlc h0).1 | exact (lcm hlc h0).2 | exact kb hkc)) [17, 18] [0, 1, 2, 3, 4, 5, 6, 7, 8, 9, 10, 11, 12, 13, 14, 15, 16] rfl (by decide) rfl (by decide) (by decide) (xw_V 0 hts mw_261 mw_18 mw_258 mw_259 mw_260 rfl rfl (by decide +kernel) ⟨Nat.le_of_ble_eq_true rfl, Nat.le_of_ble_eq_true rfl⟩) rfl rfl rfl hl.1 rfl (Nat.le_of_ble_eq_true rfl) d_undo_4 ⟨Nat.zero_le _, Nat.zero_le _⟩ (fun r u H locs hw hP hD hS => ?_)
  obtain ⟨rfl, rfl⟩ := hw
  have hP : va_P (dC, dI) vwCl (w_Main cI cZ mo oM hH hH0 hH1 hH2 hH3 hH4 hH5 hH6 hH7 hH8 kR kR0 kR1 xR xR0 xR1 sS sS0 (ω 0 0) (η 0) (η 1) (η 2) (η 3) (η 4) (η 5) (η 6) (η 7) (η 8) (κ 0) (κ 1) (κ 2 0) (χ 0) (χ 1) (χ 2 0) (((F_remLL ν).2) 0) (((F_remLL ν).2) 1 0) (((F_remLL ν).2) 2 0) (((F_remLL ν).2) 3 0) (((F_remLL ν).2) 4 0) (((F_remLL ν).2) 5 0)) H := hP.sub [0, 1, 2, 3, 4, 5, 6, 7, 8, 9, 10, 11, 12, 13, 14, 15, 16, 17, 18] rfl
  have hD : va_D A (w_Main cI cZ mo oM hH hH0 hH1 hH2 hH3 hH4 hH5 hH6 hH7 hH8 kR kR0 kR1 xR xR0 xR1 sS sS0 (ω 0 0) (η 0) (η 1) (η 2) (η 3) (η 4) (η 5) (η 6) (η 7) (η 8) (κ 0) (κ 1) (κ 2 0) (χ 0) (χ 1) (χ 2 0) (((F_remLL ν).2) 0) (((F_remLL ν).2) 1 0) (((F_remLL ν).2) 2 0) (((F_remLL ν).2) 3 0) (((F_remLL ν).2) 4 0) (((F_remLL ν).2) 5 0)) := hD.sub [0, 1, 2, 3, 4, 5, 6, 7, 8, 9, 10, 11, 12, 13, 14, 15, 16, 17, 18] (by decide) rfl
  refine lv_istore_n (lv' := [(1, .int ((F_remLL ν).1)), (0, .ref oM)]) hx hb d_undo_7 rfl hl (by decide) rfl (fun ls hl => ?_)
  refine lv_aload_n hx hb d_undo_8 rfl (lv_at hl 1 rfl) ?_
  refine va_get (D := (dC, dI)) (ci := 3) (v := .int (ω 0 0)) (C := R_Main) (T := T_Main) (N := 5) hx hb hts in_Main hown hK hP 0 rfl rfl 4 (by decide) (hts _ mw_137) (fun _ h9 => h9) rfl d_undo_9 ?_
  refine lv_if_eq (tgt := 35) hx hb d_undo_12 (by decide) (fun c_1 => ?_) (fun c_1 => ?_)
  · refine lv_aload_n hx hb d_undo_35 rfl (lv_at hl 1 rfl) ?_
    refine va_get (D := (dC, dI)) (ci := 3) (v := .ref hH) (C := R_Main) (T := T_Main) (N := 5) hx hb hts in_Main hown hK hP 0 rfl rfl 0 (by decide) (hts _ mw_133) (fun _ h9 => h9) rfl d_undo_36 ?_
    refine lv_iload_n hx hb d_undo_39 rfl (lv_at hl 0 rfl) ?_
    refine xc_VWi (As := [.int ((F_remLL ν).1)]) (rest := []) (ci := 0) (wr := (r_Main_H cI cZ mo oM hH hH0 hH1 hH2 hH3 hH4 hH5 hH6 hH7 hH8 kR kR0 kR1 xR xR0 xR1 sS sS0 (ω 0 0) (η 0) (η 1) (η 2) (η 3) (η 4) (η 5) (η 6) (η 7) (η 8) (κ 0) (κ 1) (κ 2 0) (χ 0) (χ 1) (χ 2 0) (((F_remLL ν).2) 0) (((F_remLL ν).2) 1 0) (((F_remLL ν).2) 2 0) (((F_remLL ν).2) 3 0) (((F_remLL ν).2) 4 0) (((F_remLL ν).2) 5 0))) ⟨hx, hb, hml, hown, hts⟩ hT hK hP hD hS hA (c_takeB l dC dI cI cZ hH hH0 hH1 hH2 hH3 hH4 hH5 hH6 hH7 hH8 H.size η ((F_remLL ν).1) (by first | assumption | exact (lcm hlc h0).1 | exact (lcm hlc h0).2 | exact kb hkc)) [1, 2, 3, 4, 5, 6, 7, 8, 9, 10] [0, 11, 12, 13, 14, 15, 16, 17, 18] rfl (by decide) rfl (by decide) (by decide) (xw_V 1 hts mw_249 mw_15 mw_246 mw_247 mw_248 rfl rfl (by decide +kernel) ⟨Nat.le_of_ble_eq_true rfl, Nat.le_of_ble_eq_true rfl⟩) rfl rfl rfl hl.1 rfl (Nat.le_of_ble_eq_true rfl) d_undo_40 ⟨Nat.zero_le _, Nat.zero_le _⟩ (fun r u H locs hw hP hD hS => ?_)
    obtain ⟨rfl, rfl⟩ := hw
    have hP : va_P (dC, dI) vwCl (w_Main cI cZ mo oM hH hH0 hH1 hH2 hH3 hH4 hH5 hH6 hH7 hH8 kR kR0 kR1 xR xR0 xR1 sS sS0 (ω 0 0) (((F_takeB η ((F_remLL ν).1)).2) 0) (((F_takeB η ((F_remLL ν).1)).2) 1) (((F_takeB η ((F_remLL ν).1)).2) 2) (((F_takeB η ((F_remLL ν).1)).2) 3) (((F_takeB η ((F_remLL ν).1)).2) 4) (((F_takeB η ((F_remLL ν).1)).2) 5) (((F_takeB η ((F_remLL ν).1)).2) 6) (((F_takeB η ((F_remLL ν).1)).2) 7) (((F_takeB η ((F_remLL ν).1)).2) 8) (κ 0) (κ 1) (κ 2 0) (χ 0) (χ 1) (χ 2 0) (((F_remLL ν).2) 0) (((F_remLL ν).2) 1 0) (((F_remLL ν).2) 2 0) (((F_remLL ν).2) 3 0) (((F_remLL ν).2) 4 0) (((F_remLL ν).2) 5 0)) H := hP.sub [0, 9, 10, 11, 12, 13, 14, 15, 16, 17, 18, 1, 2, 3, 4, 5, 6, 7, 8] rfl
    have hD : va_D A (w_Main cI cZ mo oM hH hH0 hH1 hH2 hH3 hH4 hH5 hH6 hH7 hH8 kR kR0 kR1 xR xR0 xR1 sS sS0 (ω 0 0) (((F_takeB η ((F_remLL ν).1)).2) 0) (((F_takeB η ((F_remLL ν).1)).2) 1) (((F_takeB η ((F_remLL ν).1)).2) 2) (((F_takeB η ((F_remLL ν).1)).2) 3) (((F_takeB η ((F_remLL ν).1)).2) 4) (((F_takeB η ((F_remLL ν).1)).2) 5) (((F_takeB η ((F_remLL ν).1)).2) 6) (((F_takeB η ((F_remLL ν).1)).2) 7) (((F_takeB η ((F_remLL ν).1)).2) 8) (κ 0) (κ 1) (κ 2 0) (χ 0) (χ 1) (χ 2 0) (((F_remLL ν).2) 0) (((F_remLL ν).2) 1 0) (((F_remLL ν).2) 2 0) (((F_remLL ν).2) 3 0) (((F_remLL ν).2) 4 0) (((F_remLL ν).2) 5 0)) := hD.sub [0, 9, 10, 11, 12, 13, 14, 15, 16, 17, 18, 1, 2, 3, 4, 5, 6, 7, 8] (by decide) rfl
    refine lv_pop hx hb d_undo_43 rfl ?_
    have hF : F_undo mo ω η κ χ ν = (ω, ((F_takeB η ((F_remLL ν).1)).2), κ, χ, ((F_remLL ν).2)) := (if_pos c_1).trans rfl
    exact W.vret hx hb hr (fun t ht hW => ⟨⟨(ω, ((F_takeB η ((F_remLL ν).1)).2), κ, χ, ((F_remLL ν).2)), rfl, hF.symm, by rw [ht]; exact hP, hD⟩, hS.F ht⟩) hS.2.2 d_undo_44
  · refine lv_aload_n hx hb d_undo_15 rfl (lv_at hl 1 rfl) ?_
    refine va_get (D := (dC, dI)) (ci := 3) (v := .ref kR) (C := R_Main) (T := T_Main) (N := 5) hx hb hts in_Main hown hK hP 0 rfl rfl 1 (by decide) (hts _ mw_134) (fun _ h9 => h9) rfl d_undo_16 ?_
    refine xc_VWv (As := []) (rest := []) (ci := 1) (wr := (r_Main_K cI cZ mo oM hH hH0 hH1 hH2 hH3 hH4 hH5 hH6 hH7 hH8 kR kR0 kR1 xR xR0 xR1 sS sS0 (ω 0 0) (η 0) (η 1) (η 2) (η 3) (η 4) (η 5) (η 6) (η 7) (η 8) (κ 0) (κ 1) (κ 2 0) (χ 0) (χ 1) (χ 2 0) (((F_remLL ν).2) 0) (((F_remLL ν).2) 1 0) (((F_remLL ν).2) 2 0) (((F_remLL ν).2) 3 0) (((F_remLL ν).2) 4 0) (((F_remLL ν).2) 5 0))) ⟨hx, hb, hml, hown, hts⟩ hT hK hP hD hS hA (c_rLL l dC dI cI cZ mo kR kR0 kR1 H.size κ (by first | assumption | exact (lcm hlc h0).1 | exact (lcm hlc h0).2 | exact kb hkc) (by first | assumption | exact (lcm hlc h0).1 | exact (lcm hlc h0).2 | exact kb hkc)) [11, 12, 13] [0, 1, 2, 3, 4, 5, 6, 7, 8, 9, 10, 14, 15, 16, 17, 18] rfl (by decide) rfl (by decide) (by decide) (xw_V 0 hts mw_265 mw_17 mw_262 mw_263 mw_264 rfl rfl (by decide +kernel) ⟨Nat.le_of_ble_eq_true rfl, Nat.le_of_ble_eq_true rfl⟩) rfl rfl rfl hl.1 rfl (Nat.le_of_ble_eq_true rfl) d_undo_19 ⟨Nat.zero_le _, Nat.zero_le _⟩ (fun u H locs hw hP hD hS => ?_)
    obtain rfl := hw
    have hP : va_P (dC, dI) vwCl (w_Main cI cZ mo oM hH hH0 hH1 hH2 hH3 hH4 hH5 hH6 hH7 hH8 kR kR0 kR1 xR xR0 xR1 sS sS0 (ω 0 0) (η 0) (η 1) (η 2) (η 3) (η 4) (η 5) (η 6) (η 7) (η 8) ((F_rLL mo κ) 0) ((F_rLL mo κ) 1) ((F_rLL mo κ) 2 0) (χ 0) (χ 1) (χ 2 0) (((F_remLL ν).2) 0) (((F_remLL ν).2) 1 0) (((F_remLL ν).2) 2 0) (((F_remLL ν).2) 3 0) (((F_remLL ν).2) 4 0) (((F_remLL ν).2) 5 0)) H := hP.sub [0, 1, 2, 3, 4, 5, 6, 7, 8, 9, 10, 16, 17, 18, 11, 12, 13, 14, 15] rfl
    have hD : va_D A (w_Main cI cZ mo oM hH hH0 hH1 hH2 hH3 hH4 hH5 hH6 hH7 hH8 kR kR0 kR1 xR xR0 xR1 sS sS0 (ω 0 0) (η 0) (η 1) (η 2) (η 3) (η 4) (η 5) (η 6) (η 7) (η 8) ((F_rLL mo κ) 0) ((F_rLL mo κ) 1) ((F_rLL mo κ) 2 0) (χ 0) (χ 1) (χ 2 0) (((F_remLL ν).2) 0) (((F_remLL ν).2) 1 0) (((F_remLL ν).2) 2 0) (((F_remLL ν).2) 3 0) (((F_remLL ν).2) 4 0) (((F_remLL ν).2) 5 0)) := hD.sub [0, 1, 2, 3, 4, 5, 6, 7, 8, 9, 10, 16, 17, 18, 11, 12, 13, 14, 15] (by decide) rfl
    refine lv_aload_n hx hb d_undo_22 rfl (lv_at hl 1 rfl) ?_
    refine va_get (D := (dC, dI)) (ci := 3) (v := .ref hH) (C := R_Main) (T := T_Main) (N := 5) hx hb hts in_Main hown hK hP 0 rfl rfl 0 (by decide) (hts _ mw_133) (fun _ h9 => h9) rfl d_undo_23 ?_
    refine va_getN (D := (dC, dI)) (ci := 0) (v := .ref hH6) (C := R_House) (T := T_House) (N := 9) hx hb hts in_House hown hK hP 1 rfl rfl 6 (by decide) (hts _ mw_56) (fun _ h9 => h9) rfl d_undo_26 ?_
    refine lv_iload_n hx hb d_undo_29 rfl (lv_at hl 0 rfl) ?_
    refine lv_iconst (v := 1) hx hb d_undo_30 (by decide) ?_
    refine va_zast (n := 60) (f := η 6) hx hb hK hP hD hS 8 1 rfl rfl (i := (F_remLL ν).1) (x := 1) (by first | assumption | exact (lcm hlc h0).1 | exact (lcm hlc h0).2 | exact kb hkc) d_undo_31 (fun H locs hP hD hS => ?_)
    have hP : va_P (dC, dI) vwCl (w_Main cI cZ mo oM hH hH0 hH1 hH2 hH3 hH4 hH5 hH6 hH7 hH8 kR kR0 kR1 xR xR0 xR1 sS sS0 (ω 0 0) (η 0) (η 1) (η 2) (η 3) (η 4) (η 5) (upd (η 6) ((F_remLL ν).1).toNatClampNeg (vp_nar .boolean 1)) (η 7) (η 8) ((F_rLL mo κ) 0) ((F_rLL mo κ) 1) ((F_rLL mo κ) 2 0) (χ 0) (χ 1) (χ 2 0) (((F_remLL ν).2) 0) (((F_remLL ν).2) 1 0) (((F_remLL ν).2) 2 0) (((F_remLL ν).2) 3 0) (((F_remLL ν).2) 4 0) (((F_remLL ν).2) 5 0)) H := hP
    have hD : va_D A (w_Main cI cZ mo oM hH hH0 hH1 hH2 hH3 hH4 hH5 hH6 hH7 hH8 kR kR0 kR1 xR xR0 xR1 sS sS0 (ω 0 0) (η 0) (η 1) (η 2) (η 3) (η 4) (η 5) (upd (η 6) ((F_remLL ν).1).toNatClampNeg (vp_nar .boolean 1)) (η 7) (η 8) ((F_rLL mo κ) 0) ((F_rLL mo κ) 1) ((F_rLL mo κ) 2 0) (χ 0) (χ 1) (χ 2 0) (((F_remLL ν).2) 0) (((F_remLL ν).2) 1 0) (((F_remLL ν).2) 2 0) (((F_remLL ν).2) 3 0) (((F_remLL ν).2) 4 0) (((F_remLL ν).2) 5 0)) := hD
    refine lv_goto (tgt := 44) hx hb d_undo_32 (by decide) ?_
    have hF : F_undo mo ω η κ χ ν = (ω, (ss η 6 (upd (η 6) ((F_remLL ν).1).toNatClampNeg (vp_nar .boolean 1))), (F_rLL mo κ), χ, ((F_remLL ν).2)) := (if_neg c_1).trans rfl
    exact W.vret hx hb hr (fun t ht hW => ⟨⟨(ω, (ss η 6 (upd (η 6) ((F_remLL ν).1).toNatClampNeg (vp_nar .boolean 1))), (F_rLL mo κ), χ, ((F_remLL ν).2)), rfl, hF.symm, by rw [ht]; exact hP, hD⟩, hS.F ht⟩) hS.2.2 d_undo_44
def F_endM (mo : Nat) (ω η κ χ ν : SS) (q1 : Int32) : Int32 × SS × SS × SS × SS × SS :=
  if (ν 2 0) = 2 then
    if q1 = 0 then
      ((F_sClose ν) 1 0, ω, η, κ, χ, (F_sClose ν))
    else
      if (ν 1 0) ≤ 0 then
        ((F_sClose ν) 1 0, ω, η, κ, χ, (F_sClose ν))
      else
        ((F_sClose ((F_undo mo ω η κ χ ν).2.2.2.2)) 1 0, (F_undo mo ω η κ χ ν).1, (F_undo mo ω η κ χ ν).2.1, (F_undo mo ω η κ χ ν).2.2.1, (F_undo mo ω η κ χ ν).2.2.2.1, (F_sClose ((F_undo mo ω η κ χ ν).2.2.2.2)))
  else
    (-1, ω, η, κ, χ, ν)
set_option maxHeartbeats 4000000 in
set_option maxRecDepth 100000 in
theorem c_endM (l : Launch) (dC : Nat → ClassId) (dI : Nat → Nat → Nat) (cI cZ : ClassId) (mo : Nat) (oM hH hH0 hH1 hH2 hH3 hH4 hH5 hH6 hH7 hH8 kR kR0 kR1 xR xR0 xR1 sS sS0 : Nat) (sz : Nat) (ω η κ χ ν : SS) (q1 : Int32) (hI : CInv mo ω η κ χ ν) (hz : q1 = 0 ∨ q1 = 1) : Met l y_endM [Cond.code y_endM prog_1_method_11_code 2 (some .int)] ({ frames := 3, cells := 0, slots := 0, locals := 65 }) (pcW (dC, dI) (w_Main cI cZ mo oM hH hH0 hH1 hH2 hH3 hH4 hH5 hH6 hH7 hH8 kR kR0 kR1 xR xR0 xR1 sS sS0 (ω 0 0) (η 0) (η 1) (η 2) (η 3) (η 4) (η 5) (η 6) (η 7) (η 8) (κ 0) (κ 1) (κ 2 0) (χ 0) (χ 1) (χ 2 0) (ν 0) (ν 1 0) (ν 2 0) (ν 3 0) (ν 4 0) (ν 5 0)) (tyC cI cZ) sz [.ref oM, .int q1]) (qI (fun r u => r = (F_endM mo ω η κ χ ν q1).1 ∧ u = (F_endM mo ω η κ χ ν q1).2) (dC, dI) (fun u : SS × SS × SS × SS × SS => w_Main cI cZ mo oM hH hH0 hH1 hH2 hH3 hH4 hH5 hH6 hH7 hH8 kR kR0 kR1 xR xR0 xR1 sS sS0 (u.1 0 0) (u.2.1 0) (u.2.1 1) (u.2.1 2) (u.2.1 3) (u.2.1 4) (u.2.1 5) (u.2.1 6) (u.2.1 7) (u.2.1 8) (u.2.2.1 0) (u.2.2.1 1) (u.2.2.1 2 0) (u.2.2.2.1 0) (u.2.2.2.1 1) (u.2.2.2.1 2 0) (u.2.2.2.2 0) (u.2.2.2.2 1 0) (u.2.2.2.2 2 0) (u.2.2.2.2 3 0) (u.2.2.2.2 4 0) (u.2.2.2.2 5 0)) (va_A (w_Main cI cZ mo oM hH hH0 hH1 hH2 hH3 hH4 hH5 hH6 hH7 hH8 kR kR0 kR1 xR xR0 xR1 sS sS0 (ω 0 0) (η 0) (η 1) (η 2) (η 3) (η 4) (η 5) (η 6) (η 7) (η 8) (κ 0) (κ 1) (κ 2 0) (χ 0) (χ 1) (χ 2 0) (ν 0) (ν 1 0) (ν 2 0) (ν 3 0) (ν 4 0) (ν 5 0)) sz)) 0 0 (va_A (w_Main cI cZ mo oM hH hH0 hH1 hH2 hH3 hH4 hH5 hH6 hH7 hH8 kR kR0 kR1 xR xR0 xR1 sS sS0 (ω 0 0) (η 0) (η 1) (η 2) (η 3) (η 4) (η 5) (η 6) (η 7) (η 8) (κ 0) (κ 1) (κ 2 0) (χ 0) (χ 1) (χ 2 0) (ν 0) (ν 1 0) (ν 2 0) (ν 3 0) (ν 4 0) (ν 5 0)) sz) := by
  refine Met.ofW (cc := prog_1_method_11_code) (maxL := 2) (ret := (some .int)) (by decide) rfl ?_
  intro p e s m args below meth c s₁ B hml hv
  obtain ⟨rfl, hsz, hT, hP, hK, hD0⟩ := hv
  have hx := B.exec
  have hb := B.bytes
  have hr := B.returns
  have hts : ∀ w ∈ lw_ok, w.before ([.ref oM, .int q1] : List Value).toArray s = true := hT.use
  have hown : s.vm.findClass R_Main = some m.cls := findClass_of_methodNamed B.named
  have hlocks := B.notSynchronized
  subst hsz
  have hD := hD0.self (sz := s.heap.size)
  generalize hAe : va_A (w_Main cI cZ mo oM hH hH0 hH1 hH2 hH3 hH4 hH5 hH6 hH7 hH8 kR kR0 kR1 xR xR0 xR1 sS sS0 (ω 0 0) (η 0) (η 1) (η 2) (η 3) (η 4) (η 5) (η 6) (η 7) (η 8) (κ 0) (κ 1) (κ 2 0) (χ 0) (χ 1) (χ 2 0) (ν 0) (ν 1 0) (ν 2 0) (ν 3 0) (ν 4 0) (ν 5 0)) s.heap.size = A at hD ⊢
  have hA : ∀ q : Nat, s.heap.size ≤ q → A q := fun q h => by rw [← hAe]; exact Or.inr h
  have hS : va_S A s.heap s.heap [] := va_S.rf
  have hl := lv_entry ([.ref oM, .int q1]) (n := 2) (Nat.le_of_ble_eq_true rfl)
  rw [lg_entry_eq]
  generalize (lg_sl ([.ref oM, .int q1]) ++ List.replicate (2 - (lg_sl ([.ref oM, .int q1])).length) Slot.unset).toArray = ls at hl ⊢
  have hl : lv_has ls 2 [(0, .ref oM), (1, .int q1)] := hl
  obtain ⟨hmo, hof, hre, hlo, hlk, hkc, hxc, hpe, hla, hlc⟩ := id hI
  refine lv_aload_n hx hb d_endM_0 rfl (lv_at hl 0 rfl) ?_
  refine va_get (D := (dC, dI)) (ci := 3) (v := .ref sS) (C := R_Main) (T := T_Main) (N := 5) hx hb hts in_Main hown hK hP 0 rfl rfl 3 (by decide) (hts _ mw_136) (fun _ h9 => h9) rfl d_endM_1 ?_
  refine va_getN (D := (dC, dI)) (ci := 2) (v := .int (ν 2 0)) (C := R_Ses) (T := T_Ses) (N := 6) hx hb hts in_Ses hown hK hP 17 rfl rfl 2 (by decide) (hts _ mw_113) (fun _ h9 => h9) rfl d_endM_4 ?_
  refine lv_iconst (v := 2) hx hb d_endM_7 (by decide) ?_
  refine lv_icmp_eq (tgt := 13) hx hb d_endM_8 (by decide) (fun c_1 => ?_) (fun c_1 => ?_)
  · refine lv_iload_n hx hb d_endM_13 rfl (lv_at hl 1 rfl) ?_
    refine lv_if_eq (tgt := 31) hx hb d_endM_14 (by decide) (fun c_2 => ?_) (fun c_2 => ?_)
    · refine lv_aload_n hx hb d_endM_31 rfl (lv_at hl 0 rfl) ?_
      refine va_get (D := (dC, dI)) (ci := 3) (v := .ref sS) (C := R_Main) (T := T_Main) (N := 5) hx hb hts in_Main hown hK hP 0 rfl rfl 3 (by decide) (hts _ mw_136) (fun _ h9 => h9) rfl d_endM_32 ?_
      refine xc_VWv (As := []) (rest := []) (ci := 2) (wr := (r_Main_S cI cZ mo oM hH hH0 hH1 hH2 hH3 hH4 hH5 hH6 hH7 hH8 kR kR0 kR1 xR xR0 xR1 sS sS0 (ω 0 0) (η 0) (η 1) (η 2) (η 3) (η 4) (η 5) (η 6) (η 7) (η 8) (κ 0) (κ 1) (κ 2 0) (χ 0) (χ 1) (χ 2 0) (ν 0) (ν 1 0) (ν 2 0) (ν 3 0) (ν 4 0) (ν 5 0))) ⟨hx, hb, hml, hown, hts⟩ hT hK hP hD hS hA (c_sClose l dC dI cI cZ sS sS0 s.heap.size ν) [17, 18] [0, 1, 2, 3, 4, 5, 6, 7, 8, 9, 10, 11, 12, 13, 14, 15, 16] rfl (by decide) rfl (by decide) (by decide) (xw_V 0 hts mw_195 mw_18 mw_192 mw_193 mw_194 rfl rfl (by decide +kernel) ⟨Nat.le_of_ble_eq_true rfl, Nat.le_of_ble_eq_true rfl⟩) rfl rfl rfl hl.1 rfl (Nat.le_of_ble_eq_true rfl) d_endM_35 ⟨Nat.zero_le _, Nat.zero_le _⟩ (fun u H locs hw hP hD hS => ?_)
      obtain rfl := hw
      have hP : va_P (dC, dI) vwCl (w_Main cI cZ mo oM hH hH0 hH1 hH2 hH3 hH4 hH5 hH6 hH7 hH8 kR kR0 kR1 xR xR0 xR1 sS sS0 (ω 0 0) (η 0) (η 1) (η 2) (η 3) (η 4) (η 5) (η 6) (η 7) (η 8) (κ 0) (κ 1) (κ 2 0) (χ 0) (χ 1) (χ 2 0) ((F_sClose ν) 0) ((F_sClose ν) 1 0) ((F_sClose ν) 2 0) ((F_sClose ν) 3 0) ((F_sClose ν) 4 0) ((F_sClose ν) 5 0)) H := hP.sub [0, 1, 2, 3, 4, 5, 6, 7, 8, 9, 10, 11, 12, 13, 14, 15, 16, 17, 18] rfl
      have hD : va_D A (w_Main cI cZ mo oM hH hH0 hH1 hH2 hH3 hH4 hH5 hH6 hH7 hH8 kR kR0 kR1 xR xR0 xR1 sS sS0 (ω 0 0) (η 0) (η 1) (η 2) (η 3) (η 4) (η 5) (η 6) (η 7) (η 8) (κ 0) (κ 1) (κ 2 0) (χ 0) (χ 1) (χ 2 0) ((F_sClose ν) 0) ((F_sClose ν) 1 0) ((F_sClose ν) 2 0) ((F_sClose ν) 3 0) ((F_sClose ν) 4 0) ((F_sClose ν) 5 0)) := hD.sub [0, 1, 2, 3, 4, 5, 6, 7, 8, 9, 10, 11, 12, 13, 14, 15, 16, 17, 18] (by decide) rfl
      refine lv_aload_n hx hb d_endM_38 rfl (lv_at hl 0 rfl) ?_
      refine va_get (D := (dC, dI)) (ci := 3) (v := .ref sS) (C := R_Main) (T := T_Main) (N := 5) hx hb hts in_Main hown hK hP 0 rfl rfl 3 (by decide) (hts _ mw_136) (fun _ h9 => h9) rfl d_endM_39 ?_
      refine va_getN (D := (dC, dI)) (ci := 2) (v := .int ((F_sClose ν) 1 0)) (C := R_Ses) (T := T_Ses) (N := 6) hx hb hts in_Ses hown hK hP 17 rfl rfl 1 (by decide) (hts _ mw_111) (fun _ h9 => h9) rfl d_endM_42 ?_
      have hF : F_endM mo ω η κ χ ν q1 = ((F_sClose ν) 1 0, ω, η, κ, χ, (F_sClose ν)) := (if_pos c_1).trans ((if_pos c_2).trans rfl)
      exact W.iret (v := (F_sClose ν) 1 0) hx hb hr (fun t ht hW => ⟨⟨(F_sClose ν) 1 0, (ω, η, κ, χ, (F_sClose ν)), rfl, ⟨(congrArg Prod.fst hF).symm, (congrArg Prod.snd hF).symm⟩, by rw [ht]; exact hP, hD⟩, hS.F ht⟩) hS.2.2 d_endM_45
    · refine lv_aload_n hx hb d_endM_17 rfl (lv_at hl 0 rfl) ?_
      refine va_get (D := (dC, dI)) (ci := 3) (v := .ref sS) (C := R_Main) (T := T_Main) (N := 5) hx hb hts in_Main hown hK hP 0 rfl rfl 3 (by decide) (hts _ mw_136) (fun _ h9 => h9) rfl d_endM_18 ?_
      refine va_getN (D := (dC, dI)) (ci := 2) (v := .int (ν 1 0)) (C := R_Ses) (T := T_Ses) (N := 6) hx hb hts in_Ses hown hK hP 17 rfl rfl 1 (by decide) (hts _ mw_111) (fun _ h9 => h9) rfl d_endM_21 ?_
      refine lv_if_le (tgt := 31) hx hb d_endM_24 (by decide) (fun c_3 => ?_) (fun c_3 => ?_)
      · refine lv_aload_n hx hb d_endM_31 rfl (lv_at hl 0 rfl) ?_
        refine va_get (D := (dC, dI)) (ci := 3) (v := .ref sS) (C := R_Main) (T := T_Main) (N := 5) hx hb hts in_Main hown hK hP 0 rfl rfl 3 (by decide) (hts _ mw_136) (fun _ h9 => h9) rfl d_endM_32 ?_
        refine xc_VWv (As := []) (rest := []) (ci := 2) (wr := (r_Main_S cI cZ mo oM hH hH0 hH1 hH2 hH3 hH4 hH5 hH6 hH7 hH8 kR kR0 kR1 xR xR0 xR1 sS sS0 (ω 0 0) (η 0) (η 1) (η 2) (η 3) (η 4) (η 5) (η 6) (η 7) (η 8) (κ 0) (κ 1) (κ 2 0) (χ 0) (χ 1) (χ 2 0) (ν 0) (ν 1 0) (ν 2 0) (ν 3 0) (ν 4 0) (ν 5 0))) ⟨hx, hb, hml, hown, hts⟩ hT hK hP hD hS hA (c_sClose l dC dI cI cZ sS sS0 s.heap.size ν) [17, 18] [0, 1, 2, 3, 4, 5, 6, 7, 8, 9, 10, 11, 12, 13, 14, 15, 16] rfl (by decide) rfl (by decide) (by decide) (xw_V 0 hts mw_195 mw_18 mw_192 mw_193 mw_194 rfl rfl (by decide +kernel) ⟨Nat.le_of_ble_eq_true rfl, Nat.le_of_ble_eq_true rfl⟩) rfl rfl rfl hl.1 rfl (Nat.le_of_ble_eq_true rfl) d_endM_35 ⟨Nat.zero_le _, Nat.zero_le _⟩ (fun u H locs hw hP hD hS => ?_)
        obtain rfl := hw
        have hP : va_P (dC, dI) vwCl (w_Main cI cZ mo oM hH hH0 hH1 hH2 hH3 hH4 hH5 hH6 hH7 hH8 kR kR0 kR1 xR xR0 xR1 sS sS0 (ω 0 0) (η 0) (η 1) (η 2) (η 3) (η 4) (η 5) (η 6) (η 7) (η 8) (κ 0) (κ 1) (κ 2 0) (χ 0) (χ 1) (χ 2 0) ((F_sClose ν) 0) ((F_sClose ν) 1 0) ((F_sClose ν) 2 0) ((F_sClose ν) 3 0) ((F_sClose ν) 4 0) ((F_sClose ν) 5 0)) H := hP.sub [0, 1, 2, 3, 4, 5, 6, 7, 8, 9, 10, 11, 12, 13, 14, 15, 16, 17, 18] rfl
        have hD : va_D A (w_Main cI cZ mo oM hH hH0 hH1 hH2 hH3 hH4 hH5 hH6 hH7 hH8 kR kR0 kR1 xR xR0 xR1 sS sS0 (ω 0 0) (η 0) (η 1) (η 2) (η 3) (η 4) (η 5) (η 6) (η 7) (η 8) (κ 0) (κ 1) (κ 2 0) (χ 0) (χ 1) (χ 2 0) ((F_sClose ν) 0) ((F_sClose ν) 1 0) ((F_sClose ν) 2 0) ((F_sClose ν) 3 0) ((F_sClose ν) 4 0) ((F_sClose ν) 5 0)) := hD.sub [0, 1, 2, 3, 4, 5, 6, 7, 8, 9, 10, 11, 12, 13, 14, 15, 16, 17, 18] (by decide) rfl
        refine lv_aload_n hx hb d_endM_38 rfl (lv_at hl 0 rfl) ?_
        refine va_get (D := (dC, dI)) (ci := 3) (v := .ref sS) (C := R_Main) (T := T_Main) (N := 5) hx hb hts in_Main hown hK hP 0 rfl rfl 3 (by decide) (hts _ mw_136) (fun _ h9 => h9) rfl d_endM_39 ?_
        refine va_getN (D := (dC, dI)) (ci := 2) (v := .int ((F_sClose ν) 1 0)) (C := R_Ses) (T := T_Ses) (N := 6) hx hb hts in_Ses hown hK hP 17 rfl rfl 1 (by decide) (hts _ mw_111) (fun _ h9 => h9) rfl d_endM_42 ?_
        have hF : F_endM mo ω η κ χ ν q1 = ((F_sClose ν) 1 0, ω, η, κ, χ, (F_sClose ν)) := (if_pos c_1).trans ((if_neg c_2).trans ((if_pos c_3).trans rfl))
        exact W.iret (v := (F_sClose ν) 1 0) hx hb hr (fun t ht hW => ⟨⟨(F_sClose ν) 1 0, (ω, η, κ, χ, (F_sClose ν)), rfl, ⟨(congrArg Prod.fst hF).symm, (congrArg Prod.snd hF).symm⟩, by rw [ht]; exact hP, hD⟩, hS.F ht⟩) hS.2.2 d_endM_45
      · refine lv_aload_n hx hb d_endM_27 rfl (lv_at hl 0 rfl) ?_
        refine xc_VWv (As := []) (rest := []) (ci := 3) (wr := []) ⟨hx, hb, hml, hown, hts⟩ hT hK hP hD hS hA (c_undo l dC dI cI cZ mo oM hH hH0 hH1 hH2 hH3 hH4 hH5 hH6 hH7 hH8 kR kR0 kR1 xR xR0 xR1 sS sS0 s.heap.size ω η κ χ ν (by first | assumption | exact in_isPerson ‹_› | exact in_isItem ‹_›) (by first | assumption | exact in_isPerson ‹_› | exact in_isItem ‹_›)) [0, 1, 2, 3, 4, 5, 6, 7, 8, 9, 10, 11, 12, 13, 14, 15, 16, 17, 18] [] rfl (by decide) rfl (by decide) (by decide) (xw_V 0 hts mw_257 mw_13 mw_254 mw_256 mw_2 rfl rfl (by decide +kernel) ⟨Nat.le_of_ble_eq_true rfl, Nat.le_of_ble_eq_true rfl⟩) rfl rfl rfl hl.1 rfl (Nat.le_of_ble_eq_true rfl) d_endM_28 ⟨Nat.zero_le _, Nat.zero_le _⟩ (fun u H locs hw hP hD hS => ?_)
        obtain rfl := hw
        have hP : va_P (dC, dI) vwCl (w_Main cI cZ mo oM hH hH0 hH1 hH2 hH3 hH4 hH5 hH6 hH7 hH8 kR kR0 kR1 xR xR0 xR1 sS sS0 (((F_undo mo ω η κ χ ν).1) 0 0) (((F_undo mo ω η κ χ ν).2.1) 0) (((F_undo mo ω η κ χ ν).2.1) 1) (((F_undo mo ω η κ χ ν).2.1) 2) (((F_undo mo ω η κ χ ν).2.1) 3) (((F_undo mo ω η κ χ ν).2.1) 4) (((F_undo mo ω η κ χ ν).2.1) 5) (((F_undo mo ω η κ χ ν).2.1) 6) (((F_undo mo ω η κ χ ν).2.1) 7) (((F_undo mo ω η κ χ ν).2.1) 8) (((F_undo mo ω η κ χ ν).2.2.1) 0) (((F_undo mo ω η κ χ ν).2.2.1) 1) (((F_undo mo ω η κ χ ν).2.2.1) 2 0) (((F_undo mo ω η κ χ ν).2.2.2.1) 0) (((F_undo mo ω η κ χ ν).2.2.2.1) 1) (((F_undo mo ω η κ χ ν).2.2.2.1) 2 0) (((F_undo mo ω η κ χ ν).2.2.2.2) 0) (((F_undo mo ω η κ χ ν).2.2.2.2) 1 0) (((F_undo mo ω η κ χ ν).2.2.2.2) 2 0) (((F_undo mo ω η κ χ ν).2.2.2.2) 3 0) (((F_undo mo ω η κ χ ν).2.2.2.2) 4 0) (((F_undo mo ω η κ χ ν).2.2.2.2) 5 0)) H := hP.sub [0, 1, 2, 3, 4, 5, 6, 7, 8, 9, 10, 11, 12, 13, 14, 15, 16, 17, 18] rfl
        have hD : va_D A (w_Main cI cZ mo oM hH hH0 hH1 hH2 hH3 hH4 hH5 hH6 hH7 hH8 kR kR0 kR1 xR xR0 xR1 sS sS0 (((F_undo mo ω η κ χ ν).1) 0 0) (((F_undo mo ω η κ χ ν).2.1) 0) (((F_undo mo ω η κ χ ν).2.1) 1) (((F_undo mo ω η κ χ ν).2.1) 2) (((F_undo mo ω η κ χ ν).2.1) 3) (((F_undo mo ω η κ χ ν).2.1) 4) (((F_undo mo ω η κ χ ν).2.1) 5) (((F_undo mo ω η κ χ ν).2.1) 6) (((F_undo mo ω η κ χ ν).2.1) 7) (((F_undo mo ω η κ χ ν).2.1) 8) (((F_undo mo ω η κ χ ν).2.2.1) 0) (((F_undo mo ω η κ χ ν).2.2.1) 1) (((F_undo mo ω η κ χ ν).2.2.1) 2 0) (((F_undo mo ω η κ χ ν).2.2.2.1) 0) (((F_undo mo ω η κ χ ν).2.2.2.1) 1) (((F_undo mo ω η κ χ ν).2.2.2.1) 2 0) (((F_undo mo ω η κ χ ν).2.2.2.2) 0) (((F_undo mo ω η κ χ ν).2.2.2.2) 1 0) (((F_undo mo ω η κ χ ν).2.2.2.2) 2 0) (((F_undo mo ω η κ χ ν).2.2.2.2) 3 0) (((F_undo mo ω η κ χ ν).2.2.2.2) 4 0) (((F_undo mo ω η κ χ ν).2.2.2.2) 5 0)) := hD.sub [0, 1, 2, 3, 4, 5, 6, 7, 8, 9, 10, 11, 12, 13, 14, 15, 16, 17, 18] (by decide) rfl
        refine lv_aload_n hx hb d_endM_31 rfl (lv_at hl 0 rfl) ?_
        refine va_get (D := (dC, dI)) (ci := 3) (v := .ref sS) (C := R_Main) (T := T_Main) (N := 5) hx hb hts in_Main hown hK hP 0 rfl rfl 3 (by decide) (hts _ mw_136) (fun _ h9 => h9) rfl d_endM_32 ?_
        refine xc_VWv (As := []) (rest := []) (ci := 2) (wr := (r_Main_S cI cZ mo oM hH hH0 hH1 hH2 hH3 hH4 hH5 hH6 hH7 hH8 kR kR0 kR1 xR xR0 xR1 sS sS0 (((F_undo mo ω η κ χ ν).1) 0 0) (((F_undo mo ω η κ χ ν).2.1) 0) (((F_undo mo ω η κ χ ν).2.1) 1) (((F_undo mo ω η κ χ ν).2.1) 2) (((F_undo mo ω η κ χ ν).2.1) 3) (((F_undo mo ω η κ χ ν).2.1) 4) (((F_undo mo ω η κ χ ν).2.1) 5) (((F_undo mo ω η κ χ ν).2.1) 6) (((F_undo mo ω η κ χ ν).2.1) 7) (((F_undo mo ω η κ χ ν).2.1) 8) (((F_undo mo ω η κ χ ν).2.2.1) 0) (((F_undo mo ω η κ χ ν).2.2.1) 1) (((F_undo mo ω η κ χ ν).2.2.1) 2 0) (((F_undo mo ω η κ χ ν).2.2.2.1) 0) (((F_undo mo ω η κ χ ν).2.2.2.1) 1) (((F_undo mo ω η κ χ ν).2.2.2.1) 2 0) (((F_undo mo ω η κ χ ν).2.2.2.2) 0) (((F_undo mo ω η κ χ ν).2.2.2.2) 1 0) (((F_undo mo ω η κ χ ν).2.2.2.2) 2 0) (((F_undo mo ω η κ χ ν).2.2.2.2) 3 0) (((F_undo mo ω η κ χ ν).2.2.2.2) 4 0) (((F_undo mo ω η κ χ ν).2.2.2.2) 5 0))) ⟨hx, hb, hml, hown, hts⟩ hT hK hP hD hS hA (c_sClose l dC dI cI cZ sS sS0 H.size ((F_undo mo ω η κ χ ν).2.2.2.2)) [17, 18] [0, 1, 2, 3, 4, 5, 6, 7, 8, 9, 10, 11, 12, 13, 14, 15, 16] rfl (by decide) rfl (by decide) (by decide) (xw_V 0 hts mw_195 mw_18 mw_192 mw_193 mw_194 rfl rfl (by decide +kernel) ⟨Nat.le_of_ble_eq_true rfl, Nat.le_of_ble_eq_true rfl⟩) rfl rfl rfl hl.1 rfl (Nat.le_of_ble_eq_true rfl) d_endM_35 ⟨Nat.zero_le _, Nat.zero_le _⟩ (fun u H locs hw hP hD hS => ?_)
        obtain rfl := hw
        have hP : va_P (dC, dI) vwCl (w_Main cI cZ mo oM hH hH0 hH1 hH2 hH3 hH4 hH5 hH6 hH7 hH8 kR kR0 kR1 xR xR0 xR1 sS sS0 (((F_undo mo ω η κ χ ν).1) 0 0) (((F_undo mo ω η κ χ ν).2.1) 0) (((F_undo mo ω η κ χ ν).2.1) 1) (((F_undo mo ω η κ χ ν).2.1) 2) (((F_undo mo ω η κ χ ν).2.1) 3) (((F_undo mo ω η κ χ ν).2.1) 4) (((F_undo mo ω η κ χ ν).2.1) 5) (((F_undo mo ω η κ χ ν).2.1) 6) (((F_undo mo ω η κ χ ν).2.1) 7) (((F_undo mo ω η κ χ ν).2.1) 8) (((F_undo mo ω η κ χ ν).2.2.1) 0) (((F_undo mo ω η κ χ ν).2.2.1) 1) (((F_undo mo ω η κ χ ν).2.2.1) 2 0) (((F_undo mo ω η κ χ ν).2.2.2.1) 0) (((F_undo mo ω η κ χ ν).2.2.2.1) 1) (((F_undo mo ω η κ χ ν).2.2.2.1) 2 0) ((F_sClose ((F_undo mo ω η κ χ ν).2.2.2.2)) 0) ((F_sClose ((F_undo mo ω η κ χ ν).2.2.2.2)) 1 0) ((F_sClose ((F_undo mo ω η κ χ ν).2.2.2.2)) 2 0) ((F_sClose ((F_undo mo ω η κ χ ν).2.2.2.2)) 3 0) ((F_sClose ((F_undo mo ω η κ χ ν).2.2.2.2)) 4 0) ((F_sClose ((F_undo mo ω η κ χ ν).2.2.2.2)) 5 0)) H := hP.sub [0, 1, 2, 3, 4, 5, 6, 7, 8, 9, 10, 11, 12, 13, 14, 15, 16, 17, 18] rfl
        have hD : va_D A (w_Main cI cZ mo oM hH hH0 hH1 hH2 hH3 hH4 hH5 hH6 hH7 hH8 kR kR0 kR1 xR xR0 xR1 sS sS0 (((F_undo mo ω η κ χ ν).1) 0 0) (((F_undo mo ω η κ χ ν).2.1) 0) (((F_undo mo ω η κ χ ν).2.1) 1) (((F_undo mo ω η κ χ ν).2.1) 2) (((F_undo mo ω η κ χ ν).2.1) 3) (((F_undo mo ω η κ χ ν).2.1) 4) (((F_undo mo ω η κ χ ν).2.1) 5) (((F_undo mo ω η κ χ ν).2.1) 6) (((F_undo mo ω η κ χ ν).2.1) 7) (((F_undo mo ω η κ χ ν).2.1) 8) (((F_undo mo ω η κ χ ν).2.2.1) 0) (((F_undo mo ω η κ χ ν).2.2.1) 1) (((F_undo mo ω η κ χ ν).2.2.1) 2 0) (((F_undo mo ω η κ χ ν).2.2.2.1) 0) (((F_undo mo ω η κ χ ν).2.2.2.1) 1) (((F_undo mo ω η κ χ ν).2.2.2.1) 2 0) ((F_sClose ((F_undo mo ω η κ χ ν).2.2.2.2)) 0) ((F_sClose ((F_undo mo ω η κ χ ν).2.2.2.2)) 1 0) ((F_sClose ((F_undo mo ω η κ χ ν).2.2.2.2)) 2 0) ((F_sClose ((F_undo mo ω η κ χ ν).2.2.2.2)) 3 0) ((F_sClose ((F_undo mo ω η κ χ ν).2.2.2.2)) 4 0) ((F_sClose ((F_undo mo ω η κ χ ν).2.2.2.2)) 5 0)) := hD.sub [0, 1, 2, 3, 4, 5, 6, 7, 8, 9, 10, 11, 12, 13, 14, 15, 16, 17, 18] (by decide) rfl
        refine lv_aload_n hx hb d_endM_38 rfl (lv_at hl 0 rfl) ?_
        refine va_get (D := (dC, dI)) (ci := 3) (v := .ref sS) (C := R_Main) (T := T_Main) (N := 5) hx hb hts in_Main hown hK hP 0 rfl rfl 3 (by decide) (hts _ mw_136) (fun _ h9 => h9) rfl d_endM_39 ?_
        refine va_getN (D := (dC, dI)) (ci := 2) (v := .int ((F_sClose ((F_undo mo ω η κ χ ν).2.2.2.2)) 1 0)) (C := R_Ses) (T := T_Ses) (N := 6) hx hb hts in_Ses hown hK hP 17 rfl rfl 1 (by decide) (hts _ mw_111) (fun _ h9 => h9) rfl d_endM_42 ?_
        have hF : F_endM mo ω η κ χ ν q1 = ((F_sClose ((F_undo mo ω η κ χ ν).2.2.2.2)) 1 0, (F_undo mo ω η κ χ ν).1, (F_undo mo ω η κ χ ν).2.1, (F_undo mo ω η κ χ ν).2.2.1, (F_undo mo ω η κ χ ν).2.2.2.1, (F_sClose ((F_undo mo ω η κ χ ν).2.2.2.2))) := (if_pos c_1).trans ((if_neg c_2).trans ((if_neg c_3).trans rfl))
        exact W.iret (v := (F_sClose ((F_undo mo ω η κ χ ν).2.2.2.2)) 1 0) hx hb hr (fun t ht hW => ⟨⟨(F_sClose ((F_undo mo ω η κ χ ν).2.2.2.2)) 1 0, ((F_undo mo ω η κ χ ν).1, (F_undo mo ω η κ χ ν).2.1, (F_undo mo ω η κ χ ν).2.2.1, (F_undo mo ω η κ χ ν).2.2.2.1, (F_sClose ((F_undo mo ω η κ χ ν).2.2.2.2))), rfl, ⟨(congrArg Prod.fst hF).symm, (congrArg Prod.snd hF).symm⟩, by rw [ht]; exact hP, hD⟩, hS.F ht⟩) hS.2.2 d_endM_45
  · refine lv_iconst (v := -1) hx hb d_endM_11 (by decide) ?_
    have hF : F_endM mo ω η κ χ ν q1 = (-1, ω, η, κ, χ, ν) := (if_neg c_1).trans rfl
    exact W.iret (v := -1) hx hb hr (fun t ht hW => ⟨⟨-1, (ω, η, κ, χ, ν), rfl, ⟨(congrArg Prod.fst hF).symm, (congrArg Prod.snd hF).symm⟩, by rw [ht]; exact hP, hD⟩, hS.F ht⟩) hS.2.2 d_endM_12
def F_offl (mo : Nat) (ω η κ χ ν : SS) (q1 : Int32) : Int32 × SS × SS × SS × SS × SS :=
  (ω 0 0, (ss ω 0 (fun _ => q1)), η, κ, χ, (F_sClose ν))
set_option maxHeartbeats 4000000 in
set_option maxRecDepth 100000 in
theorem c_offl (l : Launch) (dC : Nat → ClassId) (dI : Nat → Nat → Nat) (cI cZ : ClassId) (mo : Nat) (oM hH hH0 hH1 hH2 hH3 hH4 hH5 hH6 hH7 hH8 kR kR0 kR1 xR xR0 xR1 sS sS0 : Nat) (sz : Nat) (ω η κ χ ν : SS) (q1 : Int32) (hI : CInv mo ω η κ χ ν) (hz : q1 = 0 ∨ q1 = 1) : Met l y_offl [Cond.code y_offl prog_1_method_12_code 3 (some .boolean)] ({ frames := 1, cells := 0, slots := 0, locals := 20 }) (pcW (dC, dI) (w_Main cI cZ mo oM hH hH0 hH1 hH2 hH3 hH4 hH5 hH6 hH7 hH8 kR kR0 kR1 xR xR0 xR1 sS sS0 (ω 0 0) (η 0) (η 1) (η 2) (η 3) (η 4) (η 5) (η 6) (η 7) (η 8) (κ 0) (κ 1) (κ 2 0) (χ 0) (χ 1) (χ 2 0) (ν 0) (ν 1 0) (ν 2 0) (ν 3 0) (ν 4 0) (ν 5 0)) (tyC cI cZ) sz [.ref oM, .int q1]) (qI (fun r u => r = (F_offl mo ω η κ χ ν q1).1 ∧ u = (F_offl mo ω η κ χ ν q1).2) (dC, dI) (fun u : SS × SS × SS × SS × SS => w_Main cI cZ mo oM hH hH0 hH1 hH2 hH3 hH4 hH5 hH6 hH7 hH8 kR kR0 kR1 xR xR0 xR1 sS sS0 (u.1 0 0) (u.2.1 0) (u.2.1 1) (u.2.1 2) (u.2.1 3) (u.2.1 4) (u.2.1 5) (u.2.1 6) (u.2.1 7) (u.2.1 8) (u.2.2.1 0) (u.2.2.1 1) (u.2.2.1 2 0) (u.2.2.2.1 0) (u.2.2.2.1 1) (u.2.2.2.1 2 0) (u.2.2.2.2 0) (u.2.2.2.2 1 0) (u.2.2.2.2 2 0) (u.2.2.2.2 3 0) (u.2.2.2.2 4 0) (u.2.2.2.2 5 0)) (va_A (w_Main cI cZ mo oM hH hH0 hH1 hH2 hH3 hH4 hH5 hH6 hH7 hH8 kR kR0 kR1 xR xR0 xR1 sS sS0 (ω 0 0) (η 0) (η 1) (η 2) (η 3) (η 4) (η 5) (η 6) (η 7) (η 8) (κ 0) (κ 1) (κ 2 0) (χ 0) (χ 1) (χ 2 0) (ν 0) (ν 1 0) (ν 2 0) (ν 3 0) (ν 4 0) (ν 5 0)) sz)) 0 0 (va_A (w_Main cI cZ mo oM hH hH0 hH1 hH2 hH3 hH4 hH5 hH6 hH7 hH8 kR kR0 kR1 xR xR0 xR1 sS sS0 (ω 0 0) (η 0) (η 1) (η 2) (η 3) (η 4) (η 5) (η 6) (η 7) (η 8) (κ 0) (κ 1) (κ 2 0) (χ 0) (χ 1) (χ 2 0) (ν 0) (ν 1 0) (ν 2 0) (ν 3 0) (ν 4 0) (ν 5 0)) sz) := by
  refine Met.ofW (cc := prog_1_method_12_code) (maxL := 3) (ret := (some .boolean)) (by decide) rfl ?_
  intro p e s m args below meth c s₁ B hml hv
  obtain ⟨rfl, hsz, hT, hP, hK, hD0⟩ := hv
  have hx := B.exec
  have hb := B.bytes
  have hr := B.returns
  have hts : ∀ w ∈ lw_ok, w.before ([.ref oM, .int q1] : List Value).toArray s = true := hT.use
  have hown : s.vm.findClass R_Main = some m.cls := findClass_of_methodNamed B.named
  have hlocks := B.notSynchronized
  subst hsz
  have hD := hD0.self (sz := s.heap.size)
  generalize hAe : va_A (w_Main cI cZ mo oM hH hH0 hH1 hH2 hH3 hH4 hH5 hH6 hH7 hH8 kR kR0 kR1 xR xR0 xR1 sS sS0 (ω 0 0) (η 0) (η 1) (η 2) (η 3) (η 4) (η 5) (η 6) (η 7) (η 8) (κ 0) (κ 1) (κ 2 0) (χ 0) (χ 1) (χ 2 0) (ν 0) (ν 1 0) (ν 2 0) (ν 3 0) (ν 4 0) (ν 5 0)) s.heap.size = A at hD ⊢
  have hA : ∀ q : Nat, s.heap.size ≤ q → A q := fun q h => by rw [← hAe]; exact Or.inr h
  have hS : va_S A s.heap s.heap [] := va_S.rf
  have hl := lv_entry ([.ref oM, .int q1]) (n := 3) (Nat.le_of_ble_eq_true rfl)
  rw [lg_entry_eq]
  generalize (lg_sl ([.ref oM, .int q1]) ++ List.replicate (3 - (lg_sl ([.ref oM, .int q1])).length) Slot.unset).toArray = ls at hl ⊢
  have hl : lv_has ls 3 [(0, .ref oM), (1, .int q1)] := hl
  obtain ⟨hmo, hof, hre, hlo, hlk, hkc, hxc, hpe, hla, hlc⟩ := id hI
  refine lv_aload_n hx hb d_offl_0 rfl (lv_at hl 0 rfl) ?_
  refine va_get (D := (dC, dI)) (ci := 3) (v := .int (ω 0 0)) (C := R_Main) (T := T_Main) (N := 5) hx hb hts in_Main hown hK hP 0 rfl rfl 4 (by decide) (hts _ mw_137) (fun _ h9 => h9) rfl d_offl_1 ?_
  refine lv_istore_n (lv' := [(2, .int (ω 0 0)), (0, .ref oM), (1, .int q1)]) hx hb d_offl_4 rfl hl (by decide) rfl (fun ls hl => ?_)
  refine lv_aload_n hx hb d_offl_5 rfl (lv_at hl 1 rfl) ?_
  refine lv_iload_n hx hb d_offl_6 rfl (lv_at hl 2 rfl) ?_
  refine va_put (D := (dC, dI)) (ci := 3) (v := .int q1) (ty := .boolean) (C := R_Main) (T := T_Main) (N := 5) hx hb hts in_Main ty_Main tyok_Main nm_Main hown hK hP hD hS 0 rfl rfl 4 (by decide) (hts _ mw_137) (fun _ h9 => h9) rfl (by decide +kernel) (by first | exact nz_b ‹_› | exact nz_b hz | exact nz_b hof) (by first | exact fz_b ‹_› | exact fz_b hz | exact fz_b hof) (Nat.le_of_ble_eq_true rfl) d_offl_7 (fun H locs hP hD hS => ?_)
  have hP : va_P (dC, dI) vwCl (w_Main cI cZ mo oM hH hH0 hH1 hH2 hH3 hH4 hH5 hH6 hH7 hH8 kR kR0 kR1 xR xR0 xR1 sS sS0 q1 (η 0) (η 1) (η 2) (η 3) (η 4) (η 5) (η 6) (η 7) (η 8) (κ 0) (κ 1) (κ 2 0) (χ 0) (χ 1) (χ 2 0) (ν 0) (ν 1 0) (ν 2 0) (ν 3 0) (ν 4 0) (ν 5 0)) H := hP
  have hD : va_D A (w_Main cI cZ mo oM hH hH0 hH1 hH2 hH3 hH4 hH5 hH6 hH7 hH8 kR kR0 kR1 xR xR0 xR1 sS sS0 q1 (η 0) (η 1) (η 2) (η 3) (η 4) (η 5) (η 6) (η 7) (η 8) (κ 0) (κ 1) (κ 2 0) (χ 0) (χ 1) (χ 2 0) (ν 0) (ν 1 0) (ν 2 0) (ν 3 0) (ν 4 0) (ν 5 0)) := hD
  refine lv_aload_n hx hb d_offl_10 rfl (lv_at hl 1 rfl) ?_
  refine va_get (D := (dC, dI)) (ci := 3) (v := .ref sS) (C := R_Main) (T := T_Main) (N := 5) hx hb hts in_Main hown hK hP 0 rfl rfl 3 (by decide) (hts _ mw_136) (fun _ h9 => h9) rfl d_offl_11 ?_
  refine xc_VWv (As := []) (rest := []) (ci := 2) (wr := (r_Main_S cI cZ mo oM hH hH0 hH1 hH2 hH3 hH4 hH5 hH6 hH7 hH8 kR kR0 kR1 xR xR0 xR1 sS sS0 q1 (η 0) (η 1) (η 2) (η 3) (η 4) (η 5) (η 6) (η 7) (η 8) (κ 0) (κ 1) (κ 2 0) (χ 0) (χ 1) (χ 2 0) (ν 0) (ν 1 0) (ν 2 0) (ν 3 0) (ν 4 0) (ν 5 0))) ⟨hx, hb, hml, hown, hts⟩ hT hK hP hD hS hA (c_sClose l dC dI cI cZ sS sS0 H.size ν) [17, 18] [0, 1, 2, 3, 4, 5, 6, 7, 8, 9, 10, 11, 12, 13, 14, 15, 16] rfl (by decide) rfl (by decide) (by decide) (xw_V 0 hts mw_195 mw_18 mw_192 mw_193 mw_194 rfl rfl (by decide +kernel) ⟨Nat.le_of_ble_eq_true rfl, Nat.le_of_ble_eq_true rfl⟩) rfl rfl rfl hl.1 rfl (Nat.le_of_ble_eq_true rfl) d_offl_14 ⟨Nat.zero_le _, Nat.zero_le _⟩ (fun u H locs hw hP hD hS => ?_)
  obtain rfl := hw
  have hP : va_P (dC, dI) vwCl (w_Main cI cZ mo oM hH hH0 hH1 hH2 hH3 hH4 hH5 hH6 hH7 hH8 kR kR0 kR1 xR xR0 xR1 sS sS0 q1 (η 0) (η 1) (η 2) (η 3) (η 4) (η 5) (η 6) (η 7) (η 8) (κ 0) (κ 1) (κ 2 0) (χ 0) (χ 1) (χ 2 0) ((F_sClose ν) 0) ((F_sClose ν) 1 0) ((F_sClose ν) 2 0) ((F_sClose ν) 3 0) ((F_sClose ν) 4 0) ((F_sClose ν) 5 0)) H := hP.sub [0, 1, 2, 3, 4, 5, 6, 7, 8, 9, 10, 11, 12, 13, 14, 15, 16, 17, 18] rfl
  have hD : va_D A (w_Main cI cZ mo oM hH hH0 hH1 hH2 hH3 hH4 hH5 hH6 hH7 hH8 kR kR0 kR1 xR xR0 xR1 sS sS0 q1 (η 0) (η 1) (η 2) (η 3) (η 4) (η 5) (η 6) (η 7) (η 8) (κ 0) (κ 1) (κ 2 0) (χ 0) (χ 1) (χ 2 0) ((F_sClose ν) 0) ((F_sClose ν) 1 0) ((F_sClose ν) 2 0) ((F_sClose ν) 3 0) ((F_sClose ν) 4 0) ((F_sClose ν) 5 0)) := hD.sub [0, 1, 2, 3, 4, 5, 6, 7, 8, 9, 10, 11, 12, 13, 14, 15, 16, 17, 18] (by decide) rfl
  refine lv_iload_n hx hb d_offl_17 rfl (lv_at hl 0 rfl) ?_
  have hF : F_offl mo ω η κ χ ν q1 = (ω 0 0, (ss ω 0 (fun _ => q1)), η, κ, χ, (F_sClose ν)) := rfl
  exact W.zret (ty := .boolean) (v := ω 0 0) hx hb hr (by first | exact nz_b ‹_› | exact nz_b hz | exact nz_b hof) (fun t ht hW => ⟨⟨ω 0 0, ((ss ω 0 (fun _ => q1)), η, κ, χ, (F_sClose ν)), rfl, ⟨(congrArg Prod.fst hF).symm, (congrArg Prod.snd hF).symm⟩, by rw [ht]; exact hP, hD⟩, hS.F ht⟩) hS.2.2 d_offl_18
