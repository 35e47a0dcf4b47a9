def F_clash (mo : Nat) (ω η κ χ ν : SS) (q1 : Int32) (q2 : Int32) : Int32 :=
  if q1 < 0 then
    -1
  else
    if q1 < (χ 2 0) then
      if q2 = 0 then
        χ 0 q1.toNatClampNeg
      else
        if q2 = 1 then
          χ 1 q1.toNatClampNeg
        else
          if q2 = 2 then
            if (F_isLend mo χ q1) = 0 then
              1
            else
              0
          else
            -1
    else
      -1
set_option maxHeartbeats 4000000 in
set_option maxRecDepth 100000 in
theorem c_clash (l : Launch) (dC : Nat → ClassId) (dI : Nat → Nat → Nat) (cI cZ : ClassId) (mo : Nat) (oM hH hH0 hH1 hH2 hH3 hH4 hH5 hH6 hH7 hH8 kR kR0 kR1 xR xR0 xR1 sS sS0 : Nat) (ω η κ χ ν : SS) (q1 : Int32) (q2 : Int32) (hI : CInv mo ω η κ χ ν) : Met l y_clash [Cond.code y_clash prog_1_method_14_code 3 (some .int)] ({ frames := 1, cells := 0, slots := 0, locals := 21 }) (pcR (dC, dI) (w_Main cI cZ mo oM hH hH0 hH1 hH2 hH3 hH4 hH5 hH6 hH7 hH8 kR kR0 kR1 xR xR0 xR1 sS sS0 (ω 0 0) (η 0) (η 1) (η 2) (η 3) (η 4) (η 5) (η 6) (η 7) (η 8) (κ 0) (κ 1) (κ 2 0) (χ 0) (χ 1) (χ 2 0) (ν 0) (ν 1 0) (ν 2 0) (ν 3 0) (ν 4 0) (ν 5 0)) (tyC cI cZ) [.ref oM, .int q1, .int q2]) (vp_Si (fun r => r = F_clash mo ω η κ χ ν q1 q2)) 0 0 (fun _ => False) := by
  refine Met.ofW (cc := prog_1_method_14_code) (maxL := 3) (ret := (some .int)) (by decide) rfl ?_
  intro p e s m args below meth c s₁ B hml hv
  obtain ⟨rfl, hT, hP, hK⟩ := hv
  have hx := B.exec
  have hb := B.bytes
  have hr := B.returns
  have hts : ∀ w ∈ lw_ok, w.before ([.ref oM, .int q1, .int q2] : List Value).toArray s = true := hT.use
  have hown : s.vm.findClass R_Main = some m.cls := findClass_of_methodNamed B.named
  have hlocks := B.notSynchronized
  have hl := lv_entry ([.ref oM, .int q1, .int q2]) (n := 3) (Nat.le_of_ble_eq_true rfl)
  rw [lg_entry_eq]
  generalize (lg_sl ([.ref oM, .int q1, .int q2]) ++ List.replicate (3 - (lg_sl ([.ref oM, .int q1, .int q2])).length) Slot.unset).toArray = ls at hl ⊢
  have hl : lv_has ls 3 [(0, .ref oM), (1, .int q1), (2, .int q2)] := hl
  obtain ⟨hmo, hof, hre, hlo, hlk, hkc, hxc, hpe, hla, hlc⟩ := id hI
  refine lv_iload_n hx hb d_clash_0 rfl (lv_at hl 1 rfl) ?_
  refine lv_if_lt (tgt := 15) hx hb d_clash_1 (by decide) (fun c_1 => ?_) (fun c_1 => ?_)
  · refine lv_iconst (v := -1) hx hb d_clash_15 (by decide) ?_
    have hF : F_clash mo ω η κ χ ν q1 q2 = -1 := (if_pos c_1).trans rfl
    exact W.iret (v := -1) hx hb hr (fun t ht hW => ⟨-1, rfl, hF.symm, ht⟩) (fun _ h => absurd h List.not_mem_nil) d_clash_16
  · refine lv_iload_n hx hb d_clash_4 rfl (lv_at hl 1 rfl) ?_
    refine lv_aload_n hx hb d_clash_5 rfl (lv_at hl 0 rfl) ?_
    refine va_get (D := (dC, dI)) (ci := 3) (v := .ref xR) (C := R_Main) (T := T_Main) (N := 5) hx hb hts in_Main hown hK hP 0 rfl rfl 2 (by decide) (hts _ mw_135) (fun _ h9 => h9) rfl d_clash_6 ?_
    refine va_getN (D := (dC, dI)) (ci := 1) (v := .int (χ 2 0)) (C := R_Row) (T := T_Row) (N := 3) hx hb hts in_Row hown hK hP 14 rfl rfl 2 (by decide) (hts _ mw_94) (fun _ h9 => h9) rfl d_clash_9 ?_
    refine lv_icmp_lt (tgt := 17) hx hb d_clash_12 (by decide) (fun c_2 => ?_) (fun c_2 => ?_)
    · refine lv_iload_n hx hb d_clash_17 rfl (lv_at hl 2 rfl) ?_
      by_cases c_3 : q2 = 0
      · refine lv_tableIn (tgt := 44) hx hb d_clash_18 (by rw [c_3]; decide) (by rw [c_3]; decide) (by rw [c_3]; rfl) (by decide) ?_
        refine lv_aload_n hx hb d_clash_44 rfl (lv_at hl 0 rfl) ?_
        refine va_get (D := (dC, dI)) (ci := 3) (v := .ref xR) (C := R_Main) (T := T_Main) (N := 5) hx hb hts in_Main hown hK hP 0 rfl rfl 2 (by decide) (hts _ mw_135) (fun _ h9 => h9) rfl d_clash_45 ?_
        refine va_getN (D := (dC, dI)) (ci := 1) (v := .ref xR0) (C := R_Row) (T := T_Row) (N := 3) hx hb hts in_Row hown hK hP 14 rfl rfl 0 (by decide) (hts _ mw_90) (fun _ h9 => h9) rfl d_clash_48 ?_
        refine lv_iload_n hx hb d_clash_51 rfl (lv_at hl 1 rfl) ?_
        refine va_iald (n := mo) (f := χ 0) hx hb hK hP 15 0 rfl rfl (i := q1) (by first | assumption | exact in_row hmo hxc ‹_› ‹_›) d_clash_52 ?_
        have hF : F_clash mo ω η κ χ ν q1 q2 = χ 0 q1.toNatClampNeg := (if_neg c_1).trans ((if_pos c_2).trans ((if_pos c_3).trans rfl))
        exact W.iret (v := χ 0 q1.toNatClampNeg) hx hb hr (fun t ht hW => ⟨χ 0 q1.toNatClampNeg, rfl, hF.symm, ht⟩) (fun _ h => absurd h List.not_mem_nil) d_clash_53
      by_cases c_4 : q2 = 1
      · refine lv_tableIn (tgt := 54) hx hb d_clash_18 (by rw [c_4]; decide) (by rw [c_4]; decide) (by rw [c_4]; rfl) (by decide) ?_
        refine lv_aload_n hx hb d_clash_54 rfl (lv_at hl 0 rfl) ?_
        refine va_get (D := (dC, dI)) (ci := 3) (v := .ref xR) (C := R_Main) (T := T_Main) (N := 5) hx hb hts in_Main hown hK hP 0 rfl rfl 2 (by decide) (hts _ mw_135) (fun _ h9 => h9) rfl d_clash_55 ?_
        refine va_getN (D := (dC, dI)) (ci := 1) (v := .ref xR1) (C := R_Row) (T := T_Row) (N := 3) hx hb hts in_Row hown hK hP 14 rfl rfl 1 (by decide) (hts _ mw_92) (fun _ h9 => h9) rfl d_clash_58 ?_
        refine lv_iload_n hx hb d_clash_61 rfl (lv_at hl 1 rfl) ?_
        refine va_iald (n := mo) (f := χ 1) hx hb hK hP 16 0 rfl rfl (i := q1) (by first | assumption | exact in_row hmo hxc ‹_› ‹_›) d_clash_62 ?_
        have hF : F_clash mo ω η κ χ ν q1 q2 = χ 1 q1.toNatClampNeg := (if_neg c_1).trans ((if_pos c_2).trans ((if_neg c_3).trans ((if_pos c_4).trans rfl)))
        exact W.iret (v := χ 1 q1.toNatClampNeg) hx hb hr (fun t ht hW => ⟨χ 1 q1.toNatClampNeg, rfl, hF.symm, ht⟩) (fun _ h => absurd h List.not_mem_nil) d_clash_63
      by_cases c_5 : q2 = 2
      · refine lv_tableIn (tgt := 64) hx hb d_clash_18 (by rw [c_5]; decide) (by rw [c_5]; decide) (by rw [c_5]; rfl) (by decide) ?_
        refine lv_aload_n hx hb d_clash_64 rfl (lv_at hl 0 rfl) ?_
        refine va_get (D := (dC, dI)) (ci := 3) (v := .ref xR) (C := R_Main) (T := T_Main) (N := 5) hx hb hts in_Main hown hK hP 0 rfl rfl 2 (by decide) (hts _ mw_135) (fun _ h9 => h9) rfl d_clash_65 ?_
        refine lv_iload_n hx hb d_clash_68 rfl (lv_at hl 1 rfl) ?_
        refine xc_VR (As := [.int q1]) (rest := []) (ci := 1) ⟨hx, hb, hml, hown, hts⟩ hT hK hP (c_isLend l dC dI cI cZ mo xR xR0 xR1 χ q1 (by first | assumption | exact in_row hmo hxc ‹_› ‹_›)) [14, 15, 16] rfl (xw_V 1 hts mw_269 mw_17 mw_294 mw_267 mw_268 rfl rfl (by decide +kernel) ⟨Nat.le_of_ble_eq_true rfl, Nat.le_of_ble_eq_true rfl⟩) rfl rfl rfl hl.1 rfl (Nat.le_of_ble_eq_true rfl) d_clash_69 ⟨Nat.zero_le _, Nat.zero_le _⟩ (fun r hw => ?_)
        subst hw
        refine lv_if_eq (tgt := 79) hx hb d_clash_72 (by decide) (fun c_6 => ?_) (fun c_6 => ?_)
        · refine lv_iconst (v := 1) hx hb d_clash_79 (by decide) ?_
          have hF : F_clash mo ω η κ χ ν q1 q2 = 1 := (if_neg c_1).trans ((if_pos c_2).trans ((if_neg c_3).trans ((if_neg c_4).trans ((if_pos c_5).trans ((if_pos c_6).trans rfl)))))
          exact W.iret (v := 1) hx hb hr (fun t ht hW => ⟨1, rfl, hF.symm, ht⟩) (fun _ h => absurd h List.not_mem_nil) d_clash_80
        · refine lv_iconst (v := 0) hx hb d_clash_75 (by decide) ?_
          refine lv_goto (tgt := 80) hx hb d_clash_76 (by decide) ?_
          have hF : F_clash mo ω η κ χ ν q1 q2 = 0 := (if_neg c_1).trans ((if_pos c_2).trans ((if_neg c_3).trans ((if_neg c_4).trans ((if_pos c_5).trans ((if_neg c_6).trans rfl)))))
          exact W.iret (v := 0) hx hb hr (fun t ht hW => ⟨0, rfl, hF.symm, ht⟩) (fun _ h => absurd h List.not_mem_nil) d_clash_80
      refine lv_tableOut (tgt := 81) hx hb d_clash_18 (by have n0 := lv_neT c_3 (a := 0) (by decide); have n1 := lv_neT c_4 (a := 1) (by decide); have n2 := lv_neT c_5 (a := 2) (by decide); omega) (by decide) ?_
      refine lv_iconst (v := -1) hx hb d_clash_81 (by decide) ?_
      have hF : F_clash mo ω η κ χ ν q1 q2 = -1 := (if_neg c_1).trans ((if_pos c_2).trans ((if_neg c_3).trans ((if_neg c_4).trans ((if_neg c_5).trans rfl))))
      exact W.iret (v := -1) hx hb hr (fun t ht hW => ⟨-1, rfl, hF.symm, ht⟩) (fun _ h => absurd h List.not_mem_nil) d_clash_82
    · refine lv_iconst (v := -1) hx hb d_clash_15 (by decide) ?_
      have hF : F_clash mo ω η κ χ ν q1 q2 = -1 := (if_neg c_1).trans ((if_neg c_2).trans rfl)
      exact W.iret (v := -1) hx hb hr (fun t ht hW => ⟨-1, rfl, hF.symm, ht⟩) (fun _ h => absurd h List.not_mem_nil) d_clash_16
def F_locker (mo : Nat) (ω η κ χ ν : SS) (q1 : Int32) : Int32 × SS × SS × SS × SS × SS :=
  if (F_isItem q1) = 0 then
    (-1, ω, η, κ, χ, ν)
  else
    if (F_mayG η q1) = 0 then
      (-1, ω, η, κ, χ, ν)
    else
      if (F_fel η) = (-1) then
        (F_fel η, ω, η, κ, χ, ν)
      else
        (F_fel η, ω, (ss (ss η 7 (upd (η 7) q1.toNatClampNeg (F_fel η))) 8 (upd (η 8) (F_fel η).toNatClampNeg q1)), κ, χ, ν)
set_option maxHeartbeats 4000000 in
set_option maxRecDepth 100000 in
theorem c_locker (l : Launch) (dC : Nat → ClassId) (dI : Nat → Nat → Nat) (cI cZ : ClassId) (mo : Nat) (oM hH hH0 hH1 hH2 hH3 hH4 hH5 hH6 hH7 hH8 kR kR0 kR1 xR xR0 xR1 sS sS0 : Nat) (sz : Nat) (ω η κ χ ν : SS) (q1 : Int32) (hI : CInv mo ω η κ χ ν) : Met l y_locker [Cond.code y_locker prog_1_method_15_code 3 (some .int)] ({ frames := 1, cells := 0, slots := 0, locals := 21 }) (pcW (dC, dI) (w_Main cI cZ mo oM hH hH0 hH1 hH2 hH3 hH4 hH5 hH6 hH7 hH8 kR kR0 kR1 xR xR0 xR1 sS sS0 (ω 0 0) (η 0) (η 1) (η 2) (η 3) (η 4) (η 5) (η 6) (η 7) (η 8) (κ 0) (κ 1) (κ 2 0) (χ 0) (χ 1) (χ 2 0) (ν 0) (ν 1 0) (ν 2 0) (ν 3 0) (ν 4 0) (ν 5 0)) (tyC cI cZ) sz [.ref oM, .int q1]) (qI (fun r u => r = (F_locker mo ω η κ χ ν q1).1 ∧ u = (F_locker mo ω η κ χ ν q1).2) (dC, dI) (fun u : SS × SS × SS × SS × SS => w_Main cI cZ mo oM hH hH0 hH1 hH2 hH3 hH4 hH5 hH6 hH7 hH8 kR kR0 kR1 xR xR0 xR1 sS sS0 (u.1 0 0) (u.2.1 0) (u.2.1 1) (u.2.1 2) (u.2.1 3) (u.2.1 4) (u.2.1 5) (u.2.1 6) (u.2.1 7) (u.2.1 8) (u.2.2.1 0) (u.2.2.1 1) (u.2.2.1 2 0) (u.2.2.2.1 0) (u.2.2.2.1 1) (u.2.2.2.1 2 0) (u.2.2.2.2 0) (u.2.2.2.2 1 0) (u.2.2.2.2 2 0) (u.2.2.2.2 3 0) (u.2.2.2.2 4 0) (u.2.2.2.2 5 0)) (va_A (w_Main cI cZ mo oM hH hH0 hH1 hH2 hH3 hH4 hH5 hH6 hH7 hH8 kR kR0 kR1 xR xR0 xR1 sS sS0 (ω 0 0) (η 0) (η 1) (η 2) (η 3) (η 4) (η 5) (η 6) (η 7) (η 8) (κ 0) (κ 1) (κ 2 0) (χ 0) (χ 1) (χ 2 0) (ν 0) (ν 1 0) (ν 2 0) (ν 3 0) (ν 4 0) (ν 5 0)) sz)) 0 0 (va_A (w_Main cI cZ mo oM hH hH0 hH1 hH2 hH3 hH4 hH5 hH6 hH7 hH8 kR kR0 kR1 xR xR0 xR1 sS sS0 (ω 0 0) (η 0) (η 1) (η 2) (η 3) (η 4) (η 5) (η 6) (η 7) (η 8) (κ 0) (κ 1) (κ 2 0) (χ 0) (χ 1) (χ 2 0) (ν 0) (ν 1 0) (ν 2 0) (ν 3 0) (ν 4 0) (ν 5 0)) sz) := by
  refine Met.ofW (cc := prog_1_method_15_code) (maxL := 3) (ret := (some .int)) (by decide) rfl ?_
  intro p e s m args below meth c s₁ B hml hv
  obtain ⟨rfl, hsz, hT, hP, hK, hD0⟩ := hv
  have hx := B.exec
  have hb := B.bytes
  have hr := B.returns
  have hts : ∀ w ∈ lw_ok, w.before ([.ref oM, .int q1] : List Value).toArray s = true := hT.use
  have hown : s.vm.findClass R_Main = some m.cls := findClass_of_methodNamed B.named
  have hlocks := B.notSynchronized
  subst hsz
  have hD := hD0.self (sz := s.heap.size)
  generalize hAe : va_A (w_Main cI cZ mo oM hH hH0 hH1 hH2 hH3 hH4 hH5 hH6 hH7 hH8 kR kR0 kR1 xR xR0 xR1 sS sS0 (ω 0 0) (η 0) (η 1) (η 2) (η 3) (η 4) (η 5) (η 6) (η 7) (η 8) (κ 0) (κ 1) (κ 2 0) (χ 0) (χ 1) (χ 2 0) (ν 0) (ν 1 0) (ν 2 0) (ν 3 0) (ν 4 0) (ν 5 0)) s.heap.size = A at hD ⊢
  have hA : ∀ q : Nat, s.heap.size ≤ q → A q := fun q h => by rw [← hAe]; exact Or.inr h
  have hS : va_S A s.heap s.heap [] := va_S.rf
  have hl := lv_entry ([.ref oM, .int q1]) (n := 3) (Nat.le_of_ble_eq_true rfl)
  rw [lg_entry_eq]
  generalize (lg_sl ([.ref oM, .int q1]) ++ List.replicate (3 - (lg_sl ([.ref oM, .int q1])).length) Slot.unset).toArray = ls at hl ⊢
  have hl : lv_has ls 3 [(0, .ref oM), (1, .int q1)] := hl
  obtain ⟨hmo, hof, hre, hlo, hlk, hkc, hxc, hpe, hla, hlc⟩ := id hI
  refine lv_iload_n hx hb d_locker_0 rfl (lv_at hl 1 rfl) ?_
  refine xc_S0 (As := [.int q1]) (rest := []) ⟨hx, hb, hml, hown, hts⟩ hT (c_isItem l q1) ⟨xw_B 1 hts mw_174 mw_13 mw_172 rfl rfl (by decide +kernel) ⟨Nat.le_of_ble_eq_true rfl, Nat.le_of_ble_eq_true rfl⟩, hts _ mw_173⟩ rfl hl.1 rfl (Nat.le_of_ble_eq_true rfl) d_locker_1 ⟨Nat.zero_le _, Nat.zero_le _⟩ (fun r hw => ?_)
  subst hw
  refine lv_if_eq (tgt := 18) hx hb d_locker_4 (by decide) (fun c_1 => ?_) (fun c_1 => ?_)
  · refine lv_iconst (v := -1) hx hb d_locker_18 (by decide) ?_
    have hF : F_locker mo ω η κ χ ν q1 = (-1, ω, η, κ, χ, ν) := (if_pos c_1).trans rfl
    exact W.iret (v := -1) hx hb hr (fun t ht hW => ⟨⟨-1, (ω, η, κ, χ, ν), rfl, ⟨(congrArg Prod.fst hF).symm, (congrArg Prod.snd hF).symm⟩, by rw [ht]; exact hP, hD⟩, hS.F ht⟩) hS.2.2 d_locker_19
  · refine lv_aload_n hx hb d_locker_7 rfl (lv_at hl 0 rfl) ?_
    refine va_get (D := (dC, dI)) (ci := 3) (v := .ref hH) (C := R_Main) (T := T_Main) (N := 5) hx hb hts in_Main hown hK hP 0 rfl rfl 0 (by decide) (hts _ mw_133) (fun _ h9 => h9) rfl d_locker_8 ?_
    refine lv_iload_n hx hb d_locker_11 rfl (lv_at hl 1 rfl) ?_
    refine xc_VR (As := [.int q1]) (rest := []) (ci := 0) ⟨hx, hb, hml, hown, hts⟩ hT hK hP (c_mayG l dC dI cI cZ hH hH0 hH1 hH2 hH3 hH4 hH5 hH6 hH7 hH8 η q1 (by first | assumption | exact in_isPerson ‹_› | exact in_isItem ‹_› | exact fel_in ‹_›)) [1, 2, 3, 4, 5, 6, 7, 8, 9, 10] rfl (xw_V 1 hts mw_302 mw_15 mw_299 mw_300 mw_301 rfl rfl (by decide +kernel) ⟨Nat.le_of_ble_eq_true rfl, Nat.le_of_ble_eq_true rfl⟩) rfl rfl rfl hl.1 rfl (Nat.le_of_ble_eq_true rfl) d_locker_12 ⟨Nat.zero_le _, Nat.zero_le _⟩ (fun r hw => ?_)
    subst hw
    refine lv_if_ne (tgt := 20) hx hb d_locker_15 (by decide) (fun c_2 => ?_) (fun c_2 => ?_)
    · refine lv_aload_n hx hb d_locker_20 rfl (lv_at hl 0 rfl) ?_
      refine va_get (D := (dC, dI)) (ci := 3) (v := .ref hH) (C := R_Main) (T := T_Main) (N := 5) hx hb hts in_Main hown hK hP 0 rfl rfl 0 (by decide) (hts _ mw_133) (fun _ h9 => h9) rfl d_locker_21 ?_
      refine xc_VR (As := []) (rest := []) (ci := 0) ⟨hx, hb, hml, hown, hts⟩ hT hK hP (c_fel l dC dI cI cZ hH hH0 hH1 hH2 hH3 hH4 hH5 hH6 hH7 hH8 η) [1, 2, 3, 4, 5, 6, 7, 8, 9, 10] rfl (xw_V 0 hts mw_306 mw_15 mw_303 mw_304 mw_305 rfl rfl (by decide +kernel) ⟨Nat.le_of_ble_eq_true rfl, Nat.le_of_ble_eq_true rfl⟩) rfl rfl rfl hl.1 rfl (Nat.le_of_ble_eq_true rfl) d_locker_24 ⟨Nat.zero_le _, Nat.zero_le _⟩ (fun r hw => ?_)
      subst hw
      refine lv_istore_n (lv' := [(2, .int (F_fel η)), (0, .ref oM), (1, .int q1)]) hx hb d_locker_27 rfl hl (by decide) rfl (fun ls hl => ?_)
      refine lv_iload_n hx hb d_locker_28 rfl (lv_at hl 0 rfl) ?_
      refine lv_iconst (v := -1) hx hb d_locker_29 (by decide) ?_
      refine lv_icmp_eq (tgt := 53) hx hb d_locker_30 (by decide) (fun c_3 => ?_) (fun c_3 => ?_)
      · refine lv_iload_n hx hb d_locker_53 rfl (lv_at hl 0 rfl) ?_
        have hF : F_locker mo ω η κ χ ν q1 = (F_fel η, ω, η, κ, χ, ν) := (if_neg c_1).trans ((if_neg c_2).trans ((if_pos c_3).trans rfl))
        exact W.iret (v := F_fel η) hx hb hr (fun t ht hW => ⟨⟨F_fel η, (ω, η, κ, χ, ν), rfl, ⟨(congrArg Prod.fst hF).symm, (congrArg Prod.snd hF).symm⟩, by rw [ht]; exact hP, hD⟩, hS.F ht⟩) hS.2.2 d_locker_54
      · refine lv_aload_n hx hb d_locker_33 rfl (lv_at hl 1 rfl) ?_
        refine va_get (D := (dC, dI)) (ci := 3) (v := .ref hH) (C := R_Main) (T := T_Main) (N := 5) hx hb hts in_Main hown hK hP 0 rfl rfl 0 (by decide) (hts _ mw_133) (fun _ h9 => h9) rfl d_locker_34 ?_
        refine va_getN (D := (dC, dI)) (ci := 0) (v := .ref hH8) (C := R_House) (T := T_House) (N := 9) hx hb hts in_House hown hK hP 1 rfl rfl 8 (by decide) (hts _ mw_60) (fun _ h9 => h9) rfl d_locker_37 ?_
        refine lv_iload_n hx hb d_locker_40 rfl (lv_at hl 0 rfl) ?_
        refine lv_iload_n hx hb d_locker_41 rfl (lv_at hl 2 rfl) ?_
        refine va_iast (n := 10) (f := η 8) hx hb hK hP hD hS 10 0 rfl rfl (i := F_fel η) (x := q1) (by first | assumption | exact in_isPerson ‹_› | exact in_isItem ‹_› | exact fel_in ‹_›) d_locker_42 (fun H locs hP hD hS => ?_)
        have hP : va_P (dC, dI) vwCl (w_Main cI cZ mo oM hH hH0 hH1 hH2 hH3 hH4 hH5 hH6 hH7 hH8 kR kR0 kR1 xR xR0 xR1 sS sS0 (ω 0 0) (η 0) (η 1) (η 2) (η 3) (η 4) (η 5) (η 6) (η 7) (upd (η 8) (F_fel η).toNatClampNeg q1) (κ 0) (κ 1) (κ 2 0) (χ 0) (χ 1) (χ 2 0) (ν 0) (ν 1 0) (ν 2 0) (ν 3 0) (ν 4 0) (ν 5 0)) H := hP
        have hD : va_D A (w_Main cI cZ mo oM hH hH0 hH1 hH2 hH3 hH4 hH5 hH6 hH7 hH8 kR kR0 kR1 xR xR0 xR1 sS sS0 (ω 0 0) (η 0) (η 1) (η 2) (η 3) (η 4) (η 5) (η 6) (η 7) (upd (η 8) (F_fel η).toNatClampNeg q1) (κ 0) (κ 1) (κ 2 0) (χ 0) (χ 1) (χ 2 0) (ν 0) (ν 1 0) (ν 2 0) (ν 3 0) (ν 4 0) (ν 5 0)) := hD
        refine lv_aload_n hx hb d_locker_43 rfl (lv_at hl 1 rfl) ?_
        refine va_get (D := (dC, dI)) (ci := 3) (v := .ref hH) (C := R_Main) (T := T_Main) (N := 5) hx hb hts in_Main hown hK hP 0 rfl rfl 0 (by decide) (hts _ mw_133) (fun _ h9 => h9) rfl d_locker_44 ?_
        refine va_getN (D := (dC, dI)) (ci := 0) (v := .ref hH7) (C := R_House) (T := T_House) (N := 9) hx hb hts in_House hown hK hP 1 rfl rfl 7 (by decide) (hts _ mw_58) (fun _ h9 => h9) rfl d_locker_47 ?_
        refine lv_iload_n hx hb d_locker_50 rfl (lv_at hl 2 rfl) ?_
        refine lv_iload_n hx hb d_locker_51 rfl (lv_at hl 0 rfl) ?_
        refine va_iast (n := 60) (f := η 7) hx hb hK hP hD hS 9 0 rfl rfl (i := q1) (x := F_fel η) (by first | assumption | exact in_isPerson ‹_› | exact in_isItem ‹_› | exact fel_in ‹_›) d_locker_52 (fun H locs hP hD hS => ?_)
        have hP : va_P (dC, dI) vwCl (w_Main cI cZ mo oM hH hH0 hH1 hH2 hH3 hH4 hH5 hH6 hH7 hH8 kR kR0 kR1 xR xR0 xR1 sS sS0 (ω 0 0) (η 0) (η 1) (η 2) (η 3) (η 4) (η 5) (η 6) (upd (η 7) q1.toNatClampNeg (F_fel η)) (upd (η 8) (F_fel η).toNatClampNeg q1) (κ 0) (κ 1) (κ 2 0) (χ 0) (χ 1) (χ 2 0) (ν 0) (ν 1 0) (ν 2 0) (ν 3 0) (ν 4 0) (ν 5 0)) H := hP
        have hD : va_D A (w_Main cI cZ mo oM hH hH0 hH1 hH2 hH3 hH4 hH5 hH6 hH7 hH8 kR kR0 kR1 xR xR0 xR1 sS sS0 (ω 0 0) (η 0) (η 1) (η 2) (η 3) (η 4) (η 5) (η 6) (upd (η 7) q1.toNatClampNeg (F_fel η)) (upd (η 8) (F_fel η).toNatClampNeg q1) (κ 0) (κ 1) (κ 2 0) (χ 0) (χ 1) (χ 2 0) (ν 0) (ν 1 0) (ν 2 0) (ν 3 0) (ν 4 0) (ν 5 0)) := hD
        refine lv_iload_n hx hb d_locker_53 rfl (lv_at hl 0 rfl) ?_
        have hF : F_locker mo ω η κ χ ν q1 = (F_fel η, ω, (ss (ss η 7 (upd (η 7) q1.toNatClampNeg (F_fel η))) 8 (upd (η 8) (F_fel η).toNatClampNeg q1)), κ, χ, ν) := (if_neg c_1).trans ((if_neg c_2).trans ((if_neg c_3).trans rfl))
        exact W.iret (v := F_fel η) hx hb hr (fun t ht hW => ⟨⟨F_fel η, (ω, (ss (ss η 7 (upd (η 7) q1.toNatClampNeg (F_fel η))) 8 (upd (η 8) (F_fel η).toNatClampNeg q1)), κ, χ, ν), rfl, ⟨(congrArg Prod.fst hF).symm, (congrArg Prod.snd hF).symm⟩, by rw [ht]; exact hP, hD⟩, hS.F ht⟩) hS.2.2 d_locker_54
    · refine lv_iconst (v := -1) hx hb d_locker_18 (by decide) ?_
      have hF : F_locker mo ω η κ χ ν q1 = (-1, ω, η, κ, χ, ν) := (if_neg c_1).trans ((if_pos c_2).trans rfl)
      exact W.iret (v := -1) hx hb hr (fun t ht hW => ⟨⟨-1, (ω, η, κ, χ, ν), rfl, ⟨(congrArg Prod.fst hF).symm, (congrArg Prod.snd hF).symm⟩, by rw [ht]; exact hP, hD⟩, hS.F ht⟩) hS.2.2 d_locker_19
def F_opn (mo : Nat) (ω η κ χ ν : SS) (q1 : Int32) (q2 : Int32) : Int32 × SS × SS × SS × SS × SS :=
  if q1 < 0 then
    (-1, ω, η, κ, χ, ν)
  else
    if 10 ≤ q1 then
      (-1, ω, η, κ, χ, ν)
    else
      if (η 8 q1.toNatClampNeg) = (-1) then
        (-1, ω, η, κ, χ, ν)
      else
        if (η 5 (η 8 q1.toNatClampNeg).toNatClampNeg) = (-1) then
          (-1, ω, η, κ, χ, ν)
        else
          if (η 0 (η 5 (η 8 q1.toNatClampNeg).toNatClampNeg).toNatClampNeg) = q2 then
            if (F_refu η (η 8 q1.toNatClampNeg) (η 5 (η 8 q1.toNatClampNeg).toNatClampNeg)) = 0 then
              (η 8 q1.toNatClampNeg, ω, (F_giveO η (η 8 q1.toNatClampNeg) (η 5 (η 8 q1.toNatClampNeg).toNatClampNeg)), κ, χ, ν)
            else
              (F_refu η (η 8 q1.toNatClampNeg) (η 5 (η 8 q1.toNatClampNeg).toNatClampNeg), ω, η, κ, χ, ν)
          else
            (-1, ω, η, κ, χ, ν)
set_option maxHeartbeats 4000000 in
set_option maxRecDepth 100000 in
theorem c_opn (l : Launch) (dC : Nat → ClassId) (dI : Nat → Nat → Nat) (cI cZ : ClassId) (mo : Nat) (oM hH hH0 hH1 hH2 hH3 hH4 hH5 hH6 hH7 hH8 kR kR0 kR1 xR xR0 xR1 sS sS0 : Nat) (sz : Nat) (ω η κ χ ν : SS) (q1 : Int32) (q2 : Int32) (hI : CInv mo ω η κ χ ν) : Met l y_opn [Cond.code y_opn prog_1_method_16_code 6 (some .int)] ({ frames := 3, cells := 0, slots := 0, locals := 64 }) (pcW (dC, dI) (w_Main cI cZ mo oM hH hH0 hH1 hH2 hH3 hH4 hH5 hH6 hH7 hH8 kR kR0 kR1 xR xR0 xR1 sS sS0 (ω 0 0) (η 0) (η 1) (η 2) (η 3) (η 4) (η 5) (η 6) (η 7) (η 8) (κ 0) (κ 1) (κ 2 0) (χ 0) (χ 1) (χ 2 0) (ν 0) (ν 1 0) (ν 2 0) (ν 3 0) (ν 4 0) (ν 5 0)) (tyC cI cZ) sz [.ref oM, .int q1, .int q2]) (qI (fun r u => r = (F_opn mo ω η κ χ ν q1 q2).1 ∧ u = (F_opn mo ω η κ χ ν q1 q2).2) (dC, dI) (fun u : SS × SS × SS × SS × SS => w_Main cI cZ mo oM hH hH0 hH1 hH2 hH3 hH4 hH5 hH6 hH7 hH8 kR kR0 kR1 xR xR0 xR1 sS sS0 (u.1 0 0) (u.2.1 0) (u.2.1 1) (u.2.1 2) (u.2.1 3) (u.2.1 4) (u.2.1 5) (u.2.1 6) (u.2.1 7) (u.2.1 8) (u.2.2.1 0) (u.2.2.1 1) (u.2.2.1 2 0) (u.2.2.2.1 0) (u.2.2.2.1 1) (u.2.2.2.1 2 0) (u.2.2.2.2 0) (u.2.2.2.2 1 0) (u.2.2.2.2 2 0) (u.2.2.2.2 3 0) (u.2.2.2.2 4 0) (u.2.2.2.2 5 0)) (va_A (w_Main cI cZ mo oM hH hH0 hH1 hH2 hH3 hH4 hH5 hH6 hH7 hH8 kR kR0 kR1 xR xR0 xR1 sS sS0 (ω 0 0) (η 0) (η 1) (η 2) (η 3) (η 4) (η 5) (η 6) (η 7) (η 8) (κ 0) (κ 1) (κ 2 0) (χ 0) (χ 1) (χ 2 0) (ν 0) (ν 1 0) (ν 2 0) (ν 3 0) (ν 4 0) (ν 5 0)) sz)) 0 0 (va_A (w_Main cI cZ mo oM hH hH0 hH1 hH2 hH3 hH4 hH5 hH6 hH7 hH8 kR kR0 kR1 xR xR0 xR1 sS sS0 (ω 0 0) (η 0) (η 1) (η 2) (η 3) (η 4) (η 5) (η 6) (η 7) (η 8) (κ 0) (κ 1) (κ 2 0) (χ 0) (χ 1) (χ 2 0) (ν 0) (ν 1 0) (ν 2 0) (ν 3 0) (ν 4 0) (ν 5 0)) sz) := by
  refine Met.ofW (cc := prog_1_method_16_code) (maxL := 6) (ret := (some .int)) (by decide) rfl ?_
  intro p e s m args below meth c s₁ B hml hv
  obtain ⟨rfl, hsz, hT, hP, hK, hD0⟩ := hv
  have hx := B.exec
  have hb := B.bytes
  have hr := B.returns
  have hts : ∀ w ∈ lw_ok, w.before ([.ref oM, .int q1, .int q2] : List Value).toArray s = true := hT.use
  have hown : s.vm.findClass R_Main = some m.cls := findClass_of_methodNamed B.named
  have hlocks := B.notSynchronized
  subst hsz
  have hD := hD0.self (sz := s.heap.size)
  generalize hAe : va_A (w_Main cI cZ mo oM hH hH0 hH1 hH2 hH3 hH4 hH5 hH6 hH7 hH8 kR kR0 kR1 xR xR0 xR1 sS sS0 (ω 0 0) (η 0) (η 1) (η 2) (η 3) (η 4) (η 5) (η 6) (η 7) (η 8) (κ 0) (κ 1) (κ 2 0) (χ 0) (χ 1) (χ 2 0) (ν 0) (ν 1 0) (ν 2 0) (ν 3 0) (ν 4 0) (ν 5 0)) s.heap.size = A at hD ⊢
  have hA : ∀ q : Nat, s.heap.size ≤ q → A q := fun q h => by rw [← hAe]; exact Or.inr h
  have hS : va_S A s.heap s.heap [] := va_S.rf
  have hl := lv_entry ([.ref oM, .int q1, .int q2]) (n := 6) (Nat.le_of_ble_eq_true rfl)
  rw [lg_entry_eq]
  generalize (lg_sl ([.ref oM, .int q1, .int q2]) ++ List.replicate (6 - (lg_sl ([.ref oM, .int q1, .int q2])).length) Slot.unset).toArray = ls at hl ⊢
  have hl : lv_has ls 6 [(0, .ref oM), (1, .int q1), (2, .int q2)] := hl
  obtain ⟨hmo, hof, hre, hlo, hlk, hkc, hxc, hpe, hla, hlc⟩ := id hI
  refine lv_iload_n hx hb d_opn_0 rfl (lv_at hl 1 rfl) ?_
  refine lv_if_lt (tgt := 23) hx hb d_opn_1 (by decide) (fun c_1 => ?_) (fun c_1 => ?_)
  · refine lv_iconst (v := -1) hx hb d_opn_23 (by decide) ?_
    have hF : F_opn mo ω η κ χ ν q1 q2 = (-1, ω, η, κ, χ, ν) := (if_pos c_1).trans rfl
    exact W.iret (v := -1) hx hb hr (fun t ht hW => ⟨⟨-1, (ω, η, κ, χ, ν), rfl, ⟨(congrArg Prod.fst hF).symm, (congrArg Prod.snd hF).symm⟩, by rw [ht]; exact hP, hD⟩, hS.F ht⟩) hS.2.2 d_opn_24
  · refine lv_iload_n hx hb d_opn_4 rfl (lv_at hl 1 rfl) ?_
    refine lv_bipush (v := 10) hx hb d_opn_5 (by decide) ?_
    refine lv_icmp_ge (tgt := 23) hx hb d_opn_7 (by decide) (fun c_2 => ?_) (fun c_2 => ?_)
    · refine lv_iconst (v := -1) hx hb d_opn_23 (by decide) ?_
      have hF : F_opn mo ω η κ χ ν q1 q2 = (-1, ω, η, κ, χ, ν) := (if_neg c_1).trans ((if_pos c_2).trans rfl)
      exact W.iret (v := -1) hx hb hr (fun t ht hW => ⟨⟨-1, (ω, η, κ, χ, ν), rfl, ⟨(congrArg Prod.fst hF).symm, (congrArg Prod.snd hF).symm⟩, by rw [ht]; exact hP, hD⟩, hS.F ht⟩) hS.2.2 d_opn_24
    · refine lv_aload_n hx hb d_opn_10 rfl (lv_at hl 0 rfl) ?_
      refine va_get (D := (dC, dI)) (ci := 3) (v := .ref hH) (C := R_Main) (T := T_Main) (N := 5) hx hb hts in_Main hown hK hP 0 rfl rfl 0 (by decide) (hts _ mw_133) (fun _ h9 => h9) rfl d_opn_11 ?_
      refine va_getN (D := (dC, dI)) (ci := 0) (v := .ref hH8) (C := R_House) (T := T_House) (N := 9) hx hb hts in_House hown hK hP 1 rfl rfl 8 (by decide) (hts _ mw_60) (fun _ h9 => h9) rfl d_opn_14 ?_
      refine lv_iload_n hx hb d_opn_17 rfl (lv_at hl 1 rfl) ?_
      refine va_iald (n := 10) (f := η 8) hx hb hK hP 10 0 rfl rfl (i := q1) (by first | assumption | exact in_ge (n := 10) ‹_› ‹_› (by decide) | exact (hlk _ (clt (in_ge (n := 10) ‹_› ‹_› (by decide)))).resolve_left ‹_› | exact (hre _ (clt ((hlk _ (clt (in_ge (n := 10) ‹_› ‹_› (by decide)))).resolve_left ‹_›))).resolve_left ‹_› | exact hlo _ (clt ((hlk _ (clt (in_ge (n := 10) ‹_› ‹_› (by decide)))).resolve_left ‹_›))) d_opn_18 ?_
      refine lv_iconst (v := -1) hx hb d_opn_19 (by decide) ?_
      refine lv_icmp_ne (tgt := 25) hx hb d_opn_20 (by decide) (fun c_3 => ?_) (fun c_3 => ?_)
      · refine lv_aload_n hx hb d_opn_25 rfl (lv_at hl 0 rfl) ?_
        refine va_get (D := (dC, dI)) (ci := 3) (v := .ref hH) (C := R_Main) (T := T_Main) (N := 5) hx hb hts in_Main hown hK hP 0 rfl rfl 0 (by decide) (hts _ mw_133) (fun _ h9 => h9) rfl d_opn_26 ?_
        refine va_getN (D := (dC, dI)) (ci := 0) (v := .ref hH8) (C := R_House) (T := T_House) (N := 9) hx hb hts in_House hown hK hP 1 rfl rfl 8 (by decide) (hts _ mw_60) (fun _ h9 => h9) rfl d_opn_29 ?_
        refine lv_iload_n hx hb d_opn_32 rfl (lv_at hl 1 rfl) ?_
        refine va_iald (n := 10) (f := η 8) hx hb hK hP 10 0 rfl rfl (i := q1) (by first | assumption | exact in_ge (n := 10) ‹_› ‹_› (by decide) | exact (hlk _ (clt (in_ge (n := 10) ‹_› ‹_› (by decide)))).resolve_left ‹_› | exact (hre _ (clt ((hlk _ (clt (in_ge (n := 10) ‹_› ‹_› (by decide)))).resolve_left ‹_›))).resolve_left ‹_› | exact hlo _ (clt ((hlk _ (clt (in_ge (n := 10) ‹_› ‹_› (by decide)))).resolve_left ‹_›))) d_opn_33 ?_
        refine lv_istore_n (lv' := [(3, .int (η 8 q1.toNatClampNeg)), (0, .ref oM), (1, .int q1), (2, .int q2)]) hx hb d_opn_34 rfl hl (by decide) rfl (fun ls hl => ?_)
        refine lv_aload_n hx hb d_opn_35 rfl (lv_at hl 1 rfl) ?_
        refine va_get (D := (dC, dI)) (ci := 3) (v := .ref hH) (C := R_Main) (T := T_Main) (N := 5) hx hb hts in_Main hown hK hP 0 rfl rfl 0 (by decide) (hts _ mw_133) (fun _ h9 => h9) rfl d_opn_36 ?_
        refine va_getN (D := (dC, dI)) (ci := 0) (v := .ref hH5) (C := R_House) (T := T_House) (N := 9) hx hb hts in_House hown hK hP 1 rfl rfl 5 (by decide) (hts _ mw_54) (fun _ h9 => h9) rfl d_opn_39 ?_
        refine lv_iload_n hx hb d_opn_42 rfl (lv_at hl 0 rfl) ?_
        refine va_iald (n := 60) (f := η 5) hx hb hK hP 7 0 rfl rfl (i := η 8 q1.toNatClampNeg) (by first | assumption | exact in_ge (n := 10) ‹_› ‹_› (by decide) | exact (hlk _ (clt (in_ge (n := 10) ‹_› ‹_› (by decide)))).resolve_left ‹_› | exact (hre _ (clt ((hlk _ (clt (in_ge (n := 10) ‹_› ‹_› (by decide)))).resolve_left ‹_›))).resolve_left ‹_› | exact hlo _ (clt ((hlk _ (clt (in_ge (n := 10) ‹_› ‹_› (by decide)))).resolve_left ‹_›))) d_opn_43 ?_
        refine lv_istore (lv' := [(4, .int (η 5 (η 8 q1.toNatClampNeg).toNatClampNeg)), (3, .int (η 8 q1.toNatClampNeg)), (0, .ref oM), (1, .int q1), (2, .int q2)]) hx hb d_opn_44 hl (by decide) rfl (fun ls hl => ?_)
        refine lv_iload hx hb d_opn_46 (lv_at hl 0 rfl) ?_
        refine lv_iconst (v := -1) hx hb d_opn_48 (by decide) ?_
        refine lv_icmp_eq (tgt := 66) hx hb d_opn_49 (by decide) (fun c_4 => ?_) (fun c_4 => ?_)
        · refine lv_iconst (v := -1) hx hb d_opn_66 (by decide) ?_
          have hF : F_opn mo ω η κ χ ν q1 q2 = (-1, ω, η, κ, χ, ν) := (if_neg c_1).trans ((if_neg c_2).trans ((if_neg c_3).trans ((if_pos c_4).trans rfl)))
          exact W.iret (v := -1) hx hb hr (fun t ht hW => ⟨⟨-1, (ω, η, κ, χ, ν), rfl, ⟨(congrArg Prod.fst hF).symm, (congrArg Prod.snd hF).symm⟩, by rw [ht]; exact hP, hD⟩, hS.F ht⟩) hS.2.2 d_opn_67
        · refine lv_aload_n hx hb d_opn_52 rfl (lv_at hl 2 rfl) ?_
          refine va_get (D := (dC, dI)) (ci := 3) (v := .ref hH) (C := R_Main) (T := T_Main) (N := 5) hx hb hts in_Main hown hK hP 0 rfl rfl 0 (by decide) (hts _ mw_133) (fun _ h9 => h9) rfl d_opn_53 ?_
          refine va_getN (D := (dC, dI)) (ci := 0) (v := .ref hH0) (C := R_House) (T := T_House) (N := 9) hx hb hts in_House hown hK hP 1 rfl rfl 0 (by decide) (hts _ mw_44) (fun _ h9 => h9) rfl d_opn_56 ?_
          refine lv_iload hx hb d_opn_59 (lv_at hl 0 rfl) ?_
          refine va_iald (n := 40) (f := η 0) hx hb hK hP 2 0 rfl rfl (i := η 5 (η 8 q1.toNatClampNeg).toNatClampNeg) (by first | assumption | exact in_ge (n := 10) ‹_› ‹_› (by decide) | exact (hlk _ (clt (in_ge (n := 10) ‹_› ‹_› (by decide)))).resolve_left ‹_› | exact (hre _ (clt ((hlk _ (clt (in_ge (n := 10) ‹_› ‹_› (by decide)))).resolve_left ‹_›))).resolve_left ‹_› | exact hlo _ (clt ((hlk _ (clt (in_ge (n := 10) ‹_› ‹_› (by decide)))).resolve_left ‹_›))) d_opn_61 ?_
          refine lv_iload_n hx hb d_opn_62 rfl (lv_at hl 4 rfl) ?_
          refine lv_icmp_eq (tgt := 68) hx hb d_opn_63 (by decide) (fun c_5 => ?_) (fun c_5 => ?_)
          · refine lv_aload_n hx hb d_opn_68 rfl (lv_at hl 2 rfl) ?_
            refine va_get (D := (dC, dI)) (ci := 3) (v := .ref hH) (C := R_Main) (T := T_Main) (N := 5) hx hb hts in_Main hown hK hP 0 rfl rfl 0 (by decide) (hts _ mw_133) (fun _ h9 => h9) rfl d_opn_69 ?_
            refine lv_iload_n hx hb d_opn_72 rfl (lv_at hl 1 rfl) ?_
            refine lv_iload hx hb d_opn_73 (lv_at hl 0 rfl) ?_
            refine xc_VR (As := [.int (η 8 q1.toNatClampNeg), .int (η 5 (η 8 q1.toNatClampNeg).toNatClampNeg)]) (rest := []) (ci := 0) ⟨hx, hb, hml, hown, hts⟩ hT hK hP (c_refu l dC dI cI cZ hH hH0 hH1 hH2 hH3 hH4 hH5 hH6 hH7 hH8 η (η 8 q1.toNatClampNeg) (η 5 (η 8 q1.toNatClampNeg).toNatClampNeg) (by first | assumption | exact in_ge (n := 10) ‹_› ‹_› (by decide) | exact (hlk _ (clt (in_ge (n := 10) ‹_› ‹_› (by decide)))).resolve_left ‹_› | exact (hre _ (clt ((hlk _ (clt (in_ge (n := 10) ‹_› ‹_› (by decide)))).resolve_left ‹_›))).resolve_left ‹_› | exact hlo _ (clt ((hlk _ (clt (in_ge (n := 10) ‹_› ‹_› (by decide)))).resolve_left ‹_›))) (by first | assumption | exact in_ge (n := 10) ‹_› ‹_› (by decide) | exact (hlk _ (clt (in_ge (n := 10) ‹_› ‹_› (by decide)))).resolve_left ‹_› | exact (hre _ (clt ((hlk _ (clt (in_ge (n := 10) ‹_› ‹_› (by decide)))).resolve_left ‹_›))).resolve_left ‹_› | exact hlo _ (clt ((hlk _ (clt (in_ge (n := 10) ‹_› ‹_› (by decide)))).resolve_left ‹_›)))) [1, 2, 3, 4, 5, 6, 7, 8, 9, 10] rfl (xw_V 2 hts mw_223 mw_15 mw_220 mw_221 mw_222 rfl rfl (by decide +kernel) ⟨Nat.le_of_ble_eq_true rfl, Nat.le_of_ble_eq_true rfl⟩) rfl rfl rfl hl.1 rfl (Nat.le_of_ble_eq_true rfl) d_opn_75 ⟨Nat.zero_le _, Nat.zero_le _⟩ (fun r hw => ?_)
            subst hw
            refine lv_istore (lv' := [(5, .int (F_refu η (η 8 q1.toNatClampNeg) (η 5 (η 8 q1.toNatClampNeg).toNatClampNeg))), (4, .int (η 5 (η 8 q1.toNatClampNeg).toNatClampNeg)), (3, .int (η 8 q1.toNatClampNeg)), (0, .ref oM), (1, .int q1), (2, .int q2)]) hx hb d_opn_78 hl (by decide) rfl (fun ls hl => ?_)
            refine lv_iload hx hb d_opn_80 (lv_at hl 0 rfl) ?_
            refine lv_if_eq (tgt := 88) hx hb d_opn_82 (by decide) (fun c_6 => ?_) (fun c_6 => ?_)
            · refine lv_aload_n hx hb d_opn_88 rfl (lv_at hl 3 rfl) ?_
              refine va_get (D := (dC, dI)) (ci := 3) (v := .ref hH) (C := R_Main) (T := T_Main) (N := 5) hx hb hts in_Main hown hK hP 0 rfl rfl 0 (by decide) (hts _ mw_133) (fun _ h9 => h9) rfl d_opn_89 ?_
              refine lv_iload_n hx hb d_opn_92 rfl (lv_at hl 2 rfl) ?_
              refine lv_iload hx hb d_opn_93 (lv_at hl 1 rfl) ?_
              refine xc_VWv (As := [.int (η 8 q1.toNatClampNeg), .int (η 5 (η 8 q1.toNatClampNeg).toNatClampNeg)]) (rest := []) (ci := 0) (wr := (r_Main_H cI cZ mo oM hH hH0 hH1 hH2 hH3 hH4 hH5 hH6 hH7 hH8 kR kR0 kR1 xR xR0 xR1 sS sS0 (ω 0 0) (η 0) (η 1) (η 2) (η 3) (η 4) (η 5) (η 6) (η 7) (η 8) (κ 0) (κ 1) (κ 2 0) (χ 0) (χ 1) (χ 2 0) (ν 0) (ν 1 0) (ν 2 0) (ν 3 0) (ν 4 0) (ν 5 0))) ⟨hx, hb, hml, hown, hts⟩ hT hK hP hD hS hA (c_giveO l dC dI cI cZ hH hH0 hH1 hH2 hH3 hH4 hH5 hH6 hH7 hH8 s.heap.size η (η 8 q1.toNatClampNeg) (η 5 (η 8 q1.toNatClampNeg).toNatClampNeg) (by first | assumption | exact in_ge (n := 10) ‹_› ‹_› (by decide) | exact (hlk _ (clt (in_ge (n := 10) ‹_› ‹_› (by decide)))).resolve_left ‹_› | exact (hre _ (clt ((hlk _ (clt (in_ge (n := 10) ‹_› ‹_› (by decide)))).resolve_left ‹_›))).resolve_left ‹_› | exact hlo _ (clt ((hlk _ (clt (in_ge (n := 10) ‹_› ‹_› (by decide)))).resolve_left ‹_›))) (by first | assumption | exact in_ge (n := 10) ‹_› ‹_› (by decide) | exact (hlk _ (clt (in_ge (n := 10) ‹_› ‹_› (by decide)))).resolve_left ‹_› | exact (hre _ (clt ((hlk _ (clt (in_ge (n := 10) ‹_› ‹_› (by decide)))).resolve_left ‹_›))).resolve_left ‹_› | exact hlo _ (clt ((hlk _ (clt (in_ge (n := 10) ‹_› ‹_› (by decide)))).resolve_left ‹_›)))) [1, 2, 3, 4, 5, 6, 7, 8, 9, 10] [0, 11, 12, 13, 14, 15, 16, 17, 18] rfl (by decide) rfl (by decide) (by decide) (xw_V 2 hts mw_237 mw_15 mw_234 mw_235 mw_236 rfl rfl (by decide +kernel) ⟨Nat.le_of_ble_eq_true rfl, Nat.le_of_ble_eq_true rfl⟩) rfl rfl rfl hl.1 rfl (Nat.le_of_ble_eq_true rfl) d_opn_95 ⟨Nat.zero_le _, Nat.zero_le _⟩ (fun u H locs hw hP hD hS => ?_)
              obtain rfl := hw
              have hP : va_P (dC, dI) vwCl (w_Main cI cZ mo oM hH hH0 hH1 hH2 hH3 hH4 hH5 hH6 hH7 hH8 kR kR0 kR1 xR xR0 xR1 sS sS0 (ω 0 0) ((F_giveO η (η 8 q1.toNatClampNeg) (η 5 (η 8 q1.toNatClampNeg).toNatClampNeg)) 0) ((F_giveO η (η 8 q1.toNatClampNeg) (η 5 (η 8 q1.toNatClampNeg).toNatClampNeg)) 1) ((F_giveO η (η 8 q1.toNatClampNeg) (η 5 (η 8 q1.toNatClampNeg).toNatClampNeg)) 2) ((F_giveO η (η 8 q1.toNatClampNeg) (η 5 (η 8 q1.toNatClampNeg).toNatClampNeg)) 3) ((F_giveO η (η 8 q1.toNatClampNeg) (η 5 (η 8 q1.toNatClampNeg).toNatClampNeg)) 4) ((F_giveO η (η 8 q1.toNatClampNeg) (η 5 (η 8 q1.toNatClampNeg).toNatClampNeg)) 5) ((F_giveO η (η 8 q1.toNatClampNeg) (η 5 (η 8 q1.toNatClampNeg).toNatClampNeg)) 6) ((F_giveO η (η 8 q1.toNatClampNeg) (η 5 (η 8 q1.toNatClampNeg).toNatClampNeg)) 7) ((F_giveO η (η 8 q1.toNatClampNeg) (η 5 (η 8 q1.toNatClampNeg).toNatClampNeg)) 8) (κ 0) (κ 1) (κ 2 0) (χ 0) (χ 1) (χ 2 0) (ν 0) (ν 1 0) (ν 2 0) (ν 3 0) (ν 4 0) (ν 5 0)) H := hP.sub [0, 9, 10, 11, 12, 13, 14, 15, 16, 17, 18, 1, 2, 3, 4, 5, 6, 7, 8] rfl
              have hD : va_D A (w_Main cI cZ mo oM hH hH0 hH1 hH2 hH3 hH4 hH5 hH6 hH7 hH8 kR kR0 kR1 xR xR0 xR1 sS sS0 (ω 0 0) ((F_giveO η (η 8 q1.toNatClampNeg) (η 5 (η 8 q1.toNatClampNeg).toNatClampNeg)) 0) ((F_giveO η (η 8 q1.toNatClampNeg) (η 5 (η 8 q1.toNatClampNeg).toNatClampNeg)) 1) ((F_giveO η (η 8 q1.toNatClampNeg) (η 5 (η 8 q1.toNatClampNeg).toNatClampNeg)) 2) ((F_giveO η (η 8 q1.toNatClampNeg) (η 5 (η 8 q1.toNatClampNeg).toNatClampNeg)) 3) ((F_giveO η (η 8 q1.toNatClampNeg) (η 5 (η 8 q1.toNatClampNeg).toNatClampNeg)) 4) ((F_giveO η (η 8 q1.toNatClampNeg) (η 5 (η 8 q1.toNatClampNeg).toNatClampNeg)) 5) ((F_giveO η (η 8 q1.toNatClampNeg) (η 5 (η 8 q1.toNatClampNeg).toNatClampNeg)) 6) ((F_giveO η (η 8 q1.toNatClampNeg) (η 5 (η 8 q1.toNatClampNeg).toNatClampNeg)) 7) ((F_giveO η (η 8 q1.toNatClampNeg) (η 5 (η 8 q1.toNatClampNeg).toNatClampNeg)) 8) (κ 0) (κ 1) (κ 2 0) (χ 0) (χ 1) (χ 2 0) (ν 0) (ν 1 0) (ν 2 0) (ν 3 0) (ν 4 0) (ν 5 0)) := hD.sub [0, 9, 10, 11, 12, 13, 14, 15, 16, 17, 18, 1, 2, 3, 4, 5, 6, 7, 8] (by decide) rfl
              refine lv_iload_n hx hb d_opn_98 rfl (lv_at hl 2 rfl) ?_
              have hF : F_opn mo ω η κ χ ν q1 q2 = (η 8 q1.toNatClampNeg, ω, (F_giveO η (η 8 q1.toNatClampNeg) (η 5 (η 8 q1.toNatClampNeg).toNatClampNeg)), κ, χ, ν) := (if_neg c_1).trans ((if_neg c_2).trans ((if_neg c_3).trans ((if_neg c_4).trans ((if_pos c_5).trans ((if_pos c_6).trans rfl)))))
              exact W.iret (v := η 8 q1.toNatClampNeg) hx hb hr (fun t ht hW => ⟨⟨η 8 q1.toNatClampNeg, (ω, (F_giveO η (η 8 q1.toNatClampNeg) (η 5 (η 8 q1.toNatClampNeg).toNatClampNeg)), κ, χ, ν), rfl, ⟨(congrArg Prod.fst hF).symm, (congrArg Prod.snd hF).symm⟩, by rw [ht]; exact hP, hD⟩, hS.F ht⟩) hS.2.2 d_opn_99
            · refine lv_iload hx hb d_opn_85 (lv_at hl 0 rfl) ?_
              have hF : F_opn mo ω η κ χ ν q1 q2 = (F_refu η (η 8 q1.toNatClampNeg) (η 5 (η 8 q1.toNatClampNeg).toNatClampNeg), ω, η, κ, χ, ν) := (if_neg c_1).trans ((if_neg c_2).trans ((if_neg c_3).trans ((if_neg c_4).trans ((if_pos c_5).trans ((if_neg c_6).trans rfl)))))
              exact W.iret (v := F_refu η (η 8 q1.toNatClampNeg) (η 5 (η 8 q1.toNatClampNeg).toNatClampNeg)) hx hb hr (fun t ht hW => ⟨⟨F_refu η (η 8 q1.toNatClampNeg) (η 5 (η 8 q1.toNatClampNeg).toNatClampNeg), (ω, η, κ, χ, ν), rfl, ⟨(congrArg Prod.fst hF).symm, (congrArg Prod.snd hF).symm⟩, by rw [ht]; exact hP, hD⟩, hS.F ht⟩) hS.2.2 d_opn_87
          · refine lv_iconst (v := -1) hx hb d_opn_66 (by decide) ?_
            have hF : F_opn mo ω η κ χ ν q1 q2 = (-1, ω, η, κ, χ, ν) := (if_neg c_1).trans ((if_neg c_2).trans ((if_neg c_3).trans ((if_neg c_4).trans ((if_neg c_5).trans rfl))))
            exact W.iret (v := -1) hx hb hr (fun t ht hW => ⟨⟨-1, (ω, η, κ, χ, ν), rfl, ⟨(congrArg Prod.fst hF).symm, (congrArg Prod.snd hF).symm⟩, by rw [ht]; exact hP, hD⟩, hS.F ht⟩) hS.2.2 d_opn_67
      · refine lv_iconst (v := -1) hx hb d_opn_23 (by decide) ?_
        have hF : F_opn mo ω η κ χ ν q1 q2 = (-1, ω, η, κ, χ, ν) := (if_neg c_1).trans ((if_neg c_2).trans ((if_pos c_3).trans rfl))
        exact W.iret (v := -1) hx hb hr (fun t ht hW => ⟨⟨-1, (ω, η, κ, χ, ν), rfl, ⟨(congrArg Prod.fst hF).symm, (congrArg Prod.snd hF).symm⟩, by rw [ht]; exact hP, hD⟩, hS.F ht⟩) hS.2.2 d_opn_24
