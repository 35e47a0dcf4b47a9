def F_scan (mo : Nat) (ω η κ χ ν : SS) (q1 : Int32) : Int32 × SS × SS × SS × SS × SS :=
  if (F_isItem q1) = 0 then
    (0, ω, η, κ, χ, ν)
  else
    if (ν 2 0) = 2 then
      if (ν 4 0) = q1 then
        (2, ω, η, κ, χ, ν)
      else
        (1, ω, η, κ, χ, (ss (ss ν 4 (fun _ => q1)) 5 (fun _ => 0)))
    else
      (0, ω, η, κ, χ, ν)
set_option maxHeartbeats 4000000 in
set_option maxRecDepth 100000 in
theorem c_scan (l : Launch) (dC : Nat → ClassId) (dI : Nat → Nat → Nat) (cI cZ : ClassId) (mo : Nat) (oM hH hH0 hH1 hH2 hH3 hH4 hH5 hH6 hH7 hH8 kR kR0 kR1 xR xR0 xR1 sS sS0 : Nat) (sz : Nat) (ω η κ χ ν : SS) (q1 : Int32) : Met l y_scan [Cond.code y_scan prog_1_method_7_code 2 (some .int)] ({ frames := 1, cells := 0, slots := 0, locals := 20 }) (pcW (dC, dI) (w_Main cI cZ mo oM hH hH0 hH1 hH2 hH3 hH4 hH5 hH6 hH7 hH8 kR kR0 kR1 xR xR0 xR1 sS sS0 (ω 0 0) (η 0) (η 1) (η 2) (η 3) (η 4) (η 5) (η 6) (η 7) (η 8) (κ 0) (κ 1) (κ 2 0) (χ 0) (χ 1) (χ 2 0) (ν 0) (ν 1 0) (ν 2 0) (ν 3 0) (ν 4 0) (ν 5 0)) (tyC cI cZ) sz [.ref oM, .int q1]) (qI (fun r u => r = (F_scan mo ω η κ χ ν q1).1 ∧ u = (F_scan mo ω η κ χ ν q1).2) (dC, dI) (fun u : SS × SS × SS × SS × SS => w_Main cI cZ mo oM hH hH0 hH1 hH2 hH3 hH4 hH5 hH6 hH7 hH8 kR kR0 kR1 xR xR0 xR1 sS sS0 (u.1 0 0) (u.2.1 0) (u.2.1 1) (u.2.1 2) (u.2.1 3) (u.2.1 4) (u.2.1 5) (u.2.1 6) (u.2.1 7) (u.2.1 8) (u.2.2.1 0) (u.2.2.1 1) (u.2.2.1 2 0) (u.2.2.2.1 0) (u.2.2.2.1 1) (u.2.2.2.1 2 0) (u.2.2.2.2 0) (u.2.2.2.2 1 0) (u.2.2.2.2 2 0) (u.2.2.2.2 3 0) (u.2.2.2.2 4 0) (u.2.2.2.2 5 0)) (va_A (w_Main cI cZ mo oM hH hH0 hH1 hH2 hH3 hH4 hH5 hH6 hH7 hH8 kR kR0 kR1 xR xR0 xR1 sS sS0 (ω 0 0) (η 0) (η 1) (η 2) (η 3) (η 4) (η 5) (η 6) (η 7) (η 8) (κ 0) (κ 1) (κ 2 0) (χ 0) (χ 1) (χ 2 0) (ν 0) (ν 1 0) (ν 2 0) (ν 3 0) (ν 4 0) (ν 5 0)) sz)) 0 0 (va_A (w_Main cI cZ mo oM hH hH0 hH1 hH2 hH3 hH4 hH5 hH6 hH7 hH8 kR kR0 kR1 xR xR0 xR1 sS sS0 (ω 0 0) (η 0) (η 1) (η 2) (η 3) (η 4) (η 5) (η 6) (η 7) (η 8) (κ 0) (κ 1) (κ 2 0) (χ 0) (χ 1) (χ 2 0) (ν 0) (ν 1 0) (ν 2 0) (ν 3 0) (ν 4 0) (ν 5 0)) sz) := by
  refine Met.ofW (cc := prog_1_method_7_code) (maxL := 2) (ret := (some .int)) (by decide) rfl ?_
  intro p e s m args below meth c s₁ B hml hv
  obtain ⟨rfl, hsz, hT, hP, hK, hD0⟩ := hv
  have hx := B.exec
  have hb := B.bytes
  have hr := B.returns
  have hts : ∀ w ∈ lw_ok, w.before ([.ref oM, .int q1] : List Value).toArray s = true := hT.use
  have hown : s.vm.findClass R_Main = some m.cls := findClass_of_methodNamed B.named
  have hlocks := B.notSynchronized
  subst hsz
  have hD := hD0.self (sz := s.heap.size)
  generalize hAe : va_A (w_Main cI cZ mo oM hH hH0 hH1 hH2 hH3 hH4 hH5 hH6 hH7 hH8 kR kR0 kR1 xR xR0 xR1 sS sS0 (ω 0 0) (η 0) (η 1) (η 2) (η 3) (η 4) (η 5) (η 6) (η 7) (η 8) (κ 0) (κ 1) (κ 2 0) (χ 0) (χ 1) (χ 2 0) (ν 0) (ν 1 0) (ν 2 0) (ν 3 0) (ν 4 0) (ν 5 0)) s.heap.size = A at hD ⊢
  have hA : ∀ q : Nat, s.heap.size ≤ q → A q := fun q h => by rw [← hAe]; exact Or.inr h
  have hS : va_S A s.heap s.heap [] := va_S.rf
  have hl := lv_entry ([.ref oM, .int q1]) (n := 2) (Nat.le_of_ble_eq_true rfl)
  rw [lg_entry_eq]
  generalize (lg_sl ([.ref oM, .int q1]) ++ List.replicate (2 - (lg_sl ([.ref oM, .int q1])).length) Slot.unset).toArray = ls at hl ⊢
  have hl : lv_has ls 2 [(0, .ref oM), (1, .int q1)] := hl
  refine lv_iload_n hx hb d_scan_0 rfl (lv_at hl 1 rfl) ?_
  refine xc_S0 (As := [.int q1]) (rest := []) ⟨hx, hb, hml, hown, hts⟩ hT (c_isItem l q1) ⟨xw_B 1 hts mw_174 mw_13 mw_172 rfl rfl (by decide +kernel) ⟨Nat.le_of_ble_eq_true rfl, Nat.le_of_ble_eq_true rfl⟩, hts _ mw_173⟩ rfl hl.1 rfl (Nat.le_of_ble_eq_true rfl) d_scan_1 ⟨Nat.zero_le _, Nat.zero_le _⟩ (fun r hw => ?_)
  subst hw
  refine lv_if_eq (tgt := 18) hx hb d_scan_4 (by decide) (fun c_1 => ?_) (fun c_1 => ?_)
  · refine lv_iconst (v := 0) hx hb d_scan_18 (by decide) ?_
    have hF : F_scan mo ω η κ χ ν q1 = (0, ω, η, κ, χ, ν) := (if_pos c_1).trans rfl
    exact W.iret (v := 0) hx hb hr (fun t ht hW => ⟨⟨0, (ω, η, κ, χ, ν), rfl, ⟨(congrArg Prod.fst hF).symm, (congrArg Prod.snd hF).symm⟩, by rw [ht]; exact hP, hD⟩, hS.F ht⟩) hS.2.2 d_scan_19
  · refine lv_aload_n hx hb d_scan_7 rfl (lv_at hl 0 rfl) ?_
    refine va_get (D := (dC, dI)) (ci := 3) (v := .ref sS) (C := R_Main) (T := T_Main) (N := 5) hx hb hts in_Main hown hK hP 0 rfl rfl 3 (by decide) (hts _ mw_136) (fun _ h9 => h9) rfl d_scan_8 ?_
    refine va_getN (D := (dC, dI)) (ci := 2) (v := .int (ν 2 0)) (C := R_Ses) (T := T_Ses) (N := 6) hx hb hts in_Ses hown hK hP 17 rfl rfl 2 (by decide) (hts _ mw_113) (fun _ h9 => h9) rfl d_scan_11 ?_
    refine lv_iconst (v := 2) hx hb d_scan_14 (by decide) ?_
    refine lv_icmp_eq (tgt := 20) hx hb d_scan_15 (by decide) (fun c_2 => ?_) (fun c_2 => ?_)
    · refine lv_aload_n hx hb d_scan_20 rfl (lv_at hl 0 rfl) ?_
      refine va_get (D := (dC, dI)) (ci := 3) (v := .ref sS) (C := R_Main) (T := T_Main) (N := 5) hx hb hts in_Main hown hK hP 0 rfl rfl 3 (by decide) (hts _ mw_136) (fun _ h9 => h9) rfl d_scan_21 ?_
      refine va_getN (D := (dC, dI)) (ci := 2) (v := .int (ν 4 0)) (C := R_Ses) (T := T_Ses) (N := 6) hx hb hts in_Ses hown hK hP 17 rfl rfl 4 (by decide) (hts _ mw_117) (fun _ h9 => h9) rfl d_scan_24 ?_
      refine lv_iload_n hx hb d_scan_27 rfl (lv_at hl 1 rfl) ?_
      refine lv_icmp_ne (tgt := 33) hx hb d_scan_28 (by decide) (fun c_3 => ?_) (fun c_3 => ?_)
      · refine lv_aload_n hx hb d_scan_33 rfl (lv_at hl 0 rfl) ?_
        refine va_get (D := (dC, dI)) (ci := 3) (v := .ref sS) (C := R_Main) (T := T_Main) (N := 5) hx hb hts in_Main hown hK hP 0 rfl rfl 3 (by decide) (hts _ mw_136) (fun _ h9 => h9) rfl d_scan_34 ?_
        refine lv_iload_n hx hb d_scan_37 rfl (lv_at hl 1 rfl) ?_
        refine va_putN (D := (dC, dI)) (ci := 2) (v := .int q1) (ty := .int) (C := R_Ses) (T := T_Ses) (N := 6) hx hb hts in_Ses ty_Ses tyok_Ses nm_Ses hown hK hP hD hS 17 rfl rfl 4 (by decide) (hts _ mw_117) (fun _ h9 => h9) rfl (by decide +kernel) rfl rfl (Nat.le_of_ble_eq_true rfl) d_scan_38 (fun H locs hP hD hS => ?_)
        have hP : va_P (dC, dI) vwCl (w_Main cI cZ mo oM hH hH0 hH1 hH2 hH3 hH4 hH5 hH6 hH7 hH8 kR kR0 kR1 xR xR0 xR1 sS sS0 (ω 0 0) (η 0) (η 1) (η 2) (η 3) (η 4) (η 5) (η 6) (η 7) (η 8) (κ 0) (κ 1) (κ 2 0) (χ 0) (χ 1) (χ 2 0) (ν 0) (ν 1 0) (ν 2 0) (ν 3 0) q1 (ν 5 0)) H := hP
        have hD : va_D A (w_Main cI cZ mo oM hH hH0 hH1 hH2 hH3 hH4 hH5 hH6 hH7 hH8 kR kR0 kR1 xR xR0 xR1 sS sS0 (ω 0 0) (η 0) (η 1) (η 2) (η 3) (η 4) (η 5) (η 6) (η 7) (η 8) (κ 0) (κ 1) (κ 2 0) (χ 0) (χ 1) (χ 2 0) (ν 0) (ν 1 0) (ν 2 0) (ν 3 0) q1 (ν 5 0)) := hD
        refine lv_aload_n hx hb d_scan_41 rfl (lv_at hl 0 rfl) ?_
        refine va_get (D := (dC, dI)) (ci := 3) (v := .ref sS) (C := R_Main) (T := T_Main) (N := 5) hx hb hts in_Main hown hK hP 0 rfl rfl 3 (by decide) (hts _ mw_136) (fun _ h9 => h9) rfl d_scan_42 ?_
        refine lv_iconst (v := 0) hx hb d_scan_45 (by decide) ?_
        refine va_putN (D := (dC, dI)) (ci := 2) (v := .int 0) (ty := .boolean) (C := R_Ses) (T := T_Ses) (N := 6) hx hb hts in_Ses ty_Ses tyok_Ses nm_Ses hown hK hP hD hS 17 rfl rfl 5 (by decide) (hts _ mw_119) (fun _ h9 => h9) rfl (by decide +kernel) (by decide) rfl (Nat.le_of_ble_eq_true rfl) d_scan_46 (fun H locs hP hD hS => ?_)
        have hP : va_P (dC, dI) vwCl (w_Main cI cZ mo oM hH hH0 hH1 hH2 hH3 hH4 hH5 hH6 hH7 hH8 kR kR0 kR1 xR xR0 xR1 sS sS0 (ω 0 0) (η 0) (η 1) (η 2) (η 3) (η 4) (η 5) (η 6) (η 7) (η 8) (κ 0) (κ 1) (κ 2 0) (χ 0) (χ 1) (χ 2 0) (ν 0) (ν 1 0) (ν 2 0) (ν 3 0) q1 0) H := hP
        have hD : va_D A (w_Main cI cZ mo oM hH hH0 hH1 hH2 hH3 hH4 hH5 hH6 hH7 hH8 kR kR0 kR1 xR xR0 xR1 sS sS0 (ω 0 0) (η 0) (η 1) (η 2) (η 3) (η 4) (η 5) (η 6) (η 7) (η 8) (κ 0) (κ 1) (κ 2 0) (χ 0) (χ 1) (χ 2 0) (ν 0) (ν 1 0) (ν 2 0) (ν 3 0) q1 0) := hD
        refine lv_iconst (v := 1) hx hb d_scan_49 (by decide) ?_
        have hF : F_scan mo ω η κ χ ν q1 = (1, ω, η, κ, χ, (ss (ss ν 4 (fun _ => q1)) 5 (fun _ => 0))) := (if_neg c_1).trans ((if_pos c_2).trans ((if_neg c_3).trans rfl))
        exact W.iret (v := 1) hx hb hr (fun t ht hW => ⟨⟨1, (ω, η, κ, χ, (ss (ss ν 4 (fun _ => q1)) 5 (fun _ => 0))), rfl, ⟨(congrArg Prod.fst hF).symm, (congrArg Prod.snd hF).symm⟩, by rw [ht]; exact hP, hD⟩, hS.F ht⟩) hS.2.2 d_scan_50
      · refine lv_iconst (v := 2) hx hb d_scan_31 (by decide) ?_
        have hF : F_scan mo ω η κ χ ν q1 = (2, ω, η, κ, χ, ν) := (if_neg c_1).trans ((if_pos c_2).trans ((if_pos c_3).trans rfl))
        exact W.iret (v := 2) hx hb hr (fun t ht hW => ⟨⟨2, (ω, η, κ, χ, ν), rfl, ⟨(congrArg Prod.fst hF).symm, (congrArg Prod.snd hF).symm⟩, by rw [ht]; exact hP, hD⟩, hS.F ht⟩) hS.2.2 d_scan_32
    · refine lv_iconst (v := 0) hx hb d_scan_18 (by decide) ?_
      have hF : F_scan mo ω η κ χ ν q1 = (0, ω, η, κ, χ, ν) := (if_neg c_1).trans ((if_neg c_2).trans rfl)
      exact W.iret (v := 0) hx hb hr (fun t ht hW => ⟨⟨0, (ω, η, κ, χ, ν), rfl, ⟨(congrArg Prod.fst hF).symm, (congrArg Prod.snd hF).symm⟩, by rw [ht]; exact hP, hD⟩, hS.F ht⟩) hS.2.2 d_scan_19
def F_twice (mo : Nat) (ω η κ χ ν : SS) : Int32 × SS × SS × SS × SS × SS :=
  if (ν 2 0) = 2 then
    (1, ω, η, κ, χ, (ss ν 4 (fun _ => -1)))
  else
    (0, ω, η, κ, χ, ν)
set_option maxHeartbeats 4000000 in
set_option maxRecDepth 100000 in
theorem c_twice (l : Launch) (dC : Nat → ClassId) (dI : Nat → Nat → Nat) (cI cZ : ClassId) (mo : Nat) (oM hH hH0 hH1 hH2 hH3 hH4 hH5 hH6 hH7 hH8 kR kR0 kR1 xR xR0 xR1 sS sS0 : Nat) (sz : Nat) (ω η κ χ ν : SS) : Met l y_twice [Cond.code y_twice prog_1_method_8_code 1 (some .int)] ({ frames := 0, cells := 0, slots := 0, locals := 0 }) (pcW (dC, dI) (w_Main cI cZ mo oM hH hH0 hH1 hH2 hH3 hH4 hH5 hH6 hH7 hH8 kR kR0 kR1 xR xR0 xR1 sS sS0 (ω 0 0) (η 0) (η 1) (η 2) (η 3) (η 4) (η 5) (η 6) (η 7) (η 8) (κ 0) (κ 1) (κ 2 0) (χ 0) (χ 1) (χ 2 0) (ν 0) (ν 1 0) (ν 2 0) (ν 3 0) (ν 4 0) (ν 5 0)) (tyC cI cZ) sz [.ref oM]) (qI (fun r u => r = (F_twice mo ω η κ χ ν).1 ∧ u = (F_twice mo ω η κ χ ν).2) (dC, dI) (fun u : SS × SS × SS × SS × SS => w_Main cI cZ mo oM hH hH0 hH1 hH2 hH3 hH4 hH5 hH6 hH7 hH8 kR kR0 kR1 xR xR0 xR1 sS sS0 (u.1 0 0) (u.2.1 0) (u.2.1 1) (u.2.1 2) (u.2.1 3) (u.2.1 4) (u.2.1 5) (u.2.1 6) (u.2.1 7) (u.2.1 8) (u.2.2.1 0) (u.2.2.1 1) (u.2.2.1 2 0) (u.2.2.2.1 0) (u.2.2.2.1 1) (u.2.2.2.1 2 0) (u.2.2.2.2 0) (u.2.2.2.2 1 0) (u.2.2.2.2 2 0) (u.2.2.2.2 3 0) (u.2.2.2.2 4 0) (u.2.2.2.2 5 0)) (va_A (w_Main cI cZ mo oM hH hH0 hH1 hH2 hH3 hH4 hH5 hH6 hH7 hH8 kR kR0 kR1 xR xR0 xR1 sS sS0 (ω 0 0) (η 0) (η 1) (η 2) (η 3) (η 4) (η 5) (η 6) (η 7) (η 8) (κ 0) (κ 1) (κ 2 0) (χ 0) (χ 1) (χ 2 0) (ν 0) (ν 1 0) (ν 2 0) (ν 3 0) (ν 4 0) (ν 5 0)) sz)) 0 0 (va_A (w_Main cI cZ mo oM hH hH0 hH1 hH2 hH3 hH4 hH5 hH6 hH7 hH8 kR kR0 kR1 xR xR0 xR1 sS sS0 (ω 0 0) (η 0) (η 1) (η 2) (η 3) (η 4) (η 5) (η 6) (η 7) (η 8) (κ 0) (κ 1) (κ 2 0) (χ 0) (χ 1) (χ 2 0) (ν 0) (ν 1 0) (ν 2 0) (ν 3 0) (ν 4 0) (ν 5 0)) sz) := by
  refine Met.ofW (cc := prog_1_method_8_code) (maxL := 1) (ret := (some .int)) (by decide) rfl ?_
  intro p e s m args below meth c s₁ B hml hv
  obtain ⟨rfl, hsz, hT, hP, hK, hD0⟩ := hv
  have hx := B.exec
  have hb := B.bytes
  have hr := B.returns
  have hts : ∀ w ∈ lw_ok, w.before ([.ref oM] : List Value).toArray s = true := hT.use
  have hown : s.vm.findClass R_Main = some m.cls := findClass_of_methodNamed B.named
  have hlocks := B.notSynchronized
  subst hsz
  have hD := hD0.self (sz := s.heap.size)
  generalize hAe : va_A (w_Main cI cZ mo oM hH hH0 hH1 hH2 hH3 hH4 hH5 hH6 hH7 hH8 kR kR0 kR1 xR xR0 xR1 sS sS0 (ω 0 0) (η 0) (η 1) (η 2) (η 3) (η 4) (η 5) (η 6) (η 7) (η 8) (κ 0) (κ 1) (κ 2 0) (χ 0) (χ 1) (χ 2 0) (ν 0) (ν 1 0) (ν 2 0) (ν 3 0) (ν 4 0) (ν 5 0)) s.heap.size = A at hD ⊢
  have hA : ∀ q : Nat, s.heap.size ≤ q → A q := fun q h => by rw [← hAe]; exact Or.inr h
  have hS : va_S A s.heap s.heap [] := va_S.rf
  have hl := lv_entry ([.ref oM]) (n := 1) (Nat.le_of_ble_eq_true rfl)
  rw [lg_entry_eq]
  generalize (lg_sl ([.ref oM]) ++ List.replicate (1 - (lg_sl ([.ref oM])).length) Slot.unset).toArray = ls at hl ⊢
  have hl : lv_has ls 1 [(0, .ref oM)] := hl
  refine lv_aload_n hx hb d_twice_0 rfl (lv_at hl 0 rfl) ?_
  refine va_get (D := (dC, dI)) (ci := 3) (v := .ref sS) (C := R_Main) (T := T_Main) (N := 5) hx hb hts in_Main hown hK hP 0 rfl rfl 3 (by decide) (hts _ mw_136) (fun _ h9 => h9) rfl d_twice_1 ?_
  refine va_getN (D := (dC, dI)) (ci := 2) (v := .int (ν 2 0)) (C := R_Ses) (T := T_Ses) (N := 6) hx hb hts in_Ses hown hK hP 17 rfl rfl 2 (by decide) (hts _ mw_113) (fun _ h9 => h9) rfl d_twice_4 ?_
  refine lv_iconst (v := 2) hx hb d_twice_7 (by decide) ?_
  refine lv_icmp_eq (tgt := 13) hx hb d_twice_8 (by decide) (fun c_1 => ?_) (fun c_1 => ?_)
  · refine lv_aload_n hx hb d_twice_13 rfl (lv_at hl 0 rfl) ?_
    refine va_get (D := (dC, dI)) (ci := 3) (v := .ref sS) (C := R_Main) (T := T_Main) (N := 5) hx hb hts in_Main hown hK hP 0 rfl rfl 3 (by decide) (hts _ mw_136) (fun _ h9 => h9) rfl d_twice_14 ?_
    refine lv_iconst (v := -1) hx hb d_twice_17 (by decide) ?_
    refine va_putN (D := (dC, dI)) (ci := 2) (v := .int (-1)) (ty := .int) (C := R_Ses) (T := T_Ses) (N := 6) hx hb hts in_Ses ty_Ses tyok_Ses nm_Ses hown hK hP hD hS 17 rfl rfl 4 (by decide) (hts _ mw_117) (fun _ h9 => h9) rfl (by decide +kernel) rfl rfl (Nat.le_of_ble_eq_true rfl) d_twice_18 (fun H locs hP hD hS => ?_)
    have hP : va_P (dC, dI) vwCl (w_Main cI cZ mo oM hH hH0 hH1 hH2 hH3 hH4 hH5 hH6 hH7 hH8 kR kR0 kR1 xR xR0 xR1 sS sS0 (ω 0 0) (η 0) (η 1) (η 2) (η 3) (η 4) (η 5) (η 6) (η 7) (η 8) (κ 0) (κ 1) (κ 2 0) (χ 0) (χ 1) (χ 2 0) (ν 0) (ν 1 0) (ν 2 0) (ν 3 0) (-1) (ν 5 0)) H := hP
    have hD : va_D A (w_Main cI cZ mo oM hH hH0 hH1 hH2 hH3 hH4 hH5 hH6 hH7 hH8 kR kR0 kR1 xR xR0 xR1 sS sS0 (ω 0 0) (η 0) (η 1) (η 2) (η 3) (η 4) (η 5) (η 6) (η 7) (η 8) (κ 0) (κ 1) (κ 2 0) (χ 0) (χ 1) (χ 2 0) (ν 0) (ν 1 0) (ν 2 0) (ν 3 0) (-1) (ν 5 0)) := hD
    refine lv_iconst (v := 1) hx hb d_twice_21 (by decide) ?_
    have hF : F_twice mo ω η κ χ ν = (1, ω, η, κ, χ, (ss ν 4 (fun _ => -1))) := (if_pos c_1).trans rfl
    exact W.iret (v := 1) hx hb hr (fun t ht hW => ⟨⟨1, (ω, η, κ, χ, (ss ν 4 (fun _ => -1))), rfl, ⟨(congrArg Prod.fst hF).symm, (congrArg Prod.snd hF).symm⟩, by rw [ht]; exact hP, hD⟩, hS.F ht⟩) hS.2.2 d_twice_22
  · refine lv_iconst (v := 0) hx hb d_twice_11 (by decide) ?_
    have hF : F_twice mo ω η κ χ ν = (0, ω, η, κ, χ, ν) := (if_neg c_1).trans rfl
    exact W.iret (v := 0) hx hb hr (fun t ht hW => ⟨⟨0, (ω, η, κ, χ, ν), rfl, ⟨(congrArg Prod.fst hF).symm, (congrArg Prod.snd hF).symm⟩, by rw [ht]; exact hP, hD⟩, hS.F ht⟩) hS.2.2 d_twice_12
def F_lend (mo : Nat) (ω η κ χ ν : SS) : Int32 × SS × SS × SS × SS × SS :=
  if (ν 2 0) = 2 then
    if (F_hasI ν) = 0 then
      (-1, ω, η, κ, χ, ν)
    else
      if (ω 0 0) = 0 then
        if (F_refu η (ν 4 0) (ν 3 0)) = 0 then
          ((F_addL ν) 1 0, ω, (F_giveO η (ν 4 0) (ν 3 0)), κ, χ, (F_addL ν))
        else
          (F_refu η (ν 4 0) (ν 3 0), ω, η, κ, χ, ν)
      else
        if (F_refO mo ω η κ χ ν) = 0 then
          ((F_addL ν) 1 0, ω, (ss η 6 (upd (η 6) (ν 4 0).toNatClampNeg (vp_nar .boolean 0))), (F_rAdd mo κ (ν 4 0) (ν 3 0)), χ, (F_addL ν))
        else
          (F_refO mo ω η κ χ ν, ω, η, κ, χ, ν)
  else
    (-8, ω, η, κ, χ, ν)
set_option maxHeartbeats 4000000 in
set_option maxRecDepth 100000 in
theorem c_lend (l : Launch) (dC : Nat → ClassId) (dI : Nat → Nat → Nat) (cI cZ : ClassId) (mo : Nat) (oM hH hH0 hH1 hH2 hH3 hH4 hH5 hH6 hH7 hH8 kR kR0 kR1 xR xR0 xR1 sS sS0 : Nat) (sz : Nat) (ω η κ χ ν : SS) (hI : CInv mo ω η κ χ ν) : Met l y_lend [Cond.code y_lend prog_1_method_9_code 2 (some .int)] ({ frames := 3, cells := 0, slots := 0, locals := 64 }) (pcW (dC, dI) (w_Main cI cZ mo oM hH hH0 hH1 hH2 hH3 hH4 hH5 hH6 hH7 hH8 kR kR0 kR1 xR xR0 xR1 sS sS0 (ω 0 0) (η 0) (η 1) (η 2) (η 3) (η 4) (η 5) (η 6) (η 7) (η 8) (κ 0) (κ 1) (κ 2 0) (χ 0) (χ 1) (χ 2 0) (ν 0) (ν 1 0) (ν 2 0) (ν 3 0) (ν 4 0) (ν 5 0)) (tyC cI cZ) sz [.ref oM]) (qI (fun r u => r = (F_lend mo ω η κ χ ν).1 ∧ u = (F_lend mo ω η κ χ ν).2) (dC, dI) (fun u : SS × SS × SS × SS × SS => w_Main cI cZ mo oM hH hH0 hH1 hH2 hH3 hH4 hH5 hH6 hH7 hH8 kR kR0 kR1 xR xR0 xR1 sS sS0 (u.1 0 0) (u.2.1 0) (u.2.1 1) (u.2.1 2) (u.2.1 3) (u.2.1 4) (u.2.1 5) (u.2.1 6) (u.2.1 7) (u.2.1 8) (u.2.2.1 0) (u.2.2.1 1) (u.2.2.1 2 0) (u.2.2.2.1 0) (u.2.2.2.1 1) (u.2.2.2.1 2 0) (u.2.2.2.2 0) (u.2.2.2.2 1 0) (u.2.2.2.2 2 0) (u.2.2.2.2 3 0) (u.2.2.2.2 4 0) (u.2.2.2.2 5 0)) (va_A (w_Main cI cZ mo oM hH hH0 hH1 hH2 hH3 hH4 hH5 hH6 hH7 hH8 kR kR0 kR1 xR xR0 xR1 sS sS0 (ω 0 0) (η 0) (η 1) (η 2) (η 3) (η 4) (η 5) (η 6) (η 7) (η 8) (κ 0) (κ 1) (κ 2 0) (χ 0) (χ 1) (χ 2 0) (ν 0) (ν 1 0) (ν 2 0) (ν 3 0) (ν 4 0) (ν 5 0)) sz)) 0 0 (va_A (w_Main cI cZ mo oM hH hH0 hH1 hH2 hH3 hH4 hH5 hH6 hH7 hH8 kR kR0 kR1 xR xR0 xR1 sS sS0 (ω 0 0) (η 0) (η 1) (η 2) (η 3) (η 4) (η 5) (η 6) (η 7) (η 8) (κ 0) (κ 1) (κ 2 0) (χ 0) (χ 1) (χ 2 0) (ν 0) (ν 1 0) (ν 2 0) (ν 3 0) (ν 4 0) (ν 5 0)) sz) := by
  refine Met.ofW (cc := prog_1_method_9_code) (maxL := 2) (ret := (some .int)) (by decide) rfl ?_
  intro p e s m args below meth c s₁ B hml hv
  obtain ⟨rfl, hsz, hT, hP, hK, hD0⟩ := hv
  have hx := B.exec
  have hb := B.bytes
  have hr := B.returns
  have hts : ∀ w ∈ lw_ok, w.before ([.ref oM] : List Value).toArray s = true := hT.use
  have hown : s.vm.findClass R_Main = some m.cls := findClass_of_methodNamed B.named
  have hlocks := B.notSynchronized
  subst hsz
  have hD := hD0.self (sz := s.heap.size)
  generalize hAe : va_A (w_Main cI cZ mo oM hH hH0 hH1 hH2 hH3 hH4 hH5 hH6 hH7 hH8 kR kR0 kR1 xR xR0 xR1 sS sS0 (ω 0 0) (η 0) (η 1) (η 2) (η 3) (η 4) (η 5) (η 6) (η 7) (η 8) (κ 0) (κ 1) (κ 2 0) (χ 0) (χ 1) (χ 2 0) (ν 0) (ν 1 0) (ν 2 0) (ν 3 0) (ν 4 0) (ν 5 0)) s.heap.size = A at hD ⊢
  have hA : ∀ q : Nat, s.heap.size ≤ q → A q := fun q h => by rw [← hAe]; exact Or.inr h
  have hS : va_S A s.heap s.heap [] := va_S.rf
  have hl := lv_entry ([.ref oM]) (n := 2) (Nat.le_of_ble_eq_true rfl)
  rw [lg_entry_eq]
  generalize (lg_sl ([.ref oM]) ++ List.replicate (2 - (lg_sl ([.ref oM])).length) Slot.unset).toArray = ls at hl ⊢
  have hl : lv_has ls 2 [(0, .ref oM)] := hl
  obtain ⟨hmo, hof, hre, hlo, hlk, hkc, hxc, hpe, hla, hlc⟩ := id hI
  refine lv_aload_n hx hb d_lend_0 rfl (lv_at hl 0 rfl) ?_
  refine va_get (D := (dC, dI)) (ci := 3) (v := .ref sS) (C := R_Main) (T := T_Main) (N := 5) hx hb hts in_Main hown hK hP 0 rfl rfl 3 (by decide) (hts _ mw_136) (fun _ h9 => h9) rfl d_lend_1 ?_
  refine va_getN (D := (dC, dI)) (ci := 2) (v := .int (ν 2 0)) (C := R_Ses) (T := T_Ses) (N := 6) hx hb hts in_Ses hown hK hP 17 rfl rfl 2 (by decide) (hts _ mw_113) (fun _ h9 => h9) rfl d_lend_4 ?_
  refine lv_iconst (v := 2) hx hb d_lend_7 (by decide) ?_
  refine lv_icmp_eq (tgt := 14) hx hb d_lend_8 (by decide) (fun c_1 => ?_) (fun c_1 => ?_)
  · refine lv_aload_n hx hb d_lend_14 rfl (lv_at hl 0 rfl) ?_
    refine va_get (D := (dC, dI)) (ci := 3) (v := .ref sS) (C := R_Main) (T := T_Main) (N := 5) hx hb hts in_Main hown hK hP 0 rfl rfl 3 (by decide) (hts _ mw_136) (fun _ h9 => h9) rfl d_lend_15 ?_
    refine xc_VR (As := []) (rest := []) (ci := 2) ⟨hx, hb, hml, hown, hts⟩ hT hK hP (c_hasI l dC dI cI cZ sS sS0 ν) [17, 18] rfl (xw_V 0 hts mw_211 mw_18 mw_208 mw_209 mw_210 rfl rfl (by decide +kernel) ⟨Nat.le_of_ble_eq_true rfl, Nat.le_of_ble_eq_true rfl⟩) rfl rfl rfl hl.1 rfl (Nat.le_of_ble_eq_true rfl) d_lend_18 ⟨Nat.zero_le _, Nat.zero_le _⟩ (fun r hw => ?_)
    subst hw
    refine lv_if_ne (tgt := 26) hx hb d_lend_21 (by decide) (fun c_2 => ?_) (fun c_2 => ?_)
    · refine lv_aload_n hx hb d_lend_26 rfl (lv_at hl 0 rfl) ?_
      refine va_get (D := (dC, dI)) (ci := 3) (v := .int (ω 0 0)) (C := R_Main) (T := T_Main) (N := 5) hx hb hts in_Main hown hK hP 0 rfl rfl 4 (by decide) (hts _ mw_137) (fun _ h9 => h9) rfl d_lend_27 ?_
      refine lv_if_eq (tgt := 40) hx hb d_lend_30 (by decide) (fun c_3 => ?_) (fun c_3 => ?_)
      · refine lv_aload_n hx hb d_lend_40 rfl (lv_at hl 0 rfl) ?_
        refine va_get (D := (dC, dI)) (ci := 3) (v := .ref hH) (C := R_Main) (T := T_Main) (N := 5) hx hb hts in_Main hown hK hP 0 rfl rfl 0 (by decide) (hts _ mw_133) (fun _ h9 => h9) rfl d_lend_41 ?_
        refine lv_aload_n hx hb d_lend_44 rfl (lv_at hl 0 rfl) ?_
        refine va_get (D := (dC, dI)) (ci := 3) (v := .ref sS) (C := R_Main) (T := T_Main) (N := 5) hx hb hts in_Main hown hK hP 0 rfl rfl 3 (by decide) (hts _ mw_136) (fun _ h9 => h9) rfl d_lend_45 ?_
        refine va_getN (D := (dC, dI)) (ci := 2) (v := .int (ν 4 0)) (C := R_Ses) (T := T_Ses) (N := 6) hx hb hts in_Ses hown hK hP 17 rfl rfl 4 (by decide) (hts _ mw_117) (fun _ h9 => h9) rfl d_lend_48 ?_
        refine lv_aload_n hx hb d_lend_51 rfl (lv_at hl 0 rfl) ?_
        refine va_get (D := (dC, dI)) (ci := 3) (v := .ref sS) (C := R_Main) (T := T_Main) (N := 5) hx hb hts in_Main hown hK hP 0 rfl rfl 3 (by decide) (hts _ mw_136) (fun _ h9 => h9) rfl d_lend_52 ?_
        refine va_getN (D := (dC, dI)) (ci := 2) (v := .int (ν 3 0)) (C := R_Ses) (T := T_Ses) (N := 6) hx hb hts in_Ses hown hK hP 17 rfl rfl 3 (by decide) (hts _ mw_115) (fun _ h9 => h9) rfl d_lend_55 ?_
        refine xc_VR (As := [.int (ν 4 0), .int (ν 3 0)]) (rest := []) (ci := 0) ⟨hx, hb, hml, hown, hts⟩ hT hK hP (c_refu l dC dI cI cZ hH hH0 hH1 hH2 hH3 hH4 hH5 hH6 hH7 hH8 η (ν 4 0) (ν 3 0) (by first | assumption | exact hla.resolve_left (hasI_ne ‹_›) | exact kb hkc | exact lc0 hlc | exact hlo _ (clt (hla.resolve_left (hasI_ne ‹_›)))) (by first | assumption | exact hla.resolve_left (hasI_ne ‹_›) | exact kb hkc | exact lc0 hlc | exact hlo _ (clt (hla.resolve_left (hasI_ne ‹_›))))) [1, 2, 3, 4, 5, 6, 7, 8, 9, 10] rfl (xw_V 2 hts mw_223 mw_15 mw_220 mw_221 mw_222 rfl rfl (by decide +kernel) ⟨Nat.le_of_ble_eq_true rfl, Nat.le_of_ble_eq_true rfl⟩) rfl rfl rfl hl.1 rfl (Nat.le_of_ble_eq_true rfl) d_lend_58 ⟨Nat.zero_le _, Nat.zero_le _⟩ (fun r hw => ?_)
        subst hw
        refine lv_istore_n (lv' := [(1, .int (F_refu η (ν 4 0) (ν 3 0))), (0, .ref oM)]) hx hb d_lend_61 rfl hl (by decide) rfl (fun ls hl => ?_)
        refine lv_iload_n hx hb d_lend_62 rfl (lv_at hl 0 rfl) ?_
        refine lv_if_eq (tgt := 68) hx hb d_lend_63 (by decide) (fun c_4 => ?_) (fun c_4 => ?_)
        · refine lv_aload_n hx hb d_lend_68 rfl (lv_at hl 1 rfl) ?_
          refine va_get (D := (dC, dI)) (ci := 3) (v := .int (ω 0 0)) (C := R_Main) (T := T_Main) (N := 5) hx hb hts in_Main hown hK hP 0 rfl rfl 4 (by decide) (hts _ mw_137) (fun _ h9 => h9) rfl d_lend_69 ?_
          refine lv_if_eq (tgt := 115) hx hb d_lend_72 (by decide) (fun c_5 => ?_) (fun c_5 => ?_)
          rotate_left
          · exact absurd c_3 c_5
          refine lv_aload_n hx hb d_lend_115 rfl (lv_at hl 1 rfl) ?_
          refine va_get (D := (dC, dI)) (ci := 3) (v := .ref hH) (C := R_Main) (T := T_Main) (N := 5) hx hb hts in_Main hown hK hP 0 rfl rfl 0 (by decide) (hts _ mw_133) (fun _ h9 => h9) rfl d_lend_116 ?_
          refine lv_aload_n hx hb d_lend_119 rfl (lv_at hl 1 rfl) ?_
          refine va_get (D := (dC, dI)) (ci := 3) (v := .ref sS) (C := R_Main) (T := T_Main) (N := 5) hx hb hts in_Main hown hK hP 0 rfl rfl 3 (by decide) (hts _ mw_136) (fun _ h9 => h9) rfl d_lend_120 ?_
          refine va_getN (D := (dC, dI)) (ci := 2) (v := .int (ν 4 0)) (C := R_Ses) (T := T_Ses) (N := 6) hx hb hts in_Ses hown hK hP 17 rfl rfl 4 (by decide) (hts _ mw_117) (fun _ h9 => h9) rfl d_lend_123 ?_
          refine lv_aload_n hx hb d_lend_126 rfl (lv_at hl 1 rfl) ?_
          refine va_get (D := (dC, dI)) (ci := 3) (v := .ref sS) (C := R_Main) (T := T_Main) (N := 5) hx hb hts in_Main hown hK hP 0 rfl rfl 3 (by decide) (hts _ mw_136) (fun _ h9 => h9) rfl d_lend_127 ?_
          refine va_getN (D := (dC, dI)) (ci := 2) (v := .int (ν 3 0)) (C := R_Ses) (T := T_Ses) (N := 6) hx hb hts in_Ses hown hK hP 17 rfl rfl 3 (by decide) (hts _ mw_115) (fun _ h9 => h9) rfl d_lend_130 ?_
          refine xc_VWv (As := [.int (ν 4 0), .int (ν 3 0)]) (rest := []) (ci := 0) (wr := (r_Main_H cI cZ mo oM hH hH0 hH1 hH2 hH3 hH4 hH5 hH6 hH7 hH8 kR kR0 kR1 xR xR0 xR1 sS sS0 (ω 0 0) (η 0) (η 1) (η 2) (η 3) (η 4) (η 5) (η 6) (η 7) (η 8) (κ 0) (κ 1) (κ 2 0) (χ 0) (χ 1) (χ 2 0) (ν 0) (ν 1 0) (ν 2 0) (ν 3 0) (ν 4 0) (ν 5 0))) ⟨hx, hb, hml, hown, hts⟩ hT hK hP hD hS hA (c_giveO l dC dI cI cZ hH hH0 hH1 hH2 hH3 hH4 hH5 hH6 hH7 hH8 s.heap.size η (ν 4 0) (ν 3 0) (by first | assumption | exact hla.resolve_left (hasI_ne ‹_›) | exact kb hkc | exact lc0 hlc | exact hlo _ (clt (hla.resolve_left (hasI_ne ‹_›)))) (by first | assumption | exact hla.resolve_left (hasI_ne ‹_›) | exact kb hkc | exact lc0 hlc | exact hlo _ (clt (hla.resolve_left (hasI_ne ‹_›))))) [1, 2, 3, 4, 5, 6, 7, 8, 9, 10] [0, 11, 12, 13, 14, 15, 16, 17, 18] rfl (by decide) rfl (by decide) (by decide) (xw_V 2 hts mw_237 mw_15 mw_234 mw_235 mw_236 rfl rfl (by decide +kernel) ⟨Nat.le_of_ble_eq_true rfl, Nat.le_of_ble_eq_true rfl⟩) rfl rfl rfl hl.1 rfl (Nat.le_of_ble_eq_true rfl) d_lend_133 ⟨Nat.zero_le _, Nat.zero_le _⟩ (fun u H locs hw hP hD hS => ?_)
          obtain rfl := hw
          have hP : va_P (dC, dI) vwCl (w_Main cI cZ mo oM hH hH0 hH1 hH2 hH3 hH4 hH5 hH6 hH7 hH8 kR kR0 kR1 xR xR0 xR1 sS sS0 (ω 0 0) ((F_giveO η (ν 4 0) (ν 3 0)) 0) ((F_giveO η (ν 4 0) (ν 3 0)) 1) ((F_giveO η (ν 4 0) (ν 3 0)) 2) ((F_giveO η (ν 4 0) (ν 3 0)) 3) ((F_giveO η (ν 4 0) (ν 3 0)) 4) ((F_giveO η (ν 4 0) (ν 3 0)) 5) ((F_giveO η (ν 4 0) (ν 3 0)) 6) ((F_giveO η (ν 4 0) (ν 3 0)) 7) ((F_giveO η (ν 4 0) (ν 3 0)) 8) (κ 0) (κ 1) (κ 2 0) (χ 0) (χ 1) (χ 2 0) (ν 0) (ν 1 0) (ν 2 0) (ν 3 0) (ν 4 0) (ν 5 0)) H := hP.sub [0, 9, 10, 11, 12, 13, 14, 15, 16, 17, 18, 1, 2, 3, 4, 5, 6, 7, 8] rfl
          have hD : va_D A (w_Main cI cZ mo oM hH hH0 hH1 hH2 hH3 hH4 hH5 hH6 hH7 hH8 kR kR0 kR1 xR xR0 xR1 sS sS0 (ω 0 0) ((F_giveO η (ν 4 0) (ν 3 0)) 0) ((F_giveO η (ν 4 0) (ν 3 0)) 1) ((F_giveO η (ν 4 0) (ν 3 0)) 2) ((F_giveO η (ν 4 0) (ν 3 0)) 3) ((F_giveO η (ν 4 0) (ν 3 0)) 4) ((F_giveO η (ν 4 0) (ν 3 0)) 5) ((F_giveO η (ν 4 0) (ν 3 0)) 6) ((F_giveO η (ν 4 0) (ν 3 0)) 7) ((F_giveO η (ν 4 0) (ν 3 0)) 8) (κ 0) (κ 1) (κ 2 0) (χ 0) (χ 1) (χ 2 0) (ν 0) (ν 1 0) (ν 2 0) (ν 3 0) (ν 4 0) (ν 5 0)) := hD.sub [0, 9, 10, 11, 12, 13, 14, 15, 16, 17, 18, 1, 2, 3, 4, 5, 6, 7, 8] (by decide) rfl
          refine lv_aload_n hx hb d_lend_136 rfl (lv_at hl 1 rfl) ?_
          refine va_get (D := (dC, dI)) (ci := 3) (v := .ref sS) (C := R_Main) (T := T_Main) (N := 5) hx hb hts in_Main hown hK hP 0 rfl rfl 3 (by decide) (hts _ mw_136) (fun _ h9 => h9) rfl d_lend_137 ?_
          refine xc_VWv (As := []) (rest := []) (ci := 2) (wr := (r_Main_S cI cZ mo oM hH hH0 hH1 hH2 hH3 hH4 hH5 hH6 hH7 hH8 kR kR0 kR1 xR xR0 xR1 sS sS0 (ω 0 0) ((F_giveO η (ν 4 0) (ν 3 0)) 0) ((F_giveO η (ν 4 0) (ν 3 0)) 1) ((F_giveO η (ν 4 0) (ν 3 0)) 2) ((F_giveO η (ν 4 0) (ν 3 0)) 3) ((F_giveO η (ν 4 0) (ν 3 0)) 4) ((F_giveO η (ν 4 0) (ν 3 0)) 5) ((F_giveO η (ν 4 0) (ν 3 0)) 6) ((F_giveO η (ν 4 0) (ν 3 0)) 7) ((F_giveO η (ν 4 0) (ν 3 0)) 8) (κ 0) (κ 1) (κ 2 0) (χ 0) (χ 1) (χ 2 0) (ν 0) (ν 1 0) (ν 2 0) (ν 3 0) (ν 4 0) (ν 5 0))) ⟨hx, hb, hml, hown, hts⟩ hT hK hP hD hS hA (c_addL l dC dI cI cZ sS sS0 H.size ν (by first | assumption | exact hla.resolve_left (hasI_ne ‹_›) | exact kb hkc | exact lc0 hlc | exact hlo _ (clt (hla.resolve_left (hasI_ne ‹_›))))) [17, 18] [0, 1, 2, 3, 4, 5, 6, 7, 8, 9, 10, 11, 12, 13, 14, 15, 16] rfl (by decide) rfl (by decide) (by decide) (xw_V 0 hts mw_241 mw_18 mw_238 mw_239 mw_240 rfl rfl (by decide +kernel) ⟨Nat.le_of_ble_eq_true rfl, Nat.le_of_ble_eq_true rfl⟩) rfl rfl rfl hl.1 rfl (Nat.le_of_ble_eq_true rfl) d_lend_140 ⟨Nat.zero_le _, Nat.zero_le _⟩ (fun u H locs hw hP hD hS => ?_)
          obtain rfl := hw
          have hP : va_P (dC, dI) vwCl (w_Main cI cZ mo oM hH hH0 hH1 hH2 hH3 hH4 hH5 hH6 hH7 hH8 kR kR0 kR1 xR xR0 xR1 sS sS0 (ω 0 0) ((F_giveO η (ν 4 0) (ν 3 0)) 0) ((F_giveO η (ν 4 0) (ν 3 0)) 1) ((F_giveO η (ν 4 0) (ν 3 0)) 2) ((F_giveO η (ν 4 0) (ν 3 0)) 3) ((F_giveO η (ν 4 0) (ν 3 0)) 4) ((F_giveO η (ν 4 0) (ν 3 0)) 5) ((F_giveO η (ν 4 0) (ν 3 0)) 6) ((F_giveO η (ν 4 0) (ν 3 0)) 7) ((F_giveO η (ν 4 0) (ν 3 0)) 8) (κ 0) (κ 1) (κ 2 0) (χ 0) (χ 1) (χ 2 0) ((F_addL ν) 0) ((F_addL ν) 1 0) ((F_addL ν) 2 0) ((F_addL ν) 3 0) ((F_addL ν) 4 0) ((F_addL ν) 5 0)) H := hP.sub [0, 1, 2, 3, 4, 5, 6, 7, 8, 9, 10, 11, 12, 13, 14, 15, 16, 17, 18] rfl
          have hD : va_D A (w_Main cI cZ mo oM hH hH0 hH1 hH2 hH3 hH4 hH5 hH6 hH7 hH8 kR kR0 kR1 xR xR0 xR1 sS sS0 (ω 0 0) ((F_giveO η (ν 4 0) (ν 3 0)) 0) ((F_giveO η (ν 4 0) (ν 3 0)) 1) ((F_giveO η (ν 4 0) (ν 3 0)) 2) ((F_giveO η (ν 4 0) (ν 3 0)) 3) ((F_giveO η (ν 4 0) (ν 3 0)) 4) ((F_giveO η (ν 4 0) (ν 3 0)) 5) ((F_giveO η (ν 4 0) (ν 3 0)) 6) ((F_giveO η (ν 4 0) (ν 3 0)) 7) ((F_giveO η (ν 4 0) (ν 3 0)) 8) (κ 0) (κ 1) (κ 2 0) (χ 0) (χ 1) (χ 2 0) ((F_addL ν) 0) ((F_addL ν) 1 0) ((F_addL ν) 2 0) ((F_addL ν) 3 0) ((F_addL ν) 4 0) ((F_addL ν) 5 0)) := hD.sub [0, 1, 2, 3, 4, 5, 6, 7, 8, 9, 10, 11, 12, 13, 14, 15, 16, 17, 18] (by decide) rfl
          refine lv_aload_n hx hb d_lend_143 rfl (lv_at hl 1 rfl) ?_
          refine va_get (D := (dC, dI)) (ci := 3) (v := .ref sS) (C := R_Main) (T := T_Main) (N := 5) hx hb hts in_Main hown hK hP 0 rfl rfl 3 (by decide) (hts _ mw_136) (fun _ h9 => h9) rfl d_lend_144 ?_
          refine va_getN (D := (dC, dI)) (ci := 2) (v := .int ((F_addL ν) 1 0)) (C := R_Ses) (T := T_Ses) (N := 6) hx hb hts in_Ses hown hK hP 17 rfl rfl 1 (by decide) (hts _ mw_111) (fun _ h9 => h9) rfl d_lend_147 ?_
          have hF : F_lend mo ω η κ χ ν = ((F_addL ν) 1 0, ω, (F_giveO η (ν 4 0) (ν 3 0)), κ, χ, (F_addL ν)) := (if_pos c_1).trans ((if_neg c_2).trans ((if_pos c_3).trans ((if_pos c_4).trans rfl)))
          exact W.iret (v := (F_addL ν) 1 0) hx hb hr (fun t ht hW => ⟨⟨(F_addL ν) 1 0, (ω, (F_giveO η (ν 4 0) (ν 3 0)), κ, χ, (F_addL ν)), rfl, ⟨(congrArg Prod.fst hF).symm, (congrArg Prod.snd hF).symm⟩, by rw [ht]; exact hP, hD⟩, hS.F ht⟩) hS.2.2 d_lend_150
        · refine lv_iload_n hx hb d_lend_66 rfl (lv_at hl 0 rfl) ?_
          have hF : F_lend mo ω η κ χ ν = (F_refu η (ν 4 0) (ν 3 0), ω, η, κ, χ, ν) := (if_pos c_1).trans ((if_neg c_2).trans ((if_pos c_3).trans ((if_neg c_4).trans rfl)))
          exact W.iret (v := F_refu η (ν 4 0) (ν 3 0)) hx hb hr (fun t ht hW => ⟨⟨F_refu η (ν 4 0) (ν 3 0), (ω, η, κ, χ, ν), rfl, ⟨(congrArg Prod.fst hF).symm, (congrArg Prod.snd hF).symm⟩, by rw [ht]; exact hP, hD⟩, hS.F ht⟩) hS.2.2 d_lend_67
      · refine lv_aload_n hx hb d_lend_33 rfl (lv_at hl 0 rfl) ?_
        refine xc_VR (As := []) (rest := []) (ci := 3) ⟨hx, hb, hml, hown, hts⟩ hT hK hP (c_refO l dC dI cI cZ mo oM hH hH0 hH1 hH2 hH3 hH4 hH5 hH6 hH7 hH8 kR kR0 kR1 xR xR0 xR1 sS sS0 ω η κ χ ν) [0, 1, 2, 3, 4, 5, 6, 7, 8, 9, 10, 11, 12, 13, 14, 15, 16, 17, 18] rfl (xw_V 0 hts mw_215 mw_13 mw_212 mw_214 mw_1 rfl rfl (by decide +kernel) ⟨Nat.le_of_ble_eq_true rfl, Nat.le_of_ble_eq_true rfl⟩) rfl rfl rfl hl.1 rfl (Nat.le_of_ble_eq_true rfl) d_lend_34 ⟨Nat.zero_le _, Nat.zero_le _⟩ (fun r hw => ?_)
        subst hw
        refine lv_goto (tgt := 61) hx hb d_lend_37 (by decide) ?_
        refine lv_istore_n (lv' := [(1, .int (F_refO mo ω η κ χ ν)), (0, .ref oM)]) hx hb d_lend_61 rfl hl (by decide) rfl (fun ls hl => ?_)
        refine lv_iload_n hx hb d_lend_62 rfl (lv_at hl 0 rfl) ?_
        refine lv_if_eq (tgt := 68) hx hb d_lend_63 (by decide) (fun c_6 => ?_) (fun c_6 => ?_)
        · refine lv_aload_n hx hb d_lend_68 rfl (lv_at hl 1 rfl) ?_
          refine va_get (D := (dC, dI)) (ci := 3) (v := .int (ω 0 0)) (C := R_Main) (T := T_Main) (N := 5) hx hb hts in_Main hown hK hP 0 rfl rfl 4 (by decide) (hts _ mw_137) (fun _ h9 => h9) rfl d_lend_69 ?_
          refine lv_if_eq (tgt := 115) hx hb d_lend_72 (by decide) (fun c_7 => ?_) (fun c_7 => ?_)
          · exact absurd c_7 c_3
          refine lv_aload_n hx hb d_lend_75 rfl (lv_at hl 1 rfl) ?_
          refine va_get (D := (dC, dI)) (ci := 3) (v := .ref kR) (C := R_Main) (T := T_Main) (N := 5) hx hb hts in_Main hown hK hP 0 rfl rfl 1 (by decide) (hts _ mw_134) (fun _ h9 => h9) rfl d_lend_76 ?_
          refine lv_aload_n hx hb d_lend_79 rfl (lv_at hl 1 rfl) ?_
          refine va_get (D := (dC, dI)) (ci := 3) (v := .ref sS) (C := R_Main) (T := T_Main) (N := 5) hx hb hts in_Main hown hK hP 0 rfl rfl 3 (by decide) (hts _ mw_136) (fun _ h9 => h9) rfl d_lend_80 ?_
          refine va_getN (D := (dC, dI)) (ci := 2) (v := .int (ν 4 0)) (C := R_Ses) (T := T_Ses) (N := 6) hx hb hts in_Ses hown hK hP 17 rfl rfl 4 (by decide) (hts _ mw_117) (fun _ h9 => h9) rfl d_lend_83 ?_
          refine lv_aload_n hx hb d_lend_86 rfl (lv_at hl 1 rfl) ?_
          refine va_get (D := (dC, dI)) (ci := 3) (v := .ref sS) (C := R_Main) (T := T_Main) (N := 5) hx hb hts in_Main hown hK hP 0 rfl rfl 3 (by decide) (hts _ mw_136) (fun _ h9 => h9) rfl d_lend_87 ?_
          refine va_getN (D := (dC, dI)) (ci := 2) (v := .int (ν 3 0)) (C := R_Ses) (T := T_Ses) (N := 6) hx hb hts in_Ses hown hK hP 17 rfl rfl 3 (by decide) (hts _ mw_115) (fun _ h9 => h9) rfl d_lend_90 ?_
          refine xc_VWv (As := [.int (ν 4 0), .int (ν 3 0)]) (rest := []) (ci := 1) (wr := (r_Main_K cI cZ mo oM hH hH0 hH1 hH2 hH3 hH4 hH5 hH6 hH7 hH8 kR kR0 kR1 xR xR0 xR1 sS sS0 (ω 0 0) (η 0) (η 1) (η 2) (η 3) (η 4) (η 5) (η 6) (η 7) (η 8) (κ 0) (κ 1) (κ 2 0) (χ 0) (χ 1) (χ 2 0) (ν 0) (ν 1 0) (ν 2 0) (ν 3 0) (ν 4 0) (ν 5 0))) ⟨hx, hb, hml, hown, hts⟩ hT hK hP hD hS hA (c_rAdd l dC dI cI cZ mo kR kR0 kR1 s.heap.size κ (ν 4 0) (ν 3 0) (by first | assumption | exact hla.resolve_left (hasI_ne ‹_›) | exact kb hkc | exact lc0 hlc | exact hlo _ (clt (hla.resolve_left (hasI_ne ‹_›)))) (by first | assumption | exact hla.resolve_left (hasI_ne ‹_›) | exact kb hkc | exact lc0 hlc | exact hlo _ (clt (hla.resolve_left (hasI_ne ‹_›))))) [11, 12, 13] [0, 1, 2, 3, 4, 5, 6, 7, 8, 9, 10, 14, 15, 16, 17, 18] rfl (by decide) rfl (by decide) (by decide) (xw_V 2 hts mw_232 mw_17 mw_229 mw_230 mw_231 rfl rfl (by decide +kernel) ⟨Nat.le_of_ble_eq_true rfl, Nat.le_of_ble_eq_true rfl⟩) rfl rfl rfl hl.1 rfl (Nat.le_of_ble_eq_true rfl) d_lend_93 ⟨Nat.zero_le _, Nat.zero_le _⟩ (fun u H locs hw hP hD hS => ?_)
          obtain rfl := hw
          have hP : va_P (dC, dI) vwCl (w_Main cI cZ mo oM hH hH0 hH1 hH2 hH3 hH4 hH5 hH6 hH7 hH8 kR kR0 kR1 xR xR0 xR1 sS sS0 (ω 0 0) (η 0) (η 1) (η 2) (η 3) (η 4) (η 5) (η 6) (η 7) (η 8) ((F_rAdd mo κ (ν 4 0) (ν 3 0)) 0) ((F_rAdd mo κ (ν 4 0) (ν 3 0)) 1) ((F_rAdd mo κ (ν 4 0) (ν 3 0)) 2 0) (χ 0) (χ 1) (χ 2 0) (ν 0) (ν 1 0) (ν 2 0) (ν 3 0) (ν 4 0) (ν 5 0)) H := hP.sub [0, 1, 2, 3, 4, 5, 6, 7, 8, 9, 10, 16, 17, 18, 11, 12, 13, 14, 15] rfl
          have hD : va_D A (w_Main cI cZ mo oM hH hH0 hH1 hH2 hH3 hH4 hH5 hH6 hH7 hH8 kR kR0 kR1 xR xR0 xR1 sS sS0 (ω 0 0) (η 0) (η 1) (η 2) (η 3) (η 4) (η 5) (η 6) (η 7) (η 8) ((F_rAdd mo κ (ν 4 0) (ν 3 0)) 0) ((F_rAdd mo κ (ν 4 0) (ν 3 0)) 1) ((F_rAdd mo κ (ν 4 0) (ν 3 0)) 2 0) (χ 0) (χ 1) (χ 2 0) (ν 0) (ν 1 0) (ν 2 0) (ν 3 0) (ν 4 0) (ν 5 0)) := hD.sub [0, 1, 2, 3, 4, 5, 6, 7, 8, 9, 10, 16, 17, 18, 11, 12, 13, 14, 15] (by decide) rfl
          refine lv_aload_n hx hb d_lend_96 rfl (lv_at hl 1 rfl) ?_
          refine va_get (D := (dC, dI)) (ci := 3) (v := .ref hH) (C := R_Main) (T := T_Main) (N := 5) hx hb hts in_Main hown hK hP 0 rfl rfl 0 (by decide) (hts _ mw_133) (fun _ h9 => h9) rfl d_lend_97 ?_
          refine va_getN (D := (dC, dI)) (ci := 0) (v := .ref hH6) (C := R_House) (T := T_House) (N := 9) hx hb hts in_House hown hK hP 1 rfl rfl 6 (by decide) (hts _ mw_56) (fun _ h9 => h9) rfl d_lend_100 ?_
          refine lv_aload_n hx hb d_lend_103 rfl (lv_at hl 1 rfl) ?_
          refine va_get (D := (dC, dI)) (ci := 3) (v := .ref sS) (C := R_Main) (T := T_Main) (N := 5) hx hb hts in_Main hown hK hP 0 rfl rfl 3 (by decide) (hts _ mw_136) (fun _ h9 => h9) rfl d_lend_104 ?_
          refine va_getN (D := (dC, dI)) (ci := 2) (v := .int (ν 4 0)) (C := R_Ses) (T := T_Ses) (N := 6) hx hb hts in_Ses hown hK hP 17 rfl rfl 4 (by decide) (hts _ mw_117) (fun _ h9 => h9) rfl d_lend_107 ?_
          refine lv_iconst (v := 0) hx hb d_lend_110 (by decide) ?_
          refine va_zast (n := 60) (f := η 6) hx hb hK hP hD hS 8 1 rfl rfl (i := ν 4 0) (x := 0) (by first | assumption | exact hla.resolve_left (hasI_ne ‹_›) | exact kb hkc | exact lc0 hlc | exact hlo _ (clt (hla.resolve_left (hasI_ne ‹_›)))) d_lend_111 (fun H locs hP hD hS => ?_)
          have hP : va_P (dC, dI) vwCl (w_Main cI cZ mo oM hH hH0 hH1 hH2 hH3 hH4 hH5 hH6 hH7 hH8 kR kR0 kR1 xR xR0 xR1 sS sS0 (ω 0 0) (η 0) (η 1) (η 2) (η 3) (η 4) (η 5) (upd (η 6) (ν 4 0).toNatClampNeg (vp_nar .boolean 0)) (η 7) (η 8) ((F_rAdd mo κ (ν 4 0) (ν 3 0)) 0) ((F_rAdd mo κ (ν 4 0) (ν 3 0)) 1) ((F_rAdd mo κ (ν 4 0) (ν 3 0)) 2 0) (χ 0) (χ 1) (χ 2 0) (ν 0) (ν 1 0) (ν 2 0) (ν 3 0) (ν 4 0) (ν 5 0)) H := hP
          have hD : va_D A (w_Main cI cZ mo oM hH hH0 hH1 hH2 hH3 hH4 hH5 hH6 hH7 hH8 kR kR0 kR1 xR xR0 xR1 sS sS0 (ω 0 0) (η 0) (η 1) (η 2) (η 3) (η 4) (η 5) (upd (η 6) (ν 4 0).toNatClampNeg (vp_nar .boolean 0)) (η 7) (η 8) ((F_rAdd mo κ (ν 4 0) (ν 3 0)) 0) ((F_rAdd mo κ (ν 4 0) (ν 3 0)) 1) ((F_rAdd mo κ (ν 4 0) (ν 3 0)) 2 0) (χ 0) (χ 1) (χ 2 0) (ν 0) (ν 1 0) (ν 2 0) (ν 3 0) (ν 4 0) (ν 5 0)) := hD
          refine lv_goto (tgt := 136) hx hb d_lend_112 (by decide) ?_
          refine lv_aload_n hx hb d_lend_136 rfl (lv_at hl 1 rfl) ?_
          refine va_get (D := (dC, dI)) (ci := 3) (v := .ref sS) (C := R_Main) (T := T_Main) (N := 5) hx hb hts in_Main hown hK hP 0 rfl rfl 3 (by decide) (hts _ mw_136) (fun _ h9 => h9) rfl d_lend_137 ?_
          refine xc_VWv (As := []) (rest := []) (ci := 2) (wr := (r_Main_S cI cZ mo oM hH hH0 hH1 hH2 hH3 hH4 hH5 hH6 hH7 hH8 kR kR0 kR1 xR xR0 xR1 sS sS0 (ω 0 0) (η 0) (η 1) (η 2) (η 3) (η 4) (η 5) (upd (η 6) (ν 4 0).toNatClampNeg (vp_nar .boolean 0)) (η 7) (η 8) ((F_rAdd mo κ (ν 4 0) (ν 3 0)) 0) ((F_rAdd mo κ (ν 4 0) (ν 3 0)) 1) ((F_rAdd mo κ (ν 4 0) (ν 3 0)) 2 0) (χ 0) (χ 1) (χ 2 0) (ν 0) (ν 1 0) (ν 2 0) (ν 3 0) (ν 4 0) (ν 5 0))) ⟨hx, hb, hml, hown, hts⟩ hT hK hP hD hS hA (c_addL l dC dI cI cZ sS sS0 H.size ν (by first | assumption | exact hla.resolve_left (hasI_ne ‹_›) | exact kb hkc | exact lc0 hlc | exact hlo _ (clt (hla.resolve_left (hasI_ne ‹_›))))) [17, 18] [0, 1, 2, 3, 4, 5, 6, 7, 8, 9, 10, 11, 12, 13, 14, 15, 16] rfl (by decide) rfl (by decide) (by decide) (xw_V 0 hts mw_241 mw_18 mw_238 mw_239 mw_240 rfl rfl (by decide +kernel) ⟨Nat.le_of_ble_eq_true rfl, Nat.le_of_ble_eq_true rfl⟩) rfl rfl rfl hl.1 rfl (Nat.le_of_ble_eq_true rfl) d_lend_140 ⟨Nat.zero_le _, Nat.zero_le _⟩ (fun u H locs hw hP hD hS => ?_)
          obtain rfl := hw
          have hP : va_P (dC, dI) vwCl (w_Main cI cZ mo oM hH hH0 hH1 hH2 hH3 hH4 hH5 hH6 hH7 hH8 kR kR0 kR1 xR xR0 xR1 sS sS0 (ω 0 0) (η 0) (η 1) (η 2) (η 3) (η 4) (η 5) (upd (η 6) (ν 4 0).toNatClampNeg (vp_nar .boolean 0)) (η 7) (η 8) ((F_rAdd mo κ (ν 4 0) (ν 3 0)) 0) ((F_rAdd mo κ (ν 4 0) (ν 3 0)) 1) ((F_rAdd mo κ (ν 4 0) (ν 3 0)) 2 0) (χ 0) (χ 1) (χ 2 0) ((F_addL ν) 0) ((F_addL ν) 1 0) ((F_addL ν) 2 0) ((F_addL ν) 3 0) ((F_addL ν) 4 0) ((F_addL ν) 5 0)) H := hP.sub [0, 1, 2, 3, 4, 5, 6, 7, 8, 9, 10, 11, 12, 13, 14, 15, 16, 17, 18] rfl
          have hD : va_D A (w_Main cI cZ mo oM hH hH0 hH1 hH2 hH3 hH4 hH5 hH6 hH7 hH8 kR kR0 kR1 xR xR0 xR1 sS sS0 (ω 0 0) (η 0) (η 1) (η 2) (η 3) (η 4) (η 5) (upd (η 6) (ν 4 0).toNatClampNeg (vp_nar .boolean 0)) (η 7) (η 8) ((F_rAdd mo κ (ν 4 0) (ν 3 0)) 0) ((F_rAdd mo κ (ν 4 0) (ν 3 0)) 1) ((F_rAdd mo κ (ν 4 0) (ν 3 0)) 2 0) (χ 0) (χ 1) (χ 2 0) ((F_addL ν) 0) ((F_addL ν) 1 0) ((F_addL ν) 2 0) ((F_addL ν) 3 0) ((F_addL ν) 4 0) ((F_addL ν) 5 0)) := hD.sub [0, 1, 2, 3, 4, 5, 6, 7, 8, 9, 10, 11, 12, 13, 14, 15, 16, 17, 18] (by decide) rfl
          refine lv_aload_n hx hb d_lend_143 rfl (lv_at hl 1 rfl) ?_
          refine va_get (D := (dC, dI)) (ci := 3) (v := .ref sS) (C := R_Main) (T := T_Main) (N := 5) hx hb hts in_Main hown hK hP 0 rfl rfl 3 (by decide) (hts _ mw_136) (fun _ h9 => h9) rfl d_lend_144 ?_
          refine va_getN (D := (dC, dI)) (ci := 2) (v := .int ((F_addL ν) 1 0)) (C := R_Ses) (T := T_Ses) (N := 6) hx hb hts in_Ses hown hK hP 17 rfl rfl 1 (by decide) (hts _ mw_111) (fun _ h9 => h9) rfl d_lend_147 ?_
          have hF : F_lend mo ω η κ χ ν = ((F_addL ν) 1 0, ω, (ss η 6 (upd (η 6) (ν 4 0).toNatClampNeg (vp_nar .boolean 0))), (F_rAdd mo κ (ν 4 0) (ν 3 0)), χ, (F_addL ν)) := (if_pos c_1).trans ((if_neg c_2).trans ((if_neg c_3).trans ((if_pos c_6).trans rfl)))
          exact W.iret (v := (F_addL ν) 1 0) hx hb hr (fun t ht hW => ⟨⟨(F_addL ν) 1 0, (ω, (ss η 6 (upd (η 6) (ν 4 0).toNatClampNeg (vp_nar .boolean 0))), (F_rAdd mo κ (ν 4 0) (ν 3 0)), χ, (F_addL ν)), rfl, ⟨(congrArg Prod.fst hF).symm, (congrArg Prod.snd hF).symm⟩, by rw [ht]; exact hP, hD⟩, hS.F ht⟩) hS.2.2 d_lend_150
        · refine lv_iload_n hx hb d_lend_66 rfl (lv_at hl 0 rfl) ?_
          have hF : F_lend mo ω η κ χ ν = (F_refO mo ω η κ χ ν, ω, η, κ, χ, ν) := (if_pos c_1).trans ((if_neg c_2).trans ((if_neg c_3).trans ((if_neg c_6).trans rfl)))
          exact W.iret (v := F_refO mo ω η κ χ ν) hx hb hr (fun t ht hW => ⟨⟨F_refO mo ω η κ χ ν, (ω, η, κ, χ, ν), rfl, ⟨(congrArg Prod.fst hF).symm, (congrArg Prod.snd hF).symm⟩, by rw [ht]; exact hP, hD⟩, hS.F ht⟩) hS.2.2 d_lend_67
    · refine lv_iconst (v := -1) hx hb d_lend_24 (by decide) ?_
      have hF : F_lend mo ω η κ χ ν = (-1, ω, η, κ, χ, ν) := (if_pos c_1).trans ((if_pos c_2).trans rfl)
      exact W.iret (v := -1) hx hb hr (fun t ht hW => ⟨⟨-1, (ω, η, κ, χ, ν), rfl, ⟨(congrArg Prod.fst hF).symm, (congrArg Prod.snd hF).symm⟩, by rw [ht]; exact hP, hD⟩, hS.F ht⟩) hS.2.2 d_lend_25
  · refine lv_bipush (v := -8) hx hb d_lend_11 (by decide) ?_
    have hF : F_lend mo ω η κ χ ν = (-8, ω, η, κ, χ, ν) := (if_neg c_1).trans rfl
    exact W.iret (v := -8) hx hb hr (fun t ht hW => ⟨⟨-8, (ω, η, κ, χ, ν), rfl, ⟨(congrArg Prod.fst hF).symm, (congrArg Prod.snd hF).symm⟩, by rw [ht]; exact hP, hD⟩, hS.F ht⟩) hS.2.2 d_lend_13
