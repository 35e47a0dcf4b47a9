def F_mScan (ρ : SS) (q1 : Int32) : Int32 × SS :=
  if (F_mIsI q1) = 0 then
    (0, (ss ρ 14 (fun _ => 0)))
  else
    if (ρ 16 0) = 2 then
      if q1 = (ρ 20 0) then
        (2, (ss ρ 14 (fun _ => 0)))
      else
        (1, (ss (ss (ss ρ 14 (fun _ => 0)) 20 (fun _ => q1)) 21 (fun _ => 0)))
    else
      (0, (ss ρ 14 (fun _ => 0)))
set_option maxHeartbeats 4000000 in
set_option maxRecDepth 100000 in
theorem c_mScan (l : Launch) (dC : Nat → ClassId) (dI : Nat → Nat → Nat) (cI cZ : ClassId) (dM dM0 dM1 dM2 dM3 dM4 dM5 dM6 dM7 dM8 dM9 dM10 dM11 dM12 dM13 : Nat) (sz : Nat) (ρ : SS) (q1 : Int32) : Met l y_mScan [Cond.code y_mScan prog_6_method_11_code 2 (some .int)] ({ frames := 1, cells := 0, slots := 0, locals := 20 }) (pcW (dC, dI) (w_Mod cI cZ dM dM0 dM1 dM2 dM3 dM4 dM5 dM6 dM7 dM8 dM9 dM10 dM11 dM12 dM13 (ρ 0) (ρ 1) (ρ 2) (ρ 3) (ρ 4) (ρ 5) (ρ 6) (ρ 7) (ρ 8) (ρ 9) (ρ 10) (ρ 11) (ρ 12) (ρ 13) (ρ 14 0) (ρ 15 0) (ρ 16 0) (ρ 17 0) (ρ 18 0) (ρ 19 0) (ρ 20 0) (ρ 21 0) (ρ 22 0) (ρ 23 0)) (tyC cI cZ) sz [.ref dM, .int q1]) (qI (fun r u => r = (F_mScan ρ q1).1 ∧ u = (F_mScan ρ q1).2) (dC, dI) (fun u : SS => w_Mod cI cZ dM dM0 dM1 dM2 dM3 dM4 dM5 dM6 dM7 dM8 dM9 dM10 dM11 dM12 dM13 (u 0) (u 1) (u 2) (u 3) (u 4) (u 5) (u 6) (u 7) (u 8) (u 9) (u 10) (u 11) (u 12) (u 13) (u 14 0) (u 15 0) (u 16 0) (u 17 0) (u 18 0) (u 19 0) (u 20 0) (u 21 0) (u 22 0) (u 23 0)) (va_A (w_Mod cI cZ dM dM0 dM1 dM2 dM3 dM4 dM5 dM6 dM7 dM8 dM9 dM10 dM11 dM12 dM13 (ρ 0) (ρ 1) (ρ 2) (ρ 3) (ρ 4) (ρ 5) (ρ 6) (ρ 7) (ρ 8) (ρ 9) (ρ 10) (ρ 11) (ρ 12) (ρ 13) (ρ 14 0) (ρ 15 0) (ρ 16 0) (ρ 17 0) (ρ 18 0) (ρ 19 0) (ρ 20 0) (ρ 21 0) (ρ 22 0) (ρ 23 0)) sz)) 0 0 (va_A (w_Mod cI cZ dM dM0 dM1 dM2 dM3 dM4 dM5 dM6 dM7 dM8 dM9 dM10 dM11 dM12 dM13 (ρ 0) (ρ 1) (ρ 2) (ρ 3) (ρ 4) (ρ 5) (ρ 6) (ρ 7) (ρ 8) (ρ 9) (ρ 10) (ρ 11) (ρ 12) (ρ 13) (ρ 14 0) (ρ 15 0) (ρ 16 0) (ρ 17 0) (ρ 18 0) (ρ 19 0) (ρ 20 0) (ρ 21 0) (ρ 22 0) (ρ 23 0)) sz) := by
  refine Met.ofW (cc := prog_6_method_11_code) (maxL := 2) (ret := (some .int)) (by decide) rfl ?_
  intro p e s m args below meth c s₁ B hml hv
  obtain ⟨rfl, hsz, hT, hP, hK, hD0⟩ := hv
  have hx := B.exec
  have hb := B.bytes
  have hr := B.returns
  have hts : ∀ w ∈ lw_ok, w.before ([.ref dM, .int q1] : List Value).toArray s = true := hT.use
  have hown : s.vm.findClass R_Mod = some m.cls := findClass_of_methodNamed B.named
  have hlocks := B.notSynchronized
  subst hsz
  have hD := hD0.self (sz := s.heap.size)
  generalize hAe : va_A (w_Mod cI cZ dM dM0 dM1 dM2 dM3 dM4 dM5 dM6 dM7 dM8 dM9 dM10 dM11 dM12 dM13 (ρ 0) (ρ 1) (ρ 2) (ρ 3) (ρ 4) (ρ 5) (ρ 6) (ρ 7) (ρ 8) (ρ 9) (ρ 10) (ρ 11) (ρ 12) (ρ 13) (ρ 14 0) (ρ 15 0) (ρ 16 0) (ρ 17 0) (ρ 18 0) (ρ 19 0) (ρ 20 0) (ρ 21 0) (ρ 22 0) (ρ 23 0)) s.heap.size = A at hD ⊢
  have hA : ∀ q : Nat, s.heap.size ≤ q → A q := fun q h => by rw [← hAe]; exact Or.inr h
  have hS : va_S A s.heap s.heap [] := va_S.rf
  have hl := lv_entry ([.ref dM, .int q1]) (n := 2) (Nat.le_of_ble_eq_true rfl)
  rw [lg_entry_eq]
  generalize (lg_sl ([.ref dM, .int q1]) ++ List.replicate (2 - (lg_sl ([.ref dM, .int q1])).length) Slot.unset).toArray = ls at hl ⊢
  have hl : lv_has ls 2 [(0, .ref dM), (1, .int q1)] := hl
  refine lv_aload_n hx hb d_mScan_0 rfl (lv_at hl 0 rfl) ?_
  refine lv_iconst (v := 0) hx hb d_mScan_1 (by decide) ?_
  refine va_put (D := (dC, dI)) (ci := 4) (v := .int 0) (ty := .int) (C := R_Mod) (T := T_Mod) (N := 24) hx hb hts in_Mod ty_Mod tyok_Mod nm_Mod hown hK hP hD hS 0 rfl rfl 0 (by decide) (hts _ mw_340) (fun _ h9 => h9) rfl (by decide +kernel) rfl rfl (Nat.le_of_ble_eq_true rfl) d_mScan_2 (fun H locs hP hD hS => ?_)
  have hP : va_P (dC, dI) vwCl (w_Mod cI cZ dM dM0 dM1 dM2 dM3 dM4 dM5 dM6 dM7 dM8 dM9 dM10 dM11 dM12 dM13 (ρ 0) (ρ 1) (ρ 2) (ρ 3) (ρ 4) (ρ 5) (ρ 6) (ρ 7) (ρ 8) (ρ 9) (ρ 10) (ρ 11) (ρ 12) (ρ 13) 0 (ρ 15 0) (ρ 16 0) (ρ 17 0) (ρ 18 0) (ρ 19 0) (ρ 20 0) (ρ 21 0) (ρ 22 0) (ρ 23 0)) H := hP
  have hD : va_D A (w_Mod cI cZ dM dM0 dM1 dM2 dM3 dM4 dM5 dM6 dM7 dM8 dM9 dM10 dM11 dM12 dM13 (ρ 0) (ρ 1) (ρ 2) (ρ 3) (ρ 4) (ρ 5) (ρ 6) (ρ 7) (ρ 8) (ρ 9) (ρ 10) (ρ 11) (ρ 12) (ρ 13) 0 (ρ 15 0) (ρ 16 0) (ρ 17 0) (ρ 18 0) (ρ 19 0) (ρ 20 0) (ρ 21 0) (ρ 22 0) (ρ 23 0)) := hD
  refine lv_iload_n hx hb d_mScan_5 rfl (lv_at hl 1 rfl) ?_
  refine xc_S0 (As := [.int q1]) (rest := []) ⟨hx, hb, hml, hown, hts⟩ hT (c_mIsI l q1) ⟨xw_B 1 hts mw_434 mw_19 mw_432 rfl rfl (by decide +kernel) ⟨Nat.le_of_ble_eq_true rfl, Nat.le_of_ble_eq_true rfl⟩, hts _ mw_433⟩ rfl hl.1 rfl (Nat.le_of_ble_eq_true rfl) d_mScan_6 ⟨Nat.zero_le _, Nat.zero_le _⟩ (fun r hw => ?_)
  subst hw
  refine lv_if_eq (tgt := 20) hx hb d_mScan_9 (by decide) (fun c_1 => ?_) (fun c_1 => ?_)
  · refine lv_iconst (v := 0) hx hb d_mScan_20 (by decide) ?_
    have hF : F_mScan ρ q1 = (0, (ss ρ 14 (fun _ => 0))) := (if_pos c_1).trans rfl
    exact W.iret (v := 0) hx hb hr (fun t ht hW => ⟨⟨0, (ss ρ 14 (fun _ => 0)), rfl, ⟨(congrArg Prod.fst hF).symm, (congrArg Prod.snd hF).symm⟩, by rw [ht]; exact hP, hD⟩, hS.F ht⟩) hS.2.2 d_mScan_21
  · refine lv_aload_n hx hb d_mScan_12 rfl (lv_at hl 0 rfl) ?_
    refine va_get (D := (dC, dI)) (ci := 4) (v := .int (ρ 16 0)) (C := R_Mod) (T := T_Mod) (N := 24) hx hb hts in_Mod hown hK hP 0 rfl rfl 12 (by decide) (hts _ mw_352) (fun _ h9 => h9) rfl d_mScan_13 ?_
    refine lv_iconst (v := 2) hx hb d_mScan_16 (by decide) ?_
    refine lv_icmp_eq (tgt := 22) hx hb d_mScan_17 (by decide) (fun c_2 => ?_) (fun c_2 => ?_)
    · refine lv_iload_n hx hb d_mScan_22 rfl (lv_at hl 1 rfl) ?_
      refine lv_aload_n hx hb d_mScan_23 rfl (lv_at hl 0 rfl) ?_
      refine va_get (D := (dC, dI)) (ci := 4) (v := .int (ρ 20 0)) (C := R_Mod) (T := T_Mod) (N := 24) hx hb hts in_Mod hown hK hP 0 rfl rfl 17 (by decide) (hts _ mw_357) (fun _ h9 => h9) rfl d_mScan_24 ?_
      refine lv_icmp_ne (tgt := 32) hx hb d_mScan_27 (by decide) (fun c_3 => ?_) (fun c_3 => ?_)
      · refine lv_aload_n hx hb d_mScan_32 rfl (lv_at hl 0 rfl) ?_
        refine lv_iload_n hx hb d_mScan_33 rfl (lv_at hl 1 rfl) ?_
        refine va_put (D := (dC, dI)) (ci := 4) (v := .int q1) (ty := .int) (C := R_Mod) (T := T_Mod) (N := 24) hx hb hts in_Mod ty_Mod tyok_Mod nm_Mod hown hK hP hD hS 0 rfl rfl 17 (by decide) (hts _ mw_357) (fun _ h9 => h9) rfl (by decide +kernel) rfl rfl (Nat.le_of_ble_eq_true rfl) d_mScan_34 (fun H locs hP hD hS => ?_)
        have hP : va_P (dC, dI) vwCl (w_Mod cI cZ dM dM0 dM1 dM2 dM3 dM4 dM5 dM6 dM7 dM8 dM9 dM10 dM11 dM12 dM13 (ρ 0) (ρ 1) (ρ 2) (ρ 3) (ρ 4) (ρ 5) (ρ 6) (ρ 7) (ρ 8) (ρ 9) (ρ 10) (ρ 11) (ρ 12) (ρ 13) 0 (ρ 15 0) (ρ 16 0) (ρ 17 0) (ρ 18 0) (ρ 19 0) q1 (ρ 21 0) (ρ 22 0) (ρ 23 0)) H := hP
        have hD : va_D A (w_Mod cI cZ dM dM0 dM1 dM2 dM3 dM4 dM5 dM6 dM7 dM8 dM9 dM10 dM11 dM12 dM13 (ρ 0) (ρ 1) (ρ 2) (ρ 3) (ρ 4) (ρ 5) (ρ 6) (ρ 7) (ρ 8) (ρ 9) (ρ 10) (ρ 11) (ρ 12) (ρ 13) 0 (ρ 15 0) (ρ 16 0) (ρ 17 0) (ρ 18 0) (ρ 19 0) q1 (ρ 21 0) (ρ 22 0) (ρ 23 0)) := hD
        refine lv_aload_n hx hb d_mScan_37 rfl (lv_at hl 0 rfl) ?_
        refine lv_iconst (v := 0) hx hb d_mScan_38 (by decide) ?_
        refine va_put (D := (dC, dI)) (ci := 4) (v := .int 0) (ty := .boolean) (C := R_Mod) (T := T_Mod) (N := 24) hx hb hts in_Mod ty_Mod tyok_Mod nm_Mod hown hK hP hD hS 0 rfl rfl 18 (by decide) (hts _ mw_358) (fun _ h9 => h9) rfl (by decide +kernel) (by decide) rfl (Nat.le_of_ble_eq_true rfl) d_mScan_39 (fun H locs hP hD hS => ?_)
        have hP : va_P (dC, dI) vwCl (w_Mod cI cZ dM dM0 dM1 dM2 dM3 dM4 dM5 dM6 dM7 dM8 dM9 dM10 dM11 dM12 dM13 (ρ 0) (ρ 1) (ρ 2) (ρ 3) (ρ 4) (ρ 5) (ρ 6) (ρ 7) (ρ 8) (ρ 9) (ρ 10) (ρ 11) (ρ 12) (ρ 13) 0 (ρ 15 0) (ρ 16 0) (ρ 17 0) (ρ 18 0) (ρ 19 0) q1 0 (ρ 22 0) (ρ 23 0)) H := hP
        have hD : va_D A (w_Mod cI cZ dM dM0 dM1 dM2 dM3 dM4 dM5 dM6 dM7 dM8 dM9 dM10 dM11 dM12 dM13 (ρ 0) (ρ 1) (ρ 2) (ρ 3) (ρ 4) (ρ 5) (ρ 6) (ρ 7) (ρ 8) (ρ 9) (ρ 10) (ρ 11) (ρ 12) (ρ 13) 0 (ρ 15 0) (ρ 16 0) (ρ 17 0) (ρ 18 0) (ρ 19 0) q1 0 (ρ 22 0) (ρ 23 0)) := hD
        refine lv_iconst (v := 1) hx hb d_mScan_42 (by decide) ?_
        have hF : F_mScan ρ q1 = (1, (ss (ss (ss ρ 14 (fun _ => 0)) 20 (fun _ => q1)) 21 (fun _ => 0))) := (if_neg c_1).trans ((if_pos c_2).trans ((if_neg c_3).trans rfl))
        exact W.iret (v := 1) hx hb hr (fun t ht hW => ⟨⟨1, (ss (ss (ss ρ 14 (fun _ => 0)) 20 (fun _ => q1)) 21 (fun _ => 0)), rfl, ⟨(congrArg Prod.fst hF).symm, (congrArg Prod.snd hF).symm⟩, by rw [ht]; exact hP, hD⟩, hS.F ht⟩) hS.2.2 d_mScan_43
      · refine lv_iconst (v := 2) hx hb d_mScan_30 (by decide) ?_
        have hF : F_mScan ρ q1 = (2, (ss ρ 14 (fun _ => 0))) := (if_neg c_1).trans ((if_pos c_2).trans ((if_pos c_3).trans rfl))
        exact W.iret (v := 2) hx hb hr (fun t ht hW => ⟨⟨2, (ss ρ 14 (fun _ => 0)), rfl, ⟨(congrArg Prod.fst hF).symm, (congrArg Prod.snd hF).symm⟩, by rw [ht]; exact hP, hD⟩, hS.F ht⟩) hS.2.2 d_mScan_31
    · refine lv_iconst (v := 0) hx hb d_mScan_20 (by decide) ?_
      have hF : F_mScan ρ q1 = (0, (ss ρ 14 (fun _ => 0))) := (if_neg c_1).trans ((if_neg c_2).trans rfl)
      exact W.iret (v := 0) hx hb hr (fun t ht hW => ⟨⟨0, (ss ρ 14 (fun _ => 0)), rfl, ⟨(congrArg Prod.fst hF).symm, (congrArg Prod.snd hF).symm⟩, by rw [ht]; exact hP, hD⟩, hS.F ht⟩) hS.2.2 d_mScan_21
def F_mTwice (ρ : SS) : Int32 × SS :=
  if (ρ 16 0) = 2 then
    (1, (ss (ss ρ 14 (fun _ => 0)) 20 (fun _ => -1)))
  else
    (0, (ss ρ 14 (fun _ => 0)))
set_option maxHeartbeats 4000000 in
set_option maxRecDepth 100000 in
theorem c_mTwice (l : Launch) (dC : Nat → ClassId) (dI : Nat → Nat → Nat) (cI cZ : ClassId) (dM dM0 dM1 dM2 dM3 dM4 dM5 dM6 dM7 dM8 dM9 dM10 dM11 dM12 dM13 : Nat) (sz : Nat) (ρ : SS) : Met l y_mTwice [Cond.code y_mTwice prog_6_method_12_code 1 (some .int)] ({ frames := 0, cells := 0, slots := 0, locals := 0 }) (pcW (dC, dI) (w_Mod cI cZ dM dM0 dM1 dM2 dM3 dM4 dM5 dM6 dM7 dM8 dM9 dM10 dM11 dM12 dM13 (ρ 0) (ρ 1) (ρ 2) (ρ 3) (ρ 4) (ρ 5) (ρ 6) (ρ 7) (ρ 8) (ρ 9) (ρ 10) (ρ 11) (ρ 12) (ρ 13) (ρ 14 0) (ρ 15 0) (ρ 16 0) (ρ 17 0) (ρ 18 0) (ρ 19 0) (ρ 20 0) (ρ 21 0) (ρ 22 0) (ρ 23 0)) (tyC cI cZ) sz [.ref dM]) (qI (fun r u => r = (F_mTwice ρ).1 ∧ u = (F_mTwice ρ).2) (dC, dI) (fun u : SS => w_Mod cI cZ dM dM0 dM1 dM2 dM3 dM4 dM5 dM6 dM7 dM8 dM9 dM10 dM11 dM12 dM13 (u 0) (u 1) (u 2) (u 3) (u 4) (u 5) (u 6) (u 7) (u 8) (u 9) (u 10) (u 11) (u 12) (u 13) (u 14 0) (u 15 0) (u 16 0) (u 17 0) (u 18 0) (u 19 0) (u 20 0) (u 21 0) (u 22 0) (u 23 0)) (va_A (w_Mod cI cZ dM dM0 dM1 dM2 dM3 dM4 dM5 dM6 dM7 dM8 dM9 dM10 dM11 dM12 dM13 (ρ 0) (ρ 1) (ρ 2) (ρ 3) (ρ 4) (ρ 5) (ρ 6) (ρ 7) (ρ 8) (ρ 9) (ρ 10) (ρ 11) (ρ 12) (ρ 13) (ρ 14 0) (ρ 15 0) (ρ 16 0) (ρ 17 0) (ρ 18 0) (ρ 19 0) (ρ 20 0) (ρ 21 0) (ρ 22 0) (ρ 23 0)) sz)) 0 0 (va_A (w_Mod cI cZ dM dM0 dM1 dM2 dM3 dM4 dM5 dM6 dM7 dM8 dM9 dM10 dM11 dM12 dM13 (ρ 0) (ρ 1) (ρ 2) (ρ 3) (ρ 4) (ρ 5) (ρ 6) (ρ 7) (ρ 8) (ρ 9) (ρ 10) (ρ 11) (ρ 12) (ρ 13) (ρ 14 0) (ρ 15 0) (ρ 16 0) (ρ 17 0) (ρ 18 0) (ρ 19 0) (ρ 20 0) (ρ 21 0) (ρ 22 0) (ρ 23 0)) sz) := by
  refine Met.ofW (cc := prog_6_method_12_code) (maxL := 1) (ret := (some .int)) (by decide) rfl ?_
  intro p e s m args below meth c s₁ B hml hv
  obtain ⟨rfl, hsz, hT, hP, hK, hD0⟩ := hv
  have hx := B.exec
  have hb := B.bytes
  have hr := B.returns
  have hts : ∀ w ∈ lw_ok, w.before ([.ref dM] : List Value).toArray s = true := hT.use
  have hown : s.vm.findClass R_Mod = some m.cls := findClass_of_methodNamed B.named
  have hlocks := B.notSynchronized
  subst hsz
  have hD := hD0.self (sz := s.heap.size)
  generalize hAe : va_A (w_Mod cI cZ dM dM0 dM1 dM2 dM3 dM4 dM5 dM6 dM7 dM8 dM9 dM10 dM11 dM12 dM13 (ρ 0) (ρ 1) (ρ 2) (ρ 3) (ρ 4) (ρ 5) (ρ 6) (ρ 7) (ρ 8) (ρ 9) (ρ 10) (ρ 11) (ρ 12) (ρ 13) (ρ 14 0) (ρ 15 0) (ρ 16 0) (ρ 17 0) (ρ 18 0) (ρ 19 0) (ρ 20 0) (ρ 21 0) (ρ 22 0) (ρ 23 0)) s.heap.size = A at hD ⊢
  have hA : ∀ q : Nat, s.heap.size ≤ q → A q := fun q h => by rw [← hAe]; exact Or.inr h
  have hS : va_S A s.heap s.heap [] := va_S.rf
  have hl := lv_entry ([.ref dM]) (n := 1) (Nat.le_of_ble_eq_true rfl)
  rw [lg_entry_eq]
  generalize (lg_sl ([.ref dM]) ++ List.replicate (1 - (lg_sl ([.ref dM])).length) Slot.unset).toArray = ls at hl ⊢
  have hl : lv_has ls 1 [(0, .ref dM)] := hl
  refine lv_aload_n hx hb d_mTwice_0 rfl (lv_at hl 0 rfl) ?_
  refine lv_iconst (v := 0) hx hb d_mTwice_1 (by decide) ?_
  refine va_put (D := (dC, dI)) (ci := 4) (v := .int 0) (ty := .int) (C := R_Mod) (T := T_Mod) (N := 24) hx hb hts in_Mod ty_Mod tyok_Mod nm_Mod hown hK hP hD hS 0 rfl rfl 0 (by decide) (hts _ mw_340) (fun _ h9 => h9) rfl (by decide +kernel) rfl rfl (Nat.le_of_ble_eq_true rfl) d_mTwice_2 (fun H locs hP hD hS => ?_)
  have hP : va_P (dC, dI) vwCl (w_Mod cI cZ dM dM0 dM1 dM2 dM3 dM4 dM5 dM6 dM7 dM8 dM9 dM10 dM11 dM12 dM13 (ρ 0) (ρ 1) (ρ 2) (ρ 3) (ρ 4) (ρ 5) (ρ 6) (ρ 7) (ρ 8) (ρ 9) (ρ 10) (ρ 11) (ρ 12) (ρ 13) 0 (ρ 15 0) (ρ 16 0) (ρ 17 0) (ρ 18 0) (ρ 19 0) (ρ 20 0) (ρ 21 0) (ρ 22 0) (ρ 23 0)) H := hP
  have hD : va_D A (w_Mod cI cZ dM dM0 dM1 dM2 dM3 dM4 dM5 dM6 dM7 dM8 dM9 dM10 dM11 dM12 dM13 (ρ 0) (ρ 1) (ρ 2) (ρ 3) (ρ 4) (ρ 5) (ρ 6) (ρ 7) (ρ 8) (ρ 9) (ρ 10) (ρ 11) (ρ 12) (ρ 13) 0 (ρ 15 0) (ρ 16 0) (ρ 17 0) (ρ 18 0) (ρ 19 0) (ρ 20 0) (ρ 21 0) (ρ 22 0) (ρ 23 0)) := hD
  refine lv_aload_n hx hb d_mTwice_5 rfl (lv_at hl 0 rfl) ?_
  refine va_get (D := (dC, dI)) (ci := 4) (v := .int (ρ 16 0)) (C := R_Mod) (T := T_Mod) (N := 24) hx hb hts in_Mod hown hK hP 0 rfl rfl 12 (by decide) (hts _ mw_352) (fun _ h9 => h9) rfl d_mTwice_6 ?_
  refine lv_iconst (v := 2) hx hb d_mTwice_9 (by decide) ?_
  refine lv_icmp_eq (tgt := 15) hx hb d_mTwice_10 (by decide) (fun c_1 => ?_) (fun c_1 => ?_)
  · refine lv_aload_n hx hb d_mTwice_15 rfl (lv_at hl 0 rfl) ?_
    refine lv_iconst (v := -1) hx hb d_mTwice_16 (by decide) ?_
    refine va_put (D := (dC, dI)) (ci := 4) (v := .int (-1)) (ty := .int) (C := R_Mod) (T := T_Mod) (N := 24) hx hb hts in_Mod ty_Mod tyok_Mod nm_Mod hown hK hP hD hS 0 rfl rfl 17 (by decide) (hts _ mw_357) (fun _ h9 => h9) rfl (by decide +kernel) rfl rfl (Nat.le_of_ble_eq_true rfl) d_mTwice_17 (fun H locs hP hD hS => ?_)
    have hP : va_P (dC, dI) vwCl (w_Mod cI cZ dM dM0 dM1 dM2 dM3 dM4 dM5 dM6 dM7 dM8 dM9 dM10 dM11 dM12 dM13 (ρ 0) (ρ 1) (ρ 2) (ρ 3) (ρ 4) (ρ 5) (ρ 6) (ρ 7) (ρ 8) (ρ 9) (ρ 10) (ρ 11) (ρ 12) (ρ 13) 0 (ρ 15 0) (ρ 16 0) (ρ 17 0) (ρ 18 0) (ρ 19 0) (-1) (ρ 21 0) (ρ 22 0) (ρ 23 0)) H := hP
    have hD : va_D A (w_Mod cI cZ dM dM0 dM1 dM2 dM3 dM4 dM5 dM6 dM7 dM8 dM9 dM10 dM11 dM12 dM13 (ρ 0) (ρ 1) (ρ 2) (ρ 3) (ρ 4) (ρ 5) (ρ 6) (ρ 7) (ρ 8) (ρ 9) (ρ 10) (ρ 11) (ρ 12) (ρ 13) 0 (ρ 15 0) (ρ 16 0) (ρ 17 0) (ρ 18 0) (ρ 19 0) (-1) (ρ 21 0) (ρ 22 0) (ρ 23 0)) := hD
    refine lv_iconst (v := 1) hx hb d_mTwice_20 (by decide) ?_
    have hF : F_mTwice ρ = (1, (ss (ss ρ 14 (fun _ => 0)) 20 (fun _ => -1))) := (if_pos c_1).trans rfl
    exact W.iret (v := 1) hx hb hr (fun t ht hW => ⟨⟨1, (ss (ss ρ 14 (fun _ => 0)) 20 (fun _ => -1)), rfl, ⟨(congrArg Prod.fst hF).symm, (congrArg Prod.snd hF).symm⟩, by rw [ht]; exact hP, hD⟩, hS.F ht⟩) hS.2.2 d_mTwice_21
  · refine lv_iconst (v := 0) hx hb d_mTwice_13 (by decide) ?_
    have hF : F_mTwice ρ = (0, (ss ρ 14 (fun _ => 0))) := (if_neg c_1).trans rfl
    exact W.iret (v := 0) hx hb hr (fun t ht hW => ⟨⟨0, (ss ρ 14 (fun _ => 0)), rfl, ⟨(congrArg Prod.fst hF).symm, (congrArg Prod.snd hF).symm⟩, by rw [ht]; exact hP, hD⟩, hS.F ht⟩) hS.2.2 d_mTwice_14
def F_mLend (ρ : SS) : Int32 × SS :=
  if (ρ 16 0) = 2 then
    if (ρ 20 0) = (-1) then
      (-1, (ss ρ 14 (fun _ => 0)))
    else
      if (ρ 21 0) = 0 then
        if (ρ 18 0) = 0 then
          if 0 ≤ (F_mAg (ss ρ 14 (fun _ => 0)) (ρ 20 0) (ρ 17 0)) then
            ((ρ 19 0) + 1, (ss (ss (ss (ss (ss (ss (ss (ss (ss ρ 5 ((F_mGo (ss ρ 14 (fun _ => 0)) (ρ 20 0) (ρ 17 0)) 5)) 6 ((F_mGo (ss ρ 14 (fun _ => 0)) (ρ 20 0) (ρ 17 0)) 6)) 7 ((F_mGo (ss ρ 14 (fun _ => 0)) (ρ 20 0) (ρ 17 0)) 7)) 8 ((F_mGo (ss ρ 14 (fun _ => 0)) (ρ 20 0) (ρ 17 0)) 8)) 9 ((F_mGo (ss ρ 14 (fun _ => 0)) (ρ 20 0) (ρ 17 0)) 9)) 10 (upd (ρ 10) (ρ 19 0).toNatClampNeg (ρ 20 0))) 14 (fun _ => 0)) 19 (fun _ => (ρ 19 0) + 1)) 21 (fun _ => 1)))
          else
            (F_mAg (ss ρ 14 (fun _ => 0)) (ρ 20 0) (ρ 17 0), (ss ρ 14 (fun _ => 0)))
        else
          if (ρ 19 0) = 5 then
            (-6, (ss ρ 14 (fun _ => 0)))
          else
            if (ρ 22 0) = (ρ 15 0) then
              (-7, (ss ρ 14 (fun _ => 0)))
            else
              ((ρ 19 0) + 1, (ss (ss (ss (ss (ss (ss (ss (ss ρ 7 (upd (ρ 7) (ρ 20 0).toNatClampNeg (vp_nar .boolean 1))) 10 (upd (ρ 10) (ρ 19 0).toNatClampNeg (ρ 20 0))) 11 (upd (ρ 11) (ρ 22 0).toNatClampNeg (ρ 20 0))) 12 (upd (ρ 12) (ρ 22 0).toNatClampNeg (ρ 17 0))) 14 (fun _ => 0)) 19 (fun _ => (ρ 19 0) + 1)) 21 (fun _ => 1)) 22 (fun _ => (ρ 22 0) + 1)))
      else
        (-1, (ss ρ 14 (fun _ => 0)))
  else
    (-8, (ss ρ 14 (fun _ => 0)))
set_option maxHeartbeats 4000000 in
set_option maxRecDepth 100000 in
theorem c_mLend (l : Launch) (dC : Nat → ClassId) (dI : Nat → Nat → Nat) (cI cZ : ClassId) (dM dM0 dM1 dM2 dM3 dM4 dM5 dM6 dM7 dM8 dM9 dM10 dM11 dM12 dM13 : Nat) (sz : Nat) (ρ : SS) (hM : MInv ρ) : Met l y_mLend [Cond.code y_mLend prog_6_method_17_code 2 (some .int)] ({ frames := 2, cells := 0, slots := 0, locals := 45 }) (pcW (dC, dI) (w_Mod cI cZ dM dM0 dM1 dM2 dM3 dM4 dM5 dM6 dM7 dM8 dM9 dM10 dM11 dM12 dM13 (ρ 0) (ρ 1) (ρ 2) (ρ 3) (ρ 4) (ρ 5) (ρ 6) (ρ 7) (ρ 8) (ρ 9) (ρ 10) (ρ 11) (ρ 12) (ρ 13) (ρ 14 0) (ρ 15 0) (ρ 16 0) (ρ 17 0) (ρ 18 0) (ρ 19 0) (ρ 20 0) (ρ 21 0) (ρ 22 0) (ρ 23 0)) (tyC cI cZ) sz [.ref dM]) (qI (fun r u => r = (F_mLend ρ).1 ∧ u = (F_mLend ρ).2) (dC, dI) (fun u : SS => w_Mod cI cZ dM dM0 dM1 dM2 dM3 dM4 dM5 dM6 dM7 dM8 dM9 dM10 dM11 dM12 dM13 (u 0) (u 1) (u 2) (u 3) (u 4) (u 5) (u 6) (u 7) (u 8) (u 9) (u 10) (u 11) (u 12) (u 13) (u 14 0) (u 15 0) (u 16 0) (u 17 0) (u 18 0) (u 19 0) (u 20 0) (u 21 0) (u 22 0) (u 23 0)) (va_A (w_Mod cI cZ dM dM0 dM1 dM2 dM3 dM4 dM5 dM6 dM7 dM8 dM9 dM10 dM11 dM12 dM13 (ρ 0) (ρ 1) (ρ 2) (ρ 3) (ρ 4) (ρ 5) (ρ 6) (ρ 7) (ρ 8) (ρ 9) (ρ 10) (ρ 11) (ρ 12) (ρ 13) (ρ 14 0) (ρ 15 0) (ρ 16 0) (ρ 17 0) (ρ 18 0) (ρ 19 0) (ρ 20 0) (ρ 21 0) (ρ 22 0) (ρ 23 0)) sz)) 0 0 (va_A (w_Mod cI cZ dM dM0 dM1 dM2 dM3 dM4 dM5 dM6 dM7 dM8 dM9 dM10 dM11 dM12 dM13 (ρ 0) (ρ 1) (ρ 2) (ρ 3) (ρ 4) (ρ 5) (ρ 6) (ρ 7) (ρ 8) (ρ 9) (ρ 10) (ρ 11) (ρ 12) (ρ 13) (ρ 14 0) (ρ 15 0) (ρ 16 0) (ρ 17 0) (ρ 18 0) (ρ 19 0) (ρ 20 0) (ρ 21 0) (ρ 22 0) (ρ 23 0)) sz) := by
  refine Met.ofW (cc := prog_6_method_17_code) (maxL := 2) (ret := (some .int)) (by decide) rfl ?_
  intro p e s m args below meth c s₁ B hml hv
  obtain ⟨rfl, hsz, hT, hP, hK, hD0⟩ := hv
  have hx := B.exec
  have hb := B.bytes
  have hr := B.returns
  have hts : ∀ w ∈ lw_ok, w.before ([.ref dM] : List Value).toArray s = true := hT.use
  have hown : s.vm.findClass R_Mod = some m.cls := findClass_of_methodNamed B.named
  have hlocks := B.notSynchronized
  subst hsz
  have hD := hD0.self (sz := s.heap.size)
  generalize hAe : va_A (w_Mod cI cZ dM dM0 dM1 dM2 dM3 dM4 dM5 dM6 dM7 dM8 dM9 dM10 dM11 dM12 dM13 (ρ 0) (ρ 1) (ρ 2) (ρ 3) (ρ 4) (ρ 5) (ρ 6) (ρ 7) (ρ 8) (ρ 9) (ρ 10) (ρ 11) (ρ 12) (ρ 13) (ρ 14 0) (ρ 15 0) (ρ 16 0) (ρ 17 0) (ρ 18 0) (ρ 19 0) (ρ 20 0) (ρ 21 0) (ρ 22 0) (ρ 23 0)) s.heap.size = A at hD ⊢
  have hA : ∀ q : Nat, s.heap.size ≤ q → A q := fun q h => by rw [← hAe]; exact Or.inr h
  have hS : va_S A s.heap s.heap [] := va_S.rf
  have hl := lv_entry ([.ref dM]) (n := 2) (Nat.le_of_ble_eq_true rfl)
  rw [lg_entry_eq]
  generalize (lg_sl ([.ref dM]) ++ List.replicate (2 - (lg_sl ([.ref dM])).length) Slot.unset).toArray = ls at hl ⊢
  have hl : lv_has ls 2 [(0, .ref dM)] := hl
  obtain ⟨mo, hmo, emo, hof, hre, hlo, hlk, ⟨kc, hkm, ek, hrow, hlend⟩, ⟨xc, hxm, ex⟩, hpe, hsc, ⟨lc, hlm, el, hrec⟩⟩ := id hM
  refine lv_aload_n hx hb d_mLend_0 rfl (lv_at hl 0 rfl) ?_
  refine lv_iconst (v := 0) hx hb d_mLend_1 (by decide) ?_
  refine va_put (D := (dC, dI)) (ci := 4) (v := .int 0) (ty := .int) (C := R_Mod) (T := T_Mod) (N := 24) hx hb hts in_Mod ty_Mod tyok_Mod nm_Mod hown hK hP hD hS 0 rfl rfl 0 (by decide) (hts _ mw_340) (fun _ h9 => h9) rfl (by decide +kernel) rfl rfl (Nat.le_of_ble_eq_true rfl) d_mLend_2 (fun H locs hP hD hS => ?_)
  have hP : va_P (dC, dI) vwCl (w_Mod cI cZ dM dM0 dM1 dM2 dM3 dM4 dM5 dM6 dM7 dM8 dM9 dM10 dM11 dM12 dM13 (ρ 0) (ρ 1) (ρ 2) (ρ 3) (ρ 4) (ρ 5) (ρ 6) (ρ 7) (ρ 8) (ρ 9) (ρ 10) (ρ 11) (ρ 12) (ρ 13) 0 (ρ 15 0) (ρ 16 0) (ρ 17 0) (ρ 18 0) (ρ 19 0) (ρ 20 0) (ρ 21 0) (ρ 22 0) (ρ 23 0)) H := hP
  have hD : va_D A (w_Mod cI cZ dM dM0 dM1 dM2 dM3 dM4 dM5 dM6 dM7 dM8 dM9 dM10 dM11 dM12 dM13 (ρ 0) (ρ 1) (ρ 2) (ρ 3) (ρ 4) (ρ 5) (ρ 6) (ρ 7) (ρ 8) (ρ 9) (ρ 10) (ρ 11) (ρ 12) (ρ 13) 0 (ρ 15 0) (ρ 16 0) (ρ 17 0) (ρ 18 0) (ρ 19 0) (ρ 20 0) (ρ 21 0) (ρ 22 0) (ρ 23 0)) := hD
  refine lv_aload_n hx hb d_mLend_5 rfl (lv_at hl 0 rfl) ?_
  refine va_get (D := (dC, dI)) (ci := 4) (v := .int (ρ 16 0)) (C := R_Mod) (T := T_Mod) (N := 24) hx hb hts in_Mod hown hK hP 0 rfl rfl 12 (by decide) (hts _ mw_352) (fun _ h9 => h9) rfl d_mLend_6 ?_
  refine lv_iconst (v := 2) hx hb d_mLend_9 (by decide) ?_
  refine lv_icmp_eq (tgt := 16) hx hb d_mLend_10 (by decide) (fun c_1 => ?_) (fun c_1 => ?_)
  · refine lv_aload_n hx hb d_mLend_16 rfl (lv_at hl 0 rfl) ?_
    refine va_get (D := (dC, dI)) (ci := 4) (v := .int (ρ 20 0)) (C := R_Mod) (T := T_Mod) (N := 24) hx hb hts in_Mod hown hK hP 0 rfl rfl 17 (by decide) (hts _ mw_357) (fun _ h9 => h9) rfl d_mLend_17 ?_
    refine lv_iconst (v := -1) hx hb d_mLend_20 (by decide) ?_
    refine lv_icmp_eq (tgt := 31) hx hb d_mLend_21 (by decide) (fun c_2 => ?_) (fun c_2 => ?_)
    · refine lv_iconst (v := -1) hx hb d_mLend_31 (by decide) ?_
      have hF : F_mLend ρ = (-1, (ss ρ 14 (fun _ => 0))) := (if_pos c_1).trans ((if_pos c_2).trans rfl)
      exact W.iret (v := -1) hx hb hr (fun t ht hW => ⟨⟨-1, (ss ρ 14 (fun _ => 0)), rfl, ⟨(congrArg Prod.fst hF).symm, (congrArg Prod.snd hF).symm⟩, by rw [ht]; exact hP, hD⟩, hS.F ht⟩) hS.2.2 d_mLend_32
    · refine lv_aload_n hx hb d_mLend_24 rfl (lv_at hl 0 rfl) ?_
      refine va_get (D := (dC, dI)) (ci := 4) (v := .int (ρ 21 0)) (C := R_Mod) (T := T_Mod) (N := 24) hx hb hts in_Mod hown hK hP 0 rfl rfl 18 (by decide) (hts _ mw_358) (fun _ h9 => h9) rfl d_mLend_25 ?_
      refine lv_if_eq (tgt := 33) hx hb d_mLend_28 (by decide) (fun c_3 => ?_) (fun c_3 => ?_)
      · refine lv_aload_n hx hb d_mLend_33 rfl (lv_at hl 0 rfl) ?_
        refine va_get (D := (dC, dI)) (ci := 4) (v := .int (ρ 18 0)) (C := R_Mod) (T := T_Mod) (N := 24) hx hb hts in_Mod hown hK hP 0 rfl rfl 14 (by decide) (hts _ mw_354) (fun _ h9 => h9) rfl d_mLend_34 ?_
        refine lv_if_eq (tgt := 114) hx hb d_mLend_37 (by decide) (fun c_4 => ?_) (fun c_4 => ?_)
        · refine lv_aload_n hx hb d_mLend_114 rfl (lv_at hl 0 rfl) ?_
          refine lv_aload_n hx hb d_mLend_115 rfl (lv_at hl 0 rfl) ?_
          refine va_get (D := (dC, dI)) (ci := 4) (v := .int (ρ 20 0)) (C := R_Mod) (T := T_Mod) (N := 24) hx hb hts in_Mod hown hK hP 0 rfl rfl 17 (by decide) (hts _ mw_357) (fun _ h9 => h9) rfl d_mLend_116 ?_
          refine lv_aload_n hx hb d_mLend_119 rfl (lv_at hl 0 rfl) ?_
          refine va_get (D := (dC, dI)) (ci := 4) (v := .int (ρ 17 0)) (C := R_Mod) (T := T_Mod) (N := 24) hx hb hts in_Mod hown hK hP 0 rfl rfl 13 (by decide) (hts _ mw_353) (fun _ h9 => h9) rfl d_mLend_120 ?_
          refine xc_VR (As := [.int (ρ 20 0), .int (ρ 17 0)]) (rest := []) (ci := 4) ⟨hx, hb, hml, hown, hts⟩ hT hK hP (c_mAg l dC dI cI cZ dM dM0 dM1 dM2 dM3 dM4 dM5 dM6 dM7 dM8 dM9 dM10 dM11 dM12 dM13 (ss ρ 14 (fun _ => 0)) (ρ 20 0) (ρ 17 0) (by first | assumption | exact hsc.resolve_left ‹_› | exact m_lent hlm el | exact m_row hmo hkm ek emo ‹_› | exact hlo _ (clt (hsc.resolve_left ‹_›))) (by first | assumption | exact hsc.resolve_left ‹_› | exact m_lent hlm el | exact m_row hmo hkm ek emo ‹_› | exact hlo _ (clt (hsc.resolve_left ‹_›)))) [0, 1, 2, 3, 4, 5, 6, 7, 8, 9, 10, 11, 12, 13, 14] rfl (xw_V 2 hts mw_458 mw_19 mw_455 mw_457 mw_6 rfl rfl (by decide +kernel) ⟨Nat.le_of_ble_eq_true rfl, Nat.le_of_ble_eq_true rfl⟩) rfl rfl rfl hl.1 rfl (Nat.le_of_ble_eq_true rfl) d_mLend_123 ⟨Nat.zero_le _, Nat.zero_le _⟩ (fun r hw => ?_)
          subst hw
          refine lv_istore_n (lv' := [(1, .int (F_mAg (ss ρ 14 (fun _ => 0)) (ρ 20 0) (ρ 17 0))), (0, .ref dM)]) hx hb d_mLend_126 rfl hl (by decide) rfl (fun ls hl => ?_)
          refine lv_iload_n hx hb d_mLend_127 rfl (lv_at hl 0 rfl) ?_
          refine lv_if_ge (tgt := 133) hx hb d_mLend_128 (by decide) (fun c_5 => ?_) (fun c_5 => ?_)
          · refine lv_aload_n hx hb d_mLend_133 rfl (lv_at hl 1 rfl) ?_
            refine lv_aload_n hx hb d_mLend_134 rfl (lv_at hl 1 rfl) ?_
            refine va_get (D := (dC, dI)) (ci := 4) (v := .int (ρ 20 0)) (C := R_Mod) (T := T_Mod) (N := 24) hx hb hts in_Mod hown hK hP 0 rfl rfl 17 (by decide) (hts _ mw_357) (fun _ h9 => h9) rfl d_mLend_135 ?_
            refine lv_aload_n hx hb d_mLend_138 rfl (lv_at hl 1 rfl) ?_
            refine va_get (D := (dC, dI)) (ci := 4) (v := .int (ρ 17 0)) (C := R_Mod) (T := T_Mod) (N := 24) hx hb hts in_Mod hown hK hP 0 rfl rfl 13 (by decide) (hts _ mw_353) (fun _ h9 => h9) rfl d_mLend_139 ?_
            refine xc_VWv (As := [.int (ρ 20 0), .int (ρ 17 0)]) (rest := []) (ci := 4) (wr := []) ⟨hx, hb, hml, hown, hts⟩ hT hK hP hD hS hA (c_mGo l dC dI cI cZ dM dM0 dM1 dM2 dM3 dM4 dM5 dM6 dM7 dM8 dM9 dM10 dM11 dM12 dM13 H.size (ss ρ 14 (fun _ => 0)) (ρ 20 0) (ρ 17 0) (by first | assumption | exact hsc.resolve_left ‹_› | exact m_lent hlm el | exact m_row hmo hkm ek emo ‹_› | exact hlo _ (clt (hsc.resolve_left ‹_›))) (by first | assumption | exact hsc.resolve_left ‹_› | exact m_lent hlm el | exact m_row hmo hkm ek emo ‹_› | exact hlo _ (clt (hsc.resolve_left ‹_›)))) [0, 1, 2, 3, 4, 5, 6, 7, 8, 9, 10, 11, 12, 13, 14] [] rfl (by decide) rfl (by decide) (by decide) (xw_V 2 hts mw_466 mw_19 mw_463 mw_465 mw_8 rfl rfl (by decide +kernel) ⟨Nat.le_of_ble_eq_true rfl, Nat.le_of_ble_eq_true rfl⟩) rfl rfl rfl hl.1 rfl (Nat.le_of_ble_eq_true rfl) d_mLend_142 ⟨Nat.zero_le _, Nat.zero_le _⟩ (fun u H locs hw hP hD hS => ?_)
            obtain ⟨v2_5, v2_6, v2_7, v2_8, v2_9⟩ := u
            have hv2_5 : v2_5 = (F_mGo (ss ρ 14 (fun _ => 0)) (ρ 20 0) (ρ 17 0)) 5 := congrArg (fun u : (Nat → Int32) × (Nat → Int32) × (Nat → Int32) × (Nat → Int32) × (Nat → Int32) => u.1) hw
            have hv2_6 : v2_6 = (F_mGo (ss ρ 14 (fun _ => 0)) (ρ 20 0) (ρ 17 0)) 6 := congrArg (fun u : (Nat → Int32) × (Nat → Int32) × (Nat → Int32) × (Nat → Int32) × (Nat → Int32) => u.2.1) hw
            have hv2_7 : v2_7 = (F_mGo (ss ρ 14 (fun _ => 0)) (ρ 20 0) (ρ 17 0)) 7 := congrArg (fun u : (Nat → Int32) × (Nat → Int32) × (Nat → Int32) × (Nat → Int32) × (Nat → Int32) => u.2.2.1) hw
            have hv2_8 : v2_8 = (F_mGo (ss ρ 14 (fun _ => 0)) (ρ 20 0) (ρ 17 0)) 8 := congrArg (fun u : (Nat → Int32) × (Nat → Int32) × (Nat → Int32) × (Nat → Int32) × (Nat → Int32) => u.2.2.2.1) hw
            have hv2_9 : v2_9 = (F_mGo (ss ρ 14 (fun _ => 0)) (ρ 20 0) (ρ 17 0)) 9 := congrArg (fun u : (Nat → Int32) × (Nat → Int32) × (Nat → Int32) × (Nat → Int32) × (Nat → Int32) => u.2.2.2.2) hw
            have hP : va_P (dC, dI) vwCl (w_Mod cI cZ dM dM0 dM1 dM2 dM3 dM4 dM5 dM6 dM7 dM8 dM9 dM10 dM11 dM12 dM13 (ρ 0) (ρ 1) (ρ 2) (ρ 3) (ρ 4) v2_5 v2_6 v2_7 v2_8 v2_9 (ρ 10) (ρ 11) (ρ 12) (ρ 13) 0 (ρ 15 0) (ρ 16 0) (ρ 17 0) (ρ 18 0) (ρ 19 0) (ρ 20 0) (ρ 21 0) (ρ 22 0) (ρ 23 0)) H := hP.sub [0, 1, 2, 3, 4, 5, 6, 7, 8, 9, 10, 11, 12, 13, 14] rfl
            have hD : va_D A (w_Mod cI cZ dM dM0 dM1 dM2 dM3 dM4 dM5 dM6 dM7 dM8 dM9 dM10 dM11 dM12 dM13 (ρ 0) (ρ 1) (ρ 2) (ρ 3) (ρ 4) v2_5 v2_6 v2_7 v2_8 v2_9 (ρ 10) (ρ 11) (ρ 12) (ρ 13) 0 (ρ 15 0) (ρ 16 0) (ρ 17 0) (ρ 18 0) (ρ 19 0) (ρ 20 0) (ρ 21 0) (ρ 22 0) (ρ 23 0)) := hD.sub [0, 1, 2, 3, 4, 5, 6, 7, 8, 9, 10, 11, 12, 13, 14] (by decide) rfl
            refine lv_aload_n hx hb d_mLend_145 rfl (lv_at hl 1 rfl) ?_
            refine lv_iconst (v := 1) hx hb d_mLend_146 (by decide) ?_
            refine va_put (D := (dC, dI)) (ci := 4) (v := .int 1) (ty := .boolean) (C := R_Mod) (T := T_Mod) (N := 24) hx hb hts in_Mod ty_Mod tyok_Mod nm_Mod hown hK hP hD hS 0 rfl rfl 18 (by decide) (hts _ mw_358) (fun _ h9 => h9) rfl (by decide +kernel) (by decide) rfl (Nat.le_of_ble_eq_true rfl) d_mLend_147 (fun H locs hP hD hS => ?_)
            have hP : va_P (dC, dI) vwCl (w_Mod cI cZ dM dM0 dM1 dM2 dM3 dM4 dM5 dM6 dM7 dM8 dM9 dM10 dM11 dM12 dM13 (ρ 0) (ρ 1) (ρ 2) (ρ 3) (ρ 4) v2_5 v2_6 v2_7 v2_8 v2_9 (ρ 10) (ρ 11) (ρ 12) (ρ 13) 0 (ρ 15 0) (ρ 16 0) (ρ 17 0) (ρ 18 0) (ρ 19 0) (ρ 20 0) 1 (ρ 22 0) (ρ 23 0)) H := hP
            have hD : va_D A (w_Mod cI cZ dM dM0 dM1 dM2 dM3 dM4 dM5 dM6 dM7 dM8 dM9 dM10 dM11 dM12 dM13 (ρ 0) (ρ 1) (ρ 2) (ρ 3) (ρ 4) v2_5 v2_6 v2_7 v2_8 v2_9 (ρ 10) (ρ 11) (ρ 12) (ρ 13) 0 (ρ 15 0) (ρ 16 0) (ρ 17 0) (ρ 18 0) (ρ 19 0) (ρ 20 0) 1 (ρ 22 0) (ρ 23 0)) := hD
            refine lv_aload_n hx hb d_mLend_150 rfl (lv_at hl 1 rfl) ?_
            refine va_get (D := (dC, dI)) (ci := 4) (v := .ref dM10) (C := R_Mod) (T := T_Mod) (N := 24) hx hb hts in_Mod hown hK hP 0 rfl rfl 15 (by decide) (hts _ mw_355) (fun _ h9 => h9) rfl d_mLend_151 ?_
            refine lv_aload_n hx hb d_mLend_154 rfl (lv_at hl 1 rfl) ?_
            refine va_get (D := (dC, dI)) (ci := 4) (v := .int (ρ 19 0)) (C := R_Mod) (T := T_Mod) (N := 24) hx hb hts in_Mod hown hK hP 0 rfl rfl 16 (by decide) (hts _ mw_356) (fun _ h9 => h9) rfl d_mLend_155 ?_
            refine lv_aload_n hx hb d_mLend_158 rfl (lv_at hl 1 rfl) ?_
            refine va_get (D := (dC, dI)) (ci := 4) (v := .int (ρ 20 0)) (C := R_Mod) (T := T_Mod) (N := 24) hx hb hts in_Mod hown hK hP 0 rfl rfl 17 (by decide) (hts _ mw_357) (fun _ h9 => h9) rfl d_mLend_159 ?_
            refine va_iast (n := 6000) (f := ρ 10) hx hb hK hP hD hS 11 0 rfl rfl (i := ρ 19 0) (x := ρ 20 0) (by first | assumption | exact hsc.resolve_left ‹_› | exact m_lent hlm el | exact m_row hmo hkm ek emo ‹_› | exact hlo _ (clt (hsc.resolve_left ‹_›))) d_mLend_162 (fun H locs hP hD hS => ?_)
            have hP : va_P (dC, dI) vwCl (w_Mod cI cZ dM dM0 dM1 dM2 dM3 dM4 dM5 dM6 dM7 dM8 dM9 dM10 dM11 dM12 dM13 (ρ 0) (ρ 1) (ρ 2) (ρ 3) (ρ 4) v2_5 v2_6 v2_7 v2_8 v2_9 (upd (ρ 10) (ρ 19 0).toNatClampNeg (ρ 20 0)) (ρ 11) (ρ 12) (ρ 13) 0 (ρ 15 0) (ρ 16 0) (ρ 17 0) (ρ 18 0) (ρ 19 0) (ρ 20 0) 1 (ρ 22 0) (ρ 23 0)) H := hP
            have hD : va_D A (w_Mod cI cZ dM dM0 dM1 dM2 dM3 dM4 dM5 dM6 dM7 dM8 dM9 dM10 dM11 dM12 dM13 (ρ 0) (ρ 1) (ρ 2) (ρ 3) (ρ 4) v2_5 v2_6 v2_7 v2_8 v2_9 (upd (ρ 10) (ρ 19 0).toNatClampNeg (ρ 20 0)) (ρ 11) (ρ 12) (ρ 13) 0 (ρ 15 0) (ρ 16 0) (ρ 17 0) (ρ 18 0) (ρ 19 0) (ρ 20 0) 1 (ρ 22 0) (ρ 23 0)) := hD
            refine lv_aload_n hx hb d_mLend_163 rfl (lv_at hl 1 rfl) ?_
            refine lv_dup hx hb d_mLend_164 rfl ?_
            refine va_get (D := (dC, dI)) (ci := 4) (v := .int (ρ 19 0)) (C := R_Mod) (T := T_Mod) (N := 24) hx hb hts in_Mod hown hK hP 0 rfl rfl 16 (by decide) (hts _ mw_356) (fun _ h9 => h9) rfl d_mLend_165 ?_
            refine lv_iconst (v := 1) hx hb d_mLend_168 (by decide) ?_
            refine lv_iadd hx hb d_mLend_169 ?_
            refine va_put (D := (dC, dI)) (ci := 4) (v := .int ((ρ 19 0) + 1)) (ty := .int) (C := R_Mod) (T := T_Mod) (N := 24) hx hb hts in_Mod ty_Mod tyok_Mod nm_Mod hown hK hP hD hS 0 rfl rfl 16 (by decide) (hts _ mw_356) (fun _ h9 => h9) rfl (by decide +kernel) rfl rfl (Nat.le_of_ble_eq_true rfl) d_mLend_170 (fun H locs hP hD hS => ?_)
            have hP : va_P (dC, dI) vwCl (w_Mod cI cZ dM dM0 dM1 dM2 dM3 dM4 dM5 dM6 dM7 dM8 dM9 dM10 dM11 dM12 dM13 (ρ 0) (ρ 1) (ρ 2) (ρ 3) (ρ 4) v2_5 v2_6 v2_7 v2_8 v2_9 (upd (ρ 10) (ρ 19 0).toNatClampNeg (ρ 20 0)) (ρ 11) (ρ 12) (ρ 13) 0 (ρ 15 0) (ρ 16 0) (ρ 17 0) (ρ 18 0) ((ρ 19 0) + 1) (ρ 20 0) 1 (ρ 22 0) (ρ 23 0)) H := hP
            have hD : va_D A (w_Mod cI cZ dM dM0 dM1 dM2 dM3 dM4 dM5 dM6 dM7 dM8 dM9 dM10 dM11 dM12 dM13 (ρ 0) (ρ 1) (ρ 2) (ρ 3) (ρ 4) v2_5 v2_6 v2_7 v2_8 v2_9 (upd (ρ 10) (ρ 19 0).toNatClampNeg (ρ 20 0)) (ρ 11) (ρ 12) (ρ 13) 0 (ρ 15 0) (ρ 16 0) (ρ 17 0) (ρ 18 0) ((ρ 19 0) + 1) (ρ 20 0) 1 (ρ 22 0) (ρ 23 0)) := hD
            refine lv_aload_n hx hb d_mLend_173 rfl (lv_at hl 1 rfl) ?_
            refine va_get (D := (dC, dI)) (ci := 4) (v := .int ((ρ 19 0) + 1)) (C := R_Mod) (T := T_Mod) (N := 24) hx hb hts in_Mod hown hK hP 0 rfl rfl 16 (by decide) (hts _ mw_356) (fun _ h9 => h9) rfl d_mLend_174 ?_
            have hF : F_mLend ρ = ((ρ 19 0) + 1, (ss (ss (ss (ss (ss (ss (ss (ss (ss ρ 5 v2_5) 6 v2_6) 7 v2_7) 8 v2_8) 9 v2_9) 10 (upd (ρ 10) (ρ 19 0).toNatClampNeg (ρ 20 0))) 14 (fun _ => 0)) 19 (fun _ => (ρ 19 0) + 1)) 21 (fun _ => 1))) := by subst hv2_5 hv2_6 hv2_7 hv2_8 hv2_9; exact ((if_pos c_1).trans ((if_neg c_2).trans ((if_pos c_3).trans ((if_pos c_4).trans ((if_pos c_5).trans rfl)))))
            exact W.iret (v := (ρ 19 0) + 1) hx hb hr (fun t ht hW => ⟨⟨(ρ 19 0) + 1, (ss (ss (ss (ss (ss (ss (ss (ss (ss ρ 5 v2_5) 6 v2_6) 7 v2_7) 8 v2_8) 9 v2_9) 10 (upd (ρ 10) (ρ 19 0).toNatClampNeg (ρ 20 0))) 14 (fun _ => 0)) 19 (fun _ => (ρ 19 0) + 1)) 21 (fun _ => 1)), rfl, ⟨(congrArg Prod.fst hF).symm, (congrArg Prod.snd hF).symm⟩, by rw [ht]; exact hP, hD⟩, hS.F ht⟩) hS.2.2 d_mLend_177
          · refine lv_iload_n hx hb d_mLend_131 rfl (lv_at hl 0 rfl) ?_
            have hF : F_mLend ρ = (F_mAg (ss ρ 14 (fun _ => 0)) (ρ 20 0) (ρ 17 0), (ss ρ 14 (fun _ => 0))) := (if_pos c_1).trans ((if_neg c_2).trans ((if_pos c_3).trans ((if_pos c_4).trans ((if_neg c_5).trans rfl))))
            exact W.iret (v := F_mAg (ss ρ 14 (fun _ => 0)) (ρ 20 0) (ρ 17 0)) hx hb hr (fun t ht hW => ⟨⟨F_mAg (ss ρ 14 (fun _ => 0)) (ρ 20 0) (ρ 17 0), (ss ρ 14 (fun _ => 0)), rfl, ⟨(congrArg Prod.fst hF).symm, (congrArg Prod.snd hF).symm⟩, by rw [ht]; exact hP, hD⟩, hS.F ht⟩) hS.2.2 d_mLend_132
        · refine lv_aload_n hx hb d_mLend_40 rfl (lv_at hl 0 rfl) ?_
          refine va_get (D := (dC, dI)) (ci := 4) (v := .int (ρ 19 0)) (C := R_Mod) (T := T_Mod) (N := 24) hx hb hts in_Mod hown hK hP 0 rfl rfl 16 (by decide) (hts _ mw_356) (fun _ h9 => h9) rfl d_mLend_41 ?_
          refine lv_iconst (v := 5) hx hb d_mLend_44 (by decide) ?_
          refine lv_icmp_ne (tgt := 51) hx hb d_mLend_45 (by decide) (fun c_6 => ?_) (fun c_6 => ?_)
          · refine lv_aload_n hx hb d_mLend_51 rfl (lv_at hl 0 rfl) ?_
            refine va_get (D := (dC, dI)) (ci := 4) (v := .int (ρ 22 0)) (C := R_Mod) (T := T_Mod) (N := 24) hx hb hts in_Mod hown hK hP 0 rfl rfl 21 (by decide) (hts _ mw_361) (fun _ h9 => h9) rfl d_mLend_52 ?_
            refine lv_aload_n hx hb d_mLend_55 rfl (lv_at hl 0 rfl) ?_
            refine va_get (D := (dC, dI)) (ci := 4) (v := .int (ρ 15 0)) (C := R_Mod) (T := T_Mod) (N := 24) hx hb hts in_Mod hown hK hP 0 rfl rfl 1 (by decide) (hts _ mw_341) (fun _ h9 => h9) rfl d_mLend_56 ?_
            refine lv_icmp_ne (tgt := 65) hx hb d_mLend_59 (by decide) (fun c_7 => ?_) (fun c_7 => ?_)
            · refine lv_aload_n hx hb d_mLend_65 rfl (lv_at hl 0 rfl) ?_
              refine va_get (D := (dC, dI)) (ci := 4) (v := .ref dM11) (C := R_Mod) (T := T_Mod) (N := 24) hx hb hts in_Mod hown hK hP 0 rfl rfl 19 (by decide) (hts _ mw_359) (fun _ h9 => h9) rfl d_mLend_66 ?_
              refine lv_aload_n hx hb d_mLend_69 rfl (lv_at hl 0 rfl) ?_
              refine va_get (D := (dC, dI)) (ci := 4) (v := .int (ρ 22 0)) (C := R_Mod) (T := T_Mod) (N := 24) hx hb hts in_Mod hown hK hP 0 rfl rfl 21 (by decide) (hts _ mw_361) (fun _ h9 => h9) rfl d_mLend_70 ?_
              refine lv_aload_n hx hb d_mLend_73 rfl (lv_at hl 0 rfl) ?_
              refine va_get (D := (dC, dI)) (ci := 4) (v := .int (ρ 20 0)) (C := R_Mod) (T := T_Mod) (N := 24) hx hb hts in_Mod hown hK hP 0 rfl rfl 17 (by decide) (hts _ mw_357) (fun _ h9 => h9) rfl d_mLend_74 ?_
              refine va_iast (n := 100) (f := ρ 11) hx hb hK hP hD hS 12 0 rfl rfl (i := ρ 22 0) (x := ρ 20 0) (by first | assumption | exact hsc.resolve_left ‹_› | exact m_lent hlm el | exact m_row hmo hkm ek emo ‹_› | exact hlo _ (clt (hsc.resolve_left ‹_›))) d_mLend_77 (fun H locs hP hD hS => ?_)
              have hP : va_P (dC, dI) vwCl (w_Mod cI cZ dM dM0 dM1 dM2 dM3 dM4 dM5 dM6 dM7 dM8 dM9 dM10 dM11 dM12 dM13 (ρ 0) (ρ 1) (ρ 2) (ρ 3) (ρ 4) (ρ 5) (ρ 6) (ρ 7) (ρ 8) (ρ 9) (ρ 10) (upd (ρ 11) (ρ 22 0).toNatClampNeg (ρ 20 0)) (ρ 12) (ρ 13) 0 (ρ 15 0) (ρ 16 0) (ρ 17 0) (ρ 18 0) (ρ 19 0) (ρ 20 0) (ρ 21 0) (ρ 22 0) (ρ 23 0)) H := hP
              have hD : va_D A (w_Mod cI cZ dM dM0 dM1 dM2 dM3 dM4 dM5 dM6 dM7 dM8 dM9 dM10 dM11 dM12 dM13 (ρ 0) (ρ 1) (ρ 2) (ρ 3) (ρ 4) (ρ 5) (ρ 6) (ρ 7) (ρ 8) (ρ 9) (ρ 10) (upd (ρ 11) (ρ 22 0).toNatClampNeg (ρ 20 0)) (ρ 12) (ρ 13) 0 (ρ 15 0) (ρ 16 0) (ρ 17 0) (ρ 18 0) (ρ 19 0) (ρ 20 0) (ρ 21 0) (ρ 22 0) (ρ 23 0)) := hD
              refine lv_aload_n hx hb d_mLend_78 rfl (lv_at hl 0 rfl) ?_
              refine va_get (D := (dC, dI)) (ci := 4) (v := .ref dM12) (C := R_Mod) (T := T_Mod) (N := 24) hx hb hts in_Mod hown hK hP 0 rfl rfl 20 (by decide) (hts _ mw_360) (fun _ h9 => h9) rfl d_mLend_79 ?_
              refine lv_aload_n hx hb d_mLend_82 rfl (lv_at hl 0 rfl) ?_
              refine va_get (D := (dC, dI)) (ci := 4) (v := .int (ρ 22 0)) (C := R_Mod) (T := T_Mod) (N := 24) hx hb hts in_Mod hown hK hP 0 rfl rfl 21 (by decide) (hts _ mw_361) (fun _ h9 => h9) rfl d_mLend_83 ?_
              refine lv_aload_n hx hb d_mLend_86 rfl (lv_at hl 0 rfl) ?_
              refine va_get (D := (dC, dI)) (ci := 4) (v := .int (ρ 17 0)) (C := R_Mod) (T := T_Mod) (N := 24) hx hb hts in_Mod hown hK hP 0 rfl rfl 13 (by decide) (hts _ mw_353) (fun _ h9 => h9) rfl d_mLend_87 ?_
              refine va_iast (n := 100) (f := ρ 12) hx hb hK hP hD hS 13 0 rfl rfl (i := ρ 22 0) (x := ρ 17 0) (by first | assumption | exact hsc.resolve_left ‹_› | exact m_lent hlm el | exact m_row hmo hkm ek emo ‹_› | exact hlo _ (clt (hsc.resolve_left ‹_›))) d_mLend_90 (fun H locs hP hD hS => ?_)
              have hP : va_P (dC, dI) vwCl (w_Mod cI cZ dM dM0 dM1 dM2 dM3 dM4 dM5 dM6 dM7 dM8 dM9 dM10 dM11 dM12 dM13 (ρ 0) (ρ 1) (ρ 2) (ρ 3) (ρ 4) (ρ 5) (ρ 6) (ρ 7) (ρ 8) (ρ 9) (ρ 10) (upd (ρ 11) (ρ 22 0).toNatClampNeg (ρ 20 0)) (upd (ρ 12) (ρ 22 0).toNatClampNeg (ρ 17 0)) (ρ 13) 0 (ρ 15 0) (ρ 16 0) (ρ 17 0) (ρ 18 0) (ρ 19 0) (ρ 20 0) (ρ 21 0) (ρ 22 0) (ρ 23 0)) H := hP
              have hD : va_D A (w_Mod cI cZ dM dM0 dM1 dM2 dM3 dM4 dM5 dM6 dM7 dM8 dM9 dM10 dM11 dM12 dM13 (ρ 0) (ρ 1) (ρ 2) (ρ 3) (ρ 4) (ρ 5) (ρ 6) (ρ 7) (ρ 8) (ρ 9) (ρ 10) (upd (ρ 11) (ρ 22 0).toNatClampNeg (ρ 20 0)) (upd (ρ 12) (ρ 22 0).toNatClampNeg (ρ 17 0)) (ρ 13) 0 (ρ 15 0) (ρ 16 0) (ρ 17 0) (ρ 18 0) (ρ 19 0) (ρ 20 0) (ρ 21 0) (ρ 22 0) (ρ 23 0)) := hD
              refine lv_aload_n hx hb d_mLend_91 rfl (lv_at hl 0 rfl) ?_
              refine lv_dup hx hb d_mLend_92 rfl ?_
              refine va_get (D := (dC, dI)) (ci := 4) (v := .int (ρ 22 0)) (C := R_Mod) (T := T_Mod) (N := 24) hx hb hts in_Mod hown hK hP 0 rfl rfl 21 (by decide) (hts _ mw_361) (fun _ h9 => h9) rfl d_mLend_93 ?_
              refine lv_iconst (v := 1) hx hb d_mLend_96 (by decide) ?_
              refine lv_iadd hx hb d_mLend_97 ?_
              refine va_put (D := (dC, dI)) (ci := 4) (v := .int ((ρ 22 0) + 1)) (ty := .int) (C := R_Mod) (T := T_Mod) (N := 24) hx hb hts in_Mod ty_Mod tyok_Mod nm_Mod hown hK hP hD hS 0 rfl rfl 21 (by decide) (hts _ mw_361) (fun _ h9 => h9) rfl (by decide +kernel) rfl rfl (Nat.le_of_ble_eq_true rfl) d_mLend_98 (fun H locs hP hD hS => ?_)
              have hP : va_P (dC, dI) vwCl (w_Mod cI cZ dM dM0 dM1 dM2 dM3 dM4 dM5 dM6 dM7 dM8 dM9 dM10 dM11 dM12 dM13 (ρ 0) (ρ 1) (ρ 2) (ρ 3) (ρ 4) (ρ 5) (ρ 6) (ρ 7) (ρ 8) (ρ 9) (ρ 10) (upd (ρ 11) (ρ 22 0).toNatClampNeg (ρ 20 0)) (upd (ρ 12) (ρ 22 0).toNatClampNeg (ρ 17 0)) (ρ 13) 0 (ρ 15 0) (ρ 16 0) (ρ 17 0) (ρ 18 0) (ρ 19 0) (ρ 20 0) (ρ 21 0) ((ρ 22 0) + 1) (ρ 23 0)) H := hP
              have hD : va_D A (w_Mod cI cZ dM dM0 dM1 dM2 dM3 dM4 dM5 dM6 dM7 dM8 dM9 dM10 dM11 dM12 dM13 (ρ 0) (ρ 1) (ρ 2) (ρ 3) (ρ 4) (ρ 5) (ρ 6) (ρ 7) (ρ 8) (ρ 9) (ρ 10) (upd (ρ 11) (ρ 22 0).toNatClampNeg (ρ 20 0)) (upd (ρ 12) (ρ 22 0).toNatClampNeg (ρ 17 0)) (ρ 13) 0 (ρ 15 0) (ρ 16 0) (ρ 17 0) (ρ 18 0) (ρ 19 0) (ρ 20 0) (ρ 21 0) ((ρ 22 0) + 1) (ρ 23 0)) := hD
              refine lv_aload_n hx hb d_mLend_101 rfl (lv_at hl 0 rfl) ?_
              refine va_get (D := (dC, dI)) (ci := 4) (v := .ref dM7) (C := R_Mod) (T := T_Mod) (N := 24) hx hb hts in_Mod hown hK hP 0 rfl rfl 9 (by decide) (hts _ mw_349) (fun _ h9 => h9) rfl d_mLend_102 ?_
              refine lv_aload_n hx hb d_mLend_105 rfl (lv_at hl 0 rfl) ?_
              refine va_get (D := (dC, dI)) (ci := 4) (v := .int (ρ 20 0)) (C := R_Mod) (T := T_Mod) (N := 24) hx hb hts in_Mod hown hK hP 0 rfl rfl 17 (by decide) (hts _ mw_357) (fun _ h9 => h9) rfl d_mLend_106 ?_
              refine lv_iconst (v := 1) hx hb d_mLend_109 (by decide) ?_
              refine va_zast (n := 60) (f := ρ 7) hx hb hK hP hD hS 8 1 rfl rfl (i := ρ 20 0) (x := 1) (by first | assumption | exact hsc.resolve_left ‹_› | exact m_lent hlm el | exact m_row hmo hkm ek emo ‹_› | exact hlo _ (clt (hsc.resolve_left ‹_›))) d_mLend_110 (fun H locs hP hD hS => ?_)
              have hP : va_P (dC, dI) vwCl (w_Mod cI cZ dM dM0 dM1 dM2 dM3 dM4 dM5 dM6 dM7 dM8 dM9 dM10 dM11 dM12 dM13 (ρ 0) (ρ 1) (ρ 2) (ρ 3) (ρ 4) (ρ 5) (ρ 6) (upd (ρ 7) (ρ 20 0).toNatClampNeg (vp_nar .boolean 1)) (ρ 8) (ρ 9) (ρ 10) (upd (ρ 11) (ρ 22 0).toNatClampNeg (ρ 20 0)) (upd (ρ 12) (ρ 22 0).toNatClampNeg (ρ 17 0)) (ρ 13) 0 (ρ 15 0) (ρ 16 0) (ρ 17 0) (ρ 18 0) (ρ 19 0) (ρ 20 0) (ρ 21 0) ((ρ 22 0) + 1) (ρ 23 0)) H := hP
              have hD : va_D A (w_Mod cI cZ dM dM0 dM1 dM2 dM3 dM4 dM5 dM6 dM7 dM8 dM9 dM10 dM11 dM12 dM13 (ρ 0) (ρ 1) (ρ 2) (ρ 3) (ρ 4) (ρ 5) (ρ 6) (upd (ρ 7) (ρ 20 0).toNatClampNeg (vp_nar .boolean 1)) (ρ 8) (ρ 9) (ρ 10) (upd (ρ 11) (ρ 22 0).toNatClampNeg (ρ 20 0)) (upd (ρ 12) (ρ 22 0).toNatClampNeg (ρ 17 0)) (ρ 13) 0 (ρ 15 0) (ρ 16 0) (ρ 17 0) (ρ 18 0) (ρ 19 0) (ρ 20 0) (ρ 21 0) ((ρ 22 0) + 1) (ρ 23 0)) := hD
              refine lv_goto (tgt := 145) hx hb d_mLend_111 (by decide) ?_
              refine lv_aload_n hx hb d_mLend_145 rfl (lv_at hl 0 rfl) ?_
              refine lv_iconst (v := 1) hx hb d_mLend_146 (by decide) ?_
              refine va_put (D := (dC, dI)) (ci := 4) (v := .int 1) (ty := .boolean) (C := R_Mod) (T := T_Mod) (N := 24) hx hb hts in_Mod ty_Mod tyok_Mod nm_Mod hown hK hP hD hS 0 rfl rfl 18 (by decide) (hts _ mw_358) (fun _ h9 => h9) rfl (by decide +kernel) (by decide) rfl (Nat.le_of_ble_eq_true rfl) d_mLend_147 (fun H locs hP hD hS => ?_)
              have hP : va_P (dC, dI) vwCl (w_Mod cI cZ dM dM0 dM1 dM2 dM3 dM4 dM5 dM6 dM7 dM8 dM9 dM10 dM11 dM12 dM13 (ρ 0) (ρ 1) (ρ 2) (ρ 3) (ρ 4) (ρ 5) (ρ 6) (upd (ρ 7) (ρ 20 0).toNatClampNeg (vp_nar .boolean 1)) (ρ 8) (ρ 9) (ρ 10) (upd (ρ 11) (ρ 22 0).toNatClampNeg (ρ 20 0)) (upd (ρ 12) (ρ 22 0).toNatClampNeg (ρ 17 0)) (ρ 13) 0 (ρ 15 0) (ρ 16 0) (ρ 17 0) (ρ 18 0) (ρ 19 0) (ρ 20 0) 1 ((ρ 22 0) + 1) (ρ 23 0)) H := hP
              have hD : va_D A (w_Mod cI cZ dM dM0 dM1 dM2 dM3 dM4 dM5 dM6 dM7 dM8 dM9 dM10 dM11 dM12 dM13 (ρ 0) (ρ 1) (ρ 2) (ρ 3) (ρ 4) (ρ 5) (ρ 6) (upd (ρ 7) (ρ 20 0).toNatClampNeg (vp_nar .boolean 1)) (ρ 8) (ρ 9) (ρ 10) (upd (ρ 11) (ρ 22 0).toNatClampNeg (ρ 20 0)) (upd (ρ 12) (ρ 22 0).toNatClampNeg (ρ 17 0)) (ρ 13) 0 (ρ 15 0) (ρ 16 0) (ρ 17 0) (ρ 18 0) (ρ 19 0) (ρ 20 0) 1 ((ρ 22 0) + 1) (ρ 23 0)) := hD
              refine lv_aload_n hx hb d_mLend_150 rfl (lv_at hl 0 rfl) ?_
              refine va_get (D := (dC, dI)) (ci := 4) (v := .ref dM10) (C := R_Mod) (T := T_Mod) (N := 24) hx hb hts in_Mod hown hK hP 0 rfl rfl 15 (by decide) (hts _ mw_355) (fun _ h9 => h9) rfl d_mLend_151 ?_
              refine lv_aload_n hx hb d_mLend_154 rfl (lv_at hl 0 rfl) ?_
              refine va_get (D := (dC, dI)) (ci := 4) (v := .int (ρ 19 0)) (C := R_Mod) (T := T_Mod) (N := 24) hx hb hts in_Mod hown hK hP 0 rfl rfl 16 (by decide) (hts _ mw_356) (fun _ h9 => h9) rfl d_mLend_155 ?_
              refine lv_aload_n hx hb d_mLend_158 rfl (lv_at hl 0 rfl) ?_
              refine va_get (D := (dC, dI)) (ci := 4) (v := .int (ρ 20 0)) (C := R_Mod) (T := T_Mod) (N := 24) hx hb hts in_Mod hown hK hP 0 rfl rfl 17 (by decide) (hts _ mw_357) (fun _ h9 => h9) rfl d_mLend_159 ?_
              refine va_iast (n := 6000) (f := ρ 10) hx hb hK hP hD hS 11 0 rfl rfl (i := ρ 19 0) (x := ρ 20 0) (by first | assumption | exact hsc.resolve_left ‹_› | exact m_lent hlm el | exact m_row hmo hkm ek emo ‹_› | exact hlo _ (clt (hsc.resolve_left ‹_›))) d_mLend_162 (fun H locs hP hD hS => ?_)
              have hP : va_P (dC, dI) vwCl (w_Mod cI cZ dM dM0 dM1 dM2 dM3 dM4 dM5 dM6 dM7 dM8 dM9 dM10 dM11 dM12 dM13 (ρ 0) (ρ 1) (ρ 2) (ρ 3) (ρ 4) (ρ 5) (ρ 6) (upd (ρ 7) (ρ 20 0).toNatClampNeg (vp_nar .boolean 1)) (ρ 8) (ρ 9) (upd (ρ 10) (ρ 19 0).toNatClampNeg (ρ 20 0)) (upd (ρ 11) (ρ 22 0).toNatClampNeg (ρ 20 0)) (upd (ρ 12) (ρ 22 0).toNatClampNeg (ρ 17 0)) (ρ 13) 0 (ρ 15 0) (ρ 16 0) (ρ 17 0) (ρ 18 0) (ρ 19 0) (ρ 20 0) 1 ((ρ 22 0) + 1) (ρ 23 0)) H := hP
              have hD : va_D A (w_Mod cI cZ dM dM0 dM1 dM2 dM3 dM4 dM5 dM6 dM7 dM8 dM9 dM10 dM11 dM12 dM13 (ρ 0) (ρ 1) (ρ 2) (ρ 3) (ρ 4) (ρ 5) (ρ 6) (upd (ρ 7) (ρ 20 0).toNatClampNeg (vp_nar .boolean 1)) (ρ 8) (ρ 9) (upd (ρ 10) (ρ 19 0).toNatClampNeg (ρ 20 0)) (upd (ρ 11) (ρ 22 0).toNatClampNeg (ρ 20 0)) (upd (ρ 12) (ρ 22 0).toNatClampNeg (ρ 17 0)) (ρ 13) 0 (ρ 15 0) (ρ 16 0) (ρ 17 0) (ρ 18 0) (ρ 19 0) (ρ 20 0) 1 ((ρ 22 0) + 1) (ρ 23 0)) := hD
              refine lv_aload_n hx hb d_mLend_163 rfl (lv_at hl 0 rfl) ?_
              refine lv_dup hx hb d_mLend_164 rfl ?_
              refine va_get (D := (dC, dI)) (ci := 4) (v := .int (ρ 19 0)) (C := R_Mod) (T := T_Mod) (N := 24) hx hb hts in_Mod hown hK hP 0 rfl rfl 16 (by decide) (hts _ mw_356) (fun _ h9 => h9) rfl d_mLend_165 ?_
              refine lv_iconst (v := 1) hx hb d_mLend_168 (by decide) ?_
              refine lv_iadd hx hb d_mLend_169 ?_
              refine va_put (D := (dC, dI)) (ci := 4) (v := .int ((ρ 19 0) + 1)) (ty := .int) (C := R_Mod) (T := T_Mod) (N := 24) hx hb hts in_Mod ty_Mod tyok_Mod nm_Mod hown hK hP hD hS 0 rfl rfl 16 (by decide) (hts _ mw_356) (fun _ h9 => h9) rfl (by decide +kernel) rfl rfl (Nat.le_of_ble_eq_true rfl) d_mLend_170 (fun H locs hP hD hS => ?_)
              have hP : va_P (dC, dI) vwCl (w_Mod cI cZ dM dM0 dM1 dM2 dM3 dM4 dM5 dM6 dM7 dM8 dM9 dM10 dM11 dM12 dM13 (ρ 0) (ρ 1) (ρ 2) (ρ 3) (ρ 4) (ρ 5) (ρ 6) (upd (ρ 7) (ρ 20 0).toNatClampNeg (vp_nar .boolean 1)) (ρ 8) (ρ 9) (upd (ρ 10) (ρ 19 0).toNatClampNeg (ρ 20 0)) (upd (ρ 11) (ρ 22 0).toNatClampNeg (ρ 20 0)) (upd (ρ 12) (ρ 22 0).toNatClampNeg (ρ 17 0)) (ρ 13) 0 (ρ 15 0) (ρ 16 0) (ρ 17 0) (ρ 18 0) ((ρ 19 0) + 1) (ρ 20 0) 1 ((ρ 22 0) + 1) (ρ 23 0)) H := hP
              have hD : va_D A (w_Mod cI cZ dM dM0 dM1 dM2 dM3 dM4 dM5 dM6 dM7 dM8 dM9 dM10 dM11 dM12 dM13 (ρ 0) (ρ 1) (ρ 2) (ρ 3) (ρ 4) (ρ 5) (ρ 6) (upd (ρ 7) (ρ 20 0).toNatClampNeg (vp_nar .boolean 1)) (ρ 8) (ρ 9) (upd (ρ 10) (ρ 19 0).toNatClampNeg (ρ 20 0)) (upd (ρ 11) (ρ 22 0).toNatClampNeg (ρ 20 0)) (upd (ρ 12) (ρ 22 0).toNatClampNeg (ρ 17 0)) (ρ 13) 0 (ρ 15 0) (ρ 16 0) (ρ 17 0) (ρ 18 0) ((ρ 19 0) + 1) (ρ 20 0) 1 ((ρ 22 0) + 1) (ρ 23 0)) := hD
              refine lv_aload_n hx hb d_mLend_173 rfl (lv_at hl 0 rfl) ?_
              refine va_get (D := (dC, dI)) (ci := 4) (v := .int ((ρ 19 0) + 1)) (C := R_Mod) (T := T_Mod) (N := 24) hx hb hts in_Mod hown hK hP 0 rfl rfl 16 (by decide) (hts _ mw_356) (fun _ h9 => h9) rfl d_mLend_174 ?_
              have hF : F_mLend ρ = ((ρ 19 0) + 1, (ss (ss (ss (ss (ss (ss (ss (ss ρ 7 (upd (ρ 7) (ρ 20 0).toNatClampNeg (vp_nar .boolean 1))) 10 (upd (ρ 10) (ρ 19 0).toNatClampNeg (ρ 20 0))) 11 (upd (ρ 11) (ρ 22 0).toNatClampNeg (ρ 20 0))) 12 (upd (ρ 12) (ρ 22 0).toNatClampNeg (ρ 17 0))) 14 (fun _ => 0)) 19 (fun _ => (ρ 19 0) + 1)) 21 (fun _ => 1)) 22 (fun _ => (ρ 22 0) + 1))) := (if_pos c_1).trans ((if_neg c_2).trans ((if_pos c_3).trans ((if_neg c_4).trans ((if_neg c_6).trans ((if_neg c_7).trans rfl)))))
              exact W.iret (v := (ρ 19 0) + 1) hx hb hr (fun t ht hW => ⟨⟨(ρ 19 0) + 1, (ss (ss (ss (ss (ss (ss (ss (ss ρ 7 (upd (ρ 7) (ρ 20 0).toNatClampNeg (vp_nar .boolean 1))) 10 (upd (ρ 10) (ρ 19 0).toNatClampNeg (ρ 20 0))) 11 (upd (ρ 11) (ρ 22 0).toNatClampNeg (ρ 20 0))) 12 (upd (ρ 12) (ρ 22 0).toNatClampNeg (ρ 17 0))) 14 (fun _ => 0)) 19 (fun _ => (ρ 19 0) + 1)) 21 (fun _ => 1)) 22 (fun _ => (ρ 22 0) + 1)), rfl, ⟨(congrArg Prod.fst hF).symm, (congrArg Prod.snd hF).symm⟩, by rw [ht]; exact hP, hD⟩, hS.F ht⟩) hS.2.2 d_mLend_177
            · refine lv_bipush (v := -7) hx hb d_mLend_62 (by decide) ?_
              have hF : F_mLend ρ = (-7, (ss ρ 14 (fun _ => 0))) := (if_pos c_1).trans ((if_neg c_2).trans ((if_pos c_3).trans ((if_neg c_4).trans ((if_neg c_6).trans ((if_pos c_7).trans rfl)))))
              exact W.iret (v := -7) hx hb hr (fun t ht hW => ⟨⟨-7, (ss ρ 14 (fun _ => 0)), rfl, ⟨(congrArg Prod.fst hF).symm, (congrArg Prod.snd hF).symm⟩, by rw [ht]; exact hP, hD⟩, hS.F ht⟩) hS.2.2 d_mLend_64
          · refine lv_bipush (v := -6) hx hb d_mLend_48 (by decide) ?_
            have hF : F_mLend ρ = (-6, (ss ρ 14 (fun _ => 0))) := (if_pos c_1).trans ((if_neg c_2).trans ((if_pos c_3).trans ((if_neg c_4).trans ((if_pos c_6).trans rfl))))
            exact W.iret (v := -6) hx hb hr (fun t ht hW => ⟨⟨-6, (ss ρ 14 (fun _ => 0)), rfl, ⟨(congrArg Prod.fst hF).symm, (congrArg Prod.snd hF).symm⟩, by rw [ht]; exact hP, hD⟩, hS.F ht⟩) hS.2.2 d_mLend_50
      · refine lv_iconst (v := -1) hx hb d_mLend_31 (by decide) ?_
        have hF : F_mLend ρ = (-1, (ss ρ 14 (fun _ => 0))) := (if_pos c_1).trans ((if_neg c_2).trans ((if_neg c_3).trans rfl))
        exact W.iret (v := -1) hx hb hr (fun t ht hW => ⟨⟨-1, (ss ρ 14 (fun _ => 0)), rfl, ⟨(congrArg Prod.fst hF).symm, (congrArg Prod.snd hF).symm⟩, by rw [ht]; exact hP, hD⟩, hS.F ht⟩) hS.2.2 d_mLend_32
  · refine lv_bipush (v := -8) hx hb d_mLend_13 (by decide) ?_
    have hF : F_mLend ρ = (-8, (ss ρ 14 (fun _ => 0))) := (if_neg c_1).trans rfl
    exact W.iret (v := -8) hx hb hr (fun t ht hW => ⟨⟨-8, (ss ρ 14 (fun _ => 0)), rfl, ⟨(congrArg Prod.fst hF).symm, (congrArg Prod.snd hF).symm⟩, by rw [ht]; exact hP, hD⟩, hS.F ht⟩) hS.2.2 d_mLend_15
