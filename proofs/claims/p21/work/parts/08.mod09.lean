def F_mReceipt (ρ : SS) (q1 : Int32) : Int32 × SS :=
  if q1 < 0 then
    (-1, (ss ρ 14 (fun _ => 0)))
  else
    if q1 < (ρ 19 0) then
      (ρ 10 q1.toNatClampNeg, (ss ρ 14 (fun _ => 0)))
    else
      (-1, (ss ρ 14 (fun _ => 0)))
set_option maxHeartbeats 4000000 in
set_option maxRecDepth 100000 in
theorem c_mReceipt (l : Launch) (dC : Nat → ClassId) (dI : Nat → Nat → Nat) (cI cZ : ClassId) (dM dM0 dM1 dM2 dM3 dM4 dM5 dM6 dM7 dM8 dM9 dM10 dM11 dM12 dM13 : Nat) (sz : Nat) (ρ : SS) (q1 : Int32) (hM : MInv ρ) : Met l y_mReceipt [Cond.code y_mReceipt prog_6_method_28_code 2 (some .int)] ({ frames := 0, cells := 0, slots := 0, locals := 0 }) (pcW (dC, dI) (w_Mod cI cZ dM dM0 dM1 dM2 dM3 dM4 dM5 dM6 dM7 dM8 dM9 dM10 dM11 dM12 dM13 (ρ 0) (ρ 1) (ρ 2) (ρ 3) (ρ 4) (ρ 5) (ρ 6) (ρ 7) (ρ 8) (ρ 9) (ρ 10) (ρ 11) (ρ 12) (ρ 13) (ρ 14 0) (ρ 15 0) (ρ 16 0) (ρ 17 0) (ρ 18 0) (ρ 19 0) (ρ 20 0) (ρ 21 0) (ρ 22 0) (ρ 23 0)) (tyC cI cZ) sz [.ref dM, .int q1]) (qI (fun r u => r = (F_mReceipt ρ q1).1 ∧ u = (F_mReceipt ρ q1).2) (dC, dI) (fun u : SS => w_Mod cI cZ dM dM0 dM1 dM2 dM3 dM4 dM5 dM6 dM7 dM8 dM9 dM10 dM11 dM12 dM13 (u 0) (u 1) (u 2) (u 3) (u 4) (u 5) (u 6) (u 7) (u 8) (u 9) (u 10) (u 11) (u 12) (u 13) (u 14 0) (u 15 0) (u 16 0) (u 17 0) (u 18 0) (u 19 0) (u 20 0) (u 21 0) (u 22 0) (u 23 0)) (va_A (w_Mod cI cZ dM dM0 dM1 dM2 dM3 dM4 dM5 dM6 dM7 dM8 dM9 dM10 dM11 dM12 dM13 (ρ 0) (ρ 1) (ρ 2) (ρ 3) (ρ 4) (ρ 5) (ρ 6) (ρ 7) (ρ 8) (ρ 9) (ρ 10) (ρ 11) (ρ 12) (ρ 13) (ρ 14 0) (ρ 15 0) (ρ 16 0) (ρ 17 0) (ρ 18 0) (ρ 19 0) (ρ 20 0) (ρ 21 0) (ρ 22 0) (ρ 23 0)) sz)) 0 0 (va_A (w_Mod cI cZ dM dM0 dM1 dM2 dM3 dM4 dM5 dM6 dM7 dM8 dM9 dM10 dM11 dM12 dM13 (ρ 0) (ρ 1) (ρ 2) (ρ 3) (ρ 4) (ρ 5) (ρ 6) (ρ 7) (ρ 8) (ρ 9) (ρ 10) (ρ 11) (ρ 12) (ρ 13) (ρ 14 0) (ρ 15 0) (ρ 16 0) (ρ 17 0) (ρ 18 0) (ρ 19 0) (ρ 20 0) (ρ 21 0) (ρ 22 0) (ρ 23 0)) sz) := by
  refine Met.ofW (cc := prog_6_method_28_code) (maxL := 2) (ret := (some .int)) (by decide) rfl ?_
  intro p e s m args below meth c s₁ B hml hv
  obtain ⟨rfl, hsz, hT, hP, hK, hD0⟩ := hv
  have hx := B.exec
  have hb := B.bytes
  have hr := B.returns
  have hts : ∀ w ∈ lw_ok, w.before ([.ref dM, .int q1] : List Value).toArray s = true := hT.use
  have hown : s.vm.findClass R_Mod = some m.cls := findClass_of_methodNamed B.named
  have hlocks := B.notSynchronized
  subst hsz
  have hD := hD0.self (sz := s.heap.size)
  generalize hAe : va_A (w_Mod cI cZ dM dM0 dM1 dM2 dM3 dM4 dM5 dM6 dM7 dM8 dM9 dM10 dM11 dM12 dM13 (ρ 0) (ρ 1) (ρ 2) (ρ 3) (ρ 4) (ρ 5) (ρ 6) (ρ 7) (ρ 8) (ρ 9) (ρ 10) (ρ 11) (ρ 12) (ρ 13) (ρ 14 0) (ρ 15 0) (ρ 16 0) (ρ 17 0) (ρ 18 0) (ρ 19 0) (ρ 20 0) (ρ 21 0) (ρ 22 0) (ρ 23 0)) s.heap.size = A at hD ⊢
  have hA : ∀ q : Nat, s.heap.size ≤ q → A q := fun q h => by rw [← hAe]; exact Or.inr h
  have hS : va_S A s.heap s.heap [] := va_S.rf
  have hl := lv_entry ([.ref dM, .int q1]) (n := 2) (Nat.le_of_ble_eq_true rfl)
  rw [lg_entry_eq]
  generalize (lg_sl ([.ref dM, .int q1]) ++ List.replicate (2 - (lg_sl ([.ref dM, .int q1])).length) Slot.unset).toArray = ls at hl ⊢
  have hl : lv_has ls 2 [(0, .ref dM), (1, .int q1)] := hl
  obtain ⟨mo, hmo, emo, hof, hre, hlo, hlk, ⟨kc, hkm, ek, hrow, hlend⟩, ⟨xc, hxm, ex⟩, hpe, hsc, ⟨lc, hlm, el, hrec⟩⟩ := id hM
  refine lv_aload_n hx hb d_mReceipt_0 rfl (lv_at hl 0 rfl) ?_
  refine lv_iconst (v := 0) hx hb d_mReceipt_1 (by decide) ?_
  refine va_put (D := (dC, dI)) (ci := 4) (v := .int 0) (ty := .int) (C := R_Mod) (T := T_Mod) (N := 24) hx hb hts in_Mod ty_Mod tyok_Mod nm_Mod hown hK hP hD hS 0 rfl rfl 0 (by decide) (hts _ mw_340) (fun _ h9 => h9) rfl (by decide +kernel) rfl rfl (Nat.le_of_ble_eq_true rfl) d_mReceipt_2 (fun H locs hP hD hS => ?_)
  have hP : va_P (dC, dI) vwCl (w_Mod cI cZ dM dM0 dM1 dM2 dM3 dM4 dM5 dM6 dM7 dM8 dM9 dM10 dM11 dM12 dM13 (ρ 0) (ρ 1) (ρ 2) (ρ 3) (ρ 4) (ρ 5) (ρ 6) (ρ 7) (ρ 8) (ρ 9) (ρ 10) (ρ 11) (ρ 12) (ρ 13) 0 (ρ 15 0) (ρ 16 0) (ρ 17 0) (ρ 18 0) (ρ 19 0) (ρ 20 0) (ρ 21 0) (ρ 22 0) (ρ 23 0)) H := hP
  have hD : va_D A (w_Mod cI cZ dM dM0 dM1 dM2 dM3 dM4 dM5 dM6 dM7 dM8 dM9 dM10 dM11 dM12 dM13 (ρ 0) (ρ 1) (ρ 2) (ρ 3) (ρ 4) (ρ 5) (ρ 6) (ρ 7) (ρ 8) (ρ 9) (ρ 10) (ρ 11) (ρ 12) (ρ 13) 0 (ρ 15 0) (ρ 16 0) (ρ 17 0) (ρ 18 0) (ρ 19 0) (ρ 20 0) (ρ 21 0) (ρ 22 0) (ρ 23 0)) := hD
  refine lv_iload_n hx hb d_mReceipt_5 rfl (lv_at hl 1 rfl) ?_
  refine lv_if_lt (tgt := 17) hx hb d_mReceipt_6 (by decide) (fun c_1 => ?_) (fun c_1 => ?_)
  · refine lv_iconst (v := -1) hx hb d_mReceipt_17 (by decide) ?_
    refine lv_goto (tgt := 27) hx hb d_mReceipt_18 (by decide) ?_
    have hF : F_mReceipt ρ q1 = (-1, (ss ρ 14 (fun _ => 0))) := (if_pos c_1).trans rfl
    exact W.iret (v := -1) hx hb hr (fun t ht hW => ⟨⟨-1, (ss ρ 14 (fun _ => 0)), rfl, ⟨(congrArg Prod.fst hF).symm, (congrArg Prod.snd hF).symm⟩, by rw [ht]; exact hP, hD⟩, hS.F ht⟩) hS.2.2 d_mReceipt_27
  · refine lv_iload_n hx hb d_mReceipt_9 rfl (lv_at hl 1 rfl) ?_
    refine lv_aload_n hx hb d_mReceipt_10 rfl (lv_at hl 0 rfl) ?_
    refine va_get (D := (dC, dI)) (ci := 4) (v := .int (ρ 19 0)) (C := R_Mod) (T := T_Mod) (N := 24) hx hb hts in_Mod hown hK hP 0 rfl rfl 16 (by decide) (hts _ mw_356) (fun _ h9 => h9) rfl d_mReceipt_11 ?_
    refine lv_icmp_lt (tgt := 21) hx hb d_mReceipt_14 (by decide) (fun c_2 => ?_) (fun c_2 => ?_)
    · refine lv_aload_n hx hb d_mReceipt_21 rfl (lv_at hl 0 rfl) ?_
      refine va_get (D := (dC, dI)) (ci := 4) (v := .ref dM10) (C := R_Mod) (T := T_Mod) (N := 24) hx hb hts in_Mod hown hK hP 0 rfl rfl 15 (by decide) (hts _ mw_355) (fun _ h9 => h9) rfl d_mReceipt_22 ?_
      refine lv_iload_n hx hb d_mReceipt_25 rfl (lv_at hl 1 rfl) ?_
      refine va_iald (n := 6000) (f := ρ 10) hx hb hK hP 11 0 rfl rfl (i := q1) (by first | assumption | exact in_rc el hlm ‹_› ‹_›) d_mReceipt_26 ?_
      have hF : F_mReceipt ρ q1 = (ρ 10 q1.toNatClampNeg, (ss ρ 14 (fun _ => 0))) := (if_neg c_1).trans ((if_pos c_2).trans rfl)
      exact W.iret (v := ρ 10 q1.toNatClampNeg) hx hb hr (fun t ht hW => ⟨⟨ρ 10 q1.toNatClampNeg, (ss ρ 14 (fun _ => 0)), rfl, ⟨(congrArg Prod.fst hF).symm, (congrArg Prod.snd hF).symm⟩, by rw [ht]; exact hP, hD⟩, hS.F ht⟩) hS.2.2 d_mReceipt_27
    · refine lv_iconst (v := -1) hx hb d_mReceipt_17 (by decide) ?_
      refine lv_goto (tgt := 27) hx hb d_mReceipt_18 (by decide) ?_
      have hF : F_mReceipt ρ q1 = (-1, (ss ρ 14 (fun _ => 0))) := (if_neg c_1).trans ((if_neg c_2).trans rfl)
      exact W.iret (v := -1) hx hb hr (fun t ht hW => ⟨⟨-1, (ss ρ 14 (fun _ => 0)), rfl, ⟨(congrArg Prod.fst hF).symm, (congrArg Prod.snd hF).symm⟩, by rw [ht]; exact hP, hD⟩, hS.F ht⟩) hS.2.2 d_mReceipt_27
def F_mScreen (ρ : SS) : Int32 × SS :=
  if (ρ 16 0) = 0 then
    if (ρ 18 0) = 0 then
      ((0 + (ρ 16 0)) + 0, (ss ρ 14 (fun _ => 0)))
    else
      ((0 + (ρ 16 0)) + 5, (ss ρ 14 (fun _ => 0)))
  else
    if (ρ 18 0) = 0 then
      (((10 * (ρ 1 (ρ 17 0).toNatClampNeg)) + (ρ 16 0)) + 0, (ss ρ 14 (fun _ => 0)))
    else
      (((10 * (ρ 1 (ρ 17 0).toNatClampNeg)) + (ρ 16 0)) + 5, (ss ρ 14 (fun _ => 0)))
set_option maxHeartbeats 4000000 in
set_option maxRecDepth 100000 in
theorem c_mScreen (l : Launch) (dC : Nat → ClassId) (dI : Nat → Nat → Nat) (cI cZ : ClassId) (dM dM0 dM1 dM2 dM3 dM4 dM5 dM6 dM7 dM8 dM9 dM10 dM11 dM12 dM13 : Nat) (sz : Nat) (ρ : SS) (hM : MInv ρ) : Met l y_mScreen [Cond.code y_mScreen prog_6_method_29_code 1 (some .int)] ({ frames := 0, cells := 0, slots := 0, locals := 0 }) (pcW (dC, dI) (w_Mod cI cZ dM dM0 dM1 dM2 dM3 dM4 dM5 dM6 dM7 dM8 dM9 dM10 dM11 dM12 dM13 (ρ 0) (ρ 1) (ρ 2) (ρ 3) (ρ 4) (ρ 5) (ρ 6) (ρ 7) (ρ 8) (ρ 9) (ρ 10) (ρ 11) (ρ 12) (ρ 13) (ρ 14 0) (ρ 15 0) (ρ 16 0) (ρ 17 0) (ρ 18 0) (ρ 19 0) (ρ 20 0) (ρ 21 0) (ρ 22 0) (ρ 23 0)) (tyC cI cZ) sz [.ref dM]) (qI (fun r u => r = (F_mScreen ρ).1 ∧ u = (F_mScreen ρ).2) (dC, dI) (fun u : SS => w_Mod cI cZ dM dM0 dM1 dM2 dM3 dM4 dM5 dM6 dM7 dM8 dM9 dM10 dM11 dM12 dM13 (u 0) (u 1) (u 2) (u 3) (u 4) (u 5) (u 6) (u 7) (u 8) (u 9) (u 10) (u 11) (u 12) (u 13) (u 14 0) (u 15 0) (u 16 0) (u 17 0) (u 18 0) (u 19 0) (u 20 0) (u 21 0) (u 22 0) (u 23 0)) (va_A (w_Mod cI cZ dM dM0 dM1 dM2 dM3 dM4 dM5 dM6 dM7 dM8 dM9 dM10 dM11 dM12 dM13 (ρ 0) (ρ 1) (ρ 2) (ρ 3) (ρ 4) (ρ 5) (ρ 6) (ρ 7) (ρ 8) (ρ 9) (ρ 10) (ρ 11) (ρ 12) (ρ 13) (ρ 14 0) (ρ 15 0) (ρ 16 0) (ρ 17 0) (ρ 18 0) (ρ 19 0) (ρ 20 0) (ρ 21 0) (ρ 22 0) (ρ 23 0)) sz)) 0 0 (va_A (w_Mod cI cZ dM dM0 dM1 dM2 dM3 dM4 dM5 dM6 dM7 dM8 dM9 dM10 dM11 dM12 dM13 (ρ 0) (ρ 1) (ρ 2) (ρ 3) (ρ 4) (ρ 5) (ρ 6) (ρ 7) (ρ 8) (ρ 9) (ρ 10) (ρ 11) (ρ 12) (ρ 13) (ρ 14 0) (ρ 15 0) (ρ 16 0) (ρ 17 0) (ρ 18 0) (ρ 19 0) (ρ 20 0) (ρ 21 0) (ρ 22 0) (ρ 23 0)) sz) := by
  refine Met.ofW (cc := prog_6_method_29_code) (maxL := 1) (ret := (some .int)) (by decide) rfl ?_
  intro p e s m args below meth c s₁ B hml hv
  obtain ⟨rfl, hsz, hT, hP, hK, hD0⟩ := hv
  have hx := B.exec
  have hb := B.bytes
  have hr := B.returns
  have hts : ∀ w ∈ lw_ok, w.before ([.ref dM] : List Value).toArray s = true := hT.use
  have hown : s.vm.findClass R_Mod = some m.cls := findClass_of_methodNamed B.named
  have hlocks := B.notSynchronized
  subst hsz
  have hD := hD0.self (sz := s.heap.size)
  generalize hAe : va_A (w_Mod cI cZ dM dM0 dM1 dM2 dM3 dM4 dM5 dM6 dM7 dM8 dM9 dM10 dM11 dM12 dM13 (ρ 0) (ρ 1) (ρ 2) (ρ 3) (ρ 4) (ρ 5) (ρ 6) (ρ 7) (ρ 8) (ρ 9) (ρ 10) (ρ 11) (ρ 12) (ρ 13) (ρ 14 0) (ρ 15 0) (ρ 16 0) (ρ 17 0) (ρ 18 0) (ρ 19 0) (ρ 20 0) (ρ 21 0) (ρ 22 0) (ρ 23 0)) s.heap.size = A at hD ⊢
  have hA : ∀ q : Nat, s.heap.size ≤ q → A q := fun q h => by rw [← hAe]; exact Or.inr h
  have hS : va_S A s.heap s.heap [] := va_S.rf
  have hl := lv_entry ([.ref dM]) (n := 1) (Nat.le_of_ble_eq_true rfl)
  rw [lg_entry_eq]
  generalize (lg_sl ([.ref dM]) ++ List.replicate (1 - (lg_sl ([.ref dM])).length) Slot.unset).toArray = ls at hl ⊢
  have hl : lv_has ls 1 [(0, .ref dM)] := hl
  obtain ⟨mo, hmo, emo, hof, hre, hlo, hlk, ⟨kc, hkm, ek, hrow, hlend⟩, ⟨xc, hxm, ex⟩, hpe, hsc, ⟨lc, hlm, el, hrec⟩⟩ := id hM
  refine lv_aload_n hx hb d_mScreen_0 rfl (lv_at hl 0 rfl) ?_
  refine lv_iconst (v := 0) hx hb d_mScreen_1 (by decide) ?_
  refine va_put (D := (dC, dI)) (ci := 4) (v := .int 0) (ty := .int) (C := R_Mod) (T := T_Mod) (N := 24) hx hb hts in_Mod ty_Mod tyok_Mod nm_Mod hown hK hP hD hS 0 rfl rfl 0 (by decide) (hts _ mw_340) (fun _ h9 => h9) rfl (by decide +kernel) rfl rfl (Nat.le_of_ble_eq_true rfl) d_mScreen_2 (fun H locs hP hD hS => ?_)
  have hP : va_P (dC, dI) vwCl (w_Mod cI cZ dM dM0 dM1 dM2 dM3 dM4 dM5 dM6 dM7 dM8 dM9 dM10 dM11 dM12 dM13 (ρ 0) (ρ 1) (ρ 2) (ρ 3) (ρ 4) (ρ 5) (ρ 6) (ρ 7) (ρ 8) (ρ 9) (ρ 10) (ρ 11) (ρ 12) (ρ 13) 0 (ρ 15 0) (ρ 16 0) (ρ 17 0) (ρ 18 0) (ρ 19 0) (ρ 20 0) (ρ 21 0) (ρ 22 0) (ρ 23 0)) H := hP
  have hD : va_D A (w_Mod cI cZ dM dM0 dM1 dM2 dM3 dM4 dM5 dM6 dM7 dM8 dM9 dM10 dM11 dM12 dM13 (ρ 0) (ρ 1) (ρ 2) (ρ 3) (ρ 4) (ρ 5) (ρ 6) (ρ 7) (ρ 8) (ρ 9) (ρ 10) (ρ 11) (ρ 12) (ρ 13) 0 (ρ 15 0) (ρ 16 0) (ρ 17 0) (ρ 18 0) (ρ 19 0) (ρ 20 0) (ρ 21 0) (ρ 22 0) (ρ 23 0)) := hD
  refine lv_aload_n hx hb d_mScreen_5 rfl (lv_at hl 0 rfl) ?_
  refine va_get (D := (dC, dI)) (ci := 4) (v := .int (ρ 16 0)) (C := R_Mod) (T := T_Mod) (N := 24) hx hb hts in_Mod hown hK hP 0 rfl rfl 12 (by decide) (hts _ mw_352) (fun _ h9 => h9) rfl d_mScreen_6 ?_
  refine lv_if_ne (tgt := 16) hx hb d_mScreen_9 (by decide) (fun c_1 => ?_) (fun c_1 => ?_)
  · refine lv_bipush (v := 10) hx hb d_mScreen_16 (by decide) ?_
    refine lv_aload_n hx hb d_mScreen_18 rfl (lv_at hl 0 rfl) ?_
    refine va_get (D := (dC, dI)) (ci := 4) (v := .ref dM1) (C := R_Mod) (T := T_Mod) (N := 24) hx hb hts in_Mod hown hK hP 0 rfl rfl 3 (by decide) (hts _ mw_343) (fun _ h9 => h9) rfl d_mScreen_19 ?_
    refine lv_aload_n hx hb d_mScreen_22 rfl (lv_at hl 0 rfl) ?_
    refine va_get (D := (dC, dI)) (ci := 4) (v := .int (ρ 17 0)) (C := R_Mod) (T := T_Mod) (N := 24) hx hb hts in_Mod hown hK hP 0 rfl rfl 13 (by decide) (hts _ mw_353) (fun _ h9 => h9) rfl d_mScreen_23 ?_
    refine va_iald (n := 40) (f := ρ 1) hx hb hK hP 2 0 rfl rfl (i := ρ 17 0) (by first | assumption) d_mScreen_26 ?_
    refine lv_imul hx hb d_mScreen_27 ?_
    refine lv_aload_n hx hb d_mScreen_28 rfl (lv_at hl 0 rfl) ?_
    refine va_get (D := (dC, dI)) (ci := 4) (v := .int (ρ 16 0)) (C := R_Mod) (T := T_Mod) (N := 24) hx hb hts in_Mod hown hK hP 0 rfl rfl 12 (by decide) (hts _ mw_352) (fun _ h9 => h9) rfl d_mScreen_29 ?_
    refine lv_iadd hx hb d_mScreen_32 ?_
    refine lv_aload_n hx hb d_mScreen_33 rfl (lv_at hl 0 rfl) ?_
    refine va_get (D := (dC, dI)) (ci := 4) (v := .int (ρ 18 0)) (C := R_Mod) (T := T_Mod) (N := 24) hx hb hts in_Mod hown hK hP 0 rfl rfl 14 (by decide) (hts _ mw_354) (fun _ h9 => h9) rfl d_mScreen_34 ?_
    refine lv_if_eq (tgt := 44) hx hb d_mScreen_37 (by decide) (fun c_2 => ?_) (fun c_2 => ?_)
    · refine lv_iconst (v := 0) hx hb d_mScreen_44 (by decide) ?_
      refine lv_iadd hx hb d_mScreen_45 ?_
      have hF : F_mScreen ρ = (((10 * (ρ 1 (ρ 17 0).toNatClampNeg)) + (ρ 16 0)) + 0, (ss ρ 14 (fun _ => 0))) := (if_neg c_1).trans ((if_pos c_2).trans rfl)
      exact W.iret (v := ((10 * (ρ 1 (ρ 17 0).toNatClampNeg)) + (ρ 16 0)) + 0) hx hb hr (fun t ht hW => ⟨⟨((10 * (ρ 1 (ρ 17 0).toNatClampNeg)) + (ρ 16 0)) + 0, (ss ρ 14 (fun _ => 0)), rfl, ⟨(congrArg Prod.fst hF).symm, (congrArg Prod.snd hF).symm⟩, by rw [ht]; exact hP, hD⟩, hS.F ht⟩) hS.2.2 d_mScreen_46
    · refine lv_iconst (v := 5) hx hb d_mScreen_40 (by decide) ?_
      refine lv_goto (tgt := 45) hx hb d_mScreen_41 (by decide) ?_
      refine lv_iadd hx hb d_mScreen_45 ?_
      have hF : F_mScreen ρ = (((10 * (ρ 1 (ρ 17 0).toNatClampNeg)) + (ρ 16 0)) + 5, (ss ρ 14 (fun _ => 0))) := (if_neg c_1).trans ((if_neg c_2).trans rfl)
      exact W.iret (v := ((10 * (ρ 1 (ρ 17 0).toNatClampNeg)) + (ρ 16 0)) + 5) hx hb hr (fun t ht hW => ⟨⟨((10 * (ρ 1 (ρ 17 0).toNatClampNeg)) + (ρ 16 0)) + 5, (ss ρ 14 (fun _ => 0)), rfl, ⟨(congrArg Prod.fst hF).symm, (congrArg Prod.snd hF).symm⟩, by rw [ht]; exact hP, hD⟩, hS.F ht⟩) hS.2.2 d_mScreen_46
  · refine lv_iconst (v := 0) hx hb d_mScreen_12 (by decide) ?_
    refine lv_goto (tgt := 28) hx hb d_mScreen_13 (by decide) ?_
    refine lv_aload_n hx hb d_mScreen_28 rfl (lv_at hl 0 rfl) ?_
    refine va_get (D := (dC, dI)) (ci := 4) (v := .int (ρ 16 0)) (C := R_Mod) (T := T_Mod) (N := 24) hx hb hts in_Mod hown hK hP 0 rfl rfl 12 (by decide) (hts _ mw_352) (fun _ h9 => h9) rfl d_mScreen_29 ?_
    refine lv_iadd hx hb d_mScreen_32 ?_
    refine lv_aload_n hx hb d_mScreen_33 rfl (lv_at hl 0 rfl) ?_
    refine va_get (D := (dC, dI)) (ci := 4) (v := .int (ρ 18 0)) (C := R_Mod) (T := T_Mod) (N := 24) hx hb hts in_Mod hown hK hP 0 rfl rfl 14 (by decide) (hts _ mw_354) (fun _ h9 => h9) rfl d_mScreen_34 ?_
    refine lv_if_eq (tgt := 44) hx hb d_mScreen_37 (by decide) (fun c_3 => ?_) (fun c_3 => ?_)
    · refine lv_iconst (v := 0) hx hb d_mScreen_44 (by decide) ?_
      refine lv_iadd hx hb d_mScreen_45 ?_
      have hF : F_mScreen ρ = ((0 + (ρ 16 0)) + 0, (ss ρ 14 (fun _ => 0))) := (if_pos c_1).trans ((if_pos c_3).trans rfl)
      exact W.iret (v := (0 + (ρ 16 0)) + 0) hx hb hr (fun t ht hW => ⟨⟨(0 + (ρ 16 0)) + 0, (ss ρ 14 (fun _ => 0)), rfl, ⟨(congrArg Prod.fst hF).symm, (congrArg Prod.snd hF).symm⟩, by rw [ht]; exact hP, hD⟩, hS.F ht⟩) hS.2.2 d_mScreen_46
    · refine lv_iconst (v := 5) hx hb d_mScreen_40 (by decide) ?_
      refine lv_goto (tgt := 45) hx hb d_mScreen_41 (by decide) ?_
      refine lv_iadd hx hb d_mScreen_45 ?_
      have hF : F_mScreen ρ = ((0 + (ρ 16 0)) + 5, (ss ρ 14 (fun _ => 0))) := (if_pos c_1).trans ((if_neg c_3).trans rfl)
      exact W.iret (v := (0 + (ρ 16 0)) + 5) hx hb hr (fun t ht hW => ⟨⟨(0 + (ρ 16 0)) + 5, (ss ρ 14 (fun _ => 0)), rfl, ⟨(congrArg Prod.fst hF).symm, (congrArg Prod.snd hF).symm⟩, by rw [ht]; exact hP, hD⟩, hS.F ht⟩) hS.2.2 d_mScreen_46
def F_mItem (ρ : SS) (q1 : Int32) (q2 : Int32) : Int32 × SS :=
  if (F_mIsI q1) = 0 then
    (-2, (ss ρ 14 (fun _ => 0)))
  else
    if q2 < 0 then
      (-2, (ss ρ 14 (fun _ => 0)))
    else
      if q2 ≤ 2 then
        if q2 = 0 then
          (ρ 5 q1.toNatClampNeg, (ss ρ 14 (fun _ => 0)))
        else
          if q2 = 1 then
            (ρ 6 q1.toNatClampNeg, (ss ρ 14 (fun _ => 0)))
          else
            (ρ 8 q1.toNatClampNeg, (ss ρ 14 (fun _ => 0)))
      else
        (-2, (ss ρ 14 (fun _ => 0)))
set_option maxHeartbeats 4000000 in
set_option maxRecDepth 100000 in
theorem c_mItem (l : Launch) (dC : Nat → ClassId) (dI : Nat → Nat → Nat) (cI cZ : ClassId) (dM dM0 dM1 dM2 dM3 dM4 dM5 dM6 dM7 dM8 dM9 dM10 dM11 dM12 dM13 : Nat) (sz : Nat) (ρ : SS) (q1 : Int32) (q2 : Int32) : Met l y_mItem [Cond.code y_mItem prog_6_method_30_code 3 (some .int)] ({ frames := 1, cells := 0, slots := 0, locals := 20 }) (pcW (dC, dI) (w_Mod cI cZ dM dM0 dM1 dM2 dM3 dM4 dM5 dM6 dM7 dM8 dM9 dM10 dM11 dM12 dM13 (ρ 0) (ρ 1) (ρ 2) (ρ 3) (ρ 4) (ρ 5) (ρ 6) (ρ 7) (ρ 8) (ρ 9) (ρ 10) (ρ 11) (ρ 12) (ρ 13) (ρ 14 0) (ρ 15 0) (ρ 16 0) (ρ 17 0) (ρ 18 0) (ρ 19 0) (ρ 20 0) (ρ 21 0) (ρ 22 0) (ρ 23 0)) (tyC cI cZ) sz [.ref dM, .int q1, .int q2]) (qI (fun r u => r = (F_mItem ρ q1 q2).1 ∧ u = (F_mItem ρ q1 q2).2) (dC, dI) (fun u : SS => w_Mod cI cZ dM dM0 dM1 dM2 dM3 dM4 dM5 dM6 dM7 dM8 dM9 dM10 dM11 dM12 dM13 (u 0) (u 1) (u 2) (u 3) (u 4) (u 5) (u 6) (u 7) (u 8) (u 9) (u 10) (u 11) (u 12) (u 13) (u 14 0) (u 15 0) (u 16 0) (u 17 0) (u 18 0) (u 19 0) (u 20 0) (u 21 0) (u 22 0) (u 23 0)) (va_A (w_Mod cI cZ dM dM0 dM1 dM2 dM3 dM4 dM5 dM6 dM7 dM8 dM9 dM10 dM11 dM12 dM13 (ρ 0) (ρ 1) (ρ 2) (ρ 3) (ρ 4) (ρ 5) (ρ 6) (ρ 7) (ρ 8) (ρ 9) (ρ 10) (ρ 11) (ρ 12) (ρ 13) (ρ 14 0) (ρ 15 0) (ρ 16 0) (ρ 17 0) (ρ 18 0) (ρ 19 0) (ρ 20 0) (ρ 21 0) (ρ 22 0) (ρ 23 0)) sz)) 0 0 (va_A (w_Mod cI cZ dM dM0 dM1 dM2 dM3 dM4 dM5 dM6 dM7 dM8 dM9 dM10 dM11 dM12 dM13 (ρ 0) (ρ 1) (ρ 2) (ρ 3) (ρ 4) (ρ 5) (ρ 6) (ρ 7) (ρ 8) (ρ 9) (ρ 10) (ρ 11) (ρ 12) (ρ 13) (ρ 14 0) (ρ 15 0) (ρ 16 0) (ρ 17 0) (ρ 18 0) (ρ 19 0) (ρ 20 0) (ρ 21 0) (ρ 22 0) (ρ 23 0)) sz) := by
  refine Met.ofW (cc := prog_6_method_30_code) (maxL := 3) (ret := (some .int)) (by decide) rfl ?_
  intro p e s m args below meth c s₁ B hml hv
  obtain ⟨rfl, hsz, hT, hP, hK, hD0⟩ := hv
  have hx := B.exec
  have hb := B.bytes
  have hr := B.returns
  have hts : ∀ w ∈ lw_ok, w.before ([.ref dM, .int q1, .int q2] : List Value).toArray s = true := hT.use
  have hown : s.vm.findClass R_Mod = some m.cls := findClass_of_methodNamed B.named
  have hlocks := B.notSynchronized
  subst hsz
  have hD := hD0.self (sz := s.heap.size)
  generalize hAe : va_A (w_Mod cI cZ dM dM0 dM1 dM2 dM3 dM4 dM5 dM6 dM7 dM8 dM9 dM10 dM11 dM12 dM13 (ρ 0) (ρ 1) (ρ 2) (ρ 3) (ρ 4) (ρ 5) (ρ 6) (ρ 7) (ρ 8) (ρ 9) (ρ 10) (ρ 11) (ρ 12) (ρ 13) (ρ 14 0) (ρ 15 0) (ρ 16 0) (ρ 17 0) (ρ 18 0) (ρ 19 0) (ρ 20 0) (ρ 21 0) (ρ 22 0) (ρ 23 0)) s.heap.size = A at hD ⊢
  have hA : ∀ q : Nat, s.heap.size ≤ q → A q := fun q h => by rw [← hAe]; exact Or.inr h
  have hS : va_S A s.heap s.heap [] := va_S.rf
  have hl := lv_entry ([.ref dM, .int q1, .int q2]) (n := 3) (Nat.le_of_ble_eq_true rfl)
  rw [lg_entry_eq]
  generalize (lg_sl ([.ref dM, .int q1, .int q2]) ++ List.replicate (3 - (lg_sl ([.ref dM, .int q1, .int q2])).length) Slot.unset).toArray = ls at hl ⊢
  have hl : lv_has ls 3 [(0, .ref dM), (1, .int q1), (2, .int q2)] := hl
  refine lv_aload_n hx hb d_mItem_0 rfl (lv_at hl 0 rfl) ?_
  refine lv_iconst (v := 0) hx hb d_mItem_1 (by decide) ?_
  refine va_put (D := (dC, dI)) (ci := 4) (v := .int 0) (ty := .int) (C := R_Mod) (T := T_Mod) (N := 24) hx hb hts in_Mod ty_Mod tyok_Mod nm_Mod hown hK hP hD hS 0 rfl rfl 0 (by decide) (hts _ mw_340) (fun _ h9 => h9) rfl (by decide +kernel) rfl rfl (Nat.le_of_ble_eq_true rfl) d_mItem_2 (fun H locs hP hD hS => ?_)
  have hP : va_P (dC, dI) vwCl (w_Mod cI cZ dM dM0 dM1 dM2 dM3 dM4 dM5 dM6 dM7 dM8 dM9 dM10 dM11 dM12 dM13 (ρ 0) (ρ 1) (ρ 2) (ρ 3) (ρ 4) (ρ 5) (ρ 6) (ρ 7) (ρ 8) (ρ 9) (ρ 10) (ρ 11) (ρ 12) (ρ 13) 0 (ρ 15 0) (ρ 16 0) (ρ 17 0) (ρ 18 0) (ρ 19 0) (ρ 20 0) (ρ 21 0) (ρ 22 0) (ρ 23 0)) H := hP
  have hD : va_D A (w_Mod cI cZ dM dM0 dM1 dM2 dM3 dM4 dM5 dM6 dM7 dM8 dM9 dM10 dM11 dM12 dM13 (ρ 0) (ρ 1) (ρ 2) (ρ 3) (ρ 4) (ρ 5) (ρ 6) (ρ 7) (ρ 8) (ρ 9) (ρ 10) (ρ 11) (ρ 12) (ρ 13) 0 (ρ 15 0) (ρ 16 0) (ρ 17 0) (ρ 18 0) (ρ 19 0) (ρ 20 0) (ρ 21 0) (ρ 22 0) (ρ 23 0)) := hD
  refine lv_iload_n hx hb d_mItem_5 rfl (lv_at hl 1 rfl) ?_
  refine xc_S0 (As := [.int q1]) (rest := []) ⟨hx, hb, hml, hown, hts⟩ hT (c_mIsI l q1) ⟨xw_B 1 hts mw_434 mw_19 mw_432 rfl rfl (by decide +kernel) ⟨Nat.le_of_ble_eq_true rfl, Nat.le_of_ble_eq_true rfl⟩, hts _ mw_433⟩ rfl hl.1 rfl (Nat.le_of_ble_eq_true rfl) d_mItem_6 ⟨Nat.zero_le _, Nat.zero_le _⟩ (fun r hw => ?_)
  subst hw
  refine lv_if_eq (tgt := 21) hx hb d_mItem_9 (by decide) (fun c_1 => ?_) (fun c_1 => ?_)
  · refine lv_bipush (v := -2) hx hb d_mItem_21 (by decide) ?_
    have hF : F_mItem ρ q1 q2 = (-2, (ss ρ 14 (fun _ => 0))) := (if_pos c_1).trans rfl
    exact W.iret (v := -2) hx hb hr (fun t ht hW => ⟨⟨-2, (ss ρ 14 (fun _ => 0)), rfl, ⟨(congrArg Prod.fst hF).symm, (congrArg Prod.snd hF).symm⟩, by rw [ht]; exact hP, hD⟩, hS.F ht⟩) hS.2.2 d_mItem_23
  · refine lv_iload_n hx hb d_mItem_12 rfl (lv_at hl 2 rfl) ?_
    refine lv_if_lt (tgt := 21) hx hb d_mItem_13 (by decide) (fun c_2 => ?_) (fun c_2 => ?_)
    · refine lv_bipush (v := -2) hx hb d_mItem_21 (by decide) ?_
      have hF : F_mItem ρ q1 q2 = (-2, (ss ρ 14 (fun _ => 0))) := (if_neg c_1).trans ((if_pos c_2).trans rfl)
      exact W.iret (v := -2) hx hb hr (fun t ht hW => ⟨⟨-2, (ss ρ 14 (fun _ => 0)), rfl, ⟨(congrArg Prod.fst hF).symm, (congrArg Prod.snd hF).symm⟩, by rw [ht]; exact hP, hD⟩, hS.F ht⟩) hS.2.2 d_mItem_23
    · refine lv_iload_n hx hb d_mItem_16 rfl (lv_at hl 2 rfl) ?_
      refine lv_iconst (v := 2) hx hb d_mItem_17 (by decide) ?_
      refine lv_icmp_le (tgt := 24) hx hb d_mItem_18 (by decide) (fun c_3 => ?_) (fun c_3 => ?_)
      · refine lv_iload_n hx hb d_mItem_24 rfl (lv_at hl 2 rfl) ?_
        refine lv_if_ne (tgt := 37) hx hb d_mItem_25 (by decide) (fun c_4 => ?_) (fun c_4 => ?_)
        · refine lv_iload_n hx hb d_mItem_37 rfl (lv_at hl 2 rfl) ?_
          refine lv_iconst (v := 1) hx hb d_mItem_38 (by decide) ?_
          refine lv_icmp_ne (tgt := 51) hx hb d_mItem_39 (by decide) (fun c_5 => ?_) (fun c_5 => ?_)
          · refine lv_aload_n hx hb d_mItem_51 rfl (lv_at hl 0 rfl) ?_
            refine va_get (D := (dC, dI)) (ci := 4) (v := .ref dM8) (C := R_Mod) (T := T_Mod) (N := 24) hx hb hts in_Mod hown hK hP 0 rfl rfl 10 (by decide) (hts _ mw_350) (fun _ h9 => h9) rfl d_mItem_52 ?_
            refine lv_iload_n hx hb d_mItem_55 rfl (lv_at hl 1 rfl) ?_
            refine va_iald (n := 60) (f := ρ 8) hx hb hK hP 9 0 rfl rfl (i := q1) (by first | assumption | exact in_mIsP ‹_› | exact in_mIsI ‹_›) d_mItem_56 ?_
            have hF : F_mItem ρ q1 q2 = (ρ 8 q1.toNatClampNeg, (ss ρ 14 (fun _ => 0))) := (if_neg c_1).trans ((if_neg c_2).trans ((if_pos c_3).trans ((if_neg c_4).trans ((if_neg c_5).trans rfl))))
            exact W.iret (v := ρ 8 q1.toNatClampNeg) hx hb hr (fun t ht hW => ⟨⟨ρ 8 q1.toNatClampNeg, (ss ρ 14 (fun _ => 0)), rfl, ⟨(congrArg Prod.fst hF).symm, (congrArg Prod.snd hF).symm⟩, by rw [ht]; exact hP, hD⟩, hS.F ht⟩) hS.2.2 d_mItem_57
          · refine lv_aload_n hx hb d_mItem_42 rfl (lv_at hl 0 rfl) ?_
            refine va_get (D := (dC, dI)) (ci := 4) (v := .ref dM6) (C := R_Mod) (T := T_Mod) (N := 24) hx hb hts in_Mod hown hK hP 0 rfl rfl 8 (by decide) (hts _ mw_348) (fun _ h9 => h9) rfl d_mItem_43 ?_
            refine lv_iload_n hx hb d_mItem_46 rfl (lv_at hl 1 rfl) ?_
            refine va_iald (n := 60) (f := ρ 6) hx hb hK hP 7 0 rfl rfl (i := q1) (by first | assumption | exact in_mIsP ‹_› | exact in_mIsI ‹_›) d_mItem_47 ?_
            refine lv_goto (tgt := 57) hx hb d_mItem_48 (by decide) ?_
            have hF : F_mItem ρ q1 q2 = (ρ 6 q1.toNatClampNeg, (ss ρ 14 (fun _ => 0))) := (if_neg c_1).trans ((if_neg c_2).trans ((if_pos c_3).trans ((if_neg c_4).trans ((if_pos c_5).trans rfl))))
            exact W.iret (v := ρ 6 q1.toNatClampNeg) hx hb hr (fun t ht hW => ⟨⟨ρ 6 q1.toNatClampNeg, (ss ρ 14 (fun _ => 0)), rfl, ⟨(congrArg Prod.fst hF).symm, (congrArg Prod.snd hF).symm⟩, by rw [ht]; exact hP, hD⟩, hS.F ht⟩) hS.2.2 d_mItem_57
        · refine lv_aload_n hx hb d_mItem_28 rfl (lv_at hl 0 rfl) ?_
          refine va_get (D := (dC, dI)) (ci := 4) (v := .ref dM5) (C := R_Mod) (T := T_Mod) (N := 24) hx hb hts in_Mod hown hK hP 0 rfl rfl 7 (by decide) (hts _ mw_347) (fun _ h9 => h9) rfl d_mItem_29 ?_
          refine lv_iload_n hx hb d_mItem_32 rfl (lv_at hl 1 rfl) ?_
          refine va_iald (n := 60) (f := ρ 5) hx hb hK hP 6 0 rfl rfl (i := q1) (by first | assumption | exact in_mIsP ‹_› | exact in_mIsI ‹_›) d_mItem_33 ?_
          refine lv_goto (tgt := 57) hx hb d_mItem_34 (by decide) ?_
          have hF : F_mItem ρ q1 q2 = (ρ 5 q1.toNatClampNeg, (ss ρ 14 (fun _ => 0))) := (if_neg c_1).trans ((if_neg c_2).trans ((if_pos c_3).trans ((if_pos c_4).trans rfl)))
          exact W.iret (v := ρ 5 q1.toNatClampNeg) hx hb hr (fun t ht hW => ⟨⟨ρ 5 q1.toNatClampNeg, (ss ρ 14 (fun _ => 0)), rfl, ⟨(congrArg Prod.fst hF).symm, (congrArg Prod.snd hF).symm⟩, by rw [ht]; exact hP, hD⟩, hS.F ht⟩) hS.2.2 d_mItem_57
      · refine lv_bipush (v := -2) hx hb d_mItem_21 (by decide) ?_
        have hF : F_mItem ρ q1 q2 = (-2, (ss ρ 14 (fun _ => 0))) := (if_neg c_1).trans ((if_neg c_2).trans ((if_neg c_3).trans rfl))
        exact W.iret (v := -2) hx hb hr (fun t ht hW => ⟨⟨-2, (ss ρ 14 (fun _ => 0)), rfl, ⟨(congrArg Prod.fst hF).symm, (congrArg Prod.snd hF).symm⟩, by rw [ht]; exact hP, hD⟩, hS.F ht⟩) hS.2.2 d_mItem_23
def F_mRows (ρ : SS) : Int32 × SS :=
  (ρ 22 0, (ss ρ 14 (fun _ => 0)))
set_option maxHeartbeats 4000000 in
set_option maxRecDepth 100000 in
theorem c_mRows (l : Launch) (dC : Nat → ClassId) (dI : Nat → Nat → Nat) (cI cZ : ClassId) (dM dM0 dM1 dM2 dM3 dM4 dM5 dM6 dM7 dM8 dM9 dM10 dM11 dM12 dM13 : Nat) (sz : Nat) (ρ : SS) : Met l y_mRows [Cond.code y_mRows prog_6_method_31_code 1 (some .int)] ({ frames := 0, cells := 0, slots := 0, locals := 0 }) (pcW (dC, dI) (w_Mod cI cZ dM dM0 dM1 dM2 dM3 dM4 dM5 dM6 dM7 dM8 dM9 dM10 dM11 dM12 dM13 (ρ 0) (ρ 1) (ρ 2) (ρ 3) (ρ 4) (ρ 5) (ρ 6) (ρ 7) (ρ 8) (ρ 9) (ρ 10) (ρ 11) (ρ 12) (ρ 13) (ρ 14 0) (ρ 15 0) (ρ 16 0) (ρ 17 0) (ρ 18 0) (ρ 19 0) (ρ 20 0) (ρ 21 0) (ρ 22 0) (ρ 23 0)) (tyC cI cZ) sz [.ref dM]) (qI (fun r u => r = (F_mRows ρ).1 ∧ u = (F_mRows ρ).2) (dC, dI) (fun u : SS => w_Mod cI cZ dM dM0 dM1 dM2 dM3 dM4 dM5 dM6 dM7 dM8 dM9 dM10 dM11 dM12 dM13 (u 0) (u 1) (u 2) (u 3) (u 4) (u 5) (u 6) (u 7) (u 8) (u 9) (u 10) (u 11) (u 12) (u 13) (u 14 0) (u 15 0) (u 16 0) (u 17 0) (u 18 0) (u 19 0) (u 20 0) (u 21 0) (u 22 0) (u 23 0)) (va_A (w_Mod cI cZ dM dM0 dM1 dM2 dM3 dM4 dM5 dM6 dM7 dM8 dM9 dM10 dM11 dM12 dM13 (ρ 0) (ρ 1) (ρ 2) (ρ 3) (ρ 4) (ρ 5) (ρ 6) (ρ 7) (ρ 8) (ρ 9) (ρ 10) (ρ 11) (ρ 12) (ρ 13) (ρ 14 0) (ρ 15 0) (ρ 16 0) (ρ 17 0) (ρ 18 0) (ρ 19 0) (ρ 20 0) (ρ 21 0) (ρ 22 0) (ρ 23 0)) sz)) 0 0 (va_A (w_Mod cI cZ dM dM0 dM1 dM2 dM3 dM4 dM5 dM6 dM7 dM8 dM9 dM10 dM11 dM12 dM13 (ρ 0) (ρ 1) (ρ 2) (ρ 3) (ρ 4) (ρ 5) (ρ 6) (ρ 7) (ρ 8) (ρ 9) (ρ 10) (ρ 11) (ρ 12) (ρ 13) (ρ 14 0) (ρ 15 0) (ρ 16 0) (ρ 17 0) (ρ 18 0) (ρ 19 0) (ρ 20 0) (ρ 21 0) (ρ 22 0) (ρ 23 0)) sz) := by
  refine Met.ofW (cc := prog_6_method_31_code) (maxL := 1) (ret := (some .int)) (by decide) rfl ?_
  intro p e s m args below meth c s₁ B hml hv
  obtain ⟨rfl, hsz, hT, hP, hK, hD0⟩ := hv
  have hx := B.exec
  have hb := B.bytes
  have hr := B.returns
  have hts : ∀ w ∈ lw_ok, w.before ([.ref dM] : List Value).toArray s = true := hT.use
  have hown : s.vm.findClass R_Mod = some m.cls := findClass_of_methodNamed B.named
  have hlocks := B.notSynchronized
  subst hsz
  have hD := hD0.self (sz := s.heap.size)
  generalize hAe : va_A (w_Mod cI cZ dM dM0 dM1 dM2 dM3 dM4 dM5 dM6 dM7 dM8 dM9 dM10 dM11 dM12 dM13 (ρ 0) (ρ 1) (ρ 2) (ρ 3) (ρ 4) (ρ 5) (ρ 6) (ρ 7) (ρ 8) (ρ 9) (ρ 10) (ρ 11) (ρ 12) (ρ 13) (ρ 14 0) (ρ 15 0) (ρ 16 0) (ρ 17 0) (ρ 18 0) (ρ 19 0) (ρ 20 0) (ρ 21 0) (ρ 22 0) (ρ 23 0)) s.heap.size = A at hD ⊢
  have hA : ∀ q : Nat, s.heap.size ≤ q → A q := fun q h => by rw [← hAe]; exact Or.inr h
  have hS : va_S A s.heap s.heap [] := va_S.rf
  have hl := lv_entry ([.ref dM]) (n := 1) (Nat.le_of_ble_eq_true rfl)
  rw [lg_entry_eq]
  generalize (lg_sl ([.ref dM]) ++ List.replicate (1 - (lg_sl ([.ref dM])).length) Slot.unset).toArray = ls at hl ⊢
  have hl : lv_has ls 1 [(0, .ref dM)] := hl
  refine lv_aload_n hx hb d_mRows_0 rfl (lv_at hl 0 rfl) ?_
  refine lv_iconst (v := 0) hx hb d_mRows_1 (by decide) ?_
  refine va_put (D := (dC, dI)) (ci := 4) (v := .int 0) (ty := .int) (C := R_Mod) (T := T_Mod) (N := 24) hx hb hts in_Mod ty_Mod tyok_Mod nm_Mod hown hK hP hD hS 0 rfl rfl 0 (by decide) (hts _ mw_340) (fun _ h9 => h9) rfl (by decide +kernel) rfl rfl (Nat.le_of_ble_eq_true rfl) d_mRows_2 (fun H locs hP hD hS => ?_)
  have hP : va_P (dC, dI) vwCl (w_Mod cI cZ dM dM0 dM1 dM2 dM3 dM4 dM5 dM6 dM7 dM8 dM9 dM10 dM11 dM12 dM13 (ρ 0) (ρ 1) (ρ 2) (ρ 3) (ρ 4) (ρ 5) (ρ 6) (ρ 7) (ρ 8) (ρ 9) (ρ 10) (ρ 11) (ρ 12) (ρ 13) 0 (ρ 15 0) (ρ 16 0) (ρ 17 0) (ρ 18 0) (ρ 19 0) (ρ 20 0) (ρ 21 0) (ρ 22 0) (ρ 23 0)) H := hP
  have hD : va_D A (w_Mod cI cZ dM dM0 dM1 dM2 dM3 dM4 dM5 dM6 dM7 dM8 dM9 dM10 dM11 dM12 dM13 (ρ 0) (ρ 1) (ρ 2) (ρ 3) (ρ 4) (ρ 5) (ρ 6) (ρ 7) (ρ 8) (ρ 9) (ρ 10) (ρ 11) (ρ 12) (ρ 13) 0 (ρ 15 0) (ρ 16 0) (ρ 17 0) (ρ 18 0) (ρ 19 0) (ρ 20 0) (ρ 21 0) (ρ 22 0) (ρ 23 0)) := hD
  refine lv_aload_n hx hb d_mRows_5 rfl (lv_at hl 0 rfl) ?_
  refine va_get (D := (dC, dI)) (ci := 4) (v := .int (ρ 22 0)) (C := R_Mod) (T := T_Mod) (N := 24) hx hb hts in_Mod hown hK hP 0 rfl rfl 21 (by decide) (hts _ mw_361) (fun _ h9 => h9) rfl d_mRows_6 ?_
  have hF : F_mRows ρ = (ρ 22 0, (ss ρ 14 (fun _ => 0))) := rfl
  exact W.iret (v := ρ 22 0) hx hb hr (fun t ht hW => ⟨⟨ρ 22 0, (ss ρ 14 (fun _ => 0)), rfl, ⟨(congrArg Prod.fst hF).symm, (congrArg Prod.snd hF).symm⟩, by rw [ht]; exact hP, hD⟩, hS.F ht⟩) hS.2.2 d_mRows_9
theorem mo_a {p0 : Int32} (h0 : 0 ≤ p0) (h1 : p0 ≤ 100) : p0 = nI (F_mo p0) := by
  have e0 : Int32.toInt 0 = 0 := rfl
  have e1 : Int32.toInt 100 = 100 := rfl
  refine Eq.trans ?_ (mo_ok p0).1
  rw [Int32.le_iff_toInt_le] at h0 h1
  by_cases a : p0 < 100
  · rw [if_pos a]
    by_cases b : (0 : Int32) < p0
    · rw [if_pos b]
    · rw [if_neg b]
      rw [Int32.lt_iff_toInt_lt] at b
      exact Int32.toInt_inj.mp (by omega)
  · rw [if_neg a]
    rw [Int32.lt_iff_toInt_lt] at a
    exact Int32.toInt_inj.mp (by show _ = Int32.toInt 100; omega)
theorem mo_b {p0 : Int32} (h1 : ¬ p0 ≤ 100) : (100 : Int32) = nI (F_mo p0) := by
  refine Eq.trans ?_ (mo_ok p0).1
  have e1 : Int32.toInt 100 = 100 := rfl
  rw [Int32.le_iff_toInt_le] at h1
  rw [if_neg (show ¬ p0 < 100 by rw [Int32.lt_iff_toInt_lt]; omega)]
  rfl
theorem mo_c {p0 : Int32} (h0 : ¬ 0 ≤ p0) : (0 : Int32) = nI (F_mo p0) := by
  refine Eq.trans ?_ (mo_ok p0).1
  have e0 : Int32.toInt 0 = 0 := rfl
  have e1 : Int32.toInt 100 = 100 := rfl
  rw [Int32.le_iff_toInt_le] at h0
  rw [if_pos (show p0 < 100 by rw [Int32.lt_iff_toInt_lt]; omega), if_neg (show ¬ (0 : Int32) < p0 by rw [Int32.lt_iff_toInt_lt]; omega)]
def ρ0 (mo : Nat) : SS := fun k => match k with
  | 5 => fil (fun _ => 0) (-1) 60
  | 6 => fil (fun _ => 0) (-1) 60
  | 8 => fil (fun _ => 0) (-1) 60
  | 9 => fil (fun _ => 0) (-1) 10
  | 15 => fun _ => nI mo
  | 20 => fun _ => -1
  | _ => fun _ => 0
def ρI (mo : Nat) : SS := ss (fun _ _ => 0) 15 (fun _ => nI mo)
