theorem nI_m1 {i : Nat} (h : i < 2 ^ 31) : ¬ nI i = -1 := by
  intro q
  have := nI_pos h
  rw [q] at this
  exact this (by decide)
def F_mLocker (ρ : SS) (q1 : Int32) : Int32 × SS :=
  if (F_mIsI q1) = 0 then
    (-1, (ss ρ 14 (fun _ => 0)))
  else
    if (ρ 5 q1.toNatClampNeg) = (-1) then
      if (ρ 6 q1.toNatClampNeg) = (-1) then
        (-1, (ss ρ 14 (fun _ => 0)))
      else
        if (ρ 8 q1.toNatClampNeg) = (-1) then
          if (fst_from (ρ 9) 10 0) = (-1) then
            (-1, (ss ρ 14 (fun _ => 0)))
          else
            (fst_from (ρ 9) 10 0, (ss (ss (ss ρ 8 (upd (ρ 8) q1.toNatClampNeg (fst_from (ρ 9) 10 0))) 9 (upd (ρ 9) (fst_from (ρ 9) 10 0).toNatClampNeg q1)) 14 (fun _ => 0)))
        else
          (-1, (ss ρ 14 (fun _ => 0)))
    else
      (-1, (ss ρ 14 (fun _ => 0)))
set_option maxHeartbeats 4000000 in
set_option maxRecDepth 100000 in
theorem c_mLocker (l : Launch) (dC : Nat → ClassId) (dI : Nat → Nat → Nat) (cI cZ : ClassId) (dM dM0 dM1 dM2 dM3 dM4 dM5 dM6 dM7 dM8 dM9 dM10 dM11 dM12 dM13 : Nat) (sz : Nat) (ρ : SS) (q1 : Int32) : Met l y_mLocker [Cond.code y_mLocker prog_6_method_25_code 3 (some .int)] ({ frames := 1, cells := 0, slots := 0, locals := 20 }) (pcW (dC, dI) (w_Mod cI cZ dM dM0 dM1 dM2 dM3 dM4 dM5 dM6 dM7 dM8 dM9 dM10 dM11 dM12 dM13 (ρ 0) (ρ 1) (ρ 2) (ρ 3) (ρ 4) (ρ 5) (ρ 6) (ρ 7) (ρ 8) (ρ 9) (ρ 10) (ρ 11) (ρ 12) (ρ 13) (ρ 14 0) (ρ 15 0) (ρ 16 0) (ρ 17 0) (ρ 18 0) (ρ 19 0) (ρ 20 0) (ρ 21 0) (ρ 22 0) (ρ 23 0)) (tyC cI cZ) sz [.ref dM, .int q1]) (qI (fun r u => r = (F_mLocker ρ q1).1 ∧ u = (F_mLocker ρ q1).2) (dC, dI) (fun u : SS => w_Mod cI cZ dM dM0 dM1 dM2 dM3 dM4 dM5 dM6 dM7 dM8 dM9 dM10 dM11 dM12 dM13 (u 0) (u 1) (u 2) (u 3) (u 4) (u 5) (u 6) (u 7) (u 8) (u 9) (u 10) (u 11) (u 12) (u 13) (u 14 0) (u 15 0) (u 16 0) (u 17 0) (u 18 0) (u 19 0) (u 20 0) (u 21 0) (u 22 0) (u 23 0)) (va_A (w_Mod cI cZ dM dM0 dM1 dM2 dM3 dM4 dM5 dM6 dM7 dM8 dM9 dM10 dM11 dM12 dM13 (ρ 0) (ρ 1) (ρ 2) (ρ 3) (ρ 4) (ρ 5) (ρ 6) (ρ 7) (ρ 8) (ρ 9) (ρ 10) (ρ 11) (ρ 12) (ρ 13) (ρ 14 0) (ρ 15 0) (ρ 16 0) (ρ 17 0) (ρ 18 0) (ρ 19 0) (ρ 20 0) (ρ 21 0) (ρ 22 0) (ρ 23 0)) sz)) 0 0 (va_A (w_Mod cI cZ dM dM0 dM1 dM2 dM3 dM4 dM5 dM6 dM7 dM8 dM9 dM10 dM11 dM12 dM13 (ρ 0) (ρ 1) (ρ 2) (ρ 3) (ρ 4) (ρ 5) (ρ 6) (ρ 7) (ρ 8) (ρ 9) (ρ 10) (ρ 11) (ρ 12) (ρ 13) (ρ 14 0) (ρ 15 0) (ρ 16 0) (ρ 17 0) (ρ 18 0) (ρ 19 0) (ρ 20 0) (ρ 21 0) (ρ 22 0) (ρ 23 0)) sz) := by
  refine Met.ofW (cc := prog_6_method_25_code) (maxL := 3) (ret := (some .int)) (by decide) rfl ?_
  intro p e s m args below meth c s₁ B hml hv
  obtain ⟨rfl, hsz, hT, hP, hK, hD0⟩ := hv
  have hx := B.exec
  have hb := B.bytes
  have hr := B.returns
  have hts : ∀ w ∈ lw_ok, w.before ([.ref dM, .int q1] : List Value).toArray s = true := hT.use
  have hown : s.vm.findClass R_Mod = some m.cls := findClass_of_methodNamed B.named
  have hlocks := B.notSynchronized
  subst hsz
  have hD := hD0.self (sz := s.heap.size)
  generalize hAe : va_A (w_Mod cI cZ dM dM0 dM1 dM2 dM3 dM4 dM5 dM6 dM7 dM8 dM9 dM10 dM11 dM12 dM13 (ρ 0) (ρ 1) (ρ 2) (ρ 3) (ρ 4) (ρ 5) (ρ 6) (ρ 7) (ρ 8) (ρ 9) (ρ 10) (ρ 11) (ρ 12) (ρ 13) (ρ 14 0) (ρ 15 0) (ρ 16 0) (ρ 17 0) (ρ 18 0) (ρ 19 0) (ρ 20 0) (ρ 21 0) (ρ 22 0) (ρ 23 0)) s.heap.size = A at hD ⊢
  have hA : ∀ q : Nat, s.heap.size ≤ q → A q := fun q h => by rw [← hAe]; exact Or.inr h
  have hS : va_S A s.heap s.heap [] := va_S.rf
  have hl := lv_entry ([.ref dM, .int q1]) (n := 3) (Nat.le_of_ble_eq_true rfl)
  rw [lg_entry_eq]
  generalize (lg_sl ([.ref dM, .int q1]) ++ List.replicate (3 - (lg_sl ([.ref dM, .int q1])).length) Slot.unset).toArray = ls at hl ⊢
  have hl : lv_has ls 3 [(0, .ref dM), (1, .int q1)] := hl
  refine lv_aload_n hx hb d_mLocker_0 rfl (lv_at hl 0 rfl) ?_
  refine lv_iconst (v := 0) hx hb d_mLocker_1 (by decide) ?_
  refine va_put (D := (dC, dI)) (ci := 4) (v := .int 0) (ty := .int) (C := R_Mod) (T := T_Mod) (N := 24) hx hb hts in_Mod ty_Mod tyok_Mod nm_Mod hown hK hP hD hS 0 rfl rfl 0 (by decide) (hts _ mw_340) (fun _ h9 => h9) rfl (by decide +kernel) rfl rfl (Nat.le_of_ble_eq_true rfl) d_mLocker_2 (fun H locs hP hD hS => ?_)
  have hP : va_P (dC, dI) vwCl (w_Mod cI cZ dM dM0 dM1 dM2 dM3 dM4 dM5 dM6 dM7 dM8 dM9 dM10 dM11 dM12 dM13 (ρ 0) (ρ 1) (ρ 2) (ρ 3) (ρ 4) (ρ 5) (ρ 6) (ρ 7) (ρ 8) (ρ 9) (ρ 10) (ρ 11) (ρ 12) (ρ 13) 0 (ρ 15 0) (ρ 16 0) (ρ 17 0) (ρ 18 0) (ρ 19 0) (ρ 20 0) (ρ 21 0) (ρ 22 0) (ρ 23 0)) H := hP
  have hD : va_D A (w_Mod cI cZ dM dM0 dM1 dM2 dM3 dM4 dM5 dM6 dM7 dM8 dM9 dM10 dM11 dM12 dM13 (ρ 0) (ρ 1) (ρ 2) (ρ 3) (ρ 4) (ρ 5) (ρ 6) (ρ 7) (ρ 8) (ρ 9) (ρ 10) (ρ 11) (ρ 12) (ρ 13) 0 (ρ 15 0) (ρ 16 0) (ρ 17 0) (ρ 18 0) (ρ 19 0) (ρ 20 0) (ρ 21 0) (ρ 22 0) (ρ 23 0)) := hD
  refine lv_iload_n hx hb d_mLocker_5 rfl (lv_at hl 1 rfl) ?_
  refine xc_S0 (As := [.int q1]) (rest := []) ⟨hx, hb, hml, hown, hts⟩ hT (c_mIsI l q1) ⟨xw_B 1 hts mw_434 mw_19 mw_432 rfl rfl (by decide +kernel) ⟨Nat.le_of_ble_eq_true rfl, Nat.le_of_ble_eq_true rfl⟩, hts _ mw_433⟩ rfl hl.1 rfl (Nat.le_of_ble_eq_true rfl) d_mLocker_6 ⟨Nat.zero_le _, Nat.zero_le _⟩ (fun r hw => ?_)
  subst hw
  refine lv_if_eq (tgt := 42) hx hb d_mLocker_9 (by decide) (fun c_1 => ?_) (fun c_1 => ?_)
  · refine lv_iconst (v := -1) hx hb d_mLocker_42 (by decide) ?_
    have hF : F_mLocker ρ q1 = (-1, (ss ρ 14 (fun _ => 0))) := (if_pos c_1).trans rfl
    exact W.iret (v := -1) hx hb hr (fun t ht hW => ⟨⟨-1, (ss ρ 14 (fun _ => 0)), rfl, ⟨(congrArg Prod.fst hF).symm, (congrArg Prod.snd hF).symm⟩, by rw [ht]; exact hP, hD⟩, hS.F ht⟩) hS.2.2 d_mLocker_43
  · refine lv_aload_n hx hb d_mLocker_12 rfl (lv_at hl 0 rfl) ?_
    refine va_get (D := (dC, dI)) (ci := 4) (v := .ref dM5) (C := R_Mod) (T := T_Mod) (N := 24) hx hb hts in_Mod hown hK hP 0 rfl rfl 7 (by decide) (hts _ mw_347) (fun _ h9 => h9) rfl d_mLocker_13 ?_
    refine lv_iload_n hx hb d_mLocker_16 rfl (lv_at hl 1 rfl) ?_
    refine va_iald (n := 60) (f := ρ 5) hx hb hK hP 6 0 rfl rfl (i := q1) (by first | assumption | exact in_mIsP ‹_› | exact in_mIsI ‹_› | exact fst_in (by decide) 10 0 (by omega) ‹_›) d_mLocker_17 ?_
    refine lv_iconst (v := -1) hx hb d_mLocker_18 (by decide) ?_
    refine lv_icmp_ne (tgt := 42) hx hb d_mLocker_19 (by decide) (fun c_2 => ?_) (fun c_2 => ?_)
    · refine lv_iconst (v := -1) hx hb d_mLocker_42 (by decide) ?_
      have hF : F_mLocker ρ q1 = (-1, (ss ρ 14 (fun _ => 0))) := (if_neg c_1).trans ((if_neg c_2).trans rfl)
      exact W.iret (v := -1) hx hb hr (fun t ht hW => ⟨⟨-1, (ss ρ 14 (fun _ => 0)), rfl, ⟨(congrArg Prod.fst hF).symm, (congrArg Prod.snd hF).symm⟩, by rw [ht]; exact hP, hD⟩, hS.F ht⟩) hS.2.2 d_mLocker_43
    · refine lv_aload_n hx hb d_mLocker_22 rfl (lv_at hl 0 rfl) ?_
      refine va_get (D := (dC, dI)) (ci := 4) (v := .ref dM6) (C := R_Mod) (T := T_Mod) (N := 24) hx hb hts in_Mod hown hK hP 0 rfl rfl 8 (by decide) (hts _ mw_348) (fun _ h9 => h9) rfl d_mLocker_23 ?_
      refine lv_iload_n hx hb d_mLocker_26 rfl (lv_at hl 1 rfl) ?_
      refine va_iald (n := 60) (f := ρ 6) hx hb hK hP 7 0 rfl rfl (i := q1) (by first | assumption | exact in_mIsP ‹_› | exact in_mIsI ‹_› | exact fst_in (by decide) 10 0 (by omega) ‹_›) d_mLocker_27 ?_
      refine lv_iconst (v := -1) hx hb d_mLocker_28 (by decide) ?_
      refine lv_icmp_eq (tgt := 42) hx hb d_mLocker_29 (by decide) (fun c_3 => ?_) (fun c_3 => ?_)
      · refine lv_iconst (v := -1) hx hb d_mLocker_42 (by decide) ?_
        have hF : F_mLocker ρ q1 = (-1, (ss ρ 14 (fun _ => 0))) := (if_neg c_1).trans ((if_pos c_2).trans ((if_pos c_3).trans rfl))
        exact W.iret (v := -1) hx hb hr (fun t ht hW => ⟨⟨-1, (ss ρ 14 (fun _ => 0)), rfl, ⟨(congrArg Prod.fst hF).symm, (congrArg Prod.snd hF).symm⟩, by rw [ht]; exact hP, hD⟩, hS.F ht⟩) hS.2.2 d_mLocker_43
      · refine lv_aload_n hx hb d_mLocker_32 rfl (lv_at hl 0 rfl) ?_
        refine va_get (D := (dC, dI)) (ci := 4) (v := .ref dM8) (C := R_Mod) (T := T_Mod) (N := 24) hx hb hts in_Mod hown hK hP 0 rfl rfl 10 (by decide) (hts _ mw_350) (fun _ h9 => h9) rfl d_mLocker_33 ?_
        refine lv_iload_n hx hb d_mLocker_36 rfl (lv_at hl 1 rfl) ?_
        refine va_iald (n := 60) (f := ρ 8) hx hb hK hP 9 0 rfl rfl (i := q1) (by first | assumption | exact in_mIsP ‹_› | exact in_mIsI ‹_› | exact fst_in (by decide) 10 0 (by omega) ‹_›) d_mLocker_37 ?_
        refine lv_iconst (v := -1) hx hb d_mLocker_38 (by decide) ?_
        refine lv_icmp_eq (tgt := 44) hx hb d_mLocker_39 (by decide) (fun c_4 => ?_) (fun c_4 => ?_)
        · refine lv_iconst (v := 0) hx hb d_mLocker_44 (by decide) ?_
          refine lv_istore_n (lv' := [(2, .int 0), (0, .ref dM), (1, .int q1)]) hx hb d_mLocker_45 rfl hl (by decide) rfl (fun ls hl => ?_)
          refine lp_lk (ρ := (ss ρ 14 (fun _ => 0))) hx hb hml hT hts hown hK hP (fun i ls hlt hv hl => ?_) (fun ls hv => ?_) 11 0 ls (by omega) rfl (by omega) (lv_sub hl [1, 2, 0] rfl)
          · have hv9 : nI i = fst_from (ρ 9) 10 0 := hv.symm
            have hl : lv_has ls 3 [(0, .ref dM), (1, .int q1), (2, .int (fst_from (ρ 9) 10 0))] := by rw [← hv9]; exact hl
            have c_5 : ¬ fst_from (ρ 9) 10 0 = -1 := by rw [← hv9]; exact nI_m1 (by omega)
            refine lv_aload_n hx hb d_mLocker_62 rfl (lv_at hl 0 rfl) ?_
            refine va_get (D := (dC, dI)) (ci := 4) (v := .ref dM9) (C := R_Mod) (T := T_Mod) (N := 24) hx hb hts in_Mod hown hK hP 0 rfl rfl 11 (by decide) (hts _ mw_351) (fun _ h9 => h9) rfl d_mLocker_63 ?_
            refine lv_iload_n hx hb d_mLocker_66 rfl (lv_at hl 2 rfl) ?_
            refine lv_iload_n hx hb d_mLocker_67 rfl (lv_at hl 1 rfl) ?_
            refine va_iast (n := 10) (f := ρ 9) hx hb hK hP hD hS 10 0 rfl rfl (i := fst_from (ρ 9) 10 0) (x := q1) (by first | assumption | exact in_mIsP ‹_› | exact in_mIsI ‹_› | exact fst_in (by decide) 10 0 (by omega) ‹_›) d_mLocker_68 (fun H locs hP hD hS => ?_)
            have hP : va_P (dC, dI) vwCl (w_Mod cI cZ dM dM0 dM1 dM2 dM3 dM4 dM5 dM6 dM7 dM8 dM9 dM10 dM11 dM12 dM13 (ρ 0) (ρ 1) (ρ 2) (ρ 3) (ρ 4) (ρ 5) (ρ 6) (ρ 7) (ρ 8) (upd (ρ 9) (fst_from (ρ 9) 10 0).toNatClampNeg q1) (ρ 10) (ρ 11) (ρ 12) (ρ 13) 0 (ρ 15 0) (ρ 16 0) (ρ 17 0) (ρ 18 0) (ρ 19 0) (ρ 20 0) (ρ 21 0) (ρ 22 0) (ρ 23 0)) H := hP
            have hD : va_D A (w_Mod cI cZ dM dM0 dM1 dM2 dM3 dM4 dM5 dM6 dM7 dM8 dM9 dM10 dM11 dM12 dM13 (ρ 0) (ρ 1) (ρ 2) (ρ 3) (ρ 4) (ρ 5) (ρ 6) (ρ 7) (ρ 8) (upd (ρ 9) (fst_from (ρ 9) 10 0).toNatClampNeg q1) (ρ 10) (ρ 11) (ρ 12) (ρ 13) 0 (ρ 15 0) (ρ 16 0) (ρ 17 0) (ρ 18 0) (ρ 19 0) (ρ 20 0) (ρ 21 0) (ρ 22 0) (ρ 23 0)) := hD
            refine lv_aload_n hx hb d_mLocker_69 rfl (lv_at hl 0 rfl) ?_
            refine va_get (D := (dC, dI)) (ci := 4) (v := .ref dM8) (C := R_Mod) (T := T_Mod) (N := 24) hx hb hts in_Mod hown hK hP 0 rfl rfl 10 (by decide) (hts _ mw_350) (fun _ h9 => h9) rfl d_mLocker_70 ?_
            refine lv_iload_n hx hb d_mLocker_73 rfl (lv_at hl 1 rfl) ?_
            refine lv_iload_n hx hb d_mLocker_74 rfl (lv_at hl 2 rfl) ?_
            refine va_iast (n := 60) (f := ρ 8) hx hb hK hP hD hS 9 0 rfl rfl (i := q1) (x := fst_from (ρ 9) 10 0) (by first | assumption | exact in_mIsP ‹_› | exact in_mIsI ‹_› | exact fst_in (by decide) 10 0 (by omega) ‹_›) d_mLocker_75 (fun H locs hP hD hS => ?_)
            have hP : va_P (dC, dI) vwCl (w_Mod cI cZ dM dM0 dM1 dM2 dM3 dM4 dM5 dM6 dM7 dM8 dM9 dM10 dM11 dM12 dM13 (ρ 0) (ρ 1) (ρ 2) (ρ 3) (ρ 4) (ρ 5) (ρ 6) (ρ 7) (upd (ρ 8) q1.toNatClampNeg (fst_from (ρ 9) 10 0)) (upd (ρ 9) (fst_from (ρ 9) 10 0).toNatClampNeg q1) (ρ 10) (ρ 11) (ρ 12) (ρ 13) 0 (ρ 15 0) (ρ 16 0) (ρ 17 0) (ρ 18 0) (ρ 19 0) (ρ 20 0) (ρ 21 0) (ρ 22 0) (ρ 23 0)) H := hP
            have hD : va_D A (w_Mod cI cZ dM dM0 dM1 dM2 dM3 dM4 dM5 dM6 dM7 dM8 dM9 dM10 dM11 dM12 dM13 (ρ 0) (ρ 1) (ρ 2) (ρ 3) (ρ 4) (ρ 5) (ρ 6) (ρ 7) (upd (ρ 8) q1.toNatClampNeg (fst_from (ρ 9) 10 0)) (upd (ρ 9) (fst_from (ρ 9) 10 0).toNatClampNeg q1) (ρ 10) (ρ 11) (ρ 12) (ρ 13) 0 (ρ 15 0) (ρ 16 0) (ρ 17 0) (ρ 18 0) (ρ 19 0) (ρ 20 0) (ρ 21 0) (ρ 22 0) (ρ 23 0)) := hD
            refine lv_iload_n hx hb d_mLocker_76 rfl (lv_at hl 2 rfl) ?_
            have hF : F_mLocker ρ q1 = (fst_from (ρ 9) 10 0, (ss (ss (ss ρ 8 (upd (ρ 8) q1.toNatClampNeg (fst_from (ρ 9) 10 0))) 9 (upd (ρ 9) (fst_from (ρ 9) 10 0).toNatClampNeg q1)) 14 (fun _ => 0))) := (if_neg c_1).trans ((if_pos c_2).trans ((if_neg c_3).trans ((if_pos c_4).trans ((if_neg c_5).trans rfl))))
            exact W.iret (v := fst_from (ρ 9) 10 0) hx hb hr (fun t ht hW => ⟨⟨fst_from (ρ 9) 10 0, (ss (ss (ss ρ 8 (upd (ρ 8) q1.toNatClampNeg (fst_from (ρ 9) 10 0))) 9 (upd (ρ 9) (fst_from (ρ 9) 10 0).toNatClampNeg q1)) 14 (fun _ => 0)), rfl, ⟨(congrArg Prod.fst hF).symm, (congrArg Prod.snd hF).symm⟩, by rw [ht]; exact hP, hD⟩, hS.F ht⟩) hS.2.2 d_mLocker_77
          · have c_5 : fst_from (ρ 9) 10 0 = -1 := hv
            refine lv_iconst (v := -1) hx hb d_mLocker_84 (by decide) ?_
            have hF : F_mLocker ρ q1 = (-1, (ss ρ 14 (fun _ => 0))) := (if_neg c_1).trans ((if_pos c_2).trans ((if_neg c_3).trans ((if_pos c_4).trans ((if_pos c_5).trans rfl))))
            exact W.iret (v := -1) hx hb hr (fun t ht hW => ⟨⟨-1, (ss ρ 14 (fun _ => 0)), rfl, ⟨(congrArg Prod.fst hF).symm, (congrArg Prod.snd hF).symm⟩, by rw [ht]; exact hP, hD⟩, hS.F ht⟩) hS.2.2 d_mLocker_85
        · refine lv_iconst (v := -1) hx hb d_mLocker_42 (by decide) ?_
          have hF : F_mLocker ρ q1 = (-1, (ss ρ 14 (fun _ => 0))) := (if_neg c_1).trans ((if_pos c_2).trans ((if_neg c_3).trans ((if_neg c_4).trans rfl)))
          exact W.iret (v := -1) hx hb hr (fun t ht hW => ⟨⟨-1, (ss ρ 14 (fun _ => 0)), rfl, ⟨(congrArg Prod.fst hF).symm, (congrArg Prod.snd hF).symm⟩, by rw [ht]; exact hP, hD⟩, hS.F ht⟩) hS.2.2 d_mLocker_43
def F_mOpn (ρ : SS) (q1 : Int32) (q2 : Int32) : Int32 × SS :=
  if q1 < 0 then
    (-1, (ss ρ 14 (fun _ => 0)))
  else
    if 9 < q1 then
      (-1, (ss ρ 14 (fun _ => 0)))
    else
      if (ρ 9 q1.toNatClampNeg) = (-1) then
        (-1, (ss ρ 14 (fun _ => 0)))
      else
        if (ρ 6 (ρ 9 q1.toNatClampNeg).toNatClampNeg) = (-1) then
          (-1, (ss ρ 14 (fun _ => 0)))
        else
          if (ρ 0 (ρ 6 (ρ 9 q1.toNatClampNeg).toNatClampNeg).toNatClampNeg) = q2 then
            if (F_mIsB (ss ρ 14 (fun _ => 0)) (ρ 6 (ρ 9 q1.toNatClampNeg).toNatClampNeg)) = 0 then
              if (F_mHas (ss ρ 14 (fun _ => 0)) (ρ 6 (ρ 9 q1.toNatClampNeg).toNatClampNeg)) < 10 then
                (ρ 9 q1.toNatClampNeg, (ss (ss (ss (ss (ss (ss ρ 5 ((F_mGo (ss ρ 14 (fun _ => 0)) (ρ 9 q1.toNatClampNeg) (ρ 6 (ρ 9 q1.toNatClampNeg).toNatClampNeg)) 5)) 6 ((F_mGo (ss ρ 14 (fun _ => 0)) (ρ 9 q1.toNatClampNeg) (ρ 6 (ρ 9 q1.toNatClampNeg).toNatClampNeg)) 6)) 7 ((F_mGo (ss ρ 14 (fun _ => 0)) (ρ 9 q1.toNatClampNeg) (ρ 6 (ρ 9 q1.toNatClampNeg).toNatClampNeg)) 7)) 8 ((F_mGo (ss ρ 14 (fun _ => 0)) (ρ 9 q1.toNatClampNeg) (ρ 6 (ρ 9 q1.toNatClampNeg).toNatClampNeg)) 8)) 9 ((F_mGo (ss ρ 14 (fun _ => 0)) (ρ 9 q1.toNatClampNeg) (ρ 6 (ρ 9 q1.toNatClampNeg).toNatClampNeg)) 9)) 14 (fun _ => 0)))
              else
                (-5, (ss ρ 14 (fun _ => 0)))
            else
              (-4, (ss ρ 14 (fun _ => 0)))
          else
            (-1, (ss ρ 14 (fun _ => 0)))
set_option maxHeartbeats 4000000 in
set_option maxRecDepth 100000 in
theorem c_mOpn (l : Launch) (dC : Nat → ClassId) (dI : Nat → Nat → Nat) (cI cZ : ClassId) (dM dM0 dM1 dM2 dM3 dM4 dM5 dM6 dM7 dM8 dM9 dM10 dM11 dM12 dM13 : Nat) (sz : Nat) (ρ : SS) (q1 : Int32) (q2 : Int32) (hM : MInv ρ) : Met l y_mOpn [Cond.code y_mOpn prog_6_method_26_code 5 (some .int)] ({ frames := 2, cells := 0, slots := 0, locals := 43 }) (pcW (dC, dI) (w_Mod cI cZ dM dM0 dM1 dM2 dM3 dM4 dM5 dM6 dM7 dM8 dM9 dM10 dM11 dM12 dM13 (ρ 0) (ρ 1) (ρ 2) (ρ 3) (ρ 4) (ρ 5) (ρ 6) (ρ 7) (ρ 8) (ρ 9) (ρ 10) (ρ 11) (ρ 12) (ρ 13) (ρ 14 0) (ρ 15 0) (ρ 16 0) (ρ 17 0) (ρ 18 0) (ρ 19 0) (ρ 20 0) (ρ 21 0) (ρ 22 0) (ρ 23 0)) (tyC cI cZ) sz [.ref dM, .int q1, .int q2]) (qI (fun r u => r = (F_mOpn ρ q1 q2).1 ∧ u = (F_mOpn ρ q1 q2).2) (dC, dI) (fun u : SS => w_Mod cI cZ dM dM0 dM1 dM2 dM3 dM4 dM5 dM6 dM7 dM8 dM9 dM10 dM11 dM12 dM13 (u 0) (u 1) (u 2) (u 3) (u 4) (u 5) (u 6) (u 7) (u 8) (u 9) (u 10) (u 11) (u 12) (u 13) (u 14 0) (u 15 0) (u 16 0) (u 17 0) (u 18 0) (u 19 0) (u 20 0) (u 21 0) (u 22 0) (u 23 0)) (va_A (w_Mod cI cZ dM dM0 dM1 dM2 dM3 dM4 dM5 dM6 dM7 dM8 dM9 dM10 dM11 dM12 dM13 (ρ 0) (ρ 1) (ρ 2) (ρ 3) (ρ 4) (ρ 5) (ρ 6) (ρ 7) (ρ 8) (ρ 9) (ρ 10) (ρ 11) (ρ 12) (ρ 13) (ρ 14 0) (ρ 15 0) (ρ 16 0) (ρ 17 0) (ρ 18 0) (ρ 19 0) (ρ 20 0) (ρ 21 0) (ρ 22 0) (ρ 23 0)) sz)) 0 0 (va_A (w_Mod cI cZ dM dM0 dM1 dM2 dM3 dM4 dM5 dM6 dM7 dM8 dM9 dM10 dM11 dM12 dM13 (ρ 0) (ρ 1) (ρ 2) (ρ 3) (ρ 4) (ρ 5) (ρ 6) (ρ 7) (ρ 8) (ρ 9) (ρ 10) (ρ 11) (ρ 12) (ρ 13) (ρ 14 0) (ρ 15 0) (ρ 16 0) (ρ 17 0) (ρ 18 0) (ρ 19 0) (ρ 20 0) (ρ 21 0) (ρ 22 0) (ρ 23 0)) sz) := by
  refine Met.ofW (cc := prog_6_method_26_code) (maxL := 5) (ret := (some .int)) (by decide) rfl ?_
  intro p e s m args below meth c s₁ B hml hv
  obtain ⟨rfl, hsz, hT, hP, hK, hD0⟩ := hv
  have hx := B.exec
  have hb := B.bytes
  have hr := B.returns
  have hts : ∀ w ∈ lw_ok, w.before ([.ref dM, .int q1, .int q2] : List Value).toArray s = true := hT.use
  have hown : s.vm.findClass R_Mod = some m.cls := findClass_of_methodNamed B.named
  have hlocks := B.notSynchronized
  subst hsz
  have hD := hD0.self (sz := s.heap.size)
  generalize hAe : va_A (w_Mod cI cZ dM dM0 dM1 dM2 dM3 dM4 dM5 dM6 dM7 dM8 dM9 dM10 dM11 dM12 dM13 (ρ 0) (ρ 1) (ρ 2) (ρ 3) (ρ 4) (ρ 5) (ρ 6) (ρ 7) (ρ 8) (ρ 9) (ρ 10) (ρ 11) (ρ 12) (ρ 13) (ρ 14 0) (ρ 15 0) (ρ 16 0) (ρ 17 0) (ρ 18 0) (ρ 19 0) (ρ 20 0) (ρ 21 0) (ρ 22 0) (ρ 23 0)) s.heap.size = A at hD ⊢
  have hA : ∀ q : Nat, s.heap.size ≤ q → A q := fun q h => by rw [← hAe]; exact Or.inr h
  have hS : va_S A s.heap s.heap [] := va_S.rf
  have hl := lv_entry ([.ref dM, .int q1, .int q2]) (n := 5) (Nat.le_of_ble_eq_true rfl)
  rw [lg_entry_eq]
  generalize (lg_sl ([.ref dM, .int q1, .int q2]) ++ List.replicate (5 - (lg_sl ([.ref dM, .int q1, .int q2])).length) Slot.unset).toArray = ls at hl ⊢
  have hl : lv_has ls 5 [(0, .ref dM), (1, .int q1), (2, .int q2)] := hl
  obtain ⟨mo, hmo, emo, hof, hre, hlo, hlk, ⟨kc, hkm, ek, hrow, hlend⟩, ⟨xc, hxm, ex⟩, hpe, hsc, ⟨lc, hlm, el, hrec⟩⟩ := id hM
  refine lv_aload_n hx hb d_mOpn_0 rfl (lv_at hl 0 rfl) ?_
  refine lv_iconst (v := 0) hx hb d_mOpn_1 (by decide) ?_
  refine va_put (D := (dC, dI)) (ci := 4) (v := .int 0) (ty := .int) (C := R_Mod) (T := T_Mod) (N := 24) hx hb hts in_Mod ty_Mod tyok_Mod nm_Mod hown hK hP hD hS 0 rfl rfl 0 (by decide) (hts _ mw_340) (fun _ h9 => h9) rfl (by decide +kernel) rfl rfl (Nat.le_of_ble_eq_true rfl) d_mOpn_2 (fun H locs hP hD hS => ?_)
  have hP : va_P (dC, dI) vwCl (w_Mod cI cZ dM dM0 dM1 dM2 dM3 dM4 dM5 dM6 dM7 dM8 dM9 dM10 dM11 dM12 dM13 (ρ 0) (ρ 1) (ρ 2) (ρ 3) (ρ 4) (ρ 5) (ρ 6) (ρ 7) (ρ 8) (ρ 9) (ρ 10) (ρ 11) (ρ 12) (ρ 13) 0 (ρ 15 0) (ρ 16 0) (ρ 17 0) (ρ 18 0) (ρ 19 0) (ρ 20 0) (ρ 21 0) (ρ 22 0) (ρ 23 0)) H := hP
  have hD : va_D A (w_Mod cI cZ dM dM0 dM1 dM2 dM3 dM4 dM5 dM6 dM7 dM8 dM9 dM10 dM11 dM12 dM13 (ρ 0) (ρ 1) (ρ 2) (ρ 3) (ρ 4) (ρ 5) (ρ 6) (ρ 7) (ρ 8) (ρ 9) (ρ 10) (ρ 11) (ρ 12) (ρ 13) 0 (ρ 15 0) (ρ 16 0) (ρ 17 0) (ρ 18 0) (ρ 19 0) (ρ 20 0) (ρ 21 0) (ρ 22 0) (ρ 23 0)) := hD
  refine lv_iload_n hx hb d_mOpn_5 rfl (lv_at hl 1 rfl) ?_
  refine lv_if_lt (tgt := 25) hx hb d_mOpn_6 (by decide) (fun c_1 => ?_) (fun c_1 => ?_)
  · refine lv_iconst (v := -1) hx hb d_mOpn_25 (by decide) ?_
    have hF : F_mOpn ρ q1 q2 = (-1, (ss ρ 14 (fun _ => 0))) := (if_pos c_1).trans rfl
    exact W.iret (v := -1) hx hb hr (fun t ht hW => ⟨⟨-1, (ss ρ 14 (fun _ => 0)), rfl, ⟨(congrArg Prod.fst hF).symm, (congrArg Prod.snd hF).symm⟩, by rw [ht]; exact hP, hD⟩, hS.F ht⟩) hS.2.2 d_mOpn_26
  · refine lv_iload_n hx hb d_mOpn_9 rfl (lv_at hl 1 rfl) ?_
    refine lv_bipush (v := 9) hx hb d_mOpn_10 (by decide) ?_
    refine lv_icmp_gt (tgt := 25) hx hb d_mOpn_12 (by decide) (fun c_2 => ?_) (fun c_2 => ?_)
    · refine lv_iconst (v := -1) hx hb d_mOpn_25 (by decide) ?_
      have hF : F_mOpn ρ q1 q2 = (-1, (ss ρ 14 (fun _ => 0))) := (if_neg c_1).trans ((if_pos c_2).trans rfl)
      exact W.iret (v := -1) hx hb hr (fun t ht hW => ⟨⟨-1, (ss ρ 14 (fun _ => 0)), rfl, ⟨(congrArg Prod.fst hF).symm, (congrArg Prod.snd hF).symm⟩, by rw [ht]; exact hP, hD⟩, hS.F ht⟩) hS.2.2 d_mOpn_26
    · refine lv_aload_n hx hb d_mOpn_15 rfl (lv_at hl 0 rfl) ?_
      refine va_get (D := (dC, dI)) (ci := 4) (v := .ref dM9) (C := R_Mod) (T := T_Mod) (N := 24) hx hb hts in_Mod hown hK hP 0 rfl rfl 11 (by decide) (hts _ mw_351) (fun _ h9 => h9) rfl d_mOpn_16 ?_
      refine lv_iload_n hx hb d_mOpn_19 rfl (lv_at hl 1 rfl) ?_
      refine va_iald (n := 10) (f := ρ 9) hx hb hK hP 10 0 rfl rfl (i := q1) (by first | assumption | exact in_9 ‹_› ‹_› | exact (hlk _ (clt (in_9 ‹_› ‹_›))).resolve_left ‹_› | exact (hre _ (clt ((hlk _ (clt (in_9 ‹_› ‹_›))).resolve_left ‹_›))).resolve_left ‹_› | exact hlo _ (clt ((hlk _ (clt (in_9 ‹_› ‹_›))).resolve_left ‹_›))) d_mOpn_20 ?_
      refine lv_iconst (v := -1) hx hb d_mOpn_21 (by decide) ?_
      refine lv_icmp_ne (tgt := 27) hx hb d_mOpn_22 (by decide) (fun c_3 => ?_) (fun c_3 => ?_)
      · refine lv_aload_n hx hb d_mOpn_27 rfl (lv_at hl 0 rfl) ?_
        refine va_get (D := (dC, dI)) (ci := 4) (v := .ref dM9) (C := R_Mod) (T := T_Mod) (N := 24) hx hb hts in_Mod hown hK hP 0 rfl rfl 11 (by decide) (hts _ mw_351) (fun _ h9 => h9) rfl d_mOpn_28 ?_
        refine lv_iload_n hx hb d_mOpn_31 rfl (lv_at hl 1 rfl) ?_
        refine va_iald (n := 10) (f := ρ 9) hx hb hK hP 10 0 rfl rfl (i := q1) (by first | assumption | exact in_9 ‹_› ‹_› | exact (hlk _ (clt (in_9 ‹_› ‹_›))).resolve_left ‹_› | exact (hre _ (clt ((hlk _ (clt (in_9 ‹_› ‹_›))).resolve_left ‹_›))).resolve_left ‹_› | exact hlo _ (clt ((hlk _ (clt (in_9 ‹_› ‹_›))).resolve_left ‹_›))) d_mOpn_32 ?_
        refine lv_istore_n (lv' := [(3, .int (ρ 9 q1.toNatClampNeg)), (0, .ref dM), (1, .int q1), (2, .int q2)]) hx hb d_mOpn_33 rfl hl (by decide) rfl (fun ls hl => ?_)
        refine lv_aload_n hx hb d_mOpn_34 rfl (lv_at hl 1 rfl) ?_
        refine va_get (D := (dC, dI)) (ci := 4) (v := .ref dM6) (C := R_Mod) (T := T_Mod) (N := 24) hx hb hts in_Mod hown hK hP 0 rfl rfl 8 (by decide) (hts _ mw_348) (fun _ h9 => h9) rfl d_mOpn_35 ?_
        refine lv_iload_n hx hb d_mOpn_38 rfl (lv_at hl 0 rfl) ?_
        refine va_iald (n := 60) (f := ρ 6) hx hb hK hP 7 0 rfl rfl (i := ρ 9 q1.toNatClampNeg) (by first | assumption | exact in_9 ‹_› ‹_› | exact (hlk _ (clt (in_9 ‹_› ‹_›))).resolve_left ‹_› | exact (hre _ (clt ((hlk _ (clt (in_9 ‹_› ‹_›))).resolve_left ‹_›))).resolve_left ‹_› | exact hlo _ (clt ((hlk _ (clt (in_9 ‹_› ‹_›))).resolve_left ‹_›))) d_mOpn_39 ?_
        refine lv_istore (lv' := [(4, .int (ρ 6 (ρ 9 q1.toNatClampNeg).toNatClampNeg)), (3, .int (ρ 9 q1.toNatClampNeg)), (0, .ref dM), (1, .int q1), (2, .int q2)]) hx hb d_mOpn_40 hl (by decide) rfl (fun ls hl => ?_)
        refine lv_iload hx hb d_mOpn_42 (lv_at hl 0 rfl) ?_
        refine lv_iconst (v := -1) hx hb d_mOpn_44 (by decide) ?_
        refine lv_icmp_eq (tgt := 59) hx hb d_mOpn_45 (by decide) (fun c_4 => ?_) (fun c_4 => ?_)
        · refine lv_iconst (v := -1) hx hb d_mOpn_59 (by decide) ?_
          have hF : F_mOpn ρ q1 q2 = (-1, (ss ρ 14 (fun _ => 0))) := (if_neg c_1).trans ((if_neg c_2).trans ((if_neg c_3).trans ((if_pos c_4).trans rfl)))
          exact W.iret (v := -1) hx hb hr (fun t ht hW => ⟨⟨-1, (ss ρ 14 (fun _ => 0)), rfl, ⟨(congrArg Prod.fst hF).symm, (congrArg Prod.snd hF).symm⟩, by rw [ht]; exact hP, hD⟩, hS.F ht⟩) hS.2.2 d_mOpn_60
        · refine lv_aload_n hx hb d_mOpn_48 rfl (lv_at hl 2 rfl) ?_
          refine va_get (D := (dC, dI)) (ci := 4) (v := .ref dM0) (C := R_Mod) (T := T_Mod) (N := 24) hx hb hts in_Mod hown hK hP 0 rfl rfl 2 (by decide) (hts _ mw_342) (fun _ h9 => h9) rfl d_mOpn_49 ?_
          refine lv_iload hx hb d_mOpn_52 (lv_at hl 0 rfl) ?_
          refine va_iald (n := 40) (f := ρ 0) hx hb hK hP 1 0 rfl rfl (i := ρ 6 (ρ 9 q1.toNatClampNeg).toNatClampNeg) (by first | assumption | exact in_9 ‹_› ‹_› | exact (hlk _ (clt (in_9 ‹_› ‹_›))).resolve_left ‹_› | exact (hre _ (clt ((hlk _ (clt (in_9 ‹_› ‹_›))).resolve_left ‹_›))).resolve_left ‹_› | exact hlo _ (clt ((hlk _ (clt (in_9 ‹_› ‹_›))).resolve_left ‹_›))) d_mOpn_54 ?_
          refine lv_iload_n hx hb d_mOpn_55 rfl (lv_at hl 4 rfl) ?_
          refine lv_icmp_eq (tgt := 61) hx hb d_mOpn_56 (by decide) (fun c_5 => ?_) (fun c_5 => ?_)
          · refine lv_aload_n hx hb d_mOpn_61 rfl (lv_at hl 2 rfl) ?_
            refine lv_iload hx hb d_mOpn_62 (lv_at hl 0 rfl) ?_
            refine xc_VR (As := [.int (ρ 6 (ρ 9 q1.toNatClampNeg).toNatClampNeg)]) (rest := []) (ci := 4) ⟨hx, hb, hml, hown, hts⟩ hT hK hP (c_mIsB l dC dI cI cZ dM dM0 dM1 dM2 dM3 dM4 dM5 dM6 dM7 dM8 dM9 dM10 dM11 dM12 dM13 (ss ρ 14 (fun _ => 0)) (ρ 6 (ρ 9 q1.toNatClampNeg).toNatClampNeg) (by first | assumption | exact in_9 ‹_› ‹_› | exact (hlk _ (clt (in_9 ‹_› ‹_›))).resolve_left ‹_› | exact (hre _ (clt ((hlk _ (clt (in_9 ‹_› ‹_›))).resolve_left ‹_›))).resolve_left ‹_› | exact hlo _ (clt ((hlk _ (clt (in_9 ‹_› ‹_›))).resolve_left ‹_›)))) [0, 1, 2, 3, 4, 5, 6, 7, 8, 9, 10, 11, 12, 13, 14] rfl (xw_V 1 hts mw_427 mw_19 mw_424 mw_426 mw_5 rfl rfl (by decide +kernel) ⟨Nat.le_of_ble_eq_true rfl, Nat.le_of_ble_eq_true rfl⟩) rfl rfl rfl hl.1 rfl (Nat.le_of_ble_eq_true rfl) d_mOpn_64 ⟨Nat.zero_le _, Nat.zero_le _⟩ (fun r hw => ?_)
            subst hw
            refine lv_if_eq (tgt := 73) hx hb d_mOpn_67 (by decide) (fun c_6 => ?_) (fun c_6 => ?_)
            · refine lv_aload_n hx hb d_mOpn_73 rfl (lv_at hl 2 rfl) ?_
              refine lv_iload hx hb d_mOpn_74 (lv_at hl 0 rfl) ?_
              refine xc_VR (As := [.int (ρ 6 (ρ 9 q1.toNatClampNeg).toNatClampNeg)]) (rest := []) (ci := 4) ⟨hx, hb, hml, hown, hts⟩ hT hK hP (c_mHas l dC dI cI cZ dM dM0 dM1 dM2 dM3 dM4 dM5 dM6 dM7 dM8 dM9 dM10 dM11 dM12 dM13 (ss ρ 14 (fun _ => 0)) (ρ 6 (ρ 9 q1.toNatClampNeg).toNatClampNeg)) [0, 1, 2, 3, 4, 5, 6, 7, 8, 9, 10, 11, 12, 13, 14] rfl (xw_V 1 hts mw_462 mw_19 mw_459 mw_461 mw_7 rfl rfl (by decide +kernel) ⟨Nat.le_of_ble_eq_true rfl, Nat.le_of_ble_eq_true rfl⟩) rfl rfl rfl hl.1 rfl (Nat.le_of_ble_eq_true rfl) d_mOpn_76 ⟨Nat.zero_le _, Nat.zero_le _⟩ (fun r hw => ?_)
              subst hw
              refine lv_bipush (v := 10) hx hb d_mOpn_79 (by decide) ?_
              refine lv_icmp_lt (tgt := 87) hx hb d_mOpn_81 (by decide) (fun c_7 => ?_) (fun c_7 => ?_)
              · refine lv_aload_n hx hb d_mOpn_87 rfl (lv_at hl 2 rfl) ?_
                refine lv_iload_n hx hb d_mOpn_88 rfl (lv_at hl 1 rfl) ?_
                refine lv_iload hx hb d_mOpn_89 (lv_at hl 0 rfl) ?_
                refine xc_VWv (As := [.int (ρ 9 q1.toNatClampNeg), .int (ρ 6 (ρ 9 q1.toNatClampNeg).toNatClampNeg)]) (rest := []) (ci := 4) (wr := []) ⟨hx, hb, hml, hown, hts⟩ hT hK hP hD hS hA (c_mGo l dC dI cI cZ dM dM0 dM1 dM2 dM3 dM4 dM5 dM6 dM7 dM8 dM9 dM10 dM11 dM12 dM13 H.size (ss ρ 14 (fun _ => 0)) (ρ 9 q1.toNatClampNeg) (ρ 6 (ρ 9 q1.toNatClampNeg).toNatClampNeg) (by first | assumption | exact in_9 ‹_› ‹_› | exact (hlk _ (clt (in_9 ‹_› ‹_›))).resolve_left ‹_› | exact (hre _ (clt ((hlk _ (clt (in_9 ‹_› ‹_›))).resolve_left ‹_›))).resolve_left ‹_› | exact hlo _ (clt ((hlk _ (clt (in_9 ‹_› ‹_›))).resolve_left ‹_›))) (by first | assumption | exact in_9 ‹_› ‹_› | exact (hlk _ (clt (in_9 ‹_› ‹_›))).resolve_left ‹_› | exact (hre _ (clt ((hlk _ (clt (in_9 ‹_› ‹_›))).resolve_left ‹_›))).resolve_left ‹_› | exact hlo _ (clt ((hlk _ (clt (in_9 ‹_› ‹_›))).resolve_left ‹_›)))) [0, 1, 2, 3, 4, 5, 6, 7, 8, 9, 10, 11, 12, 13, 14] [] rfl (by decide) rfl (by decide) (by decide) (xw_V 2 hts mw_466 mw_19 mw_463 mw_465 mw_8 rfl rfl (by decide +kernel) ⟨Nat.le_of_ble_eq_true rfl, Nat.le_of_ble_eq_true rfl⟩) rfl rfl rfl hl.1 rfl (Nat.le_of_ble_eq_true rfl) d_mOpn_91 ⟨Nat.zero_le _, Nat.zero_le _⟩ (fun u H locs hw hP hD hS => ?_)
                obtain ⟨v10_5, v10_6, v10_7, v10_8, v10_9⟩ := u
                have hv10_5 : v10_5 = (F_mGo (ss ρ 14 (fun _ => 0)) (ρ 9 q1.toNatClampNeg) (ρ 6 (ρ 9 q1.toNatClampNeg).toNatClampNeg)) 5 := congrArg (fun u : (Nat → Int32) × (Nat → Int32) × (Nat → Int32) × (Nat → Int32) × (Nat → Int32) => u.1) hw
                have hv10_6 : v10_6 = (F_mGo (ss ρ 14 (fun _ => 0)) (ρ 9 q1.toNatClampNeg) (ρ 6 (ρ 9 q1.toNatClampNeg).toNatClampNeg)) 6 := congrArg (fun u : (Nat → Int32) × (Nat → Int32) × (Nat → Int32) × (Nat → Int32) × (Nat → Int32) => u.2.1) hw
                have hv10_7 : v10_7 = (F_mGo (ss ρ 14 (fun _ => 0)) (ρ 9 q1.toNatClampNeg) (ρ 6 (ρ 9 q1.toNatClampNeg).toNatClampNeg)) 7 := congrArg (fun u : (Nat → Int32) × (Nat → Int32) × (Nat → Int32) × (Nat → Int32) × (Nat → Int32) => u.2.2.1) hw
                have hv10_8 : v10_8 = (F_mGo (ss ρ 14 (fun _ => 0)) (ρ 9 q1.toNatClampNeg) (ρ 6 (ρ 9 q1.toNatClampNeg).toNatClampNeg)) 8 := congrArg (fun u : (Nat → Int32) × (Nat → Int32) × (Nat → Int32) × (Nat → Int32) × (Nat → Int32) => u.2.2.2.1) hw
                have hv10_9 : v10_9 = (F_mGo (ss ρ 14 (fun _ => 0)) (ρ 9 q1.toNatClampNeg) (ρ 6 (ρ 9 q1.toNatClampNeg).toNatClampNeg)) 9 := congrArg (fun u : (Nat → Int32) × (Nat → Int32) × (Nat → Int32) × (Nat → Int32) × (Nat → Int32) => u.2.2.2.2) hw
                have hP : va_P (dC, dI) vwCl (w_Mod cI cZ dM dM0 dM1 dM2 dM3 dM4 dM5 dM6 dM7 dM8 dM9 dM10 dM11 dM12 dM13 (ρ 0) (ρ 1) (ρ 2) (ρ 3) (ρ 4) v10_5 v10_6 v10_7 v10_8 v10_9 (ρ 10) (ρ 11) (ρ 12) (ρ 13) 0 (ρ 15 0) (ρ 16 0) (ρ 17 0) (ρ 18 0) (ρ 19 0) (ρ 20 0) (ρ 21 0) (ρ 22 0) (ρ 23 0)) H := hP.sub [0, 1, 2, 3, 4, 5, 6, 7, 8, 9, 10, 11, 12, 13, 14] rfl
                have hD : va_D A (w_Mod cI cZ dM dM0 dM1 dM2 dM3 dM4 dM5 dM6 dM7 dM8 dM9 dM10 dM11 dM12 dM13 (ρ 0) (ρ 1) (ρ 2) (ρ 3) (ρ 4) v10_5 v10_6 v10_7 v10_8 v10_9 (ρ 10) (ρ 11) (ρ 12) (ρ 13) 0 (ρ 15 0) (ρ 16 0) (ρ 17 0) (ρ 18 0) (ρ 19 0) (ρ 20 0) (ρ 21 0) (ρ 22 0) (ρ 23 0)) := hD.sub [0, 1, 2, 3, 4, 5, 6, 7, 8, 9, 10, 11, 12, 13, 14] (by decide) rfl
                refine lv_iload_n hx hb d_mOpn_94 rfl (lv_at hl 1 rfl) ?_
                have hF : F_mOpn ρ q1 q2 = (ρ 9 q1.toNatClampNeg, (ss (ss (ss (ss (ss (ss ρ 5 v10_5) 6 v10_6) 7 v10_7) 8 v10_8) 9 v10_9) 14 (fun _ => 0))) := by subst hv10_5 hv10_6 hv10_7 hv10_8 hv10_9; exact ((if_neg c_1).trans ((if_neg c_2).trans ((if_neg c_3).trans ((if_neg c_4).trans ((if_pos c_5).trans ((if_pos c_6).trans ((if_pos c_7).trans rfl)))))))
                exact W.iret (v := ρ 9 q1.toNatClampNeg) hx hb hr (fun t ht hW => ⟨⟨ρ 9 q1.toNatClampNeg, (ss (ss (ss (ss (ss (ss ρ 5 v10_5) 6 v10_6) 7 v10_7) 8 v10_8) 9 v10_9) 14 (fun _ => 0)), rfl, ⟨(congrArg Prod.fst hF).symm, (congrArg Prod.snd hF).symm⟩, by rw [ht]; exact hP, hD⟩, hS.F ht⟩) hS.2.2 d_mOpn_95
              · refine lv_bipush (v := -5) hx hb d_mOpn_84 (by decide) ?_
                have hF : F_mOpn ρ q1 q2 = (-5, (ss ρ 14 (fun _ => 0))) := (if_neg c_1).trans ((if_neg c_2).trans ((if_neg c_3).trans ((if_neg c_4).trans ((if_pos c_5).trans ((if_pos c_6).trans ((if_neg c_7).trans rfl))))))
                exact W.iret (v := -5) hx hb hr (fun t ht hW => ⟨⟨-5, (ss ρ 14 (fun _ => 0)), rfl, ⟨(congrArg Prod.fst hF).symm, (congrArg Prod.snd hF).symm⟩, by rw [ht]; exact hP, hD⟩, hS.F ht⟩) hS.2.2 d_mOpn_86
            · refine lv_bipush (v := -4) hx hb d_mOpn_70 (by decide) ?_
              have hF : F_mOpn ρ q1 q2 = (-4, (ss ρ 14 (fun _ => 0))) := (if_neg c_1).trans ((if_neg c_2).trans ((if_neg c_3).trans ((if_neg c_4).trans ((if_pos c_5).trans ((if_neg c_6).trans rfl)))))
              exact W.iret (v := -4) hx hb hr (fun t ht hW => ⟨⟨-4, (ss ρ 14 (fun _ => 0)), rfl, ⟨(congrArg Prod.fst hF).symm, (congrArg Prod.snd hF).symm⟩, by rw [ht]; exact hP, hD⟩, hS.F ht⟩) hS.2.2 d_mOpn_72
          · refine lv_iconst (v := -1) hx hb d_mOpn_59 (by decide) ?_
            have hF : F_mOpn ρ q1 q2 = (-1, (ss ρ 14 (fun _ => 0))) := (if_neg c_1).trans ((if_neg c_2).trans ((if_neg c_3).trans ((if_neg c_4).trans ((if_neg c_5).trans rfl))))
            exact W.iret (v := -1) hx hb hr (fun t ht hW => ⟨⟨-1, (ss ρ 14 (fun _ => 0)), rfl, ⟨(congrArg Prod.fst hF).symm, (congrArg Prod.snd hF).symm⟩, by rw [ht]; exact hP, hD⟩, hS.F ht⟩) hS.2.2 d_mOpn_60
      · refine lv_iconst (v := -1) hx hb d_mOpn_25 (by decide) ?_
        have hF : F_mOpn ρ q1 q2 = (-1, (ss ρ 14 (fun _ => 0))) := (if_neg c_1).trans ((if_neg c_2).trans ((if_pos c_3).trans rfl))
        exact W.iret (v := -1) hx hb hr (fun t ht hW => ⟨⟨-1, (ss ρ 14 (fun _ => 0)), rfl, ⟨(congrArg Prod.fst hF).symm, (congrArg Prod.snd hF).symm⟩, by rw [ht]; exact hP, hD⟩, hS.F ht⟩) hS.2.2 d_mOpn_26
def F_mDoor (ρ : SS) (q1 : Int32) : Int32 × SS :=
  if (F_mIsI q1) = 0 then
    (0, (ss ρ 14 (fun _ => 0)))
  else
    if (ρ 7 q1.toNatClampNeg) = 0 then
      (1, (ss ρ 14 (fun _ => 0)))
    else
      (0, (ss ρ 14 (fun _ => 0)))
set_option maxHeartbeats 4000000 in
set_option maxRecDepth 100000 in
theorem c_mDoor (l : Launch) (dC : Nat → ClassId) (dI : Nat → Nat → Nat) (cI cZ : ClassId) (dM dM0 dM1 dM2 dM3 dM4 dM5 dM6 dM7 dM8 dM9 dM10 dM11 dM12 dM13 : Nat) (sz : Nat) (ρ : SS) (q1 : Int32) : Met l y_mDoor [Cond.code y_mDoor prog_6_method_27_code 2 (some .boolean)] ({ frames := 1, cells := 0, slots := 0, locals := 20 }) (pcW (dC, dI) (w_Mod cI cZ dM dM0 dM1 dM2 dM3 dM4 dM5 dM6 dM7 dM8 dM9 dM10 dM11 dM12 dM13 (ρ 0) (ρ 1) (ρ 2) (ρ 3) (ρ 4) (ρ 5) (ρ 6) (ρ 7) (ρ 8) (ρ 9) (ρ 10) (ρ 11) (ρ 12) (ρ 13) (ρ 14 0) (ρ 15 0) (ρ 16 0) (ρ 17 0) (ρ 18 0) (ρ 19 0) (ρ 20 0) (ρ 21 0) (ρ 22 0) (ρ 23 0)) (tyC cI cZ) sz [.ref dM, .int q1]) (qI (fun r u => r = (F_mDoor ρ q1).1 ∧ u = (F_mDoor ρ q1).2) (dC, dI) (fun u : SS => w_Mod cI cZ dM dM0 dM1 dM2 dM3 dM4 dM5 dM6 dM7 dM8 dM9 dM10 dM11 dM12 dM13 (u 0) (u 1) (u 2) (u 3) (u 4) (u 5) (u 6) (u 7) (u 8) (u 9) (u 10) (u 11) (u 12) (u 13) (u 14 0) (u 15 0) (u 16 0) (u 17 0) (u 18 0) (u 19 0) (u 20 0) (u 21 0) (u 22 0) (u 23 0)) (va_A (w_Mod cI cZ dM dM0 dM1 dM2 dM3 dM4 dM5 dM6 dM7 dM8 dM9 dM10 dM11 dM12 dM13 (ρ 0) (ρ 1) (ρ 2) (ρ 3) (ρ 4) (ρ 5) (ρ 6) (ρ 7) (ρ 8) (ρ 9) (ρ 10) (ρ 11) (ρ 12) (ρ 13) (ρ 14 0) (ρ 15 0) (ρ 16 0) (ρ 17 0) (ρ 18 0) (ρ 19 0) (ρ 20 0) (ρ 21 0) (ρ 22 0) (ρ 23 0)) sz)) 0 0 (va_A (w_Mod cI cZ dM dM0 dM1 dM2 dM3 dM4 dM5 dM6 dM7 dM8 dM9 dM10 dM11 dM12 dM13 (ρ 0) (ρ 1) (ρ 2) (ρ 3) (ρ 4) (ρ 5) (ρ 6) (ρ 7) (ρ 8) (ρ 9) (ρ 10) (ρ 11) (ρ 12) (ρ 13) (ρ 14 0) (ρ 15 0) (ρ 16 0) (ρ 17 0) (ρ 18 0) (ρ 19 0) (ρ 20 0) (ρ 21 0) (ρ 22 0) (ρ 23 0)) sz) := by
  refine Met.ofW (cc := prog_6_method_27_code) (maxL := 2) (ret := (some .boolean)) (by decide) rfl ?_
  intro p e s m args below meth c s₁ B hml hv
  obtain ⟨rfl, hsz, hT, hP, hK, hD0⟩ := hv
  have hx := B.exec
  have hb := B.bytes
  have hr := B.returns
  have hts : ∀ w ∈ lw_ok, w.before ([.ref dM, .int q1] : List Value).toArray s = true := hT.use
  have hown : s.vm.findClass R_Mod = some m.cls := findClass_of_methodNamed B.named
  have hlocks := B.notSynchronized
  subst hsz
  have hD := hD0.self (sz := s.heap.size)
  generalize hAe : va_A (w_Mod cI cZ dM dM0 dM1 dM2 dM3 dM4 dM5 dM6 dM7 dM8 dM9 dM10 dM11 dM12 dM13 (ρ 0) (ρ 1) (ρ 2) (ρ 3) (ρ 4) (ρ 5) (ρ 6) (ρ 7) (ρ 8) (ρ 9) (ρ 10) (ρ 11) (ρ 12) (ρ 13) (ρ 14 0) (ρ 15 0) (ρ 16 0) (ρ 17 0) (ρ 18 0) (ρ 19 0) (ρ 20 0) (ρ 21 0) (ρ 22 0) (ρ 23 0)) s.heap.size = A at hD ⊢
  have hA : ∀ q : Nat, s.heap.size ≤ q → A q := fun q h => by rw [← hAe]; exact Or.inr h
  have hS : va_S A s.heap s.heap [] := va_S.rf
  have hl := lv_entry ([.ref dM, .int q1]) (n := 2) (Nat.le_of_ble_eq_true rfl)
  rw [lg_entry_eq]
  generalize (lg_sl ([.ref dM, .int q1]) ++ List.replicate (2 - (lg_sl ([.ref dM, .int q1])).length) Slot.unset).toArray = ls at hl ⊢
  have hl : lv_has ls 2 [(0, .ref dM), (1, .int q1)] := hl
  refine lv_aload_n hx hb d_mDoor_0 rfl (lv_at hl 0 rfl) ?_
  refine lv_iconst (v := 0) hx hb d_mDoor_1 (by decide) ?_
  refine va_put (D := (dC, dI)) (ci := 4) (v := .int 0) (ty := .int) (C := R_Mod) (T := T_Mod) (N := 24) hx hb hts in_Mod ty_Mod tyok_Mod nm_Mod hown hK hP hD hS 0 rfl rfl 0 (by decide) (hts _ mw_340) (fun _ h9 => h9) rfl (by decide +kernel) rfl rfl (Nat.le_of_ble_eq_true rfl) d_mDoor_2 (fun H locs hP hD hS => ?_)
  have hP : va_P (dC, dI) vwCl (w_Mod cI cZ dM dM0 dM1 dM2 dM3 dM4 dM5 dM6 dM7 dM8 dM9 dM10 dM11 dM12 dM13 (ρ 0) (ρ 1) (ρ 2) (ρ 3) (ρ 4) (ρ 5) (ρ 6) (ρ 7) (ρ 8) (ρ 9) (ρ 10) (ρ 11) (ρ 12) (ρ 13) 0 (ρ 15 0) (ρ 16 0) (ρ 17 0) (ρ 18 0) (ρ 19 0) (ρ 20 0) (ρ 21 0) (ρ 22 0) (ρ 23 0)) H := hP
  have hD : va_D A (w_Mod cI cZ dM dM0 dM1 dM2 dM3 dM4 dM5 dM6 dM7 dM8 dM9 dM10 dM11 dM12 dM13 (ρ 0) (ρ 1) (ρ 2) (ρ 3) (ρ 4) (ρ 5) (ρ 6) (ρ 7) (ρ 8) (ρ 9) (ρ 10) (ρ 11) (ρ 12) (ρ 13) 0 (ρ 15 0) (ρ 16 0) (ρ 17 0) (ρ 18 0) (ρ 19 0) (ρ 20 0) (ρ 21 0) (ρ 22 0) (ρ 23 0)) := hD
  refine lv_iload_n hx hb d_mDoor_5 rfl (lv_at hl 1 rfl) ?_
  refine xc_S0 (As := [.int q1]) (rest := []) ⟨hx, hb, hml, hown, hts⟩ hT (c_mIsI l q1) ⟨xw_B 1 hts mw_434 mw_19 mw_432 rfl rfl (by decide +kernel) ⟨Nat.le_of_ble_eq_true rfl, Nat.le_of_ble_eq_true rfl⟩, hts _ mw_433⟩ rfl hl.1 rfl (Nat.le_of_ble_eq_true rfl) d_mDoor_6 ⟨Nat.zero_le _, Nat.zero_le _⟩ (fun r hw => ?_)
  subst hw
  refine lv_if_eq (tgt := 25) hx hb d_mDoor_9 (by decide) (fun c_1 => ?_) (fun c_1 => ?_)
  · refine lv_iconst (v := 0) hx hb d_mDoor_25 (by decide) ?_
    have hF : F_mDoor ρ q1 = (0, (ss ρ 14 (fun _ => 0))) := (if_pos c_1).trans rfl
    exact W.zret (ty := .boolean) (v := 0) hx hb hr (by decide) (fun t ht hW => ⟨⟨0, (ss ρ 14 (fun _ => 0)), rfl, ⟨(congrArg Prod.fst hF).symm, (congrArg Prod.snd hF).symm⟩, by rw [ht]; exact hP, hD⟩, hS.F ht⟩) hS.2.2 d_mDoor_26
  · refine lv_aload_n hx hb d_mDoor_12 rfl (lv_at hl 0 rfl) ?_
    refine va_get (D := (dC, dI)) (ci := 4) (v := .ref dM7) (C := R_Mod) (T := T_Mod) (N := 24) hx hb hts in_Mod hown hK hP 0 rfl rfl 9 (by decide) (hts _ mw_349) (fun _ h9 => h9) rfl d_mDoor_13 ?_
    refine lv_iload_n hx hb d_mDoor_16 rfl (lv_at hl 1 rfl) ?_
    refine va_zald (n := 60) (f := ρ 7) hx hb hK hP 8 1 rfl rfl (i := q1) (by first | assumption | exact in_mIsP ‹_› | exact in_mIsI ‹_›) d_mDoor_17 ?_
    refine lv_if_ne (tgt := 25) hx hb d_mDoor_18 (by decide) (fun c_2 => ?_) (fun c_2 => ?_)
    · refine lv_iconst (v := 0) hx hb d_mDoor_25 (by decide) ?_
      have hF : F_mDoor ρ q1 = (0, (ss ρ 14 (fun _ => 0))) := (if_neg c_1).trans ((if_neg c_2).trans rfl)
      exact W.zret (ty := .boolean) (v := 0) hx hb hr (by decide) (fun t ht hW => ⟨⟨0, (ss ρ 14 (fun _ => 0)), rfl, ⟨(congrArg Prod.fst hF).symm, (congrArg Prod.snd hF).symm⟩, by rw [ht]; exact hP, hD⟩, hS.F ht⟩) hS.2.2 d_mDoor_26
    · refine lv_iconst (v := 1) hx hb d_mDoor_21 (by decide) ?_
      refine lv_goto (tgt := 26) hx hb d_mDoor_22 (by decide) ?_
      have hF : F_mDoor ρ q1 = (1, (ss ρ 14 (fun _ => 0))) := (if_neg c_1).trans ((if_pos c_2).trans rfl)
      exact W.zret (ty := .boolean) (v := 1) hx hb hr (by decide) (fun t ht hW => ⟨⟨1, (ss ρ 14 (fun _ => 0)), rfl, ⟨(congrArg Prod.fst hF).symm, (congrArg Prod.snd hF).symm⟩, by rw [ht]; exact hP, hD⟩, hS.F ht⟩) hS.2.2 d_mDoor_26
