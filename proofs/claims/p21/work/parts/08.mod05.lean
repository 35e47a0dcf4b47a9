def F_mBack (ρ : SS) (q1 : Int32) : Int32 × SS :=
  if (F_mIsI q1) = 0 then
    (-1, (ss ρ 14 (fun _ => 0)))
  else
    if (ρ 18 0) = 0 then
      ((F_mCome (ss ρ 14 (fun _ => 0)) q1).1, (ss (ss (ss ρ 5 (((F_mCome (ss ρ 14 (fun _ => 0)) q1).2) 5)) 7 (((F_mCome (ss ρ 14 (fun _ => 0)) q1).2) 7)) 14 (fun _ => 0)))
    else
      if (ρ 22 0) = (ρ 15 0) then
        (-7, (ss ρ 14 (fun _ => 0)))
      else
        (0, (ss (ss (ss (ss (ss ρ 7 (upd (ρ 7) q1.toNatClampNeg (vp_nar .boolean 0))) 11 (upd (ρ 11) (ρ 22 0).toNatClampNeg q1)) 12 (upd (ρ 12) (ρ 22 0).toNatClampNeg (-1))) 14 (fun _ => 0)) 22 (fun _ => (ρ 22 0) + 1)))
set_option maxHeartbeats 4000000 in
set_option maxRecDepth 100000 in
theorem c_mBack (l : Launch) (dC : Nat → ClassId) (dI : Nat → Nat → Nat) (cI cZ : ClassId) (dM dM0 dM1 dM2 dM3 dM4 dM5 dM6 dM7 dM8 dM9 dM10 dM11 dM12 dM13 : Nat) (sz : Nat) (ρ : SS) (q1 : Int32) (hM : MInv ρ) : Met l y_mBack [Cond.code y_mBack prog_6_method_19_code 2 (some .int)] ({ frames := 1, cells := 0, slots := 0, locals := 22 }) (pcW (dC, dI) (w_Mod cI cZ dM dM0 dM1 dM2 dM3 dM4 dM5 dM6 dM7 dM8 dM9 dM10 dM11 dM12 dM13 (ρ 0) (ρ 1) (ρ 2) (ρ 3) (ρ 4) (ρ 5) (ρ 6) (ρ 7) (ρ 8) (ρ 9) (ρ 10) (ρ 11) (ρ 12) (ρ 13) (ρ 14 0) (ρ 15 0) (ρ 16 0) (ρ 17 0) (ρ 18 0) (ρ 19 0) (ρ 20 0) (ρ 21 0) (ρ 22 0) (ρ 23 0)) (tyC cI cZ) sz [.ref dM, .int q1]) (qI (fun r u => r = (F_mBack ρ q1).1 ∧ u = (F_mBack ρ q1).2) (dC, dI) (fun u : SS => w_Mod cI cZ dM dM0 dM1 dM2 dM3 dM4 dM5 dM6 dM7 dM8 dM9 dM10 dM11 dM12 dM13 (u 0) (u 1) (u 2) (u 3) (u 4) (u 5) (u 6) (u 7) (u 8) (u 9) (u 10) (u 11) (u 12) (u 13) (u 14 0) (u 15 0) (u 16 0) (u 17 0) (u 18 0) (u 19 0) (u 20 0) (u 21 0) (u 22 0) (u 23 0)) (va_A (w_Mod cI cZ dM dM0 dM1 dM2 dM3 dM4 dM5 dM6 dM7 dM8 dM9 dM10 dM11 dM12 dM13 (ρ 0) (ρ 1) (ρ 2) (ρ 3) (ρ 4) (ρ 5) (ρ 6) (ρ 7) (ρ 8) (ρ 9) (ρ 10) (ρ 11) (ρ 12) (ρ 13) (ρ 14 0) (ρ 15 0) (ρ 16 0) (ρ 17 0) (ρ 18 0) (ρ 19 0) (ρ 20 0) (ρ 21 0) (ρ 22 0) (ρ 23 0)) sz)) 0 0 (va_A (w_Mod cI cZ dM dM0 dM1 dM2 dM3 dM4 dM5 dM6 dM7 dM8 dM9 dM10 dM11 dM12 dM13 (ρ 0) (ρ 1) (ρ 2) (ρ 3) (ρ 4) (ρ 5) (ρ 6) (ρ 7) (ρ 8) (ρ 9) (ρ 10) (ρ 11) (ρ 12) (ρ 13) (ρ 14 0) (ρ 15 0) (ρ 16 0) (ρ 17 0) (ρ 18 0) (ρ 19 0) (ρ 20 0) (ρ 21 0) (ρ 22 0) (ρ 23 0)) sz) := by
  refine Met.ofW (cc := prog_6_method_19_code) (maxL := 2) (ret := (some .int)) (by decide) rfl ?_
  intro p e s m args below meth c s₁ B hml hv
  obtain ⟨rfl, hsz, hT, hP, hK, hD0⟩ := hv
  have hx := B.exec
  have hb := B.bytes
  have hr := B.returns
  have hts : ∀ w ∈ lw_ok, w.before ([.ref dM, .int q1] : List Value).toArray s = true := hT.use
  have hown : s.vm.findClass R_Mod = some m.cls := findClass_of_methodNamed B.named
  have hlocks := B.notSynchronized
  subst hsz
  have hD := hD0.self (sz := s.heap.size)
  generalize hAe : va_A (w_Mod cI cZ dM dM0 dM1 dM2 dM3 dM4 dM5 dM6 dM7 dM8 dM9 dM10 dM11 dM12 dM13 (ρ 0) (ρ 1) (ρ 2) (ρ 3) (ρ 4) (ρ 5) (ρ 6) (ρ 7) (ρ 8) (ρ 9) (ρ 10) (ρ 11) (ρ 12) (ρ 13) (ρ 14 0) (ρ 15 0) (ρ 16 0) (ρ 17 0) (ρ 18 0) (ρ 19 0) (ρ 20 0) (ρ 21 0) (ρ 22 0) (ρ 23 0)) s.heap.size = A at hD ⊢
  have hA : ∀ q : Nat, s.heap.size ≤ q → A q := fun q h => by rw [← hAe]; exact Or.inr h
  have hS : va_S A s.heap s.heap [] := va_S.rf
  have hl := lv_entry ([.ref dM, .int q1]) (n := 2) (Nat.le_of_ble_eq_true rfl)
  rw [lg_entry_eq]
  generalize (lg_sl ([.ref dM, .int q1]) ++ List.replicate (2 - (lg_sl ([.ref dM, .int q1])).length) Slot.unset).toArray = ls at hl ⊢
  have hl : lv_has ls 2 [(0, .ref dM), (1, .int q1)] := hl
  obtain ⟨mo, hmo, emo, hof, hre, hlo, hlk, ⟨kc, hkm, ek, hrow, hlend⟩, ⟨xc, hxm, ex⟩, hpe, hsc, ⟨lc, hlm, el, hrec⟩⟩ := id hM
  refine lv_aload_n hx hb d_mBack_0 rfl (lv_at hl 0 rfl) ?_
  refine lv_iconst (v := 0) hx hb d_mBack_1 (by decide) ?_
  refine va_put (D := (dC, dI)) (ci := 4) (v := .int 0) (ty := .int) (C := R_Mod) (T := T_Mod) (N := 24) hx hb hts in_Mod ty_Mod tyok_Mod nm_Mod hown hK hP hD hS 0 rfl rfl 0 (by decide) (hts _ mw_340) (fun _ h9 => h9) rfl (by decide +kernel) rfl rfl (Nat.le_of_ble_eq_true rfl) d_mBack_2 (fun H locs hP hD hS => ?_)
  have hP : va_P (dC, dI) vwCl (w_Mod cI cZ dM dM0 dM1 dM2 dM3 dM4 dM5 dM6 dM7 dM8 dM9 dM10 dM11 dM12 dM13 (ρ 0) (ρ 1) (ρ 2) (ρ 3) (ρ 4) (ρ 5) (ρ 6) (ρ 7) (ρ 8) (ρ 9) (ρ 10) (ρ 11) (ρ 12) (ρ 13) 0 (ρ 15 0) (ρ 16 0) (ρ 17 0) (ρ 18 0) (ρ 19 0) (ρ 20 0) (ρ 21 0) (ρ 22 0) (ρ 23 0)) H := hP
  have hD : va_D A (w_Mod cI cZ dM dM0 dM1 dM2 dM3 dM4 dM5 dM6 dM7 dM8 dM9 dM10 dM11 dM12 dM13 (ρ 0) (ρ 1) (ρ 2) (ρ 3) (ρ 4) (ρ 5) (ρ 6) (ρ 7) (ρ 8) (ρ 9) (ρ 10) (ρ 11) (ρ 12) (ρ 13) 0 (ρ 15 0) (ρ 16 0) (ρ 17 0) (ρ 18 0) (ρ 19 0) (ρ 20 0) (ρ 21 0) (ρ 22 0) (ρ 23 0)) := hD
  refine lv_iload_n hx hb d_mBack_5 rfl (lv_at hl 1 rfl) ?_
  refine xc_S0 (As := [.int q1]) (rest := []) ⟨hx, hb, hml, hown, hts⟩ hT (c_mIsI l q1) ⟨xw_B 1 hts mw_434 mw_19 mw_432 rfl rfl (by decide +kernel) ⟨Nat.le_of_ble_eq_true rfl, Nat.le_of_ble_eq_true rfl⟩, hts _ mw_433⟩ rfl hl.1 rfl (Nat.le_of_ble_eq_true rfl) d_mBack_6 ⟨Nat.zero_le _, Nat.zero_le _⟩ (fun r hw => ?_)
  subst hw
  refine lv_if_ne (tgt := 14) hx hb d_mBack_9 (by decide) (fun c_1 => ?_) (fun c_1 => ?_)
  · refine lv_aload_n hx hb d_mBack_14 rfl (lv_at hl 0 rfl) ?_
    refine va_get (D := (dC, dI)) (ci := 4) (v := .int (ρ 18 0)) (C := R_Mod) (T := T_Mod) (N := 24) hx hb hts in_Mod hown hK hP 0 rfl rfl 14 (by decide) (hts _ mw_354) (fun _ h9 => h9) rfl d_mBack_15 ?_
    refine lv_if_ne (tgt := 27) hx hb d_mBack_18 (by decide) (fun c_2 => ?_) (fun c_2 => ?_)
    · refine lv_aload_n hx hb d_mBack_27 rfl (lv_at hl 0 rfl) ?_
      refine va_get (D := (dC, dI)) (ci := 4) (v := .int (ρ 22 0)) (C := R_Mod) (T := T_Mod) (N := 24) hx hb hts in_Mod hown hK hP 0 rfl rfl 21 (by decide) (hts _ mw_361) (fun _ h9 => h9) rfl d_mBack_28 ?_
      refine lv_aload_n hx hb d_mBack_31 rfl (lv_at hl 0 rfl) ?_
      refine va_get (D := (dC, dI)) (ci := 4) (v := .int (ρ 15 0)) (C := R_Mod) (T := T_Mod) (N := 24) hx hb hts in_Mod hown hK hP 0 rfl rfl 1 (by decide) (hts _ mw_341) (fun _ h9 => h9) rfl d_mBack_32 ?_
      refine lv_icmp_ne (tgt := 41) hx hb d_mBack_35 (by decide) (fun c_3 => ?_) (fun c_3 => ?_)
      · refine lv_aload_n hx hb d_mBack_41 rfl (lv_at hl 0 rfl) ?_
        refine va_get (D := (dC, dI)) (ci := 4) (v := .ref dM11) (C := R_Mod) (T := T_Mod) (N := 24) hx hb hts in_Mod hown hK hP 0 rfl rfl 19 (by decide) (hts _ mw_359) (fun _ h9 => h9) rfl d_mBack_42 ?_
        refine lv_aload_n hx hb d_mBack_45 rfl (lv_at hl 0 rfl) ?_
        refine va_get (D := (dC, dI)) (ci := 4) (v := .int (ρ 22 0)) (C := R_Mod) (T := T_Mod) (N := 24) hx hb hts in_Mod hown hK hP 0 rfl rfl 21 (by decide) (hts _ mw_361) (fun _ h9 => h9) rfl d_mBack_46 ?_
        refine lv_iload_n hx hb d_mBack_49 rfl (lv_at hl 1 rfl) ?_
        refine va_iast (n := 100) (f := ρ 11) hx hb hK hP hD hS 12 0 rfl rfl (i := ρ 22 0) (x := q1) (by first | assumption | exact in_mIsP ‹_› | exact in_mIsI ‹_› | exact m_row hmo hkm ek emo ‹_›) d_mBack_50 (fun H locs hP hD hS => ?_)
        have hP : va_P (dC, dI) vwCl (w_Mod cI cZ dM dM0 dM1 dM2 dM3 dM4 dM5 dM6 dM7 dM8 dM9 dM10 dM11 dM12 dM13 (ρ 0) (ρ 1) (ρ 2) (ρ 3) (ρ 4) (ρ 5) (ρ 6) (ρ 7) (ρ 8) (ρ 9) (ρ 10) (upd (ρ 11) (ρ 22 0).toNatClampNeg q1) (ρ 12) (ρ 13) 0 (ρ 15 0) (ρ 16 0) (ρ 17 0) (ρ 18 0) (ρ 19 0) (ρ 20 0) (ρ 21 0) (ρ 22 0) (ρ 23 0)) H := hP
        have hD : va_D A (w_Mod cI cZ dM dM0 dM1 dM2 dM3 dM4 dM5 dM6 dM7 dM8 dM9 dM10 dM11 dM12 dM13 (ρ 0) (ρ 1) (ρ 2) (ρ 3) (ρ 4) (ρ 5) (ρ 6) (ρ 7) (ρ 8) (ρ 9) (ρ 10) (upd (ρ 11) (ρ 22 0).toNatClampNeg q1) (ρ 12) (ρ 13) 0 (ρ 15 0) (ρ 16 0) (ρ 17 0) (ρ 18 0) (ρ 19 0) (ρ 20 0) (ρ 21 0) (ρ 22 0) (ρ 23 0)) := hD
        refine lv_aload_n hx hb d_mBack_51 rfl (lv_at hl 0 rfl) ?_
        refine va_get (D := (dC, dI)) (ci := 4) (v := .ref dM12) (C := R_Mod) (T := T_Mod) (N := 24) hx hb hts in_Mod hown hK hP 0 rfl rfl 20 (by decide) (hts _ mw_360) (fun _ h9 => h9) rfl d_mBack_52 ?_
        refine lv_aload_n hx hb d_mBack_55 rfl (lv_at hl 0 rfl) ?_
        refine va_get (D := (dC, dI)) (ci := 4) (v := .int (ρ 22 0)) (C := R_Mod) (T := T_Mod) (N := 24) hx hb hts in_Mod hown hK hP 0 rfl rfl 21 (by decide) (hts _ mw_361) (fun _ h9 => h9) rfl d_mBack_56 ?_
        refine lv_iconst (v := -1) hx hb d_mBack_59 (by decide) ?_
        refine va_iast (n := 100) (f := ρ 12) hx hb hK hP hD hS 13 0 rfl rfl (i := ρ 22 0) (x := -1) (by first | assumption | exact in_mIsP ‹_› | exact in_mIsI ‹_› | exact m_row hmo hkm ek emo ‹_›) d_mBack_60 (fun H locs hP hD hS => ?_)
        have hP : va_P (dC, dI) vwCl (w_Mod cI cZ dM dM0 dM1 dM2 dM3 dM4 dM5 dM6 dM7 dM8 dM9 dM10 dM11 dM12 dM13 (ρ 0) (ρ 1) (ρ 2) (ρ 3) (ρ 4) (ρ 5) (ρ 6) (ρ 7) (ρ 8) (ρ 9) (ρ 10) (upd (ρ 11) (ρ 22 0).toNatClampNeg q1) (upd (ρ 12) (ρ 22 0).toNatClampNeg (-1)) (ρ 13) 0 (ρ 15 0) (ρ 16 0) (ρ 17 0) (ρ 18 0) (ρ 19 0) (ρ 20 0) (ρ 21 0) (ρ 22 0) (ρ 23 0)) H := hP
        have hD : va_D A (w_Mod cI cZ dM dM0 dM1 dM2 dM3 dM4 dM5 dM6 dM7 dM8 dM9 dM10 dM11 dM12 dM13 (ρ 0) (ρ 1) (ρ 2) (ρ 3) (ρ 4) (ρ 5) (ρ 6) (ρ 7) (ρ 8) (ρ 9) (ρ 10) (upd (ρ 11) (ρ 22 0).toNatClampNeg q1) (upd (ρ 12) (ρ 22 0).toNatClampNeg (-1)) (ρ 13) 0 (ρ 15 0) (ρ 16 0) (ρ 17 0) (ρ 18 0) (ρ 19 0) (ρ 20 0) (ρ 21 0) (ρ 22 0) (ρ 23 0)) := hD
        refine lv_aload_n hx hb d_mBack_61 rfl (lv_at hl 0 rfl) ?_
        refine lv_dup hx hb d_mBack_62 rfl ?_
        refine va_get (D := (dC, dI)) (ci := 4) (v := .int (ρ 22 0)) (C := R_Mod) (T := T_Mod) (N := 24) hx hb hts in_Mod hown hK hP 0 rfl rfl 21 (by decide) (hts _ mw_361) (fun _ h9 => h9) rfl d_mBack_63 ?_
        refine lv_iconst (v := 1) hx hb d_mBack_66 (by decide) ?_
        refine lv_iadd hx hb d_mBack_67 ?_
        refine va_put (D := (dC, dI)) (ci := 4) (v := .int ((ρ 22 0) + 1)) (ty := .int) (C := R_Mod) (T := T_Mod) (N := 24) hx hb hts in_Mod ty_Mod tyok_Mod nm_Mod hown hK hP hD hS 0 rfl rfl 21 (by decide) (hts _ mw_361) (fun _ h9 => h9) rfl (by decide +kernel) rfl rfl (Nat.le_of_ble_eq_true rfl) d_mBack_68 (fun H locs hP hD hS => ?_)
        have hP : va_P (dC, dI) vwCl (w_Mod cI cZ dM dM0 dM1 dM2 dM3 dM4 dM5 dM6 dM7 dM8 dM9 dM10 dM11 dM12 dM13 (ρ 0) (ρ 1) (ρ 2) (ρ 3) (ρ 4) (ρ 5) (ρ 6) (ρ 7) (ρ 8) (ρ 9) (ρ 10) (upd (ρ 11) (ρ 22 0).toNatClampNeg q1) (upd (ρ 12) (ρ 22 0).toNatClampNeg (-1)) (ρ 13) 0 (ρ 15 0) (ρ 16 0) (ρ 17 0) (ρ 18 0) (ρ 19 0) (ρ 20 0) (ρ 21 0) ((ρ 22 0) + 1) (ρ 23 0)) H := hP
        have hD : va_D A (w_Mod cI cZ dM dM0 dM1 dM2 dM3 dM4 dM5 dM6 dM7 dM8 dM9 dM10 dM11 dM12 dM13 (ρ 0) (ρ 1) (ρ 2) (ρ 3) (ρ 4) (ρ 5) (ρ 6) (ρ 7) (ρ 8) (ρ 9) (ρ 10) (upd (ρ 11) (ρ 22 0).toNatClampNeg q1) (upd (ρ 12) (ρ 22 0).toNatClampNeg (-1)) (ρ 13) 0 (ρ 15 0) (ρ 16 0) (ρ 17 0) (ρ 18 0) (ρ 19 0) (ρ 20 0) (ρ 21 0) ((ρ 22 0) + 1) (ρ 23 0)) := hD
        refine lv_aload_n hx hb d_mBack_71 rfl (lv_at hl 0 rfl) ?_
        refine va_get (D := (dC, dI)) (ci := 4) (v := .ref dM7) (C := R_Mod) (T := T_Mod) (N := 24) hx hb hts in_Mod hown hK hP 0 rfl rfl 9 (by decide) (hts _ mw_349) (fun _ h9 => h9) rfl d_mBack_72 ?_
        refine lv_iload_n hx hb d_mBack_75 rfl (lv_at hl 1 rfl) ?_
        refine lv_iconst (v := 0) hx hb d_mBack_76 (by decide) ?_
        refine va_zast (n := 60) (f := ρ 7) hx hb hK hP hD hS 8 1 rfl rfl (i := q1) (x := 0) (by first | assumption | exact in_mIsP ‹_› | exact in_mIsI ‹_› | exact m_row hmo hkm ek emo ‹_›) d_mBack_77 (fun H locs hP hD hS => ?_)
        have hP : va_P (dC, dI) vwCl (w_Mod cI cZ dM dM0 dM1 dM2 dM3 dM4 dM5 dM6 dM7 dM8 dM9 dM10 dM11 dM12 dM13 (ρ 0) (ρ 1) (ρ 2) (ρ 3) (ρ 4) (ρ 5) (ρ 6) (upd (ρ 7) q1.toNatClampNeg (vp_nar .boolean 0)) (ρ 8) (ρ 9) (ρ 10) (upd (ρ 11) (ρ 22 0).toNatClampNeg q1) (upd (ρ 12) (ρ 22 0).toNatClampNeg (-1)) (ρ 13) 0 (ρ 15 0) (ρ 16 0) (ρ 17 0) (ρ 18 0) (ρ 19 0) (ρ 20 0) (ρ 21 0) ((ρ 22 0) + 1) (ρ 23 0)) H := hP
        have hD : va_D A (w_Mod cI cZ dM dM0 dM1 dM2 dM3 dM4 dM5 dM6 dM7 dM8 dM9 dM10 dM11 dM12 dM13 (ρ 0) (ρ 1) (ρ 2) (ρ 3) (ρ 4) (ρ 5) (ρ 6) (upd (ρ 7) q1.toNatClampNeg (vp_nar .boolean 0)) (ρ 8) (ρ 9) (ρ 10) (upd (ρ 11) (ρ 22 0).toNatClampNeg q1) (upd (ρ 12) (ρ 22 0).toNatClampNeg (-1)) (ρ 13) 0 (ρ 15 0) (ρ 16 0) (ρ 17 0) (ρ 18 0) (ρ 19 0) (ρ 20 0) (ρ 21 0) ((ρ 22 0) + 1) (ρ 23 0)) := hD
        refine lv_iconst (v := 0) hx hb d_mBack_78 (by decide) ?_
        have hF : F_mBack ρ q1 = (0, (ss (ss (ss (ss (ss ρ 7 (upd (ρ 7) q1.toNatClampNeg (vp_nar .boolean 0))) 11 (upd (ρ 11) (ρ 22 0).toNatClampNeg q1)) 12 (upd (ρ 12) (ρ 22 0).toNatClampNeg (-1))) 14 (fun _ => 0)) 22 (fun _ => (ρ 22 0) + 1))) := (if_neg c_1).trans ((if_neg c_2).trans ((if_neg c_3).trans rfl))
        exact W.iret (v := 0) hx hb hr (fun t ht hW => ⟨⟨0, (ss (ss (ss (ss (ss ρ 7 (upd (ρ 7) q1.toNatClampNeg (vp_nar .boolean 0))) 11 (upd (ρ 11) (ρ 22 0).toNatClampNeg q1)) 12 (upd (ρ 12) (ρ 22 0).toNatClampNeg (-1))) 14 (fun _ => 0)) 22 (fun _ => (ρ 22 0) + 1)), rfl, ⟨(congrArg Prod.fst hF).symm, (congrArg Prod.snd hF).symm⟩, by rw [ht]; exact hP, hD⟩, hS.F ht⟩) hS.2.2 d_mBack_79
      · refine lv_bipush (v := -7) hx hb d_mBack_38 (by decide) ?_
        have hF : F_mBack ρ q1 = (-7, (ss ρ 14 (fun _ => 0))) := (if_neg c_1).trans ((if_neg c_2).trans ((if_pos c_3).trans rfl))
        exact W.iret (v := -7) hx hb hr (fun t ht hW => ⟨⟨-7, (ss ρ 14 (fun _ => 0)), rfl, ⟨(congrArg Prod.fst hF).symm, (congrArg Prod.snd hF).symm⟩, by rw [ht]; exact hP, hD⟩, hS.F ht⟩) hS.2.2 d_mBack_40
    · refine lv_aload_n hx hb d_mBack_21 rfl (lv_at hl 0 rfl) ?_
      refine lv_iload_n hx hb d_mBack_22 rfl (lv_at hl 1 rfl) ?_
      refine xc_VWi (As := [.int q1]) (rest := []) (ci := 4) (wr := []) ⟨hx, hb, hml, hown, hts⟩ hT hK hP hD hS hA (c_mCome l dC dI cI cZ dM dM0 dM1 dM2 dM3 dM4 dM5 dM6 dM7 dM8 dM9 dM10 dM11 dM12 dM13 H.size (ss ρ 14 (fun _ => 0)) q1 (by first | assumption | exact in_mIsP ‹_› | exact in_mIsI ‹_› | exact m_row hmo hkm ek emo ‹_›)) [0, 1, 2, 3, 4, 5, 6, 7, 8, 9, 10, 11, 12, 13, 14] [] rfl (by decide) rfl (by decide) (by decide) (xw_V 1 hts mw_478 mw_19 mw_475 mw_477 mw_10 rfl rfl (by decide +kernel) ⟨Nat.le_of_ble_eq_true rfl, Nat.le_of_ble_eq_true rfl⟩) rfl rfl rfl hl.1 rfl (Nat.le_of_ble_eq_true rfl) d_mBack_23 ⟨Nat.zero_le _, Nat.zero_le _⟩ (fun r u H locs hw hP hD hS => ?_)
      obtain ⟨rfl, hw⟩ := hw
      obtain ⟨v3_5, v3_7⟩ := u
      have hv3_5 : v3_5 = ((F_mCome (ss ρ 14 (fun _ => 0)) q1).2) 5 := congrArg (fun u : (Nat → Int32) × (Nat → Int32) => u.1) hw
      have hv3_7 : v3_7 = ((F_mCome (ss ρ 14 (fun _ => 0)) q1).2) 7 := congrArg (fun u : (Nat → Int32) × (Nat → Int32) => u.2) hw
      have hP : va_P (dC, dI) vwCl (w_Mod cI cZ dM dM0 dM1 dM2 dM3 dM4 dM5 dM6 dM7 dM8 dM9 dM10 dM11 dM12 dM13 (ρ 0) (ρ 1) (ρ 2) (ρ 3) (ρ 4) v3_5 (ρ 6) v3_7 (ρ 8) (ρ 9) (ρ 10) (ρ 11) (ρ 12) (ρ 13) 0 (ρ 15 0) (ρ 16 0) (ρ 17 0) (ρ 18 0) (ρ 19 0) (ρ 20 0) (ρ 21 0) (ρ 22 0) (ρ 23 0)) H := hP.sub [0, 1, 2, 3, 4, 5, 6, 7, 8, 9, 10, 11, 12, 13, 14] rfl
      have hD : va_D A (w_Mod cI cZ dM dM0 dM1 dM2 dM3 dM4 dM5 dM6 dM7 dM8 dM9 dM10 dM11 dM12 dM13 (ρ 0) (ρ 1) (ρ 2) (ρ 3) (ρ 4) v3_5 (ρ 6) v3_7 (ρ 8) (ρ 9) (ρ 10) (ρ 11) (ρ 12) (ρ 13) 0 (ρ 15 0) (ρ 16 0) (ρ 17 0) (ρ 18 0) (ρ 19 0) (ρ 20 0) (ρ 21 0) (ρ 22 0) (ρ 23 0)) := hD.sub [0, 1, 2, 3, 4, 5, 6, 7, 8, 9, 10, 11, 12, 13, 14] (by decide) rfl
      have hF : F_mBack ρ q1 = ((F_mCome (ss ρ 14 (fun _ => 0)) q1).1, (ss (ss (ss ρ 5 v3_5) 7 v3_7) 14 (fun _ => 0))) := by subst hv3_5 hv3_7; exact ((if_neg c_1).trans ((if_pos c_2).trans rfl))
      exact W.iret (v := (F_mCome (ss ρ 14 (fun _ => 0)) q1).1) hx hb hr (fun t ht hW => ⟨⟨(F_mCome (ss ρ 14 (fun _ => 0)) q1).1, (ss (ss (ss ρ 5 v3_5) 7 v3_7) 14 (fun _ => 0)), rfl, ⟨(congrArg Prod.fst hF).symm, (congrArg Prod.snd hF).symm⟩, by rw [ht]; exact hP, hD⟩, hS.F ht⟩) hS.2.2 d_mBack_26
  · refine lv_iconst (v := -1) hx hb d_mBack_12 (by decide) ?_
    have hF : F_mBack ρ q1 = (-1, (ss ρ 14 (fun _ => 0))) := (if_pos c_1).trans rfl
    exact W.iret (v := -1) hx hb hr (fun t ht hW => ⟨⟨-1, (ss ρ 14 (fun _ => 0)), rfl, ⟨(congrArg Prod.fst hF).symm, (congrArg Prod.snd hF).symm⟩, by rw [ht]; exact hP, hD⟩, hS.F ht⟩) hS.2.2 d_mBack_13
set_option maxHeartbeats 4000000 in
set_option maxRecDepth 100000 in
theorem lp_drop {p : Program} {l : Launch} {e : Env} {R : Room} {s : State} {m : MethodId} {args : Array Value} {below : List Frame} {meth : Method} {c : Code} {Q : State → Prop} {cells slots : Nat} {A : Nat → Prop} {H0 : Heap} {dC : Nat → ClassId} {dI : Nat → Nat → Nat} {cI cZ : ClassId} {dM dM0 dM1 dM2 dM3 dM4 dM5 dM6 dM7 dM8 dM9 dM10 dM11 dM12 dM13 : Nat} {ρ : SS} {q1 : Int32} {a kc : Nat} (hx : p.tables.exec = Jvm.exec) (hb : c.code = prog_6_method_20_code) (hml : c.maxLocals = 3) (hT : TBL s) (hts : ∀ w ∈ lw_ok, w.before args s = true) (hown : s.vm.findClass R_Mod = some m.cls) (hK : va_K (dC, dI) vwCl (tyC cI cZ) s) (hA : ∀ q : Nat, H0.size ≤ q → A q) (hkc : kc ≤ 100) (hak : a < kc) (e0 : ρ 22 0 - 1 = nI (kc - 1)) (kx : ∀ (ls : Array Slot) (H : Heap) (locs : List Loc), va_P (dC, dI) vwCl (w_Mod cI cZ dM dM0 dM1 dM2 dM3 dM4 dM5 dM6 dM7 dM8 dM9 dM10 dM11 dM12 dM13 (ρ 0) (ρ 1) (ρ 2) (ρ 3) (ρ 4) (ρ 5) (ρ 6) (ρ 7) (ρ 8) (ρ 9) (ρ 10) (shl (ρ 11) a (a + 1) (kc - 1 - a)) (shl (ρ 12) a (a + 1) (kc - 1 - a)) (ρ 13) (ρ 14 0) (ρ 15 0) (ρ 16 0) (ρ 17 0) (ρ 18 0) (ρ 19 0) (ρ 20 0) (ρ 21 0) (ρ 22 0 - 1) (ρ 23 0)) H → va_D A (w_Mod cI cZ dM dM0 dM1 dM2 dM3 dM4 dM5 dM6 dM7 dM8 dM9 dM10 dM11 dM12 dM13 (ρ 0) (ρ 1) (ρ 2) (ρ 3) (ρ 4) (ρ 5) (ρ 6) (ρ 7) (ρ 8) (ρ 9) (ρ 10) (shl (ρ 11) a (a + 1) (kc - 1 - a)) (shl (ρ 12) a (a + 1) (kc - 1 - a)) (ρ 13) (ρ 14 0) (ρ 15 0) (ρ 16 0) (ρ 17 0) (ρ 18 0) (ρ 19 0) (ρ 20 0) (ρ 21 0) (ρ 22 0 - 1) (ρ 23 0)) → va_S A H0 H locs → W p l e R s m args below meth c H locs cells slots Q (F0 m 54 ls [])) : ∀ (n : Nat) (j : Nat) (ls : Array Slot), (a + j ≤ kc - 1) → kc ≤ (a + j) + n → ∀ (H : Heap) (locs : List Loc), va_P (dC, dI) vwCl (w_Mod cI cZ dM dM0 dM1 dM2 dM3 dM4 dM5 dM6 dM7 dM8 dM9 dM10 dM11 dM12 dM13 (ρ 0) (ρ 1) (ρ 2) (ρ 3) (ρ 4) (ρ 5) (ρ 6) (ρ 7) (ρ 8) (ρ 9) (ρ 10) (shl (ρ 11) a (a + 1) j) (shl (ρ 12) a (a + 1) j) (ρ 13) (ρ 14 0) (ρ 15 0) (ρ 16 0) (ρ 17 0) (ρ 18 0) (ρ 19 0) (ρ 20 0) (ρ 21 0) (ρ 22 0 - 1) (ρ 23 0)) H → va_D A (w_Mod cI cZ dM dM0 dM1 dM2 dM3 dM4 dM5 dM6 dM7 dM8 dM9 dM10 dM11 dM12 dM13 (ρ 0) (ρ 1) (ρ 2) (ρ 3) (ρ 4) (ρ 5) (ρ 6) (ρ 7) (ρ 8) (ρ 9) (ρ 10) (shl (ρ 11) a (a + 1) j) (shl (ρ 12) a (a + 1) j) (ρ 13) (ρ 14 0) (ρ 15 0) (ρ 16 0) (ρ 17 0) (ρ 18 0) (ρ 19 0) (ρ 20 0) (ρ 21 0) (ρ 22 0 - 1) (ρ 23 0)) → va_S A H0 H locs → lv_has ls 3 [(0, .ref dM), (1, .int q1), (2, .int (nI (a + j)))] → W p l e R s m args below meth c H locs cells slots Q (F0 m 12 ls []) := by
  intro n
  induction n with
  | zero => intro j ls hj hfu; exact absurd hfu (by omega)
  | succ n ih =>
    intro j ls hj hfu H locs hP hD hS hl
    refine lv_iload_n hx hb d_mDrop_12 rfl (lv_at hl 2 rfl) ?_
    refine lv_aload_n hx hb d_mDrop_13 rfl (lv_at hl 0 rfl) ?_
    refine va_get (D := (dC, dI)) (ci := 4) (v := .int (ρ 22 0 - 1)) (C := R_Mod) (T := T_Mod) (N := 24) hx hb hts in_Mod hown hK hP 0 rfl rfl 21 (by decide) (hts _ mw_361) (fun _ h9 => h9) rfl d_mDrop_14 ?_
    refine lv_icmp_ge (tgt := 54) hx hb d_mDrop_17 (by decide) (fun c_4 => ?_) (fun c_4 => ?_)
    · have hj : j = kc - 1 - a := by
        rcases Nat.lt_or_ge (a + j) (kc - 1) with h | h
        · exact absurd (e0 ▸ c_4) (nI_ge h (by omega))
        · omega
      subst hj
      exact kx ls H locs hP hD hS
    · have hlt : a + j < kc - 1 := lt_nle (by omega) (by omega) (e0 ▸ c_4)
      refine lv_aload_n hx hb d_mDrop_20 rfl (lv_at hl 0 rfl) ?_
      refine va_get (D := (dC, dI)) (ci := 4) (v := .ref dM11) (C := R_Mod) (T := T_Mod) (N := 24) hx hb hts in_Mod hown hK hP 0 rfl rfl 19 (by decide) (hts _ mw_359) (fun _ h9 => h9) rfl d_mDrop_21 ?_
      refine lv_iload_n hx hb d_mDrop_24 rfl (lv_at hl 2 rfl) ?_
      refine lv_aload_n hx hb d_mDrop_25 rfl (lv_at hl 0 rfl) ?_
      refine va_get (D := (dC, dI)) (ci := 4) (v := .ref dM11) (C := R_Mod) (T := T_Mod) (N := 24) hx hb hts in_Mod hown hK hP 0 rfl rfl 19 (by decide) (hts _ mw_359) (fun _ h9 => h9) rfl d_mDrop_26 ?_
      refine lv_iload_n hx hb d_mDrop_29 rfl (lv_at hl 2 rfl) ?_
      refine lv_iconst (v := 1) hx hb d_mDrop_30 (by decide) ?_
      refine lv_iadd hx hb d_mDrop_31 ?_
      refine va_iald (n := 100) (f := shl (ρ 11) a (a + 1) j) hx hb hK hP 12 0 rfl rfl (i := (nI (a + j)) + 1) (by rw [nI_1]; exact vp_in_nI (by omega) (by decide)) d_mDrop_32 ?_
      refine va_iast (n := 100) (f := shl (ρ 11) a (a + 1) j) hx hb hK hP hD hS 12 0 rfl rfl (i := nI (a + j)) (x := (shl (ρ 11) a (a + 1) j) ((nI (a + j)) + 1).toNatClampNeg) (vp_in_nI (by omega) (by decide)) d_mDrop_33 (fun H locs hP hD hS => ?_)
      have hP : va_P (dC, dI) vwCl (w_Mod cI cZ dM dM0 dM1 dM2 dM3 dM4 dM5 dM6 dM7 dM8 dM9 dM10 dM11 dM12 dM13 (ρ 0) (ρ 1) (ρ 2) (ρ 3) (ρ 4) (ρ 5) (ρ 6) (ρ 7) (ρ 8) (ρ 9) (ρ 10) (upd (shl (ρ 11) a (a + 1) j) (nI (a + j)).toNatClampNeg ((shl (ρ 11) a (a + 1) j) ((nI (a + j)) + 1).toNatClampNeg)) (shl (ρ 12) a (a + 1) j) (ρ 13) (ρ 14 0) (ρ 15 0) (ρ 16 0) (ρ 17 0) (ρ 18 0) (ρ 19 0) (ρ 20 0) (ρ 21 0) (ρ 22 0 - 1) (ρ 23 0)) H := hP
      have hD : va_D A (w_Mod cI cZ dM dM0 dM1 dM2 dM3 dM4 dM5 dM6 dM7 dM8 dM9 dM10 dM11 dM12 dM13 (ρ 0) (ρ 1) (ρ 2) (ρ 3) (ρ 4) (ρ 5) (ρ 6) (ρ 7) (ρ 8) (ρ 9) (ρ 10) (upd (shl (ρ 11) a (a + 1) j) (nI (a + j)).toNatClampNeg ((shl (ρ 11) a (a + 1) j) ((nI (a + j)) + 1).toNatClampNeg)) (shl (ρ 12) a (a + 1) j) (ρ 13) (ρ 14 0) (ρ 15 0) (ρ 16 0) (ρ 17 0) (ρ 18 0) (ρ 19 0) (ρ 20 0) (ρ 21 0) (ρ 22 0 - 1) (ρ 23 0)) := hD
      refine lv_aload_n hx hb d_mDrop_34 rfl (lv_at hl 0 rfl) ?_
      refine va_get (D := (dC, dI)) (ci := 4) (v := .ref dM12) (C := R_Mod) (T := T_Mod) (N := 24) hx hb hts in_Mod hown hK hP 0 rfl rfl 20 (by decide) (hts _ mw_360) (fun _ h9 => h9) rfl d_mDrop_35 ?_
      refine lv_iload_n hx hb d_mDrop_38 rfl (lv_at hl 2 rfl) ?_
      refine lv_aload_n hx hb d_mDrop_39 rfl (lv_at hl 0 rfl) ?_
      refine va_get (D := (dC, dI)) (ci := 4) (v := .ref dM12) (C := R_Mod) (T := T_Mod) (N := 24) hx hb hts in_Mod hown hK hP 0 rfl rfl 20 (by decide) (hts _ mw_360) (fun _ h9 => h9) rfl d_mDrop_40 ?_
      refine lv_iload_n hx hb d_mDrop_43 rfl (lv_at hl 2 rfl) ?_
      refine lv_iconst (v := 1) hx hb d_mDrop_44 (by decide) ?_
      refine lv_iadd hx hb d_mDrop_45 ?_
      refine va_iald (n := 100) (f := shl (ρ 12) a (a + 1) j) hx hb hK hP 13 0 rfl rfl (i := (nI (a + j)) + 1) (by rw [nI_1]; exact vp_in_nI (by omega) (by decide)) d_mDrop_46 ?_
      refine va_iast (n := 100) (f := shl (ρ 12) a (a + 1) j) hx hb hK hP hD hS 13 0 rfl rfl (i := nI (a + j)) (x := (shl (ρ 12) a (a + 1) j) ((nI (a + j)) + 1).toNatClampNeg) (vp_in_nI (by omega) (by decide)) d_mDrop_47 (fun H locs hP hD hS => ?_)
      have hP : va_P (dC, dI) vwCl (w_Mod cI cZ dM dM0 dM1 dM2 dM3 dM4 dM5 dM6 dM7 dM8 dM9 dM10 dM11 dM12 dM13 (ρ 0) (ρ 1) (ρ 2) (ρ 3) (ρ 4) (ρ 5) (ρ 6) (ρ 7) (ρ 8) (ρ 9) (ρ 10) (upd (shl (ρ 11) a (a + 1) j) (nI (a + j)).toNatClampNeg ((shl (ρ 11) a (a + 1) j) ((nI (a + j)) + 1).toNatClampNeg)) (upd (shl (ρ 12) a (a + 1) j) (nI (a + j)).toNatClampNeg ((shl (ρ 12) a (a + 1) j) ((nI (a + j)) + 1).toNatClampNeg)) (ρ 13) (ρ 14 0) (ρ 15 0) (ρ 16 0) (ρ 17 0) (ρ 18 0) (ρ 19 0) (ρ 20 0) (ρ 21 0) (ρ 22 0 - 1) (ρ 23 0)) H := hP
      have hD : va_D A (w_Mod cI cZ dM dM0 dM1 dM2 dM3 dM4 dM5 dM6 dM7 dM8 dM9 dM10 dM11 dM12 dM13 (ρ 0) (ρ 1) (ρ 2) (ρ 3) (ρ 4) (ρ 5) (ρ 6) (ρ 7) (ρ 8) (ρ 9) (ρ 10) (upd (shl (ρ 11) a (a + 1) j) (nI (a + j)).toNatClampNeg ((shl (ρ 11) a (a + 1) j) ((nI (a + j)) + 1).toNatClampNeg)) (upd (shl (ρ 12) a (a + 1) j) (nI (a + j)).toNatClampNeg ((shl (ρ 12) a (a + 1) j) ((nI (a + j)) + 1).toNatClampNeg)) (ρ 13) (ρ 14 0) (ρ 15 0) (ρ 16 0) (ρ 17 0) (ρ 18 0) (ρ 19 0) (ρ 20 0) (ρ 21 0) (ρ 22 0 - 1) (ρ 23 0)) := hD
      refine lv_iinc (v := nI (a + (j + 1))) (lv' := [(2, .int (nI (a + (j + 1)))), (0, .ref dM), (1, .int q1)]) hx hb d_mDrop_48 hl (k := 2) rfl (nI_1 _) (by decide) rfl (fun ls hl => ?_)
      refine lv_goto (tgt := 12) hx hb d_mDrop_51 (by decide) ?_
      have e1 : (nI (a + j) + 1).toNatClampNeg = a + 1 + j := by rw [nI_1, nI_clamp (by omega)]; omega
      have e2 : (nI (a + j)).toNatClampNeg = a + j := nI_clamp (by omega)
      rw [e1, e2] at hP hD
      exact ih (j + 1) ls (by omega) (by omega) H locs hP hD hS (lv_sub hl [1, 2, 0] rfl)
def F_mDrop (ρ : SS) (q1 : Int32) : SS := ss (ss (ss ρ 11 (shl (ρ 11) q1.toNatClampNeg (q1.toNatClampNeg + 1) ((ρ 22 0).toNatClampNeg - 1 - q1.toNatClampNeg))) 12 (shl (ρ 12) q1.toNatClampNeg (q1.toNatClampNeg + 1) ((ρ 22 0).toNatClampNeg - 1 - q1.toNatClampNeg))) 22 (fun _ => ρ 22 0 - 1)
set_option maxHeartbeats 4000000 in
set_option maxRecDepth 100000 in
theorem c_mDrop (l : Launch) (dC : Nat → ClassId) (dI : Nat → Nat → Nat) (cI cZ : ClassId) (dM dM0 dM1 dM2 dM3 dM4 dM5 dM6 dM7 dM8 dM9 dM10 dM11 dM12 dM13 : Nat) (sz : Nat) (ρ : SS) (q1 : Int32) (hd : ∃ a kc : Nat, kc ≤ 100 ∧ a < kc ∧ q1 = nI a ∧ ρ 22 0 = nI kc) : Met l y_mDrop [Cond.code y_mDrop prog_6_method_20_code 3 none] ({ frames := 0, cells := 0, slots := 0, locals := 0 }) (pcW (dC, dI) (w_Mod cI cZ dM dM0 dM1 dM2 dM3 dM4 dM5 dM6 dM7 dM8 dM9 dM10 dM11 dM12 dM13 (ρ 0) (ρ 1) (ρ 2) (ρ 3) (ρ 4) (ρ 5) (ρ 6) (ρ 7) (ρ 8) (ρ 9) (ρ 10) (ρ 11) (ρ 12) (ρ 13) (ρ 14 0) (ρ 15 0) (ρ 16 0) (ρ 17 0) (ρ 18 0) (ρ 19 0) (ρ 20 0) (ρ 21 0) (ρ 22 0) (ρ 23 0)) (tyC cI cZ) sz [.ref dM, .int q1]) (qV (fun u => u = ((F_mDrop ρ q1) 11, (F_mDrop ρ q1) 12, (F_mDrop ρ q1) 22 0)) (dC, dI) (fun u : (Nat → Int32) × (Nat → Int32) × Int32 => w_Mod cI cZ dM dM0 dM1 dM2 dM3 dM4 dM5 dM6 dM7 dM8 dM9 dM10 dM11 dM12 dM13 (ρ 0) (ρ 1) (ρ 2) (ρ 3) (ρ 4) (ρ 5) (ρ 6) (ρ 7) (ρ 8) (ρ 9) (ρ 10) u.1 u.2.1 (ρ 13) (ρ 14 0) (ρ 15 0) (ρ 16 0) (ρ 17 0) (ρ 18 0) (ρ 19 0) (ρ 20 0) (ρ 21 0) u.2.2 (ρ 23 0)) (va_A (w_Mod cI cZ dM dM0 dM1 dM2 dM3 dM4 dM5 dM6 dM7 dM8 dM9 dM10 dM11 dM12 dM13 (ρ 0) (ρ 1) (ρ 2) (ρ 3) (ρ 4) (ρ 5) (ρ 6) (ρ 7) (ρ 8) (ρ 9) (ρ 10) (ρ 11) (ρ 12) (ρ 13) (ρ 14 0) (ρ 15 0) (ρ 16 0) (ρ 17 0) (ρ 18 0) (ρ 19 0) (ρ 20 0) (ρ 21 0) (ρ 22 0) (ρ 23 0)) sz)) 0 0 (va_A (w_Mod cI cZ dM dM0 dM1 dM2 dM3 dM4 dM5 dM6 dM7 dM8 dM9 dM10 dM11 dM12 dM13 (ρ 0) (ρ 1) (ρ 2) (ρ 3) (ρ 4) (ρ 5) (ρ 6) (ρ 7) (ρ 8) (ρ 9) (ρ 10) (ρ 11) (ρ 12) (ρ 13) (ρ 14 0) (ρ 15 0) (ρ 16 0) (ρ 17 0) (ρ 18 0) (ρ 19 0) (ρ 20 0) (ρ 21 0) (ρ 22 0) (ρ 23 0)) sz) := by
  refine Met.ofW (cc := prog_6_method_20_code) (maxL := 3) (ret := none) (by decide) rfl ?_
  intro p e s m args below meth c s₁ B hml hv
  obtain ⟨rfl, hsz, hT, hP, hK, hD0⟩ := hv
  have hx := B.exec
  have hb := B.bytes
  have hr := B.returns
  have hts : ∀ w ∈ lw_ok, w.before ([.ref dM, .int q1] : List Value).toArray s = true := hT.use
  have hown : s.vm.findClass R_Mod = some m.cls := findClass_of_methodNamed B.named
  have hlocks := B.notSynchronized
  subst hsz
  have hD := hD0.self (sz := s.heap.size)
  generalize hAe : va_A (w_Mod cI cZ dM dM0 dM1 dM2 dM3 dM4 dM5 dM6 dM7 dM8 dM9 dM10 dM11 dM12 dM13 (ρ 0) (ρ 1) (ρ 2) (ρ 3) (ρ 4) (ρ 5) (ρ 6) (ρ 7) (ρ 8) (ρ 9) (ρ 10) (ρ 11) (ρ 12) (ρ 13) (ρ 14 0) (ρ 15 0) (ρ 16 0) (ρ 17 0) (ρ 18 0) (ρ 19 0) (ρ 20 0) (ρ 21 0) (ρ 22 0) (ρ 23 0)) s.heap.size = A at hD ⊢
  have hA : ∀ q : Nat, s.heap.size ≤ q → A q := fun q h => by rw [← hAe]; exact Or.inr h
  have hS : va_S A s.heap s.heap [] := va_S.rf
  have hl := lv_entry ([.ref dM, .int q1]) (n := 3) (Nat.le_of_ble_eq_true rfl)
  rw [lg_entry_eq]
  generalize (lg_sl ([.ref dM, .int q1]) ++ List.replicate (3 - (lg_sl ([.ref dM, .int q1])).length) Slot.unset).toArray = ls at hl ⊢
  have hl : lv_has ls 3 [(0, .ref dM), (1, .int q1)] := hl
  refine lv_aload_n hx hb d_mDrop_0 rfl (lv_at hl 0 rfl) ?_
  refine lv_dup hx hb d_mDrop_1 rfl ?_
  refine va_get (D := (dC, dI)) (ci := 4) (v := .int (ρ 22 0)) (C := R_Mod) (T := T_Mod) (N := 24) hx hb hts in_Mod hown hK hP 0 rfl rfl 21 (by decide) (hts _ mw_361) (fun _ h9 => h9) rfl d_mDrop_2 ?_
  refine lv_iconst (v := 1) hx hb d_mDrop_5 (by decide) ?_
  refine lv_isub hx hb d_mDrop_6 ?_
  refine va_put (D := (dC, dI)) (ci := 4) (v := .int ((ρ 22 0) - 1)) (ty := .int) (C := R_Mod) (T := T_Mod) (N := 24) hx hb hts in_Mod ty_Mod tyok_Mod nm_Mod hown hK hP hD hS 0 rfl rfl 21 (by decide) (hts _ mw_361) (fun _ h9 => h9) rfl (by decide +kernel) rfl rfl (Nat.le_of_ble_eq_true rfl) d_mDrop_7 (fun H locs hP hD hS => ?_)
  have hP : va_P (dC, dI) vwCl (w_Mod cI cZ dM dM0 dM1 dM2 dM3 dM4 dM5 dM6 dM7 dM8 dM9 dM10 dM11 dM12 dM13 (ρ 0) (ρ 1) (ρ 2) (ρ 3) (ρ 4) (ρ 5) (ρ 6) (ρ 7) (ρ 8) (ρ 9) (ρ 10) (ρ 11) (ρ 12) (ρ 13) (ρ 14 0) (ρ 15 0) (ρ 16 0) (ρ 17 0) (ρ 18 0) (ρ 19 0) (ρ 20 0) (ρ 21 0) ((ρ 22 0) - 1) (ρ 23 0)) H := hP
  have hD : va_D A (w_Mod cI cZ dM dM0 dM1 dM2 dM3 dM4 dM5 dM6 dM7 dM8 dM9 dM10 dM11 dM12 dM13 (ρ 0) (ρ 1) (ρ 2) (ρ 3) (ρ 4) (ρ 5) (ρ 6) (ρ 7) (ρ 8) (ρ 9) (ρ 10) (ρ 11) (ρ 12) (ρ 13) (ρ 14 0) (ρ 15 0) (ρ 16 0) (ρ 17 0) (ρ 18 0) (ρ 19 0) (ρ 20 0) (ρ 21 0) ((ρ 22 0) - 1) (ρ 23 0)) := hD
  refine lv_iload_n hx hb d_mDrop_10 rfl (lv_at hl 1 rfl) ?_
  refine lv_istore_n (lv' := [(2, .int q1), (0, .ref dM), (1, .int q1)]) hx hb d_mDrop_11 rfl hl (by decide) rfl (fun ls hl => ?_)
  obtain ⟨a, kc, hkc, hak, ea, ek⟩ := hd
  have e0 : ρ 22 0 - 1 = nI (kc - 1) := by rw [ek, nI_dn (by omega)]
  refine lp_drop (a := a) (kc := kc) hx hb hml hT hts hown hK hA hkc hak e0 (fun ls H locs hP hD hS => ?_) kc 0 ls (by omega) (by omega) _ _ hP hD hS (by rw [Nat.add_zero, ← ea]; exact lv_sub hl [1, 2, 0] rfl)
  have hF : F_mDrop ρ q1 = (ss (ss (ss ρ 11 (shl (ρ 11) a (a + 1) (kc - 1 - a))) 12 (shl (ρ 12) a (a + 1) (kc - 1 - a))) 22 (fun _ => ρ 22 0 - 1)) := by unfold F_mDrop; rw [ea, ek, nI_clamp (show a < 2 ^ 31 by omega), nI_clamp (show kc < 2 ^ 31 by omega)]
  exact W.vret hx hb hr (fun t ht hW => ⟨⟨(shl (ρ 11) a (a + 1) (kc - 1 - a), shl (ρ 12) a (a + 1) (kc - 1 - a), ρ 22 0 - 1), rfl, (congrArg (fun f : SS => (f 11, f 12, f 22 0)) hF).symm, by rw [ht]; exact hP, hD⟩, hS.F ht⟩) hS.2.2 d_mDrop_54
set_option maxHeartbeats 4000000 in
set_option maxRecDepth 100000 in
theorem lp_end {p : Program} {l : Launch} {e : Env} {R : Room} {s : State} {m : MethodId} {args : Array Value} {below : List Frame} {meth : Method} {c : Code} {Q : State → Prop} {cells slots : Nat} {H : Heap} {locs : List Loc} {dC : Nat → ClassId} {dI : Nat → Nat → Nat} {cI cZ : ClassId} {dM dM0 dM1 dM2 dM3 dM4 dM5 dM6 dM7 dM8 dM9 dM10 dM11 dM12 dM13 : Nat} {ρ : SS} {q1 it : Int32} {kc : Nat} (hx : p.tables.exec = Jvm.exec) (hb : c.code = prog_6_method_21_code) (hml : c.maxLocals = 4) (hT : TBL s) (hts : ∀ w ∈ lw_ok, w.before args s = true) (hown : s.vm.findClass R_Mod = some m.cls) (hK : va_K (dC, dI) vwCl (tyC cI cZ) s) (hP : va_P (dC, dI) vwCl (w_Mod cI cZ dM dM0 dM1 dM2 dM3 dM4 dM5 dM6 dM7 dM8 dM9 dM10 dM11 dM12 dM13 (ρ 0) (ρ 1) (ρ 2) (ρ 3) (ρ 4) (ρ 5) (ρ 6) (ρ 7) (ρ 8) (ρ 9) (ρ 10) (ρ 11) (ρ 12) (ρ 13) (ρ 14 0) (ρ 15 0) (ρ 16 0) (ρ 17 0) (ρ 18 0) (ρ 19 0) (ρ 20 0) (ρ 21 0) (ρ 22 0) (ρ 23 0)) H) (hkc : kc ≤ 100) (kx : ∀ ls : Array Slot, lv_has ls 4 [(0, .ref dM), (1, .int q1), (2, .int it), (3, .int (nI (rf (ρ 12) kc)))] → W p l e R s m args below meth c H locs cells slots Q (F0 m 81 ls [])) : ∀ (n : Nat) (j : Nat) (ls : Array Slot), (j ≤ kc) → (∃ r, r < j ∧ ¬ ρ 12 r = -1) → (rf (ρ 12) kc = rf (ρ 12) j) → j + 1 ≤ n → lv_has ls 4 [(0, .ref dM), (1, .int q1), (2, .int it), (3, .int (nI j - 1))] → W p l e R s m args below meth c H locs cells slots Q (F0 m 65 ls []) := by
  intro n
  induction n with
  | zero => intro j ls hj hr hv hfu; exact absurd hfu (by omega)
  | succ n ih =>
    intro j ls hj hr hv hfu hl
    refine lv_aload_n hx hb d_mEnd_65 rfl (lv_at hl 0 rfl) ?_
    have hjp : 0 < j := by obtain ⟨r, h1, h2⟩ := hr; omega
    refine va_get (D := (dC, dI)) (ci := 4) (v := .ref dM12) (C := R_Mod) (T := T_Mod) (N := 24) hx hb hts in_Mod hown hK hP 0 rfl rfl 20 (by decide) (hts _ mw_360) (fun _ h9 => h9) rfl d_mEnd_66 ?_
    refine lv_iload_n hx hb d_mEnd_69 rfl (lv_at hl 3 rfl) ?_
    refine va_iald (n := 100) (f := ρ 12) hx hb hK hP 13 0 rfl rfl (i := nI j - 1) (by rw [nI_dn hjp]; exact vp_in_nI (by omega) (by decide)) d_mEnd_70 ?_
    refine lv_iconst (v := -1) hx hb d_mEnd_71 (by decide) ?_
    refine lv_icmp_ne (tgt := 81) hx hb d_mEnd_72 (by decide) (fun c_1 => ?_) (fun c_1 => ?_)
    · have hc := c_1
      rw [nI_dn hjp, nI_clamp (show j - 1 < 2 ^ 31 by omega)] at hc
      refine kx ls ?_
      rw [hv, rf_t hjp hc, ← nI_dn hjp]
      exact hl
    · refine lv_iinc (v := nI (j - 1) - 1) (lv' := [(3, .int (nI (j - 1) - 1)), (0, .ref dM), (1, .int q1), (2, .int it)]) hx hb d_mEnd_75 hl (k := 3) rfl (by rw [nI_dn hjp]; exact i_dec _) (by decide) rfl (fun ls hl => ?_)
      refine lv_goto (tgt := 65) hx hb d_mEnd_78 (by decide) ?_
      have hc := c_1
      rw [nI_dn hjp, nI_clamp (show j - 1 < 2 ^ 31 by omega)] at hc
      refine ih (j - 1) ls (by omega) ?_ (hv.trans (rf_f hjp hc)) (by omega) (lv_sub hl [1, 2, 3, 0] rfl)
      obtain ⟨r, h1, h2⟩ := hr
      refine ⟨r, ?_, h2⟩
      rcases Nat.lt_or_ge r (j - 1) with q | q
      · exact q
      · exact absurd (by rw [show r = j - 1 by omega]; exact hc) h2
theorem m_lent1 {x : Int32} {lc : Nat} (h1 : lc ≤ 256) (h2 : x = nI lc) (h0 : ¬ x ≤ 0) : vp_in (x - 1) 6000 ∧ (x - 1).toNatClampNeg < lc := by
  have hp : 0 < lc := by
    rcases Nat.eq_zero_or_pos lc with q | q
    · subst q; exact absurd (by rw [h2]; decide) h0
    · exact q
  rw [h2, nI_dn hp, nI_clamp (by omega)]
  exact ⟨vp_in_nI (by omega) (by decide), by omega⟩
def F_mEnd (ρ : SS) (q1 : Int32) : Int32 × SS :=
  if (ρ 16 0) = 2 then
    if q1 = 0 then
      (ρ 19 0, (ss (ss ρ 14 (fun _ => 0)) 16 (fun _ => 0)))
    else
      if (ρ 19 0) ≤ 0 then
        (ρ 19 0, (ss (ss ρ 14 (fun _ => 0)) 16 (fun _ => 0)))
      else
        if (ρ 18 0) = 0 then
          ((ρ 19 0) - 1, (ss (ss (ss (ss (ss ρ 5 (((F_mCome (ss (ss (ss ρ 14 (fun _ => 0)) 16 (fun _ => 0)) 19 (fun _ => (ρ 19 0) - 1)) (ρ 10 ((ρ 19 0) - 1).toNatClampNeg)).2) 5)) 7 (((F_mCome (ss (ss (ss ρ 14 (fun _ => 0)) 16 (fun _ => 0)) 19 (fun _ => (ρ 19 0) - 1)) (ρ 10 ((ρ 19 0) - 1).toNatClampNeg)).2) 7)) 14 (fun _ => 0)) 16 (fun _ => 0)) 19 (fun _ => (ρ 19 0) - 1)))
        else
          ((ρ 19 0) - 1, (ss (ss (ss (ss (ss (ss (ss ρ 7 (upd (ρ 7) (ρ 10 ((ρ 19 0) - 1).toNatClampNeg).toNatClampNeg (vp_nar .boolean 0))) 11 ((F_mDrop (ss (ss (ss ρ 14 (fun _ => 0)) 16 (fun _ => 0)) 19 (fun _ => (ρ 19 0) - 1)) (nI (rf (ρ 12) (ρ 22 0).toNatClampNeg))) 11)) 12 ((F_mDrop (ss (ss (ss ρ 14 (fun _ => 0)) 16 (fun _ => 0)) 19 (fun _ => (ρ 19 0) - 1)) (nI (rf (ρ 12) (ρ 22 0).toNatClampNeg))) 12)) 14 (fun _ => 0)) 16 (fun _ => 0)) 19 (fun _ => (ρ 19 0) - 1)) 22 (fun _ => ((F_mDrop (ss (ss (ss ρ 14 (fun _ => 0)) 16 (fun _ => 0)) 19 (fun _ => (ρ 19 0) - 1)) (nI (rf (ρ 12) (ρ 22 0).toNatClampNeg))) 22 0))))
  else
    (-1, (ss ρ 14 (fun _ => 0)))
set_option maxHeartbeats 4000000 in
set_option maxRecDepth 100000 in
theorem c_mEnd (l : Launch) (dC : Nat → ClassId) (dI : Nat → Nat → Nat) (cI cZ : ClassId) (dM dM0 dM1 dM2 dM3 dM4 dM5 dM6 dM7 dM8 dM9 dM10 dM11 dM12 dM13 : Nat) (sz : Nat) (ρ : SS) (q1 : Int32) (hM : MInv ρ) (hz : q1 = 0 ∨ q1 = 1) : Met l y_mEnd [Cond.code y_mEnd prog_6_method_21_code 4 (some .int)] ({ frames := 1, cells := 0, slots := 0, locals := 22 }) (pcW (dC, dI) (w_Mod cI cZ dM dM0 dM1 dM2 dM3 dM4 dM5 dM6 dM7 dM8 dM9 dM10 dM11 dM12 dM13 (ρ 0) (ρ 1) (ρ 2) (ρ 3) (ρ 4) (ρ 5) (ρ 6) (ρ 7) (ρ 8) (ρ 9) (ρ 10) (ρ 11) (ρ 12) (ρ 13) (ρ 14 0) (ρ 15 0) (ρ 16 0) (ρ 17 0) (ρ 18 0) (ρ 19 0) (ρ 20 0) (ρ 21 0) (ρ 22 0) (ρ 23 0)) (tyC cI cZ) sz [.ref dM, .int q1]) (qI (fun r u => r = (F_mEnd ρ q1).1 ∧ u = (F_mEnd ρ q1).2) (dC, dI) (fun u : SS => w_Mod cI cZ dM dM0 dM1 dM2 dM3 dM4 dM5 dM6 dM7 dM8 dM9 dM10 dM11 dM12 dM13 (u 0) (u 1) (u 2) (u 3) (u 4) (u 5) (u 6) (u 7) (u 8) (u 9) (u 10) (u 11) (u 12) (u 13) (u 14 0) (u 15 0) (u 16 0) (u 17 0) (u 18 0) (u 19 0) (u 20 0) (u 21 0) (u 22 0) (u 23 0)) (va_A (w_Mod cI cZ dM dM0 dM1 dM2 dM3 dM4 dM5 dM6 dM7 dM8 dM9 dM10 dM11 dM12 dM13 (ρ 0) (ρ 1) (ρ 2) (ρ 3) (ρ 4) (ρ 5) (ρ 6) (ρ 7) (ρ 8) (ρ 9) (ρ 10) (ρ 11) (ρ 12) (ρ 13) (ρ 14 0) (ρ 15 0) (ρ 16 0) (ρ 17 0) (ρ 18 0) (ρ 19 0) (ρ 20 0) (ρ 21 0) (ρ 22 0) (ρ 23 0)) sz)) 0 0 (va_A (w_Mod cI cZ dM dM0 dM1 dM2 dM3 dM4 dM5 dM6 dM7 dM8 dM9 dM10 dM11 dM12 dM13 (ρ 0) (ρ 1) (ρ 2) (ρ 3) (ρ 4) (ρ 5) (ρ 6) (ρ 7) (ρ 8) (ρ 9) (ρ 10) (ρ 11) (ρ 12) (ρ 13) (ρ 14 0) (ρ 15 0) (ρ 16 0) (ρ 17 0) (ρ 18 0) (ρ 19 0) (ρ 20 0) (ρ 21 0) (ρ 22 0) (ρ 23 0)) sz) := by
  refine Met.ofW (cc := prog_6_method_21_code) (maxL := 4) (ret := (some .int)) (by decide) rfl ?_
  intro p e s m args below meth c s₁ B hml hv
  obtain ⟨rfl, hsz, hT, hP, hK, hD0⟩ := hv
  have hx := B.exec
  have hb := B.bytes
  have hr := B.returns
  have hts : ∀ w ∈ lw_ok, w.before ([.ref dM, .int q1] : List Value).toArray s = true := hT.use
  have hown : s.vm.findClass R_Mod = some m.cls := findClass_of_methodNamed B.named
  have hlocks := B.notSynchronized
  subst hsz
  have hD := hD0.self (sz := s.heap.size)
  generalize hAe : va_A (w_Mod cI cZ dM dM0 dM1 dM2 dM3 dM4 dM5 dM6 dM7 dM8 dM9 dM10 dM11 dM12 dM13 (ρ 0) (ρ 1) (ρ 2) (ρ 3) (ρ 4) (ρ 5) (ρ 6) (ρ 7) (ρ 8) (ρ 9) (ρ 10) (ρ 11) (ρ 12) (ρ 13) (ρ 14 0) (ρ 15 0) (ρ 16 0) (ρ 17 0) (ρ 18 0) (ρ 19 0) (ρ 20 0) (ρ 21 0) (ρ 22 0) (ρ 23 0)) s.heap.size = A at hD ⊢
  have hA : ∀ q : Nat, s.heap.size ≤ q → A q := fun q h => by rw [← hAe]; exact Or.inr h
  have hS : va_S A s.heap s.heap [] := va_S.rf
  have hl := lv_entry ([.ref dM, .int q1]) (n := 4) (Nat.le_of_ble_eq_true rfl)
  rw [lg_entry_eq]
  generalize (lg_sl ([.ref dM, .int q1]) ++ List.replicate (4 - (lg_sl ([.ref dM, .int q1])).length) Slot.unset).toArray = ls at hl ⊢
  have hl : lv_has ls 4 [(0, .ref dM), (1, .int q1)] := hl
  obtain ⟨mo, hmo, emo, hof, hre, hlo, hlk, ⟨kc, hkm, ek, hrow, hlend⟩, ⟨xc, hxm, ex⟩, hpe, hsc, ⟨lc, hlm, el, hrec⟩⟩ := id hM
  refine lv_aload_n hx hb d_mEnd_0 rfl (lv_at hl 0 rfl) ?_
  refine lv_iconst (v := 0) hx hb d_mEnd_1 (by decide) ?_
  refine va_put (D := (dC, dI)) (ci := 4) (v := .int 0) (ty := .int) (C := R_Mod) (T := T_Mod) (N := 24) hx hb hts in_Mod ty_Mod tyok_Mod nm_Mod hown hK hP hD hS 0 rfl rfl 0 (by decide) (hts _ mw_340) (fun _ h9 => h9) rfl (by decide +kernel) rfl rfl (Nat.le_of_ble_eq_true rfl) d_mEnd_2 (fun H locs hP hD hS => ?_)
  have hP : va_P (dC, dI) vwCl (w_Mod cI cZ dM dM0 dM1 dM2 dM3 dM4 dM5 dM6 dM7 dM8 dM9 dM10 dM11 dM12 dM13 (ρ 0) (ρ 1) (ρ 2) (ρ 3) (ρ 4) (ρ 5) (ρ 6) (ρ 7) (ρ 8) (ρ 9) (ρ 10) (ρ 11) (ρ 12) (ρ 13) 0 (ρ 15 0) (ρ 16 0) (ρ 17 0) (ρ 18 0) (ρ 19 0) (ρ 20 0) (ρ 21 0) (ρ 22 0) (ρ 23 0)) H := hP
  have hD : va_D A (w_Mod cI cZ dM dM0 dM1 dM2 dM3 dM4 dM5 dM6 dM7 dM8 dM9 dM10 dM11 dM12 dM13 (ρ 0) (ρ 1) (ρ 2) (ρ 3) (ρ 4) (ρ 5) (ρ 6) (ρ 7) (ρ 8) (ρ 9) (ρ 10) (ρ 11) (ρ 12) (ρ 13) 0 (ρ 15 0) (ρ 16 0) (ρ 17 0) (ρ 18 0) (ρ 19 0) (ρ 20 0) (ρ 21 0) (ρ 22 0) (ρ 23 0)) := hD
  refine lv_aload_n hx hb d_mEnd_5 rfl (lv_at hl 0 rfl) ?_
  refine va_get (D := (dC, dI)) (ci := 4) (v := .int (ρ 16 0)) (C := R_Mod) (T := T_Mod) (N := 24) hx hb hts in_Mod hown hK hP 0 rfl rfl 12 (by decide) (hts _ mw_352) (fun _ h9 => h9) rfl d_mEnd_6 ?_
  refine lv_iconst (v := 2) hx hb d_mEnd_9 (by decide) ?_
  refine lv_icmp_eq (tgt := 15) hx hb d_mEnd_10 (by decide) (fun c_1 => ?_) (fun c_1 => ?_)
  · refine lv_aload_n hx hb d_mEnd_15 rfl (lv_at hl 0 rfl) ?_
    refine lv_iconst (v := 0) hx hb d_mEnd_16 (by decide) ?_
    refine va_put (D := (dC, dI)) (ci := 4) (v := .int 0) (ty := .int) (C := R_Mod) (T := T_Mod) (N := 24) hx hb hts in_Mod ty_Mod tyok_Mod nm_Mod hown hK hP hD hS 0 rfl rfl 12 (by decide) (hts _ mw_352) (fun _ h9 => h9) rfl (by decide +kernel) rfl rfl (Nat.le_of_ble_eq_true rfl) d_mEnd_17 (fun H locs hP hD hS => ?_)
    have hP : va_P (dC, dI) vwCl (w_Mod cI cZ dM dM0 dM1 dM2 dM3 dM4 dM5 dM6 dM7 dM8 dM9 dM10 dM11 dM12 dM13 (ρ 0) (ρ 1) (ρ 2) (ρ 3) (ρ 4) (ρ 5) (ρ 6) (ρ 7) (ρ 8) (ρ 9) (ρ 10) (ρ 11) (ρ 12) (ρ 13) 0 (ρ 15 0) 0 (ρ 17 0) (ρ 18 0) (ρ 19 0) (ρ 20 0) (ρ 21 0) (ρ 22 0) (ρ 23 0)) H := hP
    have hD : va_D A (w_Mod cI cZ dM dM0 dM1 dM2 dM3 dM4 dM5 dM6 dM7 dM8 dM9 dM10 dM11 dM12 dM13 (ρ 0) (ρ 1) (ρ 2) (ρ 3) (ρ 4) (ρ 5) (ρ 6) (ρ 7) (ρ 8) (ρ 9) (ρ 10) (ρ 11) (ρ 12) (ρ 13) 0 (ρ 15 0) 0 (ρ 17 0) (ρ 18 0) (ρ 19 0) (ρ 20 0) (ρ 21 0) (ρ 22 0) (ρ 23 0)) := hD
    refine lv_iload_n hx hb d_mEnd_20 rfl (lv_at hl 1 rfl) ?_
    refine lv_if_eq (tgt := 102) hx hb d_mEnd_21 (by decide) (fun c_2 => ?_) (fun c_2 => ?_)
    · refine lv_aload_n hx hb d_mEnd_102 rfl (lv_at hl 0 rfl) ?_
      refine va_get (D := (dC, dI)) (ci := 4) (v := .int (ρ 19 0)) (C := R_Mod) (T := T_Mod) (N := 24) hx hb hts in_Mod hown hK hP 0 rfl rfl 16 (by decide) (hts _ mw_356) (fun _ h9 => h9) rfl d_mEnd_103 ?_
      have hF : F_mEnd ρ q1 = (ρ 19 0, (ss (ss ρ 14 (fun _ => 0)) 16 (fun _ => 0))) := (if_pos c_1).trans ((if_pos c_2).trans rfl)
      exact W.iret (v := ρ 19 0) hx hb hr (fun t ht hW => ⟨⟨ρ 19 0, (ss (ss ρ 14 (fun _ => 0)) 16 (fun _ => 0)), rfl, ⟨(congrArg Prod.fst hF).symm, (congrArg Prod.snd hF).symm⟩, by rw [ht]; exact hP, hD⟩, hS.F ht⟩) hS.2.2 d_mEnd_106
    · refine lv_aload_n hx hb d_mEnd_24 rfl (lv_at hl 0 rfl) ?_
      refine va_get (D := (dC, dI)) (ci := 4) (v := .int (ρ 19 0)) (C := R_Mod) (T := T_Mod) (N := 24) hx hb hts in_Mod hown hK hP 0 rfl rfl 16 (by decide) (hts _ mw_356) (fun _ h9 => h9) rfl d_mEnd_25 ?_
      refine lv_if_le (tgt := 102) hx hb d_mEnd_28 (by decide) (fun c_3 => ?_) (fun c_3 => ?_)
      · refine lv_aload_n hx hb d_mEnd_102 rfl (lv_at hl 0 rfl) ?_
        refine va_get (D := (dC, dI)) (ci := 4) (v := .int (ρ 19 0)) (C := R_Mod) (T := T_Mod) (N := 24) hx hb hts in_Mod hown hK hP 0 rfl rfl 16 (by decide) (hts _ mw_356) (fun _ h9 => h9) rfl d_mEnd_103 ?_
        have hF : F_mEnd ρ q1 = (ρ 19 0, (ss (ss ρ 14 (fun _ => 0)) 16 (fun _ => 0))) := (if_pos c_1).trans ((if_neg c_2).trans ((if_pos c_3).trans rfl))
        exact W.iret (v := ρ 19 0) hx hb hr (fun t ht hW => ⟨⟨ρ 19 0, (ss (ss ρ 14 (fun _ => 0)) 16 (fun _ => 0)), rfl, ⟨(congrArg Prod.fst hF).symm, (congrArg Prod.snd hF).symm⟩, by rw [ht]; exact hP, hD⟩, hS.F ht⟩) hS.2.2 d_mEnd_106
      · refine lv_aload_n hx hb d_mEnd_31 rfl (lv_at hl 0 rfl) ?_
        refine lv_dup hx hb d_mEnd_32 rfl ?_
        refine va_get (D := (dC, dI)) (ci := 4) (v := .int (ρ 19 0)) (C := R_Mod) (T := T_Mod) (N := 24) hx hb hts in_Mod hown hK hP 0 rfl rfl 16 (by decide) (hts _ mw_356) (fun _ h9 => h9) rfl d_mEnd_33 ?_
        refine lv_iconst (v := 1) hx hb d_mEnd_36 (by decide) ?_
        refine lv_isub hx hb d_mEnd_37 ?_
        refine va_put (D := (dC, dI)) (ci := 4) (v := .int ((ρ 19 0) - 1)) (ty := .int) (C := R_Mod) (T := T_Mod) (N := 24) hx hb hts in_Mod ty_Mod tyok_Mod nm_Mod hown hK hP hD hS 0 rfl rfl 16 (by decide) (hts _ mw_356) (fun _ h9 => h9) rfl (by decide +kernel) rfl rfl (Nat.le_of_ble_eq_true rfl) d_mEnd_38 (fun H locs hP hD hS => ?_)
        have hP : va_P (dC, dI) vwCl (w_Mod cI cZ dM dM0 dM1 dM2 dM3 dM4 dM5 dM6 dM7 dM8 dM9 dM10 dM11 dM12 dM13 (ρ 0) (ρ 1) (ρ 2) (ρ 3) (ρ 4) (ρ 5) (ρ 6) (ρ 7) (ρ 8) (ρ 9) (ρ 10) (ρ 11) (ρ 12) (ρ 13) 0 (ρ 15 0) 0 (ρ 17 0) (ρ 18 0) ((ρ 19 0) - 1) (ρ 20 0) (ρ 21 0) (ρ 22 0) (ρ 23 0)) H := hP
        have hD : va_D A (w_Mod cI cZ dM dM0 dM1 dM2 dM3 dM4 dM5 dM6 dM7 dM8 dM9 dM10 dM11 dM12 dM13 (ρ 0) (ρ 1) (ρ 2) (ρ 3) (ρ 4) (ρ 5) (ρ 6) (ρ 7) (ρ 8) (ρ 9) (ρ 10) (ρ 11) (ρ 12) (ρ 13) 0 (ρ 15 0) 0 (ρ 17 0) (ρ 18 0) ((ρ 19 0) - 1) (ρ 20 0) (ρ 21 0) (ρ 22 0) (ρ 23 0)) := hD
        refine lv_aload_n hx hb d_mEnd_41 rfl (lv_at hl 0 rfl) ?_
        refine va_get (D := (dC, dI)) (ci := 4) (v := .ref dM10) (C := R_Mod) (T := T_Mod) (N := 24) hx hb hts in_Mod hown hK hP 0 rfl rfl 15 (by decide) (hts _ mw_355) (fun _ h9 => h9) rfl d_mEnd_42 ?_
        refine lv_aload_n hx hb d_mEnd_45 rfl (lv_at hl 0 rfl) ?_
        refine va_get (D := (dC, dI)) (ci := 4) (v := .int ((ρ 19 0) - 1)) (C := R_Mod) (T := T_Mod) (N := 24) hx hb hts in_Mod hown hK hP 0 rfl rfl 16 (by decide) (hts _ mw_356) (fun _ h9 => h9) rfl d_mEnd_46 ?_
        refine va_iald (n := 6000) (f := ρ 10) hx hb hK hP 11 0 rfl rfl (i := (ρ 19 0) - 1) (by first | assumption | exact (m_lent1 hlm el ‹_›).1 | exact hrec _ (m_lent1 hlm el ‹_›).2 | exact ⟨_, kc, by omega, hrl, rfl, ek⟩) d_mEnd_49 ?_
        refine lv_istore_n (lv' := [(2, .int (ρ 10 ((ρ 19 0) - 1).toNatClampNeg)), (0, .ref dM), (1, .int q1)]) hx hb d_mEnd_50 rfl hl (by decide) rfl (fun ls hl => ?_)
        refine lv_aload_n hx hb d_mEnd_51 rfl (lv_at hl 1 rfl) ?_
        refine va_get (D := (dC, dI)) (ci := 4) (v := .int (ρ 18 0)) (C := R_Mod) (T := T_Mod) (N := 24) hx hb hts in_Mod hown hK hP 0 rfl rfl 14 (by decide) (hts _ mw_354) (fun _ h9 => h9) rfl d_mEnd_52 ?_
        refine lv_if_eq (tgt := 96) hx hb d_mEnd_55 (by decide) (fun c_4 => ?_) (fun c_4 => ?_)
        · refine lv_aload_n hx hb d_mEnd_96 rfl (lv_at hl 1 rfl) ?_
          refine lv_iload_n hx hb d_mEnd_97 rfl (lv_at hl 0 rfl) ?_
          refine xc_VWi (As := [.int (ρ 10 ((ρ 19 0) - 1).toNatClampNeg)]) (rest := []) (ci := 4) (wr := []) ⟨hx, hb, hml, hown, hts⟩ hT hK hP hD hS hA (c_mCome l dC dI cI cZ dM dM0 dM1 dM2 dM3 dM4 dM5 dM6 dM7 dM8 dM9 dM10 dM11 dM12 dM13 H.size (ss (ss (ss ρ 14 (fun _ => 0)) 16 (fun _ => 0)) 19 (fun _ => (ρ 19 0) - 1)) (ρ 10 ((ρ 19 0) - 1).toNatClampNeg) (by first | assumption | exact (m_lent1 hlm el ‹_›).1 | exact hrec _ (m_lent1 hlm el ‹_›).2 | exact ⟨_, kc, by omega, hrl, rfl, ek⟩)) [0, 1, 2, 3, 4, 5, 6, 7, 8, 9, 10, 11, 12, 13, 14] [] rfl (by decide) rfl (by decide) (by decide) (xw_V 1 hts mw_478 mw_19 mw_475 mw_477 mw_10 rfl rfl (by decide +kernel) ⟨Nat.le_of_ble_eq_true rfl, Nat.le_of_ble_eq_true rfl⟩) rfl rfl rfl hl.1 rfl (Nat.le_of_ble_eq_true rfl) d_mEnd_98 ⟨Nat.zero_le _, Nat.zero_le _⟩ (fun r u H locs hw hP hD hS => ?_)
          obtain ⟨rfl, hw⟩ := hw
          obtain ⟨v4_5, v4_7⟩ := u
          have hv4_5 : v4_5 = ((F_mCome (ss (ss (ss ρ 14 (fun _ => 0)) 16 (fun _ => 0)) 19 (fun _ => (ρ 19 0) - 1)) (ρ 10 ((ρ 19 0) - 1).toNatClampNeg)).2) 5 := congrArg (fun u : (Nat → Int32) × (Nat → Int32) => u.1) hw
          have hv4_7 : v4_7 = ((F_mCome (ss (ss (ss ρ 14 (fun _ => 0)) 16 (fun _ => 0)) 19 (fun _ => (ρ 19 0) - 1)) (ρ 10 ((ρ 19 0) - 1).toNatClampNeg)).2) 7 := congrArg (fun u : (Nat → Int32) × (Nat → Int32) => u.2) hw
          have hP : va_P (dC, dI) vwCl (w_Mod cI cZ dM dM0 dM1 dM2 dM3 dM4 dM5 dM6 dM7 dM8 dM9 dM10 dM11 dM12 dM13 (ρ 0) (ρ 1) (ρ 2) (ρ 3) (ρ 4) v4_5 (ρ 6) v4_7 (ρ 8) (ρ 9) (ρ 10) (ρ 11) (ρ 12) (ρ 13) 0 (ρ 15 0) 0 (ρ 17 0) (ρ 18 0) ((ρ 19 0) - 1) (ρ 20 0) (ρ 21 0) (ρ 22 0) (ρ 23 0)) H := hP.sub [0, 1, 2, 3, 4, 5, 6, 7, 8, 9, 10, 11, 12, 13, 14] rfl
          have hD : va_D A (w_Mod cI cZ dM dM0 dM1 dM2 dM3 dM4 dM5 dM6 dM7 dM8 dM9 dM10 dM11 dM12 dM13 (ρ 0) (ρ 1) (ρ 2) (ρ 3) (ρ 4) v4_5 (ρ 6) v4_7 (ρ 8) (ρ 9) (ρ 10) (ρ 11) (ρ 12) (ρ 13) 0 (ρ 15 0) 0 (ρ 17 0) (ρ 18 0) ((ρ 19 0) - 1) (ρ 20 0) (ρ 21 0) (ρ 22 0) (ρ 23 0)) := hD.sub [0, 1, 2, 3, 4, 5, 6, 7, 8, 9, 10, 11, 12, 13, 14] (by decide) rfl
          refine lv_pop hx hb d_mEnd_101 rfl ?_
          refine lv_aload_n hx hb d_mEnd_102 rfl (lv_at hl 1 rfl) ?_
          refine va_get (D := (dC, dI)) (ci := 4) (v := .int ((ρ 19 0) - 1)) (C := R_Mod) (T := T_Mod) (N := 24) hx hb hts in_Mod hown hK hP 0 rfl rfl 16 (by decide) (hts _ mw_356) (fun _ h9 => h9) rfl d_mEnd_103 ?_
          have hF : F_mEnd ρ q1 = ((ρ 19 0) - 1, (ss (ss (ss (ss (ss ρ 5 v4_5) 7 v4_7) 14 (fun _ => 0)) 16 (fun _ => 0)) 19 (fun _ => (ρ 19 0) - 1))) := by subst hv4_5 hv4_7; exact ((if_pos c_1).trans ((if_neg c_2).trans ((if_neg c_3).trans ((if_pos c_4).trans rfl))))
          exact W.iret (v := (ρ 19 0) - 1) hx hb hr (fun t ht hW => ⟨⟨(ρ 19 0) - 1, (ss (ss (ss (ss (ss ρ 5 v4_5) 7 v4_7) 14 (fun _ => 0)) 16 (fun _ => 0)) 19 (fun _ => (ρ 19 0) - 1)), rfl, ⟨(congrArg Prod.fst hF).symm, (congrArg Prod.snd hF).symm⟩, by rw [ht]; exact hP, hD⟩, hS.F ht⟩) hS.2.2 d_mEnd_106
        · refine lv_aload_n hx hb d_mEnd_58 rfl (lv_at hl 1 rfl) ?_
          refine va_get (D := (dC, dI)) (ci := 4) (v := .int (ρ 22 0)) (C := R_Mod) (T := T_Mod) (N := 24) hx hb hts in_Mod hown hK hP 0 rfl rfl 21 (by decide) (hts _ mw_361) (fun _ h9 => h9) rfl d_mEnd_59 ?_
          refine lv_iconst (v := 1) hx hb d_mEnd_62 (by decide) ?_
          refine lv_isub hx hb d_mEnd_63 ?_
          refine lv_istore_n (lv' := [(3, .int ((ρ 22 0) - 1)), (2, .int (ρ 10 ((ρ 19 0) - 1).toNatClampNeg)), (0, .ref dM), (1, .int q1)]) hx hb d_mEnd_64 rfl hl (by decide) rfl (fun ls hl => ?_)
          have hlend9 := hlend c_1 c_4 c_3
          have hrl := rf_lt kc hlend9
          refine lp_end (ρ := (ss (ss (ss ρ 14 (fun _ => 0)) 16 (fun _ => 0)) 19 (fun _ => (ρ 19 0) - 1))) (kc := kc) hx hb hml hT hts hown hK hP (by omega) (fun ls hl => ?_) (kc + 1) kc ls (by omega) hlend9 rfl (by omega) (by rw [← ek]; exact lv_sub hl [2, 3, 1, 0] rfl)
          refine lv_aload_n hx hb d_mEnd_81 rfl (lv_at hl 0 rfl) ?_
          refine lv_iload_n hx hb d_mEnd_82 rfl (lv_at hl 3 rfl) ?_
          refine xc_VWv (As := [.int (nI (rf (ρ 12) kc))]) (rest := []) (ci := 4) (wr := []) ⟨hx, hb, hml, hown, hts⟩ hT hK hP hD hS hA (c_mDrop l dC dI cI cZ dM dM0 dM1 dM2 dM3 dM4 dM5 dM6 dM7 dM8 dM9 dM10 dM11 dM12 dM13 H.size (ss (ss (ss ρ 14 (fun _ => 0)) 16 (fun _ => 0)) 19 (fun _ => (ρ 19 0) - 1)) (nI (rf (ρ 12) kc)) (by first | assumption | exact (m_lent1 hlm el ‹_›).1 | exact hrec _ (m_lent1 hlm el ‹_›).2 | exact ⟨_, kc, by omega, hrl, rfl, ek⟩)) [0, 1, 2, 3, 4, 5, 6, 7, 8, 9, 10, 11, 12, 13, 14] [] rfl (by decide) rfl (by decide) (by decide) (xw_V 1 hts mw_486 mw_19 mw_483 mw_485 mw_11 rfl rfl (by decide +kernel) ⟨Nat.le_of_ble_eq_true rfl, Nat.le_of_ble_eq_true rfl⟩) rfl rfl rfl hl.1 rfl (Nat.le_of_ble_eq_true rfl) d_mEnd_83 ⟨Nat.zero_le _, Nat.zero_le _⟩ (fun u H locs hw hP hD hS => ?_)
          obtain ⟨v5_11, v5_12, v5_22⟩ := u
          have hv5_11 : v5_11 = (F_mDrop (ss (ss (ss ρ 14 (fun _ => 0)) 16 (fun _ => 0)) 19 (fun _ => (ρ 19 0) - 1)) (nI (rf (ρ 12) kc))) 11 := congrArg (fun u : (Nat → Int32) × (Nat → Int32) × Int32 => u.1) hw
          have hv5_12 : v5_12 = (F_mDrop (ss (ss (ss ρ 14 (fun _ => 0)) 16 (fun _ => 0)) 19 (fun _ => (ρ 19 0) - 1)) (nI (rf (ρ 12) kc))) 12 := congrArg (fun u : (Nat → Int32) × (Nat → Int32) × Int32 => u.2.1) hw
          have hv5_22 : v5_22 = (F_mDrop (ss (ss (ss ρ 14 (fun _ => 0)) 16 (fun _ => 0)) 19 (fun _ => (ρ 19 0) - 1)) (nI (rf (ρ 12) kc))) 22 0 := congrArg (fun u : (Nat → Int32) × (Nat → Int32) × Int32 => u.2.2) hw
          have hP : va_P (dC, dI) vwCl (w_Mod cI cZ dM dM0 dM1 dM2 dM3 dM4 dM5 dM6 dM7 dM8 dM9 dM10 dM11 dM12 dM13 (ρ 0) (ρ 1) (ρ 2) (ρ 3) (ρ 4) (ρ 5) (ρ 6) (ρ 7) (ρ 8) (ρ 9) (ρ 10) v5_11 v5_12 (ρ 13) 0 (ρ 15 0) 0 (ρ 17 0) (ρ 18 0) ((ρ 19 0) - 1) (ρ 20 0) (ρ 21 0) v5_22 (ρ 23 0)) H := hP.sub [0, 1, 2, 3, 4, 5, 6, 7, 8, 9, 10, 11, 12, 13, 14] rfl
          have hD : va_D A (w_Mod cI cZ dM dM0 dM1 dM2 dM3 dM4 dM5 dM6 dM7 dM8 dM9 dM10 dM11 dM12 dM13 (ρ 0) (ρ 1) (ρ 2) (ρ 3) (ρ 4) (ρ 5) (ρ 6) (ρ 7) (ρ 8) (ρ 9) (ρ 10) v5_11 v5_12 (ρ 13) 0 (ρ 15 0) 0 (ρ 17 0) (ρ 18 0) ((ρ 19 0) - 1) (ρ 20 0) (ρ 21 0) v5_22 (ρ 23 0)) := hD.sub [0, 1, 2, 3, 4, 5, 6, 7, 8, 9, 10, 11, 12, 13, 14] (by decide) rfl
          refine lv_aload_n hx hb d_mEnd_86 rfl (lv_at hl 0 rfl) ?_
          refine va_get (D := (dC, dI)) (ci := 4) (v := .ref dM7) (C := R_Mod) (T := T_Mod) (N := 24) hx hb hts in_Mod hown hK hP 0 rfl rfl 9 (by decide) (hts _ mw_349) (fun _ h9 => h9) rfl d_mEnd_87 ?_
          refine lv_iload_n hx hb d_mEnd_90 rfl (lv_at hl 2 rfl) ?_
          refine lv_iconst (v := 0) hx hb d_mEnd_91 (by decide) ?_
          refine va_zast (n := 60) (f := ρ 7) hx hb hK hP hD hS 8 1 rfl rfl (i := ρ 10 ((ρ 19 0) - 1).toNatClampNeg) (x := 0) (by first | assumption | exact (m_lent1 hlm el ‹_›).1 | exact hrec _ (m_lent1 hlm el ‹_›).2 | exact ⟨_, kc, by omega, hrl, rfl, ek⟩) d_mEnd_92 (fun H locs hP hD hS => ?_)
          have hP : va_P (dC, dI) vwCl (w_Mod cI cZ dM dM0 dM1 dM2 dM3 dM4 dM5 dM6 dM7 dM8 dM9 dM10 dM11 dM12 dM13 (ρ 0) (ρ 1) (ρ 2) (ρ 3) (ρ 4) (ρ 5) (ρ 6) (upd (ρ 7) (ρ 10 ((ρ 19 0) - 1).toNatClampNeg).toNatClampNeg (vp_nar .boolean 0)) (ρ 8) (ρ 9) (ρ 10) v5_11 v5_12 (ρ 13) 0 (ρ 15 0) 0 (ρ 17 0) (ρ 18 0) ((ρ 19 0) - 1) (ρ 20 0) (ρ 21 0) v5_22 (ρ 23 0)) H := hP
          have hD : va_D A (w_Mod cI cZ dM dM0 dM1 dM2 dM3 dM4 dM5 dM6 dM7 dM8 dM9 dM10 dM11 dM12 dM13 (ρ 0) (ρ 1) (ρ 2) (ρ 3) (ρ 4) (ρ 5) (ρ 6) (upd (ρ 7) (ρ 10 ((ρ 19 0) - 1).toNatClampNeg).toNatClampNeg (vp_nar .boolean 0)) (ρ 8) (ρ 9) (ρ 10) v5_11 v5_12 (ρ 13) 0 (ρ 15 0) 0 (ρ 17 0) (ρ 18 0) ((ρ 19 0) - 1) (ρ 20 0) (ρ 21 0) v5_22 (ρ 23 0)) := hD
          refine lv_goto (tgt := 102) hx hb d_mEnd_93 (by decide) ?_
          refine lv_aload_n hx hb d_mEnd_102 rfl (lv_at hl 0 rfl) ?_
          refine va_get (D := (dC, dI)) (ci := 4) (v := .int ((ρ 19 0) - 1)) (C := R_Mod) (T := T_Mod) (N := 24) hx hb hts in_Mod hown hK hP 0 rfl rfl 16 (by decide) (hts _ mw_356) (fun _ h9 => h9) rfl d_mEnd_103 ?_
          have hF : F_mEnd ρ q1 = ((ρ 19 0) - 1, (ss (ss (ss (ss (ss (ss (ss ρ 7 (upd (ρ 7) (ρ 10 ((ρ 19 0) - 1).toNatClampNeg).toNatClampNeg (vp_nar .boolean 0))) 11 v5_11) 12 v5_12) 14 (fun _ => 0)) 16 (fun _ => 0)) 19 (fun _ => (ρ 19 0) - 1)) 22 (fun _ => v5_22))) := by subst hv5_11 hv5_12 hv5_22; exact ((if_pos c_1).trans ((if_neg c_2).trans ((if_neg c_3).trans ((if_neg c_4).trans (by rw [ek, nI_clamp (show kc < 2 ^ 31 by omega)])))))
          exact W.iret (v := (ρ 19 0) - 1) hx hb hr (fun t ht hW => ⟨⟨(ρ 19 0) - 1, (ss (ss (ss (ss (ss (ss (ss ρ 7 (upd (ρ 7) (ρ 10 ((ρ 19 0) - 1).toNatClampNeg).toNatClampNeg (vp_nar .boolean 0))) 11 v5_11) 12 v5_12) 14 (fun _ => 0)) 16 (fun _ => 0)) 19 (fun _ => (ρ 19 0) - 1)) 22 (fun _ => v5_22)), rfl, ⟨(congrArg Prod.fst hF).symm, (congrArg Prod.snd hF).symm⟩, by rw [ht]; exact hP, hD⟩, hS.F ht⟩) hS.2.2 d_mEnd_106
  · refine lv_iconst (v := -1) hx hb d_mEnd_13 (by decide) ?_
    have hF : F_mEnd ρ q1 = (-1, (ss ρ 14 (fun _ => 0))) := (if_neg c_1).trans rfl
    exact W.iret (v := -1) hx hb hr (fun t ht hW => ⟨⟨-1, (ss ρ 14 (fun _ => 0)), rfl, ⟨(congrArg Prod.fst hF).symm, (congrArg Prod.snd hF).symm⟩, by rw [ht]; exact hP, hD⟩, hS.F ht⟩) hS.2.2 d_mEnd_14
