def F_mBlock (ρ : SS) (q1 : Int32) (q2 : Int32) : Int32 × SS :=
  if (F_mIsP q1) = 0 then
    (0, (ss ρ 14 (fun _ => 0)))
  else
    (F_mIsB (ss ρ 14 (fun _ => 0)) q1, (ss (ss (ss (ss ρ 2 (upd (ρ 2) q1.toNatClampNeg (vp_nar .boolean q2))) 3 (upd (ρ 3) q1.toNatClampNeg (vp_nar .boolean 0))) 4 (upd (ρ 4) q1.toNatClampNeg 0)) 14 (fun _ => 0)))
set_option maxHeartbeats 4000000 in
set_option maxRecDepth 100000 in
theorem c_mBlock (l : Launch) (dC : Nat → ClassId) (dI : Nat → Nat → Nat) (cI cZ : ClassId) (dM dM0 dM1 dM2 dM3 dM4 dM5 dM6 dM7 dM8 dM9 dM10 dM11 dM12 dM13 : Nat) (sz : Nat) (ρ : SS) (q1 : Int32) (q2 : Int32) (hz : q2 = 0 ∨ q2 = 1) : Met l y_mBlock [Cond.code y_mBlock prog_6_method_7_code 4 (some .boolean)] ({ frames := 1, cells := 0, slots := 0, locals := 21 }) (pcW (dC, dI) (w_Mod cI cZ dM dM0 dM1 dM2 dM3 dM4 dM5 dM6 dM7 dM8 dM9 dM10 dM11 dM12 dM13 (ρ 0) (ρ 1) (ρ 2) (ρ 3) (ρ 4) (ρ 5) (ρ 6) (ρ 7) (ρ 8) (ρ 9) (ρ 10) (ρ 11) (ρ 12) (ρ 13) (ρ 14 0) (ρ 15 0) (ρ 16 0) (ρ 17 0) (ρ 18 0) (ρ 19 0) (ρ 20 0) (ρ 21 0) (ρ 22 0) (ρ 23 0)) (tyC cI cZ) sz [.ref dM, .int q1, .int q2]) (qI (fun r u => r = (F_mBlock ρ q1 q2).1 ∧ u = (F_mBlock ρ q1 q2).2) (dC, dI) (fun u : SS => w_Mod cI cZ dM dM0 dM1 dM2 dM3 dM4 dM5 dM6 dM7 dM8 dM9 dM10 dM11 dM12 dM13 (u 0) (u 1) (u 2) (u 3) (u 4) (u 5) (u 6) (u 7) (u 8) (u 9) (u 10) (u 11) (u 12) (u 13) (u 14 0) (u 15 0) (u 16 0) (u 17 0) (u 18 0) (u 19 0) (u 20 0) (u 21 0) (u 22 0) (u 23 0)) (va_A (w_Mod cI cZ dM dM0 dM1 dM2 dM3 dM4 dM5 dM6 dM7 dM8 dM9 dM10 dM11 dM12 dM13 (ρ 0) (ρ 1) (ρ 2) (ρ 3) (ρ 4) (ρ 5) (ρ 6) (ρ 7) (ρ 8) (ρ 9) (ρ 10) (ρ 11) (ρ 12) (ρ 13) (ρ 14 0) (ρ 15 0) (ρ 16 0) (ρ 17 0) (ρ 18 0) (ρ 19 0) (ρ 20 0) (ρ 21 0) (ρ 22 0) (ρ 23 0)) sz)) 0 0 (va_A (w_Mod cI cZ dM dM0 dM1 dM2 dM3 dM4 dM5 dM6 dM7 dM8 dM9 dM10 dM11 dM12 dM13 (ρ 0) (ρ 1) (ρ 2) (ρ 3) (ρ 4) (ρ 5) (ρ 6) (ρ 7) (ρ 8) (ρ 9) (ρ 10) (ρ 11) (ρ 12) (ρ 13) (ρ 14 0) (ρ 15 0) (ρ 16 0) (ρ 17 0) (ρ 18 0) (ρ 19 0) (ρ 20 0) (ρ 21 0) (ρ 22 0) (ρ 23 0)) sz) := by
  refine Met.ofW (cc := prog_6_method_7_code) (maxL := 4) (ret := (some .boolean)) (by decide) rfl ?_
  intro p e s m args below meth c s₁ B hml hv
  obtain ⟨rfl, hsz, hT, hP, hK, hD0⟩ := hv
  have hx := B.exec
  have hb := B.bytes
  have hr := B.returns
  have hts : ∀ w ∈ lw_ok, w.before ([.ref dM, .int q1, .int q2] : List Value).toArray s = true := hT.use
  have hown : s.vm.findClass R_Mod = some m.cls := findClass_of_methodNamed B.named
  have hlocks := B.notSynchronized
  subst hsz
  have hD := hD0.self (sz := s.heap.size)
  generalize hAe : va_A (w_Mod cI cZ dM dM0 dM1 dM2 dM3 dM4 dM5 dM6 dM7 dM8 dM9 dM10 dM11 dM12 dM13 (ρ 0) (ρ 1) (ρ 2) (ρ 3) (ρ 4) (ρ 5) (ρ 6) (ρ 7) (ρ 8) (ρ 9) (ρ 10) (ρ 11) (ρ 12) (ρ 13) (ρ 14 0) (ρ 15 0) (ρ 16 0) (ρ 17 0) (ρ 18 0) (ρ 19 0) (ρ 20 0) (ρ 21 0) (ρ 22 0) (ρ 23 0)) s.heap.size = A at hD ⊢
  have hA : ∀ q : Nat, s.heap.size ≤ q → A q := fun q h => by rw [← hAe]; exact Or.inr h
  have hS : va_S A s.heap s.heap [] := va_S.rf
  have hl := lv_entry ([.ref dM, .int q1, .int q2]) (n := 4) (Nat.le_of_ble_eq_true rfl)
  rw [lg_entry_eq]
  generalize (lg_sl ([.ref dM, .int q1, .int q2]) ++ List.replicate (4 - (lg_sl ([.ref dM, .int q1, .int q2])).length) Slot.unset).toArray = ls at hl ⊢
  have hl : lv_has ls 4 [(0, .ref dM), (1, .int q1), (2, .int q2)] := hl
  refine lv_aload_n hx hb d_mBlock_0 rfl (lv_at hl 0 rfl) ?_
  refine lv_iconst (v := 0) hx hb d_mBlock_1 (by decide) ?_
  refine va_put (D := (dC, dI)) (ci := 4) (v := .int 0) (ty := .int) (C := R_Mod) (T := T_Mod) (N := 24) hx hb hts in_Mod ty_Mod tyok_Mod nm_Mod hown hK hP hD hS 0 rfl rfl 0 (by decide) (hts _ mw_340) (fun _ h9 => h9) rfl (by decide +kernel) rfl rfl (Nat.le_of_ble_eq_true rfl) d_mBlock_2 (fun H locs hP hD hS => ?_)
  have hP : va_P (dC, dI) vwCl (w_Mod cI cZ dM dM0 dM1 dM2 dM3 dM4 dM5 dM6 dM7 dM8 dM9 dM10 dM11 dM12 dM13 (ρ 0) (ρ 1) (ρ 2) (ρ 3) (ρ 4) (ρ 5) (ρ 6) (ρ 7) (ρ 8) (ρ 9) (ρ 10) (ρ 11) (ρ 12) (ρ 13) 0 (ρ 15 0) (ρ 16 0) (ρ 17 0) (ρ 18 0) (ρ 19 0) (ρ 20 0) (ρ 21 0) (ρ 22 0) (ρ 23 0)) H := hP
  have hD : va_D A (w_Mod cI cZ dM dM0 dM1 dM2 dM3 dM4 dM5 dM6 dM7 dM8 dM9 dM10 dM11 dM12 dM13 (ρ 0) (ρ 1) (ρ 2) (ρ 3) (ρ 4) (ρ 5) (ρ 6) (ρ 7) (ρ 8) (ρ 9) (ρ 10) (ρ 11) (ρ 12) (ρ 13) 0 (ρ 15 0) (ρ 16 0) (ρ 17 0) (ρ 18 0) (ρ 19 0) (ρ 20 0) (ρ 21 0) (ρ 22 0) (ρ 23 0)) := hD
  refine lv_iload_n hx hb d_mBlock_5 rfl (lv_at hl 1 rfl) ?_
  refine xc_S0 (As := [.int q1]) (rest := []) ⟨hx, hb, hml, hown, hts⟩ hT (c_mIsP l q1) ⟨xw_B 1 hts mw_419 mw_19 mw_417 rfl rfl (by decide +kernel) ⟨Nat.le_of_ble_eq_true rfl, Nat.le_of_ble_eq_true rfl⟩, hts _ mw_418⟩ rfl hl.1 rfl (Nat.le_of_ble_eq_true rfl) d_mBlock_6 ⟨Nat.zero_le _, Nat.zero_le _⟩ (fun r hw => ?_)
  subst hw
  refine lv_if_ne (tgt := 14) hx hb d_mBlock_9 (by decide) (fun c_1 => ?_) (fun c_1 => ?_)
  · refine lv_aload_n hx hb d_mBlock_14 rfl (lv_at hl 0 rfl) ?_
    refine lv_iload_n hx hb d_mBlock_15 rfl (lv_at hl 1 rfl) ?_
    refine xc_VR (As := [.int q1]) (rest := []) (ci := 4) ⟨hx, hb, hml, hown, hts⟩ hT hK hP (c_mIsB l dC dI cI cZ dM dM0 dM1 dM2 dM3 dM4 dM5 dM6 dM7 dM8 dM9 dM10 dM11 dM12 dM13 (ss ρ 14 (fun _ => 0)) q1 (by first | assumption | exact in_mIsP ‹_› | exact in_mIsI ‹_›)) [0, 1, 2, 3, 4, 5, 6, 7, 8, 9, 10, 11, 12, 13, 14] rfl (xw_V 1 hts mw_427 mw_19 mw_424 mw_426 mw_5 rfl rfl (by decide +kernel) ⟨Nat.le_of_ble_eq_true rfl, Nat.le_of_ble_eq_true rfl⟩) rfl rfl rfl hl.1 rfl (Nat.le_of_ble_eq_true rfl) d_mBlock_16 ⟨Nat.zero_le _, Nat.zero_le _⟩ (fun r hw => ?_)
    subst hw
    refine lv_istore_n (lv' := [(3, .int (F_mIsB (ss ρ 14 (fun _ => 0)) q1)), (0, .ref dM), (1, .int q1), (2, .int q2)]) hx hb d_mBlock_19 rfl hl (by decide) rfl (fun ls hl => ?_)
    refine lv_aload_n hx hb d_mBlock_20 rfl (lv_at hl 1 rfl) ?_
    refine va_get (D := (dC, dI)) (ci := 4) (v := .ref dM2) (C := R_Mod) (T := T_Mod) (N := 24) hx hb hts in_Mod hown hK hP 0 rfl rfl 4 (by decide) (hts _ mw_344) (fun _ h9 => h9) rfl d_mBlock_21 ?_
    refine lv_iload_n hx hb d_mBlock_24 rfl (lv_at hl 2 rfl) ?_
    refine lv_iload_n hx hb d_mBlock_25 rfl (lv_at hl 3 rfl) ?_
    refine va_zast (n := 40) (f := ρ 2) hx hb hK hP hD hS 3 1 rfl rfl (i := q1) (x := q2) (by first | assumption | exact in_mIsP ‹_› | exact in_mIsI ‹_›) d_mBlock_26 (fun H locs hP hD hS => ?_)
    have hP : va_P (dC, dI) vwCl (w_Mod cI cZ dM dM0 dM1 dM2 dM3 dM4 dM5 dM6 dM7 dM8 dM9 dM10 dM11 dM12 dM13 (ρ 0) (ρ 1) (upd (ρ 2) q1.toNatClampNeg (vp_nar .boolean q2)) (ρ 3) (ρ 4) (ρ 5) (ρ 6) (ρ 7) (ρ 8) (ρ 9) (ρ 10) (ρ 11) (ρ 12) (ρ 13) 0 (ρ 15 0) (ρ 16 0) (ρ 17 0) (ρ 18 0) (ρ 19 0) (ρ 20 0) (ρ 21 0) (ρ 22 0) (ρ 23 0)) H := hP
    have hD : va_D A (w_Mod cI cZ dM dM0 dM1 dM2 dM3 dM4 dM5 dM6 dM7 dM8 dM9 dM10 dM11 dM12 dM13 (ρ 0) (ρ 1) (upd (ρ 2) q1.toNatClampNeg (vp_nar .boolean q2)) (ρ 3) (ρ 4) (ρ 5) (ρ 6) (ρ 7) (ρ 8) (ρ 9) (ρ 10) (ρ 11) (ρ 12) (ρ 13) 0 (ρ 15 0) (ρ 16 0) (ρ 17 0) (ρ 18 0) (ρ 19 0) (ρ 20 0) (ρ 21 0) (ρ 22 0) (ρ 23 0)) := hD
    refine lv_aload_n hx hb d_mBlock_27 rfl (lv_at hl 1 rfl) ?_
    refine va_get (D := (dC, dI)) (ci := 4) (v := .ref dM3) (C := R_Mod) (T := T_Mod) (N := 24) hx hb hts in_Mod hown hK hP 0 rfl rfl 5 (by decide) (hts _ mw_345) (fun _ h9 => h9) rfl d_mBlock_28 ?_
    refine lv_iload_n hx hb d_mBlock_31 rfl (lv_at hl 2 rfl) ?_
    refine lv_iconst (v := 0) hx hb d_mBlock_32 (by decide) ?_
    refine va_zast (n := 40) (f := ρ 3) hx hb hK hP hD hS 4 1 rfl rfl (i := q1) (x := 0) (by first | assumption | exact in_mIsP ‹_› | exact in_mIsI ‹_›) d_mBlock_33 (fun H locs hP hD hS => ?_)
    have hP : va_P (dC, dI) vwCl (w_Mod cI cZ dM dM0 dM1 dM2 dM3 dM4 dM5 dM6 dM7 dM8 dM9 dM10 dM11 dM12 dM13 (ρ 0) (ρ 1) (upd (ρ 2) q1.toNatClampNeg (vp_nar .boolean q2)) (upd (ρ 3) q1.toNatClampNeg (vp_nar .boolean 0)) (ρ 4) (ρ 5) (ρ 6) (ρ 7) (ρ 8) (ρ 9) (ρ 10) (ρ 11) (ρ 12) (ρ 13) 0 (ρ 15 0) (ρ 16 0) (ρ 17 0) (ρ 18 0) (ρ 19 0) (ρ 20 0) (ρ 21 0) (ρ 22 0) (ρ 23 0)) H := hP
    have hD : va_D A (w_Mod cI cZ dM dM0 dM1 dM2 dM3 dM4 dM5 dM6 dM7 dM8 dM9 dM10 dM11 dM12 dM13 (ρ 0) (ρ 1) (upd (ρ 2) q1.toNatClampNeg (vp_nar .boolean q2)) (upd (ρ 3) q1.toNatClampNeg (vp_nar .boolean 0)) (ρ 4) (ρ 5) (ρ 6) (ρ 7) (ρ 8) (ρ 9) (ρ 10) (ρ 11) (ρ 12) (ρ 13) 0 (ρ 15 0) (ρ 16 0) (ρ 17 0) (ρ 18 0) (ρ 19 0) (ρ 20 0) (ρ 21 0) (ρ 22 0) (ρ 23 0)) := hD
    refine lv_aload_n hx hb d_mBlock_34 rfl (lv_at hl 1 rfl) ?_
    refine va_get (D := (dC, dI)) (ci := 4) (v := .ref dM4) (C := R_Mod) (T := T_Mod) (N := 24) hx hb hts in_Mod hown hK hP 0 rfl rfl 6 (by decide) (hts _ mw_346) (fun _ h9 => h9) rfl d_mBlock_35 ?_
    refine lv_iload_n hx hb d_mBlock_38 rfl (lv_at hl 2 rfl) ?_
    refine lv_iconst (v := 0) hx hb d_mBlock_39 (by decide) ?_
    refine va_iast (n := 40) (f := ρ 4) hx hb hK hP hD hS 5 0 rfl rfl (i := q1) (x := 0) (by first | assumption | exact in_mIsP ‹_› | exact in_mIsI ‹_›) d_mBlock_40 (fun H locs hP hD hS => ?_)
    have hP : va_P (dC, dI) vwCl (w_Mod cI cZ dM dM0 dM1 dM2 dM3 dM4 dM5 dM6 dM7 dM8 dM9 dM10 dM11 dM12 dM13 (ρ 0) (ρ 1) (upd (ρ 2) q1.toNatClampNeg (vp_nar .boolean q2)) (upd (ρ 3) q1.toNatClampNeg (vp_nar .boolean 0)) (upd (ρ 4) q1.toNatClampNeg 0) (ρ 5) (ρ 6) (ρ 7) (ρ 8) (ρ 9) (ρ 10) (ρ 11) (ρ 12) (ρ 13) 0 (ρ 15 0) (ρ 16 0) (ρ 17 0) (ρ 18 0) (ρ 19 0) (ρ 20 0) (ρ 21 0) (ρ 22 0) (ρ 23 0)) H := hP
    have hD : va_D A (w_Mod cI cZ dM dM0 dM1 dM2 dM3 dM4 dM5 dM6 dM7 dM8 dM9 dM10 dM11 dM12 dM13 (ρ 0) (ρ 1) (upd (ρ 2) q1.toNatClampNeg (vp_nar .boolean q2)) (upd (ρ 3) q1.toNatClampNeg (vp_nar .boolean 0)) (upd (ρ 4) q1.toNatClampNeg 0) (ρ 5) (ρ 6) (ρ 7) (ρ 8) (ρ 9) (ρ 10) (ρ 11) (ρ 12) (ρ 13) 0 (ρ 15 0) (ρ 16 0) (ρ 17 0) (ρ 18 0) (ρ 19 0) (ρ 20 0) (ρ 21 0) (ρ 22 0) (ρ 23 0)) := hD
    refine lv_iload_n hx hb d_mBlock_41 rfl (lv_at hl 0 rfl) ?_
    have hF : F_mBlock ρ q1 q2 = (F_mIsB (ss ρ 14 (fun _ => 0)) q1, (ss (ss (ss (ss ρ 2 (upd (ρ 2) q1.toNatClampNeg (vp_nar .boolean q2))) 3 (upd (ρ 3) q1.toNatClampNeg (vp_nar .boolean 0))) 4 (upd (ρ 4) q1.toNatClampNeg 0)) 14 (fun _ => 0))) := (if_neg c_1).trans rfl
    exact W.zret (ty := .boolean) (v := F_mIsB (ss ρ 14 (fun _ => 0)) q1) hx hb hr (by first | exact nz_b ‹_› | exact nz_b b01_mB) (fun t ht hW => ⟨⟨F_mIsB (ss ρ 14 (fun _ => 0)) q1, (ss (ss (ss (ss ρ 2 (upd (ρ 2) q1.toNatClampNeg (vp_nar .boolean q2))) 3 (upd (ρ 3) q1.toNatClampNeg (vp_nar .boolean 0))) 4 (upd (ρ 4) q1.toNatClampNeg 0)) 14 (fun _ => 0)), rfl, ⟨(congrArg Prod.fst hF).symm, (congrArg Prod.snd hF).symm⟩, by rw [ht]; exact hP, hD⟩, hS.F ht⟩) hS.2.2 d_mBlock_42
  · refine lv_iconst (v := 0) hx hb d_mBlock_12 (by decide) ?_
    have hF : F_mBlock ρ q1 q2 = (0, (ss ρ 14 (fun _ => 0))) := (if_pos c_1).trans rfl
    exact W.zret (ty := .boolean) (v := 0) hx hb hr (by decide) (fun t ht hW => ⟨⟨0, (ss ρ 14 (fun _ => 0)), rfl, ⟨(congrArg Prod.fst hF).symm, (congrArg Prod.snd hF).symm⟩, by rw [ht]; exact hP, hD⟩, hS.F ht⟩) hS.2.2 d_mBlock_13
def F_mReserve (ρ : SS) (q1 : Int32) (q2 : Int32) : Int32 × SS :=
  if (F_mIsI q1) = 0 then
    (0, (ss ρ 14 (fun _ => 0)))
  else
    if q2 = (-1) then
      (1, (ss (ss ρ 6 (upd (ρ 6) q1.toNatClampNeg q2)) 14 (fun _ => 0)))
    else
      if (F_mIsP q2) = 0 then
        (0, (ss ρ 14 (fun _ => 0)))
      else
        (1, (ss (ss ρ 6 (upd (ρ 6) q1.toNatClampNeg q2)) 14 (fun _ => 0)))
set_option maxHeartbeats 4000000 in
set_option maxRecDepth 100000 in
theorem c_mReserve (l : Launch) (dC : Nat → ClassId) (dI : Nat → Nat → Nat) (cI cZ : ClassId) (dM dM0 dM1 dM2 dM3 dM4 dM5 dM6 dM7 dM8 dM9 dM10 dM11 dM12 dM13 : Nat) (sz : Nat) (ρ : SS) (q1 : Int32) (q2 : Int32) : Met l y_mReserve [Cond.code y_mReserve prog_6_method_8_code 3 (some .int)] ({ frames := 1, cells := 0, slots := 0, locals := 20 }) (pcW (dC, dI) (w_Mod cI cZ dM dM0 dM1 dM2 dM3 dM4 dM5 dM6 dM7 dM8 dM9 dM10 dM11 dM12 dM13 (ρ 0) (ρ 1) (ρ 2) (ρ 3) (ρ 4) (ρ 5) (ρ 6) (ρ 7) (ρ 8) (ρ 9) (ρ 10) (ρ 11) (ρ 12) (ρ 13) (ρ 14 0) (ρ 15 0) (ρ 16 0) (ρ 17 0) (ρ 18 0) (ρ 19 0) (ρ 20 0) (ρ 21 0) (ρ 22 0) (ρ 23 0)) (tyC cI cZ) sz [.ref dM, .int q1, .int q2]) (qI (fun r u => r = (F_mReserve ρ q1 q2).1 ∧ u = (F_mReserve ρ q1 q2).2) (dC, dI) (fun u : SS => w_Mod cI cZ dM dM0 dM1 dM2 dM3 dM4 dM5 dM6 dM7 dM8 dM9 dM10 dM11 dM12 dM13 (u 0) (u 1) (u 2) (u 3) (u 4) (u 5) (u 6) (u 7) (u 8) (u 9) (u 10) (u 11) (u 12) (u 13) (u 14 0) (u 15 0) (u 16 0) (u 17 0) (u 18 0) (u 19 0) (u 20 0) (u 21 0) (u 22 0) (u 23 0)) (va_A (w_Mod cI cZ dM dM0 dM1 dM2 dM3 dM4 dM5 dM6 dM7 dM8 dM9 dM10 dM11 dM12 dM13 (ρ 0) (ρ 1) (ρ 2) (ρ 3) (ρ 4) (ρ 5) (ρ 6) (ρ 7) (ρ 8) (ρ 9) (ρ 10) (ρ 11) (ρ 12) (ρ 13) (ρ 14 0) (ρ 15 0) (ρ 16 0) (ρ 17 0) (ρ 18 0) (ρ 19 0) (ρ 20 0) (ρ 21 0) (ρ 22 0) (ρ 23 0)) sz)) 0 0 (va_A (w_Mod cI cZ dM dM0 dM1 dM2 dM3 dM4 dM5 dM6 dM7 dM8 dM9 dM10 dM11 dM12 dM13 (ρ 0) (ρ 1) (ρ 2) (ρ 3) (ρ 4) (ρ 5) (ρ 6) (ρ 7) (ρ 8) (ρ 9) (ρ 10) (ρ 11) (ρ 12) (ρ 13) (ρ 14 0) (ρ 15 0) (ρ 16 0) (ρ 17 0) (ρ 18 0) (ρ 19 0) (ρ 20 0) (ρ 21 0) (ρ 22 0) (ρ 23 0)) sz) := by
  refine Met.ofW (cc := prog_6_method_8_code) (maxL := 3) (ret := (some .int)) (by decide) rfl ?_
  intro p e s m args below meth c s₁ B hml hv
  obtain ⟨rfl, hsz, hT, hP, hK, hD0⟩ := hv
  have hx := B.exec
  have hb := B.bytes
  have hr := B.returns
  have hts : ∀ w ∈ lw_ok, w.before ([.ref dM, .int q1, .int q2] : List Value).toArray s = true := hT.use
  have hown : s.vm.findClass R_Mod = some m.cls := findClass_of_methodNamed B.named
  have hlocks := B.notSynchronized
  subst hsz
  have hD := hD0.self (sz := s.heap.size)
  generalize hAe : va_A (w_Mod cI cZ dM dM0 dM1 dM2 dM3 dM4 dM5 dM6 dM7 dM8 dM9 dM10 dM11 dM12 dM13 (ρ 0) (ρ 1) (ρ 2) (ρ 3) (ρ 4) (ρ 5) (ρ 6) (ρ 7) (ρ 8) (ρ 9) (ρ 10) (ρ 11) (ρ 12) (ρ 13) (ρ 14 0) (ρ 15 0) (ρ 16 0) (ρ 17 0) (ρ 18 0) (ρ 19 0) (ρ 20 0) (ρ 21 0) (ρ 22 0) (ρ 23 0)) s.heap.size = A at hD ⊢
  have hA : ∀ q : Nat, s.heap.size ≤ q → A q := fun q h => by rw [← hAe]; exact Or.inr h
  have hS : va_S A s.heap s.heap [] := va_S.rf
  have hl := lv_entry ([.ref dM, .int q1, .int q2]) (n := 3) (Nat.le_of_ble_eq_true rfl)
  rw [lg_entry_eq]
  generalize (lg_sl ([.ref dM, .int q1, .int q2]) ++ List.replicate (3 - (lg_sl ([.ref dM, .int q1, .int q2])).length) Slot.unset).toArray = ls at hl ⊢
  have hl : lv_has ls 3 [(0, .ref dM), (1, .int q1), (2, .int q2)] := hl
  refine lv_aload_n hx hb d_mReserve_0 rfl (lv_at hl 0 rfl) ?_
  refine lv_iconst (v := 0) hx hb d_mReserve_1 (by decide) ?_
  refine va_put (D := (dC, dI)) (ci := 4) (v := .int 0) (ty := .int) (C := R_Mod) (T := T_Mod) (N := 24) hx hb hts in_Mod ty_Mod tyok_Mod nm_Mod hown hK hP hD hS 0 rfl rfl 0 (by decide) (hts _ mw_340) (fun _ h9 => h9) rfl (by decide +kernel) rfl rfl (Nat.le_of_ble_eq_true rfl) d_mReserve_2 (fun H locs hP hD hS => ?_)
  have hP : va_P (dC, dI) vwCl (w_Mod cI cZ dM dM0 dM1 dM2 dM3 dM4 dM5 dM6 dM7 dM8 dM9 dM10 dM11 dM12 dM13 (ρ 0) (ρ 1) (ρ 2) (ρ 3) (ρ 4) (ρ 5) (ρ 6) (ρ 7) (ρ 8) (ρ 9) (ρ 10) (ρ 11) (ρ 12) (ρ 13) 0 (ρ 15 0) (ρ 16 0) (ρ 17 0) (ρ 18 0) (ρ 19 0) (ρ 20 0) (ρ 21 0) (ρ 22 0) (ρ 23 0)) H := hP
  have hD : va_D A (w_Mod cI cZ dM dM0 dM1 dM2 dM3 dM4 dM5 dM6 dM7 dM8 dM9 dM10 dM11 dM12 dM13 (ρ 0) (ρ 1) (ρ 2) (ρ 3) (ρ 4) (ρ 5) (ρ 6) (ρ 7) (ρ 8) (ρ 9) (ρ 10) (ρ 11) (ρ 12) (ρ 13) 0 (ρ 15 0) (ρ 16 0) (ρ 17 0) (ρ 18 0) (ρ 19 0) (ρ 20 0) (ρ 21 0) (ρ 22 0) (ρ 23 0)) := hD
  refine lv_iload_n hx hb d_mReserve_5 rfl (lv_at hl 1 rfl) ?_
  refine xc_S0 (As := [.int q1]) (rest := []) ⟨hx, hb, hml, hown, hts⟩ hT (c_mIsI l q1) ⟨xw_B 1 hts mw_434 mw_19 mw_432 rfl rfl (by decide +kernel) ⟨Nat.le_of_ble_eq_true rfl, Nat.le_of_ble_eq_true rfl⟩, hts _ mw_433⟩ rfl hl.1 rfl (Nat.le_of_ble_eq_true rfl) d_mReserve_6 ⟨Nat.zero_le _, Nat.zero_le _⟩ (fun r hw => ?_)
  subst hw
  refine lv_if_eq (tgt := 24) hx hb d_mReserve_9 (by decide) (fun c_1 => ?_) (fun c_1 => ?_)
  · refine lv_iconst (v := 0) hx hb d_mReserve_24 (by decide) ?_
    have hF : F_mReserve ρ q1 q2 = (0, (ss ρ 14 (fun _ => 0))) := (if_pos c_1).trans rfl
    exact W.iret (v := 0) hx hb hr (fun t ht hW => ⟨⟨0, (ss ρ 14 (fun _ => 0)), rfl, ⟨(congrArg Prod.fst hF).symm, (congrArg Prod.snd hF).symm⟩, by rw [ht]; exact hP, hD⟩, hS.F ht⟩) hS.2.2 d_mReserve_25
  · refine lv_iload_n hx hb d_mReserve_12 rfl (lv_at hl 2 rfl) ?_
    refine lv_iconst (v := -1) hx hb d_mReserve_13 (by decide) ?_
    refine lv_icmp_eq (tgt := 26) hx hb d_mReserve_14 (by decide) (fun c_2 => ?_) (fun c_2 => ?_)
    · refine lv_aload_n hx hb d_mReserve_26 rfl (lv_at hl 0 rfl) ?_
      refine va_get (D := (dC, dI)) (ci := 4) (v := .ref dM6) (C := R_Mod) (T := T_Mod) (N := 24) hx hb hts in_Mod hown hK hP 0 rfl rfl 8 (by decide) (hts _ mw_348) (fun _ h9 => h9) rfl d_mReserve_27 ?_
      refine lv_iload_n hx hb d_mReserve_30 rfl (lv_at hl 1 rfl) ?_
      refine lv_iload_n hx hb d_mReserve_31 rfl (lv_at hl 2 rfl) ?_
      refine va_iast (n := 60) (f := ρ 6) hx hb hK hP hD hS 7 0 rfl rfl (i := q1) (x := q2) (by first | assumption | exact in_mIsP ‹_› | exact in_mIsI ‹_›) d_mReserve_32 (fun H locs hP hD hS => ?_)
      have hP : va_P (dC, dI) vwCl (w_Mod cI cZ dM dM0 dM1 dM2 dM3 dM4 dM5 dM6 dM7 dM8 dM9 dM10 dM11 dM12 dM13 (ρ 0) (ρ 1) (ρ 2) (ρ 3) (ρ 4) (ρ 5) (upd (ρ 6) q1.toNatClampNeg q2) (ρ 7) (ρ 8) (ρ 9) (ρ 10) (ρ 11) (ρ 12) (ρ 13) 0 (ρ 15 0) (ρ 16 0) (ρ 17 0) (ρ 18 0) (ρ 19 0) (ρ 20 0) (ρ 21 0) (ρ 22 0) (ρ 23 0)) H := hP
      have hD : va_D A (w_Mod cI cZ dM dM0 dM1 dM2 dM3 dM4 dM5 dM6 dM7 dM8 dM9 dM10 dM11 dM12 dM13 (ρ 0) (ρ 1) (ρ 2) (ρ 3) (ρ 4) (ρ 5) (upd (ρ 6) q1.toNatClampNeg q2) (ρ 7) (ρ 8) (ρ 9) (ρ 10) (ρ 11) (ρ 12) (ρ 13) 0 (ρ 15 0) (ρ 16 0) (ρ 17 0) (ρ 18 0) (ρ 19 0) (ρ 20 0) (ρ 21 0) (ρ 22 0) (ρ 23 0)) := hD
      refine lv_iconst (v := 1) hx hb d_mReserve_33 (by decide) ?_
      have hF : F_mReserve ρ q1 q2 = (1, (ss (ss ρ 6 (upd (ρ 6) q1.toNatClampNeg q2)) 14 (fun _ => 0))) := (if_neg c_1).trans ((if_pos c_2).trans rfl)
      exact W.iret (v := 1) hx hb hr (fun t ht hW => ⟨⟨1, (ss (ss ρ 6 (upd (ρ 6) q1.toNatClampNeg q2)) 14 (fun _ => 0)), rfl, ⟨(congrArg Prod.fst hF).symm, (congrArg Prod.snd hF).symm⟩, by rw [ht]; exact hP, hD⟩, hS.F ht⟩) hS.2.2 d_mReserve_34
    · refine lv_iload_n hx hb d_mReserve_17 rfl (lv_at hl 2 rfl) ?_
      refine xc_S0 (As := [.int q2]) (rest := []) ⟨hx, hb, hml, hown, hts⟩ hT (c_mIsP l q2) ⟨xw_B 1 hts mw_419 mw_19 mw_417 rfl rfl (by decide +kernel) ⟨Nat.le_of_ble_eq_true rfl, Nat.le_of_ble_eq_true rfl⟩, hts _ mw_418⟩ rfl hl.1 rfl (Nat.le_of_ble_eq_true rfl) d_mReserve_18 ⟨Nat.zero_le _, Nat.zero_le _⟩ (fun r hw => ?_)
      subst hw
      refine lv_if_ne (tgt := 26) hx hb d_mReserve_21 (by decide) (fun c_3 => ?_) (fun c_3 => ?_)
      · refine lv_aload_n hx hb d_mReserve_26 rfl (lv_at hl 0 rfl) ?_
        refine va_get (D := (dC, dI)) (ci := 4) (v := .ref dM6) (C := R_Mod) (T := T_Mod) (N := 24) hx hb hts in_Mod hown hK hP 0 rfl rfl 8 (by decide) (hts _ mw_348) (fun _ h9 => h9) rfl d_mReserve_27 ?_
        refine lv_iload_n hx hb d_mReserve_30 rfl (lv_at hl 1 rfl) ?_
        refine lv_iload_n hx hb d_mReserve_31 rfl (lv_at hl 2 rfl) ?_
        refine va_iast (n := 60) (f := ρ 6) hx hb hK hP hD hS 7 0 rfl rfl (i := q1) (x := q2) (by first | assumption | exact in_mIsP ‹_› | exact in_mIsI ‹_›) d_mReserve_32 (fun H locs hP hD hS => ?_)
        have hP : va_P (dC, dI) vwCl (w_Mod cI cZ dM dM0 dM1 dM2 dM3 dM4 dM5 dM6 dM7 dM8 dM9 dM10 dM11 dM12 dM13 (ρ 0) (ρ 1) (ρ 2) (ρ 3) (ρ 4) (ρ 5) (upd (ρ 6) q1.toNatClampNeg q2) (ρ 7) (ρ 8) (ρ 9) (ρ 10) (ρ 11) (ρ 12) (ρ 13) 0 (ρ 15 0) (ρ 16 0) (ρ 17 0) (ρ 18 0) (ρ 19 0) (ρ 20 0) (ρ 21 0) (ρ 22 0) (ρ 23 0)) H := hP
        have hD : va_D A (w_Mod cI cZ dM dM0 dM1 dM2 dM3 dM4 dM5 dM6 dM7 dM8 dM9 dM10 dM11 dM12 dM13 (ρ 0) (ρ 1) (ρ 2) (ρ 3) (ρ 4) (ρ 5) (upd (ρ 6) q1.toNatClampNeg q2) (ρ 7) (ρ 8) (ρ 9) (ρ 10) (ρ 11) (ρ 12) (ρ 13) 0 (ρ 15 0) (ρ 16 0) (ρ 17 0) (ρ 18 0) (ρ 19 0) (ρ 20 0) (ρ 21 0) (ρ 22 0) (ρ 23 0)) := hD
        refine lv_iconst (v := 1) hx hb d_mReserve_33 (by decide) ?_
        have hF : F_mReserve ρ q1 q2 = (1, (ss (ss ρ 6 (upd (ρ 6) q1.toNatClampNeg q2)) 14 (fun _ => 0))) := (if_neg c_1).trans ((if_neg c_2).trans ((if_neg c_3).trans rfl))
        exact W.iret (v := 1) hx hb hr (fun t ht hW => ⟨⟨1, (ss (ss ρ 6 (upd (ρ 6) q1.toNatClampNeg q2)) 14 (fun _ => 0)), rfl, ⟨(congrArg Prod.fst hF).symm, (congrArg Prod.snd hF).symm⟩, by rw [ht]; exact hP, hD⟩, hS.F ht⟩) hS.2.2 d_mReserve_34
      · refine lv_iconst (v := 0) hx hb d_mReserve_24 (by decide) ?_
        have hF : F_mReserve ρ q1 q2 = (0, (ss ρ 14 (fun _ => 0))) := (if_neg c_1).trans ((if_neg c_2).trans ((if_pos c_3).trans rfl))
        exact W.iret (v := 0) hx hb hr (fun t ht hW => ⟨⟨0, (ss ρ 14 (fun _ => 0)), rfl, ⟨(congrArg Prod.fst hF).symm, (congrArg Prod.snd hF).symm⟩, by rw [ht]; exact hP, hD⟩, hS.F ht⟩) hS.2.2 d_mReserve_25
def F_mCard (ρ : SS) (q1 : Int32) : Int32 × SS :=
  if (F_mIsP q1) = 0 then
    (0, (ss ρ 14 (fun _ => 0)))
  else
    if (ρ 16 0) = 0 then
      if (ρ 18 0) = 0 then
        if (F_mIsB (ss ρ 14 (fun _ => 0)) q1) = 0 then
          (1, (ss (ss (ss ρ 14 (fun _ => 0)) 16 (fun _ => 1)) 17 (fun _ => q1)))
        else
          (-1, (ss ρ 14 (fun _ => 0)))
      else
        if (ρ 3 q1.toNatClampNeg) = 0 then
          (1, (ss (ss (ss ρ 14 (fun _ => 0)) 16 (fun _ => 1)) 17 (fun _ => q1)))
        else
          (-1, (ss ρ 14 (fun _ => 0)))
    else
      (0, (ss ρ 14 (fun _ => 0)))
set_option maxHeartbeats 4000000 in
set_option maxRecDepth 100000 in
theorem c_mCard (l : Launch) (dC : Nat → ClassId) (dI : Nat → Nat → Nat) (cI cZ : ClassId) (dM dM0 dM1 dM2 dM3 dM4 dM5 dM6 dM7 dM8 dM9 dM10 dM11 dM12 dM13 : Nat) (sz : Nat) (ρ : SS) (q1 : Int32) : Met l y_mCard [Cond.code y_mCard prog_6_method_9_code 2 (some .int)] ({ frames := 1, cells := 0, slots := 0, locals := 21 }) (pcW (dC, dI) (w_Mod cI cZ dM dM0 dM1 dM2 dM3 dM4 dM5 dM6 dM7 dM8 dM9 dM10 dM11 dM12 dM13 (ρ 0) (ρ 1) (ρ 2) (ρ 3) (ρ 4) (ρ 5) (ρ 6) (ρ 7) (ρ 8) (ρ 9) (ρ 10) (ρ 11) (ρ 12) (ρ 13) (ρ 14 0) (ρ 15 0) (ρ 16 0) (ρ 17 0) (ρ 18 0) (ρ 19 0) (ρ 20 0) (ρ 21 0) (ρ 22 0) (ρ 23 0)) (tyC cI cZ) sz [.ref dM, .int q1]) (qI (fun r u => r = (F_mCard ρ q1).1 ∧ u = (F_mCard ρ q1).2) (dC, dI) (fun u : SS => w_Mod cI cZ dM dM0 dM1 dM2 dM3 dM4 dM5 dM6 dM7 dM8 dM9 dM10 dM11 dM12 dM13 (u 0) (u 1) (u 2) (u 3) (u 4) (u 5) (u 6) (u 7) (u 8) (u 9) (u 10) (u 11) (u 12) (u 13) (u 14 0) (u 15 0) (u 16 0) (u 17 0) (u 18 0) (u 19 0) (u 20 0) (u 21 0) (u 22 0) (u 23 0)) (va_A (w_Mod cI cZ dM dM0 dM1 dM2 dM3 dM4 dM5 dM6 dM7 dM8 dM9 dM10 dM11 dM12 dM13 (ρ 0) (ρ 1) (ρ 2) (ρ 3) (ρ 4) (ρ 5) (ρ 6) (ρ 7) (ρ 8) (ρ 9) (ρ 10) (ρ 11) (ρ 12) (ρ 13) (ρ 14 0) (ρ 15 0) (ρ 16 0) (ρ 17 0) (ρ 18 0) (ρ 19 0) (ρ 20 0) (ρ 21 0) (ρ 22 0) (ρ 23 0)) sz)) 0 0 (va_A (w_Mod cI cZ dM dM0 dM1 dM2 dM3 dM4 dM5 dM6 dM7 dM8 dM9 dM10 dM11 dM12 dM13 (ρ 0) (ρ 1) (ρ 2) (ρ 3) (ρ 4) (ρ 5) (ρ 6) (ρ 7) (ρ 8) (ρ 9) (ρ 10) (ρ 11) (ρ 12) (ρ 13) (ρ 14 0) (ρ 15 0) (ρ 16 0) (ρ 17 0) (ρ 18 0) (ρ 19 0) (ρ 20 0) (ρ 21 0) (ρ 22 0) (ρ 23 0)) sz) := by
  refine Met.ofW (cc := prog_6_method_9_code) (maxL := 2) (ret := (some .int)) (by decide) rfl ?_
  intro p e s m args below meth c s₁ B hml hv
  obtain ⟨rfl, hsz, hT, hP, hK, hD0⟩ := hv
  have hx := B.exec
  have hb := B.bytes
  have hr := B.returns
  have hts : ∀ w ∈ lw_ok, w.before ([.ref dM, .int q1] : List Value).toArray s = true := hT.use
  have hown : s.vm.findClass R_Mod = some m.cls := findClass_of_methodNamed B.named
  have hlocks := B.notSynchronized
  subst hsz
  have hD := hD0.self (sz := s.heap.size)
  generalize hAe : va_A (w_Mod cI cZ dM dM0 dM1 dM2 dM3 dM4 dM5 dM6 dM7 dM8 dM9 dM10 dM11 dM12 dM13 (ρ 0) (ρ 1) (ρ 2) (ρ 3) (ρ 4) (ρ 5) (ρ 6) (ρ 7) (ρ 8) (ρ 9) (ρ 10) (ρ 11) (ρ 12) (ρ 13) (ρ 14 0) (ρ 15 0) (ρ 16 0) (ρ 17 0) (ρ 18 0) (ρ 19 0) (ρ 20 0) (ρ 21 0) (ρ 22 0) (ρ 23 0)) s.heap.size = A at hD ⊢
  have hA : ∀ q : Nat, s.heap.size ≤ q → A q := fun q h => by rw [← hAe]; exact Or.inr h
  have hS : va_S A s.heap s.heap [] := va_S.rf
  have hl := lv_entry ([.ref dM, .int q1]) (n := 2) (Nat.le_of_ble_eq_true rfl)
  rw [lg_entry_eq]
  generalize (lg_sl ([.ref dM, .int q1]) ++ List.replicate (2 - (lg_sl ([.ref dM, .int q1])).length) Slot.unset).toArray = ls at hl ⊢
  have hl : lv_has ls 2 [(0, .ref dM), (1, .int q1)] := hl
  refine lv_aload_n hx hb d_mCard_0 rfl (lv_at hl 0 rfl) ?_
  refine lv_iconst (v := 0) hx hb d_mCard_1 (by decide) ?_
  refine va_put (D := (dC, dI)) (ci := 4) (v := .int 0) (ty := .int) (C := R_Mod) (T := T_Mod) (N := 24) hx hb hts in_Mod ty_Mod tyok_Mod nm_Mod hown hK hP hD hS 0 rfl rfl 0 (by decide) (hts _ mw_340) (fun _ h9 => h9) rfl (by decide +kernel) rfl rfl (Nat.le_of_ble_eq_true rfl) d_mCard_2 (fun H locs hP hD hS => ?_)
  have hP : va_P (dC, dI) vwCl (w_Mod cI cZ dM dM0 dM1 dM2 dM3 dM4 dM5 dM6 dM7 dM8 dM9 dM10 dM11 dM12 dM13 (ρ 0) (ρ 1) (ρ 2) (ρ 3) (ρ 4) (ρ 5) (ρ 6) (ρ 7) (ρ 8) (ρ 9) (ρ 10) (ρ 11) (ρ 12) (ρ 13) 0 (ρ 15 0) (ρ 16 0) (ρ 17 0) (ρ 18 0) (ρ 19 0) (ρ 20 0) (ρ 21 0) (ρ 22 0) (ρ 23 0)) H := hP
  have hD : va_D A (w_Mod cI cZ dM dM0 dM1 dM2 dM3 dM4 dM5 dM6 dM7 dM8 dM9 dM10 dM11 dM12 dM13 (ρ 0) (ρ 1) (ρ 2) (ρ 3) (ρ 4) (ρ 5) (ρ 6) (ρ 7) (ρ 8) (ρ 9) (ρ 10) (ρ 11) (ρ 12) (ρ 13) 0 (ρ 15 0) (ρ 16 0) (ρ 17 0) (ρ 18 0) (ρ 19 0) (ρ 20 0) (ρ 21 0) (ρ 22 0) (ρ 23 0)) := hD
  refine lv_iload_n hx hb d_mCard_5 rfl (lv_at hl 1 rfl) ?_
  refine xc_S0 (As := [.int q1]) (rest := []) ⟨hx, hb, hml, hown, hts⟩ hT (c_mIsP l q1) ⟨xw_B 1 hts mw_419 mw_19 mw_417 rfl rfl (by decide +kernel) ⟨Nat.le_of_ble_eq_true rfl, Nat.le_of_ble_eq_true rfl⟩, hts _ mw_418⟩ rfl hl.1 rfl (Nat.le_of_ble_eq_true rfl) d_mCard_6 ⟨Nat.zero_le _, Nat.zero_le _⟩ (fun r hw => ?_)
  subst hw
  refine lv_if_eq (tgt := 19) hx hb d_mCard_9 (by decide) (fun c_1 => ?_) (fun c_1 => ?_)
  · refine lv_iconst (v := 0) hx hb d_mCard_19 (by decide) ?_
    have hF : F_mCard ρ q1 = (0, (ss ρ 14 (fun _ => 0))) := (if_pos c_1).trans rfl
    exact W.iret (v := 0) hx hb hr (fun t ht hW => ⟨⟨0, (ss ρ 14 (fun _ => 0)), rfl, ⟨(congrArg Prod.fst hF).symm, (congrArg Prod.snd hF).symm⟩, by rw [ht]; exact hP, hD⟩, hS.F ht⟩) hS.2.2 d_mCard_20
  · refine lv_aload_n hx hb d_mCard_12 rfl (lv_at hl 0 rfl) ?_
    refine va_get (D := (dC, dI)) (ci := 4) (v := .int (ρ 16 0)) (C := R_Mod) (T := T_Mod) (N := 24) hx hb hts in_Mod hown hK hP 0 rfl rfl 12 (by decide) (hts _ mw_352) (fun _ h9 => h9) rfl d_mCard_13 ?_
    refine lv_if_eq (tgt := 21) hx hb d_mCard_16 (by decide) (fun c_2 => ?_) (fun c_2 => ?_)
    · refine lv_aload_n hx hb d_mCard_21 rfl (lv_at hl 0 rfl) ?_
      refine va_get (D := (dC, dI)) (ci := 4) (v := .int (ρ 18 0)) (C := R_Mod) (T := T_Mod) (N := 24) hx hb hts in_Mod hown hK hP 0 rfl rfl 14 (by decide) (hts _ mw_354) (fun _ h9 => h9) rfl d_mCard_22 ?_
      refine lv_if_eq (tgt := 40) hx hb d_mCard_25 (by decide) (fun c_3 => ?_) (fun c_3 => ?_)
      · refine lv_aload_n hx hb d_mCard_40 rfl (lv_at hl 0 rfl) ?_
        refine lv_iload_n hx hb d_mCard_41 rfl (lv_at hl 1 rfl) ?_
        refine xc_VR (As := [.int q1]) (rest := []) (ci := 4) ⟨hx, hb, hml, hown, hts⟩ hT hK hP (c_mIsB l dC dI cI cZ dM dM0 dM1 dM2 dM3 dM4 dM5 dM6 dM7 dM8 dM9 dM10 dM11 dM12 dM13 (ss ρ 14 (fun _ => 0)) q1 (by first | assumption | exact in_mIsP ‹_› | exact in_mIsI ‹_›)) [0, 1, 2, 3, 4, 5, 6, 7, 8, 9, 10, 11, 12, 13, 14] rfl (xw_V 1 hts mw_427 mw_19 mw_424 mw_426 mw_5 rfl rfl (by decide +kernel) ⟨Nat.le_of_ble_eq_true rfl, Nat.le_of_ble_eq_true rfl⟩) rfl rfl rfl hl.1 rfl (Nat.le_of_ble_eq_true rfl) d_mCard_42 ⟨Nat.zero_le _, Nat.zero_le _⟩ (fun r hw => ?_)
        subst hw
        refine lv_if_eq (tgt := 50) hx hb d_mCard_45 (by decide) (fun c_4 => ?_) (fun c_4 => ?_)
        · refine lv_aload_n hx hb d_mCard_50 rfl (lv_at hl 0 rfl) ?_
          refine lv_iconst (v := 1) hx hb d_mCard_51 (by decide) ?_
          refine va_put (D := (dC, dI)) (ci := 4) (v := .int 1) (ty := .int) (C := R_Mod) (T := T_Mod) (N := 24) hx hb hts in_Mod ty_Mod tyok_Mod nm_Mod hown hK hP hD hS 0 rfl rfl 12 (by decide) (hts _ mw_352) (fun _ h9 => h9) rfl (by decide +kernel) rfl rfl (Nat.le_of_ble_eq_true rfl) d_mCard_52 (fun H locs hP hD hS => ?_)
          have hP : va_P (dC, dI) vwCl (w_Mod cI cZ dM dM0 dM1 dM2 dM3 dM4 dM5 dM6 dM7 dM8 dM9 dM10 dM11 dM12 dM13 (ρ 0) (ρ 1) (ρ 2) (ρ 3) (ρ 4) (ρ 5) (ρ 6) (ρ 7) (ρ 8) (ρ 9) (ρ 10) (ρ 11) (ρ 12) (ρ 13) 0 (ρ 15 0) 1 (ρ 17 0) (ρ 18 0) (ρ 19 0) (ρ 20 0) (ρ 21 0) (ρ 22 0) (ρ 23 0)) H := hP
          have hD : va_D A (w_Mod cI cZ dM dM0 dM1 dM2 dM3 dM4 dM5 dM6 dM7 dM8 dM9 dM10 dM11 dM12 dM13 (ρ 0) (ρ 1) (ρ 2) (ρ 3) (ρ 4) (ρ 5) (ρ 6) (ρ 7) (ρ 8) (ρ 9) (ρ 10) (ρ 11) (ρ 12) (ρ 13) 0 (ρ 15 0) 1 (ρ 17 0) (ρ 18 0) (ρ 19 0) (ρ 20 0) (ρ 21 0) (ρ 22 0) (ρ 23 0)) := hD
          refine lv_aload_n hx hb d_mCard_55 rfl (lv_at hl 0 rfl) ?_
          refine lv_iload_n hx hb d_mCard_56 rfl (lv_at hl 1 rfl) ?_
          refine va_put (D := (dC, dI)) (ci := 4) (v := .int q1) (ty := .int) (C := R_Mod) (T := T_Mod) (N := 24) hx hb hts in_Mod ty_Mod tyok_Mod nm_Mod hown hK hP hD hS 0 rfl rfl 13 (by decide) (hts _ mw_353) (fun _ h9 => h9) rfl (by decide +kernel) rfl rfl (Nat.le_of_ble_eq_true rfl) d_mCard_57 (fun H locs hP hD hS => ?_)
          have hP : va_P (dC, dI) vwCl (w_Mod cI cZ dM dM0 dM1 dM2 dM3 dM4 dM5 dM6 dM7 dM8 dM9 dM10 dM11 dM12 dM13 (ρ 0) (ρ 1) (ρ 2) (ρ 3) (ρ 4) (ρ 5) (ρ 6) (ρ 7) (ρ 8) (ρ 9) (ρ 10) (ρ 11) (ρ 12) (ρ 13) 0 (ρ 15 0) 1 q1 (ρ 18 0) (ρ 19 0) (ρ 20 0) (ρ 21 0) (ρ 22 0) (ρ 23 0)) H := hP
          have hD : va_D A (w_Mod cI cZ dM dM0 dM1 dM2 dM3 dM4 dM5 dM6 dM7 dM8 dM9 dM10 dM11 dM12 dM13 (ρ 0) (ρ 1) (ρ 2) (ρ 3) (ρ 4) (ρ 5) (ρ 6) (ρ 7) (ρ 8) (ρ 9) (ρ 10) (ρ 11) (ρ 12) (ρ 13) 0 (ρ 15 0) 1 q1 (ρ 18 0) (ρ 19 0) (ρ 20 0) (ρ 21 0) (ρ 22 0) (ρ 23 0)) := hD
          refine lv_iconst (v := 1) hx hb d_mCard_60 (by decide) ?_
          have hF : F_mCard ρ q1 = (1, (ss (ss (ss ρ 14 (fun _ => 0)) 16 (fun _ => 1)) 17 (fun _ => q1))) := (if_neg c_1).trans ((if_pos c_2).trans ((if_pos c_3).trans ((if_pos c_4).trans rfl)))
          exact W.iret (v := 1) hx hb hr (fun t ht hW => ⟨⟨1, (ss (ss (ss ρ 14 (fun _ => 0)) 16 (fun _ => 1)) 17 (fun _ => q1)), rfl, ⟨(congrArg Prod.fst hF).symm, (congrArg Prod.snd hF).symm⟩, by rw [ht]; exact hP, hD⟩, hS.F ht⟩) hS.2.2 d_mCard_61
        · refine lv_iconst (v := -1) hx hb d_mCard_48 (by decide) ?_
          have hF : F_mCard ρ q1 = (-1, (ss ρ 14 (fun _ => 0))) := (if_neg c_1).trans ((if_pos c_2).trans ((if_pos c_3).trans ((if_neg c_4).trans rfl)))
          exact W.iret (v := -1) hx hb hr (fun t ht hW => ⟨⟨-1, (ss ρ 14 (fun _ => 0)), rfl, ⟨(congrArg Prod.fst hF).symm, (congrArg Prod.snd hF).symm⟩, by rw [ht]; exact hP, hD⟩, hS.F ht⟩) hS.2.2 d_mCard_49
      · refine lv_aload_n hx hb d_mCard_28 rfl (lv_at hl 0 rfl) ?_
        refine va_get (D := (dC, dI)) (ci := 4) (v := .ref dM3) (C := R_Mod) (T := T_Mod) (N := 24) hx hb hts in_Mod hown hK hP 0 rfl rfl 5 (by decide) (hts _ mw_345) (fun _ h9 => h9) rfl d_mCard_29 ?_
        refine lv_iload_n hx hb d_mCard_32 rfl (lv_at hl 1 rfl) ?_
        refine va_zald (n := 40) (f := ρ 3) hx hb hK hP 4 1 rfl rfl (i := q1) (by first | assumption | exact in_mIsP ‹_› | exact in_mIsI ‹_›) d_mCard_33 ?_
        refine lv_if_eq (tgt := 50) hx hb d_mCard_34 (by decide) (fun c_5 => ?_) (fun c_5 => ?_)
        · refine lv_aload_n hx hb d_mCard_50 rfl (lv_at hl 0 rfl) ?_
          refine lv_iconst (v := 1) hx hb d_mCard_51 (by decide) ?_
          refine va_put (D := (dC, dI)) (ci := 4) (v := .int 1) (ty := .int) (C := R_Mod) (T := T_Mod) (N := 24) hx hb hts in_Mod ty_Mod tyok_Mod nm_Mod hown hK hP hD hS 0 rfl rfl 12 (by decide) (hts _ mw_352) (fun _ h9 => h9) rfl (by decide +kernel) rfl rfl (Nat.le_of_ble_eq_true rfl) d_mCard_52 (fun H locs hP hD hS => ?_)
          have hP : va_P (dC, dI) vwCl (w_Mod cI cZ dM dM0 dM1 dM2 dM3 dM4 dM5 dM6 dM7 dM8 dM9 dM10 dM11 dM12 dM13 (ρ 0) (ρ 1) (ρ 2) (ρ 3) (ρ 4) (ρ 5) (ρ 6) (ρ 7) (ρ 8) (ρ 9) (ρ 10) (ρ 11) (ρ 12) (ρ 13) 0 (ρ 15 0) 1 (ρ 17 0) (ρ 18 0) (ρ 19 0) (ρ 20 0) (ρ 21 0) (ρ 22 0) (ρ 23 0)) H := hP
          have hD : va_D A (w_Mod cI cZ dM dM0 dM1 dM2 dM3 dM4 dM5 dM6 dM7 dM8 dM9 dM10 dM11 dM12 dM13 (ρ 0) (ρ 1) (ρ 2) (ρ 3) (ρ 4) (ρ 5) (ρ 6) (ρ 7) (ρ 8) (ρ 9) (ρ 10) (ρ 11) (ρ 12) (ρ 13) 0 (ρ 15 0) 1 (ρ 17 0) (ρ 18 0) (ρ 19 0) (ρ 20 0) (ρ 21 0) (ρ 22 0) (ρ 23 0)) := hD
          refine lv_aload_n hx hb d_mCard_55 rfl (lv_at hl 0 rfl) ?_
          refine lv_iload_n hx hb d_mCard_56 rfl (lv_at hl 1 rfl) ?_
          refine va_put (D := (dC, dI)) (ci := 4) (v := .int q1) (ty := .int) (C := R_Mod) (T := T_Mod) (N := 24) hx hb hts in_Mod ty_Mod tyok_Mod nm_Mod hown hK hP hD hS 0 rfl rfl 13 (by decide) (hts _ mw_353) (fun _ h9 => h9) rfl (by decide +kernel) rfl rfl (Nat.le_of_ble_eq_true rfl) d_mCard_57 (fun H locs hP hD hS => ?_)
          have hP : va_P (dC, dI) vwCl (w_Mod cI cZ dM dM0 dM1 dM2 dM3 dM4 dM5 dM6 dM7 dM8 dM9 dM10 dM11 dM12 dM13 (ρ 0) (ρ 1) (ρ 2) (ρ 3) (ρ 4) (ρ 5) (ρ 6) (ρ 7) (ρ 8) (ρ 9) (ρ 10) (ρ 11) (ρ 12) (ρ 13) 0 (ρ 15 0) 1 q1 (ρ 18 0) (ρ 19 0) (ρ 20 0) (ρ 21 0) (ρ 22 0) (ρ 23 0)) H := hP
          have hD : va_D A (w_Mod cI cZ dM dM0 dM1 dM2 dM3 dM4 dM5 dM6 dM7 dM8 dM9 dM10 dM11 dM12 dM13 (ρ 0) (ρ 1) (ρ 2) (ρ 3) (ρ 4) (ρ 5) (ρ 6) (ρ 7) (ρ 8) (ρ 9) (ρ 10) (ρ 11) (ρ 12) (ρ 13) 0 (ρ 15 0) 1 q1 (ρ 18 0) (ρ 19 0) (ρ 20 0) (ρ 21 0) (ρ 22 0) (ρ 23 0)) := hD
          refine lv_iconst (v := 1) hx hb d_mCard_60 (by decide) ?_
          have hF : F_mCard ρ q1 = (1, (ss (ss (ss ρ 14 (fun _ => 0)) 16 (fun _ => 1)) 17 (fun _ => q1))) := (if_neg c_1).trans ((if_pos c_2).trans ((if_neg c_3).trans ((if_pos c_5).trans rfl)))
          exact W.iret (v := 1) hx hb hr (fun t ht hW => ⟨⟨1, (ss (ss (ss ρ 14 (fun _ => 0)) 16 (fun _ => 1)) 17 (fun _ => q1)), rfl, ⟨(congrArg Prod.fst hF).symm, (congrArg Prod.snd hF).symm⟩, by rw [ht]; exact hP, hD⟩, hS.F ht⟩) hS.2.2 d_mCard_61
        · refine lv_goto (tgt := 48) hx hb d_mCard_37 (by decide) ?_
          refine lv_iconst (v := -1) hx hb d_mCard_48 (by decide) ?_
          have hF : F_mCard ρ q1 = (-1, (ss ρ 14 (fun _ => 0))) := (if_neg c_1).trans ((if_pos c_2).trans ((if_neg c_3).trans ((if_neg c_5).trans rfl)))
          exact W.iret (v := -1) hx hb hr (fun t ht hW => ⟨⟨-1, (ss ρ 14 (fun _ => 0)), rfl, ⟨(congrArg Prod.fst hF).symm, (congrArg Prod.snd hF).symm⟩, by rw [ht]; exact hP, hD⟩, hS.F ht⟩) hS.2.2 d_mCard_49
    · refine lv_iconst (v := 0) hx hb d_mCard_19 (by decide) ?_
      have hF : F_mCard ρ q1 = (0, (ss ρ 14 (fun _ => 0))) := (if_neg c_1).trans ((if_neg c_2).trans rfl)
      exact W.iret (v := 0) hx hb hr (fun t ht hW => ⟨⟨0, (ss ρ 14 (fun _ => 0)), rfl, ⟨(congrArg Prod.fst hF).symm, (congrArg Prod.snd hF).symm⟩, by rw [ht]; exact hP, hD⟩, hS.F ht⟩) hS.2.2 d_mCard_20
def F_mCode (ρ : SS) (q1 : Int32) : Int32 × SS :=
  if (ρ 16 0) = 1 then
    if q1 = (ρ 0 (ρ 17 0).toNatClampNeg) then
      (1, (ss (ss (ss (ss (ss ρ 4 (upd (ρ 4) (ρ 17 0).toNatClampNeg 0)) 14 (fun _ => 0)) 16 (fun _ => 2)) 19 (fun _ => 0)) 20 (fun _ => -1)))
    else
      if ((upd (ρ 4) (ρ 17 0).toNatClampNeg ((ρ 4 (ρ 17 0).toNatClampNeg) + 1)) (ρ 17 0).toNatClampNeg) = 3 then
        (-1, (ss (ss (ss (ss ρ 3 (upd (ρ 3) (ρ 17 0).toNatClampNeg (vp_nar .boolean 1))) 4 (upd (ρ 4) (ρ 17 0).toNatClampNeg ((ρ 4 (ρ 17 0).toNatClampNeg) + 1))) 14 (fun _ => 0)) 16 (fun _ => 0)))
      else
        (0, (ss (ss (ss ρ 4 (upd (ρ 4) (ρ 17 0).toNatClampNeg ((ρ 4 (ρ 17 0).toNatClampNeg) + 1))) 14 (fun _ => 0)) 16 (fun _ => 0)))
  else
    (-2, (ss ρ 14 (fun _ => 0)))
set_option maxHeartbeats 4000000 in
set_option maxRecDepth 100000 in
theorem c_mCode (l : Launch) (dC : Nat → ClassId) (dI : Nat → Nat → Nat) (cI cZ : ClassId) (dM dM0 dM1 dM2 dM3 dM4 dM5 dM6 dM7 dM8 dM9 dM10 dM11 dM12 dM13 : Nat) (sz : Nat) (ρ : SS) (q1 : Int32) (hM : MInv ρ) : Met l y_mCode [Cond.code y_mCode prog_6_method_10_code 2 (some .int)] ({ frames := 0, cells := 0, slots := 0, locals := 0 }) (pcW (dC, dI) (w_Mod cI cZ dM dM0 dM1 dM2 dM3 dM4 dM5 dM6 dM7 dM8 dM9 dM10 dM11 dM12 dM13 (ρ 0) (ρ 1) (ρ 2) (ρ 3) (ρ 4) (ρ 5) (ρ 6) (ρ 7) (ρ 8) (ρ 9) (ρ 10) (ρ 11) (ρ 12) (ρ 13) (ρ 14 0) (ρ 15 0) (ρ 16 0) (ρ 17 0) (ρ 18 0) (ρ 19 0) (ρ 20 0) (ρ 21 0) (ρ 22 0) (ρ 23 0)) (tyC cI cZ) sz [.ref dM, .int q1]) (qI (fun r u => r = (F_mCode ρ q1).1 ∧ u = (F_mCode ρ q1).2) (dC, dI) (fun u : SS => w_Mod cI cZ dM dM0 dM1 dM2 dM3 dM4 dM5 dM6 dM7 dM8 dM9 dM10 dM11 dM12 dM13 (u 0) (u 1) (u 2) (u 3) (u 4) (u 5) (u 6) (u 7) (u 8) (u 9) (u 10) (u 11) (u 12) (u 13) (u 14 0) (u 15 0) (u 16 0) (u 17 0) (u 18 0) (u 19 0) (u 20 0) (u 21 0) (u 22 0) (u 23 0)) (va_A (w_Mod cI cZ dM dM0 dM1 dM2 dM3 dM4 dM5 dM6 dM7 dM8 dM9 dM10 dM11 dM12 dM13 (ρ 0) (ρ 1) (ρ 2) (ρ 3) (ρ 4) (ρ 5) (ρ 6) (ρ 7) (ρ 8) (ρ 9) (ρ 10) (ρ 11) (ρ 12) (ρ 13) (ρ 14 0) (ρ 15 0) (ρ 16 0) (ρ 17 0) (ρ 18 0) (ρ 19 0) (ρ 20 0) (ρ 21 0) (ρ 22 0) (ρ 23 0)) sz)) 0 0 (va_A (w_Mod cI cZ dM dM0 dM1 dM2 dM3 dM4 dM5 dM6 dM7 dM8 dM9 dM10 dM11 dM12 dM13 (ρ 0) (ρ 1) (ρ 2) (ρ 3) (ρ 4) (ρ 5) (ρ 6) (ρ 7) (ρ 8) (ρ 9) (ρ 10) (ρ 11) (ρ 12) (ρ 13) (ρ 14 0) (ρ 15 0) (ρ 16 0) (ρ 17 0) (ρ 18 0) (ρ 19 0) (ρ 20 0) (ρ 21 0) (ρ 22 0) (ρ 23 0)) sz) := by
  refine Met.ofW (cc := prog_6_method_10_code) (maxL := 2) (ret := (some .int)) (by decide) rfl ?_
  intro p e s m args below meth c s₁ B hml hv
  obtain ⟨rfl, hsz, hT, hP, hK, hD0⟩ := hv
  have hx := B.exec
  have hb := B.bytes
  have hr := B.returns
  have hts : ∀ w ∈ lw_ok, w.before ([.ref dM, .int q1] : List Value).toArray s = true := hT.use
  have hown : s.vm.findClass R_Mod = some m.cls := findClass_of_methodNamed B.named
  have hlocks := B.notSynchronized
  subst hsz
  have hD := hD0.self (sz := s.heap.size)
  generalize hAe : va_A (w_Mod cI cZ dM dM0 dM1 dM2 dM3 dM4 dM5 dM6 dM7 dM8 dM9 dM10 dM11 dM12 dM13 (ρ 0) (ρ 1) (ρ 2) (ρ 3) (ρ 4) (ρ 5) (ρ 6) (ρ 7) (ρ 8) (ρ 9) (ρ 10) (ρ 11) (ρ 12) (ρ 13) (ρ 14 0) (ρ 15 0) (ρ 16 0) (ρ 17 0) (ρ 18 0) (ρ 19 0) (ρ 20 0) (ρ 21 0) (ρ 22 0) (ρ 23 0)) s.heap.size = A at hD ⊢
  have hA : ∀ q : Nat, s.heap.size ≤ q → A q := fun q h => by rw [← hAe]; exact Or.inr h
  have hS : va_S A s.heap s.heap [] := va_S.rf
  have hl := lv_entry ([.ref dM, .int q1]) (n := 2) (Nat.le_of_ble_eq_true rfl)
  rw [lg_entry_eq]
  generalize (lg_sl ([.ref dM, .int q1]) ++ List.replicate (2 - (lg_sl ([.ref dM, .int q1])).length) Slot.unset).toArray = ls at hl ⊢
  have hl : lv_has ls 2 [(0, .ref dM), (1, .int q1)] := hl
  obtain ⟨mo, hmo, emo, hof, hre, hlo, hlk, ⟨kc, hkm, ek, hrow, hlend⟩, ⟨xc, hxm, ex⟩, hpe, hsc, ⟨lc, hlm, el, hrec⟩⟩ := id hM
  refine lv_aload_n hx hb d_mCode_0 rfl (lv_at hl 0 rfl) ?_
  refine lv_iconst (v := 0) hx hb d_mCode_1 (by decide) ?_
  refine va_put (D := (dC, dI)) (ci := 4) (v := .int 0) (ty := .int) (C := R_Mod) (T := T_Mod) (N := 24) hx hb hts in_Mod ty_Mod tyok_Mod nm_Mod hown hK hP hD hS 0 rfl rfl 0 (by decide) (hts _ mw_340) (fun _ h9 => h9) rfl (by decide +kernel) rfl rfl (Nat.le_of_ble_eq_true rfl) d_mCode_2 (fun H locs hP hD hS => ?_)
  have hP : va_P (dC, dI) vwCl (w_Mod cI cZ dM dM0 dM1 dM2 dM3 dM4 dM5 dM6 dM7 dM8 dM9 dM10 dM11 dM12 dM13 (ρ 0) (ρ 1) (ρ 2) (ρ 3) (ρ 4) (ρ 5) (ρ 6) (ρ 7) (ρ 8) (ρ 9) (ρ 10) (ρ 11) (ρ 12) (ρ 13) 0 (ρ 15 0) (ρ 16 0) (ρ 17 0) (ρ 18 0) (ρ 19 0) (ρ 20 0) (ρ 21 0) (ρ 22 0) (ρ 23 0)) H := hP
  have hD : va_D A (w_Mod cI cZ dM dM0 dM1 dM2 dM3 dM4 dM5 dM6 dM7 dM8 dM9 dM10 dM11 dM12 dM13 (ρ 0) (ρ 1) (ρ 2) (ρ 3) (ρ 4) (ρ 5) (ρ 6) (ρ 7) (ρ 8) (ρ 9) (ρ 10) (ρ 11) (ρ 12) (ρ 13) 0 (ρ 15 0) (ρ 16 0) (ρ 17 0) (ρ 18 0) (ρ 19 0) (ρ 20 0) (ρ 21 0) (ρ 22 0) (ρ 23 0)) := hD
  refine lv_aload_n hx hb d_mCode_5 rfl (lv_at hl 0 rfl) ?_
  refine va_get (D := (dC, dI)) (ci := 4) (v := .int (ρ 16 0)) (C := R_Mod) (T := T_Mod) (N := 24) hx hb hts in_Mod hown hK hP 0 rfl rfl 12 (by decide) (hts _ mw_352) (fun _ h9 => h9) rfl d_mCode_6 ?_
  refine lv_iconst (v := 1) hx hb d_mCode_9 (by decide) ?_
  refine lv_icmp_eq (tgt := 16) hx hb d_mCode_10 (by decide) (fun c_1 => ?_) (fun c_1 => ?_)
  · refine lv_iload_n hx hb d_mCode_16 rfl (lv_at hl 1 rfl) ?_
    refine lv_aload_n hx hb d_mCode_17 rfl (lv_at hl 0 rfl) ?_
    refine va_get (D := (dC, dI)) (ci := 4) (v := .ref dM0) (C := R_Mod) (T := T_Mod) (N := 24) hx hb hts in_Mod hown hK hP 0 rfl rfl 2 (by decide) (hts _ mw_342) (fun _ h9 => h9) rfl d_mCode_18 ?_
    refine lv_aload_n hx hb d_mCode_21 rfl (lv_at hl 0 rfl) ?_
    refine va_get (D := (dC, dI)) (ci := 4) (v := .int (ρ 17 0)) (C := R_Mod) (T := T_Mod) (N := 24) hx hb hts in_Mod hown hK hP 0 rfl rfl 13 (by decide) (hts _ mw_353) (fun _ h9 => h9) rfl d_mCode_22 ?_
    refine va_iald (n := 40) (f := ρ 0) hx hb hK hP 1 0 rfl rfl (i := ρ 17 0) (by first | assumption | exact in_mIsP ‹_› | exact in_mIsI ‹_›) d_mCode_25 ?_
    refine lv_icmp_ne (tgt := 56) hx hb d_mCode_26 (by decide) (fun c_2 => ?_) (fun c_2 => ?_)
    · refine lv_aload_n hx hb d_mCode_56 rfl (lv_at hl 0 rfl) ?_
      refine lv_iconst (v := 0) hx hb d_mCode_57 (by decide) ?_
      refine va_put (D := (dC, dI)) (ci := 4) (v := .int 0) (ty := .int) (C := R_Mod) (T := T_Mod) (N := 24) hx hb hts in_Mod ty_Mod tyok_Mod nm_Mod hown hK hP hD hS 0 rfl rfl 12 (by decide) (hts _ mw_352) (fun _ h9 => h9) rfl (by decide +kernel) rfl rfl (Nat.le_of_ble_eq_true rfl) d_mCode_58 (fun H locs hP hD hS => ?_)
      have hP : va_P (dC, dI) vwCl (w_Mod cI cZ dM dM0 dM1 dM2 dM3 dM4 dM5 dM6 dM7 dM8 dM9 dM10 dM11 dM12 dM13 (ρ 0) (ρ 1) (ρ 2) (ρ 3) (ρ 4) (ρ 5) (ρ 6) (ρ 7) (ρ 8) (ρ 9) (ρ 10) (ρ 11) (ρ 12) (ρ 13) 0 (ρ 15 0) 0 (ρ 17 0) (ρ 18 0) (ρ 19 0) (ρ 20 0) (ρ 21 0) (ρ 22 0) (ρ 23 0)) H := hP
      have hD : va_D A (w_Mod cI cZ dM dM0 dM1 dM2 dM3 dM4 dM5 dM6 dM7 dM8 dM9 dM10 dM11 dM12 dM13 (ρ 0) (ρ 1) (ρ 2) (ρ 3) (ρ 4) (ρ 5) (ρ 6) (ρ 7) (ρ 8) (ρ 9) (ρ 10) (ρ 11) (ρ 12) (ρ 13) 0 (ρ 15 0) 0 (ρ 17 0) (ρ 18 0) (ρ 19 0) (ρ 20 0) (ρ 21 0) (ρ 22 0) (ρ 23 0)) := hD
      refine lv_aload_n hx hb d_mCode_61 rfl (lv_at hl 0 rfl) ?_
      refine va_get (D := (dC, dI)) (ci := 4) (v := .ref dM4) (C := R_Mod) (T := T_Mod) (N := 24) hx hb hts in_Mod hown hK hP 0 rfl rfl 6 (by decide) (hts _ mw_346) (fun _ h9 => h9) rfl d_mCode_62 ?_
      refine lv_aload_n hx hb d_mCode_65 rfl (lv_at hl 0 rfl) ?_
      refine va_get (D := (dC, dI)) (ci := 4) (v := .int (ρ 17 0)) (C := R_Mod) (T := T_Mod) (N := 24) hx hb hts in_Mod hown hK hP 0 rfl rfl 13 (by decide) (hts _ mw_353) (fun _ h9 => h9) rfl d_mCode_66 ?_
      refine lv_dup2_11 hx hb d_mCode_69 rfl rfl ?_
      refine va_iald (n := 40) (f := ρ 4) hx hb hK hP 5 0 rfl rfl (i := ρ 17 0) (by first | assumption | exact in_mIsP ‹_› | exact in_mIsI ‹_›) d_mCode_70 ?_
      refine lv_iconst (v := 1) hx hb d_mCode_71 (by decide) ?_
      refine lv_iadd hx hb d_mCode_72 ?_
      refine va_iast (n := 40) (f := ρ 4) hx hb hK hP hD hS 5 0 rfl rfl (i := ρ 17 0) (x := (ρ 4 (ρ 17 0).toNatClampNeg) + 1) (by first | assumption | exact in_mIsP ‹_› | exact in_mIsI ‹_›) d_mCode_73 (fun H locs hP hD hS => ?_)
      have hP : va_P (dC, dI) vwCl (w_Mod cI cZ dM dM0 dM1 dM2 dM3 dM4 dM5 dM6 dM7 dM8 dM9 dM10 dM11 dM12 dM13 (ρ 0) (ρ 1) (ρ 2) (ρ 3) (upd (ρ 4) (ρ 17 0).toNatClampNeg ((ρ 4 (ρ 17 0).toNatClampNeg) + 1)) (ρ 5) (ρ 6) (ρ 7) (ρ 8) (ρ 9) (ρ 10) (ρ 11) (ρ 12) (ρ 13) 0 (ρ 15 0) 0 (ρ 17 0) (ρ 18 0) (ρ 19 0) (ρ 20 0) (ρ 21 0) (ρ 22 0) (ρ 23 0)) H := hP
      have hD : va_D A (w_Mod cI cZ dM dM0 dM1 dM2 dM3 dM4 dM5 dM6 dM7 dM8 dM9 dM10 dM11 dM12 dM13 (ρ 0) (ρ 1) (ρ 2) (ρ 3) (upd (ρ 4) (ρ 17 0).toNatClampNeg ((ρ 4 (ρ 17 0).toNatClampNeg) + 1)) (ρ 5) (ρ 6) (ρ 7) (ρ 8) (ρ 9) (ρ 10) (ρ 11) (ρ 12) (ρ 13) 0 (ρ 15 0) 0 (ρ 17 0) (ρ 18 0) (ρ 19 0) (ρ 20 0) (ρ 21 0) (ρ 22 0) (ρ 23 0)) := hD
      refine lv_aload_n hx hb d_mCode_74 rfl (lv_at hl 0 rfl) ?_
      refine va_get (D := (dC, dI)) (ci := 4) (v := .ref dM4) (C := R_Mod) (T := T_Mod) (N := 24) hx hb hts in_Mod hown hK hP 0 rfl rfl 6 (by decide) (hts _ mw_346) (fun _ h9 => h9) rfl d_mCode_75 ?_
      refine lv_aload_n hx hb d_mCode_78 rfl (lv_at hl 0 rfl) ?_
      refine va_get (D := (dC, dI)) (ci := 4) (v := .int (ρ 17 0)) (C := R_Mod) (T := T_Mod) (N := 24) hx hb hts in_Mod hown hK hP 0 rfl rfl 13 (by decide) (hts _ mw_353) (fun _ h9 => h9) rfl d_mCode_79 ?_
      refine va_iald (n := 40) (f := upd (ρ 4) (ρ 17 0).toNatClampNeg ((ρ 4 (ρ 17 0).toNatClampNeg) + 1)) hx hb hK hP 5 0 rfl rfl (i := ρ 17 0) (by first | assumption | exact in_mIsP ‹_› | exact in_mIsI ‹_›) d_mCode_82 ?_
      refine lv_iconst (v := 3) hx hb d_mCode_83 (by decide) ?_
      refine lv_icmp_ne (tgt := 99) hx hb d_mCode_84 (by decide) (fun c_3 => ?_) (fun c_3 => ?_)
      · refine lv_iconst (v := 0) hx hb d_mCode_99 (by decide) ?_
        have hF : F_mCode ρ q1 = (0, (ss (ss (ss ρ 4 (upd (ρ 4) (ρ 17 0).toNatClampNeg ((ρ 4 (ρ 17 0).toNatClampNeg) + 1))) 14 (fun _ => 0)) 16 (fun _ => 0))) := (if_pos c_1).trans ((if_neg c_2).trans ((if_neg c_3).trans rfl))
        exact W.iret (v := 0) hx hb hr (fun t ht hW => ⟨⟨0, (ss (ss (ss ρ 4 (upd (ρ 4) (ρ 17 0).toNatClampNeg ((ρ 4 (ρ 17 0).toNatClampNeg) + 1))) 14 (fun _ => 0)) 16 (fun _ => 0)), rfl, ⟨(congrArg Prod.fst hF).symm, (congrArg Prod.snd hF).symm⟩, by rw [ht]; exact hP, hD⟩, hS.F ht⟩) hS.2.2 d_mCode_100
      · refine lv_aload_n hx hb d_mCode_87 rfl (lv_at hl 0 rfl) ?_
        refine va_get (D := (dC, dI)) (ci := 4) (v := .ref dM3) (C := R_Mod) (T := T_Mod) (N := 24) hx hb hts in_Mod hown hK hP 0 rfl rfl 5 (by decide) (hts _ mw_345) (fun _ h9 => h9) rfl d_mCode_88 ?_
        refine lv_aload_n hx hb d_mCode_91 rfl (lv_at hl 0 rfl) ?_
        refine va_get (D := (dC, dI)) (ci := 4) (v := .int (ρ 17 0)) (C := R_Mod) (T := T_Mod) (N := 24) hx hb hts in_Mod hown hK hP 0 rfl rfl 13 (by decide) (hts _ mw_353) (fun _ h9 => h9) rfl d_mCode_92 ?_
        refine lv_iconst (v := 1) hx hb d_mCode_95 (by decide) ?_
        refine va_zast (n := 40) (f := ρ 3) hx hb hK hP hD hS 4 1 rfl rfl (i := ρ 17 0) (x := 1) (by first | assumption | exact in_mIsP ‹_› | exact in_mIsI ‹_›) d_mCode_96 (fun H locs hP hD hS => ?_)
        have hP : va_P (dC, dI) vwCl (w_Mod cI cZ dM dM0 dM1 dM2 dM3 dM4 dM5 dM6 dM7 dM8 dM9 dM10 dM11 dM12 dM13 (ρ 0) (ρ 1) (ρ 2) (upd (ρ 3) (ρ 17 0).toNatClampNeg (vp_nar .boolean 1)) (upd (ρ 4) (ρ 17 0).toNatClampNeg ((ρ 4 (ρ 17 0).toNatClampNeg) + 1)) (ρ 5) (ρ 6) (ρ 7) (ρ 8) (ρ 9) (ρ 10) (ρ 11) (ρ 12) (ρ 13) 0 (ρ 15 0) 0 (ρ 17 0) (ρ 18 0) (ρ 19 0) (ρ 20 0) (ρ 21 0) (ρ 22 0) (ρ 23 0)) H := hP
        have hD : va_D A (w_Mod cI cZ dM dM0 dM1 dM2 dM3 dM4 dM5 dM6 dM7 dM8 dM9 dM10 dM11 dM12 dM13 (ρ 0) (ρ 1) (ρ 2) (upd (ρ 3) (ρ 17 0).toNatClampNeg (vp_nar .boolean 1)) (upd (ρ 4) (ρ 17 0).toNatClampNeg ((ρ 4 (ρ 17 0).toNatClampNeg) + 1)) (ρ 5) (ρ 6) (ρ 7) (ρ 8) (ρ 9) (ρ 10) (ρ 11) (ρ 12) (ρ 13) 0 (ρ 15 0) 0 (ρ 17 0) (ρ 18 0) (ρ 19 0) (ρ 20 0) (ρ 21 0) (ρ 22 0) (ρ 23 0)) := hD
        refine lv_iconst (v := -1) hx hb d_mCode_97 (by decide) ?_
        have hF : F_mCode ρ q1 = (-1, (ss (ss (ss (ss ρ 3 (upd (ρ 3) (ρ 17 0).toNatClampNeg (vp_nar .boolean 1))) 4 (upd (ρ 4) (ρ 17 0).toNatClampNeg ((ρ 4 (ρ 17 0).toNatClampNeg) + 1))) 14 (fun _ => 0)) 16 (fun _ => 0))) := (if_pos c_1).trans ((if_neg c_2).trans ((if_pos c_3).trans rfl))
        exact W.iret (v := -1) hx hb hr (fun t ht hW => ⟨⟨-1, (ss (ss (ss (ss ρ 3 (upd (ρ 3) (ρ 17 0).toNatClampNeg (vp_nar .boolean 1))) 4 (upd (ρ 4) (ρ 17 0).toNatClampNeg ((ρ 4 (ρ 17 0).toNatClampNeg) + 1))) 14 (fun _ => 0)) 16 (fun _ => 0)), rfl, ⟨(congrArg Prod.fst hF).symm, (congrArg Prod.snd hF).symm⟩, by rw [ht]; exact hP, hD⟩, hS.F ht⟩) hS.2.2 d_mCode_98
    · refine lv_aload_n hx hb d_mCode_29 rfl (lv_at hl 0 rfl) ?_
      refine va_get (D := (dC, dI)) (ci := 4) (v := .ref dM4) (C := R_Mod) (T := T_Mod) (N := 24) hx hb hts in_Mod hown hK hP 0 rfl rfl 6 (by decide) (hts _ mw_346) (fun _ h9 => h9) rfl d_mCode_30 ?_
      refine lv_aload_n hx hb d_mCode_33 rfl (lv_at hl 0 rfl) ?_
      refine va_get (D := (dC, dI)) (ci := 4) (v := .int (ρ 17 0)) (C := R_Mod) (T := T_Mod) (N := 24) hx hb hts in_Mod hown hK hP 0 rfl rfl 13 (by decide) (hts _ mw_353) (fun _ h9 => h9) rfl d_mCode_34 ?_
      refine lv_iconst (v := 0) hx hb d_mCode_37 (by decide) ?_
      refine va_iast (n := 40) (f := ρ 4) hx hb hK hP hD hS 5 0 rfl rfl (i := ρ 17 0) (x := 0) (by first | assumption | exact in_mIsP ‹_› | exact in_mIsI ‹_›) d_mCode_38 (fun H locs hP hD hS => ?_)
      have hP : va_P (dC, dI) vwCl (w_Mod cI cZ dM dM0 dM1 dM2 dM3 dM4 dM5 dM6 dM7 dM8 dM9 dM10 dM11 dM12 dM13 (ρ 0) (ρ 1) (ρ 2) (ρ 3) (upd (ρ 4) (ρ 17 0).toNatClampNeg 0) (ρ 5) (ρ 6) (ρ 7) (ρ 8) (ρ 9) (ρ 10) (ρ 11) (ρ 12) (ρ 13) 0 (ρ 15 0) (ρ 16 0) (ρ 17 0) (ρ 18 0) (ρ 19 0) (ρ 20 0) (ρ 21 0) (ρ 22 0) (ρ 23 0)) H := hP
      have hD : va_D A (w_Mod cI cZ dM dM0 dM1 dM2 dM3 dM4 dM5 dM6 dM7 dM8 dM9 dM10 dM11 dM12 dM13 (ρ 0) (ρ 1) (ρ 2) (ρ 3) (upd (ρ 4) (ρ 17 0).toNatClampNeg 0) (ρ 5) (ρ 6) (ρ 7) (ρ 8) (ρ 9) (ρ 10) (ρ 11) (ρ 12) (ρ 13) 0 (ρ 15 0) (ρ 16 0) (ρ 17 0) (ρ 18 0) (ρ 19 0) (ρ 20 0) (ρ 21 0) (ρ 22 0) (ρ 23 0)) := hD
      refine lv_aload_n hx hb d_mCode_39 rfl (lv_at hl 0 rfl) ?_
      refine lv_iconst (v := 2) hx hb d_mCode_40 (by decide) ?_
      refine va_put (D := (dC, dI)) (ci := 4) (v := .int 2) (ty := .int) (C := R_Mod) (T := T_Mod) (N := 24) hx hb hts in_Mod ty_Mod tyok_Mod nm_Mod hown hK hP hD hS 0 rfl rfl 12 (by decide) (hts _ mw_352) (fun _ h9 => h9) rfl (by decide +kernel) rfl rfl (Nat.le_of_ble_eq_true rfl) d_mCode_41 (fun H locs hP hD hS => ?_)
      have hP : va_P (dC, dI) vwCl (w_Mod cI cZ dM dM0 dM1 dM2 dM3 dM4 dM5 dM6 dM7 dM8 dM9 dM10 dM11 dM12 dM13 (ρ 0) (ρ 1) (ρ 2) (ρ 3) (upd (ρ 4) (ρ 17 0).toNatClampNeg 0) (ρ 5) (ρ 6) (ρ 7) (ρ 8) (ρ 9) (ρ 10) (ρ 11) (ρ 12) (ρ 13) 0 (ρ 15 0) 2 (ρ 17 0) (ρ 18 0) (ρ 19 0) (ρ 20 0) (ρ 21 0) (ρ 22 0) (ρ 23 0)) H := hP
      have hD : va_D A (w_Mod cI cZ dM dM0 dM1 dM2 dM3 dM4 dM5 dM6 dM7 dM8 dM9 dM10 dM11 dM12 dM13 (ρ 0) (ρ 1) (ρ 2) (ρ 3) (upd (ρ 4) (ρ 17 0).toNatClampNeg 0) (ρ 5) (ρ 6) (ρ 7) (ρ 8) (ρ 9) (ρ 10) (ρ 11) (ρ 12) (ρ 13) 0 (ρ 15 0) 2 (ρ 17 0) (ρ 18 0) (ρ 19 0) (ρ 20 0) (ρ 21 0) (ρ 22 0) (ρ 23 0)) := hD
      refine lv_aload_n hx hb d_mCode_44 rfl (lv_at hl 0 rfl) ?_
      refine lv_iconst (v := 0) hx hb d_mCode_45 (by decide) ?_
      refine va_put (D := (dC, dI)) (ci := 4) (v := .int 0) (ty := .int) (C := R_Mod) (T := T_Mod) (N := 24) hx hb hts in_Mod ty_Mod tyok_Mod nm_Mod hown hK hP hD hS 0 rfl rfl 16 (by decide) (hts _ mw_356) (fun _ h9 => h9) rfl (by decide +kernel) rfl rfl (Nat.le_of_ble_eq_true rfl) d_mCode_46 (fun H locs hP hD hS => ?_)
      have hP : va_P (dC, dI) vwCl (w_Mod cI cZ dM dM0 dM1 dM2 dM3 dM4 dM5 dM6 dM7 dM8 dM9 dM10 dM11 dM12 dM13 (ρ 0) (ρ 1) (ρ 2) (ρ 3) (upd (ρ 4) (ρ 17 0).toNatClampNeg 0) (ρ 5) (ρ 6) (ρ 7) (ρ 8) (ρ 9) (ρ 10) (ρ 11) (ρ 12) (ρ 13) 0 (ρ 15 0) 2 (ρ 17 0) (ρ 18 0) 0 (ρ 20 0) (ρ 21 0) (ρ 22 0) (ρ 23 0)) H := hP
      have hD : va_D A (w_Mod cI cZ dM dM0 dM1 dM2 dM3 dM4 dM5 dM6 dM7 dM8 dM9 dM10 dM11 dM12 dM13 (ρ 0) (ρ 1) (ρ 2) (ρ 3) (upd (ρ 4) (ρ 17 0).toNatClampNeg 0) (ρ 5) (ρ 6) (ρ 7) (ρ 8) (ρ 9) (ρ 10) (ρ 11) (ρ 12) (ρ 13) 0 (ρ 15 0) 2 (ρ 17 0) (ρ 18 0) 0 (ρ 20 0) (ρ 21 0) (ρ 22 0) (ρ 23 0)) := hD
      refine lv_aload_n hx hb d_mCode_49 rfl (lv_at hl 0 rfl) ?_
      refine lv_iconst (v := -1) hx hb d_mCode_50 (by decide) ?_
      refine va_put (D := (dC, dI)) (ci := 4) (v := .int (-1)) (ty := .int) (C := R_Mod) (T := T_Mod) (N := 24) hx hb hts in_Mod ty_Mod tyok_Mod nm_Mod hown hK hP hD hS 0 rfl rfl 17 (by decide) (hts _ mw_357) (fun _ h9 => h9) rfl (by decide +kernel) rfl rfl (Nat.le_of_ble_eq_true rfl) d_mCode_51 (fun H locs hP hD hS => ?_)
      have hP : va_P (dC, dI) vwCl (w_Mod cI cZ dM dM0 dM1 dM2 dM3 dM4 dM5 dM6 dM7 dM8 dM9 dM10 dM11 dM12 dM13 (ρ 0) (ρ 1) (ρ 2) (ρ 3) (upd (ρ 4) (ρ 17 0).toNatClampNeg 0) (ρ 5) (ρ 6) (ρ 7) (ρ 8) (ρ 9) (ρ 10) (ρ 11) (ρ 12) (ρ 13) 0 (ρ 15 0) 2 (ρ 17 0) (ρ 18 0) 0 (-1) (ρ 21 0) (ρ 22 0) (ρ 23 0)) H := hP
      have hD : va_D A (w_Mod cI cZ dM dM0 dM1 dM2 dM3 dM4 dM5 dM6 dM7 dM8 dM9 dM10 dM11 dM12 dM13 (ρ 0) (ρ 1) (ρ 2) (ρ 3) (upd (ρ 4) (ρ 17 0).toNatClampNeg 0) (ρ 5) (ρ 6) (ρ 7) (ρ 8) (ρ 9) (ρ 10) (ρ 11) (ρ 12) (ρ 13) 0 (ρ 15 0) 2 (ρ 17 0) (ρ 18 0) 0 (-1) (ρ 21 0) (ρ 22 0) (ρ 23 0)) := hD
      refine lv_iconst (v := 1) hx hb d_mCode_54 (by decide) ?_
      have hF : F_mCode ρ q1 = (1, (ss (ss (ss (ss (ss ρ 4 (upd (ρ 4) (ρ 17 0).toNatClampNeg 0)) 14 (fun _ => 0)) 16 (fun _ => 2)) 19 (fun _ => 0)) 20 (fun _ => -1))) := (if_pos c_1).trans ((if_pos c_2).trans rfl)
      exact W.iret (v := 1) hx hb hr (fun t ht hW => ⟨⟨1, (ss (ss (ss (ss (ss ρ 4 (upd (ρ 4) (ρ 17 0).toNatClampNeg 0)) 14 (fun _ => 0)) 16 (fun _ => 2)) 19 (fun _ => 0)) 20 (fun _ => -1)), rfl, ⟨(congrArg Prod.fst hF).symm, (congrArg Prod.snd hF).symm⟩, by rw [ht]; exact hP, hD⟩, hS.F ht⟩) hS.2.2 d_mCode_55
  · refine lv_bipush (v := -2) hx hb d_mCode_13 (by decide) ?_
    have hF : F_mCode ρ q1 = (-2, (ss ρ 14 (fun _ => 0))) := (if_neg c_1).trans rfl
    exact W.iret (v := -2) hx hb hr (fun t ht hW => ⟨⟨-2, (ss ρ 14 (fun _ => 0)), rfl, ⟨(congrArg Prod.fst hF).symm, (congrArg Prod.snd hF).symm⟩, by rw [ht]; exact hP, hD⟩, hS.F ht⟩) hS.2.2 d_mCode_15
