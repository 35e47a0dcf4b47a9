def F_mAg (ρ : SS) (q1 : Int32) (q2 : Int32) : Int32 :=
  if (ρ 5 q1.toNatClampNeg) = (-1) then
    if (ρ 6 q1.toNatClampNeg) = (-1) then
      if (F_mIsB ρ q2) = 0 then
        if (F_mHas ρ q2) < 10 then
          0
        else
          -5
      else
        -4
    else
      if (ρ 6 q1.toNatClampNeg) = q2 then
        if (F_mIsB ρ q2) = 0 then
          if (F_mHas ρ q2) < 10 then
            0
          else
            -5
        else
          -4
      else
        -3
  else
    -2
set_option maxHeartbeats 4000000 in
set_option maxRecDepth 100000 in
theorem c_mAg (l : Launch) (dC : Nat → ClassId) (dI : Nat → Nat → Nat) (cI cZ : ClassId) (dM dM0 dM1 dM2 dM3 dM4 dM5 dM6 dM7 dM8 dM9 dM10 dM11 dM12 dM13 : Nat) (ρ : SS) (q1 : Int32) (q2 : Int32) (hi : vp_in q1 60) (hp : vp_in q2 40) : Met l y_mAg [Cond.code y_mAg prog_6_method_15_code 3 (some .int)] ({ frames := 1, cells := 0, slots := 0, locals := 23 }) (pcR (dC, dI) (w_Mod cI cZ dM dM0 dM1 dM2 dM3 dM4 dM5 dM6 dM7 dM8 dM9 dM10 dM11 dM12 dM13 (ρ 0) (ρ 1) (ρ 2) (ρ 3) (ρ 4) (ρ 5) (ρ 6) (ρ 7) (ρ 8) (ρ 9) (ρ 10) (ρ 11) (ρ 12) (ρ 13) (ρ 14 0) (ρ 15 0) (ρ 16 0) (ρ 17 0) (ρ 18 0) (ρ 19 0) (ρ 20 0) (ρ 21 0) (ρ 22 0) (ρ 23 0)) (tyC cI cZ) [.ref dM, .int q1, .int q2]) (vp_Si (fun r => r = F_mAg ρ q1 q2)) 0 0 (fun _ => False) := by
  refine Met.ofW (cc := prog_6_method_15_code) (maxL := 3) (ret := (some .int)) (by decide) rfl ?_
  intro p e s m args below meth c s₁ B hml hv
  obtain ⟨rfl, hT, hP, hK⟩ := hv
  have hx := B.exec
  have hb := B.bytes
  have hr := B.returns
  have hts : ∀ w ∈ lw_ok, w.before ([.ref dM, .int q1, .int q2] : List Value).toArray s = true := hT.use
  have hown : s.vm.findClass R_Mod = some m.cls := findClass_of_methodNamed B.named
  have hlocks := B.notSynchronized
  have hl := lv_entry ([.ref dM, .int q1, .int q2]) (n := 3) (Nat.le_of_ble_eq_true rfl)
  rw [lg_entry_eq]
  generalize (lg_sl ([.ref dM, .int q1, .int q2]) ++ List.replicate (3 - (lg_sl ([.ref dM, .int q1, .int q2])).length) Slot.unset).toArray = ls at hl ⊢
  have hl : lv_has ls 3 [(0, .ref dM), (1, .int q1), (2, .int q2)] := hl
  refine lv_aload_n hx hb d_mAg_0 rfl (lv_at hl 0 rfl) ?_
  refine va_get (D := (dC, dI)) (ci := 4) (v := .ref dM5) (C := R_Mod) (T := T_Mod) (N := 24) hx hb hts in_Mod hown hK hP 0 rfl rfl 7 (by decide) (hts _ mw_347) (fun _ h9 => h9) rfl d_mAg_1 ?_
  refine lv_iload_n hx hb d_mAg_4 rfl (lv_at hl 1 rfl) ?_
  refine va_iald (n := 60) (f := ρ 5) hx hb hK hP 6 0 rfl rfl (i := q1) (by first | assumption) d_mAg_5 ?_
  refine lv_iconst (v := -1) hx hb d_mAg_6 (by decide) ?_
  refine lv_icmp_eq (tgt := 13) hx hb d_mAg_7 (by decide) (fun c_1 => ?_) (fun c_1 => ?_)
  · refine lv_aload_n hx hb d_mAg_13 rfl (lv_at hl 0 rfl) ?_
    refine va_get (D := (dC, dI)) (ci := 4) (v := .ref dM6) (C := R_Mod) (T := T_Mod) (N := 24) hx hb hts in_Mod hown hK hP 0 rfl rfl 8 (by decide) (hts _ mw_348) (fun _ h9 => h9) rfl d_mAg_14 ?_
    refine lv_iload_n hx hb d_mAg_17 rfl (lv_at hl 1 rfl) ?_
    refine va_iald (n := 60) (f := ρ 6) hx hb hK hP 7 0 rfl rfl (i := q1) (by first | assumption) d_mAg_18 ?_
    refine lv_iconst (v := -1) hx hb d_mAg_19 (by decide) ?_
    refine lv_icmp_eq (tgt := 36) hx hb d_mAg_20 (by decide) (fun c_2 => ?_) (fun c_2 => ?_)
    · refine lv_aload_n hx hb d_mAg_36 rfl (lv_at hl 0 rfl) ?_
      refine lv_iload_n hx hb d_mAg_37 rfl (lv_at hl 2 rfl) ?_
      refine xc_VR (As := [.int q2]) (rest := []) (ci := 4) ⟨hx, hb, hml, hown, hts⟩ hT hK hP (c_mIsB l dC dI cI cZ dM dM0 dM1 dM2 dM3 dM4 dM5 dM6 dM7 dM8 dM9 dM10 dM11 dM12 dM13 ρ q2 (by first | assumption)) [0, 1, 2, 3, 4, 5, 6, 7, 8, 9, 10, 11, 12, 13, 14] rfl (xw_V 1 hts mw_427 mw_19 mw_424 mw_426 mw_5 rfl rfl (by decide +kernel) ⟨Nat.le_of_ble_eq_true rfl, Nat.le_of_ble_eq_true rfl⟩) rfl rfl rfl hl.1 rfl (Nat.le_of_ble_eq_true rfl) d_mAg_38 ⟨Nat.zero_le _, Nat.zero_le _⟩ (fun r hw => ?_)
      subst hw
      refine lv_if_eq (tgt := 49) hx hb d_mAg_41 (by decide) (fun c_3 => ?_) (fun c_3 => ?_)
      · refine lv_aload_n hx hb d_mAg_49 rfl (lv_at hl 0 rfl) ?_
        refine lv_iload_n hx hb d_mAg_50 rfl (lv_at hl 2 rfl) ?_
        refine xc_VR (As := [.int q2]) (rest := []) (ci := 4) ⟨hx, hb, hml, hown, hts⟩ hT hK hP (c_mHas l dC dI cI cZ dM dM0 dM1 dM2 dM3 dM4 dM5 dM6 dM7 dM8 dM9 dM10 dM11 dM12 dM13 ρ q2) [0, 1, 2, 3, 4, 5, 6, 7, 8, 9, 10, 11, 12, 13, 14] rfl (xw_V 1 hts mw_462 mw_19 mw_459 mw_461 mw_7 rfl rfl (by decide +kernel) ⟨Nat.le_of_ble_eq_true rfl, Nat.le_of_ble_eq_true rfl⟩) rfl rfl rfl hl.1 rfl (Nat.le_of_ble_eq_true rfl) d_mAg_51 ⟨Nat.zero_le _, Nat.zero_le _⟩ (fun r hw => ?_)
        subst hw
        refine lv_bipush (v := 10) hx hb d_mAg_54 (by decide) ?_
        refine lv_icmp_lt (tgt := 64) hx hb d_mAg_56 (by decide) (fun c_4 => ?_) (fun c_4 => ?_)
        · refine lv_iconst (v := 0) hx hb d_mAg_64 (by decide) ?_
          have hF : F_mAg ρ q1 q2 = 0 := (if_pos c_1).trans ((if_pos c_2).trans ((if_pos c_3).trans ((if_pos c_4).trans rfl)))
          exact W.iret (v := 0) hx hb hr (fun t ht hW => ⟨0, rfl, hF.symm, ht⟩) (fun _ h => absurd h List.not_mem_nil) d_mAg_65
        · refine lv_bipush (v := -5) hx hb d_mAg_59 (by decide) ?_
          refine lv_goto (tgt := 65) hx hb d_mAg_61 (by decide) ?_
          have hF : F_mAg ρ q1 q2 = -5 := (if_pos c_1).trans ((if_pos c_2).trans ((if_pos c_3).trans ((if_neg c_4).trans rfl)))
          exact W.iret (v := -5) hx hb hr (fun t ht hW => ⟨-5, rfl, hF.symm, ht⟩) (fun _ h => absurd h List.not_mem_nil) d_mAg_65
      · refine lv_bipush (v := -4) hx hb d_mAg_44 (by decide) ?_
        refine lv_goto (tgt := 65) hx hb d_mAg_46 (by decide) ?_
        have hF : F_mAg ρ q1 q2 = -4 := (if_pos c_1).trans ((if_pos c_2).trans ((if_neg c_3).trans rfl))
        exact W.iret (v := -4) hx hb hr (fun t ht hW => ⟨-4, rfl, hF.symm, ht⟩) (fun _ h => absurd h List.not_mem_nil) d_mAg_65
    · refine lv_aload_n hx hb d_mAg_23 rfl (lv_at hl 0 rfl) ?_
      refine va_get (D := (dC, dI)) (ci := 4) (v := .ref dM6) (C := R_Mod) (T := T_Mod) (N := 24) hx hb hts in_Mod hown hK hP 0 rfl rfl 8 (by decide) (hts _ mw_348) (fun _ h9 => h9) rfl d_mAg_24 ?_
      refine lv_iload_n hx hb d_mAg_27 rfl (lv_at hl 1 rfl) ?_
      refine va_iald (n := 60) (f := ρ 6) hx hb hK hP 7 0 rfl rfl (i := q1) (by first | assumption) d_mAg_28 ?_
      refine lv_iload_n hx hb d_mAg_29 rfl (lv_at hl 2 rfl) ?_
      refine lv_icmp_eq (tgt := 36) hx hb d_mAg_30 (by decide) (fun c_5 => ?_) (fun c_5 => ?_)
      · refine lv_aload_n hx hb d_mAg_36 rfl (lv_at hl 0 rfl) ?_
        refine lv_iload_n hx hb d_mAg_37 rfl (lv_at hl 2 rfl) ?_
        refine xc_VR (As := [.int q2]) (rest := []) (ci := 4) ⟨hx, hb, hml, hown, hts⟩ hT hK hP (c_mIsB l dC dI cI cZ dM dM0 dM1 dM2 dM3 dM4 dM5 dM6 dM7 dM8 dM9 dM10 dM11 dM12 dM13 ρ q2 (by first | assumption)) [0, 1, 2, 3, 4, 5, 6, 7, 8, 9, 10, 11, 12, 13, 14] rfl (xw_V 1 hts mw_427 mw_19 mw_424 mw_426 mw_5 rfl rfl (by decide +kernel) ⟨Nat.le_of_ble_eq_true rfl, Nat.le_of_ble_eq_true rfl⟩) rfl rfl rfl hl.1 rfl (Nat.le_of_ble_eq_true rfl) d_mAg_38 ⟨Nat.zero_le _, Nat.zero_le _⟩ (fun r hw => ?_)
        subst hw
        refine lv_if_eq (tgt := 49) hx hb d_mAg_41 (by decide) (fun c_6 => ?_) (fun c_6 => ?_)
        · refine lv_aload_n hx hb d_mAg_49 rfl (lv_at hl 0 rfl) ?_
          refine lv_iload_n hx hb d_mAg_50 rfl (lv_at hl 2 rfl) ?_
          refine xc_VR (As := [.int q2]) (rest := []) (ci := 4) ⟨hx, hb, hml, hown, hts⟩ hT hK hP (c_mHas l dC dI cI cZ dM dM0 dM1 dM2 dM3 dM4 dM5 dM6 dM7 dM8 dM9 dM10 dM11 dM12 dM13 ρ q2) [0, 1, 2, 3, 4, 5, 6, 7, 8, 9, 10, 11, 12, 13, 14] rfl (xw_V 1 hts mw_462 mw_19 mw_459 mw_461 mw_7 rfl rfl (by decide +kernel) ⟨Nat.le_of_ble_eq_true rfl, Nat.le_of_ble_eq_true rfl⟩) rfl rfl rfl hl.1 rfl (Nat.le_of_ble_eq_true rfl) d_mAg_51 ⟨Nat.zero_le _, Nat.zero_le _⟩ (fun r hw => ?_)
          subst hw
          refine lv_bipush (v := 10) hx hb d_mAg_54 (by decide) ?_
          refine lv_icmp_lt (tgt := 64) hx hb d_mAg_56 (by decide) (fun c_7 => ?_) (fun c_7 => ?_)
          · refine lv_iconst (v := 0) hx hb d_mAg_64 (by decide) ?_
            have hF : F_mAg ρ q1 q2 = 0 := (if_pos c_1).trans ((if_neg c_2).trans ((if_pos c_5).trans ((if_pos c_6).trans ((if_pos c_7).trans rfl))))
            exact W.iret (v := 0) hx hb hr (fun t ht hW => ⟨0, rfl, hF.symm, ht⟩) (fun _ h => absurd h List.not_mem_nil) d_mAg_65
          · refine lv_bipush (v := -5) hx hb d_mAg_59 (by decide) ?_
            refine lv_goto (tgt := 65) hx hb d_mAg_61 (by decide) ?_
            have hF : F_mAg ρ q1 q2 = -5 := (if_pos c_1).trans ((if_neg c_2).trans ((if_pos c_5).trans ((if_pos c_6).trans ((if_neg c_7).trans rfl))))
            exact W.iret (v := -5) hx hb hr (fun t ht hW => ⟨-5, rfl, hF.symm, ht⟩) (fun _ h => absurd h List.not_mem_nil) d_mAg_65
        · refine lv_bipush (v := -4) hx hb d_mAg_44 (by decide) ?_
          refine lv_goto (tgt := 65) hx hb d_mAg_46 (by decide) ?_
          have hF : F_mAg ρ q1 q2 = -4 := (if_pos c_1).trans ((if_neg c_2).trans ((if_pos c_5).trans ((if_neg c_6).trans rfl)))
          exact W.iret (v := -4) hx hb hr (fun t ht hW => ⟨-4, rfl, hF.symm, ht⟩) (fun _ h => absurd h List.not_mem_nil) d_mAg_65
      · refine lv_bipush (v := -3) hx hb d_mAg_33 (by decide) ?_
        have hF : F_mAg ρ q1 q2 = -3 := (if_pos c_1).trans ((if_neg c_2).trans ((if_neg c_5).trans rfl))
        exact W.iret (v := -3) hx hb hr (fun t ht hW => ⟨-3, rfl, hF.symm, ht⟩) (fun _ h => absurd h List.not_mem_nil) d_mAg_35
  · refine lv_bipush (v := -2) hx hb d_mAg_10 (by decide) ?_
    have hF : F_mAg ρ q1 q2 = -2 := (if_neg c_1).trans rfl
    exact W.iret (v := -2) hx hb hr (fun t ht hW => ⟨-2, rfl, hF.symm, ht⟩) (fun _ h => absurd h List.not_mem_nil) d_mAg_12
def F_mGo (ρ : SS) (q1 : Int32) (q2 : Int32) : SS :=
  (ss (ss (ss (ss (ss ρ 5 (upd (ρ 5) q1.toNatClampNeg q2)) 6 (upd (ρ 6) q1.toNatClampNeg (-1))) 7 (upd (ρ 7) q1.toNatClampNeg (vp_nar .boolean 1))) 8 ((F_mLeave (ss (ss (ss ρ 5 (upd (ρ 5) q1.toNatClampNeg q2)) 6 (upd (ρ 6) q1.toNatClampNeg (-1))) 7 (upd (ρ 7) q1.toNatClampNeg (vp_nar .boolean 1))) q1) 8)) 9 ((F_mLeave (ss (ss (ss ρ 5 (upd (ρ 5) q1.toNatClampNeg q2)) 6 (upd (ρ 6) q1.toNatClampNeg (-1))) 7 (upd (ρ 7) q1.toNatClampNeg (vp_nar .boolean 1))) q1) 9))
set_option maxHeartbeats 4000000 in
set_option maxRecDepth 100000 in
theorem c_mGo (l : Launch) (dC : Nat → ClassId) (dI : Nat → Nat → Nat) (cI cZ : ClassId) (dM dM0 dM1 dM2 dM3 dM4 dM5 dM6 dM7 dM8 dM9 dM10 dM11 dM12 dM13 : Nat) (sz : Nat) (ρ : SS) (q1 : Int32) (q2 : Int32) (hi : vp_in q1 60) (hk : ρ 8 q1.toNatClampNeg = -1 ∨ vp_in (ρ 8 q1.toNatClampNeg) 10) : Met l y_mGo [Cond.code y_mGo prog_6_method_16_code 3 none] ({ frames := 1, cells := 0, slots := 0, locals := 21 }) (pcW (dC, dI) (w_Mod cI cZ dM dM0 dM1 dM2 dM3 dM4 dM5 dM6 dM7 dM8 dM9 dM10 dM11 dM12 dM13 (ρ 0) (ρ 1) (ρ 2) (ρ 3) (ρ 4) (ρ 5) (ρ 6) (ρ 7) (ρ 8) (ρ 9) (ρ 10) (ρ 11) (ρ 12) (ρ 13) (ρ 14 0) (ρ 15 0) (ρ 16 0) (ρ 17 0) (ρ 18 0) (ρ 19 0) (ρ 20 0) (ρ 21 0) (ρ 22 0) (ρ 23 0)) (tyC cI cZ) sz [.ref dM, .int q1, .int q2]) (qV (fun u => u = ((F_mGo ρ q1 q2) 5, (F_mGo ρ q1 q2) 6, (F_mGo ρ q1 q2) 7, (F_mGo ρ q1 q2) 8, (F_mGo ρ q1 q2) 9)) (dC, dI) (fun u : (Nat → Int32) × (Nat → Int32) × (Nat → Int32) × (Nat → Int32) × (Nat → Int32) => w_Mod cI cZ dM dM0 dM1 dM2 dM3 dM4 dM5 dM6 dM7 dM8 dM9 dM10 dM11 dM12 dM13 (ρ 0) (ρ 1) (ρ 2) (ρ 3) (ρ 4) u.1 u.2.1 u.2.2.1 u.2.2.2.1 u.2.2.2.2 (ρ 10) (ρ 11) (ρ 12) (ρ 13) (ρ 14 0) (ρ 15 0) (ρ 16 0) (ρ 17 0) (ρ 18 0) (ρ 19 0) (ρ 20 0) (ρ 21 0) (ρ 22 0) (ρ 23 0)) (va_A (w_Mod cI cZ dM dM0 dM1 dM2 dM3 dM4 dM5 dM6 dM7 dM8 dM9 dM10 dM11 dM12 dM13 (ρ 0) (ρ 1) (ρ 2) (ρ 3) (ρ 4) (ρ 5) (ρ 6) (ρ 7) (ρ 8) (ρ 9) (ρ 10) (ρ 11) (ρ 12) (ρ 13) (ρ 14 0) (ρ 15 0) (ρ 16 0) (ρ 17 0) (ρ 18 0) (ρ 19 0) (ρ 20 0) (ρ 21 0) (ρ 22 0) (ρ 23 0)) sz)) 0 0 (va_A (w_Mod cI cZ dM dM0 dM1 dM2 dM3 dM4 dM5 dM6 dM7 dM8 dM9 dM10 dM11 dM12 dM13 (ρ 0) (ρ 1) (ρ 2) (ρ 3) (ρ 4) (ρ 5) (ρ 6) (ρ 7) (ρ 8) (ρ 9) (ρ 10) (ρ 11) (ρ 12) (ρ 13) (ρ 14 0) (ρ 15 0) (ρ 16 0) (ρ 17 0) (ρ 18 0) (ρ 19 0) (ρ 20 0) (ρ 21 0) (ρ 22 0) (ρ 23 0)) sz) := by
  refine Met.ofW (cc := prog_6_method_16_code) (maxL := 3) (ret := none) (by decide) rfl ?_
  intro p e s m args below meth c s₁ B hml hv
  obtain ⟨rfl, hsz, hT, hP, hK, hD0⟩ := hv
  have hx := B.exec
  have hb := B.bytes
  have hr := B.returns
  have hts : ∀ w ∈ lw_ok, w.before ([.ref dM, .int q1, .int q2] : List Value).toArray s = true := hT.use
  have hown : s.vm.findClass R_Mod = some m.cls := findClass_of_methodNamed B.named
  have hlocks := B.notSynchronized
  subst hsz
  have hD := hD0.self (sz := s.heap.size)
  generalize hAe : va_A (w_Mod cI cZ dM dM0 dM1 dM2 dM3 dM4 dM5 dM6 dM7 dM8 dM9 dM10 dM11 dM12 dM13 (ρ 0) (ρ 1) (ρ 2) (ρ 3) (ρ 4) (ρ 5) (ρ 6) (ρ 7) (ρ 8) (ρ 9) (ρ 10) (ρ 11) (ρ 12) (ρ 13) (ρ 14 0) (ρ 15 0) (ρ 16 0) (ρ 17 0) (ρ 18 0) (ρ 19 0) (ρ 20 0) (ρ 21 0) (ρ 22 0) (ρ 23 0)) s.heap.size = A at hD ⊢
  have hA : ∀ q : Nat, s.heap.size ≤ q → A q := fun q h => by rw [← hAe]; exact Or.inr h
  have hS : va_S A s.heap s.heap [] := va_S.rf
  have hl := lv_entry ([.ref dM, .int q1, .int q2]) (n := 3) (Nat.le_of_ble_eq_true rfl)
  rw [lg_entry_eq]
  generalize (lg_sl ([.ref dM, .int q1, .int q2]) ++ List.replicate (3 - (lg_sl ([.ref dM, .int q1, .int q2])).length) Slot.unset).toArray = ls at hl ⊢
  have hl : lv_has ls 3 [(0, .ref dM), (1, .int q1), (2, .int q2)] := hl
  refine lv_aload_n hx hb d_mGo_0 rfl (lv_at hl 0 rfl) ?_
  refine va_get (D := (dC, dI)) (ci := 4) (v := .ref dM5) (C := R_Mod) (T := T_Mod) (N := 24) hx hb hts in_Mod hown hK hP 0 rfl rfl 7 (by decide) (hts _ mw_347) (fun _ h9 => h9) rfl d_mGo_1 ?_
  refine lv_iload_n hx hb d_mGo_4 rfl (lv_at hl 1 rfl) ?_
  refine lv_iload_n hx hb d_mGo_5 rfl (lv_at hl 2 rfl) ?_
  refine va_iast (n := 60) (f := ρ 5) hx hb hK hP hD hS 6 0 rfl rfl (i := q1) (x := q2) (by first | assumption) d_mGo_6 (fun H locs hP hD hS => ?_)
  have hP : va_P (dC, dI) vwCl (w_Mod cI cZ dM dM0 dM1 dM2 dM3 dM4 dM5 dM6 dM7 dM8 dM9 dM10 dM11 dM12 dM13 (ρ 0) (ρ 1) (ρ 2) (ρ 3) (ρ 4) (upd (ρ 5) q1.toNatClampNeg q2) (ρ 6) (ρ 7) (ρ 8) (ρ 9) (ρ 10) (ρ 11) (ρ 12) (ρ 13) (ρ 14 0) (ρ 15 0) (ρ 16 0) (ρ 17 0) (ρ 18 0) (ρ 19 0) (ρ 20 0) (ρ 21 0) (ρ 22 0) (ρ 23 0)) H := hP
  have hD : va_D A (w_Mod cI cZ dM dM0 dM1 dM2 dM3 dM4 dM5 dM6 dM7 dM8 dM9 dM10 dM11 dM12 dM13 (ρ 0) (ρ 1) (ρ 2) (ρ 3) (ρ 4) (upd (ρ 5) q1.toNatClampNeg q2) (ρ 6) (ρ 7) (ρ 8) (ρ 9) (ρ 10) (ρ 11) (ρ 12) (ρ 13) (ρ 14 0) (ρ 15 0) (ρ 16 0) (ρ 17 0) (ρ 18 0) (ρ 19 0) (ρ 20 0) (ρ 21 0) (ρ 22 0) (ρ 23 0)) := hD
  refine lv_aload_n hx hb d_mGo_7 rfl (lv_at hl 0 rfl) ?_
  refine va_get (D := (dC, dI)) (ci := 4) (v := .ref dM6) (C := R_Mod) (T := T_Mod) (N := 24) hx hb hts in_Mod hown hK hP 0 rfl rfl 8 (by decide) (hts _ mw_348) (fun _ h9 => h9) rfl d_mGo_8 ?_
  refine lv_iload_n hx hb d_mGo_11 rfl (lv_at hl 1 rfl) ?_
  refine lv_iconst (v := -1) hx hb d_mGo_12 (by decide) ?_
  refine va_iast (n := 60) (f := ρ 6) hx hb hK hP hD hS 7 0 rfl rfl (i := q1) (x := -1) (by first | assumption) d_mGo_13 (fun H locs hP hD hS => ?_)
  have hP : va_P (dC, dI) vwCl (w_Mod cI cZ dM dM0 dM1 dM2 dM3 dM4 dM5 dM6 dM7 dM8 dM9 dM10 dM11 dM12 dM13 (ρ 0) (ρ 1) (ρ 2) (ρ 3) (ρ 4) (upd (ρ 5) q1.toNatClampNeg q2) (upd (ρ 6) q1.toNatClampNeg (-1)) (ρ 7) (ρ 8) (ρ 9) (ρ 10) (ρ 11) (ρ 12) (ρ 13) (ρ 14 0) (ρ 15 0) (ρ 16 0) (ρ 17 0) (ρ 18 0) (ρ 19 0) (ρ 20 0) (ρ 21 0) (ρ 22 0) (ρ 23 0)) H := hP
  have hD : va_D A (w_Mod cI cZ dM dM0 dM1 dM2 dM3 dM4 dM5 dM6 dM7 dM8 dM9 dM10 dM11 dM12 dM13 (ρ 0) (ρ 1) (ρ 2) (ρ 3) (ρ 4) (upd (ρ 5) q1.toNatClampNeg q2) (upd (ρ 6) q1.toNatClampNeg (-1)) (ρ 7) (ρ 8) (ρ 9) (ρ 10) (ρ 11) (ρ 12) (ρ 13) (ρ 14 0) (ρ 15 0) (ρ 16 0) (ρ 17 0) (ρ 18 0) (ρ 19 0) (ρ 20 0) (ρ 21 0) (ρ 22 0) (ρ 23 0)) := hD
  refine lv_aload_n hx hb d_mGo_14 rfl (lv_at hl 0 rfl) ?_
  refine va_get (D := (dC, dI)) (ci := 4) (v := .ref dM7) (C := R_Mod) (T := T_Mod) (N := 24) hx hb hts in_Mod hown hK hP 0 rfl rfl 9 (by decide) (hts _ mw_349) (fun _ h9 => h9) rfl d_mGo_15 ?_
  refine lv_iload_n hx hb d_mGo_18 rfl (lv_at hl 1 rfl) ?_
  refine lv_iconst (v := 1) hx hb d_mGo_19 (by decide) ?_
  refine va_zast (n := 60) (f := ρ 7) hx hb hK hP hD hS 8 1 rfl rfl (i := q1) (x := 1) (by first | assumption) d_mGo_20 (fun H locs hP hD hS => ?_)
  have hP : va_P (dC, dI) vwCl (w_Mod cI cZ dM dM0 dM1 dM2 dM3 dM4 dM5 dM6 dM7 dM8 dM9 dM10 dM11 dM12 dM13 (ρ 0) (ρ 1) (ρ 2) (ρ 3) (ρ 4) (upd (ρ 5) q1.toNatClampNeg q2) (upd (ρ 6) q1.toNatClampNeg (-1)) (upd (ρ 7) q1.toNatClampNeg (vp_nar .boolean 1)) (ρ 8) (ρ 9) (ρ 10) (ρ 11) (ρ 12) (ρ 13) (ρ 14 0) (ρ 15 0) (ρ 16 0) (ρ 17 0) (ρ 18 0) (ρ 19 0) (ρ 20 0) (ρ 21 0) (ρ 22 0) (ρ 23 0)) H := hP
  have hD : va_D A (w_Mod cI cZ dM dM0 dM1 dM2 dM3 dM4 dM5 dM6 dM7 dM8 dM9 dM10 dM11 dM12 dM13 (ρ 0) (ρ 1) (ρ 2) (ρ 3) (ρ 4) (upd (ρ 5) q1.toNatClampNeg q2) (upd (ρ 6) q1.toNatClampNeg (-1)) (upd (ρ 7) q1.toNatClampNeg (vp_nar .boolean 1)) (ρ 8) (ρ 9) (ρ 10) (ρ 11) (ρ 12) (ρ 13) (ρ 14 0) (ρ 15 0) (ρ 16 0) (ρ 17 0) (ρ 18 0) (ρ 19 0) (ρ 20 0) (ρ 21 0) (ρ 22 0) (ρ 23 0)) := hD
  refine lv_aload_n hx hb d_mGo_21 rfl (lv_at hl 0 rfl) ?_
  refine lv_iload_n hx hb d_mGo_22 rfl (lv_at hl 1 rfl) ?_
  refine xc_VWv (As := [.int q1]) (rest := []) (ci := 4) (wr := []) ⟨hx, hb, hml, hown, hts⟩ hT hK hP hD hS hA (c_mLeave l dC dI cI cZ dM dM0 dM1 dM2 dM3 dM4 dM5 dM6 dM7 dM8 dM9 dM10 dM11 dM12 dM13 H.size (ss (ss (ss ρ 5 (upd (ρ 5) q1.toNatClampNeg q2)) 6 (upd (ρ 6) q1.toNatClampNeg (-1))) 7 (upd (ρ 7) q1.toNatClampNeg (vp_nar .boolean 1))) q1 (by first | assumption) (by first | assumption)) [0, 1, 2, 3, 4, 5, 6, 7, 8, 9, 10, 11, 12, 13, 14] [] rfl (by decide) rfl (by decide) (by decide) (xw_V 1 hts mw_470 mw_19 mw_467 mw_469 mw_9 rfl rfl (by decide +kernel) ⟨Nat.le_of_ble_eq_true rfl, Nat.le_of_ble_eq_true rfl⟩) rfl rfl rfl hl.1 rfl (Nat.le_of_ble_eq_true rfl) d_mGo_23 ⟨Nat.zero_le _, Nat.zero_le _⟩ (fun u H locs hw hP hD hS => ?_)
  obtain ⟨v1_8, v1_9⟩ := u
  have hv1_8 : v1_8 = (F_mLeave (ss (ss (ss ρ 5 (upd (ρ 5) q1.toNatClampNeg q2)) 6 (upd (ρ 6) q1.toNatClampNeg (-1))) 7 (upd (ρ 7) q1.toNatClampNeg (vp_nar .boolean 1))) q1) 8 := congrArg (fun u : (Nat → Int32) × (Nat → Int32) => u.1) hw
  have hv1_9 : v1_9 = (F_mLeave (ss (ss (ss ρ 5 (upd (ρ 5) q1.toNatClampNeg q2)) 6 (upd (ρ 6) q1.toNatClampNeg (-1))) 7 (upd (ρ 7) q1.toNatClampNeg (vp_nar .boolean 1))) q1) 9 := congrArg (fun u : (Nat → Int32) × (Nat → Int32) => u.2) hw
  have hP : va_P (dC, dI) vwCl (w_Mod cI cZ dM dM0 dM1 dM2 dM3 dM4 dM5 dM6 dM7 dM8 dM9 dM10 dM11 dM12 dM13 (ρ 0) (ρ 1) (ρ 2) (ρ 3) (ρ 4) (upd (ρ 5) q1.toNatClampNeg q2) (upd (ρ 6) q1.toNatClampNeg (-1)) (upd (ρ 7) q1.toNatClampNeg (vp_nar .boolean 1)) v1_8 v1_9 (ρ 10) (ρ 11) (ρ 12) (ρ 13) (ρ 14 0) (ρ 15 0) (ρ 16 0) (ρ 17 0) (ρ 18 0) (ρ 19 0) (ρ 20 0) (ρ 21 0) (ρ 22 0) (ρ 23 0)) H := hP.sub [0, 1, 2, 3, 4, 5, 6, 7, 8, 9, 10, 11, 12, 13, 14] rfl
  have hD : va_D A (w_Mod cI cZ dM dM0 dM1 dM2 dM3 dM4 dM5 dM6 dM7 dM8 dM9 dM10 dM11 dM12 dM13 (ρ 0) (ρ 1) (ρ 2) (ρ 3) (ρ 4) (upd (ρ 5) q1.toNatClampNeg q2) (upd (ρ 6) q1.toNatClampNeg (-1)) (upd (ρ 7) q1.toNatClampNeg (vp_nar .boolean 1)) v1_8 v1_9 (ρ 10) (ρ 11) (ρ 12) (ρ 13) (ρ 14 0) (ρ 15 0) (ρ 16 0) (ρ 17 0) (ρ 18 0) (ρ 19 0) (ρ 20 0) (ρ 21 0) (ρ 22 0) (ρ 23 0)) := hD.sub [0, 1, 2, 3, 4, 5, 6, 7, 8, 9, 10, 11, 12, 13, 14] (by decide) rfl
  have hF : F_mGo ρ q1 q2 = (ss (ss (ss (ss (ss ρ 5 (upd (ρ 5) q1.toNatClampNeg q2)) 6 (upd (ρ 6) q1.toNatClampNeg (-1))) 7 (upd (ρ 7) q1.toNatClampNeg (vp_nar .boolean 1))) 8 v1_8) 9 v1_9) := by subst hv1_8 hv1_9; exact (rfl)
  exact W.vret hx hb hr (fun t ht hW => ⟨⟨(upd (ρ 5) q1.toNatClampNeg q2, upd (ρ 6) q1.toNatClampNeg (-1), upd (ρ 7) q1.toNatClampNeg (vp_nar .boolean 1), v1_8, v1_9), rfl, (congrArg (fun f : SS => (f 5, f 6, f 7, f 8, f 9)) hF).symm, by rw [ht]; exact hP, hD⟩, hS.F ht⟩) hS.2.2 d_mGo_26
set_option maxHeartbeats 4000000 in
set_option maxRecDepth 100000 in
theorem c_mCome (l : Launch) (dC : Nat → ClassId) (dI : Nat → Nat → Nat) (cI cZ : ClassId) (dM dM0 dM1 dM2 dM3 dM4 dM5 dM6 dM7 dM8 dM9 dM10 dM11 dM12 dM13 : Nat) (sz : Nat) (ρ : SS) (q1 : Int32) (hi : vp_in q1 60) : Met l y_mCome [Cond.code y_mCome prog_6_method_18_code 3 (some .int)] ({ frames := 0, cells := 0, slots := 0, locals := 0 }) (pcW (dC, dI) (w_Mod cI cZ dM dM0 dM1 dM2 dM3 dM4 dM5 dM6 dM7 dM8 dM9 dM10 dM11 dM12 dM13 (ρ 0) (ρ 1) (ρ 2) (ρ 3) (ρ 4) (ρ 5) (ρ 6) (ρ 7) (ρ 8) (ρ 9) (ρ 10) (ρ 11) (ρ 12) (ρ 13) (ρ 14 0) (ρ 15 0) (ρ 16 0) (ρ 17 0) (ρ 18 0) (ρ 19 0) (ρ 20 0) (ρ 21 0) (ρ 22 0) (ρ 23 0)) (tyC cI cZ) sz [.ref dM, .int q1]) (qI (fun r u => r = (F_mCome ρ q1).1 ∧ u = ((F_mCome ρ q1).2 5, (F_mCome ρ q1).2 7)) (dC, dI) (fun u : (Nat → Int32) × (Nat → Int32) => w_Mod cI cZ dM dM0 dM1 dM2 dM3 dM4 dM5 dM6 dM7 dM8 dM9 dM10 dM11 dM12 dM13 (ρ 0) (ρ 1) (ρ 2) (ρ 3) (ρ 4) u.1 (ρ 6) u.2 (ρ 8) (ρ 9) (ρ 10) (ρ 11) (ρ 12) (ρ 13) (ρ 14 0) (ρ 15 0) (ρ 16 0) (ρ 17 0) (ρ 18 0) (ρ 19 0) (ρ 20 0) (ρ 21 0) (ρ 22 0) (ρ 23 0)) (va_A (w_Mod cI cZ dM dM0 dM1 dM2 dM3 dM4 dM5 dM6 dM7 dM8 dM9 dM10 dM11 dM12 dM13 (ρ 0) (ρ 1) (ρ 2) (ρ 3) (ρ 4) (ρ 5) (ρ 6) (ρ 7) (ρ 8) (ρ 9) (ρ 10) (ρ 11) (ρ 12) (ρ 13) (ρ 14 0) (ρ 15 0) (ρ 16 0) (ρ 17 0) (ρ 18 0) (ρ 19 0) (ρ 20 0) (ρ 21 0) (ρ 22 0) (ρ 23 0)) sz)) 0 0 (va_A (w_Mod cI cZ dM dM0 dM1 dM2 dM3 dM4 dM5 dM6 dM7 dM8 dM9 dM10 dM11 dM12 dM13 (ρ 0) (ρ 1) (ρ 2) (ρ 3) (ρ 4) (ρ 5) (ρ 6) (ρ 7) (ρ 8) (ρ 9) (ρ 10) (ρ 11) (ρ 12) (ρ 13) (ρ 14 0) (ρ 15 0) (ρ 16 0) (ρ 17 0) (ρ 18 0) (ρ 19 0) (ρ 20 0) (ρ 21 0) (ρ 22 0) (ρ 23 0)) sz) := by
  refine Met.ofW (cc := prog_6_method_18_code) (maxL := 3) (ret := (some .int)) (by decide) rfl ?_
  intro p e s m args below meth c s₁ B hml hv
  obtain ⟨rfl, hsz, hT, hP, hK, hD0⟩ := hv
  have hx := B.exec
  have hb := B.bytes
  have hr := B.returns
  have hts : ∀ w ∈ lw_ok, w.before ([.ref dM, .int q1] : List Value).toArray s = true := hT.use
  have hown : s.vm.findClass R_Mod = some m.cls := findClass_of_methodNamed B.named
  have hlocks := B.notSynchronized
  subst hsz
  have hD := hD0.self (sz := s.heap.size)
  generalize hAe : va_A (w_Mod cI cZ dM dM0 dM1 dM2 dM3 dM4 dM5 dM6 dM7 dM8 dM9 dM10 dM11 dM12 dM13 (ρ 0) (ρ 1) (ρ 2) (ρ 3) (ρ 4) (ρ 5) (ρ 6) (ρ 7) (ρ 8) (ρ 9) (ρ 10) (ρ 11) (ρ 12) (ρ 13) (ρ 14 0) (ρ 15 0) (ρ 16 0) (ρ 17 0) (ρ 18 0) (ρ 19 0) (ρ 20 0) (ρ 21 0) (ρ 22 0) (ρ 23 0)) s.heap.size = A at hD ⊢
  have hA : ∀ q : Nat, s.heap.size ≤ q → A q := fun q h => by rw [← hAe]; exact Or.inr h
  have hS : va_S A s.heap s.heap [] := va_S.rf
  have hl := lv_entry ([.ref dM, .int q1]) (n := 3) (Nat.le_of_ble_eq_true rfl)
  rw [lg_entry_eq]
  generalize (lg_sl ([.ref dM, .int q1]) ++ List.replicate (3 - (lg_sl ([.ref dM, .int q1])).length) Slot.unset).toArray = ls at hl ⊢
  have hl : lv_has ls 3 [(0, .ref dM), (1, .int q1)] := hl
  refine lv_aload_n hx hb d_mCome_0 rfl (lv_at hl 0 rfl) ?_
  refine va_get (D := (dC, dI)) (ci := 4) (v := .ref dM5) (C := R_Mod) (T := T_Mod) (N := 24) hx hb hts in_Mod hown hK hP 0 rfl rfl 7 (by decide) (hts _ mw_347) (fun _ h9 => h9) rfl d_mCome_1 ?_
  refine lv_iload_n hx hb d_mCome_4 rfl (lv_at hl 1 rfl) ?_
  refine va_iald (n := 60) (f := ρ 5) hx hb hK hP 6 0 rfl rfl (i := q1) (by first | assumption) d_mCome_5 ?_
  refine lv_iconst (v := -1) hx hb d_mCome_6 (by decide) ?_
  refine lv_icmp_eq (tgt := 14) hx hb d_mCome_7 (by decide) (fun c_1 => ?_) (fun c_1 => ?_)
  · refine lv_iconst (v := 0) hx hb d_mCome_14 (by decide) ?_
    refine lv_istore_n (lv' := [(2, .int 0), (0, .ref dM), (1, .int q1)]) hx hb d_mCome_15 rfl hl (by decide) rfl (fun ls hl => ?_)
    refine lv_aload_n hx hb d_mCome_16 rfl (lv_at hl 1 rfl) ?_
    refine va_get (D := (dC, dI)) (ci := 4) (v := .ref dM5) (C := R_Mod) (T := T_Mod) (N := 24) hx hb hts in_Mod hown hK hP 0 rfl rfl 7 (by decide) (hts _ mw_347) (fun _ h9 => h9) rfl d_mCome_17 ?_
    refine lv_iload_n hx hb d_mCome_20 rfl (lv_at hl 2 rfl) ?_
    refine lv_iconst (v := -1) hx hb d_mCome_21 (by decide) ?_
    refine va_iast (n := 60) (f := ρ 5) hx hb hK hP hD hS 6 0 rfl rfl (i := q1) (x := -1) (by first | assumption) d_mCome_22 (fun H locs hP hD hS => ?_)
    have hP : va_P (dC, dI) vwCl (w_Mod cI cZ dM dM0 dM1 dM2 dM3 dM4 dM5 dM6 dM7 dM8 dM9 dM10 dM11 dM12 dM13 (ρ 0) (ρ 1) (ρ 2) (ρ 3) (ρ 4) (upd (ρ 5) q1.toNatClampNeg (-1)) (ρ 6) (ρ 7) (ρ 8) (ρ 9) (ρ 10) (ρ 11) (ρ 12) (ρ 13) (ρ 14 0) (ρ 15 0) (ρ 16 0) (ρ 17 0) (ρ 18 0) (ρ 19 0) (ρ 20 0) (ρ 21 0) (ρ 22 0) (ρ 23 0)) H := hP
    have hD : va_D A (w_Mod cI cZ dM dM0 dM1 dM2 dM3 dM4 dM5 dM6 dM7 dM8 dM9 dM10 dM11 dM12 dM13 (ρ 0) (ρ 1) (ρ 2) (ρ 3) (ρ 4) (upd (ρ 5) q1.toNatClampNeg (-1)) (ρ 6) (ρ 7) (ρ 8) (ρ 9) (ρ 10) (ρ 11) (ρ 12) (ρ 13) (ρ 14 0) (ρ 15 0) (ρ 16 0) (ρ 17 0) (ρ 18 0) (ρ 19 0) (ρ 20 0) (ρ 21 0) (ρ 22 0) (ρ 23 0)) := hD
    refine lv_aload_n hx hb d_mCome_23 rfl (lv_at hl 1 rfl) ?_
    refine va_get (D := (dC, dI)) (ci := 4) (v := .ref dM7) (C := R_Mod) (T := T_Mod) (N := 24) hx hb hts in_Mod hown hK hP 0 rfl rfl 9 (by decide) (hts _ mw_349) (fun _ h9 => h9) rfl d_mCome_24 ?_
    refine lv_iload_n hx hb d_mCome_27 rfl (lv_at hl 2 rfl) ?_
    refine lv_iconst (v := 0) hx hb d_mCome_28 (by decide) ?_
    refine va_zast (n := 60) (f := ρ 7) hx hb hK hP hD hS 8 1 rfl rfl (i := q1) (x := 0) (by first | assumption) d_mCome_29 (fun H locs hP hD hS => ?_)
    have hP : va_P (dC, dI) vwCl (w_Mod cI cZ dM dM0 dM1 dM2 dM3 dM4 dM5 dM6 dM7 dM8 dM9 dM10 dM11 dM12 dM13 (ρ 0) (ρ 1) (ρ 2) (ρ 3) (ρ 4) (upd (ρ 5) q1.toNatClampNeg (-1)) (ρ 6) (upd (ρ 7) q1.toNatClampNeg (vp_nar .boolean 0)) (ρ 8) (ρ 9) (ρ 10) (ρ 11) (ρ 12) (ρ 13) (ρ 14 0) (ρ 15 0) (ρ 16 0) (ρ 17 0) (ρ 18 0) (ρ 19 0) (ρ 20 0) (ρ 21 0) (ρ 22 0) (ρ 23 0)) H := hP
    have hD : va_D A (w_Mod cI cZ dM dM0 dM1 dM2 dM3 dM4 dM5 dM6 dM7 dM8 dM9 dM10 dM11 dM12 dM13 (ρ 0) (ρ 1) (ρ 2) (ρ 3) (ρ 4) (upd (ρ 5) q1.toNatClampNeg (-1)) (ρ 6) (upd (ρ 7) q1.toNatClampNeg (vp_nar .boolean 0)) (ρ 8) (ρ 9) (ρ 10) (ρ 11) (ρ 12) (ρ 13) (ρ 14 0) (ρ 15 0) (ρ 16 0) (ρ 17 0) (ρ 18 0) (ρ 19 0) (ρ 20 0) (ρ 21 0) (ρ 22 0) (ρ 23 0)) := hD
    refine lv_iload_n hx hb d_mCome_30 rfl (lv_at hl 0 rfl) ?_
    refine lv_if_ne (tgt := 38) hx hb d_mCome_31 (by decide) (fun c_2 => ?_) (fun c_2 => ?_)
    · exact absurd (by decide) c_2
    refine lv_iconst (v := 2) hx hb d_mCome_34 (by decide) ?_
    refine lv_goto (tgt := 53) hx hb d_mCome_35 (by decide) ?_
    have hF : F_mCome ρ q1 = (2, (ss (ss ρ 5 (upd (ρ 5) q1.toNatClampNeg (-1))) 7 (upd (ρ 7) q1.toNatClampNeg (vp_nar .boolean 0)))) := by unfold F_mCome; rw [if_pos c_1]
    exact W.iret (v := 2) hx hb hr (fun t ht hW => ⟨⟨2, (upd (ρ 5) q1.toNatClampNeg (-1), upd (ρ 7) q1.toNatClampNeg (vp_nar .boolean 0)), rfl, ⟨(congrArg Prod.fst hF).symm, (congrArg (fun f : Int32 × SS => (f.2 5, f.2 7)) hF).symm⟩, by rw [ht]; exact hP, hD⟩, hS.F ht⟩) hS.2.2 d_mCome_53
  · refine lv_iconst (v := 1) hx hb d_mCome_10 (by decide) ?_
    refine lv_goto (tgt := 15) hx hb d_mCome_11 (by decide) ?_
    refine lv_istore_n (lv' := [(2, .int 1), (0, .ref dM), (1, .int q1)]) hx hb d_mCome_15 rfl hl (by decide) rfl (fun ls hl => ?_)
    refine lv_aload_n hx hb d_mCome_16 rfl (lv_at hl 1 rfl) ?_
    refine va_get (D := (dC, dI)) (ci := 4) (v := .ref dM5) (C := R_Mod) (T := T_Mod) (N := 24) hx hb hts in_Mod hown hK hP 0 rfl rfl 7 (by decide) (hts _ mw_347) (fun _ h9 => h9) rfl d_mCome_17 ?_
    refine lv_iload_n hx hb d_mCome_20 rfl (lv_at hl 2 rfl) ?_
    refine lv_iconst (v := -1) hx hb d_mCome_21 (by decide) ?_
    refine va_iast (n := 60) (f := ρ 5) hx hb hK hP hD hS 6 0 rfl rfl (i := q1) (x := -1) (by first | assumption) d_mCome_22 (fun H locs hP hD hS => ?_)
    have hP : va_P (dC, dI) vwCl (w_Mod cI cZ dM dM0 dM1 dM2 dM3 dM4 dM5 dM6 dM7 dM8 dM9 dM10 dM11 dM12 dM13 (ρ 0) (ρ 1) (ρ 2) (ρ 3) (ρ 4) (upd (ρ 5) q1.toNatClampNeg (-1)) (ρ 6) (ρ 7) (ρ 8) (ρ 9) (ρ 10) (ρ 11) (ρ 12) (ρ 13) (ρ 14 0) (ρ 15 0) (ρ 16 0) (ρ 17 0) (ρ 18 0) (ρ 19 0) (ρ 20 0) (ρ 21 0) (ρ 22 0) (ρ 23 0)) H := hP
    have hD : va_D A (w_Mod cI cZ dM dM0 dM1 dM2 dM3 dM4 dM5 dM6 dM7 dM8 dM9 dM10 dM11 dM12 dM13 (ρ 0) (ρ 1) (ρ 2) (ρ 3) (ρ 4) (upd (ρ 5) q1.toNatClampNeg (-1)) (ρ 6) (ρ 7) (ρ 8) (ρ 9) (ρ 10) (ρ 11) (ρ 12) (ρ 13) (ρ 14 0) (ρ 15 0) (ρ 16 0) (ρ 17 0) (ρ 18 0) (ρ 19 0) (ρ 20 0) (ρ 21 0) (ρ 22 0) (ρ 23 0)) := hD
    refine lv_aload_n hx hb d_mCome_23 rfl (lv_at hl 1 rfl) ?_
    refine va_get (D := (dC, dI)) (ci := 4) (v := .ref dM7) (C := R_Mod) (T := T_Mod) (N := 24) hx hb hts in_Mod hown hK hP 0 rfl rfl 9 (by decide) (hts _ mw_349) (fun _ h9 => h9) rfl d_mCome_24 ?_
    refine lv_iload_n hx hb d_mCome_27 rfl (lv_at hl 2 rfl) ?_
    refine lv_iconst (v := 0) hx hb d_mCome_28 (by decide) ?_
    refine va_zast (n := 60) (f := ρ 7) hx hb hK hP hD hS 8 1 rfl rfl (i := q1) (x := 0) (by first | assumption) d_mCome_29 (fun H locs hP hD hS => ?_)
    have hP : va_P (dC, dI) vwCl (w_Mod cI cZ dM dM0 dM1 dM2 dM3 dM4 dM5 dM6 dM7 dM8 dM9 dM10 dM11 dM12 dM13 (ρ 0) (ρ 1) (ρ 2) (ρ 3) (ρ 4) (upd (ρ 5) q1.toNatClampNeg (-1)) (ρ 6) (upd (ρ 7) q1.toNatClampNeg (vp_nar .boolean 0)) (ρ 8) (ρ 9) (ρ 10) (ρ 11) (ρ 12) (ρ 13) (ρ 14 0) (ρ 15 0) (ρ 16 0) (ρ 17 0) (ρ 18 0) (ρ 19 0) (ρ 20 0) (ρ 21 0) (ρ 22 0) (ρ 23 0)) H := hP
    have hD : va_D A (w_Mod cI cZ dM dM0 dM1 dM2 dM3 dM4 dM5 dM6 dM7 dM8 dM9 dM10 dM11 dM12 dM13 (ρ 0) (ρ 1) (ρ 2) (ρ 3) (ρ 4) (upd (ρ 5) q1.toNatClampNeg (-1)) (ρ 6) (upd (ρ 7) q1.toNatClampNeg (vp_nar .boolean 0)) (ρ 8) (ρ 9) (ρ 10) (ρ 11) (ρ 12) (ρ 13) (ρ 14 0) (ρ 15 0) (ρ 16 0) (ρ 17 0) (ρ 18 0) (ρ 19 0) (ρ 20 0) (ρ 21 0) (ρ 22 0) (ρ 23 0)) := hD
    refine lv_iload_n hx hb d_mCome_30 rfl (lv_at hl 0 rfl) ?_
    refine lv_if_ne (tgt := 38) hx hb d_mCome_31 (by decide) (fun c_3 => ?_) (fun c_3 => ?_)
    rotate_left
    · exact absurd c_3 (by decide)
    refine lv_aload_n hx hb d_mCome_38 rfl (lv_at hl 1 rfl) ?_
    refine va_get (D := (dC, dI)) (ci := 4) (v := .ref dM6) (C := R_Mod) (T := T_Mod) (N := 24) hx hb hts in_Mod hown hK hP 0 rfl rfl 8 (by decide) (hts _ mw_348) (fun _ h9 => h9) rfl d_mCome_39 ?_
    refine lv_iload_n hx hb d_mCome_42 rfl (lv_at hl 2 rfl) ?_
    refine va_iald (n := 60) (f := ρ 6) hx hb hK hP 7 0 rfl rfl (i := q1) (by first | assumption) d_mCome_43 ?_
    refine lv_iconst (v := -1) hx hb d_mCome_44 (by decide) ?_
    refine lv_icmp_eq (tgt := 52) hx hb d_mCome_45 (by decide) (fun c_4 => ?_) (fun c_4 => ?_)
    · refine lv_iconst (v := 0) hx hb d_mCome_52 (by decide) ?_
      have hF : F_mCome ρ q1 = (0, (ss (ss ρ 5 (upd (ρ 5) q1.toNatClampNeg (-1))) 7 (upd (ρ 7) q1.toNatClampNeg (vp_nar .boolean 0)))) := by unfold F_mCome; rw [if_neg c_1, if_pos c_4]
      exact W.iret (v := 0) hx hb hr (fun t ht hW => ⟨⟨0, (upd (ρ 5) q1.toNatClampNeg (-1), upd (ρ 7) q1.toNatClampNeg (vp_nar .boolean 0)), rfl, ⟨(congrArg Prod.fst hF).symm, (congrArg (fun f : Int32 × SS => (f.2 5, f.2 7)) hF).symm⟩, by rw [ht]; exact hP, hD⟩, hS.F ht⟩) hS.2.2 d_mCome_53
    · refine lv_iconst (v := 1) hx hb d_mCome_48 (by decide) ?_
      refine lv_goto (tgt := 53) hx hb d_mCome_49 (by decide) ?_
      have hF : F_mCome ρ q1 = (1, (ss (ss ρ 5 (upd (ρ 5) q1.toNatClampNeg (-1))) 7 (upd (ρ 7) q1.toNatClampNeg (vp_nar .boolean 0)))) := by unfold F_mCome; rw [if_neg c_1, if_neg c_4]
      exact W.iret (v := 1) hx hb hr (fun t ht hW => ⟨⟨1, (upd (ρ 5) q1.toNatClampNeg (-1), upd (ρ 7) q1.toNatClampNeg (vp_nar .boolean 0)), rfl, ⟨(congrArg Prod.fst hF).symm, (congrArg (fun f : Int32 × SS => (f.2 5, f.2 7)) hF).symm⟩, by rw [ht]; exact hP, hD⟩, hS.F ht⟩) hS.2.2 d_mCome_53
def MInv (ρ : SS) : Prop := ∃ mo : Nat, mo ≤ 100 ∧ ρ 15 0 = nI mo ∧ (ρ 18 0 = 0 ∨ ρ 18 0 = 1) ∧
  (∀ i, i < 60 → ρ 6 i = -1 ∨ vp_in (ρ 6 i) 40) ∧ (∀ i, i < 60 → ρ 8 i = -1 ∨ vp_in (ρ 8 i) 10) ∧ (∀ i, i < 10 → ρ 9 i = -1 ∨ vp_in (ρ 9 i) 60) ∧
  (∃ kc : Nat, kc ≤ mo ∧ ρ 22 0 = nI kc ∧ (∀ i, i < kc → vp_in (ρ 11 i) 60 ∧ (ρ 12 i = -1 ∨ vp_in (ρ 12 i) 40)) ∧ (ρ 16 0 = 2 → ¬ ρ 18 0 = 0 → ¬ ρ 19 0 ≤ 0 → ∃ r, r < kc ∧ ¬ ρ 12 r = -1)) ∧
  (∃ xc : Nat, xc ≤ 100 ∧ ρ 23 0 = nI xc) ∧ vp_in (ρ 17 0) 40 ∧ (ρ 20 0 = -1 ∨ vp_in (ρ 20 0) 60) ∧
  (∃ lc : Nat, lc ≤ 256 ∧ ρ 19 0 = nI lc ∧ ∀ i, i < lc → vp_in (ρ 10 i) 60)
theorem m_lent {x : Int32} {lc : Nat} (h1 : lc ≤ 256) (h2 : x = nI lc) : vp_in x 6000 := by rw [h2]; exact vp_in_nI (by omega) (by decide)
theorem m_row {x y : Int32} {kc mo : Nat} (hm : mo ≤ 100) (h1 : kc ≤ mo) (h2 : x = nI kc) (h3 : y = nI mo) (h : ¬ x = y) : vp_in x 100 := by
  rw [h2]
  refine vp_in_nI ?_ (by decide)
  rcases Nat.lt_or_ge kc mo with q | q
  · omega
  · exact absurd (by rw [h2, h3, show kc = mo by omega]) h
def F_mPerson (ρ : SS) (q1 : Int32) (q2 : Int32) (q3 : Int32) : Int32 × SS :=
  if (F_mIsP q1) = 0 then
    (0, (ss ρ 14 (fun _ => 0)))
  else
    if q3 < 0 then
      (0, (ss ρ 14 (fun _ => 0)))
    else
      if q3 ≤ 2 then
        (1, (ss (ss (ss ρ 0 (upd (ρ 0) q1.toNatClampNeg q2)) 1 (upd (ρ 1) q1.toNatClampNeg q3)) 14 (fun _ => 0)))
      else
        (0, (ss ρ 14 (fun _ => 0)))
set_option maxHeartbeats 4000000 in
set_option maxRecDepth 100000 in
theorem c_mPerson (l : Launch) (dC : Nat → ClassId) (dI : Nat → Nat → Nat) (cI cZ : ClassId) (dM dM0 dM1 dM2 dM3 dM4 dM5 dM6 dM7 dM8 dM9 dM10 dM11 dM12 dM13 : Nat) (sz : Nat) (ρ : SS) (q1 : Int32) (q2 : Int32) (q3 : Int32) : Met l y_mPerson [Cond.code y_mPerson prog_6_method_5_code 4 (some .int)] ({ frames := 1, cells := 0, slots := 0, locals := 20 }) (pcW (dC, dI) (w_Mod cI cZ dM dM0 dM1 dM2 dM3 dM4 dM5 dM6 dM7 dM8 dM9 dM10 dM11 dM12 dM13 (ρ 0) (ρ 1) (ρ 2) (ρ 3) (ρ 4) (ρ 5) (ρ 6) (ρ 7) (ρ 8) (ρ 9) (ρ 10) (ρ 11) (ρ 12) (ρ 13) (ρ 14 0) (ρ 15 0) (ρ 16 0) (ρ 17 0) (ρ 18 0) (ρ 19 0) (ρ 20 0) (ρ 21 0) (ρ 22 0) (ρ 23 0)) (tyC cI cZ) sz [.ref dM, .int q1, .int q2, .int q3]) (qI (fun r u => r = (F_mPerson ρ q1 q2 q3).1 ∧ u = (F_mPerson ρ q1 q2 q3).2) (dC, dI) (fun u : SS => w_Mod cI cZ dM dM0 dM1 dM2 dM3 dM4 dM5 dM6 dM7 dM8 dM9 dM10 dM11 dM12 dM13 (u 0) (u 1) (u 2) (u 3) (u 4) (u 5) (u 6) (u 7) (u 8) (u 9) (u 10) (u 11) (u 12) (u 13) (u 14 0) (u 15 0) (u 16 0) (u 17 0) (u 18 0) (u 19 0) (u 20 0) (u 21 0) (u 22 0) (u 23 0)) (va_A (w_Mod cI cZ dM dM0 dM1 dM2 dM3 dM4 dM5 dM6 dM7 dM8 dM9 dM10 dM11 dM12 dM13 (ρ 0) (ρ 1) (ρ 2) (ρ 3) (ρ 4) (ρ 5) (ρ 6) (ρ 7) (ρ 8) (ρ 9) (ρ 10) (ρ 11) (ρ 12) (ρ 13) (ρ 14 0) (ρ 15 0) (ρ 16 0) (ρ 17 0) (ρ 18 0) (ρ 19 0) (ρ 20 0) (ρ 21 0) (ρ 22 0) (ρ 23 0)) sz)) 0 0 (va_A (w_Mod cI cZ dM dM0 dM1 dM2 dM3 dM4 dM5 dM6 dM7 dM8 dM9 dM10 dM11 dM12 dM13 (ρ 0) (ρ 1) (ρ 2) (ρ 3) (ρ 4) (ρ 5) (ρ 6) (ρ 7) (ρ 8) (ρ 9) (ρ 10) (ρ 11) (ρ 12) (ρ 13) (ρ 14 0) (ρ 15 0) (ρ 16 0) (ρ 17 0) (ρ 18 0) (ρ 19 0) (ρ 20 0) (ρ 21 0) (ρ 22 0) (ρ 23 0)) sz) := by
  refine Met.ofW (cc := prog_6_method_5_code) (maxL := 4) (ret := (some .int)) (by decide) rfl ?_
  intro p e s m args below meth c s₁ B hml hv
  obtain ⟨rfl, hsz, hT, hP, hK, hD0⟩ := hv
  have hx := B.exec
  have hb := B.bytes
  have hr := B.returns
  have hts : ∀ w ∈ lw_ok, w.before ([.ref dM, .int q1, .int q2, .int q3] : List Value).toArray s = true := hT.use
  have hown : s.vm.findClass R_Mod = some m.cls := findClass_of_methodNamed B.named
  have hlocks := B.notSynchronized
  subst hsz
  have hD := hD0.self (sz := s.heap.size)
  generalize hAe : va_A (w_Mod cI cZ dM dM0 dM1 dM2 dM3 dM4 dM5 dM6 dM7 dM8 dM9 dM10 dM11 dM12 dM13 (ρ 0) (ρ 1) (ρ 2) (ρ 3) (ρ 4) (ρ 5) (ρ 6) (ρ 7) (ρ 8) (ρ 9) (ρ 10) (ρ 11) (ρ 12) (ρ 13) (ρ 14 0) (ρ 15 0) (ρ 16 0) (ρ 17 0) (ρ 18 0) (ρ 19 0) (ρ 20 0) (ρ 21 0) (ρ 22 0) (ρ 23 0)) s.heap.size = A at hD ⊢
  have hA : ∀ q : Nat, s.heap.size ≤ q → A q := fun q h => by rw [← hAe]; exact Or.inr h
  have hS : va_S A s.heap s.heap [] := va_S.rf
  have hl := lv_entry ([.ref dM, .int q1, .int q2, .int q3]) (n := 4) (Nat.le_of_ble_eq_true rfl)
  rw [lg_entry_eq]
  generalize (lg_sl ([.ref dM, .int q1, .int q2, .int q3]) ++ List.replicate (4 - (lg_sl ([.ref dM, .int q1, .int q2, .int q3])).length) Slot.unset).toArray = ls at hl ⊢
  have hl : lv_has ls 4 [(0, .ref dM), (1, .int q1), (2, .int q2), (3, .int q3)] := hl
  refine lv_aload_n hx hb d_mPerson_0 rfl (lv_at hl 0 rfl) ?_
  refine lv_iconst (v := 0) hx hb d_mPerson_1 (by decide) ?_
  refine va_put (D := (dC, dI)) (ci := 4) (v := .int 0) (ty := .int) (C := R_Mod) (T := T_Mod) (N := 24) hx hb hts in_Mod ty_Mod tyok_Mod nm_Mod hown hK hP hD hS 0 rfl rfl 0 (by decide) (hts _ mw_340) (fun _ h9 => h9) rfl (by decide +kernel) rfl rfl (Nat.le_of_ble_eq_true rfl) d_mPerson_2 (fun H locs hP hD hS => ?_)
  have hP : va_P (dC, dI) vwCl (w_Mod cI cZ dM dM0 dM1 dM2 dM3 dM4 dM5 dM6 dM7 dM8 dM9 dM10 dM11 dM12 dM13 (ρ 0) (ρ 1) (ρ 2) (ρ 3) (ρ 4) (ρ 5) (ρ 6) (ρ 7) (ρ 8) (ρ 9) (ρ 10) (ρ 11) (ρ 12) (ρ 13) 0 (ρ 15 0) (ρ 16 0) (ρ 17 0) (ρ 18 0) (ρ 19 0) (ρ 20 0) (ρ 21 0) (ρ 22 0) (ρ 23 0)) H := hP
  have hD : va_D A (w_Mod cI cZ dM dM0 dM1 dM2 dM3 dM4 dM5 dM6 dM7 dM8 dM9 dM10 dM11 dM12 dM13 (ρ 0) (ρ 1) (ρ 2) (ρ 3) (ρ 4) (ρ 5) (ρ 6) (ρ 7) (ρ 8) (ρ 9) (ρ 10) (ρ 11) (ρ 12) (ρ 13) 0 (ρ 15 0) (ρ 16 0) (ρ 17 0) (ρ 18 0) (ρ 19 0) (ρ 20 0) (ρ 21 0) (ρ 22 0) (ρ 23 0)) := hD
  refine lv_iload_n hx hb d_mPerson_5 rfl (lv_at hl 1 rfl) ?_
  refine xc_S0 (As := [.int q1]) (rest := []) ⟨hx, hb, hml, hown, hts⟩ hT (c_mIsP l q1) ⟨xw_B 1 hts mw_419 mw_19 mw_417 rfl rfl (by decide +kernel) ⟨Nat.le_of_ble_eq_true rfl, Nat.le_of_ble_eq_true rfl⟩, hts _ mw_418⟩ rfl hl.1 rfl (Nat.le_of_ble_eq_true rfl) d_mPerson_6 ⟨Nat.zero_le _, Nat.zero_le _⟩ (fun r hw => ?_)
  subst hw
  refine lv_if_eq (tgt := 21) hx hb d_mPerson_9 (by decide) (fun c_1 => ?_) (fun c_1 => ?_)
  · refine lv_iconst (v := 0) hx hb d_mPerson_21 (by decide) ?_
    have hF : F_mPerson ρ q1 q2 q3 = (0, (ss ρ 14 (fun _ => 0))) := (if_pos c_1).trans rfl
    exact W.iret (v := 0) hx hb hr (fun t ht hW => ⟨⟨0, (ss ρ 14 (fun _ => 0)), rfl, ⟨(congrArg Prod.fst hF).symm, (congrArg Prod.snd hF).symm⟩, by rw [ht]; exact hP, hD⟩, hS.F ht⟩) hS.2.2 d_mPerson_22
  · refine lv_iload_n hx hb d_mPerson_12 rfl (lv_at hl 3 rfl) ?_
    refine lv_if_lt (tgt := 21) hx hb d_mPerson_13 (by decide) (fun c_2 => ?_) (fun c_2 => ?_)
    · refine lv_iconst (v := 0) hx hb d_mPerson_21 (by decide) ?_
      have hF : F_mPerson ρ q1 q2 q3 = (0, (ss ρ 14 (fun _ => 0))) := (if_neg c_1).trans ((if_pos c_2).trans rfl)
      exact W.iret (v := 0) hx hb hr (fun t ht hW => ⟨⟨0, (ss ρ 14 (fun _ => 0)), rfl, ⟨(congrArg Prod.fst hF).symm, (congrArg Prod.snd hF).symm⟩, by rw [ht]; exact hP, hD⟩, hS.F ht⟩) hS.2.2 d_mPerson_22
    · refine lv_iload_n hx hb d_mPerson_16 rfl (lv_at hl 3 rfl) ?_
      refine lv_iconst (v := 2) hx hb d_mPerson_17 (by decide) ?_
      refine lv_icmp_le (tgt := 23) hx hb d_mPerson_18 (by decide) (fun c_3 => ?_) (fun c_3 => ?_)
      · refine lv_aload_n hx hb d_mPerson_23 rfl (lv_at hl 0 rfl) ?_
        refine va_get (D := (dC, dI)) (ci := 4) (v := .ref dM0) (C := R_Mod) (T := T_Mod) (N := 24) hx hb hts in_Mod hown hK hP 0 rfl rfl 2 (by decide) (hts _ mw_342) (fun _ h9 => h9) rfl d_mPerson_24 ?_
        refine lv_iload_n hx hb d_mPerson_27 rfl (lv_at hl 1 rfl) ?_
        refine lv_iload_n hx hb d_mPerson_28 rfl (lv_at hl 2 rfl) ?_
        refine va_iast (n := 40) (f := ρ 0) hx hb hK hP hD hS 1 0 rfl rfl (i := q1) (x := q2) (by first | assumption | exact in_mIsP ‹_› | exact in_mIsI ‹_›) d_mPerson_29 (fun H locs hP hD hS => ?_)
        have hP : va_P (dC, dI) vwCl (w_Mod cI cZ dM dM0 dM1 dM2 dM3 dM4 dM5 dM6 dM7 dM8 dM9 dM10 dM11 dM12 dM13 (upd (ρ 0) q1.toNatClampNeg q2) (ρ 1) (ρ 2) (ρ 3) (ρ 4) (ρ 5) (ρ 6) (ρ 7) (ρ 8) (ρ 9) (ρ 10) (ρ 11) (ρ 12) (ρ 13) 0 (ρ 15 0) (ρ 16 0) (ρ 17 0) (ρ 18 0) (ρ 19 0) (ρ 20 0) (ρ 21 0) (ρ 22 0) (ρ 23 0)) H := hP
        have hD : va_D A (w_Mod cI cZ dM dM0 dM1 dM2 dM3 dM4 dM5 dM6 dM7 dM8 dM9 dM10 dM11 dM12 dM13 (upd (ρ 0) q1.toNatClampNeg q2) (ρ 1) (ρ 2) (ρ 3) (ρ 4) (ρ 5) (ρ 6) (ρ 7) (ρ 8) (ρ 9) (ρ 10) (ρ 11) (ρ 12) (ρ 13) 0 (ρ 15 0) (ρ 16 0) (ρ 17 0) (ρ 18 0) (ρ 19 0) (ρ 20 0) (ρ 21 0) (ρ 22 0) (ρ 23 0)) := hD
        refine lv_aload_n hx hb d_mPerson_30 rfl (lv_at hl 0 rfl) ?_
        refine va_get (D := (dC, dI)) (ci := 4) (v := .ref dM1) (C := R_Mod) (T := T_Mod) (N := 24) hx hb hts in_Mod hown hK hP 0 rfl rfl 3 (by decide) (hts _ mw_343) (fun _ h9 => h9) rfl d_mPerson_31 ?_
        refine lv_iload_n hx hb d_mPerson_34 rfl (lv_at hl 1 rfl) ?_
        refine lv_iload_n hx hb d_mPerson_35 rfl (lv_at hl 3 rfl) ?_
        refine va_iast (n := 40) (f := ρ 1) hx hb hK hP hD hS 2 0 rfl rfl (i := q1) (x := q3) (by first | assumption | exact in_mIsP ‹_› | exact in_mIsI ‹_›) d_mPerson_36 (fun H locs hP hD hS => ?_)
        have hP : va_P (dC, dI) vwCl (w_Mod cI cZ dM dM0 dM1 dM2 dM3 dM4 dM5 dM6 dM7 dM8 dM9 dM10 dM11 dM12 dM13 (upd (ρ 0) q1.toNatClampNeg q2) (upd (ρ 1) q1.toNatClampNeg q3) (ρ 2) (ρ 3) (ρ 4) (ρ 5) (ρ 6) (ρ 7) (ρ 8) (ρ 9) (ρ 10) (ρ 11) (ρ 12) (ρ 13) 0 (ρ 15 0) (ρ 16 0) (ρ 17 0) (ρ 18 0) (ρ 19 0) (ρ 20 0) (ρ 21 0) (ρ 22 0) (ρ 23 0)) H := hP
        have hD : va_D A (w_Mod cI cZ dM dM0 dM1 dM2 dM3 dM4 dM5 dM6 dM7 dM8 dM9 dM10 dM11 dM12 dM13 (upd (ρ 0) q1.toNatClampNeg q2) (upd (ρ 1) q1.toNatClampNeg q3) (ρ 2) (ρ 3) (ρ 4) (ρ 5) (ρ 6) (ρ 7) (ρ 8) (ρ 9) (ρ 10) (ρ 11) (ρ 12) (ρ 13) 0 (ρ 15 0) (ρ 16 0) (ρ 17 0) (ρ 18 0) (ρ 19 0) (ρ 20 0) (ρ 21 0) (ρ 22 0) (ρ 23 0)) := hD
        refine lv_iconst (v := 1) hx hb d_mPerson_37 (by decide) ?_
        have hF : F_mPerson ρ q1 q2 q3 = (1, (ss (ss (ss ρ 0 (upd (ρ 0) q1.toNatClampNeg q2)) 1 (upd (ρ 1) q1.toNatClampNeg q3)) 14 (fun _ => 0))) := (if_neg c_1).trans ((if_neg c_2).trans ((if_pos c_3).trans rfl))
        exact W.iret (v := 1) hx hb hr (fun t ht hW => ⟨⟨1, (ss (ss (ss ρ 0 (upd (ρ 0) q1.toNatClampNeg q2)) 1 (upd (ρ 1) q1.toNatClampNeg q3)) 14 (fun _ => 0)), rfl, ⟨(congrArg Prod.fst hF).symm, (congrArg Prod.snd hF).symm⟩, by rw [ht]; exact hP, hD⟩, hS.F ht⟩) hS.2.2 d_mPerson_38
      · refine lv_iconst (v := 0) hx hb d_mPerson_21 (by decide) ?_
        have hF : F_mPerson ρ q1 q2 q3 = (0, (ss ρ 14 (fun _ => 0))) := (if_neg c_1).trans ((if_neg c_2).trans ((if_neg c_3).trans rfl))
        exact W.iret (v := 0) hx hb hr (fun t ht hW => ⟨⟨0, (ss ρ 14 (fun _ => 0)), rfl, ⟨(congrArg Prod.fst hF).symm, (congrArg Prod.snd hF).symm⟩, by rw [ht]; exact hP, hD⟩, hS.F ht⟩) hS.2.2 d_mPerson_22
