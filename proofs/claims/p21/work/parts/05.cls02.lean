def F_refu (η : SS) (q1 : Int32) (q2 : Int32) : Int32 :=
  if (η 4 q1.toNatClampNeg) = (-1) then
    if (η 5 q1.toNatClampNeg) = (-1) then
      if (F_isBl η q2) = 0 then
        if (F_cntI η q2) < 10 then
          0
        else
          -5
      else
        -4
    else
      if (η 5 q1.toNatClampNeg) = q2 then
        if (F_isBl η q2) = 0 then
          if (F_cntI η q2) < 10 then
            0
          else
            -5
        else
          -4
      else
        -3
  else
    -2
set_option maxHeartbeats 4000000 in
set_option maxRecDepth 100000 in
theorem c_refu (l : Launch) (dC : Nat → ClassId) (dI : Nat → Nat → Nat) (cI cZ : ClassId) (hH hH0 hH1 hH2 hH3 hH4 hH5 hH6 hH7 hH8 : Nat) (η : SS) (q1 : Int32) (q2 : Int32) (hi : vp_in q1 60) (hp : vp_in q2 40) : Met l y_refu [Cond.code y_refu prog_2_method_5_code 3 (some .int)] ({ frames := 2, cells := 0, slots := 0, locals := 42 }) (pcR (dC, dI) (w_House cI cZ hH hH0 hH1 hH2 hH3 hH4 hH5 hH6 hH7 hH8 (η 0) (η 1) (η 2) (η 3) (η 4) (η 5) (η 6) (η 7) (η 8)) (tyC cI cZ) [.ref hH, .int q1, .int q2]) (vp_Si (fun r => r = F_refu η q1 q2)) 0 0 (fun _ => False) := by
  refine Met.ofW (cc := prog_2_method_5_code) (maxL := 3) (ret := (some .int)) (by decide) rfl ?_
  intro p e s m args below meth c s₁ B hml hv
  obtain ⟨rfl, hT, hP, hK⟩ := hv
  have hx := B.exec
  have hb := B.bytes
  have hr := B.returns
  have hts : ∀ w ∈ lw_ok, w.before ([.ref hH, .int q1, .int q2] : List Value).toArray s = true := hT.use
  have hown : s.vm.findClass R_House = some m.cls := findClass_of_methodNamed B.named
  have hlocks := B.notSynchronized
  have hl := lv_entry ([.ref hH, .int q1, .int q2]) (n := 3) (Nat.le_of_ble_eq_true rfl)
  rw [lg_entry_eq]
  generalize (lg_sl ([.ref hH, .int q1, .int q2]) ++ List.replicate (3 - (lg_sl ([.ref hH, .int q1, .int q2])).length) Slot.unset).toArray = ls at hl ⊢
  have hl : lv_has ls 3 [(0, .ref hH), (1, .int q1), (2, .int q2)] := hl
  refine lv_aload_n hx hb d_refu_0 rfl (lv_at hl 0 rfl) ?_
  refine va_get (D := (dC, dI)) (ci := 0) (v := .ref hH4) (C := R_House) (T := T_House) (N := 9) hx hb hts in_House hown hK hP 0 rfl rfl 4 (by decide) (hts _ mw_51) (fun _ h9 => h9) rfl d_refu_1 ?_
  refine lv_iload_n hx hb d_refu_4 rfl (lv_at hl 1 rfl) ?_
  refine va_iald (n := 60) (f := η 4) hx hb hK hP 5 0 rfl rfl (i := q1) (by first | assumption) d_refu_5 ?_
  refine lv_iconst (v := -1) hx hb d_refu_6 (by decide) ?_
  refine lv_icmp_eq (tgt := 13) hx hb d_refu_7 (by decide) (fun c_1 => ?_) (fun c_1 => ?_)
  · refine lv_aload_n hx hb d_refu_13 rfl (lv_at hl 0 rfl) ?_
    refine va_get (D := (dC, dI)) (ci := 0) (v := .ref hH5) (C := R_House) (T := T_House) (N := 9) hx hb hts in_House hown hK hP 0 rfl rfl 5 (by decide) (hts _ mw_53) (fun _ h9 => h9) rfl d_refu_14 ?_
    refine lv_iload_n hx hb d_refu_17 rfl (lv_at hl 1 rfl) ?_
    refine va_iald (n := 60) (f := η 5) hx hb hK hP 6 0 rfl rfl (i := q1) (by first | assumption) d_refu_18 ?_
    refine lv_iconst (v := -1) hx hb d_refu_19 (by decide) ?_
    refine lv_icmp_eq (tgt := 36) hx hb d_refu_20 (by decide) (fun c_2 => ?_) (fun c_2 => ?_)
    · refine lv_aload_n hx hb d_refu_36 rfl (lv_at hl 0 rfl) ?_
      refine lv_iload_n hx hb d_refu_37 rfl (lv_at hl 2 rfl) ?_
      refine xc_VR (As := [.int q2]) (rest := []) (ci := 0) ⟨hx, hb, hml, hown, hts⟩ hT hK hP (c_isBl l dC dI cI cZ hH hH0 hH1 hH2 hH3 hH4 hH5 hH6 hH7 hH8 η q2 (by first | assumption)) [0, 1, 2, 3, 4, 5, 6, 7, 8, 9] rfl (xw_V 1 hts mw_163 mw_15 mw_224 mw_161 mw_162 rfl rfl (by decide +kernel) ⟨Nat.le_of_ble_eq_true rfl, Nat.le_of_ble_eq_true rfl⟩) rfl rfl rfl hl.1 rfl (Nat.le_of_ble_eq_true rfl) d_refu_38 ⟨Nat.zero_le _, Nat.zero_le _⟩ (fun r hw => ?_)
      subst hw
      refine lv_if_eq (tgt := 47) hx hb d_refu_41 (by decide) (fun c_3 => ?_) (fun c_3 => ?_)
      · refine lv_aload_n hx hb d_refu_47 rfl (lv_at hl 0 rfl) ?_
        refine lv_iload_n hx hb d_refu_48 rfl (lv_at hl 2 rfl) ?_
        refine xc_VR (As := [.int q2]) (rest := []) (ci := 0) ⟨hx, hb, hml, hown, hts⟩ hT hK hP (c_cntI l dC dI cI cZ hH hH0 hH1 hH2 hH3 hH4 hH5 hH6 hH7 hH8 η q2) [0, 1, 2, 3, 4, 5, 6, 7, 8, 9] rfl (xw_V 1 hts mw_228 mw_15 mw_225 mw_226 mw_227 rfl rfl (by decide +kernel) ⟨Nat.le_of_ble_eq_true rfl, Nat.le_of_ble_eq_true rfl⟩) rfl rfl rfl hl.1 rfl (Nat.le_of_ble_eq_true rfl) d_refu_49 ⟨Nat.zero_le _, Nat.zero_le _⟩ (fun r hw => ?_)
        subst hw
        refine lv_bipush (v := 10) hx hb d_refu_52 (by decide) ?_
        refine lv_icmp_lt (tgt := 62) hx hb d_refu_54 (by decide) (fun c_4 => ?_) (fun c_4 => ?_)
        · refine lv_iconst (v := 0) hx hb d_refu_62 (by decide) ?_
          have hF : F_refu η q1 q2 = 0 := (if_pos c_1).trans ((if_pos c_2).trans ((if_pos c_3).trans ((if_pos c_4).trans rfl)))
          exact W.iret (v := 0) hx hb hr (fun t ht hW => ⟨0, rfl, hF.symm, ht⟩) (fun _ h => absurd h List.not_mem_nil) d_refu_63
        · refine lv_bipush (v := -5) hx hb d_refu_57 (by decide) ?_
          refine lv_goto (tgt := 63) hx hb d_refu_59 (by decide) ?_
          have hF : F_refu η q1 q2 = -5 := (if_pos c_1).trans ((if_pos c_2).trans ((if_pos c_3).trans ((if_neg c_4).trans rfl)))
          exact W.iret (v := -5) hx hb hr (fun t ht hW => ⟨-5, rfl, hF.symm, ht⟩) (fun _ h => absurd h List.not_mem_nil) d_refu_63
      · refine lv_bipush (v := -4) hx hb d_refu_44 (by decide) ?_
        have hF : F_refu η q1 q2 = -4 := (if_pos c_1).trans ((if_pos c_2).trans ((if_neg c_3).trans rfl))
        exact W.iret (v := -4) hx hb hr (fun t ht hW => ⟨-4, rfl, hF.symm, ht⟩) (fun _ h => absurd h List.not_mem_nil) d_refu_46
    · refine lv_aload_n hx hb d_refu_23 rfl (lv_at hl 0 rfl) ?_
      refine va_get (D := (dC, dI)) (ci := 0) (v := .ref hH5) (C := R_House) (T := T_House) (N := 9) hx hb hts in_House hown hK hP 0 rfl rfl 5 (by decide) (hts _ mw_53) (fun _ h9 => h9) rfl d_refu_24 ?_
      refine lv_iload_n hx hb d_refu_27 rfl (lv_at hl 1 rfl) ?_
      refine va_iald (n := 60) (f := η 5) hx hb hK hP 6 0 rfl rfl (i := q1) (by first | assumption) d_refu_28 ?_
      refine lv_iload_n hx hb d_refu_29 rfl (lv_at hl 2 rfl) ?_
      refine lv_icmp_eq (tgt := 36) hx hb d_refu_30 (by decide) (fun c_5 => ?_) (fun c_5 => ?_)
      · refine lv_aload_n hx hb d_refu_36 rfl (lv_at hl 0 rfl) ?_
        refine lv_iload_n hx hb d_refu_37 rfl (lv_at hl 2 rfl) ?_
        refine xc_VR (As := [.int q2]) (rest := []) (ci := 0) ⟨hx, hb, hml, hown, hts⟩ hT hK hP (c_isBl l dC dI cI cZ hH hH0 hH1 hH2 hH3 hH4 hH5 hH6 hH7 hH8 η q2 (by first | assumption)) [0, 1, 2, 3, 4, 5, 6, 7, 8, 9] rfl (xw_V 1 hts mw_163 mw_15 mw_224 mw_161 mw_162 rfl rfl (by decide +kernel) ⟨Nat.le_of_ble_eq_true rfl, Nat.le_of_ble_eq_true rfl⟩) rfl rfl rfl hl.1 rfl (Nat.le_of_ble_eq_true rfl) d_refu_38 ⟨Nat.zero_le _, Nat.zero_le _⟩ (fun r hw => ?_)
        subst hw
        refine lv_if_eq (tgt := 47) hx hb d_refu_41 (by decide) (fun c_6 => ?_) (fun c_6 => ?_)
        · refine lv_aload_n hx hb d_refu_47 rfl (lv_at hl 0 rfl) ?_
          refine lv_iload_n hx hb d_refu_48 rfl (lv_at hl 2 rfl) ?_
          refine xc_VR (As := [.int q2]) (rest := []) (ci := 0) ⟨hx, hb, hml, hown, hts⟩ hT hK hP (c_cntI l dC dI cI cZ hH hH0 hH1 hH2 hH3 hH4 hH5 hH6 hH7 hH8 η q2) [0, 1, 2, 3, 4, 5, 6, 7, 8, 9] rfl (xw_V 1 hts mw_228 mw_15 mw_225 mw_226 mw_227 rfl rfl (by decide +kernel) ⟨Nat.le_of_ble_eq_true rfl, Nat.le_of_ble_eq_true rfl⟩) rfl rfl rfl hl.1 rfl (Nat.le_of_ble_eq_true rfl) d_refu_49 ⟨Nat.zero_le _, Nat.zero_le _⟩ (fun r hw => ?_)
          subst hw
          refine lv_bipush (v := 10) hx hb d_refu_52 (by decide) ?_
          refine lv_icmp_lt (tgt := 62) hx hb d_refu_54 (by decide) (fun c_7 => ?_) (fun c_7 => ?_)
          · refine lv_iconst (v := 0) hx hb d_refu_62 (by decide) ?_
            have hF : F_refu η q1 q2 = 0 := (if_pos c_1).trans ((if_neg c_2).trans ((if_pos c_5).trans ((if_pos c_6).trans ((if_pos c_7).trans rfl))))
            exact W.iret (v := 0) hx hb hr (fun t ht hW => ⟨0, rfl, hF.symm, ht⟩) (fun _ h => absurd h List.not_mem_nil) d_refu_63
          · refine lv_bipush (v := -5) hx hb d_refu_57 (by decide) ?_
            refine lv_goto (tgt := 63) hx hb d_refu_59 (by decide) ?_
            have hF : F_refu η q1 q2 = -5 := (if_pos c_1).trans ((if_neg c_2).trans ((if_pos c_5).trans ((if_pos c_6).trans ((if_neg c_7).trans rfl))))
            exact W.iret (v := -5) hx hb hr (fun t ht hW => ⟨-5, rfl, hF.symm, ht⟩) (fun _ h => absurd h List.not_mem_nil) d_refu_63
        · refine lv_bipush (v := -4) hx hb d_refu_44 (by decide) ?_
          have hF : F_refu η q1 q2 = -4 := (if_pos c_1).trans ((if_neg c_2).trans ((if_pos c_5).trans ((if_neg c_6).trans rfl)))
          exact W.iret (v := -4) hx hb hr (fun t ht hW => ⟨-4, rfl, hF.symm, ht⟩) (fun _ h => absurd h List.not_mem_nil) d_refu_46
      · refine lv_bipush (v := -3) hx hb d_refu_33 (by decide) ?_
        have hF : F_refu η q1 q2 = -3 := (if_pos c_1).trans ((if_neg c_2).trans ((if_neg c_5).trans rfl))
        exact W.iret (v := -3) hx hb hr (fun t ht hW => ⟨-3, rfl, hF.symm, ht⟩) (fun _ h => absurd h List.not_mem_nil) d_refu_35
  · refine lv_bipush (v := -2) hx hb d_refu_10 (by decide) ?_
    have hF : F_refu η q1 q2 = -2 := (if_neg c_1).trans rfl
    exact W.iret (v := -2) hx hb hr (fun t ht hW => ⟨-2, rfl, hF.symm, ht⟩) (fun _ h => absurd h List.not_mem_nil) d_refu_12
def F_giveO (η : SS) (q1 : Int32) (q2 : Int32) : SS :=
  if (η 5 q1.toNatClampNeg) = q2 then
    if (η 7 q1.toNatClampNeg) = (-1) then
      (ss (ss (ss η 4 (upd (η 4) q1.toNatClampNeg q2)) 5 (upd (η 5) q1.toNatClampNeg (-1))) 6 (upd (η 6) q1.toNatClampNeg (vp_nar .boolean 0)))
    else
      (ss (ss (ss (ss (ss η 4 (upd (η 4) q1.toNatClampNeg q2)) 5 (upd (η 5) q1.toNatClampNeg (-1))) 6 (upd (η 6) q1.toNatClampNeg (vp_nar .boolean 0))) 7 (upd (η 7) q1.toNatClampNeg (-1))) 8 (upd (η 8) (η 7 q1.toNatClampNeg).toNatClampNeg (-1)))
  else
    if (η 7 q1.toNatClampNeg) = (-1) then
      (ss (ss η 4 (upd (η 4) q1.toNatClampNeg q2)) 6 (upd (η 6) q1.toNatClampNeg (vp_nar .boolean 0)))
    else
      (ss (ss (ss (ss η 4 (upd (η 4) q1.toNatClampNeg q2)) 6 (upd (η 6) q1.toNatClampNeg (vp_nar .boolean 0))) 7 (upd (η 7) q1.toNatClampNeg (-1))) 8 (upd (η 8) (η 7 q1.toNatClampNeg).toNatClampNeg (-1)))
set_option maxHeartbeats 4000000 in
set_option maxRecDepth 100000 in
theorem c_giveO (l : Launch) (dC : Nat → ClassId) (dI : Nat → Nat → Nat) (cI cZ : ClassId) (hH hH0 hH1 hH2 hH3 hH4 hH5 hH6 hH7 hH8 : Nat) (sz : Nat) (η : SS) (q1 : Int32) (q2 : Int32) (hi : vp_in q1 60) (hk : η 7 q1.toNatClampNeg = -1 ∨ vp_in (η 7 q1.toNatClampNeg) 10) : Met l y_giveO [Cond.code y_giveO prog_2_method_6_code 4 none] ({ frames := 0, cells := 0, slots := 0, locals := 0 }) (pcW (dC, dI) (w_House cI cZ hH hH0 hH1 hH2 hH3 hH4 hH5 hH6 hH7 hH8 (η 0) (η 1) (η 2) (η 3) (η 4) (η 5) (η 6) (η 7) (η 8)) (tyC cI cZ) sz [.ref hH, .int q1, .int q2]) (qV (fun u => u = F_giveO η q1 q2) (dC, dI) (fun u : SS => w_House cI cZ hH hH0 hH1 hH2 hH3 hH4 hH5 hH6 hH7 hH8 (u 0) (u 1) (u 2) (u 3) (u 4) (u 5) (u 6) (u 7) (u 8)) (va_A (w_House cI cZ hH hH0 hH1 hH2 hH3 hH4 hH5 hH6 hH7 hH8 (η 0) (η 1) (η 2) (η 3) (η 4) (η 5) (η 6) (η 7) (η 8)) sz)) 0 0 (va_A (w_House cI cZ hH hH0 hH1 hH2 hH3 hH4 hH5 hH6 hH7 hH8 (η 0) (η 1) (η 2) (η 3) (η 4) (η 5) (η 6) (η 7) (η 8)) sz) := by
  refine Met.ofW (cc := prog_2_method_6_code) (maxL := 4) (ret := none) (by decide) rfl ?_
  intro p e s m args below meth c s₁ B hml hv
  obtain ⟨rfl, hsz, hT, hP, hK, hD0⟩ := hv
  have hx := B.exec
  have hb := B.bytes
  have hr := B.returns
  have hts : ∀ w ∈ lw_ok, w.before ([.ref hH, .int q1, .int q2] : List Value).toArray s = true := hT.use
  have hown : s.vm.findClass R_House = some m.cls := findClass_of_methodNamed B.named
  have hlocks := B.notSynchronized
  subst hsz
  have hD := hD0.self (sz := s.heap.size)
  generalize hAe : va_A (w_House cI cZ hH hH0 hH1 hH2 hH3 hH4 hH5 hH6 hH7 hH8 (η 0) (η 1) (η 2) (η 3) (η 4) (η 5) (η 6) (η 7) (η 8)) s.heap.size = A at hD ⊢
  have hA : ∀ q : Nat, s.heap.size ≤ q → A q := fun q h => by rw [← hAe]; exact Or.inr h
  have hS : va_S A s.heap s.heap [] := va_S.rf
  have hl := lv_entry ([.ref hH, .int q1, .int q2]) (n := 4) (Nat.le_of_ble_eq_true rfl)
  rw [lg_entry_eq]
  generalize (lg_sl ([.ref hH, .int q1, .int q2]) ++ List.replicate (4 - (lg_sl ([.ref hH, .int q1, .int q2])).length) Slot.unset).toArray = ls at hl ⊢
  have hl : lv_has ls 4 [(0, .ref hH), (1, .int q1), (2, .int q2)] := hl
  refine lv_aload_n hx hb d_giveO_0 rfl (lv_at hl 0 rfl) ?_
  refine va_get (D := (dC, dI)) (ci := 0) (v := .ref hH4) (C := R_House) (T := T_House) (N := 9) hx hb hts in_House hown hK hP 0 rfl rfl 4 (by decide) (hts _ mw_51) (fun _ h9 => h9) rfl d_giveO_1 ?_
  refine lv_iload_n hx hb d_giveO_4 rfl (lv_at hl 1 rfl) ?_
  refine lv_iload_n hx hb d_giveO_5 rfl (lv_at hl 2 rfl) ?_
  refine va_iast (n := 60) (f := η 4) hx hb hK hP hD hS 5 0 rfl rfl (i := q1) (x := q2) (by first | assumption | exact (hk.resolve_left ‹_›)) d_giveO_6 (fun H locs hP hD hS => ?_)
  have hP : va_P (dC, dI) vwCl (w_House cI cZ hH hH0 hH1 hH2 hH3 hH4 hH5 hH6 hH7 hH8 (η 0) (η 1) (η 2) (η 3) (upd (η 4) q1.toNatClampNeg q2) (η 5) (η 6) (η 7) (η 8)) H := hP
  have hD : va_D A (w_House cI cZ hH hH0 hH1 hH2 hH3 hH4 hH5 hH6 hH7 hH8 (η 0) (η 1) (η 2) (η 3) (upd (η 4) q1.toNatClampNeg q2) (η 5) (η 6) (η 7) (η 8)) := hD
  refine lv_aload_n hx hb d_giveO_7 rfl (lv_at hl 0 rfl) ?_
  refine va_get (D := (dC, dI)) (ci := 0) (v := .ref hH6) (C := R_House) (T := T_House) (N := 9) hx hb hts in_House hown hK hP 0 rfl rfl 6 (by decide) (hts _ mw_55) (fun _ h9 => h9) rfl d_giveO_8 ?_
  refine lv_iload_n hx hb d_giveO_11 rfl (lv_at hl 1 rfl) ?_
  refine lv_iconst (v := 0) hx hb d_giveO_12 (by decide) ?_
  refine va_zast (n := 60) (f := η 6) hx hb hK hP hD hS 7 1 rfl rfl (i := q1) (x := 0) (by first | assumption | exact (hk.resolve_left ‹_›)) d_giveO_13 (fun H locs hP hD hS => ?_)
  have hP : va_P (dC, dI) vwCl (w_House cI cZ hH hH0 hH1 hH2 hH3 hH4 hH5 hH6 hH7 hH8 (η 0) (η 1) (η 2) (η 3) (upd (η 4) q1.toNatClampNeg q2) (η 5) (upd (η 6) q1.toNatClampNeg (vp_nar .boolean 0)) (η 7) (η 8)) H := hP
  have hD : va_D A (w_House cI cZ hH hH0 hH1 hH2 hH3 hH4 hH5 hH6 hH7 hH8 (η 0) (η 1) (η 2) (η 3) (upd (η 4) q1.toNatClampNeg q2) (η 5) (upd (η 6) q1.toNatClampNeg (vp_nar .boolean 0)) (η 7) (η 8)) := hD
  refine lv_aload_n hx hb d_giveO_14 rfl (lv_at hl 0 rfl) ?_
  refine va_get (D := (dC, dI)) (ci := 0) (v := .ref hH5) (C := R_House) (T := T_House) (N := 9) hx hb hts in_House hown hK hP 0 rfl rfl 5 (by decide) (hts _ mw_53) (fun _ h9 => h9) rfl d_giveO_15 ?_
  refine lv_iload_n hx hb d_giveO_18 rfl (lv_at hl 1 rfl) ?_
  refine va_iald (n := 60) (f := η 5) hx hb hK hP 6 0 rfl rfl (i := q1) (by first | assumption | exact (hk.resolve_left ‹_›)) d_giveO_19 ?_
  refine lv_iload_n hx hb d_giveO_20 rfl (lv_at hl 2 rfl) ?_
  refine lv_icmp_ne (tgt := 31) hx hb d_giveO_21 (by decide) (fun c_1 => ?_) (fun c_1 => ?_)
  · refine lv_aload_n hx hb d_giveO_31 rfl (lv_at hl 0 rfl) ?_
    refine va_get (D := (dC, dI)) (ci := 0) (v := .ref hH7) (C := R_House) (T := T_House) (N := 9) hx hb hts in_House hown hK hP 0 rfl rfl 7 (by decide) (hts _ mw_57) (fun _ h9 => h9) rfl d_giveO_32 ?_
    refine lv_iload_n hx hb d_giveO_35 rfl (lv_at hl 1 rfl) ?_
    refine va_iald (n := 60) (f := η 7) hx hb hK hP 8 0 rfl rfl (i := q1) (by first | assumption | exact (hk.resolve_left ‹_›)) d_giveO_36 ?_
    refine lv_istore_n (lv' := [(3, .int (η 7 q1.toNatClampNeg)), (0, .ref hH), (1, .int q1), (2, .int q2)]) hx hb d_giveO_37 rfl hl (by decide) rfl (fun ls hl => ?_)
    refine lv_iload_n hx hb d_giveO_38 rfl (lv_at hl 0 rfl) ?_
    refine lv_iconst (v := -1) hx hb d_giveO_39 (by decide) ?_
    refine lv_icmp_eq (tgt := 57) hx hb d_giveO_40 (by decide) (fun c_2 => ?_) (fun c_2 => ?_)
    · have hF : F_giveO η q1 q2 = (ss (ss η 4 (upd (η 4) q1.toNatClampNeg q2)) 6 (upd (η 6) q1.toNatClampNeg (vp_nar .boolean 0))) := (if_neg c_1).trans ((if_pos c_2).trans rfl)
      exact W.vret hx hb hr (fun t ht hW => ⟨⟨(ss (ss η 4 (upd (η 4) q1.toNatClampNeg q2)) 6 (upd (η 6) q1.toNatClampNeg (vp_nar .boolean 0))), rfl, hF.symm, by rw [ht]; exact hP, hD⟩, hS.F ht⟩) hS.2.2 d_giveO_57
    · refine lv_aload_n hx hb d_giveO_43 rfl (lv_at hl 1 rfl) ?_
      refine va_get (D := (dC, dI)) (ci := 0) (v := .ref hH8) (C := R_House) (T := T_House) (N := 9) hx hb hts in_House hown hK hP 0 rfl rfl 8 (by decide) (hts _ mw_59) (fun _ h9 => h9) rfl d_giveO_44 ?_
      refine lv_iload_n hx hb d_giveO_47 rfl (lv_at hl 0 rfl) ?_
      refine lv_iconst (v := -1) hx hb d_giveO_48 (by decide) ?_
      refine va_iast (n := 10) (f := η 8) hx hb hK hP hD hS 9 0 rfl rfl (i := η 7 q1.toNatClampNeg) (x := -1) (by first | assumption | exact (hk.resolve_left ‹_›)) d_giveO_49 (fun H locs hP hD hS => ?_)
      have hP : va_P (dC, dI) vwCl (w_House cI cZ hH hH0 hH1 hH2 hH3 hH4 hH5 hH6 hH7 hH8 (η 0) (η 1) (η 2) (η 3) (upd (η 4) q1.toNatClampNeg q2) (η 5) (upd (η 6) q1.toNatClampNeg (vp_nar .boolean 0)) (η 7) (upd (η 8) (η 7 q1.toNatClampNeg).toNatClampNeg (-1))) H := hP
      have hD : va_D A (w_House cI cZ hH hH0 hH1 hH2 hH3 hH4 hH5 hH6 hH7 hH8 (η 0) (η 1) (η 2) (η 3) (upd (η 4) q1.toNatClampNeg q2) (η 5) (upd (η 6) q1.toNatClampNeg (vp_nar .boolean 0)) (η 7) (upd (η 8) (η 7 q1.toNatClampNeg).toNatClampNeg (-1))) := hD
      refine lv_aload_n hx hb d_giveO_50 rfl (lv_at hl 1 rfl) ?_
      refine va_get (D := (dC, dI)) (ci := 0) (v := .ref hH7) (C := R_House) (T := T_House) (N := 9) hx hb hts in_House hown hK hP 0 rfl rfl 7 (by decide) (hts _ mw_57) (fun _ h9 => h9) rfl d_giveO_51 ?_
      refine lv_iload_n hx hb d_giveO_54 rfl (lv_at hl 2 rfl) ?_
      refine lv_iconst (v := -1) hx hb d_giveO_55 (by decide) ?_
      refine va_iast (n := 60) (f := η 7) hx hb hK hP hD hS 8 0 rfl rfl (i := q1) (x := -1) (by first | assumption | exact (hk.resolve_left ‹_›)) d_giveO_56 (fun H locs hP hD hS => ?_)
      have hP : va_P (dC, dI) vwCl (w_House cI cZ hH hH0 hH1 hH2 hH3 hH4 hH5 hH6 hH7 hH8 (η 0) (η 1) (η 2) (η 3) (upd (η 4) q1.toNatClampNeg q2) (η 5) (upd (η 6) q1.toNatClampNeg (vp_nar .boolean 0)) (upd (η 7) q1.toNatClampNeg (-1)) (upd (η 8) (η 7 q1.toNatClampNeg).toNatClampNeg (-1))) H := hP
      have hD : va_D A (w_House cI cZ hH hH0 hH1 hH2 hH3 hH4 hH5 hH6 hH7 hH8 (η 0) (η 1) (η 2) (η 3) (upd (η 4) q1.toNatClampNeg q2) (η 5) (upd (η 6) q1.toNatClampNeg (vp_nar .boolean 0)) (upd (η 7) q1.toNatClampNeg (-1)) (upd (η 8) (η 7 q1.toNatClampNeg).toNatClampNeg (-1))) := hD
      have hF : F_giveO η q1 q2 = (ss (ss (ss (ss η 4 (upd (η 4) q1.toNatClampNeg q2)) 6 (upd (η 6) q1.toNatClampNeg (vp_nar .boolean 0))) 7 (upd (η 7) q1.toNatClampNeg (-1))) 8 (upd (η 8) (η 7 q1.toNatClampNeg).toNatClampNeg (-1))) := (if_neg c_1).trans ((if_neg c_2).trans rfl)
      exact W.vret hx hb hr (fun t ht hW => ⟨⟨(ss (ss (ss (ss η 4 (upd (η 4) q1.toNatClampNeg q2)) 6 (upd (η 6) q1.toNatClampNeg (vp_nar .boolean 0))) 7 (upd (η 7) q1.toNatClampNeg (-1))) 8 (upd (η 8) (η 7 q1.toNatClampNeg).toNatClampNeg (-1))), rfl, hF.symm, by rw [ht]; exact hP, hD⟩, hS.F ht⟩) hS.2.2 d_giveO_57
  · refine lv_aload_n hx hb d_giveO_24 rfl (lv_at hl 0 rfl) ?_
    refine va_get (D := (dC, dI)) (ci := 0) (v := .ref hH5) (C := R_House) (T := T_House) (N := 9) hx hb hts in_House hown hK hP 0 rfl rfl 5 (by decide) (hts _ mw_53) (fun _ h9 => h9) rfl d_giveO_25 ?_
    refine lv_iload_n hx hb d_giveO_28 rfl (lv_at hl 1 rfl) ?_
    refine lv_iconst (v := -1) hx hb d_giveO_29 (by decide) ?_
    refine va_iast (n := 60) (f := η 5) hx hb hK hP hD hS 6 0 rfl rfl (i := q1) (x := -1) (by first | assumption | exact (hk.resolve_left ‹_›)) d_giveO_30 (fun H locs hP hD hS => ?_)
    have hP : va_P (dC, dI) vwCl (w_House cI cZ hH hH0 hH1 hH2 hH3 hH4 hH5 hH6 hH7 hH8 (η 0) (η 1) (η 2) (η 3) (upd (η 4) q1.toNatClampNeg q2) (upd (η 5) q1.toNatClampNeg (-1)) (upd (η 6) q1.toNatClampNeg (vp_nar .boolean 0)) (η 7) (η 8)) H := hP
    have hD : va_D A (w_House cI cZ hH hH0 hH1 hH2 hH3 hH4 hH5 hH6 hH7 hH8 (η 0) (η 1) (η 2) (η 3) (upd (η 4) q1.toNatClampNeg q2) (upd (η 5) q1.toNatClampNeg (-1)) (upd (η 6) q1.toNatClampNeg (vp_nar .boolean 0)) (η 7) (η 8)) := hD
    refine lv_aload_n hx hb d_giveO_31 rfl (lv_at hl 0 rfl) ?_
    refine va_get (D := (dC, dI)) (ci := 0) (v := .ref hH7) (C := R_House) (T := T_House) (N := 9) hx hb hts in_House hown hK hP 0 rfl rfl 7 (by decide) (hts _ mw_57) (fun _ h9 => h9) rfl d_giveO_32 ?_
    refine lv_iload_n hx hb d_giveO_35 rfl (lv_at hl 1 rfl) ?_
    refine va_iald (n := 60) (f := η 7) hx hb hK hP 8 0 rfl rfl (i := q1) (by first | assumption | exact (hk.resolve_left ‹_›)) d_giveO_36 ?_
    refine lv_istore_n (lv' := [(3, .int (η 7 q1.toNatClampNeg)), (0, .ref hH), (1, .int q1), (2, .int q2)]) hx hb d_giveO_37 rfl hl (by decide) rfl (fun ls hl => ?_)
    refine lv_iload_n hx hb d_giveO_38 rfl (lv_at hl 0 rfl) ?_
    refine lv_iconst (v := -1) hx hb d_giveO_39 (by decide) ?_
    refine lv_icmp_eq (tgt := 57) hx hb d_giveO_40 (by decide) (fun c_3 => ?_) (fun c_3 => ?_)
    · have hF : F_giveO η q1 q2 = (ss (ss (ss η 4 (upd (η 4) q1.toNatClampNeg q2)) 5 (upd (η 5) q1.toNatClampNeg (-1))) 6 (upd (η 6) q1.toNatClampNeg (vp_nar .boolean 0))) := (if_pos c_1).trans ((if_pos c_3).trans rfl)
      exact W.vret hx hb hr (fun t ht hW => ⟨⟨(ss (ss (ss η 4 (upd (η 4) q1.toNatClampNeg q2)) 5 (upd (η 5) q1.toNatClampNeg (-1))) 6 (upd (η 6) q1.toNatClampNeg (vp_nar .boolean 0))), rfl, hF.symm, by rw [ht]; exact hP, hD⟩, hS.F ht⟩) hS.2.2 d_giveO_57
    · refine lv_aload_n hx hb d_giveO_43 rfl (lv_at hl 1 rfl) ?_
      refine va_get (D := (dC, dI)) (ci := 0) (v := .ref hH8) (C := R_House) (T := T_House) (N := 9) hx hb hts in_House hown hK hP 0 rfl rfl 8 (by decide) (hts _ mw_59) (fun _ h9 => h9) rfl d_giveO_44 ?_
      refine lv_iload_n hx hb d_giveO_47 rfl (lv_at hl 0 rfl) ?_
      refine lv_iconst (v := -1) hx hb d_giveO_48 (by decide) ?_
      refine va_iast (n := 10) (f := η 8) hx hb hK hP hD hS 9 0 rfl rfl (i := η 7 q1.toNatClampNeg) (x := -1) (by first | assumption | exact (hk.resolve_left ‹_›)) d_giveO_49 (fun H locs hP hD hS => ?_)
      have hP : va_P (dC, dI) vwCl (w_House cI cZ hH hH0 hH1 hH2 hH3 hH4 hH5 hH6 hH7 hH8 (η 0) (η 1) (η 2) (η 3) (upd (η 4) q1.toNatClampNeg q2) (upd (η 5) q1.toNatClampNeg (-1)) (upd (η 6) q1.toNatClampNeg (vp_nar .boolean 0)) (η 7) (upd (η 8) (η 7 q1.toNatClampNeg).toNatClampNeg (-1))) H := hP
      have hD : va_D A (w_House cI cZ hH hH0 hH1 hH2 hH3 hH4 hH5 hH6 hH7 hH8 (η 0) (η 1) (η 2) (η 3) (upd (η 4) q1.toNatClampNeg q2) (upd (η 5) q1.toNatClampNeg (-1)) (upd (η 6) q1.toNatClampNeg (vp_nar .boolean 0)) (η 7) (upd (η 8) (η 7 q1.toNatClampNeg).toNatClampNeg (-1))) := hD
      refine lv_aload_n hx hb d_giveO_50 rfl (lv_at hl 1 rfl) ?_
      refine va_get (D := (dC, dI)) (ci := 0) (v := .ref hH7) (C := R_House) (T := T_House) (N := 9) hx hb hts in_House hown hK hP 0 rfl rfl 7 (by decide) (hts _ mw_57) (fun _ h9 => h9) rfl d_giveO_51 ?_
      refine lv_iload_n hx hb d_giveO_54 rfl (lv_at hl 2 rfl) ?_
      refine lv_iconst (v := -1) hx hb d_giveO_55 (by decide) ?_
      refine va_iast (n := 60) (f := η 7) hx hb hK hP hD hS 8 0 rfl rfl (i := q1) (x := -1) (by first | assumption | exact (hk.resolve_left ‹_›)) d_giveO_56 (fun H locs hP hD hS => ?_)
      have hP : va_P (dC, dI) vwCl (w_House cI cZ hH hH0 hH1 hH2 hH3 hH4 hH5 hH6 hH7 hH8 (η 0) (η 1) (η 2) (η 3) (upd (η 4) q1.toNatClampNeg q2) (upd (η 5) q1.toNatClampNeg (-1)) (upd (η 6) q1.toNatClampNeg (vp_nar .boolean 0)) (upd (η 7) q1.toNatClampNeg (-1)) (upd (η 8) (η 7 q1.toNatClampNeg).toNatClampNeg (-1))) H := hP
      have hD : va_D A (w_House cI cZ hH hH0 hH1 hH2 hH3 hH4 hH5 hH6 hH7 hH8 (η 0) (η 1) (η 2) (η 3) (upd (η 4) q1.toNatClampNeg q2) (upd (η 5) q1.toNatClampNeg (-1)) (upd (η 6) q1.toNatClampNeg (vp_nar .boolean 0)) (upd (η 7) q1.toNatClampNeg (-1)) (upd (η 8) (η 7 q1.toNatClampNeg).toNatClampNeg (-1))) := hD
      have hF : F_giveO η q1 q2 = (ss (ss (ss (ss (ss η 4 (upd (η 4) q1.toNatClampNeg q2)) 5 (upd (η 5) q1.toNatClampNeg (-1))) 6 (upd (η 6) q1.toNatClampNeg (vp_nar .boolean 0))) 7 (upd (η 7) q1.toNatClampNeg (-1))) 8 (upd (η 8) (η 7 q1.toNatClampNeg).toNatClampNeg (-1))) := (if_pos c_1).trans ((if_neg c_3).trans rfl)
      exact W.vret hx hb hr (fun t ht hW => ⟨⟨(ss (ss (ss (ss (ss η 4 (upd (η 4) q1.toNatClampNeg q2)) 5 (upd (η 5) q1.toNatClampNeg (-1))) 6 (upd (η 6) q1.toNatClampNeg (vp_nar .boolean 0))) 7 (upd (η 7) q1.toNatClampNeg (-1))) 8 (upd (η 8) (η 7 q1.toNatClampNeg).toNatClampNeg (-1))), rfl, hF.symm, by rw [ht]; exact hP, hD⟩, hS.F ht⟩) hS.2.2 d_giveO_57
def F_takeB (η : SS) (q1 : Int32) : Int32 × SS :=
  if (η 4 q1.toNatClampNeg) = (-1) then
    (2, (ss η 6 (upd (η 6) q1.toNatClampNeg (vp_nar .boolean 1))))
  else
    if (η 5 q1.toNatClampNeg) = (-1) then
      (0, (ss (ss η 4 (upd (η 4) q1.toNatClampNeg (-1))) 6 (upd (η 6) q1.toNatClampNeg (vp_nar .boolean 1))))
    else
      (1, (ss (ss η 4 (upd (η 4) q1.toNatClampNeg (-1))) 6 (upd (η 6) q1.toNatClampNeg (vp_nar .boolean 1))))
set_option maxHeartbeats 4000000 in
set_option maxRecDepth 100000 in
theorem c_takeB (l : Launch) (dC : Nat → ClassId) (dI : Nat → Nat → Nat) (cI cZ : ClassId) (hH hH0 hH1 hH2 hH3 hH4 hH5 hH6 hH7 hH8 : Nat) (sz : Nat) (η : SS) (q1 : Int32) (hi : vp_in q1 60) : Met l y_takeB [Cond.code y_takeB prog_2_method_7_code 2 (some .int)] ({ frames := 0, cells := 0, slots := 0, locals := 0 }) (pcW (dC, dI) (w_House cI cZ hH hH0 hH1 hH2 hH3 hH4 hH5 hH6 hH7 hH8 (η 0) (η 1) (η 2) (η 3) (η 4) (η 5) (η 6) (η 7) (η 8)) (tyC cI cZ) sz [.ref hH, .int q1]) (qI (fun r u => r = (F_takeB η q1).1 ∧ u = (F_takeB η q1).2) (dC, dI) (fun u : SS => w_House cI cZ hH hH0 hH1 hH2 hH3 hH4 hH5 hH6 hH7 hH8 (u 0) (u 1) (u 2) (u 3) (u 4) (u 5) (u 6) (u 7) (u 8)) (va_A (w_House cI cZ hH hH0 hH1 hH2 hH3 hH4 hH5 hH6 hH7 hH8 (η 0) (η 1) (η 2) (η 3) (η 4) (η 5) (η 6) (η 7) (η 8)) sz)) 0 0 (va_A (w_House cI cZ hH hH0 hH1 hH2 hH3 hH4 hH5 hH6 hH7 hH8 (η 0) (η 1) (η 2) (η 3) (η 4) (η 5) (η 6) (η 7) (η 8)) sz) := by
  refine Met.ofW (cc := prog_2_method_7_code) (maxL := 2) (ret := (some .int)) (by decide) rfl ?_
  intro p e s m args below meth c s₁ B hml hv
  obtain ⟨rfl, hsz, hT, hP, hK, hD0⟩ := hv
  have hx := B.exec
  have hb := B.bytes
  have hr := B.returns
  have hts : ∀ w ∈ lw_ok, w.before ([.ref hH, .int q1] : List Value).toArray s = true := hT.use
  have hown : s.vm.findClass R_House = some m.cls := findClass_of_methodNamed B.named
  have hlocks := B.notSynchronized
  subst hsz
  have hD := hD0.self (sz := s.heap.size)
  generalize hAe : va_A (w_House cI cZ hH hH0 hH1 hH2 hH3 hH4 hH5 hH6 hH7 hH8 (η 0) (η 1) (η 2) (η 3) (η 4) (η 5) (η 6) (η 7) (η 8)) s.heap.size = A at hD ⊢
  have hA : ∀ q : Nat, s.heap.size ≤ q → A q := fun q h => by rw [← hAe]; exact Or.inr h
  have hS : va_S A s.heap s.heap [] := va_S.rf
  have hl := lv_entry ([.ref hH, .int q1]) (n := 2) (Nat.le_of_ble_eq_true rfl)
  rw [lg_entry_eq]
  generalize (lg_sl ([.ref hH, .int q1]) ++ List.replicate (2 - (lg_sl ([.ref hH, .int q1])).length) Slot.unset).toArray = ls at hl ⊢
  have hl : lv_has ls 2 [(0, .ref hH), (1, .int q1)] := hl
  refine lv_aload_n hx hb d_takeB_0 rfl (lv_at hl 0 rfl) ?_
  refine va_get (D := (dC, dI)) (ci := 0) (v := .ref hH6) (C := R_House) (T := T_House) (N := 9) hx hb hts in_House hown hK hP 0 rfl rfl 6 (by decide) (hts _ mw_55) (fun _ h9 => h9) rfl d_takeB_1 ?_
  refine lv_iload_n hx hb d_takeB_4 rfl (lv_at hl 1 rfl) ?_
  refine lv_iconst (v := 1) hx hb d_takeB_5 (by decide) ?_
  refine va_zast (n := 60) (f := η 6) hx hb hK hP hD hS 7 1 rfl rfl (i := q1) (x := 1) (by first | assumption) d_takeB_6 (fun H locs hP hD hS => ?_)
  have hP : va_P (dC, dI) vwCl (w_House cI cZ hH hH0 hH1 hH2 hH3 hH4 hH5 hH6 hH7 hH8 (η 0) (η 1) (η 2) (η 3) (η 4) (η 5) (upd (η 6) q1.toNatClampNeg (vp_nar .boolean 1)) (η 7) (η 8)) H := hP
  have hD : va_D A (w_House cI cZ hH hH0 hH1 hH2 hH3 hH4 hH5 hH6 hH7 hH8 (η 0) (η 1) (η 2) (η 3) (η 4) (η 5) (upd (η 6) q1.toNatClampNeg (vp_nar .boolean 1)) (η 7) (η 8)) := hD
  refine lv_aload_n hx hb d_takeB_7 rfl (lv_at hl 0 rfl) ?_
  refine va_get (D := (dC, dI)) (ci := 0) (v := .ref hH4) (C := R_House) (T := T_House) (N := 9) hx hb hts in_House hown hK hP 0 rfl rfl 4 (by decide) (hts _ mw_51) (fun _ h9 => h9) rfl d_takeB_8 ?_
  refine lv_iload_n hx hb d_takeB_11 rfl (lv_at hl 1 rfl) ?_
  refine va_iald (n := 60) (f := η 4) hx hb hK hP 5 0 rfl rfl (i := q1) (by first | assumption) d_takeB_12 ?_
  refine lv_iconst (v := -1) hx hb d_takeB_13 (by decide) ?_
  refine lv_icmp_ne (tgt := 19) hx hb d_takeB_14 (by decide) (fun c_1 => ?_) (fun c_1 => ?_)
  · refine lv_aload_n hx hb d_takeB_19 rfl (lv_at hl 0 rfl) ?_
    refine va_get (D := (dC, dI)) (ci := 0) (v := .ref hH4) (C := R_House) (T := T_House) (N := 9) hx hb hts in_House hown hK hP 0 rfl rfl 4 (by decide) (hts _ mw_51) (fun _ h9 => h9) rfl d_takeB_20 ?_
    refine lv_iload_n hx hb d_takeB_23 rfl (lv_at hl 1 rfl) ?_
    refine lv_iconst (v := -1) hx hb d_takeB_24 (by decide) ?_
    refine va_iast (n := 60) (f := η 4) hx hb hK hP hD hS 5 0 rfl rfl (i := q1) (x := -1) (by first | assumption) d_takeB_25 (fun H locs hP hD hS => ?_)
    have hP : va_P (dC, dI) vwCl (w_House cI cZ hH hH0 hH1 hH2 hH3 hH4 hH5 hH6 hH7 hH8 (η 0) (η 1) (η 2) (η 3) (upd (η 4) q1.toNatClampNeg (-1)) (η 5) (upd (η 6) q1.toNatClampNeg (vp_nar .boolean 1)) (η 7) (η 8)) H := hP
    have hD : va_D A (w_House cI cZ hH hH0 hH1 hH2 hH3 hH4 hH5 hH6 hH7 hH8 (η 0) (η 1) (η 2) (η 3) (upd (η 4) q1.toNatClampNeg (-1)) (η 5) (upd (η 6) q1.toNatClampNeg (vp_nar .boolean 1)) (η 7) (η 8)) := hD
    refine lv_aload_n hx hb d_takeB_26 rfl (lv_at hl 0 rfl) ?_
    refine va_get (D := (dC, dI)) (ci := 0) (v := .ref hH5) (C := R_House) (T := T_House) (N := 9) hx hb hts in_House hown hK hP 0 rfl rfl 5 (by decide) (hts _ mw_53) (fun _ h9 => h9) rfl d_takeB_27 ?_
    refine lv_iload_n hx hb d_takeB_30 rfl (lv_at hl 1 rfl) ?_
    refine va_iald (n := 60) (f := η 5) hx hb hK hP 6 0 rfl rfl (i := q1) (by first | assumption) d_takeB_31 ?_
    refine lv_iconst (v := -1) hx hb d_takeB_32 (by decide) ?_
    refine lv_icmp_ne (tgt := 40) hx hb d_takeB_33 (by decide) (fun c_2 => ?_) (fun c_2 => ?_)
    · refine lv_iconst (v := 1) hx hb d_takeB_40 (by decide) ?_
      have hF : F_takeB η q1 = (1, (ss (ss η 4 (upd (η 4) q1.toNatClampNeg (-1))) 6 (upd (η 6) q1.toNatClampNeg (vp_nar .boolean 1)))) := (if_neg c_1).trans ((if_neg c_2).trans rfl)
      exact W.iret (v := 1) hx hb hr (fun t ht hW => ⟨⟨1, (ss (ss η 4 (upd (η 4) q1.toNatClampNeg (-1))) 6 (upd (η 6) q1.toNatClampNeg (vp_nar .boolean 1))), rfl, ⟨(congrArg Prod.fst hF).symm, (congrArg Prod.snd hF).symm⟩, by rw [ht]; exact hP, hD⟩, hS.F ht⟩) hS.2.2 d_takeB_41
    · refine lv_iconst (v := 0) hx hb d_takeB_36 (by decide) ?_
      refine lv_goto (tgt := 41) hx hb d_takeB_37 (by decide) ?_
      have hF : F_takeB η q1 = (0, (ss (ss η 4 (upd (η 4) q1.toNatClampNeg (-1))) 6 (upd (η 6) q1.toNatClampNeg (vp_nar .boolean 1)))) := (if_neg c_1).trans ((if_pos c_2).trans rfl)
      exact W.iret (v := 0) hx hb hr (fun t ht hW => ⟨⟨0, (ss (ss η 4 (upd (η 4) q1.toNatClampNeg (-1))) 6 (upd (η 6) q1.toNatClampNeg (vp_nar .boolean 1))), rfl, ⟨(congrArg Prod.fst hF).symm, (congrArg Prod.snd hF).symm⟩, by rw [ht]; exact hP, hD⟩, hS.F ht⟩) hS.2.2 d_takeB_41
  · refine lv_iconst (v := 2) hx hb d_takeB_17 (by decide) ?_
    have hF : F_takeB η q1 = (2, (ss η 6 (upd (η 6) q1.toNatClampNeg (vp_nar .boolean 1)))) := (if_pos c_1).trans rfl
    exact W.iret (v := 2) hx hb hr (fun t ht hW => ⟨⟨2, (ss η 6 (upd (η 6) q1.toNatClampNeg (vp_nar .boolean 1))), rfl, ⟨(congrArg Prod.fst hF).symm, (congrArg Prod.snd hF).symm⟩, by rw [ht]; exact hP, hD⟩, hS.F ht⟩) hS.2.2 d_takeB_18
