def F_door (mo : Nat) (ω η κ χ ν : SS) (q1 : Int32) : Int32 :=
  if (F_isItem q1) = 0 then
    0
  else
    if (η 6 q1.toNatClampNeg) = 0 then
      0
    else
      1
set_option maxHeartbeats 4000000 in
set_option maxRecDepth 100000 in
theorem c_door (l : Launch) (dC : Nat → ClassId) (dI : Nat → Nat → Nat) (cI cZ : ClassId) (mo : Nat) (oM hH hH0 hH1 hH2 hH3 hH4 hH5 hH6 hH7 hH8 kR kR0 kR1 xR xR0 xR1 sS sS0 : Nat) (ω η κ χ ν : SS) (q1 : Int32) : Met l y_door [Cond.code y_door prog_1_method_17_code 2 (some .boolean)] ({ frames := 1, cells := 0, slots := 0, locals := 20 }) (pcR (dC, dI) (w_Main cI cZ mo oM hH hH0 hH1 hH2 hH3 hH4 hH5 hH6 hH7 hH8 kR kR0 kR1 xR xR0 xR1 sS sS0 (ω 0 0) (η 0) (η 1) (η 2) (η 3) (η 4) (η 5) (η 6) (η 7) (η 8) (κ 0) (κ 1) (κ 2 0) (χ 0) (χ 1) (χ 2 0) (ν 0) (ν 1 0) (ν 2 0) (ν 3 0) (ν 4 0) (ν 5 0)) (tyC cI cZ) [.ref oM, .int q1]) (vp_Si (fun r => r = F_door mo ω η κ χ ν q1)) 0 0 (fun _ => False) := by
  refine Met.ofW (cc := prog_1_method_17_code) (maxL := 2) (ret := (some .boolean)) (by decide) rfl ?_
  intro p e s m args below meth c s₁ B hml hv
  obtain ⟨rfl, hT, hP, hK⟩ := hv
  have hx := B.exec
  have hb := B.bytes
  have hr := B.returns
  have hts : ∀ w ∈ lw_ok, w.before ([.ref oM, .int q1] : List Value).toArray s = true := hT.use
  have hown : s.vm.findClass R_Main = some m.cls := findClass_of_methodNamed B.named
  have hlocks := B.notSynchronized
  have hl := lv_entry ([.ref oM, .int q1]) (n := 2) (Nat.le_of_ble_eq_true rfl)
  rw [lg_entry_eq]
  generalize (lg_sl ([.ref oM, .int q1]) ++ List.replicate (2 - (lg_sl ([.ref oM, .int q1])).length) Slot.unset).toArray = ls at hl ⊢
  have hl : lv_has ls 2 [(0, .ref oM), (1, .int q1)] := hl
  refine lv_iload_n hx hb d_door_0 rfl (lv_at hl 1 rfl) ?_
  refine xc_S0 (As := [.int q1]) (rest := []) ⟨hx, hb, hml, hown, hts⟩ hT (c_isItem l q1) ⟨xw_B 1 hts mw_174 mw_13 mw_172 rfl rfl (by decide +kernel) ⟨Nat.le_of_ble_eq_true rfl, Nat.le_of_ble_eq_true rfl⟩, hts _ mw_173⟩ rfl hl.1 rfl (Nat.le_of_ble_eq_true rfl) d_door_1 ⟨Nat.zero_le _, Nat.zero_le _⟩ (fun r hw => ?_)
  subst hw
  refine lv_if_eq (tgt := 23) hx hb d_door_4 (by decide) (fun c_1 => ?_) (fun c_1 => ?_)
  · refine lv_iconst (v := 0) hx hb d_door_23 (by decide) ?_
    have hF : F_door mo ω η κ χ ν q1 = 0 := (if_pos c_1).trans rfl
    exact W.zret (ty := .boolean) (v := 0) hx hb hr (by decide) (fun t ht hW => ⟨0, rfl, hF.symm, ht⟩) (fun _ h => absurd h List.not_mem_nil) d_door_24
  · refine lv_aload_n hx hb d_door_7 rfl (lv_at hl 0 rfl) ?_
    refine va_get (D := (dC, dI)) (ci := 3) (v := .ref hH) (C := R_Main) (T := T_Main) (N := 5) hx hb hts in_Main hown hK hP 0 rfl rfl 0 (by decide) (hts _ mw_133) (fun _ h9 => h9) rfl d_door_8 ?_
    refine va_getN (D := (dC, dI)) (ci := 0) (v := .ref hH6) (C := R_House) (T := T_House) (N := 9) hx hb hts in_House hown hK hP 1 rfl rfl 6 (by decide) (hts _ mw_56) (fun _ h9 => h9) rfl d_door_11 ?_
    refine lv_iload_n hx hb d_door_14 rfl (lv_at hl 1 rfl) ?_
    refine va_zald (n := 60) (f := η 6) hx hb hK hP 8 1 rfl rfl (i := q1) (by first | assumption | exact in_isPerson ‹_› | exact in_isItem ‹_›) d_door_15 ?_
    refine lv_if_eq (tgt := 23) hx hb d_door_16 (by decide) (fun c_2 => ?_) (fun c_2 => ?_)
    · refine lv_iconst (v := 0) hx hb d_door_23 (by decide) ?_
      have hF : F_door mo ω η κ χ ν q1 = 0 := (if_neg c_1).trans ((if_pos c_2).trans rfl)
      exact W.zret (ty := .boolean) (v := 0) hx hb hr (by decide) (fun t ht hW => ⟨0, rfl, hF.symm, ht⟩) (fun _ h => absurd h List.not_mem_nil) d_door_24
    · refine lv_iconst (v := 1) hx hb d_door_19 (by decide) ?_
      refine lv_goto (tgt := 24) hx hb d_door_20 (by decide) ?_
      have hF : F_door mo ω η κ χ ν q1 = 1 := (if_neg c_1).trans ((if_neg c_2).trans rfl)
      exact W.zret (ty := .boolean) (v := 1) hx hb hr (by decide) (fun t ht hW => ⟨1, rfl, hF.symm, ht⟩) (fun _ h => absurd h List.not_mem_nil) d_door_24
def F_receipt (mo : Nat) (ω η κ χ ν : SS) (q1 : Int32) : Int32 :=
  if q1 < 0 then
    -1
  else
    if (ν 1 0) ≤ q1 then
      -1
    else
      ν 0 q1.toNatClampNeg
set_option maxHeartbeats 4000000 in
set_option maxRecDepth 100000 in
theorem c_receipt (l : Launch) (dC : Nat → ClassId) (dI : Nat → Nat → Nat) (cI cZ : ClassId) (mo : Nat) (oM hH hH0 hH1 hH2 hH3 hH4 hH5 hH6 hH7 hH8 kR kR0 kR1 xR xR0 xR1 sS sS0 : Nat) (ω η κ χ ν : SS) (q1 : Int32) (hI : CInv mo ω η κ χ ν) : Met l y_receipt [Cond.code y_receipt prog_1_method_18_code 2 (some .int)] ({ frames := 0, cells := 0, slots := 0, locals := 0 }) (pcR (dC, dI) (w_Main cI cZ mo oM hH hH0 hH1 hH2 hH3 hH4 hH5 hH6 hH7 hH8 kR kR0 kR1 xR xR0 xR1 sS sS0 (ω 0 0) (η 0) (η 1) (η 2) (η 3) (η 4) (η 5) (η 6) (η 7) (η 8) (κ 0) (κ 1) (κ 2 0) (χ 0) (χ 1) (χ 2 0) (ν 0) (ν 1 0) (ν 2 0) (ν 3 0) (ν 4 0) (ν 5 0)) (tyC cI cZ) [.ref oM, .int q1]) (vp_Si (fun r => r = F_receipt mo ω η κ χ ν q1)) 0 0 (fun _ => False) := by
  refine Met.ofW (cc := prog_1_method_18_code) (maxL := 2) (ret := (some .int)) (by decide) rfl ?_
  intro p e s m args below meth c s₁ B hml hv
  obtain ⟨rfl, hT, hP, hK⟩ := hv
  have hx := B.exec
  have hb := B.bytes
  have hr := B.returns
  have hts : ∀ w ∈ lw_ok, w.before ([.ref oM, .int q1] : List Value).toArray s = true := hT.use
  have hown : s.vm.findClass R_Main = some m.cls := findClass_of_methodNamed B.named
  have hlocks := B.notSynchronized
  have hl := lv_entry ([.ref oM, .int q1]) (n := 2) (Nat.le_of_ble_eq_true rfl)
  rw [lg_entry_eq]
  generalize (lg_sl ([.ref oM, .int q1]) ++ List.replicate (2 - (lg_sl ([.ref oM, .int q1])).length) Slot.unset).toArray = ls at hl ⊢
  have hl : lv_has ls 2 [(0, .ref oM), (1, .int q1)] := hl
  obtain ⟨hmo, hof, hre, hlo, hlk, hkc, hxc, hpe, hla, hlc⟩ := id hI
  refine lv_iload_n hx hb d_receipt_0 rfl (lv_at hl 1 rfl) ?_
  refine lv_if_lt (tgt := 27) hx hb d_receipt_1 (by decide) (fun c_1 => ?_) (fun c_1 => ?_)
  · refine lv_iconst (v := -1) hx hb d_receipt_27 (by decide) ?_
    have hF : F_receipt mo ω η κ χ ν q1 = -1 := (if_pos c_1).trans rfl
    exact W.iret (v := -1) hx hb hr (fun t ht hW => ⟨-1, rfl, hF.symm, ht⟩) (fun _ h => absurd h List.not_mem_nil) d_receipt_28
  · refine lv_iload_n hx hb d_receipt_4 rfl (lv_at hl 1 rfl) ?_
    refine lv_aload_n hx hb d_receipt_5 rfl (lv_at hl 0 rfl) ?_
    refine va_get (D := (dC, dI)) (ci := 3) (v := .ref sS) (C := R_Main) (T := T_Main) (N := 5) hx hb hts in_Main hown hK hP 0 rfl rfl 3 (by decide) (hts _ mw_136) (fun _ h9 => h9) rfl d_receipt_6 ?_
    refine va_getN (D := (dC, dI)) (ci := 2) (v := .int (ν 1 0)) (C := R_Ses) (T := T_Ses) (N := 6) hx hb hts in_Ses hown hK hP 17 rfl rfl 1 (by decide) (hts _ mw_111) (fun _ h9 => h9) rfl d_receipt_9 ?_
    refine lv_icmp_ge (tgt := 27) hx hb d_receipt_12 (by decide) (fun c_2 => ?_) (fun c_2 => ?_)
    · refine lv_iconst (v := -1) hx hb d_receipt_27 (by decide) ?_
      have hF : F_receipt mo ω η κ χ ν q1 = -1 := (if_neg c_1).trans ((if_pos c_2).trans rfl)
      exact W.iret (v := -1) hx hb hr (fun t ht hW => ⟨-1, rfl, hF.symm, ht⟩) (fun _ h => absurd h List.not_mem_nil) d_receipt_28
    · refine lv_aload_n hx hb d_receipt_15 rfl (lv_at hl 0 rfl) ?_
      refine va_get (D := (dC, dI)) (ci := 3) (v := .ref sS) (C := R_Main) (T := T_Main) (N := 5) hx hb hts in_Main hown hK hP 0 rfl rfl 3 (by decide) (hts _ mw_136) (fun _ h9 => h9) rfl d_receipt_16 ?_
      refine va_getN (D := (dC, dI)) (ci := 2) (v := .ref sS0) (C := R_Ses) (T := T_Ses) (N := 6) hx hb hts in_Ses hown hK hP 17 rfl rfl 0 (by decide) (hts _ mw_109) (fun _ h9 => h9) rfl d_receipt_19 ?_
      refine lv_iload_n hx hb d_receipt_22 rfl (lv_at hl 1 rfl) ?_
      refine va_iald (n := 256) (f := ν 0) hx hb hK hP 18 0 rfl rfl (i := q1) (by first | assumption | exact in_lent hlc ‹_› ‹_›) d_receipt_23 ?_
      refine lv_goto (tgt := 28) hx hb d_receipt_24 (by decide) ?_
      have hF : F_receipt mo ω η κ χ ν q1 = ν 0 q1.toNatClampNeg := (if_neg c_1).trans ((if_neg c_2).trans rfl)
      exact W.iret (v := ν 0 q1.toNatClampNeg) hx hb hr (fun t ht hW => ⟨ν 0 q1.toNatClampNeg, rfl, hF.symm, ht⟩) (fun _ h => absurd h List.not_mem_nil) d_receipt_28
def F_screen (mo : Nat) (ω η κ χ ν : SS) : Int32 :=
  if (ν 2 0) = 0 then
    if (ω 0 0) = 0 then
      ((0 * 10) + (ν 2 0)) + 0
    else
      ((0 * 10) + (ν 2 0)) + 5
  else
    if (ω 0 0) = 0 then
      (((η 1 (ν 3 0).toNatClampNeg) * 10) + (ν 2 0)) + 0
    else
      (((η 1 (ν 3 0).toNatClampNeg) * 10) + (ν 2 0)) + 5
set_option maxHeartbeats 4000000 in
set_option maxRecDepth 100000 in
theorem c_screen (l : Launch) (dC : Nat → ClassId) (dI : Nat → Nat → Nat) (cI cZ : ClassId) (mo : Nat) (oM hH hH0 hH1 hH2 hH3 hH4 hH5 hH6 hH7 hH8 kR kR0 kR1 xR xR0 xR1 sS sS0 : Nat) (ω η κ χ ν : SS) (hI : CInv mo ω η κ χ ν) : Met l y_screen [Cond.code y_screen prog_1_method_19_code 2 (some .int)] ({ frames := 0, cells := 0, slots := 0, locals := 0 }) (pcR (dC, dI) (w_Main cI cZ mo oM hH hH0 hH1 hH2 hH3 hH4 hH5 hH6 hH7 hH8 kR kR0 kR1 xR xR0 xR1 sS sS0 (ω 0 0) (η 0) (η 1) (η 2) (η 3) (η 4) (η 5) (η 6) (η 7) (η 8) (κ 0) (κ 1) (κ 2 0) (χ 0) (χ 1) (χ 2 0) (ν 0) (ν 1 0) (ν 2 0) (ν 3 0) (ν 4 0) (ν 5 0)) (tyC cI cZ) [.ref oM]) (vp_Si (fun r => r = F_screen mo ω η κ χ ν)) 0 0 (fun _ => False) := by
  refine Met.ofW (cc := prog_1_method_19_code) (maxL := 2) (ret := (some .int)) (by decide) rfl ?_
  intro p e s m args below meth c s₁ B hml hv
  obtain ⟨rfl, hT, hP, hK⟩ := hv
  have hx := B.exec
  have hb := B.bytes
  have hr := B.returns
  have hts : ∀ w ∈ lw_ok, w.before ([.ref oM] : List Value).toArray s = true := hT.use
  have hown : s.vm.findClass R_Main = some m.cls := findClass_of_methodNamed B.named
  have hlocks := B.notSynchronized
  have hl := lv_entry ([.ref oM]) (n := 2) (Nat.le_of_ble_eq_true rfl)
  rw [lg_entry_eq]
  generalize (lg_sl ([.ref oM]) ++ List.replicate (2 - (lg_sl ([.ref oM])).length) Slot.unset).toArray = ls at hl ⊢
  have hl : lv_has ls 2 [(0, .ref oM)] := hl
  obtain ⟨hmo, hof, hre, hlo, hlk, hkc, hxc, hpe, hla, hlc⟩ := id hI
  refine lv_aload_n hx hb d_screen_0 rfl (lv_at hl 0 rfl) ?_
  refine va_get (D := (dC, dI)) (ci := 3) (v := .ref sS) (C := R_Main) (T := T_Main) (N := 5) hx hb hts in_Main hown hK hP 0 rfl rfl 3 (by decide) (hts _ mw_136) (fun _ h9 => h9) rfl d_screen_1 ?_
  refine va_getN (D := (dC, dI)) (ci := 2) (v := .int (ν 2 0)) (C := R_Ses) (T := T_Ses) (N := 6) hx hb hts in_Ses hown hK hP 17 rfl rfl 2 (by decide) (hts _ mw_113) (fun _ h9 => h9) rfl d_screen_4 ?_
  refine lv_if_ne (tgt := 14) hx hb d_screen_7 (by decide) (fun c_1 => ?_) (fun c_1 => ?_)
  · refine lv_aload_n hx hb d_screen_14 rfl (lv_at hl 0 rfl) ?_
    refine va_get (D := (dC, dI)) (ci := 3) (v := .ref hH) (C := R_Main) (T := T_Main) (N := 5) hx hb hts in_Main hown hK hP 0 rfl rfl 0 (by decide) (hts _ mw_133) (fun _ h9 => h9) rfl d_screen_15 ?_
    refine va_getN (D := (dC, dI)) (ci := 0) (v := .ref hH1) (C := R_House) (T := T_House) (N := 9) hx hb hts in_House hown hK hP 1 rfl rfl 1 (by decide) (hts _ mw_46) (fun _ h9 => h9) rfl d_screen_18 ?_
    refine lv_aload_n hx hb d_screen_21 rfl (lv_at hl 0 rfl) ?_
    refine va_get (D := (dC, dI)) (ci := 3) (v := .ref sS) (C := R_Main) (T := T_Main) (N := 5) hx hb hts in_Main hown hK hP 0 rfl rfl 3 (by decide) (hts _ mw_136) (fun _ h9 => h9) rfl d_screen_22 ?_
    refine va_getN (D := (dC, dI)) (ci := 2) (v := .int (ν 3 0)) (C := R_Ses) (T := T_Ses) (N := 6) hx hb hts in_Ses hown hK hP 17 rfl rfl 3 (by decide) (hts _ mw_115) (fun _ h9 => h9) rfl d_screen_25 ?_
    refine va_iald (n := 40) (f := η 1) hx hb hK hP 3 0 rfl rfl (i := ν 3 0) (by first | assumption | exact in_isPerson ‹_› | exact in_isItem ‹_›) d_screen_28 ?_
    refine lv_istore_n (lv' := [(1, .int (η 1 (ν 3 0).toNatClampNeg)), (0, .ref oM)]) hx hb d_screen_29 rfl hl (by decide) rfl (fun ls hl => ?_)
    refine lv_iload_n hx hb d_screen_30 rfl (lv_at hl 0 rfl) ?_
    refine lv_bipush (v := 10) hx hb d_screen_31 (by decide) ?_
    refine lv_imul hx hb d_screen_33 ?_
    refine lv_aload_n hx hb d_screen_34 rfl (lv_at hl 1 rfl) ?_
    refine va_get (D := (dC, dI)) (ci := 3) (v := .ref sS) (C := R_Main) (T := T_Main) (N := 5) hx hb hts in_Main hown hK hP 0 rfl rfl 3 (by decide) (hts _ mw_136) (fun _ h9 => h9) rfl d_screen_35 ?_
    refine va_getN (D := (dC, dI)) (ci := 2) (v := .int (ν 2 0)) (C := R_Ses) (T := T_Ses) (N := 6) hx hb hts in_Ses hown hK hP 17 rfl rfl 2 (by decide) (hts _ mw_113) (fun _ h9 => h9) rfl d_screen_38 ?_
    refine lv_iadd hx hb d_screen_41 ?_
    refine lv_aload_n hx hb d_screen_42 rfl (lv_at hl 1 rfl) ?_
    refine va_get (D := (dC, dI)) (ci := 3) (v := .int (ω 0 0)) (C := R_Main) (T := T_Main) (N := 5) hx hb hts in_Main hown hK hP 0 rfl rfl 4 (by decide) (hts _ mw_137) (fun _ h9 => h9) rfl d_screen_43 ?_
    refine lv_if_eq (tgt := 53) hx hb d_screen_46 (by decide) (fun c_2 => ?_) (fun c_2 => ?_)
    · refine lv_iconst (v := 0) hx hb d_screen_53 (by decide) ?_
      refine lv_iadd hx hb d_screen_54 ?_
      have hF : F_screen mo ω η κ χ ν = (((η 1 (ν 3 0).toNatClampNeg) * 10) + (ν 2 0)) + 0 := (if_neg c_1).trans ((if_pos c_2).trans rfl)
      exact W.iret (v := (((η 1 (ν 3 0).toNatClampNeg) * 10) + (ν 2 0)) + 0) hx hb hr (fun t ht hW => ⟨(((η 1 (ν 3 0).toNatClampNeg) * 10) + (ν 2 0)) + 0, rfl, hF.symm, ht⟩) (fun _ h => absurd h List.not_mem_nil) d_screen_55
    · refine lv_iconst (v := 5) hx hb d_screen_49 (by decide) ?_
      refine lv_goto (tgt := 54) hx hb d_screen_50 (by decide) ?_
      refine lv_iadd hx hb d_screen_54 ?_
      have hF : F_screen mo ω η κ χ ν = (((η 1 (ν 3 0).toNatClampNeg) * 10) + (ν 2 0)) + 5 := (if_neg c_1).trans ((if_neg c_2).trans rfl)
      exact W.iret (v := (((η 1 (ν 3 0).toNatClampNeg) * 10) + (ν 2 0)) + 5) hx hb hr (fun t ht hW => ⟨(((η 1 (ν 3 0).toNatClampNeg) * 10) + (ν 2 0)) + 5, rfl, hF.symm, ht⟩) (fun _ h => absurd h List.not_mem_nil) d_screen_55
  · refine lv_iconst (v := 0) hx hb d_screen_10 (by decide) ?_
    refine lv_goto (tgt := 29) hx hb d_screen_11 (by decide) ?_
    refine lv_istore_n (lv' := [(1, .int 0), (0, .ref oM)]) hx hb d_screen_29 rfl hl (by decide) rfl (fun ls hl => ?_)
    refine lv_iload_n hx hb d_screen_30 rfl (lv_at hl 0 rfl) ?_
    refine lv_bipush (v := 10) hx hb d_screen_31 (by decide) ?_
    refine lv_imul hx hb d_screen_33 ?_
    refine lv_aload_n hx hb d_screen_34 rfl (lv_at hl 1 rfl) ?_
    refine va_get (D := (dC, dI)) (ci := 3) (v := .ref sS) (C := R_Main) (T := T_Main) (N := 5) hx hb hts in_Main hown hK hP 0 rfl rfl 3 (by decide) (hts _ mw_136) (fun _ h9 => h9) rfl d_screen_35 ?_
    refine va_getN (D := (dC, dI)) (ci := 2) (v := .int (ν 2 0)) (C := R_Ses) (T := T_Ses) (N := 6) hx hb hts in_Ses hown hK hP 17 rfl rfl 2 (by decide) (hts _ mw_113) (fun _ h9 => h9) rfl d_screen_38 ?_
    refine lv_iadd hx hb d_screen_41 ?_
    refine lv_aload_n hx hb d_screen_42 rfl (lv_at hl 1 rfl) ?_
    refine va_get (D := (dC, dI)) (ci := 3) (v := .int (ω 0 0)) (C := R_Main) (T := T_Main) (N := 5) hx hb hts in_Main hown hK hP 0 rfl rfl 4 (by decide) (hts _ mw_137) (fun _ h9 => h9) rfl d_screen_43 ?_
    refine lv_if_eq (tgt := 53) hx hb d_screen_46 (by decide) (fun c_3 => ?_) (fun c_3 => ?_)
    · refine lv_iconst (v := 0) hx hb d_screen_53 (by decide) ?_
      refine lv_iadd hx hb d_screen_54 ?_
      have hF : F_screen mo ω η κ χ ν = ((0 * 10) + (ν 2 0)) + 0 := (if_pos c_1).trans ((if_pos c_3).trans rfl)
      exact W.iret (v := ((0 * 10) + (ν 2 0)) + 0) hx hb hr (fun t ht hW => ⟨((0 * 10) + (ν 2 0)) + 0, rfl, hF.symm, ht⟩) (fun _ h => absurd h List.not_mem_nil) d_screen_55
    · refine lv_iconst (v := 5) hx hb d_screen_49 (by decide) ?_
      refine lv_goto (tgt := 54) hx hb d_screen_50 (by decide) ?_
      refine lv_iadd hx hb d_screen_54 ?_
      have hF : F_screen mo ω η κ χ ν = ((0 * 10) + (ν 2 0)) + 5 := (if_pos c_1).trans ((if_neg c_3).trans rfl)
      exact W.iret (v := ((0 * 10) + (ν 2 0)) + 5) hx hb hr (fun t ht hW => ⟨((0 * 10) + (ν 2 0)) + 5, rfl, hF.symm, ht⟩) (fun _ h => absurd h List.not_mem_nil) d_screen_55
def F_itemM (mo : Nat) (ω η κ χ ν : SS) (q1 : Int32) (q2 : Int32) : Int32 :=
  if (F_isItem q1) = 0 then
    -2
  else
    if q2 = 0 then
      η 4 q1.toNatClampNeg
    else
      if q2 = 1 then
        η 5 q1.toNatClampNeg
      else
        if q2 = 2 then
          η 7 q1.toNatClampNeg
        else
          -2
set_option maxHeartbeats 4000000 in
set_option maxRecDepth 100000 in
theorem c_itemM (l : Launch) (dC : Nat → ClassId) (dI : Nat → Nat → Nat) (cI cZ : ClassId) (mo : Nat) (oM hH hH0 hH1 hH2 hH3 hH4 hH5 hH6 hH7 hH8 kR kR0 kR1 xR xR0 xR1 sS sS0 : Nat) (ω η κ χ ν : SS) (q1 : Int32) (q2 : Int32) : Met l y_itemM [Cond.code y_itemM prog_1_method_20_code 3 (some .int)] ({ frames := 1, cells := 0, slots := 0, locals := 20 }) (pcR (dC, dI) (w_Main cI cZ mo oM hH hH0 hH1 hH2 hH3 hH4 hH5 hH6 hH7 hH8 kR kR0 kR1 xR xR0 xR1 sS sS0 (ω 0 0) (η 0) (η 1) (η 2) (η 3) (η 4) (η 5) (η 6) (η 7) (η 8) (κ 0) (κ 1) (κ 2 0) (χ 0) (χ 1) (χ 2 0) (ν 0) (ν 1 0) (ν 2 0) (ν 3 0) (ν 4 0) (ν 5 0)) (tyC cI cZ) [.ref oM, .int q1, .int q2]) (vp_Si (fun r => r = F_itemM mo ω η κ χ ν q1 q2)) 0 0 (fun _ => False) := by
  refine Met.ofW (cc := prog_1_method_20_code) (maxL := 3) (ret := (some .int)) (by decide) rfl ?_
  intro p e s m args below meth c s₁ B hml hv
  obtain ⟨rfl, hT, hP, hK⟩ := hv
  have hx := B.exec
  have hb := B.bytes
  have hr := B.returns
  have hts : ∀ w ∈ lw_ok, w.before ([.ref oM, .int q1, .int q2] : List Value).toArray s = true := hT.use
  have hown : s.vm.findClass R_Main = some m.cls := findClass_of_methodNamed B.named
  have hlocks := B.notSynchronized
  have hl := lv_entry ([.ref oM, .int q1, .int q2]) (n := 3) (Nat.le_of_ble_eq_true rfl)
  rw [lg_entry_eq]
  generalize (lg_sl ([.ref oM, .int q1, .int q2]) ++ List.replicate (3 - (lg_sl ([.ref oM, .int q1, .int q2])).length) Slot.unset).toArray = ls at hl ⊢
  have hl : lv_has ls 3 [(0, .ref oM), (1, .int q1), (2, .int q2)] := hl
  refine lv_iload_n hx hb d_itemM_0 rfl (lv_at hl 1 rfl) ?_
  refine xc_S0 (As := [.int q1]) (rest := []) ⟨hx, hb, hml, hown, hts⟩ hT (c_isItem l q1) ⟨xw_B 1 hts mw_174 mw_13 mw_172 rfl rfl (by decide +kernel) ⟨Nat.le_of_ble_eq_true rfl, Nat.le_of_ble_eq_true rfl⟩, hts _ mw_173⟩ rfl hl.1 rfl (Nat.le_of_ble_eq_true rfl) d_itemM_1 ⟨Nat.zero_le _, Nat.zero_le _⟩ (fun r hw => ?_)
  subst hw
  refine lv_if_ne (tgt := 10) hx hb d_itemM_4 (by decide) (fun c_1 => ?_) (fun c_1 => ?_)
  · refine lv_iload_n hx hb d_itemM_10 rfl (lv_at hl 2 rfl) ?_
    by_cases c_2 : q2 = 0
    · refine lv_tableIn (tgt := 36) hx hb d_itemM_11 (by rw [c_2]; decide) (by rw [c_2]; decide) (by rw [c_2]; rfl) (by decide) ?_
      refine lv_aload_n hx hb d_itemM_36 rfl (lv_at hl 0 rfl) ?_
      refine va_get (D := (dC, dI)) (ci := 3) (v := .ref hH) (C := R_Main) (T := T_Main) (N := 5) hx hb hts in_Main hown hK hP 0 rfl rfl 0 (by decide) (hts _ mw_133) (fun _ h9 => h9) rfl d_itemM_37 ?_
      refine va_getN (D := (dC, dI)) (ci := 0) (v := .ref hH4) (C := R_House) (T := T_House) (N := 9) hx hb hts in_House hown hK hP 1 rfl rfl 4 (by decide) (hts _ mw_52) (fun _ h9 => h9) rfl d_itemM_40 ?_
      refine lv_iload_n hx hb d_itemM_43 rfl (lv_at hl 1 rfl) ?_
      refine va_iald (n := 60) (f := η 4) hx hb hK hP 6 0 rfl rfl (i := q1) (by first | assumption | exact in_isPerson ‹_› | exact in_isItem ‹_›) d_itemM_44 ?_
      have hF : F_itemM mo ω η κ χ ν q1 q2 = η 4 q1.toNatClampNeg := (if_neg c_1).trans ((if_pos c_2).trans rfl)
      exact W.iret (v := η 4 q1.toNatClampNeg) hx hb hr (fun t ht hW => ⟨η 4 q1.toNatClampNeg, rfl, hF.symm, ht⟩) (fun _ h => absurd h List.not_mem_nil) d_itemM_45
    by_cases c_3 : q2 = 1
    · refine lv_tableIn (tgt := 46) hx hb d_itemM_11 (by rw [c_3]; decide) (by rw [c_3]; decide) (by rw [c_3]; rfl) (by decide) ?_
      refine lv_aload_n hx hb d_itemM_46 rfl (lv_at hl 0 rfl) ?_
      refine va_get (D := (dC, dI)) (ci := 3) (v := .ref hH) (C := R_Main) (T := T_Main) (N := 5) hx hb hts in_Main hown hK hP 0 rfl rfl 0 (by decide) (hts _ mw_133) (fun _ h9 => h9) rfl d_itemM_47 ?_
      refine va_getN (D := (dC, dI)) (ci := 0) (v := .ref hH5) (C := R_House) (T := T_House) (N := 9) hx hb hts in_House hown hK hP 1 rfl rfl 5 (by decide) (hts _ mw_54) (fun _ h9 => h9) rfl d_itemM_50 ?_
      refine lv_iload_n hx hb d_itemM_53 rfl (lv_at hl 1 rfl) ?_
      refine va_iald (n := 60) (f := η 5) hx hb hK hP 7 0 rfl rfl (i := q1) (by first | assumption | exact in_isPerson ‹_› | exact in_isItem ‹_›) d_itemM_54 ?_
      have hF : F_itemM mo ω η κ χ ν q1 q2 = η 5 q1.toNatClampNeg := (if_neg c_1).trans ((if_neg c_2).trans ((if_pos c_3).trans rfl))
      exact W.iret (v := η 5 q1.toNatClampNeg) hx hb hr (fun t ht hW => ⟨η 5 q1.toNatClampNeg, rfl, hF.symm, ht⟩) (fun _ h => absurd h List.not_mem_nil) d_itemM_55
    by_cases c_4 : q2 = 2
    · refine lv_tableIn (tgt := 56) hx hb d_itemM_11 (by rw [c_4]; decide) (by rw [c_4]; decide) (by rw [c_4]; rfl) (by decide) ?_
      refine lv_aload_n hx hb d_itemM_56 rfl (lv_at hl 0 rfl) ?_
      refine va_get (D := (dC, dI)) (ci := 3) (v := .ref hH) (C := R_Main) (T := T_Main) (N := 5) hx hb hts in_Main hown hK hP 0 rfl rfl 0 (by decide) (hts _ mw_133) (fun _ h9 => h9) rfl d_itemM_57 ?_
      refine va_getN (D := (dC, dI)) (ci := 0) (v := .ref hH7) (C := R_House) (T := T_House) (N := 9) hx hb hts in_House hown hK hP 1 rfl rfl 7 (by decide) (hts _ mw_58) (fun _ h9 => h9) rfl d_itemM_60 ?_
      refine lv_iload_n hx hb d_itemM_63 rfl (lv_at hl 1 rfl) ?_
      refine va_iald (n := 60) (f := η 7) hx hb hK hP 9 0 rfl rfl (i := q1) (by first | assumption | exact in_isPerson ‹_› | exact in_isItem ‹_›) d_itemM_64 ?_
      have hF : F_itemM mo ω η κ χ ν q1 q2 = η 7 q1.toNatClampNeg := (if_neg c_1).trans ((if_neg c_2).trans ((if_neg c_3).trans ((if_pos c_4).trans rfl)))
      exact W.iret (v := η 7 q1.toNatClampNeg) hx hb hr (fun t ht hW => ⟨η 7 q1.toNatClampNeg, rfl, hF.symm, ht⟩) (fun _ h => absurd h List.not_mem_nil) d_itemM_65
    refine lv_tableOut (tgt := 66) hx hb d_itemM_11 (by have n0 := lv_neT c_2 (a := 0) (by decide); have n1 := lv_neT c_3 (a := 1) (by decide); have n2 := lv_neT c_4 (a := 2) (by decide); omega) (by decide) ?_
    refine lv_bipush (v := -2) hx hb d_itemM_66 (by decide) ?_
    have hF : F_itemM mo ω η κ χ ν q1 q2 = -2 := (if_neg c_1).trans ((if_neg c_2).trans ((if_neg c_3).trans ((if_neg c_4).trans rfl)))
    exact W.iret (v := -2) hx hb hr (fun t ht hW => ⟨-2, rfl, hF.symm, ht⟩) (fun _ h => absurd h List.not_mem_nil) d_itemM_68
  · refine lv_bipush (v := -2) hx hb d_itemM_7 (by decide) ?_
    have hF : F_itemM mo ω η κ χ ν q1 q2 = -2 := (if_pos c_1).trans rfl
    exact W.iret (v := -2) hx hb hr (fun t ht hW => ⟨-2, rfl, hF.symm, ht⟩) (fun _ h => absurd h List.not_mem_nil) d_itemM_9
def F_rowsM (mo : Nat) (ω η κ χ ν : SS) : Int32 :=
  κ 2 0
set_option maxHeartbeats 4000000 in
set_option maxRecDepth 100000 in
theorem c_rowsM (l : Launch) (dC : Nat → ClassId) (dI : Nat → Nat → Nat) (cI cZ : ClassId) (mo : Nat) (oM hH hH0 hH1 hH2 hH3 hH4 hH5 hH6 hH7 hH8 kR kR0 kR1 xR xR0 xR1 sS sS0 : Nat) (ω η κ χ ν : SS) : Met l y_rowsM [Cond.code y_rowsM prog_1_method_21_code 1 (some .int)] ({ frames := 0, cells := 0, slots := 0, locals := 0 }) (pcR (dC, dI) (w_Main cI cZ mo oM hH hH0 hH1 hH2 hH3 hH4 hH5 hH6 hH7 hH8 kR kR0 kR1 xR xR0 xR1 sS sS0 (ω 0 0) (η 0) (η 1) (η 2) (η 3) (η 4) (η 5) (η 6) (η 7) (η 8) (κ 0) (κ 1) (κ 2 0) (χ 0) (χ 1) (χ 2 0) (ν 0) (ν 1 0) (ν 2 0) (ν 3 0) (ν 4 0) (ν 5 0)) (tyC cI cZ) [.ref oM]) (vp_Si (fun r => r = F_rowsM mo ω η κ χ ν)) 0 0 (fun _ => False) := by
  refine Met.ofW (cc := prog_1_method_21_code) (maxL := 1) (ret := (some .int)) (by decide) rfl ?_
  intro p e s m args below meth c s₁ B hml hv
  obtain ⟨rfl, hT, hP, hK⟩ := hv
  have hx := B.exec
  have hb := B.bytes
  have hr := B.returns
  have hts : ∀ w ∈ lw_ok, w.before ([.ref oM] : List Value).toArray s = true := hT.use
  have hown : s.vm.findClass R_Main = some m.cls := findClass_of_methodNamed B.named
  have hlocks := B.notSynchronized
  have hl := lv_entry ([.ref oM]) (n := 1) (Nat.le_of_ble_eq_true rfl)
  rw [lg_entry_eq]
  generalize (lg_sl ([.ref oM]) ++ List.replicate (1 - (lg_sl ([.ref oM])).length) Slot.unset).toArray = ls at hl ⊢
  have hl : lv_has ls 1 [(0, .ref oM)] := hl
  refine lv_aload_n hx hb d_rowsM_0 rfl (lv_at hl 0 rfl) ?_
  refine va_get (D := (dC, dI)) (ci := 3) (v := .ref kR) (C := R_Main) (T := T_Main) (N := 5) hx hb hts in_Main hown hK hP 0 rfl rfl 1 (by decide) (hts _ mw_134) (fun _ h9 => h9) rfl d_rowsM_1 ?_
  refine va_getN (D := (dC, dI)) (ci := 1) (v := .int (κ 2 0)) (C := R_Row) (T := T_Row) (N := 3) hx hb hts in_Row hown hK hP 11 rfl rfl 2 (by decide) (hts _ mw_94) (fun _ h9 => h9) rfl d_rowsM_4 ?_
  have hF : F_rowsM mo ω η κ χ ν = κ 2 0 := rfl
  exact W.iret (v := κ 2 0) hx hb hr (fun t ht hW => ⟨κ 2 0, rfl, hF.symm, ht⟩) (fun _ h => absurd h List.not_mem_nil) d_rowsM_7
