def F_sClose (ν : SS) : SS :=
  (ss ν 2 (fun _ => 0))
set_option maxHeartbeats 4000000 in
set_option maxRecDepth 100000 in
theorem c_sClose (l : Launch) (dC : Nat → ClassId) (dI : Nat → Nat → Nat) (cI cZ : ClassId) (sS sS0 : Nat) (sz : Nat) (ν : SS) : Met l y_sClose [Cond.code y_sClose prog_4_method_3_code 1 none] ({ frames := 0, cells := 0, slots := 0, locals := 0 }) (pcW (dC, dI) (w_Ses cI cZ sS sS0 (ν 0) (ν 1 0) (ν 2 0) (ν 3 0) (ν 4 0) (ν 5 0)) (tyC cI cZ) sz [.ref sS]) (qV (fun u => u = F_sClose ν) (dC, dI) (fun u : SS => w_Ses cI cZ sS sS0 (u 0) (u 1 0) (u 2 0) (u 3 0) (u 4 0) (u 5 0)) (va_A (w_Ses cI cZ sS sS0 (ν 0) (ν 1 0) (ν 2 0) (ν 3 0) (ν 4 0) (ν 5 0)) sz)) 0 0 (va_A (w_Ses cI cZ sS sS0 (ν 0) (ν 1 0) (ν 2 0) (ν 3 0) (ν 4 0) (ν 5 0)) sz) := by
  refine Met.ofW (cc := prog_4_method_3_code) (maxL := 1) (ret := none) (by decide) rfl ?_
  intro p e s m args below meth c s₁ B hml hv
  obtain ⟨rfl, hsz, hT, hP, hK, hD0⟩ := hv
  have hx := B.exec
  have hb := B.bytes
  have hr := B.returns
  have hts : ∀ w ∈ lw_ok, w.before ([.ref sS] : List Value).toArray s = true := hT.use
  have hown : s.vm.findClass R_Ses = some m.cls := findClass_of_methodNamed B.named
  have hlocks := B.notSynchronized
  subst hsz
  have hD := hD0.self (sz := s.heap.size)
  generalize hAe : va_A (w_Ses cI cZ sS sS0 (ν 0) (ν 1 0) (ν 2 0) (ν 3 0) (ν 4 0) (ν 5 0)) s.heap.size = A at hD ⊢
  have hA : ∀ q : Nat, s.heap.size ≤ q → A q := fun q h => by rw [← hAe]; exact Or.inr h
  have hS : va_S A s.heap s.heap [] := va_S.rf
  have hl := lv_entry ([.ref sS]) (n := 1) (Nat.le_of_ble_eq_true rfl)
  rw [lg_entry_eq]
  generalize (lg_sl ([.ref sS]) ++ List.replicate (1 - (lg_sl ([.ref sS])).length) Slot.unset).toArray = ls at hl ⊢
  have hl : lv_has ls 1 [(0, .ref sS)] := hl
  refine lv_aload_n hx hb d_sClose_0 rfl (lv_at hl 0 rfl) ?_
  refine lv_iconst (v := 0) hx hb d_sClose_1 (by decide) ?_
  refine va_put (D := (dC, dI)) (ci := 2) (v := .int 0) (ty := .int) (C := R_Ses) (T := T_Ses) (N := 6) hx hb hts in_Ses ty_Ses tyok_Ses nm_Ses hown hK hP hD hS 0 rfl rfl 2 (by decide) (hts _ mw_112) (fun _ h9 => h9) rfl (by decide +kernel) rfl rfl (Nat.le_of_ble_eq_true rfl) d_sClose_2 (fun H locs hP hD hS => ?_)
  have hP : va_P (dC, dI) vwCl (w_Ses cI cZ sS sS0 (ν 0) (ν 1 0) 0 (ν 3 0) (ν 4 0) (ν 5 0)) H := hP
  have hD : va_D A (w_Ses cI cZ sS sS0 (ν 0) (ν 1 0) 0 (ν 3 0) (ν 4 0) (ν 5 0)) := hD
  have hF : F_sClose ν = (ss ν 2 (fun _ => 0)) := rfl
  exact W.vret hx hb hr (fun t ht hW => ⟨⟨(ss ν 2 (fun _ => 0)), rfl, hF.symm, by rw [ht]; exact hP, hD⟩, hS.F ht⟩) hS.2.2 d_sClose_5
def F_hasI (ν : SS) : Int32 :=
  if (ν 4 0) = (-1) then
    0
  else
    if (ν 5 0) = 0 then
      if (nI 256) ≤ (ν 1 0) then
        0
      else
        1
    else
      0
set_option maxHeartbeats 4000000 in
set_option maxRecDepth 100000 in
theorem c_hasI (l : Launch) (dC : Nat → ClassId) (dI : Nat → Nat → Nat) (cI cZ : ClassId) (sS sS0 : Nat) (ν : SS) : Met l y_hasI [Cond.code y_hasI prog_4_method_4_code 1 (some .boolean)] ({ frames := 0, cells := 0, slots := 0, locals := 0 }) (pcR (dC, dI) (w_Ses cI cZ sS sS0 (ν 0) (ν 1 0) (ν 2 0) (ν 3 0) (ν 4 0) (ν 5 0)) (tyC cI cZ) [.ref sS]) (vp_Si (fun r => r = F_hasI ν)) 0 0 (fun _ => False) := by
  refine Met.ofW (cc := prog_4_method_4_code) (maxL := 1) (ret := (some .boolean)) (by decide) rfl ?_
  intro p e s m args below meth c s₁ B hml hv
  obtain ⟨rfl, hT, hP, hK⟩ := hv
  have hx := B.exec
  have hb := B.bytes
  have hr := B.returns
  have hts : ∀ w ∈ lw_ok, w.before ([.ref sS] : List Value).toArray s = true := hT.use
  have hown : s.vm.findClass R_Ses = some m.cls := findClass_of_methodNamed B.named
  have hlocks := B.notSynchronized
  have hl := lv_entry ([.ref sS]) (n := 1) (Nat.le_of_ble_eq_true rfl)
  rw [lg_entry_eq]
  generalize (lg_sl ([.ref sS]) ++ List.replicate (1 - (lg_sl ([.ref sS])).length) Slot.unset).toArray = ls at hl ⊢
  have hl : lv_has ls 1 [(0, .ref sS)] := hl
  refine lv_aload_n hx hb d_hasI_0 rfl (lv_at hl 0 rfl) ?_
  refine va_get (D := (dC, dI)) (ci := 2) (v := .int (ν 4 0)) (C := R_Ses) (T := T_Ses) (N := 6) hx hb hts in_Ses hown hK hP 0 rfl rfl 4 (by decide) (hts _ mw_116) (fun _ h9 => h9) rfl d_hasI_1 ?_
  refine lv_iconst (v := -1) hx hb d_hasI_4 (by decide) ?_
  refine lv_icmp_eq (tgt := 31) hx hb d_hasI_5 (by decide) (fun c_1 => ?_) (fun c_1 => ?_)
  · refine lv_iconst (v := 0) hx hb d_hasI_31 (by decide) ?_
    have hF : F_hasI ν = 0 := (if_pos c_1).trans rfl
    exact W.zret (ty := .boolean) (v := 0) hx hb hr (by decide) (fun t ht hW => ⟨0, rfl, hF.symm, ht⟩) (fun _ h => absurd h List.not_mem_nil) d_hasI_32
  · refine lv_aload_n hx hb d_hasI_8 rfl (lv_at hl 0 rfl) ?_
    refine va_get (D := (dC, dI)) (ci := 2) (v := .int (ν 5 0)) (C := R_Ses) (T := T_Ses) (N := 6) hx hb hts in_Ses hown hK hP 0 rfl rfl 5 (by decide) (hts _ mw_118) (fun _ h9 => h9) rfl d_hasI_9 ?_
    refine lv_if_ne (tgt := 31) hx hb d_hasI_12 (by decide) (fun c_2 => ?_) (fun c_2 => ?_)
    · refine lv_iconst (v := 0) hx hb d_hasI_31 (by decide) ?_
      have hF : F_hasI ν = 0 := (if_neg c_1).trans ((if_neg c_2).trans rfl)
      exact W.zret (ty := .boolean) (v := 0) hx hb hr (by decide) (fun t ht hW => ⟨0, rfl, hF.symm, ht⟩) (fun _ h => absurd h List.not_mem_nil) d_hasI_32
    · refine lv_aload_n hx hb d_hasI_15 rfl (lv_at hl 0 rfl) ?_
      refine va_get (D := (dC, dI)) (ci := 2) (v := .int (ν 1 0)) (C := R_Ses) (T := T_Ses) (N := 6) hx hb hts in_Ses hown hK hP 0 rfl rfl 1 (by decide) (hts _ mw_110) (fun _ h9 => h9) rfl d_hasI_16 ?_
      refine lv_aload_n hx hb d_hasI_19 rfl (lv_at hl 0 rfl) ?_
      refine va_get (D := (dC, dI)) (ci := 2) (v := .ref sS0) (C := R_Ses) (T := T_Ses) (N := 6) hx hb hts in_Ses hown hK hP 0 rfl rfl 0 (by decide) (hts _ mw_108) (fun _ h9 => h9) rfl d_hasI_20 ?_
      refine va_alen (v := nI 256) hx hb hK hP 1 0 rfl rfl rfl d_hasI_23 ?_
      refine lv_icmp_ge (tgt := 31) hx hb d_hasI_24 (by decide) (fun c_3 => ?_) (fun c_3 => ?_)
      · refine lv_iconst (v := 0) hx hb d_hasI_31 (by decide) ?_
        have hF : F_hasI ν = 0 := (if_neg c_1).trans ((if_pos c_2).trans ((if_pos c_3).trans rfl))
        exact W.zret (ty := .boolean) (v := 0) hx hb hr (by decide) (fun t ht hW => ⟨0, rfl, hF.symm, ht⟩) (fun _ h => absurd h List.not_mem_nil) d_hasI_32
      · refine lv_iconst (v := 1) hx hb d_hasI_27 (by decide) ?_
        refine lv_goto (tgt := 32) hx hb d_hasI_28 (by decide) ?_
        have hF : F_hasI ν = 1 := (if_neg c_1).trans ((if_pos c_2).trans ((if_neg c_3).trans rfl))
        exact W.zret (ty := .boolean) (v := 1) hx hb hr (by decide) (fun t ht hW => ⟨1, rfl, hF.symm, ht⟩) (fun _ h => absurd h List.not_mem_nil) d_hasI_32
theorem in_lt256 {x : Int32} (h0 : ¬ x < 0) (h1 : x < nI 256) : vp_in x 256 := in_ge (n := 256) h0 (fun h => by rw [Int32.le_iff_toInt_le] at h; rw [Int32.lt_iff_toInt_lt] at h1; omega) (by decide)
def F_addL (ν : SS) : SS :=
  if (ν 1 0) < (nI 256) then
    (ss (ss (ss ν 0 (upd (ν 0) (ν 1 0).toNatClampNeg (ν 4 0))) 1 (fun _ => (ν 1 0) + 1)) 5 (fun _ => 1))
  else
    ν
set_option maxHeartbeats 4000000 in
set_option maxRecDepth 100000 in
theorem c_addL (l : Launch) (dC : Nat → ClassId) (dI : Nat → Nat → Nat) (cI cZ : ClassId) (sS sS0 : Nat) (sz : Nat) (ν : SS) (h0 : ¬ ν 1 0 < 0) : Met l y_addL [Cond.code y_addL prog_4_method_5_code 1 none] ({ frames := 0, cells := 0, slots := 0, locals := 0 }) (pcW (dC, dI) (w_Ses cI cZ sS sS0 (ν 0) (ν 1 0) (ν 2 0) (ν 3 0) (ν 4 0) (ν 5 0)) (tyC cI cZ) sz [.ref sS]) (qV (fun u => u = F_addL ν) (dC, dI) (fun u : SS => w_Ses cI cZ sS sS0 (u 0) (u 1 0) (u 2 0) (u 3 0) (u 4 0) (u 5 0)) (va_A (w_Ses cI cZ sS sS0 (ν 0) (ν 1 0) (ν 2 0) (ν 3 0) (ν 4 0) (ν 5 0)) sz)) 0 0 (va_A (w_Ses cI cZ sS sS0 (ν 0) (ν 1 0) (ν 2 0) (ν 3 0) (ν 4 0) (ν 5 0)) sz) := by
  refine Met.ofW (cc := prog_4_method_5_code) (maxL := 1) (ret := none) (by decide) rfl ?_
  intro p e s m args below meth c s₁ B hml hv
  obtain ⟨rfl, hsz, hT, hP, hK, hD0⟩ := hv
  have hx := B.exec
  have hb := B.bytes
  have hr := B.returns
  have hts : ∀ w ∈ lw_ok, w.before ([.ref sS] : List Value).toArray s = true := hT.use
  have hown : s.vm.findClass R_Ses = some m.cls := findClass_of_methodNamed B.named
  have hlocks := B.notSynchronized
  subst hsz
  have hD := hD0.self (sz := s.heap.size)
  generalize hAe : va_A (w_Ses cI cZ sS sS0 (ν 0) (ν 1 0) (ν 2 0) (ν 3 0) (ν 4 0) (ν 5 0)) s.heap.size = A at hD ⊢
  have hA : ∀ q : Nat, s.heap.size ≤ q → A q := fun q h => by rw [← hAe]; exact Or.inr h
  have hS : va_S A s.heap s.heap [] := va_S.rf
  have hl := lv_entry ([.ref sS]) (n := 1) (Nat.le_of_ble_eq_true rfl)
  rw [lg_entry_eq]
  generalize (lg_sl ([.ref sS]) ++ List.replicate (1 - (lg_sl ([.ref sS])).length) Slot.unset).toArray = ls at hl ⊢
  have hl : lv_has ls 1 [(0, .ref sS)] := hl
  refine lv_aload_n hx hb d_addL_0 rfl (lv_at hl 0 rfl) ?_
  refine va_get (D := (dC, dI)) (ci := 2) (v := .int (ν 1 0)) (C := R_Ses) (T := T_Ses) (N := 6) hx hb hts in_Ses hown hK hP 0 rfl rfl 1 (by decide) (hts _ mw_110) (fun _ h9 => h9) rfl d_addL_1 ?_
  refine lv_aload_n hx hb d_addL_4 rfl (lv_at hl 0 rfl) ?_
  refine va_get (D := (dC, dI)) (ci := 2) (v := .ref sS0) (C := R_Ses) (T := T_Ses) (N := 6) hx hb hts in_Ses hown hK hP 0 rfl rfl 0 (by decide) (hts _ mw_108) (fun _ h9 => h9) rfl d_addL_5 ?_
  refine va_alen (v := nI 256) hx hb hK hP 1 0 rfl rfl rfl d_addL_8 ?_
  refine lv_icmp_lt (tgt := 13) hx hb d_addL_9 (by decide) (fun c_1 => ?_) (fun c_1 => ?_)
  · refine lv_aload_n hx hb d_addL_13 rfl (lv_at hl 0 rfl) ?_
    refine va_get (D := (dC, dI)) (ci := 2) (v := .ref sS0) (C := R_Ses) (T := T_Ses) (N := 6) hx hb hts in_Ses hown hK hP 0 rfl rfl 0 (by decide) (hts _ mw_108) (fun _ h9 => h9) rfl d_addL_14 ?_
    refine lv_aload_n hx hb d_addL_17 rfl (lv_at hl 0 rfl) ?_
    refine va_get (D := (dC, dI)) (ci := 2) (v := .int (ν 1 0)) (C := R_Ses) (T := T_Ses) (N := 6) hx hb hts in_Ses hown hK hP 0 rfl rfl 1 (by decide) (hts _ mw_110) (fun _ h9 => h9) rfl d_addL_18 ?_
    refine lv_aload_n hx hb d_addL_21 rfl (lv_at hl 0 rfl) ?_
    refine va_get (D := (dC, dI)) (ci := 2) (v := .int (ν 4 0)) (C := R_Ses) (T := T_Ses) (N := 6) hx hb hts in_Ses hown hK hP 0 rfl rfl 4 (by decide) (hts _ mw_116) (fun _ h9 => h9) rfl d_addL_22 ?_
    refine va_iast (n := 256) (f := ν 0) hx hb hK hP hD hS 1 0 rfl rfl (i := ν 1 0) (x := ν 4 0) (by first | assumption | exact (in_lt256 h0 ‹_›)) d_addL_25 (fun H locs hP hD hS => ?_)
    have hP : va_P (dC, dI) vwCl (w_Ses cI cZ sS sS0 (upd (ν 0) (ν 1 0).toNatClampNeg (ν 4 0)) (ν 1 0) (ν 2 0) (ν 3 0) (ν 4 0) (ν 5 0)) H := hP
    have hD : va_D A (w_Ses cI cZ sS sS0 (upd (ν 0) (ν 1 0).toNatClampNeg (ν 4 0)) (ν 1 0) (ν 2 0) (ν 3 0) (ν 4 0) (ν 5 0)) := hD
    refine lv_aload_n hx hb d_addL_26 rfl (lv_at hl 0 rfl) ?_
    refine lv_dup hx hb d_addL_27 rfl ?_
    refine va_get (D := (dC, dI)) (ci := 2) (v := .int (ν 1 0)) (C := R_Ses) (T := T_Ses) (N := 6) hx hb hts in_Ses hown hK hP 0 rfl rfl 1 (by decide) (hts _ mw_110) (fun _ h9 => h9) rfl d_addL_28 ?_
    refine lv_iconst (v := 1) hx hb d_addL_31 (by decide) ?_
    refine lv_iadd hx hb d_addL_32 ?_
    refine va_put (D := (dC, dI)) (ci := 2) (v := .int ((ν 1 0) + 1)) (ty := .int) (C := R_Ses) (T := T_Ses) (N := 6) hx hb hts in_Ses ty_Ses tyok_Ses nm_Ses hown hK hP hD hS 0 rfl rfl 1 (by decide) (hts _ mw_110) (fun _ h9 => h9) rfl (by decide +kernel) rfl rfl (Nat.le_of_ble_eq_true rfl) d_addL_33 (fun H locs hP hD hS => ?_)
    have hP : va_P (dC, dI) vwCl (w_Ses cI cZ sS sS0 (upd (ν 0) (ν 1 0).toNatClampNeg (ν 4 0)) ((ν 1 0) + 1) (ν 2 0) (ν 3 0) (ν 4 0) (ν 5 0)) H := hP
    have hD : va_D A (w_Ses cI cZ sS sS0 (upd (ν 0) (ν 1 0).toNatClampNeg (ν 4 0)) ((ν 1 0) + 1) (ν 2 0) (ν 3 0) (ν 4 0) (ν 5 0)) := hD
    refine lv_aload_n hx hb d_addL_36 rfl (lv_at hl 0 rfl) ?_
    refine lv_iconst (v := 1) hx hb d_addL_37 (by decide) ?_
    refine va_put (D := (dC, dI)) (ci := 2) (v := .int 1) (ty := .boolean) (C := R_Ses) (T := T_Ses) (N := 6) hx hb hts in_Ses ty_Ses tyok_Ses nm_Ses hown hK hP hD hS 0 rfl rfl 5 (by decide) (hts _ mw_118) (fun _ h9 => h9) rfl (by decide +kernel) (by decide) rfl (Nat.le_of_ble_eq_true rfl) d_addL_38 (fun H locs hP hD hS => ?_)
    have hP : va_P (dC, dI) vwCl (w_Ses cI cZ sS sS0 (upd (ν 0) (ν 1 0).toNatClampNeg (ν 4 0)) ((ν 1 0) + 1) (ν 2 0) (ν 3 0) (ν 4 0) 1) H := hP
    have hD : va_D A (w_Ses cI cZ sS sS0 (upd (ν 0) (ν 1 0).toNatClampNeg (ν 4 0)) ((ν 1 0) + 1) (ν 2 0) (ν 3 0) (ν 4 0) 1) := hD
    have hF : F_addL ν = (ss (ss (ss ν 0 (upd (ν 0) (ν 1 0).toNatClampNeg (ν 4 0))) 1 (fun _ => (ν 1 0) + 1)) 5 (fun _ => 1)) := (if_pos c_1).trans rfl
    exact W.vret hx hb hr (fun t ht hW => ⟨⟨(ss (ss (ss ν 0 (upd (ν 0) (ν 1 0).toNatClampNeg (ν 4 0))) 1 (fun _ => (ν 1 0) + 1)) 5 (fun _ => 1)), rfl, hF.symm, by rw [ht]; exact hP, hD⟩, hS.F ht⟩) hS.2.2 d_addL_41
  · have hF : F_addL ν = ν := (if_neg c_1).trans rfl
    exact W.vret hx hb hr (fun t ht hW => ⟨⟨ν, rfl, hF.symm, by rw [ht]; exact hP, hD⟩, hS.F ht⟩) hS.2.2 d_addL_12
def F_remLL (ν : SS) : Int32 × SS :=
  (ν 0 ((ν 1 0) - 1).toNatClampNeg, (ss ν 1 (fun _ => (ν 1 0) - 1)))
set_option maxHeartbeats 4000000 in
set_option maxRecDepth 100000 in
theorem c_remLL (l : Launch) (dC : Nat → ClassId) (dI : Nat → Nat → Nat) (cI cZ : ClassId) (sS sS0 : Nat) (sz : Nat) (ν : SS) (hi : vp_in (ν 1 0 - 1) 256) : Met l y_remLL [Cond.code y_remLL prog_4_method_6_code 1 (some .int)] ({ frames := 0, cells := 0, slots := 0, locals := 0 }) (pcW (dC, dI) (w_Ses cI cZ sS sS0 (ν 0) (ν 1 0) (ν 2 0) (ν 3 0) (ν 4 0) (ν 5 0)) (tyC cI cZ) sz [.ref sS]) (qI (fun r u => r = (F_remLL ν).1 ∧ u = (F_remLL ν).2) (dC, dI) (fun u : SS => w_Ses cI cZ sS sS0 (u 0) (u 1 0) (u 2 0) (u 3 0) (u 4 0) (u 5 0)) (va_A (w_Ses cI cZ sS sS0 (ν 0) (ν 1 0) (ν 2 0) (ν 3 0) (ν 4 0) (ν 5 0)) sz)) 0 0 (va_A (w_Ses cI cZ sS sS0 (ν 0) (ν 1 0) (ν 2 0) (ν 3 0) (ν 4 0) (ν 5 0)) sz) := by
  refine Met.ofW (cc := prog_4_method_6_code) (maxL := 1) (ret := (some .int)) (by decide) rfl ?_
  intro p e s m args below meth c s₁ B hml hv
  obtain ⟨rfl, hsz, hT, hP, hK, hD0⟩ := hv
  have hx := B.exec
  have hb := B.bytes
  have hr := B.returns
  have hts : ∀ w ∈ lw_ok, w.before ([.ref sS] : List Value).toArray s = true := hT.use
  have hown : s.vm.findClass R_Ses = some m.cls := findClass_of_methodNamed B.named
  have hlocks := B.notSynchronized
  subst hsz
  have hD := hD0.self (sz := s.heap.size)
  generalize hAe : va_A (w_Ses cI cZ sS sS0 (ν 0) (ν 1 0) (ν 2 0) (ν 3 0) (ν 4 0) (ν 5 0)) s.heap.size = A at hD ⊢
  have hA : ∀ q : Nat, s.heap.size ≤ q → A q := fun q h => by rw [← hAe]; exact Or.inr h
  have hS : va_S A s.heap s.heap [] := va_S.rf
  have hl := lv_entry ([.ref sS]) (n := 1) (Nat.le_of_ble_eq_true rfl)
  rw [lg_entry_eq]
  generalize (lg_sl ([.ref sS]) ++ List.replicate (1 - (lg_sl ([.ref sS])).length) Slot.unset).toArray = ls at hl ⊢
  have hl : lv_has ls 1 [(0, .ref sS)] := hl
  refine lv_aload_n hx hb d_remLL_0 rfl (lv_at hl 0 rfl) ?_
  refine lv_dup hx hb d_remLL_1 rfl ?_
  refine va_get (D := (dC, dI)) (ci := 2) (v := .int (ν 1 0)) (C := R_Ses) (T := T_Ses) (N := 6) hx hb hts in_Ses hown hK hP 0 rfl rfl 1 (by decide) (hts _ mw_110) (fun _ h9 => h9) rfl d_remLL_2 ?_
  refine lv_iconst (v := 1) hx hb d_remLL_5 (by decide) ?_
  refine lv_isub hx hb d_remLL_6 ?_
  refine va_put (D := (dC, dI)) (ci := 2) (v := .int ((ν 1 0) - 1)) (ty := .int) (C := R_Ses) (T := T_Ses) (N := 6) hx hb hts in_Ses ty_Ses tyok_Ses nm_Ses hown hK hP hD hS 0 rfl rfl 1 (by decide) (hts _ mw_110) (fun _ h9 => h9) rfl (by decide +kernel) rfl rfl (Nat.le_of_ble_eq_true rfl) d_remLL_7 (fun H locs hP hD hS => ?_)
  have hP : va_P (dC, dI) vwCl (w_Ses cI cZ sS sS0 (ν 0) ((ν 1 0) - 1) (ν 2 0) (ν 3 0) (ν 4 0) (ν 5 0)) H := hP
  have hD : va_D A (w_Ses cI cZ sS sS0 (ν 0) ((ν 1 0) - 1) (ν 2 0) (ν 3 0) (ν 4 0) (ν 5 0)) := hD
  refine lv_aload_n hx hb d_remLL_10 rfl (lv_at hl 0 rfl) ?_
  refine va_get (D := (dC, dI)) (ci := 2) (v := .ref sS0) (C := R_Ses) (T := T_Ses) (N := 6) hx hb hts in_Ses hown hK hP 0 rfl rfl 0 (by decide) (hts _ mw_108) (fun _ h9 => h9) rfl d_remLL_11 ?_
  refine lv_aload_n hx hb d_remLL_14 rfl (lv_at hl 0 rfl) ?_
  refine va_get (D := (dC, dI)) (ci := 2) (v := .int ((ν 1 0) - 1)) (C := R_Ses) (T := T_Ses) (N := 6) hx hb hts in_Ses hown hK hP 0 rfl rfl 1 (by decide) (hts _ mw_110) (fun _ h9 => h9) rfl d_remLL_15 ?_
  refine va_iald (n := 256) (f := ν 0) hx hb hK hP 1 0 rfl rfl (i := (ν 1 0) - 1) (by first | assumption) d_remLL_18 ?_
  have hF : F_remLL ν = (ν 0 ((ν 1 0) - 1).toNatClampNeg, (ss ν 1 (fun _ => (ν 1 0) - 1))) := rfl
  exact W.iret (v := ν 0 ((ν 1 0) - 1).toNatClampNeg) hx hb hr (fun t ht hW => ⟨⟨ν 0 ((ν 1 0) - 1).toNatClampNeg, (ss ν 1 (fun _ => (ν 1 0) - 1)), rfl, ⟨(congrArg Prod.fst hF).symm, (congrArg Prod.snd hF).symm⟩, by rw [ht]; exact hP, hD⟩, hS.F ht⟩) hS.2.2 d_remLL_19
def shl (f : Nat → Int32) (a b : Nat) : Nat → Nat → Int32
  | 0 => f
  | j + 1 => upd (shl f a b j) (a + j) (shl f a b j (b + j))
set_option maxHeartbeats 4000000 in
set_option maxRecDepth 100000 in
theorem lp_remR {p : Program} {l : Launch} {e : Env} {R : Room} {s : State} {m : MethodId} {args : Array Value} {below : List Frame} {meth : Method} {c : Code} {Q : State → Prop} {cells slots : Nat} {A : Nat → Prop} {H0 : Heap} {dC : Nat → ClassId} {dI : Nat → Nat → Nat} {cI cZ : ClassId} {mo : Nat} {kR kR0 kR1 : Nat} {κ : SS} {q1 q2 : Int32} {a b kc : Nat} (hx : p.tables.exec = Jvm.exec) (hb : c.code = prog_3_method_7_code) (hml : c.maxLocals = 4) (hT : TBL s) (hts : ∀ w ∈ lw_ok, w.before args s = true) (hown : s.vm.findClass R_Row = some m.cls) (hK : va_K (dC, dI) vwCl (tyC cI cZ) s) (hA : ∀ q : Nat, H0.size ≤ q → A q) (hmo : mo ≤ 100) (ea : q1 = nI a) (eb : q2 = nI b) (ek : κ 2 0 = nI kc) (hab : a ≤ b) (hbk : b ≤ kc) (hkm : kc ≤ mo) (kx : ∀ (ls : Array Slot) (H : Heap) (locs : List Loc), va_P (dC, dI) vwCl (w_Row cI cZ mo kR kR0 kR1 ((ss (ss κ 0 (shl (κ 0) a b (kc - b))) 1 (shl (κ 1) a b (kc - b))) 0) ((ss (ss κ 0 (shl (κ 0) a b (kc - b))) 1 (shl (κ 1) a b (kc - b))) 1) ((ss (ss κ 0 (shl (κ 0) a b (kc - b))) 1 (shl (κ 1) a b (kc - b))) 2 0)) H → va_D A (w_Row cI cZ mo kR kR0 kR1 ((ss (ss κ 0 (shl (κ 0) a b (kc - b))) 1 (shl (κ 1) a b (kc - b))) 0) ((ss (ss κ 0 (shl (κ 0) a b (kc - b))) 1 (shl (κ 1) a b (kc - b))) 1) ((ss (ss κ 0 (shl (κ 0) a b (kc - b))) 1 (shl (κ 1) a b (kc - b))) 2 0)) → va_S A H0 H locs → lv_has ls 4 [(0, .ref kR), (1, .int q1), (2, .int q2), (3, .int (nI (b + (kc - b))))] → W p l e R s m args below meth c H locs cells slots Q (F0 m 66 ls [])) : ∀ (n : Nat) (j : Nat) (ls : Array Slot), (b + j ≤ kc) → kc + 1 ≤ (b + j) + n → ∀ (H : Heap) (locs : List Loc), va_P (dC, dI) vwCl (w_Row cI cZ mo kR kR0 kR1 (shl (κ 0) a b j) (shl (κ 1) a b j) (κ 2 0)) H → va_D A (w_Row cI cZ mo kR kR0 kR1 (shl (κ 0) a b j) (shl (κ 1) a b j) (κ 2 0)) → va_S A H0 H locs → lv_has ls 4 [(0, .ref kR), (1, .int q1), (2, .int q2), (3, .int (nI (b + j)))] → W p l e R s m args below meth c H locs cells slots Q (F0 m 20 ls []) := by
  intro n
  induction n with
  | zero => intro j ls hj hfu; exact absurd hfu (by omega)
  | succ n ih =>
    intro j ls hj hfu H locs hP hD hS hl
    refine lv_iload_n hx hb d_remR_20 rfl (lv_at hl 3 rfl) ?_
    refine lv_aload_n hx hb d_remR_21 rfl (lv_at hl 0 rfl) ?_
    refine va_get (D := (dC, dI)) (ci := 1) (v := .int (κ 2 0)) (C := R_Row) (T := T_Row) (N := 3) hx hb hts in_Row hown hK hP 0 rfl rfl 2 (by decide) (hts _ mw_93) (fun _ h9 => h9) rfl d_remR_22 ?_
    refine lv_icmp_ge (tgt := 66) hx hb d_remR_25 (by decide) (fun c_1 => ?_) (fun c_1 => ?_)
    · have hj : j = kc - b := by
        rcases Nat.lt_or_ge (b + j) kc with h | h
        · exact absurd (ek ▸ c_1) (nI_ge h (by omega))
        · omega
      subst hj
      exact kx ls H locs hP hD hS hl
    · have hlt : b + j < kc := lt_nle (by omega) (by omega) (ek ▸ c_1)
      refine lv_aload_n hx hb d_remR_28 rfl (lv_at hl 0 rfl) ?_
      refine va_get (D := (dC, dI)) (ci := 1) (v := .ref kR0) (C := R_Row) (T := T_Row) (N := 3) hx hb hts in_Row hown hK hP 0 rfl rfl 0 (by decide) (hts _ mw_89) (fun _ h9 => h9) rfl d_remR_29 ?_
      refine lv_iload_n hx hb d_remR_32 rfl (lv_at hl 1 rfl) ?_
      refine lv_iload_n hx hb d_remR_33 rfl (lv_at hl 3 rfl) ?_
      refine lv_iadd hx hb d_remR_34 ?_
      refine lv_iload_n hx hb d_remR_35 rfl (lv_at hl 2 rfl) ?_
      refine lv_isub hx hb d_remR_36 ?_
      refine lv_aload_n hx hb d_remR_37 rfl (lv_at hl 0 rfl) ?_
      refine va_get (D := (dC, dI)) (ci := 1) (v := .ref kR0) (C := R_Row) (T := T_Row) (N := 3) hx hb hts in_Row hown hK hP 0 rfl rfl 0 (by decide) (hts _ mw_89) (fun _ h9 => h9) rfl d_remR_38 ?_
      refine lv_iload_n hx hb d_remR_41 rfl (lv_at hl 3 rfl) ?_
      refine va_iald (n := mo) (f := shl (κ 0) a b j) hx hb hK hP 1 0 rfl rfl (i := nI (b + j)) (vp_in_nI (by omega) (by omega)) d_remR_42 ?_
      refine va_iast (n := mo) (f := shl (κ 0) a b j) hx hb hK hP hD hS 1 0 rfl rfl (i := (q1 + (nI (b + j))) - q2) (x := (shl (κ 0) a b j) (nI (b + j)).toNatClampNeg) (by rw [ea, eb, nI_add, pk_sub (by omega)]; exact vp_in_nI (by omega) (by omega)) d_remR_43 (fun H locs hP hD hS => ?_)
      have hP : va_P (dC, dI) vwCl (w_Row cI cZ mo kR kR0 kR1 (upd (shl (κ 0) a b j) ((q1 + (nI (b + j))) - q2).toNatClampNeg ((shl (κ 0) a b j) (nI (b + j)).toNatClampNeg)) (shl (κ 1) a b j) (κ 2 0)) H := hP
      have hD : va_D A (w_Row cI cZ mo kR kR0 kR1 (upd (shl (κ 0) a b j) ((q1 + (nI (b + j))) - q2).toNatClampNeg ((shl (κ 0) a b j) (nI (b + j)).toNatClampNeg)) (shl (κ 1) a b j) (κ 2 0)) := hD
      refine lv_aload_n hx hb d_remR_44 rfl (lv_at hl 0 rfl) ?_
      refine va_get (D := (dC, dI)) (ci := 1) (v := .ref kR1) (C := R_Row) (T := T_Row) (N := 3) hx hb hts in_Row hown hK hP 0 rfl rfl 1 (by decide) (hts _ mw_91) (fun _ h9 => h9) rfl d_remR_45 ?_
      refine lv_iload_n hx hb d_remR_48 rfl (lv_at hl 1 rfl) ?_
      refine lv_iload_n hx hb d_remR_49 rfl (lv_at hl 3 rfl) ?_
      refine lv_iadd hx hb d_remR_50 ?_
      refine lv_iload_n hx hb d_remR_51 rfl (lv_at hl 2 rfl) ?_
      refine lv_isub hx hb d_remR_52 ?_
      refine lv_aload_n hx hb d_remR_53 rfl (lv_at hl 0 rfl) ?_
      refine va_get (D := (dC, dI)) (ci := 1) (v := .ref kR1) (C := R_Row) (T := T_Row) (N := 3) hx hb hts in_Row hown hK hP 0 rfl rfl 1 (by decide) (hts _ mw_91) (fun _ h9 => h9) rfl d_remR_54 ?_
      refine lv_iload_n hx hb d_remR_57 rfl (lv_at hl 3 rfl) ?_
      refine va_iald (n := mo) (f := shl (κ 1) a b j) hx hb hK hP 2 0 rfl rfl (i := nI (b + j)) (vp_in_nI (by omega) (by omega)) d_remR_58 ?_
      refine va_iast (n := mo) (f := shl (κ 1) a b j) hx hb hK hP hD hS 2 0 rfl rfl (i := (q1 + (nI (b + j))) - q2) (x := (shl (κ 1) a b j) (nI (b + j)).toNatClampNeg) (by rw [ea, eb, nI_add, pk_sub (by omega)]; exact vp_in_nI (by omega) (by omega)) d_remR_59 (fun H locs hP hD hS => ?_)
      have hP : va_P (dC, dI) vwCl (w_Row cI cZ mo kR kR0 kR1 (upd (shl (κ 0) a b j) ((q1 + (nI (b + j))) - q2).toNatClampNeg ((shl (κ 0) a b j) (nI (b + j)).toNatClampNeg)) (upd (shl (κ 1) a b j) ((q1 + (nI (b + j))) - q2).toNatClampNeg ((shl (κ 1) a b j) (nI (b + j)).toNatClampNeg)) (κ 2 0)) H := hP
      have hD : va_D A (w_Row cI cZ mo kR kR0 kR1 (upd (shl (κ 0) a b j) ((q1 + (nI (b + j))) - q2).toNatClampNeg ((shl (κ 0) a b j) (nI (b + j)).toNatClampNeg)) (upd (shl (κ 1) a b j) ((q1 + (nI (b + j))) - q2).toNatClampNeg ((shl (κ 1) a b j) (nI (b + j)).toNatClampNeg)) (κ 2 0)) := hD
      refine lv_iinc (v := nI (b + (j + 1))) (lv' := [(3, .int (nI (b + (j + 1)))), (0, .ref kR), (1, .int q1), (2, .int q2)]) hx hb d_remR_60 hl (k := 3) rfl (nI_1 _) (by decide) rfl (fun ls hl => ?_)
      refine lv_goto (tgt := 20) hx hb d_remR_63 (by decide) ?_
      have e1 : (q1 + nI (b + j) - q2).toNatClampNeg = a + j := by rw [ea, eb, nI_add, pk_sub (by omega), nI_clamp (by omega)]; omega
      have e2 : (nI (b + j)).toNatClampNeg = b + j := nI_clamp (by omega)
      rw [e1, e2] at hP hD
      exact ih (j + 1) ls (by omega) (by omega) H locs hP hD hS (lv_sub hl [1, 2, 3, 0] rfl)
def F_remR (mo : Nat) (κ : SS) (q1 q2 : Int32) : SS :=
  if q1 < 0 then κ else if q2 < q1 then κ else if q2 ≤ κ 2 0 then
    ss (ss (ss κ 0 (shl (κ 0) q1.toNatClampNeg q2.toNatClampNeg ((κ 2 0).toNatClampNeg - q2.toNatClampNeg))) 1 (shl (κ 1) q1.toNatClampNeg q2.toNatClampNeg ((κ 2 0).toNatClampNeg - q2.toNatClampNeg))) 2 (fun _ => κ 2 0 - (q2 - q1))
  else κ
theorem F_remR_eq (mo : Nat) (κ : SS) (q1 q2 : Int32) : F_remR mo κ q1 q2 = if q1 < 0 then κ else if q2 < q1 then κ else if q2 ≤ κ 2 0 then
    ss (ss (ss κ 0 (shl (κ 0) q1.toNatClampNeg q2.toNatClampNeg ((κ 2 0).toNatClampNeg - q2.toNatClampNeg))) 1 (shl (κ 1) q1.toNatClampNeg q2.toNatClampNeg ((κ 2 0).toNatClampNeg - q2.toNatClampNeg))) 2 (fun _ => κ 2 0 - (q2 - q1))
  else κ := rfl
set_option maxHeartbeats 4000000 in
set_option maxRecDepth 100000 in
theorem c_remR (l : Launch) (dC : Nat → ClassId) (dI : Nat → Nat → Nat) (cI cZ : ClassId) (mo : Nat) (kR kR0 kR1 : Nat) (sz : Nat) (κ : SS) (q1 : Int32) (q2 : Int32) (hmo : mo ≤ 100) (hkc : ∃ kc : Nat, kc ≤ mo ∧ κ 2 0 = nI kc) : Met l y_remR [Cond.code y_remR prog_3_method_7_code 4 none] ({ frames := 0, cells := 0, slots := 0, locals := 0 }) (pcW (dC, dI) (w_Row cI cZ mo kR kR0 kR1 (κ 0) (κ 1) (κ 2 0)) (tyC cI cZ) sz [.ref kR, .int q1, .int q2]) (qV (fun u => u = F_remR mo κ q1 q2) (dC, dI) (fun u : SS => w_Row cI cZ mo kR kR0 kR1 (u 0) (u 1) (u 2 0)) (va_A (w_Row cI cZ mo kR kR0 kR1 (κ 0) (κ 1) (κ 2 0)) sz)) 0 0 (va_A (w_Row cI cZ mo kR kR0 kR1 (κ 0) (κ 1) (κ 2 0)) sz) := by
  refine Met.ofW (cc := prog_3_method_7_code) (maxL := 4) (ret := none) (by decide) rfl ?_
  intro p e s m args below meth c s₁ B hml hv
  obtain ⟨rfl, hsz, hT, hP, hK, hD0⟩ := hv
  have hx := B.exec
  have hb := B.bytes
  have hr := B.returns
  have hts : ∀ w ∈ lw_ok, w.before ([.ref kR, .int q1, .int q2] : List Value).toArray s = true := hT.use
  have hown : s.vm.findClass R_Row = some m.cls := findClass_of_methodNamed B.named
  have hlocks := B.notSynchronized
  subst hsz
  have hD := hD0.self (sz := s.heap.size)
  generalize hAe : va_A (w_Row cI cZ mo kR kR0 kR1 (κ 0) (κ 1) (κ 2 0)) s.heap.size = A at hD ⊢
  have hA : ∀ q : Nat, s.heap.size ≤ q → A q := fun q h => by rw [← hAe]; exact Or.inr h
  have hS : va_S A s.heap s.heap [] := va_S.rf
  have hl := lv_entry ([.ref kR, .int q1, .int q2]) (n := 4) (Nat.le_of_ble_eq_true rfl)
  rw [lg_entry_eq]
  generalize (lg_sl ([.ref kR, .int q1, .int q2]) ++ List.replicate (4 - (lg_sl ([.ref kR, .int q1, .int q2])).length) Slot.unset).toArray = ls at hl ⊢
  have hl : lv_has ls 4 [(0, .ref kR), (1, .int q1), (2, .int q2)] := hl
  refine lv_iload_n hx hb d_remR_0 rfl (lv_at hl 1 rfl) ?_
  refine lv_if_lt (tgt := 17) hx hb d_remR_1 (by decide) (fun c_1 => ?_) (fun c_1 => ?_)
  · have hF : F_remR mo κ q1 q2 = κ := (F_remR_eq mo κ q1 q2).trans ((if_pos c_1).trans rfl)
    exact W.vret hx hb hr (fun t ht hW => ⟨⟨κ, rfl, hF.symm, by rw [ht]; exact hP, hD⟩, hS.F ht⟩) hS.2.2 d_remR_17
  · refine lv_iload_n hx hb d_remR_4 rfl (lv_at hl 2 rfl) ?_
    refine lv_iload_n hx hb d_remR_5 rfl (lv_at hl 1 rfl) ?_
    refine lv_icmp_lt (tgt := 17) hx hb d_remR_6 (by decide) (fun c_2 => ?_) (fun c_2 => ?_)
    · have hF : F_remR mo κ q1 q2 = κ := (F_remR_eq mo κ q1 q2).trans ((if_neg c_1).trans ((if_pos c_2).trans rfl))
      exact W.vret hx hb hr (fun t ht hW => ⟨⟨κ, rfl, hF.symm, by rw [ht]; exact hP, hD⟩, hS.F ht⟩) hS.2.2 d_remR_17
    · refine lv_iload_n hx hb d_remR_9 rfl (lv_at hl 2 rfl) ?_
      refine lv_aload_n hx hb d_remR_10 rfl (lv_at hl 0 rfl) ?_
      refine va_get (D := (dC, dI)) (ci := 1) (v := .int (κ 2 0)) (C := R_Row) (T := T_Row) (N := 3) hx hb hts in_Row hown hK hP 0 rfl rfl 2 (by decide) (hts _ mw_93) (fun _ h9 => h9) rfl d_remR_11 ?_
      refine lv_icmp_le (tgt := 18) hx hb d_remR_14 (by decide) (fun c_3 => ?_) (fun c_3 => ?_)
      · refine lv_iload_n hx hb d_remR_18 rfl (lv_at hl 2 rfl) ?_
        refine lv_istore_n (lv' := [(3, .int q2), (0, .ref kR), (1, .int q1), (2, .int q2)]) hx hb d_remR_19 rfl hl (by decide) rfl (fun ls hl => ?_)
        obtain ⟨kc, hkm, ek⟩ := hkc
        obtain ⟨a, ha, ea⟩ := nI_of c_1
        obtain ⟨b, hb9, eb⟩ : ∃ b : Nat, b < 2 ^ 31 ∧ q2 = nI b := nI_of (fun h => c_2 (by rw [ea]; rw [Int32.lt_iff_toInt_lt] at h ⊢; rw [nI_toInt ha]; have := Int32.toInt_zero; omega))
        have hab : a ≤ b := by
          rcases Nat.lt_or_ge b a with h | h
          · exact absurd (by rw [ea, eb]; exact nI_lt h ha) c_2
          · exact h
        have hbk : b ≤ kc := by have h := c_3; rw [eb, ek] at h; exact (nI_leI hb9 (by omega)).mp h
        refine lp_remR hx hb hml hT hts hown hK hA hmo ea eb ek hab hbk hkm (fun ls H locs hP hD hS hl => ?_) (kc + 1) 0 ls (by omega) (by omega) _ _ hP hD hS (by rw [Nat.add_zero, ← eb]; exact lv_sub hl [1, 2, 3, 0] rfl)
        refine lv_aload_n hx hb d_remR_66 rfl (lv_at hl 0 rfl) ?_
        refine lv_dup hx hb d_remR_67 rfl ?_
        refine va_get (D := (dC, dI)) (ci := 1) (v := .int (κ 2 0)) (C := R_Row) (T := T_Row) (N := 3) hx hb hts in_Row hown hK hP 0 rfl rfl 2 (by decide) (hts _ mw_93) (fun _ h9 => h9) rfl d_remR_68 ?_
        refine lv_iload_n hx hb d_remR_71 rfl (lv_at hl 2 rfl) ?_
        refine lv_iload_n hx hb d_remR_72 rfl (lv_at hl 1 rfl) ?_
        refine lv_isub hx hb d_remR_73 ?_
        refine lv_isub hx hb d_remR_74 ?_
        refine va_put (D := (dC, dI)) (ci := 1) (v := .int ((κ 2 0) - (q2 - q1))) (ty := .int) (C := R_Row) (T := T_Row) (N := 3) hx hb hts in_Row ty_Row tyok_Row nm_Row hown hK hP hD hS 0 rfl rfl 2 (by decide) (hts _ mw_93) (fun _ h9 => h9) rfl (by decide +kernel) rfl rfl (Nat.le_of_ble_eq_true rfl) d_remR_75 (fun H locs hP hD hS => ?_)
        have hP : va_P (dC, dI) vwCl (w_Row cI cZ mo kR kR0 kR1 (shl (κ 0) a b (kc - b)) (shl (κ 1) a b (kc - b)) ((κ 2 0) - (q2 - q1))) H := hP
        have hD : va_D A (w_Row cI cZ mo kR kR0 kR1 (shl (κ 0) a b (kc - b)) (shl (κ 1) a b (kc - b)) ((κ 2 0) - (q2 - q1))) := hD
        have hF : F_remR mo κ q1 q2 = (ss (ss (ss κ 0 (shl (κ 0) a b (kc - b))) 1 (shl (κ 1) a b (kc - b))) 2 (fun _ => (κ 2 0) - (q2 - q1))) := (F_remR_eq mo κ q1 q2).trans ((if_neg c_1).trans ((if_neg c_2).trans ((if_pos c_3).trans (by rw [ea, eb, ek, nI_clamp ha, nI_clamp hb9, nI_clamp (show kc < 2 ^ 31 by omega)]))))
        exact W.vret hx hb hr (fun t ht hW => ⟨⟨(ss (ss (ss κ 0 (shl (κ 0) a b (kc - b))) 1 (shl (κ 1) a b (kc - b))) 2 (fun _ => (κ 2 0) - (q2 - q1))), rfl, hF.symm, by rw [ht]; exact hP, hD⟩, hS.F ht⟩) hS.2.2 d_remR_78
      · have hF : F_remR mo κ q1 q2 = κ := (F_remR_eq mo κ q1 q2).trans ((if_neg c_1).trans ((if_neg c_2).trans ((if_neg c_3).trans rfl)))
        exact W.vret hx hb hr (fun t ht hW => ⟨⟨κ, rfl, hF.symm, by rw [ht]; exact hP, hD⟩, hS.F ht⟩) hS.2.2 d_remR_17
