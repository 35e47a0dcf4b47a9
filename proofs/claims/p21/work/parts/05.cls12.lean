theorem jn_in {mo : Nat} {ω η κ χ ν : SS} (h : CInv mo ω η κ χ ν) : ∀ i, CInv mo (jn mo ω η κ χ ν i).1 (jn mo ω η κ χ ν i).2.1 (jn mo ω η κ χ ν i).2.2.1 (jn mo ω η κ χ ν i).2.2.2.1 (jn mo ω η κ χ ν i).2.2.2.2 ∧ (jn mo ω η κ χ ν i).2.2.1 = κ := by
  intro i
  induction i with
  | zero => exact ⟨h, rfl⟩
  | succ i ih =>
    have h1 := joinR_in (x := (jn mo ω η κ χ ν i).2.2.1 0 i) (y := (jn mo ω η κ χ ν i).2.2.1 1 i) ih.1
    exact ⟨h1.1, h1.2.trans ih.2⟩
theorem jn_row {mo : Nat} {ω η κ χ ν : SS} {rc : Nat} (hI : CInv mo ω η κ χ ν) (hr : nI rc ≤ κ 2 0) (hrm : rc ≤ 2 ^ 30) : rc ≤ mo ∧ (∀ i, i < rc → JRow mo ω η κ (F_remF mo χ (χ 2 0)) ν i) ∧ (∃ kc : Nat, kc ≤ mo ∧ (jn mo ω η κ (F_remF mo χ (χ 2 0)) ν rc).2.2.1 2 0 = nI kc) := by
  obtain ⟨hmo, hof, hH, hK, hX, hN⟩ := hI.un
  have hI2 : CInv mo ω η κ (F_remF mo χ (χ 2 0)) ν := CInv.mk hmo hof hH hK (remF_all hmo hX).1 hN
  obtain ⟨kc, hk, ek, hrow⟩ := id hK
  rw [ek] at hr
  have hrk : rc ≤ kc := (nI_leI (by omega) (by omega)).mp hr
  refine ⟨by omega, fun i hi => ⟨(jn_in hI2 i).1, ?_⟩, kc, hk, ?_⟩
  · rw [(jn_in hI2 i).2]; exact hrow i (by omega)
  · rw [(jn_in hI2 rc).2]; exact ek
def F_join (mo : Nat) (ω η κ χ ν : SS) (q1 : Int32) : Int32 × SS × SS × SS × SS × SS :=
  if (ω 0 0) = 0 then
    if q1 < 0 then
      (-1, ω, η, κ, χ, ν)
    else
      if q1 ≤ (κ 2 0) then
        (((jn mo ω η κ (F_remF mo χ (χ 2 0)) ν q1.toNatClampNeg).2.2.2.1) 2 0, (jn mo ω η κ (F_remF mo χ (χ 2 0)) ν q1.toNatClampNeg).1, (jn mo ω η κ (F_remF mo χ (χ 2 0)) ν q1.toNatClampNeg).2.1, (F_remF mo ((jn mo ω η κ (F_remF mo χ (χ 2 0)) ν q1.toNatClampNeg).2.2.1) q1), (jn mo ω η κ (F_remF mo χ (χ 2 0)) ν q1.toNatClampNeg).2.2.2.1, (jn mo ω η κ (F_remF mo χ (χ 2 0)) ν q1.toNatClampNeg).2.2.2.2)
      else
        (-1, ω, η, κ, χ, ν)
  else
    (-1, ω, η, κ, χ, ν)
set_option maxHeartbeats 4000000 in
set_option maxRecDepth 100000 in
theorem c_join (l : Launch) (dC : Nat → ClassId) (dI : Nat → Nat → Nat) (cI cZ : ClassId) (mo : Nat) (oM hH hH0 hH1 hH2 hH3 hH4 hH5 hH6 hH7 hH8 kR kR0 kR1 xR xR0 xR1 sS sS0 : Nat) (sz : Nat) (ω η κ χ ν : SS) (q1 : Int32) (hI : CInv mo ω η κ χ ν) : Met l y_join [Cond.code y_join prog_1_method_13_code 3 (some .int)] ({ frames := 4, cells := 0, slots := 0, locals := 87 }) (pcW (dC, dI) (w_Main cI cZ mo oM hH hH0 hH1 hH2 hH3 hH4 hH5 hH6 hH7 hH8 kR kR0 kR1 xR xR0 xR1 sS sS0 (ω 0 0) (η 0) (η 1) (η 2) (η 3) (η 4) (η 5) (η 6) (η 7) (η 8) (κ 0) (κ 1) (κ 2 0) (χ 0) (χ 1) (χ 2 0) (ν 0) (ν 1 0) (ν 2 0) (ν 3 0) (ν 4 0) (ν 5 0)) (tyC cI cZ) sz [.ref oM, .int q1]) (qI (fun r u => r = (F_join mo ω η κ χ ν q1).1 ∧ u = (F_join mo ω η κ χ ν q1).2) (dC, dI) (fun u : SS × SS × SS × SS × SS => w_Main cI cZ mo oM hH hH0 hH1 hH2 hH3 hH4 hH5 hH6 hH7 hH8 kR kR0 kR1 xR xR0 xR1 sS sS0 (u.1 0 0) (u.2.1 0) (u.2.1 1) (u.2.1 2) (u.2.1 3) (u.2.1 4) (u.2.1 5) (u.2.1 6) (u.2.1 7) (u.2.1 8) (u.2.2.1 0) (u.2.2.1 1) (u.2.2.1 2 0) (u.2.2.2.1 0) (u.2.2.2.1 1) (u.2.2.2.1 2 0) (u.2.2.2.2 0) (u.2.2.2.2 1 0) (u.2.2.2.2 2 0) (u.2.2.2.2 3 0) (u.2.2.2.2 4 0) (u.2.2.2.2 5 0)) (va_A (w_Main cI cZ mo oM hH hH0 hH1 hH2 hH3 hH4 hH5 hH6 hH7 hH8 kR kR0 kR1 xR xR0 xR1 sS sS0 (ω 0 0) (η 0) (η 1) (η 2) (η 3) (η 4) (η 5) (η 6) (η 7) (η 8) (κ 0) (κ 1) (κ 2 0) (χ 0) (χ 1) (χ 2 0) (ν 0) (ν 1 0) (ν 2 0) (ν 3 0) (ν 4 0) (ν 5 0)) sz)) 0 0 (va_A (w_Main cI cZ mo oM hH hH0 hH1 hH2 hH3 hH4 hH5 hH6 hH7 hH8 kR kR0 kR1 xR xR0 xR1 sS sS0 (ω 0 0) (η 0) (η 1) (η 2) (η 3) (η 4) (η 5) (η 6) (η 7) (η 8) (κ 0) (κ 1) (κ 2 0) (χ 0) (χ 1) (χ 2 0) (ν 0) (ν 1 0) (ν 2 0) (ν 3 0) (ν 4 0) (ν 5 0)) sz) := by
  refine Met.ofW (cc := prog_1_method_13_code) (maxL := 3) (ret := (some .int)) (by decide) rfl ?_
  intro p e s m args below meth c s₁ B hml hv
  obtain ⟨rfl, hsz, hT, hP, hK, hD0⟩ := hv
  have hx := B.exec
  have hb := B.bytes
  have hr := B.returns
  have hts : ∀ w ∈ lw_ok, w.before ([.ref oM, .int q1] : List Value).toArray s = true := hT.use
  have hown : s.vm.findClass R_Main = some m.cls := findClass_of_methodNamed B.named
  have hlocks := B.notSynchronized
  subst hsz
  have hD := hD0.self (sz := s.heap.size)
  generalize hAe : va_A (w_Main cI cZ mo oM hH hH0 hH1 hH2 hH3 hH4 hH5 hH6 hH7 hH8 kR kR0 kR1 xR xR0 xR1 sS sS0 (ω 0 0) (η 0) (η 1) (η 2) (η 3) (η 4) (η 5) (η 6) (η 7) (η 8) (κ 0) (κ 1) (κ 2 0) (χ 0) (χ 1) (χ 2 0) (ν 0) (ν 1 0) (ν 2 0) (ν 3 0) (ν 4 0) (ν 5 0)) s.heap.size = A at hD ⊢
  have hA : ∀ q : Nat, s.heap.size ≤ q → A q := fun q h => by rw [← hAe]; exact Or.inr h
  have hS : va_S A s.heap s.heap [] := va_S.rf
  have hl := lv_entry ([.ref oM, .int q1]) (n := 3) (Nat.le_of_ble_eq_true rfl)
  rw [lg_entry_eq]
  generalize (lg_sl ([.ref oM, .int q1]) ++ List.replicate (3 - (lg_sl ([.ref oM, .int q1])).length) Slot.unset).toArray = ls at hl ⊢
  have hl : lv_has ls 3 [(0, .ref oM), (1, .int q1)] := hl
  obtain ⟨hmo, hof, hre, hlo, hlk, hkc, hxc, hpe, hla, hlc⟩ := id hI
  refine lv_aload_n hx hb d_join_0 rfl (lv_at hl 0 rfl) ?_
  refine va_get (D := (dC, dI)) (ci := 3) (v := .int (ω 0 0)) (C := R_Main) (T := T_Main) (N := 5) hx hb hts in_Main hown hK hP 0 rfl rfl 4 (by decide) (hts _ mw_137) (fun _ h9 => h9) rfl d_join_1 ?_
  refine lv_if_ne (tgt := 22) hx hb d_join_4 (by decide) (fun c_1 => ?_) (fun c_1 => ?_)
  · refine lv_iconst (v := -1) hx hb d_join_22 (by decide) ?_
    have hF : F_join mo ω η κ χ ν q1 = (-1, ω, η, κ, χ, ν) := (if_neg c_1).trans rfl
    exact W.iret (v := -1) hx hb hr (fun t ht hW => ⟨⟨-1, (ω, η, κ, χ, ν), rfl, ⟨(congrArg Prod.fst hF).symm, (congrArg Prod.snd hF).symm⟩, by rw [ht]; exact hP, hD⟩, hS.F ht⟩) hS.2.2 d_join_23
  · refine lv_iload_n hx hb d_join_7 rfl (lv_at hl 1 rfl) ?_
    refine lv_if_lt (tgt := 22) hx hb d_join_8 (by decide) (fun c_2 => ?_) (fun c_2 => ?_)
    · refine lv_iconst (v := -1) hx hb d_join_22 (by decide) ?_
      have hF : F_join mo ω η κ χ ν q1 = (-1, ω, η, κ, χ, ν) := (if_pos c_1).trans ((if_pos c_2).trans rfl)
      exact W.iret (v := -1) hx hb hr (fun t ht hW => ⟨⟨-1, (ω, η, κ, χ, ν), rfl, ⟨(congrArg Prod.fst hF).symm, (congrArg Prod.snd hF).symm⟩, by rw [ht]; exact hP, hD⟩, hS.F ht⟩) hS.2.2 d_join_23
    · refine lv_iload_n hx hb d_join_11 rfl (lv_at hl 1 rfl) ?_
      refine lv_aload_n hx hb d_join_12 rfl (lv_at hl 0 rfl) ?_
      refine va_get (D := (dC, dI)) (ci := 3) (v := .ref kR) (C := R_Main) (T := T_Main) (N := 5) hx hb hts in_Main hown hK hP 0 rfl rfl 1 (by decide) (hts _ mw_134) (fun _ h9 => h9) rfl d_join_13 ?_
      refine va_getN (D := (dC, dI)) (ci := 1) (v := .int (κ 2 0)) (C := R_Row) (T := T_Row) (N := 3) hx hb hts in_Row hown hK hP 11 rfl rfl 2 (by decide) (hts _ mw_94) (fun _ h9 => h9) rfl d_join_16 ?_
      refine lv_icmp_le (tgt := 24) hx hb d_join_19 (by decide) (fun c_3 => ?_) (fun c_3 => ?_)
      · refine lv_aload_n hx hb d_join_24 rfl (lv_at hl 0 rfl) ?_
        refine va_get (D := (dC, dI)) (ci := 3) (v := .ref xR) (C := R_Main) (T := T_Main) (N := 5) hx hb hts in_Main hown hK hP 0 rfl rfl 2 (by decide) (hts _ mw_135) (fun _ h9 => h9) rfl d_join_25 ?_
        refine lv_aload_n hx hb d_join_28 rfl (lv_at hl 0 rfl) ?_
        refine va_get (D := (dC, dI)) (ci := 3) (v := .ref xR) (C := R_Main) (T := T_Main) (N := 5) hx hb hts in_Main hown hK hP 0 rfl rfl 2 (by decide) (hts _ mw_135) (fun _ h9 => h9) rfl d_join_29 ?_
        refine va_getN (D := (dC, dI)) (ci := 1) (v := .int (χ 2 0)) (C := R_Row) (T := T_Row) (N := 3) hx hb hts in_Row hown hK hP 14 rfl rfl 2 (by decide) (hts _ mw_94) (fun _ h9 => h9) rfl d_join_32 ?_
        refine xc_VWv (As := [.int (χ 2 0)]) (rest := []) (ci := 1) (wr := (r_Main_X cI cZ mo oM hH hH0 hH1 hH2 hH3 hH4 hH5 hH6 hH7 hH8 kR kR0 kR1 xR xR0 xR1 sS sS0 (ω 0 0) (η 0) (η 1) (η 2) (η 3) (η 4) (η 5) (η 6) (η 7) (η 8) (κ 0) (κ 1) (κ 2 0) (χ 0) (χ 1) (χ 2 0) (ν 0) (ν 1 0) (ν 2 0) (ν 3 0) (ν 4 0) (ν 5 0))) ⟨hx, hb, hml, hown, hts⟩ hT hK hP hD hS hA (c_remF l dC dI cI cZ mo xR xR0 xR1 s.heap.size χ (χ 2 0) (by first | assumption | exact hxc | exact hjk) (by first | assumption | exact hxc | exact hjk)) [14, 15, 16] [0, 1, 2, 3, 4, 5, 6, 7, 8, 9, 10, 11, 12, 13, 17, 18] rfl (by decide) rfl (by decide) (by decide) (xw_V 1 hts mw_285 mw_17 mw_282 mw_283 mw_284 rfl rfl (by decide +kernel) ⟨Nat.le_of_ble_eq_true rfl, Nat.le_of_ble_eq_true rfl⟩) rfl rfl rfl hl.1 rfl (Nat.le_of_ble_eq_true rfl) d_join_35 ⟨Nat.zero_le _, Nat.zero_le _⟩ (fun u H locs hw hP hD hS => ?_)
        obtain rfl := hw
        have hP : va_P (dC, dI) vwCl (w_Main cI cZ mo oM hH hH0 hH1 hH2 hH3 hH4 hH5 hH6 hH7 hH8 kR kR0 kR1 xR xR0 xR1 sS sS0 (ω 0 0) (η 0) (η 1) (η 2) (η 3) (η 4) (η 5) (η 6) (η 7) (η 8) (κ 0) (κ 1) (κ 2 0) ((F_remF mo χ (χ 2 0)) 0) ((F_remF mo χ (χ 2 0)) 1) ((F_remF mo χ (χ 2 0)) 2 0) (ν 0) (ν 1 0) (ν 2 0) (ν 3 0) (ν 4 0) (ν 5 0)) H := hP.sub [0, 1, 2, 3, 4, 5, 6, 7, 8, 9, 10, 11, 12, 13, 16, 17, 18, 14, 15] rfl
        have hD : va_D A (w_Main cI cZ mo oM hH hH0 hH1 hH2 hH3 hH4 hH5 hH6 hH7 hH8 kR kR0 kR1 xR xR0 xR1 sS sS0 (ω 0 0) (η 0) (η 1) (η 2) (η 3) (η 4) (η 5) (η 6) (η 7) (η 8) (κ 0) (κ 1) (κ 2 0) ((F_remF mo χ (χ 2 0)) 0) ((F_remF mo χ (χ 2 0)) 1) ((F_remF mo χ (χ 2 0)) 2 0) (ν 0) (ν 1 0) (ν 2 0) (ν 3 0) (ν 4 0) (ν 5 0)) := hD.sub [0, 1, 2, 3, 4, 5, 6, 7, 8, 9, 10, 11, 12, 13, 16, 17, 18, 14, 15] (by decide) rfl
        refine lv_iconst (v := 0) hx hb d_join_38 (by decide) ?_
        refine lv_istore_n (lv' := [(2, .int 0), (0, .ref oM), (1, .int q1)]) hx hb d_join_39 rfl hl (by decide) rfl (fun ls hl => ?_)
        obtain ⟨rc, hr9, er⟩ := nI_of c_2
        have hrc : rc ≤ 100 := by obtain ⟨kc, k1, k2, -⟩ := hkc; have h := c_3; rw [er, k2] at h; have := (nI_leI hr9 (by omega)).mp h; omega
        obtain ⟨hrm, hJ, hjk⟩ := jn_row (rc := rc) hI (er ▸ c_3) (by omega)
        refine lp_join hx hb hml hT hts hown hK hA hmo hrm er hJ (fun ls H locs hP hD hS hl => ?_) (rc + 1) 0 ls (by omega) (by omega) _ _ hP hD hS (lv_sub hl [1, 2, 0] rfl)
        refine lv_aload_n hx hb d_join_73 rfl (lv_at hl 0 rfl) ?_
        refine va_get (D := (dC, dI)) (ci := 3) (v := .ref kR) (C := R_Main) (T := T_Main) (N := 5) hx hb hts in_Main hown hK hP 0 rfl rfl 1 (by decide) (hts _ mw_134) (fun _ h9 => h9) rfl d_join_74 ?_
        refine lv_iload_n hx hb d_join_77 rfl (lv_at hl 1 rfl) ?_
        refine xc_VWv (As := [.int q1]) (rest := []) (ci := 1) (wr := (r_Main_K cI cZ mo oM hH hH0 hH1 hH2 hH3 hH4 hH5 hH6 hH7 hH8 kR kR0 kR1 xR xR0 xR1 sS sS0 (((jn mo ω η κ (F_remF mo χ (χ 2 0)) ν rc).1) 0 0) (((jn mo ω η κ (F_remF mo χ (χ 2 0)) ν rc).2.1) 0) (((jn mo ω η κ (F_remF mo χ (χ 2 0)) ν rc).2.1) 1) (((jn mo ω η κ (F_remF mo χ (χ 2 0)) ν rc).2.1) 2) (((jn mo ω η κ (F_remF mo χ (χ 2 0)) ν rc).2.1) 3) (((jn mo ω η κ (F_remF mo χ (χ 2 0)) ν rc).2.1) 4) (((jn mo ω η κ (F_remF mo χ (χ 2 0)) ν rc).2.1) 5) (((jn mo ω η κ (F_remF mo χ (χ 2 0)) ν rc).2.1) 6) (((jn mo ω η κ (F_remF mo χ (χ 2 0)) ν rc).2.1) 7) (((jn mo ω η κ (F_remF mo χ (χ 2 0)) ν rc).2.1) 8) (((jn mo ω η κ (F_remF mo χ (χ 2 0)) ν rc).2.2.1) 0) (((jn mo ω η κ (F_remF mo χ (χ 2 0)) ν rc).2.2.1) 1) (((jn mo ω η κ (F_remF mo χ (χ 2 0)) ν rc).2.2.1) 2 0) (((jn mo ω η κ (F_remF mo χ (χ 2 0)) ν rc).2.2.2.1) 0) (((jn mo ω η κ (F_remF mo χ (χ 2 0)) ν rc).2.2.2.1) 1) (((jn mo ω η κ (F_remF mo χ (χ 2 0)) ν rc).2.2.2.1) 2 0) (((jn mo ω η κ (F_remF mo χ (χ 2 0)) ν rc).2.2.2.2) 0) (((jn mo ω η κ (F_remF mo χ (χ 2 0)) ν rc).2.2.2.2) 1 0) (((jn mo ω η κ (F_remF mo χ (χ 2 0)) ν rc).2.2.2.2) 2 0) (((jn mo ω η κ (F_remF mo χ (χ 2 0)) ν rc).2.2.2.2) 3 0) (((jn mo ω η κ (F_remF mo χ (χ 2 0)) ν rc).2.2.2.2) 4 0) (((jn mo ω η κ (F_remF mo χ (χ 2 0)) ν rc).2.2.2.2) 5 0))) ⟨hx, hb, hml, hown, hts⟩ hT hK hP hD hS hA (c_remF l dC dI cI cZ mo kR kR0 kR1 H.size ((jn mo ω η κ (F_remF mo χ (χ 2 0)) ν rc).2.2.1) q1 (by first | assumption | exact hxc | exact hjk) (by first | assumption | exact hxc | exact hjk)) [11, 12, 13] [0, 1, 2, 3, 4, 5, 6, 7, 8, 9, 10, 14, 15, 16, 17, 18] rfl (by decide) rfl (by decide) (by decide) (xw_V 1 hts mw_285 mw_17 mw_282 mw_283 mw_284 rfl rfl (by decide +kernel) ⟨Nat.le_of_ble_eq_true rfl, Nat.le_of_ble_eq_true rfl⟩) rfl rfl rfl hl.1 rfl (Nat.le_of_ble_eq_true rfl) d_join_78 ⟨Nat.zero_le _, Nat.zero_le _⟩ (fun u H locs hw hP hD hS => ?_)
        obtain rfl := hw
        have hP : va_P (dC, dI) vwCl (w_Main cI cZ mo oM hH hH0 hH1 hH2 hH3 hH4 hH5 hH6 hH7 hH8 kR kR0 kR1 xR xR0 xR1 sS sS0 (((jn mo ω η κ (F_remF mo χ (χ 2 0)) ν rc).1) 0 0) (((jn mo ω η κ (F_remF mo χ (χ 2 0)) ν rc).2.1) 0) (((jn mo ω η κ (F_remF mo χ (χ 2 0)) ν rc).2.1) 1) (((jn mo ω η κ (F_remF mo χ (χ 2 0)) ν rc).2.1) 2) (((jn mo ω η κ (F_remF mo χ (χ 2 0)) ν rc).2.1) 3) (((jn mo ω η κ (F_remF mo χ (χ 2 0)) ν rc).2.1) 4) (((jn mo ω η κ (F_remF mo χ (χ 2 0)) ν rc).2.1) 5) (((jn mo ω η κ (F_remF mo χ (χ 2 0)) ν rc).2.1) 6) (((jn mo ω η κ (F_remF mo χ (χ 2 0)) ν rc).2.1) 7) (((jn mo ω η κ (F_remF mo χ (χ 2 0)) ν rc).2.1) 8) ((F_remF mo ((jn mo ω η κ (F_remF mo χ (χ 2 0)) ν rc).2.2.1) q1) 0) ((F_remF mo ((jn mo ω η κ (F_remF mo χ (χ 2 0)) ν rc).2.2.1) q1) 1) ((F_remF mo ((jn mo ω η κ (F_remF mo χ (χ 2 0)) ν rc).2.2.1) q1) 2 0) (((jn mo ω η κ (F_remF mo χ (χ 2 0)) ν rc).2.2.2.1) 0) (((jn mo ω η κ (F_remF mo χ (χ 2 0)) ν rc).2.2.2.1) 1) (((jn mo ω η κ (F_remF mo χ (χ 2 0)) ν rc).2.2.2.1) 2 0) (((jn mo ω η κ (F_remF mo χ (χ 2 0)) ν rc).2.2.2.2) 0) (((jn mo ω η κ (F_remF mo χ (χ 2 0)) ν rc).2.2.2.2) 1 0) (((jn mo ω η κ (F_remF mo χ (χ 2 0)) ν rc).2.2.2.2) 2 0) (((jn mo ω η κ (F_remF mo χ (χ 2 0)) ν rc).2.2.2.2) 3 0) (((jn mo ω η κ (F_remF mo χ (χ 2 0)) ν rc).2.2.2.2) 4 0) (((jn mo ω η κ (F_remF mo χ (χ 2 0)) ν rc).2.2.2.2) 5 0)) H := hP.sub [0, 1, 2, 3, 4, 5, 6, 7, 8, 9, 10, 16, 17, 18, 11, 12, 13, 14, 15] rfl
        have hD : va_D A (w_Main cI cZ mo oM hH hH0 hH1 hH2 hH3 hH4 hH5 hH6 hH7 hH8 kR kR0 kR1 xR xR0 xR1 sS sS0 (((jn mo ω η κ (F_remF mo χ (χ 2 0)) ν rc).1) 0 0) (((jn mo ω η κ (F_remF mo χ (χ 2 0)) ν rc).2.1) 0) (((jn mo ω η κ (F_remF mo χ (χ 2 0)) ν rc).2.1) 1) (((jn mo ω η κ (F_remF mo χ (χ 2 0)) ν rc).2.1) 2) (((jn mo ω η κ (F_remF mo χ (χ 2 0)) ν rc).2.1) 3) (((jn mo ω η κ (F_remF mo χ (χ 2 0)) ν rc).2.1) 4) (((jn mo ω η κ (F_remF mo χ (χ 2 0)) ν rc).2.1) 5) (((jn mo ω η κ (F_remF mo χ (χ 2 0)) ν rc).2.1) 6) (((jn mo ω η κ (F_remF mo χ (χ 2 0)) ν rc).2.1) 7) (((jn mo ω η κ (F_remF mo χ (χ 2 0)) ν rc).2.1) 8) ((F_remF mo ((jn mo ω η κ (F_remF mo χ (χ 2 0)) ν rc).2.2.1) q1) 0) ((F_remF mo ((jn mo ω η κ (F_remF mo χ (χ 2 0)) ν rc).2.2.1) q1) 1) ((F_remF mo ((jn mo ω η κ (F_remF mo χ (χ 2 0)) ν rc).2.2.1) q1) 2 0) (((jn mo ω η κ (F_remF mo χ (χ 2 0)) ν rc).2.2.2.1) 0) (((jn mo ω η κ (F_remF mo χ (χ 2 0)) ν rc).2.2.2.1) 1) (((jn mo ω η κ (F_remF mo χ (χ 2 0)) ν rc).2.2.2.1) 2 0) (((jn mo ω η κ (F_remF mo χ (χ 2 0)) ν rc).2.2.2.2) 0) (((jn mo ω η κ (F_remF mo χ (χ 2 0)) ν rc).2.2.2.2) 1 0) (((jn mo ω η κ (F_remF mo χ (χ 2 0)) ν rc).2.2.2.2) 2 0) (((jn mo ω η κ (F_remF mo χ (χ 2 0)) ν rc).2.2.2.2) 3 0) (((jn mo ω η κ (F_remF mo χ (χ 2 0)) ν rc).2.2.2.2) 4 0) (((jn mo ω η κ (F_remF mo χ (χ 2 0)) ν rc).2.2.2.2) 5 0)) := hD.sub [0, 1, 2, 3, 4, 5, 6, 7, 8, 9, 10, 16, 17, 18, 11, 12, 13, 14, 15] (by decide) rfl
        refine lv_aload_n hx hb d_join_81 rfl (lv_at hl 0 rfl) ?_
        refine va_get (D := (dC, dI)) (ci := 3) (v := .ref xR) (C := R_Main) (T := T_Main) (N := 5) hx hb hts in_Main hown hK hP 0 rfl rfl 2 (by decide) (hts _ mw_135) (fun _ h9 => h9) rfl d_join_82 ?_
        refine va_getN (D := (dC, dI)) (ci := 1) (v := .int (((jn mo ω η κ (F_remF mo χ (χ 2 0)) ν rc).2.2.2.1) 2 0)) (C := R_Row) (T := T_Row) (N := 3) hx hb hts in_Row hown hK hP 14 rfl rfl 2 (by decide) (hts _ mw_94) (fun _ h9 => h9) rfl d_join_85 ?_
        have hF : F_join mo ω η κ χ ν q1 = (((jn mo ω η κ (F_remF mo χ (χ 2 0)) ν rc).2.2.2.1) 2 0, (jn mo ω η κ (F_remF mo χ (χ 2 0)) ν rc).1, (jn mo ω η κ (F_remF mo χ (χ 2 0)) ν rc).2.1, (F_remF mo ((jn mo ω η κ (F_remF mo χ (χ 2 0)) ν rc).2.2.1) q1), (jn mo ω η κ (F_remF mo χ (χ 2 0)) ν rc).2.2.2.1, (jn mo ω η κ (F_remF mo χ (χ 2 0)) ν rc).2.2.2.2) := (if_pos c_1).trans ((if_neg c_2).trans ((if_pos c_3).trans (by rw [er, nI_clamp hr9])))
        exact W.iret (v := ((jn mo ω η κ (F_remF mo χ (χ 2 0)) ν rc).2.2.2.1) 2 0) hx hb hr (fun t ht hW => ⟨⟨((jn mo ω η κ (F_remF mo χ (χ 2 0)) ν rc).2.2.2.1) 2 0, ((jn mo ω η κ (F_remF mo χ (χ 2 0)) ν rc).1, (jn mo ω η κ (F_remF mo χ (χ 2 0)) ν rc).2.1, (F_remF mo ((jn mo ω η κ (F_remF mo χ (χ 2 0)) ν rc).2.2.1) q1), (jn mo ω η κ (F_remF mo χ (χ 2 0)) ν rc).2.2.2.1, (jn mo ω η κ (F_remF mo χ (χ 2 0)) ν rc).2.2.2.2), rfl, ⟨(congrArg Prod.fst hF).symm, (congrArg Prod.snd hF).symm⟩, by rw [ht]; exact hP, hD⟩, hS.F ht⟩) hS.2.2 d_join_88
      · refine lv_iconst (v := -1) hx hb d_join_22 (by decide) ?_
        have hF : F_join mo ω η κ χ ν q1 = (-1, ω, η, κ, χ, ν) := (if_pos c_1).trans ((if_neg c_2).trans ((if_neg c_3).trans rfl))
        exact W.iret (v := -1) hx hb hr (fun t ht hW => ⟨⟨-1, (ω, η, κ, χ, ν), rfl, ⟨(congrArg Prod.fst hF).symm, (congrArg Prod.snd hF).symm⟩, by rw [ht]; exact hP, hD⟩, hS.F ht⟩) hS.2.2 d_join_23
