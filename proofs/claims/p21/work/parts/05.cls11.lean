def F_joinR (mo : Nat) (ω η κ χ ν : SS) (q1 : Int32) (q2 : Int32) : SS × SS × SS × SS × SS :=
  if q2 = (-1) then
    if ((F_takeB η q1).1) = 2 then
      (ω, ((F_takeB η q1).2), κ, (F_rAdd mo χ q1 q2), ν)
    else
      (ω, ((F_takeB η q1).2), κ, χ, ν)
  else
    if (F_refu η q1 q2) = 0 then
      (ω, (F_giveO η q1 q2), κ, χ, ν)
    else
      (ω, η, κ, (F_rAdd mo χ q1 q2), ν)
set_option maxHeartbeats 4000000 in
set_option maxRecDepth 100000 in
theorem c_joinR (l : Launch) (dC : Nat → ClassId) (dI : Nat → Nat → Nat) (cI cZ : ClassId) (mo : Nat) (oM hH hH0 hH1 hH2 hH3 hH4 hH5 hH6 hH7 hH8 kR kR0 kR1 xR xR0 xR1 sS sS0 : Nat) (sz : Nat) (ω η κ χ ν : SS) (q1 : Int32) (q2 : Int32) (hI : CInv mo ω η κ χ ν) (hi : vp_in q1 60) (hq : q2 = -1 ∨ vp_in q2 40) : Met l y_joinR [Cond.code y_joinR prog_1_method_27_code 4 none] ({ frames := 3, cells := 0, slots := 0, locals := 64 }) (pcW (dC, dI) (w_Main cI cZ mo oM hH hH0 hH1 hH2 hH3 hH4 hH5 hH6 hH7 hH8 kR kR0 kR1 xR xR0 xR1 sS sS0 (ω 0 0) (η 0) (η 1) (η 2) (η 3) (η 4) (η 5) (η 6) (η 7) (η 8) (κ 0) (κ 1) (κ 2 0) (χ 0) (χ 1) (χ 2 0) (ν 0) (ν 1 0) (ν 2 0) (ν 3 0) (ν 4 0) (ν 5 0)) (tyC cI cZ) sz [.ref oM, .int q1, .int q2]) (qV (fun u => u = F_joinR mo ω η κ χ ν q1 q2) (dC, dI) (fun u : SS × SS × SS × SS × SS => w_Main cI cZ mo oM hH hH0 hH1 hH2 hH3 hH4 hH5 hH6 hH7 hH8 kR kR0 kR1 xR xR0 xR1 sS sS0 (u.1 0 0) (u.2.1 0) (u.2.1 1) (u.2.1 2) (u.2.1 3) (u.2.1 4) (u.2.1 5) (u.2.1 6) (u.2.1 7) (u.2.1 8) (u.2.2.1 0) (u.2.2.1 1) (u.2.2.1 2 0) (u.2.2.2.1 0) (u.2.2.2.1 1) (u.2.2.2.1 2 0) (u.2.2.2.2 0) (u.2.2.2.2 1 0) (u.2.2.2.2 2 0) (u.2.2.2.2 3 0) (u.2.2.2.2 4 0) (u.2.2.2.2 5 0)) (va_A (w_Main cI cZ mo oM hH hH0 hH1 hH2 hH3 hH4 hH5 hH6 hH7 hH8 kR kR0 kR1 xR xR0 xR1 sS sS0 (ω 0 0) (η 0) (η 1) (η 2) (η 3) (η 4) (η 5) (η 6) (η 7) (η 8) (κ 0) (κ 1) (κ 2 0) (χ 0) (χ 1) (χ 2 0) (ν 0) (ν 1 0) (ν 2 0) (ν 3 0) (ν 4 0) (ν 5 0)) sz)) 0 0 (va_A (w_Main cI cZ mo oM hH hH0 hH1 hH2 hH3 hH4 hH5 hH6 hH7 hH8 kR kR0 kR1 xR xR0 xR1 sS sS0 (ω 0 0) (η 0) (η 1) (η 2) (η 3) (η 4) (η 5) (η 6) (η 7) (η 8) (κ 0) (κ 1) (κ 2 0) (χ 0) (χ 1) (χ 2 0) (ν 0) (ν 1 0) (ν 2 0) (ν 3 0) (ν 4 0) (ν 5 0)) sz) := by
  refine Met.ofW (cc := prog_1_method_27_code) (maxL := 4) (ret := none) (by decide) rfl ?_
  intro p e s m args below meth c s₁ B hml hv
  obtain ⟨rfl, hsz, hT, hP, hK, hD0⟩ := hv
  have hx := B.exec
  have hb := B.bytes
  have hr := B.returns
  have hts : ∀ w ∈ lw_ok, w.before ([.ref oM, .int q1, .int q2] : List Value).toArray s = true := hT.use
  have hown : s.vm.findClass R_Main = some m.cls := findClass_of_methodNamed B.named
  have hlocks := B.notSynchronized
  subst hsz
  have hD := hD0.self (sz := s.heap.size)
  generalize hAe : va_A (w_Main cI cZ mo oM hH hH0 hH1 hH2 hH3 hH4 hH5 hH6 hH7 hH8 kR kR0 kR1 xR xR0 xR1 sS sS0 (ω 0 0) (η 0) (η 1) (η 2) (η 3) (η 4) (η 5) (η 6) (η 7) (η 8) (κ 0) (κ 1) (κ 2 0) (χ 0) (χ 1) (χ 2 0) (ν 0) (ν 1 0) (ν 2 0) (ν 3 0) (ν 4 0) (ν 5 0)) s.heap.size = A at hD ⊢
  have hA : ∀ q : Nat, s.heap.size ≤ q → A q := fun q h => by rw [← hAe]; exact Or.inr h
  have hS : va_S A s.heap s.heap [] := va_S.rf
  have hl := lv_entry ([.ref oM, .int q1, .int q2]) (n := 4) (Nat.le_of_ble_eq_true rfl)
  rw [lg_entry_eq]
  generalize (lg_sl ([.ref oM, .int q1, .int q2]) ++ List.replicate (4 - (lg_sl ([.ref oM, .int q1, .int q2])).length) Slot.unset).toArray = ls at hl ⊢
  have hl : lv_has ls 4 [(0, .ref oM), (1, .int q1), (2, .int q2)] := hl
  obtain ⟨hmo, hof, hre, hlo, hlk, hkc, hxc, hpe, hla, hlc⟩ := id hI
  refine lv_iload_n hx hb d_joinR_0 rfl (lv_at hl 2 rfl) ?_
  refine lv_iconst (v := -1) hx hb d_joinR_1 (by decide) ?_
  refine lv_icmp_ne (tgt := 26) hx hb d_joinR_2 (by decide) (fun c_1 => ?_) (fun c_1 => ?_)
  · refine lv_aload_n hx hb d_joinR_26 rfl (lv_at hl 0 rfl) ?_
    refine va_get (D := (dC, dI)) (ci := 3) (v := .ref hH) (C := R_Main) (T := T_Main) (N := 5) hx hb hts in_Main hown hK hP 0 rfl rfl 0 (by decide) (hts _ mw_133) (fun _ h9 => h9) rfl d_joinR_27 ?_
    refine lv_iload_n hx hb d_joinR_30 rfl (lv_at hl 1 rfl) ?_
    refine lv_iload_n hx hb d_joinR_31 rfl (lv_at hl 2 rfl) ?_
    refine xc_VR (As := [.int q1, .int q2]) (rest := []) (ci := 0) ⟨hx, hb, hml, hown, hts⟩ hT hK hP (c_refu l dC dI cI cZ hH hH0 hH1 hH2 hH3 hH4 hH5 hH6 hH7 hH8 η q1 q2 (by first | assumption | exact hq.resolve_left ‹_› | exact hxc | exact hlo _ (clt hi)) (by first | assumption | exact hq.resolve_left ‹_› | exact hxc | exact hlo _ (clt hi))) [1, 2, 3, 4, 5, 6, 7, 8, 9, 10] rfl (xw_V 2 hts mw_223 mw_15 mw_220 mw_221 mw_222 rfl rfl (by decide +kernel) ⟨Nat.le_of_ble_eq_true rfl, Nat.le_of_ble_eq_true rfl⟩) rfl rfl rfl hl.1 rfl (Nat.le_of_ble_eq_true rfl) d_joinR_32 ⟨Nat.zero_le _, Nat.zero_le _⟩ (fun r hw => ?_)
    subst hw
    refine lv_if_eq (tgt := 42) hx hb d_joinR_35 (by decide) (fun c_2 => ?_) (fun c_2 => ?_)
    · refine lv_iconst (v := 0) hx hb d_joinR_42 (by decide) ?_
      refine lv_istore_n (lv' := [(3, .int 0), (0, .ref oM), (1, .int q1), (2, .int q2)]) hx hb d_joinR_43 rfl hl (by decide) rfl (fun ls hl => ?_)
      refine lv_iload_n hx hb d_joinR_44 rfl (lv_at hl 0 rfl) ?_
      refine lv_if_ne (tgt := 57) hx hb d_joinR_45 (by decide) (fun c_3 => ?_) (fun c_3 => ?_)
      · exact absurd (by decide) c_3
      refine lv_aload_n hx hb d_joinR_48 rfl (lv_at hl 1 rfl) ?_
      refine va_get (D := (dC, dI)) (ci := 3) (v := .ref hH) (C := R_Main) (T := T_Main) (N := 5) hx hb hts in_Main hown hK hP 0 rfl rfl 0 (by decide) (hts _ mw_133) (fun _ h9 => h9) rfl d_joinR_49 ?_
      refine lv_iload_n hx hb d_joinR_52 rfl (lv_at hl 2 rfl) ?_
      refine lv_iload_n hx hb d_joinR_53 rfl (lv_at hl 3 rfl) ?_
      refine xc_VWv (As := [.int q1, .int q2]) (rest := []) (ci := 0) (wr := (r_Main_H cI cZ mo oM hH hH0 hH1 hH2 hH3 hH4 hH5 hH6 hH7 hH8 kR kR0 kR1 xR xR0 xR1 sS sS0 (ω 0 0) (η 0) (η 1) (η 2) (η 3) (η 4) (η 5) (η 6) (η 7) (η 8) (κ 0) (κ 1) (κ 2 0) (χ 0) (χ 1) (χ 2 0) (ν 0) (ν 1 0) (ν 2 0) (ν 3 0) (ν 4 0) (ν 5 0))) ⟨hx, hb, hml, hown, hts⟩ hT hK hP hD hS hA (c_giveO l dC dI cI cZ hH hH0 hH1 hH2 hH3 hH4 hH5 hH6 hH7 hH8 s.heap.size η q1 q2 (by first | assumption | exact hq.resolve_left ‹_› | exact hxc | exact hlo _ (clt hi)) (by first | assumption | exact hq.resolve_left ‹_› | exact hxc | exact hlo _ (clt hi))) [1, 2, 3, 4, 5, 6, 7, 8, 9, 10] [0, 11, 12, 13, 14, 15, 16, 17, 18] rfl (by decide) rfl (by decide) (by decide) (xw_V 2 hts mw_237 mw_15 mw_234 mw_235 mw_236 rfl rfl (by decide +kernel) ⟨Nat.le_of_ble_eq_true rfl, Nat.le_of_ble_eq_true rfl⟩) rfl rfl rfl hl.1 rfl (Nat.le_of_ble_eq_true rfl) d_joinR_54 ⟨Nat.zero_le _, Nat.zero_le _⟩ (fun u H locs hw hP hD hS => ?_)
      obtain rfl := hw
      have hP : va_P (dC, dI) vwCl (w_Main cI cZ mo oM hH hH0 hH1 hH2 hH3 hH4 hH5 hH6 hH7 hH8 kR kR0 kR1 xR xR0 xR1 sS sS0 (ω 0 0) ((F_giveO η q1 q2) 0) ((F_giveO η q1 q2) 1) ((F_giveO η q1 q2) 2) ((F_giveO η q1 q2) 3) ((F_giveO η q1 q2) 4) ((F_giveO η q1 q2) 5) ((F_giveO η q1 q2) 6) ((F_giveO η q1 q2) 7) ((F_giveO η q1 q2) 8) (κ 0) (κ 1) (κ 2 0) (χ 0) (χ 1) (χ 2 0) (ν 0) (ν 1 0) (ν 2 0) (ν 3 0) (ν 4 0) (ν 5 0)) H := hP.sub [0, 9, 10, 11, 12, 13, 14, 15, 16, 17, 18, 1, 2, 3, 4, 5, 6, 7, 8] rfl
      have hD : va_D A (w_Main cI cZ mo oM hH hH0 hH1 hH2 hH3 hH4 hH5 hH6 hH7 hH8 kR kR0 kR1 xR xR0 xR1 sS sS0 (ω 0 0) ((F_giveO η q1 q2) 0) ((F_giveO η q1 q2) 1) ((F_giveO η q1 q2) 2) ((F_giveO η q1 q2) 3) ((F_giveO η q1 q2) 4) ((F_giveO η q1 q2) 5) ((F_giveO η q1 q2) 6) ((F_giveO η q1 q2) 7) ((F_giveO η q1 q2) 8) (κ 0) (κ 1) (κ 2 0) (χ 0) (χ 1) (χ 2 0) (ν 0) (ν 1 0) (ν 2 0) (ν 3 0) (ν 4 0) (ν 5 0)) := hD.sub [0, 9, 10, 11, 12, 13, 14, 15, 16, 17, 18, 1, 2, 3, 4, 5, 6, 7, 8] (by decide) rfl
      refine lv_iload_n hx hb d_joinR_57 rfl (lv_at hl 0 rfl) ?_
      refine lv_if_eq (tgt := 70) hx hb d_joinR_58 (by decide) (fun c_4 => ?_) (fun c_4 => ?_)
      rotate_left
      · exact absurd (by decide) c_4
      have hF : F_joinR mo ω η κ χ ν q1 q2 = (ω, (F_giveO η q1 q2), κ, χ, ν) := (if_neg c_1).trans ((if_pos c_2).trans rfl)
      exact W.vret hx hb hr (fun t ht hW => ⟨⟨(ω, (F_giveO η q1 q2), κ, χ, ν), rfl, hF.symm, by rw [ht]; exact hP, hD⟩, hS.F ht⟩) hS.2.2 d_joinR_70
    · refine lv_iconst (v := 1) hx hb d_joinR_38 (by decide) ?_
      refine lv_goto (tgt := 43) hx hb d_joinR_39 (by decide) ?_
      refine lv_istore_n (lv' := [(3, .int 1), (0, .ref oM), (1, .int q1), (2, .int q2)]) hx hb d_joinR_43 rfl hl (by decide) rfl (fun ls hl => ?_)
      refine lv_iload_n hx hb d_joinR_44 rfl (lv_at hl 0 rfl) ?_
      refine lv_if_ne (tgt := 57) hx hb d_joinR_45 (by decide) (fun c_5 => ?_) (fun c_5 => ?_)
      rotate_left
      · exact absurd c_5 (by decide)
      refine lv_iload_n hx hb d_joinR_57 rfl (lv_at hl 0 rfl) ?_
      refine lv_if_eq (tgt := 70) hx hb d_joinR_58 (by decide) (fun c_6 => ?_) (fun c_6 => ?_)
      · exact absurd c_6 (by decide)
      refine lv_aload_n hx hb d_joinR_61 rfl (lv_at hl 1 rfl) ?_
      refine va_get (D := (dC, dI)) (ci := 3) (v := .ref xR) (C := R_Main) (T := T_Main) (N := 5) hx hb hts in_Main hown hK hP 0 rfl rfl 2 (by decide) (hts _ mw_135) (fun _ h9 => h9) rfl d_joinR_62 ?_
      refine lv_iload_n hx hb d_joinR_65 rfl (lv_at hl 2 rfl) ?_
      refine lv_iload_n hx hb d_joinR_66 rfl (lv_at hl 3 rfl) ?_
      refine xc_VWv (As := [.int q1, .int q2]) (rest := []) (ci := 1) (wr := (r_Main_X cI cZ mo oM hH hH0 hH1 hH2 hH3 hH4 hH5 hH6 hH7 hH8 kR kR0 kR1 xR xR0 xR1 sS sS0 (ω 0 0) (η 0) (η 1) (η 2) (η 3) (η 4) (η 5) (η 6) (η 7) (η 8) (κ 0) (κ 1) (κ 2 0) (χ 0) (χ 1) (χ 2 0) (ν 0) (ν 1 0) (ν 2 0) (ν 3 0) (ν 4 0) (ν 5 0))) ⟨hx, hb, hml, hown, hts⟩ hT hK hP hD hS hA (c_rAdd l dC dI cI cZ mo xR xR0 xR1 s.heap.size χ q1 q2 (by first | assumption | exact hq.resolve_left ‹_› | exact hxc | exact hlo _ (clt hi)) (by first | assumption | exact hq.resolve_left ‹_› | exact hxc | exact hlo _ (clt hi))) [14, 15, 16] [0, 1, 2, 3, 4, 5, 6, 7, 8, 9, 10, 11, 12, 13, 17, 18] rfl (by decide) rfl (by decide) (by decide) (xw_V 2 hts mw_232 mw_17 mw_229 mw_230 mw_231 rfl rfl (by decide +kernel) ⟨Nat.le_of_ble_eq_true rfl, Nat.le_of_ble_eq_true rfl⟩) rfl rfl rfl hl.1 rfl (Nat.le_of_ble_eq_true rfl) d_joinR_67 ⟨Nat.zero_le _, Nat.zero_le _⟩ (fun u H locs hw hP hD hS => ?_)
      obtain rfl := hw
      have hP : va_P (dC, dI) vwCl (w_Main cI cZ mo oM hH hH0 hH1 hH2 hH3 hH4 hH5 hH6 hH7 hH8 kR kR0 kR1 xR xR0 xR1 sS sS0 (ω 0 0) (η 0) (η 1) (η 2) (η 3) (η 4) (η 5) (η 6) (η 7) (η 8) (κ 0) (κ 1) (κ 2 0) ((F_rAdd mo χ q1 q2) 0) ((F_rAdd mo χ q1 q2) 1) ((F_rAdd mo χ q1 q2) 2 0) (ν 0) (ν 1 0) (ν 2 0) (ν 3 0) (ν 4 0) (ν 5 0)) H := hP.sub [0, 1, 2, 3, 4, 5, 6, 7, 8, 9, 10, 11, 12, 13, 16, 17, 18, 14, 15] rfl
      have hD : va_D A (w_Main cI cZ mo oM hH hH0 hH1 hH2 hH3 hH4 hH5 hH6 hH7 hH8 kR kR0 kR1 xR xR0 xR1 sS sS0 (ω 0 0) (η 0) (η 1) (η 2) (η 3) (η 4) (η 5) (η 6) (η 7) (η 8) (κ 0) (κ 1) (κ 2 0) ((F_rAdd mo χ q1 q2) 0) ((F_rAdd mo χ q1 q2) 1) ((F_rAdd mo χ q1 q2) 2 0) (ν 0) (ν 1 0) (ν 2 0) (ν 3 0) (ν 4 0) (ν 5 0)) := hD.sub [0, 1, 2, 3, 4, 5, 6, 7, 8, 9, 10, 11, 12, 13, 16, 17, 18, 14, 15] (by decide) rfl
      have hF : F_joinR mo ω η κ χ ν q1 q2 = (ω, η, κ, (F_rAdd mo χ q1 q2), ν) := (if_neg c_1).trans ((if_neg c_2).trans rfl)
      exact W.vret hx hb hr (fun t ht hW => ⟨⟨(ω, η, κ, (F_rAdd mo χ q1 q2), ν), rfl, hF.symm, by rw [ht]; exact hP, hD⟩, hS.F ht⟩) hS.2.2 d_joinR_70
  · refine lv_aload_n hx hb d_joinR_5 rfl (lv_at hl 0 rfl) ?_
    refine va_get (D := (dC, dI)) (ci := 3) (v := .ref hH) (C := R_Main) (T := T_Main) (N := 5) hx hb hts in_Main hown hK hP 0 rfl rfl 0 (by decide) (hts _ mw_133) (fun _ h9 => h9) rfl d_joinR_6 ?_
    refine lv_iload_n hx hb d_joinR_9 rfl (lv_at hl 1 rfl) ?_
    refine xc_VWi (As := [.int q1]) (rest := []) (ci := 0) (wr := (r_Main_H cI cZ mo oM hH hH0 hH1 hH2 hH3 hH4 hH5 hH6 hH7 hH8 kR kR0 kR1 xR xR0 xR1 sS sS0 (ω 0 0) (η 0) (η 1) (η 2) (η 3) (η 4) (η 5) (η 6) (η 7) (η 8) (κ 0) (κ 1) (κ 2 0) (χ 0) (χ 1) (χ 2 0) (ν 0) (ν 1 0) (ν 2 0) (ν 3 0) (ν 4 0) (ν 5 0))) ⟨hx, hb, hml, hown, hts⟩ hT hK hP hD hS hA (c_takeB l dC dI cI cZ hH hH0 hH1 hH2 hH3 hH4 hH5 hH6 hH7 hH8 s.heap.size η q1 (by first | assumption | exact hq.resolve_left ‹_› | exact hxc | exact hlo _ (clt hi))) [1, 2, 3, 4, 5, 6, 7, 8, 9, 10] [0, 11, 12, 13, 14, 15, 16, 17, 18] rfl (by decide) rfl (by decide) (by decide) (xw_V 1 hts mw_249 mw_15 mw_246 mw_247 mw_248 rfl rfl (by decide +kernel) ⟨Nat.le_of_ble_eq_true rfl, Nat.le_of_ble_eq_true rfl⟩) rfl rfl rfl hl.1 rfl (Nat.le_of_ble_eq_true rfl) d_joinR_10 ⟨Nat.zero_le _, Nat.zero_le _⟩ (fun r u H locs hw hP hD hS => ?_)
    obtain ⟨rfl, rfl⟩ := hw
    have hP : va_P (dC, dI) vwCl (w_Main cI cZ mo oM hH hH0 hH1 hH2 hH3 hH4 hH5 hH6 hH7 hH8 kR kR0 kR1 xR xR0 xR1 sS sS0 (ω 0 0) (((F_takeB η q1).2) 0) (((F_takeB η q1).2) 1) (((F_takeB η q1).2) 2) (((F_takeB η q1).2) 3) (((F_takeB η q1).2) 4) (((F_takeB η q1).2) 5) (((F_takeB η q1).2) 6) (((F_takeB η q1).2) 7) (((F_takeB η q1).2) 8) (κ 0) (κ 1) (κ 2 0) (χ 0) (χ 1) (χ 2 0) (ν 0) (ν 1 0) (ν 2 0) (ν 3 0) (ν 4 0) (ν 5 0)) H := hP.sub [0, 9, 10, 11, 12, 13, 14, 15, 16, 17, 18, 1, 2, 3, 4, 5, 6, 7, 8] rfl
    have hD : va_D A (w_Main cI cZ mo oM hH hH0 hH1 hH2 hH3 hH4 hH5 hH6 hH7 hH8 kR kR0 kR1 xR xR0 xR1 sS sS0 (ω 0 0) (((F_takeB η q1).2) 0) (((F_takeB η q1).2) 1) (((F_takeB η q1).2) 2) (((F_takeB η q1).2) 3) (((F_takeB η q1).2) 4) (((F_takeB η q1).2) 5) (((F_takeB η q1).2) 6) (((F_takeB η q1).2) 7) (((F_takeB η q1).2) 8) (κ 0) (κ 1) (κ 2 0) (χ 0) (χ 1) (χ 2 0) (ν 0) (ν 1 0) (ν 2 0) (ν 3 0) (ν 4 0) (ν 5 0)) := hD.sub [0, 9, 10, 11, 12, 13, 14, 15, 16, 17, 18, 1, 2, 3, 4, 5, 6, 7, 8] (by decide) rfl
    refine lv_iconst (v := 2) hx hb d_joinR_13 (by decide) ?_
    refine lv_icmp_ne (tgt := 21) hx hb d_joinR_14 (by decide) (fun c_7 => ?_) (fun c_7 => ?_)
    · refine lv_iconst (v := 0) hx hb d_joinR_21 (by decide) ?_
      refine lv_istore_n (lv' := [(3, .int 0), (0, .ref oM), (1, .int q1), (2, .int q2)]) hx hb d_joinR_22 rfl hl (by decide) rfl (fun ls hl => ?_)
      refine lv_goto (tgt := 57) hx hb d_joinR_23 (by decide) ?_
      refine lv_iload_n hx hb d_joinR_57 rfl (lv_at hl 0 rfl) ?_
      refine lv_if_eq (tgt := 70) hx hb d_joinR_58 (by decide) (fun c_8 => ?_) (fun c_8 => ?_)
      rotate_left
      · exact absurd (by decide) c_8
      have hF : F_joinR mo ω η κ χ ν q1 q2 = (ω, ((F_takeB η q1).2), κ, χ, ν) := (if_pos c_1).trans ((if_neg c_7).trans rfl)
      exact W.vret hx hb hr (fun t ht hW => ⟨⟨(ω, ((F_takeB η q1).2), κ, χ, ν), rfl, hF.symm, by rw [ht]; exact hP, hD⟩, hS.F ht⟩) hS.2.2 d_joinR_70
    · refine lv_iconst (v := 1) hx hb d_joinR_17 (by decide) ?_
      refine lv_goto (tgt := 22) hx hb d_joinR_18 (by decide) ?_
      refine lv_istore_n (lv' := [(3, .int 1), (0, .ref oM), (1, .int q1), (2, .int q2)]) hx hb d_joinR_22 rfl hl (by decide) rfl (fun ls hl => ?_)
      refine lv_goto (tgt := 57) hx hb d_joinR_23 (by decide) ?_
      refine lv_iload_n hx hb d_joinR_57 rfl (lv_at hl 0 rfl) ?_
      refine lv_if_eq (tgt := 70) hx hb d_joinR_58 (by decide) (fun c_9 => ?_) (fun c_9 => ?_)
      · exact absurd c_9 (by decide)
      refine lv_aload_n hx hb d_joinR_61 rfl (lv_at hl 1 rfl) ?_
      refine va_get (D := (dC, dI)) (ci := 3) (v := .ref xR) (C := R_Main) (T := T_Main) (N := 5) hx hb hts in_Main hown hK hP 0 rfl rfl 2 (by decide) (hts _ mw_135) (fun _ h9 => h9) rfl d_joinR_62 ?_
      refine lv_iload_n hx hb d_joinR_65 rfl (lv_at hl 2 rfl) ?_
      refine lv_iload_n hx hb d_joinR_66 rfl (lv_at hl 3 rfl) ?_
      refine xc_VWv (As := [.int q1, .int q2]) (rest := []) (ci := 1) (wr := (r_Main_X cI cZ mo oM hH hH0 hH1 hH2 hH3 hH4 hH5 hH6 hH7 hH8 kR kR0 kR1 xR xR0 xR1 sS sS0 (ω 0 0) (((F_takeB η q1).2) 0) (((F_takeB η q1).2) 1) (((F_takeB η q1).2) 2) (((F_takeB η q1).2) 3) (((F_takeB η q1).2) 4) (((F_takeB η q1).2) 5) (((F_takeB η q1).2) 6) (((F_takeB η q1).2) 7) (((F_takeB η q1).2) 8) (κ 0) (κ 1) (κ 2 0) (χ 0) (χ 1) (χ 2 0) (ν 0) (ν 1 0) (ν 2 0) (ν 3 0) (ν 4 0) (ν 5 0))) ⟨hx, hb, hml, hown, hts⟩ hT hK hP hD hS hA (c_rAdd l dC dI cI cZ mo xR xR0 xR1 H.size χ q1 q2 (by first | assumption | exact hq.resolve_left ‹_› | exact hxc | exact hlo _ (clt hi)) (by first | assumption | exact hq.resolve_left ‹_› | exact hxc | exact hlo _ (clt hi))) [14, 15, 16] [0, 1, 2, 3, 4, 5, 6, 7, 8, 9, 10, 11, 12, 13, 17, 18] rfl (by decide) rfl (by decide) (by decide) (xw_V 2 hts mw_232 mw_17 mw_229 mw_230 mw_231 rfl rfl (by decide +kernel) ⟨Nat.le_of_ble_eq_true rfl, Nat.le_of_ble_eq_true rfl⟩) rfl rfl rfl hl.1 rfl (Nat.le_of_ble_eq_true rfl) d_joinR_67 ⟨Nat.zero_le _, Nat.zero_le _⟩ (fun u H locs hw hP hD hS => ?_)
      obtain rfl := hw
      have hP : va_P (dC, dI) vwCl (w_Main cI cZ mo oM hH hH0 hH1 hH2 hH3 hH4 hH5 hH6 hH7 hH8 kR kR0 kR1 xR xR0 xR1 sS sS0 (ω 0 0) (((F_takeB η q1).2) 0) (((F_takeB η q1).2) 1) (((F_takeB η q1).2) 2) (((F_takeB η q1).2) 3) (((F_takeB η q1).2) 4) (((F_takeB η q1).2) 5) (((F_takeB η q1).2) 6) (((F_takeB η q1).2) 7) (((F_takeB η q1).2) 8) (κ 0) (κ 1) (κ 2 0) ((F_rAdd mo χ q1 q2) 0) ((F_rAdd mo χ q1 q2) 1) ((F_rAdd mo χ q1 q2) 2 0) (ν 0) (ν 1 0) (ν 2 0) (ν 3 0) (ν 4 0) (ν 5 0)) H := hP.sub [0, 1, 2, 3, 4, 5, 6, 7, 8, 9, 10, 11, 12, 13, 16, 17, 18, 14, 15] rfl
      have hD : va_D A (w_Main cI cZ mo oM hH hH0 hH1 hH2 hH3 hH4 hH5 hH6 hH7 hH8 kR kR0 kR1 xR xR0 xR1 sS sS0 (ω 0 0) (((F_takeB η q1).2) 0) (((F_takeB η q1).2) 1) (((F_takeB η q1).2) 2) (((F_takeB η q1).2) 3) (((F_takeB η q1).2) 4) (((F_takeB η q1).2) 5) (((F_takeB η q1).2) 6) (((F_takeB η q1).2) 7) (((F_takeB η q1).2) 8) (κ 0) (κ 1) (κ 2 0) ((F_rAdd mo χ q1 q2) 0) ((F_rAdd mo χ q1 q2) 1) ((F_rAdd mo χ q1 q2) 2 0) (ν 0) (ν 1 0) (ν 2 0) (ν 3 0) (ν 4 0) (ν 5 0)) := hD.sub [0, 1, 2, 3, 4, 5, 6, 7, 8, 9, 10, 11, 12, 13, 16, 17, 18, 14, 15] (by decide) rfl
      have hF : F_joinR mo ω η κ χ ν q1 q2 = (ω, ((F_takeB η q1).2), κ, (F_rAdd mo χ q1 q2), ν) := (if_pos c_1).trans ((if_pos c_7).trans rfl)
      exact W.vret hx hb hr (fun t ht hW => ⟨⟨(ω, ((F_takeB η q1).2), κ, (F_rAdd mo χ q1 q2), ν), rfl, hF.symm, by rw [ht]; exact hP, hD⟩, hS.F ht⟩) hS.2.2 d_joinR_70
def jn (mo : Nat) (ω η κ χ ν : SS) : Nat → SS × SS × SS × SS × SS
  | 0 => (ω, η, κ, χ, ν)
  | i + 1 => F_joinR mo (jn mo ω η κ χ ν i).1 (jn mo ω η κ χ ν i).2.1 (jn mo ω η κ χ ν i).2.2.1 (jn mo ω η κ χ ν i).2.2.2.1 (jn mo ω η κ χ ν i).2.2.2.2 ((jn mo ω η κ χ ν i).2.2.1 0 i) ((jn mo ω η κ χ ν i).2.2.1 1 i)
def JRow (mo : Nat) (ω η κ χ ν : SS) (i : Nat) : Prop := CInv mo (jn mo ω η κ χ ν i).1 (jn mo ω η κ χ ν i).2.1 (jn mo ω η κ χ ν i).2.2.1 (jn mo ω η κ χ ν i).2.2.2.1 (jn mo ω η κ χ ν i).2.2.2.2 ∧ vp_in ((jn mo ω η κ χ ν i).2.2.1 0 i) 60 ∧ ((jn mo ω η κ χ ν i).2.2.1 1 i = -1 ∨ vp_in ((jn mo ω η κ χ ν i).2.2.1 1 i) 40)
set_option maxHeartbeats 4000000 in
set_option maxRecDepth 100000 in
theorem lp_join {p : Program} {l : Launch} {e : Env} {s : State} {m : MethodId} {args : Array Value} {below : List Frame} {meth : Method} {c : Code} {Q : State → Prop} {A : Nat → Prop} {H0 : Heap} {dC : Nat → ClassId} {dI : Nat → Nat → Nat} {cI cZ : ClassId} {mo : Nat} {oM hH hH0 hH1 hH2 hH3 hH4 hH5 hH6 hH7 hH8 kR kR0 kR1 xR xR0 xR1 sS sS0 : Nat} {ω η κ χ ν : SS} {q1 : Int32} {rc : Nat} (hx : p.tables.exec = Jvm.exec) (hb : c.code = prog_1_method_13_code) (hml : c.maxLocals = 3) (hT : TBL s) (hts : ∀ w ∈ lw_ok, w.before args s = true) (hown : s.vm.findClass R_Main = some m.cls) (hK : va_K (dC, dI) vwCl (tyC cI cZ) s) (hA : ∀ q : Nat, H0.size ≤ q → A q) (hmo : mo ≤ 100) (hrm : rc ≤ mo) (er : q1 = nI rc) (hJ : ∀ i, i < rc → JRow mo ω η κ χ ν i) (kx : ∀ (ls : Array Slot) (H : Heap) (locs : List Loc), va_P (dC, dI) vwCl (w_Main cI cZ mo oM hH hH0 hH1 hH2 hH3 hH4 hH5 hH6 hH7 hH8 kR kR0 kR1 xR xR0 xR1 sS sS0 (((jn mo ω η κ χ ν rc).1) 0 0) (((jn mo ω η κ χ ν rc).2.1) 0) (((jn mo ω η κ χ ν rc).2.1) 1) (((jn mo ω η κ χ ν rc).2.1) 2) (((jn mo ω η κ χ ν rc).2.1) 3) (((jn mo ω η κ χ ν rc).2.1) 4) (((jn mo ω η κ χ ν rc).2.1) 5) (((jn mo ω η κ χ ν rc).2.1) 6) (((jn mo ω η κ χ ν rc).2.1) 7) (((jn mo ω η κ χ ν rc).2.1) 8) (((jn mo ω η κ χ ν rc).2.2.1) 0) (((jn mo ω η κ χ ν rc).2.2.1) 1) (((jn mo ω η κ χ ν rc).2.2.1) 2 0) (((jn mo ω η κ χ ν rc).2.2.2.1) 0) (((jn mo ω η κ χ ν rc).2.2.2.1) 1) (((jn mo ω η κ χ ν rc).2.2.2.1) 2 0) (((jn mo ω η κ χ ν rc).2.2.2.2) 0) (((jn mo ω η κ χ ν rc).2.2.2.2) 1 0) (((jn mo ω η κ χ ν rc).2.2.2.2) 2 0) (((jn mo ω η κ χ ν rc).2.2.2.2) 3 0) (((jn mo ω η κ χ ν rc).2.2.2.2) 4 0) (((jn mo ω η κ χ ν rc).2.2.2.2) 5 0)) H → va_D A (w_Main cI cZ mo oM hH hH0 hH1 hH2 hH3 hH4 hH5 hH6 hH7 hH8 kR kR0 kR1 xR xR0 xR1 sS sS0 (((jn mo ω η κ χ ν rc).1) 0 0) (((jn mo ω η κ χ ν rc).2.1) 0) (((jn mo ω η κ χ ν rc).2.1) 1) (((jn mo ω η κ χ ν rc).2.1) 2) (((jn mo ω η κ χ ν rc).2.1) 3) (((jn mo ω η κ χ ν rc).2.1) 4) (((jn mo ω η κ χ ν rc).2.1) 5) (((jn mo ω η κ χ ν rc).2.1) 6) (((jn mo ω η κ χ ν rc).2.1) 7) (((jn mo ω η κ χ ν rc).2.1) 8) (((jn mo ω η κ χ ν rc).2.2.1) 0) (((jn mo ω η κ χ ν rc).2.2.1) 1) (((jn mo ω η κ χ ν rc).2.2.1) 2 0) (((jn mo ω η κ χ ν rc).2.2.2.1) 0) (((jn mo ω η κ χ ν rc).2.2.2.1) 1) (((jn mo ω η κ χ ν rc).2.2.2.1) 2 0) (((jn mo ω η κ χ ν rc).2.2.2.2) 0) (((jn mo ω η κ χ ν rc).2.2.2.2) 1 0) (((jn mo ω η κ χ ν rc).2.2.2.2) 2 0) (((jn mo ω η κ χ ν rc).2.2.2.2) 3 0) (((jn mo ω η κ χ ν rc).2.2.2.2) 4 0) (((jn mo ω η κ χ ν rc).2.2.2.2) 5 0)) → va_S A H0 H locs → lv_has ls 3 [(0, .ref oM), (1, .int q1), (2, .int (nI rc))] → W p l e ({ frames := 4, cells := 0, slots := 0, locals := 87 } : Room) s m args below meth c H locs 0 0 Q (F0 m 73 ls [])) : ∀ (n : Nat) (i : Nat) (ls : Array Slot), (i ≤ rc) → rc + 1 ≤ i + n → ∀ (H : Heap) (locs : List Loc), va_P (dC, dI) vwCl (w_Main cI cZ mo oM hH hH0 hH1 hH2 hH3 hH4 hH5 hH6 hH7 hH8 kR kR0 kR1 xR xR0 xR1 sS sS0 (((jn mo ω η κ χ ν i).1) 0 0) (((jn mo ω η κ χ ν i).2.1) 0) (((jn mo ω η κ χ ν i).2.1) 1) (((jn mo ω η κ χ ν i).2.1) 2) (((jn mo ω η κ χ ν i).2.1) 3) (((jn mo ω η κ χ ν i).2.1) 4) (((jn mo ω η κ χ ν i).2.1) 5) (((jn mo ω η κ χ ν i).2.1) 6) (((jn mo ω η κ χ ν i).2.1) 7) (((jn mo ω η κ χ ν i).2.1) 8) (((jn mo ω η κ χ ν i).2.2.1) 0) (((jn mo ω η κ χ ν i).2.2.1) 1) (((jn mo ω η κ χ ν i).2.2.1) 2 0) (((jn mo ω η κ χ ν i).2.2.2.1) 0) (((jn mo ω η κ χ ν i).2.2.2.1) 1) (((jn mo ω η κ χ ν i).2.2.2.1) 2 0) (((jn mo ω η κ χ ν i).2.2.2.2) 0) (((jn mo ω η κ χ ν i).2.2.2.2) 1 0) (((jn mo ω η κ χ ν i).2.2.2.2) 2 0) (((jn mo ω η κ χ ν i).2.2.2.2) 3 0) (((jn mo ω η κ χ ν i).2.2.2.2) 4 0) (((jn mo ω η κ χ ν i).2.2.2.2) 5 0)) H → va_D A (w_Main cI cZ mo oM hH hH0 hH1 hH2 hH3 hH4 hH5 hH6 hH7 hH8 kR kR0 kR1 xR xR0 xR1 sS sS0 (((jn mo ω η κ χ ν i).1) 0 0) (((jn mo ω η κ χ ν i).2.1) 0) (((jn mo ω η κ χ ν i).2.1) 1) (((jn mo ω η κ χ ν i).2.1) 2) (((jn mo ω η κ χ ν i).2.1) 3) (((jn mo ω η κ χ ν i).2.1) 4) (((jn mo ω η κ χ ν i).2.1) 5) (((jn mo ω η κ χ ν i).2.1) 6) (((jn mo ω η κ χ ν i).2.1) 7) (((jn mo ω η κ χ ν i).2.1) 8) (((jn mo ω η κ χ ν i).2.2.1) 0) (((jn mo ω η κ χ ν i).2.2.1) 1) (((jn mo ω η κ χ ν i).2.2.1) 2 0) (((jn mo ω η κ χ ν i).2.2.2.1) 0) (((jn mo ω η κ χ ν i).2.2.2.1) 1) (((jn mo ω η κ χ ν i).2.2.2.1) 2 0) (((jn mo ω η κ χ ν i).2.2.2.2) 0) (((jn mo ω η κ χ ν i).2.2.2.2) 1 0) (((jn mo ω η κ χ ν i).2.2.2.2) 2 0) (((jn mo ω η κ χ ν i).2.2.2.2) 3 0) (((jn mo ω η κ χ ν i).2.2.2.2) 4 0) (((jn mo ω η κ χ ν i).2.2.2.2) 5 0)) → va_S A H0 H locs → lv_has ls 3 [(0, .ref oM), (1, .int q1), (2, .int (nI i))] → W p l e ({ frames := 4, cells := 0, slots := 0, locals := 87 } : Room) s m args below meth c H locs 0 0 Q (F0 m 40 ls []) := by
  intro n
  induction n with
  | zero => intro i ls hi hfu; exact absurd hfu (by omega)
  | succ n ih =>
    intro i ls hi hfu H locs hP hD hS hl
    refine lv_iload_n hx hb d_join_40 rfl (lv_at hl 2 rfl) ?_
    refine lv_iload_n hx hb d_join_41 rfl (lv_at hl 1 rfl) ?_
    refine lv_icmp_ge (tgt := 73) hx hb d_join_42 (by decide) (fun c_10 => ?_) (fun c_10 => ?_)
    · have hi9 : i = rc := by
        rcases Nat.lt_or_ge i rc with h | h
        · exact absurd (er ▸ c_10) (nI_ge h (by omega))
        · omega
      subst hi9
      exact kx ls H locs hP hD hS hl
    · have hlt : i < rc := lt_nle (by omega) (by omega) (er ▸ c_10)
      refine lv_aload_n hx hb d_join_45 rfl (lv_at hl 0 rfl) ?_
      refine lv_aload_n hx hb d_join_46 rfl (lv_at hl 0 rfl) ?_
      refine va_get (D := (dC, dI)) (ci := 3) (v := .ref kR) (C := R_Main) (T := T_Main) (N := 5) hx hb hts in_Main hown hK hP 0 rfl rfl 1 (by decide) (hts _ mw_134) (fun _ h9 => h9) rfl d_join_47 ?_
      refine va_getN (D := (dC, dI)) (ci := 1) (v := .ref kR0) (C := R_Row) (T := T_Row) (N := 3) hx hb hts in_Row hown hK hP 11 rfl rfl 0 (by decide) (hts _ mw_90) (fun _ h9 => h9) rfl d_join_50 ?_
      refine lv_iload_n hx hb d_join_53 rfl (lv_at hl 2 rfl) ?_
      refine va_iald (n := mo) (f := ((jn mo ω η κ χ ν i).2.2.1) 0) hx hb hK hP 12 0 rfl rfl (i := nI i) (vp_in_nI (by omega) (by omega)) d_join_54 ?_
      refine lv_aload_n hx hb d_join_55 rfl (lv_at hl 0 rfl) ?_
      refine va_get (D := (dC, dI)) (ci := 3) (v := .ref kR) (C := R_Main) (T := T_Main) (N := 5) hx hb hts in_Main hown hK hP 0 rfl rfl 1 (by decide) (hts _ mw_134) (fun _ h9 => h9) rfl d_join_56 ?_
      refine va_getN (D := (dC, dI)) (ci := 1) (v := .ref kR1) (C := R_Row) (T := T_Row) (N := 3) hx hb hts in_Row hown hK hP 11 rfl rfl 1 (by decide) (hts _ mw_92) (fun _ h9 => h9) rfl d_join_59 ?_
      refine lv_iload_n hx hb d_join_62 rfl (lv_at hl 2 rfl) ?_
      refine va_iald (n := mo) (f := ((jn mo ω η κ χ ν i).2.2.1) 1) hx hb hK hP 13 0 rfl rfl (i := nI i) (vp_in_nI (by omega) (by omega)) d_join_63 ?_
      refine xc_VWv (As := [.int ((((jn mo ω η κ χ ν i).2.2.1) 0) (nI i).toNatClampNeg), .int ((((jn mo ω η κ χ ν i).2.2.1) 1) (nI i).toNatClampNeg)]) (rest := []) (ci := 3) (wr := []) ⟨hx, hb, hml, hown, hts⟩ hT hK hP hD hS hA (c_joinR l dC dI cI cZ mo oM hH hH0 hH1 hH2 hH3 hH4 hH5 hH6 hH7 hH8 kR kR0 kR1 xR xR0 xR1 sS sS0 H.size ((jn mo ω η κ χ ν i).1) ((jn mo ω η κ χ ν i).2.1) ((jn mo ω η κ χ ν i).2.2.1) ((jn mo ω η κ χ ν i).2.2.2.1) ((jn mo ω η κ χ ν i).2.2.2.2) ((((jn mo ω η κ χ ν i).2.2.1) 0) (nI i).toNatClampNeg) ((((jn mo ω η κ χ ν i).2.2.1) 1) (nI i).toNatClampNeg) ((hJ i hlt).1) (by rw [nI_clamp (show i < 2 ^ 31 by omega)]; exact (hJ i hlt).2.1) (by rw [nI_clamp (show i < 2 ^ 31 by omega)]; exact (hJ i hlt).2.2)) [0, 1, 2, 3, 4, 5, 6, 7, 8, 9, 10, 11, 12, 13, 14, 15, 16, 17, 18] [] rfl (by decide) rfl (by decide) (by decide) (xw_V 2 hts mw_289 mw_13 mw_286 mw_288 mw_4 rfl rfl (by decide +kernel) ⟨Nat.le_of_ble_eq_true rfl, Nat.le_of_ble_eq_true rfl⟩) rfl rfl rfl hl.1 rfl (Nat.le_of_ble_eq_true rfl) d_join_64 ⟨Nat.zero_le _, Nat.zero_le _⟩ (fun u H locs hw hP hD hS => ?_)
      obtain rfl := hw
      have hP : va_P (dC, dI) vwCl (w_Main cI cZ mo oM hH hH0 hH1 hH2 hH3 hH4 hH5 hH6 hH7 hH8 kR kR0 kR1 xR xR0 xR1 sS sS0 (((F_joinR mo ((jn mo ω η κ χ ν i).1) ((jn mo ω η κ χ ν i).2.1) ((jn mo ω η κ χ ν i).2.2.1) ((jn mo ω η κ χ ν i).2.2.2.1) ((jn mo ω η κ χ ν i).2.2.2.2) ((((jn mo ω η κ χ ν i).2.2.1) 0) (nI i).toNatClampNeg) ((((jn mo ω η κ χ ν i).2.2.1) 1) (nI i).toNatClampNeg)).1) 0 0) (((F_joinR mo ((jn mo ω η κ χ ν i).1) ((jn mo ω η κ χ ν i).2.1) ((jn mo ω η κ χ ν i).2.2.1) ((jn mo ω η κ χ ν i).2.2.2.1) ((jn mo ω η κ χ ν i).2.2.2.2) ((((jn mo ω η κ χ ν i).2.2.1) 0) (nI i).toNatClampNeg) ((((jn mo ω η κ χ ν i).2.2.1) 1) (nI i).toNatClampNeg)).2.1) 0) (((F_joinR mo ((jn mo ω η κ χ ν i).1) ((jn mo ω η κ χ ν i).2.1) ((jn mo ω η κ χ ν i).2.2.1) ((jn mo ω η κ χ ν i).2.2.2.1) ((jn mo ω η κ χ ν i).2.2.2.2) ((((jn mo ω η κ χ ν i).2.2.1) 0) (nI i).toNatClampNeg) ((((jn mo ω η κ χ ν i).2.2.1) 1) (nI i).toNatClampNeg)).2.1) 1) (((F_joinR mo ((jn mo ω η κ χ ν i).1) ((jn mo ω η κ χ ν i).2.1) ((jn mo ω η κ χ ν i).2.2.1) ((jn mo ω η κ χ ν i).2.2.2.1) ((jn mo ω η κ χ ν i).2.2.2.2) ((((jn mo ω η κ χ ν i).2.2.1) 0) (nI i).toNatClampNeg) ((((jn mo ω η κ χ ν i).2.2.1) 1) (nI i).toNatClampNeg)).2.1) 2) (((F_joinR mo ((jn mo ω η κ χ ν i).1) ((jn mo ω η κ χ ν i).2.1) ((jn mo ω η κ χ ν i).2.2.1) ((jn mo ω η κ χ ν i).2.2.2.1) ((jn mo ω η κ χ ν i).2.2.2.2) ((((jn mo ω η κ χ ν i).2.2.1) 0) (nI i).toNatClampNeg) ((((jn mo ω η κ χ ν i).2.2.1) 1) (nI i).toNatClampNeg)).2.1) 3) (((F_joinR mo ((jn mo ω η κ χ ν i).1) ((jn mo ω η κ χ ν i).2.1) ((jn mo ω η κ χ ν i).2.2.1) ((jn mo ω η κ χ ν i).2.2.2.1) ((jn mo ω η κ χ ν i).2.2.2.2) ((((jn mo ω η κ χ ν i).2.2.1) 0) (nI i).toNatClampNeg) ((((jn mo ω η κ χ ν i).2.2.1) 1) (nI i).toNatClampNeg)).2.1) 4) (((F_joinR mo ((jn mo ω η κ χ ν i).1) ((jn mo ω η κ χ ν i).2.1) ((jn mo ω η κ χ ν i).2.2.1) ((jn mo ω η κ χ ν i).2.2.2.1) ((jn mo ω η κ χ ν i).2.2.2.2) ((((jn mo ω η κ χ ν i).2.2.1) 0) (nI i).toNatClampNeg) ((((jn mo ω η κ χ ν i).2.2.1) 1) (nI i).toNatClampNeg)).2.1) 5) (((F_joinR mo ((jn mo ω η κ χ ν i).1) ((jn mo ω η κ χ ν i).2.1) ((jn mo ω η κ χ ν i).2.2.1) ((jn mo ω η κ χ ν i).2.2.2.1) ((jn mo ω η κ χ ν i).2.2.2.2) ((((jn mo ω η κ χ ν i).2.2.1) 0) (nI i).toNatClampNeg) ((((jn mo ω η κ χ ν i).2.2.1) 1) (nI i).toNatClampNeg)).2.1) 6) (((F_joinR mo ((jn mo ω η κ χ ν i).1) ((jn mo ω η κ χ ν i).2.1) ((jn mo ω η κ χ ν i).2.2.1) ((jn mo ω η κ χ ν i).2.2.2.1) ((jn mo ω η κ χ ν i).2.2.2.2) ((((jn mo ω η κ χ ν i).2.2.1) 0) (nI i).toNatClampNeg) ((((jn mo ω η κ χ ν i).2.2.1) 1) (nI i).toNatClampNeg)).2.1) 7) (((F_joinR mo ((jn mo ω η κ χ ν i).1) ((jn mo ω η κ χ ν i).2.1) ((jn mo ω η κ χ ν i).2.2.1) ((jn mo ω η κ χ ν i).2.2.2.1) ((jn mo ω η κ χ ν i).2.2.2.2) ((((jn mo ω η κ χ ν i).2.2.1) 0) (nI i).toNatClampNeg) ((((jn mo ω η κ χ ν i).2.2.1) 1) (nI i).toNatClampNeg)).2.1) 8) (((F_joinR mo ((jn mo ω η κ χ ν i).1) ((jn mo ω η κ χ ν i).2.1) ((jn mo ω η κ χ ν i).2.2.1) ((jn mo ω η κ χ ν i).2.2.2.1) ((jn mo ω η κ χ ν i).2.2.2.2) ((((jn mo ω η κ χ ν i).2.2.1) 0) (nI i).toNatClampNeg) ((((jn mo ω η κ χ ν i).2.2.1) 1) (nI i).toNatClampNeg)).2.2.1) 0) (((F_joinR mo ((jn mo ω η κ χ ν i).1) ((jn mo ω η κ χ ν i).2.1) ((jn mo ω η κ χ ν i).2.2.1) ((jn mo ω η κ χ ν i).2.2.2.1) ((jn mo ω η κ χ ν i).2.2.2.2) ((((jn mo ω η κ χ ν i).2.2.1) 0) (nI i).toNatClampNeg) ((((jn mo ω η κ χ ν i).2.2.1) 1) (nI i).toNatClampNeg)).2.2.1) 1) (((F_joinR mo ((jn mo ω η κ χ ν i).1) ((jn mo ω η κ χ ν i).2.1) ((jn mo ω η κ χ ν i).2.2.1) ((jn mo ω η κ χ ν i).2.2.2.1) ((jn mo ω η κ χ ν i).2.2.2.2) ((((jn mo ω η κ χ ν i).2.2.1) 0) (nI i).toNatClampNeg) ((((jn mo ω η κ χ ν i).2.2.1) 1) (nI i).toNatClampNeg)).2.2.1) 2 0) (((F_joinR mo ((jn mo ω η κ χ ν i).1) ((jn mo ω η κ χ ν i).2.1) ((jn mo ω η κ χ ν i).2.2.1) ((jn mo ω η κ χ ν i).2.2.2.1) ((jn mo ω η κ χ ν i).2.2.2.2) ((((jn mo ω η κ χ ν i).2.2.1) 0) (nI i).toNatClampNeg) ((((jn mo ω η κ χ ν i).2.2.1) 1) (nI i).toNatClampNeg)).2.2.2.1) 0) (((F_joinR mo ((jn mo ω η κ χ ν i).1) ((jn mo ω η κ χ ν i).2.1) ((jn mo ω η κ χ ν i).2.2.1) ((jn mo ω η κ χ ν i).2.2.2.1) ((jn mo ω η κ χ ν i).2.2.2.2) ((((jn mo ω η κ χ ν i).2.2.1) 0) (nI i).toNatClampNeg) ((((jn mo ω η κ χ ν i).2.2.1) 1) (nI i).toNatClampNeg)).2.2.2.1) 1) (((F_joinR mo ((jn mo ω η κ χ ν i).1) ((jn mo ω η κ χ ν i).2.1) ((jn mo ω η κ χ ν i).2.2.1) ((jn mo ω η κ χ ν i).2.2.2.1) ((jn mo ω η κ χ ν i).2.2.2.2) ((((jn mo ω η κ χ ν i).2.2.1) 0) (nI i).toNatClampNeg) ((((jn mo ω η κ χ ν i).2.2.1) 1) (nI i).toNatClampNeg)).2.2.2.1) 2 0) (((F_joinR mo ((jn mo ω η κ χ ν i).1) ((jn mo ω η κ χ ν i).2.1) ((jn mo ω η κ χ ν i).2.2.1) ((jn mo ω η κ χ ν i).2.2.2.1) ((jn mo ω η κ χ ν i).2.2.2.2) ((((jn mo ω η κ χ ν i).2.2.1) 0) (nI i).toNatClampNeg) ((((jn mo ω η κ χ ν i).2.2.1) 1) (nI i).toNatClampNeg)).2.2.2.2) 0) (((F_joinR mo ((jn mo ω η κ χ ν i).1) ((jn mo ω η κ χ ν i).2.1) ((jn mo ω η κ χ ν i).2.2.1) ((jn mo ω η κ χ ν i).2.2.2.1) ((jn mo ω η κ χ ν i).2.2.2.2) ((((jn mo ω η κ χ ν i).2.2.1) 0) (nI i).toNatClampNeg) ((((jn mo ω η κ χ ν i).2.2.1) 1) (nI i).toNatClampNeg)).2.2.2.2) 1 0) (((F_joinR mo ((jn mo ω η κ χ ν i).1) ((jn mo ω η κ χ ν i).2.1) ((jn mo ω η κ χ ν i).2.2.1) ((jn mo ω η κ χ ν i).2.2.2.1) ((jn mo ω η κ χ ν i).2.2.2.2) ((((jn mo ω η κ χ ν i).2.2.1) 0) (nI i).toNatClampNeg) ((((jn mo ω η κ χ ν i).2.2.1) 1) (nI i).toNatClampNeg)).2.2.2.2) 2 0) (((F_joinR mo ((jn mo ω η κ χ ν i).1) ((jn mo ω η κ χ ν i).2.1) ((jn mo ω η κ χ ν i).2.2.1) ((jn mo ω η κ χ ν i).2.2.2.1) ((jn mo ω η κ χ ν i).2.2.2.2) ((((jn mo ω η κ χ ν i).2.2.1) 0) (nI i).toNatClampNeg) ((((jn mo ω η κ χ ν i).2.2.1) 1) (nI i).toNatClampNeg)).2.2.2.2) 3 0) (((F_joinR mo ((jn mo ω η κ χ ν i).1) ((jn mo ω η κ χ ν i).2.1) ((jn mo ω η κ χ ν i).2.2.1) ((jn mo ω η κ χ ν i).2.2.2.1) ((jn mo ω η κ χ ν i).2.2.2.2) ((((jn mo ω η κ χ ν i).2.2.1) 0) (nI i).toNatClampNeg) ((((jn mo ω η κ χ ν i).2.2.1) 1) (nI i).toNatClampNeg)).2.2.2.2) 4 0) (((F_joinR mo ((jn mo ω η κ χ ν i).1) ((jn mo ω η κ χ ν i).2.1) ((jn mo ω η κ χ ν i).2.2.1) ((jn mo ω η κ χ ν i).2.2.2.1) ((jn mo ω η κ χ ν i).2.2.2.2) ((((jn mo ω η κ χ ν i).2.2.1) 0) (nI i).toNatClampNeg) ((((jn mo ω η κ χ ν i).2.2.1) 1) (nI i).toNatClampNeg)).2.2.2.2) 5 0)) H := hP.sub [0, 1, 2, 3, 4, 5, 6, 7, 8, 9, 10, 11, 12, 13, 14, 15, 16, 17, 18] rfl
      have hD : va_D A (w_Main cI cZ mo oM hH hH0 hH1 hH2 hH3 hH4 hH5 hH6 hH7 hH8 kR kR0 kR1 xR xR0 xR1 sS sS0 (((F_joinR mo ((jn mo ω η κ χ ν i).1) ((jn mo ω η κ χ ν i).2.1) ((jn mo ω η κ χ ν i).2.2.1) ((jn mo ω η κ χ ν i).2.2.2.1) ((jn mo ω η κ χ ν i).2.2.2.2) ((((jn mo ω η κ χ ν i).2.2.1) 0) (nI i).toNatClampNeg) ((((jn mo ω η κ χ ν i).2.2.1) 1) (nI i).toNatClampNeg)).1) 0 0) (((F_joinR mo ((jn mo ω η κ χ ν i).1) ((jn mo ω η κ χ ν i).2.1) ((jn mo ω η κ χ ν i).2.2.1) ((jn mo ω η κ χ ν i).2.2.2.1) ((jn mo ω η κ χ ν i).2.2.2.2) ((((jn mo ω η κ χ ν i).2.2.1) 0) (nI i).toNatClampNeg) ((((jn mo ω η κ χ ν i).2.2.1) 1) (nI i).toNatClampNeg)).2.1) 0) (((F_joinR mo ((jn mo ω η κ χ ν i).1) ((jn mo ω η κ χ ν i).2.1) ((jn mo ω η κ χ ν i).2.2.1) ((jn mo ω η κ χ ν i).2.2.2.1) ((jn mo ω η κ χ ν i).2.2.2.2) ((((jn mo ω η κ χ ν i).2.2.1) 0) (nI i).toNatClampNeg) ((((jn mo ω η κ χ ν i).2.2.1) 1) (nI i).toNatClampNeg)).2.1) 1) (((F_joinR mo ((jn mo ω η κ χ ν i).1) ((jn mo ω η κ χ ν i).2.1) ((jn mo ω η κ χ ν i).2.2.1) ((jn mo ω η κ χ ν i).2.2.2.1) ((jn mo ω η κ χ ν i).2.2.2.2) ((((jn mo ω η κ χ ν i).2.2.1) 0) (nI i).toNatClampNeg) ((((jn mo ω η κ χ ν i).2.2.1) 1) (nI i).toNatClampNeg)).2.1) 2) (((F_joinR mo ((jn mo ω η κ χ ν i).1) ((jn mo ω η κ χ ν i).2.1) ((jn mo ω η κ χ ν i).2.2.1) ((jn mo ω η κ χ ν i).2.2.2.1) ((jn mo ω η κ χ ν i).2.2.2.2) ((((jn mo ω η κ χ ν i).2.2.1) 0) (nI i).toNatClampNeg) ((((jn mo ω η κ χ ν i).2.2.1) 1) (nI i).toNatClampNeg)).2.1) 3) (((F_joinR mo ((jn mo ω η κ χ ν i).1) ((jn mo ω η κ χ ν i).2.1) ((jn mo ω η κ χ ν i).2.2.1) ((jn mo ω η κ χ ν i).2.2.2.1) ((jn mo ω η κ χ ν i).2.2.2.2) ((((jn mo ω η κ χ ν i).2.2.1) 0) (nI i).toNatClampNeg) ((((jn mo ω η κ χ ν i).2.2.1) 1) (nI i).toNatClampNeg)).2.1) 4) (((F_joinR mo ((jn mo ω η κ χ ν i).1) ((jn mo ω η κ χ ν i).2.1) ((jn mo ω η κ χ ν i).2.2.1) ((jn mo ω η κ χ ν i).2.2.2.1) ((jn mo ω η κ χ ν i).2.2.2.2) ((((jn mo ω η κ χ ν i).2.2.1) 0) (nI i).toNatClampNeg) ((((jn mo ω η κ χ ν i).2.2.1) 1) (nI i).toNatClampNeg)).2.1) 5) (((F_joinR mo ((jn mo ω η κ χ ν i).1) ((jn mo ω η κ χ ν i).2.1) ((jn mo ω η κ χ ν i).2.2.1) ((jn mo ω η κ χ ν i).2.2.2.1) ((jn mo ω η κ χ ν i).2.2.2.2) ((((jn mo ω η κ χ ν i).2.2.1) 0) (nI i).toNatClampNeg) ((((jn mo ω η κ χ ν i).2.2.1) 1) (nI i).toNatClampNeg)).2.1) 6) (((F_joinR mo ((jn mo ω η κ χ ν i).1) ((jn mo ω η κ χ ν i).2.1) ((jn mo ω η κ χ ν i).2.2.1) ((jn mo ω η κ χ ν i).2.2.2.1) ((jn mo ω η κ χ ν i).2.2.2.2) ((((jn mo ω η κ χ ν i).2.2.1) 0) (nI i).toNatClampNeg) ((((jn mo ω η κ χ ν i).2.2.1) 1) (nI i).toNatClampNeg)).2.1) 7) (((F_joinR mo ((jn mo ω η κ χ ν i).1) ((jn mo ω η κ χ ν i).2.1) ((jn mo ω η κ χ ν i).2.2.1) ((jn mo ω η κ χ ν i).2.2.2.1) ((jn mo ω η κ χ ν i).2.2.2.2) ((((jn mo ω η κ χ ν i).2.2.1) 0) (nI i).toNatClampNeg) ((((jn mo ω η κ χ ν i).2.2.1) 1) (nI i).toNatClampNeg)).2.1) 8) (((F_joinR mo ((jn mo ω η κ χ ν i).1) ((jn mo ω η κ χ ν i).2.1) ((jn mo ω η κ χ ν i).2.2.1) ((jn mo ω η κ χ ν i).2.2.2.1) ((jn mo ω η κ χ ν i).2.2.2.2) ((((jn mo ω η κ χ ν i).2.2.1) 0) (nI i).toNatClampNeg) ((((jn mo ω η κ χ ν i).2.2.1) 1) (nI i).toNatClampNeg)).2.2.1) 0) (((F_joinR mo ((jn mo ω η κ χ ν i).1) ((jn mo ω η κ χ ν i).2.1) ((jn mo ω η κ χ ν i).2.2.1) ((jn mo ω η κ χ ν i).2.2.2.1) ((jn mo ω η κ χ ν i).2.2.2.2) ((((jn mo ω η κ χ ν i).2.2.1) 0) (nI i).toNatClampNeg) ((((jn mo ω η κ χ ν i).2.2.1) 1) (nI i).toNatClampNeg)).2.2.1) 1) (((F_joinR mo ((jn mo ω η κ χ ν i).1) ((jn mo ω η κ χ ν i).2.1) ((jn mo ω η κ χ ν i).2.2.1) ((jn mo ω η κ χ ν i).2.2.2.1) ((jn mo ω η κ χ ν i).2.2.2.2) ((((jn mo ω η κ χ ν i).2.2.1) 0) (nI i).toNatClampNeg) ((((jn mo ω η κ χ ν i).2.2.1) 1) (nI i).toNatClampNeg)).2.2.1) 2 0) (((F_joinR mo ((jn mo ω η κ χ ν i).1) ((jn mo ω η κ χ ν i).2.1) ((jn mo ω η κ χ ν i).2.2.1) ((jn mo ω η κ χ ν i).2.2.2.1) ((jn mo ω η κ χ ν i).2.2.2.2) ((((jn mo ω η κ χ ν i).2.2.1) 0) (nI i).toNatClampNeg) ((((jn mo ω η κ χ ν i).2.2.1) 1) (nI i).toNatClampNeg)).2.2.2.1) 0) (((F_joinR mo ((jn mo ω η κ χ ν i).1) ((jn mo ω η κ χ ν i).2.1) ((jn mo ω η κ χ ν i).2.2.1) ((jn mo ω η κ χ ν i).2.2.2.1) ((jn mo ω η κ χ ν i).2.2.2.2) ((((jn mo ω η κ χ ν i).2.2.1) 0) (nI i).toNatClampNeg) ((((jn mo ω η κ χ ν i).2.2.1) 1) (nI i).toNatClampNeg)).2.2.2.1) 1) (((F_joinR mo ((jn mo ω η κ χ ν i).1) ((jn mo ω η κ χ ν i).2.1) ((jn mo ω η κ χ ν i).2.2.1) ((jn mo ω η κ χ ν i).2.2.2.1) ((jn mo ω η κ χ ν i).2.2.2.2) ((((jn mo ω η κ χ ν i).2.2.1) 0) (nI i).toNatClampNeg) ((((jn mo ω η κ χ ν i).2.2.1) 1) (nI i).toNatClampNeg)).2.2.2.1) 2 0) (((F_joinR mo ((jn mo ω η κ χ ν i).1) ((jn mo ω η κ χ ν i).2.1) ((jn mo ω η κ χ ν i).2.2.1) ((jn mo ω η κ χ ν i).2.2.2.1) ((jn mo ω η κ χ ν i).2.2.2.2) ((((jn mo ω η κ χ ν i).2.2.1) 0) (nI i).toNatClampNeg) ((((jn mo ω η κ χ ν i).2.2.1) 1) (nI i).toNatClampNeg)).2.2.2.2) 0) (((F_joinR mo ((jn mo ω η κ χ ν i).1) ((jn mo ω η κ χ ν i).2.1) ((jn mo ω η κ χ ν i).2.2.1) ((jn mo ω η κ χ ν i).2.2.2.1) ((jn mo ω η κ χ ν i).2.2.2.2) ((((jn mo ω η κ χ ν i).2.2.1) 0) (nI i).toNatClampNeg) ((((jn mo ω η κ χ ν i).2.2.1) 1) (nI i).toNatClampNeg)).2.2.2.2) 1 0) (((F_joinR mo ((jn mo ω η κ χ ν i).1) ((jn mo ω η κ χ ν i).2.1) ((jn mo ω η κ χ ν i).2.2.1) ((jn mo ω η κ χ ν i).2.2.2.1) ((jn mo ω η κ χ ν i).2.2.2.2) ((((jn mo ω η κ χ ν i).2.2.1) 0) (nI i).toNatClampNeg) ((((jn mo ω η κ χ ν i).2.2.1) 1) (nI i).toNatClampNeg)).2.2.2.2) 2 0) (((F_joinR mo ((jn mo ω η κ χ ν i).1) ((jn mo ω η κ χ ν i).2.1) ((jn mo ω η κ χ ν i).2.2.1) ((jn mo ω η κ χ ν i).2.2.2.1) ((jn mo ω η κ χ ν i).2.2.2.2) ((((jn mo ω η κ χ ν i).2.2.1) 0) (nI i).toNatClampNeg) ((((jn mo ω η κ χ ν i).2.2.1) 1) (nI i).toNatClampNeg)).2.2.2.2) 3 0) (((F_joinR mo ((jn mo ω η κ χ ν i).1) ((jn mo ω η κ χ ν i).2.1) ((jn mo ω η κ χ ν i).2.2.1) ((jn mo ω η κ χ ν i).2.2.2.1) ((jn mo ω η κ χ ν i).2.2.2.2) ((((jn mo ω η κ χ ν i).2.2.1) 0) (nI i).toNatClampNeg) ((((jn mo ω η κ χ ν i).2.2.1) 1) (nI i).toNatClampNeg)).2.2.2.2) 4 0) (((F_joinR mo ((jn mo ω η κ χ ν i).1) ((jn mo ω η κ χ ν i).2.1) ((jn mo ω η κ χ ν i).2.2.1) ((jn mo ω η κ χ ν i).2.2.2.1) ((jn mo ω η κ χ ν i).2.2.2.2) ((((jn mo ω η κ χ ν i).2.2.1) 0) (nI i).toNatClampNeg) ((((jn mo ω η κ χ ν i).2.2.1) 1) (nI i).toNatClampNeg)).2.2.2.2) 5 0)) := hD.sub [0, 1, 2, 3, 4, 5, 6, 7, 8, 9, 10, 11, 12, 13, 14, 15, 16, 17, 18] (by decide) rfl
      refine lv_iinc (v := nI (i + 1)) (lv' := [(2, .int (nI (i + 1))), (0, .ref oM), (1, .int q1)]) hx hb d_join_67 hl (k := 2) rfl (nI_1 _) (by decide) rfl (fun ls hl => ?_)
      refine lv_goto (tgt := 40) hx hb d_join_70 (by decide) ?_
      rw [nI_clamp (show i < 2 ^ 31 by omega)] at hP hD
      exact ih (i + 1) ls (by omega) (by omega) H locs hP hD hS (lv_sub hl [1, 2, 0] rfl)
/-! PURE 1: what the methods' functions do to the class's invariant -/
theorem upd_all {P : Int32 → Prop} {f : Nat → Int32} {k n : Nat} {x : Int32} (h : ∀ i, i < n → P (f i)) (hx : P x) : ∀ i, i < n → P (upd f k x i) := by
  intro i hi
  unfold upd
  by_cases q : i = k
  · rw [if_pos q]; exact hx
  · rw [if_neg q]; exact h i hi
theorem upd_or {f : Nat → Int32} {k n N : Nat} {x : Int32} (h : ∀ i, i < n → f i = -1 ∨ vp_in (f i) N) (hx : x = -1 ∨ vp_in x N) : ∀ i, i < n → upd f k x i = -1 ∨ vp_in (upd f k x i) N := upd_all (P := fun y => y = -1 ∨ vp_in y N) h hx
theorem shl_at (f : Nat → Int32) {a b : Nat} (hab : a ≤ b) : ∀ (n j : Nat), shl f a b n j = if a ≤ j ∧ j < a + n then f (j - a + b) else f j := by
  intro n
  induction n with
  | zero => intro j; exact (if_neg (by omega)).symm
  | succ n ih =>
    intro j
    show upd (shl f a b n) (a + n) (shl f a b n (b + n)) j = _
    unfold upd
    by_cases q : j = a + n
    · subst q
      rw [if_pos rfl, if_pos (by omega), ih, if_neg (by omega)]
      congr 1
      omega
    · rw [if_neg q, ih]
      by_cases q2 : a ≤ j ∧ j < a + n
      · rw [if_pos q2, if_pos (by omega)]
      · rw [if_neg q2, if_neg (by omega)]
/-- the rows of a list: how many, all of a kind -/
def KR (mo : Nat) (κ : SS) : Prop := ∃ kc : Nat, kc ≤ mo ∧ κ 2 0 = nI kc ∧ ∀ i, i < kc → vp_in (κ 0 i) 60 ∧ (κ 1 i = -1 ∨ vp_in (κ 1 i) 40)
theorem remR_eq {mo : Nat} {κ : SS} {a b kc : Nat} (hmo : mo ≤ 100) (hk : kc ≤ mo) (ek : κ 2 0 = nI kc) (hab : a ≤ b) (hbk : b ≤ kc) : F_remR mo κ (nI a) (nI b) = ss (ss (ss κ 0 (shl (κ 0) a b (kc - b))) 1 (shl (κ 1) a b (kc - b))) 2 (fun _ => nI (kc - (b - a))) := by
  unfold F_remR
  rw [if_neg (nI_pos (by omega)), if_neg (nI_nlt hab (by omega)), ek, if_pos (nI_le hbk (by omega)), nI_clamp (by omega), nI_clamp (by omega), nI_clamp (by omega), pk_sub hab, pk_sub (by omega)]
theorem remR_KR {mo : Nat} {κ : SS} {a b kc : Nat} (hmo : mo ≤ 100) (hk : kc ≤ mo) (ek : κ 2 0 = nI kc) (hr : ∀ i, i < kc → vp_in (κ 0 i) 60 ∧ (κ 1 i = -1 ∨ vp_in (κ 1 i) 40)) (hab : a ≤ b) (hbk : b ≤ kc) : KR mo (F_remR mo κ (nI a) (nI b)) := by
  rw [remR_eq hmo hk ek hab hbk]
  refine ⟨kc - (b - a), by omega, rfl, fun i hi => ?_⟩
  show vp_in (shl (κ 0) a b (kc - b) i) 60 ∧ (shl (κ 1) a b (kc - b) i = -1 ∨ vp_in (shl (κ 1) a b (kc - b) i) 40)
  rw [shl_at _ hab, shl_at _ hab]
  by_cases q : a ≤ i ∧ i < a + (kc - b)
  · rw [if_pos q, if_pos q]; exact hr _ (by omega)
  · rw [if_neg q, if_neg q]; exact hr _ (by omega)
theorem remF_eq {mo : Nat} {κ : SS} {b kc : Nat} (hmo : mo ≤ 100) (hk : kc ≤ mo) (ek : κ 2 0 = nI kc) (hbk : b ≤ kc) : F_remF mo κ (nI b) = ss (ss (ss κ 0 (shl (κ 0) 0 b (kc - b))) 1 (shl (κ 1) 0 b (kc - b))) 2 (fun _ => nI (kc - b)) := by
  show F_remR mo κ 0 (nI b) = _
  rw [← nI_0, remR_eq hmo hk ek (Nat.zero_le b) hbk]
  rfl
theorem remF_KR {mo : Nat} {κ : SS} {x : Int32} (hmo : mo ≤ 100) (h : KR mo κ) (h0 : ¬ x < 0) (h1 : x ≤ κ 2 0) : KR mo (F_remF mo κ x) := by
  obtain ⟨kc, hk, ek, hr⟩ := h
  obtain ⟨b, hb, rfl⟩ := nI_of h0
  rw [ek] at h1
  show KR mo (F_remR mo κ 0 (nI b))
  rw [← nI_0]
  exact remR_KR hmo hk ek hr (Nat.zero_le b) ((nI_leI hb (by omega)).mp h1)
theorem rl_KR {mo : Nat} {κ : SS} (hmo : mo ≤ 100) {kc : Nat} (hk : kc ≤ mo) (ek : κ 2 0 = nI kc) (hr : ∀ i, i < kc → vp_in (κ 0 i) 60 ∧ (κ 1 i = -1 ∨ vp_in (κ 1 i) 40)) : ∀ j, j ≤ kc → KR mo (rl mo κ j) := by
  intro j
  induction j with
  | zero => intro _; exact ⟨kc, hk, ek, hr⟩
  | succ j ih =>
    intro hj
    show KR mo (if F_isLend mo κ (nI j) = 0 then rl mo κ j else F_remR mo κ (nI j) (nI j + 1))
    split
    · exact ih (by omega)
    · rw [nI_1]; exact remR_KR hmo hk ek hr (by omega) hj
theorem rLL_KR {mo : Nat} {κ : SS} (hmo : mo ≤ 100) (h : KR mo κ) : KR mo (F_rLL mo κ) := by
  obtain ⟨kc, hk, ek, hr⟩ := h
  show KR mo (rl mo κ (κ 2 0).toNatClampNeg)
  rw [ek, nI_clamp (by omega)]
  exact rl_KR hmo hk ek hr kc (Nat.le_refl _)
theorem rAdd_KR {mo : Nat} {κ : SS} {x y : Int32} (hmo : mo ≤ 100) (h : KR mo κ) (hx : vp_in x 60) (hy : y = -1 ∨ vp_in y 40) : KR mo (F_rAdd mo κ x y) := by
  obtain ⟨kc, hk, ek, hr⟩ := id h
  unfold F_rAdd
  split
  · rename_i hf
    have hlt : kc < mo := by
      have h1 := clt (in_full hmo ⟨kc, hk, ek⟩ hf)
      rw [ek, nI_clamp (by omega)] at h1
      exact h1
    refine ⟨kc + 1, by omega, ?_, fun i hi => ?_⟩
    · show κ 2 0 + 1 = _
      rw [ek, nI_1]
    · show vp_in (upd (κ 0) (κ 2 0).toNatClampNeg x i) 60 ∧ (upd (κ 1) (κ 2 0).toNatClampNeg y i = -1 ∨ vp_in (upd (κ 1) (κ 2 0).toNatClampNeg y i) 40)
      rw [ek, nI_clamp (by omega)]
      unfold upd
      by_cases q : i = kc
      · rw [if_pos q, if_pos q]; exact ⟨hx, hy⟩
      · rw [if_neg q, if_neg q]; exact hr i (by omega)
  · exact h
def XR (mo : Nat) (χ : SS) : Prop := ∃ xc : Nat, xc ≤ mo ∧ χ 2 0 = nI xc
theorem rAdd_XR {mo : Nat} {κ : SS} {x y : Int32} (hmo : mo ≤ 100) (h : XR mo κ) : XR mo (F_rAdd mo κ x y) := by
  obtain ⟨kc, hk, ek⟩ := id h
  unfold F_rAdd
  split
  · rename_i hf
    have hlt : kc < mo := by
      have h1 := clt (in_full hmo ⟨kc, hk, ek⟩ hf)
      rw [ek, nI_clamp (by omega)] at h1
      exact h1
    refine ⟨kc + 1, by omega, ?_⟩
    show κ 2 0 + 1 = _
    rw [ek, nI_1]
  · exact h
theorem remF_all {mo : Nat} {χ : SS} (hmo : mo ≤ 100) (h : XR mo χ) : XR mo (F_remF mo χ (χ 2 0)) ∧ F_remF mo χ (χ 2 0) 2 0 = 0 := by
  obtain ⟨kc, hk, ek⟩ := h
  rw [ek, remF_eq hmo hk ek (Nat.le_refl _), Nat.sub_self]
  exact ⟨⟨0, by omega, rfl⟩, rfl⟩
/-- the house's part of the invariant -/
def HR (η : SS) : Prop := (∀ i, i < 60 → η 5 i = -1 ∨ vp_in (η 5 i) 40) ∧ (∀ i, i < 60 → η 7 i = -1 ∨ vp_in (η 7 i) 10) ∧ (∀ i, i < 10 → η 8 i = -1 ∨ vp_in (η 8 i) 60)
theorem giveO_HR {η : SS} {x y : Int32} (h : HR η) : HR (F_giveO η x y) := by
  obtain ⟨h1, h2, h3⟩ := h
  unfold F_giveO
  repeat' split
  all_goals refine ⟨?_, ?_, ?_⟩
  all_goals first | exact h1 | exact h2 | exact h3 | exact upd_or (f := η 5) (k := x.toNatClampNeg) (x := -1) h1 (Or.inl rfl) | exact upd_or (f := η 7) (k := x.toNatClampNeg) (x := -1) h2 (Or.inl rfl) | exact upd_or (f := η 8) (k := (η 7 x.toNatClampNeg).toNatClampNeg) (x := -1) h3 (Or.inl rfl)
theorem takeB_HR {η : SS} {x : Int32} (h : HR η) : HR (F_takeB η x).2 := by
  unfold F_takeB
  repeat' split
  all_goals exact h
/-- the session's part -/
def NR (ν : SS) : Prop := vp_in (ν 3 0) 40 ∧ (ν 4 0 = -1 ∨ vp_in (ν 4 0) 60) ∧ ∃ lc : Nat, lc ≤ 256 ∧ ν 1 0 = nI lc ∧ ∀ i, i < lc → vp_in (ν 0 i) 60
theorem CInv.mk {mo : Nat} {ω η κ χ ν : SS} (hmo : mo ≤ 100) (hof : ω 0 0 = 0 ∨ ω 0 0 = 1) (h : HR η) (k : KR mo κ) (x : XR mo χ) (n : NR ν) : CInv mo ω η κ χ ν := ⟨hmo, hof, h.1, h.2.1, h.2.2, k, x, n.1, n.2.1, n.2.2⟩
theorem CInv.un {mo : Nat} {ω η κ χ ν : SS} (h : CInv mo ω η κ χ ν) : mo ≤ 100 ∧ (ω 0 0 = 0 ∨ ω 0 0 = 1) ∧ HR η ∧ KR mo κ ∧ XR mo χ ∧ NR ν := by
  obtain ⟨hmo, hof, hre, hlo, hlk, hkc, hxc, hpe, hla, hlc⟩ := h
  exact ⟨hmo, hof, ⟨hre, hlo, hlk⟩, hkc, hxc, hpe, hla, hlc⟩
theorem joinR_in {mo : Nat} {ω η κ χ ν : SS} {x y : Int32} (h : CInv mo ω η κ χ ν) : CInv mo (F_joinR mo ω η κ χ ν x y).1 (F_joinR mo ω η κ χ ν x y).2.1 (F_joinR mo ω η κ χ ν x y).2.2.1 (F_joinR mo ω η κ χ ν x y).2.2.2.1 (F_joinR mo ω η κ χ ν x y).2.2.2.2 ∧ (F_joinR mo ω η κ χ ν x y).2.2.1 = κ := by
  obtain ⟨hmo, hof, hH, hK, hX, hN⟩ := h.un
  unfold F_joinR
  repeat' split
  all_goals refine ⟨CInv.mk hmo hof ?_ hK ?_ hN, rfl⟩
  all_goals first | exact hH | exact takeB_HR hH | exact giveO_HR hH | exact hX | exact rAdd_XR hmo hX
