def F_cell (L : Nat) (xs : Nat → Int32) (k : Int32) : Int32 := if Int32.ofNat L ≤ k then 0 else xs k.toNatClampNeg
def pcX (b L : Nat) (xs : Nat → Int32) (av : List Value) : Array Value → State → Prop := va_Pc av (fun U => TBL U ∧ va_X b L xs U U.heap)
theorem fbX {b L : Nat} {xs : Nat → Int32} {av : List Value} : FrameBlind (pcX b L xs av) := fun a U g mk q => ⟨q.1, TBL.same (u := U) (U := U.calling g mk a) rfl q.2.1, va_X.moved (u := U) (U := U.calling g mk a) (Vm.Alike.refl U.vm) q.2.2⟩
set_option maxHeartbeats 4000000 in
set_option maxRecDepth 100000 in
theorem c_cell (l : Launch) (b L : Nat) (xs : Nat → Int32) (k : Int32) (hk : ¬ k < 0) (hL : L ≤ 2049) : Met l y_cell [Cond.code y_cell method_2_code 2 (some .int)] ({ frames := 0, cells := 0, slots := 0, locals := 0 }) (pcX b L xs [.ref b, .int k]) (vp_Si (fun r => r = F_cell L xs k)) 0 0 (fun _ => False) := by
  refine Met.ofW (cc := method_2_code) (maxL := 2) (ret := (some .int)) (by decide) rfl ?_
  intro p e s m args below meth c s₁ B hml hv
  obtain ⟨rfl, hT, hX⟩ := hv
  have hx := B.exec
  have hb := B.bytes
  have hr := B.returns
  have hlocks := B.notSynchronized
  have hbl : b < s.heap.size := by obtain ⟨scr, h1, -⟩ := hX; exact (Array.getElem?_eq_some_iff.mp h1).1
  have hS : va_S (fun _ => False) s.heap s.heap [] := va_S.rf
  have hbA : ¬ (fun _ : Nat => False) b := fun h => h
  have hl := lv_entry ([.ref b, .int k]) (n := 2) (Nat.le_of_ble_eq_true rfl)
  rw [lg_entry_eq]
  generalize (lg_sl ([.ref b, .int k]) ++ List.replicate (2 - (lg_sl ([.ref b, .int k])).length) Slot.unset).toArray = ls at hl ⊢
  have hl : lv_has ls 2 [(0, .ref b), (1, .int k)] := hl
  refine lv_iload_n hx hb d_cell_0 rfl (lv_at hl 1 rfl) ?_
  refine lv_aload_n hx hb d_cell_1 rfl (lv_at hl 0 rfl) ?_
  refine va_slen hx hb hX hbl hbA hS d_cell_2 ?_
  refine lv_icmp_ge (tgt := 12) hx hb d_cell_3 (by decide) (fun c_1 => ?_) (fun c_1 => ?_)
  · refine lv_iconst (v := 0) hx hb d_cell_12 (by decide) ?_
    have hF : F_cell L xs k = 0 := if_pos c_1
    exact W.iret (v := 0) hx hb hr (fun t ht hW => ⟨0, rfl, hF.symm, ht⟩) (fun _ h => absurd h List.not_mem_nil) d_cell_13
  · refine lv_aload_n hx hb d_cell_6 rfl (lv_at hl 0 rfl) ?_
    refine lv_iload_n hx hb d_cell_7 rfl (lv_at hl 1 rfl) ?_
    refine va_sld hx hb hX hbl hbA hS (i := k) (in_ge hk c_1 (by omega)) d_cell_8 ?_
    refine lv_goto (tgt := 13) hx hb d_cell_9 (by decide) ?_
    have hF : F_cell L xs k = xs k.toNatClampNeg := if_neg c_1
    exact W.iret (v := xs k.toNatClampNeg) hx hb hr (fun t ht hW => ⟨xs k.toNatClampNeg, rfl, hF.symm, ht⟩) (fun _ h => absurd h List.not_mem_nil) d_cell_13
set_option maxHeartbeats 4000000 in
set_option maxRecDepth 100000 in
theorem whole_start {p : Program} {e : Env} {s : State} {m : MethodId} {below : List Frame} {meth : Method} {c : Code} (l : Launch) {b L : Nat} {xs : Nat → Int32} (hL : L ≤ 2049) (C0 : lw_At p s m meth c b L xs) : W p l e room_1 s m #[Value.ref b] below meth c s.heap [] 0 0 (lw_Z below #[Value.ref b] s) (entryFrame m ([Value.ref b] : List Value).toArray 4) := by
  obtain ⟨hx, hb, hr, hml, hown, hts0, hX, hbl, hlocks, hgv⟩ := id C0
  have hts := tb_sub hts0
  have hT : TBL s := TBL.of hts
  have hA : ∀ q : Nat, s.heap.size ≤ q → (fun q : Nat => s.heap.size ≤ q) q := fun _ h => h
  have hbA : ¬ (fun q : Nat => s.heap.size ≤ q) b := Nat.not_le.mpr hbl
  obtain ⟨c0, iS0, hKn0⟩ := u_known (C := R_House) (T := T_House) (N := 9) (n := 9) hts in_House (hts _ mw_35)
  obtain ⟨c1, iS1, hKn1⟩ := u_known (C := R_Row) (T := T_Row) (N := 3) (n := 3) hts in_Row (hts _ mw_83)
  obtain ⟨c2, iS2, hKn2⟩ := u_known (C := R_Ses) (T := T_Ses) (N := 6) (n := 6) hts in_Ses (hts _ mw_103)
  obtain ⟨c3, iS3, hKn3⟩ := u_known (C := R_Main) (T := T_Main) (N := 5) (n := 5) hts in_Main (hts _ mw_21)
  obtain ⟨c4, iS4, hKn4⟩ := u_known (C := R_Mod) (T := T_Mod) (N := 24) (n := 24) hts in_Mod (hts _ mw_335)
  obtain ⟨dC, dI, hKc⟩ : ∃ (dC : Nat → ClassId) (dI : Nat → Nat → Nat), ∀ (k : Nat) (q : vw_C), vwCl[k]? = some q → u_Kn s q.1 q.2.1 q.2.2 (dC k) (dI k) := by
    refine ⟨fun k => match k with | 0 => c0 | 1 => c1 | 2 => c2 | 3 => c3 | _ => c4, fun k => match k with | 0 => iS0 | 1 => iS1 | 2 => iS2 | 3 => iS3 | _ => iS4, ?_⟩
    intro k q hq
    match k, hq with
    | 0, hq => cases hq; exact hKn0
    | 1, hq => cases hq; exact hKn1
    | 2, hq => cases hq; exact hKn2
    | 3, hq => cases hq; exact hKn3
    | 4, hq => cases hq; exact hKn4
    | k + 5, hq => simp [vwCl] at hq
  obtain ⟨cI, kI, comI, hnI, hkI, hdI⟩ := Cond.arrayClass_spec (hts _ mw_80)
  obtain ⟨cZ, kZ, comZ, hnZ, hkZ, hdZ⟩ := Cond.arrayClass_spec (hts _ mw_81)
  have hK : va_K (dC, dI) vwCl (tyC cI cZ) s := by
    refine ⟨hKc, fun k q h => ?_⟩
    match k, h with
    | 0, h => cases h; exact ⟨fun n z => ⟨fun k h => (by cases h), kI, hkI, comI, hdI⟩, hnI⟩
    | 1, h => cases h; exact ⟨fun n z => ⟨fun k h => (by cases h), kZ, hkZ, comZ, hdZ⟩, hnZ⟩
    | k + 2, h => simp [tyC] at h
  have hS : va_S (fun q : Nat => s.heap.size ≤ q) s.heap s.heap [] := va_S.rf
  have hP : va_P (dC, dI) vwCl [] s.heap := fun k q h => by simp at h
  have hD : va_D (fun q : Nat => s.heap.size ≤ q) [] := ⟨fun i j p q h => by simp at h, fun k q h => by simp at h⟩
  have hl := lv_entry ([.ref b]) (n := 4) (Nat.le_of_ble_eq_true rfl)
  rw [lg_entry_eq]
  generalize (lg_sl ([.ref b]) ++ List.replicate (4 - (lg_sl ([.ref b])).length) Slot.unset).toArray = ls at hl ⊢
  have hl : lv_has ls 4 [(0, .ref b)] := hl
  refine va_new (ci := 3) (fs := [.null, .null, .null, .null, .int 0]) (C := R_Main) (T := T_Main) (N := 5) hx hb hts in_Main ty_Main tyok_Main hown (hts _ mw_20) (hts _ mw_21) (hts _ mw_13) hK hP hD hS hA rfl (by decide) (show 0 + 1 ≤ 600000 by omega) (show 0 + 5 ≤ 7302250 by omega) d_law_0 (fun oM H hP hD hS => ?_)
  have hP : va_P (dC, dI) vwCl [(oM, .inr (3, [.null, .null, .null, .null, .int 0]))] H := hP
  have hD : va_D (fun q : Nat => s.heap.size ≤ q) [(oM, .inr (3, [.null, .null, .null, .null, .int 0]))] := hD
  refine W.widen (k := 1) (n := 5) (by omega) (by omega) ?_
  refine lv_dup hx hb d_law_3 rfl ?_
  refine lv_aload_n hx hb d_law_4 rfl (lv_at hl 0 rfl) ?_
  refine lv_iconst (v := 0) hx hb d_law_5 (by decide) ?_
  refine vp_callSi (va_Run.run (va_runS (As := [.ref b, .int 0]) (rest := [.ref oM, .ref oM]) ⟨hx, hb, hml, hown, hts⟩ (c_cell l b L xs 0 (by decide) (by omega)) ⟨xw_B 2 hts mw_333 mw_12 mw_331 rfl rfl (by decide +kernel) ⟨Nat.le_of_ble_eq_true rfl, Nat.le_of_ble_eq_true rfl⟩, hts _ mw_332⟩ ⟨fbX, fun U hU hW => ⟨rfl, hT.warm hW, by rw [hU]; exact va_X.moved hW.alike (hX.kept (hS.2.1 b hbl hbA))⟩⟩ rfl rfl hl.1 rfl (lv_room (Nat.le_of_ble_eq_true rfl)) d_law_6 ⟨Nat.le_of_ble_eq_true rfl, Nat.le_of_ble_eq_true rfl⟩)) (fun r0 hw => ?_)
  subst hw
  refine xc_I (As := [.int (F_cell L xs 0)]) (rest := [.ref oM]) (wr := []) ⟨hx, hb, hml, hown, hts⟩ hT hK hP hD hS hA (c_MainI l dC dI cI cZ oM H.size (F_cell L xs 0)) [0] [] rfl (by decide) rfl (by decide) (by decide) ⟨xw_B 1 hts mw_24 mw_13 mw_22 rfl rfl (by decide +kernel) ⟨Nat.le_of_ble_eq_true rfl, Nat.le_of_ble_eq_true rfl⟩, rfl, hts _ mw_23⟩ rfl hl.1 rfl (Nat.le_of_ble_eq_true rfl) d_law_9 ⟨show 1 + 18 ≤ 600000 by omega, show 5 + 1087 ≤ 7302250 by omega⟩ (fun u H locs hw hP hD hS => ?_)
  have hP : va_P (dC, dI) vwCl (w_Main cI cZ (F_mo (F_cell L xs 0)) oM (u 0) (u 1) (u 2) (u 3) (u 4) (u 5) (u 6) (u 7) (u 8) (u 9) (u 10) (u 11) (u 12) (u 13) (u 14) (u 15) (u 16) (u 17) (κ0 0 0) (η0 0) (η0 1) (η0 2) (η0 3) (η0 4) (η0 5) (η0 6) (η0 7) (η0 8) (κ0 0) (κ0 1) (κ0 2 0) (κ0 0) (κ0 1) (κ0 2 0) (ν0 0) (ν0 1 0) (ν0 2 0) (ν0 3 0) (ν0 4 0) (ν0 5 0)) H := hP
  have hD : va_D (fun q : Nat => s.heap.size ≤ q) (w_Main cI cZ (F_mo (F_cell L xs 0)) oM (u 0) (u 1) (u 2) (u 3) (u 4) (u 5) (u 6) (u 7) (u 8) (u 9) (u 10) (u 11) (u 12) (u 13) (u 14) (u 15) (u 16) (u 17) (κ0 0 0) (η0 0) (η0 1) (η0 2) (η0 3) (η0 4) (η0 5) (η0 6) (η0 7) (η0 8) (κ0 0) (κ0 1) (κ0 2 0) (κ0 0) (κ0 1) (κ0 2 0) (ν0 0) (ν0 1 0) (ν0 2 0) (ν0 3 0) (ν0 4 0) (ν0 5 0)) := hD
  refine W.widen (k := 19) (n := 1092) (by omega) (by omega) ?_
  refine lv_astore_n (lv' := [(1, .ref oM), (0, .ref b)]) hx hb d_law_12 rfl hl (by decide) rfl (fun ls hl => ?_)
  refine va_new (ci := 4) (fs := [.int 0, .int 0, .null, .null, .null, .null, .null, .null, .null, .null, .null, .null, .int 0, .int 0, .int 0, .null, .int 0, .int 0, .int 0, .null, .null, .int 0, .null, .int 0]) (C := R_Mod) (T := T_Mod) (N := 24) hx hb hts in_Mod ty_Mod tyok_Mod hown (hts _ mw_334) (hts _ mw_335) (hts _ mw_19) hK hP hD hS hA rfl (by decide) (show 19 + 1 ≤ 600000 by omega) (show 1092 + 24 ≤ 7302250 by omega) d_law_13 (fun dM H hP hD hS => ?_)
  have hP : va_P (dC, dI) vwCl (w_Main cI cZ (F_mo (F_cell L xs 0)) oM (u 0) (u 1) (u 2) (u 3) (u 4) (u 5) (u 6) (u 7) (u 8) (u 9) (u 10) (u 11) (u 12) (u 13) (u 14) (u 15) (u 16) (u 17) (κ0 0 0) (η0 0) (η0 1) (η0 2) (η0 3) (η0 4) (η0 5) (η0 6) (η0 7) (η0 8) (κ0 0) (κ0 1) (κ0 2 0) (κ0 0) (κ0 1) (κ0 2 0) (ν0 0) (ν0 1 0) (ν0 2 0) (ν0 3 0) (ν0 4 0) (ν0 5 0) ++ [(dM, .inr (4, [.int 0, .int 0, .null, .null, .null, .null, .null, .null, .null, .null, .null, .null, .int 0, .int 0, .int 0, .null, .int 0, .int 0, .int 0, .null, .null, .int 0, .null, .int 0]))]) H := hP
  have hD : va_D (fun q : Nat => s.heap.size ≤ q) (w_Main cI cZ (F_mo (F_cell L xs 0)) oM (u 0) (u 1) (u 2) (u 3) (u 4) (u 5) (u 6) (u 7) (u 8) (u 9) (u 10) (u 11) (u 12) (u 13) (u 14) (u 15) (u 16) (u 17) (κ0 0 0) (η0 0) (η0 1) (η0 2) (η0 3) (η0 4) (η0 5) (η0 6) (η0 7) (η0 8) (κ0 0) (κ0 1) (κ0 2 0) (κ0 0) (κ0 1) (κ0 2 0) (ν0 0) (ν0 1 0) (ν0 2 0) (ν0 3 0) (ν0 4 0) (ν0 5 0) ++ [(dM, .inr (4, [.int 0, .int 0, .null, .null, .null, .null, .null, .null, .null, .null, .null, .null, .int 0, .int 0, .int 0, .null, .int 0, .int 0, .int 0, .null, .null, .int 0, .null, .int 0]))]) := hD
  refine W.widen (k := 20) (n := 1116) (by omega) (by omega) ?_
  refine lv_dup hx hb d_law_16 rfl ?_
  refine lv_aload_n hx hb d_law_17 rfl (lv_at hl 1 rfl) ?_
  refine lv_iconst (v := 0) hx hb d_law_18 (by decide) ?_
  refine vp_callSi (va_Run.run (va_runS (As := [.ref b, .int 0]) (rest := [.ref dM, .ref dM]) ⟨hx, hb, hml, hown, hts⟩ (c_cell l b L xs 0 (by decide) (by omega)) ⟨xw_B 2 hts mw_333 mw_12 mw_331 rfl rfl (by decide +kernel) ⟨Nat.le_of_ble_eq_true rfl, Nat.le_of_ble_eq_true rfl⟩, hts _ mw_332⟩ ⟨fbX, fun U hU hW => ⟨rfl, hT.warm hW, by rw [hU]; exact va_X.moved hW.alike (hX.kept (hS.2.1 b hbl hbA))⟩⟩ rfl rfl hl.1 rfl (lv_room (Nat.le_of_ble_eq_true rfl)) d_law_19 ⟨Nat.le_of_ble_eq_true rfl, Nat.le_of_ble_eq_true rfl⟩)) (fun r1 hw => ?_)
  subst hw
  refine xc_I (As := [.int (F_cell L xs 0)]) (rest := [.ref dM]) (wr := w_Main cI cZ (F_mo (F_cell L xs 0)) oM (u 0) (u 1) (u 2) (u 3) (u 4) (u 5) (u 6) (u 7) (u 8) (u 9) (u 10) (u 11) (u 12) (u 13) (u 14) (u 15) (u 16) (u 17) (κ0 0 0) (η0 0) (η0 1) (η0 2) (η0 3) (η0 4) (η0 5) (η0 6) (η0 7) (η0 8) (κ0 0) (κ0 1) (κ0 2 0) (κ0 0) (κ0 1) (κ0 2 0) (ν0 0) (ν0 1 0) (ν0 2 0) (ν0 3 0) (ν0 4 0) (ν0 5 0)) ⟨hx, hb, hml, hown, hts⟩ hT hK hP hD hS hA (c_ModI l dC dI cI cZ dM H.size (F_cell L xs 0)) [19] [0, 1, 2, 3, 4, 5, 6, 7, 8, 9, 10, 11, 12, 13, 14, 15, 16, 17, 18] rfl (by decide) rfl (by decide) (by decide) ⟨xw_B 1 hts mw_338 mw_19 mw_336 rfl rfl (by decide +kernel) ⟨Nat.le_of_ble_eq_true rfl, Nat.le_of_ble_eq_true rfl⟩, rfl, hts _ mw_337⟩ rfl hl.1 rfl (Nat.le_of_ble_eq_true rfl) d_law_22 ⟨show 20 + 14 ≤ 600000 by omega, show 1116 + 6950 ≤ 7302250 by omega⟩ (fun v H locs hw hP hD hS => ?_)
  have hP : va_P (dC, dI) vwCl (w_Law cI cZ (F_mo (F_cell L xs 0)) oM (u 0) (u 1) (u 2) (u 3) (u 4) (u 5) (u 6) (u 7) (u 8) (u 9) (u 10) (u 11) (u 12) (u 13) (u 14) (u 15) (u 16) (u 17) dM (v 0) (v 1) (v 2) (v 3) (v 4) (v 5) (v 6) (v 7) (v 8) (v 9) (v 10) (v 11) (v 12) (v 13) (κ0 0 0) (η0 0) (η0 1) (η0 2) (η0 3) (η0 4) (η0 5) (η0 6) (η0 7) (η0 8) (κ0 0) (κ0 1) (κ0 2 0) (κ0 0) (κ0 1) (κ0 2 0) (ν0 0) (ν0 1 0) (ν0 2 0) (ν0 3 0) (ν0 4 0) (ν0 5 0) ((ρ0 (F_mo (F_cell L xs 0))) 0) ((ρ0 (F_mo (F_cell L xs 0))) 1) ((ρ0 (F_mo (F_cell L xs 0))) 2) ((ρ0 (F_mo (F_cell L xs 0))) 3) ((ρ0 (F_mo (F_cell L xs 0))) 4) ((ρ0 (F_mo (F_cell L xs 0))) 5) ((ρ0 (F_mo (F_cell L xs 0))) 6) ((ρ0 (F_mo (F_cell L xs 0))) 7) ((ρ0 (F_mo (F_cell L xs 0))) 8) ((ρ0 (F_mo (F_cell L xs 0))) 9) ((ρ0 (F_mo (F_cell L xs 0))) 10) ((ρ0 (F_mo (F_cell L xs 0))) 11) ((ρ0 (F_mo (F_cell L xs 0))) 12) ((ρ0 (F_mo (F_cell L xs 0))) 13) ((ρ0 (F_mo (F_cell L xs 0))) 14 0) ((ρ0 (F_mo (F_cell L xs 0))) 15 0) ((ρ0 (F_mo (F_cell L xs 0))) 16 0) ((ρ0 (F_mo (F_cell L xs 0))) 17 0) ((ρ0 (F_mo (F_cell L xs 0))) 18 0) ((ρ0 (F_mo (F_cell L xs 0))) 19 0) ((ρ0 (F_mo (F_cell L xs 0))) 20 0) ((ρ0 (F_mo (F_cell L xs 0))) 21 0) ((ρ0 (F_mo (F_cell L xs 0))) 22 0) ((ρ0 (F_mo (F_cell L xs 0))) 23 0)) H := hP
  have hD : va_D (fun q : Nat => s.heap.size ≤ q) (w_Law cI cZ (F_mo (F_cell L xs 0)) oM (u 0) (u 1) (u 2) (u 3) (u 4) (u 5) (u 6) (u 7) (u 8) (u 9) (u 10) (u 11) (u 12) (u 13) (u 14) (u 15) (u 16) (u 17) dM (v 0) (v 1) (v 2) (v 3) (v 4) (v 5) (v 6) (v 7) (v 8) (v 9) (v 10) (v 11) (v 12) (v 13) (κ0 0 0) (η0 0) (η0 1) (η0 2) (η0 3) (η0 4) (η0 5) (η0 6) (η0 7) (η0 8) (κ0 0) (κ0 1) (κ0 2 0) (κ0 0) (κ0 1) (κ0 2 0) (ν0 0) (ν0 1 0) (ν0 2 0) (ν0 3 0) (ν0 4 0) (ν0 5 0) ((ρ0 (F_mo (F_cell L xs 0))) 0) ((ρ0 (F_mo (F_cell L xs 0))) 1) ((ρ0 (F_mo (F_cell L xs 0))) 2) ((ρ0 (F_mo (F_cell L xs 0))) 3) ((ρ0 (F_mo (F_cell L xs 0))) 4) ((ρ0 (F_mo (F_cell L xs 0))) 5) ((ρ0 (F_mo (F_cell L xs 0))) 6) ((ρ0 (F_mo (F_cell L xs 0))) 7) ((ρ0 (F_mo (F_cell L xs 0))) 8) ((ρ0 (F_mo (F_cell L xs 0))) 9) ((ρ0 (F_mo (F_cell L xs 0))) 10) ((ρ0 (F_mo (F_cell L xs 0))) 11) ((ρ0 (F_mo (F_cell L xs 0))) 12) ((ρ0 (F_mo (F_cell L xs 0))) 13) ((ρ0 (F_mo (F_cell L xs 0))) 14 0) ((ρ0 (F_mo (F_cell L xs 0))) 15 0) ((ρ0 (F_mo (F_cell L xs 0))) 16 0) ((ρ0 (F_mo (F_cell L xs 0))) 17 0) ((ρ0 (F_mo (F_cell L xs 0))) 18 0) ((ρ0 (F_mo (F_cell L xs 0))) 19 0) ((ρ0 (F_mo (F_cell L xs 0))) 20 0) ((ρ0 (F_mo (F_cell L xs 0))) 21 0) ((ρ0 (F_mo (F_cell L xs 0))) 22 0) ((ρ0 (F_mo (F_cell L xs 0))) 23 0)) := hD
  refine W.widen (k := 34) (n := 8066) (by omega) (by omega) ?_
  refine lv_astore_n (lv' := [(2, .ref dM), (1, .ref oM), (0, .ref b)]) hx hb d_law_25 rfl hl (by decide) rfl (fun ls hl => ?_)
  refine lv_iconst (v := 1) hx hb d_law_26 (by decide) ?_
  refine lv_istore_n (lv' := [(3, .int 1), (2, .ref dM), (1, .ref oM), (0, .ref b)]) hx hb d_law_27 rfl hl (by decide) rfl (fun ls hl => ?_)
  exact law_loop hL C0 hK 600 0 _ _ _ _ _ _ ls (by omega) (li_0 (F_cell L xs 0)) (fun _ => mk_0 _) (by omega) H locs hP hD hS (lv_sub hl [3, 2, 1, 0] rfl)
