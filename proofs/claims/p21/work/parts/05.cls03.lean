def F_mayG (η : SS) (q1 : Int32) : Int32 :=
  if (η 4 q1.toNatClampNeg) = (-1) then
    if (η 5 q1.toNatClampNeg) = (-1) then
      0
    else
      if (η 7 q1.toNatClampNeg) = (-1) then
        1
      else
        0
  else
    0
set_option maxHeartbeats 4000000 in
set_option maxRecDepth 100000 in
theorem c_mayG (l : Launch) (dC : Nat → ClassId) (dI : Nat → Nat → Nat) (cI cZ : ClassId) (hH hH0 hH1 hH2 hH3 hH4 hH5 hH6 hH7 hH8 : Nat) (η : SS) (q1 : Int32) (hi : vp_in q1 60) : Met l y_mayG [Cond.code y_mayG prog_2_method_8_code 2 (some .boolean)] ({ frames := 0, cells := 0, slots := 0, locals := 0 }) (pcR (dC, dI) (w_House cI cZ hH hH0 hH1 hH2 hH3 hH4 hH5 hH6 hH7 hH8 (η 0) (η 1) (η 2) (η 3) (η 4) (η 5) (η 6) (η 7) (η 8)) (tyC cI cZ) [.ref hH, .int q1]) (vp_Si (fun r => r = F_mayG η q1)) 0 0 (fun _ => False) := by
  refine Met.ofW (cc := prog_2_method_8_code) (maxL := 2) (ret := (some .boolean)) (by decide) rfl ?_
  intro p e s m args below meth c s₁ B hml hv
  obtain ⟨rfl, hT, hP, hK⟩ := hv
  have hx := B.exec
  have hb := B.bytes
  have hr := B.returns
  have hts : ∀ w ∈ lw_ok, w.before ([.ref hH, .int q1] : List Value).toArray s = true := hT.use
  have hown : s.vm.findClass R_House = some m.cls := findClass_of_methodNamed B.named
  have hlocks := B.notSynchronized
  have hl := lv_entry ([.ref hH, .int q1]) (n := 2) (Nat.le_of_ble_eq_true rfl)
  rw [lg_entry_eq]
  generalize (lg_sl ([.ref hH, .int q1]) ++ List.replicate (2 - (lg_sl ([.ref hH, .int q1])).length) Slot.unset).toArray = ls at hl ⊢
  have hl : lv_has ls 2 [(0, .ref hH), (1, .int q1)] := hl
  refine lv_aload_n hx hb d_mayG_0 rfl (lv_at hl 0 rfl) ?_
  refine va_get (D := (dC, dI)) (ci := 0) (v := .ref hH4) (C := R_House) (T := T_House) (N := 9) hx hb hts in_House hown hK hP 0 rfl rfl 4 (by decide) (hts _ mw_51) (fun _ h9 => h9) rfl d_mayG_1 ?_
  refine lv_iload_n hx hb d_mayG_4 rfl (lv_at hl 1 rfl) ?_
  refine va_iald (n := 60) (f := η 4) hx hb hK hP 5 0 rfl rfl (i := q1) (by first | assumption) d_mayG_5 ?_
  refine lv_iconst (v := -1) hx hb d_mayG_6 (by decide) ?_
  refine lv_icmp_ne (tgt := 34) hx hb d_mayG_7 (by decide) (fun c_1 => ?_) (fun c_1 => ?_)
  · refine lv_iconst (v := 0) hx hb d_mayG_34 (by decide) ?_
    have hF : F_mayG η q1 = 0 := (if_neg c_1).trans rfl
    exact W.zret (ty := .boolean) (v := 0) hx hb hr (by decide) (fun t ht hW => ⟨0, rfl, hF.symm, ht⟩) (fun _ h => absurd h List.not_mem_nil) d_mayG_35
  · refine lv_aload_n hx hb d_mayG_10 rfl (lv_at hl 0 rfl) ?_
    refine va_get (D := (dC, dI)) (ci := 0) (v := .ref hH5) (C := R_House) (T := T_House) (N := 9) hx hb hts in_House hown hK hP 0 rfl rfl 5 (by decide) (hts _ mw_53) (fun _ h9 => h9) rfl d_mayG_11 ?_
    refine lv_iload_n hx hb d_mayG_14 rfl (lv_at hl 1 rfl) ?_
    refine va_iald (n := 60) (f := η 5) hx hb hK hP 6 0 rfl rfl (i := q1) (by first | assumption) d_mayG_15 ?_
    refine lv_iconst (v := -1) hx hb d_mayG_16 (by decide) ?_
    refine lv_icmp_eq (tgt := 34) hx hb d_mayG_17 (by decide) (fun c_2 => ?_) (fun c_2 => ?_)
    · refine lv_iconst (v := 0) hx hb d_mayG_34 (by decide) ?_
      have hF : F_mayG η q1 = 0 := (if_pos c_1).trans ((if_pos c_2).trans rfl)
      exact W.zret (ty := .boolean) (v := 0) hx hb hr (by decide) (fun t ht hW => ⟨0, rfl, hF.symm, ht⟩) (fun _ h => absurd h List.not_mem_nil) d_mayG_35
    · refine lv_aload_n hx hb d_mayG_20 rfl (lv_at hl 0 rfl) ?_
      refine va_get (D := (dC, dI)) (ci := 0) (v := .ref hH7) (C := R_House) (T := T_House) (N := 9) hx hb hts in_House hown hK hP 0 rfl rfl 7 (by decide) (hts _ mw_57) (fun _ h9 => h9) rfl d_mayG_21 ?_
      refine lv_iload_n hx hb d_mayG_24 rfl (lv_at hl 1 rfl) ?_
      refine va_iald (n := 60) (f := η 7) hx hb hK hP 8 0 rfl rfl (i := q1) (by first | assumption) d_mayG_25 ?_
      refine lv_iconst (v := -1) hx hb d_mayG_26 (by decide) ?_
      refine lv_icmp_ne (tgt := 34) hx hb d_mayG_27 (by decide) (fun c_3 => ?_) (fun c_3 => ?_)
      · refine lv_iconst (v := 0) hx hb d_mayG_34 (by decide) ?_
        have hF : F_mayG η q1 = 0 := (if_pos c_1).trans ((if_neg c_2).trans ((if_neg c_3).trans rfl))
        exact W.zret (ty := .boolean) (v := 0) hx hb hr (by decide) (fun t ht hW => ⟨0, rfl, hF.symm, ht⟩) (fun _ h => absurd h List.not_mem_nil) d_mayG_35
      · refine lv_iconst (v := 1) hx hb d_mayG_30 (by decide) ?_
        refine lv_goto (tgt := 35) hx hb d_mayG_31 (by decide) ?_
        have hF : F_mayG η q1 = 1 := (if_pos c_1).trans ((if_neg c_2).trans ((if_pos c_3).trans rfl))
        exact W.zret (ty := .boolean) (v := 1) hx hb hr (by decide) (fun t ht hW => ⟨1, rfl, hF.symm, ht⟩) (fun _ h => absurd h List.not_mem_nil) d_mayG_35
set_option maxHeartbeats 4000000 in
set_option maxRecDepth 100000 in
theorem lp_fel {p : Program} {l : Launch} {e : Env} {R : Room} {s : State} {m : MethodId} {args : Array Value} {below : List Frame} {meth : Method} {c : Code} {Q : State → Prop} {cells slots : Nat} {H : Heap} {locs : List Loc} {dC : Nat → ClassId} {dI : Nat → Nat → Nat} {cI cZ : ClassId} {hH hH0 hH1 hH2 hH3 hH4 hH5 hH6 hH7 hH8 : Nat} {η : SS} (hx : p.tables.exec = Jvm.exec) (hb : c.code = prog_2_method_9_code) (hml : c.maxLocals = 2) (hT : TBL s) (hts : ∀ w ∈ lw_ok, w.before args s = true) (hown : s.vm.findClass R_House = some m.cls) (hK : va_K (dC, dI) vwCl (tyC cI cZ) s) (hP : va_P (dC, dI) vwCl (w_House cI cZ hH hH0 hH1 hH2 hH3 hH4 hH5 hH6 hH7 hH8 (η 0) (η 1) (η 2) (η 3) (η 4) (η 5) (η 6) (η 7) (η 8)) H) (kf : ∀ (i : Nat) (ls : Array Slot), fst_from (η 8) 10 0 = nI i → lv_has ls 2 [(0, .ref hH), (1, .int (nI i))] → W p l e R s m args below meth c H locs cells slots Q (F0 m 18 ls [])) (kn : ∀ (ls : Array Slot), fst_from (η 8) 10 0 = -1 → lv_has ls 2 [(0, .ref hH), (1, .int (nI 10))] → W p l e R s m args below meth c H locs cells slots Q (F0 m 26 ls [])) : ∀ (n : Nat) (i : Nat) (ls : Array Slot), (i ≤ 10) → (fst_from (η 8) 10 0 = fst_from (η 8) (10 - i) i) → 10 + 1 ≤ i + n → lv_has ls 2 [(0, .ref hH), (1, .int (nI i))] → W p l e R s m args below meth c H locs cells slots Q (F0 m 2 ls []) := by
  intro n
  induction n with
  | zero => intro i ls hi hv hfu; exact absurd hfu (by omega)
  | succ n ih =>
    intro i ls hi hv hfu hl
    refine lv_iload_n hx hb d_fel_2 rfl (lv_at hl 1 rfl) ?_
    refine lv_bipush (v := 10) hx hb d_fel_3 (by decide) ?_
    refine lv_icmp_ge (tgt := 26) hx hb d_fel_5 (by decide) (fun c_4 => ?_) (fun c_4 => ?_)
    · have hi10 : i = 10 := by
        rcases Nat.lt_or_ge i 10 with h | h
        · exact absurd c_4 (nI_ge h (by decide))
        · omega
      subst hi10
      exact kn ls hv hl
    · have hlt : i < 10 := lt_nle (N := 10) (by decide) (by omega) c_4
      refine lv_aload_n hx hb d_fel_8 rfl (lv_at hl 0 rfl) ?_
      refine va_get (D := (dC, dI)) (ci := 0) (v := .ref hH8) (C := R_House) (T := T_House) (N := 9) hx hb hts in_House hown hK hP 0 rfl rfl 8 (by decide) (hts _ mw_59) (fun _ h9 => h9) rfl d_fel_9 ?_
      refine lv_iload_n hx hb d_fel_12 rfl (lv_at hl 1 rfl) ?_
      refine va_iald (n := 10) (f := η 8) hx hb hK hP 9 0 rfl rfl (i := nI i) (vp_in_nI hlt (by decide)) d_fel_13 ?_
      refine lv_iconst (v := -1) hx hb d_fel_14 (by decide) ?_
      refine lv_icmp_ne (tgt := 20) hx hb d_fel_15 (by decide) (fun c_5 => ?_) (fun c_5 => ?_)
      · refine lv_iinc (v := nI (i + 1)) (lv' := [(1, .int (nI (i + 1))), (0, .ref hH)]) hx hb d_fel_20 hl (k := 1) rfl (nI_1 _) (by decide) rfl (fun ls hl => ?_)
        refine lv_goto (tgt := 2) hx hb d_fel_23 (by decide) ?_
        have hc := c_5
        rw [nI_clamp (show i < 2 ^ 31 by omega)] at hc
        refine ih (i + 1) ls (by omega) ?_ (by omega) (lv_sub hl [1, 0] rfl)
        rw [hv, show 10 - i = (10 - (i + 1)) + 1 by omega]
        exact if_neg hc
      · have hc := c_5
        rw [nI_clamp (show i < 2 ^ 31 by omega)] at hc
        refine kf i ls ?_ hl
        rw [hv, show 10 - i = (10 - (i + 1)) + 1 by omega]
        exact if_pos hc
def F_fel (η : SS) : Int32 :=
  fst_from (η 8) 10 0
set_option maxHeartbeats 4000000 in
set_option maxRecDepth 100000 in
theorem c_fel (l : Launch) (dC : Nat → ClassId) (dI : Nat → Nat → Nat) (cI cZ : ClassId) (hH hH0 hH1 hH2 hH3 hH4 hH5 hH6 hH7 hH8 : Nat) (η : SS) : Met l y_fel [Cond.code y_fel prog_2_method_9_code 2 (some .int)] ({ frames := 0, cells := 0, slots := 0, locals := 0 }) (pcR (dC, dI) (w_House cI cZ hH hH0 hH1 hH2 hH3 hH4 hH5 hH6 hH7 hH8 (η 0) (η 1) (η 2) (η 3) (η 4) (η 5) (η 6) (η 7) (η 8)) (tyC cI cZ) [.ref hH]) (vp_Si (fun r => r = F_fel η)) 0 0 (fun _ => False) := by
  refine Met.ofW (cc := prog_2_method_9_code) (maxL := 2) (ret := (some .int)) (by decide) rfl ?_
  intro p e s m args below meth c s₁ B hml hv
  obtain ⟨rfl, hT, hP, hK⟩ := hv
  have hx := B.exec
  have hb := B.bytes
  have hr := B.returns
  have hts : ∀ w ∈ lw_ok, w.before ([.ref hH] : List Value).toArray s = true := hT.use
  have hown : s.vm.findClass R_House = some m.cls := findClass_of_methodNamed B.named
  have hlocks := B.notSynchronized
  have hl := lv_entry ([.ref hH]) (n := 2) (Nat.le_of_ble_eq_true rfl)
  rw [lg_entry_eq]
  generalize (lg_sl ([.ref hH]) ++ List.replicate (2 - (lg_sl ([.ref hH])).length) Slot.unset).toArray = ls at hl ⊢
  have hl : lv_has ls 2 [(0, .ref hH)] := hl
  refine lv_iconst (v := 0) hx hb d_fel_0 (by decide) ?_
  refine lv_istore_n (lv' := [(1, .int 0), (0, .ref hH)]) hx hb d_fel_1 rfl hl (by decide) rfl (fun ls hl => ?_)
  refine lp_fel hx hb hml hT hts hown hK hP (fun i ls hv hl => ?_) (fun ls hv hl => ?_) 11 0 ls (by omega) rfl (by omega) (lv_sub hl [1, 0] rfl)
  · refine lv_iload_n hx hb d_fel_18 rfl (lv_at hl 1 rfl) ?_
    have hF : F_fel η = nI i := hv
    exact W.iret (v := nI i) hx hb hr (fun t ht hW => ⟨nI i, rfl, hF.symm, ht⟩) (fun _ h => absurd h List.not_mem_nil) d_fel_19
  · refine lv_iconst (v := -1) hx hb d_fel_26 (by decide) ?_
    have hF : F_fel η = -1 := hv
    exact W.iret (v := -1) hx hb hr (fun t ht hW => ⟨-1, rfl, hF.symm, ht⟩) (fun _ h => absurd h List.not_mem_nil) d_fel_27
def F_isFull (mo : Nat) (κ : SS) : Int32 :=
  if (κ 2 0) < (nI mo) then
    0
  else
    1
set_option maxHeartbeats 4000000 in
set_option maxRecDepth 100000 in
theorem c_isFull (l : Launch) (dC : Nat → ClassId) (dI : Nat → Nat → Nat) (cI cZ : ClassId) (mo : Nat) (kR kR0 kR1 : Nat) (κ : SS) : Met l y_isFull [Cond.code y_isFull prog_3_method_2_code 1 (some .boolean)] ({ frames := 0, cells := 0, slots := 0, locals := 0 }) (pcR (dC, dI) (w_Row cI cZ mo kR kR0 kR1 (κ 0) (κ 1) (κ 2 0)) (tyC cI cZ) [.ref kR]) (vp_Si (fun r => r = F_isFull mo κ)) 0 0 (fun _ => False) := by
  refine Met.ofW (cc := prog_3_method_2_code) (maxL := 1) (ret := (some .boolean)) (by decide) rfl ?_
  intro p e s m args below meth c s₁ B hml hv
  obtain ⟨rfl, hT, hP, hK⟩ := hv
  have hx := B.exec
  have hb := B.bytes
  have hr := B.returns
  have hts : ∀ w ∈ lw_ok, w.before ([.ref kR] : List Value).toArray s = true := hT.use
  have hown : s.vm.findClass R_Row = some m.cls := findClass_of_methodNamed B.named
  have hlocks := B.notSynchronized
  have hl := lv_entry ([.ref kR]) (n := 1) (Nat.le_of_ble_eq_true rfl)
  rw [lg_entry_eq]
  generalize (lg_sl ([.ref kR]) ++ List.replicate (1 - (lg_sl ([.ref kR])).length) Slot.unset).toArray = ls at hl ⊢
  have hl : lv_has ls 1 [(0, .ref kR)] := hl
  refine lv_aload_n hx hb d_isFull_0 rfl (lv_at hl 0 rfl) ?_
  refine va_get (D := (dC, dI)) (ci := 1) (v := .int (κ 2 0)) (C := R_Row) (T := T_Row) (N := 3) hx hb hts in_Row hown hK hP 0 rfl rfl 2 (by decide) (hts _ mw_93) (fun _ h9 => h9) rfl d_isFull_1 ?_
  refine lv_aload_n hx hb d_isFull_4 rfl (lv_at hl 0 rfl) ?_
  refine va_get (D := (dC, dI)) (ci := 1) (v := .ref kR0) (C := R_Row) (T := T_Row) (N := 3) hx hb hts in_Row hown hK hP 0 rfl rfl 0 (by decide) (hts _ mw_89) (fun _ h9 => h9) rfl d_isFull_5 ?_
  refine va_alen (v := nI mo) hx hb hK hP 1 0 rfl rfl rfl d_isFull_8 ?_
  refine lv_icmp_lt (tgt := 16) hx hb d_isFull_9 (by decide) (fun c_1 => ?_) (fun c_1 => ?_)
  · refine lv_iconst (v := 0) hx hb d_isFull_16 (by decide) ?_
    have hF : F_isFull mo κ = 0 := (if_pos c_1).trans rfl
    exact W.zret (ty := .boolean) (v := 0) hx hb hr (by decide) (fun t ht hW => ⟨0, rfl, hF.symm, ht⟩) (fun _ h => absurd h List.not_mem_nil) d_isFull_17
  · refine lv_iconst (v := 1) hx hb d_isFull_12 (by decide) ?_
    refine lv_goto (tgt := 17) hx hb d_isFull_13 (by decide) ?_
    have hF : F_isFull mo κ = 1 := (if_neg c_1).trans rfl
    exact W.zret (ty := .boolean) (v := 1) hx hb hr (by decide) (fun t ht hW => ⟨1, rfl, hF.symm, ht⟩) (fun _ h => absurd h List.not_mem_nil) d_isFull_17
def F_isLend (mo : Nat) (κ : SS) (q1 : Int32) : Int32 :=
  if (κ 1 q1.toNatClampNeg) = (-1) then
    0
  else
    1
set_option maxHeartbeats 4000000 in
set_option maxRecDepth 100000 in
theorem c_isLend (l : Launch) (dC : Nat → ClassId) (dI : Nat → Nat → Nat) (cI cZ : ClassId) (mo : Nat) (kR kR0 kR1 : Nat) (κ : SS) (q1 : Int32) (hi : vp_in q1 mo) : Met l y_isLend [Cond.code y_isLend prog_3_method_3_code 2 (some .boolean)] ({ frames := 0, cells := 0, slots := 0, locals := 0 }) (pcR (dC, dI) (w_Row cI cZ mo kR kR0 kR1 (κ 0) (κ 1) (κ 2 0)) (tyC cI cZ) [.ref kR, .int q1]) (vp_Si (fun r => r = F_isLend mo κ q1)) 0 0 (fun _ => False) := by
  refine Met.ofW (cc := prog_3_method_3_code) (maxL := 2) (ret := (some .boolean)) (by decide) rfl ?_
  intro p e s m args below meth c s₁ B hml hv
  obtain ⟨rfl, hT, hP, hK⟩ := hv
  have hx := B.exec
  have hb := B.bytes
  have hr := B.returns
  have hts : ∀ w ∈ lw_ok, w.before ([.ref kR, .int q1] : List Value).toArray s = true := hT.use
  have hown : s.vm.findClass R_Row = some m.cls := findClass_of_methodNamed B.named
  have hlocks := B.notSynchronized
  have hl := lv_entry ([.ref kR, .int q1]) (n := 2) (Nat.le_of_ble_eq_true rfl)
  rw [lg_entry_eq]
  generalize (lg_sl ([.ref kR, .int q1]) ++ List.replicate (2 - (lg_sl ([.ref kR, .int q1])).length) Slot.unset).toArray = ls at hl ⊢
  have hl : lv_has ls 2 [(0, .ref kR), (1, .int q1)] := hl
  refine lv_aload_n hx hb d_isLend_0 rfl (lv_at hl 0 rfl) ?_
  refine va_get (D := (dC, dI)) (ci := 1) (v := .ref kR1) (C := R_Row) (T := T_Row) (N := 3) hx hb hts in_Row hown hK hP 0 rfl rfl 1 (by decide) (hts _ mw_91) (fun _ h9 => h9) rfl d_isLend_1 ?_
  refine lv_iload_n hx hb d_isLend_4 rfl (lv_at hl 1 rfl) ?_
  refine va_iald (n := mo) (f := κ 1) hx hb hK hP 2 0 rfl rfl (i := q1) (by first | assumption) d_isLend_5 ?_
  refine lv_iconst (v := -1) hx hb d_isLend_6 (by decide) ?_
  refine lv_icmp_eq (tgt := 14) hx hb d_isLend_7 (by decide) (fun c_1 => ?_) (fun c_1 => ?_)
  · refine lv_iconst (v := 0) hx hb d_isLend_14 (by decide) ?_
    have hF : F_isLend mo κ q1 = 0 := (if_pos c_1).trans rfl
    exact W.zret (ty := .boolean) (v := 0) hx hb hr (by decide) (fun t ht hW => ⟨0, rfl, hF.symm, ht⟩) (fun _ h => absurd h List.not_mem_nil) d_isLend_15
  · refine lv_iconst (v := 1) hx hb d_isLend_10 (by decide) ?_
    refine lv_goto (tgt := 15) hx hb d_isLend_11 (by decide) ?_
    have hF : F_isLend mo κ q1 = 1 := (if_neg c_1).trans rfl
    exact W.zret (ty := .boolean) (v := 1) hx hb hr (by decide) (fun t ht hW => ⟨1, rfl, hF.symm, ht⟩) (fun _ h => absurd h List.not_mem_nil) d_isLend_15
theorem in_full {mo : Nat} {κ : SS} (hmo : mo ≤ 100) (hkc : ∃ kc : Nat, kc ≤ mo ∧ κ 2 0 = nI kc) (h : F_isFull mo κ = 0) : vp_in (κ 2 0) mo := by
  obtain ⟨kc, h1, h2⟩ := hkc
  unfold F_isFull at h
  by_cases h0 : κ 2 0 < nI mo
  · rw [h2] at h0 ⊢
    exact vp_in_nI ((nI_ltI (by omega) (by omega)).mp h0) (by omega)
  · rw [if_neg h0] at h
    exact absurd h (by decide)
theorem b01_full {mo : Nat} {κ : SS} : F_isFull mo κ = 0 ∨ F_isFull mo κ = 1 := by unfold F_isFull; split <;> simp
def F_rAdd (mo : Nat) (κ : SS) (q1 : Int32) (q2 : Int32) : SS :=
  if (F_isFull mo κ) = 0 then
    (ss (ss (ss κ 0 (upd (κ 0) (κ 2 0).toNatClampNeg q1)) 1 (upd (κ 1) (κ 2 0).toNatClampNeg q2)) 2 (fun _ => (κ 2 0) + 1))
  else
    κ
set_option maxHeartbeats 4000000 in
set_option maxRecDepth 100000 in
theorem c_rAdd (l : Launch) (dC : Nat → ClassId) (dI : Nat → Nat → Nat) (cI cZ : ClassId) (mo : Nat) (kR kR0 kR1 : Nat) (sz : Nat) (κ : SS) (q1 : Int32) (q2 : Int32) (hmo : mo ≤ 100) (hkc : ∃ kc : Nat, kc ≤ mo ∧ κ 2 0 = nI kc) : Met l y_rAdd [Cond.code y_rAdd prog_3_method_4_code 3 none] ({ frames := 1, cells := 0, slots := 0, locals := 20 }) (pcW (dC, dI) (w_Row cI cZ mo kR kR0 kR1 (κ 0) (κ 1) (κ 2 0)) (tyC cI cZ) sz [.ref kR, .int q1, .int q2]) (qV (fun u => u = F_rAdd mo κ q1 q2) (dC, dI) (fun u : SS => w_Row cI cZ mo kR kR0 kR1 (u 0) (u 1) (u 2 0)) (va_A (w_Row cI cZ mo kR kR0 kR1 (κ 0) (κ 1) (κ 2 0)) sz)) 0 0 (va_A (w_Row cI cZ mo kR kR0 kR1 (κ 0) (κ 1) (κ 2 0)) sz) := by
  refine Met.ofW (cc := prog_3_method_4_code) (maxL := 3) (ret := none) (by decide) rfl ?_
  intro p e s m args below meth c s₁ B hml hv
  obtain ⟨rfl, hsz, hT, hP, hK, hD0⟩ := hv
  have hx := B.exec
  have hb := B.bytes
  have hr := B.returns
  have hts : ∀ w ∈ lw_ok, w.before ([.ref kR, .int q1, .int q2] : List Value).toArray s = true := hT.use
  have hown : s.vm.findClass R_Row = some m.cls := findClass_of_methodNamed B.named
  have hlocks := B.notSynchronized
  subst hsz
  have hD := hD0.self (sz := s.heap.size)
  generalize hAe : va_A (w_Row cI cZ mo kR kR0 kR1 (κ 0) (κ 1) (κ 2 0)) s.heap.size = A at hD ⊢
  have hA : ∀ q : Nat, s.heap.size ≤ q → A q := fun q h => by rw [← hAe]; exact Or.inr h
  have hS : va_S A s.heap s.heap [] := va_S.rf
  have hl := lv_entry ([.ref kR, .int q1, .int q2]) (n := 3) (Nat.le_of_ble_eq_true rfl)
  rw [lg_entry_eq]
  generalize (lg_sl ([.ref kR, .int q1, .int q2]) ++ List.replicate (3 - (lg_sl ([.ref kR, .int q1, .int q2])).length) Slot.unset).toArray = ls at hl ⊢
  have hl : lv_has ls 3 [(0, .ref kR), (1, .int q1), (2, .int q2)] := hl
  refine lv_aload_n hx hb d_rAdd_0 rfl (lv_at hl 0 rfl) ?_
  refine xc_VR (As := []) (rest := []) (ci := 1) ⟨hx, hb, hml, hown, hts⟩ hT hK hP (c_isFull l dC dI cI cZ mo kR kR0 kR1 κ) [0, 1, 2] rfl (xw_V 0 hts mw_219 mw_17 mw_233 mw_217 mw_218 rfl rfl (by decide +kernel) ⟨Nat.le_of_ble_eq_true rfl, Nat.le_of_ble_eq_true rfl⟩) rfl rfl rfl hl.1 rfl (Nat.le_of_ble_eq_true rfl) d_rAdd_1 ⟨Nat.zero_le _, Nat.zero_le _⟩ (fun r hw => ?_)
  subst hw
  refine lv_if_eq (tgt := 8) hx hb d_rAdd_4 (by decide) (fun c_1 => ?_) (fun c_1 => ?_)
  · refine lv_aload_n hx hb d_rAdd_8 rfl (lv_at hl 0 rfl) ?_
    refine va_get (D := (dC, dI)) (ci := 1) (v := .ref kR0) (C := R_Row) (T := T_Row) (N := 3) hx hb hts in_Row hown hK hP 0 rfl rfl 0 (by decide) (hts _ mw_89) (fun _ h9 => h9) rfl d_rAdd_9 ?_
    refine lv_aload_n hx hb d_rAdd_12 rfl (lv_at hl 0 rfl) ?_
    refine va_get (D := (dC, dI)) (ci := 1) (v := .int (κ 2 0)) (C := R_Row) (T := T_Row) (N := 3) hx hb hts in_Row hown hK hP 0 rfl rfl 2 (by decide) (hts _ mw_93) (fun _ h9 => h9) rfl d_rAdd_13 ?_
    refine lv_iload_n hx hb d_rAdd_16 rfl (lv_at hl 1 rfl) ?_
    refine va_iast (n := mo) (f := κ 0) hx hb hK hP hD hS 1 0 rfl rfl (i := κ 2 0) (x := q1) (by first | assumption | exact (in_full hmo hkc ‹_›)) d_rAdd_17 (fun H locs hP hD hS => ?_)
    have hP : va_P (dC, dI) vwCl (w_Row cI cZ mo kR kR0 kR1 (upd (κ 0) (κ 2 0).toNatClampNeg q1) (κ 1) (κ 2 0)) H := hP
    have hD : va_D A (w_Row cI cZ mo kR kR0 kR1 (upd (κ 0) (κ 2 0).toNatClampNeg q1) (κ 1) (κ 2 0)) := hD
    refine lv_aload_n hx hb d_rAdd_18 rfl (lv_at hl 0 rfl) ?_
    refine va_get (D := (dC, dI)) (ci := 1) (v := .ref kR1) (C := R_Row) (T := T_Row) (N := 3) hx hb hts in_Row hown hK hP 0 rfl rfl 1 (by decide) (hts _ mw_91) (fun _ h9 => h9) rfl d_rAdd_19 ?_
    refine lv_aload_n hx hb d_rAdd_22 rfl (lv_at hl 0 rfl) ?_
    refine va_get (D := (dC, dI)) (ci := 1) (v := .int (κ 2 0)) (C := R_Row) (T := T_Row) (N := 3) hx hb hts in_Row hown hK hP 0 rfl rfl 2 (by decide) (hts _ mw_93) (fun _ h9 => h9) rfl d_rAdd_23 ?_
    refine lv_iload_n hx hb d_rAdd_26 rfl (lv_at hl 2 rfl) ?_
    refine va_iast (n := mo) (f := κ 1) hx hb hK hP hD hS 2 0 rfl rfl (i := κ 2 0) (x := q2) (by first | assumption | exact (in_full hmo hkc ‹_›)) d_rAdd_27 (fun H locs hP hD hS => ?_)
    have hP : va_P (dC, dI) vwCl (w_Row cI cZ mo kR kR0 kR1 (upd (κ 0) (κ 2 0).toNatClampNeg q1) (upd (κ 1) (κ 2 0).toNatClampNeg q2) (κ 2 0)) H := hP
    have hD : va_D A (w_Row cI cZ mo kR kR0 kR1 (upd (κ 0) (κ 2 0).toNatClampNeg q1) (upd (κ 1) (κ 2 0).toNatClampNeg q2) (κ 2 0)) := hD
    refine lv_aload_n hx hb d_rAdd_28 rfl (lv_at hl 0 rfl) ?_
    refine lv_dup hx hb d_rAdd_29 rfl ?_
    refine va_get (D := (dC, dI)) (ci := 1) (v := .int (κ 2 0)) (C := R_Row) (T := T_Row) (N := 3) hx hb hts in_Row hown hK hP 0 rfl rfl 2 (by decide) (hts _ mw_93) (fun _ h9 => h9) rfl d_rAdd_30 ?_
    refine lv_iconst (v := 1) hx hb d_rAdd_33 (by decide) ?_
    refine lv_iadd hx hb d_rAdd_34 ?_
    refine va_put (D := (dC, dI)) (ci := 1) (v := .int ((κ 2 0) + 1)) (ty := .int) (C := R_Row) (T := T_Row) (N := 3) hx hb hts in_Row ty_Row tyok_Row nm_Row hown hK hP hD hS 0 rfl rfl 2 (by decide) (hts _ mw_93) (fun _ h9 => h9) rfl (by decide +kernel) rfl rfl (Nat.le_of_ble_eq_true rfl) d_rAdd_35 (fun H locs hP hD hS => ?_)
    have hP : va_P (dC, dI) vwCl (w_Row cI cZ mo kR kR0 kR1 (upd (κ 0) (κ 2 0).toNatClampNeg q1) (upd (κ 1) (κ 2 0).toNatClampNeg q2) ((κ 2 0) + 1)) H := hP
    have hD : va_D A (w_Row cI cZ mo kR kR0 kR1 (upd (κ 0) (κ 2 0).toNatClampNeg q1) (upd (κ 1) (κ 2 0).toNatClampNeg q2) ((κ 2 0) + 1)) := hD
    have hF : F_rAdd mo κ q1 q2 = (ss (ss (ss κ 0 (upd (κ 0) (κ 2 0).toNatClampNeg q1)) 1 (upd (κ 1) (κ 2 0).toNatClampNeg q2)) 2 (fun _ => (κ 2 0) + 1)) := (if_pos c_1).trans rfl
    exact W.vret hx hb hr (fun t ht hW => ⟨⟨(ss (ss (ss κ 0 (upd (κ 0) (κ 2 0).toNatClampNeg q1)) 1 (upd (κ 1) (κ 2 0).toNatClampNeg q2)) 2 (fun _ => (κ 2 0) + 1)), rfl, hF.symm, by rw [ht]; exact hP, hD⟩, hS.F ht⟩) hS.2.2 d_rAdd_38
  · have hF : F_rAdd mo κ q1 q2 = κ := (if_neg c_1).trans rfl
    exact W.vret hx hb hr (fun t ht hW => ⟨⟨κ, rfl, hF.symm, by rw [ht]; exact hP, hD⟩, hS.F ht⟩) hS.2.2 d_rAdd_7
def F_sBegin (ν : SS) : SS :=
  (ss (ss (ss (ss ν 1 (fun _ => 0)) 2 (fun _ => 2)) 4 (fun _ => -1)) 5 (fun _ => 0))
set_option maxHeartbeats 4000000 in
set_option maxRecDepth 100000 in
theorem c_sBegin (l : Launch) (dC : Nat → ClassId) (dI : Nat → Nat → Nat) (cI cZ : ClassId) (sS sS0 : Nat) (sz : Nat) (ν : SS) : Met l y_sBegin [Cond.code y_sBegin prog_4_method_2_code 1 none] ({ frames := 0, cells := 0, slots := 0, locals := 0 }) (pcW (dC, dI) (w_Ses cI cZ sS sS0 (ν 0) (ν 1 0) (ν 2 0) (ν 3 0) (ν 4 0) (ν 5 0)) (tyC cI cZ) sz [.ref sS]) (qV (fun u => u = F_sBegin ν) (dC, dI) (fun u : SS => w_Ses cI cZ sS sS0 (u 0) (u 1 0) (u 2 0) (u 3 0) (u 4 0) (u 5 0)) (va_A (w_Ses cI cZ sS sS0 (ν 0) (ν 1 0) (ν 2 0) (ν 3 0) (ν 4 0) (ν 5 0)) sz)) 0 0 (va_A (w_Ses cI cZ sS sS0 (ν 0) (ν 1 0) (ν 2 0) (ν 3 0) (ν 4 0) (ν 5 0)) sz) := by
  refine Met.ofW (cc := prog_4_method_2_code) (maxL := 1) (ret := none) (by decide) rfl ?_
  intro p e s m args below meth c s₁ B hml hv
  obtain ⟨rfl, hsz, hT, hP, hK, hD0⟩ := hv
  have hx := B.exec
  have hb := B.bytes
  have hr := B.returns
  have hts : ∀ w ∈ lw_ok, w.before ([.ref sS] : List Value).toArray s = true := hT.use
  have hown : s.vm.findClass R_Ses = some m.cls := findClass_of_methodNamed B.named
  have hlocks := B.notSynchronized
  subst hsz
  have hD := hD0.self (sz := s.heap.size)
  generalize hAe : va_A (w_Ses cI cZ sS sS0 (ν 0) (ν 1 0) (ν 2 0) (ν 3 0) (ν 4 0) (ν 5 0)) s.heap.size = A at hD ⊢
  have hA : ∀ q : Nat, s.heap.size ≤ q → A q := fun q h => by rw [← hAe]; exact Or.inr h
  have hS : va_S A s.heap s.heap [] := va_S.rf
  have hl := lv_entry ([.ref sS]) (n := 1) (Nat.le_of_ble_eq_true rfl)
  rw [lg_entry_eq]
  generalize (lg_sl ([.ref sS]) ++ List.replicate (1 - (lg_sl ([.ref sS])).length) Slot.unset).toArray = ls at hl ⊢
  have hl : lv_has ls 1 [(0, .ref sS)] := hl
  refine lv_aload_n hx hb d_sBegin_0 rfl (lv_at hl 0 rfl) ?_
  refine lv_iconst (v := 2) hx hb d_sBegin_1 (by decide) ?_
  refine va_put (D := (dC, dI)) (ci := 2) (v := .int 2) (ty := .int) (C := R_Ses) (T := T_Ses) (N := 6) hx hb hts in_Ses ty_Ses tyok_Ses nm_Ses hown hK hP hD hS 0 rfl rfl 2 (by decide) (hts _ mw_112) (fun _ h9 => h9) rfl (by decide +kernel) rfl rfl (Nat.le_of_ble_eq_true rfl) d_sBegin_2 (fun H locs hP hD hS => ?_)
  have hP : va_P (dC, dI) vwCl (w_Ses cI cZ sS sS0 (ν 0) (ν 1 0) 2 (ν 3 0) (ν 4 0) (ν 5 0)) H := hP
  have hD : va_D A (w_Ses cI cZ sS sS0 (ν 0) (ν 1 0) 2 (ν 3 0) (ν 4 0) (ν 5 0)) := hD
  refine lv_aload_n hx hb d_sBegin_5 rfl (lv_at hl 0 rfl) ?_
  refine lv_iconst (v := -1) hx hb d_sBegin_6 (by decide) ?_
  refine va_put (D := (dC, dI)) (ci := 2) (v := .int (-1)) (ty := .int) (C := R_Ses) (T := T_Ses) (N := 6) hx hb hts in_Ses ty_Ses tyok_Ses nm_Ses hown hK hP hD hS 0 rfl rfl 4 (by decide) (hts _ mw_116) (fun _ h9 => h9) rfl (by decide +kernel) rfl rfl (Nat.le_of_ble_eq_true rfl) d_sBegin_7 (fun H locs hP hD hS => ?_)
  have hP : va_P (dC, dI) vwCl (w_Ses cI cZ sS sS0 (ν 0) (ν 1 0) 2 (ν 3 0) (-1) (ν 5 0)) H := hP
  have hD : va_D A (w_Ses cI cZ sS sS0 (ν 0) (ν 1 0) 2 (ν 3 0) (-1) (ν 5 0)) := hD
  refine lv_aload_n hx hb d_sBegin_10 rfl (lv_at hl 0 rfl) ?_
  refine lv_iconst (v := 0) hx hb d_sBegin_11 (by decide) ?_
  refine va_put (D := (dC, dI)) (ci := 2) (v := .int 0) (ty := .boolean) (C := R_Ses) (T := T_Ses) (N := 6) hx hb hts in_Ses ty_Ses tyok_Ses nm_Ses hown hK hP hD hS 0 rfl rfl 5 (by decide) (hts _ mw_118) (fun _ h9 => h9) rfl (by decide +kernel) (by decide) rfl (Nat.le_of_ble_eq_true rfl) d_sBegin_12 (fun H locs hP hD hS => ?_)
  have hP : va_P (dC, dI) vwCl (w_Ses cI cZ sS sS0 (ν 0) (ν 1 0) 2 (ν 3 0) (-1) 0) H := hP
  have hD : va_D A (w_Ses cI cZ sS sS0 (ν 0) (ν 1 0) 2 (ν 3 0) (-1) 0) := hD
  refine lv_aload_n hx hb d_sBegin_15 rfl (lv_at hl 0 rfl) ?_
  refine lv_iconst (v := 0) hx hb d_sBegin_16 (by decide) ?_
  refine va_put (D := (dC, dI)) (ci := 2) (v := .int 0) (ty := .int) (C := R_Ses) (T := T_Ses) (N := 6) hx hb hts in_Ses ty_Ses tyok_Ses nm_Ses hown hK hP hD hS 0 rfl rfl 1 (by decide) (hts _ mw_110) (fun _ h9 => h9) rfl (by decide +kernel) rfl rfl (Nat.le_of_ble_eq_true rfl) d_sBegin_17 (fun H locs hP hD hS => ?_)
  have hP : va_P (dC, dI) vwCl (w_Ses cI cZ sS sS0 (ν 0) 0 2 (ν 3 0) (-1) 0) H := hP
  have hD : va_D A (w_Ses cI cZ sS sS0 (ν 0) 0 2 (ν 3 0) (-1) 0) := hD
  have hF : F_sBegin ν = (ss (ss (ss (ss ν 1 (fun _ => 0)) 2 (fun _ => 2)) 4 (fun _ => -1)) 5 (fun _ => 0)) := rfl
  exact W.vret hx hb hr (fun t ht hW => ⟨⟨(ss (ss (ss (ss ν 1 (fun _ => 0)) 2 (fun _ => 2)) 4 (fun _ => -1)) 5 (fun _ => 0)), rfl, hF.symm, by rw [ht]; exact hP, hD⟩, hS.F ht⟩) hS.2.2 d_sBegin_20
