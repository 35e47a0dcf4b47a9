def fil (f : Nat → Int32) (v : Int32) (n : Nat) : Nat → Int32 := fun j => if j < n then v else f j
theorem fil_0 (f : Nat → Int32) (v : Int32) : fil f v 0 = f := by funext j; exact if_neg (by omega)
theorem fil_upd (f : Nat → Int32) (v : Int32) (n : Nat) : upd (fil f v n) n v = fil f v (n + 1) := by
  funext j
  unfold upd fil
  by_cases h : j = n
  · subst h; rw [if_pos rfl, if_pos (by omega)]
  · rw [if_neg h]
    by_cases h2 : j < n
    · rw [if_pos h2, if_pos (by omega)]
    · rw [if_neg h2, if_neg (by omega)]
theorem fil_in {f : Nat → Int32} {v : Int32} {n j : Nat} (h : j < n) : fil f v n j = v := if_pos h
set_option maxHeartbeats 4000000 in
set_option maxRecDepth 100000 in
theorem lp_fill {p : Program} {l : Launch} {e : Env} {R : Room} {s : State} {m : MethodId} {args : Array Value} {below : List Frame} {meth : Method} {c : Code} {Q : State → Prop} {cells slots : Nat} {A : Nat → Prop} {H0 : Heap} {dC : Nat → ClassId} {dI : Nat → Nat → Nat} {cI cZ : ClassId} {nA : Nat} {aA : Nat} {α : SS} {q2 : Int32} (hx : p.tables.exec = Jvm.exec) (hb : c.code = prog_8_method_103_code) (hml : c.maxLocals = 4) (hT : TBL s) (hts : ∀ w ∈ lw_ok, w.before args s = true) (hown : s.vm.findClass R_Arr = some m.cls) (hK : va_K (dC, dI) vwCl (tyC cI cZ) s) (hA : ∀ q : Nat, H0.size ≤ q → A q) (hn : nA ≤ 1000) (kx : ∀ (ls : Array Slot) (H : Heap) (locs : List Loc), va_P (dC, dI) vwCl (w_Arr1 cI cZ nA aA ((ss α 0 (fil (α 0) q2 nA)) 0)) H → va_D A (w_Arr1 cI cZ nA aA ((ss α 0 (fil (α 0) q2 nA)) 0)) → va_S A H0 H locs → W p l e R s m args below meth c H locs cells slots Q (F0 m 20 ls [])) : ∀ (n : Nat) (i : Nat) (ls : Array Slot), (i ≤ nA) → nA + 1 ≤ i + n → ∀ (H : Heap) (locs : List Loc), va_P (dC, dI) vwCl (w_Arr1 cI cZ nA aA (fil (α 0) q2 i)) H → va_D A (w_Arr1 cI cZ nA aA (fil (α 0) q2 i)) → va_S A H0 H locs → lv_has ls 4 [(0, .ref aA), (1, .int q2), (2, .int (nI i)), (3, .int (nI nA))] → W p l e R s m args below meth c H locs cells slots Q (F0 m 5 ls []) := by
  intro n
  induction n with
  | zero => intro i ls hi hfu; exact absurd hfu (by omega)
  | succ n ih =>
    intro i ls hi hfu H locs hP hD hS hl
    refine lv_iload_n hx hb d_fill_5 rfl (lv_at hl 2 rfl) ?_
    refine lv_iload_n hx hb d_fill_6 rfl (lv_at hl 3 rfl) ?_
    refine lv_icmp_ge (tgt := 20) hx hb d_fill_7 (by decide) (fun c_4 => ?_) (fun c_4 => ?_)
    · have hi9 : i = nA := by
        rcases Nat.lt_or_ge i nA with h | h
        · exact absurd c_4 (nI_ge h (by omega))
        · omega
      subst hi9
      exact kx ls H locs hP hD hS
    · have hlt : i < nA := lt_nle (by omega) (by omega) c_4
      refine lv_aload_n hx hb d_fill_10 rfl (lv_at hl 0 rfl) ?_
      refine lv_iload_n hx hb d_fill_11 rfl (lv_at hl 2 rfl) ?_
      refine lv_iload_n hx hb d_fill_12 rfl (lv_at hl 1 rfl) ?_
      refine va_iast (n := nA) (f := fil (α 0) q2 i) hx hb hK hP hD hS 0 0 rfl rfl (i := nI i) (x := q2) (vp_in_nI hlt (by omega)) d_fill_13 (fun H locs hP hD hS => ?_)
      have hP : va_P (dC, dI) vwCl (w_Arr1 cI cZ nA aA (upd (fil (α 0) q2 i) (nI i).toNatClampNeg q2)) H := hP
      have hD : va_D A (w_Arr1 cI cZ nA aA (upd (fil (α 0) q2 i) (nI i).toNatClampNeg q2)) := hD
      refine lv_iinc (v := nI (i + 1)) (lv' := [(2, .int (nI (i + 1))), (0, .ref aA), (1, .int q2), (3, .int (nI nA))]) hx hb d_fill_14 hl (k := 2) rfl (nI_1 _) (by decide) rfl (fun ls hl => ?_)
      refine lv_goto (tgt := 5) hx hb d_fill_17 (by decide) ?_
      rw [nI_clamp (show i < 2 ^ 31 by omega), fil_upd] at hP hD
      exact ih (i + 1) ls (by omega) (by omega) H locs hP hD hS (lv_sub hl [1, 2, 0, 3] rfl)
def F_fill (nA : Nat) (α : SS) (q2 : Int32) : SS :=
  (ss α 0 (fil (α 0) q2 nA))
set_option maxHeartbeats 4000000 in
set_option maxRecDepth 100000 in
theorem c_fill (l : Launch) (dC : Nat → ClassId) (dI : Nat → Nat → Nat) (cI cZ : ClassId) (nA : Nat) (aA : Nat) (sz : Nat) (α : SS) (q2 : Int32) (hn : nA ≤ 1000) : Met l y_fill [Cond.code y_fill prog_8_method_103_code 4 none] ({ frames := 0, cells := 0, slots := 0, locals := 0 }) (pcW (dC, dI) (w_Arr1 cI cZ nA aA (α 0)) (tyC cI cZ) sz [.ref aA, .int q2]) (qV (fun u => u = F_fill nA α q2) (dC, dI) (fun u : SS => w_Arr1 cI cZ nA aA (u 0)) (va_A (w_Arr1 cI cZ nA aA (α 0)) sz)) 0 0 (va_A (w_Arr1 cI cZ nA aA (α 0)) sz) := by
  refine Met.ofW (cc := prog_8_method_103_code) (maxL := 4) (ret := none) (by decide) rfl ?_
  intro p e s m args below meth c s₁ B hml hv
  obtain ⟨rfl, hsz, hT, hP, hK, hD0⟩ := hv
  have hx := B.exec
  have hb := B.bytes
  have hr := B.returns
  have hts : ∀ w ∈ lw_ok, w.before ([.ref aA, .int q2] : List Value).toArray s = true := hT.use
  have hown : s.vm.findClass R_Arr = some m.cls := findClass_of_methodNamed B.named
  have hlocks := B.notSynchronized
  subst hsz
  have hD := hD0.self (sz := s.heap.size)
  generalize hAe : va_A (w_Arr1 cI cZ nA aA (α 0)) s.heap.size = A at hD ⊢
  have hA : ∀ q : Nat, s.heap.size ≤ q → A q := fun q h => by rw [← hAe]; exact Or.inr h
  have hS : va_S A s.heap s.heap [] := va_S.rf
  have hl := lv_entry ([.ref aA, .int q2]) (n := 4) (Nat.le_of_ble_eq_true rfl)
  rw [lg_entry_eq]
  generalize (lg_sl ([.ref aA, .int q2]) ++ List.replicate (4 - (lg_sl ([.ref aA, .int q2])).length) Slot.unset).toArray = ls at hl ⊢
  have hl : lv_has ls 4 [(0, .ref aA), (1, .int q2)] := hl
  refine lv_iconst (v := 0) hx hb d_fill_0 (by decide) ?_
  refine lv_istore_n (lv' := [(2, .int 0), (0, .ref aA), (1, .int q2)]) hx hb d_fill_1 rfl hl (by decide) rfl (fun ls hl => ?_)
  refine lv_aload_n hx hb d_fill_2 rfl (lv_at hl 1 rfl) ?_
  refine va_alen (v := nI nA) hx hb hK hP 0 0 rfl rfl rfl d_fill_3 ?_
  refine lv_istore_n (lv' := [(3, .int (nI nA)), (2, .int 0), (0, .ref aA), (1, .int q2)]) hx hb d_fill_4 rfl hl (by decide) rfl (fun ls hl => ?_)
  refine lp_fill hx hb hml hT hts hown hK hA hn (fun ls H locs hP hD hS => ?_) (nA + 1) 0 ls (by omega) (by omega) _ _ (by rw [fil_0]; exact hP) (by rw [fil_0]; exact hD) hS (lv_sub hl [2, 3, 1, 0] rfl)
  have hF : F_fill nA α q2 = (ss α 0 (fil (α 0) q2 nA)) := rfl
  exact W.vret hx hb hr (fun t ht hW => ⟨⟨(ss α 0 (fil (α 0) q2 nA)), rfl, hF.symm, by rw [ht]; exact hP, hD⟩, hS.F ht⟩) hS.2.2 d_fill_20
def ηI : SS := fun k => match k with
  | 4 => fil (fun _ => 0) (-1) 60
  | 5 => fil (fun _ => 0) (-1) 60
  | 7 => fil (fun _ => 0) (-1) 60
  | 8 => fil (fun _ => 0) (-1) 10
  | _ => fun _ => 0
def η0 : SS := ss ηI 6 (fil (fun _ => 0) (vp_nar .boolean 1) 60)
def κ0 : SS := fun _ _ => 0
def ν0 : SS := ss (fun _ _ => 0) 4 (fun _ => -1)
set_option maxHeartbeats 4000000 in
set_option maxRecDepth 100000 in
theorem lp_mark {p : Program} {l : Launch} {e : Env} {R : Room} {s : State} {m : MethodId} {args : Array Value} {below : List Frame} {meth : Method} {c : Code} {Q : State → Prop} {cells slots : Nat} {A : Nat → Prop} {H0 : Heap} {dC : Nat → ClassId} {dI : Nat → Nat → Nat} {cI cZ : ClassId} {hH hH0 hH1 hH2 hH3 hH4 hH5 hH6 hH7 hH8 : Nat} {η : SS} (hx : p.tables.exec = Jvm.exec) (hb : c.code = prog_2_method_1_code) (hml : c.maxLocals = 2) (hT : TBL s) (hts : ∀ w ∈ lw_ok, w.before args s = true) (hown : s.vm.findClass R_House = some m.cls) (hK : va_K (dC, dI) vwCl (tyC cI cZ) s) (hA : ∀ q : Nat, H0.size ≤ q → A q) (kx : ∀ (ls : Array Slot) (H : Heap) (locs : List Loc), va_P (dC, dI) vwCl (w_House cI cZ hH hH0 hH1 hH2 hH3 hH4 hH5 hH6 hH7 hH8 ((ss ηI 6 (fil (fun _ => 0) (vp_nar .boolean 1) 60)) 0) ((ss ηI 6 (fil (fun _ => 0) (vp_nar .boolean 1) 60)) 1) ((ss ηI 6 (fil (fun _ => 0) (vp_nar .boolean 1) 60)) 2) ((ss ηI 6 (fil (fun _ => 0) (vp_nar .boolean 1) 60)) 3) ((ss ηI 6 (fil (fun _ => 0) (vp_nar .boolean 1) 60)) 4) ((ss ηI 6 (fil (fun _ => 0) (vp_nar .boolean 1) 60)) 5) ((ss ηI 6 (fil (fun _ => 0) (vp_nar .boolean 1) 60)) 6) ((ss ηI 6 (fil (fun _ => 0) (vp_nar .boolean 1) 60)) 7) ((ss ηI 6 (fil (fun _ => 0) (vp_nar .boolean 1) 60)) 8)) H → va_D A (w_House cI cZ hH hH0 hH1 hH2 hH3 hH4 hH5 hH6 hH7 hH8 ((ss ηI 6 (fil (fun _ => 0) (vp_nar .boolean 1) 60)) 0) ((ss ηI 6 (fil (fun _ => 0) (vp_nar .boolean 1) 60)) 1) ((ss ηI 6 (fil (fun _ => 0) (vp_nar .boolean 1) 60)) 2) ((ss ηI 6 (fil (fun _ => 0) (vp_nar .boolean 1) 60)) 3) ((ss ηI 6 (fil (fun _ => 0) (vp_nar .boolean 1) 60)) 4) ((ss ηI 6 (fil (fun _ => 0) (vp_nar .boolean 1) 60)) 5) ((ss ηI 6 (fil (fun _ => 0) (vp_nar .boolean 1) 60)) 6) ((ss ηI 6 (fil (fun _ => 0) (vp_nar .boolean 1) 60)) 7) ((ss ηI 6 (fil (fun _ => 0) (vp_nar .boolean 1) 60)) 8)) → va_S A H0 H locs → W p l e R s m args below meth c H locs cells slots Q (F0 m 129 ls [])) : ∀ (n : Nat) (i : Nat) (ls : Array Slot), (i ≤ 60) → 60 + 1 ≤ i + n → ∀ (H : Heap) (locs : List Loc), va_P (dC, dI) vwCl (w_House cI cZ hH hH0 hH1 hH2 hH3 hH4 hH5 hH6 hH7 hH8 (ηI 0) (ηI 1) (ηI 2) (ηI 3) (ηI 4) (ηI 5) (fil (fun _ => 0) (vp_nar .boolean 1) i) (ηI 7) (ηI 8)) H → va_D A (w_House cI cZ hH hH0 hH1 hH2 hH3 hH4 hH5 hH6 hH7 hH8 (ηI 0) (ηI 1) (ηI 2) (ηI 3) (ηI 4) (ηI 5) (fil (fun _ => 0) (vp_nar .boolean 1) i) (ηI 7) (ηI 8)) → va_S A H0 H locs → lv_has ls 2 [(0, .ref hH), (1, .int (nI i))] → W p l e R s m args below meth c H locs cells slots Q (F0 m 110 ls []) := by
  intro n
  induction n with
  | zero => intro i ls hi hfu; exact absurd hfu (by omega)
  | succ n ih =>
    intro i ls hi hfu H locs hP hD hS hl
    refine lv_iload_n hx hb d_HouseI_110 rfl (lv_at hl 1 rfl) ?_
    refine lv_bipush (v := 60) hx hb d_HouseI_111 (by decide) ?_
    refine lv_icmp_ge (tgt := 129) hx hb d_HouseI_113 (by decide) (fun c_1 => ?_) (fun c_1 => ?_)
    · have hi9 : i = 60 := by
        rcases Nat.lt_or_ge i 60 with h | h
        · exact absurd c_1 (nI_ge h (by decide))
        · omega
      subst hi9
      exact kx ls H locs hP hD hS
    · have hlt : i < 60 := lt_nle (N := 60) (by decide) (by omega) c_1
      refine lv_aload_n hx hb d_HouseI_116 rfl (lv_at hl 0 rfl) ?_
      refine va_get (D := (dC, dI)) (ci := 0) (v := .ref hH6) (C := R_House) (T := T_House) (N := 9) hx hb hts in_House hown hK hP 0 rfl rfl 6 (by decide) (hts _ mw_55) (fun _ h9 => h9) rfl d_HouseI_117 ?_
      refine lv_iload_n hx hb d_HouseI_120 rfl (lv_at hl 1 rfl) ?_
      refine lv_iconst (v := 1) hx hb d_HouseI_121 (by decide) ?_
      refine va_zast (n := 60) (f := fil (fun _ => 0) (vp_nar .boolean 1) i) hx hb hK hP hD hS 7 1 rfl rfl (i := nI i) (x := 1) (vp_in_nI hlt (by decide)) d_HouseI_122 (fun H locs hP hD hS => ?_)
      have hP : va_P (dC, dI) vwCl (w_House cI cZ hH hH0 hH1 hH2 hH3 hH4 hH5 hH6 hH7 hH8 (ηI 0) (ηI 1) (ηI 2) (ηI 3) (ηI 4) (ηI 5) (upd (fil (fun _ => 0) (vp_nar .boolean 1) i) (nI i).toNatClampNeg (vp_nar .boolean 1)) (ηI 7) (ηI 8)) H := hP
      have hD : va_D A (w_House cI cZ hH hH0 hH1 hH2 hH3 hH4 hH5 hH6 hH7 hH8 (ηI 0) (ηI 1) (ηI 2) (ηI 3) (ηI 4) (ηI 5) (upd (fil (fun _ => 0) (vp_nar .boolean 1) i) (nI i).toNatClampNeg (vp_nar .boolean 1)) (ηI 7) (ηI 8)) := hD
      refine lv_iinc (v := nI (i + 1)) (lv' := [(1, .int (nI (i + 1))), (0, .ref hH)]) hx hb d_HouseI_123 hl (k := 1) rfl (nI_1 _) (by decide) rfl (fun ls hl => ?_)
      refine lv_goto (tgt := 110) hx hb d_HouseI_126 (by decide) ?_
      rw [nI_clamp (show i < 2 ^ 31 by omega), fil_upd] at hP hD
      exact ih (i + 1) ls (by omega) (by omega) H locs hP hD hS (lv_sub hl [1, 0] rfl)
set_option maxHeartbeats 4000000 in
set_option maxRecDepth 100000 in
theorem c_HouseI (l : Launch) (dC : Nat → ClassId) (dI : Nat → Nat → Nat) (cI cZ : ClassId) (hH : Nat) (sz : Nat) : Met l y_HouseI [Cond.code y_HouseI prog_2_method_1_code 2 none] ({ frames := 1, cells := 9, slots := 410, locals := 23 }) (pcW (dC, dI) [(hH, .inr (0, [.null, .null, .null, .null, .null, .null, .null, .null, .null]))] (tyC cI cZ) sz [.ref hH]) (qV (fun u : Nat → Nat => True) (dC, dI) (fun u => w_House cI cZ hH (u 0) (u 1) (u 2) (u 3) (u 4) (u 5) (u 6) (u 7) (u 8) (η0 0) (η0 1) (η0 2) (η0 3) (η0 4) (η0 5) (η0 6) (η0 7) (η0 8)) (va_A [(hH, .inr (0, [.null, .null, .null, .null, .null, .null, .null, .null, .null]))] sz)) 9 410 (va_A [(hH, .inr (0, [.null, .null, .null, .null, .null, .null, .null, .null, .null]))] sz) := by
  refine Met.ofW (cc := prog_2_method_1_code) (maxL := 2) (ret := none) (by decide) rfl ?_
  intro p e s m args below meth c s₁ B hml hv
  obtain ⟨rfl, hsz, hT, hP, hK, hD0⟩ := hv
  have hx := B.exec
  have hb := B.bytes
  have hr := B.returns
  have hts : ∀ w ∈ lw_ok, w.before ([.ref hH] : List Value).toArray s = true := hT.use
  have hown : s.vm.findClass R_House = some m.cls := findClass_of_methodNamed B.named
  have hlocks := B.notSynchronized
  have hin : meth.name = "<init>" := (name_of_methodNamed B.named B.method).1
  subst hsz
  have hD := hD0.self (sz := s.heap.size)
  generalize hAe : va_A [(hH, .inr (0, [.null, .null, .null, .null, .null, .null, .null, .null, .null]))] s.heap.size = A at hD ⊢
  have hA : ∀ q : Nat, s.heap.size ≤ q → A q := fun q h => by rw [← hAe]; exact Or.inr h
  have hS : va_S A s.heap s.heap [] := va_S.rf
  have hl := lv_entry ([.ref hH]) (n := 2) (Nat.le_of_ble_eq_true rfl)
  rw [lg_entry_eq]
  generalize (lg_sl ([.ref hH]) ++ List.replicate (2 - (lg_sl ([.ref hH])).length) Slot.unset).toArray = ls at hl ⊢
  have hl : lv_has ls 2 [(0, .ref hH)] := hl
  refine lv_aload_n hx hb d_HouseI_0 rfl (lv_at hl 0 rfl) ?_
  refine W.objInit hx hb hown (hts _ mw_39) (hts _ mw_26) (hts _ mw_27) rfl (by rw [hml]; exact hl.1) rfl d_HouseI_1 (Nat.le_of_ble_eq_true rfl) (Nat.le_of_ble_eq_true rfl) ?_
  refine W.eq (g2 := F0 m 4 ls []) rfl ?_
  refine lv_aload_n hx hb d_HouseI_4 rfl (lv_at hl 0 rfl) ?_
  refine lv_bipush (v := 40) hx hb d_HouseI_5 (by decide) ?_
  refine xn_I (N := 40) (cI := cI) hx hb (hts _ mw_80) hK 0 rfl hP hD hS hA (by decide) (by decide) (by decide) (show 0 + 1 ≤ 9 by omega) (show 0 + 40 ≤ 410 by omega) d_HouseI_7 (fun q0 H hP hD hS => ?_)
  have hP : va_P (dC, dI) vwCl [(hH, .inr (0, [.null, .null, .null, .null, .null, .null, .null, .null, .null])), (q0, .inl (cI, 40, .inl (fun _ => 0)))] H := hP
  have hD : va_D A [(hH, .inr (0, [.null, .null, .null, .null, .null, .null, .null, .null, .null])), (q0, .inl (cI, 40, .inl (fun _ => 0)))] := hD
  refine W.widen (k := 1) (n := 40) (by omega) (by omega) ?_
  refine va_putF (D := (dC, dI)) (ci := 0) (v := .ref q0) (ty := (.array .int)) (C := R_House) (T := T_House) (N := 9) hx hb hts in_House ty_House tyok_House nm_House hown hK hP hD hS 0 rfl rfl 0 (by decide) (hts _ mw_43) (fun _ h9 => h9) rfl hin rfl (by decide +kernel) rfl rfl (Nat.le_of_ble_eq_true rfl) d_HouseI_9 (fun H locs hP hD hS => ?_)
  have hP : va_P (dC, dI) vwCl [(hH, .inr (0, [.ref q0, .null, .null, .null, .null, .null, .null, .null, .null])), (q0, .inl (cI, 40, .inl (fun _ => 0)))] H := hP
  have hD : va_D A [(hH, .inr (0, [.ref q0, .null, .null, .null, .null, .null, .null, .null, .null])), (q0, .inl (cI, 40, .inl (fun _ => 0)))] := hD
  refine lv_aload_n hx hb d_HouseI_12 rfl (lv_at hl 0 rfl) ?_
  refine lv_bipush (v := 40) hx hb d_HouseI_13 (by decide) ?_
  refine xn_I (N := 40) (cI := cI) hx hb (hts _ mw_80) hK 0 rfl hP hD hS hA (by decide) (by decide) (by decide) (show 1 + 1 ≤ 9 by omega) (show 40 + 40 ≤ 410 by omega) d_HouseI_15 (fun q1 H hP hD hS => ?_)
  have hP : va_P (dC, dI) vwCl [(hH, .inr (0, [.ref q0, .null, .null, .null, .null, .null, .null, .null, .null])), (q0, .inl (cI, 40, .inl (fun _ => 0))), (q1, .inl (cI, 40, .inl (fun _ => 0)))] H := hP
  have hD : va_D A [(hH, .inr (0, [.ref q0, .null, .null, .null, .null, .null, .null, .null, .null])), (q0, .inl (cI, 40, .inl (fun _ => 0))), (q1, .inl (cI, 40, .inl (fun _ => 0)))] := hD
  refine W.widen (k := 2) (n := 80) (by omega) (by omega) ?_
  refine va_putF (D := (dC, dI)) (ci := 0) (v := .ref q1) (ty := (.array .int)) (C := R_House) (T := T_House) (N := 9) hx hb hts in_House ty_House tyok_House nm_House hown hK hP hD hS 0 rfl rfl 1 (by decide) (hts _ mw_45) (fun _ h9 => h9) rfl hin rfl (by decide +kernel) rfl rfl (Nat.le_of_ble_eq_true rfl) d_HouseI_17 (fun H locs hP hD hS => ?_)
  have hP : va_P (dC, dI) vwCl [(hH, .inr (0, [.ref q0, .ref q1, .null, .null, .null, .null, .null, .null, .null])), (q0, .inl (cI, 40, .inl (fun _ => 0))), (q1, .inl (cI, 40, .inl (fun _ => 0)))] H := hP
  have hD : va_D A [(hH, .inr (0, [.ref q0, .ref q1, .null, .null, .null, .null, .null, .null, .null])), (q0, .inl (cI, 40, .inl (fun _ => 0))), (q1, .inl (cI, 40, .inl (fun _ => 0)))] := hD
  refine lv_aload_n hx hb d_HouseI_20 rfl (lv_at hl 0 rfl) ?_
  refine lv_bipush (v := 40) hx hb d_HouseI_21 (by decide) ?_
  refine xn_Z (N := 40) (cI := cZ) hx hb (hts _ mw_81) hK 1 rfl hP hD hS hA (by decide) (by decide) (by decide) (show 2 + 1 ≤ 9 by omega) (show 80 + 40 ≤ 410 by omega) d_HouseI_23 (fun q2 H hP hD hS => ?_)
  have hP : va_P (dC, dI) vwCl [(hH, .inr (0, [.ref q0, .ref q1, .null, .null, .null, .null, .null, .null, .null])), (q0, .inl (cI, 40, .inl (fun _ => 0))), (q1, .inl (cI, 40, .inl (fun _ => 0))), (q2, .inl (cZ, 40, .inl (fun _ => 0)))] H := hP
  have hD : va_D A [(hH, .inr (0, [.ref q0, .ref q1, .null, .null, .null, .null, .null, .null, .null])), (q0, .inl (cI, 40, .inl (fun _ => 0))), (q1, .inl (cI, 40, .inl (fun _ => 0))), (q2, .inl (cZ, 40, .inl (fun _ => 0)))] := hD
  refine W.widen (k := 3) (n := 120) (by omega) (by omega) ?_
  refine va_putF (D := (dC, dI)) (ci := 0) (v := .ref q2) (ty := (.array .boolean)) (C := R_House) (T := T_House) (N := 9) hx hb hts in_House ty_House tyok_House nm_House hown hK hP hD hS 0 rfl rfl 2 (by decide) (hts _ mw_47) (fun _ h9 => h9) rfl hin rfl (by decide +kernel) rfl rfl (Nat.le_of_ble_eq_true rfl) d_HouseI_25 (fun H locs hP hD hS => ?_)
  have hP : va_P (dC, dI) vwCl [(hH, .inr (0, [.ref q0, .ref q1, .ref q2, .null, .null, .null, .null, .null, .null])), (q0, .inl (cI, 40, .inl (fun _ => 0))), (q1, .inl (cI, 40, .inl (fun _ => 0))), (q2, .inl (cZ, 40, .inl (fun _ => 0)))] H := hP
  have hD : va_D A [(hH, .inr (0, [.ref q0, .ref q1, .ref q2, .null, .null, .null, .null, .null, .null])), (q0, .inl (cI, 40, .inl (fun _ => 0))), (q1, .inl (cI, 40, .inl (fun _ => 0))), (q2, .inl (cZ, 40, .inl (fun _ => 0)))] := hD
  refine lv_aload_n hx hb d_HouseI_28 rfl (lv_at hl 0 rfl) ?_
  refine lv_bipush (v := 40) hx hb d_HouseI_29 (by decide) ?_
  refine xn_I (N := 40) (cI := cI) hx hb (hts _ mw_80) hK 0 rfl hP hD hS hA (by decide) (by decide) (by decide) (show 3 + 1 ≤ 9 by omega) (show 120 + 40 ≤ 410 by omega) d_HouseI_31 (fun q3 H hP hD hS => ?_)
  have hP : va_P (dC, dI) vwCl [(hH, .inr (0, [.ref q0, .ref q1, .ref q2, .null, .null, .null, .null, .null, .null])), (q0, .inl (cI, 40, .inl (fun _ => 0))), (q1, .inl (cI, 40, .inl (fun _ => 0))), (q2, .inl (cZ, 40, .inl (fun _ => 0))), (q3, .inl (cI, 40, .inl (fun _ => 0)))] H := hP
  have hD : va_D A [(hH, .inr (0, [.ref q0, .ref q1, .ref q2, .null, .null, .null, .null, .null, .null])), (q0, .inl (cI, 40, .inl (fun _ => 0))), (q1, .inl (cI, 40, .inl (fun _ => 0))), (q2, .inl (cZ, 40, .inl (fun _ => 0))), (q3, .inl (cI, 40, .inl (fun _ => 0)))] := hD
  refine W.widen (k := 4) (n := 160) (by omega) (by omega) ?_
  refine va_putF (D := (dC, dI)) (ci := 0) (v := .ref q3) (ty := (.array .int)) (C := R_House) (T := T_House) (N := 9) hx hb hts in_House ty_House tyok_House nm_House hown hK hP hD hS 0 rfl rfl 3 (by decide) (hts _ mw_49) (fun _ h9 => h9) rfl hin rfl (by decide +kernel) rfl rfl (Nat.le_of_ble_eq_true rfl) d_HouseI_33 (fun H locs hP hD hS => ?_)
  have hP : va_P (dC, dI) vwCl [(hH, .inr (0, [.ref q0, .ref q1, .ref q2, .ref q3, .null, .null, .null, .null, .null])), (q0, .inl (cI, 40, .inl (fun _ => 0))), (q1, .inl (cI, 40, .inl (fun _ => 0))), (q2, .inl (cZ, 40, .inl (fun _ => 0))), (q3, .inl (cI, 40, .inl (fun _ => 0)))] H := hP
  have hD : va_D A [(hH, .inr (0, [.ref q0, .ref q1, .ref q2, .ref q3, .null, .null, .null, .null, .null])), (q0, .inl (cI, 40, .inl (fun _ => 0))), (q1, .inl (cI, 40, .inl (fun _ => 0))), (q2, .inl (cZ, 40, .inl (fun _ => 0))), (q3, .inl (cI, 40, .inl (fun _ => 0)))] := hD
  refine lv_aload_n hx hb d_HouseI_36 rfl (lv_at hl 0 rfl) ?_
  refine lv_bipush (v := 60) hx hb d_HouseI_37 (by decide) ?_
  refine xn_I (N := 60) (cI := cI) hx hb (hts _ mw_80) hK 0 rfl hP hD hS hA (by decide) (by decide) (by decide) (show 4 + 1 ≤ 9 by omega) (show 160 + 60 ≤ 410 by omega) d_HouseI_39 (fun q4 H hP hD hS => ?_)
  have hP : va_P (dC, dI) vwCl [(hH, .inr (0, [.ref q0, .ref q1, .ref q2, .ref q3, .null, .null, .null, .null, .null])), (q0, .inl (cI, 40, .inl (fun _ => 0))), (q1, .inl (cI, 40, .inl (fun _ => 0))), (q2, .inl (cZ, 40, .inl (fun _ => 0))), (q3, .inl (cI, 40, .inl (fun _ => 0))), (q4, .inl (cI, 60, .inl (fun _ => 0)))] H := hP
  have hD : va_D A [(hH, .inr (0, [.ref q0, .ref q1, .ref q2, .ref q3, .null, .null, .null, .null, .null])), (q0, .inl (cI, 40, .inl (fun _ => 0))), (q1, .inl (cI, 40, .inl (fun _ => 0))), (q2, .inl (cZ, 40, .inl (fun _ => 0))), (q3, .inl (cI, 40, .inl (fun _ => 0))), (q4, .inl (cI, 60, .inl (fun _ => 0)))] := hD
  refine W.widen (k := 5) (n := 220) (by omega) (by omega) ?_
  refine va_putF (D := (dC, dI)) (ci := 0) (v := .ref q4) (ty := (.array .int)) (C := R_House) (T := T_House) (N := 9) hx hb hts in_House ty_House tyok_House nm_House hown hK hP hD hS 0 rfl rfl 4 (by decide) (hts _ mw_51) (fun _ h9 => h9) rfl hin rfl (by decide +kernel) rfl rfl (Nat.le_of_ble_eq_true rfl) d_HouseI_41 (fun H locs hP hD hS => ?_)
  have hP : va_P (dC, dI) vwCl [(hH, .inr (0, [.ref q0, .ref q1, .ref q2, .ref q3, .ref q4, .null, .null, .null, .null])), (q0, .inl (cI, 40, .inl (fun _ => 0))), (q1, .inl (cI, 40, .inl (fun _ => 0))), (q2, .inl (cZ, 40, .inl (fun _ => 0))), (q3, .inl (cI, 40, .inl (fun _ => 0))), (q4, .inl (cI, 60, .inl (fun _ => 0)))] H := hP
  have hD : va_D A [(hH, .inr (0, [.ref q0, .ref q1, .ref q2, .ref q3, .ref q4, .null, .null, .null, .null])), (q0, .inl (cI, 40, .inl (fun _ => 0))), (q1, .inl (cI, 40, .inl (fun _ => 0))), (q2, .inl (cZ, 40, .inl (fun _ => 0))), (q3, .inl (cI, 40, .inl (fun _ => 0))), (q4, .inl (cI, 60, .inl (fun _ => 0)))] := hD
  refine lv_aload_n hx hb d_HouseI_44 rfl (lv_at hl 0 rfl) ?_
  refine lv_bipush (v := 60) hx hb d_HouseI_45 (by decide) ?_
  refine xn_I (N := 60) (cI := cI) hx hb (hts _ mw_80) hK 0 rfl hP hD hS hA (by decide) (by decide) (by decide) (show 5 + 1 ≤ 9 by omega) (show 220 + 60 ≤ 410 by omega) d_HouseI_47 (fun q5 H hP hD hS => ?_)
  have hP : va_P (dC, dI) vwCl [(hH, .inr (0, [.ref q0, .ref q1, .ref q2, .ref q3, .ref q4, .null, .null, .null, .null])), (q0, .inl (cI, 40, .inl (fun _ => 0))), (q1, .inl (cI, 40, .inl (fun _ => 0))), (q2, .inl (cZ, 40, .inl (fun _ => 0))), (q3, .inl (cI, 40, .inl (fun _ => 0))), (q4, .inl (cI, 60, .inl (fun _ => 0))), (q5, .inl (cI, 60, .inl (fun _ => 0)))] H := hP
  have hD : va_D A [(hH, .inr (0, [.ref q0, .ref q1, .ref q2, .ref q3, .ref q4, .null, .null, .null, .null])), (q0, .inl (cI, 40, .inl (fun _ => 0))), (q1, .inl (cI, 40, .inl (fun _ => 0))), (q2, .inl (cZ, 40, .inl (fun _ => 0))), (q3, .inl (cI, 40, .inl (fun _ => 0))), (q4, .inl (cI, 60, .inl (fun _ => 0))), (q5, .inl (cI, 60, .inl (fun _ => 0)))] := hD
  refine W.widen (k := 6) (n := 280) (by omega) (by omega) ?_
  refine va_putF (D := (dC, dI)) (ci := 0) (v := .ref q5) (ty := (.array .int)) (C := R_House) (T := T_House) (N := 9) hx hb hts in_House ty_House tyok_House nm_House hown hK hP hD hS 0 rfl rfl 5 (by decide) (hts _ mw_53) (fun _ h9 => h9) rfl hin rfl (by decide +kernel) rfl rfl (Nat.le_of_ble_eq_true rfl) d_HouseI_49 (fun H locs hP hD hS => ?_)
  have hP : va_P (dC, dI) vwCl [(hH, .inr (0, [.ref q0, .ref q1, .ref q2, .ref q3, .ref q4, .ref q5, .null, .null, .null])), (q0, .inl (cI, 40, .inl (fun _ => 0))), (q1, .inl (cI, 40, .inl (fun _ => 0))), (q2, .inl (cZ, 40, .inl (fun _ => 0))), (q3, .inl (cI, 40, .inl (fun _ => 0))), (q4, .inl (cI, 60, .inl (fun _ => 0))), (q5, .inl (cI, 60, .inl (fun _ => 0)))] H := hP
  have hD : va_D A [(hH, .inr (0, [.ref q0, .ref q1, .ref q2, .ref q3, .ref q4, .ref q5, .null, .null, .null])), (q0, .inl (cI, 40, .inl (fun _ => 0))), (q1, .inl (cI, 40, .inl (fun _ => 0))), (q2, .inl (cZ, 40, .inl (fun _ => 0))), (q3, .inl (cI, 40, .inl (fun _ => 0))), (q4, .inl (cI, 60, .inl (fun _ => 0))), (q5, .inl (cI, 60, .inl (fun _ => 0)))] := hD
  refine lv_aload_n hx hb d_HouseI_52 rfl (lv_at hl 0 rfl) ?_
  refine lv_bipush (v := 60) hx hb d_HouseI_53 (by decide) ?_
  refine xn_Z (N := 60) (cI := cZ) hx hb (hts _ mw_81) hK 1 rfl hP hD hS hA (by decide) (by decide) (by decide) (show 6 + 1 ≤ 9 by omega) (show 280 + 60 ≤ 410 by omega) d_HouseI_55 (fun q6 H hP hD hS => ?_)
  have hP : va_P (dC, dI) vwCl [(hH, .inr (0, [.ref q0, .ref q1, .ref q2, .ref q3, .ref q4, .ref q5, .null, .null, .null])), (q0, .inl (cI, 40, .inl (fun _ => 0))), (q1, .inl (cI, 40, .inl (fun _ => 0))), (q2, .inl (cZ, 40, .inl (fun _ => 0))), (q3, .inl (cI, 40, .inl (fun _ => 0))), (q4, .inl (cI, 60, .inl (fun _ => 0))), (q5, .inl (cI, 60, .inl (fun _ => 0))), (q6, .inl (cZ, 60, .inl (fun _ => 0)))] H := hP
  have hD : va_D A [(hH, .inr (0, [.ref q0, .ref q1, .ref q2, .ref q3, .ref q4, .ref q5, .null, .null, .null])), (q0, .inl (cI, 40, .inl (fun _ => 0))), (q1, .inl (cI, 40, .inl (fun _ => 0))), (q2, .inl (cZ, 40, .inl (fun _ => 0))), (q3, .inl (cI, 40, .inl (fun _ => 0))), (q4, .inl (cI, 60, .inl (fun _ => 0))), (q5, .inl (cI, 60, .inl (fun _ => 0))), (q6, .inl (cZ, 60, .inl (fun _ => 0)))] := hD
  refine W.widen (k := 7) (n := 340) (by omega) (by omega) ?_
  refine va_putF (D := (dC, dI)) (ci := 0) (v := .ref q6) (ty := (.array .boolean)) (C := R_House) (T := T_House) (N := 9) hx hb hts in_House ty_House tyok_House nm_House hown hK hP hD hS 0 rfl rfl 6 (by decide) (hts _ mw_55) (fun _ h9 => h9) rfl hin rfl (by decide +kernel) rfl rfl (Nat.le_of_ble_eq_true rfl) d_HouseI_57 (fun H locs hP hD hS => ?_)
  have hP : va_P (dC, dI) vwCl [(hH, .inr (0, [.ref q0, .ref q1, .ref q2, .ref q3, .ref q4, .ref q5, .ref q6, .null, .null])), (q0, .inl (cI, 40, .inl (fun _ => 0))), (q1, .inl (cI, 40, .inl (fun _ => 0))), (q2, .inl (cZ, 40, .inl (fun _ => 0))), (q3, .inl (cI, 40, .inl (fun _ => 0))), (q4, .inl (cI, 60, .inl (fun _ => 0))), (q5, .inl (cI, 60, .inl (fun _ => 0))), (q6, .inl (cZ, 60, .inl (fun _ => 0)))] H := hP
  have hD : va_D A [(hH, .inr (0, [.ref q0, .ref q1, .ref q2, .ref q3, .ref q4, .ref q5, .ref q6, .null, .null])), (q0, .inl (cI, 40, .inl (fun _ => 0))), (q1, .inl (cI, 40, .inl (fun _ => 0))), (q2, .inl (cZ, 40, .inl (fun _ => 0))), (q3, .inl (cI, 40, .inl (fun _ => 0))), (q4, .inl (cI, 60, .inl (fun _ => 0))), (q5, .inl (cI, 60, .inl (fun _ => 0))), (q6, .inl (cZ, 60, .inl (fun _ => 0)))] := hD
  refine lv_aload_n hx hb d_HouseI_60 rfl (lv_at hl 0 rfl) ?_
  refine lv_bipush (v := 60) hx hb d_HouseI_61 (by decide) ?_
  refine xn_I (N := 60) (cI := cI) hx hb (hts _ mw_80) hK 0 rfl hP hD hS hA (by decide) (by decide) (by decide) (show 7 + 1 ≤ 9 by omega) (show 340 + 60 ≤ 410 by omega) d_HouseI_63 (fun q7 H hP hD hS => ?_)
  have hP : va_P (dC, dI) vwCl [(hH, .inr (0, [.ref q0, .ref q1, .ref q2, .ref q3, .ref q4, .ref q5, .ref q6, .null, .null])), (q0, .inl (cI, 40, .inl (fun _ => 0))), (q1, .inl (cI, 40, .inl (fun _ => 0))), (q2, .inl (cZ, 40, .inl (fun _ => 0))), (q3, .inl (cI, 40, .inl (fun _ => 0))), (q4, .inl (cI, 60, .inl (fun _ => 0))), (q5, .inl (cI, 60, .inl (fun _ => 0))), (q6, .inl (cZ, 60, .inl (fun _ => 0))), (q7, .inl (cI, 60, .inl (fun _ => 0)))] H := hP
  have hD : va_D A [(hH, .inr (0, [.ref q0, .ref q1, .ref q2, .ref q3, .ref q4, .ref q5, .ref q6, .null, .null])), (q0, .inl (cI, 40, .inl (fun _ => 0))), (q1, .inl (cI, 40, .inl (fun _ => 0))), (q2, .inl (cZ, 40, .inl (fun _ => 0))), (q3, .inl (cI, 40, .inl (fun _ => 0))), (q4, .inl (cI, 60, .inl (fun _ => 0))), (q5, .inl (cI, 60, .inl (fun _ => 0))), (q6, .inl (cZ, 60, .inl (fun _ => 0))), (q7, .inl (cI, 60, .inl (fun _ => 0)))] := hD
  refine W.widen (k := 8) (n := 400) (by omega) (by omega) ?_
  refine va_putF (D := (dC, dI)) (ci := 0) (v := .ref q7) (ty := (.array .int)) (C := R_House) (T := T_House) (N := 9) hx hb hts in_House ty_House tyok_House nm_House hown hK hP hD hS 0 rfl rfl 7 (by decide) (hts _ mw_57) (fun _ h9 => h9) rfl hin rfl (by decide +kernel) rfl rfl (Nat.le_of_ble_eq_true rfl) d_HouseI_65 (fun H locs hP hD hS => ?_)
  have hP : va_P (dC, dI) vwCl [(hH, .inr (0, [.ref q0, .ref q1, .ref q2, .ref q3, .ref q4, .ref q5, .ref q6, .ref q7, .null])), (q0, .inl (cI, 40, .inl (fun _ => 0))), (q1, .inl (cI, 40, .inl (fun _ => 0))), (q2, .inl (cZ, 40, .inl (fun _ => 0))), (q3, .inl (cI, 40, .inl (fun _ => 0))), (q4, .inl (cI, 60, .inl (fun _ => 0))), (q5, .inl (cI, 60, .inl (fun _ => 0))), (q6, .inl (cZ, 60, .inl (fun _ => 0))), (q7, .inl (cI, 60, .inl (fun _ => 0)))] H := hP
  have hD : va_D A [(hH, .inr (0, [.ref q0, .ref q1, .ref q2, .ref q3, .ref q4, .ref q5, .ref q6, .ref q7, .null])), (q0, .inl (cI, 40, .inl (fun _ => 0))), (q1, .inl (cI, 40, .inl (fun _ => 0))), (q2, .inl (cZ, 40, .inl (fun _ => 0))), (q3, .inl (cI, 40, .inl (fun _ => 0))), (q4, .inl (cI, 60, .inl (fun _ => 0))), (q5, .inl (cI, 60, .inl (fun _ => 0))), (q6, .inl (cZ, 60, .inl (fun _ => 0))), (q7, .inl (cI, 60, .inl (fun _ => 0)))] := hD
  refine lv_aload_n hx hb d_HouseI_68 rfl (lv_at hl 0 rfl) ?_
  refine lv_bipush (v := 10) hx hb d_HouseI_69 (by decide) ?_
  refine xn_I (N := 10) (cI := cI) hx hb (hts _ mw_80) hK 0 rfl hP hD hS hA (by decide) (by decide) (by decide) (show 8 + 1 ≤ 9 by omega) (show 400 + 10 ≤ 410 by omega) d_HouseI_71 (fun q8 H hP hD hS => ?_)
  have hP : va_P (dC, dI) vwCl [(hH, .inr (0, [.ref q0, .ref q1, .ref q2, .ref q3, .ref q4, .ref q5, .ref q6, .ref q7, .null])), (q0, .inl (cI, 40, .inl (fun _ => 0))), (q1, .inl (cI, 40, .inl (fun _ => 0))), (q2, .inl (cZ, 40, .inl (fun _ => 0))), (q3, .inl (cI, 40, .inl (fun _ => 0))), (q4, .inl (cI, 60, .inl (fun _ => 0))), (q5, .inl (cI, 60, .inl (fun _ => 0))), (q6, .inl (cZ, 60, .inl (fun _ => 0))), (q7, .inl (cI, 60, .inl (fun _ => 0))), (q8, .inl (cI, 10, .inl (fun _ => 0)))] H := hP
  have hD : va_D A [(hH, .inr (0, [.ref q0, .ref q1, .ref q2, .ref q3, .ref q4, .ref q5, .ref q6, .ref q7, .null])), (q0, .inl (cI, 40, .inl (fun _ => 0))), (q1, .inl (cI, 40, .inl (fun _ => 0))), (q2, .inl (cZ, 40, .inl (fun _ => 0))), (q3, .inl (cI, 40, .inl (fun _ => 0))), (q4, .inl (cI, 60, .inl (fun _ => 0))), (q5, .inl (cI, 60, .inl (fun _ => 0))), (q6, .inl (cZ, 60, .inl (fun _ => 0))), (q7, .inl (cI, 60, .inl (fun _ => 0))), (q8, .inl (cI, 10, .inl (fun _ => 0)))] := hD
  refine W.widen (k := 9) (n := 410) (by omega) (by omega) ?_
  refine va_putF (D := (dC, dI)) (ci := 0) (v := .ref q8) (ty := (.array .int)) (C := R_House) (T := T_House) (N := 9) hx hb hts in_House ty_House tyok_House nm_House hown hK hP hD hS 0 rfl rfl 8 (by decide) (hts _ mw_59) (fun _ h9 => h9) rfl hin rfl (by decide +kernel) rfl rfl (Nat.le_of_ble_eq_true rfl) d_HouseI_73 (fun H locs hP hD hS => ?_)
  have hP : va_P (dC, dI) vwCl [(hH, .inr (0, [.ref q0, .ref q1, .ref q2, .ref q3, .ref q4, .ref q5, .ref q6, .ref q7, .ref q8])), (q0, .inl (cI, 40, .inl (fun _ => 0))), (q1, .inl (cI, 40, .inl (fun _ => 0))), (q2, .inl (cZ, 40, .inl (fun _ => 0))), (q3, .inl (cI, 40, .inl (fun _ => 0))), (q4, .inl (cI, 60, .inl (fun _ => 0))), (q5, .inl (cI, 60, .inl (fun _ => 0))), (q6, .inl (cZ, 60, .inl (fun _ => 0))), (q7, .inl (cI, 60, .inl (fun _ => 0))), (q8, .inl (cI, 10, .inl (fun _ => 0)))] H := hP
  have hD : va_D A [(hH, .inr (0, [.ref q0, .ref q1, .ref q2, .ref q3, .ref q4, .ref q5, .ref q6, .ref q7, .ref q8])), (q0, .inl (cI, 40, .inl (fun _ => 0))), (q1, .inl (cI, 40, .inl (fun _ => 0))), (q2, .inl (cZ, 40, .inl (fun _ => 0))), (q3, .inl (cI, 40, .inl (fun _ => 0))), (q4, .inl (cI, 60, .inl (fun _ => 0))), (q5, .inl (cI, 60, .inl (fun _ => 0))), (q6, .inl (cZ, 60, .inl (fun _ => 0))), (q7, .inl (cI, 60, .inl (fun _ => 0))), (q8, .inl (cI, 10, .inl (fun _ => 0)))] := hD
  refine lv_aload_n hx hb d_HouseI_76 rfl (lv_at hl 0 rfl) ?_
  refine va_get (D := (dC, dI)) (ci := 0) (v := .ref q4) (C := R_House) (T := T_House) (N := 9) hx hb hts in_House hown hK hP 0 rfl rfl 4 (by decide) (hts _ mw_51) (fun _ h9 => h9) rfl d_HouseI_77 ?_
  refine lv_iconst (v := -1) hx hb d_HouseI_80 (by decide) ?_
  refine xc_SWv (As := [.ref q4, .int (-1)]) (rest := []) (wr := [(hH, .inr (0, [.ref q0, .ref q1, .ref q2, .ref q3, .ref q4, .ref q5, .ref q6, .ref q7, .ref q8])), (q0, .inl (cI, 40, .inl (fun _ => 0))), (q1, .inl (cI, 40, .inl (fun _ => 0))), (q2, .inl (cZ, 40, .inl (fun _ => 0))), (q3, .inl (cI, 40, .inl (fun _ => 0))), (q5, .inl (cI, 60, .inl (fun _ => 0))), (q6, .inl (cZ, 60, .inl (fun _ => 0))), (q7, .inl (cI, 60, .inl (fun _ => 0))), (q8, .inl (cI, 10, .inl (fun _ => 0)))]) ⟨hx, hb, hml, hown, hts⟩ hT hK hP hD hS hA (c_fill l dC dI cI cZ 60 q4 H.size (fun _ => fun _ => 0) (-1) (by decide)) [5] [0, 1, 2, 3, 4, 6, 7, 8, 9] rfl (by decide) rfl (by decide) (by decide) ⟨xw_B 2 hts mw_42 mw_16 mw_40 rfl rfl (by decide +kernel) ⟨Nat.le_of_ble_eq_true rfl, Nat.le_of_ble_eq_true rfl⟩, hts _ mw_41⟩ rfl hl.1 rfl (Nat.le_of_ble_eq_true rfl) d_HouseI_81 ⟨(show 9 + 0 ≤ 9 by omega), (show 410 + 0 ≤ 410 by omega)⟩ (fun u H locs hw hP hD hS => ?_)
  obtain rfl := hw
  have hP : va_P (dC, dI) vwCl [(hH, .inr (0, [.ref q0, .ref q1, .ref q2, .ref q3, .ref q4, .ref q5, .ref q6, .ref q7, .ref q8])), (q0, .inl (cI, 40, .inl (fun _ => 0))), (q1, .inl (cI, 40, .inl (fun _ => 0))), (q2, .inl (cZ, 40, .inl (fun _ => 0))), (q3, .inl (cI, 40, .inl (fun _ => 0))), (q4, .inl (cI, 60, .inl (fil (fun _ => 0) (-1) 60))), (q5, .inl (cI, 60, .inl (fun _ => 0))), (q6, .inl (cZ, 60, .inl (fun _ => 0))), (q7, .inl (cI, 60, .inl (fun _ => 0))), (q8, .inl (cI, 10, .inl (fun _ => 0)))] H := hP.sub [0, 1, 2, 3, 4, 9, 5, 6, 7, 8] rfl
  have hD : va_D A [(hH, .inr (0, [.ref q0, .ref q1, .ref q2, .ref q3, .ref q4, .ref q5, .ref q6, .ref q7, .ref q8])), (q0, .inl (cI, 40, .inl (fun _ => 0))), (q1, .inl (cI, 40, .inl (fun _ => 0))), (q2, .inl (cZ, 40, .inl (fun _ => 0))), (q3, .inl (cI, 40, .inl (fun _ => 0))), (q4, .inl (cI, 60, .inl (fil (fun _ => 0) (-1) 60))), (q5, .inl (cI, 60, .inl (fun _ => 0))), (q6, .inl (cZ, 60, .inl (fun _ => 0))), (q7, .inl (cI, 60, .inl (fun _ => 0))), (q8, .inl (cI, 10, .inl (fun _ => 0)))] := hD.sub [0, 1, 2, 3, 4, 9, 5, 6, 7, 8] (by decide) rfl
  refine lv_aload_n hx hb d_HouseI_84 rfl (lv_at hl 0 rfl) ?_
  refine va_get (D := (dC, dI)) (ci := 0) (v := .ref q5) (C := R_House) (T := T_House) (N := 9) hx hb hts in_House hown hK hP 0 rfl rfl 5 (by decide) (hts _ mw_53) (fun _ h9 => h9) rfl d_HouseI_85 ?_
  refine lv_iconst (v := -1) hx hb d_HouseI_88 (by decide) ?_
  refine xc_SWv (As := [.ref q5, .int (-1)]) (rest := []) (wr := [(hH, .inr (0, [.ref q0, .ref q1, .ref q2, .ref q3, .ref q4, .ref q5, .ref q6, .ref q7, .ref q8])), (q0, .inl (cI, 40, .inl (fun _ => 0))), (q1, .inl (cI, 40, .inl (fun _ => 0))), (q2, .inl (cZ, 40, .inl (fun _ => 0))), (q3, .inl (cI, 40, .inl (fun _ => 0))), (q4, .inl (cI, 60, .inl (fil (fun _ => 0) (-1) 60))), (q6, .inl (cZ, 60, .inl (fun _ => 0))), (q7, .inl (cI, 60, .inl (fun _ => 0))), (q8, .inl (cI, 10, .inl (fun _ => 0)))]) ⟨hx, hb, hml, hown, hts⟩ hT hK hP hD hS hA (c_fill l dC dI cI cZ 60 q5 H.size (fun _ => fun _ => 0) (-1) (by decide)) [6] [0, 1, 2, 3, 4, 5, 7, 8, 9] rfl (by decide) rfl (by decide) (by decide) ⟨xw_B 2 hts mw_42 mw_16 mw_40 rfl rfl (by decide +kernel) ⟨Nat.le_of_ble_eq_true rfl, Nat.le_of_ble_eq_true rfl⟩, hts _ mw_41⟩ rfl hl.1 rfl (Nat.le_of_ble_eq_true rfl) d_HouseI_89 ⟨(show 9 + 0 ≤ 9 by omega), (show 410 + 0 ≤ 410 by omega)⟩ (fun u H locs hw hP hD hS => ?_)
  obtain rfl := hw
  have hP : va_P (dC, dI) vwCl [(hH, .inr (0, [.ref q0, .ref q1, .ref q2, .ref q3, .ref q4, .ref q5, .ref q6, .ref q7, .ref q8])), (q0, .inl (cI, 40, .inl (fun _ => 0))), (q1, .inl (cI, 40, .inl (fun _ => 0))), (q2, .inl (cZ, 40, .inl (fun _ => 0))), (q3, .inl (cI, 40, .inl (fun _ => 0))), (q4, .inl (cI, 60, .inl (fil (fun _ => 0) (-1) 60))), (q5, .inl (cI, 60, .inl (fil (fun _ => 0) (-1) 60))), (q6, .inl (cZ, 60, .inl (fun _ => 0))), (q7, .inl (cI, 60, .inl (fun _ => 0))), (q8, .inl (cI, 10, .inl (fun _ => 0)))] H := hP.sub [0, 1, 2, 3, 4, 5, 9, 6, 7, 8] rfl
  have hD : va_D A [(hH, .inr (0, [.ref q0, .ref q1, .ref q2, .ref q3, .ref q4, .ref q5, .ref q6, .ref q7, .ref q8])), (q0, .inl (cI, 40, .inl (fun _ => 0))), (q1, .inl (cI, 40, .inl (fun _ => 0))), (q2, .inl (cZ, 40, .inl (fun _ => 0))), (q3, .inl (cI, 40, .inl (fun _ => 0))), (q4, .inl (cI, 60, .inl (fil (fun _ => 0) (-1) 60))), (q5, .inl (cI, 60, .inl (fil (fun _ => 0) (-1) 60))), (q6, .inl (cZ, 60, .inl (fun _ => 0))), (q7, .inl (cI, 60, .inl (fun _ => 0))), (q8, .inl (cI, 10, .inl (fun _ => 0)))] := hD.sub [0, 1, 2, 3, 4, 5, 9, 6, 7, 8] (by decide) rfl
  refine lv_aload_n hx hb d_HouseI_92 rfl (lv_at hl 0 rfl) ?_
  refine va_get (D := (dC, dI)) (ci := 0) (v := .ref q7) (C := R_House) (T := T_House) (N := 9) hx hb hts in_House hown hK hP 0 rfl rfl 7 (by decide) (hts _ mw_57) (fun _ h9 => h9) rfl d_HouseI_93 ?_
  refine lv_iconst (v := -1) hx hb d_HouseI_96 (by decide) ?_
  refine xc_SWv (As := [.ref q7, .int (-1)]) (rest := []) (wr := [(hH, .inr (0, [.ref q0, .ref q1, .ref q2, .ref q3, .ref q4, .ref q5, .ref q6, .ref q7, .ref q8])), (q0, .inl (cI, 40, .inl (fun _ => 0))), (q1, .inl (cI, 40, .inl (fun _ => 0))), (q2, .inl (cZ, 40, .inl (fun _ => 0))), (q3, .inl (cI, 40, .inl (fun _ => 0))), (q4, .inl (cI, 60, .inl (fil (fun _ => 0) (-1) 60))), (q5, .inl (cI, 60, .inl (fil (fun _ => 0) (-1) 60))), (q6, .inl (cZ, 60, .inl (fun _ => 0))), (q8, .inl (cI, 10, .inl (fun _ => 0)))]) ⟨hx, hb, hml, hown, hts⟩ hT hK hP hD hS hA (c_fill l dC dI cI cZ 60 q7 H.size (fun _ => fun _ => 0) (-1) (by decide)) [8] [0, 1, 2, 3, 4, 5, 6, 7, 9] rfl (by decide) rfl (by decide) (by decide) ⟨xw_B 2 hts mw_42 mw_16 mw_40 rfl rfl (by decide +kernel) ⟨Nat.le_of_ble_eq_true rfl, Nat.le_of_ble_eq_true rfl⟩, hts _ mw_41⟩ rfl hl.1 rfl (Nat.le_of_ble_eq_true rfl) d_HouseI_97 ⟨(show 9 + 0 ≤ 9 by omega), (show 410 + 0 ≤ 410 by omega)⟩ (fun u H locs hw hP hD hS => ?_)
  obtain rfl := hw
  have hP : va_P (dC, dI) vwCl [(hH, .inr (0, [.ref q0, .ref q1, .ref q2, .ref q3, .ref q4, .ref q5, .ref q6, .ref q7, .ref q8])), (q0, .inl (cI, 40, .inl (fun _ => 0))), (q1, .inl (cI, 40, .inl (fun _ => 0))), (q2, .inl (cZ, 40, .inl (fun _ => 0))), (q3, .inl (cI, 40, .inl (fun _ => 0))), (q4, .inl (cI, 60, .inl (fil (fun _ => 0) (-1) 60))), (q5, .inl (cI, 60, .inl (fil (fun _ => 0) (-1) 60))), (q6, .inl (cZ, 60, .inl (fun _ => 0))), (q7, .inl (cI, 60, .inl (fil (fun _ => 0) (-1) 60))), (q8, .inl (cI, 10, .inl (fun _ => 0)))] H := hP.sub [0, 1, 2, 3, 4, 5, 6, 7, 9, 8] rfl
  have hD : va_D A [(hH, .inr (0, [.ref q0, .ref q1, .ref q2, .ref q3, .ref q4, .ref q5, .ref q6, .ref q7, .ref q8])), (q0, .inl (cI, 40, .inl (fun _ => 0))), (q1, .inl (cI, 40, .inl (fun _ => 0))), (q2, .inl (cZ, 40, .inl (fun _ => 0))), (q3, .inl (cI, 40, .inl (fun _ => 0))), (q4, .inl (cI, 60, .inl (fil (fun _ => 0) (-1) 60))), (q5, .inl (cI, 60, .inl (fil (fun _ => 0) (-1) 60))), (q6, .inl (cZ, 60, .inl (fun _ => 0))), (q7, .inl (cI, 60, .inl (fil (fun _ => 0) (-1) 60))), (q8, .inl (cI, 10, .inl (fun _ => 0)))] := hD.sub [0, 1, 2, 3, 4, 5, 6, 7, 9, 8] (by decide) rfl
  refine lv_aload_n hx hb d_HouseI_100 rfl (lv_at hl 0 rfl) ?_
  refine va_get (D := (dC, dI)) (ci := 0) (v := .ref q8) (C := R_House) (T := T_House) (N := 9) hx hb hts in_House hown hK hP 0 rfl rfl 8 (by decide) (hts _ mw_59) (fun _ h9 => h9) rfl d_HouseI_101 ?_
  refine lv_iconst (v := -1) hx hb d_HouseI_104 (by decide) ?_
  refine xc_SWv (As := [.ref q8, .int (-1)]) (rest := []) (wr := [(hH, .inr (0, [.ref q0, .ref q1, .ref q2, .ref q3, .ref q4, .ref q5, .ref q6, .ref q7, .ref q8])), (q0, .inl (cI, 40, .inl (fun _ => 0))), (q1, .inl (cI, 40, .inl (fun _ => 0))), (q2, .inl (cZ, 40, .inl (fun _ => 0))), (q3, .inl (cI, 40, .inl (fun _ => 0))), (q4, .inl (cI, 60, .inl (fil (fun _ => 0) (-1) 60))), (q5, .inl (cI, 60, .inl (fil (fun _ => 0) (-1) 60))), (q6, .inl (cZ, 60, .inl (fun _ => 0))), (q7, .inl (cI, 60, .inl (fil (fun _ => 0) (-1) 60)))]) ⟨hx, hb, hml, hown, hts⟩ hT hK hP hD hS hA (c_fill l dC dI cI cZ 10 q8 H.size (fun _ => fun _ => 0) (-1) (by decide)) [9] [0, 1, 2, 3, 4, 5, 6, 7, 8] rfl (by decide) rfl (by decide) (by decide) ⟨xw_B 2 hts mw_42 mw_16 mw_40 rfl rfl (by decide +kernel) ⟨Nat.le_of_ble_eq_true rfl, Nat.le_of_ble_eq_true rfl⟩, hts _ mw_41⟩ rfl hl.1 rfl (Nat.le_of_ble_eq_true rfl) d_HouseI_105 ⟨(show 9 + 0 ≤ 9 by omega), (show 410 + 0 ≤ 410 by omega)⟩ (fun u H locs hw hP hD hS => ?_)
  obtain rfl := hw
  have hP : va_P (dC, dI) vwCl [(hH, .inr (0, [.ref q0, .ref q1, .ref q2, .ref q3, .ref q4, .ref q5, .ref q6, .ref q7, .ref q8])), (q0, .inl (cI, 40, .inl (fun _ => 0))), (q1, .inl (cI, 40, .inl (fun _ => 0))), (q2, .inl (cZ, 40, .inl (fun _ => 0))), (q3, .inl (cI, 40, .inl (fun _ => 0))), (q4, .inl (cI, 60, .inl (fil (fun _ => 0) (-1) 60))), (q5, .inl (cI, 60, .inl (fil (fun _ => 0) (-1) 60))), (q6, .inl (cZ, 60, .inl (fun _ => 0))), (q7, .inl (cI, 60, .inl (fil (fun _ => 0) (-1) 60))), (q8, .inl (cI, 10, .inl (fil (fun _ => 0) (-1) 10)))] H := hP.sub [0, 1, 2, 3, 4, 5, 6, 7, 8, 9] rfl
  have hD : va_D A [(hH, .inr (0, [.ref q0, .ref q1, .ref q2, .ref q3, .ref q4, .ref q5, .ref q6, .ref q7, .ref q8])), (q0, .inl (cI, 40, .inl (fun _ => 0))), (q1, .inl (cI, 40, .inl (fun _ => 0))), (q2, .inl (cZ, 40, .inl (fun _ => 0))), (q3, .inl (cI, 40, .inl (fun _ => 0))), (q4, .inl (cI, 60, .inl (fil (fun _ => 0) (-1) 60))), (q5, .inl (cI, 60, .inl (fil (fun _ => 0) (-1) 60))), (q6, .inl (cZ, 60, .inl (fun _ => 0))), (q7, .inl (cI, 60, .inl (fil (fun _ => 0) (-1) 60))), (q8, .inl (cI, 10, .inl (fil (fun _ => 0) (-1) 10)))] := hD.sub [0, 1, 2, 3, 4, 5, 6, 7, 8, 9] (by decide) rfl
  refine lv_iconst (v := 0) hx hb d_HouseI_108 (by decide) ?_
  refine lv_istore_n (lv' := [(1, .int 0), (0, .ref hH)]) hx hb d_HouseI_109 rfl hl (by decide) rfl (fun ls hl => ?_)
  refine lp_mark (η := ηI) (hH := hH) (hH0 := q0) (hH1 := q1) (hH2 := q2) (hH3 := q3) (hH4 := q4) (hH5 := q5) (hH6 := q6) (hH7 := q7) (hH8 := q8) hx hb hml hT hts hown hK hA (fun ls H locs hP hD hS => ?_) 61 0 ls (by omega) (by omega) _ _ (by rw [fil_0]; exact hP) (by rw [fil_0]; exact hD) hS (lv_sub hl [1, 0] rfl)
  exact W.vret hx hb hr (fun t ht hW => ⟨⟨(fun k : Nat => match k with | 0 => q0 | 1 => q1 | 2 => q2 | 3 => q3 | 4 => q4 | 5 => q5 | 6 => q6 | 7 => q7 | _ => q8), rfl, trivial, by rw [ht]; exact hP, hD⟩, hS.F ht⟩) hS.2.2 d_HouseI_129
theorem mx0 (mo : Nat) (h : mo ≤ 100) : (if (0 : Int32) < nI mo then nI mo else 0) = nI mo := by
  rcases Nat.eq_zero_or_pos mo with q | q
  · subst q; rfl
  · exact if_pos (by rw [← nI_0]; exact nI_lt q (by omega))
def F_mo (q : Int32) : Nat := (if (0 : Int32) < (if q < 100 then q else 100) then (if q < 100 then q else 100) else 0).toNatClampNeg
theorem mo_ok (q : Int32) : (if (0 : Int32) < (if q < 100 then q else 100) then (if q < 100 then q else 100) else 0) = nI (F_mo q) ∧ F_mo q ≤ 100 := by
  have key : ∀ x : Int32, ¬ x < 0 → x ≤ 100 → x = nI x.toNatClampNeg ∧ x.toNatClampNeg ≤ 100 := by
    intro x h0 h1
    obtain ⟨j, hj, rfl⟩ := nI_of2 (M := 100) (n := 100) (by decide) h0 h1
    rw [nI_clamp (by omega)]
    exact ⟨rfl, hj⟩
  unfold F_mo
  have e0 : Int32.toInt 0 = 0 := rfl
  have e1 : Int32.toInt 100 = 100 := rfl
  have hy : (if q < 100 then q else 100) ≤ (100 : Int32) := by
    by_cases h : q < 100
    · rw [if_pos h]; rw [Int32.lt_iff_toInt_lt] at h; rw [Int32.le_iff_toInt_le]; omega
    · rw [if_neg h]; decide
  generalize (if q < 100 then q else (100 : Int32)) = y at hy ⊢
  by_cases h : (0 : Int32) < y
  · rw [if_pos h]
    refine key _ ?_ hy
    intro h2
    rw [Int32.lt_iff_toInt_lt] at h h2
    omega
  · rw [if_neg h]
    exact key _ (by decide) (by decide)
set_option maxHeartbeats 4000000 in
set_option maxRecDepth 100000 in
theorem c_RowI (l : Launch) (dC : Nat → ClassId) (dI : Nat → Nat → Nat) (cI cZ : ClassId) (mo : Nat) (kR : Nat) (sz : Nat) (hmo : mo ≤ 100) : Met l y_RowI [Cond.code y_RowI prog_3_method_1_code 3 none] ({ frames := 1, cells := 2, slots := 200, locals := 13 }) (pcW (dC, dI) [(kR, .inr (1, [.null, .null, .int 0]))] (tyC cI cZ) sz [.ref kR, .int (nI mo)]) (qV (fun u : Nat → Nat => True) (dC, dI) (fun u => w_Row cI cZ mo kR (u 0) (u 1) (κ0 0) (κ0 1) (κ0 2 0)) (va_A [(kR, .inr (1, [.null, .null, .int 0]))] sz)) 2 200 (va_A [(kR, .inr (1, [.null, .null, .int 0]))] sz) := by
  refine Met.ofW (cc := prog_3_method_1_code) (maxL := 3) (ret := none) (by decide) rfl ?_
  intro p e s m args below meth c s₁ B hml hv
  obtain ⟨rfl, hsz, hT, hP, hK, hD0⟩ := hv
  have hx := B.exec
  have hb := B.bytes
  have hr := B.returns
  have hts : ∀ w ∈ lw_ok, w.before ([.ref kR, .int (nI mo)] : List Value).toArray s = true := hT.use
  have hown : s.vm.findClass R_Row = some m.cls := findClass_of_methodNamed B.named
  have hlocks := B.notSynchronized
  have hin : meth.name = "<init>" := (name_of_methodNamed B.named B.method).1
  subst hsz
  have hD := hD0.self (sz := s.heap.size)
  generalize hAe : va_A [(kR, .inr (1, [.null, .null, .int 0]))] s.heap.size = A at hD ⊢
  have hA : ∀ q : Nat, s.heap.size ≤ q → A q := fun q h => by rw [← hAe]; exact Or.inr h
  have hS : va_S A s.heap s.heap [] := va_S.rf
  have hl := lv_entry ([.ref kR, .int (nI mo)]) (n := 3) (Nat.le_of_ble_eq_true rfl)
  rw [lg_entry_eq]
  generalize (lg_sl ([.ref kR, .int (nI mo)]) ++ List.replicate (3 - (lg_sl ([.ref kR, .int (nI mo)])).length) Slot.unset).toArray = ls at hl ⊢
  have hl : lv_has ls 3 [(0, .ref kR), (1, .int (nI mo))] := hl
  refine lv_aload_n hx hb d_RowI_0 rfl (lv_at hl 0 rfl) ?_
  refine W.objInit hx hb hown (hts _ mw_87) (hts _ mw_26) (hts _ mw_27) rfl (by rw [hml]; exact hl.1) rfl d_RowI_1 (Nat.le_of_ble_eq_true rfl) (Nat.le_of_ble_eq_true rfl) ?_
  refine W.eq (g2 := F0 m 4 ls []) rfl ?_
  refine lv_iconst (v := 0) hx hb d_RowI_4 (by decide) ?_
  refine lv_iload_n hx hb d_RowI_5 rfl (lv_at hl 1 rfl) ?_
  refine va_mmax hx hb (by rw [hml]; exact hl.1.symm) hown (hts _ mw_88) (hts _ mw_32) (hts _ mw_14) (hts _ mw_33) (Nat.le_of_ble_eq_true rfl) (Nat.le_of_ble_eq_true rfl) (Nat.le_of_ble_eq_true rfl) (Nat.le_of_ble_eq_true rfl) d_RowI_6 ?_
  rw [mx0 mo hmo]
  refine lv_istore_n (lv' := [(2, .int (nI mo)), (0, .ref kR), (1, .int (nI mo))]) hx hb d_RowI_9 rfl hl (by decide) rfl (fun ls hl => ?_)
  refine lv_aload_n hx hb d_RowI_10 rfl (lv_at hl 1 rfl) ?_
  refine lv_iload_n hx hb d_RowI_11 rfl (lv_at hl 0 rfl) ?_
  refine xn_I (N := mo) (cI := cI) hx hb (hts _ mw_80) hK 0 rfl hP hD hS hA (nI_pos (by omega)) (nI_clamp (by omega)) (by show mo * 4 ≤ _; omega) (show 0 + 1 ≤ 2 by omega) (show 0 + mo ≤ 200 by omega) d_RowI_12 (fun q0 H hP hD hS => ?_)
  have hP : va_P (dC, dI) vwCl [(kR, .inr (1, [.null, .null, .int 0])), (q0, .inl (cI, mo, .inl (fun _ => 0)))] H := hP
  have hD : va_D A [(kR, .inr (1, [.null, .null, .int 0])), (q0, .inl (cI, mo, .inl (fun _ => 0)))] := hD
  refine W.widen (k := 1) (n := 0 + mo) (by omega) (by omega) ?_
  refine va_putF (D := (dC, dI)) (ci := 1) (v := .ref q0) (ty := (.array .int)) (C := R_Row) (T := T_Row) (N := 3) hx hb hts in_Row ty_Row tyok_Row nm_Row hown hK hP hD hS 0 rfl rfl 0 (by decide) (hts _ mw_89) (fun _ h9 => h9) rfl hin rfl (by decide +kernel) rfl rfl (Nat.le_of_ble_eq_true rfl) d_RowI_14 (fun H locs hP hD hS => ?_)
  have hP : va_P (dC, dI) vwCl [(kR, .inr (1, [.ref q0, .null, .int 0])), (q0, .inl (cI, mo, .inl (fun _ => 0)))] H := hP
  have hD : va_D A [(kR, .inr (1, [.ref q0, .null, .int 0])), (q0, .inl (cI, mo, .inl (fun _ => 0)))] := hD
  refine lv_aload_n hx hb d_RowI_17 rfl (lv_at hl 1 rfl) ?_
  refine lv_iload_n hx hb d_RowI_18 rfl (lv_at hl 0 rfl) ?_
  refine xn_I (N := mo) (cI := cI) hx hb (hts _ mw_80) hK 0 rfl hP hD hS hA (nI_pos (by omega)) (nI_clamp (by omega)) (by show mo * 4 ≤ _; omega) (show 1 + 1 ≤ 2 by omega) (show 0 + mo + mo ≤ 200 by omega) d_RowI_19 (fun q1 H hP hD hS => ?_)
  have hP : va_P (dC, dI) vwCl [(kR, .inr (1, [.ref q0, .null, .int 0])), (q0, .inl (cI, mo, .inl (fun _ => 0))), (q1, .inl (cI, mo, .inl (fun _ => 0)))] H := hP
  have hD : va_D A [(kR, .inr (1, [.ref q0, .null, .int 0])), (q0, .inl (cI, mo, .inl (fun _ => 0))), (q1, .inl (cI, mo, .inl (fun _ => 0)))] := hD
  refine W.widen (k := 2) (n := 0 + mo + mo) (by omega) (by omega) ?_
  refine va_putF (D := (dC, dI)) (ci := 1) (v := .ref q1) (ty := (.array .int)) (C := R_Row) (T := T_Row) (N := 3) hx hb hts in_Row ty_Row tyok_Row nm_Row hown hK hP hD hS 0 rfl rfl 1 (by decide) (hts _ mw_91) (fun _ h9 => h9) rfl hin rfl (by decide +kernel) rfl rfl (Nat.le_of_ble_eq_true rfl) d_RowI_21 (fun H locs hP hD hS => ?_)
  have hP : va_P (dC, dI) vwCl [(kR, .inr (1, [.ref q0, .ref q1, .int 0])), (q0, .inl (cI, mo, .inl (fun _ => 0))), (q1, .inl (cI, mo, .inl (fun _ => 0)))] H := hP
  have hD : va_D A [(kR, .inr (1, [.ref q0, .ref q1, .int 0])), (q0, .inl (cI, mo, .inl (fun _ => 0))), (q1, .inl (cI, mo, .inl (fun _ => 0)))] := hD
  refine lv_aload_n hx hb d_RowI_24 rfl (lv_at hl 1 rfl) ?_
  refine lv_iconst (v := 0) hx hb d_RowI_25 (by decide) ?_
  refine va_put (D := (dC, dI)) (ci := 1) (v := .int 0) (ty := .int) (C := R_Row) (T := T_Row) (N := 3) hx hb hts in_Row ty_Row tyok_Row nm_Row hown hK hP hD hS 0 rfl rfl 2 (by decide) (hts _ mw_93) (fun _ h9 => h9) rfl (by decide +kernel) rfl rfl (Nat.le_of_ble_eq_true rfl) d_RowI_26 (fun H locs hP hD hS => ?_)
  have hP : va_P (dC, dI) vwCl [(kR, .inr (1, [.ref q0, .ref q1, .int 0])), (q0, .inl (cI, mo, .inl (fun _ => 0))), (q1, .inl (cI, mo, .inl (fun _ => 0)))] H := hP
  have hD : va_D A [(kR, .inr (1, [.ref q0, .ref q1, .int 0])), (q0, .inl (cI, mo, .inl (fun _ => 0))), (q1, .inl (cI, mo, .inl (fun _ => 0)))] := hD
  refine W.widen (k := 2) (n := 200) (by omega) (by omega) ?_
  exact W.vret hx hb hr (fun t ht hW => ⟨⟨(fun k : Nat => match k with | 0 => q0 | _ => q1), rfl, trivial, by rw [ht]; exact hP, hD⟩, hS.F ht⟩) hS.2.2 d_RowI_29
set_option maxHeartbeats 4000000 in
set_option maxRecDepth 100000 in
theorem c_SesI (l : Launch) (dC : Nat → ClassId) (dI : Nat → Nat → Nat) (cI cZ : ClassId) (sS : Nat) (sz : Nat) : Met l y_SesI [Cond.code y_SesI prog_4_method_1_code 1 none] ({ frames := 1, cells := 1, slots := 256, locals := 12 }) (pcW (dC, dI) [(sS, .inr (2, [.null, .int 0, .int 0, .int 0, .int 0, .int 0]))] (tyC cI cZ) sz [.ref sS]) (qV (fun u : Nat → Nat => True) (dC, dI) (fun u => w_Ses cI cZ sS (u 0) (ν0 0) (ν0 1 0) (ν0 2 0) (ν0 3 0) (ν0 4 0) (ν0 5 0)) (va_A [(sS, .inr (2, [.null, .int 0, .int 0, .int 0, .int 0, .int 0]))] sz)) 1 256 (va_A [(sS, .inr (2, [.null, .int 0, .int 0, .int 0, .int 0, .int 0]))] sz) := by
  refine Met.ofW (cc := prog_4_method_1_code) (maxL := 1) (ret := none) (by decide) rfl ?_
  intro p e s m args below meth c s₁ B hml hv
  obtain ⟨rfl, hsz, hT, hP, hK, hD0⟩ := hv
  have hx := B.exec
  have hb := B.bytes
  have hr := B.returns
  have hts : ∀ w ∈ lw_ok, w.before ([.ref sS] : List Value).toArray s = true := hT.use
  have hown : s.vm.findClass R_Ses = some m.cls := findClass_of_methodNamed B.named
  have hlocks := B.notSynchronized
  have hin : meth.name = "<init>" := (name_of_methodNamed B.named B.method).1
  subst hsz
  have hD := hD0.self (sz := s.heap.size)
  generalize hAe : va_A [(sS, .inr (2, [.null, .int 0, .int 0, .int 0, .int 0, .int 0]))] s.heap.size = A at hD ⊢
  have hA : ∀ q : Nat, s.heap.size ≤ q → A q := fun q h => by rw [← hAe]; exact Or.inr h
  have hS : va_S A s.heap s.heap [] := va_S.rf
  have hl := lv_entry ([.ref sS]) (n := 1) (Nat.le_of_ble_eq_true rfl)
  rw [lg_entry_eq]
  generalize (lg_sl ([.ref sS]) ++ List.replicate (1 - (lg_sl ([.ref sS])).length) Slot.unset).toArray = ls at hl ⊢
  have hl : lv_has ls 1 [(0, .ref sS)] := hl
  refine lv_aload_n hx hb d_SesI_0 rfl (lv_at hl 0 rfl) ?_
  refine W.objInit hx hb hown (hts _ mw_107) (hts _ mw_26) (hts _ mw_27) rfl (by rw [hml]; exact hl.1) rfl d_SesI_1 (Nat.le_of_ble_eq_true rfl) (Nat.le_of_ble_eq_true rfl) ?_
  refine W.eq (g2 := F0 m 4 ls []) rfl ?_
  refine lv_aload_n hx hb d_SesI_4 rfl (lv_at hl 0 rfl) ?_
  refine lv_sipush (v := 256) hx hb d_SesI_5 (by decide) ?_
  refine xn_I (N := 256) (cI := cI) hx hb (hts _ mw_80) hK 0 rfl hP hD hS hA (by decide) (by decide) (by decide) (show 0 + 1 ≤ 1 by omega) (show 0 + 256 ≤ 256 by omega) d_SesI_8 (fun q0 H hP hD hS => ?_)
  have hP : va_P (dC, dI) vwCl [(sS, .inr (2, [.null, .int 0, .int 0, .int 0, .int 0, .int 0])), (q0, .inl (cI, 256, .inl (fun _ => 0)))] H := hP
  have hD : va_D A [(sS, .inr (2, [.null, .int 0, .int 0, .int 0, .int 0, .int 0])), (q0, .inl (cI, 256, .inl (fun _ => 0)))] := hD
  refine W.widen (k := 1) (n := 256) (by omega) (by omega) ?_
  refine va_putF (D := (dC, dI)) (ci := 2) (v := .ref q0) (ty := (.array .int)) (C := R_Ses) (T := T_Ses) (N := 6) hx hb hts in_Ses ty_Ses tyok_Ses nm_Ses hown hK hP hD hS 0 rfl rfl 0 (by decide) (hts _ mw_108) (fun _ h9 => h9) rfl hin rfl (by decide +kernel) rfl rfl (Nat.le_of_ble_eq_true rfl) d_SesI_10 (fun H locs hP hD hS => ?_)
  have hP : va_P (dC, dI) vwCl [(sS, .inr (2, [.ref q0, .int 0, .int 0, .int 0, .int 0, .int 0])), (q0, .inl (cI, 256, .inl (fun _ => 0)))] H := hP
  have hD : va_D A [(sS, .inr (2, [.ref q0, .int 0, .int 0, .int 0, .int 0, .int 0])), (q0, .inl (cI, 256, .inl (fun _ => 0)))] := hD
  refine lv_aload_n hx hb d_SesI_13 rfl (lv_at hl 0 rfl) ?_
  refine lv_iconst (v := 0) hx hb d_SesI_14 (by decide) ?_
  refine va_put (D := (dC, dI)) (ci := 2) (v := .int 0) (ty := .int) (C := R_Ses) (T := T_Ses) (N := 6) hx hb hts in_Ses ty_Ses tyok_Ses nm_Ses hown hK hP hD hS 0 rfl rfl 1 (by decide) (hts _ mw_110) (fun _ h9 => h9) rfl (by decide +kernel) rfl rfl (Nat.le_of_ble_eq_true rfl) d_SesI_15 (fun H locs hP hD hS => ?_)
  have hP : va_P (dC, dI) vwCl [(sS, .inr (2, [.ref q0, .int 0, .int 0, .int 0, .int 0, .int 0])), (q0, .inl (cI, 256, .inl (fun _ => 0)))] H := hP
  have hD : va_D A [(sS, .inr (2, [.ref q0, .int 0, .int 0, .int 0, .int 0, .int 0])), (q0, .inl (cI, 256, .inl (fun _ => 0)))] := hD
  refine lv_aload_n hx hb d_SesI_18 rfl (lv_at hl 0 rfl) ?_
  refine lv_iconst (v := 0) hx hb d_SesI_19 (by decide) ?_
  refine va_put (D := (dC, dI)) (ci := 2) (v := .int 0) (ty := .int) (C := R_Ses) (T := T_Ses) (N := 6) hx hb hts in_Ses ty_Ses tyok_Ses nm_Ses hown hK hP hD hS 0 rfl rfl 2 (by decide) (hts _ mw_112) (fun _ h9 => h9) rfl (by decide +kernel) rfl rfl (Nat.le_of_ble_eq_true rfl) d_SesI_20 (fun H locs hP hD hS => ?_)
  have hP : va_P (dC, dI) vwCl [(sS, .inr (2, [.ref q0, .int 0, .int 0, .int 0, .int 0, .int 0])), (q0, .inl (cI, 256, .inl (fun _ => 0)))] H := hP
  have hD : va_D A [(sS, .inr (2, [.ref q0, .int 0, .int 0, .int 0, .int 0, .int 0])), (q0, .inl (cI, 256, .inl (fun _ => 0)))] := hD
  refine lv_aload_n hx hb d_SesI_23 rfl (lv_at hl 0 rfl) ?_
  refine lv_iconst (v := 0) hx hb d_SesI_24 (by decide) ?_
  refine va_put (D := (dC, dI)) (ci := 2) (v := .int 0) (ty := .int) (C := R_Ses) (T := T_Ses) (N := 6) hx hb hts in_Ses ty_Ses tyok_Ses nm_Ses hown hK hP hD hS 0 rfl rfl 3 (by decide) (hts _ mw_114) (fun _ h9 => h9) rfl (by decide +kernel) rfl rfl (Nat.le_of_ble_eq_true rfl) d_SesI_25 (fun H locs hP hD hS => ?_)
  have hP : va_P (dC, dI) vwCl [(sS, .inr (2, [.ref q0, .int 0, .int 0, .int 0, .int 0, .int 0])), (q0, .inl (cI, 256, .inl (fun _ => 0)))] H := hP
  have hD : va_D A [(sS, .inr (2, [.ref q0, .int 0, .int 0, .int 0, .int 0, .int 0])), (q0, .inl (cI, 256, .inl (fun _ => 0)))] := hD
  refine lv_aload_n hx hb d_SesI_28 rfl (lv_at hl 0 rfl) ?_
  refine lv_iconst (v := -1) hx hb d_SesI_29 (by decide) ?_
  refine va_put (D := (dC, dI)) (ci := 2) (v := .int (-1)) (ty := .int) (C := R_Ses) (T := T_Ses) (N := 6) hx hb hts in_Ses ty_Ses tyok_Ses nm_Ses hown hK hP hD hS 0 rfl rfl 4 (by decide) (hts _ mw_116) (fun _ h9 => h9) rfl (by decide +kernel) rfl rfl (Nat.le_of_ble_eq_true rfl) d_SesI_30 (fun H locs hP hD hS => ?_)
  have hP : va_P (dC, dI) vwCl [(sS, .inr (2, [.ref q0, .int 0, .int 0, .int 0, .int (-1), .int 0])), (q0, .inl (cI, 256, .inl (fun _ => 0)))] H := hP
  have hD : va_D A [(sS, .inr (2, [.ref q0, .int 0, .int 0, .int 0, .int (-1), .int 0])), (q0, .inl (cI, 256, .inl (fun _ => 0)))] := hD
  refine lv_aload_n hx hb d_SesI_33 rfl (lv_at hl 0 rfl) ?_
  refine lv_iconst (v := 0) hx hb d_SesI_34 (by decide) ?_
  refine va_put (D := (dC, dI)) (ci := 2) (v := .int 0) (ty := .boolean) (C := R_Ses) (T := T_Ses) (N := 6) hx hb hts in_Ses ty_Ses tyok_Ses nm_Ses hown hK hP hD hS 0 rfl rfl 5 (by decide) (hts _ mw_118) (fun _ h9 => h9) rfl (by decide +kernel) rfl rfl (Nat.le_of_ble_eq_true rfl) d_SesI_35 (fun H locs hP hD hS => ?_)
  have hP : va_P (dC, dI) vwCl [(sS, .inr (2, [.ref q0, .int 0, .int 0, .int 0, .int (-1), .int 0])), (q0, .inl (cI, 256, .inl (fun _ => 0)))] H := hP
  have hD : va_D A [(sS, .inr (2, [.ref q0, .int 0, .int 0, .int 0, .int (-1), .int 0])), (q0, .inl (cI, 256, .inl (fun _ => 0)))] := hD
  exact W.vret hx hb hr (fun t ht hW => ⟨⟨(fun _ => q0), rfl, trivial, by rw [ht]; exact hP, hD⟩, hS.F ht⟩) hS.2.2 d_SesI_38
set_option maxHeartbeats 4000000 in
set_option maxRecDepth 100000 in
theorem c_MainI (l : Launch) (dC : Nat → ClassId) (dI : Nat → Nat → Nat) (cI cZ : ClassId) (oM : Nat) (sz : Nat) (p0 : Int32) : Met l y_MainI [Cond.code y_MainI prog_1_method_1_code 3 none] ({ frames := 2, cells := 18, slots := 1087, locals := 44 }) (pcW (dC, dI) [(oM, .inr (3, [.null, .null, .null, .null, .int 0]))] (tyC cI cZ) sz [.ref oM, .int p0]) (qV (fun u : Nat → Nat => True) (dC, dI) (fun u => w_Main cI cZ (F_mo p0) oM (u 0) (u 1) (u 2) (u 3) (u 4) (u 5) (u 6) (u 7) (u 8) (u 9) (u 10) (u 11) (u 12) (u 13) (u 14) (u 15) (u 16) (u 17) (κ0 0 0) (η0 0) (η0 1) (η0 2) (η0 3) (η0 4) (η0 5) (η0 6) (η0 7) (η0 8) (κ0 0) (κ0 1) (κ0 2 0) (κ0 0) (κ0 1) (κ0 2 0) (ν0 0) (ν0 1 0) (ν0 2 0) (ν0 3 0) (ν0 4 0) (ν0 5 0)) (va_A [(oM, .inr (3, [.null, .null, .null, .null, .int 0]))] sz)) 18 1087 (va_A [(oM, .inr (3, [.null, .null, .null, .null, .int 0]))] sz) := by
  refine Met.ofW (cc := prog_1_method_1_code) (maxL := 3) (ret := none) (by decide) rfl ?_
  intro p e s m args below meth c s₁ B hml hv
  obtain ⟨rfl, hsz, hT, hP, hK, hD0⟩ := hv
  have hx := B.exec
  have hb := B.bytes
  have hr := B.returns
  have hts : ∀ w ∈ lw_ok, w.before ([.ref oM, .int p0] : List Value).toArray s = true := hT.use
  have hown : s.vm.findClass R_Main = some m.cls := findClass_of_methodNamed B.named
  have hlocks := B.notSynchronized
  have hin : meth.name = "<init>" := (name_of_methodNamed B.named B.method).1
  subst hsz
  have hD := hD0.self (sz := s.heap.size)
  generalize hAe : va_A [(oM, .inr (3, [.null, .null, .null, .null, .int 0]))] s.heap.size = A at hD ⊢
  have hA : ∀ q : Nat, s.heap.size ≤ q → A q := fun q h => by rw [← hAe]; exact Or.inr h
  have hS : va_S A s.heap s.heap [] := va_S.rf
  have hl := lv_entry ([.ref oM, .int p0]) (n := 3) (Nat.le_of_ble_eq_true rfl)
  rw [lg_entry_eq]
  generalize (lg_sl ([.ref oM, .int p0]) ++ List.replicate (3 - (lg_sl ([.ref oM, .int p0])).length) Slot.unset).toArray = ls at hl ⊢
  have hl : lv_has ls 3 [(0, .ref oM), (1, .int p0)] := hl
  refine lv_aload_n hx hb d_MainI_0 rfl (lv_at hl 0 rfl) ?_
  refine W.objInit hx hb hown (hts _ mw_25) (hts _ mw_26) (hts _ mw_27) rfl (by rw [hml]; exact hl.1) rfl d_MainI_1 (Nat.le_of_ble_eq_true rfl) (Nat.le_of_ble_eq_true rfl) ?_
  refine W.eq (g2 := F0 m 4 ls []) rfl ?_
  refine lv_iconst (v := 0) hx hb d_MainI_4 (by decide) ?_
  refine lv_bipush (v := 100) hx hb d_MainI_5 (by decide) ?_
  refine lv_iload_n hx hb d_MainI_7 rfl (lv_at hl 1 rfl) ?_
  refine va_mmin hx hb (by rw [hml]; exact hl.1.symm) hown (hts _ mw_28) (hts _ mw_29) (hts _ mw_14) (hts _ mw_30) (Nat.le_of_ble_eq_true rfl) (Nat.le_of_ble_eq_true rfl) (Nat.le_of_ble_eq_true rfl) (Nat.le_of_ble_eq_true rfl) d_MainI_8 ?_
  refine va_mmax hx hb (by rw [hml]; exact hl.1.symm) hown (hts _ mw_31) (hts _ mw_32) (hts _ mw_14) (hts _ mw_33) (Nat.le_of_ble_eq_true rfl) (Nat.le_of_ble_eq_true rfl) (Nat.le_of_ble_eq_true rfl) (Nat.le_of_ble_eq_true rfl) d_MainI_11 ?_
  obtain ⟨em, hmo⟩ := mo_ok p0
  rw [em]
  generalize hmE : F_mo p0 = mo at hmo ⊢
  refine lv_istore_n (lv' := [(2, .int (nI mo)), (0, .ref oM), (1, .int p0)]) hx hb d_MainI_14 rfl hl (by decide) rfl (fun ls hl => ?_)
  refine lv_aload_n hx hb d_MainI_15 rfl (lv_at hl 1 rfl) ?_
  refine va_new (ci := 0) (fs := [.null, .null, .null, .null, .null, .null, .null, .null, .null]) (C := R_House) (T := T_House) (N := 9) hx hb hts in_House ty_House tyok_House hown (hts _ mw_34) (hts _ mw_35) (hts _ mw_15) hK hP hD hS hA rfl (by decide) (show 0 + 1 ≤ 18 by omega) (show 0 + 9 ≤ 1087 by omega) d_MainI_16 (fun q0 H hP hD hS => ?_)
  have hP : va_P (dC, dI) vwCl [(oM, .inr (3, [.null, .null, .null, .null, .int 0])), (q0, .inr (0, [.null, .null, .null, .null, .null, .null, .null, .null, .null]))] H := hP
  have hD : va_D A [(oM, .inr (3, [.null, .null, .null, .null, .int 0])), (q0, .inr (0, [.null, .null, .null, .null, .null, .null, .null, .null, .null]))] := hD
  refine W.widen (k := 1) (n := 9) (by omega) (by omega) ?_
  refine lv_dup hx hb d_MainI_19 rfl ?_
  refine xc_I (As := []) (rest := [.ref q0, .ref oM]) (wr := [(oM, .inr (3, [.null, .null, .null, .null, .int 0]))]) ⟨hx, hb, hml, hown, hts⟩ hT hK hP hD hS hA (c_HouseI l dC dI cI cZ q0 H.size) [1] [0] rfl (by decide) rfl (by decide) (by decide) ⟨xw_B 0 hts mw_38 mw_15 mw_36 rfl rfl (by decide +kernel) ⟨Nat.le_of_ble_eq_true rfl, Nat.le_of_ble_eq_true rfl⟩, rfl, hts _ mw_37⟩ rfl hl.1 rfl (Nat.le_of_ble_eq_true rfl) d_MainI_20 ⟨(show 1 + 9 ≤ 18 by omega), (show 9 + 410 ≤ 1087 by omega)⟩ (fun u2 H locs hw hP hD hS => ?_)
  have hP : va_P (dC, dI) vwCl [(oM, .inr (3, [.null, .null, .null, .null, .int 0])), (q0, .inr (0, [.ref (u2 0), .ref (u2 1), .ref (u2 2), .ref (u2 3), .ref (u2 4), .ref (u2 5), .ref (u2 6), .ref (u2 7), .ref (u2 8)])), ((u2 0), .inl (cI, 40, .inl (η0 0))), ((u2 1), .inl (cI, 40, .inl (η0 1))), ((u2 2), .inl (cZ, 40, .inl (η0 2))), ((u2 3), .inl (cI, 40, .inl (η0 3))), ((u2 4), .inl (cI, 60, .inl (η0 4))), ((u2 5), .inl (cI, 60, .inl (η0 5))), ((u2 6), .inl (cZ, 60, .inl (η0 6))), ((u2 7), .inl (cI, 60, .inl (η0 7))), ((u2 8), .inl (cI, 10, .inl (η0 8)))] H := hP
  have hD : va_D A [(oM, .inr (3, [.null, .null, .null, .null, .int 0])), (q0, .inr (0, [.ref (u2 0), .ref (u2 1), .ref (u2 2), .ref (u2 3), .ref (u2 4), .ref (u2 5), .ref (u2 6), .ref (u2 7), .ref (u2 8)])), ((u2 0), .inl (cI, 40, .inl (η0 0))), ((u2 1), .inl (cI, 40, .inl (η0 1))), ((u2 2), .inl (cZ, 40, .inl (η0 2))), ((u2 3), .inl (cI, 40, .inl (η0 3))), ((u2 4), .inl (cI, 60, .inl (η0 4))), ((u2 5), .inl (cI, 60, .inl (η0 5))), ((u2 6), .inl (cZ, 60, .inl (η0 6))), ((u2 7), .inl (cI, 60, .inl (η0 7))), ((u2 8), .inl (cI, 10, .inl (η0 8)))] := hD
  refine W.widen (k := 10) (n := 419) (by omega) (by omega) ?_
  refine va_putF (D := (dC, dI)) (ci := 3) (v := .ref q0) (ty := (.object "SelfCheckSteps$House")) (C := R_Main) (T := T_Main) (N := 5) hx hb hts in_Main ty_Main tyok_Main nm_Main hown hK hP hD hS 0 rfl rfl 0 (by decide) (hts _ mw_133) (fun _ h9 => h9) rfl hin rfl (by decide +kernel) rfl rfl (Nat.le_of_ble_eq_true rfl) d_MainI_23 (fun H locs hP hD hS => ?_)
  have hP : va_P (dC, dI) vwCl [(oM, .inr (3, [.ref q0, .null, .null, .null, .int 0])), (q0, .inr (0, [.ref (u2 0), .ref (u2 1), .ref (u2 2), .ref (u2 3), .ref (u2 4), .ref (u2 5), .ref (u2 6), .ref (u2 7), .ref (u2 8)])), ((u2 0), .inl (cI, 40, .inl (η0 0))), ((u2 1), .inl (cI, 40, .inl (η0 1))), ((u2 2), .inl (cZ, 40, .inl (η0 2))), ((u2 3), .inl (cI, 40, .inl (η0 3))), ((u2 4), .inl (cI, 60, .inl (η0 4))), ((u2 5), .inl (cI, 60, .inl (η0 5))), ((u2 6), .inl (cZ, 60, .inl (η0 6))), ((u2 7), .inl (cI, 60, .inl (η0 7))), ((u2 8), .inl (cI, 10, .inl (η0 8)))] H := hP
  have hD : va_D A [(oM, .inr (3, [.ref q0, .null, .null, .null, .int 0])), (q0, .inr (0, [.ref (u2 0), .ref (u2 1), .ref (u2 2), .ref (u2 3), .ref (u2 4), .ref (u2 5), .ref (u2 6), .ref (u2 7), .ref (u2 8)])), ((u2 0), .inl (cI, 40, .inl (η0 0))), ((u2 1), .inl (cI, 40, .inl (η0 1))), ((u2 2), .inl (cZ, 40, .inl (η0 2))), ((u2 3), .inl (cI, 40, .inl (η0 3))), ((u2 4), .inl (cI, 60, .inl (η0 4))), ((u2 5), .inl (cI, 60, .inl (η0 5))), ((u2 6), .inl (cZ, 60, .inl (η0 6))), ((u2 7), .inl (cI, 60, .inl (η0 7))), ((u2 8), .inl (cI, 10, .inl (η0 8)))] := hD
  refine lv_aload_n hx hb d_MainI_26 rfl (lv_at hl 1 rfl) ?_
  refine va_new (ci := 1) (fs := [.null, .null, .int 0]) (C := R_Row) (T := T_Row) (N := 3) hx hb hts in_Row ty_Row tyok_Row hown (hts _ mw_82) (hts _ mw_83) (hts _ mw_17) hK hP hD hS hA rfl (by decide) (show 10 + 1 ≤ 18 by omega) (show 419 + 3 ≤ 1087 by omega) d_MainI_27 (fun q1 H hP hD hS => ?_)
  have hP : va_P (dC, dI) vwCl [(oM, .inr (3, [.ref q0, .null, .null, .null, .int 0])), (q0, .inr (0, [.ref (u2 0), .ref (u2 1), .ref (u2 2), .ref (u2 3), .ref (u2 4), .ref (u2 5), .ref (u2 6), .ref (u2 7), .ref (u2 8)])), ((u2 0), .inl (cI, 40, .inl (η0 0))), ((u2 1), .inl (cI, 40, .inl (η0 1))), ((u2 2), .inl (cZ, 40, .inl (η0 2))), ((u2 3), .inl (cI, 40, .inl (η0 3))), ((u2 4), .inl (cI, 60, .inl (η0 4))), ((u2 5), .inl (cI, 60, .inl (η0 5))), ((u2 6), .inl (cZ, 60, .inl (η0 6))), ((u2 7), .inl (cI, 60, .inl (η0 7))), ((u2 8), .inl (cI, 10, .inl (η0 8))), (q1, .inr (1, [.null, .null, .int 0]))] H := hP
  have hD : va_D A [(oM, .inr (3, [.ref q0, .null, .null, .null, .int 0])), (q0, .inr (0, [.ref (u2 0), .ref (u2 1), .ref (u2 2), .ref (u2 3), .ref (u2 4), .ref (u2 5), .ref (u2 6), .ref (u2 7), .ref (u2 8)])), ((u2 0), .inl (cI, 40, .inl (η0 0))), ((u2 1), .inl (cI, 40, .inl (η0 1))), ((u2 2), .inl (cZ, 40, .inl (η0 2))), ((u2 3), .inl (cI, 40, .inl (η0 3))), ((u2 4), .inl (cI, 60, .inl (η0 4))), ((u2 5), .inl (cI, 60, .inl (η0 5))), ((u2 6), .inl (cZ, 60, .inl (η0 6))), ((u2 7), .inl (cI, 60, .inl (η0 7))), ((u2 8), .inl (cI, 10, .inl (η0 8))), (q1, .inr (1, [.null, .null, .int 0]))] := hD
  refine W.widen (k := 11) (n := 422) (by omega) (by omega) ?_
  refine lv_dup hx hb d_MainI_30 rfl ?_
  refine lv_iload_n hx hb d_MainI_31 rfl (lv_at hl 0 rfl) ?_
  refine xc_I (As := [.int (nI mo)]) (rest := [.ref q1, .ref oM]) (wr := [(oM, .inr (3, [.ref q0, .null, .null, .null, .int 0])), (q0, .inr (0, [.ref (u2 0), .ref (u2 1), .ref (u2 2), .ref (u2 3), .ref (u2 4), .ref (u2 5), .ref (u2 6), .ref (u2 7), .ref (u2 8)])), ((u2 0), .inl (cI, 40, .inl (η0 0))), ((u2 1), .inl (cI, 40, .inl (η0 1))), ((u2 2), .inl (cZ, 40, .inl (η0 2))), ((u2 3), .inl (cI, 40, .inl (η0 3))), ((u2 4), .inl (cI, 60, .inl (η0 4))), ((u2 5), .inl (cI, 60, .inl (η0 5))), ((u2 6), .inl (cZ, 60, .inl (η0 6))), ((u2 7), .inl (cI, 60, .inl (η0 7))), ((u2 8), .inl (cI, 10, .inl (η0 8)))]) ⟨hx, hb, hml, hown, hts⟩ hT hK hP hD hS hA (c_RowI l dC dI cI cZ mo q1 H.size hmo) [11] [0, 1, 2, 3, 4, 5, 6, 7, 8, 9, 10] rfl (by decide) rfl (by decide) (by decide) ⟨xw_B 1 hts mw_86 mw_17 mw_84 rfl rfl (by decide +kernel) ⟨Nat.le_of_ble_eq_true rfl, Nat.le_of_ble_eq_true rfl⟩, rfl, hts _ mw_85⟩ rfl hl.1 rfl (Nat.le_of_ble_eq_true rfl) d_MainI_32 ⟨(show 11 + 2 ≤ 18 by omega), (show 422 + 200 ≤ 1087 by omega)⟩ (fun u12 H locs hw hP hD hS => ?_)
  have hP : va_P (dC, dI) vwCl [(oM, .inr (3, [.ref q0, .null, .null, .null, .int 0])), (q0, .inr (0, [.ref (u2 0), .ref (u2 1), .ref (u2 2), .ref (u2 3), .ref (u2 4), .ref (u2 5), .ref (u2 6), .ref (u2 7), .ref (u2 8)])), ((u2 0), .inl (cI, 40, .inl (η0 0))), ((u2 1), .inl (cI, 40, .inl (η0 1))), ((u2 2), .inl (cZ, 40, .inl (η0 2))), ((u2 3), .inl (cI, 40, .inl (η0 3))), ((u2 4), .inl (cI, 60, .inl (η0 4))), ((u2 5), .inl (cI, 60, .inl (η0 5))), ((u2 6), .inl (cZ, 60, .inl (η0 6))), ((u2 7), .inl (cI, 60, .inl (η0 7))), ((u2 8), .inl (cI, 10, .inl (η0 8))), (q1, .inr (1, [.ref (u12 0), .ref (u12 1), .int (κ0 2 0)])), ((u12 0), .inl (cI, mo, .inl (κ0 0))), ((u12 1), .inl (cI, mo, .inl (κ0 1)))] H := hP
  have hD : va_D A [(oM, .inr (3, [.ref q0, .null, .null, .null, .int 0])), (q0, .inr (0, [.ref (u2 0), .ref (u2 1), .ref (u2 2), .ref (u2 3), .ref (u2 4), .ref (u2 5), .ref (u2 6), .ref (u2 7), .ref (u2 8)])), ((u2 0), .inl (cI, 40, .inl (η0 0))), ((u2 1), .inl (cI, 40, .inl (η0 1))), ((u2 2), .inl (cZ, 40, .inl (η0 2))), ((u2 3), .inl (cI, 40, .inl (η0 3))), ((u2 4), .inl (cI, 60, .inl (η0 4))), ((u2 5), .inl (cI, 60, .inl (η0 5))), ((u2 6), .inl (cZ, 60, .inl (η0 6))), ((u2 7), .inl (cI, 60, .inl (η0 7))), ((u2 8), .inl (cI, 10, .inl (η0 8))), (q1, .inr (1, [.ref (u12 0), .ref (u12 1), .int (κ0 2 0)])), ((u12 0), .inl (cI, mo, .inl (κ0 0))), ((u12 1), .inl (cI, mo, .inl (κ0 1)))] := hD
  refine W.widen (k := 13) (n := 622) (by omega) (by omega) ?_
  refine va_putF (D := (dC, dI)) (ci := 3) (v := .ref q1) (ty := (.object "SelfCheckSteps$RowList")) (C := R_Main) (T := T_Main) (N := 5) hx hb hts in_Main ty_Main tyok_Main nm_Main hown hK hP hD hS 0 rfl rfl 1 (by decide) (hts _ mw_134) (fun _ h9 => h9) rfl hin rfl (by decide +kernel) rfl rfl (Nat.le_of_ble_eq_true rfl) d_MainI_35 (fun H locs hP hD hS => ?_)
  have hP : va_P (dC, dI) vwCl [(oM, .inr (3, [.ref q0, .ref q1, .null, .null, .int 0])), (q0, .inr (0, [.ref (u2 0), .ref (u2 1), .ref (u2 2), .ref (u2 3), .ref (u2 4), .ref (u2 5), .ref (u2 6), .ref (u2 7), .ref (u2 8)])), ((u2 0), .inl (cI, 40, .inl (η0 0))), ((u2 1), .inl (cI, 40, .inl (η0 1))), ((u2 2), .inl (cZ, 40, .inl (η0 2))), ((u2 3), .inl (cI, 40, .inl (η0 3))), ((u2 4), .inl (cI, 60, .inl (η0 4))), ((u2 5), .inl (cI, 60, .inl (η0 5))), ((u2 6), .inl (cZ, 60, .inl (η0 6))), ((u2 7), .inl (cI, 60, .inl (η0 7))), ((u2 8), .inl (cI, 10, .inl (η0 8))), (q1, .inr (1, [.ref (u12 0), .ref (u12 1), .int (κ0 2 0)])), ((u12 0), .inl (cI, mo, .inl (κ0 0))), ((u12 1), .inl (cI, mo, .inl (κ0 1)))] H := hP
  have hD : va_D A [(oM, .inr (3, [.ref q0, .ref q1, .null, .null, .int 0])), (q0, .inr (0, [.ref (u2 0), .ref (u2 1), .ref (u2 2), .ref (u2 3), .ref (u2 4), .ref (u2 5), .ref (u2 6), .ref (u2 7), .ref (u2 8)])), ((u2 0), .inl (cI, 40, .inl (η0 0))), ((u2 1), .inl (cI, 40, .inl (η0 1))), ((u2 2), .inl (cZ, 40, .inl (η0 2))), ((u2 3), .inl (cI, 40, .inl (η0 3))), ((u2 4), .inl (cI, 60, .inl (η0 4))), ((u2 5), .inl (cI, 60, .inl (η0 5))), ((u2 6), .inl (cZ, 60, .inl (η0 6))), ((u2 7), .inl (cI, 60, .inl (η0 7))), ((u2 8), .inl (cI, 10, .inl (η0 8))), (q1, .inr (1, [.ref (u12 0), .ref (u12 1), .int (κ0 2 0)])), ((u12 0), .inl (cI, mo, .inl (κ0 0))), ((u12 1), .inl (cI, mo, .inl (κ0 1)))] := hD
  refine lv_aload_n hx hb d_MainI_38 rfl (lv_at hl 1 rfl) ?_
  refine va_new (ci := 1) (fs := [.null, .null, .int 0]) (C := R_Row) (T := T_Row) (N := 3) hx hb hts in_Row ty_Row tyok_Row hown (hts _ mw_82) (hts _ mw_83) (hts _ mw_17) hK hP hD hS hA rfl (by decide) (show 13 + 1 ≤ 18 by omega) (show 622 + 3 ≤ 1087 by omega) d_MainI_39 (fun q2 H hP hD hS => ?_)
  have hP : va_P (dC, dI) vwCl [(oM, .inr (3, [.ref q0, .ref q1, .null, .null, .int 0])), (q0, .inr (0, [.ref (u2 0), .ref (u2 1), .ref (u2 2), .ref (u2 3), .ref (u2 4), .ref (u2 5), .ref (u2 6), .ref (u2 7), .ref (u2 8)])), ((u2 0), .inl (cI, 40, .inl (η0 0))), ((u2 1), .inl (cI, 40, .inl (η0 1))), ((u2 2), .inl (cZ, 40, .inl (η0 2))), ((u2 3), .inl (cI, 40, .inl (η0 3))), ((u2 4), .inl (cI, 60, .inl (η0 4))), ((u2 5), .inl (cI, 60, .inl (η0 5))), ((u2 6), .inl (cZ, 60, .inl (η0 6))), ((u2 7), .inl (cI, 60, .inl (η0 7))), ((u2 8), .inl (cI, 10, .inl (η0 8))), (q1, .inr (1, [.ref (u12 0), .ref (u12 1), .int (κ0 2 0)])), ((u12 0), .inl (cI, mo, .inl (κ0 0))), ((u12 1), .inl (cI, mo, .inl (κ0 1))), (q2, .inr (1, [.null, .null, .int 0]))] H := hP
  have hD : va_D A [(oM, .inr (3, [.ref q0, .ref q1, .null, .null, .int 0])), (q0, .inr (0, [.ref (u2 0), .ref (u2 1), .ref (u2 2), .ref (u2 3), .ref (u2 4), .ref (u2 5), .ref (u2 6), .ref (u2 7), .ref (u2 8)])), ((u2 0), .inl (cI, 40, .inl (η0 0))), ((u2 1), .inl (cI, 40, .inl (η0 1))), ((u2 2), .inl (cZ, 40, .inl (η0 2))), ((u2 3), .inl (cI, 40, .inl (η0 3))), ((u2 4), .inl (cI, 60, .inl (η0 4))), ((u2 5), .inl (cI, 60, .inl (η0 5))), ((u2 6), .inl (cZ, 60, .inl (η0 6))), ((u2 7), .inl (cI, 60, .inl (η0 7))), ((u2 8), .inl (cI, 10, .inl (η0 8))), (q1, .inr (1, [.ref (u12 0), .ref (u12 1), .int (κ0 2 0)])), ((u12 0), .inl (cI, mo, .inl (κ0 0))), ((u12 1), .inl (cI, mo, .inl (κ0 1))), (q2, .inr (1, [.null, .null, .int 0]))] := hD
  refine W.widen (k := 14) (n := 625) (by omega) (by omega) ?_
  refine lv_dup hx hb d_MainI_42 rfl ?_
  refine lv_iload_n hx hb d_MainI_43 rfl (lv_at hl 0 rfl) ?_
  refine xc_I (As := [.int (nI mo)]) (rest := [.ref q2, .ref oM]) (wr := [(oM, .inr (3, [.ref q0, .ref q1, .null, .null, .int 0])), (q0, .inr (0, [.ref (u2 0), .ref (u2 1), .ref (u2 2), .ref (u2 3), .ref (u2 4), .ref (u2 5), .ref (u2 6), .ref (u2 7), .ref (u2 8)])), ((u2 0), .inl (cI, 40, .inl (η0 0))), ((u2 1), .inl (cI, 40, .inl (η0 1))), ((u2 2), .inl (cZ, 40, .inl (η0 2))), ((u2 3), .inl (cI, 40, .inl (η0 3))), ((u2 4), .inl (cI, 60, .inl (η0 4))), ((u2 5), .inl (cI, 60, .inl (η0 5))), ((u2 6), .inl (cZ, 60, .inl (η0 6))), ((u2 7), .inl (cI, 60, .inl (η0 7))), ((u2 8), .inl (cI, 10, .inl (η0 8))), (q1, .inr (1, [.ref (u12 0), .ref (u12 1), .int (κ0 2 0)])), ((u12 0), .inl (cI, mo, .inl (κ0 0))), ((u12 1), .inl (cI, mo, .inl (κ0 1)))]) ⟨hx, hb, hml, hown, hts⟩ hT hK hP hD hS hA (c_RowI l dC dI cI cZ mo q2 H.size hmo) [14] [0, 1, 2, 3, 4, 5, 6, 7, 8, 9, 10, 11, 12, 13] rfl (by decide) rfl (by decide) (by decide) ⟨xw_B 1 hts mw_86 mw_17 mw_84 rfl rfl (by decide +kernel) ⟨Nat.le_of_ble_eq_true rfl, Nat.le_of_ble_eq_true rfl⟩, rfl, hts _ mw_85⟩ rfl hl.1 rfl (Nat.le_of_ble_eq_true rfl) d_MainI_44 ⟨(show 14 + 2 ≤ 18 by omega), (show 625 + 200 ≤ 1087 by omega)⟩ (fun u15 H locs hw hP hD hS => ?_)
  have hP : va_P (dC, dI) vwCl [(oM, .inr (3, [.ref q0, .ref q1, .null, .null, .int 0])), (q0, .inr (0, [.ref (u2 0), .ref (u2 1), .ref (u2 2), .ref (u2 3), .ref (u2 4), .ref (u2 5), .ref (u2 6), .ref (u2 7), .ref (u2 8)])), ((u2 0), .inl (cI, 40, .inl (η0 0))), ((u2 1), .inl (cI, 40, .inl (η0 1))), ((u2 2), .inl (cZ, 40, .inl (η0 2))), ((u2 3), .inl (cI, 40, .inl (η0 3))), ((u2 4), .inl (cI, 60, .inl (η0 4))), ((u2 5), .inl (cI, 60, .inl (η0 5))), ((u2 6), .inl (cZ, 60, .inl (η0 6))), ((u2 7), .inl (cI, 60, .inl (η0 7))), ((u2 8), .inl (cI, 10, .inl (η0 8))), (q1, .inr (1, [.ref (u12 0), .ref (u12 1), .int (κ0 2 0)])), ((u12 0), .inl (cI, mo, .inl (κ0 0))), ((u12 1), .inl (cI, mo, .inl (κ0 1))), (q2, .inr (1, [.ref (u15 0), .ref (u15 1), .int (κ0 2 0)])), ((u15 0), .inl (cI, mo, .inl (κ0 0))), ((u15 1), .inl (cI, mo, .inl (κ0 1)))] H := hP
  have hD : va_D A [(oM, .inr (3, [.ref q0, .ref q1, .null, .null, .int 0])), (q0, .inr (0, [.ref (u2 0), .ref (u2 1), .ref (u2 2), .ref (u2 3), .ref (u2 4), .ref (u2 5), .ref (u2 6), .ref (u2 7), .ref (u2 8)])), ((u2 0), .inl (cI, 40, .inl (η0 0))), ((u2 1), .inl (cI, 40, .inl (η0 1))), ((u2 2), .inl (cZ, 40, .inl (η0 2))), ((u2 3), .inl (cI, 40, .inl (η0 3))), ((u2 4), .inl (cI, 60, .inl (η0 4))), ((u2 5), .inl (cI, 60, .inl (η0 5))), ((u2 6), .inl (cZ, 60, .inl (η0 6))), ((u2 7), .inl (cI, 60, .inl (η0 7))), ((u2 8), .inl (cI, 10, .inl (η0 8))), (q1, .inr (1, [.ref (u12 0), .ref (u12 1), .int (κ0 2 0)])), ((u12 0), .inl (cI, mo, .inl (κ0 0))), ((u12 1), .inl (cI, mo, .inl (κ0 1))), (q2, .inr (1, [.ref (u15 0), .ref (u15 1), .int (κ0 2 0)])), ((u15 0), .inl (cI, mo, .inl (κ0 0))), ((u15 1), .inl (cI, mo, .inl (κ0 1)))] := hD
  refine W.widen (k := 16) (n := 825) (by omega) (by omega) ?_
  refine va_putF (D := (dC, dI)) (ci := 3) (v := .ref q2) (ty := (.object "SelfCheckSteps$RowList")) (C := R_Main) (T := T_Main) (N := 5) hx hb hts in_Main ty_Main tyok_Main nm_Main hown hK hP hD hS 0 rfl rfl 2 (by decide) (hts _ mw_135) (fun _ h9 => h9) rfl hin rfl (by decide +kernel) rfl rfl (Nat.le_of_ble_eq_true rfl) d_MainI_47 (fun H locs hP hD hS => ?_)
  have hP : va_P (dC, dI) vwCl [(oM, .inr (3, [.ref q0, .ref q1, .ref q2, .null, .int 0])), (q0, .inr (0, [.ref (u2 0), .ref (u2 1), .ref (u2 2), .ref (u2 3), .ref (u2 4), .ref (u2 5), .ref (u2 6), .ref (u2 7), .ref (u2 8)])), ((u2 0), .inl (cI, 40, .inl (η0 0))), ((u2 1), .inl (cI, 40, .inl (η0 1))), ((u2 2), .inl (cZ, 40, .inl (η0 2))), ((u2 3), .inl (cI, 40, .inl (η0 3))), ((u2 4), .inl (cI, 60, .inl (η0 4))), ((u2 5), .inl (cI, 60, .inl (η0 5))), ((u2 6), .inl (cZ, 60, .inl (η0 6))), ((u2 7), .inl (cI, 60, .inl (η0 7))), ((u2 8), .inl (cI, 10, .inl (η0 8))), (q1, .inr (1, [.ref (u12 0), .ref (u12 1), .int (κ0 2 0)])), ((u12 0), .inl (cI, mo, .inl (κ0 0))), ((u12 1), .inl (cI, mo, .inl (κ0 1))), (q2, .inr (1, [.ref (u15 0), .ref (u15 1), .int (κ0 2 0)])), ((u15 0), .inl (cI, mo, .inl (κ0 0))), ((u15 1), .inl (cI, mo, .inl (κ0 1)))] H := hP
  have hD : va_D A [(oM, .inr (3, [.ref q0, .ref q1, .ref q2, .null, .int 0])), (q0, .inr (0, [.ref (u2 0), .ref (u2 1), .ref (u2 2), .ref (u2 3), .ref (u2 4), .ref (u2 5), .ref (u2 6), .ref (u2 7), .ref (u2 8)])), ((u2 0), .inl (cI, 40, .inl (η0 0))), ((u2 1), .inl (cI, 40, .inl (η0 1))), ((u2 2), .inl (cZ, 40, .inl (η0 2))), ((u2 3), .inl (cI, 40, .inl (η0 3))), ((u2 4), .inl (cI, 60, .inl (η0 4))), ((u2 5), .inl (cI, 60, .inl (η0 5))), ((u2 6), .inl (cZ, 60, .inl (η0 6))), ((u2 7), .inl (cI, 60, .inl (η0 7))), ((u2 8), .inl (cI, 10, .inl (η0 8))), (q1, .inr (1, [.ref (u12 0), .ref (u12 1), .int (κ0 2 0)])), ((u12 0), .inl (cI, mo, .inl (κ0 0))), ((u12 1), .inl (cI, mo, .inl (κ0 1))), (q2, .inr (1, [.ref (u15 0), .ref (u15 1), .int (κ0 2 0)])), ((u15 0), .inl (cI, mo, .inl (κ0 0))), ((u15 1), .inl (cI, mo, .inl (κ0 1)))] := hD
  refine lv_aload_n hx hb d_MainI_50 rfl (lv_at hl 1 rfl) ?_
  refine va_new (ci := 2) (fs := [.null, .int 0, .int 0, .int 0, .int 0, .int 0]) (C := R_Ses) (T := T_Ses) (N := 6) hx hb hts in_Ses ty_Ses tyok_Ses hown (hts _ mw_102) (hts _ mw_103) (hts _ mw_18) hK hP hD hS hA rfl (by decide) (show 16 + 1 ≤ 18 by omega) (show 825 + 6 ≤ 1087 by omega) d_MainI_51 (fun q3 H hP hD hS => ?_)
  have hP : va_P (dC, dI) vwCl [(oM, .inr (3, [.ref q0, .ref q1, .ref q2, .null, .int 0])), (q0, .inr (0, [.ref (u2 0), .ref (u2 1), .ref (u2 2), .ref (u2 3), .ref (u2 4), .ref (u2 5), .ref (u2 6), .ref (u2 7), .ref (u2 8)])), ((u2 0), .inl (cI, 40, .inl (η0 0))), ((u2 1), .inl (cI, 40, .inl (η0 1))), ((u2 2), .inl (cZ, 40, .inl (η0 2))), ((u2 3), .inl (cI, 40, .inl (η0 3))), ((u2 4), .inl (cI, 60, .inl (η0 4))), ((u2 5), .inl (cI, 60, .inl (η0 5))), ((u2 6), .inl (cZ, 60, .inl (η0 6))), ((u2 7), .inl (cI, 60, .inl (η0 7))), ((u2 8), .inl (cI, 10, .inl (η0 8))), (q1, .inr (1, [.ref (u12 0), .ref (u12 1), .int (κ0 2 0)])), ((u12 0), .inl (cI, mo, .inl (κ0 0))), ((u12 1), .inl (cI, mo, .inl (κ0 1))), (q2, .inr (1, [.ref (u15 0), .ref (u15 1), .int (κ0 2 0)])), ((u15 0), .inl (cI, mo, .inl (κ0 0))), ((u15 1), .inl (cI, mo, .inl (κ0 1))), (q3, .inr (2, [.null, .int 0, .int 0, .int 0, .int 0, .int 0]))] H := hP
  have hD : va_D A [(oM, .inr (3, [.ref q0, .ref q1, .ref q2, .null, .int 0])), (q0, .inr (0, [.ref (u2 0), .ref (u2 1), .ref (u2 2), .ref (u2 3), .ref (u2 4), .ref (u2 5), .ref (u2 6), .ref (u2 7), .ref (u2 8)])), ((u2 0), .inl (cI, 40, .inl (η0 0))), ((u2 1), .inl (cI, 40, .inl (η0 1))), ((u2 2), .inl (cZ, 40, .inl (η0 2))), ((u2 3), .inl (cI, 40, .inl (η0 3))), ((u2 4), .inl (cI, 60, .inl (η0 4))), ((u2 5), .inl (cI, 60, .inl (η0 5))), ((u2 6), .inl (cZ, 60, .inl (η0 6))), ((u2 7), .inl (cI, 60, .inl (η0 7))), ((u2 8), .inl (cI, 10, .inl (η0 8))), (q1, .inr (1, [.ref (u12 0), .ref (u12 1), .int (κ0 2 0)])), ((u12 0), .inl (cI, mo, .inl (κ0 0))), ((u12 1), .inl (cI, mo, .inl (κ0 1))), (q2, .inr (1, [.ref (u15 0), .ref (u15 1), .int (κ0 2 0)])), ((u15 0), .inl (cI, mo, .inl (κ0 0))), ((u15 1), .inl (cI, mo, .inl (κ0 1))), (q3, .inr (2, [.null, .int 0, .int 0, .int 0, .int 0, .int 0]))] := hD
  refine W.widen (k := 17) (n := 831) (by omega) (by omega) ?_
  refine lv_dup hx hb d_MainI_54 rfl ?_
  refine xc_IN (As := []) (rest := [.ref q3, .ref oM]) (wr := [(oM, .inr (3, [.ref q0, .ref q1, .ref q2, .null, .int 0])), (q0, .inr (0, [.ref (u2 0), .ref (u2 1), .ref (u2 2), .ref (u2 3), .ref (u2 4), .ref (u2 5), .ref (u2 6), .ref (u2 7), .ref (u2 8)])), ((u2 0), .inl (cI, 40, .inl (η0 0))), ((u2 1), .inl (cI, 40, .inl (η0 1))), ((u2 2), .inl (cZ, 40, .inl (η0 2))), ((u2 3), .inl (cI, 40, .inl (η0 3))), ((u2 4), .inl (cI, 60, .inl (η0 4))), ((u2 5), .inl (cI, 60, .inl (η0 5))), ((u2 6), .inl (cZ, 60, .inl (η0 6))), ((u2 7), .inl (cI, 60, .inl (η0 7))), ((u2 8), .inl (cI, 10, .inl (η0 8))), (q1, .inr (1, [.ref (u12 0), .ref (u12 1), .int (κ0 2 0)])), ((u12 0), .inl (cI, mo, .inl (κ0 0))), ((u12 1), .inl (cI, mo, .inl (κ0 1))), (q2, .inr (1, [.ref (u15 0), .ref (u15 1), .int (κ0 2 0)])), ((u15 0), .inl (cI, mo, .inl (κ0 0))), ((u15 1), .inl (cI, mo, .inl (κ0 1)))]) ⟨hx, hb, hml, hown, hts⟩ hT hK hP hD hS hA (c_SesI l dC dI cI cZ q3 H.size) [17] [0, 1, 2, 3, 4, 5, 6, 7, 8, 9, 10, 11, 12, 13, 14, 15, 16] rfl (by decide) rfl (by decide) (by decide) ⟨xw_N 0 hT hts mw_106 mw_18 mw_104 rfl rfl (by decide +kernel) ⟨Nat.le_of_ble_eq_true rfl, Nat.le_of_ble_eq_true rfl⟩, rfl, hts _ mw_105⟩ rfl hl.1 rfl (Nat.le_of_ble_eq_true rfl) d_MainI_55 ⟨(show 17 + 1 ≤ 18 by omega), (show 831 + 256 ≤ 1087 by omega)⟩ (fun u18 H locs hw hP hD hS => ?_)
  have hP : va_P (dC, dI) vwCl [(oM, .inr (3, [.ref q0, .ref q1, .ref q2, .null, .int 0])), (q0, .inr (0, [.ref (u2 0), .ref (u2 1), .ref (u2 2), .ref (u2 3), .ref (u2 4), .ref (u2 5), .ref (u2 6), .ref (u2 7), .ref (u2 8)])), ((u2 0), .inl (cI, 40, .inl (η0 0))), ((u2 1), .inl (cI, 40, .inl (η0 1))), ((u2 2), .inl (cZ, 40, .inl (η0 2))), ((u2 3), .inl (cI, 40, .inl (η0 3))), ((u2 4), .inl (cI, 60, .inl (η0 4))), ((u2 5), .inl (cI, 60, .inl (η0 5))), ((u2 6), .inl (cZ, 60, .inl (η0 6))), ((u2 7), .inl (cI, 60, .inl (η0 7))), ((u2 8), .inl (cI, 10, .inl (η0 8))), (q1, .inr (1, [.ref (u12 0), .ref (u12 1), .int (κ0 2 0)])), ((u12 0), .inl (cI, mo, .inl (κ0 0))), ((u12 1), .inl (cI, mo, .inl (κ0 1))), (q2, .inr (1, [.ref (u15 0), .ref (u15 1), .int (κ0 2 0)])), ((u15 0), .inl (cI, mo, .inl (κ0 0))), ((u15 1), .inl (cI, mo, .inl (κ0 1))), (q3, .inr (2, [.ref (u18 0), .int (ν0 1 0), .int (ν0 2 0), .int (ν0 3 0), .int (ν0 4 0), .int (ν0 5 0)])), ((u18 0), .inl (cI, 256, .inl (ν0 0)))] H := hP
  have hD : va_D A [(oM, .inr (3, [.ref q0, .ref q1, .ref q2, .null, .int 0])), (q0, .inr (0, [.ref (u2 0), .ref (u2 1), .ref (u2 2), .ref (u2 3), .ref (u2 4), .ref (u2 5), .ref (u2 6), .ref (u2 7), .ref (u2 8)])), ((u2 0), .inl (cI, 40, .inl (η0 0))), ((u2 1), .inl (cI, 40, .inl (η0 1))), ((u2 2), .inl (cZ, 40, .inl (η0 2))), ((u2 3), .inl (cI, 40, .inl (η0 3))), ((u2 4), .inl (cI, 60, .inl (η0 4))), ((u2 5), .inl (cI, 60, .inl (η0 5))), ((u2 6), .inl (cZ, 60, .inl (η0 6))), ((u2 7), .inl (cI, 60, .inl (η0 7))), ((u2 8), .inl (cI, 10, .inl (η0 8))), (q1, .inr (1, [.ref (u12 0), .ref (u12 1), .int (κ0 2 0)])), ((u12 0), .inl (cI, mo, .inl (κ0 0))), ((u12 1), .inl (cI, mo, .inl (κ0 1))), (q2, .inr (1, [.ref (u15 0), .ref (u15 1), .int (κ0 2 0)])), ((u15 0), .inl (cI, mo, .inl (κ0 0))), ((u15 1), .inl (cI, mo, .inl (κ0 1))), (q3, .inr (2, [.ref (u18 0), .int (ν0 1 0), .int (ν0 2 0), .int (ν0 3 0), .int (ν0 4 0), .int (ν0 5 0)])), ((u18 0), .inl (cI, 256, .inl (ν0 0)))] := hD
  refine W.widen (k := 18) (n := 1087) (by omega) (by omega) ?_
  refine va_putF (D := (dC, dI)) (ci := 3) (v := .ref q3) (ty := (.object "SelfCheckSteps$Session")) (C := R_Main) (T := T_Main) (N := 5) hx hb hts in_Main ty_Main tyok_Main nm_Main hown hK hP hD hS 0 rfl rfl 3 (by decide) (hts _ mw_136) (fun _ h9 => h9) rfl hin rfl (by decide +kernel) rfl rfl (Nat.le_of_ble_eq_true rfl) d_MainI_58 (fun H locs hP hD hS => ?_)
  have hP : va_P (dC, dI) vwCl [(oM, .inr (3, [.ref q0, .ref q1, .ref q2, .ref q3, .int 0])), (q0, .inr (0, [.ref (u2 0), .ref (u2 1), .ref (u2 2), .ref (u2 3), .ref (u2 4), .ref (u2 5), .ref (u2 6), .ref (u2 7), .ref (u2 8)])), ((u2 0), .inl (cI, 40, .inl (η0 0))), ((u2 1), .inl (cI, 40, .inl (η0 1))), ((u2 2), .inl (cZ, 40, .inl (η0 2))), ((u2 3), .inl (cI, 40, .inl (η0 3))), ((u2 4), .inl (cI, 60, .inl (η0 4))), ((u2 5), .inl (cI, 60, .inl (η0 5))), ((u2 6), .inl (cZ, 60, .inl (η0 6))), ((u2 7), .inl (cI, 60, .inl (η0 7))), ((u2 8), .inl (cI, 10, .inl (η0 8))), (q1, .inr (1, [.ref (u12 0), .ref (u12 1), .int (κ0 2 0)])), ((u12 0), .inl (cI, mo, .inl (κ0 0))), ((u12 1), .inl (cI, mo, .inl (κ0 1))), (q2, .inr (1, [.ref (u15 0), .ref (u15 1), .int (κ0 2 0)])), ((u15 0), .inl (cI, mo, .inl (κ0 0))), ((u15 1), .inl (cI, mo, .inl (κ0 1))), (q3, .inr (2, [.ref (u18 0), .int (ν0 1 0), .int (ν0 2 0), .int (ν0 3 0), .int (ν0 4 0), .int (ν0 5 0)])), ((u18 0), .inl (cI, 256, .inl (ν0 0)))] H := hP
  have hD : va_D A [(oM, .inr (3, [.ref q0, .ref q1, .ref q2, .ref q3, .int 0])), (q0, .inr (0, [.ref (u2 0), .ref (u2 1), .ref (u2 2), .ref (u2 3), .ref (u2 4), .ref (u2 5), .ref (u2 6), .ref (u2 7), .ref (u2 8)])), ((u2 0), .inl (cI, 40, .inl (η0 0))), ((u2 1), .inl (cI, 40, .inl (η0 1))), ((u2 2), .inl (cZ, 40, .inl (η0 2))), ((u2 3), .inl (cI, 40, .inl (η0 3))), ((u2 4), .inl (cI, 60, .inl (η0 4))), ((u2 5), .inl (cI, 60, .inl (η0 5))), ((u2 6), .inl (cZ, 60, .inl (η0 6))), ((u2 7), .inl (cI, 60, .inl (η0 7))), ((u2 8), .inl (cI, 10, .inl (η0 8))), (q1, .inr (1, [.ref (u12 0), .ref (u12 1), .int (κ0 2 0)])), ((u12 0), .inl (cI, mo, .inl (κ0 0))), ((u12 1), .inl (cI, mo, .inl (κ0 1))), (q2, .inr (1, [.ref (u15 0), .ref (u15 1), .int (κ0 2 0)])), ((u15 0), .inl (cI, mo, .inl (κ0 0))), ((u15 1), .inl (cI, mo, .inl (κ0 1))), (q3, .inr (2, [.ref (u18 0), .int (ν0 1 0), .int (ν0 2 0), .int (ν0 3 0), .int (ν0 4 0), .int (ν0 5 0)])), ((u18 0), .inl (cI, 256, .inl (ν0 0)))] := hD
  refine lv_aload_n hx hb d_MainI_61 rfl (lv_at hl 1 rfl) ?_
  refine lv_iconst (v := 0) hx hb d_MainI_62 (by decide) ?_
  refine va_put (D := (dC, dI)) (ci := 3) (v := .int 0) (ty := .boolean) (C := R_Main) (T := T_Main) (N := 5) hx hb hts in_Main ty_Main tyok_Main nm_Main hown hK hP hD hS 0 rfl rfl 4 (by decide) (hts _ mw_137) (fun _ h9 => h9) rfl (by decide +kernel) rfl rfl (Nat.le_of_ble_eq_true rfl) d_MainI_63 (fun H locs hP hD hS => ?_)
  have hP : va_P (dC, dI) vwCl [(oM, .inr (3, [.ref q0, .ref q1, .ref q2, .ref q3, .int 0])), (q0, .inr (0, [.ref (u2 0), .ref (u2 1), .ref (u2 2), .ref (u2 3), .ref (u2 4), .ref (u2 5), .ref (u2 6), .ref (u2 7), .ref (u2 8)])), ((u2 0), .inl (cI, 40, .inl (η0 0))), ((u2 1), .inl (cI, 40, .inl (η0 1))), ((u2 2), .inl (cZ, 40, .inl (η0 2))), ((u2 3), .inl (cI, 40, .inl (η0 3))), ((u2 4), .inl (cI, 60, .inl (η0 4))), ((u2 5), .inl (cI, 60, .inl (η0 5))), ((u2 6), .inl (cZ, 60, .inl (η0 6))), ((u2 7), .inl (cI, 60, .inl (η0 7))), ((u2 8), .inl (cI, 10, .inl (η0 8))), (q1, .inr (1, [.ref (u12 0), .ref (u12 1), .int (κ0 2 0)])), ((u12 0), .inl (cI, mo, .inl (κ0 0))), ((u12 1), .inl (cI, mo, .inl (κ0 1))), (q2, .inr (1, [.ref (u15 0), .ref (u15 1), .int (κ0 2 0)])), ((u15 0), .inl (cI, mo, .inl (κ0 0))), ((u15 1), .inl (cI, mo, .inl (κ0 1))), (q3, .inr (2, [.ref (u18 0), .int (ν0 1 0), .int (ν0 2 0), .int (ν0 3 0), .int (ν0 4 0), .int (ν0 5 0)])), ((u18 0), .inl (cI, 256, .inl (ν0 0)))] H := hP
  have hD : va_D A [(oM, .inr (3, [.ref q0, .ref q1, .ref q2, .ref q3, .int 0])), (q0, .inr (0, [.ref (u2 0), .ref (u2 1), .ref (u2 2), .ref (u2 3), .ref (u2 4), .ref (u2 5), .ref (u2 6), .ref (u2 7), .ref (u2 8)])), ((u2 0), .inl (cI, 40, .inl (η0 0))), ((u2 1), .inl (cI, 40, .inl (η0 1))), ((u2 2), .inl (cZ, 40, .inl (η0 2))), ((u2 3), .inl (cI, 40, .inl (η0 3))), ((u2 4), .inl (cI, 60, .inl (η0 4))), ((u2 5), .inl (cI, 60, .inl (η0 5))), ((u2 6), .inl (cZ, 60, .inl (η0 6))), ((u2 7), .inl (cI, 60, .inl (η0 7))), ((u2 8), .inl (cI, 10, .inl (η0 8))), (q1, .inr (1, [.ref (u12 0), .ref (u12 1), .int (κ0 2 0)])), ((u12 0), .inl (cI, mo, .inl (κ0 0))), ((u12 1), .inl (cI, mo, .inl (κ0 1))), (q2, .inr (1, [.ref (u15 0), .ref (u15 1), .int (κ0 2 0)])), ((u15 0), .inl (cI, mo, .inl (κ0 0))), ((u15 1), .inl (cI, mo, .inl (κ0 1))), (q3, .inr (2, [.ref (u18 0), .int (ν0 1 0), .int (ν0 2 0), .int (ν0 3 0), .int (ν0 4 0), .int (ν0 5 0)])), ((u18 0), .inl (cI, 256, .inl (ν0 0)))] := hD
  have hP : va_P (dC, dI) vwCl (w_Main cI cZ mo oM q0 (u2 0) (u2 1) (u2 2) (u2 3) (u2 4) (u2 5) (u2 6) (u2 7) (u2 8) q1 (u12 0) (u12 1) q2 (u15 0) (u15 1) q3 (u18 0) (κ0 0 0) (η0 0) (η0 1) (η0 2) (η0 3) (η0 4) (η0 5) (η0 6) (η0 7) (η0 8) (κ0 0) (κ0 1) (κ0 2 0) (κ0 0) (κ0 1) (κ0 2 0) (ν0 0) (ν0 1 0) (ν0 2 0) (ν0 3 0) (ν0 4 0) (ν0 5 0)) H := hP.sub [0, 1, 2, 3, 4, 5, 6, 7, 8, 9, 10, 11, 12, 13, 14, 15, 16, 17, 18] rfl
  have hD : va_D A (w_Main cI cZ mo oM q0 (u2 0) (u2 1) (u2 2) (u2 3) (u2 4) (u2 5) (u2 6) (u2 7) (u2 8) q1 (u12 0) (u12 1) q2 (u15 0) (u15 1) q3 (u18 0) (κ0 0 0) (η0 0) (η0 1) (η0 2) (η0 3) (η0 4) (η0 5) (η0 6) (η0 7) (η0 8) (κ0 0) (κ0 1) (κ0 2 0) (κ0 0) (κ0 1) (κ0 2 0) (ν0 0) (ν0 1 0) (ν0 2 0) (ν0 3 0) (ν0 4 0) (ν0 5 0)) := hD.sub [0, 1, 2, 3, 4, 5, 6, 7, 8, 9, 10, 11, 12, 13, 14, 15, 16, 17, 18] (by decide) rfl
  subst hmE
  exact W.vret hx hb hr (fun t ht hW => ⟨⟨(fun k : Nat => match k with | 0 => q0 | 1 => (u2 0) | 2 => (u2 1) | 3 => (u2 2) | 4 => (u2 3) | 5 => (u2 4) | 6 => (u2 5) | 7 => (u2 6) | 8 => (u2 7) | 9 => (u2 8) | 10 => q1 | 11 => (u12 0) | 12 => (u12 1) | 13 => q2 | 14 => (u15 0) | 15 => (u15 1) | 16 => q3 | _ => (u18 0)), rfl, trivial, by rw [ht]; exact hP, hD⟩, hS.F ht⟩) hS.2.2 d_MainI_66
