def F_mIsP (q1 : Int32) : Int32 :=
  if q1 < 0 then
    0
  else
    if 40 ≤ q1 then
      0
    else
      1
set_option maxHeartbeats 4000000 in
set_option maxRecDepth 100000 in
theorem c_mIsP (l : Launch) (q1 : Int32) : Met l y_mIsP [Cond.code y_mIsP prog_6_method_3_code 1 (some .boolean)] ({ frames := 0, cells := 0, slots := 0, locals := 0 }) (pc0 [.int q1]) (vp_Si (fun r => r = F_mIsP q1)) 0 0 (fun _ => False) := by
  refine Met.ofW (cc := prog_6_method_3_code) (maxL := 1) (ret := (some .boolean)) (by decide) rfl ?_
  intro p e s m args below meth c s₁ B hml hv
  obtain ⟨rfl, hT⟩ := hv
  have hx := B.exec
  have hb := B.bytes
  have hr := B.returns
  have hts : ∀ w ∈ lw_ok, w.before ([.int q1] : List Value).toArray s = true := hT.use
  have hown : s.vm.findClass R_Mod = some m.cls := findClass_of_methodNamed B.named
  have hlocks := B.notSynchronized
  have hl := lv_entry ([.int q1]) (n := 1) (Nat.le_of_ble_eq_true rfl)
  rw [lg_entry_eq]
  generalize (lg_sl ([.int q1]) ++ List.replicate (1 - (lg_sl ([.int q1])).length) Slot.unset).toArray = ls at hl ⊢
  have hl : lv_has ls 1 [(0, .int q1)] := hl
  refine lv_iload_n hx hb d_mIsP_0 rfl (lv_at hl 0 rfl) ?_
  refine lv_if_lt (tgt := 14) hx hb d_mIsP_1 (by decide) (fun c_1 => ?_) (fun c_1 => ?_)
  · refine lv_iconst (v := 0) hx hb d_mIsP_14 (by decide) ?_
    have hF : F_mIsP q1 = 0 := (if_pos c_1).trans rfl
    exact W.zret (ty := .boolean) (v := 0) hx hb hr (by decide) (fun t ht hW => ⟨0, rfl, hF.symm, ht⟩) (fun _ h => absurd h List.not_mem_nil) d_mIsP_15
  · refine lv_iload_n hx hb d_mIsP_4 rfl (lv_at hl 0 rfl) ?_
    refine lv_bipush (v := 40) hx hb d_mIsP_5 (by decide) ?_
    refine lv_icmp_ge (tgt := 14) hx hb d_mIsP_7 (by decide) (fun c_2 => ?_) (fun c_2 => ?_)
    · refine lv_iconst (v := 0) hx hb d_mIsP_14 (by decide) ?_
      have hF : F_mIsP q1 = 0 := (if_neg c_1).trans ((if_pos c_2).trans rfl)
      exact W.zret (ty := .boolean) (v := 0) hx hb hr (by decide) (fun t ht hW => ⟨0, rfl, hF.symm, ht⟩) (fun _ h => absurd h List.not_mem_nil) d_mIsP_15
    · refine lv_iconst (v := 1) hx hb d_mIsP_10 (by decide) ?_
      refine lv_goto (tgt := 15) hx hb d_mIsP_11 (by decide) ?_
      have hF : F_mIsP q1 = 1 := (if_neg c_1).trans ((if_neg c_2).trans rfl)
      exact W.zret (ty := .boolean) (v := 1) hx hb hr (by decide) (fun t ht hW => ⟨1, rfl, hF.symm, ht⟩) (fun _ h => absurd h List.not_mem_nil) d_mIsP_15
def F_mIsI (q1 : Int32) : Int32 :=
  if q1 < 0 then
    0
  else
    if 60 ≤ q1 then
      0
    else
      1
set_option maxHeartbeats 4000000 in
set_option maxRecDepth 100000 in
theorem c_mIsI (l : Launch) (q1 : Int32) : Met l y_mIsI [Cond.code y_mIsI prog_6_method_4_code 1 (some .boolean)] ({ frames := 0, cells := 0, slots := 0, locals := 0 }) (pc0 [.int q1]) (vp_Si (fun r => r = F_mIsI q1)) 0 0 (fun _ => False) := by
  refine Met.ofW (cc := prog_6_method_4_code) (maxL := 1) (ret := (some .boolean)) (by decide) rfl ?_
  intro p e s m args below meth c s₁ B hml hv
  obtain ⟨rfl, hT⟩ := hv
  have hx := B.exec
  have hb := B.bytes
  have hr := B.returns
  have hts : ∀ w ∈ lw_ok, w.before ([.int q1] : List Value).toArray s = true := hT.use
  have hown : s.vm.findClass R_Mod = some m.cls := findClass_of_methodNamed B.named
  have hlocks := B.notSynchronized
  have hl := lv_entry ([.int q1]) (n := 1) (Nat.le_of_ble_eq_true rfl)
  rw [lg_entry_eq]
  generalize (lg_sl ([.int q1]) ++ List.replicate (1 - (lg_sl ([.int q1])).length) Slot.unset).toArray = ls at hl ⊢
  have hl : lv_has ls 1 [(0, .int q1)] := hl
  refine lv_iload_n hx hb d_mIsI_0 rfl (lv_at hl 0 rfl) ?_
  refine lv_if_lt (tgt := 14) hx hb d_mIsI_1 (by decide) (fun c_1 => ?_) (fun c_1 => ?_)
  · refine lv_iconst (v := 0) hx hb d_mIsI_14 (by decide) ?_
    have hF : F_mIsI q1 = 0 := (if_pos c_1).trans rfl
    exact W.zret (ty := .boolean) (v := 0) hx hb hr (by decide) (fun t ht hW => ⟨0, rfl, hF.symm, ht⟩) (fun _ h => absurd h List.not_mem_nil) d_mIsI_15
  · refine lv_iload_n hx hb d_mIsI_4 rfl (lv_at hl 0 rfl) ?_
    refine lv_bipush (v := 60) hx hb d_mIsI_5 (by decide) ?_
    refine lv_icmp_ge (tgt := 14) hx hb d_mIsI_7 (by decide) (fun c_2 => ?_) (fun c_2 => ?_)
    · refine lv_iconst (v := 0) hx hb d_mIsI_14 (by decide) ?_
      have hF : F_mIsI q1 = 0 := (if_neg c_1).trans ((if_pos c_2).trans rfl)
      exact W.zret (ty := .boolean) (v := 0) hx hb hr (by decide) (fun t ht hW => ⟨0, rfl, hF.symm, ht⟩) (fun _ h => absurd h List.not_mem_nil) d_mIsI_15
    · refine lv_iconst (v := 1) hx hb d_mIsI_10 (by decide) ?_
      refine lv_goto (tgt := 15) hx hb d_mIsI_11 (by decide) ?_
      have hF : F_mIsI q1 = 1 := (if_neg c_1).trans ((if_neg c_2).trans rfl)
      exact W.zret (ty := .boolean) (v := 1) hx hb hr (by decide) (fun t ht hW => ⟨1, rfl, hF.symm, ht⟩) (fun _ h => absurd h List.not_mem_nil) d_mIsI_15
theorem in_mIsP {q : Int32} (h : ¬ F_mIsP q = 0) : vp_in q 40 := by
  unfold F_mIsP at h
  by_cases h0 : q < 0
  · exact absurd (if_pos h0) h
  · rw [if_neg h0] at h
    by_cases h1 : (40 : Int32) ≤ q
    · exact absurd (if_pos h1) h
    · exact in_ge (n := 40) h0 h1 (by decide)
theorem in_mIsI {q : Int32} (h : ¬ F_mIsI q = 0) : vp_in q 60 := by
  unfold F_mIsI at h
  by_cases h0 : q < 0
  · exact absurd (if_pos h0) h
  · rw [if_neg h0] at h
    by_cases h1 : (60 : Int32) ≤ q
    · exact absurd (if_pos h1) h
    · exact in_ge (n := 60) h0 h1 (by decide)
def F_mIsB (ρ : SS) (q1 : Int32) : Int32 :=
  if (ρ 2 q1.toNatClampNeg) = 0 then
    if (ρ 3 q1.toNatClampNeg) = 0 then
      0
    else
      1
  else
    1
set_option maxHeartbeats 4000000 in
set_option maxRecDepth 100000 in
theorem c_mIsB (l : Launch) (dC : Nat → ClassId) (dI : Nat → Nat → Nat) (cI cZ : ClassId) (dM dM0 dM1 dM2 dM3 dM4 dM5 dM6 dM7 dM8 dM9 dM10 dM11 dM12 dM13 : Nat) (ρ : SS) (q1 : Int32) (hp : vp_in q1 40) : Met l y_mIsB [Cond.code y_mIsB prog_6_method_6_code 2 (some .boolean)] ({ frames := 0, cells := 0, slots := 0, locals := 0 }) (pcR (dC, dI) (w_Mod cI cZ dM dM0 dM1 dM2 dM3 dM4 dM5 dM6 dM7 dM8 dM9 dM10 dM11 dM12 dM13 (ρ 0) (ρ 1) (ρ 2) (ρ 3) (ρ 4) (ρ 5) (ρ 6) (ρ 7) (ρ 8) (ρ 9) (ρ 10) (ρ 11) (ρ 12) (ρ 13) (ρ 14 0) (ρ 15 0) (ρ 16 0) (ρ 17 0) (ρ 18 0) (ρ 19 0) (ρ 20 0) (ρ 21 0) (ρ 22 0) (ρ 23 0)) (tyC cI cZ) [.ref dM, .int q1]) (vp_Si (fun r => r = F_mIsB ρ q1)) 0 0 (fun _ => False) := by
  refine Met.ofW (cc := prog_6_method_6_code) (maxL := 2) (ret := (some .boolean)) (by decide) rfl ?_
  intro p e s m args below meth c s₁ B hml hv
  obtain ⟨rfl, hT, hP, hK⟩ := hv
  have hx := B.exec
  have hb := B.bytes
  have hr := B.returns
  have hts : ∀ w ∈ lw_ok, w.before ([.ref dM, .int q1] : List Value).toArray s = true := hT.use
  have hown : s.vm.findClass R_Mod = some m.cls := findClass_of_methodNamed B.named
  have hlocks := B.notSynchronized
  have hl := lv_entry ([.ref dM, .int q1]) (n := 2) (Nat.le_of_ble_eq_true rfl)
  rw [lg_entry_eq]
  generalize (lg_sl ([.ref dM, .int q1]) ++ List.replicate (2 - (lg_sl ([.ref dM, .int q1])).length) Slot.unset).toArray = ls at hl ⊢
  have hl : lv_has ls 2 [(0, .ref dM), (1, .int q1)] := hl
  refine lv_aload_n hx hb d_mIsB_0 rfl (lv_at hl 0 rfl) ?_
  refine va_get (D := (dC, dI)) (ci := 4) (v := .ref dM2) (C := R_Mod) (T := T_Mod) (N := 24) hx hb hts in_Mod hown hK hP 0 rfl rfl 4 (by decide) (hts _ mw_344) (fun _ h9 => h9) rfl d_mIsB_1 ?_
  refine lv_iload_n hx hb d_mIsB_4 rfl (lv_at hl 1 rfl) ?_
  refine va_zald (n := 40) (f := ρ 2) hx hb hK hP 3 1 rfl rfl (i := q1) (by first | assumption) d_mIsB_5 ?_
  refine lv_if_ne (tgt := 18) hx hb d_mIsB_6 (by decide) (fun c_1 => ?_) (fun c_1 => ?_)
  · refine lv_iconst (v := 1) hx hb d_mIsB_18 (by decide) ?_
    refine lv_goto (tgt := 23) hx hb d_mIsB_19 (by decide) ?_
    have hF : F_mIsB ρ q1 = 1 := (if_neg c_1).trans rfl
    exact W.zret (ty := .boolean) (v := 1) hx hb hr (by decide) (fun t ht hW => ⟨1, rfl, hF.symm, ht⟩) (fun _ h => absurd h List.not_mem_nil) d_mIsB_23
  · refine lv_aload_n hx hb d_mIsB_9 rfl (lv_at hl 0 rfl) ?_
    refine va_get (D := (dC, dI)) (ci := 4) (v := .ref dM3) (C := R_Mod) (T := T_Mod) (N := 24) hx hb hts in_Mod hown hK hP 0 rfl rfl 5 (by decide) (hts _ mw_345) (fun _ h9 => h9) rfl d_mIsB_10 ?_
    refine lv_iload_n hx hb d_mIsB_13 rfl (lv_at hl 1 rfl) ?_
    refine va_zald (n := 40) (f := ρ 3) hx hb hK hP 4 1 rfl rfl (i := q1) (by first | assumption) d_mIsB_14 ?_
    refine lv_if_eq (tgt := 22) hx hb d_mIsB_15 (by decide) (fun c_2 => ?_) (fun c_2 => ?_)
    · refine lv_iconst (v := 0) hx hb d_mIsB_22 (by decide) ?_
      have hF : F_mIsB ρ q1 = 0 := (if_pos c_1).trans ((if_pos c_2).trans rfl)
      exact W.zret (ty := .boolean) (v := 0) hx hb hr (by decide) (fun t ht hW => ⟨0, rfl, hF.symm, ht⟩) (fun _ h => absurd h List.not_mem_nil) d_mIsB_23
    · refine lv_iconst (v := 1) hx hb d_mIsB_18 (by decide) ?_
      refine lv_goto (tgt := 23) hx hb d_mIsB_19 (by decide) ?_
      have hF : F_mIsB ρ q1 = 1 := (if_pos c_1).trans ((if_neg c_2).trans rfl)
      exact W.zret (ty := .boolean) (v := 1) hx hb hr (by decide) (fun t ht hW => ⟨1, rfl, hF.symm, ht⟩) (fun _ h => absurd h List.not_mem_nil) d_mIsB_23
theorem b01_mB {ρ : SS} {q : Int32} : F_mIsB ρ q = 0 ∨ F_mIsB ρ q = 1 := by
  unfold F_mIsB
  repeat' split
  all_goals simp
/-- the last place below j whose value isn't -1 -/
def rf (f : Nat → Int32) : Nat → Nat
  | 0 => 0
  | j + 1 => if f j = -1 then rf f j else j
theorem rf_f {f : Nat → Int32} {j : Nat} (h : 0 < j) (c : f (j - 1) = -1) : rf f j = rf f (j - 1) := by
  obtain ⟨k, rfl⟩ : ∃ k, j = k + 1 := ⟨j - 1, by omega⟩
  exact if_pos c
theorem rf_t {f : Nat → Int32} {j : Nat} (h : 0 < j) (c : ¬ f (j - 1) = -1) : rf f j = j - 1 := by
  obtain ⟨k, rfl⟩ : ∃ k, j = k + 1 := ⟨j - 1, by omega⟩
  exact if_neg c
theorem rf_lt {f : Nat → Int32} : ∀ j, (∃ r, r < j ∧ ¬ f r = -1) → rf f j < j := by
  intro j
  induction j with
  | zero => intro ⟨r, h, _⟩; omega
  | succ j ih =>
    intro ⟨r, h, h2⟩
    show (if f j = -1 then rf f j else j) < j + 1
    by_cases q : f j = -1
    · rw [if_pos q]
      have hrj : r < j := by
        rcases Nat.lt_or_ge r j with a | a
        · exact a
        · exact absurd (by rw [show r = j by omega]; exact q) h2
      have := ih ⟨r, hrj, h2⟩
      omega
    · rw [if_neg q]; omega
set_option maxHeartbeats 4000000 in
set_option maxRecDepth 100000 in
theorem lp_has {p : Program} {l : Launch} {e : Env} {R : Room} {s : State} {m : MethodId} {args : Array Value} {below : List Frame} {meth : Method} {c : Code} {Q : State → Prop} {cells slots : Nat} {H : Heap} {locs : List Loc} {dC : Nat → ClassId} {dI : Nat → Nat → Nat} {cI cZ : ClassId} {dM dM0 dM1 dM2 dM3 dM4 dM5 dM6 dM7 dM8 dM9 dM10 dM11 dM12 dM13 : Nat} {ρ : SS} {q1 : Int32} (hx : p.tables.exec = Jvm.exec) (hb : c.code = prog_6_method_13_code) (hml : c.maxLocals = 4) (hT : TBL s) (hts : ∀ w ∈ lw_ok, w.before args s = true) (hown : s.vm.findClass R_Mod = some m.cls) (hK : va_K (dC, dI) vwCl (tyC cI cZ) s) (hP : va_P (dC, dI) vwCl (w_Mod cI cZ dM dM0 dM1 dM2 dM3 dM4 dM5 dM6 dM7 dM8 dM9 dM10 dM11 dM12 dM13 (ρ 0) (ρ 1) (ρ 2) (ρ 3) (ρ 4) (ρ 5) (ρ 6) (ρ 7) (ρ 8) (ρ 9) (ρ 10) (ρ 11) (ρ 12) (ρ 13) (ρ 14 0) (ρ 15 0) (ρ 16 0) (ρ 17 0) (ρ 18 0) (ρ 19 0) (ρ 20 0) (ρ 21 0) (ρ 22 0) (ρ 23 0)) H) (kx : ∀ ls : Array Slot, lv_has ls 4 [(0, .ref dM), (1, .int q1), (2, .int (nI (cnt (ρ 5) q1 60))), (3, .int (nI 60))] → W p l e R s m args below meth c H locs cells slots Q (F0 m 34 ls [])) : ∀ (n : Nat) (i : Nat) (ls : Array Slot), (i ≤ 60) → 60 + 1 ≤ i + n → lv_has ls 4 [(0, .ref dM), (1, .int q1), (2, .int (nI (cnt (ρ 5) q1 i))), (3, .int (nI i))] → W p l e R s m args below meth c H locs cells slots Q (F0 m 4 ls []) := by
  intro n
  induction n with
  | zero => intro i ls hi hfu; exact absurd hfu (by omega)
  | succ n ih =>
    intro i ls hi hfu hl
    refine lv_iload_n hx hb d_mHas_4 rfl (lv_at hl 3 rfl) ?_
    refine lv_bipush (v := 60) hx hb d_mHas_5 (by decide) ?_
    refine lv_icmp_ge (tgt := 34) hx hb d_mHas_7 (by decide) (fun c_3 => ?_) (fun c_3 => ?_)
    · have hi60 : i = 60 := by
        rcases Nat.lt_or_ge i 60 with h | h
        · exact absurd c_3 (nI_ge h (by decide))
        · omega
      subst hi60
      exact kx ls hl
    · have hlt : i < 60 := lt_nle (N := 60) (by decide) (by omega) c_3
      refine lv_iload_n hx hb d_mHas_10 rfl (lv_at hl 2 rfl) ?_
      refine lv_aload_n hx hb d_mHas_11 rfl (lv_at hl 0 rfl) ?_
      refine va_get (D := (dC, dI)) (ci := 4) (v := .ref dM5) (C := R_Mod) (T := T_Mod) (N := 24) hx hb hts in_Mod hown hK hP 0 rfl rfl 7 (by decide) (hts _ mw_347) (fun _ h9 => h9) rfl d_mHas_12 ?_
      refine lv_iload_n hx hb d_mHas_15 rfl (lv_at hl 3 rfl) ?_
      refine va_iald (n := 60) (f := ρ 5) hx hb hK hP 6 0 rfl rfl (i := nI i) (vp_in_nI hlt (by decide)) d_mHas_16 ?_
      refine lv_iload_n hx hb d_mHas_17 rfl (lv_at hl 1 rfl) ?_
      refine lv_icmp_ne (tgt := 25) hx hb d_mHas_18 (by decide) (fun c_4 => ?_) (fun c_4 => ?_)
      · refine lv_iconst (v := 0) hx hb d_mHas_25 (by decide) ?_
        refine lv_iadd hx hb d_mHas_26 ?_
        refine lv_istore_n (lv' := [(2, .int ((nI (cnt (ρ 5) q1 i)) + 0)), (0, .ref dM), (1, .int q1), (3, .int (nI i))]) hx hb d_mHas_27 rfl hl (by decide) rfl (fun ls hl => ?_)
        refine lv_iinc (v := nI (i + 1)) (lv' := [(3, .int (nI (i + 1))), (2, .int ((nI (cnt (ρ 5) q1 i)) + 0)), (0, .ref dM), (1, .int q1)]) hx hb d_mHas_28 hl (k := 3) rfl (nI_1 _) (by decide) rfl (fun ls hl => ?_)
        refine lv_goto (tgt := 4) hx hb d_mHas_31 (by decide) ?_
        have hc := c_4
        rw [nI_clamp (show i < 2 ^ 31 by omega)] at hc
        refine ih (i + 1) ls (by omega) (by omega) ?_
        rw [cnt_f hc, ← Int32.add_zero (nI (cnt (ρ 5) q1 i))]
        exact lv_sub hl [2, 3, 1, 0] rfl
      · refine lv_iconst (v := 1) hx hb d_mHas_21 (by decide) ?_
        refine lv_goto (tgt := 26) hx hb d_mHas_22 (by decide) ?_
        refine lv_iadd hx hb d_mHas_26 ?_
        refine lv_istore_n (lv' := [(2, .int ((nI (cnt (ρ 5) q1 i)) + 1)), (0, .ref dM), (1, .int q1), (3, .int (nI i))]) hx hb d_mHas_27 rfl hl (by decide) rfl (fun ls hl => ?_)
        refine lv_iinc (v := nI (i + 1)) (lv' := [(3, .int (nI (i + 1))), (2, .int ((nI (cnt (ρ 5) q1 i)) + 1)), (0, .ref dM), (1, .int q1)]) hx hb d_mHas_28 hl (k := 3) rfl (nI_1 _) (by decide) rfl (fun ls hl => ?_)
        refine lv_goto (tgt := 4) hx hb d_mHas_31 (by decide) ?_
        have hc := c_4
        rw [nI_clamp (show i < 2 ^ 31 by omega)] at hc
        refine ih (i + 1) ls (by omega) (by omega) ?_
        rw [cnt_t hc, ← nI_1 (cnt (ρ 5) q1 i)]
        exact lv_sub hl [2, 3, 1, 0] rfl
def F_mHas (ρ : SS) (q1 : Int32) : Int32 :=
  nI (cnt (ρ 5) q1 60)
set_option maxHeartbeats 4000000 in
set_option maxRecDepth 100000 in
theorem c_mHas (l : Launch) (dC : Nat → ClassId) (dI : Nat → Nat → Nat) (cI cZ : ClassId) (dM dM0 dM1 dM2 dM3 dM4 dM5 dM6 dM7 dM8 dM9 dM10 dM11 dM12 dM13 : Nat) (ρ : SS) (q1 : Int32) : Met l y_mHas [Cond.code y_mHas prog_6_method_13_code 4 (some .int)] ({ frames := 0, cells := 0, slots := 0, locals := 0 }) (pcR (dC, dI) (w_Mod cI cZ dM dM0 dM1 dM2 dM3 dM4 dM5 dM6 dM7 dM8 dM9 dM10 dM11 dM12 dM13 (ρ 0) (ρ 1) (ρ 2) (ρ 3) (ρ 4) (ρ 5) (ρ 6) (ρ 7) (ρ 8) (ρ 9) (ρ 10) (ρ 11) (ρ 12) (ρ 13) (ρ 14 0) (ρ 15 0) (ρ 16 0) (ρ 17 0) (ρ 18 0) (ρ 19 0) (ρ 20 0) (ρ 21 0) (ρ 22 0) (ρ 23 0)) (tyC cI cZ) [.ref dM, .int q1]) (vp_Si (fun r => r = F_mHas ρ q1)) 0 0 (fun _ => False) := by
  refine Met.ofW (cc := prog_6_method_13_code) (maxL := 4) (ret := (some .int)) (by decide) rfl ?_
  intro p e s m args below meth c s₁ B hml hv
  obtain ⟨rfl, hT, hP, hK⟩ := hv
  have hx := B.exec
  have hb := B.bytes
  have hr := B.returns
  have hts : ∀ w ∈ lw_ok, w.before ([.ref dM, .int q1] : List Value).toArray s = true := hT.use
  have hown : s.vm.findClass R_Mod = some m.cls := findClass_of_methodNamed B.named
  have hlocks := B.notSynchronized
  have hl := lv_entry ([.ref dM, .int q1]) (n := 4) (Nat.le_of_ble_eq_true rfl)
  rw [lg_entry_eq]
  generalize (lg_sl ([.ref dM, .int q1]) ++ List.replicate (4 - (lg_sl ([.ref dM, .int q1])).length) Slot.unset).toArray = ls at hl ⊢
  have hl : lv_has ls 4 [(0, .ref dM), (1, .int q1)] := hl
  refine lv_iconst (v := 0) hx hb d_mHas_0 (by decide) ?_
  refine lv_istore_n (lv' := [(2, .int 0), (0, .ref dM), (1, .int q1)]) hx hb d_mHas_1 rfl hl (by decide) rfl (fun ls hl => ?_)
  refine lv_iconst (v := 0) hx hb d_mHas_2 (by decide) ?_
  refine lv_istore_n (lv' := [(3, .int 0), (2, .int 0), (0, .ref dM), (1, .int q1)]) hx hb d_mHas_3 rfl hl (by decide) rfl (fun ls hl => ?_)
  refine lp_has hx hb hml hT hts hown hK hP (fun ls hl => ?_) 61 0 ls (by omega) (by omega) (lv_sub hl [2, 3, 1, 0] rfl)
  refine lv_iload_n hx hb d_mHas_34 rfl (lv_at hl 2 rfl) ?_
  have hF : F_mHas ρ q1 = nI (cnt (ρ 5) q1 60) := rfl
  exact W.iret (v := nI (cnt (ρ 5) q1 60)) hx hb hr (fun t ht hW => ⟨nI (cnt (ρ 5) q1 60), rfl, hF.symm, ht⟩) (fun _ h => absurd h List.not_mem_nil) d_mHas_35
theorem ss_id (f : SS) (k : Nat) : ss f k (f k) = f := by
  funext j
  unfold ss
  by_cases h : j = k
  · rw [if_pos h, h]
  · rw [if_neg h]
def F_mLeave (ρ : SS) (q1 : Int32) : SS := ss (ss ρ 8 (if ρ 8 q1.toNatClampNeg = -1 then ρ 8 else upd (ρ 8) q1.toNatClampNeg (-1))) 9 (if ρ 8 q1.toNatClampNeg = -1 then ρ 9 else upd (ρ 9) (ρ 8 q1.toNatClampNeg).toNatClampNeg (-1))
def F_mCome (ρ : SS) (q1 : Int32) : Int32 × SS := (if ρ 5 q1.toNatClampNeg = -1 then 2 else if ρ 6 q1.toNatClampNeg = -1 then 0 else 1, ss (ss ρ 5 (upd (ρ 5) q1.toNatClampNeg (-1))) 7 (upd (ρ 7) q1.toNatClampNeg (vp_nar .boolean 0)))
set_option maxHeartbeats 4000000 in
set_option maxRecDepth 100000 in
theorem c_mLeave (l : Launch) (dC : Nat → ClassId) (dI : Nat → Nat → Nat) (cI cZ : ClassId) (dM dM0 dM1 dM2 dM3 dM4 dM5 dM6 dM7 dM8 dM9 dM10 dM11 dM12 dM13 : Nat) (sz : Nat) (ρ : SS) (q1 : Int32) (hi : vp_in q1 60) (hk : ρ 8 q1.toNatClampNeg = -1 ∨ vp_in (ρ 8 q1.toNatClampNeg) 10) : Met l y_mLeave [Cond.code y_mLeave prog_6_method_14_code 2 none] ({ frames := 0, cells := 0, slots := 0, locals := 0 }) (pcW (dC, dI) (w_Mod cI cZ dM dM0 dM1 dM2 dM3 dM4 dM5 dM6 dM7 dM8 dM9 dM10 dM11 dM12 dM13 (ρ 0) (ρ 1) (ρ 2) (ρ 3) (ρ 4) (ρ 5) (ρ 6) (ρ 7) (ρ 8) (ρ 9) (ρ 10) (ρ 11) (ρ 12) (ρ 13) (ρ 14 0) (ρ 15 0) (ρ 16 0) (ρ 17 0) (ρ 18 0) (ρ 19 0) (ρ 20 0) (ρ 21 0) (ρ 22 0) (ρ 23 0)) (tyC cI cZ) sz [.ref dM, .int q1]) (qV (fun u => u = ((F_mLeave ρ q1) 8, (F_mLeave ρ q1) 9)) (dC, dI) (fun u : (Nat → Int32) × (Nat → Int32) => w_Mod cI cZ dM dM0 dM1 dM2 dM3 dM4 dM5 dM6 dM7 dM8 dM9 dM10 dM11 dM12 dM13 (ρ 0) (ρ 1) (ρ 2) (ρ 3) (ρ 4) (ρ 5) (ρ 6) (ρ 7) u.1 u.2 (ρ 10) (ρ 11) (ρ 12) (ρ 13) (ρ 14 0) (ρ 15 0) (ρ 16 0) (ρ 17 0) (ρ 18 0) (ρ 19 0) (ρ 20 0) (ρ 21 0) (ρ 22 0) (ρ 23 0)) (va_A (w_Mod cI cZ dM dM0 dM1 dM2 dM3 dM4 dM5 dM6 dM7 dM8 dM9 dM10 dM11 dM12 dM13 (ρ 0) (ρ 1) (ρ 2) (ρ 3) (ρ 4) (ρ 5) (ρ 6) (ρ 7) (ρ 8) (ρ 9) (ρ 10) (ρ 11) (ρ 12) (ρ 13) (ρ 14 0) (ρ 15 0) (ρ 16 0) (ρ 17 0) (ρ 18 0) (ρ 19 0) (ρ 20 0) (ρ 21 0) (ρ 22 0) (ρ 23 0)) sz)) 0 0 (va_A (w_Mod cI cZ dM dM0 dM1 dM2 dM3 dM4 dM5 dM6 dM7 dM8 dM9 dM10 dM11 dM12 dM13 (ρ 0) (ρ 1) (ρ 2) (ρ 3) (ρ 4) (ρ 5) (ρ 6) (ρ 7) (ρ 8) (ρ 9) (ρ 10) (ρ 11) (ρ 12) (ρ 13) (ρ 14 0) (ρ 15 0) (ρ 16 0) (ρ 17 0) (ρ 18 0) (ρ 19 0) (ρ 20 0) (ρ 21 0) (ρ 22 0) (ρ 23 0)) sz) := by
  refine Met.ofW (cc := prog_6_method_14_code) (maxL := 2) (ret := none) (by decide) rfl ?_
  intro p e s m args below meth c s₁ B hml hv
  obtain ⟨rfl, hsz, hT, hP, hK, hD0⟩ := hv
  have hx := B.exec
  have hb := B.bytes
  have hr := B.returns
  have hts : ∀ w ∈ lw_ok, w.before ([.ref dM, .int q1] : List Value).toArray s = true := hT.use
  have hown : s.vm.findClass R_Mod = some m.cls := findClass_of_methodNamed B.named
  have hlocks := B.notSynchronized
  subst hsz
  have hD := hD0.self (sz := s.heap.size)
  generalize hAe : va_A (w_Mod cI cZ dM dM0 dM1 dM2 dM3 dM4 dM5 dM6 dM7 dM8 dM9 dM10 dM11 dM12 dM13 (ρ 0) (ρ 1) (ρ 2) (ρ 3) (ρ 4) (ρ 5) (ρ 6) (ρ 7) (ρ 8) (ρ 9) (ρ 10) (ρ 11) (ρ 12) (ρ 13) (ρ 14 0) (ρ 15 0) (ρ 16 0) (ρ 17 0) (ρ 18 0) (ρ 19 0) (ρ 20 0) (ρ 21 0) (ρ 22 0) (ρ 23 0)) s.heap.size = A at hD ⊢
  have hA : ∀ q : Nat, s.heap.size ≤ q → A q := fun q h => by rw [← hAe]; exact Or.inr h
  have hS : va_S A s.heap s.heap [] := va_S.rf
  have hl := lv_entry ([.ref dM, .int q1]) (n := 2) (Nat.le_of_ble_eq_true rfl)
  rw [lg_entry_eq]
  generalize (lg_sl ([.ref dM, .int q1]) ++ List.replicate (2 - (lg_sl ([.ref dM, .int q1])).length) Slot.unset).toArray = ls at hl ⊢
  have hl : lv_has ls 2 [(0, .ref dM), (1, .int q1)] := hl
  refine lv_aload_n hx hb d_mLeave_0 rfl (lv_at hl 0 rfl) ?_
  refine va_get (D := (dC, dI)) (ci := 4) (v := .ref dM8) (C := R_Mod) (T := T_Mod) (N := 24) hx hb hts in_Mod hown hK hP 0 rfl rfl 10 (by decide) (hts _ mw_350) (fun _ h9 => h9) rfl d_mLeave_1 ?_
  refine lv_iload_n hx hb d_mLeave_4 rfl (lv_at hl 1 rfl) ?_
  refine va_iald (n := 60) (f := ρ 8) hx hb hK hP 9 0 rfl rfl (i := q1) (by first | assumption | exact (hk.resolve_left ‹_›)) d_mLeave_5 ?_
  refine lv_iconst (v := -1) hx hb d_mLeave_6 (by decide) ?_
  refine lv_icmp_eq (tgt := 29) hx hb d_mLeave_7 (by decide) (fun c_1 => ?_) (fun c_1 => ?_)
  · have hF : F_mLeave ρ q1 = ρ := by unfold F_mLeave; rw [if_pos c_1, if_pos c_1]; exact (congrArg (fun f => ss f 9 (ρ 9)) (ss_id ρ 8)).trans (ss_id ρ 9)
    exact W.vret hx hb hr (fun t ht hW => ⟨⟨(ρ 8, ρ 9), rfl, (congrArg (fun f : SS => (f 8, f 9)) hF).symm, by rw [ht]; exact hP, hD⟩, hS.F ht⟩) hS.2.2 d_mLeave_29
  · refine lv_aload_n hx hb d_mLeave_10 rfl (lv_at hl 0 rfl) ?_
    refine va_get (D := (dC, dI)) (ci := 4) (v := .ref dM9) (C := R_Mod) (T := T_Mod) (N := 24) hx hb hts in_Mod hown hK hP 0 rfl rfl 11 (by decide) (hts _ mw_351) (fun _ h9 => h9) rfl d_mLeave_11 ?_
    refine lv_aload_n hx hb d_mLeave_14 rfl (lv_at hl 0 rfl) ?_
    refine va_get (D := (dC, dI)) (ci := 4) (v := .ref dM8) (C := R_Mod) (T := T_Mod) (N := 24) hx hb hts in_Mod hown hK hP 0 rfl rfl 10 (by decide) (hts _ mw_350) (fun _ h9 => h9) rfl d_mLeave_15 ?_
    refine lv_iload_n hx hb d_mLeave_18 rfl (lv_at hl 1 rfl) ?_
    refine va_iald (n := 60) (f := ρ 8) hx hb hK hP 9 0 rfl rfl (i := q1) (by first | assumption | exact (hk.resolve_left ‹_›)) d_mLeave_19 ?_
    refine lv_iconst (v := -1) hx hb d_mLeave_20 (by decide) ?_
    refine va_iast (n := 10) (f := ρ 9) hx hb hK hP hD hS 10 0 rfl rfl (i := ρ 8 q1.toNatClampNeg) (x := -1) (by first | assumption | exact (hk.resolve_left ‹_›)) d_mLeave_21 (fun H locs hP hD hS => ?_)
    have hP : va_P (dC, dI) vwCl (w_Mod cI cZ dM dM0 dM1 dM2 dM3 dM4 dM5 dM6 dM7 dM8 dM9 dM10 dM11 dM12 dM13 (ρ 0) (ρ 1) (ρ 2) (ρ 3) (ρ 4) (ρ 5) (ρ 6) (ρ 7) (ρ 8) (upd (ρ 9) (ρ 8 q1.toNatClampNeg).toNatClampNeg (-1)) (ρ 10) (ρ 11) (ρ 12) (ρ 13) (ρ 14 0) (ρ 15 0) (ρ 16 0) (ρ 17 0) (ρ 18 0) (ρ 19 0) (ρ 20 0) (ρ 21 0) (ρ 22 0) (ρ 23 0)) H := hP
    have hD : va_D A (w_Mod cI cZ dM dM0 dM1 dM2 dM3 dM4 dM5 dM6 dM7 dM8 dM9 dM10 dM11 dM12 dM13 (ρ 0) (ρ 1) (ρ 2) (ρ 3) (ρ 4) (ρ 5) (ρ 6) (ρ 7) (ρ 8) (upd (ρ 9) (ρ 8 q1.toNatClampNeg).toNatClampNeg (-1)) (ρ 10) (ρ 11) (ρ 12) (ρ 13) (ρ 14 0) (ρ 15 0) (ρ 16 0) (ρ 17 0) (ρ 18 0) (ρ 19 0) (ρ 20 0) (ρ 21 0) (ρ 22 0) (ρ 23 0)) := hD
    refine lv_aload_n hx hb d_mLeave_22 rfl (lv_at hl 0 rfl) ?_
    refine va_get (D := (dC, dI)) (ci := 4) (v := .ref dM8) (C := R_Mod) (T := T_Mod) (N := 24) hx hb hts in_Mod hown hK hP 0 rfl rfl 10 (by decide) (hts _ mw_350) (fun _ h9 => h9) rfl d_mLeave_23 ?_
    refine lv_iload_n hx hb d_mLeave_26 rfl (lv_at hl 1 rfl) ?_
    refine lv_iconst (v := -1) hx hb d_mLeave_27 (by decide) ?_
    refine va_iast (n := 60) (f := ρ 8) hx hb hK hP hD hS 9 0 rfl rfl (i := q1) (x := -1) (by first | assumption | exact (hk.resolve_left ‹_›)) d_mLeave_28 (fun H locs hP hD hS => ?_)
    have hP : va_P (dC, dI) vwCl (w_Mod cI cZ dM dM0 dM1 dM2 dM3 dM4 dM5 dM6 dM7 dM8 dM9 dM10 dM11 dM12 dM13 (ρ 0) (ρ 1) (ρ 2) (ρ 3) (ρ 4) (ρ 5) (ρ 6) (ρ 7) (upd (ρ 8) q1.toNatClampNeg (-1)) (upd (ρ 9) (ρ 8 q1.toNatClampNeg).toNatClampNeg (-1)) (ρ 10) (ρ 11) (ρ 12) (ρ 13) (ρ 14 0) (ρ 15 0) (ρ 16 0) (ρ 17 0) (ρ 18 0) (ρ 19 0) (ρ 20 0) (ρ 21 0) (ρ 22 0) (ρ 23 0)) H := hP
    have hD : va_D A (w_Mod cI cZ dM dM0 dM1 dM2 dM3 dM4 dM5 dM6 dM7 dM8 dM9 dM10 dM11 dM12 dM13 (ρ 0) (ρ 1) (ρ 2) (ρ 3) (ρ 4) (ρ 5) (ρ 6) (ρ 7) (upd (ρ 8) q1.toNatClampNeg (-1)) (upd (ρ 9) (ρ 8 q1.toNatClampNeg).toNatClampNeg (-1)) (ρ 10) (ρ 11) (ρ 12) (ρ 13) (ρ 14 0) (ρ 15 0) (ρ 16 0) (ρ 17 0) (ρ 18 0) (ρ 19 0) (ρ 20 0) (ρ 21 0) (ρ 22 0) (ρ 23 0)) := hD
    have hF : F_mLeave ρ q1 = (ss (ss ρ 8 (upd (ρ 8) q1.toNatClampNeg (-1))) 9 (upd (ρ 9) (ρ 8 q1.toNatClampNeg).toNatClampNeg (-1))) := by unfold F_mLeave; rw [if_neg c_1, if_neg c_1]
    exact W.vret hx hb hr (fun t ht hW => ⟨⟨(upd (ρ 8) q1.toNatClampNeg (-1), upd (ρ 9) (ρ 8 q1.toNatClampNeg).toNatClampNeg (-1)), rfl, (congrArg (fun f : SS => (f 8, f 9)) hF).symm, by rw [ht]; exact hP, hD⟩, hS.F ht⟩) hS.2.2 d_mLeave_29
