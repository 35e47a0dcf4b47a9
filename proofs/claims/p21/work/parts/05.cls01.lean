theorem nz_b {x : Int32} (h : x = 0 ∨ x = 1) : narrow .boolean (.int x) = .int x := by rcases h with rfl | rfl <;> rfl
theorem fz_b {x : Int32} (h : x = 0 ∨ x = 1) : fits .boolean (.int x) = true := by rcases h with rfl | rfl <;> rfl
theorem in_ge {x : Int32} {n : Nat} (h0 : ¬ x < 0) (h1 : ¬ nI n ≤ x) (hn : n < 2 ^ 31) : vp_in x n := by
  rcases pk_ix x hn with h | h | ⟨j, hj, rfl⟩
  · exact absurd h h0
  · exact absurd h h1
  · exact vp_in_nI hj hn
theorem lt_nle {i N : Nat} (hN : N < 2 ^ 31) (hi : i < 2 ^ 31) (h : ¬ nI N ≤ nI i) : i < N := by
  rcases Nat.lt_or_ge i N with q | q
  · exact q
  · exact absurd (nI_le q hi) h
def cnt (f : Nat → Int32) (x : Int32) : Nat → Nat
  | 0 => 0
  | n + 1 => cnt f x n + (if f n = x then 1 else 0)
theorem cnt_t {f : Nat → Int32} {x : Int32} {i : Nat} (h : f i = x) : cnt f x (i + 1) = cnt f x i + 1 := by show cnt f x i + (if f i = x then 1 else 0) = _; rw [if_pos h]
theorem cnt_f {f : Nat → Int32} {x : Int32} {i : Nat} (h : ¬ f i = x) : cnt f x (i + 1) = cnt f x i := by show cnt f x i + (if f i = x then 1 else 0) = _; rw [if_neg h]; rfl
theorem cnt_le (f : Nat → Int32) (x : Int32) (n : Nat) : cnt f x n ≤ n := by
  induction n with
  | zero => exact Nat.le_refl _
  | succ n ih => show cnt f x n + (if f n = x then 1 else 0) ≤ n + 1; split <;> omega
/-- the first place from i on, below i + n, whose value is -1; else -1 -/
def fst_from (f : Nat → Int32) : Nat → Nat → Int32
  | 0, _ => -1
  | n + 1, i => if f i = -1 then nI i else fst_from f n (i + 1)
def F_isPerson (q1 : Int32) : Int32 :=
  if q1 < 0 then
    0
  else
    if 40 ≤ q1 then
      0
    else
      1
set_option maxHeartbeats 4000000 in
set_option maxRecDepth 100000 in
theorem c_isPerson (l : Launch) (q1 : Int32) : Met l y_isPerson [Cond.code y_isPerson prog_1_method_22_code 1 (some .boolean)] ({ frames := 0, cells := 0, slots := 0, locals := 0 }) (pc0 [.int q1]) (vp_Si (fun r => r = F_isPerson q1)) 0 0 (fun _ => False) := by
  refine Met.ofW (cc := prog_1_method_22_code) (maxL := 1) (ret := (some .boolean)) (by decide) rfl ?_
  intro p e s m args below meth c s₁ B hml hv
  obtain ⟨rfl, hT⟩ := hv
  have hx := B.exec
  have hb := B.bytes
  have hr := B.returns
  have hts : ∀ w ∈ lw_ok, w.before ([.int q1] : List Value).toArray s = true := hT.use
  have hown : s.vm.findClass R_Main = some m.cls := findClass_of_methodNamed B.named
  have hlocks := B.notSynchronized
  have hl := lv_entry ([.int q1]) (n := 1) (Nat.le_of_ble_eq_true rfl)
  rw [lg_entry_eq]
  generalize (lg_sl ([.int q1]) ++ List.replicate (1 - (lg_sl ([.int q1])).length) Slot.unset).toArray = ls at hl ⊢
  have hl : lv_has ls 1 [(0, .int q1)] := hl
  refine lv_iload_n hx hb d_isPerson_0 rfl (lv_at hl 0 rfl) ?_
  refine lv_if_lt (tgt := 14) hx hb d_isPerson_1 (by decide) (fun c_1 => ?_) (fun c_1 => ?_)
  · refine lv_iconst (v := 0) hx hb d_isPerson_14 (by decide) ?_
    have hF : F_isPerson q1 = 0 := (if_pos c_1).trans rfl
    exact W.zret (ty := .boolean) (v := 0) hx hb hr (by decide) (fun t ht hW => ⟨0, rfl, hF.symm, ht⟩) (fun _ h => absurd h List.not_mem_nil) d_isPerson_15
  · refine lv_iload_n hx hb d_isPerson_4 rfl (lv_at hl 0 rfl) ?_
    refine lv_bipush (v := 40) hx hb d_isPerson_5 (by decide) ?_
    refine lv_icmp_ge (tgt := 14) hx hb d_isPerson_7 (by decide) (fun c_2 => ?_) (fun c_2 => ?_)
    · refine lv_iconst (v := 0) hx hb d_isPerson_14 (by decide) ?_
      have hF : F_isPerson q1 = 0 := (if_neg c_1).trans ((if_pos c_2).trans rfl)
      exact W.zret (ty := .boolean) (v := 0) hx hb hr (by decide) (fun t ht hW => ⟨0, rfl, hF.symm, ht⟩) (fun _ h => absurd h List.not_mem_nil) d_isPerson_15
    · refine lv_iconst (v := 1) hx hb d_isPerson_10 (by decide) ?_
      refine lv_goto (tgt := 15) hx hb d_isPerson_11 (by decide) ?_
      have hF : F_isPerson q1 = 1 := (if_neg c_1).trans ((if_neg c_2).trans rfl)
      exact W.zret (ty := .boolean) (v := 1) hx hb hr (by decide) (fun t ht hW => ⟨1, rfl, hF.symm, ht⟩) (fun _ h => absurd h List.not_mem_nil) d_isPerson_15
def F_isItem (q1 : Int32) : Int32 :=
  if q1 < 0 then
    0
  else
    if 60 ≤ q1 then
      0
    else
      1
set_option maxHeartbeats 4000000 in
set_option maxRecDepth 100000 in
theorem c_isItem (l : Launch) (q1 : Int32) : Met l y_isItem [Cond.code y_isItem prog_1_method_23_code 1 (some .boolean)] ({ frames := 0, cells := 0, slots := 0, locals := 0 }) (pc0 [.int q1]) (vp_Si (fun r => r = F_isItem q1)) 0 0 (fun _ => False) := by
  refine Met.ofW (cc := prog_1_method_23_code) (maxL := 1) (ret := (some .boolean)) (by decide) rfl ?_
  intro p e s m args below meth c s₁ B hml hv
  obtain ⟨rfl, hT⟩ := hv
  have hx := B.exec
  have hb := B.bytes
  have hr := B.returns
  have hts : ∀ w ∈ lw_ok, w.before ([.int q1] : List Value).toArray s = true := hT.use
  have hown : s.vm.findClass R_Main = some m.cls := findClass_of_methodNamed B.named
  have hlocks := B.notSynchronized
  have hl := lv_entry ([.int q1]) (n := 1) (Nat.le_of_ble_eq_true rfl)
  rw [lg_entry_eq]
  generalize (lg_sl ([.int q1]) ++ List.replicate (1 - (lg_sl ([.int q1])).length) Slot.unset).toArray = ls at hl ⊢
  have hl : lv_has ls 1 [(0, .int q1)] := hl
  refine lv_iload_n hx hb d_isItem_0 rfl (lv_at hl 0 rfl) ?_
  refine lv_if_lt (tgt := 14) hx hb d_isItem_1 (by decide) (fun c_1 => ?_) (fun c_1 => ?_)
  · refine lv_iconst (v := 0) hx hb d_isItem_14 (by decide) ?_
    have hF : F_isItem q1 = 0 := (if_pos c_1).trans rfl
    exact W.zret (ty := .boolean) (v := 0) hx hb hr (by decide) (fun t ht hW => ⟨0, rfl, hF.symm, ht⟩) (fun _ h => absurd h List.not_mem_nil) d_isItem_15
  · refine lv_iload_n hx hb d_isItem_4 rfl (lv_at hl 0 rfl) ?_
    refine lv_bipush (v := 60) hx hb d_isItem_5 (by decide) ?_
    refine lv_icmp_ge (tgt := 14) hx hb d_isItem_7 (by decide) (fun c_2 => ?_) (fun c_2 => ?_)
    · refine lv_iconst (v := 0) hx hb d_isItem_14 (by decide) ?_
      have hF : F_isItem q1 = 0 := (if_neg c_1).trans ((if_pos c_2).trans rfl)
      exact W.zret (ty := .boolean) (v := 0) hx hb hr (by decide) (fun t ht hW => ⟨0, rfl, hF.symm, ht⟩) (fun _ h => absurd h List.not_mem_nil) d_isItem_15
    · refine lv_iconst (v := 1) hx hb d_isItem_10 (by decide) ?_
      refine lv_goto (tgt := 15) hx hb d_isItem_11 (by decide) ?_
      have hF : F_isItem q1 = 1 := (if_neg c_1).trans ((if_neg c_2).trans rfl)
      exact W.zret (ty := .boolean) (v := 1) hx hb hr (by decide) (fun t ht hW => ⟨1, rfl, hF.symm, ht⟩) (fun _ h => absurd h List.not_mem_nil) d_isItem_15
theorem in_isPerson {q : Int32} (h : ¬ F_isPerson q = 0) : vp_in q 40 := by
  unfold F_isPerson at h
  by_cases h0 : q < 0
  · exact absurd (if_pos h0) h
  · rw [if_neg h0] at h
    by_cases h1 : (40 : Int32) ≤ q
    · exact absurd (if_pos h1) h
    · exact in_ge (n := 40) h0 h1 (by decide)
theorem in_isItem {q : Int32} (h : ¬ F_isItem q = 0) : vp_in q 60 := by
  unfold F_isItem at h
  by_cases h0 : q < 0
  · exact absurd (if_pos h0) h
  · rw [if_neg h0] at h
    by_cases h1 : (60 : Int32) ≤ q
    · exact absurd (if_pos h1) h
    · exact in_ge (n := 60) h0 h1 (by decide)
def F_isBBC (η : SS) (q1 : Int32) : Int32 :=
  if (η 3 q1.toNatClampNeg) < 3 then
    0
  else
    1
set_option maxHeartbeats 4000000 in
set_option maxRecDepth 100000 in
theorem c_isBBC (l : Launch) (dC : Nat → ClassId) (dI : Nat → Nat → Nat) (cI cZ : ClassId) (hH hH0 hH1 hH2 hH3 hH4 hH5 hH6 hH7 hH8 : Nat) (η : SS) (q1 : Int32) (hp : vp_in q1 40) : Met l y_isBBC [Cond.code y_isBBC prog_2_method_2_code 2 (some .boolean)] ({ frames := 0, cells := 0, slots := 0, locals := 0 }) (pcR (dC, dI) (w_House cI cZ hH hH0 hH1 hH2 hH3 hH4 hH5 hH6 hH7 hH8 (η 0) (η 1) (η 2) (η 3) (η 4) (η 5) (η 6) (η 7) (η 8)) (tyC cI cZ) [.ref hH, .int q1]) (vp_Si (fun r => r = F_isBBC η q1)) 0 0 (fun _ => False) := by
  refine Met.ofW (cc := prog_2_method_2_code) (maxL := 2) (ret := (some .boolean)) (by decide) rfl ?_
  intro p e s m args below meth c s₁ B hml hv
  obtain ⟨rfl, hT, hP, hK⟩ := hv
  have hx := B.exec
  have hb := B.bytes
  have hr := B.returns
  have hts : ∀ w ∈ lw_ok, w.before ([.ref hH, .int q1] : List Value).toArray s = true := hT.use
  have hown : s.vm.findClass R_House = some m.cls := findClass_of_methodNamed B.named
  have hlocks := B.notSynchronized
  have hl := lv_entry ([.ref hH, .int q1]) (n := 2) (Nat.le_of_ble_eq_true rfl)
  rw [lg_entry_eq]
  generalize (lg_sl ([.ref hH, .int q1]) ++ List.replicate (2 - (lg_sl ([.ref hH, .int q1])).length) Slot.unset).toArray = ls at hl ⊢
  have hl : lv_has ls 2 [(0, .ref hH), (1, .int q1)] := hl
  refine lv_aload_n hx hb d_isBBC_0 rfl (lv_at hl 0 rfl) ?_
  refine va_get (D := (dC, dI)) (ci := 0) (v := .ref hH3) (C := R_House) (T := T_House) (N := 9) hx hb hts in_House hown hK hP 0 rfl rfl 3 (by decide) (hts _ mw_49) (fun _ h9 => h9) rfl d_isBBC_1 ?_
  refine lv_iload_n hx hb d_isBBC_4 rfl (lv_at hl 1 rfl) ?_
  refine va_iald (n := 40) (f := η 3) hx hb hK hP 4 0 rfl rfl (i := q1) (by first | assumption) d_isBBC_5 ?_
  refine lv_iconst (v := 3) hx hb d_isBBC_6 (by decide) ?_
  refine lv_icmp_lt (tgt := 14) hx hb d_isBBC_7 (by decide) (fun c_1 => ?_) (fun c_1 => ?_)
  · refine lv_iconst (v := 0) hx hb d_isBBC_14 (by decide) ?_
    have hF : F_isBBC η q1 = 0 := (if_pos c_1).trans rfl
    exact W.zret (ty := .boolean) (v := 0) hx hb hr (by decide) (fun t ht hW => ⟨0, rfl, hF.symm, ht⟩) (fun _ h => absurd h List.not_mem_nil) d_isBBC_15
  · refine lv_iconst (v := 1) hx hb d_isBBC_10 (by decide) ?_
    refine lv_goto (tgt := 15) hx hb d_isBBC_11 (by decide) ?_
    have hF : F_isBBC η q1 = 1 := (if_neg c_1).trans rfl
    exact W.zret (ty := .boolean) (v := 1) hx hb hr (by decide) (fun t ht hW => ⟨1, rfl, hF.symm, ht⟩) (fun _ h => absurd h List.not_mem_nil) d_isBBC_15
def F_isBl (η : SS) (q1 : Int32) : Int32 :=
  if (η 2 q1.toNatClampNeg) = 0 then
    if (F_isBBC η q1) = 0 then
      0
    else
      1
  else
    1
set_option maxHeartbeats 4000000 in
set_option maxRecDepth 100000 in
theorem c_isBl (l : Launch) (dC : Nat → ClassId) (dI : Nat → Nat → Nat) (cI cZ : ClassId) (hH hH0 hH1 hH2 hH3 hH4 hH5 hH6 hH7 hH8 : Nat) (η : SS) (q1 : Int32) (hp : vp_in q1 40) : Met l y_isBl [Cond.code y_isBl prog_2_method_3_code 2 (some .boolean)] ({ frames := 1, cells := 0, slots := 0, locals := 21 }) (pcR (dC, dI) (w_House cI cZ hH hH0 hH1 hH2 hH3 hH4 hH5 hH6 hH7 hH8 (η 0) (η 1) (η 2) (η 3) (η 4) (η 5) (η 6) (η 7) (η 8)) (tyC cI cZ) [.ref hH, .int q1]) (vp_Si (fun r => r = F_isBl η q1)) 0 0 (fun _ => False) := by
  refine Met.ofW (cc := prog_2_method_3_code) (maxL := 2) (ret := (some .boolean)) (by decide) rfl ?_
  intro p e s m args below meth c s₁ B hml hv
  obtain ⟨rfl, hT, hP, hK⟩ := hv
  have hx := B.exec
  have hb := B.bytes
  have hr := B.returns
  have hts : ∀ w ∈ lw_ok, w.before ([.ref hH, .int q1] : List Value).toArray s = true := hT.use
  have hown : s.vm.findClass R_House = some m.cls := findClass_of_methodNamed B.named
  have hlocks := B.notSynchronized
  have hl := lv_entry ([.ref hH, .int q1]) (n := 2) (Nat.le_of_ble_eq_true rfl)
  rw [lg_entry_eq]
  generalize (lg_sl ([.ref hH, .int q1]) ++ List.replicate (2 - (lg_sl ([.ref hH, .int q1])).length) Slot.unset).toArray = ls at hl ⊢
  have hl : lv_has ls 2 [(0, .ref hH), (1, .int q1)] := hl
  refine lv_aload_n hx hb d_isBl_0 rfl (lv_at hl 0 rfl) ?_
  refine va_get (D := (dC, dI)) (ci := 0) (v := .ref hH2) (C := R_House) (T := T_House) (N := 9) hx hb hts in_House hown hK hP 0 rfl rfl 2 (by decide) (hts _ mw_47) (fun _ h9 => h9) rfl d_isBl_1 ?_
  refine lv_iload_n hx hb d_isBl_4 rfl (lv_at hl 1 rfl) ?_
  refine va_zald (n := 40) (f := η 2) hx hb hK hP 3 1 rfl rfl (i := q1) (by first | assumption) d_isBl_5 ?_
  refine lv_if_ne (tgt := 17) hx hb d_isBl_6 (by decide) (fun c_1 => ?_) (fun c_1 => ?_)
  · refine lv_iconst (v := 1) hx hb d_isBl_17 (by decide) ?_
    refine lv_goto (tgt := 22) hx hb d_isBl_18 (by decide) ?_
    have hF : F_isBl η q1 = 1 := (if_neg c_1).trans rfl
    exact W.zret (ty := .boolean) (v := 1) hx hb hr (by decide) (fun t ht hW => ⟨1, rfl, hF.symm, ht⟩) (fun _ h => absurd h List.not_mem_nil) d_isBl_22
  · refine lv_aload_n hx hb d_isBl_9 rfl (lv_at hl 0 rfl) ?_
    refine lv_iload_n hx hb d_isBl_10 rfl (lv_at hl 1 rfl) ?_
    refine xc_VR (As := [.int q1]) (rest := []) (ci := 0) ⟨hx, hb, hml, hown, hts⟩ hT hK hP (c_isBBC l dC dI cI cZ hH hH0 hH1 hH2 hH3 hH4 hH5 hH6 hH7 hH8 η q1 (by first | assumption)) [0, 1, 2, 3, 4, 5, 6, 7, 8, 9] rfl (xw_V 1 hts mw_167 mw_15 mw_164 mw_165 mw_166 rfl rfl (by decide +kernel) ⟨Nat.le_of_ble_eq_true rfl, Nat.le_of_ble_eq_true rfl⟩) rfl rfl rfl hl.1 rfl (Nat.le_of_ble_eq_true rfl) d_isBl_11 ⟨Nat.zero_le _, Nat.zero_le _⟩ (fun r hw => ?_)
    subst hw
    refine lv_if_eq (tgt := 21) hx hb d_isBl_14 (by decide) (fun c_2 => ?_) (fun c_2 => ?_)
    · refine lv_iconst (v := 0) hx hb d_isBl_21 (by decide) ?_
      have hF : F_isBl η q1 = 0 := (if_pos c_1).trans ((if_pos c_2).trans rfl)
      exact W.zret (ty := .boolean) (v := 0) hx hb hr (by decide) (fun t ht hW => ⟨0, rfl, hF.symm, ht⟩) (fun _ h => absurd h List.not_mem_nil) d_isBl_22
    · refine lv_iconst (v := 1) hx hb d_isBl_17 (by decide) ?_
      refine lv_goto (tgt := 22) hx hb d_isBl_18 (by decide) ?_
      have hF : F_isBl η q1 = 1 := (if_pos c_1).trans ((if_neg c_2).trans rfl)
      exact W.zret (ty := .boolean) (v := 1) hx hb hr (by decide) (fun t ht hW => ⟨1, rfl, hF.symm, ht⟩) (fun _ h => absurd h List.not_mem_nil) d_isBl_22
theorem b01_BBC {η : SS} {q : Int32} : F_isBBC η q = 0 ∨ F_isBBC η q = 1 := by unfold F_isBBC; split <;> simp
theorem b01_Bl {η : SS} {q : Int32} : F_isBl η q = 0 ∨ F_isBl η q = 1 := by unfold F_isBl; repeat' split
                                                                            all_goals simp
set_option maxHeartbeats 4000000 in
set_option maxRecDepth 100000 in
theorem lp_cnt {p : Program} {l : Launch} {e : Env} {R : Room} {s : State} {m : MethodId} {args : Array Value} {below : List Frame} {meth : Method} {c : Code} {Q : State → Prop} {cells slots : Nat} {H : Heap} {locs : List Loc} {dC : Nat → ClassId} {dI : Nat → Nat → Nat} {cI cZ : ClassId} {hH hH0 hH1 hH2 hH3 hH4 hH5 hH6 hH7 hH8 : Nat} {η : SS} {q1 : Int32} (hx : p.tables.exec = Jvm.exec) (hb : c.code = prog_2_method_4_code) (hml : c.maxLocals = 4) (hT : TBL s) (hts : ∀ w ∈ lw_ok, w.before args s = true) (hown : s.vm.findClass R_House = some m.cls) (hK : va_K (dC, dI) vwCl (tyC cI cZ) s) (hP : va_P (dC, dI) vwCl (w_House cI cZ hH hH0 hH1 hH2 hH3 hH4 hH5 hH6 hH7 hH8 (η 0) (η 1) (η 2) (η 3) (η 4) (η 5) (η 6) (η 7) (η 8)) H) (kx : ∀ ls : Array Slot, lv_has ls 4 [(0, .ref hH), (1, .int q1), (2, .int (nI (cnt (η 4) q1 60))), (3, .int (nI 60))] → W p l e R s m args below meth c H locs cells slots Q (F0 m 29 ls [])) : ∀ (n : Nat) (i : Nat) (ls : Array Slot), (i ≤ 60) → 60 + 1 ≤ i + n → lv_has ls 4 [(0, .ref hH), (1, .int q1), (2, .int (nI (cnt (η 4) q1 i))), (3, .int (nI i))] → W p l e R s m args below meth c H locs cells slots Q (F0 m 4 ls []) := by
  intro n
  induction n with
  | zero => intro i ls hi hfu; exact absurd hfu (by omega)
  | succ n ih =>
    intro i ls hi hfu hl
    refine lv_iload_n hx hb d_cntI_4 rfl (lv_at hl 3 rfl) ?_
    refine lv_bipush (v := 60) hx hb d_cntI_5 (by decide) ?_
    refine lv_icmp_ge (tgt := 29) hx hb d_cntI_7 (by decide) (fun c_3 => ?_) (fun c_3 => ?_)
    · have hi60 : i = 60 := by
        rcases Nat.lt_or_ge i 60 with h | h
        · exact absurd c_3 (nI_ge h (by decide))
        · omega
      subst hi60
      exact kx ls hl
    · have hlt : i < 60 := lt_nle (N := 60) (by decide) (by omega) c_3
      refine lv_aload_n hx hb d_cntI_10 rfl (lv_at hl 0 rfl) ?_
      refine va_get (D := (dC, dI)) (ci := 0) (v := .ref hH4) (C := R_House) (T := T_House) (N := 9) hx hb hts in_House hown hK hP 0 rfl rfl 4 (by decide) (hts _ mw_51) (fun _ h9 => h9) rfl d_cntI_11 ?_
      refine lv_iload_n hx hb d_cntI_14 rfl (lv_at hl 3 rfl) ?_
      refine va_iald (n := 60) (f := η 4) hx hb hK hP 5 0 rfl rfl (i := nI i) (vp_in_nI hlt (by decide)) d_cntI_15 ?_
      refine lv_iload_n hx hb d_cntI_16 rfl (lv_at hl 1 rfl) ?_
      refine lv_icmp_ne (tgt := 23) hx hb d_cntI_17 (by decide) (fun c_4 => ?_) (fun c_4 => ?_)
      · refine lv_iinc (v := nI (i + 1)) (lv' := [(3, .int (nI (i + 1))), (0, .ref hH), (1, .int q1), (2, .int (nI (cnt (η 4) q1 i)))]) hx hb d_cntI_23 hl (k := 3) rfl (nI_1 _) (by decide) rfl (fun ls hl => ?_)
        refine lv_goto (tgt := 4) hx hb d_cntI_26 (by decide) ?_
        have hc := c_4
        rw [nI_clamp (show i < 2 ^ 31 by omega)] at hc
        refine ih (i + 1) ls (by omega) (by omega) ?_
        rw [cnt_f hc]
        exact lv_sub hl [1, 2, 3, 0] rfl
      · refine lv_iinc (v := nI ((cnt (η 4) q1 i) + 1)) (lv' := [(2, .int (nI ((cnt (η 4) q1 i) + 1))), (0, .ref hH), (1, .int q1), (3, .int (nI i))]) hx hb d_cntI_20 hl (k := 2) rfl (nI_1 _) (by decide) rfl (fun ls hl => ?_)
        refine lv_iinc (v := nI (i + 1)) (lv' := [(3, .int (nI (i + 1))), (2, .int (nI ((cnt (η 4) q1 i) + 1))), (0, .ref hH), (1, .int q1)]) hx hb d_cntI_23 hl (k := 3) rfl (nI_1 _) (by decide) rfl (fun ls hl => ?_)
        refine lv_goto (tgt := 4) hx hb d_cntI_26 (by decide) ?_
        have hc := c_4
        rw [nI_clamp (show i < 2 ^ 31 by omega)] at hc
        refine ih (i + 1) ls (by omega) (by omega) ?_
        rw [cnt_t hc]
        exact lv_sub hl [2, 3, 1, 0] rfl
def F_cntI (η : SS) (q1 : Int32) : Int32 :=
  nI (cnt (η 4) q1 60)
set_option maxHeartbeats 4000000 in
set_option maxRecDepth 100000 in
theorem c_cntI (l : Launch) (dC : Nat → ClassId) (dI : Nat → Nat → Nat) (cI cZ : ClassId) (hH hH0 hH1 hH2 hH3 hH4 hH5 hH6 hH7 hH8 : Nat) (η : SS) (q1 : Int32) : Met l y_cntI [Cond.code y_cntI prog_2_method_4_code 4 (some .int)] ({ frames := 0, cells := 0, slots := 0, locals := 0 }) (pcR (dC, dI) (w_House cI cZ hH hH0 hH1 hH2 hH3 hH4 hH5 hH6 hH7 hH8 (η 0) (η 1) (η 2) (η 3) (η 4) (η 5) (η 6) (η 7) (η 8)) (tyC cI cZ) [.ref hH, .int q1]) (vp_Si (fun r => r = F_cntI η q1)) 0 0 (fun _ => False) := by
  refine Met.ofW (cc := prog_2_method_4_code) (maxL := 4) (ret := (some .int)) (by decide) rfl ?_
  intro p e s m args below meth c s₁ B hml hv
  obtain ⟨rfl, hT, hP, hK⟩ := hv
  have hx := B.exec
  have hb := B.bytes
  have hr := B.returns
  have hts : ∀ w ∈ lw_ok, w.before ([.ref hH, .int q1] : List Value).toArray s = true := hT.use
  have hown : s.vm.findClass R_House = some m.cls := findClass_of_methodNamed B.named
  have hlocks := B.notSynchronized
  have hl := lv_entry ([.ref hH, .int q1]) (n := 4) (Nat.le_of_ble_eq_true rfl)
  rw [lg_entry_eq]
  generalize (lg_sl ([.ref hH, .int q1]) ++ List.replicate (4 - (lg_sl ([.ref hH, .int q1])).length) Slot.unset).toArray = ls at hl ⊢
  have hl : lv_has ls 4 [(0, .ref hH), (1, .int q1)] := hl
  refine lv_iconst (v := 0) hx hb d_cntI_0 (by decide) ?_
  refine lv_istore_n (lv' := [(2, .int 0), (0, .ref hH), (1, .int q1)]) hx hb d_cntI_1 rfl hl (by decide) rfl (fun ls hl => ?_)
  refine lv_iconst (v := 0) hx hb d_cntI_2 (by decide) ?_
  refine lv_istore_n (lv' := [(3, .int 0), (2, .int 0), (0, .ref hH), (1, .int q1)]) hx hb d_cntI_3 rfl hl (by decide) rfl (fun ls hl => ?_)
  refine lp_cnt hx hb hml hT hts hown hK hP (fun ls hl => ?_) 61 0 ls (by omega) (by omega) (lv_sub hl [2, 3, 1, 0] rfl)
  refine lv_iload_n hx hb d_cntI_29 rfl (lv_at hl 2 rfl) ?_
  have hF : F_cntI η q1 = nI (cnt (η 4) q1 60) := rfl
  exact W.iret (v := nI (cnt (η 4) q1 60)) hx hb hr (fun t ht hW => ⟨nI (cnt (η 4) q1 60), rfl, hF.symm, ht⟩) (fun _ h => absurd h List.not_mem_nil) d_cntI_30
