def F_remF (mo : Nat) (κ : SS) (q1 : Int32) : SS :=
  (F_remR mo κ 0 q1)
set_option maxHeartbeats 4000000 in
set_option maxRecDepth 100000 in
theorem c_remF (l : Launch) (dC : Nat → ClassId) (dI : Nat → Nat → Nat) (cI cZ : ClassId) (mo : Nat) (kR kR0 kR1 : Nat) (sz : Nat) (κ : SS) (q1 : Int32) (hmo : mo ≤ 100) (hkc : ∃ kc : Nat, kc ≤ mo ∧ κ 2 0 = nI kc) : Met l y_remF [Cond.code y_remF prog_3_method_6_code 2 none] ({ frames := 1, cells := 0, slots := 0, locals := 23 }) (pcW (dC, dI) (w_Row cI cZ mo kR kR0 kR1 (κ 0) (κ 1) (κ 2 0)) (tyC cI cZ) sz [.ref kR, .int q1]) (qV (fun u => u = F_remF mo κ q1) (dC, dI) (fun u : SS => w_Row cI cZ mo kR kR0 kR1 (u 0) (u 1) (u 2 0)) (va_A (w_Row cI cZ mo kR kR0 kR1 (κ 0) (κ 1) (κ 2 0)) sz)) 0 0 (va_A (w_Row cI cZ mo kR kR0 kR1 (κ 0) (κ 1) (κ 2 0)) sz) := by
  refine Met.ofW (cc := prog_3_method_6_code) (maxL := 2) (ret := none) (by decide) rfl ?_
  intro p e s m args below meth c s₁ B hml hv
  obtain ⟨rfl, hsz, hT, hP, hK, hD0⟩ := hv
  have hx := B.exec
  have hb := B.bytes
  have hr := B.returns
  have hts : ∀ w ∈ lw_ok, w.before ([.ref kR, .int q1] : List Value).toArray s = true := hT.use
  have hown : s.vm.findClass R_Row = some m.cls := findClass_of_methodNamed B.named
  have hlocks := B.notSynchronized
  subst hsz
  have hD := hD0.self (sz := s.heap.size)
  generalize hAe : va_A (w_Row cI cZ mo kR kR0 kR1 (κ 0) (κ 1) (κ 2 0)) s.heap.size = A at hD ⊢
  have hA : ∀ q : Nat, s.heap.size ≤ q → A q := fun q h => by rw [← hAe]; exact Or.inr h
  have hS : va_S A s.heap s.heap [] := va_S.rf
  have hl := lv_entry ([.ref kR, .int q1]) (n := 2) (Nat.le_of_ble_eq_true rfl)
  rw [lg_entry_eq]
  generalize (lg_sl ([.ref kR, .int q1]) ++ List.replicate (2 - (lg_sl ([.ref kR, .int q1])).length) Slot.unset).toArray = ls at hl ⊢
  have hl : lv_has ls 2 [(0, .ref kR), (1, .int q1)] := hl
  refine lv_aload_n hx hb d_remF_0 rfl (lv_at hl 0 rfl) ?_
  refine lv_iconst (v := 0) hx hb d_remF_1 (by decide) ?_
  refine lv_iload_n hx hb d_remF_2 rfl (lv_at hl 1 rfl) ?_
  refine xc_VWv (As := [.int 0, .int q1]) (rest := []) (ci := 1) (wr := []) ⟨hx, hb, hml, hown, hts⟩ hT hK hP hD hS hA (c_remR l dC dI cI cZ mo kR kR0 kR1 s.heap.size κ 0 q1 (by first | assumption) (by first | assumption)) [0, 1, 2] [] rfl (by decide) rfl (by decide) (by decide) (xw_V 2 hts mw_273 mw_17 mw_270 mw_272 mw_3 rfl rfl (by decide +kernel) ⟨Nat.le_of_ble_eq_true rfl, Nat.le_of_ble_eq_true rfl⟩) rfl rfl rfl hl.1 rfl (Nat.le_of_ble_eq_true rfl) d_remF_3 ⟨Nat.zero_le _, Nat.zero_le _⟩ (fun u H locs hw hP hD hS => ?_)
  obtain rfl := hw
  have hP : va_P (dC, dI) vwCl (w_Row cI cZ mo kR kR0 kR1 ((F_remR mo κ 0 q1) 0) ((F_remR mo κ 0 q1) 1) ((F_remR mo κ 0 q1) 2 0)) H := hP.sub [0, 1, 2] rfl
  have hD : va_D A (w_Row cI cZ mo kR kR0 kR1 ((F_remR mo κ 0 q1) 0) ((F_remR mo κ 0 q1) 1) ((F_remR mo κ 0 q1) 2 0)) := hD.sub [0, 1, 2] (by decide) rfl
  have hF : F_remF mo κ q1 = (F_remR mo κ 0 q1) := rfl
  exact W.vret hx hb hr (fun t ht hW => ⟨⟨(F_remR mo κ 0 q1), rfl, hF.symm, by rw [ht]; exact hP, hD⟩, hS.F ht⟩) hS.2.2 d_remF_6
def rl (mo : Nat) (κ : SS) : Nat → SS
  | 0 => κ
  | j + 1 => if F_isLend mo κ (nI j) = 0 then rl mo κ j else F_remR mo κ (nI j) (nI j + 1)
theorem nI_s1 (j : Nat) : nI (j + 1) - 1 = nI j := nI_pred j
theorem nI_dn {j : Nat} (h : 0 < j) : nI j - 1 = nI (j - 1) := by
  obtain ⟨k, rfl⟩ : ∃ k, j = k + 1 := ⟨j - 1, by omega⟩
  exact nI_s1 k
theorem i_dec (x : Int32) : x + Int32.ofInt (-1) = x - 1 := by rw [show Int32.ofInt (-1) = -1 from rfl, Int32.sub_eq_add_neg]
theorem rl_f {mo : Nat} {κ : SS} {j : Nat} (h : 0 < j) (c : F_isLend mo κ (nI (j - 1)) = 0) : rl mo κ j = rl mo κ (j - 1) := by
  obtain ⟨k, rfl⟩ : ∃ k, j = k + 1 := ⟨j - 1, by omega⟩
  exact if_pos c
theorem rl_t {mo : Nat} {κ : SS} {j : Nat} (h : 0 < j) (c : ¬ F_isLend mo κ (nI (j - 1)) = 0) : rl mo κ j = F_remR mo κ (nI (j - 1)) (nI (j - 1) + 1) := by
  obtain ⟨k, rfl⟩ : ∃ k, j = k + 1 := ⟨j - 1, by omega⟩
  exact if_neg c
set_option maxHeartbeats 4000000 in
set_option maxRecDepth 100000 in
theorem lp_rLL {p : Program} {l : Launch} {e : Env} {s : State} {m : MethodId} {args : Array Value} {below : List Frame} {meth : Method} {c : Code} {Q : State → Prop} {H : Heap} {locs : List Loc} {dC : Nat → ClassId} {dI : Nat → Nat → Nat} {cI cZ : ClassId} {mo : Nat} {kR kR0 kR1 : Nat} {κ : SS} {kc : Nat} (hx : p.tables.exec = Jvm.exec) (hb : c.code = prog_3_method_5_code) (hml : c.maxLocals = 2) (hT : TBL s) (hts : ∀ w ∈ lw_ok, w.before args s = true) (hown : s.vm.findClass R_Row = some m.cls) (hK : va_K (dC, dI) vwCl (tyC cI cZ) s) (hP : va_P (dC, dI) vwCl (w_Row cI cZ mo kR kR0 kR1 (κ 0) (κ 1) (κ 2 0)) H) (hmo : mo ≤ 100) (hkm : kc ≤ mo) (k0 : ∀ (ls : Array Slot), rl mo κ kc = κ → lv_has ls 2 [(0, .ref kR), (1, .int (nI 0 - 1))] → W p l e ({ frames := 1, cells := 0, slots := 0, locals := 23 } : Room) s m args below meth c H locs 0 0 Q (F0 m 34 ls [])) (kf : ∀ (j : Nat) (ls : Array Slot), 0 < j → j ≤ kc → rl mo κ kc = F_remR mo κ (nI (j - 1)) (nI (j - 1) + 1) → lv_has ls 2 [(0, .ref kR), (1, .int (nI j - 1))] → W p l e ({ frames := 1, cells := 0, slots := 0, locals := 23 } : Room) s m args below meth c H locs 0 0 Q (F0 m 19 ls [])) : ∀ (n : Nat) (j : Nat) (ls : Array Slot), (j ≤ kc) → (rl mo κ kc = rl mo κ j) → j + 1 ≤ n → lv_has ls 2 [(0, .ref kR), (1, .int (nI j - 1))] → W p l e ({ frames := 1, cells := 0, slots := 0, locals := 23 } : Room) s m args below meth c H locs 0 0 Q (F0 m 7 ls []) := by
  intro n
  induction n with
  | zero => intro j ls hj hv hfu; exact absurd hfu (by omega)
  | succ n ih =>
    intro j ls hj hv hfu hl
    refine lv_iload_n hx hb d_rLL_7 rfl (lv_at hl 1 rfl) ?_
    refine lv_if_lt (tgt := 34) hx hb d_rLL_8 (by decide) (fun c_1 => ?_) (fun c_1 => ?_)
    · have hj0 : j = 0 := by
        rcases Nat.eq_zero_or_pos j with h | h
        · exact h
        · exact absurd (by have h1 := c_1; rw [nI_dn h] at h1; exact h1) (nI_pos (show j - 1 < 2 ^ 31 by omega))
      subst hj0
      exact k0 ls hv hl
    · have hjp : 0 < j := by
        rcases Nat.eq_zero_or_pos j with h | h
        · subst h; exact absurd (by decide) c_1
        · exact h
      refine lv_aload_n hx hb d_rLL_11 rfl (lv_at hl 0 rfl) ?_
      refine lv_iload_n hx hb d_rLL_12 rfl (lv_at hl 1 rfl) ?_
      refine xc_VR (As := [.int (nI j - 1)]) (rest := []) (ci := 1) ⟨hx, hb, hml, hown, hts⟩ hT hK hP (c_isLend l dC dI cI cZ mo kR kR0 kR1 κ (nI j - 1) (by rw [nI_dn hjp]; exact vp_in_nI (by omega) (by omega))) [0, 1, 2] rfl (xw_V 1 hts mw_269 mw_17 mw_266 mw_267 mw_268 rfl rfl (by decide +kernel) ⟨Nat.le_of_ble_eq_true rfl, Nat.le_of_ble_eq_true rfl⟩) rfl rfl rfl hl.1 rfl (Nat.le_of_ble_eq_true rfl) d_rLL_13 ⟨Nat.zero_le _, Nat.zero_le _⟩ (fun r hw => ?_)
      subst hw
      refine lv_if_eq (tgt := 28) hx hb d_rLL_16 (by decide) (fun c_2 => ?_) (fun c_2 => ?_)
      · refine lv_iinc (v := nI (j - 1) - 1) (lv' := [(1, .int (nI (j - 1) - 1)), (0, .ref kR)]) hx hb d_rLL_28 hl (k := 1) rfl (by rw [nI_dn hjp]; exact i_dec _) (by decide) rfl (fun ls hl => ?_)
        refine lv_goto (tgt := 7) hx hb d_rLL_31 (by decide) ?_
        refine ih (j - 1) ls (by omega) ?_ (by omega) (lv_sub hl [1, 0] rfl)
        exact hv.trans (rl_f hjp (by rw [← nI_dn hjp]; exact c_2))
      · exact kf j ls (by omega) (by omega) (hv.trans (rl_t hjp (by rw [← nI_dn hjp]; exact c_2))) hl
def F_rLL (mo : Nat) (κ : SS) : SS :=
  rl mo κ (κ 2 0).toNatClampNeg
set_option maxHeartbeats 4000000 in
set_option maxRecDepth 100000 in
theorem c_rLL (l : Launch) (dC : Nat → ClassId) (dI : Nat → Nat → Nat) (cI cZ : ClassId) (mo : Nat) (kR kR0 kR1 : Nat) (sz : Nat) (κ : SS) (hmo : mo ≤ 100) (hkc : ∃ kc : Nat, kc ≤ mo ∧ κ 2 0 = nI kc) : Met l y_rLL [Cond.code y_rLL prog_3_method_5_code 2 none] ({ frames := 1, cells := 0, slots := 0, locals := 23 }) (pcW (dC, dI) (w_Row cI cZ mo kR kR0 kR1 (κ 0) (κ 1) (κ 2 0)) (tyC cI cZ) sz [.ref kR]) (qV (fun u => u = F_rLL mo κ) (dC, dI) (fun u : SS => w_Row cI cZ mo kR kR0 kR1 (u 0) (u 1) (u 2 0)) (va_A (w_Row cI cZ mo kR kR0 kR1 (κ 0) (κ 1) (κ 2 0)) sz)) 0 0 (va_A (w_Row cI cZ mo kR kR0 kR1 (κ 0) (κ 1) (κ 2 0)) sz) := by
  refine Met.ofW (cc := prog_3_method_5_code) (maxL := 2) (ret := none) (by decide) rfl ?_
  intro p e s m args below meth c s₁ B hml hv
  obtain ⟨rfl, hsz, hT, hP, hK, hD0⟩ := hv
  have hx := B.exec
  have hb := B.bytes
  have hr := B.returns
  have hts : ∀ w ∈ lw_ok, w.before ([.ref kR] : List Value).toArray s = true := hT.use
  have hown : s.vm.findClass R_Row = some m.cls := findClass_of_methodNamed B.named
  have hlocks := B.notSynchronized
  subst hsz
  have hD := hD0.self (sz := s.heap.size)
  generalize hAe : va_A (w_Row cI cZ mo kR kR0 kR1 (κ 0) (κ 1) (κ 2 0)) s.heap.size = A at hD ⊢
  have hA : ∀ q : Nat, s.heap.size ≤ q → A q := fun q h => by rw [← hAe]; exact Or.inr h
  have hS : va_S A s.heap s.heap [] := va_S.rf
  have hl := lv_entry ([.ref kR]) (n := 2) (Nat.le_of_ble_eq_true rfl)
  rw [lg_entry_eq]
  generalize (lg_sl ([.ref kR]) ++ List.replicate (2 - (lg_sl ([.ref kR])).length) Slot.unset).toArray = ls at hl ⊢
  have hl : lv_has ls 2 [(0, .ref kR)] := hl
  refine lv_aload_n hx hb d_rLL_0 rfl (lv_at hl 0 rfl) ?_
  refine va_get (D := (dC, dI)) (ci := 1) (v := .int (κ 2 0)) (C := R_Row) (T := T_Row) (N := 3) hx hb hts in_Row hown hK hP 0 rfl rfl 2 (by decide) (hts _ mw_93) (fun _ h9 => h9) rfl d_rLL_1 ?_
  refine lv_iconst (v := 1) hx hb d_rLL_4 (by decide) ?_
  refine lv_isub hx hb d_rLL_5 ?_
  refine lv_istore_n (lv' := [(1, .int ((κ 2 0) - 1)), (0, .ref kR)]) hx hb d_rLL_6 rfl hl (by decide) rfl (fun ls hl => ?_)
  obtain ⟨kc, hkm, ek⟩ := id hkc
  refine lp_rLL (kc := kc) hx hb hml hT hts hown hK hP hmo hkm (fun ls hv hl => ?_) (fun j ls hj0 hjk hv hl => ?_) (kc + 1) kc ls (by omega) rfl (by omega) (by rw [← ek]; exact lv_sub hl [1, 0] rfl)
  · have hF : F_rLL mo κ = κ := by show rl mo κ (κ 2 0).toNatClampNeg = _; rw [ek, nI_clamp (by omega), hv]
    exact W.vret hx hb hr (fun t ht hW => ⟨⟨κ, rfl, hF.symm, by rw [ht]; exact hP, hD⟩, hS.F ht⟩) hS.2.2 d_rLL_34
  · refine lv_aload_n hx hb d_rLL_19 rfl (lv_at hl 0 rfl) ?_
    refine lv_iload_n hx hb d_rLL_20 rfl (lv_at hl 1 rfl) ?_
    refine lv_iload_n hx hb d_rLL_21 rfl (lv_at hl 1 rfl) ?_
    refine lv_iconst (v := 1) hx hb d_rLL_22 (by decide) ?_
    refine lv_iadd hx hb d_rLL_23 ?_
    refine xc_VWv (As := [.int (nI j - 1), .int ((nI j - 1) + 1)]) (rest := []) (ci := 1) (wr := []) ⟨hx, hb, hml, hown, hts⟩ hT hK hP hD hS hA (c_remR l dC dI cI cZ mo kR kR0 kR1 s.heap.size κ (nI j - 1) ((nI j - 1) + 1) (by first | assumption | exact ⟨_, hkm, ek⟩) (by first | assumption | exact ⟨_, hkm, ek⟩)) [0, 1, 2] [] rfl (by decide) rfl (by decide) (by decide) (xw_V 2 hts mw_273 mw_17 mw_270 mw_272 mw_3 rfl rfl (by decide +kernel) ⟨Nat.le_of_ble_eq_true rfl, Nat.le_of_ble_eq_true rfl⟩) rfl rfl rfl hl.1 rfl (Nat.le_of_ble_eq_true rfl) d_rLL_24 ⟨Nat.zero_le _, Nat.zero_le _⟩ (fun u H locs hw hP hD hS => ?_)
    obtain rfl := hw
    have hP : va_P (dC, dI) vwCl (w_Row cI cZ mo kR kR0 kR1 ((F_remR mo κ (nI j - 1) ((nI j - 1) + 1)) 0) ((F_remR mo κ (nI j - 1) ((nI j - 1) + 1)) 1) ((F_remR mo κ (nI j - 1) ((nI j - 1) + 1)) 2 0)) H := hP.sub [0, 1, 2] rfl
    have hD : va_D A (w_Row cI cZ mo kR kR0 kR1 ((F_remR mo κ (nI j - 1) ((nI j - 1) + 1)) 0) ((F_remR mo κ (nI j - 1) ((nI j - 1) + 1)) 1) ((F_remR mo κ (nI j - 1) ((nI j - 1) + 1)) 2 0)) := hD.sub [0, 1, 2] (by decide) rfl
    have hF : F_rLL mo κ = (F_remR mo κ (nI j - 1) ((nI j - 1) + 1)) := by show rl mo κ (κ 2 0).toNatClampNeg = _; rw [ek, nI_clamp (by omega), hv]; rw [nI_dn hj0]
    exact W.vret hx hb hr (fun t ht hW => ⟨⟨(F_remR mo κ (nI j - 1) ((nI j - 1) + 1)), rfl, hF.symm, by rw [ht]; exact hP, hD⟩, hS.F ht⟩) hS.2.2 d_rLL_27
def CInv (mo : Nat) (ω η κ χ ν : SS) : Prop :=
  mo ≤ 100 ∧ (ω 0 0 = 0 ∨ ω 0 0 = 1) ∧
  (∀ i, i < 60 → η 5 i = -1 ∨ vp_in (η 5 i) 40) ∧ (∀ i, i < 60 → η 7 i = -1 ∨ vp_in (η 7 i) 10) ∧ (∀ i, i < 10 → η 8 i = -1 ∨ vp_in (η 8 i) 60) ∧
  (∃ kc : Nat, kc ≤ mo ∧ κ 2 0 = nI kc ∧ ∀ i, i < kc → vp_in (κ 0 i) 60 ∧ (κ 1 i = -1 ∨ vp_in (κ 1 i) 40)) ∧
  (∃ xc : Nat, xc ≤ mo ∧ χ 2 0 = nI xc) ∧ vp_in (ν 3 0) 40 ∧ (ν 4 0 = -1 ∨ vp_in (ν 4 0) 60) ∧
  (∃ lc : Nat, lc ≤ 256 ∧ ν 1 0 = nI lc ∧ ∀ i, i < lc → vp_in (ν 0 i) 60)
theorem clt {x : Int32} {n : Nat} (h : vp_in x n) : x.toNatClampNeg < n := Nat.not_le.mp fun q => h (Or.inr q)
theorem kb {mo : Nat} {κ : SS} (h : ∃ kc : Nat, kc ≤ mo ∧ κ 2 0 = nI kc ∧ ∀ i, i < kc → vp_in (κ 0 i) 60 ∧ (κ 1 i = -1 ∨ vp_in (κ 1 i) 40)) : ∃ kc : Nat, kc ≤ mo ∧ κ 2 0 = nI kc := by
  obtain ⟨kc, h1, h2, -⟩ := h
  exact ⟨kc, h1, h2⟩
theorem lc0 {ν : SS} (h : ∃ lc : Nat, lc ≤ 256 ∧ ν 1 0 = nI lc ∧ ∀ i, i < lc → vp_in (ν 0 i) 60) : ¬ ν 1 0 < 0 := by
  obtain ⟨lc, h1, h2, -⟩ := h
  rw [h2]
  exact nI_pos (by omega)
theorem hasI_ne {ν : SS} (h : ¬ F_hasI ν = 0) : ¬ ν 4 0 = -1 := by
  intro q
  unfold F_hasI at h
  exact h (if_pos q)
theorem lcm {ν : SS} (h : ∃ lc : Nat, lc ≤ 256 ∧ ν 1 0 = nI lc ∧ ∀ i, i < lc → vp_in (ν 0 i) 60) (h0 : ¬ ν 1 0 ≤ 0) : vp_in (ν 1 0 - 1) 256 ∧ vp_in (F_remLL ν).1 60 := by
  obtain ⟨lc, h1, h2, h3⟩ := h
  have hp : 0 < lc := by
    rcases Nat.eq_zero_or_pos lc with q | q
    · subst q; exact absurd (by rw [h2]; decide) h0
    · exact q
  have e : ν 1 0 - 1 = nI (lc - 1) := by rw [h2, nI_dn hp]
  refine ⟨by rw [e]; exact vp_in_nI (by omega) (by decide), ?_⟩
  show vp_in (ν 0 (ν 1 0 - 1).toNatClampNeg) 60
  rw [e, nI_clamp (by omega)]
  exact h3 _ (by omega)
theorem in_row {mo : Nat} {κ : SS} {x : Int32} (hmo : mo ≤ 100) (h : ∃ kc : Nat, kc ≤ mo ∧ κ 2 0 = nI kc) (h0 : ¬ x < 0) (h1 : x < κ 2 0) : vp_in x mo := by
  obtain ⟨kc, h2, h3⟩ := h
  obtain ⟨j, hj, rfl⟩ := nI_of h0
  rw [h3] at h1
  have := (nI_ltI hj (by omega)).mp h1
  exact vp_in_nI (by omega) (by omega)
theorem in_lent {ν : SS} {x : Int32} (h : ∃ lc : Nat, lc ≤ 256 ∧ ν 1 0 = nI lc ∧ ∀ i, i < lc → vp_in (ν 0 i) 60) (h0 : ¬ x < 0) (h1 : ¬ ν 1 0 ≤ x) : vp_in x 256 := by
  obtain ⟨lc, h2, h3, -⟩ := h
  obtain ⟨j, hj, rfl⟩ := nI_of h0
  rw [h3] at h1
  rcases Nat.lt_or_ge j lc with q | q
  · exact vp_in_nI (by omega) (by decide)
  · exact absurd (nI_le q hj) h1
theorem fst_in {f : Nat → Int32} {N : Nat} (hN : N < 2 ^ 31) : ∀ (n i : Nat), i + n ≤ N → ¬ fst_from f n i = -1 → vp_in (fst_from f n i) N := by
  intro n
  induction n with
  | zero => intro i _ h; exact absurd rfl h
  | succ n ih =>
    intro i hi h
    unfold fst_from at h ⊢
    by_cases q : f i = -1
    · rw [if_pos q]; exact vp_in_nI (by omega) hN
    · rw [if_neg q] at h ⊢; exact ih (i + 1) (by omega) h
theorem fel_in {η : SS} (h : ¬ F_fel η = -1) : vp_in (F_fel η) 10 := fst_in (by decide) 10 0 (by omega) h
def F_isRef (mo : Nat) (ω η κ χ ν : SS) (q1 : Int32) : Int32 :=
  if (ω 0 0) = 0 then
    F_isBl η q1
  else
    F_isBBC η q1
set_option maxHeartbeats 4000000 in
set_option maxRecDepth 100000 in
theorem c_isRef (l : Launch) (dC : Nat → ClassId) (dI : Nat → Nat → Nat) (cI cZ : ClassId) (mo : Nat) (oM hH hH0 hH1 hH2 hH3 hH4 hH5 hH6 hH7 hH8 kR kR0 kR1 xR xR0 xR1 sS sS0 : Nat) (ω η κ χ ν : SS) (q1 : Int32) (hp : vp_in q1 40) : Met l y_isRef [Cond.code y_isRef prog_1_method_24_code 2 (some .boolean)] ({ frames := 2, cells := 0, slots := 0, locals := 42 }) (pcR (dC, dI) (w_Main cI cZ mo oM hH hH0 hH1 hH2 hH3 hH4 hH5 hH6 hH7 hH8 kR kR0 kR1 xR xR0 xR1 sS sS0 (ω 0 0) (η 0) (η 1) (η 2) (η 3) (η 4) (η 5) (η 6) (η 7) (η 8) (κ 0) (κ 1) (κ 2 0) (χ 0) (χ 1) (χ 2 0) (ν 0) (ν 1 0) (ν 2 0) (ν 3 0) (ν 4 0) (ν 5 0)) (tyC cI cZ) [.ref oM, .int q1]) (vp_Si (fun r => r = F_isRef mo ω η κ χ ν q1)) 0 0 (fun _ => False) := by
  refine Met.ofW (cc := prog_1_method_24_code) (maxL := 2) (ret := (some .boolean)) (by decide) rfl ?_
  intro p e s m args below meth c s₁ B hml hv
  obtain ⟨rfl, hT, hP, hK⟩ := hv
  have hx := B.exec
  have hb := B.bytes
  have hr := B.returns
  have hts : ∀ w ∈ lw_ok, w.before ([.ref oM, .int q1] : List Value).toArray s = true := hT.use
  have hown : s.vm.findClass R_Main = some m.cls := findClass_of_methodNamed B.named
  have hlocks := B.notSynchronized
  have hl := lv_entry ([.ref oM, .int q1]) (n := 2) (Nat.le_of_ble_eq_true rfl)
  rw [lg_entry_eq]
  generalize (lg_sl ([.ref oM, .int q1]) ++ List.replicate (2 - (lg_sl ([.ref oM, .int q1])).length) Slot.unset).toArray = ls at hl ⊢
  have hl : lv_has ls 2 [(0, .ref oM), (1, .int q1)] := hl
  refine lv_aload_n hx hb d_isRef_0 rfl (lv_at hl 0 rfl) ?_
  refine va_get (D := (dC, dI)) (ci := 3) (v := .int (ω 0 0)) (C := R_Main) (T := T_Main) (N := 5) hx hb hts in_Main hown hK hP 0 rfl rfl 4 (by decide) (hts _ mw_137) (fun _ h9 => h9) rfl d_isRef_1 ?_
  refine lv_if_eq (tgt := 18) hx hb d_isRef_4 (by decide) (fun c_1 => ?_) (fun c_1 => ?_)
  · refine lv_aload_n hx hb d_isRef_18 rfl (lv_at hl 0 rfl) ?_
    refine va_get (D := (dC, dI)) (ci := 3) (v := .ref hH) (C := R_Main) (T := T_Main) (N := 5) hx hb hts in_Main hown hK hP 0 rfl rfl 0 (by decide) (hts _ mw_133) (fun _ h9 => h9) rfl d_isRef_19 ?_
    refine lv_iload_n hx hb d_isRef_22 rfl (lv_at hl 1 rfl) ?_
    refine xc_VR (As := [.int q1]) (rest := []) (ci := 0) ⟨hx, hb, hml, hown, hts⟩ hT hK hP (c_isBl l dC dI cI cZ hH hH0 hH1 hH2 hH3 hH4 hH5 hH6 hH7 hH8 η q1 (by first | assumption)) [1, 2, 3, 4, 5, 6, 7, 8, 9, 10] rfl (xw_V 1 hts mw_163 mw_15 mw_160 mw_161 mw_162 rfl rfl (by decide +kernel) ⟨Nat.le_of_ble_eq_true rfl, Nat.le_of_ble_eq_true rfl⟩) rfl rfl rfl hl.1 rfl (Nat.le_of_ble_eq_true rfl) d_isRef_23 ⟨Nat.zero_le _, Nat.zero_le _⟩ (fun r hw => ?_)
    subst hw
    have hF : F_isRef mo ω η κ χ ν q1 = F_isBl η q1 := (if_pos c_1).trans rfl
    exact W.zret (ty := .boolean) (v := F_isBl η q1) hx hb hr (by first | exact nz_b ‹_› | exact nz_b b01_BBC | exact nz_b b01_Bl) (fun t ht hW => ⟨F_isBl η q1, rfl, hF.symm, ht⟩) (fun _ h => absurd h List.not_mem_nil) d_isRef_26
  · refine lv_aload_n hx hb d_isRef_7 rfl (lv_at hl 0 rfl) ?_
    refine va_get (D := (dC, dI)) (ci := 3) (v := .ref hH) (C := R_Main) (T := T_Main) (N := 5) hx hb hts in_Main hown hK hP 0 rfl rfl 0 (by decide) (hts _ mw_133) (fun _ h9 => h9) rfl d_isRef_8 ?_
    refine lv_iload_n hx hb d_isRef_11 rfl (lv_at hl 1 rfl) ?_
    refine xc_VR (As := [.int q1]) (rest := []) (ci := 0) ⟨hx, hb, hml, hown, hts⟩ hT hK hP (c_isBBC l dC dI cI cZ hH hH0 hH1 hH2 hH3 hH4 hH5 hH6 hH7 hH8 η q1 (by first | assumption)) [1, 2, 3, 4, 5, 6, 7, 8, 9, 10] rfl (xw_V 1 hts mw_167 mw_15 mw_183 mw_165 mw_166 rfl rfl (by decide +kernel) ⟨Nat.le_of_ble_eq_true rfl, Nat.le_of_ble_eq_true rfl⟩) rfl rfl rfl hl.1 rfl (Nat.le_of_ble_eq_true rfl) d_isRef_12 ⟨Nat.zero_le _, Nat.zero_le _⟩ (fun r hw => ?_)
    subst hw
    refine lv_goto (tgt := 26) hx hb d_isRef_15 (by decide) ?_
    have hF : F_isRef mo ω η κ χ ν q1 = F_isBBC η q1 := (if_neg c_1).trans rfl
    exact W.zret (ty := .boolean) (v := F_isBBC η q1) hx hb hr (by first | exact nz_b ‹_› | exact nz_b b01_BBC | exact nz_b b01_Bl) (fun t ht hW => ⟨F_isBBC η q1, rfl, hF.symm, ht⟩) (fun _ h => absurd h List.not_mem_nil) d_isRef_26
def F_refO (mo : Nat) (ω η κ χ ν : SS) : Int32 :=
  if (ν 1 0) < 5 then
    if (F_isFull mo κ) = 0 then
      0
    else
      -7
  else
    -6
set_option maxHeartbeats 4000000 in
set_option maxRecDepth 100000 in
theorem c_refO (l : Launch) (dC : Nat → ClassId) (dI : Nat → Nat → Nat) (cI cZ : ClassId) (mo : Nat) (oM hH hH0 hH1 hH2 hH3 hH4 hH5 hH6 hH7 hH8 kR kR0 kR1 xR xR0 xR1 sS sS0 : Nat) (ω η κ χ ν : SS) : Met l y_refO [Cond.code y_refO prog_1_method_25_code 1 (some .int)] ({ frames := 1, cells := 0, slots := 0, locals := 20 }) (pcR (dC, dI) (w_Main cI cZ mo oM hH hH0 hH1 hH2 hH3 hH4 hH5 hH6 hH7 hH8 kR kR0 kR1 xR xR0 xR1 sS sS0 (ω 0 0) (η 0) (η 1) (η 2) (η 3) (η 4) (η 5) (η 6) (η 7) (η 8) (κ 0) (κ 1) (κ 2 0) (χ 0) (χ 1) (χ 2 0) (ν 0) (ν 1 0) (ν 2 0) (ν 3 0) (ν 4 0) (ν 5 0)) (tyC cI cZ) [.ref oM]) (vp_Si (fun r => r = F_refO mo ω η κ χ ν)) 0 0 (fun _ => False) := by
  refine Met.ofW (cc := prog_1_method_25_code) (maxL := 1) (ret := (some .int)) (by decide) rfl ?_
  intro p e s m args below meth c s₁ B hml hv
  obtain ⟨rfl, hT, hP, hK⟩ := hv
  have hx := B.exec
  have hb := B.bytes
  have hr := B.returns
  have hts : ∀ w ∈ lw_ok, w.before ([.ref oM] : List Value).toArray s = true := hT.use
  have hown : s.vm.findClass R_Main = some m.cls := findClass_of_methodNamed B.named
  have hlocks := B.notSynchronized
  have hl := lv_entry ([.ref oM]) (n := 1) (Nat.le_of_ble_eq_true rfl)
  rw [lg_entry_eq]
  generalize (lg_sl ([.ref oM]) ++ List.replicate (1 - (lg_sl ([.ref oM])).length) Slot.unset).toArray = ls at hl ⊢
  have hl : lv_has ls 1 [(0, .ref oM)] := hl
  refine lv_aload_n hx hb d_refO_0 rfl (lv_at hl 0 rfl) ?_
  refine va_get (D := (dC, dI)) (ci := 3) (v := .ref sS) (C := R_Main) (T := T_Main) (N := 5) hx hb hts in_Main hown hK hP 0 rfl rfl 3 (by decide) (hts _ mw_136) (fun _ h9 => h9) rfl d_refO_1 ?_
  refine va_getN (D := (dC, dI)) (ci := 2) (v := .int (ν 1 0)) (C := R_Ses) (T := T_Ses) (N := 6) hx hb hts in_Ses hown hK hP 17 rfl rfl 1 (by decide) (hts _ mw_111) (fun _ h9 => h9) rfl d_refO_4 ?_
  refine lv_iconst (v := 5) hx hb d_refO_7 (by decide) ?_
  refine lv_icmp_lt (tgt := 14) hx hb d_refO_8 (by decide) (fun c_1 => ?_) (fun c_1 => ?_)
  · refine lv_aload_n hx hb d_refO_14 rfl (lv_at hl 0 rfl) ?_
    refine va_get (D := (dC, dI)) (ci := 3) (v := .ref kR) (C := R_Main) (T := T_Main) (N := 5) hx hb hts in_Main hown hK hP 0 rfl rfl 1 (by decide) (hts _ mw_134) (fun _ h9 => h9) rfl d_refO_15 ?_
    refine xc_VR (As := []) (rest := []) (ci := 1) ⟨hx, hb, hml, hown, hts⟩ hT hK hP (c_isFull l dC dI cI cZ mo kR kR0 kR1 κ) [11, 12, 13] rfl (xw_V 0 hts mw_219 mw_17 mw_216 mw_217 mw_218 rfl rfl (by decide +kernel) ⟨Nat.le_of_ble_eq_true rfl, Nat.le_of_ble_eq_true rfl⟩) rfl rfl rfl hl.1 rfl (Nat.le_of_ble_eq_true rfl) d_refO_18 ⟨Nat.zero_le _, Nat.zero_le _⟩ (fun r hw => ?_)
    subst hw
    refine lv_if_eq (tgt := 29) hx hb d_refO_21 (by decide) (fun c_2 => ?_) (fun c_2 => ?_)
    · refine lv_iconst (v := 0) hx hb d_refO_29 (by decide) ?_
      have hF : F_refO mo ω η κ χ ν = 0 := (if_pos c_1).trans ((if_pos c_2).trans rfl)
      exact W.iret (v := 0) hx hb hr (fun t ht hW => ⟨0, rfl, hF.symm, ht⟩) (fun _ h => absurd h List.not_mem_nil) d_refO_30
    · refine lv_bipush (v := -7) hx hb d_refO_24 (by decide) ?_
      refine lv_goto (tgt := 30) hx hb d_refO_26 (by decide) ?_
      have hF : F_refO mo ω η κ χ ν = -7 := (if_pos c_1).trans ((if_neg c_2).trans rfl)
      exact W.iret (v := -7) hx hb hr (fun t ht hW => ⟨-7, rfl, hF.symm, ht⟩) (fun _ h => absurd h List.not_mem_nil) d_refO_30
  · refine lv_bipush (v := -6) hx hb d_refO_11 (by decide) ?_
    have hF : F_refO mo ω η κ χ ν = -6 := (if_neg c_1).trans rfl
    exact W.iret (v := -6) hx hb hr (fun t ht hW => ⟨-6, rfl, hF.symm, ht⟩) (fun _ h => absurd h List.not_mem_nil) d_refO_13
def F_person (mo : Nat) (ω η κ χ ν : SS) (q1 : Int32) (q2 : Int32) (q3 : Int32) : Int32 × SS × SS × SS × SS × SS :=
  if (F_isPerson q1) = 0 then
    (0, ω, η, κ, χ, ν)
  else
    if q3 < 0 then
      (0, ω, η, κ, χ, ν)
    else
      if q3 < 3 then
        (1, ω, (ss (ss η 0 (upd (η 0) q1.toNatClampNeg q2)) 1 (upd (η 1) q1.toNatClampNeg q3)), κ, χ, ν)
      else
        (0, ω, η, κ, χ, ν)
set_option maxHeartbeats 4000000 in
set_option maxRecDepth 100000 in
theorem c_person (l : Launch) (dC : Nat → ClassId) (dI : Nat → Nat → Nat) (cI cZ : ClassId) (mo : Nat) (oM hH hH0 hH1 hH2 hH3 hH4 hH5 hH6 hH7 hH8 kR kR0 kR1 xR xR0 xR1 sS sS0 : Nat) (sz : Nat) (ω η κ χ ν : SS) (q1 : Int32) (q2 : Int32) (q3 : Int32) : Met l y_person [Cond.code y_person prog_1_method_2_code 4 (some .int)] ({ frames := 1, cells := 0, slots := 0, locals := 20 }) (pcW (dC, dI) (w_Main cI cZ mo oM hH hH0 hH1 hH2 hH3 hH4 hH5 hH6 hH7 hH8 kR kR0 kR1 xR xR0 xR1 sS sS0 (ω 0 0) (η 0) (η 1) (η 2) (η 3) (η 4) (η 5) (η 6) (η 7) (η 8) (κ 0) (κ 1) (κ 2 0) (χ 0) (χ 1) (χ 2 0) (ν 0) (ν 1 0) (ν 2 0) (ν 3 0) (ν 4 0) (ν 5 0)) (tyC cI cZ) sz [.ref oM, .int q1, .int q2, .int q3]) (qI (fun r u => r = (F_person mo ω η κ χ ν q1 q2 q3).1 ∧ u = (F_person mo ω η κ χ ν q1 q2 q3).2) (dC, dI) (fun u : SS × SS × SS × SS × SS => w_Main cI cZ mo oM hH hH0 hH1 hH2 hH3 hH4 hH5 hH6 hH7 hH8 kR kR0 kR1 xR xR0 xR1 sS sS0 (u.1 0 0) (u.2.1 0) (u.2.1 1) (u.2.1 2) (u.2.1 3) (u.2.1 4) (u.2.1 5) (u.2.1 6) (u.2.1 7) (u.2.1 8) (u.2.2.1 0) (u.2.2.1 1) (u.2.2.1 2 0) (u.2.2.2.1 0) (u.2.2.2.1 1) (u.2.2.2.1 2 0) (u.2.2.2.2 0) (u.2.2.2.2 1 0) (u.2.2.2.2 2 0) (u.2.2.2.2 3 0) (u.2.2.2.2 4 0) (u.2.2.2.2 5 0)) (va_A (w_Main cI cZ mo oM hH hH0 hH1 hH2 hH3 hH4 hH5 hH6 hH7 hH8 kR kR0 kR1 xR xR0 xR1 sS sS0 (ω 0 0) (η 0) (η 1) (η 2) (η 3) (η 4) (η 5) (η 6) (η 7) (η 8) (κ 0) (κ 1) (κ 2 0) (χ 0) (χ 1) (χ 2 0) (ν 0) (ν 1 0) (ν 2 0) (ν 3 0) (ν 4 0) (ν 5 0)) sz)) 0 0 (va_A (w_Main cI cZ mo oM hH hH0 hH1 hH2 hH3 hH4 hH5 hH6 hH7 hH8 kR kR0 kR1 xR xR0 xR1 sS sS0 (ω 0 0) (η 0) (η 1) (η 2) (η 3) (η 4) (η 5) (η 6) (η 7) (η 8) (κ 0) (κ 1) (κ 2 0) (χ 0) (χ 1) (χ 2 0) (ν 0) (ν 1 0) (ν 2 0) (ν 3 0) (ν 4 0) (ν 5 0)) sz) := by
  refine Met.ofW (cc := prog_1_method_2_code) (maxL := 4) (ret := (some .int)) (by decide) rfl ?_
  intro p e s m args below meth c s₁ B hml hv
  obtain ⟨rfl, hsz, hT, hP, hK, hD0⟩ := hv
  have hx := B.exec
  have hb := B.bytes
  have hr := B.returns
  have hts : ∀ w ∈ lw_ok, w.before ([.ref oM, .int q1, .int q2, .int q3] : List Value).toArray s = true := hT.use
  have hown : s.vm.findClass R_Main = some m.cls := findClass_of_methodNamed B.named
  have hlocks := B.notSynchronized
  subst hsz
  have hD := hD0.self (sz := s.heap.size)
  generalize hAe : va_A (w_Main cI cZ mo oM hH hH0 hH1 hH2 hH3 hH4 hH5 hH6 hH7 hH8 kR kR0 kR1 xR xR0 xR1 sS sS0 (ω 0 0) (η 0) (η 1) (η 2) (η 3) (η 4) (η 5) (η 6) (η 7) (η 8) (κ 0) (κ 1) (κ 2 0) (χ 0) (χ 1) (χ 2 0) (ν 0) (ν 1 0) (ν 2 0) (ν 3 0) (ν 4 0) (ν 5 0)) s.heap.size = A at hD ⊢
  have hA : ∀ q : Nat, s.heap.size ≤ q → A q := fun q h => by rw [← hAe]; exact Or.inr h
  have hS : va_S A s.heap s.heap [] := va_S.rf
  have hl := lv_entry ([.ref oM, .int q1, .int q2, .int q3]) (n := 4) (Nat.le_of_ble_eq_true rfl)
  rw [lg_entry_eq]
  generalize (lg_sl ([.ref oM, .int q1, .int q2, .int q3]) ++ List.replicate (4 - (lg_sl ([.ref oM, .int q1, .int q2, .int q3])).length) Slot.unset).toArray = ls at hl ⊢
  have hl : lv_has ls 4 [(0, .ref oM), (1, .int q1), (2, .int q2), (3, .int q3)] := hl
  refine lv_iload_n hx hb d_person_0 rfl (lv_at hl 1 rfl) ?_
  refine xc_S0 (As := [.int q1]) (rest := []) ⟨hx, hb, hml, hown, hts⟩ hT (c_isPerson l q1) ⟨xw_B 1 hts mw_155 mw_13 mw_153 rfl rfl (by decide +kernel) ⟨Nat.le_of_ble_eq_true rfl, Nat.le_of_ble_eq_true rfl⟩, hts _ mw_154⟩ rfl hl.1 rfl (Nat.le_of_ble_eq_true rfl) d_person_1 ⟨Nat.zero_le _, Nat.zero_le _⟩ (fun r hw => ?_)
  subst hw
  refine lv_if_eq (tgt := 16) hx hb d_person_4 (by decide) (fun c_1 => ?_) (fun c_1 => ?_)
  · refine lv_iconst (v := 0) hx hb d_person_16 (by decide) ?_
    have hF : F_person mo ω η κ χ ν q1 q2 q3 = (0, ω, η, κ, χ, ν) := (if_pos c_1).trans rfl
    exact W.iret (v := 0) hx hb hr (fun t ht hW => ⟨⟨0, (ω, η, κ, χ, ν), rfl, ⟨(congrArg Prod.fst hF).symm, (congrArg Prod.snd hF).symm⟩, by rw [ht]; exact hP, hD⟩, hS.F ht⟩) hS.2.2 d_person_17
  · refine lv_iload_n hx hb d_person_7 rfl (lv_at hl 3 rfl) ?_
    refine lv_if_lt (tgt := 16) hx hb d_person_8 (by decide) (fun c_2 => ?_) (fun c_2 => ?_)
    · refine lv_iconst (v := 0) hx hb d_person_16 (by decide) ?_
      have hF : F_person mo ω η κ χ ν q1 q2 q3 = (0, ω, η, κ, χ, ν) := (if_neg c_1).trans ((if_pos c_2).trans rfl)
      exact W.iret (v := 0) hx hb hr (fun t ht hW => ⟨⟨0, (ω, η, κ, χ, ν), rfl, ⟨(congrArg Prod.fst hF).symm, (congrArg Prod.snd hF).symm⟩, by rw [ht]; exact hP, hD⟩, hS.F ht⟩) hS.2.2 d_person_17
    · refine lv_iload_n hx hb d_person_11 rfl (lv_at hl 3 rfl) ?_
      refine lv_iconst (v := 3) hx hb d_person_12 (by decide) ?_
      refine lv_icmp_lt (tgt := 18) hx hb d_person_13 (by decide) (fun c_3 => ?_) (fun c_3 => ?_)
      · refine lv_aload_n hx hb d_person_18 rfl (lv_at hl 0 rfl) ?_
        refine va_get (D := (dC, dI)) (ci := 3) (v := .ref hH) (C := R_Main) (T := T_Main) (N := 5) hx hb hts in_Main hown hK hP 0 rfl rfl 0 (by decide) (hts _ mw_133) (fun _ h9 => h9) rfl d_person_19 ?_
        refine va_getN (D := (dC, dI)) (ci := 0) (v := .ref hH0) (C := R_House) (T := T_House) (N := 9) hx hb hts in_House hown hK hP 1 rfl rfl 0 (by decide) (hts _ mw_44) (fun _ h9 => h9) rfl d_person_22 ?_
        refine lv_iload_n hx hb d_person_25 rfl (lv_at hl 1 rfl) ?_
        refine lv_iload_n hx hb d_person_26 rfl (lv_at hl 2 rfl) ?_
        refine va_iast (n := 40) (f := η 0) hx hb hK hP hD hS 2 0 rfl rfl (i := q1) (x := q2) (by first | assumption | exact in_isPerson ‹_› | exact in_isItem ‹_›) d_person_27 (fun H locs hP hD hS => ?_)
        have hP : va_P (dC, dI) vwCl (w_Main cI cZ mo oM hH hH0 hH1 hH2 hH3 hH4 hH5 hH6 hH7 hH8 kR kR0 kR1 xR xR0 xR1 sS sS0 (ω 0 0) (upd (η 0) q1.toNatClampNeg q2) (η 1) (η 2) (η 3) (η 4) (η 5) (η 6) (η 7) (η 8) (κ 0) (κ 1) (κ 2 0) (χ 0) (χ 1) (χ 2 0) (ν 0) (ν 1 0) (ν 2 0) (ν 3 0) (ν 4 0) (ν 5 0)) H := hP
        have hD : va_D A (w_Main cI cZ mo oM hH hH0 hH1 hH2 hH3 hH4 hH5 hH6 hH7 hH8 kR kR0 kR1 xR xR0 xR1 sS sS0 (ω 0 0) (upd (η 0) q1.toNatClampNeg q2) (η 1) (η 2) (η 3) (η 4) (η 5) (η 6) (η 7) (η 8) (κ 0) (κ 1) (κ 2 0) (χ 0) (χ 1) (χ 2 0) (ν 0) (ν 1 0) (ν 2 0) (ν 3 0) (ν 4 0) (ν 5 0)) := hD
        refine lv_aload_n hx hb d_person_28 rfl (lv_at hl 0 rfl) ?_
        refine va_get (D := (dC, dI)) (ci := 3) (v := .ref hH) (C := R_Main) (T := T_Main) (N := 5) hx hb hts in_Main hown hK hP 0 rfl rfl 0 (by decide) (hts _ mw_133) (fun _ h9 => h9) rfl d_person_29 ?_
        refine va_getN (D := (dC, dI)) (ci := 0) (v := .ref hH1) (C := R_House) (T := T_House) (N := 9) hx hb hts in_House hown hK hP 1 rfl rfl 1 (by decide) (hts _ mw_46) (fun _ h9 => h9) rfl d_person_32 ?_
        refine lv_iload_n hx hb d_person_35 rfl (lv_at hl 1 rfl) ?_
        refine lv_iload_n hx hb d_person_36 rfl (lv_at hl 3 rfl) ?_
        refine va_iast (n := 40) (f := η 1) hx hb hK hP hD hS 3 0 rfl rfl (i := q1) (x := q3) (by first | assumption | exact in_isPerson ‹_› | exact in_isItem ‹_›) d_person_37 (fun H locs hP hD hS => ?_)
        have hP : va_P (dC, dI) vwCl (w_Main cI cZ mo oM hH hH0 hH1 hH2 hH3 hH4 hH5 hH6 hH7 hH8 kR kR0 kR1 xR xR0 xR1 sS sS0 (ω 0 0) (upd (η 0) q1.toNatClampNeg q2) (upd (η 1) q1.toNatClampNeg q3) (η 2) (η 3) (η 4) (η 5) (η 6) (η 7) (η 8) (κ 0) (κ 1) (κ 2 0) (χ 0) (χ 1) (χ 2 0) (ν 0) (ν 1 0) (ν 2 0) (ν 3 0) (ν 4 0) (ν 5 0)) H := hP
        have hD : va_D A (w_Main cI cZ mo oM hH hH0 hH1 hH2 hH3 hH4 hH5 hH6 hH7 hH8 kR kR0 kR1 xR xR0 xR1 sS sS0 (ω 0 0) (upd (η 0) q1.toNatClampNeg q2) (upd (η 1) q1.toNatClampNeg q3) (η 2) (η 3) (η 4) (η 5) (η 6) (η 7) (η 8) (κ 0) (κ 1) (κ 2 0) (χ 0) (χ 1) (χ 2 0) (ν 0) (ν 1 0) (ν 2 0) (ν 3 0) (ν 4 0) (ν 5 0)) := hD
        refine lv_iconst (v := 1) hx hb d_person_38 (by decide) ?_
        have hF : F_person mo ω η κ χ ν q1 q2 q3 = (1, ω, (ss (ss η 0 (upd (η 0) q1.toNatClampNeg q2)) 1 (upd (η 1) q1.toNatClampNeg q3)), κ, χ, ν) := (if_neg c_1).trans ((if_neg c_2).trans ((if_pos c_3).trans rfl))
        exact W.iret (v := 1) hx hb hr (fun t ht hW => ⟨⟨1, (ω, (ss (ss η 0 (upd (η 0) q1.toNatClampNeg q2)) 1 (upd (η 1) q1.toNatClampNeg q3)), κ, χ, ν), rfl, ⟨(congrArg Prod.fst hF).symm, (congrArg Prod.snd hF).symm⟩, by rw [ht]; exact hP, hD⟩, hS.F ht⟩) hS.2.2 d_person_39
      · refine lv_iconst (v := 0) hx hb d_person_16 (by decide) ?_
        have hF : F_person mo ω η κ χ ν q1 q2 q3 = (0, ω, η, κ, χ, ν) := (if_neg c_1).trans ((if_neg c_2).trans ((if_neg c_3).trans rfl))
        exact W.iret (v := 0) hx hb hr (fun t ht hW => ⟨⟨0, (ω, η, κ, χ, ν), rfl, ⟨(congrArg Prod.fst hF).symm, (congrArg Prod.snd hF).symm⟩, by rw [ht]; exact hP, hD⟩, hS.F ht⟩) hS.2.2 d_person_17
