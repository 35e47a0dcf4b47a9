def F_mOffl (ρ : SS) (q1 : Int32) : Int32 × SS :=
  (ρ 18 0, (ss (ss (ss ρ 14 (fun _ => 0)) 16 (fun _ => 0)) 18 (fun _ => q1)))
set_option maxHeartbeats 4000000 in
set_option maxRecDepth 100000 in
theorem c_mOffl (l : Launch) (dC : Nat → ClassId) (dI : Nat → Nat → Nat) (cI cZ : ClassId) (dM dM0 dM1 dM2 dM3 dM4 dM5 dM6 dM7 dM8 dM9 dM10 dM11 dM12 dM13 : Nat) (sz : Nat) (ρ : SS) (q1 : Int32) (hM : MInv ρ) (hz : q1 = 0 ∨ q1 = 1) : Met l y_mOffl [Cond.code y_mOffl prog_6_method_22_code 3 (some .boolean)] ({ frames := 0, cells := 0, slots := 0, locals := 0 }) (pcW (dC, dI) (w_Mod cI cZ dM dM0 dM1 dM2 dM3 dM4 dM5 dM6 dM7 dM8 dM9 dM10 dM11 dM12 dM13 (ρ 0) (ρ 1) (ρ 2) (ρ 3) (ρ 4) (ρ 5) (ρ 6) (ρ 7) (ρ 8) (ρ 9) (ρ 10) (ρ 11) (ρ 12) (ρ 13) (ρ 14 0) (ρ 15 0) (ρ 16 0) (ρ 17 0) (ρ 18 0) (ρ 19 0) (ρ 20 0) (ρ 21 0) (ρ 22 0) (ρ 23 0)) (tyC cI cZ) sz [.ref dM, .int q1]) (qI (fun r u => r = (F_mOffl ρ q1).1 ∧ u = (F_mOffl ρ q1).2) (dC, dI) (fun u : SS => w_Mod cI cZ dM dM0 dM1 dM2 dM3 dM4 dM5 dM6 dM7 dM8 dM9 dM10 dM11 dM12 dM13 (u 0) (u 1) (u 2) (u 3) (u 4) (u 5) (u 6) (u 7) (u 8) (u 9) (u 10) (u 11) (u 12) (u 13) (u 14 0) (u 15 0) (u 16 0) (u 17 0) (u 18 0) (u 19 0) (u 20 0) (u 21 0) (u 22 0) (u 23 0)) (va_A (w_Mod cI cZ dM dM0 dM1 dM2 dM3 dM4 dM5 dM6 dM7 dM8 dM9 dM10 dM11 dM12 dM13 (ρ 0) (ρ 1) (ρ 2) (ρ 3) (ρ 4) (ρ 5) (ρ 6) (ρ 7) (ρ 8) (ρ 9) (ρ 10) (ρ 11) (ρ 12) (ρ 13) (ρ 14 0) (ρ 15 0) (ρ 16 0) (ρ 17 0) (ρ 18 0) (ρ 19 0) (ρ 20 0) (ρ 21 0) (ρ 22 0) (ρ 23 0)) sz)) 0 0 (va_A (w_Mod cI cZ dM dM0 dM1 dM2 dM3 dM4 dM5 dM6 dM7 dM8 dM9 dM10 dM11 dM12 dM13 (ρ 0) (ρ 1) (ρ 2) (ρ 3) (ρ 4) (ρ 5) (ρ 6) (ρ 7) (ρ 8) (ρ 9) (ρ 10) (ρ 11) (ρ 12) (ρ 13) (ρ 14 0) (ρ 15 0) (ρ 16 0) (ρ 17 0) (ρ 18 0) (ρ 19 0) (ρ 20 0) (ρ 21 0) (ρ 22 0) (ρ 23 0)) sz) := by
  refine Met.ofW (cc := prog_6_method_22_code) (maxL := 3) (ret := (some .boolean)) (by decide) rfl ?_
  intro p e s m args below meth c s₁ B hml hv
  obtain ⟨rfl, hsz, hT, hP, hK, hD0⟩ := hv
  have hx := B.exec
  have hb := B.bytes
  have hr := B.returns
  have hts : ∀ w ∈ lw_ok, w.before ([.ref dM, .int q1] : List Value).toArray s = true := hT.use
  have hown : s.vm.findClass R_Mod = some m.cls := findClass_of_methodNamed B.named
  have hlocks := B.notSynchronized
  subst hsz
  have hD := hD0.self (sz := s.heap.size)
  generalize hAe : va_A (w_Mod cI cZ dM dM0 dM1 dM2 dM3 dM4 dM5 dM6 dM7 dM8 dM9 dM10 dM11 dM12 dM13 (ρ 0) (ρ 1) (ρ 2) (ρ 3) (ρ 4) (ρ 5) (ρ 6) (ρ 7) (ρ 8) (ρ 9) (ρ 10) (ρ 11) (ρ 12) (ρ 13) (ρ 14 0) (ρ 15 0) (ρ 16 0) (ρ 17 0) (ρ 18 0) (ρ 19 0) (ρ 20 0) (ρ 21 0) (ρ 22 0) (ρ 23 0)) s.heap.size = A at hD ⊢
  have hA : ∀ q : Nat, s.heap.size ≤ q → A q := fun q h => by rw [← hAe]; exact Or.inr h
  have hS : va_S A s.heap s.heap [] := va_S.rf
  have hl := lv_entry ([.ref dM, .int q1]) (n := 3) (Nat.le_of_ble_eq_true rfl)
  rw [lg_entry_eq]
  generalize (lg_sl ([.ref dM, .int q1]) ++ List.replicate (3 - (lg_sl ([.ref dM, .int q1])).length) Slot.unset).toArray = ls at hl ⊢
  have hl : lv_has ls 3 [(0, .ref dM), (1, .int q1)] := hl
  obtain ⟨mo, hmo, emo, hof, hre, hlo, hlk, ⟨kc, hkm, ek, hrow, hlend⟩, ⟨xc, hxm, ex⟩, hpe, hsc, ⟨lc, hlm, el, hrec⟩⟩ := id hM
  refine lv_aload_n hx hb d_mOffl_0 rfl (lv_at hl 0 rfl) ?_
  refine lv_iconst (v := 0) hx hb d_mOffl_1 (by decide) ?_
  refine va_put (D := (dC, dI)) (ci := 4) (v := .int 0) (ty := .int) (C := R_Mod) (T := T_Mod) (N := 24) hx hb hts in_Mod ty_Mod tyok_Mod nm_Mod hown hK hP hD hS 0 rfl rfl 0 (by decide) (hts _ mw_340) (fun _ h9 => h9) rfl (by decide +kernel) rfl rfl (Nat.le_of_ble_eq_true rfl) d_mOffl_2 (fun H locs hP hD hS => ?_)
  have hP : va_P (dC, dI) vwCl (w_Mod cI cZ dM dM0 dM1 dM2 dM3 dM4 dM5 dM6 dM7 dM8 dM9 dM10 dM11 dM12 dM13 (ρ 0) (ρ 1) (ρ 2) (ρ 3) (ρ 4) (ρ 5) (ρ 6) (ρ 7) (ρ 8) (ρ 9) (ρ 10) (ρ 11) (ρ 12) (ρ 13) 0 (ρ 15 0) (ρ 16 0) (ρ 17 0) (ρ 18 0) (ρ 19 0) (ρ 20 0) (ρ 21 0) (ρ 22 0) (ρ 23 0)) H := hP
  have hD : va_D A (w_Mod cI cZ dM dM0 dM1 dM2 dM3 dM4 dM5 dM6 dM7 dM8 dM9 dM10 dM11 dM12 dM13 (ρ 0) (ρ 1) (ρ 2) (ρ 3) (ρ 4) (ρ 5) (ρ 6) (ρ 7) (ρ 8) (ρ 9) (ρ 10) (ρ 11) (ρ 12) (ρ 13) 0 (ρ 15 0) (ρ 16 0) (ρ 17 0) (ρ 18 0) (ρ 19 0) (ρ 20 0) (ρ 21 0) (ρ 22 0) (ρ 23 0)) := hD
  refine lv_aload_n hx hb d_mOffl_5 rfl (lv_at hl 0 rfl) ?_
  refine va_get (D := (dC, dI)) (ci := 4) (v := .int (ρ 18 0)) (C := R_Mod) (T := T_Mod) (N := 24) hx hb hts in_Mod hown hK hP 0 rfl rfl 14 (by decide) (hts _ mw_354) (fun _ h9 => h9) rfl d_mOffl_6 ?_
  refine lv_istore_n (lv' := [(2, .int (ρ 18 0)), (0, .ref dM), (1, .int q1)]) hx hb d_mOffl_9 rfl hl (by decide) rfl (fun ls hl => ?_)
  refine lv_aload_n hx hb d_mOffl_10 rfl (lv_at hl 1 rfl) ?_
  refine lv_iload_n hx hb d_mOffl_11 rfl (lv_at hl 2 rfl) ?_
  refine va_put (D := (dC, dI)) (ci := 4) (v := .int q1) (ty := .boolean) (C := R_Mod) (T := T_Mod) (N := 24) hx hb hts in_Mod ty_Mod tyok_Mod nm_Mod hown hK hP hD hS 0 rfl rfl 14 (by decide) (hts _ mw_354) (fun _ h9 => h9) rfl (by decide +kernel) (by first | exact nz_b ‹_› | exact nz_b hz | exact nz_b hof) (by first | exact fz_b ‹_› | exact fz_b hz | exact fz_b hof) (Nat.le_of_ble_eq_true rfl) d_mOffl_12 (fun H locs hP hD hS => ?_)
  have hP : va_P (dC, dI) vwCl (w_Mod cI cZ dM dM0 dM1 dM2 dM3 dM4 dM5 dM6 dM7 dM8 dM9 dM10 dM11 dM12 dM13 (ρ 0) (ρ 1) (ρ 2) (ρ 3) (ρ 4) (ρ 5) (ρ 6) (ρ 7) (ρ 8) (ρ 9) (ρ 10) (ρ 11) (ρ 12) (ρ 13) 0 (ρ 15 0) (ρ 16 0) (ρ 17 0) q1 (ρ 19 0) (ρ 20 0) (ρ 21 0) (ρ 22 0) (ρ 23 0)) H := hP
  have hD : va_D A (w_Mod cI cZ dM dM0 dM1 dM2 dM3 dM4 dM5 dM6 dM7 dM8 dM9 dM10 dM11 dM12 dM13 (ρ 0) (ρ 1) (ρ 2) (ρ 3) (ρ 4) (ρ 5) (ρ 6) (ρ 7) (ρ 8) (ρ 9) (ρ 10) (ρ 11) (ρ 12) (ρ 13) 0 (ρ 15 0) (ρ 16 0) (ρ 17 0) q1 (ρ 19 0) (ρ 20 0) (ρ 21 0) (ρ 22 0) (ρ 23 0)) := hD
  refine lv_aload_n hx hb d_mOffl_15 rfl (lv_at hl 1 rfl) ?_
  refine lv_iconst (v := 0) hx hb d_mOffl_16 (by decide) ?_
  refine va_put (D := (dC, dI)) (ci := 4) (v := .int 0) (ty := .int) (C := R_Mod) (T := T_Mod) (N := 24) hx hb hts in_Mod ty_Mod tyok_Mod nm_Mod hown hK hP hD hS 0 rfl rfl 12 (by decide) (hts _ mw_352) (fun _ h9 => h9) rfl (by decide +kernel) rfl rfl (Nat.le_of_ble_eq_true rfl) d_mOffl_17 (fun H locs hP hD hS => ?_)
  have hP : va_P (dC, dI) vwCl (w_Mod cI cZ dM dM0 dM1 dM2 dM3 dM4 dM5 dM6 dM7 dM8 dM9 dM10 dM11 dM12 dM13 (ρ 0) (ρ 1) (ρ 2) (ρ 3) (ρ 4) (ρ 5) (ρ 6) (ρ 7) (ρ 8) (ρ 9) (ρ 10) (ρ 11) (ρ 12) (ρ 13) 0 (ρ 15 0) 0 (ρ 17 0) q1 (ρ 19 0) (ρ 20 0) (ρ 21 0) (ρ 22 0) (ρ 23 0)) H := hP
  have hD : va_D A (w_Mod cI cZ dM dM0 dM1 dM2 dM3 dM4 dM5 dM6 dM7 dM8 dM9 dM10 dM11 dM12 dM13 (ρ 0) (ρ 1) (ρ 2) (ρ 3) (ρ 4) (ρ 5) (ρ 6) (ρ 7) (ρ 8) (ρ 9) (ρ 10) (ρ 11) (ρ 12) (ρ 13) 0 (ρ 15 0) 0 (ρ 17 0) q1 (ρ 19 0) (ρ 20 0) (ρ 21 0) (ρ 22 0) (ρ 23 0)) := hD
  refine lv_iload_n hx hb d_mOffl_20 rfl (lv_at hl 0 rfl) ?_
  have hF : F_mOffl ρ q1 = (ρ 18 0, (ss (ss (ss ρ 14 (fun _ => 0)) 16 (fun _ => 0)) 18 (fun _ => q1))) := rfl
  exact W.zret (ty := .boolean) (v := ρ 18 0) hx hb hr (by first | exact nz_b ‹_› | exact nz_b hz | exact nz_b hof) (fun t ht hW => ⟨⟨ρ 18 0, (ss (ss (ss ρ 14 (fun _ => 0)) 16 (fun _ => 0)) 18 (fun _ => q1)), rfl, ⟨(congrArg Prod.fst hF).symm, (congrArg Prod.snd hF).symm⟩, by rw [ht]; exact hP, hD⟩, hS.F ht⟩) hS.2.2 d_mOffl_21
theorem in_c3 {x : Int32} {xc : Nat} (h : x = nI xc) (hx : xc < 100) : vp_in (3 * x) 300 ∧ vp_in ((3 * x) + 1) 300 ∧ vp_in ((3 * x) + 2) 300 := by
  have e : (3 : Int32) * x = nI (3 * xc) := by rw [h, show (3 : Int32) = nI 3 from rfl, pk_mul]
  have e1 : nI (3 * xc) + 1 = nI (3 * xc + 1) := nI_1 _
  have e2 : nI (3 * xc) + 2 = nI (3 * xc + 2) := nI_add (3 * xc) 2
  rw [e, e1, e2]
  exact ⟨vp_in_nI (by omega) (by decide), vp_in_nI (by omega) (by decide), vp_in_nI (by omega) (by decide)⟩
def JM (ρ : SS) (k i : Nat) : Prop := ∃ xc : Nat, xc ≤ i ∧ ρ 23 0 = nI xc ∧ vp_in (ρ 11 k) 60 ∧ (ρ 12 k = -1 ∨ vp_in (ρ 12 k) 40) ∧ (ρ 8 (ρ 11 k).toNatClampNeg = -1 ∨ vp_in (ρ 8 (ρ 11 k).toNatClampNeg) 10)
def F_mJst (ρ : SS) (i : Nat) : SS :=
  if (ρ 12 (nI i).toNatClampNeg) = (-1) then
    if (ρ 5 (ρ 11 (nI i).toNatClampNeg).toNatClampNeg) = (-1) then
      (ss (ss ρ 13 (upd (upd (upd (ρ 13) (3 * (ρ 23 0)).toNatClampNeg (ρ 11 (nI i).toNatClampNeg)) ((3 * (ρ 23 0)) + 1).toNatClampNeg (ρ 12 (nI i).toNatClampNeg)) ((3 * (ρ 23 0)) + 2).toNatClampNeg 1)) 23 (fun _ => (ρ 23 0) + 1))
    else
      (ss (ss ρ 5 (((F_mCome ρ (ρ 11 (nI i).toNatClampNeg)).2) 5)) 7 (((F_mCome ρ (ρ 11 (nI i).toNatClampNeg)).2) 7))
  else
    if 0 ≤ (F_mAg ρ (ρ 11 (nI i).toNatClampNeg) (ρ 12 (nI i).toNatClampNeg)) then
      (ss (ss (ss (ss (ss ρ 5 ((F_mGo ρ (ρ 11 (nI i).toNatClampNeg) (ρ 12 (nI i).toNatClampNeg)) 5)) 6 ((F_mGo ρ (ρ 11 (nI i).toNatClampNeg) (ρ 12 (nI i).toNatClampNeg)) 6)) 7 ((F_mGo ρ (ρ 11 (nI i).toNatClampNeg) (ρ 12 (nI i).toNatClampNeg)) 7)) 8 ((F_mGo ρ (ρ 11 (nI i).toNatClampNeg) (ρ 12 (nI i).toNatClampNeg)) 8)) 9 ((F_mGo ρ (ρ 11 (nI i).toNatClampNeg) (ρ 12 (nI i).toNatClampNeg)) 9))
    else
      (ss (ss ρ 13 (upd (upd (upd (ρ 13) (3 * (ρ 23 0)).toNatClampNeg (ρ 11 (nI i).toNatClampNeg)) ((3 * (ρ 23 0)) + 1).toNatClampNeg (ρ 12 (nI i).toNatClampNeg)) ((3 * (ρ 23 0)) + 2).toNatClampNeg 0)) 23 (fun _ => (ρ 23 0) + 1))
def mJ (ρ : SS) : Nat → SS
  | 0 => ρ
  | i + 1 => F_mJst (mJ ρ i) i
set_option maxHeartbeats 4000000 in
set_option maxRecDepth 100000 in
theorem lp_mj {p : Program} {l : Launch} {e : Env} {s : State} {m : MethodId} {args : Array Value} {below : List Frame} {meth : Method} {c : Code} {Q : State → Prop} {A : Nat → Prop} {H0 : Heap} {dC : Nat → ClassId} {dI : Nat → Nat → Nat} {cI cZ : ClassId} {dM dM0 dM1 dM2 dM3 dM4 dM5 dM6 dM7 dM8 dM9 dM10 dM11 dM12 dM13 : Nat} {ρ : SS} {q1 : Int32} {rc : Nat} (hx : p.tables.exec = Jvm.exec) (hb : c.code = prog_6_method_23_code) (hml : c.maxLocals = 6) (hT : TBL s) (hts : ∀ w ∈ lw_ok, w.before args s = true) (hown : s.vm.findClass R_Mod = some m.cls) (hK : va_K (dC, dI) vwCl (tyC cI cZ) s) (hA : ∀ q : Nat, H0.size ≤ q → A q) (hrc : rc ≤ 100) (er : q1 = nI rc) (hJ : ∀ i, i < rc → JM (mJ ρ i) (nI i).toNatClampNeg i) (kx : ∀ (ls : Array Slot) (H : Heap) (locs : List Loc), va_P (dC, dI) vwCl (w_Mod cI cZ dM dM0 dM1 dM2 dM3 dM4 dM5 dM6 dM7 dM8 dM9 dM10 dM11 dM12 dM13 ((mJ ρ rc) 0) ((mJ ρ rc) 1) ((mJ ρ rc) 2) ((mJ ρ rc) 3) ((mJ ρ rc) 4) ((mJ ρ rc) 5) ((mJ ρ rc) 6) ((mJ ρ rc) 7) ((mJ ρ rc) 8) ((mJ ρ rc) 9) ((mJ ρ rc) 10) ((mJ ρ rc) 11) ((mJ ρ rc) 12) ((mJ ρ rc) 13) ((mJ ρ rc) 14 0) ((mJ ρ rc) 15 0) ((mJ ρ rc) 16 0) ((mJ ρ rc) 17 0) ((mJ ρ rc) 18 0) ((mJ ρ rc) 19 0) ((mJ ρ rc) 20 0) ((mJ ρ rc) 21 0) ((mJ ρ rc) 22 0) ((mJ ρ rc) 23 0)) H → va_D A (w_Mod cI cZ dM dM0 dM1 dM2 dM3 dM4 dM5 dM6 dM7 dM8 dM9 dM10 dM11 dM12 dM13 ((mJ ρ rc) 0) ((mJ ρ rc) 1) ((mJ ρ rc) 2) ((mJ ρ rc) 3) ((mJ ρ rc) 4) ((mJ ρ rc) 5) ((mJ ρ rc) 6) ((mJ ρ rc) 7) ((mJ ρ rc) 8) ((mJ ρ rc) 9) ((mJ ρ rc) 10) ((mJ ρ rc) 11) ((mJ ρ rc) 12) ((mJ ρ rc) 13) ((mJ ρ rc) 14 0) ((mJ ρ rc) 15 0) ((mJ ρ rc) 16 0) ((mJ ρ rc) 17 0) ((mJ ρ rc) 18 0) ((mJ ρ rc) 19 0) ((mJ ρ rc) 20 0) ((mJ ρ rc) 21 0) ((mJ ρ rc) 22 0) ((mJ ρ rc) 23 0)) → va_S A H0 H locs → lv_has ls 6 [(0, .ref dM), (1, .int q1), (2, .int (nI rc))] → W p l e ({ frames := 2, cells := 0, slots := 0, locals := 45 } : Room) s m args below meth c H locs 0 0 Q (F0 m 191 ls [])) : ∀ (n : Nat) (i : Nat) (ls : Array Slot), (i ≤ rc) → rc + 1 ≤ i + n → ∀ (H : Heap) (locs : List Loc), va_P (dC, dI) vwCl (w_Mod cI cZ dM dM0 dM1 dM2 dM3 dM4 dM5 dM6 dM7 dM8 dM9 dM10 dM11 dM12 dM13 ((mJ ρ i) 0) ((mJ ρ i) 1) ((mJ ρ i) 2) ((mJ ρ i) 3) ((mJ ρ i) 4) ((mJ ρ i) 5) ((mJ ρ i) 6) ((mJ ρ i) 7) ((mJ ρ i) 8) ((mJ ρ i) 9) ((mJ ρ i) 10) ((mJ ρ i) 11) ((mJ ρ i) 12) ((mJ ρ i) 13) ((mJ ρ i) 14 0) ((mJ ρ i) 15 0) ((mJ ρ i) 16 0) ((mJ ρ i) 17 0) ((mJ ρ i) 18 0) ((mJ ρ i) 19 0) ((mJ ρ i) 20 0) ((mJ ρ i) 21 0) ((mJ ρ i) 22 0) ((mJ ρ i) 23 0)) H → va_D A (w_Mod cI cZ dM dM0 dM1 dM2 dM3 dM4 dM5 dM6 dM7 dM8 dM9 dM10 dM11 dM12 dM13 ((mJ ρ i) 0) ((mJ ρ i) 1) ((mJ ρ i) 2) ((mJ ρ i) 3) ((mJ ρ i) 4) ((mJ ρ i) 5) ((mJ ρ i) 6) ((mJ ρ i) 7) ((mJ ρ i) 8) ((mJ ρ i) 9) ((mJ ρ i) 10) ((mJ ρ i) 11) ((mJ ρ i) 12) ((mJ ρ i) 13) ((mJ ρ i) 14 0) ((mJ ρ i) 15 0) ((mJ ρ i) 16 0) ((mJ ρ i) 17 0) ((mJ ρ i) 18 0) ((mJ ρ i) 19 0) ((mJ ρ i) 20 0) ((mJ ρ i) 21 0) ((mJ ρ i) 22 0) ((mJ ρ i) 23 0)) → va_S A H0 H locs → lv_has ls 6 [(0, .ref dM), (1, .int q1), (2, .int (nI i))] → W p l e ({ frames := 2, cells := 0, slots := 0, locals := 45 } : Room) s m args below meth c H locs 0 0 Q (F0 m 33 ls []) := by
  intro n
  induction n with
  | zero => intro i ls hi hfu; exact absurd hfu (by omega)
  | succ n ih =>
    intro i ls hi hfu H locs hP hD hS hl
    refine lv_iload_n hx hb d_mJoin_33 rfl (lv_at hl 2 rfl) ?_
    refine lv_iload_n hx hb d_mJoin_34 rfl (lv_at hl 1 rfl) ?_
    refine lv_icmp_ge (tgt := 191) hx hb d_mJoin_35 (by decide) (fun c_12 => ?_) (fun c_12 => ?_)
    · have hi9 : i = rc := by
        rcases Nat.lt_or_ge i rc with h | h
        · exact absurd (er ▸ c_12) (nI_ge h (by omega))
        · omega
      subst hi9
      exact kx ls H locs hP hD hS hl
    · have hlt : i < rc := lt_nle (by omega) (by omega) (er ▸ c_12)
      obtain ⟨xc, hx1, hx2, hx3, hx4, hx5⟩ := hJ i hlt
      refine lv_aload_n hx hb d_mJoin_38 rfl (lv_at hl 0 rfl) ?_
      refine va_get (D := (dC, dI)) (ci := 4) (v := .ref dM11) (C := R_Mod) (T := T_Mod) (N := 24) hx hb hts in_Mod hown hK hP 0 rfl rfl 19 (by decide) (hts _ mw_359) (fun _ h9 => h9) rfl d_mJoin_39 ?_
      refine lv_iload_n hx hb d_mJoin_42 rfl (lv_at hl 2 rfl) ?_
      refine va_iald (n := 100) (f := (mJ ρ i) 11) hx hb hK hP 12 0 rfl rfl (i := nI i) (vp_in_nI (by omega) (by decide)) d_mJoin_43 ?_
      refine lv_istore_n (lv' := [(3, .int (((mJ ρ i) 11) (nI i).toNatClampNeg)), (0, .ref dM), (1, .int q1), (2, .int (nI i))]) hx hb d_mJoin_44 rfl hl (by decide) rfl (fun ls hl => ?_)
      refine lv_aload_n hx hb d_mJoin_45 rfl (lv_at hl 1 rfl) ?_
      refine va_get (D := (dC, dI)) (ci := 4) (v := .ref dM12) (C := R_Mod) (T := T_Mod) (N := 24) hx hb hts in_Mod hown hK hP 0 rfl rfl 20 (by decide) (hts _ mw_360) (fun _ h9 => h9) rfl d_mJoin_46 ?_
      refine lv_iload_n hx hb d_mJoin_49 rfl (lv_at hl 3 rfl) ?_
      refine va_iald (n := 100) (f := (mJ ρ i) 12) hx hb hK hP 13 0 rfl rfl (i := nI i) (vp_in_nI (by omega) (by decide)) d_mJoin_50 ?_
      refine lv_istore (lv' := [(4, .int (((mJ ρ i) 12) (nI i).toNatClampNeg)), (3, .int (((mJ ρ i) 11) (nI i).toNatClampNeg)), (0, .ref dM), (1, .int q1), (2, .int (nI i))]) hx hb d_mJoin_51 hl (by decide) rfl (fun ls hl => ?_)
      refine lv_iload hx hb d_mJoin_53 (lv_at hl 0 rfl) ?_
      refine lv_iconst (v := -1) hx hb d_mJoin_55 (by decide) ?_
      refine lv_icmp_ne (tgt := 77) hx hb d_mJoin_56 (by decide) (fun c_13 => ?_) (fun c_13 => ?_)
      · refine lv_aload_n hx hb d_mJoin_77 rfl (lv_at hl 2 rfl) ?_
        refine lv_iload_n hx hb d_mJoin_78 rfl (lv_at hl 1 rfl) ?_
        refine lv_iload hx hb d_mJoin_79 (lv_at hl 0 rfl) ?_
        refine xc_VR (As := [.int (((mJ ρ i) 11) (nI i).toNatClampNeg), .int (((mJ ρ i) 12) (nI i).toNatClampNeg)]) (rest := []) (ci := 4) ⟨hx, hb, hml, hown, hts⟩ hT hK hP (c_mAg l dC dI cI cZ dM dM0 dM1 dM2 dM3 dM4 dM5 dM6 dM7 dM8 dM9 dM10 dM11 dM12 dM13 (mJ ρ i) (((mJ ρ i) 11) (nI i).toNatClampNeg) (((mJ ρ i) 12) (nI i).toNatClampNeg) (by first | assumption | exact hx3 | exact hx4.resolve_left ‹_› | exact hx5 | exact (in_c3 hx2 (by omega)).1 | exact (in_c3 hx2 (by omega)).2.1 | exact (in_c3 hx2 (by omega)).2.2) (by first | assumption | exact hx3 | exact hx4.resolve_left ‹_› | exact hx5 | exact (in_c3 hx2 (by omega)).1 | exact (in_c3 hx2 (by omega)).2.1 | exact (in_c3 hx2 (by omega)).2.2)) [0, 1, 2, 3, 4, 5, 6, 7, 8, 9, 10, 11, 12, 13, 14] rfl (xw_V 2 hts mw_458 mw_19 mw_455 mw_457 mw_6 rfl rfl (by decide +kernel) ⟨Nat.le_of_ble_eq_true rfl, Nat.le_of_ble_eq_true rfl⟩) rfl rfl rfl hl.1 rfl (Nat.le_of_ble_eq_true rfl) d_mJoin_81 ⟨Nat.zero_le _, Nat.zero_le _⟩ (fun r hw => ?_)
        subst hw
        refine lv_if_ge (tgt := 91) hx hb d_mJoin_84 (by decide) (fun c_14 => ?_) (fun c_14 => ?_)
        · refine lv_iconst (v := 0) hx hb d_mJoin_91 (by decide) ?_
          refine lv_istore (lv' := [(5, .int 0), (4, .int (((mJ ρ i) 12) (nI i).toNatClampNeg)), (3, .int (((mJ ρ i) 11) (nI i).toNatClampNeg)), (0, .ref dM), (1, .int q1), (2, .int (nI i))]) hx hb d_mJoin_92 hl (by decide) rfl (fun ls hl => ?_)
          refine lv_iload hx hb d_mJoin_94 (lv_at hl 0 rfl) ?_
          refine lv_if_eq (tgt := 163) hx hb d_mJoin_96 (by decide) (fun c_15 => ?_) (fun c_15 => ?_)
          rotate_left
          · exact absurd (by decide) c_15
          refine lv_iload hx hb d_mJoin_163 (lv_at hl 1 rfl) ?_
          refine lv_iconst (v := -1) hx hb d_mJoin_165 (by decide) ?_
          refine lv_icmp_ne (tgt := 178) hx hb d_mJoin_166 (by decide) (fun c_16 => ?_) (fun c_16 => ?_)
          rotate_left
          · exact absurd c_16 c_13
          refine lv_aload_n hx hb d_mJoin_178 rfl (lv_at hl 3 rfl) ?_
          refine lv_iload_n hx hb d_mJoin_179 rfl (lv_at hl 2 rfl) ?_
          refine lv_iload hx hb d_mJoin_180 (lv_at hl 1 rfl) ?_
          refine xc_VWv (As := [.int (((mJ ρ i) 11) (nI i).toNatClampNeg), .int (((mJ ρ i) 12) (nI i).toNatClampNeg)]) (rest := []) (ci := 4) (wr := []) ⟨hx, hb, hml, hown, hts⟩ hT hK hP hD hS hA (c_mGo l dC dI cI cZ dM dM0 dM1 dM2 dM3 dM4 dM5 dM6 dM7 dM8 dM9 dM10 dM11 dM12 dM13 H.size (mJ ρ i) (((mJ ρ i) 11) (nI i).toNatClampNeg) (((mJ ρ i) 12) (nI i).toNatClampNeg) (by first | assumption | exact hx3 | exact hx4.resolve_left ‹_› | exact hx5 | exact (in_c3 hx2 (by omega)).1 | exact (in_c3 hx2 (by omega)).2.1 | exact (in_c3 hx2 (by omega)).2.2) (by first | assumption | exact hx3 | exact hx4.resolve_left ‹_› | exact hx5 | exact (in_c3 hx2 (by omega)).1 | exact (in_c3 hx2 (by omega)).2.1 | exact (in_c3 hx2 (by omega)).2.2)) [0, 1, 2, 3, 4, 5, 6, 7, 8, 9, 10, 11, 12, 13, 14] [] rfl (by decide) rfl (by decide) (by decide) (xw_V 2 hts mw_466 mw_19 mw_463 mw_465 mw_8 rfl rfl (by decide +kernel) ⟨Nat.le_of_ble_eq_true rfl, Nat.le_of_ble_eq_true rfl⟩) rfl rfl rfl hl.1 rfl (Nat.le_of_ble_eq_true rfl) d_mJoin_182 ⟨Nat.zero_le _, Nat.zero_le _⟩ (fun u H locs hw hP hD hS => ?_)
          obtain ⟨v8_5, v8_6, v8_7, v8_8, v8_9⟩ := u
          have hv8_5 : v8_5 = (F_mGo (mJ ρ i) (((mJ ρ i) 11) (nI i).toNatClampNeg) (((mJ ρ i) 12) (nI i).toNatClampNeg)) 5 := congrArg (fun u : (Nat → Int32) × (Nat → Int32) × (Nat → Int32) × (Nat → Int32) × (Nat → Int32) => u.1) hw
          have hv8_6 : v8_6 = (F_mGo (mJ ρ i) (((mJ ρ i) 11) (nI i).toNatClampNeg) (((mJ ρ i) 12) (nI i).toNatClampNeg)) 6 := congrArg (fun u : (Nat → Int32) × (Nat → Int32) × (Nat → Int32) × (Nat → Int32) × (Nat → Int32) => u.2.1) hw
          have hv8_7 : v8_7 = (F_mGo (mJ ρ i) (((mJ ρ i) 11) (nI i).toNatClampNeg) (((mJ ρ i) 12) (nI i).toNatClampNeg)) 7 := congrArg (fun u : (Nat → Int32) × (Nat → Int32) × (Nat → Int32) × (Nat → Int32) × (Nat → Int32) => u.2.2.1) hw
          have hv8_8 : v8_8 = (F_mGo (mJ ρ i) (((mJ ρ i) 11) (nI i).toNatClampNeg) (((mJ ρ i) 12) (nI i).toNatClampNeg)) 8 := congrArg (fun u : (Nat → Int32) × (Nat → Int32) × (Nat → Int32) × (Nat → Int32) × (Nat → Int32) => u.2.2.2.1) hw
          have hv8_9 : v8_9 = (F_mGo (mJ ρ i) (((mJ ρ i) 11) (nI i).toNatClampNeg) (((mJ ρ i) 12) (nI i).toNatClampNeg)) 9 := congrArg (fun u : (Nat → Int32) × (Nat → Int32) × (Nat → Int32) × (Nat → Int32) × (Nat → Int32) => u.2.2.2.2) hw
          have hP : va_P (dC, dI) vwCl (w_Mod cI cZ dM dM0 dM1 dM2 dM3 dM4 dM5 dM6 dM7 dM8 dM9 dM10 dM11 dM12 dM13 ((mJ ρ i) 0) ((mJ ρ i) 1) ((mJ ρ i) 2) ((mJ ρ i) 3) ((mJ ρ i) 4) v8_5 v8_6 v8_7 v8_8 v8_9 ((mJ ρ i) 10) ((mJ ρ i) 11) ((mJ ρ i) 12) ((mJ ρ i) 13) ((mJ ρ i) 14 0) ((mJ ρ i) 15 0) ((mJ ρ i) 16 0) ((mJ ρ i) 17 0) ((mJ ρ i) 18 0) ((mJ ρ i) 19 0) ((mJ ρ i) 20 0) ((mJ ρ i) 21 0) ((mJ ρ i) 22 0) ((mJ ρ i) 23 0)) H := hP.sub [0, 1, 2, 3, 4, 5, 6, 7, 8, 9, 10, 11, 12, 13, 14] rfl
          have hD : va_D A (w_Mod cI cZ dM dM0 dM1 dM2 dM3 dM4 dM5 dM6 dM7 dM8 dM9 dM10 dM11 dM12 dM13 ((mJ ρ i) 0) ((mJ ρ i) 1) ((mJ ρ i) 2) ((mJ ρ i) 3) ((mJ ρ i) 4) v8_5 v8_6 v8_7 v8_8 v8_9 ((mJ ρ i) 10) ((mJ ρ i) 11) ((mJ ρ i) 12) ((mJ ρ i) 13) ((mJ ρ i) 14 0) ((mJ ρ i) 15 0) ((mJ ρ i) 16 0) ((mJ ρ i) 17 0) ((mJ ρ i) 18 0) ((mJ ρ i) 19 0) ((mJ ρ i) 20 0) ((mJ ρ i) 21 0) ((mJ ρ i) 22 0) ((mJ ρ i) 23 0)) := hD.sub [0, 1, 2, 3, 4, 5, 6, 7, 8, 9, 10, 11, 12, 13, 14] (by decide) rfl
          refine lv_iinc (v := nI (i + 1)) (lv' := [(2, .int (nI (i + 1))), (5, .int 0), (4, .int (((mJ ρ i) 12) (nI i).toNatClampNeg)), (3, .int (((mJ ρ i) 11) (nI i).toNatClampNeg)), (0, .ref dM), (1, .int q1)]) hx hb d_mJoin_185 hl (k := 5) rfl (nI_1 _) (by decide) rfl (fun ls hl => ?_)
          refine lv_goto (tgt := 33) hx hb d_mJoin_188 (by decide) ?_
          have hF : F_mJst (mJ ρ i) i = (ss (ss (ss (ss (ss (mJ ρ i) 5 v8_5) 6 v8_6) 7 v8_7) 8 v8_8) 9 v8_9) := by subst hv8_5 hv8_6 hv8_7 hv8_8 hv8_9; exact ((if_neg c_13).trans ((if_pos c_14).trans rfl))
          exact ih (i + 1) ls (by omega) (by omega) H locs (by show va_P (dC, dI) vwCl (w_Mod cI cZ dM dM0 dM1 dM2 dM3 dM4 dM5 dM6 dM7 dM8 dM9 dM10 dM11 dM12 dM13 ((F_mJst (mJ ρ i) i) 0) ((F_mJst (mJ ρ i) i) 1) ((F_mJst (mJ ρ i) i) 2) ((F_mJst (mJ ρ i) i) 3) ((F_mJst (mJ ρ i) i) 4) ((F_mJst (mJ ρ i) i) 5) ((F_mJst (mJ ρ i) i) 6) ((F_mJst (mJ ρ i) i) 7) ((F_mJst (mJ ρ i) i) 8) ((F_mJst (mJ ρ i) i) 9) ((F_mJst (mJ ρ i) i) 10) ((F_mJst (mJ ρ i) i) 11) ((F_mJst (mJ ρ i) i) 12) ((F_mJst (mJ ρ i) i) 13) ((F_mJst (mJ ρ i) i) 14 0) ((F_mJst (mJ ρ i) i) 15 0) ((F_mJst (mJ ρ i) i) 16 0) ((F_mJst (mJ ρ i) i) 17 0) ((F_mJst (mJ ρ i) i) 18 0) ((F_mJst (mJ ρ i) i) 19 0) ((F_mJst (mJ ρ i) i) 20 0) ((F_mJst (mJ ρ i) i) 21 0) ((F_mJst (mJ ρ i) i) 22 0) ((F_mJst (mJ ρ i) i) 23 0)) H; rw [hF]; exact hP) (by show va_D A (w_Mod cI cZ dM dM0 dM1 dM2 dM3 dM4 dM5 dM6 dM7 dM8 dM9 dM10 dM11 dM12 dM13 ((F_mJst (mJ ρ i) i) 0) ((F_mJst (mJ ρ i) i) 1) ((F_mJst (mJ ρ i) i) 2) ((F_mJst (mJ ρ i) i) 3) ((F_mJst (mJ ρ i) i) 4) ((F_mJst (mJ ρ i) i) 5) ((F_mJst (mJ ρ i) i) 6) ((F_mJst (mJ ρ i) i) 7) ((F_mJst (mJ ρ i) i) 8) ((F_mJst (mJ ρ i) i) 9) ((F_mJst (mJ ρ i) i) 10) ((F_mJst (mJ ρ i) i) 11) ((F_mJst (mJ ρ i) i) 12) ((F_mJst (mJ ρ i) i) 13) ((F_mJst (mJ ρ i) i) 14 0) ((F_mJst (mJ ρ i) i) 15 0) ((F_mJst (mJ ρ i) i) 16 0) ((F_mJst (mJ ρ i) i) 17 0) ((F_mJst (mJ ρ i) i) 18 0) ((F_mJst (mJ ρ i) i) 19 0) ((F_mJst (mJ ρ i) i) 20 0) ((F_mJst (mJ ρ i) i) 21 0) ((F_mJst (mJ ρ i) i) 22 0) ((F_mJst (mJ ρ i) i) 23 0)); rw [hF]; exact hD) hS (lv_sub hl [4, 5, 0] rfl)
        · refine lv_iconst (v := 1) hx hb d_mJoin_87 (by decide) ?_
          refine lv_goto (tgt := 92) hx hb d_mJoin_88 (by decide) ?_
          refine lv_istore (lv' := [(5, .int 1), (4, .int (((mJ ρ i) 12) (nI i).toNatClampNeg)), (3, .int (((mJ ρ i) 11) (nI i).toNatClampNeg)), (0, .ref dM), (1, .int q1), (2, .int (nI i))]) hx hb d_mJoin_92 hl (by decide) rfl (fun ls hl => ?_)
          refine lv_iload hx hb d_mJoin_94 (lv_at hl 0 rfl) ?_
          refine lv_if_eq (tgt := 163) hx hb d_mJoin_96 (by decide) (fun c_17 => ?_) (fun c_17 => ?_)
          · exact absurd c_17 (by decide)
          refine lv_aload_n hx hb d_mJoin_99 rfl (lv_at hl 3 rfl) ?_
          refine va_get (D := (dC, dI)) (ci := 4) (v := .ref dM13) (C := R_Mod) (T := T_Mod) (N := 24) hx hb hts in_Mod hown hK hP 0 rfl rfl 22 (by decide) (hts _ mw_362) (fun _ h9 => h9) rfl d_mJoin_100 ?_
          refine lv_iconst (v := 3) hx hb d_mJoin_103 (by decide) ?_
          refine lv_aload_n hx hb d_mJoin_104 rfl (lv_at hl 3 rfl) ?_
          refine va_get (D := (dC, dI)) (ci := 4) (v := .int ((mJ ρ i) 23 0)) (C := R_Mod) (T := T_Mod) (N := 24) hx hb hts in_Mod hown hK hP 0 rfl rfl 23 (by decide) (hts _ mw_363) (fun _ h9 => h9) rfl d_mJoin_105 ?_
          refine lv_imul hx hb d_mJoin_108 ?_
          refine lv_iload_n hx hb d_mJoin_109 rfl (lv_at hl 2 rfl) ?_
          refine va_iast (n := 300) (f := (mJ ρ i) 13) hx hb hK hP hD hS 14 0 rfl rfl (i := 3 * ((mJ ρ i) 23 0)) (x := ((mJ ρ i) 11) (nI i).toNatClampNeg) (by first | assumption | exact hx3 | exact hx4.resolve_left ‹_› | exact hx5 | exact (in_c3 hx2 (by omega)).1 | exact (in_c3 hx2 (by omega)).2.1 | exact (in_c3 hx2 (by omega)).2.2) d_mJoin_110 (fun H locs hP hD hS => ?_)
          have hP : va_P (dC, dI) vwCl (w_Mod cI cZ dM dM0 dM1 dM2 dM3 dM4 dM5 dM6 dM7 dM8 dM9 dM10 dM11 dM12 dM13 ((mJ ρ i) 0) ((mJ ρ i) 1) ((mJ ρ i) 2) ((mJ ρ i) 3) ((mJ ρ i) 4) ((mJ ρ i) 5) ((mJ ρ i) 6) ((mJ ρ i) 7) ((mJ ρ i) 8) ((mJ ρ i) 9) ((mJ ρ i) 10) ((mJ ρ i) 11) ((mJ ρ i) 12) (upd ((mJ ρ i) 13) (3 * ((mJ ρ i) 23 0)).toNatClampNeg (((mJ ρ i) 11) (nI i).toNatClampNeg)) ((mJ ρ i) 14 0) ((mJ ρ i) 15 0) ((mJ ρ i) 16 0) ((mJ ρ i) 17 0) ((mJ ρ i) 18 0) ((mJ ρ i) 19 0) ((mJ ρ i) 20 0) ((mJ ρ i) 21 0) ((mJ ρ i) 22 0) ((mJ ρ i) 23 0)) H := hP
          have hD : va_D A (w_Mod cI cZ dM dM0 dM1 dM2 dM3 dM4 dM5 dM6 dM7 dM8 dM9 dM10 dM11 dM12 dM13 ((mJ ρ i) 0) ((mJ ρ i) 1) ((mJ ρ i) 2) ((mJ ρ i) 3) ((mJ ρ i) 4) ((mJ ρ i) 5) ((mJ ρ i) 6) ((mJ ρ i) 7) ((mJ ρ i) 8) ((mJ ρ i) 9) ((mJ ρ i) 10) ((mJ ρ i) 11) ((mJ ρ i) 12) (upd ((mJ ρ i) 13) (3 * ((mJ ρ i) 23 0)).toNatClampNeg (((mJ ρ i) 11) (nI i).toNatClampNeg)) ((mJ ρ i) 14 0) ((mJ ρ i) 15 0) ((mJ ρ i) 16 0) ((mJ ρ i) 17 0) ((mJ ρ i) 18 0) ((mJ ρ i) 19 0) ((mJ ρ i) 20 0) ((mJ ρ i) 21 0) ((mJ ρ i) 22 0) ((mJ ρ i) 23 0)) := hD
          refine lv_aload_n hx hb d_mJoin_111 rfl (lv_at hl 3 rfl) ?_
          refine va_get (D := (dC, dI)) (ci := 4) (v := .ref dM13) (C := R_Mod) (T := T_Mod) (N := 24) hx hb hts in_Mod hown hK hP 0 rfl rfl 22 (by decide) (hts _ mw_362) (fun _ h9 => h9) rfl d_mJoin_112 ?_
          refine lv_iconst (v := 3) hx hb d_mJoin_115 (by decide) ?_
          refine lv_aload_n hx hb d_mJoin_116 rfl (lv_at hl 3 rfl) ?_
          refine va_get (D := (dC, dI)) (ci := 4) (v := .int ((mJ ρ i) 23 0)) (C := R_Mod) (T := T_Mod) (N := 24) hx hb hts in_Mod hown hK hP 0 rfl rfl 23 (by decide) (hts _ mw_363) (fun _ h9 => h9) rfl d_mJoin_117 ?_
          refine lv_imul hx hb d_mJoin_120 ?_
          refine lv_iconst (v := 1) hx hb d_mJoin_121 (by decide) ?_
          refine lv_iadd hx hb d_mJoin_122 ?_
          refine lv_iload hx hb d_mJoin_123 (lv_at hl 1 rfl) ?_
          refine va_iast (n := 300) (f := upd ((mJ ρ i) 13) (3 * ((mJ ρ i) 23 0)).toNatClampNeg (((mJ ρ i) 11) (nI i).toNatClampNeg)) hx hb hK hP hD hS 14 0 rfl rfl (i := (3 * ((mJ ρ i) 23 0)) + 1) (x := ((mJ ρ i) 12) (nI i).toNatClampNeg) (by first | assumption | exact hx3 | exact hx4.resolve_left ‹_› | exact hx5 | exact (in_c3 hx2 (by omega)).1 | exact (in_c3 hx2 (by omega)).2.1 | exact (in_c3 hx2 (by omega)).2.2) d_mJoin_125 (fun H locs hP hD hS => ?_)
          have hP : va_P (dC, dI) vwCl (w_Mod cI cZ dM dM0 dM1 dM2 dM3 dM4 dM5 dM6 dM7 dM8 dM9 dM10 dM11 dM12 dM13 ((mJ ρ i) 0) ((mJ ρ i) 1) ((mJ ρ i) 2) ((mJ ρ i) 3) ((mJ ρ i) 4) ((mJ ρ i) 5) ((mJ ρ i) 6) ((mJ ρ i) 7) ((mJ ρ i) 8) ((mJ ρ i) 9) ((mJ ρ i) 10) ((mJ ρ i) 11) ((mJ ρ i) 12) (upd (upd ((mJ ρ i) 13) (3 * ((mJ ρ i) 23 0)).toNatClampNeg (((mJ ρ i) 11) (nI i).toNatClampNeg)) ((3 * ((mJ ρ i) 23 0)) + 1).toNatClampNeg (((mJ ρ i) 12) (nI i).toNatClampNeg)) ((mJ ρ i) 14 0) ((mJ ρ i) 15 0) ((mJ ρ i) 16 0) ((mJ ρ i) 17 0) ((mJ ρ i) 18 0) ((mJ ρ i) 19 0) ((mJ ρ i) 20 0) ((mJ ρ i) 21 0) ((mJ ρ i) 22 0) ((mJ ρ i) 23 0)) H := hP
          have hD : va_D A (w_Mod cI cZ dM dM0 dM1 dM2 dM3 dM4 dM5 dM6 dM7 dM8 dM9 dM10 dM11 dM12 dM13 ((mJ ρ i) 0) ((mJ ρ i) 1) ((mJ ρ i) 2) ((mJ ρ i) 3) ((mJ ρ i) 4) ((mJ ρ i) 5) ((mJ ρ i) 6) ((mJ ρ i) 7) ((mJ ρ i) 8) ((mJ ρ i) 9) ((mJ ρ i) 10) ((mJ ρ i) 11) ((mJ ρ i) 12) (upd (upd ((mJ ρ i) 13) (3 * ((mJ ρ i) 23 0)).toNatClampNeg (((mJ ρ i) 11) (nI i).toNatClampNeg)) ((3 * ((mJ ρ i) 23 0)) + 1).toNatClampNeg (((mJ ρ i) 12) (nI i).toNatClampNeg)) ((mJ ρ i) 14 0) ((mJ ρ i) 15 0) ((mJ ρ i) 16 0) ((mJ ρ i) 17 0) ((mJ ρ i) 18 0) ((mJ ρ i) 19 0) ((mJ ρ i) 20 0) ((mJ ρ i) 21 0) ((mJ ρ i) 22 0) ((mJ ρ i) 23 0)) := hD
          refine lv_aload_n hx hb d_mJoin_126 rfl (lv_at hl 3 rfl) ?_
          refine va_get (D := (dC, dI)) (ci := 4) (v := .ref dM13) (C := R_Mod) (T := T_Mod) (N := 24) hx hb hts in_Mod hown hK hP 0 rfl rfl 22 (by decide) (hts _ mw_362) (fun _ h9 => h9) rfl d_mJoin_127 ?_
          refine lv_iconst (v := 3) hx hb d_mJoin_130 (by decide) ?_
          refine lv_aload_n hx hb d_mJoin_131 rfl (lv_at hl 3 rfl) ?_
          refine va_get (D := (dC, dI)) (ci := 4) (v := .int ((mJ ρ i) 23 0)) (C := R_Mod) (T := T_Mod) (N := 24) hx hb hts in_Mod hown hK hP 0 rfl rfl 23 (by decide) (hts _ mw_363) (fun _ h9 => h9) rfl d_mJoin_132 ?_
          refine lv_imul hx hb d_mJoin_135 ?_
          refine lv_iconst (v := 2) hx hb d_mJoin_136 (by decide) ?_
          refine lv_iadd hx hb d_mJoin_137 ?_
          refine lv_iload hx hb d_mJoin_138 (lv_at hl 1 rfl) ?_
          refine lv_iconst (v := -1) hx hb d_mJoin_140 (by decide) ?_
          refine lv_icmp_ne (tgt := 148) hx hb d_mJoin_141 (by decide) (fun c_18 => ?_) (fun c_18 => ?_)
          rotate_left
          · exact absurd c_18 c_13
          refine lv_iconst (v := 0) hx hb d_mJoin_148 (by decide) ?_
          refine va_iast (n := 300) (f := upd (upd ((mJ ρ i) 13) (3 * ((mJ ρ i) 23 0)).toNatClampNeg (((mJ ρ i) 11) (nI i).toNatClampNeg)) ((3 * ((mJ ρ i) 23 0)) + 1).toNatClampNeg (((mJ ρ i) 12) (nI i).toNatClampNeg)) hx hb hK hP hD hS 14 0 rfl rfl (i := (3 * ((mJ ρ i) 23 0)) + 2) (x := 0) (by first | assumption | exact hx3 | exact hx4.resolve_left ‹_› | exact hx5 | exact (in_c3 hx2 (by omega)).1 | exact (in_c3 hx2 (by omega)).2.1 | exact (in_c3 hx2 (by omega)).2.2) d_mJoin_149 (fun H locs hP hD hS => ?_)
          have hP : va_P (dC, dI) vwCl (w_Mod cI cZ dM dM0 dM1 dM2 dM3 dM4 dM5 dM6 dM7 dM8 dM9 dM10 dM11 dM12 dM13 ((mJ ρ i) 0) ((mJ ρ i) 1) ((mJ ρ i) 2) ((mJ ρ i) 3) ((mJ ρ i) 4) ((mJ ρ i) 5) ((mJ ρ i) 6) ((mJ ρ i) 7) ((mJ ρ i) 8) ((mJ ρ i) 9) ((mJ ρ i) 10) ((mJ ρ i) 11) ((mJ ρ i) 12) (upd (upd (upd ((mJ ρ i) 13) (3 * ((mJ ρ i) 23 0)).toNatClampNeg (((mJ ρ i) 11) (nI i).toNatClampNeg)) ((3 * ((mJ ρ i) 23 0)) + 1).toNatClampNeg (((mJ ρ i) 12) (nI i).toNatClampNeg)) ((3 * ((mJ ρ i) 23 0)) + 2).toNatClampNeg 0) ((mJ ρ i) 14 0) ((mJ ρ i) 15 0) ((mJ ρ i) 16 0) ((mJ ρ i) 17 0) ((mJ ρ i) 18 0) ((mJ ρ i) 19 0) ((mJ ρ i) 20 0) ((mJ ρ i) 21 0) ((mJ ρ i) 22 0) ((mJ ρ i) 23 0)) H := hP
          have hD : va_D A (w_Mod cI cZ dM dM0 dM1 dM2 dM3 dM4 dM5 dM6 dM7 dM8 dM9 dM10 dM11 dM12 dM13 ((mJ ρ i) 0) ((mJ ρ i) 1) ((mJ ρ i) 2) ((mJ ρ i) 3) ((mJ ρ i) 4) ((mJ ρ i) 5) ((mJ ρ i) 6) ((mJ ρ i) 7) ((mJ ρ i) 8) ((mJ ρ i) 9) ((mJ ρ i) 10) ((mJ ρ i) 11) ((mJ ρ i) 12) (upd (upd (upd ((mJ ρ i) 13) (3 * ((mJ ρ i) 23 0)).toNatClampNeg (((mJ ρ i) 11) (nI i).toNatClampNeg)) ((3 * ((mJ ρ i) 23 0)) + 1).toNatClampNeg (((mJ ρ i) 12) (nI i).toNatClampNeg)) ((3 * ((mJ ρ i) 23 0)) + 2).toNatClampNeg 0) ((mJ ρ i) 14 0) ((mJ ρ i) 15 0) ((mJ ρ i) 16 0) ((mJ ρ i) 17 0) ((mJ ρ i) 18 0) ((mJ ρ i) 19 0) ((mJ ρ i) 20 0) ((mJ ρ i) 21 0) ((mJ ρ i) 22 0) ((mJ ρ i) 23 0)) := hD
          refine lv_aload_n hx hb d_mJoin_150 rfl (lv_at hl 3 rfl) ?_
          refine lv_dup hx hb d_mJoin_151 rfl ?_
          refine va_get (D := (dC, dI)) (ci := 4) (v := .int ((mJ ρ i) 23 0)) (C := R_Mod) (T := T_Mod) (N := 24) hx hb hts in_Mod hown hK hP 0 rfl rfl 23 (by decide) (hts _ mw_363) (fun _ h9 => h9) rfl d_mJoin_152 ?_
          refine lv_iconst (v := 1) hx hb d_mJoin_155 (by decide) ?_
          refine lv_iadd hx hb d_mJoin_156 ?_
          refine va_put (D := (dC, dI)) (ci := 4) (v := .int (((mJ ρ i) 23 0) + 1)) (ty := .int) (C := R_Mod) (T := T_Mod) (N := 24) hx hb hts in_Mod ty_Mod tyok_Mod nm_Mod hown hK hP hD hS 0 rfl rfl 23 (by decide) (hts _ mw_363) (fun _ h9 => h9) rfl (by decide +kernel) rfl rfl (Nat.le_of_ble_eq_true rfl) d_mJoin_157 (fun H locs hP hD hS => ?_)
          have hP : va_P (dC, dI) vwCl (w_Mod cI cZ dM dM0 dM1 dM2 dM3 dM4 dM5 dM6 dM7 dM8 dM9 dM10 dM11 dM12 dM13 ((mJ ρ i) 0) ((mJ ρ i) 1) ((mJ ρ i) 2) ((mJ ρ i) 3) ((mJ ρ i) 4) ((mJ ρ i) 5) ((mJ ρ i) 6) ((mJ ρ i) 7) ((mJ ρ i) 8) ((mJ ρ i) 9) ((mJ ρ i) 10) ((mJ ρ i) 11) ((mJ ρ i) 12) (upd (upd (upd ((mJ ρ i) 13) (3 * ((mJ ρ i) 23 0)).toNatClampNeg (((mJ ρ i) 11) (nI i).toNatClampNeg)) ((3 * ((mJ ρ i) 23 0)) + 1).toNatClampNeg (((mJ ρ i) 12) (nI i).toNatClampNeg)) ((3 * ((mJ ρ i) 23 0)) + 2).toNatClampNeg 0) ((mJ ρ i) 14 0) ((mJ ρ i) 15 0) ((mJ ρ i) 16 0) ((mJ ρ i) 17 0) ((mJ ρ i) 18 0) ((mJ ρ i) 19 0) ((mJ ρ i) 20 0) ((mJ ρ i) 21 0) ((mJ ρ i) 22 0) (((mJ ρ i) 23 0) + 1)) H := hP
          have hD : va_D A (w_Mod cI cZ dM dM0 dM1 dM2 dM3 dM4 dM5 dM6 dM7 dM8 dM9 dM10 dM11 dM12 dM13 ((mJ ρ i) 0) ((mJ ρ i) 1) ((mJ ρ i) 2) ((mJ ρ i) 3) ((mJ ρ i) 4) ((mJ ρ i) 5) ((mJ ρ i) 6) ((mJ ρ i) 7) ((mJ ρ i) 8) ((mJ ρ i) 9) ((mJ ρ i) 10) ((mJ ρ i) 11) ((mJ ρ i) 12) (upd (upd (upd ((mJ ρ i) 13) (3 * ((mJ ρ i) 23 0)).toNatClampNeg (((mJ ρ i) 11) (nI i).toNatClampNeg)) ((3 * ((mJ ρ i) 23 0)) + 1).toNatClampNeg (((mJ ρ i) 12) (nI i).toNatClampNeg)) ((3 * ((mJ ρ i) 23 0)) + 2).toNatClampNeg 0) ((mJ ρ i) 14 0) ((mJ ρ i) 15 0) ((mJ ρ i) 16 0) ((mJ ρ i) 17 0) ((mJ ρ i) 18 0) ((mJ ρ i) 19 0) ((mJ ρ i) 20 0) ((mJ ρ i) 21 0) ((mJ ρ i) 22 0) (((mJ ρ i) 23 0) + 1)) := hD
          refine lv_goto (tgt := 185) hx hb d_mJoin_160 (by decide) ?_
          refine lv_iinc (v := nI (i + 1)) (lv' := [(2, .int (nI (i + 1))), (5, .int 1), (4, .int (((mJ ρ i) 12) (nI i).toNatClampNeg)), (3, .int (((mJ ρ i) 11) (nI i).toNatClampNeg)), (0, .ref dM), (1, .int q1)]) hx hb d_mJoin_185 hl (k := 5) rfl (nI_1 _) (by decide) rfl (fun ls hl => ?_)
          refine lv_goto (tgt := 33) hx hb d_mJoin_188 (by decide) ?_
          have hF : F_mJst (mJ ρ i) i = (ss (ss (mJ ρ i) 13 (upd (upd (upd ((mJ ρ i) 13) (3 * ((mJ ρ i) 23 0)).toNatClampNeg (((mJ ρ i) 11) (nI i).toNatClampNeg)) ((3 * ((mJ ρ i) 23 0)) + 1).toNatClampNeg (((mJ ρ i) 12) (nI i).toNatClampNeg)) ((3 * ((mJ ρ i) 23 0)) + 2).toNatClampNeg 0)) 23 (fun _ => ((mJ ρ i) 23 0) + 1)) := (if_neg c_13).trans ((if_neg c_14).trans rfl)
          exact ih (i + 1) ls (by omega) (by omega) H locs (by show va_P (dC, dI) vwCl (w_Mod cI cZ dM dM0 dM1 dM2 dM3 dM4 dM5 dM6 dM7 dM8 dM9 dM10 dM11 dM12 dM13 ((F_mJst (mJ ρ i) i) 0) ((F_mJst (mJ ρ i) i) 1) ((F_mJst (mJ ρ i) i) 2) ((F_mJst (mJ ρ i) i) 3) ((F_mJst (mJ ρ i) i) 4) ((F_mJst (mJ ρ i) i) 5) ((F_mJst (mJ ρ i) i) 6) ((F_mJst (mJ ρ i) i) 7) ((F_mJst (mJ ρ i) i) 8) ((F_mJst (mJ ρ i) i) 9) ((F_mJst (mJ ρ i) i) 10) ((F_mJst (mJ ρ i) i) 11) ((F_mJst (mJ ρ i) i) 12) ((F_mJst (mJ ρ i) i) 13) ((F_mJst (mJ ρ i) i) 14 0) ((F_mJst (mJ ρ i) i) 15 0) ((F_mJst (mJ ρ i) i) 16 0) ((F_mJst (mJ ρ i) i) 17 0) ((F_mJst (mJ ρ i) i) 18 0) ((F_mJst (mJ ρ i) i) 19 0) ((F_mJst (mJ ρ i) i) 20 0) ((F_mJst (mJ ρ i) i) 21 0) ((F_mJst (mJ ρ i) i) 22 0) ((F_mJst (mJ ρ i) i) 23 0)) H; rw [hF]; exact hP) (by show va_D A (w_Mod cI cZ dM dM0 dM1 dM2 dM3 dM4 dM5 dM6 dM7 dM8 dM9 dM10 dM11 dM12 dM13 ((F_mJst (mJ ρ i) i) 0) ((F_mJst (mJ ρ i) i) 1) ((F_mJst (mJ ρ i) i) 2) ((F_mJst (mJ ρ i) i) 3) ((F_mJst (mJ ρ i) i) 4) ((F_mJst (mJ ρ i) i) 5) ((F_mJst (mJ ρ i) i) 6) ((F_mJst (mJ ρ i) i) 7) ((F_mJst (mJ ρ i) i) 8) ((F_mJst (mJ ρ i) i) 9) ((F_mJst (mJ ρ i) i) 10) ((F_mJst (mJ ρ i) i) 11) ((F_mJst (mJ ρ i) i) 12) ((F_mJst (mJ ρ i) i) 13) ((F_mJst (mJ ρ i) i) 14 0) ((F_mJst (mJ ρ i) i) 15 0) ((F_mJst (mJ ρ i) i) 16 0) ((F_mJst (mJ ρ i) i) 17 0) ((F_mJst (mJ ρ i) i) 18 0) ((F_mJst (mJ ρ i) i) 19 0) ((F_mJst (mJ ρ i) i) 20 0) ((F_mJst (mJ ρ i) i) 21 0) ((F_mJst (mJ ρ i) i) 22 0) ((F_mJst (mJ ρ i) i) 23 0)); rw [hF]; exact hD) hS (lv_sub hl [4, 5, 0] rfl)
      · refine lv_aload_n hx hb d_mJoin_59 rfl (lv_at hl 2 rfl) ?_
        refine va_get (D := (dC, dI)) (ci := 4) (v := .ref dM5) (C := R_Mod) (T := T_Mod) (N := 24) hx hb hts in_Mod hown hK hP 0 rfl rfl 7 (by decide) (hts _ mw_347) (fun _ h9 => h9) rfl d_mJoin_60 ?_
        refine lv_iload_n hx hb d_mJoin_63 rfl (lv_at hl 1 rfl) ?_
        refine va_iald (n := 60) (f := (mJ ρ i) 5) hx hb hK hP 6 0 rfl rfl (i := ((mJ ρ i) 11) (nI i).toNatClampNeg) (by first | assumption | exact hx3 | exact hx4.resolve_left ‹_› | exact hx5 | exact (in_c3 hx2 (by omega)).1 | exact (in_c3 hx2 (by omega)).2.1 | exact (in_c3 hx2 (by omega)).2.2) d_mJoin_64 ?_
        refine lv_iconst (v := -1) hx hb d_mJoin_65 (by decide) ?_
        refine lv_icmp_ne (tgt := 73) hx hb d_mJoin_66 (by decide) (fun c_19 => ?_) (fun c_19 => ?_)
        · refine lv_iconst (v := 0) hx hb d_mJoin_73 (by decide) ?_
          refine lv_goto (tgt := 92) hx hb d_mJoin_74 (by decide) ?_
          refine lv_istore (lv' := [(5, .int 0), (4, .int (((mJ ρ i) 12) (nI i).toNatClampNeg)), (3, .int (((mJ ρ i) 11) (nI i).toNatClampNeg)), (0, .ref dM), (1, .int q1), (2, .int (nI i))]) hx hb d_mJoin_92 hl (by decide) rfl (fun ls hl => ?_)
          refine lv_iload hx hb d_mJoin_94 (lv_at hl 0 rfl) ?_
          refine lv_if_eq (tgt := 163) hx hb d_mJoin_96 (by decide) (fun c_20 => ?_) (fun c_20 => ?_)
          rotate_left
          · exact absurd (by decide) c_20
          refine lv_iload hx hb d_mJoin_163 (lv_at hl 1 rfl) ?_
          refine lv_iconst (v := -1) hx hb d_mJoin_165 (by decide) ?_
          refine lv_icmp_ne (tgt := 178) hx hb d_mJoin_166 (by decide) (fun c_21 => ?_) (fun c_21 => ?_)
          · exact absurd c_13 c_21
          refine lv_aload_n hx hb d_mJoin_169 rfl (lv_at hl 3 rfl) ?_
          refine lv_iload_n hx hb d_mJoin_170 rfl (lv_at hl 2 rfl) ?_
          refine xc_VWi (As := [.int (((mJ ρ i) 11) (nI i).toNatClampNeg)]) (rest := []) (ci := 4) (wr := []) ⟨hx, hb, hml, hown, hts⟩ hT hK hP hD hS hA (c_mCome l dC dI cI cZ dM dM0 dM1 dM2 dM3 dM4 dM5 dM6 dM7 dM8 dM9 dM10 dM11 dM12 dM13 H.size (mJ ρ i) (((mJ ρ i) 11) (nI i).toNatClampNeg) (by first | assumption | exact hx3 | exact hx4.resolve_left ‹_› | exact hx5 | exact (in_c3 hx2 (by omega)).1 | exact (in_c3 hx2 (by omega)).2.1 | exact (in_c3 hx2 (by omega)).2.2)) [0, 1, 2, 3, 4, 5, 6, 7, 8, 9, 10, 11, 12, 13, 14] [] rfl (by decide) rfl (by decide) (by decide) (xw_V 1 hts mw_478 mw_19 mw_475 mw_477 mw_10 rfl rfl (by decide +kernel) ⟨Nat.le_of_ble_eq_true rfl, Nat.le_of_ble_eq_true rfl⟩) rfl rfl rfl hl.1 rfl (Nat.le_of_ble_eq_true rfl) d_mJoin_171 ⟨Nat.zero_le _, Nat.zero_le _⟩ (fun r u H locs hw hP hD hS => ?_)
          obtain ⟨rfl, hw⟩ := hw
          obtain ⟨v9_5, v9_7⟩ := u
          have hv9_5 : v9_5 = ((F_mCome (mJ ρ i) (((mJ ρ i) 11) (nI i).toNatClampNeg)).2) 5 := congrArg (fun u : (Nat → Int32) × (Nat → Int32) => u.1) hw
          have hv9_7 : v9_7 = ((F_mCome (mJ ρ i) (((mJ ρ i) 11) (nI i).toNatClampNeg)).2) 7 := congrArg (fun u : (Nat → Int32) × (Nat → Int32) => u.2) hw
          have hP : va_P (dC, dI) vwCl (w_Mod cI cZ dM dM0 dM1 dM2 dM3 dM4 dM5 dM6 dM7 dM8 dM9 dM10 dM11 dM12 dM13 ((mJ ρ i) 0) ((mJ ρ i) 1) ((mJ ρ i) 2) ((mJ ρ i) 3) ((mJ ρ i) 4) v9_5 ((mJ ρ i) 6) v9_7 ((mJ ρ i) 8) ((mJ ρ i) 9) ((mJ ρ i) 10) ((mJ ρ i) 11) ((mJ ρ i) 12) ((mJ ρ i) 13) ((mJ ρ i) 14 0) ((mJ ρ i) 15 0) ((mJ ρ i) 16 0) ((mJ ρ i) 17 0) ((mJ ρ i) 18 0) ((mJ ρ i) 19 0) ((mJ ρ i) 20 0) ((mJ ρ i) 21 0) ((mJ ρ i) 22 0) ((mJ ρ i) 23 0)) H := hP.sub [0, 1, 2, 3, 4, 5, 6, 7, 8, 9, 10, 11, 12, 13, 14] rfl
          have hD : va_D A (w_Mod cI cZ dM dM0 dM1 dM2 dM3 dM4 dM5 dM6 dM7 dM8 dM9 dM10 dM11 dM12 dM13 ((mJ ρ i) 0) ((mJ ρ i) 1) ((mJ ρ i) 2) ((mJ ρ i) 3) ((mJ ρ i) 4) v9_5 ((mJ ρ i) 6) v9_7 ((mJ ρ i) 8) ((mJ ρ i) 9) ((mJ ρ i) 10) ((mJ ρ i) 11) ((mJ ρ i) 12) ((mJ ρ i) 13) ((mJ ρ i) 14 0) ((mJ ρ i) 15 0) ((mJ ρ i) 16 0) ((mJ ρ i) 17 0) ((mJ ρ i) 18 0) ((mJ ρ i) 19 0) ((mJ ρ i) 20 0) ((mJ ρ i) 21 0) ((mJ ρ i) 22 0) ((mJ ρ i) 23 0)) := hD.sub [0, 1, 2, 3, 4, 5, 6, 7, 8, 9, 10, 11, 12, 13, 14] (by decide) rfl
          refine lv_pop hx hb d_mJoin_174 rfl ?_
          refine lv_goto (tgt := 185) hx hb d_mJoin_175 (by decide) ?_
          refine lv_iinc (v := nI (i + 1)) (lv' := [(2, .int (nI (i + 1))), (5, .int 0), (4, .int (((mJ ρ i) 12) (nI i).toNatClampNeg)), (3, .int (((mJ ρ i) 11) (nI i).toNatClampNeg)), (0, .ref dM), (1, .int q1)]) hx hb d_mJoin_185 hl (k := 5) rfl (nI_1 _) (by decide) rfl (fun ls hl => ?_)
          refine lv_goto (tgt := 33) hx hb d_mJoin_188 (by decide) ?_
          have hF : F_mJst (mJ ρ i) i = (ss (ss (mJ ρ i) 5 v9_5) 7 v9_7) := by subst hv9_5 hv9_7; exact ((if_pos c_13).trans ((if_neg c_19).trans rfl))
          exact ih (i + 1) ls (by omega) (by omega) H locs (by show va_P (dC, dI) vwCl (w_Mod cI cZ dM dM0 dM1 dM2 dM3 dM4 dM5 dM6 dM7 dM8 dM9 dM10 dM11 dM12 dM13 ((F_mJst (mJ ρ i) i) 0) ((F_mJst (mJ ρ i) i) 1) ((F_mJst (mJ ρ i) i) 2) ((F_mJst (mJ ρ i) i) 3) ((F_mJst (mJ ρ i) i) 4) ((F_mJst (mJ ρ i) i) 5) ((F_mJst (mJ ρ i) i) 6) ((F_mJst (mJ ρ i) i) 7) ((F_mJst (mJ ρ i) i) 8) ((F_mJst (mJ ρ i) i) 9) ((F_mJst (mJ ρ i) i) 10) ((F_mJst (mJ ρ i) i) 11) ((F_mJst (mJ ρ i) i) 12) ((F_mJst (mJ ρ i) i) 13) ((F_mJst (mJ ρ i) i) 14 0) ((F_mJst (mJ ρ i) i) 15 0) ((F_mJst (mJ ρ i) i) 16 0) ((F_mJst (mJ ρ i) i) 17 0) ((F_mJst (mJ ρ i) i) 18 0) ((F_mJst (mJ ρ i) i) 19 0) ((F_mJst (mJ ρ i) i) 20 0) ((F_mJst (mJ ρ i) i) 21 0) ((F_mJst (mJ ρ i) i) 22 0) ((F_mJst (mJ ρ i) i) 23 0)) H; rw [hF]; exact hP) (by show va_D A (w_Mod cI cZ dM dM0 dM1 dM2 dM3 dM4 dM5 dM6 dM7 dM8 dM9 dM10 dM11 dM12 dM13 ((F_mJst (mJ ρ i) i) 0) ((F_mJst (mJ ρ i) i) 1) ((F_mJst (mJ ρ i) i) 2) ((F_mJst (mJ ρ i) i) 3) ((F_mJst (mJ ρ i) i) 4) ((F_mJst (mJ ρ i) i) 5) ((F_mJst (mJ ρ i) i) 6) ((F_mJst (mJ ρ i) i) 7) ((F_mJst (mJ ρ i) i) 8) ((F_mJst (mJ ρ i) i) 9) ((F_mJst (mJ ρ i) i) 10) ((F_mJst (mJ ρ i) i) 11) ((F_mJst (mJ ρ i) i) 12) ((F_mJst (mJ ρ i) i) 13) ((F_mJst (mJ ρ i) i) 14 0) ((F_mJst (mJ ρ i) i) 15 0) ((F_mJst (mJ ρ i) i) 16 0) ((F_mJst (mJ ρ i) i) 17 0) ((F_mJst (mJ ρ i) i) 18 0) ((F_mJst (mJ ρ i) i) 19 0) ((F_mJst (mJ ρ i) i) 20 0) ((F_mJst (mJ ρ i) i) 21 0) ((F_mJst (mJ ρ i) i) 22 0) ((F_mJst (mJ ρ i) i) 23 0)); rw [hF]; exact hD) hS (lv_sub hl [4, 5, 0] rfl)
        · refine lv_iconst (v := 1) hx hb d_mJoin_69 (by decide) ?_
          refine lv_goto (tgt := 92) hx hb d_mJoin_70 (by decide) ?_
          refine lv_istore (lv' := [(5, .int 1), (4, .int (((mJ ρ i) 12) (nI i).toNatClampNeg)), (3, .int (((mJ ρ i) 11) (nI i).toNatClampNeg)), (0, .ref dM), (1, .int q1), (2, .int (nI i))]) hx hb d_mJoin_92 hl (by decide) rfl (fun ls hl => ?_)
          refine lv_iload hx hb d_mJoin_94 (lv_at hl 0 rfl) ?_
          refine lv_if_eq (tgt := 163) hx hb d_mJoin_96 (by decide) (fun c_22 => ?_) (fun c_22 => ?_)
          · exact absurd c_22 (by decide)
          refine lv_aload_n hx hb d_mJoin_99 rfl (lv_at hl 3 rfl) ?_
          refine va_get (D := (dC, dI)) (ci := 4) (v := .ref dM13) (C := R_Mod) (T := T_Mod) (N := 24) hx hb hts in_Mod hown hK hP 0 rfl rfl 22 (by decide) (hts _ mw_362) (fun _ h9 => h9) rfl d_mJoin_100 ?_
          refine lv_iconst (v := 3) hx hb d_mJoin_103 (by decide) ?_
          refine lv_aload_n hx hb d_mJoin_104 rfl (lv_at hl 3 rfl) ?_
          refine va_get (D := (dC, dI)) (ci := 4) (v := .int ((mJ ρ i) 23 0)) (C := R_Mod) (T := T_Mod) (N := 24) hx hb hts in_Mod hown hK hP 0 rfl rfl 23 (by decide) (hts _ mw_363) (fun _ h9 => h9) rfl d_mJoin_105 ?_
          refine lv_imul hx hb d_mJoin_108 ?_
          refine lv_iload_n hx hb d_mJoin_109 rfl (lv_at hl 2 rfl) ?_
          refine va_iast (n := 300) (f := (mJ ρ i) 13) hx hb hK hP hD hS 14 0 rfl rfl (i := 3 * ((mJ ρ i) 23 0)) (x := ((mJ ρ i) 11) (nI i).toNatClampNeg) (by first | assumption | exact hx3 | exact hx4.resolve_left ‹_› | exact hx5 | exact (in_c3 hx2 (by omega)).1 | exact (in_c3 hx2 (by omega)).2.1 | exact (in_c3 hx2 (by omega)).2.2) d_mJoin_110 (fun H locs hP hD hS => ?_)
          have hP : va_P (dC, dI) vwCl (w_Mod cI cZ dM dM0 dM1 dM2 dM3 dM4 dM5 dM6 dM7 dM8 dM9 dM10 dM11 dM12 dM13 ((mJ ρ i) 0) ((mJ ρ i) 1) ((mJ ρ i) 2) ((mJ ρ i) 3) ((mJ ρ i) 4) ((mJ ρ i) 5) ((mJ ρ i) 6) ((mJ ρ i) 7) ((mJ ρ i) 8) ((mJ ρ i) 9) ((mJ ρ i) 10) ((mJ ρ i) 11) ((mJ ρ i) 12) (upd ((mJ ρ i) 13) (3 * ((mJ ρ i) 23 0)).toNatClampNeg (((mJ ρ i) 11) (nI i).toNatClampNeg)) ((mJ ρ i) 14 0) ((mJ ρ i) 15 0) ((mJ ρ i) 16 0) ((mJ ρ i) 17 0) ((mJ ρ i) 18 0) ((mJ ρ i) 19 0) ((mJ ρ i) 20 0) ((mJ ρ i) 21 0) ((mJ ρ i) 22 0) ((mJ ρ i) 23 0)) H := hP
          have hD : va_D A (w_Mod cI cZ dM dM0 dM1 dM2 dM3 dM4 dM5 dM6 dM7 dM8 dM9 dM10 dM11 dM12 dM13 ((mJ ρ i) 0) ((mJ ρ i) 1) ((mJ ρ i) 2) ((mJ ρ i) 3) ((mJ ρ i) 4) ((mJ ρ i) 5) ((mJ ρ i) 6) ((mJ ρ i) 7) ((mJ ρ i) 8) ((mJ ρ i) 9) ((mJ ρ i) 10) ((mJ ρ i) 11) ((mJ ρ i) 12) (upd ((mJ ρ i) 13) (3 * ((mJ ρ i) 23 0)).toNatClampNeg (((mJ ρ i) 11) (nI i).toNatClampNeg)) ((mJ ρ i) 14 0) ((mJ ρ i) 15 0) ((mJ ρ i) 16 0) ((mJ ρ i) 17 0) ((mJ ρ i) 18 0) ((mJ ρ i) 19 0) ((mJ ρ i) 20 0) ((mJ ρ i) 21 0) ((mJ ρ i) 22 0) ((mJ ρ i) 23 0)) := hD
          refine lv_aload_n hx hb d_mJoin_111 rfl (lv_at hl 3 rfl) ?_
          refine va_get (D := (dC, dI)) (ci := 4) (v := .ref dM13) (C := R_Mod) (T := T_Mod) (N := 24) hx hb hts in_Mod hown hK hP 0 rfl rfl 22 (by decide) (hts _ mw_362) (fun _ h9 => h9) rfl d_mJoin_112 ?_
          refine lv_iconst (v := 3) hx hb d_mJoin_115 (by decide) ?_
          refine lv_aload_n hx hb d_mJoin_116 rfl (lv_at hl 3 rfl) ?_
          refine va_get (D := (dC, dI)) (ci := 4) (v := .int ((mJ ρ i) 23 0)) (C := R_Mod) (T := T_Mod) (N := 24) hx hb hts in_Mod hown hK hP 0 rfl rfl 23 (by decide) (hts _ mw_363) (fun _ h9 => h9) rfl d_mJoin_117 ?_
          refine lv_imul hx hb d_mJoin_120 ?_
          refine lv_iconst (v := 1) hx hb d_mJoin_121 (by decide) ?_
          refine lv_iadd hx hb d_mJoin_122 ?_
          refine lv_iload hx hb d_mJoin_123 (lv_at hl 1 rfl) ?_
          refine va_iast (n := 300) (f := upd ((mJ ρ i) 13) (3 * ((mJ ρ i) 23 0)).toNatClampNeg (((mJ ρ i) 11) (nI i).toNatClampNeg)) hx hb hK hP hD hS 14 0 rfl rfl (i := (3 * ((mJ ρ i) 23 0)) + 1) (x := ((mJ ρ i) 12) (nI i).toNatClampNeg) (by first | assumption | exact hx3 | exact hx4.resolve_left ‹_› | exact hx5 | exact (in_c3 hx2 (by omega)).1 | exact (in_c3 hx2 (by omega)).2.1 | exact (in_c3 hx2 (by omega)).2.2) d_mJoin_125 (fun H locs hP hD hS => ?_)
          have hP : va_P (dC, dI) vwCl (w_Mod cI cZ dM dM0 dM1 dM2 dM3 dM4 dM5 dM6 dM7 dM8 dM9 dM10 dM11 dM12 dM13 ((mJ ρ i) 0) ((mJ ρ i) 1) ((mJ ρ i) 2) ((mJ ρ i) 3) ((mJ ρ i) 4) ((mJ ρ i) 5) ((mJ ρ i) 6) ((mJ ρ i) 7) ((mJ ρ i) 8) ((mJ ρ i) 9) ((mJ ρ i) 10) ((mJ ρ i) 11) ((mJ ρ i) 12) (upd (upd ((mJ ρ i) 13) (3 * ((mJ ρ i) 23 0)).toNatClampNeg (((mJ ρ i) 11) (nI i).toNatClampNeg)) ((3 * ((mJ ρ i) 23 0)) + 1).toNatClampNeg (((mJ ρ i) 12) (nI i).toNatClampNeg)) ((mJ ρ i) 14 0) ((mJ ρ i) 15 0) ((mJ ρ i) 16 0) ((mJ ρ i) 17 0) ((mJ ρ i) 18 0) ((mJ ρ i) 19 0) ((mJ ρ i) 20 0) ((mJ ρ i) 21 0) ((mJ ρ i) 22 0) ((mJ ρ i) 23 0)) H := hP
          have hD : va_D A (w_Mod cI cZ dM dM0 dM1 dM2 dM3 dM4 dM5 dM6 dM7 dM8 dM9 dM10 dM11 dM12 dM13 ((mJ ρ i) 0) ((mJ ρ i) 1) ((mJ ρ i) 2) ((mJ ρ i) 3) ((mJ ρ i) 4) ((mJ ρ i) 5) ((mJ ρ i) 6) ((mJ ρ i) 7) ((mJ ρ i) 8) ((mJ ρ i) 9) ((mJ ρ i) 10) ((mJ ρ i) 11) ((mJ ρ i) 12) (upd (upd ((mJ ρ i) 13) (3 * ((mJ ρ i) 23 0)).toNatClampNeg (((mJ ρ i) 11) (nI i).toNatClampNeg)) ((3 * ((mJ ρ i) 23 0)) + 1).toNatClampNeg (((mJ ρ i) 12) (nI i).toNatClampNeg)) ((mJ ρ i) 14 0) ((mJ ρ i) 15 0) ((mJ ρ i) 16 0) ((mJ ρ i) 17 0) ((mJ ρ i) 18 0) ((mJ ρ i) 19 0) ((mJ ρ i) 20 0) ((mJ ρ i) 21 0) ((mJ ρ i) 22 0) ((mJ ρ i) 23 0)) := hD
          refine lv_aload_n hx hb d_mJoin_126 rfl (lv_at hl 3 rfl) ?_
          refine va_get (D := (dC, dI)) (ci := 4) (v := .ref dM13) (C := R_Mod) (T := T_Mod) (N := 24) hx hb hts in_Mod hown hK hP 0 rfl rfl 22 (by decide) (hts _ mw_362) (fun _ h9 => h9) rfl d_mJoin_127 ?_
          refine lv_iconst (v := 3) hx hb d_mJoin_130 (by decide) ?_
          refine lv_aload_n hx hb d_mJoin_131 rfl (lv_at hl 3 rfl) ?_
          refine va_get (D := (dC, dI)) (ci := 4) (v := .int ((mJ ρ i) 23 0)) (C := R_Mod) (T := T_Mod) (N := 24) hx hb hts in_Mod hown hK hP 0 rfl rfl 23 (by decide) (hts _ mw_363) (fun _ h9 => h9) rfl d_mJoin_132 ?_
          refine lv_imul hx hb d_mJoin_135 ?_
          refine lv_iconst (v := 2) hx hb d_mJoin_136 (by decide) ?_
          refine lv_iadd hx hb d_mJoin_137 ?_
          refine lv_iload hx hb d_mJoin_138 (lv_at hl 1 rfl) ?_
          refine lv_iconst (v := -1) hx hb d_mJoin_140 (by decide) ?_
          refine lv_icmp_ne (tgt := 148) hx hb d_mJoin_141 (by decide) (fun c_23 => ?_) (fun c_23 => ?_)
          · exact absurd c_13 c_23
          refine lv_iconst (v := 1) hx hb d_mJoin_144 (by decide) ?_
          refine lv_goto (tgt := 149) hx hb d_mJoin_145 (by decide) ?_
          refine va_iast (n := 300) (f := upd (upd ((mJ ρ i) 13) (3 * ((mJ ρ i) 23 0)).toNatClampNeg (((mJ ρ i) 11) (nI i).toNatClampNeg)) ((3 * ((mJ ρ i) 23 0)) + 1).toNatClampNeg (((mJ ρ i) 12) (nI i).toNatClampNeg)) hx hb hK hP hD hS 14 0 rfl rfl (i := (3 * ((mJ ρ i) 23 0)) + 2) (x := 1) (by first | assumption | exact hx3 | exact hx4.resolve_left ‹_› | exact hx5 | exact (in_c3 hx2 (by omega)).1 | exact (in_c3 hx2 (by omega)).2.1 | exact (in_c3 hx2 (by omega)).2.2) d_mJoin_149 (fun H locs hP hD hS => ?_)
          have hP : va_P (dC, dI) vwCl (w_Mod cI cZ dM dM0 dM1 dM2 dM3 dM4 dM5 dM6 dM7 dM8 dM9 dM10 dM11 dM12 dM13 ((mJ ρ i) 0) ((mJ ρ i) 1) ((mJ ρ i) 2) ((mJ ρ i) 3) ((mJ ρ i) 4) ((mJ ρ i) 5) ((mJ ρ i) 6) ((mJ ρ i) 7) ((mJ ρ i) 8) ((mJ ρ i) 9) ((mJ ρ i) 10) ((mJ ρ i) 11) ((mJ ρ i) 12) (upd (upd (upd ((mJ ρ i) 13) (3 * ((mJ ρ i) 23 0)).toNatClampNeg (((mJ ρ i) 11) (nI i).toNatClampNeg)) ((3 * ((mJ ρ i) 23 0)) + 1).toNatClampNeg (((mJ ρ i) 12) (nI i).toNatClampNeg)) ((3 * ((mJ ρ i) 23 0)) + 2).toNatClampNeg 1) ((mJ ρ i) 14 0) ((mJ ρ i) 15 0) ((mJ ρ i) 16 0) ((mJ ρ i) 17 0) ((mJ ρ i) 18 0) ((mJ ρ i) 19 0) ((mJ ρ i) 20 0) ((mJ ρ i) 21 0) ((mJ ρ i) 22 0) ((mJ ρ i) 23 0)) H := hP
          have hD : va_D A (w_Mod cI cZ dM dM0 dM1 dM2 dM3 dM4 dM5 dM6 dM7 dM8 dM9 dM10 dM11 dM12 dM13 ((mJ ρ i) 0) ((mJ ρ i) 1) ((mJ ρ i) 2) ((mJ ρ i) 3) ((mJ ρ i) 4) ((mJ ρ i) 5) ((mJ ρ i) 6) ((mJ ρ i) 7) ((mJ ρ i) 8) ((mJ ρ i) 9) ((mJ ρ i) 10) ((mJ ρ i) 11) ((mJ ρ i) 12) (upd (upd (upd ((mJ ρ i) 13) (3 * ((mJ ρ i) 23 0)).toNatClampNeg (((mJ ρ i) 11) (nI i).toNatClampNeg)) ((3 * ((mJ ρ i) 23 0)) + 1).toNatClampNeg (((mJ ρ i) 12) (nI i).toNatClampNeg)) ((3 * ((mJ ρ i) 23 0)) + 2).toNatClampNeg 1) ((mJ ρ i) 14 0) ((mJ ρ i) 15 0) ((mJ ρ i) 16 0) ((mJ ρ i) 17 0) ((mJ ρ i) 18 0) ((mJ ρ i) 19 0) ((mJ ρ i) 20 0) ((mJ ρ i) 21 0) ((mJ ρ i) 22 0) ((mJ ρ i) 23 0)) := hD
          refine lv_aload_n hx hb d_mJoin_150 rfl (lv_at hl 3 rfl) ?_
          refine lv_dup hx hb d_mJoin_151 rfl ?_
          refine va_get (D := (dC, dI)) (ci := 4) (v := .int ((mJ ρ i) 23 0)) (C := R_Mod) (T := T_Mod) (N := 24) hx hb hts in_Mod hown hK hP 0 rfl rfl 23 (by decide) (hts _ mw_363) (fun _ h9 => h9) rfl d_mJoin_152 ?_
          refine lv_iconst (v := 1) hx hb d_mJoin_155 (by decide) ?_
          refine lv_iadd hx hb d_mJoin_156 ?_
          refine va_put (D := (dC, dI)) (ci := 4) (v := .int (((mJ ρ i) 23 0) + 1)) (ty := .int) (C := R_Mod) (T := T_Mod) (N := 24) hx hb hts in_Mod ty_Mod tyok_Mod nm_Mod hown hK hP hD hS 0 rfl rfl 23 (by decide) (hts _ mw_363) (fun _ h9 => h9) rfl (by decide +kernel) rfl rfl (Nat.le_of_ble_eq_true rfl) d_mJoin_157 (fun H locs hP hD hS => ?_)
          have hP : va_P (dC, dI) vwCl (w_Mod cI cZ dM dM0 dM1 dM2 dM3 dM4 dM5 dM6 dM7 dM8 dM9 dM10 dM11 dM12 dM13 ((mJ ρ i) 0) ((mJ ρ i) 1) ((mJ ρ i) 2) ((mJ ρ i) 3) ((mJ ρ i) 4) ((mJ ρ i) 5) ((mJ ρ i) 6) ((mJ ρ i) 7) ((mJ ρ i) 8) ((mJ ρ i) 9) ((mJ ρ i) 10) ((mJ ρ i) 11) ((mJ ρ i) 12) (upd (upd (upd ((mJ ρ i) 13) (3 * ((mJ ρ i) 23 0)).toNatClampNeg (((mJ ρ i) 11) (nI i).toNatClampNeg)) ((3 * ((mJ ρ i) 23 0)) + 1).toNatClampNeg (((mJ ρ i) 12) (nI i).toNatClampNeg)) ((3 * ((mJ ρ i) 23 0)) + 2).toNatClampNeg 1) ((mJ ρ i) 14 0) ((mJ ρ i) 15 0) ((mJ ρ i) 16 0) ((mJ ρ i) 17 0) ((mJ ρ i) 18 0) ((mJ ρ i) 19 0) ((mJ ρ i) 20 0) ((mJ ρ i) 21 0) ((mJ ρ i) 22 0) (((mJ ρ i) 23 0) + 1)) H := hP
          have hD : va_D A (w_Mod cI cZ dM dM0 dM1 dM2 dM3 dM4 dM5 dM6 dM7 dM8 dM9 dM10 dM11 dM12 dM13 ((mJ ρ i) 0) ((mJ ρ i) 1) ((mJ ρ i) 2) ((mJ ρ i) 3) ((mJ ρ i) 4) ((mJ ρ i) 5) ((mJ ρ i) 6) ((mJ ρ i) 7) ((mJ ρ i) 8) ((mJ ρ i) 9) ((mJ ρ i) 10) ((mJ ρ i) 11) ((mJ ρ i) 12) (upd (upd (upd ((mJ ρ i) 13) (3 * ((mJ ρ i) 23 0)).toNatClampNeg (((mJ ρ i) 11) (nI i).toNatClampNeg)) ((3 * ((mJ ρ i) 23 0)) + 1).toNatClampNeg (((mJ ρ i) 12) (nI i).toNatClampNeg)) ((3 * ((mJ ρ i) 23 0)) + 2).toNatClampNeg 1) ((mJ ρ i) 14 0) ((mJ ρ i) 15 0) ((mJ ρ i) 16 0) ((mJ ρ i) 17 0) ((mJ ρ i) 18 0) ((mJ ρ i) 19 0) ((mJ ρ i) 20 0) ((mJ ρ i) 21 0) ((mJ ρ i) 22 0) (((mJ ρ i) 23 0) + 1)) := hD
          refine lv_goto (tgt := 185) hx hb d_mJoin_160 (by decide) ?_
          refine lv_iinc (v := nI (i + 1)) (lv' := [(2, .int (nI (i + 1))), (5, .int 1), (4, .int (((mJ ρ i) 12) (nI i).toNatClampNeg)), (3, .int (((mJ ρ i) 11) (nI i).toNatClampNeg)), (0, .ref dM), (1, .int q1)]) hx hb d_mJoin_185 hl (k := 5) rfl (nI_1 _) (by decide) rfl (fun ls hl => ?_)
          refine lv_goto (tgt := 33) hx hb d_mJoin_188 (by decide) ?_
          have hF : F_mJst (mJ ρ i) i = (ss (ss (mJ ρ i) 13 (upd (upd (upd ((mJ ρ i) 13) (3 * ((mJ ρ i) 23 0)).toNatClampNeg (((mJ ρ i) 11) (nI i).toNatClampNeg)) ((3 * ((mJ ρ i) 23 0)) + 1).toNatClampNeg (((mJ ρ i) 12) (nI i).toNatClampNeg)) ((3 * ((mJ ρ i) 23 0)) + 2).toNatClampNeg 1)) 23 (fun _ => ((mJ ρ i) 23 0) + 1)) := (if_pos c_13).trans ((if_pos c_19).trans rfl)
          exact ih (i + 1) ls (by omega) (by omega) H locs (by show va_P (dC, dI) vwCl (w_Mod cI cZ dM dM0 dM1 dM2 dM3 dM4 dM5 dM6 dM7 dM8 dM9 dM10 dM11 dM12 dM13 ((F_mJst (mJ ρ i) i) 0) ((F_mJst (mJ ρ i) i) 1) ((F_mJst (mJ ρ i) i) 2) ((F_mJst (mJ ρ i) i) 3) ((F_mJst (mJ ρ i) i) 4) ((F_mJst (mJ ρ i) i) 5) ((F_mJst (mJ ρ i) i) 6) ((F_mJst (mJ ρ i) i) 7) ((F_mJst (mJ ρ i) i) 8) ((F_mJst (mJ ρ i) i) 9) ((F_mJst (mJ ρ i) i) 10) ((F_mJst (mJ ρ i) i) 11) ((F_mJst (mJ ρ i) i) 12) ((F_mJst (mJ ρ i) i) 13) ((F_mJst (mJ ρ i) i) 14 0) ((F_mJst (mJ ρ i) i) 15 0) ((F_mJst (mJ ρ i) i) 16 0) ((F_mJst (mJ ρ i) i) 17 0) ((F_mJst (mJ ρ i) i) 18 0) ((F_mJst (mJ ρ i) i) 19 0) ((F_mJst (mJ ρ i) i) 20 0) ((F_mJst (mJ ρ i) i) 21 0) ((F_mJst (mJ ρ i) i) 22 0) ((F_mJst (mJ ρ i) i) 23 0)) H; rw [hF]; exact hP) (by show va_D A (w_Mod cI cZ dM dM0 dM1 dM2 dM3 dM4 dM5 dM6 dM7 dM8 dM9 dM10 dM11 dM12 dM13 ((F_mJst (mJ ρ i) i) 0) ((F_mJst (mJ ρ i) i) 1) ((F_mJst (mJ ρ i) i) 2) ((F_mJst (mJ ρ i) i) 3) ((F_mJst (mJ ρ i) i) 4) ((F_mJst (mJ ρ i) i) 5) ((F_mJst (mJ ρ i) i) 6) ((F_mJst (mJ ρ i) i) 7) ((F_mJst (mJ ρ i) i) 8) ((F_mJst (mJ ρ i) i) 9) ((F_mJst (mJ ρ i) i) 10) ((F_mJst (mJ ρ i) i) 11) ((F_mJst (mJ ρ i) i) 12) ((F_mJst (mJ ρ i) i) 13) ((F_mJst (mJ ρ i) i) 14 0) ((F_mJst (mJ ρ i) i) 15 0) ((F_mJst (mJ ρ i) i) 16 0) ((F_mJst (mJ ρ i) i) 17 0) ((F_mJst (mJ ρ i) i) 18 0) ((F_mJst (mJ ρ i) i) 19 0) ((F_mJst (mJ ρ i) i) 20 0) ((F_mJst (mJ ρ i) i) 21 0) ((F_mJst (mJ ρ i) i) 22 0) ((F_mJst (mJ ρ i) i) 23 0)); rw [hF]; exact hD) hS (lv_sub hl [4, 5, 0] rfl)
