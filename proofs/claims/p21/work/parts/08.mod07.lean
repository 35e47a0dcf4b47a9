set_option maxHeartbeats 4000000 in
set_option maxRecDepth 100000 in
theorem lp_mj2 {p : Program} {l : Launch} {e : Env} {s : State} {m : MethodId} {args : Array Value} {below : List Frame} {meth : Method} {c : Code} {Q : State → Prop} {A : Nat → Prop} {H0 : Heap} {dC : Nat → ClassId} {dI : Nat → Nat → Nat} {cI cZ : ClassId} {dM dM0 dM1 dM2 dM3 dM4 dM5 dM6 dM7 dM8 dM9 dM10 dM11 dM12 dM13 : Nat} {ρ : SS} {q1 : Int32} {b kc : Nat} (hx : p.tables.exec = Jvm.exec) (hb : c.code = prog_6_method_23_code) (hml : c.maxLocals = 6) (hT : TBL s) (hts : ∀ w ∈ lw_ok, w.before args s = true) (hown : s.vm.findClass R_Mod = some m.cls) (hK : va_K (dC, dI) vwCl (tyC cI cZ) s) (hA : ∀ q : Nat, H0.size ≤ q → A q) (hkc : kc ≤ 100) (eb : q1 = nI b) (ek : ρ 22 0 = nI kc) (hbk : b ≤ kc) (kx : ∀ (ls : Array Slot) (H : Heap) (locs : List Loc), va_P (dC, dI) vwCl (w_Mod cI cZ dM dM0 dM1 dM2 dM3 dM4 dM5 dM6 dM7 dM8 dM9 dM10 dM11 dM12 dM13 (ρ 0) (ρ 1) (ρ 2) (ρ 3) (ρ 4) (ρ 5) (ρ 6) (ρ 7) (ρ 8) (ρ 9) (ρ 10) (shl (ρ 11) 0 b (kc - b)) (shl (ρ 12) 0 b (kc - b)) (ρ 13) (ρ 14 0) (ρ 15 0) (ρ 16 0) (ρ 17 0) (ρ 18 0) (ρ 19 0) (ρ 20 0) (ρ 21 0) (ρ 22 0) (ρ 23 0)) H → va_D A (w_Mod cI cZ dM dM0 dM1 dM2 dM3 dM4 dM5 dM6 dM7 dM8 dM9 dM10 dM11 dM12 dM13 (ρ 0) (ρ 1) (ρ 2) (ρ 3) (ρ 4) (ρ 5) (ρ 6) (ρ 7) (ρ 8) (ρ 9) (ρ 10) (shl (ρ 11) 0 b (kc - b)) (shl (ρ 12) 0 b (kc - b)) (ρ 13) (ρ 14 0) (ρ 15 0) (ρ 16 0) (ρ 17 0) (ρ 18 0) (ρ 19 0) (ρ 20 0) (ρ 21 0) (ρ 22 0) (ρ 23 0)) → va_S A H0 H locs → lv_has ls 6 [(0, .ref dM), (1, .int q1)] → W p l e ({ frames := 2, cells := 0, slots := 0, locals := 45 } : Room) s m args below meth c H locs 0 0 Q (F0 m 235 ls [])) : ∀ (n : Nat) (j : Nat) (ls : Array Slot), (b + j ≤ kc) → kc + 1 ≤ (b + j) + n → ∀ (H : Heap) (locs : List Loc), va_P (dC, dI) vwCl (w_Mod cI cZ dM dM0 dM1 dM2 dM3 dM4 dM5 dM6 dM7 dM8 dM9 dM10 dM11 dM12 dM13 (ρ 0) (ρ 1) (ρ 2) (ρ 3) (ρ 4) (ρ 5) (ρ 6) (ρ 7) (ρ 8) (ρ 9) (ρ 10) (shl (ρ 11) 0 b j) (shl (ρ 12) 0 b j) (ρ 13) (ρ 14 0) (ρ 15 0) (ρ 16 0) (ρ 17 0) (ρ 18 0) (ρ 19 0) (ρ 20 0) (ρ 21 0) (ρ 22 0) (ρ 23 0)) H → va_D A (w_Mod cI cZ dM dM0 dM1 dM2 dM3 dM4 dM5 dM6 dM7 dM8 dM9 dM10 dM11 dM12 dM13 (ρ 0) (ρ 1) (ρ 2) (ρ 3) (ρ 4) (ρ 5) (ρ 6) (ρ 7) (ρ 8) (ρ 9) (ρ 10) (shl (ρ 11) 0 b j) (shl (ρ 12) 0 b j) (ρ 13) (ρ 14 0) (ρ 15 0) (ρ 16 0) (ρ 17 0) (ρ 18 0) (ρ 19 0) (ρ 20 0) (ρ 21 0) (ρ 22 0) (ρ 23 0)) → va_S A H0 H locs → lv_has ls 6 [(0, .ref dM), (1, .int q1), (2, .int (nI (b + j)))] → W p l e ({ frames := 2, cells := 0, slots := 0, locals := 45 } : Room) s m args below meth c H locs 0 0 Q (F0 m 193 ls []) := by
  intro n
  induction n with
  | zero => intro j ls hj hfu; exact absurd hfu (by omega)
  | succ n ih =>
    intro j ls hj hfu H locs hP hD hS hl
    refine lv_iload_n hx hb d_mJoin_193 rfl (lv_at hl 2 rfl) ?_
    refine lv_aload_n hx hb d_mJoin_194 rfl (lv_at hl 0 rfl) ?_
    refine va_get (D := (dC, dI)) (ci := 4) (v := .int (ρ 22 0)) (C := R_Mod) (T := T_Mod) (N := 24) hx hb hts in_Mod hown hK hP 0 rfl rfl 21 (by decide) (hts _ mw_361) (fun _ h9 => h9) rfl d_mJoin_195 ?_
    refine lv_icmp_ge (tgt := 235) hx hb d_mJoin_198 (by decide) (fun c_24 => ?_) (fun c_24 => ?_)
    · have hj : j = kc - b := by
        rcases Nat.lt_or_ge (b + j) kc with h | h
        · exact absurd (ek ▸ c_24) (nI_ge h (by omega))
        · omega
      subst hj
      exact kx ls H locs hP hD hS (lv_sub hl [0, 1] rfl)
    · have hlt : b + j < kc := lt_nle (by omega) (by omega) (ek ▸ c_24)
      refine lv_aload_n hx hb d_mJoin_201 rfl (lv_at hl 0 rfl) ?_
      refine va_get (D := (dC, dI)) (ci := 4) (v := .ref dM11) (C := R_Mod) (T := T_Mod) (N := 24) hx hb hts in_Mod hown hK hP 0 rfl rfl 19 (by decide) (hts _ mw_359) (fun _ h9 => h9) rfl d_mJoin_202 ?_
      refine lv_iload_n hx hb d_mJoin_205 rfl (lv_at hl 2 rfl) ?_
      refine lv_iload_n hx hb d_mJoin_206 rfl (lv_at hl 1 rfl) ?_
      refine lv_isub hx hb d_mJoin_207 ?_
      refine lv_aload_n hx hb d_mJoin_208 rfl (lv_at hl 0 rfl) ?_
      refine va_get (D := (dC, dI)) (ci := 4) (v := .ref dM11) (C := R_Mod) (T := T_Mod) (N := 24) hx hb hts in_Mod hown hK hP 0 rfl rfl 19 (by decide) (hts _ mw_359) (fun _ h9 => h9) rfl d_mJoin_209 ?_
      refine lv_iload_n hx hb d_mJoin_212 rfl (lv_at hl 2 rfl) ?_
      refine va_iald (n := 100) (f := shl (ρ 11) 0 b j) hx hb hK hP 12 0 rfl rfl (i := nI (b + j)) (vp_in_nI (by omega) (by decide)) d_mJoin_213 ?_
      refine va_iast (n := 100) (f := shl (ρ 11) 0 b j) hx hb hK hP hD hS 12 0 rfl rfl (i := (nI (b + j)) - q1) (x := (shl (ρ 11) 0 b j) (nI (b + j)).toNatClampNeg) (by rw [eb, pk_sub (by omega)]; exact vp_in_nI (by omega) (by decide)) d_mJoin_214 (fun H locs hP hD hS => ?_)
      have hP : va_P (dC, dI) vwCl (w_Mod cI cZ dM dM0 dM1 dM2 dM3 dM4 dM5 dM6 dM7 dM8 dM9 dM10 dM11 dM12 dM13 (ρ 0) (ρ 1) (ρ 2) (ρ 3) (ρ 4) (ρ 5) (ρ 6) (ρ 7) (ρ 8) (ρ 9) (ρ 10) (upd (shl (ρ 11) 0 b j) ((nI (b + j)) - q1).toNatClampNeg ((shl (ρ 11) 0 b j) (nI (b + j)).toNatClampNeg)) (shl (ρ 12) 0 b j) (ρ 13) (ρ 14 0) (ρ 15 0) (ρ 16 0) (ρ 17 0) (ρ 18 0) (ρ 19 0) (ρ 20 0) (ρ 21 0) (ρ 22 0) (ρ 23 0)) H := hP
      have hD : va_D A (w_Mod cI cZ dM dM0 dM1 dM2 dM3 dM4 dM5 dM6 dM7 dM8 dM9 dM10 dM11 dM12 dM13 (ρ 0) (ρ 1) (ρ 2) (ρ 3) (ρ 4) (ρ 5) (ρ 6) (ρ 7) (ρ 8) (ρ 9) (ρ 10) (upd (shl (ρ 11) 0 b j) ((nI (b + j)) - q1).toNatClampNeg ((shl (ρ 11) 0 b j) (nI (b + j)).toNatClampNeg)) (shl (ρ 12) 0 b j) (ρ 13) (ρ 14 0) (ρ 15 0) (ρ 16 0) (ρ 17 0) (ρ 18 0) (ρ 19 0) (ρ 20 0) (ρ 21 0) (ρ 22 0) (ρ 23 0)) := hD
      refine lv_aload_n hx hb d_mJoin_215 rfl (lv_at hl 0 rfl) ?_
      refine va_get (D := (dC, dI)) (ci := 4) (v := .ref dM12) (C := R_Mod) (T := T_Mod) (N := 24) hx hb hts in_Mod hown hK hP 0 rfl rfl 20 (by decide) (hts _ mw_360) (fun _ h9 => h9) rfl d_mJoin_216 ?_
      refine lv_iload_n hx hb d_mJoin_219 rfl (lv_at hl 2 rfl) ?_
      refine lv_iload_n hx hb d_mJoin_220 rfl (lv_at hl 1 rfl) ?_
      refine lv_isub hx hb d_mJoin_221 ?_
      refine lv_aload_n hx hb d_mJoin_222 rfl (lv_at hl 0 rfl) ?_
      refine va_get (D := (dC, dI)) (ci := 4) (v := .ref dM12) (C := R_Mod) (T := T_Mod) (N := 24) hx hb hts in_Mod hown hK hP 0 rfl rfl 20 (by decide) (hts _ mw_360) (fun _ h9 => h9) rfl d_mJoin_223 ?_
      refine lv_iload_n hx hb d_mJoin_226 rfl (lv_at hl 2 rfl) ?_
      refine va_iald (n := 100) (f := shl (ρ 12) 0 b j) hx hb hK hP 13 0 rfl rfl (i := nI (b + j)) (vp_in_nI (by omega) (by decide)) d_mJoin_227 ?_
      refine va_iast (n := 100) (f := shl (ρ 12) 0 b j) hx hb hK hP hD hS 13 0 rfl rfl (i := (nI (b + j)) - q1) (x := (shl (ρ 12) 0 b j) (nI (b + j)).toNatClampNeg) (by rw [eb, pk_sub (by omega)]; exact vp_in_nI (by omega) (by decide)) d_mJoin_228 (fun H locs hP hD hS => ?_)
      have hP : va_P (dC, dI) vwCl (w_Mod cI cZ dM dM0 dM1 dM2 dM3 dM4 dM5 dM6 dM7 dM8 dM9 dM10 dM11 dM12 dM13 (ρ 0) (ρ 1) (ρ 2) (ρ 3) (ρ 4) (ρ 5) (ρ 6) (ρ 7) (ρ 8) (ρ 9) (ρ 10) (upd (shl (ρ 11) 0 b j) ((nI (b + j)) - q1).toNatClampNeg ((shl (ρ 11) 0 b j) (nI (b + j)).toNatClampNeg)) (upd (shl (ρ 12) 0 b j) ((nI (b + j)) - q1).toNatClampNeg ((shl (ρ 12) 0 b j) (nI (b + j)).toNatClampNeg)) (ρ 13) (ρ 14 0) (ρ 15 0) (ρ 16 0) (ρ 17 0) (ρ 18 0) (ρ 19 0) (ρ 20 0) (ρ 21 0) (ρ 22 0) (ρ 23 0)) H := hP
      have hD : va_D A (w_Mod cI cZ dM dM0 dM1 dM2 dM3 dM4 dM5 dM6 dM7 dM8 dM9 dM10 dM11 dM12 dM13 (ρ 0) (ρ 1) (ρ 2) (ρ 3) (ρ 4) (ρ 5) (ρ 6) (ρ 7) (ρ 8) (ρ 9) (ρ 10) (upd (shl (ρ 11) 0 b j) ((nI (b + j)) - q1).toNatClampNeg ((shl (ρ 11) 0 b j) (nI (b + j)).toNatClampNeg)) (upd (shl (ρ 12) 0 b j) ((nI (b + j)) - q1).toNatClampNeg ((shl (ρ 12) 0 b j) (nI (b + j)).toNatClampNeg)) (ρ 13) (ρ 14 0) (ρ 15 0) (ρ 16 0) (ρ 17 0) (ρ 18 0) (ρ 19 0) (ρ 20 0) (ρ 21 0) (ρ 22 0) (ρ 23 0)) := hD
      refine lv_iinc (v := nI (b + (j + 1))) (lv' := [(2, .int (nI (b + (j + 1)))), (0, .ref dM), (1, .int q1)]) hx hb d_mJoin_229 hl (k := 2) rfl (nI_1 _) (by decide) rfl (fun ls hl => ?_)
      refine lv_goto (tgt := 193) hx hb d_mJoin_232 (by decide) ?_
      have e1 : (nI (b + j) - q1).toNatClampNeg = 0 + j := by rw [eb, pk_sub (by omega), nI_clamp (by omega)]; omega
      have e2 : (nI (b + j)).toNatClampNeg = b + j := nI_clamp (by omega)
      rw [e1, e2] at hP hD
      exact ih (j + 1) ls (by omega) (by omega) H locs hP hD hS (lv_sub hl [1, 2, 0] rfl)
theorem jst_k (ρ : SS) (i : Nat) : F_mJst ρ i 11 = ρ 11 ∧ F_mJst ρ i 12 = ρ 12 ∧ F_mJst ρ i 22 = ρ 22 ∧ (F_mJst ρ i 23 0 = ρ 23 0 ∨ F_mJst ρ i 23 0 = ρ 23 0 + 1) := by
  unfold F_mJst
  repeat' split
  all_goals exact ⟨rfl, rfl, rfl, by first | exact Or.inl rfl | exact Or.inr rfl⟩
theorem leave8 {ρ : SS} {q : Int32} (h : ∀ i, i < 60 → ρ 8 i = -1 ∨ vp_in (ρ 8 i) 10) : ∀ i, i < 60 → F_mLeave ρ q 8 i = -1 ∨ vp_in (F_mLeave ρ q 8 i) 10 := by
  show ∀ i, i < 60 → (if ρ 8 q.toNatClampNeg = -1 then ρ 8 else upd (ρ 8) q.toNatClampNeg (-1)) i = -1 ∨ vp_in ((if ρ 8 q.toNatClampNeg = -1 then ρ 8 else upd (ρ 8) q.toNatClampNeg (-1)) i) 10
  split
  · exact h
  · exact upd_or h (Or.inl rfl)
theorem jst_8 {ρ : SS} {i : Nat} (h : ∀ i, i < 60 → ρ 8 i = -1 ∨ vp_in (ρ 8 i) 10) : ∀ j, j < 60 → F_mJst ρ i 8 j = -1 ∨ vp_in (F_mJst ρ i 8 j) 10 := by
  unfold F_mJst
  repeat' split
  all_goals first | exact h | exact leave8 h
theorem mJ_k (ρ : SS) {mo : Nat} (h8 : ∀ i, i < 60 → ρ 8 i = -1 ∨ vp_in (ρ 8 i) 10) (h0 : ρ 23 0 = 0) : ∀ i, mJ ρ i 11 = ρ 11 ∧ mJ ρ i 12 = ρ 12 ∧ mJ ρ i 22 = ρ 22 ∧ (∃ xc : Nat, xc ≤ i ∧ mJ ρ i 23 0 = nI xc) ∧ (∀ j, j < 60 → mJ ρ i 8 j = -1 ∨ vp_in (mJ ρ i 8 j) 10) := by
  intro i
  induction i with
  | zero => exact ⟨rfl, rfl, rfl, ⟨0, Nat.le_refl _, h0⟩, h8⟩
  | succ i ih =>
    obtain ⟨a1, a2, a3, ⟨xc, b1, b2⟩, a5⟩ := ih
    obtain ⟨c1, c2, c3, c4⟩ := jst_k (mJ ρ i) i
    refine ⟨c1.trans a1, c2.trans a2, c3.trans a3, ?_, jst_8 a5⟩
    rcases c4 with c4 | c4
    · exact ⟨xc, by omega, c4.trans b2⟩
    · exact ⟨xc + 1, by omega, by show F_mJst (mJ ρ i) i 23 0 = _; rw [c4, b2, nI_1]⟩
theorem mJ_row {ρ : SS} {rc kc : Nat} (h8 : ∀ i, i < 60 → ρ 8 i = -1 ∨ vp_in (ρ 8 i) 10) (h0 : ρ 23 0 = 0) (hrow : ∀ i, i < kc → vp_in (ρ 11 i) 60 ∧ (ρ 12 i = -1 ∨ vp_in (ρ 12 i) 40)) (hrk : rc ≤ kc) (hk : kc ≤ 100) : (∀ i, i < rc → JM (mJ ρ i) (nI i).toNatClampNeg i) ∧ mJ ρ rc 22 = ρ 22 := by
  refine ⟨fun i hi => ?_, (mJ_k ρ (mo := 0) h8 h0 rc).2.2.1⟩
  obtain ⟨a1, a2, a3, ⟨xc, b1, b2⟩, a5⟩ := mJ_k ρ (mo := 0) h8 h0 i
  rw [nI_clamp (show i < 2 ^ 31 by omega)]
  refine ⟨xc, b1, b2, ?_, ?_, ?_⟩
  · rw [a1]; exact (hrow i (by omega)).1
  · rw [a2]; exact (hrow i (by omega)).2
  · rw [a1]; exact a5 _ (clt (hrow i (by omega)).1)
def F_mJoin (ρ : SS) (q1 : Int32) : Int32 × SS :=
  if (ρ 18 0) = 0 then
    if q1 < 0 then
      (-1, (ss ρ 14 (fun _ => 0)))
    else
      if q1 ≤ (ρ 22 0) then
        ((mJ (ss (ss ρ 14 (fun _ => 0)) 23 (fun _ => 0)) q1.toNatClampNeg) 23 0, (ss (ss (ss (mJ (ss (ss ρ 14 (fun _ => 0)) 23 (fun _ => 0)) q1.toNatClampNeg) 11 (shl ((mJ (ss (ss ρ 14 (fun _ => 0)) 23 (fun _ => 0)) q1.toNatClampNeg) 11) 0 q1.toNatClampNeg ((ρ 22 0).toNatClampNeg - q1.toNatClampNeg))) 12 (shl ((mJ (ss (ss ρ 14 (fun _ => 0)) 23 (fun _ => 0)) q1.toNatClampNeg) 12) 0 q1.toNatClampNeg ((ρ 22 0).toNatClampNeg - q1.toNatClampNeg))) 22 (fun _ => ((mJ (ss (ss ρ 14 (fun _ => 0)) 23 (fun _ => 0)) q1.toNatClampNeg) 22 0) - q1)))
      else
        (-1, (ss ρ 14 (fun _ => 0)))
  else
    (-1, (ss ρ 14 (fun _ => 0)))
set_option maxHeartbeats 4000000 in
set_option maxRecDepth 100000 in
theorem c_mJoin (l : Launch) (dC : Nat → ClassId) (dI : Nat → Nat → Nat) (cI cZ : ClassId) (dM dM0 dM1 dM2 dM3 dM4 dM5 dM6 dM7 dM8 dM9 dM10 dM11 dM12 dM13 : Nat) (sz : Nat) (ρ : SS) (q1 : Int32) (hM : MInv ρ) : Met l y_mJoin [Cond.code y_mJoin prog_6_method_23_code 6 (some .int)] ({ frames := 2, cells := 0, slots := 0, locals := 45 }) (pcW (dC, dI) (w_Mod cI cZ dM dM0 dM1 dM2 dM3 dM4 dM5 dM6 dM7 dM8 dM9 dM10 dM11 dM12 dM13 (ρ 0) (ρ 1) (ρ 2) (ρ 3) (ρ 4) (ρ 5) (ρ 6) (ρ 7) (ρ 8) (ρ 9) (ρ 10) (ρ 11) (ρ 12) (ρ 13) (ρ 14 0) (ρ 15 0) (ρ 16 0) (ρ 17 0) (ρ 18 0) (ρ 19 0) (ρ 20 0) (ρ 21 0) (ρ 22 0) (ρ 23 0)) (tyC cI cZ) sz [.ref dM, .int q1]) (qI (fun r u => r = (F_mJoin ρ q1).1 ∧ u = (F_mJoin ρ q1).2) (dC, dI) (fun u : SS => w_Mod cI cZ dM dM0 dM1 dM2 dM3 dM4 dM5 dM6 dM7 dM8 dM9 dM10 dM11 dM12 dM13 (u 0) (u 1) (u 2) (u 3) (u 4) (u 5) (u 6) (u 7) (u 8) (u 9) (u 10) (u 11) (u 12) (u 13) (u 14 0) (u 15 0) (u 16 0) (u 17 0) (u 18 0) (u 19 0) (u 20 0) (u 21 0) (u 22 0) (u 23 0)) (va_A (w_Mod cI cZ dM dM0 dM1 dM2 dM3 dM4 dM5 dM6 dM7 dM8 dM9 dM10 dM11 dM12 dM13 (ρ 0) (ρ 1) (ρ 2) (ρ 3) (ρ 4) (ρ 5) (ρ 6) (ρ 7) (ρ 8) (ρ 9) (ρ 10) (ρ 11) (ρ 12) (ρ 13) (ρ 14 0) (ρ 15 0) (ρ 16 0) (ρ 17 0) (ρ 18 0) (ρ 19 0) (ρ 20 0) (ρ 21 0) (ρ 22 0) (ρ 23 0)) sz)) 0 0 (va_A (w_Mod cI cZ dM dM0 dM1 dM2 dM3 dM4 dM5 dM6 dM7 dM8 dM9 dM10 dM11 dM12 dM13 (ρ 0) (ρ 1) (ρ 2) (ρ 3) (ρ 4) (ρ 5) (ρ 6) (ρ 7) (ρ 8) (ρ 9) (ρ 10) (ρ 11) (ρ 12) (ρ 13) (ρ 14 0) (ρ 15 0) (ρ 16 0) (ρ 17 0) (ρ 18 0) (ρ 19 0) (ρ 20 0) (ρ 21 0) (ρ 22 0) (ρ 23 0)) sz) := by
  refine Met.ofW (cc := prog_6_method_23_code) (maxL := 6) (ret := (some .int)) (by decide) rfl ?_
  intro p e s m args below meth c s₁ B hml hv
  obtain ⟨rfl, hsz, hT, hP, hK, hD0⟩ := hv
  have hx := B.exec
  have hb := B.bytes
  have hr := B.returns
  have hts : ∀ w ∈ lw_ok, w.before ([.ref dM, .int q1] : List Value).toArray s = true := hT.use
  have hown : s.vm.findClass R_Mod = some m.cls := findClass_of_methodNamed B.named
  have hlocks := B.notSynchronized
  subst hsz
  have hD := hD0.self (sz := s.heap.size)
  generalize hAe : va_A (w_Mod cI cZ dM dM0 dM1 dM2 dM3 dM4 dM5 dM6 dM7 dM8 dM9 dM10 dM11 dM12 dM13 (ρ 0) (ρ 1) (ρ 2) (ρ 3) (ρ 4) (ρ 5) (ρ 6) (ρ 7) (ρ 8) (ρ 9) (ρ 10) (ρ 11) (ρ 12) (ρ 13) (ρ 14 0) (ρ 15 0) (ρ 16 0) (ρ 17 0) (ρ 18 0) (ρ 19 0) (ρ 20 0) (ρ 21 0) (ρ 22 0) (ρ 23 0)) s.heap.size = A at hD ⊢
  have hA : ∀ q : Nat, s.heap.size ≤ q → A q := fun q h => by rw [← hAe]; exact Or.inr h
  have hS : va_S A s.heap s.heap [] := va_S.rf
  have hl := lv_entry ([.ref dM, .int q1]) (n := 6) (Nat.le_of_ble_eq_true rfl)
  rw [lg_entry_eq]
  generalize (lg_sl ([.ref dM, .int q1]) ++ List.replicate (6 - (lg_sl ([.ref dM, .int q1])).length) Slot.unset).toArray = ls at hl ⊢
  have hl : lv_has ls 6 [(0, .ref dM), (1, .int q1)] := hl
  obtain ⟨mo, hmo, emo, hof, hre, hlo, hlk, ⟨kc, hkm, ek, hrow, hlend⟩, ⟨xc, hxm, ex⟩, hpe, hsc, ⟨lc, hlm, el, hrec⟩⟩ := id hM
  refine lv_aload_n hx hb d_mJoin_0 rfl (lv_at hl 0 rfl) ?_
  refine lv_iconst (v := 0) hx hb d_mJoin_1 (by decide) ?_
  refine va_put (D := (dC, dI)) (ci := 4) (v := .int 0) (ty := .int) (C := R_Mod) (T := T_Mod) (N := 24) hx hb hts in_Mod ty_Mod tyok_Mod nm_Mod hown hK hP hD hS 0 rfl rfl 0 (by decide) (hts _ mw_340) (fun _ h9 => h9) rfl (by decide +kernel) rfl rfl (Nat.le_of_ble_eq_true rfl) d_mJoin_2 (fun H locs hP hD hS => ?_)
  have hP : va_P (dC, dI) vwCl (w_Mod cI cZ dM dM0 dM1 dM2 dM3 dM4 dM5 dM6 dM7 dM8 dM9 dM10 dM11 dM12 dM13 (ρ 0) (ρ 1) (ρ 2) (ρ 3) (ρ 4) (ρ 5) (ρ 6) (ρ 7) (ρ 8) (ρ 9) (ρ 10) (ρ 11) (ρ 12) (ρ 13) 0 (ρ 15 0) (ρ 16 0) (ρ 17 0) (ρ 18 0) (ρ 19 0) (ρ 20 0) (ρ 21 0) (ρ 22 0) (ρ 23 0)) H := hP
  have hD : va_D A (w_Mod cI cZ dM dM0 dM1 dM2 dM3 dM4 dM5 dM6 dM7 dM8 dM9 dM10 dM11 dM12 dM13 (ρ 0) (ρ 1) (ρ 2) (ρ 3) (ρ 4) (ρ 5) (ρ 6) (ρ 7) (ρ 8) (ρ 9) (ρ 10) (ρ 11) (ρ 12) (ρ 13) 0 (ρ 15 0) (ρ 16 0) (ρ 17 0) (ρ 18 0) (ρ 19 0) (ρ 20 0) (ρ 21 0) (ρ 22 0) (ρ 23 0)) := hD
  refine lv_aload_n hx hb d_mJoin_5 rfl (lv_at hl 0 rfl) ?_
  refine va_get (D := (dC, dI)) (ci := 4) (v := .int (ρ 18 0)) (C := R_Mod) (T := T_Mod) (N := 24) hx hb hts in_Mod hown hK hP 0 rfl rfl 14 (by decide) (hts _ mw_354) (fun _ h9 => h9) rfl d_mJoin_6 ?_
  refine lv_if_ne (tgt := 24) hx hb d_mJoin_9 (by decide) (fun c_1 => ?_) (fun c_1 => ?_)
  · refine lv_iconst (v := -1) hx hb d_mJoin_24 (by decide) ?_
    have hF : F_mJoin ρ q1 = (-1, (ss ρ 14 (fun _ => 0))) := (if_neg c_1).trans rfl
    exact W.iret (v := -1) hx hb hr (fun t ht hW => ⟨⟨-1, (ss ρ 14 (fun _ => 0)), rfl, ⟨(congrArg Prod.fst hF).symm, (congrArg Prod.snd hF).symm⟩, by rw [ht]; exact hP, hD⟩, hS.F ht⟩) hS.2.2 d_mJoin_25
  · refine lv_iload_n hx hb d_mJoin_12 rfl (lv_at hl 1 rfl) ?_
    refine lv_if_lt (tgt := 24) hx hb d_mJoin_13 (by decide) (fun c_2 => ?_) (fun c_2 => ?_)
    · refine lv_iconst (v := -1) hx hb d_mJoin_24 (by decide) ?_
      have hF : F_mJoin ρ q1 = (-1, (ss ρ 14 (fun _ => 0))) := (if_pos c_1).trans ((if_pos c_2).trans rfl)
      exact W.iret (v := -1) hx hb hr (fun t ht hW => ⟨⟨-1, (ss ρ 14 (fun _ => 0)), rfl, ⟨(congrArg Prod.fst hF).symm, (congrArg Prod.snd hF).symm⟩, by rw [ht]; exact hP, hD⟩, hS.F ht⟩) hS.2.2 d_mJoin_25
    · refine lv_iload_n hx hb d_mJoin_16 rfl (lv_at hl 1 rfl) ?_
      refine lv_aload_n hx hb d_mJoin_17 rfl (lv_at hl 0 rfl) ?_
      refine va_get (D := (dC, dI)) (ci := 4) (v := .int (ρ 22 0)) (C := R_Mod) (T := T_Mod) (N := 24) hx hb hts in_Mod hown hK hP 0 rfl rfl 21 (by decide) (hts _ mw_361) (fun _ h9 => h9) rfl d_mJoin_18 ?_
      refine lv_icmp_le (tgt := 26) hx hb d_mJoin_21 (by decide) (fun c_3 => ?_) (fun c_3 => ?_)
      · refine lv_aload_n hx hb d_mJoin_26 rfl (lv_at hl 0 rfl) ?_
        refine lv_iconst (v := 0) hx hb d_mJoin_27 (by decide) ?_
        refine va_put (D := (dC, dI)) (ci := 4) (v := .int 0) (ty := .int) (C := R_Mod) (T := T_Mod) (N := 24) hx hb hts in_Mod ty_Mod tyok_Mod nm_Mod hown hK hP hD hS 0 rfl rfl 23 (by decide) (hts _ mw_363) (fun _ h9 => h9) rfl (by decide +kernel) rfl rfl (Nat.le_of_ble_eq_true rfl) d_mJoin_28 (fun H locs hP hD hS => ?_)
        have hP : va_P (dC, dI) vwCl (w_Mod cI cZ dM dM0 dM1 dM2 dM3 dM4 dM5 dM6 dM7 dM8 dM9 dM10 dM11 dM12 dM13 (ρ 0) (ρ 1) (ρ 2) (ρ 3) (ρ 4) (ρ 5) (ρ 6) (ρ 7) (ρ 8) (ρ 9) (ρ 10) (ρ 11) (ρ 12) (ρ 13) 0 (ρ 15 0) (ρ 16 0) (ρ 17 0) (ρ 18 0) (ρ 19 0) (ρ 20 0) (ρ 21 0) (ρ 22 0) 0) H := hP
        have hD : va_D A (w_Mod cI cZ dM dM0 dM1 dM2 dM3 dM4 dM5 dM6 dM7 dM8 dM9 dM10 dM11 dM12 dM13 (ρ 0) (ρ 1) (ρ 2) (ρ 3) (ρ 4) (ρ 5) (ρ 6) (ρ 7) (ρ 8) (ρ 9) (ρ 10) (ρ 11) (ρ 12) (ρ 13) 0 (ρ 15 0) (ρ 16 0) (ρ 17 0) (ρ 18 0) (ρ 19 0) (ρ 20 0) (ρ 21 0) (ρ 22 0) 0) := hD
        refine lv_iconst (v := 0) hx hb d_mJoin_31 (by decide) ?_
        refine lv_istore_n (lv' := [(2, .int 0), (0, .ref dM), (1, .int q1)]) hx hb d_mJoin_32 rfl hl (by decide) rfl (fun ls hl => ?_)
        obtain ⟨rc, hr9, er⟩ := nI_of c_2
        have hrk : rc ≤ kc := by have h := c_3; rw [er, ek] at h; exact (nI_leI hr9 (by omega)).mp h
        obtain ⟨hJ, hj22⟩ := mJ_row (ρ := (ss (ss ρ 14 (fun _ => 0)) 23 (fun _ => 0))) (rc := rc) (kc := kc) hlo rfl hrow hrk (by omega)
        have ek2 : mJ (ss (ss ρ 14 (fun _ => 0)) 23 (fun _ => 0)) rc 22 0 = nI kc := (congrFun hj22 0).trans ek
        refine lp_mj (ρ := (ss (ss ρ 14 (fun _ => 0)) 23 (fun _ => 0))) hx hb hml hT hts hown hK hA (by omega) er hJ (fun ls H locs hP hD hS hl => ?_) (rc + 1) 0 ls (by omega) (by omega) _ _ hP hD hS (lv_sub hl [1, 2, 0] rfl)
        refine lv_iload_n hx hb d_mJoin_191 rfl (lv_at hl 1 rfl) ?_
        refine lv_istore_n (lv' := [(2, .int q1), (0, .ref dM), (1, .int q1)]) hx hb d_mJoin_192 rfl hl (by decide) rfl (fun ls hl => ?_)
        refine lp_mj2 (ρ := (mJ (ss (ss ρ 14 (fun _ => 0)) 23 (fun _ => 0)) rc)) (b := rc) (kc := kc) hx hb hml hT hts hown hK hA (by omega) er ek2 hrk (fun ls H locs hP hD hS hl => ?_) (kc + 1) 0 ls (by omega) (by omega) _ _ hP hD hS (by rw [Nat.add_zero, ← er]; exact lv_sub hl [1, 2, 0] rfl)
        refine lv_aload_n hx hb d_mJoin_235 rfl (lv_at hl 0 rfl) ?_
        refine lv_dup hx hb d_mJoin_236 rfl ?_
        refine va_get (D := (dC, dI)) (ci := 4) (v := .int ((mJ (ss (ss ρ 14 (fun _ => 0)) 23 (fun _ => 0)) rc) 22 0)) (C := R_Mod) (T := T_Mod) (N := 24) hx hb hts in_Mod hown hK hP 0 rfl rfl 21 (by decide) (hts _ mw_361) (fun _ h9 => h9) rfl d_mJoin_237 ?_
        refine lv_iload_n hx hb d_mJoin_240 rfl (lv_at hl 1 rfl) ?_
        refine lv_isub hx hb d_mJoin_241 ?_
        refine va_put (D := (dC, dI)) (ci := 4) (v := .int (((mJ (ss (ss ρ 14 (fun _ => 0)) 23 (fun _ => 0)) rc) 22 0) - q1)) (ty := .int) (C := R_Mod) (T := T_Mod) (N := 24) hx hb hts in_Mod ty_Mod tyok_Mod nm_Mod hown hK hP hD hS 0 rfl rfl 21 (by decide) (hts _ mw_361) (fun _ h9 => h9) rfl (by decide +kernel) rfl rfl (Nat.le_of_ble_eq_true rfl) d_mJoin_242 (fun H locs hP hD hS => ?_)
        have hP : va_P (dC, dI) vwCl (w_Mod cI cZ dM dM0 dM1 dM2 dM3 dM4 dM5 dM6 dM7 dM8 dM9 dM10 dM11 dM12 dM13 ((mJ (ss (ss ρ 14 (fun _ => 0)) 23 (fun _ => 0)) rc) 0) ((mJ (ss (ss ρ 14 (fun _ => 0)) 23 (fun _ => 0)) rc) 1) ((mJ (ss (ss ρ 14 (fun _ => 0)) 23 (fun _ => 0)) rc) 2) ((mJ (ss (ss ρ 14 (fun _ => 0)) 23 (fun _ => 0)) rc) 3) ((mJ (ss (ss ρ 14 (fun _ => 0)) 23 (fun _ => 0)) rc) 4) ((mJ (ss (ss ρ 14 (fun _ => 0)) 23 (fun _ => 0)) rc) 5) ((mJ (ss (ss ρ 14 (fun _ => 0)) 23 (fun _ => 0)) rc) 6) ((mJ (ss (ss ρ 14 (fun _ => 0)) 23 (fun _ => 0)) rc) 7) ((mJ (ss (ss ρ 14 (fun _ => 0)) 23 (fun _ => 0)) rc) 8) ((mJ (ss (ss ρ 14 (fun _ => 0)) 23 (fun _ => 0)) rc) 9) ((mJ (ss (ss ρ 14 (fun _ => 0)) 23 (fun _ => 0)) rc) 10) (shl ((mJ (ss (ss ρ 14 (fun _ => 0)) 23 (fun _ => 0)) rc) 11) 0 rc (kc - rc)) (shl ((mJ (ss (ss ρ 14 (fun _ => 0)) 23 (fun _ => 0)) rc) 12) 0 rc (kc - rc)) ((mJ (ss (ss ρ 14 (fun _ => 0)) 23 (fun _ => 0)) rc) 13) ((mJ (ss (ss ρ 14 (fun _ => 0)) 23 (fun _ => 0)) rc) 14 0) ((mJ (ss (ss ρ 14 (fun _ => 0)) 23 (fun _ => 0)) rc) 15 0) ((mJ (ss (ss ρ 14 (fun _ => 0)) 23 (fun _ => 0)) rc) 16 0) ((mJ (ss (ss ρ 14 (fun _ => 0)) 23 (fun _ => 0)) rc) 17 0) ((mJ (ss (ss ρ 14 (fun _ => 0)) 23 (fun _ => 0)) rc) 18 0) ((mJ (ss (ss ρ 14 (fun _ => 0)) 23 (fun _ => 0)) rc) 19 0) ((mJ (ss (ss ρ 14 (fun _ => 0)) 23 (fun _ => 0)) rc) 20 0) ((mJ (ss (ss ρ 14 (fun _ => 0)) 23 (fun _ => 0)) rc) 21 0) (((mJ (ss (ss ρ 14 (fun _ => 0)) 23 (fun _ => 0)) rc) 22 0) - q1) ((mJ (ss (ss ρ 14 (fun _ => 0)) 23 (fun _ => 0)) rc) 23 0)) H := hP
        have hD : va_D A (w_Mod cI cZ dM dM0 dM1 dM2 dM3 dM4 dM5 dM6 dM7 dM8 dM9 dM10 dM11 dM12 dM13 ((mJ (ss (ss ρ 14 (fun _ => 0)) 23 (fun _ => 0)) rc) 0) ((mJ (ss (ss ρ 14 (fun _ => 0)) 23 (fun _ => 0)) rc) 1) ((mJ (ss (ss ρ 14 (fun _ => 0)) 23 (fun _ => 0)) rc) 2) ((mJ (ss (ss ρ 14 (fun _ => 0)) 23 (fun _ => 0)) rc) 3) ((mJ (ss (ss ρ 14 (fun _ => 0)) 23 (fun _ => 0)) rc) 4) ((mJ (ss (ss ρ 14 (fun _ => 0)) 23 (fun _ => 0)) rc) 5) ((mJ (ss (ss ρ 14 (fun _ => 0)) 23 (fun _ => 0)) rc) 6) ((mJ (ss (ss ρ 14 (fun _ => 0)) 23 (fun _ => 0)) rc) 7) ((mJ (ss (ss ρ 14 (fun _ => 0)) 23 (fun _ => 0)) rc) 8) ((mJ (ss (ss ρ 14 (fun _ => 0)) 23 (fun _ => 0)) rc) 9) ((mJ (ss (ss ρ 14 (fun _ => 0)) 23 (fun _ => 0)) rc) 10) (shl ((mJ (ss (ss ρ 14 (fun _ => 0)) 23 (fun _ => 0)) rc) 11) 0 rc (kc - rc)) (shl ((mJ (ss (ss ρ 14 (fun _ => 0)) 23 (fun _ => 0)) rc) 12) 0 rc (kc - rc)) ((mJ (ss (ss ρ 14 (fun _ => 0)) 23 (fun _ => 0)) rc) 13) ((mJ (ss (ss ρ 14 (fun _ => 0)) 23 (fun _ => 0)) rc) 14 0) ((mJ (ss (ss ρ 14 (fun _ => 0)) 23 (fun _ => 0)) rc) 15 0) ((mJ (ss (ss ρ 14 (fun _ => 0)) 23 (fun _ => 0)) rc) 16 0) ((mJ (ss (ss ρ 14 (fun _ => 0)) 23 (fun _ => 0)) rc) 17 0) ((mJ (ss (ss ρ 14 (fun _ => 0)) 23 (fun _ => 0)) rc) 18 0) ((mJ (ss (ss ρ 14 (fun _ => 0)) 23 (fun _ => 0)) rc) 19 0) ((mJ (ss (ss ρ 14 (fun _ => 0)) 23 (fun _ => 0)) rc) 20 0) ((mJ (ss (ss ρ 14 (fun _ => 0)) 23 (fun _ => 0)) rc) 21 0) (((mJ (ss (ss ρ 14 (fun _ => 0)) 23 (fun _ => 0)) rc) 22 0) - q1) ((mJ (ss (ss ρ 14 (fun _ => 0)) 23 (fun _ => 0)) rc) 23 0)) := hD
        refine lv_aload_n hx hb d_mJoin_245 rfl (lv_at hl 0 rfl) ?_
        refine va_get (D := (dC, dI)) (ci := 4) (v := .int ((mJ (ss (ss ρ 14 (fun _ => 0)) 23 (fun _ => 0)) rc) 23 0)) (C := R_Mod) (T := T_Mod) (N := 24) hx hb hts in_Mod hown hK hP 0 rfl rfl 23 (by decide) (hts _ mw_363) (fun _ h9 => h9) rfl d_mJoin_246 ?_
        have hF : F_mJoin ρ q1 = ((mJ (ss (ss ρ 14 (fun _ => 0)) 23 (fun _ => 0)) rc) 23 0, (ss (ss (ss (mJ (ss (ss ρ 14 (fun _ => 0)) 23 (fun _ => 0)) rc) 11 (shl ((mJ (ss (ss ρ 14 (fun _ => 0)) 23 (fun _ => 0)) rc) 11) 0 rc (kc - rc))) 12 (shl ((mJ (ss (ss ρ 14 (fun _ => 0)) 23 (fun _ => 0)) rc) 12) 0 rc (kc - rc))) 22 (fun _ => ((mJ (ss (ss ρ 14 (fun _ => 0)) 23 (fun _ => 0)) rc) 22 0) - q1))) := (if_pos c_1).trans ((if_neg c_2).trans ((if_pos c_3).trans (by rw [ek, er, nI_clamp hr9, nI_clamp (show kc < 2 ^ 31 by omega)])))
        exact W.iret (v := (mJ (ss (ss ρ 14 (fun _ => 0)) 23 (fun _ => 0)) rc) 23 0) hx hb hr (fun t ht hW => ⟨⟨(mJ (ss (ss ρ 14 (fun _ => 0)) 23 (fun _ => 0)) rc) 23 0, (ss (ss (ss (mJ (ss (ss ρ 14 (fun _ => 0)) 23 (fun _ => 0)) rc) 11 (shl ((mJ (ss (ss ρ 14 (fun _ => 0)) 23 (fun _ => 0)) rc) 11) 0 rc (kc - rc))) 12 (shl ((mJ (ss (ss ρ 14 (fun _ => 0)) 23 (fun _ => 0)) rc) 12) 0 rc (kc - rc))) 22 (fun _ => ((mJ (ss (ss ρ 14 (fun _ => 0)) 23 (fun _ => 0)) rc) 22 0) - q1)), rfl, ⟨(congrArg Prod.fst hF).symm, (congrArg Prod.snd hF).symm⟩, by rw [ht]; exact hP, hD⟩, hS.F ht⟩) hS.2.2 d_mJoin_249
      · refine lv_iconst (v := -1) hx hb d_mJoin_24 (by decide) ?_
        have hF : F_mJoin ρ q1 = (-1, (ss ρ 14 (fun _ => 0))) := (if_pos c_1).trans ((if_neg c_2).trans ((if_neg c_3).trans rfl))
        exact W.iret (v := -1) hx hb hr (fun t ht hW => ⟨⟨-1, (ss ρ 14 (fun _ => 0)), rfl, ⟨(congrArg Prod.fst hF).symm, (congrArg Prod.snd hF).symm⟩, by rw [ht]; exact hP, hD⟩, hS.F ht⟩) hS.2.2 d_mJoin_25
theorem in_cl {i w c : Int32} {xc : Nat} (hc : c = nI xc) (hx : xc ≤ 100) (h0 : ¬ i < 0) (h1 : ¬ c ≤ i) (h2 : ¬ w < 0) (h3 : w ≤ 2) : vp_in ((3 * i) + w) 300 := by
  obtain ⟨j, hj, rfl⟩ := nI_of h0
  obtain ⟨k, hk, rfl⟩ := nI_of2 (M := 2) (n := 2) (by decide) h2 h3
  rw [hc] at h1
  have hlt : j < xc := lt_nle (by omega) hj h1
  rw [show (3 : Int32) = nI 3 from rfl, pk_mul, nI_add]
  exact vp_in_nI (by omega) (by decide)
theorem in_rc {i c : Int32} {lc : Nat} (hc : c = nI lc) (hl : lc ≤ 256) (h0 : ¬ i < 0) (h1 : i < c) : vp_in i 6000 := by
  obtain ⟨j, hj, rfl⟩ := nI_of h0
  rw [hc] at h1
  have hlt : j < lc := (nI_ltI hj (by omega)).mp h1
  exact vp_in_nI (by omega) (by decide)
theorem in_9 {i : Int32} (h0 : ¬ i < 0) (h : ¬ 9 < i) : vp_in i 10 := by
  have h1 : i ≤ 9 := by rw [Int32.lt_iff_toInt_lt] at h; rw [Int32.le_iff_toInt_le]; omega
  obtain ⟨k, hk, rfl⟩ := nI_of2 (M := 9) (n := 9) (by decide) h0 h1
  exact vp_in_nI (by omega) (by decide)
def F_mClash (ρ : SS) (q1 : Int32) (q2 : Int32) : Int32 × SS :=
  if q1 < 0 then
    (-1, (ss ρ 14 (fun _ => 0)))
  else
    if (ρ 23 0) ≤ q1 then
      (-1, (ss ρ 14 (fun _ => 0)))
    else
      if q2 < 0 then
        (-1, (ss ρ 14 (fun _ => 0)))
      else
        if q2 ≤ 2 then
          (ρ 13 ((3 * q1) + q2).toNatClampNeg, (ss ρ 14 (fun _ => 0)))
        else
          (-1, (ss ρ 14 (fun _ => 0)))
set_option maxHeartbeats 4000000 in
set_option maxRecDepth 100000 in
theorem c_mClash (l : Launch) (dC : Nat → ClassId) (dI : Nat → Nat → Nat) (cI cZ : ClassId) (dM dM0 dM1 dM2 dM3 dM4 dM5 dM6 dM7 dM8 dM9 dM10 dM11 dM12 dM13 : Nat) (sz : Nat) (ρ : SS) (q1 : Int32) (q2 : Int32) (hM : MInv ρ) : Met l y_mClash [Cond.code y_mClash prog_6_method_24_code 3 (some .int)] ({ frames := 0, cells := 0, slots := 0, locals := 0 }) (pcW (dC, dI) (w_Mod cI cZ dM dM0 dM1 dM2 dM3 dM4 dM5 dM6 dM7 dM8 dM9 dM10 dM11 dM12 dM13 (ρ 0) (ρ 1) (ρ 2) (ρ 3) (ρ 4) (ρ 5) (ρ 6) (ρ 7) (ρ 8) (ρ 9) (ρ 10) (ρ 11) (ρ 12) (ρ 13) (ρ 14 0) (ρ 15 0) (ρ 16 0) (ρ 17 0) (ρ 18 0) (ρ 19 0) (ρ 20 0) (ρ 21 0) (ρ 22 0) (ρ 23 0)) (tyC cI cZ) sz [.ref dM, .int q1, .int q2]) (qI (fun r u => r = (F_mClash ρ q1 q2).1 ∧ u = (F_mClash ρ q1 q2).2) (dC, dI) (fun u : SS => w_Mod cI cZ dM dM0 dM1 dM2 dM3 dM4 dM5 dM6 dM7 dM8 dM9 dM10 dM11 dM12 dM13 (u 0) (u 1) (u 2) (u 3) (u 4) (u 5) (u 6) (u 7) (u 8) (u 9) (u 10) (u 11) (u 12) (u 13) (u 14 0) (u 15 0) (u 16 0) (u 17 0) (u 18 0) (u 19 0) (u 20 0) (u 21 0) (u 22 0) (u 23 0)) (va_A (w_Mod cI cZ dM dM0 dM1 dM2 dM3 dM4 dM5 dM6 dM7 dM8 dM9 dM10 dM11 dM12 dM13 (ρ 0) (ρ 1) (ρ 2) (ρ 3) (ρ 4) (ρ 5) (ρ 6) (ρ 7) (ρ 8) (ρ 9) (ρ 10) (ρ 11) (ρ 12) (ρ 13) (ρ 14 0) (ρ 15 0) (ρ 16 0) (ρ 17 0) (ρ 18 0) (ρ 19 0) (ρ 20 0) (ρ 21 0) (ρ 22 0) (ρ 23 0)) sz)) 0 0 (va_A (w_Mod cI cZ dM dM0 dM1 dM2 dM3 dM4 dM5 dM6 dM7 dM8 dM9 dM10 dM11 dM12 dM13 (ρ 0) (ρ 1) (ρ 2) (ρ 3) (ρ 4) (ρ 5) (ρ 6) (ρ 7) (ρ 8) (ρ 9) (ρ 10) (ρ 11) (ρ 12) (ρ 13) (ρ 14 0) (ρ 15 0) (ρ 16 0) (ρ 17 0) (ρ 18 0) (ρ 19 0) (ρ 20 0) (ρ 21 0) (ρ 22 0) (ρ 23 0)) sz) := by
  refine Met.ofW (cc := prog_6_method_24_code) (maxL := 3) (ret := (some .int)) (by decide) rfl ?_
  intro p e s m args below meth c s₁ B hml hv
  obtain ⟨rfl, hsz, hT, hP, hK, hD0⟩ := hv
  have hx := B.exec
  have hb := B.bytes
  have hr := B.returns
  have hts : ∀ w ∈ lw_ok, w.before ([.ref dM, .int q1, .int q2] : List Value).toArray s = true := hT.use
  have hown : s.vm.findClass R_Mod = some m.cls := findClass_of_methodNamed B.named
  have hlocks := B.notSynchronized
  subst hsz
  have hD := hD0.self (sz := s.heap.size)
  generalize hAe : va_A (w_Mod cI cZ dM dM0 dM1 dM2 dM3 dM4 dM5 dM6 dM7 dM8 dM9 dM10 dM11 dM12 dM13 (ρ 0) (ρ 1) (ρ 2) (ρ 3) (ρ 4) (ρ 5) (ρ 6) (ρ 7) (ρ 8) (ρ 9) (ρ 10) (ρ 11) (ρ 12) (ρ 13) (ρ 14 0) (ρ 15 0) (ρ 16 0) (ρ 17 0) (ρ 18 0) (ρ 19 0) (ρ 20 0) (ρ 21 0) (ρ 22 0) (ρ 23 0)) s.heap.size = A at hD ⊢
  have hA : ∀ q : Nat, s.heap.size ≤ q → A q := fun q h => by rw [← hAe]; exact Or.inr h
  have hS : va_S A s.heap s.heap [] := va_S.rf
  have hl := lv_entry ([.ref dM, .int q1, .int q2]) (n := 3) (Nat.le_of_ble_eq_true rfl)
  rw [lg_entry_eq]
  generalize (lg_sl ([.ref dM, .int q1, .int q2]) ++ List.replicate (3 - (lg_sl ([.ref dM, .int q1, .int q2])).length) Slot.unset).toArray = ls at hl ⊢
  have hl : lv_has ls 3 [(0, .ref dM), (1, .int q1), (2, .int q2)] := hl
  obtain ⟨mo, hmo, emo, hof, hre, hlo, hlk, ⟨kc, hkm, ek, hrow, hlend⟩, ⟨xc, hxm, ex⟩, hpe, hsc, ⟨lc, hlm, el, hrec⟩⟩ := id hM
  refine lv_aload_n hx hb d_mClash_0 rfl (lv_at hl 0 rfl) ?_
  refine lv_iconst (v := 0) hx hb d_mClash_1 (by decide) ?_
  refine va_put (D := (dC, dI)) (ci := 4) (v := .int 0) (ty := .int) (C := R_Mod) (T := T_Mod) (N := 24) hx hb hts in_Mod ty_Mod tyok_Mod nm_Mod hown hK hP hD hS 0 rfl rfl 0 (by decide) (hts _ mw_340) (fun _ h9 => h9) rfl (by decide +kernel) rfl rfl (Nat.le_of_ble_eq_true rfl) d_mClash_2 (fun H locs hP hD hS => ?_)
  have hP : va_P (dC, dI) vwCl (w_Mod cI cZ dM dM0 dM1 dM2 dM3 dM4 dM5 dM6 dM7 dM8 dM9 dM10 dM11 dM12 dM13 (ρ 0) (ρ 1) (ρ 2) (ρ 3) (ρ 4) (ρ 5) (ρ 6) (ρ 7) (ρ 8) (ρ 9) (ρ 10) (ρ 11) (ρ 12) (ρ 13) 0 (ρ 15 0) (ρ 16 0) (ρ 17 0) (ρ 18 0) (ρ 19 0) (ρ 20 0) (ρ 21 0) (ρ 22 0) (ρ 23 0)) H := hP
  have hD : va_D A (w_Mod cI cZ dM dM0 dM1 dM2 dM3 dM4 dM5 dM6 dM7 dM8 dM9 dM10 dM11 dM12 dM13 (ρ 0) (ρ 1) (ρ 2) (ρ 3) (ρ 4) (ρ 5) (ρ 6) (ρ 7) (ρ 8) (ρ 9) (ρ 10) (ρ 11) (ρ 12) (ρ 13) 0 (ρ 15 0) (ρ 16 0) (ρ 17 0) (ρ 18 0) (ρ 19 0) (ρ 20 0) (ρ 21 0) (ρ 22 0) (ρ 23 0)) := hD
  refine lv_iload_n hx hb d_mClash_5 rfl (lv_at hl 1 rfl) ?_
  refine lv_if_lt (tgt := 26) hx hb d_mClash_6 (by decide) (fun c_1 => ?_) (fun c_1 => ?_)
  · refine lv_iconst (v := -1) hx hb d_mClash_26 (by decide) ?_
    refine lv_goto (tgt := 40) hx hb d_mClash_27 (by decide) ?_
    have hF : F_mClash ρ q1 q2 = (-1, (ss ρ 14 (fun _ => 0))) := (if_pos c_1).trans rfl
    exact W.iret (v := -1) hx hb hr (fun t ht hW => ⟨⟨-1, (ss ρ 14 (fun _ => 0)), rfl, ⟨(congrArg Prod.fst hF).symm, (congrArg Prod.snd hF).symm⟩, by rw [ht]; exact hP, hD⟩, hS.F ht⟩) hS.2.2 d_mClash_40
  · refine lv_iload_n hx hb d_mClash_9 rfl (lv_at hl 1 rfl) ?_
    refine lv_aload_n hx hb d_mClash_10 rfl (lv_at hl 0 rfl) ?_
    refine va_get (D := (dC, dI)) (ci := 4) (v := .int (ρ 23 0)) (C := R_Mod) (T := T_Mod) (N := 24) hx hb hts in_Mod hown hK hP 0 rfl rfl 23 (by decide) (hts _ mw_363) (fun _ h9 => h9) rfl d_mClash_11 ?_
    refine lv_icmp_ge (tgt := 26) hx hb d_mClash_14 (by decide) (fun c_2 => ?_) (fun c_2 => ?_)
    · refine lv_iconst (v := -1) hx hb d_mClash_26 (by decide) ?_
      refine lv_goto (tgt := 40) hx hb d_mClash_27 (by decide) ?_
      have hF : F_mClash ρ q1 q2 = (-1, (ss ρ 14 (fun _ => 0))) := (if_neg c_1).trans ((if_pos c_2).trans rfl)
      exact W.iret (v := -1) hx hb hr (fun t ht hW => ⟨⟨-1, (ss ρ 14 (fun _ => 0)), rfl, ⟨(congrArg Prod.fst hF).symm, (congrArg Prod.snd hF).symm⟩, by rw [ht]; exact hP, hD⟩, hS.F ht⟩) hS.2.2 d_mClash_40
    · refine lv_iload_n hx hb d_mClash_17 rfl (lv_at hl 2 rfl) ?_
      refine lv_if_lt (tgt := 26) hx hb d_mClash_18 (by decide) (fun c_3 => ?_) (fun c_3 => ?_)
      · refine lv_iconst (v := -1) hx hb d_mClash_26 (by decide) ?_
        refine lv_goto (tgt := 40) hx hb d_mClash_27 (by decide) ?_
        have hF : F_mClash ρ q1 q2 = (-1, (ss ρ 14 (fun _ => 0))) := (if_neg c_1).trans ((if_neg c_2).trans ((if_pos c_3).trans rfl))
        exact W.iret (v := -1) hx hb hr (fun t ht hW => ⟨⟨-1, (ss ρ 14 (fun _ => 0)), rfl, ⟨(congrArg Prod.fst hF).symm, (congrArg Prod.snd hF).symm⟩, by rw [ht]; exact hP, hD⟩, hS.F ht⟩) hS.2.2 d_mClash_40
      · refine lv_iload_n hx hb d_mClash_21 rfl (lv_at hl 2 rfl) ?_
        refine lv_iconst (v := 2) hx hb d_mClash_22 (by decide) ?_
        refine lv_icmp_le (tgt := 30) hx hb d_mClash_23 (by decide) (fun c_4 => ?_) (fun c_4 => ?_)
        · refine lv_aload_n hx hb d_mClash_30 rfl (lv_at hl 0 rfl) ?_
          refine va_get (D := (dC, dI)) (ci := 4) (v := .ref dM13) (C := R_Mod) (T := T_Mod) (N := 24) hx hb hts in_Mod hown hK hP 0 rfl rfl 22 (by decide) (hts _ mw_362) (fun _ h9 => h9) rfl d_mClash_31 ?_
          refine lv_iconst (v := 3) hx hb d_mClash_34 (by decide) ?_
          refine lv_iload_n hx hb d_mClash_35 rfl (lv_at hl 1 rfl) ?_
          refine lv_imul hx hb d_mClash_36 ?_
          refine lv_iload_n hx hb d_mClash_37 rfl (lv_at hl 2 rfl) ?_
          refine lv_iadd hx hb d_mClash_38 ?_
          refine va_iald (n := 300) (f := ρ 13) hx hb hK hP 14 0 rfl rfl (i := (3 * q1) + q2) (by first | assumption | exact in_cl ex hxm ‹_› ‹_› ‹_› ‹_›) d_mClash_39 ?_
          have hF : F_mClash ρ q1 q2 = (ρ 13 ((3 * q1) + q2).toNatClampNeg, (ss ρ 14 (fun _ => 0))) := (if_neg c_1).trans ((if_neg c_2).trans ((if_neg c_3).trans ((if_pos c_4).trans rfl)))
          exact W.iret (v := ρ 13 ((3 * q1) + q2).toNatClampNeg) hx hb hr (fun t ht hW => ⟨⟨ρ 13 ((3 * q1) + q2).toNatClampNeg, (ss ρ 14 (fun _ => 0)), rfl, ⟨(congrArg Prod.fst hF).symm, (congrArg Prod.snd hF).symm⟩, by rw [ht]; exact hP, hD⟩, hS.F ht⟩) hS.2.2 d_mClash_40
        · refine lv_iconst (v := -1) hx hb d_mClash_26 (by decide) ?_
          refine lv_goto (tgt := 40) hx hb d_mClash_27 (by decide) ?_
          have hF : F_mClash ρ q1 q2 = (-1, (ss ρ 14 (fun _ => 0))) := (if_neg c_1).trans ((if_neg c_2).trans ((if_neg c_3).trans ((if_neg c_4).trans rfl)))
          exact W.iret (v := -1) hx hb hr (fun t ht hW => ⟨⟨-1, (ss ρ 14 (fun _ => 0)), rfl, ⟨(congrArg Prod.fst hF).symm, (congrArg Prod.snd hF).symm⟩, by rw [ht]; exact hP, hD⟩, hS.F ht⟩) hS.2.2 d_mClash_40
set_option maxHeartbeats 4000000 in
set_option maxRecDepth 100000 in
theorem lp_lk {p : Program} {l : Launch} {e : Env} {R : Room} {s : State} {m : MethodId} {args : Array Value} {below : List Frame} {meth : Method} {c : Code} {Q : State → Prop} {cells slots : Nat} {H : Heap} {locs : List Loc} {dC : Nat → ClassId} {dI : Nat → Nat → Nat} {cI cZ : ClassId} {dM dM0 dM1 dM2 dM3 dM4 dM5 dM6 dM7 dM8 dM9 dM10 dM11 dM12 dM13 : Nat} {ρ : SS} {q1 : Int32} (hx : p.tables.exec = Jvm.exec) (hb : c.code = prog_6_method_25_code) (hml : c.maxLocals = 3) (hT : TBL s) (hts : ∀ w ∈ lw_ok, w.before args s = true) (hown : s.vm.findClass R_Mod = some m.cls) (hK : va_K (dC, dI) vwCl (tyC cI cZ) s) (hP : va_P (dC, dI) vwCl (w_Mod cI cZ dM dM0 dM1 dM2 dM3 dM4 dM5 dM6 dM7 dM8 dM9 dM10 dM11 dM12 dM13 (ρ 0) (ρ 1) (ρ 2) (ρ 3) (ρ 4) (ρ 5) (ρ 6) (ρ 7) (ρ 8) (ρ 9) (ρ 10) (ρ 11) (ρ 12) (ρ 13) (ρ 14 0) (ρ 15 0) (ρ 16 0) (ρ 17 0) (ρ 18 0) (ρ 19 0) (ρ 20 0) (ρ 21 0) (ρ 22 0) (ρ 23 0)) H) (kf : ∀ (i : Nat) (ls : Array Slot), i < 10 → fst_from (ρ 9) 10 0 = nI i → lv_has ls 3 [(0, .ref dM), (1, .int q1), (2, .int (nI i))] → W p l e R s m args below meth c H locs cells slots Q (F0 m 62 ls [])) (kn : ∀ (ls : Array Slot), fst_from (ρ 9) 10 0 = -1 → W p l e R s m args below meth c H locs cells slots Q (F0 m 84 ls [])) : ∀ (n : Nat) (i : Nat) (ls : Array Slot), (i ≤ 10) → (fst_from (ρ 9) 10 0 = fst_from (ρ 9) (10 - i) i) → 10 + 1 ≤ i + n → lv_has ls 3 [(0, .ref dM), (1, .int q1), (2, .int (nI i))] → W p l e R s m args below meth c H locs cells slots Q (F0 m 46 ls []) := by
  intro n
  induction n with
  | zero => intro i ls hi hv hfu; exact absurd hfu (by omega)
  | succ n ih =>
    intro i ls hi hv hfu hl
    refine lv_iload_n hx hb d_mLocker_46 rfl (lv_at hl 2 rfl) ?_
    refine lv_bipush (v := 10) hx hb d_mLocker_47 (by decide) ?_
    refine lv_icmp_ge (tgt := 84) hx hb d_mLocker_49 (by decide) (fun c_5 => ?_) (fun c_5 => ?_)
    · have hi10 : i = 10 := by
        rcases Nat.lt_or_ge i 10 with h | h
        · exact absurd c_5 (nI_ge h (by decide))
        · omega
      subst hi10
      exact kn ls hv
    · have hlt : i < 10 := lt_nle (N := 10) (by decide) (by omega) c_5
      refine lv_aload_n hx hb d_mLocker_52 rfl (lv_at hl 0 rfl) ?_
      refine va_get (D := (dC, dI)) (ci := 4) (v := .ref dM9) (C := R_Mod) (T := T_Mod) (N := 24) hx hb hts in_Mod hown hK hP 0 rfl rfl 11 (by decide) (hts _ mw_351) (fun _ h9 => h9) rfl d_mLocker_53 ?_
      refine lv_iload_n hx hb d_mLocker_56 rfl (lv_at hl 2 rfl) ?_
      refine va_iald (n := 10) (f := ρ 9) hx hb hK hP 10 0 rfl rfl (i := nI i) (vp_in_nI hlt (by decide)) d_mLocker_57 ?_
      refine lv_iconst (v := -1) hx hb d_mLocker_58 (by decide) ?_
      refine lv_icmp_ne (tgt := 78) hx hb d_mLocker_59 (by decide) (fun c_6 => ?_) (fun c_6 => ?_)
      · refine lv_iinc (v := nI (i + 1)) (lv' := [(2, .int (nI (i + 1))), (0, .ref dM), (1, .int q1)]) hx hb d_mLocker_78 hl (k := 2) rfl (nI_1 _) (by decide) rfl (fun ls hl => ?_)
        refine lv_goto (tgt := 46) hx hb d_mLocker_81 (by decide) ?_
        have hc := c_6
        rw [nI_clamp (show i < 2 ^ 31 by omega)] at hc
        refine ih (i + 1) ls (by omega) ?_ (by omega) (lv_sub hl [1, 2, 0] rfl)
        rw [hv, show 10 - i = (10 - (i + 1)) + 1 by omega]
        exact if_neg hc
      · have hc := c_6
        rw [nI_clamp (show i < 2 ^ 31 by omega)] at hc
        refine kf i ls hlt ?_ hl
        rw [hv, show 10 - i = (10 - (i + 1)) + 1 by omega]
        exact if_pos hc
