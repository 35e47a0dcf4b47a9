/-! THE RELATION between the class's state and the reference's, but for the marks -/
def Rel (mo t : Nat) (ω η κ χ ν ρ : SS) : Prop :=
  (η 0 = ρ 0 ∧ η 1 = ρ 1 ∧ η 2 = ρ 2 ∧ η 3 = ρ 4 ∧ η 4 = ρ 5 ∧ η 5 = ρ 6 ∧ η 7 = ρ 8 ∧ η 8 = ρ 9) ∧
  (ν 0 = ρ 10 ∧ κ 0 = ρ 11 ∧ κ 1 = ρ 12 ∧ κ 2 0 = ρ 22 0) ∧
  (ω 0 0 = ρ 18 0 ∧ ν 1 0 = ρ 19 0 ∧ ν 2 0 = ρ 16 0 ∧ ν 3 0 = ρ 17 0 ∧ ν 4 0 = ρ 20 0 ∧ (¬ ν 4 0 = -1 → ν 5 0 = ρ 21 0)) ∧
  ρ 15 0 = nI mo ∧
  (∀ p, p < 40 → ∃ w : Nat, w ≤ 3 ∧ η 3 p = nI w ∧ (ρ 3 p = 0 ↔ w < 3) ∧ (ν 2 0 = 1 → p = (ν 3 0).toNatClampNeg → w < 3)) ∧
  (∃ xc : Nat, xc ≤ mo ∧ χ 2 0 = nI xc ∧ ρ 23 0 = nI xc ∧ ∀ i, i < xc → ρ 13 (3 * i) = χ 0 i ∧ ρ 13 (3 * i + 1) = χ 1 i ∧ ρ 13 (3 * i + 2) = (if χ 1 i = -1 then 1 else 0)) ∧
  ((∀ i, i < 60 → ¬ η 7 i = -1 → η 4 i = -1) ∧ ∀ j, j < 10 → ¬ η 8 j = -1 → η 7 (η 8 j).toNatClampNeg = nI j) ∧
  (ν 2 0 = 2 → ¬ ω 0 0 = 0 → ∃ lc : Nat, lc ≤ 5 ∧ ν 1 0 = nI lc ∧ (0 < lc → ∃ kc r : Nat, κ 2 0 = nI kc ∧ r < kc ∧ kc ≤ mo ∧ ¬ κ 1 r = -1)) ∧
  (∃ lc : Nat, ν 1 0 = nI lc ∧ lc ≤ 256 ∧ 2 * lc ≤ t ∧ (¬ ν 4 0 = -1 → ν 5 0 = 0 → 2 * lc + 1 ≤ t))
def LI (mo t : Nat) (ω η κ χ ν ρ : SS) : Prop := CInv mo ω η κ χ ν ∧ Rel mo t ω η κ χ ν ρ
theorem li_t {mo t : Nat} {ω η κ χ ν ρ : SS} (h : LI mo t ω η κ χ ν ρ) : LI mo (t + 1) ω η κ χ ν ρ := by
  obtain ⟨hI, a, b, c, d, e, f, g, k, ⟨lc, l1, l2, l3, l4⟩⟩ := h
  exact ⟨hI, a, b, c, d, e, f, g, k, lc, l1, l2, by omega, fun x y => by have := l4 x y; omega⟩
theorem li_m {mo t : Nat} {ω η κ χ ν ρ : SS} (h : LI mo t ω η κ χ ν ρ) : MInv ρ := by
  obtain ⟨hI, ⟨a0, a1, a2, a3, a4, a5, a6, a7⟩, ⟨b0, b1, b2, b3⟩, ⟨c0, c1, c2, c3, c4, c5⟩, d, e, ⟨xc, x1, x2, x3, x4⟩, g, k, -⟩ := h
  obtain ⟨hmo, hof, hre, hlo, hlk, ⟨kc, k1, k2, k3⟩, hxc, hpe, hla, ⟨lc, l1, l2, l3⟩⟩ := hI
  refine ⟨mo, hmo, d, by rw [← c0]; exact hof, by rw [← a5]; exact hre, by rw [← a6]; exact hlo, by rw [← a7]; exact hlk, ⟨kc, k1, by rw [← b3]; exact k2, by rw [← b1, ← b2]; exact k3, ?_⟩, ⟨xc, by omega, x3⟩, by rw [← c3]; exact hpe, by rw [← c4]; exact hla, ⟨lc, l1, by rw [← c1]; exact l2, by rw [← b0]; exact l3⟩⟩
  rw [← c0, ← c1, ← c2, ← b2]
  intro h1 h2 h3
  obtain ⟨lc', m1, m2, m3⟩ := k h1 h2
  have hp : 0 < lc' := by
    rcases Nat.eq_zero_or_pos lc' with q | q
    · subst q; exact absurd (by rw [m2]; decide) h3
    · exact q
  obtain ⟨kc', r, n1, n2, n3, n4⟩ := m3 hp
  have : kc' = kc := (nI_eq (by omega) (by omega)).mp (n1.symm.trans k2)
  subst this
  exact ⟨r, n2, n4⟩
theorem li_14 {mo t : Nat} {ω η κ χ ν ρ : SS} {f : Nat → Int32} (h : LI mo t ω η κ χ ν ρ) : LI mo t ω η κ χ ν (ss ρ 14 f) := by
  obtain ⟨hI, ha, hb, hc, hd, he, hf, hg, hk, hm⟩ := h
  exact ⟨hI, ha, hb, hc, hd, he, hf, hg, hk, hm⟩
theorem li_0 (p0 : Int32) : LI (F_mo p0) 0 κ0 η0 κ0 κ0 ν0 (ρ0 (F_mo p0)) := by
  have hmo := (mo_ok p0).2
  have hz : vp_in (0 : Int32) 40 := vp_in_nI (n := 0) (by decide) (by decide)
  have h5 : ∀ i, i < 60 → η0 5 i = -1 := fun i hi => fil_in (f := fun _ => 0) (v := -1) (n := 60) hi
  have h7 : ∀ i, i < 60 → η0 7 i = -1 := fun i hi => fil_in (f := fun _ => 0) (v := -1) (n := 60) hi
  have h8 : ∀ i, i < 10 → η0 8 i = -1 := fun i hi => fil_in (f := fun _ => 0) (v := -1) (n := 10) hi
  refine ⟨⟨hmo, Or.inl rfl, fun i hi => Or.inl (h5 i hi), fun i hi => Or.inl (h7 i hi), fun i hi => Or.inl (h8 i hi), ⟨0, Nat.zero_le _, rfl, fun i hi => absurd hi (by omega)⟩, ⟨0, Nat.zero_le _, rfl⟩, hz, Or.inl rfl, ⟨0, by omega, rfl, fun i hi => absurd hi (by omega)⟩⟩, ⟨rfl, rfl, rfl, rfl, rfl, rfl, rfl, rfl⟩, ⟨rfl, rfl, rfl, rfl⟩, ⟨rfl, rfl, rfl, rfl, rfl, fun h => absurd rfl h⟩, rfl, ?_, ⟨0, Nat.zero_le _, rfl, rfl, fun i hi => absurd hi (by omega)⟩, ⟨fun i hi h => absurd (h7 i hi) h, fun j hj h => absurd (h8 j hj) h⟩, fun h => absurd h (by decide), ⟨0, rfl, by omega, by omega, fun h => absurd rfl h⟩⟩
  intro p hp
  exact ⟨0, by omega, rfl, ⟨fun _ => by omega, fun _ => rfl⟩, fun _ _ => by omega⟩

