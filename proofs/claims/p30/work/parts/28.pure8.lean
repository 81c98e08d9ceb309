/-! what a file's fields are behind an ending, an opening -/
theorem FI.end {j : Int} {u f : Int → Int} (h : FI j u f) : FI j (fU (fU (fU u 2 0) 8 0) 9 0) f := by
  obtain ⟨h0, h2, h3, h4, h5, h6, h8, h9, h10, hp⟩ := h
  unfold FI
  simp only [fU]
  exact ⟨h0, Or.inl rfl, h3, h4, h5, h6, Or.inl rfl, Or.inl rfl, h10, hp⟩
theorem FI.op {j x : Int} {u f : Int → Int} (h : FI j u f) (hx : 0 ≤ x ∧ x ≤ 1000000) : FI j (fU u 3 x) f := by
  obtain ⟨h0, h2, h3, h4, h5, h6, h8, h9, h10, hp⟩ := h
  unfold FI
  simp only [fU]
  exact ⟨h0, h2, hx, h4, h5, h6, h8, h9, h10, hp⟩
theorem sI_bM {g : Int → Int} {M a : Int} (h : ∀ j, a ≤ j → 0 ≤ g j ∧ g j ≤ M) : ∀ k : Nat, 0 ≤ sI g a (a + k) ∧ sI g a (a + k) ≤ M * k
  | 0 => by simp [sI_0]
  | k + 1 => by
    have ih := sI_bM (M := M) h k
    have h1 := h (a + k) (by omega)
    rw [show a + ((k + 1 : Nat) : Int) = a + k + 1 by omega, sI_s (by omega), show ((k + 1 : Nat) : Int) = (k : Int) + 1 by omega, Int.mul_add, Int.mul_one]
    omega
theorem rC_bd (f : Int → Int) : 0 ≤ rC f ∧ rC f ≤ 64 := by
  have := sI_bd (g := fun p => eqI (f p) (-2)) (a := 0) (b := 64) (fun j => eqI_bd _ _) (by decide)
  unfold rC
  omega
theorem CI.bd {T : Int → Int} {v B : Int → Int → Int} {sc dn : Int} (h : CI T v B sc dn) : (0 ≤ sI T 0 128 ∧ sI T 0 128 ≤ 128) ∧ (0 ≤ sI (fun j => v j 4) 0 16 ∧ sI (fun j => v j 4) 0 16 ≤ 1024) ∧ (0 ≤ sI (fun j => v j 7) 0 16 ∧ sI (fun j => v j 7) 0 16 ≤ 2048) := by
  obtain ⟨h1, h2, -, -⟩ := h
  have a1 := sI_bd (g := T) (a := 0) (b := 128) (fun j => by have := h1 j; omega) (by decide)
  have e1 : sI (fun j => v j 4) 0 16 = sI (fun j => if j < 16 then v j 4 else 0) 0 16 := sI_congr (fun j _ j2 => (if_pos j2).symm)
  have e2 : sI (fun j => v j 7) 0 16 = sI (fun j => if j < 16 then v j 7 else 0) 0 16 := sI_congr (fun j _ j2 => (if_pos j2).symm)
  have a2 := sI_bM (g := fun j => if j < 16 then v j 4 else 0) (M := 64) (a := 0) (fun j j1 => by
    show 0 ≤ (if j < 16 then v j 4 else 0) ∧ (if j < 16 then v j 4 else 0) ≤ 64
    split
    · rename_i j2
      have h3 := (h2 j j1 j2).2.2.2.1
      have := rC_bd (B j)
      omega
    · omega) 16
  have a3 := sI_bM (g := fun j => if j < 16 then v j 7 else 0) (M := 128) (a := 0) (fun j j1 => by
    show 0 ≤ (if j < 16 then v j 7 else 0) ∧ (if j < 16 then v j 7 else 0) ≤ 128
    split
    · rename_i j2
      have h3 := (h2 j j1 j2).2.2.2.2.2.1
      omega
    · omega) 16
  rw [e1, e2]
  have c1 : (0 : Int) + ((16 : Nat) : Int) = 16 := rfl
  rw [c1] at a2 a3
  omega
theorem rC_rs {f : Int → Int} {a b : Int} (h : 0 ≤ a ∧ a ≤ b ∧ b ≤ 64) : rC (rsF f a b) = rC f + sI (fun p => eqI (f p) (-1)) a b := by
  unfold rC
  rw [sI_cut (g := fun p => eqI (rsF f a b p) (-2)) (a := 0) (b := a) (c := 64) h.1 (by omega), sI_cut (g := fun p => eqI (rsF f a b p) (-2)) (a := a) (b := b) (c := 64) h.2.1 h.2.2, sI_cut (g := fun p => eqI (f p) (-2)) (a := 0) (b := a) (c := 64) h.1 (by omega), sI_cut (g := fun p => eqI (f p) (-2)) (a := a) (b := b) (c := 64) h.2.1 h.2.2]
  have h1 : sI (fun p => eqI (rsF f a b p) (-2)) 0 a = sI (fun p => eqI (f p) (-2)) 0 a := sI_congr (fun j h1 h2 => by show eqI (rsF f a b j) (-2) = _; unfold rsF; rw [if_neg (by omega)])
  have h3 : sI (fun p => eqI (rsF f a b p) (-2)) b 64 = sI (fun p => eqI (f p) (-2)) b 64 := sI_congr (fun j h1 h2 => by show eqI (rsF f a b j) (-2) = _; unfold rsF; rw [if_neg (by omega)])
  have h2 : ∀ k : Nat, a + k ≤ b → sI (fun p => eqI (rsF f a b p) (-2)) a (a + k) = sI (fun p => eqI (f p) (-2)) a (a + k) + sI (fun p => eqI (f p) (-1)) a (a + k) := by
    intro k
    induction k with
    | zero => intro _; simp [sI_0]
    | succ k ih =>
      intro hk
      rw [show a + ((k + 1 : Nat) : Int) = a + k + 1 by omega, sI_s (by omega), sI_s (by omega), sI_s (by omega), ih (by omega)]
      have : eqI (rsF f a b (a + k)) (-2) = eqI (f (a + k)) (-2) + eqI (f (a + k)) (-1) := by
        unfold rsF
        by_cases hc : f (a + k) = -1
        · rw [if_pos ⟨by omega, by omega, hc⟩, hc]; decide
        · rw [if_neg (fun h => hc h.2.2), eqI_f hc]; omega
      rw [this]; omega
  have h4 := h2 (b - a).toNat (by omega)
  rw [show a + ((b - a).toNat : Int) = b by omega] at h4
  rw [h1, h3, h4]
  omega
theorem rsF_bd {f : Int → Int} {a b : Int} (h : ∀ p, -2 ≤ f p ∧ f p ≤ 127) (p : Int) : -2 ≤ rsF f a b p ∧ rsF f a b p ≤ 127 := by
  unfold rsF
  split
  · omega
  · exact h p
theorem FI.rs {j a b : Int} {u f : Int → Int} (h : FI j u f) (hy : 0 ≤ a ∧ a ≤ b ∧ b ≤ 64) : FI j (fU u 4 (u 4 + sI (fun p => eqI (f p) (-1)) a b)) (rsF f a b) := by
  obtain ⟨h0, h2, h3, h4, h5, h6, h8, h9, h10, hp⟩ := h
  unfold FI
  simp only [fU]
  exact ⟨h0, h2, h3, by rw [rC_rs hy]; show u 4 + _ = _; omega, h5, h6, h8, h9, h10, rsF_bd hp⟩
theorem DW.keptC {w w' : WT} {ky : Nat → ClassId} {b g t ar d : Nat} {ac ab : Int → Nat} {T : Int → Int} {v B : Int → Int → Int} {sc dn : Int} {la na fa : Int → Nat} {n : Int} {lo co ct : Int → Int} {nm fl : Int → Int → Int} (hd : DW w ky d la na fa n lo co ct nm fl) (hW : CW w ky b g t ar d ac ab T v B sc dn) (hF : FrC w w' b g t ac ab) : DW w' ky d la na fa n lo co ct nm fl := by
  obtain ⟨h1, h2, h3⟩ := hd
  obtain ⟨hb, hg, ht, har, hfl, hdj⟩ := hW
  have kobj : ∀ {y c : Nat} {fs : List Value}, w y = some (oB c fs) → c ≠ 4 → c ≠ 2 → c ≠ 0 → w' y = w y := fun {y c fs} hy c1 c2 c3 => hF y (kd2 hy hb c1) (kd2 hy hg c2) (kd_ne hy ht) (fun j j1 j2 => ⟨kd2 hy (hfl j j1 j2).1 c3, kd_ne hy (hfl j j1 j2).2⟩)
  have karr : ∀ {y : Nat} {f : Int → Int}, w y = some (iA (ky 0) 4 f) → w' y = w y := fun {y f} hy => hF y (kd_ne hb hy).symm (kd_ne hg hy).symm (kda hy ht (by decide)) (fun j j1 j2 => ⟨(kd_ne (hfl j j1 j2).1 hy).symm, kda hy (hfl j j1 j2).2 (by decide)⟩)
  refine ⟨(kobj h1 (by decide) (by decide) (by decide)).trans h1, fun i i1 i2 => ?_, h3⟩
  obtain ⟨a1, a2, a3, a4⟩ := h2 i i1 i2
  exact ⟨(kobj a1 (by decide) (by decide) (by decide)).trans a1, (karr a2).trans a2, (karr a3).trans a3, a4⟩
theorem FI.set9 {j x : Int} {u f : Int → Int} (h : FI j u f) (hx : x = 0 ∨ x = 1) : FI j (fU u 9 x) f := by
  obtain ⟨h0, h2, h3, h4, h5, h6, h8, h9, h10, hp⟩ := h
  unfold FI
  simp only [fU]
  exact ⟨h0, h2, h3, h4, h5, h6, h8, hx, h10, hp⟩
theorem CW.keptL {w w' : WT} {ky : Nat → ClassId} {b g t ar d : Nat} {ac ab : Int → Nat} {T : Int → Int} {v B : Int → Int → Int} {sc dn : Int} {l1 l2 l3 na fa : Nat} {lo co ct : Int} {bk nx : Option Nat} {f2 f3 : Int → Int} (hW : CW w ky b g t ar d ac ab T v B sc dn) (h1 : w l1 = some (cL na fa lo co ct bk nx)) (h2 : w l2 = some (iA (ky 0) 4 f2)) (h3 : w l3 = some (iA (ky 0) 4 f3)) (hF : ∀ y, y ≠ l2 → y ≠ l3 → y ≠ l1 → w' y = w y) : CW w' ky b g t ar d ac ab T v B sc dn := by
  obtain ⟨hb, hg, ht, har, hfl, hdj⟩ := hW
  refine ⟨(hF b (kd_ne hb h2) (kd_ne hb h3) (kd2 hb h1 (by decide))).trans hb, (hF g (kd_ne hg h2) (kd_ne hg h3) (kd2 hg h1 (by decide))).trans hg, (hF t (kda ht h2 (by decide)) (kda ht h3 (by decide)) (kd_ne h1 ht).symm).trans ht, (hF ar (kdr h2 har).symm (kdr h3 har).symm (kd_ne h1 har).symm).trans har, fun j j1 j2 => ?_, hdj⟩
  obtain ⟨a1, a2⟩ := hfl j j1 j2
  exact ⟨(hF _ (kd_ne a1 h2) (kd_ne a1 h3) (kd2 a1 h1 (by decide))).trans a1, (hF _ (kda a2 h2 (by decide)) (kda a2 h3 (by decide)) (kd_ne h1 a2).symm).trans a2⟩
/-- what isn't the class's stays: the directory's cells with the rest -/
def FrA (w w' : WT) (b g t d : Nat) (ac ab la na fa : Int → Nat) (n : Int) : Prop := ∀ y u, w y = some u → y ≠ b → y ≠ g → y ≠ t → (∀ j, 0 ≤ j → j < 16 → y ≠ ac j ∧ y ≠ ab j) → y ≠ d → (∀ i, 0 ≤ i → i < n → y ≠ la i ∧ y ≠ na i ∧ y ≠ fa i) → w' y = w y
theorem FrC.A {w w' : WT} {b g t d : Nat} {ac ab la na fa : Int → Nat} {n : Int} (h : FrC w w' b g t ac ab) : FrA w w' b g t d ac ab la na fa n := fun y _ _ a1 a2 a3 a4 _ _ => h y a1 a2 a3 a4
theorem FI.bg {j : Int} {u f : Int → Int} (h : FI j u f) : FI j (fU u 2 1) f := by
  obtain ⟨h0, h2, h3, h4, h5, h6, h8, h9, h10, hp⟩ := h
  unfold FI
  simp only [fU]
  exact ⟨h0, Or.inr rfl, h3, h4, h5, h6, h8, h9, h10, hp⟩
theorem CW.keptA {w w' : WT} {ky : Nat → ClassId} {b g t ar d : Nat} {ac ab : Int → Nat} {T : Int → Int} {v B : Int → Int → Int} {sc dn : Int} {la na fa : Int → Nat} {n : Int} {lo co ct : Int → Int} {nm fl : Int → Int → Int} (hW : CW w ky b g t ar d ac ab T v B sc dn) (hd : DW w ky d la na fa n lo co ct nm fl) (hF : ∀ y u, w y = some u → y ≠ d → (∀ i, 0 ≤ i → i < n → y ≠ la i ∧ y ≠ na i ∧ y ≠ fa i) → w' y = w y) : CW w' ky b g t ar d ac ab T v B sc dn := by
  obtain ⟨hb, hg, ht, har, hfl, hdj⟩ := hW
  obtain ⟨d1, d2, d3⟩ := hd
  have kobj : ∀ {y c : Nat} {fs : List Value}, w y = some (oB c fs) → c ≠ 1 → c ≠ 3 → w' y = w y := fun {y c fs} hy c1 c2 => hF y _ hy (kd2 hy d1 c1) (fun i i1 i2 => ⟨kd2 hy (d2 i i1 i2).1 c2, kd_ne hy (d2 i i1 i2).2.1, kd_ne hy (d2 i i1 i2).2.2.1⟩)
  have karr : ∀ {y n' : Nat} {k : ClassId} {f : Int → Int}, w y = some (iA k n' f) → n' ≠ 4 → w' y = w y := fun {y n' k f} hy c1 => hF y _ hy (kd_ne d1 hy).symm (fun i i1 i2 => ⟨(kd_ne (d2 i i1 i2).1 hy).symm, kda hy (d2 i i1 i2).2.1 c1, kda hy (d2 i i1 i2).2.2.1 c1⟩)
  refine ⟨(kobj hb (by decide) (by decide)).trans hb, (kobj hg (by decide) (by decide)).trans hg, (karr ht (by decide)).trans ht, ?_, fun j j1 j2 => ⟨(kobj (hfl j j1 j2).1 (by decide) (by decide)).trans (hfl j j1 j2).1, (karr (hfl j j1 j2).2 (by decide)).trans (hfl j j1 j2).2⟩, hdj⟩
  exact (hF ar _ har (kd_ne d1 har).symm (fun i i1 i2 => ⟨(kd_ne (d2 i i1 i2).1 har).symm, (kdr (d2 i i1 i2).2.1 har).symm, (kdr (d2 i i1 i2).2.2.1 har).symm⟩)).trans har
