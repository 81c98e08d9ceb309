/-! the reference's leaves: a name added; files and names together -/
theorem RNM.ins {F : Nat → Int → Int} {G : Nat → Int} {n jj q x : Int} {lo co ct ct' : Int → Int} {nm fl nm' fl' : Int → Int → Int} (h : RNM F G n lo co ct nm) (h4 : ∀ i, 0 ≤ ct i ∧ ct i ≤ 4) (hj : 0 ≤ jj ∧ jj < n) (hc : ct jj < 4) (hno : ∀ k, 0 ≤ k → k < ct jj → nm jj k ≠ q) (hi : INS jj q x ct nm fl ct' nm' fl') :
    RNM (nU (nU F 12 (fU (F 12) (4 * jj + F 13 jj) q)) 13 (fU (F 13) jj (F 13 jj + 1))) G n lo co ct' nm' := by
  obtain ⟨p, p1, p2, -, -, e1, e2, -⟩ := hi
  obtain ⟨h1, h2⟩ := h
  refine ⟨h1, fun i i1 i2 => ?_⟩
  obtain ⟨a1, a2, a3, a4⟩ := h2 i i1 i2
  rw [e1, e2]
  refine ⟨a1, a2, ?_, ?_⟩
  · show fU (F 13) jj (F 13 jj + 1) i = _
    by_cases hij : i = jj
    · subst hij; rw [fU_s, fU_s, a3]
    · rw [fU_n hij, fU_n hij]; exact a3
  · show PR _ _ (fun k => fU (F 12) (4 * jj + F 13 jj) q (4 * i + k))
    by_cases hij : i = jj
    · subst hij
      rw [fU_s, fU_s, fU_off, a3]
      exact a4.ins hno ⟨p1, p2⟩
    · rw [fU_n hij, fU_n hij]
      have := h4 i
      have := h4 jj
      have := (h2 jj hj.1 hj.2).2.2.1
      exact a4.cg (fun _ _ _ => rfl) (fun k k1 k2 => fU_n (by omega))
theorem RNM.fn {F F' : Nat → Int → Int} {G G' : Nat → Int} {n : Int} {lo co ct : Int → Int} {nm : Int → Int → Int} (h : RNM F G n lo co ct nm) (hF : FN F F') (h14 : G' 14 = G 14) : RNM F' G' n lo co ct nm := by
  obtain ⟨e9, e10, e11, e12, e13⟩ := hF
  obtain ⟨h1, h2⟩ := h
  refine ⟨h14.trans h1, fun i i1 i2 => ?_⟩
  rw [e10, e11, e12, e13]
  exact h2 i i1 i2
/-- the reference at a state, names too -/
def PMN (w w' : WT) (ky : Nat → ClassId) (o : Nat) (A : Nat → Nat) (T : Int → Int) (v B : Int → Int → Int) (sc dn : Int) (f7 f9 : Int → Int) (th : Int) (n : Int) (lo co ct : Int → Int) (nm : Int → Int → Int) : Prop :=
  ∃ F' G', MV w w' ky o A F' G' ∧ RF F' G' T v B sc dn ∧ RNM F' G' n lo co ct nm ∧ F' 7 = f7 ∧ F' 9 = f9 ∧ G' 17 = th
theorem PM.n {w w' : WT} {ky : Nat → ClassId} {o : Nat} {A : Nat → Nat} {F : Nat → Int → Int} {G : Nat → Int} {T : Int → Int} {v B : Int → Int → Int} {sc dn : Int} {f7 : Int → Int} {th n : Int} {lo co ct : Int → Int} {nm : Int → Int → Int} (h : PM w w' ky o A F G T v B sc dn f7 th) (hN : RNM F G n lo co ct nm) : PMN w w' ky o A T v B sc dn f7 (F 9) th n lo co ct nm := by
  obtain ⟨F', G', a1, a2, a3, a4, a5, a6⟩ := h
  exact ⟨F', G', a1, a2, hN.fn a3 a5, a4, a3.1, a6⟩
theorem PMN.pre {w w1 w2 : WT} {ky : Nat → ClassId} {o : Nat} {A : Nat → Nat} {F1 : Nat → Int → Int} {G1 : Nat → Int} {T : Int → Int} {v B : Int → Int → Int} {sc dn : Int} {f7 f9 : Int → Int} {th n : Int} {lo co ct : Int → Int} {nm : Int → Int → Int} (h : PMN w1 w2 ky o A T v B sc dn f7 f9 th n lo co ct nm) (hM : MV w w1 ky o A F1 G1) : PMN w w2 ky o A T v B sc dn f7 f9 th n lo co ct nm := by
  obtain ⟨F', G', a1, a2, a3, a4, a5, a6⟩ := h
  exact ⟨F', G', hM.tr a1, a2, a3, a4, a5, a6⟩
theorem spl_hA {n j q jj : Int} {ct : Int → Int} {nm : Int → Int → Int} (hc : ct j = 4) (hjj : jj = j ∨ jj = j + 1) (hno : ¬ hA ct nm q j) : (fU (shI ct j 2) j 2) jj = 2 ∧ ∀ k, 0 ≤ k → k < (fU (shI ct j 2) j 2) jj → shI nm j (spF (nm j)) jj k ≠ q := by
  rcases hjj with rfl | rfl
  · refine ⟨fU_s _ _ _, fun k k1 k2 k3 => hno ⟨k, k1, ?_, ?_⟩⟩
    · rw [fU_s] at k2; omega
    · rw [shI_le (Int.le_refl _)] at k3; exact k3
  · refine ⟨by rw [fU_n (by omega), shI_eq rfl], fun k k1 k2 k3 => ?_⟩
    rw [fU_n (by omega), shI_eq rfl] at k2
    rw [shI_eq rfl] at k3
    rcases (show k = 0 ∨ k = 1 by omega) with rfl | rfl
    · exact hno ⟨2, by omega, by omega, k3⟩
    · exact hno ⟨3, by omega, by omega, k3⟩
