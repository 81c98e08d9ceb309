/-! what a turn of flushing keeps -/
theorem lF_set {T' : Int → Int} {v : Int → Int → Int} {j : Int} {u : Int → Int} (hj : 0 ≤ j ∧ j < 16) : lF T' (fU v j u) = 128 - sI T' 0 128 - sI (fun i => v i 4) 0 16 + v j 4 - u 4 := by
  unfold lF
  rw [sI_v4 hj]
  omega
theorem CI_set {T T' : Int → Int} {v B : Int → Int → Int} {sc dn j : Int} {u f : Int → Int} (hI : CI T v B sc dn) (hT : ∀ i, T' i = 0 ∨ T' i = 1) (hu : FI j u f) : CI T' (fU v j u) (fU B j f) sc dn := by
  obtain ⟨-, hF, h3, h4⟩ := hI
  refine ⟨hT, fun i h1 h2 => ?_, h3, h4⟩
  by_cases hi : i = j
  · subst hi; simp only [fU, if_true]; exact hu
  · simp only [fU, if_neg hi]; exact hF i h1 h2
theorem chk_ok {T : Int → Int} {v B : Int → Int → Int} {sc dn j p R : Int} (hI : CI T v B sc dn) (hj : 0 ≤ j ∧ j < 16) (hp : 0 ≤ p ∧ 1 ≤ R ∧ p + R ≤ 64) (hr : ∀ q, p ≤ q → q < p + R → B j q = -2) (hL : 0 ≤ lF T v) :
    1 ≤ (chk j T v B p R).1 ∧ (chk j T v B p R).1 ≤ R ∧ CI (chk j T v B p R).2.1 (chk j T v B p R).2.2.1 (chk j T v B p R).2.2.2 sc dn ∧ 0 ≤ lF (chk j T v B p R).2.1 (chk j T v B p R).2.2.1 ∧
    (∀ q, p + (chk j T v B p R).1 ≤ q → (chk j T v B p R).2.2.2 j q = B j q) ∧ (∀ q, q < p → (chk j T v B p R).2.2.2 j q = B j q) := by
  obtain ⟨hc1, hc2, hc3, hc4, hc5, hc6⟩ := chH_ok hI hj hp hr hL
  have hf := hI.2.1 j hj.1 hj.2
  obtain ⟨f0, f2, f3, f4, f5, f6, f8, f9, f10, fp⟩ := id hf
  have hLe : lF T v = 128 - sI T 0 128 - sI (fun j => v j 4) 0 16 := rfl
  unfold chk
  split
  · rename_i hk
    have hx := mI_c (v j 7) R
    refine ⟨by show 1 ≤ mI _ _; omega, by show mI _ _ ≤ R; omega, ?_, ?_, ?_, ?_⟩
    · refine CI_set hI hI.1 ?_
      exact FI.kp (FI.mp hf (by omega) (by omega) (fun q h1 h2 => hr q h1 (by omega))) (by omega) (by omega)
    · refine Int.le_trans ?_ (Int.le_of_eq (lF_set hj).symm)
      dsimp only
      simp [fU]
      omega
    · intro q hq
      show fU B j _ j q = _
      rw [fU, if_pos rfl, mpF, if_neg (by show ¬ _; omega)]
    · intro q hq
      show fU B j _ j q = _
      rw [fU, if_pos rfl, mpF, if_neg (by show ¬ _; omega)]
  · split
    · rename_i hk hle
      refine ⟨hc1, hle, ?_, ?_, ?_, ?_⟩
      · refine CI_set hI (tkF_01 hI.1 (Or.inr rfl)) ?_
        exact FI.mp hf (by omega) (by omega) (fun q h1 h2 => hr q h1 (by omega))
      · refine Int.le_trans ?_ (Int.le_of_eq (lF_set hj).symm)
        dsimp only
        rw [sI_tk1 (by omega) hc5]
        simp [fU]
        omega
      · intro q hq
        show fU B j _ j q = _
        rw [fU, if_pos rfl, mpF, if_neg (by show ¬ _; omega)]
      · intro q hq
        show fU B j _ j q = _
        rw [fU, if_pos rfl, mpF, if_neg (by show ¬ _; omega)]
    · rename_i hk hle
      refine ⟨hp.2.1, Int.le_refl _, ?_, ?_, ?_, ?_⟩
      · refine CI_set hI (tkF_01 (tkF_01 hI.1 (Or.inr rfl)) (Or.inl rfl)) ?_
        obtain ⟨m0, m2, m3, m4, m5, m6, m8, m9, m10, mp⟩ := FI.mp hf (a := p) (b := (chH j T v B p R).2) (n := R) (by omega) (by omega) hr
        simp only [fU] at m0 m2 m3 m4 m5 m6 m8 m9 m10
        unfold FI
        simp only [fU]
        exact ⟨m0, m2, m3, m4, by simp; omega, by simp; omega, m8, m9, m10, mp⟩
      · refine Int.le_trans ?_ (Int.le_of_eq (lF_set hj).symm)
        dsimp only
        have h1 := sI_tk0 (T := tkF T (chH j T v B p R).2 (chH j T v B p R).1 1) (a := v j 6) (n := v j 7) (by omega) (tkF_01 hI.1 (Or.inr rfl))
        rw [sI_tk1 (by omega) hc5] at h1
        simp [fU]
        omega
      · intro q hq
        show fU B j _ j q = _
        rw [fU, if_pos rfl, mpF, if_neg (by show ¬ _; omega)]
      · intro q hq
        show fU B j _ j q = _
        rw [fU, if_pos rfl, mpF, if_neg (by show ¬ _; omega)]
