/-! what is on the list; the start's states -/
def RLs (f7 : Int → Int) (v : Int → Int → Int) : Prop := ∀ j, 0 ≤ j → j < 16 → (-1 ≤ f7 j ∧ f7 j ≤ 64) ∧ (v j 8 = 1 ↔ v j 9 = 1 ∨ f7 j ≠ -1) ∧ (v j 9 = 0 → f7 j ≠ -1 → f7 j = v j 10)
theorem ctS_bd {y : Int} : ∀ (k : Nat) (T f : Int → Int) (sc n : Int), (∀ p, -2 ≤ f p ∧ f p ≤ 127) → ∀ p, -2 ≤ (ctS y k T f sc n).2.2.1 p ∧ (ctS y k T f sc n).2.2.1 p ≤ 127
  | 0, T, f, sc, n, h, p => h p
  | k + 1, T, f, sc, n, h, p => by
    by_cases h0 : 0 ≤ f (y + k)
    · by_cases hs : sc = 1
      · rw [ctS_cr rfl h0 hs]
        exact clF_bd h p
      · rw [ctS_st rfl h0 hs]
        exact ctS_bd (y := y) k _ _ _ _ (clF_bd h) p
    · rw [ctS_no rfl h0]
      exact ctS_bd (y := y) k _ _ _ _ h p
abbrev BB7 (B : Int → Int → Int) : Prop := ∀ j, 0 ≤ j → j < 16 → ∀ p, -2 ≤ B j p ∧ B j p ≤ 127
theorem BB7.set {B : Int → Int → Int} (h : BB7 B) {q : Int} {f : Int → Int} (hf : ∀ p, -2 ≤ f p ∧ f p ≤ 127) : BB7 (fU B q f) := by
  intro j h1 h2 p
  unfold fU
  split
  · exact hf p
  · exact h j h1 h2 p
theorem K67.set {v : Int → Int → Int} (h : K67 v) {q : Int} {u : Int → Int} (hu : 0 ≤ u 6 ∧ 0 ≤ u 7 ∧ u 6 + u 7 ≤ 128) : K67 (fU v q u) := by
  intro j h1 h2
  unfold fU
  split
  · exact hu
  · exact h j h1 h2
theorem st1_k {s : S3} {j : Int} (hj : 0 ≤ j ∧ j < 16) (h1 : K67 s.2.1) (h2 : BB7 s.2.2) : K67 (st1 s j).2.1 ∧ BB7 (st1 s j).2.2 := by
  have h3 := h1 j hj.1 hj.2
  unfold st1
  split
  · exact ⟨h1.set (by show 0 ≤ s.2.1 j 6 ∧ (0 : Int) ≤ 0 ∧ s.2.1 j 6 + 0 ≤ 128; omega), h2.set (ctS_bd _ _ _ _ _ (drF_bd (h2 j hj.1 hj.2)))⟩
  · split
    · exact ⟨h1.set (by show 0 ≤ s.2.1 j 6 ∧ (0 : Int) ≤ 0 ∧ s.2.1 j 6 + 0 ≤ 128; omega), h2.set (ctS_bd _ _ _ _ _ (drF_bd (h2 j hj.1 hj.2)))⟩
    · exact ⟨h1, h2⟩
theorem stS_k {s : S3} (h1 : K67 s.2.1) (h2 : BB7 s.2.2) : ∀ k : Nat, k ≤ 16 → K67 (stS s k).2.1 ∧ BB7 (stS s k).2.2
  | 0, _ => ⟨h1, h2⟩
  | k + 1, hk => st1_k (by omega) (stS_k h1 h2 k (by omega)).1 (stS_k h1 h2 k (by omega)).2
theorem st1_at {s : S3} {j i : Int} (h : i ≠ j) : (st1 s j).2.1 i = s.2.1 i ∧ (st1 s j).2.2 i = s.2.2 i := by
  unfold st1
  split
  · exact ⟨fU_n h, fU_n h⟩
  · split
    · exact ⟨fU_n h, fU_n h⟩
    · exact ⟨rfl, rfl⟩
theorem stS_at {s : S3} {i : Int} : ∀ k : Nat, (k : Int) ≤ i → (stS s k).2.1 i = s.2.1 i ∧ (stS s k).2.2 i = s.2.2 i
  | 0, _ => ⟨rfl, rfl⟩
  | k + 1, hk => by
    have h := stS_at (s := s) (i := i) k (by omega)
    have h1 := st1_at (s := stS s k) (j := k) (i := i) (by omega)
    exact ⟨h1.1.trans h.1, h1.2.trans h.2⟩
theorem sm_add {g h : Int → Int} (a : Int) : ∀ n : Nat, sm (fun j => g j + h j) a n = sm g a n + sm h a n
  | 0 => rfl
  | n + 1 => by
    show sm (fun j => g j + h j) a n + (g (a + n) + h (a + n)) = (sm g a n + g (a + n)) + (sm h a n + h (a + n))
    rw [sm_add a n]
    omega
theorem sI_add {g h : Int → Int} (a b : Int) : sI (fun j => g j + h j) a b = sI g a b + sI h a b := sm_add a _
