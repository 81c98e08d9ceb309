/-! crashing: what is reserved goes, no file is open -/
theorem rC_dr0 (f : Int → Int) : rC (drF f 0 64) = 0 := by
  unfold rC
  rw [sI_congr (g' := fun _ => 0) (fun j h1 h2 => by
    apply eqI_f
    unfold drF
    split
    · omega
    · rename_i h
      intro h3
      exact h ⟨h1, h2, h3⟩)]
  have key : ∀ n : Nat, sm (fun _ => 0) 0 n = 0 := by
    intro n
    induction n with
    | zero => rfl
    | succ n ih => show sm (fun _ => 0) 0 n + 0 = 0; rw [ih]; rfl
  exact key _
theorem drF_bd {f : Int → Int} {a b : Int} (h : ∀ p, -2 ≤ f p ∧ f p ≤ 127) (p : Int) : -2 ≤ drF f a b p ∧ drF f a b p ≤ 127 := by
  unfold drF
  split
  · omega
  · exact h p
def flV (v : Int → Int → Int) (i : Int) : Int → Int → Int := fun j => if 0 ≤ j ∧ j < i then fU (fU (v j) 4 0) 3 0 else v j
def flB (B : Int → Int → Int) (i : Int) : Int → Int → Int := fun j => if 0 ≤ j ∧ j < i then drF (B j) 0 64 else B j
theorem flV_0 (v : Int → Int → Int) : flV v 0 = v := by funext j; unfold flV; rw [if_neg (by omega)]
theorem flB_0 (B : Int → Int → Int) : flB B 0 = B := by funext j; unfold flB; rw [if_neg (by omega)]
theorem flV_at {v : Int → Int → Int} {i : Int} : flV v i i = v i := by unfold flV; rw [if_neg (by omega)]
theorem flB_at {B : Int → Int → Int} {i : Int} : flB B i i = B i := by unfold flB; rw [if_neg (by omega)]
theorem flV_s {v : Int → Int → Int} {i : Int} (h : 0 ≤ i) : fU (flV v i) i (fU (fU (v i) 4 0) 3 0) = flV v (i + 1) := by
  funext j
  unfold flV fU
  by_cases hj : j = i
  · subst hj; rw [if_pos rfl, if_pos (by omega)]
  · rw [if_neg hj]; dsimp only
    by_cases h2 : 0 ≤ j ∧ j < i
    · rw [if_pos h2, if_pos (by omega)]
    · rw [if_neg h2, if_neg (by omega)]
theorem flB_s {B : Int → Int → Int} {i : Int} (h : 0 ≤ i) : fU (flB B i) i (drF (B i) 0 64) = flB B (i + 1) := by
  funext j
  unfold flB fU
  by_cases hj : j = i
  · subst hj; rw [if_pos rfl, if_pos (by omega)]
  · rw [if_neg hj]; dsimp only
    by_cases h2 : 0 ≤ j ∧ j < i
    · rw [if_pos h2, if_pos (by omega)]
    · rw [if_neg h2, if_neg (by omega)]
theorem FI.fall {j : Int} {u f : Int → Int} (h : FI j u f) : FI j (fU (fU u 4 0) 3 0) (drF f 0 64) := by
  obtain ⟨h0, h2, h3, h4, h5, h6, h8, h9, h10, hp⟩ := h
  unfold FI
  simp only [fU, rC_dr0]
  exact ⟨h0, h2, by omega, rfl, h5, h6, h8, h9, h10, drF_bd hp⟩
/-- the step: how far ahead it goes -/
def stF (f : Int → Int) (size : Int) : Nat → Int → Int
  | 0, a => a
  | k + 1, a => if size < a ∧ jN f a = 1 then stF f size k (a - 1) else a
def clF (f : Int → Int) (a b : Int) : Int → Int := fun p => if a ≤ p ∧ p < b then -1 else f p
theorem clF_0 (f : Int → Int) (a : Int) : clF f a a = f := by funext p; unfold clF; rw [if_neg (by omega)]
theorem clF_s {f : Int → Int} {a b : Int} (h : a ≤ b) : fU (clF f a b) b (-1) = clF f a (b + 1) := by
  funext p
  unfold clF fU
  by_cases hp : p = b
  · subst hp; rw [if_pos rfl, if_pos (by omega)]
  · rw [if_neg hp]; dsimp only
    by_cases h2 : a ≤ p ∧ p < b
    · rw [if_pos h2, if_pos (by omega)]
    · rw [if_neg h2, if_neg (by omega)]
theorem clF_ge {f : Int → Int} {a b p : Int} (h : b ≤ p) : clF f a b p = f p := by unfold clF; rw [if_neg (by omega)]
theorem clF_bd {f : Int → Int} {a b : Int} (h : ∀ p, -2 ≤ f p ∧ f p ≤ 127) (p : Int) : -2 ≤ clF f a b p ∧ clF f a b p ≤ 127 := by
  unfold clF
  split
  · omega
  · exact h p
theorem jN_iff (f : Int → Int) (a : Int) : jN f a = 1 ↔ 0 < a ∧ 0 ≤ f a ∧ 0 ≤ f (a - 1) ∧ f a = f (a - 1) + 1 := by
  unfold jN
  split
  · exact ⟨fun _ => by assumption, fun _ => rfl⟩
  · exact ⟨fun h => by omega, fun h => by contradiction⟩
theorem stF_spec (f : Int → Int) (size : Int) : ∀ (k : Nat) (a : Int), stF f size k a ≤ a ∧ a - stF f size k a ≤ k ∧ (size ≤ a → size ≤ stF f size k a) ∧ (∀ q, stF f size k a < q → q ≤ a → jN f q = 1)
  | 0, a => ⟨Int.le_refl _, by simp [stF], fun h => h, fun q h1 h2 => by simp [stF] at h1; omega⟩
  | k + 1, a => by
    unfold stF
    split
    · rename_i hc
      obtain ⟨h1, h2, h3, h4⟩ := stF_spec f size k (a - 1)
      refine ⟨by omega, by omega, fun h => h3 (by omega), fun q h5 h6 => ?_⟩
      by_cases hq : q = a
      · rw [hq]; exact hc.2
      · exact h4 q h5 (by omega)
    · exact ⟨Int.le_refl _, by omega, fun h => h, fun q h1 h2 => by omega⟩
theorem stF_run {f : Int → Int} {a b : Int} (h : ∀ q, a < q → q ≤ b → jN f q = 1) : ∀ (k : Nat), a + k ≤ b → f (a + k) = f a + k
  | 0, _ => by simp
  | k + 1, hk => by
    have ih := stF_run h k (by omega)
    have h1 := (jN_iff f (a + ((k + 1 : Nat) : Int))).mp (h _ (by omega) hk)
    rw [show a + ((k + 1 : Nat) : Int) - 1 = a + k by omega] at h1
    omega
theorem rC_cl {f : Int → Int} {a b : Int} (h : ∀ p, a ≤ p → p < b → 0 ≤ f p) : rC (clF f a b) = rC f := by
  unfold rC
  refine sI_congr (fun j h1 h2 => ?_)
  unfold clF
  by_cases hj : a ≤ j ∧ j < b
  · rw [if_pos hj, eqI_f (by decide), eqI_f (by have := h j hj.1 hj.2; omega)]
  · rw [if_neg hj]
theorem tkF_1 (T : Int → Int) (a x : Int) : tkF T a 1 x = fU T a x := by
  funext j
  unfold tkF fU
  by_cases hj : j = a
  · rw [if_pos (by omega), if_pos hj]
  · rw [if_neg (by omega), if_neg hj]
theorem FI.setB {j : Int} {u f F : Int → Int} (h : FI j u f) (hr : rC F = rC f) (hp : ∀ p, -2 ≤ F p ∧ F p ≤ 127) : FI j u F := by
  obtain ⟨h0, h2, h3, h4, h5, h6, h8, h9, h10, -⟩ := h
  exact ⟨h0, h2, h3, h4.trans hr.symm, h5, h6, h8, h9, h10, hp⟩
