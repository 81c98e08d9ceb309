/-! steps and crashes of the reference, in the class's words -/
theorem tkF_d {T : Int → Int} {a n x : Int} (h : 0 ≤ n) : tkF T (a - 1) (n + 1) x = fU (tkF T a n x) (a - 1) x := by
  funext j
  unfold tkF fU
  by_cases hj : j = a - 1
  · subst hj; rw [if_pos (by omega), if_pos rfl]
  · rw [if_neg hj]; dsimp only
    by_cases h2 : a ≤ j ∧ j < a + n
    · rw [if_pos h2, if_pos (by omega)]
    · rw [if_neg h2, if_neg (by omega)]
theorem clF_d' {f : Int → Int} {a b : Int} (h : a - 1 < b) : clF f (a - 1) b = fU (clF f a b) (a - 1) (-1) := by
  funext j
  unfold clF fU
  by_cases hj : j = a - 1
  · subst hj; rw [if_pos (by omega), if_pos rfl]
  · rw [if_neg hj]; dsimp only
    by_cases h2 : a ≤ j ∧ j < b
    · rw [if_pos h2, if_pos (by omega)]
    · rw [if_neg h2, if_neg (by omega)]
theorem clF_lt {f : Int → Int} {a b j : Int} (h : j < a) : clF f a b j = f j := by unfold clF; rw [if_neg (by omega)]
/-- the kept blocks let go and no file open, of the first files -/
def crV (v : Int → Int → Int) (i : Int) : Int → Int → Int := fun j => if 0 ≤ j ∧ j < i then fU (fU (v j) 7 0) 3 0 else v j
theorem crV_0 (v : Int → Int → Int) : crV v 0 = v := by funext j; unfold crV; rw [if_neg (by omega)]
theorem crV_at {v : Int → Int → Int} {i : Int} : crV v i i = v i := by unfold crV; rw [if_neg (by omega)]
theorem crV_s {v : Int → Int → Int} {i : Int} (h : 0 ≤ i) : fU (crV v i) i (fU (fU (v i) 7 0) 3 0) = crV v (i + 1) := by
  funext j
  unfold crV fU
  by_cases hj : j = i
  · subst hj; rw [if_pos rfl, if_pos (by omega)]
  · rw [if_neg hj]; dsimp only
    by_cases h2 : 0 ≤ j ∧ j < i
    · rw [if_pos h2, if_pos (by omega)]
    · rw [if_neg h2, if_neg (by omega)]
theorem rlT_cg {v v' : Int → Int → Int} {T : Int → Int} : ∀ k : Nat, k ≤ 16 → (∀ j, 0 ≤ j → j < 16 → v' j 6 = v j 6 ∧ v' j 7 = v j 7) → rlT v' T k = rlT v T k
  | 0, _, _ => rfl
  | k + 1, hk, h => by
    show tkF (rlT v' T k) (v' k 6) (v' k 7) 0 = tkF (rlT v T k) (v k 6) (v k 7) 0
    rw [rlT_cg k (by omega) h, (h k (by omega) (by omega)).1, (h k (by omega) (by omega)).2]
/-- the reserved places of all files gone, up to the k-th -/
def cB (B : Int → Int → Int) (i : Int) : Int → Int → Int := fun j p => if 64 * j + p < i ∧ B j p = -2 then -1 else B j p
theorem ctS_skip {y : Int} {T f : Int → Int} {sc n : Int} {k' : Nat} : ∀ k : Nat, k' ≤ k → (∀ p, y + k' ≤ p → p < y + k → f p < 0) → ctS y k T f sc n = ctS y k' T f sc n
  | 0, h, _ => by rw [show k' = 0 by omega]
  | k + 1, h, hn => by
    by_cases hk : k' = k + 1
    · rw [hk]
    · rw [ctS_no rfl (by have := hn (y + k) (by omega) (by omega); omega)]
      exact ctS_skip k (by omega) (fun p h1 h2 => hn p h1 (by omega))
abbrev K67 (v : Int → Int → Int) : Prop := ∀ j, 0 ≤ j → j < 16 → 0 ≤ v j 6 ∧ 0 ≤ v j 7 ∧ v j 6 + v j 7 ≤ 128
theorem K67.rl {v : Int → Int → Int} (h : K67 v) (q : Int) : K67 (fU v q (fU (v q) 7 0)) := by
  intro j h1 h2
  unfold fU
  by_cases hj : j = q
  · rw [if_pos hj]
    have := h j h1 h2
    simp only [fU]
    subst hj
    refine ⟨this.1, Int.le_refl 0, ?_⟩
    show v j 6 + 0 ≤ 128
    omega
  · rw [if_neg hj]; exact h j h1 h2
theorem CI.k67 {T : Int → Int} {v B : Int → Int → Int} {sc dn : Int} (h : CI T v B sc dn) : K67 v := fun j h1 h2 => (h.2.1 j h1 h2).2.2.2.2.2.1
theorem CI.bb {T : Int → Int} {v B : Int → Int → Int} {sc dn : Int} (h : CI T v B sc dn) : ∀ j, 0 ≤ j → j < 16 → ∀ p, -2 ≤ B j p ∧ B j p ≤ 127 := fun j h1 h2 => (h.2.1 j h1 h2).2.2.2.2.2.2.2.2.2
theorem ctS_n {y : Int} : ∀ (k : Nat) (T f : Int → Int) (sc n : Int), n ≤ (ctS y k T f sc n).2.2.2.2 ∧ (ctS y k T f sc n).2.2.2.2 ≤ n + k
  | 0, T, f, sc, n => ⟨Int.le_refl _, by show n ≤ n + ((0 : Nat) : Int); omega⟩
  | k + 1, T, f, sc, n => by
    by_cases h : 0 ≤ f (y + k)
    · by_cases hs : sc = 1
      · rw [ctS_cr rfl h hs]
        show n ≤ n + 1 ∧ n + 1 ≤ n + ((k + 1 : Nat) : Int)
        omega
      · rw [ctS_st rfl h hs]
        have := ctS_n (y := y) k (tkF T (f (stF f y 3 (y + k))) (y + k + 1 - stF f y 3 (y + k)) 0) (clF f (stF f y 3 (y + k)) (y + k + 1)) (if sc = -1 then sc else sc - 1) (n + 1)
        omega
    · rw [ctS_no rfl h]
      have := ctS_n (y := y) k T f sc n
      omega
theorem fF_skip {P : Int → Prop} {b a' : Int} : ∀ (n : Nat) (a : Int), a' - a = n → a' ≤ b → (∀ j, a ≤ j → j < a' → ¬ P j) → fF P a b = fF P a' b
  | 0, a, h, _, _ => by rw [show a = a' by omega]
  | n + 1, a, h, hb, hn => by
    rw [fF_miss (by omega) (hn a (Int.le_refl _) (by omega))]
    exact fF_skip n (a + 1) (by omega) hb (fun j h1 h2 => hn j (by omega) h2)
theorem lnF_u {k i i9 L : Int} (h1 : i = 1 ∨ i = 2 ∨ i = 4 ∨ i = 8 ∨ i = 16) (h2 : i = 1 ∨ i / 2 < k) (h3 : k ≤ i ∨ 16 ≤ i) (h4 : i9 = i ∧ ¬ i - k > L ∨ i9 = i / 2 ∧ i - k > L) : i9 = lnF k L := by
  have hln0 : ln0 k = i := by unfold ln0; split <;> (try split) <;> (try split) <;> (try split) <;> omega
  unfold lnF
  rw [hln0]
  split <;> omega
