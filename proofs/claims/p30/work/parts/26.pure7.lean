/-! crashing: what is reserved goes, no file is open -/
theorem rC_dr0 (f : Int → Int) : rC (drF f 0 64) = 0 := by
  unfold rC
  rw [sI_congr (g' := fun _ => 0) (fun j h1 h2 => by
    apply eqI_f
    unfold drF
    split
    · omega
    · rename_i h
      intro h3
      exact h ⟨h1, h2, h3⟩)]
  have key : ∀ n : Nat, sm (fun _ => 0) 0 n = 0 := by
    intro n
    induction n with
    | zero => rfl
    | succ n ih => show sm (fun _ => 0) 0 n + 0 = 0; rw [ih]; rfl
  exact key _
theorem drF_bd {f : Int → Int} {a b : Int} (h : ∀ p, -2 ≤ f p ∧ f p ≤ 127) (p : Int) : -2 ≤ drF f a b p ∧ drF f a b p ≤ 127 := by
  unfold drF
  split
  · omega
  · exact h p
def flV (v : Int → Int → Int) (i : Int) : Int → Int → Int := fun j => if 0 ≤ j ∧ j < i then fU (fU (v j) 4 0) 3 0 else v j
def flB (B : Int → Int → Int) (i : Int) : Int → Int → Int := fun j => if 0 ≤ j ∧ j < i then drF (B j) 0 64 else B j
theorem flV_0 (v : Int → Int → Int) : flV v 0 = v := by funext j; unfold flV; rw [if_neg (by omega)]
theorem flB_0 (B : Int → Int → Int) : flB B 0 = B := by funext j; unfold flB; rw [if_neg (by omega)]
theorem flV_at {v : Int → Int → Int} {i : Int} : flV v i i = v i := by unfold flV; rw [if_neg (by omega)]
theorem flB_at {B : Int → Int → Int} {i : Int} : flB B i i = B i := by unfold flB; rw [if_neg (by omega)]
theorem flV_s {v : Int → Int → Int} {i : Int} (h : 0 ≤ i) : fU (flV v i) i (fU (fU (v i) 4 0) 3 0) = flV v (i + 1) := by
  funext j
  unfold flV fU
  by_cases hj : j = i
  · subst hj; rw [if_pos rfl, if_pos (by omega)]
  · rw [if_neg hj]; dsimp only
    by_cases h2 : 0 ≤ j ∧ j < i
    · rw [if_pos h2, if_pos (by omega)]
    · rw [if_neg h2, if_neg (by omega)]
theorem flB_s {B : Int → Int → Int} {i : Int} (h : 0 ≤ i) : fU (flB B i) i (drF (B i) 0 64) = flB B (i + 1) := by
  funext j
  unfold flB fU
  by_cases hj : j = i
  · subst hj; rw [if_pos rfl, if_pos (by omega)]
  · rw [if_neg hj]; dsimp only
    by_cases h2 : 0 ≤ j ∧ j < i
    · rw [if_pos h2, if_pos (by omega)]
    · rw [if_neg h2, if_neg (by omega)]
theorem FI.fall {j : Int} {u f : Int → Int} (h : FI j u f) : FI j (fU (fU u 4 0) 3 0) (drF f 0 64) := by
  obtain ⟨h0, h2, h3, h4, h5, h6, h8, h9, h10, hp⟩ := h
  unfold FI
  simp only [fU, rC_dr0]
  exact ⟨h0, h2, by omega, rfl, h5, h6, h8, h9, h10, drF_bd hp⟩
/-- the step: how far ahead it goes -/
def stF (f : Int → Int) (size : Int) : Nat → Int → Int
  | 0, a => a
  | k + 1, a => if size < a ∧ jN f a = 1 then stF f size k (a - 1) else a
def clF (f : Int → Int) (a b : Int) : Int → Int := fun p => if a ≤ p ∧ p < b then -1 else f p
theorem clF_0 (f : Int → Int) (a : Int) : clF f a a = f := by funext p; unfold clF; rw [if_neg (by omega)]
theorem clF_s {f : Int → Int} {a b : Int} (h : a ≤ b) : fU (clF f a b) b (-1) = clF f a (b + 1) := by
  funext p
  unfold clF fU
  by_cases hp : p = b
  · subst hp; rw [if_pos rfl, if_pos (by omega)]
  · rw [if_neg hp]; dsimp only
    by_cases h2 : a ≤ p ∧ p < b
    · rw [if_pos h2, if_pos (by omega)]
    · rw [if_neg h2, if_neg (by omega)]
theorem clF_ge {f : Int → Int} {a b p : Int} (h : b ≤ p) : clF f a b p = f p := by unfold clF; rw [if_neg (by omega)]
theorem clF_bd {f : Int → Int} {a b : Int} (h : ∀ p, -2 ≤ f p ∧ f p ≤ 127) (p : Int) : -2 ≤ clF f a b p ∧ clF f a b p ≤ 127 := by
  unfold clF
  split
  · omega
  · exact h p
theorem jN_iff (f : Int → Int) (a : Int) : jN f a = 1 ↔ 0 < a ∧ 0 ≤ f a ∧ 0 ≤ f (a - 1) ∧ f a = f (a - 1) + 1 := by
  unfold jN
  split
  · exact ⟨fun _ => by assumption, fun _ => rfl⟩
  · exact ⟨fun h => by omega, fun h => by contradiction⟩
theorem stF_spec (f : Int → Int) (size : Int) : ∀ (k : Nat) (a : Int), stF f size k a ≤ a ∧ a - stF f size k a ≤ k ∧ (size ≤ a → size ≤ stF f size k a) ∧ (∀ q, stF f size k a < q → q ≤ a → jN f q = 1)
  | 0, a => ⟨Int.le_refl _, by simp [stF], fun h => h, fun q h1 h2 => by simp [stF] at h1; omega⟩
  | k + 1, a => by
    unfold stF
    split
    · rename_i hc
      obtain ⟨h1, h2, h3, h4⟩ := stF_spec f size k (a - 1)
      refine ⟨by omega, by omega, fun h => h3 (by omega), fun q h5 h6 => ?_⟩
      by_cases hq : q = a
      · rw [hq]; exact hc.2
      · exact h4 q h5 (by omega)
    · exact ⟨Int.le_refl _, by omega, fun h => h, fun q h1 h2 => by omega⟩
theorem stF_run {f : Int → Int} {a b : Int} (h : ∀ q, a < q → q ≤ b → jN f q = 1) : ∀ (k : Nat), a + k ≤ b → f (a + k) = f a + k
  | 0, _ => by simp
  | k + 1, hk => by
    have ih := stF_run h k (by omega)
    have h1 := (jN_iff f (a + ((k + 1 : Nat) : Int))).mp (h _ (by omega) hk)
    rw [show a + ((k + 1 : Nat) : Int) - 1 = a + k by omega] at h1
    omega
theorem rC_cl {f : Int → Int} {a b : Int} (h : ∀ p, a ≤ p → p < b → 0 ≤ f p) : rC (clF f a b) = rC f := by
  unfold rC
  refine sI_congr (fun j h1 h2 => ?_)
  unfold clF
  by_cases hj : a ≤ j ∧ j < b
  · rw [if_pos hj, eqI_f (by decide), eqI_f (by have := h j hj.1 hj.2; omega)]
  · rw [if_neg hj]
theorem tkF_1 (T : Int → Int) (a x : Int) : tkF T a 1 x = fU T a x := by
  funext j
  unfold tkF fU
  by_cases hj : j = a
  · rw [if_pos (by omega), if_pos hj]
  · rw [if_neg (by omega), if_neg hj]
theorem FI.setB {j : Int} {u f F : Int → Int} (h : FI j u f) (hr : rC F = rC f) (hp : ∀ p, -2 ≤ F p ∧ F p ≤ 127) : FI j u F := by
  obtain ⟨h0, h2, h3, h4, h5, h6, h8, h9, h10, -⟩ := h
  exact ⟨h0, h2, h3, h4.trans hr.symm, h5, h6, h8, h9, h10, hp⟩
/-- cutting: the steps from the last place down to the size; 1 ahead: a crash has come -/
def ctS (y : Int) : Nat → (Int → Int) → (Int → Int) → Int → Int → Int × (Int → Int) × (Int → Int) × Int × Int
  | 0, T, f, sc, n => (0, T, f, sc, n)
  | k + 1, T, f, sc, n =>
    if 0 ≤ f (y + k) then
      (if sc = 1 then (1, tkF T (f (stF f y 3 (y + k))) (y + k + 1 - stF f y 3 (y + k)) 0, clF f (stF f y 3 (y + k)) (y + k + 1), sc, n + 1)
       else ctS y k (tkF T (f (stF f y 3 (y + k))) (y + k + 1 - stF f y 3 (y + k)) 0) (clF f (stF f y 3 (y + k)) (y + k + 1)) (if sc = -1 then sc else sc - 1) (n + 1))
    else ctS y k T f sc n
theorem ctS_cr {y : Int} {k : Nat} {T f : Int → Int} {sc n q : Int} (hq : q = y + k) (h : 0 ≤ f q) (hs : sc = 1) : ctS y (k + 1) T f sc n = (1, tkF T (f (stF f y 3 q)) (q + 1 - stF f y 3 q) 0, clF f (stF f y 3 q) (q + 1), sc, n + 1) := by
  subst hq
  show (if _ then _ else _) = _
  rw [if_pos h, if_pos hs]
theorem ctS_st {y : Int} {k : Nat} {T f : Int → Int} {sc n q : Int} (hq : q = y + k) (h : 0 ≤ f q) (hs : ¬ sc = 1) : ctS y (k + 1) T f sc n = ctS y k (tkF T (f (stF f y 3 q)) (q + 1 - stF f y 3 q) 0) (clF f (stF f y 3 q) (q + 1)) (if sc = -1 then sc else sc - 1) (n + 1) := by
  subst hq
  show (if _ then _ else _) = _
  rw [if_pos h, if_neg hs]
theorem ctS_no {y : Int} {k : Nat} {T f : Int → Int} {sc n q : Int} (hq : q = y + k) (h : ¬ 0 ≤ f q) : ctS y (k + 1) T f sc n = ctS y k T f sc n := by
  subst hq
  show (if _ then _ else _) = _
  rw [if_neg h]
theorem rC_dr {f : Int → Int} {y : Int} (hy : 0 ≤ y ∧ y ≤ 64) : rC (drF f y 64) = rC f - sI (fun p => eqI (f p) (-2)) y 64 := by
  unfold rC
  rw [sI_cut (a := 0) (b := y) (c := 64) hy.1 hy.2, sI_cut (g := fun p => eqI (f p) (-2)) (a := 0) (b := y) (c := 64) hy.1 hy.2]
  have h1 : sI (fun p => eqI (drF f y 64 p) (-2)) 0 y = sI (fun p => eqI (f p) (-2)) 0 y := sI_congr (fun j h1 h2 => by unfold drF; rw [if_neg (by omega)])
  have h2 : ∀ k : Nat, y + k ≤ 64 → sI (fun p => eqI (drF f y 64 p) (-2)) y (y + k) = 0 := by
    intro k
    induction k with
    | zero => intro _; simp [sI_0]
    | succ k ih =>
      intro hk
      rw [show y + ((k + 1 : Nat) : Int) = y + k + 1 by omega, sI_s (by omega), ih (by omega)]
      have : eqI (drF f y 64 (y + k)) (-2) = 0 := by
        apply eqI_f
        unfold drF
        split
        · omega
        · rename_i h
          intro h3
          exact h ⟨by omega, by omega, h3⟩
      rw [this]; rfl
  have h3 := h2 (64 - y).toNat (by omega)
  rw [show y + ((64 - y).toNat : Int) = 64 by omega] at h3
  rw [h1, h3]
  omega
/-- a file's fields when its cutting begins -/
def ctU (u f : Int → Int) (y : Int) : Int → Int := fU (fU (fU (fU u 8 1) 10 y) 4 (u 4 - sI (fun p => eqI (f p) (-2)) y 64)) 7 0
theorem FI.mkU {j y : Int} {u f : Int → Int} (h : FI j u f) (hy : 0 ≤ y ∧ y ≤ 64) : FI j (ctU u f y) (drF f y 64) := by
  obtain ⟨h0, h2, h3, h4, h5, h6, h8, h9, h10, hp⟩ := h
  unfold FI ctU
  simp only [fU]
  exact ⟨h0, h2, h3, by rw [rC_dr hy]; show u 4 - _ = _; omega, h5, by show 0 ≤ u 6 ∧ 0 ≤ (0 : Int) ∧ u 6 + 0 ≤ 128; omega, Or.inr rfl, h9, hy, drF_bd hp⟩
theorem FI.set8 {j x : Int} {u f : Int → Int} (h : FI j u f) (hx : x = 0 ∨ x = 1) : FI j (fU u 8 x) f := by
  obtain ⟨h0, h2, h3, h4, h5, h6, h8, h9, h10, hp⟩ := h
  unfold FI
  simp only [fU]
  exact ⟨h0, h2, h3, h4, h5, h6, hx, h9, h10, hp⟩
theorem FI.ct1 {j y : Int} {u f : Int → Int} (h : FI j u f) (hy : 0 ≤ y ∧ y ≤ 64) : FI j (fU (fU (fU u 8 1) 10 y) 4 (u 4 - sI (fun p => eqI (f p) (-2)) y 64)) (drF f y 64) := by
  obtain ⟨h0, h2, h3, h4, h5, h6, h8, h9, h10, hp⟩ := h
  unfold FI
  simp only [fU]
  exact ⟨h0, h2, h3, by rw [rC_dr hy]; show u 4 - _ = _; omega, h5, h6, Or.inr rfl, h9, hy, drF_bd hp⟩
