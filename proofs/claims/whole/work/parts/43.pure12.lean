/-! a turn of flushing: T the taken blocks, v the fields, B the places; its length and what it leaves -/
def mI (a b : Int) : Int := if a ≤ b then a else b
theorem mI_c (a b : Int) : mI a b = a ∧ a ≤ b ∨ mI a b = b ∧ b < a := by unfold mI; split <;> omega
def lF (T : Int → Int) (v : Int → Int → Int) : Int := 128 - sI T 0 128 - sI (fun j => v j 4) 0 16
noncomputable def chH (j : Int) (T : Int → Int) (v B : Int → Int → Int) (p R : Int) : Int × Int := hvF T (gF j (B j) p) 4 (lnF R (lF T v))
noncomputable def chk (j : Int) (T : Int → Int) (v B : Int → Int → Int) (p R : Int) : Int × (Int → Int) × (Int → Int → Int) × (Int → Int → Int) :=
  if 0 < v j 7 ∧ v j 5 = p then
    (mI (v j 7) R, T, fU v j (fU (fU (fU (fU (v j) 4 (v j 4 - mI (v j 7) R)) 5 (p + mI (v j 7) R)) 6 (v j 6 + mI (v j 7) R)) 7 (v j 7 - mI (v j 7) R)), fU B j (mpF (B j) p (v j 6) (mI (v j 7) R)))
  else if (chH j T v B p R).1 ≤ R then
    ((chH j T v B p R).1, tkF T (chH j T v B p R).2 (chH j T v B p R).1 1, fU v j (fU (v j) 4 (v j 4 - (chH j T v B p R).1)), fU B j (mpF (B j) p (chH j T v B p R).2 (chH j T v B p R).1))
  else
    (R, tkF (tkF T (chH j T v B p R).2 (chH j T v B p R).1 1) (v j 6) (v j 7) 0, fU v j (fU (fU (fU (fU (fU (v j) 4 (v j 4 - R)) 7 0) 5 (p + R)) 6 ((chH j T v B p R).2 + R)) 7 ((chH j T v B p R).1 - R)), fU B j (mpF (B j) p (chH j T v B p R).2 R))
theorem sI_v4 {v : Int → Int → Int} {j : Int} {u : Int → Int} (hj : 0 ≤ j ∧ j < 16) : sI (fun i => fU v j u i 4) 0 16 = sI (fun i => v i 4) 0 16 - v j 4 + u 4 := by
  have h := sI_fU (g := fun i => v i 4) (x := u 4) hj.1 hj.2
  rw [← h]
  exact sI_congr (fun i h1 h2 => by unfold fU; split <;> rfl)
theorem sI_zero {T : Int → Int} {a n : Int} (hn : 0 ≤ n) (h : aF T a n) : sI T a (a + n) = 0 := by
  have h2 : ∀ k : Nat, (k : Int) ≤ n → sI T a (a + k) = 0 := by
    intro k
    induction k with
    | zero => intro _; simp [sI_0]
    | succ k ih =>
      intro hk
      rw [show a + ((k + 1 : Nat) : Int) = a + k + 1 by omega, sI_s (by omega), ih (by omega), h _ (by omega) (by omega)]
      rfl
  have h4 := h2 n.toNat (by omega)
  rwa [show (n.toNat : Int) = n by omega] at h4
theorem sI_tk1 {T : Int → Int} {a n : Int} (ha : 0 ≤ a ∧ 0 ≤ n ∧ a + n ≤ 128) (h : aF T a n) : sI (tkF T a n 1) 0 128 = sI T 0 128 + n := by
  rw [sI_tk ha, sI_zero ha.2.1 h]
  omega
theorem sI_tk0 {T : Int → Int} {a n : Int} (ha : 0 ≤ a ∧ 0 ≤ n ∧ a + n ≤ 128) (hT : ∀ i, T i = 0 ∨ T i = 1) : sI (tkF T a n 0) 0 128 ≤ sI T 0 128 := by
  rw [sI_tk ha]
  have h := sI_bd (g := T) (a := a) (b := a + n) (fun j => by have := hT j; omega) (by omega)
  omega
