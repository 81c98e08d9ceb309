/-! aligned pieces of a group, one behind the other -/
theorem al_next {L f q : Int} (hL : L = 1 ∨ L = 2 ∨ L = 4 ∨ L = 8 ∨ L = 16 ∨ L = 32) (hf : 0 ≤ f ∧ f < 32) (h : f % L = 0) : f + L ≤ 32 ∧ (f + L) % L = 0 ∧ (32 * q + f) % 32 + L ≤ 32 ∧ (32 * q + f) % L = 0 ∧ ∀ j, 32 * q + f < j → j < 32 * q + f + L → j % L ≠ 0 := by
  rcases hL with rfl | rfl | rfl | rfl | rfl | rfl <;> exact ⟨by omega, by omega, by omega, by omega, fun j h1 h2 => by omega⟩
theorem sI_fst {g : Int → Int} {a : Int} : ∀ n : Nat, 1 ≤ n → (∀ j, a < j → j < a + n → g j = 0) → sI g a (a + n) = g a
  | 0, h, _ => by omega
  | n + 1, _, h => by
    by_cases hn : n = 0
    · subst hn
      rw [show a + ((0 + 1 : Nat) : Int) = a + 1 by omega, sI_s (Int.le_refl _), sI_0]
      omega
    · rw [show a + ((n + 1 : Nat) : Int) = a + n + 1 by omega, sI_s (by omega), sI_fst n (by omega) (fun j h1 h2 => h j h1 (by omega)), h (a + n) (by omega) (by omega)]
      omega
theorem pc_s {T : Int → Int} {L f q a x9 : Int} (hL : L = 1 ∨ L = 2 ∨ L = 4 ∨ L = 8 ∨ L = 16 ∨ L = 32) (hf : 0 ≤ f ∧ f < 32) (h : f % L = 0) (ha : a = sI (fun y => pI (aP T L y)) (32 * q) (32 * q + f)) (hx : x9 = 1 ∧ aF T (32 * q + f) L ∨ x9 = 0 ∧ ¬ aF T (32 * q + f) L) : a + x9 = sI (fun y => pI (aP T L y)) (32 * q) (32 * q + (f + L)) := by
  obtain ⟨h1, h2, h3, h4, h5⟩ := al_next (q := q) hL hf h
  rw [sI_cut (a := 32 * q) (b := 32 * q + f) (c := 32 * q + (f + L)) (by omega) (by omega), ← ha]
  have h6 := sI_fst (g := fun y => pI (aP T L y)) (a := 32 * q + f) L.toNat (by omega) (fun j j1 j2 => pI_f (fun h8 => h5 j j1 (by omega) h8.1))
  rw [show 32 * q + f + (L.toNat : Int) = 32 * q + (f + L) by omega] at h6
  rw [h6]
  rcases hx with ⟨rfl, h9⟩ | ⟨rfl, h9⟩
  · rw [pI_t (show aP T L (32 * q + f) from ⟨h4, h9⟩)]
  · rw [pI_f (fun h8 : aP T L (32 * q + f) => h9 h8.2)]
