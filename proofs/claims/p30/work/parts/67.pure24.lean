/-! the reference's leaves: a name added; files and names together -/
theorem spl_hA {n j q jj : Int} {ct : Int → Int} {nm : Int → Int → Int} (hc : ct j = 4) (hjj : jj = j ∨ jj = j + 1) (hno : ¬ hA ct nm q j) : (fU (shI ct j 2) j 2) jj = 2 ∧ ∀ k, 0 ≤ k → k < (fU (shI ct j 2) j 2) jj → shI nm j (spF (nm j)) jj k ≠ q := by
  rcases hjj with rfl | rfl
  · refine ⟨fU_s _ _ _, fun k k1 k2 k3 => hno ⟨k, k1, ?_, ?_⟩⟩
    · rw [fU_s] at k2; omega
    · rw [shI_le (Int.le_refl _)] at k3; exact k3
  · refine ⟨by rw [fU_n (by omega), shI_eq rfl], fun k k1 k2 k3 => ?_⟩
    rw [fU_n (by omega), shI_eq rfl] at k2
    rw [shI_eq rfl] at k3
    rcases (show k = 0 ∨ k = 1 by omega) with rfl | rfl
    · exact hno ⟨2, by omega, by omega, k3⟩
    · exact hno ⟨3, by omega, by omega, k3⟩
