/-! what a file's fields are behind an ending, an opening -/
theorem FI.end {j : Int} {u f : Int → Int} (h : FI j u f) : FI j (fU (fU (fU u 2 0) 8 0) 9 0) f := by
  obtain ⟨h0, h2, h3, h4, h5, h6, h8, h9, h10, hp⟩ := h
  unfold FI
  simp only [fU]
  exact ⟨h0, Or.inl rfl, h3, h4, h5, h6, Or.inl rfl, Or.inl rfl, h10, hp⟩
theorem FI.op {j x : Int} {u f : Int → Int} (h : FI j u f) (hx : 0 ≤ x ∧ x ≤ 1000000) : FI j (fU u 3 x) f := by
  obtain ⟨h0, h2, h3, h4, h5, h6, h8, h9, h10, hp⟩ := h
  unfold FI
  simp only [fU]
  exact ⟨h0, h2, hx, h4, h5, h6, h8, h9, h10, hp⟩
