/-! what is found is free; something is found while a block is free -/
theorem fT_aF {T : Int → Int} {g n : Int} : ∀ k : Nat, fT T g n k ≠ -1 → aF T (fT T g n k) n
  | 0, h => absurd rfl h
  | k + 1, h => by
    have hs := fF_spec (P := aP T n) (b := 32 * ((g + (3 - (k : Int))) % 4) + 32) _ (32 * ((g + (3 - (k : Int))) % 4)) rfl
    unfold fT at h ⊢
    by_cases h1 : fP T ((g + (3 - (k : Int))) % 4) n = -1
    · rw [if_pos h1] at h ⊢
      exact fT_aF k h
    · rw [if_neg h1] at h ⊢
      unfold fP at h1 ⊢
      rcases hs with hs | ⟨-, -, h3, -⟩
      · exact absurd hs.1 h1
      · exact h3.2
theorem fD_aF {T : Int → Int} {goal n : Int} (h : fD T goal n ≠ -1) : aF T (fD T goal n) n := by
  unfold fD at h ⊢
  by_cases h1 : goal % 32 + n ≤ 32 ∧ aF T goal n
  · rw [if_pos h1] at h ⊢; exact h1.2
  · rw [if_neg h1] at h ⊢; exact fT_aF 4 h
theorem fP_no {T : Int → Int} {g : Int} (h : fP T g 1 = -1) (hg : 0 ≤ g) {a : Int} (ha : 32 * g ≤ a ∧ a < 32 * g + 32) : T a ≠ 0 := by
  unfold fP at h
  rcases fF_spec (P := aP T 1) (b := 32 * g + 32) _ (32 * g) rfl with hs | ⟨h1, -, -, -⟩
  · intro h0
    refine hs.2 a ha.1 ha.2 ⟨by omega, fun j h1 h2 => ?_⟩
    rw [show j = a by omega]; exact h0
  · omega
theorem fT_no {T : Int → Int} {g : Int} : ∀ k : Nat, fT T g 1 k = -1 → ∀ i : Nat, i < k → fP T ((g + (3 - (i : Int))) % 4) 1 = -1
  | 0, _, i, hi => by omega
  | k + 1, h, i, hi => by
    unfold fT at h
    by_cases h1 : fP T ((g + (3 - (k : Int))) % 4) 1 = -1
    · rw [if_pos h1] at h
      by_cases hik : i = k
      · rw [hik]; exact h1
      · exact fT_no k h i (by omega)
    · rw [if_neg h1] at h; exact absurd h h1
theorem fD_no {T : Int → Int} {goal : Int} (hg : 0 ≤ goal ∧ goal < 128) (h : fD T goal 1 = -1) {a : Int} (ha : 0 ≤ a ∧ a < 128) : T a ≠ 0 := by
  unfold fD at h
  by_cases h1 : goal % 32 + 1 ≤ 32 ∧ aF T goal 1
  · rw [if_pos h1] at h; omega
  · rw [if_neg h1] at h
    have h2 := fT_no 4 h
    have e0 : fP T ((goal / 32 + 3) % 4) 1 = -1 := by
      have h3 := h2 0 (by decide)
      rwa [show (3 - ((0 : Nat) : Int)) = 3 from rfl] at h3
    have e1 : fP T ((goal / 32 + 2) % 4) 1 = -1 := by
      have h3 := h2 1 (by decide)
      rwa [show (3 - ((1 : Nat) : Int)) = 2 from rfl] at h3
    have e2 : fP T ((goal / 32 + 1) % 4) 1 = -1 := by
      have h3 := h2 2 (by decide)
      rwa [show (3 - ((2 : Nat) : Int)) = 1 from rfl] at h3
    have e3 : fP T ((goal / 32 + 0) % 4) 1 = -1 := by
      have h3 := h2 3 (by decide)
      rwa [show (3 - ((3 : Nat) : Int)) = 0 from rfl] at h3
    have hc : a / 32 = (goal / 32 + 3) % 4 ∨ a / 32 = (goal / 32 + 2) % 4 ∨ a / 32 = (goal / 32 + 1) % 4 ∨ a / 32 = (goal / 32 + 0) % 4 := by omega
    rcases hc with hc | hc | hc | hc
    · exact fP_no (g := a / 32) (by rw [hc]; exact e0) (by omega) (by omega)
    · exact fP_no (g := a / 32) (by rw [hc]; exact e1) (by omega) (by omega)
    · exact fP_no (g := a / 32) (by rw [hc]; exact e2) (by omega) (by omega)
    · exact fP_no (g := a / 32) (by rw [hc]; exact e3) (by omega) (by omega)
theorem hvF_sp {T : Int → Int} {goal : Int} (hg : 0 ≤ goal ∧ goal < 128) : ∀ (k : Nat) (len : Int), (len = 1 ∨ len = 2 ∧ 1 ≤ k ∨ len = 4 ∧ 2 ≤ k ∨ len = 8 ∧ 3 ≤ k ∨ len = 16 ∧ 4 ≤ k) →
    ((hvF T goal k len).1 = 1 ∨ (hvF T goal k len).1 = 2 ∨ (hvF T goal k len).1 = 4 ∨ (hvF T goal k len).1 = 8 ∨ (hvF T goal k len).1 = 16) ∧ ((hvF T goal k len).1 = len ∨ 2 * (hvF T goal k len).1 ≤ len) ∧
    (((hvF T goal k len).2 = -1 ∧ ∀ a, 0 ≤ a → a < 128 → T a ≠ 0) ∨ (0 ≤ (hvF T goal k len).2 ∧ (hvF T goal k len).2 + (hvF T goal k len).1 ≤ 128 ∧ aF T (hvF T goal k len).2 (hvF T goal k len).1)) := by
  intro k
  induction k with
  | zero =>
    intro len hl
    have hl1 : len = 1 := by omega
    subst hl1
    refine ⟨Or.inl rfl, Or.inl rfl, ?_⟩
    show (fD T goal 1 = -1 ∧ _) ∨ (0 ≤ fD T goal 1 ∧ fD T goal 1 + 1 ≤ 128 ∧ aF T (fD T goal 1) 1)
    by_cases h : fD T goal 1 = -1
    · exact Or.inl ⟨h, fun a h1 h2 => fD_no hg h ⟨h1, h2⟩⟩
    · rcases fD_bd (T := T) (goal := goal) (n := 1) hg (Or.inl rfl) with h1 | ⟨h1, h2⟩
      · exact absurd h1 h
      · exact Or.inr ⟨h1, h2, fD_aF h⟩
  | succ k ih =>
    intro len hl
    by_cases h : fD T goal len = -1 ∧ 1 < len
    · rw [hvF_t h]
      obtain ⟨h1, h2, h3⟩ := ih (len / 2) (by omega)
      exact ⟨h1, by omega, h3⟩
    · rw [hvF_f h]
      refine ⟨by show len = 1 ∨ _; omega, Or.inl rfl, ?_⟩
      show (fD T goal len = -1 ∧ _) ∨ (0 ≤ fD T goal len ∧ fD T goal len + len ≤ 128 ∧ aF T (fD T goal len) len)
      by_cases h0 : fD T goal len = -1
      · have hl1 : len = 1 := by omega
        subst hl1
        exact Or.inl ⟨h0, fun a h1 h2 => fD_no hg h0 ⟨h1, h2⟩⟩
      · rcases fD_bd (T := T) (goal := goal) (n := len) hg (by omega) with h1 | ⟨h1, h2⟩
        · exact absurd h1 h0
        · exact Or.inr ⟨h1, h2, fD_aF h0⟩
