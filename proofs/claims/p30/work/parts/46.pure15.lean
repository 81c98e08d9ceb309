/-! the end of a reserved row -/
noncomputable def eR (f : Int → Int) (p : Int) : Int := if fF (fun q => f q ≠ -2) p 64 = -1 then 64 else fF (fun q => f q ≠ -2) p 64
theorem eR_u {f : Int → Int} {p x : Int} (hp : 0 ≤ p) (h1 : p ≤ x) (h2 : x ≤ 64) (h3 : ∀ q, p ≤ q → q < x → f q = -2) (h4 : x = 64 ∨ f x ≠ -2) : eR f p = x := by
  unfold eR
  rcases fF_spec (P := fun q => f q ≠ -2) (b := 64) _ p rfl with ⟨s1, s2⟩ | ⟨s1, s2, s3, s4⟩
  · rw [if_pos s1]
    by_cases hx : x = 64
    · exact hx.symm
    · rcases h4 with h4 | h4
      · exact h4.symm
      · exact absurd h4 (s2 x h1 (by omega))
  · rw [if_neg (by omega)]
    by_cases hlt : fF (fun q => f q ≠ -2) p 64 < x
    · exact absurd (h3 _ s1 hlt) s3
    · by_cases hgt : x < fF (fun q => f q ≠ -2) p 64
      · rcases h4 with h4 | h4
        · omega
        · exact absurd h4 (s4 x h1 hgt)
      · omega
