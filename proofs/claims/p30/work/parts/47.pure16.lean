/-! flushing, place by place -/
noncomputable def fl1 (j p : Int) (T : Int → Int) (v B : Int → Int → Int) : (Int → Int) × (Int → Int → Int) × (Int → Int → Int) :=
  if B j p = -2 then mrS j (eR (B j) p) (eR (B j) p - p).toNat p T v B else (T, v, B)
noncomputable def flS (j : Int) (T : Int → Int) (v B : Int → Int → Int) : Nat → (Int → Int) × (Int → Int → Int) × (Int → Int → Int)
  | 0 => (T, v, B)
  | k + 1 => fl1 j k (flS j T v B k).1 (flS j T v B k).2.1 (flS j T v B k).2.2
theorem flS_s {j : Int} {T : Int → Int} {v B : Int → Int → Int} {i : Int} (h : 0 ≤ i) : flS j T v B (i + 1).toNat = fl1 j i (flS j T v B i.toNat).1 (flS j T v B i.toNat).2.1 (flS j T v B i.toNat).2.2 := by
  rw [show (i + 1).toNat = i.toNat + 1 by omega]
  show fl1 j ((i.toNat : Nat) : Int) _ _ _ = _
  rw [show ((i.toNat : Nat) : Int) = i by omega]
theorem eR_sp {f : Int → Int} {p : Int} (hp : 0 ≤ p ∧ p ≤ 64) : p ≤ eR f p ∧ eR f p ≤ 64 ∧ (∀ q, p ≤ q → q < eR f p → f q = -2) ∧ (eR f p = 64 ∨ f (eR f p) ≠ -2) := by
  unfold eR
  rcases fF_spec (P := fun q => f q ≠ -2) (b := 64) _ p rfl with ⟨s1, s2⟩ | ⟨s1, s2, s3, s4⟩
  · rw [if_pos s1]
    exact ⟨hp.2, Int.le_refl _, fun q h1 h2 => Classical.not_not.mp (s2 q h1 h2), Or.inl rfl⟩
  · rw [if_neg (by omega)]
    exact ⟨s1, by omega, fun q h1 h2 => Classical.not_not.mp (s4 q h1 h2), Or.inr s3⟩
theorem fl1_ok {j p sc dn : Int} {T : Int → Int} {v B : Int → Int → Int} (hj : 0 ≤ j ∧ j < 16) (hp : 0 ≤ p ∧ p ≤ 64) (hI : CI T v B sc dn) (hL : 0 ≤ lF T v) :
    CI (fl1 j p T v B).1 (fl1 j p T v B).2.1 (fl1 j p T v B).2.2 sc dn ∧ 0 ≤ lF (fl1 j p T v B).1 (fl1 j p T v B).2.1 := by
  unfold fl1
  split
  · obtain ⟨e1, e2, e3, -⟩ := eR_sp (f := B j) hp
    obtain ⟨d1, d2, -, -⟩ := mrS_ok (e := eR (B j) p) hj e2 (eR (B j) p - p).toNat p T v B hp.1 (by omega) hI hL e3
    exact ⟨d1, d2⟩
  · exact ⟨hI, hL⟩
theorem flS_ok {j sc dn : Int} {T : Int → Int} {v B : Int → Int → Int} (hj : 0 ≤ j ∧ j < 16) (hI : CI T v B sc dn) (hL : 0 ≤ lF T v) : ∀ k : Nat, k ≤ 64 →
    CI (flS j T v B k).1 (flS j T v B k).2.1 (flS j T v B k).2.2 sc dn ∧ 0 ≤ lF (flS j T v B k).1 (flS j T v B k).2.1 := by
  intro k
  induction k with
  | zero => intro _; exact ⟨hI, hL⟩
  | succ k ih =>
    intro hk
    obtain ⟨h1, h2⟩ := ih (by omega)
    exact fl1_ok hj (by omega) h1 h2
