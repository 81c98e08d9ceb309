/-! flushing a row of reserved places, turn by turn, from p to e -/
noncomputable def mrS (j e : Int) : Nat → Int → (Int → Int) → (Int → Int → Int) → (Int → Int → Int) → (Int → Int) × (Int → Int → Int) × (Int → Int → Int)
  | 0, _, T, v, B => (T, v, B)
  | k + 1, p, T, v, B => if p < e then mrS j e k (p + (chk j T v B p (e - p)).1) (chk j T v B p (e - p)).2.1 (chk j T v B p (e - p)).2.2.1 (chk j T v B p (e - p)).2.2.2 else (T, v, B)
theorem mrS_t {j e : Int} {k : Nat} {p : Int} {T : Int → Int} {v B : Int → Int → Int} (h : p < e) : mrS j e (k + 1) p T v B = mrS j e k (p + (chk j T v B p (e - p)).1) (chk j T v B p (e - p)).2.1 (chk j T v B p (e - p)).2.2.1 (chk j T v B p (e - p)).2.2.2 := if_pos h
theorem mrS_f {j e : Int} {k : Nat} {p : Int} {T : Int → Int} {v B : Int → Int → Int} (h : e ≤ p) : mrS j e k p T v B = (T, v, B) := by
  cases k with
  | zero => rfl
  | succ k => exact if_neg (by omega)
theorem mrS_ok {j e sc dn : Int} (hj : 0 ≤ j ∧ j < 16) (he : e ≤ 64) : ∀ (k : Nat) (p : Int) (T : Int → Int) (v B : Int → Int → Int), 0 ≤ p → e - p ≤ k → CI T v B sc dn → 0 ≤ lF T v → (∀ q, p ≤ q → q < e → B j q = -2) →
    CI (mrS j e k p T v B).1 (mrS j e k p T v B).2.1 (mrS j e k p T v B).2.2 sc dn ∧ 0 ≤ lF (mrS j e k p T v B).1 (mrS j e k p T v B).2.1 ∧ (∀ q, e ≤ q → (mrS j e k p T v B).2.2 j q = B j q) ∧ (∀ q, q < p → (mrS j e k p T v B).2.2 j q = B j q) := by
  intro k
  induction k with
  | zero =>
    intro p T v B _ hk hI hL _
    rw [mrS_f (by omega)]
    exact ⟨hI, hL, fun _ _ => rfl, fun _ _ => rfl⟩
  | succ k ih =>
    intro p T v B hp hk hI hL hr
    by_cases h : p < e
    · rw [mrS_t h]
      obtain ⟨c1, c2, c3, c4, c5, c6⟩ := chk_ok (p := p) (R := e - p) hI hj (by omega) (fun q h1 h2 => hr q h1 (by omega)) hL
      obtain ⟨d1, d2, d3, d4⟩ := ih (p + (chk j T v B p (e - p)).1) _ _ _ (by omega) (by omega) c3 c4 (fun q h1 h2 => by rw [c5 q h1]; exact hr q (by omega) h2)
      exact ⟨d1, d2, fun q hq => by rw [d3 q hq, c5 q (by omega)], fun q hq => by rw [d4 q (by omega), c6 q hq]⟩
    · rw [mrS_f (by omega)]
      exact ⟨hI, hL, fun _ _ => rfl, fun _ _ => rfl⟩
