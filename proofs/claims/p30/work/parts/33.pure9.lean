/-! starting: what was begun is finished, file by file -/
theorem ctS_m1 (y : Int) : ∀ (k : Nat) (T f : Int → Int) (n : Int), (ctS y k T f (-1) n).1 = 0 ∧ (ctS y k T f (-1) n).2.2.2.1 = -1
  | 0, T, f, n => ⟨rfl, rfl⟩
  | k + 1, T, f, n => by
    by_cases h : 0 ≤ f (y + k)
    · rw [ctS_st rfl h (by decide), if_pos rfl]
      exact ctS_m1 y k _ _ _
    · rw [ctS_no rfl h]
      exact ctS_m1 y k _ _ _
def st1 (s : (Int → Int) × (Int → Int → Int) × (Int → Int → Int)) (j : Int) : (Int → Int) × (Int → Int → Int) × (Int → Int → Int) :=
  if s.2.1 j 9 = 1 then
    ((ctS 0 (64 - (0 : Int)).toNat (tkF s.1 (s.2.1 j 6) (s.2.1 j 7) 0) (drF (s.2.2 j) 0 64) (-1) 0).2.1, fU s.2.1 j (fU (fU (fU (fU (ctU (s.2.1 j) (s.2.2 j) 0) 8 (s.2.1 j 9)) 2 0) 8 0) 9 0), fU s.2.2 j (ctS 0 (64 - (0 : Int)).toNat (tkF s.1 (s.2.1 j 6) (s.2.1 j 7) 0) (drF (s.2.2 j) 0 64) (-1) 0).2.2.1)
  else if s.2.1 j 8 = 1 then
    ((ctS (s.2.1 j 10) (64 - s.2.1 j 10).toNat (tkF s.1 (s.2.1 j 6) (s.2.1 j 7) 0) (drF (s.2.2 j) (s.2.1 j 10) 64) (-1) 0).2.1, fU s.2.1 j (fU (ctU (s.2.1 j) (s.2.2 j) (s.2.1 j 10)) 8 (s.2.1 j 9)), fU s.2.2 j (ctS (s.2.1 j 10) (64 - s.2.1 j 10).toNat (tkF s.1 (s.2.1 j 6) (s.2.1 j 7) 0) (drF (s.2.2 j) (s.2.1 j 10) 64) (-1) 0).2.2.1)
  else s
def stS (s : (Int → Int) × (Int → Int → Int) × (Int → Int → Int)) : Nat → (Int → Int) × (Int → Int → Int) × (Int → Int → Int)
  | 0 => s
  | k + 1 => st1 (stS s k) k
theorem stS_s {s : (Int → Int) × (Int → Int → Int) × (Int → Int → Int)} {i : Int} (h : 0 ≤ i) : stS s (i + 1).toNat = st1 (stS s i.toNat) i := by
  rw [show (i + 1).toNat = i.toNat + 1 by omega]
  show st1 (stS s i.toNat) ((i.toNat : Nat) : Int) = _
  rw [show ((i.toNat : Nat) : Int) = i by omega]
