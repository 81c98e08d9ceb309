/-! the reference moves leaves up -/
def OR3 (n k : Int) (F F1 : Nat → Int → Int) : Prop := ∀ i, 0 ≤ i → i ≤ n → F1 10 i = (if k < i then F 10 (i - 1) else F 10 i) ∧ F1 11 i = (if k < i then F 11 (i - 1) else F 11 i) ∧ F1 13 i = (if k < i then F 13 (i - 1) else F 13 i)
def OS (n k : Int) (F F1 : Nat → Int → Int) : Prop := OR3 n k F F1 ∧ ∀ x, 0 ≤ x → x < 4 * n + 4 → F1 12 x = if 4 * k + 4 ≤ x then F 12 (x - 4) else F 12 x
def IS (n k j : Int) (F F1 : Nat → Int → Int) : Prop := OR3 n (k - 1) F F1 ∧ ∀ x, 0 ≤ x → x < 4 * n + 4 → F1 12 x = if 4 * k ≤ x ∧ x < 4 * k + j ∨ 4 * k + 4 ≤ x then F 12 (x - 4) else F 12 x
theorem OS.z (n : Int) (F : Nat → Int → Int) : OS n n F F := ⟨fun i h1 h2 => by rw [if_neg (by omega), if_neg (by omega), if_neg (by omega)]; exact ⟨rfl, rfl, rfl⟩, fun x h1 h2 => by rw [if_neg (by omega)]⟩
theorem IS.x {n k : Int} {F F1 : Nat → Int → Int} (h : IS n k 4 F F1) : OS n (k - 1) F F1 := by
  refine ⟨h.1, fun x h1 h2 => ?_⟩
  rw [h.2 x h1 h2]
  by_cases hc : 4 * (k - 1) + 4 ≤ x
  · rw [if_pos hc, if_pos (by omega)]
  · rw [if_neg hc, if_neg (by omega)]
/-- behind a split: leaf j keeps two, the next one has the latter two -/
theorem RNM.sp {F F1 F' : Nat → Int → Int} {G G' : Nat → Int} {n j L : Int} {lo co ct : Int → Int} {nm : Int → Int → Int} (h : RNM F G n lo co ct nm) (h4 : ∀ i, ct i ≤ 4) (hj : 0 ≤ j ∧ j < n) (hd : DI 4 (nm j)) (ho : OS n (j + 1) F F1)
    (h14 : G' 14 = n + 1) (h10 : F' 10 = fU (F1 10) (j + 1) L) (h11 : F' 11 = fU (F1 11) (j + 1) (eqI (hs (nm j 1)) L)) (h13 : F' 13 = fU (fU (F1 13) j 2) (j + 1) 2)
    (hx : ∀ x, 0 ≤ x → x < 4 * n + 4 → (x < 4 * j ∨ 4 * j + 6 ≤ x) → F' 12 x = F1 12 x) (hy : ∀ k, 0 ≤ k → k < 2 → F' 12 (4 * j + k) = nm j k) (hz : F' 12 (4 * j + 4) = nm j 2 ∧ F' 12 (4 * j + 5) = nm j 3) :
    RNM F' G' (n + 1) (shI lo j L) (shI co j (eqI (hs (nm j 1)) L)) (fU (shI ct j 2) j 2) (shI nm j (spF (nm j))) := by
  refine ⟨h14, fun i i1 i2 => ?_⟩
  rw [h10, h11, h13]
  have hi := ho.1 i i1 (by omega)
  rcases Int.lt_trichotomy i j with hij | hij | hij
  · obtain ⟨a1, a2, a3, a4⟩ := h.2 i i1 (by omega)
    rw [if_neg (by omega), if_neg (by omega), if_neg (by omega)] at hi
    rw [fU_n (by omega), fU_n (by omega), fU_n (by omega), fU_n (by omega), fU_n (by omega), shI_le (by omega), shI_le (by omega), shI_le (by omega), shI_le (by omega), hi.1, hi.2.1, hi.2.2]
    have hc4 := h4 i
    refine ⟨a1, a2, a3, a4.cg (fun _ _ _ => rfl) (fun k k1 k2 => ?_)⟩
    rw [hx _ (by omega) (by omega) (Or.inl (by omega)), ho.2 _ (by omega) (by omega), if_neg (by omega)]
  · subst hij
    obtain ⟨a1, a2, a3, a4⟩ := h.2 i i1 hj.2
    rw [if_neg (by omega), if_neg (by omega), if_neg (by omega)] at hi
    rw [fU_n (by omega), fU_n (by omega), fU_n (by omega), fU_s, fU_s, shI_le (Int.le_refl _), shI_le (Int.le_refl _), shI_le (Int.le_refl _), hi.1, hi.2.1]
    refine ⟨a1, a2, rfl, (PR.rf (c := 2) (f := nm i) (fun k k' b1 b2 b3 b4 b5 => hd k k' b1 (by omega) b3 (by omega) b5)).cg (fun _ _ _ => rfl) (fun k k1 k2 => hy k k1 k2)⟩
  · by_cases hi1 : i = j + 1
    · subst hi1
      rw [fU_s, fU_s, fU_s, fU_n (by omega), shI_eq rfl, shI_eq rfl, shI_eq rfl, shI_eq rfl]
      refine ⟨rfl, rfl, rfl, (PR.rf (c := 2) (f := spF (nm j)) (fun k k' b1 b2 b3 b4 b5 => ?_)).cg (fun _ _ _ => rfl) (fun k k1 k2 => ?_)⟩
      · have e0 : spF (nm j) 0 = nm j 2 := rfl
        have e1 : spF (nm j) 1 = nm j 3 := rfl
        rcases (show k = 0 ∨ k = 1 by omega) with rfl | rfl <;> rcases (show k' = 0 ∨ k' = 1 by omega) with rfl | rfl
        · rfl
        · rw [e0, e1] at b5
          have := hd 2 3 (by omega) (by omega) (by omega) (by omega) b5
          omega
        · rw [e0, e1] at b5
          have := hd 3 2 (by omega) (by omega) (by omega) (by omega) b5
          omega
        · rfl
      · rcases (show k = 0 ∨ k = 1 by omega) with rfl | rfl
        · rw [show 4 * (j + 1) + 0 = 4 * j + 4 by omega, hz.1]; rfl
        · rw [show 4 * (j + 1) + 1 = 4 * j + 5 by omega, hz.2]; rfl
    · obtain ⟨a1, a2, a3, a4⟩ := h.2 (i - 1) (by omega) (by omega)
      rw [if_pos (by omega), if_pos (by omega), if_pos (by omega)] at hi
      rw [fU_n (by omega), fU_n (by omega), fU_n (by omega), fU_n (by omega), fU_n (by omega), shI_gt (by omega), shI_gt (by omega), shI_gt (by omega), shI_gt (by omega), hi.1, hi.2.1, hi.2.2]
      have hc4 := h4 (i - 1)
      refine ⟨a1, a2, a3, a4.cg (fun _ _ _ => rfl) (fun k k1 k2 => ?_)⟩
      rw [hx _ (by omega) (by omega) (Or.inr (by omega)), ho.2 _ (by omega) (by omega), if_pos (by omega), show 4 * i + k - 4 = 4 * (i - 1) + k by omega]
