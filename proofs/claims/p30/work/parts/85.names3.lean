/-! a leaf split -/
theorem sm_sh {g : Int → Int} (a : Int) : ∀ n : Nat, sm g (a + 1) n = sm (fun i => g (i + 1)) a n
  | 0 => rfl
  | n + 1 => by
    show sm g (a + 1) n + g (a + 1 + n) = sm (fun i => g (i + 1)) a n + g (a + n + 1)
    rw [sm_sh a n, show a + 1 + (n : Int) = a + n + 1 by omega]
theorem sI_shI {g : Int → Int} {j x n : Int} {f : Int → Int} (hj : 0 ≤ j ∧ j < n) : sI (fun i => g (shI f j x i)) 0 (n + 1) = sI (fun i => g (f i)) 0 n + g x := by
  rw [sI_cut (g := fun i => g (shI f j x i)) (a := 0) (b := j + 1) (c := n + 1) (by omega) (by omega), sI_cut (g := fun i => g (shI f j x i)) (a := j + 1) (b := j + 1 + 1) (c := n + 1) (by omega) (by omega), sI_s (g := fun i => g (shI f j x i)) (Int.le_refl (j + 1)), sI_0,
    sI_cut (g := fun i => g (f i)) (a := 0) (b := j + 1) (c := n) (by omega) (by omega)]
  have e1 : sI (fun i => g (shI f j x i)) 0 (j + 1) = sI (fun i => g (f i)) 0 (j + 1) := sI_congr (fun i h1 h2 => by rw [shI_le (by omega)])
  have e2 : g (shI f j x (j + 1)) = g x := by rw [shI_eq rfl]
  have e3 : sI (fun i => g (shI f j x i)) (j + 1 + 1) (n + 1) = sI (fun i => g (f i)) (j + 1) n := by
    unfold sI
    rw [show (n + 1 - (j + 1 + 1)).toNat = (n - (j + 1)).toNat by omega, sm_sh]
    exact sm_congr _ (fun i h1 h2 => by rw [shI_gt (by omega), show i + 1 - 1 = i by omega])
  rw [e1, e3, e2]
  omega
section NI3
variable {n : Int} {lo co ct : Int → Int} {nm fl : Int → Int → Int}
theorem NI.spl (h : NI n lo co ct nm fl) {j : Int} (hj : 0 ≤ j ∧ j < n) (hn : n < 1000) (hc : ct j = 4) :
    NI (n + 1) (shI lo j (hs (nm j 2))) (shI co j (eqI (hs (nm j 1)) (hs (nm j 2)))) (fU (shI ct j 2) j 2) (shI nm j (spF (nm j))) (shI fl j (spF (fl j))) ∧
    (∀ q x, EF (n + 1) (fU (shI ct j 2) j 2) (shI nm j (spF (nm j))) (shI fl j (spF (fl j))) q x ↔ EF n ct nm fl q x) ∧ PT (n + 1) (fU (shI ct j 2) j 2) ≤ PT n ct := by
  obtain ⟨hD, h0, hc0, hs1, hm, hs3, hs4, hu⟩ := id h
  obtain ⟨d1, d2, d3, d4, d5, d6⟩ := id hD
  have r01 := rk_hs (d5 j 0) (d5 j 1) (hs1 j 0 (by omega) (by omega))
  have r12 := rk_hs (d5 j 1) (d5 j 2) (hs1 j 1 (by omega) (by omega))
  have r23 := rk_hs (d5 j 2) (d5 j 3) (hs1 j 2 (by omega) (by omega))
  have a0 := hs4 j 0 hj.1 hj.2 (by omega) (by omega)
  have a1 := hs4 j 1 hj.1 hj.2 (by omega) (by omega)
  have a2 := hs4 j 2 hj.1 hj.2 (by omega) (by omega)
  have a3 := hs4 j 3 hj.1 hj.2 (by omega) (by omega)
  have hb2 := hs_bd (nm j 2)
  have hC : eqI (hs (nm j 1)) (hs (nm j 2)) = 1 ∧ hs (nm j 1) = hs (nm j 2) ∨ eqI (hs (nm j 1)) (hs (nm j 2)) = 0 ∧ hs (nm j 1) ≠ hs (nm j 2) := by
    unfold eqI
    split
    · exact Or.inl ⟨rfl, by assumption⟩
    · exact Or.inr ⟨rfl, by assumption⟩
  generalize hLe : hs (nm j 2) = L at *
  generalize hCe : eqI (hs (nm j 1)) L = C at *
  -- where a place of the new leaves stood
  have org : ∀ i k, 0 ≤ i → i < n + 1 → 0 ≤ k → k < (fU (shI ct j 2) j 2) i → ∃ i' k', 0 ≤ i' ∧ i' < n ∧ 0 ≤ k' ∧ k' < ct i' ∧ shI nm j (spF (nm j)) i k = nm i' k' ∧ shI fl j (spF (fl j)) i k = fl i' k' ∧ (i < j ∧ i' = i ∧ k' = k ∨ i = j ∧ i' = j ∧ k' = k ∧ k < 2 ∨ i = j + 1 ∧ i' = j ∧ k' = k + 2 ∧ k < 2 ∨ j + 1 < i ∧ i' = i - 1 ∧ k' = k) := by
    intro i k i1 i2 k1 k2
    rcases Int.lt_trichotomy i j with hij | hij | hij
    · rw [fU_n (by omega), shI_le (by omega)] at k2
      rw [shI_le (by omega), shI_le (by omega)]
      exact ⟨i, k, i1, by omega, k1, k2, rfl, rfl, Or.inl ⟨hij, rfl, rfl⟩⟩
    · subst hij
      rw [fU_s] at k2
      rw [shI_le (Int.le_refl _), shI_le (Int.le_refl _)]
      exact ⟨i, k, i1, hj.2, k1, by omega, rfl, rfl, Or.inr (Or.inl ⟨rfl, rfl, rfl, k2⟩)⟩
    · by_cases h9 : i = j + 1
      · subst h9
        rw [fU_n (by omega), shI_eq rfl] at k2
        rw [shI_eq rfl, shI_eq rfl]
        refine ⟨j, k + 2, hj.1, hj.2, by omega, by omega, ?_, ?_, Or.inr (Or.inr (Or.inl ⟨rfl, rfl, rfl, k2⟩))⟩
        · rcases (show k = 0 ∨ k = 1 by omega) with rfl | rfl <;> rfl
        · rcases (show k = 0 ∨ k = 1 by omega) with rfl | rfl <;> rfl
      · rw [fU_n (by omega), shI_gt (by omega)] at k2
        rw [shI_gt (by omega), shI_gt (by omega)]
        exact ⟨i - 1, k, by omega, by omega, k1, k2, rfl, rfl, Or.inr (Or.inr (Or.inr ⟨by omega, rfl, rfl⟩))⟩
  refine ⟨⟨DR_split hD hn (by omega) (by omega), by rw [shI_le hj.1]; exact h0, by rw [shI_le hj.1]; exact hc0, fun i k k1 k2 => ?_, fun i i1 i2 => ?_, fun i i1 i2 he => ?_, fun i k i1 i2 k1 k2 => ?_, fun q i i' i1 i2 j1 j2 hi hi' => ?_⟩, fun q x => ?_, ?_⟩
  · rcases Int.lt_trichotomy i j with hij | hij | hij
    · rw [fU_n (by omega), shI_le (by omega)] at k2
      rw [shI_le (by omega)]
      exact hs1 i k k1 k2
    · subst hij
      rw [fU_s] at k2
      rw [shI_le (Int.le_refl _)]
      exact hs1 i k k1 (by omega)
    · by_cases h9 : i = j + 1
      · subst h9
        rw [fU_n (by omega), shI_eq rfl] at k2
        obtain rfl : k = 0 := by omega
        rw [shI_eq rfl]
        exact hs1 j 2 (by omega) (by omega)
      · rw [fU_n (by omega), shI_gt (by omega)] at k2
        rw [shI_gt (by omega)]
        exact hs1 (i - 1) k k1 k2
  · rcases Int.lt_trichotomy i j with hij | hij | hij
    · rw [shI_le (by omega), shI_le (by omega)]; exact hm i i1 (by omega)
    · subst hij
      rw [shI_le (Int.le_refl _), shI_eq rfl]; omega
    · by_cases h9 : i = j + 1
      · subst h9
        rw [shI_eq rfl, shI_gt (by omega), show j + 1 + 1 - 1 = j + 1 by omega]
        have := a2.2 (by omega)
        omega
      · rw [shI_gt (by omega), shI_gt (by omega), show i + 1 - 1 = i - 1 + 1 by omega]
        exact hm (i - 1) (by omega) (by omega)
  · rcases Int.lt_trichotomy i j with hij | hij | hij
    · rw [shI_le (by omega), shI_le (by omega)] at he
      rw [shI_le (by omega)]; exact hs3 i i1 (by omega) he
    · subst hij
      rw [shI_le (Int.le_refl _), shI_eq rfl] at he
      rw [shI_eq rfl]; omega
    · by_cases h9 : i = j + 1
      · subst h9
        rw [shI_eq rfl, shI_gt (by omega), show j + 1 + 1 - 1 = j + 1 by omega] at he
        rw [shI_gt (by omega), show j + 1 + 1 - 1 = j + 1 by omega]
        have := a2.2 (by omega)
        omega
      · rw [shI_gt (by omega), shI_gt (by omega), show i + 1 - 1 = i - 1 + 1 by omega] at he
        rw [shI_gt (by omega), show i + 1 - 1 = i - 1 + 1 by omega]
        exact hs3 (i - 1) (by omega) (by omega) he
  · obtain ⟨i', k', b1, b2, b3, b4, b5, -, b7⟩ := org i k i1 i2 k1 k2
    rw [b5]
    have h4 := hs4 i' k' b1 b2 b3 b4
    rcases b7 with ⟨c1, rfl, rfl⟩ | ⟨rfl, rfl, rfl, c1⟩ | ⟨rfl, rfl, rfl, c1⟩ | ⟨c1, rfl, rfl⟩
    · rw [shI_le (by omega), shI_le (by omega), shI_le (by omega)]
      exact ⟨h4.1, fun _ => h4.2 (by omega)⟩
    · rw [shI_le (Int.le_refl _), shI_eq rfl, shI_eq rfl]
      refine ⟨h4.1, fun _ => ?_⟩
      rcases (show k' = 0 ∨ k' = 1 by omega) with rfl | rfl <;> omega
    · rw [shI_eq rfl, shI_gt (by omega), shI_gt (by omega), show i' + 1 + 1 - 1 = i' + 1 by omega]
      rcases (show k = 0 ∨ k = 1 by omega) with rfl | rfl
      · rw [show (0 : Int) + 2 = 2 from rfl]
        exact ⟨by omega, fun h9 => by rw [hLe]; exact a2.2 (by omega)⟩
      · rw [show (1 : Int) + 2 = 3 from rfl]
        exact ⟨by omega, fun h9 => a3.2 (by omega)⟩
    · rw [shI_gt (by omega), shI_gt (by omega), shI_gt (by omega), show i + 1 - 1 = i - 1 + 1 by omega]
      exact ⟨h4.1, fun h9 => h4.2 (by omega)⟩
  · obtain ⟨k, k1, k2, k3⟩ := hi
    obtain ⟨l, l1, l2, l3⟩ := hi'
    obtain ⟨p, k', b1, b2, b3, b4, b5, -, b7⟩ := org i k i1 i2 k1 k2
    obtain ⟨p', l', c1, c2, c3, c4, c5, -, c7⟩ := org i' l j1 j2 l1 l2
    have hpp := hu q p p' b1 b2 c1 c2 ⟨k', b3, b4, b5.symm.trans k3⟩ ⟨l', c3, c4, c5.symm.trans l3⟩
    subst hpp
    have hkl := srt_DI (hs1 p) k' l' b3 b4 c3 c4 ((b5.symm.trans k3).trans (c5.symm.trans l3).symm)
    omega
  · constructor
    · rintro ⟨i, k, i1, i2, k1, k2, e1, e2⟩
      obtain ⟨i', k', b1, b2, b3, b4, b5, b6, -⟩ := org i k i1 i2 k1 k2
      exact ⟨i', k', b1, b2, b3, b4, b5.symm.trans e1, b6.symm.trans e2⟩
    · rintro ⟨i, k, i1, i2, k1, k2, e1, e2⟩
      rcases Int.lt_trichotomy i j with hij | hij | hij
      · exact ⟨i, k, i1, by omega, k1, by rw [fU_n (by omega), shI_le (by omega)]; exact k2, by rw [shI_le (by omega)]; exact e1, by rw [shI_le (by omega)]; exact e2⟩
      · subst hij
        by_cases hk : k < 2
        · exact ⟨i, k, i1, by omega, k1, by rw [fU_s]; exact hk, by rw [shI_le (Int.le_refl _)]; exact e1, by rw [shI_le (Int.le_refl _)]; exact e2⟩
        · refine ⟨i + 1, k - 2, by omega, by omega, by omega, by rw [fU_n (by omega), shI_eq rfl]; omega, ?_, ?_⟩
          · rw [shI_eq rfl, ← e1]
            rcases (show k = 2 ∨ k = 3 by omega) with rfl | rfl <;> rfl
          · rw [shI_eq rfl, ← e2]
            rcases (show k = 2 ∨ k = 3 by omega) with rfl | rfl <;> rfl
      · exact ⟨i + 1, k, by omega, by omega, k1, by rw [fU_n (by omega), shI_gt (by omega), show i + 1 - 1 = i by omega]; exact k2, by rw [shI_gt (by omega), show i + 1 - 1 = i by omega]; exact e1, by rw [shI_gt (by omega), show i + 1 - 1 = i by omega]; exact e2⟩
  · unfold PT
    have e1 : sI (fun i => mx2 ((fU (shI ct j 2) j 2) i)) 0 (n + 1) = sI (fU (fun i => mx2 (shI ct j 2 i)) j 0) 0 (n + 1) := sI_congr (fun i _ _ => by unfold fU; split <;> rfl)
    rw [e1, sI_fU hj.1 (by omega), sI_shI (g := mx2) hj, shI_le (Int.le_refl _), hc]
    have m1 := mx2_c 4
    have m2 := mx2_c 2
    omega
/-- a name added, as the class and the reference add it -/
theorem NI.add (h : NI n lo co ct nm fl) {q x n' : Int} {lo' co' ct' : Int → Int} {nm' fl' : Int → Int → Int} (hq : 0 ≤ q ∧ q ≤ 999) (hx : 0 ≤ x ∧ x ≤ 15) (hn : n < 1000) (hno : ∀ i, 0 ≤ i → i < n → ¬ hA ct nm q i) (hA' : ADD q x n lo co ct nm fl n' lo' co' ct' nm' fl') :
    NI n' lo' co' ct' nm' fl' ∧ (∀ q' x', EF n' ct' nm' fl' q' x' ↔ EF n ct nm fl q' x' ∨ q' = q ∧ x' = x) ∧ PT n' ct' ≤ PT n ct + 1 := by
  have hb := hs_bd q
  have lastOk : ∀ {n : Int} {lo co ct : Int → Int} {nm fl : Int → Int → Int}, NI n lo co ct nm fl → lo (lL lo n (hs q)) ≤ hs q ∧ (lL lo n (hs q) + 1 < n → hs q < lo (lL lo n (hs q) + 1)) := by
    intro n lo co ct nm fl h
    have hL := lL_spec (lo := lo) (n := n) (h := hs q) h.1.1.1 (by rw [h.2.1]; exact hb.1)
    refine ⟨hL.1, fun h9 => ?_⟩
    have := hL.2 (lL lo n (hs q) + 1) (by omega) h9
    omega
  rcases hA' with ⟨b1, rfl, rfl, rfl, b5⟩ | ⟨b1, rfl, j, L, rfl, rfl, rfl, rfl, b5⟩
  · have hLb := lL_bd lo' (hs q) h.1.1.1
    have hl := lastOk h
    have h4 := h.1.2.2.2.1 (lL lo' n' (hs q))
    exact h.ins hLb hq hx hl.1 hl.2 hno (by omega) b5
  · have hLb := lL_bd lo (hs q) h.1.1.1
    obtain ⟨s1, s2, s3⟩ := h.spl hLb hn b1
    have hl := lastOk s1
    have hLb2 := lL_bd (shI lo (lL lo n (hs q)) (hs (nm (lL lo n (hs q)) 2))) (hs q) s1.1.1.1
    have hjj : lL (shI lo (lL lo n (hs q)) (hs (nm (lL lo n (hs q)) 2))) (n + 1) (hs q) = lL lo n (hs q) ∨ lL (shI lo (lL lo n (hs q)) (hs (nm (lL lo n (hs q)) 2))) (n + 1) (hs q) = lL lo n (hs q) + 1 := by
      rw [lL_shI h.1.1.1 (by rw [h.2.1]; exact hb.1)]
      split
      · exact Or.inr rfl
      · exact Or.inl rfl
    obtain ⟨p1, -⟩ := spl_hA (n := n) (nm := nm) (q := q) b1 hjj (hno _ hLb.1 hLb.2)
    obtain ⟨t1, t2, t3⟩ := s1.ins hLb2 hq hx hl.1 hl.2 (fun i i1 i2 hi => by
      obtain ⟨k, k1, k2, k3⟩ := hi
      obtain ⟨i', k', e1, e2, e3, e4, e5, -⟩ := (s2 q _).mp ⟨i, k, i1, i2, k1, k2, k3, rfl⟩
      exact hno i' e1 e2 ⟨k', e3, e4, e5⟩) (by rw [p1]; omega) b5
    exact ⟨t1, fun q' x' => (t2 q' x').trans (or_congr (s2 q' x') Iff.rfl), by omega⟩
end NI3
