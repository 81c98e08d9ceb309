/-! names taken out and added keep the leaves' invariants -/
def mx2 (c : Int) : Int := if c ≤ 2 then 0 else c - 2
def PT (n : Int) (ct : Int → Int) : Int := sI (fun i => mx2 (ct i)) 0 n + 2 * (n - 1)
theorem mx2_c (c : Int) : mx2 c = 0 ∧ c ≤ 2 ∨ mx2 c = c - 2 ∧ 2 < c := by unfold mx2; split <;> omega
theorem rk_hs {a b : Int} (ha : 0 ≤ a ∧ a ≤ 999) (hb : 0 ≤ b ∧ b ≤ 999) (h : rk a < rk b) : hs a ≤ hs b := by
  unfold rk at h
  omega
theorem rmF_ix (f : Int → Int) (p c k : Int) : ∃ d : Int, rmF f p c k = f (k + d) ∧ (d = 1 ∧ p ≤ k ∧ k + 1 < c ∨ d = 0 ∧ ¬ (p ≤ k ∧ k + 1 < c)) := by
  unfold rmF
  split
  · exact ⟨1, rfl, Or.inl ⟨rfl, by assumption⟩⟩
  · exact ⟨0, by rw [Int.add_zero], Or.inr ⟨rfl, by assumption⟩⟩
theorem srt_le {c : Int} {f : Int → Int} (h : ∀ k, 0 ≤ k → k + 1 < c → rk (f k) < rk (f (k + 1))) {a b : Int} (ha : 0 ≤ a) (hab : a < b) (hb : b < c) : rk (f a) < rk (f b) := by
  have h1 := srt_lt h (b - a - 1).toNat a ha (by omega)
  rwa [show a + ((b - a - 1).toNat : Int) + 1 = b by omega] at h1
section NI2
variable {n : Int} {lo co ct : Int → Int} {nm fl : Int → Int → Int}
theorem NI.rm (h : NI n lo co ct nm fl) {q J p0 : Int} (hJ : 0 ≤ J ∧ J < n) (hp : 0 ≤ p0 ∧ p0 < ct J) (e0 : nm J p0 = q) :
    NI n lo co (fU ct J (ct J - 1)) (fU nm J (rmF (nm J) p0 (ct J))) (fU fl J (rmF (fl J) p0 (ct J))) ∧ (∀ q' x', EF n (fU ct J (ct J - 1)) (fU nm J (rmF (nm J) p0 (ct J))) (fU fl J (rmF (fl J) p0 (ct J))) q' x' ↔ q' ≠ q ∧ EF n ct nm fl q' x') ∧ PT n (fU ct J (ct J - 1)) ≤ PT n ct := by
  obtain ⟨⟨d1, d2, d3, d4, d5, d6⟩, h0, hc0, hs1, hm, hs3, hs4, hu⟩ := id h
  have hdi := srt_DI (hs1 J)
  have hsub : ∀ i k, 0 ≤ k → k < fU ct J (ct J - 1) i → ∃ k', 0 ≤ k' ∧ k' < ct i ∧ fU nm J (rmF (nm J) p0 (ct J)) i k = nm i k' ∧ fU fl J (rmF (fl J) p0 (ct J)) i k = fl i k' ∧ (i = J → k' ≠ p0) := by
    intro i k k1 k2
    by_cases hi : i = J
    · subst hi
      rw [fU_s] at k2
      rw [fU_s, fU_s]
      unfold rmF
      by_cases hc : p0 ≤ k ∧ k + 1 < ct i
      · rw [if_pos hc, if_pos hc]; exact ⟨k + 1, by omega, by omega, rfl, rfl, fun _ => by omega⟩
      · rw [if_neg hc, if_neg hc]; exact ⟨k, k1, by omega, rfl, rfl, fun _ => by omega⟩
    · rw [fU_n hi] at k2
      rw [fU_n hi, fU_n hi]
      exact ⟨k, k1, k2, rfl, rfl, fun e => absurd e hi⟩
  have hback : ∀ i k', 0 ≤ k' → k' < ct i → (i = J → k' ≠ p0) → ∃ k, 0 ≤ k ∧ k < fU ct J (ct J - 1) i ∧ fU nm J (rmF (nm J) p0 (ct J)) i k = nm i k' ∧ fU fl J (rmF (fl J) p0 (ct J)) i k = fl i k' := by
    intro i k k1 k2 k3
    by_cases hi : i = J
    · subst hi
      have k3 := k3 rfl
      rw [fU_s, fU_s, fU_s]
      unfold rmF
      by_cases hlt : k < p0
      · exact ⟨k, k1, by omega, by rw [if_neg (by omega)], by rw [if_neg (by omega)]⟩
      · exact ⟨k - 1, by omega, by omega, by rw [if_pos (by omega), show k - 1 + 1 = k by omega], by rw [if_pos (by omega), show k - 1 + 1 = k by omega]⟩
    · rw [fU_n hi, fU_n hi, fU_n hi]
      exact ⟨k, k1, k2, rfl, rfl⟩
  have bd : ∀ (f : Int → Int) (M : Int), (∀ k, 0 ≤ f k ∧ f k ≤ M) → ∀ k, 0 ≤ rmF f p0 (ct J) k ∧ rmF f p0 (ct J) k ≤ M := by
    intro f M hf k
    unfold rmF
    split <;> exact hf _
  refine ⟨⟨⟨d1, d2, d3, fU_all (P := fun x => 0 ≤ x ∧ x ≤ 4) d4 (by have := d4 J; omega), fU_all (P := fun f : Int → Int => ∀ k, 0 ≤ f k ∧ f k ≤ 999) d5 (bd _ _ (d5 J)), fU_all (P := fun f : Int → Int => ∀ k, 0 ≤ f k ∧ f k ≤ 15) d6 (bd _ _ (d6 J))⟩, h0, hc0, fun i k k1 k2 => ?_, hm, hs3, fun i k i1 i2 k1 k2 => ?_, fun q' i j i1 i2 j1 j2 hi hj => ?_⟩, fun q' x' => ?_, ?_⟩
  · by_cases hi : i = J
    · subst hi
      rw [fU_s] at k2
      rw [fU_s]
      obtain ⟨a, ea, ha⟩ := rmF_ix (nm i) p0 (ct i) k
      obtain ⟨b, eb, hb⟩ := rmF_ix (nm i) p0 (ct i) (k + 1)
      rw [ea, eb]
      exact srt_le (hs1 i) (by omega) (by omega) (by omega)
    · rw [fU_n hi] at k2
      rw [fU_n hi]
      exact hs1 i k k1 k2
  · obtain ⟨k', a1, a2, a3, -⟩ := hsub i k k1 k2
    rw [a3]
    exact hs4 i k' i1 i2 a1 a2
  · obtain ⟨k, k1, k2, k3⟩ := hi
    obtain ⟨k', a1, a2, a3, -⟩ := hsub i k k1 k2
    obtain ⟨l, l1, l2, l3⟩ := hj
    obtain ⟨l', b1, b2, b3, -⟩ := hsub j l l1 l2
    exact hu q' i j i1 i2 j1 j2 ⟨k', a1, a2, a3.symm.trans k3⟩ ⟨l', b1, b2, b3.symm.trans l3⟩
  · constructor
    · rintro ⟨i, k, i1, i2, k1, k2, e1, e2⟩
      obtain ⟨k', a1, a2, a3, a4, a5⟩ := hsub i k k1 k2
      refine ⟨fun e => ?_, i, k', i1, i2, a1, a2, a3.symm.trans e1, a4.symm.trans e2⟩
      have hiJ := hu q i J i1 i2 hJ.1 hJ.2 ⟨k', a1, a2, a3.symm.trans (e1.trans e)⟩ ⟨p0, hp.1, hp.2, e0⟩
      subst hiJ
      exact a5 rfl (hdi k' p0 a1 a2 hp.1 hp.2 ((a3.symm.trans (e1.trans e)).trans e0.symm))
    · rintro ⟨hne, i, k', i1, i2, a1, a2, e1, e2⟩
      obtain ⟨k, k1, k2, b1, b2⟩ := hback i k' a1 a2 (fun hi hk => hne (by rw [← e1, hi, hk]; exact e0))
      exact ⟨i, k, i1, i2, k1, k2, b1.trans e1, b2.trans e2⟩
  · unfold PT
    have h9 := sI_fU (g := fun i => mx2 (ct i)) (x := mx2 (ct J - 1)) hJ.1 hJ.2
    have e9 : sI (fun i => mx2 (fU ct J (ct J - 1) i)) 0 n = sI (fU (fun i => mx2 (ct i)) J (mx2 (ct J - 1))) 0 n := sI_congr (fun i _ _ => by unfold fU; split <;> rfl)
    have m1 := mx2_c (ct J)
    have m2 := mx2_c (ct J - 1)
    rw [e9, h9]
    omega
theorem NI.ins (h : NI n lo co ct nm fl) {q x J : Int} {ct' : Int → Int} {nm' fl' : Int → Int → Int} (hJ : 0 ≤ J ∧ J < n) (hq : 0 ≤ q ∧ q ≤ 999) (hx : 0 ≤ x ∧ x ≤ 15) (hlo : lo J ≤ hs q) (hnx : J + 1 < n → hs q < lo (J + 1)) (hno : ∀ i, 0 ≤ i → i < n → ¬ hA ct nm q i) (hc : ct J < 4) (hi : INS J q x ct nm fl ct' nm' fl') :
    NI n lo co ct' nm' fl' ∧ (∀ q' x', EF n ct' nm' fl' q' x' ↔ EF n ct nm fl q' x' ∨ q' = q ∧ x' = x) ∧ PT n ct' ≤ PT n ct + 1 := by
  obtain ⟨⟨d1, d2, d3, d4, d5, d6⟩, h0, hc0, hs1, hm, hs3, hs4, hu⟩ := id h
  obtain ⟨p, p1, p2, p3, p4, rfl, rfl, rfl⟩ := hi
  have hsub : ∀ i k, 0 ≤ k → k < fU ct J (ct J + 1) i → (i = J ∧ fU nm J (inF (nm J) p (ct J) q) i k = q ∧ fU fl J (inF (fl J) p (ct J) x) i k = x) ∨ ∃ k', 0 ≤ k' ∧ k' < ct i ∧ fU nm J (inF (nm J) p (ct J) q) i k = nm i k' ∧ fU fl J (inF (fl J) p (ct J) x) i k = fl i k' := by
    intro i k k1 k2
    by_cases hiJ : i = J
    · subst hiJ
      rw [fU_s] at k2
      rw [fU_s, fU_s]
      by_cases hk : k = p
      · subst hk
        exact Or.inl ⟨rfl, fU_s _ _ _, fU_s _ _ _⟩
      · unfold inF shF
        rw [fU_n hk, fU_n hk]
        by_cases hkp : p < k ∧ k ≤ ct i
        · rw [if_pos hkp, if_pos hkp]; exact Or.inr ⟨k - 1, by omega, by omega, rfl, rfl⟩
        · rw [if_neg hkp, if_neg hkp]; exact Or.inr ⟨k, k1, by omega, rfl, rfl⟩
    · rw [fU_n hiJ] at k2
      rw [fU_n hiJ, fU_n hiJ]
      exact Or.inr ⟨k, k1, k2, rfl, rfl⟩
  have hback : ∀ i k', 0 ≤ k' → k' < ct i → ∃ k, 0 ≤ k ∧ k < fU ct J (ct J + 1) i ∧ fU nm J (inF (nm J) p (ct J) q) i k = nm i k' ∧ fU fl J (inF (fl J) p (ct J) x) i k = fl i k' := by
    intro i k k1 k2
    by_cases hiJ : i = J
    · subst hiJ
      rw [fU_s, fU_s, fU_s]
      unfold inF shF
      by_cases hlt : k < p
      · exact ⟨k, k1, by omega, by rw [fU_n (by omega), if_neg (by omega)], by rw [fU_n (by omega), if_neg (by omega)]⟩
      · exact ⟨k + 1, by omega, by omega, by rw [fU_n (by omega), if_pos (by omega), show k + 1 - 1 = k by omega], by rw [fU_n (by omega), if_pos (by omega), show k + 1 - 1 = k by omega]⟩
    · rw [fU_n hiJ, fU_n hiJ, fU_n hiJ]
      exact ⟨k, k1, k2, rfl, rfl⟩
  have bd : ∀ (f : Int → Int) (y M : Int), (∀ k, 0 ≤ f k ∧ f k ≤ M) → 0 ≤ y ∧ y ≤ M → ∀ k, 0 ≤ inF f p (ct J) y k ∧ inF f p (ct J) y k ≤ M := by
    intro f y M hf hy k
    unfold inF shF fU
    split
    · exact hy
    · dsimp only
      split <;> exact hf _
  refine ⟨⟨⟨d1, d2, d3, fU_all (P := fun x => 0 ≤ x ∧ x ≤ 4) d4 (by have := d4 J; omega), fU_all (P := fun f : Int → Int => ∀ k, 0 ≤ f k ∧ f k ≤ 999) d5 (bd _ _ _ (d5 J) hq), fU_all (P := fun f : Int → Int => ∀ k, 0 ≤ f k ∧ f k ≤ 15) d6 (bd _ _ _ (d6 J) hx)⟩, h0, hc0, fun i k k1 k2 => ?_, hm, hs3, fun i k i1 i2 k1 k2 => ?_, fun q' i j i1 i2 j1 j2 hi hj => ?_⟩, fun q' x' => ?_, ?_⟩
  · by_cases hiJ : i = J
    · subst hiJ
      rw [fU_s] at k2
      rw [fU_s]
      unfold inF shF
      by_cases ha : k = p
      · subst ha
        rw [fU_s, fU_n (by omega), if_pos (by omega), show k + 1 - 1 = k by omega]
        exact p3 k (Int.le_refl _) (by omega)
      · rw [fU_n ha]
        by_cases hb : k + 1 = p
        · subst hb
          rw [fU_s, if_neg (by omega)]
          have h9 := p4.resolve_left (by omega)
          rw [show k + 1 - 1 = k by omega] at h9
          by_cases he : rk (nm i k) = rk q
          · exact absurd ⟨k, k1, by omega, rk_inj (d5 i k) hq he⟩ (hno i hJ.1 hJ.2)
          · omega
        · rw [fU_n hb]
          by_cases hkp : p < k
          · rw [if_pos (by omega), if_pos (by omega), show k + 1 - 1 = k by omega]
            have := hs1 i (k - 1) (by omega) (by omega)
            rwa [show k - 1 + 1 = k by omega] at this
          · rw [if_neg (by omega), if_neg (by omega)]
            exact hs1 i k k1 (by omega)
    · rw [fU_n hiJ] at k2
      rw [fU_n hiJ]
      exact hs1 i k k1 k2
  · rcases hsub i k k1 k2 with ⟨rfl, e1, -⟩ | ⟨k', a1, a2, a3, -⟩
    · rw [e1]
      exact ⟨hlo, fun h9 => Or.inl (hnx h9)⟩
    · rw [a3]
      exact hs4 i k' i1 i2 a1 a2
  · obtain ⟨k, k1, k2, k3⟩ := hi
    obtain ⟨l, l1, l2, l3⟩ := hj
    rcases hsub i k k1 k2 with ⟨ei, e1, -⟩ | ⟨k', a1, a2, a3, -⟩ <;> rcases hsub j l l1 l2 with ⟨ej, f1, -⟩ | ⟨l', b1, b2, b3, -⟩
    · rw [ei, ej]
    · exact absurd ⟨l', b1, b2, b3.symm.trans (l3.trans (k3.symm.trans e1))⟩ (hno j j1 j2)
    · exact absurd ⟨k', a1, a2, a3.symm.trans (k3.trans (l3.symm.trans f1))⟩ (hno i i1 i2)
    · exact hu q' i j i1 i2 j1 j2 ⟨k', a1, a2, a3.symm.trans k3⟩ ⟨l', b1, b2, b3.symm.trans l3⟩
  · constructor
    · rintro ⟨i, k, i1, i2, k1, k2, e1, e2⟩
      rcases hsub i k k1 k2 with ⟨-, f1, f2⟩ | ⟨k', a1, a2, a3, a4⟩
      · exact Or.inr ⟨e1.symm.trans f1, e2.symm.trans f2⟩
      · exact Or.inl ⟨i, k', i1, i2, a1, a2, a3.symm.trans e1, a4.symm.trans e2⟩
    · rintro (⟨i, k', i1, i2, a1, a2, e1, e2⟩ | ⟨rfl, rfl⟩)
      · obtain ⟨k, k1, k2, b1, b2⟩ := hback i k' a1 a2
        exact ⟨i, k, i1, i2, k1, k2, b1.trans e1, b2.trans e2⟩
      · exact ⟨J, p, hJ.1, hJ.2, p1, by rw [fU_s]; omega, by rw [fU_s]; exact fU_s _ _ _, by rw [fU_s]; exact fU_s _ _ _⟩
  · unfold PT
    have h9 := sI_fU (g := fun i => mx2 (ct i)) (x := mx2 (ct J + 1)) hJ.1 hJ.2
    have e9 : sI (fun i => mx2 (fU ct J (ct J + 1) i)) 0 n = sI (fU (fun i => mx2 (ct i)) J (mx2 (ct J + 1))) 0 n := sI_congr (fun i _ _ => by unfold fU; split <;> rfl)
    have m1 := mx2_c (ct J)
    have m2 := mx2_c (ct J + 1)
    rw [e9, h9]
    omega
end NI2
