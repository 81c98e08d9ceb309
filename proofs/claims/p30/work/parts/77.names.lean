/-! names: the leaves' invariants; a name is found in the one leaf where it stands -/
def NI (n : Int) (lo co ct : Int → Int) (nm fl : Int → Int → Int) : Prop :=
  DR n lo co ct nm fl ∧ lo 0 = 0 ∧ co 0 = 0 ∧ (∀ i k, 0 ≤ k → k + 1 < ct i → rk (nm i k) < rk (nm i (k + 1))) ∧ (∀ i, 0 ≤ i → i + 1 < n → lo i ≤ lo (i + 1)) ∧ (∀ i, 0 ≤ i → i + 1 < n → lo i = lo (i + 1) → co (i + 1) = 1) ∧
  (∀ i k, 0 ≤ i → i < n → 0 ≤ k → k < ct i → lo i ≤ hs (nm i k) ∧ (i + 1 < n → hs (nm i k) < lo (i + 1) ∨ hs (nm i k) = lo (i + 1) ∧ co (i + 1) = 1)) ∧
  (∀ q i j, 0 ≤ i → i < n → 0 ≤ j → j < n → hA ct nm q i → hA ct nm q j → i = j)
theorem srt_lt {c : Int} {f : Int → Int} (h : ∀ k, 0 ≤ k → k + 1 < c → rk (f k) < rk (f (k + 1))) : ∀ (d : Nat) (k : Int), 0 ≤ k → k + d + 1 < c → rk (f k) < rk (f (k + d + 1))
  | 0, k, h0, h1 => by
    have := h k h0 (by omega)
    rwa [show k + ((0 : Nat) : Int) + 1 = k + 1 by omega]
  | d + 1, k, h0, h1 => by
    have h2 := srt_lt h d k h0 (by omega)
    have h3 := h (k + d + 1) (by omega) (by omega)
    rw [show k + ((d + 1 : Nat) : Int) + 1 = k + d + 1 + 1 by omega]
    omega
theorem srt_DI {c : Int} {f : Int → Int} (h : ∀ k, 0 ≤ k → k + 1 < c → rk (f k) < rk (f (k + 1))) : DI c f := by
  intro k k' h1 h2 h3 h4 e
  rcases Int.lt_trichotomy k k' with hlt | heq | hgt
  · have h5 := srt_lt h (k' - k - 1).toNat k h1 (by omega)
    rw [show k + ((k' - k - 1).toNat : Int) + 1 = k' by omega, e] at h5
    omega
  · exact heq
  · have h5 := srt_lt h (k - k' - 1).toNat k' h3 (by omega)
    rw [show k' + ((k - k' - 1).toNat : Int) + 1 = k by omega, e] at h5
    omega
section NIS
variable {n : Int} {lo co ct : Int → Int} {nm fl : Int → Int → Int}
theorem NI.lo_le (h : NI n lo co ct nm fl) : ∀ (d : Nat) (i : Int), 0 ≤ i → i + d < n → lo i ≤ lo (i + d)
  | 0, i, _, _ => by rw [show i + ((0 : Nat) : Int) = i by omega]; exact Int.le_refl _
  | d + 1, i, h0, h1 => by
    have h2 := h.lo_le d i h0 (by omega)
    have h3 := h.2.2.2.2.1 (i + d) (by omega) (by omega)
    rw [show i + ((d + 1 : Nat) : Int) = i + d + 1 by omega]
    omega
theorem bK_sp {h : Int} : ∀ i : Nat, (∀ j, bK lo co h i < j → j ≤ i → co j = 1 ∧ lo j = h) ∧ (bK lo co h i = 0 ∨ ¬ (co (bK lo co h i) = 1 ∧ lo (bK lo co h i) = h))
  | 0 => ⟨fun j h1 h2 => by rw [show ((0 : Nat) : Int) = 0 from rfl, bK_0] at h1; omega, Or.inl (bK_0 _ _ _)⟩
  | i + 1 => by
    have ih := bK_sp (h := h) i
    by_cases hc : co ((i : Int) + 1) = 1 ∧ lo ((i : Int) + 1) = h
    · rw [show ((i + 1 : Nat) : Int) = (i : Int) + 1 by omega, bK_t (by omega) hc, show (i : Int) + 1 - 1 = i by omega]
      refine ⟨fun j h1 h2 => ?_, ih.2⟩
      by_cases hj : j = (i : Int) + 1
      · rw [hj]; exact hc
      · exact ih.1 j h1 (by omega)
    · rw [show ((i + 1 : Nat) : Int) = (i : Int) + 1 by omega, bK_f (by omega) hc]
      exact ⟨fun j h1 h2 => by omega, Or.inr hc⟩
/-- the search goes on to the leaf where the name is -/
theorem fW_to {has : Int → Prop} {h j : Int} (hj : 0 ≤ j ∧ j < n) (hhas : has j) : ∀ (d : Nat) (i : Int), i + d = j → (∀ k, i ≤ k → k < j → ¬ has k) → (∀ k, i < k → k ≤ j → co k = 1 ∧ lo k = h) → fW has lo co h n i = j
  | 0, i, e, _, _ => by
    obtain rfl : i = j := by omega
    exact fW_f hj.2 (fun h1 => h1.1 hhas)
  | d + 1, i, e, h1, h2 => by
    rw [fW_t (by omega) ⟨h1 i (Int.le_refl _) (by omega), by omega, (h2 (i + 1) (by omega) (by omega)).1, (h2 (i + 1) (by omega) (by omega)).2⟩]
    exact fW_to hj hhas d (i + 1) (by omega) (fun k k1 k2 => h1 k (by omega) k2) (fun k k1 k2 => h2 k (by omega) k2)
theorem NI.found (h : NI n lo co ct nm fl) {q i : Int} (hi : 0 ≤ i ∧ i < n) (hh : hA ct nm q i) : lLk n lo co ct nm q = i := by
  obtain ⟨hD, h0, hc0, hs1, hm, hs3, hs4, hu⟩ := id h
  obtain ⟨k, k1, k2, k3⟩ := hh
  have h4 := hs4 i k hi.1 hi.2 k1 k2
  rw [k3] at h4
  have hb := hs_bd q
  have hn := hD.1.1
  have hL := lL_spec (lo := lo) (n := n) (h := hs q) hn (by rw [h0]; exact hb.1)
  have hLb := lL_bd lo (hs q) hn
  have hiL : i ≤ lL lo n (hs q) := by
    by_cases hlt : lL lo n (hs q) < i
    · exact absurd h4.1 (hL.2 i hlt hi.2)
    · omega
  have hrun : ∀ j, i < j → j ≤ lL lo n (hs q) → lo j = hs q := fun j h1 h2 => by
    have e1 := h.lo_le (j - (i + 1)).toNat (i + 1) (by omega) (by omega)
    have e2 := h.lo_le (lL lo n (hs q) - j).toNat j (by omega) (by omega)
    rw [show i + 1 + ((j - (i + 1)).toNat : Int) = j by omega] at e1
    rw [show j + ((lL lo n (hs q) - j).toNat : Int) = lL lo n (hs q) by omega] at e2
    have e3 := h4.2 (by omega)
    have e4 := hL.1
    omega
  have hco : ∀ j, i < j → j ≤ lL lo n (hs q) → co j = 1 := fun j h1 h2 => by
    by_cases hj : j = i + 1
    · subst hj
      have e3 := h4.2 (by omega)
      have e4 := hrun (i + 1) h1 h2
      omega
    · have e1 := hrun j h1 h2
      have e2 := hrun (j - 1) (by omega) (by omega)
      have e5 := hs3 (j - 1) (by omega) (by omega)
      rw [show j - 1 + 1 = j by omega] at e5
      exact e5 (by omega)
  have hbk := bK_sp (lo := lo) (co := co) (h := hs q) (lL lo n (hs q)).toNat
  rw [show ((lL lo n (hs q)).toNat : Int) = lL lo n (hs q) by omega] at hbk
  have hfb := bK_bd lo co (hs q) hLb.1
  have hfi : fLk n lo co q ≤ i := by
    show bK lo co (hs q) (lL lo n (hs q)) ≤ i
    by_cases hgt : i < bK lo co (hs q) (lL lo n (hs q))
    · rcases hbk.2 with e | e
      · omega
      · exact absurd ⟨hco _ hgt hfb.2, hrun _ hgt hfb.2⟩ e
    · omega
  refine fW_to hi ⟨k, k1, k2, k3⟩ (i - fLk n lo co q).toNat (fLk n lo co q) (by omega) (fun j j1 j2 hj => ?_) (fun j j1 j2 => hbk.1 j j1 (by omega))
  have e0 : 0 ≤ fLk n lo co q := hfb.1
  have := hu q j i (by omega) (by omega) hi.1 hi.2 hj ⟨k, k1, k2, k3⟩
  omega
/-- names with their files -/
def EF (n : Int) (ct : Int → Int) (nm fl : Int → Int → Int) (q x : Int) : Prop := ∃ i k, 0 ≤ i ∧ i < n ∧ 0 ≤ k ∧ k < ct i ∧ nm i k = q ∧ fl i k = x
theorem NI.dFe (h : NI n lo co ct nm fl) {q x : Int} (he : EF n ct nm fl q x) : dF n lo co ct nm fl q = x := by
  obtain ⟨i, k, i1, i2, k1, k2, e1, e2⟩ := he
  have hf := h.found ⟨i1, i2⟩ ⟨k, k1, k2, e1⟩
  unfold dF
  rw [hf]
  rcases fF_spec (P := fun j => nm i j = q) (b := ct i) _ 0 rfl with ⟨h1, h2⟩ | ⟨h1, h2, h3, -⟩
  · exact absurd e1 (h2 k k1 k2)
  · rw [if_pos h1, srt_DI (h.2.2.2.1 i) _ k h1 h2 k1 k2 (h3.trans e1.symm)]
    exact e2
theorem dF_no {q : Int} (hn : 1 ≤ n) (he : ∀ i k, 0 ≤ i → i < n → 0 ≤ k → k < ct i → nm i k ≠ q) : dF n lo co ct nm fl q = -1 := by
  have h1 := lLk_bd lo co ct nm q hn
  have h0 := (fLk_bd lo co q hn).1
  unfold dF
  rcases fF_spec (P := fun j => nm (lLk n lo co ct nm q) j = q) (b := ct (lLk n lo co ct nm q)) _ 0 rfl with ⟨h2, -⟩ | ⟨h2, h3, h4, -⟩
  · rw [if_neg (by omega)]
  · exact absurd h4 (he _ _ (by omega) h1.2 h2 h3)
theorem NI.no (h : NI n lo co ct nm fl) {q : Int} (hd : dF n lo co ct nm fl q = -1) : ∀ i, 0 ≤ i → i < n → ¬ hA ct nm q i := by
  rintro i i1 i2 ⟨k, k1, k2, k3⟩
  have h1 := h.dFe ⟨i, k, i1, i2, k1, k2, k3, rfl⟩
  have h2 := h.1.2.2.2.2.2 i k
  omega
theorem NI.has (h : NI n lo co ct nm fl) {q : Int} (hd : 0 ≤ dF n lo co ct nm fl q) : hA ct nm q (lLk n lo co ct nm q) := by
  unfold dF at hd
  split at hd
  · rename_i h1
    exact hA_iff.mpr h1
  · omega
/-- what is looked for is decided by what stands there -/
theorem dF_EF {n' : Int} {lo' co' ct' : Int → Int} {nm' fl' : Int → Int → Int} (h : NI n lo co ct nm fl) (h' : NI n' lo' co' ct' nm' fl') {q : Int} (he : ∀ x, EF n' ct' nm' fl' q x ↔ EF n ct nm fl q x) : dF n' lo' co' ct' nm' fl' q = dF n lo co ct nm fl q := by
  by_cases hx : ∃ x, EF n ct nm fl q x
  · obtain ⟨x, hx⟩ := hx
    rw [h.dFe hx, h'.dFe ((he x).mpr hx)]
  · rw [dF_no h.1.1.1 (fun i k i1 i2 k1 k2 e => hx ⟨_, i, k, i1, i2, k1, k2, e, rfl⟩), dF_no h'.1.1.1 (fun i k i1 i2 k1 k2 e => hx ⟨_, (he _).mp ⟨i, k, i1, i2, k1, k2, e, rfl⟩⟩)]
end NIS
