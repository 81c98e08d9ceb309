/-! two directories of which one has each name greater by m -/
def SIM (m n : Int) (lo co ct : Int → Int) (nm fl : Int → Int → Int) (n2 : Int) (lo2 co2 ct2 : Int → Int) (nm2 fl2 : Int → Int → Int) : Prop :=
  n2 = n ∧ ∀ i, 0 ≤ i → i < n → lo2 i = lo i ∧ co2 i = co i ∧ ct2 i = ct i ∧ ∀ k, 0 ≤ k → k < ct i → nm2 i k = nm i k + m ∧ fl2 i k = fl i k
def M16 (m : Int) : Prop := ∃ x, m = 16 * x
theorem hs_sh {m : Int} (hm : M16 m) (q : Int) : hs (q + m) = hs q := by
  obtain ⟨x, rfl⟩ := hm
  unfold hs
  omega
theorem rk_sh {m : Int} (hm : M16 m) (q : Int) : rk (q + m) = rk q + m := by
  unfold rk
  rw [hs_sh hm]
  omega
theorem lLf_cg {lo lo2 : Int → Int} {h : Int} : ∀ n : Nat, (∀ i, 0 ≤ i → i < (n : Int) → lo2 i = lo i) → lLf lo2 h n = lLf lo h n
  | 0, _ => rfl
  | n + 1, hc => by
    unfold lLf
    rw [hc n (by omega) (by omega), lLf_cg n (fun i a b => hc i a (by omega))]
theorem lL_cg {lo lo2 : Int → Int} {n h : Int} (hc : ∀ i, 0 ≤ i → i < n → lo2 i = lo i) : lL lo2 n h = lL lo n h := lLf_cg n.toNat (fun i a b => hc i a (by omega))
theorem bkf_cg {lo co lo2 co2 : Int → Int} {h : Int} : ∀ n : Nat, (∀ i, 0 ≤ i → i ≤ (n : Int) → lo2 i = lo i ∧ co2 i = co i) → bkf lo2 co2 h n = bkf lo co h n
  | 0, _ => rfl
  | n + 1, hc => by
    unfold bkf
    have h1 := hc (n + 1) (by omega) (by omega)
    rw [h1.1, h1.2, bkf_cg n (fun i a b => hc i a (by omega))]
theorem fwf_cg {has has2 : Int → Prop} {lo co lo2 co2 : Int → Int} {h n : Int} (hh : ∀ i, 0 ≤ i → i < n → (has2 i ↔ has i)) (hc : ∀ i, 0 ≤ i → i < n → lo2 i = lo i ∧ co2 i = co i) : ∀ (k : Nat) (i : Int), 0 ≤ i → i < n → fwf has2 lo2 co2 h n k i = fwf has lo co h n k i
  | 0, _, _, _ => rfl
  | k + 1, i, i1, i2 => by
    unfold fwf
    have h1 := hh i i1 i2
    by_cases h3 : i + 1 < n
    · have h2 := hc (i + 1) (by omega) h3
      rw [fwf_cg hh hc k (i + 1) (by omega) h3]
      by_cases h4 : ¬ has i ∧ i + 1 < n ∧ co (i + 1) = 1 ∧ lo (i + 1) = h
      · rw [if_pos h4, if_pos ⟨fun e => h4.1 (h1.mp e), h3, h2.2.trans h4.2.2.1, h2.1.trans h4.2.2.2⟩]
      · rw [if_neg h4, if_neg (fun e => h4 ⟨fun e9 => e.1 (h1.mpr e9), h3, h2.2.symm.trans e.2.2.1, h2.1.symm.trans e.2.2.2⟩)]
    · rw [if_neg (fun e => h3 e.2.1), if_neg (fun e => h3 e.2.1)]
theorem fst1_cg {P P2 : Int → Prop} : ∀ (k : Nat) (a : Int), (∀ j, a ≤ j → j < a + k → (P2 j ↔ P j)) → fst1 P2 a k = fst1 P a k
  | 0, _, _ => rfl
  | k + 1, a, hc => by
    unfold fst1
    have h1 := hc a (by omega) (by omega)
    rw [fst1_cg k (a + 1) (fun j a b => hc j (by omega) (by omega))]
    by_cases h2 : P a
    · rw [if_pos h2, if_pos (h1.mpr h2)]
    · rw [if_neg h2, if_neg (fun e => h2 (h1.mp e))]
theorem fF_cg {P P2 : Int → Prop} {a b : Int} (hc : ∀ j, a ≤ j → j < b → (P2 j ↔ P j)) : fF P2 a b = fF P a b := by
  unfold fF
  exact fst1_cg _ _ (fun j a b => hc j a (by omega))
section SIMS
variable {m n n2 : Int} {lo co ct lo2 co2 ct2 : Int → Int} {nm fl nm2 fl2 : Int → Int → Int}
theorem SIM.eL (h : SIM m n lo co ct nm fl n2 lo2 co2 ct2 nm2 fl2) (x : Int) : lL lo2 n2 x = lL lo n x := by
  rw [h.1]
  exact lL_cg (fun i a b => (h.2 i a b).1)
theorem SIM.eF (h : SIM m n lo co ct nm fl n2 lo2 co2 ct2 nm2 fl2) (hm : M16 m) (hn : 1 ≤ n) (q : Int) : fLk n2 lo2 co2 (q + m) = fLk n lo co q := by
  unfold fLk bK
  rw [hs_sh hm, h.eL]
  have h1 := lL_bd lo (hs q) hn
  exact bkf_cg _ (fun i a b => ⟨(h.2 i a (by omega)).1, (h.2 i a (by omega)).2.1⟩)
theorem SIM.eH (h : SIM m n lo co ct nm fl n2 lo2 co2 ct2 nm2 fl2) {i : Int} (hi : 0 ≤ i ∧ i < n) (q : Int) : hA ct2 nm2 (q + m) i ↔ hA ct nm q i := by
  obtain ⟨h1, h2, h3, h4⟩ := h.2 i hi.1 hi.2
  constructor
  · rintro ⟨k, a, b, e⟩
    rw [h3] at b
    exact ⟨k, a, b, by have := (h4 k a b).1; omega⟩
  · rintro ⟨k, a, b, e⟩
    exact ⟨k, a, by rw [h3]; exact b, by have := (h4 k a b).1; omega⟩
theorem SIM.eK (h : SIM m n lo co ct nm fl n2 lo2 co2 ct2 nm2 fl2) (hm : M16 m) (hn : 1 ≤ n) (q : Int) : lLk n2 lo2 co2 ct2 nm2 (q + m) = lLk n lo co ct nm q := by
  have h1 := fLk_bd lo co q hn
  have h2 := h.eF hm hn q
  unfold lLk fW
  rw [h2, hs_sh hm, h.1]
  exact fwf_cg (fun i a b => h.eH ⟨a, b⟩ q) (fun i a b => ⟨(h.2 i a b).1, (h.2 i a b).2.1⟩) _ _ h1.1 h1.2
theorem SIM.ix (h : SIM m n lo co ct nm fl n2 lo2 co2 ct2 nm2 fl2) {J : Int} (hJ : 0 ≤ J ∧ J < n) (q : Int) : fF (fun j => nm2 J j = q + m) 0 (ct2 J) = fF (fun j => nm J j = q) 0 (ct J) := by
  obtain ⟨h1, h2, h3, h4⟩ := h.2 J hJ.1 hJ.2
  rw [h3]
  exact fF_cg (fun j a b => by have := (h4 j a b).1; constructor <;> intro e <;> omega)
theorem SIM.eD (h : SIM m n lo co ct nm fl n2 lo2 co2 ct2 nm2 fl2) (hm : M16 m) (hn : 1 ≤ n) (q : Int) : dF n2 lo2 co2 ct2 nm2 fl2 (q + m) = dF n lo co ct nm fl q := by
  have h0 := fLk_bd lo co q hn
  have h1 := lLk_bd lo co ct nm q hn
  unfold dF
  rw [h.eK hm hn q, h.ix (J := lLk n lo co ct nm q) ⟨by omega, h1.2⟩ q]
  by_cases h2 : 0 ≤ fF (fun j => nm (lLk n lo co ct nm q) j = q) 0 (ct (lLk n lo co ct nm q))
  · rw [if_pos h2, if_pos h2]
    rcases fF_spec (P := fun j => nm (lLk n lo co ct nm q) j = q) (b := ct (lLk n lo co ct nm q)) _ 0 rfl with ⟨h3, -⟩ | ⟨h3, h4, -⟩
    · omega
    · exact ((h.2 _ (by omega) h1.2).2.2.2 _ h3 h4).2
  · rw [if_neg h2, if_neg h2]
/-- a name taken out of both -/
theorem SIM.rm (h : SIM m n lo co ct nm fl n2 lo2 co2 ct2 nm2 fl2) {J p : Int} (hJ : 0 ≤ J ∧ J < n) (hp : 0 ≤ p ∧ p < ct J) :
    SIM m n lo co (fU ct J (ct J - 1)) (fU nm J (rmF (nm J) p (ct J))) (fU fl J (rmF (fl J) p (ct J))) n2 lo2 co2 (fU ct2 J (ct2 J - 1)) (fU nm2 J (rmF (nm2 J) p (ct2 J))) (fU fl2 J (rmF (fl2 J) p (ct2 J))) := by
  refine ⟨h.1, fun i i1 i2 => ?_⟩
  obtain ⟨h1, h2, h3, h4⟩ := h.2 i i1 i2
  refine ⟨h1, h2, ?_⟩
  by_cases hi : i = J
  · subst hi
    rw [fU_s, fU_s, fU_s, fU_s, fU_s, fU_s, h3]
    refine ⟨rfl, fun k k1 k2 => ?_⟩
    unfold rmF
    by_cases h5 : p ≤ k ∧ k + 1 < ct i
    · rw [if_pos h5, if_pos h5, if_pos h5, if_pos h5]
      exact h4 (k + 1) (by omega) (by omega)
    · rw [if_neg h5, if_neg h5, if_neg h5, if_neg h5]
      exact h4 k k1 (by omega)
  · rw [fU_n hi, fU_n hi, fU_n hi, fU_n hi, fU_n hi, fU_n hi]
    exact ⟨h3, h4⟩
/-- a name put into one leaf of both -/
theorem SIM.ins (h : SIM m n lo co ct nm fl n2 lo2 co2 ct2 nm2 fl2) (hm : M16 m) {J q x : Int} (hJ : 0 ≤ J ∧ J < n) {ct' ct2' : Int → Int} {nm' fl' nm2' fl2' : Int → Int → Int} (i1 : INS J q x ct nm fl ct' nm' fl') (i2 : INS J (q + m) x ct2 nm2 fl2 ct2' nm2' fl2') :
    SIM m n lo co ct' nm' fl' n2 lo2 co2 ct2' nm2' fl2' := by
  obtain ⟨p, p1, p2, p3, p4, rfl, rfl, rfl⟩ := i1
  obtain ⟨r, r1, r2, r3, r4, rfl, rfl, rfl⟩ := i2
  obtain ⟨h1, h2, h3, h4⟩ := h.2 J hJ.1 hJ.2
  rw [h3] at r2 r3
  have key : ∀ k, 0 ≤ k → k < ct J → rk (nm2 J k) = rk (nm J k) + m := fun k a b => by rw [(h4 k a b).1, rk_sh hm]
  rw [rk_sh hm] at r3 r4
  have hpr : r = p := by
    rcases Int.lt_trichotomy r p with h5 | h5 | h5
    · have e1 := r3 (p - 1) (by omega) (by omega)
      rw [key (p - 1) (by omega) (by omega)] at e1
      omega
    · exact h5
    · have e1 := p3 (r - 1) (by omega) (by omega)
      have e2 := key (r - 1) (by omega) (by omega)
      omega
  subst hpr
  refine ⟨h.1, fun i i1 i2 => ?_⟩
  obtain ⟨g1, g2, g3, g4⟩ := h.2 i i1 i2
  refine ⟨g1, g2, ?_⟩
  by_cases hi : i = J
  · subst hi
    rw [fU_s, fU_s, fU_s, fU_s, fU_s, fU_s, h3]
    refine ⟨rfl, fun k k1 k2 => ?_⟩
    unfold inF fU shF
    by_cases h5 : k = r
    · rw [if_pos h5, if_pos h5, if_pos h5, if_pos h5]
      exact ⟨rfl, rfl⟩
    · rw [if_neg h5, if_neg h5, if_neg h5, if_neg h5]
      by_cases h6 : r < k ∧ k ≤ ct i
      · rw [if_pos h6, if_pos h6, if_pos h6, if_pos h6]
        exact h4 (k - 1) (by omega) (by omega)
      · rw [if_neg h6, if_neg h6, if_neg h6, if_neg h6]
        exact h4 k k1 (by omega)
  · rw [fU_n hi, fU_n hi, fU_n hi, fU_n hi, fU_n hi, fU_n hi]
    exact ⟨g3, g4⟩
/-- a leaf of both split -/
theorem SIM.spl (h : SIM m n lo co ct nm fl n2 lo2 co2 ct2 nm2 fl2) {j L C : Int} (hj : 0 ≤ j ∧ j < n) (hc : ct j = 4) :
    SIM m (n + 1) (shI lo j L) (shI co j C) (fU (shI ct j 2) j 2) (shI nm j (spF (nm j))) (shI fl j (spF (fl j))) (n2 + 1) (shI lo2 j L) (shI co2 j C) (fU (shI ct2 j 2) j 2) (shI nm2 j (spF (nm2 j))) (shI fl2 j (spF (fl2 j))) := by
  refine ⟨by rw [h.1], fun i i1 i2 => ?_⟩
  obtain ⟨q1, q2, q3, q4⟩ := h.2 j hj.1 hj.2
  rcases Int.lt_trichotomy i j with h5 | h5 | h5
  · obtain ⟨g1, g2, g3, g4⟩ := h.2 i i1 (by omega)
    rw [fU_n (by omega), fU_n (by omega)]
    rw [shI_le (by omega), shI_le (by omega), shI_le (by omega), shI_le (by omega), shI_le (by omega), shI_le (by omega), shI_le (by omega), shI_le (by omega), shI_le (by omega), shI_le (by omega)]
    exact ⟨g1, g2, g3, g4⟩
  · subst h5
    rw [fU_s, fU_s]
    rw [shI_le (by omega), shI_le (by omega), shI_le (by omega), shI_le (by omega), shI_le (by omega), shI_le (by omega), shI_le (by omega), shI_le (by omega)]
    exact ⟨q1, q2, rfl, fun k k1 k2 => q4 k k1 (by omega)⟩
  · by_cases h6 : i = j + 1
    · rw [fU_n (by omega), fU_n (by omega)]
      rw [shI_eq h6, shI_eq h6, shI_eq h6, shI_eq h6, shI_eq h6, shI_eq h6, shI_eq h6, shI_eq h6, shI_eq h6, shI_eq h6]
      refine ⟨rfl, rfl, rfl, fun k k1 k2 => ?_⟩
      unfold spF
      by_cases h7 : k = 0
      · rw [if_pos h7, if_pos h7, if_pos h7, if_pos h7]
        exact q4 2 (by omega) (by omega)
      · have h8 : k = 1 := by omega
        rw [if_neg h7, if_neg h7, if_neg h7, if_neg h7, if_pos h8, if_pos h8, if_pos h8, if_pos h8]
        exact q4 3 (by omega) (by omega)
    · obtain ⟨g1, g2, g3, g4⟩ := h.2 (i - 1) (by omega) (by omega)
      rw [fU_n (by omega), fU_n (by omega)]
      rw [shI_gt (by omega), shI_gt (by omega), shI_gt (by omega), shI_gt (by omega), shI_gt (by omega), shI_gt (by omega), shI_gt (by omega), shI_gt (by omega), shI_gt (by omega), shI_gt (by omega)]
      exact ⟨g1, g2, g3, g4⟩
/-- a name more in both -/
theorem SIM.add (h : SIM m n lo co ct nm fl n2 lo2 co2 ct2 nm2 fl2) (hm : M16 m) (hn : 1 ≤ n) {q x n' n2' : Int} {lo' co' ct' lo2' co2' ct2' : Int → Int} {nm' fl' nm2' fl2' : Int → Int → Int}
    (a1 : ADD q x n lo co ct nm fl n' lo' co' ct' nm' fl') (a2 : ADD (q + m) x n2 lo2 co2 ct2 nm2 fl2 n2' lo2' co2' ct2' nm2' fl2') : SIM m n' lo' co' ct' nm' fl' n2' lo2' co2' ct2' nm2' fl2' := by
  have hJ := lL_bd lo (hs q) hn
  have hc := (h.2 _ hJ.1 hJ.2).2.2.1
  unfold ADD at a1 a2
  rw [hs_sh hm, h.eL (hs q)] at a2
  rcases a1 with ⟨b1, rfl, rfl, rfl, b2⟩ | ⟨b1, rfl, j, L, rfl, rfl, rfl, rfl, b2⟩ <;> rcases a2 with ⟨c1, rfl, rfl, rfl, c2⟩ | ⟨c1, rfl, j, L, rfl, rfl, rfl, rfl, c2⟩
  · exact h.ins hm hJ b2 c2
  · omega
  · omega
  · obtain ⟨q1, q2, q3, q4⟩ := h.2 _ hJ.1 hJ.2
    have e1 := (q4 1 (by omega) (by omega)).1
    have e2 := (q4 2 (by omega) (by omega)).1
    rw [e2, hs_sh hm] at c2
    rw [e1, e2, hs_sh hm, hs_sh hm]
    have hs1 := h.spl (L := hs (nm (lL lo n (hs q)) 2)) (C := eqI (hs (nm (lL lo n (hs q)) 1)) (hs (nm (lL lo n (hs q)) 2))) hJ b1
    rw [hs1.eL (hs q)] at c2
    have hK := lL_bd (shI lo (lL lo n (hs q)) (hs (nm (lL lo n (hs q)) 2))) (n := n + 1) (hs q) (by omega)
    exact hs1.ins hm hK b2 c2
theorem SIM0 (m : Int) : SIM m 1 (fun _ => 0) (fun _ => 0) (fun _ => 0) (fun _ _ => 0) (fun _ _ => 0) 1 (fun _ => 0) (fun _ => 0) (fun _ => 0) (fun _ _ => 0) (fun _ _ => 0) := ⟨rfl, fun i _ _ => ⟨rfl, rfl, rfl, fun k a b => absurd (show k < 0 from b) (by omega)⟩⟩
end SIMS
