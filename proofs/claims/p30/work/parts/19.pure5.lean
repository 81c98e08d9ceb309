/-! a leaf more, a leaf changed -/
def shI {α : Type} (f : Int → α) (j : Int) (x : α) : Int → α := fun i => if i ≤ j then f i else if i = j + 1 then x else f (i - 1)
theorem shI_le {α : Type} {f : Int → α} {j i : Int} {x : α} (h : i ≤ j) : shI f j x i = f i := if_pos h
theorem shI_eq {α : Type} {f : Int → α} {j i : Int} {x : α} (h : i = j + 1) : shI f j x i = x := by unfold shI; rw [if_neg (by omega), if_pos h]
theorem shI_gt {α : Type} {f : Int → α} {j i : Int} {x : α} (h : j + 1 < i) : shI f j x i = f (i - 1) := by unfold shI; rw [if_neg (by omega), if_neg (by omega)]
theorem lLf_spec {lo : Int → Int} {h : Int} : ∀ (n : Nat), (∀ i, lLf lo h n < i → i < n → ¬ lo i ≤ h) ∧ (lo (lLf lo h n) ≤ h ∨ lLf lo h n = 0)
  | 0 => ⟨fun i h1 h2 => by simp [lLf] at h1; omega, Or.inr rfl⟩
  | n + 1 => by
    have ih := lLf_spec (lo := lo) (h := h) n
    unfold lLf
    by_cases hc : lo n ≤ h
    · rw [if_pos hc]
      exact ⟨fun i h1 h2 => by omega, Or.inl hc⟩
    · rw [if_neg hc]
      refine ⟨fun i h1 h2 => ?_, ih.2⟩
      by_cases hi : i = n
      · rw [hi]; exact hc
      · exact ih.1 i h1 (by omega)
theorem lL_spec {lo : Int → Int} {n h : Int} (hn : 1 ≤ n) (h0 : lo 0 ≤ h) : lo (lL lo n h) ≤ h ∧ ∀ i, lL lo n h < i → i < n → ¬ lo i ≤ h := by
  have h1 := lLf_spec (lo := lo) (h := h) n.toNat
  unfold lL
  refine ⟨?_, fun i h2 h3 => h1.1 i h2 (by omega)⟩
  rcases h1.2 with h2 | h2
  · exact h2
  · rw [h2]; exact h0
theorem lL_uniq {lo : Int → Int} {n h j : Int} (hn : 1 ≤ n) (h0 : lo 0 ≤ h) (hj : 0 ≤ j ∧ j < n) (h1 : lo j ≤ h) (h2 : ∀ i, j < i → i < n → ¬ lo i ≤ h) : lL lo n h = j := by
  have h3 := lL_spec hn h0
  have h4 := lL_bd lo h hn
  rcases Int.lt_trichotomy (lL lo n h) j with h5 | h5 | h5
  · exact absurd h1 (h3.2 j h5 hj.2)
  · exact h5
  · exact absurd h3.1 (h2 _ h5 h4.2)
theorem lL_shI {lo : Int → Int} {n h L : Int} (hn : 1 ≤ n) (h0 : lo 0 ≤ h) : lL (shI lo (lL lo n h) L) (n + 1) h = if L ≤ h then lL lo n h + 1 else lL lo n h := by
  have h3 := lL_spec hn h0
  have h4 := lL_bd lo h hn
  by_cases hL : L ≤ h
  · rw [if_pos hL]
    refine lL_uniq (by omega) (by rw [shI_le h4.1]; exact h0) (by omega) (by rw [shI_eq rfl]; exact hL) (fun i h5 h6 => ?_)
    rw [shI_gt h5]
    exact h3.2 _ (by omega) (by omega)
  · rw [if_neg hL]
    refine lL_uniq (by omega) (by rw [shI_le h4.1]; exact h0) (by omega) (by rw [shI_le (Int.le_refl _)]; exact h3.1) (fun i h5 h6 => ?_)
    by_cases hi : i = lL lo n h + 1
    · rw [shI_eq hi]; exact hL
    · rw [shI_gt (by omega)]
      exact h3.2 _ (by omega) (by omega)
theorem kd2 {w : WT} {a b : Nat} {c1 c2 : Nat} {f1 f2 : List Value} (h1 : w a = some (oB c1 f1)) (h2 : w b = some (oB c2 f2)) (hc : c1 ≠ c2) : a ≠ b := fun e => by
  rw [e, h2] at h1
  cases h1
  exact hc rfl
theorem DW_split {w w1 : WT} {ky : Nat → ClassId} {d g nb fb : Nat} {la na fa : Int → Nat} {n j L C : Int} {lo co ct : Int → Int} {nm fl : Int → Int → Int} {N F : Int → Int} (hd : DW w ky d la na fa n lo co ct nm fl) (hj : 0 ≤ j ∧ j < n)
    (hg : w g = none) (hnb : w nb = none) (hfb : w fb = none) (e1 : g ≠ nb) (e2 : g ≠ fb) (e3 : nb ≠ fb)
    (c1 : w1 (la j) = some (cL (na j) (fa j) (lo j) (co j) 2 (bq la j) (some g))) (c2 : w1 g = some (cL nb fb L C 2 (some (la j)) (lq la n (j + 1)))) (c3 : w1 nb = some (iA (ky 0) 4 N)) (c4 : w1 fb = some (iA (ky 0) 4 F))
    (c5 : ∀ k, lq la n (j + 1) = some k → ∀ nk fk lk ck tk bq' nq, w k = some (cL nk fk lk ck tk bq' nq) → w1 k = some (cL nk fk lk ck tk (some g) nq)) (c6 : ∀ y, y ≠ la j → y ≠ g → y ≠ nb → y ≠ fb → lq la n (j + 1) ≠ some y → w1 y = w y) :
    DW (wU w1 d (oB 1 [.ref (la 0), .int (iI (n + 1))])) ky d (shI la j g) (shI na j nb) (shI fa j fb) (n + 1) (shI lo j L) (shI co j C) (fU (shI ct j 2) j 2) (shI nm j N) (shI fl j F) := by
  obtain ⟨hd0, hdl, hdi⟩ := hd
  have dne : ∀ {a : Nat} {x : va_E}, w a = some x → a ≠ g ∧ a ≠ nb ∧ a ≠ fb := fun {a x} h => ⟨new_ne hg h, new_ne hnb h, new_ne hfb h⟩
  have dla : ∀ i, 0 ≤ i → i < n → la i ≠ d ∧ na i ≠ d ∧ fa i ≠ d := fun i h1 h2 => ⟨kd2 (hdl i h1 h2).1 hd0 (by decide), (kd_ne hd0 (hdl i h1 h2).2.1).symm, (kd_ne hd0 (hdl i h1 h2).2.2.1).symm⟩
  have hdg := dne hd0
  have lqd : ∀ y, lq la n (j + 1) = some y → j + 1 < n ∧ y = la (j + 1) := by
    intro y hy
    by_cases h : j + 1 < n
    · rw [lq_lt h] at hy
      cases hy
      exact ⟨h, rfl⟩
    · rw [lq_ge h] at hy
      cases hy
  have keepA : ∀ i, 0 ≤ i → i < n → (wU w1 d (oB 1 [.ref (la 0), .int (iI (n + 1))])) (na i) = w (na i) ∧ (wU w1 d (oB 1 [.ref (la 0), .int (iI (n + 1))])) (fa i) = w (fa i) := by
    intro i h1 h2
    obtain ⟨hA1, hA2, hA3, hA4⟩ := hdl i h1 h2
    have hd9 := dla i h1 h2
    have hjj := (hdl j hj.1 hj.2).1
    refine ⟨(wU_n hd9.2.1).trans (c6 _ (kd_ne hjj hA2).symm (dne hA2).1 (dne hA2).2.1 (dne hA2).2.2 (fun h => ?_)), (wU_n hd9.2.2).trans (c6 _ (kd_ne hjj hA3).symm (dne hA3).1 (dne hA3).2.1 (dne hA3).2.2 (fun h => ?_))⟩
    · obtain ⟨h3, h4⟩ := lqd _ h
      exact kd_ne (hdl (j + 1) (by omega) h3).1 hA2 h4.symm
    · obtain ⟨h3, h4⟩ := lqd _ h
      exact kd_ne (hdl (j + 1) (by omega) h3).1 hA3 h4.symm
  have keepL : ∀ i, 0 ≤ i → i < n → i ≠ j → i ≠ j + 1 → (wU w1 d (oB 1 [.ref (la 0), .int (iI (n + 1))])) (la i) = w (la i) := by
    intro i h1 h2 h3 h4
    have hL := (hdl i h1 h2).1
    refine (wU_n (dla i h1 h2).1).trans (c6 _ (hdi i j h1 h2 hj.1 hj.2 h3).1 (dne hL).1 (dne hL).2.1 (dne hL).2.2 (fun h => ?_))
    obtain ⟨h5, h6⟩ := lqd _ h
    exact (hdi i (j + 1) h1 h2 (by omega) h5 h4).1 h6
  refine ⟨by rw [wU_s, shI_le hj.1], fun i h1 h2 => ?_, fun i k h1 h2 h3 h4 h5 => ?_⟩
  · rcases Int.lt_trichotomy i j with hij | hij | hij
    · obtain ⟨hA1, hA2, hA3, hA4⟩ := hdl i h1 (by omega)
      have hk := keepA i h1 (by omega)
      rw [shI_le (f := la) (by omega), shI_le (f := na) (by omega), shI_le (f := fa) (by omega), shI_le (f := lo) (by omega), shI_le (f := co) (by omega), fU_n (by omega), shI_le (f := ct) (by omega), shI_le (f := nm) (by omega), shI_le (f := fl) (by omega), hk.1, hk.2, keepL i h1 (by omega) (by omega) (by omega), hA1]
      refine ⟨?_, hA2, hA3, hA4⟩
      have b1 : bq (shI la j g) i = bq la i := by unfold bq; rw [shI_le (by omega)]
      have b2 : lq (shI la j g) (n + 1) (i + 1) = lq la n (i + 1) := by rw [lq_lt (by omega), lq_lt (by omega), shI_le (by omega)]
      rw [b1, b2]
    · subst hij
      obtain ⟨hA1, hA2, hA3, hA4⟩ := hdl i h1 hj.2
      have hk := keepA i h1 hj.2
      rw [shI_le (f := la) (by omega), shI_le (f := na) (by omega), shI_le (f := fa) (by omega), shI_le (f := lo) (by omega), shI_le (f := co) (by omega), fU_s, shI_le (f := nm) (by omega), shI_le (f := fl) (by omega), hk.1, hk.2, wU_n (dla i h1 hj.2).1, c1]
      refine ⟨?_, hA2, hA3, hA4⟩
      have b1 : bq (shI la i g) i = bq la i := by unfold bq; rw [shI_le (by omega)]
      have b2 : lq (shI la i g) (n + 1) (i + 1) = some g := by rw [lq_lt (by omega), shI_eq rfl]
      rw [b1, b2]
    · by_cases hi1 : i = j + 1
      · subst hi1
        rw [shI_eq (f := la) rfl, shI_eq (f := na) rfl, shI_eq (f := fa) rfl, shI_eq (f := lo) rfl, shI_eq (f := co) rfl, fU_n (by omega), shI_eq (f := ct) rfl, shI_eq (f := nm) rfl, shI_eq (f := fl) rfl, wU_n hdg.1.symm, wU_n hdg.2.1.symm, wU_n hdg.2.2.symm, c2]
        refine ⟨?_, c3, c4, e3⟩
        have b1 : bq (shI la j g) (j + 1) = some (la j) := by unfold bq; rw [if_neg (by omega), shI_le (by omega), show j + 1 - 1 = j by omega]
        have b2 : lq (shI la j g) (n + 1) (j + 1 + 1) = lq la n (j + 1) := by
          by_cases h : j + 1 < n
          · rw [lq_lt (by omega), lq_lt h, shI_gt (by omega), show j + 1 + 1 - 1 = j + 1 by omega]
          · rw [lq_ge (by omega), lq_ge h]
        rw [b1, b2]
      · obtain ⟨hA1, hA2, hA3, hA4⟩ := hdl (i - 1) (by omega) (by omega)
        have hk := keepA (i - 1) (by omega) (by omega)
        rw [shI_gt (f := la) (by omega), shI_gt (f := na) (by omega), shI_gt (f := fa) (by omega), shI_gt (f := lo) (by omega), shI_gt (f := co) (by omega), fU_n (by omega), shI_gt (f := ct) (by omega), shI_gt (f := nm) (by omega), shI_gt (f := fl) (by omega), hk.1, hk.2]
        refine ⟨?_, hA2, hA3, hA4⟩
        have b2 : lq (shI la j g) (n + 1) (i + 1) = lq la n (i - 1 + 1) := by
          rw [show i - 1 + 1 = i by omega]
          by_cases h : i < n
          · rw [lq_lt (by omega), lq_lt h, shI_gt (by omega), show i + 1 - 1 = i by omega]
          · rw [lq_ge (by omega), lq_ge h]
        rw [b2]
        by_cases hi2 : i = j + 2
        · subst hi2
          have e9 : j + 2 - 1 = j + 1 := by omega
          rw [e9] at hA1 ⊢
          have hq : lq la n (j + 1) = some (la (j + 1)) := lq_lt (by omega)
          have b1 : bq (shI la j g) (j + 2) = some g := by unfold bq; rw [if_neg (by omega), e9, shI_eq rfl]
          rw [b1, wU_n (dla (j + 1) (by omega) (by omega)).1]
          exact c5 _ hq _ _ _ _ _ _ _ hA1
        · rw [keepL (i - 1) (by omega) (by omega) (by omega) (by omega), hA1]
          have b1 : bq (shI la j g) i = bq la (i - 1) := by
            unfold bq
            rw [if_neg (by omega), if_neg (by omega), shI_gt (by omega)]
          rw [b1]
  · have pick : ∀ i, 0 ≤ i → i < n + 1 → (i = j + 1 ∧ shI la j g i = g ∧ shI na j nb i = nb ∧ shI fa j fb i = fb) ∨ (∃ i', 0 ≤ i' ∧ i' < n ∧ i' = (if i ≤ j then i else i - 1) ∧ i ≠ j + 1 ∧ shI la j g i = la i' ∧ shI na j nb i = na i' ∧ shI fa j fb i = fa i') := by
      intro i h6 h7
      by_cases h8 : i ≤ j
      · exact Or.inr ⟨i, h6, by omega, by rw [if_pos h8], by omega, shI_le h8, shI_le h8, shI_le h8⟩
      · by_cases h9 : i = j + 1
        · exact Or.inl ⟨h9, shI_eq h9, shI_eq h9, shI_eq h9⟩
        · exact Or.inr ⟨i - 1, by omega, by omega, by rw [if_neg h8], h9, shI_gt (by omega), shI_gt (by omega), shI_gt (by omega)⟩
    rcases pick i h1 h2 with ⟨p1, p2, p3, p4⟩ | ⟨i', p1, p2, p3, p4, p5, p6, p7⟩ <;> rcases pick k h3 h4 with ⟨q1, q2, q3, q4⟩ | ⟨k', q1, q2, q3, q4, q5, q6, q7⟩
    · omega
    · obtain ⟨hA1, hA2, hA3, hA4⟩ := hdl k' q1 q2
      rw [p2, p3, p4, q5, q6, q7]
      exact ⟨(dne hA1).1.symm, (dne hA2).2.1.symm, (dne hA3).2.2.symm, (dne hA3).2.1.symm⟩
    · obtain ⟨hA1, hA2, hA3, hA4⟩ := hdl i' p1 p2
      rw [p5, p6, p7, q2, q3, q4]
      exact ⟨(dne hA1).1, (dne hA2).2.1, (dne hA3).2.2, (dne hA2).2.2⟩
    · rw [p5, p6, p7, q5, q6, q7]
      refine hdi i' k' p1 p2 q1 q2 (fun e => ?_)
      subst e
      split at p3 <;> split at q3 <;> omega
theorem DW_leaf {w w1 : WT} {ky : Nat → ClassId} {d : Nat} {la na fa : Int → Nat} {n j c : Int} {lo co ct : Int → Int} {nm fl : Int → Int → Int} {N F : Int → Int} (hd : DW w ky d la na fa n lo co ct nm fl) (hj : 0 ≤ j ∧ j < n)
    (c1 : w1 (na j) = some (iA (ky 0) 4 N)) (c2 : w1 (fa j) = some (iA (ky 0) 4 F)) (c3 : w1 (la j) = some (cL (na j) (fa j) (lo j) (co j) c (bq la j) (lq la n (j + 1)))) (c4 : ∀ y, y ≠ na j → y ≠ fa j → y ≠ la j → w1 y = w y) :
    DW w1 ky d la na fa n lo co (fU ct j c) (fU nm j N) (fU fl j F) := by
  obtain ⟨hd0, hdl, hdi⟩ := hd
  obtain ⟨hJ1, hJ2, hJ3, hJ4⟩ := hdl j hj.1 hj.2
  refine ⟨(c4 d (kd_ne hd0 hJ2) (kd_ne hd0 hJ3) (kd2 hd0 hJ1 (by decide))).trans hd0, fun i h1 h2 => ?_, hdi⟩
  by_cases hij : i = j
  · subst hij
    rw [fU_s, fU_s, fU_s]
    exact ⟨c3, c1, c2, hJ4⟩
  · obtain ⟨hA1, hA2, hA3, hA4⟩ := hdl i h1 h2
    have h9 := hdi i j h1 h2 hj.1 hj.2 hij
    have h8 := hdi j i hj.1 hj.2 h1 h2 (Ne.symm hij)
    rw [fU_n hij, fU_n hij, fU_n hij, c4 _ (kd_ne hA1 hJ2) (kd_ne hA1 hJ3) h9.1, c4 _ h9.2.1 h9.2.2.2 (kd_ne hJ1 hA2).symm, c4 _ h8.2.2.2.symm h9.2.2.1 (kd_ne hJ1 hA3).symm]
    exact ⟨hA1, hA2, hA3, hA4⟩
def INS (J q x : Int) (ct : Int → Int) (nm fl : Int → Int → Int) (ct' : Int → Int) (nm' fl' : Int → Int → Int) : Prop :=
  ∃ p, 0 ≤ p ∧ p ≤ ct J ∧ (∀ k, p ≤ k → k < ct J → rk q < rk (nm J k)) ∧ (p = 0 ∨ rk (nm J (p - 1)) ≤ rk q) ∧ ct' = fU ct J (ct J + 1) ∧ nm' = fU nm J (inF (nm J) p (ct J) q) ∧ fl' = fU fl J (inF (fl J) p (ct J) x)
/-- a name more: into the last leaf for its hash, which is split first if it has four -/
def ADD (q x n : Int) (lo co ct : Int → Int) (nm fl : Int → Int → Int) (n' : Int) (lo' co' ct' : Int → Int) (nm' fl' : Int → Int → Int) : Prop :=
  (ct (lL lo n (hs q)) ≠ 4 ∧ n' = n ∧ lo' = lo ∧ co' = co ∧ INS (lL lo n (hs q)) q x ct nm fl ct' nm' fl') ∨
  (ct (lL lo n (hs q)) = 4 ∧ n' = n + 1 ∧ ∃ j L, j = lL lo n (hs q) ∧ L = hs (nm j 2) ∧ lo' = shI lo j L ∧ co' = shI co j (eqI (hs (nm j 1)) L) ∧ INS (lL lo' n' (hs q)) q x (fU (shI ct j 2) j 2) (shI nm j (spF (nm j))) (shI fl j (spF (fl j))) ct' nm' fl')
theorem spF_bd {f : Int → Int} {M : Int} (h : ∀ k, 0 ≤ f k ∧ f k ≤ M) (hM : 0 ≤ M) (k : Int) : 0 ≤ spF f k ∧ spF f k ≤ M := by
  unfold spF
  split
  · exact h 2
  · split
    · exact h 3
    · omega
theorem shI_all {α : Type} {P : α → Prop} {f : Int → α} {j : Int} {x : α} (h : ∀ i, P (f i)) (hx : P x) (i : Int) : P (shI f j x i) := by
  unfold shI
  split
  · exact h i
  · split
    · exact hx
    · exact h _
theorem fU_all {α : Type} {P : α → Prop} {f : Int → α} {j : Int} {x : α} (h : ∀ i, P (f i)) (hx : P x) (i : Int) : P (fU f j x i) := by
  unfold fU
  split
  · exact hx
  · exact h i
theorem DR_split {n j L C : Int} {lo co ct : Int → Int} {nm fl : Int → Int → Int} (h : DR n lo co ct nm fl) (hn : n < 1000) (hL : 0 ≤ L ∧ L ≤ 15) (hC : C = 0 ∨ C = 1) : DR (n + 1) (shI lo j L) (shI co j C) (fU (shI ct j 2) j 2) (shI nm j (spF (nm j))) (shI fl j (spF (fl j))) := by
  obtain ⟨h1, h2, h3, h4, h5, h6⟩ := h
  exact ⟨by omega, shI_all (P := fun x => 0 ≤ x ∧ x ≤ 15) h2 hL, shI_all (P := fun x => x = 0 ∨ x = 1) h3 hC, fU_all (P := fun x => 0 ≤ x ∧ x ≤ 4) (shI_all (P := fun x => 0 ≤ x ∧ x ≤ 4) h4 (by omega)) (by omega), shI_all (P := fun f : Int → Int => ∀ k, 0 ≤ f k ∧ f k ≤ 999) h5 (spF_bd (h5 j) (by omega)), shI_all (P := fun f : Int → Int => ∀ k, 0 ≤ f k ∧ f k ≤ 15) h6 (spF_bd (h6 j) (by omega))⟩
