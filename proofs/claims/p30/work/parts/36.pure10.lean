/-! flushing: goal, length, halving -/
def gF (j : Int) (f : Int → Int) (p : Int) : Int := if 0 < p ∧ 0 ≤ f (p - 1) ∧ f (p - 1) + 1 < 128 then f (p - 1) + 1 else j % 4 * 32
theorem gF_bd {j p : Int} {f : Int → Int} (hj : 0 ≤ j ∧ j < 16) : 0 ≤ gF j f p ∧ gF j f p < 128 := by
  unfold gF
  split <;> omega
def ln0 (R : Int) : Int := if R ≤ 1 then 1 else if R ≤ 2 then 2 else if R ≤ 4 then 4 else if R ≤ 8 then 8 else 16
def lnF (R L : Int) : Int := if ln0 R - R > L then ln0 R / 2 else ln0 R
theorem ln0_c (R : Int) : ln0 R = 1 ∨ ln0 R = 2 ∨ ln0 R = 4 ∨ ln0 R = 8 ∨ ln0 R = 16 := by unfold ln0; split <;> (try split) <;> (try split) <;> (try split) <;> omega
theorem lnF_c {R L : Int} (hR : 1 ≤ R) (hL : 0 ≤ L) : lnF R L = 1 ∨ lnF R L = 2 ∨ lnF R L = 4 ∨ lnF R L = 8 ∨ lnF R L = 16 := by
  unfold lnF ln0
  split <;> (try split) <;> (try split) <;> (try split) <;> (try split) <;> omega
/-- the length and the block that are found, the length being halved -/
noncomputable def hvF (T : Int → Int) (goal : Int) : Nat → Int → Int × Int
  | 0, len => (len, fD T goal len)
  | k + 1, len => @ite _ (fD T goal len = -1 ∧ 1 < len) (Classical.propDecidable _) (hvF T goal k (len / 2)) (len, fD T goal len)
theorem fT_bd {T : Int → Int} {g n : Int} (hg : 0 ≤ g ∧ g < 4) (hn : n = 1 ∨ n = 2 ∨ n = 4 ∨ n = 8 ∨ n = 16) : ∀ k : Nat, k ≤ 4 → fT T g n k = -1 ∨ (0 ≤ fT T g n k ∧ fT T g n k + n ≤ 128)
  | 0, _ => Or.inl rfl
  | k + 1, hk => by
    have ih := fT_bd (T := T) hg hn k (by omega)
    have hq : 0 ≤ (g + (3 - (k : Int))) % 4 ∧ (g + (3 - (k : Int))) % 4 < 4 := by omega
    have hs := fF_spec (P := aP T n) (b := 32 * ((g + (3 - (k : Int))) % 4) + 32) _ (32 * ((g + (3 - (k : Int))) % 4)) rfl
    unfold fT
    by_cases h : fP T ((g + (3 - (k : Int))) % 4) n = -1
    · rw [if_pos h]; exact ih
    · rw [if_neg h]
      unfold fP at h ⊢
      rcases hs with hs | ⟨h1, h2, h3, -⟩
      · exact absurd hs.1 h
      · refine Or.inr ⟨by omega, ?_⟩
        have h4 := h3.1
        rcases hn with rfl | rfl | rfl | rfl | rfl <;> omega
theorem fD_bd {T : Int → Int} {goal n : Int} (hg : 0 ≤ goal ∧ goal < 128) (hn : n = 1 ∨ n = 2 ∨ n = 4 ∨ n = 8 ∨ n = 16) : fD T goal n = -1 ∨ (0 ≤ fD T goal n ∧ fD T goal n + n ≤ 128) := by
  unfold fD
  by_cases h : goal % 32 + n ≤ 32 ∧ aF T goal n
  · rw [if_pos h]; omega
  · rw [if_neg h]; exact fT_bd (by omega) hn 4 (Nat.le_refl _)
theorem hvF_t {T : Int → Int} {goal len : Int} {k : Nat} (h : fD T goal len = -1 ∧ 1 < len) : hvF T goal (k + 1) len = hvF T goal k (len / 2) := if_pos h
theorem hvF_f {T : Int → Int} {goal len : Int} {k : Nat} (h : ¬ (fD T goal len = -1 ∧ 1 < len)) : hvF T goal k len = (len, fD T goal len) := by
  cases k with
  | zero => rfl
  | succ k => exact if_neg h
theorem rC_mp {f : Int → Int} {a b n : Int} (h : 0 ≤ a ∧ 0 ≤ n ∧ a + n ≤ 64) (hb : 0 ≤ b) (hf : ∀ p, a ≤ p → p < a + n → f p = -2) : rC (mpF f a b n) = rC f - n := by
  unfold rC
  rw [sI_cut (g := fun p => eqI (mpF f a b n p) (-2)) (a := 0) (b := a) (c := 64) h.1 (by omega), sI_cut (g := fun p => eqI (mpF f a b n p) (-2)) (a := a) (b := a + n) (c := 64) (by omega) h.2.2, sI_cut (g := fun p => eqI (f p) (-2)) (a := 0) (b := a) (c := 64) h.1 (by omega), sI_cut (g := fun p => eqI (f p) (-2)) (a := a) (b := a + n) (c := 64) (by omega) h.2.2]
  have h1 : sI (fun p => eqI (mpF f a b n p) (-2)) 0 a = sI (fun p => eqI (f p) (-2)) 0 a := sI_congr (fun j h1 h2 => by show eqI (mpF f a b n j) (-2) = _; unfold mpF; rw [if_neg (by omega)])
  have h3 : sI (fun p => eqI (mpF f a b n p) (-2)) (a + n) 64 = sI (fun p => eqI (f p) (-2)) (a + n) 64 := sI_congr (fun j h1 h2 => by show eqI (mpF f a b n j) (-2) = _; unfold mpF; rw [if_neg (by omega)])
  have h2 : ∀ k : Nat, (k : Int) ≤ n → sI (fun p => eqI (mpF f a b n p) (-2)) a (a + k) = 0 ∧ sI (fun p => eqI (f p) (-2)) a (a + k) = k := by
    intro k
    induction k with
    | zero => intro _; simp [sI_0]
    | succ k ih =>
      intro hk
      obtain ⟨i1, i2⟩ := ih (by omega)
      rw [show a + ((k + 1 : Nat) : Int) = a + k + 1 by omega, sI_s (by omega), sI_s (by omega), i1, i2]
      have e1 : eqI (mpF f a b n (a + k)) (-2) = 0 := by
        unfold mpF
        rw [if_pos (by omega)]
        exact eqI_f (by omega)
      have e2 : eqI (f (a + k)) (-2) = 1 := eqI_t (hf _ (by omega) (by omega))
      rw [e1, e2]
      omega
  have h4 := h2 n.toNat (by omega)
  rw [show (n.toNat : Int) = n by omega] at h4
  rw [h1, h3, h4.1, h4.2]
  omega
theorem mpF_bd {f : Int → Int} {a b n : Int} (hb : 0 ≤ b ∧ b + n ≤ 128) (h : ∀ p, -2 ≤ f p ∧ f p ≤ 127) (p : Int) : -2 ≤ mpF f a b n p ∧ mpF f a b n p ≤ 127 := by
  unfold mpF
  split
  · omega
  · exact h p
theorem FI.mp {j a b n : Int} {u f : Int → Int} (h : FI j u f) (ha : 0 ≤ a ∧ 0 ≤ n ∧ a + n ≤ 64) (hb : 0 ≤ b ∧ b + n ≤ 128) (hf : ∀ p, a ≤ p → p < a + n → f p = -2) : FI j (fU u 4 (u 4 - n)) (mpF f a b n) := by
  obtain ⟨h0, h2, h3, h4, h5, h6, h8, h9, h10, hp⟩ := h
  unfold FI
  simp only [fU]
  exact ⟨h0, h2, h3, by rw [rC_mp ha hb.1 hf]; show u 4 - n = _; omega, h5, h6, h8, h9, h10, mpF_bd hb hp⟩
theorem FI.kp {j x y q : Int} {u f : Int → Int} (h : FI j u f) (hx : 0 ≤ x ∧ x ≤ 64) (hy : 0 ≤ y ∧ 0 ≤ q ∧ y + q ≤ 128) : FI j (fU (fU (fU u 5 x) 6 y) 7 q) f := by
  obtain ⟨h0, h2, h3, h4, h5, h6, h8, h9, h10, hp⟩ := h
  unfold FI
  simp only [fU]
  exact ⟨h0, h2, h3, h4, hx, hy, h8, h9, h10, hp⟩
