/-! the chain of leaves -/
def lq (la : Int → Nat) (n i : Int) : Option Nat := if i < n then some (la i) else none
def bq (la : Int → Nat) (i : Int) : Option Nat := if i = 0 then none else some (la (i - 1))
theorem lq_lt {la : Int → Nat} {n i : Int} (h : i < n) : lq la n i = some (la i) := if_pos h
theorem lq_ge {la : Int → Nat} {n i : Int} (h : ¬ i < n) : lq la n i = none := if_neg h
def DW (w : WT) (ky : Nat → ClassId) (d : Nat) (la na fa : Int → Nat) (n : Int) (lo co ct : Int → Int) (nm fl : Int → Int → Int) : Prop :=
  w d = some (oB 1 [.ref (la 0), .int (iI n)]) ∧
  (∀ i, 0 ≤ i → i < n → w (la i) = some (cL (na i) (fa i) (lo i) (co i) (ct i) (bq la i) (lq la n (i + 1))) ∧ w (na i) = some (iA (ky 0) 4 (nm i)) ∧ w (fa i) = some (iA (ky 0) 4 (fl i)) ∧ na i ≠ fa i) ∧
  (∀ i j, 0 ≤ i → i < n → 0 ≤ j → j < n → i ≠ j → la i ≠ la j ∧ na i ≠ na j ∧ fa i ≠ fa j ∧ na i ≠ fa j)
def DR (n : Int) (lo co ct : Int → Int) (nm fl : Int → Int → Int) : Prop :=
  (1 ≤ n ∧ n ≤ 1000) ∧ (∀ i, 0 ≤ lo i ∧ lo i ≤ 15) ∧ (∀ i, co i = 0 ∨ co i = 1) ∧ (∀ i, 0 ≤ ct i ∧ ct i ≤ 4) ∧ (∀ i k, 0 ≤ nm i k ∧ nm i k ≤ 999) ∧ (∀ i k, 0 ≤ fl i k ∧ fl i k ≤ 15)
/-- the last leaf whose low hash is at most h; back over the continued ones; on to the last that is looked at -/
def lLf (lo : Int → Int) (h : Int) : Nat → Int
  | 0 => 0
  | k + 1 => if lo k ≤ h then k else lLf lo h k
def lL (lo : Int → Int) (n h : Int) : Int := lLf lo h n.toNat
def bkf (lo co : Int → Int) (h : Int) : Nat → Int
  | 0 => 0
  | k + 1 => if co (k + 1) = 1 ∧ lo (k + 1) = h then bkf lo co h k else (k + 1 : Int)
def bK (lo co : Int → Int) (h i : Int) : Int := bkf lo co h i.toNat
noncomputable def fwf (has : Int → Prop) (lo co : Int → Int) (h n : Int) : Nat → Int → Int
  | 0, i => i
  | k + 1, i => @ite _ (¬ has i ∧ i + 1 < n ∧ co (i + 1) = 1 ∧ lo (i + 1) = h) (Classical.propDecidable _) (fwf has lo co h n k (i + 1)) i
noncomputable def fW (has : Int → Prop) (lo co : Int → Int) (h n i : Int) : Int := fwf has lo co h n (n - i).toNat i
def hA (ct : Int → Int) (nm : Int → Int → Int) (q i : Int) : Prop := ∃ k, 0 ≤ k ∧ k < ct i ∧ nm i k = q
noncomputable def fLk (n : Int) (lo co : Int → Int) (q : Int) : Int := bK lo co (hs q) (lL lo n (hs q))
noncomputable def lLk (n : Int) (lo co ct : Int → Int) (nm : Int → Int → Int) (q : Int) : Int := fW (hA ct nm q) lo co (hs q) n (fLk n lo co q)
theorem lL_0 (lo : Int → Int) (h : Int) : lL lo 0 h = 0 := rfl
theorem lL_s {lo : Int → Int} {i h : Int} (hi : 0 ≤ i) : lL lo (i + 1) h = if lo i ≤ h then i else lL lo i h := by
  unfold lL
  rw [show (i + 1).toNat = i.toNat + 1 by omega]
  show (if lo (i.toNat : Int) ≤ h then ((i.toNat : Nat) : Int) else lLf lo h i.toNat) = _
  rw [show (i.toNat : Int) = i by omega]
theorem lLf_bd (lo : Int → Int) (h : Int) : ∀ n : Nat, 0 ≤ lLf lo h n ∧ (lLf lo h n < n ∨ lLf lo h n = 0)
  | 0 => ⟨Int.le_refl _, Or.inr rfl⟩
  | n + 1 => by
    have := lLf_bd lo h n
    unfold lLf
    split <;> omega
theorem lL_bd (lo : Int → Int) {n : Int} (h : Int) (hn : 1 ≤ n) : 0 ≤ lL lo n h ∧ lL lo n h < n := by
  have := lLf_bd lo h n.toNat
  unfold lL
  omega
theorem bK_0 (lo co : Int → Int) (h : Int) : bK lo co h 0 = 0 := rfl
theorem bK_t {lo co : Int → Int} {h i : Int} (hi : 0 < i) (hc : co i = 1 ∧ lo i = h) : bK lo co h i = bK lo co h (i - 1) := by
  unfold bK
  rw [show i.toNat = (i - 1).toNat + 1 by omega]
  refine (if_pos ?_).trans rfl
  rw [show (((i - 1).toNat : Nat) : Int) + 1 = i by omega]
  exact hc
theorem bK_f {lo co : Int → Int} {h i : Int} (hi : 0 < i) (hc : ¬ (co i = 1 ∧ lo i = h)) : bK lo co h i = i := by
  unfold bK
  rw [show i.toNat = (i - 1).toNat + 1 by omega]
  have e : (((i - 1).toNat : Nat) : Int) + 1 = i := by omega
  refine (if_neg ?_).trans e
  rw [e]
  exact hc
theorem bkf_bd (lo co : Int → Int) (h : Int) : ∀ n : Nat, 0 ≤ bkf lo co h n ∧ bkf lo co h n ≤ n
  | 0 => ⟨Int.le_refl _, Int.le_refl _⟩
  | n + 1 => by
    have := bkf_bd lo co h n
    unfold bkf
    split <;> omega
theorem bK_bd (lo co : Int → Int) (h : Int) {i : Int} (hi : 0 ≤ i) : 0 ≤ bK lo co h i ∧ bK lo co h i ≤ i := by
  have := bkf_bd lo co h i.toNat
  unfold bK
  omega
theorem fW_t {has : Int → Prop} {lo co : Int → Int} {h n i : Int} (hi : i < n) (hc : ¬ has i ∧ i + 1 < n ∧ co (i + 1) = 1 ∧ lo (i + 1) = h) : fW has lo co h n i = fW has lo co h n (i + 1) := by
  unfold fW
  rw [show (n - i).toNat = (n - (i + 1)).toNat + 1 by omega]
  exact if_pos hc
theorem fW_f {has : Int → Prop} {lo co : Int → Int} {h n i : Int} (hi : i < n) (hc : ¬ (¬ has i ∧ i + 1 < n ∧ co (i + 1) = 1 ∧ lo (i + 1) = h)) : fW has lo co h n i = i := by
  unfold fW
  rw [show (n - i).toNat = (n - (i + 1)).toNat + 1 by omega]
  exact if_neg hc
theorem fwf_bd (has : Int → Prop) (lo co : Int → Int) (h n : Int) : ∀ (k : Nat) (i : Int), i < n → i ≤ fwf has lo co h n k i ∧ fwf has lo co h n k i < n
  | 0, i, hi => ⟨Int.le_refl _, hi⟩
  | k + 1, i, hi => by
    unfold fwf
    by_cases hc : ¬ has i ∧ i + 1 < n ∧ co (i + 1) = 1 ∧ lo (i + 1) = h
    · rw [if_pos hc]
      have := fwf_bd has lo co h n k (i + 1) hc.2.1
      omega
    · rw [if_neg hc]
      omega
theorem fW_bd (has : Int → Prop) (lo co : Int → Int) (h : Int) {n i : Int} (hi : i < n) : i ≤ fW has lo co h n i ∧ fW has lo co h n i < n := fwf_bd has lo co h n _ i hi
theorem fLk_bd {n : Int} (lo co : Int → Int) (q : Int) (hn : 1 ≤ n) : 0 ≤ fLk n lo co q ∧ fLk n lo co q < n := by
  have h1 := lL_bd lo (hs q) hn
  have h2 := bK_bd lo co (hs q) h1.1
  unfold fLk
  omega
theorem lLk_bd {n : Int} (lo co ct : Int → Int) (nm : Int → Int → Int) (q : Int) (hn : 1 ≤ n) : fLk n lo co q ≤ lLk n lo co ct nm q ∧ lLk n lo co ct nm q < n := fW_bd _ lo co (hs q) (fLk_bd lo co q hn).2
theorem hA_iff {ct : Int → Int} {nm : Int → Int → Int} {q i : Int} : hA ct nm q i ↔ 0 ≤ fF (fun k => nm i k = q) 0 (ct i) := by
  rcases fF_spec (P := fun k => nm i k = q) (b := ct i) _ 0 rfl with ⟨h1, h2⟩ | ⟨h1, h2, h3, -⟩
  · rw [h1]
    exact ⟨fun ⟨k, k1, k2, k3⟩ => absurd k3 (h2 k k1 k2), fun h => by omega⟩
  · exact ⟨fun _ => h1, fun _ => ⟨_, h1, h2, h3⟩⟩
