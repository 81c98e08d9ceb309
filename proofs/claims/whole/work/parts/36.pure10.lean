/-! flushing: goal, length, halving -/
def gF (j : Int) (f : Int → Int) (p : Int) : Int := if 0 < p ∧ 0 ≤ f (p - 1) ∧ f (p - 1) + 1 < 128 then f (p - 1) + 1 else j % 4 * 32
theorem gF_bd {j p : Int} {f : Int → Int} (hj : 0 ≤ j ∧ j < 16) : 0 ≤ gF j f p ∧ gF j f p < 128 := by
  unfold gF
  split <;> omega
def ln0 (R : Int) : Int := if R ≤ 1 then 1 else if R ≤ 2 then 2 else if R ≤ 4 then 4 else if R ≤ 8 then 8 else 16
def lnF (R L : Int) : Int := if ln0 R - R > L then ln0 R / 2 else ln0 R
theorem ln0_c (R : Int) : ln0 R = 1 ∨ ln0 R = 2 ∨ ln0 R = 4 ∨ ln0 R = 8 ∨ ln0 R = 16 := by unfold ln0; split <;> (try split) <;> (try split) <;> (try split) <;> omega
theorem lnF_c {R L : Int} (hR : 1 ≤ R) (hL : 0 ≤ L) : lnF R L = 1 ∨ lnF R L = 2 ∨ lnF R L = 4 ∨ lnF R L = 8 ∨ lnF R L = 16 := by
  unfold lnF ln0
  split <;> (try split) <;> (try split) <;> (try split) <;> (try split) <;> omega
/-- the length and the block that are found, the length being halved -/
noncomputable def hvF (T : Int → Int) (goal : Int) : Nat → Int → Int × Int
  | 0, len => (len, fD T goal len)
  | k + 1, len => @ite _ (fD T goal len = -1 ∧ 1 < len) (Classical.propDecidable _) (hvF T goal k (len / 2)) (len, fD T goal len)
