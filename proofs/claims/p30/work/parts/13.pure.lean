/-! sums over rows, and the changes of rows, as plain functions of Int -/
def sm (g : Int → Int) (a : Int) : Nat → Int
  | 0 => 0
  | n + 1 => sm g a n + g (a + n)
def sI (g : Int → Int) (a b : Int) : Int := sm g a (b - a).toNat
theorem sI_0 (g : Int → Int) (a : Int) : sI g a a = 0 := by
  unfold sI
  rw [Int.sub_self]
  rfl
theorem sI_s {g : Int → Int} {a b : Int} (h : a ≤ b) : sI g a (b + 1) = sI g a b + g b := by
  unfold sI
  rw [show (b + 1 - a).toNat = (b - a).toNat + 1 by omega]
  show sm g a (b - a).toNat + g (a + ((b - a).toNat : Int)) = _
  rw [show a + ((b - a).toNat : Int) = b by omega]
theorem sm_congr {g g' : Int → Int} {a : Int} : ∀ (n : Nat), (∀ j, a ≤ j → j < a + n → g j = g' j) → sm g a n = sm g' a n
  | 0, _ => rfl
  | n + 1, h => by
    show sm g a n + g (a + n) = sm g' a n + g' (a + n)
    rw [sm_congr n (fun j h1 h2 => h j h1 (by omega)), h (a + n) (by omega) (by omega)]
theorem sI_congr {g g' : Int → Int} {a b : Int} (h : ∀ j, a ≤ j → j < b → g j = g' j) : sI g a b = sI g' a b := by
  unfold sI
  exact sm_congr _ (fun j h1 h2 => h j h1 (by omega))
theorem sm_fU {g : Int → Int} {a i x : Int} : ∀ (n : Nat), a ≤ i → i < a + n → sm (fU g i x) a n = sm g a n - g i + x
  | 0, h1, h2 => by omega
  | n + 1, h1, h2 => by
    show sm (fU g i x) a n + fU g i x (a + n) = sm g a n + g (a + n) - g i + x
    by_cases hi : i = a + n
    · subst hi
      rw [fU_s, sm_congr n (g' := g) (fun j h3 h4 => fU_n (by omega))]
      omega
    · rw [fU_n (fun q => hi q.symm), sm_fU n h1 (by omega)]
      omega
theorem sI_fU {g : Int → Int} {a b i x : Int} (h1 : a ≤ i) (h2 : i < b) : sI (fU g i x) a b = sI g a b - g i + x := by
  unfold sI
  exact sm_fU _ h1 (by omega)
theorem sm_bd {g : Int → Int} {a : Int} (h : ∀ j, 0 ≤ g j ∧ g j ≤ 1) : ∀ (n : Nat), 0 ≤ sm g a n ∧ sm g a n ≤ n
  | 0 => ⟨Int.le_refl _, Int.le_refl _⟩
  | n + 1 => by
    have h1 := sm_bd (a := a) h n
    have h2 := h (a + n)
    show 0 ≤ sm g a n + g (a + n) ∧ sm g a n + g (a + n) ≤ ((n + 1 : Nat) : Int)
    omega
theorem sI_bd {g : Int → Int} {a b : Int} (h : ∀ j, 0 ≤ g j ∧ g j ≤ 1) (hab : a ≤ b) : 0 ≤ sI g a b ∧ sI g a b ≤ b - a := by
  unfold sI
  have := sm_bd (a := a) h (b - a).toNat
  omega
theorem sI_split {g : Int → Int} {a b : Int} (h1 : a ≤ b) : ∀ (n : Nat), sI g a (b + n) = sI g a b + sI g b (b + n)
  | 0 => by simp [sI_0]
  | n + 1 => by
    have ih := sI_split (g := g) h1 n
    rw [show b + ((n + 1 : Nat) : Int) = b + n + 1 by omega, sI_s (by omega), sI_s (by omega), ih]
    omega
theorem sI_cut {g : Int → Int} {a b c : Int} (h1 : a ≤ b) (h2 : b ≤ c) : sI g a c = sI g a b + sI g b c := by
  have := sI_split (g := g) h1 (c - b).toNat
  rwa [show b + ((c - b).toNat : Int) = c by omega] at this
def eqI (x y : Int) : Int := if x = y then 1 else 0
def geI (x : Int) : Int := if 0 ≤ x then 1 else 0
theorem eqI_t {x y : Int} (h : x = y) : eqI x y = 1 := if_pos h
theorem eqI_f {x y : Int} (h : ¬ x = y) : eqI x y = 0 := if_neg h
theorem geI_t {x : Int} (h : 0 ≤ x) : geI x = 1 := if_pos h
theorem geI_f {x : Int} (h : ¬ 0 ≤ x) : geI x = 0 := if_neg h
theorem eqI_bd (x y : Int) : 0 ≤ eqI x y ∧ eqI x y ≤ 1 := by unfold eqI; split <;> omega
theorem geI_bd (x : Int) : 0 ≤ geI x ∧ geI x ≤ 1 := by unfold geI; split <;> omega
/-- an extent begins at p; p is of the same extent as the place ahead of it -/
def bE (f : Int → Int) (p : Int) : Int := if 0 ≤ f p ∧ ¬ (0 < p ∧ 0 ≤ f (p - 1) ∧ f p = f (p - 1) + 1) then 1 else 0
def jN (f : Int → Int) (p : Int) : Int := if 0 < p ∧ 0 ≤ f p ∧ 0 ≤ f (p - 1) ∧ f p = f (p - 1) + 1 then 1 else 0
theorem bE_bd (f : Int → Int) (p : Int) : 0 ≤ bE f p ∧ bE f p ≤ 1 := by unfold bE; split <;> omega
theorem jN_bd (f : Int → Int) (p : Int) : 0 ≤ jN f p ∧ jN f p ≤ 1 := by unfold jN; split <;> omega
/-- reserved from a to b; the reserved ones gone from a to b; mapped from a on, n places, to the blocks from b on -/
def rsF (f : Int → Int) (a b : Int) : Int → Int := fun j => if a ≤ j ∧ j < b ∧ f j = -1 then -2 else f j
def drF (f : Int → Int) (a b : Int) : Int → Int := fun j => if a ≤ j ∧ j < b ∧ f j = -2 then -1 else f j
def mpF (f : Int → Int) (a b n : Int) : Int → Int := fun j => if a ≤ j ∧ j < a + n then b + (j - a) else f j
theorem rsF_0 (f : Int → Int) (a : Int) : rsF f a a = f := by funext j; unfold rsF; rw [if_neg (by omega)]
theorem drF_0 (f : Int → Int) (a : Int) : drF f a a = f := by funext j; unfold drF; rw [if_neg (by omega)]
theorem mpF_0 (f : Int → Int) (a b : Int) : mpF f a b 0 = f := by funext j; unfold mpF; rw [if_neg (by omega)]
theorem rsF_t {f : Int → Int} {a i : Int} (h : a ≤ i) (hf : f i = -1) : rsF f a (i + 1) = fU (rsF f a i) i (-2) := by
  funext j
  unfold rsF fU
  by_cases hj : j = i
  · subst hj; rw [if_pos (by omega), if_pos rfl]
  · rw [if_neg hj]; dsimp only
    by_cases h2 : a ≤ j ∧ j < i ∧ f j = -1
    · rw [if_pos h2, if_pos (by omega)]
    · rw [if_neg h2, if_neg (by omega)]
theorem rsF_f {f : Int → Int} {a i : Int} (hf : ¬ f i = -1) : rsF f a (i + 1) = rsF f a i := by
  funext j
  unfold rsF
  by_cases h2 : a ≤ j ∧ j < i ∧ f j = -1
  · rw [if_pos h2, if_pos (by omega)]
  · rw [if_neg h2, if_neg (fun q => h2 ⟨q.1, by
      have : j ≠ i := fun e => hf (e ▸ q.2.2)
      omega, q.2.2⟩)]
theorem drF_t {f : Int → Int} {a i : Int} (h : a ≤ i) (hf : f i = -2) : drF f a (i + 1) = fU (drF f a i) i (-1) := by
  funext j
  unfold drF fU
  by_cases hj : j = i
  · subst hj; rw [if_pos (by omega), if_pos rfl]
  · rw [if_neg hj]; dsimp only
    by_cases h2 : a ≤ j ∧ j < i ∧ f j = -2
    · rw [if_pos h2, if_pos (by omega)]
    · rw [if_neg h2, if_neg (by omega)]
theorem drF_f {f : Int → Int} {a i : Int} (hf : ¬ f i = -2) : drF f a (i + 1) = drF f a i := by
  funext j
  unfold drF
  by_cases h2 : a ≤ j ∧ j < i ∧ f j = -2
  · rw [if_pos h2, if_pos (by omega)]
  · rw [if_neg h2, if_neg (fun q => h2 ⟨q.1, by
      have : j ≠ i := fun e => hf (e ▸ q.2.2)
      omega, q.2.2⟩)]
theorem mpF_s {f : Int → Int} {a b n : Int} (h : 0 ≤ n) : mpF f a b (n + 1) = fU (mpF f a b n) (a + n) (b + n) := by
  funext j
  unfold mpF fU
  by_cases hj : j = a + n
  · subst hj; rw [if_pos (by omega), if_pos rfl]; omega
  · rw [if_neg hj]; dsimp only
    by_cases h2 : a ≤ j ∧ j < a + n
    · rw [if_pos h2, if_pos (by omega)]
    · rw [if_neg h2, if_neg (by omega)]
theorem rsF_ge {f : Int → Int} {a i j : Int} (h : i ≤ j) : rsF f a i j = f j := by unfold rsF; rw [if_neg (by omega)]
theorem drF_ge {f : Int → Int} {a i j : Int} (h : i ≤ j) : drF f a i j = f j := by unfold drF; rw [if_neg (by omega)]
theorem fU_ss {α : Type} (f : Int → α) (i : Int) (x y : α) : fU (fU f i x) i y = fU f i y := by
  funext j
  unfold fU
  by_cases hj : j = i
  · rw [if_pos hj, if_pos hj]
  · rw [if_neg hj, if_neg hj, if_neg hj]
theorem fU_id {α : Type} (f : Int → α) (i : Int) : fU f i (f i) = f := by
  funext j
  unfold fU
  by_cases hj : j = i
  · rw [if_pos hj, hj]
  · rw [if_neg hj]
theorem fU_idd {α : Type} {f : Int → α} {i : Int} {x : α} (h : x = f i) : fU f i x = f := by rw [h]; exact fU_id f i
/-- a content's cell -/
abbrev cC (bl : Nat) (v : Int → Int) : va_E := oB 0 [.int (iI (v 0)), .ref bl, .int (iI (v 2)), .int (iI (v 3)), .int (iI (v 4)), .int (iI (v 5)), .int (iI (v 6)), .int (iI (v 7)), .int (iI (v 8)), .int (iI (v 9)), .int (iI (v 10))]
theorem kd_ne {w : WT} {a b : Nat} {c1 : Nat} {fs1 : List Value} {x : ClassId × vp_A} (h1 : w a = some (oB c1 fs1)) (h2 : w b = some (.inl x)) : a ≠ b := fun e => by rw [e, h2] at h1; cases h1
theorem look1 {w : WT} {a b : Nat} {e : va_E} {x : Option va_E} (h : w b = x) (hn : b ≠ a) : wU w a e b = x := (wU_n hn).trans h
theorem look2 {w : WT} {a b : Nat} {e : va_E} {x : Option va_E} (h : w b = x) (hn : a ≠ b) : wU w a e b = x := (wU_n hn.symm).trans h
