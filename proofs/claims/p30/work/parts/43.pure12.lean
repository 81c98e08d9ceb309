/-! a turn of flushing: T the taken blocks, v the fields, B the places; its length and what it leaves -/
def mI (a b : Int) : Int := if a ≤ b then a else b
theorem mI_c (a b : Int) : mI a b = a ∧ a ≤ b ∨ mI a b = b ∧ b < a := by unfold mI; split <;> omega
def lF (T : Int → Int) (v : Int → Int → Int) : Int := 128 - sI T 0 128 - sI (fun j => v j 4) 0 16
noncomputable def chH (j : Int) (T : Int → Int) (v B : Int → Int → Int) (p R : Int) : Int × Int := hvF T (gF j (B j) p) 4 (lnF R (lF T v))
noncomputable def chk (j : Int) (T : Int → Int) (v B : Int → Int → Int) (p R : Int) : Int × (Int → Int) × (Int → Int → Int) × (Int → Int → Int) :=
  if 0 < v j 7 ∧ v j 5 = p then
    (mI (v j 7) R, T, fU v j (fU (fU (fU (fU (v j) 4 (v j 4 - mI (v j 7) R)) 5 (p + mI (v j 7) R)) 6 (v j 6 + mI (v j 7) R)) 7 (v j 7 - mI (v j 7) R)), fU B j (mpF (B j) p (v j 6) (mI (v j 7) R)))
  else if (chH j T v B p R).1 ≤ R then
    ((chH j T v B p R).1, tkF T (chH j T v B p R).2 (chH j T v B p R).1 1, fU v j (fU (v j) 4 (v j 4 - (chH j T v B p R).1)), fU B j (mpF (B j) p (chH j T v B p R).2 (chH j T v B p R).1))
  else
    (R, tkF (tkF T (chH j T v B p R).2 (chH j T v B p R).1 1) (v j 6) (v j 7) 0, fU v j (fU (fU (fU (fU (fU (v j) 4 (v j 4 - R)) 7 0) 5 (p + R)) 6 ((chH j T v B p R).2 + R)) 7 ((chH j T v B p R).1 - R)), fU B j (mpF (B j) p (chH j T v B p R).2 R))
theorem sI_v4 {v : Int → Int → Int} {j : Int} {u : Int → Int} (hj : 0 ≤ j ∧ j < 16) : sI (fun i => fU v j u i 4) 0 16 = sI (fun i => v i 4) 0 16 - v j 4 + u 4 := by
  have h := sI_fU (g := fun i => v i 4) (x := u 4) hj.1 hj.2
  rw [← h]
  exact sI_congr (fun i h1 h2 => by unfold fU; split <;> rfl)
theorem sI_zero {T : Int → Int} {a n : Int} (hn : 0 ≤ n) (h : aF T a n) : sI T a (a + n) = 0 := by
  have h2 : ∀ k : Nat, (k : Int) ≤ n → sI T a (a + k) = 0 := by
    intro k
    induction k with
    | zero => intro _; simp [sI_0]
    | succ k ih =>
      intro hk
      rw [show a + ((k + 1 : Nat) : Int) = a + k + 1 by omega, sI_s (by omega), ih (by omega), h _ (by omega) (by omega)]
      rfl
  have h4 := h2 n.toNat (by omega)
  rwa [show (n.toNat : Int) = n by omega] at h4
theorem sI_tk1 {T : Int → Int} {a n : Int} (ha : 0 ≤ a ∧ 0 ≤ n ∧ a + n ≤ 128) (h : aF T a n) : sI (tkF T a n 1) 0 128 = sI T 0 128 + n := by
  rw [sI_tk ha, sI_zero ha.2.1 h]
  omega
theorem sI_tk0 {T : Int → Int} {a n : Int} (ha : 0 ≤ a ∧ 0 ≤ n ∧ a + n ≤ 128) (hT : ∀ i, T i = 0 ∨ T i = 1) : sI (tkF T a n 0) 0 128 ≤ sI T 0 128 := by
  rw [sI_tk ha]
  have h := sI_bd (g := T) (a := a) (b := a + n) (fun j => by have := hT j; omega) (by omega)
  omega
theorem rC_ge {f : Int → Int} {p R : Int} (hp : 0 ≤ p ∧ 0 ≤ R ∧ p + R ≤ 64) (h : ∀ q, p ≤ q → q < p + R → f q = -2) : R ≤ rC f := by
  have h1 := rC_mp (f := f) (a := p) (b := 0) (n := R) hp (Int.le_refl _) h
  have h2 := sI_bd (g := fun q => eqI (mpF f p 0 R q) (-2)) (a := 0) (b := 64) (fun q => by show 0 ≤ eqI _ _ ∧ eqI _ _ ≤ 1; unfold eqI; split <;> omega) (by omega)
  have h3 : rC (mpF f p 0 R) = sI (fun q => eqI (mpF f p 0 R q) (-2)) 0 64 := rfl
  omega
theorem sI_nn {g : Int → Int} {a : Int} (h : ∀ i, a ≤ i → i < 16 → 0 ≤ g i) : ∀ k : Nat, a + k ≤ 16 → 0 ≤ sI g a (a + k)
  | 0, _ => by simp [sI_0]
  | k + 1, hk => by
    rw [show a + ((k + 1 : Nat) : Int) = a + k + 1 by omega, sI_s (by omega)]
    have h1 := sI_nn h k (by omega)
    have h2 := h (a + k) (by omega) (by omega)
    omega
theorem sI_one {g : Int → Int} {j : Int} (hj : 0 ≤ j ∧ j < 16) (h : ∀ i, 0 ≤ i → i < 16 → 0 ≤ g i) : g j ≤ sI g 0 16 := by
  have h1 := sI_fU (g := g) (x := 0) hj.1 hj.2
  have h2 := sI_nn (g := fU g j 0) (a := 0) (fun i h1 h2 => by unfold fU; split <;> first | omega | exact h i h1 h2) 16 (by decide)
  rw [show (0 : Int) + ((16 : Nat) : Int) = 16 from rfl] at h2
  omega
theorem rC_nn (f : Int → Int) : 0 ≤ rC f := by
  have h2 := sI_bd (g := fun q => eqI (f q) (-2)) (a := 0) (b := 64) (fun q => by show 0 ≤ eqI _ _ ∧ eqI _ _ ≤ 1; unfold eqI; split <;> omega) (by omega)
  exact h2.1
theorem sI_full {T : Int → Int} (hT : ∀ i, T i = 0 ∨ T i = 1) (h : ∀ a, 0 ≤ a → a < 128 → T a ≠ 0) : sI T 0 128 = 128 := by
  have h1 : ∀ k : Nat, (k : Int) ≤ 128 → sI T 0 k = k := by
    intro k
    induction k with
    | zero => intro _; simp [sI_0]
    | succ k ih =>
      intro hk
      rw [show ((k + 1 : Nat) : Int) = (k : Int) + 1 by omega, sI_s (by omega), ih (by omega)]
      have h2 := hT k
      have h3 := h k (by omega) (by omega)
      omega
  exact h1 128 (by decide)
/-- while something is reserved in file j, there is room: a block is found -/
theorem chH_ok {T : Int → Int} {v B : Int → Int → Int} {sc dn j p R : Int} (hI : CI T v B sc dn) (hj : 0 ≤ j ∧ j < 16) (hp : 0 ≤ p ∧ 1 ≤ R ∧ p + R ≤ 64) (hr : ∀ q, p ≤ q → q < p + R → B j q = -2) (hL : 0 ≤ lF T v) :
    1 ≤ (chH j T v B p R).1 ∧ (chH j T v B p R).1 ≤ 16 ∧ 0 ≤ (chH j T v B p R).2 ∧ (chH j T v B p R).2 + (chH j T v B p R).1 ≤ 128 ∧ aF T (chH j T v B p R).2 (chH j T v B p R).1 ∧ (chH j T v B p R).1 - R ≤ lF T v := by
  obtain ⟨hT, hF, -, -⟩ := hI
  have hnn : ∀ i, 0 ≤ i → i < 16 → 0 ≤ v i 4 := fun i h1 h2 => by
    have h3 := (hF i h1 h2).2.2.2.1
    have h4 := rC_nn (B i)
    omega
  have hv := sI_one (g := fun i => v i 4) hj hnn
  have hv' : v j 4 ≤ sI (fun i => v i 4) 0 16 := hv
  have hR := rC_ge (f := B j) ⟨hp.1, by omega, hp.2.2⟩ hr
  have h4 := (hF j hj.1 hj.2).2.2.2.1
  have hln := lnF_c (R := R) (L := lF T v) hp.2.1 hL
  have hgb := gF_bd (p := p) (f := B j) hj
  obtain ⟨h1, h2, h3⟩ := hvF_sp (T := T) hgb 4 (lnF R (lF T v)) (by omega)
  have hll : lnF R (lF T v) - R ≤ lF T v ∨ 2 * lnF R (lF T v) ≤ 2 * R := by
    unfold lnF ln0
    split <;> (try split) <;> (try split) <;> (try split) <;> (try split) <;> omega
  have hl0 : lnF R (lF T v) ≤ 2 * R ∨ lnF R (lF T v) ≤ R := by
    unfold lnF ln0
    split <;> (try split) <;> (try split) <;> (try split) <;> (try split) <;> omega
  unfold chH
  rcases h3 with ⟨h5, h6⟩ | ⟨h5, h6, h7⟩
  · have h8 := sI_full hT h6
    have hLe : lF T v = 128 - sI T 0 128 - sI (fun j => v j 4) 0 16 := rfl
    omega
  · exact ⟨by omega, by omega, h5, h6, h7, by omega⟩
