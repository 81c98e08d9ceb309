/-! the first place of a row that is so; the buddies -/
noncomputable def pI (P : Prop) : Int := @ite _ P (Classical.propDecidable _) 1 0
theorem pI_t {P : Prop} (h : P) : pI P = 1 := if_pos h
theorem pI_f {P : Prop} (h : ¬ P) : pI P = 0 := if_neg h
theorem pI_cases (P : Prop) : pI P = 1 ∧ P ∨ pI P = 0 ∧ ¬ P := by
  by_cases h : P
  · exact Or.inl ⟨pI_t h, h⟩
  · exact Or.inr ⟨pI_f h, h⟩
theorem pI_congr {P P' : Prop} (h : P ↔ P') : pI P = pI P' := by rw [show P = P' from propext h]
theorem pI_bd (P : Prop) : 0 ≤ pI P ∧ pI P ≤ 1 := by rcases pI_cases P with h | h <;> omega
noncomputable def fst1 (P : Int → Prop) (a : Int) : Nat → Int
  | 0 => -1
  | k + 1 => @ite _ (P a) (Classical.propDecidable _) a (fst1 P (a + 1) k)
noncomputable def fF (P : Int → Prop) (a b : Int) : Int := fst1 P a (b - a).toNat
theorem fF_end {P : Int → Prop} {a b : Int} (h : b ≤ a) : fF P a b = -1 := by
  unfold fF
  rw [show (b - a).toNat = 0 by omega]
  rfl
theorem fF_hit {P : Int → Prop} {a b : Int} (h : a < b) (hp : P a) : fF P a b = a := by
  unfold fF
  rw [show (b - a).toNat = (b - (a + 1)).toNat + 1 by omega]
  exact if_pos hp
theorem fF_miss {P : Int → Prop} {a b : Int} (h : a < b) (hp : ¬ P a) : fF P a b = fF P (a + 1) b := by
  unfold fF
  rw [show (b - a).toNat = (b - (a + 1)).toNat + 1 by omega]
  exact if_neg hp
theorem fF_spec {P : Int → Prop} {b : Int} : ∀ (n : Nat) (a : Int), (b - a).toNat = n → (fF P a b = -1 ∧ ∀ j, a ≤ j → j < b → ¬ P j) ∨ (a ≤ fF P a b ∧ fF P a b < b ∧ P (fF P a b) ∧ ∀ j, a ≤ j → j < fF P a b → ¬ P j) := by
  intro n
  induction n with
  | zero => intro a h; exact Or.inl ⟨fF_end (by omega), fun j h1 h2 => by omega⟩
  | succ n ih =>
    intro a h
    by_cases hp : P a
    · rw [fF_hit (by omega) hp]
      exact Or.inr ⟨Int.le_refl _, by omega, hp, fun j h1 h2 => by omega⟩
    · rw [fF_miss (by omega) hp]
      rcases ih (a + 1) (by omega) with ⟨h1, h2⟩ | ⟨h1, h2, h3, h4⟩
      · refine Or.inl ⟨h1, fun j h3 h4 => ?_⟩
        by_cases hj : j = a
        · rw [hj]; exact hp
        · exact h2 j (by omega) h4
      · refine Or.inr ⟨by omega, h2, h3, fun j h5 h6 => ?_⟩
        by_cases hj : j = a
        · rw [hj]; exact hp
        · exact h4 j (by omega) h6
/-- all of n blocks from a on are free (T: 1 where taken); the first aligned free piece of a group; what is found near a goal -/
def aF (T : Int → Int) (a n : Int) : Prop := ∀ j, a ≤ j → j < a + n → T j = 0
def aP (T : Int → Int) (n x : Int) : Prop := x % n = 0 ∧ aF T x n
noncomputable def fP (T : Int → Int) (g n : Int) : Int := fF (aP T n) (32 * g) (32 * g + 32)
noncomputable def fT (T : Int → Int) (g n : Int) : Nat → Int
  | 0 => -1
  | k + 1 => @ite _ (fP T ((g + (3 - k)) % 4) n = -1) (Classical.propDecidable _) (fT T g n k) (fP T ((g + (3 - k)) % 4) n)
noncomputable def fD (T : Int → Int) (goal n : Int) : Int := @ite _ (goal % 32 + n ≤ 32 ∧ aF T goal n) (Classical.propDecidable _) goal (fT T (goal / 32) n 4)
def tkF (T : Int → Int) (a n x : Int) : Int → Int := fun j => if a ≤ j ∧ j < a + n then x else T j
theorem tkF_0 (T : Int → Int) (a x : Int) : tkF T a 0 x = T := by funext j; unfold tkF; rw [if_neg (by omega)]
theorem tkF_s {T : Int → Int} {a n x : Int} (h : 0 ≤ n) : tkF T a (n + 1) x = fU (tkF T a n x) (a + n) x := by
  funext j
  unfold tkF fU
  by_cases hj : j = a + n
  · subst hj; rw [if_pos (by omega), if_pos rfl]
  · rw [if_neg hj]; dsimp only
    by_cases h2 : a ≤ j ∧ j < a + n
    · rw [if_pos h2, if_pos (by omega)]
    · rw [if_neg h2, if_neg (by omega)]
theorem tkF_ge {T : Int → Int} {a n x j : Int} (h : a + n ≤ j) : tkF T a n x j = T j := by unfold tkF; rw [if_neg (by omega)]
abbrev cG (t : Nat) (fb : Int) : va_E := oB 2 [.ref t, .int (iI fb)]
theorem iI_and {a b : Int} (ha : 0 ≤ a ∧ a ≤ 2147483647) (hb : b = 0 ∨ b = 1 ∨ b = 3 ∨ b = 7 ∨ b = 15 ∨ b = 31) : iI a &&& iI b = iI (a % (b + 1)) := by
  obtain ⟨n, rfl⟩ := iI_nat ha.1
  have key : ∀ (k : Nat) (m : Int32), m.toBitVec.toNat = 2 ^ k - 1 → iI (n : Int) &&& m = iI (((n % 2 ^ k : Nat)) : Int) := by
    intro k m hm
    rw [iI_n, iI_n]
    exact pk_andN (by omega) k hm
  rcases hb with rfl | rfl | rfl | rfl | rfl | rfl
  · rw [key 0 (iI 0) (by decide)]; congr 1
  · rw [key 1 (iI 1) (by decide)]; congr 1
  · rw [key 2 (iI 3) (by decide)]; congr 1
  · rw [key 3 (iI 7) (by decide)]; congr 1
  · rw [key 4 (iI 15) (by decide)]; congr 1
  · rw [key 5 (iI 31) (by decide)]; congr 1
section GF
variable {p : Program} {l : Launch} {e : Env} {R : Room} {s : State} {m : MethodId} {args : Array Value} {below : List Frame} {meth : Method} {c : Code} {D : va_G} {ky : Nat → ClassId} {z : Nat} {Q : State → Prop} {cells slots : Nat} {w : WT} {pc : Nat} {ls : List (Option Value)} {st : List Value} {cc : ByteArray} {own : String} {Ts : List Cond} {nL : Nat}
theorem gd_iand (C : Cx p l s m args meth c D ky z cc nL Ts own) {a b : Int} (hdg : decode cc pc = .ok (.iand, 1)) (h : (0 ≤ a ∧ a ≤ 2147483647) ∧ (b = 0 ∨ b = 1 ∨ b = 3 ∨ b = 7 ∨ b = 15 ∨ b = 31)) (kk : Gd p l e R s m args below meth c D z Q cells slots w (pc + 1) ls (.int (iI (a % (b + 1))) :: st)) : Gd p l e R s m args below meth c D z Q cells slots w pc ls (.int (iI b) :: .int (iI a) :: st) :=
  fun H locs la h1 h2 h3 => lv_iand C.1.1 C.1.2.1 hdg (by rw [iI_and h.1 h.2]; exact kk H locs la h1 h2 h3)
end GF
theorem fT_miss {T : Int → Int} {g n i : Int} (h : 0 ≤ i ∧ i < 4) (hp : fP T ((g + i) % 4) n = -1) : fT T g n (4 - i).toNat = fT T g n (4 - (i + 1)).toNat := by
  rw [show (4 - i).toNat = (4 - (i + 1)).toNat + 1 by omega]
  refine if_pos ?_
  rw [show (3 : Int) - ((4 - (i + 1)).toNat : Int) = i by omega]
  exact hp
theorem fT_hit {T : Int → Int} {g n i : Int} (h : 0 ≤ i ∧ i < 4) (hp : ¬ fP T ((g + i) % 4) n = -1) : fT T g n (4 - i).toNat = fP T ((g + i) % 4) n := by
  rw [show (4 - i).toNat = (4 - (i + 1)).toNat + 1 by omega]
  have e : (3 : Int) - ((4 - (i + 1)).toNat : Int) = i := by omega
  refine (if_neg ?_).trans ?_
  · rw [e]; exact hp
  · rw [e]
theorem fP_bd (T : Int → Int) (g n : Int) (hg : 0 ≤ g ∧ g < 4) : -1 ≤ fP T g n ∧ fP T g n < 128 := by
  unfold fP
  rcases fF_spec (P := aP T n) (b := 32 * g + 32) _ (32 * g) rfl with h | h <;> omega
