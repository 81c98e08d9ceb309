/-! leaves as sets of names: the reference's row of a leaf against the class's sorted one -/
def DI (c : Int) (f : Int → Int) : Prop := ∀ k k', 0 ≤ k → k < c → 0 ≤ k' → k' < c → f k = f k' → k = k'
def PR (c : Int) (f g : Int → Int) : Prop := (∀ x, (∃ k, 0 ≤ k ∧ k < c ∧ f k = x) ↔ (∃ k, 0 ≤ k ∧ k < c ∧ g k = x)) ∧ DI c g
theorem rmF_mem {c p0 q : Int} {f : Int → Int} (hf : DI c f) (hp : 0 ≤ p0 ∧ p0 < c) (e0 : f p0 = q) (x : Int) : (∃ k, 0 ≤ k ∧ k < c - 1 ∧ rmF f p0 c k = x) ↔ (x ≠ q ∧ ∃ k, 0 ≤ k ∧ k < c ∧ f k = x) := by
  constructor
  · rintro ⟨k, k1, k2, k3⟩
    unfold rmF at k3
    by_cases h : p0 ≤ k ∧ k + 1 < c
    · rw [if_pos h] at k3
      refine ⟨fun e => ?_, k + 1, by omega, by omega, k3⟩
      have := hf (k + 1) p0 (by omega) (by omega) hp.1 hp.2 (by rw [k3, e0, e])
      omega
    · rw [if_neg h] at k3
      refine ⟨fun e => ?_, k, k1, by omega, k3⟩
      have := hf k p0 k1 (by omega) hp.1 hp.2 (by rw [k3, e0, e])
      omega
  · rintro ⟨h, k, k1, k2, k3⟩
    have hk : k ≠ p0 := fun e => h (by rw [← k3, e, e0])
    by_cases hlt : k < p0
    · exact ⟨k, k1, by omega, by unfold rmF; rw [if_neg (by omega)]; exact k3⟩
    · exact ⟨k - 1, by omega, by omega, by unfold rmF; rw [if_pos (by omega), show k - 1 + 1 = k by omega]; exact k3⟩
theorem PR.rm {c p0 p q : Int} {f g : Int → Int} (h : PR c f g) (hf : DI c f) (hp0 : 0 ≤ p0 ∧ p0 < c) (e0 : f p0 = q) (hp : 0 ≤ p ∧ p < c) (e : g p = q) : PR (c - 1) (rmF f p0 c) (fU g p (g (c - 1))) := by
  obtain ⟨h1, h2⟩ := h
  refine ⟨fun x => ?_, fun k k' a1 a2 a3 a4 a5 => ?_⟩
  · rw [rmF_mem hf hp0 e0 x, h1 x]
    constructor
    · rintro ⟨hx, k, k1, k2, k3⟩
      have hk : k ≠ p := fun e9 => hx (by rw [← k3, e9, e])
      by_cases hl : k = c - 1
      · subst hl
        exact ⟨p, hp.1, by omega, by rw [fU_s]; exact k3⟩
      · exact ⟨k, k1, by omega, by rw [fU_n hk]; exact k3⟩
    · rintro ⟨k, k1, k2, k3⟩
      by_cases hk : k = p
      · subst hk
        rw [fU_s] at k3
        refine ⟨fun e9 => ?_, c - 1, by omega, by omega, k3⟩
        have := h2 (c - 1) k (by omega) (by omega) hp.1 hp.2 (by rw [k3, e, e9])
        omega
      · rw [fU_n hk] at k3
        refine ⟨fun e9 => ?_, k, k1, by omega, k3⟩
        exact hk (h2 k p k1 (by omega) hp.1 hp.2 (by rw [k3, e, e9]))
  · by_cases hk : k = p
    · by_cases hk' : k' = p
      · omega
      · subst hk
        rw [fU_s, fU_n hk'] at a5
        have := h2 (c - 1) k' (by omega) (by omega) a3 (by omega) a5
        omega
    · by_cases hk' : k' = p
      · subst hk'
        rw [fU_s, fU_n hk] at a5
        have := h2 k (c - 1) a1 (by omega) (by omega) (by omega) a5
        omega
      · rw [fU_n hk, fU_n hk'] at a5
        exact h2 k k' a1 (by omega) a3 (by omega) a5
theorem inF_mem {c p q : Int} {f : Int → Int} (hp : 0 ≤ p ∧ p ≤ c) (x : Int) : (∃ k, 0 ≤ k ∧ k < c + 1 ∧ inF f p c q k = x) ↔ (x = q ∨ ∃ k, 0 ≤ k ∧ k < c ∧ f k = x) := by
  constructor
  · rintro ⟨k, k1, k2, k3⟩
    unfold inF fU shF at k3
    by_cases hk : k = p
    · rw [if_pos hk] at k3; exact Or.inl k3.symm
    · rw [if_neg hk] at k3
      by_cases h : p < k ∧ k ≤ c
      · rw [if_pos h] at k3; exact Or.inr ⟨k - 1, by omega, by omega, k3⟩
      · rw [if_neg h] at k3; exact Or.inr ⟨k, k1, by omega, k3⟩
  · rintro (h | ⟨k, k1, k2, k3⟩)
    · exact ⟨p, hp.1, by omega, by unfold inF; rw [fU_s]; exact h.symm⟩
    · by_cases hlt : k < p
      · exact ⟨k, k1, by omega, by unfold inF shF; rw [fU_n (by omega), if_neg (by omega)]; exact k3⟩
      · exact ⟨k + 1, by omega, by omega, by unfold inF shF; rw [fU_n (by omega), if_pos (by omega), show k + 1 - 1 = k by omega]; exact k3⟩
theorem PR.ins {c p q : Int} {f g : Int → Int} (h : PR c f g) (hq : ∀ k, 0 ≤ k → k < c → f k ≠ q) (hp : 0 ≤ p ∧ p ≤ c) : PR (c + 1) (inF f p c q) (fU g c q) := by
  obtain ⟨h1, h2⟩ := h
  have hg : ∀ k, 0 ≤ k → k < c → g k ≠ q := fun k k1 k2 k3 => by
    obtain ⟨k', a1, a2, a3⟩ := (h1 q).mpr ⟨k, k1, k2, k3⟩
    exact hq k' a1 a2 a3
  refine ⟨fun x => ?_, fun k k' a1 a2 a3 a4 a5 => ?_⟩
  · rw [inF_mem hp x, h1 x]
    constructor
    · rintro (h | ⟨k, k1, k2, k3⟩)
      · exact ⟨c, by omega, by omega, by rw [fU_s]; exact h.symm⟩
      · exact ⟨k, k1, by omega, by rw [fU_n (by omega)]; exact k3⟩
    · rintro ⟨k, k1, k2, k3⟩
      by_cases hk : k = c
      · subst hk; rw [fU_s] at k3; exact Or.inl k3.symm
      · rw [fU_n hk] at k3; exact Or.inr ⟨k, k1, by omega, k3⟩
  · by_cases hk : k = c
    · by_cases hk' : k' = c
      · omega
      · subst hk
        rw [fU_s, fU_n hk'] at a5
        exact absurd a5.symm (hg k' a3 (by omega))
    · by_cases hk' : k' = c
      · subst hk'
        rw [fU_s, fU_n hk] at a5
        exact absurd a5 (hg k a1 (by omega))
      · rw [fU_n hk, fU_n hk'] at a5
        exact h2 k k' a1 (by omega) a3 (by omega) a5
theorem PR.cg {c : Int} {f f' g g' : Int → Int} (h : PR c f g) (hf : ∀ k, 0 ≤ k → k < c → f' k = f k) (hg : ∀ k, 0 ≤ k → k < c → g' k = g k) : PR c f' g' := by
  obtain ⟨h1, h2⟩ := h
  refine ⟨fun x => ?_, fun k k' a1 a2 a3 a4 a5 => h2 k k' a1 a2 a3 a4 (by rw [← hg k a1 a2, ← hg k' a3 a4]; exact a5)⟩
  constructor
  · rintro ⟨k, k1, k2, k3⟩
    obtain ⟨k', b1, b2, b3⟩ := (h1 x).mp ⟨k, k1, k2, by rw [← hf k k1 k2]; exact k3⟩
    exact ⟨k', b1, b2, by rw [hg k' b1 b2]; exact b3⟩
  · rintro ⟨k, k1, k2, k3⟩
    obtain ⟨k', b1, b2, b3⟩ := (h1 x).mpr ⟨k, k1, k2, by rw [← hg k k1 k2]; exact k3⟩
    exact ⟨k', b1, b2, by rw [hf k' b1 b2]; exact b3⟩
theorem PR.rf {c : Int} {f : Int → Int} (h : DI c f) : PR c f f := ⟨fun _ => Iff.rfl, h⟩
/-! the reference sorts a leaf -/
def csw (g : Int → Int) (j : Int) : Int → Int := if rk (g (j + 1)) < rk (g j) then fU (fU g j (g (j + 1))) (j + 1) (g j) else g
theorem csw_t {g : Int → Int} {j : Int} (h : rk (g (j + 1)) < rk (g j)) : csw g j = fU (fU g j (g (j + 1))) (j + 1) (g j) := if_pos h
theorem csw_f {g : Int → Int} {j : Int} (h : ¬ rk (g (j + 1)) < rk (g j)) : csw g j = g := if_neg h
theorem csw_a {g : Int → Int} {j i : Int} (h1 : i ≠ j) (h2 : i ≠ j + 1) : csw g j i = g i := by
  unfold csw
  split
  · rw [fU_n h2, fU_n h1]
  · rfl
theorem PR.csw {f g : Int → Int} {j : Int} (h : PR 4 f g) (hj : 0 ≤ j ∧ j < 3) : PR 4 f (csw g j) := by
  by_cases hc : rk (g (j + 1)) < rk (g j)
  · rw [csw_t hc]
    obtain ⟨h1, h2⟩ := h
    have e : ∀ k, (fU (fU g j (g (j + 1))) (j + 1) (g j)) k = g (if k = j then j + 1 else if k = j + 1 then j else k) := by
      intro k
      unfold fU
      by_cases a : k = j + 1
      · subst a; rw [if_pos rfl, if_neg (by omega), if_pos rfl]
      · rw [if_neg a]
        by_cases b : k = j
        · rw [if_pos b, if_pos b]
        · rw [if_neg b, if_neg b, if_neg a]
    have r : ∀ k : Int, 0 ≤ k → k < 4 → 0 ≤ (if k = j then j + 1 else if k = j + 1 then j else k) ∧ (if k = j then j + 1 else if k = j + 1 then j else k) < 4 := by
      intro k a b
      split
      · omega
      · split <;> omega
    refine ⟨fun x => ?_, fun k k' a1 a2 a3 a4 a5 => ?_⟩
    · rw [h1 x]
      constructor
      · rintro ⟨k, k1, k2, k3⟩
        refine ⟨_, (r k k1 k2).1, (r k k1 k2).2, ?_⟩
        rw [e, ← k3]
        congr 1
        split <;> split <;> omega
      · rintro ⟨k, k1, k2, k3⟩
        rw [e] at k3
        exact ⟨_, (r k k1 k2).1, (r k k1 k2).2, k3⟩
    · rw [e, e] at a5
      have h3 := h2 _ _ (r k a1 a2).1 (r k a1 a2).2 (r k' a3 a4).1 (r k' a3 a4).2 a5
      split at h3 <;> split at h3 <;> (try split at h3) <;> (try split at h3) <;> omega
  · rw [csw_f hc]; exact h
def SR (k : Int) (g : Int → Int) : Prop := ∀ m i, 4 - k ≤ m → m ≤ 3 → 0 ≤ i → i < m → rk (g i) ≤ rk (g m)
def BI (k j : Int) (g : Int → Int) : Prop := SR k g ∧ (j ≤ 3 - k → ∀ i, 0 ≤ i → i < j → rk (g i) ≤ rk (g j)) ∧ (3 - k < j → SR (k + 1) g)
theorem BI.z {k : Int} {g : Int → Int} (h : SR k g) (hk : k ≤ 3) : BI k 0 g := ⟨h, fun _ i h1 h2 => by omega, fun h => by omega⟩
theorem BI.x {k : Int} {g : Int → Int} (h : BI k 3 g) (hk : 0 ≤ k) : SR (k + 1) g := by
  by_cases h3 : 3 - k < 3
  · exact h.2.2 h3
  · obtain rfl : k = 0 := by omega
    intro m i m1 m2 i1 i2
    obtain rfl : m = 3 := by omega
    exact h.2.1 (by omega) i i1 i2
theorem BI.s {k j : Int} {g : Int → Int} (h : BI k j g) (hk : 0 ≤ k ∧ k ≤ 3) (hj : 0 ≤ j ∧ j < 3) : BI k (j + 1) (csw g j) := by
  obtain ⟨h1, h2, h3⟩ := h
  by_cases hc : rk (g (j + 1)) < rk (g j)
  · have hlt : j + 1 < 4 - k := by
      by_cases h9 : j + 1 < 4 - k
      · exact h9
      · have := h1 (j + 1) j (by omega) (by omega) hj.1 (by omega)
        omega
    have ej : csw g j j = g (j + 1) := by rw [csw_t hc, fU_n (by omega), fU_s]
    have ej1 : csw g j (j + 1) = g j := by rw [csw_t hc, fU_s]
    refine ⟨fun m i m1 m2 i1 i2 => ?_, fun _ i i1 i2 => ?_, fun h9 => by omega⟩
    · have em : csw g j m = g m := csw_a (by omega) (by omega)
      rw [em]
      by_cases a : i = j
      · rw [a, ej]; exact h1 m (j + 1) m1 m2 (by omega) (by omega)
      · by_cases b : i = j + 1
        · rw [b, ej1]; exact h1 m j m1 m2 (by omega) (by omega)
        · rw [csw_a a b]; exact h1 m i m1 m2 i1 i2
    · rw [ej1]
      by_cases a : i = j
      · rw [a, ej]; omega
      · rw [csw_a a (by omega)]
        exact h2 (by omega) i i1 (by omega)
  · rw [csw_f hc]
    refine ⟨h1, fun h9 i i1 i2 => ?_, fun h9 => ?_⟩
    · by_cases a : i = j
      · rw [a]; omega
      · have := h2 (by omega) i i1 (by omega)
        omega
    · by_cases h8 : 3 - k < j
      · exact h3 h8
      · intro m i m1 m2 i1 i2
        by_cases hm : m = j
        · rw [hm]; exact h2 (by omega) i i1 (by omega)
        · exact h1 m i (by omega) m2 i1 i2
theorem rk_inj {a b : Int} (ha : 0 ≤ a ∧ a ≤ 999) (hb : 0 ≤ b ∧ b ≤ 999) (h : rk a = rk b) : a = b := by
  unfold rk at h
  omega
/-- what is sorted and has the same names is the same -/
theorem srt_u {f g : Int → Int} (h : PR 4 f g) (hf : ∀ k, 0 ≤ k → k + 1 < 4 → rk (f k) < rk (f (k + 1))) (hb : ∀ k, 0 ≤ f k ∧ f k ≤ 999) (hg : SR 4 g) : ∀ k, 0 ≤ k → k < 4 → g k = f k := by
  obtain ⟨h1, h2⟩ := h
  have hm : ∀ k, 0 ≤ k → k < 4 → (g k = f 0 ∨ g k = f 1 ∨ g k = f 2 ∨ g k = f 3) := by
    intro k k1 k2
    obtain ⟨k', a1, a2, a3⟩ := (h1 (g k)).mpr ⟨k, k1, k2, rfl⟩
    rw [← a3]
    rcases (show k' = 0 ∨ k' = 1 ∨ k' = 2 ∨ k' = 3 by omega) with rfl | rfl | rfl | rfl
    · exact Or.inl rfl
    · exact Or.inr (Or.inl rfl)
    · exact Or.inr (Or.inr (Or.inl rfl))
    · exact Or.inr (Or.inr (Or.inr rfl))
  have hgb : ∀ k, 0 ≤ k → k < 4 → 0 ≤ g k ∧ g k ≤ 999 := by
    intro k k1 k2
    rcases hm k k1 k2 with h | h | h | h <;> rw [h] <;> exact hb _
  have hs : ∀ k k', 0 ≤ k → k < k' → k' < 4 → rk (g k) < rk (g k') := by
    intro k k' k1 k2 k3
    have h3 := hg k' k (by omega) (by omega) k1 k2
    by_cases h4 : rk (g k) = rk (g k')
    · have := h2 k k' k1 (by omega) (by omega) k3 (rk_inj (hgb k k1 (by omega)) (hgb k' (by omega) k3) h4)
      omega
    · omega
  have f01 := hf 0 (by omega) (by omega)
  have f12 := hf 1 (by omega) (by omega)
  have f23 := hf 2 (by omega) (by omega)
  rw [show (0 : Int) + 1 = 1 from rfl] at f01
  rw [show (1 : Int) + 1 = 2 from rfl] at f12
  rw [show (2 : Int) + 1 = 3 from rfl] at f23
  have g01 := hs 0 1 (by omega) (by omega) (by omega)
  have g12 := hs 1 2 (by omega) (by omega) (by omega)
  have g23 := hs 2 3 (by omega) (by omega) (by omega)
  have r : ∀ k, 0 ≤ k → k < 4 → (rk (g k) = rk (f 0) ∨ rk (g k) = rk (f 1) ∨ rk (g k) = rk (f 2) ∨ rk (g k) = rk (f 3)) := by
    intro k k1 k2
    rcases hm k k1 k2 with h | h | h | h <;> rw [h] <;> omega
  have r0 := r 0 (by omega) (by omega)
  have r1 := r 1 (by omega) (by omega)
  have r2 := r 2 (by omega) (by omega)
  have r3 := r 3 (by omega) (by omega)
  clear r hs hm h1 h2
  intro k k1 k2
  rcases (show k = 0 ∨ k = 1 ∨ k = 2 ∨ k = 3 by omega) with rfl | rfl | rfl | rfl
  all_goals refine rk_inj (hgb _ (by omega) (by omega)) (hb _) ?_
  all_goals omega
theorem fU_off {F : Int → Int} {b j x : Int} : (fun k => fU F (b + j) x (b + k)) = fU (fun k => F (b + k)) j x := by
  funext k
  unfold fU
  by_cases h : k = j
  · rw [if_pos h, if_pos (by omega)]
  · rw [if_neg h, if_neg (by omega)]
/-- what the reference's rows of names say -/
def RNM (F : Nat → Int → Int) (G : Nat → Int) (n : Int) (lo co ct : Int → Int) (nm : Int → Int → Int) : Prop :=
  G 14 = n ∧ ∀ i, 0 ≤ i → i < n → F 10 i = lo i ∧ F 11 i = co i ∧ F 13 i = ct i ∧ PR (ct i) (nm i) (fun k => F 12 (4 * i + k))
theorem PR.hA {ct : Int → Int} {nm : Int → Int → Int} {i q : Int} {g : Int → Int} (h : PR (ct i) (nm i) g) : hA ct nm q i ↔ ∃ k, 0 ≤ k ∧ k < ct i ∧ g k = q := h.1 q
def FF9 (F F' : Nat → Int → Int) : Prop := ∀ k, k < 9 → F' k = F k
theorem FF9.rf (F : Nat → Int → Int) : FF9 F F := fun _ _ => rfl
theorem FF9.tr {F F1 F2 : Nat → Int → Int} (h1 : FF9 F F1) (h2 : FF9 F1 F2) : FF9 F F2 := fun k hk => (h2 k hk).trans (h1 k hk)
