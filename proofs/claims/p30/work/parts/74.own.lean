/-! whose a block is: every taken block is of one file, once -/
def cnt (f : Int → Int) (k : Int) : Int := sI (fun p => eqI (f p) k) 0 64
def kI (u : Int → Int) (k : Int) : Int := if u 6 ≤ k ∧ k < u 6 + u 7 then 1 else 0
def oC (u f : Int → Int) (k : Int) : Int := cnt f k + kI u k
def OW (T : Int → Int) (v B : Int → Int → Int) : Prop := ∀ k, 0 ≤ k → k < 128 → T k = sI (fun j => oC (v j) (B j) k) 0 16
theorem cnt_nn (f : Int → Int) (k : Int) : 0 ≤ cnt f k := (sI_bd (g := fun p => eqI (f p) k) (a := 0) (b := 64) (fun j => eqI_bd _ _) (by decide)).1
theorem kI_c (u : Int → Int) (k : Int) : kI u k = 1 ∧ (u 6 ≤ k ∧ k < u 6 + u 7) ∨ kI u k = 0 ∧ ¬ (u 6 ≤ k ∧ k < u 6 + u 7) := by
  unfold kI
  split
  · exact Or.inl ⟨rfl, by assumption⟩
  · exact Or.inr ⟨rfl, by assumption⟩
theorem oC_nn (u f : Int → Int) (k : Int) : 0 ≤ oC u f k := by
  have h1 := cnt_nn f k
  have h2 := kI_c u k
  unfold oC
  omega
theorem OW.le {T : Int → Int} {v B : Int → Int → Int} (h : OW T v B) {j k : Int} (hj : 0 ≤ j ∧ j < 16) (hk : 0 ≤ k ∧ k < 128) : oC (v j) (B j) k ≤ T k := by
  rw [h k hk.1 hk.2]
  exact sI_one (g := fun i => oC (v i) (B i) k) hj (fun i _ _ => oC_nn _ _ _)
theorem OW.set {T T' : Int → Int} {v B : Int → Int → Int} (h : OW T v B) {j : Int} (hj : 0 ≤ j ∧ j < 16) {u f : Int → Int} (hT : ∀ k, 0 ≤ k → k < 128 → T' k = T k - oC (v j) (B j) k + oC u f k) : OW T' (fU v j u) (fU B j f) := by
  intro k k1 k2
  rw [hT k k1 k2, h k k1 k2]
  have h1 := sI_fU (g := fun i => oC (v i) (B i) k) (x := oC u f k) hj.1 hj.2
  rw [← h1]
  refine sI_congr (fun i _ _ => ?_)
  unfold fU
  by_cases hi : i = j
  · rw [if_pos hi, if_pos hi, if_pos hi]
  · rw [if_neg hi, if_neg hi, if_neg hi]
theorem OW.cg {T : Int → Int} {v v' B B' : Int → Int → Int} (h : OW T v B) (hc : ∀ j k, 0 ≤ j → j < 16 → 0 ≤ k → k < 128 → oC (v' j) (B' j) k = oC (v j) (B j) k) : OW T v' B' := by
  intro k k1 k2
  rw [h k k1 k2]
  exact sI_congr (fun j j1 j2 => (hc j k j1 j2 k1 k2).symm)
theorem oC_cg {u u' f f' : Int → Int} {k : Int} (h6 : u' 6 = u 6) (h7 : u' 7 = u 7) (hf : cnt f' k = cnt f k) : oC u' f' k = oC u f k := by
  unfold oC kI
  rw [h6, h7, hf]
theorem cnt_cg {f g : Int → Int} {k : Int} (h : ∀ p, 0 ≤ p → p < 64 → eqI (f p) k = eqI (g p) k) : cnt f k = cnt g k := sI_congr h
theorem cnt_dr {f : Int → Int} {a b k : Int} (hk : 0 ≤ k) : cnt (drF f a b) k = cnt f k := by
  refine cnt_cg (fun p _ _ => ?_)
  unfold drF
  split
  · rename_i h
    rw [eqI_f (by omega), eqI_f (by omega)]
  · rfl
theorem cnt_rs {f : Int → Int} {a b k : Int} (hk : 0 ≤ k) : cnt (rsF f a b) k = cnt f k := by
  refine cnt_cg (fun p _ _ => ?_)
  unfold rsF
  split
  · rename_i h
    rw [eqI_f (by omega), eqI_f (by omega)]
  · rfl
theorem cnt_fU {g : Int → Int} {q x k : Int} (hq : 0 ≤ q ∧ q < 64) : cnt (fU g q x) k = cnt g k - eqI (g q) k + eqI x k := by
  unfold cnt
  have h1 := sI_fU (g := fun p => eqI (g p) k) (x := eqI x k) hq.1 hq.2
  rw [← h1]
  refine sI_congr (fun i _ _ => ?_)
  unfold fU
  by_cases hi : i = q
  · rw [if_pos hi, if_pos hi]
  · rw [if_neg hi, if_neg hi]
theorem cnt_mp {f : Int → Int} {a b k : Int} (hk : 0 ≤ k) (ha : 0 ≤ a) : ∀ n : Nat, a + n ≤ 64 → (∀ p, a ≤ p → p < a + n → f p = -2) → cnt (mpF f a b n) k = cnt f k + (if b ≤ k ∧ k < b + n then 1 else 0)
  | 0, _, _ => by
    rw [show ((0 : Nat) : Int) = 0 from rfl, mpF_0, if_neg (by omega)]
    omega
  | n + 1, hn, h => by
    have ih := cnt_mp (b := b) hk ha n (by omega) (fun p h1 h2 => h p h1 (by omega))
    rw [show ((n + 1 : Nat) : Int) = (n : Int) + 1 by omega, mpF_s (by omega), cnt_fU (by omega), ih]
    have e1 : mpF f a b n (a + n) = -2 := by
      unfold mpF
      rw [if_neg (by omega)]
      exact h _ (by omega) (by omega)
    rw [e1, eqI_f (show ¬ (-2 : Int) = k by omega)]
    by_cases h9 : b + n = k
    · rw [eqI_t h9, if_neg (by omega), if_pos (by omega)]
      omega
    · rw [eqI_f h9]
      by_cases h8 : b ≤ k ∧ k < b + n
      · rw [if_pos h8, if_pos (by omega)]
        omega
      · rw [if_neg h8, if_neg (by omega)]
        omega
theorem cnt_cl {f : Int → Int} {a k : Int} (hk : 0 ≤ k) (ha : 0 ≤ a) : ∀ n : Nat, a + n ≤ 64 → (∀ p, a ≤ p → p < a + n → f p = f a + (p - a)) → cnt (clF f a (a + n)) k = cnt f k - (if f a ≤ k ∧ k < f a + n then 1 else 0)
  | 0, _, _ => by
    rw [show a + ((0 : Nat) : Int) = a by omega, clF_0, if_neg (by omega)]
    omega
  | n + 1, hn, h => by
    have ih := cnt_cl (f := f) hk ha n (by omega) (fun p h1 h2 => h p h1 (by omega))
    rw [show a + ((n + 1 : Nat) : Int) = a + n + 1 by omega, ← clF_s (by omega), cnt_fU (by omega), ih, clF_ge (Int.le_refl _), h (a + n) (by omega) (by omega), eqI_f (show ¬ (-1 : Int) = k by omega)]
    by_cases h9 : f a + (a + n - a) = k
    · rw [eqI_t h9, if_neg (by omega), if_pos (by omega)]
      omega
    · rw [eqI_f h9]
      by_cases h8 : f a ≤ k ∧ k < f a + n
      · rw [if_pos h8, if_pos (by omega)]
        omega
      · rw [if_neg h8, if_neg (by omega)]
        omega
theorem tkF_in {T : Int → Int} {a n x k : Int} (h : a ≤ k ∧ k < a + n) : tkF T a n x k = x := by unfold tkF; rw [if_pos h]
theorem tkF_out {T : Int → Int} {a n x k : Int} (h : ¬ (a ≤ k ∧ k < a + n)) : tkF T a n x k = T k := by unfold tkF; rw [if_neg h]
theorem OW.rel {T : Int → Int} {v B : Int → Int → Int} (h : OW T v B) (hT : ∀ i, T i = 0 ∨ T i = 1) {j : Int} (hj : 0 ≤ j ∧ j < 16) : OW (tkF T (v j 6) (v j 7) 0) (fU v j (fU (v j) 7 0)) B := by
  have h1 := h.set hj (T' := tkF T (v j 6) (v j 7) 0) (u := fU (v j) 7 0) (f := B j) (fun k k1 k2 => by
    have h2 := h.le hj ⟨k1, k2⟩
    have h3 := hT k
    have h4 := kI_c (v j) k
    have h5 := kI_c (fU (v j) 7 0) k
    have e6 : fU (v j) 7 0 6 = v j 6 := rfl
    have e7 : fU (v j) 7 0 7 = 0 := rfl
    have h6 := cnt_nn (B j) k
    unfold oC at h2 ⊢
    by_cases hk : v j 6 ≤ k ∧ k < v j 6 + v j 7
    · rw [tkF_in hk]; omega
    · rw [tkF_out hk]; omega)
  rwa [fU_id] at h1
theorem OW.rls {v B : Int → Int → Int} {T : Int → Int} (h : OW T v B) (hT : ∀ i, T i = 0 ∨ T i = 1) (hk : K67 v) : ∀ k : Nat, k ≤ 16 → OW (rlT v T k) (rlV v k) B ∧ (∀ i, rlT v T k i = 0 ∨ rlT v T k i = 1) ∧ sI (rlT v T k) 0 128 = sI T 0 128 - sI (fun j => v j 7) 0 k
  | 0, _ => by
    rw [show ((0 : Nat) : Int) = 0 from rfl, rlV_0, sI_0]
    exact ⟨h, hT, by show sI T 0 128 = _; omega⟩
  | k + 1, hk1 => by
    obtain ⟨h1, h2, h3⟩ := h.rls hT hk k (by omega)
    have hkk := hk k (by omega) (by omega)
    have h4 := h1.rel h2 (j := k) (by omega)
    rw [rlV_at, rlV_s (by omega)] at h4
    refine ⟨h4, tkF_01 h2 (Or.inl rfl), ?_⟩
    rw [show ((k + 1 : Nat) : Int) = (k : Int) + 1 by omega, sI_s (by omega)]
    show sI (tkF (rlT v T k) (v k 6) (v k 7) 0) 0 128 = _
    rw [sI_tk (by omega), h3]
    have h5 : ∀ n : Nat, (n : Int) ≤ v k 7 → sI (rlT v T k) (v k 6) (v k 6 + n) = n := by
      intro n
      induction n with
      | zero => intro _; simp [sI_0]
      | succ n ih =>
        intro hn
        rw [show v k 6 + ((n + 1 : Nat) : Int) = v k 6 + n + 1 by omega, sI_s (by omega), ih (by omega)]
        have h6 := h1.le (j := k) (k := v k 6 + n) (by omega) (by omega)
        have h7 := h2 (v k 6 + n)
        have h8 := kI_c (rlV v k k) (v k 6 + n)
        rw [rlV_at] at h8 h6
        have h9 := cnt_nn (B k) (v k 6 + n)
        unfold oC at h6
        omega
    have h6 := h5 (v k 7).toNat (by omega)
    rw [show ((v k 7).toNat : Int) = v k 7 by omega] at h6
    rw [h6]
    omega
theorem oC_fl {v B : Int → Int → Int} {i j k : Int} (hk : 0 ≤ k) : oC (flV v i j) (flB B i j) k = oC (v j) (B j) k := by
  unfold flV flB
  by_cases h : 0 ≤ j ∧ j < i
  · rw [if_pos h, if_pos h]
    exact oC_cg rfl rfl (cnt_dr hk)
  · rw [if_neg h, if_neg h]
theorem OW.fall {T : Int → Int} {v B : Int → Int → Int} (h : OW T v B) (hT : ∀ i, T i = 0 ∨ T i = 1) (hk : K67 v) : OW (rlT v T 16) (flV (rlV v 16) 16) (flB B 16) :=
  ((h.rls hT hk 16 (by decide)).1).cg (fun j k _ _ k1 _ => oC_fl k1)
/-- a step, steps -/
theorem OW.ct {B v : Int → Int → Int} {j y : Int} (hj : 0 ≤ j ∧ j < 16) (hy : 0 ≤ y) : ∀ (k : Nat) (T f : Int → Int) (sc n : Int), y + k ≤ 64 → (∀ p, -2 ≤ f p ∧ f p ≤ 127) → (∀ i, T i = 0 ∨ T i = 1) → OW T v (fU B j f) →
    OW (ctS y k T f sc n).2.1 v (fU B j (ctS y k T f sc n).2.2.1) ∧ (∀ i, (ctS y k T f sc n).2.1 i = 0 ∨ (ctS y k T f sc n).2.1 i = 1) ∧ (∀ i, (ctS y k T f sc n).2.1 i ≤ T i)
  | 0, T, f, sc, n, _, _, hT, h => ⟨h, hT, fun _ => Int.le_refl _⟩
  | k + 1, T, f, sc, n, hk, hf, hT, h => by
    by_cases h0 : 0 ≤ f (y + k)
    · obtain ⟨s1, s2, s3, s4⟩ := stF_spec f y 3 (y + k)
      have s3 := s3 (by omega)
      have hrun := stF_run s4
      have hfa : 0 ≤ f (stF f y 3 (y + k)) := by
        by_cases he : stF f y 3 (y + k) = y + k
        · rw [he]; exact h0
        · have h9 := (jN_iff f (stF f y 3 (y + k) + 1)).mp (s4 _ (by omega) (by omega))
          rw [show stF f y 3 (y + k) + 1 - 1 = stF f y 3 (y + k) by omega] at h9
          exact h9.2.2.1
      generalize hae : stF f y 3 (y + k) = a at s1 s2 s3 s4 hrun hfa
      have hrow : ∀ p, a ≤ p → p < a + ((y + k + 1 - a).toNat : Int) → f p = f a + (p - a) := fun p h1 h2 => by
        have h3 := hrun (p - a).toNat (by omega)
        rw [show a + ((p - a).toNat : Int) = p by omega] at h3
        omega
      have hlast := hrow (y + k) (by omega) (by omega)
      have hfl := hf (y + k)
      have hO : OW (tkF T (f a) (y + k + 1 - a) 0) v (fU B j (clF f a (y + k + 1))) := by
        have h1 := h.set hj (T' := tkF T (f a) (y + k + 1 - a) 0) (u := v j) (f := clF f a (y + k + 1)) (fun i i1 i2 => by
          have h2 := h.le hj ⟨i1, i2⟩
          rw [fU_s] at h2 ⊢
          have h3 := hT i
          have h4 := cnt_cl (f := f) (a := a) i1 (by omega) (y + k + 1 - a).toNat (by omega) hrow
          rw [show a + ((y + k + 1 - a).toNat : Int) = y + k + 1 by omega, show ((y + k + 1 - a).toNat : Int) = y + k + 1 - a by omega] at h4
          have h5 := cnt_nn (clF f a (y + k + 1)) i
          have h6 := kI_c (v j) i
          unfold oC at h2 ⊢
          by_cases hi : f a ≤ i ∧ i < f a + (y + k + 1 - a)
          · rw [tkF_in hi]
            rw [if_pos hi] at h4
            omega
          · rw [tkF_out hi]
            rw [if_neg hi] at h4
            omega)
        rwa [fU_ss, fU_id] at h1
      have hT' : ∀ i, tkF T (f a) (y + k + 1 - a) 0 i = 0 ∨ tkF T (f a) (y + k + 1 - a) 0 i = 1 := tkF_01 hT (Or.inl rfl)
      have hle : ∀ i, tkF T (f a) (y + k + 1 - a) 0 i ≤ T i := fun i => by
        have := hT i
        unfold tkF
        split <;> omega
      by_cases hs : sc = 1
      · rw [ctS_cr rfl h0 hs, hae]
        exact ⟨hO, hT', hle⟩
      · rw [ctS_st rfl h0 hs, hae]
        obtain ⟨r1, r2, r3⟩ := OW.ct hj hy k _ _ (if sc = -1 then sc else sc - 1) (n + 1) (by omega) (clF_bd hf) hT' hO
        exact ⟨r1, r2, fun i => Int.le_trans (r3 i) (hle i)⟩
    · rw [ctS_no rfl h0]
      exact OW.ct hj hy k T f sc n (by omega) hf hT h
