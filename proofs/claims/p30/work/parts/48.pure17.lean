/-! a turn's three ways; what a turn and a row do to the file's count and places -/
theorem chk_k {j p R y : Int} {T : Int → Int} {v B : Int → Int → Int} (h : 0 < v j 7 ∧ v j 5 = p) (hy : y = v j 7 ∧ v j 7 ≤ R ∨ y = R ∧ R < v j 7) :
    chk j T v B p R = (y, T, fU v j (fU (fU (fU (fU (v j) 4 (v j 4 - y)) 5 (p + y)) 6 (v j 6 + y)) 7 (v j 7 - y)), fU B j (mpF (B j) p (v j 6) y)) := by
  have e : mI (v j 7) R = y := by have := mI_c (v j 7) R; omega
  unfold chk
  rw [if_pos h, e]
theorem chk_s {j p R y : Int} {T : Int → Int} {v B : Int → Int → Int} (h : ¬ (0 < v j 7 ∧ v j 5 = p)) (hy : y = (chH j T v B p R).1) (h2 : (chH j T v B p R).1 ≤ R) :
    chk j T v B p R = (y, tkF T (chH j T v B p R).2 (chH j T v B p R).1 1, fU v j (fU (v j) 4 (v j 4 - y)), fU B j (mpF (B j) p (chH j T v B p R).2 y)) := by
  unfold chk
  rw [if_neg h, if_pos h2, hy]
theorem chk_l {j p R y : Int} {T : Int → Int} {v B : Int → Int → Int} (h : ¬ (0 < v j 7 ∧ v j 5 = p)) (hy : y = R) (h2 : R < (chH j T v B p R).1) :
    chk j T v B p R = (y, tkF (tkF T (chH j T v B p R).2 (chH j T v B p R).1 1) (v j 6) (v j 7) 0, fU v j (fU (fU (fU (fU (fU (v j) 4 (v j 4 - y)) 7 0) 5 (p + y)) 6 ((chH j T v B p R).2 + y)) 7 ((chH j T v B p R).1 - y)), fU B j (mpF (B j) p (chH j T v B p R).2 y)) := by
  unfold chk
  rw [if_neg h, if_neg (by omega), hy]
theorem mpF_in {f : Int → Int} {a b n q : Int} (h : a ≤ q ∧ q < a + n) : mpF f a b n q = b + (q - a) := by
  unfold mpF
  rw [if_pos (by omega)]
theorem chk_more {T : Int → Int} {v B : Int → Int → Int} {sc dn j p R : Int} (hI : CI T v B sc dn) (hj : 0 ≤ j ∧ j < 16) (hp : 0 ≤ p ∧ 1 ≤ R ∧ p + R ≤ 64) (hr : ∀ q, p ≤ q → q < p + R → B j q = -2) (hL : 0 ≤ lF T v) :
    (chk j T v B p R).2.2.1 j 4 = v j 4 - (chk j T v B p R).1 ∧ (∀ q, p ≤ q → q < p + (chk j T v B p R).1 → 0 ≤ (chk j T v B p R).2.2.2 j q) := by
  obtain ⟨hc1, hc2, hc3, hc4, hc5, hc6⟩ := chH_ok hI hj hp hr hL
  obtain ⟨f0, f2, f3, f4, f5, f6, f8, f9, f10, fp⟩ := hI.2.1 j hj.1 hj.2
  unfold chk
  split
  · refine ⟨?_, fun q h1 h2 => ?_⟩
    · dsimp only
      simp [fU]
    · show 0 ≤ fU B j _ j q
      rw [fU_s, mpF_in ⟨h1, h2⟩]
      omega
  · split
    · refine ⟨?_, fun q h1 h2 => ?_⟩
      · dsimp only
        simp [fU]
      · show 0 ≤ fU B j _ j q
        rw [fU_s, mpF_in ⟨h1, h2⟩]
        omega
    · refine ⟨?_, fun q h1 h2 => ?_⟩
      · dsimp only
        simp [fU]
      · show 0 ≤ fU B j _ j q
        rw [fU_s, mpF_in ⟨h1, h2⟩]
        omega
theorem mrS_more {j e sc dn : Int} (hj : 0 ≤ j ∧ j < 16) (he : e ≤ 64) : ∀ (k : Nat) (p : Int) (T : Int → Int) (v B : Int → Int → Int), 0 ≤ p → p ≤ e → e - p ≤ k → CI T v B sc dn → 0 ≤ lF T v → (∀ q, p ≤ q → q < e → B j q = -2) →
    (mrS j e k p T v B).2.1 j 4 = v j 4 - (e - p) ∧ (∀ q, p ≤ q → q < e → 0 ≤ (mrS j e k p T v B).2.2 j q) := by
  intro k
  induction k with
  | zero =>
    intro p T v B _ hpe hk hI hL _
    rw [mrS_f (by omega)]
    exact ⟨by show v j 4 = _; omega, fun q h1 h2 => by omega⟩
  | succ k ih =>
    intro p T v B hp hpe hk hI hL hr
    by_cases h : p < e
    · rw [mrS_t h]
      obtain ⟨c1, c2, c3, c4, c5, c6⟩ := chk_ok (p := p) (R := e - p) hI hj (by omega) (fun q h1 h2 => hr q h1 (by omega)) hL
      obtain ⟨m1, m2⟩ := chk_more (p := p) (R := e - p) hI hj (by omega) (fun q h1 h2 => hr q h1 (by omega)) hL
      obtain ⟨d1, d2⟩ := ih (p + (chk j T v B p (e - p)).1) _ _ _ (by omega) (by omega) (by omega) c3 c4 (fun q h1 h2 => by rw [c5 q h1]; exact hr q (by omega) h2)
      refine ⟨by rw [d1, m1]; omega, fun q h1 h2 => ?_⟩
      by_cases hq : q < p + (chk j T v B p (e - p)).1
      · obtain ⟨-, -, -, o4⟩ := mrS_ok (e := e) hj he k (p + (chk j T v B p (e - p)).1) _ _ _ (by omega) (by omega) c3 c4 (fun q h1 h2 => by rw [c5 q h1]; exact hr q (by omega) h2)
        rw [o4 q hq]
        exact m2 q h1 hq
      · exact d2 q (by omega) h2
    · rw [mrS_f (by omega)]
      exact ⟨by show v j 4 = _; omega, fun q h1 h2 => by omega⟩
theorem mrS_k {j e sc dn : Int} (hj : 0 ≤ j ∧ j < 16) (he : e ≤ 64) : ∀ (k1 k2 : Nat) (x : Int) (T : Int → Int) (v B : Int → Int → Int), e - x ≤ k1 → e - x ≤ k2 → 0 ≤ x → CI T v B sc dn → 0 ≤ lF T v → (∀ q, x ≤ q → q < e → B j q = -2) → mrS j e k1 x T v B = mrS j e k2 x T v B := by
  intro k1
  induction k1 with
  | zero => intro k2 x T v B h1 h2 _ _ _ _; rw [mrS_f (by omega), mrS_f (by omega)]
  | succ k1 ih =>
    intro k2 x T v B h1 h2 hx hI hL hr
    by_cases h : x < e
    · obtain ⟨k3, rfl⟩ : ∃ k3 : Nat, k2 = k3 + 1 := ⟨k2 - 1, by omega⟩
      obtain ⟨c1, c2, c3, c4, c5, c6⟩ := chk_ok (p := x) (R := e - x) hI hj (by omega) (fun q h1 h2 => hr q h1 (by omega)) hL
      rw [mrS_t h, mrS_t h]
      exact ih k3 _ _ _ _ (by omega) (by omega) (by omega) c3 c4 (fun q h1 h2 => by rw [c5 q h1]; exact hr q (by omega) h2)
    · rw [mrS_f (by omega), mrS_f (by omega)]
theorem mrS_adv {j p e sc dn : Int} {T : Int → Int} {v B : Int → Int → Int} (hj : 0 ≤ j ∧ j < 16) (hp : 0 ≤ p ∧ p < e ∧ e ≤ 64) (hI : CI T v B sc dn) (hL : 0 ≤ lF T v) (hr : ∀ q, p ≤ q → q < e → B j q = -2) :
    mrS j e (e - p).toNat p T v B = mrS j e (e - (p + (chk j T v B p (e - p)).1)).toNat (p + (chk j T v B p (e - p)).1) (chk j T v B p (e - p)).2.1 (chk j T v B p (e - p)).2.2.1 (chk j T v B p (e - p)).2.2.2 := by
  obtain ⟨c1, c2, c3, c4, c5, c6⟩ := chk_ok (p := p) (R := e - p) hI hj (by omega) (fun q h1 h2 => hr q h1 (by omega)) hL
  rw [show (e - p).toNat = (e - p - 1).toNat + 1 by omega, mrS_t (by omega)]
  exact mrS_k (sc := sc) (dn := dn) hj hp.2.2 _ _ _ _ _ _ (by omega) (by omega) (by omega) c3 c4 (fun q h1 h2 => by rw [c5 q h1]; exact hr q (by omega) h2)
/-! flushing from a place on -/
abbrev S3 : Type := (Int → Int) × (Int → Int → Int) × (Int → Int → Int)
noncomputable def flR (j : Int) : Nat → Int → S3 → S3
  | 0, _, S => S
  | k + 1, p, S => flR j k (p + 1) (fl1 j p S.1 S.2.1 S.2.2)
theorem flR_s {j p : Int} {S : S3} (h : p < 64) : flR j (64 - p).toNat p S = flR j (64 - (p + 1)).toNat (p + 1) (fl1 j p S.1 S.2.1 S.2.2) := by
  rw [show (64 - p).toNat = (64 - (p + 1)).toNat + 1 by omega]
  rfl
theorem fl1_n {j p : Int} {T : Int → Int} {v B : Int → Int → Int} (h : B j p ≠ -2) : fl1 j p T v B = (T, v, B) := if_neg h
/-- over places that are not reserved -/
theorem flR_n {j : Int} {S : S3} : ∀ (k : Nat) (p e : Int), e - p = k → e ≤ 64 → (∀ q, p ≤ q → q < e → S.2.2 j q ≠ -2) → flR j (64 - p).toNat p S = flR j (64 - e).toNat e S := by
  intro k
  induction k with
  | zero => intro p e h _ _; rw [show p = e by omega]
  | succ k ih =>
    intro p e h he hn
    rw [flR_s (by omega), fl1_n (hn p (by omega) (by omega))]
    exact ih (p + 1) e (by omega) he (fun q h1 h2 => hn q (by omega) h2)
/-- the rest of a row, then what is behind it -/
theorem flR_row {j p e sc dn : Int} {T : Int → Int} {v B : Int → Int → Int} (hj : 0 ≤ j ∧ j < 16) (hp : 0 ≤ p ∧ p ≤ e ∧ e ≤ 64) (hI : CI T v B sc dn) (hL : 0 ≤ lF T v) (hr : ∀ q, p ≤ q → q < e → B j q = -2) (he : e = 64 ∨ B j e ≠ -2) :
    flR j (64 - p).toNat p (T, v, B) = flR j (64 - e).toNat e (mrS j e (e - p).toNat p T v B) := by
  by_cases h : p < e
  · rw [flR_s (by omega)]
    have e1 : fl1 j p T v B = mrS j e (e - p).toNat p T v B := by
      unfold fl1
      rw [if_pos (hr p (Int.le_refl _) h), eR_u hp.1 hp.2.1 hp.2.2 hr he]
    dsimp only
    rw [e1]
    have h2 := (mrS_more (e := e) hj hp.2.2 (e - p).toNat p T v B hp.1 hp.2.1 (by omega) hI hL hr).2
    exact flR_n (e - (p + 1)).toNat (p + 1) e (by omega) hp.2.2 (fun q h3 h4 => by have := h2 q (by omega) h4; omega)
  · obtain rfl : p = e := by omega
    rw [mrS_f (by omega)]
theorem flR_chk {j p e sc dn : Int} {T : Int → Int} {v B : Int → Int → Int} (hj : 0 ≤ j ∧ j < 16) (hp : 0 ≤ p ∧ p < e ∧ e ≤ 64) (hI : CI T v B sc dn) (hL : 0 ≤ lF T v) (hr : ∀ q, p ≤ q → q < e → B j q = -2) (he : e = 64 ∨ B j e ≠ -2) :
    flR j (64 - p).toNat p (T, v, B) = flR j (64 - (p + (chk j T v B p (e - p)).1)).toNat (p + (chk j T v B p (e - p)).1) (chk j T v B p (e - p)).2 := by
  obtain ⟨c1, c2, c3, c4, c5, c6⟩ := chk_ok (p := p) (R := e - p) hI hj (by omega) (fun q h1 h2 => hr q h1 (by omega)) hL
  rw [flR_row hj (by omega) hI hL hr he, show (chk j T v B p (e - p)).2 = ((chk j T v B p (e - p)).2.1, (chk j T v B p (e - p)).2.2.1, (chk j T v B p (e - p)).2.2.2) from rfl,
    flR_row (e := e) hj (by omega) c3 c4 (fun q h1 h2 => by rw [c5 q h1]; exact hr q (by omega) h2) (he.elim Or.inl (fun he => Or.inr (by rw [c5 e (by omega)]; exact he)))]
  congr 1
  exact mrS_adv hj hp hI hL hr
