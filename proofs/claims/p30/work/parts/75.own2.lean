/-! flushing keeps whose a block is -/
theorem OW.chs {T : Int → Int} {v B : Int → Int → Int} {sc dn j p R : Int} (h : OW T v B) (hI : CI T v B sc dn) (hj : 0 ≤ j ∧ j < 16) (hp : 0 ≤ p ∧ 1 ≤ R ∧ p + R ≤ 64) (hr : ∀ q, p ≤ q → q < p + R → B j q = -2) (hL : 0 ≤ lF T v) :
    OW (chk j T v B p R).2.1 (chk j T v B p R).2.2.1 (chk j T v B p R).2.2.2 := by
  obtain ⟨hc1, hc2, hc3, hc4, hc5, hc6⟩ := chH_ok hI hj hp hr hL
  have hk67 := hI.k67 j hj.1 hj.2
  have hT := hI.1
  have mp : ∀ (b y k : Int), 0 ≤ k → 0 ≤ y → y ≤ R → cnt (mpF (B j) p b y) k = cnt (B j) k + (if b ≤ k ∧ k < b + y then 1 else 0) := by
    intro b y k k1 y1 y2
    have h1 := cnt_mp (f := B j) (a := p) (b := b) k1 hp.1 y.toNat (by omega) (fun q q1 q2 => hr q q1 (by omega))
    rwa [show ((y.toNat : Nat) : Int) = y by omega] at h1
  by_cases hk : 0 < v j 7 ∧ v j 5 = p
  · have hx := mI_c (v j 7) R
    rw [chk_k hk (y := mI (v j 7) R) (by omega)]
    refine h.set hj (fun k k1 k2 => ?_)
    dsimp only
    have h1 := mp (v j 6) (mI (v j 7) R) k k1 (by omega) (by omega)
    have h2 := kI_c (v j) k
    have h3 := kI_c (fU (fU (fU (fU (v j) 4 (v j 4 - mI (v j 7) R)) 5 (p + mI (v j 7) R)) 6 (v j 6 + mI (v j 7) R)) 7 (v j 7 - mI (v j 7) R)) k
    have e6 : (fU (fU (fU (fU (v j) 4 (v j 4 - mI (v j 7) R)) 5 (p + mI (v j 7) R)) 6 (v j 6 + mI (v j 7) R)) 7 (v j 7 - mI (v j 7) R)) 6 = v j 6 + mI (v j 7) R := rfl
    have e7 : (fU (fU (fU (fU (v j) 4 (v j 4 - mI (v j 7) R)) 5 (p + mI (v j 7) R)) 6 (v j 6 + mI (v j 7) R)) 7 (v j 7 - mI (v j 7) R)) 7 = v j 7 - mI (v j 7) R := rfl
    rw [e6, e7] at h3
    unfold oC
    rw [h1]
    split <;> omega
  · by_cases hle : (chH j T v B p R).1 ≤ R
    · rw [chk_s hk rfl hle]
      refine h.set hj (fun k k1 k2 => ?_)
      dsimp only
      have h1 := mp (chH j T v B p R).2 (chH j T v B p R).1 k k1 (by omega) hle
      have e9 : kI (fU (v j) 4 (v j 4 - (chH j T v B p R).1)) k = kI (v j) k := rfl
      unfold oC
      rw [h1, e9]
      by_cases hin : (chH j T v B p R).2 ≤ k ∧ k < (chH j T v B p R).2 + (chH j T v B p R).1
      · rw [tkF_in hin, if_pos hin, hc5 k hin.1 hin.2]
        omega
      · rw [tkF_out hin, if_neg hin]
        omega
    · rw [chk_l hk rfl (by omega)]
      refine h.set hj (fun k k1 k2 => ?_)
      dsimp only
      have h0 := h.le hj ⟨k1, k2⟩
      have h00 := cnt_nn (B j) k
      have h1 := mp (chH j T v B p R).2 R k k1 (by omega) (Int.le_refl _)
      have h2 := kI_c (v j) k
      have h3 := kI_c (fU (fU (fU (fU (fU (v j) 4 (v j 4 - R)) 7 0) 5 (p + R)) 6 ((chH j T v B p R).2 + R)) 7 ((chH j T v B p R).1 - R)) k
      have e6 : (fU (fU (fU (fU (fU (v j) 4 (v j 4 - R)) 7 0) 5 (p + R)) 6 ((chH j T v B p R).2 + R)) 7 ((chH j T v B p R).1 - R)) 6 = (chH j T v B p R).2 + R := rfl
      have e7 : (fU (fU (fU (fU (fU (v j) 4 (v j 4 - R)) 7 0) 5 (p + R)) 6 ((chH j T v B p R).2 + R)) 7 ((chH j T v B p R).1 - R)) 7 = (chH j T v B p R).1 - R := rfl
      rw [e6, e7] at h3
      have h9 := hT k
      unfold oC at h0 ⊢
      rw [h1]
      by_cases hin : (chH j T v B p R).2 ≤ k ∧ k < (chH j T v B p R).2 + (chH j T v B p R).1
      · have h8 := hc5 k hin.1 hin.2
        rw [tkF_out (by omega), tkF_in hin]
        split <;> omega
      · by_cases ho : v j 6 ≤ k ∧ k < v j 6 + v j 7
        · rw [tkF_in ho, if_neg (by omega)]
          omega
        · rw [tkF_out ho, tkF_out hin, if_neg (by omega)]
          omega
theorem OW.mr {j e sc dn : Int} (hj : 0 ≤ j ∧ j < 16) (he : e ≤ 64) : ∀ (k : Nat) (p : Int) (T : Int → Int) (v B : Int → Int → Int), 0 ≤ p → e - p ≤ k → OW T v B → CI T v B sc dn → 0 ≤ lF T v → (∀ q, p ≤ q → q < e → B j q = -2) → OW (mrS j e k p T v B).1 (mrS j e k p T v B).2.1 (mrS j e k p T v B).2.2 := by
  intro k
  induction k with
  | zero =>
    intro p T v B _ hk h hI hL _
    rw [mrS_f (by omega)]
    exact h
  | succ k ih =>
    intro p T v B hp hk h hI hL hr
    by_cases hpe : p < e
    · rw [mrS_t hpe]
      obtain ⟨c1, c2, c3, c4, c5, c6⟩ := chk_ok (p := p) (R := e - p) hI hj (by omega) (fun q h1 h2 => hr q h1 (by omega)) hL
      exact ih _ _ _ _ (by omega) (by omega) (h.chs hI hj (by omega) (fun q h1 h2 => hr q h1 (by omega)) hL) c3 c4 (fun q h1 h2 => by rw [c5 q h1]; exact hr q (by omega) h2)
    · rw [mrS_f (by omega)]
      exact h
theorem OW.f1s {j p sc dn : Int} {T : Int → Int} {v B : Int → Int → Int} (hj : 0 ≤ j ∧ j < 16) (hp : 0 ≤ p ∧ p ≤ 64) (h : OW T v B) (hI : CI T v B sc dn) (hL : 0 ≤ lF T v) : OW (fl1 j p T v B).1 (fl1 j p T v B).2.1 (fl1 j p T v B).2.2 := by
  unfold fl1
  split
  · obtain ⟨e1, e2, e3, -⟩ := eR_sp (f := B j) hp
    exact OW.mr (e := eR (B j) p) hj e2 (eR (B j) p - p).toNat p T v B hp.1 (by omega) h hI hL e3
  · exact h
theorem OW.fRs {j sc dn : Int} (hj : 0 ≤ j ∧ j < 16) : ∀ (k : Nat) (p : Int) (S : S3), 0 ≤ p → p + k ≤ 64 → OW S.1 S.2.1 S.2.2 → CI S.1 S.2.1 S.2.2 sc dn → 0 ≤ lF S.1 S.2.1 → OW (flR j k p S).1 (flR j k p S).2.1 (flR j k p S).2.2 := by
  intro k
  induction k with
  | zero =>
    intro p S _ _ h _ _
    have e : flR j 0 p S = S := rfl
    rw [e]
    exact h
  | succ k ih =>
    intro p S hp hk h hI hL
    obtain ⟨h1, h2⟩ := fl1_ok (p := p) hj (by omega) hI hL
    have e : flR j (k + 1) p S = flR j k (p + 1) (fl1 j p S.1 S.2.1 S.2.2) := rfl
    rw [e]
    exact ih (p + 1) _ (by omega) (by omega) (OW.f1s hj (by omega) h hI hL) h1 h2
/-! room left -/
theorem sI_mono {g g' : Int → Int} {a : Int} : ∀ n : Nat, (∀ j, a ≤ j → j < a + n → g j ≤ g' j) → sI g a (a + n) ≤ sI g' a (a + n)
  | 0, _ => by simp [sI_0]
  | n + 1, h => by
    have ih := sI_mono n (fun j h1 h2 => h j h1 (by omega))
    rw [show a + ((n + 1 : Nat) : Int) = a + n + 1 by omega, sI_s (by omega), sI_s (by omega)]
    have := h (a + n) (by omega) (by omega)
    omega
theorem lF_mono {T T' : Int → Int} {v v' : Int → Int → Int} (hT : ∀ k, 0 ≤ k → k < 128 → T' k ≤ T k) (hv : ∀ j, 0 ≤ j → j < 16 → v' j 4 ≤ v j 4) : lF T v ≤ lF T' v' := by
  have h1 := sI_mono (g := T') (g' := T) (a := 0) 128 (fun j h1 h2 => hT j h1 (by omega))
  have h2 := sI_mono (g := fun j => v' j 4) (g' := fun j => v j 4) (a := 0) 16 (fun j h1 h2 => hv j h1 (by omega))
  rw [show (0 : Int) + ((128 : Nat) : Int) = 128 from rfl] at h1
  rw [show (0 : Int) + ((16 : Nat) : Int) = 16 from rfl] at h2
  unfold lF
  omega
theorem v4_le {v : Int → Int → Int} {j : Int} {u : Int → Int} (h : u 4 ≤ v j 4) : ∀ i, 0 ≤ i → i < 16 → fU v j u i 4 ≤ v i 4 := by
  intro i _ _
  unfold fU
  by_cases hi : i = j
  · rw [if_pos hi, hi]; exact h
  · rw [if_neg hi]; exact Int.le_refl _
theorem rlT_le {v : Int → Int → Int} {T : Int → Int} (hT : ∀ i, T i = 0 ∨ T i = 1) : ∀ (k : Nat) (i : Int), (rlT v T k i = 0 ∨ rlT v T k i = 1) ∧ rlT v T k i ≤ T i
  | 0, i => ⟨hT i, Int.le_refl _⟩
  | k + 1, i => by
    have ih := rlT_le (v := v) hT k i
    show (tkF (rlT v T k) (v k 6) (v k 7) 0 i = 0 ∨ tkF (rlT v T k) (v k 6) (v k 7) 0 i = 1) ∧ tkF (rlT v T k) (v k 6) (v k 7) 0 i ≤ T i
    unfold tkF
    split <;> omega
