/-! the reference's constructor: rows one by one -/
def ILf (A : Nat → Nat) (k i : Nat) : Value := if i < k then .ref (A i) else .null
abbrev IL (A : Nat → Nat) (k : Nat) : List Value := [ILf A k 0, ILf A k 1, ILf A k 2, ILf A k 3, ILf A k 4, ILf A k 5, ILf A k 6, ILf A k 7, ILf A k 8, ILf A k 9, ILf A k 10, ILf A k 11, ILf A k 12, ILf A k 13, .int (iI 0), .int (iI 0), .int (iI 0), .int (iI 0)]
def IW (w0 w : WT) (ky : Nat → ClassId) (o : Nat) (A : Nat → Nat) (k : Nat) : Prop :=
  w o = some (oB 5 (IL A k)) ∧ (∀ i, i < k → w (A i) = some (MA ky i (fun _ => 0))) ∧ (∀ i j, i < k → j < k → i ≠ j → A i ≠ A j) ∧ (∀ i, i < k → w0 (A i) = none) ∧ (∀ y, y ≠ o → (∀ i, i < k → y ≠ A i) → w y = w0 y)
theorem IW.z {w : WT} {ky : Nat → ClassId} {o : Nat} {A : Nat → Nat} (h : w o = some (oB 5 [.null, .null, .null, .null, .null, .null, .null, .null, .null, .null, .null, .null, .null, .null, .int 0, .int 0, .int 0, .int 0])) : IW w w ky o A 0 :=
  ⟨h, fun i hi => absurd hi (Nat.not_lt_zero i), fun i j hi _ _ => absurd hi (Nat.not_lt_zero i), fun i hi => absurd hi (Nat.not_lt_zero i), fun _ _ _ => rfl⟩
theorem IW.s {w0 w w2 : WT} {ky : Nat → ClassId} {o a k : Nat} {A : Nat → Nat} {X : va_E} (h : IW w0 w ky o A k) (ha : w a = none) (hX : X = MA ky k (fun _ => 0)) (hw2 : w2 = wU (wU w a X) o (oB 5 ((IL A k).set k (.ref a)))) (hs : (IL A k).set k (.ref a) = IL (nU A k a) (k + 1)) : IW w0 w2 ky o (nU A k a) (k + 1) := by
  obtain ⟨h1, h2, h3, h4, h5⟩ := h
  have hoa : o ≠ a := new_ne ha h1
  have hia : ∀ i, i < k → A i ≠ a := fun i hi => new_ne ha (h2 i hi)
  subst hw2
  have oA : ∀ i, i < k → A i ≠ o := fun i hi e => by
    obtain ⟨x, hx⟩ := MA_l ky i (fun _ => 0)
    have h9 := h2 i hi
    rw [hx] at h9
    exact kd_ne h1 h9 e.symm
  refine ⟨by rw [wU_s, hs], fun i hi => ?_, fun i j hi hj hij => ?_, fun i hi => ?_, fun y hy hya => ?_⟩
  · by_cases hik : i = k
    · subst hik
      rw [nU_s, wU_n hoa.symm, wU_s, hX]
    · rw [nU_n hik, wU_n (oA i (by omega)), wU_n (hia i (by omega))]
      exact h2 i (by omega)
  · by_cases hik : i = k
    · subst hik
      rw [nU_s, nU_n (Ne.symm hij)]
      exact (hia j (by omega)).symm
    · by_cases hjk : j = k
      · subst hjk
        rw [nU_s, nU_n hik]
        exact hia i (by omega)
      · rw [nU_n hik, nU_n hjk]
        exact h3 i j (by omega) (by omega) hij
  · by_cases hik : i = k
    · subst hik
      rw [nU_s]
      have h6 := h5 a hoa.symm (fun j hj e => hia j hj e.symm)
      rw [← h6]; exact ha
    · rw [nU_n hik]; exact h4 i (by omega)
  · have hyk := hya k (by omega)
    rw [nU_s] at hyk
    rw [wU_n hy, wU_n hyk]
    exact h5 y hy (fun i hi => by have h6 := hya i (by omega); rwa [nU_n (by omega)] at h6)
theorem IW.x {w0 w : WT} {ky : Nat → ClassId} {o : Nat} {A : Nat → Nat} (h : IW w0 w ky o A 14) : MV w0 w ky o A (fun _ _ => 0) (fun _ => 0) ∧ ∀ i, i < 14 → w0 (A i) = none :=
  ⟨⟨⟨h.1, h.2.1, h.2.2.1⟩, h.2.2.2.2⟩, h.2.2.2.1⟩
theorem RF0 {F : Nat → Int → Int} {G : Nat → Int} (h0 : F 0 = tkF (fun _ => 0) 0 128 1) (h1 : F 1 = fun _ => 0) (h2 : F 2 = tkF (fun _ => 0) 0 1024 (-1)) (h3 : F 3 = fun _ => 0) (h4 : F 4 = fun _ => 0) (h5 : F 5 = fun _ => 0) (h6 : F 6 = fun _ => 0) (h8 : F 8 = fun _ => 0) (h15 : G 15 = 0) (h16 : G 16 = 0) : RF F G (fun _ => 0) v0 B0 (-1) 0 := by
  have e : ∀ j k : Int, k ≠ 0 → v0 j k = 0 := fun j k hk => fU_n hk
  refine ⟨fun k a b => ?_, fun j a b => ?_, fun j p a b c d => ?_, h15, h16⟩
  · rw [h0]; unfold tkF; rw [if_pos (by omega)]; rfl
  · unfold RV
    rw [h1, h3, h4, h5, h6, h8, e j 2 (by decide), e j 3 (by decide), e j 6 (by decide), e j 7 (by decide), e j 5 (by decide), e j 9 (by decide)]
    exact ⟨rfl, rfl, rfl, rfl, rfl, rfl⟩
  · rw [h2]; unfold B0 tkF; dsimp only; rw [if_pos (by omega), if_pos (by omega)]
theorem RLs0 {f7 : Int → Int} (h : f7 = tkF (fun _ => 0) 0 16 (-1)) : RLs f7 v0 := by
  intro j a b
  have e : ∀ k : Int, k ≠ 0 → v0 j k = 0 := fun k hk => fU_n hk
  have h7 : f7 j = -1 := by rw [h]; unfold tkF; rw [if_pos (by omega)]
  rw [e 8 (by decide), e 9 (by decide), e 10 (by decide), h7]
  exact ⟨by decide, by decide, fun _ h => absurd rfl h⟩
