/-! what the reference's rows and numbers say, in the class's words: T taken, v the files' fields, B the places -/
theorem nU_ss {α : Type} (f : Nat → α) (k : Nat) (x y : α) : nU (nU f k x) k y = nU f k y := by
  funext j
  unfold nU
  by_cases hj : j = k
  · rw [if_pos hj, if_pos hj]
  · rw [if_neg hj, if_neg hj, if_neg hj]
def crI (sc : Int) : Int := if sc = -1 then 0 else sc
def RV (F : Nat → Int → Int) (u : Int → Int) (j : Int) : Prop := F 1 j = u 2 ∧ F 3 j = u 3 ∧ F 4 j = u 6 ∧ F 5 j = u 7 ∧ F 6 j = u 5 ∧ F 8 j = u 9
def RF (F : Nat → Int → Int) (G : Nat → Int) (T : Int → Int) (v B : Int → Int → Int) (sc dn : Int) : Prop :=
  (∀ k, 0 ≤ k → k < 128 → F 0 k = 1 - T k) ∧ (∀ j, 0 ≤ j → j < 16 → RV F (v j) j) ∧ (∀ j p, 0 ≤ j → j < 16 → 0 ≤ p → p < 64 → F 2 (64 * j + p) = B j p) ∧ G 15 = dn ∧ G 16 = crI sc
/-- the rows of names stay -/
def FN (F F' : Nat → Int → Int) : Prop := F' 9 = F 9 ∧ F' 10 = F 10 ∧ F' 11 = F 11 ∧ F' 12 = F 12 ∧ F' 13 = F 13
theorem FN.rf (F : Nat → Int → Int) : FN F F := ⟨rfl, rfl, rfl, rfl, rfl⟩
theorem FN.tr {F F1 F2 : Nat → Int → Int} (h1 : FN F F1) (h2 : FN F1 F2) : FN F F2 := ⟨h2.1.trans h1.1, h2.2.1.trans h1.2.1, h2.2.2.1.trans h1.2.2.1, h2.2.2.2.1.trans h1.2.2.2.1, h2.2.2.2.2.trans h1.2.2.2.2⟩
theorem FN.nU {F F1 : Nat → Int → Int} (h : FN F F1) {k : Nat} (hk : k < 9) (f : Int → Int) : FN F (nU F1 k f) := by
  obtain ⟨h1, h2, h3, h4, h5⟩ := h
  exact ⟨(nU_n (by omega)).trans h1, (nU_n (by omega)).trans h2, (nU_n (by omega)).trans h3, (nU_n (by omega)).trans h4, (nU_n (by omega)).trans h5⟩
/-- the reference at a state T v B sc dn, its names as they were, what is to be cut f7 -/
def PM (w w' : WT) (ky : Nat → ClassId) (o : Nat) (A : Nat → Nat) (F : Nat → Int → Int) (G : Nat → Int) (T : Int → Int) (v B : Int → Int → Int) (sc dn : Int) (f7 : Int → Int) (th : Int) : Prop :=
  ∃ F' G', MV w w' ky o A F' G' ∧ RF F' G' T v B sc dn ∧ FN F F' ∧ F' 7 = f7 ∧ G' 14 = G 14 ∧ G' 17 = th
section RFS
variable {F F' : Nat → Int → Int} {G G' : Nat → Int} {T T' : Int → Int} {v v' B B' : Int → Int → Int} {sc dn sc' dn' : Int}
theorem RF.cg (h : RF F G T v B sc dn) (hT : ∀ k, 0 ≤ k → k < 128 → T' k = T k) (hv : ∀ j, 0 ≤ j → j < 16 → v' j 2 = v j 2 ∧ v' j 3 = v j 3 ∧ v' j 5 = v j 5 ∧ v' j 6 = v j 6 ∧ v' j 7 = v j 7 ∧ v' j 9 = v j 9) (hB : ∀ j p, 0 ≤ j → j < 16 → 0 ≤ p → p < 64 → B' j p = B j p) : RF F G T' v' B' sc dn := by
  obtain ⟨h0, h1, h2, h3, h4⟩ := h
  refine ⟨fun k a b => by rw [hT k a b]; exact h0 k a b, fun j a b => ?_, fun j p a b c d => by rw [hB j p a b c d]; exact h2 j p a b c d, h3, h4⟩
  obtain ⟨c1, c2, c3, c4, c5, c6⟩ := hv j a b
  obtain ⟨d1, d2, d3, d4, d5, d6⟩ := h1 j a b
  exact ⟨d1.trans c1.symm, d2.trans c2.symm, d3.trans c4.symm, d4.trans c5.symm, d5.trans c3.symm, d6.trans c6.symm⟩
theorem RF.cv (h : RF F G T v B sc dn) (hv : ∀ j, 0 ≤ j → j < 16 → v' j 2 = v j 2 ∧ v' j 3 = v j 3 ∧ v' j 5 = v j 5 ∧ v' j 6 = v j 6 ∧ v' j 7 = v j 7 ∧ v' j 9 = v j 9) : RF F G T v' B sc dn := h.cg (fun _ _ _ => rfl) hv (fun _ _ _ _ _ _ => rfl)
theorem RF.g (h : RF F G T v B sc dn) (h15 : G' 15 = dn') (h16 : G' 16 = crI sc') : RF F G' T v B sc' dn' := ⟨h.1, h.2.1, h.2.2.1, h15, h16⟩
theorem RF.n (h : RF F G T v B sc dn) {k : Nat} (hk : k = 7 ∨ 9 ≤ k) (f : Int → Int) : RF (nU F k f) G T v B sc dn := by
  obtain ⟨h0, h1, h2, h3, h4⟩ := h
  refine ⟨fun k a b => by rw [nU_n (by omega)]; exact h0 k a b, fun j a b => ?_, fun j p a b c d => by rw [nU_n (by omega)]; exact h2 j p a b c d, h3, h4⟩
  unfold RV
  rw [nU_n (by omega), nU_n (by omega), nU_n (by omega), nU_n (by omega), nU_n (by omega), nU_n (by omega)]
  exact h1 j a b
theorem RF.s0 (h : RF F G T v B sc dn) {i x y : Int} (hx : x = 1 - y) : RF (nU F 0 (fU (F 0) i x)) G (fU T i y) v B sc dn := by
  obtain ⟨h0, h1, h2, h3, h4⟩ := h
  refine ⟨fun k a b => ?_, h1, h2, h3, h4⟩
  rw [nU_s]
  unfold fU
  split
  · exact hx
  · exact h0 k a b
theorem RF.s2 (h : RF F G T v B sc dn) {j p x : Int} (hj : 0 ≤ j ∧ j < 16) (hp : 0 ≤ p ∧ p < 64) : RF (nU F 2 (fU (F 2) (64 * j + p) x)) G T v (fU B j (fU (B j) p x)) sc dn := by
  obtain ⟨h0, h1, h2, h3, h4⟩ := h
  refine ⟨h0, h1, fun i q a b c d => ?_, h3, h4⟩
  rw [nU_s]
  by_cases hi : i = j
  · subst hi
    rw [fU_s]
    by_cases hq : q = p
    · subst hq; rw [fU_s, fU_s]
    · rw [fU_n hq, fU_n (by omega)]; exact h2 i q a b c d
  · rw [fU_n hi, fU_n (by omega)]; exact h2 i q a b c d
theorem RF.sv (h : RF F G T v B sc dn) {k : Nat} {j x : Int} {u : Int → Int} (hk : 0 < k ∧ k ≠ 2) (hu : (if k = 1 then x else v j 2) = u 2 ∧ (if k = 3 then x else v j 3) = u 3 ∧ (if k = 4 then x else v j 6) = u 6 ∧ (if k = 5 then x else v j 7) = u 7 ∧ (if k = 6 then x else v j 5) = u 5 ∧ (if k = 8 then x else v j 9) = u 9) : RF (nU F k (fU (F k) j x)) G T (fU v j u) B sc dn := by
  obtain ⟨h0, h1, h2, h3, h4⟩ := h
  refine ⟨fun q a b => by rw [nU_n (by omega)]; exact h0 q a b, fun i a b => ?_, fun i q a b c d => by rw [nU_n (fun e => hk.2 e.symm)]; exact h2 i q a b c d, h3, h4⟩
  have h9 := h1 i a b
  by_cases hi : i = j
  · subst hi
    obtain ⟨d1, d2, d3, d4, d5, d6⟩ := h9
    obtain ⟨e1, e2, e3, e4, e5, e6⟩ := hu
    rw [fU_s]
    have key : ∀ (n : Nat) (y z : Int), F n i = y → (if k = n then x else y) = z → nU F k (fU (F k) i x) n i = z := by
      intro n y z g1 g2
      by_cases hn : k = n
      · subst hn; rw [nU_s, fU_s]; rwa [if_pos rfl] at g2
      · rw [nU_n (fun e => hn e.symm)]; rw [if_neg hn] at g2; exact g1.trans g2
    exact ⟨key 1 _ _ d1 e1, key 3 _ _ d2 e2, key 4 _ _ d3 e3, key 5 _ _ d4 e4, key 6 _ _ d5 e5, key 8 _ _ d6 e6⟩
  · rw [fU_n hi]
    obtain ⟨d1, d2, d3, d4, d5, d6⟩ := h9
    have key : ∀ n : Nat, nU F k (fU (F k) j x) n i = F n i := by
      intro n
      by_cases hn : n = k
      · subst hn; rw [nU_s, fU_n hi]
      · rw [nU_n hn]
    exact ⟨(key 1).trans d1, (key 3).trans d2, (key 4).trans d3, (key 5).trans d4, (key 6).trans d5, (key 8).trans d6⟩
theorem RF.at (h : RF F G T v B sc dn) (hI : CI T v B sc dn) {k : Int} (hk : 0 ≤ k ∧ k < 1024) : -2 ≤ F 2 k ∧ F 2 k ≤ 127 := by
  have h1 := h.2.2.1 (k / 64) (k % 64) (by omega) (by omega) (by omega) (by omega)
  rw [show 64 * (k / 64) + k % 64 = k by omega] at h1
  have h2 := (hI.2.1 (k / 64) (by omega) (by omega)).2.2.2.2.2.2.2.2.2 (k % 64)
  omega
end RFS
theorem sI_blk {g : Int → Int} {h : Int → Int} {n : Int} (hn : 0 ≤ n) (hh : ∀ j, 0 ≤ j → j < n → sI (fun p => g (64 * j + p)) 0 64 = h j) : sI g 0 (64 * n) = sI h 0 n := by
  have sh : ∀ (k : Nat) (a : Int), sm g a k = sm (fun p => g (a + p)) 0 k := by
    intro k a
    induction k with
    | zero => rfl
    | succ k ih =>
      show sm g a k + g (a + k) = sm (fun p => g (a + p)) 0 k + g (a + (0 + (k : Int)))
      rw [ih, Int.zero_add]
  have key : ∀ k : Nat, (k : Int) ≤ n → sI g 0 (64 * k) = sI h 0 k := by
    intro k
    induction k with
    | zero => intro _; simp [sI_0]
    | succ k ih =>
      intro hk
      rw [show ((k + 1 : Nat) : Int) = (k : Int) + 1 by omega, sI_s (by omega), ← ih (by omega), sI_cut (g := g) (a := 0) (b := 64 * (k : Int)) (c := 64 * ((k : Int) + 1)) (by omega) (by omega)]
      have h1 := hh k (by omega) (by omega)
      have h2 : sI g (64 * (k : Int)) (64 * ((k : Int) + 1)) = sI (fun p => g (64 * (k : Int) + p)) 0 64 := by
        unfold sI
        rw [show (64 * ((k : Int) + 1) - 64 * (k : Int)).toNat = (64 - 0 : Int).toNat by omega]
        exact sh _ _
      rw [h2, h1]
  have := key n.toNat (by omega)
  rwa [show (n.toNat : Int) = n by omega] at this
theorem RF.res {F : Nat → Int → Int} {G : Nat → Int} {T : Int → Int} {v B : Int → Int → Int} {sc dn : Int} (h : RF F G T v B sc dn) (hI : CI T v B sc dn) : sI (fun k => eqI (F 2 k) (-2)) 0 1024 = sI (fun j => v j 4) 0 16 := by
  refine sI_blk (n := 16) (by decide) (fun j a b => ?_)
  rw [(hI.2.1 j a b).2.2.2.1]
  unfold rC
  exact sI_congr (fun p c d => by rw [h.2.2.1 j p a b c d])
theorem RF.map {F : Nat → Int → Int} {G : Nat → Int} {T : Int → Int} {v B : Int → Int → Int} {sc dn : Int} (h : RF F G T v B sc dn) : sI (fun k => geI (F 2 k)) 0 1024 = sI (fun j => sI (fun p => geI (B j p)) 0 64) 0 16 := by
  refine sI_blk (n := 16) (by decide) (fun j a b => ?_)
  exact sI_congr (fun p c d => by rw [h.2.2.1 j p a b c d])
def AS2 (x y t b : Int) : Prop := (b = 1 ∧ t = 0 ∧ x = 1 ∧ y = 1) ∨ (b = 0 ∧ (x = 0 ∧ t = 1 ∨ x = 1 ∧ y = 0 ∧ t = 2))
def AS3 (x y q t b : Int) : Prop := (b = 1 ∧ t = 0 ∧ x = 1 ∧ y = 1 ∧ q = 1) ∨ (b = 0 ∧ (x = 0 ∧ t = 1 ∨ x = 1 ∧ y = 0 ∧ t = 2 ∨ x = 1 ∧ y = 1 ∧ q = 0 ∧ t = 3))
