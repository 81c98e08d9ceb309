/-! the files' invariant, call by call -/
def FS (T : Int → Int) (v B : Int → Int → Int) (sc dn c : Int) : Prop := CI T v B sc dn ∧ OW T v B ∧ 0 ≤ lF T v ∧ (sc = -1 ∨ 1 ≤ sc ∧ sc ≤ 50) ∧ (dn = 1 → sc = -1) ∧ (∀ j, 0 ≤ j → j < 16 → v j 3 ≤ c) ∧ 0 ≤ c
section FSS
variable {T T' : Int → Int} {v v' B B' : Int → Int → Int} {sc dn c : Int}
theorem FS.up (h : FS T v B sc dn c) : FS T v B sc dn (c + 1) := ⟨h.1, h.2.1, h.2.2.1, h.2.2.2.1, h.2.2.2.2.1, fun j a b => by have := h.2.2.2.2.2.1 j a b; omega, by have := h.2.2.2.2.2.2; omega⟩
theorem V3_set {j c : Int} {u : Int → Int} (h : ∀ j, 0 ≤ j → j < 16 → v j 3 ≤ c) (hu : u 3 ≤ c) : ∀ i, 0 ≤ i → i < 16 → fU v j u i 3 ≤ c := by
  intro i a b
  unfold fU
  by_cases hi : i = j
  · rw [if_pos hi]; exact hu
  · rw [if_neg hi]; exact h i a b
theorem OW.vs (h : OW T v B) {j : Int} {u : Int → Int} (h6 : u 6 = v j 6) (h7 : u 7 = v j 7) : OW T (fU v j u) B := h.cg (fun i k _ _ _ _ => by
  by_cases hi : i = j
  · subst hi; rw [fU_s]; exact oC_cg h6 h7 rfl
  · rw [fU_n hi])
theorem FS.setv (h : FS T v B sc dn c) {j : Int} {u : Int → Int} (hI : CI T (fU v j u) B sc dn) (hu : u 6 = v j 6 ∧ u 7 = v j 7 ∧ u 4 ≤ v j 4 ∧ u 3 ≤ c + 1) : FS T (fU v j u) B sc dn (c + 1) := by
  obtain ⟨h1, h2, h3, h4, h5, h6, h7⟩ := h
  exact ⟨hI, h2.vs hu.1 hu.2.1, Int.le_trans h3 (lF_mono (fun _ _ _ => Int.le_refl _) (v4_le hu.2.2.1)), h4, h5, V3_set (fun j a b => by have := h6 j a b; omega) hu.2.2.2, by omega⟩
theorem FS.scs {sc' : Int} (h : FS T v B sc dn c) (hI : CI T v B sc' dn) (hs : sc' = -1 ∨ 1 ≤ sc' ∧ sc' ≤ 50) (hd : dn = 0) : FS T v B sc' dn (c + 1) :=
  ⟨hI, h.2.1, h.2.2.1, hs, fun e => by omega, fun j a b => by have := h.2.2.2.2.2.1 j a b; omega, by have := h.2.2.2.2.2.2; omega⟩
theorem OW.rs (h : OW T v B) {j a b y : Int} : OW T (fU v j (fU (v j) 4 y)) (fU B j (rsF (B j) a b)) := h.cg (fun i k _ _ k1 _ => by
  by_cases hi : i = j
  · subst hi; rw [fU_s, fU_s]; exact oC_cg rfl rfl (cnt_rs k1)
  · rw [fU_n hi, fU_n hi])
theorem FS.wr1 (h : FS T v B sc dn c) {q a b N : Int} (hq : 0 ≤ q ∧ q < 16) (hI : CI T (fU v q (fU (v q) 4 (v q 4 + N))) (fU B q (rsF (B q) a b)) sc dn) (hN : N ≤ lF T v) : FS T (fU v q (fU (v q) 4 (v q 4 + N))) (fU B q (rsF (B q) a b)) sc dn (c + 1) := by
  obtain ⟨h1, h2, h3, h4, h5, h6, h7⟩ := h
  refine ⟨hI, h2.rs, ?_, h4, h5, V3_set (fun j a b => by have := h6 j a b; omega) (by have := h6 q hq.1 hq.2; show v q 3 ≤ c + 1; omega), by omega⟩
  rw [lF_set hq]
  have e : fU (v q) 4 (v q 4 + N) 4 = v q 4 + N := rfl
  have e2 : lF T v = 128 - sI T 0 128 - sI (fun i => v i 4) 0 16 := rfl
  rw [e]
  omega
theorem FS.wr2 (h : FS T v B sc dn c) {q a b N : Int} (hq : 0 ≤ q ∧ q < 16) (hI : CI (rlT v T 16) (fU (rlV v 16) q (fU (rlV v 16 q) 4 (rlV v 16 q 4 + N))) (fU B q (rsF (B q) a b)) sc dn) (hN : N ≤ lF T v + sI (fun j => v j 7) 0 16) : FS (rlT v T 16) (fU (rlV v 16) q (fU (rlV v 16 q) 4 (rlV v 16 q 4 + N))) (fU B q (rsF (B q) a b)) sc dn (c + 1) := by
  obtain ⟨h1, h2, h3, h4, h5, h6, h7⟩ := h
  obtain ⟨r1, r2, r3⟩ := h2.rls h1.1 h1.k67 16 (by decide)
  rw [show ((16 : Nat) : Int) = 16 from rfl] at r1 r3
  have e3 : ∀ j, rlV v 16 j 3 = v j 3 ∧ rlV v 16 j 4 = v j 4 := fun j => by unfold rlV; split <;> exact ⟨rfl, rfl⟩
  have h60 : ∀ j, 0 ≤ j → j < 16 → rlV v 16 j 3 ≤ c + 1 := fun j a b => by rw [(e3 j).1]; have := h6 j a b; omega
  refine ⟨hI, r1.rs, ?_, h4, h5, V3_set h60 (by have := h60 q hq.1 hq.2; exact this), by omega⟩
  rw [lF_set hq]
  have e : fU (rlV v 16 q) 4 (rlV v 16 q 4 + N) 4 = rlV v 16 q 4 + N := rfl
  have e2 : lF T v = 128 - sI T 0 128 - sI (fun i => v i 4) 0 16 := rfl
  have e4 : sI (fun i => rlV v 16 i 4) 0 16 = sI (fun i => v i 4) 0 16 := sI_congr (fun i _ _ => (e3 i).2)
  rw [e, r3, e4]
  omega
/-- what flushing leaves of the fields -/
theorem chk_v {j p R : Int} (i : Int) {m : Int} (hm : m = 2 ∨ m = 3 ∨ m = 8 ∨ m = 9 ∨ m = 10) : (chk j T v B p R).2.2.1 i m = v i m := by
  unfold chk
  by_cases hi : i = j
  · subst hi
    split
    · dsimp only; rw [fU_s]; rcases hm with rfl | rfl | rfl | rfl | rfl <;> rfl
    · split
      · dsimp only; rw [fU_s]; rcases hm with rfl | rfl | rfl | rfl | rfl <;> rfl
      · dsimp only; rw [fU_s]; rcases hm with rfl | rfl | rfl | rfl | rfl <;> rfl
  · split
    · dsimp only; rw [fU_n hi]
    · split
      · dsimp only; rw [fU_n hi]
      · dsimp only; rw [fU_n hi]
theorem mrS_v {j e : Int} (i : Int) {m : Int} (hm : m = 2 ∨ m = 3 ∨ m = 8 ∨ m = 9 ∨ m = 10) : ∀ (k : Nat) (p : Int) (T : Int → Int) (v B : Int → Int → Int), (mrS j e k p T v B).2.1 i m = v i m := by
  intro k
  induction k with
  | zero => intro p T v B; rfl
  | succ k ih =>
    intro p T v B
    by_cases h : p < e
    · rw [mrS_t h, ih, chk_v i hm]
    · rw [mrS_f (by omega)]
theorem flR_v {j : Int} (i : Int) {m : Int} (hm : m = 2 ∨ m = 3 ∨ m = 8 ∨ m = 9 ∨ m = 10) : ∀ (k : Nat) (p : Int) (S : S3), (flR j k p S).2.1 i m = S.2.1 i m := by
  intro k
  induction k with
  | zero => intro p S; rfl
  | succ k ih =>
    intro p S
    have e : flR j (k + 1) p S = flR j k (p + 1) (fl1 j p S.1 S.2.1 S.2.2) := rfl
    rw [e, ih]
    unfold fl1
    split
    · exact mrS_v i hm _ _ _ _ _
    · rfl
theorem FS.fl (h : FS T v B sc dn c) {q : Int} (hq : 0 ≤ q ∧ q < 16) (hI : CI (flR q 64 0 (T, v, B)).1 (flR q 64 0 (T, v, B)).2.1 (flR q 64 0 (T, v, B)).2.2 sc dn) (hL : 0 ≤ lF (flR q 64 0 (T, v, B)).1 (flR q 64 0 (T, v, B)).2.1) : FS (flR q 64 0 (T, v, B)).1 (flR q 64 0 (T, v, B)).2.1 (flR q 64 0 (T, v, B)).2.2 sc dn (c + 1) := by
  obtain ⟨h1, h2, h3, h4, h5, h6, h7⟩ := h
  refine ⟨hI, OW.fRs hq 64 0 (T, v, B) (by decide) (by decide) h2 h1 h3, hL, h4, h5, fun j a b => ?_, by omega⟩
  rw [flR_v j (Or.inr (Or.inl rfl))]
  have := h6 j a b
  show v j 3 ≤ c + 1
  omega
/-- cutting -/
theorem OW.cut (h : OW T v B) (hT : ∀ i, T i = 0 ∨ T i = 1) {q y : Int} (sc : Int) (hq : 0 ≤ q ∧ q < 16) (hy : 0 ≤ y ∧ y ≤ 64) (hb : ∀ p, -2 ≤ B q p ∧ B q p ≤ 127) {u : Int → Int} (h6 : u 6 = v q 6) (h7 : u 7 = 0) :
    OW (ctS y (64 - y).toNat (tkF T (v q 6) (v q 7) 0) (drF (B q) y 64) sc 0).2.1 (fU v q u) (fU B q (ctS y (64 - y).toNat (tkF T (v q 6) (v q 7) 0) (drF (B q) y 64) sc 0).2.2.1) ∧ (∀ i, (ctS y (64 - y).toNat (tkF T (v q 6) (v q 7) 0) (drF (B q) y 64) sc 0).2.1 i = 0 ∨ (ctS y (64 - y).toNat (tkF T (v q 6) (v q 7) 0) (drF (B q) y 64) sc 0).2.1 i = 1) ∧ (∀ i, (ctS y (64 - y).toNat (tkF T (v q 6) (v q 7) 0) (drF (B q) y 64) sc 0).2.1 i ≤ T i) := by
  have h1 := h.rel hT hq
  have h2 : OW (tkF T (v q 6) (v q 7) 0) (fU v q u) (fU B q (drF (B q) y 64)) := h1.cg (fun i k _ _ k1 _ => by
    by_cases hi : i = q
    · subst hi; rw [fU_s, fU_s, fU_s]; exact oC_cg h6 h7 (cnt_dr k1)
    · rw [fU_n hi, fU_n hi, fU_n hi])
  obtain ⟨r1, r2, r3⟩ := OW.ct (B := B) (v := fU v q u) hq hy.1 (64 - y).toNat (tkF T (v q 6) (v q 7) 0) (drF (B q) y 64) sc 0 (by omega) (drF_bd hb) (tkF_01 hT (Or.inl rfl)) h2
  refine ⟨r1, r2, fun i => Int.le_trans (r3 i) ?_⟩
  have := hT i
  unfold tkF
  split <;> omega
theorem ctS_sc {y : Int} : ∀ (k : Nat) (T f : Int → Int) (sc n : Int), (sc = -1 ∨ 1 ≤ sc ∧ sc ≤ 50) → (ctS y k T f sc n).1 = 0 → (ctS y k T f sc n).2.2.2.1 = -1 ∨ 1 ≤ (ctS y k T f sc n).2.2.2.1 ∧ (ctS y k T f sc n).2.2.2.1 ≤ 50
  | 0, _, _, _, _, h, _ => h
  | k + 1, T, f, sc, n, h, h0 => by
    by_cases hf : 0 ≤ f (y + k)
    · by_cases hs : sc = 1
      · rw [ctS_cr rfl hf hs] at h0
        exact absurd (show (1 : Int) = 0 from h0) (by decide)
      · rw [ctS_st rfl hf hs] at h0 ⊢
        exact ctS_sc (y := y) k _ _ _ _ (by split <;> omega) h0
    · rw [ctS_no rfl hf] at h0 ⊢
      exact ctS_sc (y := y) k _ _ _ _ h h0
theorem FS.cutD (h : FS T v B sc dn c) {q y : Int} (hq : 0 ≤ q ∧ q < 16) (hy : 0 ≤ y ∧ y ≤ 64) (hdn : dn = 0) {u : Int → Int} (hc : (ctS y (64 - y).toNat (tkF T (v q 6) (v q 7) 0) (drF (B q) y 64) sc 0).1 = 0) (hu : u 6 = v q 6 ∧ u 7 = 0 ∧ u 4 ≤ v q 4 ∧ u 3 ≤ c)
    (hI : CI (ctS y (64 - y).toNat (tkF T (v q 6) (v q 7) 0) (drF (B q) y 64) sc 0).2.1 (fU v q u) (fU B q (ctS y (64 - y).toNat (tkF T (v q 6) (v q 7) 0) (drF (B q) y 64) sc 0).2.2.1) (ctS y (64 - y).toNat (tkF T (v q 6) (v q 7) 0) (drF (B q) y 64) sc 0).2.2.2.1 dn) :
    FS (ctS y (64 - y).toNat (tkF T (v q 6) (v q 7) 0) (drF (B q) y 64) sc 0).2.1 (fU v q u) (fU B q (ctS y (64 - y).toNat (tkF T (v q 6) (v q 7) 0) (drF (B q) y 64) sc 0).2.2.1) (ctS y (64 - y).toNat (tkF T (v q 6) (v q 7) 0) (drF (B q) y 64) sc 0).2.2.2.1 dn c := by
  obtain ⟨h1, h2, h3, h4, h5, h6, h7⟩ := h
  obtain ⟨o1, o2, o3⟩ := h2.cut h1.1 sc hq hy (h1.bb q hq.1 hq.2) hu.1 hu.2.1
  exact ⟨hI, o1, Int.le_trans h3 (lF_mono (fun k _ _ => o3 k) (v4_le hu.2.2.1)), ctS_sc _ _ _ _ _ h4 hc, fun e => by omega, V3_set h6 hu.2.2.2, h7⟩
theorem flV_f (v : Int → Int → Int) (j : Int) : (flV (rlV v 16) 16 j 4 ≤ 0 ∨ ¬ (0 ≤ j ∧ j < 16)) ∧ (flV (rlV v 16) 16 j 3 = 0 ∨ ¬ (0 ≤ j ∧ j < 16)) ∧ flV (rlV v 16) 16 j 8 = v j 8 ∧ flV (rlV v 16) 16 j 9 = v j 9 ∧ flV (rlV v 16) 16 j 10 = v j 10 ∧ flV (rlV v 16) 16 j 2 = v j 2 ∧ flV (rlV v 16) 16 j 5 = v j 5 ∧ flV (rlV v 16) 16 j 6 = v j 6 := by
  unfold flV rlV
  by_cases h : 0 ≤ j ∧ j < 16
  · rw [if_pos h, if_pos h]
    exact ⟨Or.inl (Int.le_refl 0), Or.inl rfl, rfl, rfl, rfl, rfl, rfl, rfl⟩
  · rw [if_neg h, if_neg h]
    exact ⟨Or.inr h, Or.inr h, rfl, rfl, rfl, rfl, rfl, rfl⟩
theorem FS.crash0 (hO : OW T v B) (hT : ∀ i, T i = 0 ∨ T i = 1) (hk : K67 v) (hc : 0 ≤ c) (hI : CI (rlT v T 16) (flV (rlV v 16) 16) (flB B 16) (-1) 1) : FS (rlT v T 16) (flV (rlV v 16) 16) (flB B 16) (-1) 1 c := by
  refine ⟨hI, hO.fall hT hk, ?_, Or.inl rfl, fun _ => rfl, fun j a b => by rw [(flV_f v j).2.1.resolve_right (fun h => h ⟨a, b⟩)]; exact hc, hc⟩
  have h1 := sI_mono (g := fun j => flV (rlV v 16) 16 j 4) (g' := fun _ => 0) (a := 0) 16 (fun j h1 h2 => (flV_f v j).1.resolve_right (fun h => h ⟨h1, by omega⟩))
  rw [show (0 : Int) + ((16 : Nat) : Int) = 16 from rfl, sI_z0] at h1
  have h2 := hI.bd.1
  unfold lF
  omega
theorem FS.cutC (h : FS T v B sc dn c) {q y : Int} (hq : 0 ≤ q ∧ q < 16) (hy : 0 ≤ y ∧ y ≤ 64) {u : Int → Int} (hu : u 6 = v q 6 ∧ u 7 = 0)
    (hI : CI (rlT (fU v q u) (ctS y (64 - y).toNat (tkF T (v q 6) (v q 7) 0) (drF (B q) y 64) sc 0).2.1 16) (flV (rlV (fU v q u) 16) 16) (flB (fU B q (ctS y (64 - y).toNat (tkF T (v q 6) (v q 7) 0) (drF (B q) y 64) sc 0).2.2.1) 16) (-1) 1) :
    FS (rlT (fU v q u) (ctS y (64 - y).toNat (tkF T (v q 6) (v q 7) 0) (drF (B q) y 64) sc 0).2.1 16) (flV (rlV (fU v q u) 16) 16) (flB (fU B q (ctS y (64 - y).toNat (tkF T (v q 6) (v q 7) 0) (drF (B q) y 64) sc 0).2.2.1) 16) (-1) 1 c := by
  obtain ⟨h1, h2, h3, h4, h5, h6, h7⟩ := h
  obtain ⟨o1, o2, o3⟩ := h2.cut h1.1 sc hq hy (h1.bb q hq.1 hq.2) hu.1 hu.2
  have hk := h1.k67 q hq.1 hq.2
  exact FS.crash0 o1 o2 (h1.k67.set (by rw [hu.1, hu.2]; omega)) h7 hI
theorem FS.crash (h : FS T v B sc dn c) (hI : CI (rlT v T 16) (flV (rlV v 16) 16) (flB B 16) (-1) 1) : FS (rlT v T 16) (flV (rlV v 16) 16) (flB B 16) (-1) 1 c := FS.crash0 h.2.1 h.1.1 h.1.k67 h.2.2.2.2.2.2 hI
/-- starting -/
theorem st1_o {s : S3} {j c : Int} (hj : 0 ≤ j ∧ j < 16) (hO : OW s.1 s.2.1 s.2.2) (hT : ∀ i, s.1 i = 0 ∨ s.1 i = 1) (hb : BB7 s.2.2) (h3 : ∀ j, 0 ≤ j → j < 16 → s.2.1 j 3 ≤ c) (h10 : 0 ≤ s.2.1 j 10 ∧ s.2.1 j 10 ≤ 64) (hn : 0 ≤ lF s.1 s.2.1) :
    OW (st1 s j).1 (st1 s j).2.1 (st1 s j).2.2 ∧ (∀ i, (st1 s j).1 i = 0 ∨ (st1 s j).1 i = 1) ∧ (∀ j', 0 ≤ j' → j' < 16 → (st1 s j).2.1 j' 3 ≤ c) ∧ 0 ≤ lF (st1 s j).1 (st1 s j).2.1 := by
  have e3 := h3 j hj.1 hj.2
  have nn : ∀ y, 0 ≤ sI (fun p => eqI (s.2.2 j p) (-2)) y 64 ∨ 64 < y := fun y => by
    by_cases hy : y ≤ 64
    · exact Or.inl (sI_bd (g := fun p => eqI (s.2.2 j p) (-2)) (fun j => eqI_bd _ _) hy).1
    · exact Or.inr (by omega)
  unfold st1
  split
  · obtain ⟨o1, o2, o3⟩ := hO.cut hT (-1) hj ⟨by omega, by omega⟩ (hb j hj.1 hj.2) (y := 0) (u := fU (fU (fU (fU (ctU (s.2.1 j) (s.2.2 j) 0) 8 (s.2.1 j 9)) 2 0) 8 0) 9 0) rfl rfl
    have h0 := nn 0
    exact ⟨o1, o2, V3_set h3 e3, Int.le_trans hn (lF_mono (fun k _ _ => o3 k) (v4_le (by show s.2.1 j 4 - sI (fun p => eqI (s.2.2 j p) (-2)) 0 64 ≤ s.2.1 j 4; omega)))⟩
  · split
    · obtain ⟨o1, o2, o3⟩ := hO.cut hT (-1) hj h10 (hb j hj.1 hj.2) (y := s.2.1 j 10) (u := fU (ctU (s.2.1 j) (s.2.2 j) (s.2.1 j 10)) 8 (s.2.1 j 9)) rfl rfl
      have h0 := nn (s.2.1 j 10)
      exact ⟨o1, o2, V3_set h3 e3, Int.le_trans hn (lF_mono (fun k _ _ => o3 k) (v4_le (by show s.2.1 j 4 - sI (fun p => eqI (s.2.2 j p) (-2)) (s.2.1 j 10) 64 ≤ s.2.1 j 4; omega)))⟩
    · exact ⟨hO, hT, h3, hn⟩
theorem FS.sts (h : FS T v B (-1) dn c) : ∀ k : Nat, k ≤ 16 → OW (stS (T, v, B) k).1 (stS (T, v, B) k).2.1 (stS (T, v, B) k).2.2 ∧ (∀ i, (stS (T, v, B) k).1 i = 0 ∨ (stS (T, v, B) k).1 i = 1) ∧ (∀ j', 0 ≤ j' → j' < 16 → (stS (T, v, B) k).2.1 j' 3 ≤ c) ∧ 0 ≤ lF (stS (T, v, B) k).1 (stS (T, v, B) k).2.1 := by
  intro k
  induction k with
  | zero => intro _; exact ⟨h.2.1, h.1.1, h.2.2.2.2.2.1, h.2.2.1⟩
  | succ k ih =>
    intro hk
    obtain ⟨i1, i2, i3, i4⟩ := ih (by omega)
    have hb := (stS_k (s := (T, v, B)) h.1.k67 h.1.bb k (by omega)).2
    have hat := (stS_at (s := (T, v, B)) (i := k) k (Int.le_refl _)).1
    have h10 := (h.1.2.1 k (by omega) (by omega)).2.2.2.2.2.2.2.2.1
    exact st1_o (s := stS (T, v, B) k) (j := k) (by omega) i1 i2 hb i3 (by rw [hat]; exact h10) i4
theorem stS_89 (hI : CI T v B sc dn) : ∀ k : Nat, k ≤ 16 → ∀ j : Int, 0 ≤ j → j < k → (stS (T, v, B) k).2.1 j 8 = 0 ∧ (stS (T, v, B) k).2.1 j 9 = 0 := by
  intro k
  induction k with
  | zero => intro _ j h1 h2; omega
  | succ k ih =>
    intro hk j h1 h2
    by_cases hj : j = k
    · subst hj
      have hat := (stS_at (s := (T, v, B)) (i := k) k (Int.le_refl _)).1
      have h8 := (hI.2.1 k (by omega) (by omega)).2.2.2.2.2.2.1
      have h9 := (hI.2.1 k (by omega) (by omega)).2.2.2.2.2.2.2.1
      show (st1 (stS (T, v, B) k) k).2.1 k 8 = 0 ∧ (st1 (stS (T, v, B) k) k).2.1 k 9 = 0
      unfold st1
      rw [hat]
      dsimp only
      split
      · dsimp only; rw [fU_s]; exact ⟨rfl, rfl⟩
      · split
        · dsimp only
          rw [fU_s]
          have e8 : fU (ctU (v k) ((stS (T, v, B) k).2.2 k) (v k 10)) 8 (v k 9) 8 = v k 9 := rfl
          have e9 : fU (ctU (v k) ((stS (T, v, B) k).2.2 k) (v k 10)) 8 (v k 9) 9 = v k 9 := rfl
          rw [e8, e9]
          omega
        · rw [hat]
          dsimp only
          omega
    · have h3 := st1_at (s := stS (T, v, B) k) (j := k) (i := j) hj
      show (st1 (stS (T, v, B) k) k).2.1 j 8 = 0 ∧ (st1 (stS (T, v, B) k) k).2.1 j 9 = 0
      rw [h3.1]
      exact ih (by omega) j h1 (by omega)
end FSS
/-! the list -/
theorem RLs.cg {f7 : Int → Int} {v v' : Int → Int → Int} (h : RLs f7 v) (hv : ∀ j, 0 ≤ j → j < 16 → v' j 8 = v j 8 ∧ v' j 9 = v j 9 ∧ v' j 10 = v j 10) : RLs f7 v' := by
  intro j a b
  obtain ⟨e1, e2, e3⟩ := hv j a b
  rw [e1, e2, e3]
  exact h j a b
theorem RLs.set {f7 : Int → Int} {v : Int → Int → Int} (h : RLs f7 v) {q y : Int} {u : Int → Int} (hy : -1 ≤ y ∧ y ≤ 64) (h1 : u 8 = 1 ↔ u 9 = 1 ∨ y ≠ -1) (h2 : u 9 = 0 → y ≠ -1 → y = u 10) : RLs (fU f7 q y) (fU v q u) := by
  intro j a b
  by_cases hj : j = q
  · subst hj
    rw [fU_s, fU_s]
    exact ⟨hy, h1, h2⟩
  · rw [fU_n hj, fU_n hj]
    exact h j a b
theorem RLs.vs {f7 : Int → Int} {v : Int → Int → Int} (h : RLs f7 v) {q : Int} {u : Int → Int} (h1 : u 8 = v q 8) (h2 : u 9 = v q 9) (h3 : u 10 = v q 10) : RLs f7 (fU v q u) := h.cg (fun j _ _ => by
  by_cases hj : j = q
  · subst hj; rw [fU_s]; exact ⟨h1, h2, h3⟩
  · rw [fU_n hj]; exact ⟨rfl, rfl, rfl⟩)
