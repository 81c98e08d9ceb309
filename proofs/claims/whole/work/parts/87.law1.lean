/-! the law's world: the class, the reference and the rows of answers side by side -/
def tg : va_E → Nat × Nat
  | .inr (ci, _) => (0, ci)
  | .inl (_, n, .inl _) => (1, n)
  | .inl (_, n, .inr (.inl _)) => (2, n)
  | .inl (_, n, .inr (.inr (.inl _))) => (3, n)
  | .inl (_, n, .inr (.inr (.inr (.inl _)))) => (4, n)
  | .inl (_, n, .inr (.inr (.inr (.inr _)))) => (5, n)
theorem tg_ne {w : WT} {a b : Nat} {x y : va_E} (h1 : w a = some x) (h2 : w b = some y) (h : tg x ≠ tg y) : a ≠ b := fun e => by
  rw [e, h2] at h1
  cases h1
  exact h rfl
theorem tg_MA (ky : Nat → ClassId) (f : Int → Int) : ∀ k, k < 14 → ∃ N, tg (MA ky k f) = (1, N) ∧ (N = 128 → k = 0) ∧ N ≠ 64 ∧ N ≠ 4
  | 0, _ => ⟨128, rfl, fun _ => rfl, by decide, by decide⟩
  | 1, _ => ⟨16, rfl, by decide, by decide, by decide⟩
  | 2, _ => ⟨1024, rfl, by decide, by decide, by decide⟩
  | 3, _ => ⟨16, rfl, by decide, by decide, by decide⟩
  | 4, _ => ⟨16, rfl, by decide, by decide, by decide⟩
  | 5, _ => ⟨16, rfl, by decide, by decide, by decide⟩
  | 6, _ => ⟨16, rfl, by decide, by decide, by decide⟩
  | 7, _ => ⟨16, rfl, by decide, by decide, by decide⟩
  | 8, _ => ⟨16, rfl, by decide, by decide, by decide⟩
  | 9, _ => ⟨1000, rfl, by decide, by decide, by decide⟩
  | 10, _ => ⟨300, rfl, by decide, by decide, by decide⟩
  | 11, _ => ⟨300, rfl, by decide, by decide, by decide⟩
  | 12, _ => ⟨1200, rfl, by decide, by decide, by decide⟩
  | 13, _ => ⟨300, rfl, by decide, by decide, by decide⟩
  | k + 14, h => by omega
section LWS
variable {w w' w1 : WT} {ky : Nat → ClassId} {b g t ar d o ao ad : Nat} {ac ab : Int → Nat} {la na fa la' na' fa' : Int → Nat} {A : Nat → Nat} {T T' : Int → Int} {v v' B B' : Int → Int → Int} {sc dn sc' dn' n n' : Int} {lo co ct lo' co' ct' : Int → Int} {nm fl nm' fl' : Int → Int → Int} {F F' : Nat → Int → Int} {G G' : Nat → Int} {fo fo' : Nat → Int64} {fd fd' : Nat → UInt64}
theorem CW.kp (h : CW w ky b g t ar d ac ab T v B sc dn) (hk : ∀ y u, w y = some u → (tg u = (0, 4) ∨ tg u = (0, 2) ∨ (tg u = (1, 128) ∧ y = t) ∨ tg u = (5, 16) ∨ tg u = (0, 0) ∨ tg u = (1, 64)) → w' y = some u) : CW w' ky b g t ar d ac ab T v B sc dn := by
  obtain ⟨h1, h2, h3, h4, h5, h6⟩ := h
  exact ⟨hk _ _ h1 (Or.inl rfl), hk _ _ h2 (Or.inr (Or.inl rfl)), hk _ _ h3 (Or.inr (Or.inr (Or.inl ⟨rfl, rfl⟩))), hk _ _ h4 (Or.inr (Or.inr (Or.inr (Or.inl rfl)))), fun j j1 j2 => ⟨hk _ _ (h5 j j1 j2).1 (Or.inr (Or.inr (Or.inr (Or.inr (Or.inl rfl))))), hk _ _ (h5 j j1 j2).2 (Or.inr (Or.inr (Or.inr (Or.inr (Or.inr rfl)))))⟩, h6⟩
theorem DW.kp (h : DW w ky d la na fa n lo co ct nm fl) (hk : ∀ y u, w y = some u → (tg u = (0, 1) ∨ tg u = (0, 3) ∨ tg u = (1, 4)) → w' y = some u) : DW w' ky d la na fa n lo co ct nm fl := by
  obtain ⟨h1, h2, h3⟩ := h
  refine ⟨hk _ _ h1 (Or.inl rfl), fun i i1 i2 => ?_, h3⟩
  obtain ⟨a1, a2, a3, a4⟩ := h2 i i1 i2
  exact ⟨hk _ _ a1 (Or.inr (Or.inl rfl)), hk _ _ a2 (Or.inr (Or.inr rfl)), hk _ _ a3 (Or.inr (Or.inr rfl)), a4⟩
def LW (w : WT) (ky : Nat → ClassId) (b g t ar d o ao ad : Nat) (ac ab la na fa : Int → Nat) (A : Nat → Nat) (T : Int → Int) (v B : Int → Int → Int) (sc dn n : Int) (lo co ct : Int → Int) (nm fl : Int → Int → Int) (F : Nat → Int → Int) (G : Nat → Int) (fo : Nat → Int64) (fd : Nat → UInt64) : Prop :=
  CW w ky b g t ar d ac ab T v B sc dn ∧ DW w ky d la na fa n lo co ct nm fl ∧ MW w ky o A F G ∧ A 0 ≠ t ∧ w ao = some (lA (ky 3) 1 fo) ∧ w ad = some (dA (ky 4) 1 fd)
theorem LW.cls (h : LW w ky b g t ar d o ao ad ac ab la na fa A T v B sc dn n lo co ct nm fl F G fo fd) (hW : CW w' ky b g t ar d ac ab T' v' B' sc' dn') (hD : DW w' ky d la' na' fa' n' lo' co' ct' nm' fl') (hF : FrA w w' b g t d ac ab la na fa n) : LW w' ky b g t ar d o ao ad ac ab la' na' fa' A T' v' B' sc' dn' n' lo' co' ct' nm' fl' F G fo fd := by
  obtain ⟨⟨c1, c2, c3, c4, c5, c6⟩, ⟨d1, d2, d3⟩, ⟨m1, m2, m3⟩, h4, h5, h6⟩ := h
  have key : ∀ y u τ, w y = some u → tg u = τ → τ ≠ (0, 4) → τ ≠ (0, 2) → (τ ≠ (1, 128) ∨ y ≠ t) → τ ≠ (0, 0) → τ ≠ (1, 64) → τ ≠ (0, 1) → τ ≠ (0, 3) → τ ≠ (1, 4) → w' y = some u := by
    intro y u τ hy hτ a1 a2 a3 a4 a5 a6 a7 a8
    subst hτ
    refine (hF y u hy (tg_ne hy c1 a1) (tg_ne hy c2 a2) (a3.elim (fun a3 => tg_ne hy c3 a3) id) (fun j j1 j2 => ⟨tg_ne hy (c5 j j1 j2).1 a4, tg_ne hy (c5 j j1 j2).2 a5⟩) (tg_ne hy d1 a6) (fun i i1 i2 => ?_)).trans hy
    obtain ⟨e1, e2, e3, -⟩ := d2 i i1 i2
    exact ⟨tg_ne hy e1 a7, tg_ne hy e2 a8, tg_ne hy e3 a8⟩
  refine ⟨hW, hD, ⟨key _ _ (0, 5) m1 rfl (by decide) (by decide) (Or.inl (by decide)) (by decide) (by decide) (by decide) (by decide) (by decide), fun k hk => ?_, m3⟩, h4, key _ _ (2, 1) h5 rfl (by decide) (by decide) (Or.inl (by decide)) (by decide) (by decide) (by decide) (by decide) (by decide), key _ _ (4, 1) h6 rfl (by decide) (by decide) (Or.inl (by decide)) (by decide) (by decide) (by decide) (by decide) (by decide)⟩
  obtain ⟨N, e1, e2, e3, e4⟩ := tg_MA ky (F k) k hk
  refine key _ _ (1, N) (m2 k hk) e1 ?_ ?_ ?_ ?_ ?_ ?_ ?_ ?_
  · intro e; cases e
  · intro e; cases e
  · by_cases hN : N = 128
    · obtain rfl := e2 hN
      exact Or.inr h4
    · refine Or.inl ?_
      intro e; cases e; exact hN rfl
  · intro e; cases e
  · intro e; cases e; exact e3 rfl
  · intro e; cases e
  · intro e; cases e
  · intro e; cases e; exact e4 rfl
theorem LW.mod (h : LW w ky b g t ar d o ao ad ac ab la na fa A T v B sc dn n lo co ct nm fl F G fo fd) (hV : MV w w' ky o A F' G') : LW w' ky b g t ar d o ao ad ac ab la na fa A T v B sc dn n lo co ct nm fl F' G' fo fd := by
  obtain ⟨hC, hD, ⟨m1, m2, m3⟩, h4, h5, h6⟩ := h
  have key : ∀ y u τ, w y = some u → tg u = τ → τ ≠ (0, 5) → (∀ N, τ = (1, N) → N = 64 ∨ N = 4 ∨ N = 128 ∧ y = t) → w' y = some u := by
    intro y u τ hy hτ a1 a2
    subst hτ
    refine (hV.2 y (tg_ne hy m1 a1) (fun k hk e => ?_)).trans hy
    obtain ⟨N, e1, e2, e3, e4⟩ := tg_MA ky (F k) k hk
    rw [e, m2 k hk] at hy
    cases hy
    rcases a2 N e1 with a | a | ⟨a, b9⟩
    · exact e3 a
    · exact e4 a
    · obtain rfl := e2 a
      exact h4 (e.symm.trans b9)
  refine ⟨hC.kp (fun y u hy a => key y u _ hy rfl ?_ (fun N hN => ?_)), hD.kp (fun y u hy a => key y u _ hy rfl ?_ (fun N hN => ?_)), hV.1, h4, key _ _ (2, 1) h5 rfl (by decide) (fun N hN => by cases hN), key _ _ (4, 1) h6 rfl (by decide) (fun N hN => by cases hN)⟩
  · rcases a with a | a | a | a | a | a
    · rw [a]; decide
    · rw [a]; decide
    · rw [a.1]; decide
    · rw [a]; decide
    · rw [a]; decide
    · rw [a]; decide
  · rcases a with a | a | a | a | a | a
    · rw [a] at hN; cases hN
    · rw [a] at hN; cases hN
    · rw [a.1] at hN; cases hN; exact Or.inr (Or.inr ⟨rfl, a.2⟩)
    · rw [a] at hN; cases hN
    · rw [a] at hN; cases hN
    · rw [a] at hN; cases hN; exact Or.inl rfl
  · rcases a with a | a | a
    · rw [a]; decide
    · rw [a]; decide
    · rw [a]; decide
  · rcases a with a | a | a
    · rw [a] at hN; cases hN
    · rw [a] at hN; cases hN
    · rw [a] at hN; cases hN; exact Or.inr (Or.inl rfl)
theorem LW.out (h : LW w ky b g t ar d o ao ad ac ab la na fa A T v B sc dn n lo co ct nm fl F G fo fd) (fo' : Nat → Int64) : LW (wU w ao (lA (ky 3) 1 fo')) ky b g t ar d o ao ad ac ab la na fa A T v B sc dn n lo co ct nm fl F G fo' fd := by
  obtain ⟨hC, hD, ⟨m1, m2, m3⟩, h4, h5, h6⟩ := h
  have key : ∀ y u τ, w y = some u → tg u = τ → τ ≠ (2, 1) → wU w ao (lA (ky 3) 1 fo') y = some u := fun y u τ hy hτ a => (wU_n (tg_ne hy h5 (by rw [hτ]; exact a))).trans hy
  refine ⟨hC.kp (fun y u hy a => key y u _ hy rfl ?_), hD.kp (fun y u hy a => key y u _ hy rfl ?_), ⟨key _ _ (0, 5) m1 rfl (by decide), fun k hk => key _ _ _ (m2 k hk) rfl ?_, m3⟩, h4, wU_s _ _ _, key _ _ (4, 1) h6 rfl (by decide)⟩
  · rcases a with a | a | a | a | a | a
    · rw [a]; decide
    · rw [a]; decide
    · rw [a.1]; decide
    · rw [a]; decide
    · rw [a]; decide
    · rw [a]; decide
  · rcases a with a | a | a
    · rw [a]; decide
    · rw [a]; decide
    · rw [a]; decide
  · obtain ⟨N, e1, -⟩ := tg_MA ky (F k) k hk
    rw [e1]; intro e; cases e
theorem LW.outD (h : LW w ky b g t ar d o ao ad ac ab la na fa A T v B sc dn n lo co ct nm fl F G fo fd) (fd' : Nat → UInt64) : LW (wU w ad (dA (ky 4) 1 fd')) ky b g t ar d o ao ad ac ab la na fa A T v B sc dn n lo co ct nm fl F G fo fd' := by
  obtain ⟨hC, hD, ⟨m1, m2, m3⟩, h4, h5, h6⟩ := h
  have key : ∀ y u τ, w y = some u → tg u = τ → τ ≠ (4, 1) → wU w ad (dA (ky 4) 1 fd') y = some u := fun y u τ hy hτ a => (wU_n (tg_ne hy h6 (by rw [hτ]; exact a))).trans hy
  refine ⟨hC.kp (fun y u hy a => key y u _ hy rfl ?_), hD.kp (fun y u hy a => key y u _ hy rfl ?_), ⟨key _ _ (0, 5) m1 rfl (by decide), fun k hk => key _ _ _ (m2 k hk) rfl ?_, m3⟩, h4, key _ _ (2, 1) h5 rfl (by decide), wU_s _ _ _⟩
  · rcases a with a | a | a | a | a | a
    · rw [a]; decide
    · rw [a]; decide
    · rw [a.1]; decide
    · rw [a]; decide
    · rw [a]; decide
    · rw [a]; decide
  · rcases a with a | a | a
    · rw [a]; decide
    · rw [a]; decide
    · rw [a]; decide
  · obtain ⟨N, e1, -⟩ := tg_MA ky (F k) k hk
    rw [e1]; intro e; cases e
end LWS
/-- class and reference agree, behind c calls -/
def INV (c : Int) (T : Int → Int) (v B : Int → Int → Int) (sc dn n : Int) (lo co ct : Int → Int) (nm fl : Int → Int → Int) (F : Nat → Int → Int) (G : Nat → Int) : Prop :=
  FS T v B sc dn c ∧ RLs (F 7) v ∧ RF F G T v B sc dn ∧ NI n lo co ct nm fl ∧ PT n ct ≤ c ∧ RNM F G n lo co ct nm ∧ (∀ q, 0 ≤ q → q ≤ 999 → F 9 q = dF n lo co ct nm fl q + 1)
def LI (w : WT) (ky : Nat → ClassId) (b o ao ad : Nat) (c : Int) : Prop :=
  ∃ (g t ar d : Nat) (ac ab la na fa : Int → Nat) (A : Nat → Nat) (T : Int → Int) (v B : Int → Int → Int) (sc dn n : Int) (lo co ct : Int → Int) (nm fl : Int → Int → Int) (F : Nat → Int → Int) (G : Nat → Int) (fo : Nat → Int64) (fd : Nat → UInt64),
    LW w ky b g t ar d o ao ad ac ab la na fa A T v B sc dn n lo co ct nm fl F G fo fd ∧ INV c T v B sc dn n lo co ct nm fl F G
theorem PT_nn {n : Int} {ct : Int → Int} (hn : 1 ≤ n) : 2 * (n - 1) ≤ PT n ct := by
  unfold PT
  have h : ∀ k : Nat, 0 ≤ sI (fun i => mx2 (ct i)) 0 k := by
    intro k
    induction k with
    | zero => simp [sI_0]
    | succ k ih =>
      rw [show ((k + 1 : Nat) : Int) = (k : Int) + 1 by omega, sI_s (by omega)]
      have := mx2_c (ct k)
      omega
  have h1 := h n.toNat
  rw [show (n.toNat : Int) = n by omega] at h1
  omega
/-- a file's call: names stay -/
theorem INV.file {c : Int} {T T' : Int → Int} {v v' B B' : Int → Int → Int} {sc dn sc' dn' n : Int} {lo co ct : Int → Int} {nm fl : Int → Int → Int} {F F' : Nat → Int → Int} {G G' : Nat → Int} (h : INV c T v B sc dn n lo co ct nm fl F G) (hS : FS T' v' B' sc' dn' (c + 1)) (hL : RLs (F' 7) v') (hR : RF F' G' T' v' B' sc' dn') (hN : FN F F') (h14 : G' 14 = G 14) : INV (c + 1) T' v' B' sc' dn' n lo co ct nm fl F' G' := by
  obtain ⟨h1, h2, h3, h4, h5, h6, h7⟩ := h
  exact ⟨hS, hL, hR, h4, by omega, h6.fn hN h14, fun q a b => by rw [hN.1]; exact h7 q a b⟩
theorem INV.same {c : Int} {T : Int → Int} {v B : Int → Int → Int} {sc dn n : Int} {lo co ct : Int → Int} {nm fl : Int → Int → Int} {F F' : Nat → Int → Int} {G G' : Nat → Int} (h : INV c T v B sc dn n lo co ct nm fl F G) (hR : RF F' G' T v B sc dn) (hN : FN F F') (h7 : F' 7 = F 7) (h14 : G' 14 = G 14) : INV (c + 1) T v B sc dn n lo co ct nm fl F' G' :=
  h.file h.1.up (by rw [h7]; exact h.2.1) hR hN h14
