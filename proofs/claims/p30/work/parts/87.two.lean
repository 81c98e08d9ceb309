/-! two objects in one world: whose an address is, one object's world, what a call of one leaves of the other -/
def OWN (b g t ar d : Nat) (ac ab la na fa : Int → Nat) (n : Int) (y : Nat) : Prop := y = b ∨ y = g ∨ y = t ∨ y = ar ∨ y = d ∨ (∃ j, 0 ≤ j ∧ j < 16 ∧ (y = ac j ∨ y = ab j)) ∨ ∃ i, 0 ≤ i ∧ i < n ∧ (y = la i ∨ y = na i ∨ y = fa i)
def VW (w : WT) (ky : Nat → ClassId) (b : Nat) (P : Nat → Prop) (T : Int → Int) (v B : Int → Int → Int) (sc dn n : Int) (lo co ct : Int → Int) (nm fl : Int → Int → Int) : Prop :=
  ∃ (g t ar d : Nat) (ac ab la na fa : Int → Nat), CW w ky b g t ar d ac ab T v B sc dn ∧ DW w ky d la na fa n lo co ct nm fl ∧ P = OWN b g t ar d ac ab la na fa n
def FrP (w w' : WT) (P P' : Nat → Prop) : Prop := ∀ y u, w y = some u → ¬ P y → w' y = some u ∧ ¬ P' y
theorem FrP.rf (w : WT) (P : Nat → Prop) : FrP w w P P := fun _ _ h1 h2 => ⟨h1, h2⟩
section TWS
variable {w w' : WT} {ky : Nat → ClassId} {b g t ar d : Nat} {ac ab la na fa la' na' fa' : Int → Nat} {P P' P2 : Nat → Prop} {T T' : Int → Int} {v v' B B' : Int → Int → Int} {sc dn sc' dn' n n' : Int} {lo co ct lo' co' ct' : Int → Int} {nm fl nm' fl' : Int → Int → Int}
theorem VW.kp (h : VW w ky b P T v B sc dn n lo co ct nm fl) (hk : ∀ y u, w y = some u → P y → w' y = some u) : VW w' ky b P T v B sc dn n lo co ct nm fl := by
  obtain ⟨g, t, ar, d, ac, ab, la, na, fa, ⟨c1, c2, c3, c4, c5, c6⟩, ⟨d1, d2, d3⟩, rfl⟩ := h
  refine ⟨g, t, ar, d, ac, ab, la, na, fa, ⟨hk _ _ c1 (Or.inl rfl), hk _ _ c2 (Or.inr (Or.inl rfl)), hk _ _ c3 (Or.inr (Or.inr (Or.inl rfl))), hk _ _ c4 (Or.inr (Or.inr (Or.inr (Or.inl rfl)))), fun j j1 j2 => ?_, c6⟩, ⟨hk _ _ d1 (Or.inr (Or.inr (Or.inr (Or.inr (Or.inl rfl))))), fun i i1 i2 => ?_, d3⟩, rfl⟩
  · obtain ⟨e1, e2⟩ := c5 j j1 j2
    exact ⟨hk _ _ e1 (Or.inr (Or.inr (Or.inr (Or.inr (Or.inr (Or.inl ⟨j, j1, j2, Or.inl rfl⟩)))))), hk _ _ e2 (Or.inr (Or.inr (Or.inr (Or.inr (Or.inr (Or.inl ⟨j, j1, j2, Or.inr rfl⟩))))))⟩
  · obtain ⟨e1, e2, e3, e4⟩ := d2 i i1 i2
    exact ⟨hk _ _ e1 (Or.inr (Or.inr (Or.inr (Or.inr (Or.inr (Or.inr ⟨i, i1, i2, Or.inl rfl⟩)))))), hk _ _ e2 (Or.inr (Or.inr (Or.inr (Or.inr (Or.inr (Or.inr ⟨i, i1, i2, Or.inr (Or.inl rfl)⟩)))))), hk _ _ e3 (Or.inr (Or.inr (Or.inr (Or.inr (Or.inr (Or.inr ⟨i, i1, i2, Or.inr (Or.inr rfl)⟩)))))), e4⟩
theorem VW.has (h : VW w ky b P T v B sc dn n lo co ct nm fl) {y : Nat} (hy : P y) : ∃ u, w y = some u := by
  obtain ⟨g, t, ar, d, ac, ab, la, na, fa, ⟨c1, c2, c3, c4, c5, c6⟩, ⟨d1, d2, d3⟩, rfl⟩ := h
  rcases hy with rfl | rfl | rfl | rfl | rfl | ⟨j, j1, j2, rfl | rfl⟩ | ⟨i, i1, i2, rfl | rfl | rfl⟩
  · exact ⟨_, c1⟩
  · exact ⟨_, c2⟩
  · exact ⟨_, c3⟩
  · exact ⟨_, c4⟩
  · exact ⟨_, d1⟩
  · exact ⟨_, (c5 j j1 j2).1⟩
  · exact ⟨_, (c5 j j1 j2).2⟩
  · exact ⟨_, (d2 i i1 i2).1⟩
  · exact ⟨_, (d2 i i1 i2).2.1⟩
  · exact ⟨_, (d2 i i1 i2).2.2.1⟩
theorem VW.obj (h : VW w ky b P T v B sc dn n lo co ct nm fl) : ∃ fs, w b = some (oB 4 fs) := by
  obtain ⟨g, t, ar, d, ac, ab, la, na, fa, hW, -⟩ := h
  exact ⟨_, hW.1⟩
theorem OWN.not {y : Nat} (h : ¬ OWN b g t ar d ac ab la na fa n y) : y ≠ b ∧ y ≠ g ∧ y ≠ t ∧ y ≠ ar ∧ y ≠ d ∧ (∀ j, 0 ≤ j → j < 16 → y ≠ ac j ∧ y ≠ ab j) ∧ ∀ i, 0 ≤ i → i < n → y ≠ la i ∧ y ≠ na i ∧ y ≠ fa i := by
  unfold OWN at h
  refine ⟨fun e => h (Or.inl e), fun e => h (Or.inr (Or.inl e)), fun e => h (Or.inr (Or.inr (Or.inl e))), fun e => h (Or.inr (Or.inr (Or.inr (Or.inl e)))), fun e => h (Or.inr (Or.inr (Or.inr (Or.inr (Or.inl e))))), fun j j1 j2 => ⟨fun e => h (Or.inr (Or.inr (Or.inr (Or.inr (Or.inr (Or.inl ⟨j, j1, j2, Or.inl e⟩)))))), fun e => h (Or.inr (Or.inr (Or.inr (Or.inr (Or.inr (Or.inl ⟨j, j1, j2, Or.inr e⟩))))))⟩, fun i i1 i2 => ⟨fun e => h (Or.inr (Or.inr (Or.inr (Or.inr (Or.inr (Or.inr ⟨i, i1, i2, Or.inl e⟩)))))), fun e => h (Or.inr (Or.inr (Or.inr (Or.inr (Or.inr (Or.inr ⟨i, i1, i2, Or.inr (Or.inl e)⟩)))))), fun e => h (Or.inr (Or.inr (Or.inr (Or.inr (Or.inr (Or.inr ⟨i, i1, i2, Or.inr (Or.inr e)⟩))))))⟩⟩
theorem OWN.mk {y : Nat} (h : y ≠ b ∧ y ≠ g ∧ y ≠ t ∧ y ≠ ar ∧ y ≠ d ∧ (∀ j, 0 ≤ j → j < 16 → y ≠ ac j ∧ y ≠ ab j) ∧ ∀ i, 0 ≤ i → i < n → y ≠ la i ∧ y ≠ na i ∧ y ≠ fa i) : ¬ OWN b g t ar d ac ab la na fa n y := by
  obtain ⟨h1, h2, h3, h4, h5, h6, h7⟩ := h
  rintro (e | e | e | e | e | ⟨j, j1, j2, e⟩ | ⟨i, i1, i2, e⟩)
  · exact h1 e
  · exact h2 e
  · exact h3 e
  · exact h4 e
  · exact h5 e
  · exact e.elim (h6 j j1 j2).1 (h6 j j1 j2).2
  · exact e.elim (h7 i i1 i2).1 (fun e => e.elim (h7 i i1 i2).2.1 (h7 i i1 i2).2.2)
/-- a call that changes no names -/
theorem VW.cls (hW : CW w ky b g t ar d ac ab T v B sc dn) (hD : DW w ky d la na fa n lo co ct nm fl) (hW' : CW w' ky b g t ar d ac ab T' v' B' sc' dn') (hF : FrC w w' b g t ac ab) :
    VW w' ky b (OWN b g t ar d ac ab la na fa n) T' v' B' sc' dn' n lo co ct nm fl ∧ FrP w w' (OWN b g t ar d ac ab la na fa n) (OWN b g t ar d ac ab la na fa n) := by
  refine ⟨⟨g, t, ar, d, ac, ab, la, na, fa, hW', hD.keptC hW hF, rfl⟩, fun y u hy hn => ⟨?_, hn⟩⟩
  obtain ⟨h1, h2, h3, h4, h5, h6, h7⟩ := OWN.not hn
  exact (hF y h1 h2 h3 h6).trans hy
/-- a call that changes the names of leaves -/
theorem VW.dir (hW' : CW w' ky b g t ar d ac ab T' v' B' sc' dn') (hD' : DW w' ky d la na fa n lo' co' ct' nm' fl') (hF : FrA w w' b g t d ac ab la na fa n) :
    VW w' ky b (OWN b g t ar d ac ab la na fa n) T' v' B' sc' dn' n lo' co' ct' nm' fl' ∧ FrP w w' (OWN b g t ar d ac ab la na fa n) (OWN b g t ar d ac ab la na fa n) := by
  refine ⟨⟨g, t, ar, d, ac, ab, la, na, fa, hW', hD', rfl⟩, fun y u hy hn => ⟨?_, hn⟩⟩
  obtain ⟨h1, h2, h3, h4, h5, h6, h7⟩ := OWN.not hn
  exact (hF y u hy h1 h2 h3 h6 h5 h7).trans hy
/-- what was another's is no leaf of the new chain -/
def FrL (w : WT) (d : Nat) (la na fa : Int → Nat) (n : Int) (la' na' fa' : Int → Nat) (n' : Int) : Prop := ∀ y u, w y = some u → y ≠ d → (∀ i, 0 ≤ i → i < n → y ≠ la i ∧ y ≠ na i ∧ y ≠ fa i) → ∀ i, 0 ≤ i → i < n' → y ≠ la' i ∧ y ≠ na' i ∧ y ≠ fa' i
theorem VW.add (hW' : CW w' ky b g t ar d ac ab T' v' B' sc' dn') (hD' : DW w' ky d la' na' fa' n' lo' co' ct' nm' fl') (hF : FrA w w' b g t d ac ab la na fa n) (hL : FrL w d la na fa n la' na' fa' n') :
    VW w' ky b (OWN b g t ar d ac ab la' na' fa' n') T' v' B' sc' dn' n' lo' co' ct' nm' fl' ∧ FrP w w' (OWN b g t ar d ac ab la na fa n) (OWN b g t ar d ac ab la' na' fa' n') := by
  refine ⟨⟨g, t, ar, d, ac, ab, la', na', fa', hW', hD', rfl⟩, fun y u hy hn => ?_⟩
  obtain ⟨h1, h2, h3, h4, h5, h6, h7⟩ := OWN.not hn
  exact ⟨(hF y u hy h1 h2 h3 h6 h5 h7).trans hy, OWN.mk ⟨h1, h2, h3, h4, h5, h6, hL y u hy h5 h7⟩⟩
/-- the other object behind a call of the one -/
theorem VW.other {b2 : Nat} {T2 : Int → Int} {v2 B2 : Int → Int → Int} {sc2 dn2 n2 : Int} {lo2 co2 ct2 : Int → Int} {nm2 fl2 : Int → Int → Int} (h : VW w ky b2 P2 T2 v2 B2 sc2 dn2 n2 lo2 co2 ct2 nm2 fl2) (hF : FrP w w' P P') (hA : ∀ y, P y → P2 y → False) : VW w' ky b2 P2 T2 v2 B2 sc2 dn2 n2 lo2 co2 ct2 nm2 fl2 ∧ ∀ y, P' y → P2 y → False := by
  refine ⟨h.kp (fun y u hy hp => (hF y u hy (fun h1 => hA y h1 hp)).1), fun y h1 h2 => ?_⟩
  obtain ⟨u, hu⟩ := h.has h2
  exact (hF y u hu (fun h3 => hA y h3 h2)).2 h1
end TWS
theorem MtW.mono {l : Launch} {D : va_G} {ky : Nat → ClassId} {z : Nat} {y : MethodName} {ws : List Cond} {rm : Room} {as : List Value} {w : WT} {P P' : Option Value → WT → Prop} (h : MtW l D ky z y ws rm as w P) (hP : ∀ r w', P r w' → P' r w') : MtW l D ky z y ws rm as w P' := by
  refine MetFree.mono h (fun _ _ h => h) (fun _ _ _ _ _ h => h) (fun a s o t _ hq => ?_)
  rcases hq with ⟨⟨⟨r, w', e1, e2, e3⟩, e4⟩, e5⟩ | hq
  · exact Or.inl ⟨⟨⟨r, w', e1, hP _ _ e2, e3⟩, e4⟩, e5⟩
  · exact Or.inr hq
