/-! the questions of the law, asked of one of two objects -/
theorem kQ_opens {l : Launch} {D : va_G} {ky : Nat → ClassId} {z : Nat} {w : WT} (hl : l.stackTraces = false) {b : Nat} {P : Nat → Prop} {T : Int → Int} {v B : Int → Int → Int} {sc dn : Int} {n : Int} {lo co ct : Int → Int} {nm fl : Int → Int → Int} (hV : VW w ky b P T v B sc dn n lo co ct nm fl) (hI : CI T v B sc dn) {q x : Int} (hq : InR q ∧ InR x) : MtW l D ky z yL_of wsL_of { frames := 8, cells := 1, slots := 6, locals := 132 } [.ref b, .int (iI 0), .int (iI q), .int (iI x)] w (fun r w' => w = w' ∧ r = some (.int (iI (if 0 ≤ q ∧ q < 16 ∧ v q 2 = 1 then v q 3 else -8)))) := by
  obtain ⟨g, t, ar, d, ac, ab, la, na, fa, hW, hD, rfl⟩ := id hV
  refine MtW.mono (kL_of_opens hl (kX4_opens hl hW hI hq.1) hV.obj (fun r w1 h => ?_) (fun E h => ?_)) (fun r w1 h => ?_)
  · obtain ⟨-, h, -⟩ := h
    exact ⟨_, h⟩
  · exact h.1
  · rcases h with h | ⟨rfl, rfl, E, h⟩
    · obtain ⟨rfl, rfl, h⟩ := h
      rw [if_pos h]
      exact ⟨rfl, rfl⟩
    · rw [if_neg h.2]
      exact ⟨rfl, rfl⟩
theorem kQ_extents {l : Launch} {D : va_G} {ky : Nat → ClassId} {z : Nat} {w : WT} (hl : l.stackTraces = false) {b : Nat} {P : Nat → Prop} {T : Int → Int} {v B : Int → Int → Int} {sc dn : Int} {n : Int} {lo co ct : Int → Int} {nm fl : Int → Int → Int} (hV : VW w ky b P T v B sc dn n lo co ct nm fl) (hI : CI T v B sc dn) {q x : Int} (hq : InR q ∧ InR x) : MtW l D ky z yL_of wsL_of { frames := 8, cells := 1, slots := 6, locals := 132 } [.ref b, .int (iI 1), .int (iI q), .int (iI x)] w (fun r w' => w = w' ∧ r = some (.int (iI (if 0 ≤ q ∧ q < 16 ∧ v q 2 = 1 then sI (bE (B q)) 0 64 else -8)))) := by
  obtain ⟨g, t, ar, d, ac, ab, la, na, fa, hW, hD, rfl⟩ := id hV
  refine MtW.mono (kL_of_extents hl (kX4_extents hl hW hI hq.1) hV.obj (fun r w1 h => ?_) (fun E h => ?_)) (fun r w1 h => ?_)
  · obtain ⟨-, h, -⟩ := h
    exact ⟨_, h⟩
  · exact h.1
  · rcases h with h | ⟨rfl, rfl, E, h⟩
    · obtain ⟨rfl, rfl, h⟩ := h
      rw [if_pos h]
      exact ⟨rfl, rfl⟩
    · rw [if_neg h.2]
      exact ⟨rfl, rfl⟩
theorem kQ_blockAt {l : Launch} {D : va_G} {ky : Nat → ClassId} {z : Nat} {w : WT} (hl : l.stackTraces = false) {b : Nat} {P : Nat → Prop} {T : Int → Int} {v B : Int → Int → Int} {sc dn : Int} {n : Int} {lo co ct : Int → Int} {nm fl : Int → Int → Int} (hV : VW w ky b P T v B sc dn n lo co ct nm fl) (hI : CI T v B sc dn) {q x : Int} (hq : InR q ∧ InR x) : MtW l D ky z yL_of wsL_of { frames := 8, cells := 2, slots := 12, locals := 135 } [.ref b, .int (iI 3), .int (iI q), .int (iI x)] w (fun r w' => w = w' ∧ r = some (.int (iI (if (0 ≤ q ∧ q < 16 ∧ v q 2 = 1) ∧ 0 ≤ x ∧ x ≤ 63 then B q x else -8)))) := by
  obtain ⟨g, t, ar, d, ac, ab, la, na, fa, hW, hD, rfl⟩ := id hV
  refine MtW.mono (kL_of_blockAt hl (kX4_blockAt hl hW hI hq) hV.obj (fun r w1 h => ?_) (fun E h => ?_)) (fun r w1 h => ?_)
  · obtain ⟨-, h, -⟩ := h
    exact ⟨_, h⟩
  · exact h.elim (fun h => Or.inl h.1) (fun h => Or.inr h.1)
  · rcases h with h | ⟨rfl, rfl, E, h⟩
    · obtain ⟨rfl, rfl, h⟩ := h
      rw [if_pos h]
      exact ⟨rfl, rfl⟩
    · rw [if_neg (fun e => h.elim (fun h => h.2 e.1) (fun h => h.2.2 e.2))]
      exact ⟨rfl, rfl⟩
theorem kQ_pieces {l : Launch} {D : va_G} {ky : Nat → ClassId} {z : Nat} {w : WT} (hl : l.stackTraces = false) {b : Nat} {P : Nat → Prop} {T : Int → Int} {v B : Int → Int → Int} {sc dn : Int} {n : Int} {lo co ct : Int → Int} {nm fl : Int → Int → Int} (hV : VW w ky b P T v B sc dn n lo co ct nm fl) (hI : CI T v B sc dn) {q x : Int} (hq : InR q ∧ InR x) : MtW l D ky z yL_of wsL_of { frames := 8, cells := 2, slots := 12, locals := 134 } [.ref b, .int (iI 4), .int (iI q), .int (iI x)] w (fun r w' => w = w' ∧ r = some (.int (iI (if (0 ≤ q ∧ q ≤ 3) ∧ 0 ≤ x ∧ x ≤ 5 then sI (fun y => pI (aP T (p2 x) y)) (32 * q) (32 * q + 32) else -8)))) := by
  obtain ⟨g, t, ar, d, ac, ab, la, na, fa, hW, hD, rfl⟩ := id hV
  refine MtW.mono (kL_of_pieces hl (kX4_pieces hl hW hI hq) hV.obj (fun r w1 h => ?_) (fun E h => ?_)) (fun r w1 h => ?_)
  · obtain ⟨-, h, -⟩ := h
    exact ⟨_, h⟩
  · exact h.elim (fun h => Or.inl h.1) (fun h => Or.inr h.1)
  · rcases h with h | ⟨rfl, rfl, E, h⟩
    · obtain ⟨rfl, rfl, h⟩ := h
      rw [if_pos h]
      exact ⟨rfl, rfl⟩
    · rw [if_neg (fun e => h.elim (fun h => h.2 e.1) (fun h => h.2.2 e.2))]
      exact ⟨rfl, rfl⟩
theorem kQ_isFree {l : Launch} {D : va_G} {ky : Nat → ClassId} {z : Nat} {w : WT} (hl : l.stackTraces = false) {b : Nat} {P : Nat → Prop} {T : Int → Int} {v B : Int → Int → Int} {sc dn : Int} {n : Int} {lo co ct : Int → Int} {nm fl : Int → Int → Int} (hV : VW w ky b P T v B sc dn n lo co ct nm fl) (hI : CI T v B sc dn) {q x : Int} (hq : InR q ∧ InR x) : MtW l D ky z yL_of wsL_of { frames := 7, cells := 1, slots := 6, locals := 111 } [.ref b, .int (iI 7), .int (iI q), .int (iI x)] w (fun r w' => w = w' ∧ r = some (.int (iI (if 0 ≤ q ∧ q < 128 then 1 - T q else -8)))) := by
  obtain ⟨g, t, ar, d, ac, ab, la, na, fa, hW, hD, rfl⟩ := id hV
  refine MtW.mono (kL_of_isFree hl (kX4_isFree hl hW hI hq.1) hV.obj (fun r w1 h => ?_) (fun E h => ?_)) (fun r w1 h => ?_)
  · obtain ⟨-, h, -⟩ := h
    exact ⟨_, h, by have := hI.1 q; omega⟩
  · exact h.1
  · rcases h with h | ⟨rfl, rfl, E, h⟩
    · obtain ⟨rfl, rfl, h⟩ := h
      rw [if_pos h]
      exact ⟨rfl, rfl⟩
    · rw [if_neg h.2]
      exact ⟨rfl, rfl⟩
theorem kQ_fileOf {l : Launch} {D : va_G} {ky : Nat → ClassId} {z : Nat} {w : WT} (hl : l.stackTraces = false) {b : Nat} {P : Nat → Prop} {T : Int → Int} {v B : Int → Int → Int} {sc dn : Int} {n : Int} {lo co ct : Int → Int} {nm fl : Int → Int → Int} (hV : VW w ky b P T v B sc dn n lo co ct nm fl) (hI : CI T v B sc dn) (hR : DR n lo co ct nm fl) {q x : Int} (hq : 0 ≤ q ∧ q ≤ 999) : MtW l D ky z yL_of wsL_of { frames := 9, cells := 1, slots := 6, locals := 153 } [.ref b, .int (iI 5), .int (iI q), .int (iI x)] w (fun r w' => w = w' ∧ r = some (.int (iI (dF n lo co ct nm fl q)))) := by
  obtain ⟨g, t, ar, d, ac, ab, la, na, fa, hW, hD, rfl⟩ := id hV
  refine MtW.mono (kL_of_fileOf hl (kX4_fileOf hl hW hI hD hR (q := q) (by omega)) hV.obj (fun r w1 h => ?_) (fun E h => ?_)) (fun r w1 h => ?_)
  · obtain ⟨-, h, -⟩ := h
    exact ⟨_, h⟩
  · exact h.1
  · rcases h with h | ⟨rfl, rfl, E, h⟩
    · obtain ⟨rfl, rfl, -⟩ := h
      exact ⟨rfl, rfl⟩
    · exact absurd hq h.2
theorem kQ_looks {l : Launch} {D : va_G} {ky : Nat → ClassId} {z : Nat} {w : WT} (hl : l.stackTraces = false) {b : Nat} {P : Nat → Prop} {T : Int → Int} {v B : Int → Int → Int} {sc dn : Int} {n : Int} {lo co ct : Int → Int} {nm fl : Int → Int → Int} (hV : VW w ky b P T v B sc dn n lo co ct nm fl) (hI : CI T v B sc dn) (hR : DR n lo co ct nm fl) {q x : Int} (hq : 0 ≤ q ∧ q ≤ 999) : MtW l D ky z yL_of wsL_of { frames := 9, cells := 1, slots := 6, locals := 153 } [.ref b, .int (iI 6), .int (iI q), .int (iI x)] w (fun r w' => w = w' ∧ r = some (.int (iI (lLk n lo co ct nm q - fLk n lo co q + 1)))) := by
  obtain ⟨g, t, ar, d, ac, ab, la, na, fa, hW, hD, rfl⟩ := id hV
  refine MtW.mono (kL_of_looks hl (kX4_looks hl hW hI hD hR (q := q) (by omega)) hV.obj (fun r w1 h => ?_) (fun E h => ?_)) (fun r w1 h => ?_)
  · obtain ⟨-, h, -⟩ := h
    exact ⟨_, h⟩
  · exact h.1
  · rcases h with h | ⟨rfl, rfl, E, h⟩
    · obtain ⟨rfl, rfl, -⟩ := h
      exact ⟨rfl, rfl⟩
    · exact absurd hq h.2
/-- an extent: where it begins, where it ends -/
def REX (q x : Int) (v B : Int → Int → Int) (a : Int) : Prop :=
  ((0 ≤ q ∧ q < 16 ∧ v q 2 = 1) ∧ ∃ x1 y1 : Int, 0 ≤ x1 ∧ x1 < 64 ∧ bE (B q) x1 = 1 ∧ sI (bE (B q)) 0 x1 = x ∧ x1 < y1 ∧ y1 ≤ 64 ∧ (∀ j, x1 < j → j < y1 → jN (B q) j = 1) ∧ (y1 = 64 ∨ jN (B q) y1 = 0) ∧ 10000 * x1 + 100 * (y1 - x1) + B q x1 % 100 = a) ∨
  ((¬ (0 ≤ q ∧ q < 16 ∧ v q 2 = 1) ∨ ∀ j, 0 ≤ j → j < 64 → ¬ (bE (B q) j = 1 ∧ sI (bE (B q)) 0 j = x)) ∧ -8 = a)
theorem ext_1 {f : Int → Int} {a b k : Int} (ha : 0 ≤ a) (hb : b < 64) (h1 : bE f a = 1) (h2 : sI (bE f) 0 a = k) (h3 : sI (bE f) 0 b = k) : ¬ a < b := fun h => by
  have e1 := sI_cut (g := bE f) (a := 0) (b := a) (c := b) ha (by omega)
  have e2 := sI_cut (g := bE f) (a := a) (b := a + 1) (c := b) (by omega) (by omega)
  have e3 : sI (bE f) a (a + 1) = 1 := by
    rw [sI_s (by omega), sI_0, h1]
    rfl
  have e4 := (sI_bd (g := bE f) (a := a + 1) (b := b) (fun j => bE_bd f j) (by omega)).1
  omega
theorem REX_det {q x : Int} {v B : Int → Int → Int} {a a2 : Int} (h1 : REX q x v B a) (h2 : REX q x v B a2) : a2 = a := by
  rcases h1 with ⟨c1, x1, y1, p1, p2, p3, p4, p5, p6, p7, p8, rfl⟩ | ⟨c1, rfl⟩ <;> rcases h2 with ⟨c2, x2, y2, r1, r2, r3, r4, r5, r6, r7, r8, rfl⟩ | ⟨c2, rfl⟩
  · have n1 := ext_1 p1 r2 p3 p4 r4
    have n2 := ext_1 r1 p2 r3 r4 p4
    obtain rfl : x2 = x1 := by omega
    have hy : y2 = y1 := by
      rcases Int.lt_trichotomy y1 y2 with h | h | h
      · rcases p8 with h8 | h8
        · omega
        · have := r7 y1 p5 h
          omega
      · exact h.symm
      · rcases r8 with h8 | h8
        · omega
        · have := p7 y2 r5 h
          omega
    rw [hy]
  · exfalso
    rcases c2 with c2 | c2
    · exact c2 c1
    · exact c2 x1 p1 p2 ⟨p3, p4⟩
  · exfalso
    rcases c1 with c1 | c1
    · exact c1 c2
    · exact c1 x2 r1 r2 ⟨r3, r4⟩
  · rfl
theorem kQ_extent {l : Launch} {D : va_G} {ky : Nat → ClassId} {z : Nat} {w : WT} (hl : l.stackTraces = false) {b : Nat} {P : Nat → Prop} {T : Int → Int} {v B : Int → Int → Int} {sc dn : Int} {n : Int} {lo co ct : Int → Int} {nm fl : Int → Int → Int} (hV : VW w ky b P T v B sc dn n lo co ct nm fl) (hI : CI T v B sc dn) {q x : Int} (hq : InR q ∧ InR x) : MtW l D ky z yL_of wsL_of { frames := 8, cells := 2, slots := 12, locals := 135 } [.ref b, .int (iI 2), .int (iI q), .int (iI x)] w (fun r w' => w = w' ∧ ∃ a : Int, r = some (.int (iI a)) ∧ REX q x v B a) := by
  obtain ⟨g, t, ar, d, ac, ab, la, na, fa, hW, hD, rfl⟩ := id hV
  refine MtW.mono (kL_of_extent hl (kX4_extent hl hW hI hq) hV.obj (fun r w1 h => ?_) (fun E h => ?_)) (fun r w1 h => ?_)
  · obtain ⟨x1, y1, -, -, -, -, -, -, -, -, -, -, h⟩ := h
    exact ⟨_, h⟩
  · exact h.1
  · rcases h with h | ⟨rfl, rfl, E, h⟩
    · obtain ⟨x1, y1, rfl, e1, e2, e3, e4, e5, e6, e7, e8, e9, rfl⟩ := h
      exact ⟨rfl, _, rfl, Or.inl ⟨e9, x1, y1, e1, e2, e3, e4, e5, e6, e7, e8, rfl⟩⟩
    · exact ⟨rfl, _, rfl, Or.inr ⟨h.2.imp id And.right, rfl⟩⟩
