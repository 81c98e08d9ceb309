section GN
variable {p : Program} {l : Launch} {e : Env} {R : Room} {s : State} {m : MethodId} {args : Array Value} {below : List Frame} {meth : Method} {c : Code} {D : va_G} {ky : Nat → ClassId} {z : Nat} {Q : State → Prop} {cells slots : Nat} {w : WT} {pc : Nat} {ls : List (Option Value)} {st : List Value} {cc : ByteArray} {own : String} {Ts : List Cond} {nL : Nat}
theorem gd_newL (C : Cx p l s m args meth c D ky z cc nL Ts own) {N : Nat} {n : Int} (g1 : Cond.arrayClass .long ∈ Ts) (hdg : decode cc pc = .ok (.newarray .long, 2)) (hn : n = N ∧ N ≤ 100000) (hR : cells + 1 ≤ R.cells ∧ slots + N ≤ R.slots)
    (kk : ∀ q : Nat, w q = none → Gd p l e R s m args below meth c D z Q (cells + 1) (slots + N) (wU w q (lA (ky 3) N (fun _ => 0))) (pc + 2) ls (.ref q :: st)) : Gd p l e R s m args below meth c D z Q cells slots w pc ls (.int (iI n) :: st) := by
  intro H locs la h1 h2 h3
  obtain ⟨rfl, hn2⟩ := hn
  refine va_newaK C.1.1 C.1.2.1 (atype := .long) (N := N) (C.1.2.2.2.2 _ g1) rfl hdg rfl (by rw [iI_n]; exact nI_pos (by omega)) (by rw [iI_n]; exact nI_clamp (by omega)) (by show N * 8 ≤ _; omega) hR.1 hR.2 rfl fun H1 cA e1 z1 o1 hAr hNm => ?_
  have hcA : cA = ky 3 := Option.some.inj (hNm.symm.trans (C.2.1.1.2 3 _ rfl).2)
  subst hcA
  have hno : w H.size = none := by
    cases hx : w H.size with
    | none => rfl
    | some x => exact absurd (h1.lt hx) (Nat.lt_irrefl _)
  exact kk H.size hno H1 locs la (h1.put h1.1 e1 (by omega) (fun q hq _ => o1 q hq)) (h2.grow z1 o1) h3
theorem gd_newD (C : Cx p l s m args meth c D ky z cc nL Ts own) {N : Nat} {n : Int} (g1 : Cond.arrayClass .double ∈ Ts) (hdg : decode cc pc = .ok (.newarray .double, 2)) (hn : n = N ∧ N ≤ 100000) (hR : cells + 1 ≤ R.cells ∧ slots + N ≤ R.slots)
    (kk : ∀ q : Nat, w q = none → Gd p l e R s m args below meth c D z Q (cells + 1) (slots + N) (wU w q (dA (ky 4) N (fun _ => 0))) (pc + 2) ls (.ref q :: st)) : Gd p l e R s m args below meth c D z Q cells slots w pc ls (.int (iI n) :: st) := by
  intro H locs la h1 h2 h3
  obtain ⟨rfl, hn2⟩ := hn
  refine va_newaK C.1.1 C.1.2.1 (atype := .double) (N := N) (C.1.2.2.2.2 _ g1) rfl hdg rfl (by rw [iI_n]; exact nI_pos (by omega)) (by rw [iI_n]; exact nI_clamp (by omega)) (by show N * 8 ≤ _; omega) hR.1 hR.2 rfl fun H1 cA e1 z1 o1 hAr hNm => ?_
  have hcA : cA = ky 4 := Option.some.inj (hNm.symm.trans (C.2.1.1.2 4 _ rfl).2)
  subst hcA
  have hno : w H.size = none := by
    cases hx : w H.size with
    | none => rfl
    | some x => exact absurd (h1.lt hx) (Nat.lt_irrefl _)
  exact kk H.size hno H1 locs la (h1.put h1.1 e1 (by omega) (fun q hq _ => o1 q hq)) (h2.grow z1 o1) h3
end GN
theorem OW0 : OW (fun _ => 0) v0 B0 := by
  intro k k1 k2
  show (0 : Int) = _
  refine ((sI_congr (g' := fun _ => 0) (fun j _ _ => ?_)).trans (sI_z0 0 16)).symm
  have e1 : cnt (B0 j) k = 0 := by
    unfold cnt
    refine (sI_congr (g' := fun _ => 0) (fun p p1 p2 => ?_)).trans (sI_z0 0 64)
    have e : B0 j p = -1 := by
      unfold B0 tkF
      rw [if_pos ⟨p1, by omega⟩]
    show eqI (B0 j p) k = 0
    rw [e]
    unfold eqI
    rw [if_neg (by omega)]
  have e2 : kI (v0 j) k = 0 := by
    have e6 : v0 j 6 = 0 := fU_n (by decide)
    have e7 : v0 j 7 = 0 := fU_n (by decide)
    unfold kI
    rw [e6, e7, if_neg (by omega)]
  show oC (v0 j) (B0 j) k = 0
  unfold oC
  rw [e1, e2]
  rfl
theorem FS0 : FS (fun _ => 0) v0 B0 (-1) 0 0 := by
  have e : ∀ j k : Int, k ≠ 0 → v0 j k = 0 := fun j k hk => fU_n hk
  refine ⟨CI0, OW0, ?_, Or.inl rfl, fun _ => rfl, fun j _ _ => by rw [e j 3 (by decide)]; exact Int.le_refl 0, Int.le_refl 0⟩
  unfold lF
  rw [sI_z0, show sI (fun j => v0 j 4) 0 16 = 0 from (sI_congr (fun j _ _ => e j 4 (by decide))).trans (sI_z0 0 16)]
  decide
theorem NI0 : NI 1 (fun _ => 0) (fun _ => 0) (fun _ => 0) (fun _ _ => 0) (fun _ _ => 0) := by
  refine ⟨⟨⟨by decide, by decide⟩, fun _ => ⟨Int.le_refl 0, (by decide : (0 : Int) ≤ 15)⟩, fun _ => Or.inl rfl, fun _ => ⟨Int.le_refl 0, (by decide : (0 : Int) ≤ 4)⟩, fun _ _ => ⟨Int.le_refl 0, (by decide : (0 : Int) ≤ 999)⟩, fun _ _ => ⟨Int.le_refl 0, (by decide : (0 : Int) ≤ 15)⟩⟩, rfl, rfl, fun i k h1 h2 => ?_, fun i h1 h2 => ?_, fun i h1 h2 => ?_, fun i k h1 h2 h3 h4 => ?_, fun q i j h1 h2 h3 h4 _ _ => by omega⟩
  · exact absurd (show k + 1 < 0 from h2) (by omega)
  · omega
  · omega
  · exact absurd (show k < 0 from h4) (by omega)
theorem INV0 {F : Nat → Int → Int} {G : Nat → Int} (hR : RF F G (fun _ => 0) v0 B0 (-1) 0) (hL : RLs (F 7) v0) (hN : RNM F G 1 (fun _ => 0) (fun _ => 0) (fun _ => 0) (fun _ _ => 0)) (h9 : F 9 = fun _ => 0) : INV 0 (fun _ => 0) v0 B0 (-1) 0 1 (fun _ => 0) (fun _ => 0) (fun _ => 0) (fun _ _ => 0) (fun _ _ => 0) F G := by
  refine ⟨FS0, hL, hR, NI0, ?_, hN, fun q a b => ?_⟩
  · unfold PT
    rw [show (1 : Int) = 0 + 1 from rfl, sI_s (by decide), sI_0]
    have := mx2_c 0
    dsimp only
    omega
  · rw [h9, dF_no (by decide) (fun i k _ _ k1 k2 => absurd (show k < 0 from k2) (by omega))]
    rfl
