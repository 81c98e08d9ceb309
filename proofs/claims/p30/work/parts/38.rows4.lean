/-! a row of contents made, a content put into it -/
section GK
variable {p : Program} {l : Launch} {e : Env} {R : Room} {s : State} {m : MethodId} {args : Array Value} {below : List Frame} {meth : Method} {c : Code} {D : va_G} {ky : Nat → ClassId} {z : Nat} {Q : State → Prop} {cells slots : Nat} {w : WT} {pc : Nat} {ls : List (Option Value)} {st : List Value} {cc : ByteArray} {own : String} {Ts : List Cond} {nL : Nat}
theorem gd_newA (C : Cx p l s m args meth c D ky z cc nL Ts own) {index N : Nat} {n : Int} (g1 : Cond.classLink own index "Buddyfield$Content" ∈ Ts) (hover : va_AO "Buddyfield$Content" s) (hdg : decode cc pc = .ok (.anewarray index, 3)) (hn : n = N ∧ N ≤ 100000) (hR : cells + 1 ≤ R.cells ∧ slots + N ≤ R.slots)
    (kk : ∀ q : Nat, w q = none → Gd p l e R s m args below meth c D z Q (cells + 1) (slots + N) (wU w q (rA (ky 2) N (fun _ => none))) (pc + 3) ls (.ref q :: st)) : Gd p l e R s m args below meth c D z Q cells slots w pc ls (.int (iI n) :: st) := by
  intro H locs la h1 h2 h3
  obtain ⟨rfl, hn2⟩ := hn
  have hN : (iI (N : Int)).toNatClampNeg = N := by rw [iI_n]; exact nI_clamp (by omega)
  refine W.anew C.1.1 C.1.2.1 C.1.2.2.2.1 (C.1.2.2.2.2 _ g1) (va_AO.use hover) rfl hdg rfl (by rw [iI_n]; exact nI_pos (by omega)) (by rw [hN]; omega) hR.1 (by rw [hN]; exact hR.2) fun cA kA comp f1 f2 f3 f4 => ?_
  rw [hN]
  generalize hH1 : H.push ({ cls := cA, slots := Array.replicate N .null, vm := .none } : Cell) = H1
  have z1 : H1.size = H.size + 1 := by rw [← hH1, Array.size_push]
  have e1 : H1[H.size]? = some (arrV cA N (fun _ => .null)) := by rw [← hH1, Array.getElem?_push_size, ← arrV_new]
  have o1 : ∀ q : Nat, q < H.size → H1[q]? = H[q]? := fun q hq => by rw [← hH1, Array.getElem?_push, if_neg (Nat.ne_of_lt hq)]
  obtain ⟨kA2, comp2, b1, b2, b3, b4⟩ := (C.2.1.1.2 2 _ rfl).2
  have hcA : cA = ky 2 := Option.some.inj (f1.symm.trans b4)
  subst hcA
  have hno : w H.size = none := by
    cases hx : w H.size with
    | none => rfl
    | some x => exact absurd (h1.lt hx) (Nat.lt_irrefl _)
  refine kk H.size hno H1 locs la (h1.put h1.1 ?_ (by omega) (fun q hq _ => o1 q hq)) (h2.grow z1 o1) h3
  show H1[H.size]? = some (vp_cell _ _)
  rw [vp_cell_q]
  exact e1
theorem gd_aast (C : Cx p l s m args meth c D ky z cc nL Ts own) {a n x : Nat} {f : Int → Option Nat} {i : Int} {fs : List Value} (hdg : decode cc pc = .ok (.aastore, 1)) (he : w a = some (rA (ky 2) n f)) (hx : w x = some (oB 0 fs)) (hn : n < 2147483648) (hi : 0 ≤ i ∧ i < n) (kk : Gd p l e R s m args below meth c D z Q cells slots (wU w a (rA (ky 2) n (fU f i (some x)))) (pc + 1) ls st) : Gd p l e R s m args below meth c D z Q cells slots w pc ls (.ref x :: .int (iI i) :: .ref a :: st) := by
  intro H locs la h1 h2 h3
  obtain ⟨c1, c2⟩ := iI_cl hi.1 hi.2 hn
  obtain ⟨hz, hat⟩ := h1.2 a _ he
  obtain ⟨hz2, r', hr', cellV, g1, g2, g3, -⟩ := h1.2 x _ hx
  have hcls := (C.2.1.1.1 0 _ rfl).2
  obtain ⟨kA, comp, k1, k2, k3, -⟩ := (C.2.1.1.2 2 _ rfl).2
  have hcomp : comp = D.1 0 := Option.some.inj (k3.symm.trans hcls.1)
  subst hcomp
  obtain ⟨kC, hkC, -⟩ := hcls.2
  have hlt : (iI i).toNatClampNeg < n := Nat.not_le.mp fun q => c1 (Or.inr q)
  refine W.aast C.1.1 C.1.2.1 hat (fun q h => by cases h) (fun h => by cases h) k1 k2 rfl hkC ⟨fun q => c1 (Or.inl q), by show _ < (arrV _ _ _).slots.size; rw [arrV_size]; exact hlt⟩ g1 (fun q h => by rw [g3] at h; cases h) (by rw [g2]; exact hkC) (by rw [g2]; exact va_assign hcls) rfl rfl hdg fun H1 e1 e2 e3 => ?_
  refine kk H1 _ la (h1.put hz ?_ (Nat.le_of_eq e2.symm) (fun q _ hq => e3 q hq)) (h2.putz e2 e3 hz) h3
  show H1[a]? = some (vp_cell _ _)
  rw [e1]
  rw [vp_cell_q, vp_cell_q, arrV_store]
  congr 2
  funext q
  by_cases hq : q = (iI i).toNatClampNeg
  · subst hq
    rw [c2, fU_s]
    simp [updV, va_rf]
  · rw [fU_n (by omega)]
    simp [updV, hq]
end GK
