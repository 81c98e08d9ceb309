/-! THE REFERENCE'S WORLD: o the object, A its rows' cells, F what the rows hold, G its numbers (14 leaves, 15 down, 16 crashIn, 17 thrown) -/
def nU {α : Type} (f : Nat → α) (k : Nat) (x : α) : Nat → α := fun j => if j = k then x else f j
theorem nU_s {α : Type} (f : Nat → α) (k : Nat) (x : α) : nU f k x k = x := if_pos rfl
theorem nU_n {α : Type} {f : Nat → α} {i j : Nat} {x : α} (h : j ≠ i) : nU f i x j = f j := if_neg h
abbrev MOl (A : Nat → Nat) (G : Nat → Int) : List Value := [.ref (A 0), .ref (A 1), .ref (A 2), .ref (A 3), .ref (A 4), .ref (A 5), .ref (A 6), .ref (A 7), .ref (A 8), .ref (A 9), .ref (A 10), .ref (A 11), .ref (A 12), .ref (A 13), .int (iI (G 14)), .int (iI (G 15)), .int (iI (G 16)), .int (iI (G 17))]
def MA (ky : Nat → ClassId) : Nat → (Int → Int) → va_E
  | 0, f => iA (ky 1) 128 f
  | 1, f => iA (ky 1) 16 f
  | 2, f => iA (ky 0) 1024 f
  | 3, f => iA (ky 0) 16 f
  | 4, f => iA (ky 0) 16 f
  | 5, f => iA (ky 0) 16 f
  | 6, f => iA (ky 0) 16 f
  | 7, f => iA (ky 0) 16 f
  | 8, f => iA (ky 1) 16 f
  | 9, f => iA (ky 0) 1000 f
  | 10, f => iA (ky 0) 300 f
  | 11, f => iA (ky 1) 300 f
  | 12, f => iA (ky 0) 1200 f
  | _, f => iA (ky 0) 300 f
theorem MA_l (ky : Nat → ClassId) : ∀ (k : Nat) (f : Int → Int), ∃ x : ClassId × vp_A, MA ky k f = .inl x := by
  intro k f
  unfold MA
  split <;> exact ⟨_, rfl⟩
def MW (w : WT) (ky : Nat → ClassId) (o : Nat) (A : Nat → Nat) (F : Nat → Int → Int) (G : Nat → Int) : Prop :=
  w o = some (oB 5 (MOl A G)) ∧ (∀ k, k < 14 → w (A k) = some (MA ky k (F k))) ∧ ∀ i j, i < 14 → j < 14 → i ≠ j → A i ≠ A j
def FrM (w w' : WT) (o : Nat) (A : Nat → Nat) : Prop := ∀ y, y ≠ o → (∀ k, k < 14 → y ≠ A k) → w' y = w y
def MV (w w' : WT) (ky : Nat → ClassId) (o : Nat) (A : Nat → Nat) (F : Nat → Int → Int) (G : Nat → Int) : Prop := MW w' ky o A F G ∧ FrM w w' o A
section MVS
variable {w w1 w2 w' : WT} {ky : Nat → ClassId} {o : Nat} {A : Nat → Nat} {F F' : Nat → Int → Int} {G G' : Nat → Int}
theorem MW.V (h : MW w ky o A F G) : MV w w ky o A F G := ⟨h, fun _ _ _ => rfl⟩
theorem MV.tr (h1 : MV w w1 ky o A F G) (h2 : MV w1 w2 ky o A F' G') : MV w w2 ky o A F' G' := ⟨h2.1, fun y a1 a2 => (h2.2 y a1 a2).trans (h1.2 y a1 a2)⟩
theorem MW.ne (h : MW w ky o A F G) {k : Nat} (hk : k < 14) : o ≠ A k := by
  obtain ⟨x, hx⟩ := MA_l ky k (F k)
  have h2 := h.2.1 k hk
  rw [hx] at h2
  exact kd_ne h.1 h2
theorem MV.setA (h : MV w w1 ky o A F G) {k : Nat} (hk : k < 14) {f : Int → Int} (c1 : w2 (A k) = some (MA ky k f)) (c2 : ∀ y, y ≠ A k → w2 y = w1 y) : MV w w2 ky o A (nU F k f) G := by
  obtain ⟨⟨h1, h2, h3⟩, h4⟩ := h
  refine ⟨⟨(c2 _ (MW.ne ⟨h1, h2, h3⟩ hk)).trans h1, fun j hj => ?_, h3⟩, fun y a1 a2 => (c2 y (a2 k hk)).trans (h4 y a1 a2)⟩
  by_cases hjk : j = k
  · subst hjk
    rw [nU_s]
    exact c1
  · rw [nU_n hjk, c2 _ (h3 j k hj hk hjk)]
    exact h2 j hj
theorem MV.setG (h : MV w w1 ky o A F G) (c1 : w2 o = some (oB 5 (MOl A G'))) (c2 : ∀ y, y ≠ o → w2 y = w1 y) : MV w w2 ky o A F G' := by
  obtain ⟨⟨h1, h2, h3⟩, h4⟩ := h
  exact ⟨⟨c1, fun j hj => (c2 _ (fun e => MW.ne ⟨h1, h2, h3⟩ hj e.symm)).trans (h2 j hj), h3⟩, fun y a1 a2 => (c2 y a1).trans (h4 y a1 a2)⟩
theorem MV.ob (h : MV w w1 ky o A F G) : w1 o = some (oB 5 (MOl A G)) := h.1.1
theorem MV.a0 (h : MV w w1 ky o A F G) : w1 (A 0) = some (iA (ky 1) 128 (F 0)) := h.1.2.1 0 (by decide)
theorem MV.a1 (h : MV w w1 ky o A F G) : w1 (A 1) = some (iA (ky 1) 16 (F 1)) := h.1.2.1 1 (by decide)
theorem MV.a2 (h : MV w w1 ky o A F G) : w1 (A 2) = some (iA (ky 0) 1024 (F 2)) := h.1.2.1 2 (by decide)
theorem MV.a3 (h : MV w w1 ky o A F G) : w1 (A 3) = some (iA (ky 0) 16 (F 3)) := h.1.2.1 3 (by decide)
theorem MV.a4 (h : MV w w1 ky o A F G) : w1 (A 4) = some (iA (ky 0) 16 (F 4)) := h.1.2.1 4 (by decide)
theorem MV.a5 (h : MV w w1 ky o A F G) : w1 (A 5) = some (iA (ky 0) 16 (F 5)) := h.1.2.1 5 (by decide)
theorem MV.a6 (h : MV w w1 ky o A F G) : w1 (A 6) = some (iA (ky 0) 16 (F 6)) := h.1.2.1 6 (by decide)
theorem MV.a7 (h : MV w w1 ky o A F G) : w1 (A 7) = some (iA (ky 0) 16 (F 7)) := h.1.2.1 7 (by decide)
theorem MV.a8 (h : MV w w1 ky o A F G) : w1 (A 8) = some (iA (ky 1) 16 (F 8)) := h.1.2.1 8 (by decide)
theorem MV.a9 (h : MV w w1 ky o A F G) : w1 (A 9) = some (iA (ky 0) 1000 (F 9)) := h.1.2.1 9 (by decide)
theorem MV.a10 (h : MV w w1 ky o A F G) : w1 (A 10) = some (iA (ky 0) 300 (F 10)) := h.1.2.1 10 (by decide)
theorem MV.a11 (h : MV w w1 ky o A F G) : w1 (A 11) = some (iA (ky 1) 300 (F 11)) := h.1.2.1 11 (by decide)
theorem MV.a12 (h : MV w w1 ky o A F G) : w1 (A 12) = some (iA (ky 0) 1200 (F 12)) := h.1.2.1 12 (by decide)
theorem MV.a13 (h : MV w w1 ky o A F G) : w1 (A 13) = some (iA (ky 0) 300 (F 13)) := h.1.2.1 13 (by decide)
end MVS
section GM
variable {p : Program} {l : Launch} {e : Env} {R : Room} {s : State} {m : MethodId} {args : Array Value} {below : List Frame} {meth : Method} {c : Code} {D : va_G} {ky : Nat → ClassId} {z : Nat} {Q : State → Prop} {cells slots : Nat} {w0 w : WT} {pc : Nat} {ls : List (Option Value)} {st : List Value} {cc : ByteArray} {own : String} {Ts : List Cond} {nL : Nat} {o : Nat} {A : Nat → Nat} {F : Nat → Int → Int} {G : Nat → Int}
theorem gm_get (C : Cx p l s m args meth c D ky z cc nL Ts own) (hM : MV w0 w ky o A F G) {index : Nat} (hin : ∀ x ∈ u_ws RX5 TX5 18, x ∈ Ts) (k : Nat) (hk : k < 18) (hlink : Cond.fieldLink own index RX5 (TX5 k).2.1 (TX5 k).2.2.1 ∈ Ts) (hr : (TX5 k).1 = RX5) (hdg : decode cc pc = .ok (.getfield index, 3)) {v : Value} (hv : (MOl A G)[k]? = some v)
    (kk : Gd p l e R s m args below meth c D z Q cells slots w (pc + 3) ls (v :: st)) : Gd p l e R s m args below meth c D z Q cells slots w pc ls (.ref o :: st) :=
  gd_get (ci := 5) (Cn := RX5) (T := TX5) (N := 18) (ref := RX5) C rfl hin k hk hlink hr hdg hM.ob hv kk
theorem gm_put (C : Cx p l s m args meth c D ky z cc nL Ts own) (hM : MV w0 w ky o A F G) {index : Nat} {x : Int} (hin : ∀ x ∈ u_ws RX5 TX5 18, x ∈ Ts) (k : Nat) (hk : k < 18) (hlink : Cond.fieldLink own index RX5 (TX5 k).2.1 (TX5 k).2.2.1 ∈ Ts) (hr : (TX5 k).1 = RX5) (hfin : (TX5 k).2.2.2 = false) (hdg : decode cc pc = .ok (.putfield index, 3)) (hset : (MOl A G).set k (.int (iI x)) = MOl A (nU G k x)) (hn : narrow (tyX5 k) (.int (iI x)) = .int (iI x)) (hfit : fits (tyX5 k) (.int (iI x)) = true)
    (kk : ∀ w1, MV w0 w1 ky o A F (nU G k x) → Gd p l e R s m args below meth c D z Q cells slots w1 (pc + 3) ls st) : Gd p l e R s m args below meth c D z Q cells slots w pc ls (.int (iI x) :: .ref o :: st) := by
  refine gd_put (ci := 5) (Cn := RX5) (T := TX5) (N := 18) (ref := RX5) C rfl hin tyX5 tyX5_ok nmX5 k hk hlink hr hfin hdg hM.ob hn hfit hk (kk _ (hM.setG ?_ (fun y hy => wU_n hy)))
  rw [wU_s, hset]
theorem gm_iast (C : Cx p l s m args meth c D ky z cc nL Ts own) (hM : MV w0 w ky o A F G) {k n : Nat} (hk : k < 14) (hA : ∀ f, MA ky k f = iA (ky 0) n f) {i x : Int} (hdg : decode cc pc = .ok (.iastore, 1)) (hn : n < 2147483648) (hi : 0 ≤ i ∧ i < n)
    (kk : ∀ w1, MV w0 w1 ky o A (nU F k (fU (F k) i x)) G → Gd p l e R s m args below meth c D z Q cells slots w1 (pc + 1) ls st) : Gd p l e R s m args below meth c D z Q cells slots w pc ls (.int (iI x) :: .int (iI i) :: .ref (A k) :: st) := by
  have h := hM.1.2.1 k hk
  rw [hA] at h
  refine gd_iast C hdg h hn hi (kk _ (hM.setA hk ?_ (fun y hy => wU_n hy)))
  rw [wU_s, hA]
theorem gm_zast (C : Cx p l s m args meth c D ky z cc nL Ts own) (hM : MV w0 w ky o A F G) {k n : Nat} (hk : k < 14) (hA : ∀ f, MA ky k f = iA (ky 1) n f) {i x : Int} (hdg : decode cc pc = .ok (.bastore, 1)) (hn : n < 2147483648) (hi : 0 ≤ i ∧ i < n) (hx : x = 0 ∨ x = 1)
    (kk : ∀ w1, MV w0 w1 ky o A (nU F k (fU (F k) i x)) G → Gd p l e R s m args below meth c D z Q cells slots w1 (pc + 1) ls st) : Gd p l e R s m args below meth c D z Q cells slots w pc ls (.int (iI x) :: .int (iI i) :: .ref (A k) :: st) := by
  have h := hM.1.2.1 k hk
  rw [hA] at h
  refine gd_zast C hdg h hn hi hx (kk _ (hM.setA hk ?_ (fun y hy => wU_n hy)))
  rw [wU_s, hA]
end GM
