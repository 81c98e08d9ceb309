/-! the class's world: b the object, g the ground, t its row, ar the row of contents, d the directory, ac and ab the contents and their rows; T taken, v the fields of the files, B their places, sc and dn steps to the crash and down -/
def cQ (ac : Int → Nat) : Int → Option Nat := fun j => if 0 ≤ j ∧ j < 16 then some (ac j) else none
def CW (w : WT) (ky : Nat → ClassId) (b g t ar d : Nat) (ac ab : Int → Nat) (T : Int → Int) (v B : Int → Int → Int) (sc dn : Int) : Prop :=
  w b = some (oB 4 [.ref g, .ref d, .ref ar, .int (iI sc), .int (iI dn)]) ∧ w g = some (cG t (128 - sI T 0 128)) ∧ w t = some (iA (ky 1) 128 T) ∧ w ar = some (rA (ky 2) 16 (cQ ac)) ∧
  (∀ j, 0 ≤ j → j < 16 → w (ac j) = some (cC (ab j) (v j)) ∧ w (ab j) = some (iA (ky 0) 64 (B j))) ∧
  (∀ i j, 0 ≤ i → i < 16 → 0 ≤ j → j < 16 → i ≠ j → ac i ≠ ac j ∧ ab i ≠ ab j)
def rC (f : Int → Int) : Int := sI (fun p => eqI (f p) (-2)) 0 64
/-- what holds of a file's fields -/
def FI (j : Int) (u f : Int → Int) : Prop :=
  u 0 = j ∧ (u 2 = 0 ∨ u 2 = 1) ∧ (0 ≤ u 3 ∧ u 3 ≤ 1000000) ∧ u 4 = rC f ∧ (0 ≤ u 5 ∧ u 5 ≤ 64) ∧ (0 ≤ u 6 ∧ 0 ≤ u 7 ∧ u 6 + u 7 ≤ 128) ∧ (u 8 = 0 ∨ u 8 = 1) ∧ (u 9 = 0 ∨ u 9 = 1) ∧ (0 ≤ u 10 ∧ u 10 ≤ 64) ∧ ∀ p, -2 ≤ f p ∧ f p ≤ 127
def CI (T : Int → Int) (v B : Int → Int → Int) (sc dn : Int) : Prop :=
  (∀ i, T i = 0 ∨ T i = 1) ∧ (∀ j, 0 ≤ j → j < 16 → FI j (v j) (B j)) ∧ (sc = -1 ∨ 0 ≤ sc ∧ sc ≤ 50) ∧ (dn = 0 ∨ dn = 1)
def FrC (w w' : WT) (b g t : Nat) (ac ab : Int → Nat) : Prop := ∀ y, y ≠ b → y ≠ g → y ≠ t → (∀ j, 0 ≤ j → j < 16 → y ≠ ac j ∧ y ≠ ab j) → w' y = w y
theorem FrC.rf (w : WT) (b g t : Nat) (ac ab : Int → Nat) : FrC w w b g t ac ab := fun _ _ _ _ _ => rfl
theorem FrC.tr {w w1 w2 : WT} {b g t : Nat} {ac ab : Int → Nat} (h1 : FrC w w1 b g t ac ab) (h2 : FrC w1 w2 b g t ac ab) : FrC w w2 b g t ac ab := fun y a1 a2 a3 a4 => (h2 y a1 a2 a3 a4).trans (h1 y a1 a2 a3 a4)
theorem kda {w : WT} {a b : Nat} {k k' : ClassId} {n n' : Nat} {f f' : Int → Int} (h1 : w a = some (iA k n f)) (h2 : w b = some (iA k' n' f')) (hn : n ≠ n') : a ≠ b := fun e => by
  rw [e, h2] at h1
  have h3 := Option.some.inj h1
  have h4 := Sum.inl.inj h3
  exact hn (congrArg (fun x : ClassId × vp_A => x.2.1) h4).symm
theorem kdr {w : WT} {a b : Nat} {k k' : ClassId} {n n' : Nat} {f : Int → Int} {f' : Int → Option Nat} (h1 : w a = some (iA k n f)) (h2 : w b = some (rA k' n' f')) : a ≠ b := fun e => by
  rw [e, h2] at h1
  have h3 := Option.some.inj h1
  have h4 := Sum.inl.inj h3
  have h5 := congrArg (fun x : ClassId × vp_A => x.2.2) h4
  cases h5
section CWS
variable {w w1 : WT} {ky : Nat → ClassId} {b g t ar d : Nat} {ac ab : Int → Nat} {T : Int → Int} {v B : Int → Int → Int} {sc dn : Int}
theorem CW.setF (h : CW w ky b g t ar d ac ab T v B sc dn) {j : Int} (hj : 0 ≤ j ∧ j < 16) {V F : Int → Int} (c1 : w1 (ab j) = some (iA (ky 0) 64 F)) (c2 : w1 (ac j) = some (cC (ab j) V)) (c3 : ∀ y, y ≠ ab j → y ≠ ac j → w1 y = w y) :
    CW w1 ky b g t ar d ac ab T (fU v j V) (fU B j F) sc dn ∧ FrC w w1 b g t ac ab := by
  obtain ⟨h1, h2, h3, h4, h5, h6⟩ := h
  obtain ⟨f1, f2⟩ := h5 j hj.1 hj.2
  refine ⟨⟨(c3 b (kd_ne h1 f2) (kd2 h1 f1 (by decide))).trans h1, (c3 g (kd_ne h2 f2) (kd2 h2 f1 (by decide))).trans h2, (c3 t (kda h3 f2 (by decide)) (kd_ne f1 h3).symm).trans h3, (c3 ar (kdr f2 h4).symm (kd_ne f1 h4).symm).trans h4, fun i i1 i2 => ?_, h6⟩, fun y a1 a2 a3 a4 => c3 y (a4 j hj.1 hj.2).2 (a4 j hj.1 hj.2).1⟩
  by_cases hij : i = j
  · subst hij
    rw [fU_s, fU_s]
    exact ⟨c2, c1⟩
  · obtain ⟨g1, g2⟩ := h5 i i1 i2
    have hd := h6 i j i1 i2 hj.1 hj.2 hij
    rw [fU_n hij, fU_n hij, c3 _ (kd_ne g1 f2) hd.1, c3 _ hd.2 (kd_ne f1 g2).symm]
    exact ⟨g1, g2⟩
theorem CW.setV (h : CW w ky b g t ar d ac ab T v B sc dn) {j : Int} (hj : 0 ≤ j ∧ j < 16) {V : Int → Int} (c2 : w1 (ac j) = some (cC (ab j) V)) (c3 : ∀ y, y ≠ ac j → w1 y = w y) :
    CW w1 ky b g t ar d ac ab T (fU v j V) B sc dn ∧ FrC w w1 b g t ac ab := by
  obtain ⟨h1, h2, h3, h4, h5, h6⟩ := id h
  obtain ⟨f1, f2⟩ := h5 j hj.1 hj.2
  have := h.setF hj (V := V) (F := B j) ((c3 _ (kd_ne f1 f2).symm).trans f2) c2 (fun y _ h => c3 y h)
  rwa [fU_id] at this
theorem CW.setG (h : CW w ky b g t ar d ac ab T v B sc dn) {T' : Int → Int} {fb : Int} (c1 : w1 t = some (iA (ky 1) 128 T')) (c2 : w1 g = some (cG t fb)) (hf : fb = 128 - sI T' 0 128) (c3 : ∀ y, y ≠ t → y ≠ g → w1 y = w y) :
    CW w1 ky b g t ar d ac ab T' v B sc dn ∧ FrC w w1 b g t ac ab := by
  obtain ⟨h1, h2, h3, h4, h5, h6⟩ := h
  rw [hf] at c2
  refine ⟨⟨(c3 b (kd_ne h1 h3) (kd2 h1 h2 (by decide))).trans h1, c2, c1, (c3 ar (kdr h3 h4).symm (kd_ne h2 h4).symm).trans h4, fun i i1 i2 => ?_, h6⟩, fun y a1 a2 a3 a4 => c3 y a3 a2⟩
  obtain ⟨g1, g2⟩ := h5 i i1 i2
  rw [c3 _ (kd_ne g1 h3) (kd2 g1 h2 (by decide)), c3 _ (kda g2 h3 (by decide)) (kd_ne h2 g2).symm]
  exact ⟨g1, g2⟩
theorem CW.setO (h : CW w ky b g t ar d ac ab T v B sc dn) {sc' dn' : Int} (c1 : w1 b = some (oB 4 [.ref g, .ref d, .ref ar, .int (iI sc'), .int (iI dn')])) (c3 : ∀ y, y ≠ b → w1 y = w y) :
    CW w1 ky b g t ar d ac ab T v B sc' dn' ∧ FrC w w1 b g t ac ab := by
  obtain ⟨h1, h2, h3, h4, h5, h6⟩ := h
  refine ⟨⟨c1, (c3 g (kd2 h2 h1 (by decide))).trans h2, (c3 t (kd_ne h1 h3).symm).trans h3, (c3 ar (kd_ne h1 h4).symm).trans h4, fun i i1 i2 => ?_, h6⟩, fun y a1 a2 a3 a4 => c3 y a1⟩
  obtain ⟨g1, g2⟩ := h5 i i1 i2
  rw [c3 _ (kd2 g1 h1 (by decide)), c3 _ (kd_ne h1 g2).symm]
  exact ⟨g1, g2⟩
end CWS
theorem cQ_at {ac : Int → Nat} {j : Int} (h : 0 ≤ j ∧ j < 16) : cQ ac j = some (ac j) := if_pos h
theorem sI_tk {T : Int → Int} {a n x : Int} (ha : 0 ≤ a ∧ 0 ≤ n ∧ a + n ≤ 128) : sI (tkF T a n x) 0 128 = sI T 0 128 - sI T a (a + n) + x * n := by
  rw [sI_cut (g := tkF T a n x) (a := 0) (b := a) (c := 128) (by omega) (by omega), sI_cut (g := tkF T a n x) (a := a) (b := a + n) (c := 128) (by omega) (by omega), sI_cut (g := T) (a := 0) (b := a) (c := 128) (by omega) (by omega), sI_cut (g := T) (a := a) (b := a + n) (c := 128) (by omega) (by omega),
    sI_congr (g := tkF T a n x) (g' := T) (a := 0) (b := a) (fun j h1 h2 => by unfold tkF; rw [if_neg (by omega)]), sI_congr (g := tkF T a n x) (g' := T) (a := a + n) (b := 128) (fun j h1 h2 => by unfold tkF; rw [if_neg (by omega)])]
  have key : ∀ k : Nat, (k : Int) ≤ n → sI (tkF T a n x) a (a + k) = x * k := by
    intro k
    induction k with
    | zero => intro _; simp [sI_0]
    | succ k ih =>
      intro hk
      rw [show a + ((k + 1 : Nat) : Int) = a + k + 1 by omega, sI_s (by omega), ih (by omega)]
      have : tkF T a n x (a + k) = x := by unfold tkF; rw [if_pos (by omega)]
      rw [this, show ((k + 1 : Nat) : Int) = (k : Int) + 1 by omega, Int.mul_add, Int.mul_one]
  have h1 := key n.toNat (by omega)
  rw [show a + (n.toNat : Int) = a + n by omega, show (n.toNat : Int) = n by omega] at h1
  rw [h1]
  omega
theorem tkF_01 {T : Int → Int} {a n x : Int} (hT : ∀ i, T i = 0 ∨ T i = 1) (hx : x = 0 ∨ x = 1) (i : Int) : tkF T a n x i = 0 ∨ tkF T a n x i = 1 := by
  unfold tkF
  split
  · exact hx
  · exact hT i
theorem CI.setT {T T' : Int → Int} {v B : Int → Int → Int} {sc dn : Int} (h : CI T v B sc dn) (hT : ∀ i, T' i = 0 ∨ T' i = 1) : CI T' v B sc dn := ⟨hT, h.2⟩
theorem CI.setF {T : Int → Int} {v B : Int → Int → Int} {sc dn j : Int} {V F : Int → Int} (h : CI T v B sc dn) (hF : FI j V F) : CI T (fU v j V) (fU B j F) sc dn := by
  refine ⟨h.1, fun i h1 h2 => ?_, h.2.2⟩
  by_cases hij : i = j
  · subst hij
    rw [fU_s, fU_s]
    exact hF
  · rw [fU_n hij, fU_n hij]
    exact h.2.1 i h1 h2
theorem CI.setV {T : Int → Int} {v B : Int → Int → Int} {sc dn j : Int} {V : Int → Int} (h : CI T v B sc dn) (hF : FI j V (B j)) : CI T (fU v j V) B sc dn := by
  have := h.setF hF
  rwa [fU_id] at this
theorem FI.km0 {j : Int} {u f : Int → Int} (h : FI j u f) : FI j (fU u 7 0) f := by
  obtain ⟨h0, h2, h3, h4, h5, h6, h8, h9, h10, hp⟩ := h
  unfold FI
  rw [fU_s, fU_n (by decide), fU_n (by decide), fU_n (by decide), fU_n (by decide), fU_n (by decide), fU_n (by decide), fU_n (by decide), fU_n (by decide), fU_n (by decide)]
  exact ⟨h0, h2, h3, h4, h5, by omega, h8, h9, h10, hp⟩
/-- the kept blocks of the first files let go -/
def rlT (v : Int → Int → Int) (T : Int → Int) : Nat → Int → Int
  | 0 => T
  | k + 1 => tkF (rlT v T k) (v k 6) (v k 7) 0
def rlV (v : Int → Int → Int) (i : Int) : Int → Int → Int := fun j => if 0 ≤ j ∧ j < i then fU (v j) 7 0 else v j
theorem rlV_0 (v : Int → Int → Int) : rlV v 0 = v := by funext j; unfold rlV; rw [if_neg (by omega)]
theorem rlV_s {v : Int → Int → Int} {i : Int} (h : 0 ≤ i) : fU (rlV v i) i (fU (v i) 7 0) = rlV v (i + 1) := by
  funext j
  unfold rlV fU
  by_cases hj : j = i
  · subst hj; rw [if_pos rfl, if_pos (by omega)]
  · rw [if_neg hj]; dsimp only
    by_cases h2 : 0 ≤ j ∧ j < i
    · rw [if_pos h2, if_pos (by omega)]
    · rw [if_neg h2, if_neg (by omega)]
theorem rlV_at {v : Int → Int → Int} {i : Int} : rlV v i i = v i := by unfold rlV; rw [if_neg (by omega)]
theorem rlT_s {v : Int → Int → Int} {T : Int → Int} {i : Int} (h : 0 ≤ i) : rlT v T (i + 1).toNat = tkF (rlT v T i.toNat) (v i 6) (v i 7) 0 := by
  rw [show (i + 1).toNat = i.toNat + 1 by omega]
  show tkF (rlT v T i.toNat) (v (i.toNat : Int) 6) (v (i.toNat : Int) 7) 0 = _
  rw [show ((i.toNat : Nat) : Int) = i by omega]
/-- the file with a name, by the leaves; a power of two -/
noncomputable def dF (n : Int) (lo co ct : Int → Int) (nm fl : Int → Int → Int) (q : Int) : Int := if 0 ≤ fF (fun j => nm (lLk n lo co ct nm q) j = q) 0 (ct (lLk n lo co ct nm q)) then fl (lLk n lo co ct nm q) (fF (fun j => nm (lLk n lo co ct nm q) j = q) 0 (ct (lLk n lo co ct nm q))) else -1
theorem dF_bd {n : Int} {lo co ct : Int → Int} {nm fl : Int → Int → Int} (h : DR n lo co ct nm fl) (q : Int) : -1 ≤ dF n lo co ct nm fl q ∧ dF n lo co ct nm fl q ≤ 15 := by
  unfold dF
  have h6 := h.2.2.2.2.2 (lLk n lo co ct nm q) (fF (fun j => nm (lLk n lo co ct nm q) j = q) 0 (ct (lLk n lo co ct nm q)))
  split <;> omega
def p2 (o : Int) : Int := if o = 0 then 1 else if o = 1 then 2 else if o = 2 then 4 else if o = 3 then 8 else if o = 4 then 16 else 32
theorem p2_c (o : Int) : p2 o = 1 ∨ p2 o = 2 ∨ p2 o = 4 ∨ p2 o = 8 ∨ p2 o = 16 ∨ p2 o = 32 := by unfold p2; split <;> (try split) <;> (try split) <;> (try split) <;> (try split) <;> omega
theorem iI_shl1 {o : Int} (h : 0 ≤ o ∧ o ≤ 5) : iI 1 <<< (iI o &&& 31) = iI (p2 o) := by
  rcases (show o = 0 ∨ o = 1 ∨ o = 2 ∨ o = 3 ∨ o = 4 ∨ o = 5 by omega) with rfl | rfl | rfl | rfl | rfl | rfl <;> decide
section GJ
variable {p : Program} {l : Launch} {e : Env} {R : Room} {s : State} {m : MethodId} {args : Array Value} {below : List Frame} {meth : Method} {c : Code} {D : va_G} {ky : Nat → ClassId} {z : Nat} {Q : State → Prop} {cells slots : Nat} {w : WT} {pc : Nat} {ls : List (Option Value)} {st : List Value} {cc : ByteArray} {own : String} {Ts : List Cond} {nL : Nat}
theorem gd_ishl1 (C : Cx p l s m args meth c D ky z cc nL Ts own) {o : Int} (hdg : decode cc pc = .ok (.ishl, 1)) (h : 0 ≤ o ∧ o ≤ 5) (kk : Gd p l e R s m args below meth c D z Q cells slots w (pc + 1) ls (.int (iI (p2 o)) :: st)) : Gd p l e R s m args below meth c D z Q cells slots w pc ls (.int (iI o) :: .int (iI 1) :: st) :=
  fun H locs la h1 h2 h3 => lv_ishl C.1.1 C.1.2.1 hdg (by rw [iI_shl1 h]; exact kk H locs la h1 h2 h3)
end GJ
