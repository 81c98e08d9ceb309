/-! the constructors' worlds -/
def mPA (D : va_G) (ky : Nat → ClassId) (z : Nat) (as : List Value) (w : WT) : Array Value → State → Prop := fun v U => mP D ky z as w v U ∧ va_AO "Buddyfield$Content" U
def MtA (l : Launch) (D : va_G) (ky : Nat → ClassId) (z : Nat) (y : MethodName) (ws : List Cond) (rm : Room) (as : List Value) (w : WT) (Post : Option Value → WT → Prop) : Prop :=
  vx_Met l y ws rm (mPA D ky z as w) (mQ D z Post) (mX D z w (fun _ => False)) rm.cells rm.slots (fun q => z ≤ q)
theorem MtA.of {l : Launch} {D : va_G} {ky : Nat → ClassId} {z : Nat} {w : WT} {Post : Option Value → WT → Prop} {cc : ByteArray} {ret : Option FieldType} {maxL : Nat} {y : MethodName} {ws ws' : List Cond} {rm : Room} {as : List Value} (hy : plainName y.cls = true) (hw : ws = Cond.code y cc maxL ret :: ws') (hcat : ∀ v ∈ as, v.category = 1) (hn : as.length ≤ maxL)
    (body : ∀ (p : Program) (e : Env) (s : State) (m : MethodId) (args : Array Value) (below : List Frame) (meth : Method) (c : Code), Cx p l s m args meth c D ky z cc maxL ws y.cls → va_AO "Buddyfield$Content" s → (∀ x ∈ c.exceptionTable.toList, False) → meth.sig.returnType = ret → meth.name = y.name → ∀ Q : State → Prop, Q = vx_MQ below (mQ D z Post) (mX D z w (fun _ => False)) args s rm.cells rm.slots (fun q => z ≤ q) →
      Gd p l e rm s m args below meth c D z Q 0 0 w 0 (as.map some ++ List.replicate (maxL - as.length) none) []) (hl : l.stackTraces = false) : MtA l D ky z y ws rm as w Post := by
  refine vx_ofW (cc := cc) (maxL := maxL) (ret := ret) hy hw ?_
  intro p e s m args below meth c s₁ B hml ht hv
  obtain ⟨⟨rfl, hW, hSB⟩, hO⟩ := hv
  have hts := atoms_spec (ws := ws) B.pre
  have hown : s.vm.findClass y.cls = some m.cls := findClass_of_methodNamed B.named
  have C : Cx p l s m as.toArray meth c D ky z cc maxL ws y.cls := ⟨⟨B.exec, B.bytes, hml, hown, hts⟩, hSB, B.notSynchronized, hl, hW.1⟩
  rw [lg_entry_eq]
  exact body p e s m _ below meth c C hO ht B.returns (name_of_methodNamed B.named B.method).1 _ rfl s.heap [] _ hW va_S.rf (lh_entry as maxL hcat hn)
theorem DW.keepN {w w' : WT} {ky : Nat → ClassId} {d ar : Nat} {la na fa : Int → Nat} {n : Int} {lo co ct : Int → Int} {nm fl : Int → Int → Int} {k : ClassId} {N : Nat} {f : Int → Option Nat} (hd : DW w ky d la na fa n lo co ct nm fl) (har : w ar = some (rA k N f)) (hF : ∀ y u, w y = some u → y ≠ ar → w' y = some u) : DW w' ky d la na fa n lo co ct nm fl := by
  obtain ⟨h1, h2, h3⟩ := hd
  refine ⟨hF _ _ h1 (kd_ne h1 har), fun i i1 i2 => ?_, h3⟩
  obtain ⟨a1, a2, a3, a4⟩ := h2 i i1 i2
  exact ⟨hF _ _ a1 (kd_ne a1 har), hF _ _ a2 (kdr a2 har), hF _ _ a3 (kdr a3 har), a4⟩
def BW (w0 w : WT) (ky : Nat → ClassId) (b g t ar d q nb fb : Nat) (ac ab : Int → Nat) (i : Int) : Prop :=
  w b = some (oB 4 [.ref g, .ref d, .ref ar, .int (iI (-1)), .int (iI 0)]) ∧ w g = some (cG t 128) ∧ w t = some (iA (ky 1) 128 (fun _ => 0)) ∧ w ar = some (rA (ky 2) 16 (fun j => if 0 ≤ j ∧ j < i then some (ac j) else none)) ∧
  (∀ j, 0 ≤ j → j < i → w (ac j) = some (cC (ab j) (fU (fun _ => 0) 0 j)) ∧ w (ab j) = some (iA (ky 0) 64 (tkF (fun _ => 0) 0 64 (-1)))) ∧
  (∀ k j, 0 ≤ k → k < i → 0 ≤ j → j < i → k ≠ j → ac k ≠ ac j ∧ ab k ≠ ab j) ∧
  DW w ky d (fun _ => q) (fun _ => nb) (fun _ => fb) 1 (fun _ => 0) (fun _ => 0) (fun _ => 0) (fun _ _ => 0) (fun _ _ => 0) ∧ (∀ y u, w0 y = some u → y ≠ b → w y = some u) ∧ (∀ y u, w0 y = some u → y ≠ ar)
theorem BW.s {w0 w w2 : WT} {ky : Nat → ClassId} {b g t ar d q nb fb a a2 : Nat} {ac ab : Int → Nat} {i : Int} {X : va_E} (h : BW w0 w ky b g t ar d q nb fb ac ab i) (hi : 0 ≤ i) (ha : w a = none) (ha2 : wU w a X a2 = none)
    (c1 : w2 a2 = some (iA (ky 0) 64 (tkF (fun _ => 0) 0 64 (-1)))) (c2 : w2 a = some (cC a2 (fU (fun _ => 0) 0 i))) (c3 : ∀ y, y ≠ a → y ≠ a2 → w2 y = wU w a X y) :
    BW w0 (wU w2 ar (rA (ky 2) 16 (fU (fun j => if 0 ≤ j ∧ j < i then some (ac j) else none) i (some a)))) ky b g t ar d q nb fb (fU ac i a) (fU ab i a2) (i + 1) := by
  obtain ⟨hb, hg, ht, har, hj, hd, hD, hF, hz⟩ := h
  have hna : a2 ≠ a := fun e => by rw [e, wU_s] at ha2; cases ha2
  have ha2' : w a2 = none := by rw [wU_n hna] at ha2; exact ha2
  have old : ∀ y u, w y = some u → y ≠ ar → wU w2 ar (rA (ky 2) 16 (fU (fun j => if 0 ≤ j ∧ j < i then some (ac j) else none) i (some a))) y = some u := fun y u hy hy2 => by
    rw [wU_n hy2, c3 y (new_ne ha hy) (new_ne ha2' hy), wU_n (new_ne ha hy)]
    exact hy
  have hara : ar ≠ a := new_ne ha har
  have hara2 : ar ≠ a2 := new_ne ha2' har
  refine ⟨old _ _ hb (kd_ne hb har), old _ _ hg (kd_ne hg har), old _ _ ht (kdr ht har), ?_, fun j j1 j2 => ?_, fun k j k1 k2 j1 j2 hkj => ?_, hD.keepN har old, fun y u hy hyb => old y u (hF y u hy hyb) (hz y u hy), hz⟩
  · rw [wU_s]
    congr 4
    funext j
    unfold fU
    by_cases hji : (j : Int) = i
    · rw [if_pos hji, if_pos (by omega), if_pos hji]
    · rw [if_neg hji]
      dsimp only
      by_cases h9 : 0 ≤ (j : Int) ∧ (j : Int) < i
      · rw [if_pos h9, if_pos (by omega), if_neg hji]
      · rw [if_neg h9, if_neg (by omega)]
  · by_cases hji : j = i
    · subst hji
      rw [fU_s, fU_s, wU_n hara.symm, wU_n hara2.symm]
      exact ⟨c2, c1⟩
    · rw [fU_n hji, fU_n hji]
      obtain ⟨e1, e2⟩ := hj j j1 (by omega)
      exact ⟨old _ _ e1 (kd_ne e1 har), old _ _ e2 (kdr e2 har)⟩
  · by_cases hk : k = i
    · subst hk
      obtain ⟨e1, e2⟩ := hj j j1 (by omega)
      rw [fU_s, fU_s, fU_n (Ne.symm hkj), fU_n (Ne.symm hkj)]
      exact ⟨(new_ne ha e1).symm, (new_ne ha2' e2).symm⟩
    · by_cases hj9 : j = i
      · subst hj9
        obtain ⟨e1, e2⟩ := hj k k1 (by omega)
        rw [fU_s, fU_s, fU_n hk, fU_n hk]
        exact ⟨new_ne ha e1, new_ne ha2' e2⟩
      · rw [fU_n hk, fU_n hk, fU_n hj9, fU_n hj9]
        exact hd k j k1 (by omega) j1 (by omega) hkj
theorem sI_z0 (a b : Int) : sI (fun _ => 0) a b = 0 := by
  unfold sI
  generalize (b - a).toNat = n
  induction n with
  | zero => rfl
  | succ n ih => show sm (fun _ => 0) a n + 0 = 0; rw [ih]; rfl
/-- the class's state at first -/
def v0 : Int → Int → Int := fun j => fU (fun _ => 0) 0 j
def B0 : Int → Int → Int := fun _ => tkF (fun _ => 0) 0 64 (-1)
theorem BW.x {w0 w : WT} {ky : Nat → ClassId} {b g t ar d q nb fb : Nat} {ac ab : Int → Nat} (h : BW w0 w ky b g t ar d q nb fb ac ab 16) : CW w ky b g t ar d ac ab (fun _ => 0) v0 B0 (-1) 0 := by
  obtain ⟨hb, hg, ht, har, hj, hd, hD, hF, hz⟩ := h
  refine ⟨hb, ?_, ht, har, hj, hd⟩
  rw [sI_z0]
  exact hg
theorem rC_0 : rC (tkF (fun _ => 0) 0 64 (-1)) = 0 := by
  unfold rC
  rw [sI_congr (g' := fun _ => 0) (fun j h1 h2 => by show eqI (tkF (fun _ => 0) 0 64 (-1) j) (-2) = 0; unfold tkF; rw [if_pos (by omega)]; rfl)]
  exact sI_z0 _ _
theorem CI0 : CI (fun _ => 0) v0 B0 (-1) 0 := by
  refine ⟨fun _ => Or.inl rfl, fun j h1 h2 => ?_, Or.inl rfl, Or.inl rfl⟩
  have e : ∀ k : Int, k ≠ 0 → v0 j k = 0 := fun k hk => fU_n hk
  refine ⟨fU_s _ _ _, Or.inl (e 2 (by decide)), by rw [e 3 (by decide)]; decide, by rw [e 4 (by decide)]; exact rC_0.symm, by rw [e 5 (by decide)]; decide, by rw [e 6 (by decide), e 7 (by decide)]; decide, Or.inl (e 8 (by decide)), Or.inl (e 9 (by decide)), by rw [e 10 (by decide)]; decide, fun p => ?_⟩
  unfold B0 tkF
  dsimp only
  split <;> omega
