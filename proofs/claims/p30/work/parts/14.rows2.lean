/-! writing a content's field -/
theorem cC_set {bl : Nat} {v : Int → Int} {x : Int} (k : Nat) (hk : k < 11) (hk1 : k ≠ 1) : ([.int (iI (v 0)), .ref bl, .int (iI (v 2)), .int (iI (v 3)), .int (iI (v 4)), .int (iI (v 5)), .int (iI (v 6)), .int (iI (v 7)), .int (iI (v 8)), .int (iI (v 9)), .int (iI (v 10))] : List Value).set k (.int (iI x)) =
    [.int (iI (fU v k x 0)), .ref bl, .int (iI (fU v k x 2)), .int (iI (fU v k x 3)), .int (iI (fU v k x 4)), .int (iI (fU v k x 5)), .int (iI (fU v k x 6)), .int (iI (fU v k x 7)), .int (iI (fU v k x 8)), .int (iI (fU v k x 9)), .int (iI (fU v k x 10))] := by
  match k, hk, hk1 with
  | 0, _, _ => rfl
  | 2, _, _ => rfl
  | 3, _, _ => rfl
  | 4, _, _ => rfl
  | 5, _, _ => rfl
  | 6, _, _ => rfl
  | 7, _, _ => rfl
  | 8, _, _ => rfl
  | 9, _, _ => rfl
  | 10, _, _ => rfl
theorem tyX0_k (k : Nat) (hk : k < 11) (hk1 : k ≠ 1) : tyX0 k = .int ∨ tyX0 k = .boolean := by
  match k, hk, hk1 with
  | 0, _, _ => exact Or.inl rfl
  | 2, _, _ => exact Or.inr rfl
  | 3, _, _ => exact Or.inl rfl
  | 4, _, _ => exact Or.inl rfl
  | 5, _, _ => exact Or.inl rfl
  | 6, _, _ => exact Or.inl rfl
  | 7, _, _ => exact Or.inl rfl
  | 8, _, _ => exact Or.inr rfl
  | 9, _, _ => exact Or.inr rfl
  | 10, _, _ => exact Or.inl rfl
theorem TX0_c (k : Nat) (hk : k < 11) : (TX0 k).1 = RX0 := by
  match k, hk with
  | 0, _ => rfl
  | 1, _ => rfl
  | 2, _ => rfl
  | 3, _ => rfl
  | 4, _ => rfl
  | 5, _ => rfl
  | 6, _ => rfl
  | 7, _ => rfl
  | 8, _ => rfl
  | 9, _ => rfl
  | 10, _ => rfl
theorem nar_t {ty : FieldType} {x : Int} (ht : ty = .int ∨ ty = .boolean) (hb : ty = .boolean → x = 0 ∨ x = 1) : narrow ty (.int (iI x)) = .int (iI x) ∧ fits ty (.int (iI x)) = true := by
  rcases ht with rfl | rfl
  · exact ⟨rfl, rfl⟩
  · exact ⟨nar_b (hb rfl), by rcases hb rfl with rfl | rfl <;> decide⟩
section GE
variable {p : Program} {l : Launch} {e : Env} {R : Room} {s : State} {m : MethodId} {args : Array Value} {below : List Frame} {meth : Method} {c : Code} {D : va_G} {ky : Nat → ClassId} {z : Nat} {Q : State → Prop} {cells slots : Nat} {w : WT} {pc : Nat} {ls : List (Option Value)} {st : List Value} {cc : ByteArray} {own : String} {Ts : List Cond} {nL : Nat}
theorem gd_putC (C : Cx p l s m args meth c D ky z cc nL Ts own) {index a bl : Nat} {v : Int → Int} {x : Int} (hin : ∀ y ∈ wsX00, y ∈ Ts) (k : Nat) (ki : Int) (hki : (k : Int) = ki) (hk : k < 11) (hk1 : k ≠ 1) (hlink : Cond.fieldLink own index RX0 (TX0 k).2.1 (TX0 k).2.2.1 ∈ Ts) (hfin : (TX0 k).2.2.2 = false) (hdg : decode cc pc = .ok (.putfield index, 3)) (he : w a = some (cC bl v)) (hbo : tyX0 k = .boolean → x = 0 ∨ x = 1)
    (kk : Gd p l e R s m args below meth c D z Q cells slots (wU w a (cC bl (fU v ki x))) (pc + 3) ls st) : Gd p l e R s m args below meth c D z Q cells slots w pc ls (.int (iI x) :: .ref a :: st) := by
  subst hki
  obtain ⟨n1, n2⟩ := nar_t (tyX0_k k hk hk1) hbo
  refine gd_put (Cn := RX0) (T := TX0) (N := 11) (ref := RX0) C rfl hin tyX0 tyX0_ok nmX0 k hk hlink (TX0_c k hk) hfin hdg he n1 n2 hk ?_
  rw [cC_set k hk hk1]
  exact kk
theorem gd_putCN (C : Cx p l s m args meth c D ky z cc nL Ts own) {host : String} {index a bl : Nat} {v : Int → Int} {x : Int} (hin : ∀ y ∈ wsX00, y ∈ Ts) (k : Nat) (ki : Int) (hki : (k : Int) = ki) (hk : k < 11) (hk1 : k ≠ 1) (hlink : Cond.fieldLinkNest own index RX0 (TX0 k).2.1 (TX0 k).2.2.1 host ∈ nestWs) (hfin : (TX0 k).2.2.2 = false) (hdg : decode cc pc = .ok (.putfield index, 3)) (he : w a = some (cC bl v)) (hbo : tyX0 k = .boolean → x = 0 ∨ x = 1)
    (kk : Gd p l e R s m args below meth c D z Q cells slots (wU w a (cC bl (fU v ki x))) (pc + 3) ls st) : Gd p l e R s m args below meth c D z Q cells slots w pc ls (.int (iI x) :: .ref a :: st) := by
  subst hki
  obtain ⟨n1, n2⟩ := nar_t (tyX0_k k hk hk1) hbo
  refine gd_putN (Cn := RX0) (T := TX0) (N := 11) (ref := RX0) (host := host) C rfl hin tyX0 tyX0_ok nmX0 k hk hlink (TX0_c k hk) hfin hdg he n1 n2 hk ?_
  rw [cC_set k hk hk1]
  exact kk
end GE
