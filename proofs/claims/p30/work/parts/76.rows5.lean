/-! rows of long and double; exceptions caught; contracts of the law's own methods -/
def NC3 (U : State) : Prop := va_Nc "java/lang/IllegalStateException" "java/lang/IllegalArgumentException" U ∧ va_Nc "java/lang/IllegalStateException" "java/lang/IndexOutOfBoundsException" U ∧ va_Nc "java/lang/IllegalArgumentException" "java/lang/IndexOutOfBoundsException" U
theorem NC3.moved {u U : State} (hvm : u.vm.Alike U.vm) (h : NC3 u) : NC3 U := ⟨h.1.moved hvm, h.2.1.moved hvm, h.2.2.moved hvm⟩
section GW
variable {p : Program} {l : Launch} {e : Env} {R : Room} {s : State} {m : MethodId} {args : Array Value} {below : List Frame} {meth : Method} {c : Code} {D : va_G} {ky : Nat → ClassId} {z : Nat} {Q : State → Prop} {cells slots : Nat} {w : WT} {pc : Nat} {ls : List (Option Value)} {st : List Value} {cc : ByteArray} {own : String} {Ts : List Cond} {nL : Nat}
theorem gd_i2l (C : Cx p l s m args meth c D ky z cc nL Ts own) {x : Int32} (hdg : decode cc pc = .ok (.i2l, 1)) (kk : Gd p l e R s m args below meth c D z Q cells slots w (pc + 1) ls (.long x.toInt64 :: st)) : Gd p l e R s m args below meth c D z Q cells slots w pc ls (.int x :: st) :=
  fun H locs la h1 h2 h3 => lv_i2l C.1.1 C.1.2.1 hdg rfl (kk H locs la h1 h2 h3)
theorem gd_f2d (C : Cx p l s m args meth c D ky z cc nL Ts own) {x : UInt32} (hdg : decode cc pc = .ok (.f2d, 1)) (hne : vf_n64 (FP.f2d x)) (kk : Gd p l e R s m args below meth c D z Q cells slots w (pc + 1) ls (.double (FP.f2d x) :: st)) : Gd p l e R s m args below meth c D z Q cells slots w pc ls (.float x :: st) :=
  fun H locs la h1 h2 h3 => lv_f2d C.1.1 C.1.2.1 hdg hne (kk H locs la h1 h2 h3)
theorem gd_lconst (C : Cx p l s m args meth c D ky z cc nL Ts own) {n : Fin 2} (hdg : decode cc pc = .ok (.lconst n, 1)) (kk : Gd p l e R s m args below meth c D z Q cells slots w (pc + 1) ls (.long (Int64.ofNat (n : Nat)) :: st)) : Gd p l e R s m args below meth c D z Q cells slots w pc ls st :=
  fun H locs la h1 h2 h3 => lv_lconst C.1.1 C.1.2.1 hdg rfl (kk H locs la h1 h2 h3)
theorem gd_lcmpE (C : Cx p l s m args meth c D ky z cc nL Ts own) {x : Int64} (hdg : decode cc pc = .ok (.lcmp, 1)) (kk : Gd p l e R s m args below meth c D z Q cells slots w (pc + 1) ls (.int (iI 0) :: st)) : Gd p l e R s m args below meth c D z Q cells slots w pc ls (.long x :: .long x :: st) := by
  intro H locs la h1 h2 h3
  refine W.lcmp C.1.1 C.1.2.1 hdg ?_
  have e : lg_cmp x x = iI 0 := by
    unfold lg_cmp
    simp [Int64.lt_irrefl]
    decide
  rw [e]
  exact kk H locs la h1 h2 h3
/-- an exception of class E comes up here and is caught -/
theorem gx_catch (C : Cx p l s m args meth c D ky z cc nL Ts own) {E name : String} (pre : List ExceptionTableEntry) (x : ExceptionTableEntry) (suf : List ExceptionTableEntry) (hsplit : c.exceptionTable.toList = pre ++ x :: suf)
    (hpass : ∀ z ∈ pre, covers z pc = false ∨ (z.catchType ≠ 0 ∧ ∃ nm : String, Cond.classLink own z.catchType nm ∈ Ts ∧ va_Nc E nm s)) (hx : covers x pc = true) (h0 : x.catchType ≠ 0) (hlink : Cond.classLink own x.catchType name ∈ Ts) (hcast : Cond.castable E name ∈ castWs)
    (kk : ∀ q : Nat, Gd p l e R s m args below meth c D z Q cells slots w x.handlerPc ls [.ref q]) : Gx p l e R s m args below meth c D z Q cells slots w E pc ls st :=
  fun H locs la h1 h2 h3 ce q9 g1 g2 g3 => vx_catch C.1.2.2.2.1 pre x suf hsplit (fun z hz => (hpass z hz).imp id (fun ⟨a, nm, b, d⟩ => ⟨a, nm, C.1.2.2.2.2 _ b, d⟩)) hx h0 (C.1.2.2.2.2 _ hlink) (castW_use (castWs_ok _ hcast) (C.2.1.2.2.1 _ hcast)) g1 g2 g3 (kk q9 H locs la h1 h2 h3)
end GW
def MtW (l : Launch) (D : va_G) (ky : Nat → ClassId) (z : Nat) (y : MethodName) (ws : List Cond) (rm : Room) (as : List Value) (w : WT) (Post : Option Value → WT → Prop) : Prop :=
  vx_Met l y ws rm (fun v U => mP D ky z as w v U ∧ NC3 U) (mQ D z Post) (mX D z w (fun _ => False)) rm.cells rm.slots (fun q => z ≤ q)
theorem MtW.of {l : Launch} {D : va_G} {ky : Nat → ClassId} {z : Nat} {w : WT} {Post : Option Value → WT → Prop} {cc : ByteArray} {ret : Option FieldType} {maxL : Nat} {y : MethodName} {ws ws' : List Cond} {rm : Room} {as : List Value} {hh : List (Nat × Nat × Nat × Nat)} (hy : plainName y.cls = true) (hw : ws = Cond.codeWith y cc maxL ret hh :: ws') (hcat : ∀ v ∈ as, v.category = 1) (hn : as.length ≤ maxL)
    (body : ∀ (p : Program) (e : Env) (s : State) (m : MethodId) (args : Array Value) (below : List Frame) (meth : Method) (c : Code), Cx p l s m args meth c D ky z cc maxL ws y.cls → NC3 s → c.exceptionTable.toList = tableOf hh → meth.sig.returnType = ret → ∀ Q : State → Prop, Q = vx_MQ below (mQ D z Post) (mX D z w (fun _ => False)) args s rm.cells rm.slots (fun q => z ≤ q) →
      Gd p l e rm s m args below meth c D z Q 0 0 w 0 (as.map some ++ List.replicate (maxL - as.length) none) []) (hl : l.stackTraces = false) : MtW l D ky z y ws rm as w Post := by
  refine vx_ofWH (cc := cc) (maxL := maxL) (ret := ret) hy hw ?_
  intro p e s m args below meth c s₁ B hml hv
  obtain ⟨⟨rfl, hW, hSB⟩, hO⟩ := hv
  have hts := atoms_spec (ws := ws) B.pre
  have ht := vx_table (x := y) B (hts _ (by rw [hw]; exact List.mem_cons_self))
  have hown : s.vm.findClass y.cls = some m.cls := findClass_of_methodNamed B.named
  have C : Cx p l s m as.toArray meth c D ky z cc maxL ws y.cls := ⟨⟨B.exec, B.bytes, hml, hown, hts⟩, hSB, B.notSynchronized, hl, hW.1⟩
  rw [lg_entry_eq]
  exact body p e s m _ below meth c C hO ht B.returns _ rfl s.heap [] _ hW va_S.rf (lh_entry as maxL hcat hn)
