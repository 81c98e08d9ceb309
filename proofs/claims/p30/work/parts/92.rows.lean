/-! rows of the law: the script, equal answers, calls of the law's own methods -/
def scS (xs : Nat → Int32) (i : Int) : Int := (xs i.toNat).toInt
theorem scS_R (xs : Nat → Int32) (i : Int) : InR (scS xs i) := ⟨by have := Int32.le_toInt (xs i.toNat); unfold scS; omega, by have := Int32.toInt_lt (xs i.toNat); unfold scS; omega⟩
theorem iI_and30 (x : Int32) : ∃ k : Int, 0 ≤ k ∧ k ≤ 1073741823 ∧ x &&& iI 1073741823 = iI k := by
  have h0 : (iI 1073741823).toBitVec.toNat = 1073741823 := by decide +kernel
  have h1 : (x &&& iI 1073741823).toBitVec.toNat ≤ 1073741823 := by
    rw [Int32.toBitVec_and, BitVec.toNat_and, h0]
    exact Nat.and_le_right
  have h2 : (x &&& iI 1073741823).toInt = ((x &&& iI 1073741823).toBitVec.toNat : Int) := by
    show (x &&& iI 1073741823).toBitVec.toInt = _
    rw [BitVec.toInt_eq_toNat_of_lt (by omega)]
  exact ⟨(x &&& iI 1073741823).toInt, by omega, by omega, (Int32.ofInt_toInt _).symm⟩
section GV
variable {p : Program} {l : Launch} {e : Env} {R : Room} {s : State} {m : MethodId} {args : Array Value} {below : List Frame} {meth : Method} {c : Code} {D : va_G} {ky : Nat → ClassId} {z : Nat} {Q : State → Prop} {cells slots : Nat} {w : WT} {pc : Nat} {ls : List (Option Value)} {st : List Value} {cc : ByteArray} {own : String} {Ts : List Cond} {nL : Nat}
theorem gd_sld (C : Cx p l s m args meth c D ky z cc nL Ts own) {b0 L : Nat} {xs : Nat → Int32} (hX : va_X b0 L xs s s.heap) (hbl : b0 < s.heap.size) (hzb : ¬ z ≤ b0) {i v : Int} (hi : 0 ≤ i ∧ i < L) (hL : L ≤ 2048) (hdg : decode cc pc = .ok (.iaload, 1)) (hv : scS xs i = v) (kk : Gd p l e R s m args below meth c D z Q cells slots w (pc + 1) ls (.int (iI v) :: st)) : Gd p l e R s m args below meth c D z Q cells slots w pc ls (.int (iI i) :: .ref b0 :: st) := by
  intro H locs la h1 h2 h3
  obtain ⟨c1, c2⟩ := iI_cl hi.1 hi.2 (by omega)
  refine va_sld C.1.1 C.1.2.1 hX hbl hzb h2 c1 hdg ?_
  have e9 : xs (iI i).toNatClampNeg = iI v := by
    rw [← hv]
    unfold scS
    rw [show (iI i).toNatClampNeg = i.toNat by omega]
    exact (Int32.ofInt_toInt _).symm
  rw [e9]
  exact kk H locs la h1 h2 h3
theorem gd_slen (C : Cx p l s m args meth c D ky z cc nL Ts own) {b0 L : Nat} {xs : Nat → Int32} (hX : va_X b0 L xs s s.heap) (hbl : b0 < s.heap.size) (hzb : ¬ z ≤ b0) (hdg : decode cc pc = .ok (.arraylength, 1)) (kk : Gd p l e R s m args below meth c D z Q cells slots w (pc + 1) ls (.int (iI (L : Int)) :: st)) : Gd p l e R s m args below meth c D z Q cells slots w pc ls (.ref b0 :: st) := by
  intro H locs la h1 h2 h3
  refine va_slen C.1.1 C.1.2.1 hX hbl hzb h2 hdg ?_
  have h9 := kk H locs la h1 h2 h3
  rw [iI_n] at h9
  exact h9
theorem gd_and30 (C : Cx p l s m args meth c D ky z cc nL Ts own) {x : Int32} (hdg : decode cc pc = .ok (.iand, 1)) (kk : ∀ k : Int, 0 ≤ k → k ≤ 1073741823 → Gd p l e R s m args below meth c D z Q cells slots w (pc + 1) ls (.int (iI k) :: st)) : Gd p l e R s m args below meth c D z Q cells slots w pc ls (.int (iI 1073741823) :: .int x :: st) := by
  intro H locs la h1 h2 h3
  obtain ⟨k, k1, k2, k3⟩ := iI_and30 x
  refine lv_iand C.1.1 C.1.2.1 hdg ?_
  rw [k3]
  exact kk k k1 k2 H locs la h1 h2 h3
theorem gd_ldc (C : Cx p l s m args meth c D ky z cc nL Ts own) {index : Nat} {v : Int} (hk : Cond.constant own index (iI v) ∈ Ts) (hdg : decode cc pc = .ok (.ldc index, 2)) (kk : Gd p l e R s m args below meth c D z Q cells slots w (pc + 2) ls (.int (iI v) :: st)) : Gd p l e R s m args below meth c D z Q cells slots w pc ls st :=
  fun H locs la h1 h2 h3 => lv_ldc C.1.1 C.1.2.1 C.1.2.2.2.1 (C.1.2.2.2.2 _ hk) hdg (kk H locs la h1 h2 h3)
theorem gd_icmp_neE (C : Cx p l s m args meth c D ky z cc nL Ts own) {x : Int32} {off : Int} {tgt : Nat} (hdg : decode cc pc = .ok (.if_icmp .ne off, 3)) (ht : (pc : Int) + off = (tgt : Int)) (kk : Gd p l e R s m args below meth c D z Q cells slots w (pc + 3) ls st) : Gd p l e R s m args below meth c D z Q cells slots w pc ls (.int x :: .int x :: st) :=
  fun H locs la h1 h2 h3 => lv_icmp_ne C.1.1 C.1.2.1 hdg ht (fun q => absurd rfl q) (fun _ => kk H locs la h1 h2 h3)
variable {b ci index maxL n N : Nat} {As rest st0 : List Value} {y : MethodName} {ws ws' : List Cond} {rm : Room} {bytes : ByteArray} {ret : Option FieldType} {Post : Option Value → WT → Prop} {hh : List (Nat × Nat × Nat × Nat)}
theorem gd_callSW (C : Cx p l s m args meth c D ky z cc nL Ts own) (hNC : NC3 s) (hM : MtW l D ky z y ws rm As w Post) (hG : GoodIn Ts (va_wsS own index y ws)) (hw : ws = .codeWith y bytes maxL ret hh :: ws')
    (hd : y.cls ≠ "java/lang/invoke/MethodHandle" ∧ y.cls ≠ "java/lang/invoke/VarHandle" ∧ (parseMethodDescriptor y.desc).map (fun d => d.parameters.length) = some n) (hn : As.length = n) (hst : st0 = As.reverse ++ rest) (hcat : (rest.map fun v => v.category).sum ≤ 8) (hL : ls.length = nL) (hdg : decode cc pc = .ok (.invokestatic index, 3))
    (hR : (rm.frames + 1 ≤ R.frames ∧ 8 + (maxL + 11) + rm.locals ≤ R.locals) ∧ cells + rm.cells ≤ R.cells ∧ slots + rm.slots ≤ R.slots)
    (kk : ∀ (r : Option Value) (w' : WT), Post r w' → Gd p l e R s m args below meth c D z Q (cells + rm.cells) (slots + rm.slots) w' (pc + 3) ls (r.toList ++ rest)) : Gd p l e R s m args below meth c D z Q cells slots w pc ls st0 := by
  refine gd_run (XP := fun _ => False) (a := As.toArray) (fun H locs la h1 h2 h3 => ?_) (fun _ h => h.elim) kk
  subst hst
  exact vx_runSX C.1 hM (vx_cwSW n C.1.2.2.2.2 hG hw rfl rfl hd hR.1) ⟨fun a U g mk h => ⟨mP_blind a U g mk h.1, h.2.moved (Vm.Alike.refl U.vm)⟩, fun U hU hW => ⟨mP_at C h1 h2 _ U hU hW, hNC.moved hW.alike⟩⟩ rfl hn (h3.1.trans hL) rfl (lv_room hcat) hdg hR.2
theorem gd_callIA (C : Cx p l s m args meth c D ky z cc nL Ts own) (hO : va_AO "Buddyfield$Content" s) (hM : MtA l D ky z y ws rm (.ref b :: As) w Post) (hG : GoodIn Ts ws) (hw : ws = .code y bytes maxL none :: ws') (hnm : y.name = "<init>")
    (hl : Cond.methodLink own index y ∈ Ts) (hini : Cond.initialized y.cls ∈ Ts) (hi : Cond.instanceMethod y ∈ Ts)
    (hd : y.cls ≠ "java/lang/invoke/MethodHandle" ∧ y.cls ≠ "java/lang/invoke/VarHandle" ∧ (parseMethodDescriptor y.desc).map (fun d => d.parameters.length) = some n) (hn : As.length = n) (hst : st0 = As.reverse ++ .ref b :: rest) (hcat : (rest.map fun v => v.category).sum ≤ 8) (hL : ls.length = nL) (hdg : decode cc pc = .ok (.invokespecial index, 3))
    (hR : (rm.frames + 1 ≤ R.frames ∧ 8 + (maxL + 11) + rm.locals ≤ R.locals) ∧ cells + rm.cells ≤ R.cells ∧ slots + rm.slots ≤ R.slots)
    (kk : ∀ (r : Option Value) (w' : WT), Post r w' → Gd p l e R s m args below meth c D z Q (cells + rm.cells) (slots + rm.slots) w' (pc + 3) ls (r.toList ++ rest)) : Gd p l e R s m args below meth c D z Q cells slots w pc ls st0 := by
  refine gd_run (XP := fun _ => False) (a := (Value.ref b :: As).toArray) (fun H locs la h1 h2 h3 => ?_) (fun _ h => h.elim) kk
  subst hst
  exact vx_runI C.1 hM (cwI n C.1.2.2.2.2 hG hw rfl rfl (C.1.2.2.2.2 _ hini) (C.1.2.2.2.2 _ hl) (C.1.2.2.2.2 _ hi) hnm hd hR.1) ⟨fun a U g mk h => ⟨mP_blind a U g mk h.1, h.2.moved (Vm.Alike.refl U.vm)⟩, fun U hU hW => ⟨mP_at C h1 h2 _ U hU hW, hO.moved hW.alike⟩⟩ rfl hn (h3.1.trans hL) rfl (lv_room hcat) hdg hR.2
theorem gd_callSC (C : Cx p l s m args meth c D ky z cc nL Ts own) (hNC : NC3 s) (hM : MtW l D ky z y ws rm As w Post) (hG : GoodIn Ts (va_wsS own index y ws)) (hw : ws = .code y bytes maxL ret :: ws')
    (hd : y.cls ≠ "java/lang/invoke/MethodHandle" ∧ y.cls ≠ "java/lang/invoke/VarHandle" ∧ (parseMethodDescriptor y.desc).map (fun d => d.parameters.length) = some n) (hn : As.length = n) (hst : st0 = As.reverse ++ rest) (hcat : (rest.map fun v => v.category).sum ≤ 8) (hL : ls.length = nL) (hdg : decode cc pc = .ok (.invokestatic index, 3))
    (hR : (rm.frames + 1 ≤ R.frames ∧ 8 + (maxL + 11) + rm.locals ≤ R.locals) ∧ cells + rm.cells ≤ R.cells ∧ slots + rm.slots ≤ R.slots)
    (kk : ∀ (r : Option Value) (w' : WT), Post r w' → Gd p l e R s m args below meth c D z Q (cells + rm.cells) (slots + rm.slots) w' (pc + 3) ls (r.toList ++ rest)) : Gd p l e R s m args below meth c D z Q cells slots w pc ls st0 := by
  refine gd_run (XP := fun _ => False) (a := As.toArray) (fun H locs la h1 h2 h3 => ?_) (fun _ h => h.elim) kk
  subst hst
  exact vx_runS C.1 hM (va_cwS n C.1.2.2.2.2 hG hw rfl rfl hd hR.1) ⟨fun a U g mk h => ⟨mP_blind a U g mk h.1, h.2.moved (Vm.Alike.refl U.vm)⟩, fun U hU hW => ⟨mP_at C h1 h2 _ U hU hW, hNC.moved hW.alike⟩⟩ rfl hn (h3.1.trans hL) rfl (lv_room hcat) hdg hR.2
def MtX (l : Launch) (D : va_G) (ky : Nat → ClassId) (z : Nat) (b0 L : Nat) (xs : Nat → Int32) (y : MethodName) (ws : List Cond) (rm : Room) (as : List Value) (w : WT) (Post : Option Value → WT → Prop) : Prop :=
  vx_Met l y ws rm (fun v U => mP D ky z as w v U ∧ va_X b0 L xs U U.heap ∧ b0 < U.heap.size) (mQ D z Post) (mX D z w (fun _ => False)) rm.cells rm.slots (fun q => z ≤ q)
theorem gd_callX (C : Cx p l s m args meth c D ky z cc nL Ts own) {b0 L : Nat} {xs : Nat → Int32} (hX : va_X b0 L xs s s.heap) (hbl : b0 < s.heap.size) (hzb : ¬ z ≤ b0) (hM : MtX l D ky z b0 L xs y ws rm As w Post) (hG : GoodIn Ts (va_wsS own index y ws)) (hw : ws = .code y bytes maxL ret :: ws')
    (hd : y.cls ≠ "java/lang/invoke/MethodHandle" ∧ y.cls ≠ "java/lang/invoke/VarHandle" ∧ (parseMethodDescriptor y.desc).map (fun d => d.parameters.length) = some n) (hn : As.length = n) (hst : st0 = As.reverse ++ rest) (hcat : (rest.map fun v => v.category).sum ≤ 8) (hL : ls.length = nL) (hdg : decode cc pc = .ok (.invokestatic index, 3))
    (hR : (rm.frames + 1 ≤ R.frames ∧ 8 + (maxL + 11) + rm.locals ≤ R.locals) ∧ cells + rm.cells ≤ R.cells ∧ slots + rm.slots ≤ R.slots)
    (kk : ∀ (r : Option Value) (w' : WT), Post r w' → Gd p l e R s m args below meth c D z Q (cells + rm.cells) (slots + rm.slots) w' (pc + 3) ls (r.toList ++ rest)) : Gd p l e R s m args below meth c D z Q cells slots w pc ls st0 := by
  refine gd_run (XP := fun _ => False) (a := As.toArray) (fun H locs la h1 h2 h3 => ?_) (fun _ h => h.elim) kk
  subst hst
  refine vx_runS C.1 hM (va_cwS n C.1.2.2.2.2 hG hw rfl rfl hd hR.1) ⟨fun a U g mk h => ⟨mP_blind a U g mk h.1, h.2.1.moved (Vm.Alike.refl U.vm), h.2.2⟩, fun U hU hW => ⟨mP_at C h1 h2 _ U hU hW, ?_⟩⟩ rfl hn (h3.1.trans hL) rfl (lv_room hcat) hdg hR.2
  have h9 : va_X b0 L xs U U.heap := (hX.moved hW.alike).kept (by rw [hU]; exact h2.2.1 b0 hbl hzb)
  exact ⟨h9, h9.elim (fun scr h => (Array.getElem?_eq_some_iff.mp h.1).1)⟩
end GV
theorem MtW.ofC {l : Launch} {D : va_G} {ky : Nat → ClassId} {z : Nat} {w : WT} {Post : Option Value → WT → Prop} {cc : ByteArray} {ret : Option FieldType} {maxL : Nat} {y : MethodName} {ws ws' : List Cond} {rm : Room} {as : List Value} (hy : plainName y.cls = true) (hw : ws = Cond.code y cc maxL ret :: ws') (hcat : ∀ v ∈ as, v.category = 1) (hn : as.length ≤ maxL)
    (body : ∀ (p : Program) (e : Env) (s : State) (m : MethodId) (args : Array Value) (below : List Frame) (meth : Method) (c : Code), Cx p l s m args meth c D ky z cc maxL ws y.cls → NC3 s → meth.sig.returnType = ret → ∀ Q : State → Prop, Q = vx_MQ below (mQ D z Post) (mX D z w (fun _ => False)) args s rm.cells rm.slots (fun q => z ≤ q) →
      Gd p l e rm s m args below meth c D z Q 0 0 w 0 (as.map some ++ List.replicate (maxL - as.length) none) []) (hl : l.stackTraces = false) : MtW l D ky z y ws rm as w Post := by
  refine vx_ofW (cc := cc) (maxL := maxL) (ret := ret) hy hw ?_
  intro p e s m args below meth c s₁ B hml ht hv
  obtain ⟨⟨rfl, hW, hSB⟩, hO⟩ := hv
  have hts := atoms_spec (ws := ws) B.pre
  have hown : s.vm.findClass y.cls = some m.cls := findClass_of_methodNamed B.named
  have C : Cx p l s m as.toArray meth c D ky z cc maxL ws y.cls := ⟨⟨B.exec, B.bytes, hml, hown, hts⟩, hSB, B.notSynchronized, hl, hW.1⟩
  rw [lg_entry_eq]
  exact body p e s m _ below meth c C hO B.returns _ rfl s.heap [] _ hW va_S.rf (lh_entry as maxL hcat hn)
theorem MtX.of {l : Launch} {D : va_G} {ky : Nat → ClassId} {z : Nat} {w : WT} {Post : Option Value → WT → Prop} {cc : ByteArray} {ret : Option FieldType} {maxL : Nat} {y : MethodName} {ws ws' : List Cond} {rm : Room} {as : List Value} {b0 L : Nat} {xs : Nat → Int32} (hy : plainName y.cls = true) (hw : ws = Cond.code y cc maxL ret :: ws') (hcat : ∀ v ∈ as, v.category = 1) (hn : as.length ≤ maxL)
    (body : ∀ (p : Program) (e : Env) (s : State) (m : MethodId) (args : Array Value) (below : List Frame) (meth : Method) (c : Code), Cx p l s m args meth c D ky z cc maxL ws y.cls → va_X b0 L xs s s.heap ∧ b0 < s.heap.size → meth.sig.returnType = ret → ∀ Q : State → Prop, Q = vx_MQ below (mQ D z Post) (mX D z w (fun _ => False)) args s rm.cells rm.slots (fun q => z ≤ q) →
      Gd p l e rm s m args below meth c D z Q 0 0 w 0 (as.map some ++ List.replicate (maxL - as.length) none) []) (hl : l.stackTraces = false) : MtX l D ky z b0 L xs y ws rm as w Post := by
  refine vx_ofW (cc := cc) (maxL := maxL) (ret := ret) hy hw ?_
  intro p e s m args below meth c s₁ B hml ht hv
  obtain ⟨⟨rfl, hW, hSB⟩, hO⟩ := hv
  have hts := atoms_spec (ws := ws) B.pre
  have hown : s.vm.findClass y.cls = some m.cls := findClass_of_methodNamed B.named
  have C : Cx p l s m as.toArray meth c D ky z cc maxL ws y.cls := ⟨⟨B.exec, B.bytes, hml, hown, hts⟩, hSB, B.notSynchronized, hl, hW.1⟩
  rw [lg_entry_eq]
  exact body p e s m _ below meth c C hO B.returns _ rfl s.heap [] _ hW va_S.rf (lh_entry as maxL hcat hn)
set_option maxRecDepth 100000 in
theorem kL_drawn {l : Launch} {D : va_G} {ky : Nat → ClassId} {z : Nat} {w : WT} (hl : l.stackTraces = false) {b0 L : Nat} {xs : Nat → Int32} (hzb : ¬ z ≤ b0) (hL8 : L ≤ 2048) {i : Int} (hi : 0 ≤ i ∧ i ≤ 200) : MtX l D ky z b0 L xs yL_drawn wsL_drawn { frames := 0, cells := 0, slots := 0, locals := 0 } [.ref b0, .int (iI i)] w (fun r w' => w = w' ∧ ∃ k : Int, r = some (.int (iI k)) ∧ 0 ≤ k ∧ k ≤ 1073741823) := by
  refine MtX.of (cc := cL_drawn) (ret := (some .int)) (maxL := 3) (by decide) rfl (by intro v hv; simp at hv; rcases hv with rfl | rfl <;> rfl) (Nat.le_of_ble_eq_true rfl) ?_ hl
  intro p e s m args below meth c C hX hret Q hQ
  obtain ⟨hX, hbl⟩ := hX
  have h21 : ∀ x : Int, Gd p l e ({ frames := 0, cells := 0, slots := 0, locals := 0 }) s m args below meth c D z Q 0 0 w 21 [some (.ref b0), some (.int (iI i)), none] [.int (iI x)] := by
    intro x
    refine gd_istore_n C dL_drawn_21 (Nat.le_of_ble_eq_true rfl) ?_
    refine gd_iload_n C dL_drawn_22 rfl ?_
    refine gd_ldc C (v := 1073741823) (by decide +kernel) dL_drawn_23 ?_
    refine gd_and30 C dL_drawn_25 (fun k k1 k2 => ?_)
    refine gd_iret C hQ hret dL_drawn_26 ?_ ?_
    · exact ⟨rfl, k, rfl, k1, k2⟩
    · decide
  refine gd_iload_n C dL_drawn_0 rfl ?_
  refine gd_aload_n C dL_drawn_1 rfl ?_
  refine gd_slen C hX hbl hzb dL_drawn_2 ?_
  refine gd_icmp_ge (tgt := 12) C dL_drawn_3 (by decide) (by omega) (by omega) (fun hc3 => ?_) (fun hc3 => ?_)
  · refine gd_sipush C dL_drawn_12 (by decide) ?_
    refine gd_iload_n C dL_drawn_15 rfl ?_
    refine gd_imul C dL_drawn_16 ?_
    refine gd_sipush C dL_drawn_17 (by decide) ?_
    refine gd_iadd C dL_drawn_20 ?_
    exact h21 _
  · refine gd_aload_n C dL_drawn_6 rfl ?_
    refine gd_iload_n C dL_drawn_7 rfl ?_
    refine gd_sld C hX hbl hzb (by omega) hL8 dL_drawn_8 rfl ?_
    refine gd_goto (tgt := 21) C dL_drawn_9 (by decide) ?_
    exact h21 _
