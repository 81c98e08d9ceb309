/-! rows of the law's walk -/
def scS (xs : Nat → Int32) (i : Int) : Int := (xs i.toNat).toInt
theorem scS_R (xs : Nat → Int32) (i : Int) : InR (scS xs i) := ⟨by have := Int32.le_toInt (xs i.toNat); unfold scS; omega, by have := Int32.toInt_lt (xs i.toNat); unfold scS; omega⟩
theorem iI_and31 (x : Int32) : ∃ k : Int, 0 ≤ k ∧ k ≤ 31 ∧ x &&& iI 31 = iI k := by
  have h1 : (x &&& iI 31).toBitVec.toNat ≤ 31 := by
    rw [Int32.toBitVec_and, BitVec.toNat_and]
    exact Nat.and_le_right
  have h2 : (x &&& iI 31).toInt = ((x &&& iI 31).toBitVec.toNat : Int) := by
    show (x &&& iI 31).toBitVec.toInt = _
    rw [BitVec.toInt_eq_toNat_of_lt (by omega)]
  exact ⟨(x &&& iI 31).toInt, by omega, by omega, (Int32.ofInt_toInt _).symm⟩
section GV
variable {p : Program} {l : Launch} {e : Env} {R : Room} {s : State} {m : MethodId} {args : Array Value} {below : List Frame} {meth : Method} {c : Code} {D : va_G} {ky : Nat → ClassId} {z : Nat} {Q : State → Prop} {cells slots : Nat} {w : WT} {pc : Nat} {ls : List (Option Value)} {st : List Value} {cc : ByteArray} {own : String} {Ts : List Cond} {nL : Nat}
theorem gd_sld (C : Cx p l s m args meth c D ky z cc nL Ts own) {b0 L : Nat} {xs : Nat → Int32} (hX : va_X b0 L xs s s.heap) (hbl : b0 < s.heap.size) (hzb : ¬ z ≤ b0) {i v : Int} (hi : 0 ≤ i ∧ i < L) (hL : L ≤ 2048) (hdg : decode cc pc = .ok (.iaload, 1)) (hv : scS xs i = v) (kk : Gd p l e R s m args below meth c D z Q cells slots w (pc + 1) ls (.int (iI v) :: st)) : Gd p l e R s m args below meth c D z Q cells slots w pc ls (.int (iI i) :: .ref b0 :: st) := by
  intro H locs la h1 h2 h3
  obtain ⟨c1, c2⟩ := iI_cl hi.1 hi.2 (by omega)
  refine va_sld C.1.1 C.1.2.1 hX hbl hzb h2 c1 hdg ?_
  have e9 : xs (iI i).toNatClampNeg = iI v := by
    rw [← hv]
    unfold scS
    rw [show (iI i).toNatClampNeg = i.toNat by omega]
    exact (Int32.ofInt_toInt _).symm
  rw [e9]
  exact kk H locs la h1 h2 h3
theorem gd_slen (C : Cx p l s m args meth c D ky z cc nL Ts own) {b0 L : Nat} {xs : Nat → Int32} (hX : va_X b0 L xs s s.heap) (hbl : b0 < s.heap.size) (hzb : ¬ z ≤ b0) (hdg : decode cc pc = .ok (.arraylength, 1)) (kk : Gd p l e R s m args below meth c D z Q cells slots w (pc + 1) ls (.int (iI (L : Int)) :: st)) : Gd p l e R s m args below meth c D z Q cells slots w pc ls (.ref b0 :: st) := by
  intro H locs la h1 h2 h3
  refine va_slen C.1.1 C.1.2.1 hX hbl hzb h2 hdg ?_
  have h9 := kk H locs la h1 h2 h3
  rw [iI_n] at h9
  exact h9
theorem gd_and31 (C : Cx p l s m args meth c D ky z cc nL Ts own) {x : Int32} (hdg : decode cc pc = .ok (.iand, 1)) (kk : ∀ k : Int, 0 ≤ k → k ≤ 31 → Gd p l e R s m args below meth c D z Q cells slots w (pc + 1) ls (.int (iI k) :: st)) : Gd p l e R s m args below meth c D z Q cells slots w pc ls (.int (iI 31) :: .int x :: st) := by
  intro H locs la h1 h2 h3
  obtain ⟨k, k1, k2, k3⟩ := iI_and31 x
  refine lv_iand C.1.1 C.1.2.1 hdg ?_
  rw [k3]
  exact kk k k1 k2 H locs la h1 h2 h3
theorem gd_swIn (C : Cx p l s m args meth c D ky z cc nL Ts own) {dflt lo hi : Int} {offs : Array Int} {len : Nat} {k off : Int} {tgt : Nat} (hdg : decode cc pc = .ok (.tableswitch dflt lo hi offs, len)) (hk : InR k ∧ lo ≤ k ∧ k ≤ hi) (ho : offs[(k - lo).toNat]? = some off) (ht : (pc : Int) + off = (tgt : Int)) (kk : Gd p l e R s m args below meth c D z Q cells slots w tgt ls st) : Gd p l e R s m args below meth c D z Q cells slots w pc ls (.int (iI k) :: st) := by
  intro H locs la h1 h2 h3
  have e9 := iI_toInt hk.1
  exact lv_tableIn C.1.1 C.1.2.1 hdg (by rw [e9]; omega) (by rw [e9]; omega) (by rw [e9]; exact ho) ht (kk H locs la h1 h2 h3)
theorem gd_swOut (C : Cx p l s m args meth c D ky z cc nL Ts own) {dflt lo hi : Int} {offs : Array Int} {len : Nat} {k : Int} {tgt : Nat} (hdg : decode cc pc = .ok (.tableswitch dflt lo hi offs, len)) (hk : InR k ∧ (k < lo ∨ hi < k)) (ht : (pc : Int) + dflt = (tgt : Int)) (kk : Gd p l e R s m args below meth c D z Q cells slots w tgt ls st) : Gd p l e R s m args below meth c D z Q cells slots w pc ls (.int (iI k) :: st) := by
  intro H locs la h1 h2 h3
  have e9 := iI_toInt hk.1
  exact lv_tableOut C.1.1 C.1.2.1 hdg (by rw [e9]; exact hk.2) ht (kk H locs la h1 h2 h3)
theorem gd_dcmpE (C : Cx p l s m args meth c D ky z cc nL Ts own) {x : UInt64} {op : CmpOp} (hdg : decode cc pc = .ok (.dcmp op, 1)) (hx : Op.cmpValue (FP.dcmp x x) op = iI 0) (kk : Gd p l e R s m args below meth c D z Q cells slots w (pc + 1) ls (.int (iI 0) :: st)) : Gd p l e R s m args below meth c D z Q cells slots w pc ls (.double x :: .double x :: st) := by
  intro H locs la h1 h2 h3
  refine lv_dcmp C.1.1 C.1.2.1 hdg ?_
  rw [hx]
  exact kk H locs la h1 h2 h3
variable {b ci index maxL n N : Nat} {As rest st0 : List Value} {y : MethodName} {ws ws' : List Cond} {rm : Room} {bytes : ByteArray} {ret : Option FieldType} {Post : Option Value → WT → Prop} {hh : List (Nat × Nat × Nat × Nat)}
theorem gd_callSW (C : Cx p l s m args meth c D ky z cc nL Ts own) (hNC : NC3 s) (hM : MtW l D ky z y ws rm As w Post) (hG : GoodIn Ts (va_wsS own index y ws)) (hw : ws = .codeWith y bytes maxL ret hh :: ws')
    (hd : y.cls ≠ "java/lang/invoke/MethodHandle" ∧ y.cls ≠ "java/lang/invoke/VarHandle" ∧ (parseMethodDescriptor y.desc).map (fun d => d.parameters.length) = some n) (hn : As.length = n) (hst : st0 = As.reverse ++ rest) (hcat : (rest.map fun v => v.category).sum ≤ 8) (hL : ls.length = nL) (hdg : decode cc pc = .ok (.invokestatic index, 3))
    (hR : (rm.frames + 1 ≤ R.frames ∧ 8 + (maxL + 11) + rm.locals ≤ R.locals) ∧ cells + rm.cells ≤ R.cells ∧ slots + rm.slots ≤ R.slots)
    (kk : ∀ (r : Option Value) (w' : WT), Post r w' → Gd p l e R s m args below meth c D z Q (cells + rm.cells) (slots + rm.slots) w' (pc + 3) ls (r.toList ++ rest)) : Gd p l e R s m args below meth c D z Q cells slots w pc ls st0 := by
  refine gd_run (XP := fun _ => False) (a := As.toArray) (fun H locs la h1 h2 h3 => ?_) (fun _ h => h.elim) kk
  subst hst
  exact vx_runSX C.1 hM (vx_cwSW n C.1.2.2.2.2 hG hw rfl rfl hd hR.1) ⟨fun a U g mk h => ⟨mP_blind a U g mk h.1, h.2.moved (Vm.Alike.refl U.vm)⟩, fun U hU hW => ⟨mP_at C h1 h2 _ U hU hW, hNC.moved hW.alike⟩⟩ rfl hn (h3.1.trans hL) rfl (lv_room hcat) hdg hR.2
theorem gd_callIA (C : Cx p l s m args meth c D ky z cc nL Ts own) (hO : va_AO "Buddyfield$Content" s) (hM : MtA l D ky z y ws rm (.ref b :: As) w Post) (hG : GoodIn Ts ws) (hw : ws = .code y bytes maxL none :: ws') (hnm : y.name = "<init>")
    (hl : Cond.methodLink own index y ∈ Ts) (hini : Cond.initialized y.cls ∈ Ts) (hi : Cond.instanceMethod y ∈ Ts)
    (hd : y.cls ≠ "java/lang/invoke/MethodHandle" ∧ y.cls ≠ "java/lang/invoke/VarHandle" ∧ (parseMethodDescriptor y.desc).map (fun d => d.parameters.length) = some n) (hn : As.length = n) (hst : st0 = As.reverse ++ .ref b :: rest) (hcat : (rest.map fun v => v.category).sum ≤ 8) (hL : ls.length = nL) (hdg : decode cc pc = .ok (.invokespecial index, 3))
    (hR : (rm.frames + 1 ≤ R.frames ∧ 8 + (maxL + 11) + rm.locals ≤ R.locals) ∧ cells + rm.cells ≤ R.cells ∧ slots + rm.slots ≤ R.slots)
    (kk : ∀ (r : Option Value) (w' : WT), Post r w' → Gd p l e R s m args below meth c D z Q (cells + rm.cells) (slots + rm.slots) w' (pc + 3) ls (r.toList ++ rest)) : Gd p l e R s m args below meth c D z Q cells slots w pc ls st0 := by
  refine gd_run (XP := fun _ => False) (a := (Value.ref b :: As).toArray) (fun H locs la h1 h2 h3 => ?_) (fun _ h => h.elim) kk
  subst hst
  exact vx_runI C.1 hM (cwI n C.1.2.2.2.2 hG hw rfl rfl (C.1.2.2.2.2 _ hini) (C.1.2.2.2.2 _ hl) (C.1.2.2.2.2 _ hi) hnm hd hR.1) ⟨fun a U g mk h => ⟨mP_blind a U g mk h.1, h.2.moved (Vm.Alike.refl U.vm)⟩, fun U hU hW => ⟨mP_at C h1 h2 _ U hU hW, hO.moved hW.alike⟩⟩ rfl hn (h3.1.trans hL) rfl (lv_room hcat) hdg hR.2
end GV
