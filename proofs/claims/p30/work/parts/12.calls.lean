/-! contracts over worlds, and their calls -/
def mP (D : va_G) (ky : Nat → ClassId) (z : Nat) (as : List Value) (w : WT) : Array Value → State → Prop := fun v U => v = as.toArray ∧ Wd D z w U.heap ∧ SB D ky z U
def mQ (D : va_G) (z : Nat) (Post : Option Value → WT → Prop) : Array Value → State → Outcome → State → Prop := fun _ st o t => (∃ (r : Option Value) (w' : WT), o = .returned r ∧ Post r w' ∧ Wd D z w' t.heap) ∧ va_F (fun q => z ≤ q) st t
def mX (D : va_G) (z : Nat) (w : WT) (XP : String → Prop) : String → State → State → Prop := fun E st t => XP E ∧ Wd D z w t.heap ∧ va_F (fun q => z ≤ q) st t
/-- the contract of a method: from the world w, with these arguments, it returns as Post says, or throws a class that XP names, the world as it was -/
def Mt (l : Launch) (D : va_G) (ky : Nat → ClassId) (z : Nat) (y : MethodName) (ws : List Cond) (rm : Room) (as : List Value) (w : WT) (Post : Option Value → WT → Prop) (XP : String → Prop) : Prop :=
  vx_Met l y ws rm (mP D ky z as w) (mQ D z Post) (mX D z w XP) rm.cells rm.slots (fun q => z ≤ q)
theorem mP_blind {D : va_G} {ky : Nat → ClassId} {z : Nat} {as : List Value} {w : WT} : FrameBlind (mP D ky z as w) := fun a U g mk h => ⟨h.1, h.2.1, h.2.2.same rfl rfl⟩
section GC
variable {p : Program} {l : Launch} {e : Env} {R : Room} {s : State} {m : MethodId} {args : Array Value} {below : List Frame} {meth : Method} {c : Code} {D : va_G} {ky : Nat → ClassId} {z : Nat} {Q : State → Prop} {cells slots : Nat} {w : WT} {pc : Nat} {ls : List (Option Value)} {st : List Value} {cc : ByteArray} {own : String} {Ts : List Cond} {nL : Nat}
/-- an exception of class E has come up in this frame -/
def Gx (p : Program) (l : Launch) (e : Env) (R : Room) (s : State) (m : MethodId) (args : Array Value) (below : List Frame) (meth : Method) (c : Code) (D : va_G) (z : Nat) (Q : State → Prop) (cells slots : Nat) (w : WT) (E : String) (pc : Nat) (ls : List (Option Value)) (rest : List Value) : Prop :=
  ∀ (H : Heap) (locs : List Loc) (la : Array Slot), Wd D z w H → va_S (fun q => z ≤ q) s.heap H locs → lh la ls → ∀ (ce : Cell) (q9 : Addr), H[q9]? = some ce → ce.vm = .none → s.vm.findClass E = some ce.cls → vx_W p l e R s m args below meth c H locs cells slots Q (F0 m pc la rest) q9
theorem gx_out (C : Cx p l s m args meth c D ky z cc nL Ts own) {Qc : Array Value → State → Outcome → State → Prop} {XP : String → Prop} {mc ms : Nat} (hQ : Q = vx_MQ below Qc (mX D z w XP) args s mc ms (fun q => z ≤ q)) (ht : ∀ x ∈ c.exceptionTable.toList, False) {E : String} (hx : XP E) (hc : cells ≤ mc) (hs : slots ≤ ms) : Gx p l e R s m args below meth c D z Q cells slots w E pc ls st := by
  subst hQ
  exact fun H locs la h1 h2 h3 ce q9 g1 g2 g3 => vx_out (fun x hx => (ht x hx).elim) C.2.2.1 g1 g2 g3 (fun t ht hA => ⟨hx, by rw [ht]; exact h1, h2.F ht⟩) h2.2.2 hc hs
theorem gd_run {mc ms : Nat} {rest st0 : List Value} {Post : Option Value → WT → Prop} {XP : String → Prop} {a : Array Value} (hr : ∀ (H : Heap) (locs : List Loc) (la : Array Slot), Wd D z w H → va_S (fun q => z ≤ q) s.heap H locs → lh la ls → vx_Run p l e R s m args below meth c H locs cells slots mc ms (F0 m pc la st0) rest (mQ D z Post a) (mX D z w XP) (fun q => z ≤ q))
    (kx : ∀ E, XP E → Gx p l e R s m args below meth c D z Q (cells + mc) (slots + ms) w E pc ls rest) (kk : ∀ (r : Option Value) (w' : WT), Post r w' → Gd p l e R s m args below meth c D z Q (cells + mc) (slots + ms) w' (pc + 3) ls (r.toList ++ rest)) : Gd p l e R s m args below meth c D z Q cells slots w pc ls st0 := by
  intro H locs la h1 h2 h3 T hT X
  rcases hr H locs la h1 h2 h3 T hT X with ⟨v, st₀, t, T', L, h0, X', hL, e1, e2, ⟨⟨r, w', hv, hp, hw⟩, hF⟩, stp⟩ | ⟨q, st₀, t, T', L, E, ce, h0, X', hL, e1, e2, ⟨hxp, hw, hF⟩, hce, hcv, hcl, stp⟩
  · cases hv
    obtain ⟨k1, k2, k3⟩ := vx_keep h0 e1 h2 (fun _ _ h => h) (fun _ h => h) hL hF
    obtain ⟨t2, a1, b1⟩ := kk _ w' hp T'.heap (locs ++ L) la (by rw [e1]; exact hw) k3 h3 T' rfl X'
    exact ⟨t2, stp t2 a1, b1⟩
  · obtain ⟨k1, k2, k3⟩ := vx_keep h0 e1 h2 (fun _ _ h => h) (fun _ h => h) hL hF
    obtain ⟨t2, a1, b1⟩ := kx E hxp T'.heap (locs ++ L) la (by rw [e1]; exact hw) k3 h3 ce q (by rw [e1]; exact hce) hcv hcl T' rfl X'
    exact ⟨t2, stp.trans a1, b1⟩
theorem mP_at (C : Cx p l s m args meth c D ky z cc nL Ts own) {H : Heap} {locs : List Loc} (h1 : Wd D z w H) (h2 : va_S (fun q => z ≤ q) s.heap H locs) (as : List Value) : ∀ U : State, U.heap = H → s.WarmedH U.vm → mP D ky z as w as.toArray U := by
  intro U hU hW
  refine ⟨rfl, by rw [hU]; exact h1, C.2.1.warm hW C.2.2.2.2 (fun q a b => by rw [hU]; exact h2.2.1 q a b)⟩
variable {b ci index maxL n N : Nat} {As rest st0 : List Value} {y : MethodName} {ws ws' : List Cond} {rm : Room} {bytes : ByteArray} {ret : Option FieldType} {Cn host : String} {T : u_T} {Post : Option Value → WT → Prop} {XP : String → Prop}
theorem gd_callV (C : Cx p l s m args meth c D ky z cc nL Ts own) (hM : Mt l D ky z y ws rm (.ref b :: As) w Post XP) (hb : ∃ fs, w b = some (oB ci fs)) (hc : vwCl[ci]? = some (Cn, T, N)) (hG : GoodIn Ts (wsV own index Cn y ws)) (hw : ws = .code y bytes maxL ret :: ws')
    (hd : y.cls = Cn ∧ y.cls ≠ "java/lang/invoke/MethodHandle" ∧ y.cls ≠ "java/lang/invoke/VarHandle" ∧ (parseMethodDescriptor y.desc).map (fun d => d.parameters.length) = some n) (hn : As.length = n) (hst : st0 = As.reverse ++ .ref b :: rest) (hcat : (rest.map fun v => v.category).sum ≤ 8) (hL : ls.length = nL) (hdg : decode cc pc = .ok (.invokevirtual index, 3))
    (hR : (rm.frames + 1 ≤ R.frames ∧ 8 + (maxL + 11) + rm.locals ≤ R.locals) ∧ cells + rm.cells ≤ R.cells ∧ slots + rm.slots ≤ R.slots)
    (kx : ∀ E, XP E → Gx p l e R s m args below meth c D z Q (cells + rm.cells) (slots + rm.slots) w E pc ls rest) (kk : ∀ (r : Option Value) (w' : WT), Post r w' → Gd p l e R s m args below meth c D z Q (cells + rm.cells) (slots + rm.slots) w' (pc + 3) ls (r.toList ++ rest)) : Gd p l e R s m args below meth c D z Q cells slots w pc ls st0 := by
  refine gd_run (a := (Value.ref b :: As).toArray) (fun H locs la h1 h2 h3 => ?_) kx kk
  subst hst
  obtain ⟨fs, hb⟩ := hb
  exact vx_runV C.1 hM (cwV n C.1.2.2.2.2 hG hw rfl rfl hd hR.1) ⟨mP_blind, va_recv (q0 := 0) C.2.1.1 (h1.one hb) hc rfl, fun U hU hW => mP_at C h1 h2 _ U hU hW⟩ rfl hn (h3.1.trans hL) rfl (lv_room hcat) hdg hR.2
theorem gd_callS (C : Cx p l s m args meth c D ky z cc nL Ts own) (hM : Mt l D ky z y ws rm As w Post XP) (hG : GoodIn Ts (va_wsS own index y ws)) (hw : ws = .code y bytes maxL ret :: ws')
    (hd : y.cls ≠ "java/lang/invoke/MethodHandle" ∧ y.cls ≠ "java/lang/invoke/VarHandle" ∧ (parseMethodDescriptor y.desc).map (fun d => d.parameters.length) = some n) (hn : As.length = n) (hst : st0 = As.reverse ++ rest) (hcat : (rest.map fun v => v.category).sum ≤ 8) (hL : ls.length = nL) (hdg : decode cc pc = .ok (.invokestatic index, 3))
    (hR : (rm.frames + 1 ≤ R.frames ∧ 8 + (maxL + 11) + rm.locals ≤ R.locals) ∧ cells + rm.cells ≤ R.cells ∧ slots + rm.slots ≤ R.slots)
    (kx : ∀ E, XP E → Gx p l e R s m args below meth c D z Q (cells + rm.cells) (slots + rm.slots) w E pc ls rest) (kk : ∀ (r : Option Value) (w' : WT), Post r w' → Gd p l e R s m args below meth c D z Q (cells + rm.cells) (slots + rm.slots) w' (pc + 3) ls (r.toList ++ rest)) : Gd p l e R s m args below meth c D z Q cells slots w pc ls st0 := by
  refine gd_run (a := As.toArray) (fun H locs la h1 h2 h3 => ?_) kx kk
  subst hst
  exact vx_runS C.1 hM (va_cwS n C.1.2.2.2.2 hG hw rfl rfl hd hR.1) ⟨mP_blind, fun U hU hW => mP_at C h1 h2 _ U hU hW⟩ rfl hn (h3.1.trans hL) rfl (lv_room hcat) hdg hR.2
theorem gd_callVN (C : Cx p l s m args meth c D ky z cc nL Ts own) (hM : Mt l D ky z y ws rm (.ref b :: As) w Post XP) (hb : ∃ fs, w b = some (oB ci fs)) (hc : vwCl[ci]? = some (Cn, T, N)) (hG : GoodIn Ts ws) (hw : ws = .code y bytes maxL ret :: ws')
    (hl : Cond.methodLinkNest own index y host ∈ nestWs) (hini : Cond.initialized y.cls ∈ Ts) (hi : Cond.instanceMethod y ∈ Ts) (hse : Cond.selects Cn y y ∈ Ts)
    (hd : y.cls ≠ "java/lang/invoke/MethodHandle" ∧ y.cls ≠ "java/lang/invoke/VarHandle" ∧ (parseMethodDescriptor y.desc).map (fun d => d.parameters.length) = some n) (hn : As.length = n) (hst : st0 = As.reverse ++ .ref b :: rest) (hcat : (rest.map fun v => v.category).sum ≤ 8) (hL : ls.length = nL) (hdg : decode cc pc = .ok (.invokevirtual index, 3))
    (hR : (rm.frames + 1 ≤ R.frames ∧ 8 + (maxL + 11) + rm.locals ≤ R.locals) ∧ cells + rm.cells ≤ R.cells ∧ slots + rm.slots ≤ R.slots)
    (kx : ∀ E, XP E → Gx p l e R s m args below meth c D z Q (cells + rm.cells) (slots + rm.slots) w E pc ls rest) (kk : ∀ (r : Option Value) (w' : WT), Post r w' → Gd p l e R s m args below meth c D z Q (cells + rm.cells) (slots + rm.slots) w' (pc + 3) ls (r.toList ++ rest)) : Gd p l e R s m args below meth c D z Q cells slots w pc ls st0 := by
  refine gd_run (a := (Value.ref b :: As).toArray) (fun H locs la h1 h2 h3 => ?_) kx kk
  subst hst
  obtain ⟨fs, hb⟩ := hb
  exact vx_runVN C.1 hM ⟨va_cnB n C.1.2.2.2.2 hG hw rfl rfl (C.2.1.2.1 _ hl) (C.1.2.2.2.2 _ hini) hd hR.1, C.1.2.2.2.2 _ hi, C.1.2.2.2.2 _ hse⟩ ⟨mP_blind, va_recv (q0 := 0) C.2.1.1 (h1.one hb) hc rfl, fun U hU hW => mP_at C h1 h2 _ U hU hW⟩ rfl hn (h3.1.trans hL) rfl (lv_room hcat) hdg hR.2
theorem gd_callSN (C : Cx p l s m args meth c D ky z cc nL Ts own) (hM : Mt l D ky z y ws rm As w Post XP) (hG : GoodIn Ts ws) (hw : ws = .code y bytes maxL ret :: ws')
    (hl : Cond.methodLinkNest own index y host ∈ nestWs) (hini : Cond.initialized y.cls ∈ Ts) (hi : Cond.static y ∈ Ts)
    (hd : y.cls ≠ "java/lang/invoke/MethodHandle" ∧ y.cls ≠ "java/lang/invoke/VarHandle" ∧ (parseMethodDescriptor y.desc).map (fun d => d.parameters.length) = some n) (hn : As.length = n) (hst : st0 = As.reverse ++ rest) (hcat : (rest.map fun v => v.category).sum ≤ 8) (hL : ls.length = nL) (hdg : decode cc pc = .ok (.invokestatic index, 3))
    (hR : (rm.frames + 1 ≤ R.frames ∧ 8 + (maxL + 11) + rm.locals ≤ R.locals) ∧ cells + rm.cells ≤ R.cells ∧ slots + rm.slots ≤ R.slots)
    (kx : ∀ E, XP E → Gx p l e R s m args below meth c D z Q (cells + rm.cells) (slots + rm.slots) w E pc ls rest) (kk : ∀ (r : Option Value) (w' : WT), Post r w' → Gd p l e R s m args below meth c D z Q (cells + rm.cells) (slots + rm.slots) w' (pc + 3) ls (r.toList ++ rest)) : Gd p l e R s m args below meth c D z Q cells slots w pc ls st0 := by
  refine gd_run (a := As.toArray) (fun H locs la h1 h2 h3 => ?_) kx kk
  subst hst
  exact vx_runSN C.1 hM ⟨va_cnB n C.1.2.2.2.2 hG hw rfl rfl (C.2.1.2.1 _ hl) (C.1.2.2.2.2 _ hini) hd hR.1, C.1.2.2.2.2 _ hi, trivial⟩ ⟨mP_blind, fun U hU hW => mP_at C h1 h2 _ U hU hW⟩ rfl hn (h3.1.trans hL) rfl (lv_room hcat) hdg hR.2
theorem gd_callIN (C : Cx p l s m args meth c D ky z cc nL Ts own) (hM : Mt l D ky z y ws rm (.ref b :: As) w Post XP) (hG : GoodIn Ts ws) (hw : ws = .code y bytes maxL none :: ws') (hnm : y.name = "<init>")
    (hl : Cond.methodLinkNest own index y host ∈ nestWs) (hini : Cond.initialized y.cls ∈ Ts) (hi : Cond.instanceMethod y ∈ Ts)
    (hd : y.cls ≠ "java/lang/invoke/MethodHandle" ∧ y.cls ≠ "java/lang/invoke/VarHandle" ∧ (parseMethodDescriptor y.desc).map (fun d => d.parameters.length) = some n) (hn : As.length = n) (hst : st0 = As.reverse ++ .ref b :: rest) (hcat : (rest.map fun v => v.category).sum ≤ 8) (hL : ls.length = nL) (hdg : decode cc pc = .ok (.invokespecial index, 3))
    (hR : (rm.frames + 1 ≤ R.frames ∧ 8 + (maxL + 11) + rm.locals ≤ R.locals) ∧ cells + rm.cells ≤ R.cells ∧ slots + rm.slots ≤ R.slots)
    (kx : ∀ E, XP E → Gx p l e R s m args below meth c D z Q (cells + rm.cells) (slots + rm.slots) w E pc ls rest) (kk : ∀ (r : Option Value) (w' : WT), Post r w' → Gd p l e R s m args below meth c D z Q (cells + rm.cells) (slots + rm.slots) w' (pc + 3) ls (r.toList ++ rest)) : Gd p l e R s m args below meth c D z Q cells slots w pc ls st0 := by
  refine gd_run (a := (Value.ref b :: As).toArray) (fun H locs la h1 h2 h3 => ?_) kx kk
  subst hst
  exact vx_runIN C.1 hM ⟨va_cnB n C.1.2.2.2.2 hG hw rfl rfl (C.2.1.2.1 _ hl) (C.1.2.2.2.2 _ hini) hd hR.1, hnm, C.1.2.2.2.2 _ hi⟩ ⟨mP_blind, fun U hU hW => mP_at C h1 h2 _ U hU hW⟩ rfl hn (h3.1.trans hL) rfl (lv_room hcat) hdg hR.2
theorem gd_callI (C : Cx p l s m args meth c D ky z cc nL Ts own) (hM : Mt l D ky z y ws rm (.ref b :: As) w Post XP) (hG : GoodIn Ts ws) (hw : ws = .code y bytes maxL none :: ws') (hnm : y.name = "<init>")
    (hl : Cond.methodLink own index y ∈ Ts) (hini : Cond.initialized y.cls ∈ Ts) (hi : Cond.instanceMethod y ∈ Ts)
    (hd : y.cls ≠ "java/lang/invoke/MethodHandle" ∧ y.cls ≠ "java/lang/invoke/VarHandle" ∧ (parseMethodDescriptor y.desc).map (fun d => d.parameters.length) = some n) (hn : As.length = n) (hst : st0 = As.reverse ++ .ref b :: rest) (hcat : (rest.map fun v => v.category).sum ≤ 8) (hL : ls.length = nL) (hdg : decode cc pc = .ok (.invokespecial index, 3))
    (hR : (rm.frames + 1 ≤ R.frames ∧ 8 + (maxL + 11) + rm.locals ≤ R.locals) ∧ cells + rm.cells ≤ R.cells ∧ slots + rm.slots ≤ R.slots)
    (kx : ∀ E, XP E → Gx p l e R s m args below meth c D z Q (cells + rm.cells) (slots + rm.slots) w E pc ls rest) (kk : ∀ (r : Option Value) (w' : WT), Post r w' → Gd p l e R s m args below meth c D z Q (cells + rm.cells) (slots + rm.slots) w' (pc + 3) ls (r.toList ++ rest)) : Gd p l e R s m args below meth c D z Q cells slots w pc ls st0 := by
  refine gd_run (a := (Value.ref b :: As).toArray) (fun H locs la h1 h2 h3 => ?_) kx kk
  subst hst
  exact vx_runI C.1 hM (cwI n C.1.2.2.2.2 hG hw rfl rfl (C.1.2.2.2.2 _ hini) (C.1.2.2.2.2 _ hl) (C.1.2.2.2.2 _ hi) hnm hd hR.1) ⟨mP_blind, fun U hU hW => mP_at C h1 h2 _ U hU hW⟩ rfl hn (h3.1.trans hL) rfl (lv_room hcat) hdg hR.2
/-! ends -/
variable {XC : String → State → State → Prop} {mc ms : Nat} {as : List Value}
theorem gd_iret (C : Cx p l s m args meth c D ky z cc nL Ts own) (hQ : Q = vx_MQ below (mQ D z Post) XC args s mc ms (fun q => z ≤ q)) {x : Int32} (hr : meth.sig.returnType = some .int) (hdg : decode cc pc = .ok (.ireturn, 1)) (hp : Post (some (.int x)) w) (hc : cells ≤ mc ∧ slots ≤ ms) : Gd p l e R s m args below meth c D z Q cells slots w pc ls [.int x] := by
  subst hQ
  exact fun H locs la h1 h2 h3 => vx_ret (W.widen hc.1 hc.2 (W.iret C.1.1 C.1.2.1 hr (fun t ht hW => ⟨⟨_, w, rfl, hp, by rw [ht]; exact h1⟩, h2.F ht⟩) h2.2.2 hdg C.2.2.1))
theorem gd_zret (C : Cx p l s m args meth c D ky z cc nL Ts own) (hQ : Q = vx_MQ below (mQ D z Post) XC args s mc ms (fun q => z ≤ q)) {x : Int} (hr : meth.sig.returnType = some .boolean) (hx : x = 0 ∨ x = 1) (hdg : decode cc pc = .ok (.ireturn, 1)) (hp : Post (some (.int (iI x))) w) (hc : cells ≤ mc ∧ slots ≤ ms) : Gd p l e R s m args below meth c D z Q cells slots w pc ls [.int (iI x)] := by
  subst hQ
  exact fun H locs la h1 h2 h3 => vx_ret (W.widen hc.1 hc.2 (W.zret C.1.1 C.1.2.1 hr (nar_b hx) (fun t ht hW => ⟨⟨_, w, rfl, hp, by rw [ht]; exact h1⟩, h2.F ht⟩) h2.2.2 hdg C.2.2.1))
theorem gd_vret (C : Cx p l s m args meth c D ky z cc nL Ts own) (hQ : Q = vx_MQ below (mQ D z Post) XC args s mc ms (fun q => z ≤ q)) (hr : meth.sig.returnType = none) (hdg : decode cc pc = .ok (.return_, 1)) (hp : Post none w) (hc : cells ≤ mc ∧ slots ≤ ms) : Gd p l e R s m args below meth c D z Q cells slots w pc ls [] := by
  subst hQ
  exact fun H locs la h1 h2 h3 => vx_ret (W.widen hc.1 hc.2 (W.vret C.1.1 C.1.2.1 hr (fun t ht hW => ⟨⟨_, w, rfl, hp, by rw [ht]; exact h1⟩, h2.F ht⟩) h2.2.2 hdg C.2.2.1))
theorem gd_aret (C : Cx p l s m args meth c D ky z cc nL Ts own) (hQ : Q = vx_MQ below (mQ D z Post) XC args s mc ms (fun q => z ≤ q)) {a : Nat} {rt : String} (hr : meth.sig.returnType = some (.object rt)) (hdg : decode cc pc = .ok (.areturn, 1)) (hp : Post (some (.ref a)) w) (hc : cells ≤ mc ∧ slots ≤ ms) : Gd p l e R s m args below meth c D z Q cells slots w pc ls [.ref a] := by
  subst hQ
  exact fun H locs la h1 h2 h3 => vx_ret (W.widen hc.1 hc.2 (W.aret C.1.1 C.1.2.1 hr (Or.inl ⟨rt, rfl⟩) (Or.inr ⟨a, rfl⟩) (fun t ht hW => ⟨⟨_, w, rfl, hp, by rw [ht]; exact h1⟩, h2.F ht⟩) h2.2.2 hdg C.2.2.1))
/-- a contract out of a walk -/
theorem Mt.of {cc : ByteArray} {ret : Option FieldType} {maxL : Nat} {y : MethodName} {ws ws' : List Cond} {rm : Room} {as : List Value} {XP : String → Prop} (hy : plainName y.cls = true) (hw : ws = Cond.code y cc maxL ret :: ws') (hcat : ∀ v ∈ as, v.category = 1) (hn : as.length ≤ maxL)
    (body : ∀ (p : Program) (e : Env) (s : State) (m : MethodId) (args : Array Value) (below : List Frame) (meth : Method) (c : Code), Cx p l s m args meth c D ky z cc maxL ws y.cls → (∀ x ∈ c.exceptionTable.toList, False) → meth.sig.returnType = ret → meth.name = y.name → ∀ Q : State → Prop, Q = vx_MQ below (mQ D z Post) (mX D z w XP) args s rm.cells rm.slots (fun q => z ≤ q) →
      Gd p l e rm s m args below meth c D z Q 0 0 w 0 (as.map some ++ List.replicate (maxL - as.length) none) []) (hl : l.stackTraces = false) : Mt l D ky z y ws rm as w Post XP := by
  refine vx_ofW (cc := cc) (maxL := maxL) (ret := ret) hy hw ?_
  intro p e s m args below meth c s₁ B hml ht hv
  obtain ⟨rfl, hW, hSB⟩ := hv
  have hts := atoms_spec (ws := ws) B.pre
  have hown : s.vm.findClass y.cls = some m.cls := findClass_of_methodNamed B.named
  have C : Cx p l s m as.toArray meth c D ky z cc maxL ws y.cls := ⟨⟨B.exec, B.bytes, hml, hown, hts⟩, hSB, B.notSynchronized, hl, hW.1⟩
  rw [lg_entry_eq]
  exact body p e s m _ below meth c C ht B.returns (name_of_methodNamed B.named B.method).1 _ rfl s.heap [] _ hW va_S.rf (lh_entry as maxL hcat hn)
end GC
