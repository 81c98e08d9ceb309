theorem castW_use {w : Cond} (hw : isCastW w = true) {s : State} {args : Array Value} (h : va_Nw w s) : w.before args s = true := by
  cases w <;> simp [isCastW] at hw
  · exact va_Nw.use rfl h
  · exact va_Nw.use rfl h
/-! making, constructors, the library's min, throwing -/
section GH
variable {p : Program} {l : Launch} {e : Env} {R : Room} {s : State} {m : MethodId} {args : Array Value} {below : List Frame} {meth : Method} {c : Code} {D : va_G} {ky : Nat → ClassId} {z : Nat} {Q : State → Prop} {cells slots : Nat} {w : WT} {pc : Nat} {ls : List (Option Value)} {st : List Value} {cc : ByteArray} {own : String} {Ts : List Cond} {nL : Nat}
theorem gd_objInit (C : Cx p l s m args meth c D ky z cc nL Ts own) {idx a : Nat} (g1 : Cond.methodLink own idx objectInit ∈ Ts) (g2 : Cond.instanceMethod objectInit ∈ Ts) (g3 : Cond.code objectInit ⟨#[0xb1]⟩ 1 none ∈ Ts) (hL : ls.length = nL) (hdg : decode cc pc = .ok (.invokespecial idx, 3)) (hR : 1 ≤ R.frames ∧ (st.map fun v => v.category).sum + 12 ≤ R.locals) (kk : Gd p l e R s m args below meth c D z Q cells slots w (pc + 3) ls st) : Gd p l e R s m args below meth c D z Q cells slots w pc ls (.ref a :: st) :=
  fun H locs la h1 h2 h3 => W.objInit C.1.1 C.1.2.1 C.1.2.2.2.1 (C.1.2.2.2.2 _ g1) (C.1.2.2.2.2 _ g2) (C.1.2.2.2.2 _ g3) rfl ((h3.1.trans hL).trans C.1.2.2.1.symm) rfl hdg hR.1 (by show 2 * 0 + _ + 12 ≤ _; omega) (kk H locs la h1 h2 h3)
theorem gd_min (C : Cx p l s m args meth c D ky z cc nL Ts own) {index : Nat} {a b : Int} (g1 : Cond.methodLink own index Lib.Math.min.name ∈ Ts) (g2 : Cond.static Lib.Math.min.name ∈ Ts) (g3 : Cond.initialized "java/lang/Math" ∈ Ts) (g4 : Cond.code Lib.Math.min.name Lib.Math.min.code 2 (some .int) ∈ Ts) (hL : ls.length = nL) (hdg : decode cc pc = .ok (.invokestatic index, 3)) (hR : (1 ≤ R.frames ∧ (st.map fun v => v.category).sum + 13 ≤ R.locals) ∧ cells ≤ R.cells ∧ slots ≤ R.slots) (ha : InR a) (hb : InR b)
    (kk : ∀ x : Int, (x = a ∧ a ≤ b ∨ x = b ∧ b < a) → Gd p l e R s m args below meth c D z Q cells slots w (pc + 3) ls (.int (iI x) :: st)) : Gd p l e R s m args below meth c D z Q cells slots w pc ls (.int (iI b) :: .int (iI a) :: st) := by
  intro H locs la h1 h2 h3
  refine va_mmin C.1.1 C.1.2.1 (C.1.2.2.1.trans (h3.1.trans hL).symm) C.1.2.2.2.1 (C.1.2.2.2.2 _ g1) (C.1.2.2.2.2 _ g2) (C.1.2.2.2.2 _ g3) (C.1.2.2.2.2 _ g4) hR.1.1 hR.1.2 hR.2.1 hR.2.2 hdg ?_
  by_cases h : b < a
  · rw [if_pos ((iI_lt hb ha).mpr h)]
    exact kk b (Or.inr ⟨rfl, h⟩) H locs la h1 h2 h3
  · rw [if_neg (fun q => h ((iI_lt hb ha).mp q))]
    exact kk a (Or.inl ⟨rfl, by omega⟩) H locs la h1 h2 h3
theorem gd_dup2 (C : Cx p l s m args meth c D ky z cc nL Ts own) {va vb : Value} (hdg : decode cc pc = .ok (.dup2, 1)) (ha : va.category = 1) (hb : vb.category = 1) (kk : Gd p l e R s m args below meth c D z Q cells slots w (pc + 1) ls (va :: vb :: va :: vb :: st)) : Gd p l e R s m args below meth c D z Q cells slots w pc ls (va :: vb :: st) :=
  fun H locs la h1 h2 h3 => lv_dup2_11 C.1.1 C.1.2.1 hdg ha hb (kk H locs la h1 h2 h3)
theorem gd_putF (C : Cx p l s m args meth c D ky z cc nL Ts own) {ref Cn : String} {T : u_T} {N ci index a : Nat} {fs : List Value} {v : Value} (hc : vwCl[ci]? = some (Cn, T, N)) (hin : ∀ x ∈ u_ws Cn T N, x ∈ Ts) (ty0 : Nat → FieldType) (hty : ∀ k, k < N → parseFieldDescriptor (T k).2.2.1 = some (ty0 k)) (hnm : ∀ a, a < N → ∀ b, b < N → a ≠ b → (T a).2.1 ≠ (T b).2.1) (k : Nat) (hk : k < N) (hlink : Cond.fieldLink own index ref (T k).2.1 (T k).2.2.1 ∈ Ts) (hr : (T k).1 = ref) (hfin : (T k).2.2.2 = true) (hin2 : meth.name = "<init>") (hdecl : (T k).1 = own) (hdg : decode cc pc = .ok (.putfield index, 3)) (he : w a = some (oB ci fs)) (hn : narrow (ty0 k) v = v) (hfit : fits (ty0 k) v = true) (hl : k < fs.length)
    (kk : Gd p l e R s m args below meth c D z Q cells slots (wU w a (oB ci (fs.set k v))) (pc + 3) ls st) : Gd p l e R s m args below meth c D z Q cells slots w pc ls (v :: .ref a :: st) := by
  intro H locs la h1 h2 h3
  obtain ⟨hz, r, g1, cell, q1, q2, q3, q4⟩ := h1.2 a _ he
  have hr9 : r = (Cn, T, N) := Option.some.inj (g1.symm.trans hc)
  subst hr9
  have hap := va_apart (own := own) C.1.2.2.2.2 hin ty0 hty hnm C.2.1.1 hc
  obtain ⟨hS, hfc, kC, hkC, hkind⟩ := C.2.1.1.1 ci _ hc
  obtain ⟨cf, kf, fi, f, hi, hsl⟩ := hS k hk
  have hlay := C.1.2.2.2.2 _ (hin _ (u_in_lay hk))
  unfold u_lay at hlay
  rw [if_pos hfin] at hlay
  have hst := (u_facts hfc hkC (u_lays C.1.2.2.2.2 hin hk) hi).1
  have hcf : m.cls = cf := by
    obtain ⟨_, _, c', _, _, _, -, -, hf', -, -, -, hown2, -⟩ := Cond.laysFinal_spec hlay
    have e1 : c' = cf := by have := hi.symm.trans hf'; simp at this; exact this.1.symm
    rw [hdecl] at hown2
    rw [← e1]; exact Option.some.inj (C.1.2.2.2.1.symm.trans hown2)
  have h6 := u_fits hfc hkC hkind (Or.inr hlay) hi (hty k hk) hn hfit
  refine W.putFinK C.1.1 C.1.2.1 C.1.2.2.2.1 (C.1.2.2.2.2 _ hlink) (hr ▸ hi) hst hcf hin2 (by rw [q2]; exact h6) q1 q3 (by rw [hsl]; exact k2_hasslot (q4 k hk)) rfl rfl hdg fun H' e1 e2 e3 => ?_
  rw [hsl] at e1 ⊢
  exact kk H' _ la (h1.put hz ⟨_, hc, t_OB.to (V := updV (vp_V fs) k v) ⟨_, e1, q2, q3, t_set q4 hap hk v⟩ (fun j _ => vp_updV_set hl v j)⟩ (Nat.le_of_eq e2.symm) (fun q _ hq => e3 q hq)) (h2.putz e2 e3 hz) h3
theorem va_S.grow {H0 H H1 : Heap} {locs : List Loc} (h : va_S (fun q => z ≤ q) H0 H locs) (z1 : H1.size = H.size + 1) (o1 : ∀ q : Nat, q < H.size → H1[q]? = H[q]?) : va_S (fun q => z ≤ q) H0 H1 locs := ⟨Nat.le_trans h.1 (by omega), fun x h1 h2 => (o1 x (Nat.lt_of_lt_of_le h1 h.1)).trans (h.2.1 x h1 h2), h.2.2⟩
theorem gd_new (C : Cx p l s m args meth c D ky z cc nL Ts own) {Cn : String} {T : u_T} {N ci index : Nat} {fs : List Value} (hc : vwCl[ci]? = some (Cn, T, N)) (hin : ∀ x ∈ u_ws Cn T N, x ∈ Ts) (ty0 : Nat → FieldType) (hty : ∀ k, k < N → parseFieldDescriptor (T k).2.2.1 = some (ty0 k)) (g1 : Cond.classLink own index Cn ∈ Ts) (g2 : Cond.instantiable Cn N ∈ Ts) (g3 : Cond.initialized Cn ∈ Ts) (hfs : ∀ j, j < N → defaultValue (ty0 j) = vp_V fs j) (hR : cells + 1 ≤ R.cells ∧ slots + N ≤ R.slots) (hdg : decode cc pc = .ok (.new index, 3))
    (kk : ∀ q : Nat, w q = none → Gd p l e R s m args below meth c D z Q (cells + 1) (slots + N) (wU w q (oB ci fs)) (pc + 3) ls (.ref q :: st)) : Gd p l e R s m args below meth c D z Q cells slots w pc ls st := by
  intro H locs la h1 h2 h3
  have hKn := C.2.1.1.1 ci _ hc
  refine W.newcK C.1.1 C.1.2.1 C.1.2.2.2.1 (C.1.2.2.2.2 _ g1) (C.1.2.2.2.2 _ g2) (C.1.2.2.2.2 _ g3) rfl hdg hR.1 hR.2 hKn.2.1 rfl fun H1 kC hkC e1 z1 o1 => ?_
  have hno : w H.size = none := by
    cases hx : w H.size with
    | none => rfl
    | some x => exact absurd (h1.lt hx) (Nat.lt_irrefl _)
  exact kk H.size hno H1 locs la (h1.put h1.1 ⟨_, hc, (u_born ty0 C.1.2.2.2.2 hin hKn hkC e1 hty).to hfs⟩ (by omega) (fun q hq _ => o1 q hq)) (h2.grow z1 o1) h3
theorem gd_newI (C : Cx p l s m args meth c D ky z cc nL Ts own) {N : Nat} {n : Int} (g1 : Cond.arrayClass .int ∈ Ts) (hdg : decode cc pc = .ok (.newarray .int, 2)) (hn : n = N ∧ N ≤ 100000) (hR : cells + 1 ≤ R.cells ∧ slots + N ≤ R.slots)
    (kk : ∀ q : Nat, w q = none → Gd p l e R s m args below meth c D z Q (cells + 1) (slots + N) (wU w q (iA (ky 0) N (fun _ => 0))) (pc + 2) ls (.ref q :: st)) : Gd p l e R s m args below meth c D z Q cells slots w pc ls (.int (iI n) :: st) := by
  intro H locs la h1 h2 h3
  obtain ⟨rfl, hn2⟩ := hn
  refine va_newaK C.1.1 C.1.2.1 (atype := .int) (N := N) (C.1.2.2.2.2 _ g1) rfl hdg rfl (by rw [iI_n]; exact nI_pos (by omega)) (by rw [iI_n]; exact nI_clamp (by omega)) (by show N * 4 ≤ _; omega) hR.1 hR.2 rfl fun H1 cA e1 z1 o1 hAr hNm => ?_
  have hcA : cA = ky 0 := Option.some.inj (hNm.symm.trans (C.2.1.1.2 0 _ rfl).2)
  subst hcA
  have hno : w H.size = none := by
    cases hx : w H.size with
    | none => rfl
    | some x => exact absurd (h1.lt hx) (Nat.lt_irrefl _)
  exact kk H.size hno H1 locs la (h1.put h1.1 e1 (by omega) (fun q hq _ => o1 q hq)) (h2.grow z1 o1) h3
theorem gd_newZ (C : Cx p l s m args meth c D ky z cc nL Ts own) {N : Nat} {n : Int} (g1 : Cond.arrayClass .boolean ∈ Ts) (hdg : decode cc pc = .ok (.newarray .boolean, 2)) (hn : n = N ∧ N ≤ 100000) (hR : cells + 1 ≤ R.cells ∧ slots + N ≤ R.slots)
    (kk : ∀ q : Nat, w q = none → Gd p l e R s m args below meth c D z Q (cells + 1) (slots + N) (wU w q (iA (ky 1) N (fun _ => 0))) (pc + 2) ls (.ref q :: st)) : Gd p l e R s m args below meth c D z Q cells slots w pc ls (.int (iI n) :: st) := by
  intro H locs la h1 h2 h3
  obtain ⟨rfl, hn2⟩ := hn
  refine va_newaK C.1.1 C.1.2.1 (atype := .boolean) (N := N) (C.1.2.2.2.2 _ g1) rfl hdg rfl (by rw [iI_n]; exact nI_pos (by omega)) (by rw [iI_n]; exact nI_clamp (by omega)) (by show N * 1 ≤ _; omega) hR.1 hR.2 rfl fun H1 cA e1 z1 o1 hAr hNm => ?_
  have hcA : cA = ky 1 := Option.some.inj (hNm.symm.trans (C.2.1.1.2 1 _ rfl).2)
  subst hcA
  have hno : w H.size = none := by
    cases hx : w H.size with
    | none => rfl
    | some x => exact absurd (h1.lt hx) (Nat.lt_irrefl _)
  exact kk H.size hno H1 locs la (h1.put h1.1 e1 (by omega) (fun q hq _ => o1 q hq)) (h2.grow z1 o1) h3
theorem gd_alen (C : Cx p l s m args meth c D ky z cc nL Ts own) {a n k : Nat} {f : Int → Int} (hk : k = 0 ∨ k = 1) (hdg : decode cc pc = .ok (.arraylength, 1)) (he : w a = some (iA (ky k) n f)) (kk : Gd p l e R s m args below meth c D z Q cells slots w (pc + 1) ls (.int (iI n) :: st)) : Gd p l e R s m args below meth c D z Q cells slots w pc ls (.ref a :: st) := by
  intro H locs la h1 h2 h3
  rcases hk with rfl | rfl
  · exact va_alen (D := D) (cl := vwCl) (tys := tyG ky) C.1.1 C.1.2.1 C.2.1.1 (h1.one he) 0 0 rfl rfl (v := iI n) (iI_n n).symm hdg (kk H locs la h1 h2 h3)
  · exact va_alen (D := D) (cl := vwCl) (tys := tyG ky) C.1.1 C.1.2.1 C.2.1.1 (h1.one he) 0 1 rfl rfl (v := iI n) (iI_n n).symm hdg (kk H locs la h1 h2 h3)
variable {Post : Option Value → WT → Prop} {XP : String → Prop} {Qc : Array Value → State → Outcome → State → Prop} {mc ms : Nat}
theorem gd_throw (C : Cx p l s m args meth c D ky z cc nL Ts RX4) (hQ : Q = vx_MQ below Qc (mX D z w XP) args s mc ms (fun q => z ≤ q)) (htab : ∀ x ∈ c.exceptionTable.toList, False) {cls text : String} {ik is ic : Nat} (hcls : Bundle.fit cls = true) (g1 : Cond.classLink RX4 ik cls ∈ Ts) (g2 : Cond.initialized cls ∈ Ts) (gs : (is, text) ∈ strWs)
    (g3 : ∀ x ∈ (vx_atS RX4 ic cls ["java/lang/RuntimeException", "java/lang/Exception"]).filter goodWord, x ∈ Ts) (g4 : ∀ x ∈ (vx_atS RX4 ic cls ["java/lang/RuntimeException", "java/lang/Exception"]).filter (fun x => !goodWord x), x ∈ castWs) (g5 : ∀ x ∈ Cond.classLink RX4 ik cls :: Cond.initialized cls :: vx_atS RX4 ic cls ["java/lang/RuntimeException", "java/lang/Exception"], vx_ot x = true)
    (d0 : decode cc pc = .ok (.new ik, 3)) (d3 : decode cc (pc + 3) = .ok (.dup, 1)) (d4 : decode cc (pc + 4) = .ok (.ldc is, 2)) (d6 : decode cc (pc + 6) = .ok (.invokespecial ic, 3)) (d9 : decode cc (pc + 9) = .ok (.athrow, 1)) (hL : ls.length = nL) (hx : XP cls) (hR : (5 < R.frames ∧ (st.map fun v => v.category).sum + 82 ≤ R.locals ∧ cells + 1 ≤ R.cells ∧ slots + 6 ≤ R.slots) ∧ cells + 1 ≤ mc ∧ slots + 6 ≤ ms) : Gd p l e R s m args below meth c D z Q cells slots w pc ls st := by
  intro H locs la h1 h2 h3
  subst hQ
  obtain ⟨sa, hsa⟩ := C.2.1.2.2.2.1 _ gs
  refine vx_throwS C.1.1 C.1.2.1 C.2.2.2.1 (names := ["java/lang/RuntimeException", "java/lang/Exception"]) C.1.2.2.2.1 hcls (by decide +kernel) (C.1.2.2.2.2 _ g1) (C.1.2.2.2.2 _ g2) hsa ?_ g5 C.2.1.2.2.2.2.1 C.2.1.2.2.2.2.2 h2 ((h3.1.trans hL).trans C.1.2.2.1.symm) d0 d3 d4 d6 d9 (fun x hx => (htab x hx).elim) hR.1.1 hR.1.2.1 hR.1.2.2.1 hR.1.2.2.2 C.2.2.1 ?_ h2.2.2 hR.2.1 hR.2.2
  · exact vx_hat (fun x hx => C.1.2.2.2.2 _ (g3 x hx)) g4 (fun x hx => castW_use (castWs_ok x hx) (C.2.1.2.2.1 x hx))
  · intro t hA hz hk
    exact ⟨hx, h1.kept hz hk, ⟨Nat.le_trans h2.1 hz, fun q a b => (hk q (Nat.lt_of_lt_of_le a h2.1)).trans (h2.2.1 q a b)⟩⟩
end GH
