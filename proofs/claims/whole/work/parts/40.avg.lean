/-! the average -/
noncomputable def avF (f : Int → Int) : UInt32 := if sI (bE f) 0 64 = 0 then FP.fconst0 else FP.fdiv (FP.i2f (iI (sI (fun p => geI (f p)) 0 64))) (FP.i2f (iI (sI (bE f) 0 64)))
theorem fq_I {a b : Int} (ha : 0 ≤ a ∧ a ≤ 64) (hb : 1 ≤ b ∧ b ≤ 64) : vf_n32 (FP.fdiv (FP.i2f (iI a)) (FP.i2f (iI b))) ∧ vf_n64 (FP.f2d (FP.fdiv (FP.i2f (iI a)) (FP.i2f (iI b)))) := by
  have h := fq_all (b - 1).toNat (by omega) a.toNat (by omega)
  rw [← iI_n, ← iI_n, show ((a.toNat : Nat) : Int) = a by omega, show (((b - 1).toNat + 1 : Nat) : Int) = b by omega] at h
  exact h
section GL
variable {p : Program} {l : Launch} {e : Env} {R : Room} {s : State} {m : MethodId} {args : Array Value} {below : List Frame} {meth : Method} {c : Code} {D : va_G} {ky : Nat → ClassId} {z : Nat} {Q : State → Prop} {cells slots : Nat} {w : WT} {pc : Nat} {ls : List (Option Value)} {st : List Value} {cc : ByteArray} {own : String} {Ts : List Cond} {nL : Nat}
theorem gd_i2f (C : Cx p l s m args meth c D ky z cc nL Ts own) {x : Int32} (hdg : decode cc pc = .ok (.i2f, 1)) (kk : Gd p l e R s m args below meth c D z Q cells slots w (pc + 1) ls (.float (FP.i2f x) :: st)) : Gd p l e R s m args below meth c D z Q cells slots w pc ls (.int x :: st) :=
  fun H locs la h1 h2 h3 => lv_i2f C.1.1 C.1.2.1 hdg (kk H locs la h1 h2 h3)
theorem gd_fdiv (C : Cx p l s m args meth c D ky z cc nL Ts own) {x y : UInt32} (hdg : decode cc pc = .ok (.fdiv, 1)) (hne : vf_n32 (FP.fdiv x y)) (kk : Gd p l e R s m args below meth c D z Q cells slots w (pc + 1) ls (.float (FP.fdiv x y) :: st)) : Gd p l e R s m args below meth c D z Q cells slots w pc ls (.float y :: .float x :: st) :=
  fun H locs la h1 h2 h3 => lv_fdiv C.1.1 C.1.2.1 hdg hne (kk H locs la h1 h2 h3)
theorem gd_fconst0 (C : Cx p l s m args meth c D ky z cc nL Ts own) (hdg : decode cc pc = .ok (.fconst 0, 1)) (kk : Gd p l e R s m args below meth c D z Q cells slots w (pc + 1) ls (.float FP.fconst0 :: st)) : Gd p l e R s m args below meth c D z Q cells slots w pc ls st :=
  fun H locs la h1 h2 h3 => lv_fconst0 C.1.1 C.1.2.1 hdg (kk H locs la h1 h2 h3)
theorem gd_fret (C : Cx p l s m args meth c D ky z cc nL Ts own) {Post : Option Value → WT → Prop} {XC : String → State → State → Prop} {mc ms : Nat} (hQ : Q = vx_MQ below (mQ D z Post) XC args s mc ms (fun q => z ≤ q)) {x : UInt32} (hr : meth.sig.returnType = some .float) (hdg : decode cc pc = .ok (.freturn, 1)) (hp : Post (some (.float x)) w) (hc : cells ≤ mc ∧ slots ≤ ms) : Gd p l e R s m args below meth c D z Q cells slots w pc ls [.float x] := by
  subst hQ
  exact fun H locs la h1 h2 h3 => vx_ret (W.widen hc.1 hc.2 (W.fret C.1.1 C.1.2.1 hr (fun t ht hW => ⟨⟨_, w, rfl, hp, by rw [ht]; exact h1⟩, h2.F ht⟩) h2.2.2 hdg C.2.2.1))
end GL
