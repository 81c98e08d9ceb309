/-! floats in the law -/
section GF2
variable {p : Program} {l : Launch} {e : Env} {R : Room} {s : State} {m : MethodId} {args : Array Value} {below : List Frame} {meth : Method} {c : Code} {D : va_G} {ky : Nat → ClassId} {z : Nat} {Q : State → Prop} {cells slots : Nat} {w : WT} {pc : Nat} {ls : List (Option Value)} {st : List Value} {cc : ByteArray} {own : String} {Ts : List Cond} {nL : Nat}
theorem gd_fload (C : Cx p l s m args meth c D ky z cc nL Ts own) {k : Nat} {x : UInt32} (hdg : decode cc pc = .ok (.fload k, 2)) (hl : ls[k]? = some (some (.float x))) (kk : Gd p l e R s m args below meth c D z Q cells slots w (pc + 2) ls (.float x :: st)) : Gd p l e R s m args below meth c D z Q cells slots w pc ls st :=
  fun H locs la h1 h2 h3 => lv_fload C.1.1 C.1.2.1 hdg (h3.2.2 _ _ hl).1 (kk H locs la h1 h2 h3)
theorem gd_fstore (C : Cx p l s m args meth c D ky z cc nL Ts own) {k : Nat} {x : UInt32} (hdg : decode cc pc = .ok (.fstore k, 2)) (hi : k < ls.length) (kk : Gd p l e R s m args below meth c D z Q cells slots w (pc + 2) (ls.set k (some (.float x))) st) : Gd p l e R s m args below meth c D z Q cells slots w pc ls (.float x :: st) :=
  fun H locs la h1 h2 h3 => lv_fstore C.1.1 C.1.2.1 hdg (lh_has h3) hi rfl (fun la' h' => kk H locs la' h1 h2 (lh_set h3 rfl h'))
end GF2
theorem fq_eq : ∀ b, b < 64 → ∀ a, a < 65 → Op.cmpValue (FP.dcmp (FP.f2d (FP.fdiv (FP.i2f (nI a)) (FP.i2f (nI (b + 1))))) (FP.f2d (FP.fdiv (FP.i2f (nI a)) (FP.i2f (nI (b + 1)))))) .l = 0 := by decide +kernel
theorem avF_eq (f : Int → Int) : vf_n64 (FP.f2d (avF f)) ∧ Op.cmpValue (FP.dcmp (FP.f2d (avF f)) (FP.f2d (avF f))) .l = iI 0 := by
  have hm := sI_bd (g := fun p => geI (f p)) (a := 0) (b := 64) (fun j => geI_bd _) (by decide)
  have hx := sI_bd (g := bE f) (a := 0) (b := 64) (fun j => bE_bd _ _) (by decide)
  unfold avF
  by_cases h : sI (bE f) 0 64 = 0
  · rw [if_pos h]
    exact ⟨by unfold vf_n64; decide +kernel, by decide +kernel⟩
  · rw [if_neg h]
    refine ⟨(fq_I (by omega) (by omega)).2, ?_⟩
    have h9 := fq_eq (sI (bE f) 0 64 - 1).toNat (by omega) (sI (fun p => geI (f p)) 0 64).toNat (by omega)
    rw [← iI_n, ← iI_n, show (((sI (fun p => geI (f p)) 0 64).toNat : Nat) : Int) = sI (fun p => geI (f p)) 0 64 by omega, show (((sI (bE f) 0 64 - 1).toNat + 1 : Nat) : Int) = sI (bE f) 0 64 by omega] at h9
    exact h9
