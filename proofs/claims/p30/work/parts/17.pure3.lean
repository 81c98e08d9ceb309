/-! leaves -/
abbrev cL (na fa : Nat) (lo co ct : Int) (bk nx : Option Nat) : va_E := oB 3 [.int (iI lo), .int (iI co), .ref na, .ref fa, .int (iI ct), va_rf bk, va_rf nx]
def hs (q : Int) : Int := 5 * q % 16
def rk (q : Int) : Int := hs q * 1000 + q
theorem hs_bd (q : Int) : 0 ≤ hs q ∧ hs q < 16 := by unfold hs; omega
/-- a row with a hole at p, made by moving up what stood from p to c; with x put there; one taken out at p -/
def shF (f : Int → Int) (p c : Int) : Int → Int := fun j => if p < j ∧ j ≤ c then f (j - 1) else f j
def inF (f : Int → Int) (p c x : Int) : Int → Int := fU (shF f p c) p x
def rmF (f : Int → Int) (p c : Int) : Int → Int := fun j => if p ≤ j ∧ j + 1 < c then f (j + 1) else f j
theorem shF_0 (f : Int → Int) (c : Int) : shF f c c = f := by funext j; unfold shF; rw [if_neg (by omega)]
theorem shF_at {f : Int → Int} {p c j : Int} (h : j ≤ p) : shF f p c j = f j := by unfold shF; rw [if_neg (by omega)]
theorem shF_s {f : Int → Int} {p c : Int} (h : p ≤ c) : fU (shF f p c) p (f (p - 1)) = shF f (p - 1) c := by
  funext j
  unfold shF fU
  by_cases hj : j = p
  · subst hj; rw [if_pos rfl, if_pos (by omega)]
  · rw [if_neg hj]; dsimp only
    by_cases h2 : p < j ∧ j ≤ c
    · rw [if_pos h2, if_pos (by omega)]
    · rw [if_neg h2, if_neg (by omega)]
theorem rmF_0 (f : Int → Int) (p : Int) : rmF f p (p + 1) = f := by funext j; unfold rmF; rw [if_neg (by omega)]
theorem rmF_at {f : Int → Int} {p i j : Int} (h : i ≤ j) : rmF f p (i + 1) j = f j := by unfold rmF; rw [if_neg (by omega)]
theorem rmF_s {f : Int → Int} {p i : Int} (h : p ≤ i) : fU (rmF f p (i + 1)) i (f (i + 1)) = rmF f p (i + 1 + 1) := by
  funext j
  unfold rmF fU
  by_cases hj : j = i
  · subst hj; rw [if_pos rfl, if_pos (by omega)]
  · rw [if_neg hj]; dsimp only
    by_cases h2 : p ≤ j ∧ j + 1 < i + 1
    · rw [if_pos h2, if_pos (by omega)]
    · rw [if_neg h2, if_neg (by omega)]
section GI
variable {p : Program} {l : Launch} {e : Env} {R : Room} {s : State} {m : MethodId} {args : Array Value} {below : List Frame} {meth : Method} {c : Code} {D : va_G} {ky : Nat → ClassId} {z : Nat} {Q : State → Prop} {cells slots : Nat} {w : WT} {pc : Nat} {ls : List (Option Value)} {st : List Value} {cc : ByteArray} {own : String} {Ts : List Cond} {nL : Nat}
theorem gd_ifnullq (C : Cx p l s m args meth c D ky z cc nL Ts own) {o : Option Nat} {off : Int} {tgt : Nat} (hdg : decode cc pc = .ok (.ifnull off, 3)) (ht : (pc : Int) + off = (tgt : Int)) (kt : o = none → Gd p l e R s m args below meth c D z Q cells slots w tgt ls st) (kf : ∀ x, o = some x → Gd p l e R s m args below meth c D z Q cells slots w (pc + 3) ls st) : Gd p l e R s m args below meth c D z Q cells slots w pc ls (va_rf o :: st) := by
  cases o with
  | none => exact gd_ifnullN C hdg ht (kt rfl)
  | some x => exact gd_ifnull C hdg (kf x rfl)
theorem gd_aload_nN (C : Cx p l s m args meth c D ky z cc nL Ts own) {k : Fin 4} (hdg : decode cc pc = .ok (.aload_n k, 1)) (hl : ls[(k : Nat)]? = some (some .null)) (kk : Gd p l e R s m args below meth c D z Q cells slots w (pc + 1) ls (.null :: st)) : Gd p l e R s m args below meth c D z Q cells slots w pc ls st :=
  fun H locs la h1 h2 h3 => lv_aload_nN C.1.1 C.1.2.1 hdg rfl (h3.2.2 _ _ hl).1 (kk H locs la h1 h2 h3)
theorem gd_aloadN (C : Cx p l s m args meth c D ky z cc nL Ts own) {k : Nat} (hdg : decode cc pc = .ok (.aload k, 2)) (hl : ls[k]? = some (some .null)) (kk : Gd p l e R s m args below meth c D z Q cells slots w (pc + 2) ls (.null :: st)) : Gd p l e R s m args below meth c D z Q cells slots w pc ls st :=
  fun H locs la h1 h2 h3 => lv_aloadN C.1.1 C.1.2.1 hdg (h3.2.2 _ _ hl).1 (kk H locs la h1 h2 h3)
theorem gd_astore_nN (C : Cx p l s m args meth c D ky z cc nL Ts own) {k : Fin 4} (hdg : decode cc pc = .ok (.astore_n k, 1)) (hi : (k : Nat) < ls.length) (kk : Gd p l e R s m args below meth c D z Q cells slots w (pc + 1) (ls.set (k : Nat) (some .null)) st) : Gd p l e R s m args below meth c D z Q cells slots w pc ls (.null :: st) :=
  fun H locs la h1 h2 h3 => lv_astore_nN C.1.1 C.1.2.1 hdg rfl (lh_has h3) hi rfl (fun la' h' => kk H locs la' h1 h2 (lh_set h3 rfl h'))
theorem gd_astoreN (C : Cx p l s m args meth c D ky z cc nL Ts own) {k : Nat} (hdg : decode cc pc = .ok (.astore k, 2)) (hi : k < ls.length) (kk : Gd p l e R s m args below meth c D z Q cells slots w (pc + 2) (ls.set k (some .null)) st) : Gd p l e R s m args below meth c D z Q cells slots w pc ls (.null :: st) :=
  fun H locs la h1 h2 h3 => lv_astoreN C.1.1 C.1.2.1 hdg (lh_has h3) hi rfl (fun la' h' => kk H locs la' h1 h2 (lh_set h3 rfl h'))
theorem gd_aload_nq (C : Cx p l s m args meth c D ky z cc nL Ts own) {k : Fin 4} {o : Option Nat} (hdg : decode cc pc = .ok (.aload_n k, 1)) (hl : ls[(k : Nat)]? = some (some (va_rf o))) (kk : Gd p l e R s m args below meth c D z Q cells slots w (pc + 1) ls (va_rf o :: st)) : Gd p l e R s m args below meth c D z Q cells slots w pc ls st := by
  cases o with
  | none => exact gd_aload_nN C hdg hl kk
  | some x => exact gd_aload_n C hdg hl kk
theorem gd_aloadq (C : Cx p l s m args meth c D ky z cc nL Ts own) {k : Nat} {o : Option Nat} (hdg : decode cc pc = .ok (.aload k, 2)) (hl : ls[k]? = some (some (va_rf o))) (kk : Gd p l e R s m args below meth c D z Q cells slots w (pc + 2) ls (va_rf o :: st)) : Gd p l e R s m args below meth c D z Q cells slots w pc ls st := by
  cases o with
  | none => exact gd_aloadN C hdg hl kk
  | some x => exact gd_aload C hdg hl kk
theorem gd_astore_nq (C : Cx p l s m args meth c D ky z cc nL Ts own) {k : Fin 4} {o : Option Nat} (hdg : decode cc pc = .ok (.astore_n k, 1)) (hi : (k : Nat) < ls.length) (kk : Gd p l e R s m args below meth c D z Q cells slots w (pc + 1) (ls.set (k : Nat) (some (va_rf o))) st) : Gd p l e R s m args below meth c D z Q cells slots w pc ls (va_rf o :: st) := by
  cases o with
  | none => exact gd_astore_nN C hdg hi kk
  | some x => exact gd_astore_n C hdg hi kk
theorem gd_astoreq (C : Cx p l s m args meth c D ky z cc nL Ts own) {k : Nat} {o : Option Nat} (hdg : decode cc pc = .ok (.astore k, 2)) (hi : k < ls.length) (kk : Gd p l e R s m args below meth c D z Q cells slots w (pc + 2) (ls.set k (some (va_rf o))) st) : Gd p l e R s m args below meth c D z Q cells slots w pc ls (va_rf o :: st) := by
  cases o with
  | none => exact gd_astoreN C hdg hi kk
  | some x => exact gd_astore C hdg hi kk
end GI
theorem new_ne {w : WT} {a q : Nat} {x : va_E} (hq : w q = none) (ha : w a = some x) : a ≠ q := fun e => by rw [e, hq] at ha; cases ha
theorem new_at {w : WT} {a q : Nat} {x y : va_E} (hq : w q = none) (ha : w a = some x) : wU w q y a = some x := (wU_n (new_ne hq ha)).trans ha
def spF (f : Int → Int) : Int → Int := fun j => if j = 0 then f 2 else if j = 1 then f 3 else 0
theorem spF_eq (f : Int → Int) : inF (inF (fun _ => 0) 0 0 (f 2)) 1 1 (f 3) = spF f := by
  funext j
  unfold inF spF fU shF
  by_cases h0 : j = 0
  · subst h0; simp
  · by_cases h1 : j = 1
    · subst h1; simp
    · rw [if_neg h1, if_neg h0, if_neg h1]; dsimp only
      rw [if_neg (by omega), if_neg h0]
      rw [if_neg (by omega)]
theorem in0_at (q : Int) : inF (fun _ => 0) 0 0 q 0 = q := fU_s _ _ _
theorem in0_bd {q : Int} (hq : 0 ≤ q ∧ q ≤ 999) (i : Int) : 0 ≤ inF (fun _ => 0) 0 0 q i ∧ inF (fun _ => 0) 0 0 q i ≤ 999 := by
  unfold inF fU shF
  by_cases h : i = 0
  · rw [if_pos h]; exact hq
  · rw [if_neg h]; dsimp only; rw [if_neg (by omega)]; omega
