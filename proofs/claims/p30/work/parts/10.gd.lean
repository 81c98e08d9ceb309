abbrev vwCl : List vw_C := [(RX0, TX0, 11), (RX1, TX1, 2), (RX2, TX2, 2), (RX3, TX3, 7), (RX4, TX4, 5)]
/-! THE WALK'S OWN WORDS: a world is a partial map from addresses to cells; Gd: the machine at a pc with these locals, this stack, in any heap that holds the world, comes to its end -/
abbrev WT : Type := Nat → Option va_E
abbrev VT : Type := Nat → Int → Int → Int
def iI (n : Int) : Int32 := Int32.ofInt n
abbrev InR (n : Int) : Prop := -2147483648 ≤ n ∧ n ≤ 2147483647
theorem iI_toInt {n : Int} (h : InR n) : (iI n).toInt = n := Int32.toInt_ofInt_of_le (by omega) (by omega)
theorem iI_of (x : Int32) : ∃ n : Int, InR n ∧ x = iI n := ⟨x.toInt, ⟨by have := Int32.le_toInt x; omega, by have := Int32.toInt_lt x; omega⟩, (Int32.ofInt_toInt x).symm⟩
theorem iI_add (a b : Int) : iI a + iI b = iI (a + b) := (Int32.ofInt_add a b).symm
theorem iI_sub (a b : Int) : iI a - iI b = iI (a - b) := (Int32.ofInt_sub a b).symm
theorem iI_mul (a b : Int) : iI a * iI b = iI (a * b) := (Int32.ofInt_mul a b).symm
theorem iI_lt {a b : Int} (ha : InR a) (hb : InR b) : iI a < iI b ↔ a < b := by rw [Int32.lt_iff_toInt_lt, iI_toInt ha, iI_toInt hb]
theorem iI_le {a b : Int} (ha : InR a) (hb : InR b) : iI a ≤ iI b ↔ a ≤ b := by rw [Int32.le_iff_toInt_le, iI_toInt ha, iI_toInt hb]
theorem iI_eq {a b : Int} (ha : InR a) (hb : InR b) : iI a = iI b ↔ a = b := ⟨fun h => by rw [← iI_toInt ha, ← iI_toInt hb, h], fun h => by rw [h]⟩
theorem iI_n (n : Nat) : iI (n : Int) = nI n := by simp [iI, nI, Int32.ofInt, Int32.ofNat]
theorem iI_nat {a : Int} (h : 0 ≤ a) : ∃ n : Nat, a = (n : Int) := ⟨a.toNat, by omega⟩
theorem iI_div {a b : Int} (ha : 0 ≤ a) (ha2 : a ≤ 2147483647) (hb : 0 < b) (hb2 : b ≤ 2147483647) : iI a / iI b = iI (a / b) := by
  obtain ⟨n, rfl⟩ := iI_nat ha
  obtain ⟨k, rfl⟩ := iI_nat (Int.le_of_lt hb)
  rw [← Int.natCast_ediv, iI_n, iI_n, iI_n]
  exact pk_div (by omega) (by omega) (by omega)
theorem iI_rem {a b : Int} (ha : 0 ≤ a) (ha2 : a ≤ 2147483647) (hb : 0 < b) (hb2 : b ≤ 2147483647) : iI a - iI a / iI b * iI b = iI (a % b) := by
  obtain ⟨n, rfl⟩ := iI_nat ha
  obtain ⟨k, rfl⟩ := iI_nat (Int.le_of_lt hb)
  rw [← Int.natCast_emod, iI_n, iI_n, iI_n]
  exact pk_rem (by omega) (by omega) (by omega)
theorem iI_cl {a : Int} {n : Nat} (h0 : 0 ≤ a) (h1 : a < n) (hn : n < 2147483648) : vp_in (iI a) n ∧ (((iI a).toNatClampNeg : Nat) : Int) = a := by
  obtain ⟨k, rfl⟩ := iI_nat h0
  rw [iI_n, nI_clamp (by omega)]
  exact ⟨vp_in_nI (by omega) (by omega), rfl⟩
/-- a map of Int changed at one place -/
def fU {α : Type} (f : Int → α) (i : Int) (x : α) : Int → α := fun j => if j = i then x else f j
theorem fU_s {α : Type} (f : Int → α) (i : Int) (x : α) : fU f i x i = x := if_pos rfl
theorem fU_n {α : Type} {f : Int → α} {i j : Int} {x : α} (h : j ≠ i) : fU f i x j = f j := if_neg h
def wU (w : WT) (a : Nat) (e : va_E) : WT := fun q => if q = a then some e else w q
theorem wU_s (w : WT) (a : Nat) (e : va_E) : wU w a e a = some e := if_pos rfl
theorem wU_n {w : WT} {a b : Nat} {e : va_E} (h : b ≠ a) : wU w a e b = w b := if_neg h
abbrev iA (k : ClassId) (n : Nat) (f : Int → Int) : va_E := .inl (k, n, .inl (fun j : Nat => iI (f (j : Int))))
abbrev rA (k : ClassId) (n : Nat) (f : Int → Option Nat) : va_E := .inl (k, n, .inr (.inr (.inr (.inr (fun j : Nat => f (j : Int))))))
abbrev oB (ci : Nat) (fs : List Value) : va_E := .inr (ci, fs)
abbrev tyG (ky : Nat → ClassId) : List (ClassId × FieldType) := [(ky 0, .int), (ky 1, .boolean), (ky 2, .object "Buddyfield$Content")]
def Wd (D : va_G) (z : Nat) (w : WT) (H : Heap) : Prop := z ≤ H.size ∧ ∀ a e, w a = some e → z ≤ a ∧ va_at D vwCl (a, e) H
theorem Wd.lt {D : va_G} {z : Nat} {w : WT} {H : Heap} (h : Wd D z w H) {a : Nat} {e : va_E} (he : w a = some e) : a < H.size := va_at.lt (q := (a, e)) (h.2 a e he).2
theorem Wd.put {D : va_G} {z : Nat} {w : WT} {H H1 : Heap} (h : Wd D z w H) {a : Nat} {e : va_E} (hz : z ≤ a) (e1 : va_at D vwCl (a, e) H1) (e2 : H.size ≤ H1.size) (e3 : ∀ q : Nat, q < H.size → q ≠ a → H1[q]? = H[q]?) : Wd D z (wU w a e) H1 := by
  refine ⟨Nat.le_trans h.1 e2, fun q x hx => ?_⟩
  by_cases hq : q = a
  · subst hq
    rw [wU_s] at hx
    cases hx
    exact ⟨hz, e1⟩
  · rw [wU_n hq] at hx
    exact ⟨(h.2 q x hx).1, (h.2 q x hx).2.kept (e3 q (h.lt hx) hq)⟩
theorem Wd.kept {D : va_G} {z : Nat} {w : WT} {H H1 : Heap} (h : Wd D z w H) (e2 : H.size ≤ H1.size) (e3 : ∀ q : Nat, q < H.size → H1[q]? = H[q]?) : Wd D z w H1 :=
  ⟨Nat.le_trans h.1 e2, fun q x hx => ⟨(h.2 q x hx).1, (h.2 q x hx).2.kept (e3 q (h.lt hx))⟩⟩
theorem Wd.sub {D : va_G} {z : Nat} {w w' : WT} {H : Heap} (h : Wd D z w H) (hs : ∀ a e, w' a = some e → w a = some e) : Wd D z w' H := ⟨h.1, fun a e he => h.2 a e (hs a e he)⟩
/-! the locals -/
def lh (la : Array Slot) (ls : List (Option Value)) : Prop := la.size = ls.length ∧ lv_wf la ∧ ∀ (i : Nat) (v : Value), ls[i]? = some (some v) → la[i]? = some (.val v) ∧ v.category = 1
def asc (ls : List (Option Value)) : List (Nat × Value) := (List.range ls.length).filterMap (fun i => match ls[i]? with | some (some v) => some (i, v) | _ => none)
theorem mem_asc {ls : List (Option Value)} {j : Nat} {u : Value} : (j, u) ∈ asc ls ↔ ls[j]? = some (some u) := by
  unfold asc
  rw [List.mem_filterMap]
  constructor
  · rintro ⟨i, -, h⟩
    split at h
    · rename_i v hv
      cases h
      exact hv
    · cases h
  · intro h
    refine ⟨j, List.mem_range.mpr (List.getElem?_eq_some_iff.mp h).1, ?_⟩
    rw [h]
theorem lh_has {la : Array Slot} {ls : List (Option Value)} (h : lh la ls) : lv_has la ls.length (asc ls) := ⟨h.1, h.2.1, fun q hq => (h.2.2 q.1 q.2 (mem_asc.mp hq)).1⟩
theorem lh_set {la la' : Array Slot} {ls : List (Option Value)} {i : Nat} {v : Value} (h : lh la ls) (hc : v.category = 1) (h' : lv_has la' ls.length ((i, v) :: (asc ls).filter (fun q => !(q.1 == i) && !(q.1 + 1 == i && q.2.category == 2)))) : lh la' (ls.set i (some v)) := by
  obtain ⟨h1, h2, h3⟩ := h'
  refine ⟨by rw [List.length_set]; exact h1, h2, fun j u hj => ?_⟩
  by_cases hji : j = i
  · subst hji
    have hlt : j < ls.length := by
      have := (List.getElem?_eq_some_iff.mp hj).1
      rwa [List.length_set] at this
    rw [List.getElem?_set_self hlt] at hj
    cases hj
    exact ⟨h3 (j, v) List.mem_cons_self, hc⟩
  · rw [List.getElem?_set_ne (Ne.symm hji)] at hj
    have hu := (h.2.2 j u hj).2
    refine ⟨h3 (j, u) (List.mem_cons_of_mem _ (List.mem_filter.mpr ⟨mem_asc.mpr hj, ?_⟩)), hu⟩
    simp [hji, hu]
/-- fewer known locals -/
def Lsb (ls ls' : List (Option Value)) : Prop := ls'.length = ls.length ∧ ∀ (i : Nat) (v : Value), ls'[i]? = some (some v) → ls[i]? = some (some v)
theorem Lsb.rf (ls : List (Option Value)) : Lsb ls ls := ⟨rfl, fun _ _ h => h⟩
theorem Lsb.nil : Lsb [] [] := ⟨rfl, fun _ _ h => h⟩
theorem Lsb.keep {x : Option Value} {a b : List (Option Value)} (h : Lsb a b) : Lsb (x :: a) (x :: b) := ⟨by simp [h.1], fun i v hv => by cases i with | zero => exact hv | succ i => exact h.2 i v hv⟩
theorem Lsb.drop {x : Option Value} {a b : List (Option Value)} (h : Lsb a b) : Lsb (x :: a) (none :: b) := ⟨by simp [h.1], fun i v hv => by cases i with | zero => simp at hv | succ i => exact h.2 i v hv⟩
theorem lh.sub {la : Array Slot} {ls ls' : List (Option Value)} (h : lh la ls) (hs : Lsb ls ls') : lh la ls' := ⟨h.1.trans hs.1.symm, h.2.1, fun i v hv => h.2.2 i v (hs.2 i v hv)⟩
theorem lg_sl1 (as : List Value) (hc : ∀ v ∈ as, v.category = 1) : lg_sl as = as.map Slot.val := by
  induction as with
  | nil => rfl
  | cons v vs ih =>
    have hv := hc v List.mem_cons_self
    have ih := ih (fun u hu => hc u (List.mem_cons_of_mem _ hu))
    unfold lg_sl at ih ⊢
    rw [List.flatMap_cons, ih]
    simp [hv]
theorem lv_args1 (as : List Value) (hc : ∀ v ∈ as, v.category = 1) : ∀ (k i : Nat) (v : Value), as[i]? = some v → (k + i, v) ∈ lv_args k as := by
  induction as with
  | nil => intro k i v h; simp at h
  | cons u us ih =>
    intro k i v h
    have hu := hc u List.mem_cons_self
    unfold lv_args
    rw [if_neg (by omega)]
    cases i with
    | zero =>
      simp at h
      subst h
      exact List.mem_cons_self
    | succ i =>
      refine List.mem_cons_of_mem _ ?_
      have := ih (fun x hx => hc x (List.mem_cons_of_mem _ hx)) (k + 1) i v (by simpa using h)
      rwa [show k + 1 + i = k + (i + 1) by omega] at this
theorem lh_entry (as : List Value) (n : Nat) (hc : ∀ v ∈ as, v.category = 1) (hn : as.length ≤ n) : lh ((lg_sl as ++ List.replicate (n - (lg_sl as).length) Slot.unset).toArray) (as.map some ++ List.replicate (n - as.length) none) := by
  have h1 : (lg_sl as).length = as.length := by rw [lg_sl1 as hc, List.length_map]
  obtain ⟨a1, a2, a3⟩ := lv_entry as (n := n) (by omega)
  refine ⟨?_, a2, fun i v hv => ?_⟩
  · rw [a1]
    simp
    omega
  · have hlt : i < as.length := by
      rcases Nat.lt_or_ge i as.length with h | h
      · exact h
      · rw [List.getElem?_append_right (by simpa using h)] at hv
        have := List.eq_of_mem_replicate (List.mem_of_getElem? hv)
        cases this
    rw [List.getElem?_append_left (by simpa using hlt), List.getElem?_map] at hv
    have hv2 : as[i]? = some v := by
      cases hx : as[i]? with
      | none => rw [hx] at hv; simp at hv
      | some u => rw [hx] at hv; simp at hv; rw [hv]
    have h3 := a3 _ (lv_args1 as hc 0 i v hv2)
    rw [Nat.zero_add] at h3
    exact ⟨h3, hc v (List.mem_of_getElem? hv2)⟩
