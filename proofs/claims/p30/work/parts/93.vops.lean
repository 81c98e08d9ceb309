/-! the calls of the law upon one of two objects -/
noncomputable def RR_create (F n : Int) (T : Int → Int) (v B : Int → Int → Int) (sc dn : Int) (a : Int) (T1 : Int → Int) (v1 B1 : Int → Int → Int) (s1 d1 : Int) : Prop :=
  ((dn = 0 ∧ 0 ≤ (fF (fun j => v j 2 = 0) 0 16) ∧ F = -1 ∧ n < 512) ∧ (fF (fun j => v j 2 = 0) 0 16) = a ∧ T = T1 ∧ fU v (fF (fun j => v j 2 = 0) 0 16) (fU (v (fF (fun j => v j 2 = 0) 0 16)) 2 1) = v1 ∧ B = B1 ∧ sc = s1 ∧ dn = d1 ∧ CI T1 v1 B1 s1 d1) ∨
  ((dn = 1 ∨ (fF (fun j => v j 2 = 0) 0 16) = -1 ∨ F ≠ -1 ∨ 512 ≤ n) ∧ -8 = a ∧ T = T1 ∧ v = v1 ∧ B = B1 ∧ sc = s1 ∧ dn = d1)
theorem RR_create_det {F n : Int} {T : Int → Int} {v B : Int → Int → Int} {sc dn : Int} {a a2 : Int} {T1 : Int → Int} {v1 B1 : Int → Int → Int} {s1 d1 : Int} {T2 : Int → Int} {v2 B2 : Int → Int → Int} {s2 d2 : Int} (h1 : RR_create F n T v B sc dn a T1 v1 B1 s1 d1) (h2 : RR_create F n T v B sc dn a2 T2 v2 B2 s2 d2) : a2 = a ∧ T2 = T1 ∧ v2 = v1 ∧ B2 = B1 ∧ s2 = s1 ∧ d2 = d1 := by
  unfold RR_create at h1 h2
  rcases h1 with ⟨c, rfl, rfl, rfl, rfl, rfl, rfl, -⟩ | ⟨c, rfl, rfl, rfl, rfl, rfl, rfl⟩
  · rcases h2 with ⟨cx, rfl, rfl, rfl, rfl, rfl, rfl, -⟩ | ⟨cx, rfl, rfl, rfl, rfl, rfl, rfl⟩
    · exact ⟨rfl, rfl, rfl, rfl, rfl, rfl⟩
    · exfalso; omega
  · rcases h2 with ⟨cx, rfl, rfl, rfl, rfl, rfl, rfl, -⟩ | ⟨cx, rfl, rfl, rfl, rfl, rfl, rfl⟩
    · exfalso; omega
    · exact ⟨rfl, rfl, rfl, rfl, rfl, rfl⟩
theorem XF_bd (v : Int → Int → Int) (h : 0 ≤ (fF (fun j => v j 2 = 0) 0 16)) : 0 ≤ (fF (fun j => v j 2 = 0) 0 16) ∧ (fF (fun j => v j 2 = 0) 0 16) ≤ 15 := by
  rcases fF_spec (P := fun j => v j 2 = 0) (b := 16) _ 0 rfl with ⟨e, -⟩ | ⟨e1, e2, -⟩
  · omega
  · omega
theorem RR_create_FS {F n : Int} {T : Int → Int} {v B : Int → Int → Int} {sc dn : Int} {a c : Int} {T1 : Int → Int} {v1 B1 : Int → Int → Int} {s1 d1 : Int} (hS : FS T v B sc dn c) (h : RR_create F n T v B sc dn a T1 v1 B1 s1 d1) : FS T1 v1 B1 s1 d1 (c + 1) := by
  have h3c := hS.2.2.2.2.2.1
  unfold RR_create at h
  rcases h with ⟨⟨c1, c2, c3, c4⟩, rfl, rfl, rfl, rfl, rfl, rfl, hI1⟩ | ⟨-, rfl, rfl, rfl, rfl, rfl, rfl⟩
  · have hxb := XF_bd _ c2
    have h39 := h3c _ hxb.1 (by omega)
    exact hS.setv hI1 ⟨rfl, rfl, Int.le_refl _, by show v (fF (fun j => v j 2 = 0) 0 16) 3 ≤ c + 1; omega⟩
  · exact hS.up
/-- the leaves behind a deletion, behind a creation -/
def RDEL (q dn n : Int) (lo co ct : Int → Int) (nm fl : Int → Int → Int) (ct1 : Int → Int) (nm1 fl1 : Int → Int → Int) : Prop :=
  (dn = 0 ∧ 0 ≤ dF n lo co ct nm fl q ∧ fU ct (lLk n lo co ct nm q) (ct (lLk n lo co ct nm q) - 1) = ct1 ∧ fU nm (lLk n lo co ct nm q) (rmF (nm (lLk n lo co ct nm q)) (fF (fun j => nm (lLk n lo co ct nm q) j = q) 0 (ct (lLk n lo co ct nm q))) (ct (lLk n lo co ct nm q))) = nm1 ∧ fU fl (lLk n lo co ct nm q) (rmF (fl (lLk n lo co ct nm q)) (fF (fun j => nm (lLk n lo co ct nm q) j = q) 0 (ct (lLk n lo co ct nm q))) (ct (lLk n lo co ct nm q))) = fl1) ∨
  ((dn = 1 ∨ dF n lo co ct nm fl q = -1) ∧ ct = ct1 ∧ nm = nm1 ∧ fl = fl1)
def RADD (q dn x n : Int) (lo co ct : Int → Int) (nm fl : Int → Int → Int) (n1 : Int) (lo1 co1 ct1 : Int → Int) (nm1 fl1 : Int → Int → Int) : Prop :=
  ((dn = 0 ∧ 0 ≤ x ∧ dF n lo co ct nm fl q = -1 ∧ n < 512) ∧ ADD q x n lo co ct nm fl n1 lo1 co1 ct1 nm1 fl1) ∨
  ((dn = 1 ∨ x = -1 ∨ dF n lo co ct nm fl q ≠ -1 ∨ 512 ≤ n) ∧ n = n1 ∧ lo = lo1 ∧ co = co1 ∧ ct = ct1 ∧ nm = nm1 ∧ fl = fl1)
section RDS
variable {q m x dn n n1 n2 n21 : Int} {lo co ct lo1 co1 ct1 lo2 co2 ct2 lo21 co21 ct21 : Int → Int} {nm fl nm1 fl1 nm2 fl2 nm21 fl21 : Int → Int → Int}
theorem NI.ixb (h : NI n lo co ct nm fl) (hd : 0 ≤ dF n lo co ct nm fl q) : (0 ≤ (lLk n lo co ct nm q) ∧ (lLk n lo co ct nm q) < n) ∧ 0 ≤ (fF (fun j => nm (lLk n lo co ct nm q) j = q) 0 (ct (lLk n lo co ct nm q))) ∧ (fF (fun j => nm (lLk n lo co ct nm q) j = q) 0 (ct (lLk n lo co ct nm q))) < ct (lLk n lo co ct nm q) := by
  have hn := h.1.1.1
  have h1 := lLk_bd lo co ct nm q hn
  have h0 := (fLk_bd lo co q hn).1
  have hs := hA_iff.mp (h.has hd)
  rcases fF_spec (P := fun j => nm (lLk n lo co ct nm q) j = q) (b := ct (lLk n lo co ct nm q)) _ 0 rfl with ⟨e, -⟩ | ⟨e1, e2, e3, -⟩
  · omega
  · exact ⟨⟨by omega, h1.2⟩, e1, e2⟩
theorem RDEL_NI (hN : NI n lo co ct nm fl) (h : RDEL q dn n lo co ct nm fl ct1 nm1 fl1) : NI n lo co ct1 nm1 fl1 := by
  rcases h with ⟨-, h2, rfl, rfl, rfl⟩ | ⟨-, rfl, rfl, rfl⟩
  · exact (hN.del h2).1
  · exact hN
theorem RDEL_sim (hN : NI n lo co ct nm fl) (hs : SIM m n lo co ct nm fl n2 lo2 co2 ct2 nm2 fl2) (hm : M16 m) (h1 : RDEL q dn n lo co ct nm fl ct1 nm1 fl1) (h2 : RDEL (q + m) dn n2 lo2 co2 ct2 nm2 fl2 ct21 nm21 fl21) : SIM m n lo co ct1 nm1 fl1 n2 lo2 co2 ct21 nm21 fl21 := by
  have hn := hN.1.1.1
  have hd := hs.eD hm hn q
  unfold RDEL at h2
  rw [hd] at h2
  rcases h1 with ⟨a1, a2, rfl, rfl, rfl⟩ | ⟨a1, rfl, rfl, rfl⟩ <;> rcases h2 with ⟨b1, b2, rfl, rfl, rfl⟩ | ⟨b1, rfl, rfl, rfl⟩
  · obtain ⟨hJ, hp⟩ := hN.ixb a2
    rw [hs.eK hm hn q, hs.ix hJ q]
    exact hs.rm hJ hp
  · omega
  · omega
  · exact hs
theorem RADD_NI (hN : NI n lo co ct nm fl) (hq : 0 ≤ q ∧ q ≤ 999) (hx : x ≤ 15) (h : RADD q dn x n lo co ct nm fl n1 lo1 co1 ct1 nm1 fl1) : NI n1 lo1 co1 ct1 nm1 fl1 := by
  rcases h with ⟨⟨-, h2, h3, h4⟩, h5⟩ | ⟨-, rfl, rfl, rfl, rfl, rfl, rfl⟩
  · exact (hN.put hq ⟨h2, hx⟩ (by omega) h3 h5).1
  · exact hN
theorem RADD_sim (hN : NI n lo co ct nm fl) (hs : SIM m n lo co ct nm fl n2 lo2 co2 ct2 nm2 fl2) (hm : M16 m) (h1 : RADD q dn x n lo co ct nm fl n1 lo1 co1 ct1 nm1 fl1) (h2 : RADD (q + m) dn x n2 lo2 co2 ct2 nm2 fl2 n21 lo21 co21 ct21 nm21 fl21) : SIM m n1 lo1 co1 ct1 nm1 fl1 n21 lo21 co21 ct21 nm21 fl21 := by
  have hn := hN.1.1.1
  have hd := hs.eD hm hn q
  have hn2 := hs.1
  unfold RADD at h2
  rw [hd] at h2
  rcases h1 with ⟨a1, a2⟩ | ⟨a1, rfl, rfl, rfl, rfl, rfl, rfl⟩ <;> rcases h2 with ⟨b1, b2⟩ | ⟨b1, rfl, rfl, rfl, rfl, rfl, rfl⟩
  · exact hs.add hm hn a2 b2
  · omega
  · omega
  · exact hs
end RDS
set_option maxHeartbeats 2000000 in
theorem kV_close {l : Launch} {D : va_G} {ky : Nat → ClassId} {z : Nat} {w : WT} (hl : l.stackTraces = false) {b : Nat} {P : Nat → Prop} {T : Int → Int} {v B : Int → Int → Int} {sc dn : Int} {n : Int} {lo co ct : Int → Int} {nm fl : Int → Int → Int} {c : Int} (hV : VW w ky b P T v B sc dn n lo co ct nm fl) (hS : FS T v B sc dn c) (hc : c ≤ 200) {q : Int} (hq : InR q) : MtW l D ky z yL_does wsL_does { frames := 8, cells := 3, slots := 18, locals := 176 } [.ref b, .int (iI 2), .int (iI q)] w (fun r w' => ∃ (a : Int) (T1 : Int → Int) (v1 B1 : Int → Int → Int) (s1 d1 : Int), r = some (.int (iI a)) ∧ RR_close q T v B sc dn a T1 v1 B1 s1 d1 ∧ VW w' ky b P T1 v1 B1 s1 d1 n lo co ct nm fl ∧ FrP w w' P P) := by
  obtain ⟨g, t, ar, d, ac, ab, la, na, fa, hW, hD, rfl⟩ := id hV
  refine MtW.mono (kL_does_close hl (kX4_close hl hW hS.1 hq) hV.obj (fun r w1 h => ?_) (fun E h => ?_)) (fun r w1 h => ?_)
  · rcases h with ⟨h1, h2, h3, (⟨h4, rfl, h5, h6, h7⟩ | ⟨h8, h9, (⟨h10, rfl, h11, h12, h13⟩ | ⟨h14, rfl, h15, h16, h17⟩)⟩)⟩
    · exact ⟨_, rfl⟩
    · exact ⟨_, rfl⟩
    · exact ⟨_, rfl⟩
  · exact h.elim (fun h => Or.inl h.1) (fun h => Or.inr h.1)
  · rcases h with h | ⟨rfl, rfl, E, h⟩
    · rcases h with ⟨h1, h2, h3, (⟨h4, rfl, h5, h6, h7⟩ | ⟨h8, h9, (⟨h10, rfl, h11, h12, h13⟩ | ⟨h14, rfl, h15, h16, h17⟩)⟩)⟩
      · exact ⟨_, _, _, _, _, _, rfl, (Or.inl ⟨⟨h1, h2, h3, h4⟩, rfl, rfl, rfl, rfl, rfl, rfl, h6⟩), VW.cls hW hD h5 h7⟩
      · exact ⟨_, _, _, _, _, _, rfl, (Or.inr (Or.inl ⟨⟨h1, h2, h3, h8, h9, h10⟩, rfl, rfl, rfl, rfl, rfl, rfl, h12⟩)), VW.cls hW hD h11 h13⟩
      · exact ⟨_, _, _, _, _, _, rfl, (Or.inr (Or.inr (Or.inl ⟨⟨h1, h2, h3, h8, h9, h14⟩, rfl, rfl, rfl, rfl, rfl, rfl, h16⟩))), VW.cls hW hD h15 h17⟩
    · refine ⟨_, _, _, _, _, _, rfl, (Or.inr (Or.inr (Or.inr (⟨?_, rfl, rfl, rfl, rfl, rfl, rfl⟩)))), hV, FrP.rf _ _⟩
      rcases h with ⟨-, h⟩ | ⟨-, h⟩
      · exact (Or.inl h)
      · exact (Or.inr (h))
set_option maxHeartbeats 2000000 in
theorem kV_flush {l : Launch} {D : va_G} {ky : Nat → ClassId} {z : Nat} {w : WT} (hl : l.stackTraces = false) {b : Nat} {P : Nat → Prop} {T : Int → Int} {v B : Int → Int → Int} {sc dn : Int} {n : Int} {lo co ct : Int → Int} {nm fl : Int → Int → Int} {c : Int} (hV : VW w ky b P T v B sc dn n lo co ct nm fl) (hS : FS T v B sc dn c) (hc : c ≤ 200) {q : Int} (hq : InR q) : MtW l D ky z yL_does wsL_does { frames := 8, cells := 2, slots := 12, locals := 171 } [.ref b, .int (iI 4), .int (iI q)] w (fun r w' => ∃ (a : Int) (T1 : Int → Int) (v1 B1 : Int → Int → Int) (s1 d1 : Int), r = some (.int (iI a)) ∧ RR_flush q T v B sc dn a T1 v1 B1 s1 d1 ∧ VW w' ky b P T1 v1 B1 s1 d1 n lo co ct nm fl ∧ FrP w w' P P) := by
  obtain ⟨g, t, ar, d, ac, ab, la, na, fa, hW, hD, rfl⟩ := id hV
  refine MtW.mono (kL_does_flush hl (kX4_flush hl hW hS.1 hq hS.2.2.1) hV.obj (fun r w1 h => ?_) (fun E h => ?_)) (fun r w1 h => ?_)
  · rcases h with ⟨h1, h2, rfl, h3, h4, h5, h6⟩
    · exact ⟨_, rfl⟩
  · exact h.elim (fun h => Or.inl h.1) (fun h => Or.inr h.1)
  · rcases h with h | ⟨rfl, rfl, E, h⟩
    · rcases h with ⟨h1, h2, rfl, h3, h4, h5, h6⟩
      · exact ⟨_, _, _, _, _, _, rfl, (Or.inl ⟨⟨h1, h2, h3⟩, rfl, rfl, rfl, rfl, rfl, rfl, h5⟩), VW.cls hW hD h4 h6⟩
    · refine ⟨_, _, _, _, _, _, rfl, (Or.inr (⟨?_, rfl, rfl, rfl, rfl, rfl, rfl⟩)), hV, FrP.rf _ _⟩
      rcases h with ⟨-, h⟩ | ⟨-, h⟩
      · exact (Or.inl h)
      · exact (Or.inr (h))
set_option maxHeartbeats 2000000 in
theorem kV_start {l : Launch} {D : va_G} {ky : Nat → ClassId} {z : Nat} {w : WT} (hl : l.stackTraces = false) {b : Nat} {P : Nat → Prop} {T : Int → Int} {v B : Int → Int → Int} {sc dn : Int} {n : Int} {lo co ct : Int → Int} {nm fl : Int → Int → Int} {c : Int} (hV : VW w ky b P T v B sc dn n lo co ct nm fl) (hS : FS T v B sc dn c) (hc : c ≤ 200) {q : Int} : MtW l D ky z yL_does wsL_does { frames := 8, cells := 1, slots := 6, locals := 177 } [.ref b, .int (iI 5), .int (iI q)] w (fun r w' => ∃ (a : Int) (T1 : Int → Int) (v1 B1 : Int → Int → Int) (s1 d1 : Int), r = some (.int (iI a)) ∧ RR_start T v B sc dn a T1 v1 B1 s1 d1 ∧ VW w' ky b P T1 v1 B1 s1 d1 n lo co ct nm fl ∧ FrP w w' P P) := by
  obtain ⟨g, t, ar, d, ac, ab, la, na, fa, hW, hD, rfl⟩ := id hV
  refine MtW.mono (kL_does_start hl (kX4_start hl hW hS.1 hS.2.2.2.2.1) hV.obj (fun r w1 h => ?_) (fun E h => ?_)) (fun r w1 h => ?_)
  · rcases h with ⟨h1, rfl, h2, h3, h4⟩
    · exact ⟨_, rfl⟩
  · exact h.1
  · rcases h with h | ⟨rfl, rfl, E, h⟩
    · rcases h with ⟨h1, rfl, h2, h3, h4⟩
      · exact ⟨_, _, _, _, _, _, rfl, (Or.inl ⟨h1, rfl, rfl, rfl, rfl, rfl, rfl, h3⟩), VW.cls hW hD h2 h4⟩
    · refine ⟨_, _, _, _, _, _, rfl, (Or.inr (⟨?_, rfl, rfl, rfl, rfl, rfl, rfl⟩)), hV, FrP.rf _ _⟩
      exact h.2
set_option maxHeartbeats 2000000 in
theorem kV_cut {l : Launch} {D : va_G} {ky : Nat → ClassId} {z : Nat} {w : WT} (hl : l.stackTraces = false) {b : Nat} {P : Nat → Prop} {T : Int → Int} {v B : Int → Int → Int} {sc dn : Int} {n : Int} {lo co ct : Int → Int} {nm fl : Int → Int → Int} {c : Int} (hV : VW w ky b P T v B sc dn n lo co ct nm fl) (hS : FS T v B sc dn c) (hc : c ≤ 200) {q y : Int} (hq : InR q ∧ InR y) : MtW l D ky z yL_write wsL_write { frames := 8, cells := 3, slots := 18, locals := 156 } [.ref b, .int (iI q), .int (iI y), .int (iI (-1))] w (fun r w' => ∃ (a : Int) (T1 : Int → Int) (v1 B1 : Int → Int → Int) (s1 d1 : Int), r = some (.int (iI a)) ∧ RR_cut q y T v B sc dn a T1 v1 B1 s1 d1 ∧ VW w' ky b P T1 v1 B1 s1 d1 n lo co ct nm fl ∧ FrP w w' P P) := by
  obtain ⟨g, t, ar, d, ac, ab, la, na, fa, hW, hD, rfl⟩ := id hV
  refine MtW.mono (kL_write_cut hl (kX4_cut hl hW hS.1 hq) hV.obj (fun r w1 h => ?_) (fun E h => ?_)) (fun r w1 h => ?_)
  · rcases h with ⟨h1, h2, h3, (⟨h4, rfl, h5, h6, h7⟩ | ⟨h8, rfl, h9, h10, h11, h12, h13⟩)⟩
    · exact ⟨_, rfl⟩
    · exact ⟨_, rfl⟩
  · exact h.elim (fun h => Or.inl h.1) (fun h => h.elim (fun h => Or.inr (Or.inl h.1)) (fun h => Or.inr (Or.inr h.1)))
  · rcases h with h | ⟨rfl, rfl, E, h⟩
    · rcases h with ⟨h1, h2, h3, (⟨h4, rfl, h5, h6, h7⟩ | ⟨h8, rfl, h9, h10, h11, h12, h13⟩)⟩
      · exact ⟨_, _, _, _, _, _, rfl, (Or.inl ⟨⟨h1, h2, h3, h4⟩, rfl, rfl, rfl, rfl, rfl, rfl, h6⟩), VW.cls hW hD h5 h7⟩
      · exact ⟨_, _, _, _, _, _, rfl, (Or.inr (Or.inl ⟨⟨h1, h2, h3, h8, h9, h10⟩, rfl, rfl, rfl, rfl, rfl, rfl, h12⟩)), VW.cls hW hD h11 h13⟩
    · refine ⟨_, _, _, _, _, _, rfl, (Or.inr (Or.inr (⟨?_, rfl, rfl, rfl, rfl, rfl, rfl⟩))), hV, FrP.rf _ _⟩
      rcases h with ⟨-, h⟩ | ⟨-, h⟩ | ⟨-, h⟩
      · exact (Or.inl h)
      · exact (Or.inr (Or.inl h))
      · exact (Or.inr (Or.inr (h)))
set_option maxHeartbeats 2000000 in
theorem kV_write {l : Launch} {D : va_G} {ky : Nat → ClassId} {z : Nat} {w : WT} (hl : l.stackTraces = false) {b : Nat} {P : Nat → Prop} {T : Int → Int} {v B : Int → Int → Int} {sc dn : Int} {n : Int} {lo co ct : Int → Int} {nm fl : Int → Int → Int} {c : Int} (hV : VW w ky b P T v B sc dn n lo co ct nm fl) (hS : FS T v B sc dn c) (hc : c ≤ 200) {q x k : Int} (hq : InR q ∧ InR x ∧ InR k) (hk9 : k ≠ -1) : MtW l D ky z yL_write wsL_write { frames := 8, cells := 5, slots := 30, locals := 137 } [.ref b, .int (iI q), .int (iI x), .int (iI k)] w (fun r w' => ∃ (a : Int) (T1 : Int → Int) (v1 B1 : Int → Int → Int) (s1 d1 : Int), r = some (.int (iI a)) ∧ RR_write q x k T v B sc dn a T1 v1 B1 s1 d1 ∧ VW w' ky b P T1 v1 B1 s1 d1 n lo co ct nm fl ∧ FrP w w' P P) := by
  obtain ⟨g, t, ar, d, ac, ab, la, na, fa, hW, hD, rfl⟩ := id hV
  refine MtW.mono (kL_write_write hl ⟨hq.2.2, hk9⟩ (kX4_write hl hW hS.1 hq) hV.obj (fun r w1 h => ?_) (fun E h => ?_)) (fun r w1 h => ?_)
  · rcases h with ⟨h1, h2, h3, rfl, (⟨h4, h5, h6, h7⟩ | ⟨h8, h9, h10, h11, h12⟩)⟩
    · exact ⟨_, rfl⟩
    · exact ⟨_, rfl⟩
  · exact h.elim (fun h => Or.inl h.1) (fun h => h.elim (fun h => Or.inr (Or.inl h.1)) (fun h => Or.inr (Or.inr h.1)))
  · rcases h with h | ⟨rfl, rfl, E, h⟩
    · rcases h with ⟨h1, h2, h3, rfl, (⟨h4, h5, h6, h7⟩ | ⟨h8, h9, h10, h11, h12⟩)⟩
      · exact ⟨_, _, _, _, _, _, rfl, (Or.inl ⟨⟨h1, h2, h3, h4⟩, rfl, rfl, rfl, rfl, rfl, rfl, h6⟩), VW.cls hW hD h5 h7⟩
      · exact ⟨_, _, _, _, _, _, rfl, (Or.inr (Or.inl ⟨⟨h1, h2, h3, h8, h9⟩, rfl, rfl, rfl, rfl, rfl, rfl, h11⟩)), VW.cls hW hD h10 h12⟩
    · refine ⟨_, _, _, _, _, _, rfl, (Or.inr (Or.inr (⟨?_, rfl, rfl, rfl, rfl, rfl, rfl⟩))), hV, FrP.rf _ _⟩
      rcases h with ⟨-, h⟩ | ⟨-, h⟩ | ⟨-, h⟩
      · exact (Or.inl h)
      · exact (Or.inr (Or.inl h))
      · exact (Or.inr (Or.inr (h)))
set_option maxHeartbeats 2000000 in
theorem kV_crash {l : Launch} {D : va_G} {ky : Nat → ClassId} {z : Nat} {w : WT} (hl : l.stackTraces = false) {b : Nat} {P : Nat → Prop} {T : Int → Int} {v B : Int → Int → Int} {sc dn : Int} {n : Int} {lo co ct : Int → Int} {nm fl : Int → Int → Int} {c : Int} (hV : VW w ky b P T v B sc dn n lo co ct nm fl) (hS : FS T v B sc dn c) (hc : c ≤ 200) : MtW l D ky z yL_crash wsL_crash { frames := 8, cells := 1, slots := 6, locals := 130 } [.ref b] w (fun r w' => ∃ (a : Int) (T1 : Int → Int) (v1 B1 : Int → Int → Int) (s1 d1 : Int), r = some (.int (iI a)) ∧ RR_crash T v B sc dn a T1 v1 B1 s1 d1 ∧ VW w' ky b P T1 v1 B1 s1 d1 n lo co ct nm fl ∧ FrP w w' P P) := by
  obtain ⟨g, t, ar, d, ac, ab, la, na, fa, hW, hD, rfl⟩ := id hV
  refine MtW.mono (kL_crash hl (kX4_crash hl hW hS.1) hV.obj (fun r w1 h => ?_) (fun E h => ?_)) (fun r w1 h => ?_)
  · rcases h with ⟨rfl, h1, h2, h3, h4⟩
    · exact rfl
  · exact h.1
  · rcases h with ⟨rfl, h⟩ | ⟨rfl, rfl, E, h⟩
    · rcases h with ⟨-, h1, h2, h3, h4⟩
      · exact ⟨_, _, _, _, _, _, rfl, (Or.inl ⟨h1, rfl, rfl, rfl, rfl, rfl, rfl, h3⟩), VW.cls hW hD h2 h4⟩
    · refine ⟨_, _, _, _, _, _, rfl, (Or.inr (⟨?_, rfl, rfl, rfl, rfl, rfl, rfl⟩)), hV, FrP.rf _ _⟩
      exact h.2
set_option maxHeartbeats 2000000 in
theorem kV_crashBehind {l : Launch} {D : va_G} {ky : Nat → ClassId} {z : Nat} {w : WT} (hl : l.stackTraces = false) {b : Nat} {P : Nat → Prop} {T : Int → Int} {v B : Int → Int → Int} {sc dn : Int} {n : Int} {lo co ct : Int → Int} {nm fl : Int → Int → Int} {c : Int} (hV : VW w ky b P T v B sc dn n lo co ct nm fl) (hS : FS T v B sc dn c) (hc : c ≤ 200) {q : Int} (hq : InR q) : MtW l D ky z yL_crashes wsL_crashes { frames := 8, cells := 2, slots := 12, locals := 133 } [.ref b, .int (iI q)] w (fun r w' => ∃ (a : Int) (T1 : Int → Int) (v1 B1 : Int → Int → Int) (s1 d1 : Int), r = some (.int (iI a)) ∧ RR_crashBehind q T v B sc dn a T1 v1 B1 s1 d1 ∧ VW w' ky b P T1 v1 B1 s1 d1 n lo co ct nm fl ∧ FrP w w' P P) := by
  obtain ⟨g, t, ar, d, ac, ab, la, na, fa, hW, hD, rfl⟩ := id hV
  refine MtW.mono (kL_crashes hl (kX4_crashBehind hl hW hS.1 hq) hV.obj (fun r w1 h => ?_) (fun E h => ?_)) (fun r w1 h => ?_)
  · rcases h with ⟨rfl, h1, h2, h3, h4, h5⟩
    · exact rfl
  · exact h.elim (fun h => Or.inl h.1) (fun h => Or.inr h.1)
  · rcases h with ⟨rfl, h⟩ | ⟨rfl, rfl, E, h⟩
    · rcases h with ⟨-, h1, h2, h3, h4, h5⟩
      · exact ⟨_, _, _, _, _, _, rfl, (Or.inl ⟨⟨h1, h2⟩, rfl, rfl, rfl, rfl, rfl, rfl, h4⟩), VW.cls hW hD h3 h5⟩
    · refine ⟨_, _, _, _, _, _, rfl, (Or.inr (⟨?_, rfl, rfl, rfl, rfl, rfl, rfl⟩)), hV, FrP.rf _ _⟩
      rcases h with ⟨-, h⟩ | ⟨-, h⟩
      · exact (Or.inl h)
      · exact (Or.inr (h))
set_option maxHeartbeats 2000000 in
theorem kV_open {l : Launch} {D : va_G} {ky : Nat → ClassId} {z : Nat} {w : WT} (hl : l.stackTraces = false) {b : Nat} {P : Nat → Prop} {T : Int → Int} {v B : Int → Int → Int} {sc dn : Int} {n : Int} {lo co ct : Int → Int} {nm fl : Int → Int → Int} {c : Int} (hV : VW w ky b P T v B sc dn n lo co ct nm fl) (hS : FS T v B sc dn c) (hc : c ≤ 200) {q : Int} (hN : NI n lo co ct nm fl) (hq : 0 ≤ q ∧ q ≤ 999) : MtW l D ky z yL_does wsL_does { frames := 9, cells := 3, slots := 18, locals := 154 } [.ref b, .int (iI 1), .int (iI q)] w (fun r w' => ∃ (a : Int) (T1 : Int → Int) (v1 B1 : Int → Int → Int) (s1 d1 : Int), r = some (.int (iI a)) ∧ RR_open (dF n lo co ct nm fl q) T v B sc dn a T1 v1 B1 s1 d1 ∧ VW w' ky b P T1 v1 B1 s1 d1 n lo co ct nm fl ∧ FrP w w' P P) := by
  obtain ⟨g, t, ar, d, ac, ab, la, na, fa, hW, hD, rfl⟩ := id hV
  refine MtW.mono (kL_does_open hl (kX4_open hl hW hS.1 hD hN.1 (q := q) (by omega) (fun j a b => by have := hS.2.2.2.2.2.1 j a b; omega)) hV.obj (fun r w1 h => ?_) (fun E h => ?_)) (fun r w1 h => ?_)
  · rcases h with ⟨h1, h2, h3, rfl, h4, h5, h6⟩
    · exact ⟨_, rfl⟩
  · exact h.elim (fun h => Or.inl h.1) (fun h => Or.inr h.1)
  · rcases h with h | ⟨rfl, rfl, E, h⟩
    · rcases h with ⟨h1, h2, h3, rfl, h4, h5, h6⟩
      · exact ⟨_, _, _, _, _, _, rfl, (Or.inl ⟨⟨h2, h3⟩, rfl, rfl, rfl, rfl, rfl, rfl, h5⟩), VW.cls hW hD h4 h6⟩
    · rcases h with ⟨-, h⟩ | ⟨-, -, h⟩
      · exact absurd hq h
      · exact ⟨_, _, _, _, _, _, rfl, (Or.inr (⟨h, rfl, rfl, rfl, rfl, rfl, rfl⟩)), hV, FrP.rf _ _⟩
set_option maxHeartbeats 2000000 in
theorem kV_delete {l : Launch} {D : va_G} {ky : Nat → ClassId} {z : Nat} {w : WT} (hl : l.stackTraces = false) {b : Nat} {P : Nat → Prop} {T : Int → Int} {v B : Int → Int → Int} {sc dn : Int} {n : Int} {lo co ct : Int → Int} {nm fl : Int → Int → Int} {c : Int} (hV : VW w ky b P T v B sc dn n lo co ct nm fl) (hS : FS T v B sc dn c) (hc : c ≤ 200) {q : Int} (hN : NI n lo co ct nm fl) (hq : 0 ≤ q ∧ q ≤ 999) : MtW l D ky z yL_does wsL_does { frames := 9, cells := 3, slots := 18, locals := 177 } [.ref b, .int (iI 3), .int (iI q)] w (fun r w' => ∃ (a : Int) (T1 : Int → Int) (v1 B1 : Int → Int → Int) (s1 d1 : Int), r = some (.int (iI a)) ∧ RR_delete (dF n lo co ct nm fl q) T v B sc dn a T1 v1 B1 s1 d1 ∧ ∃ (ct' : Int → Int) (nm' fl' : Int → Int → Int), RDEL q dn n lo co ct nm fl ct' nm' fl' ∧ VW w' ky b P T1 v1 B1 s1 d1 n lo co ct' nm' fl' ∧ FrP w w' P P) := by
  obtain ⟨g, t, ar, d, ac, ab, la, na, fa, hW, hD, rfl⟩ := id hV
  refine MtW.mono (kL_does_delete hl (kX4_delete hl hW hS.1 hD hN.1 (q := q) (by omega)) hV.obj (fun r w1 h => ?_) (fun E h => ?_)) (fun r w1 h => ?_)
  · rcases h with ⟨h1, h2, h3, (⟨h4, rfl, h5, h6, h7, h8⟩ | ⟨h9, h10, rfl, h11, h12, h13, h14⟩ | ⟨h15, h16, rfl, h17, h18, h19, h20⟩)⟩
    · exact ⟨_, rfl⟩
    · exact ⟨_, rfl⟩
    · exact ⟨_, rfl⟩
  · exact h.elim (fun h => Or.inl h.1) (fun h => Or.inr h.1)
  · rcases h with h | ⟨rfl, rfl, E, h⟩
    · rcases h with ⟨h1, h2, h3, (⟨h4, rfl, h5, h6, h7, h8⟩ | ⟨h9, h10, rfl, h11, h12, h13, h14⟩ | ⟨h15, h16, rfl, h17, h18, h19, h20⟩)⟩
      · exact ⟨_, _, _, _, _, _, rfl, (Or.inl ⟨⟨h2, h3, h4⟩, rfl, rfl, rfl, rfl, rfl, rfl, h6⟩), _, _, _, Or.inl ⟨h2, h3, rfl, rfl, rfl⟩, VW.dir h5 h7 h8⟩
      · exact ⟨_, _, _, _, _, _, rfl, (Or.inr (Or.inl ⟨⟨h2, h3, h9, h10⟩, rfl, rfl, rfl, rfl, rfl, rfl, h12⟩)), _, _, _, Or.inl ⟨h2, h3, rfl, rfl, rfl⟩, VW.dir h11 h13 h14⟩
      · exact ⟨_, _, _, _, _, _, rfl, (Or.inr (Or.inr (Or.inl ⟨⟨h2, h3, h15, h16⟩, rfl, rfl, rfl, rfl, rfl, rfl, h18⟩))), _, _, _, Or.inl ⟨h2, h3, rfl, rfl, rfl⟩, VW.dir h17 h19 h20⟩
    · rcases h with ⟨-, h⟩ | ⟨-, -, h⟩
      · exact absurd hq h
      · exact ⟨_, _, _, _, _, _, rfl, (Or.inr (Or.inr (Or.inr (⟨h, rfl, rfl, rfl, rfl, rfl, rfl⟩)))), _, _, _, Or.inr ⟨h, rfl, rfl, rfl⟩, hV, FrP.rf _ _⟩
set_option maxHeartbeats 2000000 in
theorem kV_create {l : Launch} {D : va_G} {ky : Nat → ClassId} {z : Nat} {w : WT} (hl : l.stackTraces = false) {b : Nat} {P : Nat → Prop} {T : Int → Int} {v B : Int → Int → Int} {sc dn : Int} {n : Int} {lo co ct : Int → Int} {nm fl : Int → Int → Int} {c : Int} (hV : VW w ky b P T v B sc dn n lo co ct nm fl) (hS : FS T v B sc dn c) (hc : c ≤ 200) {q : Int} (hN : NI n lo co ct nm fl) (hq : 0 ≤ q ∧ q ≤ 999) : MtW l D ky z yL_does wsL_does { frames := 9, cells := 6, slots := 33, locals := 154 } [.ref b, .int (iI 0), .int (iI q)] w (fun r w' => ∃ (a : Int) (T1 : Int → Int) (v1 B1 : Int → Int → Int) (s1 d1 : Int), r = some (.int (iI a)) ∧ RR_create (dF n lo co ct nm fl q) n T v B sc dn a T1 v1 B1 s1 d1 ∧ ∃ (P' : Nat → Prop) (n' : Int) (lo' co' ct' : Int → Int) (nm' fl' : Int → Int → Int), RADD q dn (fF (fun j => v j 2 = 0) 0 16) n lo co ct nm fl n' lo' co' ct' nm' fl' ∧ VW w' ky b P' T1 v1 B1 s1 d1 n' lo' co' ct' nm' fl' ∧ FrP w w' P P') := by
  obtain ⟨g, t, ar, d, ac, ab, la, na, fa, hW, hD, rfl⟩ := id hV
  refine MtW.mono (kL_does_create hl (kX4_createF hl hW hS.1 hD hN.1 (q := q) (by omega) hN.2.1 (fun i e => hN.2.2.2.1 i 2 (by decide) (by omega))) hV.obj (fun r w1 h => ?_) (fun E h => ?_)) (fun r w1 h => ?_)
  · rcases h with ⟨h1, h2, h3, h4, h5, rfl, h6, h7, la', na', fa', n', lo', co', ct', nm', fl', h8, h9, h10, h11⟩
    · exact ⟨_, rfl⟩
  · exact h.elim (fun h => Or.inl h.1) (fun h => Or.inr h.1)
  · rcases h with h | ⟨rfl, rfl, E, h⟩
    · rcases h with ⟨h1, h2, h3, h4, h5, rfl, h6, h7, la', na', fa', n', lo', co', ct', nm', fl', h8, h9, h10, h11⟩
      · have hv := VW.add h6 h8 h10 h11
        exact ⟨_, _, _, _, _, _, rfl, Or.inl ⟨⟨h2, h3, h4, h5⟩, rfl, rfl, rfl, rfl, rfl, rfl, h7⟩, _, _, _, _, _, _, _, Or.inl ⟨⟨h2, h3, h4, h5⟩, h9⟩, hv⟩
    · rcases h with ⟨-, h⟩ | ⟨-, -, h⟩
      · exact absurd hq h
      · exact ⟨_, _, _, _, _, _, rfl, Or.inr ⟨h, rfl, rfl, rfl, rfl, rfl, rfl⟩, _, _, _, _, _, _, _, Or.inr ⟨h, rfl, rfl, rfl, rfl, rfl, rfl⟩, hV, FrP.rf _ _⟩
