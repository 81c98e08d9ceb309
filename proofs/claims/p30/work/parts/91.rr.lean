/-! what a call answers and changes, without the world; it is one thing; what holds of the state behind it -/
theorem eqI_nn {f : Int → Int} {x y : Int} (hy : y ≤ 64) : 0 ≤ sI (fun p => eqI (f p) x) y 64 := (sI_bd (g := fun p => eqI (f p) x) (fun _ => eqI_bd _ _) hy).1
theorem u36 (f : Int → Int) (x : Int) : fU f 3 x 6 = f 6 := rfl
theorem u37 (f : Int → Int) (x : Int) : fU f 3 x 7 = f 7 := rfl
theorem u39 (f : Int → Int) (x : Int) : fU f 3 x 9 = f 9 := rfl
theorem u86 (f : Int → Int) (x : Int) : fU f 8 x 6 = f 6 := rfl
theorem u87 (f : Int → Int) (x : Int) : fU f 8 x 7 = f 7 := rfl
theorem u96 (f : Int → Int) (x : Int) : fU f 9 x 6 = f 6 := rfl
theorem u97 (f : Int → Int) (x : Int) : fU f 9 x 7 = f 7 := rfl
theorem u99 (f : Int → Int) (x : Int) : fU f 9 x 9 = x := rfl
theorem NI.del {n : Int} {lo co ct : Int → Int} {nm fl : Int → Int → Int} (h : NI n lo co ct nm fl) {q : Int} (hd : 0 ≤ dF n lo co ct nm fl q) :
    NI n lo co (fU ct (lLk n lo co ct nm q) (ct (lLk n lo co ct nm q) - 1)) (fU nm (lLk n lo co ct nm q) (rmF (nm (lLk n lo co ct nm q)) (fF (fun j => nm (lLk n lo co ct nm q) j = q) 0 (ct (lLk n lo co ct nm q))) (ct (lLk n lo co ct nm q)))) (fU fl (lLk n lo co ct nm q) (rmF (fl (lLk n lo co ct nm q)) (fF (fun j => nm (lLk n lo co ct nm q) j = q) 0 (ct (lLk n lo co ct nm q))) (ct (lLk n lo co ct nm q)))) ∧ PT n (fU ct (lLk n lo co ct nm q) (ct (lLk n lo co ct nm q) - 1)) ≤ PT n ct ∧ ∀ f9 : Int → Int, (∀ q', 0 ≤ q' → q' ≤ 999 → f9 q' = dF n lo co ct nm fl q' + 1) → ∀ q', 0 ≤ q' → q' ≤ 999 → fU f9 q 0 q' = dF n lo co (fU ct (lLk n lo co ct nm q) (ct (lLk n lo co ct nm q) - 1)) (fU nm (lLk n lo co ct nm q) (rmF (nm (lLk n lo co ct nm q)) (fF (fun j => nm (lLk n lo co ct nm q) j = q) 0 (ct (lLk n lo co ct nm q))) (ct (lLk n lo co ct nm q)))) (fU fl (lLk n lo co ct nm q) (rmF (fl (lLk n lo co ct nm q)) (fF (fun j => nm (lLk n lo co ct nm q) j = q) 0 (ct (lLk n lo co ct nm q))) (ct (lLk n lo co ct nm q)))) q' + 1 := by
  have hn := h.1.1.1
  have h1 := lLk_bd lo co ct nm q hn
  have h0 := (fLk_bd lo co q hn).1
  have hs := hA_iff.mp (h.has hd)
  rcases fF_spec (P := fun j => nm (lLk n lo co ct nm q) j = q) (b := ct (lLk n lo co ct nm q)) _ 0 rfl with ⟨e, -⟩ | ⟨e1, e2, e3, -⟩
  · omega
  · obtain ⟨r1, r2, r3⟩ := h.rm (q := q) ⟨by omega, h1.2⟩ ⟨e1, e2⟩ e3
    refine ⟨r1, r3, fun f9 hf q' a b => ?_⟩
    by_cases hq : q' = q
    · subst hq
      rw [fU_s, dF_no hn (fun i k i1 i2 k1 k2 e => ((r2 q' _).mp ⟨i, k, i1, i2, k1, k2, e, rfl⟩).1 rfl)]
      rfl
    · rw [fU_n hq, hf q' a b, dF_EF h r1 (fun x => (r2 q' x).trans ⟨And.right, fun e => ⟨hq, e⟩⟩)]
theorem NI.put {n : Int} {lo co ct : Int → Int} {nm fl : Int → Int → Int} (h : NI n lo co ct nm fl) {q x n' : Int} {lo' co' ct' : Int → Int} {nm' fl' : Int → Int → Int} (hq : 0 ≤ q ∧ q ≤ 999) (hx : 0 ≤ x ∧ x ≤ 15) (hn : n < 1000) (hd : dF n lo co ct nm fl q = -1) (hA' : ADD q x n lo co ct nm fl n' lo' co' ct' nm' fl') :
    NI n' lo' co' ct' nm' fl' ∧ PT n' ct' ≤ PT n ct + 1 ∧ ∀ f9 : Int → Int, (∀ q', 0 ≤ q' → q' ≤ 999 → f9 q' = dF n lo co ct nm fl q' + 1) → ∀ q', 0 ≤ q' → q' ≤ 999 → fU f9 q (x + 1) q' = dF n' lo' co' ct' nm' fl' q' + 1 := by
  obtain ⟨r1, r2, r3⟩ := h.add hq hx hn (h.no hd) hA'
  refine ⟨r1, r3, fun f9 hf q' a b => ?_⟩
  by_cases hq : q' = q
  · subst hq
    rw [fU_s, r1.dFe ((r2 q' x).mpr (Or.inr ⟨rfl, rfl⟩))]
  · rw [fU_n hq, hf q' a b, dF_EF h r1 (fun y => (r2 q' y).trans ⟨fun e => e.elim id (fun e => absurd e.1 hq), Or.inl⟩)]
noncomputable def RR_close (q : Int) (T : Int → Int) (v B : Int → Int → Int) (sc dn : Int) (a : Int) (T1 : Int → Int) (v1 B1 : Int → Int → Int) (s1 d1 : Int) : Prop :=
  (((0 ≤ q ∧ q < 16 ∧ v q 2 = 1) ∧ dn = 0 ∧ 0 < v q 3 ∧ ¬ (v q 9 = 1 ∧ v q 3 = 1)) ∧ (v q 3 - 1) = a ∧ T = T1 ∧ fU v q (fU (v q) 3 (v q 3 - 1)) = v1 ∧ B = B1 ∧ sc = s1 ∧ dn = d1 ∧ CI T1 v1 B1 s1 d1) ∨
  (((0 ≤ q ∧ q < 16 ∧ v q 2 = 1) ∧ dn = 0 ∧ 0 < v q 3 ∧ v q 9 = 1 ∧ v q 3 = 1 ∧ (ctS 0 (64 - (0 : Int)).toNat (tkF T ((fU v q (fU (v q) 3 (v q 3 - 1))) q 6) ((fU v q (fU (v q) 3 (v q 3 - 1))) q 7) 0) (drF (B q) 0 64) sc 0).1 = 1) ∧ (-1) = a ∧ rlT (fU (fU v q (fU (v q) 3 (v q 3 - 1))) q (ctU ((fU v q (fU (v q) 3 (v q 3 - 1))) q) (B q) 0)) (ctS 0 (64 - (0 : Int)).toNat (tkF T ((fU v q (fU (v q) 3 (v q 3 - 1))) q 6) ((fU v q (fU (v q) 3 (v q 3 - 1))) q 7) 0) (drF (B q) 0 64) sc 0).2.1 16 = T1 ∧ flV (rlV (fU (fU v q (fU (v q) 3 (v q 3 - 1))) q (ctU ((fU v q (fU (v q) 3 (v q 3 - 1))) q) (B q) 0)) 16) 16 = v1 ∧ flB (fU B q (ctS 0 (64 - (0 : Int)).toNat (tkF T ((fU v q (fU (v q) 3 (v q 3 - 1))) q 6) ((fU v q (fU (v q) 3 (v q 3 - 1))) q 7) 0) (drF (B q) 0 64) sc 0).2.2.1) 16 = B1 ∧ -1 = s1 ∧ 1 = d1 ∧ CI T1 v1 B1 s1 d1) ∨
  (((0 ≤ q ∧ q < 16 ∧ v q 2 = 1) ∧ dn = 0 ∧ 0 < v q 3 ∧ v q 9 = 1 ∧ v q 3 = 1 ∧ (ctS 0 (64 - (0 : Int)).toNat (tkF T ((fU v q (fU (v q) 3 (v q 3 - 1))) q 6) ((fU v q (fU (v q) 3 (v q 3 - 1))) q 7) 0) (drF (B q) 0 64) sc 0).1 = 0) ∧ 0 = a ∧ (ctS 0 (64 - (0 : Int)).toNat (tkF T ((fU v q (fU (v q) 3 (v q 3 - 1))) q 6) ((fU v q (fU (v q) 3 (v q 3 - 1))) q 7) 0) (drF (B q) 0 64) sc 0).2.1 = T1 ∧ fU (fU v q (fU (v q) 3 (v q 3 - 1))) q (fU (fU (fU (fU (ctU ((fU v q (fU (v q) 3 (v q 3 - 1))) q) (B q) 0) 8 ((fU v q (fU (v q) 3 (v q 3 - 1))) q 9)) 2 0) 8 0) 9 0) = v1 ∧ fU B q (ctS 0 (64 - (0 : Int)).toNat (tkF T ((fU v q (fU (v q) 3 (v q 3 - 1))) q 6) ((fU v q (fU (v q) 3 (v q 3 - 1))) q 7) 0) (drF (B q) 0 64) sc 0).2.2.1 = B1 ∧ (ctS 0 (64 - (0 : Int)).toNat (tkF T ((fU v q (fU (v q) 3 (v q 3 - 1))) q 6) ((fU v q (fU (v q) 3 (v q 3 - 1))) q 7) 0) (drF (B q) 0 64) sc 0).2.2.2.1 = s1 ∧ dn = d1 ∧ CI T1 v1 B1 s1 d1) ∨
  ((¬ (0 ≤ q ∧ q < 16 ∧ v q 2 = 1) ∨ ((0 ≤ q ∧ q < 16 ∧ v q 2 = 1) ∧ (dn = 1 ∨ v q 3 = 0))) ∧ -8 = a ∧ T = T1 ∧ v = v1 ∧ B = B1 ∧ sc = s1 ∧ dn = d1)
set_option maxRecDepth 100000 in
set_option maxHeartbeats 2000000 in
theorem RR_close_det {q : Int} {T : Int → Int} {v B : Int → Int → Int} {sc dn : Int} {a a2 : Int} {T1 : Int → Int} {v1 B1 : Int → Int → Int} {s1 d1 : Int} {T2 : Int → Int} {v2 B2 : Int → Int → Int} {s2 d2 : Int} (h1 : RR_close q T v B sc dn a T1 v1 B1 s1 d1) (h2 : RR_close q T v B sc dn a2 T2 v2 B2 s2 d2) : a2 = a ∧ T2 = T1 ∧ v2 = v1 ∧ B2 = B1 ∧ s2 = s1 ∧ d2 = d1 := by
  unfold RR_close at h1 h2
  rcases h1 with ⟨c, rfl, rfl, rfl, rfl, rfl, rfl, -⟩ | ⟨c, rfl, rfl, rfl, rfl, rfl, rfl, -⟩ | ⟨c, rfl, rfl, rfl, rfl, rfl, rfl, -⟩ | ⟨c, rfl, rfl, rfl, rfl, rfl, rfl⟩
  · rcases h2 with ⟨cx, rfl, rfl, rfl, rfl, rfl, rfl, -⟩ | ⟨cx, rfl, rfl, rfl, rfl, rfl, rfl, -⟩ | ⟨cx, rfl, rfl, rfl, rfl, rfl, rfl, -⟩ | ⟨cx, rfl, rfl, rfl, rfl, rfl, rfl⟩
    · exact ⟨rfl, rfl, rfl, rfl, rfl, rfl⟩
    · exfalso; omega
    · exfalso; omega
    · exfalso; omega
  · rcases h2 with ⟨cx, rfl, rfl, rfl, rfl, rfl, rfl, -⟩ | ⟨cx, rfl, rfl, rfl, rfl, rfl, rfl, -⟩ | ⟨cx, rfl, rfl, rfl, rfl, rfl, rfl, -⟩ | ⟨cx, rfl, rfl, rfl, rfl, rfl, rfl⟩
    · exfalso; omega
    · exact ⟨rfl, rfl, rfl, rfl, rfl, rfl⟩
    · exfalso; omega
    · exfalso; omega
  · rcases h2 with ⟨cx, rfl, rfl, rfl, rfl, rfl, rfl, -⟩ | ⟨cx, rfl, rfl, rfl, rfl, rfl, rfl, -⟩ | ⟨cx, rfl, rfl, rfl, rfl, rfl, rfl, -⟩ | ⟨cx, rfl, rfl, rfl, rfl, rfl, rfl⟩
    · exfalso; omega
    · exfalso; omega
    · exact ⟨rfl, rfl, rfl, rfl, rfl, rfl⟩
    · exfalso; omega
  · rcases h2 with ⟨cx, rfl, rfl, rfl, rfl, rfl, rfl, -⟩ | ⟨cx, rfl, rfl, rfl, rfl, rfl, rfl, -⟩ | ⟨cx, rfl, rfl, rfl, rfl, rfl, rfl, -⟩ | ⟨cx, rfl, rfl, rfl, rfl, rfl, rfl⟩
    · exfalso; omega
    · exfalso; omega
    · exfalso; omega
    · exact ⟨rfl, rfl, rfl, rfl, rfl, rfl⟩
set_option maxRecDepth 100000 in
set_option maxHeartbeats 2000000 in
theorem RR_close_FS {q : Int} {T : Int → Int} {v B : Int → Int → Int} {sc dn : Int} {a c : Int} {T1 : Int → Int} {v1 B1 : Int → Int → Int} {s1 d1 : Int} (hS : FS T v B sc dn c) (h : RR_close q T v B sc dn a T1 v1 B1 s1 d1) : FS T1 v1 B1 s1 d1 (c + 1) := by
  have h3c := hS.2.2.2.2.2.1
  unfold RR_close at h
  rcases h with ⟨⟨c1, c2, c3, c4⟩, rfl, rfl, rfl, rfl, rfl, rfl, hI1⟩ | ⟨⟨c1, c2, c3, c4, c5, c6⟩, rfl, rfl, rfl, rfl, rfl, rfl, hI1⟩ | ⟨⟨c1, c2, c3, c4, c5, c6⟩, rfl, rfl, rfl, rfl, rfl, rfl, hI1⟩ | ⟨-, rfl, rfl, rfl, rfl, rfl, rfl⟩
  · have h39 := h3c q c1.1 c1.2.1
    have hnn := eqI_nn (f := B q) (x := -2) (y := 0) (by decide)
    exact hS.setv (u := (fU (v q) 3 (v q 3 - 1))) hI1 ⟨rfl, rfl, Int.le_refl _, by show v q 3 - 1 ≤ c + 1; omega⟩
  · have h39 := h3c q c1.1 c1.2.1
    have hnn := eqI_nn (f := B q) (x := -2) (y := 0) (by decide)
    simp only [-Int.reduceSub, -Int.reduceToNat, fU_s, fU_ss, u36, u37, u39, u86, u87, u96, u97, u99] at c6 hI1 ⊢
    exact (hS.cutC (u := ctU (fU (v q) 3 (v q 3 - 1)) (B q) 0) ⟨c1.1, c1.2.1⟩ ⟨by decide, by decide⟩ ⟨rfl, rfl⟩ hI1).up
  · have h39 := h3c q c1.1 c1.2.1
    have hnn := eqI_nn (f := B q) (x := -2) (y := 0) (by decide)
    simp only [-Int.reduceSub, -Int.reduceToNat, fU_s, fU_ss, u36, u37, u39, u86, u87, u96, u97, u99] at c6 hI1 ⊢
    exact (hS.cutD (u := (fU (fU (fU (fU (ctU (fU (v q) 3 (v q 3 - 1)) (B q) 0) 8 (v q 9)) 2 0) 8 0) 9 0)) ⟨c1.1, c1.2.1⟩ ⟨by decide, by decide⟩ c2 c6 ⟨rfl, rfl, by show v q 4 - sI (fun p => eqI (B q p) (-2)) 0 64 ≤ v q 4; omega, by show v q 3 - 1 ≤ c; omega⟩ hI1).up
  · exact hS.up
noncomputable def RR_flush (q : Int) (T : Int → Int) (v B : Int → Int → Int) (sc dn : Int) (a : Int) (T1 : Int → Int) (v1 B1 : Int → Int → Int) (s1 d1 : Int) : Prop :=
  (((0 ≤ q ∧ q < 16 ∧ v q 2 = 1) ∧ dn = 0 ∧ 0 ≤ lF (flR q 64 0 (T, v, B)).1 (flR q 64 0 (T, v, B)).2.1) ∧ (v q 4 - (flR q 64 0 (T, v, B)).2.1 q 4) = a ∧ (flR q 64 0 (T, v, B)).1 = T1 ∧ (flR q 64 0 (T, v, B)).2.1 = v1 ∧ (flR q 64 0 (T, v, B)).2.2 = B1 ∧ sc = s1 ∧ dn = d1 ∧ CI T1 v1 B1 s1 d1) ∨
  ((¬ (0 ≤ q ∧ q < 16 ∧ v q 2 = 1) ∨ ((0 ≤ q ∧ q < 16 ∧ v q 2 = 1) ∧ dn = 1)) ∧ -8 = a ∧ T = T1 ∧ v = v1 ∧ B = B1 ∧ sc = s1 ∧ dn = d1)
set_option maxRecDepth 100000 in
set_option maxHeartbeats 2000000 in
theorem RR_flush_det {q : Int} {T : Int → Int} {v B : Int → Int → Int} {sc dn : Int} {a a2 : Int} {T1 : Int → Int} {v1 B1 : Int → Int → Int} {s1 d1 : Int} {T2 : Int → Int} {v2 B2 : Int → Int → Int} {s2 d2 : Int} (h1 : RR_flush q T v B sc dn a T1 v1 B1 s1 d1) (h2 : RR_flush q T v B sc dn a2 T2 v2 B2 s2 d2) : a2 = a ∧ T2 = T1 ∧ v2 = v1 ∧ B2 = B1 ∧ s2 = s1 ∧ d2 = d1 := by
  unfold RR_flush at h1 h2
  rcases h1 with ⟨c, rfl, rfl, rfl, rfl, rfl, rfl, -⟩ | ⟨c, rfl, rfl, rfl, rfl, rfl, rfl⟩
  · rcases h2 with ⟨cx, rfl, rfl, rfl, rfl, rfl, rfl, -⟩ | ⟨cx, rfl, rfl, rfl, rfl, rfl, rfl⟩
    · exact ⟨rfl, rfl, rfl, rfl, rfl, rfl⟩
    · exfalso; omega
  · rcases h2 with ⟨cx, rfl, rfl, rfl, rfl, rfl, rfl, -⟩ | ⟨cx, rfl, rfl, rfl, rfl, rfl, rfl⟩
    · exfalso; omega
    · exact ⟨rfl, rfl, rfl, rfl, rfl, rfl⟩
set_option maxRecDepth 100000 in
set_option maxHeartbeats 2000000 in
theorem RR_flush_FS {q : Int} {T : Int → Int} {v B : Int → Int → Int} {sc dn : Int} {a c : Int} {T1 : Int → Int} {v1 B1 : Int → Int → Int} {s1 d1 : Int} (hS : FS T v B sc dn c) (h : RR_flush q T v B sc dn a T1 v1 B1 s1 d1) : FS T1 v1 B1 s1 d1 (c + 1) := by
  have h3c := hS.2.2.2.2.2.1
  unfold RR_flush at h
  rcases h with ⟨⟨c1, c2, c3⟩, rfl, rfl, rfl, rfl, rfl, rfl, hI1⟩ | ⟨-, rfl, rfl, rfl, rfl, rfl, rfl⟩
  · exact hS.fl ⟨c1.1, c1.2.1⟩ hI1 c3
  · exact hS.up
noncomputable def RR_start (T : Int → Int) (v B : Int → Int → Int) (sc dn : Int) (a : Int) (T1 : Int → Int) (v1 B1 : Int → Int → Int) (s1 d1 : Int) : Prop :=
  ((dn = 1) ∧ (sI (fun j => v j 8) 0 16) = a ∧ (stS (T, v, B) 16).1 = T1 ∧ (stS (T, v, B) 16).2.1 = v1 ∧ (stS (T, v, B) 16).2.2 = B1 ∧ -1 = s1 ∧ 0 = d1 ∧ CI T1 v1 B1 s1 d1) ∨
  ((dn = 0) ∧ -8 = a ∧ T = T1 ∧ v = v1 ∧ B = B1 ∧ sc = s1 ∧ dn = d1)
set_option maxRecDepth 100000 in
set_option maxHeartbeats 2000000 in
theorem RR_start_det {T : Int → Int} {v B : Int → Int → Int} {sc dn : Int} {a a2 : Int} {T1 : Int → Int} {v1 B1 : Int → Int → Int} {s1 d1 : Int} {T2 : Int → Int} {v2 B2 : Int → Int → Int} {s2 d2 : Int} (h1 : RR_start T v B sc dn a T1 v1 B1 s1 d1) (h2 : RR_start T v B sc dn a2 T2 v2 B2 s2 d2) : a2 = a ∧ T2 = T1 ∧ v2 = v1 ∧ B2 = B1 ∧ s2 = s1 ∧ d2 = d1 := by
  unfold RR_start at h1 h2
  rcases h1 with ⟨c, rfl, rfl, rfl, rfl, rfl, rfl, -⟩ | ⟨c, rfl, rfl, rfl, rfl, rfl, rfl⟩
  · rcases h2 with ⟨cx, rfl, rfl, rfl, rfl, rfl, rfl, -⟩ | ⟨cx, rfl, rfl, rfl, rfl, rfl, rfl⟩
    · exact ⟨rfl, rfl, rfl, rfl, rfl, rfl⟩
    · exfalso; omega
  · rcases h2 with ⟨cx, rfl, rfl, rfl, rfl, rfl, rfl, -⟩ | ⟨cx, rfl, rfl, rfl, rfl, rfl, rfl⟩
    · exfalso; omega
    · exact ⟨rfl, rfl, rfl, rfl, rfl, rfl⟩
set_option maxRecDepth 100000 in
set_option maxHeartbeats 2000000 in
theorem RR_start_FS {T : Int → Int} {v B : Int → Int → Int} {sc dn : Int} {a c : Int} {T1 : Int → Int} {v1 B1 : Int → Int → Int} {s1 d1 : Int} (hS : FS T v B sc dn c) (h : RR_start T v B sc dn a T1 v1 B1 s1 d1) : FS T1 v1 B1 s1 d1 (c + 1) := by
  have h3c := hS.2.2.2.2.2.1
  unfold RR_start at h
  rcases h with ⟨c1, rfl, rfl, rfl, rfl, rfl, rfl, hI1⟩ | ⟨-, rfl, rfl, rfl, rfl, rfl, rfl⟩
  · obtain rfl := hS.2.2.2.2.1 c1
    obtain ⟨e1, e2, e3, e4⟩ := hS.sts 16 (Nat.le_refl _)
    exact FS.up ⟨hI1, e1, e4, Or.inl rfl, fun e => rfl, e3, hS.2.2.2.2.2.2⟩
  · exact hS.up
noncomputable def RR_cut (q y : Int) (T : Int → Int) (v B : Int → Int → Int) (sc dn : Int) (a : Int) (T1 : Int → Int) (v1 B1 : Int → Int → Int) (s1 d1 : Int) : Prop :=
  (((0 ≤ q ∧ q < 16 ∧ v q 2 = 1) ∧ (0 ≤ y ∧ y ≤ 64) ∧ dn = 0 ∧ (ctS y (64 - (y : Int)).toNat (tkF T (v q 6) (v q 7) 0) (drF (B q) y 64) sc 0).1 = 1) ∧ (-1) = a ∧ rlT (fU v q (ctU (v q) (B q) y)) (ctS y (64 - (y : Int)).toNat (tkF T (v q 6) (v q 7) 0) (drF (B q) y 64) sc 0).2.1 16 = T1 ∧ flV (rlV (fU v q (ctU (v q) (B q) y)) 16) 16 = v1 ∧ flB (fU B q (ctS y (64 - (y : Int)).toNat (tkF T (v q 6) (v q 7) 0) (drF (B q) y 64) sc 0).2.2.1) 16 = B1 ∧ -1 = s1 ∧ 1 = d1 ∧ CI T1 v1 B1 s1 d1) ∨
  (((0 ≤ q ∧ q < 16 ∧ v q 2 = 1) ∧ (0 ≤ y ∧ y ≤ 64) ∧ dn = 0 ∧ (ctS y (64 - (y : Int)).toNat (tkF T (v q 6) (v q 7) 0) (drF (B q) y 64) sc 0).1 = 0 ∧ 0 ≤ (ctS y (64 - (y : Int)).toNat (tkF T (v q 6) (v q 7) 0) (drF (B q) y 64) sc 0).2.2.2.2 ∧ (ctS y (64 - (y : Int)).toNat (tkF T (v q 6) (v q 7) 0) (drF (B q) y 64) sc 0).2.2.2.2 ≤ 64) ∧ (ctS y (64 - (y : Int)).toNat (tkF T (v q 6) (v q 7) 0) (drF (B q) y 64) sc 0).2.2.2.2 = a ∧ (ctS y (64 - (y : Int)).toNat (tkF T (v q 6) (v q 7) 0) (drF (B q) y 64) sc 0).2.1 = T1 ∧ fU v q (fU (ctU (v q) (B q) y) 8 (v q 9)) = v1 ∧ fU B q (ctS y (64 - (y : Int)).toNat (tkF T (v q 6) (v q 7) 0) (drF (B q) y 64) sc 0).2.2.1 = B1 ∧ (ctS y (64 - (y : Int)).toNat (tkF T (v q 6) (v q 7) 0) (drF (B q) y 64) sc 0).2.2.2.1 = s1 ∧ dn = d1 ∧ CI T1 v1 B1 s1 d1) ∨
  ((¬ (0 ≤ q ∧ q < 16 ∧ v q 2 = 1) ∨ ((0 ≤ q ∧ q < 16 ∧ v q 2 = 1) ∧ ¬ (0 ≤ y ∧ y ≤ 64)) ∨ ((0 ≤ q ∧ q < 16 ∧ v q 2 = 1) ∧ (0 ≤ y ∧ y ≤ 64) ∧ dn = 1)) ∧ -8 = a ∧ T = T1 ∧ v = v1 ∧ B = B1 ∧ sc = s1 ∧ dn = d1)
set_option maxRecDepth 100000 in
set_option maxHeartbeats 2000000 in
theorem RR_cut_det {q y : Int} {T : Int → Int} {v B : Int → Int → Int} {sc dn : Int} {a a2 : Int} {T1 : Int → Int} {v1 B1 : Int → Int → Int} {s1 d1 : Int} {T2 : Int → Int} {v2 B2 : Int → Int → Int} {s2 d2 : Int} (h1 : RR_cut q y T v B sc dn a T1 v1 B1 s1 d1) (h2 : RR_cut q y T v B sc dn a2 T2 v2 B2 s2 d2) : a2 = a ∧ T2 = T1 ∧ v2 = v1 ∧ B2 = B1 ∧ s2 = s1 ∧ d2 = d1 := by
  unfold RR_cut at h1 h2
  rcases h1 with ⟨c, rfl, rfl, rfl, rfl, rfl, rfl, -⟩ | ⟨c, rfl, rfl, rfl, rfl, rfl, rfl, -⟩ | ⟨c, rfl, rfl, rfl, rfl, rfl, rfl⟩
  · rcases h2 with ⟨cx, rfl, rfl, rfl, rfl, rfl, rfl, -⟩ | ⟨cx, rfl, rfl, rfl, rfl, rfl, rfl, -⟩ | ⟨cx, rfl, rfl, rfl, rfl, rfl, rfl⟩
    · exact ⟨rfl, rfl, rfl, rfl, rfl, rfl⟩
    · exfalso; omega
    · exfalso; omega
  · rcases h2 with ⟨cx, rfl, rfl, rfl, rfl, rfl, rfl, -⟩ | ⟨cx, rfl, rfl, rfl, rfl, rfl, rfl, -⟩ | ⟨cx, rfl, rfl, rfl, rfl, rfl, rfl⟩
    · exfalso; omega
    · exact ⟨rfl, rfl, rfl, rfl, rfl, rfl⟩
    · exfalso; omega
  · rcases h2 with ⟨cx, rfl, rfl, rfl, rfl, rfl, rfl, -⟩ | ⟨cx, rfl, rfl, rfl, rfl, rfl, rfl, -⟩ | ⟨cx, rfl, rfl, rfl, rfl, rfl, rfl⟩
    · exfalso; omega
    · exfalso; omega
    · exact ⟨rfl, rfl, rfl, rfl, rfl, rfl⟩
set_option maxRecDepth 100000 in
set_option maxHeartbeats 2000000 in
theorem RR_cut_FS {q y : Int} {T : Int → Int} {v B : Int → Int → Int} {sc dn : Int} {a c : Int} {T1 : Int → Int} {v1 B1 : Int → Int → Int} {s1 d1 : Int} (hS : FS T v B sc dn c) (h : RR_cut q y T v B sc dn a T1 v1 B1 s1 d1) : FS T1 v1 B1 s1 d1 (c + 1) := by
  have h3c := hS.2.2.2.2.2.1
  unfold RR_cut at h
  rcases h with ⟨⟨c1, c2, c3, c4⟩, rfl, rfl, rfl, rfl, rfl, rfl, hI1⟩ | ⟨⟨c1, c2, c3, c4, c5, c6⟩, rfl, rfl, rfl, rfl, rfl, rfl, hI1⟩ | ⟨-, rfl, rfl, rfl, rfl, rfl, rfl⟩
  · have h39 := h3c q c1.1 c1.2.1
    have hnn := eqI_nn (f := B q) (x := -2) c2.2
    exact (hS.cutC (u := ctU (v q) (B q) y) ⟨c1.1, c1.2.1⟩ c2 ⟨rfl, rfl⟩ hI1).up
  · have h39 := h3c q c1.1 c1.2.1
    have hnn := eqI_nn (f := B q) (x := -2) c2.2
    exact (hS.cutD (u := fU (ctU (v q) (B q) y) 8 (v q 9)) ⟨c1.1, c1.2.1⟩ c2 c3 c4 ⟨rfl, rfl, by show v q 4 - sI (fun p => eqI (B q p) (-2)) y 64 ≤ v q 4; omega, h39⟩ hI1).up
  · exact hS.up
noncomputable def RR_write (q x k : Int) (T : Int → Int) (v B : Int → Int → Int) (sc dn : Int) (a : Int) (T1 : Int → Int) (v1 B1 : Int → Int → Int) (s1 d1 : Int) : Prop :=
  (((0 ≤ q ∧ q < 16 ∧ v q 2 = 1) ∧ ((0 ≤ x ∧ x ≤ 63) ∧ 1 ≤ k ∧ k ≤ 64 - x) ∧ dn = 0 ∧ (sI (fun p => eqI (B q p) (-1)) x (x + k)) ≤ (128 - sI T 0 128 - sI (fun j => v j 4) 0 16)) ∧ (sI (fun p => eqI (B q p) (-1)) x (x + k)) = a ∧ T = T1 ∧ fU v q (fU (v q) 4 (v q 4 + (sI (fun p => eqI (B q p) (-1)) x (x + k)))) = v1 ∧ fU B q (rsF (B q) x (x + k)) = B1 ∧ sc = s1 ∧ dn = d1 ∧ CI T1 v1 B1 s1 d1) ∨
  (((0 ≤ q ∧ q < 16 ∧ v q 2 = 1) ∧ ((0 ≤ x ∧ x ≤ 63) ∧ 1 ≤ k ∧ k ≤ 64 - x) ∧ dn = 0 ∧ (128 - sI T 0 128 - sI (fun j => v j 4) 0 16) < (sI (fun p => eqI (B q p) (-1)) x (x + k)) ∧ (sI (fun p => eqI (B q p) (-1)) x (x + k)) ≤ (128 - sI T 0 128 - sI (fun j => v j 4) 0 16) + (sI (fun j => v j 7) 0 16)) ∧ (sI (fun p => eqI (B q p) (-1)) x (x + k)) = a ∧ rlT v T 16 = T1 ∧ fU (rlV v 16) q (fU (rlV v 16 q) 4 (rlV v 16 q 4 + (sI (fun p => eqI (B q p) (-1)) x (x + k)))) = v1 ∧ fU B q (rsF (B q) x (x + k)) = B1 ∧ sc = s1 ∧ dn = d1 ∧ CI T1 v1 B1 s1 d1) ∨
  ((¬ (0 ≤ q ∧ q < 16 ∧ v q 2 = 1) ∨ ((0 ≤ q ∧ q < 16 ∧ v q 2 = 1) ∧ ¬ ((0 ≤ x ∧ x ≤ 63) ∧ 1 ≤ k ∧ k ≤ 64 - x)) ∨ ((0 ≤ q ∧ q < 16 ∧ v q 2 = 1) ∧ ((0 ≤ x ∧ x ≤ 63) ∧ 1 ≤ k ∧ k ≤ 64 - x) ∧ (dn = 1 ∨ (128 - sI T 0 128 - sI (fun j => v j 4) 0 16) + (sI (fun j => v j 7) 0 16) < (sI (fun p => eqI (B q p) (-1)) x (x + k))))) ∧ -8 = a ∧ T = T1 ∧ v = v1 ∧ B = B1 ∧ sc = s1 ∧ dn = d1)
set_option maxRecDepth 100000 in
set_option maxHeartbeats 2000000 in
theorem RR_write_det {q x k : Int} {T : Int → Int} {v B : Int → Int → Int} {sc dn : Int} {a a2 : Int} {T1 : Int → Int} {v1 B1 : Int → Int → Int} {s1 d1 : Int} {T2 : Int → Int} {v2 B2 : Int → Int → Int} {s2 d2 : Int} (hk7 : 0 ≤ sI (fun j => v j 7) 0 16) (h1 : RR_write q x k T v B sc dn a T1 v1 B1 s1 d1) (h2 : RR_write q x k T v B sc dn a2 T2 v2 B2 s2 d2) : a2 = a ∧ T2 = T1 ∧ v2 = v1 ∧ B2 = B1 ∧ s2 = s1 ∧ d2 = d1 := by
  unfold RR_write at h1 h2
  rcases h1 with ⟨c, rfl, rfl, rfl, rfl, rfl, rfl, -⟩ | ⟨c, rfl, rfl, rfl, rfl, rfl, rfl, -⟩ | ⟨c, rfl, rfl, rfl, rfl, rfl, rfl⟩
  · rcases h2 with ⟨cx, rfl, rfl, rfl, rfl, rfl, rfl, -⟩ | ⟨cx, rfl, rfl, rfl, rfl, rfl, rfl, -⟩ | ⟨cx, rfl, rfl, rfl, rfl, rfl, rfl⟩
    · exact ⟨rfl, rfl, rfl, rfl, rfl, rfl⟩
    · exfalso; omega
    · exfalso; omega
  · rcases h2 with ⟨cx, rfl, rfl, rfl, rfl, rfl, rfl, -⟩ | ⟨cx, rfl, rfl, rfl, rfl, rfl, rfl, -⟩ | ⟨cx, rfl, rfl, rfl, rfl, rfl, rfl⟩
    · exfalso; omega
    · exact ⟨rfl, rfl, rfl, rfl, rfl, rfl⟩
    · exfalso; omega
  · rcases h2 with ⟨cx, rfl, rfl, rfl, rfl, rfl, rfl, -⟩ | ⟨cx, rfl, rfl, rfl, rfl, rfl, rfl, -⟩ | ⟨cx, rfl, rfl, rfl, rfl, rfl, rfl⟩
    · exfalso; omega
    · exfalso; omega
    · exact ⟨rfl, rfl, rfl, rfl, rfl, rfl⟩
set_option maxRecDepth 100000 in
set_option maxHeartbeats 2000000 in
theorem RR_write_FS {q x k : Int} {T : Int → Int} {v B : Int → Int → Int} {sc dn : Int} {a c : Int} {T1 : Int → Int} {v1 B1 : Int → Int → Int} {s1 d1 : Int} (hS : FS T v B sc dn c) (h : RR_write q x k T v B sc dn a T1 v1 B1 s1 d1) : FS T1 v1 B1 s1 d1 (c + 1) := by
  have h3c := hS.2.2.2.2.2.1
  unfold RR_write at h
  rcases h with ⟨⟨c1, c2, c3, c4⟩, rfl, rfl, rfl, rfl, rfl, rfl, hI1⟩ | ⟨⟨c1, c2, c3, c4, c5⟩, rfl, rfl, rfl, rfl, rfl, rfl, hI1⟩ | ⟨-, rfl, rfl, rfl, rfl, rfl, rfl⟩
  · exact hS.wr1 ⟨c1.1, c1.2.1⟩ hI1 c4
  · exact hS.wr2 ⟨c1.1, c1.2.1⟩ hI1 c5
  · exact hS.up
noncomputable def RR_crash (T : Int → Int) (v B : Int → Int → Int) (sc dn : Int) (a : Int) (T1 : Int → Int) (v1 B1 : Int → Int → Int) (s1 d1 : Int) : Prop :=
  ((dn = 0) ∧ 1 = a ∧ rlT v T 16 = T1 ∧ flV (rlV v 16) 16 = v1 ∧ flB B 16 = B1 ∧ -1 = s1 ∧ 1 = d1 ∧ CI T1 v1 B1 s1 d1) ∨
  ((dn = 1) ∧ 0 = a ∧ T = T1 ∧ v = v1 ∧ B = B1 ∧ sc = s1 ∧ dn = d1)
set_option maxRecDepth 100000 in
set_option maxHeartbeats 2000000 in
theorem RR_crash_det {T : Int → Int} {v B : Int → Int → Int} {sc dn : Int} {a a2 : Int} {T1 : Int → Int} {v1 B1 : Int → Int → Int} {s1 d1 : Int} {T2 : Int → Int} {v2 B2 : Int → Int → Int} {s2 d2 : Int} (h1 : RR_crash T v B sc dn a T1 v1 B1 s1 d1) (h2 : RR_crash T v B sc dn a2 T2 v2 B2 s2 d2) : a2 = a ∧ T2 = T1 ∧ v2 = v1 ∧ B2 = B1 ∧ s2 = s1 ∧ d2 = d1 := by
  unfold RR_crash at h1 h2
  rcases h1 with ⟨c, rfl, rfl, rfl, rfl, rfl, rfl, -⟩ | ⟨c, rfl, rfl, rfl, rfl, rfl, rfl⟩
  · rcases h2 with ⟨cx, rfl, rfl, rfl, rfl, rfl, rfl, -⟩ | ⟨cx, rfl, rfl, rfl, rfl, rfl, rfl⟩
    · exact ⟨rfl, rfl, rfl, rfl, rfl, rfl⟩
    · exfalso; omega
  · rcases h2 with ⟨cx, rfl, rfl, rfl, rfl, rfl, rfl, -⟩ | ⟨cx, rfl, rfl, rfl, rfl, rfl, rfl⟩
    · exfalso; omega
    · exact ⟨rfl, rfl, rfl, rfl, rfl, rfl⟩
set_option maxRecDepth 100000 in
set_option maxHeartbeats 2000000 in
theorem RR_crash_FS {T : Int → Int} {v B : Int → Int → Int} {sc dn : Int} {a c : Int} {T1 : Int → Int} {v1 B1 : Int → Int → Int} {s1 d1 : Int} (hS : FS T v B sc dn c) (h : RR_crash T v B sc dn a T1 v1 B1 s1 d1) : FS T1 v1 B1 s1 d1 (c + 1) := by
  have h3c := hS.2.2.2.2.2.1
  unfold RR_crash at h
  rcases h with ⟨c1, rfl, rfl, rfl, rfl, rfl, rfl, hI1⟩ | ⟨-, rfl, rfl, rfl, rfl, rfl, rfl⟩
  · exact (hS.crash hI1).up
  · exact hS.up
noncomputable def RR_crashBehind (q : Int) (T : Int → Int) (v B : Int → Int → Int) (sc dn : Int) (a : Int) (T1 : Int → Int) (v1 B1 : Int → Int → Int) (s1 d1 : Int) : Prop :=
  ((dn = 0 ∧ (q = -1 ∨ (1 ≤ q ∧ q ≤ 50))) ∧ 1 = a ∧ T = T1 ∧ v = v1 ∧ B = B1 ∧ q = s1 ∧ dn = d1 ∧ CI T1 v1 B1 s1 d1) ∨
  ((¬ (q = -1 ∨ 1 ≤ q ∧ q ≤ 50) ∨ ((q = -1 ∨ (1 ≤ q ∧ q ≤ 50)) ∧ dn = 1)) ∧ 0 = a ∧ T = T1 ∧ v = v1 ∧ B = B1 ∧ sc = s1 ∧ dn = d1)
set_option maxRecDepth 100000 in
set_option maxHeartbeats 2000000 in
theorem RR_crashBehind_det {q : Int} {T : Int → Int} {v B : Int → Int → Int} {sc dn : Int} {a a2 : Int} {T1 : Int → Int} {v1 B1 : Int → Int → Int} {s1 d1 : Int} {T2 : Int → Int} {v2 B2 : Int → Int → Int} {s2 d2 : Int} (h1 : RR_crashBehind q T v B sc dn a T1 v1 B1 s1 d1) (h2 : RR_crashBehind q T v B sc dn a2 T2 v2 B2 s2 d2) : a2 = a ∧ T2 = T1 ∧ v2 = v1 ∧ B2 = B1 ∧ s2 = s1 ∧ d2 = d1 := by
  unfold RR_crashBehind at h1 h2
  rcases h1 with ⟨c, rfl, rfl, rfl, rfl, rfl, rfl, -⟩ | ⟨c, rfl, rfl, rfl, rfl, rfl, rfl⟩
  · rcases h2 with ⟨cx, rfl, rfl, rfl, rfl, rfl, rfl, -⟩ | ⟨cx, rfl, rfl, rfl, rfl, rfl, rfl⟩
    · exact ⟨rfl, rfl, rfl, rfl, rfl, rfl⟩
    · exfalso; omega
  · rcases h2 with ⟨cx, rfl, rfl, rfl, rfl, rfl, rfl, -⟩ | ⟨cx, rfl, rfl, rfl, rfl, rfl, rfl⟩
    · exfalso; omega
    · exact ⟨rfl, rfl, rfl, rfl, rfl, rfl⟩
set_option maxRecDepth 100000 in
set_option maxHeartbeats 2000000 in
theorem RR_crashBehind_FS {q : Int} {T : Int → Int} {v B : Int → Int → Int} {sc dn : Int} {a c : Int} {T1 : Int → Int} {v1 B1 : Int → Int → Int} {s1 d1 : Int} (hS : FS T v B sc dn c) (h : RR_crashBehind q T v B sc dn a T1 v1 B1 s1 d1) : FS T1 v1 B1 s1 d1 (c + 1) := by
  have h3c := hS.2.2.2.2.2.1
  unfold RR_crashBehind at h
  rcases h with ⟨⟨c1, c2⟩, rfl, rfl, rfl, rfl, rfl, rfl, hI1⟩ | ⟨-, rfl, rfl, rfl, rfl, rfl, rfl⟩
  · exact hS.scs hI1 (by omega) c1
  · exact hS.up
noncomputable def RR_open (F : Int) (T : Int → Int) (v B : Int → Int → Int) (sc dn : Int) (a : Int) (T1 : Int → Int) (v1 B1 : Int → Int → Int) (s1 d1 : Int) : Prop :=
  ((dn = 0 ∧ 0 ≤ F) ∧ F = a ∧ T = T1 ∧ fU v F (fU (v F) 3 (v F 3 + 1)) = v1 ∧ B = B1 ∧ sc = s1 ∧ dn = d1 ∧ CI T1 v1 B1 s1 d1) ∨
  (((dn = 1 ∨ F = -1)) ∧ -8 = a ∧ T = T1 ∧ v = v1 ∧ B = B1 ∧ sc = s1 ∧ dn = d1)
set_option maxRecDepth 100000 in
set_option maxHeartbeats 2000000 in
theorem RR_open_det {F : Int} {T : Int → Int} {v B : Int → Int → Int} {sc dn : Int} {a a2 : Int} {T1 : Int → Int} {v1 B1 : Int → Int → Int} {s1 d1 : Int} {T2 : Int → Int} {v2 B2 : Int → Int → Int} {s2 d2 : Int} (h1 : RR_open F T v B sc dn a T1 v1 B1 s1 d1) (h2 : RR_open F T v B sc dn a2 T2 v2 B2 s2 d2) : a2 = a ∧ T2 = T1 ∧ v2 = v1 ∧ B2 = B1 ∧ s2 = s1 ∧ d2 = d1 := by
  unfold RR_open at h1 h2
  rcases h1 with ⟨c, rfl, rfl, rfl, rfl, rfl, rfl, -⟩ | ⟨c, rfl, rfl, rfl, rfl, rfl, rfl⟩
  · rcases h2 with ⟨cx, rfl, rfl, rfl, rfl, rfl, rfl, -⟩ | ⟨cx, rfl, rfl, rfl, rfl, rfl, rfl⟩
    · exact ⟨rfl, rfl, rfl, rfl, rfl, rfl⟩
    · exfalso; omega
  · rcases h2 with ⟨cx, rfl, rfl, rfl, rfl, rfl, rfl, -⟩ | ⟨cx, rfl, rfl, rfl, rfl, rfl, rfl⟩
    · exfalso; omega
    · exact ⟨rfl, rfl, rfl, rfl, rfl, rfl⟩
set_option maxRecDepth 100000 in
set_option maxHeartbeats 2000000 in
theorem RR_open_FS {F : Int} {T : Int → Int} {v B : Int → Int → Int} {sc dn : Int} {a c : Int} {T1 : Int → Int} {v1 B1 : Int → Int → Int} {s1 d1 : Int} (hS : FS T v B sc dn c) (hF : F < 16) (h : RR_open F T v B sc dn a T1 v1 B1 s1 d1) : FS T1 v1 B1 s1 d1 (c + 1) := by
  have h3c := hS.2.2.2.2.2.1
  unfold RR_open at h
  rcases h with ⟨⟨c1, c2⟩, rfl, rfl, rfl, rfl, rfl, rfl, hI1⟩ | ⟨-, rfl, rfl, rfl, rfl, rfl, rfl⟩
  · have h39 := h3c F c2 hF
    exact hS.setv hI1 ⟨rfl, rfl, Int.le_refl _, by show v F 3 + 1 ≤ c + 1; omega⟩
  · exact hS.up
noncomputable def RR_delete (F : Int) (T : Int → Int) (v B : Int → Int → Int) (sc dn : Int) (a : Int) (T1 : Int → Int) (v1 B1 : Int → Int → Int) (s1 d1 : Int) : Prop :=
  ((dn = 0 ∧ 0 ≤ F ∧ v F 3 ≠ 0) ∧ F = a ∧ T = T1 ∧ fU v F (fU (fU (v F) 8 1) 9 1) = v1 ∧ B = B1 ∧ sc = s1 ∧ dn = d1 ∧ CI T1 v1 B1 s1 d1) ∨
  ((dn = 0 ∧ 0 ≤ F ∧ v F 3 = 0 ∧ (ctS 0 (64 - (0 : Int)).toNat (tkF T ((fU v F (fU (fU (v F) 8 1) 9 1)) F 6) ((fU v F (fU (fU (v F) 8 1) 9 1)) F 7) 0) (drF (B F) 0 64) sc 0).1 = 1) ∧ (-1) = a ∧ rlT (fU (fU v F (fU (fU (v F) 8 1) 9 1)) F (ctU ((fU v F (fU (fU (v F) 8 1) 9 1)) F) (B F) 0)) (ctS 0 (64 - (0 : Int)).toNat (tkF T ((fU v F (fU (fU (v F) 8 1) 9 1)) F 6) ((fU v F (fU (fU (v F) 8 1) 9 1)) F 7) 0) (drF (B F) 0 64) sc 0).2.1 16 = T1 ∧ flV (rlV (fU (fU v F (fU (fU (v F) 8 1) 9 1)) F (ctU ((fU v F (fU (fU (v F) 8 1) 9 1)) F) (B F) 0)) 16) 16 = v1 ∧ flB (fU B F (ctS 0 (64 - (0 : Int)).toNat (tkF T ((fU v F (fU (fU (v F) 8 1) 9 1)) F 6) ((fU v F (fU (fU (v F) 8 1) 9 1)) F 7) 0) (drF (B F) 0 64) sc 0).2.2.1) 16 = B1 ∧ -1 = s1 ∧ 1 = d1 ∧ CI T1 v1 B1 s1 d1) ∨
  ((dn = 0 ∧ 0 ≤ F ∧ v F 3 = 0 ∧ (ctS 0 (64 - (0 : Int)).toNat (tkF T ((fU v F (fU (fU (v F) 8 1) 9 1)) F 6) ((fU v F (fU (fU (v F) 8 1) 9 1)) F 7) 0) (drF (B F) 0 64) sc 0).1 = 0) ∧ F = a ∧ (ctS 0 (64 - (0 : Int)).toNat (tkF T ((fU v F (fU (fU (v F) 8 1) 9 1)) F 6) ((fU v F (fU (fU (v F) 8 1) 9 1)) F 7) 0) (drF (B F) 0 64) sc 0).2.1 = T1 ∧ fU (fU v F (fU (fU (v F) 8 1) 9 1)) F (fU (fU (fU (fU (ctU ((fU v F (fU (fU (v F) 8 1) 9 1)) F) (B F) 0) 8 ((fU v F (fU (fU (v F) 8 1) 9 1)) F 9)) 2 0) 8 0) 9 0) = v1 ∧ fU B F (ctS 0 (64 - (0 : Int)).toNat (tkF T ((fU v F (fU (fU (v F) 8 1) 9 1)) F 6) ((fU v F (fU (fU (v F) 8 1) 9 1)) F 7) 0) (drF (B F) 0 64) sc 0).2.2.1 = B1 ∧ (ctS 0 (64 - (0 : Int)).toNat (tkF T ((fU v F (fU (fU (v F) 8 1) 9 1)) F 6) ((fU v F (fU (fU (v F) 8 1) 9 1)) F 7) 0) (drF (B F) 0 64) sc 0).2.2.2.1 = s1 ∧ dn = d1 ∧ CI T1 v1 B1 s1 d1) ∨
  (((dn = 1 ∨ F = -1)) ∧ -8 = a ∧ T = T1 ∧ v = v1 ∧ B = B1 ∧ sc = s1 ∧ dn = d1)
set_option maxRecDepth 100000 in
set_option maxHeartbeats 2000000 in
theorem RR_delete_det {F : Int} {T : Int → Int} {v B : Int → Int → Int} {sc dn : Int} {a a2 : Int} {T1 : Int → Int} {v1 B1 : Int → Int → Int} {s1 d1 : Int} {T2 : Int → Int} {v2 B2 : Int → Int → Int} {s2 d2 : Int} (h1 : RR_delete F T v B sc dn a T1 v1 B1 s1 d1) (h2 : RR_delete F T v B sc dn a2 T2 v2 B2 s2 d2) : a2 = a ∧ T2 = T1 ∧ v2 = v1 ∧ B2 = B1 ∧ s2 = s1 ∧ d2 = d1 := by
  unfold RR_delete at h1 h2
  rcases h1 with ⟨c, rfl, rfl, rfl, rfl, rfl, rfl, -⟩ | ⟨c, rfl, rfl, rfl, rfl, rfl, rfl, -⟩ | ⟨c, rfl, rfl, rfl, rfl, rfl, rfl, -⟩ | ⟨c, rfl, rfl, rfl, rfl, rfl, rfl⟩
  · rcases h2 with ⟨cx, rfl, rfl, rfl, rfl, rfl, rfl, -⟩ | ⟨cx, rfl, rfl, rfl, rfl, rfl, rfl, -⟩ | ⟨cx, rfl, rfl, rfl, rfl, rfl, rfl, -⟩ | ⟨cx, rfl, rfl, rfl, rfl, rfl, rfl⟩
    · exact ⟨rfl, rfl, rfl, rfl, rfl, rfl⟩
    · exfalso; omega
    · exfalso; omega
    · exfalso; omega
  · rcases h2 with ⟨cx, rfl, rfl, rfl, rfl, rfl, rfl, -⟩ | ⟨cx, rfl, rfl, rfl, rfl, rfl, rfl, -⟩ | ⟨cx, rfl, rfl, rfl, rfl, rfl, rfl, -⟩ | ⟨cx, rfl, rfl, rfl, rfl, rfl, rfl⟩
    · exfalso; omega
    · exact ⟨rfl, rfl, rfl, rfl, rfl, rfl⟩
    · exfalso; omega
    · exfalso; omega
  · rcases h2 with ⟨cx, rfl, rfl, rfl, rfl, rfl, rfl, -⟩ | ⟨cx, rfl, rfl, rfl, rfl, rfl, rfl, -⟩ | ⟨cx, rfl, rfl, rfl, rfl, rfl, rfl, -⟩ | ⟨cx, rfl, rfl, rfl, rfl, rfl, rfl⟩
    · exfalso; omega
    · exfalso; omega
    · exact ⟨rfl, rfl, rfl, rfl, rfl, rfl⟩
    · exfalso; omega
  · rcases h2 with ⟨cx, rfl, rfl, rfl, rfl, rfl, rfl, -⟩ | ⟨cx, rfl, rfl, rfl, rfl, rfl, rfl, -⟩ | ⟨cx, rfl, rfl, rfl, rfl, rfl, rfl, -⟩ | ⟨cx, rfl, rfl, rfl, rfl, rfl, rfl⟩
    · exfalso; omega
    · exfalso; omega
    · exfalso; omega
    · exact ⟨rfl, rfl, rfl, rfl, rfl, rfl⟩
set_option maxRecDepth 100000 in
set_option maxHeartbeats 2000000 in
theorem RR_delete_FS {F : Int} {T : Int → Int} {v B : Int → Int → Int} {sc dn : Int} {a c : Int} {T1 : Int → Int} {v1 B1 : Int → Int → Int} {s1 d1 : Int} (hS : FS T v B sc dn c) (hF : F < 16) (h : RR_delete F T v B sc dn a T1 v1 B1 s1 d1) : FS T1 v1 B1 s1 d1 (c + 1) := by
  have h3c := hS.2.2.2.2.2.1
  unfold RR_delete at h
  rcases h with ⟨⟨c1, c2, c3⟩, rfl, rfl, rfl, rfl, rfl, rfl, hI1⟩ | ⟨⟨c1, c2, c3, c4⟩, rfl, rfl, rfl, rfl, rfl, rfl, hI1⟩ | ⟨⟨c1, c2, c3, c4⟩, rfl, rfl, rfl, rfl, rfl, rfl, hI1⟩ | ⟨-, rfl, rfl, rfl, rfl, rfl, rfl⟩
  · have h39 := h3c F c2 hF
    exact hS.setv (u := (fU (fU (v F) 8 1) 9 1)) hI1 ⟨rfl, rfl, Int.le_refl _, by show v F 3 ≤ c + 1; omega⟩
  · have h39 := h3c F c2 hF
    simp only [-Int.reduceSub, -Int.reduceToNat, fU_s, fU_ss, u36, u37, u39, u86, u87, u96, u97, u99] at c4 hI1 ⊢
    exact (hS.cutC (u := (ctU (fU (fU (v F) 8 1) 9 1) (B F) 0)) ⟨c2, hF⟩ ⟨by decide, by decide⟩ ⟨rfl, rfl⟩ hI1).up
  · have h39 := h3c F c2 hF
    have hnn := eqI_nn (f := B F) (x := -2) (y := 0) (by decide)
    simp only [-Int.reduceSub, -Int.reduceToNat, fU_s, fU_ss, u36, u37, u39, u86, u87, u96, u97, u99] at c4 hI1 ⊢
    exact (hS.cutD (u := (fU (fU (fU (fU (ctU (fU (fU (v F) 8 1) 9 1) (B F) 0) 8 1) 2 0) 8 0) 9 0)) ⟨c2, hF⟩ ⟨by decide, by decide⟩ c1 c4 ⟨rfl, rfl, by show v F 4 - sI (fun p => eqI (B F p) (-2)) 0 64 ≤ v F 4; omega, by show v F 3 ≤ c; omega⟩ hI1).up
  · exact hS.up
