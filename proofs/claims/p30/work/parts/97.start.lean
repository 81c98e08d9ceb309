/-! the law's entry: what the tables say there; the first state -/
theorem arrK {args : Array Value} {s : State} {ty : FieldType} (h : (Cond.arrayClass ty).before args s = true) (ht : ∀ C, ty ≠ .object C) (ht2 : ∀ C, ty ≠ .array C) : ∃ cA, ArrOfT s cA ty ∧ s.vm.findClass ("[" ++ ty.toString) = some cA := by
  obtain ⟨c, k, comp, h1, h2, h3⟩ := Cond.arrayClass_spec (args := args) (first := s) (o := none) (s := s) (idx := []) h
  refine ⟨c, fun n z => ⟨fun k h => ?_, k, h2, comp, h3⟩, h1⟩
  first | cases h | (cases ty <;> first | cases h | exact absurd rfl (ht _) | exact absurd rfl (ht2 _))
theorem nestWs_in : ∀ w ∈ nestWs, w ∈ lw_tbl := by decide +kernel
theorem castWs_in : ∀ w ∈ castWs, w ∈ lw_tbl := by decide +kernel
theorem strWs_in : ∀ q ∈ strWs, Cond.stringRef RX4 q.1 q.2 ∈ lw_tbl := by decide +kernel
theorem onT1 : ∀ w ∈ nestWs, w.onTables = true := by decide +kernel
theorem onT2 : ∀ w ∈ castWs, w.onTables = true := by decide +kernel
theorem law_K {s : State} {b : Nat} (hts : ∀ w ∈ lw_tbl, w.before #[Value.ref b] s = true) : ∃ (D : va_G) (ky : Nat → ClassId), va_K D vwCl (tyG ky) s := by
  obtain ⟨c0, i0, k0⟩ := u_known (C := RX0) (T := TX0) (N := 11) (n := 11) hts inX0 (hts (.instantiable RX0 11) (by decide +kernel))
  obtain ⟨c1, i1, k1⟩ := u_known (C := RX1) (T := TX1) (N := 2) (n := 2) hts (fun w h => wsL_law_in w (inlX1 w h)) (hts (.instantiable RX1 2) (by decide +kernel))
  obtain ⟨c2, i2, k2⟩ := u_known (C := RX2) (T := TX2) (N := 2) (n := 2) hts (fun w h => wsL_law_in w (inlX2 w h)) (hts (.instantiable RX2 2) (by decide +kernel))
  obtain ⟨c3, i3, k3⟩ := u_known (C := RX3) (T := TX3) (N := 7) (n := 7) hts (fun w h => wsL_law_in w (inlX3 w h)) (hts (.instantiable RX3 7) (by decide +kernel))
  obtain ⟨c4, i4, k4⟩ := u_known (C := RX4) (T := TX4) (N := 5) (n := 5) hts (fun w h => wsL_law_in w (inlX4 w h)) (hts (.instantiable RX4 5) (by decide +kernel))
  obtain ⟨a0, m0, n0⟩ := arrK (hts (.arrayClass .int) (by decide +kernel)) (fun C => by intro e; cases e) (fun C => by intro e; cases e)
  obtain ⟨a1, m1, n1⟩ := arrK (hts (.arrayClass .boolean) (by decide +kernel)) (fun C => by intro e; cases e) (fun C => by intro e; cases e)
  obtain ⟨comp, a2, kk2, h1, -, h3, h4, h5⟩ := Cond.arrayOver_spec (args := #[Value.ref b]) (first := s) (o := none) (s := s) (idx := []) (n := "Buddyfield$Content") (hts (.arrayOver (.object "Buddyfield$Content")) (by decide +kernel))
  refine ⟨(fun k => if k = 0 then c0 else if k = 1 then c1 else if k = 2 then c2 else if k = 3 then c3 else c4, fun k => if k = 0 then i0 else if k = 1 then i1 else if k = 2 then i2 else if k = 3 then i3 else i4), fun k => if k = 0 then a0 else if k = 1 then a1 else a2, ?_, ?_⟩
  · intro k q hq
    match k, hq with
    | 0, hq => cases hq; exact k0
    | 1, hq => cases hq; exact k1
    | 2, hq => cases hq; exact k2
    | 3, hq => cases hq; exact k3
    | 4, hq => cases hq; exact k4
    | k + 5, hq => simp [vwCl] at hq
  · intro k q hq
    match k, hq with
    | 0, hq => cases hq; exact ⟨m0, n0⟩
    | 1, hq => cases hq; exact ⟨m1, n1⟩
    | 2, hq => cases hq; exact ⟨fun N z => ⟨(fun k h => by cases h), kk2, h3, comp, h4⟩, kk2, comp, h3, h4, h1, h5⟩
    | k + 3, hq => simp [tyG] at hq
set_option maxRecDepth 100000 in
theorem law_SB {s : State} {b : Nat} (hts : ∀ w ∈ lw_tbl, w.before #[Value.ref b] s = true) (hgv : (Jvm.Cond.and given_1 narrow_1).before #[Value.ref b] s = true) : (∃ (D : va_G) (ky : Nat → ClassId), SB D ky s.heap.size s) ∧ NC3 s ∧ va_AO "Buddyfield$Content" s := by
  have hg := flat_of_before _ hgv
  obtain ⟨D, ky, hK⟩ := law_K hts
  refine ⟨⟨D, ky, hK, fun w hw => va_Nw.of (onT1 w hw) (hts w (nestWs_in w hw)), fun w hw => va_Nw.of (onT2 w hw) (hts w (castWs_in w hw)), fun q hq => ?_, vx_Zqof (hts _ (by decide +kernel)) (hts _ (by decide +kernel)) (hg _ (by decide +kernel)) (fun a h => Nat.not_le.mpr h), vx_Zqof (hts _ (by decide +kernel)) (hts _ (by decide +kernel)) (hg _ (by decide +kernel)) (fun a h => Nat.not_le.mpr h)⟩, ⟨va_Nc.of (hg _ (by decide +kernel)), va_Nc.of (hg _ (by decide +kernel)), va_Nc.of (hg _ (by decide +kernel))⟩, va_AO.of (hts _ (by decide +kernel))⟩
  have hex : (Cond.exactly (.string RX4 q.1) "java/lang/String").before #[Value.ref b] s = true := hg _ ((by decide +kernel : ∀ q ∈ strWs, Cond.exactly (.string RX4 q.1) "java/lang/String" ∈ _) q hq)
  obtain ⟨a, c, cA, kA, q1, -⟩ := Cond.exactly_spec (args := #[Value.ref b]) (first := s) (o := none) (s := s) (idx := []) (t := .string RX4 q.1) (cls := "java/lang/String") hex
  exact ⟨a, vk_R.of (hts _ (strWs_in q hq)) q1⟩
theorem OW0 : OW (fun _ => 0) v0 B0 := by
  intro k k1 k2
  show (0 : Int) = _
  refine ((sI_congr (g' := fun _ => 0) (fun j _ _ => ?_)).trans (sI_z0 0 16)).symm
  have e1 : cnt (B0 j) k = 0 := by
    unfold cnt
    refine (sI_congr (g' := fun _ => 0) (fun p p1 p2 => ?_)).trans (sI_z0 0 64)
    have e : B0 j p = -1 := by
      unfold B0 tkF
      rw [if_pos ⟨p1, by omega⟩]
    show eqI (B0 j p) k = 0
    rw [e]
    unfold eqI
    rw [if_neg (by omega)]
  have e2 : kI (v0 j) k = 0 := by
    have e6 : v0 j 6 = 0 := fU_n (by decide)
    have e7 : v0 j 7 = 0 := fU_n (by decide)
    unfold kI
    rw [e6, e7, if_neg (by omega)]
  show oC (v0 j) (B0 j) k = 0
  unfold oC
  rw [e1, e2]
  rfl
theorem FS0 : FS (fun _ => 0) v0 B0 (-1) 0 0 := by
  have e : ∀ j k : Int, k ≠ 0 → v0 j k = 0 := fun j k hk => fU_n hk
  refine ⟨CI0, OW0, ?_, Or.inl rfl, fun _ => rfl, fun j _ _ => by rw [e j 3 (by decide)]; exact Int.le_refl 0, Int.le_refl 0⟩
  unfold lF
  rw [sI_z0, show sI (fun j => v0 j 4) 0 16 = 0 from (sI_congr (fun j _ _ => e j 4 (by decide))).trans (sI_z0 0 16)]
  decide
theorem NI0 : NI 1 (fun _ => 0) (fun _ => 0) (fun _ => 0) (fun _ _ => 0) (fun _ _ => 0) := by
  refine ⟨⟨⟨by decide, by decide⟩, fun _ => ⟨Int.le_refl 0, (by decide : (0 : Int) ≤ 15)⟩, fun _ => Or.inl rfl, fun _ => ⟨Int.le_refl 0, (by decide : (0 : Int) ≤ 4)⟩, fun _ _ => ⟨Int.le_refl 0, (by decide : (0 : Int) ≤ 999)⟩, fun _ _ => ⟨Int.le_refl 0, (by decide : (0 : Int) ≤ 15)⟩⟩, rfl, rfl, fun i k h1 h2 => ?_, fun i h1 h2 => ?_, fun i h1 h2 => ?_, fun i k h1 h2 h3 h4 => ?_, fun q i j h1 h2 h3 h4 _ _ => by omega⟩
  · exact absurd (show k + 1 < 0 from h2) (by omega)
  · omega
  · omega
  · exact absurd (show k < 0 from h4) (by omega)
