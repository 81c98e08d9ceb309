theorem arrK {args : Array Value} {s : State} {ty : FieldType} (h : (Cond.arrayClass ty).before args s = true) (ht : ∀ C, ty ≠ .object C) (ht2 : ∀ C, ty ≠ .array C) : ∃ cA, ArrOfT s cA ty ∧ s.vm.findClass ("[" ++ ty.toString) = some cA := by
  obtain ⟨c, k, comp, h1, h2, h3⟩ := Cond.arrayClass_spec (args := args) (first := s) (o := none) (s := s) (idx := []) h
  refine ⟨c, fun n z => ⟨fun k h => ?_, k, h2, comp, h3⟩, h1⟩
  first | cases h | (cases ty <;> first | cases h | exact absurd rfl (ht _) | exact absurd rfl (ht2 _))
theorem nestWs_in : ∀ w ∈ nestWs, w ∈ lw_tbl := by decide +kernel
theorem castWs_in : ∀ w ∈ castWs, w ∈ lw_tbl := by decide +kernel
theorem strWs_in : ∀ q ∈ strWs, Cond.stringRef RX4 q.1 q.2 ∈ lw_tbl := by decide +kernel
theorem onT1 : ∀ w ∈ nestWs, w.onTables = true := by decide +kernel
theorem onT2 : ∀ w ∈ castWs, w.onTables = true := by decide +kernel
theorem law_K {s : State} {b : Nat} (hts : ∀ w ∈ lw_tbl, w.before #[Value.ref b] s = true) : ∃ (D : va_G) (ky : Nat → ClassId), va_K D vwCl (tyG ky) s := by
  obtain ⟨c0, i0, k0⟩ := u_known (C := RX0) (T := TX0) (N := 11) (n := 11) hts inX0 (hts (.instantiable RX0 11) (by decide +kernel))
  obtain ⟨c1, i1, k1⟩ := u_known (C := RX1) (T := TX1) (N := 2) (n := 2) hts (fun w h => wsL_law_in w (inlX1 w h)) (hts (.instantiable RX1 2) (by decide +kernel))
  obtain ⟨c2, i2, k2⟩ := u_known (C := RX2) (T := TX2) (N := 2) (n := 2) hts (fun w h => wsL_law_in w (inlX2 w h)) (hts (.instantiable RX2 2) (by decide +kernel))
  obtain ⟨c3, i3, k3⟩ := u_known (C := RX3) (T := TX3) (N := 7) (n := 7) hts (fun w h => wsL_law_in w (inlX3 w h)) (hts (.instantiable RX3 7) (by decide +kernel))
  obtain ⟨c4, i4, k4⟩ := u_known (C := RX4) (T := TX4) (N := 5) (n := 5) hts (fun w h => wsL_law_in w (inlX4 w h)) (hts (.instantiable RX4 5) (by decide +kernel))
  obtain ⟨c5, i5, k5⟩ := u_known (C := RX5) (T := TX5) (N := 18) (n := 18) hts (fun w h => wsL_law_in w (inlX5 w h)) (hts (.instantiable RX5 18) (by decide +kernel))
  obtain ⟨a0, m0, n0⟩ := arrK (hts (.arrayClass .int) (by decide +kernel)) (fun C => by intro e; cases e) (fun C => by intro e; cases e)
  obtain ⟨a1, m1, n1⟩ := arrK (hts (.arrayClass .boolean) (by decide +kernel)) (fun C => by intro e; cases e) (fun C => by intro e; cases e)
  obtain ⟨a3, m3, n3⟩ := arrK (hts (.arrayClass .long) (by decide +kernel)) (fun C => by intro e; cases e) (fun C => by intro e; cases e)
  obtain ⟨a4, m4, n4⟩ := arrK (hts (.arrayClass .double) (by decide +kernel)) (fun C => by intro e; cases e) (fun C => by intro e; cases e)
  obtain ⟨comp, a2, kk2, h1, -, h3, h4, h5⟩ := Cond.arrayOver_spec (args := #[Value.ref b]) (first := s) (o := none) (s := s) (idx := []) (n := "Buddyfield$Content") (hts (.arrayOver (.object "Buddyfield$Content")) (by decide +kernel))
  refine ⟨(fun k => if k = 0 then c0 else if k = 1 then c1 else if k = 2 then c2 else if k = 3 then c3 else if k = 4 then c4 else c5, fun k => if k = 0 then i0 else if k = 1 then i1 else if k = 2 then i2 else if k = 3 then i3 else if k = 4 then i4 else i5), fun k => if k = 0 then a0 else if k = 1 then a1 else if k = 2 then a2 else if k = 3 then a3 else a4, ?_, ?_⟩
  · intro k q hq
    match k, hq with
    | 0, hq => cases hq; exact k0
    | 1, hq => cases hq; exact k1
    | 2, hq => cases hq; exact k2
    | 3, hq => cases hq; exact k3
    | 4, hq => cases hq; exact k4
    | 5, hq => cases hq; exact k5
    | k + 6, hq => simp [vwCl] at hq
  · intro k q hq
    match k, hq with
    | 0, hq => cases hq; exact ⟨m0, n0⟩
    | 1, hq => cases hq; exact ⟨m1, n1⟩
    | 2, hq => cases hq; exact ⟨fun N z => ⟨(fun k h => by cases h), kk2, h3, comp, h4⟩, kk2, comp, h3, h4, h1, h5⟩
    | 3, hq => cases hq; exact ⟨m3, n3⟩
    | 4, hq => cases hq; exact ⟨m4, n4⟩
    | k + 5, hq => simp [tyG] at hq
set_option maxRecDepth 100000 in
theorem law_SB {s : State} {b : Nat} (hts : ∀ w ∈ lw_tbl, w.before #[Value.ref b] s = true) (hgv : (Jvm.Cond.and given_1 narrow_1).before #[Value.ref b] s = true) : (∃ (D : va_G) (ky : Nat → ClassId), SB D ky s.heap.size s) ∧ NC3 s ∧ va_AO "Buddyfield$Content" s := by
  have hg := flat_of_before _ hgv
  obtain ⟨D, ky, hK⟩ := law_K hts
  refine ⟨⟨D, ky, hK, fun w hw => va_Nw.of (onT1 w hw) (hts w (nestWs_in w hw)), fun w hw => va_Nw.of (onT2 w hw) (hts w (castWs_in w hw)), fun q hq => ?_, vx_Zqof (hts _ (by decide +kernel)) (hts _ (by decide +kernel)) (hg _ (by decide +kernel)) (fun a h => Nat.not_le.mpr h), vx_Zqof (hts _ (by decide +kernel)) (hts _ (by decide +kernel)) (hg _ (by decide +kernel)) (fun a h => Nat.not_le.mpr h)⟩, ⟨va_Nc.of (hg _ (by decide +kernel)), va_Nc.of (hg _ (by decide +kernel)), va_Nc.of (hg _ (by decide +kernel))⟩, va_AO.of (hts _ (by decide +kernel))⟩
  have hex : (Cond.exactly (.string RX4 q.1) "java/lang/String").before #[Value.ref b] s = true := hg _ ((by decide +kernel : ∀ q ∈ strWs, Cond.exactly (.string RX4 q.1) "java/lang/String" ∈ _) q hq)
  obtain ⟨a, c, cA, kA, q1, -⟩ := Cond.exactly_spec (args := #[Value.ref b]) (first := s) (o := none) (s := s) (idx := []) (t := .string RX4 q.1) (cls := "java/lang/String") hex
  exact ⟨a, vk_R.of (hts _ (strWs_in q hq)) q1⟩
