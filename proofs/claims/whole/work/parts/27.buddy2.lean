set_option maxRecDepth 100000 in
set_option maxHeartbeats 4000000 in
theorem kX4_fall {l : Launch} {D : va_G} {ky : Nat → ClassId} {z : Nat} {w : WT} (hl : l.stackTraces = false) {b g t ar d : Nat} {ac ab : Int → Nat} {T : Int → Int} {v B : Int → Int → Int} {sc dn : Int} (hW : CW w ky b g t ar d ac ab T v B sc dn) (hI : CI T v B sc dn) : Mt l D ky z yX4_fall wsX4_fall { frames := 4, cells := 0, slots := 0, locals := 88 } [.ref b] w (fun r w' => r = none ∧ CW w' ky b g t ar d ac ab (rlT v T 16) (flV (rlV v 16) 16) (flB B 16) (-1) (1) ∧ CI (rlT v T 16) (flV (rlV v 16) 16) (flB B 16) (-1) (1) ∧ FrC w w' b g t ac ab) (fun _ => False) := by
  refine Mt.of (cc := cX4_fall) (ret := none) (maxL := 2) (by decide) rfl (by intro v hv; simp at hv; rcases hv with rfl <;> rfl) (Nat.le_of_ble_eq_true rfl) ?_ hl
  intro p e s m args below meth c C htab hret hname Q hQ
  obtain ⟨hb, hg, ht, har, hfl, hdj⟩ := id hW
  obtain ⟨hi1, hi2, hi3, hi4⟩ := id hI
  refine gd_aload_n C dX4_fall_0 rfl ?_
  refine gd_iconst C dX4_fall_1 ?_
  apply gd_put (ci := 4) (Cn := RX4) (T := TX4) (N := 5) (ref := RX4) C rfl (by decide +kernel) tyX4 tyX4_ok nmX4 4 (by decide) (by decide +kernel) rfl rfl dX4_fall_2
  · first | assumption | exact (hfl _ (by omega) (by omega)).1 | exact (hfl _ (by omega) (by omega)).2 | exact wU_s _ _ _
  · exact nar_b (by omega)
  · exact (nar_t (Or.inr rfl) (fun _ => by omega)).2
  · exact Nat.le_of_ble_eq_true rfl
  refine gd_aload_n C dX4_fall_5 rfl ?_
  refine gd_iconst C dX4_fall_6 ?_
  apply gd_put (ci := 4) (Cn := RX4) (T := TX4) (N := 5) (ref := RX4) C rfl (by decide +kernel) tyX4 tyX4_ok nmX4 3 (by decide) (by decide +kernel) rfl rfl dX4_fall_7
  · first | assumption | exact (hfl _ (by omega) (by omega)).1 | exact (hfl _ (by omega) (by omega)).2 | exact wU_s _ _ _
  · rfl
  · rfl
  · exact Nat.le_of_ble_eq_true rfl
  obtain ⟨hW1, hF1⟩ := hW.setO (sc' := -1) (dn' := 1) (wU_s _ _ _) (fun y h => (wU_n h).trans (wU_n h))
  have hI1 : CI T v B (-1) 1 := ⟨hi1, hi2, Or.inl rfl, Or.inr rfl⟩
  refine gd_aload_n C dX4_fall_10 rfl ?_
  refine gd_callV (n := 0) (ci := 4) (Cn := RX4) (T := TX4) (N := 5) C (kX4_releaseAllKept hl hW1 hI1) ?_ rfl gX4_fall_X4_releaseAllKept rfl ⟨rfl, by decide, by decide, by decide +kernel⟩ rfl rfl (Nat.le_of_ble_eq_true rfl) rfl dX4_fall_11 ⟨⟨by decide, by decide⟩, by decide, by decide⟩ (fun _ h => h.elim) ?_
  · exact ⟨_, by exact hW1.1⟩
  rintro _ w2 ⟨rfl, hW2, hI2, hF2⟩
  refine gd_iconst C dX4_fall_14 ?_
  refine gd_istore_n C dX4_fall_15 (Nat.le_of_ble_eq_true rfl) ?_
  suffices hloop : ∀ (n : Nat) (i : Int) (w1 : WT), 0 ≤ i → i ≤ 16 → (16 - i).toNat = n → CW w1 ky b g t ar d ac ab (rlT v T 16) (flV (rlV v 16) i) (flB B i) (-1) 1 → CI (rlT v T 16) (flV (rlV v 16) i) (flB B i) (-1) 1 → FrC w w1 b g t ac ab → Gd p l e ({ frames := 4, cells := 0, slots := 0, locals := 88 }) s m args below meth c D z Q 0 0 w1 16 [some (.ref b), some (.int (iI i))] [] from
    hloop _ 0 _ (by omega) (by omega) rfl (by rw [flV_0, flB_0]; exact hW2) (by rw [flV_0, flB_0]; exact hI2) (hF1.tr hF2)
  intro n
  induction n using Nat.strongRecOn with
  | _ n ih =>
  intro i w1 h1i h2i hn hW3 hI3 hF3
  obtain ⟨hb3, hg3, ht3, har3, hfl3, hdj3⟩ := id hW3
  refine gd_iload_n C dX4_fall_16 rfl ?_
  refine gd_bipush C dX4_fall_17 (by decide) ?_
  refine gd_icmp_ge (tgt := 48) C dX4_fall_19 (by decide) ?_ ?_ (fun hc19 => ?_) (fun hc19 => ?_)
  · omega
  · omega
  · refine gd_vret C hQ hret dX4_fall_48 ?_ ?_
    · have e : i = 16 := by omega
      subst e
      exact ⟨rfl, hW3, hI3, hF3⟩
    · decide
  · refine gd_aload_n C dX4_fall_22 rfl ?_
    apply gd_get (ci := 4) (Cn := RX4) (T := TX4) (N := 5) (ref := RX4) C rfl (by decide +kernel) 2 (by decide) (by decide +kernel) rfl dX4_fall_23
    · exact hb3
    · rfl
    refine gd_iload_n C dX4_fall_26 rfl ?_
    apply gd_aald C dX4_fall_27
    · exact har3
    · decide
    · omega
    · exact cQ_at (by omega)
    refine gd_iconst C dX4_fall_28 ?_
    refine gd_callVN (n := 1) (ci := 0) (Cn := RX0) (T := TX0) (N := 11) (host := RX4) C (kX0_dropReserved hl (hfl3 i h1i (by omega)).1 (hfl3 i h1i (by omega)).2 (hI3.2.1 i h1i (by omega)).2.2.2.2.2.2.2.2.2 (a := 0) ?_) ?_ rfl gX4_fall_X0_dropReserved_n260 rfl (by decide +kernel) (by decide +kernel) (by decide +kernel) (by decide +kernel) ⟨by decide, by decide, by decide +kernel⟩ rfl rfl (Nat.le_of_ble_eq_true rfl) rfl dX4_fall_29 ⟨⟨by decide, by decide⟩, by decide, by decide⟩ (fun _ h => h.elim) ?_
    · omega
    · exact ⟨_, by exact (hfl3 i h1i (by omega)).1⟩
    rintro _ w4 ⟨rfl, hb4, hh4, hfr4⟩
    have hc4 : flV (rlV v 16) i i 4 - sI (fun j => eqI (flB B i i j) (-2)) 0 64 = 0 := by
      have := (hI3.2.1 i h1i (by omega)).2.2.2.1
      unfold rC at this
      omega
    rw [hc4] at hh4
    have hfl4 : w4 (ac i) = _ ∧ w4 (ab i) = _ := ⟨hh4, hb4⟩
    have hb9 : w4 b = _ := (hfr4 b (kd_ne hb3 (hfl3 i h1i (by omega)).2) (kd2 hb3 (hfl3 i h1i (by omega)).1 (by decide))).trans hb3
    have har9 : w4 ar = _ := (hfr4 ar (kdr (hfl3 i h1i (by omega)).2 har3).symm (kd_ne (hfl3 i h1i (by omega)).1 har3).symm).trans har3
    refine gd_aload_n C dX4_fall_32 rfl ?_
    apply gd_get (ci := 4) (Cn := RX4) (T := TX4) (N := 5) (ref := RX4) C rfl (by decide +kernel) 2 (by decide) (by decide +kernel) rfl dX4_fall_33
    · exact hb9
    · rfl
    refine gd_iload_n C dX4_fall_36 rfl ?_
    apply gd_aald C dX4_fall_37
    · exact har9
    · decide
    · omega
    · exact cQ_at (by omega)
    refine gd_iconst C dX4_fall_38 ?_
    apply gd_putCN (host := RX4) C (by decide +kernel) 3 3 rfl (by decide) (by decide) (by decide +kernel) rfl dX4_fall_39
    · exact hfl4.1
    · exact fun h => nomatch h
    refine gd_iinc C dX4_fall_42 rfl ?_
    refine gd_goto (tgt := 16) C dX4_fall_45 (by decide) ?_
    obtain ⟨hW5, hF5⟩ := hW3.setF (w1 := wU w4 (ac i) (cC (ab i) (fU (fU (flV (rlV v 16) i i) 4 0) 3 0))) (j := i) (by omega) ((wU_n (kd_ne hfl4.1 hfl4.2).symm).trans hb4) (wU_s _ _ _) (fun y y1 y2 => (wU_n y2).trans (hfr4 y y1 y2))
    have hI5 := hI3.setF (FI.fall (hI3.2.1 i h1i (by omega)))
    rw [flV_at, flB_at] at hI5
    rw [flV_at, flB_at] at hW5
    rw [flV_s h1i, flB_s h1i] at hI5
    rw [flV_s h1i, flB_s h1i] at hW5
    refine ih _ (by omega) (i + 1) _ (by omega) (by omega) rfl ?_ hI5 (hF3.tr ?_)
    · rw [flV_at]; exact hW5
    · rw [flV_at] at hF5; rw [flV_at]; exact hF5
