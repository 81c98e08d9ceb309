set_option maxRecDepth 100000 in
set_option maxHeartbeats 4000000 in
theorem kX4_fall {l : Launch} {D : va_G} {ky : Nat → ClassId} {z : Nat} {w : WT} (hl : l.stackTraces = false) {b g t ar d : Nat} {ac ab : Int → Nat} {T : Int → Int} {v B : Int → Int → Int} {sc dn : Int} (hW : CW w ky b g t ar d ac ab T v B sc dn) (hI : CI T v B sc dn) : Mt l D ky z yX4_fall wsX4_fall { frames := 4, cells := 0, slots := 0, locals := 88 } [.ref b] w (fun r w' => r = none ∧ CW w' ky b g t ar d ac ab (rlT v T 16) (flV (rlV v 16) 16) (flB B 16) (-1) (1) ∧ CI (rlT v T 16) (flV (rlV v 16) 16) (flB B 16) (-1) (1) ∧ FrC w w' b g t ac ab) (fun _ => False) := by
  refine Mt.of (cc := cX4_fall) (ret := none) (maxL := 2) (by decide) rfl (by intro v hv; simp at hv; rcases hv with rfl <;> rfl) (Nat.le_of_ble_eq_true rfl) ?_ hl
  intro p e s m args below meth c C htab hret hname Q hQ
  obtain ⟨hb, hg, ht, har, hfl, hdj⟩ := id hW
  obtain ⟨hi1, hi2, hi3, hi4⟩ := id hI
  refine gd_aload_n C dX4_fall_0 rfl ?_
  refine gd_iconst C dX4_fall_1 ?_
  apply gd_put (ci := 4) (Cn := RX4) (T := TX4) (N := 5) (ref := RX4) C rfl (by decide +kernel) tyX4 tyX4_ok nmX4 4 (by decide) (by decide +kernel) rfl rfl dX4_fall_2
  · first | assumption | exact (hfl _ (by omega) (by omega)).1 | exact (hfl _ (by omega) (by omega)).2 | exact wU_s _ _ _
  · exact nar_b (by omega)
  · exact (nar_t (Or.inr rfl) (fun _ => by omega)).2
  · exact Nat.le_of_ble_eq_true rfl
  refine gd_aload_n C dX4_fall_5 rfl ?_
  refine gd_iconst C dX4_fall_6 ?_
  apply gd_put (ci := 4) (Cn := RX4) (T := TX4) (N := 5) (ref := RX4) C rfl (by decide +kernel) tyX4 tyX4_ok nmX4 3 (by decide) (by decide +kernel) rfl rfl dX4_fall_7
  · first | assumption | exact (hfl _ (by omega) (by omega)).1 | exact (hfl _ (by omega) (by omega)).2 | exact wU_s _ _ _
  · rfl
  · rfl
  · exact Nat.le_of_ble_eq_true rfl
  obtain ⟨hW1, hF1⟩ := hW.setO (sc' := -1) (dn' := 1) (wU_s _ _ _) (fun y h => (wU_n h).trans (wU_n h))
  have hI1 : CI T v B (-1) 1 := ⟨hi1, hi2, Or.inl rfl, Or.inr rfl⟩
  refine gd_aload_n C dX4_fall_10 rfl ?_
  refine gd_callV (n := 0) (ci := 4) (Cn := RX4) (T := TX4) (N := 5) C (kX4_releaseAllKept hl hW1 hI1) ?_ rfl gX4_fall_X4_releaseAllKept rfl ⟨rfl, by decide, by decide, by decide +kernel⟩ rfl rfl (Nat.le_of_ble_eq_true rfl) rfl dX4_fall_11 ⟨⟨by decide, by decide⟩, by decide, by decide⟩ (fun _ h => h.elim) ?_
  · exact ⟨_, by exact hW1.1⟩
  rintro _ w2 ⟨rfl, hW2, hI2, hF2⟩
  refine gd_iconst C dX4_fall_14 ?_
  refine gd_istore_n C dX4_fall_15 (Nat.le_of_ble_eq_true rfl) ?_
  suffices hloop : ∀ (n : Nat) (i : Int) (w1 : WT), 0 ≤ i → i ≤ 16 → (16 - i).toNat = n → CW w1 ky b g t ar d ac ab (rlT v T 16) (flV (rlV v 16) i) (flB B i) (-1) 1 → CI (rlT v T 16) (flV (rlV v 16) i) (flB B i) (-1) 1 → FrC w w1 b g t ac ab → Gd p l e ({ frames := 4, cells := 0, slots := 0, locals := 88 }) s m args below meth c D z Q 0 0 w1 16 [some (.ref b), some (.int (iI i))] [] from
    hloop _ 0 _ (by omega) (by omega) rfl (by rw [flV_0, flB_0]; exact hW2) (by rw [flV_0, flB_0]; exact hI2) (hF1.tr hF2)
  intro n
  induction n using Nat.strongRecOn with
  | _ n ih =>
  intro i w1 h1i h2i hn hW3 hI3 hF3
  obtain ⟨hb3, hg3, ht3, har3, hfl3, hdj3⟩ := id hW3
  refine gd_iload_n C dX4_fall_16 rfl ?_
  refine gd_bipush C dX4_fall_17 (by decide) ?_
  refine gd_icmp_ge (tgt := 48) C dX4_fall_19 (by decide) ?_ ?_ (fun hc19 => ?_) (fun hc19 => ?_)
  · omega
  · omega
  · refine gd_vret C hQ hret dX4_fall_48 ?_ ?_
    · have e : i = 16 := by omega
      subst e
      exact ⟨rfl, hW3, hI3, hF3⟩
    · decide
  · refine gd_aload_n C dX4_fall_22 rfl ?_
    apply gd_get (ci := 4) (Cn := RX4) (T := TX4) (N := 5) (ref := RX4) C rfl (by decide +kernel) 2 (by decide) (by decide +kernel) rfl dX4_fall_23
    · exact hb3
    · rfl
    refine gd_iload_n C dX4_fall_26 rfl ?_
    apply gd_aald C dX4_fall_27
    · exact har3
    · decide
    · omega
    · exact cQ_at (by omega)
    refine gd_iconst C dX4_fall_28 ?_
    refine gd_callVN (n := 1) (ci := 0) (Cn := RX0) (T := TX0) (N := 11) (host := RX4) C (kX0_dropReserved hl (hfl3 i h1i (by omega)).1 (hfl3 i h1i (by omega)).2 (hI3.2.1 i h1i (by omega)).2.2.2.2.2.2.2.2.2 (a := 0) ?_) ?_ rfl gX4_fall_X0_dropReserved_n260 rfl (by decide +kernel) (by decide +kernel) (by decide +kernel) (by decide +kernel) ⟨by decide, by decide, by decide +kernel⟩ rfl rfl (Nat.le_of_ble_eq_true rfl) rfl dX4_fall_29 ⟨⟨by decide, by decide⟩, by decide, by decide⟩ (fun _ h => h.elim) ?_
    · omega
    · exact ⟨_, by exact (hfl3 i h1i (by omega)).1⟩
    rintro _ w4 ⟨rfl, hb4, hh4, hfr4⟩
    have hc4 : flV (rlV v 16) i i 4 - sI (fun j => eqI (flB B i i j) (-2)) 0 64 = 0 := by
      have := (hI3.2.1 i h1i (by omega)).2.2.2.1
      unfold rC at this
      omega
    rw [hc4] at hh4
    have hfl4 : w4 (ac i) = _ ∧ w4 (ab i) = _ := ⟨hh4, hb4⟩
    have hb9 : w4 b = _ := (hfr4 b (kd_ne hb3 (hfl3 i h1i (by omega)).2) (kd2 hb3 (hfl3 i h1i (by omega)).1 (by decide))).trans hb3
    have har9 : w4 ar = _ := (hfr4 ar (kdr (hfl3 i h1i (by omega)).2 har3).symm (kd_ne (hfl3 i h1i (by omega)).1 har3).symm).trans har3
    refine gd_aload_n C dX4_fall_32 rfl ?_
    apply gd_get (ci := 4) (Cn := RX4) (T := TX4) (N := 5) (ref := RX4) C rfl (by decide +kernel) 2 (by decide) (by decide +kernel) rfl dX4_fall_33
    · exact hb9
    · rfl
    refine gd_iload_n C dX4_fall_36 rfl ?_
    apply gd_aald C dX4_fall_37
    · exact har9
    · decide
    · omega
    · exact cQ_at (by omega)
    refine gd_iconst C dX4_fall_38 ?_
    apply gd_putCN (host := RX4) C (by decide +kernel) 3 3 rfl (by decide) (by decide) (by decide +kernel) rfl dX4_fall_39
    · exact hfl4.1
    · exact fun h => nomatch h
    refine gd_iinc C dX4_fall_42 rfl ?_
    refine gd_goto (tgt := 16) C dX4_fall_45 (by decide) ?_
    obtain ⟨hW5, hF5⟩ := hW3.setF (w1 := wU w4 (ac i) (cC (ab i) (fU (fU (flV (rlV v 16) i i) 4 0) 3 0))) (j := i) (by omega) ((wU_n (kd_ne hfl4.1 hfl4.2).symm).trans hb4) (wU_s _ _ _) (fun y y1 y2 => (wU_n y2).trans (hfr4 y y1 y2))
    have hI5 := hI3.setF (FI.fall (hI3.2.1 i h1i (by omega)))
    rw [flV_at, flB_at] at hI5
    rw [flV_at, flB_at] at hW5
    rw [flV_s h1i, flB_s h1i] at hI5
    rw [flV_s h1i, flB_s h1i] at hW5
    refine ih _ (by omega) (i + 1) _ (by omega) (by omega) rfl ?_ hI5 (hF3.tr ?_)
    · rw [flV_at]; exact hW5
    · rw [flV_at] at hF5; rw [flV_at]; exact hF5

set_option maxRecDepth 100000 in
set_option maxHeartbeats 4000000 in
theorem kX4_step {l : Launch} {D : va_G} {ky : Nat → ClassId} {z : Nat} {w : WT} (hl : l.stackTraces = false) {b g t ar d : Nat} {ac ab : Int → Nat} {T : Int → Int} {v B : Int → Int → Int} {sc dn : Int} (hW : CW w ky b g t ar d ac ab T v B sc dn) (hI : CI T v B sc dn) {j x y : Int} (hj : 0 ≤ j ∧ j < 16) (hxy : 0 ≤ y ∧ y ≤ x ∧ x < 64) (hx0 : 0 ≤ B j x) : Mt l D ky z yX4_step wsX4_step { frames := 2, cells := 0, slots := 0, locals := 46 } [.ref b, .ref (ac j), .int (iI x), .int (iI y)] w (fun r w' => r = none ∧ CW w' ky b g t ar d ac ab (tkF T (B j (stF (B j) y 3 x)) (x + 1 - (stF (B j) y 3 x)) 0) (v) (fU B j (clF (B j) (stF (B j) y 3 x) (x + 1))) (sc) (dn) ∧ CI (tkF T (B j (stF (B j) y 3 x)) (x + 1 - (stF (B j) y 3 x)) 0) (v) (fU B j (clF (B j) (stF (B j) y 3 x) (x + 1))) (sc) (dn) ∧ FrC w w' b g t ac ab) (fun _ => False) := by
  refine Mt.of (cc := cX4_step) (ret := none) (maxL := 6) (by decide) rfl (by intro v hv; simp at hv; rcases hv with rfl | rfl | rfl | rfl <;> rfl) (Nat.le_of_ble_eq_true rfl) ?_ hl
  intro p e s m args below meth c C htab hret hname Q hQ
  obtain ⟨hb, hg, ht, har, hfl, hdj⟩ := id hW
  obtain ⟨hi1, hi2, hi3, hi4⟩ := id hI
  have hfj := hfl j (by omega) (by omega)
  have hf10 := (hi2 j (by omega) (by omega)).2.2.2.2.2.2.2.2.2
  refine gd_iload_n C dX4_step_0 rfl ?_
  refine gd_istore C dX4_step_1 (Nat.le_of_ble_eq_true rfl) ?_
  suffices hloop : ∀ (n : Nat) (q : Int), y ≤ q → q ≤ x → x - q ≤ 3 → (x - q).toNat = n → (stF (B j) y 3 x) = stF (B j) y (3 - n) q → Gd p l e ({ frames := 2, cells := 0, slots := 0, locals := 46 }) s m args below meth c D z Q 0 0 w 3 [some (.ref b), some (.ref (ac j)), some (.int (iI x)), some (.int (iI y)), some (.int (iI q)), none] [] from
    hloop 0 x (by omega) (by omega) (by omega) (by omega) rfl
  suffices hback : Gd p l e ({ frames := 2, cells := 0, slots := 0, locals := 46 }) s m args below meth c D z Q 0 0 w 32 [some (.ref b), some (.ref (ac j)), some (.int (iI x)), some (.int (iI y)), some (.int (iI (stF (B j) y 3 x))), none] [] by
    intro n
    induction hm : 3 - n using Nat.strongRecOn generalizing n with
    | _ m9 ih =>
    intro q h1q h2q h3q hn hall
    have hfq := hf10 q
    skip
    refine gd_iload C dX4_step_3 rfl ?_
    refine gd_iload_n C dX4_step_5 rfl ?_
    refine gd_icmp_le (tgt := 32) C dX4_step_6 (by decide) ?_ ?_ (fun hc6 => ?_) (fun hc6 => ?_)
    · omega
    · omega
    · have e9 : stF (B j) y 3 x = q := by
        rw [hall]
        rcases Nat.eq_zero_or_pos m9 with h0 | h0
        · rw [h0]; rfl
        · obtain ⟨k, hk⟩ : ∃ k, m9 = k + 1 := ⟨m9 - 1, by omega⟩
          rw [hk]
          exact if_neg (fun h => by have := (jN_iff _ _).mp h.2; omega)
      rw [e9] at hback
      exact hback
    · refine gd_iload_n C dX4_step_9 rfl ?_
      refine gd_iload C dX4_step_10 rfl ?_
      refine gd_isub C dX4_step_12 ?_
      refine gd_iconst C dX4_step_13 ?_
      refine gd_icmp_ge (tgt := 32) C dX4_step_14 (by decide) ?_ ?_ (fun hc14 => ?_) (fun hc14 => ?_)
      · omega
      · omega
      · have e9 : stF (B j) y 3 x = q := by
          rw [hall]
          rcases Nat.eq_zero_or_pos m9 with h0 | h0
          · rw [h0]; rfl
          · obtain ⟨k, hk⟩ : ∃ k, m9 = k + 1 := ⟨m9 - 1, by omega⟩
            rw [hk]
            exact if_neg (fun h => by have := (jN_iff _ _).mp h.2; omega)
        rw [e9] at hback
        exact hback
      · refine gd_aload_n C dX4_step_17 rfl ?_
        refine gd_iload C dX4_step_18 rfl ?_
        refine gd_callVN (n := 1) (ci := 0) (Cn := RX0) (T := TX0) (N := 11) (host := RX4) C (kX0_joinsAhead hl hfj.1 hfj.2 hf10 (q := q) ?_) ?_ rfl gX4_step_X0_joinsAhead_n270 rfl (by decide +kernel) (by decide +kernel) (by decide +kernel) (by decide +kernel) ⟨by decide, by decide, by decide +kernel⟩ rfl rfl (Nat.le_of_ble_eq_true rfl) rfl dX4_step_20 ⟨⟨by decide, by decide⟩, by decide, by decide⟩ (fun _ h => h.elim) ?_
        · omega
        · exact ⟨_, by exact hfj.1⟩
        rintro _ _ ⟨b9, rfl, rfl, hb9⟩
        refine gd_if_eq (tgt := 32) C dX4_step_23 (by decide) ?_ (fun hc23 => ?_) (fun hc23 => ?_)
        · omega
        · have e9 : stF (B j) y 3 x = q := by
            rw [hall]
            rcases Nat.eq_zero_or_pos m9 with h0 | h0
            · rw [h0]; rfl
            · obtain ⟨k, hk⟩ : ∃ k, m9 = k + 1 := ⟨m9 - 1, by omega⟩
              rw [hk]
              exact if_neg (fun h => by have := (jN_iff _ _).mp h.2; omega)
          rw [e9] at hback
          exact hback
        · refine gd_iinc C dX4_step_26 rfl ?_
          refine gd_goto (tgt := 3) C dX4_step_29 (by decide) ?_
          exact ih (3 - (n + 1)) (by omega) (n + 1) rfl _ (by omega) (by omega) (by omega) (by omega) (by rw [hall, show m9 = (3 - (n + 1)) + 1 by omega]; exact if_pos ⟨by omega, (jN_iff _ _).mpr (by omega)⟩)
  obtain ⟨s1, s2, s3, s4⟩ := stF_spec (B j) y 3 x
  have s3 := s3 (by omega)
  generalize hA : (stF (B j) y 3 x) = a at s1 s2 s3 s4 ⊢
  have hrun := stF_run (f := (B j)) (a := a) (b := x) s4
  have hfa : 0 ≤ (B j) a := by
    have := hrun (x - a).toNat (by omega)
    by_cases hax : a = x
    · rw [hax]; exact hx0
    · have := (jN_iff (B j) (a + 1)).mp (s4 (a + 1) (by omega) (by omega))
      rw [show a + 1 - 1 = a by omega] at this
      omega
  refine gd_iload C dX4_step_32 rfl ?_
  refine gd_istore C dX4_step_34 (Nat.le_of_ble_eq_true rfl) ?_
  suffices hloop : ∀ (n : Nat) (i : Int) (w1 : WT), a ≤ i → i ≤ x + 1 → (x + 1 - i).toNat = n → CW w1 ky b g t ar d ac ab (tkF T ((B j) a) (i - a) 0) v (fU B j (clF (B j) a i)) sc dn → FrC w w1 b g t ac ab → Gd p l e ({ frames := 2, cells := 0, slots := 0, locals := 46 }) s m args below meth c D z Q 0 0 w1 36 [some (.ref b), some (.ref (ac j)), some (.int (iI x)), some (.int (iI y)), some (.int (iI a)), some (.int (iI i))] [] from
    hloop _ a w (by omega) (by omega) rfl (by rw [Int.sub_self, tkF_0, clF_0, fU_id]; exact hW) (FrC.rf _ _ _ _ _ _)
  intro n
  induction n using Nat.strongRecOn with
  | _ n ih =>
  intro i w1 h1i h2i hn hW1 hF1
  obtain ⟨hb1, hg1, ht1, har1, hfl1, hdj1⟩ := id hW1
  have hfj1 := hfl1 j (by omega) (by omega)
  rw [fU_s] at hfj1
  have e1 : clF (B j) a i i = (B j) i := clF_ge (Int.le_refl _)
  have e2 : i ≤ x → (B j) i = (B j) a + (i - a) := fun h => by
    have := hrun (i - a).toNat (by omega)
    rw [show a + ((i - a).toNat : Int) = i by omega] at this
    omega
  have e3 : i ≤ x → (B j) i ≤ 127 := fun _ => (hf10 i).2
  refine gd_iload C dX4_step_36 rfl ?_
  refine gd_iload_n C dX4_step_38 rfl ?_
  refine gd_icmp_gt (tgt := 71) C dX4_step_39 (by decide) ?_ ?_ (fun hc39 => ?_) (fun hc39 => ?_)
  · omega
  · omega
  · refine gd_vret C hQ hret dX4_step_71 ?_ ?_
    · have e : i = x + 1 := by omega
      subst e
      refine ⟨rfl, ?_, ?_, hF1⟩
      · rw [hA]; exact hW1
      · rw [hA]
        have h9 := (hI.setT (T' := tkF T (B j a) (x + 1 - a) 0) (tkF_01 hi1 (Or.inl rfl))).setF (V := v j) (F := clF (B j) a (x + 1)) ((hi2 j (by omega) (by omega)).setB (rC_cl (fun p p1 p2 => by
          have := hrun (p - a).toNat (by omega)
          rw [show a + ((p - a).toNat : Int) = p by omega] at this
          omega)) (clF_bd hf10))
        rwa [fU_id] at h9
    · decide
  · refine gd_aload_n C dX4_step_42 rfl ?_
    apply gd_get (ci := 4) (Cn := RX4) (T := TX4) (N := 5) (ref := RX4) C rfl (by decide +kernel) 0 (by decide) (by decide +kernel) rfl dX4_step_43
    · exact hb1
    · rfl
    refine gd_aload_n C dX4_step_46 rfl ?_
    apply gd_getN (host := RX4) (ci := 0) (Cn := RX0) (T := TX0) (N := 11) (ref := RX0) C rfl (by decide +kernel) 1 (by decide) (by decide +kernel) rfl dX4_step_47
    · exact hfj1.1
    · rfl
    refine gd_iload C dX4_step_50 rfl ?_
    apply gd_iald C dX4_step_52
    · exact hfj1.2
    · decide
    · omega
    refine gd_iconst C dX4_step_53 ?_
    rw [e1]
    refine gd_callVN (n := 2) (ci := 2) (Cn := RX2) (T := TX2) (N := 2) (host := RX4) C (kX2_release hl hg1 ht1 (tkF_01 hi1 (Or.inl rfl)) (a := B j i) (q := 1) ?_) ?_ rfl gX4_step_X2_release_n215 rfl (by decide +kernel) (by decide +kernel) (by decide +kernel) (by decide +kernel) ⟨by decide, by decide, by decide +kernel⟩ rfl rfl (Nat.le_of_ble_eq_true rfl) rfl dX4_step_54 ⟨⟨by decide, by decide⟩, by decide, by decide⟩ (fun _ h => h.elim) ?_
    · omega
    · exact ⟨_, by exact hg1⟩
    rintro _ w2 ⟨rfl, c1, c2, c3⟩
    obtain ⟨hW2, hF2⟩ := hW1.setG c1 c2 (by rw [sI_tk (T := tkF T (B j a) (i - a) 0) (a := B j i) (n := 1) (x := 0) (by omega)]; omega) c3
    have hfj9 := hW2.2.2.2.2.1 j (by omega) (by omega)
    rw [fU_s] at hfj9
    rw [← e1] at hW2
    refine gd_aload_n C dX4_step_57 rfl ?_
    apply gd_getN (host := RX4) (ci := 0) (Cn := RX0) (T := TX0) (N := 11) (ref := RX0) C rfl (by decide +kernel) 1 (by decide) (by decide +kernel) rfl dX4_step_58
    · exact hfj9.1
    · rfl
    refine gd_iload C dX4_step_61 rfl ?_
    refine gd_iconst C dX4_step_63 ?_
    apply gd_iast C dX4_step_64
    · exact hfj9.2
    · decide
    · omega
    refine gd_iinc C dX4_step_65 rfl ?_
    refine gd_goto (tgt := 36) C dX4_step_68 (by decide) ?_
    have hfj2 := hW2.2.2.2.2.1 j (by omega) (by omega)
    rw [fU_s] at hfj2
    obtain ⟨hW3, hF3⟩ := hW2.setF (w1 := wU w2 (ab j) (iA (ky 0) 64 (fU (clF (B j) a i) i (-1)))) (j := j) (by omega) (wU_s _ _ _) ((wU_n (kd_ne hfj2.1 hfj2.2)).trans hfj2.1) (fun y y1 y2 => wU_n y1)
    rw [fU_id, fU_ss, clF_s h1i] at hW3
    refine ih _ (by omega) (i + 1) _ (by omega) (by omega) rfl ?_ (hF1.tr (hF2.tr hF3))
    rw [e1, tkF_1, e2 (by omega), ← tkF_s (by omega), show i - a + 1 = i + 1 - a by omega, ← clF_s h1i] at hW3
    rw [← clF_s h1i]
    exact hW3

set_option maxRecDepth 100000 in
set_option maxHeartbeats 4000000 in
theorem kX4_cutTo {l : Launch} {D : va_G} {ky : Nat → ClassId} {z : Nat} {w : WT} (hl : l.stackTraces = false) {b g t ar d : Nat} {ac ab : Int → Nat} {T : Int → Int} {v B : Int → Int → Int} {sc dn : Int} (hW : CW w ky b g t ar d ac ab T v B sc dn) (hI : CI T v B sc dn) {j y : Int} (hj : 0 ≤ j ∧ j < 16) (hy : 0 ≤ y ∧ y ≤ 64) : Mt l D ky z yX4_cutTo wsX4_cutTo { frames := 5, cells := 0, slots := 0, locals := 109 } [.ref b, .ref (ac j), .int (iI y)] w (fun r w' => ((ctS y (64 - y).toNat (tkF T (v j 6) (v j 7) 0) (drF (B j) y 64) sc 0).1 = 1 ∧ r = some (.int (iI (-1))) ∧ CW w' ky b g t ar d ac ab (rlT (fU v j (ctU (v j) (B j) y)) (ctS y (64 - y).toNat (tkF T (v j 6) (v j 7) 0) (drF (B j) y 64) sc 0).2.1 16) (flV (rlV (fU v j (ctU (v j) (B j) y)) 16) 16) (flB (fU B j (ctS y (64 - y).toNat (tkF T (v j 6) (v j 7) 0) (drF (B j) y 64) sc 0).2.2.1) 16) (-1) (1) ∧ CI (rlT (fU v j (ctU (v j) (B j) y)) (ctS y (64 - y).toNat (tkF T (v j 6) (v j 7) 0) (drF (B j) y 64) sc 0).2.1 16) (flV (rlV (fU v j (ctU (v j) (B j) y)) 16) 16) (flB (fU B j (ctS y (64 - y).toNat (tkF T (v j 6) (v j 7) 0) (drF (B j) y 64) sc 0).2.2.1) 16) (-1) (1) ∧ FrC w w' b g t ac ab) ∨ ((ctS y (64 - y).toNat (tkF T (v j 6) (v j 7) 0) (drF (B j) y 64) sc 0).1 = 0 ∧ r = some (.int (iI (ctS y (64 - y).toNat (tkF T (v j 6) (v j 7) 0) (drF (B j) y 64) sc 0).2.2.2.2)) ∧ 0 ≤ (ctS y (64 - y).toNat (tkF T (v j 6) (v j 7) 0) (drF (B j) y 64) sc 0).2.2.2.2 ∧ (ctS y (64 - y).toNat (tkF T (v j 6) (v j 7) 0) (drF (B j) y 64) sc 0).2.2.2.2 ≤ 64 ∧ CW w' ky b g t ar d ac ab ((ctS y (64 - y).toNat (tkF T (v j 6) (v j 7) 0) (drF (B j) y 64) sc 0).2.1) (fU v j (fU (ctU (v j) (B j) y) 8 (v j 9))) (fU B j (ctS y (64 - y).toNat (tkF T (v j 6) (v j 7) 0) (drF (B j) y 64) sc 0).2.2.1) ((ctS y (64 - y).toNat (tkF T (v j 6) (v j 7) 0) (drF (B j) y 64) sc 0).2.2.2.1) (dn) ∧ CI ((ctS y (64 - y).toNat (tkF T (v j 6) (v j 7) 0) (drF (B j) y 64) sc 0).2.1) (fU v j (fU (ctU (v j) (B j) y) 8 (v j 9))) (fU B j (ctS y (64 - y).toNat (tkF T (v j 6) (v j 7) 0) (drF (B j) y 64) sc 0).2.2.1) ((ctS y (64 - y).toNat (tkF T (v j 6) (v j 7) 0) (drF (B j) y 64) sc 0).2.2.2.1) (dn) ∧ FrC w w' b g t ac ab)) (fun _ => False) := by
  refine Mt.of (cc := cX4_cutTo) (ret := (some .int)) (maxL := 5) (by decide) rfl (by intro v hv; simp at hv; rcases hv with rfl | rfl | rfl <;> rfl) (Nat.le_of_ble_eq_true rfl) ?_ hl
  intro p e s m args below meth c C htab hret hname Q hQ
  obtain ⟨hb, hg, ht, har, hfl, hdj⟩ := id hW
  obtain ⟨hi1, hi2, hi3, hi4⟩ := id hI
  have hfj := hfl j (by omega) (by omega)
  have hfi := hi2 j (by omega) (by omega)
  refine gd_aload_n C dX4_cutTo_0 rfl ?_
  refine gd_iconst C dX4_cutTo_1 ?_
  apply gd_putCN (host := RX4) C (by decide +kernel) 8 8 rfl (by decide) (by decide) (by decide +kernel) rfl dX4_cutTo_2
  · exact hfj.1
  · exact fun _ => Or.inr rfl
  refine gd_aload_n C dX4_cutTo_5 rfl ?_
  refine gd_iload_n C dX4_cutTo_6 rfl ?_
  apply gd_putCN (host := RX4) C (by decide +kernel) 10 10 rfl (by decide) (by decide) (by decide +kernel) rfl dX4_cutTo_7
  · exact wU_s _ _ _
  · exact fun h => nomatch h
  refine gd_aload_n C dX4_cutTo_10 rfl ?_
  refine gd_iload_n C dX4_cutTo_11 rfl ?_
  refine gd_callVN (n := 1) (ci := 0) (Cn := RX0) (T := TX0) (N := 11) (host := RX4) C (kX0_dropReserved hl (wU_s _ _ _) ((wU_n (kd_ne hfj.1 hfj.2).symm).trans ((wU_n (kd_ne hfj.1 hfj.2).symm).trans hfj.2)) hfi.2.2.2.2.2.2.2.2.2 (a := y) hy) ?_ rfl gX4_cutTo_X0_dropReserved_n260 rfl (by decide +kernel) (by decide +kernel) (by decide +kernel) (by decide +kernel) ⟨by decide, by decide, by decide +kernel⟩ rfl rfl (Nat.le_of_ble_eq_true rfl) rfl dX4_cutTo_12 ⟨⟨by decide, by decide⟩, by decide, by decide⟩ (fun _ h => h.elim) ?_
  · exact ⟨_, by exact wU_s _ _ _⟩
  rintro _ w2 ⟨rfl, c1, c2, c3⟩
  obtain ⟨hW2, hF2⟩ := hW.setF (w1 := w2) (j := j) hj c1 c2 (fun y1 h1 h2 => (c3 y1 h1 h2).trans ((wU_n h2).trans (wU_n h2)))
  have hI2 := hI.setF (j := j) (V := fU (fU (fU (v j) 8 1) 10 y) 4 (v j 4 - sI (fun p => eqI (B j p) (-2)) y 64)) (F := drF (B j) y 64) (FI.ct1 hfi hy)
  refine gd_aload_n C dX4_cutTo_15 rfl ?_
  refine gd_aload_n C dX4_cutTo_16 rfl ?_
  refine gd_callV (n := 1) (ci := 4) (Cn := RX4) (T := TX4) (N := 5) C (kX4_releaseKept hl hW2 hI2 (j := j) hj) ?_ rfl gX4_cutTo_X4_releaseKept rfl ⟨rfl, by decide, by decide, by decide +kernel⟩ rfl rfl (Nat.le_of_ble_eq_true rfl) rfl dX4_cutTo_17 ⟨⟨by decide, by decide⟩, by decide, by decide⟩ (fun _ h => h.elim) ?_
  · exact ⟨_, by exact hW2.1⟩
  rintro _ w4 ⟨rfl, hW4, hI4, hF4⟩
  rw [fU_s, fU_ss] at hW4 hI4
  have hF4 := hF2.tr hF4
  refine gd_iconst C dX4_cutTo_20 ?_
  refine gd_istore_n C dX4_cutTo_21 (Nat.le_of_ble_eq_true rfl) ?_
  refine gd_bipush C dX4_cutTo_22 (by decide) ?_
  refine gd_istore C dX4_cutTo_24 (Nat.le_of_ble_eq_true rfl) ?_
  suffices hloop : ∀ (k : Nat) (p8 n0 s0 : Int) (T1 f1 : Int → Int) (w1 : WT), p8 = y + k - 1 → p8 ≤ 63 → 0 ≤ n0 → n0 + k ≤ 64 → CW w1 ky b g t ar d ac ab T1 (fU v j (ctU (v j) (B j) y)) (fU B j f1) s0 dn → CI T1 (fU v j (ctU (v j) (B j) y)) (fU B j f1) s0 dn → FrC w w1 b g t ac ab → (ctS y (64 - y).toNat (tkF T (v j 6) (v j 7) 0) (drF (B j) y 64) sc 0) = ctS y k T1 f1 s0 n0 → Gd p l e ({ frames := 5, cells := 0, slots := 0, locals := 109 }) s m args below meth c D z Q (0 + 0 + 0) (0 + 0 + 0) w1 26 [some (.ref b), some (.ref (ac j)), some (.int (iI y)), some (.int (iI n0)), some (.int (iI p8))] [] from
    hloop (64 - y).toNat 63 0 sc _ _ _ (by omega) (by omega) (by omega) (by omega) hW4 hI4 hF4 rfl
  intro k
  induction k with
  | zero =>
    intro p8 n0 s0 T1 f1 w1 hp hp63 hn1 hn2 hW1 hI1 hF1 hct
    have hfj1 := hW1.2.2.2.2.1 j (by omega) (by omega)
    rw [fU_s, fU_s] at hfj1
    have hv9 : (ctU (v j) (B j) y) 9 = 0 ∨ (ctU (v j) (B j) y) 9 = 1 := hfi.2.2.2.2.2.2.2.1
    refine gd_iload C dX4_cutTo_26 rfl ?_
    refine gd_iload_n C dX4_cutTo_28 rfl ?_
    refine gd_icmp_lt (tgt := 71) C dX4_cutTo_29 (by decide) ?_ ?_ (fun hc29 => ?_) (fun hc29 => ?_)
    · omega
    · omega
    · refine gd_aload_n C dX4_cutTo_71 rfl ?_
      refine gd_aload_n C dX4_cutTo_72 rfl ?_
      apply gd_getN (host := RX4) (ci := 0) (Cn := RX0) (T := TX0) (N := 11) (ref := RX0) C rfl (by decide +kernel) 9 (by decide) (by decide +kernel) rfl dX4_cutTo_73
      · exact hfj1.1
      · rfl
      apply gd_putCN (host := RX4) C (by decide +kernel) 8 8 rfl (by decide) (by decide) (by decide +kernel) rfl dX4_cutTo_76
      · exact hfj1.1
      · exact fun _ => hv9
      refine gd_iload_n C dX4_cutTo_79 rfl ?_
      refine gd_iret C hQ hret dX4_cutTo_80 ?_ ?_
      · obtain ⟨hW2, hF2⟩ := hW1.setV (w1 := wU w1 (ac j) (cC (ab j) (fU (ctU (v j) (B j) y) 8 (v j 9)))) (j := j) (by omega) (wU_s _ _ _) (fun y1 h1 => wU_n h1)
        rw [fU_ss] at hW2
        have hI2 := hI1.setV (j := j) (V := fU (ctU (v j) (B j) y) 8 (v j 9)) (by rw [fU_s]; have h9 := hI1.2.1 j (by omega) (by omega); rw [fU_s, fU_s] at h9; exact h9.set8 hv9)
        rw [fU_ss] at hI2
        refine Or.inr ?_
        rw [hct]
        exact ⟨rfl, rfl, hn1, (show n0 ≤ 64 by omega), hW2, hI2, hF1.tr hF2⟩
      · decide
    · exfalso; omega
  | succ k ih =>
    intro p8 n0 s0 T1 f1 w1 hp hp63 hn1 hn2 hW1 hI1 hF1 hct
    have hp9 : p8 = y + k := by omega
    have hfj1 := hW1.2.2.2.2.1 j (by omega) (by omega)
    rw [fU_s, fU_s] at hfj1
    have hfi1 := hI1.2.1 j (by omega) (by omega)
    rw [fU_s, fU_s] at hfi1
    have hf10 := hfi1.2.2.2.2.2.2.2.2.2
    have hfp := hf10 p8
    skip
    refine gd_iload C dX4_cutTo_26 rfl ?_
    refine gd_iload_n C dX4_cutTo_28 rfl ?_
    refine gd_icmp_lt (tgt := 71) C dX4_cutTo_29 (by decide) ?_ ?_ (fun hc29 => ?_) (fun hc29 => ?_)
    · omega
    · omega
    · exfalso; omega
    · refine gd_aload_n C dX4_cutTo_32 rfl ?_
      refine gd_iload C dX4_cutTo_33 rfl ?_
      refine gd_callVN (n := 1) (ci := 0) (Cn := RX0) (T := TX0) (N := 11) (host := RX4) C (kX0_isMapped hl hfj1.1 hfj1.2 hf10 (q := p8) ?_) ?_ rfl gX4_cutTo_X0_isMapped_n254 rfl (by decide +kernel) (by decide +kernel) (by decide +kernel) (by decide +kernel) ⟨by decide, by decide, by decide +kernel⟩ rfl rfl (Nat.le_of_ble_eq_true rfl) rfl dX4_cutTo_35 ⟨⟨by decide, by decide⟩, by decide, by decide⟩ (fun _ h => h.elim) ?_
      · omega
      · exact ⟨_, by exact hfj1.1⟩
      rintro _ _ ⟨b1, rfl, rfl, hb1⟩
      refine gd_if_eq (tgt := 65) C dX4_cutTo_38 (by decide) ?_ (fun hc38 => ?_) (fun hc38 => ?_)
      · omega
      · refine gd_iinc C dX4_cutTo_65 rfl ?_
        refine gd_goto (tgt := 26) C dX4_cutTo_68 (by decide) ?_
        first
          | exact Gd.widen (by decide) (by decide) (ih _ _ _ _ _ _ (by omega) (by omega) (by omega) (by omega) hW3 hI3 (hF1.tr (hF2.tr hF3)) (by rw [hct, ctS_st hp9 (by omega) (by omega)]))
          | exact ih _ _ _ _ _ _ (by omega) (by omega) (by omega) (by omega) hW1 hI1 hF1 (by rw [hct, ctS_no hp9 (by omega)])
      · refine gd_aload_n C dX4_cutTo_41 rfl ?_
        refine gd_aload_n C dX4_cutTo_42 rfl ?_
        refine gd_iload C dX4_cutTo_43 rfl ?_
        refine gd_iload_n C dX4_cutTo_45 rfl ?_
        refine gd_callV (n := 3) (ci := 4) (Cn := RX4) (T := TX4) (N := 5) C (kX4_step hl hW1 hI1 (j := j) (x := p8) (y := y) ?_ ?_ ?_) ?_ rfl gX4_cutTo_X4_step rfl ⟨rfl, by decide, by decide, by decide +kernel⟩ rfl rfl (Nat.le_of_ble_eq_true rfl) rfl dX4_cutTo_46 ⟨⟨by decide, by decide⟩, by decide, by decide⟩ (fun _ h => h.elim) ?_
        · omega
        · omega
        · rw [fU_s]; omega
        · exact ⟨_, by exact hW1.1⟩
        rintro _ w2 ⟨rfl, hW2, hI2, hF2⟩
        rw [fU_s, fU_ss] at hW2 hI2
        refine gd_iinc C dX4_cutTo_49 rfl ?_
        refine gd_aload_n C dX4_cutTo_52 rfl ?_
        refine gd_callV (n := 0) (ci := 4) (Cn := RX4) (T := TX4) (N := 5) C (kX4_crashIsDue hl hW2 hI2) ?_ rfl gX4_cutTo_X4_crashIsDue rfl ⟨rfl, by decide, by decide, by decide +kernel⟩ rfl rfl (Nat.le_of_ble_eq_true rfl) rfl dX4_cutTo_53 ⟨⟨by decide, by decide⟩, by decide, by decide⟩ (fun _ h => h.elim) ?_
        · exact ⟨_, by exact hW2.1⟩
        rintro _ w3 ⟨b2, rfl, hW3, hF3, hb2⟩
        have hI3 : CI _ (fU v j (ctU (v j) (B j) y)) _ (if s0 = -1 then s0 else s0 - 1) dn := ⟨hI2.1, hI2.2.1, by have := hI2.2.2.1; split <;> omega, hI2.2.2.2⟩
        refine gd_if_eq (tgt := 65) C dX4_cutTo_56 (by decide) ?_ (fun hc56 => ?_) (fun hc56 => ?_)
        · omega
        · refine gd_iinc C dX4_cutTo_65 rfl ?_
          refine gd_goto (tgt := 26) C dX4_cutTo_68 (by decide) ?_
          first
            | exact Gd.widen (by decide) (by decide) (ih _ _ _ _ _ _ (by omega) (by omega) (by omega) (by omega) hW3 hI3 (hF1.tr (hF2.tr hF3)) (by rw [hct, ctS_st hp9 (by omega) (by omega)]))
            | exact ih _ _ _ _ _ _ (by omega) (by omega) (by omega) (by omega) hW1 hI1 hF1 (by rw [hct, ctS_no hp9 (by omega)])
        · refine gd_aload_n C dX4_cutTo_59 rfl ?_
          refine gd_callV (n := 0) (ci := 4) (Cn := RX4) (T := TX4) (N := 5) C (kX4_fall hl hW3 hI3) ?_ rfl gX4_cutTo_X4_fall rfl ⟨rfl, by decide, by decide, by decide +kernel⟩ rfl rfl (Nat.le_of_ble_eq_true rfl) rfl dX4_cutTo_60 ⟨⟨by decide, by decide⟩, by decide, by decide⟩ (fun _ h => h.elim) ?_
          · exact ⟨_, by exact hW3.1⟩
          rintro _ w5 ⟨rfl, hW5, hI5, hF5⟩
          refine gd_iconst C dX4_cutTo_63 ?_
          refine gd_iret C hQ hret dX4_cutTo_64 ?_ ?_
          · refine Or.inl ?_
            rw [hct, ctS_cr hp9 (by omega) (by omega)]
            exact ⟨rfl, rfl, hW5, hI5, hF1.tr (hF2.tr (hF3.tr hF5))⟩
          · decide
