set_option maxRecDepth 100000 in
set_option maxHeartbeats 4000000 in
theorem kX4_start {l : Launch} {D : va_G} {ky : Nat → ClassId} {z : Nat} {w : WT} (hl : l.stackTraces = false) {b g t ar d : Nat} {ac ab : Int → Nat} {T : Int → Int} {v B : Int → Int → Int} {sc dn : Int} (hW : CW w ky b g t ar d ac ab T v B sc dn) (hI : CI T v B sc dn) (hsc : dn = 1 → sc = -1) : Mt l D ky z yX4_start wsX4_start { frames := 7, cells := 1, slots := 6, locals := 154 } [.ref b] w (fun r w' => dn = 1 ∧ r = some (.int (iI (sI (fun j => v j 8) 0 16))) ∧ CW w' ky b g t ar d ac ab ((stS (T, v, B) 16).1) ((stS (T, v, B) 16).2.1) ((stS (T, v, B) 16).2.2) (-1) (0) ∧ CI ((stS (T, v, B) 16).1) ((stS (T, v, B) 16).2.1) ((stS (T, v, B) 16).2.2) (-1) (0) ∧ FrC w w' b g t ac ab) (fun E => E = "java/lang/IllegalStateException" ∧ dn = 0) := by
  refine Mt.of (cc := cX4_start) (ret := (some .int)) (maxL := 4) (by decide) rfl (by intro v hv; simp at hv; rcases hv with rfl <;> rfl) (Nat.le_of_ble_eq_true rfl) ?_ hl
  intro p e s m args below meth c C htab hret hname Q hQ
  obtain ⟨hb, hg, ht, har, hfl, hdj⟩ := id hW
  obtain ⟨hi1, hi2, hi3, hi4⟩ := id hI
  have hsc1 : dn ≠ 0 → sc = -1 := fun h => hsc (by omega)
  refine gd_aload_n C dX4_start_0 rfl ?_
  apply gd_get (ci := 4) (Cn := RX4) (T := TX4) (N := 5) (ref := RX4) C rfl (by decide +kernel) 4 (by decide) (by decide +kernel) rfl dX4_start_1
  · first | assumption | exact (hfl _ (by omega) (by omega)).1 | exact (hfl _ (by omega) (by omega)).2 | exact wU_s _ _ _
  · rfl
  refine gd_if_ne (tgt := 17) C dX4_start_4 (by decide) ?_ (fun hc4 => ?_) (fun hc4 => ?_)
  · omega
  · have hsc2 : sc = -1 := hsc1 (by omega)
    subst hsc2
    refine gd_aload_n C dX4_start_17 rfl ?_
    refine gd_iconst C dX4_start_18 ?_
    apply gd_put (ci := 4) (Cn := RX4) (T := TX4) (N := 5) (ref := RX4) C rfl (by decide +kernel) tyX4 tyX4_ok nmX4 4 (by decide) (by decide +kernel) rfl rfl dX4_start_19
    · first | assumption | exact (hfl _ (by omega) (by omega)).1 | exact (hfl _ (by omega) (by omega)).2 | exact wU_s _ _ _
    · exact nar_b (Or.inl rfl)
    · exact (nar_t (Or.inr rfl) (fun _ => Or.inl rfl)).2
    · exact Nat.le_of_ble_eq_true rfl
    obtain ⟨hW0, hF0⟩ := hW.setO (sc' := -1) (dn' := 0) (wU_s _ _ _) (fun y h => wU_n h)
    have hI0 : CI T v B (-1) 0 := ⟨hi1, hi2, Or.inl rfl, Or.inl rfl⟩
    refine gd_aload_n C dX4_start_22 rfl ?_
    refine gd_callV (n := 0) (ci := 4) (Cn := RX4) (T := TX4) (N := 5) C (kX4_listed hl hW0 hI0) ?_ rfl gX4_start_X4_listed rfl ⟨rfl, by decide, by decide, by decide +kernel⟩ rfl rfl (Nat.le_of_ble_eq_true rfl) rfl dX4_start_23 ⟨⟨by decide, by decide⟩, by decide, by decide⟩ (fun _ h => h.elim) ?_
    · exact ⟨_, by exact hW0.1⟩
    rintro _ _ ⟨rfl, rfl⟩
    refine gd_istore_n C dX4_start_26 (Nat.le_of_ble_eq_true rfl) ?_
    refine gd_iconst C dX4_start_27 ?_
    refine gd_istore_n C dX4_start_28 (Nat.le_of_ble_eq_true rfl) ?_
    suffices hloop : ∀ (n9 : Nat) (i : Int) (w1 : WT), 0 ≤ i → i ≤ 16 → (16 - i).toNat = n9 → CW w1 ky b g t ar d ac ab (stS (T, v, B) i.toNat).1 (stS (T, v, B) i.toNat).2.1 (stS (T, v, B) i.toNat).2.2 (-1) 0 → CI (stS (T, v, B) i.toNat).1 (stS (T, v, B) i.toNat).2.1 (stS (T, v, B) i.toNat).2.2 (-1) 0 → FrC w w1 b g t ac ab → Gd p l e ({ frames := 7, cells := 1, slots := 6, locals := 154 }) s m args below meth c D z Q 0 0 w1 29 [some (.ref b), some (.int (iI (sI (fun j => v j 8) 0 16))), some (.int (iI i)), none] [] from
      hloop _ 0 _ (by omega) (by omega) rfl hW0 hI0 hF0
    intro n9
    induction n9 using Nat.strongRecOn with
    | _ n9 ih =>
    intro i w1 h1i h2i hn hW1 hI1 hF1
    have hfj1 := fun h => hW1.2.2.2.2.1 i h1i (h : i < 16)
    have hfi1 := fun h => hI1.2.1 i h1i (h : i < 16)
    generalize hse : (stS (T, v, B) i.toNat) = s9 at hW1 hI1 hfj1 hfi1
    unfold FI at hfi1
    refine gd_iload_n C dX4_start_29 rfl ?_
    refine gd_bipush C dX4_start_30 (by decide) ?_
    refine gd_icmp_ge (tgt := 81) C dX4_start_32 (by decide) ?_ ?_ (fun hc32 => ?_) (fun hc32 => ?_)
    · omega
    · omega
    · refine gd_iload_n C dX4_start_81 rfl ?_
      refine gd_iret C hQ hret dX4_start_82 ?_ ?_
      · have e : i = 16 := by omega
        subst e
        have e2 : stS (T, v, B) 16 = s9 := hse
        refine ⟨by omega, rfl, ?_, ?_, hF1⟩
        · rw [e2]; exact hW1
        · rw [e2]; exact hI1
      · decide
    · refine gd_aload_n C dX4_start_35 rfl ?_
      apply gd_get (ci := 4) (Cn := RX4) (T := TX4) (N := 5) (ref := RX4) C rfl (by decide +kernel) 2 (by decide) (by decide +kernel) rfl dX4_start_36
      · exact hW1.1
      · rfl
      refine gd_iload_n C dX4_start_39 rfl ?_
      apply gd_aald C dX4_start_40
      · exact hW1.2.2.2.1
      · decide
      · omega
      · exact cQ_at (by omega)
      refine gd_astore_n C dX4_start_41 (Nat.le_of_ble_eq_true rfl) ?_
      refine gd_aload_n C dX4_start_42 rfl ?_
      have hfi2 := hfi1 (by omega)
      apply gd_getN (host := RX4) (ci := 0) (Cn := RX0) (T := TX0) (N := 11) (ref := RX0) C rfl (by decide +kernel) 9 (by decide) (by decide +kernel) rfl dX4_start_43
      · exact (hfj1 (by omega)).1
      · rfl
      refine gd_if_eq (tgt := 58) C dX4_start_46 (by decide) ?_ (fun hc46 => ?_) (fun hc46 => ?_)
      · omega
      · refine gd_aload_n C dX4_start_58 rfl ?_
        apply gd_getN (host := RX4) (ci := 0) (Cn := RX0) (T := TX0) (N := 11) (ref := RX0) C rfl (by decide +kernel) 8 (by decide) (by decide +kernel) rfl dX4_start_59
        · exact (hfj1 (by omega)).1
        · rfl
        refine gd_if_eq (tgt := 75) C dX4_start_62 (by decide) ?_ (fun hc62 => ?_) (fun hc62 => ?_)
        · omega
        · refine gd_iinc C dX4_start_75 rfl ?_
          refine gd_goto (tgt := 29) C dX4_start_78 (by decide) ?_
          first
            | (refine Gd.sub (by repeat (first | exact Lsb.nil | exact Lsb.rf _ | refine Lsb.keep ?_ | refine Lsb.drop ?_)) (ih _ (by omega) (i + 1) w2 (by omega) (by omega) rfl ?_ ?_ (hF1.tr hF2))
               · rw [stS_s h1i, hse, hst]; exact hW2
               · rw [stS_s h1i, hse, hst]; exact hI2)
            | (refine Gd.sub (by repeat (first | exact Lsb.nil | exact Lsb.rf _ | refine Lsb.keep ?_ | refine Lsb.drop ?_)) (ih _ (by omega) (i + 1) w1 (by omega) (by omega) rfl ?_ ?_ hF1)
               · rw [stS_s h1i, hse, show st1 s9 i = s9 by unfold st1; rw [if_neg (by omega), if_neg (by omega)]]; exact hW1
               · rw [stS_s h1i, hse, show st1 s9 i = s9 by unfold st1; rw [if_neg (by omega), if_neg (by omega)]]; exact hI1)
        · refine gd_aload_n C dX4_start_65 rfl ?_
          refine gd_aload_n C dX4_start_66 rfl ?_
          refine gd_aload_n C dX4_start_67 rfl ?_
          apply gd_getN (host := RX4) (ci := 0) (Cn := RX0) (T := TX0) (N := 11) (ref := RX0) C rfl (by decide +kernel) 10 (by decide) (by decide +kernel) rfl dX4_start_68
          · exact (hfj1 (by omega)).1
          · rfl
          refine gd_callV (n := 2) (ci := 4) (Cn := RX4) (T := TX4) (N := 5) C (kX4_cutTo hl hW1 hI1 (j := i) (y := s9.2.1 i 10) ⟨h1i, by omega⟩ ?_) ?_ rfl gX4_start_X4_cutTo rfl ⟨rfl, by decide, by decide, by decide +kernel⟩ rfl rfl (Nat.le_of_ble_eq_true rfl) rfl dX4_start_71 ⟨⟨by decide, by decide⟩, by decide, by decide⟩ (fun _ h => h.elim) ?_
          · omega
          · exact ⟨_, by exact hW1.1⟩
          rintro r w2 hx
          rcases hx with ⟨hc, -⟩ | ⟨-, rfl, -, -, hW2, hI2, hF2⟩
          · rw [(ctS_m1 _ _ _ _ _).1] at hc
            exact absurd hc (by decide)
          rw [(ctS_m1 _ _ _ _ _).2] at hW2 hI2
          have hst := show st1 s9 i = _ from (if_neg (by omega)).trans (if_pos (by omega))
          refine gd_pop C dX4_start_74 rfl ?_
          refine gd_iinc C dX4_start_75 rfl ?_
          refine gd_goto (tgt := 29) C dX4_start_78 (by decide) ?_
          first
            | (refine Gd.sub (by repeat (first | exact Lsb.nil | exact Lsb.rf _ | refine Lsb.keep ?_ | refine Lsb.drop ?_)) (ih _ (by omega) (i + 1) w2 (by omega) (by omega) rfl ?_ ?_ (hF1.tr hF2))
               · rw [stS_s h1i, hse, hst]; exact hW2
               · rw [stS_s h1i, hse, hst]; exact hI2)
            | (refine Gd.sub (by repeat (first | exact Lsb.nil | exact Lsb.rf _ | refine Lsb.keep ?_ | refine Lsb.drop ?_)) (ih _ (by omega) (i + 1) w1 (by omega) (by omega) rfl ?_ ?_ hF1)
               · rw [stS_s h1i, hse, show st1 s9 i = s9 by unfold st1; rw [if_neg (by omega), if_neg (by omega)]]; exact hW1
               · rw [stS_s h1i, hse, show st1 s9 i = s9 by unfold st1; rw [if_neg (by omega), if_neg (by omega)]]; exact hI1)
      · refine gd_aload_n C dX4_start_49 rfl ?_
        refine gd_aload_n C dX4_start_50 rfl ?_
        refine gd_callV (n := 1) (ci := 4) (Cn := RX4) (T := TX4) (N := 5) C (kX4_erase hl hW1 hI1 (j := i) ⟨h1i, by omega⟩) ?_ rfl gX4_start_X4_erase rfl ⟨rfl, by decide, by decide, by decide +kernel⟩ rfl rfl (Nat.le_of_ble_eq_true rfl) rfl dX4_start_51 ⟨⟨by decide, by decide⟩, by decide, by decide⟩ (fun _ h => h.elim) ?_
        · exact ⟨_, by exact hW1.1⟩
        rintro _ w2 ⟨x, rfl, hx⟩
        rcases hx with ⟨-, hc, -⟩ | ⟨-, -, hW2, hI2, hF2⟩
        · rw [(ctS_m1 _ _ _ _ _).1] at hc
          exact absurd hc (by decide)
        rw [(ctS_m1 _ _ _ _ _).2] at hW2 hI2
        have hst := show st1 s9 i = _ from if_pos (by omega)
        refine gd_pop C dX4_start_54 rfl ?_
        refine gd_goto (tgt := 75) C dX4_start_55 (by decide) ?_
        refine gd_iinc C dX4_start_75 rfl ?_
        refine gd_goto (tgt := 29) C dX4_start_78 (by decide) ?_
        first
          | (refine Gd.sub (by repeat (first | exact Lsb.nil | exact Lsb.rf _ | refine Lsb.keep ?_ | refine Lsb.drop ?_)) (ih _ (by omega) (i + 1) w2 (by omega) (by omega) rfl ?_ ?_ (hF1.tr hF2))
             · rw [stS_s h1i, hse, hst]; exact hW2
             · rw [stS_s h1i, hse, hst]; exact hI2)
          | (refine Gd.sub (by repeat (first | exact Lsb.nil | exact Lsb.rf _ | refine Lsb.keep ?_ | refine Lsb.drop ?_)) (ih _ (by omega) (i + 1) w1 (by omega) (by omega) rfl ?_ ?_ hF1)
             · rw [stS_s h1i, hse, show st1 s9 i = s9 by unfold st1; rw [if_neg (by omega), if_neg (by omega)]]; exact hW1
             · rw [stS_s h1i, hse, show st1 s9 i = s9 by unfold st1; rw [if_neg (by omega), if_neg (by omega)]]; exact hI1)
  · refine gd_throw (cls := "java/lang/IllegalStateException") (text := "the volume is not down") (ik := 58) (is := 137) (ic := 62) C hQ htab (by decide +kernel) (by decide +kernel) (by decide +kernel) (by decide +kernel) (by decide +kernel) (by decide +kernel) (by decide +kernel) dX4_start_7 dX4_start_10 dX4_start_11 dX4_start_13 dX4_start_16 rfl ?_ ⟨⟨by decide, Nat.le_of_ble_eq_true rfl, by decide, by decide⟩, by decide, by decide⟩
    · exact ⟨rfl, by omega⟩
