set_option maxRecDepth 100000 in
set_option maxHeartbeats 4000000 in
theorem kX4_average {l : Launch} {D : va_G} {ky : Nat → ClassId} {z : Nat} {w : WT} (hl : l.stackTraces = false) {b g t ar d : Nat} {ac ab : Int → Nat} {T : Int → Int} {v B : Int → Int → Int} {sc dn : Int} (hW : CW w ky b g t ar d ac ab T v B sc dn) (hI : CI T v B sc dn) {q : Int} (hq : InR q) : Mt l D ky z yX4_average wsX4_average { frames := 7, cells := 1, slots := 6, locals := 111 } [.ref b, .int (iI q)] w (fun r w' => w = w' ∧ r = some (.float (avF (B q))) ∧ (0 ≤ q ∧ q < 16 ∧ v q 2 = 1)) (fun E => E = "java/lang/IndexOutOfBoundsException" ∧ ¬ (0 ≤ q ∧ q < 16 ∧ v q 2 = 1)) := by
  refine Mt.of (cc := cX4_average) (ret := (some .float)) (maxL := 4) (by decide) rfl (by intro v hv; simp at hv; rcases hv with rfl | rfl <;> rfl) (Nat.le_of_ble_eq_true rfl) ?_ hl
  intro p e s m args below meth c C htab hret hname Q hQ
  obtain ⟨hb, hg, ht, har, hfl, hdj⟩ := id hW
  obtain ⟨hi1, hi2, hi3, hi4⟩ := id hI
  refine gd_aload_n C dX4_average_0 rfl ?_
  refine gd_iload_n C dX4_average_1 rfl ?_
  refine gd_callV (n := 1) (ci := 4) (Cn := RX4) (T := TX4) (N := 5) C (kX4_requireContent hl hW hI (q := q) ?_) ?_ rfl gX4_average_X4_requireContent rfl ⟨rfl, by decide, by decide, by decide +kernel⟩ rfl rfl (Nat.le_of_ble_eq_true rfl) rfl dX4_average_2 ⟨⟨by decide, by decide⟩, by decide, by decide⟩ (fun E h => gx_out C hQ htab (⟨h.1, h.2⟩) (by decide) (by decide)) ?_
  · omega
  · exact ⟨_, by first | assumption | exact wU_s _ _ _ | exact look1 (by assumption) (by assumption) | exact look2 (by assumption) (by assumption)⟩
  rintro _ _ ⟨rfl, rfl, hq1, hq2, hq3⟩
  have hfi := hi2 q hq1 hq2
  unfold FI at hfi
  have hfq := hfl q hq1 hq2
  have hm := sI_bd (g := fun p => geI (B q p)) (a := 0) (b := 64) (fun j => geI_bd _) (by decide)
  have hx := sI_bd (g := bE (B q)) (a := 0) (b := 64) (fun j => bE_bd _ _) (by decide)
  refine gd_astore_n C dX4_average_5 (Nat.le_of_ble_eq_true rfl) ?_
  refine gd_aload_n C dX4_average_6 rfl ?_
  refine gd_callVN (n := 0) (ci := 0) (Cn := RX0) (T := TX0) (N := 11) (host := RX4) C (kX0_countExtents hl hfq.1 hfq.2 hfi.2.2.2.2.2.2.2.2.2) ?_ rfl gX4_average_X0_countExtents_n178 rfl (by decide +kernel) (by decide +kernel) (by decide +kernel) (by decide +kernel) ⟨by decide, by decide, by decide +kernel⟩ rfl rfl (Nat.le_of_ble_eq_true rfl) rfl dX4_average_7 ⟨⟨by decide, by decide⟩, by decide, by decide⟩ (fun _ h => h.elim) ?_
  · exact ⟨_, by exact hfq.1⟩
  rintro _ _ ⟨rfl, rfl⟩
  refine gd_istore_n C dX4_average_10 (Nat.le_of_ble_eq_true rfl) ?_
  refine gd_iload_n C dX4_average_11 rfl ?_
  refine gd_if_ne (tgt := 19) C dX4_average_12 (by decide) ?_ (fun hc12 => ?_) (fun hc12 => ?_)
  · omega
  · refine gd_aload_n C dX4_average_19 rfl ?_
    refine gd_callVN (n := 0) (ci := 0) (Cn := RX0) (T := TX0) (N := 11) (host := RX4) C (kX0_mappedPlaces hl hfq.1 hfq.2 hfi.2.2.2.2.2.2.2.2.2) ?_ rfl gX4_average_X0_mappedPlaces_n151 rfl (by decide +kernel) (by decide +kernel) (by decide +kernel) (by decide +kernel) ⟨by decide, by decide, by decide +kernel⟩ rfl rfl (Nat.le_of_ble_eq_true rfl) rfl dX4_average_20 ⟨⟨by decide, by decide⟩, by decide, by decide⟩ (fun _ h => h.elim) ?_
    · exact ⟨_, by exact hfq.1⟩
    rintro _ _ ⟨rfl, rfl⟩
    refine gd_i2f C dX4_average_23 ?_
    refine gd_iload_n C dX4_average_24 rfl ?_
    refine gd_i2f C dX4_average_25 ?_
    refine gd_fdiv C dX4_average_26 (fq_I (by omega) (by omega)).1 ?_
    refine gd_fret C hQ hret dX4_average_27 ?_ ?_
    · first
        | exact ⟨rfl, by rw [show avF (B q) = _ from if_pos (by omega)], by omega⟩
        | exact ⟨rfl, by rw [show avF (B q) = _ from if_neg (by omega)], by omega⟩
    · decide
  · refine gd_fconst0 C dX4_average_15 ?_
    refine gd_goto (tgt := 27) C dX4_average_16 (by decide) ?_
    refine gd_fret C hQ hret dX4_average_27 ?_ ?_
    · first
        | exact ⟨rfl, by rw [show avF (B q) = _ from if_pos (by omega)], by omega⟩
        | exact ⟨rfl, by rw [show avF (B q) = _ from if_neg (by omega)], by omega⟩
    · decide
