set_option maxRecDepth 100000 in
set_option maxHeartbeats 4000000 in
theorem kX4_erase {l : Launch} {D : va_G} {ky : Nat → ClassId} {z : Nat} {w : WT} (hl : l.stackTraces = false) {b g t ar d : Nat} {ac ab : Int → Nat} {T : Int → Int} {v B : Int → Int → Int} {sc dn : Int} (hW : CW w ky b g t ar d ac ab T v B sc dn) (hI : CI T v B sc dn) {j : Int} (hj : 0 ≤ j ∧ j < 16) : Mt l D ky z yX4_erase wsX4_erase { frames := 6, cells := 0, slots := 0, locals := 133 } [.ref b, .ref (ac j)] w (fun r w' => ∃ x : Int, r = some (.int (iI x)) ∧ ((x = 0 ∧ (ctS 0 (64 - (0 : Int)).toNat (tkF T (v j 6) (v j 7) 0) (drF (B j) 0 64) sc 0).1 = 1 ∧ CW w' ky b g t ar d ac ab (rlT (fU v j (ctU (v j) (B j) 0)) (ctS 0 (64 - (0 : Int)).toNat (tkF T (v j 6) (v j 7) 0) (drF (B j) 0 64) sc 0).2.1 16) (flV (rlV (fU v j (ctU (v j) (B j) 0)) 16) 16) (flB (fU B j (ctS 0 (64 - (0 : Int)).toNat (tkF T (v j 6) (v j 7) 0) (drF (B j) 0 64) sc 0).2.2.1) 16) (-1) (1) ∧ CI (rlT (fU v j (ctU (v j) (B j) 0)) (ctS 0 (64 - (0 : Int)).toNat (tkF T (v j 6) (v j 7) 0) (drF (B j) 0 64) sc 0).2.1 16) (flV (rlV (fU v j (ctU (v j) (B j) 0)) 16) 16) (flB (fU B j (ctS 0 (64 - (0 : Int)).toNat (tkF T (v j 6) (v j 7) 0) (drF (B j) 0 64) sc 0).2.2.1) 16) (-1) (1) ∧ FrC w w' b g t ac ab) ∨ (x = 1 ∧ (ctS 0 (64 - (0 : Int)).toNat (tkF T (v j 6) (v j 7) 0) (drF (B j) 0 64) sc 0).1 = 0 ∧ CW w' ky b g t ar d ac ab ((ctS 0 (64 - (0 : Int)).toNat (tkF T (v j 6) (v j 7) 0) (drF (B j) 0 64) sc 0).2.1) (fU v j (fU (fU (fU (fU (ctU (v j) (B j) 0) 8 (v j 9)) 2 0) 8 0) 9 0)) (fU B j (ctS 0 (64 - (0 : Int)).toNat (tkF T (v j 6) (v j 7) 0) (drF (B j) 0 64) sc 0).2.2.1) ((ctS 0 (64 - (0 : Int)).toNat (tkF T (v j 6) (v j 7) 0) (drF (B j) 0 64) sc 0).2.2.2.1) (dn) ∧ CI ((ctS 0 (64 - (0 : Int)).toNat (tkF T (v j 6) (v j 7) 0) (drF (B j) 0 64) sc 0).2.1) (fU v j (fU (fU (fU (fU (ctU (v j) (B j) 0) 8 (v j 9)) 2 0) 8 0) 9 0)) (fU B j (ctS 0 (64 - (0 : Int)).toNat (tkF T (v j 6) (v j 7) 0) (drF (B j) 0 64) sc 0).2.2.1) ((ctS 0 (64 - (0 : Int)).toNat (tkF T (v j 6) (v j 7) 0) (drF (B j) 0 64) sc 0).2.2.2.1) (dn) ∧ FrC w w' b g t ac ab))) (fun _ => False) := by
  refine Mt.of (cc := cX4_erase) (ret := (some .boolean)) (maxL := 2) (by decide) rfl (by intro v hv; simp at hv; rcases hv with rfl | rfl <;> rfl) (Nat.le_of_ble_eq_true rfl) ?_ hl
  intro p e s m args below meth c C htab hret hname Q hQ
  obtain ⟨hb, hg, ht, har, hfl, hdj⟩ := id hW
  obtain ⟨hi1, hi2, hi3, hi4⟩ := id hI
  have hfj := hfl j (by omega) (by omega)
  have hfi := hi2 j (by omega) (by omega)
  refine gd_aload_n C dX4_erase_0 rfl ?_
  refine gd_aload_n C dX4_erase_1 rfl ?_
  refine gd_iconst C dX4_erase_2 ?_
  refine gd_callV (n := 2) (ci := 4) (Cn := RX4) (T := TX4) (N := 5) C (kX4_cutTo hl hW hI (j := j) (y := 0) hj ⟨by omega, by omega⟩) ?_ rfl gX4_erase_X4_cutTo rfl ⟨rfl, by decide, by decide, by decide +kernel⟩ rfl rfl (Nat.le_of_ble_eq_true rfl) rfl dX4_erase_3 ⟨⟨by decide, by decide⟩, by decide, by decide⟩ (fun _ h => h.elim) ?_
  · exact ⟨_, by first | assumption | exact wU_s _ _ _ | exact look1 (by assumption) (by assumption) | exact look2 (by assumption) (by assumption)⟩
  rintro _ w1 hct
  rcases hct with ⟨hc1, rfl, hW1, hI1, hF1⟩ | ⟨hc1, rfl, hc2, hc3, hW1, hI1, hF1⟩
  · refine gd_iconst C dX4_erase_6 ?_
    refine gd_icmp_ne (tgt := 12) C dX4_erase_7 (by decide) ?_ ?_ (fun hc7 => ?_) (fun hc7 => ?_)
    · omega
    · omega
    · exfalso; omega
    · refine gd_iconst C dX4_erase_10 ?_
      refine gd_zret C hQ hret ?_ dX4_erase_11 ?_ ?_
      · omega
      · exact ⟨0, rfl, Or.inl ⟨rfl, hc1, hW1, hI1, hF1⟩⟩
      · decide
  · have hfj1 := hW1.2.2.2.2.1 j hj.1 hj.2
    rw [fU_s, fU_s] at hfj1
    refine gd_iconst C dX4_erase_6 ?_
    refine gd_icmp_ne (tgt := 12) C dX4_erase_7 (by decide) ?_ ?_ (fun hc7 => ?_) (fun hc7 => ?_)
    · omega
    · omega
    · refine gd_aload_n C dX4_erase_12 rfl ?_
      refine gd_iconst C dX4_erase_13 ?_
      apply gd_putCN (host := RX4) C (by decide +kernel) 2 2 rfl (by decide) (by decide) (by decide +kernel) rfl dX4_erase_14
      · exact hfj1.1
      · exact fun _ => Or.inl rfl
      refine gd_aload_n C dX4_erase_17 rfl ?_
      refine gd_iconst C dX4_erase_18 ?_
      apply gd_putCN (host := RX4) C (by decide +kernel) 8 8 rfl (by decide) (by decide) (by decide +kernel) rfl dX4_erase_19
      · first | assumption | exact (hfl _ (by omega) (by omega)).1 | exact (hfl _ (by omega) (by omega)).2 | exact wU_s _ _ _
      · exact fun _ => Or.inl rfl
      refine gd_aload_n C dX4_erase_22 rfl ?_
      refine gd_iconst C dX4_erase_23 ?_
      apply gd_putCN (host := RX4) C (by decide +kernel) 9 9 rfl (by decide) (by decide) (by decide +kernel) rfl dX4_erase_24
      · first | assumption | exact (hfl _ (by omega) (by omega)).1 | exact (hfl _ (by omega) (by omega)).2 | exact wU_s _ _ _
      · exact fun _ => Or.inl rfl
      refine gd_iconst C dX4_erase_27 ?_
      refine gd_zret C hQ hret ?_ dX4_erase_28 ?_ ?_
      · omega
      · obtain ⟨hW2, hF2⟩ := hW1.setV (w1 := wU (wU (wU w1 (ac j) (cC (ab j) (fU (fU (ctU (v j) (B j) 0) 8 (v j 9)) 2 0))) (ac j) (cC (ab j) (fU (fU (fU (ctU (v j) (B j) 0) 8 (v j 9)) 2 0) 8 0))) (ac j) (cC (ab j) (fU (fU (fU (fU (ctU (v j) (B j) 0) 8 (v j 9)) 2 0) 8 0) 9 0))) (j := j) hj (wU_s _ _ _) (fun y1 h1 => (wU_n h1).trans ((wU_n h1).trans (wU_n h1)))
        rw [fU_ss] at hW2
        have h9 := hI1.2.1 j hj.1 hj.2
        rw [fU_s, fU_s] at h9
        have hI2 := hI1.setV (j := j) (V := fU (fU (fU (fU (ctU (v j) (B j) 0) 8 (v j 9)) 2 0) 8 0) 9 0) (by rw [fU_s]; exact h9.end)
        rw [fU_ss] at hI2
        exact ⟨1, rfl, Or.inr ⟨rfl, hc1, hW2, hI2, hF1.tr hF2⟩⟩
      · decide
    · exfalso; omega

set_option maxRecDepth 100000 in
set_option maxHeartbeats 4000000 in
theorem kX4_crash {l : Launch} {D : va_G} {ky : Nat → ClassId} {z : Nat} {w : WT} (hl : l.stackTraces = false) {b g t ar d : Nat} {ac ab : Int → Nat} {T : Int → Int} {v B : Int → Int → Int} {sc dn : Int} (hW : CW w ky b g t ar d ac ab T v B sc dn) (hI : CI T v B sc dn) : Mt l D ky z yX4_crash wsX4_crash { frames := 7, cells := 1, slots := 6, locals := 110 } [.ref b] w (fun r w' => r = none ∧ dn = 0 ∧ CW w' ky b g t ar d ac ab (rlT v T 16) (flV (rlV v 16) 16) (flB B 16) (-1) (1) ∧ CI (rlT v T 16) (flV (rlV v 16) 16) (flB B 16) (-1) (1) ∧ FrC w w' b g t ac ab) (fun E => E = "java/lang/IllegalStateException" ∧ dn = 1) := by
  refine Mt.of (cc := cX4_crash) (ret := none) (maxL := 1) (by decide) rfl (by intro v hv; simp at hv; rcases hv with rfl <;> rfl) (Nat.le_of_ble_eq_true rfl) ?_ hl
  intro p e s m args below meth c C htab hret hname Q hQ
  obtain ⟨hb, hg, ht, har, hfl, hdj⟩ := id hW
  obtain ⟨hi1, hi2, hi3, hi4⟩ := id hI
  refine gd_aload_n C dX4_crash_0 rfl ?_
  refine gd_callV (n := 0) (ci := 4) (Cn := RX4) (T := TX4) (N := 5) C (kX4_requireUp hl hW hI) ?_ rfl gX4_crash_X4_requireUp rfl ⟨rfl, by decide, by decide, by decide +kernel⟩ rfl rfl (Nat.le_of_ble_eq_true rfl) rfl dX4_crash_1 ⟨⟨by decide, by decide⟩, by decide, by decide⟩ (fun E h => gx_out C hQ htab (⟨h.1, h.2⟩) (by decide) (by decide)) ?_
  · exact ⟨_, by first | assumption | exact wU_s _ _ _ | exact look1 (by assumption) (by assumption) | exact look2 (by assumption) (by assumption)⟩
  rintro _ _ ⟨rfl, rfl, hup⟩
  refine gd_aload_n C dX4_crash_4 rfl ?_
  refine gd_callV (n := 0) (ci := 4) (Cn := RX4) (T := TX4) (N := 5) C (kX4_fall hl hW hI) ?_ rfl gX4_crash_X4_fall rfl ⟨rfl, by decide, by decide, by decide +kernel⟩ rfl rfl (Nat.le_of_ble_eq_true rfl) rfl dX4_crash_5 ⟨⟨by decide, by decide⟩, by decide, by decide⟩ (fun _ h => h.elim) ?_
  · exact ⟨_, by first | assumption | exact wU_s _ _ _ | exact look1 (by assumption) (by assumption) | exact look2 (by assumption) (by assumption)⟩
  rintro _ w1 ⟨rfl, hW1, hI1, hF1⟩
  refine gd_vret C hQ hret dX4_crash_8 ?_ ?_
  · exact ⟨rfl, hup, hW1, hI1, hF1⟩
  · decide

set_option maxRecDepth 100000 in
set_option maxHeartbeats 4000000 in
theorem kX4_crashBehind {l : Launch} {D : va_G} {ky : Nat → ClassId} {z : Nat} {w : WT} (hl : l.stackTraces = false) {b g t ar d : Nat} {ac ab : Int → Nat} {T : Int → Int} {v B : Int → Int → Int} {sc dn : Int} (hW : CW w ky b g t ar d ac ab T v B sc dn) (hI : CI T v B sc dn) {q : Int} (hq : InR q) : Mt l D ky z yX4_crashBehind wsX4_crashBehind { frames := 7, cells := 2, slots := 12, locals := 112 } [.ref b, .int (iI q)] w (fun r w' => r = none ∧ dn = 0 ∧ (q = -1 ∨ 1 ≤ q ∧ q ≤ 50) ∧ CW w' ky b g t ar d ac ab (T) (v) (B) (q) (dn) ∧ CI (T) (v) (B) (q) (dn) ∧ FrC w w' b g t ac ab) (fun E => (E = "java/lang/IllegalArgumentException" ∧ ¬ (q = -1 ∨ 1 ≤ q ∧ q ≤ 50)) ∨ (E = "java/lang/IllegalStateException" ∧ (q = -1 ∨ 1 ≤ q ∧ q ≤ 50) ∧ dn = 1)) := by
  refine Mt.of (cc := cX4_crashBehind) (ret := none) (maxL := 2) (by decide) rfl (by intro v hv; simp at hv; rcases hv with rfl | rfl <;> rfl) (Nat.le_of_ble_eq_true rfl) ?_ hl
  intro p e s m args below meth c C htab hret hname Q hQ
  obtain ⟨hb, hg, ht, har, hfl, hdj⟩ := id hW
  obtain ⟨hi1, hi2, hi3, hi4⟩ := id hI
  refine gd_iload_n C dX4_crashBehind_0 rfl ?_
  refine gd_iconst C dX4_crashBehind_1 ?_
  refine gd_icmp_eq (tgt := 12) C dX4_crashBehind_2 (by decide) ?_ ?_ (fun hc2 => ?_) (fun hc2 => ?_)
  · omega
  · omega
  · refine gd_aload_n C dX4_crashBehind_12 rfl ?_
    refine gd_callV (n := 0) (ci := 4) (Cn := RX4) (T := TX4) (N := 5) C (kX4_requireUp hl hW hI) ?_ rfl gX4_crashBehind_X4_requireUp rfl ⟨rfl, by decide, by decide, by decide +kernel⟩ rfl rfl (Nat.le_of_ble_eq_true rfl) rfl dX4_crashBehind_13 ⟨⟨by decide, by decide⟩, by decide, by decide⟩ (fun E h => gx_out C hQ htab (Or.inr ⟨h.1, by omega, h.2⟩) (by decide) (by decide)) ?_
    · exact ⟨_, by first | assumption | exact wU_s _ _ _ | exact look1 (by assumption) (by assumption) | exact look2 (by assumption) (by assumption)⟩
    rintro _ _ ⟨rfl, rfl, hup⟩
    refine gd_aload_n C dX4_crashBehind_16 rfl ?_
    refine gd_iload_n C dX4_crashBehind_17 rfl ?_
    apply gd_put (ci := 4) (Cn := RX4) (T := TX4) (N := 5) (ref := RX4) C rfl (by decide +kernel) tyX4 tyX4_ok nmX4 3 (by decide) (by decide +kernel) rfl rfl dX4_crashBehind_18
    · first | assumption | exact (hfl _ (by omega) (by omega)).1 | exact (hfl _ (by omega) (by omega)).2 | exact wU_s _ _ _
    · rfl
    · rfl
    · exact Nat.le_of_ble_eq_true rfl
    refine gd_vret C hQ hret dX4_crashBehind_21 ?_ ?_
    · obtain ⟨hW1, hF1⟩ := hW.setO (sc' := q) (dn' := dn) (wU_s _ _ _) (fun y h => wU_n h)
      exact ⟨rfl, hup, by omega, hW1, ⟨hi1, hi2, by omega, hi4⟩, hF1⟩
    · decide
  · refine gd_iload_n C dX4_crashBehind_5 rfl ?_
    refine gd_iconst C dX4_crashBehind_6 ?_
    refine gd_bipush C dX4_crashBehind_7 (by decide) ?_
    refine gd_callS (n := 3) C (kX4_requireRange hl (q := q) (p1 := 1) (p2 := 50) ?_) gX4_crashBehind_X4_requireRange rfl ⟨by decide, by decide, by decide +kernel⟩ rfl rfl (Nat.le_of_ble_eq_true rfl) rfl dX4_crashBehind_9 ⟨⟨by decide, by decide⟩, by decide, by decide⟩ (fun E h => gx_out C hQ htab (Or.inl ⟨h.1, by have := h.2; omega⟩) (by decide) (by decide)) ?_
    · omega
    rintro _ _ ⟨rfl, rfl, hr1, hr2⟩
    refine gd_aload_n C dX4_crashBehind_12 rfl ?_
    refine gd_callV (n := 0) (ci := 4) (Cn := RX4) (T := TX4) (N := 5) C (kX4_requireUp hl hW hI) ?_ rfl gX4_crashBehind_X4_requireUp rfl ⟨rfl, by decide, by decide, by decide +kernel⟩ rfl rfl (Nat.le_of_ble_eq_true rfl) rfl dX4_crashBehind_13 ⟨⟨by decide, by decide⟩, by decide, by decide⟩ (fun E h => gx_out C hQ htab (Or.inr ⟨h.1, by omega, h.2⟩) (by decide) (by decide)) ?_
    · exact ⟨_, by first | assumption | exact wU_s _ _ _ | exact look1 (by assumption) (by assumption) | exact look2 (by assumption) (by assumption)⟩
    rintro _ _ ⟨rfl, rfl, hup⟩
    refine gd_aload_n C dX4_crashBehind_16 rfl ?_
    refine gd_iload_n C dX4_crashBehind_17 rfl ?_
    apply gd_put (ci := 4) (Cn := RX4) (T := TX4) (N := 5) (ref := RX4) C rfl (by decide +kernel) tyX4 tyX4_ok nmX4 3 (by decide) (by decide +kernel) rfl rfl dX4_crashBehind_18
    · first | assumption | exact (hfl _ (by omega) (by omega)).1 | exact (hfl _ (by omega) (by omega)).2 | exact wU_s _ _ _
    · rfl
    · rfl
    · exact Nat.le_of_ble_eq_true rfl
    refine gd_vret C hQ hret dX4_crashBehind_21 ?_ ?_
    · obtain ⟨hW1, hF1⟩ := hW.setO (sc' := q) (dn' := dn) (wU_s _ _ _) (fun y h => wU_n h)
      exact ⟨rfl, hup, by omega, hW1, ⟨hi1, hi2, by omega, hi4⟩, hF1⟩
    · decide

set_option maxRecDepth 100000 in
set_option maxHeartbeats 4000000 in
theorem kX4_cut {l : Launch} {D : va_G} {ky : Nat → ClassId} {z : Nat} {w : WT} (hl : l.stackTraces = false) {b g t ar d : Nat} {ac ab : Int → Nat} {T : Int → Int} {v B : Int → Int → Int} {sc dn : Int} (hW : CW w ky b g t ar d ac ab T v B sc dn) (hI : CI T v B sc dn) {q y : Int} (hq : InR q ∧ InR y) : Mt l D ky z yX4_cut wsX4_cut { frames := 7, cells := 3, slots := 18, locals := 133 } [.ref b, .int (iI q), .int (iI y)] w (fun r w' => (0 ≤ q ∧ q < 16 ∧ v q 2 = 1) ∧ (0 ≤ y ∧ y ≤ 64) ∧ dn = 0 ∧ (((ctS y (64 - (y : Int)).toNat (tkF T (v q 6) (v q 7) 0) (drF (B q) y 64) sc 0).1 = 1 ∧ r = some (.int (iI (-1))) ∧ CW w' ky b g t ar d ac ab (rlT (fU v q (ctU (v q) (B q) y)) (ctS y (64 - (y : Int)).toNat (tkF T (v q 6) (v q 7) 0) (drF (B q) y 64) sc 0).2.1 16) (flV (rlV (fU v q (ctU (v q) (B q) y)) 16) 16) (flB (fU B q (ctS y (64 - (y : Int)).toNat (tkF T (v q 6) (v q 7) 0) (drF (B q) y 64) sc 0).2.2.1) 16) (-1) (1) ∧ CI (rlT (fU v q (ctU (v q) (B q) y)) (ctS y (64 - (y : Int)).toNat (tkF T (v q 6) (v q 7) 0) (drF (B q) y 64) sc 0).2.1 16) (flV (rlV (fU v q (ctU (v q) (B q) y)) 16) 16) (flB (fU B q (ctS y (64 - (y : Int)).toNat (tkF T (v q 6) (v q 7) 0) (drF (B q) y 64) sc 0).2.2.1) 16) (-1) (1) ∧ FrC w w' b g t ac ab) ∨ ((ctS y (64 - (y : Int)).toNat (tkF T (v q 6) (v q 7) 0) (drF (B q) y 64) sc 0).1 = 0 ∧ r = some (.int (iI (ctS y (64 - (y : Int)).toNat (tkF T (v q 6) (v q 7) 0) (drF (B q) y 64) sc 0).2.2.2.2)) ∧ 0 ≤ (ctS y (64 - (y : Int)).toNat (tkF T (v q 6) (v q 7) 0) (drF (B q) y 64) sc 0).2.2.2.2 ∧ (ctS y (64 - (y : Int)).toNat (tkF T (v q 6) (v q 7) 0) (drF (B q) y 64) sc 0).2.2.2.2 ≤ 64 ∧ CW w' ky b g t ar d ac ab ((ctS y (64 - (y : Int)).toNat (tkF T (v q 6) (v q 7) 0) (drF (B q) y 64) sc 0).2.1) (fU v q (fU (ctU (v q) (B q) y) 8 (v q 9))) (fU B q (ctS y (64 - (y : Int)).toNat (tkF T (v q 6) (v q 7) 0) (drF (B q) y 64) sc 0).2.2.1) ((ctS y (64 - (y : Int)).toNat (tkF T (v q 6) (v q 7) 0) (drF (B q) y 64) sc 0).2.2.2.1) (dn) ∧ CI ((ctS y (64 - (y : Int)).toNat (tkF T (v q 6) (v q 7) 0) (drF (B q) y 64) sc 0).2.1) (fU v q (fU (ctU (v q) (B q) y) 8 (v q 9))) (fU B q (ctS y (64 - (y : Int)).toNat (tkF T (v q 6) (v q 7) 0) (drF (B q) y 64) sc 0).2.2.1) ((ctS y (64 - (y : Int)).toNat (tkF T (v q 6) (v q 7) 0) (drF (B q) y 64) sc 0).2.2.2.1) (dn) ∧ FrC w w' b g t ac ab))) (fun E => (E = "java/lang/IndexOutOfBoundsException" ∧ ¬ (0 ≤ q ∧ q < 16 ∧ v q 2 = 1)) ∨ (E = "java/lang/IllegalArgumentException" ∧ (0 ≤ q ∧ q < 16 ∧ v q 2 = 1) ∧ ¬ (0 ≤ y ∧ y ≤ 64)) ∨ (E = "java/lang/IllegalStateException" ∧ (0 ≤ q ∧ q < 16 ∧ v q 2 = 1) ∧ (0 ≤ y ∧ y ≤ 64) ∧ dn = 1)) := by
  refine Mt.of (cc := cX4_cut) (ret := (some .int)) (maxL := 4) (by decide) rfl (by intro v hv; simp at hv; rcases hv with rfl | rfl | rfl <;> rfl) (Nat.le_of_ble_eq_true rfl) ?_ hl
  intro p e s m args below meth c C htab hret hname Q hQ
  obtain ⟨hb, hg, ht, har, hfl, hdj⟩ := id hW
  obtain ⟨hi1, hi2, hi3, hi4⟩ := id hI
  refine gd_aload_n C dX4_cut_0 rfl ?_
  refine gd_iload_n C dX4_cut_1 rfl ?_
  refine gd_callV (n := 1) (ci := 4) (Cn := RX4) (T := TX4) (N := 5) C (kX4_requireContent hl hW hI (q := q) ?_) ?_ rfl gX4_cut_X4_requireContent rfl ⟨rfl, by decide, by decide, by decide +kernel⟩ rfl rfl (Nat.le_of_ble_eq_true rfl) rfl dX4_cut_2 ⟨⟨by decide, by decide⟩, by decide, by decide⟩ (fun E h => gx_out C hQ htab (Or.inl ⟨h.1, h.2⟩) (by decide) (by decide)) ?_
  · omega
  · exact ⟨_, by first | assumption | exact wU_s _ _ _ | exact look1 (by assumption) (by assumption) | exact look2 (by assumption) (by assumption)⟩
  rintro _ _ ⟨rfl, rfl, hq1, hq2, hq3⟩
  have hfi := hi2 q hq1 hq2
  unfold FI at hfi
  have hfq := hfl q hq1 hq2
  refine gd_astore_n C dX4_cut_5 (Nat.le_of_ble_eq_true rfl) ?_
  refine gd_iload_n C dX4_cut_6 rfl ?_
  refine gd_iconst C dX4_cut_7 ?_
  refine gd_bipush C dX4_cut_8 (by decide) ?_
  refine gd_callS (n := 3) C (kX4_requireRange hl (q := y) (p1 := 0) (p2 := 64) ?_) gX4_cut_X4_requireRange rfl ⟨by decide, by decide, by decide +kernel⟩ rfl rfl (Nat.le_of_ble_eq_true rfl) rfl dX4_cut_10 ⟨⟨by decide, by decide⟩, by decide, by decide⟩ (fun E h => gx_out C hQ htab (Or.inr (Or.inl ⟨h.1, by omega, by have := h.2; omega⟩)) (by decide) (by decide)) ?_
  · omega
  rintro _ _ ⟨rfl, rfl, hr1, hr2⟩
  refine gd_aload_n C dX4_cut_13 rfl ?_
  refine gd_callV (n := 0) (ci := 4) (Cn := RX4) (T := TX4) (N := 5) C (kX4_requireUp hl hW hI) ?_ rfl gX4_cut_X4_requireUp rfl ⟨rfl, by decide, by decide, by decide +kernel⟩ rfl rfl (Nat.le_of_ble_eq_true rfl) rfl dX4_cut_14 ⟨⟨by decide, by decide⟩, by decide, by decide⟩ (fun E h => gx_out C hQ htab (Or.inr (Or.inr ⟨h.1, by omega, by omega, h.2⟩)) (by decide) (by decide)) ?_
  · exact ⟨_, by first | assumption | exact wU_s _ _ _ | exact look1 (by assumption) (by assumption) | exact look2 (by assumption) (by assumption)⟩
  rintro _ _ ⟨rfl, rfl, hup⟩
  refine gd_aload_n C dX4_cut_17 rfl ?_
  refine gd_aload_n C dX4_cut_18 rfl ?_
  refine gd_iload_n C dX4_cut_19 rfl ?_
  refine gd_callV (n := 2) (ci := 4) (Cn := RX4) (T := TX4) (N := 5) C (kX4_cutTo hl hW hI (j := q) (y := y) ⟨hq1, hq2⟩ ⟨hr1, hr2⟩) ?_ rfl gX4_cut_X4_cutTo rfl ⟨rfl, by decide, by decide, by decide +kernel⟩ rfl rfl (Nat.le_of_ble_eq_true rfl) rfl dX4_cut_20 ⟨⟨by decide, by decide⟩, by decide, by decide⟩ (fun _ h => h.elim) ?_
  · exact ⟨_, by first | assumption | exact wU_s _ _ _ | exact look1 (by assumption) (by assumption) | exact look2 (by assumption) (by assumption)⟩
  rintro r w1 hct
  obtain ⟨x9, rfl⟩ : ∃ x9 : Int, r = some (.int (iI x9)) := by
    rcases hct with ⟨hc1, h9, -⟩ | ⟨hc1, h9, -⟩
    · exact ⟨_, h9⟩
    · exact ⟨_, h9⟩
  refine gd_iret C hQ hret dX4_cut_23 ?_ ?_
  · exact ⟨⟨hq1, hq2, hq3⟩, ⟨hr1, hr2⟩, hup, hct⟩
  · decide
