set_option maxRecDepth 100000 in
set_option maxHeartbeats 4000000 in
theorem kX4_open {l : Launch} {D : va_G} {ky : Nat → ClassId} {z : Nat} {w : WT} (hl : l.stackTraces = false) {b g t ar d : Nat} {ac ab : Int → Nat} {T : Int → Int} {v B : Int → Int → Int} {sc dn : Int} (hW : CW w ky b g t ar d ac ab T v B sc dn) (hI : CI T v B sc dn) {la na fa : Int → Nat} {n : Int} {lo co ct : Int → Int} {nm fl : Int → Int → Int} (hD : DW w ky d la na fa n lo co ct nm fl) (hR : DR n lo co ct nm fl) {q : Int} (hq : InR q) (hop : ∀ j, 0 ≤ j → j < 16 → v j 3 < 1000000) : Mt l D ky z yX4_open wsX4_open { frames := 8, cells := 3, slots := 18, locals := 132 } [.ref b, .int (iI q)] w (fun r w' => (0 ≤ q ∧ q ≤ 999) ∧ dn = 0 ∧ 0 ≤ dF n lo co ct nm fl q ∧ r = some (.int (iI (dF n lo co ct nm fl q))) ∧ CW w' ky b g t ar d ac ab (T) (fU v (dF n lo co ct nm fl q) (fU (v (dF n lo co ct nm fl q)) 3 (v (dF n lo co ct nm fl q) 3 + 1))) (B) (sc) (dn) ∧ CI (T) (fU v (dF n lo co ct nm fl q) (fU (v (dF n lo co ct nm fl q)) 3 (v (dF n lo co ct nm fl q) 3 + 1))) (B) (sc) (dn) ∧ FrC w w' b g t ac ab) (fun E => (E = "java/lang/IllegalArgumentException" ∧ ¬ (0 ≤ q ∧ q ≤ 999)) ∨ (E = "java/lang/IllegalStateException" ∧ (0 ≤ q ∧ q ≤ 999) ∧ (dn = 1 ∨ dF n lo co ct nm fl q = -1))) := by
  refine Mt.of (cc := cX4_open) (ret := (some .int)) (maxL := 3) (by decide) rfl (by intro v hv; simp at hv; rcases hv with rfl | rfl <;> rfl) (Nat.le_of_ble_eq_true rfl) ?_ hl
  intro p e s m args below meth c C htab hret hname Q hQ
  obtain ⟨hb, hg, ht, har, hfl, hdj⟩ := id hW
  obtain ⟨hi1, hi2, hi3, hi4⟩ := id hI
  refine gd_iload_n C dX4_open_0 rfl ?_
  refine gd_callS (n := 1) C (kX4_requireName hl (q := q) ?_) gX4_open_X4_requireName rfl ⟨by decide, by decide, by decide +kernel⟩ rfl rfl (Nat.le_of_ble_eq_true rfl) rfl dX4_open_1 ⟨⟨by decide, by decide⟩, by decide, by decide⟩ (fun E h => gx_out C hQ htab (Or.inl ⟨h.1, h.2⟩) (by decide) (by decide)) ?_
  · omega
  rintro _ _ ⟨rfl, rfl, hn1, hn2⟩
  refine gd_aload_n C dX4_open_4 rfl ?_
  refine gd_callV (n := 0) (ci := 4) (Cn := RX4) (T := TX4) (N := 5) C (kX4_requireUp hl hW hI) ?_ rfl gX4_open_X4_requireUp rfl ⟨rfl, by decide, by decide, by decide +kernel⟩ rfl rfl (Nat.le_of_ble_eq_true rfl) rfl dX4_open_5 ⟨⟨by decide, by decide⟩, by decide, by decide⟩ (fun E h => gx_out C hQ htab (Or.inr ⟨h.1, by omega, Or.inl h.2⟩) (by decide) (by decide)) ?_
  · exact ⟨_, by first | assumption | exact wU_s _ _ _ | exact look1 (by assumption) (by assumption) | exact look2 (by assumption) (by assumption)⟩
  rintro _ _ ⟨rfl, rfl, hup⟩
  refine gd_aload_n C dX4_open_8 rfl ?_
  refine gd_iload_n C dX4_open_9 rfl ?_
  refine gd_callV (n := 1) (ci := 4) (Cn := RX4) (T := TX4) (N := 5) C (kX4_requireFileWith hl hW hI hD hR (q := q) ⟨hn1, hn2⟩) ?_ rfl gX4_open_X4_requireFileWith rfl ⟨rfl, by decide, by decide, by decide +kernel⟩ rfl rfl (Nat.le_of_ble_eq_true rfl) rfl dX4_open_10 ⟨⟨by decide, by decide⟩, by decide, by decide⟩ (fun E h => gx_out C hQ htab (Or.inr ⟨h.1, by omega, Or.inr h.2⟩) (by decide) (by decide)) ?_
  · exact ⟨_, by first | assumption | exact wU_s _ _ _ | exact look1 (by assumption) (by assumption) | exact look2 (by assumption) (by assumption)⟩
  rintro _ _ ⟨rfl, rfl, hx0⟩
  have hx1 := (dF_bd hR q).2
  generalize hxe : dF n lo co ct nm fl q = x at hx0 hx1 ⊢
  have hfq := hfl x hx0 (by omega)
  have hfi := hi2 x hx0 (by omega)
  have hop := hop x hx0 (by omega)
  have hfi9 := hfi
  unfold FI at hfi9
  refine gd_istore_n C dX4_open_13 (Nat.le_of_ble_eq_true rfl) ?_
  refine gd_aload_n C dX4_open_14 rfl ?_
  apply gd_get (ci := 4) (Cn := RX4) (T := TX4) (N := 5) (ref := RX4) C rfl (by decide +kernel) 2 (by decide) (by decide +kernel) rfl dX4_open_15
  · first | assumption | exact (hfl _ (by omega) (by omega)).1 | exact (hfl _ (by omega) (by omega)).2 | exact wU_s _ _ _
  · rfl
  refine gd_iload_n C dX4_open_18 rfl ?_
  apply gd_aald C dX4_open_19
  · first | assumption | exact (hfl _ (by omega) (by omega)).1 | exact (hfl _ (by omega) (by omega)).2 | exact wU_s _ _ _
  · decide
  · omega
  · exact cQ_at (by omega)
  refine gd_dup C dX4_open_20 rfl ?_
  apply gd_getN (host := RX4) (ci := 0) (Cn := RX0) (T := TX0) (N := 11) (ref := RX0) C rfl (by decide +kernel) 3 (by decide) (by decide +kernel) rfl dX4_open_21
  · exact hfq.1
  · rfl
  refine gd_iconst C dX4_open_24 ?_
  refine gd_iadd C dX4_open_25 ?_
  apply gd_putCN (host := RX4) C (by decide +kernel) 3 3 rfl (by decide) (by decide) (by decide +kernel) rfl dX4_open_26
  · exact hfq.1
  · exact fun h => nomatch h
  refine gd_iload_n C dX4_open_29 rfl ?_
  refine gd_iret C hQ hret dX4_open_30 ?_ ?_
  · obtain ⟨hW1, hF1⟩ := hW.setV (j := x) ⟨hx0, by omega⟩ (wU_s _ _ _) (fun y1 h1 => wU_n h1)
    have hI1 := hI.setV (j := x) (V := fU (v x) 3 (v x 3 + 1)) (hfi.op (by omega))
    rw [hxe]
    exact ⟨⟨hn1, hn2⟩, hup, hx0, rfl, hW1, hI1, hF1⟩
  · decide

set_option maxRecDepth 100000 in
set_option maxHeartbeats 4000000 in
theorem kX4_write {l : Launch} {D : va_G} {ky : Nat → ClassId} {z : Nat} {w : WT} (hl : l.stackTraces = false) {b g t ar d : Nat} {ac ab : Int → Nat} {T : Int → Int} {v B : Int → Int → Int} {sc dn : Int} (hW : CW w ky b g t ar d ac ab T v B sc dn) (hI : CI T v B sc dn) {q x k : Int} (hq : InR q ∧ InR x ∧ InR k) : Mt l D ky z yX4_write wsX4_write { frames := 7, cells := 5, slots := 30, locals := 112 } [.ref b, .int (iI q), .int (iI x), .int (iI k)] w (fun r w' => (0 ≤ q ∧ q < 16 ∧ v q 2 = 1) ∧ ((0 ≤ x ∧ x ≤ 63) ∧ 1 ≤ k ∧ k ≤ 64 - x) ∧ dn = 0 ∧ r = some (.int (iI (sI (fun p => eqI (B q p) (-1)) x (x + k)))) ∧ (((sI (fun p => eqI (B q p) (-1)) x (x + k)) ≤ (128 - sI T 0 128 - sI (fun j => v j 4) 0 16) ∧ CW w' ky b g t ar d ac ab (T) (fU v q (fU (v q) 4 (v q 4 + (sI (fun p => eqI (B q p) (-1)) x (x + k))))) (fU B q (rsF (B q) x (x + k))) (sc) (dn) ∧ CI (T) (fU v q (fU (v q) 4 (v q 4 + (sI (fun p => eqI (B q p) (-1)) x (x + k))))) (fU B q (rsF (B q) x (x + k))) (sc) (dn) ∧ FrC w w' b g t ac ab) ∨ ((128 - sI T 0 128 - sI (fun j => v j 4) 0 16) < (sI (fun p => eqI (B q p) (-1)) x (x + k)) ∧ (sI (fun p => eqI (B q p) (-1)) x (x + k)) ≤ (128 - sI T 0 128 - sI (fun j => v j 4) 0 16) + (sI (fun j => v j 7) 0 16) ∧ CW w' ky b g t ar d ac ab (rlT v T 16) (fU (rlV v 16) q (fU (rlV v 16 q) 4 (rlV v 16 q 4 + (sI (fun p => eqI (B q p) (-1)) x (x + k))))) (fU B q (rsF (B q) x (x + k))) (sc) (dn) ∧ CI (rlT v T 16) (fU (rlV v 16) q (fU (rlV v 16 q) 4 (rlV v 16 q 4 + (sI (fun p => eqI (B q p) (-1)) x (x + k))))) (fU B q (rsF (B q) x (x + k))) (sc) (dn) ∧ FrC w w' b g t ac ab))) (fun E => (E = "java/lang/IndexOutOfBoundsException" ∧ ¬ (0 ≤ q ∧ q < 16 ∧ v q 2 = 1)) ∨ (E = "java/lang/IllegalArgumentException" ∧ (0 ≤ q ∧ q < 16 ∧ v q 2 = 1) ∧ ¬ ((0 ≤ x ∧ x ≤ 63) ∧ 1 ≤ k ∧ k ≤ 64 - x)) ∨ (E = "java/lang/IllegalStateException" ∧ (0 ≤ q ∧ q < 16 ∧ v q 2 = 1) ∧ ((0 ≤ x ∧ x ≤ 63) ∧ 1 ≤ k ∧ k ≤ 64 - x) ∧ (dn = 1 ∨ (128 - sI T 0 128 - sI (fun j => v j 4) 0 16) + (sI (fun j => v j 7) 0 16) < (sI (fun p => eqI (B q p) (-1)) x (x + k))))) := by
  refine Mt.of (cc := cX4_write) (ret := (some .int)) (maxL := 6) (by decide) rfl (by intro v hv; simp at hv; rcases hv with rfl | rfl | rfl | rfl <;> rfl) (Nat.le_of_ble_eq_true rfl) ?_ hl
  intro p e s m args below meth c C htab hret hname Q hQ
  obtain ⟨hb, hg, ht, har, hfl, hdj⟩ := id hW
  obtain ⟨hi1, hi2, hi3, hi4⟩ := id hI
  refine gd_aload_n C dX4_write_0 rfl ?_
  refine gd_iload_n C dX4_write_1 rfl ?_
  refine gd_callV (n := 1) (ci := 4) (Cn := RX4) (T := TX4) (N := 5) C (kX4_requireContent hl hW hI (q := q) ?_) ?_ rfl gX4_write_X4_requireContent rfl ⟨rfl, by decide, by decide, by decide +kernel⟩ rfl rfl (Nat.le_of_ble_eq_true rfl) rfl dX4_write_2 ⟨⟨by decide, by decide⟩, by decide, by decide⟩ (fun E h => gx_out C hQ htab (Or.inl ⟨h.1, h.2⟩) (by decide) (by decide)) ?_
  · omega
  · exact ⟨_, by first | assumption | exact wU_s _ _ _ | exact look1 (by assumption) (by assumption) | exact look2 (by assumption) (by assumption)⟩
  rintro _ _ ⟨rfl, rfl, hq1, hq2, hq3⟩
  have hfi := hi2 q hq1 hq2
  unfold FI at hfi
  have hfq := hfl q hq1 hq2
  refine gd_astore C dX4_write_5 (Nat.le_of_ble_eq_true rfl) ?_
  refine gd_iload_n C dX4_write_7 rfl ?_
  refine gd_iconst C dX4_write_8 ?_
  refine gd_bipush C dX4_write_9 (by decide) ?_
  refine gd_callS (n := 3) C (kX4_requireRange hl (q := x) (p1 := 0) (p2 := 63) ?_) gX4_write_X4_requireRange rfl ⟨by decide, by decide, by decide +kernel⟩ rfl rfl (Nat.le_of_ble_eq_true rfl) rfl dX4_write_11 ⟨⟨by decide, by decide⟩, by decide, by decide⟩ (fun E h => gx_out C hQ htab (Or.inr (Or.inl ⟨h.1, by omega, fun h9 => by have := h.2; omega⟩)) (by decide) (by decide)) ?_
  · omega
  rintro _ _ ⟨rfl, rfl, hr1, hr2⟩
  refine gd_iload_n C dX4_write_14 rfl ?_
  refine gd_iconst C dX4_write_15 ?_
  refine gd_bipush C dX4_write_16 (by decide) ?_
  refine gd_iload_n C dX4_write_18 rfl ?_
  refine gd_isub C dX4_write_19 ?_
  refine gd_callS (n := 3) C (kX4_requireRange hl (q := k) (p1 := 1) (p2 := 64 - x) ?_) gX4_write_X4_requireRange rfl ⟨by decide, by decide, by decide +kernel⟩ rfl rfl (Nat.le_of_ble_eq_true rfl) rfl dX4_write_20 ⟨⟨by decide, by decide⟩, by decide, by decide⟩ (fun E h => gx_out C hQ htab (Or.inr (Or.inl ⟨h.1, by omega, fun h9 => by have := h.2; omega⟩)) (by decide) (by decide)) ?_
  · omega
  rintro _ _ ⟨rfl, rfl, hr3, hr4⟩
  refine gd_aload_n C dX4_write_23 rfl ?_
  refine gd_callV (n := 0) (ci := 4) (Cn := RX4) (T := TX4) (N := 5) C (kX4_requireUp hl hW hI) ?_ rfl gX4_write_X4_requireUp rfl ⟨rfl, by decide, by decide, by decide +kernel⟩ rfl rfl (Nat.le_of_ble_eq_true rfl) rfl dX4_write_24 ⟨⟨by decide, by decide⟩, by decide, by decide⟩ (fun E h => gx_out C hQ htab (Or.inr (Or.inr ⟨h.1, by omega, by omega, Or.inl h.2⟩)) (by decide) (by decide)) ?_
  · exact ⟨_, by first | assumption | exact wU_s _ _ _ | exact look1 (by assumption) (by assumption) | exact look2 (by assumption) (by assumption)⟩
  rintro _ _ ⟨rfl, rfl, hup⟩
  refine gd_aload C dX4_write_27 rfl ?_
  refine gd_iload_n C dX4_write_29 rfl ?_
  refine gd_iload_n C dX4_write_30 rfl ?_
  refine gd_iload_n C dX4_write_31 rfl ?_
  refine gd_iadd C dX4_write_32 ?_
  refine gd_callVN (n := 2) (ci := 0) (Cn := RX0) (T := TX0) (N := 11) (host := RX4) C (kX0_emptyPlaces hl hfq.1 hfq.2 hfi.2.2.2.2.2.2.2.2.2 (a := x) (b := x + k) ?_) ?_ rfl gX4_write_X0_emptyPlaces_n101 rfl (by decide +kernel) (by decide +kernel) (by decide +kernel) (by decide +kernel) ⟨by decide, by decide, by decide +kernel⟩ rfl rfl (Nat.le_of_ble_eq_true rfl) rfl dX4_write_33 ⟨⟨by decide, by decide⟩, by decide, by decide⟩ (fun _ h => h.elim) ?_
  · omega
  · exact ⟨_, by exact hfq.1⟩
  rintro _ _ ⟨rfl, rfl⟩
  obtain ⟨hsT, hsR, hsK⟩ := hI.bd
  have hnd := sI_bd (g := fun p => eqI (B q p) (-1)) (a := x) (b := x + k) (fun j => eqI_bd _ _) (by omega)
  refine gd_istore C dX4_write_36 (Nat.le_of_ble_eq_true rfl) ?_
  refine gd_iload C dX4_write_38 rfl ?_
  refine gd_aload_n C dX4_write_40 rfl ?_
  refine gd_callV (n := 0) (ci := 4) (Cn := RX4) (T := TX4) (N := 5) C (kX4_left hl hW hI) ?_ rfl gX4_write_X4_left rfl ⟨rfl, by decide, by decide, by decide +kernel⟩ rfl rfl (Nat.le_of_ble_eq_true rfl) rfl dX4_write_41 ⟨⟨by decide, by decide⟩, by decide, by decide⟩ (fun _ h => h.elim) ?_
  · exact ⟨_, by first | assumption | exact wU_s _ _ _ | exact look1 (by assumption) (by assumption) | exact look2 (by assumption) (by assumption)⟩
  rintro _ _ ⟨rfl, rfl⟩
  refine gd_icmp_le (tgt := 75) C dX4_write_44 (by decide) ?_ ?_ (fun hc44 => ?_) (fun hc44 => ?_)
  · omega
  · omega
  · refine gd_aload C dX4_write_75 rfl ?_
    refine gd_iload_n C dX4_write_77 rfl ?_
    refine gd_iload_n C dX4_write_78 rfl ?_
    refine gd_iload_n C dX4_write_79 rfl ?_
    refine gd_iadd C dX4_write_80 ?_
    refine gd_callVN (n := 2) (ci := 0) (Cn := RX0) (T := TX0) (N := 11) (host := RX4) C (kX0_reserve hl hfq.1 hfq.2 hfi.2.2.2.2.2.2.2.2.2 (a := x) (b := x + k) ?_) ?_ rfl gX4_write_X0_reserve_n116 rfl (by decide +kernel) (by decide +kernel) (by decide +kernel) (by decide +kernel) ⟨by decide, by decide, by decide +kernel⟩ rfl rfl (Nat.le_of_ble_eq_true rfl) rfl dX4_write_81 ⟨⟨by decide, by decide⟩, by decide, by decide⟩ (fun _ h => h.elim) ?_
    · omega
    · exact ⟨_, by exact hfq.1⟩
    rintro _ w2 ⟨rfl, c1, c2, c3⟩
    refine gd_iload C dX4_write_84 rfl ?_
    refine gd_iret C hQ hret dX4_write_86 ?_ ?_
    · first
        | (obtain ⟨hW2, hF2⟩ := hW.setF (j := q) ⟨hq1, hq2⟩ c1 c2 c3
           exact ⟨⟨hq1, hq2, hq3⟩, by omega, hup, rfl, Or.inl ⟨by omega, hW2, hI.setF ((hi2 q hq1 hq2).rs (by omega)), hF2⟩⟩)
        | (obtain ⟨hW2, hF2⟩ := hW1.setF (j := q) ⟨hq1, hq2⟩ c1 c2 c3
           exact ⟨⟨hq1, hq2, hq3⟩, by omega, hup, rfl, Or.inr ⟨by omega, by omega, hW2, hI1.setF (hfi1.rs (by omega)), hF1.tr hF2⟩⟩)
    · decide
  · refine gd_iload C dX4_write_47 rfl ?_
    refine gd_aload_n C dX4_write_49 rfl ?_
    refine gd_callV (n := 0) (ci := 4) (Cn := RX4) (T := TX4) (N := 5) C (kX4_left hl hW hI) ?_ rfl gX4_write_X4_left rfl ⟨rfl, by decide, by decide, by decide +kernel⟩ rfl rfl (Nat.le_of_ble_eq_true rfl) rfl dX4_write_50 ⟨⟨by decide, by decide⟩, by decide, by decide⟩ (fun _ h => h.elim) ?_
    · exact ⟨_, by first | assumption | exact wU_s _ _ _ | exact look1 (by assumption) (by assumption) | exact look2 (by assumption) (by assumption)⟩
    rintro _ _ ⟨rfl, rfl⟩
    refine gd_aload_n C dX4_write_53 rfl ?_
    refine gd_callV (n := 0) (ci := 4) (Cn := RX4) (T := TX4) (N := 5) C (kX4_kept hl hW hI) ?_ rfl gX4_write_X4_kept rfl ⟨rfl, by decide, by decide, by decide +kernel⟩ rfl rfl (Nat.le_of_ble_eq_true rfl) rfl dX4_write_54 ⟨⟨by decide, by decide⟩, by decide, by decide⟩ (fun _ h => h.elim) ?_
    · exact ⟨_, by first | assumption | exact wU_s _ _ _ | exact look1 (by assumption) (by assumption) | exact look2 (by assumption) (by assumption)⟩
    rintro _ _ ⟨rfl, rfl⟩
    refine gd_iadd C dX4_write_57 ?_
    refine gd_icmp_le (tgt := 71) C dX4_write_58 (by decide) ?_ ?_ (fun hc58 => ?_) (fun hc58 => ?_)
    · omega
    · omega
    · refine gd_aload_n C dX4_write_71 rfl ?_
      refine gd_callV (n := 0) (ci := 4) (Cn := RX4) (T := TX4) (N := 5) C (kX4_releaseAllKept hl hW hI) ?_ rfl gX4_write_X4_releaseAllKept rfl ⟨rfl, by decide, by decide, by decide +kernel⟩ rfl rfl (Nat.le_of_ble_eq_true rfl) rfl dX4_write_72 ⟨⟨by decide, by decide⟩, by decide, by decide⟩ (fun _ h => h.elim) ?_
      · exact ⟨_, by first | assumption | exact wU_s _ _ _ | exact look1 (by assumption) (by assumption) | exact look2 (by assumption) (by assumption)⟩
      rintro _ w1 ⟨rfl, hW1, hI1, hF1⟩
      have hfq1 := hW1.2.2.2.2.1 q hq1 hq2
      have hfi1 := hI1.2.1 q hq1 hq2
      refine gd_aload C dX4_write_75 rfl ?_
      refine gd_iload_n C dX4_write_77 rfl ?_
      refine gd_iload_n C dX4_write_78 rfl ?_
      refine gd_iload_n C dX4_write_79 rfl ?_
      refine gd_iadd C dX4_write_80 ?_
      refine gd_callVN (n := 2) (ci := 0) (Cn := RX0) (T := TX0) (N := 11) (host := RX4) C (kX0_reserve hl hfq1.1 hfq1.2 hfi1.2.2.2.2.2.2.2.2.2 (a := x) (b := x + k) ?_) ?_ rfl gX4_write_X0_reserve_n116 rfl (by decide +kernel) (by decide +kernel) (by decide +kernel) (by decide +kernel) ⟨by decide, by decide, by decide +kernel⟩ rfl rfl (Nat.le_of_ble_eq_true rfl) rfl dX4_write_81 ⟨⟨by decide, by decide⟩, by decide, by decide⟩ (fun _ h => h.elim) ?_
      · omega
      · exact ⟨_, by exact hfq1.1⟩
      rintro _ w2 ⟨rfl, c1, c2, c3⟩
      refine gd_iload C dX4_write_84 rfl ?_
      refine gd_iret C hQ hret dX4_write_86 ?_ ?_
      · first
          | (obtain ⟨hW2, hF2⟩ := hW.setF (j := q) ⟨hq1, hq2⟩ c1 c2 c3
             exact ⟨⟨hq1, hq2, hq3⟩, by omega, hup, rfl, Or.inl ⟨by omega, hW2, hI.setF ((hi2 q hq1 hq2).rs (by omega)), hF2⟩⟩)
          | (obtain ⟨hW2, hF2⟩ := hW1.setF (j := q) ⟨hq1, hq2⟩ c1 c2 c3
             exact ⟨⟨hq1, hq2, hq3⟩, by omega, hup, rfl, Or.inr ⟨by omega, by omega, hW2, hI1.setF (hfi1.rs (by omega)), hF1.tr hF2⟩⟩)
      · decide
    · refine gd_throw (cls := "java/lang/IllegalStateException") (text := "less is left than that needs") (ik := 58) (is := 111) (ic := 62) C hQ htab (by decide +kernel) (by decide +kernel) (by decide +kernel) (by decide +kernel) (by decide +kernel) (by decide +kernel) (by decide +kernel) dX4_write_61 dX4_write_64 dX4_write_65 dX4_write_67 dX4_write_70 rfl ?_ ⟨⟨by decide, Nat.le_of_ble_eq_true rfl, by decide, by decide⟩, by decide, by decide⟩
      · exact Or.inr (Or.inr ⟨rfl, by omega, by omega, Or.inr (by omega)⟩)
