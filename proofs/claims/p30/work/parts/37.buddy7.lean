set_option maxRecDepth 100000 in
set_option maxHeartbeats 4000000 in
theorem kX4_goalFor {l : Launch} {D : va_G} {ky : Nat → ClassId} {z : Nat} {w : WT} (hl : l.stackTraces = false) {b g t ar d : Nat} {ac ab : Int → Nat} {T : Int → Int} {v B : Int → Int → Int} {sc dn : Int} (hW : CW w ky b g t ar d ac ab T v B sc dn) (hI : CI T v B sc dn) {j x : Int} (hj : 0 ≤ j ∧ j < 16) (hx : 0 ≤ x ∧ x < 64) : Mt l D ky z yX4_goalFor wsX4_goalFor { frames := 1, cells := 0, slots := 0, locals := 21 } [.ref b, .ref (ac j), .int (iI x)] w (fun r w' => w = w' ∧ r = some (.int (iI (gF j (B j) x)))) (fun _ => False) := by
  refine Mt.of (cc := cX4_goalFor) (ret := (some .int)) (maxL := 4) (by decide) rfl (by intro v hv; simp at hv; rcases hv with rfl | rfl | rfl <;> rfl) (Nat.le_of_ble_eq_true rfl) ?_ hl
  intro p e s m args below meth c C htab hret hname Q hQ
  obtain ⟨hb, hg, ht, har, hfl, hdj⟩ := id hW
  obtain ⟨hi1, hi2, hi3, hi4⟩ := id hI
  have hfj := hfl j hj.1 hj.2
  have hfi := hi2 j hj.1 hj.2
  have hf10 := hfi.2.2.2.2.2.2.2.2.2
  refine gd_aload_n C dX4_goalFor_0 rfl ?_
  refine gd_iload_n C dX4_goalFor_1 rfl ?_
  refine gd_iconst C dX4_goalFor_2 ?_
  refine gd_isub C dX4_goalFor_3 ?_
  refine gd_callVN (n := 1) (ci := 0) (Cn := RX0) (T := TX0) (N := 11) (host := RX4) C (kX0_isMapped hl hfj.1 hfj.2 hf10 (q := x - 1) ?_) ?_ rfl gX4_goalFor_X0_isMapped_n254 rfl (by decide +kernel) (by decide +kernel) (by decide +kernel) (by decide +kernel) ⟨by decide, by decide, by decide +kernel⟩ rfl rfl (Nat.le_of_ble_eq_true rfl) rfl dX4_goalFor_4 ⟨⟨by decide, by decide⟩, by decide, by decide⟩ (fun _ h => h.elim) ?_
  · omega
  · exact ⟨_, by exact hfj.1⟩
  rintro _ _ ⟨b9, rfl, rfl, hb9⟩
  have hfx := hf10 (x - 1)
  refine gd_if_eq (tgt := 30) C dX4_goalFor_7 (by decide) ?_ (fun hc7 => ?_) (fun hc7 => ?_)
  · omega
  · refine gd_aload_n C dX4_goalFor_30 rfl ?_
    have hj0 : v j 0 = j := hfi.1
    apply gd_getN (host := RX4) (ci := 0) (Cn := RX0) (T := TX0) (N := 11) (ref := RX0) C rfl (by decide +kernel) 0 (by decide) (by decide +kernel) rfl dX4_goalFor_31
    · exact hfj.1
    · rfl
    refine gd_iconst C dX4_goalFor_34 ?_
    refine gd_irem C dX4_goalFor_35 ?_ ?_
    · omega
    refine gd_bipush C dX4_goalFor_36 (by decide) ?_
    refine gd_imul C dX4_goalFor_38 ?_
    refine gd_iret C hQ hret dX4_goalFor_39 ?_ ?_
    · exact ⟨rfl, by rw [show gF j (B j) x = j % 4 * 32 from if_neg (by omega), hj0]⟩
    · decide
  · refine gd_aload_n C dX4_goalFor_10 rfl ?_
    apply gd_getN (host := RX4) (ci := 0) (Cn := RX0) (T := TX0) (N := 11) (ref := RX0) C rfl (by decide +kernel) 1 (by decide) (by decide +kernel) rfl dX4_goalFor_11
    · exact hfj.1
    · rfl
    refine gd_iload_n C dX4_goalFor_14 rfl ?_
    refine gd_iconst C dX4_goalFor_15 ?_
    refine gd_isub C dX4_goalFor_16 ?_
    apply gd_iald C dX4_goalFor_17
    · exact hfj.2
    · decide
    · omega
    refine gd_iconst C dX4_goalFor_18 ?_
    refine gd_iadd C dX4_goalFor_19 ?_
    refine gd_istore_n C dX4_goalFor_20 (Nat.le_of_ble_eq_true rfl) ?_
    refine gd_iload_n C dX4_goalFor_21 rfl ?_
    refine gd_sipush C dX4_goalFor_22 (by decide) ?_
    refine gd_icmp_ge (tgt := 30) C dX4_goalFor_25 (by decide) ?_ ?_ (fun hc25 => ?_) (fun hc25 => ?_)
    · omega
    · omega
    · refine gd_aload_n C dX4_goalFor_30 rfl ?_
      have hj0 : v j 0 = j := hfi.1
      apply gd_getN (host := RX4) (ci := 0) (Cn := RX0) (T := TX0) (N := 11) (ref := RX0) C rfl (by decide +kernel) 0 (by decide) (by decide +kernel) rfl dX4_goalFor_31
      · exact hfj.1
      · rfl
      refine gd_iconst C dX4_goalFor_34 ?_
      refine gd_irem C dX4_goalFor_35 ?_ ?_
      · omega
      refine gd_bipush C dX4_goalFor_36 (by decide) ?_
      refine gd_imul C dX4_goalFor_38 ?_
      refine gd_iret C hQ hret dX4_goalFor_39 ?_ ?_
      · exact ⟨rfl, by rw [show gF j (B j) x = j % 4 * 32 from if_neg (by omega), hj0]⟩
      · decide
    · refine gd_iload_n C dX4_goalFor_28 rfl ?_
      refine gd_iret C hQ hret dX4_goalFor_29 ?_ ?_
      · exact ⟨rfl, by rw [show gF j (B j) x = B j (x - 1) + 1 from if_pos (by omega)]⟩
      · decide

set_option maxRecDepth 100000 in
set_option maxHeartbeats 4000000 in
theorem kX4_lengthFor {l : Launch} {D : va_G} {ky : Nat → ClassId} {z : Nat} {w : WT} (hl : l.stackTraces = false) {b g t ar d : Nat} {ac ab : Int → Nat} {T : Int → Int} {v B : Int → Int → Int} {sc dn : Int} (hW : CW w ky b g t ar d ac ab T v B sc dn) (hI : CI T v B sc dn) {x : Int} (hx : 1 ≤ x ∧ x ≤ 64) : Mt l D ky z yX4_lengthFor wsX4_lengthFor { frames := 2, cells := 0, slots := 0, locals := 42 } [.ref b, .int (iI x)] w (fun r w' => w = w' ∧ r = some (.int (iI (lnF x (128 - sI T 0 128 - sI (fun j => v j 4) 0 16))))) (fun _ => False) := by
  refine Mt.of (cc := cX4_lengthFor) (ret := (some .int)) (maxL := 3) (by decide) rfl (by intro v hv; simp at hv; rcases hv with rfl | rfl <;> rfl) (Nat.le_of_ble_eq_true rfl) ?_ hl
  intro p e s m args below meth c C htab hret hname Q hQ
  obtain ⟨hb, hg, ht, har, hfl, hdj⟩ := id hW
  obtain ⟨hi1, hi2, hi3, hi4⟩ := id hI
  refine gd_iconst C dX4_lengthFor_0 ?_
  refine gd_istore_n C dX4_lengthFor_1 (Nat.le_of_ble_eq_true rfl) ?_
  suffices hloop : ∀ (n9 : Nat) (i : Int), (i = 1 ∨ i = 2 ∨ i = 4 ∨ i = 8 ∨ i = 16) → (i = 1 ∨ i / 2 < x) → (16 - i).toNat = n9 → Gd p l e ({ frames := 2, cells := 0, slots := 0, locals := 42 }) s m args below meth c D z Q 0 0 w 2 [some (.ref b), some (.int (iI x)), some (.int (iI i))] [] from
    hloop _ 1 (by omega) (by omega) rfl
  intro n9
  induction n9 using Nat.strongRecOn with
  | _ n9 ih =>
  intro i h1i h2i hn
  refine gd_iload_n C dX4_lengthFor_2 rfl ?_
  refine gd_iload_n C dX4_lengthFor_3 rfl ?_
  refine gd_icmp_ge (tgt := 20) C dX4_lengthFor_4 (by decide) ?_ ?_ (fun hc4 => ?_) (fun hc4 => ?_)
  · omega
  · omega
  · refine gd_iload_n C dX4_lengthFor_20 rfl ?_
    refine gd_iload_n C dX4_lengthFor_21 rfl ?_
    refine gd_isub C dX4_lengthFor_22 ?_
    refine gd_aload_n C dX4_lengthFor_23 rfl ?_
    have hln : ln0 x = i := by unfold ln0; split <;> (try split) <;> (try split) <;> (try split) <;> omega
    obtain ⟨hsT, hsR, hsK⟩ := hI.bd
    refine gd_callV (n := 0) (ci := 4) (Cn := RX4) (T := TX4) (N := 5) C (kX4_left hl hW hI) ?_ rfl gX4_lengthFor_X4_left rfl ⟨rfl, by decide, by decide, by decide +kernel⟩ rfl rfl (Nat.le_of_ble_eq_true rfl) rfl dX4_lengthFor_24 ⟨⟨by decide, by decide⟩, by decide, by decide⟩ (fun _ h => h.elim) ?_
    · exact ⟨_, by first | assumption | exact wU_s _ _ _ | exact look1 (by assumption) (by assumption) | exact look2 (by assumption) (by assumption)⟩
    rintro _ _ ⟨rfl, rfl⟩
    refine gd_icmp_le (tgt := 36) C dX4_lengthFor_27 (by decide) ?_ ?_ (fun hc27 => ?_) (fun hc27 => ?_)
    · omega
    · omega
    · refine gd_iload_n C dX4_lengthFor_36 rfl ?_
      refine gd_iret C hQ hret dX4_lengthFor_37 ?_ ?_
      · first
          | exact ⟨rfl, by unfold lnF; rw [hln, if_pos (by omega)]⟩
          | exact ⟨rfl, by unfold lnF; rw [hln, if_neg (by omega)]⟩
      · decide
    · refine gd_iload_n C dX4_lengthFor_30 rfl ?_
      refine gd_iconst C dX4_lengthFor_31 ?_
      refine gd_idiv C dX4_lengthFor_32 ?_ ?_
      · omega
      refine gd_goto (tgt := 37) C dX4_lengthFor_33 (by decide) ?_
      refine gd_iret C hQ hret dX4_lengthFor_37 ?_ ?_
      · first
          | exact ⟨rfl, by unfold lnF; rw [hln, if_pos (by omega)]⟩
          | exact ⟨rfl, by unfold lnF; rw [hln, if_neg (by omega)]⟩
      · decide
  · refine gd_iload_n C dX4_lengthFor_7 rfl ?_
    refine gd_bipush C dX4_lengthFor_8 (by decide) ?_
    refine gd_icmp_ge (tgt := 20) C dX4_lengthFor_10 (by decide) ?_ ?_ (fun hc10 => ?_) (fun hc10 => ?_)
    · omega
    · omega
    · refine gd_iload_n C dX4_lengthFor_20 rfl ?_
      refine gd_iload_n C dX4_lengthFor_21 rfl ?_
      refine gd_isub C dX4_lengthFor_22 ?_
      refine gd_aload_n C dX4_lengthFor_23 rfl ?_
      have hln : ln0 x = i := by unfold ln0; split <;> (try split) <;> (try split) <;> (try split) <;> omega
      obtain ⟨hsT, hsR, hsK⟩ := hI.bd
      refine gd_callV (n := 0) (ci := 4) (Cn := RX4) (T := TX4) (N := 5) C (kX4_left hl hW hI) ?_ rfl gX4_lengthFor_X4_left rfl ⟨rfl, by decide, by decide, by decide +kernel⟩ rfl rfl (Nat.le_of_ble_eq_true rfl) rfl dX4_lengthFor_24 ⟨⟨by decide, by decide⟩, by decide, by decide⟩ (fun _ h => h.elim) ?_
      · exact ⟨_, by first | assumption | exact wU_s _ _ _ | exact look1 (by assumption) (by assumption) | exact look2 (by assumption) (by assumption)⟩
      rintro _ _ ⟨rfl, rfl⟩
      refine gd_icmp_le (tgt := 36) C dX4_lengthFor_27 (by decide) ?_ ?_ (fun hc27 => ?_) (fun hc27 => ?_)
      · omega
      · omega
      · refine gd_iload_n C dX4_lengthFor_36 rfl ?_
        refine gd_iret C hQ hret dX4_lengthFor_37 ?_ ?_
        · first
            | exact ⟨rfl, by unfold lnF; rw [hln, if_pos (by omega)]⟩
            | exact ⟨rfl, by unfold lnF; rw [hln, if_neg (by omega)]⟩
        · decide
      · refine gd_iload_n C dX4_lengthFor_30 rfl ?_
        refine gd_iconst C dX4_lengthFor_31 ?_
        refine gd_idiv C dX4_lengthFor_32 ?_ ?_
        · omega
        refine gd_goto (tgt := 37) C dX4_lengthFor_33 (by decide) ?_
        refine gd_iret C hQ hret dX4_lengthFor_37 ?_ ?_
        · first
            | exact ⟨rfl, by unfold lnF; rw [hln, if_pos (by omega)]⟩
            | exact ⟨rfl, by unfold lnF; rw [hln, if_neg (by omega)]⟩
        · decide
    · refine gd_iload_n C dX4_lengthFor_13 rfl ?_
      refine gd_iconst C dX4_lengthFor_14 ?_
      refine gd_imul C dX4_lengthFor_15 ?_
      refine gd_istore_n C dX4_lengthFor_16 (Nat.le_of_ble_eq_true rfl) ?_
      refine gd_goto (tgt := 2) C dX4_lengthFor_17 (by decide) ?_
      exact ih _ (by omega) (i * 2) (by omega) (by omega) rfl

set_option maxRecDepth 100000 in
set_option maxHeartbeats 4000000 in
theorem kX4_mapFound {l : Launch} {D : va_G} {ky : Nat → ClassId} {z : Nat} {w : WT} (hl : l.stackTraces = false) {b g t ar d : Nat} {ac ab : Int → Nat} {T : Int → Int} {v B : Int → Int → Int} {sc dn : Int} (hW : CW w ky b g t ar d ac ab T v B sc dn) (hI : CI T v B sc dn) {j x k : Int} (hj : 0 ≤ j ∧ j < 16) (hx : 0 ≤ x ∧ 1 ≤ k ∧ x + k ≤ 64) (hrs : ∀ p, x ≤ p → p < x + k → B j p = -2) (hL0 : 0 ≤ (128 - sI T 0 128 - sI (fun j => v j 4) 0 16)) : Mt l D ky z yX4_mapFound wsX4_mapFound { frames := 4, cells := 0, slots := 0, locals := 95 } [.ref b, .ref (ac j), .int (iI x), .int (iI k)] w (fun r w' => ((hvF T (gF j (B j) x) 4 (lnF k (128 - sI T 0 128 - sI (fun j => v j 4) 0 16))).2 = -1 ∧ w = w' ∧ r = some (.int (iI 0))) ∨ ((hvF T (gF j (B j) x) 4 (lnF k (128 - sI T 0 128 - sI (fun j => v j 4) 0 16))).2 ≠ -1 ∧ ∃ y : Int, (y = (hvF T (gF j (B j) x) 4 (lnF k (128 - sI T 0 128 - sI (fun j => v j 4) 0 16))).1 ∧ (hvF T (gF j (B j) x) 4 (lnF k (128 - sI T 0 128 - sI (fun j => v j 4) 0 16))).1 ≤ k ∨ y = k ∧ k < (hvF T (gF j (B j) x) 4 (lnF k (128 - sI T 0 128 - sI (fun j => v j 4) 0 16))).1) ∧ r = some (.int (iI y)) ∧ (((hvF T (gF j (B j) x) 4 (lnF k (128 - sI T 0 128 - sI (fun j => v j 4) 0 16))).1 ≤ y ∧ CW w' ky b g t ar d ac ab (tkF T (hvF T (gF j (B j) x) 4 (lnF k (128 - sI T 0 128 - sI (fun j => v j 4) 0 16))).2 (hvF T (gF j (B j) x) 4 (lnF k (128 - sI T 0 128 - sI (fun j => v j 4) 0 16))).1 1) (fU v j (fU (v j) 4 (v j 4 - y))) (fU B j (mpF (B j) x (hvF T (gF j (B j) x) 4 (lnF k (128 - sI T 0 128 - sI (fun j => v j 4) 0 16))).2 y)) (sc) (dn) ∧ CI (tkF T (hvF T (gF j (B j) x) 4 (lnF k (128 - sI T 0 128 - sI (fun j => v j 4) 0 16))).2 (hvF T (gF j (B j) x) 4 (lnF k (128 - sI T 0 128 - sI (fun j => v j 4) 0 16))).1 1) (fU v j (fU (v j) 4 (v j 4 - y))) (fU B j (mpF (B j) x (hvF T (gF j (B j) x) 4 (lnF k (128 - sI T 0 128 - sI (fun j => v j 4) 0 16))).2 y)) (sc) (dn) ∧ FrC w w' b g t ac ab) ∨ (y < (hvF T (gF j (B j) x) 4 (lnF k (128 - sI T 0 128 - sI (fun j => v j 4) 0 16))).1 ∧ CW w' ky b g t ar d ac ab (tkF (tkF T (hvF T (gF j (B j) x) 4 (lnF k (128 - sI T 0 128 - sI (fun j => v j 4) 0 16))).2 (hvF T (gF j (B j) x) 4 (lnF k (128 - sI T 0 128 - sI (fun j => v j 4) 0 16))).1 1) (v j 6) (v j 7) 0) (fU v j (fU (fU (fU (fU (fU (v j) 4 (v j 4 - y)) 7 0) 5 (x + y)) 6 ((hvF T (gF j (B j) x) 4 (lnF k (128 - sI T 0 128 - sI (fun j => v j 4) 0 16))).2 + y)) 7 ((hvF T (gF j (B j) x) 4 (lnF k (128 - sI T 0 128 - sI (fun j => v j 4) 0 16))).1 - y))) (fU B j (mpF (B j) x (hvF T (gF j (B j) x) 4 (lnF k (128 - sI T 0 128 - sI (fun j => v j 4) 0 16))).2 y)) (sc) (dn) ∧ CI (tkF (tkF T (hvF T (gF j (B j) x) 4 (lnF k (128 - sI T 0 128 - sI (fun j => v j 4) 0 16))).2 (hvF T (gF j (B j) x) 4 (lnF k (128 - sI T 0 128 - sI (fun j => v j 4) 0 16))).1 1) (v j 6) (v j 7) 0) (fU v j (fU (fU (fU (fU (fU (v j) 4 (v j 4 - y)) 7 0) 5 (x + y)) 6 ((hvF T (gF j (B j) x) 4 (lnF k (128 - sI T 0 128 - sI (fun j => v j 4) 0 16))).2 + y)) 7 ((hvF T (gF j (B j) x) 4 (lnF k (128 - sI T 0 128 - sI (fun j => v j 4) 0 16))).1 - y))) (fU B j (mpF (B j) x (hvF T (gF j (B j) x) 4 (lnF k (128 - sI T 0 128 - sI (fun j => v j 4) 0 16))).2 y)) (sc) (dn) ∧ FrC w w' b g t ac ab)))) (fun _ => False) := by
  refine Mt.of (cc := cX4_mapFound) (ret := (some .int)) (maxL := 8) (by decide) rfl (by intro v hv; simp at hv; rcases hv with rfl | rfl | rfl | rfl <;> rfl) (Nat.le_of_ble_eq_true rfl) ?_ hl
  intro p e s m args below meth c C htab hret hname Q hQ
  obtain ⟨hb, hg, ht, har, hfl, hdj⟩ := id hW
  obtain ⟨hi1, hi2, hi3, hi4⟩ := id hI
  have hfj := hfl j (by omega) (by omega)
  have hfi := hi2 j (by omega) (by omega)
  refine gd_aload_n C dX4_mapFound_0 rfl ?_
  refine gd_aload_n C dX4_mapFound_1 rfl ?_
  refine gd_iload_n C dX4_mapFound_2 rfl ?_
  refine gd_callV (n := 2) (ci := 4) (Cn := RX4) (T := TX4) (N := 5) C (kX4_goalFor hl hW hI (j := j) (x := x) hj ?_) ?_ rfl gX4_mapFound_X4_goalFor rfl ⟨rfl, by decide, by decide, by decide +kernel⟩ rfl rfl (Nat.le_of_ble_eq_true rfl) rfl dX4_mapFound_3 ⟨⟨by decide, by decide⟩, by decide, by decide⟩ (fun _ h => h.elim) ?_
  · omega
  · exact ⟨_, by first | assumption | exact wU_s _ _ _ | exact look1 (by assumption) (by assumption) | exact look2 (by assumption) (by assumption)⟩
  rintro _ _ ⟨rfl, rfl⟩
  have hgb := gF_bd (p := x) (f := B j) hj
  refine gd_istore C dX4_mapFound_6 (Nat.le_of_ble_eq_true rfl) ?_
  refine gd_aload_n C dX4_mapFound_8 rfl ?_
  refine gd_iload_n C dX4_mapFound_9 rfl ?_
  refine gd_callV (n := 1) (ci := 4) (Cn := RX4) (T := TX4) (N := 5) C (kX4_lengthFor hl hW hI (x := k) ?_) ?_ rfl gX4_mapFound_X4_lengthFor rfl ⟨rfl, by decide, by decide, by decide +kernel⟩ rfl rfl (Nat.le_of_ble_eq_true rfl) rfl dX4_mapFound_10 ⟨⟨by decide, by decide⟩, by decide, by decide⟩ (fun _ h => h.elim) ?_
  · omega
  · exact ⟨_, by first | assumption | exact wU_s _ _ _ | exact look1 (by assumption) (by assumption) | exact look2 (by assumption) (by assumption)⟩
  rintro _ _ ⟨rfl, rfl⟩
  have hln := lnF_c (R := k) (L := (128 - sI T 0 128 - sI (fun j => v j 4) 0 16)) (by omega) hL0
  refine gd_istore C dX4_mapFound_13 (Nat.le_of_ble_eq_true rfl) ?_
  refine gd_aload_n C dX4_mapFound_15 rfl ?_
  apply gd_get (ci := 4) (Cn := RX4) (T := TX4) (N := 5) (ref := RX4) C rfl (by decide +kernel) 0 (by decide) (by decide +kernel) rfl dX4_mapFound_16
  · exact hb
  · rfl
  refine gd_iload C dX4_mapFound_19 rfl ?_
  refine gd_iload C dX4_mapFound_21 rfl ?_
  refine gd_callVN (n := 2) (ci := 2) (Cn := RX2) (T := TX2) (N := 2) (host := RX4) C (kX2_find hl hg ht hi1 (a := (gF j (B j) x)) (q := lnF k (128 - sI T 0 128 - sI (fun j => v j 4) 0 16)) hgb hln) ?_ rfl gX4_mapFound_X2_find_n237 rfl (by decide +kernel) (by decide +kernel) (by decide +kernel) (by decide +kernel) ⟨by decide, by decide, by decide +kernel⟩ rfl rfl (Nat.le_of_ble_eq_true rfl) rfl dX4_mapFound_23 ⟨⟨by decide, by decide⟩, by decide, by decide⟩ (fun _ h => h.elim) ?_
  · exact ⟨_, by exact hg⟩
  rintro _ _ ⟨rfl, rfl⟩
  refine gd_istore C dX4_mapFound_26 (Nat.le_of_ble_eq_true rfl) ?_
  suffices hloop : ∀ (k9 : Nat) (len : Int), (len = 1 ∨ len = 2 ∨ len = 4 ∨ len = 8 ∨ len = 16) → ((k9 = 0 → len = 1) ∧ (k9 = 1 → len ≤ 2) ∧ (k9 = 2 → len ≤ 4) ∧ (k9 = 3 → len ≤ 8)) → (hvF T (gF j (B j) x) 4 (lnF k (128 - sI T 0 128 - sI (fun j => v j 4) 0 16))) = hvF T (gF j (B j) x) k9 len → Gd p l e ({ frames := 4, cells := 0, slots := 0, locals := 95 }) s m args below meth c D z Q 0 0 w 28 [some (.ref b), some (.ref (ac j)), some (.int (iI x)), some (.int (iI k)), some (.int (iI (gF j (B j) x))), some (.int (iI len)), some (.int (iI (fD T (gF j (B j) x) len))), none] [] from
    hloop 4 _ hln (by omega) rfl
  intro k9
  induction k9 with
  | zero =>
    intro len h1n h2n hH
    have hlen1 : len = 1 := by omega
    have hfb := fD_bd (T := T) (goal := (gF j (B j) x)) (n := len) hgb h1n
    refine gd_iload C dX4_mapFound_28 rfl ?_
    refine gd_iconst C dX4_mapFound_30 ?_
    refine gd_icmp_ne (tgt := 62) C dX4_mapFound_31 (by decide) ?_ ?_ (fun hc31 => ?_) (fun hc31 => ?_)
    · omega
    · omega
    · refine gd_iload C dX4_mapFound_62 rfl ?_
      refine gd_iconst C dX4_mapFound_64 ?_
      refine gd_icmp_ne (tgt := 70) C dX4_mapFound_65 (by decide) ?_ ?_ (fun hc65 => ?_) (fun hc65 => ?_)
      · omega
      · omega
      · refine gd_iload C dX4_mapFound_70 rfl ?_
        refine gd_iload_n C dX4_mapFound_72 rfl ?_
        apply gd_min C (by decide +kernel) (by decide +kernel) (by decide +kernel) (by decide +kernel) rfl dX4_mapFound_73 ⟨⟨by decide, Nat.le_of_ble_eq_true rfl⟩, by decide, by decide⟩
        · omega
        · omega
        intro y hy
        refine gd_istore C dX4_mapFound_76 (Nat.le_of_ble_eq_true rfl) ?_
        refine gd_aload_n C dX4_mapFound_78 rfl ?_
        apply gd_get (ci := 4) (Cn := RX4) (T := TX4) (N := 5) (ref := RX4) C rfl (by decide +kernel) 0 (by decide) (by decide +kernel) rfl dX4_mapFound_79
        · exact hb
        · rfl
        refine gd_iload C dX4_mapFound_82 rfl ?_
        refine gd_iload C dX4_mapFound_84 rfl ?_
        refine gd_callVN (n := 2) (ci := 2) (Cn := RX2) (T := TX2) (N := 2) (host := RX4) C (kX2_take hl hg ht hi1 (a := fD T (gF j (B j) x) len) (q := len) ?_) ?_ rfl gX4_mapFound_X2_take_n245 rfl (by decide +kernel) (by decide +kernel) (by decide +kernel) (by decide +kernel) ⟨by decide, by decide, by decide +kernel⟩ rfl rfl (Nat.le_of_ble_eq_true rfl) rfl dX4_mapFound_86 ⟨⟨by decide, by decide⟩, by decide, by decide⟩ (fun _ h => h.elim) ?_
        · omega
        · exact ⟨_, by exact hg⟩
        rintro _ w1 ⟨rfl, c1, c2, c3⟩
        obtain ⟨hW1, hF1⟩ := hW.setG c1 c2 (by rw [sI_tk (T := T) (a := fD T (gF j (B j) x) len) (n := len) (x := 1) (by omega)]; omega) c3
        have hI1 := hI.setT (tkF_01 (T := T) (a := fD T (gF j (B j) x) len) (n := len) hi1 (Or.inr rfl))
        have hfj1 := hW1.2.2.2.2.1 j hj.1 hj.2
        refine gd_aload_n C dX4_mapFound_89 rfl ?_
        refine gd_iload_n C dX4_mapFound_90 rfl ?_
        refine gd_iload C dX4_mapFound_91 rfl ?_
        refine gd_iload C dX4_mapFound_93 rfl ?_
        refine gd_callVN (n := 3) (ci := 0) (Cn := RX0) (T := TX0) (N := 11) (host := RX4) C (kX0_map hl hfj1.1 hfj1.2 (a := x) (b := fD T (gF j (B j) x) len) (k := y) ?_) ?_ rfl gX4_mapFound_X0_map_n248 rfl (by decide +kernel) (by decide +kernel) (by decide +kernel) (by decide +kernel) ⟨by decide, by decide, by decide +kernel⟩ rfl rfl (Nat.le_of_ble_eq_true rfl) rfl dX4_mapFound_95 ⟨⟨by decide, by decide⟩, by decide, by decide⟩ (fun _ h => h.elim) ?_
        · omega
        · exact ⟨_, by exact hfj1.1⟩
        rintro _ w2 ⟨rfl, c4, c5, c6⟩
        obtain ⟨hW2, hF2⟩ := hW1.setF (j := j) hj c4 c5 c6
        have hI2 := hI1.setF (j := j) (V := fU (v j) 4 (v j 4 - y)) (F := mpF (B j) x (fD T (gF j (B j) x) len) y) (hfi.mp (by omega) (by omega) (fun p p1 p2 => hrs p p1 (by omega)))
        refine gd_iload C dX4_mapFound_98 rfl ?_
        refine gd_iload C dX4_mapFound_100 rfl ?_
        refine gd_icmp_le (tgt := 128) C dX4_mapFound_102 (by decide) ?_ ?_ (fun hc102 => ?_) (fun hc102 => ?_)
        · omega
        · omega
        · refine gd_iload C dX4_mapFound_128 rfl ?_
          refine gd_iret C hQ hret dX4_mapFound_130 ?_ ?_
          · refine Or.inr ?_
            rw [hH, hvF_f (by omega)]
            first
              | exact ⟨by show fD T (gF j (B j) x) len ≠ -1; omega, y, by show (y = len ∧ len ≤ k) ∨ (y = k ∧ k < len); omega, rfl, Or.inl ⟨by show len ≤ y; omega, hW2, hI2, hF1.tr hF2⟩⟩
              | exact ⟨by show fD T (gF j (B j) x) len ≠ -1; omega, y, by show (y = len ∧ len ≤ k) ∨ (y = k ∧ k < len); omega, rfl, Or.inr ⟨by show y < len; omega, hW4, hI4, hF1.tr (hF2.tr (hF3.tr hF4))⟩⟩
          · decide
        · refine gd_aload_n C dX4_mapFound_105 rfl ?_
          refine gd_aload_n C dX4_mapFound_106 rfl ?_
          refine gd_callV (n := 1) (ci := 4) (Cn := RX4) (T := TX4) (N := 5) C (kX4_releaseKept hl hW2 hI2 (j := j) hj) ?_ rfl gX4_mapFound_X4_releaseKept rfl ⟨rfl, by decide, by decide, by decide +kernel⟩ rfl rfl (Nat.le_of_ble_eq_true rfl) rfl dX4_mapFound_107 ⟨⟨by decide, by decide⟩, by decide, by decide⟩ (fun _ h => h.elim) ?_
          · exact ⟨_, by exact hW2.1⟩
          rintro _ w3 ⟨rfl, hW3, hI3, hF3⟩
          rw [fU_s, fU_ss] at hW3 hI3
          have hfj3 := hW3.2.2.2.2.1 j hj.1 hj.2
          rw [fU_s] at hfj3
          refine gd_aload_n C dX4_mapFound_110 rfl ?_
          refine gd_iload_n C dX4_mapFound_111 rfl ?_
          refine gd_iload C dX4_mapFound_112 rfl ?_
          refine gd_iadd C dX4_mapFound_114 ?_
          refine gd_iload C dX4_mapFound_115 rfl ?_
          refine gd_iload C dX4_mapFound_117 rfl ?_
          refine gd_iadd C dX4_mapFound_119 ?_
          refine gd_iload C dX4_mapFound_120 rfl ?_
          refine gd_iload C dX4_mapFound_122 rfl ?_
          refine gd_isub C dX4_mapFound_124 ?_
          refine gd_callVN (n := 3) (ci := 0) (Cn := RX0) (T := TX0) (N := 11) (host := RX4) C (kX0_keep hl hfj3.1 (a := x + y) (b := fD T (gF j (B j) x) len + y) (n := len - y)) ?_ rfl gX4_mapFound_X0_keep_n251 rfl (by decide +kernel) (by decide +kernel) (by decide +kernel) (by decide +kernel) ⟨by decide, by decide, by decide +kernel⟩ rfl rfl (Nat.le_of_ble_eq_true rfl) rfl dX4_mapFound_125 ⟨⟨by decide, by decide⟩, by decide, by decide⟩ (fun _ h => h.elim) ?_
          · exact ⟨_, by exact hfj3.1⟩
          rintro _ w4 ⟨rfl, c7, c8⟩
          obtain ⟨hW4, hF4⟩ := hW3.setV (j := j) hj c7 c8
          rw [fU_ss] at hW4
          have hI4 := hI3.setV (j := j) (V := _) (by rw [fU_s]; have h9 := hI3.2.1 j hj.1 hj.2; rw [fU_s, fU_s] at h9; exact h9.kp (x := x + y) (y := fD T (gF j (B j) x) len + y) (q := len - y) (by omega) (by omega))
          rw [fU_ss] at hI4
          refine gd_iload C dX4_mapFound_128 rfl ?_
          refine gd_iret C hQ hret dX4_mapFound_130 ?_ ?_
          · refine Or.inr ?_
            rw [hH, hvF_f (by omega)]
            first
              | exact ⟨by show fD T (gF j (B j) x) len ≠ -1; omega, y, by show (y = len ∧ len ≤ k) ∨ (y = k ∧ k < len); omega, rfl, Or.inl ⟨by show len ≤ y; omega, hW2, hI2, hF1.tr hF2⟩⟩
              | exact ⟨by show fD T (gF j (B j) x) len ≠ -1; omega, y, by show (y = len ∧ len ≤ k) ∨ (y = k ∧ k < len); omega, rfl, Or.inr ⟨by show y < len; omega, hW4, hI4, hF1.tr (hF2.tr (hF3.tr hF4))⟩⟩
          · decide
      · refine gd_iconst C dX4_mapFound_68 ?_
        refine gd_iret C hQ hret dX4_mapFound_69 ?_ ?_
        · refine Or.inl ?_
          rw [hH, hvF_f (by omega)]
          exact ⟨by omega, rfl, rfl⟩
        · decide
    · refine gd_iload C dX4_mapFound_34 rfl ?_
      refine gd_iconst C dX4_mapFound_36 ?_
      refine gd_icmp_le (tgt := 62) C dX4_mapFound_37 (by decide) ?_ ?_ (fun hc37 => ?_) (fun hc37 => ?_)
      · omega
      · omega
      · refine gd_iload C dX4_mapFound_62 rfl ?_
        refine gd_iconst C dX4_mapFound_64 ?_
        refine gd_icmp_ne (tgt := 70) C dX4_mapFound_65 (by decide) ?_ ?_ (fun hc65 => ?_) (fun hc65 => ?_)
        · omega
        · omega
        · refine gd_iload C dX4_mapFound_70 rfl ?_
          refine gd_iload_n C dX4_mapFound_72 rfl ?_
          apply gd_min C (by decide +kernel) (by decide +kernel) (by decide +kernel) (by decide +kernel) rfl dX4_mapFound_73 ⟨⟨by decide, Nat.le_of_ble_eq_true rfl⟩, by decide, by decide⟩
          · omega
          · omega
          intro y hy
          refine gd_istore C dX4_mapFound_76 (Nat.le_of_ble_eq_true rfl) ?_
          refine gd_aload_n C dX4_mapFound_78 rfl ?_
          apply gd_get (ci := 4) (Cn := RX4) (T := TX4) (N := 5) (ref := RX4) C rfl (by decide +kernel) 0 (by decide) (by decide +kernel) rfl dX4_mapFound_79
          · exact hb
          · rfl
          refine gd_iload C dX4_mapFound_82 rfl ?_
          refine gd_iload C dX4_mapFound_84 rfl ?_
          refine gd_callVN (n := 2) (ci := 2) (Cn := RX2) (T := TX2) (N := 2) (host := RX4) C (kX2_take hl hg ht hi1 (a := fD T (gF j (B j) x) len) (q := len) ?_) ?_ rfl gX4_mapFound_X2_take_n245 rfl (by decide +kernel) (by decide +kernel) (by decide +kernel) (by decide +kernel) ⟨by decide, by decide, by decide +kernel⟩ rfl rfl (Nat.le_of_ble_eq_true rfl) rfl dX4_mapFound_86 ⟨⟨by decide, by decide⟩, by decide, by decide⟩ (fun _ h => h.elim) ?_
          · omega
          · exact ⟨_, by exact hg⟩
          rintro _ w1 ⟨rfl, c1, c2, c3⟩
          obtain ⟨hW1, hF1⟩ := hW.setG c1 c2 (by rw [sI_tk (T := T) (a := fD T (gF j (B j) x) len) (n := len) (x := 1) (by omega)]; omega) c3
          have hI1 := hI.setT (tkF_01 (T := T) (a := fD T (gF j (B j) x) len) (n := len) hi1 (Or.inr rfl))
          have hfj1 := hW1.2.2.2.2.1 j hj.1 hj.2
          refine gd_aload_n C dX4_mapFound_89 rfl ?_
          refine gd_iload_n C dX4_mapFound_90 rfl ?_
          refine gd_iload C dX4_mapFound_91 rfl ?_
          refine gd_iload C dX4_mapFound_93 rfl ?_
          refine gd_callVN (n := 3) (ci := 0) (Cn := RX0) (T := TX0) (N := 11) (host := RX4) C (kX0_map hl hfj1.1 hfj1.2 (a := x) (b := fD T (gF j (B j) x) len) (k := y) ?_) ?_ rfl gX4_mapFound_X0_map_n248 rfl (by decide +kernel) (by decide +kernel) (by decide +kernel) (by decide +kernel) ⟨by decide, by decide, by decide +kernel⟩ rfl rfl (Nat.le_of_ble_eq_true rfl) rfl dX4_mapFound_95 ⟨⟨by decide, by decide⟩, by decide, by decide⟩ (fun _ h => h.elim) ?_
          · omega
          · exact ⟨_, by exact hfj1.1⟩
          rintro _ w2 ⟨rfl, c4, c5, c6⟩
          obtain ⟨hW2, hF2⟩ := hW1.setF (j := j) hj c4 c5 c6
          have hI2 := hI1.setF (j := j) (V := fU (v j) 4 (v j 4 - y)) (F := mpF (B j) x (fD T (gF j (B j) x) len) y) (hfi.mp (by omega) (by omega) (fun p p1 p2 => hrs p p1 (by omega)))
          refine gd_iload C dX4_mapFound_98 rfl ?_
          refine gd_iload C dX4_mapFound_100 rfl ?_
          refine gd_icmp_le (tgt := 128) C dX4_mapFound_102 (by decide) ?_ ?_ (fun hc102 => ?_) (fun hc102 => ?_)
          · omega
          · omega
          · refine gd_iload C dX4_mapFound_128 rfl ?_
            refine gd_iret C hQ hret dX4_mapFound_130 ?_ ?_
            · refine Or.inr ?_
              rw [hH, hvF_f (by omega)]
              first
                | exact ⟨by show fD T (gF j (B j) x) len ≠ -1; omega, y, by show (y = len ∧ len ≤ k) ∨ (y = k ∧ k < len); omega, rfl, Or.inl ⟨by show len ≤ y; omega, hW2, hI2, hF1.tr hF2⟩⟩
                | exact ⟨by show fD T (gF j (B j) x) len ≠ -1; omega, y, by show (y = len ∧ len ≤ k) ∨ (y = k ∧ k < len); omega, rfl, Or.inr ⟨by show y < len; omega, hW4, hI4, hF1.tr (hF2.tr (hF3.tr hF4))⟩⟩
            · decide
          · refine gd_aload_n C dX4_mapFound_105 rfl ?_
            refine gd_aload_n C dX4_mapFound_106 rfl ?_
            refine gd_callV (n := 1) (ci := 4) (Cn := RX4) (T := TX4) (N := 5) C (kX4_releaseKept hl hW2 hI2 (j := j) hj) ?_ rfl gX4_mapFound_X4_releaseKept rfl ⟨rfl, by decide, by decide, by decide +kernel⟩ rfl rfl (Nat.le_of_ble_eq_true rfl) rfl dX4_mapFound_107 ⟨⟨by decide, by decide⟩, by decide, by decide⟩ (fun _ h => h.elim) ?_
            · exact ⟨_, by exact hW2.1⟩
            rintro _ w3 ⟨rfl, hW3, hI3, hF3⟩
            rw [fU_s, fU_ss] at hW3 hI3
            have hfj3 := hW3.2.2.2.2.1 j hj.1 hj.2
            rw [fU_s] at hfj3
            refine gd_aload_n C dX4_mapFound_110 rfl ?_
            refine gd_iload_n C dX4_mapFound_111 rfl ?_
            refine gd_iload C dX4_mapFound_112 rfl ?_
            refine gd_iadd C dX4_mapFound_114 ?_
            refine gd_iload C dX4_mapFound_115 rfl ?_
            refine gd_iload C dX4_mapFound_117 rfl ?_
            refine gd_iadd C dX4_mapFound_119 ?_
            refine gd_iload C dX4_mapFound_120 rfl ?_
            refine gd_iload C dX4_mapFound_122 rfl ?_
            refine gd_isub C dX4_mapFound_124 ?_
            refine gd_callVN (n := 3) (ci := 0) (Cn := RX0) (T := TX0) (N := 11) (host := RX4) C (kX0_keep hl hfj3.1 (a := x + y) (b := fD T (gF j (B j) x) len + y) (n := len - y)) ?_ rfl gX4_mapFound_X0_keep_n251 rfl (by decide +kernel) (by decide +kernel) (by decide +kernel) (by decide +kernel) ⟨by decide, by decide, by decide +kernel⟩ rfl rfl (Nat.le_of_ble_eq_true rfl) rfl dX4_mapFound_125 ⟨⟨by decide, by decide⟩, by decide, by decide⟩ (fun _ h => h.elim) ?_
            · exact ⟨_, by exact hfj3.1⟩
            rintro _ w4 ⟨rfl, c7, c8⟩
            obtain ⟨hW4, hF4⟩ := hW3.setV (j := j) hj c7 c8
            rw [fU_ss] at hW4
            have hI4 := hI3.setV (j := j) (V := _) (by rw [fU_s]; have h9 := hI3.2.1 j hj.1 hj.2; rw [fU_s, fU_s] at h9; exact h9.kp (x := x + y) (y := fD T (gF j (B j) x) len + y) (q := len - y) (by omega) (by omega))
            rw [fU_ss] at hI4
            refine gd_iload C dX4_mapFound_128 rfl ?_
            refine gd_iret C hQ hret dX4_mapFound_130 ?_ ?_
            · refine Or.inr ?_
              rw [hH, hvF_f (by omega)]
              first
                | exact ⟨by show fD T (gF j (B j) x) len ≠ -1; omega, y, by show (y = len ∧ len ≤ k) ∨ (y = k ∧ k < len); omega, rfl, Or.inl ⟨by show len ≤ y; omega, hW2, hI2, hF1.tr hF2⟩⟩
                | exact ⟨by show fD T (gF j (B j) x) len ≠ -1; omega, y, by show (y = len ∧ len ≤ k) ∨ (y = k ∧ k < len); omega, rfl, Or.inr ⟨by show y < len; omega, hW4, hI4, hF1.tr (hF2.tr (hF3.tr hF4))⟩⟩
            · decide
        · refine gd_iconst C dX4_mapFound_68 ?_
          refine gd_iret C hQ hret dX4_mapFound_69 ?_ ?_
          · refine Or.inl ?_
            rw [hH, hvF_f (by omega)]
            exact ⟨by omega, rfl, rfl⟩
          · decide
      · exfalso; omega
  | succ k9 ih =>
    intro len h1n h2n hH
    have hfb := fD_bd (T := T) (goal := (gF j (B j) x)) (n := len) hgb h1n
    skip
    refine gd_iload C dX4_mapFound_28 rfl ?_
    refine gd_iconst C dX4_mapFound_30 ?_
    refine gd_icmp_ne (tgt := 62) C dX4_mapFound_31 (by decide) ?_ ?_ (fun hc31 => ?_) (fun hc31 => ?_)
    · omega
    · omega
    · refine gd_iload C dX4_mapFound_62 rfl ?_
      refine gd_iconst C dX4_mapFound_64 ?_
      refine gd_icmp_ne (tgt := 70) C dX4_mapFound_65 (by decide) ?_ ?_ (fun hc65 => ?_) (fun hc65 => ?_)
      · omega
      · omega
      · refine gd_iload C dX4_mapFound_70 rfl ?_
        refine gd_iload_n C dX4_mapFound_72 rfl ?_
        apply gd_min C (by decide +kernel) (by decide +kernel) (by decide +kernel) (by decide +kernel) rfl dX4_mapFound_73 ⟨⟨by decide, Nat.le_of_ble_eq_true rfl⟩, by decide, by decide⟩
        · omega
        · omega
        intro y hy
        refine gd_istore C dX4_mapFound_76 (Nat.le_of_ble_eq_true rfl) ?_
        refine gd_aload_n C dX4_mapFound_78 rfl ?_
        apply gd_get (ci := 4) (Cn := RX4) (T := TX4) (N := 5) (ref := RX4) C rfl (by decide +kernel) 0 (by decide) (by decide +kernel) rfl dX4_mapFound_79
        · exact hb
        · rfl
        refine gd_iload C dX4_mapFound_82 rfl ?_
        refine gd_iload C dX4_mapFound_84 rfl ?_
        refine gd_callVN (n := 2) (ci := 2) (Cn := RX2) (T := TX2) (N := 2) (host := RX4) C (kX2_take hl hg ht hi1 (a := fD T (gF j (B j) x) len) (q := len) ?_) ?_ rfl gX4_mapFound_X2_take_n245 rfl (by decide +kernel) (by decide +kernel) (by decide +kernel) (by decide +kernel) ⟨by decide, by decide, by decide +kernel⟩ rfl rfl (Nat.le_of_ble_eq_true rfl) rfl dX4_mapFound_86 ⟨⟨by decide, by decide⟩, by decide, by decide⟩ (fun _ h => h.elim) ?_
        · omega
        · exact ⟨_, by exact hg⟩
        rintro _ w1 ⟨rfl, c1, c2, c3⟩
        obtain ⟨hW1, hF1⟩ := hW.setG c1 c2 (by rw [sI_tk (T := T) (a := fD T (gF j (B j) x) len) (n := len) (x := 1) (by omega)]; omega) c3
        have hI1 := hI.setT (tkF_01 (T := T) (a := fD T (gF j (B j) x) len) (n := len) hi1 (Or.inr rfl))
        have hfj1 := hW1.2.2.2.2.1 j hj.1 hj.2
        refine gd_aload_n C dX4_mapFound_89 rfl ?_
        refine gd_iload_n C dX4_mapFound_90 rfl ?_
        refine gd_iload C dX4_mapFound_91 rfl ?_
        refine gd_iload C dX4_mapFound_93 rfl ?_
        refine gd_callVN (n := 3) (ci := 0) (Cn := RX0) (T := TX0) (N := 11) (host := RX4) C (kX0_map hl hfj1.1 hfj1.2 (a := x) (b := fD T (gF j (B j) x) len) (k := y) ?_) ?_ rfl gX4_mapFound_X0_map_n248 rfl (by decide +kernel) (by decide +kernel) (by decide +kernel) (by decide +kernel) ⟨by decide, by decide, by decide +kernel⟩ rfl rfl (Nat.le_of_ble_eq_true rfl) rfl dX4_mapFound_95 ⟨⟨by decide, by decide⟩, by decide, by decide⟩ (fun _ h => h.elim) ?_
        · omega
        · exact ⟨_, by exact hfj1.1⟩
        rintro _ w2 ⟨rfl, c4, c5, c6⟩
        obtain ⟨hW2, hF2⟩ := hW1.setF (j := j) hj c4 c5 c6
        have hI2 := hI1.setF (j := j) (V := fU (v j) 4 (v j 4 - y)) (F := mpF (B j) x (fD T (gF j (B j) x) len) y) (hfi.mp (by omega) (by omega) (fun p p1 p2 => hrs p p1 (by omega)))
        refine gd_iload C dX4_mapFound_98 rfl ?_
        refine gd_iload C dX4_mapFound_100 rfl ?_
        refine gd_icmp_le (tgt := 128) C dX4_mapFound_102 (by decide) ?_ ?_ (fun hc102 => ?_) (fun hc102 => ?_)
        · omega
        · omega
        · refine gd_iload C dX4_mapFound_128 rfl ?_
          refine gd_iret C hQ hret dX4_mapFound_130 ?_ ?_
          · refine Or.inr ?_
            rw [hH, hvF_f (by omega)]
            first
              | exact ⟨by show fD T (gF j (B j) x) len ≠ -1; omega, y, by show (y = len ∧ len ≤ k) ∨ (y = k ∧ k < len); omega, rfl, Or.inl ⟨by show len ≤ y; omega, hW2, hI2, hF1.tr hF2⟩⟩
              | exact ⟨by show fD T (gF j (B j) x) len ≠ -1; omega, y, by show (y = len ∧ len ≤ k) ∨ (y = k ∧ k < len); omega, rfl, Or.inr ⟨by show y < len; omega, hW4, hI4, hF1.tr (hF2.tr (hF3.tr hF4))⟩⟩
          · decide
        · refine gd_aload_n C dX4_mapFound_105 rfl ?_
          refine gd_aload_n C dX4_mapFound_106 rfl ?_
          refine gd_callV (n := 1) (ci := 4) (Cn := RX4) (T := TX4) (N := 5) C (kX4_releaseKept hl hW2 hI2 (j := j) hj) ?_ rfl gX4_mapFound_X4_releaseKept rfl ⟨rfl, by decide, by decide, by decide +kernel⟩ rfl rfl (Nat.le_of_ble_eq_true rfl) rfl dX4_mapFound_107 ⟨⟨by decide, by decide⟩, by decide, by decide⟩ (fun _ h => h.elim) ?_
          · exact ⟨_, by exact hW2.1⟩
          rintro _ w3 ⟨rfl, hW3, hI3, hF3⟩
          rw [fU_s, fU_ss] at hW3 hI3
          have hfj3 := hW3.2.2.2.2.1 j hj.1 hj.2
          rw [fU_s] at hfj3
          refine gd_aload_n C dX4_mapFound_110 rfl ?_
          refine gd_iload_n C dX4_mapFound_111 rfl ?_
          refine gd_iload C dX4_mapFound_112 rfl ?_
          refine gd_iadd C dX4_mapFound_114 ?_
          refine gd_iload C dX4_mapFound_115 rfl ?_
          refine gd_iload C dX4_mapFound_117 rfl ?_
          refine gd_iadd C dX4_mapFound_119 ?_
          refine gd_iload C dX4_mapFound_120 rfl ?_
          refine gd_iload C dX4_mapFound_122 rfl ?_
          refine gd_isub C dX4_mapFound_124 ?_
          refine gd_callVN (n := 3) (ci := 0) (Cn := RX0) (T := TX0) (N := 11) (host := RX4) C (kX0_keep hl hfj3.1 (a := x + y) (b := fD T (gF j (B j) x) len + y) (n := len - y)) ?_ rfl gX4_mapFound_X0_keep_n251 rfl (by decide +kernel) (by decide +kernel) (by decide +kernel) (by decide +kernel) ⟨by decide, by decide, by decide +kernel⟩ rfl rfl (Nat.le_of_ble_eq_true rfl) rfl dX4_mapFound_125 ⟨⟨by decide, by decide⟩, by decide, by decide⟩ (fun _ h => h.elim) ?_
          · exact ⟨_, by exact hfj3.1⟩
          rintro _ w4 ⟨rfl, c7, c8⟩
          obtain ⟨hW4, hF4⟩ := hW3.setV (j := j) hj c7 c8
          rw [fU_ss] at hW4
          have hI4 := hI3.setV (j := j) (V := _) (by rw [fU_s]; have h9 := hI3.2.1 j hj.1 hj.2; rw [fU_s, fU_s] at h9; exact h9.kp (x := x + y) (y := fD T (gF j (B j) x) len + y) (q := len - y) (by omega) (by omega))
          rw [fU_ss] at hI4
          refine gd_iload C dX4_mapFound_128 rfl ?_
          refine gd_iret C hQ hret dX4_mapFound_130 ?_ ?_
          · refine Or.inr ?_
            rw [hH, hvF_f (by omega)]
            first
              | exact ⟨by show fD T (gF j (B j) x) len ≠ -1; omega, y, by show (y = len ∧ len ≤ k) ∨ (y = k ∧ k < len); omega, rfl, Or.inl ⟨by show len ≤ y; omega, hW2, hI2, hF1.tr hF2⟩⟩
              | exact ⟨by show fD T (gF j (B j) x) len ≠ -1; omega, y, by show (y = len ∧ len ≤ k) ∨ (y = k ∧ k < len); omega, rfl, Or.inr ⟨by show y < len; omega, hW4, hI4, hF1.tr (hF2.tr (hF3.tr hF4))⟩⟩
          · decide
      · refine gd_iconst C dX4_mapFound_68 ?_
        refine gd_iret C hQ hret dX4_mapFound_69 ?_ ?_
        · refine Or.inl ?_
          rw [hH, hvF_f (by omega)]
          exact ⟨by omega, rfl, rfl⟩
        · decide
    · refine gd_iload C dX4_mapFound_34 rfl ?_
      refine gd_iconst C dX4_mapFound_36 ?_
      refine gd_icmp_le (tgt := 62) C dX4_mapFound_37 (by decide) ?_ ?_ (fun hc37 => ?_) (fun hc37 => ?_)
      · omega
      · omega
      · refine gd_iload C dX4_mapFound_62 rfl ?_
        refine gd_iconst C dX4_mapFound_64 ?_
        refine gd_icmp_ne (tgt := 70) C dX4_mapFound_65 (by decide) ?_ ?_ (fun hc65 => ?_) (fun hc65 => ?_)
        · omega
        · omega
        · refine gd_iload C dX4_mapFound_70 rfl ?_
          refine gd_iload_n C dX4_mapFound_72 rfl ?_
          apply gd_min C (by decide +kernel) (by decide +kernel) (by decide +kernel) (by decide +kernel) rfl dX4_mapFound_73 ⟨⟨by decide, Nat.le_of_ble_eq_true rfl⟩, by decide, by decide⟩
          · omega
          · omega
          intro y hy
          refine gd_istore C dX4_mapFound_76 (Nat.le_of_ble_eq_true rfl) ?_
          refine gd_aload_n C dX4_mapFound_78 rfl ?_
          apply gd_get (ci := 4) (Cn := RX4) (T := TX4) (N := 5) (ref := RX4) C rfl (by decide +kernel) 0 (by decide) (by decide +kernel) rfl dX4_mapFound_79
          · exact hb
          · rfl
          refine gd_iload C dX4_mapFound_82 rfl ?_
          refine gd_iload C dX4_mapFound_84 rfl ?_
          refine gd_callVN (n := 2) (ci := 2) (Cn := RX2) (T := TX2) (N := 2) (host := RX4) C (kX2_take hl hg ht hi1 (a := fD T (gF j (B j) x) len) (q := len) ?_) ?_ rfl gX4_mapFound_X2_take_n245 rfl (by decide +kernel) (by decide +kernel) (by decide +kernel) (by decide +kernel) ⟨by decide, by decide, by decide +kernel⟩ rfl rfl (Nat.le_of_ble_eq_true rfl) rfl dX4_mapFound_86 ⟨⟨by decide, by decide⟩, by decide, by decide⟩ (fun _ h => h.elim) ?_
          · omega
          · exact ⟨_, by exact hg⟩
          rintro _ w1 ⟨rfl, c1, c2, c3⟩
          obtain ⟨hW1, hF1⟩ := hW.setG c1 c2 (by rw [sI_tk (T := T) (a := fD T (gF j (B j) x) len) (n := len) (x := 1) (by omega)]; omega) c3
          have hI1 := hI.setT (tkF_01 (T := T) (a := fD T (gF j (B j) x) len) (n := len) hi1 (Or.inr rfl))
          have hfj1 := hW1.2.2.2.2.1 j hj.1 hj.2
          refine gd_aload_n C dX4_mapFound_89 rfl ?_
          refine gd_iload_n C dX4_mapFound_90 rfl ?_
          refine gd_iload C dX4_mapFound_91 rfl ?_
          refine gd_iload C dX4_mapFound_93 rfl ?_
          refine gd_callVN (n := 3) (ci := 0) (Cn := RX0) (T := TX0) (N := 11) (host := RX4) C (kX0_map hl hfj1.1 hfj1.2 (a := x) (b := fD T (gF j (B j) x) len) (k := y) ?_) ?_ rfl gX4_mapFound_X0_map_n248 rfl (by decide +kernel) (by decide +kernel) (by decide +kernel) (by decide +kernel) ⟨by decide, by decide, by decide +kernel⟩ rfl rfl (Nat.le_of_ble_eq_true rfl) rfl dX4_mapFound_95 ⟨⟨by decide, by decide⟩, by decide, by decide⟩ (fun _ h => h.elim) ?_
          · omega
          · exact ⟨_, by exact hfj1.1⟩
          rintro _ w2 ⟨rfl, c4, c5, c6⟩
          obtain ⟨hW2, hF2⟩ := hW1.setF (j := j) hj c4 c5 c6
          have hI2 := hI1.setF (j := j) (V := fU (v j) 4 (v j 4 - y)) (F := mpF (B j) x (fD T (gF j (B j) x) len) y) (hfi.mp (by omega) (by omega) (fun p p1 p2 => hrs p p1 (by omega)))
          refine gd_iload C dX4_mapFound_98 rfl ?_
          refine gd_iload C dX4_mapFound_100 rfl ?_
          refine gd_icmp_le (tgt := 128) C dX4_mapFound_102 (by decide) ?_ ?_ (fun hc102 => ?_) (fun hc102 => ?_)
          · omega
          · omega
          · refine gd_iload C dX4_mapFound_128 rfl ?_
            refine gd_iret C hQ hret dX4_mapFound_130 ?_ ?_
            · refine Or.inr ?_
              rw [hH, hvF_f (by omega)]
              first
                | exact ⟨by show fD T (gF j (B j) x) len ≠ -1; omega, y, by show (y = len ∧ len ≤ k) ∨ (y = k ∧ k < len); omega, rfl, Or.inl ⟨by show len ≤ y; omega, hW2, hI2, hF1.tr hF2⟩⟩
                | exact ⟨by show fD T (gF j (B j) x) len ≠ -1; omega, y, by show (y = len ∧ len ≤ k) ∨ (y = k ∧ k < len); omega, rfl, Or.inr ⟨by show y < len; omega, hW4, hI4, hF1.tr (hF2.tr (hF3.tr hF4))⟩⟩
            · decide
          · refine gd_aload_n C dX4_mapFound_105 rfl ?_
            refine gd_aload_n C dX4_mapFound_106 rfl ?_
            refine gd_callV (n := 1) (ci := 4) (Cn := RX4) (T := TX4) (N := 5) C (kX4_releaseKept hl hW2 hI2 (j := j) hj) ?_ rfl gX4_mapFound_X4_releaseKept rfl ⟨rfl, by decide, by decide, by decide +kernel⟩ rfl rfl (Nat.le_of_ble_eq_true rfl) rfl dX4_mapFound_107 ⟨⟨by decide, by decide⟩, by decide, by decide⟩ (fun _ h => h.elim) ?_
            · exact ⟨_, by exact hW2.1⟩
            rintro _ w3 ⟨rfl, hW3, hI3, hF3⟩
            rw [fU_s, fU_ss] at hW3 hI3
            have hfj3 := hW3.2.2.2.2.1 j hj.1 hj.2
            rw [fU_s] at hfj3
            refine gd_aload_n C dX4_mapFound_110 rfl ?_
            refine gd_iload_n C dX4_mapFound_111 rfl ?_
            refine gd_iload C dX4_mapFound_112 rfl ?_
            refine gd_iadd C dX4_mapFound_114 ?_
            refine gd_iload C dX4_mapFound_115 rfl ?_
            refine gd_iload C dX4_mapFound_117 rfl ?_
            refine gd_iadd C dX4_mapFound_119 ?_
            refine gd_iload C dX4_mapFound_120 rfl ?_
            refine gd_iload C dX4_mapFound_122 rfl ?_
            refine gd_isub C dX4_mapFound_124 ?_
            refine gd_callVN (n := 3) (ci := 0) (Cn := RX0) (T := TX0) (N := 11) (host := RX4) C (kX0_keep hl hfj3.1 (a := x + y) (b := fD T (gF j (B j) x) len + y) (n := len - y)) ?_ rfl gX4_mapFound_X0_keep_n251 rfl (by decide +kernel) (by decide +kernel) (by decide +kernel) (by decide +kernel) ⟨by decide, by decide, by decide +kernel⟩ rfl rfl (Nat.le_of_ble_eq_true rfl) rfl dX4_mapFound_125 ⟨⟨by decide, by decide⟩, by decide, by decide⟩ (fun _ h => h.elim) ?_
            · exact ⟨_, by exact hfj3.1⟩
            rintro _ w4 ⟨rfl, c7, c8⟩
            obtain ⟨hW4, hF4⟩ := hW3.setV (j := j) hj c7 c8
            rw [fU_ss] at hW4
            have hI4 := hI3.setV (j := j) (V := _) (by rw [fU_s]; have h9 := hI3.2.1 j hj.1 hj.2; rw [fU_s, fU_s] at h9; exact h9.kp (x := x + y) (y := fD T (gF j (B j) x) len + y) (q := len - y) (by omega) (by omega))
            rw [fU_ss] at hI4
            refine gd_iload C dX4_mapFound_128 rfl ?_
            refine gd_iret C hQ hret dX4_mapFound_130 ?_ ?_
            · refine Or.inr ?_
              rw [hH, hvF_f (by omega)]
              first
                | exact ⟨by show fD T (gF j (B j) x) len ≠ -1; omega, y, by show (y = len ∧ len ≤ k) ∨ (y = k ∧ k < len); omega, rfl, Or.inl ⟨by show len ≤ y; omega, hW2, hI2, hF1.tr hF2⟩⟩
                | exact ⟨by show fD T (gF j (B j) x) len ≠ -1; omega, y, by show (y = len ∧ len ≤ k) ∨ (y = k ∧ k < len); omega, rfl, Or.inr ⟨by show y < len; omega, hW4, hI4, hF1.tr (hF2.tr (hF3.tr hF4))⟩⟩
            · decide
        · refine gd_iconst C dX4_mapFound_68 ?_
          refine gd_iret C hQ hret dX4_mapFound_69 ?_ ?_
          · refine Or.inl ?_
            rw [hH, hvF_f (by omega)]
            exact ⟨by omega, rfl, rfl⟩
          · decide
      · refine gd_iload C dX4_mapFound_40 rfl ?_
        refine gd_iconst C dX4_mapFound_42 ?_
        refine gd_idiv C dX4_mapFound_43 ?_ ?_
        · omega
        refine gd_istore C dX4_mapFound_44 (Nat.le_of_ble_eq_true rfl) ?_
        refine gd_aload_n C dX4_mapFound_46 rfl ?_
        apply gd_get (ci := 4) (Cn := RX4) (T := TX4) (N := 5) (ref := RX4) C rfl (by decide +kernel) 0 (by decide) (by decide +kernel) rfl dX4_mapFound_47
        · exact hb
        · rfl
        refine gd_iload C dX4_mapFound_50 rfl ?_
        refine gd_iload C dX4_mapFound_52 rfl ?_
        refine gd_callVN (n := 2) (ci := 2) (Cn := RX2) (T := TX2) (N := 2) (host := RX4) C (kX2_find hl hg ht hi1 (a := (gF j (B j) x)) (q := len / 2) hgb ?_) ?_ rfl gX4_mapFound_X2_find_n237 rfl (by decide +kernel) (by decide +kernel) (by decide +kernel) (by decide +kernel) ⟨by decide, by decide, by decide +kernel⟩ rfl rfl (Nat.le_of_ble_eq_true rfl) rfl dX4_mapFound_54 ⟨⟨by decide, by decide⟩, by decide, by decide⟩ (fun _ h => h.elim) ?_
        · omega
        · exact ⟨_, by exact hg⟩
        rintro _ _ ⟨rfl, rfl⟩
        refine gd_istore C dX4_mapFound_57 (Nat.le_of_ble_eq_true rfl) ?_
        refine gd_goto (tgt := 28) C dX4_mapFound_59 (by decide) ?_
        exact ih _ (by omega) (by omega) (by rw [hH]; exact hvF_t ⟨by omega, by omega⟩)
