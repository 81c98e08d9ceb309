set_option maxRecDepth 100000 in
set_option maxHeartbeats 4000000 in
theorem kX4_goalFor {l : Launch} {D : va_G} {ky : Nat → ClassId} {z : Nat} {w : WT} (hl : l.stackTraces = false) {b g t ar d : Nat} {ac ab : Int → Nat} {T : Int → Int} {v B : Int → Int → Int} {sc dn : Int} (hW : CW w ky b g t ar d ac ab T v B sc dn) (hI : CI T v B sc dn) {j x : Int} (hj : 0 ≤ j ∧ j < 16) (hx : 0 ≤ x ∧ x < 64) : Mt l D ky z yX4_goalFor wsX4_goalFor { frames := 1, cells := 0, slots := 0, locals := 21 } [.ref b, .ref (ac j), .int (iI x)] w (fun r w' => w = w' ∧ r = some (.int (iI (gF j (B j) x)))) (fun _ => False) := by
  refine Mt.of (cc := cX4_goalFor) (ret := (some .int)) (maxL := 4) (by decide) rfl (by intro v hv; simp at hv; rcases hv with rfl | rfl | rfl <;> rfl) (Nat.le_of_ble_eq_true rfl) ?_ hl
  intro p e s m args below meth c C htab hret hname Q hQ
  obtain ⟨hb, hg, ht, har, hfl, hdj⟩ := id hW
  obtain ⟨hi1, hi2, hi3, hi4⟩ := id hI
  have hfj := hfl j hj.1 hj.2
  have hfi := hi2 j hj.1 hj.2
  have hf10 := hfi.2.2.2.2.2.2.2.2.2
  refine gd_aload_n C dX4_goalFor_0 rfl ?_
  refine gd_iload_n C dX4_goalFor_1 rfl ?_
  refine gd_iconst C dX4_goalFor_2 ?_
  refine gd_isub C dX4_goalFor_3 ?_
  refine gd_callVN (n := 1) (ci := 0) (Cn := RX0) (T := TX0) (N := 11) (host := RX4) C (kX0_isMapped hl hfj.1 hfj.2 hf10 (q := x - 1) ?_) ?_ rfl gX4_goalFor_X0_isMapped_n254 rfl (by decide +kernel) (by decide +kernel) (by decide +kernel) (by decide +kernel) ⟨by decide, by decide, by decide +kernel⟩ rfl rfl (Nat.le_of_ble_eq_true rfl) rfl dX4_goalFor_4 ⟨⟨by decide, by decide⟩, by decide, by decide⟩ (fun _ h => h.elim) ?_
  · omega
  · exact ⟨_, by exact hfj.1⟩
  rintro _ _ ⟨b9, rfl, rfl, hb9⟩
  have hfx := hf10 (x - 1)
  refine gd_if_eq (tgt := 30) C dX4_goalFor_7 (by decide) ?_ (fun hc7 => ?_) (fun hc7 => ?_)
  · omega
  · refine gd_aload_n C dX4_goalFor_30 rfl ?_
    have hj0 : v j 0 = j := hfi.1
    apply gd_getN (host := RX4) (ci := 0) (Cn := RX0) (T := TX0) (N := 11) (ref := RX0) C rfl (by decide +kernel) 0 (by decide) (by decide +kernel) rfl dX4_goalFor_31
    · exact hfj.1
    · rfl
    refine gd_iconst C dX4_goalFor_34 ?_
    refine gd_irem C dX4_goalFor_35 ?_ ?_
    · omega
    refine gd_bipush C dX4_goalFor_36 (by decide) ?_
    refine gd_imul C dX4_goalFor_38 ?_
    refine gd_iret C hQ hret dX4_goalFor_39 ?_ ?_
    · exact ⟨rfl, by rw [show gF j (B j) x = j % 4 * 32 from if_neg (by omega), hj0]⟩
    · decide
  · refine gd_aload_n C dX4_goalFor_10 rfl ?_
    apply gd_getN (host := RX4) (ci := 0) (Cn := RX0) (T := TX0) (N := 11) (ref := RX0) C rfl (by decide +kernel) 1 (by decide) (by decide +kernel) rfl dX4_goalFor_11
    · exact hfj.1
    · rfl
    refine gd_iload_n C dX4_goalFor_14 rfl ?_
    refine gd_iconst C dX4_goalFor_15 ?_
    refine gd_isub C dX4_goalFor_16 ?_
    apply gd_iald C dX4_goalFor_17
    · exact hfj.2
    · decide
    · omega
    refine gd_iconst C dX4_goalFor_18 ?_
    refine gd_iadd C dX4_goalFor_19 ?_
    refine gd_istore_n C dX4_goalFor_20 (Nat.le_of_ble_eq_true rfl) ?_
    refine gd_iload_n C dX4_goalFor_21 rfl ?_
    refine gd_sipush C dX4_goalFor_22 (by decide) ?_
    refine gd_icmp_ge (tgt := 30) C dX4_goalFor_25 (by decide) ?_ ?_ (fun hc25 => ?_) (fun hc25 => ?_)
    · omega
    · omega
    · refine gd_aload_n C dX4_goalFor_30 rfl ?_
      have hj0 : v j 0 = j := hfi.1
      apply gd_getN (host := RX4) (ci := 0) (Cn := RX0) (T := TX0) (N := 11) (ref := RX0) C rfl (by decide +kernel) 0 (by decide) (by decide +kernel) rfl dX4_goalFor_31
      · exact hfj.1
      · rfl
      refine gd_iconst C dX4_goalFor_34 ?_
      refine gd_irem C dX4_goalFor_35 ?_ ?_
      · omega
      refine gd_bipush C dX4_goalFor_36 (by decide) ?_
      refine gd_imul C dX4_goalFor_38 ?_
      refine gd_iret C hQ hret dX4_goalFor_39 ?_ ?_
      · exact ⟨rfl, by rw [show gF j (B j) x = j % 4 * 32 from if_neg (by omega), hj0]⟩
      · decide
    · refine gd_iload_n C dX4_goalFor_28 rfl ?_
      refine gd_iret C hQ hret dX4_goalFor_29 ?_ ?_
      · exact ⟨rfl, by rw [show gF j (B j) x = B j (x - 1) + 1 from if_pos (by omega)]⟩
      · decide

set_option maxRecDepth 100000 in
set_option maxHeartbeats 4000000 in
theorem kX4_lengthFor {l : Launch} {D : va_G} {ky : Nat → ClassId} {z : Nat} {w : WT} (hl : l.stackTraces = false) {b g t ar d : Nat} {ac ab : Int → Nat} {T : Int → Int} {v B : Int → Int → Int} {sc dn : Int} (hW : CW w ky b g t ar d ac ab T v B sc dn) (hI : CI T v B sc dn) {x : Int} (hx : 1 ≤ x ∧ x ≤ 64) : Mt l D ky z yX4_lengthFor wsX4_lengthFor { frames := 2, cells := 0, slots := 0, locals := 42 } [.ref b, .int (iI x)] w (fun r w' => w = w' ∧ r = some (.int (iI (lnF x (128 - sI T 0 128 - sI (fun j => v j 4) 0 16))))) (fun _ => False) := by
  refine Mt.of (cc := cX4_lengthFor) (ret := (some .int)) (maxL := 3) (by decide) rfl (by intro v hv; simp at hv; rcases hv with rfl | rfl <;> rfl) (Nat.le_of_ble_eq_true rfl) ?_ hl
  intro p e s m args below meth c C htab hret hname Q hQ
  obtain ⟨hb, hg, ht, har, hfl, hdj⟩ := id hW
  obtain ⟨hi1, hi2, hi3, hi4⟩ := id hI
  refine gd_iconst C dX4_lengthFor_0 ?_
  refine gd_istore_n C dX4_lengthFor_1 (Nat.le_of_ble_eq_true rfl) ?_
  suffices hloop : ∀ (n9 : Nat) (i : Int), (i = 1 ∨ i = 2 ∨ i = 4 ∨ i = 8 ∨ i = 16) → (i = 1 ∨ i / 2 < x) → (16 - i).toNat = n9 → Gd p l e ({ frames := 2, cells := 0, slots := 0, locals := 42 }) s m args below meth c D z Q 0 0 w 2 [some (.ref b), some (.int (iI x)), some (.int (iI i))] [] from
    hloop _ 1 (by omega) (by omega) rfl
  intro n9
  induction n9 using Nat.strongRecOn with
  | _ n9 ih =>
  intro i h1i h2i hn
  refine gd_iload_n C dX4_lengthFor_2 rfl ?_
  refine gd_iload_n C dX4_lengthFor_3 rfl ?_
  refine gd_icmp_ge (tgt := 20) C dX4_lengthFor_4 (by decide) ?_ ?_ (fun hc4 => ?_) (fun hc4 => ?_)
  · omega
  · omega
  · refine gd_iload_n C dX4_lengthFor_20 rfl ?_
    refine gd_iload_n C dX4_lengthFor_21 rfl ?_
    refine gd_isub C dX4_lengthFor_22 ?_
    refine gd_aload_n C dX4_lengthFor_23 rfl ?_
    have hln : ln0 x = i := by unfold ln0; split <;> (try split) <;> (try split) <;> (try split) <;> omega
    obtain ⟨hsT, hsR, hsK⟩ := hI.bd
    refine gd_callV (n := 0) (ci := 4) (Cn := RX4) (T := TX4) (N := 5) C (kX4_left hl hW hI) ?_ rfl gX4_lengthFor_X4_left rfl ⟨rfl, by decide, by decide, by decide +kernel⟩ rfl rfl (Nat.le_of_ble_eq_true rfl) rfl dX4_lengthFor_24 ⟨⟨by decide, by decide⟩, by decide, by decide⟩ (fun _ h => h.elim) ?_
    · exact ⟨_, by first | assumption | exact wU_s _ _ _ | exact look1 (by assumption) (by assumption) | exact look2 (by assumption) (by assumption)⟩
    rintro _ _ ⟨rfl, rfl⟩
    refine gd_icmp_le (tgt := 36) C dX4_lengthFor_27 (by decide) ?_ ?_ (fun hc27 => ?_) (fun hc27 => ?_)
    · omega
    · omega
    · refine gd_iload_n C dX4_lengthFor_36 rfl ?_
      refine gd_iret C hQ hret dX4_lengthFor_37 ?_ ?_
      · first
          | exact ⟨rfl, by unfold lnF; rw [hln, if_pos (by omega)]⟩
          | exact ⟨rfl, by unfold lnF; rw [hln, if_neg (by omega)]⟩
      · decide
    · refine gd_iload_n C dX4_lengthFor_30 rfl ?_
      refine gd_iconst C dX4_lengthFor_31 ?_
      refine gd_idiv C dX4_lengthFor_32 ?_ ?_
      · omega
      refine gd_goto (tgt := 37) C dX4_lengthFor_33 (by decide) ?_
      refine gd_iret C hQ hret dX4_lengthFor_37 ?_ ?_
      · first
          | exact ⟨rfl, by unfold lnF; rw [hln, if_pos (by omega)]⟩
          | exact ⟨rfl, by unfold lnF; rw [hln, if_neg (by omega)]⟩
      · decide
  · refine gd_iload_n C dX4_lengthFor_7 rfl ?_
    refine gd_bipush C dX4_lengthFor_8 (by decide) ?_
    refine gd_icmp_ge (tgt := 20) C dX4_lengthFor_10 (by decide) ?_ ?_ (fun hc10 => ?_) (fun hc10 => ?_)
    · omega
    · omega
    · refine gd_iload_n C dX4_lengthFor_20 rfl ?_
      refine gd_iload_n C dX4_lengthFor_21 rfl ?_
      refine gd_isub C dX4_lengthFor_22 ?_
      refine gd_aload_n C dX4_lengthFor_23 rfl ?_
      have hln : ln0 x = i := by unfold ln0; split <;> (try split) <;> (try split) <;> (try split) <;> omega
      obtain ⟨hsT, hsR, hsK⟩ := hI.bd
      refine gd_callV (n := 0) (ci := 4) (Cn := RX4) (T := TX4) (N := 5) C (kX4_left hl hW hI) ?_ rfl gX4_lengthFor_X4_left rfl ⟨rfl, by decide, by decide, by decide +kernel⟩ rfl rfl (Nat.le_of_ble_eq_true rfl) rfl dX4_lengthFor_24 ⟨⟨by decide, by decide⟩, by decide, by decide⟩ (fun _ h => h.elim) ?_
      · exact ⟨_, by first | assumption | exact wU_s _ _ _ | exact look1 (by assumption) (by assumption) | exact look2 (by assumption) (by assumption)⟩
      rintro _ _ ⟨rfl, rfl⟩
      refine gd_icmp_le (tgt := 36) C dX4_lengthFor_27 (by decide) ?_ ?_ (fun hc27 => ?_) (fun hc27 => ?_)
      · omega
      · omega
      · refine gd_iload_n C dX4_lengthFor_36 rfl ?_
        refine gd_iret C hQ hret dX4_lengthFor_37 ?_ ?_
        · first
            | exact ⟨rfl, by unfold lnF; rw [hln, if_pos (by omega)]⟩
            | exact ⟨rfl, by unfold lnF; rw [hln, if_neg (by omega)]⟩
        · decide
      · refine gd_iload_n C dX4_lengthFor_30 rfl ?_
        refine gd_iconst C dX4_lengthFor_31 ?_
        refine gd_idiv C dX4_lengthFor_32 ?_ ?_
        · omega
        refine gd_goto (tgt := 37) C dX4_lengthFor_33 (by decide) ?_
        refine gd_iret C hQ hret dX4_lengthFor_37 ?_ ?_
        · first
            | exact ⟨rfl, by unfold lnF; rw [hln, if_pos (by omega)]⟩
            | exact ⟨rfl, by unfold lnF; rw [hln, if_neg (by omega)]⟩
        · decide
    · refine gd_iload_n C dX4_lengthFor_13 rfl ?_
      refine gd_iconst C dX4_lengthFor_14 ?_
      refine gd_imul C dX4_lengthFor_15 ?_
      refine gd_istore_n C dX4_lengthFor_16 (Nat.le_of_ble_eq_true rfl) ?_
      refine gd_goto (tgt := 2) C dX4_lengthFor_17 (by decide) ?_
      exact ih _ (by omega) (i * 2) (by omega) (by omega) rfl
