set_option maxRecDepth 100000 in
set_option maxHeartbeats 4000000 in
theorem kX4_close {l : Launch} {D : va_G} {ky : Nat → ClassId} {z : Nat} {w : WT} (hl : l.stackTraces = false) {b g t ar d : Nat} {ac ab : Int → Nat} {T : Int → Int} {v B : Int → Int → Int} {sc dn : Int} (hW : CW w ky b g t ar d ac ab T v B sc dn) (hI : CI T v B sc dn) {q : Int} (hq : InR q) : Mt l D ky z yX4_close wsX4_close { frames := 7, cells := 3, slots := 18, locals := 154 } [.ref b, .int (iI q)] w (fun r w' => (0 ≤ q ∧ q < 16 ∧ v q 2 = 1) ∧ dn = 0 ∧ 0 < v q 3 ∧ ((¬ (v q 9 = 1 ∧ v q 3 = 1) ∧ r = some (.int (iI (v q 3 - 1))) ∧ CW w' ky b g t ar d ac ab (T) ((fU v q (fU (v q) 3 (v q 3 - 1)))) (B) (sc) (dn) ∧ CI (T) ((fU v q (fU (v q) 3 (v q 3 - 1)))) (B) (sc) (dn) ∧ FrC w w' b g t ac ab) ∨ (v q 9 = 1 ∧ v q 3 = 1 ∧ (((ctS 0 (64 - (0 : Int)).toNat (tkF T ((fU v q (fU (v q) 3 (v q 3 - 1))) q 6) ((fU v q (fU (v q) 3 (v q 3 - 1))) q 7) 0) (drF (B q) 0 64) sc 0).1 = 1 ∧ r = some (.int (iI (-1))) ∧ CW w' ky b g t ar d ac ab (rlT (fU (fU v q (fU (v q) 3 (v q 3 - 1))) q (ctU ((fU v q (fU (v q) 3 (v q 3 - 1))) q) (B q) 0)) (ctS 0 (64 - (0 : Int)).toNat (tkF T ((fU v q (fU (v q) 3 (v q 3 - 1))) q 6) ((fU v q (fU (v q) 3 (v q 3 - 1))) q 7) 0) (drF (B q) 0 64) sc 0).2.1 16) (flV (rlV (fU (fU v q (fU (v q) 3 (v q 3 - 1))) q (ctU ((fU v q (fU (v q) 3 (v q 3 - 1))) q) (B q) 0)) 16) 16) (flB (fU B q (ctS 0 (64 - (0 : Int)).toNat (tkF T ((fU v q (fU (v q) 3 (v q 3 - 1))) q 6) ((fU v q (fU (v q) 3 (v q 3 - 1))) q 7) 0) (drF (B q) 0 64) sc 0).2.2.1) 16) (-1) (1) ∧ CI (rlT (fU (fU v q (fU (v q) 3 (v q 3 - 1))) q (ctU ((fU v q (fU (v q) 3 (v q 3 - 1))) q) (B q) 0)) (ctS 0 (64 - (0 : Int)).toNat (tkF T ((fU v q (fU (v q) 3 (v q 3 - 1))) q 6) ((fU v q (fU (v q) 3 (v q 3 - 1))) q 7) 0) (drF (B q) 0 64) sc 0).2.1 16) (flV (rlV (fU (fU v q (fU (v q) 3 (v q 3 - 1))) q (ctU ((fU v q (fU (v q) 3 (v q 3 - 1))) q) (B q) 0)) 16) 16) (flB (fU B q (ctS 0 (64 - (0 : Int)).toNat (tkF T ((fU v q (fU (v q) 3 (v q 3 - 1))) q 6) ((fU v q (fU (v q) 3 (v q 3 - 1))) q 7) 0) (drF (B q) 0 64) sc 0).2.2.1) 16) (-1) (1) ∧ FrC w w' b g t ac ab) ∨ ((ctS 0 (64 - (0 : Int)).toNat (tkF T ((fU v q (fU (v q) 3 (v q 3 - 1))) q 6) ((fU v q (fU (v q) 3 (v q 3 - 1))) q 7) 0) (drF (B q) 0 64) sc 0).1 = 0 ∧ r = some (.int (iI 0)) ∧ CW w' ky b g t ar d ac ab ((ctS 0 (64 - (0 : Int)).toNat (tkF T ((fU v q (fU (v q) 3 (v q 3 - 1))) q 6) ((fU v q (fU (v q) 3 (v q 3 - 1))) q 7) 0) (drF (B q) 0 64) sc 0).2.1) (fU (fU v q (fU (v q) 3 (v q 3 - 1))) q (fU (fU (fU (fU (ctU ((fU v q (fU (v q) 3 (v q 3 - 1))) q) (B q) 0) 8 ((fU v q (fU (v q) 3 (v q 3 - 1))) q 9)) 2 0) 8 0) 9 0)) (fU B q (ctS 0 (64 - (0 : Int)).toNat (tkF T ((fU v q (fU (v q) 3 (v q 3 - 1))) q 6) ((fU v q (fU (v q) 3 (v q 3 - 1))) q 7) 0) (drF (B q) 0 64) sc 0).2.2.1) ((ctS 0 (64 - (0 : Int)).toNat (tkF T ((fU v q (fU (v q) 3 (v q 3 - 1))) q 6) ((fU v q (fU (v q) 3 (v q 3 - 1))) q 7) 0) (drF (B q) 0 64) sc 0).2.2.2.1) (dn) ∧ CI ((ctS 0 (64 - (0 : Int)).toNat (tkF T ((fU v q (fU (v q) 3 (v q 3 - 1))) q 6) ((fU v q (fU (v q) 3 (v q 3 - 1))) q 7) 0) (drF (B q) 0 64) sc 0).2.1) (fU (fU v q (fU (v q) 3 (v q 3 - 1))) q (fU (fU (fU (fU (ctU ((fU v q (fU (v q) 3 (v q 3 - 1))) q) (B q) 0) 8 ((fU v q (fU (v q) 3 (v q 3 - 1))) q 9)) 2 0) 8 0) 9 0)) (fU B q (ctS 0 (64 - (0 : Int)).toNat (tkF T ((fU v q (fU (v q) 3 (v q 3 - 1))) q 6) ((fU v q (fU (v q) 3 (v q 3 - 1))) q 7) 0) (drF (B q) 0 64) sc 0).2.2.1) ((ctS 0 (64 - (0 : Int)).toNat (tkF T ((fU v q (fU (v q) 3 (v q 3 - 1))) q 6) ((fU v q (fU (v q) 3 (v q 3 - 1))) q 7) 0) (drF (B q) 0 64) sc 0).2.2.2.1) (dn) ∧ FrC w w' b g t ac ab))))) (fun E => (E = "java/lang/IndexOutOfBoundsException" ∧ ¬ (0 ≤ q ∧ q < 16 ∧ v q 2 = 1)) ∨ (E = "java/lang/IllegalStateException" ∧ (0 ≤ q ∧ q < 16 ∧ v q 2 = 1) ∧ (dn = 1 ∨ v q 3 = 0))) := by
  refine Mt.of (cc := cX4_close) (ret := (some .int)) (maxL := 3) (by decide) rfl (by intro v hv; simp at hv; rcases hv with rfl | rfl <;> rfl) (Nat.le_of_ble_eq_true rfl) ?_ hl
  intro p e s m args below meth c C htab hret hname Q hQ
  obtain ⟨hb, hg, ht, har, hfl, hdj⟩ := id hW
  obtain ⟨hi1, hi2, hi3, hi4⟩ := id hI
  refine gd_aload_n C dX4_close_0 rfl ?_
  refine gd_iload_n C dX4_close_1 rfl ?_
  refine gd_callV (n := 1) (ci := 4) (Cn := RX4) (T := TX4) (N := 5) C (kX4_requireContent hl hW hI (q := q) ?_) ?_ rfl gX4_close_X4_requireContent rfl ⟨rfl, by decide, by decide, by decide +kernel⟩ rfl rfl (Nat.le_of_ble_eq_true rfl) rfl dX4_close_2 ⟨⟨by decide, by decide⟩, by decide, by decide⟩ (fun E h => gx_out C hQ htab (Or.inl ⟨h.1, h.2⟩) (by decide) (by decide)) ?_
  · omega
  · exact ⟨_, by first | assumption | exact wU_s _ _ _ | exact look1 (by assumption) (by assumption) | exact look2 (by assumption) (by assumption)⟩
  rintro _ _ ⟨rfl, rfl, hq1, hq2, hq3⟩
  have hfi := hi2 q hq1 hq2
  unfold FI at hfi
  have hfq := hfl q hq1 hq2
  refine gd_astore_n C dX4_close_5 (Nat.le_of_ble_eq_true rfl) ?_
  refine gd_aload_n C dX4_close_6 rfl ?_
  refine gd_callV (n := 0) (ci := 4) (Cn := RX4) (T := TX4) (N := 5) C (kX4_requireUp hl hW hI) ?_ rfl gX4_close_X4_requireUp rfl ⟨rfl, by decide, by decide, by decide +kernel⟩ rfl rfl (Nat.le_of_ble_eq_true rfl) rfl dX4_close_7 ⟨⟨by decide, by decide⟩, by decide, by decide⟩ (fun E h => gx_out C hQ htab (Or.inr ⟨h.1, by omega, Or.inl h.2⟩) (by decide) (by decide)) ?_
  · exact ⟨_, by first | assumption | exact wU_s _ _ _ | exact look1 (by assumption) (by assumption) | exact look2 (by assumption) (by assumption)⟩
  rintro _ _ ⟨rfl, rfl, hup⟩
  refine gd_aload_n C dX4_close_10 rfl ?_
  apply gd_getN (host := RX4) (ci := 0) (Cn := RX0) (T := TX0) (N := 11) (ref := RX0) C rfl (by decide +kernel) 3 (by decide) (by decide +kernel) rfl dX4_close_11
  · exact hfq.1
  · rfl
  refine gd_if_ne (tgt := 27) C dX4_close_14 (by decide) ?_ (fun hc14 => ?_) (fun hc14 => ?_)
  · omega
  · refine gd_aload_n C dX4_close_27 rfl ?_
    refine gd_dup C dX4_close_28 rfl ?_
    apply gd_getN (host := RX4) (ci := 0) (Cn := RX0) (T := TX0) (N := 11) (ref := RX0) C rfl (by decide +kernel) 3 (by decide) (by decide +kernel) rfl dX4_close_29
    · exact hfq.1
    · rfl
    refine gd_iconst C dX4_close_32 ?_
    refine gd_isub C dX4_close_33 ?_
    apply gd_putCN (host := RX4) C (by decide +kernel) 3 3 rfl (by decide) (by decide) (by decide +kernel) rfl dX4_close_34
    · exact hfq.1
    · exact fun h => nomatch h
    refine gd_aload_n C dX4_close_37 rfl ?_
    obtain ⟨hW1, hF1⟩ := hW.setV (j := q) ⟨hq1, hq2⟩ (wU_s w (ac q) (cC (ab q) (fU (v q) 3 (v q 3 - 1)))) (fun y1 h1 => wU_n h1)
    have hI1 := hI.setV (j := q) (V := fU (v q) 3 (v q 3 - 1)) ((hi2 q hq1 hq2).op (by omega))
    have hu3 : fU (v q) 3 (v q 3 - 1) 3 = v q 3 - 1 := fU_s _ _ _
    have hu9 : fU (v q) 3 (v q 3 - 1) 9 = v q 9 := fU_n (by decide)
    apply gd_getN (host := RX4) (ci := 0) (Cn := RX0) (T := TX0) (N := 11) (ref := RX0) C rfl (by decide +kernel) 9 (by decide) (by decide +kernel) rfl dX4_close_38
    · exact wU_s _ _ _
    · rfl
    refine gd_if_eq (tgt := 61) C dX4_close_41 (by decide) ?_ (fun hc41 => ?_) (fun hc41 => ?_)
    · omega
    · refine gd_aload_n C dX4_close_61 rfl ?_
      apply gd_getN (host := RX4) (ci := 0) (Cn := RX0) (T := TX0) (N := 11) (ref := RX0) C rfl (by decide +kernel) 3 (by decide) (by decide +kernel) rfl dX4_close_62
      · exact wU_s _ _ _
      · rfl
      refine gd_iret C hQ hret dX4_close_65 ?_ ?_
      · exact ⟨⟨hq1, hq2, hq3⟩, hup, by omega, Or.inl ⟨by omega, by rw [hu3], hW1, hI1, hF1⟩⟩
      · decide
    · refine gd_aload_n C dX4_close_44 rfl ?_
      apply gd_getN (host := RX4) (ci := 0) (Cn := RX0) (T := TX0) (N := 11) (ref := RX0) C rfl (by decide +kernel) 3 (by decide) (by decide +kernel) rfl dX4_close_45
      · exact wU_s _ _ _
      · rfl
      refine gd_if_ne (tgt := 61) C dX4_close_48 (by decide) ?_ (fun hc48 => ?_) (fun hc48 => ?_)
      · omega
      · refine gd_aload_n C dX4_close_61 rfl ?_
        apply gd_getN (host := RX4) (ci := 0) (Cn := RX0) (T := TX0) (N := 11) (ref := RX0) C rfl (by decide +kernel) 3 (by decide) (by decide +kernel) rfl dX4_close_62
        · exact wU_s _ _ _
        · rfl
        refine gd_iret C hQ hret dX4_close_65 ?_ ?_
        · exact ⟨⟨hq1, hq2, hq3⟩, hup, by omega, Or.inl ⟨by omega, by rw [hu3], hW1, hI1, hF1⟩⟩
        · decide
      · refine gd_aload_n C dX4_close_51 rfl ?_
        refine gd_aload_n C dX4_close_52 rfl ?_
        refine gd_callV (n := 1) (ci := 4) (Cn := RX4) (T := TX4) (N := 5) C (kX4_erase hl hW1 hI1 (j := q) ⟨hq1, hq2⟩) ?_ rfl gX4_close_X4_erase rfl ⟨rfl, by decide, by decide, by decide +kernel⟩ rfl rfl (Nat.le_of_ble_eq_true rfl) rfl dX4_close_53 ⟨⟨by decide, by decide⟩, by decide, by decide⟩ (fun _ h => h.elim) ?_
        · exact ⟨_, by exact hW1.1⟩
        rintro _ w2 ⟨x, rfl, hx⟩
        have hx01 : x = 0 ∨ x = 1 := by rcases hx with hx | hx <;> omega
        refine gd_if_ne (tgt := 61) C dX4_close_56 (by decide) ?_ (fun hc56 => ?_) (fun hc56 => ?_)
        · omega
        · have hfq2 : w2 (ac q) = some (cC (ab q) (fU (fU (fU (fU (ctU ((fU v q (fU (v q) 3 (v q 3 - 1))) q) (B q) 0) 8 ((fU v q (fU (v q) 3 (v q 3 - 1))) q 9)) 2 0) 8 0) 9 0)) := by
            rcases hx with hx | hx
            · exfalso; omega
            · have h9 := (hx.2.2.1.2.2.2.2.1 q hq1 hq2).1
              rwa [fU_s] at h9
          refine gd_aload_n C dX4_close_61 rfl ?_
          apply gd_getN (host := RX4) (ci := 0) (Cn := RX0) (T := TX0) (N := 11) (ref := RX0) C rfl (by decide +kernel) 3 (by decide) (by decide +kernel) rfl dX4_close_62
          · exact hfq2
          · rfl
          refine gd_iret C hQ hret dX4_close_65 ?_ ?_
          · refine ⟨⟨hq1, hq2, hq3⟩, hup, by omega, Or.inr ⟨by omega, by omega, Or.inr ?_⟩⟩
            rcases hx with hx | hx
            · exfalso; omega
            · refine ⟨hx.2.1, ?_, hx.2.2.1, hx.2.2.2.1, hF1.tr hx.2.2.2.2⟩
              have e3 : fU (fU (fU (fU (ctU (fU v q (fU (v q) 3 (v q 3 - 1)) q) (B q) 0) 8 (fU v q (fU (v q) 3 (v q 3 - 1)) q 9)) 2 0) 8 0) 9 0 3 = fU v q (fU (v q) 3 (v q 3 - 1)) q 3 := rfl
              rw [e3, fU_s, hu3, show v q 3 - 1 = 0 by omega]
          · decide
        · refine gd_iconst C dX4_close_59 ?_
          refine gd_iret C hQ hret dX4_close_60 ?_ ?_
          · refine ⟨⟨hq1, hq2, hq3⟩, hup, by omega, Or.inr ⟨by omega, by omega, ?_⟩⟩
            rcases hx with hx | hx
            · exact Or.inl ⟨hx.2.1, rfl, hx.2.2.1, hx.2.2.2.1, hF1.tr hx.2.2.2.2⟩
            · exfalso; omega
          · decide
  · refine gd_throw (cls := "java/lang/IllegalStateException") (text := "the file is not open") (ik := 58) (is := 82) (ic := 62) C hQ htab (by decide +kernel) (by decide +kernel) (by decide +kernel) (by decide +kernel) (by decide +kernel) (by decide +kernel) (by decide +kernel) dX4_close_17 dX4_close_20 dX4_close_21 dX4_close_23 dX4_close_26 rfl ?_ ⟨⟨by decide, Nat.le_of_ble_eq_true rfl, by decide, by decide⟩, by decide, by decide⟩
    · exact Or.inr ⟨rfl, by omega, Or.inr (by omega)⟩

set_option maxRecDepth 100000 in
set_option maxHeartbeats 4000000 in
theorem kX4_delete {l : Launch} {D : va_G} {ky : Nat → ClassId} {z : Nat} {w : WT} (hl : l.stackTraces = false) {b g t ar d : Nat} {ac ab : Int → Nat} {T : Int → Int} {v B : Int → Int → Int} {sc dn : Int} (hW : CW w ky b g t ar d ac ab T v B sc dn) (hI : CI T v B sc dn) {la na fa : Int → Nat} {n : Int} {lo co ct : Int → Int} {nm fl : Int → Int → Int} (hD : DW w ky d la na fa n lo co ct nm fl) (hR : DR n lo co ct nm fl) {q : Int} (hq : InR q) : Mt l D ky z yX4_delete wsX4_delete { frames := 8, cells := 3, slots := 18, locals := 154 } [.ref b, .int (iI q)] w (fun r w' => (0 ≤ q ∧ q ≤ 999) ∧ dn = 0 ∧ 0 ≤ (dF n lo co ct nm fl q) ∧ ((v (dF n lo co ct nm fl q) 3 ≠ 0 ∧ r = some (.int (iI (dF n lo co ct nm fl q))) ∧ CW w' ky b g t ar d ac ab (T) ((fU v (dF n lo co ct nm fl q) (fU (fU (v (dF n lo co ct nm fl q)) 8 1) 9 1))) (B) (sc) (dn) ∧ CI (T) ((fU v (dF n lo co ct nm fl q) (fU (fU (v (dF n lo co ct nm fl q)) 8 1) 9 1))) (B) (sc) (dn) ∧ DW w' ky d la na fa n lo co (fU ct (lLk n lo co ct nm q) (ct (lLk n lo co ct nm q) - 1)) (fU nm (lLk n lo co ct nm q) (rmF (nm (lLk n lo co ct nm q)) (fF (fun j => nm (lLk n lo co ct nm q) j = q) 0 (ct (lLk n lo co ct nm q))) (ct (lLk n lo co ct nm q)))) (fU fl (lLk n lo co ct nm q) (rmF (fl (lLk n lo co ct nm q)) (fF (fun j => nm (lLk n lo co ct nm q) j = q) 0 (ct (lLk n lo co ct nm q))) (ct (lLk n lo co ct nm q)))) ∧ FrA w w' b g t d ac ab la na fa n) ∨ (v (dF n lo co ct nm fl q) 3 = 0 ∧ (ctS 0 (64 - (0 : Int)).toNat (tkF T ((fU v (dF n lo co ct nm fl q) (fU (fU (v (dF n lo co ct nm fl q)) 8 1) 9 1)) (dF n lo co ct nm fl q) 6) ((fU v (dF n lo co ct nm fl q) (fU (fU (v (dF n lo co ct nm fl q)) 8 1) 9 1)) (dF n lo co ct nm fl q) 7) 0) (drF (B (dF n lo co ct nm fl q)) 0 64) sc 0).1 = 1 ∧ r = some (.int (iI (-1))) ∧ CW w' ky b g t ar d ac ab (rlT (fU (fU v (dF n lo co ct nm fl q) (fU (fU (v (dF n lo co ct nm fl q)) 8 1) 9 1)) (dF n lo co ct nm fl q) (ctU ((fU v (dF n lo co ct nm fl q) (fU (fU (v (dF n lo co ct nm fl q)) 8 1) 9 1)) (dF n lo co ct nm fl q)) (B (dF n lo co ct nm fl q)) 0)) (ctS 0 (64 - (0 : Int)).toNat (tkF T ((fU v (dF n lo co ct nm fl q) (fU (fU (v (dF n lo co ct nm fl q)) 8 1) 9 1)) (dF n lo co ct nm fl q) 6) ((fU v (dF n lo co ct nm fl q) (fU (fU (v (dF n lo co ct nm fl q)) 8 1) 9 1)) (dF n lo co ct nm fl q) 7) 0) (drF (B (dF n lo co ct nm fl q)) 0 64) sc 0).2.1 16) (flV (rlV (fU (fU v (dF n lo co ct nm fl q) (fU (fU (v (dF n lo co ct nm fl q)) 8 1) 9 1)) (dF n lo co ct nm fl q) (ctU ((fU v (dF n lo co ct nm fl q) (fU (fU (v (dF n lo co ct nm fl q)) 8 1) 9 1)) (dF n lo co ct nm fl q)) (B (dF n lo co ct nm fl q)) 0)) 16) 16) (flB (fU B (dF n lo co ct nm fl q) (ctS 0 (64 - (0 : Int)).toNat (tkF T ((fU v (dF n lo co ct nm fl q) (fU (fU (v (dF n lo co ct nm fl q)) 8 1) 9 1)) (dF n lo co ct nm fl q) 6) ((fU v (dF n lo co ct nm fl q) (fU (fU (v (dF n lo co ct nm fl q)) 8 1) 9 1)) (dF n lo co ct nm fl q) 7) 0) (drF (B (dF n lo co ct nm fl q)) 0 64) sc 0).2.2.1) 16) (-1) (1) ∧ CI (rlT (fU (fU v (dF n lo co ct nm fl q) (fU (fU (v (dF n lo co ct nm fl q)) 8 1) 9 1)) (dF n lo co ct nm fl q) (ctU ((fU v (dF n lo co ct nm fl q) (fU (fU (v (dF n lo co ct nm fl q)) 8 1) 9 1)) (dF n lo co ct nm fl q)) (B (dF n lo co ct nm fl q)) 0)) (ctS 0 (64 - (0 : Int)).toNat (tkF T ((fU v (dF n lo co ct nm fl q) (fU (fU (v (dF n lo co ct nm fl q)) 8 1) 9 1)) (dF n lo co ct nm fl q) 6) ((fU v (dF n lo co ct nm fl q) (fU (fU (v (dF n lo co ct nm fl q)) 8 1) 9 1)) (dF n lo co ct nm fl q) 7) 0) (drF (B (dF n lo co ct nm fl q)) 0 64) sc 0).2.1 16) (flV (rlV (fU (fU v (dF n lo co ct nm fl q) (fU (fU (v (dF n lo co ct nm fl q)) 8 1) 9 1)) (dF n lo co ct nm fl q) (ctU ((fU v (dF n lo co ct nm fl q) (fU (fU (v (dF n lo co ct nm fl q)) 8 1) 9 1)) (dF n lo co ct nm fl q)) (B (dF n lo co ct nm fl q)) 0)) 16) 16) (flB (fU B (dF n lo co ct nm fl q) (ctS 0 (64 - (0 : Int)).toNat (tkF T ((fU v (dF n lo co ct nm fl q) (fU (fU (v (dF n lo co ct nm fl q)) 8 1) 9 1)) (dF n lo co ct nm fl q) 6) ((fU v (dF n lo co ct nm fl q) (fU (fU (v (dF n lo co ct nm fl q)) 8 1) 9 1)) (dF n lo co ct nm fl q) 7) 0) (drF (B (dF n lo co ct nm fl q)) 0 64) sc 0).2.2.1) 16) (-1) (1) ∧ DW w' ky d la na fa n lo co (fU ct (lLk n lo co ct nm q) (ct (lLk n lo co ct nm q) - 1)) (fU nm (lLk n lo co ct nm q) (rmF (nm (lLk n lo co ct nm q)) (fF (fun j => nm (lLk n lo co ct nm q) j = q) 0 (ct (lLk n lo co ct nm q))) (ct (lLk n lo co ct nm q)))) (fU fl (lLk n lo co ct nm q) (rmF (fl (lLk n lo co ct nm q)) (fF (fun j => nm (lLk n lo co ct nm q) j = q) 0 (ct (lLk n lo co ct nm q))) (ct (lLk n lo co ct nm q)))) ∧ FrA w w' b g t d ac ab la na fa n) ∨ (v (dF n lo co ct nm fl q) 3 = 0 ∧ (ctS 0 (64 - (0 : Int)).toNat (tkF T ((fU v (dF n lo co ct nm fl q) (fU (fU (v (dF n lo co ct nm fl q)) 8 1) 9 1)) (dF n lo co ct nm fl q) 6) ((fU v (dF n lo co ct nm fl q) (fU (fU (v (dF n lo co ct nm fl q)) 8 1) 9 1)) (dF n lo co ct nm fl q) 7) 0) (drF (B (dF n lo co ct nm fl q)) 0 64) sc 0).1 = 0 ∧ r = some (.int (iI (dF n lo co ct nm fl q))) ∧ CW w' ky b g t ar d ac ab ((ctS 0 (64 - (0 : Int)).toNat (tkF T ((fU v (dF n lo co ct nm fl q) (fU (fU (v (dF n lo co ct nm fl q)) 8 1) 9 1)) (dF n lo co ct nm fl q) 6) ((fU v (dF n lo co ct nm fl q) (fU (fU (v (dF n lo co ct nm fl q)) 8 1) 9 1)) (dF n lo co ct nm fl q) 7) 0) (drF (B (dF n lo co ct nm fl q)) 0 64) sc 0).2.1) (fU (fU v (dF n lo co ct nm fl q) (fU (fU (v (dF n lo co ct nm fl q)) 8 1) 9 1)) (dF n lo co ct nm fl q) (fU (fU (fU (fU (ctU ((fU v (dF n lo co ct nm fl q) (fU (fU (v (dF n lo co ct nm fl q)) 8 1) 9 1)) (dF n lo co ct nm fl q)) (B (dF n lo co ct nm fl q)) 0) 8 ((fU v (dF n lo co ct nm fl q) (fU (fU (v (dF n lo co ct nm fl q)) 8 1) 9 1)) (dF n lo co ct nm fl q) 9)) 2 0) 8 0) 9 0)) (fU B (dF n lo co ct nm fl q) (ctS 0 (64 - (0 : Int)).toNat (tkF T ((fU v (dF n lo co ct nm fl q) (fU (fU (v (dF n lo co ct nm fl q)) 8 1) 9 1)) (dF n lo co ct nm fl q) 6) ((fU v (dF n lo co ct nm fl q) (fU (fU (v (dF n lo co ct nm fl q)) 8 1) 9 1)) (dF n lo co ct nm fl q) 7) 0) (drF (B (dF n lo co ct nm fl q)) 0 64) sc 0).2.2.1) ((ctS 0 (64 - (0 : Int)).toNat (tkF T ((fU v (dF n lo co ct nm fl q) (fU (fU (v (dF n lo co ct nm fl q)) 8 1) 9 1)) (dF n lo co ct nm fl q) 6) ((fU v (dF n lo co ct nm fl q) (fU (fU (v (dF n lo co ct nm fl q)) 8 1) 9 1)) (dF n lo co ct nm fl q) 7) 0) (drF (B (dF n lo co ct nm fl q)) 0 64) sc 0).2.2.2.1) (dn) ∧ CI ((ctS 0 (64 - (0 : Int)).toNat (tkF T ((fU v (dF n lo co ct nm fl q) (fU (fU (v (dF n lo co ct nm fl q)) 8 1) 9 1)) (dF n lo co ct nm fl q) 6) ((fU v (dF n lo co ct nm fl q) (fU (fU (v (dF n lo co ct nm fl q)) 8 1) 9 1)) (dF n lo co ct nm fl q) 7) 0) (drF (B (dF n lo co ct nm fl q)) 0 64) sc 0).2.1) (fU (fU v (dF n lo co ct nm fl q) (fU (fU (v (dF n lo co ct nm fl q)) 8 1) 9 1)) (dF n lo co ct nm fl q) (fU (fU (fU (fU (ctU ((fU v (dF n lo co ct nm fl q) (fU (fU (v (dF n lo co ct nm fl q)) 8 1) 9 1)) (dF n lo co ct nm fl q)) (B (dF n lo co ct nm fl q)) 0) 8 ((fU v (dF n lo co ct nm fl q) (fU (fU (v (dF n lo co ct nm fl q)) 8 1) 9 1)) (dF n lo co ct nm fl q) 9)) 2 0) 8 0) 9 0)) (fU B (dF n lo co ct nm fl q) (ctS 0 (64 - (0 : Int)).toNat (tkF T ((fU v (dF n lo co ct nm fl q) (fU (fU (v (dF n lo co ct nm fl q)) 8 1) 9 1)) (dF n lo co ct nm fl q) 6) ((fU v (dF n lo co ct nm fl q) (fU (fU (v (dF n lo co ct nm fl q)) 8 1) 9 1)) (dF n lo co ct nm fl q) 7) 0) (drF (B (dF n lo co ct nm fl q)) 0 64) sc 0).2.2.1) ((ctS 0 (64 - (0 : Int)).toNat (tkF T ((fU v (dF n lo co ct nm fl q) (fU (fU (v (dF n lo co ct nm fl q)) 8 1) 9 1)) (dF n lo co ct nm fl q) 6) ((fU v (dF n lo co ct nm fl q) (fU (fU (v (dF n lo co ct nm fl q)) 8 1) 9 1)) (dF n lo co ct nm fl q) 7) 0) (drF (B (dF n lo co ct nm fl q)) 0 64) sc 0).2.2.2.1) (dn) ∧ DW w' ky d la na fa n lo co (fU ct (lLk n lo co ct nm q) (ct (lLk n lo co ct nm q) - 1)) (fU nm (lLk n lo co ct nm q) (rmF (nm (lLk n lo co ct nm q)) (fF (fun j => nm (lLk n lo co ct nm q) j = q) 0 (ct (lLk n lo co ct nm q))) (ct (lLk n lo co ct nm q)))) (fU fl (lLk n lo co ct nm q) (rmF (fl (lLk n lo co ct nm q)) (fF (fun j => nm (lLk n lo co ct nm q) j = q) 0 (ct (lLk n lo co ct nm q))) (ct (lLk n lo co ct nm q)))) ∧ FrA w w' b g t d ac ab la na fa n))) (fun E => (E = "java/lang/IllegalArgumentException" ∧ ¬ (0 ≤ q ∧ q ≤ 999)) ∨ (E = "java/lang/IllegalStateException" ∧ (0 ≤ q ∧ q ≤ 999) ∧ (dn = 1 ∨ (dF n lo co ct nm fl q) = -1))) := by
  refine Mt.of (cc := cX4_delete) (ret := (some .int)) (maxL := 4) (by decide) rfl (by intro v hv; simp at hv; rcases hv with rfl | rfl <;> rfl) (Nat.le_of_ble_eq_true rfl) ?_ hl
  intro p e s m args below meth c C htab hret hname Q hQ
  obtain ⟨hb, hg, ht, har, hfl, hdj⟩ := id hW
  obtain ⟨hi1, hi2, hi3, hi4⟩ := id hI
  refine gd_iload_n C dX4_delete_0 rfl ?_
  refine gd_callS (n := 1) C (kX4_requireName hl (q := q) ?_) gX4_delete_X4_requireName rfl ⟨by decide, by decide, by decide +kernel⟩ rfl rfl (Nat.le_of_ble_eq_true rfl) rfl dX4_delete_1 ⟨⟨by decide, by decide⟩, by decide, by decide⟩ (fun E h => gx_out C hQ htab (Or.inl ⟨h.1, h.2⟩) (by decide) (by decide)) ?_
  · omega
  rintro _ _ ⟨rfl, rfl, hn1, hn2⟩
  refine gd_aload_n C dX4_delete_4 rfl ?_
  refine gd_callV (n := 0) (ci := 4) (Cn := RX4) (T := TX4) (N := 5) C (kX4_requireUp hl hW hI) ?_ rfl gX4_delete_X4_requireUp rfl ⟨rfl, by decide, by decide, by decide +kernel⟩ rfl rfl (Nat.le_of_ble_eq_true rfl) rfl dX4_delete_5 ⟨⟨by decide, by decide⟩, by decide, by decide⟩ (fun E h => gx_out C hQ htab (Or.inr ⟨h.1, by omega, Or.inl h.2⟩) (by decide) (by decide)) ?_
  · exact ⟨_, by first | assumption | exact wU_s _ _ _ | exact look1 (by assumption) (by assumption) | exact look2 (by assumption) (by assumption)⟩
  rintro _ _ ⟨rfl, rfl, hup⟩
  refine gd_aload_n C dX4_delete_8 rfl ?_
  refine gd_iload_n C dX4_delete_9 rfl ?_
  refine gd_callV (n := 1) (ci := 4) (Cn := RX4) (T := TX4) (N := 5) C (kX4_requireFileWith hl hW hI hD hR (q := q) ⟨hn1, hn2⟩) ?_ rfl gX4_delete_X4_requireFileWith rfl ⟨rfl, by decide, by decide, by decide +kernel⟩ rfl rfl (Nat.le_of_ble_eq_true rfl) rfl dX4_delete_10 ⟨⟨by decide, by decide⟩, by decide, by decide⟩ (fun E h => gx_out C hQ htab (Or.inr ⟨h.1, by omega, Or.inr h.2⟩) (by decide) (by decide)) ?_
  · exact ⟨_, by first | assumption | exact wU_s _ _ _ | exact look1 (by assumption) (by assumption) | exact look2 (by assumption) (by assumption)⟩
  rintro _ _ ⟨rfl, rfl, hx0⟩
  have hx1 := (dF_bd hR q).2
  have hp0 : 0 ≤ (fF (fun j => nm (lLk n lo co ct nm q) j = q) 0 (ct (lLk n lo co ct nm q))) := by
    unfold dF at hx0
    split at hx0
    · assumption
    · omega
  have hpc : (fF (fun j => nm (lLk n lo co ct nm q) j = q) 0 (ct (lLk n lo co ct nm q))) < ct (lLk n lo co ct nm q) := by
    rcases fF_spec (P := fun j => nm (lLk n lo co ct nm q) j = q) (b := ct (lLk n lo co ct nm q)) _ 0 rfl with h9 | h9 <;> omega
  have hJb := lLk_bd lo co ct nm q hR.1.1
  have hJ0 := (fLk_bd lo co q hR.1.1).1
  generalize hxe : dF n lo co ct nm fl q = x at hx0 hx1 ⊢
  have hfq := hfl x hx0 (by omega)
  refine gd_istore_n C dX4_delete_13 (Nat.le_of_ble_eq_true rfl) ?_
  refine gd_aload_n C dX4_delete_14 rfl ?_
  apply gd_get (ci := 4) (Cn := RX4) (T := TX4) (N := 5) (ref := RX4) C rfl (by decide +kernel) 2 (by decide) (by decide +kernel) rfl dX4_delete_15
  · first | assumption | exact (hfl _ (by omega) (by omega)).1 | exact (hfl _ (by omega) (by omega)).2 | exact wU_s _ _ _
  · rfl
  refine gd_iload_n C dX4_delete_18 rfl ?_
  apply gd_aald C dX4_delete_19
  · first | assumption | exact (hfl _ (by omega) (by omega)).1 | exact (hfl _ (by omega) (by omega)).2 | exact wU_s _ _ _
  · decide
  · omega
  · exact cQ_at (by omega)
  refine gd_astore_n C dX4_delete_20 (Nat.le_of_ble_eq_true rfl) ?_
  refine gd_aload_n C dX4_delete_21 rfl ?_
  apply gd_get (ci := 4) (Cn := RX4) (T := TX4) (N := 5) (ref := RX4) C rfl (by decide +kernel) 1 (by decide) (by decide +kernel) rfl dX4_delete_22
  · exact hb
  · rfl
  refine gd_iload_n C dX4_delete_25 rfl ?_
  refine gd_callVN (n := 1) (ci := 1) (Cn := RX1) (T := TX1) (N := 2) (host := RX4) C (kX1_takeOut hl hD hR (q := q) (p0 := (fF (fun j => nm (lLk n lo co ct nm q) j = q) 0 (ct (lLk n lo co ct nm q)))) ⟨hn1, hn2⟩ rfl ⟨hp0, hpc⟩) ?_ rfl gX4_delete_X1_takeOut_n91 rfl (by decide +kernel) (by decide +kernel) (by decide +kernel) (by decide +kernel) ⟨by decide, by decide, by decide +kernel⟩ rfl rfl (Nat.le_of_ble_eq_true rfl) rfl dX4_delete_26 ⟨⟨by decide, by decide⟩, by decide, by decide⟩ (fun _ h => h.elim) ?_
  · exact ⟨_, by exact hD.1⟩
  rintro _ w1 ⟨rfl, t1, t2, t3, t4⟩
  have hDJ := hD.2.1 (lLk n lo co ct nm q) (by omega) hJb.2
  have hD1 := DW_leaf hD (j := (lLk n lo co ct nm q)) ⟨by omega, hJb.2⟩ t1 t2 t3 t4
  have hW1 := hW.keptL hDJ.1 hDJ.2.1 hDJ.2.2.1 t4
  have hfq1 := hW1.2.2.2.2.1 x hx0 (by omega)
  obtain ⟨hW2, hF2⟩ := hW1.setV (w1 := wU (wU w1 (ac x) (cC (ab x) (fU (v x) 8 1))) (ac x) (cC (ab x) (fU (fU (v x) 8 1) 9 1))) (j := x) ⟨hx0, by omega⟩ (wU_s _ _ _) (fun y1 h1 => (wU_n h1).trans (wU_n h1))
  have hI2 := hI.setV (j := x) (V := fU (fU (v x) 8 1) 9 1) (((hi2 x hx0 (by omega)).set8 (Or.inr rfl)).set9 (Or.inr rfl))
  have hD2 := hD1.keptC hW1 hF2
  have hfi := hi2 x hx0 (by omega)
  unfold FI at hfi
  have hu3 : fU (fU (v x) 8 1) 9 1 3 = v x 3 := rfl
  refine gd_aload_n C dX4_delete_29 rfl ?_
  refine gd_iconst C dX4_delete_30 ?_
  apply gd_putCN (host := RX4) C (by decide +kernel) 8 8 rfl (by decide) (by decide) (by decide +kernel) rfl dX4_delete_31
  · exact hfq1.1
  · exact fun _ => Or.inr rfl
  refine gd_aload_n C dX4_delete_34 rfl ?_
  refine gd_iconst C dX4_delete_35 ?_
  apply gd_putCN (host := RX4) C (by decide +kernel) 9 9 rfl (by decide) (by decide) (by decide +kernel) rfl dX4_delete_36
  · exact wU_s _ _ _
  · exact fun _ => Or.inr rfl
  refine gd_aload_n C dX4_delete_39 rfl ?_
  apply gd_getN (host := RX4) (ci := 0) (Cn := RX0) (T := TX0) (N := 11) (ref := RX0) C rfl (by decide +kernel) 3 (by decide) (by decide +kernel) rfl dX4_delete_40
  · exact wU_s _ _ _
  · rfl
  refine gd_if_ne (tgt := 56) C dX4_delete_43 (by decide) ?_ (fun hc43 => ?_) (fun hc43 => ?_)
  · omega
  · refine gd_iload_n C dX4_delete_56 rfl ?_
    refine gd_iret C hQ hret dX4_delete_57 ?_ ?_
    · rw [hxe]
      exact ⟨⟨hn1, hn2⟩, hup, hx0, Or.inl ⟨by omega, rfl, hW2, hI2, hD2, fun y u hy a1 a2 a3 a4 a5 a6 => (hF2 y a1 a2 a3 a4).trans (t4 y (a6 _ (by omega) hJb.2).2.1 (a6 _ (by omega) hJb.2).2.2 (a6 _ (by omega) hJb.2).1)⟩⟩
    · decide
  · refine gd_aload_n C dX4_delete_46 rfl ?_
    refine gd_aload_n C dX4_delete_47 rfl ?_
    refine gd_callV (n := 1) (ci := 4) (Cn := RX4) (T := TX4) (N := 5) C (kX4_erase hl hW2 hI2 (j := x) ⟨hx0, by omega⟩) ?_ rfl gX4_delete_X4_erase rfl ⟨rfl, by decide, by decide, by decide +kernel⟩ rfl rfl (Nat.le_of_ble_eq_true rfl) rfl dX4_delete_48 ⟨⟨by decide, by decide⟩, by decide, by decide⟩ (fun _ h => h.elim) ?_
    · exact ⟨_, by exact hW2.1⟩
    rintro _ w2 ⟨x2, rfl, hx⟩
    have hx01 : x2 = 0 ∨ x2 = 1 := by rcases hx with hx | hx <;> omega
    refine gd_if_ne (tgt := 56) C dX4_delete_51 (by decide) ?_ (fun hc51 => ?_) (fun hc51 => ?_)
    · omega
    · refine gd_iload_n C dX4_delete_56 rfl ?_
      refine gd_iret C hQ hret dX4_delete_57 ?_ ?_
      · rw [hxe]
        refine ⟨⟨hn1, hn2⟩, hup, hx0, ?_⟩
        rcases hx with hx | hx
        · exfalso; omega
        · exact Or.inr (Or.inr ⟨by omega, hx.2.1, rfl, hx.2.2.1, hx.2.2.2.1, hD2.keptC hW2 hx.2.2.2.2, fun y u hy a1 a2 a3 a4 a5 a6 => ((hx.2.2.2.2 y a1 a2 a3 a4).trans (hF2 y a1 a2 a3 a4)).trans (t4 y (a6 _ (by omega) hJb.2).2.1 (a6 _ (by omega) hJb.2).2.2 (a6 _ (by omega) hJb.2).1)⟩)
      · decide
    · refine gd_iconst C dX4_delete_54 ?_
      refine gd_iret C hQ hret dX4_delete_55 ?_ ?_
      · rw [hxe]
        refine ⟨⟨hn1, hn2⟩, hup, hx0, ?_⟩
        rcases hx with hx | hx
        · exact Or.inr (Or.inl ⟨by omega, hx.2.1, rfl, hx.2.2.1, hx.2.2.2.1, hD2.keptC hW2 hx.2.2.2.2, fun y u hy a1 a2 a3 a4 a5 a6 => ((hx.2.2.2.2 y a1 a2 a3 a4).trans (hF2 y a1 a2 a3 a4)).trans (t4 y (a6 _ (by omega) hJb.2).2.1 (a6 _ (by omega) hJb.2).2.2 (a6 _ (by omega) hJb.2).1)⟩)
        · exfalso; omega
      · decide

set_option maxRecDepth 100000 in
set_option maxHeartbeats 4000000 in
theorem kX4_create {l : Launch} {D : va_G} {ky : Nat → ClassId} {z : Nat} {w : WT} (hl : l.stackTraces = false) {b g t ar d : Nat} {ac ab : Int → Nat} {T : Int → Int} {v B : Int → Int → Int} {sc dn : Int} (hW : CW w ky b g t ar d ac ab T v B sc dn) (hI : CI T v B sc dn) {la na fa : Int → Nat} {n : Int} {lo co ct : Int → Int} {nm fl : Int → Int → Int} (hD : DW w ky d la na fa n lo co ct nm fl) (hR : DR n lo co ct nm fl) {q : Int} (hq : InR q) (hlo0 : lo 0 = 0) (hs3 : ∀ i, ct i = 4 → rk (nm i 2) < rk (nm i 3)) : Mt l D ky z yX4_create wsX4_create { frames := 8, cells := 6, slots := 33, locals := 132 } [.ref b, .int (iI q)] w (fun r w' => (0 ≤ q ∧ q ≤ 999) ∧ dn = 0 ∧ 0 ≤ (fF (fun j => v j 2 = 0) 0 16) ∧ (dF n lo co ct nm fl q) = -1 ∧ n < 512 ∧ r = some (.int (iI (fF (fun j => v j 2 = 0) 0 16))) ∧ CW w' ky b g t ar d ac ab T (fU v (fF (fun j => v j 2 = 0) 0 16) (fU (v (fF (fun j => v j 2 = 0) 0 16)) 2 1)) B sc dn ∧ CI T (fU v (fF (fun j => v j 2 = 0) 0 16) (fU (v (fF (fun j => v j 2 = 0) 0 16)) 2 1)) B sc dn ∧ ∃ (la' na' fa' : Int → Nat) (n' : Int) (lo' co' ct' : Int → Int) (nm' fl' : Int → Int → Int), DW w' ky d la' na' fa' n' lo' co' ct' nm' fl' ∧ ADD q (fF (fun j => v j 2 = 0) 0 16) n lo co ct nm fl n' lo' co' ct' nm' fl' ∧ FrA w w' b g t d ac ab la na fa n) (fun E => (E = "java/lang/IllegalArgumentException" ∧ ¬ (0 ≤ q ∧ q ≤ 999)) ∨ (E = "java/lang/IllegalStateException" ∧ (0 ≤ q ∧ q ≤ 999) ∧ (dn = 1 ∨ (fF (fun j => v j 2 = 0) 0 16) = -1 ∨ (dF n lo co ct nm fl q) ≠ -1 ∨ 512 ≤ n))) := by
  refine Mt.of (cc := cX4_create) (ret := (some .int)) (maxL := 3) (by decide) rfl (by intro v hv; simp at hv; rcases hv with rfl | rfl <;> rfl) (Nat.le_of_ble_eq_true rfl) ?_ hl
  intro p e s m args below meth c C htab hret hname Q hQ
  obtain ⟨hb, hg, ht, har, hfl, hdj⟩ := id hW
  obtain ⟨hi1, hi2, hi3, hi4⟩ := id hI
  refine gd_iload_n C dX4_create_0 rfl ?_
  refine gd_callS (n := 1) C (kX4_requireName hl (q := q) ?_) gX4_create_X4_requireName rfl ⟨by decide, by decide, by decide +kernel⟩ rfl rfl (Nat.le_of_ble_eq_true rfl) rfl dX4_create_1 ⟨⟨by decide, by decide⟩, by decide, by decide⟩ (fun E h => gx_out C hQ htab (Or.inl ⟨h.1, h.2⟩) (by decide) (by decide)) ?_
  · omega
  rintro _ _ ⟨rfl, rfl, hn1, hn2⟩
  refine gd_aload_n C dX4_create_4 rfl ?_
  refine gd_callV (n := 0) (ci := 4) (Cn := RX4) (T := TX4) (N := 5) C (kX4_requireUp hl hW hI) ?_ rfl gX4_create_X4_requireUp rfl ⟨rfl, by decide, by decide, by decide +kernel⟩ rfl rfl (Nat.le_of_ble_eq_true rfl) rfl dX4_create_5 ⟨⟨by decide, by decide⟩, by decide, by decide⟩ (fun E h => gx_out C hQ htab (Or.inr ⟨h.1, by omega, Or.inl h.2⟩) (by decide) (by decide)) ?_
  · exact ⟨_, by first | assumption | exact wU_s _ _ _ | exact look1 (by assumption) (by assumption) | exact look2 (by assumption) (by assumption)⟩
  rintro _ _ ⟨rfl, rfl, hup⟩
  refine gd_aload_n C dX4_create_8 rfl ?_
  refine gd_callV (n := 0) (ci := 4) (Cn := RX4) (T := TX4) (N := 5) C (kX4_lowestUnusedFile hl hW hI) ?_ rfl gX4_create_X4_lowestUnusedFile rfl ⟨rfl, by decide, by decide, by decide +kernel⟩ rfl rfl (Nat.le_of_ble_eq_true rfl) rfl dX4_create_9 ⟨⟨by decide, by decide⟩, by decide, by decide⟩ (fun _ h => h.elim) ?_
  · exact ⟨_, by first | assumption | exact wU_s _ _ _ | exact look1 (by assumption) (by assumption) | exact look2 (by assumption) (by assumption)⟩
  rintro _ _ ⟨rfl, rfl⟩
  have hfs := fF_spec (P := fun j => v j 2 = 0) (b := 16) _ 0 rfl
  generalize hxe : (fF (fun j => v j 2 = 0) 0 16) = x at hfs ⊢
  refine gd_istore_n C dX4_create_12 (Nat.le_of_ble_eq_true rfl) ?_
  refine gd_iload_n C dX4_create_13 rfl ?_
  refine gd_iconst C dX4_create_14 ?_
  refine gd_icmp_eq (tgt := 40) C dX4_create_15 (by decide) ?_ ?_ (fun hc15 => ?_) (fun hc15 => ?_)
  · omega
  · omega
  · refine gd_throw (cls := "java/lang/IllegalStateException") (text := "there is such a name, or no room for one more file") (ik := 58) (is := 60) (ic := 62) C hQ htab (by decide +kernel) (by decide +kernel) (by decide +kernel) (by decide +kernel) (by decide +kernel) (by decide +kernel) (by decide +kernel) dX4_create_40 dX4_create_43 dX4_create_44 dX4_create_46 dX4_create_49 rfl ?_ ⟨⟨by decide, Nat.le_of_ble_eq_true rfl, by decide, by decide⟩, by decide, by decide⟩
    · exact Or.inr ⟨rfl, by omega, by unfold dF; rw [hxe]; omega⟩
  · refine gd_aload_n C dX4_create_18 rfl ?_
    apply gd_get (ci := 4) (Cn := RX4) (T := TX4) (N := 5) (ref := RX4) C rfl (by decide +kernel) 1 (by decide) (by decide +kernel) rfl dX4_create_19
    · exact hb
    · rfl
    refine gd_iload_n C dX4_create_22 rfl ?_
    refine gd_callVN (n := 1) (ci := 1) (Cn := RX1) (T := TX1) (N := 2) (host := RX4) C (kX1_fileWith hl hD hR (q := q) ⟨hn1, hn2⟩) ?_ rfl gX4_create_X1_fileWith_n50 rfl (by decide +kernel) (by decide +kernel) (by decide +kernel) (by decide +kernel) ⟨by decide, by decide, by decide +kernel⟩ rfl rfl (Nat.le_of_ble_eq_true rfl) rfl dX4_create_23 ⟨⟨by decide, by decide⟩, by decide, by decide⟩ (fun _ h => h.elim) ?_
    · exact ⟨_, by exact hD.1⟩
    rintro _ _ ⟨rfl, rfl⟩
    have hdb := dF_bd hR q
    unfold dF at hdb
    refine gd_iconst C dX4_create_26 ?_
    refine gd_icmp_ne (tgt := 40) C dX4_create_27 (by decide) ?_ ?_ (fun hc27 => ?_) (fun hc27 => ?_)
    · omega
    · omega
    · refine gd_throw (cls := "java/lang/IllegalStateException") (text := "there is such a name, or no room for one more file") (ik := 58) (is := 60) (ic := 62) C hQ htab (by decide +kernel) (by decide +kernel) (by decide +kernel) (by decide +kernel) (by decide +kernel) (by decide +kernel) (by decide +kernel) dX4_create_40 dX4_create_43 dX4_create_44 dX4_create_46 dX4_create_49 rfl ?_ ⟨⟨by decide, Nat.le_of_ble_eq_true rfl, by decide, by decide⟩, by decide, by decide⟩
      · exact Or.inr ⟨rfl, by omega, by unfold dF; rw [hxe]; omega⟩
    · refine gd_aload_n C dX4_create_30 rfl ?_
      apply gd_get (ci := 4) (Cn := RX4) (T := TX4) (N := 5) (ref := RX4) C rfl (by decide +kernel) 1 (by decide) (by decide +kernel) rfl dX4_create_31
      · exact hb
      · rfl
      refine gd_callVN (n := 0) (ci := 1) (Cn := RX1) (T := TX1) (N := 2) (host := RX4) C (kX1_isFull hl hD hR) ?_ rfl gX4_create_X1_isFull_n54 rfl (by decide +kernel) (by decide +kernel) (by decide +kernel) (by decide +kernel) ⟨by decide, by decide, by decide +kernel⟩ rfl rfl (Nat.le_of_ble_eq_true rfl) rfl dX4_create_34 ⟨⟨by decide, by decide⟩, by decide, by decide⟩ (fun _ h => h.elim) ?_
      · exact ⟨_, by exact hD.1⟩
      rintro _ _ ⟨b9, rfl, rfl, hb9⟩
      have hn9 := hR.1
      refine gd_if_eq (tgt := 50) C dX4_create_37 (by decide) ?_ (fun hc37 => ?_) (fun hc37 => ?_)
      · omega
      · refine gd_aload_n C dX4_create_50 rfl ?_
        apply gd_get (ci := 4) (Cn := RX4) (T := TX4) (N := 5) (ref := RX4) C rfl (by decide +kernel) 1 (by decide) (by decide +kernel) rfl dX4_create_51
        · exact hb
        · rfl
        refine gd_iload_n C dX4_create_54 rfl ?_
        refine gd_iload_n C dX4_create_55 rfl ?_
        refine gd_callVN (n := 2) (ci := 1) (Cn := RX1) (T := TX1) (N := 2) (host := RX4) C (kX1_add hl hD hR (q := q) (x := x) ⟨hn1, hn2⟩ (by omega) hlo0 hs3) ?_ rfl gX4_create_X1_add_n65 rfl (by decide +kernel) (by decide +kernel) (by decide +kernel) (by decide +kernel) ⟨by decide, by decide, by decide +kernel⟩ rfl rfl (Nat.le_of_ble_eq_true rfl) rfl dX4_create_56 ⟨⟨by decide, by decide⟩, by decide, by decide⟩ (fun _ h => h.elim) ?_
        · exact ⟨_, by exact hD.1⟩
        rintro _ w1 ⟨rfl, la', na', fa', n', lo', co', ct', nm', fl', hD1, hA1, hF1⟩
        have hW1 := hW.keptA hD hF1
        have hfq1 := hW1.2.2.2.2.1 x (by omega) (by omega)
        refine gd_aload_n C dX4_create_59 rfl ?_
        apply gd_get (ci := 4) (Cn := RX4) (T := TX4) (N := 5) (ref := RX4) C rfl (by decide +kernel) 2 (by decide) (by decide +kernel) rfl dX4_create_60
        · exact hW1.1
        · rfl
        refine gd_iload_n C dX4_create_63 rfl ?_
        apply gd_aald C dX4_create_64
        · exact hW1.2.2.2.1
        · decide
        · omega
        · exact cQ_at (by omega)
        refine gd_callVN (n := 0) (ci := 0) (Cn := RX0) (T := TX0) (N := 11) (host := RX4) C (kX0_begin hl hfq1.1) ?_ rfl gX4_create_X0_begin_n69 rfl (by decide +kernel) (by decide +kernel) (by decide +kernel) (by decide +kernel) ⟨by decide, by decide, by decide +kernel⟩ rfl rfl (Nat.le_of_ble_eq_true rfl) rfl dX4_create_65 ⟨⟨by decide, by decide⟩, by decide, by decide⟩ (fun _ h => h.elim) ?_
        · exact ⟨_, by exact hfq1.1⟩
        rintro _ w2 ⟨rfl, rfl⟩
        obtain ⟨hW2, hF2⟩ := hW1.setV (j := x) ⟨by omega, by omega⟩ (wU_s w1 (ac x) (cC (ab x) (fU (v x) 2 1))) (fun y1 h1 => wU_n h1)
        have hI2 := hI.setV (j := x) (V := fU (v x) 2 1) ((hi2 x (by omega) (by omega)).bg)
        have hD2 := hD1.keptC hW1 hF2
        refine gd_iload_n C dX4_create_68 rfl ?_
        refine gd_iret C hQ hret dX4_create_69 ?_ ?_
        · rw [hxe]
          refine ⟨⟨hn1, hn2⟩, hup, by omega, by unfold dF; omega, by omega, rfl, hW2, hI2, la', na', fa', n', lo', co', ct', nm', fl', hD2, hA1, fun y u hy a1 a2 a3 a4 a5 a6 => (hF2 y a1 a2 a3 a4).trans (hF1 y u hy a5 a6)⟩
        · decide
      · refine gd_throw (cls := "java/lang/IllegalStateException") (text := "there is such a name, or no room for one more file") (ik := 58) (is := 60) (ic := 62) C hQ htab (by decide +kernel) (by decide +kernel) (by decide +kernel) (by decide +kernel) (by decide +kernel) (by decide +kernel) (by decide +kernel) dX4_create_40 dX4_create_43 dX4_create_44 dX4_create_46 dX4_create_49 rfl ?_ ⟨⟨by decide, Nat.le_of_ble_eq_true rfl, by decide, by decide⟩, by decide, by decide⟩
        · exact Or.inr ⟨rfl, by omega, by unfold dF; rw [hxe]; omega⟩
