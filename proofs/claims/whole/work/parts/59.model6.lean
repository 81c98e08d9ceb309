set_option maxRecDepth 100000 in
set_option maxHeartbeats 4000000 in
theorem kX5_cut {l : Launch} {D : va_G} {ky : Nat → ClassId} {z : Nat} {w : WT} (hl : l.stackTraces = false) {o : Nat} {A : Nat → Nat} {F : Nat → Int → Int} {G : Nat → Int} (hM : MW w ky o A F G) {T : Int → Int} {v B : Int → Int → Int} {sc dn : Int} (hR : RF F G T v B sc dn) (hI : CI T v B sc dn) {q y : Int} (hq : InR q) (hyr : InR y) (hsc : sc = -1 ∨ 1 ≤ sc ∧ sc ≤ 50) : Mt l D ky z yX5_cut wsX5_cut { frames := 3, cells := 0, slots := 0, locals := 66 } [.ref o, .int (iI q), .int (iI y)] w (fun r w' => ((0 ≤ q ∧ q < 16 ∧ v q 2 = 1) ∧ (0 ≤ y ∧ y ≤ 64) ∧ dn = 0 ∧ (((ctS y (64 - (y : Int)).toNat (tkF T (v q 6) (v q 7) 0) (drF (B q) y 64) sc 0).1 = 1 ∧ r = some (.int (iI (-1))) ∧ PM w w' ky o A F G (rlT (fU v q (fU (v q) 7 0)) (ctS y (64 - (y : Int)).toNat (tkF T (v q 6) (v q 7) 0) (drF (B q) y 64) sc 0).2.1 16) (crV (fU v q (fU (v q) 7 0)) 16) (flB (fU B q (ctS y (64 - (y : Int)).toNat (tkF T (v q 6) (v q 7) 0) (drF (B q) y 64) sc 0).2.2.1) 16) (-1) (1) (fU (F 7) q y) (0)) ∨ ((ctS y (64 - (y : Int)).toNat (tkF T (v q 6) (v q 7) 0) (drF (B q) y 64) sc 0).1 = 0 ∧ r = some (.int (iI (ctS y (64 - (y : Int)).toNat (tkF T (v q 6) (v q 7) 0) (drF (B q) y 64) sc 0).2.2.2.2)) ∧ PM w w' ky o A F G ((ctS y (64 - (y : Int)).toNat (tkF T (v q 6) (v q 7) 0) (drF (B q) y 64) sc 0).2.1) ((fU v q (fU (v q) 7 0))) (fU B q (ctS y (64 - (y : Int)).toNat (tkF T (v q 6) (v q 7) 0) (drF (B q) y 64) sc 0).2.2.1) ((ctS y (64 - (y : Int)).toNat (tkF T (v q 6) (v q 7) 0) (drF (B q) y 64) sc 0).2.2.2.1) (dn) (fU (fU (F 7) q y) q (-1)) (0)))) ∨ ∃ t, (t = 1 ∧ ¬ (0 ≤ q ∧ q < 16 ∧ v q 2 = 1) ∨ t = 2 ∧ (0 ≤ q ∧ q < 16 ∧ v q 2 = 1) ∧ ¬ (0 ≤ y ∧ y ≤ 64) ∨ t = 3 ∧ (0 ≤ q ∧ q < 16 ∧ v q 2 = 1) ∧ (0 ≤ y ∧ y ≤ 64) ∧ dn ≠ 0) ∧ r = some (.int (iI 0)) ∧ PM w w' ky o A F G (T) (v) (B) (sc) (dn) (F 7) (t)) (fun _ => False) := by
  refine Mt.of (cc := cX5_cut) (ret := (some .int)) (maxL := 4) (by decide) rfl (by intro v hv; simp at hv; rcases hv with rfl | rfl | rfl <;> rfl) (Nat.le_of_ble_eq_true rfl) ?_ hl
  intro p e s m args below meth c C htab hret hname Q hQ
  have hMv := hM.V
  obtain ⟨hR0, hR1, hR2, hR3, hR4⟩ := id hR
  obtain ⟨hi1, hi2, hi3, hi4⟩ := id hI
  refine gd_aload_n C dX5_cut_0 rfl ?_
  refine gd_iload_n C dX5_cut_1 rfl ?_
  refine gd_callV (n := 1) (ci := 5) (Cn := RX5) (T := TX5) (N := 18) C (kX5_isThere hl hMv.1 hR hI (q := q) hq) ?_ rfl gX5_cut_X5_isThere rfl ⟨rfl, by decide, by decide, by decide +kernel⟩ rfl rfl (Nat.le_of_ble_eq_true rfl) rfl dX5_cut_2 ⟨⟨by decide, by decide⟩, by decide, by decide⟩ (fun _ h => h.elim) ?_
  · exact ⟨_, by exact hMv.ob⟩
  rintro _ _ ⟨b8, rfl, rfl, hb8⟩
  have hb8x : b8 = 0 ∨ b8 = 1 := by omega
  refine gd_istore_n C dX5_cut_5 (Nat.le_of_ble_eq_true rfl) ?_
  refine gd_aload_n C dX5_cut_6 rfl ?_
  refine gd_iload_n C dX5_cut_7 rfl ?_
  refine gd_iload_n C dX5_cut_8 rfl ?_
  refine gd_iconst C dX5_cut_9 ?_
  refine gd_bipush C dX5_cut_10 (by decide) ?_
  refine gd_callS (n := 3) C (kX5_in hl (q := y) (lo := 0) (hi := 64) ?_) gX5_cut_X5_in rfl ⟨by decide, by decide, by decide +kernel⟩ rfl rfl (Nat.le_of_ble_eq_true rfl) rfl dX5_cut_12 ⟨⟨by decide, by decide⟩, by decide, by decide⟩ (fun _ h => h.elim) ?_
  · omega
  rintro _ _ ⟨b5, rfl, rfl, hb5⟩
  refine gd_aload_n C dX5_cut_15 rfl ?_
  refine gm_get C hMv (by decide +kernel) 15 (by decide) (by decide +kernel) rfl dX5_cut_16 rfl ?_
  have hj19 : ∀ y9 : Int, (y9 = 1 ∧ (dn = 0) ∨ y9 = 0 ∧ ¬ (dn = 0)) → Gd p l e ({ frames := 3, cells := 0, slots := 0, locals := 66 }) s m args below meth c D z Q 0 0 w 27 [some (.ref o), some (.int (iI q)), some (.int (iI y)), some (.int (iI b8))] (.int (iI y9) :: [.int (iI b5), .int (iI b8), .ref o]) := by
    intro y9 hvy9
    refine gd_callV (n := 3) (ci := 5) (Cn := RX5) (T := TX5) (N := 18) C (kX5_asked__ hl hMv.1 (x := b8) (y := b5) (q := y9) ?_) ?_ rfl gX5_cut_X5_asked__ rfl ⟨rfl, by decide, by decide, by decide +kernel⟩ rfl rfl (Nat.le_of_ble_eq_true rfl) rfl dX5_cut_27 ⟨⟨by decide, by decide⟩, by decide, by decide⟩ (fun _ h => h.elim) ?_
    · omega
    · exact ⟨_, by exact hMv.ob⟩
    rintro _ w2 ⟨t7, b7, rfl, hM2, hAS⟩
    unfold AS3 at hAS
    have hR2b : RF F (nU G 17 t7) T v B sc dn := hR.g hR3 hR4
    refine gd_if_ne (tgt := 35) C dX5_cut_30 (by decide) ?_ (fun hc30 => ?_) (fun hc30 => ?_)
    · omega
    · obtain ⟨ht7, hTH, hRG, hup⟩ : t7 = 0 ∧ (0 ≤ q ∧ q < 16 ∧ v q 2 = 1) ∧ (0 ≤ y ∧ y ≤ 64) ∧ (dn = 0) := by
        rcases hAS with h9 | h9
        · refine ⟨by omega, by omega, by omega, by omega⟩
        · exfalso; omega
      subst ht7
      refine gd_aload_n C dX5_cut_35 rfl ?_
      refine gm_get C hM2 (by decide +kernel) 7 (by decide) (by decide +kernel) rfl dX5_cut_36 rfl ?_
      refine gd_iload_n C dX5_cut_39 rfl ?_
      refine gd_iload_n C dX5_cut_40 rfl ?_
      refine gm_iast C hM2 (k := 7) (n := 16) (by decide) (fun _ => rfl) dX5_cut_41 (by decide) ?_ (fun wm1 hMm1 => ?_)
      · omega
      refine gd_aload_n C dX5_cut_42 rfl ?_
      refine gd_iload_n C dX5_cut_43 rfl ?_
      refine gd_iload_n C dX5_cut_44 rfl ?_
      refine gd_callV (n := 2) (ci := 5) (Cn := RX5) (T := TX5) (N := 18) C (kX5_cuts hl hMm1.1 (hR2b.n (Or.inl rfl) _) (q := q) (y := y) ⟨hTH.1, hTH.2.1⟩ hRG hI.k67 hI.bb hsc) ?_ rfl gX5_cut_X5_cuts rfl ⟨rfl, by decide, by decide, by decide +kernel⟩ rfl rfl (Nat.le_of_ble_eq_true rfl) rfl dX5_cut_45 ⟨⟨by decide, by decide⟩, by decide, by decide⟩ (fun _ h => h.elim) ?_
      · exact ⟨_, by exact hMm1.ob⟩
      rintro r5 w5 hct
      obtain ⟨x9, hx9⟩ : ∃ x9 : Int, r5 = some (.int (iI x9)) := by
        rcases hct with ⟨-, h2, -⟩ | ⟨-, h2, -⟩ <;> exact ⟨_, h2⟩
      subst hx9
      refine gd_iret C hQ hret dX5_cut_48 ?_ ?_
      · refine Or.inl ⟨hTH, hRG, hup, ?_⟩
        rcases hct with ⟨h1, h2, h3⟩ | ⟨h1, h2, h3⟩
        · exact Or.inl ⟨h1, h2, h3.pre hMm1 ⟨rfl, rfl, rfl, rfl, rfl⟩ rfl⟩
        · exact Or.inr ⟨h1, h2, h3.pre hMm1 ⟨rfl, rfl, rfl, rfl, rfl⟩ rfl⟩
      · decide
    · refine gd_iconst C dX5_cut_33 ?_
      refine gd_iret C hQ hret dX5_cut_34 ?_ ?_
      · refine Or.inr ⟨t7, ?_, rfl, _, _, hM2, hR2b, FN.rf F, rfl, rfl, rfl⟩
        omega
      · decide
  refine gd_if_ne (tgt := 26) C dX5_cut_19 (by decide) ?_ (fun hc19 => ?_) (fun hc19 => ?_)
  · omega
  · refine gd_iconst C dX5_cut_26 ?_
    exact hj19 _ (by omega)
  · refine gd_iconst C dX5_cut_22 ?_
    refine gd_goto (tgt := 27) C dX5_cut_23 (by decide) ?_
    exact hj19 _ (by omega)

set_option maxRecDepth 100000 in
set_option maxHeartbeats 4000000 in
theorem kX5_crashBehind {l : Launch} {D : va_G} {ky : Nat → ClassId} {z : Nat} {w : WT} (hl : l.stackTraces = false) {o : Nat} {A : Nat → Nat} {F : Nat → Int → Int} {G : Nat → Int} (hM : MW w ky o A F G) {T : Int → Int} {v B : Int → Int → Int} {sc dn : Int} (hR : RF F G T v B sc dn) (hI : CI T v B sc dn) {q : Int} (hq : InR q) : Mt l D ky z yX5_crashBehind wsX5_crashBehind { frames := 1, cells := 0, slots := 0, locals := 22 } [.ref o, .int (iI q)] w (fun r w' => ((q = -1 ∨ 1 ≤ q ∧ q ≤ 50) ∧ dn = 0 ∧ r = none ∧ PM w w' ky o A F G (T) (v) (B) (q) (dn) (F 7) (0)) ∨ ∃ t, (t = 1 ∧ ¬ (q = -1 ∨ 1 ≤ q ∧ q ≤ 50) ∨ t = 2 ∧ (q = -1 ∨ 1 ≤ q ∧ q ≤ 50) ∧ dn ≠ 0) ∧ r = none ∧ PM w w' ky o A F G (T) (v) (B) (sc) (dn) (F 7) (t)) (fun _ => False) := by
  refine Mt.of (cc := cX5_crashBehind) (ret := none) (maxL := 2) (by decide) rfl (by intro v hv; simp at hv; rcases hv with rfl | rfl <;> rfl) (Nat.le_of_ble_eq_true rfl) ?_ hl
  intro p e s m args below meth c C htab hret hname Q hQ
  have hMv := hM.V
  obtain ⟨hR0, hR1, hR2, hR3, hR4⟩ := id hR
  obtain ⟨hi1, hi2, hi3, hi4⟩ := id hI
  refine gd_aload_n C dX5_crashBehind_0 rfl ?_
  refine gd_iload_n C dX5_crashBehind_1 rfl ?_
  refine gd_iconst C dX5_crashBehind_2 ?_
  have hj3 : ∀ b8 : Int, (b8 = 1 ∧ (q = -1 ∨ 1 ≤ q ∧ q ≤ 50) ∨ b8 = 0 ∧ ¬ (q = -1 ∨ 1 ≤ q ∧ q ≤ 50)) → Gd p l e ({ frames := 1, cells := 0, slots := 0, locals := 22 }) s m args below meth c D z Q 0 0 w 21 [some (.ref o), some (.int (iI q))] (.int (iI b8) :: [.ref o]) := by
    intro b8 hvb8
    refine gd_aload_n C dX5_crashBehind_21 rfl ?_
    refine gm_get C hMv (by decide +kernel) 15 (by decide) (by decide +kernel) rfl dX5_crashBehind_22 rfl ?_
    have hj25 : ∀ y9 : Int, (y9 = 1 ∧ (dn = 0) ∨ y9 = 0 ∧ ¬ (dn = 0)) → Gd p l e ({ frames := 1, cells := 0, slots := 0, locals := 22 }) s m args below meth c D z Q 0 0 w 33 [some (.ref o), some (.int (iI q))] (.int (iI y9) :: [.int (iI b8), .ref o]) := by
      intro y9 hvy9
      refine gd_callV (n := 2) (ci := 5) (Cn := RX5) (T := TX5) (N := 18) C (kX5_asked_ hl hMv.1 (x := b8) (y := y9) ?_) ?_ rfl gX5_crashBehind_X5_asked_ rfl ⟨rfl, by decide, by decide, by decide +kernel⟩ rfl rfl (Nat.le_of_ble_eq_true rfl) rfl dX5_crashBehind_33 ⟨⟨by decide, by decide⟩, by decide, by decide⟩ (fun _ h => h.elim) ?_
      · omega
      · exact ⟨_, by exact hMv.ob⟩
      rintro _ w2 ⟨t7, b7, rfl, hM2, hAS⟩
      unfold AS2 at hAS
      have hR2b : RF F (nU G 17 t7) T v B sc dn := hR.g hR3 hR4
      refine gd_if_eq (tgt := 53) C dX5_crashBehind_36 (by decide) ?_ (fun hc36 => ?_) (fun hc36 => ?_)
      · omega
      · refine gd_vret C hQ hret dX5_crashBehind_53 ?_ ?_
        · first
            | exact Or.inl ⟨hQR, hup, rfl, _, _, hM2, hR.g hR3 hvx9, FN.rf F, rfl, rfl, rfl⟩
            | exact Or.inr ⟨t7, by omega, rfl, _, _, hM2, hR2b, FN.rf F, rfl, rfl, rfl⟩
        · decide
      · obtain ⟨ht7, hQR, hup⟩ : t7 = 0 ∧ (q = -1 ∨ 1 ≤ q ∧ q ≤ 50) ∧ (dn = 0) := by
          rcases hAS with h9 | h9
          · refine ⟨by omega, by omega, by omega⟩
          · exfalso; omega
        subst ht7
        refine gd_aload_n C dX5_crashBehind_39 rfl ?_
        refine gd_iload_n C dX5_crashBehind_40 rfl ?_
        refine gd_iconst C dX5_crashBehind_41 ?_
        have hj42 : ∀ x9 : Int, (x9 = crI q) → Gd p l e ({ frames := 1, cells := 0, slots := 0, locals := 22 }) s m args below meth c D z Q 0 0 w2 50 [some (.ref o), some (.int (iI q))] (.int (iI x9) :: [.ref o]) := by
          intro x9 hvx9
          refine gm_put C hM2 (by decide +kernel) 16 (by decide) (by decide +kernel) rfl rfl dX5_crashBehind_50 rfl rfl rfl (fun wm1 hMm1 => ?_)
          refine gd_vret C hQ hret dX5_crashBehind_53 ?_ ?_
          · first
              | exact Or.inl ⟨hQR, hup, rfl, _, _, hMm1, hR.g hR3 hvx9, FN.rf F, rfl, rfl, rfl⟩
              | exact Or.inr ⟨t7, by omega, rfl, _, _, hMm1, hR2b, FN.rf F, rfl, rfl, rfl⟩
          · decide
        refine gd_icmp_ne (tgt := 49) C dX5_crashBehind_42 (by decide) ?_ ?_ (fun hc42 => ?_) (fun hc42 => ?_)
        · omega
        · omega
        · refine gd_iload_n C dX5_crashBehind_49 rfl ?_
          exact hj42 _ (by unfold crI; split <;> omega)
        · refine gd_iconst C dX5_crashBehind_45 ?_
          refine gd_goto (tgt := 50) C dX5_crashBehind_46 (by decide) ?_
          exact hj42 _ (by unfold crI; split <;> omega)
    refine gd_if_ne (tgt := 32) C dX5_crashBehind_25 (by decide) ?_ (fun hc25 => ?_) (fun hc25 => ?_)
    · omega
    · refine gd_iconst C dX5_crashBehind_32 ?_
      exact hj25 _ (by omega)
    · refine gd_iconst C dX5_crashBehind_28 ?_
      refine gd_goto (tgt := 33) C dX5_crashBehind_29 (by decide) ?_
      exact hj25 _ (by omega)
  refine gd_icmp_eq (tgt := 16) C dX5_crashBehind_3 (by decide) ?_ ?_ (fun hc3 => ?_) (fun hc3 => ?_)
  · omega
  · omega
  · refine gd_iconst C dX5_crashBehind_16 ?_
    refine gd_goto (tgt := 21) C dX5_crashBehind_17 (by decide) ?_
    exact hj3 _ (by omega)
  · refine gd_iload_n C dX5_crashBehind_6 rfl ?_
    refine gd_iconst C dX5_crashBehind_7 ?_
    refine gd_bipush C dX5_crashBehind_8 (by decide) ?_
    refine gd_callS (n := 3) C (kX5_in hl (q := q) (lo := 1) (hi := 50) ?_) gX5_crashBehind_X5_in rfl ⟨by decide, by decide, by decide +kernel⟩ rfl rfl (Nat.le_of_ble_eq_true rfl) rfl dX5_crashBehind_10 ⟨⟨by decide, by decide⟩, by decide, by decide⟩ (fun _ h => h.elim) ?_
    · omega
    rintro _ _ ⟨b5, rfl, rfl, hb5⟩
    refine gd_if_eq (tgt := 20) C dX5_crashBehind_13 (by decide) ?_ (fun hc13 => ?_) (fun hc13 => ?_)
    · omega
    · refine gd_iconst C dX5_crashBehind_20 ?_
      exact hj3 _ (by omega)
    · refine gd_iconst C dX5_crashBehind_16 ?_
      refine gd_goto (tgt := 21) C dX5_crashBehind_17 (by decide) ?_
      exact hj3 _ (by omega)

set_option maxRecDepth 100000 in
set_option maxHeartbeats 4000000 in
theorem kX5_crash {l : Launch} {D : va_G} {ky : Nat → ClassId} {z : Nat} {w : WT} (hl : l.stackTraces = false) {o : Nat} {A : Nat → Nat} {F : Nat → Int → Int} {G : Nat → Int} (hM : MW w ky o A F G) {T : Int → Int} {v B : Int → Int → Int} {sc dn : Int} (hR : RF F G T v B sc dn) (hI : CI T v B sc dn) : Mt l D ky z yX5_crash wsX5_crash { frames := 2, cells := 0, slots := 0, locals := 43 } [.ref o] w (fun r w' => (dn = 0 ∧ r = none ∧ PM w w' ky o A F G (rlT v T 16) (crV v 16) (flB B 16) (-1) (1) (F 7) (0)) ∨ (dn ≠ 0 ∧ r = none ∧ PM w w' ky o A F G (T) (v) (B) (sc) (dn) (F 7) (1))) (fun _ => False) := by
  refine Mt.of (cc := cX5_crash) (ret := none) (maxL := 1) (by decide) rfl (by intro v hv; simp at hv; rcases hv with rfl <;> rfl) (Nat.le_of_ble_eq_true rfl) ?_ hl
  intro p e s m args below meth c C htab hret hname Q hQ
  have hMv := hM.V
  obtain ⟨hR0, hR1, hR2, hR3, hR4⟩ := id hR
  obtain ⟨hi1, hi2, hi3, hi4⟩ := id hI
  refine gd_aload_n C dX5_crash_0 rfl ?_
  refine gd_aload_n C dX5_crash_1 rfl ?_
  refine gm_get C hMv (by decide +kernel) 15 (by decide) (by decide +kernel) rfl dX5_crash_2 rfl ?_
  have hj5 : ∀ y9 : Int, (y9 = 1 ∧ (dn = 0) ∨ y9 = 0 ∧ ¬ (dn = 0)) → Gd p l e ({ frames := 2, cells := 0, slots := 0, locals := 43 }) s m args below meth c D z Q 0 0 w 13 [some (.ref o)] (.int (iI y9) :: [.ref o]) := by
    intro y9 hvy9
    refine gd_callV (n := 1) (ci := 5) (Cn := RX5) (T := TX5) (N := 18) C (kX5_asked hl hMv.1 (x := y9) ?_) ?_ rfl gX5_crash_X5_asked rfl ⟨rfl, by decide, by decide, by decide +kernel⟩ rfl rfl (Nat.le_of_ble_eq_true rfl) rfl dX5_crash_13 ⟨⟨by decide, by decide⟩, by decide, by decide⟩ (fun _ h => h.elim) ?_
    · omega
    · exact ⟨_, by exact hMv.ob⟩
    rintro _ w2 ⟨rfl, hM2⟩
    have hR2b : RF F (nU G 17 (1 - y9)) T v B sc dn := hR.g hR3 hR4
    refine gd_if_eq (tgt := 23) C dX5_crash_16 (by decide) ?_ (fun hc16 => ?_) (fun hc16 => ?_)
    · omega
    · refine gd_vret C hQ hret dX5_crash_23 ?_ ?_
      · first
          | exact Or.inl ⟨by omega, rfl, by
              have h4 := h3.pre hM2 (FN.rf F) rfl
              rwa [show nU G 17 (1 - y9) 17 = 0 by show 1 - y9 = 0; omega] at h4⟩
          | exact Or.inr ⟨by omega, rfl, _, _, hM2, hR2b, FN.rf F, rfl, rfl, by show 1 - y9 = 1; omega⟩
      · decide
    · refine gd_aload_n C dX5_crash_19 rfl ?_
      refine gd_callV (n := 0) (ci := 5) (Cn := RX5) (T := TX5) (N := 18) C (kX5_crashes hl hM2.1 hR2b hI.k67 hI.bb) ?_ rfl gX5_crash_X5_crashes rfl ⟨rfl, by decide, by decide, by decide +kernel⟩ rfl rfl (Nat.le_of_ble_eq_true rfl) rfl dX5_crash_20 ⟨⟨by decide, by decide⟩, by decide, by decide⟩ (fun _ h => h.elim) ?_
      · exact ⟨_, by exact hM2.ob⟩
      rintro _ w3 ⟨rfl, h3⟩
      refine gd_vret C hQ hret dX5_crash_23 ?_ ?_
      · first
          | exact Or.inl ⟨by omega, rfl, by
              have h4 := h3.pre hM2 (FN.rf F) rfl
              rwa [show nU G 17 (1 - y9) 17 = 0 by show 1 - y9 = 0; omega] at h4⟩
          | exact Or.inr ⟨by omega, rfl, _, _, hM2, hR2b, FN.rf F, rfl, rfl, by show 1 - y9 = 1; omega⟩
      · decide
  refine gd_if_ne (tgt := 12) C dX5_crash_5 (by decide) ?_ (fun hc5 => ?_) (fun hc5 => ?_)
  · omega
  · refine gd_iconst C dX5_crash_12 ?_
    exact hj5 _ (by omega)
  · refine gd_iconst C dX5_crash_8 ?_
    refine gd_goto (tgt := 13) C dX5_crash_9 (by decide) ?_
    exact hj5 _ (by omega)

set_option maxRecDepth 100000 in
set_option maxHeartbeats 4000000 in
theorem kX5_isDown {l : Launch} {D : va_G} {ky : Nat → ClassId} {z : Nat} {w : WT} (hl : l.stackTraces = false) {o : Nat} {A : Nat → Nat} {F : Nat → Int → Int} {G : Nat → Int} (hM : MW w ky o A F G) {T : Int → Int} {v B : Int → Int → Int} {sc dn : Int} (hR : RF F G T v B sc dn) (hI : CI T v B sc dn) : Mt l D ky z yX5_isDown wsX5_isDown { frames := 0, cells := 0, slots := 0, locals := 0 } [.ref o] w (fun r w' => r = some (.int (iI dn)) ∧ PM w w' ky o A F G (T) (v) (B) (sc) (dn) (F 7) (0)) (fun _ => False) := by
  refine Mt.of (cc := cX5_isDown) (ret := (some .boolean)) (maxL := 1) (by decide) rfl (by intro v hv; simp at hv; rcases hv with rfl <;> rfl) (Nat.le_of_ble_eq_true rfl) ?_ hl
  intro p e s m args below meth c C htab hret hname Q hQ
  have hMv := hM.V
  obtain ⟨hR0, hR1, hR2, hR3, hR4⟩ := id hR
  obtain ⟨hi1, hi2, hi3, hi4⟩ := id hI
  refine gd_aload_n C dX5_isDown_0 rfl ?_
  refine gd_iconst C dX5_isDown_1 ?_
  refine gm_put C hMv (by decide +kernel) 17 (by decide) (by decide +kernel) rfl rfl dX5_isDown_2 rfl rfl rfl (fun wm1 hMm1 => ?_)
  refine gd_aload_n C dX5_isDown_5 rfl ?_
  refine gm_get C hMm1 (by decide +kernel) 15 (by decide) (by decide +kernel) rfl dX5_isDown_6 (v := .int (iI (G 15))) rfl ?_
  refine gd_zret C hQ hret ?_ dX5_isDown_9 ?_ ?_
  · omega
  · exact ⟨by rw [hR3], _, _, hMm1, hR.g hR3 hR4, FN.rf F, rfl, rfl, rfl⟩
  · decide

set_option maxRecDepth 100000 in
set_option maxHeartbeats 4000000 in
theorem kX5_files {l : Launch} {D : va_G} {ky : Nat → ClassId} {z : Nat} {w : WT} (hl : l.stackTraces = false) {o : Nat} {A : Nat → Nat} {F : Nat → Int → Int} {G : Nat → Int} (hM : MW w ky o A F G) {T : Int → Int} {v B : Int → Int → Int} {sc dn : Int} (hR : RF F G T v B sc dn) (hI : CI T v B sc dn) : Mt l D ky z yX5_files wsX5_files { frames := 1, cells := 0, slots := 0, locals := 21 } [.ref o] w (fun r w' => r = some (.int (iI (sI (fun j => v j 2) 0 16))) ∧ PM w w' ky o A F G (T) (v) (B) (sc) (dn) (F 7) (0)) (fun _ => False) := by
  refine Mt.of (cc := cX5_files) (ret := (some .int)) (maxL := 3) (by decide) rfl (by intro v hv; simp at hv; rcases hv with rfl <;> rfl) (Nat.le_of_ble_eq_true rfl) ?_ hl
  intro p e s m args below meth c C htab hret hname Q hQ
  have hMv := hM.V
  obtain ⟨hR0, hR1, hR2, hR3, hR4⟩ := id hR
  obtain ⟨hi1, hi2, hi3, hi4⟩ := id hI
  refine gd_iconst C dX5_files_0 ?_
  refine gd_istore_n C dX5_files_1 (Nat.le_of_ble_eq_true rfl) ?_
  refine gd_iconst C dX5_files_2 ?_
  refine gd_istore_n C dX5_files_3 (Nat.le_of_ble_eq_true rfl) ?_
  suffices hloop : ∀ (n : Nat) (i a : Int), 0 ≤ i → i ≤ 16 → (16 - i).toNat = n → a = sI (fun j => v j 2) 0 i → Gd p l e ({ frames := 1, cells := 0, slots := 0, locals := 21 }) s m args below meth c D z Q 0 0 w 4 [some (.ref o), some (.int (iI a)), some (.int (iI i))] [] from
    hloop _ 0 _ (by omega) (by omega) rfl (by simp [sI_0])
  intro n
  induction n using Nat.strongRecOn with
  | _ n ih =>
  intro i a h1i h2i hn ha
  have hF1 : i < 16 → F 1 i = v i 2 := fun h => (hR1 i h1i h).1
  have hf2 : i < 16 → v i 2 = 0 ∨ v i 2 = 1 := fun h => (hi2 i h1i h).2.1
  refine gd_iload_n C dX5_files_4 rfl ?_
  refine gd_bipush C dX5_files_5 (by decide) ?_
  refine gd_icmp_ge (tgt := 33) C dX5_files_7 (by decide) ?_ ?_ (fun hc7 => ?_) (fun hc7 => ?_)
  · omega
  · omega
  · refine gd_aload_n C dX5_files_33 rfl ?_
    refine gd_iload_n C dX5_files_34 rfl ?_
    refine gd_callV (n := 1) (ci := 5) (Cn := RX5) (T := TX5) (N := 18) C (kX5_told hl hMv.1 (x := a)) ?_ rfl gX5_files_X5_told rfl ⟨rfl, by decide, by decide, by decide +kernel⟩ rfl rfl (Nat.le_of_ble_eq_true rfl) rfl dX5_files_35 ⟨⟨by decide, by decide⟩, by decide, by decide⟩ (fun _ h => h.elim) ?_
    · exact ⟨_, by exact hMv.ob⟩
    rintro _ w2 ⟨rfl, hM2⟩
    have hR2b : RF F (nU G 17 0) T v B sc dn := hR.g hR3 hR4
    refine gd_iret C hQ hret dX5_files_38 ?_ ?_
    · exact ⟨by rw [ha, show i = 16 by omega], _, _, hM2, hR2b, FN.rf F, rfl, rfl, rfl⟩
    · decide
  · refine gd_iload_n C dX5_files_10 rfl ?_
    refine gd_aload_n C dX5_files_11 rfl ?_
    refine gm_get C hMv (by decide +kernel) 1 (by decide) (by decide +kernel) rfl dX5_files_12 rfl ?_
    refine gd_iload_n C dX5_files_15 rfl ?_
    refine gd_zald C dX5_files_16 hMv.a1 (by decide) ?_ ?_
    · omega
    have hj17 : ∀ x9 : Int, (x9 = 1 ∧ (v i 2 = 1) ∨ x9 = 0 ∧ ¬ (v i 2 = 1)) → Gd p l e ({ frames := 1, cells := 0, slots := 0, locals := 21 }) s m args below meth c D z Q 0 0 w 25 [some (.ref o), some (.int (iI a)), some (.int (iI i))] (.int (iI x9) :: [.int (iI a)]) := by
      intro x9 hvx9
      refine gd_iadd C dX5_files_25 ?_
      refine gd_istore_n C dX5_files_26 (Nat.le_of_ble_eq_true rfl) ?_
      refine gd_iinc C dX5_files_27 rfl ?_
      refine gd_goto (tgt := 4) C dX5_files_30 (by decide) ?_
      exact ih _ (by omega) (i + 1) _ (by omega) (by omega) rfl (by rw [sI_s (by omega), ← ha]; omega)
    refine gd_if_eq (tgt := 24) C dX5_files_17 (by decide) ?_ (fun hc17 => ?_) (fun hc17 => ?_)
    · omega
    · refine gd_iconst C dX5_files_24 ?_
      exact hj17 _ (by omega)
    · refine gd_iconst C dX5_files_20 ?_
      refine gd_goto (tgt := 25) C dX5_files_21 (by decide) ?_
      exact hj17 _ (by omega)

set_option maxRecDepth 100000 in
set_option maxHeartbeats 4000000 in
theorem kX5_listed {l : Launch} {D : va_G} {ky : Nat → ClassId} {z : Nat} {w : WT} (hl : l.stackTraces = false) {o : Nat} {A : Nat → Nat} {F : Nat → Int → Int} {G : Nat → Int} (hM : MW w ky o A F G) {T : Int → Int} {v B : Int → Int → Int} {sc dn : Int} (hR : RF F G T v B sc dn) (hI : CI T v B sc dn) (hL : RLs (F 7) v) : Mt l D ky z yX5_listed wsX5_listed { frames := 1, cells := 0, slots := 0, locals := 21 } [.ref o] w (fun r w' => r = some (.int (iI (sI (fun j => v j 8) 0 16))) ∧ PM w w' ky o A F G (T) (v) (B) (sc) (dn) (F 7) (0)) (fun _ => False) := by
  refine Mt.of (cc := cX5_listed) (ret := (some .int)) (maxL := 3) (by decide) rfl (by intro v hv; simp at hv; rcases hv with rfl <;> rfl) (Nat.le_of_ble_eq_true rfl) ?_ hl
  intro p e s m args below meth c C htab hret hname Q hQ
  have hMv := hM.V
  obtain ⟨hR0, hR1, hR2, hR3, hR4⟩ := id hR
  obtain ⟨hi1, hi2, hi3, hi4⟩ := id hI
  refine gd_iconst C dX5_listed_0 ?_
  refine gd_istore_n C dX5_listed_1 (Nat.le_of_ble_eq_true rfl) ?_
  refine gd_iconst C dX5_listed_2 ?_
  refine gd_istore_n C dX5_listed_3 (Nat.le_of_ble_eq_true rfl) ?_
  suffices hloop : ∀ (n : Nat) (i a : Int), 0 ≤ i → i ≤ 16 → (16 - i).toNat = n → a = sI (fun j => v j 8) 0 i → Gd p l e ({ frames := 1, cells := 0, slots := 0, locals := 21 }) s m args below meth c D z Q 0 0 w 4 [some (.ref o), some (.int (iI a)), some (.int (iI i))] [] from
    hloop _ 0 _ (by omega) (by omega) rfl (by simp [sI_0])
  intro n
  induction n using Nat.strongRecOn with
  | _ n ih =>
  intro i a h1i h2i hn ha
  have hF8 : i < 16 → F 8 i = v i 9 := fun h => (hR1 i h1i h).2.2.2.2.2
  have hf8 : i < 16 → v i 8 = 0 ∨ v i 8 = 1 := fun h => (hi2 i h1i h).2.2.2.2.2.2.1
  have hf9 : i < 16 → v i 9 = 0 ∨ v i 9 = 1 := fun h => (hi2 i h1i h).2.2.2.2.2.2.2.1
  have hrl := hL i h1i
  refine gd_iload_n C dX5_listed_4 rfl ?_
  refine gd_bipush C dX5_listed_5 (by decide) ?_
  refine gd_icmp_ge (tgt := 43) C dX5_listed_7 (by decide) ?_ ?_ (fun hc7 => ?_) (fun hc7 => ?_)
  · omega
  · omega
  · refine gd_aload_n C dX5_listed_43 rfl ?_
    refine gd_iload_n C dX5_listed_44 rfl ?_
    refine gd_callV (n := 1) (ci := 5) (Cn := RX5) (T := TX5) (N := 18) C (kX5_told hl hMv.1 (x := a)) ?_ rfl gX5_listed_X5_told rfl ⟨rfl, by decide, by decide, by decide +kernel⟩ rfl rfl (Nat.le_of_ble_eq_true rfl) rfl dX5_listed_45 ⟨⟨by decide, by decide⟩, by decide, by decide⟩ (fun _ h => h.elim) ?_
    · exact ⟨_, by exact hMv.ob⟩
    rintro _ w2 ⟨rfl, hM2⟩
    have hR2b : RF F (nU G 17 0) T v B sc dn := hR.g hR3 hR4
    refine gd_iret C hQ hret dX5_listed_48 ?_ ?_
    · exact ⟨by rw [ha, show i = 16 by omega], _, _, hM2, hR2b, FN.rf F, rfl, rfl, rfl⟩
    · decide
  · replace hF8 := hF8 (by omega)
    replace hf8 := hf8 (by omega)
    replace hf9 := hf9 (by omega)
    replace hrl := hrl (by omega)
    refine gd_iload_n C dX5_listed_10 rfl ?_
    refine gd_aload_n C dX5_listed_11 rfl ?_
    refine gm_get C hMv (by decide +kernel) 8 (by decide) (by decide +kernel) rfl dX5_listed_12 rfl ?_
    refine gd_iload_n C dX5_listed_15 rfl ?_
    refine gd_zald C dX5_listed_16 hMv.a8 (by decide) ?_ ?_
    · omega
    have hj17 : ∀ x9 : Int, (x9 = 1 ∧ (v i 8 = 1) ∨ x9 = 0 ∧ ¬ (v i 8 = 1)) → Gd p l e ({ frames := 1, cells := 0, slots := 0, locals := 21 }) s m args below meth c D z Q 0 0 w 35 [some (.ref o), some (.int (iI a)), some (.int (iI i))] (.int (iI x9) :: [.int (iI a)]) := by
      intro x9 hvx9
      refine gd_iadd C dX5_listed_35 ?_
      refine gd_istore_n C dX5_listed_36 (Nat.le_of_ble_eq_true rfl) ?_
      refine gd_iinc C dX5_listed_37 rfl ?_
      refine gd_goto (tgt := 4) C dX5_listed_40 (by decide) ?_
      exact ih _ (by omega) (i + 1) _ (by omega) (by omega) rfl (by rw [sI_s (by omega), ← ha]; omega)
    refine gd_if_ne (tgt := 30) C dX5_listed_17 (by decide) ?_ (fun hc17 => ?_) (fun hc17 => ?_)
    · omega
    · refine gd_iconst C dX5_listed_30 ?_
      refine gd_goto (tgt := 35) C dX5_listed_31 (by decide) ?_
      exact hj17 _ (by omega)
    · refine gd_aload_n C dX5_listed_20 rfl ?_
      refine gm_get C hMv (by decide +kernel) 7 (by decide) (by decide +kernel) rfl dX5_listed_21 rfl ?_
      refine gd_iload_n C dX5_listed_24 rfl ?_
      refine gd_iald C dX5_listed_25 hMv.a7 (by decide) ?_ ?_
      · omega
      refine gd_iconst C dX5_listed_26 ?_
      refine gd_icmp_eq (tgt := 34) C dX5_listed_27 (by decide) ?_ ?_ (fun hc27 => ?_) (fun hc27 => ?_)
      · omega
      · omega
      · refine gd_iconst C dX5_listed_34 ?_
        exact hj17 _ (by omega)
      · refine gd_iconst C dX5_listed_30 ?_
        refine gd_goto (tgt := 35) C dX5_listed_31 (by decide) ?_
        exact hj17 _ (by omega)

set_option maxRecDepth 100000 in
set_option maxHeartbeats 4000000 in
theorem kX5_free {l : Launch} {D : va_G} {ky : Nat → ClassId} {z : Nat} {w : WT} (hl : l.stackTraces = false) {o : Nat} {A : Nat → Nat} {F : Nat → Int → Int} {G : Nat → Int} (hM : MW w ky o A F G) {T : Int → Int} {v B : Int → Int → Int} {sc dn : Int} (hR : RF F G T v B sc dn) (hI : CI T v B sc dn) : Mt l D ky z yX5_free wsX5_free { frames := 1, cells := 0, slots := 0, locals := 22 } [.ref o] w (fun r w' => r = some (.int (iI (128 - sI T 0 128))) ∧ PM w w' ky o A F G (T) (v) (B) (sc) (dn) (F 7) (0)) (fun _ => False) := by
  refine Mt.of (cc := cX5_free) (ret := (some .int)) (maxL := 1) (by decide) rfl (by intro v hv; simp at hv; rcases hv with rfl <;> rfl) (Nat.le_of_ble_eq_true rfl) ?_ hl
  intro p e s m args below meth c C htab hret hname Q hQ
  have hMv := hM.V
  obtain ⟨hR0, hR1, hR2, hR3, hR4⟩ := id hR
  obtain ⟨hi1, hi2, hi3, hi4⟩ := id hI
  refine gd_aload_n C dX5_free_0 rfl ?_
  refine gd_aload_n C dX5_free_1 rfl ?_
  refine gd_callV (n := 0) (ci := 5) (Cn := RX5) (T := TX5) (N := 18) C (kX5_freeNow hl hM hR hI) ?_ rfl gX5_free_X5_freeNow rfl ⟨rfl, by decide, by decide, by decide +kernel⟩ rfl rfl (Nat.le_of_ble_eq_true rfl) rfl dX5_free_2 ⟨⟨by decide, by decide⟩, by decide, by decide⟩ (fun _ h => h.elim) ?_
  · exact ⟨_, by exact hMv.ob⟩
  rintro _ _ ⟨rfl, rfl⟩
  refine gd_callV (n := 1) (ci := 5) (Cn := RX5) (T := TX5) (N := 18) C (kX5_told hl hMv.1 (x := 128 - sI T 0 128)) ?_ rfl gX5_free_X5_told rfl ⟨rfl, by decide, by decide, by decide +kernel⟩ rfl rfl (Nat.le_of_ble_eq_true rfl) rfl dX5_free_5 ⟨⟨by decide, by decide⟩, by decide, by decide⟩ (fun _ h => h.elim) ?_
  · exact ⟨_, by exact hMv.ob⟩
  rintro _ w2 ⟨rfl, hM2⟩
  have hR2b : RF F (nU G 17 0) T v B sc dn := hR.g hR3 hR4
  refine gd_iret C hQ hret dX5_free_8 ?_ ?_
  · exact ⟨rfl, _, _, hM2, hR2b, FN.rf F, rfl, rfl, rfl⟩
  · decide

set_option maxRecDepth 100000 in
set_option maxHeartbeats 4000000 in
theorem kX5_reserved {l : Launch} {D : va_G} {ky : Nat → ClassId} {z : Nat} {w : WT} (hl : l.stackTraces = false) {o : Nat} {A : Nat → Nat} {F : Nat → Int → Int} {G : Nat → Int} (hM : MW w ky o A F G) {T : Int → Int} {v B : Int → Int → Int} {sc dn : Int} (hR : RF F G T v B sc dn) (hI : CI T v B sc dn) : Mt l D ky z yX5_reserved wsX5_reserved { frames := 1, cells := 0, slots := 0, locals := 22 } [.ref o] w (fun r w' => r = some (.int (iI (sI (fun j => v j 4) 0 16))) ∧ PM w w' ky o A F G (T) (v) (B) (sc) (dn) (F 7) (0)) (fun _ => False) := by
  refine Mt.of (cc := cX5_reserved) (ret := (some .int)) (maxL := 1) (by decide) rfl (by intro v hv; simp at hv; rcases hv with rfl <;> rfl) (Nat.le_of_ble_eq_true rfl) ?_ hl
  intro p e s m args below meth c C htab hret hname Q hQ
  have hMv := hM.V
  obtain ⟨hR0, hR1, hR2, hR3, hR4⟩ := id hR
  obtain ⟨hi1, hi2, hi3, hi4⟩ := id hI
  refine gd_aload_n C dX5_reserved_0 rfl ?_
  refine gd_aload_n C dX5_reserved_1 rfl ?_
  refine gd_callV (n := 0) (ci := 5) (Cn := RX5) (T := TX5) (N := 18) C (kX5_reservedNow hl hM hR hI) ?_ rfl gX5_reserved_X5_reservedNow rfl ⟨rfl, by decide, by decide, by decide +kernel⟩ rfl rfl (Nat.le_of_ble_eq_true rfl) rfl dX5_reserved_2 ⟨⟨by decide, by decide⟩, by decide, by decide⟩ (fun _ h => h.elim) ?_
  · exact ⟨_, by exact hMv.ob⟩
  rintro _ _ ⟨rfl, rfl⟩
  refine gd_callV (n := 1) (ci := 5) (Cn := RX5) (T := TX5) (N := 18) C (kX5_told hl hMv.1 (x := sI (fun j => v j 4) 0 16)) ?_ rfl gX5_reserved_X5_told rfl ⟨rfl, by decide, by decide, by decide +kernel⟩ rfl rfl (Nat.le_of_ble_eq_true rfl) rfl dX5_reserved_5 ⟨⟨by decide, by decide⟩, by decide, by decide⟩ (fun _ h => h.elim) ?_
  · exact ⟨_, by exact hMv.ob⟩
  rintro _ w2 ⟨rfl, hM2⟩
  have hR2b : RF F (nU G 17 0) T v B sc dn := hR.g hR3 hR4
  refine gd_iret C hQ hret dX5_reserved_8 ?_ ?_
  · exact ⟨rfl, _, _, hM2, hR2b, FN.rf F, rfl, rfl, rfl⟩
  · decide

set_option maxRecDepth 100000 in
set_option maxHeartbeats 4000000 in
theorem kX5_kept {l : Launch} {D : va_G} {ky : Nat → ClassId} {z : Nat} {w : WT} (hl : l.stackTraces = false) {o : Nat} {A : Nat → Nat} {F : Nat → Int → Int} {G : Nat → Int} (hM : MW w ky o A F G) {T : Int → Int} {v B : Int → Int → Int} {sc dn : Int} (hR : RF F G T v B sc dn) (hI : CI T v B sc dn) : Mt l D ky z yX5_kept wsX5_kept { frames := 1, cells := 0, slots := 0, locals := 22 } [.ref o] w (fun r w' => r = some (.int (iI (sI (fun j => v j 7) 0 16))) ∧ PM w w' ky o A F G (T) (v) (B) (sc) (dn) (F 7) (0)) (fun _ => False) := by
  refine Mt.of (cc := cX5_kept) (ret := (some .int)) (maxL := 1) (by decide) rfl (by intro v hv; simp at hv; rcases hv with rfl <;> rfl) (Nat.le_of_ble_eq_true rfl) ?_ hl
  intro p e s m args below meth c C htab hret hname Q hQ
  have hMv := hM.V
  obtain ⟨hR0, hR1, hR2, hR3, hR4⟩ := id hR
  obtain ⟨hi1, hi2, hi3, hi4⟩ := id hI
  refine gd_aload_n C dX5_kept_0 rfl ?_
  refine gd_aload_n C dX5_kept_1 rfl ?_
  refine gd_callV (n := 0) (ci := 5) (Cn := RX5) (T := TX5) (N := 18) C (kX5_keptNow hl hM hR hI) ?_ rfl gX5_kept_X5_keptNow rfl ⟨rfl, by decide, by decide, by decide +kernel⟩ rfl rfl (Nat.le_of_ble_eq_true rfl) rfl dX5_kept_2 ⟨⟨by decide, by decide⟩, by decide, by decide⟩ (fun _ h => h.elim) ?_
  · exact ⟨_, by exact hMv.ob⟩
  rintro _ _ ⟨rfl, rfl⟩
  refine gd_callV (n := 1) (ci := 5) (Cn := RX5) (T := TX5) (N := 18) C (kX5_told hl hMv.1 (x := sI (fun j => v j 7) 0 16)) ?_ rfl gX5_kept_X5_told rfl ⟨rfl, by decide, by decide, by decide +kernel⟩ rfl rfl (Nat.le_of_ble_eq_true rfl) rfl dX5_kept_5 ⟨⟨by decide, by decide⟩, by decide, by decide⟩ (fun _ h => h.elim) ?_
  · exact ⟨_, by exact hMv.ob⟩
  rintro _ w2 ⟨rfl, hM2⟩
  have hR2b : RF F (nU G 17 0) T v B sc dn := hR.g hR3 hR4
  refine gd_iret C hQ hret dX5_kept_8 ?_ ?_
  · exact ⟨rfl, _, _, hM2, hR2b, FN.rf F, rfl, rfl, rfl⟩
  · decide

set_option maxRecDepth 100000 in
set_option maxHeartbeats 4000000 in
theorem kX5_freeByFiles {l : Launch} {D : va_G} {ky : Nat → ClassId} {z : Nat} {w : WT} (hl : l.stackTraces = false) {o : Nat} {A : Nat → Nat} {F : Nat → Int → Int} {G : Nat → Int} (hM : MW w ky o A F G) {T : Int → Int} {v B : Int → Int → Int} {sc dn : Int} (hR : RF F G T v B sc dn) (hI : CI T v B sc dn) : Mt l D ky z yX5_freeByFiles wsX5_freeByFiles { frames := 1, cells := 0, slots := 0, locals := 22 } [.ref o] w (fun r w' => r = some (.int (iI (128 - sI (fun j => sI (fun p => geI (B j p)) 0 64 + v j 7) 0 16))) ∧ PM w w' ky o A F G (T) (v) (B) (sc) (dn) (F 7) (0)) (fun _ => False) := by
  refine Mt.of (cc := cX5_freeByFiles) (ret := (some .int)) (maxL := 3) (by decide) rfl (by intro v hv; simp at hv; rcases hv with rfl <;> rfl) (Nat.le_of_ble_eq_true rfl) ?_ hl
  intro p e s m args below meth c C htab hret hname Q hQ
  have hMv := hM.V
  obtain ⟨hR0, hR1, hR2, hR3, hR4⟩ := id hR
  obtain ⟨hi1, hi2, hi3, hi4⟩ := id hI
  refine gd_sipush C dX5_freeByFiles_0 (by decide) ?_
  refine gd_aload_n C dX5_freeByFiles_3 rfl ?_
  refine gd_callV (n := 0) (ci := 5) (Cn := RX5) (T := TX5) (N := 18) C (kX5_keptNow hl hM hR hI) ?_ rfl gX5_freeByFiles_X5_keptNow rfl ⟨rfl, by decide, by decide, by decide +kernel⟩ rfl rfl (Nat.le_of_ble_eq_true rfl) rfl dX5_freeByFiles_4 ⟨⟨by decide, by decide⟩, by decide, by decide⟩ (fun _ h => h.elim) ?_
  · exact ⟨_, by exact hMv.ob⟩
  rintro _ _ ⟨rfl, rfl⟩
  refine gd_isub C dX5_freeByFiles_7 ?_
  refine gd_istore_n C dX5_freeByFiles_8 (Nat.le_of_ble_eq_true rfl) ?_
  refine gd_iconst C dX5_freeByFiles_9 ?_
  refine gd_istore_n C dX5_freeByFiles_10 (Nat.le_of_ble_eq_true rfl) ?_
  suffices hloop : ∀ (n : Nat) (i a : Int), 0 ≤ i → i ≤ 1024 → (1024 - i).toNat = n → a = 128 - sI (fun j => v j 7) 0 16 - sI (fun k => geI (F 2 k)) 0 i → Gd p l e ({ frames := 1, cells := 0, slots := 0, locals := 22 }) s m args below meth c D z Q 0 0 w 11 [some (.ref o), some (.int (iI a)), some (.int (iI i))] [] from
    hloop _ 0 _ (by omega) (by omega) rfl (by simp [sI_0])
  intro n
  induction n using Nat.strongRecOn with
  | _ n ih =>
  intro i a h1i h2i hn ha
  have hF2 := fun h => hR.at hI (k := i) ⟨h1i, h⟩
  refine gd_iload_n C dX5_freeByFiles_11 rfl ?_
  refine gd_sipush C dX5_freeByFiles_12 (by decide) ?_
  refine gd_icmp_ge (tgt := 41) C dX5_freeByFiles_15 (by decide) ?_ ?_ (fun hc15 => ?_) (fun hc15 => ?_)
  · omega
  · omega
  · refine gd_aload_n C dX5_freeByFiles_41 rfl ?_
    refine gd_iload_n C dX5_freeByFiles_42 rfl ?_
    refine gd_callV (n := 1) (ci := 5) (Cn := RX5) (T := TX5) (N := 18) C (kX5_told hl hMv.1 (x := a)) ?_ rfl gX5_freeByFiles_X5_told rfl ⟨rfl, by decide, by decide, by decide +kernel⟩ rfl rfl (Nat.le_of_ble_eq_true rfl) rfl dX5_freeByFiles_43 ⟨⟨by decide, by decide⟩, by decide, by decide⟩ (fun _ h => h.elim) ?_
    · exact ⟨_, by exact hMv.ob⟩
    rintro _ w2 ⟨rfl, hM2⟩
    have hR2b : RF F (nU G 17 0) T v B sc dn := hR.g hR3 hR4
    refine gd_iret C hQ hret dX5_freeByFiles_46 ?_ ?_
    · refine ⟨?_, _, _, hM2, hR2b, FN.rf F, rfl, rfl, rfl⟩
      rw [ha, show i = 1024 by omega, hR.map]
      have h9 := sI_add (g := fun j => sI (fun p => geI (B j p)) 0 64) (h := fun j => v j 7) 0 16
      rw [show 128 - sI (fun j => sI (fun p => geI (B j p)) 0 64 + v j 7) 0 16 = 128 - sI (fun j => v j 7) 0 16 - sI (fun j => sI (fun p => geI (B j p)) 0 64) 0 16 by omega]
    · decide
  · refine gd_iload_n C dX5_freeByFiles_18 rfl ?_
    have hF3 := hF2 (by omega)
    refine gd_aload_n C dX5_freeByFiles_19 rfl ?_
    refine gm_get C hMv (by decide +kernel) 2 (by decide) (by decide +kernel) rfl dX5_freeByFiles_20 rfl ?_
    refine gd_iload_n C dX5_freeByFiles_23 rfl ?_
    refine gd_iald C dX5_freeByFiles_24 hMv.a2 (by decide) ?_ ?_
    · omega
    have hj25 : ∀ x9 : Int, (x9 = 1 ∧ (0 ≤ F 2 i) ∨ x9 = 0 ∧ ¬ (0 ≤ F 2 i)) → Gd p l e ({ frames := 1, cells := 0, slots := 0, locals := 22 }) s m args below meth c D z Q 0 0 w 33 [some (.ref o), some (.int (iI a)), some (.int (iI i))] (.int (iI x9) :: [.int (iI a)]) := by
      intro x9 hvx9
      refine gd_isub C dX5_freeByFiles_33 ?_
      refine gd_istore_n C dX5_freeByFiles_34 (Nat.le_of_ble_eq_true rfl) ?_
      refine gd_iinc C dX5_freeByFiles_35 rfl ?_
      refine gd_goto (tgt := 11) C dX5_freeByFiles_38 (by decide) ?_
      exact ih _ (by omega) (i + 1) _ (by omega) (by omega) rfl (by rw [sI_s (by omega), ha]; rcases hvx9 with ⟨h8, h9⟩ | ⟨h8, h9⟩; rw [geI_t h9, h8]; omega; rw [geI_f h9, h8]; omega)
    refine gd_if_lt (tgt := 32) C dX5_freeByFiles_25 (by decide) ?_ (fun hc25 => ?_) (fun hc25 => ?_)
    · omega
    · refine gd_iconst C dX5_freeByFiles_32 ?_
      exact hj25 _ (by omega)
    · refine gd_iconst C dX5_freeByFiles_28 ?_
      refine gd_goto (tgt := 33) C dX5_freeByFiles_29 (by decide) ?_
      exact hj25 _ (by omega)
