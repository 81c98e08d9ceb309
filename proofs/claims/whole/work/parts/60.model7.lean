set_option maxRecDepth 100000 in
set_option maxHeartbeats 4000000 in
theorem kX5_opens {l : Launch} {D : va_G} {ky : Nat → ClassId} {z : Nat} {w : WT} (hl : l.stackTraces = false) {o : Nat} {A : Nat → Nat} {F : Nat → Int → Int} {G : Nat → Int} (hM : MW w ky o A F G) {T : Int → Int} {v B : Int → Int → Int} {sc dn : Int} (hR : RF F G T v B sc dn) (hI : CI T v B sc dn) {q : Int} (hq : InR q) : Mt l D ky z yX5_opens wsX5_opens { frames := 2, cells := 0, slots := 0, locals := 43 } [.ref o, .int (iI q)] w (fun r w' => ((0 ≤ q ∧ q < 16 ∧ v q 2 = 1) ∧ r = some (.int (iI (v q 3))) ∧ PM w w' ky o A F G (T) (v) (B) (sc) (dn) (F 7) (0)) ∨ (¬ (0 ≤ q ∧ q < 16 ∧ v q 2 = 1) ∧ r = some (.int (iI 0)) ∧ PM w w' ky o A F G (T) (v) (B) (sc) (dn) (F 7) (1))) (fun _ => False) := by
  refine Mt.of (cc := cX5_opens) (ret := (some .int)) (maxL := 2) (by decide) rfl (by intro v hv; simp at hv; rcases hv with rfl | rfl <;> rfl) (Nat.le_of_ble_eq_true rfl) ?_ hl
  intro p e s m args below meth c C htab hret hname Q hQ
  have hMv := hM.V
  obtain ⟨hR0, hR1, hR2, hR3, hR4⟩ := id hR
  obtain ⟨hi1, hi2, hi3, hi4⟩ := id hI
  refine gd_aload_n C dX5_opens_0 rfl ?_
  refine gd_aload_n C dX5_opens_1 rfl ?_
  refine gd_iload_n C dX5_opens_2 rfl ?_
  refine gd_callV (n := 1) (ci := 5) (Cn := RX5) (T := TX5) (N := 18) C (kX5_isThere hl hMv.1 hR hI (q := q) hq) ?_ rfl gX5_opens_X5_isThere rfl ⟨rfl, by decide, by decide, by decide +kernel⟩ rfl rfl (Nat.le_of_ble_eq_true rfl) rfl dX5_opens_3 ⟨⟨by decide, by decide⟩, by decide, by decide⟩ (fun _ h => h.elim) ?_
  · exact ⟨_, by exact hMv.ob⟩
  rintro _ _ ⟨b8, rfl, rfl, hb8⟩
  have hb8x : b8 = 0 ∨ b8 = 1 := by omega
  refine gd_callV (n := 1) (ci := 5) (Cn := RX5) (T := TX5) (N := 18) C (kX5_asked hl hMv.1 (x := b8) ?_) ?_ rfl gX5_opens_X5_asked rfl ⟨rfl, by decide, by decide, by decide +kernel⟩ rfl rfl (Nat.le_of_ble_eq_true rfl) rfl dX5_opens_6 ⟨⟨by decide, by decide⟩, by decide, by decide⟩ (fun _ h => h.elim) ?_
  · omega
  · exact ⟨_, by exact hMv.ob⟩
  rintro _ w2 ⟨rfl, hM2⟩
  have hR2b : RF F (nU G 17 (1 - b8)) T v B sc dn := hR.g hR3 hR4
  refine gd_if_eq (tgt := 21) C dX5_opens_9 (by decide) ?_ (fun hc9 => ?_) (fun hc9 => ?_)
  · omega
  · refine gd_iconst C dX5_opens_21 ?_
    refine gd_iret C hQ hret dX5_opens_22 ?_ ?_
    · first
        | exact Or.inl ⟨hTH, by rw [hF3], _, _, hM2, hR2b, FN.rf F, rfl, rfl, by show 1 - b8 = 0; omega⟩
        | exact Or.inr ⟨by omega, rfl, _, _, hM2, hR2b, FN.rf F, rfl, rfl, by show 1 - b8 = 1; omega⟩
    · decide
  · have hTH : 0 ≤ q ∧ q < 16 ∧ v q 2 = 1 := by omega
    have hF3 := (hR1 q hTH.1 hTH.2.1).2.1
    refine gd_aload_n C dX5_opens_12 rfl ?_
    refine gm_get C hM2 (by decide +kernel) 3 (by decide) (by decide +kernel) rfl dX5_opens_13 rfl ?_
    refine gd_iload_n C dX5_opens_16 rfl ?_
    refine gd_iald C dX5_opens_17 hM2.a3 (by decide) ?_ ?_
    · omega
    refine gd_goto (tgt := 22) C dX5_opens_18 (by decide) ?_
    refine gd_iret C hQ hret dX5_opens_22 ?_ ?_
    · first
        | exact Or.inl ⟨hTH, by rw [hF3], _, _, hM2, hR2b, FN.rf F, rfl, rfl, by show 1 - b8 = 0; omega⟩
        | exact Or.inr ⟨by omega, rfl, _, _, hM2, hR2b, FN.rf F, rfl, rfl, by show 1 - b8 = 1; omega⟩
    · decide

set_option maxRecDepth 100000 in
set_option maxHeartbeats 4000000 in
theorem kX5_isFree {l : Launch} {D : va_G} {ky : Nat → ClassId} {z : Nat} {w : WT} (hl : l.stackTraces = false) {o : Nat} {A : Nat → Nat} {F : Nat → Int → Int} {G : Nat → Int} (hM : MW w ky o A F G) {T : Int → Int} {v B : Int → Int → Int} {sc dn : Int} (hR : RF F G T v B sc dn) (hI : CI T v B sc dn) {q : Int} (hq : InR q) : Mt l D ky z yX5_isFree wsX5_isFree { frames := 1, cells := 0, slots := 0, locals := 22 } [.ref o, .int (iI q)] w (fun r w' => ((0 ≤ q ∧ q ≤ 127) ∧ r = some (.int (iI (1 - T q))) ∧ PM w w' ky o A F G (T) (v) (B) (sc) (dn) (F 7) (0)) ∨ (¬ (0 ≤ q ∧ q ≤ 127) ∧ r = some (.int (iI 0)) ∧ PM w w' ky o A F G (T) (v) (B) (sc) (dn) (F 7) (1))) (fun _ => False) := by
  refine Mt.of (cc := cX5_isFree) (ret := (some .boolean)) (maxL := 2) (by decide) rfl (by intro v hv; simp at hv; rcases hv with rfl | rfl <;> rfl) (Nat.le_of_ble_eq_true rfl) ?_ hl
  intro p e s m args below meth c C htab hret hname Q hQ
  have hMv := hM.V
  obtain ⟨hR0, hR1, hR2, hR3, hR4⟩ := id hR
  obtain ⟨hi1, hi2, hi3, hi4⟩ := id hI
  refine gd_aload_n C dX5_isFree_0 rfl ?_
  refine gd_iload_n C dX5_isFree_1 rfl ?_
  refine gd_iconst C dX5_isFree_2 ?_
  refine gd_bipush C dX5_isFree_3 (by decide) ?_
  refine gd_callS (n := 3) C (kX5_in hl (q := q) (lo := 0) (hi := 127) ?_) gX5_isFree_X5_in rfl ⟨by decide, by decide, by decide +kernel⟩ rfl rfl (Nat.le_of_ble_eq_true rfl) rfl dX5_isFree_5 ⟨⟨by decide, by decide⟩, by decide, by decide⟩ (fun _ h => h.elim) ?_
  · omega
  rintro _ _ ⟨b8, rfl, rfl, hb8⟩
  refine gd_callV (n := 1) (ci := 5) (Cn := RX5) (T := TX5) (N := 18) C (kX5_asked hl hMv.1 (x := b8) ?_) ?_ rfl gX5_isFree_X5_asked rfl ⟨rfl, by decide, by decide, by decide +kernel⟩ rfl rfl (Nat.le_of_ble_eq_true rfl) rfl dX5_isFree_8 ⟨⟨by decide, by decide⟩, by decide, by decide⟩ (fun _ h => h.elim) ?_
  · omega
  · exact ⟨_, by exact hMv.ob⟩
  rintro _ w2 ⟨rfl, hM2⟩
  have hR2b : RF F (nU G 17 (1 - b8)) T v B sc dn := hR.g hR3 hR4
  refine gd_if_eq (tgt := 27) C dX5_isFree_11 (by decide) ?_ (fun hc11 => ?_) (fun hc11 => ?_)
  · omega
  · refine gd_iconst C dX5_isFree_27 ?_
    refine gd_zret C hQ hret ?_ dX5_isFree_28 ?_ ?_
    · omega
    · first
        | exact Or.inl ⟨hTH, by rw [show x9 = 1 - T q by omega], _, _, hM2, hR2b, FN.rf F, rfl, rfl, by show 1 - b8 = 0; omega⟩
        | exact Or.inr ⟨by omega, rfl, _, _, hM2, hR2b, FN.rf F, rfl, rfl, by show 1 - b8 = 1; omega⟩
    · decide
  · have hTH : 0 ≤ q ∧ q ≤ 127 := by omega
    have hF0 := hR0 q (by omega) (by omega)
    have hT0 := hi1 q
    refine gd_aload_n C dX5_isFree_14 rfl ?_
    refine gm_get C hM2 (by decide +kernel) 0 (by decide) (by decide +kernel) rfl dX5_isFree_15 rfl ?_
    refine gd_iload_n C dX5_isFree_18 rfl ?_
    refine gd_zald C dX5_isFree_19 hM2.a0 (by decide) ?_ ?_
    · omega
    have hj20 : ∀ x9 : Int, (x9 = 1 ∧ (T q = 0) ∨ x9 = 0 ∧ ¬ (T q = 0)) → Gd p l e ({ frames := 1, cells := 0, slots := 0, locals := 22 }) s m args below meth c D z Q 0 0 w2 28 [some (.ref o), some (.int (iI q))] (.int (iI x9) :: []) := by
      intro x9 hvx9
      refine gd_zret C hQ hret ?_ dX5_isFree_28 ?_ ?_
      · omega
      · first
          | exact Or.inl ⟨hTH, by rw [show x9 = 1 - T q by omega], _, _, hM2, hR2b, FN.rf F, rfl, rfl, by show 1 - b8 = 0; omega⟩
          | exact Or.inr ⟨by omega, rfl, _, _, hM2, hR2b, FN.rf F, rfl, rfl, by show 1 - b8 = 1; omega⟩
      · decide
    refine gd_if_eq (tgt := 27) C dX5_isFree_20 (by decide) ?_ (fun hc20 => ?_) (fun hc20 => ?_)
    · omega
    · refine gd_iconst C dX5_isFree_27 ?_
      exact hj20 _ (by omega)
    · refine gd_iconst C dX5_isFree_23 ?_
      refine gd_goto (tgt := 28) C dX5_isFree_24 (by decide) ?_
      exact hj20 _ (by omega)

set_option maxRecDepth 100000 in
set_option maxHeartbeats 4000000 in
theorem kX5_blockAt {l : Launch} {D : va_G} {ky : Nat → ClassId} {z : Nat} {w : WT} (hl : l.stackTraces = false) {o : Nat} {A : Nat → Nat} {F : Nat → Int → Int} {G : Nat → Int} (hM : MW w ky o A F G) {T : Int → Int} {v B : Int → Int → Int} {sc dn : Int} (hR : RF F G T v B sc dn) (hI : CI T v B sc dn) {q : Int} (hq : InR q) {x : Int} (hx : InR x) : Mt l D ky z yX5_blockAt wsX5_blockAt { frames := 2, cells := 0, slots := 0, locals := 43 } [.ref o, .int (iI q), .int (iI x)] w (fun r w' => ((0 ≤ q ∧ q < 16 ∧ v q 2 = 1) ∧ (0 ≤ x ∧ x ≤ 63) ∧ r = some (.int (iI (B q x))) ∧ PM w w' ky o A F G (T) (v) (B) (sc) (dn) (F 7) (0)) ∨ ∃ t, (t = 1 ∧ ¬ (0 ≤ q ∧ q < 16 ∧ v q 2 = 1) ∨ t = 2 ∧ (0 ≤ q ∧ q < 16 ∧ v q 2 = 1) ∧ ¬ (0 ≤ x ∧ x ≤ 63)) ∧ r = some (.int (iI 0)) ∧ PM w w' ky o A F G (T) (v) (B) (sc) (dn) (F 7) (t)) (fun _ => False) := by
  refine Mt.of (cc := cX5_blockAt) (ret := (some .int)) (maxL := 3) (by decide) rfl (by intro v hv; simp at hv; rcases hv with rfl | rfl | rfl <;> rfl) (Nat.le_of_ble_eq_true rfl) ?_ hl
  intro p e s m args below meth c C htab hret hname Q hQ
  have hMv := hM.V
  obtain ⟨hR0, hR1, hR2, hR3, hR4⟩ := id hR
  obtain ⟨hi1, hi2, hi3, hi4⟩ := id hI
  refine gd_aload_n C dX5_blockAt_0 rfl ?_
  refine gd_aload_n C dX5_blockAt_1 rfl ?_
  refine gd_iload_n C dX5_blockAt_2 rfl ?_
  refine gd_callV (n := 1) (ci := 5) (Cn := RX5) (T := TX5) (N := 18) C (kX5_isThere hl hMv.1 hR hI (q := q) hq) ?_ rfl gX5_blockAt_X5_isThere rfl ⟨rfl, by decide, by decide, by decide +kernel⟩ rfl rfl (Nat.le_of_ble_eq_true rfl) rfl dX5_blockAt_3 ⟨⟨by decide, by decide⟩, by decide, by decide⟩ (fun _ h => h.elim) ?_
  · exact ⟨_, by exact hMv.ob⟩
  rintro _ _ ⟨b8, rfl, rfl, hb8⟩
  have hb8x : b8 = 0 ∨ b8 = 1 := by omega
  refine gd_iload_n C dX5_blockAt_6 rfl ?_
  refine gd_iconst C dX5_blockAt_7 ?_
  refine gd_bipush C dX5_blockAt_8 (by decide) ?_
  refine gd_callS (n := 3) C (kX5_in hl (q := x) (lo := 0) (hi := 63) ?_) gX5_blockAt_X5_in rfl ⟨by decide, by decide, by decide +kernel⟩ rfl rfl (Nat.le_of_ble_eq_true rfl) rfl dX5_blockAt_10 ⟨⟨by decide, by decide⟩, by decide, by decide⟩ (fun _ h => h.elim) ?_
  · omega
  rintro _ _ ⟨b5, rfl, rfl, hb5⟩
  refine gd_callV (n := 2) (ci := 5) (Cn := RX5) (T := TX5) (N := 18) C (kX5_asked_ hl hMv.1 (x := b8) (y := b5) ?_) ?_ rfl gX5_blockAt_X5_asked_ rfl ⟨rfl, by decide, by decide, by decide +kernel⟩ rfl rfl (Nat.le_of_ble_eq_true rfl) rfl dX5_blockAt_13 ⟨⟨by decide, by decide⟩, by decide, by decide⟩ (fun _ h => h.elim) ?_
  · omega
  · exact ⟨_, by exact hMv.ob⟩
  rintro _ w2 ⟨t7, b7, rfl, hM2, hAS⟩
  unfold AS2 at hAS
  have hR2b : RF F (nU G 17 t7) T v B sc dn := hR.g hR3 hR4
  refine gd_if_eq (tgt := 33) C dX5_blockAt_16 (by decide) ?_ (fun hc16 => ?_) (fun hc16 => ?_)
  · omega
  · refine gd_iconst C dX5_blockAt_33 ?_
    refine gd_iret C hQ hret dX5_blockAt_34 ?_ ?_
    · first
        | exact Or.inl ⟨hTH, hRG, by rw [hF2], _, _, hM2, hR2b, FN.rf F, rfl, rfl, rfl⟩
        | exact Or.inr ⟨t7, by omega, rfl, _, _, hM2, hR2b, FN.rf F, rfl, rfl, rfl⟩
    · decide
  · obtain ⟨ht7, hTH, hRG⟩ : t7 = 0 ∧ (0 ≤ q ∧ q < 16 ∧ v q 2 = 1) ∧ (0 ≤ x ∧ x ≤ 63) := by
      rcases hAS with h9 | h9
      · refine ⟨by omega, by omega, by omega⟩
      · exfalso; omega
    subst ht7
    have hF2 := hR2 q x hTH.1 hTH.2.1 hRG.1 (by omega)
    refine gd_aload_n C dX5_blockAt_19 rfl ?_
    refine gm_get C hM2 (by decide +kernel) 2 (by decide) (by decide +kernel) rfl dX5_blockAt_20 rfl ?_
    refine gd_bipush C dX5_blockAt_23 (by decide) ?_
    refine gd_iload_n C dX5_blockAt_25 rfl ?_
    refine gd_imul C dX5_blockAt_26 ?_
    refine gd_iload_n C dX5_blockAt_27 rfl ?_
    refine gd_iadd C dX5_blockAt_28 ?_
    refine gd_iald C dX5_blockAt_29 hM2.a2 (by decide) ?_ ?_
    · omega
    refine gd_goto (tgt := 34) C dX5_blockAt_30 (by decide) ?_
    refine gd_iret C hQ hret dX5_blockAt_34 ?_ ?_
    · first
        | exact Or.inl ⟨hTH, hRG, by rw [hF2], _, _, hM2, hR2b, FN.rf F, rfl, rfl, rfl⟩
        | exact Or.inr ⟨t7, by omega, rfl, _, _, hM2, hR2b, FN.rf F, rfl, rfl, rfl⟩
    · decide

set_option maxRecDepth 100000 in
set_option maxHeartbeats 4000000 in
theorem kX5_isBegin {l : Launch} {D : va_G} {ky : Nat → ClassId} {z : Nat} {w : WT} (hl : l.stackTraces = false) {o : Nat} {A : Nat → Nat} {F : Nat → Int → Int} {G : Nat → Int} (hM : MW w ky o A F G) {T : Int → Int} {v B : Int → Int → Int} {sc dn : Int} (hR : RF F G T v B sc dn) {q x : Int} (hq : 0 ≤ q ∧ q < 16) (hx : 0 ≤ x ∧ x < 64) (hb : ∀ p, -2 ≤ B q p ∧ B q p ≤ 127) : Mt l D ky z yX5_isBegin wsX5_isBegin { frames := 0, cells := 0, slots := 0, locals := 0 } [.ref o, .int (iI q), .int (iI x)] w (fun r w' => w = w' ∧ r = some (.int (iI (bE (B q) x)))) (fun _ => False) := by
  refine Mt.of (cc := cX5_isBegin) (ret := (some .boolean)) (maxL := 4) (by decide) rfl (by intro v hv; simp at hv; rcases hv with rfl | rfl | rfl <;> rfl) (Nat.le_of_ble_eq_true rfl) ?_ hl
  intro p e s m args below meth c C htab hret hname Q hQ
  have hMv := hM.V
  obtain ⟨hR0, hR1, hR2, hR3, hR4⟩ := id hR
  refine gd_bipush C dX5_isBegin_0 (by decide) ?_
  refine gd_iload_n C dX5_isBegin_2 rfl ?_
  refine gd_imul C dX5_isBegin_3 ?_
  refine gd_iload_n C dX5_isBegin_4 rfl ?_
  refine gd_iadd C dX5_isBegin_5 ?_
  refine gd_istore_n C dX5_isBegin_6 (Nat.le_of_ble_eq_true rfl) ?_
  have hF2 := hR2 q x hq.1 hq.2 hx.1 hx.2
  have hF3 : 0 < x → F 2 (64 * q + x - 1) = B q (x - 1) := fun h => by
    have h1 := hR2 q (x - 1) hq.1 hq.2 (by omega) (by omega)
    rwa [show 64 * q + (x - 1) = 64 * q + x - 1 by omega] at h1
  have hp0 := hb x
  have hp1 := hb (x - 1)
  have hbE : (bE (B q) x = 1 ∧ (0 ≤ B q x ∧ ¬ (0 < x ∧ 0 ≤ B q (x - 1) ∧ B q x = B q (x - 1) + 1))) ∨ (bE (B q) x = 0 ∧ ¬ (0 ≤ B q x ∧ ¬ (0 < x ∧ 0 ≤ B q (x - 1) ∧ B q x = B q (x - 1) + 1))) := by
    unfold bE
    split
    · exact Or.inl ⟨rfl, by assumption⟩
    · exact Or.inr ⟨rfl, by assumption⟩
  refine gd_aload_n C dX5_isBegin_7 rfl ?_
  refine gm_get C hMv (by decide +kernel) 2 (by decide) (by decide +kernel) rfl dX5_isBegin_8 rfl ?_
  refine gd_iload_n C dX5_isBegin_11 rfl ?_
  refine gd_iald C dX5_isBegin_12 hMv.a2 (by decide) ?_ ?_
  · omega
  refine gd_if_lt (tgt := 54) C dX5_isBegin_13 (by decide) ?_ (fun hc13 => ?_) (fun hc13 => ?_)
  · omega
  · refine gd_iconst C dX5_isBegin_54 ?_
    refine gd_zret C hQ hret ?_ dX5_isBegin_55 ?_ ?_
    · omega
    · first
        | exact ⟨rfl, by rw [show bE (B q) x = 1 by omega]⟩
        | exact ⟨rfl, by rw [show bE (B q) x = 0 by omega]⟩
    · decide
  · refine gd_iload_n C dX5_isBegin_16 rfl ?_
    refine gd_if_eq (tgt := 50) C dX5_isBegin_17 (by decide) ?_ (fun hc17 => ?_) (fun hc17 => ?_)
    · omega
    · refine gd_iconst C dX5_isBegin_50 ?_
      refine gd_goto (tgt := 55) C dX5_isBegin_51 (by decide) ?_
      refine gd_zret C hQ hret ?_ dX5_isBegin_55 ?_ ?_
      · omega
      · first
          | exact ⟨rfl, by rw [show bE (B q) x = 1 by omega]⟩
          | exact ⟨rfl, by rw [show bE (B q) x = 0 by omega]⟩
      · decide
    · replace hF3 := hF3 (by omega)
      refine gd_aload_n C dX5_isBegin_20 rfl ?_
      refine gm_get C hMv (by decide +kernel) 2 (by decide) (by decide +kernel) rfl dX5_isBegin_21 rfl ?_
      refine gd_iload_n C dX5_isBegin_24 rfl ?_
      refine gd_iconst C dX5_isBegin_25 ?_
      refine gd_isub C dX5_isBegin_26 ?_
      refine gd_iald C dX5_isBegin_27 hMv.a2 (by decide) ?_ ?_
      · omega
      refine gd_if_lt (tgt := 50) C dX5_isBegin_28 (by decide) ?_ (fun hc28 => ?_) (fun hc28 => ?_)
      · omega
      · refine gd_iconst C dX5_isBegin_50 ?_
        refine gd_goto (tgt := 55) C dX5_isBegin_51 (by decide) ?_
        refine gd_zret C hQ hret ?_ dX5_isBegin_55 ?_ ?_
        · omega
        · first
            | exact ⟨rfl, by rw [show bE (B q) x = 1 by omega]⟩
            | exact ⟨rfl, by rw [show bE (B q) x = 0 by omega]⟩
        · decide
      · refine gd_aload_n C dX5_isBegin_31 rfl ?_
        refine gm_get C hMv (by decide +kernel) 2 (by decide) (by decide +kernel) rfl dX5_isBegin_32 rfl ?_
        refine gd_iload_n C dX5_isBegin_35 rfl ?_
        refine gd_iconst C dX5_isBegin_36 ?_
        refine gd_isub C dX5_isBegin_37 ?_
        refine gd_iald C dX5_isBegin_38 hMv.a2 (by decide) ?_ ?_
        · omega
        refine gd_iconst C dX5_isBegin_39 ?_
        refine gd_iadd C dX5_isBegin_40 ?_
        refine gd_aload_n C dX5_isBegin_41 rfl ?_
        refine gm_get C hMv (by decide +kernel) 2 (by decide) (by decide +kernel) rfl dX5_isBegin_42 rfl ?_
        refine gd_iload_n C dX5_isBegin_45 rfl ?_
        refine gd_iald C dX5_isBegin_46 hMv.a2 (by decide) ?_ ?_
        · omega
        refine gd_icmp_eq (tgt := 54) C dX5_isBegin_47 (by decide) ?_ ?_ (fun hc47 => ?_) (fun hc47 => ?_)
        · omega
        · omega
        · refine gd_iconst C dX5_isBegin_54 ?_
          refine gd_zret C hQ hret ?_ dX5_isBegin_55 ?_ ?_
          · omega
          · first
              | exact ⟨rfl, by rw [show bE (B q) x = 1 by omega]⟩
              | exact ⟨rfl, by rw [show bE (B q) x = 0 by omega]⟩
          · decide
        · refine gd_iconst C dX5_isBegin_50 ?_
          refine gd_goto (tgt := 55) C dX5_isBegin_51 (by decide) ?_
          refine gd_zret C hQ hret ?_ dX5_isBegin_55 ?_ ?_
          · omega
          · first
              | exact ⟨rfl, by rw [show bE (B q) x = 1 by omega]⟩
              | exact ⟨rfl, by rw [show bE (B q) x = 0 by omega]⟩
          · decide

set_option maxRecDepth 100000 in
set_option maxHeartbeats 4000000 in
theorem kX5_extentsOf {l : Launch} {D : va_G} {ky : Nat → ClassId} {z : Nat} {w : WT} (hl : l.stackTraces = false) {o : Nat} {A : Nat → Nat} {F : Nat → Int → Int} {G : Nat → Int} (hM : MW w ky o A F G) {T : Int → Int} {v B : Int → Int → Int} {sc dn : Int} (hR : RF F G T v B sc dn) {q : Int} (hq : 0 ≤ q ∧ q < 16) (hb : ∀ p, -2 ≤ B q p ∧ B q p ≤ 127) : Mt l D ky z yX5_extentsOf wsX5_extentsOf { frames := 1, cells := 0, slots := 0, locals := 23 } [.ref o, .int (iI q)] w (fun r w' => w = w' ∧ r = some (.int (iI (sI (bE (B q)) 0 64)))) (fun _ => False) := by
  refine Mt.of (cc := cX5_extentsOf) (ret := (some .int)) (maxL := 4) (by decide) rfl (by intro v hv; simp at hv; rcases hv with rfl | rfl <;> rfl) (Nat.le_of_ble_eq_true rfl) ?_ hl
  intro p e s m args below meth c C htab hret hname Q hQ
  have hMv := hM.V
  obtain ⟨hR0, hR1, hR2, hR3, hR4⟩ := id hR
  refine gd_iconst C dX5_extentsOf_0 ?_
  refine gd_istore_n C dX5_extentsOf_1 (Nat.le_of_ble_eq_true rfl) ?_
  refine gd_iconst C dX5_extentsOf_2 ?_
  refine gd_istore_n C dX5_extentsOf_3 (Nat.le_of_ble_eq_true rfl) ?_
  suffices hloop : ∀ (n : Nat) (i a : Int), 0 ≤ i → i ≤ 64 → (64 - i).toNat = n → a = sI (bE (B q)) 0 i → Gd p l e ({ frames := 1, cells := 0, slots := 0, locals := 23 }) s m args below meth c D z Q 0 0 w 4 [some (.ref o), some (.int (iI q)), some (.int (iI a)), some (.int (iI i))] [] from
    hloop _ 0 _ (by omega) (by omega) rfl (by simp [sI_0])
  intro n
  induction n using Nat.strongRecOn with
  | _ n ih =>
  intro i a h1i h2i hn ha
  have hbd := bE_bd (B q) i
  refine gd_iload_n C dX5_extentsOf_4 rfl ?_
  refine gd_bipush C dX5_extentsOf_5 (by decide) ?_
  refine gd_icmp_ge (tgt := 33) C dX5_extentsOf_7 (by decide) ?_ ?_ (fun hc7 => ?_) (fun hc7 => ?_)
  · omega
  · omega
  · refine gd_iload_n C dX5_extentsOf_33 rfl ?_
    refine gd_iret C hQ hret dX5_extentsOf_34 ?_ ?_
    · exact ⟨rfl, by rw [ha, show i = 64 by omega]⟩
    · decide
  · refine gd_iload_n C dX5_extentsOf_10 rfl ?_
    refine gd_aload_n C dX5_extentsOf_11 rfl ?_
    refine gd_iload_n C dX5_extentsOf_12 rfl ?_
    refine gd_iload_n C dX5_extentsOf_13 rfl ?_
    refine gd_callV (n := 2) (ci := 5) (Cn := RX5) (T := TX5) (N := 18) C (kX5_isBegin hl hM hR (q := q) (x := i) hq ?_ hb) ?_ rfl gX5_extentsOf_X5_isBegin rfl ⟨rfl, by decide, by decide, by decide +kernel⟩ rfl rfl (Nat.le_of_ble_eq_true rfl) rfl dX5_extentsOf_14 ⟨⟨by decide, by decide⟩, by decide, by decide⟩ (fun _ h => h.elim) ?_
    · omega
    · exact ⟨_, by exact hMv.ob⟩
    rintro _ _ ⟨rfl, rfl⟩
    have hj17 : ∀ x9 : Int, (x9 = 1 ∧ (bE (B q) i = 1) ∨ x9 = 0 ∧ ¬ (bE (B q) i = 1)) → Gd p l e ({ frames := 1, cells := 0, slots := 0, locals := 23 }) s m args below meth c D z Q 0 0 w 25 [some (.ref o), some (.int (iI q)), some (.int (iI a)), some (.int (iI i))] (.int (iI x9) :: [.int (iI a)]) := by
      intro x9 hvx9
      refine gd_iadd C dX5_extentsOf_25 ?_
      refine gd_istore_n C dX5_extentsOf_26 (Nat.le_of_ble_eq_true rfl) ?_
      refine gd_iinc C dX5_extentsOf_27 rfl ?_
      refine gd_goto (tgt := 4) C dX5_extentsOf_30 (by decide) ?_
      exact ih _ (by omega) (i + 1) _ (by omega) (by omega) rfl (by rw [sI_s (by omega), ← ha]; omega)
    refine gd_if_eq (tgt := 24) C dX5_extentsOf_17 (by decide) ?_ (fun hc17 => ?_) (fun hc17 => ?_)
    · omega
    · refine gd_iconst C dX5_extentsOf_24 ?_
      exact hj17 _ (by omega)
    · refine gd_iconst C dX5_extentsOf_20 ?_
      refine gd_goto (tgt := 25) C dX5_extentsOf_21 (by decide) ?_
      exact hj17 _ (by omega)

set_option maxRecDepth 100000 in
set_option maxHeartbeats 4000000 in
theorem kX5_extents {l : Launch} {D : va_G} {ky : Nat → ClassId} {z : Nat} {w : WT} (hl : l.stackTraces = false) {o : Nat} {A : Nat → Nat} {F : Nat → Int → Int} {G : Nat → Int} (hM : MW w ky o A F G) {T : Int → Int} {v B : Int → Int → Int} {sc dn : Int} (hR : RF F G T v B sc dn) (hI : CI T v B sc dn) {q : Int} (hq : InR q) : Mt l D ky z yX5_extents wsX5_extents { frames := 2, cells := 0, slots := 0, locals := 46 } [.ref o, .int (iI q)] w (fun r w' => ((0 ≤ q ∧ q < 16 ∧ v q 2 = 1) ∧ r = some (.int (iI (sI (bE (B q)) 0 64))) ∧ PM w w' ky o A F G (T) (v) (B) (sc) (dn) (F 7) (0)) ∨ (¬ (0 ≤ q ∧ q < 16 ∧ v q 2 = 1) ∧ r = some (.int (iI 0)) ∧ PM w w' ky o A F G (T) (v) (B) (sc) (dn) (F 7) (1))) (fun _ => False) := by
  refine Mt.of (cc := cX5_extents) (ret := (some .int)) (maxL := 2) (by decide) rfl (by intro v hv; simp at hv; rcases hv with rfl | rfl <;> rfl) (Nat.le_of_ble_eq_true rfl) ?_ hl
  intro p e s m args below meth c C htab hret hname Q hQ
  have hMv := hM.V
  obtain ⟨hR0, hR1, hR2, hR3, hR4⟩ := id hR
  obtain ⟨hi1, hi2, hi3, hi4⟩ := id hI
  refine gd_aload_n C dX5_extents_0 rfl ?_
  refine gd_aload_n C dX5_extents_1 rfl ?_
  refine gd_iload_n C dX5_extents_2 rfl ?_
  refine gd_callV (n := 1) (ci := 5) (Cn := RX5) (T := TX5) (N := 18) C (kX5_isThere hl hMv.1 hR hI (q := q) hq) ?_ rfl gX5_extents_X5_isThere rfl ⟨rfl, by decide, by decide, by decide +kernel⟩ rfl rfl (Nat.le_of_ble_eq_true rfl) rfl dX5_extents_3 ⟨⟨by decide, by decide⟩, by decide, by decide⟩ (fun _ h => h.elim) ?_
  · exact ⟨_, by exact hMv.ob⟩
  rintro _ _ ⟨b8, rfl, rfl, hb8⟩
  have hb8x : b8 = 0 ∨ b8 = 1 := by omega
  refine gd_callV (n := 1) (ci := 5) (Cn := RX5) (T := TX5) (N := 18) C (kX5_asked hl hMv.1 (x := b8) ?_) ?_ rfl gX5_extents_X5_asked rfl ⟨rfl, by decide, by decide, by decide +kernel⟩ rfl rfl (Nat.le_of_ble_eq_true rfl) rfl dX5_extents_6 ⟨⟨by decide, by decide⟩, by decide, by decide⟩ (fun _ h => h.elim) ?_
  · omega
  · exact ⟨_, by exact hMv.ob⟩
  rintro _ w2 ⟨rfl, hM2⟩
  have hR2b : RF F (nU G 17 (1 - b8)) T v B sc dn := hR.g hR3 hR4
  refine gd_if_eq (tgt := 20) C dX5_extents_9 (by decide) ?_ (fun hc9 => ?_) (fun hc9 => ?_)
  · omega
  · refine gd_iconst C dX5_extents_20 ?_
    refine gd_iret C hQ hret dX5_extents_21 ?_ ?_
    · first
        | exact Or.inl ⟨hTH, rfl, _, _, hM2, hR2b, FN.rf F, rfl, rfl, by show 1 - b8 = 0; omega⟩
        | exact Or.inr ⟨by omega, rfl, _, _, hM2, hR2b, FN.rf F, rfl, rfl, by show 1 - b8 = 1; omega⟩
    · decide
  · have hTH : 0 ≤ q ∧ q < 16 ∧ v q 2 = 1 := by omega
    refine gd_aload_n C dX5_extents_12 rfl ?_
    refine gd_iload_n C dX5_extents_13 rfl ?_
    refine gd_callV (n := 1) (ci := 5) (Cn := RX5) (T := TX5) (N := 18) C (kX5_extentsOf hl hM2.1 hR2b (q := q) ⟨hTH.1, hTH.2.1⟩ (hI.bb q hTH.1 hTH.2.1)) ?_ rfl gX5_extents_X5_extentsOf rfl ⟨rfl, by decide, by decide, by decide +kernel⟩ rfl rfl (Nat.le_of_ble_eq_true rfl) rfl dX5_extents_14 ⟨⟨by decide, by decide⟩, by decide, by decide⟩ (fun _ h => h.elim) ?_
    · exact ⟨_, by exact hM2.ob⟩
    rintro _ _ ⟨rfl, rfl⟩
    refine gd_goto (tgt := 21) C dX5_extents_17 (by decide) ?_
    refine gd_iret C hQ hret dX5_extents_21 ?_ ?_
    · first
        | exact Or.inl ⟨hTH, rfl, _, _, hM2, hR2b, FN.rf F, rfl, rfl, by show 1 - b8 = 0; omega⟩
        | exact Or.inr ⟨by omega, rfl, _, _, hM2, hR2b, FN.rf F, rfl, rfl, by show 1 - b8 = 1; omega⟩
    · decide

set_option maxRecDepth 100000 in
set_option maxHeartbeats 4000000 in
theorem kX5_extent {l : Launch} {D : va_G} {ky : Nat → ClassId} {z : Nat} {w : WT} (hl : l.stackTraces = false) {o : Nat} {A : Nat → Nat} {F : Nat → Int → Int} {G : Nat → Int} (hM : MW w ky o A F G) {T : Int → Int} {v B : Int → Int → Int} {sc dn : Int} (hR : RF F G T v B sc dn) (hI : CI T v B sc dn) {q : Int} (hq : InR q) {k : Int} (hkr : InR k) : Mt l D ky z yX5_extent wsX5_extent { frames := 2, cells := 0, slots := 0, locals := 46 } [.ref o, .int (iI q), .int (iI k)] w (fun r w' => ((0 ≤ q ∧ q < 16 ∧ v q 2 = 1) ∧ ∃ x y : Int, 0 ≤ x ∧ x < 64 ∧ bE (B q) x = 1 ∧ sI (bE (B q)) 0 x = k ∧ x < y ∧ y ≤ 64 ∧ (∀ j, x < j → j < y → jN (B q) j = 1) ∧ (y = 64 ∨ jN (B q) y = 0) ∧ r = some (.int (iI (10000 * x + 100 * (y - x) + B q x % 100))) ∧ PM w w' ky o A F G (T) (v) (B) (sc) (dn) (F 7) (0)) ∨ (¬ ((0 ≤ q ∧ q < 16 ∧ v q 2 = 1) ∧ 0 ≤ k ∧ k ≤ sI (bE (B q)) 0 64 - 1) ∧ r = some (.int (iI 0)) ∧ PM w w' ky o A F G (T) (v) (B) (sc) (dn) (F 7) (1))) (fun _ => False) := by
  refine Mt.of (cc := cX5_extent) (ret := (some .int)) (maxL := 6) (by decide) rfl (by intro v hv; simp at hv; rcases hv with rfl | rfl | rfl <;> rfl) (Nat.le_of_ble_eq_true rfl) ?_ hl
  intro p e s m args below meth c C htab hret hname Q hQ
  have hMv := hM.V
  obtain ⟨hR0, hR1, hR2, hR3, hR4⟩ := id hR
  obtain ⟨hi1, hi2, hi3, hi4⟩ := id hI
  refine gd_aload_n C dX5_extent_0 rfl ?_
  refine gd_iload_n C dX5_extent_1 rfl ?_
  refine gd_callV (n := 1) (ci := 5) (Cn := RX5) (T := TX5) (N := 18) C (kX5_isThere hl hMv.1 hR hI (q := q) hq) ?_ rfl gX5_extent_X5_isThere rfl ⟨rfl, by decide, by decide, by decide +kernel⟩ rfl rfl (Nat.le_of_ble_eq_true rfl) rfl dX5_extent_2 ⟨⟨by decide, by decide⟩, by decide, by decide⟩ (fun _ h => h.elim) ?_
  · exact ⟨_, by exact hMv.ob⟩
  rintro _ _ ⟨b8, rfl, rfl, hb8⟩
  have hb8x : b8 = 0 ∨ b8 = 1 := by omega
  refine gd_istore_n C dX5_extent_5 (Nat.le_of_ble_eq_true rfl) ?_
  refine gd_aload_n C dX5_extent_6 rfl ?_
  refine gd_iload_n C dX5_extent_7 rfl ?_
  have hj8 : ∀ y9 : Int, (y9 = 1 ∧ ((0 ≤ q ∧ q < 16 ∧ v q 2 = 1) ∧ 0 ≤ k ∧ k ≤ sI (bE (B q)) 0 64 - 1) ∨ y9 = 0 ∧ ¬ ((0 ≤ q ∧ q < 16 ∧ v q 2 = 1) ∧ 0 ≤ k ∧ k ≤ sI (bE (B q)) 0 64 - 1)) → Gd p l e ({ frames := 2, cells := 0, slots := 0, locals := 46 }) s m args below meth c D z Q 0 0 w 31 [some (.ref o), some (.int (iI q)), some (.int (iI k)), some (.int (iI b8)), none, none] (.int (iI y9) :: [.ref o]) := by
    intro y9 hvy9
    refine gd_callV (n := 1) (ci := 5) (Cn := RX5) (T := TX5) (N := 18) C (kX5_asked hl hMv.1 (x := y9) ?_) ?_ rfl gX5_extent_X5_asked rfl ⟨rfl, by decide, by decide, by decide +kernel⟩ rfl rfl (Nat.le_of_ble_eq_true rfl) rfl dX5_extent_31 ⟨⟨by decide, by decide⟩, by decide, by decide⟩ (fun _ h => h.elim) ?_
    · omega
    · exact ⟨_, by exact hMv.ob⟩
    rintro _ w2 ⟨rfl, hM2⟩
    have hR2b : RF F (nU G 17 (1 - y9)) T v B sc dn := hR.g hR3 hR4
    refine gd_if_ne (tgt := 39) C dX5_extent_34 (by decide) ?_ (fun hc34 => ?_) (fun hc34 => ?_)
    · omega
    · obtain ⟨hTH, hk0, hkx⟩ : (0 ≤ q ∧ q < 16 ∧ v q 2 = 1) ∧ 0 ≤ k ∧ k ≤ sI (bE (B q)) 0 64 - 1 := by omega
      obtain ⟨f0, f2, f3, f4, f5, f6, f8, f9, f10, fp⟩ := hi2 q hTH.1 hTH.2.1
      have hexb := sI_bd (g := bE (B q)) (a := 0) (b := 64) (bE_bd (B q)) (by omega)
      refine gd_iconst C dX5_extent_39 ?_
      refine gd_istore C dX5_extent_40 (Nat.le_of_ble_eq_true rfl) ?_
      refine gd_iconst C dX5_extent_42 ?_
      refine gd_istore C dX5_extent_43 (Nat.le_of_ble_eq_true rfl) ?_
      suffices hloop : ∀ (n : Nat) (x a : Int), -1 ≤ x → x ≤ 63 → (64 - x).toNat = n → a = sI (bE (B q)) 0 (x + 1) - 1 → a ≤ k → (x = -1 ∨ bE (B q) x = 1 ∨ a < k) → Gd p l e ({ frames := 2, cells := 0, slots := 0, locals := 46 }) s m args below meth c D z Q 0 0 w2 45 [some (.ref o), some (.int (iI q)), some (.int (iI k)), none, some (.int (iI x)), some (.int (iI a))] [] from
        Gd.sub (by repeat (first | exact Lsb.nil | exact Lsb.rf _ | refine Lsb.keep ?_ | refine Lsb.drop ?_)) (hloop _ (-1) (-1) (by omega) (by omega) rfl (by simp [sI_0]) (by omega) (Or.inl rfl))
      intro n
      induction n using Nat.strongRecOn with
      | _ n ih =>
      intro x a h1x h2x hn ha hak hxl
      have hx63 : x = 63 → ¬ a < k := fun h h9 => by
        subst h
        have e9 : (63 : Int) + 1 = 64 := rfl
        rw [e9] at ha
        omega
      have hbd := bE_bd (B q) (x + 1)
      have hsb := sI_bd (g := bE (B q)) (a := 0) (b := x + 1) (bE_bd (B q)) (by omega)
      refine gd_iload C dX5_extent_45 rfl ?_
      refine gd_iload_n C dX5_extent_47 rfl ?_
      refine gd_icmp_ge (tgt := 77) C dX5_extent_48 (by decide) ?_ ?_ (fun hc48 => ?_) (fun hc48 => ?_)
      · omega
      · omega
      · have hx1 : bE (B q) x = 1 := by
          rcases hxl with h9 | h9 | h9
          · exfalso
            subst h9
            rw [show (-1 : Int) + 1 = 0 from rfl, sI_0] at ha
            omega
          · exact h9
          · omega
        have hx0 : 0 ≤ x := by
          rcases hxl with h9 | h9 | h9
          · exfalso
            subst h9
            rw [show (-1 : Int) + 1 = 0 from rfl, sI_0] at ha
            omega
          · by_cases h8 : 0 ≤ x
            · exact h8
            · exfalso
              have h7 : x = -1 := by omega
              subst h7
              rw [show (-1 : Int) + 1 = 0 from rfl, sI_0] at ha
              omega
          · omega
        have hsx : sI (bE (B q)) 0 x = k := by
          have h9 := sI_s (g := bE (B q)) (a := 0) (b := x) hx0
          omega
        refine gd_iconst C dX5_extent_77 ?_
        refine gd_istore C dX5_extent_78 (Nat.le_of_ble_eq_true rfl) ?_
        suffices hloop2 : ∀ (n : Nat) (y : Int), 1 ≤ y → x + y ≤ 64 → (64 - (x + y)).toNat = n → (∀ j, x < j → j < x + y → jN (B q) j = 1) → Gd p l e ({ frames := 2, cells := 0, slots := 0, locals := 46 }) s m args below meth c D z Q 0 0 w2 80 [some (.ref o), some (.int (iI q)), some (.int (iI k)), none, some (.int (iI x)), some (.int (iI y))] [] from
          hloop2 _ 1 (by omega) (by omega) rfl (fun j h1 h2 => by omega)
        clear ih
        intro n
        induction n using Nat.strongRecOn with
        | _ n ih =>
        intro y h1y h2y hn hjy
        have hFy : x + y < 64 → F 2 (64 * q + x + y) = B q (x + y) := fun h => by
          have h1 := hR2 q (x + y) hTH.1 hTH.2.1 (by omega) h
          rwa [show 64 * q + (x + y) = 64 * q + x + y by omega] at h1
        have hpy := fp (x + y)
        have hjb : (0 ≤ B q (x + y) ∧ bE (B q) (x + y) = 0 ∧ jN (B q) (x + y) = 1) ∨ (¬ (0 ≤ B q (x + y) ∧ bE (B q) (x + y) = 0) ∧ jN (B q) (x + y) = 0) := by
          unfold bE jN
          split <;> split <;> omega
        refine gd_iload C dX5_extent_80 rfl ?_
        refine gd_iload C dX5_extent_82 rfl ?_
        refine gd_iadd C dX5_extent_84 ?_
        refine gd_bipush C dX5_extent_85 (by decide) ?_
        refine gd_icmp_ge (tgt := 127) C dX5_extent_87 (by decide) ?_ ?_ (fun hc87 => ?_) (fun hc87 => ?_)
        · omega
        · omega
        · have hF9 := hR2 q x hTH.1 hTH.2.1 hx0 (by omega)
          have hB0 : 0 ≤ B q x := by
            have h9 := hx1
            unfold bE at h9
            split at h9
            · rename_i h8
              exact h8.1
            · omega
          have hpx := fp x
          refine gd_sipush C dX5_extent_127 (by decide) ?_
          refine gd_iload C dX5_extent_130 rfl ?_
          refine gd_imul C dX5_extent_132 ?_
          refine gd_bipush C dX5_extent_133 (by decide) ?_
          refine gd_iload C dX5_extent_135 rfl ?_
          refine gd_imul C dX5_extent_137 ?_
          refine gd_iadd C dX5_extent_138 ?_
          refine gd_aload_n C dX5_extent_139 rfl ?_
          refine gm_get C hM2 (by decide +kernel) 2 (by decide) (by decide +kernel) rfl dX5_extent_140 rfl ?_
          refine gd_bipush C dX5_extent_143 (by decide) ?_
          refine gd_iload_n C dX5_extent_145 rfl ?_
          refine gd_imul C dX5_extent_146 ?_
          refine gd_iload C dX5_extent_147 rfl ?_
          refine gd_iadd C dX5_extent_149 ?_
          refine gd_iald C dX5_extent_150 hM2.a2 (by decide) ?_ ?_
          · omega
          refine gd_bipush C dX5_extent_151 (by decide) ?_
          refine gd_irem C dX5_extent_153 ?_ ?_
          · omega
          refine gd_iadd C dX5_extent_154 ?_
          refine gd_iret C hQ hret dX5_extent_155 ?_ ?_
          · refine Or.inl ⟨hTH, x, x + y, hx0, by omega, hx1, hsx, by omega, by omega, hjy, ?_, ?_, _, _, hM2, hR2b, FN.rf F, rfl, rfl, by show 1 - y9 = 0; omega⟩
            · omega
            · rw [hF9, show x + y - x = y by omega]
          · decide
        · replace hFy := hFy (by omega)
          refine gd_aload_n C dX5_extent_90 rfl ?_
          refine gm_get C hM2 (by decide +kernel) 2 (by decide) (by decide +kernel) rfl dX5_extent_91 rfl ?_
          refine gd_bipush C dX5_extent_94 (by decide) ?_
          refine gd_iload_n C dX5_extent_96 rfl ?_
          refine gd_imul C dX5_extent_97 ?_
          refine gd_iload C dX5_extent_98 rfl ?_
          refine gd_iadd C dX5_extent_100 ?_
          refine gd_iload C dX5_extent_101 rfl ?_
          refine gd_iadd C dX5_extent_103 ?_
          refine gd_iald C dX5_extent_104 hM2.a2 (by decide) ?_ ?_
          · omega
          refine gd_if_lt (tgt := 127) C dX5_extent_105 (by decide) ?_ (fun hc105 => ?_) (fun hc105 => ?_)
          · omega
          · have hF9 := hR2 q x hTH.1 hTH.2.1 hx0 (by omega)
            have hB0 : 0 ≤ B q x := by
              have h9 := hx1
              unfold bE at h9
              split at h9
              · rename_i h8
                exact h8.1
              · omega
            have hpx := fp x
            refine gd_sipush C dX5_extent_127 (by decide) ?_
            refine gd_iload C dX5_extent_130 rfl ?_
            refine gd_imul C dX5_extent_132 ?_
            refine gd_bipush C dX5_extent_133 (by decide) ?_
            refine gd_iload C dX5_extent_135 rfl ?_
            refine gd_imul C dX5_extent_137 ?_
            refine gd_iadd C dX5_extent_138 ?_
            refine gd_aload_n C dX5_extent_139 rfl ?_
            refine gm_get C hM2 (by decide +kernel) 2 (by decide) (by decide +kernel) rfl dX5_extent_140 rfl ?_
            refine gd_bipush C dX5_extent_143 (by decide) ?_
            refine gd_iload_n C dX5_extent_145 rfl ?_
            refine gd_imul C dX5_extent_146 ?_
            refine gd_iload C dX5_extent_147 rfl ?_
            refine gd_iadd C dX5_extent_149 ?_
            refine gd_iald C dX5_extent_150 hM2.a2 (by decide) ?_ ?_
            · omega
            refine gd_bipush C dX5_extent_151 (by decide) ?_
            refine gd_irem C dX5_extent_153 ?_ ?_
            · omega
            refine gd_iadd C dX5_extent_154 ?_
            refine gd_iret C hQ hret dX5_extent_155 ?_ ?_
            · refine Or.inl ⟨hTH, x, x + y, hx0, by omega, hx1, hsx, by omega, by omega, hjy, ?_, ?_, _, _, hM2, hR2b, FN.rf F, rfl, rfl, by show 1 - y9 = 0; omega⟩
              · omega
              · rw [hF9, show x + y - x = y by omega]
            · decide
          · refine gd_aload_n C dX5_extent_108 rfl ?_
            refine gd_iload_n C dX5_extent_109 rfl ?_
            refine gd_iload C dX5_extent_110 rfl ?_
            refine gd_iload C dX5_extent_112 rfl ?_
            refine gd_iadd C dX5_extent_114 ?_
            refine gd_callV (n := 2) (ci := 5) (Cn := RX5) (T := TX5) (N := 18) C (kX5_isBegin hl hM2.1 hR2b (q := q) (x := x + y) ⟨hTH.1, hTH.2.1⟩ ?_ fp) ?_ rfl gX5_extent_X5_isBegin rfl ⟨rfl, by decide, by decide, by decide +kernel⟩ rfl rfl (Nat.le_of_ble_eq_true rfl) rfl dX5_extent_115 ⟨⟨by decide, by decide⟩, by decide, by decide⟩ (fun _ h => h.elim) ?_
            · omega
            · exact ⟨_, by exact hM2.ob⟩
            rintro _ _ ⟨rfl, rfl⟩
            have hbd2 := bE_bd (B q) (x + y)
            refine gd_if_ne (tgt := 127) C dX5_extent_118 (by decide) ?_ (fun hc118 => ?_) (fun hc118 => ?_)
            · omega
            · have hF9 := hR2 q x hTH.1 hTH.2.1 hx0 (by omega)
              have hB0 : 0 ≤ B q x := by
                have h9 := hx1
                unfold bE at h9
                split at h9
                · rename_i h8
                  exact h8.1
                · omega
              have hpx := fp x
              refine gd_sipush C dX5_extent_127 (by decide) ?_
              refine gd_iload C dX5_extent_130 rfl ?_
              refine gd_imul C dX5_extent_132 ?_
              refine gd_bipush C dX5_extent_133 (by decide) ?_
              refine gd_iload C dX5_extent_135 rfl ?_
              refine gd_imul C dX5_extent_137 ?_
              refine gd_iadd C dX5_extent_138 ?_
              refine gd_aload_n C dX5_extent_139 rfl ?_
              refine gm_get C hM2 (by decide +kernel) 2 (by decide) (by decide +kernel) rfl dX5_extent_140 rfl ?_
              refine gd_bipush C dX5_extent_143 (by decide) ?_
              refine gd_iload_n C dX5_extent_145 rfl ?_
              refine gd_imul C dX5_extent_146 ?_
              refine gd_iload C dX5_extent_147 rfl ?_
              refine gd_iadd C dX5_extent_149 ?_
              refine gd_iald C dX5_extent_150 hM2.a2 (by decide) ?_ ?_
              · omega
              refine gd_bipush C dX5_extent_151 (by decide) ?_
              refine gd_irem C dX5_extent_153 ?_ ?_
              · omega
              refine gd_iadd C dX5_extent_154 ?_
              refine gd_iret C hQ hret dX5_extent_155 ?_ ?_
              · refine Or.inl ⟨hTH, x, x + y, hx0, by omega, hx1, hsx, by omega, by omega, hjy, ?_, ?_, _, _, hM2, hR2b, FN.rf F, rfl, rfl, by show 1 - y9 = 0; omega⟩
                · omega
                · rw [hF9, show x + y - x = y by omega]
              · decide
            · refine gd_iinc C dX5_extent_121 rfl ?_
              refine gd_goto (tgt := 80) C dX5_extent_124 (by decide) ?_
              exact ih _ (by omega) (y + 1) (by omega) (by omega) rfl (fun j h1 h2 => by
                by_cases hj : j = x + y
                · rw [hj]; omega
                · exact hjy j h1 (by omega))
      · refine gd_iinc C dX5_extent_51 rfl ?_
        refine gd_iload C dX5_extent_54 rfl ?_
        refine gd_aload_n C dX5_extent_56 rfl ?_
        refine gd_iload_n C dX5_extent_57 rfl ?_
        refine gd_iload C dX5_extent_58 rfl ?_
        refine gd_callV (n := 2) (ci := 5) (Cn := RX5) (T := TX5) (N := 18) C (kX5_isBegin hl hM2.1 hR2b (q := q) (x := x + 1) ⟨hTH.1, hTH.2.1⟩ ?_ fp) ?_ rfl gX5_extent_X5_isBegin rfl ⟨rfl, by decide, by decide, by decide +kernel⟩ rfl rfl (Nat.le_of_ble_eq_true rfl) rfl dX5_extent_60 ⟨⟨by decide, by decide⟩, by decide, by decide⟩ (fun _ h => h.elim) ?_
        · omega
        · exact ⟨_, by exact hM2.ob⟩
        rintro _ _ ⟨rfl, rfl⟩
        have hj63 : ∀ x9 : Int, (x9 = 1 ∧ (bE (B q) (x + 1) = 1) ∨ x9 = 0 ∧ ¬ (bE (B q) (x + 1) = 1)) → Gd p l e ({ frames := 2, cells := 0, slots := 0, locals := 46 }) s m args below meth c D z Q 0 0 w2 71 [some (.ref o), some (.int (iI q)), some (.int (iI k)), none, some (.int (iI (x + 1))), some (.int (iI a))] (.int (iI x9) :: [.int (iI a)]) := by
          intro x9 hvx9
          refine gd_iadd C dX5_extent_71 ?_
          refine gd_istore C dX5_extent_72 (Nat.le_of_ble_eq_true rfl) ?_
          refine gd_goto (tgt := 45) C dX5_extent_74 (by decide) ?_
          exact ih _ (by omega) (x + 1) (a + x9) (by omega) (by omega) rfl (by rw [sI_s (by omega)]; omega) (by omega) (by omega)
        refine gd_if_eq (tgt := 70) C dX5_extent_63 (by decide) ?_ (fun hc63 => ?_) (fun hc63 => ?_)
        · omega
        · refine gd_iconst C dX5_extent_70 ?_
          exact hj63 _ (by omega)
        · refine gd_iconst C dX5_extent_66 ?_
          refine gd_goto (tgt := 71) C dX5_extent_67 (by decide) ?_
          exact hj63 _ (by omega)
    · refine gd_iconst C dX5_extent_37 ?_
      refine gd_iret C hQ hret dX5_extent_38 ?_ ?_
      · exact Or.inr ⟨by omega, rfl, _, _, hM2, hR2b, FN.rf F, rfl, rfl, by show 1 - y9 = 1; omega⟩
      · decide
  refine gd_if_eq (tgt := 30) C dX5_extent_8 (by decide) ?_ (fun hc8 => ?_) (fun hc8 => ?_)
  · omega
  · refine gd_iconst C dX5_extent_30 ?_
    exact hj8 _ (by omega)
  · refine gd_iload_n C dX5_extent_11 rfl ?_
    refine gd_iconst C dX5_extent_12 ?_
    refine gd_aload_n C dX5_extent_13 rfl ?_
    refine gd_iload_n C dX5_extent_14 rfl ?_
    refine gd_callV (n := 1) (ci := 5) (Cn := RX5) (T := TX5) (N := 18) C (kX5_extentsOf hl hM hR (q := q) ⟨by omega, by omega⟩ (hI.bb q (by omega) (by omega))) ?_ rfl gX5_extent_X5_extentsOf rfl ⟨rfl, by decide, by decide, by decide +kernel⟩ rfl rfl (Nat.le_of_ble_eq_true rfl) rfl dX5_extent_15 ⟨⟨by decide, by decide⟩, by decide, by decide⟩ (fun _ h => h.elim) ?_
    · exact ⟨_, by exact hMv.ob⟩
    rintro _ _ ⟨rfl, rfl⟩
    have hexb := sI_bd (g := bE (B q)) (a := 0) (b := 64) (bE_bd (B q)) (by omega)
    refine gd_iconst C dX5_extent_18 ?_
    refine gd_isub C dX5_extent_19 ?_
    refine gd_callS (n := 3) C (kX5_in hl (q := k) (lo := 0) (hi := sI (bE (B q)) 0 64 - 1) ?_) gX5_extent_X5_in rfl ⟨by decide, by decide, by decide +kernel⟩ rfl rfl (Nat.le_of_ble_eq_true rfl) rfl dX5_extent_20 ⟨⟨by decide, by decide⟩, by decide, by decide⟩ (fun _ h => h.elim) ?_
    · omega
    rintro _ _ ⟨b5, rfl, rfl, hb5⟩
    refine gd_if_eq (tgt := 30) C dX5_extent_23 (by decide) ?_ (fun hc23 => ?_) (fun hc23 => ?_)
    · omega
    · refine gd_iconst C dX5_extent_30 ?_
      exact hj8 _ (by omega)
    · refine gd_iconst C dX5_extent_26 ?_
      refine gd_goto (tgt := 31) C dX5_extent_27 (by decide) ?_
      exact hj8 _ (by omega)
