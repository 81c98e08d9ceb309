set_option maxRecDepth 100000 in
set_option maxHeartbeats 4000000 in
theorem kX5_pieces {l : Launch} {D : va_G} {ky : Nat → ClassId} {z : Nat} {w : WT} (hl : l.stackTraces = false) {o : Nat} {A : Nat → Nat} {F : Nat → Int → Int} {G : Nat → Int} (hM : MW w ky o A F G) {T : Int → Int} {v B : Int → Int → Int} {sc dn : Int} (hR : RF F G T v B sc dn) (hI : CI T v B sc dn) {q : Int} (hq : InR q) {x : Int} (hx : InR x) : Mt l D ky z yX5_pieces wsX5_pieces { frames := 1, cells := 0, slots := 0, locals := 24 } [.ref o, .int (iI q), .int (iI x)] w (fun r w' => ((0 ≤ q ∧ q ≤ 3) ∧ (0 ≤ x ∧ x ≤ 5) ∧ r = some (.int (iI (sI (fun y => pI (aP T (p2 x) y)) (32 * q) (32 * q + 32)))) ∧ PM w w' ky o A F G (T) (v) (B) (sc) (dn) (F 7) (0)) ∨ ∃ t, (t = 1 ∧ ¬ (0 ≤ q ∧ q ≤ 3) ∨ t = 2 ∧ (0 ≤ q ∧ q ≤ 3) ∧ ¬ (0 ≤ x ∧ x ≤ 5)) ∧ r = some (.int (iI 0)) ∧ PM w w' ky o A F G (T) (v) (B) (sc) (dn) (F 7) (t)) (fun _ => False) := by
  refine Mt.of (cc := cX5_pieces) (ret := (some .int)) (maxL := 6) (by decide) rfl (by intro v hv; simp at hv; rcases hv with rfl | rfl | rfl <;> rfl) (Nat.le_of_ble_eq_true rfl) ?_ hl
  intro p e s m args below meth c C htab hret hname Q hQ
  have hMv := hM.V
  obtain ⟨hR0, hR1, hR2, hR3, hR4⟩ := id hR
  obtain ⟨hi1, hi2, hi3, hi4⟩ := id hI
  refine gd_iconst C dX5_pieces_0 ?_
  refine gd_istore_n C dX5_pieces_1 (Nat.le_of_ble_eq_true rfl) ?_
  refine gd_aload_n C dX5_pieces_2 rfl ?_
  refine gd_iload_n C dX5_pieces_3 rfl ?_
  refine gd_iconst C dX5_pieces_4 ?_
  refine gd_iconst C dX5_pieces_5 ?_
  refine gd_callS (n := 3) C (kX5_in hl (q := q) (lo := 0) (hi := 3) ?_) gX5_pieces_X5_in rfl ⟨by decide, by decide, by decide +kernel⟩ rfl rfl (Nat.le_of_ble_eq_true rfl) rfl dX5_pieces_6 ⟨⟨by decide, by decide⟩, by decide, by decide⟩ (fun _ h => h.elim) ?_
  · omega
  rintro _ _ ⟨b8, rfl, rfl, hb8⟩
  refine gd_iload_n C dX5_pieces_9 rfl ?_
  refine gd_iconst C dX5_pieces_10 ?_
  refine gd_iconst C dX5_pieces_11 ?_
  refine gd_callS (n := 3) C (kX5_in hl (q := x) (lo := 0) (hi := 5) ?_) gX5_pieces_X5_in rfl ⟨by decide, by decide, by decide +kernel⟩ rfl rfl (Nat.le_of_ble_eq_true rfl) rfl dX5_pieces_12 ⟨⟨by decide, by decide⟩, by decide, by decide⟩ (fun _ h => h.elim) ?_
  · omega
  rintro _ _ ⟨b5, rfl, rfl, hb5⟩
  refine gd_callV (n := 2) (ci := 5) (Cn := RX5) (T := TX5) (N := 18) C (kX5_asked_ hl hMv.1 (x := b8) (y := b5) ?_) ?_ rfl gX5_pieces_X5_asked_ rfl ⟨rfl, by decide, by decide, by decide +kernel⟩ rfl rfl (Nat.le_of_ble_eq_true rfl) rfl dX5_pieces_15 ⟨⟨by decide, by decide⟩, by decide, by decide⟩ (fun _ h => h.elim) ?_
  · omega
  · exact ⟨_, by exact hMv.ob⟩
  rintro _ w2 ⟨t7, b7, rfl, hM2, hAS⟩
  unfold AS2 at hAS
  have hR2b : RF F (nU G 17 t7) T v B sc dn := hR.g hR3 hR4
  refine gd_istore C dX5_pieces_18 (Nat.le_of_ble_eq_true rfl) ?_
  have hb71 : b7 = 0 ∨ b7 = 1 := by omega
  refine gd_iconst C dX5_pieces_20 ?_
  refine gd_istore C dX5_pieces_21 (Nat.le_of_ble_eq_true rfl) ?_
  suffices hloop : ∀ (n : Nat) (f a : Int), 0 ≤ f → f ≤ 32 → (32 - f).toNat = n → (b7 = 1 → f % p2 x = 0) → (b7 = 1 → a = sI (fun y => pI (aP T (p2 x) y)) (32 * q) (32 * q + f)) → (b7 = 0 → a = 0) → Gd p l e ({ frames := 1, cells := 0, slots := 0, locals := 24 }) s m args below meth c D z Q 0 0 w2 23 [some (.ref o), some (.int (iI q)), some (.int (iI x)), some (.int (iI a)), some (.int (iI b7)), some (.int (iI f))] [] from
    hloop _ 0 0 (by omega) (by omega) rfl (fun _ => Int.zero_emod _) (fun _ => by rw [Int.add_zero, sI_0]) (fun _ => rfl)
  intro n
  induction n using Nat.strongRecOn with
  | _ n ih =>
  intro f a h1f h2f hn hfl ha ha0
  have hp2 := p2_c x
  have hp2b : 1 ≤ p2 x ∧ p2 x ≤ 32 := by omega
  refine gd_iload C dX5_pieces_23 rfl ?_
  refine gd_if_eq (tgt := 71) C dX5_pieces_25 (by decide) ?_ (fun hc25 => ?_) (fun hc25 => ?_)
  · omega
  · refine gd_iload_n C dX5_pieces_71 rfl ?_
    refine gd_iret C hQ hret dX5_pieces_72 ?_ ?_
    · first
        | exact Or.inr ⟨t7, by omega, by rw [ha0 (by omega)], _, _, hM2, hR2b, FN.rf F, rfl, rfl, rfl⟩
        | (have h1 : t7 = 0 ∧ (0 ≤ q ∧ q ≤ 3) ∧ (0 ≤ x ∧ x ≤ 5) := by omega
           obtain ⟨rfl, hGQ, hOX⟩ := h1
           exact Or.inl ⟨hGQ, hOX, by rw [ha (by omega), show 32 * q + f = 32 * q + 32 by omega], _, _, hM2, hR2b, FN.rf F, rfl, rfl, rfl⟩)
    · decide
  · refine gd_iload C dX5_pieces_28 rfl ?_
    refine gd_bipush C dX5_pieces_30 (by decide) ?_
    refine gd_icmp_ge (tgt := 71) C dX5_pieces_32 (by decide) ?_ ?_ (fun hc32 => ?_) (fun hc32 => ?_)
    · omega
    · omega
    · refine gd_iload_n C dX5_pieces_71 rfl ?_
      refine gd_iret C hQ hret dX5_pieces_72 ?_ ?_
      · first
          | exact Or.inr ⟨t7, by omega, by rw [ha0 (by omega)], _, _, hM2, hR2b, FN.rf F, rfl, rfl, rfl⟩
          | (have h1 : t7 = 0 ∧ (0 ≤ q ∧ q ≤ 3) ∧ (0 ≤ x ∧ x ≤ 5) := by omega
             obtain ⟨rfl, hGQ, hOX⟩ := h1
             exact Or.inl ⟨hGQ, hOX, by rw [ha (by omega), show 32 * q + f = 32 * q + 32 by omega], _, _, hM2, hR2b, FN.rf F, rfl, rfl, rfl⟩)
      · decide
    · obtain ⟨ht7, hGQ, hOX⟩ : t7 = 0 ∧ (0 ≤ q ∧ q ≤ 3) ∧ (0 ≤ x ∧ x ≤ 5) := by
        rcases hAS with h9 | h9
        · refine ⟨by omega, by omega, by omega⟩
        · exfalso; omega

      have hal := al_next (q := q) hp2 ⟨h1f, by omega⟩ (hfl (by omega))
      refine gd_iload_n C dX5_pieces_35 rfl ?_
      refine gd_aload_n C dX5_pieces_36 rfl ?_
      refine gd_bipush C dX5_pieces_37 (by decide) ?_
      refine gd_iload_n C dX5_pieces_39 rfl ?_
      refine gd_imul C dX5_pieces_40 ?_
      refine gd_iload C dX5_pieces_41 rfl ?_
      refine gd_iadd C dX5_pieces_43 ?_
      refine gd_iconst C dX5_pieces_44 ?_
      refine gd_iload_n C dX5_pieces_45 rfl ?_
      refine gd_ishl1 C dX5_pieces_46 ?_ ?_
      · omega
      refine gd_callV (n := 2) (ci := 5) (Cn := RX5) (T := TX5) (N := 18) C (kX5_areFree hl hM2.1 hR2b hi1 (a := 32 * q + f) (k := p2 x) ?_ hp2b) ?_ rfl gX5_pieces_X5_areFree rfl ⟨rfl, by decide, by decide, by decide +kernel⟩ rfl rfl (Nat.le_of_ble_eq_true rfl) rfl dX5_pieces_47 ⟨⟨by decide, by decide⟩, by decide, by decide⟩ (fun _ h => h.elim) ?_
      · omega
      · exact ⟨_, by exact hM2.ob⟩
      rintro _ _ ⟨b9, rfl, rfl, hb9⟩
      have hb91 : b9 = 0 ∨ b9 = 1 := by omega
      have hj50 : ∀ x9 : Int, (x9 = 1 ∧ (aF T (32 * q + f) (p2 x)) ∨ x9 = 0 ∧ ¬ (aF T (32 * q + f) (p2 x))) → Gd p l e ({ frames := 1, cells := 0, slots := 0, locals := 24 }) s m args below meth c D z Q 0 0 w2 58 [some (.ref o), some (.int (iI q)), some (.int (iI x)), some (.int (iI a)), some (.int (iI b7)), some (.int (iI f))] (.int (iI x9) :: [.int (iI a)]) := by
        intro x9 hvx9
        refine gd_iadd C dX5_pieces_58 ?_
        refine gd_istore_n C dX5_pieces_59 (Nat.le_of_ble_eq_true rfl) ?_
        refine gd_iload C dX5_pieces_60 rfl ?_
        refine gd_iconst C dX5_pieces_62 ?_
        refine gd_iload_n C dX5_pieces_63 rfl ?_
        refine gd_ishl1 C dX5_pieces_64 ?_ ?_
        · omega
        refine gd_iadd C dX5_pieces_65 ?_
        refine gd_istore C dX5_pieces_66 (Nat.le_of_ble_eq_true rfl) ?_
        refine gd_goto (tgt := 23) C dX5_pieces_68 (by decide) ?_
        refine ih _ (by omega) (f + p2 x) (a + x9) (by omega) hal.1 rfl (fun _ => hal.2.1) (fun _ => pc_s hp2 ⟨h1f, by omega⟩ (hfl (by omega)) (ha (by omega)) hvx9) (fun h => by omega)
      refine gd_if_eq (tgt := 57) C dX5_pieces_50 (by decide) ?_ (fun hc50 => ?_) (fun hc50 => ?_)
      · omega
      · refine gd_iconst C dX5_pieces_57 ?_
        first
          | exact hj50 1 (Or.inl ⟨rfl, (hb9.resolve_right (fun h8 => by omega)).2.2⟩)
          | exact hj50 0 (Or.inr ⟨rfl, fun h8 => (hb9.resolve_left (fun h7 => by omega)).2 ⟨hal.2.2.1, h8⟩⟩)
      · refine gd_iconst C dX5_pieces_53 ?_
        refine gd_goto (tgt := 58) C dX5_pieces_54 (by decide) ?_
        first
          | exact hj50 1 (Or.inl ⟨rfl, (hb9.resolve_right (fun h8 => by omega)).2.2⟩)
          | exact hj50 0 (Or.inr ⟨rfl, fun h8 => (hb9.resolve_left (fun h7 => by omega)).2 ⟨hal.2.2.1, h8⟩⟩)

set_option maxRecDepth 100000 in
set_option maxHeartbeats 4000000 in
theorem kX5_average {l : Launch} {D : va_G} {ky : Nat → ClassId} {z : Nat} {w : WT} (hl : l.stackTraces = false) {o : Nat} {A : Nat → Nat} {F : Nat → Int → Int} {G : Nat → Int} (hM : MW w ky o A F G) {T : Int → Int} {v B : Int → Int → Int} {sc dn : Int} (hR : RF F G T v B sc dn) (hI : CI T v B sc dn) {q : Int} (hq : InR q) : Mt l D ky z yX5_average wsX5_average { frames := 2, cells := 0, slots := 0, locals := 46 } [.ref o, .int (iI q)] w (fun r w' => ((0 ≤ q ∧ q < 16 ∧ v q 2 = 1) ∧ r = some (.float (avF (B q))) ∧ PM w w' ky o A F G (T) (v) (B) (sc) (dn) (F 7) (0)) ∨ (¬ (0 ≤ q ∧ q < 16 ∧ v q 2 = 1) ∧ r = some (.float FP.fconst0) ∧ PM w w' ky o A F G (T) (v) (B) (sc) (dn) (F 7) (1))) (fun _ => False) := by
  refine Mt.of (cc := cX5_average) (ret := (some .float)) (maxL := 4) (by decide) rfl (by intro v hv; simp at hv; rcases hv with rfl | rfl <;> rfl) (Nat.le_of_ble_eq_true rfl) ?_ hl
  intro p e s m args below meth c C htab hret hname Q hQ
  have hMv := hM.V
  obtain ⟨hR0, hR1, hR2, hR3, hR4⟩ := id hR
  obtain ⟨hi1, hi2, hi3, hi4⟩ := id hI
  refine gd_aload_n C dX5_average_0 rfl ?_
  refine gd_aload_n C dX5_average_1 rfl ?_
  refine gd_iload_n C dX5_average_2 rfl ?_
  refine gd_callV (n := 1) (ci := 5) (Cn := RX5) (T := TX5) (N := 18) C (kX5_isThere hl hMv.1 hR hI (q := q) hq) ?_ rfl gX5_average_X5_isThere rfl ⟨rfl, by decide, by decide, by decide +kernel⟩ rfl rfl (Nat.le_of_ble_eq_true rfl) rfl dX5_average_3 ⟨⟨by decide, by decide⟩, by decide, by decide⟩ (fun _ h => h.elim) ?_
  · exact ⟨_, by exact hMv.ob⟩
  rintro _ _ ⟨b8, rfl, rfl, hb8⟩
  have hb8x : b8 = 0 ∨ b8 = 1 := by omega
  refine gd_callV (n := 1) (ci := 5) (Cn := RX5) (T := TX5) (N := 18) C (kX5_asked hl hMv.1 (x := b8) ?_) ?_ rfl gX5_average_X5_asked rfl ⟨rfl, by decide, by decide, by decide +kernel⟩ rfl rfl (Nat.le_of_ble_eq_true rfl) rfl dX5_average_6 ⟨⟨by decide, by decide⟩, by decide, by decide⟩ (fun _ h => h.elim) ?_
  · omega
  · exact ⟨_, by exact hMv.ob⟩
  rintro _ w2 ⟨rfl, hM2⟩
  have hR2b : RF F (nU G 17 (1 - b8)) T v B sc dn := hR.g hR3 hR4
  refine gd_if_ne (tgt := 14) C dX5_average_9 (by decide) ?_ (fun hc9 => ?_) (fun hc9 => ?_)
  · omega
  · refine gd_iconst C dX5_average_14 ?_
    refine gd_istore_n C dX5_average_15 (Nat.le_of_ble_eq_true rfl) ?_
    refine gd_iconst C dX5_average_16 ?_
    refine gd_istore_n C dX5_average_17 (Nat.le_of_ble_eq_true rfl) ?_
    have hTH : 0 ≤ q ∧ q < 16 ∧ v q 2 = 1 := by omega
    obtain ⟨f0, f2, f3, f4, f5, f6, f8, f9, f10, fp⟩ := hi2 q hTH.1 hTH.2.1
    have hmx := sI_bd (g := fun p => geI (B q p)) (a := 0) (b := 64) (fun j => geI_bd _) (by decide)
    have hex := sI_bd (g := bE (B q)) (a := 0) (b := 64) (fun j => bE_bd _ _) (by decide)
    suffices hloop : ∀ (n : Nat) (i a : Int), 0 ≤ i → i ≤ 64 → (64 - i).toNat = n → a = sI (fun p => geI (B q p)) 0 i → Gd p l e ({ frames := 2, cells := 0, slots := 0, locals := 46 }) s m args below meth c D z Q 0 0 w2 18 [some (.ref o), some (.int (iI q)), some (.int (iI a)), some (.int (iI i))] [] from
      hloop _ 0 _ (by omega) (by omega) rfl (by simp [sI_0])
    intro n
    induction n using Nat.strongRecOn with
    | _ n ih =>
    intro i a h1i h2i hn ha
    have hF2 : i < 64 → F 2 (64 * q + i) = B q i := fun h => hR2 q i hTH.1 hTH.2.1 h1i h
    have hpi := fp i
    refine gd_iload_n C dX5_average_18 rfl ?_
    refine gd_bipush C dX5_average_19 (by decide) ?_
    refine gd_icmp_ge (tgt := 52) C dX5_average_21 (by decide) ?_ ?_ (fun hc21 => ?_) (fun hc21 => ?_)
    · omega
    · omega
    · refine gd_aload_n C dX5_average_52 rfl ?_
      refine gd_iload_n C dX5_average_53 rfl ?_
      refine gd_callV (n := 1) (ci := 5) (Cn := RX5) (T := TX5) (N := 18) C (kX5_extentsOf hl hM2.1 hR2b (q := q) ⟨hTH.1, hTH.2.1⟩ fp) ?_ rfl gX5_average_X5_extentsOf rfl ⟨rfl, by decide, by decide, by decide +kernel⟩ rfl rfl (Nat.le_of_ble_eq_true rfl) rfl dX5_average_54 ⟨⟨by decide, by decide⟩, by decide, by decide⟩ (fun _ h => h.elim) ?_
      · exact ⟨_, by exact hM2.ob⟩
      rintro _ _ ⟨rfl, rfl⟩
      have e64 : i = 64 := by omega
      subst e64
      refine gd_istore_n C dX5_average_57 (Nat.le_of_ble_eq_true rfl) ?_
      refine gd_iload_n C dX5_average_58 rfl ?_
      refine gd_if_ne (tgt := 66) C dX5_average_59 (by decide) ?_ (fun hc59 => ?_) (fun hc59 => ?_)
      · omega
      · refine gd_iload_n C dX5_average_66 rfl ?_
        refine gd_i2f C dX5_average_67 ?_
        refine gd_iload_n C dX5_average_68 rfl ?_
        refine gd_i2f C dX5_average_69 ?_
        refine gd_fdiv C dX5_average_70 (fq_I (by omega) (by omega)).1 ?_
        refine gd_fret C hQ hret dX5_average_71 ?_ ?_
        · first
            | exact Or.inl ⟨hTH, by rw [show avF (B q) = _ from if_pos (by omega)], _, _, hM2, hR2b, FN.rf F, rfl, rfl, by show 1 - b8 = 0; omega⟩
            | exact Or.inl ⟨hTH, by rw [show avF (B q) = _ from if_neg (by omega), ha], _, _, hM2, hR2b, FN.rf F, rfl, rfl, by show 1 - b8 = 0; omega⟩
        · decide
      · refine gd_fconst0 C dX5_average_62 ?_
        refine gd_goto (tgt := 71) C dX5_average_63 (by decide) ?_
        refine gd_fret C hQ hret dX5_average_71 ?_ ?_
        · first
            | exact Or.inl ⟨hTH, by rw [show avF (B q) = _ from if_pos (by omega)], _, _, hM2, hR2b, FN.rf F, rfl, rfl, by show 1 - b8 = 0; omega⟩
            | exact Or.inl ⟨hTH, by rw [show avF (B q) = _ from if_neg (by omega), ha], _, _, hM2, hR2b, FN.rf F, rfl, rfl, by show 1 - b8 = 0; omega⟩
        · decide
    · refine gd_iload_n C dX5_average_24 rfl ?_
      refine gd_aload_n C dX5_average_25 rfl ?_
      refine gm_get C hM2 (by decide +kernel) 2 (by decide) (by decide +kernel) rfl dX5_average_26 rfl ?_
      refine gd_bipush C dX5_average_29 (by decide) ?_
      refine gd_iload_n C dX5_average_31 rfl ?_
      refine gd_imul C dX5_average_32 ?_
      replace hF2 := hF2 (by omega)
      refine gd_iload_n C dX5_average_33 rfl ?_
      refine gd_iadd C dX5_average_34 ?_
      refine gd_iald C dX5_average_35 hM2.a2 (by decide) ?_ ?_
      · omega
      have hj36 : ∀ x9 : Int, (x9 = 1 ∧ (0 ≤ B q i) ∨ x9 = 0 ∧ ¬ (0 ≤ B q i)) → Gd p l e ({ frames := 2, cells := 0, slots := 0, locals := 46 }) s m args below meth c D z Q 0 0 w2 44 [some (.ref o), some (.int (iI q)), some (.int (iI a)), some (.int (iI i))] (.int (iI x9) :: [.int (iI a)]) := by
        intro x9 hvx9
        refine gd_iadd C dX5_average_44 ?_
        refine gd_istore_n C dX5_average_45 (Nat.le_of_ble_eq_true rfl) ?_
        refine gd_iinc C dX5_average_46 rfl ?_
        refine gd_goto (tgt := 18) C dX5_average_49 (by decide) ?_
        exact ih _ (by omega) (i + 1) (a + x9) (by omega) (by omega) rfl (by rw [sI_s (by omega), ← ha]; rcases hvx9 with ⟨h8, h9⟩ | ⟨h8, h9⟩; rw [geI_t h9, h8]; rw [geI_f h9, h8])
      refine gd_if_lt (tgt := 43) C dX5_average_36 (by decide) ?_ (fun hc36 => ?_) (fun hc36 => ?_)
      · omega
      · refine gd_iconst C dX5_average_43 ?_
        exact hj36 _ (by omega)
      · refine gd_iconst C dX5_average_39 ?_
        refine gd_goto (tgt := 44) C dX5_average_40 (by decide) ?_
        exact hj36 _ (by omega)
  · refine gd_fconst0 C dX5_average_12 ?_
    refine gd_fret C hQ hret dX5_average_13 ?_ ?_
    · exact Or.inr ⟨by omega, rfl, _, _, hM2, hR2b, FN.rf F, rfl, rfl, by show 1 - b8 = 1; omega⟩
    · decide

set_option maxRecDepth 100000 in
set_option maxHeartbeats 4000000 in
theorem kX5_write {l : Launch} {D : va_G} {ky : Nat → ClassId} {z : Nat} {w : WT} (hl : l.stackTraces = false) {o : Nat} {A : Nat → Nat} {F : Nat → Int → Int} {G : Nat → Int} (hM : MW w ky o A F G) {T : Int → Int} {v B : Int → Int → Int} {sc dn : Int} (hR : RF F G T v B sc dn) (hI : CI T v B sc dn) {q : Int} (hq : InR q) {x k : Int} (hx : InR x ∧ InR k) : Mt l D ky z yX5_write wsX5_write { frames := 2, cells := 0, slots := 0, locals := 43 } [.ref o, .int (iI q), .int (iI x), .int (iI k)] w (fun r w' => ((0 ≤ q ∧ q < 16 ∧ v q 2 = 1) ∧ ((0 ≤ x ∧ x ≤ 63) ∧ 1 ≤ k ∧ k ≤ 64 - x) ∧ dn = 0 ∧ r = some (.int (iI (sI (fun p => eqI (B q p) (-1)) x (x + k)))) ∧ (((sI (fun p => eqI (B q p) (-1)) x (x + k)) ≤ lF T v ∧ PM w w' ky o A F G (T) (v) (fU B q (rsF (B q) x (x + k))) (sc) (dn) (F 7) (0)) ∨ (lF T v < (sI (fun p => eqI (B q p) (-1)) x (x + k)) ∧ (sI (fun p => eqI (B q p) (-1)) x (x + k)) ≤ lF T v + (sI (fun j => v j 7) 0 16) ∧ PM w w' ky o A F G (rlT v T 16) (rlV v 16) (fU B q (rsF (B q) x (x + k))) (sc) (dn) (F 7) (0)))) ∨ ∃ t, (t = 1 ∧ ¬ (0 ≤ q ∧ q < 16 ∧ v q 2 = 1) ∨ t = 2 ∧ (0 ≤ q ∧ q < 16 ∧ v q 2 = 1) ∧ ¬ ((0 ≤ x ∧ x ≤ 63) ∧ 1 ≤ k ∧ k ≤ 64 - x) ∨ t = 3 ∧ (0 ≤ q ∧ q < 16 ∧ v q 2 = 1) ∧ ((0 ≤ x ∧ x ≤ 63) ∧ 1 ≤ k ∧ k ≤ 64 - x) ∧ (dn ≠ 0 ∨ lF T v + (sI (fun j => v j 7) 0 16) < (sI (fun p => eqI (B q p) (-1)) x (x + k)))) ∧ r = some (.int (iI 0)) ∧ PM w w' ky o A F G (T) (v) (B) (sc) (dn) (F 7) (t)) (fun _ => False) := by
  refine Mt.of (cc := cX5_write) (ret := (some .int)) (maxL := 8) (by decide) rfl (by intro v hv; simp at hv; rcases hv with rfl | rfl | rfl | rfl <;> rfl) (Nat.le_of_ble_eq_true rfl) ?_ hl
  intro p e s m args below meth c C htab hret hname Q hQ
  have hMv := hM.V
  obtain ⟨hR0, hR1, hR2, hR3, hR4⟩ := id hR
  obtain ⟨hi1, hi2, hi3, hi4⟩ := id hI
  refine gd_aload_n C dX5_write_0 rfl ?_
  refine gd_iload_n C dX5_write_1 rfl ?_
  refine gd_callV (n := 1) (ci := 5) (Cn := RX5) (T := TX5) (N := 18) C (kX5_isThere hl hMv.1 hR hI (q := q) hq) ?_ rfl gX5_write_X5_isThere rfl ⟨rfl, by decide, by decide, by decide +kernel⟩ rfl rfl (Nat.le_of_ble_eq_true rfl) rfl dX5_write_2 ⟨⟨by decide, by decide⟩, by decide, by decide⟩ (fun _ h => h.elim) ?_
  · exact ⟨_, by exact hMv.ob⟩
  rintro _ _ ⟨b8, rfl, rfl, hb8⟩
  have hb8x : b8 = 0 ∨ b8 = 1 := by omega
  refine gd_istore C dX5_write_5 (Nat.le_of_ble_eq_true rfl) ?_
  refine gd_iload_n C dX5_write_7 rfl ?_
  refine gd_iconst C dX5_write_8 ?_
  refine gd_bipush C dX5_write_9 (by decide) ?_
  refine gd_callS (n := 3) C (kX5_in hl (q := x) (lo := 0) (hi := 63) ?_) gX5_write_X5_in rfl ⟨by decide, by decide, by decide +kernel⟩ rfl rfl (Nat.le_of_ble_eq_true rfl) rfl dX5_write_11 ⟨⟨by decide, by decide⟩, by decide, by decide⟩ (fun _ h => h.elim) ?_
  · omega
  rintro _ _ ⟨b5, rfl, rfl, hb5⟩
  have hj14 : ∀ y5 : Int, (y5 = 1 ∧ ((0 ≤ x ∧ x ≤ 63) ∧ 1 ≤ k ∧ k ≤ 64 - x) ∨ y5 = 0 ∧ ¬ ((0 ≤ x ∧ x ≤ 63) ∧ 1 ≤ k ∧ k ≤ 64 - x)) → Gd p l e ({ frames := 2, cells := 0, slots := 0, locals := 43 }) s m args below meth c D z Q 0 0 w 34 [some (.ref o), some (.int (iI q)), some (.int (iI x)), some (.int (iI k)), some (.int (iI b8)), none, none, none] (.int (iI y5) :: []) := by
    intro y5 hvy5
    have hy5 : y5 = 0 ∨ y5 = 1 := by omega
    obtain ⟨hsT, hsR, hsK⟩ := hI.bd
    have hLb : lF T v = 128 - sI T 0 128 - sI (fun j => v j 4) 0 16 := rfl
    refine gd_istore C dX5_write_34 (Nat.le_of_ble_eq_true rfl) ?_
    have hcut92 : ∀ a : Int, (b8 = 1 → y5 = 1 → a = (sI (fun p => eqI (B q p) (-1)) x (x + k))) → (0 ≤ a ∧ a ≤ 64) → Gd p l e ({ frames := 2, cells := 0, slots := 0, locals := 43 }) s m args below meth c D z Q 0 0 w 92 [some (.ref o), some (.int (iI q)), some (.int (iI x)), some (.int (iI k)), some (.int (iI b8)), some (.int (iI y5)), some (.int (iI a)), none] [] := by
      intro a haN ha64
      refine gd_aload_n C dX5_write_92 rfl ?_
      refine gd_iload C dX5_write_93 rfl ?_
      refine gd_iload C dX5_write_95 rfl ?_
      refine gd_aload_n C dX5_write_97 rfl ?_
      refine gm_get C hMv (by decide +kernel) 15 (by decide) (by decide +kernel) rfl dX5_write_98 rfl ?_
      have hj101 : ∀ y9 : Int, (y9 = 1 ∧ (dn = 0 ∧ a ≤ lF T v + (sI (fun j => v j 7) 0 16)) ∨ y9 = 0 ∧ ¬ (dn = 0 ∧ a ≤ lF T v + (sI (fun j => v j 7) 0 16))) → Gd p l e ({ frames := 2, cells := 0, slots := 0, locals := 43 }) s m args below meth c D z Q 0 0 w 123 [some (.ref o), some (.int (iI q)), some (.int (iI x)), some (.int (iI k)), some (.int (iI b8)), some (.int (iI y5)), some (.int (iI a)), none] (.int (iI y9) :: [.int (iI y5), .int (iI b8), .ref o]) := by
        intro y9 hvy9
        refine gd_callV (n := 3) (ci := 5) (Cn := RX5) (T := TX5) (N := 18) C (kX5_asked__ hl hMv.1 (x := b8) (y := y5) (q := y9) ?_) ?_ rfl gX5_write_X5_asked__ rfl ⟨rfl, by decide, by decide, by decide +kernel⟩ rfl rfl (Nat.le_of_ble_eq_true rfl) rfl dX5_write_123 ⟨⟨by decide, by decide⟩, by decide, by decide⟩ (fun _ h => h.elim) ?_
        · omega
        · exact ⟨_, by exact hMv.ob⟩
        rintro _ w2 ⟨t7, b7, rfl, hM2, hAS⟩
        unfold AS3 at hAS
        have hR2b : RF F (nU G 17 t7) T v B sc dn := hR.g hR3 hR4
        refine gd_if_ne (tgt := 131) C dX5_write_126 (by decide) ?_ (fun hc126 => ?_) (fun hc126 => ?_)
        · omega
        · have hcut162 : ∀ (w4 : WT) (F4 : Nat → Int → Int) (G4 : Nat → Int) (T4 : Int → Int) (v4 : Int → Int → Int), MV w w4 ky o A F4 G4 → RF F4 G4 T4 v4 B sc dn → FN F F4 → F4 7 = F 7 → G4 14 = G 14 → G4 17 = 0 → (T4 = T ∧ v4 = v ∧ a ≤ lF T v ∨ T4 = rlT v T 16 ∧ v4 = rlV v 16 ∧ lF T v < a) → t7 = 0 → (0 ≤ q ∧ q < 16 ∧ v q 2 = 1) → ((0 ≤ x ∧ x ≤ 63) ∧ 1 ≤ k ∧ k ≤ 64 - x) → dn = 0 → a ≤ lF T v + (sI (fun j => v j 7) 0 16) → a = (sI (fun p => eqI (B q p) (-1)) x (x + k)) → Gd p l e ({ frames := 2, cells := 0, slots := 0, locals := 43 }) s m args below meth c D z Q 0 0 w4 162 [some (.ref o), some (.int (iI q)), some (.int (iI x)), some (.int (iI k)), none, none, some (.int (iI a)), none] [] := by
            intro w4 F4 G4 T4 v4 hM4 hR4b hN4 h74 h144 h174 hcs ht7 hTH hRG hup hen haN2
            refine gd_iload_n C dX5_write_162 rfl ?_
            refine gd_istore C dX5_write_163 (Nat.le_of_ble_eq_true rfl) ?_
            suffices hloop3 : ∀ (n : Nat) (i : Int) (w5 : WT) (F5 : Nat → Int → Int), x ≤ i → i ≤ x + k → (x + k - i).toNat = n → MV w w5 ky o A F5 G4 → RF F5 G4 T4 v4 (fU B q (rsF (B q) x i)) sc dn → FN F F5 → F5 7 = F 7 → Gd p l e ({ frames := 2, cells := 0, slots := 0, locals := 43 }) s m args below meth c D z Q 0 0 w5 165 [some (.ref o), some (.int (iI q)), some (.int (iI x)), some (.int (iI k)), none, none, some (.int (iI a)), some (.int (iI i))] [] from
              hloop3 _ x w4 F4 (by omega) (by omega) rfl hM4 (by rw [rsF_0, fU_id]; exact hR4b) hN4 h74
            intro n
            induction n using Nat.strongRecOn with
            | _ n ih =>
            intro i w5 F5 h1i h2i hn hM5 hR5 hN5 h75
            have hFi : i < 64 → F5 2 (64 * q + i) = B q i := fun h => by
              have h1 := hR5.2.2.1 q i hTH.1 hTH.2.1 (by omega) h
              rwa [fU_s, rsF_ge (Int.le_refl _)] at h1
            have hbi := hI.bb q hTH.1 hTH.2.1 i
            refine gd_iload C dX5_write_165 rfl ?_
            refine gd_iload_n C dX5_write_167 rfl ?_
            refine gd_iload_n C dX5_write_168 rfl ?_
            refine gd_iadd C dX5_write_169 ?_
            refine gd_icmp_ge (tgt := 224) C dX5_write_170 (by decide) ?_ ?_ (fun hc170 => ?_) (fun hc170 => ?_)
            · omega
            · omega
            · refine gd_iload C dX5_write_224 rfl ?_
              refine gd_iret C hQ hret dX5_write_226 ?_ ?_
              · have e1 : i = x + k := by omega
                subst e1
                refine Or.inl ⟨hTH, hRG, hup, by rw [haN2], ?_⟩
                rw [← haN2]
                rcases hcs with ⟨rfl, rfl, hl⟩ | ⟨rfl, rfl, hl⟩
                · exact Or.inl ⟨hl, _, _, hM5, hR5, hN5, h75, h144, h174⟩
                · exact Or.inr ⟨hl, hen, _, _, hM5, hR5, hN5, h75, h144, h174⟩
              · decide
            · refine gd_aload_n C dX5_write_173 rfl ?_
              refine gm_get C hM5 (by decide +kernel) 2 (by decide) (by decide +kernel) rfl dX5_write_174 rfl ?_
              refine gd_bipush C dX5_write_177 (by decide) ?_
              refine gd_iload_n C dX5_write_179 rfl ?_
              refine gd_imul C dX5_write_180 ?_
              refine gd_iload C dX5_write_181 rfl ?_
              refine gd_iadd C dX5_write_183 ?_
              refine gd_aload_n C dX5_write_184 rfl ?_
              refine gm_get C hM5 (by decide +kernel) 2 (by decide) (by decide +kernel) rfl dX5_write_185 rfl ?_
              refine gd_bipush C dX5_write_188 (by decide) ?_
              refine gd_iload_n C dX5_write_190 rfl ?_
              refine gd_imul C dX5_write_191 ?_
              refine gd_iload C dX5_write_192 rfl ?_
              refine gd_iadd C dX5_write_194 ?_
              replace hFi := hFi (by omega)
              refine gd_iald C dX5_write_195 hM5.a2 (by decide) ?_ ?_
              · omega
              refine gd_iconst C dX5_write_196 ?_
              have hj197 : ∀ x9 : Int, (x9 = -2 ∧ B q i = -1 ∨ x9 = B q i ∧ B q i ≠ -1) → Gd p l e ({ frames := 2, cells := 0, slots := 0, locals := 43 }) s m args below meth c D z Q 0 0 w5 217 [some (.ref o), some (.int (iI q)), some (.int (iI x)), some (.int (iI k)), none, none, some (.int (iI a)), some (.int (iI i))] (.int (iI x9) :: [.int (iI (64 * q + i)), .ref (A 2)]) := by
                intro x9 hvx9
                refine gm_iast C hM5 (k := 2) (n := 1024) (by decide) (fun _ => rfl) dX5_write_217 (by decide) ?_ (fun wm1 hMm1 => ?_)
                · omega
                refine gd_iinc C dX5_write_218 rfl ?_
                refine gd_goto (tgt := 165) C dX5_write_221 (by decide) ?_
                refine ih _ (by omega) (i + 1) _ _ (by omega) (by omega) rfl hMm1 ?_ (hN5.nU (by decide) _) h75
                have h9 := hR5.s2 (j := q) (p := i) (x := x9) ⟨hTH.1, hTH.2.1⟩ (by omega)
                rw [fU_s, fU_ss] at h9
                have e1 : fU (rsF (B q) x i) i x9 = rsF (B q) x (i + 1) := by
                  rcases hvx9 with ⟨e1, e2⟩ | ⟨e1, e2⟩
                  · rw [rsF_t h1i (by omega), e1]
                  · rw [rsF_f (by omega)]
                    exact fU_idd (by rw [rsF_ge (Int.le_refl _)]; omega)
                rwa [e1] at h9
              refine gd_icmp_ne (tgt := 205) C dX5_write_197 (by decide) ?_ ?_ (fun hc197 => ?_) (fun hc197 => ?_)
              · omega
              · omega
              · refine gd_aload_n C dX5_write_205 rfl ?_
                refine gm_get C hM5 (by decide +kernel) 2 (by decide) (by decide +kernel) rfl dX5_write_206 rfl ?_
                refine gd_bipush C dX5_write_209 (by decide) ?_
                refine gd_iload_n C dX5_write_211 rfl ?_
                refine gd_imul C dX5_write_212 ?_
                refine gd_iload C dX5_write_213 rfl ?_
                refine gd_iadd C dX5_write_215 ?_
                refine gd_iald C dX5_write_216 hM5.a2 (by decide) ?_ ?_
                · omega
                exact hj197 _ (by omega)
              · refine gd_bipush C dX5_write_200 (by decide) ?_
                refine gd_goto (tgt := 217) C dX5_write_202 (by decide) ?_
                exact hj197 _ (by omega)
          obtain ⟨ht7, hTH, hRG, hup, hen⟩ : t7 = 0 ∧ (0 ≤ q ∧ q < 16 ∧ v q 2 = 1) ∧ ((0 ≤ x ∧ x ≤ 63) ∧ 1 ≤ k ∧ k ≤ 64 - x) ∧ (dn = 0) ∧ (a ≤ lF T v + (sI (fun j => v j 7) 0 16)) := by
            rcases hAS with h9 | h9
            · refine ⟨by omega, by omega, by omega, by omega, by omega⟩
            · exfalso; omega
          subst ht7
          have haN2 := haN (by omega) (by omega)
          refine gd_aload_n C dX5_write_131 rfl ?_
          refine gd_callV (n := 0) (ci := 5) (Cn := RX5) (T := TX5) (N := 18) C (kX5_left hl hM2.1 hR2b hI) ?_ rfl gX5_write_X5_left rfl ⟨rfl, by decide, by decide, by decide +kernel⟩ rfl rfl (Nat.le_of_ble_eq_true rfl) rfl dX5_write_132 ⟨⟨by decide, by decide⟩, by decide, by decide⟩ (fun _ h => h.elim) ?_
          · exact ⟨_, by exact hM2.ob⟩
          rintro _ _ ⟨rfl, rfl⟩
          refine gd_iload C dX5_write_135 rfl ?_
          refine gd_icmp_ge (tgt := 162) C dX5_write_137 (by decide) ?_ ?_ (fun hc137 => ?_) (fun hc137 => ?_)
          · omega
          · omega
          · first
              | exact Gd.sub (by repeat (first | exact Lsb.nil | exact Lsb.rf _ | refine Lsb.keep ?_ | refine Lsb.drop ?_)) (hcut162 w2 F _ T v hM2 hR2b (FN.rf F) rfl rfl rfl (Or.inl ⟨rfl, rfl, by omega⟩) rfl hTH hRG hup hen haN2)
              | (have e16 : i = 16 := by omega
                 subst e16
                 exact Gd.sub (by repeat (first | exact Lsb.nil | exact Lsb.rf _ | refine Lsb.keep ?_ | refine Lsb.drop ?_)) (hcut162 w4 F4 G4 _ _ hM4 hR4b hN4 h74 h144 h174 (Or.inr ⟨rfl, rfl, by omega⟩) rfl hTH hRG hup hen haN2))
          · refine gd_iconst C dX5_write_140 ?_
            refine gd_istore C dX5_write_141 (Nat.le_of_ble_eq_true rfl) ?_
            suffices hloop2 : ∀ (n : Nat) (i : Int) (w4 : WT) (F4 : Nat → Int → Int) (G4 : Nat → Int), 0 ≤ i → i ≤ 16 → (16 - i).toNat = n → MV w w4 ky o A F4 G4 → RF F4 G4 (rlT v T i.toNat) (rlV v i) B sc dn → FN F F4 → F4 7 = F 7 → G4 14 = G 14 → G4 17 = 0 → Gd p l e ({ frames := 2, cells := 0, slots := 0, locals := 43 }) s m args below meth c D z Q 0 0 w4 143 [some (.ref o), some (.int (iI q)), some (.int (iI x)), some (.int (iI k)), none, none, some (.int (iI a)), some (.int (iI i))] [] from
              Gd.sub (by repeat (first | exact Lsb.nil | exact Lsb.rf _ | refine Lsb.keep ?_ | refine Lsb.drop ?_)) (hloop2 _ 0 w2 F _ (by omega) (by omega) rfl hM2 (by rw [rlV_0]; exact hR2b) (FN.rf F) rfl rfl rfl)
            intro n
            induction n using Nat.strongRecOn with
            | _ n ih =>
            intro i w4 F4 G4 h1i h2i hn hM4 hR4b hN4 h74 h144 h174
            refine gd_iload C dX5_write_143 rfl ?_
            refine gd_bipush C dX5_write_145 (by decide) ?_
            refine gd_icmp_ge (tgt := 162) C dX5_write_147 (by decide) ?_ ?_ (fun hc147 => ?_) (fun hc147 => ?_)
            · omega
            · omega
            · first
                | exact Gd.sub (by repeat (first | exact Lsb.nil | exact Lsb.rf _ | refine Lsb.keep ?_ | refine Lsb.drop ?_)) (hcut162 w2 F _ T v hM2 hR2b (FN.rf F) rfl rfl rfl (Or.inl ⟨rfl, rfl, by omega⟩) rfl hTH hRG hup hen haN2)
                | (have e16 : i = 16 := by omega
                   subst e16
                   exact Gd.sub (by repeat (first | exact Lsb.nil | exact Lsb.rf _ | refine Lsb.keep ?_ | refine Lsb.drop ?_)) (hcut162 w4 F4 G4 _ _ hM4 hR4b hN4 h74 h144 h174 (Or.inr ⟨rfl, rfl, by omega⟩) rfl hTH hRG hup hen haN2))
            · refine gd_aload_n C dX5_write_150 rfl ?_
              refine gd_iload C dX5_write_151 rfl ?_
              refine gd_callV (n := 1) (ci := 5) (Cn := RX5) (T := TX5) (N := 18) C (kX5_freesKept hl hM4.1 hR4b (q := i) ⟨h1i, by omega⟩ ?_) ?_ rfl gX5_write_X5_freesKept rfl ⟨rfl, by decide, by decide, by decide +kernel⟩ rfl rfl (Nat.le_of_ble_eq_true rfl) rfl dX5_write_153 ⟨⟨by decide, by decide⟩, by decide, by decide⟩ (fun _ h => h.elim) ?_
              · rw [rlV_at]; exact hI.k67 i h1i (by omega)
              · exact ⟨_, by exact hM4.ob⟩
              rintro _ w5 ⟨rfl, F5, G5, hM5, hR5, hN5, h75, h145, h175⟩
              rw [rlV_at] at hR5
              replace hM5 := hM4.tr hM5
              refine gd_iinc C dX5_write_156 rfl ?_
              refine gd_goto (tgt := 143) C dX5_write_159 (by decide) ?_
              exact ih _ (by omega) (i + 1) _ _ _ (by omega) (by omega) rfl hM5 (by rw [rlT_s h1i, ← rlV_s h1i]; exact hR5) (hN4.tr hN5) (h75.trans h74) (h145.trans h144) (h175.trans h174)
        · refine gd_iconst C dX5_write_129 ?_
          refine gd_iret C hQ hret dX5_write_130 ?_ ?_
          · refine Or.inr ⟨t7, ?_, rfl, _, _, hM2, hR2b, FN.rf F, rfl, rfl, rfl⟩
            by_cases h1 : b8 = 1
            · by_cases h2 : y5 = 1
              · rw [← haN h1 h2]; omega
              · omega
            · omega
          · decide
      refine gd_if_ne (tgt := 122) C dX5_write_101 (by decide) ?_ (fun hc101 => ?_) (fun hc101 => ?_)
      · omega
      · refine gd_iconst C dX5_write_122 ?_
        exact hj101 _ (by omega)
      · refine gd_aload_n C dX5_write_104 rfl ?_
        refine gd_callV (n := 0) (ci := 5) (Cn := RX5) (T := TX5) (N := 18) C (kX5_left hl hM hR hI) ?_ rfl gX5_write_X5_left rfl ⟨rfl, by decide, by decide, by decide +kernel⟩ rfl rfl (Nat.le_of_ble_eq_true rfl) rfl dX5_write_105 ⟨⟨by decide, by decide⟩, by decide, by decide⟩ (fun _ h => h.elim) ?_
        · exact ⟨_, by exact hMv.ob⟩
        rintro _ _ ⟨rfl, rfl⟩
        refine gd_aload_n C dX5_write_108 rfl ?_
        refine gd_callV (n := 0) (ci := 5) (Cn := RX5) (T := TX5) (N := 18) C (kX5_keptNow hl hM hR hI) ?_ rfl gX5_write_X5_keptNow rfl ⟨rfl, by decide, by decide, by decide +kernel⟩ rfl rfl (Nat.le_of_ble_eq_true rfl) rfl dX5_write_109 ⟨⟨by decide, by decide⟩, by decide, by decide⟩ (fun _ h => h.elim) ?_
        · exact ⟨_, by exact hMv.ob⟩
        rintro _ _ ⟨rfl, rfl⟩
        refine gd_iadd C dX5_write_112 ?_
        refine gd_iload C dX5_write_113 rfl ?_
        refine gd_icmp_lt (tgt := 122) C dX5_write_115 (by decide) ?_ ?_ (fun hc115 => ?_) (fun hc115 => ?_)
        · omega
        · omega
        · refine gd_iconst C dX5_write_122 ?_
          exact hj101 _ (by omega)
        · refine gd_iconst C dX5_write_118 ?_
          refine gd_goto (tgt := 123) C dX5_write_119 (by decide) ?_
          exact hj101 _ (by omega)
    refine gd_iconst C dX5_write_36 ?_
    refine gd_istore C dX5_write_37 (Nat.le_of_ble_eq_true rfl) ?_
    refine gd_iload_n C dX5_write_39 rfl ?_
    refine gd_istore C dX5_write_40 (Nat.le_of_ble_eq_true rfl) ?_
    suffices hloop : ∀ (n : Nat) (i a : Int), (x + k - i).toNat = n → (b8 = 1 ∧ y5 = 1 ∧ x ≤ i ∧ i ≤ x + k ∧ a = sI (fun p => eqI (B q p) (-1)) x i ∨ ¬ (b8 = 1 ∧ y5 = 1) ∧ a = 0 ∧ i = x) → Gd p l e ({ frames := 2, cells := 0, slots := 0, locals := 43 }) s m args below meth c D z Q 0 0 w 42 [some (.ref o), some (.int (iI q)), some (.int (iI x)), some (.int (iI k)), some (.int (iI b8)), some (.int (iI y5)), some (.int (iI a)), some (.int (iI i))] [] from
      hloop _ x 0 rfl (by
        by_cases h9 : b8 = 1 ∧ y5 = 1
        · exact Or.inl ⟨h9.1, h9.2, by omega, by omega, (sI_0 _ _).symm⟩
        · exact Or.inr ⟨h9, rfl, rfl⟩)
    intro n
    induction n using Nat.strongRecOn with
    | _ n ih =>
    intro i a hn hst
    have hFi : 0 ≤ q → q < 16 → 0 ≤ i → i < 64 → F 2 (64 * q + i) = B q i := fun h1 h2 h3 h4 => hR2 q i h1 h2 h3 h4
    have hBi : 0 ≤ q → q < 16 → -2 ≤ B q i ∧ B q i ≤ 127 := fun h1 h2 => hI.bb q h1 h2 i
    refine gd_iload C dX5_write_42 rfl ?_
    refine gd_if_eq (tgt := 92) C dX5_write_44 (by decide) ?_ (fun hc44 => ?_) (fun hc44 => ?_)
    · omega
    · refine Gd.sub (by repeat (first | exact Lsb.nil | exact Lsb.rf _ | refine Lsb.keep ?_ | refine Lsb.drop ?_)) (hcut92 a (fun h1 h2 => ?_) ?_)
      · rcases hst with h9 | h9
        · rw [h9.2.2.2.2, show i = x + k by omega]
        · exact absurd ⟨h1, h2⟩ h9.1
      · rcases hst with h9 | h9
        · have h8 := sI_bd (g := fun p => eqI (B q p) (-1)) (a := x) (b := i) (fun j => eqI_bd _ _) h9.2.2.1
          omega
        · omega
    · refine gd_iload C dX5_write_47 rfl ?_
      refine gd_if_eq (tgt := 92) C dX5_write_49 (by decide) ?_ (fun hc49 => ?_) (fun hc49 => ?_)
      · omega
      · refine Gd.sub (by repeat (first | exact Lsb.nil | exact Lsb.rf _ | refine Lsb.keep ?_ | refine Lsb.drop ?_)) (hcut92 a (fun h1 h2 => ?_) ?_)
        · rcases hst with h9 | h9
          · rw [h9.2.2.2.2, show i = x + k by omega]
          · exact absurd ⟨h1, h2⟩ h9.1
        · rcases hst with h9 | h9
          · have h8 := sI_bd (g := fun p => eqI (B q p) (-1)) (a := x) (b := i) (fun j => eqI_bd _ _) h9.2.2.1
            omega
          · omega
      · refine gd_iload C dX5_write_52 rfl ?_
        refine gd_iload_n C dX5_write_54 rfl ?_
        refine gd_iload_n C dX5_write_55 rfl ?_
        refine gd_iadd C dX5_write_56 ?_
        refine gd_icmp_ge (tgt := 92) C dX5_write_57 (by decide) ?_ ?_ (fun hc57 => ?_) (fun hc57 => ?_)
        · omega
        · omega
        · refine Gd.sub (by repeat (first | exact Lsb.nil | exact Lsb.rf _ | refine Lsb.keep ?_ | refine Lsb.drop ?_)) (hcut92 a (fun h1 h2 => ?_) ?_)
          · rcases hst with h9 | h9
            · rw [h9.2.2.2.2, show i = x + k by omega]
            · exact absurd ⟨h1, h2⟩ h9.1
          · rcases hst with h9 | h9
            · have h8 := sI_bd (g := fun p => eqI (B q p) (-1)) (a := x) (b := i) (fun j => eqI_bd _ _) h9.2.2.1
              omega
            · omega
        · refine gd_iload C dX5_write_60 rfl ?_
          refine gd_aload_n C dX5_write_62 rfl ?_
          refine gm_get C hMv (by decide +kernel) 2 (by decide) (by decide +kernel) rfl dX5_write_63 rfl ?_
          refine gd_bipush C dX5_write_66 (by decide) ?_
          refine gd_iload_n C dX5_write_68 rfl ?_
          refine gd_imul C dX5_write_69 ?_
          refine gd_iload C dX5_write_70 rfl ?_
          refine gd_iadd C dX5_write_72 ?_
          replace hFi := hFi (by omega) (by omega) (by omega) (by omega)
          replace hBi := hBi (by omega) (by omega)
          refine gd_iald C dX5_write_73 hMv.a2 (by decide) ?_ ?_
          · omega
          refine gd_iconst C dX5_write_74 ?_
          have hj75 : ∀ x9 : Int, (x9 = 1 ∧ (B q i = -1) ∨ x9 = 0 ∧ ¬ (B q i = -1)) → Gd p l e ({ frames := 2, cells := 0, slots := 0, locals := 43 }) s m args below meth c D z Q 0 0 w 83 [some (.ref o), some (.int (iI q)), some (.int (iI x)), some (.int (iI k)), some (.int (iI b8)), some (.int (iI y5)), some (.int (iI a)), some (.int (iI i))] (.int (iI x9) :: [.int (iI a)]) := by
            intro x9 hvx9
            refine gd_iadd C dX5_write_83 ?_
            refine gd_istore C dX5_write_84 (Nat.le_of_ble_eq_true rfl) ?_
            refine gd_iinc C dX5_write_86 rfl ?_
            refine gd_goto (tgt := 42) C dX5_write_89 (by decide) ?_
            exact ih _ (by omega) (i + 1) (a + x9) rfl (Or.inl ⟨by omega, by omega, by omega, by omega, by
              rw [sI_s (by omega), ← (show a = sI (fun p => eqI (B q p) (-1)) x i by omega)]
              rcases hvx9 with ⟨h8, h9⟩ | ⟨h8, h9⟩
              · rw [eqI_t h9, h8]
              · rw [eqI_f h9, h8]⟩)
          refine gd_icmp_ne (tgt := 82) C dX5_write_75 (by decide) ?_ ?_ (fun hc75 => ?_) (fun hc75 => ?_)
          · omega
          · omega
          · refine gd_iconst C dX5_write_82 ?_
            exact hj75 _ (by omega)
          · refine gd_iconst C dX5_write_78 ?_
            refine gd_goto (tgt := 83) C dX5_write_79 (by decide) ?_
            exact hj75 _ (by omega)
  refine gd_if_eq (tgt := 33) C dX5_write_14 (by decide) ?_ (fun hc14 => ?_) (fun hc14 => ?_)
  · omega
  · refine gd_iconst C dX5_write_33 ?_
    exact hj14 _ (by omega)
  · refine gd_iload_n C dX5_write_17 rfl ?_
    refine gd_iconst C dX5_write_18 ?_
    refine gd_bipush C dX5_write_19 (by decide) ?_
    refine gd_iload_n C dX5_write_21 rfl ?_
    refine gd_isub C dX5_write_22 ?_
    refine gd_callS (n := 3) C (kX5_in hl (q := k) (lo := 1) (hi := 64 - x) ?_) gX5_write_X5_in rfl ⟨by decide, by decide, by decide +kernel⟩ rfl rfl (Nat.le_of_ble_eq_true rfl) rfl dX5_write_23 ⟨⟨by decide, by decide⟩, by decide, by decide⟩ (fun _ h => h.elim) ?_
    · omega
    rintro _ _ ⟨b6, rfl, rfl, hb6⟩
    refine gd_if_eq (tgt := 33) C dX5_write_26 (by decide) ?_ (fun hc26 => ?_) (fun hc26 => ?_)
    · omega
    · refine gd_iconst C dX5_write_33 ?_
      exact hj14 _ (by omega)
    · refine gd_iconst C dX5_write_29 ?_
      refine gd_goto (tgt := 34) C dX5_write_30 (by decide) ?_
      exact hj14 _ (by omega)
