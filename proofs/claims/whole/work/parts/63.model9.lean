set_option maxRecDepth 100000 in
set_option maxHeartbeats 4000000 in
theorem kX5_close {l : Launch} {D : va_G} {ky : Nat → ClassId} {z : Nat} {w : WT} (hl : l.stackTraces = false) {o : Nat} {A : Nat → Nat} {F : Nat → Int → Int} {G : Nat → Int} (hM : MW w ky o A F G) {T : Int → Int} {v B : Int → Int → Int} {sc dn : Int} (hR : RF F G T v B sc dn) (hI : CI T v B sc dn) {q : Int} (hq : InR q) (hsc : sc = -1 ∨ 1 ≤ sc ∧ sc ≤ 50) : Mt l D ky z yX5_close wsX5_close { frames := 4, cells := 0, slots := 0, locals := 87 } [.ref o, .int (iI q)] w (fun r w' => ((0 ≤ q ∧ q < 16 ∧ v q 2 = 1) ∧ dn = 0 ∧ 0 < v q 3 ∧ ((¬ (v q 9 = 1 ∧ v q 3 = 1) ∧ r = some (.int (iI (v q 3 - 1))) ∧ PM w w' ky o A F G (T) ((fU v q (fU (v q) 3 (v q 3 - 1)))) (B) (sc) (dn) (F 7) (0)) ∨ (v q 9 = 1 ∧ v q 3 = 1 ∧ (((ctS 0 (64 - (0 : Int)).toNat (tkF T (v q 6) (v q 7) 0) (drF (B q) 0 64) sc 0).1 = 1 ∧ r = some (.int (iI (-1))) ∧ PM w w' ky o A F G (rlT (fU v q (fU (fU (v q) 3 (v q 3 - 1)) 7 0)) (ctS 0 (64 - (0 : Int)).toNat (tkF T (v q 6) (v q 7) 0) (drF (B q) 0 64) sc 0).2.1 16) (crV (fU v q (fU (fU (v q) 3 (v q 3 - 1)) 7 0)) 16) (flB (fU B q (ctS 0 (64 - (0 : Int)).toNat (tkF T (v q 6) (v q 7) 0) (drF (B q) 0 64) sc 0).2.2.1) 16) (-1) (1) (F 7) (0)) ∨ ((ctS 0 (64 - (0 : Int)).toNat (tkF T (v q 6) (v q 7) 0) (drF (B q) 0 64) sc 0).1 = 0 ∧ r = some (.int (iI 0)) ∧ PM w w' ky o A F G ((ctS 0 (64 - (0 : Int)).toNat (tkF T (v q 6) (v q 7) 0) (drF (B q) 0 64) sc 0).2.1) ((fU v q (fU (fU (fU (fU (v q) 3 (v q 3 - 1)) 7 0) 2 0) 9 0))) (fU B q (ctS 0 (64 - (0 : Int)).toNat (tkF T (v q 6) (v q 7) 0) (drF (B q) 0 64) sc 0).2.2.1) ((ctS 0 (64 - (0 : Int)).toNat (tkF T (v q 6) (v q 7) 0) (drF (B q) 0 64) sc 0).2.2.2.1) (dn) (fU (F 7) q (-1)) (0)))))) ∨ ∃ t, (t = 1 ∧ ¬ (0 ≤ q ∧ q < 16 ∧ v q 2 = 1) ∨ t = 2 ∧ (0 ≤ q ∧ q < 16 ∧ v q 2 = 1) ∧ (dn ≠ 0 ∨ v q 3 = 0)) ∧ r = some (.int (iI 0)) ∧ PM w w' ky o A F G (T) (v) (B) (sc) (dn) (F 7) (t)) (fun _ => False) := by
  refine Mt.of (cc := cX5_close) (ret := (some .int)) (maxL := 3) (by decide) rfl (by intro v hv; simp at hv; rcases hv with rfl | rfl <;> rfl) (Nat.le_of_ble_eq_true rfl) ?_ hl
  intro p e s m args below meth c C htab hret hname Q hQ
  have hMv := hM.V
  obtain ⟨hR0, hR1, hR2, hR3, hR4⟩ := id hR
  obtain ⟨hi1, hi2, hi3, hi4⟩ := id hI
  refine gd_aload_n C dX5_close_0 rfl ?_
  refine gd_iload_n C dX5_close_1 rfl ?_
  refine gd_callV (n := 1) (ci := 5) (Cn := RX5) (T := TX5) (N := 18) C (kX5_isThere hl hMv.1 hR hI (q := q) hq) ?_ rfl gX5_close_X5_isThere rfl ⟨rfl, by decide, by decide, by decide +kernel⟩ rfl rfl (Nat.le_of_ble_eq_true rfl) rfl dX5_close_2 ⟨⟨by decide, by decide⟩, by decide, by decide⟩ (fun _ h => h.elim) ?_
  · exact ⟨_, by exact hMv.ob⟩
  rintro _ _ ⟨b8, rfl, rfl, hb8⟩
  have hb8x : b8 = 0 ∨ b8 = 1 := by omega
  refine gd_istore_n C dX5_close_5 (Nat.le_of_ble_eq_true rfl) ?_
  refine gd_aload_n C dX5_close_6 rfl ?_
  refine gd_iload_n C dX5_close_7 rfl ?_
  refine gd_iload_n C dX5_close_8 rfl ?_
  have hj9 : ∀ y9 : Int, (y9 = 1 ∧ ((0 ≤ q ∧ q < 16 ∧ v q 2 = 1) ∧ dn = 0 ∧ 0 < v q 3) ∨ y9 = 0 ∧ ¬ ((0 ≤ q ∧ q < 16 ∧ v q 2 = 1) ∧ dn = 0 ∧ 0 < v q 3)) → Gd p l e ({ frames := 4, cells := 0, slots := 0, locals := 87 }) s m args below meth c D z Q 0 0 w 33 [some (.ref o), some (.int (iI q)), some (.int (iI b8))] (.int (iI y9) :: [.int (iI b8), .ref o]) := by
    intro y9 hvy9
    refine gd_callV (n := 2) (ci := 5) (Cn := RX5) (T := TX5) (N := 18) C (kX5_asked_ hl hMv.1 (x := b8) (y := y9) ?_) ?_ rfl gX5_close_X5_asked_ rfl ⟨rfl, by decide, by decide, by decide +kernel⟩ rfl rfl (Nat.le_of_ble_eq_true rfl) rfl dX5_close_33 ⟨⟨by decide, by decide⟩, by decide, by decide⟩ (fun _ h => h.elim) ?_
    · omega
    · exact ⟨_, by exact hMv.ob⟩
    rintro _ w2 ⟨t7, b7, rfl, hM2, hAS⟩
    unfold AS2 at hAS
    have hR2b : RF F (nU G 17 t7) T v B sc dn := hR.g hR3 hR4
    refine gd_if_ne (tgt := 41) C dX5_close_36 (by decide) ?_ (fun hc36 => ?_) (fun hc36 => ?_)
    · omega
    · obtain ⟨ht7, hTH, hup, hop⟩ : t7 = 0 ∧ (0 ≤ q ∧ q < 16 ∧ v q 2 = 1) ∧ (dn = 0) ∧ (0 < v q 3) := by
        rcases hAS with h9 | h9
        · refine ⟨by omega, by omega, by omega, by omega⟩
        · exfalso; omega
      subst ht7
      obtain ⟨d1, d2, d3, d4, d5, d6⟩ := hR1 q hTH.1 hTH.2.1
      have hfi := hi2 q hTH.1 hTH.2.1
      obtain ⟨f0, f2, f3, f4, f5, f6, f8, f9, f10, fp⟩ := id hfi
      refine gd_aload_n C dX5_close_41 rfl ?_
      refine gm_get C hM2 (by decide +kernel) 3 (by decide) (by decide +kernel) rfl dX5_close_42 rfl ?_
      refine gd_iload_n C dX5_close_45 rfl ?_
      refine gd_dup2 C dX5_close_46 rfl rfl ?_
      refine gd_iald C dX5_close_47 hM2.a3 (by decide) ?_ ?_
      · omega
      refine gd_iconst C dX5_close_48 ?_
      refine gd_isub C dX5_close_49 ?_
      refine gm_iast C hM2 (k := 3) (n := 16) (by decide) (fun _ => rfl) dX5_close_50 (by decide) ?_ (fun wm1 hMm1 => ?_)
      · omega
      have hI1 : CI T (fU v q (fU (v q) 3 (v q 3 - 1))) B sc dn := hI.setV (j := q) (V := fU (v q) 3 (v q 3 - 1)) (hfi.op (by omega))
      have hR5 : RF (nU F 3 (fU (F 3) q (F 3 q - 1))) (nU G 17 0) T (fU v q (fU (v q) 3 (v q 3 - 1))) B sc dn := hR2b.sv (k := 3) (j := q) (x := F 3 q - 1) (u := fU (v q) 3 (v q 3 - 1)) (by decide) ⟨rfl, by show F 3 q - 1 = v q 3 - 1; omega, rfl, rfl, rfl, rfl⟩
      have hO : nU F 3 (fU (F 3) q (F 3 q - 1)) 3 q = v q 3 - 1 := by
        show fU (F 3) q (F 3 q - 1) q = _
        rw [fU_s]; omega
      have hDl : nU F 3 (fU (F 3) q (F 3 q - 1)) 8 q = v q 9 := d6
      refine gd_aload_n C dX5_close_51 rfl ?_
      refine gm_get C hMm1 (by decide +kernel) 3 (by decide) (by decide +kernel) rfl dX5_close_52 rfl ?_
      refine gd_iload_n C dX5_close_55 rfl ?_
      refine gd_iald C dX5_close_56 hMm1.a3 (by decide) ?_ ?_
      · omega
      refine gd_if_ne (tgt := 79) C dX5_close_57 (by decide) ?_ (fun hc57 => ?_) (fun hc57 => ?_)
      · omega
      · refine gd_aload_n C dX5_close_79 rfl ?_
        refine gm_get C hMm1 (by decide +kernel) 3 (by decide) (by decide +kernel) rfl dX5_close_80 rfl ?_
        refine gd_iload_n C dX5_close_83 rfl ?_
        refine gd_iald C dX5_close_84 hMm1.a3 (by decide) ?_ ?_
        · omega
        refine gd_iret C hQ hret dX5_close_85 ?_ ?_
        · exact Or.inl ⟨hTH, hup, hop, Or.inl ⟨by omega, by rw [hO], _, _, hMm1, hR5, ⟨rfl, rfl, rfl, rfl, rfl⟩, rfl, rfl, rfl⟩⟩
        · decide
      · refine gd_aload_n C dX5_close_60 rfl ?_
        refine gm_get C hMm1 (by decide +kernel) 8 (by decide) (by decide +kernel) rfl dX5_close_61 rfl ?_
        refine gd_iload_n C dX5_close_64 rfl ?_
        refine gd_zald C dX5_close_65 hMm1.a8 (by decide) ?_ ?_
        · omega
        refine gd_if_eq (tgt := 79) C dX5_close_66 (by decide) ?_ (fun hc66 => ?_) (fun hc66 => ?_)
        · omega
        · refine gd_aload_n C dX5_close_79 rfl ?_
          refine gm_get C hMm1 (by decide +kernel) 3 (by decide) (by decide +kernel) rfl dX5_close_80 rfl ?_
          refine gd_iload_n C dX5_close_83 rfl ?_
          refine gd_iald C dX5_close_84 hMm1.a3 (by decide) ?_ ?_
          · omega
          refine gd_iret C hQ hret dX5_close_85 ?_ ?_
          · exact Or.inl ⟨hTH, hup, hop, Or.inl ⟨by omega, by rw [hO], _, _, hMm1, hR5, ⟨rfl, rfl, rfl, rfl, rfl⟩, rfl, rfl, rfl⟩⟩
          · decide
        · refine gd_aload_n C dX5_close_69 rfl ?_
          refine gd_iload_n C dX5_close_70 rfl ?_
          refine gd_callV (n := 1) (ci := 5) (Cn := RX5) (T := TX5) (N := 18) C (kX5_ends hl hMm1.1 hR5 (q := q) ⟨hTH.1, hTH.2.1⟩ hI1.k67 hI1.bb hsc) ?_ rfl gX5_close_X5_ends rfl ⟨rfl, by decide, by decide, by decide +kernel⟩ rfl rfl (Nat.le_of_ble_eq_true rfl) rfl dX5_close_71 ⟨⟨by decide, by decide⟩, by decide, by decide⟩ (fun _ h => h.elim) ?_
          · exact ⟨_, by exact hMm1.ob⟩
          rintro _ w6 ⟨b9, rfl, hx⟩
          have hb91 : b9 = 0 ∨ b9 = 1 := by rcases hx with h9 | h9 <;> omega
          rw [fU_s, show fU (v q) 3 (v q 3 - 1) 6 = v q 6 from rfl, show fU (v q) 3 (v q 3 - 1) 7 = v q 7 from rfl, fU_ss, fU_ss] at hx
          have hMa := hMm1
          refine gd_if_ne (tgt := 79) C dX5_close_74 (by decide) ?_ (fun hc74 => ?_) (fun hc74 => ?_)
          · omega
          · rcases hx with ⟨h1, -⟩ | ⟨h1, h2, F6, G6, hM6, hR6, hN6, h76, h146, h176⟩
            · exfalso; omega
            have hO6 : F6 3 q = v q 3 - 1 := by
              have h9 := (hR6.2.1 q hTH.1 hTH.2.1).2.1
              rw [fU_s] at h9
              exact h9
            replace hM6 := hMa.tr hM6
            refine gd_aload_n C dX5_close_79 rfl ?_
            refine gm_get C hM6 (by decide +kernel) 3 (by decide) (by decide +kernel) rfl dX5_close_80 rfl ?_
            refine gd_iload_n C dX5_close_83 rfl ?_
            refine gd_iald C dX5_close_84 hM6.a3 (by decide) ?_ ?_
            · omega
            refine gd_iret C hQ hret dX5_close_85 ?_ ?_
            · exact Or.inl ⟨hTH, hup, hop, Or.inr ⟨by omega, by omega, Or.inr ⟨h2, by rw [hO6, show v q 3 - 1 = 0 by omega], _, _, hM6, hR6, hN6, h76, h146, h176⟩⟩⟩
            · decide
          · refine gd_iconst C dX5_close_77 ?_
            refine gd_iret C hQ hret dX5_close_78 ?_ ?_
            · rcases hx with ⟨h1, h2, h3⟩ | ⟨h1, -⟩
              · exact Or.inl ⟨hTH, hup, hop, Or.inr ⟨by omega, by omega, Or.inl ⟨h2, rfl, h3.pre hMa ⟨rfl, rfl, rfl, rfl, rfl⟩ rfl⟩⟩⟩
              · exfalso; omega
            · decide
    · refine gd_iconst C dX5_close_39 ?_
      refine gd_iret C hQ hret dX5_close_40 ?_ ?_
      · refine Or.inr ⟨t7, ?_, rfl, _, _, hM2, hR2b, FN.rf F, rfl, rfl, rfl⟩
        by_cases hTH : 0 ≤ q ∧ q < 16 ∧ v q 2 = 1
        · have hf3 := (hi2 q hTH.1 hTH.2.1).2.2.1
          omega
        · omega
      · decide
  refine gd_if_eq (tgt := 32) C dX5_close_9 (by decide) ?_ (fun hc9 => ?_) (fun hc9 => ?_)
  · omega
  · refine gd_iconst C dX5_close_32 ?_
    exact hj9 _ (by omega)
  · refine gd_aload_n C dX5_close_12 rfl ?_
    refine gm_get C hMv (by decide +kernel) 15 (by decide) (by decide +kernel) rfl dX5_close_13 rfl ?_
    refine gd_if_ne (tgt := 32) C dX5_close_16 (by decide) ?_ (fun hc16 => ?_) (fun hc16 => ?_)
    · omega
    · refine gd_iconst C dX5_close_32 ?_
      exact hj9 _ (by omega)
    · have hF3 := (hR1 q (by omega) (by omega)).2.1
      have hf3 := (hi2 q (by omega) (by omega)).2.2.1
      refine gd_aload_n C dX5_close_19 rfl ?_
      refine gm_get C hMv (by decide +kernel) 3 (by decide) (by decide +kernel) rfl dX5_close_20 rfl ?_
      refine gd_iload_n C dX5_close_23 rfl ?_
      refine gd_iald C dX5_close_24 hMv.a3 (by decide) ?_ ?_
      · omega
      refine gd_if_le (tgt := 32) C dX5_close_25 (by decide) ?_ (fun hc25 => ?_) (fun hc25 => ?_)
      · omega
      · refine gd_iconst C dX5_close_32 ?_
        exact hj9 _ (by omega)
      · refine gd_iconst C dX5_close_28 ?_
        refine gd_goto (tgt := 33) C dX5_close_29 (by decide) ?_
        exact hj9 _ (by omega)

set_option maxRecDepth 100000 in
set_option maxHeartbeats 4000000 in
theorem kX5_start {l : Launch} {D : va_G} {ky : Nat → ClassId} {z : Nat} {w : WT} (hl : l.stackTraces = false) {o : Nat} {A : Nat → Nat} {F : Nat → Int → Int} {G : Nat → Int} (hM : MW w ky o A F G) {T : Int → Int} {v B : Int → Int → Int} {sc dn : Int} (hR : RF F G T v B sc dn) (hI : CI T v B sc dn) (hL : RLs (F 7) v) (hsc : dn = 1 → sc = -1) : Mt l D ky z yX5_start wsX5_start { frames := 4, cells := 0, slots := 0, locals := 87 } [.ref o] w (fun r w' => (dn = 1 ∧ r = some (.int (iI (sI (fun j => v j 8) 0 16))) ∧ ∃ f7 : Int → Int, (∀ j, 0 ≤ j → j < 16 → f7 j = -1) ∧ PM w w' ky o A F G ((stS (T, v, B) 16).1) ((stS (T, v, B) 16).2.1) ((stS (T, v, B) 16).2.2) (-1) (0) (f7) (0)) ∨ (dn ≠ 1 ∧ r = some (.int (iI 0)) ∧ PM w w' ky o A F G (T) (v) (B) (sc) (dn) (F 7) (1))) (fun _ => False) := by
  refine Mt.of (cc := cX5_start) (ret := (some .int)) (maxL := 3) (by decide) rfl (by intro v hv; simp at hv; rcases hv with rfl <;> rfl) (Nat.le_of_ble_eq_true rfl) ?_ hl
  intro p e s m args below meth c C htab hret hname Q hQ
  have hMv := hM.V
  obtain ⟨hR0, hR1, hR2, hR3, hR4⟩ := id hR
  obtain ⟨hi1, hi2, hi3, hi4⟩ := id hI
  refine gd_aload_n C dX5_start_0 rfl ?_
  refine gd_aload_n C dX5_start_1 rfl ?_
  refine gm_get C hMv (by decide +kernel) 15 (by decide) (by decide +kernel) rfl dX5_start_2 rfl ?_
  refine gd_callV (n := 1) (ci := 5) (Cn := RX5) (T := TX5) (N := 18) C (kX5_asked hl hMv.1 (x := G 15) ?_) ?_ rfl gX5_start_X5_asked rfl ⟨rfl, by decide, by decide, by decide +kernel⟩ rfl rfl (Nat.le_of_ble_eq_true rfl) rfl dX5_start_5 ⟨⟨by decide, by decide⟩, by decide, by decide⟩ (fun _ h => h.elim) ?_
  · omega
  · exact ⟨_, by exact hMv.ob⟩
  rintro _ w2 ⟨rfl, hM2⟩
  have hR2b : RF F (nU G 17 (1 - G 15)) T v B sc dn := hR.g hR3 hR4
  refine gd_if_ne (tgt := 13) C dX5_start_8 (by decide) ?_ (fun hc8 => ?_) (fun hc8 => ?_)
  · omega
  · refine gd_aload_n C dX5_start_13 rfl ?_
    refine gd_iconst C dX5_start_14 ?_
    refine gm_put C hM2 (by decide +kernel) 15 (by decide) (by decide +kernel) rfl rfl dX5_start_15 rfl (nar_b (Or.inl rfl)) (nar_t (Or.inr rfl) (fun _ => Or.inl rfl)).2 (fun wm1 hMm1 => ?_)
    refine gd_iconst C dX5_start_18 ?_
    refine gd_istore_n C dX5_start_19 (Nat.le_of_ble_eq_true rfl) ?_
    refine gd_iconst C dX5_start_20 ?_
    refine gd_istore_n C dX5_start_21 (Nat.le_of_ble_eq_true rfl) ?_
    have hup : dn = 1 := by omega
    have hsc9 : sc = -1 := hsc hup
    subst hsc9
    have hR3c : RF F (nU (nU G 17 (1 - G 15)) 15 0) T v B (-1) 0 := hR2b.g rfl hR4
    suffices hloop : ∀ (n : Nat) (i a : Int) (w1 : WT) (F1 : Nat → Int → Int) (G1 : Nat → Int), 0 ≤ i → i ≤ 16 → (16 - i).toNat = n → MV w w1 ky o A F1 G1 → RF F1 G1 (stS (T, v, B) i.toNat).1 (stS (T, v, B) i.toNat).2.1 (stS (T, v, B) i.toNat).2.2 (-1) 0 → FN F F1 → (∀ j, 0 ≤ j → j < i → F1 7 j = -1) → (∀ j, i ≤ j → j < 16 → F1 7 j = F 7 j) → G1 14 = G 14 → G1 17 = 0 → a = sI (fun j => v j 8) 0 i → Gd p l e ({ frames := 4, cells := 0, slots := 0, locals := 87 }) s m args below meth c D z Q 0 0 w1 22 [some (.ref o), some (.int (iI a)), some (.int (iI i))] [] from
      hloop _ 0 0 _ F _ (by omega) (by omega) rfl hMm1 hR3c (FN.rf F) (fun j h1 h2 => by omega) (fun j h1 h2 => rfl) rfl (by show 1 - G 15 = 0; omega) (sI_0 _ _).symm
    intro n
    induction n using Nat.strongRecOn with
    | _ n ih =>
    intro i a w1 F1 G1 h1i h2i hn hM1 hRi hNi h7a h7b h14 h17 ha
    have hat := stS_at (s := (T, v, B)) (i := i) i.toNat (by omega)
    dsimp only at hat
    obtain ⟨hk9, hb9⟩ := stS_k (s := (T, v, B)) hI.k67 hI.bb i.toNat (by omega)
    have hF8 : i < 16 → F1 8 i = v i 9 := fun h => by
      have h9 := (hRi.2.1 i h1i h).2.2.2.2.2
      rw [hat.1] at h9
      exact h9
    have h7i : i < 16 → F1 7 i = F 7 i := fun h => h7b i (Int.le_refl _) h
    have hf8 : i < 16 → v i 8 = 0 ∨ v i 8 = 1 := fun h => (hi2 i h1i h).2.2.2.2.2.2.1
    have hf9 : i < 16 → v i 9 = 0 ∨ v i 9 = 1 := fun h => (hi2 i h1i h).2.2.2.2.2.2.2.1
    have hrl := hL i h1i
    refine gd_iload_n C dX5_start_22 rfl ?_
    refine gd_bipush C dX5_start_23 (by decide) ?_
    refine gd_icmp_ge (tgt := 101) C dX5_start_25 (by decide) ?_ ?_ (fun hc25 => ?_) (fun hc25 => ?_)
    · omega
    · omega
    · refine gd_iload_n C dX5_start_101 rfl ?_
      refine gd_iret C hQ hret dX5_start_102 ?_ ?_
      · have e1 : i = 16 := by omega
        subst e1
        exact Or.inl ⟨hup, by rw [ha], F1 7, fun j h1 h2 => h7a j h1 h2, _, _, hM1, hRi, hNi, rfl, h14, h17⟩
      · decide
    · replace hF8 := hF8 (by omega)
      replace h7i := h7i (by omega)
      replace hf8 := hf8 (by omega)
      replace hf9 := hf9 (by omega)
      replace hrl := hrl (by omega)
      refine gd_iload_n C dX5_start_28 rfl ?_
      refine gd_aload_n C dX5_start_29 rfl ?_
      refine gm_get C hM1 (by decide +kernel) 8 (by decide) (by decide +kernel) rfl dX5_start_30 rfl ?_
      refine gd_iload_n C dX5_start_33 rfl ?_
      refine gd_zald C dX5_start_34 hM1.a8 (by decide) ?_ ?_
      · omega
      have hj35 : ∀ x9 : Int, (x9 = 1 ∧ (v i 8 = 1) ∨ x9 = 0 ∧ ¬ (v i 8 = 1)) → Gd p l e ({ frames := 4, cells := 0, slots := 0, locals := 87 }) s m args below meth c D z Q 0 0 w1 53 [some (.ref o), some (.int (iI a)), some (.int (iI i))] (.int (iI x9) :: [.int (iI a)]) := by
        intro x9 hvx9
        refine gd_iadd C dX5_start_53 ?_
        refine gd_istore_n C dX5_start_54 (Nat.le_of_ble_eq_true rfl) ?_
        refine gd_aload_n C dX5_start_55 rfl ?_
        refine gm_get C hM1 (by decide +kernel) 8 (by decide) (by decide +kernel) rfl dX5_start_56 rfl ?_
        refine gd_iload_n C dX5_start_59 rfl ?_
        refine gd_zald C dX5_start_60 hM1.a8 (by decide) ?_ ?_
        · omega
        refine gd_if_eq (tgt := 73) C dX5_start_61 (by decide) ?_ (fun hc61 => ?_) (fun hc61 => ?_)
        · omega
        · refine gd_aload_n C dX5_start_73 rfl ?_
          refine gm_get C hM1 (by decide +kernel) 7 (by decide) (by decide +kernel) rfl dX5_start_74 rfl ?_
          refine gd_iload_n C dX5_start_77 rfl ?_
          refine gd_iald C dX5_start_78 hM1.a7 (by decide) ?_ ?_
          · omega
          refine gd_iconst C dX5_start_79 ?_
          refine gd_icmp_eq (tgt := 95) C dX5_start_80 (by decide) ?_ ?_ (fun hc80 => ?_) (fun hc80 => ?_)
          · omega
          · omega
          · refine gd_iinc C dX5_start_95 rfl ?_
            refine gd_goto (tgt := 22) C dX5_start_98 (by decide) ?_
            first
              | exact ih _ (by omega) (i + 1) _ w5 F5 G5 (by omega) (by omega) rfl (hM1.tr hM5) (by rw [stS_s h1i]; exact hR5) (hNi.tr hN5) (fun j h1 h2 => by
                  rw [h75]
                  by_cases hj : j = i
                  · rw [hj, fU_s]
                  · rw [fU_n hj]; exact h7a j h1 (by omega)) (fun j h1 h2 => by rw [h75, fU_n (by omega)]; exact h7b j (by omega) h2) (h145.trans h14) (h175.trans h17) (by rw [sI_s h1i, ha]; omega)
              | exact ih _ (by omega) (i + 1) _ w1 F1 G1 (by omega) (by omega) rfl hM1 (by rw [stS_s h1i]; unfold st1; rw [if_neg (by rw [hat.1]; omega), if_neg (by rw [hat.1]; omega)]; exact hRi) hNi (fun j h1 h2 => by
                  by_cases hj : j = i
                  · rw [hj]; omega
                  · exact h7a j h1 (by omega)) (fun j h1 h2 => h7b j (by omega) h2) h14 h17 (by rw [sI_s h1i, ha]; omega)
          · refine gd_aload_n C dX5_start_83 rfl ?_
            refine gd_iload_n C dX5_start_84 rfl ?_
            refine gd_aload_n C dX5_start_85 rfl ?_
            refine gm_get C hM1 (by decide +kernel) 7 (by decide) (by decide +kernel) rfl dX5_start_86 rfl ?_
            refine gd_iload_n C dX5_start_89 rfl ?_
            refine gd_iald C dX5_start_90 hM1.a7 (by decide) ?_ ?_
            · omega
            refine gd_callV (n := 2) (ci := 5) (Cn := RX5) (T := TX5) (N := 18) C (kX5_cuts hl hM1.1 hRi (q := i) (y := F1 7 i) ⟨h1i, by omega⟩ (by omega) hk9 hb9 (Or.inl rfl)) ?_ rfl gX5_start_X5_cuts rfl ⟨rfl, by decide, by decide, by decide +kernel⟩ rfl rfl (Nat.le_of_ble_eq_true rfl) rfl dX5_start_91 ⟨⟨by decide, by decide⟩, by decide, by decide⟩ (fun _ h => h.elim) ?_
            · exact ⟨_, by exact hM1.ob⟩
            rintro r5 w5 hx
            have hm1 := ctS_m1 (F1 7 i) (64 - F1 7 i).toNat (tkF (stS (T, v, B) i.toNat).1 ((stS (T, v, B) i.toNat).2.1 i 6) ((stS (T, v, B) i.toNat).2.1 i 7) 0) (drF ((stS (T, v, B) i.toNat).2.2 i) (F1 7 i) 64) 0
            obtain ⟨-, hr5, F5, G5, hM5, hR5, hN5, h75, h145, h175⟩ := hx.resolve_left (fun h9 => by have h8 := h9.1; rw [hm1.1] at h8; exact absurd h8 (by decide))
            subst hr5
            rw [hm1.2] at hR5
            have hy7 : F1 7 i = (stS (T, v, B) i.toNat).2.1 i 10 := by rw [hat.1]; omega
            replace hR5 : RF F5 G5 (st1 (stS (T, v, B) i.toNat) i).1 (st1 (stS (T, v, B) i.toNat) i).2.1 (st1 (stS (T, v, B) i.toNat) i).2.2 (-1) 0 := by
              unfold st1
              rw [if_neg (by rw [hat.1]; omega), if_pos (by rw [hat.1]; omega), ← hy7]
              refine hR5.cv (fun j j1 j2 => ?_)
              by_cases hj : j = i
              · subst hj
                dsimp only
                rw [fU_s, fU_s]
                exact ⟨rfl, rfl, rfl, rfl, rfl, rfl⟩
              · dsimp only
                rw [fU_n hj, fU_n hj]
                exact ⟨rfl, rfl, rfl, rfl, rfl, rfl⟩
            refine gd_pop C dX5_start_94 rfl ?_
            refine gd_iinc C dX5_start_95 rfl ?_
            refine gd_goto (tgt := 22) C dX5_start_98 (by decide) ?_
            first
              | exact ih _ (by omega) (i + 1) _ w5 F5 G5 (by omega) (by omega) rfl (hM1.tr hM5) (by rw [stS_s h1i]; exact hR5) (hNi.tr hN5) (fun j h1 h2 => by
                  rw [h75]
                  by_cases hj : j = i
                  · rw [hj, fU_s]
                  · rw [fU_n hj]; exact h7a j h1 (by omega)) (fun j h1 h2 => by rw [h75, fU_n (by omega)]; exact h7b j (by omega) h2) (h145.trans h14) (h175.trans h17) (by rw [sI_s h1i, ha]; omega)
              | exact ih _ (by omega) (i + 1) _ w1 F1 G1 (by omega) (by omega) rfl hM1 (by rw [stS_s h1i]; unfold st1; rw [if_neg (by rw [hat.1]; omega), if_neg (by rw [hat.1]; omega)]; exact hRi) hNi (fun j h1 h2 => by
                  by_cases hj : j = i
                  · rw [hj]; omega
                  · exact h7a j h1 (by omega)) (fun j h1 h2 => h7b j (by omega) h2) h14 h17 (by rw [sI_s h1i, ha]; omega)
        · refine gd_aload_n C dX5_start_64 rfl ?_
          refine gd_iload_n C dX5_start_65 rfl ?_
          refine gd_callV (n := 1) (ci := 5) (Cn := RX5) (T := TX5) (N := 18) C (kX5_ends hl hM1.1 hRi (q := i) ⟨h1i, by omega⟩ hk9 hb9 (Or.inl rfl)) ?_ rfl gX5_start_X5_ends rfl ⟨rfl, by decide, by decide, by decide +kernel⟩ rfl rfl (Nat.le_of_ble_eq_true rfl) rfl dX5_start_66 ⟨⟨by decide, by decide⟩, by decide, by decide⟩ (fun _ h => h.elim) ?_
          · exact ⟨_, by exact hM1.ob⟩
          rintro _ w5 ⟨b9, rfl, hx⟩
          have hm1 := ctS_m1 0 (64 - (0 : Int)).toNat (tkF (stS (T, v, B) i.toNat).1 ((stS (T, v, B) i.toNat).2.1 i 6) ((stS (T, v, B) i.toNat).2.1 i 7) 0) (drF ((stS (T, v, B) i.toNat).2.2 i) 0 64) 0
          obtain ⟨-, -, F5, G5, hM5, hR5, hN5, h75, h145, h175⟩ := hx.resolve_left (fun h9 => by have h8 := h9.2.1; rw [hm1.1] at h8; exact absurd h8 (by decide))
          rw [hm1.2] at hR5
          replace hR5 : RF F5 G5 (st1 (stS (T, v, B) i.toNat) i).1 (st1 (stS (T, v, B) i.toNat) i).2.1 (st1 (stS (T, v, B) i.toNat) i).2.2 (-1) 0 := by
            unfold st1
            rw [if_pos (by rw [hat.1]; omega)]
            refine hR5.cv (fun j j1 j2 => ?_)
            by_cases hj : j = i
            · subst hj
              dsimp only
              rw [fU_s, fU_s]
              exact ⟨rfl, rfl, rfl, rfl, rfl, rfl⟩
            · dsimp only
              rw [fU_n hj, fU_n hj]
              exact ⟨rfl, rfl, rfl, rfl, rfl, rfl⟩
          refine gd_pop C dX5_start_69 rfl ?_
          refine gd_goto (tgt := 95) C dX5_start_70 (by decide) ?_
          refine gd_iinc C dX5_start_95 rfl ?_
          refine gd_goto (tgt := 22) C dX5_start_98 (by decide) ?_
          first
            | exact ih _ (by omega) (i + 1) _ w5 F5 G5 (by omega) (by omega) rfl (hM1.tr hM5) (by rw [stS_s h1i]; exact hR5) (hNi.tr hN5) (fun j h1 h2 => by
                rw [h75]
                by_cases hj : j = i
                · rw [hj, fU_s]
                · rw [fU_n hj]; exact h7a j h1 (by omega)) (fun j h1 h2 => by rw [h75, fU_n (by omega)]; exact h7b j (by omega) h2) (h145.trans h14) (h175.trans h17) (by rw [sI_s h1i, ha]; omega)
            | exact ih _ (by omega) (i + 1) _ w1 F1 G1 (by omega) (by omega) rfl hM1 (by rw [stS_s h1i]; unfold st1; rw [if_neg (by rw [hat.1]; omega), if_neg (by rw [hat.1]; omega)]; exact hRi) hNi (fun j h1 h2 => by
                by_cases hj : j = i
                · rw [hj]; omega
                · exact h7a j h1 (by omega)) (fun j h1 h2 => h7b j (by omega) h2) h14 h17 (by rw [sI_s h1i, ha]; omega)
      refine gd_if_ne (tgt := 48) C dX5_start_35 (by decide) ?_ (fun hc35 => ?_) (fun hc35 => ?_)
      · omega
      · refine gd_iconst C dX5_start_48 ?_
        refine gd_goto (tgt := 53) C dX5_start_49 (by decide) ?_
        exact hj35 _ (by omega)
      · refine gd_aload_n C dX5_start_38 rfl ?_
        refine gm_get C hM1 (by decide +kernel) 7 (by decide) (by decide +kernel) rfl dX5_start_39 rfl ?_
        refine gd_iload_n C dX5_start_42 rfl ?_
        refine gd_iald C dX5_start_43 hM1.a7 (by decide) ?_ ?_
        · omega
        refine gd_iconst C dX5_start_44 ?_
        refine gd_icmp_eq (tgt := 52) C dX5_start_45 (by decide) ?_ ?_ (fun hc45 => ?_) (fun hc45 => ?_)
        · omega
        · omega
        · refine gd_iconst C dX5_start_52 ?_
          exact hj35 _ (by omega)
        · refine gd_iconst C dX5_start_48 ?_
          refine gd_goto (tgt := 53) C dX5_start_49 (by decide) ?_
          exact hj35 _ (by omega)
  · refine gd_iconst C dX5_start_11 ?_
    refine gd_iret C hQ hret dX5_start_12 ?_ ?_
    · exact Or.inr ⟨by omega, rfl, _, _, hM2, hR2b, FN.rf F, rfl, rfl, by show 1 - G 15 = 1; omega⟩
    · decide
