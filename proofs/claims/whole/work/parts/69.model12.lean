set_option maxRecDepth 100000 in
set_option maxHeartbeats 4000000 in
theorem kX5_open {l : Launch} {D : va_G} {ky : Nat → ClassId} {z : Nat} {w : WT} (hl : l.stackTraces = false) {o : Nat} {A : Nat → Nat} {F : Nat → Int → Int} {G : Nat → Int} (hM : MW w ky o A F G) {n : Int} {lo co ct : Int → Int} {nm fl : Int → Int → Int} (hN : RNM F G n lo co ct nm) (hD : DR n lo co ct nm fl) (hn3 : n ≤ 300) (hlo0 : lo 0 = 0) (hco0 : co 0 = 0) {T : Int → Int} {v B : Int → Int → Int} {sc dn : Int} (hR : RF F G T v B sc dn) (hI : CI T v B sc dn) (hF9 : ∀ q, 0 ≤ q → q ≤ 999 → F 9 q = dF n lo co ct nm fl q + 1) {q : Int} (hq : InR q) : Mt l D ky z yX5_open wsX5_open { frames := 2, cells := 0, slots := 0, locals := 42 } [.ref o, .int (iI q)] w (fun r w' => ((0 ≤ q ∧ q ≤ 999) ∧ dn = 0 ∧ 0 ≤ (dF n lo co ct nm fl q) ∧ r = some (.int (iI (dF n lo co ct nm fl q))) ∧ PMN w w' ky o A (T) (fU v (dF n lo co ct nm fl q) (fU (v (dF n lo co ct nm fl q)) 3 (v (dF n lo co ct nm fl q) 3 + 1))) (B) (sc) (dn) (F 7) (F 9) (0) (n) (lo) (co) (ct) (nm)) ∨ ∃ t, (t = 1 ∧ ¬ (0 ≤ q ∧ q ≤ 999) ∨ t = 2 ∧ (0 ≤ q ∧ q ≤ 999) ∧ (dn ≠ 0 ∨ (dF n lo co ct nm fl q) = -1)) ∧ r = some (.int (iI 0)) ∧ PMN w w' ky o A (T) (v) (B) (sc) (dn) (F 7) (F 9) (t) (n) (lo) (co) (ct) (nm)) (fun _ => False) := by
  refine Mt.of (cc := cX5_open) (ret := (some .int)) (maxL := 3) (by decide) rfl (by intro v hv; simp at hv; rcases hv with rfl | rfl <;> rfl) (Nat.le_of_ble_eq_true rfl) ?_ hl
  intro p e s m args below meth c C htab hret hname Q hQ
  have hMv := hM.V
  obtain ⟨hN1, hN2⟩ := id hN
  obtain ⟨hD1, hD2, hD3, hD4, hD5, hD6⟩ := id hD
  obtain ⟨hR0, hR1, hR2, hR3, hR4⟩ := id hR
  obtain ⟨hi1, hi2, hi3, hi4⟩ := id hI
  refine gd_iload_n C dX5_open_0 rfl ?_
  refine gd_callS (n := 1) C (kX5_isName hl (q := q) ?_) gX5_open_X5_isName rfl ⟨by decide, by decide, by decide +kernel⟩ rfl rfl (Nat.le_of_ble_eq_true rfl) rfl dX5_open_1 ⟨⟨by decide, by decide⟩, by decide, by decide⟩ (fun _ h => h.elim) ?_
  · omega
  rintro _ _ ⟨b8, rfl, rfl, hb8⟩
  have hb8x : b8 = 0 ∨ b8 = 1 := by omega
  refine gd_istore_n C dX5_open_4 (Nat.le_of_ble_eq_true rfl) ?_
  refine gd_aload_n C dX5_open_5 rfl ?_
  refine gd_iload_n C dX5_open_6 rfl ?_
  refine gd_iload_n C dX5_open_7 rfl ?_
  have hj8 : ∀ y9 : Int, (y9 = 1 ∧ ((0 ≤ q ∧ q ≤ 999) ∧ dn = 0 ∧ 0 ≤ (dF n lo co ct nm fl q)) ∨ y9 = 0 ∧ ¬ ((0 ≤ q ∧ q ≤ 999) ∧ dn = 0 ∧ 0 ≤ (dF n lo co ct nm fl q))) → Gd p l e ({ frames := 2, cells := 0, slots := 0, locals := 42 }) s m args below meth c D z Q 0 0 w 32 [some (.ref o), some (.int (iI q)), some (.int (iI b8))] (.int (iI y9) :: [.int (iI b8), .ref o]) := by
    intro y9 hvy9
    refine gd_callV (n := 2) (ci := 5) (Cn := RX5) (T := TX5) (N := 18) C (kX5_asked_ hl hMv.1 (x := b8) (y := y9) ?_) ?_ rfl gX5_open_X5_asked_ rfl ⟨rfl, by decide, by decide, by decide +kernel⟩ rfl rfl (Nat.le_of_ble_eq_true rfl) rfl dX5_open_32 ⟨⟨by decide, by decide⟩, by decide, by decide⟩ (fun _ h => h.elim) ?_
    · omega
    · exact ⟨_, by exact hMv.ob⟩
    rintro _ w2 ⟨t7, b7, rfl, hM2, hAS⟩
    unfold AS2 at hAS
    have hR2b : RF F (nU G 17 t7) T v B sc dn := hR.g hR3 hR4
    have hN2b : RNM F (nU G 17 t7) n lo co ct nm := hN
    refine gd_if_ne (tgt := 40) C dX5_open_35 (by decide) ?_ (fun hc35 => ?_) (fun hc35 => ?_)
    · omega
    · obtain ⟨ht7, hNQ, hup, hdf⟩ : t7 = 0 ∧ (0 ≤ q ∧ q ≤ 999) ∧ (dn = 0) ∧ (0 ≤ (dF n lo co ct nm fl q)) := by
        rcases hAS with h9 | h9
        · refine ⟨by omega, by omega, by omega, by omega⟩
        · exfalso; omega
      subst ht7
      have hF2 := hF9 q hNQ.1 hNQ.2
      have hdb := dF_bd hD q
      have hop9 : F 3 (F 9 q - 1) = v (dF n lo co ct nm fl q) 3 := by rw [hF2, show dF n lo co ct nm fl q + 1 - 1 = dF n lo co ct nm fl q by omega]; exact (hR1 _ hdf (by omega)).2.1
      refine gd_aload_n C dX5_open_40 rfl ?_
      refine gm_get C hM2 (by decide +kernel) 3 (by decide) (by decide +kernel) rfl dX5_open_41 rfl ?_
      refine gd_aload_n C dX5_open_44 rfl ?_
      refine gm_get C hM2 (by decide +kernel) 9 (by decide) (by decide +kernel) rfl dX5_open_45 rfl ?_
      refine gd_iload_n C dX5_open_48 rfl ?_
      refine gd_iald C dX5_open_49 hM2.a9 (by decide) ?_ ?_
      · omega
      refine gd_iconst C dX5_open_50 ?_
      refine gd_isub C dX5_open_51 ?_
      refine gd_dup2 C dX5_open_52 rfl rfl ?_
      refine gd_iald C dX5_open_53 hM2.a3 (by decide) ?_ ?_
      · omega
      refine gd_iconst C dX5_open_54 ?_
      refine gd_iadd C dX5_open_55 ?_
      refine gm_iast C hM2 (k := 3) (n := 16) (by decide) (fun _ => rfl) dX5_open_56 (by decide) ?_ (fun wm1 hMm1 => ?_)
      · omega
      refine gd_aload_n C dX5_open_57 rfl ?_
      refine gm_get C hMm1 (by decide +kernel) 9 (by decide) (by decide +kernel) rfl dX5_open_58 rfl ?_
      refine gd_iload_n C dX5_open_61 rfl ?_
      refine gd_iald C dX5_open_62 hMm1.a9 (by decide) ?_ ?_
      · omega
      refine gd_iconst C dX5_open_63 ?_
      refine gd_isub C dX5_open_64 ?_
      refine gd_iret C hQ hret dX5_open_65 ?_ ?_
      · refine Or.inl ⟨hNQ, hup, hdf, ?_, ?_⟩
        · show some (Value.int (iI (F 9 q - 1))) = _
          rw [hF2, show dF n lo co ct nm fl q + 1 - 1 = dF n lo co ct nm fl q by omega]
        · refine ⟨_, _, hMm1, ?_, hN2b.fn ⟨rfl, rfl, rfl, rfl, rfl⟩ rfl, rfl, rfl, rfl⟩
          rw [hop9, hF2, show dF n lo co ct nm fl q + 1 - 1 = dF n lo co ct nm fl q by omega]
          exact hR2b.sv (k := 3) (j := (dF n lo co ct nm fl q)) (x := v (dF n lo co ct nm fl q) 3 + 1) (u := fU (v (dF n lo co ct nm fl q)) 3 (v (dF n lo co ct nm fl q) 3 + 1)) (by decide) ⟨rfl, rfl, rfl, rfl, rfl, rfl⟩
      · decide
    · refine gd_iconst C dX5_open_38 ?_
      refine gd_iret C hQ hret dX5_open_39 ?_ ?_
      · refine Or.inr ⟨t7, ?_, rfl, _, _, hM2, hR2b, hN2b, rfl, rfl, rfl⟩
        have hdb := dF_bd hD q
        omega
      · decide
  refine gd_if_eq (tgt := 31) C dX5_open_8 (by decide) ?_ (fun hc8 => ?_) (fun hc8 => ?_)
  · omega
  · refine gd_iconst C dX5_open_31 ?_
    exact hj8 _ (by omega)
  · refine gd_aload_n C dX5_open_11 rfl ?_
    refine gm_get C hMv (by decide +kernel) 15 (by decide) (by decide +kernel) rfl dX5_open_12 rfl ?_
    refine gd_if_ne (tgt := 31) C dX5_open_15 (by decide) ?_ (fun hc15 => ?_) (fun hc15 => ?_)
    · omega
    · refine gd_iconst C dX5_open_31 ?_
      exact hj8 _ (by omega)
    · have hF2 := hF9 q (by omega) (by omega)
      have hdb := dF_bd hD q
      refine gd_aload_n C dX5_open_18 rfl ?_
      refine gm_get C hMv (by decide +kernel) 9 (by decide) (by decide +kernel) rfl dX5_open_19 rfl ?_
      refine gd_iload_n C dX5_open_22 rfl ?_
      refine gd_iald C dX5_open_23 hMv.a9 (by decide) ?_ ?_
      · omega
      refine gd_if_le (tgt := 31) C dX5_open_24 (by decide) ?_ (fun hc24 => ?_) (fun hc24 => ?_)
      · omega
      · refine gd_iconst C dX5_open_31 ?_
        exact hj8 _ (by omega)
      · refine gd_iconst C dX5_open_27 ?_
        refine gd_goto (tgt := 32) C dX5_open_28 (by decide) ?_
        exact hj8 _ (by omega)

set_option maxRecDepth 100000 in
set_option maxHeartbeats 4000000 in
theorem kX5_delete {l : Launch} {D : va_G} {ky : Nat → ClassId} {z : Nat} {w : WT} (hl : l.stackTraces = false) {o : Nat} {A : Nat → Nat} {F : Nat → Int → Int} {G : Nat → Int} (hM : MW w ky o A F G) {n : Int} {lo co ct : Int → Int} {nm fl : Int → Int → Int} (hN : RNM F G n lo co ct nm) (hD : DR n lo co ct nm fl) (hn3 : n ≤ 300) (hlo0 : lo 0 = 0) (hco0 : co 0 = 0) {T : Int → Int} {v B : Int → Int → Int} {sc dn : Int} (hR : RF F G T v B sc dn) (hI : CI T v B sc dn) (hF9 : ∀ q, 0 ≤ q → q ≤ 999 → F 9 q = dF n lo co ct nm fl q + 1) {q : Int} (hq : InR q) (hsc : sc = -1 ∨ 1 ≤ sc ∧ sc ≤ 50) (hhas : 0 ≤ (dF n lo co ct nm fl q) → hA ct nm q (lLk n lo co ct nm q)) (hdi : DI (ct (lLk n lo co ct nm q)) (nm (lLk n lo co ct nm q))) : Mt l D ky z yX5_delete wsX5_delete { frames := 4, cells := 0, slots := 0, locals := 87 } [.ref o, .int (iI q)] w (fun r w' => ((0 ≤ q ∧ q ≤ 999) ∧ dn = 0 ∧ 0 ≤ (dF n lo co ct nm fl q) ∧ ((v (dF n lo co ct nm fl q) 3 ≠ 0 ∧ r = some (.int (iI (dF n lo co ct nm fl q))) ∧ PMN w w' ky o A (T) ((fU v (dF n lo co ct nm fl q) (fU (v (dF n lo co ct nm fl q)) 9 1))) (B) (sc) (dn) (F 7) (fU (F 9) q 0) (0) (n) (lo) (co) (fU ct (lLk n lo co ct nm q) (ct (lLk n lo co ct nm q) - 1)) (fU nm (lLk n lo co ct nm q) (rmF (nm (lLk n lo co ct nm q)) (fF (fun j => nm (lLk n lo co ct nm q) j = q) 0 (ct (lLk n lo co ct nm q))) (ct (lLk n lo co ct nm q))))) ∨ (v (dF n lo co ct nm fl q) 3 = 0 ∧ (ctS 0 (64 - (0 : Int)).toNat (tkF T (v (dF n lo co ct nm fl q) 6) (v (dF n lo co ct nm fl q) 7) 0) (drF (B (dF n lo co ct nm fl q)) 0 64) sc 0).1 = 1 ∧ r = some (.int (iI (-1))) ∧ PMN w w' ky o A (rlT (fU v (dF n lo co ct nm fl q) (fU (fU (v (dF n lo co ct nm fl q)) 9 1) 7 0)) (ctS 0 (64 - (0 : Int)).toNat (tkF T (v (dF n lo co ct nm fl q) 6) (v (dF n lo co ct nm fl q) 7) 0) (drF (B (dF n lo co ct nm fl q)) 0 64) sc 0).2.1 16) (crV (fU v (dF n lo co ct nm fl q) (fU (fU (v (dF n lo co ct nm fl q)) 9 1) 7 0)) 16) (flB (fU B (dF n lo co ct nm fl q) (ctS 0 (64 - (0 : Int)).toNat (tkF T (v (dF n lo co ct nm fl q) 6) (v (dF n lo co ct nm fl q) 7) 0) (drF (B (dF n lo co ct nm fl q)) 0 64) sc 0).2.2.1) 16) (-1) (1) (F 7) (fU (F 9) q 0) (0) (n) (lo) (co) (fU ct (lLk n lo co ct nm q) (ct (lLk n lo co ct nm q) - 1)) (fU nm (lLk n lo co ct nm q) (rmF (nm (lLk n lo co ct nm q)) (fF (fun j => nm (lLk n lo co ct nm q) j = q) 0 (ct (lLk n lo co ct nm q))) (ct (lLk n lo co ct nm q))))) ∨ (v (dF n lo co ct nm fl q) 3 = 0 ∧ (ctS 0 (64 - (0 : Int)).toNat (tkF T (v (dF n lo co ct nm fl q) 6) (v (dF n lo co ct nm fl q) 7) 0) (drF (B (dF n lo co ct nm fl q)) 0 64) sc 0).1 = 0 ∧ r = some (.int (iI (dF n lo co ct nm fl q))) ∧ PMN w w' ky o A ((ctS 0 (64 - (0 : Int)).toNat (tkF T (v (dF n lo co ct nm fl q) 6) (v (dF n lo co ct nm fl q) 7) 0) (drF (B (dF n lo co ct nm fl q)) 0 64) sc 0).2.1) ((fU v (dF n lo co ct nm fl q) (fU (fU (fU (fU (v (dF n lo co ct nm fl q)) 9 1) 7 0) 2 0) 9 0))) (fU B (dF n lo co ct nm fl q) (ctS 0 (64 - (0 : Int)).toNat (tkF T (v (dF n lo co ct nm fl q) 6) (v (dF n lo co ct nm fl q) 7) 0) (drF (B (dF n lo co ct nm fl q)) 0 64) sc 0).2.2.1) ((ctS 0 (64 - (0 : Int)).toNat (tkF T (v (dF n lo co ct nm fl q) 6) (v (dF n lo co ct nm fl q) 7) 0) (drF (B (dF n lo co ct nm fl q)) 0 64) sc 0).2.2.2.1) (dn) (fU (F 7) (dF n lo co ct nm fl q) (-1)) (fU (F 9) q 0) (0) (n) (lo) (co) (fU ct (lLk n lo co ct nm q) (ct (lLk n lo co ct nm q) - 1)) (fU nm (lLk n lo co ct nm q) (rmF (nm (lLk n lo co ct nm q)) (fF (fun j => nm (lLk n lo co ct nm q) j = q) 0 (ct (lLk n lo co ct nm q))) (ct (lLk n lo co ct nm q))))))) ∨ ∃ t, (t = 1 ∧ ¬ (0 ≤ q ∧ q ≤ 999) ∨ t = 2 ∧ (0 ≤ q ∧ q ≤ 999) ∧ (dn ≠ 0 ∨ (dF n lo co ct nm fl q) = -1)) ∧ r = some (.int (iI 0)) ∧ PMN w w' ky o A (T) (v) (B) (sc) (dn) (F 7) (F 9) (t) (n) (lo) (co) (ct) (nm)) (fun _ => False) := by
  refine Mt.of (cc := cX5_delete) (ret := (some .int)) (maxL := 4) (by decide) rfl (by intro v hv; simp at hv; rcases hv with rfl | rfl <;> rfl) (Nat.le_of_ble_eq_true rfl) ?_ hl
  intro p e s m args below meth c C htab hret hname Q hQ
  have hMv := hM.V
  obtain ⟨hN1, hN2⟩ := id hN
  obtain ⟨hD1, hD2, hD3, hD4, hD5, hD6⟩ := id hD
  obtain ⟨hR0, hR1, hR2, hR3, hR4⟩ := id hR
  obtain ⟨hi1, hi2, hi3, hi4⟩ := id hI
  refine gd_iload_n C dX5_delete_0 rfl ?_
  refine gd_callS (n := 1) C (kX5_isName hl (q := q) ?_) gX5_delete_X5_isName rfl ⟨by decide, by decide, by decide +kernel⟩ rfl rfl (Nat.le_of_ble_eq_true rfl) rfl dX5_delete_1 ⟨⟨by decide, by decide⟩, by decide, by decide⟩ (fun _ h => h.elim) ?_
  · omega
  rintro _ _ ⟨b8, rfl, rfl, hb8⟩
  have hb8x : b8 = 0 ∨ b8 = 1 := by omega
  refine gd_istore_n C dX5_delete_4 (Nat.le_of_ble_eq_true rfl) ?_
  refine gd_aload_n C dX5_delete_5 rfl ?_
  refine gd_iload_n C dX5_delete_6 rfl ?_
  refine gd_iload_n C dX5_delete_7 rfl ?_
  have hj8 : ∀ y9 : Int, (y9 = 1 ∧ ((0 ≤ q ∧ q ≤ 999) ∧ dn = 0 ∧ 0 ≤ (dF n lo co ct nm fl q)) ∨ y9 = 0 ∧ ¬ ((0 ≤ q ∧ q ≤ 999) ∧ dn = 0 ∧ 0 ≤ (dF n lo co ct nm fl q))) → Gd p l e ({ frames := 4, cells := 0, slots := 0, locals := 87 }) s m args below meth c D z Q 0 0 w 32 [some (.ref o), some (.int (iI q)), some (.int (iI b8)), none] (.int (iI y9) :: [.int (iI b8), .ref o]) := by
    intro y9 hvy9
    refine gd_callV (n := 2) (ci := 5) (Cn := RX5) (T := TX5) (N := 18) C (kX5_asked_ hl hMv.1 (x := b8) (y := y9) ?_) ?_ rfl gX5_delete_X5_asked_ rfl ⟨rfl, by decide, by decide, by decide +kernel⟩ rfl rfl (Nat.le_of_ble_eq_true rfl) rfl dX5_delete_32 ⟨⟨by decide, by decide⟩, by decide, by decide⟩ (fun _ h => h.elim) ?_
    · omega
    · exact ⟨_, by exact hMv.ob⟩
    rintro _ w2 ⟨t7, b7, rfl, hM2, hAS⟩
    unfold AS2 at hAS
    have hR2b : RF F (nU G 17 t7) T v B sc dn := hR.g hR3 hR4
    have hN2b : RNM F (nU G 17 t7) n lo co ct nm := hN
    refine gd_if_ne (tgt := 40) C dX5_delete_35 (by decide) ?_ (fun hc35 => ?_) (fun hc35 => ?_)
    · omega
    · obtain ⟨ht7, hNQ, hup, hdf⟩ : t7 = 0 ∧ (0 ≤ q ∧ q ≤ 999) ∧ (dn = 0) ∧ (0 ≤ (dF n lo co ct nm fl q)) := by
        rcases hAS with h9 | h9
        · refine ⟨by omega, by omega, by omega, by omega⟩
        · exfalso; omega
      subst ht7
      have hF2 := hF9 q hNQ.1 hNQ.2
      have hdb := dF_bd hD q
      have hhas9 := hhas hdf
      refine gd_aload_n C dX5_delete_40 rfl ?_
      refine gm_get C hM2 (by decide +kernel) 9 (by decide) (by decide +kernel) rfl dX5_delete_41 rfl ?_
      refine gd_iload_n C dX5_delete_44 rfl ?_
      refine gd_iald C dX5_delete_45 hM2.a9 (by decide) ?_ ?_
      · omega
      refine gd_iconst C dX5_delete_46 ?_
      refine gd_isub C dX5_delete_47 ?_
      have e9 : F 9 q - 1 = (dF n lo co ct nm fl q) := by omega
      rw [e9]
      generalize hxe : (dF n lo co ct nm fl q) = x at hdf hdb e9 ⊢
      refine gd_istore_n C dX5_delete_48 (Nat.le_of_ble_eq_true rfl) ?_
      refine gd_aload_n C dX5_delete_49 rfl ?_
      refine gd_iload_n C dX5_delete_50 rfl ?_
      refine gd_callV (n := 1) (ci := 5) (Cn := RX5) (T := TX5) (N := 18) C (kX5_takesOut hl hM2.1 hN2b hD hn3 hlo0 hco0 (q := q) hNQ hhas9 hdi) ?_ rfl gX5_delete_X5_takesOut rfl ⟨rfl, by decide, by decide, by decide +kernel⟩ rfl rfl (Nat.le_of_ble_eq_true rfl) rfl dX5_delete_51 ⟨⟨by decide, by decide⟩, by decide, by decide⟩ (fun _ h => h.elim) ?_
      · exact ⟨_, by exact hM2.ob⟩
      rintro _ w3 ⟨rfl, F3, G3, hM3, hF3, h93, ⟨hG15, hG16, hG17⟩, hN3⟩
      have hR3b := hR2b.fr hF3 hG15 hG16
      have h73 : F3 7 = F 7 := hF3 7 (by decide)
      replace hM3 := hM2.tr hM3
      have hx16 : 0 ≤ x ∧ x < 16 := by omega
      obtain ⟨d1, d2, d3, d4, d5, d6⟩ := hR3b.2.1 x hx16.1 hx16.2
      have hfi := hi2 x hx16.1 hx16.2
      obtain ⟨f0, f2, f3, f4, f5, f6, f8, f9, f10, fp⟩ := id hfi
      refine gd_aload_n C dX5_delete_54 rfl ?_
      refine gm_get C hM3 (by decide +kernel) 8 (by decide) (by decide +kernel) rfl dX5_delete_55 rfl ?_
      refine gd_iload_n C dX5_delete_58 rfl ?_
      refine gd_iconst C dX5_delete_59 ?_
      refine gm_zast C hM3 (k := 8) (n := 16) (by decide) (fun _ => rfl) dX5_delete_60 (by decide) ?_ ?_ (fun wm1 hMm1 => ?_)
      · omega
      · omega
      have hR4 : RF (nU F3 8 (fU (F3 8) x 1)) G3 T (fU v x (fU (v x) 9 1)) B sc dn := hR3b.sv (k := 8) (j := x) (x := 1) (u := fU (v x) 9 1) (by decide) ⟨rfl, rfl, rfl, rfl, rfl, rfl⟩
      have hN4 : RNM (nU F3 8 (fU (F3 8) x 1)) G3 n lo co (fU ct (lLk n lo co ct nm q) (ct (lLk n lo co ct nm q) - 1)) (fU nm (lLk n lo co ct nm q) (rmF (nm (lLk n lo co ct nm q)) (fF (fun j => nm (lLk n lo co ct nm q) j = q) 0 (ct (lLk n lo co ct nm q))) (ct (lLk n lo co ct nm q)))) := hN3.fn ⟨rfl, rfl, rfl, rfl, rfl⟩ rfl
      have hO : nU F3 8 (fU (F3 8) x 1) 3 x = v x 3 := d2
      have hK1 : K67 (fU v x (fU (v x) 9 1)) := hI.k67.set f6
      refine gd_aload_n C dX5_delete_61 rfl ?_
      refine gm_get C hMm1 (by decide +kernel) 3 (by decide) (by decide +kernel) rfl dX5_delete_62 rfl ?_
      refine gd_iload_n C dX5_delete_65 rfl ?_
      refine gd_iald C dX5_delete_66 hMm1.a3 (by decide) ?_ ?_
      · omega
      refine gd_if_ne (tgt := 82) C dX5_delete_67 (by decide) ?_ (fun hc67 => ?_) (fun hc67 => ?_)
      · omega
      · refine gd_iload_n C dX5_delete_82 rfl ?_
        refine gd_iret C hQ hret dX5_delete_83 ?_ ?_
        · rw [hxe]
          exact Or.inl ⟨hNQ, hup, hdf, Or.inl ⟨by omega, rfl, _, _, hMm1, hR4, hN4, h73, h93, hG17⟩⟩
        · decide
      · refine gd_aload_n C dX5_delete_70 rfl ?_
        refine gd_iload_n C dX5_delete_71 rfl ?_
        refine gd_callV (n := 1) (ci := 5) (Cn := RX5) (T := TX5) (N := 18) C (kX5_ends hl hMm1.1 hR4 (q := x) hx16 hK1 hI.bb hsc) ?_ rfl gX5_delete_X5_ends rfl ⟨rfl, by decide, by decide, by decide +kernel⟩ rfl rfl (Nat.le_of_ble_eq_true rfl) rfl dX5_delete_72 ⟨⟨by decide, by decide⟩, by decide, by decide⟩ (fun _ h => h.elim) ?_
        · exact ⟨_, by exact hMm1.ob⟩
        rintro _ w6 ⟨b9, rfl, hx⟩
        have hb91 : b9 = 0 ∨ b9 = 1 := by rcases hx with h9 | h9 <;> omega
        rw [fU_s, show fU (v x) 9 1 6 = v x 6 from rfl, show fU (v x) 9 1 7 = v x 7 from rfl, fU_ss, fU_ss] at hx
        have hMa := hMm1
        refine gd_if_ne (tgt := 82) C dX5_delete_75 (by decide) ?_ (fun hc75 => ?_) (fun hc75 => ?_)
        · omega
        · refine gd_iload_n C dX5_delete_82 rfl ?_
          refine gd_iret C hQ hret dX5_delete_83 ?_ ?_
          · rw [hxe]
            refine Or.inl ⟨hNQ, hup, hdf, Or.inr (Or.inr ?_)⟩
            rcases hx with ⟨h1, -⟩ | ⟨h1, h2, h3⟩
            · exfalso; omega
            · refine ⟨by omega, h2, rfl, ?_⟩
              have h9 := (h3.pre hMa (F := nU F3 8 (fU (F3 8) x 1)) (FN.rf _) rfl).n hN4
              rw [show (nU F3 8 (fU (F3 8) x 1)) 7 = F 7 from h73, show (nU F3 8 (fU (F3 8) x 1)) 9 = fU (F 9) q 0 from h93, show G3 17 = 0 from hG17] at h9
              exact h9
          · decide
        · refine gd_iconst C dX5_delete_78 ?_
          refine gd_goto (tgt := 83) C dX5_delete_79 (by decide) ?_
          refine gd_iret C hQ hret dX5_delete_83 ?_ ?_
          · rw [hxe]
            refine Or.inl ⟨hNQ, hup, hdf, Or.inr (Or.inl ?_)⟩
            rcases hx with ⟨h1, h2, h3⟩ | ⟨h1, -⟩
            · refine ⟨by omega, h2, rfl, ?_⟩
              have h9 := (h3.pre hMa (F := nU F3 8 (fU (F3 8) x 1)) (FN.rf _) rfl).n hN4
              rw [show (nU F3 8 (fU (F3 8) x 1)) 7 = F 7 from h73, show (nU F3 8 (fU (F3 8) x 1)) 9 = fU (F 9) q 0 from h93, show G3 17 = 0 from hG17] at h9
              exact h9
            · exfalso; omega
          · decide
    · refine gd_iconst C dX5_delete_38 ?_
      refine gd_iret C hQ hret dX5_delete_39 ?_ ?_
      · refine Or.inr ⟨t7, ?_, rfl, _, _, hM2, hR2b, hN2b, rfl, rfl, rfl⟩
        have hdb := dF_bd hD q
        omega
      · decide
  refine gd_if_eq (tgt := 31) C dX5_delete_8 (by decide) ?_ (fun hc8 => ?_) (fun hc8 => ?_)
  · omega
  · refine gd_iconst C dX5_delete_31 ?_
    exact hj8 _ (by omega)
  · refine gd_aload_n C dX5_delete_11 rfl ?_
    refine gm_get C hMv (by decide +kernel) 15 (by decide) (by decide +kernel) rfl dX5_delete_12 rfl ?_
    refine gd_if_ne (tgt := 31) C dX5_delete_15 (by decide) ?_ (fun hc15 => ?_) (fun hc15 => ?_)
    · omega
    · refine gd_iconst C dX5_delete_31 ?_
      exact hj8 _ (by omega)
    · have hF2 := hF9 q (by omega) (by omega)
      have hdb := dF_bd hD q
      refine gd_aload_n C dX5_delete_18 rfl ?_
      refine gm_get C hMv (by decide +kernel) 9 (by decide) (by decide +kernel) rfl dX5_delete_19 rfl ?_
      refine gd_iload_n C dX5_delete_22 rfl ?_
      refine gd_iald C dX5_delete_23 hMv.a9 (by decide) ?_ ?_
      · omega
      refine gd_if_le (tgt := 31) C dX5_delete_24 (by decide) ?_ (fun hc24 => ?_) (fun hc24 => ?_)
      · omega
      · refine gd_iconst C dX5_delete_31 ?_
        exact hj8 _ (by omega)
      · refine gd_iconst C dX5_delete_27 ?_
        refine gd_goto (tgt := 32) C dX5_delete_28 (by decide) ?_
        exact hj8 _ (by omega)

set_option maxRecDepth 100000 in
set_option maxHeartbeats 4000000 in
theorem kX5_create {l : Launch} {D : va_G} {ky : Nat → ClassId} {z : Nat} {w : WT} (hl : l.stackTraces = false) {o : Nat} {A : Nat → Nat} {F : Nat → Int → Int} {G : Nat → Int} (hM : MW w ky o A F G) {n : Int} {lo co ct : Int → Int} {nm fl : Int → Int → Int} (hN : RNM F G n lo co ct nm) (hD : DR n lo co ct nm fl) (hn3 : n ≤ 300) (hlo0 : lo 0 = 0) (hco0 : co 0 = 0) {T : Int → Int} {v B : Int → Int → Int} {sc dn : Int} (hR : RF F G T v B sc dn) (hI : CI T v B sc dn) (hF9 : ∀ q, 0 ≤ q → q ≤ 999 → F 9 q = dF n lo co ct nm fl q + 1) {q : Int} (hq : InR q) {n' : Int} {lo' co' ct' : Int → Int} {nm' fl' : Int → Int → Int} (hn4 : n < 300) (hsrt : ∀ i k, 0 ≤ k → k + 1 < ct i → rk (nm i k) < rk (nm i (k + 1))) (hno : (dF n lo co ct nm fl q) = -1 → ∀ i, 0 ≤ i → i < n → ¬ hA ct nm q i) (hADD : (0 ≤ q ∧ q ≤ 999) → dn = 0 → 0 ≤ (fF (fun j => v j 2 = 0) 0 16) → (dF n lo co ct nm fl q) = -1 → ADD q (fF (fun j => v j 2 = 0) 0 16) n lo co ct nm fl n' lo' co' ct' nm' fl') : Mt l D ky z yX5_create wsX5_create { frames := 4, cells := 0, slots := 0, locals := 88 } [.ref o, .int (iI q)] w (fun r w' => ((0 ≤ q ∧ q ≤ 999) ∧ dn = 0 ∧ 0 ≤ (fF (fun j => v j 2 = 0) 0 16) ∧ (dF n lo co ct nm fl q) = -1 ∧ r = some (.int (iI (fF (fun j => v j 2 = 0) 0 16))) ∧ PMN w w' ky o A (T) (fU v (fF (fun j => v j 2 = 0) 0 16) (fU (v (fF (fun j => v j 2 = 0) 0 16)) 2 1)) (B) (sc) (dn) (F 7) (fU (F 9) q ((fF (fun j => v j 2 = 0) 0 16) + 1)) (0) (n') (lo') (co') (ct') (nm')) ∨ ∃ t, (t = 1 ∧ ¬ (0 ≤ q ∧ q ≤ 999) ∨ t = 2 ∧ (0 ≤ q ∧ q ≤ 999) ∧ (dn ≠ 0 ∨ (fF (fun j => v j 2 = 0) 0 16) = -1 ∨ (dF n lo co ct nm fl q) ≠ -1)) ∧ r = some (.int (iI 0)) ∧ PMN w w' ky o A (T) (v) (B) (sc) (dn) (F 7) (F 9) (t) (n) (lo) (co) (ct) (nm)) (fun _ => False) := by
  refine Mt.of (cc := cX5_create) (ret := (some .int)) (maxL := 4) (by decide) rfl (by intro v hv; simp at hv; rcases hv with rfl | rfl <;> rfl) (Nat.le_of_ble_eq_true rfl) ?_ hl
  intro p e s m args below meth c C htab hret hname Q hQ
  have hMv := hM.V
  obtain ⟨hN1, hN2⟩ := id hN
  obtain ⟨hD1, hD2, hD3, hD4, hD5, hD6⟩ := id hD
  obtain ⟨hR0, hR1, hR2, hR3, hR4⟩ := id hR
  obtain ⟨hi1, hi2, hi3, hi4⟩ := id hI
  refine gd_iload_n C dX5_create_0 rfl ?_
  refine gd_callS (n := 1) C (kX5_isName hl (q := q) ?_) gX5_create_X5_isName rfl ⟨by decide, by decide, by decide +kernel⟩ rfl rfl (Nat.le_of_ble_eq_true rfl) rfl dX5_create_1 ⟨⟨by decide, by decide⟩, by decide, by decide⟩ (fun _ h => h.elim) ?_
  · omega
  rintro _ _ ⟨b8, rfl, rfl, hb8⟩
  have hb8x : b8 = 0 ∨ b8 = 1 := by omega
  refine gd_istore_n C dX5_create_4 (Nat.le_of_ble_eq_true rfl) ?_
  have hcut28 : ∀ i : Int, (i = (fF (fun j => v j 2 = 0) 0 16) ∧ 0 ≤ (fF (fun j => v j 2 = 0) 0 16) ∧ (fF (fun j => v j 2 = 0) 0 16) < 16 ∨ i = 16 ∧ (fF (fun j => v j 2 = 0) 0 16) = -1) → Gd p l e ({ frames := 4, cells := 0, slots := 0, locals := 88 }) s m args below meth c D z Q 0 0 w 28 [some (.ref o), some (.int (iI q)), some (.int (iI b8)), some (.int (iI i))] [] := by
    intro i hi9
    refine gd_aload_n C dX5_create_28 rfl ?_
    refine gd_iload_n C dX5_create_29 rfl ?_
    refine gd_iload_n C dX5_create_30 rfl ?_
    have hj31 : ∀ y9 : Int, (y9 = 1 ∧ ((0 ≤ q ∧ q ≤ 999) ∧ dn = 0 ∧ (dF n lo co ct nm fl q) = -1 ∧ i < 16) ∨ y9 = 0 ∧ ¬ ((0 ≤ q ∧ q ≤ 999) ∧ dn = 0 ∧ (dF n lo co ct nm fl q) = -1 ∧ i < 16)) → Gd p l e ({ frames := 4, cells := 0, slots := 0, locals := 88 }) s m args below meth c D z Q 0 0 w 61 [some (.ref o), some (.int (iI q)), some (.int (iI b8)), some (.int (iI i))] (.int (iI y9) :: [.int (iI b8), .ref o]) := by
      intro y9 hvy9
      refine gd_callV (n := 2) (ci := 5) (Cn := RX5) (T := TX5) (N := 18) C (kX5_asked_ hl hMv.1 (x := b8) (y := y9) ?_) ?_ rfl gX5_create_X5_asked_ rfl ⟨rfl, by decide, by decide, by decide +kernel⟩ rfl rfl (Nat.le_of_ble_eq_true rfl) rfl dX5_create_61 ⟨⟨by decide, by decide⟩, by decide, by decide⟩ (fun _ h => h.elim) ?_
      · omega
      · exact ⟨_, by exact hMv.ob⟩
      rintro _ w2 ⟨t7, b7, rfl, hM2, hAS⟩
      unfold AS2 at hAS
      have hR2b : RF F (nU G 17 t7) T v B sc dn := hR.g hR3 hR4
      have hN2b : RNM F (nU G 17 t7) n lo co ct nm := hN
      refine gd_if_ne (tgt := 69) C dX5_create_64 (by decide) ?_ (fun hc64 => ?_) (fun hc64 => ?_)
      · omega
      · obtain ⟨ht7, hNQ, hup, hdf, hi16⟩ : t7 = 0 ∧ (0 ≤ q ∧ q ≤ 999) ∧ (dn = 0) ∧ ((dF n lo co ct nm fl q) = -1) ∧ (i < 16) := by
          rcases hAS with h9 | h9
          · refine ⟨by omega, by omega, by omega, by omega, by omega⟩
          · exfalso; omega
        subst ht7
        have hiL : i = (fF (fun j => v j 2 = 0) 0 16) ∧ 0 ≤ i := by omega
        have hAD := hADD hNQ hup (by omega) hdf
        refine gd_aload_n C dX5_create_69 rfl ?_
        refine gm_get C hM2 (by decide +kernel) 1 (by decide) (by decide +kernel) rfl dX5_create_70 rfl ?_
        refine gd_iload_n C dX5_create_73 rfl ?_
        refine gd_iconst C dX5_create_74 ?_
        refine gm_zast C hM2 (k := 1) (n := 16) (by decide) (fun _ => rfl) dX5_create_75 (by decide) ?_ ?_ (fun wm1 hMm1 => ?_)
        · omega
        · omega
        refine gd_aload_n C dX5_create_76 rfl ?_
        refine gm_get C hMm1 (by decide +kernel) 9 (by decide) (by decide +kernel) rfl dX5_create_77 rfl ?_
        refine gd_iload_n C dX5_create_80 rfl ?_
        refine gd_iload_n C dX5_create_81 rfl ?_
        refine gd_iconst C dX5_create_82 ?_
        refine gd_iadd C dX5_create_83 ?_
        refine gm_iast C hMm1 (k := 9) (n := 1000) (by decide) (fun _ => rfl) dX5_create_84 (by decide) ?_ (fun wm2 hMm2 => ?_)
        · omega
        have hR4 : RF (nU (nU F 1 (fU (F 1) i 1)) 9 (fU (F 9) q (i + 1))) (nU G 17 0) T (fU v i (fU (v i) 2 1)) B sc dn := (hR2b.sv (k := 1) (j := i) (x := 1) (u := fU (v i) 2 1) (by decide) ⟨rfl, rfl, rfl, rfl, rfl, rfl⟩).n (Or.inr (by decide)) _
        have hN4 : RNM (nU (nU F 1 (fU (F 1) i 1)) 9 (fU (F 9) q (i + 1))) (nU G 17 0) n lo co ct nm := hN
        refine gd_aload_n C dX5_create_85 rfl ?_
        refine gd_iload_n C dX5_create_86 rfl ?_
        refine gd_callV (n := 1) (ci := 5) (Cn := RX5) (T := TX5) (N := 18) C (kX5_addsName hl hMm2.1 hN4 hD hn3 hlo0 hco0 (q := q) hNQ hn4 hsrt (hno hdf) hAD) ?_ rfl gX5_create_X5_addsName rfl ⟨rfl, by decide, by decide, by decide +kernel⟩ rfl rfl (Nat.le_of_ble_eq_true rfl) rfl dX5_create_87 ⟨⟨by decide, by decide⟩, by decide, by decide⟩ (fun _ h => h.elim) ?_
        · exact ⟨_, by exact hMm2.ob⟩
        rintro _ w5 ⟨rfl, F5, G5, hM5, hF5, h95, ⟨hG15, hG16, hG17⟩, hN5⟩
        replace hM5 := hMm2.tr hM5
        refine gd_iload_n C dX5_create_90 rfl ?_
        refine gd_iret C hQ hret dX5_create_91 ?_ ?_
        · refine Or.inl ⟨hNQ, hup, by omega, hdf, by rw [hiL.1], _, _, hM5, ?_, hN5, hF5 7 (by decide), by rw [h95, ← hiL.1]; rfl, hG17⟩
          rw [← hiL.1]
          exact hR4.fr hF5 hG15 hG16
        · decide
      · refine gd_iconst C dX5_create_67 ?_
        refine gd_iret C hQ hret dX5_create_68 ?_ ?_
        · refine Or.inr ⟨t7, ?_, rfl, _, _, hM2, hR2b, hN2b, rfl, rfl, rfl⟩
          omega
        · decide
    refine gd_if_eq (tgt := 60) C dX5_create_31 (by decide) ?_ (fun hc31 => ?_) (fun hc31 => ?_)
    · omega
    · refine gd_iconst C dX5_create_60 ?_
      exact hj31 _ (by omega)
    · refine gd_aload_n C dX5_create_34 rfl ?_
      refine gm_get C hMv (by decide +kernel) 15 (by decide) (by decide +kernel) rfl dX5_create_35 rfl ?_
      refine gd_if_ne (tgt := 60) C dX5_create_38 (by decide) ?_ (fun hc38 => ?_) (fun hc38 => ?_)
      · omega
      · refine gd_iconst C dX5_create_60 ?_
        exact hj31 _ (by omega)
      · have hF2 := hF9 q (by omega) (by omega)
        have hdb := dF_bd hD q
        refine gd_aload_n C dX5_create_41 rfl ?_
        refine gm_get C hMv (by decide +kernel) 9 (by decide) (by decide +kernel) rfl dX5_create_42 rfl ?_
        refine gd_iload_n C dX5_create_45 rfl ?_
        refine gd_iald C dX5_create_46 hMv.a9 (by decide) ?_ ?_
        · omega
        refine gd_if_ne (tgt := 60) C dX5_create_47 (by decide) ?_ (fun hc47 => ?_) (fun hc47 => ?_)
        · omega
        · refine gd_iconst C dX5_create_60 ?_
          exact hj31 _ (by omega)
        · refine gd_iload_n C dX5_create_50 rfl ?_
          refine gd_bipush C dX5_create_51 (by decide) ?_
          refine gd_icmp_ge (tgt := 60) C dX5_create_53 (by decide) ?_ ?_ (fun hc53 => ?_) (fun hc53 => ?_)
          · omega
          · omega
          · refine gd_iconst C dX5_create_60 ?_
            exact hj31 _ (by omega)
          · refine gd_iconst C dX5_create_56 ?_
            refine gd_goto (tgt := 61) C dX5_create_57 (by decide) ?_
            exact hj31 _ (by omega)
  refine gd_iconst C dX5_create_5 ?_
  refine gd_istore_n C dX5_create_6 (Nat.le_of_ble_eq_true rfl) ?_
  suffices hloop : ∀ (n9 : Nat) (i : Int), 0 ≤ i → i ≤ 16 → (16 - i).toNat = n9 → (fF (fun j => v j 2 = 0) 0 16) = fF (fun j => v j 2 = 0) i 16 → Gd p l e ({ frames := 4, cells := 0, slots := 0, locals := 88 }) s m args below meth c D z Q 0 0 w 7 [some (.ref o), some (.int (iI q)), some (.int (iI b8)), some (.int (iI i))] [] from
    hloop _ 0 (by omega) (by omega) rfl rfl
  intro n9
  induction n9 using Nat.strongRecOn with
  | _ n9 ih =>
  intro i h1i h2i hn hf1
  have hF1 : i < 16 → F 1 i = v i 2 := fun h => (hR1 i h1i h).1
  have hf2 : i < 16 → v i 2 = 0 ∨ v i 2 = 1 := fun h => (hi2 i h1i h).2.1
  refine gd_iload_n C dX5_create_7 rfl ?_
  refine gd_bipush C dX5_create_8 (by decide) ?_
  refine gd_icmp_ge (tgt := 28) C dX5_create_10 (by decide) ?_ ?_ (fun hc10 => ?_) (fun hc10 => ?_)
  · omega
  · omega
  · first
      | exact hcut28 i (Or.inr ⟨by omega, by rw [hf1]; exact fF_end (by omega)⟩)
      | (have hh : fF (fun j => v j 2 = 0) 0 16 = i := by rw [hf1]; exact fF_hit (by omega) (by omega)
         exact hcut28 i (Or.inl ⟨by omega, by omega, by omega⟩))
  · refine gd_aload_n C dX5_create_13 rfl ?_
    replace hF1 := hF1 (by omega)
    replace hf2 := hf2 (by omega)
    refine gm_get C hMv (by decide +kernel) 1 (by decide) (by decide +kernel) rfl dX5_create_14 rfl ?_
    refine gd_iload_n C dX5_create_17 rfl ?_
    refine gd_zald C dX5_create_18 hMv.a1 (by decide) ?_ ?_
    · omega
    refine gd_if_eq (tgt := 28) C dX5_create_19 (by decide) ?_ (fun hc19 => ?_) (fun hc19 => ?_)
    · omega
    · first
        | exact hcut28 i (Or.inr ⟨by omega, by rw [hf1]; exact fF_end (by omega)⟩)
        | (have hh : fF (fun j => v j 2 = 0) 0 16 = i := by rw [hf1]; exact fF_hit (by omega) (by omega)
           exact hcut28 i (Or.inl ⟨by omega, by omega, by omega⟩))
    · refine gd_iinc C dX5_create_22 rfl ?_
      refine gd_goto (tgt := 7) C dX5_create_25 (by decide) ?_
      exact ih _ (by omega) (i + 1) (by omega) (by omega) rfl (by rw [hf1]; exact fF_miss (by omega) (by omega))
