set_option maxRecDepth 100000 in
set_option maxHeartbeats 4000000 in
theorem kX4_mapRow {l : Launch} {D : va_G} {ky : Nat → ClassId} {z : Nat} {w : WT} (hl : l.stackTraces = false) {b g t ar d : Nat} {ac ab : Int → Nat} {T : Int → Int} {v B : Int → Int → Int} {sc dn : Int} (hW : CW w ky b g t ar d ac ab T v B sc dn) (hI : CI T v B sc dn) {j x q : Int} (hj : 0 ≤ j ∧ j < 16) (hx : 0 ≤ x ∧ x ≤ q ∧ q ≤ 64) (hrs : ∀ p, x ≤ p → p < q → B j p = -2) (hL0 : 0 ≤ lF T v) : Mt l D ky z yX4_mapRow wsX4_mapRow { frames := 5, cells := 0, slots := 0, locals := 122 } [.ref b, .ref (ac j), .int (iI x), .int (iI q)] w (fun r w' => r = some (.int (iI (q - x))) ∧ CW w' ky b g t ar d ac ab ((mrS j q (q - x).toNat x T v B).1) ((mrS j q (q - x).toNat x T v B).2.1) ((mrS j q (q - x).toNat x T v B).2.2) (sc) (dn) ∧ CI ((mrS j q (q - x).toNat x T v B).1) ((mrS j q (q - x).toNat x T v B).2.1) ((mrS j q (q - x).toNat x T v B).2.2) (sc) (dn) ∧ FrC w w' b g t ac ab) (fun _ => False) := by
  refine Mt.of (cc := cX4_mapRow) (ret := (some .int)) (maxL := 6) (by decide) rfl (by intro v hv; simp at hv; rcases hv with rfl | rfl | rfl | rfl <;> rfl) (Nat.le_of_ble_eq_true rfl) ?_ hl
  intro p e s m args below meth c C htab hret hname Q hQ
  obtain ⟨hb, hg, ht, har, hfl, hdj⟩ := id hW
  obtain ⟨hi1, hi2, hi3, hi4⟩ := id hI
  refine gd_iload_n C dX4_mapRow_0 rfl ?_
  refine gd_istore C dX4_mapRow_1 (Nat.le_of_ble_eq_true rfl) ?_
  refine gd_iconst C dX4_mapRow_3 ?_
  refine gd_istore C dX4_mapRow_4 (Nat.le_of_ble_eq_true rfl) ?_
  suffices hloop : ∀ (n9 : Nat) (i y : Int) (w1 : WT) (T1 : Int → Int) (v1 B1 : Int → Int → Int), 0 ≤ i → i ≤ y - x → x ≤ y → y ≤ q → (64 - i).toNat = n9 → CW w1 ky b g t ar d ac ab T1 v1 B1 sc dn → CI T1 v1 B1 sc dn → FrC w w1 b g t ac ab → 0 ≤ lF T1 v1 → (∀ p9, y ≤ p9 → p9 < q → B1 j p9 = -2) → (mrS j q (q - x).toNat x T v B) = mrS j q (q - y).toNat y T1 v1 B1 → Gd p l e ({ frames := 5, cells := 0, slots := 0, locals := 122 }) s m args below meth c D z Q 0 0 w1 6 [some (.ref b), some (.ref (ac j)), some (.int (iI x)), some (.int (iI q)), some (.int (iI y)), some (.int (iI i))] [] from
    hloop _ 0 x w T v B (by omega) (by omega) (by omega) hx.2.1 rfl hW hI (FrC.rf _ _ _ _ _ _) hL0 hrs rfl
  intro n9
  induction n9 using Nat.strongRecOn with
  | _ n9 ih =>
  intro i y w1 T1 v1 B1 h1i h2i h1y h2y hn hW1 hI1 hF1 hL1 hr1 hm1
  have hfj1 := hW1.2.2.2.2.1 j hj.1 hj.2
  have hfi1 := hI1.2.1 j hj.1 hj.2
  obtain ⟨f0, f2, f3, f4, f5, f6, f8, f9, f10, fp⟩ := id hfi1
  refine gd_iload C dX4_mapRow_6 rfl ?_
  refine gd_bipush C dX4_mapRow_8 (by decide) ?_
  refine gd_icmp_ge (tgt := 68) C dX4_mapRow_10 (by decide) ?_ ?_ (fun hc10 => ?_) (fun hc10 => ?_)
  · omega
  · omega
  · refine gd_iload C dX4_mapRow_68 rfl ?_
    refine gd_iload_n C dX4_mapRow_70 rfl ?_
    refine gd_isub C dX4_mapRow_71 ?_
    refine gd_iret C hQ hret dX4_mapRow_72 ?_ ?_
    · have e1 : y = q := by omega
      subst e1
      rw [mrS_f (Int.le_refl _)] at hm1
      rw [hm1]
      exact ⟨rfl, hW1, hI1, hF1⟩
    · decide
  · refine gd_iload C dX4_mapRow_13 rfl ?_
    refine gd_iload_n C dX4_mapRow_15 rfl ?_
    refine gd_icmp_ge (tgt := 68) C dX4_mapRow_16 (by decide) ?_ ?_ (fun hc16 => ?_) (fun hc16 => ?_)
    · omega
    · omega
    · refine gd_iload C dX4_mapRow_68 rfl ?_
      refine gd_iload_n C dX4_mapRow_70 rfl ?_
      refine gd_isub C dX4_mapRow_71 ?_
      refine gd_iret C hQ hret dX4_mapRow_72 ?_ ?_
      · have e1 : y = q := by omega
        subst e1
        rw [mrS_f (Int.le_refl _)] at hm1
        rw [hm1]
        exact ⟨rfl, hW1, hI1, hF1⟩
      · decide
    · refine gd_aload_n C dX4_mapRow_19 rfl ?_
      refine gd_iload C dX4_mapRow_20 rfl ?_
      refine gd_callVN (n := 1) (ci := 0) (Cn := RX0) (T := TX0) (N := 11) (host := RX4) C (kX0_isKeptFor hl hfj1.1 (q := y) ?_ ?_) ?_ rfl gX4_mapRow_X0_isKeptFor_n222 rfl (by decide +kernel) (by decide +kernel) (by decide +kernel) (by decide +kernel) ⟨by decide, by decide, by decide +kernel⟩ rfl rfl (Nat.le_of_ble_eq_true rfl) rfl dX4_mapRow_22 ⟨⟨by decide, by decide⟩, by decide, by decide⟩ (fun _ h => h.elim) ?_
      · omega
      · omega
      · exact ⟨_, by exact hfj1.1⟩
      rintro _ _ ⟨b9, rfl, rfl, hb9⟩
      refine gd_if_eq (tgt := 46) C dX4_mapRow_25 (by decide) ?_ (fun hc25 => ?_) (fun hc25 => ?_)
      · omega
      · refine gd_iload C dX4_mapRow_46 rfl ?_
        refine gd_aload_n C dX4_mapRow_48 rfl ?_
        refine gd_aload_n C dX4_mapRow_49 rfl ?_
        refine gd_iload C dX4_mapRow_50 rfl ?_
        refine gd_iload_n C dX4_mapRow_52 rfl ?_
        refine gd_iload C dX4_mapRow_53 rfl ?_
        refine gd_isub C dX4_mapRow_55 ?_
        refine gd_callV (n := 3) (ci := 4) (Cn := RX4) (T := TX4) (N := 5) C (kX4_mapFound hl hW1 hI1 (j := j) (x := y) (k := q - y) hj ?_ ?_ hL1) ?_ rfl gX4_mapRow_X4_mapFound rfl ⟨rfl, by decide, by decide, by decide +kernel⟩ rfl rfl (Nat.le_of_ble_eq_true rfl) rfl dX4_mapRow_56 ⟨⟨by decide, by decide⟩, by decide, by decide⟩ (fun _ h => h.elim) ?_
        · omega
        · exact fun p9 p1 p2 => hr1 p9 p1 (by omega)
        · exact ⟨_, by exact hW1.1⟩
        rintro r2 w2 hmf
        have hH1 : (hvF T1 (gF j (B1 j) y) 4 (lnF (q - y) (128 - sI T1 0 128 - sI (fun j => v1 j 4) 0 16))) = chH j T1 v1 B1 y (q - y) := rfl
        rw [hH1] at hmf
        obtain ⟨y2, rfl, T2, v2, B2, hch, hW2, hF2⟩ : ∃ y2 : Int, r2 = some (.int (iI y2)) ∧ ∃ T2 v2 B2, chk j T1 v1 B1 y (q - y) = (y2, T2, v2, B2) ∧ CW w2 ky b g t ar d ac ab T2 v2 B2 sc dn ∧ FrC w1 w2 b g t ac ab := by
          rcases hmf with ⟨h1, -, -⟩ | ⟨-, y2, hy2, hr2, hc⟩
          · exfalso
            obtain ⟨-, -, c3, -⟩ := chH_ok (p := y) (R := q - y) hI1 hj (by omega) (fun p9 p1 p2 => hr1 p9 p1 (by omega)) hL1
            omega
          · refine ⟨y2, hr2, ?_⟩
            rcases hc with ⟨h3, hw, -, hf⟩ | ⟨h3, hw, -, hf⟩
            · exact ⟨_, _, _, chk_s (by omega) (by omega) (by omega), hw, hf⟩
            · exact ⟨_, _, _, chk_l (by omega) (by omega) (by omega), hw, hf⟩
        clear hmf
        refine gd_iadd C dX4_mapRow_59 ?_
        refine gd_istore C dX4_mapRow_60 (Nat.le_of_ble_eq_true rfl) ?_
        refine gd_iinc C dX4_mapRow_62 rfl ?_
        refine gd_goto (tgt := 6) C dX4_mapRow_65 (by decide) ?_
        have hcok := chk_ok (p := y) (R := q - y) hI1 hj (by omega) (fun p9 p1 p2 => hr1 p9 p1 (by omega)) hL1
        have hadv := mrS_adv (p := y) (e := q) hj (by omega) hI1 hL1 hr1
        rw [hch] at hcok hadv
        obtain ⟨k1, k2, k3, k4, k5, k6⟩ := hcok
        dsimp only at k1 k2 k3 k4 k5 k6 hadv
        exact ih _ (by omega) (i + 1) (y + y2) w2 T2 v2 B2 (by omega) (by omega) (by omega) (by omega) rfl hW2 k3 (hF1.tr hF2) k4 (fun p9 p1 p2 => by rw [k5 p9 p1]; exact hr1 p9 (by omega) p2) (hm1.trans hadv)
      · refine gd_iload C dX4_mapRow_28 rfl ?_
        refine gd_aload_n C dX4_mapRow_30 rfl ?_
        refine gd_iload C dX4_mapRow_31 rfl ?_
        refine gd_iload_n C dX4_mapRow_33 rfl ?_
        refine gd_iload C dX4_mapRow_34 rfl ?_
        refine gd_isub C dX4_mapRow_36 ?_
        refine gd_callVN (n := 2) (ci := 0) (Cn := RX0) (T := TX0) (N := 11) (host := RX4) C (kX0_mapKept hl hfj1.1 hfj1.2 (a := y) (k := q - y) ?_ ?_) ?_ rfl gX4_mapRow_X0_mapKept_n225 rfl (by decide +kernel) (by decide +kernel) (by decide +kernel) (by decide +kernel) ⟨by decide, by decide, by decide +kernel⟩ rfl rfl (Nat.le_of_ble_eq_true rfl) rfl dX4_mapRow_37 ⟨⟨by decide, by decide⟩, by decide, by decide⟩ (fun _ h => h.elim) ?_
        · omega
        · omega
        · exact ⟨_, by exact hfj1.1⟩
        rintro _ w2 ⟨y2, rfl, hy2, c1, c2, c3⟩
        obtain ⟨hW2, hF2⟩ := hW1.setF (j := j) hj c1 c2 c3
        obtain ⟨T2, v2, B2, hch, hW2, hF2⟩ : ∃ T2 v2 B2, chk j T1 v1 B1 y (q - y) = (y2, T2, v2, B2) ∧ CW w2 ky b g t ar d ac ab T2 v2 B2 sc dn ∧ FrC w1 w2 b g t ac ab := ⟨_, _, _, chk_k (by omega) hy2, hW2, hF2⟩
        refine gd_iadd C dX4_mapRow_40 ?_
        refine gd_istore C dX4_mapRow_41 (Nat.le_of_ble_eq_true rfl) ?_
        refine gd_goto (tgt := 62) C dX4_mapRow_43 (by decide) ?_
        refine gd_iinc C dX4_mapRow_62 rfl ?_
        refine gd_goto (tgt := 6) C dX4_mapRow_65 (by decide) ?_
        have hcok := chk_ok (p := y) (R := q - y) hI1 hj (by omega) (fun p9 p1 p2 => hr1 p9 p1 (by omega)) hL1
        have hadv := mrS_adv (p := y) (e := q) hj (by omega) hI1 hL1 hr1
        rw [hch] at hcok hadv
        obtain ⟨k1, k2, k3, k4, k5, k6⟩ := hcok
        dsimp only at k1 k2 k3 k4 k5 k6 hadv
        exact ih _ (by omega) (i + 1) (y + y2) w2 T2 v2 B2 (by omega) (by omega) (by omega) (by omega) rfl hW2 k3 (hF1.tr hF2) k4 (fun p9 p1 p2 => by rw [k5 p9 p1]; exact hr1 p9 (by omega) p2) (hm1.trans hadv)

set_option maxRecDepth 100000 in
set_option maxHeartbeats 4000000 in
theorem kX4_flush {l : Launch} {D : va_G} {ky : Nat → ClassId} {z : Nat} {w : WT} (hl : l.stackTraces = false) {b g t ar d : Nat} {ac ab : Int → Nat} {T : Int → Int} {v B : Int → Int → Int} {sc dn : Int} (hW : CW w ky b g t ar d ac ab T v B sc dn) (hI : CI T v B sc dn) {q : Int} (hq : InR q) (hL0 : 0 ≤ lF T v) : Mt l D ky z yX4_flush wsX4_flush { frames := 7, cells := 2, slots := 12, locals := 147 } [.ref b, .int (iI q)] w (fun r w' => (0 ≤ q ∧ q < 16 ∧ v q 2 = 1) ∧ dn = 0 ∧ r = some (.int (iI (v q 4 - (flR q 64 0 (T, v, B)).2.1 q 4))) ∧ 0 ≤ lF (flR q 64 0 (T, v, B)).1 (flR q 64 0 (T, v, B)).2.1 ∧ CW w' ky b g t ar d ac ab ((flR q 64 0 (T, v, B)).1) ((flR q 64 0 (T, v, B)).2.1) ((flR q 64 0 (T, v, B)).2.2) (sc) (dn) ∧ CI ((flR q 64 0 (T, v, B)).1) ((flR q 64 0 (T, v, B)).2.1) ((flR q 64 0 (T, v, B)).2.2) (sc) (dn) ∧ FrC w w' b g t ac ab) (fun E => (E = "java/lang/IndexOutOfBoundsException" ∧ ¬ (0 ≤ q ∧ q < 16 ∧ v q 2 = 1)) ∨ (E = "java/lang/IllegalStateException" ∧ (0 ≤ q ∧ q < 16 ∧ v q 2 = 1) ∧ dn = 1)) := by
  refine Mt.of (cc := cX4_flush) (ret := (some .int)) (maxL := 5) (by decide) rfl (by intro v hv; simp at hv; rcases hv with rfl | rfl <;> rfl) (Nat.le_of_ble_eq_true rfl) ?_ hl
  intro p e s m args below meth c C htab hret hname Q hQ
  obtain ⟨hb, hg, ht, har, hfl, hdj⟩ := id hW
  obtain ⟨hi1, hi2, hi3, hi4⟩ := id hI
  refine gd_aload_n C dX4_flush_0 rfl ?_
  refine gd_iload_n C dX4_flush_1 rfl ?_
  refine gd_callV (n := 1) (ci := 4) (Cn := RX4) (T := TX4) (N := 5) C (kX4_requireContent hl hW hI (q := q) ?_) ?_ rfl gX4_flush_X4_requireContent rfl ⟨rfl, by decide, by decide, by decide +kernel⟩ rfl rfl (Nat.le_of_ble_eq_true rfl) rfl dX4_flush_2 ⟨⟨by decide, by decide⟩, by decide, by decide⟩ (fun E h => gx_out C hQ htab (Or.inl ⟨h.1, h.2⟩) (by decide) (by decide)) ?_
  · omega
  · exact ⟨_, by first | assumption | exact wU_s _ _ _ | exact look1 (by assumption) (by assumption) | exact look2 (by assumption) (by assumption)⟩
  rintro _ _ ⟨rfl, rfl, hq1, hq2, hq3⟩
  have hfi := hi2 q hq1 hq2
  unfold FI at hfi
  have hfq := hfl q hq1 hq2
  refine gd_astore_n C dX4_flush_5 (Nat.le_of_ble_eq_true rfl) ?_
  refine gd_aload_n C dX4_flush_6 rfl ?_
  refine gd_callV (n := 0) (ci := 4) (Cn := RX4) (T := TX4) (N := 5) C (kX4_requireUp hl hW hI) ?_ rfl gX4_flush_X4_requireUp rfl ⟨rfl, by decide, by decide, by decide +kernel⟩ rfl rfl (Nat.le_of_ble_eq_true rfl) rfl dX4_flush_7 ⟨⟨by decide, by decide⟩, by decide, by decide⟩ (fun E h => gx_out C hQ htab (Or.inr ⟨h.1, by omega, h.2⟩) (by decide) (by decide)) ?_
  · exact ⟨_, by first | assumption | exact wU_s _ _ _ | exact look1 (by assumption) (by assumption) | exact look2 (by assumption) (by assumption)⟩
  rintro _ _ ⟨rfl, rfl, hup⟩
  refine gd_iconst C dX4_flush_10 ?_
  refine gd_istore_n C dX4_flush_11 (Nat.le_of_ble_eq_true rfl) ?_
  refine gd_iconst C dX4_flush_12 ?_
  refine gd_istore C dX4_flush_13 (Nat.le_of_ble_eq_true rfl) ?_
  suffices hloop : ∀ (n9 : Nat) (i a : Int) (w1 : WT) (T1 : Int → Int) (v1 B1 : Int → Int → Int), 0 ≤ i → i ≤ 64 → (64 - i).toNat = n9 → CW w1 ky b g t ar d ac ab T1 v1 B1 sc dn → CI T1 v1 B1 sc dn → FrC w w1 b g t ac ab → 0 ≤ lF T1 v1 → a = v q 4 - v1 q 4 → (flR q 64 0 (T, v, B)) = flR q (64 - i).toNat i (T1, v1, B1) → Gd p l e ({ frames := 7, cells := 2, slots := 12, locals := 147 }) s m args below meth c D z Q 2 12 w1 15 [some (.ref b), some (.int (iI q)), some (.ref (ac q)), some (.int (iI a)), some (.int (iI i))] [] from
    hloop _ 0 0 w T v B (by omega) (by omega) rfl hW hI (FrC.rf _ _ _ _ _ _) hL0 (by omega) rfl
  intro n9
  induction n9 using Nat.strongRecOn with
  | _ n9 ih =>
  intro i a w1 T1 v1 B1 h1i h2i hn hW1 hI1 hF1 hL1 ha1 hm1
  have hfj1 := hW1.2.2.2.2.1 q hq1 hq2
  obtain ⟨f0, f2, f3, f4, f5, f6, f8, f9, f10, fp⟩ := hI1.2.1 q hq1 hq2
  refine gd_iload C dX4_flush_15 rfl ?_
  refine gd_bipush C dX4_flush_17 (by decide) ?_
  refine gd_icmp_ge (tgt := 53) C dX4_flush_19 (by decide) ?_ ?_ (fun hc19 => ?_) (fun hc19 => ?_)
  · omega
  · omega
  · refine gd_iload_n C dX4_flush_53 rfl ?_
    refine gd_iret C hQ hret dX4_flush_54 ?_ ?_
    · have e1 : i = 64 := by omega
      subst e1
      have e2 : flR q 64 0 (T, v, B) = (T1, v1, B1) := hm1
      rw [e2]
      exact ⟨⟨hq1, hq2, hq3⟩, hup, by rw [ha1], hL1, hW1, hI1, hF1⟩
    · decide
  · refine gd_aload_n C dX4_flush_22 rfl ?_
    refine gd_iload C dX4_flush_23 rfl ?_
    refine gd_callVN (n := 1) (ci := 0) (Cn := RX0) (T := TX0) (N := 11) (host := RX4) C (kX0_isReserved hl hfj1.1 hfj1.2 fp (q := i) ?_) ?_ rfl gX4_flush_X0_isReserved_n119 rfl (by decide +kernel) (by decide +kernel) (by decide +kernel) (by decide +kernel) ⟨by decide, by decide, by decide +kernel⟩ rfl rfl (Nat.le_of_ble_eq_true rfl) rfl dX4_flush_25 ⟨⟨by decide, by decide⟩, by decide, by decide⟩ (fun _ h => h.elim) ?_
    · omega
    · exact ⟨_, by exact hfj1.1⟩
    rintro _ _ ⟨b9, rfl, rfl, hb9⟩
    refine gd_if_eq (tgt := 47) C dX4_flush_28 (by decide) ?_ (fun hc28 => ?_) (fun hc28 => ?_)
    · omega
    · refine gd_iinc C dX4_flush_47 rfl ?_
      refine gd_goto (tgt := 15) C dX4_flush_50 (by decide) ?_
      first
        | exact ih _ (by omega) (i + 1) _ w2 _ _ _ (by omega) (by omega) rfl hW2 hI2 (hF1.tr hF2) hL2 (by omega) (by rw [hm1, flR_s (by omega), hch])
        | exact ih _ (by omega) (i + 1) a w1 T1 v1 B1 (by omega) (by omega) rfl hW1 hI1 hF1 hL1 ha1 (by rw [hm1, flR_s (by omega), fl1_n (by show B1 q i ≠ -2; omega)])
    · refine gd_iload_n C dX4_flush_31 rfl ?_
      refine gd_aload_n C dX4_flush_32 rfl ?_
      refine gd_aload_n C dX4_flush_33 rfl ?_
      refine gd_iload C dX4_flush_34 rfl ?_
      refine gd_aload_n C dX4_flush_36 rfl ?_
      refine gd_iload C dX4_flush_37 rfl ?_
      refine gd_callVN (n := 1) (ci := 0) (Cn := RX0) (T := TX0) (N := 11) (host := RX4) C (kX0_endOfReserved hl hfj1.1 hfj1.2 fp (a := i) ?_) ?_ rfl gX4_flush_X0_endOfReserved_n123 rfl (by decide +kernel) (by decide +kernel) (by decide +kernel) (by decide +kernel) ⟨by decide, by decide, by decide +kernel⟩ rfl rfl (Nat.le_of_ble_eq_true rfl) rfl dX4_flush_39 ⟨⟨by decide, by decide⟩, by decide, by decide⟩ (fun _ h => h.elim) ?_
      · omega
      · exact ⟨_, by exact hfj1.1⟩
      rintro _ _ ⟨x, rfl, rfl, hx1, hx2, hx3, hx4⟩
      refine gd_callV (n := 3) (ci := 4) (Cn := RX4) (T := TX4) (N := 5) C (kX4_mapRow hl hW1 hI1 (j := q) (x := i) (q := x) ⟨hq1, hq2⟩ ?_ hx3 hL1) ?_ rfl gX4_flush_X4_mapRow rfl ⟨rfl, by decide, by decide, by decide +kernel⟩ rfl rfl (Nat.le_of_ble_eq_true rfl) rfl dX4_flush_42 ⟨⟨by decide, by decide⟩, by decide, by decide⟩ (fun _ h => h.elim) ?_
      · omega
      · exact ⟨_, by exact hW1.1⟩
      rintro _ w2 ⟨rfl, hW2, hI2, hF2⟩
      have hL2 := (mrS_ok (e := x) ⟨hq1, hq2⟩ hx2 (x - i).toNat i T1 v1 B1 h1i (by omega) hI1 hL1 hx3).2.1
      have h24 := (mrS_more (e := x) ⟨hq1, hq2⟩ hx2 (x - i).toNat i T1 v1 B1 h1i hx1 (by omega) hI1 hL1 hx3).1
      have hch : fl1 q i T1 v1 B1 = mrS q x (x - i).toNat i T1 v1 B1 := by
        unfold fl1
        rw [if_pos (by omega), eR_u h1i hx1 hx2 hx3 hx4]
      refine gd_iadd C dX4_flush_45 ?_
      refine gd_istore_n C dX4_flush_46 (Nat.le_of_ble_eq_true rfl) ?_
      refine gd_iinc C dX4_flush_47 rfl ?_
      refine gd_goto (tgt := 15) C dX4_flush_50 (by decide) ?_
      first
        | exact ih _ (by omega) (i + 1) _ w2 _ _ _ (by omega) (by omega) rfl hW2 hI2 (hF1.tr hF2) hL2 (by omega) (by rw [hm1, flR_s (by omega), hch])
        | exact ih _ (by omega) (i + 1) a w1 T1 v1 B1 (by omega) (by omega) rfl hW1 hI1 hF1 hL1 ha1 (by rw [hm1, flR_s (by omega), fl1_n (by show B1 q i ≠ -2; omega)])
