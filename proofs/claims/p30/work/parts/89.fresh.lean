/-! the contracts of create and of the constructor once more: nothing of another object is taken -/
set_option maxRecDepth 100000 in
set_option maxHeartbeats 4000000 in
theorem kX1_addF {l : Launch} {D : va_G} {ky : Nat → ClassId} {z : Nat} {w : WT} (hl : l.stackTraces = false) {d : Nat} {la na fa : Int → Nat} {n : Int} {lo co ct : Int → Int} {nm fl : Int → Int → Int} (hd : DW w ky d la na fa n lo co ct nm fl) (hr : DR n lo co ct nm fl) {q x : Int} (hq : 0 ≤ q ∧ q ≤ 999) (hn : n < 600) (hlo0 : lo 0 = 0) (hs3 : ∀ i, ct i = 4 → rk (nm i 2) < rk (nm i 3)) : Mt l D ky z yX1_add wsX1_add { frames := 4, cells := 3, slots := 15, locals := 87 } [.ref d, .int (iI q), .int (iI x)] w (fun r w' => r = none ∧ ∃ (la' na' fa' : Int → Nat) (n' : Int) (lo' co' ct' : Int → Int) (nm' fl' : Int → Int → Int), DW w' ky d la' na' fa' n' lo' co' ct' nm' fl' ∧ ADD q x n lo co ct nm fl n' lo' co' ct' nm' fl' ∧ (∀ y v, w y = some v → y ≠ d → (∀ i, 0 ≤ i → i < n → y ≠ la i ∧ y ≠ na i ∧ y ≠ fa i) → w' y = w y) ∧ FrL w d la na fa n la' na' fa' n') (fun _ => False) := by
  refine Mt.of (cc := cX1_add) (ret := none) (maxL := 4) (by decide) rfl (by intro v hv; simp at hv; rcases hv with rfl | rfl | rfl <;> rfl) (Nat.le_of_ble_eq_true rfl) ?_ hl
  intro p e s m args below meth c C htab hret hname Q hQ
  obtain ⟨hd0, hdl, hdi⟩ := id hd
  obtain ⟨hr1, hr2, hr3, hr4, hr5, hr6⟩ := id hr
  refine gd_aload_n C dX1_add_0 rfl ?_
  refine gd_iload_n C dX1_add_1 rfl ?_
  refine gd_callSN (n := 1) (host := RX4) C (kX4_hashOf hl (q := q) hq) gX1_add_X4_hashOf_n24 rfl (by decide +kernel) (by decide +kernel) (by decide +kernel) ⟨by decide, by decide, by decide +kernel⟩ rfl rfl (Nat.le_of_ble_eq_true rfl) rfl dX1_add_2 ⟨⟨by decide, by decide⟩, by decide, by decide⟩ (fun _ h => h.elim) ?_
  rintro _ _ ⟨rfl, rfl⟩
  have hbq := hs_bd q
  refine gd_callV (n := 1) (ci := 1) (Cn := RX1) (T := TX1) (N := 2) C (kX1_lastLeafFor hl hd hr (q := hs q) (by omega)) ?_ rfl gX1_add_X1_lastLeafFor rfl ⟨rfl, by decide, by decide, by decide +kernel⟩ rfl rfl (Nat.le_of_ble_eq_true rfl) rfl dX1_add_5 ⟨⟨by decide, by decide⟩, by decide, by decide⟩ (fun _ h => h.elim) ?_
  · exact ⟨_, by exact hd0⟩
  rintro _ _ ⟨rfl, rfl⟩
  have hjb := lL_bd lo (hs q) hr1.1
  generalize hJ : lL lo n (hs q) = j at hjb ⊢
  have hdj := hdl j hjb.1 hjb.2
  have hr4j := hr4 j
  refine gd_astore_n C dX1_add_8 (Nat.le_of_ble_eq_true rfl) ?_
  refine gd_aload_n C dX1_add_9 rfl ?_
  apply gd_getN (host := RX4) (ci := 3) (Cn := RX3) (T := TX3) (N := 7) (ref := RX3) C rfl (by decide +kernel) 4 (by decide) (by decide +kernel) rfl dX1_add_10
  · exact hdj.1
  · rfl
  refine gd_iconst C dX1_add_13 ?_
  refine gd_icmp_ne (tgt := 40) C dX1_add_14 (by decide) ?_ ?_ (fun hc14 => ?_) (fun hc14 => ?_)
  · omega
  · omega
  · refine gd_aload_n C dX1_add_40 rfl ?_
    refine gd_iload_n C dX1_add_41 rfl ?_
    refine gd_iload_n C dX1_add_42 rfl ?_
    refine gd_callVN (n := 2) (ci := 3) (Cn := RX3) (T := TX3) (N := 7) (host := RX4) C (kX3_insert hl hdj.1 hdj.2.1 ?_ (hr5 j) hdj.2.2.1 hdj.2.2.2 (q := q) (x := x) hq) ?_ rfl gX1_add_X3_insert_n38 rfl (by decide +kernel) (by decide +kernel) (by decide +kernel) (by decide +kernel) ⟨by decide, by decide, by decide +kernel⟩ rfl rfl (Nat.le_of_ble_eq_true rfl) rfl dX1_add_43 ⟨⟨by decide, by decide⟩, by decide, by decide⟩ (fun _ h => h.elim) ?_
    · omega
    · exact ⟨_, by exact hdj.1⟩
    rintro _ w3 ⟨rfl, p, p1, p2, p3, p4, q1, q2, q3, q4⟩
    refine gd_vret C hQ hret dX1_add_46 ?_ ?_
    · subst hJ
      refine ⟨rfl, la, na, fa, n, lo, co, _, _, _, DW_leaf hd hjb q1 q2 q3 q4, Or.inl ⟨hc14, rfl, rfl, rfl, p, p1, p2, p3, p4, rfl, rfl, rfl⟩, fun y v hy y1 y2 => ?_, fun y v hy y1 y2 => y2⟩
      have y3 := y2 _ hjb.1 hjb.2
      exact q4 y y3.2.1 y3.2.2 y3.1
    · decide
  · refine gd_aload_n C dX1_add_17 rfl ?_
    have hcj : ct j = 4 := by omega
    have hdj1 := hdj.1
    rw [hcj] at hdj1
    refine gd_callVN (n := 0) (ci := 3) (Cn := RX3) (T := TX3) (N := 7) (host := RX4) C (kX3_split hl hdj1 hdj.2.1 (hr5 j) hdj.2.2.1 (hs3 j hcj) ?_) ?_ rfl gX1_add_X3_split_n35 rfl (by decide +kernel) (by decide +kernel) (by decide +kernel) (by decide +kernel) ⟨by decide, by decide, by decide +kernel⟩ rfl rfl (Nat.le_of_ble_eq_true rfl) rfl dX1_add_18 ⟨⟨by decide, by decide⟩, by decide, by decide⟩ (fun _ h => h.elim) ?_
    · intro k hk
      have hk1 : j + 1 < n := by
        by_cases h : j + 1 < n
        · exact h
        · rw [lq_ge h] at hk; cases hk
      rw [lq_lt hk1] at hk
      cases hk
      exact ⟨(hdi (j + 1) j (by omega) hk1 hjb.1 hjb.2 (by omega)).1, _, _, _, _, _, _, _, (hdl (j + 1) (by omega) hk1).1⟩
    · exact ⟨_, by exact hdj1⟩
    rintro _ w1 ⟨rfl, g, nb, fb, hg, hnb, hfb, e1, e2, e3, c1, c2, c3, c4, c5, c6⟩
    have hdd : w1 d = some (oB 1 [.ref (la 0), .int (iI n)]) := (c6 d (kd2 hd0 hdj.1 (by decide)) (new_ne hg hd0) (new_ne hnb hd0) (new_ne hfb hd0) (fun h => by
      by_cases hk1 : j + 1 < n
      · rw [lq_lt hk1] at h
        cases h
        exact kd2 hd0 (hdl (j + 1) (by omega) hk1).1 (by decide) rfl
      · rw [lq_ge hk1] at h
        cases h)).trans hd0
    have hD2 := DW_split hd hjb hg hnb hfb e1 e2 e3 c1 c2 c3 c4 c5 c6
    have hbL := hs_bd (nm j 2)
    have hC : eqI (hs (nm j 1)) (hs (nm j 2)) = 0 ∨ eqI (hs (nm j 1)) (hs (nm j 2)) = 1 := by have := eqI_bd (hs (nm j 1)) (hs (nm j 2)); omega
    have hR2 := DR_split (j := j) hr (by omega) (L := hs (nm j 2)) (by omega) hC
    refine gd_aload_n C dX1_add_21 rfl ?_
    refine gd_dup C dX1_add_22 rfl ?_
    apply gd_get (ci := 1) (Cn := RX1) (T := TX1) (N := 2) (ref := RX1) C rfl (by decide +kernel) 1 (by decide) (by decide +kernel) rfl dX1_add_23
    · first | assumption | exact (hdl _ (by omega) (by omega)).1 | exact wU_s _ _ _
    · rfl
    refine gd_iconst C dX1_add_26 ?_
    refine gd_iadd C dX1_add_27 ?_
    apply gd_put (ci := 1) (Cn := RX1) (T := TX1) (N := 2) (ref := RX1) C rfl (by decide +kernel) tyX1 tyX1_ok nmX1 1 (by decide) (by decide +kernel) rfl rfl dX1_add_28
    · exact hdd
    · rfl
    · rfl
    · exact Nat.le_of_ble_eq_true rfl
    refine gd_aload_n C dX1_add_31 rfl ?_
    refine gd_iload_n C dX1_add_32 rfl ?_
    refine gd_callSN (n := 1) (host := RX4) C (kX4_hashOf hl (q := q) hq) gX1_add_X4_hashOf_n24 rfl (by decide +kernel) (by decide +kernel) (by decide +kernel) ⟨by decide, by decide, by decide +kernel⟩ rfl rfl (Nat.le_of_ble_eq_true rfl) rfl dX1_add_33 ⟨⟨by decide, by decide⟩, by decide, by decide⟩ (fun _ h => h.elim) ?_
    rintro _ _ ⟨rfl, rfl⟩
    refine gd_callV (n := 1) (ci := 1) (Cn := RX1) (T := TX1) (N := 2) C (kX1_lastLeafFor hl hD2 hR2 (q := hs q) (by omega)) ?_ rfl gX1_add_X1_lastLeafFor rfl ⟨rfl, by decide, by decide, by decide +kernel⟩ rfl rfl (Nat.le_of_ble_eq_true rfl) rfl dX1_add_36 ⟨⟨by decide, by decide⟩, by decide, by decide⟩ (fun _ h => h.elim) ?_
    · exact ⟨_, by exact hD2.1⟩
    rintro _ _ ⟨rfl, rfl⟩
    have hJ2 := lL_shI (lo := lo) (n := n) (h := hs q) (L := hs (nm j 2)) hr1.1 (by omega)
    rw [hJ] at hJ2
    have hKb := lL_bd (shI lo j (hs (nm j 2))) (hs q) hR2.1.1
    generalize hK : lL (shI lo j (hs (nm j 2))) (n + 1) (hs q) = K at hJ2 hKb ⊢
    have hct2 : (fU (shI ct j 2) j 2) K = 2 := by
      split at hJ2
      · rw [hJ2, fU_n (by omega), shI_eq rfl]
      · rw [hJ2, fU_s]
    have hdK := hD2.2.1 K hKb.1 hKb.2
    have hR5 := hR2.2.2.2.2.1 K
    have hR6 := hR2.2.2.2.2.2 K
    refine gd_astore_n C dX1_add_39 (Nat.le_of_ble_eq_true rfl) ?_
    refine gd_aload_n C dX1_add_40 rfl ?_
    refine gd_iload_n C dX1_add_41 rfl ?_
    refine gd_iload_n C dX1_add_42 rfl ?_
    refine gd_callVN (n := 2) (ci := 3) (Cn := RX3) (T := TX3) (N := 7) (host := RX4) C (kX3_insert hl hdK.1 hdK.2.1 ?_ hR5 hdK.2.2.1 hdK.2.2.2 (q := q) (x := x) hq) ?_ rfl gX1_add_X3_insert_n38 rfl (by decide +kernel) (by decide +kernel) (by decide +kernel) (by decide +kernel) ⟨by decide, by decide, by decide +kernel⟩ rfl rfl (Nat.le_of_ble_eq_true rfl) rfl dX1_add_43 ⟨⟨by decide, by decide⟩, by decide, by decide⟩ (fun _ h => h.elim) ?_
    · omega
    · exact ⟨_, by exact hdK.1⟩
    rintro _ w3 ⟨rfl, p, p1, p2, p3, p4, q1, q2, q3, q4⟩
    refine gd_vret C hQ hret dX1_add_46 ?_ ?_
    · refine ⟨rfl, _, _, _, n + 1, _, _, _, _, _, DW_leaf hD2 hKb q1 q2 q3 q4, Or.inr ⟨by rw [hJ]; exact hcj, rfl, j, _, hJ.symm, rfl, rfl, rfl, by rw [hK]; exact ⟨p, p1, p2, p3, p4, rfl, rfl, rfl⟩⟩, fun y v hy y1 y2 => ?_, fun y v hy y1 y2 i i1 i2 => ?_⟩
      · have yg := new_ne hg hy
        have yn := new_ne hnb hy
        have yf := new_ne hfb hy
        have y3 : y ≠ shI la j g K ∧ y ≠ shI na j nb K ∧ y ≠ shI fa j fb K := by
          by_cases h1 : K ≤ j
          · rw [shI_le h1, shI_le h1, shI_le h1]
            exact y2 K hKb.1 (by omega)
          · by_cases h2 : K = j + 1
            · rw [shI_eq h2, shI_eq h2, shI_eq h2]
              exact ⟨yg, yn, yf⟩
            · rw [shI_gt (by omega), shI_gt (by omega), shI_gt (by omega)]
              exact y2 (K - 1) (by omega) (by omega)
        have y4 := y2 j hjb.1 hjb.2
        refine (q4 y y3.2.1 y3.2.2 y3.1).trans ((wU_n y1).trans (c6 y y4.1 yg yn yf (fun h => ?_)))
        by_cases hk1 : j + 1 < n
        · rw [lq_lt hk1] at h
          cases h
          exact (y2 (j + 1) (by omega) hk1).1 rfl
        · rw [lq_ge hk1] at h
          cases h
      · have yg := new_ne hg hy
        have yn := new_ne hnb hy
        have yf := new_ne hfb hy
        by_cases h1 : i ≤ j
        · rw [shI_le h1, shI_le h1, shI_le h1]
          exact y2 i i1 (by omega)
        · by_cases h2 : i = j + 1
          · rw [shI_eq h2, shI_eq h2, shI_eq h2]
            exact ⟨yg, yn, yf⟩
          · rw [shI_gt (by omega), shI_gt (by omega), shI_gt (by omega)]
            exact y2 (i - 1) (by omega) (by omega)
    · decide
set_option maxRecDepth 100000 in
set_option maxHeartbeats 4000000 in
theorem kX4_createF {l : Launch} {D : va_G} {ky : Nat → ClassId} {z : Nat} {w : WT} (hl : l.stackTraces = false) {b g t ar d : Nat} {ac ab : Int → Nat} {T : Int → Int} {v B : Int → Int → Int} {sc dn : Int} (hW : CW w ky b g t ar d ac ab T v B sc dn) (hI : CI T v B sc dn) {la na fa : Int → Nat} {n : Int} {lo co ct : Int → Int} {nm fl : Int → Int → Int} (hD : DW w ky d la na fa n lo co ct nm fl) (hR : DR n lo co ct nm fl) {q : Int} (hq : InR q) (hlo0 : lo 0 = 0) (hs3 : ∀ i, ct i = 4 → rk (nm i 2) < rk (nm i 3)) : Mt l D ky z yX4_create wsX4_create { frames := 8, cells := 6, slots := 33, locals := 132 } [.ref b, .int (iI q)] w (fun r w' => (0 ≤ q ∧ q ≤ 999) ∧ dn = 0 ∧ 0 ≤ (fF (fun j => v j 2 = 0) 0 16) ∧ (dF n lo co ct nm fl q) = -1 ∧ n < 512 ∧ r = some (.int (iI (fF (fun j => v j 2 = 0) 0 16))) ∧ CW w' ky b g t ar d ac ab T (fU v (fF (fun j => v j 2 = 0) 0 16) (fU (v (fF (fun j => v j 2 = 0) 0 16)) 2 1)) B sc dn ∧ CI T (fU v (fF (fun j => v j 2 = 0) 0 16) (fU (v (fF (fun j => v j 2 = 0) 0 16)) 2 1)) B sc dn ∧ ∃ (la' na' fa' : Int → Nat) (n' : Int) (lo' co' ct' : Int → Int) (nm' fl' : Int → Int → Int), DW w' ky d la' na' fa' n' lo' co' ct' nm' fl' ∧ ADD q (fF (fun j => v j 2 = 0) 0 16) n lo co ct nm fl n' lo' co' ct' nm' fl' ∧ FrA w w' b g t d ac ab la na fa n ∧ FrL w d la na fa n la' na' fa' n') (fun E => (E = "java/lang/IllegalArgumentException" ∧ ¬ (0 ≤ q ∧ q ≤ 999)) ∨ (E = "java/lang/IllegalStateException" ∧ (0 ≤ q ∧ q ≤ 999) ∧ (dn = 1 ∨ (fF (fun j => v j 2 = 0) 0 16) = -1 ∨ (dF n lo co ct nm fl q) ≠ -1 ∨ 512 ≤ n))) := by
  refine Mt.of (cc := cX4_create) (ret := (some .int)) (maxL := 3) (by decide) rfl (by intro v hv; simp at hv; rcases hv with rfl | rfl <;> rfl) (Nat.le_of_ble_eq_true rfl) ?_ hl
  intro p e s m args below meth c C htab hret hname Q hQ
  obtain ⟨hb, hg, ht, har, hfl, hdj⟩ := id hW
  obtain ⟨hi1, hi2, hi3, hi4⟩ := id hI
  refine gd_iload_n C dX4_create_0 rfl ?_
  refine gd_callS (n := 1) C (kX4_requireName hl (q := q) ?_) gX4_create_X4_requireName rfl ⟨by decide, by decide, by decide +kernel⟩ rfl rfl (Nat.le_of_ble_eq_true rfl) rfl dX4_create_1 ⟨⟨by decide, by decide⟩, by decide, by decide⟩ (fun E h => gx_out C hQ htab (Or.inl ⟨h.1, h.2⟩) (by decide) (by decide)) ?_
  · omega
  rintro _ _ ⟨rfl, rfl, hn1, hn2⟩
  refine gd_aload_n C dX4_create_4 rfl ?_
  refine gd_callV (n := 0) (ci := 4) (Cn := RX4) (T := TX4) (N := 5) C (kX4_requireUp hl hW hI) ?_ rfl gX4_create_X4_requireUp rfl ⟨rfl, by decide, by decide, by decide +kernel⟩ rfl rfl (Nat.le_of_ble_eq_true rfl) rfl dX4_create_5 ⟨⟨by decide, by decide⟩, by decide, by decide⟩ (fun E h => gx_out C hQ htab (Or.inr ⟨h.1, by omega, Or.inl h.2⟩) (by decide) (by decide)) ?_
  · exact ⟨_, by first | assumption | exact wU_s _ _ _ | exact look1 (by assumption) (by assumption) | exact look2 (by assumption) (by assumption)⟩
  rintro _ _ ⟨rfl, rfl, hup⟩
  refine gd_aload_n C dX4_create_8 rfl ?_
  refine gd_callV (n := 0) (ci := 4) (Cn := RX4) (T := TX4) (N := 5) C (kX4_lowestUnusedFile hl hW hI) ?_ rfl gX4_create_X4_lowestUnusedFile rfl ⟨rfl, by decide, by decide, by decide +kernel⟩ rfl rfl (Nat.le_of_ble_eq_true rfl) rfl dX4_create_9 ⟨⟨by decide, by decide⟩, by decide, by decide⟩ (fun _ h => h.elim) ?_
  · exact ⟨_, by first | assumption | exact wU_s _ _ _ | exact look1 (by assumption) (by assumption) | exact look2 (by assumption) (by assumption)⟩
  rintro _ _ ⟨rfl, rfl⟩
  have hfs := fF_spec (P := fun j => v j 2 = 0) (b := 16) _ 0 rfl
  generalize hxe : (fF (fun j => v j 2 = 0) 0 16) = x at hfs ⊢
  refine gd_istore_n C dX4_create_12 (Nat.le_of_ble_eq_true rfl) ?_
  refine gd_iload_n C dX4_create_13 rfl ?_
  refine gd_iconst C dX4_create_14 ?_
  refine gd_icmp_eq (tgt := 40) C dX4_create_15 (by decide) ?_ ?_ (fun hc15 => ?_) (fun hc15 => ?_)
  · omega
  · omega
  · refine gd_throw (cls := "java/lang/IllegalStateException") (text := "there is such a name, or no room for one more file") (ik := 58) (is := 60) (ic := 62) C hQ htab (by decide +kernel) (by decide +kernel) (by decide +kernel) (by decide +kernel) (by decide +kernel) (by decide +kernel) (by decide +kernel) dX4_create_40 dX4_create_43 dX4_create_44 dX4_create_46 dX4_create_49 rfl ?_ ⟨⟨by decide, Nat.le_of_ble_eq_true rfl, by decide, by decide⟩, by decide, by decide⟩
    · exact Or.inr ⟨rfl, by omega, by unfold dF; rw [hxe]; omega⟩
  · refine gd_aload_n C dX4_create_18 rfl ?_
    apply gd_get (ci := 4) (Cn := RX4) (T := TX4) (N := 5) (ref := RX4) C rfl (by decide +kernel) 1 (by decide) (by decide +kernel) rfl dX4_create_19
    · exact hb
    · rfl
    refine gd_iload_n C dX4_create_22 rfl ?_
    refine gd_callVN (n := 1) (ci := 1) (Cn := RX1) (T := TX1) (N := 2) (host := RX4) C (kX1_fileWith hl hD hR (q := q) ⟨hn1, hn2⟩) ?_ rfl gX4_create_X1_fileWith_n50 rfl (by decide +kernel) (by decide +kernel) (by decide +kernel) (by decide +kernel) ⟨by decide, by decide, by decide +kernel⟩ rfl rfl (Nat.le_of_ble_eq_true rfl) rfl dX4_create_23 ⟨⟨by decide, by decide⟩, by decide, by decide⟩ (fun _ h => h.elim) ?_
    · exact ⟨_, by exact hD.1⟩
    rintro _ _ ⟨rfl, rfl⟩
    have hdb := dF_bd hR q
    unfold dF at hdb
    refine gd_iconst C dX4_create_26 ?_
    refine gd_icmp_ne (tgt := 40) C dX4_create_27 (by decide) ?_ ?_ (fun hc27 => ?_) (fun hc27 => ?_)
    · omega
    · omega
    · refine gd_throw (cls := "java/lang/IllegalStateException") (text := "there is such a name, or no room for one more file") (ik := 58) (is := 60) (ic := 62) C hQ htab (by decide +kernel) (by decide +kernel) (by decide +kernel) (by decide +kernel) (by decide +kernel) (by decide +kernel) (by decide +kernel) dX4_create_40 dX4_create_43 dX4_create_44 dX4_create_46 dX4_create_49 rfl ?_ ⟨⟨by decide, Nat.le_of_ble_eq_true rfl, by decide, by decide⟩, by decide, by decide⟩
      · exact Or.inr ⟨rfl, by omega, by unfold dF; rw [hxe]; omega⟩
    · refine gd_aload_n C dX4_create_30 rfl ?_
      apply gd_get (ci := 4) (Cn := RX4) (T := TX4) (N := 5) (ref := RX4) C rfl (by decide +kernel) 1 (by decide) (by decide +kernel) rfl dX4_create_31
      · exact hb
      · rfl
      refine gd_callVN (n := 0) (ci := 1) (Cn := RX1) (T := TX1) (N := 2) (host := RX4) C (kX1_isFull hl hD hR) ?_ rfl gX4_create_X1_isFull_n54 rfl (by decide +kernel) (by decide +kernel) (by decide +kernel) (by decide +kernel) ⟨by decide, by decide, by decide +kernel⟩ rfl rfl (Nat.le_of_ble_eq_true rfl) rfl dX4_create_34 ⟨⟨by decide, by decide⟩, by decide, by decide⟩ (fun _ h => h.elim) ?_
      · exact ⟨_, by exact hD.1⟩
      rintro _ _ ⟨b9, rfl, rfl, hb9⟩
      have hn9 := hR.1
      refine gd_if_eq (tgt := 50) C dX4_create_37 (by decide) ?_ (fun hc37 => ?_) (fun hc37 => ?_)
      · omega
      · refine gd_aload_n C dX4_create_50 rfl ?_
        apply gd_get (ci := 4) (Cn := RX4) (T := TX4) (N := 5) (ref := RX4) C rfl (by decide +kernel) 1 (by decide) (by decide +kernel) rfl dX4_create_51
        · exact hb
        · rfl
        refine gd_iload_n C dX4_create_54 rfl ?_
        refine gd_iload_n C dX4_create_55 rfl ?_
        refine gd_callVN (n := 2) (ci := 1) (Cn := RX1) (T := TX1) (N := 2) (host := RX4) C (kX1_addF hl hD hR (q := q) (x := x) ⟨hn1, hn2⟩ (by omega) hlo0 hs3) ?_ rfl gX4_create_X1_add_n65 rfl (by decide +kernel) (by decide +kernel) (by decide +kernel) (by decide +kernel) ⟨by decide, by decide, by decide +kernel⟩ rfl rfl (Nat.le_of_ble_eq_true rfl) rfl dX4_create_56 ⟨⟨by decide, by decide⟩, by decide, by decide⟩ (fun _ h => h.elim) ?_
        · exact ⟨_, by exact hD.1⟩
        rintro _ w1 ⟨rfl, la', na', fa', n', lo', co', ct', nm', fl', hD1, hA1, hF1, hL1⟩
        have hW1 := hW.keptA hD hF1
        have hfq1 := hW1.2.2.2.2.1 x (by omega) (by omega)
        refine gd_aload_n C dX4_create_59 rfl ?_
        apply gd_get (ci := 4) (Cn := RX4) (T := TX4) (N := 5) (ref := RX4) C rfl (by decide +kernel) 2 (by decide) (by decide +kernel) rfl dX4_create_60
        · exact hW1.1
        · rfl
        refine gd_iload_n C dX4_create_63 rfl ?_
        apply gd_aald C dX4_create_64
        · exact hW1.2.2.2.1
        · decide
        · omega
        · exact cQ_at (by omega)
        refine gd_callVN (n := 0) (ci := 0) (Cn := RX0) (T := TX0) (N := 11) (host := RX4) C (kX0_begin hl hfq1.1) ?_ rfl gX4_create_X0_begin_n69 rfl (by decide +kernel) (by decide +kernel) (by decide +kernel) (by decide +kernel) ⟨by decide, by decide, by decide +kernel⟩ rfl rfl (Nat.le_of_ble_eq_true rfl) rfl dX4_create_65 ⟨⟨by decide, by decide⟩, by decide, by decide⟩ (fun _ h => h.elim) ?_
        · exact ⟨_, by exact hfq1.1⟩
        rintro _ w2 ⟨rfl, rfl⟩
        obtain ⟨hW2, hF2⟩ := hW1.setV (j := x) ⟨by omega, by omega⟩ (wU_s w1 (ac x) (cC (ab x) (fU (v x) 2 1))) (fun y1 h1 => wU_n h1)
        have hI2 := hI.setV (j := x) (V := fU (v x) 2 1) ((hi2 x (by omega) (by omega)).bg)
        have hD2 := hD1.keptC hW1 hF2
        refine gd_iload_n C dX4_create_68 rfl ?_
        refine gd_iret C hQ hret dX4_create_69 ?_ ?_
        · rw [hxe]
          refine ⟨⟨hn1, hn2⟩, hup, by omega, by unfold dF; omega, by omega, rfl, hW2, hI2, la', na', fa', n', lo', co', ct', nm', fl', hD2, hA1, fun y u hy a1 a2 a3 a4 a5 a6 => (hF2 y a1 a2 a3 a4).trans (hF1 y u hy a5 a6), hL1⟩
        · decide
      · refine gd_throw (cls := "java/lang/IllegalStateException") (text := "there is such a name, or no room for one more file") (ik := 58) (is := 60) (ic := 62) C hQ htab (by decide +kernel) (by decide +kernel) (by decide +kernel) (by decide +kernel) (by decide +kernel) (by decide +kernel) (by decide +kernel) dX4_create_40 dX4_create_43 dX4_create_44 dX4_create_46 dX4_create_49 rfl ?_ ⟨⟨by decide, Nat.le_of_ble_eq_true rfl, by decide, by decide⟩, by decide, by decide⟩
        · exact Or.inr ⟨rfl, by omega, by unfold dF; rw [hxe]; omega⟩
def BWF (w0 w : WT) (ky : Nat → ClassId) (b g t ar d q nb fb : Nat) (ac ab : Int → Nat) (i : Int) : Prop :=
  BW w0 w ky b g t ar d q nb fb ac ab i ∧ (∀ y u, w0 y = some u → y ≠ b → y ≠ g ∧ y ≠ t ∧ y ≠ d ∧ y ≠ q ∧ y ≠ nb ∧ y ≠ fb) ∧ ∀ y u, w0 y = some u → y ≠ b → ∀ j, 0 ≤ j → j < i → y ≠ ac j ∧ y ≠ ab j
theorem BWF.s {w0 w w2 : WT} {ky : Nat → ClassId} {b g t ar d q nb fb a a2 : Nat} {ac ab : Int → Nat} {i : Int} {X : va_E} (h : BWF w0 w ky b g t ar d q nb fb ac ab i) (hi : 0 ≤ i) (ha : w a = none) (ha2 : wU w a X a2 = none)
    (c1 : w2 a2 = some (iA (ky 0) 64 (tkF (fun _ => 0) 0 64 (-1)))) (c2 : w2 a = some (cC a2 (fU (fun _ => 0) 0 i))) (c3 : ∀ y, y ≠ a → y ≠ a2 → w2 y = wU w a X y) :
    BWF w0 (wU w2 ar (rA (ky 2) 16 (fU (fun j => if 0 ≤ j ∧ j < i then some (ac j) else none) i (some a)))) ky b g t ar d q nb fb (fU ac i a) (fU ab i a2) (i + 1) := by
  obtain ⟨h1, h2, h3⟩ := h
  have hna : a2 ≠ a := fun e => by rw [e, wU_s] at ha2; cases ha2
  have ha2' : w a2 = none := by rw [wU_n hna] at ha2; exact ha2
  refine ⟨h1.s hi ha ha2 c1 c2 c3, h2, fun y u hy hyb j j1 j2 => ?_⟩
  have hyw := h1.2.2.2.2.2.2.2.1 y u hy hyb
  by_cases hj : j = i
  · subst hj
    rw [fU_s, fU_s]
    exact ⟨new_ne ha hyw, new_ne ha2' hyw⟩
  · rw [fU_n hj, fU_n hj]
    exact h3 y u hy hyb j j1 (by omega)
set_option maxRecDepth 100000 in
set_option maxHeartbeats 4000000 in
theorem kX4_initF {l : Launch} {D : va_G} {ky : Nat → ClassId} {z : Nat} {w : WT} (hl : l.stackTraces = false) {b : Nat} (hb : w b = some (oB 4 [.null, .null, .null, .int 0, .int 0])) : MtA l D ky z yX4_init wsX4_init { frames := 3, cells := 39, slots := 1363, locals := 62 } [.ref b] w (fun r w' => r = none ∧ ∃ (g t ar d q nb fb : Nat) (ac ab : Int → Nat), CW w' ky b g t ar d ac ab (fun _ => 0) v0 B0 (-1) 0 ∧ DW w' ky d (fun _ => q) (fun _ => nb) (fun _ => fb) 1 (fun _ => 0) (fun _ => 0) (fun _ => 0) (fun _ _ => 0) (fun _ _ => 0) ∧ (∀ y u, w y = some u → y ≠ b → w' y = some u) ∧ ∀ y u, w y = some u → y ≠ b → ¬ OWN b g t ar d ac ab (fun _ => q) (fun _ => nb) (fun _ => fb) 1 y) := by
  refine MtA.of (cc := cX4_init) (ret := none) (maxL := 2) (by decide) rfl (by intro v hv; simp at hv; rcases hv with rfl <;> rfl) (Nat.le_of_ble_eq_true rfl) ?_ hl
  intro p e s m args below meth c C hO htab hret hname Q hQ
  refine gd_aload_n C dX4_init_0 rfl ?_
  refine gd_objInit C (by decide +kernel) (by decide +kernel) (by decide +kernel) rfl dX4_init_1 ⟨by decide, Nat.le_of_ble_eq_true rfl⟩ ?_
  refine gd_aload_n C dX4_init_4 rfl ?_
  refine gd_new (ci := 2) (Cn := RX2) (T := TX2) (N := 2) (fs := [.null, .int 0]) C rfl (by decide +kernel) tyX2 tyX2_ok (by decide +kernel) (by decide +kernel) (by decide +kernel) (fun j hj => by
    match j, hj with
    | 0, _ => rfl
    | 1, _ => rfl) ⟨by decide, by decide⟩ dX4_init_5 ?_
  intro a5 hx5
  have hbg := new_ne hx5 hb
  have hb1 := new_at (y := oB 2 [.null, .int 0]) hx5 hb
  refine gd_dup C dX4_init_8 rfl ?_
  refine gd_callIN (n := 0) (host := RX4) C (kX2_init hl (g := a5) (wU_s _ _ _)) gX4_init_X2_init_n9 rfl rfl (by decide +kernel) (by decide +kernel) (by decide +kernel) ⟨by decide, by decide, by decide +kernel⟩ rfl rfl (Nat.le_of_ble_eq_true rfl) rfl dX4_init_9 ⟨⟨by decide, by decide⟩, by decide, by decide⟩ (fun _ h => h.elim) ?_
  rintro _ w2 ⟨rfl, t, ht0, hg2, ht2, hf2⟩
  have htg : t ≠ a5 := fun e => by rw [e, wU_s] at ht0; cases ht0
  have ht0' : w t = none := by rw [wU_n htg] at ht0; exact ht0
  have hbt := new_ne ht0' hb
  have hb2 := (hf2 b hbg hbt).trans hb1
  have old2 : ∀ y u, w y = some u → w2 y = some u := fun y u hy => (hf2 y (new_ne hx5 hy) (new_ne ht0' hy)).trans (new_at hx5 hy)
  apply gd_putF (ci := 4) (Cn := RX4) (T := TX4) (N := 5) (ref := RX4) C rfl (by decide +kernel) tyX4 tyX4_ok nmX4 0 (by decide) (by decide +kernel) rfl rfl hname rfl dX4_init_12
  · exact hb2
  · rfl
  · rfl
  · exact Nat.le_of_ble_eq_true rfl
  refine gd_aload_n C dX4_init_15 rfl ?_
  refine gd_new (ci := 1) (Cn := RX1) (T := TX1) (N := 2) (fs := [.null, .int 0]) C rfl (by decide +kernel) tyX1 tyX1_ok (by decide +kernel) (by decide +kernel) (by decide +kernel) (fun j hj => by
    match j, hj with
    | 0, _ => rfl
    | 1, _ => rfl) ⟨by decide, by decide⟩ dX4_init_16 ?_
  intro a16 hx16
  generalize hw3 : wU w2 b (oB 4 ([Value.null, .null, .null, .int 0, .int 0].set 0 (.ref a5))) = w3 at hx16
  have hb3 : w3 b = some (oB 4 [.ref a5, .null, .null, .int 0, .int 0]) := by rw [← hw3]; exact wU_s _ _ _
  have keep3 : ∀ y, y ≠ b → w3 y = w2 y := fun y hy => by rw [← hw3]; exact wU_n hy
  have hg3 := (keep3 a5 hbg.symm).trans hg2
  have ht3 := (keep3 t hbt.symm).trans ht2
  refine gd_dup C dX4_init_19 rfl ?_
  refine gd_callIN (n := 0) (host := RX4) C (kX1_init hl (d := a16) (wU_s _ _ _)) gX4_init_X1_init_n18 rfl rfl (by decide +kernel) (by decide +kernel) (by decide +kernel) ⟨by decide, by decide, by decide +kernel⟩ rfl rfl (Nat.le_of_ble_eq_true rfl) rfl dX4_init_20 ⟨⟨by decide, by decide⟩, by decide, by decide⟩ (fun _ h => h.elim) ?_
  rintro _ w4 ⟨rfl, q, nb, fb, hq0, hnb0, hfb0, hD4, hf4⟩
  have old4 : ∀ y u, w3 y = some u → w4 y = some u := fun y u hy => by
    have e1 := new_ne hx16 hy
    have e2 : wU w3 a16 (oB 1 [.null, .int 0]) y = some u := new_at hx16 hy
    exact (hf4 y e1 (new_ne hq0 e2) (new_ne hnb0 e2) (new_ne hfb0 e2)).trans e2
  have hb4 := old4 _ _ hb3
  have hg4 := old4 _ _ hg3
  have ht4 := old4 _ _ ht3
  apply gd_putF (ci := 4) (Cn := RX4) (T := TX4) (N := 5) (ref := RX4) C rfl (by decide +kernel) tyX4 tyX4_ok nmX4 1 (by decide) (by decide +kernel) rfl rfl hname rfl dX4_init_23
  · exact hb4
  · rfl
  · rfl
  · exact Nat.le_of_ble_eq_true rfl
  refine gd_aload_n C dX4_init_26 rfl ?_
  refine gd_bipush C dX4_init_27 (by decide) ?_
  refine gd_newA (N := 16) C (by decide +kernel) hO dX4_init_29 ⟨rfl, by decide⟩ ⟨by decide, by decide⟩ ?_
  intro a29 hx29
  generalize hw5 : wU w4 b (oB 4 ([Value.ref a5, .null, .null, .int 0, .int 0].set 1 (.ref a16))) = w5 at hx29
  have hb5 : w5 b = some (oB 4 [.ref a5, .ref a16, .null, .int 0, .int 0]) := by rw [← hw5]; exact wU_s _ _ _
  have keep5 : ∀ y, y ≠ b → w5 y = w4 y := fun y hy => by rw [← hw5]; exact wU_n hy
  have hb6 := new_at (y := rA (ky 2) 16 (fun _ => none)) hx29 hb5
  apply gd_putF (ci := 4) (Cn := RX4) (T := TX4) (N := 5) (ref := RX4) C rfl (by decide +kernel) tyX4 tyX4_ok nmX4 2 (by decide) (by decide +kernel) rfl rfl hname rfl dX4_init_32
  · exact hb6
  · rfl
  · rfl
  · exact Nat.le_of_ble_eq_true rfl
  refine gd_aload_n C dX4_init_35 rfl ?_
  refine gd_iconst C dX4_init_36 ?_
  apply gd_put (ci := 4) (Cn := RX4) (T := TX4) (N := 5) (ref := RX4) C rfl (by decide +kernel) tyX4 tyX4_ok nmX4 3 (by decide) (by decide +kernel) rfl rfl dX4_init_37
  · exact wU_s _ _ _
  · rfl
  · rfl
  · exact Nat.le_of_ble_eq_true rfl
  refine gd_aload_n C dX4_init_40 rfl ?_
  refine gd_iconst C dX4_init_41 ?_
  apply gd_put (ci := 4) (Cn := RX4) (T := TX4) (N := 5) (ref := RX4) C rfl (by decide +kernel) tyX4 tyX4_ok nmX4 4 (by decide) (by decide +kernel) rfl rfl dX4_init_42
  · exact wU_s _ _ _
  · exact nar_b (Or.inl rfl)
  · exact (nar_t (Or.inr rfl) (fun _ => Or.inl rfl)).2
  · exact Nat.le_of_ble_eq_true rfl
  refine gd_iconst C dX4_init_45 ?_
  refine gd_istore_n C dX4_init_46 (Nat.le_of_ble_eq_true rfl) ?_
  have hba : b ≠ a29 := new_ne hx29 hb5
  generalize hw6 : wU (wU (wU (wU w5 a29 (rA (ky 2) 16 fun _ => none)) b (oB 4 ([Value.ref a5, .ref a16, .null, .int 0, .int 0].set 2 (.ref a29)))) b (oB 4 (([Value.ref a5, .ref a16, .null, .int 0, .int 0].set 2 (.ref a29)).set 3 (.int (iI (-1)))))) b (oB 4 ((([Value.ref a5, .ref a16, .null, .int 0, .int 0].set 2 (.ref a29)).set 3 (.int (iI (-1)))).set 4 (.int (iI 0)))) = w6
  have hb7 : w6 b = some (oB 4 [.ref a5, .ref a16, .ref a29, .int (iI (-1)), .int (iI 0)]) := by rw [← hw6]; exact wU_s _ _ _
  have keep6 : ∀ y, y ≠ b → y ≠ a29 → w6 y = w5 y := fun y h1 h2 => by rw [← hw6, wU_n h1, wU_n h1, wU_n h1, wU_n h2]
  have har6 : w6 a29 = some (rA (ky 2) 16 (fun j => if 0 ≤ j ∧ j < 0 then some ((fun _ => 0 : Int → Nat) j) else none)) := by
    rw [← hw6, wU_n hba.symm, wU_n hba.symm, wU_n hba.symm, wU_s]
    congr 4
    funext j
    rw [if_neg (by omega)]
  have old6 : ∀ y u, w4 y = some u → y ≠ b → w6 y = some u := fun y u hy hyb => by
    have e1 := (keep5 y hyb).trans hy
    exact (keep6 y hyb (new_ne hx29 e1)).trans e1
  have hbw : BW w w6 ky b a5 t a29 a16 q nb fb (fun _ => 0) (fun _ => 0) 0 := by
    refine ⟨hb7, old6 _ _ hg4 hbg.symm, old6 _ _ ht4 hbt.symm, har6, fun j j1 j2 => by omega, fun k j k1 k2 => by omega, ?_, fun y u hy hyb => old6 y u (old4 y u ((keep3 y hyb).trans (old2 y u hy))) hyb, fun y u hy e => ?_⟩
    · obtain ⟨d1, d2, d3⟩ := hD4
      refine ⟨old6 _ _ d1 (kd2 d1 hb4 (by decide)), fun i i1 i2 => ?_, d3⟩
      obtain ⟨e1, e2, e3, e4⟩ := d2 i i1 i2
      exact ⟨old6 _ _ e1 (kd2 e1 hb4 (by decide)), old6 _ _ e2 (kd_ne hb4 e2).symm, old6 _ _ e3 (kd_ne hb4 e3).symm, e4⟩
    · by_cases hyb : y = b
      · exact hba (hyb ▸ e)
      · exact new_ne hx29 ((keep5 y hyb).trans (old4 y u ((keep3 y hyb).trans (old2 y u hy)))) e
  have hbwf : BWF w w6 ky b a5 t a29 a16 q nb fb (fun _ => 0) (fun _ => 0) 0 := by
    refine ⟨hbw, fun y u hy hyb => ?_, fun y u hy hyb j j1 j2 => by omega⟩
    have e3 : w3 y = some u := (keep3 y hyb).trans (old2 y u hy)
    have e4 : wU w3 a16 (oB 1 [.null, .int 0]) y = some u := new_at hx16 e3
    exact ⟨new_ne hx5 hy, new_ne ht0' hy, new_ne hx16 e3, new_ne hq0 e4, new_ne hnb0 e4, new_ne hfb0 e4⟩
  clear hw3 hw5 hw6
  suffices hloop : ∀ (k i : Nat) (w1 : WT) (ac ab : Int → Nat), i + k = 16 → BWF w w1 ky b a5 t a29 a16 q nb fb ac ab i → Gd p l e ({ frames := 3, cells := 39, slots := 1363, locals := 62 }) s m args below meth c D z Q (7 + 2 * i) (163 + 75 * i) w1 47 [some (.ref b), some (.int (iI ((i : Nat) : Int)))] [] from
    hloop 16 0 w6 _ _ rfl hbwf
  intro k
  induction k with
  | zero =>
    intro i w1 ac ab hk hB
    obtain rfl : i = 16 := hk
    refine gd_iload_n C dX4_init_47 rfl ?_
    refine gd_bipush C dX4_init_48 (by decide) ?_
    refine gd_icmp_ge (tgt := 73) C dX4_init_50 (by decide) ?_ ?_ (fun hc50 => ?_) (fun hc50 => ?_)
    · omega
    · omega
    · refine gd_vret C hQ hret dX4_init_73 ?_ ?_
      · refine ⟨rfl, a5, t, a29, a16, q, nb, fb, ac, ab, hB.1.x, hB.1.2.2.2.2.2.2.1, hB.1.2.2.2.2.2.2.2.1, fun y u hy hyb => ?_⟩
        have e1 := hB.2.1 y u hy hyb
        have e2 := hB.1.2.2.2.2.2.2.2.2 y u hy
        exact OWN.mk ⟨hyb, e1.1, e1.2.1, e2, e1.2.2.1, hB.2.2 y u hy hyb, fun i _ _ => ⟨e1.2.2.2.1, e1.2.2.2.2.1, e1.2.2.2.2.2⟩⟩
      · decide
    · exfalso; omega
  | succ k ih =>
    intro i w1 ac ab hk hB
    obtain ⟨hb8, hg8, ht8, har8, hj8, hd8, hD8, hF8, hz8⟩ := id hB.1
    refine gd_iload_n C dX4_init_47 rfl ?_
    refine gd_bipush C dX4_init_48 (by decide) ?_
    refine gd_icmp_ge (tgt := 73) C dX4_init_50 (by decide) ?_ ?_ (fun hc50 => ?_) (fun hc50 => ?_)
    · omega
    · omega
    · exfalso; omega
    · refine gd_aload_n C dX4_init_53 rfl ?_
      apply gd_get (ci := 4) (Cn := RX4) (T := TX4) (N := 5) (ref := RX4) C rfl (by decide +kernel) 2 (by decide) (by decide +kernel) rfl dX4_init_54
      · exact hb8
      · rfl
      refine gd_iload_n C dX4_init_57 rfl ?_
      refine gd_new (ci := 0) (Cn := RX0) (T := TX0) (N := 11) (fs := [.int 0, .null, .int 0, .int 0, .int 0, .int 0, .int 0, .int 0, .int 0, .int 0, .int 0]) C rfl (by decide +kernel) tyX0 tyX0_ok (by decide +kernel) (by decide +kernel) (by decide +kernel) (fun j hj => by
        match j, hj with
        | 0, _ => rfl
        | 1, _ => rfl
        | 2, _ => rfl
        | 3, _ => rfl
        | 4, _ => rfl
        | 5, _ => rfl
        | 6, _ => rfl
        | 7, _ => rfl
        | 8, _ => rfl
        | 9, _ => rfl
        | 10, _ => rfl) ⟨(by show 7 + 2 * i + 1 ≤ 39; omega), (by show 163 + 75 * i + 11 ≤ 1363; omega)⟩ dX4_init_58 ?_
      intro a58 hx58
      refine gd_dup C dX4_init_61 rfl ?_
      refine gd_iload_n C dX4_init_62 rfl ?_
      refine gd_callIN (n := 1) (host := RX4) C (kX0_init hl (h := a58) (x := (i : Int)) (wU_s _ _ _)) gX4_init_X0_init_n37 rfl rfl (by decide +kernel) (by decide +kernel) (by decide +kernel) ⟨by decide, by decide, by decide +kernel⟩ rfl rfl (Nat.le_of_ble_eq_true rfl) rfl dX4_init_63 ⟨⟨by decide, by decide⟩, (by show 7 + 2 * i + 1 + 1 ≤ 39; omega), (by show 163 + 75 * i + 11 + 64 ≤ 1363; omega)⟩ (fun _ h => h.elim) ?_
      rintro _ w2 ⟨rfl, a2, ha2, c1, c2, c3⟩
      have hna : a2 ≠ a58 := fun e => by rw [e, wU_s] at ha2; cases ha2
      have ha2' : w1 a2 = none := by rw [wU_n hna] at ha2; exact ha2
      have har9 : w2 a29 = some (rA (ky 2) 16 (fun j => if 0 ≤ j ∧ j < (i : Int) then some (ac j) else none)) := (c3 a29 (new_ne hx58 har8) (new_ne ha2' har8)).trans (new_at hx58 har8)
      have hB2 := hB.s (by omega) hx58 ha2 c1 c2 c3
      apply gd_aast C dX4_init_66 har9 c2 (by decide)
      · omega
      refine gd_iinc C dX4_init_67 rfl ?_
      refine gd_goto (tgt := 47) C dX4_init_70 (by decide) ?_
      refine Gd.widen (k := 7 + 2 * (i + 1)) (n := 163 + 75 * (i + 1)) (by show 7 + 2 * i + 1 + 1 ≤ _; omega) (by show 163 + 75 * i + 11 + 64 ≤ _; omega) ?_
      exact ih (i + 1) _ _ _ (by omega) hB2
