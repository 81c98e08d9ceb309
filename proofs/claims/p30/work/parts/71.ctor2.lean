set_option maxRecDepth 100000 in
set_option maxHeartbeats 4000000 in
theorem kX4_init {l : Launch} {D : va_G} {ky : Nat → ClassId} {z : Nat} {w : WT} (hl : l.stackTraces = false) {b : Nat} (hb : w b = some (oB 4 [.null, .null, .null, .int 0, .int 0])) : MtA l D ky z yX4_init wsX4_init { frames := 3, cells := 39, slots := 1363, locals := 62 } [.ref b] w (fun r w' => r = none ∧ ∃ (g t ar d q nb fb : Nat) (ac ab : Int → Nat), CW w' ky b g t ar d ac ab (fun _ => 0) v0 B0 (-1) 0 ∧ DW w' ky d (fun _ => q) (fun _ => nb) (fun _ => fb) 1 (fun _ => 0) (fun _ => 0) (fun _ => 0) (fun _ _ => 0) (fun _ _ => 0) ∧ ∀ y u, w y = some u → y ≠ b → w' y = some u) := by
  refine MtA.of (cc := cX4_init) (ret := none) (maxL := 2) (by decide) rfl (by intro v hv; simp at hv; rcases hv with rfl <;> rfl) (Nat.le_of_ble_eq_true rfl) ?_ hl
  intro p e s m args below meth c C hO htab hret hname Q hQ
  refine gd_aload_n C dX4_init_0 rfl ?_
  refine gd_objInit C (by decide +kernel) (by decide +kernel) (by decide +kernel) rfl dX4_init_1 ⟨by decide, Nat.le_of_ble_eq_true rfl⟩ ?_
  refine gd_aload_n C dX4_init_4 rfl ?_
  refine gd_new (ci := 2) (Cn := RX2) (T := TX2) (N := 2) (fs := [.null, .int 0]) C rfl (by decide +kernel) tyX2 tyX2_ok (by decide +kernel) (by decide +kernel) (by decide +kernel) (fun j hj => by
    match j, hj with
    | 0, _ => rfl
    | 1, _ => rfl) ⟨by decide, by decide⟩ dX4_init_5 ?_
  intro a5 hx5
  have hbg := new_ne hx5 hb
  have hb1 := new_at (y := oB 2 [.null, .int 0]) hx5 hb
  refine gd_dup C dX4_init_8 rfl ?_
  refine gd_callIN (n := 0) (host := RX4) C (kX2_init hl (g := a5) (wU_s _ _ _)) gX4_init_X2_init_n9 rfl rfl (by decide +kernel) (by decide +kernel) (by decide +kernel) ⟨by decide, by decide, by decide +kernel⟩ rfl rfl (Nat.le_of_ble_eq_true rfl) rfl dX4_init_9 ⟨⟨by decide, by decide⟩, by decide, by decide⟩ (fun _ h => h.elim) ?_
  rintro _ w2 ⟨rfl, t, ht0, hg2, ht2, hf2⟩
  have htg : t ≠ a5 := fun e => by rw [e, wU_s] at ht0; cases ht0
  have ht0' : w t = none := by rw [wU_n htg] at ht0; exact ht0
  have hbt := new_ne ht0' hb
  have hb2 := (hf2 b hbg hbt).trans hb1
  have old2 : ∀ y u, w y = some u → w2 y = some u := fun y u hy => (hf2 y (new_ne hx5 hy) (new_ne ht0' hy)).trans (new_at hx5 hy)
  apply gd_putF (ci := 4) (Cn := RX4) (T := TX4) (N := 5) (ref := RX4) C rfl (by decide +kernel) tyX4 tyX4_ok nmX4 0 (by decide) (by decide +kernel) rfl rfl hname rfl dX4_init_12
  · exact hb2
  · rfl
  · rfl
  · exact Nat.le_of_ble_eq_true rfl
  refine gd_aload_n C dX4_init_15 rfl ?_
  refine gd_new (ci := 1) (Cn := RX1) (T := TX1) (N := 2) (fs := [.null, .int 0]) C rfl (by decide +kernel) tyX1 tyX1_ok (by decide +kernel) (by decide +kernel) (by decide +kernel) (fun j hj => by
    match j, hj with
    | 0, _ => rfl
    | 1, _ => rfl) ⟨by decide, by decide⟩ dX4_init_16 ?_
  intro a16 hx16
  generalize hw3 : wU w2 b (oB 4 ([Value.null, .null, .null, .int 0, .int 0].set 0 (.ref a5))) = w3 at hx16
  have hb3 : w3 b = some (oB 4 [.ref a5, .null, .null, .int 0, .int 0]) := by rw [← hw3]; exact wU_s _ _ _
  have keep3 : ∀ y, y ≠ b → w3 y = w2 y := fun y hy => by rw [← hw3]; exact wU_n hy
  have hg3 := (keep3 a5 hbg.symm).trans hg2
  have ht3 := (keep3 t hbt.symm).trans ht2
  refine gd_dup C dX4_init_19 rfl ?_
  refine gd_callIN (n := 0) (host := RX4) C (kX1_init hl (d := a16) (wU_s _ _ _)) gX4_init_X1_init_n18 rfl rfl (by decide +kernel) (by decide +kernel) (by decide +kernel) ⟨by decide, by decide, by decide +kernel⟩ rfl rfl (Nat.le_of_ble_eq_true rfl) rfl dX4_init_20 ⟨⟨by decide, by decide⟩, by decide, by decide⟩ (fun _ h => h.elim) ?_
  rintro _ w4 ⟨rfl, q, nb, fb, hq0, hnb0, hfb0, hD4, hf4⟩
  have old4 : ∀ y u, w3 y = some u → w4 y = some u := fun y u hy => by
    have e1 := new_ne hx16 hy
    have e2 : wU w3 a16 (oB 1 [.null, .int 0]) y = some u := new_at hx16 hy
    exact (hf4 y e1 (new_ne hq0 e2) (new_ne hnb0 e2) (new_ne hfb0 e2)).trans e2
  have hb4 := old4 _ _ hb3
  have hg4 := old4 _ _ hg3
  have ht4 := old4 _ _ ht3
  apply gd_putF (ci := 4) (Cn := RX4) (T := TX4) (N := 5) (ref := RX4) C rfl (by decide +kernel) tyX4 tyX4_ok nmX4 1 (by decide) (by decide +kernel) rfl rfl hname rfl dX4_init_23
  · exact hb4
  · rfl
  · rfl
  · exact Nat.le_of_ble_eq_true rfl
  refine gd_aload_n C dX4_init_26 rfl ?_
  refine gd_bipush C dX4_init_27 (by decide) ?_
  refine gd_newA (N := 16) C (by decide +kernel) hO dX4_init_29 ⟨rfl, by decide⟩ ⟨by decide, by decide⟩ ?_
  intro a29 hx29
  generalize hw5 : wU w4 b (oB 4 ([Value.ref a5, .null, .null, .int 0, .int 0].set 1 (.ref a16))) = w5 at hx29
  have hb5 : w5 b = some (oB 4 [.ref a5, .ref a16, .null, .int 0, .int 0]) := by rw [← hw5]; exact wU_s _ _ _
  have keep5 : ∀ y, y ≠ b → w5 y = w4 y := fun y hy => by rw [← hw5]; exact wU_n hy
  have hb6 := new_at (y := rA (ky 2) 16 (fun _ => none)) hx29 hb5
  apply gd_putF (ci := 4) (Cn := RX4) (T := TX4) (N := 5) (ref := RX4) C rfl (by decide +kernel) tyX4 tyX4_ok nmX4 2 (by decide) (by decide +kernel) rfl rfl hname rfl dX4_init_32
  · exact hb6
  · rfl
  · rfl
  · exact Nat.le_of_ble_eq_true rfl
  refine gd_aload_n C dX4_init_35 rfl ?_
  refine gd_iconst C dX4_init_36 ?_
  apply gd_put (ci := 4) (Cn := RX4) (T := TX4) (N := 5) (ref := RX4) C rfl (by decide +kernel) tyX4 tyX4_ok nmX4 3 (by decide) (by decide +kernel) rfl rfl dX4_init_37
  · exact wU_s _ _ _
  · rfl
  · rfl
  · exact Nat.le_of_ble_eq_true rfl
  refine gd_aload_n C dX4_init_40 rfl ?_
  refine gd_iconst C dX4_init_41 ?_
  apply gd_put (ci := 4) (Cn := RX4) (T := TX4) (N := 5) (ref := RX4) C rfl (by decide +kernel) tyX4 tyX4_ok nmX4 4 (by decide) (by decide +kernel) rfl rfl dX4_init_42
  · exact wU_s _ _ _
  · exact nar_b (Or.inl rfl)
  · exact (nar_t (Or.inr rfl) (fun _ => Or.inl rfl)).2
  · exact Nat.le_of_ble_eq_true rfl
  refine gd_iconst C dX4_init_45 ?_
  refine gd_istore_n C dX4_init_46 (Nat.le_of_ble_eq_true rfl) ?_
  have hba : b ≠ a29 := new_ne hx29 hb5
  generalize hw6 : wU (wU (wU (wU w5 a29 (rA (ky 2) 16 fun _ => none)) b (oB 4 ([Value.ref a5, .ref a16, .null, .int 0, .int 0].set 2 (.ref a29)))) b (oB 4 (([Value.ref a5, .ref a16, .null, .int 0, .int 0].set 2 (.ref a29)).set 3 (.int (iI (-1)))))) b (oB 4 ((([Value.ref a5, .ref a16, .null, .int 0, .int 0].set 2 (.ref a29)).set 3 (.int (iI (-1)))).set 4 (.int (iI 0)))) = w6
  have hb7 : w6 b = some (oB 4 [.ref a5, .ref a16, .ref a29, .int (iI (-1)), .int (iI 0)]) := by rw [← hw6]; exact wU_s _ _ _
  have keep6 : ∀ y, y ≠ b → y ≠ a29 → w6 y = w5 y := fun y h1 h2 => by rw [← hw6, wU_n h1, wU_n h1, wU_n h1, wU_n h2]
  have har6 : w6 a29 = some (rA (ky 2) 16 (fun j => if 0 ≤ j ∧ j < 0 then some ((fun _ => 0 : Int → Nat) j) else none)) := by
    rw [← hw6, wU_n hba.symm, wU_n hba.symm, wU_n hba.symm, wU_s]
    congr 4
    funext j
    rw [if_neg (by omega)]
  have old6 : ∀ y u, w4 y = some u → y ≠ b → w6 y = some u := fun y u hy hyb => by
    have e1 := (keep5 y hyb).trans hy
    exact (keep6 y hyb (new_ne hx29 e1)).trans e1
  have hbw : BW w w6 ky b a5 t a29 a16 q nb fb (fun _ => 0) (fun _ => 0) 0 := by
    refine ⟨hb7, old6 _ _ hg4 hbg.symm, old6 _ _ ht4 hbt.symm, har6, fun j j1 j2 => by omega, fun k j k1 k2 => by omega, ?_, fun y u hy hyb => old6 y u (old4 y u ((keep3 y hyb).trans (old2 y u hy))) hyb, fun y u hy e => ?_⟩
    · obtain ⟨d1, d2, d3⟩ := hD4
      refine ⟨old6 _ _ d1 (kd2 d1 hb4 (by decide)), fun i i1 i2 => ?_, d3⟩
      obtain ⟨e1, e2, e3, e4⟩ := d2 i i1 i2
      exact ⟨old6 _ _ e1 (kd2 e1 hb4 (by decide)), old6 _ _ e2 (kd_ne hb4 e2).symm, old6 _ _ e3 (kd_ne hb4 e3).symm, e4⟩
    · by_cases hyb : y = b
      · exact hba (hyb ▸ e)
      · exact new_ne hx29 ((keep5 y hyb).trans (old4 y u ((keep3 y hyb).trans (old2 y u hy)))) e
  clear hw3 hw5 hw6
  suffices hloop : ∀ (k i : Nat) (w1 : WT) (ac ab : Int → Nat), i + k = 16 → BW w w1 ky b a5 t a29 a16 q nb fb ac ab i → Gd p l e ({ frames := 3, cells := 39, slots := 1363, locals := 62 }) s m args below meth c D z Q (7 + 2 * i) (163 + 75 * i) w1 47 [some (.ref b), some (.int (iI ((i : Nat) : Int)))] [] from
    hloop 16 0 w6 _ _ rfl hbw
  intro k
  induction k with
  | zero =>
    intro i w1 ac ab hk hB
    obtain rfl : i = 16 := hk
    refine gd_iload_n C dX4_init_47 rfl ?_
    refine gd_bipush C dX4_init_48 (by decide) ?_
    refine gd_icmp_ge (tgt := 73) C dX4_init_50 (by decide) ?_ ?_ (fun hc50 => ?_) (fun hc50 => ?_)
    · omega
    · omega
    · refine gd_vret C hQ hret dX4_init_73 ?_ ?_
      · exact ⟨rfl, a5, t, a29, a16, q, nb, fb, ac, ab, hB.x, hB.2.2.2.2.2.2.1, hB.2.2.2.2.2.2.2.1⟩
      · decide
    · exfalso; omega
  | succ k ih =>
    intro i w1 ac ab hk hB
    obtain ⟨hb8, hg8, ht8, har8, hj8, hd8, hD8, hF8, hz8⟩ := id hB
    refine gd_iload_n C dX4_init_47 rfl ?_
    refine gd_bipush C dX4_init_48 (by decide) ?_
    refine gd_icmp_ge (tgt := 73) C dX4_init_50 (by decide) ?_ ?_ (fun hc50 => ?_) (fun hc50 => ?_)
    · omega
    · omega
    · exfalso; omega
    · refine gd_aload_n C dX4_init_53 rfl ?_
      apply gd_get (ci := 4) (Cn := RX4) (T := TX4) (N := 5) (ref := RX4) C rfl (by decide +kernel) 2 (by decide) (by decide +kernel) rfl dX4_init_54
      · exact hb8
      · rfl
      refine gd_iload_n C dX4_init_57 rfl ?_
      refine gd_new (ci := 0) (Cn := RX0) (T := TX0) (N := 11) (fs := [.int 0, .null, .int 0, .int 0, .int 0, .int 0, .int 0, .int 0, .int 0, .int 0, .int 0]) C rfl (by decide +kernel) tyX0 tyX0_ok (by decide +kernel) (by decide +kernel) (by decide +kernel) (fun j hj => by
        match j, hj with
        | 0, _ => rfl
        | 1, _ => rfl
        | 2, _ => rfl
        | 3, _ => rfl
        | 4, _ => rfl
        | 5, _ => rfl
        | 6, _ => rfl
        | 7, _ => rfl
        | 8, _ => rfl
        | 9, _ => rfl
        | 10, _ => rfl) ⟨(by show 7 + 2 * i + 1 ≤ 39; omega), (by show 163 + 75 * i + 11 ≤ 1363; omega)⟩ dX4_init_58 ?_
      intro a58 hx58
      refine gd_dup C dX4_init_61 rfl ?_
      refine gd_iload_n C dX4_init_62 rfl ?_
      refine gd_callIN (n := 1) (host := RX4) C (kX0_init hl (h := a58) (x := (i : Int)) (wU_s _ _ _)) gX4_init_X0_init_n37 rfl rfl (by decide +kernel) (by decide +kernel) (by decide +kernel) ⟨by decide, by decide, by decide +kernel⟩ rfl rfl (Nat.le_of_ble_eq_true rfl) rfl dX4_init_63 ⟨⟨by decide, by decide⟩, (by show 7 + 2 * i + 1 + 1 ≤ 39; omega), (by show 163 + 75 * i + 11 + 64 ≤ 1363; omega)⟩ (fun _ h => h.elim) ?_
      rintro _ w2 ⟨rfl, a2, ha2, c1, c2, c3⟩
      have hna : a2 ≠ a58 := fun e => by rw [e, wU_s] at ha2; cases ha2
      have ha2' : w1 a2 = none := by rw [wU_n hna] at ha2; exact ha2
      have har9 : w2 a29 = some (rA (ky 2) 16 (fun j => if 0 ≤ j ∧ j < (i : Int) then some (ac j) else none)) := (c3 a29 (new_ne hx58 har8) (new_ne ha2' har8)).trans (new_at hx58 har8)
      have hB2 := hB.s (by omega) hx58 ha2 c1 c2 c3
      apply gd_aast C dX4_init_66 har9 c2 (by decide)
      · omega
      refine gd_iinc C dX4_init_67 rfl ?_
      refine gd_goto (tgt := 47) C dX4_init_70 (by decide) ?_
      refine Gd.widen (k := 7 + 2 * (i + 1)) (n := 163 + 75 * (i + 1)) (by show 7 + 2 * i + 1 + 1 ≤ _; omega) (by show 163 + 75 * i + 11 + 64 ≤ _; omega) ?_
      exact ih (i + 1) _ _ _ (by omega) hB2
