set_option maxRecDepth 100000 in
set_option maxHeartbeats 4000000 in
theorem kJ7_fill {l : Launch} {D : va_G} {ky : Nat → ClassId} {z : Nat} {w : WT} (hl : l.stackTraces = false) {a N : Nat} {f : Int → Int} {x : Int} (ha : w a = some (iA (ky 0) N f)) (hN : N ≤ 100000) : Mt l D ky z yJ7_fill_53178 wsJ7_fill_53178 { frames := 0, cells := 0, slots := 0, locals := 0 } [.ref a, .int (iI x)] w (fun r w' => r = none ∧ w' a = some (iA (ky 0) N (tkF f 0 N x)) ∧ ∀ y, y ≠ a → w' y = w y) (fun _ => False) := by
  refine Mt.of (cc := cJ7_fill_53178) (ret := none) (maxL := 4) (by decide) rfl (by intro v hv; simp at hv; rcases hv with rfl | rfl <;> rfl) (Nat.le_of_ble_eq_true rfl) ?_ hl
  intro p e s m args below meth c C htab hret hname Q hQ
  refine gd_iconst C dJ7_fill_53178_0 ?_
  refine gd_istore_n C dJ7_fill_53178_1 (Nat.le_of_ble_eq_true rfl) ?_
  refine gd_aload_n C dJ7_fill_53178_2 rfl ?_
  apply gd_alen (k := 0) C (Or.inl rfl) dJ7_fill_53178_3
  · exact ha
  refine gd_istore_n C dJ7_fill_53178_4 (Nat.le_of_ble_eq_true rfl) ?_
  suffices hloop : ∀ (n : Nat) (i : Int) (w1 : WT), 0 ≤ i → i ≤ N → ((N : Int) - i).toNat = n → w1 a = some (iA (ky 0) N (tkF f 0 i x)) → (∀ y, y ≠ a → w1 y = w y) → Gd p l e ({ frames := 0, cells := 0, slots := 0, locals := 0 }) s m args below meth c D z Q 0 0 w1 5 [some (.ref a), some (.int (iI x)), some (.int (iI i)), some (.int (iI (N : Int)))] [] from
    hloop _ 0 w (by omega) (by omega) rfl (by rw [tkF_0]; exact ha) (fun _ _ => rfl)
  intro n
  induction n using Nat.strongRecOn with
  | _ n ih =>
  intro i w1 h1i h2i hn ha1 hfr
  refine gd_iload_n C dJ7_fill_53178_5 rfl ?_
  refine gd_iload_n C dJ7_fill_53178_6 rfl ?_
  refine gd_icmp_ge (tgt := 20) C dJ7_fill_53178_7 (by decide) ?_ ?_ (fun hc => ?_) (fun hc => ?_)
  · omega
  · omega
  · refine gd_vret C hQ hret dJ7_fill_53178_20 ?_ ?_
    · have e1 : i = N := by omega
      subst e1
      exact ⟨rfl, ha1, hfr⟩
    · decide
  · refine gd_aload_n C dJ7_fill_53178_10 rfl ?_
    refine gd_iload_n C dJ7_fill_53178_11 rfl ?_
    refine gd_iload_n C dJ7_fill_53178_12 rfl ?_
    apply gd_iast C dJ7_fill_53178_13
    · exact ha1
    · omega
    · omega
    refine gd_iinc C dJ7_fill_53178_14 rfl ?_
    refine gd_goto (tgt := 5) C dJ7_fill_53178_17 (by decide) ?_
    exact ih _ (by omega) (i + 1) _ (by omega) (by omega) rfl (by rw [tkF_s h1i, Int.zero_add]; exact wU_s _ _ _) (fun y h => (wU_n h).trans (hfr y h))

set_option maxRecDepth 100000 in
set_option maxHeartbeats 4000000 in
theorem kX2_init {l : Launch} {D : va_G} {ky : Nat → ClassId} {z : Nat} {w : WT} (hl : l.stackTraces = false) {g : Nat} (hg : w g = some (oB 2 [.null, .int 0])) : Mt l D ky z yX2_init wsX2_init { frames := 1, cells := 1, slots := 128, locals := 20 } [.ref g] w (fun r w' => r = none ∧ ∃ t : Nat, w t = none ∧ w' g = some (cG t 128) ∧ w' t = some (iA (ky 1) 128 (fun _ => 0)) ∧ ∀ y, y ≠ g → y ≠ t → w' y = w y) (fun _ => False) := by
  refine Mt.of (cc := cX2_init) (ret := none) (maxL := 1) (by decide) rfl (by intro v hv; simp at hv; rcases hv with rfl <;> rfl) (Nat.le_of_ble_eq_true rfl) ?_ hl
  intro p e s m args below meth c C htab hret hname Q hQ
  refine gd_aload_n C dX2_init_0 rfl ?_
  refine gd_objInit C (by decide +kernel) (by decide +kernel) (by decide +kernel) rfl dX2_init_1 ⟨by decide, Nat.le_of_ble_eq_true rfl⟩ ?_
  refine gd_aload_n C dX2_init_4 rfl ?_
  refine gd_sipush C dX2_init_5 (by decide) ?_
  refine gd_newZ (N := 128) C (by decide +kernel) dX2_init_8 ⟨rfl, by decide⟩ ⟨by decide, by decide⟩ ?_
  intro a8 hx8
  have hg1 := new_at (y := iA (ky 1) 128 (fun _ => 0)) hx8 hg
  have hne := new_ne hx8 hg
  apply gd_putF (ci := 2) (Cn := RX2) (T := TX2) (N := 2) (ref := RX2) C rfl (by decide +kernel) tyX2 tyX2_ok nmX2 0 (by decide) (by decide +kernel) rfl rfl hname rfl dX2_init_10
  · first | assumption | exact wU_s _ _ _ | exact look1 (by assumption) (by assumption) | exact look2 (by assumption) (by assumption)
  · rfl
  · rfl
  · exact Nat.le_of_ble_eq_true rfl
  refine gd_aload_n C dX2_init_13 rfl ?_
  refine gd_sipush C dX2_init_14 (by decide) ?_
  apply gd_put (ci := 2) (Cn := RX2) (T := TX2) (N := 2) (ref := RX2) C rfl (by decide +kernel) tyX2 tyX2_ok nmX2 1 (by decide) (by decide +kernel) rfl rfl dX2_init_17
  · exact wU_s _ _ _
  · rfl
  · rfl
  · exact Nat.le_of_ble_eq_true rfl
  refine gd_vret C hQ hret dX2_init_20 ?_ ?_
  · refine ⟨rfl, a8, hx8, wU_s _ _ _, ?_, fun y h1 h2 => ?_⟩
    · rw [wU_n hne.symm, wU_n hne.symm]; exact wU_s _ _ _
    · rw [wU_n h1, wU_n h1, wU_n h2]
  · decide

set_option maxRecDepth 100000 in
set_option maxHeartbeats 4000000 in
theorem kX1_init {l : Launch} {D : va_G} {ky : Nat → ClassId} {z : Nat} {w : WT} (hl : l.stackTraces = false) {d : Nat} (hd : w d = some (oB 1 [.null, .int 0])) : Mt l D ky z yX1_init wsX1_init { frames := 2, cells := 3, slots := 15, locals := 42 } [.ref d] w (fun r w' => r = none ∧ ∃ q nb fb : Nat, w q = none ∧ w nb = none ∧ w fb = none ∧ DW w' ky d (fun _ => q) (fun _ => nb) (fun _ => fb) 1 (fun _ => 0) (fun _ => 0) (fun _ => 0) (fun _ _ => 0) (fun _ _ => 0) ∧ ∀ y, y ≠ d → y ≠ q → y ≠ nb → y ≠ fb → w' y = w y) (fun _ => False) := by
  refine Mt.of (cc := cX1_init) (ret := none) (maxL := 1) (by decide) rfl (by intro v hv; simp at hv; rcases hv with rfl <;> rfl) (Nat.le_of_ble_eq_true rfl) ?_ hl
  intro p e s m args below meth c C htab hret hname Q hQ
  refine gd_aload_n C dX1_init_0 rfl ?_
  refine gd_objInit C (by decide +kernel) (by decide +kernel) (by decide +kernel) rfl dX1_init_1 ⟨by decide, Nat.le_of_ble_eq_true rfl⟩ ?_
  refine gd_aload_n C dX1_init_4 rfl ?_
  refine gd_new (ci := 3) (Cn := RX3) (T := TX3) (N := 7) (fs := [.int 0, .int 0, .null, .null, .int 0, .null, .null]) C rfl (by decide +kernel) tyX3 tyX3_ok (by decide +kernel) (by decide +kernel) (by decide +kernel) (fun j hj => by
    match j, hj with
    | 0, _ => rfl
    | 1, _ => rfl
    | 2, _ => rfl
    | 3, _ => rfl
    | 4, _ => rfl
    | 5, _ => rfl
    | 6, _ => rfl) ⟨by decide, by decide⟩ dX1_init_5 ?_
  intro a5 hx5
  have hW5 := wU_s w a5 (oB 3 [.int 0, .int 0, .null, .null, .int 0, .null, .null])
  have hd5 := new_at (y := oB 3 [.int 0, .int 0, .null, .null, .int 0, .null, .null]) hx5 hd
  have hne := new_ne hx5 hd
  refine gd_dup C dX1_init_8 rfl ?_
  refine gd_iconst C dX1_init_9 ?_
  refine gd_iconst C dX1_init_10 ?_
  refine gd_callIN (n := 2) (host := RX4) C (kX3_init hl (h := a5) (x := 0) (y := 0) hW5 (Or.inl rfl)) gX1_init_X3_init_n11 rfl rfl (by decide +kernel) (by decide +kernel) (by decide +kernel) ⟨by decide, by decide, by decide +kernel⟩ rfl rfl (Nat.le_of_ble_eq_true rfl) rfl dX1_init_11 ⟨⟨by decide, by decide⟩, by decide, by decide⟩ (fun _ h => h.elim) ?_
  rintro _ w1 ⟨rfl, nb, fb, hnb, hfb, hnf, c1, c2, c3, c4⟩
  have hdn := new_ne hnb hd5
  have hdf := new_ne hfb hd5
  have hgn := new_ne hnb hW5
  have hgf := new_ne hfb hW5
  have hd6 := (c4 d hdn hdf hne).trans hd5
  apply gd_putF (ci := 1) (Cn := RX1) (T := TX1) (N := 2) (ref := RX1) C rfl (by decide +kernel) tyX1 tyX1_ok nmX1 0 (by decide) (by decide +kernel) rfl rfl hname rfl dX1_init_14
  · exact hd6
  · rfl
  · rfl
  · exact Nat.le_of_ble_eq_true rfl
  refine gd_aload_n C dX1_init_17 rfl ?_
  refine gd_iconst C dX1_init_18 ?_
  apply gd_put (ci := 1) (Cn := RX1) (T := TX1) (N := 2) (ref := RX1) C rfl (by decide +kernel) tyX1 tyX1_ok nmX1 1 (by decide) (by decide +kernel) rfl rfl dX1_init_19
  · exact wU_s _ _ _
  · rfl
  · rfl
  · exact Nat.le_of_ble_eq_true rfl
  refine gd_vret C hQ hret dX1_init_22 ?_ ?_
  · have hnb0 : w nb = none := by rw [← hnb]; exact (wU_n hgn.symm).symm
    have hfb0 : w fb = none := by rw [← hfb]; exact (wU_n hgf.symm).symm
    refine ⟨rfl, a5, nb, fb, hx5, hnb0, hfb0, ⟨wU_s _ _ _, fun i i1 i2 => ?_, fun i k i1 i2 k1 k2 h => by omega⟩, fun y h1 h2 h3 h4 => ?_⟩
    · obtain rfl : i = 0 := by omega
      refine ⟨?_, ?_, ?_, hnf⟩
      · rw [wU_n hne.symm, wU_n hne.symm]; exact c3
      · rw [wU_n hdn.symm, wU_n hdn.symm]; exact c1
      · rw [wU_n hdf.symm, wU_n hdf.symm]; exact c2
    · rw [wU_n h1, wU_n h1, c4 y h3 h4 h2, wU_n h2]
  · decide

set_option maxRecDepth 100000 in
set_option maxHeartbeats 4000000 in
theorem kX0_init {l : Launch} {D : va_G} {ky : Nat → ClassId} {z : Nat} {w : WT} (hl : l.stackTraces = false) {h : Nat} {x : Int} (hh : w h = some (oB 0 [.int 0, .null, .int 0, .int 0, .int 0, .int 0, .int 0, .int 0, .int 0, .int 0, .int 0])) : Mt l D ky z yX0_init wsX0_init { frames := 1, cells := 1, slots := 64, locals := 23 } [.ref h, .int (iI x)] w (fun r w' => r = none ∧ ∃ a : Nat, w a = none ∧ w' a = some (iA (ky 0) 64 (tkF (fun _ => 0) 0 64 (-1))) ∧ w' h = some (cC a (fU (fun _ => 0) 0 x)) ∧ ∀ y, y ≠ h → y ≠ a → w' y = w y) (fun _ => False) := by
  refine Mt.of (cc := cX0_init) (ret := none) (maxL := 2) (by decide) rfl (by intro v hv; simp at hv; rcases hv with rfl | rfl <;> rfl) (Nat.le_of_ble_eq_true rfl) ?_ hl
  intro p e s m args below meth c C htab hret hname Q hQ
  refine gd_aload_n C dX0_init_0 rfl ?_
  refine gd_objInit C (by decide +kernel) (by decide +kernel) (by decide +kernel) rfl dX0_init_1 ⟨by decide, Nat.le_of_ble_eq_true rfl⟩ ?_
  refine gd_aload_n C dX0_init_4 rfl ?_
  refine gd_bipush C dX0_init_5 (by decide) ?_
  refine gd_newI (N := 64) C (by decide +kernel) dX0_init_7 ⟨rfl, by decide⟩ ⟨by decide, by decide⟩ ?_
  intro a7 hx7
  have hh1 := new_at (y := iA (ky 0) 64 (fun _ => 0)) hx7 hh
  have hne := new_ne hx7 hh
  apply gd_putF (ci := 0) (Cn := RX0) (T := TX0) (N := 11) (ref := RX0) C rfl (by decide +kernel) tyX0 tyX0_ok nmX0 1 (by decide) (by decide +kernel) rfl rfl hname rfl dX0_init_9
  · first | assumption | exact wU_s _ _ _ | exact look1 (by assumption) (by assumption) | exact look2 (by assumption) (by assumption)
  · rfl
  · rfl
  · exact Nat.le_of_ble_eq_true rfl
  have hc0 : wU (wU w a7 (iA (ky 0) 64 (fun _ => 0))) h (oB 0 [.int 0, .ref a7, .int 0, .int 0, .int 0, .int 0, .int 0, .int 0, .int 0, .int 0, .int 0]) h = some (cC a7 (fun _ => 0)) := wU_s _ _ _
  refine gd_aload_n C dX0_init_12 rfl ?_
  refine gd_iconst C dX0_init_13 ?_
  apply gd_putC C (by decide +kernel) 2 2 rfl (by decide) (by decide) (by decide +kernel) rfl dX0_init_14
  · exact hc0
  · exact fun _ => Or.inl rfl
  refine gd_aload_n C dX0_init_17 rfl ?_
  refine gd_iconst C dX0_init_18 ?_
  apply gd_putC C (by decide +kernel) 3 3 rfl (by decide) (by decide) (by decide +kernel) rfl dX0_init_19
  · first | assumption | exact wU_s _ _ _ | exact look1 (by assumption) (by assumption) | exact look2 (by assumption) (by assumption)
  · exact fun h => nomatch h
  refine gd_aload_n C dX0_init_22 rfl ?_
  refine gd_iconst C dX0_init_23 ?_
  apply gd_putC C (by decide +kernel) 4 4 rfl (by decide) (by decide) (by decide +kernel) rfl dX0_init_24
  · first | assumption | exact wU_s _ _ _ | exact look1 (by assumption) (by assumption) | exact look2 (by assumption) (by assumption)
  · exact fun h => nomatch h
  refine gd_aload_n C dX0_init_27 rfl ?_
  refine gd_iconst C dX0_init_28 ?_
  apply gd_putC C (by decide +kernel) 5 5 rfl (by decide) (by decide) (by decide +kernel) rfl dX0_init_29
  · first | assumption | exact wU_s _ _ _ | exact look1 (by assumption) (by assumption) | exact look2 (by assumption) (by assumption)
  · exact fun h => nomatch h
  refine gd_aload_n C dX0_init_32 rfl ?_
  refine gd_iconst C dX0_init_33 ?_
  apply gd_putC C (by decide +kernel) 6 6 rfl (by decide) (by decide) (by decide +kernel) rfl dX0_init_34
  · first | assumption | exact wU_s _ _ _ | exact look1 (by assumption) (by assumption) | exact look2 (by assumption) (by assumption)
  · exact fun h => nomatch h
  refine gd_aload_n C dX0_init_37 rfl ?_
  refine gd_iconst C dX0_init_38 ?_
  apply gd_putC C (by decide +kernel) 7 7 rfl (by decide) (by decide) (by decide +kernel) rfl dX0_init_39
  · first | assumption | exact wU_s _ _ _ | exact look1 (by assumption) (by assumption) | exact look2 (by assumption) (by assumption)
  · exact fun h => nomatch h
  refine gd_aload_n C dX0_init_42 rfl ?_
  refine gd_iconst C dX0_init_43 ?_
  apply gd_putC C (by decide +kernel) 8 8 rfl (by decide) (by decide) (by decide +kernel) rfl dX0_init_44
  · first | assumption | exact wU_s _ _ _ | exact look1 (by assumption) (by assumption) | exact look2 (by assumption) (by assumption)
  · exact fun _ => by omega
  refine gd_aload_n C dX0_init_47 rfl ?_
  refine gd_iconst C dX0_init_48 ?_
  apply gd_putC C (by decide +kernel) 9 9 rfl (by decide) (by decide) (by decide +kernel) rfl dX0_init_49
  · first | assumption | exact wU_s _ _ _ | exact look1 (by assumption) (by assumption) | exact look2 (by assumption) (by assumption)
  · exact fun _ => Or.inl rfl
  refine gd_aload_n C dX0_init_52 rfl ?_
  refine gd_iconst C dX0_init_53 ?_
  apply gd_putC C (by decide +kernel) 10 10 rfl (by decide) (by decide) (by decide +kernel) rfl dX0_init_54
  · first | assumption | exact wU_s _ _ _ | exact look1 (by assumption) (by assumption) | exact look2 (by assumption) (by assumption)
  · exact fun _ => Or.inl rfl
  refine gd_aload_n C dX0_init_57 rfl ?_
  refine gd_iload_n C dX0_init_58 rfl ?_
  apply gd_putF (ci := 0) (Cn := RX0) (T := TX0) (N := 11) (ref := RX0) C rfl (by decide +kernel) tyX0 tyX0_ok nmX0 0 (by decide) (by decide +kernel) rfl rfl hname rfl dX0_init_59
  · first | assumption | exact wU_s _ _ _ | exact look1 (by assumption) (by assumption) | exact look2 (by assumption) (by assumption)
  · rfl
  · rfl
  · exact Nat.le_of_ble_eq_true rfl
  refine gd_aload_n C dX0_init_62 rfl ?_
  apply gd_get (ci := 0) (Cn := RX0) (T := TX0) (N := 11) (ref := RX0) C rfl (by decide +kernel) 1 (by decide) (by decide +kernel) rfl dX0_init_63
  · exact wU_s _ _ _
  · rfl
  refine gd_iconst C dX0_init_66 ?_
  refine gd_callS (n := 2) C (kJ7_fill hl (a := a7) (N := 64) (f := fun _ => 0) (x := -1) ?_ (by decide)) gX0_init_J7_fill_53178 rfl ⟨by decide, by decide, by decide +kernel⟩ rfl rfl (Nat.le_of_ble_eq_true rfl) rfl dX0_init_67 ⟨⟨by decide, by decide⟩, by decide, by decide⟩ (fun _ h => h.elim) ?_
  · simp only [wU_n hne.symm]; exact wU_s _ _ _
  rintro _ w9 ⟨rfl, c1, c2⟩
  refine gd_vret C hQ hret dX0_init_70 ?_ ?_
  · refine ⟨rfl, a7, hx7, c1, (c2 h hne).trans (wU_s _ _ _), fun y h1 h2 => ?_⟩
    rw [c2 y h2]
    simp only [wU_n h1, wU_n h2]
  · decide
