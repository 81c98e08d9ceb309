set_option maxRecDepth 100000 in
set_option maxHeartbeats 4000000 in
theorem kX5_init {l : Launch} {D : va_G} {ky : Nat → ClassId} {z : Nat} {w : WT} (hl : l.stackTraces = false) {o : Nat} (ho : w o = some (oB 5 [.null, .null, .null, .null, .null, .null, .null, .null, .null, .null, .null, .null, .null, .null, .int 0, .int 0, .int 0, .int 0])) : Mt l D ky z yX5_init wsX5_init { frames := 1, cells := 14, slots := 4412, locals := 20 } [.ref o] w (fun r w' => r = none ∧ ∃ (A : Nat → Nat) (F : Nat → Int → Int) (G : Nat → Int), MV w w' ky o A F G ∧ (∀ i, i < 14 → w (A i) = none) ∧ RF F G (fun _ => 0) v0 B0 (-1) 0 ∧ RLs (F 7) v0 ∧ RNM F G 1 (fun _ => 0) (fun _ => 0) (fun _ => 0) (fun _ _ => 0) ∧ F 9 = fun _ => 0) (fun _ => False) := by
  refine Mt.of (cc := cX5_init) (ret := none) (maxL := 2) (by decide) rfl (by intro v hv; simp at hv; rcases hv with rfl <;> rfl) (Nat.le_of_ble_eq_true rfl) ?_ hl
  intro p e s m args below meth c C htab hret hname Q hQ
  refine gd_aload_n C dX5_init_0 rfl ?_
  refine gd_objInit C (by decide +kernel) (by decide +kernel) (by decide +kernel) rfl dX5_init_1 ⟨by decide, Nat.le_of_ble_eq_true rfl⟩ ?_
  have hW0 := IW.z (ky := ky) (A := fun _ => 0) ho
  refine gd_aload_n C dX5_init_4 rfl ?_
  refine gd_sipush C dX5_init_5 (by decide) ?_
  refine gd_newZ (N := 128) C (by decide +kernel) dX5_init_8 ⟨rfl, by decide⟩ ⟨by decide, by decide⟩ ?_
  intro a0 hx0
  refine gd_putF (ci := 5) (Cn := RX5) (T := TX5) (N := 18) (ref := RX5) C rfl (by decide +kernel) tyX5 tyX5_ok nmX5 0 (by decide) (by decide +kernel) rfl rfl hname rfl dX5_init_10 (new_at hx0 hW0.1) rfl rfl (Nat.le_of_ble_eq_true rfl) ?_
  obtain ⟨wi0, hwi0⟩ : ∃ wi : WT, wi = wU (wU w a0 (iA (ky 1) 128 (fun _ => 0))) o (oB 5 ((IL (fun _ => 0) 0).set 0 (.ref a0))) := ⟨_, rfl⟩
  rw [← hwi0]
  have hW1 : IW w wi0 ky o (nU (fun _ => 0) 0 a0) 1 := hW0.s hx0 rfl hwi0 rfl
  clear hwi0
  refine gd_aload_n C dX5_init_13 rfl ?_
  refine gd_bipush C dX5_init_14 (by decide) ?_
  refine gd_newZ (N := 16) C (by decide +kernel) dX5_init_16 ⟨rfl, by decide⟩ ⟨by decide, by decide⟩ ?_
  intro a1 hx1
  refine gd_putF (ci := 5) (Cn := RX5) (T := TX5) (N := 18) (ref := RX5) C rfl (by decide +kernel) tyX5 tyX5_ok nmX5 1 (by decide) (by decide +kernel) rfl rfl hname rfl dX5_init_18 (new_at hx1 hW1.1) rfl rfl (Nat.le_of_ble_eq_true rfl) ?_
  obtain ⟨wi1, hwi1⟩ : ∃ wi : WT, wi = wU (wU wi0 a1 (iA (ky 1) 16 (fun _ => 0))) o (oB 5 ((IL (nU (fun _ => 0) 0 a0) 1).set 1 (.ref a1))) := ⟨_, rfl⟩
  rw [← hwi1]
  have hW2 : IW w wi1 ky o (nU (nU (fun _ => 0) 0 a0) 1 a1) 2 := hW1.s hx1 rfl hwi1 rfl
  clear hwi1 hW1
  refine gd_aload_n C dX5_init_21 rfl ?_
  refine gd_sipush C dX5_init_22 (by decide) ?_
  refine gd_newI (N := 1024) C (by decide +kernel) dX5_init_25 ⟨rfl, by decide⟩ ⟨by decide, by decide⟩ ?_
  intro a2 hx2
  refine gd_putF (ci := 5) (Cn := RX5) (T := TX5) (N := 18) (ref := RX5) C rfl (by decide +kernel) tyX5 tyX5_ok nmX5 2 (by decide) (by decide +kernel) rfl rfl hname rfl dX5_init_27 (new_at hx2 hW2.1) rfl rfl (Nat.le_of_ble_eq_true rfl) ?_
  obtain ⟨wi2, hwi2⟩ : ∃ wi : WT, wi = wU (wU wi1 a2 (iA (ky 0) 1024 (fun _ => 0))) o (oB 5 ((IL (nU (nU (fun _ => 0) 0 a0) 1 a1) 2).set 2 (.ref a2))) := ⟨_, rfl⟩
  rw [← hwi2]
  have hW3 : IW w wi2 ky o (nU (nU (nU (fun _ => 0) 0 a0) 1 a1) 2 a2) 3 := hW2.s hx2 rfl hwi2 rfl
  clear hwi2 hW2
  refine gd_aload_n C dX5_init_30 rfl ?_
  refine gd_bipush C dX5_init_31 (by decide) ?_
  refine gd_newI (N := 16) C (by decide +kernel) dX5_init_33 ⟨rfl, by decide⟩ ⟨by decide, by decide⟩ ?_
  intro a3 hx3
  refine gd_putF (ci := 5) (Cn := RX5) (T := TX5) (N := 18) (ref := RX5) C rfl (by decide +kernel) tyX5 tyX5_ok nmX5 3 (by decide) (by decide +kernel) rfl rfl hname rfl dX5_init_35 (new_at hx3 hW3.1) rfl rfl (Nat.le_of_ble_eq_true rfl) ?_
  obtain ⟨wi3, hwi3⟩ : ∃ wi : WT, wi = wU (wU wi2 a3 (iA (ky 0) 16 (fun _ => 0))) o (oB 5 ((IL (nU (nU (nU (fun _ => 0) 0 a0) 1 a1) 2 a2) 3).set 3 (.ref a3))) := ⟨_, rfl⟩
  rw [← hwi3]
  have hW4 : IW w wi3 ky o (nU (nU (nU (nU (fun _ => 0) 0 a0) 1 a1) 2 a2) 3 a3) 4 := hW3.s hx3 rfl hwi3 rfl
  clear hwi3 hW3
  refine gd_aload_n C dX5_init_38 rfl ?_
  refine gd_bipush C dX5_init_39 (by decide) ?_
  refine gd_newI (N := 16) C (by decide +kernel) dX5_init_41 ⟨rfl, by decide⟩ ⟨by decide, by decide⟩ ?_
  intro a4 hx4
  refine gd_putF (ci := 5) (Cn := RX5) (T := TX5) (N := 18) (ref := RX5) C rfl (by decide +kernel) tyX5 tyX5_ok nmX5 4 (by decide) (by decide +kernel) rfl rfl hname rfl dX5_init_43 (new_at hx4 hW4.1) rfl rfl (Nat.le_of_ble_eq_true rfl) ?_
  obtain ⟨wi4, hwi4⟩ : ∃ wi : WT, wi = wU (wU wi3 a4 (iA (ky 0) 16 (fun _ => 0))) o (oB 5 ((IL (nU (nU (nU (nU (fun _ => 0) 0 a0) 1 a1) 2 a2) 3 a3) 4).set 4 (.ref a4))) := ⟨_, rfl⟩
  rw [← hwi4]
  have hW5 : IW w wi4 ky o (nU (nU (nU (nU (nU (fun _ => 0) 0 a0) 1 a1) 2 a2) 3 a3) 4 a4) 5 := hW4.s hx4 rfl hwi4 rfl
  clear hwi4 hW4
  refine gd_aload_n C dX5_init_46 rfl ?_
  refine gd_bipush C dX5_init_47 (by decide) ?_
  refine gd_newI (N := 16) C (by decide +kernel) dX5_init_49 ⟨rfl, by decide⟩ ⟨by decide, by decide⟩ ?_
  intro a5 hx5
  refine gd_putF (ci := 5) (Cn := RX5) (T := TX5) (N := 18) (ref := RX5) C rfl (by decide +kernel) tyX5 tyX5_ok nmX5 5 (by decide) (by decide +kernel) rfl rfl hname rfl dX5_init_51 (new_at hx5 hW5.1) rfl rfl (Nat.le_of_ble_eq_true rfl) ?_
  obtain ⟨wi5, hwi5⟩ : ∃ wi : WT, wi = wU (wU wi4 a5 (iA (ky 0) 16 (fun _ => 0))) o (oB 5 ((IL (nU (nU (nU (nU (nU (fun _ => 0) 0 a0) 1 a1) 2 a2) 3 a3) 4 a4) 5).set 5 (.ref a5))) := ⟨_, rfl⟩
  rw [← hwi5]
  have hW6 : IW w wi5 ky o (nU (nU (nU (nU (nU (nU (fun _ => 0) 0 a0) 1 a1) 2 a2) 3 a3) 4 a4) 5 a5) 6 := hW5.s hx5 rfl hwi5 rfl
  clear hwi5 hW5
  refine gd_aload_n C dX5_init_54 rfl ?_
  refine gd_bipush C dX5_init_55 (by decide) ?_
  refine gd_newI (N := 16) C (by decide +kernel) dX5_init_57 ⟨rfl, by decide⟩ ⟨by decide, by decide⟩ ?_
  intro a6 hx6
  refine gd_putF (ci := 5) (Cn := RX5) (T := TX5) (N := 18) (ref := RX5) C rfl (by decide +kernel) tyX5 tyX5_ok nmX5 6 (by decide) (by decide +kernel) rfl rfl hname rfl dX5_init_59 (new_at hx6 hW6.1) rfl rfl (Nat.le_of_ble_eq_true rfl) ?_
  obtain ⟨wi6, hwi6⟩ : ∃ wi : WT, wi = wU (wU wi5 a6 (iA (ky 0) 16 (fun _ => 0))) o (oB 5 ((IL (nU (nU (nU (nU (nU (nU (fun _ => 0) 0 a0) 1 a1) 2 a2) 3 a3) 4 a4) 5 a5) 6).set 6 (.ref a6))) := ⟨_, rfl⟩
  rw [← hwi6]
  have hW7 : IW w wi6 ky o (nU (nU (nU (nU (nU (nU (nU (fun _ => 0) 0 a0) 1 a1) 2 a2) 3 a3) 4 a4) 5 a5) 6 a6) 7 := hW6.s hx6 rfl hwi6 rfl
  clear hwi6 hW6
  refine gd_aload_n C dX5_init_62 rfl ?_
  refine gd_bipush C dX5_init_63 (by decide) ?_
  refine gd_newI (N := 16) C (by decide +kernel) dX5_init_65 ⟨rfl, by decide⟩ ⟨by decide, by decide⟩ ?_
  intro a7 hx7
  refine gd_putF (ci := 5) (Cn := RX5) (T := TX5) (N := 18) (ref := RX5) C rfl (by decide +kernel) tyX5 tyX5_ok nmX5 7 (by decide) (by decide +kernel) rfl rfl hname rfl dX5_init_67 (new_at hx7 hW7.1) rfl rfl (Nat.le_of_ble_eq_true rfl) ?_
  obtain ⟨wi7, hwi7⟩ : ∃ wi : WT, wi = wU (wU wi6 a7 (iA (ky 0) 16 (fun _ => 0))) o (oB 5 ((IL (nU (nU (nU (nU (nU (nU (nU (fun _ => 0) 0 a0) 1 a1) 2 a2) 3 a3) 4 a4) 5 a5) 6 a6) 7).set 7 (.ref a7))) := ⟨_, rfl⟩
  rw [← hwi7]
  have hW8 : IW w wi7 ky o (nU (nU (nU (nU (nU (nU (nU (nU (fun _ => 0) 0 a0) 1 a1) 2 a2) 3 a3) 4 a4) 5 a5) 6 a6) 7 a7) 8 := hW7.s hx7 rfl hwi7 rfl
  clear hwi7 hW7
  refine gd_aload_n C dX5_init_70 rfl ?_
  refine gd_bipush C dX5_init_71 (by decide) ?_
  refine gd_newZ (N := 16) C (by decide +kernel) dX5_init_73 ⟨rfl, by decide⟩ ⟨by decide, by decide⟩ ?_
  intro a8 hx8
  refine gd_putF (ci := 5) (Cn := RX5) (T := TX5) (N := 18) (ref := RX5) C rfl (by decide +kernel) tyX5 tyX5_ok nmX5 8 (by decide) (by decide +kernel) rfl rfl hname rfl dX5_init_75 (new_at hx8 hW8.1) rfl rfl (Nat.le_of_ble_eq_true rfl) ?_
  obtain ⟨wi8, hwi8⟩ : ∃ wi : WT, wi = wU (wU wi7 a8 (iA (ky 1) 16 (fun _ => 0))) o (oB 5 ((IL (nU (nU (nU (nU (nU (nU (nU (nU (fun _ => 0) 0 a0) 1 a1) 2 a2) 3 a3) 4 a4) 5 a5) 6 a6) 7 a7) 8).set 8 (.ref a8))) := ⟨_, rfl⟩
  rw [← hwi8]
  have hW9 : IW w wi8 ky o (nU (nU (nU (nU (nU (nU (nU (nU (nU (fun _ => 0) 0 a0) 1 a1) 2 a2) 3 a3) 4 a4) 5 a5) 6 a6) 7 a7) 8 a8) 9 := hW8.s hx8 rfl hwi8 rfl
  clear hwi8 hW8
  refine gd_aload_n C dX5_init_78 rfl ?_
  refine gd_sipush C dX5_init_79 (by decide) ?_
  refine gd_newI (N := 1000) C (by decide +kernel) dX5_init_82 ⟨rfl, by decide⟩ ⟨by decide, by decide⟩ ?_
  intro a9 hx9
  refine gd_putF (ci := 5) (Cn := RX5) (T := TX5) (N := 18) (ref := RX5) C rfl (by decide +kernel) tyX5 tyX5_ok nmX5 9 (by decide) (by decide +kernel) rfl rfl hname rfl dX5_init_84 (new_at hx9 hW9.1) rfl rfl (Nat.le_of_ble_eq_true rfl) ?_
  obtain ⟨wi9, hwi9⟩ : ∃ wi : WT, wi = wU (wU wi8 a9 (iA (ky 0) 1000 (fun _ => 0))) o (oB 5 ((IL (nU (nU (nU (nU (nU (nU (nU (nU (nU (fun _ => 0) 0 a0) 1 a1) 2 a2) 3 a3) 4 a4) 5 a5) 6 a6) 7 a7) 8 a8) 9).set 9 (.ref a9))) := ⟨_, rfl⟩
  rw [← hwi9]
  have hW10 : IW w wi9 ky o (nU (nU (nU (nU (nU (nU (nU (nU (nU (nU (fun _ => 0) 0 a0) 1 a1) 2 a2) 3 a3) 4 a4) 5 a5) 6 a6) 7 a7) 8 a8) 9 a9) 10 := hW9.s hx9 rfl hwi9 rfl
  clear hwi9 hW9
  refine gd_aload_n C dX5_init_87 rfl ?_
  refine gd_sipush C dX5_init_88 (by decide) ?_
  refine gd_newI (N := 300) C (by decide +kernel) dX5_init_91 ⟨rfl, by decide⟩ ⟨by decide, by decide⟩ ?_
  intro a10 hx10
  refine gd_putF (ci := 5) (Cn := RX5) (T := TX5) (N := 18) (ref := RX5) C rfl (by decide +kernel) tyX5 tyX5_ok nmX5 10 (by decide) (by decide +kernel) rfl rfl hname rfl dX5_init_93 (new_at hx10 hW10.1) rfl rfl (Nat.le_of_ble_eq_true rfl) ?_
  obtain ⟨wi10, hwi10⟩ : ∃ wi : WT, wi = wU (wU wi9 a10 (iA (ky 0) 300 (fun _ => 0))) o (oB 5 ((IL (nU (nU (nU (nU (nU (nU (nU (nU (nU (nU (fun _ => 0) 0 a0) 1 a1) 2 a2) 3 a3) 4 a4) 5 a5) 6 a6) 7 a7) 8 a8) 9 a9) 10).set 10 (.ref a10))) := ⟨_, rfl⟩
  rw [← hwi10]
  have hW11 : IW w wi10 ky o (nU (nU (nU (nU (nU (nU (nU (nU (nU (nU (nU (fun _ => 0) 0 a0) 1 a1) 2 a2) 3 a3) 4 a4) 5 a5) 6 a6) 7 a7) 8 a8) 9 a9) 10 a10) 11 := hW10.s hx10 rfl hwi10 rfl
  clear hwi10 hW10
  refine gd_aload_n C dX5_init_96 rfl ?_
  refine gd_sipush C dX5_init_97 (by decide) ?_
  refine gd_newZ (N := 300) C (by decide +kernel) dX5_init_100 ⟨rfl, by decide⟩ ⟨by decide, by decide⟩ ?_
  intro a11 hx11
  refine gd_putF (ci := 5) (Cn := RX5) (T := TX5) (N := 18) (ref := RX5) C rfl (by decide +kernel) tyX5 tyX5_ok nmX5 11 (by decide) (by decide +kernel) rfl rfl hname rfl dX5_init_102 (new_at hx11 hW11.1) rfl rfl (Nat.le_of_ble_eq_true rfl) ?_
  obtain ⟨wi11, hwi11⟩ : ∃ wi : WT, wi = wU (wU wi10 a11 (iA (ky 1) 300 (fun _ => 0))) o (oB 5 ((IL (nU (nU (nU (nU (nU (nU (nU (nU (nU (nU (nU (fun _ => 0) 0 a0) 1 a1) 2 a2) 3 a3) 4 a4) 5 a5) 6 a6) 7 a7) 8 a8) 9 a9) 10 a10) 11).set 11 (.ref a11))) := ⟨_, rfl⟩
  rw [← hwi11]
  have hW12 : IW w wi11 ky o (nU (nU (nU (nU (nU (nU (nU (nU (nU (nU (nU (nU (fun _ => 0) 0 a0) 1 a1) 2 a2) 3 a3) 4 a4) 5 a5) 6 a6) 7 a7) 8 a8) 9 a9) 10 a10) 11 a11) 12 := hW11.s hx11 rfl hwi11 rfl
  clear hwi11 hW11
  refine gd_aload_n C dX5_init_105 rfl ?_
  refine gd_sipush C dX5_init_106 (by decide) ?_
  refine gd_newI (N := 1200) C (by decide +kernel) dX5_init_109 ⟨rfl, by decide⟩ ⟨by decide, by decide⟩ ?_
  intro a12 hx12
  refine gd_putF (ci := 5) (Cn := RX5) (T := TX5) (N := 18) (ref := RX5) C rfl (by decide +kernel) tyX5 tyX5_ok nmX5 12 (by decide) (by decide +kernel) rfl rfl hname rfl dX5_init_111 (new_at hx12 hW12.1) rfl rfl (Nat.le_of_ble_eq_true rfl) ?_
  obtain ⟨wi12, hwi12⟩ : ∃ wi : WT, wi = wU (wU wi11 a12 (iA (ky 0) 1200 (fun _ => 0))) o (oB 5 ((IL (nU (nU (nU (nU (nU (nU (nU (nU (nU (nU (nU (nU (fun _ => 0) 0 a0) 1 a1) 2 a2) 3 a3) 4 a4) 5 a5) 6 a6) 7 a7) 8 a8) 9 a9) 10 a10) 11 a11) 12).set 12 (.ref a12))) := ⟨_, rfl⟩
  rw [← hwi12]
  have hW13 : IW w wi12 ky o (nU (nU (nU (nU (nU (nU (nU (nU (nU (nU (nU (nU (nU (fun _ => 0) 0 a0) 1 a1) 2 a2) 3 a3) 4 a4) 5 a5) 6 a6) 7 a7) 8 a8) 9 a9) 10 a10) 11 a11) 12 a12) 13 := hW12.s hx12 rfl hwi12 rfl
  clear hwi12 hW12
  refine gd_aload_n C dX5_init_114 rfl ?_
  refine gd_sipush C dX5_init_115 (by decide) ?_
  refine gd_newI (N := 300) C (by decide +kernel) dX5_init_118 ⟨rfl, by decide⟩ ⟨by decide, by decide⟩ ?_
  intro a13 hx13
  refine gd_putF (ci := 5) (Cn := RX5) (T := TX5) (N := 18) (ref := RX5) C rfl (by decide +kernel) tyX5 tyX5_ok nmX5 13 (by decide) (by decide +kernel) rfl rfl hname rfl dX5_init_120 (new_at hx13 hW13.1) rfl rfl (Nat.le_of_ble_eq_true rfl) ?_
  obtain ⟨wi13, hwi13⟩ : ∃ wi : WT, wi = wU (wU wi12 a13 (iA (ky 0) 300 (fun _ => 0))) o (oB 5 ((IL (nU (nU (nU (nU (nU (nU (nU (nU (nU (nU (nU (nU (nU (fun _ => 0) 0 a0) 1 a1) 2 a2) 3 a3) 4 a4) 5 a5) 6 a6) 7 a7) 8 a8) 9 a9) 10 a10) 11 a11) 12 a12) 13).set 13 (.ref a13))) := ⟨_, rfl⟩
  rw [← hwi13]
  have hW14 : IW w wi13 ky o (nU (nU (nU (nU (nU (nU (nU (nU (nU (nU (nU (nU (nU (nU (fun _ => 0) 0 a0) 1 a1) 2 a2) 3 a3) 4 a4) 5 a5) 6 a6) 7 a7) 8 a8) 9 a9) 10 a10) 11 a11) 12 a12) 13 a13) 14 := hW13.s hx13 rfl hwi13 rfl
  clear hwi13 hW13
  obtain ⟨hMv, hno⟩ := hW14.x
  generalize (nU (nU (nU (nU (nU (nU (nU (nU (nU (nU (nU (nU (nU (nU (fun _ => 0) 0 a0) 1 a1) 2 a2) 3 a3) 4 a4) 5 a5) 6 a6) 7 a7) 8 a8) 9 a9) 10 a10) 11 a11) 12 a12) 13 a13) = A at hMv hno
  clear hW14
  refine gd_aload_n C dX5_init_123 rfl ?_
  refine gd_iconst C dX5_init_124 ?_
  refine gm_put C hMv (by decide +kernel) 14 (by decide) (by decide +kernel) rfl rfl dX5_init_125 rfl rfl rfl (fun wm1 hMm1 => ?_)
  refine gd_iconst C dX5_init_128 ?_
  refine gd_istore_n C dX5_init_129 (Nat.le_of_ble_eq_true rfl) ?_
  suffices hloop130 : ∀ (n9 : Nat) (i : Int) (w1 : WT) (F1 : Nat → Int → Int), 0 ≤ i → i ≤ 128 → (128 - i).toNat = n9 → MV w w1 ky o A F1 (nU (fun _ => 0) 14 1) → F1 0 = tkF (fun _ => 0) 0 i 1 → (∀ j, j ≠ 0 → F1 j = fun _ => 0) → Gd p l e ({ frames := 1, cells := 14, slots := 4412, locals := 20 }) s m args below meth c D z Q (0 + 1 + 1 + 1 + 1 + 1 + 1 + 1 + 1 + 1 + 1 + 1 + 1 + 1 + 1) (0 + 128 + 16 + 1024 + 16 + 16 + 16 + 16 + 16 + 16 + 1000 + 300 + 300 + 1200 + 300) w1 130 [some (.ref o), some (.int (iI i))] [] from
    hloop130 _ 0 _ _ (by omega) (by omega) rfl hMm1 (by rw [tkF_0]) (fun _ _ => rfl)
  intro n9
  induction n9 using Nat.strongRecOn with
  | _ n9 ih =>
  intro i w1 F1 h1i h2i hn hM1 hf hz
  refine gd_iload_n C dX5_init_130 rfl ?_
  refine gd_sipush C dX5_init_131 (by decide) ?_
  refine gd_icmp_ge (tgt := 150) C dX5_init_134 (by decide) ?_ ?_ (fun hc134 => ?_) (fun hc134 => ?_)
  · omega
  · omega
  · refine gd_iconst C dX5_init_150 ?_
    refine gd_istore_n C dX5_init_151 (Nat.le_of_ble_eq_true rfl) ?_
    obtain rfl : i = 128 := by omega
    clear ih
    have hf0 := hf
    have hz0 := hz
    clear hf hz
    suffices hloop152 : ∀ (n9 : Nat) (i : Int) (w1 : WT) (F1 : Nat → Int → Int), 0 ≤ i → i ≤ 1024 → (1024 - i).toNat = n9 → MV w w1 ky o A F1 (nU (fun _ => 0) 14 1) → F1 2 = tkF (fun _ => 0) 0 i (-1) → (∀ j, j ≠ 2 ∧ j ≠ 0 → F1 j = fun _ => 0) → F1 0 = tkF (fun _ => 0) 0 128 1 → Gd p l e ({ frames := 1, cells := 14, slots := 4412, locals := 20 }) s m args below meth c D z Q (0 + 1 + 1 + 1 + 1 + 1 + 1 + 1 + 1 + 1 + 1 + 1 + 1 + 1 + 1) (0 + 128 + 16 + 1024 + 16 + 16 + 16 + 16 + 16 + 16 + 1000 + 300 + 300 + 1200 + 300) w1 152 [some (.ref o), some (.int (iI i))] [] from
      hloop152 _ 0 _ _ (by omega) (by omega) rfl hM1 (by rw [tkF_0, hz0 2 (by decide)]) (fun j hj => hz0 j hj.2) hf0
    intro n9
    induction n9 using Nat.strongRecOn with
    | _ n9 ih =>
    intro i w1 F1 h1i h2i hn hM1 hf hz hf0
    refine gd_iload_n C dX5_init_152 rfl ?_
    refine gd_sipush C dX5_init_153 (by decide) ?_
    refine gd_icmp_ge (tgt := 172) C dX5_init_156 (by decide) ?_ ?_ (fun hc156 => ?_) (fun hc156 => ?_)
    · omega
    · omega
    · refine gd_iconst C dX5_init_172 ?_
      refine gd_istore_n C dX5_init_173 (Nat.le_of_ble_eq_true rfl) ?_
      obtain rfl : i = 1024 := by omega
      clear ih
      have hf2 := hf
      have hz2 := hz
      clear hf hz
      suffices hloop174 : ∀ (n9 : Nat) (i : Int) (w1 : WT) (F1 : Nat → Int → Int), 0 ≤ i → i ≤ 16 → (16 - i).toNat = n9 → MV w w1 ky o A F1 (nU (fun _ => 0) 14 1) → F1 7 = tkF (fun _ => 0) 0 i (-1) → (∀ j, j ≠ 7 ∧ j ≠ 0 ∧ j ≠ 2 → F1 j = fun _ => 0) → F1 0 = tkF (fun _ => 0) 0 128 1 → F1 2 = tkF (fun _ => 0) 0 1024 (-1) → Gd p l e ({ frames := 1, cells := 14, slots := 4412, locals := 20 }) s m args below meth c D z Q (0 + 1 + 1 + 1 + 1 + 1 + 1 + 1 + 1 + 1 + 1 + 1 + 1 + 1 + 1) (0 + 128 + 16 + 1024 + 16 + 16 + 16 + 16 + 16 + 16 + 1000 + 300 + 300 + 1200 + 300) w1 174 [some (.ref o), some (.int (iI i))] [] from
        hloop174 _ 0 _ _ (by omega) (by omega) rfl hM1 (by rw [tkF_0, hz2 7 (by decide)]) (fun j hj => hz2 j ⟨hj.2.2, hj.2.1⟩) hf0 hf2
      intro n9
      induction n9 using Nat.strongRecOn with
      | _ n9 ih =>
      intro i w1 F1 h1i h2i hn hM1 hf hz hf0 hf2
      refine gd_iload_n C dX5_init_174 rfl ?_
      refine gd_bipush C dX5_init_175 (by decide) ?_
      refine gd_icmp_ge (tgt := 193) C dX5_init_177 (by decide) ?_ ?_ (fun hc177 => ?_) (fun hc177 => ?_)
      · omega
      · omega
      · refine gd_vret C hQ hret dX5_init_193 ?_ ?_
        · obtain rfl : i = 16 := by omega
          refine ⟨rfl, A, F1, _, hM1, hno, RF0 hf0 (hz 1 (by decide)) hf2 (hz 3 (by decide)) (hz 4 (by decide)) (hz 5 (by decide)) (hz 6 (by decide)) (hz 8 (by decide)) rfl rfl, RLs0 hf, ⟨rfl, fun i i1 i2 => ?_⟩, hz 9 (by decide)⟩
          rw [hz 10 (by decide), hz 11 (by decide), hz 13 (by decide)]
          exact ⟨rfl, rfl, rfl, fun x => ⟨fun ⟨k, k1, k2, _⟩ => absurd (show k < 0 from k2) (by omega), fun ⟨k, k1, k2, _⟩ => absurd (show k < 0 from k2) (by omega)⟩, fun k k' k1 k2 _ _ _ => absurd (show k < 0 from k2) (by omega)⟩
        · decide
      · refine gd_aload_n C dX5_init_180 rfl ?_
        refine gm_get C hM1 (by decide +kernel) 7 (by decide) (by decide +kernel) rfl dX5_init_181 rfl ?_
        refine gd_iload_n C dX5_init_184 rfl ?_
        refine gd_iconst C dX5_init_185 ?_
        refine gm_iast C hM1 (k := 7) (n := 16) (by decide) (fun _ => rfl) dX5_init_186 (by decide) ?_ (fun wm2 hMm2 => ?_)
        · omega
        refine gd_iinc C dX5_init_187 rfl ?_
        refine gd_goto (tgt := 174) C dX5_init_190 (by decide) ?_
        refine ih _ (by omega) (i + 1) _ _ (by omega) (by omega) rfl hMm2 (by rw [tkF_s h1i, Int.zero_add, ← hf]; rfl) (fun j hj => by rw [nU_n (by omega)]; exact hz j hj) hf0 hf2
    · refine gd_aload_n C dX5_init_159 rfl ?_
      refine gm_get C hM1 (by decide +kernel) 2 (by decide) (by decide +kernel) rfl dX5_init_160 rfl ?_
      refine gd_iload_n C dX5_init_163 rfl ?_
      refine gd_iconst C dX5_init_164 ?_
      refine gm_iast C hM1 (k := 2) (n := 1024) (by decide) (fun _ => rfl) dX5_init_165 (by decide) ?_ (fun wm3 hMm3 => ?_)
      · omega
      refine gd_iinc C dX5_init_166 rfl ?_
      refine gd_goto (tgt := 152) C dX5_init_169 (by decide) ?_
      refine ih _ (by omega) (i + 1) _ _ (by omega) (by omega) rfl hMm3 (by rw [tkF_s h1i, Int.zero_add, ← hf]; rfl) (fun j hj => by rw [nU_n (by omega)]; exact hz j hj) hf0
  · refine gd_aload_n C dX5_init_137 rfl ?_
    refine gm_get C hM1 (by decide +kernel) 0 (by decide) (by decide +kernel) rfl dX5_init_138 rfl ?_
    refine gd_iload_n C dX5_init_141 rfl ?_
    refine gd_iconst C dX5_init_142 ?_
    refine gm_zast C hM1 (k := 0) (n := 128) (by decide) (fun _ => rfl) dX5_init_143 (by decide) ?_ ?_ (fun wm4 hMm4 => ?_)
    · omega
    · omega
    refine gd_iinc C dX5_init_144 rfl ?_
    refine gd_goto (tgt := 130) C dX5_init_147 (by decide) ?_
    refine ih _ (by omega) (i + 1) _ _ (by omega) (by omega) rfl hMm4 (by rw [tkF_s h1i, Int.zero_add, ← hf]; rfl) (fun j hj => by rw [nU_n (by omega)]; exact hz j hj)
