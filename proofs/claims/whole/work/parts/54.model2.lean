set_option maxRecDepth 100000 in
set_option maxHeartbeats 4000000 in
theorem kX5_freesKept {l : Launch} {D : va_G} {ky : Nat → ClassId} {z : Nat} {w : WT} (hl : l.stackTraces = false) {o : Nat} {A : Nat → Nat} {F : Nat → Int → Int} {G : Nat → Int} (hM : MW w ky o A F G) {T : Int → Int} {v B : Int → Int → Int} {sc dn : Int} (hR : RF F G T v B sc dn) {q : Int} (hq : 0 ≤ q ∧ q < 16) (hk : 0 ≤ v q 6 ∧ 0 ≤ v q 7 ∧ v q 6 + v q 7 ≤ 128) : Mt l D ky z yX5_freesKept wsX5_freesKept { frames := 0, cells := 0, slots := 0, locals := 0 } [.ref o, .int (iI q)] w (fun r w' => r = none ∧ PM w w' ky o A F G (tkF T (v q 6) (v q 7) 0) (fU v q (fU (v q) 7 0)) (B) (sc) (dn) (F 7) (G 17)) (fun _ => False) := by
  refine Mt.of (cc := cX5_freesKept) (ret := none) (maxL := 3) (by decide) rfl (by intro v hv; simp at hv; rcases hv with rfl | rfl <;> rfl) (Nat.le_of_ble_eq_true rfl) ?_ hl
  intro p e s m args below meth c C htab hret hname Q hQ
  have hMv := hM.V
  obtain ⟨hR0, hR1, hR2, hR3, hR4⟩ := id hR
  refine gd_iconst C dX5_freesKept_0 ?_
  refine gd_istore_n C dX5_freesKept_1 (Nat.le_of_ble_eq_true rfl) ?_
  suffices hloop : ∀ (n : Nat) (i : Int) (w1 : WT) (F1 : Nat → Int → Int), 0 ≤ i → i ≤ v q 7 → (v q 7 - i).toNat = n → MV w w1 ky o A F1 G → RF F1 G (tkF T (v q 6) i 0) v B sc dn → FN F F1 → F1 7 = F 7 → Gd p l e ({ frames := 0, cells := 0, slots := 0, locals := 0 }) s m args below meth c D z Q 0 0 w1 2 [some (.ref o), some (.int (iI q)), some (.int (iI i))] [] from
    hloop _ 0 w F (by omega) (by omega) rfl hMv (by rw [tkF_0]; exact hR) (FN.rf F) rfl
  intro n
  induction n using Nat.strongRecOn with
  | _ n ih =>
  intro i w1 F1 h1i h2i hn hM1 hRi hNi h7i
  obtain ⟨d1, d2, d3, d4, d5, d6⟩ := hRi.2.1 q hq.1 hq.2
  refine gd_iload_n C dX5_freesKept_2 rfl ?_
  refine gd_aload_n C dX5_freesKept_3 rfl ?_
  refine gm_get C hM1 (by decide +kernel) 5 (by decide) (by decide +kernel) rfl dX5_freesKept_4 rfl ?_
  refine gd_iload_n C dX5_freesKept_7 rfl ?_
  refine gd_iald C dX5_freesKept_8 hM1.a5 (by decide) ?_ ?_
  · omega
  refine gd_icmp_ge (tgt := 32) C dX5_freesKept_9 (by decide) ?_ ?_ (fun hc9 => ?_) (fun hc9 => ?_)
  · omega
  · omega
  · refine gd_aload_n C dX5_freesKept_32 rfl ?_
    refine gm_get C hM1 (by decide +kernel) 5 (by decide) (by decide +kernel) rfl dX5_freesKept_33 rfl ?_
    refine gd_iload_n C dX5_freesKept_36 rfl ?_
    refine gd_iconst C dX5_freesKept_37 ?_
    refine gm_iast C hM1 (k := 5) (n := 16) (by decide) (fun _ => rfl) dX5_freesKept_38 (by decide) ?_ (fun wm1 hMm1 => ?_)
    · omega
    refine gd_vret C hQ hret dX5_freesKept_39 ?_ ?_
    · have e1 : i = v q 7 := by omega
      subst e1
      exact ⟨rfl, _, _, hMm1, hRi.sv (u := fU (v q) 7 0) (by decide) ⟨rfl, rfl, rfl, rfl, rfl, rfl⟩, hNi.nU (by decide) _, h7i, rfl, rfl⟩
    · decide
  · refine gd_aload_n C dX5_freesKept_12 rfl ?_
    refine gm_get C hM1 (by decide +kernel) 0 (by decide) (by decide +kernel) rfl dX5_freesKept_13 rfl ?_
    refine gd_aload_n C dX5_freesKept_16 rfl ?_
    refine gm_get C hM1 (by decide +kernel) 4 (by decide) (by decide +kernel) rfl dX5_freesKept_17 rfl ?_
    refine gd_iload_n C dX5_freesKept_20 rfl ?_
    refine gd_iald C dX5_freesKept_21 hM1.a4 (by decide) ?_ ?_
    · omega
    refine gd_iload_n C dX5_freesKept_22 rfl ?_
    refine gd_iadd C dX5_freesKept_23 ?_
    refine gd_iconst C dX5_freesKept_24 ?_
    refine gm_zast C hM1 (k := 0) (n := 128) (by decide) (fun _ => rfl) dX5_freesKept_25 (by decide) ?_ ?_ (fun wm2 hMm2 => ?_)
    · omega
    · omega
    refine gd_iinc C dX5_freesKept_26 rfl ?_
    refine gd_goto (tgt := 2) C dX5_freesKept_29 (by decide) ?_
    exact ih _ (by omega) (i + 1) _ _ (by omega) (by omega) rfl hMm2 (by rw [tkF_s h1i, show v q 6 + i = F1 4 q + i by omega]; exact hRi.s0 (by decide)) (hNi.nU (by decide) _) h7i

set_option maxRecDepth 100000 in
set_option maxHeartbeats 4000000 in
theorem kX5_crashes {l : Launch} {D : va_G} {ky : Nat → ClassId} {z : Nat} {w : WT} (hl : l.stackTraces = false) {o : Nat} {A : Nat → Nat} {F : Nat → Int → Int} {G : Nat → Int} (hM : MW w ky o A F G) {T : Int → Int} {v B : Int → Int → Int} {sc dn : Int} (hR : RF F G T v B sc dn) (hk : K67 v) (hb : ∀ j, 0 ≤ j → j < 16 → ∀ p, -2 ≤ B j p ∧ B j p ≤ 127) : Mt l D ky z yX5_crashes wsX5_crashes { frames := 1, cells := 0, slots := 0, locals := 22 } [.ref o] w (fun r w' => r = none ∧ PM w w' ky o A F G (rlT v T 16) (crV v 16) (flB B 16) (-1) (1) (F 7) (G 17)) (fun _ => False) := by
  refine Mt.of (cc := cX5_crashes) (ret := none) (maxL := 2) (by decide) rfl (by intro v hv; simp at hv; rcases hv with rfl <;> rfl) (Nat.le_of_ble_eq_true rfl) ?_ hl
  intro p e s m args below meth c C htab hret hname Q hQ
  have hMv := hM.V
  obtain ⟨hR0, hR1, hR2, hR3, hR4⟩ := id hR
  refine gd_iconst C dX5_crashes_0 ?_
  refine gd_istore_n C dX5_crashes_1 (Nat.le_of_ble_eq_true rfl) ?_
  suffices hloop : ∀ (n : Nat) (i : Int) (w1 : WT) (F1 : Nat → Int → Int), 0 ≤ i → i ≤ 1024 → (1024 - i).toNat = n → MV w w1 ky o A F1 G → RF F1 G T v (cB B i) sc dn → FN F F1 → F1 7 = F 7 → Gd p l e ({ frames := 1, cells := 0, slots := 0, locals := 22 }) s m args below meth c D z Q 0 0 w1 2 [some (.ref o), some (.int (iI i))] [] from
    hloop _ 0 w F (by omega) (by omega) rfl hMv (hR.cg (fun _ _ _ => rfl) (fun _ _ _ => ⟨rfl, rfl, rfl, rfl, rfl, rfl⟩) (fun j p a b c d => by unfold cB; rw [if_neg (by omega)])) (FN.rf F) rfl
  intro n
  induction n using Nat.strongRecOn with
  | _ n ih =>
  intro i w1 F1 h1i h2i hn hM1 hRi hNi h7i
  have hFi : i < 1024 → F1 2 i = B (i / 64) (i % 64) := fun h => by
    have h1 := hRi.2.2.1 (i / 64) (i % 64) (by omega) (by omega) (by omega) (by omega)
    rw [show 64 * (i / 64) + i % 64 = i by omega] at h1
    rw [h1]; unfold cB; rw [if_neg (by omega)]
  have hBi : i < 1024 → -2 ≤ B (i / 64) (i % 64) ∧ B (i / 64) (i % 64) ≤ 127 := fun h => hb _ (by omega) (by omega) _
  refine gd_iload_n C dX5_crashes_2 rfl ?_
  refine gd_sipush C dX5_crashes_3 (by decide) ?_
  refine gd_icmp_ge (tgt := 42) C dX5_crashes_6 (by decide) ?_ ?_ (fun hc6 => ?_) (fun hc6 => ?_)
  · omega
  · omega
  · refine gd_iconst C dX5_crashes_42 ?_
    refine gd_istore_n C dX5_crashes_43 (Nat.le_of_ble_eq_true rfl) ?_
    have hRa : RF F1 G T v (flB B 16) sc dn := hRi.cg (fun _ _ _ => rfl) (fun _ _ _ => ⟨rfl, rfl, rfl, rfl, rfl, rfl⟩) (fun j p a b c d => by
      unfold cB flB drF
      rw [if_pos (by omega)]
      split <;> split <;> omega)
    suffices hloop2 : ∀ (n : Nat) (i : Int) (w1 : WT) (F1 : Nat → Int → Int) (G1 : Nat → Int), 0 ≤ i → i ≤ 16 → (16 - i).toNat = n → MV w w1 ky o A F1 G1 → RF F1 G1 (rlT v T i.toNat) (crV v i) (flB B 16) sc dn → FN F F1 → F1 7 = F 7 → G1 14 = G 14 → G1 17 = G 17 → Gd p l e ({ frames := 1, cells := 0, slots := 0, locals := 22 }) s m args below meth c D z Q 0 0 w1 44 [some (.ref o), some (.int (iI i))] [] from
      hloop2 _ 0 _ _ _ (by omega) (by omega) rfl hM1 (by rw [crV_0]; exact hRa) hNi h7i rfl rfl
    clear ih
    intro n
    induction n using Nat.strongRecOn with
    | _ n ih =>
    intro i w1 F1 G1 h1i h2i hn hM1 hRi hNi h7i h14 h17
    refine gd_iload_n C dX5_crashes_44 rfl ?_
    refine gd_bipush C dX5_crashes_45 (by decide) ?_
    refine gd_icmp_ge (tgt := 68) C dX5_crashes_47 (by decide) ?_ ?_ (fun hc47 => ?_) (fun hc47 => ?_)
    · omega
    · omega
    · refine gd_aload_n C dX5_crashes_68 rfl ?_
      refine gd_iconst C dX5_crashes_69 ?_
      refine gm_put C hM1 (by decide +kernel) 15 (by decide) (by decide +kernel) rfl rfl dX5_crashes_70 rfl (nar_b (Or.inr rfl)) (nar_t (Or.inr rfl) (fun _ => Or.inr rfl)).2 (fun wm1 hMm1 => ?_)
      refine gd_aload_n C dX5_crashes_73 rfl ?_
      refine gd_iconst C dX5_crashes_74 ?_
      refine gm_put C hMm1 (by decide +kernel) 16 (by decide) (by decide +kernel) rfl rfl dX5_crashes_75 rfl rfl rfl (fun wm2 hMm2 => ?_)
      refine gd_vret C hQ hret dX5_crashes_78 ?_ ?_
      · have e1 : i = 16 := by omega
        subst e1
        exact ⟨rfl, _, _, hMm2, hRi.g rfl rfl, hNi, h7i, h14, h17⟩
      · decide
    · refine gd_aload_n C dX5_crashes_50 rfl ?_
      refine gd_iload_n C dX5_crashes_51 rfl ?_
      refine gd_callV (n := 1) (ci := 5) (Cn := RX5) (T := TX5) (N := 18) C (kX5_freesKept hl hM1.1 hRi (q := i) ?_ ?_) ?_ rfl gX5_crashes_X5_freesKept rfl ⟨rfl, by decide, by decide, by decide +kernel⟩ rfl rfl (Nat.le_of_ble_eq_true rfl) rfl dX5_crashes_52 ⟨⟨by decide, by decide⟩, by decide, by decide⟩ (fun _ h => h.elim) ?_
      · omega
      · rw [crV_at]; exact hk i h1i (by omega)
      · exact ⟨_, by exact hM1.ob⟩
      rintro _ w2 ⟨rfl, F2, G2, hM2, hRj, hNj, h7j, h14j, h17j⟩
      rw [crV_at] at hRj
      replace hM2 := hM1.tr hM2
      refine gd_aload_n C dX5_crashes_55 rfl ?_
      refine gm_get C hM2 (by decide +kernel) 3 (by decide) (by decide +kernel) rfl dX5_crashes_56 rfl ?_
      refine gd_iload_n C dX5_crashes_59 rfl ?_
      refine gd_iconst C dX5_crashes_60 ?_
      refine gm_iast C hM2 (k := 3) (n := 16) (by decide) (fun _ => rfl) dX5_crashes_61 (by decide) ?_ (fun wm3 hMm3 => ?_)
      · omega
      refine gd_iinc C dX5_crashes_62 rfl ?_
      refine gd_goto (tgt := 44) C dX5_crashes_65 (by decide) ?_
      exact ih _ (by omega) (i + 1) _ _ _ (by omega) (by omega) rfl hMm3 (by
        have h9 := hRj.sv (k := 3) (j := i) (x := 0) (u := fU (fU (v i) 7 0) 3 0) (by decide) (by rw [fU_s]; exact ⟨rfl, rfl, rfl, rfl, rfl, rfl⟩)
        rw [rlT_s h1i, ← crV_s h1i]
        rwa [fU_ss] at h9) ((hNi.tr hNj).nU (by decide) _) (h7j.trans h7i) (h14j.trans h14) (h17j.trans h17)
  · refine gd_aload_n C dX5_crashes_9 rfl ?_
    refine gm_get C hM1 (by decide +kernel) 2 (by decide) (by decide +kernel) rfl dX5_crashes_10 rfl ?_
    refine gd_iload_n C dX5_crashes_13 rfl ?_
    refine gd_aload_n C dX5_crashes_14 rfl ?_
    refine gm_get C hM1 (by decide +kernel) 2 (by decide) (by decide +kernel) rfl dX5_crashes_15 rfl ?_
    refine gd_iload_n C dX5_crashes_18 rfl ?_
    refine gd_iald C dX5_crashes_19 hM1.a2 (by decide) ?_ ?_
    · omega
    refine gd_bipush C dX5_crashes_20 (by decide) ?_
    have hj22 : ∀ x9 : Int, (x9 = -1 ∧ F1 2 i = -2 ∨ x9 = F1 2 i ∧ F1 2 i ≠ -2) → Gd p l e ({ frames := 1, cells := 0, slots := 0, locals := 22 }) s m args below meth c D z Q 0 0 w1 35 [some (.ref o), some (.int (iI i))] (.int (iI x9) :: [.int (iI i), .ref (A 2)]) := by
      intro x9 hvx9
      refine gm_iast C hM1 (k := 2) (n := 1024) (by decide) (fun _ => rfl) dX5_crashes_35 (by decide) ?_ (fun wm4 hMm4 => ?_)
      · omega
      refine gd_iinc C dX5_crashes_36 rfl ?_
      refine gd_goto (tgt := 2) C dX5_crashes_39 (by decide) ?_
      refine ih _ (by omega) (i + 1) _ _ (by omega) (by omega) rfl hMm4 ?_ (hNi.nU (by decide) _) h7i
      have h9 := hRi.s2 (j := i / 64) (p := i % 64) (x := x9) (by omega) (by omega)
      rw [show 64 * (i / 64) + i % 64 = i by omega] at h9
      refine h9.cg (fun _ _ _ => rfl) (fun _ _ _ => ⟨rfl, rfl, rfl, rfl, rfl, rfl⟩) (fun j p a b c d => ?_)
      by_cases hj : j = i / 64
      · subst hj
        rw [fU_s]
        by_cases hp : p = i % 64
        · subst hp
          rw [fU_s]; unfold cB
          split <;> omega
        · rw [fU_n hp]; unfold cB
          split <;> split <;> omega
      · rw [fU_n hj]; unfold cB
        split <;> split <;> omega
    refine gd_icmp_ne (tgt := 29) C dX5_crashes_22 (by decide) ?_ ?_ (fun hc22 => ?_) (fun hc22 => ?_)
    · omega
    · omega
    · refine gd_aload_n C dX5_crashes_29 rfl ?_
      refine gm_get C hM1 (by decide +kernel) 2 (by decide) (by decide +kernel) rfl dX5_crashes_30 rfl ?_
      refine gd_iload_n C dX5_crashes_33 rfl ?_
      refine gd_iald C dX5_crashes_34 hM1.a2 (by decide) ?_ ?_
      · omega
      exact hj22 _ (by omega)
    · refine gd_iconst C dX5_crashes_25 ?_
      refine gd_goto (tgt := 35) C dX5_crashes_26 (by decide) ?_
      exact hj22 _ (by omega)

set_option maxRecDepth 100000 in
set_option maxHeartbeats 4000000 in
theorem kX5_steps {l : Launch} {D : va_G} {ky : Nat → ClassId} {z : Nat} {w : WT} (hl : l.stackTraces = false) {o : Nat} {A : Nat → Nat} {F : Nat → Int → Int} {G : Nat → Int} (hM : MW w ky o A F G) {T : Int → Int} {v B : Int → Int → Int} {sc dn : Int} (hR : RF F G T v B sc dn) {q y : Int} (hq : 0 ≤ q ∧ q < 16) (hy : 0 ≤ y ∧ y ≤ 64) (hb : ∀ p, -2 ≤ B q p ∧ B q p ≤ 127) : Mt l D ky z yX5_steps wsX5_steps { frames := 0, cells := 0, slots := 0, locals := 0 } [.ref o, .int (iI q), .int (iI y)] w (fun r w' => ∃ b : Int, r = some (.int (iI b)) ∧ ((b = 0 ∧ w = w' ∧ ∀ p, y ≤ p → p < 64 → B q p < 0) ∨ (b = 1 ∧ ∃ x, y ≤ x ∧ x < 64 ∧ 0 ≤ B q x ∧ (∀ p, x < p → p < 64 → B q p < 0) ∧ PM w w' ky o A F G (tkF T (B q (stF (B q) y 3 x)) (x + 1 - stF (B q) y 3 x) 0) (v) (fU B q (clF (B q) (stF (B q) y 3 x) (x + 1))) (sc) (dn) (F 7) (G 17)))) (fun _ => False) := by
  refine Mt.of (cc := cX5_steps) (ret := (some .boolean)) (maxL := 6) (by decide) rfl (by intro v hv; simp at hv; rcases hv with rfl | rfl | rfl <;> rfl) (Nat.le_of_ble_eq_true rfl) ?_ hl
  intro p e s m args below meth c C htab hret hname Q hQ
  have hMv := hM.V
  obtain ⟨hR0, hR1, hR2, hR3, hR4⟩ := id hR
  refine gd_bipush C dX5_steps_0 (by decide) ?_
  refine gd_istore_n C dX5_steps_2 (Nat.le_of_ble_eq_true rfl) ?_
  suffices hloop : ∀ (n : Nat) (x : Int), (x + 1).toNat = n → -1 ≤ x → y - 1 ≤ x → x ≤ 63 → (∀ p, x < p → p < 64 → B q p < 0) → Gd p l e ({ frames := 0, cells := 0, slots := 0, locals := 0 }) s m args below meth c D z Q 0 0 w 3 [some (.ref o), some (.int (iI q)), some (.int (iI y)), some (.int (iI x)), none, none] [] from
    hloop _ 63 rfl (by omega) (by omega) (by omega) (fun p h1 h2 => by omega)
  intro n
  induction n using Nat.strongRecOn with
  | _ n ih =>
  intro x hn h1x h2x h3x hno
  have hFx : 0 ≤ x → F 2 (64 * q + x) = B q x := fun h => hR2 q x hq.1 hq.2 h (by omega)
  have hbx := hb x
  refine gd_iload_n C dX5_steps_3 rfl ?_
  refine gd_iload_n C dX5_steps_4 rfl ?_
  refine gd_icmp_lt (tgt := 28) C dX5_steps_5 (by decide) ?_ ?_ (fun hc5 => ?_) (fun hc5 => ?_)
  · omega
  · omega
  · refine gd_iload_n C dX5_steps_28 rfl ?_
    refine gd_iload_n C dX5_steps_29 rfl ?_
    refine gd_icmp_ge (tgt := 35) C dX5_steps_30 (by decide) ?_ ?_ (fun hc30 => ?_) (fun hc30 => ?_)
    · omega
    · omega
    · exfalso; omega
    · refine gd_iconst C dX5_steps_33 ?_
      refine gd_zret C hQ hret ?_ dX5_steps_34 ?_ ?_
      · omega
      · exact ⟨0, rfl, Or.inl ⟨rfl, rfl, fun p h1 h2 => hno p (by omega) h2⟩⟩
      · decide
  · refine gd_aload_n C dX5_steps_8 rfl ?_
    refine gm_get C hMv (by decide +kernel) 2 (by decide) (by decide +kernel) rfl dX5_steps_9 rfl ?_
    refine gd_bipush C dX5_steps_12 (by decide) ?_
    refine gd_iload_n C dX5_steps_14 rfl ?_
    refine gd_imul C dX5_steps_15 ?_
    refine gd_iload_n C dX5_steps_16 rfl ?_
    refine gd_iadd C dX5_steps_17 ?_
    refine gd_iald C dX5_steps_18 hMv.a2 (by decide) ?_ ?_
    · omega
    have hF2 := hFx (by omega)
    refine gd_if_ge (tgt := 28) C dX5_steps_19 (by decide) ?_ (fun hc19 => ?_) (fun hc19 => ?_)
    · omega
    · refine gd_iload_n C dX5_steps_28 rfl ?_
      refine gd_iload_n C dX5_steps_29 rfl ?_
      refine gd_icmp_ge (tgt := 35) C dX5_steps_30 (by decide) ?_ ?_ (fun hc30 => ?_) (fun hc30 => ?_)
      · omega
      · omega
      · refine gd_aload_n C dX5_steps_35 rfl ?_
        refine gm_get C hMv (by decide +kernel) 2 (by decide) (by decide +kernel) rfl dX5_steps_36 rfl ?_
        refine gd_bipush C dX5_steps_39 (by decide) ?_
        refine gd_iload_n C dX5_steps_41 rfl ?_
        refine gd_imul C dX5_steps_42 ?_
        refine gd_iload_n C dX5_steps_43 rfl ?_
        refine gd_iadd C dX5_steps_44 ?_
        refine gd_iald C dX5_steps_45 hMv.a2 (by decide) ?_ ?_
        · omega
        refine gd_istore C dX5_steps_46 (Nat.le_of_ble_eq_true rfl) ?_
        refine gd_iconst C dX5_steps_48 ?_
        refine gd_istore C dX5_steps_49 (Nat.le_of_ble_eq_true rfl) ?_
        generalize hbl : F 2 (64 * q + x) = bl
        have hbl0 : 0 ≤ bl := by omega
        have hblx : B q x = bl := by omega
        suffices hloop2 : ∀ (n : Nat) (k : Int) (w1 : WT) (F1 : Nat → Int → Int), (4 - k).toNat = n → 0 ≤ k → k ≤ 4 → MV w w1 ky o A F1 G → RF F1 G (tkF T (bl + 1 - k) k 0) v (fU B q (clF (B q) (x + 1 - k) (x + 1))) sc dn → FN F F1 → F1 7 = F 7 → (k = 0 ∨ (1 ≤ k ∧ y ≤ x - (k - 1) ∧ B q (x - (k - 1)) = bl - (k - 1) ∧ 0 ≤ bl - (k - 1) ∧ stF (B q) y 3 x = stF (B q) y (4 - k).toNat (x - (k - 1)))) → Gd p l e ({ frames := 0, cells := 0, slots := 0, locals := 0 }) s m args below meth c D z Q 0 0 w1 51 [some (.ref o), some (.int (iI q)), some (.int (iI y)), some (.int (iI x)), some (.int (iI bl)), some (.int (iI k))] [] from
          hloop2 _ 0 w F rfl (by omega) (by omega) hMv (by rw [tkF_0, Int.sub_zero, clF_0, fU_id]; exact hR) (FN.rf F) rfl (Or.inl rfl)
        clear ih hn
        intro n
        induction n using Nat.strongRecOn with
        | _ n ih =>
        intro k w1 F1 hn h1k h2k hM1 hRi hNi h7i hst
        have hFk : 0 ≤ x - k → F1 2 (64 * q + x - k) = B q (x - k) := fun h => by
          have h1 := hRi.2.2.1 q (x - k) hq.1 hq.2 h (by omega)
          rw [show 64 * q + (x - k) = 64 * q + x - k by omega, fU_s, clF_lt (by omega)] at h1
          exact h1
        have hbk := hb (x - k)
        have hjn := jN_iff (B q) (x - (k - 1))
        rw [show x - (k - 1) - 1 = x - k by omega] at hjn
        refine gd_iload C dX5_steps_51 rfl ?_
        refine gd_iconst C dX5_steps_53 ?_
        refine gd_icmp_ge (tgt := 127) C dX5_steps_54 (by decide) ?_ ?_ (fun hc54 => ?_) (fun hc54 => ?_)
        · omega
        · omega
        · refine gd_iconst C dX5_steps_127 ?_
          refine gd_zret C hQ hret ?_ dX5_steps_128 ?_ ?_
          · omega
          · have hk1 : 1 ≤ k := by
              rcases hst with hst | hst
              · exfalso
                subst hst
                have h7 := hFk (by omega)
                rw [show (x - 0 : Int) = x from Int.sub_zero x] at h7
                omega
              · exact hst.1
            obtain ⟨s1, s2, s3, s4, s5⟩ := hst.resolve_left (by omega)
            have s6 : stF (B q) y 3 x = x - (k - 1) := by
              rw [s5]
              by_cases h4 : k = 4
              · subst h4; rfl
              · rw [show (4 - k).toNat = (4 - (k + 1)).toNat + 1 by omega]
                refine if_neg (fun h8 => ?_)
                obtain ⟨j1, j2, j3, j4⟩ := hjn.mp h8.2
                have h7 := hFk (by omega)
                omega
            refine ⟨1, rfl, Or.inr ⟨rfl, x, by omega, by omega, by omega, hno, ?_⟩⟩
            rw [s6, s3, show bl - (k - 1) = bl + 1 - k by omega, show x + 1 - (x - (k - 1)) = k by omega, show x - (k - 1) = x + 1 - k by omega]
            exact ⟨_, _, hM1, hRi, hNi, h7i, rfl, rfl⟩
          · decide
        · refine gd_iload_n C dX5_steps_57 rfl ?_
          refine gd_iload C dX5_steps_58 rfl ?_
          refine gd_isub C dX5_steps_60 ?_
          refine gd_iload_n C dX5_steps_61 rfl ?_
          refine gd_icmp_lt (tgt := 127) C dX5_steps_62 (by decide) ?_ ?_ (fun hc62 => ?_) (fun hc62 => ?_)
          · omega
          · omega
          · refine gd_iconst C dX5_steps_127 ?_
            refine gd_zret C hQ hret ?_ dX5_steps_128 ?_ ?_
            · omega
            · have hk1 : 1 ≤ k := by
                rcases hst with hst | hst
                · exfalso
                  subst hst
                  have h7 := hFk (by omega)
                  rw [show (x - 0 : Int) = x from Int.sub_zero x] at h7
                  omega
                · exact hst.1
              obtain ⟨s1, s2, s3, s4, s5⟩ := hst.resolve_left (by omega)
              have s6 : stF (B q) y 3 x = x - (k - 1) := by
                rw [s5]
                by_cases h4 : k = 4
                · subst h4; rfl
                · rw [show (4 - k).toNat = (4 - (k + 1)).toNat + 1 by omega]
                  refine if_neg (fun h8 => ?_)
                  obtain ⟨j1, j2, j3, j4⟩ := hjn.mp h8.2
                  have h7 := hFk (by omega)
                  omega
              refine ⟨1, rfl, Or.inr ⟨rfl, x, by omega, by omega, by omega, hno, ?_⟩⟩
              rw [s6, s3, show bl - (k - 1) = bl + 1 - k by omega, show x + 1 - (x - (k - 1)) = k by omega, show x - (k - 1) = x + 1 - k by omega]
              exact ⟨_, _, hM1, hRi, hNi, h7i, rfl, rfl⟩
            · decide
          · refine gd_iload C dX5_steps_65 rfl ?_
            refine gd_iload C dX5_steps_67 rfl ?_
            refine gd_isub C dX5_steps_69 ?_
            refine gd_if_lt (tgt := 127) C dX5_steps_70 (by decide) ?_ (fun hc70 => ?_) (fun hc70 => ?_)
            · omega
            · refine gd_iconst C dX5_steps_127 ?_
              refine gd_zret C hQ hret ?_ dX5_steps_128 ?_ ?_
              · omega
              · have hk1 : 1 ≤ k := by
                  rcases hst with hst | hst
                  · exfalso
                    subst hst
                    have h7 := hFk (by omega)
                    rw [show (x - 0 : Int) = x from Int.sub_zero x] at h7
                    omega
                  · exact hst.1
                obtain ⟨s1, s2, s3, s4, s5⟩ := hst.resolve_left (by omega)
                have s6 : stF (B q) y 3 x = x - (k - 1) := by
                  rw [s5]
                  by_cases h4 : k = 4
                  · subst h4; rfl
                  · rw [show (4 - k).toNat = (4 - (k + 1)).toNat + 1 by omega]
                    refine if_neg (fun h8 => ?_)
                    obtain ⟨j1, j2, j3, j4⟩ := hjn.mp h8.2
                    have h7 := hFk (by omega)
                    omega
                refine ⟨1, rfl, Or.inr ⟨rfl, x, by omega, by omega, by omega, hno, ?_⟩⟩
                rw [s6, s3, show bl - (k - 1) = bl + 1 - k by omega, show x + 1 - (x - (k - 1)) = k by omega, show x - (k - 1) = x + 1 - k by omega]
                exact ⟨_, _, hM1, hRi, hNi, h7i, rfl, rfl⟩
              · decide
            · refine gd_aload_n C dX5_steps_73 rfl ?_
              refine gm_get C hM1 (by decide +kernel) 2 (by decide) (by decide +kernel) rfl dX5_steps_74 rfl ?_
              refine gd_bipush C dX5_steps_77 (by decide) ?_
              refine gd_iload_n C dX5_steps_79 rfl ?_
              refine gd_imul C dX5_steps_80 ?_
              refine gd_iload_n C dX5_steps_81 rfl ?_
              refine gd_iadd C dX5_steps_82 ?_
              refine gd_iload C dX5_steps_83 rfl ?_
              refine gd_isub C dX5_steps_85 ?_
              refine gd_iald C dX5_steps_86 hM1.a2 (by decide) ?_ ?_
              · omega
              refine gd_iload C dX5_steps_87 rfl ?_
              refine gd_iload C dX5_steps_89 rfl ?_
              refine gd_isub C dX5_steps_91 ?_
              have hF2 := hFk (by omega)
              refine gd_icmp_ne (tgt := 127) C dX5_steps_92 (by decide) ?_ ?_ (fun hc92 => ?_) (fun hc92 => ?_)
              · omega
              · omega
              · refine gd_iconst C dX5_steps_127 ?_
                refine gd_zret C hQ hret ?_ dX5_steps_128 ?_ ?_
                · omega
                · have hk1 : 1 ≤ k := by
                    rcases hst with hst | hst
                    · exfalso
                      subst hst
                      have h7 := hFk (by omega)
                      rw [show (x - 0 : Int) = x from Int.sub_zero x] at h7
                      omega
                    · exact hst.1
                  obtain ⟨s1, s2, s3, s4, s5⟩ := hst.resolve_left (by omega)
                  have s6 : stF (B q) y 3 x = x - (k - 1) := by
                    rw [s5]
                    by_cases h4 : k = 4
                    · subst h4; rfl
                    · rw [show (4 - k).toNat = (4 - (k + 1)).toNat + 1 by omega]
                      refine if_neg (fun h8 => ?_)
                      obtain ⟨j1, j2, j3, j4⟩ := hjn.mp h8.2
                      have h7 := hFk (by omega)
                      omega
                  refine ⟨1, rfl, Or.inr ⟨rfl, x, by omega, by omega, by omega, hno, ?_⟩⟩
                  rw [s6, s3, show bl - (k - 1) = bl + 1 - k by omega, show x + 1 - (x - (k - 1)) = k by omega, show x - (k - 1) = x + 1 - k by omega]
                  exact ⟨_, _, hM1, hRi, hNi, h7i, rfl, rfl⟩
                · decide
              · refine gd_aload_n C dX5_steps_95 rfl ?_
                refine gm_get C hM1 (by decide +kernel) 2 (by decide) (by decide +kernel) rfl dX5_steps_96 rfl ?_
                refine gd_bipush C dX5_steps_99 (by decide) ?_
                refine gd_iload_n C dX5_steps_101 rfl ?_
                refine gd_imul C dX5_steps_102 ?_
                refine gd_iload_n C dX5_steps_103 rfl ?_
                refine gd_iadd C dX5_steps_104 ?_
                refine gd_iload C dX5_steps_105 rfl ?_
                refine gd_isub C dX5_steps_107 ?_
                refine gd_iconst C dX5_steps_108 ?_
                refine gm_iast C hM1 (k := 2) (n := 1024) (by decide) (fun _ => rfl) dX5_steps_109 (by decide) ?_ (fun wm1 hMm1 => ?_)
                · omega
                refine gd_aload_n C dX5_steps_110 rfl ?_
                refine gm_get C hMm1 (by decide +kernel) 0 (by decide) (by decide +kernel) rfl dX5_steps_111 rfl ?_
                refine gd_iload C dX5_steps_114 rfl ?_
                refine gd_iload C dX5_steps_116 rfl ?_
                refine gd_isub C dX5_steps_118 ?_
                refine gd_iconst C dX5_steps_119 ?_
                refine gm_zast C hMm1 (k := 0) (n := 128) (by decide) (fun _ => rfl) dX5_steps_120 (by decide) ?_ ?_ (fun wm2 hMm2 => ?_)
                · omega
                · omega
                refine gd_iinc C dX5_steps_121 rfl ?_
                refine gd_goto (tgt := 51) C dX5_steps_124 (by decide) ?_
                refine ih _ (by omega) (k + 1) _ _ rfl (by omega) (by omega) hMm2 ?_ ((hNi.nU (by decide) _).nU (by decide) _) h7i (Or.inr ?_)
                · have h9 := (hRi.s2 (j := q) (p := x - k) (x := -1) hq (by omega)).s0 (i := bl - k) (x := 1) (y := 0) (by decide)
                  rw [show 64 * q + (x - k) = 64 * q + x - k by omega, fU_s, fU_ss] at h9
                  have e1 := tkF_d (T := T) (a := bl + 1 - k) (n := k) (x := 0) h1k
                  have e2 := clF_d' (f := B q) (a := x + 1 - k) (b := x + 1) (by omega)
                  rw [show bl + 1 - k - 1 = bl - k by omega] at e1
                  rw [show x + 1 - k - 1 = x - k by omega] at e2
                  rw [show bl + 1 - (k + 1) = bl - k by omega, show x + 1 - (k + 1) = x - k by omega, e1, e2]
                  exact h9
                · rw [show x - (k + 1 - 1) = x - k by omega]
                  refine ⟨by omega, by omega, by omega, by omega, ?_⟩
                  rcases hst with hst | hst
                  · subst hst
                    rw [Int.sub_zero]; rfl
                  · obtain ⟨s1, s2, s3, s4, s5⟩ := hst
                    rw [s5, show (4 - k).toNat = (4 - (k + 1)).toNat + 1 by omega]
                    have h8 : y < x - (k - 1) ∧ jN (B q) (x - (k - 1)) = 1 := ⟨by omega, hjn.mpr ⟨by omega, by omega, by omega, by omega⟩⟩
                    show (if y < x - (k - 1) ∧ jN (B q) (x - (k - 1)) = 1 then _ else _) = _
                    rw [if_pos h8, show x - (k - 1) - 1 = x - k by omega]
      · exfalso; omega
    · refine gd_iinc C dX5_steps_22 rfl ?_
      refine gd_goto (tgt := 3) C dX5_steps_25 (by decide) ?_
      refine ih _ (by omega) (x + -1) rfl (by omega) (by omega) (by omega) (fun p h1 h2 => ?_)
      by_cases hp : p = x
      · subst hp; omega
      · exact hno p (by omega) h2

set_option maxRecDepth 100000 in
set_option maxHeartbeats 4000000 in
theorem kX5_cuts {l : Launch} {D : va_G} {ky : Nat → ClassId} {z : Nat} {w : WT} (hl : l.stackTraces = false) {o : Nat} {A : Nat → Nat} {F : Nat → Int → Int} {G : Nat → Int} (hM : MW w ky o A F G) {T : Int → Int} {v B : Int → Int → Int} {sc dn : Int} (hR : RF F G T v B sc dn) {q y : Int} (hq : 0 ≤ q ∧ q < 16) (hy : 0 ≤ y ∧ y ≤ 64) (hk : K67 v) (hb : ∀ j, 0 ≤ j → j < 16 → ∀ p, -2 ≤ B j p ∧ B j p ≤ 127) (hsc : sc = -1 ∨ 1 ≤ sc ∧ sc ≤ 50) : Mt l D ky z yX5_cuts wsX5_cuts { frames := 2, cells := 0, slots := 0, locals := 43 } [.ref o, .int (iI q), .int (iI y)] w (fun r w' => ((ctS y (64 - (y : Int)).toNat (tkF T (v q 6) (v q 7) 0) (drF (B q) y 64) sc 0).1 = 1 ∧ r = some (.int (iI (-1))) ∧ PM w w' ky o A F G (rlT (fU v q (fU (v q) 7 0)) (ctS y (64 - (y : Int)).toNat (tkF T (v q 6) (v q 7) 0) (drF (B q) y 64) sc 0).2.1 16) (crV (fU v q (fU (v q) 7 0)) 16) (flB (fU B q (ctS y (64 - (y : Int)).toNat (tkF T (v q 6) (v q 7) 0) (drF (B q) y 64) sc 0).2.2.1) 16) (-1) (1) (F 7) (G 17)) ∨ ((ctS y (64 - (y : Int)).toNat (tkF T (v q 6) (v q 7) 0) (drF (B q) y 64) sc 0).1 = 0 ∧ r = some (.int (iI (ctS y (64 - (y : Int)).toNat (tkF T (v q 6) (v q 7) 0) (drF (B q) y 64) sc 0).2.2.2.2)) ∧ PM w w' ky o A F G ((ctS y (64 - (y : Int)).toNat (tkF T (v q 6) (v q 7) 0) (drF (B q) y 64) sc 0).2.1) ((fU v q (fU (v q) 7 0))) (fU B q (ctS y (64 - (y : Int)).toNat (tkF T (v q 6) (v q 7) 0) (drF (B q) y 64) sc 0).2.2.1) ((ctS y (64 - (y : Int)).toNat (tkF T (v q 6) (v q 7) 0) (drF (B q) y 64) sc 0).2.2.2.1) (dn) (fU (F 7) q (-1)) (G 17))) (fun _ => False) := by
  refine Mt.of (cc := cX5_cuts) (ret := (some .int)) (maxL := 4) (by decide) rfl (by intro v hv; simp at hv; rcases hv with rfl | rfl | rfl <;> rfl) (Nat.le_of_ble_eq_true rfl) ?_ hl
  intro p e s m args below meth c C htab hret hname Q hQ
  have hMv := hM.V
  obtain ⟨hR0, hR1, hR2, hR3, hR4⟩ := id hR
  refine gd_iload_n C dX5_cuts_0 rfl ?_
  refine gd_istore_n C dX5_cuts_1 (Nat.le_of_ble_eq_true rfl) ?_
  suffices hloop : ∀ (n : Nat) (i : Int) (w1 : WT) (F1 : Nat → Int → Int), y ≤ i → i ≤ 64 → (64 - i).toNat = n → MV w w1 ky o A F1 G → RF F1 G T v (fU B q (drF (B q) y i)) sc dn → FN F F1 → F1 7 = F 7 → Gd p l e ({ frames := 2, cells := 0, slots := 0, locals := 43 }) s m args below meth c D z Q 0 0 w1 2 [some (.ref o), some (.int (iI q)), some (.int (iI y)), some (.int (iI i))] [] from
    hloop _ y w F (by omega) (by omega) rfl hMv (by rw [drF_0, fU_id]; exact hR) (FN.rf F) rfl
  intro n
  induction n using Nat.strongRecOn with
  | _ n ih =>
  intro i w1 F1 h1i h2i hn hM1 hRi hNi h7i
  have hFi : i < 64 → F1 2 (64 * q + i) = B q i := fun h => by
    have h1 := hRi.2.2.1 q i hq.1 hq.2 (by omega) h
    rwa [fU_s, drF_ge (Int.le_refl _)] at h1
  have hbi := hb q hq.1 hq.2 i
  refine gd_iload_n C dX5_cuts_2 rfl ?_
  refine gd_bipush C dX5_cuts_3 (by decide) ?_
  refine gd_icmp_ge (tgt := 56) C dX5_cuts_5 (by decide) ?_ ?_ (fun hc5 => ?_) (fun hc5 => ?_)
  · omega
  · omega
  · refine gd_aload_n C dX5_cuts_56 rfl ?_
    refine gd_iload_n C dX5_cuts_57 rfl ?_
    refine gd_callV (n := 1) (ci := 5) (Cn := RX5) (T := TX5) (N := 18) C (kX5_freesKept hl hM1.1 hRi (q := q) hq (hk q hq.1 hq.2)) ?_ rfl gX5_cuts_X5_freesKept rfl ⟨rfl, by decide, by decide, by decide +kernel⟩ rfl rfl (Nat.le_of_ble_eq_true rfl) rfl dX5_cuts_58 ⟨⟨by decide, by decide⟩, by decide, by decide⟩ (fun _ h => h.elim) ?_
    · exact ⟨_, by exact hM1.ob⟩
    rintro _ w2 ⟨rfl, F2, G2, hM2, hR2b, hN2, h72, h142, h172⟩
    have e64 : i = 64 := by omega
    subst e64
    replace hM2 := hM1.tr hM2
    replace hN2 := hNi.tr hN2
    replace h72 := h72.trans h7i
    refine gd_iconst C dX5_cuts_61 ?_
    refine gd_istore_n C dX5_cuts_62 (Nat.le_of_ble_eq_true rfl) ?_
    suffices hloop2 : ∀ (kk : Nat) (n3 : Int) (T3 f3 : Int → Int) (sc3 : Int) (w3 : WT) (F3 : Nat → Int → Int) (G3 : Nat → Int), (kk : Int) ≤ 64 - y → (∀ p, y + kk ≤ p → p < 64 → f3 p < 0) → (∀ p, -2 ≤ f3 p ∧ f3 p ≤ 127) → (sc3 = -1 ∨ 1 ≤ sc3 ∧ sc3 ≤ 50) → (ctS y (64 - (y : Int)).toNat (tkF T (v q 6) (v q 7) 0) (drF (B q) y 64) sc 0) = ctS y kk T3 f3 sc3 n3 → MV w w3 ky o A F3 G3 → RF F3 G3 T3 (fU v q (fU (v q) 7 0)) (fU B q f3) sc3 dn → FN F F3 → F3 7 = F 7 → G3 14 = G 14 → G3 17 = G 17 → Gd p l e ({ frames := 2, cells := 0, slots := 0, locals := 43 }) s m args below meth c D z Q 0 0 w3 63 [some (.ref o), some (.int (iI q)), some (.int (iI y)), some (.int (iI n3))] [] from
      hloop2 _ 0 _ _ sc _ _ _ (by omega) (fun p h1 h2 => by omega) (drF_bd (hb q hq.1 hq.2)) hsc rfl hM2 hR2b hN2 h72 h142 h172
    clear ih
    intro kk
    induction kk using Nat.strongRecOn with
    | _ kk ih =>
    intro n3 T3 f3 sc3 w3 F3 G3 hk3 hno3 hb3 hsc3 hct hM3 hR3b hN3 h73 h143 h173
    have hG16 : G3 16 = crI sc3 := hR3b.2.2.2.2
    have hcr : crI sc3 = 0 ∧ sc3 = -1 ∨ crI sc3 = sc3 ∧ 1 ≤ sc3 := by unfold crI; split <;> omega
    refine gd_aload_n C dX5_cuts_63 rfl ?_
    refine gd_iload_n C dX5_cuts_64 rfl ?_
    refine gd_iload_n C dX5_cuts_65 rfl ?_
    refine gd_callV (n := 2) (ci := 5) (Cn := RX5) (T := TX5) (N := 18) C (kX5_steps hl hM3.1 hR3b (q := q) (y := y) hq hy ?_) ?_ rfl gX5_cuts_X5_steps rfl ⟨rfl, by decide, by decide, by decide +kernel⟩ rfl rfl (Nat.le_of_ble_eq_true rfl) rfl dX5_cuts_66 ⟨⟨by decide, by decide⟩, by decide, by decide⟩ (fun _ h => h.elim) ?_
    · rw [fU_s]; exact hb3
    · exact ⟨_, by exact hM3.ob⟩
    rintro _ w5 ⟨b9, rfl, hst2⟩
    have hb9 : b9 = 0 ∨ b9 = 1 := by rcases hst2 with h9 | h9 <;> omega
    refine gd_if_eq (tgt := 105) C dX5_cuts_69 (by decide) ?_ (fun hc69 => ?_) (fun hc69 => ?_)
    · omega
    · obtain ⟨-, hw5, hno5⟩ := hst2.resolve_right (fun h9 => by omega)
      subst hw5
      refine gd_aload_n C dX5_cuts_105 rfl ?_
      refine gm_get C hM3 (by decide +kernel) 7 (by decide) (by decide +kernel) rfl dX5_cuts_106 rfl ?_
      refine gd_iload_n C dX5_cuts_109 rfl ?_
      refine gd_iconst C dX5_cuts_110 ?_
      refine gm_iast C hM3 (k := 7) (n := 16) (by decide) (fun _ => rfl) dX5_cuts_111 (by decide) ?_ (fun wm1 hMm1 => ?_)
      · omega
      refine gd_iload_n C dX5_cuts_112 rfl ?_
      refine gd_iret C hQ hret dX5_cuts_113 ?_ ?_
      · refine Or.inr ?_
        have e5 : ctS y kk T3 f3 sc3 n3 = ctS y 0 T3 f3 sc3 n3 := ctS_skip kk (Nat.zero_le _) (fun p h1 h2 => by have := hno5 p (by omega) (by omega); rwa [fU_s] at this)
        rw [hct, e5]
        exact ⟨rfl, rfl, _, _, hMm1, hR3b.n (Or.inl rfl) _, hN3.nU (by decide) _, by rw [nU_s, h73], h143, h173⟩
      · decide
    · replace hst2 := hst2.resolve_left (fun h9 => by omega)
      replace hst2 := hst2.2
      obtain ⟨x, hx1, hx2, hx3, hx4, F5, G5, hM5, hR5, hN5, h75, h145, h175⟩ := hst2
      have hG5 : G5 16 = crI sc3 := hR5.2.2.2.2
      rw [fU_s] at hx3 hR5
      rw [fU_ss] at hR5
      have hst := stF_spec f3 y 3 x
      have hxb : x < y + kk := by
        by_cases hxx : y + kk ≤ x
        · have := hno3 x hxx hx2
          omega
        · omega
      have hct5 : ctS y kk T3 f3 sc3 n3 = ctS y ((x - y).toNat + 1) T3 f3 sc3 n3 := ctS_skip kk (by omega) (fun p h1 h2 => by have := hx4 p (by omega) (by omega); rwa [fU_s] at this)
      have hxk : x = y + ((x - y).toNat : Int) := by omega
      have hb5 : ∀ p, -2 ≤ clF f3 (stF f3 y 3 x) (x + 1) p ∧ clF f3 (stF f3 y 3 x) (x + 1) p ≤ 127 := clF_bd hb3
      have hno5 : ∀ p, y + ((x - y).toNat : Int) ≤ p → p < 64 → clF f3 (stF f3 y 3 x) (x + 1) p < 0 := fun p h1 h2 => by
        unfold clF
        split
        · decide
        · have := hx4 p (by omega) h2
          rwa [fU_s] at this
      replace hM5 := hM3.tr hM5
      replace hN5 := hN3.tr hN5
      replace h75 := h75.trans h73
      replace h145 := h145.trans h143
      replace h175 := h175.trans h173
      refine gd_iinc C dX5_cuts_72 rfl ?_
      refine gd_aload_n C dX5_cuts_75 rfl ?_
      refine gm_get C hM5 (by decide +kernel) 16 (by decide) (by decide +kernel) rfl dX5_cuts_76 rfl ?_
      refine gd_if_le (tgt := 63) C dX5_cuts_79 (by decide) ?_ (fun hc79 => ?_) (fun hc79 => ?_)
      · omega
      · first
          | exact ih _ (by omega) _ _ _ _ _ _ _ (by omega) hno5 hb5 hsc3 (hct.trans (by rw [hct5, ctS_st hxk hx3 (by omega), if_pos (by omega)])) hM5 hR5 hN5 h75 h145 h175
          | exact ih _ (by omega) _ _ _ (sc3 - 1) _ _ _ (by omega) hno5 hb5 (by omega) (hct.trans (by rw [hct5, ctS_st hxk hx3 (by omega), if_neg (by omega)])) hM5 (hR5.g hR5.2.2.2.1 (by show G5 16 - 1 = crI (sc3 - 1); unfold crI; rw [if_neg (by omega)]; omega)) hN5 h75 h145 h175
      · refine gd_aload_n C dX5_cuts_82 rfl ?_
        refine gd_dup C dX5_cuts_83 rfl ?_
        refine gm_get C hM5 (by decide +kernel) 16 (by decide) (by decide +kernel) rfl dX5_cuts_84 rfl ?_
        refine gd_iconst C dX5_cuts_87 ?_
        refine gd_isub C dX5_cuts_88 ?_
        refine gm_put C hM5 (by decide +kernel) 16 (by decide) (by decide +kernel) rfl rfl dX5_cuts_89 rfl rfl rfl (fun wm2 hMm2 => ?_)
        refine gd_aload_n C dX5_cuts_92 rfl ?_
        refine gm_get C hMm2 (by decide +kernel) 16 (by decide) (by decide +kernel) rfl dX5_cuts_93 (v := .int (iI (G5 16 - 1))) rfl ?_
        refine gd_if_ne (tgt := 63) C dX5_cuts_96 (by decide) ?_ (fun hc96 => ?_) (fun hc96 => ?_)
        · omega
        · first
            | exact ih _ (by omega) _ _ _ _ _ _ _ (by omega) hno5 hb5 hsc3 (hct.trans (by rw [hct5, ctS_st hxk hx3 (by omega), if_pos (by omega)])) hMm2 hR5 hN5 h75 h145 h175
            | exact ih _ (by omega) _ _ _ (sc3 - 1) _ _ _ (by omega) hno5 hb5 (by omega) (hct.trans (by rw [hct5, ctS_st hxk hx3 (by omega), if_neg (by omega)])) hMm2 (hR5.g hR5.2.2.2.1 (by show G5 16 - 1 = crI (sc3 - 1); unfold crI; rw [if_neg (by omega)]; omega)) hN5 h75 h145 h175
        · refine gd_aload_n C dX5_cuts_99 rfl ?_
          refine gd_callV (n := 0) (ci := 5) (Cn := RX5) (T := TX5) (N := 18) C (kX5_crashes hl hMm2.1 (hR5.g (dn' := dn) (sc' := 0) hR5.2.2.2.1 (by show G5 16 - 1 = 0; omega)) (K67.rl hk q) ?_) ?_ rfl gX5_cuts_X5_crashes rfl ⟨rfl, by decide, by decide, by decide +kernel⟩ rfl rfl (Nat.le_of_ble_eq_true rfl) rfl dX5_cuts_100 ⟨⟨by decide, by decide⟩, by decide, by decide⟩ (fun _ h => h.elim) ?_
          · intro j j1 j2 p
            unfold fU
            split
            · exact hb5 p
            · exact hb j j1 j2 p
          · exact ⟨_, by exact hMm2.ob⟩
          rintro _ w6 ⟨rfl, F6, G6, hM6, hR6, hN6, h76, h146, h176⟩
          replace hM6 := hMm2.tr hM6
          refine gd_iconst C dX5_cuts_103 ?_
          refine gd_iret C hQ hret dX5_cuts_104 ?_ ?_
          · refine Or.inl ?_
            rw [hct, hct5, ctS_cr hxk hx3 (by omega)]
            exact ⟨rfl, rfl, F6, G6, hM6, hR6, hN5.tr hN6, h76.trans h75, h146.trans h145, h176.trans h175⟩
          · decide
  · refine gd_aload_n C dX5_cuts_8 rfl ?_
    refine gm_get C hM1 (by decide +kernel) 2 (by decide) (by decide +kernel) rfl dX5_cuts_9 rfl ?_
    refine gd_bipush C dX5_cuts_12 (by decide) ?_
    refine gd_iload_n C dX5_cuts_14 rfl ?_
    refine gd_imul C dX5_cuts_15 ?_
    refine gd_iload_n C dX5_cuts_16 rfl ?_
    refine gd_iadd C dX5_cuts_17 ?_
    refine gd_aload_n C dX5_cuts_18 rfl ?_
    refine gm_get C hM1 (by decide +kernel) 2 (by decide) (by decide +kernel) rfl dX5_cuts_19 rfl ?_
    refine gd_bipush C dX5_cuts_22 (by decide) ?_
    refine gd_iload_n C dX5_cuts_24 rfl ?_
    refine gd_imul C dX5_cuts_25 ?_
    refine gd_iload_n C dX5_cuts_26 rfl ?_
    refine gd_iadd C dX5_cuts_27 ?_
    refine gd_iald C dX5_cuts_28 hM1.a2 (by decide) ?_ ?_
    · omega
    refine gd_bipush C dX5_cuts_29 (by decide) ?_
    have hj31 : ∀ x9 : Int, (x9 = -1 ∧ B q i = -2 ∨ x9 = B q i ∧ B q i ≠ -2) → Gd p l e ({ frames := 2, cells := 0, slots := 0, locals := 43 }) s m args below meth c D z Q 0 0 w1 49 [some (.ref o), some (.int (iI q)), some (.int (iI y)), some (.int (iI i))] (.int (iI x9) :: [.int (iI (64 * q + i)), .ref (A 2)]) := by
      intro x9 hvx9
      refine gm_iast C hM1 (k := 2) (n := 1024) (by decide) (fun _ => rfl) dX5_cuts_49 (by decide) ?_ (fun wm3 hMm3 => ?_)
      · omega
      refine gd_iinc C dX5_cuts_50 rfl ?_
      refine gd_goto (tgt := 2) C dX5_cuts_53 (by decide) ?_
      refine ih _ (by omega) (i + 1) _ _ (by omega) (by omega) rfl hMm3 ?_ (hNi.nU (by decide) _) h7i
      have h9 := hRi.s2 (j := q) (p := i) (x := x9) hq (by omega)
      rw [fU_s, fU_ss] at h9
      have e1 : fU (drF (B q) y i) i x9 = drF (B q) y (i + 1) := by
        rcases hvx9 with ⟨e1, e2⟩ | ⟨e1, e2⟩
        · rw [drF_t h1i (by omega), e1]
        · rw [drF_f (by omega)]
          exact fU_idd (by rw [drF_ge (Int.le_refl _)]; omega)
      rwa [e1] at h9
    refine gd_icmp_ne (tgt := 38) C dX5_cuts_31 (by decide) ?_ ?_ (fun hc31 => ?_) (fun hc31 => ?_)
    · omega
    · omega
    · refine gd_aload_n C dX5_cuts_38 rfl ?_
      refine gm_get C hM1 (by decide +kernel) 2 (by decide) (by decide +kernel) rfl dX5_cuts_39 rfl ?_
      refine gd_bipush C dX5_cuts_42 (by decide) ?_
      refine gd_iload_n C dX5_cuts_44 rfl ?_
      refine gd_imul C dX5_cuts_45 ?_
      refine gd_iload_n C dX5_cuts_46 rfl ?_
      refine gd_iadd C dX5_cuts_47 ?_
      refine gd_iald C dX5_cuts_48 hM1.a2 (by decide) ?_ ?_
      · omega
      exact hj31 _ (by omega)
    · refine gd_iconst C dX5_cuts_34 ?_
      refine gd_goto (tgt := 49) C dX5_cuts_35 (by decide) ?_
      exact hj31 _ (by omega)
