set_option maxRecDepth 100000 in
set_option maxHeartbeats 4000000 in
theorem kX5_ends {l : Launch} {D : va_G} {ky : Nat → ClassId} {z : Nat} {w : WT} (hl : l.stackTraces = false) {o : Nat} {A : Nat → Nat} {F : Nat → Int → Int} {G : Nat → Int} (hM : MW w ky o A F G) {T : Int → Int} {v B : Int → Int → Int} {sc dn : Int} (hR : RF F G T v B sc dn) {q : Int} (hq : 0 ≤ q ∧ q < 16) (hk : K67 v) (hb : ∀ j, 0 ≤ j → j < 16 → ∀ p, -2 ≤ B j p ∧ B j p ≤ 127) (hsc : sc = -1 ∨ 1 ≤ sc ∧ sc ≤ 50) : Mt l D ky z yX5_ends wsX5_ends { frames := 3, cells := 0, slots := 0, locals := 66 } [.ref o, .int (iI q)] w (fun r w' => ∃ b : Int, r = some (.int (iI b)) ∧ ((b = 0 ∧ (ctS 0 (64 - (0 : Int)).toNat (tkF T (v q 6) (v q 7) 0) (drF (B q) 0 64) sc 0).1 = 1 ∧ PM w w' ky o A F G (rlT (fU v q (fU (v q) 7 0)) (ctS 0 (64 - (0 : Int)).toNat (tkF T (v q 6) (v q 7) 0) (drF (B q) 0 64) sc 0).2.1 16) (crV (fU v q (fU (v q) 7 0)) 16) (flB (fU B q (ctS 0 (64 - (0 : Int)).toNat (tkF T (v q 6) (v q 7) 0) (drF (B q) 0 64) sc 0).2.2.1) 16) (-1) (1) (F 7) (G 17)) ∨ (b = 1 ∧ (ctS 0 (64 - (0 : Int)).toNat (tkF T (v q 6) (v q 7) 0) (drF (B q) 0 64) sc 0).1 = 0 ∧ PM w w' ky o A F G ((ctS 0 (64 - (0 : Int)).toNat (tkF T (v q 6) (v q 7) 0) (drF (B q) 0 64) sc 0).2.1) ((fU v q (fU (fU (fU (v q) 7 0) 2 0) 9 0))) (fU B q (ctS 0 (64 - (0 : Int)).toNat (tkF T (v q 6) (v q 7) 0) (drF (B q) 0 64) sc 0).2.2.1) ((ctS 0 (64 - (0 : Int)).toNat (tkF T (v q 6) (v q 7) 0) (drF (B q) 0 64) sc 0).2.2.2.1) (dn) (fU (F 7) q (-1)) (G 17)))) (fun _ => False) := by
  refine Mt.of (cc := cX5_ends) (ret := (some .boolean)) (maxL := 2) (by decide) rfl (by intro v hv; simp at hv; rcases hv with rfl | rfl <;> rfl) (Nat.le_of_ble_eq_true rfl) ?_ hl
  intro p e s m args below meth c C htab hret hname Q hQ
  have hMv := hM.V
  obtain ⟨hR0, hR1, hR2, hR3, hR4⟩ := id hR
  refine gd_aload_n C dX5_ends_0 rfl ?_
  refine gd_iload_n C dX5_ends_1 rfl ?_
  refine gd_iconst C dX5_ends_2 ?_
  refine gd_callV (n := 2) (ci := 5) (Cn := RX5) (T := TX5) (N := 18) C (kX5_cuts hl hM hR (q := q) (y := 0) hq ⟨by omega, by omega⟩ hk hb hsc) ?_ rfl gX5_ends_X5_cuts rfl ⟨rfl, by decide, by decide, by decide +kernel⟩ rfl rfl (Nat.le_of_ble_eq_true rfl) rfl dX5_ends_3 ⟨⟨by decide, by decide⟩, by decide, by decide⟩ (fun _ h => h.elim) ?_
  · exact ⟨_, by exact hMv.ob⟩
  rintro r5 w5 hct
  obtain ⟨x9, rfl, hx⟩ : ∃ x9 : Int, r5 = some (.int (iI x9)) ∧ ((x9 = -1 ∧ (ctS 0 (64 - (0 : Int)).toNat (tkF T (v q 6) (v q 7) 0) (drF (B q) 0 64) sc 0).1 = 1 ∧ PM w w5 ky o A F G (rlT (fU v q (fU (v q) 7 0)) (ctS 0 (64 - (0 : Int)).toNat (tkF T (v q 6) (v q 7) 0) (drF (B q) 0 64) sc 0).2.1 16) (crV (fU v q (fU (v q) 7 0)) 16) (flB (fU B q (ctS 0 (64 - (0 : Int)).toNat (tkF T (v q 6) (v q 7) 0) (drF (B q) 0 64) sc 0).2.2.1) 16) (-1) (1) (F 7) (G 17)) ∨ ((0 ≤ x9 ∧ x9 ≤ 64) ∧ (ctS 0 (64 - (0 : Int)).toNat (tkF T (v q 6) (v q 7) 0) (drF (B q) 0 64) sc 0).1 = 0 ∧ PM w w5 ky o A F G ((ctS 0 (64 - (0 : Int)).toNat (tkF T (v q 6) (v q 7) 0) (drF (B q) 0 64) sc 0).2.1) ((fU v q (fU (v q) 7 0))) (fU B q (ctS 0 (64 - (0 : Int)).toNat (tkF T (v q 6) (v q 7) 0) (drF (B q) 0 64) sc 0).2.2.1) ((ctS 0 (64 - (0 : Int)).toNat (tkF T (v q 6) (v q 7) 0) (drF (B q) 0 64) sc 0).2.2.2.1) (dn) (fU (F 7) q (-1)) (G 17))) := by
    rcases hct with ⟨h1, h2, h3⟩ | ⟨h1, h2, h3⟩
    · exact ⟨_, h2, Or.inl ⟨rfl, h1, h3⟩⟩
    · have h9 := ctS_n (y := 0) (64 - (0 : Int)).toNat (tkF T (v q 6) (v q 7) 0) (drF (B q) 0 64) sc 0
      exact ⟨_, h2, Or.inr ⟨by omega, h1, h3⟩⟩
  clear hct
  have hxb : x9 = -1 ∨ 0 ≤ x9 ∧ x9 ≤ 64 := by rcases hx with h9 | h9 <;> omega
  refine gd_iconst C dX5_ends_6 ?_
  refine gd_icmp_ne (tgt := 12) C dX5_ends_7 (by decide) ?_ ?_ (fun hc7 => ?_) (fun hc7 => ?_)
  · omega
  · omega
  · obtain ⟨-, hc0, F5, G5, hM5, hR5, hN5, h75, h145, h175⟩ := hx.resolve_left (fun h9 => by omega)
    refine gd_aload_n C dX5_ends_12 rfl ?_
    refine gm_get C hM5 (by decide +kernel) 1 (by decide) (by decide +kernel) rfl dX5_ends_13 rfl ?_
    refine gd_iload_n C dX5_ends_16 rfl ?_
    refine gd_iconst C dX5_ends_17 ?_
    refine gm_zast C hM5 (k := 1) (n := 16) (by decide) (fun _ => rfl) dX5_ends_18 (by decide) ?_ ?_ (fun wm1 hMm1 => ?_)
    · omega
    · omega
    refine gd_aload_n C dX5_ends_19 rfl ?_
    refine gm_get C hMm1 (by decide +kernel) 8 (by decide) (by decide +kernel) rfl dX5_ends_20 rfl ?_
    refine gd_iload_n C dX5_ends_23 rfl ?_
    refine gd_iconst C dX5_ends_24 ?_
    refine gm_zast C hMm1 (k := 8) (n := 16) (by decide) (fun _ => rfl) dX5_ends_25 (by decide) ?_ ?_ (fun wm2 hMm2 => ?_)
    · omega
    · omega
    refine gd_iconst C dX5_ends_26 ?_
    refine gd_zret C hQ hret ?_ dX5_ends_27 ?_ ?_
    · omega
    · refine ⟨1, rfl, Or.inr ⟨rfl, hc0, _, _, hMm2, ?_, (hN5.nU (by decide) _).nU (by decide) _, h75, h145, h175⟩⟩
      have h9 := (hR5.sv (k := 1) (j := q) (x := 0) (u := fU (fU (v q) 7 0) 2 0) (by decide) (by rw [fU_s]; exact ⟨rfl, rfl, rfl, rfl, rfl, rfl⟩)).sv (k := 8) (j := q) (x := 0) (u := fU (fU (fU (v q) 7 0) 2 0) 9 0) (by decide) (by rw [fU_s]; exact ⟨rfl, rfl, rfl, rfl, rfl, rfl⟩)
      rwa [fU_ss, fU_ss] at h9
    · decide
  · refine gd_iconst C dX5_ends_10 ?_
    refine gd_zret C hQ hret ?_ dX5_ends_11 ?_ ?_
    · omega
    · refine ⟨0, rfl, Or.inl ⟨rfl, ?_⟩⟩
      rcases hx with h9 | h9
      · exact h9.2
      · exfalso; omega
    · decide

set_option maxRecDepth 100000 in
set_option maxHeartbeats 4000000 in
theorem kX5_areFree {l : Launch} {D : va_G} {ky : Nat → ClassId} {z : Nat} {w : WT} (hl : l.stackTraces = false) {o : Nat} {A : Nat → Nat} {F : Nat → Int → Int} {G : Nat → Int} (hM : MW w ky o A F G) {T : Int → Int} {v B : Int → Int → Int} {sc dn : Int} (hR : RF F G T v B sc dn) (hT9 : ∀ i, T i = 0 ∨ T i = 1) {a k : Int} (ha : 0 ≤ a ∧ a < 128) (hk : 1 ≤ k ∧ k ≤ 32) : Mt l D ky z yX5_areFree wsX5_areFree { frames := 0, cells := 0, slots := 0, locals := 0 } [.ref o, .int (iI a), .int (iI k)] w (fun r w' => ∃ b : Int, w = w' ∧ r = some (.int (iI b)) ∧ (b = 1 ∧ (a % 32 + k ≤ 32 ∧ aF T a k) ∨ b = 0 ∧ ¬ (a % 32 + k ≤ 32 ∧ aF T a k))) (fun _ => False) := by
  refine Mt.of (cc := cX5_areFree) (ret := (some .boolean)) (maxL := 5) (by decide) rfl (by intro v hv; simp at hv; rcases hv with rfl | rfl | rfl <;> rfl) (Nat.le_of_ble_eq_true rfl) ?_ hl
  intro p e s m args below meth c C htab hret hname Q hQ
  have hMv := hM.V
  obtain ⟨hR0, hR1, hR2, hR3, hR4⟩ := id hR
  refine gd_iload_n C dX5_areFree_0 rfl ?_
  refine gd_bipush C dX5_areFree_1 (by decide) ?_
  refine gd_idiv C dX5_areFree_3 ?_ ?_
  · omega
  refine gd_iload_n C dX5_areFree_4 rfl ?_
  refine gd_iload_n C dX5_areFree_5 rfl ?_
  refine gd_iadd C dX5_areFree_6 ?_
  refine gd_iconst C dX5_areFree_7 ?_
  refine gd_isub C dX5_areFree_8 ?_
  refine gd_bipush C dX5_areFree_9 (by decide) ?_
  refine gd_idiv C dX5_areFree_11 ?_ ?_
  · omega
  have hj12 : ∀ x9 : Int, (x9 = 1 ∧ (a % 32 + k ≤ 32) ∨ x9 = 0 ∧ ¬ (a % 32 + k ≤ 32)) → Gd p l e ({ frames := 0, cells := 0, slots := 0, locals := 0 }) s m args below meth c D z Q 0 0 w 20 [some (.ref o), some (.int (iI a)), some (.int (iI k)), none, none] (.int (iI x9) :: []) := by
    intro x9 hvx9
    refine gd_istore_n C dX5_areFree_20 (Nat.le_of_ble_eq_true rfl) ?_
    refine gd_iload_n C dX5_areFree_21 rfl ?_
    refine gd_istore C dX5_areFree_22 (Nat.le_of_ble_eq_true rfl) ?_
    suffices hloop : ∀ (n : Nat) (i x : Int), a ≤ i → i ≤ a + k → (a + k - i).toNat = n → (x = 1 ∧ a % 32 + k ≤ 32 ∧ (∀ j, a ≤ j → j < i → T j = 0) ∨ x = 0 ∧ ¬ (a % 32 + k ≤ 32 ∧ aF T a k)) → Gd p l e ({ frames := 0, cells := 0, slots := 0, locals := 0 }) s m args below meth c D z Q 0 0 w 24 [some (.ref o), some (.int (iI a)), some (.int (iI k)), some (.int (iI x)), some (.int (iI i))] [] from
      hloop _ a x9 (by omega) (by omega) rfl (by
        rcases hvx9 with h9 | h9
        · exact Or.inl ⟨h9.1, h9.2, fun j h1 h2 => by omega⟩
        · exact Or.inr ⟨h9.1, fun h8 => h9.2 h8.1⟩)
    clear hvx9
    intro n
    induction n using Nat.strongRecOn with
    | _ n ih =>
    intro i x h1i h2i hn hx
    have hx01 : x = 0 ∨ x = 1 := by rcases hx with h9 | h9 <;> omega
    refine gd_iload_n C dX5_areFree_24 rfl ?_
    refine gd_if_eq (tgt := 50) C dX5_areFree_25 (by decide) ?_ (fun hc25 => ?_) (fun hc25 => ?_)
    · omega
    · refine gd_iload_n C dX5_areFree_50 rfl ?_
      refine gd_zret C hQ hret ?_ dX5_areFree_51 ?_ ?_
      · omega
      · refine ⟨x, rfl, rfl, ?_⟩
        rcases hx with h9 | h9
        · first
            | (exfalso; omega)
            | exact Or.inl ⟨h9.1, h9.2.1, fun j h1 h2 => h9.2.2 j h1 (by omega)⟩
        · exact Or.inr h9
      · decide
    · refine gd_iload C dX5_areFree_28 rfl ?_
      refine gd_iload_n C dX5_areFree_30 rfl ?_
      refine gd_iload_n C dX5_areFree_31 rfl ?_
      refine gd_iadd C dX5_areFree_32 ?_
      refine gd_icmp_ge (tgt := 50) C dX5_areFree_33 (by decide) ?_ ?_ (fun hc33 => ?_) (fun hc33 => ?_)
      · omega
      · omega
      · refine gd_iload_n C dX5_areFree_50 rfl ?_
        refine gd_zret C hQ hret ?_ dX5_areFree_51 ?_ ?_
        · omega
        · refine ⟨x, rfl, rfl, ?_⟩
          rcases hx with h9 | h9
          · first
              | (exfalso; omega)
              | exact Or.inl ⟨h9.1, h9.2.1, fun j h1 h2 => h9.2.2 j h1 (by omega)⟩
          · exact Or.inr h9
        · decide
      · replace hx := hx.resolve_right (fun h9 => by omega)
        have hF0 := hR0 i (by omega) (by omega)
        refine gd_aload_n C dX5_areFree_36 rfl ?_
        refine gm_get C hMv (by decide +kernel) 0 (by decide) (by decide +kernel) rfl dX5_areFree_37 rfl ?_
        refine gd_iload C dX5_areFree_40 rfl ?_
        refine gd_zald C dX5_areFree_42 hMv.a0 (by decide) ?_ ?_
        · omega
        refine gd_istore_n C dX5_areFree_43 (Nat.le_of_ble_eq_true rfl) ?_
        refine gd_iinc C dX5_areFree_44 rfl ?_
        refine gd_goto (tgt := 24) C dX5_areFree_47 (by decide) ?_
        refine ih _ (by omega) (i + 1) _ (by omega) (by omega) rfl ?_
        by_cases hT : T i = 0
        · refine Or.inl ⟨by omega, hx.2.1, fun j h1 h2 => ?_⟩
          by_cases hj : j = i
          · rw [hj]; exact hT
          · exact hx.2.2 j h1 (by omega)
        · exact Or.inr ⟨by have := hT9 i; omega, fun h8 => hT (h8.2 i (by omega) (by omega))⟩
  refine gd_icmp_ne (tgt := 19) C dX5_areFree_12 (by decide) ?_ ?_ (fun hc12 => ?_) (fun hc12 => ?_)
  · omega
  · omega
  · refine gd_iconst C dX5_areFree_19 ?_
    exact hj12 _ (by omega)
  · refine gd_iconst C dX5_areFree_15 ?_
    refine gd_goto (tgt := 20) C dX5_areFree_16 (by decide) ?_
    exact hj12 _ (by omega)

set_option maxRecDepth 100000 in
set_option maxHeartbeats 4000000 in
theorem kX5_finds {l : Launch} {D : va_G} {ky : Nat → ClassId} {z : Nat} {w : WT} (hl : l.stackTraces = false) {o : Nat} {A : Nat → Nat} {F : Nat → Int → Int} {G : Nat → Int} (hM : MW w ky o A F G) {T : Int → Int} {v B : Int → Int → Int} {sc dn : Int} (hR : RF F G T v B sc dn) (hT9 : ∀ i, T i = 0 ∨ T i = 1) {a k : Int} (ha : 0 ≤ a ∧ a < 128) (hk : k = 1 ∨ k = 2 ∨ k = 4 ∨ k = 8 ∨ k = 16) : Mt l D ky z yX5_finds wsX5_finds { frames := 1, cells := 0, slots := 0, locals := 24 } [.ref o, .int (iI a), .int (iI k)] w (fun r w' => w = w' ∧ r = some (.int (iI (fD T a k)))) (fun _ => False) := by
  refine Mt.of (cc := cX5_finds) (ret := (some .int)) (maxL := 6) (by decide) rfl (by intro v hv; simp at hv; rcases hv with rfl | rfl | rfl <;> rfl) (Nat.le_of_ble_eq_true rfl) ?_ hl
  intro p e s m args below meth c C htab hret hname Q hQ
  have hMv := hM.V
  obtain ⟨hR0, hR1, hR2, hR3, hR4⟩ := id hR
  refine gd_aload_n C dX5_finds_0 rfl ?_
  refine gd_iload_n C dX5_finds_1 rfl ?_
  refine gd_iload_n C dX5_finds_2 rfl ?_
  refine gd_callV (n := 2) (ci := 5) (Cn := RX5) (T := TX5) (N := 18) C (kX5_areFree hl hM hR hT9 (a := a) (k := k) ha ?_) ?_ rfl gX5_finds_X5_areFree rfl ⟨rfl, by decide, by decide, by decide +kernel⟩ rfl rfl (Nat.le_of_ble_eq_true rfl) rfl dX5_finds_3 ⟨⟨by decide, by decide⟩, by decide, by decide⟩ (fun _ h => h.elim) ?_
  · omega
  · exact ⟨_, by exact hMv.ob⟩
  rintro _ _ ⟨b8, rfl, rfl, hb8⟩
  refine gd_if_eq (tgt := 11) C dX5_finds_6 (by decide) ?_ (fun hc6 => ?_) (fun hc6 => ?_)
  · omega
  · refine gd_iconst C dX5_finds_11 ?_
    refine gd_istore_n C dX5_finds_12 (Nat.le_of_ble_eq_true rfl) ?_
    suffices hloop : ∀ (n : Nat) (t : Int), 0 ≤ t → t ≤ 4 → (4 - t).toNat = n → fT T (a / 32) k 4 = fT T (a / 32) k (4 - t).toNat → Gd p l e ({ frames := 1, cells := 0, slots := 0, locals := 24 }) s m args below meth c D z Q 0 0 w 13 [some (.ref o), some (.int (iI a)), some (.int (iI k)), some (.int (iI t)), none, none] [] from
      hloop _ 0 (by omega) (by omega) rfl rfl
    intro n
    induction n using Nat.strongRecOn with
    | _ n ih =>
    intro t h1t h2t hn hft
    refine gd_iload_n C dX5_finds_13 rfl ?_
    refine gd_iconst C dX5_finds_14 ?_
    refine gd_icmp_ge (tgt := 76) C dX5_finds_15 (by decide) ?_ ?_ (fun hc15 => ?_) (fun hc15 => ?_)
    · omega
    · omega
    · refine gd_iconst C dX5_finds_76 ?_
      refine gd_iret C hQ hret dX5_finds_77 ?_ ?_
      · refine ⟨rfl, ?_⟩
        have h7 := hb8.resolve_left (fun h8 => by omega)
        have h4 : t = 4 := by omega
        subst h4
        unfold fD
        rw [if_neg h7.2, hft]
        rfl
      · decide
    · refine gd_iload_n C dX5_finds_18 rfl ?_
      refine gd_bipush C dX5_finds_19 (by decide) ?_
      refine gd_idiv C dX5_finds_21 ?_ ?_
      · omega
      refine gd_iload_n C dX5_finds_22 rfl ?_
      refine gd_iadd C dX5_finds_23 ?_
      refine gd_iconst C dX5_finds_24 ?_
      refine gd_irem C dX5_finds_25 ?_ ?_
      · omega
      refine gd_istore C dX5_finds_26 (Nat.le_of_ble_eq_true rfl) ?_
      refine gd_bipush C dX5_finds_28 (by decide) ?_
      refine gd_iload C dX5_finds_30 rfl ?_
      refine gd_imul C dX5_finds_32 ?_
      refine gd_istore C dX5_finds_33 (Nat.le_of_ble_eq_true rfl) ?_
      have hg9 : 0 ≤ ((a / 32 + t) % 4) ∧ ((a / 32 + t) % 4) < 4 := by omega
      suffices hloop2 : ∀ (n : Nat) (f : Int), 32 * ((a / 32 + t) % 4) ≤ f → f % k = 0 → (32 * ((a / 32 + t) % 4) + 32 - f).toNat = n → f ≤ 32 * ((a / 32 + t) % 4) + 32 → fF (aP T k) (32 * ((a / 32 + t) % 4)) (32 * ((a / 32 + t) % 4) + 32) = fF (aP T k) f (32 * ((a / 32 + t) % 4) + 32) → Gd p l e ({ frames := 1, cells := 0, slots := 0, locals := 24 }) s m args below meth c D z Q 0 0 w 35 [some (.ref o), some (.int (iI a)), some (.int (iI k)), some (.int (iI t)), some (.int (iI ((a / 32 + t) % 4))), some (.int (iI f))] [] from
        hloop2 _ _ (Int.le_refl _) (by rcases hk with rfl | rfl | rfl | rfl | rfl <;> omega) rfl (by omega) rfl
      intro n2
      induction n2 using Nat.strongRecOn with
      | _ n2 ih2 =>
      intro f h1f hfk hn2 h2f hfp
      refine gd_iload C dX5_finds_35 rfl ?_
      refine gd_bipush C dX5_finds_37 (by decide) ?_
      refine gd_iload C dX5_finds_39 rfl ?_
      refine gd_imul C dX5_finds_41 ?_
      refine gd_bipush C dX5_finds_42 (by decide) ?_
      refine gd_iadd C dX5_finds_44 ?_
      refine gd_icmp_ge (tgt := 70) C dX5_finds_45 (by decide) ?_ ?_ (fun hc45 => ?_) (fun hc45 => ?_)
      · omega
      · omega
      · refine gd_iinc C dX5_finds_70 rfl ?_
        refine gd_goto (tgt := 13) C dX5_finds_73 (by decide) ?_
        refine Gd.sub (by repeat (first | exact Lsb.nil | exact Lsb.rf _ | refine Lsb.keep ?_ | refine Lsb.drop ?_)) (ih _ (by omega) (t + 1) (by omega) (by omega) rfl ?_)
        rw [hft]
        refine fT_miss ⟨h1t, by omega⟩ ?_
        show fF _ _ _ = _
        rw [hfp]
        exact fF_end (by omega)
      · refine gd_aload_n C dX5_finds_48 rfl ?_
        refine gd_iload C dX5_finds_49 rfl ?_
        refine gd_iload_n C dX5_finds_51 rfl ?_
        refine gd_callV (n := 2) (ci := 5) (Cn := RX5) (T := TX5) (N := 18) C (kX5_areFree hl hM hR hT9 (a := f) (k := k) ?_ ?_) ?_ rfl gX5_finds_X5_areFree rfl ⟨rfl, by decide, by decide, by decide +kernel⟩ rfl rfl (Nat.le_of_ble_eq_true rfl) rfl dX5_finds_52 ⟨⟨by decide, by decide⟩, by decide, by decide⟩ (fun _ h => h.elim) ?_
        · omega
        · omega
        · exact ⟨_, by exact hMv.ob⟩
        rintro _ _ ⟨b9, rfl, rfl, hb9⟩
        refine gd_if_eq (tgt := 61) C dX5_finds_55 (by decide) ?_ (fun hc55 => ?_) (fun hc55 => ?_)
        · omega
        · refine gd_iload C dX5_finds_61 rfl ?_
          refine gd_iload_n C dX5_finds_63 rfl ?_
          refine gd_iadd C dX5_finds_64 ?_
          refine gd_istore C dX5_finds_65 (Nat.le_of_ble_eq_true rfl) ?_
          refine gd_goto (tgt := 35) C dX5_finds_67 (by decide) ?_
          have h9 : f + k ≤ 32 * ((a / 32 + t) % 4) + 32 ∧ (f + k) % k = 0 := by rcases hk with rfl | rfl | rfl | rfl | rfl <;> omega
          refine ih2 _ (by omega) (f + k) (by omega) h9.2 rfl h9.1 ?_
          rw [hfp]
          refine fF_skip k.toNat f (by omega) h9.1 (fun j h1 h2 h3 => ?_)
          have hj : j = f := by
            have h4 := h3.1
            rcases hk with rfl | rfl | rfl | rfl | rfl <;> omega
          subst hj
          have hb8 := hb9.resolve_left (fun h8 => by omega)
          exact hb8.2 ⟨by rcases hk with rfl | rfl | rfl | rfl | rfl <;> omega, h3.2⟩
        · refine gd_iload C dX5_finds_58 rfl ?_
          refine gd_iret C hQ hret dX5_finds_60 ?_ ?_
          · refine ⟨rfl, ?_⟩
            have h9 := hb9.resolve_right (fun h8 => by omega)
            have h7 := hb8.resolve_left (fun h8 => by omega)
            have h6 : fP T ((a / 32 + t) % 4) k = f := by
              unfold fP
              rw [hfp]
              exact fF_hit (by omega) ⟨hfk, h9.2.2⟩
            unfold fD
            rw [if_neg h7.2, hft, fT_hit ⟨h1t, by omega⟩ (by rw [h6]; omega), h6]
          · decide
  · refine gd_iload_n C dX5_finds_9 rfl ?_
    refine gd_iret C hQ hret dX5_finds_10 ?_ ?_
    · exact ⟨rfl, by unfold fD; rw [if_pos (by rcases hb8 with h8 | h8; exact h8.2; exfalso; omega)]⟩
    · decide
