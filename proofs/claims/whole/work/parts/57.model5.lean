set_option maxRecDepth 100000 in
set_option maxHeartbeats 4000000 in
theorem kX5_flush {l : Launch} {D : va_G} {ky : Nat → ClassId} {z : Nat} {w : WT} (hl : l.stackTraces = false) {o : Nat} {A : Nat → Nat} {F : Nat → Int → Int} {G : Nat → Int} (hM : MW w ky o A F G) {T : Int → Int} {v B : Int → Int → Int} {sc dn : Int} (hR : RF F G T v B sc dn) (hI : CI T v B sc dn) {q : Int} (hq : InR q) (hL : 0 ≤ lF T v) : Mt l D ky z yX5_flush wsX5_flush { frames := 3, cells := 0, slots := 0, locals := 78 } [.ref o, .int (iI q)] w (fun r w' => ((0 ≤ q ∧ q < 16 ∧ v q 2 = 1) ∧ dn = 0 ∧ r = some (.int (iI (v q 4 - (flR q 64 0 (T, v, B)).2.1 q 4))) ∧ PM w w' ky o A F G ((flR q 64 0 (T, v, B)).1) ((flR q 64 0 (T, v, B)).2.1) ((flR q 64 0 (T, v, B)).2.2) (sc) (dn) (F 7) (0)) ∨ ∃ t, (t = 1 ∧ ¬ (0 ≤ q ∧ q < 16 ∧ v q 2 = 1) ∨ t = 2 ∧ (0 ≤ q ∧ q < 16 ∧ v q 2 = 1) ∧ dn ≠ 0) ∧ r = some (.int (iI 0)) ∧ PM w w' ky o A F G (T) (v) (B) (sc) (dn) (F 7) (t)) (fun _ => False) := by
  refine Mt.of (cc := cX5_flush) (ret := (some .int)) (maxL := 7) (by decide) rfl (by intro v hv; simp at hv; rcases hv with rfl | rfl <;> rfl) (Nat.le_of_ble_eq_true rfl) ?_ hl
  intro p e s m args below meth c C htab hret hname Q hQ
  have hMv := hM.V
  obtain ⟨hR0, hR1, hR2, hR3, hR4⟩ := id hR
  obtain ⟨hi1, hi2, hi3, hi4⟩ := id hI
  refine gd_aload_n C dX5_flush_0 rfl ?_
  refine gd_iload_n C dX5_flush_1 rfl ?_
  refine gd_callV (n := 1) (ci := 5) (Cn := RX5) (T := TX5) (N := 18) C (kX5_isThere hl hMv.1 hR hI (q := q) hq) ?_ rfl gX5_flush_X5_isThere rfl ⟨rfl, by decide, by decide, by decide +kernel⟩ rfl rfl (Nat.le_of_ble_eq_true rfl) rfl dX5_flush_2 ⟨⟨by decide, by decide⟩, by decide, by decide⟩ (fun _ h => h.elim) ?_
  · exact ⟨_, by exact hMv.ob⟩
  rintro _ _ ⟨b8, rfl, rfl, hb8⟩
  have hb8x : b8 = 0 ∨ b8 = 1 := by omega
  refine gd_istore_n C dX5_flush_5 (Nat.le_of_ble_eq_true rfl) ?_
  refine gd_aload_n C dX5_flush_6 rfl ?_
  refine gd_iload_n C dX5_flush_7 rfl ?_
  refine gd_aload_n C dX5_flush_8 rfl ?_
  refine gm_get C hMv (by decide +kernel) 15 (by decide) (by decide +kernel) rfl dX5_flush_9 rfl ?_
  have hj12 : ∀ y9 : Int, (y9 = 1 ∧ (dn = 0) ∨ y9 = 0 ∧ ¬ (dn = 0)) → Gd p l e ({ frames := 3, cells := 0, slots := 0, locals := 78 }) s m args below meth c D z Q 0 0 w 20 [some (.ref o), some (.int (iI q)), some (.int (iI b8)), none, none, none, none] (.int (iI y9) :: [.int (iI b8), .ref o]) := by
    intro y9 hvy9
    refine gd_callV (n := 2) (ci := 5) (Cn := RX5) (T := TX5) (N := 18) C (kX5_asked_ hl hMv.1 (x := b8) (y := y9) ?_) ?_ rfl gX5_flush_X5_asked_ rfl ⟨rfl, by decide, by decide, by decide +kernel⟩ rfl rfl (Nat.le_of_ble_eq_true rfl) rfl dX5_flush_20 ⟨⟨by decide, by decide⟩, by decide, by decide⟩ (fun _ h => h.elim) ?_
    · omega
    · exact ⟨_, by exact hMv.ob⟩
    rintro _ w2 ⟨t7, b7, rfl, hM2, hAS⟩
    unfold AS2 at hAS
    have hR2b : RF F (nU G 17 t7) T v B sc dn := hR.g hR3 hR4
    refine gd_if_ne (tgt := 28) C dX5_flush_23 (by decide) ?_ (fun hc23 => ?_) (fun hc23 => ?_)
    · omega
    · refine gd_iconst C dX5_flush_28 ?_
      refine gd_istore_n C dX5_flush_29 (Nat.le_of_ble_eq_true rfl) ?_
      refine gd_iconst C dX5_flush_30 ?_
      refine gd_istore C dX5_flush_31 (Nat.le_of_ble_eq_true rfl) ?_
      obtain ⟨ht7, hTH, hup⟩ : t7 = 0 ∧ (0 ≤ q ∧ q < 16 ∧ v q 2 = 1) ∧ dn = 0 := by
        rcases hAS with h9 | h9
        · exact ⟨by omega, by omega, by omega⟩
        · exfalso; omega
      subst ht7
      clear hAS hb8 hb8x hvy9
      suffices hloop : ∀ (n9 : Nat) (i a : Int) (w1 : WT) (F1 : Nat → Int → Int) (G1 : Nat → Int) (T1 : Int → Int) (v1 B1 : Int → Int → Int), 0 ≤ i → i ≤ 64 → (64 - i).toNat = n9 → MV w w1 ky o A F1 G1 → RF F1 G1 T1 v1 B1 sc dn → FN F F1 → F1 7 = F 7 → G1 14 = G 14 → G1 17 = 0 → CI T1 v1 B1 sc dn → 0 ≤ lF T1 v1 → a = v q 4 - v1 q 4 → (flR q 64 0 (T, v, B)) = flR q (64 - i).toNat i (T1, v1, B1) → Gd p l e ({ frames := 3, cells := 0, slots := 0, locals := 78 }) s m args below meth c D z Q 0 0 w1 33 [some (.ref o), some (.int (iI q)), none, some (.int (iI a)), some (.int (iI i)), none, none] [] from
        Gd.sub (by repeat (first | exact Lsb.nil | exact Lsb.rf _ | refine Lsb.keep ?_ | refine Lsb.drop ?_)) (hloop _ 0 0 w2 F _ T v B (by omega) (by omega) rfl hM2 hR2b (FN.rf F) rfl rfl rfl hI hL (by omega) rfl)
      intro n9
      induction n9 using Nat.strongRecOn with
      | _ n9 ih =>
      intro i a w1 F1 G1 T1 v1 B1 h1i h2i hn hM1 hRi hNi h7i h14 h17 hI1 hL1 ha1 hm1
      obtain ⟨f0, f2, f3, f4, f5, f6, f8, f9, f10, fp⟩ := hI1.2.1 q hTH.1 hTH.2.1
      refine gd_iload C dX5_flush_33 rfl ?_
      refine gd_bipush C dX5_flush_35 (by decide) ?_
      refine gd_icmp_ge (tgt := 125) C dX5_flush_37 (by decide) ?_ ?_ (fun hc37 => ?_) (fun hc37 => ?_)
      · omega
      · omega
      · refine gd_iload_n C dX5_flush_125 rfl ?_
        refine gd_iret C hQ hret dX5_flush_126 ?_ ?_
        · have e1 : i = 64 := by omega
          subst e1
          have e2 : (flR q 64 0 (T, v, B)) = (T1, v1, B1) := hm1
          rw [e2]
          exact Or.inl ⟨hTH, hup, by rw [ha1], _, _, hM1, hRi, hNi, h7i, h14, h17⟩
        · decide
      · have hcut74 : ∀ e9 : Int, i ≤ e9 → e9 ≤ 64 → (∀ p, i ≤ p → p < e9 → B1 q p = -2) → (e9 = 64 ∨ B1 q e9 ≠ -2) → Gd p l e ({ frames := 3, cells := 0, slots := 0, locals := 78 }) s m args below meth c D z Q 0 0 w1 74 [some (.ref o), some (.int (iI q)), none, some (.int (iI a)), some (.int (iI i)), some (.int (iI e9)), none] [] := by
          intro e9 h1e h2e hr9 he9
          refine gd_iload C dX5_flush_74 rfl ?_
          refine gd_iload C dX5_flush_76 rfl ?_
          refine gd_icmp_le (tgt := 96) C dX5_flush_78 (by decide) ?_ ?_ (fun hc78 => ?_) (fun hc78 => ?_)
          · omega
          · omega
          · refine gd_iconst C dX5_flush_96 ?_
            refine gd_istore C dX5_flush_97 (Nat.le_of_ble_eq_true rfl) ?_
            refine gd_iload_n C dX5_flush_99 rfl ?_
            refine gd_iload C dX5_flush_100 rfl ?_
            refine gd_iadd C dX5_flush_102 ?_
            refine gd_istore_n C dX5_flush_103 (Nat.le_of_ble_eq_true rfl) ?_
            refine gd_iload C dX5_flush_104 rfl ?_
            refine gd_iload C dX5_flush_106 rfl ?_
            refine gd_iload C dX5_flush_108 rfl ?_
            refine gd_icmp_le (tgt := 118) C dX5_flush_110 (by decide) ?_ ?_ (fun hc110 => ?_) (fun hc110 => ?_)
            · omega
            · omega
            · first
              | (exfalso; omega)
              | (
                refine gd_iconst C dX5_flush_118 ?_
                refine gd_iadd C dX5_flush_119 ?_
                refine gd_istore C dX5_flush_120 (Nat.le_of_ble_eq_true rfl) ?_
                refine gd_goto (tgt := 33) C dX5_flush_122 (by decide) ?_
                first
                  | exact Gd.sub (by repeat (first | exact Lsb.nil | exact Lsb.rf _ | refine Lsb.keep ?_ | refine Lsb.drop ?_)) (ih _ (by omega) (i + (chk q T1 v1 B1 i (e9 - i)).1) _ w3 F3 G3 _ _ _ (by omega) (by omega) rfl hM1 hR3b (hNi.tr hN3) (h73.trans h7i) (h143.trans h14) (h173.trans h17) k3 k4 (by omega) (by rw [hm1]; exact flR_chk (e := e9) ⟨hTH.1, hTH.2.1⟩ ⟨h1i, by omega, h2e⟩ hI1 hL1 hr9 he9))
                  | exact Gd.sub (by repeat (first | exact Lsb.nil | exact Lsb.rf _ | refine Lsb.keep ?_ | refine Lsb.drop ?_)) (ih _ (by omega) (i + 1) _ w1 F1 G1 T1 v1 B1 (by omega) (by omega) rfl hM1 hRi hNi h7i h14 h17 hI1 hL1 (by omega) (by rw [hm1, flR_s (by omega), fl1_n (by rcases he9 with h9 | h9; exfalso; omega; rw [show i = e9 by omega]; exact h9)])))
            · first
              | (exfalso; omega)
              | (
                refine gd_iload C dX5_flush_113 rfl ?_
                refine gd_goto (tgt := 119) C dX5_flush_115 (by decide) ?_
                refine gd_iadd C dX5_flush_119 ?_
                refine gd_istore C dX5_flush_120 (Nat.le_of_ble_eq_true rfl) ?_
                refine gd_goto (tgt := 33) C dX5_flush_122 (by decide) ?_
                first
                  | exact Gd.sub (by repeat (first | exact Lsb.nil | exact Lsb.rf _ | refine Lsb.keep ?_ | refine Lsb.drop ?_)) (ih _ (by omega) (i + (chk q T1 v1 B1 i (e9 - i)).1) _ w3 F3 G3 _ _ _ (by omega) (by omega) rfl hM1 hR3b (hNi.tr hN3) (h73.trans h7i) (h143.trans h14) (h173.trans h17) k3 k4 (by omega) (by rw [hm1]; exact flR_chk (e := e9) ⟨hTH.1, hTH.2.1⟩ ⟨h1i, by omega, h2e⟩ hI1 hL1 hr9 he9))
                  | exact Gd.sub (by repeat (first | exact Lsb.nil | exact Lsb.rf _ | refine Lsb.keep ?_ | refine Lsb.drop ?_)) (ih _ (by omega) (i + 1) _ w1 F1 G1 T1 v1 B1 (by omega) (by omega) rfl hM1 hRi hNi h7i h14 h17 hI1 hL1 (by omega) (by rw [hm1, flR_s (by omega), fl1_n (by rcases he9 with h9 | h9; exfalso; omega; rw [show i = e9 by omega]; exact h9)])))
          · refine gd_aload_n C dX5_flush_81 rfl ?_
            refine gd_iload_n C dX5_flush_82 rfl ?_
            refine gd_iload C dX5_flush_83 rfl ?_
            refine gd_iload C dX5_flush_85 rfl ?_
            refine gd_iload C dX5_flush_87 rfl ?_
            refine gd_isub C dX5_flush_89 ?_
            refine gd_callV (n := 3) (ci := 5) (Cn := RX5) (T := TX5) (N := 18) C (kX5_maps hl hM1.1 hRi hI1 (q := q) (x := i) (k := e9 - i) ⟨hTH.1, hTH.2.1⟩ ?_ ?_ hL1) ?_ rfl gX5_flush_X5_maps rfl ⟨rfl, by decide, by decide, by decide +kernel⟩ rfl rfl (Nat.le_of_ble_eq_true rfl) rfl dX5_flush_90 ⟨⟨by decide, by decide⟩, by decide, by decide⟩ (fun _ h => h.elim) ?_
            · omega
            · exact fun p h1 h2 => hr9 p h1 (by omega)
            · exact ⟨_, by exact hM1.ob⟩
            rintro _ w3 ⟨rfl, F3, G3, hM3, hR3b, hN3, h73, h143, h173⟩
            replace hM3 := hM1.tr hM3
            obtain ⟨k1, k2, k3, k4, k5, k6⟩ := chk_ok (p := i) (R := e9 - i) hI1 ⟨hTH.1, hTH.2.1⟩ (by omega) (fun p h1 h2 => hr9 p h1 (by omega)) hL1
            obtain ⟨m1, -⟩ := chk_more (p := i) (R := e9 - i) hI1 ⟨hTH.1, hTH.2.1⟩ (by omega) (fun p h1 h2 => hr9 p h1 (by omega)) hL1
            refine gd_goto (tgt := 97) C dX5_flush_93 (by decide) ?_
            refine gd_istore C dX5_flush_97 (Nat.le_of_ble_eq_true rfl) ?_
            refine gd_iload_n C dX5_flush_99 rfl ?_
            refine gd_iload C dX5_flush_100 rfl ?_
            refine gd_iadd C dX5_flush_102 ?_
            refine gd_istore_n C dX5_flush_103 (Nat.le_of_ble_eq_true rfl) ?_
            refine gd_iload C dX5_flush_104 rfl ?_
            refine gd_iload C dX5_flush_106 rfl ?_
            refine gd_iload C dX5_flush_108 rfl ?_
            refine gd_icmp_le (tgt := 118) C dX5_flush_110 (by decide) ?_ ?_ (fun hc110 => ?_) (fun hc110 => ?_)
            · omega
            · omega
            · first
              | (exfalso; omega)
              | (
                refine gd_iconst C dX5_flush_118 ?_
                refine gd_iadd C dX5_flush_119 ?_
                refine gd_istore C dX5_flush_120 (Nat.le_of_ble_eq_true rfl) ?_
                refine gd_goto (tgt := 33) C dX5_flush_122 (by decide) ?_
                first
                  | exact Gd.sub (by repeat (first | exact Lsb.nil | exact Lsb.rf _ | refine Lsb.keep ?_ | refine Lsb.drop ?_)) (ih _ (by omega) (i + (chk q T1 v1 B1 i (e9 - i)).1) _ w3 F3 G3 _ _ _ (by omega) (by omega) rfl hM3 hR3b (hNi.tr hN3) (h73.trans h7i) (h143.trans h14) (h173.trans h17) k3 k4 (by omega) (by rw [hm1]; exact flR_chk (e := e9) ⟨hTH.1, hTH.2.1⟩ ⟨h1i, by omega, h2e⟩ hI1 hL1 hr9 he9))
                  | exact Gd.sub (by repeat (first | exact Lsb.nil | exact Lsb.rf _ | refine Lsb.keep ?_ | refine Lsb.drop ?_)) (ih _ (by omega) (i + 1) _ w1 F1 G1 T1 v1 B1 (by omega) (by omega) rfl hM1 hRi hNi h7i h14 h17 hI1 hL1 (by omega) (by rw [hm1, flR_s (by omega), fl1_n (by rcases he9 with h9 | h9; exfalso; omega; rw [show i = e9 by omega]; exact h9)])))
            · first
              | (exfalso; omega)
              | (
                refine gd_iload C dX5_flush_113 rfl ?_
                refine gd_goto (tgt := 119) C dX5_flush_115 (by decide) ?_
                refine gd_iadd C dX5_flush_119 ?_
                refine gd_istore C dX5_flush_120 (Nat.le_of_ble_eq_true rfl) ?_
                refine gd_goto (tgt := 33) C dX5_flush_122 (by decide) ?_
                first
                  | exact Gd.sub (by repeat (first | exact Lsb.nil | exact Lsb.rf _ | refine Lsb.keep ?_ | refine Lsb.drop ?_)) (ih _ (by omega) (i + (chk q T1 v1 B1 i (e9 - i)).1) _ w3 F3 G3 _ _ _ (by omega) (by omega) rfl hM3 hR3b (hNi.tr hN3) (h73.trans h7i) (h143.trans h14) (h173.trans h17) k3 k4 (by omega) (by rw [hm1]; exact flR_chk (e := e9) ⟨hTH.1, hTH.2.1⟩ ⟨h1i, by omega, h2e⟩ hI1 hL1 hr9 he9))
                  | exact Gd.sub (by repeat (first | exact Lsb.nil | exact Lsb.rf _ | refine Lsb.keep ?_ | refine Lsb.drop ?_)) (ih _ (by omega) (i + 1) _ w1 F1 G1 T1 v1 B1 (by omega) (by omega) rfl hM1 hRi hNi h7i h14 h17 hI1 hL1 (by omega) (by rw [hm1, flR_s (by omega), fl1_n (by rcases he9 with h9 | h9; exfalso; omega; rw [show i = e9 by omega]; exact h9)])))
        refine gd_iload C dX5_flush_40 rfl ?_
        skip
        refine gd_istore C dX5_flush_42 (Nat.le_of_ble_eq_true rfl) ?_
        suffices hloop2 : ∀ (n9 : Nat) (e9 : Int), i ≤ e9 → e9 ≤ 64 → (64 - e9).toNat = n9 → (∀ p, i ≤ p → p < e9 → B1 q p = -2) → Gd p l e ({ frames := 3, cells := 0, slots := 0, locals := 78 }) s m args below meth c D z Q 0 0 w1 44 [some (.ref o), some (.int (iI q)), none, some (.int (iI a)), some (.int (iI i)), some (.int (iI e9)), none] [] from
          hloop2 _ i (Int.le_refl _) h2i rfl (fun p h1 h2 => by omega)
        intro n8
        induction n8 using Nat.strongRecOn with
        | _ n8 ih8 =>
        intro e9 h1e h2e hn8 hr9
        have hFe : e9 < 64 → F1 2 (64 * q + e9) = B1 q e9 := fun h => hRi.2.2.1 q e9 hTH.1 hTH.2.1 (by omega) h
        have hpe := fp e9
        refine gd_iload C dX5_flush_44 rfl ?_
        refine gd_bipush C dX5_flush_46 (by decide) ?_
        refine gd_icmp_ge (tgt := 74) C dX5_flush_48 (by decide) ?_ ?_ (fun hc48 => ?_) (fun hc48 => ?_)
        · omega
        · omega
        · exact hcut74 e9 h1e h2e hr9 (by omega)
        · refine gd_aload_n C dX5_flush_51 rfl ?_
          refine gm_get C hM1 (by decide +kernel) 2 (by decide) (by decide +kernel) rfl dX5_flush_52 rfl ?_
          refine gd_bipush C dX5_flush_55 (by decide) ?_
          refine gd_iload_n C dX5_flush_57 rfl ?_
          refine gd_imul C dX5_flush_58 ?_
          refine gd_iload C dX5_flush_59 rfl ?_
          refine gd_iadd C dX5_flush_61 ?_
          refine gd_iald C dX5_flush_62 hM1.a2 (by decide) ?_ ?_
          · omega
          refine gd_bipush C dX5_flush_63 (by decide) ?_
          replace hFe := hFe (by omega)
          refine gd_icmp_ne (tgt := 74) C dX5_flush_65 (by decide) ?_ ?_ (fun hc65 => ?_) (fun hc65 => ?_)
          · omega
          · omega
          · exact hcut74 e9 h1e h2e hr9 (by omega)
          · refine gd_iinc C dX5_flush_68 rfl ?_
            refine gd_goto (tgt := 44) C dX5_flush_71 (by decide) ?_
            exact ih8 _ (by omega) (e9 + 1) (by omega) (by omega) rfl (fun p h1 h2 => by
              by_cases hp : p = e9
              · rw [hp]; omega
              · exact hr9 p h1 (by omega))
    · refine gd_iconst C dX5_flush_26 ?_
      refine gd_iret C hQ hret dX5_flush_27 ?_ ?_
      · refine Or.inr ⟨t7, ?_, rfl, _, _, hM2, hR2b, FN.rf F, rfl, rfl, rfl⟩
        omega
      · decide
  refine gd_if_ne (tgt := 19) C dX5_flush_12 (by decide) ?_ (fun hc12 => ?_) (fun hc12 => ?_)
  · omega
  · refine gd_iconst C dX5_flush_19 ?_
    exact hj12 _ (by omega)
  · refine gd_iconst C dX5_flush_15 ?_
    refine gd_goto (tgt := 20) C dX5_flush_16 (by decide) ?_
    exact hj12 _ (by omega)
