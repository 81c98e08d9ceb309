set_option maxRecDepth 100000 in
set_option maxHeartbeats 4000000 in
theorem kX5_takesOut {l : Launch} {D : va_G} {ky : Nat → ClassId} {z : Nat} {w : WT} (hl : l.stackTraces = false) {o : Nat} {A : Nat → Nat} {F : Nat → Int → Int} {G : Nat → Int} (hM : MW w ky o A F G) {n : Int} {lo co ct : Int → Int} {nm fl : Int → Int → Int} (hN : RNM F G n lo co ct nm) (hD : DR n lo co ct nm fl) (hn3 : n ≤ 300) (hlo0 : lo 0 = 0) (hco0 : co 0 = 0) {q : Int} (hq : 0 ≤ q ∧ q ≤ 999) (hhas : hA ct nm q (lLk n lo co ct nm q)) (hdi : DI (ct (lLk n lo co ct nm q)) (nm (lLk n lo co ct nm q))) : Mt l D ky z yX5_takesOut wsX5_takesOut { frames := 2, cells := 0, slots := 0, locals := 46 } [.ref o, .int (iI q)] w (fun r w' => r = none ∧ ∃ F' G', MV w w' ky o A F' G' ∧ FF9 F F' ∧ F' 9 = fU (F 9) q 0 ∧ (G' 15 = G 15 ∧ G' 16 = G 16 ∧ G' 17 = G 17) ∧ RNM F' G' (n) (lo) (co) (fU ct (lLk n lo co ct nm q) (ct (lLk n lo co ct nm q) - 1)) (fU nm (lLk n lo co ct nm q) (rmF (nm (lLk n lo co ct nm q)) (fF (fun j => nm (lLk n lo co ct nm q) j = q) 0 (ct (lLk n lo co ct nm q))) (ct (lLk n lo co ct nm q))))) (fun _ => False) := by
  refine Mt.of (cc := cX5_takesOut) (ret := none) (maxL := 4) (by decide) rfl (by intro v hv; simp at hv; rcases hv with rfl | rfl <;> rfl) (Nat.le_of_ble_eq_true rfl) ?_ hl
  intro p e s m args below meth c C htab hret hname Q hQ
  have hMv := hM.V
  obtain ⟨hN1, hN2⟩ := id hN
  obtain ⟨hD1, hD2, hD3, hD4, hD5, hD6⟩ := id hD
  have hp9 : (0 ≤ (fF (fun j => nm (lLk n lo co ct nm q) j = q) 0 (ct (lLk n lo co ct nm q))) ∧ (fF (fun j => nm (lLk n lo co ct nm q) j = q) 0 (ct (lLk n lo co ct nm q))) < ct (lLk n lo co ct nm q)) ∧ nm (lLk n lo co ct nm q) (fF (fun j => nm (lLk n lo co ct nm q) j = q) 0 (ct (lLk n lo co ct nm q))) = q := by
    rcases fF_spec (P := fun j => nm (lLk n lo co ct nm q) j = q) (b := ct (lLk n lo co ct nm q)) _ 0 rfl with ⟨h1, h2⟩ | ⟨h1, h2, h3, -⟩
    · obtain ⟨k, k1, k2, k3⟩ := hhas
      exact absurd k3 (h2 k k1 k2)
    · exact ⟨⟨h1, h2⟩, h3⟩
  refine gd_aload_n C dX5_takesOut_0 rfl ?_
  refine gd_iload_n C dX5_takesOut_1 rfl ?_
  refine gd_callV (n := 1) (ci := 5) (Cn := RX5) (T := TX5) (N := 18) C (kX5_begins hl hMv.1 hN hD hn3 hlo0 hco0 (q := q) hq) ?_ rfl gX5_takesOut_X5_begins rfl ⟨rfl, by decide, by decide, by decide +kernel⟩ rfl rfl (Nat.le_of_ble_eq_true rfl) rfl dX5_takesOut_2 ⟨⟨by decide, by decide⟩, by decide, by decide⟩ (fun _ h => h.elim) ?_
  · exact ⟨_, by exact hMv.ob⟩
  rintro _ _ ⟨rfl, rfl⟩
  have hfb := fLk_bd lo co q hD1.1
  refine gd_istore_n C dX5_takesOut_5 (Nat.le_of_ble_eq_true rfl) ?_
  suffices hloop : ∀ (n9 : Nat) (i : Int), fLk n lo co q ≤ i → i < n → (n - i).toNat = n9 → (lLk n lo co ct nm q) = fW (hA ct nm q) lo co (hs q) n i → Gd p l e ({ frames := 2, cells := 0, slots := 0, locals := 46 }) s m args below meth c D z Q 0 0 w 6 [some (.ref o), some (.int (iI q)), some (.int (iI i)), none] [] from
    hloop _ _ (Int.le_refl _) hfb.2 rfl rfl
  intro n9
  induction n9 using Nat.strongRecOn with
  | _ n9 ih =>
  intro i h1i h2i hn hl1
  refine gd_aload_n C dX5_takesOut_6 rfl ?_
  refine gd_iload_n C dX5_takesOut_7 rfl ?_
  refine gd_iload_n C dX5_takesOut_8 rfl ?_
  refine gd_callV (n := 2) (ci := 5) (Cn := RX5) (T := TX5) (N := 18) C (kX5_goesOn hl hMv.1 hN hD hn3 hlo0 hco0 (q := q) hq (i := i) ?_) ?_ rfl gX5_takesOut_X5_goesOn rfl ⟨rfl, by decide, by decide, by decide +kernel⟩ rfl rfl (Nat.le_of_ble_eq_true rfl) rfl dX5_takesOut_9 ⟨⟨by decide, by decide⟩, by decide, by decide⟩ (fun _ h => h.elim) ?_
  · omega
  · exact ⟨_, by exact hMv.ob⟩
  rintro _ _ ⟨b7, rfl, rfl, hb7⟩
  have hb71 : b7 = 0 ∨ b7 = 1 := by rcases hb7 with h9 | h9 <;> omega
  refine gd_if_eq (tgt := 21) C dX5_takesOut_12 (by decide) ?_ (fun hc12 => ?_) (fun hc12 => ?_)
  · omega
  · refine gd_iconst C dX5_takesOut_21 ?_
    refine gd_istore_n C dX5_takesOut_22 (Nat.le_of_ble_eq_true rfl) ?_
    have e1 : (lLk n lo co ct nm q) = i := by rw [hl1]; exact fW_f h2i (hb7.resolve_left (fun h9 => by omega)).2
    rw [e1] at hhas hdi hp9
    clear hl1 hb7 hb71 ih
    obtain ⟨hA9, hB9, hC9, hP⟩ := hN2 i (by omega) h2i
    have hct := hD4 i
    obtain ⟨pk, pk1, pk2, pk3⟩ := hP.hA.mp hhas
    have hFb : ∀ k, 0 ≤ k → k < ct i → 0 ≤ F 12 (4 * i + k) ∧ F 12 (4 * i + k) ≤ 999 := fun k h1 h2 => by
      obtain ⟨k', a1, a2, a3⟩ := (hP.1 (F 12 (4 * i + k))).mpr ⟨k, h1, h2, rfl⟩
      rw [← a3]
      exact hD5 i k'
    suffices hloop2 : ∀ (n9 : Nat) (y : Int), 0 ≤ y → y ≤ pk → (pk - y).toNat = n9 → Gd p l e ({ frames := 2, cells := 0, slots := 0, locals := 46 }) s m args below meth c D z Q 0 0 w 23 [some (.ref o), some (.int (iI q)), some (.int (iI i)), some (.int (iI y))] [] from
      hloop2 _ 0 (by omega) pk1 rfl
    intro n8
    induction n8 using Nat.strongRecOn with
    | _ n8 ih =>
    intro y h1y h2y hn8
    have hFp := hFb y h1y (by omega)
    have hpk : y = pk → F 12 (4 * i + y) = q := fun h => by rw [h]; exact pk3
    refine gd_aload_n C dX5_takesOut_23 rfl ?_
    refine gm_get C hMv (by decide +kernel) 12 (by decide) (by decide +kernel) rfl dX5_takesOut_24 rfl ?_
    refine gd_iconst C dX5_takesOut_27 ?_
    refine gd_iload_n C dX5_takesOut_28 rfl ?_
    refine gd_imul C dX5_takesOut_29 ?_
    refine gd_iload_n C dX5_takesOut_30 rfl ?_
    refine gd_iadd C dX5_takesOut_31 ?_
    refine gd_iald C dX5_takesOut_32 hMv.a12 (by decide) ?_ ?_
    · omega
    refine gd_iload_n C dX5_takesOut_33 rfl ?_
    refine gd_icmp_eq (tgt := 43) C dX5_takesOut_34 (by decide) ?_ ?_ (fun hc34 => ?_) (fun hc34 => ?_)
    · omega
    · omega
    · refine gd_aload_n C dX5_takesOut_43 rfl ?_
      refine gm_get C hMv (by decide +kernel) 13 (by decide) (by decide +kernel) rfl dX5_takesOut_44 rfl ?_
      refine gd_iload_n C dX5_takesOut_47 rfl ?_
      refine gd_dup2 C dX5_takesOut_48 rfl rfl ?_
      refine gd_iald C dX5_takesOut_49 hMv.a13 (by decide) ?_ ?_
      · omega
      refine gd_iconst C dX5_takesOut_50 ?_
      refine gd_isub C dX5_takesOut_51 ?_
      refine gm_iast C hMv (k := 13) (n := 300) (by decide) (fun _ => rfl) dX5_takesOut_52 (by decide) ?_ (fun wm1 hMm1 => ?_)
      · omega
      have hm9 : nU F 13 (fU (F 13) i (F 13 i - 1)) 13 i = ct i - 1 := by
        show fU (F 13) i (F 13 i - 1) i = _
        rw [fU_s]; omega
      refine gd_aload_n C dX5_takesOut_53 rfl ?_
      refine gm_get C hMm1 (by decide +kernel) 12 (by decide) (by decide +kernel) rfl dX5_takesOut_54 rfl ?_
      refine gd_iconst C dX5_takesOut_57 ?_
      refine gd_iload_n C dX5_takesOut_58 rfl ?_
      refine gd_imul C dX5_takesOut_59 ?_
      refine gd_iload_n C dX5_takesOut_60 rfl ?_
      refine gd_iadd C dX5_takesOut_61 ?_
      refine gd_aload_n C dX5_takesOut_62 rfl ?_
      refine gm_get C hMm1 (by decide +kernel) 12 (by decide) (by decide +kernel) rfl dX5_takesOut_63 rfl ?_
      refine gd_iconst C dX5_takesOut_66 ?_
      refine gd_iload_n C dX5_takesOut_67 rfl ?_
      refine gd_imul C dX5_takesOut_68 ?_
      refine gd_aload_n C dX5_takesOut_69 rfl ?_
      refine gm_get C hMm1 (by decide +kernel) 13 (by decide) (by decide +kernel) rfl dX5_takesOut_70 rfl ?_
      refine gd_iload_n C dX5_takesOut_73 rfl ?_
      refine gd_iald C dX5_takesOut_74 hMm1.a13 (by decide) ?_ ?_
      · omega
      refine gd_iadd C dX5_takesOut_75 ?_
      refine gd_iald C dX5_takesOut_76 hMm1.a12 (by decide) ?_ ?_
      · omega
      refine gm_iast C hMm1 (k := 12) (n := 1200) (by decide) (fun _ => rfl) dX5_takesOut_77 (by decide) ?_ (fun wm2 hMm2 => ?_)
      · omega
      refine gd_aload_n C dX5_takesOut_78 rfl ?_
      refine gm_get C hMm2 (by decide +kernel) 9 (by decide) (by decide +kernel) rfl dX5_takesOut_79 rfl ?_
      refine gd_iload_n C dX5_takesOut_82 rfl ?_
      refine gd_iconst C dX5_takesOut_83 ?_
      refine gm_iast C hMm2 (k := 9) (n := 1000) (by decide) (fun _ => rfl) dX5_takesOut_84 (by decide) ?_ (fun wm3 hMm3 => ?_)
      · omega
      refine gd_vret C hQ hret dX5_takesOut_85 ?_ ?_
      · refine ⟨rfl, _, _, hMm3, ((FF9.rf F).nU (by decide) _ |>.nU (by decide) _).nU (by decide) _, rfl, ⟨rfl, rfl, rfl⟩, hN1, fun i9 j1 j2 => ?_⟩
        rw [e1]
        obtain ⟨a1, a2, a3, a4⟩ := hN2 i9 j1 j2
        refine ⟨a1, a2, ?_, ?_⟩
        · show fU (F 13) i (F 13 i - 1) i9 = _
          by_cases h9 : i9 = i
          · rw [h9, fU_s, fU_s]; omega
          · rw [fU_n h9, fU_n h9]; exact a3
        · show PR _ _ (fun k => fU (F 12) (4 * i + y) (F 12 (4 * i + nU F 13 (fU (F 13) i (F 13 i - 1)) 13 i)) (4 * i9 + k))
          rw [hm9]
          by_cases h9 : i9 = i
          · subst h9
            rw [fU_s, fU_s, fU_off]
            exact a4.rm hdi hp9.1 hp9.2 ⟨h1y, by omega⟩ (by show F 12 (4 * i9 + y) = q; omega)
          · rw [fU_n h9, fU_n h9]
            have hc4 := hD4 i9
            exact a4.cg (fun _ _ _ => rfl) (fun k k1 k2 => fU_n (by omega))
      · decide
    · refine gd_iinc C dX5_takesOut_37 rfl ?_
      refine gd_goto (tgt := 23) C dX5_takesOut_40 (by decide) ?_
      exact ih _ (by omega) (y + 1) (by omega) (by omega) rfl
  · refine gd_iinc C dX5_takesOut_15 rfl ?_
    refine gd_goto (tgt := 6) C dX5_takesOut_18 (by decide) ?_
    have hgo := (hb7.resolve_right (fun h9 => by omega)).2
    exact ih _ (by have := hgo.2.1; omega) (i + 1) (by omega) hgo.2.1 rfl (by rw [hl1]; exact fW_t h2i hgo)

set_option maxRecDepth 100000 in
set_option maxHeartbeats 4000000 in
theorem kX5_splits {l : Launch} {D : va_G} {ky : Nat → ClassId} {z : Nat} {w : WT} (hl : l.stackTraces = false) {o : Nat} {A : Nat → Nat} {F : Nat → Int → Int} {G : Nat → Int} (hM : MW w ky o A F G) {n : Int} {lo co ct : Int → Int} {nm fl : Int → Int → Int} (hN : RNM F G n lo co ct nm) (hD : DR n lo co ct nm fl) (hn3 : n ≤ 300) (hlo0 : lo 0 = 0) (hco0 : co 0 = 0) {j : Int} (hj : 0 ≤ j ∧ j < n) (hn4 : n < 300) (hc4 : ct j = 4) (hsrt : ∀ k, 0 ≤ k → k + 1 < 4 → rk (nm j k) < rk (nm j (k + 1))) : Mt l D ky z yX5_splits wsX5_splits { frames := 2, cells := 0, slots := 0, locals := 41 } [.ref o, .int (iI j)] w (fun r w' => r = none ∧ ∃ F' G', MV w w' ky o A F' G' ∧ FF9 F F' ∧ F' 9 = F 9 ∧ (G' 15 = G 15 ∧ G' 16 = G 16 ∧ G' 17 = G 17) ∧ RNM F' G' (n + 1) (shI lo j (hs (nm j 2))) (shI co j (eqI (hs (nm j 1)) (hs (nm j 2)))) (fU (shI ct j 2) j 2) (shI nm j (spF (nm j)))) (fun _ => False) := by
  refine Mt.of (cc := cX5_splits) (ret := none) (maxL := 6) (by decide) rfl (by intro v hv; simp at hv; rcases hv with rfl | rfl <;> rfl) (Nat.le_of_ble_eq_true rfl) ?_ hl
  intro p e s m args below meth c C htab hret hname Q hQ
  have hMv := hM.V
  obtain ⟨hN1, hN2⟩ := id hN
  obtain ⟨hD1, hD2, hD3, hD4, hD5, hD6⟩ := id hD
  refine gd_aload_n C dX5_splits_0 rfl ?_
  refine gm_get C hMv (by decide +kernel) 14 (by decide) (by decide +kernel) rfl dX5_splits_1 rfl ?_
  refine gd_istore_n C dX5_splits_4 (Nat.le_of_ble_eq_true rfl) ?_
  suffices hloop : ∀ (n9 : Nat) (k : Int) (w1 : WT) (F1 : Nat → Int → Int), j + 1 ≤ k → k ≤ n → (k - j).toNat = n9 → MV w w1 ky o A F1 G → FF9 F F1 → F1 9 = F 9 → OS n k F F1 → Gd p l e ({ frames := 2, cells := 0, slots := 0, locals := 41 }) s m args below meth c D z Q 0 0 w1 5 [some (.ref o), some (.int (iI j)), some (.int (iI k)), none, none, none] [] from by
    rw [hN1]
    exact hloop _ n w F (by omega) (by omega) rfl hMv (FF9.rf F) rfl (OS.z n F)
  intro n9
  induction n9 using Nat.strongRecOn with
  | _ n9 ih =>
  intro k w1 F1 h1k h2k hn hM1 hF1 h91 hO1
  refine gd_iload_n C dX5_splits_5 rfl ?_
  refine gd_iload_n C dX5_splits_6 rfl ?_
  refine gd_iconst C dX5_splits_7 ?_
  refine gd_iadd C dX5_splits_8 ?_
  refine gd_icmp_le (tgt := 95) C dX5_splits_9 (by decide) ?_ ?_ (fun hc9 => ?_) (fun hc9 => ?_)
  · omega
  · omega
  · refine gd_aload_n C dX5_splits_95 rfl ?_
    refine gd_dup C dX5_splits_96 rfl ?_
    refine gm_get C hM1 (by decide +kernel) 14 (by decide) (by decide +kernel) rfl dX5_splits_97 rfl ?_
    refine gd_iconst C dX5_splits_100 ?_
    refine gd_iadd C dX5_splits_101 ?_
    refine gm_put C hM1 (by decide +kernel) 14 (by decide) (by decide +kernel) rfl rfl dX5_splits_102 rfl rfl rfl (fun wm1 hMm1 => ?_)
    refine gd_iconst C dX5_splits_105 ?_
    refine gd_iload_n C dX5_splits_106 rfl ?_
    refine gd_imul C dX5_splits_107 ?_
    refine gd_istore_n C dX5_splits_108 (Nat.le_of_ble_eq_true rfl) ?_
    refine gd_iconst C dX5_splits_109 ?_
    refine gd_istore_n C dX5_splits_110 (Nat.le_of_ble_eq_true rfl) ?_
    obtain rfl : k = j + 1 := by omega
    clear ih
    have hx0 : PR 4 (nm j) (fun k => F1 12 (4 * j + k)) := by
      obtain ⟨a1, a2, a3, a4⟩ := hN2 j hj.1 hj.2
      rw [hc4] at a4
      exact a4.cg (fun _ _ _ => rfl) (fun k k1 k2 => by rw [hO1.2 _ (by omega) (by omega), if_neg (by omega)])
    suffices hloopc : ∀ (n9 : Nat) (k : Int) (w2 : WT) (F2 : Nat → Int → Int), 0 ≤ k → k ≤ 4 → (4 - k).toNat = n9 → MV w w2 ky o A F2 (nU G 14 (G 14 + 1)) → (∀ i, i ≠ 12 → F2 i = F1 i) → (∀ x, x < 4 * j ∨ 4 * j + 4 ≤ x → F2 12 x = F1 12 x) → PR 4 (nm j) (fun k => F2 12 (4 * j + k)) → SR k (fun k => F2 12 (4 * j + k)) → Gd p l e ({ frames := 2, cells := 0, slots := 0, locals := 41 }) s m args below meth c D z Q 0 0 w2 111 [some (.ref o), some (.int (iI j)), some (.int (iI (4 * j))), some (.int (iI k)), none, none] [] from
      hloopc _ 0 _ F1 (by omega) (by omega) rfl hMm1 (fun _ _ => rfl) (fun _ _ => rfl) hx0 (fun m i m1 m2 i1 i2 => by omega)
    intro n9
    induction n9 using Nat.strongRecOn with
    | _ n9 ih =>
    intro k w2 F2 h1k h2k hn hM2 hF2 hx2 hP2 hS2
    refine gd_iload_n C dX5_splits_111 rfl ?_
    refine gd_iconst C dX5_splits_112 ?_
    refine gd_icmp_ge (tgt := 199) C dX5_splits_113 (by decide) ?_ ?_ (fun hc113 => ?_) (fun hc113 => ?_)
    · omega
    · omega
    · have e4 : k = 4 := by omega
      subst e4
      clear ih
      have hsr : ∀ k, 0 ≤ k → k < 4 → F2 12 (4 * j + k) = nm j k := srt_u hP2 hsrt (hD5 j) hS2
      have hs0 := hsr 0 (by omega) (by omega)
      have hs1 := hsr 1 (by omega) (by omega)
      have hs2 := hsr 2 (by omega) (by omega)
      have hs3 := hsr 3 (by omega) (by omega)
      have hn1 := hD5 j 1
      have hn2 := hD5 j 2
      have hh1 := hs_bd (nm j 1)
      have hh2 := hs_bd (nm j 2)
      refine gd_aload_n C dX5_splits_199 rfl ?_
      refine gm_get C hM2 (by decide +kernel) 12 (by decide) (by decide +kernel) rfl dX5_splits_200 rfl ?_
      refine gd_iload_n C dX5_splits_203 rfl ?_
      refine gd_iconst C dX5_splits_204 ?_
      refine gd_iadd C dX5_splits_205 ?_
      refine gd_aload_n C dX5_splits_206 rfl ?_
      refine gm_get C hM2 (by decide +kernel) 12 (by decide) (by decide +kernel) rfl dX5_splits_207 rfl ?_
      refine gd_iload_n C dX5_splits_210 rfl ?_
      refine gd_iconst C dX5_splits_211 ?_
      refine gd_iadd C dX5_splits_212 ?_
      refine gd_iald C dX5_splits_213 hM2.a12 (by decide) ?_ ?_
      · omega
      refine gm_iast C hM2 (k := 12) (n := 1200) (by decide) (fun _ => rfl) dX5_splits_214 (by decide) ?_ (fun wm2 hMm2 => ?_)
      · omega
      refine gd_aload_n C dX5_splits_215 rfl ?_
      refine gm_get C hMm2 (by decide +kernel) 12 (by decide) (by decide +kernel) rfl dX5_splits_216 rfl ?_
      refine gd_iload_n C dX5_splits_219 rfl ?_
      refine gd_iconst C dX5_splits_220 ?_
      refine gd_iadd C dX5_splits_221 ?_
      refine gd_iconst C dX5_splits_222 ?_
      refine gd_iadd C dX5_splits_223 ?_
      refine gd_aload_n C dX5_splits_224 rfl ?_
      refine gm_get C hMm2 (by decide +kernel) 12 (by decide) (by decide +kernel) rfl dX5_splits_225 rfl ?_
      refine gd_iload_n C dX5_splits_228 rfl ?_
      refine gd_iconst C dX5_splits_229 ?_
      refine gd_iadd C dX5_splits_230 ?_
      refine gd_iald C dX5_splits_231 hMm2.a12 (by decide) ?_ ?_
      · omega
      refine gm_iast C hMm2 (k := 12) (n := 1200) (by decide) (fun _ => rfl) dX5_splits_232 (by decide) ?_ (fun wm3 hMm3 => ?_)
      · omega
      refine gd_aload_n C dX5_splits_233 rfl ?_
      refine gm_get C hMm3 (by decide +kernel) 13 (by decide) (by decide +kernel) rfl dX5_splits_234 rfl ?_
      refine gd_iload_n C dX5_splits_237 rfl ?_
      refine gd_iconst C dX5_splits_238 ?_
      refine gm_iast C hMm3 (k := 13) (n := 300) (by decide) (fun _ => rfl) dX5_splits_239 (by decide) ?_ (fun wm4 hMm4 => ?_)
      · omega
      refine gd_aload_n C dX5_splits_240 rfl ?_
      refine gm_get C hMm4 (by decide +kernel) 13 (by decide) (by decide +kernel) rfl dX5_splits_241 rfl ?_
      refine gd_iload_n C dX5_splits_244 rfl ?_
      refine gd_iconst C dX5_splits_245 ?_
      refine gd_iadd C dX5_splits_246 ?_
      refine gd_iconst C dX5_splits_247 ?_
      refine gm_iast C hMm4 (k := 13) (n := 300) (by decide) (fun _ => rfl) dX5_splits_248 (by decide) ?_ (fun wm5 hMm5 => ?_)
      · omega
      refine gd_aload_n C dX5_splits_249 rfl ?_
      refine gm_get C hMm5 (by decide +kernel) 10 (by decide) (by decide +kernel) rfl dX5_splits_250 rfl ?_
      refine gd_iload_n C dX5_splits_253 rfl ?_
      refine gd_iconst C dX5_splits_254 ?_
      refine gd_iadd C dX5_splits_255 ?_
      refine gd_aload_n C dX5_splits_256 rfl ?_
      refine gm_get C hMm5 (by decide +kernel) 12 (by decide) (by decide +kernel) rfl dX5_splits_257 rfl ?_
      refine gd_iload_n C dX5_splits_260 rfl ?_
      refine gd_iconst C dX5_splits_261 ?_
      refine gd_iadd C dX5_splits_262 ?_
      refine gd_iald C dX5_splits_263 hMm5.a12 (by decide) ?_ ?_
      · omega
      have hv2 : (nU (nU (nU (nU F2 12 (fU (F2 12) (4 * j + 4) (F2 12 (4 * j + 2)))) 12 (fU ((nU F2 12 (fU (F2 12) (4 * j + 4) (F2 12 (4 * j + 2)))) 12) (4 * j + 4 + 1) ((nU F2 12 (fU (F2 12) (4 * j + 4) (F2 12 (4 * j + 2)))) 12 (4 * j + 3)))) 13 (fU ((nU (nU F2 12 (fU (F2 12) (4 * j + 4) (F2 12 (4 * j + 2)))) 12 (fU ((nU F2 12 (fU (F2 12) (4 * j + 4) (F2 12 (4 * j + 2)))) 12) (4 * j + 4 + 1) ((nU F2 12 (fU (F2 12) (4 * j + 4) (F2 12 (4 * j + 2)))) 12 (4 * j + 3)))) 13) j 2)) 13 (fU ((nU (nU (nU F2 12 (fU (F2 12) (4 * j + 4) (F2 12 (4 * j + 2)))) 12 (fU ((nU F2 12 (fU (F2 12) (4 * j + 4) (F2 12 (4 * j + 2)))) 12) (4 * j + 4 + 1) ((nU F2 12 (fU (F2 12) (4 * j + 4) (F2 12 (4 * j + 2)))) 12 (4 * j + 3)))) 13 (fU ((nU (nU F2 12 (fU (F2 12) (4 * j + 4) (F2 12 (4 * j + 2)))) 12 (fU ((nU F2 12 (fU (F2 12) (4 * j + 4) (F2 12 (4 * j + 2)))) 12) (4 * j + 4 + 1) ((nU F2 12 (fU (F2 12) (4 * j + 4) (F2 12 (4 * j + 2)))) 12 (4 * j + 3)))) 13) j 2)) 13) (j + 1) 2)) 12 (4 * j + 2) = nm j 2 := by
        show fU (fU (F2 12) (4 * j + 4) _) (4 * j + 4 + 1) _ (4 * j + 2) = _
        rw [fU_n (by omega), fU_n (by omega)]
        exact hs2
      rw [hv2]
      refine gd_callS (n := 1) C (kX5_hash hl (q := nm j 2) hn2) gX5_splits_X5_hash rfl ⟨by decide, by decide, by decide +kernel⟩ rfl rfl (Nat.le_of_ble_eq_true rfl) rfl dX5_splits_264 ⟨⟨by decide, by decide⟩, by decide, by decide⟩ (fun _ h => h.elim) ?_
      rintro _ _ ⟨rfl, rfl⟩
      refine gm_iast C hMm5 (k := 10) (n := 300) (by decide) (fun _ => rfl) dX5_splits_267 (by decide) ?_ (fun wm6 hMm6 => ?_)
      · omega
      refine gd_aload_n C dX5_splits_268 rfl ?_
      refine gm_get C hMm6 (by decide +kernel) 11 (by decide) (by decide +kernel) rfl dX5_splits_269 rfl ?_
      refine gd_iload_n C dX5_splits_272 rfl ?_
      refine gd_iconst C dX5_splits_273 ?_
      refine gd_iadd C dX5_splits_274 ?_
      refine gd_aload_n C dX5_splits_275 rfl ?_
      refine gm_get C hMm6 (by decide +kernel) 12 (by decide) (by decide +kernel) rfl dX5_splits_276 rfl ?_
      refine gd_iload_n C dX5_splits_279 rfl ?_
      refine gd_iconst C dX5_splits_280 ?_
      refine gd_iadd C dX5_splits_281 ?_
      refine gd_iald C dX5_splits_282 hMm6.a12 (by decide) ?_ ?_
      · omega
      have hv3 : (nU (nU (nU (nU (nU F2 12 (fU (F2 12) (4 * j + 4) (F2 12 (4 * j + 2)))) 12 (fU ((nU F2 12 (fU (F2 12) (4 * j + 4) (F2 12 (4 * j + 2)))) 12) (4 * j + 4 + 1) ((nU F2 12 (fU (F2 12) (4 * j + 4) (F2 12 (4 * j + 2)))) 12 (4 * j + 3)))) 13 (fU ((nU (nU F2 12 (fU (F2 12) (4 * j + 4) (F2 12 (4 * j + 2)))) 12 (fU ((nU F2 12 (fU (F2 12) (4 * j + 4) (F2 12 (4 * j + 2)))) 12) (4 * j + 4 + 1) ((nU F2 12 (fU (F2 12) (4 * j + 4) (F2 12 (4 * j + 2)))) 12 (4 * j + 3)))) 13) j 2)) 13 (fU ((nU (nU (nU F2 12 (fU (F2 12) (4 * j + 4) (F2 12 (4 * j + 2)))) 12 (fU ((nU F2 12 (fU (F2 12) (4 * j + 4) (F2 12 (4 * j + 2)))) 12) (4 * j + 4 + 1) ((nU F2 12 (fU (F2 12) (4 * j + 4) (F2 12 (4 * j + 2)))) 12 (4 * j + 3)))) 13 (fU ((nU (nU F2 12 (fU (F2 12) (4 * j + 4) (F2 12 (4 * j + 2)))) 12 (fU ((nU F2 12 (fU (F2 12) (4 * j + 4) (F2 12 (4 * j + 2)))) 12) (4 * j + 4 + 1) ((nU F2 12 (fU (F2 12) (4 * j + 4) (F2 12 (4 * j + 2)))) 12 (4 * j + 3)))) 13) j 2)) 13) (j + 1) 2)) 10 (fU ((nU (nU (nU (nU F2 12 (fU (F2 12) (4 * j + 4) (F2 12 (4 * j + 2)))) 12 (fU ((nU F2 12 (fU (F2 12) (4 * j + 4) (F2 12 (4 * j + 2)))) 12) (4 * j + 4 + 1) ((nU F2 12 (fU (F2 12) (4 * j + 4) (F2 12 (4 * j + 2)))) 12 (4 * j + 3)))) 13 (fU ((nU (nU F2 12 (fU (F2 12) (4 * j + 4) (F2 12 (4 * j + 2)))) 12 (fU ((nU F2 12 (fU (F2 12) (4 * j + 4) (F2 12 (4 * j + 2)))) 12) (4 * j + 4 + 1) ((nU F2 12 (fU (F2 12) (4 * j + 4) (F2 12 (4 * j + 2)))) 12 (4 * j + 3)))) 13) j 2)) 13 (fU ((nU (nU (nU F2 12 (fU (F2 12) (4 * j + 4) (F2 12 (4 * j + 2)))) 12 (fU ((nU F2 12 (fU (F2 12) (4 * j + 4) (F2 12 (4 * j + 2)))) 12) (4 * j + 4 + 1) ((nU F2 12 (fU (F2 12) (4 * j + 4) (F2 12 (4 * j + 2)))) 12 (4 * j + 3)))) 13 (fU ((nU (nU F2 12 (fU (F2 12) (4 * j + 4) (F2 12 (4 * j + 2)))) 12 (fU ((nU F2 12 (fU (F2 12) (4 * j + 4) (F2 12 (4 * j + 2)))) 12) (4 * j + 4 + 1) ((nU F2 12 (fU (F2 12) (4 * j + 4) (F2 12 (4 * j + 2)))) 12 (4 * j + 3)))) 13) j 2)) 13) (j + 1) 2)) 10) (j + 1) (hs (nm j 2)))) 12 (4 * j + 1) = nm j 1 := by
        show fU (fU (F2 12) (4 * j + 4) _) (4 * j + 4 + 1) _ (4 * j + 1) = _
        rw [fU_n (by omega), fU_n (by omega)]
        exact hs1
      rw [hv3]
      refine gd_callS (n := 1) C (kX5_hash hl (q := nm j 1) hn1) gX5_splits_X5_hash rfl ⟨by decide, by decide, by decide +kernel⟩ rfl rfl (Nat.le_of_ble_eq_true rfl) rfl dX5_splits_283 ⟨⟨by decide, by decide⟩, by decide, by decide⟩ (fun _ h => h.elim) ?_
      rintro _ _ ⟨rfl, rfl⟩
      refine gd_aload_n C dX5_splits_286 rfl ?_
      refine gm_get C hMm6 (by decide +kernel) 12 (by decide) (by decide +kernel) rfl dX5_splits_287 rfl ?_
      refine gd_iload_n C dX5_splits_290 rfl ?_
      refine gd_iconst C dX5_splits_291 ?_
      refine gd_iadd C dX5_splits_292 ?_
      refine gd_iald C dX5_splits_293 hMm6.a12 (by decide) ?_ ?_
      · omega
      have hv4 : (nU (nU (nU (nU (nU F2 12 (fU (F2 12) (4 * j + 4) (F2 12 (4 * j + 2)))) 12 (fU ((nU F2 12 (fU (F2 12) (4 * j + 4) (F2 12 (4 * j + 2)))) 12) (4 * j + 4 + 1) ((nU F2 12 (fU (F2 12) (4 * j + 4) (F2 12 (4 * j + 2)))) 12 (4 * j + 3)))) 13 (fU ((nU (nU F2 12 (fU (F2 12) (4 * j + 4) (F2 12 (4 * j + 2)))) 12 (fU ((nU F2 12 (fU (F2 12) (4 * j + 4) (F2 12 (4 * j + 2)))) 12) (4 * j + 4 + 1) ((nU F2 12 (fU (F2 12) (4 * j + 4) (F2 12 (4 * j + 2)))) 12 (4 * j + 3)))) 13) j 2)) 13 (fU ((nU (nU (nU F2 12 (fU (F2 12) (4 * j + 4) (F2 12 (4 * j + 2)))) 12 (fU ((nU F2 12 (fU (F2 12) (4 * j + 4) (F2 12 (4 * j + 2)))) 12) (4 * j + 4 + 1) ((nU F2 12 (fU (F2 12) (4 * j + 4) (F2 12 (4 * j + 2)))) 12 (4 * j + 3)))) 13 (fU ((nU (nU F2 12 (fU (F2 12) (4 * j + 4) (F2 12 (4 * j + 2)))) 12 (fU ((nU F2 12 (fU (F2 12) (4 * j + 4) (F2 12 (4 * j + 2)))) 12) (4 * j + 4 + 1) ((nU F2 12 (fU (F2 12) (4 * j + 4) (F2 12 (4 * j + 2)))) 12 (4 * j + 3)))) 13) j 2)) 13) (j + 1) 2)) 10 (fU ((nU (nU (nU (nU F2 12 (fU (F2 12) (4 * j + 4) (F2 12 (4 * j + 2)))) 12 (fU ((nU F2 12 (fU (F2 12) (4 * j + 4) (F2 12 (4 * j + 2)))) 12) (4 * j + 4 + 1) ((nU F2 12 (fU (F2 12) (4 * j + 4) (F2 12 (4 * j + 2)))) 12 (4 * j + 3)))) 13 (fU ((nU (nU F2 12 (fU (F2 12) (4 * j + 4) (F2 12 (4 * j + 2)))) 12 (fU ((nU F2 12 (fU (F2 12) (4 * j + 4) (F2 12 (4 * j + 2)))) 12) (4 * j + 4 + 1) ((nU F2 12 (fU (F2 12) (4 * j + 4) (F2 12 (4 * j + 2)))) 12 (4 * j + 3)))) 13) j 2)) 13 (fU ((nU (nU (nU F2 12 (fU (F2 12) (4 * j + 4) (F2 12 (4 * j + 2)))) 12 (fU ((nU F2 12 (fU (F2 12) (4 * j + 4) (F2 12 (4 * j + 2)))) 12) (4 * j + 4 + 1) ((nU F2 12 (fU (F2 12) (4 * j + 4) (F2 12 (4 * j + 2)))) 12 (4 * j + 3)))) 13 (fU ((nU (nU F2 12 (fU (F2 12) (4 * j + 4) (F2 12 (4 * j + 2)))) 12 (fU ((nU F2 12 (fU (F2 12) (4 * j + 4) (F2 12 (4 * j + 2)))) 12) (4 * j + 4 + 1) ((nU F2 12 (fU (F2 12) (4 * j + 4) (F2 12 (4 * j + 2)))) 12 (4 * j + 3)))) 13) j 2)) 13) (j + 1) 2)) 10) (j + 1) (hs (nm j 2)))) 12 (4 * j + 2) = nm j 2 := by
        show fU (fU (F2 12) (4 * j + 4) _) (4 * j + 4 + 1) _ (4 * j + 2) = _
        rw [fU_n (by omega), fU_n (by omega)]
        exact hs2
      rw [hv4]
      refine gd_callS (n := 1) C (kX5_hash hl (q := nm j 2) hn2) gX5_splits_X5_hash rfl ⟨by decide, by decide, by decide +kernel⟩ rfl rfl (Nat.le_of_ble_eq_true rfl) rfl dX5_splits_294 ⟨⟨by decide, by decide⟩, by decide, by decide⟩ (fun _ h => h.elim) ?_
      rintro _ _ ⟨rfl, rfl⟩
      have hj297 : ∀ x9 : Int, (x9 = eqI (hs (nm j 1)) (hs (nm j 2))) → Gd p l e ({ frames := 2, cells := 0, slots := 0, locals := 41 }) s m args below meth c D z Q 0 0 wm6 305 [some (.ref o), some (.int (iI j)), some (.int (iI (4 * j))), some (.int (iI 4)), none, none] (.int (iI x9) :: [.int (iI (j + 1)), .ref (A 11)]) := by
        intro x9 hvx9
        refine gm_zast C hMm6 (k := 11) (n := 300) (by decide) (fun _ => rfl) dX5_splits_305 (by decide) ?_ ?_ (fun wm7 hMm7 => ?_)
        · omega
        · have := eqI_bd (hs (nm j 1)) (hs (nm j 2))
          omega
        refine gd_vret C hQ hret dX5_splits_306 ?_ ?_
        · refine ⟨rfl, _, _, hMm7, fun i hi => ?_, ?_, ⟨rfl, rfl, rfl⟩, ?_⟩
          · have hi12 : i ≠ 12 ∧ i ≠ 10 ∧ i ≠ 11 ∧ i ≠ 13 := by omega
            simp only [nU_n hi12.1, nU_n hi12.2.1, nU_n hi12.2.2.1, nU_n hi12.2.2.2]
            exact (hF2 i hi12.1).trans (hF1 i hi)
          · exact (hF2 9 (by decide)).trans h91
          · refine RNM.sp (j := j) (L := hs (nm j 2)) hN (fun i => (hD4 i).2) hj (fun k k' b1 b2 b3 b4 b5 => ?_) hO1 ?_ ?_ ?_ ?_ ?_ ?_ ?_
            · exact hP2.2 k k' b1 b2 b3 b4 (by show F2 12 (4 * j + k) = F2 12 (4 * j + k'); rw [hsr k b1 b2, hsr k' b3 b4]; exact b5)
            · show G 14 + 1 = n + 1
              omega
            · show fU (F2 10) (j + 1) _ = _
              rw [hF2 10 (by decide)]
            · show fU (F2 11) (j + 1) x9 = _
              rw [hF2 11 (by decide), hvx9]
            · show fU (fU (F2 13) j 2) (j + 1) 2 = _
              rw [hF2 13 (by decide)]
            · intro x x1 x2 x3
              show fU (fU (F2 12) (4 * j + 4) _) (4 * j + 4 + 1) _ x = _
              rw [fU_n (by omega), fU_n (by omega)]
              exact hx2 x (by omega)
            · intro k k1 k2
              show fU (fU (F2 12) (4 * j + 4) _) (4 * j + 4 + 1) _ (4 * j + k) = _
              rw [fU_n (by omega), fU_n (by omega)]
              exact hsr k k1 (by omega)
            · constructor
              · show fU (fU (F2 12) (4 * j + 4) (F2 12 (4 * j + 2))) (4 * j + 4 + 1) _ (4 * j + 4) = _
                rw [fU_n (by omega), fU_s]
                exact hs2
              · show fU (fU (F2 12) (4 * j + 4) (F2 12 (4 * j + 2))) (4 * j + 4 + 1) _ (4 * j + 5) = _
                rw [show 4 * j + 5 = 4 * j + 4 + 1 by omega, fU_s]
                show fU (F2 12) (4 * j + 4) (F2 12 (4 * j + 2)) (4 * j + 3) = _
                rw [fU_n (by omega)]
                exact hs3
        · decide
      refine gd_icmp_ne (tgt := 304) C dX5_splits_297 (by decide) ?_ ?_ (fun hc297 => ?_) (fun hc297 => ?_)
      · omega
      · omega
      · refine gd_iconst C dX5_splits_304 ?_
        exact Gd.sub (by repeat (first | exact Lsb.nil | exact Lsb.rf _ | refine Lsb.keep ?_ | refine Lsb.drop ?_)) (hj297 _ (by unfold eqI; split <;> omega))
      · refine gd_iconst C dX5_splits_300 ?_
        refine gd_goto (tgt := 305) C dX5_splits_301 (by decide) ?_
        exact Gd.sub (by repeat (first | exact Lsb.nil | exact Lsb.rf _ | refine Lsb.keep ?_ | refine Lsb.drop ?_)) (hj297 _ (by unfold eqI; split <;> omega))
    · refine gd_iload_n C dX5_splits_116 rfl ?_
      refine gd_istore C dX5_splits_117 (Nat.le_of_ble_eq_true rfl) ?_
      suffices hloopd : ∀ (n9 : Nat) (y : Int) (w3 : WT) (F3 : Nat → Int → Int), 0 ≤ y → y ≤ 3 → (3 - y).toNat = n9 → MV w w3 ky o A F3 (nU G 14 (G 14 + 1)) → (∀ i, i ≠ 12 → F3 i = F1 i) → (∀ x, x < 4 * j ∨ 4 * j + 4 ≤ x → F3 12 x = F1 12 x) → PR 4 (nm j) (fun k => F3 12 (4 * j + k)) → BI k y (fun k => F3 12 (4 * j + k)) → Gd p l e ({ frames := 2, cells := 0, slots := 0, locals := 41 }) s m args below meth c D z Q 0 0 w3 119 [some (.ref o), some (.int (iI j)), some (.int (iI (4 * j))), some (.int (iI k)), some (.int (iI (4 * j + y))), none] [] from
        by
          have h9 := hloopd _ 0 w2 F2 (by omega) (by omega) rfl hM2 hF2 hx2 hP2 (BI.z hS2 (by omega))
          rw [Int.add_zero] at h9
          exact Gd.sub (by repeat (first | exact Lsb.nil | exact Lsb.rf _ | refine Lsb.keep ?_ | refine Lsb.drop ?_)) h9
      intro n8
      induction n8 using Nat.strongRecOn with
      | _ n8 ih2 =>
      intro y w3 F3 h1y h2y hn8 hM3 hF3 hx3 hP3 hB3
      have hFb : ∀ k, 0 ≤ k → k < 4 → 0 ≤ F3 12 (4 * j + k) ∧ F3 12 (4 * j + k) ≤ 999 := fun k h1 h2 => by
        obtain ⟨k', a1, a2, a3⟩ := (hP3.1 (F3 12 (4 * j + k))).mpr ⟨k, h1, h2, rfl⟩
        rw [← a3]
        exact hD5 j k'
      have hb0 : y < 3 → 0 ≤ F3 12 (4 * j + y) ∧ F3 12 (4 * j + y) ≤ 999 := fun h => hFb y h1y (by omega)
      have hb1 : y < 3 → 0 ≤ F3 12 (4 * j + y + 1) ∧ F3 12 (4 * j + y + 1) ≤ 999 := fun h => by
        have := hFb (y + 1) (by omega) (by omega)
        rwa [show 4 * j + (y + 1) = 4 * j + y + 1 by omega] at this
      refine gd_iload C dX5_splits_119 rfl ?_
      refine gd_iload_n C dX5_splits_121 rfl ?_
      refine gd_iconst C dX5_splits_122 ?_
      refine gd_iadd C dX5_splits_123 ?_
      refine gd_iconst C dX5_splits_124 ?_
      refine gd_isub C dX5_splits_125 ?_
      refine gd_icmp_ge (tgt := 193) C dX5_splits_126 (by decide) ?_ ?_ (fun hc126 => ?_) (fun hc126 => ?_)
      · omega
      · omega
      · refine gd_iinc C dX5_splits_193 rfl ?_
        refine gd_goto (tgt := 111) C dX5_splits_196 (by decide) ?_
        have e3 : y = 3 := by omega
        subst e3
        exact Gd.sub (by repeat (first | exact Lsb.nil | exact Lsb.rf _ | refine Lsb.keep ?_ | refine Lsb.drop ?_)) (ih _ (by omega) (k + 1) w3 F3 (by omega) (by omega) rfl hM3 hF3 hx3 hP3 (hB3.x h1k))
      · replace hb0 := hb0 (by omega)
        replace hb1 := hb1 (by omega)
        refine gd_aload_n C dX5_splits_129 rfl ?_
        refine gm_get C hM3 (by decide +kernel) 12 (by decide) (by decide +kernel) rfl dX5_splits_130 rfl ?_
        refine gd_iload C dX5_splits_133 rfl ?_
        refine gd_iconst C dX5_splits_135 ?_
        refine gd_iadd C dX5_splits_136 ?_
        refine gd_iald C dX5_splits_137 hM3.a12 (by decide) ?_ ?_
        · omega
        refine gd_aload_n C dX5_splits_138 rfl ?_
        refine gm_get C hM3 (by decide +kernel) 12 (by decide) (by decide +kernel) rfl dX5_splits_139 rfl ?_
        refine gd_iload C dX5_splits_142 rfl ?_
        refine gd_iald C dX5_splits_144 hM3.a12 (by decide) ?_ ?_
        · omega
        refine gd_callS (n := 2) C (kX5_isAhead hl (q := F3 12 (4 * j + y + 1)) (x := F3 12 (4 * j + y)) hb1 hb0) gX5_splits_X5_isAhead rfl ⟨by decide, by decide, by decide +kernel⟩ rfl rfl (Nat.le_of_ble_eq_true rfl) rfl dX5_splits_145 ⟨⟨by decide, by decide⟩, by decide, by decide⟩ (fun _ h => h.elim) ?_
        rintro _ _ ⟨b9, rfl, rfl, hb9⟩
        refine gd_if_eq (tgt := 187) C dX5_splits_148 (by decide) ?_ (fun hc148 => ?_) (fun hc148 => ?_)
        · omega
        · refine gd_iinc C dX5_splits_187 rfl ?_
          refine gd_goto (tgt := 119) C dX5_splits_190 (by decide) ?_
          first
            | (have hsw : csw (fun k => F3 12 (4 * j + k)) y = (fun k => fU (fU (F3 12) (4 * j + y) (F3 12 (4 * j + y + 1))) (4 * j + y + 1) (F3 12 (4 * j + y)) (4 * j + k)) := by
                 rw [csw_t (by show rk (F3 12 (4 * j + (y + 1))) < rk (F3 12 (4 * j + y)); rw [show 4 * j + (y + 1) = 4 * j + y + 1 by omega]; exact hsw9)]
                 rw [show 4 * j + y + 1 = 4 * j + (y + 1) by omega, fU_off, fU_off]
               rw [show 4 * j + y + 1 = 4 * j + (y + 1) by omega]
               refine Gd.sub (by repeat (first | exact Lsb.nil | exact Lsb.rf _ | refine Lsb.keep ?_ | refine Lsb.drop ?_)) (ih2 _ (by omega) (y + 1) _ _ (by omega) (by omega) rfl hM3 (fun i hi => by rw [nU_n hi, nU_n hi]; exact hF3 i hi) (fun x hx => ?_) ?_ ?_)
               · show fU (fU (F3 12) (4 * j + y) (F3 12 (4 * j + y + 1))) (4 * j + y + 1) (F3 12 (4 * j + y)) x = _
                 rw [fU_n (by omega), fU_n (by omega)]
                 exact hx3 x hx
               · have h9 := hP3.csw (j := y) ⟨h1y, by omega⟩
                 rw [hsw] at h9
                 exact h9
               · have h9 := hB3.s ⟨h1k, by omega⟩ (j := y) ⟨h1y, by omega⟩
                 rw [hsw] at h9
                 exact h9)
            | (have hsw : csw (fun k => F3 12 (4 * j + k)) y = (fun k => F3 12 (4 * j + k)) := csw_f (by show ¬ rk (F3 12 (4 * j + (y + 1))) < rk (F3 12 (4 * j + y)); rw [show 4 * j + (y + 1) = 4 * j + y + 1 by omega]; omega)
               rw [show 4 * j + y + 1 = 4 * j + (y + 1) by omega]
               refine Gd.sub (by repeat (first | exact Lsb.nil | exact Lsb.rf _ | refine Lsb.keep ?_ | refine Lsb.drop ?_)) (ih2 _ (by omega) (y + 1) w3 F3 (by omega) (by omega) rfl hM3 hF3 hx3 hP3 ?_)
               have h9 := hB3.s ⟨h1k, by omega⟩ (j := y) ⟨h1y, by omega⟩
               rw [hsw] at h9
               exact h9)
        · have hsw9 : rk (F3 12 (4 * j + y + 1)) < rk (F3 12 (4 * j + y)) := by omega
          refine gd_aload_n C dX5_splits_151 rfl ?_
          refine gm_get C hM3 (by decide +kernel) 12 (by decide) (by decide +kernel) rfl dX5_splits_152 rfl ?_
          refine gd_iload C dX5_splits_155 rfl ?_
          refine gd_iald C dX5_splits_157 hM3.a12 (by decide) ?_ ?_
          · omega
          refine gd_istore C dX5_splits_158 (Nat.le_of_ble_eq_true rfl) ?_
          refine gd_aload_n C dX5_splits_160 rfl ?_
          refine gm_get C hM3 (by decide +kernel) 12 (by decide) (by decide +kernel) rfl dX5_splits_161 rfl ?_
          refine gd_iload C dX5_splits_164 rfl ?_
          refine gd_aload_n C dX5_splits_166 rfl ?_
          refine gm_get C hM3 (by decide +kernel) 12 (by decide) (by decide +kernel) rfl dX5_splits_167 rfl ?_
          refine gd_iload C dX5_splits_170 rfl ?_
          refine gd_iconst C dX5_splits_172 ?_
          refine gd_iadd C dX5_splits_173 ?_
          refine gd_iald C dX5_splits_174 hM3.a12 (by decide) ?_ ?_
          · omega
          refine gm_iast C hM3 (k := 12) (n := 1200) (by decide) (fun _ => rfl) dX5_splits_175 (by decide) ?_ (fun wm8 hMm8 => ?_)
          · omega
          refine gd_aload_n C dX5_splits_176 rfl ?_
          refine gm_get C hMm8 (by decide +kernel) 12 (by decide) (by decide +kernel) rfl dX5_splits_177 rfl ?_
          refine gd_iload C dX5_splits_180 rfl ?_
          refine gd_iconst C dX5_splits_182 ?_
          refine gd_iadd C dX5_splits_183 ?_
          refine gd_iload C dX5_splits_184 rfl ?_
          refine gm_iast C hMm8 (k := 12) (n := 1200) (by decide) (fun _ => rfl) dX5_splits_186 (by decide) ?_ (fun wm9 hMm9 => ?_)
          · omega
          refine gd_iinc C dX5_splits_187 rfl ?_
          refine gd_goto (tgt := 119) C dX5_splits_190 (by decide) ?_
          first
            | (have hsw : csw (fun k => F3 12 (4 * j + k)) y = (fun k => fU (fU (F3 12) (4 * j + y) (F3 12 (4 * j + y + 1))) (4 * j + y + 1) (F3 12 (4 * j + y)) (4 * j + k)) := by
                 rw [csw_t (by show rk (F3 12 (4 * j + (y + 1))) < rk (F3 12 (4 * j + y)); rw [show 4 * j + (y + 1) = 4 * j + y + 1 by omega]; exact hsw9)]
                 rw [show 4 * j + y + 1 = 4 * j + (y + 1) by omega, fU_off, fU_off]
               rw [show 4 * j + y + 1 = 4 * j + (y + 1) by omega]
               refine Gd.sub (by repeat (first | exact Lsb.nil | exact Lsb.rf _ | refine Lsb.keep ?_ | refine Lsb.drop ?_)) (ih2 _ (by omega) (y + 1) _ _ (by omega) (by omega) rfl hMm9 (fun i hi => by rw [nU_n hi, nU_n hi]; exact hF3 i hi) (fun x hx => ?_) ?_ ?_)
               · show fU (fU (F3 12) (4 * j + y) (F3 12 (4 * j + y + 1))) (4 * j + y + 1) (F3 12 (4 * j + y)) x = _
                 rw [fU_n (by omega), fU_n (by omega)]
                 exact hx3 x hx
               · have h9 := hP3.csw (j := y) ⟨h1y, by omega⟩
                 rw [hsw] at h9
                 exact h9
               · have h9 := hB3.s ⟨h1k, by omega⟩ (j := y) ⟨h1y, by omega⟩
                 rw [hsw] at h9
                 exact h9)
            | (have hsw : csw (fun k => F3 12 (4 * j + k)) y = (fun k => F3 12 (4 * j + k)) := csw_f (by show ¬ rk (F3 12 (4 * j + (y + 1))) < rk (F3 12 (4 * j + y)); rw [show 4 * j + (y + 1) = 4 * j + y + 1 by omega]; omega)
               rw [show 4 * j + y + 1 = 4 * j + (y + 1) by omega]
               refine Gd.sub (by repeat (first | exact Lsb.nil | exact Lsb.rf _ | refine Lsb.keep ?_ | refine Lsb.drop ?_)) (ih2 _ (by omega) (y + 1) w3 F3 (by omega) (by omega) rfl hM3 hF3 hx3 hP3 ?_)
               have h9 := hB3.s ⟨h1k, by omega⟩ (j := y) ⟨h1y, by omega⟩
               rw [hsw] at h9
               exact h9)
  · refine gd_aload_n C dX5_splits_12 rfl ?_
    refine gm_get C hM1 (by decide +kernel) 10 (by decide) (by decide +kernel) rfl dX5_splits_13 rfl ?_
    refine gd_iload_n C dX5_splits_16 rfl ?_
    refine gd_aload_n C dX5_splits_17 rfl ?_
    refine gm_get C hM1 (by decide +kernel) 10 (by decide) (by decide +kernel) rfl dX5_splits_18 rfl ?_
    refine gd_iload_n C dX5_splits_21 rfl ?_
    refine gd_iconst C dX5_splits_22 ?_
    refine gd_isub C dX5_splits_23 ?_
    refine gd_iald C dX5_splits_24 hM1.a10 (by decide) ?_ ?_
    · omega
    refine gm_iast C hM1 (k := 10) (n := 300) (by decide) (fun _ => rfl) dX5_splits_25 (by decide) ?_ (fun wm10 hMm10 => ?_)
    · omega
    refine gd_aload_n C dX5_splits_26 rfl ?_
    refine gm_get C hMm10 (by decide +kernel) 11 (by decide) (by decide +kernel) rfl dX5_splits_27 rfl ?_
    refine gd_iload_n C dX5_splits_30 rfl ?_
    refine gd_aload_n C dX5_splits_31 rfl ?_
    refine gm_get C hMm10 (by decide +kernel) 11 (by decide) (by decide +kernel) rfl dX5_splits_32 rfl ?_
    refine gd_iload_n C dX5_splits_35 rfl ?_
    refine gd_iconst C dX5_splits_36 ?_
    refine gd_isub C dX5_splits_37 ?_
    refine gd_zald C dX5_splits_38 hMm10.a11 (by decide) ?_ ?_
    · omega
    refine gm_zast C hMm10 (k := 11) (n := 300) (by decide) (fun _ => rfl) dX5_splits_39 (by decide) ?_ ?_ (fun wm11 hMm11 => ?_)
    · omega
    · have h1 := (hO1.1 (k - 1) (by omega) (by omega)).2.1
      rw [if_neg (by omega)] at h1
      have h2 := (hN2 (k - 1) (by omega) (by omega)).2.1
      have h3 := hD3 (k - 1)
      show F1 11 (k - 1) = 0 ∨ F1 11 (k - 1) = 1
      omega
    refine gd_aload_n C dX5_splits_40 rfl ?_
    refine gm_get C hMm11 (by decide +kernel) 13 (by decide) (by decide +kernel) rfl dX5_splits_41 rfl ?_
    refine gd_iload_n C dX5_splits_44 rfl ?_
    refine gd_aload_n C dX5_splits_45 rfl ?_
    refine gm_get C hMm11 (by decide +kernel) 13 (by decide) (by decide +kernel) rfl dX5_splits_46 rfl ?_
    refine gd_iload_n C dX5_splits_49 rfl ?_
    refine gd_iconst C dX5_splits_50 ?_
    refine gd_isub C dX5_splits_51 ?_
    refine gd_iald C dX5_splits_52 hMm11.a13 (by decide) ?_ ?_
    · omega
    refine gm_iast C hMm11 (k := 13) (n := 300) (by decide) (fun _ => rfl) dX5_splits_53 (by decide) ?_ (fun wm12 hMm12 => ?_)
    · omega
    refine gd_iconst C dX5_splits_54 ?_
    refine gd_istore_n C dX5_splits_55 (Nat.le_of_ble_eq_true rfl) ?_
    have hI0 := IS.z hO1 (k := k) ⟨by omega, h2k⟩
    suffices hloopb : ∀ (n9 : Nat) (y : Int) (w2 : WT) (F2 : Nat → Int → Int), 0 ≤ y → y ≤ 4 → (4 - y).toNat = n9 → MV w w2 ky o A F2 G → FF9 F F2 → F2 9 = F 9 → IS n k y F F2 → Gd p l e ({ frames := 2, cells := 0, slots := 0, locals := 41 }) s m args below meth c D z Q 0 0 w2 56 [some (.ref o), some (.int (iI j)), some (.int (iI k)), some (.int (iI y)), none, none] [] from
      hloopb _ 0 _ _ (by omega) (by omega) rfl hMm12 (((hF1.nU (by decide) _).nU (by decide) _).nU (by decide) _) h91 hI0
    intro n8
    induction n8 using Nat.strongRecOn with
    | _ n8 ih2 =>
    intro y w2 F2 h1y h2y hn8 hM2 hF2 h92 hI2
    refine gd_iload_n C dX5_splits_56 rfl ?_
    refine gd_iconst C dX5_splits_57 ?_
    refine gd_icmp_ge (tgt := 89) C dX5_splits_58 (by decide) ?_ ?_ (fun hc58 => ?_) (fun hc58 => ?_)
    · omega
    · omega
    · refine gd_iinc C dX5_splits_89 rfl ?_
      refine gd_goto (tgt := 5) C dX5_splits_92 (by decide) ?_
      have e4 : y = 4 := by omega
      subst e4
      exact Gd.sub (by repeat (first | exact Lsb.nil | exact Lsb.rf _ | refine Lsb.keep ?_ | refine Lsb.drop ?_)) (ih _ (by omega) (k + -1) w2 F2 (by omega) (by omega) rfl hM2 hF2 h92 hI2.x)
    · refine gd_aload_n C dX5_splits_61 rfl ?_
      refine gm_get C hM2 (by decide +kernel) 12 (by decide) (by decide +kernel) rfl dX5_splits_62 rfl ?_
      refine gd_iconst C dX5_splits_65 ?_
      refine gd_iload_n C dX5_splits_66 rfl ?_
      refine gd_imul C dX5_splits_67 ?_
      refine gd_iload_n C dX5_splits_68 rfl ?_
      refine gd_iadd C dX5_splits_69 ?_
      refine gd_aload_n C dX5_splits_70 rfl ?_
      refine gm_get C hM2 (by decide +kernel) 12 (by decide) (by decide +kernel) rfl dX5_splits_71 rfl ?_
      refine gd_iconst C dX5_splits_74 ?_
      refine gd_iload_n C dX5_splits_75 rfl ?_
      refine gd_iconst C dX5_splits_76 ?_
      refine gd_isub C dX5_splits_77 ?_
      refine gd_imul C dX5_splits_78 ?_
      refine gd_iload_n C dX5_splits_79 rfl ?_
      refine gd_iadd C dX5_splits_80 ?_
      refine gd_iald C dX5_splits_81 hM2.a12 (by decide) ?_ ?_
      · omega
      refine gm_iast C hM2 (k := 12) (n := 1200) (by decide) (fun _ => rfl) dX5_splits_82 (by decide) ?_ (fun wm13 hMm13 => ?_)
      · omega
      refine gd_iinc C dX5_splits_83 rfl ?_
      refine gd_goto (tgt := 56) C dX5_splits_86 (by decide) ?_
      exact ih2 _ (by omega) (y + 1) _ _ (by omega) (by omega) rfl hMm13 (hF2.nU (by decide) _) h92 (hI2.s ⟨by omega, h2k⟩ ⟨h1y, by omega⟩)

set_option maxRecDepth 100000 in
set_option maxHeartbeats 4000000 in
theorem kX5_addsName {l : Launch} {D : va_G} {ky : Nat → ClassId} {z : Nat} {w : WT} (hl : l.stackTraces = false) {o : Nat} {A : Nat → Nat} {F : Nat → Int → Int} {G : Nat → Int} (hM : MW w ky o A F G) {n : Int} {lo co ct : Int → Int} {nm fl : Int → Int → Int} (hN : RNM F G n lo co ct nm) (hD : DR n lo co ct nm fl) (hn3 : n ≤ 300) (hlo0 : lo 0 = 0) (hco0 : co 0 = 0) {q : Int} (hq : 0 ≤ q ∧ q ≤ 999) {x n' : Int} {lo' co' ct' : Int → Int} {nm' fl' : Int → Int → Int} (hn4 : n < 300) (hsrt : ∀ i k, 0 ≤ k → k + 1 < ct i → rk (nm i k) < rk (nm i (k + 1))) (hno : ∀ i, 0 ≤ i → i < n → ¬ hA ct nm q i) (hADD : ADD q x n lo co ct nm fl n' lo' co' ct' nm' fl') : Mt l D ky z yX5_addsName wsX5_addsName { frames := 3, cells := 0, slots := 0, locals := 66 } [.ref o, .int (iI q)] w (fun r w' => r = none ∧ ∃ F' G', MV w w' ky o A F' G' ∧ FF9 F F' ∧ F' 9 = F 9 ∧ (G' 15 = G 15 ∧ G' 16 = G 16 ∧ G' 17 = G 17) ∧ RNM F' G' (n') (lo') (co') (ct') (nm')) (fun _ => False) := by
  refine Mt.of (cc := cX5_addsName) (ret := none) (maxL := 3) (by decide) rfl (by intro v hv; simp at hv; rcases hv with rfl | rfl <;> rfl) (Nat.le_of_ble_eq_true rfl) ?_ hl
  intro p e s m args below meth c C htab hret hname Q hQ
  have hMv := hM.V
  obtain ⟨hN1, hN2⟩ := id hN
  obtain ⟨hD1, hD2, hD3, hD4, hD5, hD6⟩ := id hD
  refine gd_aload_n C dX5_addsName_0 rfl ?_
  refine gd_iload_n C dX5_addsName_1 rfl ?_
  refine gd_callS (n := 1) C (kX5_hash hl (q := q) ?_) gX5_addsName_X5_hash rfl ⟨by decide, by decide, by decide +kernel⟩ rfl rfl (Nat.le_of_ble_eq_true rfl) rfl dX5_addsName_2 ⟨⟨by decide, by decide⟩, by decide, by decide⟩ (fun _ h => h.elim) ?_
  · omega
  rintro _ _ ⟨rfl, rfl⟩
  refine gd_callV (n := 1) (ci := 5) (Cn := RX5) (T := TX5) (N := 18) C (kX5_lastLeaf hl hM hN hD hn3 hlo0 hco0 (h := hs q) ?_) ?_ rfl gX5_addsName_X5_lastLeaf rfl ⟨rfl, by decide, by decide, by decide +kernel⟩ rfl rfl (Nat.le_of_ble_eq_true rfl) rfl dX5_addsName_5 ⟨⟨by decide, by decide⟩, by decide, by decide⟩ (fun _ h => h.elim) ?_
  · have := hs_bd q; omega
  · exact ⟨_, by exact hMv.ob⟩
  rintro _ _ ⟨rfl, rfl⟩
  have hLb := lL_bd lo (hs q) hD1.1
  have hb1 := hs_bd q
  obtain ⟨hA, hB, hC, hP⟩ := hN2 (lL lo n (hs q)) hLb.1 hLb.2
  have hct := hD4 (lL lo n (hs q))
  refine gd_istore_n C dX5_addsName_8 (Nat.le_of_ble_eq_true rfl) ?_
  refine gd_aload_n C dX5_addsName_9 rfl ?_
  refine gm_get C hMv (by decide +kernel) 13 (by decide) (by decide +kernel) rfl dX5_addsName_10 rfl ?_
  refine gd_iload_n C dX5_addsName_13 rfl ?_
  refine gd_iald C dX5_addsName_14 hMv.a13 (by decide) ?_ ?_
  · omega
  refine gd_iconst C dX5_addsName_15 ?_
  refine gd_icmp_ne (tgt := 33) C dX5_addsName_16 (by decide) ?_ ?_ (fun hc16 => ?_) (fun hc16 => ?_)
  · omega
  · omega
  · refine gd_aload_n C dX5_addsName_33 rfl ?_
    refine gm_get C hMv (by decide +kernel) 12 (by decide) (by decide +kernel) rfl dX5_addsName_34 rfl ?_
    refine gd_iconst C dX5_addsName_37 ?_
    refine gd_iload_n C dX5_addsName_38 rfl ?_
    refine gd_imul C dX5_addsName_39 ?_
    refine gd_aload_n C dX5_addsName_40 rfl ?_
    refine gm_get C hMv (by decide +kernel) 13 (by decide) (by decide +kernel) rfl dX5_addsName_41 rfl ?_
    refine gd_iload_n C dX5_addsName_44 rfl ?_
    refine gd_iald C dX5_addsName_45 hMv.a13 (by decide) ?_ ?_
    · omega
    refine gd_iadd C dX5_addsName_46 ?_
    refine gd_iload_n C dX5_addsName_47 rfl ?_
    refine gm_iast C hMv (k := 12) (n := 1200) (by decide) (fun _ => rfl) dX5_addsName_48 (by decide) ?_ (fun wm1 hMm1 => ?_)
    · omega
    refine gd_aload_n C dX5_addsName_49 rfl ?_
    refine gm_get C hMm1 (by decide +kernel) 13 (by decide) (by decide +kernel) rfl dX5_addsName_50 rfl ?_
    refine gd_iload_n C dX5_addsName_53 rfl ?_
    refine gd_dup2 C dX5_addsName_54 rfl rfl ?_
    refine gd_iald C dX5_addsName_55 hMm1.a13 (by decide) ?_ ?_
    · omega
    refine gd_iconst C dX5_addsName_56 ?_
    refine gd_iadd C dX5_addsName_57 ?_
    refine gm_iast C hMm1 (k := 13) (n := 300) (by decide) (fun _ => rfl) dX5_addsName_58 (by decide) ?_ (fun wm2 hMm2 => ?_)
    · omega
    refine gd_vret C hQ hret dX5_addsName_59 ?_ ?_
    · rcases hADD with ⟨b1, rfl, rfl, rfl, b5⟩ | ⟨b1, -⟩
      · refine ⟨rfl, _, _, hMm2, ((FF9.rf F).nU (by decide) _).nU (by decide) _, rfl, ⟨rfl, rfl, rfl⟩, ?_⟩
        exact hN.ins hD4 hLb (by omega) (fun k k1 k2 k3 => hno _ hLb.1 hLb.2 ⟨k, k1, k2, k3⟩) b5
      · exfalso; omega
    · decide
  · refine gd_aload_n C dX5_addsName_19 rfl ?_
    refine gd_iload_n C dX5_addsName_20 rfl ?_
    refine gd_callV (n := 1) (ci := 5) (Cn := RX5) (T := TX5) (N := 18) C (kX5_splits hl hM hN hD hn3 hlo0 hco0 (j := (lL lo n (hs q))) hLb hn4 (by omega) (fun k k1 k2 => hsrt _ k k1 (by omega))) ?_ rfl gX5_addsName_X5_splits rfl ⟨rfl, by decide, by decide, by decide +kernel⟩ rfl rfl (Nat.le_of_ble_eq_true rfl) rfl dX5_addsName_21 ⟨⟨by decide, by decide⟩, by decide, by decide⟩ (fun _ h => h.elim) ?_
    · exact ⟨_, by exact hMv.ob⟩
    rintro _ w2 ⟨rfl, F2, G2, hM2, hF2, h92, hG2, hN2b⟩
    have hc4 : ct (lL lo n (hs q)) = 4 := by omega
    have hLn := hs_bd (nm (lL lo n (hs q)) 2)
    have hC2 := eqI_bd (hs (nm (lL lo n (hs q)) 1)) (hs (nm (lL lo n (hs q)) 2))
    have hD2b := DR_split (j := (lL lo n (hs q))) (L := hs (nm (lL lo n (hs q)) 2)) (C := eqI (hs (nm (lL lo n (hs q)) 1)) (hs (nm (lL lo n (hs q)) 2))) hD (by omega) (by omega) (by omega)
    have hlo2 : shI lo (lL lo n (hs q)) (hs (nm (lL lo n (hs q)) 2)) 0 = 0 := by rw [shI_le hLb.1]; exact hlo0
    have hco2 : shI co (lL lo n (hs q)) (eqI (hs (nm (lL lo n (hs q)) 1)) (hs (nm (lL lo n (hs q)) 2))) 0 = 0 := by rw [shI_le hLb.1]; exact hco0
    refine gd_aload_n C dX5_addsName_24 rfl ?_
    refine gd_iload_n C dX5_addsName_25 rfl ?_
    refine gd_callS (n := 1) C (kX5_hash hl (q := q) ?_) gX5_addsName_X5_hash rfl ⟨by decide, by decide, by decide +kernel⟩ rfl rfl (Nat.le_of_ble_eq_true rfl) rfl dX5_addsName_26 ⟨⟨by decide, by decide⟩, by decide, by decide⟩ (fun _ h => h.elim) ?_
    · omega
    rintro _ _ ⟨rfl, rfl⟩
    refine gd_callV (n := 1) (ci := 5) (Cn := RX5) (T := TX5) (N := 18) C (kX5_lastLeaf hl hM2.1 hN2b hD2b (by omega) hlo2 hco2 (h := hs q) ?_) ?_ rfl gX5_addsName_X5_lastLeaf rfl ⟨rfl, by decide, by decide, by decide +kernel⟩ rfl rfl (Nat.le_of_ble_eq_true rfl) rfl dX5_addsName_29 ⟨⟨by decide, by decide⟩, by decide, by decide⟩ (fun _ h => h.elim) ?_
    · have := hs_bd q; omega
    · exact ⟨_, by exact hM2.ob⟩
    rintro _ _ ⟨rfl, rfl⟩
    have hjj : lL (shI lo (lL lo n (hs q)) (hs (nm (lL lo n (hs q)) 2))) (n + 1) (hs q) = (lL lo n (hs q)) ∨ lL (shI lo (lL lo n (hs q)) (hs (nm (lL lo n (hs q)) 2))) (n + 1) (hs q) = (lL lo n (hs q)) + 1 := by
      rw [lL_shI hD1.1 (by rw [hlo0]; exact hb1.1)]
      split
      · exact Or.inr rfl
      · exact Or.inl rfl
    generalize hje : lL (shI lo (lL lo n (hs q)) (hs (nm (lL lo n (hs q)) 2))) (n + 1) (hs q) = jj at hjj
    have hjb : 0 ≤ jj ∧ jj < n + 1 := by omega
    obtain ⟨hsp1, hsp2⟩ := spl_hA (n := n) (nm := nm) (q := q) hc4 hjj (hno _ hLb.1 hLb.2)
    obtain ⟨a1, a2, a3, a4⟩ := hN2b.2 jj hjb.1 hjb.2
    rw [hsp1] at a3
    refine gd_istore_n C dX5_addsName_32 (Nat.le_of_ble_eq_true rfl) ?_
    refine gd_aload_n C dX5_addsName_33 rfl ?_
    refine gm_get C hM2 (by decide +kernel) 12 (by decide) (by decide +kernel) rfl dX5_addsName_34 rfl ?_
    refine gd_iconst C dX5_addsName_37 ?_
    refine gd_iload_n C dX5_addsName_38 rfl ?_
    refine gd_imul C dX5_addsName_39 ?_
    refine gd_aload_n C dX5_addsName_40 rfl ?_
    refine gm_get C hM2 (by decide +kernel) 13 (by decide) (by decide +kernel) rfl dX5_addsName_41 rfl ?_
    refine gd_iload_n C dX5_addsName_44 rfl ?_
    refine gd_iald C dX5_addsName_45 hM2.a13 (by decide) ?_ ?_
    · omega
    refine gd_iadd C dX5_addsName_46 ?_
    refine gd_iload_n C dX5_addsName_47 rfl ?_
    refine gm_iast C hM2 (k := 12) (n := 1200) (by decide) (fun _ => rfl) dX5_addsName_48 (by decide) ?_ (fun wm1 hMm1 => ?_)
    · omega
    refine gd_aload_n C dX5_addsName_49 rfl ?_
    refine gm_get C hMm1 (by decide +kernel) 13 (by decide) (by decide +kernel) rfl dX5_addsName_50 rfl ?_
    refine gd_iload_n C dX5_addsName_53 rfl ?_
    refine gd_dup2 C dX5_addsName_54 rfl rfl ?_
    refine gd_iald C dX5_addsName_55 hMm1.a13 (by decide) ?_ ?_
    · omega
    refine gd_iconst C dX5_addsName_56 ?_
    refine gd_iadd C dX5_addsName_57 ?_
    refine gm_iast C hMm1 (k := 13) (n := 300) (by decide) (fun _ => rfl) dX5_addsName_58 (by decide) ?_ (fun wm2 hMm2 => ?_)
    · omega
    refine gd_vret C hQ hret dX5_addsName_59 ?_ ?_
    · rcases hADD with ⟨b1, -⟩ | ⟨b1, rfl, j, L, rfl, rfl, rfl, rfl, b5⟩
      · exfalso; omega
      · rw [hje] at b5
        refine ⟨rfl, _, _, hMm2, (hF2.nU (by decide) _).nU (by decide) _, h92, hG2, ?_⟩
        exact hN2b.ins hD2b.2.2.2.1 hjb (by rw [hsp1]; omega) hsp2 b5
    · decide
