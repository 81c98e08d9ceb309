theorem kJ_isFree {l : Launch} {D : va_G} {ky : Nat → ClassId} {z : Nat} {w : WT} (hl : l.stackTraces = false) {b ao : Nat} {q : Int} {f : Nat → Int64} {P0 : Option Value → WT → Prop} {XP : String → Prop} (hM : Mt l D ky z yX4_isFree wsX4_isFree { frames := 6, cells := 1, slots := 6, locals := 90 } [.ref b, .int (iI q)] w P0 XP) (hb : ∃ fs, w b = some (oB 4 fs)) (hP : ∀ r w1, P0 r w1 → (∃ x1 : Int, r = some (.int (iI x1)) ∧ (x1 = 0 ∨ x1 = 1)) ∧ w1 ao = some (lA (ky 3) 1 f)) (hX : ∀ E, XP E → E = "java/lang/IndexOutOfBoundsException") : MtW l D ky z yL_isFree wsL_isFree { frames := 7, cells := 1, slots := 6, locals := 111 } [.ref b, .int (iI q), .ref ao] w (fun r w' => (r = some (.int (iI 0)) ∧ ∃ x1 w1 f', P0 (some (.int (iI x1))) w1 ∧ (x1 = 0 ∨ x1 = 1) ∧ f' 0 = (if x1 = 0 then (0 : Int64) else 1) ∧ w' = wU w1 ao (lA (ky 3) 1 f')) ∨ (w = w' ∧ (r = some (.int (iI 1)) ∧ XP "java/lang/IndexOutOfBoundsException"))) := by
  refine MtW.of (cc := cL_isFree) (ret := (some .int)) (maxL := 4) (hh := [(0, 16, 19, 23)]) (by decide) rfl (by intro v hv; simp at hv; rcases hv with rfl | rfl | rfl <;> rfl) (Nat.le_of_ble_eq_true rfl) ?_ hl
  intro p e s m args below meth c C hNC ht hret Q hQ
  refine gd_aload_n C dL_isFree_0 rfl ?_
  refine gd_iconst C dL_isFree_1 ?_
  refine gd_aload_n C dL_isFree_2 rfl ?_
  refine gd_iload_n C dL_isFree_3 rfl ?_
  refine gd_callV (n := 1) (ci := 4) (Cn := RX4) (T := TX4) (N := 5) C (hM) ?_ rfl gL_isFree_X4_isFree rfl ⟨rfl, by decide, by decide, by decide +kernel⟩ rfl rfl (Nat.le_of_ble_eq_true rfl) rfl dL_isFree_4 ⟨⟨by decide, by decide⟩, by decide, by decide⟩ ?_ ?_
  · exact hb
  · intro E hE
    obtain rfl := hX E hE
    refine gx_catch C (name := "java/lang/IndexOutOfBoundsException") [] ⟨0, 16, 19, 23⟩ [] ht (fun _ h => absurd h List.not_mem_nil) (by decide) (by decide) (by decide +kernel) (by decide) (fun q9 => ?_)
    refine gd_astore_n C dL_isFree_19 (Nat.le_of_ble_eq_true rfl) ?_
    refine gd_iconst C dL_isFree_20 ?_
    refine gd_iret C hQ hret dL_isFree_21 ?_ ?_
    · exact Or.inr ⟨rfl, ⟨rfl, hE⟩⟩
    · decide
  intro r1 w1 hP1
  obtain ⟨⟨x1, rfl, hx1⟩, ho1⟩ := hP r1 w1 hP1
  refine gd_if_eq (tgt := 14) C dL_isFree_7 (by decide) ?_ (fun hc7 => ?_) (fun hc7 => ?_)
  · omega
  · refine gd_lconst C dL_isFree_14 ?_
    refine gd_last C dL_isFree_15 ho1 (fun f' hf' => ?_)
    refine gd_goto (tgt := 22) C dL_isFree_16 (by decide) ?_
    refine gd_iconst C dL_isFree_22 ?_
    refine gd_iret C hQ hret dL_isFree_23 ?_ ?_
    · first
        | exact Or.inl ⟨rfl, x1, w1, f', hP1, hx1, by rw [hf', if_pos (by omega)]; rfl, rfl⟩
        | exact Or.inl ⟨rfl, x1, w1, f', hP1, hx1, by rw [hf', if_neg (by omega)]; rfl, rfl⟩
    · decide
  · refine gd_lconst C dL_isFree_10 ?_
    refine gd_goto (tgt := 15) C dL_isFree_11 (by decide) ?_
    refine gd_last C dL_isFree_15 ho1 (fun f' hf' => ?_)
    refine gd_goto (tgt := 22) C dL_isFree_16 (by decide) ?_
    refine gd_iconst C dL_isFree_22 ?_
    refine gd_iret C hQ hret dL_isFree_23 ?_ ?_
    · first
        | exact Or.inl ⟨rfl, x1, w1, f', hP1, hx1, by rw [hf', if_pos (by omega)]; rfl, rfl⟩
        | exact Or.inl ⟨rfl, x1, w1, f', hP1, hx1, by rw [hf', if_neg (by omega)]; rfl, rfl⟩
    · decide
theorem bE_one {f : Int → Int} {x y : Int} (hx : 0 ≤ x) (hxy : x < y) (h1 : bE f x = 1) : sI (bE f) 0 x + 1 ≤ sI (bE f) 0 y := by
  have e1 := sI_cut (g := bE f) (a := 0) (b := x + 1) (c := y) (by omega) (by omega)
  have e2 := sI_s (g := bE f) (a := 0) (b := x) hx
  have e3 := (sI_bd (g := bE f) (a := x + 1) (b := y) (fun j => bE_bd _ _) (by omega)).1
  omega
theorem ext_one {f : Int → Int} {x y x' y' : Int} (a1 : 0 ≤ x) (a3 : bE f x = 1) (a5 : x < y) (a6 : y ≤ 64) (a7 : ∀ j, x < j → j < y → jN f j = 1) (a8 : y = 64 ∨ jN f y = 0) (b1 : 0 ≤ x') (b3 : bE f x' = 1) (b4 : sI (bE f) 0 x' = sI (bE f) 0 x) (b5 : x' < y') (b6 : y' ≤ 64) (b7 : ∀ j, x' < j → j < y' → jN f j = 1) (b8 : y' = 64 ∨ jN f y' = 0) : x = x' ∧ y = y' := by
  have e : x = x' := by
    rcases Int.lt_trichotomy x x' with h | h | h
    · have := bE_one a1 h a3; omega
    · exact h
    · have := bE_one b1 h b3; omega
  subst e
  refine ⟨rfl, ?_⟩
  rcases Int.lt_trichotomy y y' with h | h | h
  · have h1 := b7 y a5 h
    omega
  · exact h
  · have h1 := a7 y' b5 h
    omega
set_option maxRecDepth 100000 in
set_option maxHeartbeats 4000000 in
theorem cs_isFree {p : Program} {l : Launch} {e : Env} {s : State} {m : MethodId} {args : Array Value} {below : List Frame} {meth : Method} {c : Code} {D : va_G} {ky : Nat → ClassId} {z : Nat} {Q : State → Prop} {cells slots : Nat} {w : WT} (hl : l.stackTraces = false) (C : Cx p l s m args meth c D ky z cL_law 8 wsL_law RL) (hNC : NC3 s) {b0 L : Nat} {xs : Nat → Int32} (hX : va_X b0 L xs s s.heap) (hbl : b0 < s.heap.size) (hzb : ¬ z ≤ b0) (hL8 : L ≤ 2048) {b o ao ad : Nat} {k i : Int} (hLI : LI w ky b o ao ad k) (hk : 0 ≤ k ∧ k ≤ 511) (hi : 0 ≤ i ∧ i + 3 < L) (hcs : cells + 30 ≤ 601024 ∧ slots + 200 ≤ 7293034)
    (kk : ∀ w', LI w' ky b o ao ad (k + 1) → Gd p l e room_1 s m args below meth c D z Q (cells + 10) (slots + 60) w' 1373 [some (.ref b0), some (.ref b), some (.ref o), some (.ref ao), some (.ref ad), some (.int (iI i)), none, none] []) : Gd p l e room_1 s m args below meth c D z Q cells slots w 915 [some (.ref b0), some (.ref b), some (.ref o), some (.ref ao), some (.ref ad), some (.int (iI i)), none, none] [] := by
  obtain ⟨g, t, ar, d, ac, ab, la, na, fa, A, T, v, B, sc, dn, n, lo, co, ct, nm, fl, F, G, fo, fd, hLW, hINV⟩ := hLI
  obtain ⟨hW, hD, hM, hA0, hao, had⟩ := id hLW
  obtain ⟨hFS, hRL, hR, hNI, hPT, hRN, hF9⟩ := id hINV
  obtain ⟨hI, hOW, hL0, hsc, hds, h3c, hc0⟩ := id hFS
  obtain ⟨hi1, hi2, hi3, hi4⟩ := id hI
  have hDR := hNI.1
  have hn9 := PT_nn (ct := ct) hDR.1.1
  have hn3 : n < 300 := by omega
  have hlo0 := hNI.2.1
  have hco0 := hNI.2.2.1
  clear hn9
  obtain ⟨q1, hq1⟩ : ∃ q, scS xs (i + 1) = q := ⟨_, rfl⟩
  have hq1R : InR q1 := hq1 ▸ scS_R xs (i + 1)
  obtain ⟨q2, hq2⟩ : ∃ q, scS xs (i + 2) = q := ⟨_, rfl⟩
  have hq2R : InR q2 := hq2 ▸ scS_R xs (i + 2)
  obtain ⟨q3, hq3⟩ : ∃ q, scS xs (i + 3) = q := ⟨_, rfl⟩
  have hq3R : InR q3 := hq3 ▸ scS_R xs (i + 3)
  refine gd_aload_n C dL_law_915 rfl ?_
  refine gd_aload_n C dL_law_916 rfl ?_
  refine gd_iload C dL_law_917 rfl ?_
  refine gd_iconst C dL_law_919 ?_
  refine gd_iadd C dL_law_920 ?_
  refine gd_sld C hX hbl hzb (by omega) hL8 dL_law_921 hq1 ?_
  refine gd_aload_n C dL_law_922 rfl ?_
  refine gd_callSW (n := 3) C hNC (kJ_isFree hl (kX4_isFree hl hW hI hq1R) ⟨_, hW.1⟩ (ao := ao) (f := fo) ?_ (fun E h => h.1)) gL_law_L_isFree rfl ⟨by decide, by decide, by decide +kernel⟩ rfl rfl (Nat.le_of_ble_eq_true rfl) rfl dL_law_923 ⟨⟨by decide, by decide⟩, (by show _ ≤ 601024; dsimp only; omega), (by show _ ≤ 7293034; dsimp only; omega)⟩ ?_
  · rintro r w1 ⟨rfl, rfl, -⟩
    exact ⟨⟨_, rfl, by have := hi1 q1; omega⟩, hao⟩
  intro r w1 hw1
  rcases hw1 with ⟨rfl, hok⟩ | ⟨rfl, rfl, hx⟩
  · obtain ⟨x1, w2, f', hP0, hx01, hf', rfl⟩ := hok
    obtain ⟨rfl, hv, hc1, hc2⟩ := hP0
    have hLWa := hLW.out f'
    have hT1 := hi1 q1
    have hxe : x1 = 1 - T q1 := (iI_eq (by omega) (by omega)).mp (Value.int.inj (Option.some.inj hv))
    subst hxe
    refine gd_istore C dL_law_926 (Nat.le_of_ble_eq_true rfl) ?_
    refine gd_aload_n C dL_law_928 rfl ?_
    refine gd_aload_n C dL_law_929 rfl ?_
    refine gd_iload C dL_law_930 rfl ?_
    refine gd_iconst C dL_law_932 ?_
    refine gd_iadd C dL_law_933 ?_
    refine gd_sld C hX hbl hzb (by omega) hL8 dL_law_934 hq1 ?_
    refine gd_callV (n := 1) (ci := 5) (Cn := RX5) (T := TX5) (N := 18) C (kX5_isFree hl hLWa.2.2.1 hR hI hq1R) ?_ rfl gL_law_X5_isFree rfl ⟨rfl, by decide, by decide, by decide +kernel⟩ rfl rfl (Nat.le_of_ble_eq_true rfl) rfl dL_law_935 ⟨⟨by decide, by decide⟩, (by show _ ≤ 601024; dsimp only; omega), (by show _ ≤ 7293034; dsimp only; omega)⟩ (fun _ h => h.elim) ?_
    · exact ⟨_, by exact hLWa.2.2.1.1⟩
    rintro r3 w3 hm
    obtain ⟨-, rfl, F9, G9, hV, hR9, hN9, h79, h149, h179⟩ := hm.resolve_right (fun h => h.1 ⟨hc1, by omega⟩)
    have hLWb := hLWa.mod hV
    have hINV9 := hINV.same hR9 hN9 h79 h149
    clear hm
    have hval := hf'
    refine gd_istore C dL_law_938 (Nat.le_of_ble_eq_true rfl) ?_
    refine gd_aload_n C dL_law_940 rfl ?_
    refine gd_callV (n := 0) (ci := 5) (Cn := RX5) (T := TX5) (N := 18) C (kX5_thrown hl hLWb.2.2.1) ?_ rfl gL_law_X5_thrown rfl ⟨rfl, by decide, by decide, by decide +kernel⟩ rfl rfl (Nat.le_of_ble_eq_true rfl) rfl dL_law_941 ⟨⟨by decide, by decide⟩, (by show _ ≤ 601024; dsimp only; omega), (by show _ ≤ 7293034; dsimp only; omega)⟩ (fun _ h => h.elim) ?_
    · exact ⟨_, by exact hLWb.2.2.1.1⟩
    rintro _ _ ⟨rfl, rfl⟩
    refine gd_iload C dL_law_944 rfl ?_
    refine gd_icmp_eq (tgt := 951) C dL_law_946 (by decide) ?_ ?_ (fun hc946 => ?_) (fun hc946 => ?_)
    · omega
    · omega
    · refine gd_iload C dL_law_951 rfl ?_
      refine gd_if_ne (tgt := 975) C dL_law_953 (by decide) ?_ (fun hc953 => ?_) (fun hc953 => ?_)
      · omega
      · exfalso; omega
      · refine gd_aload_n C dL_law_956 rfl ?_
        refine gd_iconst C dL_law_957 ?_
        refine gd_lald C dL_law_958 hLWb.2.2.2.2.1 hval ?_
        refine gd_iload C dL_law_959 rfl ?_
        refine gd_if_eq (tgt := 968) C dL_law_961 (by decide) ?_ (fun hc961 => ?_) (fun hc961 => ?_)
        · omega
        · refine gd_lconst C dL_law_968 ?_
          refine gd_lcmpZ C dL_law_969 (by first | rw [if_pos (by omega)]; rfl | rw [if_neg (by omega)]; rfl) ?_
          refine gd_if_eq (tgt := 975) C dL_law_970 (by decide) ?_ (fun hc970 => ?_) (fun hc970 => ?_)
          · omega
          · refine gd_goto (tgt := 1373) C dL_law_975 (by decide) ?_
            refine Gd.widen (k := cells + 10) (n := slots + 60) (by dsimp only; omega) (by dsimp only; omega) (Gd.sub (by repeat (first | exact Lsb.nil | exact Lsb.rf _ | refine Lsb.keep ?_ | refine Lsb.drop ?_)) (kk _ ⟨g, t, ar, d, ac, ab, la, na, fa, A, _, _, _, _, _, _, _, _, _, _, _, F9, G9, _, _, hLWb, hINV9⟩))
          · exfalso; omega
        · refine gd_lconst C dL_law_964 ?_
          refine gd_goto (tgt := 969) C dL_law_965 (by decide) ?_
          refine gd_lcmpZ C dL_law_969 (by first | rw [if_pos (by omega)]; rfl | rw [if_neg (by omega)]; rfl) ?_
          refine gd_if_eq (tgt := 975) C dL_law_970 (by decide) ?_ (fun hc970 => ?_) (fun hc970 => ?_)
          · omega
          · refine gd_goto (tgt := 1373) C dL_law_975 (by decide) ?_
            refine Gd.widen (k := cells + 10) (n := slots + 60) (by dsimp only; omega) (by dsimp only; omega) (Gd.sub (by repeat (first | exact Lsb.nil | exact Lsb.rf _ | refine Lsb.keep ?_ | refine Lsb.drop ?_)) (kk _ ⟨g, t, ar, d, ac, ab, la, na, fa, A, _, _, _, _, _, _, _, _, _, _, _, F9, G9, _, _, hLWb, hINV9⟩))
          · exfalso; omega
    · exfalso; omega
  · have hx1 : ¬ (0 ≤ q1 ∧ q1 < 128) := hx.2
    clear hx
    have hLWa := hLW
    refine gd_istore C dL_law_926 (Nat.le_of_ble_eq_true rfl) ?_
    refine gd_aload_n C dL_law_928 rfl ?_
    refine gd_aload_n C dL_law_929 rfl ?_
    refine gd_iload C dL_law_930 rfl ?_
    refine gd_iconst C dL_law_932 ?_
    refine gd_iadd C dL_law_933 ?_
    refine gd_sld C hX hbl hzb (by omega) hL8 dL_law_934 hq1 ?_
    refine gd_callV (n := 1) (ci := 5) (Cn := RX5) (T := TX5) (N := 18) C (kX5_isFree hl hLWa.2.2.1 hR hI hq1R) ?_ rfl gL_law_X5_isFree rfl ⟨rfl, by decide, by decide, by decide +kernel⟩ rfl rfl (Nat.le_of_ble_eq_true rfl) rfl dL_law_935 ⟨⟨by decide, by decide⟩, (by show _ ≤ 601024; dsimp only; omega), (by show _ ≤ 7293034; dsimp only; omega)⟩ (fun _ h => h.elim) ?_
    · exact ⟨_, by exact hLWa.2.2.1.1⟩
    rintro r3 w3 hm
    obtain ⟨-, rfl, F9, G9, hV, hR9, hN9, h79, h149, h179⟩ := hm.resolve_left (fun h => hx1 ⟨h.1.1, by have := h.1.2; omega⟩)
    have hLWb := hLWa.mod hV
    have hINV9 := hINV.same hR9 hN9 h79 h149
    clear hm
    refine gd_istore C dL_law_938 (Nat.le_of_ble_eq_true rfl) ?_
    refine gd_aload_n C dL_law_940 rfl ?_
    refine gd_callV (n := 0) (ci := 5) (Cn := RX5) (T := TX5) (N := 18) C (kX5_thrown hl hLWb.2.2.1) ?_ rfl gL_law_X5_thrown rfl ⟨rfl, by decide, by decide, by decide +kernel⟩ rfl rfl (Nat.le_of_ble_eq_true rfl) rfl dL_law_941 ⟨⟨by decide, by decide⟩, (by show _ ≤ 601024; dsimp only; omega), (by show _ ≤ 7293034; dsimp only; omega)⟩ (fun _ h => h.elim) ?_
    · exact ⟨_, by exact hLWb.2.2.1.1⟩
    rintro _ _ ⟨rfl, rfl⟩
    refine gd_iload C dL_law_944 rfl ?_
    refine gd_icmp_eq (tgt := 951) C dL_law_946 (by decide) ?_ ?_ (fun hc946 => ?_) (fun hc946 => ?_)
    · omega
    · omega
    · refine gd_iload C dL_law_951 rfl ?_
      refine gd_if_ne (tgt := 975) C dL_law_953 (by decide) ?_ (fun hc953 => ?_) (fun hc953 => ?_)
      · omega
      · refine gd_goto (tgt := 1373) C dL_law_975 (by decide) ?_
        refine Gd.widen (k := cells + 10) (n := slots + 60) (by dsimp only; omega) (by dsimp only; omega) (Gd.sub (by repeat (first | exact Lsb.nil | exact Lsb.rf _ | refine Lsb.keep ?_ | refine Lsb.drop ?_)) (kk _ ⟨g, t, ar, d, ac, ab, la, na, fa, A, _, _, _, _, _, _, _, _, _, _, _, F9, G9, _, _, hLWb, hINV9⟩))
      · exfalso; omega
    · exfalso; omega

set_option maxRecDepth 100000 in
set_option maxHeartbeats 4000000 in
theorem cs_extent {p : Program} {l : Launch} {e : Env} {s : State} {m : MethodId} {args : Array Value} {below : List Frame} {meth : Method} {c : Code} {D : va_G} {ky : Nat → ClassId} {z : Nat} {Q : State → Prop} {cells slots : Nat} {w : WT} (hl : l.stackTraces = false) (C : Cx p l s m args meth c D ky z cL_law 8 wsL_law RL) (hNC : NC3 s) {b0 L : Nat} {xs : Nat → Int32} (hX : va_X b0 L xs s s.heap) (hbl : b0 < s.heap.size) (hzb : ¬ z ≤ b0) (hL8 : L ≤ 2048) {b o ao ad : Nat} {k i : Int} (hLI : LI w ky b o ao ad k) (hk : 0 ≤ k ∧ k ≤ 511) (hi : 0 ≤ i ∧ i + 3 < L) (hcs : cells + 30 ≤ 601024 ∧ slots + 200 ≤ 7293034)
    (kk : ∀ w', LI w' ky b o ao ad (k + 1) → Gd p l e room_1 s m args below meth c D z Q (cells + 10) (slots + 60) w' 1373 [some (.ref b0), some (.ref b), some (.ref o), some (.ref ao), some (.ref ad), some (.int (iI i)), none, none] []) : Gd p l e room_1 s m args below meth c D z Q cells slots w 1102 [some (.ref b0), some (.ref b), some (.ref o), some (.ref ao), some (.ref ad), some (.int (iI i)), none, none] [] := by
  obtain ⟨g, t, ar, d, ac, ab, la, na, fa, A, T, v, B, sc, dn, n, lo, co, ct, nm, fl, F, G, fo, fd, hLW, hINV⟩ := hLI
  obtain ⟨hW, hD, hM, hA0, hao, had⟩ := id hLW
  obtain ⟨hFS, hRL, hR, hNI, hPT, hRN, hF9⟩ := id hINV
  obtain ⟨hI, hOW, hL0, hsc, hds, h3c, hc0⟩ := id hFS
  obtain ⟨hi1, hi2, hi3, hi4⟩ := id hI
  have hDR := hNI.1
  have hn9 := PT_nn (ct := ct) hDR.1.1
  have hn3 : n < 300 := by omega
  have hlo0 := hNI.2.1
  have hco0 := hNI.2.2.1
  clear hn9
  obtain ⟨q1, hq1⟩ : ∃ q, scS xs (i + 1) = q := ⟨_, rfl⟩
  have hq1R : InR q1 := hq1 ▸ scS_R xs (i + 1)
  obtain ⟨q2, hq2⟩ : ∃ q, scS xs (i + 2) = q := ⟨_, rfl⟩
  have hq2R : InR q2 := hq2 ▸ scS_R xs (i + 2)
  obtain ⟨q3, hq3⟩ : ∃ q, scS xs (i + 3) = q := ⟨_, rfl⟩
  have hq3R : InR q3 := hq3 ▸ scS_R xs (i + 3)
  refine gd_aload_n C dL_law_1102 rfl ?_
  refine gd_aload_n C dL_law_1103 rfl ?_
  refine gd_iload C dL_law_1104 rfl ?_
  refine gd_iconst C dL_law_1106 ?_
  refine gd_iadd C dL_law_1107 ?_
  refine gd_sld C hX hbl hzb (by omega) hL8 dL_law_1108 hq1 ?_
  refine gd_aload_n C dL_law_1109 rfl ?_
  refine gd_iload C dL_law_1110 rfl ?_
  refine gd_iconst C dL_law_1112 ?_
  refine gd_iadd C dL_law_1113 ?_
  refine gd_sld C hX hbl hzb (by omega) hL8 dL_law_1114 hq2 ?_
  refine gd_aload_n C dL_law_1115 rfl ?_
  refine gd_callSW (n := 4) C hNC (kL_extent hl (kX4_extent hl hW hI ⟨hq1R, hq2R⟩) ⟨_, hW.1⟩ (ao := ao) (f := fo) ?_ (fun E h => h.1)) gL_law_L_extent rfl ⟨by decide, by decide, by decide +kernel⟩ rfl rfl (Nat.le_of_ble_eq_true rfl) rfl dL_law_1116 ⟨⟨by decide, by decide⟩, (by show _ ≤ 601024; dsimp only; omega), (by show _ ≤ 7293034; dsimp only; omega)⟩ ?_
  · rintro r w1 ⟨x, y, rfl, -, -, -, -, -, -, -, -, -, rfl⟩
    exact ⟨⟨_, rfl⟩, hao⟩
  intro r w1 hw1
  rcases hw1 with ⟨rfl, hok⟩ | ⟨rfl, rfl, hx⟩
  · obtain ⟨x1, w2, f', hP0, hf', rfl⟩ := hok
    obtain ⟨x, y, rfl, a1, a2, a3, a4, a5, a6, a7, a8, hc, hv⟩ := hP0
    have hLWa := hLW.out f'
    refine gd_istore C dL_law_1119 (Nat.le_of_ble_eq_true rfl) ?_
    refine gd_aload_n C dL_law_1121 rfl ?_
    refine gd_aload_n C dL_law_1122 rfl ?_
    refine gd_iload C dL_law_1123 rfl ?_
    refine gd_iconst C dL_law_1125 ?_
    refine gd_iadd C dL_law_1126 ?_
    refine gd_sld C hX hbl hzb (by omega) hL8 dL_law_1127 hq1 ?_
    refine gd_aload_n C dL_law_1128 rfl ?_
    refine gd_iload C dL_law_1129 rfl ?_
    refine gd_iconst C dL_law_1131 ?_
    refine gd_iadd C dL_law_1132 ?_
    refine gd_sld C hX hbl hzb (by omega) hL8 dL_law_1133 hq2 ?_
    refine gd_callV (n := 2) (ci := 5) (Cn := RX5) (T := TX5) (N := 18) C (kX5_extent hl hLWa.2.2.1 hR hI hq1R hq2R) ?_ rfl gL_law_X5_extent rfl ⟨rfl, by decide, by decide, by decide +kernel⟩ rfl rfl (Nat.le_of_ble_eq_true rfl) rfl dL_law_1134 ⟨⟨by decide, by decide⟩, (by show _ ≤ 601024; dsimp only; omega), (by show _ ≤ 7293034; dsimp only; omega)⟩ (fun _ h => h.elim) ?_
    · exact ⟨_, by exact hLWa.2.2.1.1⟩
    rintro r3 w3 hm
    have hge := (sI_bd (g := bE (B q1)) (a := 0) (b := x) (fun j => bE_bd _ _) a1).1
    have hle := bE_one a1 a2 a3
    obtain ⟨-, x', y', b1, b2, b3, b4, b5, b6, b7, b8, rfl, F9, G9, hV, hR9, hN9, h79, h149, h179⟩ := hm.resolve_right (fun h => h.1 ⟨hc, by omega, by omega⟩)
    clear hm
    obtain ⟨rfl, rfl⟩ := ext_one a1 a3 a5 a6 a7 a8 b1 b3 (by omega) b5 b6 b7 b8
    clear a7 a8 b7 b8
    have hLWb := hLWa.mod hV
    have hINV9 := hINV.same hR9 hN9 h79 h149
    have hval : f' 0 = (iI (10000 * x + 100 * (y - x) + B q1 x % 100)).toInt64 := by rw [hf', Value.int.inj (Option.some.inj hv)]
    refine gd_istore C dL_law_1137 (Nat.le_of_ble_eq_true rfl) ?_
    refine gd_aload_n C dL_law_1139 rfl ?_
    refine gd_callV (n := 0) (ci := 5) (Cn := RX5) (T := TX5) (N := 18) C (kX5_thrown hl hLWb.2.2.1) ?_ rfl gL_law_X5_thrown rfl ⟨rfl, by decide, by decide, by decide +kernel⟩ rfl rfl (Nat.le_of_ble_eq_true rfl) rfl dL_law_1140 ⟨⟨by decide, by decide⟩, (by show _ ≤ 601024; dsimp only; omega), (by show _ ≤ 7293034; dsimp only; omega)⟩ (fun _ h => h.elim) ?_
    · exact ⟨_, by exact hLWb.2.2.1.1⟩
    rintro _ _ ⟨rfl, rfl⟩
    refine gd_iload C dL_law_1143 rfl ?_
    refine gd_icmp_eq (tgt := 1150) C dL_law_1145 (by decide) ?_ ?_ (fun hc1145 => ?_) (fun hc1145 => ?_)
    · omega
    · omega
    · refine gd_iload C dL_law_1150 rfl ?_
      refine gd_if_ne (tgt := 1167) C dL_law_1152 (by decide) ?_ (fun hc1152 => ?_) (fun hc1152 => ?_)
      · omega
      · exfalso; omega
      · refine gd_aload_n C dL_law_1155 rfl ?_
        refine gd_iconst C dL_law_1156 ?_
        refine gd_lald C dL_law_1157 hLWb.2.2.2.2.1 hval ?_
        refine gd_iload C dL_law_1158 rfl ?_
        refine gd_i2l C dL_law_1160 ?_
        refine gd_lcmpE C dL_law_1161 ?_
        refine gd_if_eq (tgt := 1167) C dL_law_1162 (by decide) ?_ (fun hc1162 => ?_) (fun hc1162 => ?_)
        · omega
        · refine gd_goto (tgt := 1373) C dL_law_1167 (by decide) ?_
          refine Gd.widen (k := cells + 10) (n := slots + 60) (by dsimp only; omega) (by dsimp only; omega) (Gd.sub (by repeat (first | exact Lsb.nil | exact Lsb.rf _ | refine Lsb.keep ?_ | refine Lsb.drop ?_)) (kk _ ⟨g, t, ar, d, ac, ab, la, na, fa, A, _, _, _, _, _, _, _, _, _, _, _, F9, G9, _, _, hLWb, hINV9⟩))
        · exfalso; omega
    · exfalso; omega
  · have hx1 : (¬ (0 ≤ q1 ∧ q1 < 16 ∧ v q1 2 = 1) ∨ (0 ≤ q1 ∧ q1 < 16 ∧ v q1 2 = 1) ∧ ∀ j, 0 ≤ j → j < 64 → ¬ (bE (B q1) j = 1 ∧ sI (bE (B q1)) 0 j = q2)) := hx.2
    clear hx
    have hLWa := hLW
    refine gd_istore C dL_law_1119 (Nat.le_of_ble_eq_true rfl) ?_
    refine gd_aload_n C dL_law_1121 rfl ?_
    refine gd_aload_n C dL_law_1122 rfl ?_
    refine gd_iload C dL_law_1123 rfl ?_
    refine gd_iconst C dL_law_1125 ?_
    refine gd_iadd C dL_law_1126 ?_
    refine gd_sld C hX hbl hzb (by omega) hL8 dL_law_1127 hq1 ?_
    refine gd_aload_n C dL_law_1128 rfl ?_
    refine gd_iload C dL_law_1129 rfl ?_
    refine gd_iconst C dL_law_1131 ?_
    refine gd_iadd C dL_law_1132 ?_
    refine gd_sld C hX hbl hzb (by omega) hL8 dL_law_1133 hq2 ?_
    refine gd_callV (n := 2) (ci := 5) (Cn := RX5) (T := TX5) (N := 18) C (kX5_extent hl hLWa.2.2.1 hR hI hq1R hq2R) ?_ rfl gL_law_X5_extent rfl ⟨rfl, by decide, by decide, by decide +kernel⟩ rfl rfl (Nat.le_of_ble_eq_true rfl) rfl dL_law_1134 ⟨⟨by decide, by decide⟩, (by show _ ≤ 601024; dsimp only; omega), (by show _ ≤ 7293034; dsimp only; omega)⟩ (fun _ h => h.elim) ?_
    · exact ⟨_, by exact hLWa.2.2.1.1⟩
    rintro r3 w3 hm
    obtain ⟨-, rfl, F9, G9, hV, hR9, hN9, h79, h149, h179⟩ := hm.resolve_left (fun ⟨h1, x, y, b1, b2, b3, b4, _⟩ => hx1.elim (fun h => h h1) (fun h => h.2 x b1 b2 ⟨b3, b4⟩))
    clear hx1
    have hLWb := hLWa.mod hV
    have hINV9 := hINV.same hR9 hN9 h79 h149
    clear hm
    refine gd_istore C dL_law_1137 (Nat.le_of_ble_eq_true rfl) ?_
    refine gd_aload_n C dL_law_1139 rfl ?_
    refine gd_callV (n := 0) (ci := 5) (Cn := RX5) (T := TX5) (N := 18) C (kX5_thrown hl hLWb.2.2.1) ?_ rfl gL_law_X5_thrown rfl ⟨rfl, by decide, by decide, by decide +kernel⟩ rfl rfl (Nat.le_of_ble_eq_true rfl) rfl dL_law_1140 ⟨⟨by decide, by decide⟩, (by show _ ≤ 601024; dsimp only; omega), (by show _ ≤ 7293034; dsimp only; omega)⟩ (fun _ h => h.elim) ?_
    · exact ⟨_, by exact hLWb.2.2.1.1⟩
    rintro _ _ ⟨rfl, rfl⟩
    refine gd_iload C dL_law_1143 rfl ?_
    refine gd_icmp_eq (tgt := 1150) C dL_law_1145 (by decide) ?_ ?_ (fun hc1145 => ?_) (fun hc1145 => ?_)
    · omega
    · omega
    · refine gd_iload C dL_law_1150 rfl ?_
      refine gd_if_ne (tgt := 1167) C dL_law_1152 (by decide) ?_ (fun hc1152 => ?_) (fun hc1152 => ?_)
      · omega
      · refine gd_goto (tgt := 1373) C dL_law_1167 (by decide) ?_
        refine Gd.widen (k := cells + 10) (n := slots + 60) (by dsimp only; omega) (by dsimp only; omega) (Gd.sub (by repeat (first | exact Lsb.nil | exact Lsb.rf _ | refine Lsb.keep ?_ | refine Lsb.drop ?_)) (kk _ ⟨g, t, ar, d, ac, ab, la, na, fa, A, _, _, _, _, _, _, _, _, _, _, _, F9, G9, _, _, hLWb, hINV9⟩))
      · exfalso; omega
    · exfalso; omega

set_option maxRecDepth 100000 in
set_option maxHeartbeats 4000000 in
theorem cs_average {p : Program} {l : Launch} {e : Env} {s : State} {m : MethodId} {args : Array Value} {below : List Frame} {meth : Method} {c : Code} {D : va_G} {ky : Nat → ClassId} {z : Nat} {Q : State → Prop} {cells slots : Nat} {w : WT} (hl : l.stackTraces = false) (C : Cx p l s m args meth c D ky z cL_law 8 wsL_law RL) (hNC : NC3 s) {b0 L : Nat} {xs : Nat → Int32} (hX : va_X b0 L xs s s.heap) (hbl : b0 < s.heap.size) (hzb : ¬ z ≤ b0) (hL8 : L ≤ 2048) {b o ao ad : Nat} {k i : Int} (hLI : LI w ky b o ao ad k) (hk : 0 ≤ k ∧ k ≤ 511) (hi : 0 ≤ i ∧ i + 3 < L) (hcs : cells + 30 ≤ 601024 ∧ slots + 200 ≤ 7293034)
    (kk : ∀ w', LI w' ky b o ao ad (k + 1) → Gd p l e room_1 s m args below meth c D z Q (cells + 10) (slots + 60) w' 1373 [some (.ref b0), some (.ref b), some (.ref o), some (.ref ao), some (.ref ad), some (.int (iI i)), none, none] []) : Gd p l e room_1 s m args below meth c D z Q cells slots w 1170 [some (.ref b0), some (.ref b), some (.ref o), some (.ref ao), some (.ref ad), some (.int (iI i)), none, none] [] := by
  obtain ⟨g, t, ar, d, ac, ab, la, na, fa, A, T, v, B, sc, dn, n, lo, co, ct, nm, fl, F, G, fo, fd, hLW, hINV⟩ := hLI
  obtain ⟨hW, hD, hM, hA0, hao, had⟩ := id hLW
  obtain ⟨hFS, hRL, hR, hNI, hPT, hRN, hF9⟩ := id hINV
  obtain ⟨hI, hOW, hL0, hsc, hds, h3c, hc0⟩ := id hFS
  obtain ⟨hi1, hi2, hi3, hi4⟩ := id hI
  have hDR := hNI.1
  have hn9 := PT_nn (ct := ct) hDR.1.1
  have hn3 : n < 300 := by omega
  have hlo0 := hNI.2.1
  have hco0 := hNI.2.2.1
  clear hn9
  obtain ⟨q1, hq1⟩ : ∃ q, scS xs (i + 1) = q := ⟨_, rfl⟩
  have hq1R : InR q1 := hq1 ▸ scS_R xs (i + 1)
  obtain ⟨q2, hq2⟩ : ∃ q, scS xs (i + 2) = q := ⟨_, rfl⟩
  have hq2R : InR q2 := hq2 ▸ scS_R xs (i + 2)
  obtain ⟨q3, hq3⟩ : ∃ q, scS xs (i + 3) = q := ⟨_, rfl⟩
  have hq3R : InR q3 := hq3 ▸ scS_R xs (i + 3)
  refine gd_aload_n C dL_law_1170 rfl ?_
  refine gd_aload_n C dL_law_1171 rfl ?_
  refine gd_iload C dL_law_1172 rfl ?_
  refine gd_iconst C dL_law_1174 ?_
  refine gd_iadd C dL_law_1175 ?_
  refine gd_sld C hX hbl hzb (by omega) hL8 dL_law_1176 hq1 ?_
  refine gd_aload C dL_law_1177 rfl ?_
  refine gd_callSW (n := 3) C hNC (kL_average hl (kX4_average hl hW hI hq1R) ⟨_, hW.1⟩ (ao := ad) (f := fd) ?_ (fun E h => h.1)) gL_law_L_average rfl ⟨by decide, by decide, by decide +kernel⟩ rfl rfl (Nat.le_of_ble_eq_true rfl) rfl dL_law_1179 ⟨⟨by decide, by decide⟩, (by show _ ≤ 601024; dsimp only; omega), (by show _ ≤ 7293034; dsimp only; omega)⟩ ?_
  · rintro r w1 ⟨rfl, rfl, -⟩
    exact ⟨⟨_, rfl, (avF_eq _).1⟩, had⟩
  intro r w1 hw1
  rcases hw1 with ⟨rfl, hok⟩ | ⟨rfl, rfl, hx⟩
  · obtain ⟨x1, w2, f', hP0, hf', rfl⟩ := hok
    obtain ⟨rfl, hv, hc⟩ := hP0
    have hLWa := hLW.outD f'
    refine gd_istore C dL_law_1182 (Nat.le_of_ble_eq_true rfl) ?_
    refine gd_aload_n C dL_law_1184 rfl ?_
    refine gd_aload_n C dL_law_1185 rfl ?_
    refine gd_iload C dL_law_1186 rfl ?_
    refine gd_iconst C dL_law_1188 ?_
    refine gd_iadd C dL_law_1189 ?_
    refine gd_sld C hX hbl hzb (by omega) hL8 dL_law_1190 hq1 ?_
    refine gd_callV (n := 1) (ci := 5) (Cn := RX5) (T := TX5) (N := 18) C (kX5_average hl hLWa.2.2.1 hR hI hq1R) ?_ rfl gL_law_X5_average rfl ⟨rfl, by decide, by decide, by decide +kernel⟩ rfl rfl (Nat.le_of_ble_eq_true rfl) rfl dL_law_1191 ⟨⟨by decide, by decide⟩, (by show _ ≤ 601024; dsimp only; omega), (by show _ ≤ 7293034; dsimp only; omega)⟩ (fun _ h => h.elim) ?_
    · exact ⟨_, by exact hLWa.2.2.1.1⟩
    rintro r3 w3 hm
    obtain ⟨-, rfl, F9, G9, hV, hR9, hN9, h79, h149, h179⟩ := hm.resolve_right (fun h => h.1 hc)
    have hLWb := hLWa.mod hV
    have hINV9 := hINV.same hR9 hN9 h79 h149
    clear hm
    have hval : f' 0 = FP.f2d (avF (B q1)) := by rw [hf', Value.float.inj (Option.some.inj hv)]
    refine gd_fstore C dL_law_1194 (Nat.le_of_ble_eq_true rfl) ?_
    refine gd_aload_n C dL_law_1196 rfl ?_
    refine gd_callV (n := 0) (ci := 5) (Cn := RX5) (T := TX5) (N := 18) C (kX5_thrown hl hLWb.2.2.1) ?_ rfl gL_law_X5_thrown rfl ⟨rfl, by decide, by decide, by decide +kernel⟩ rfl rfl (Nat.le_of_ble_eq_true rfl) rfl dL_law_1197 ⟨⟨by decide, by decide⟩, (by show _ ≤ 601024; dsimp only; omega), (by show _ ≤ 7293034; dsimp only; omega)⟩ (fun _ h => h.elim) ?_
    · exact ⟨_, by exact hLWb.2.2.1.1⟩
    rintro _ _ ⟨rfl, rfl⟩
    refine gd_iload C dL_law_1200 rfl ?_
    refine gd_icmp_eq (tgt := 1207) C dL_law_1202 (by decide) ?_ ?_ (fun hc1202 => ?_) (fun hc1202 => ?_)
    · omega
    · omega
    · refine gd_iload C dL_law_1207 rfl ?_
      refine gd_if_ne (tgt := 1245) C dL_law_1209 (by decide) ?_ (fun hc1209 => ?_) (fun hc1209 => ?_)
      · omega
      · exfalso; omega
      · refine gd_aload C dL_law_1212 rfl ?_
        refine gd_iconst C dL_law_1214 ?_
        refine gd_dald C dL_law_1215 hLWb.2.2.2.2.2 hval ?_
        refine gd_fload C dL_law_1216 rfl ?_
        refine gd_f2d C dL_law_1218 (avF_eq _).1 ?_
        refine gd_dcmpE C dL_law_1219 (avF_eq _).2 ?_
        refine gd_if_eq (tgt := 1245) C dL_law_1220 (by decide) ?_ (fun hc1220 => ?_) (fun hc1220 => ?_)
        · omega
        · refine gd_goto (tgt := 1373) C dL_law_1245 (by decide) ?_
          refine Gd.widen (k := cells + 10) (n := slots + 60) (by dsimp only; omega) (by dsimp only; omega) (Gd.sub (by repeat (first | exact Lsb.nil | exact Lsb.rf _ | refine Lsb.keep ?_ | refine Lsb.drop ?_)) (kk _ ⟨g, t, ar, d, ac, ab, la, na, fa, A, _, _, _, _, _, _, _, _, _, _, _, F9, G9, _, _, hLWb, hINV9⟩))
        · exfalso; omega
    · exfalso; omega
  · have hx1 : ¬ (0 ≤ q1 ∧ q1 < 16 ∧ v q1 2 = 1) := hx.2
    clear hx
    have hLWa := hLW
    refine gd_istore C dL_law_1182 (Nat.le_of_ble_eq_true rfl) ?_
    refine gd_aload_n C dL_law_1184 rfl ?_
    refine gd_aload_n C dL_law_1185 rfl ?_
    refine gd_iload C dL_law_1186 rfl ?_
    refine gd_iconst C dL_law_1188 ?_
    refine gd_iadd C dL_law_1189 ?_
    refine gd_sld C hX hbl hzb (by omega) hL8 dL_law_1190 hq1 ?_
    refine gd_callV (n := 1) (ci := 5) (Cn := RX5) (T := TX5) (N := 18) C (kX5_average hl hLWa.2.2.1 hR hI hq1R) ?_ rfl gL_law_X5_average rfl ⟨rfl, by decide, by decide, by decide +kernel⟩ rfl rfl (Nat.le_of_ble_eq_true rfl) rfl dL_law_1191 ⟨⟨by decide, by decide⟩, (by show _ ≤ 601024; dsimp only; omega), (by show _ ≤ 7293034; dsimp only; omega)⟩ (fun _ h => h.elim) ?_
    · exact ⟨_, by exact hLWa.2.2.1.1⟩
    rintro r3 w3 hm
    obtain ⟨-, rfl, F9, G9, hV, hR9, hN9, h79, h149, h179⟩ := hm.resolve_left (fun h => hx1 h.1)
    have hLWb := hLWa.mod hV
    have hINV9 := hINV.same hR9 hN9 h79 h149
    clear hm
    refine gd_fstore C dL_law_1194 (Nat.le_of_ble_eq_true rfl) ?_
    refine gd_aload_n C dL_law_1196 rfl ?_
    refine gd_callV (n := 0) (ci := 5) (Cn := RX5) (T := TX5) (N := 18) C (kX5_thrown hl hLWb.2.2.1) ?_ rfl gL_law_X5_thrown rfl ⟨rfl, by decide, by decide, by decide +kernel⟩ rfl rfl (Nat.le_of_ble_eq_true rfl) rfl dL_law_1197 ⟨⟨by decide, by decide⟩, (by show _ ≤ 601024; dsimp only; omega), (by show _ ≤ 7293034; dsimp only; omega)⟩ (fun _ h => h.elim) ?_
    · exact ⟨_, by exact hLWb.2.2.1.1⟩
    rintro _ _ ⟨rfl, rfl⟩
    refine gd_iload C dL_law_1200 rfl ?_
    refine gd_icmp_eq (tgt := 1207) C dL_law_1202 (by decide) ?_ ?_ (fun hc1202 => ?_) (fun hc1202 => ?_)
    · omega
    · omega
    · refine gd_iload C dL_law_1207 rfl ?_
      refine gd_if_ne (tgt := 1245) C dL_law_1209 (by decide) ?_ (fun hc1209 => ?_) (fun hc1209 => ?_)
      · omega
      · refine gd_goto (tgt := 1373) C dL_law_1245 (by decide) ?_
        refine Gd.widen (k := cells + 10) (n := slots + 60) (by dsimp only; omega) (by dsimp only; omega) (Gd.sub (by repeat (first | exact Lsb.nil | exact Lsb.rf _ | refine Lsb.keep ?_ | refine Lsb.drop ?_)) (kk _ ⟨g, t, ar, d, ac, ab, la, na, fa, A, _, _, _, _, _, _, _, _, _, _, _, F9, G9, _, _, hLWb, hINV9⟩))
      · exfalso; omega
    · exfalso; omega
