set_option maxRecDepth 100000 in
set_option maxHeartbeats 4000000 in
theorem cs_opens {p : Program} {l : Launch} {e : Env} {s : State} {m : MethodId} {args : Array Value} {below : List Frame} {meth : Method} {c : Code} {D : va_G} {ky : Nat → ClassId} {z : Nat} {Q : State → Prop} {cells slots : Nat} {w : WT} (hl : l.stackTraces = false) (C : Cx p l s m args meth c D ky z cL_law 8 wsL_law RL) (hNC : NC3 s) {b0 L : Nat} {xs : Nat → Int32} (hX : va_X b0 L xs s s.heap) (hbl : b0 < s.heap.size) (hzb : ¬ z ≤ b0) (hL8 : L ≤ 2048) {b o ao ad : Nat} {k i : Int} (hLI : LI w ky b o ao ad k) (hk : 0 ≤ k ∧ k ≤ 511) (hi : 0 ≤ i ∧ i + 3 < L) (hcs : cells + 30 ≤ 601024 ∧ slots + 200 ≤ 7293034)
    (kk : ∀ w', LI w' ky b o ao ad (k + 1) → Gd p l e room_1 s m args below meth c D z Q (cells + 10) (slots + 60) w' 1373 [some (.ref b0), some (.ref b), some (.ref o), some (.ref ao), some (.ref ad), some (.int (iI i)), none, none] []) : Gd p l e room_1 s m args below meth c D z Q cells slots w 739 [some (.ref b0), some (.ref b), some (.ref o), some (.ref ao), some (.ref ad), some (.int (iI i)), none, none] [] := by
  obtain ⟨g, t, ar, d, ac, ab, la, na, fa, A, T, v, B, sc, dn, n, lo, co, ct, nm, fl, F, G, fo, fd, hLW, hINV⟩ := hLI
  obtain ⟨hW, hD, hM, hA0, hao, had⟩ := id hLW
  obtain ⟨hFS, hRL, hR, hNI, hPT, hRN, hF9⟩ := id hINV
  obtain ⟨hI, hOW, hL0, hsc, hds, h3c, hc0⟩ := id hFS
  obtain ⟨hi1, hi2, hi3, hi4⟩ := id hI
  have hDR := hNI.1
  have hn9 := PT_nn (ct := ct) hDR.1.1
  have hn3 : n < 300 := by omega
  have hlo0 := hNI.2.1
  have hco0 := hNI.2.2.1
  clear hn9
  obtain ⟨q1, hq1⟩ : ∃ q, scS xs (i + 1) = q := ⟨_, rfl⟩
  have hq1R : InR q1 := hq1 ▸ scS_R xs (i + 1)
  obtain ⟨q2, hq2⟩ : ∃ q, scS xs (i + 2) = q := ⟨_, rfl⟩
  have hq2R : InR q2 := hq2 ▸ scS_R xs (i + 2)
  obtain ⟨q3, hq3⟩ : ∃ q, scS xs (i + 3) = q := ⟨_, rfl⟩
  have hq3R : InR q3 := hq3 ▸ scS_R xs (i + 3)
  refine gd_aload_n C dL_law_739 rfl ?_
  refine gd_aload_n C dL_law_740 rfl ?_
  refine gd_iload C dL_law_741 rfl ?_
  refine gd_iconst C dL_law_743 ?_
  refine gd_iadd C dL_law_744 ?_
  refine gd_sld C hX hbl hzb (by omega) hL8 dL_law_745 hq1 ?_
  refine gd_aload_n C dL_law_746 rfl ?_
  refine gd_callSW (n := 3) C hNC (kL_opens hl (kX4_opens hl hW hI hq1R) ⟨_, hW.1⟩ (ao := ao) (f := fo) ?_ (fun E h => h.1)) gL_law_L_opens rfl ⟨by decide, by decide, by decide +kernel⟩ rfl rfl (Nat.le_of_ble_eq_true rfl) rfl dL_law_747 ⟨⟨by decide, by decide⟩, (by show _ ≤ 601024; dsimp only; omega), (by show _ ≤ 7293034; dsimp only; omega)⟩ ?_
  · rintro r w1 ⟨rfl, rfl, -⟩
    exact ⟨⟨_, rfl⟩, hao⟩
  intro r w1 hw1
  rcases hw1 with ⟨rfl, hok⟩ | ⟨rfl, rfl, hx⟩
  · obtain ⟨x1, w2, f', hP0, hf', rfl⟩ := hok
    obtain ⟨rfl, hv, hc⟩ := hP0
    have hLWa := hLW.out f'
  
    refine gd_istore C dL_law_750 (Nat.le_of_ble_eq_true rfl) ?_
    refine gd_aload_n C dL_law_752 rfl ?_
    refine gd_aload_n C dL_law_753 rfl ?_
    refine gd_iload C dL_law_754 rfl ?_
    refine gd_iconst C dL_law_756 ?_
    refine gd_iadd C dL_law_757 ?_
    refine gd_sld C hX hbl hzb (by omega) hL8 dL_law_758 hq1 ?_
    refine gd_callV (n := 1) (ci := 5) (Cn := RX5) (T := TX5) (N := 18) C (kX5_opens hl hLWa.2.2.1 hR hI hq1R) ?_ rfl gL_law_X5_opens rfl ⟨rfl, by decide, by decide, by decide +kernel⟩ rfl rfl (Nat.le_of_ble_eq_true rfl) rfl dL_law_759 ⟨⟨by decide, by decide⟩, (by show _ ≤ 601024; dsimp only; omega), (by show _ ≤ 7293034; dsimp only; omega)⟩ (fun _ h => h.elim) ?_
    · exact ⟨_, by exact hLWa.2.2.1.1⟩
    rintro r3 w3 hm
    obtain ⟨-, rfl, F9, G9, hV, hR9, hN9, h79, h149, h179⟩ := hm.resolve_right (fun h => h.1 hc)
    have hLWb := hLWa.mod hV
    have hINV9 := hINV.same hR9 hN9 h79 h149
    clear hm
    have hval : f' 0 = (iI (v q1 3)).toInt64 := by rw [hf', Value.int.inj (Option.some.inj hv)]
    refine gd_istore C dL_law_762 (Nat.le_of_ble_eq_true rfl) ?_
    refine gd_aload_n C dL_law_764 rfl ?_
    refine gd_callV (n := 0) (ci := 5) (Cn := RX5) (T := TX5) (N := 18) C (kX5_thrown hl hLWb.2.2.1) ?_ rfl gL_law_X5_thrown rfl ⟨rfl, by decide, by decide, by decide +kernel⟩ rfl rfl (Nat.le_of_ble_eq_true rfl) rfl dL_law_765 ⟨⟨by decide, by decide⟩, (by show _ ≤ 601024; dsimp only; omega), (by show _ ≤ 7293034; dsimp only; omega)⟩ (fun _ h => h.elim) ?_
    · exact ⟨_, by exact hLWb.2.2.1.1⟩
    rintro _ _ ⟨rfl, rfl⟩
    refine gd_iload C dL_law_768 rfl ?_
    refine gd_icmp_eq (tgt := 775) C dL_law_770 (by decide) ?_ ?_ (fun hc770 => ?_) (fun hc770 => ?_)
    · omega
    · omega
    · refine gd_iload C dL_law_775 rfl ?_
      refine gd_if_ne (tgt := 792) C dL_law_777 (by decide) ?_ (fun hc777 => ?_) (fun hc777 => ?_)
      · omega
      · exfalso; omega
      · refine gd_aload_n C dL_law_780 rfl ?_
        refine gd_iconst C dL_law_781 ?_
        refine gd_lald C dL_law_782 hLWb.2.2.2.2.1 hval ?_
        refine gd_iload C dL_law_783 rfl ?_
        refine gd_i2l C dL_law_785 ?_
        refine gd_lcmpE C dL_law_786 ?_
        refine gd_if_eq (tgt := 792) C dL_law_787 (by decide) ?_ (fun hc787 => ?_) (fun hc787 => ?_)
        · omega
        · refine gd_goto (tgt := 1373) C dL_law_792 (by decide) ?_
          refine Gd.widen (k := cells + 10) (n := slots + 60) (by dsimp only; omega) (by dsimp only; omega) (Gd.sub (by repeat (first | exact Lsb.nil | exact Lsb.rf _ | refine Lsb.keep ?_ | refine Lsb.drop ?_)) (kk _ ⟨g, t, ar, d, ac, ab, la, na, fa, A, _, _, _, _, _, _, _, _, _, _, _, F9, G9, _, _, hLWb, hINV9⟩))
        · exfalso; omega
    · exfalso; omega
  · have hx1 : ¬ (0 ≤ q1 ∧ q1 < 16 ∧ v q1 2 = 1) := hx.2
    clear hx
    have hLWa := hLW
    refine gd_istore C dL_law_750 (Nat.le_of_ble_eq_true rfl) ?_
    refine gd_aload_n C dL_law_752 rfl ?_
    refine gd_aload_n C dL_law_753 rfl ?_
    refine gd_iload C dL_law_754 rfl ?_
    refine gd_iconst C dL_law_756 ?_
    refine gd_iadd C dL_law_757 ?_
    refine gd_sld C hX hbl hzb (by omega) hL8 dL_law_758 hq1 ?_
    refine gd_callV (n := 1) (ci := 5) (Cn := RX5) (T := TX5) (N := 18) C (kX5_opens hl hLWa.2.2.1 hR hI hq1R) ?_ rfl gL_law_X5_opens rfl ⟨rfl, by decide, by decide, by decide +kernel⟩ rfl rfl (Nat.le_of_ble_eq_true rfl) rfl dL_law_759 ⟨⟨by decide, by decide⟩, (by show _ ≤ 601024; dsimp only; omega), (by show _ ≤ 7293034; dsimp only; omega)⟩ (fun _ h => h.elim) ?_
    · exact ⟨_, by exact hLWa.2.2.1.1⟩
    rintro r3 w3 hm
    obtain ⟨-, rfl, F9, G9, hV, hR9, hN9, h79, h149, h179⟩ := hm.resolve_left (fun h => hx1 h.1)
    have hLWb := hLWa.mod hV
    have hINV9 := hINV.same hR9 hN9 h79 h149
    clear hm
    refine gd_istore C dL_law_762 (Nat.le_of_ble_eq_true rfl) ?_
    refine gd_aload_n C dL_law_764 rfl ?_
    refine gd_callV (n := 0) (ci := 5) (Cn := RX5) (T := TX5) (N := 18) C (kX5_thrown hl hLWb.2.2.1) ?_ rfl gL_law_X5_thrown rfl ⟨rfl, by decide, by decide, by decide +kernel⟩ rfl rfl (Nat.le_of_ble_eq_true rfl) rfl dL_law_765 ⟨⟨by decide, by decide⟩, (by show _ ≤ 601024; dsimp only; omega), (by show _ ≤ 7293034; dsimp only; omega)⟩ (fun _ h => h.elim) ?_
    · exact ⟨_, by exact hLWb.2.2.1.1⟩
    rintro _ _ ⟨rfl, rfl⟩
    refine gd_iload C dL_law_768 rfl ?_
    refine gd_icmp_eq (tgt := 775) C dL_law_770 (by decide) ?_ ?_ (fun hc770 => ?_) (fun hc770 => ?_)
    · omega
    · omega
    · refine gd_iload C dL_law_775 rfl ?_
      refine gd_if_ne (tgt := 792) C dL_law_777 (by decide) ?_ (fun hc777 => ?_) (fun hc777 => ?_)
      · omega
      · refine gd_goto (tgt := 1373) C dL_law_792 (by decide) ?_
        refine Gd.widen (k := cells + 10) (n := slots + 60) (by dsimp only; omega) (by dsimp only; omega) (Gd.sub (by repeat (first | exact Lsb.nil | exact Lsb.rf _ | refine Lsb.keep ?_ | refine Lsb.drop ?_)) (kk _ ⟨g, t, ar, d, ac, ab, la, na, fa, A, _, _, _, _, _, _, _, _, _, _, _, F9, G9, _, _, hLWb, hINV9⟩))
      · exfalso; omega
    · exfalso; omega

set_option maxRecDepth 100000 in
set_option maxHeartbeats 4000000 in
theorem cs_extents {p : Program} {l : Launch} {e : Env} {s : State} {m : MethodId} {args : Array Value} {below : List Frame} {meth : Method} {c : Code} {D : va_G} {ky : Nat → ClassId} {z : Nat} {Q : State → Prop} {cells slots : Nat} {w : WT} (hl : l.stackTraces = false) (C : Cx p l s m args meth c D ky z cL_law 8 wsL_law RL) (hNC : NC3 s) {b0 L : Nat} {xs : Nat → Int32} (hX : va_X b0 L xs s s.heap) (hbl : b0 < s.heap.size) (hzb : ¬ z ≤ b0) (hL8 : L ≤ 2048) {b o ao ad : Nat} {k i : Int} (hLI : LI w ky b o ao ad k) (hk : 0 ≤ k ∧ k ≤ 511) (hi : 0 ≤ i ∧ i + 3 < L) (hcs : cells + 30 ≤ 601024 ∧ slots + 200 ≤ 7293034)
    (kk : ∀ w', LI w' ky b o ao ad (k + 1) → Gd p l e room_1 s m args below meth c D z Q (cells + 10) (slots + 60) w' 1373 [some (.ref b0), some (.ref b), some (.ref o), some (.ref ao), some (.ref ad), some (.int (iI i)), none, none] []) : Gd p l e room_1 s m args below meth c D z Q cells slots w 1046 [some (.ref b0), some (.ref b), some (.ref o), some (.ref ao), some (.ref ad), some (.int (iI i)), none, none] [] := by
  obtain ⟨g, t, ar, d, ac, ab, la, na, fa, A, T, v, B, sc, dn, n, lo, co, ct, nm, fl, F, G, fo, fd, hLW, hINV⟩ := hLI
  obtain ⟨hW, hD, hM, hA0, hao, had⟩ := id hLW
  obtain ⟨hFS, hRL, hR, hNI, hPT, hRN, hF9⟩ := id hINV
  obtain ⟨hI, hOW, hL0, hsc, hds, h3c, hc0⟩ := id hFS
  obtain ⟨hi1, hi2, hi3, hi4⟩ := id hI
  have hDR := hNI.1
  have hn9 := PT_nn (ct := ct) hDR.1.1
  have hn3 : n < 300 := by omega
  have hlo0 := hNI.2.1
  have hco0 := hNI.2.2.1
  clear hn9
  obtain ⟨q1, hq1⟩ : ∃ q, scS xs (i + 1) = q := ⟨_, rfl⟩
  have hq1R : InR q1 := hq1 ▸ scS_R xs (i + 1)
  obtain ⟨q2, hq2⟩ : ∃ q, scS xs (i + 2) = q := ⟨_, rfl⟩
  have hq2R : InR q2 := hq2 ▸ scS_R xs (i + 2)
  obtain ⟨q3, hq3⟩ : ∃ q, scS xs (i + 3) = q := ⟨_, rfl⟩
  have hq3R : InR q3 := hq3 ▸ scS_R xs (i + 3)
  refine gd_aload_n C dL_law_1046 rfl ?_
  refine gd_aload_n C dL_law_1047 rfl ?_
  refine gd_iload C dL_law_1048 rfl ?_
  refine gd_iconst C dL_law_1050 ?_
  refine gd_iadd C dL_law_1051 ?_
  refine gd_sld C hX hbl hzb (by omega) hL8 dL_law_1052 hq1 ?_
  refine gd_aload_n C dL_law_1053 rfl ?_
  refine gd_callSW (n := 3) C hNC (kL_extents hl (kX4_extents hl hW hI hq1R) ⟨_, hW.1⟩ (ao := ao) (f := fo) ?_ (fun E h => h.1)) gL_law_L_extents rfl ⟨by decide, by decide, by decide +kernel⟩ rfl rfl (Nat.le_of_ble_eq_true rfl) rfl dL_law_1054 ⟨⟨by decide, by decide⟩, (by show _ ≤ 601024; dsimp only; omega), (by show _ ≤ 7293034; dsimp only; omega)⟩ ?_
  · rintro r w1 ⟨rfl, rfl, -⟩
    exact ⟨⟨_, rfl⟩, hao⟩
  intro r w1 hw1
  rcases hw1 with ⟨rfl, hok⟩ | ⟨rfl, rfl, hx⟩
  · obtain ⟨x1, w2, f', hP0, hf', rfl⟩ := hok
    obtain ⟨rfl, hv, hc⟩ := hP0
    have hLWa := hLW.out f'
  
    refine gd_istore C dL_law_1057 (Nat.le_of_ble_eq_true rfl) ?_
    refine gd_aload_n C dL_law_1059 rfl ?_
    refine gd_aload_n C dL_law_1060 rfl ?_
    refine gd_iload C dL_law_1061 rfl ?_
    refine gd_iconst C dL_law_1063 ?_
    refine gd_iadd C dL_law_1064 ?_
    refine gd_sld C hX hbl hzb (by omega) hL8 dL_law_1065 hq1 ?_
    refine gd_callV (n := 1) (ci := 5) (Cn := RX5) (T := TX5) (N := 18) C (kX5_extents hl hLWa.2.2.1 hR hI hq1R) ?_ rfl gL_law_X5_extents rfl ⟨rfl, by decide, by decide, by decide +kernel⟩ rfl rfl (Nat.le_of_ble_eq_true rfl) rfl dL_law_1066 ⟨⟨by decide, by decide⟩, (by show _ ≤ 601024; dsimp only; omega), (by show _ ≤ 7293034; dsimp only; omega)⟩ (fun _ h => h.elim) ?_
    · exact ⟨_, by exact hLWa.2.2.1.1⟩
    rintro r3 w3 hm
    obtain ⟨-, rfl, F9, G9, hV, hR9, hN9, h79, h149, h179⟩ := hm.resolve_right (fun h => h.1 hc)
    have hLWb := hLWa.mod hV
    have hINV9 := hINV.same hR9 hN9 h79 h149
    clear hm
    have hval : f' 0 = (iI (sI (bE (B q1)) 0 64)).toInt64 := by rw [hf', Value.int.inj (Option.some.inj hv)]
    refine gd_istore C dL_law_1069 (Nat.le_of_ble_eq_true rfl) ?_
    refine gd_aload_n C dL_law_1071 rfl ?_
    refine gd_callV (n := 0) (ci := 5) (Cn := RX5) (T := TX5) (N := 18) C (kX5_thrown hl hLWb.2.2.1) ?_ rfl gL_law_X5_thrown rfl ⟨rfl, by decide, by decide, by decide +kernel⟩ rfl rfl (Nat.le_of_ble_eq_true rfl) rfl dL_law_1072 ⟨⟨by decide, by decide⟩, (by show _ ≤ 601024; dsimp only; omega), (by show _ ≤ 7293034; dsimp only; omega)⟩ (fun _ h => h.elim) ?_
    · exact ⟨_, by exact hLWb.2.2.1.1⟩
    rintro _ _ ⟨rfl, rfl⟩
    refine gd_iload C dL_law_1075 rfl ?_
    refine gd_icmp_eq (tgt := 1082) C dL_law_1077 (by decide) ?_ ?_ (fun hc1077 => ?_) (fun hc1077 => ?_)
    · omega
    · omega
    · refine gd_iload C dL_law_1082 rfl ?_
      refine gd_if_ne (tgt := 1099) C dL_law_1084 (by decide) ?_ (fun hc1084 => ?_) (fun hc1084 => ?_)
      · omega
      · exfalso; omega
      · refine gd_aload_n C dL_law_1087 rfl ?_
        refine gd_iconst C dL_law_1088 ?_
        refine gd_lald C dL_law_1089 hLWb.2.2.2.2.1 hval ?_
        refine gd_iload C dL_law_1090 rfl ?_
        refine gd_i2l C dL_law_1092 ?_
        refine gd_lcmpE C dL_law_1093 ?_
        refine gd_if_eq (tgt := 1099) C dL_law_1094 (by decide) ?_ (fun hc1094 => ?_) (fun hc1094 => ?_)
        · omega
        · refine gd_goto (tgt := 1373) C dL_law_1099 (by decide) ?_
          refine Gd.widen (k := cells + 10) (n := slots + 60) (by dsimp only; omega) (by dsimp only; omega) (Gd.sub (by repeat (first | exact Lsb.nil | exact Lsb.rf _ | refine Lsb.keep ?_ | refine Lsb.drop ?_)) (kk _ ⟨g, t, ar, d, ac, ab, la, na, fa, A, _, _, _, _, _, _, _, _, _, _, _, F9, G9, _, _, hLWb, hINV9⟩))
        · exfalso; omega
    · exfalso; omega
  · have hx1 : ¬ (0 ≤ q1 ∧ q1 < 16 ∧ v q1 2 = 1) := hx.2
    clear hx
    have hLWa := hLW
    refine gd_istore C dL_law_1057 (Nat.le_of_ble_eq_true rfl) ?_
    refine gd_aload_n C dL_law_1059 rfl ?_
    refine gd_aload_n C dL_law_1060 rfl ?_
    refine gd_iload C dL_law_1061 rfl ?_
    refine gd_iconst C dL_law_1063 ?_
    refine gd_iadd C dL_law_1064 ?_
    refine gd_sld C hX hbl hzb (by omega) hL8 dL_law_1065 hq1 ?_
    refine gd_callV (n := 1) (ci := 5) (Cn := RX5) (T := TX5) (N := 18) C (kX5_extents hl hLWa.2.2.1 hR hI hq1R) ?_ rfl gL_law_X5_extents rfl ⟨rfl, by decide, by decide, by decide +kernel⟩ rfl rfl (Nat.le_of_ble_eq_true rfl) rfl dL_law_1066 ⟨⟨by decide, by decide⟩, (by show _ ≤ 601024; dsimp only; omega), (by show _ ≤ 7293034; dsimp only; omega)⟩ (fun _ h => h.elim) ?_
    · exact ⟨_, by exact hLWa.2.2.1.1⟩
    rintro r3 w3 hm
    obtain ⟨-, rfl, F9, G9, hV, hR9, hN9, h79, h149, h179⟩ := hm.resolve_left (fun h => hx1 h.1)
    have hLWb := hLWa.mod hV
    have hINV9 := hINV.same hR9 hN9 h79 h149
    clear hm
    refine gd_istore C dL_law_1069 (Nat.le_of_ble_eq_true rfl) ?_
    refine gd_aload_n C dL_law_1071 rfl ?_
    refine gd_callV (n := 0) (ci := 5) (Cn := RX5) (T := TX5) (N := 18) C (kX5_thrown hl hLWb.2.2.1) ?_ rfl gL_law_X5_thrown rfl ⟨rfl, by decide, by decide, by decide +kernel⟩ rfl rfl (Nat.le_of_ble_eq_true rfl) rfl dL_law_1072 ⟨⟨by decide, by decide⟩, (by show _ ≤ 601024; dsimp only; omega), (by show _ ≤ 7293034; dsimp only; omega)⟩ (fun _ h => h.elim) ?_
    · exact ⟨_, by exact hLWb.2.2.1.1⟩
    rintro _ _ ⟨rfl, rfl⟩
    refine gd_iload C dL_law_1075 rfl ?_
    refine gd_icmp_eq (tgt := 1082) C dL_law_1077 (by decide) ?_ ?_ (fun hc1077 => ?_) (fun hc1077 => ?_)
    · omega
    · omega
    · refine gd_iload C dL_law_1082 rfl ?_
      refine gd_if_ne (tgt := 1099) C dL_law_1084 (by decide) ?_ (fun hc1084 => ?_) (fun hc1084 => ?_)
      · omega
      · refine gd_goto (tgt := 1373) C dL_law_1099 (by decide) ?_
        refine Gd.widen (k := cells + 10) (n := slots + 60) (by dsimp only; omega) (by dsimp only; omega) (Gd.sub (by repeat (first | exact Lsb.nil | exact Lsb.rf _ | refine Lsb.keep ?_ | refine Lsb.drop ?_)) (kk _ ⟨g, t, ar, d, ac, ab, la, na, fa, A, _, _, _, _, _, _, _, _, _, _, _, F9, G9, _, _, hLWb, hINV9⟩))
      · exfalso; omega
    · exfalso; omega

set_option maxRecDepth 100000 in
set_option maxHeartbeats 4000000 in
theorem cs_fileOf {p : Program} {l : Launch} {e : Env} {s : State} {m : MethodId} {args : Array Value} {below : List Frame} {meth : Method} {c : Code} {D : va_G} {ky : Nat → ClassId} {z : Nat} {Q : State → Prop} {cells slots : Nat} {w : WT} (hl : l.stackTraces = false) (C : Cx p l s m args meth c D ky z cL_law 8 wsL_law RL) (hNC : NC3 s) {b0 L : Nat} {xs : Nat → Int32} (hX : va_X b0 L xs s s.heap) (hbl : b0 < s.heap.size) (hzb : ¬ z ≤ b0) (hL8 : L ≤ 2048) {b o ao ad : Nat} {k i : Int} (hLI : LI w ky b o ao ad k) (hk : 0 ≤ k ∧ k ≤ 511) (hi : 0 ≤ i ∧ i + 3 < L) (hcs : cells + 30 ≤ 601024 ∧ slots + 200 ≤ 7293034)
    (kk : ∀ w', LI w' ky b o ao ad (k + 1) → Gd p l e room_1 s m args below meth c D z Q (cells + 10) (slots + 60) w' 1373 [some (.ref b0), some (.ref b), some (.ref o), some (.ref ao), some (.ref ad), some (.int (iI i)), none, none] []) : Gd p l e room_1 s m args below meth c D z Q cells slots w 1248 [some (.ref b0), some (.ref b), some (.ref o), some (.ref ao), some (.ref ad), some (.int (iI i)), none, none] [] := by
  obtain ⟨g, t, ar, d, ac, ab, la, na, fa, A, T, v, B, sc, dn, n, lo, co, ct, nm, fl, F, G, fo, fd, hLW, hINV⟩ := hLI
  obtain ⟨hW, hD, hM, hA0, hao, had⟩ := id hLW
  obtain ⟨hFS, hRL, hR, hNI, hPT, hRN, hF9⟩ := id hINV
  obtain ⟨hI, hOW, hL0, hsc, hds, h3c, hc0⟩ := id hFS
  obtain ⟨hi1, hi2, hi3, hi4⟩ := id hI
  have hDR := hNI.1
  have hn9 := PT_nn (ct := ct) hDR.1.1
  have hn3 : n < 300 := by omega
  have hlo0 := hNI.2.1
  have hco0 := hNI.2.2.1
  clear hn9
  obtain ⟨q1, hq1⟩ : ∃ q, scS xs (i + 1) = q := ⟨_, rfl⟩
  have hq1R : InR q1 := hq1 ▸ scS_R xs (i + 1)
  obtain ⟨q2, hq2⟩ : ∃ q, scS xs (i + 2) = q := ⟨_, rfl⟩
  have hq2R : InR q2 := hq2 ▸ scS_R xs (i + 2)
  obtain ⟨q3, hq3⟩ : ∃ q, scS xs (i + 3) = q := ⟨_, rfl⟩
  have hq3R : InR q3 := hq3 ▸ scS_R xs (i + 3)
  refine gd_aload_n C dL_law_1248 rfl ?_
  refine gd_aload_n C dL_law_1249 rfl ?_
  refine gd_iload C dL_law_1250 rfl ?_
  refine gd_iconst C dL_law_1252 ?_
  refine gd_iadd C dL_law_1253 ?_
  refine gd_sld C hX hbl hzb (by omega) hL8 dL_law_1254 hq1 ?_
  refine gd_aload_n C dL_law_1255 rfl ?_
  refine gd_callSW (n := 3) C hNC (kL_fileOf hl (kX4_fileOf hl hW hI hD hDR hq1R) ⟨_, hW.1⟩ (ao := ao) (f := fo) ?_ (fun E h => h.1)) gL_law_L_fileOf rfl ⟨by decide, by decide, by decide +kernel⟩ rfl rfl (Nat.le_of_ble_eq_true rfl) rfl dL_law_1256 ⟨⟨by decide, by decide⟩, (by show _ ≤ 601024; dsimp only; omega), (by show _ ≤ 7293034; dsimp only; omega)⟩ ?_
  · rintro r w1 ⟨rfl, rfl, -⟩
    exact ⟨⟨_, rfl⟩, hao⟩
  intro r w1 hw1
  rcases hw1 with ⟨rfl, hok⟩ | ⟨rfl, rfl, hx⟩
  · obtain ⟨x1, w2, f', hP0, hf', rfl⟩ := hok
    obtain ⟨rfl, hv, hc⟩ := hP0
    have hLWa := hLW.out f'
  
    refine gd_istore C dL_law_1259 (Nat.le_of_ble_eq_true rfl) ?_
    refine gd_aload_n C dL_law_1261 rfl ?_
    refine gd_aload_n C dL_law_1262 rfl ?_
    refine gd_iload C dL_law_1263 rfl ?_
    refine gd_iconst C dL_law_1265 ?_
    refine gd_iadd C dL_law_1266 ?_
    refine gd_sld C hX hbl hzb (by omega) hL8 dL_law_1267 hq1 ?_
    refine gd_callV (n := 1) (ci := 5) (Cn := RX5) (T := TX5) (N := 18) C (kX5_fileOf hl hLWa.2.2.1 hRN hDR (by omega) hlo0 hco0 hR hI hF9 hq1R) ?_ rfl gL_law_X5_fileOf rfl ⟨rfl, by decide, by decide, by decide +kernel⟩ rfl rfl (Nat.le_of_ble_eq_true rfl) rfl dL_law_1268 ⟨⟨by decide, by decide⟩, (by show _ ≤ 601024; dsimp only; omega), (by show _ ≤ 7293034; dsimp only; omega)⟩ (fun _ h => h.elim) ?_
    · exact ⟨_, by exact hLWa.2.2.1.1⟩
    rintro r3 w3 hm
    obtain ⟨-, rfl, F9, G9, hV, hR9, hN9, h79, h149, h179⟩ := hm.resolve_right (fun h => h.1 hc)
    have hLWb := hLWa.mod hV
    have hINV9 := hINV.same hR9 hN9 h79 h149
    clear hm
    have hval : f' 0 = (iI (dF n lo co ct nm fl q1)).toInt64 := by rw [hf', Value.int.inj (Option.some.inj hv)]
    refine gd_istore C dL_law_1271 (Nat.le_of_ble_eq_true rfl) ?_
    refine gd_aload_n C dL_law_1273 rfl ?_
    refine gd_callV (n := 0) (ci := 5) (Cn := RX5) (T := TX5) (N := 18) C (kX5_thrown hl hLWb.2.2.1) ?_ rfl gL_law_X5_thrown rfl ⟨rfl, by decide, by decide, by decide +kernel⟩ rfl rfl (Nat.le_of_ble_eq_true rfl) rfl dL_law_1274 ⟨⟨by decide, by decide⟩, (by show _ ≤ 601024; dsimp only; omega), (by show _ ≤ 7293034; dsimp only; omega)⟩ (fun _ h => h.elim) ?_
    · exact ⟨_, by exact hLWb.2.2.1.1⟩
    rintro _ _ ⟨rfl, rfl⟩
    refine gd_iload C dL_law_1277 rfl ?_
    refine gd_icmp_eq (tgt := 1284) C dL_law_1279 (by decide) ?_ ?_ (fun hc1279 => ?_) (fun hc1279 => ?_)
    · omega
    · omega
    · refine gd_iload C dL_law_1284 rfl ?_
      refine gd_if_ne (tgt := 1301) C dL_law_1286 (by decide) ?_ (fun hc1286 => ?_) (fun hc1286 => ?_)
      · omega
      · exfalso; omega
      · refine gd_aload_n C dL_law_1289 rfl ?_
        refine gd_iconst C dL_law_1290 ?_
        refine gd_lald C dL_law_1291 hLWb.2.2.2.2.1 hval ?_
        refine gd_iload C dL_law_1292 rfl ?_
        refine gd_i2l C dL_law_1294 ?_
        refine gd_lcmpE C dL_law_1295 ?_
        refine gd_if_eq (tgt := 1301) C dL_law_1296 (by decide) ?_ (fun hc1296 => ?_) (fun hc1296 => ?_)
        · omega
        · refine gd_goto (tgt := 1373) C dL_law_1301 (by decide) ?_
          refine Gd.widen (k := cells + 10) (n := slots + 60) (by dsimp only; omega) (by dsimp only; omega) (Gd.sub (by repeat (first | exact Lsb.nil | exact Lsb.rf _ | refine Lsb.keep ?_ | refine Lsb.drop ?_)) (kk _ ⟨g, t, ar, d, ac, ab, la, na, fa, A, _, _, _, _, _, _, _, _, _, _, _, F9, G9, _, _, hLWb, hINV9⟩))
        · exfalso; omega
    · exfalso; omega
  · have hx1 : ¬ (0 ≤ q1 ∧ q1 ≤ 999) := hx.2
    clear hx
    have hLWa := hLW
    refine gd_istore C dL_law_1259 (Nat.le_of_ble_eq_true rfl) ?_
    refine gd_aload_n C dL_law_1261 rfl ?_
    refine gd_aload_n C dL_law_1262 rfl ?_
    refine gd_iload C dL_law_1263 rfl ?_
    refine gd_iconst C dL_law_1265 ?_
    refine gd_iadd C dL_law_1266 ?_
    refine gd_sld C hX hbl hzb (by omega) hL8 dL_law_1267 hq1 ?_
    refine gd_callV (n := 1) (ci := 5) (Cn := RX5) (T := TX5) (N := 18) C (kX5_fileOf hl hLWa.2.2.1 hRN hDR (by omega) hlo0 hco0 hR hI hF9 hq1R) ?_ rfl gL_law_X5_fileOf rfl ⟨rfl, by decide, by decide, by decide +kernel⟩ rfl rfl (Nat.le_of_ble_eq_true rfl) rfl dL_law_1268 ⟨⟨by decide, by decide⟩, (by show _ ≤ 601024; dsimp only; omega), (by show _ ≤ 7293034; dsimp only; omega)⟩ (fun _ h => h.elim) ?_
    · exact ⟨_, by exact hLWa.2.2.1.1⟩
    rintro r3 w3 hm
    obtain ⟨-, rfl, F9, G9, hV, hR9, hN9, h79, h149, h179⟩ := hm.resolve_left (fun h => hx1 h.1)
    have hLWb := hLWa.mod hV
    have hINV9 := hINV.same hR9 hN9 h79 h149
    clear hm
    refine gd_istore C dL_law_1271 (Nat.le_of_ble_eq_true rfl) ?_
    refine gd_aload_n C dL_law_1273 rfl ?_
    refine gd_callV (n := 0) (ci := 5) (Cn := RX5) (T := TX5) (N := 18) C (kX5_thrown hl hLWb.2.2.1) ?_ rfl gL_law_X5_thrown rfl ⟨rfl, by decide, by decide, by decide +kernel⟩ rfl rfl (Nat.le_of_ble_eq_true rfl) rfl dL_law_1274 ⟨⟨by decide, by decide⟩, (by show _ ≤ 601024; dsimp only; omega), (by show _ ≤ 7293034; dsimp only; omega)⟩ (fun _ h => h.elim) ?_
    · exact ⟨_, by exact hLWb.2.2.1.1⟩
    rintro _ _ ⟨rfl, rfl⟩
    refine gd_iload C dL_law_1277 rfl ?_
    refine gd_icmp_eq (tgt := 1284) C dL_law_1279 (by decide) ?_ ?_ (fun hc1279 => ?_) (fun hc1279 => ?_)
    · omega
    · omega
    · refine gd_iload C dL_law_1284 rfl ?_
      refine gd_if_ne (tgt := 1301) C dL_law_1286 (by decide) ?_ (fun hc1286 => ?_) (fun hc1286 => ?_)
      · omega
      · refine gd_goto (tgt := 1373) C dL_law_1301 (by decide) ?_
        refine Gd.widen (k := cells + 10) (n := slots + 60) (by dsimp only; omega) (by dsimp only; omega) (Gd.sub (by repeat (first | exact Lsb.nil | exact Lsb.rf _ | refine Lsb.keep ?_ | refine Lsb.drop ?_)) (kk _ ⟨g, t, ar, d, ac, ab, la, na, fa, A, _, _, _, _, _, _, _, _, _, _, _, F9, G9, _, _, hLWb, hINV9⟩))
      · exfalso; omega
    · exfalso; omega

set_option maxRecDepth 100000 in
set_option maxHeartbeats 4000000 in
theorem cs_looks {p : Program} {l : Launch} {e : Env} {s : State} {m : MethodId} {args : Array Value} {below : List Frame} {meth : Method} {c : Code} {D : va_G} {ky : Nat → ClassId} {z : Nat} {Q : State → Prop} {cells slots : Nat} {w : WT} (hl : l.stackTraces = false) (C : Cx p l s m args meth c D ky z cL_law 8 wsL_law RL) (hNC : NC3 s) {b0 L : Nat} {xs : Nat → Int32} (hX : va_X b0 L xs s s.heap) (hbl : b0 < s.heap.size) (hzb : ¬ z ≤ b0) (hL8 : L ≤ 2048) {b o ao ad : Nat} {k i : Int} (hLI : LI w ky b o ao ad k) (hk : 0 ≤ k ∧ k ≤ 511) (hi : 0 ≤ i ∧ i + 3 < L) (hcs : cells + 30 ≤ 601024 ∧ slots + 200 ≤ 7293034)
    (kk : ∀ w', LI w' ky b o ao ad (k + 1) → Gd p l e room_1 s m args below meth c D z Q (cells + 10) (slots + 60) w' 1373 [some (.ref b0), some (.ref b), some (.ref o), some (.ref ao), some (.ref ad), some (.int (iI i)), none, none] []) : Gd p l e room_1 s m args below meth c D z Q cells slots w 1317 [some (.ref b0), some (.ref b), some (.ref o), some (.ref ao), some (.ref ad), some (.int (iI i)), none, none] [] := by
  obtain ⟨g, t, ar, d, ac, ab, la, na, fa, A, T, v, B, sc, dn, n, lo, co, ct, nm, fl, F, G, fo, fd, hLW, hINV⟩ := hLI
  obtain ⟨hW, hD, hM, hA0, hao, had⟩ := id hLW
  obtain ⟨hFS, hRL, hR, hNI, hPT, hRN, hF9⟩ := id hINV
  obtain ⟨hI, hOW, hL0, hsc, hds, h3c, hc0⟩ := id hFS
  obtain ⟨hi1, hi2, hi3, hi4⟩ := id hI
  have hDR := hNI.1
  have hn9 := PT_nn (ct := ct) hDR.1.1
  have hn3 : n < 300 := by omega
  have hlo0 := hNI.2.1
  have hco0 := hNI.2.2.1
  clear hn9
  obtain ⟨q1, hq1⟩ : ∃ q, scS xs (i + 1) = q := ⟨_, rfl⟩
  have hq1R : InR q1 := hq1 ▸ scS_R xs (i + 1)
  obtain ⟨q2, hq2⟩ : ∃ q, scS xs (i + 2) = q := ⟨_, rfl⟩
  have hq2R : InR q2 := hq2 ▸ scS_R xs (i + 2)
  obtain ⟨q3, hq3⟩ : ∃ q, scS xs (i + 3) = q := ⟨_, rfl⟩
  have hq3R : InR q3 := hq3 ▸ scS_R xs (i + 3)
  refine gd_aload_n C dL_law_1317 rfl ?_
  refine gd_aload_n C dL_law_1318 rfl ?_
  refine gd_iload C dL_law_1319 rfl ?_
  refine gd_iconst C dL_law_1321 ?_
  refine gd_iadd C dL_law_1322 ?_
  refine gd_sld C hX hbl hzb (by omega) hL8 dL_law_1323 hq1 ?_
  refine gd_aload_n C dL_law_1324 rfl ?_
  refine gd_callSW (n := 3) C hNC (kL_looks hl (kX4_looks hl hW hI hD hDR hq1R) ⟨_, hW.1⟩ (ao := ao) (f := fo) ?_ (fun E h => h.1)) gL_law_L_looks rfl ⟨by decide, by decide, by decide +kernel⟩ rfl rfl (Nat.le_of_ble_eq_true rfl) rfl dL_law_1325 ⟨⟨by decide, by decide⟩, (by show _ ≤ 601024; dsimp only; omega), (by show _ ≤ 7293034; dsimp only; omega)⟩ ?_
  · rintro r w1 ⟨rfl, rfl, -⟩
    exact ⟨⟨_, rfl⟩, hao⟩
  intro r w1 hw1
  rcases hw1 with ⟨rfl, hok⟩ | ⟨rfl, rfl, hx⟩
  · obtain ⟨x1, w2, f', hP0, hf', rfl⟩ := hok
    obtain ⟨rfl, hv, hc⟩ := hP0
    have hLWa := hLW.out f'
  
    refine gd_istore C dL_law_1328 (Nat.le_of_ble_eq_true rfl) ?_
    refine gd_aload_n C dL_law_1330 rfl ?_
    refine gd_aload_n C dL_law_1331 rfl ?_
    refine gd_iload C dL_law_1332 rfl ?_
    refine gd_iconst C dL_law_1334 ?_
    refine gd_iadd C dL_law_1335 ?_
    refine gd_sld C hX hbl hzb (by omega) hL8 dL_law_1336 hq1 ?_
    refine gd_callV (n := 1) (ci := 5) (Cn := RX5) (T := TX5) (N := 18) C (kX5_looks hl hLWa.2.2.1 hRN hDR (by omega) hlo0 hco0 hR hI hq1R) ?_ rfl gL_law_X5_looks rfl ⟨rfl, by decide, by decide, by decide +kernel⟩ rfl rfl (Nat.le_of_ble_eq_true rfl) rfl dL_law_1337 ⟨⟨by decide, by decide⟩, (by show _ ≤ 601024; dsimp only; omega), (by show _ ≤ 7293034; dsimp only; omega)⟩ (fun _ h => h.elim) ?_
    · exact ⟨_, by exact hLWa.2.2.1.1⟩
    rintro r3 w3 hm
    obtain ⟨-, rfl, F9, G9, hV, hR9, hN9, h79, h149, h179⟩ := hm.resolve_right (fun h => h.1 hc)
    have hLWb := hLWa.mod hV
    have hINV9 := hINV.same hR9 hN9 h79 h149
    clear hm
    have hval : f' 0 = (iI (lLk n lo co ct nm q1 - fLk n lo co q1 + 1)).toInt64 := by rw [hf', Value.int.inj (Option.some.inj hv)]
    refine gd_istore C dL_law_1340 (Nat.le_of_ble_eq_true rfl) ?_
    refine gd_aload_n C dL_law_1342 rfl ?_
    refine gd_callV (n := 0) (ci := 5) (Cn := RX5) (T := TX5) (N := 18) C (kX5_thrown hl hLWb.2.2.1) ?_ rfl gL_law_X5_thrown rfl ⟨rfl, by decide, by decide, by decide +kernel⟩ rfl rfl (Nat.le_of_ble_eq_true rfl) rfl dL_law_1343 ⟨⟨by decide, by decide⟩, (by show _ ≤ 601024; dsimp only; omega), (by show _ ≤ 7293034; dsimp only; omega)⟩ (fun _ h => h.elim) ?_
    · exact ⟨_, by exact hLWb.2.2.1.1⟩
    rintro _ _ ⟨rfl, rfl⟩
    refine gd_iload C dL_law_1346 rfl ?_
    refine gd_icmp_eq (tgt := 1353) C dL_law_1348 (by decide) ?_ ?_ (fun hc1348 => ?_) (fun hc1348 => ?_)
    · omega
    · omega
    · refine gd_iload C dL_law_1353 rfl ?_
      refine gd_if_ne (tgt := 1370) C dL_law_1355 (by decide) ?_ (fun hc1355 => ?_) (fun hc1355 => ?_)
      · omega
      · exfalso; omega
      · refine gd_aload_n C dL_law_1358 rfl ?_
        refine gd_iconst C dL_law_1359 ?_
        refine gd_lald C dL_law_1360 hLWb.2.2.2.2.1 hval ?_
        refine gd_iload C dL_law_1361 rfl ?_
        refine gd_i2l C dL_law_1363 ?_
        refine gd_lcmpE C dL_law_1364 ?_
        refine gd_if_eq (tgt := 1370) C dL_law_1365 (by decide) ?_ (fun hc1365 => ?_) (fun hc1365 => ?_)
        · omega
        · refine gd_goto (tgt := 1373) C dL_law_1370 (by decide) ?_
          refine Gd.widen (k := cells + 10) (n := slots + 60) (by dsimp only; omega) (by dsimp only; omega) (Gd.sub (by repeat (first | exact Lsb.nil | exact Lsb.rf _ | refine Lsb.keep ?_ | refine Lsb.drop ?_)) (kk _ ⟨g, t, ar, d, ac, ab, la, na, fa, A, _, _, _, _, _, _, _, _, _, _, _, F9, G9, _, _, hLWb, hINV9⟩))
        · exfalso; omega
    · exfalso; omega
  · have hx1 : ¬ (0 ≤ q1 ∧ q1 ≤ 999) := hx.2
    clear hx
    have hLWa := hLW
    refine gd_istore C dL_law_1328 (Nat.le_of_ble_eq_true rfl) ?_
    refine gd_aload_n C dL_law_1330 rfl ?_
    refine gd_aload_n C dL_law_1331 rfl ?_
    refine gd_iload C dL_law_1332 rfl ?_
    refine gd_iconst C dL_law_1334 ?_
    refine gd_iadd C dL_law_1335 ?_
    refine gd_sld C hX hbl hzb (by omega) hL8 dL_law_1336 hq1 ?_
    refine gd_callV (n := 1) (ci := 5) (Cn := RX5) (T := TX5) (N := 18) C (kX5_looks hl hLWa.2.2.1 hRN hDR (by omega) hlo0 hco0 hR hI hq1R) ?_ rfl gL_law_X5_looks rfl ⟨rfl, by decide, by decide, by decide +kernel⟩ rfl rfl (Nat.le_of_ble_eq_true rfl) rfl dL_law_1337 ⟨⟨by decide, by decide⟩, (by show _ ≤ 601024; dsimp only; omega), (by show _ ≤ 7293034; dsimp only; omega)⟩ (fun _ h => h.elim) ?_
    · exact ⟨_, by exact hLWa.2.2.1.1⟩
    rintro r3 w3 hm
    obtain ⟨-, rfl, F9, G9, hV, hR9, hN9, h79, h149, h179⟩ := hm.resolve_left (fun h => hx1 h.1)
    have hLWb := hLWa.mod hV
    have hINV9 := hINV.same hR9 hN9 h79 h149
    clear hm
    refine gd_istore C dL_law_1340 (Nat.le_of_ble_eq_true rfl) ?_
    refine gd_aload_n C dL_law_1342 rfl ?_
    refine gd_callV (n := 0) (ci := 5) (Cn := RX5) (T := TX5) (N := 18) C (kX5_thrown hl hLWb.2.2.1) ?_ rfl gL_law_X5_thrown rfl ⟨rfl, by decide, by decide, by decide +kernel⟩ rfl rfl (Nat.le_of_ble_eq_true rfl) rfl dL_law_1343 ⟨⟨by decide, by decide⟩, (by show _ ≤ 601024; dsimp only; omega), (by show _ ≤ 7293034; dsimp only; omega)⟩ (fun _ h => h.elim) ?_
    · exact ⟨_, by exact hLWb.2.2.1.1⟩
    rintro _ _ ⟨rfl, rfl⟩
    refine gd_iload C dL_law_1346 rfl ?_
    refine gd_icmp_eq (tgt := 1353) C dL_law_1348 (by decide) ?_ ?_ (fun hc1348 => ?_) (fun hc1348 => ?_)
    · omega
    · omega
    · refine gd_iload C dL_law_1353 rfl ?_
      refine gd_if_ne (tgt := 1370) C dL_law_1355 (by decide) ?_ (fun hc1355 => ?_) (fun hc1355 => ?_)
      · omega
      · refine gd_goto (tgt := 1373) C dL_law_1370 (by decide) ?_
        refine Gd.widen (k := cells + 10) (n := slots + 60) (by dsimp only; omega) (by dsimp only; omega) (Gd.sub (by repeat (first | exact Lsb.nil | exact Lsb.rf _ | refine Lsb.keep ?_ | refine Lsb.drop ?_)) (kk _ ⟨g, t, ar, d, ac, ab, la, na, fa, A, _, _, _, _, _, _, _, _, _, _, _, F9, G9, _, _, hLWb, hINV9⟩))
      · exfalso; omega
    · exfalso; omega

set_option maxRecDepth 100000 in
set_option maxHeartbeats 4000000 in
theorem cs_pieces {p : Program} {l : Launch} {e : Env} {s : State} {m : MethodId} {args : Array Value} {below : List Frame} {meth : Method} {c : Code} {D : va_G} {ky : Nat → ClassId} {z : Nat} {Q : State → Prop} {cells slots : Nat} {w : WT} (hl : l.stackTraces = false) (C : Cx p l s m args meth c D ky z cL_law 8 wsL_law RL) (hNC : NC3 s) {b0 L : Nat} {xs : Nat → Int32} (hX : va_X b0 L xs s s.heap) (hbl : b0 < s.heap.size) (hzb : ¬ z ≤ b0) (hL8 : L ≤ 2048) {b o ao ad : Nat} {k i : Int} (hLI : LI w ky b o ao ad k) (hk : 0 ≤ k ∧ k ≤ 511) (hi : 0 ≤ i ∧ i + 3 < L) (hcs : cells + 30 ≤ 601024 ∧ slots + 200 ≤ 7293034)
    (kk : ∀ w', LI w' ky b o ao ad (k + 1) → Gd p l e room_1 s m args below meth c D z Q (cells + 10) (slots + 60) w' 1373 [some (.ref b0), some (.ref b), some (.ref o), some (.ref ao), some (.ref ad), some (.int (iI i)), none, none] []) : Gd p l e room_1 s m args below meth c D z Q cells slots w 847 [some (.ref b0), some (.ref b), some (.ref o), some (.ref ao), some (.ref ad), some (.int (iI i)), none, none] [] := by
  obtain ⟨g, t, ar, d, ac, ab, la, na, fa, A, T, v, B, sc, dn, n, lo, co, ct, nm, fl, F, G, fo, fd, hLW, hINV⟩ := hLI
  obtain ⟨hW, hD, hM, hA0, hao, had⟩ := id hLW
  obtain ⟨hFS, hRL, hR, hNI, hPT, hRN, hF9⟩ := id hINV
  obtain ⟨hI, hOW, hL0, hsc, hds, h3c, hc0⟩ := id hFS
  obtain ⟨hi1, hi2, hi3, hi4⟩ := id hI
  have hDR := hNI.1
  have hn9 := PT_nn (ct := ct) hDR.1.1
  have hn3 : n < 300 := by omega
  have hlo0 := hNI.2.1
  have hco0 := hNI.2.2.1
  clear hn9
  obtain ⟨q1, hq1⟩ : ∃ q, scS xs (i + 1) = q := ⟨_, rfl⟩
  have hq1R : InR q1 := hq1 ▸ scS_R xs (i + 1)
  obtain ⟨q2, hq2⟩ : ∃ q, scS xs (i + 2) = q := ⟨_, rfl⟩
  have hq2R : InR q2 := hq2 ▸ scS_R xs (i + 2)
  obtain ⟨q3, hq3⟩ : ∃ q, scS xs (i + 3) = q := ⟨_, rfl⟩
  have hq3R : InR q3 := hq3 ▸ scS_R xs (i + 3)
  refine gd_aload_n C dL_law_847 rfl ?_
  refine gd_aload_n C dL_law_848 rfl ?_
  refine gd_iload C dL_law_849 rfl ?_
  refine gd_iconst C dL_law_851 ?_
  refine gd_iadd C dL_law_852 ?_
  refine gd_sld C hX hbl hzb (by omega) hL8 dL_law_853 hq1 ?_
  refine gd_aload_n C dL_law_854 rfl ?_
  refine gd_iload C dL_law_855 rfl ?_
  refine gd_iconst C dL_law_857 ?_
  refine gd_iadd C dL_law_858 ?_
  refine gd_sld C hX hbl hzb (by omega) hL8 dL_law_859 hq2 ?_
  refine gd_aload_n C dL_law_860 rfl ?_
  refine gd_callSW (n := 4) C hNC (kL_pieces hl (kX4_pieces hl hW hI ⟨hq1R, hq2R⟩) ⟨_, hW.1⟩ (ao := ao) (f := fo) ?_ (fun E h => h.imp And.left And.left)) gL_law_L_pieces rfl ⟨by decide, by decide, by decide +kernel⟩ rfl rfl (Nat.le_of_ble_eq_true rfl) rfl dL_law_861 ⟨⟨by decide, by decide⟩, (by show _ ≤ 601024; dsimp only; omega), (by show _ ≤ 7293034; dsimp only; omega)⟩ ?_
  · rintro r w1 ⟨rfl, rfl, -⟩
    exact ⟨⟨_, rfl⟩, hao⟩
  intro r w1 hw1
  rcases hw1 with ⟨rfl, hok⟩ | ⟨rfl, ⟨rfl, hx⟩ | ⟨rfl, hx⟩⟩
  · obtain ⟨x1, w2, f', hP0, hf', rfl⟩ := hok
    obtain ⟨rfl, hv, hc1, hc2⟩ := hP0
    have hLWa := hLW.out f'
  
    refine gd_istore C dL_law_864 (Nat.le_of_ble_eq_true rfl) ?_
    refine gd_aload_n C dL_law_866 rfl ?_
    refine gd_aload_n C dL_law_867 rfl ?_
    refine gd_iload C dL_law_868 rfl ?_
    refine gd_iconst C dL_law_870 ?_
    refine gd_iadd C dL_law_871 ?_
    refine gd_sld C hX hbl hzb (by omega) hL8 dL_law_872 hq1 ?_
    refine gd_aload_n C dL_law_873 rfl ?_
    refine gd_iload C dL_law_874 rfl ?_
    refine gd_iconst C dL_law_876 ?_
    refine gd_iadd C dL_law_877 ?_
    refine gd_sld C hX hbl hzb (by omega) hL8 dL_law_878 hq2 ?_
    refine gd_callV (n := 2) (ci := 5) (Cn := RX5) (T := TX5) (N := 18) C (kX5_pieces hl hLWa.2.2.1 hR hI hq1R hq2R) ?_ rfl gL_law_X5_pieces rfl ⟨rfl, by decide, by decide, by decide +kernel⟩ rfl rfl (Nat.le_of_ble_eq_true rfl) rfl dL_law_879 ⟨⟨by decide, by decide⟩, (by show _ ≤ 601024; dsimp only; omega), (by show _ ≤ 7293034; dsimp only; omega)⟩ (fun _ h => h.elim) ?_
    · exact ⟨_, by exact hLWa.2.2.1.1⟩
    rintro r3 w3 hm
    obtain ⟨-, -, rfl, F9, G9, hV, hR9, hN9, h79, h149, h179⟩ := hm.resolve_right (fun ⟨t7, ht7, _⟩ => by omega)
    have hLWb := hLWa.mod hV
    have hINV9 := hINV.same hR9 hN9 h79 h149
    clear hm
    have hval : f' 0 = (iI (sI (fun y => pI (aP T (p2 q2) y)) (32 * q1) (32 * q1 + 32))).toInt64 := by rw [hf', Value.int.inj (Option.some.inj hv)]
    refine gd_istore C dL_law_882 (Nat.le_of_ble_eq_true rfl) ?_
    refine gd_aload_n C dL_law_884 rfl ?_
    refine gd_callV (n := 0) (ci := 5) (Cn := RX5) (T := TX5) (N := 18) C (kX5_thrown hl hLWb.2.2.1) ?_ rfl gL_law_X5_thrown rfl ⟨rfl, by decide, by decide, by decide +kernel⟩ rfl rfl (Nat.le_of_ble_eq_true rfl) rfl dL_law_885 ⟨⟨by decide, by decide⟩, (by show _ ≤ 601024; dsimp only; omega), (by show _ ≤ 7293034; dsimp only; omega)⟩ (fun _ h => h.elim) ?_
    · exact ⟨_, by exact hLWb.2.2.1.1⟩
    rintro _ _ ⟨rfl, rfl⟩
    refine gd_iload C dL_law_888 rfl ?_
    refine gd_icmp_eq (tgt := 895) C dL_law_890 (by decide) ?_ ?_ (fun hc890 => ?_) (fun hc890 => ?_)
    · omega
    · omega
    · refine gd_iload C dL_law_895 rfl ?_
      refine gd_if_ne (tgt := 912) C dL_law_897 (by decide) ?_ (fun hc897 => ?_) (fun hc897 => ?_)
      · omega
      · exfalso; omega
      · refine gd_aload_n C dL_law_900 rfl ?_
        refine gd_iconst C dL_law_901 ?_
        refine gd_lald C dL_law_902 hLWb.2.2.2.2.1 hval ?_
        refine gd_iload C dL_law_903 rfl ?_
        refine gd_i2l C dL_law_905 ?_
        refine gd_lcmpE C dL_law_906 ?_
        refine gd_if_eq (tgt := 912) C dL_law_907 (by decide) ?_ (fun hc907 => ?_) (fun hc907 => ?_)
        · omega
        · refine gd_goto (tgt := 1373) C dL_law_912 (by decide) ?_
          refine Gd.widen (k := cells + 10) (n := slots + 60) (by dsimp only; omega) (by dsimp only; omega) (Gd.sub (by repeat (first | exact Lsb.nil | exact Lsb.rf _ | refine Lsb.keep ?_ | refine Lsb.drop ?_)) (kk _ ⟨g, t, ar, d, ac, ab, la, na, fa, A, _, _, _, _, _, _, _, _, _, _, _, F9, G9, _, _, hLWb, hINV9⟩))
        · exfalso; omega
    · exfalso; omega
  · have hx1 : ¬ (0 ≤ q1 ∧ q1 ≤ 3) := by
      rcases hx with ⟨h8, h9⟩ | ⟨h8, h9⟩
      · exact h9
      · exact absurd h8 (by decide)
    clear hx
    have hLWa := hLW
    refine gd_istore C dL_law_864 (Nat.le_of_ble_eq_true rfl) ?_
    refine gd_aload_n C dL_law_866 rfl ?_
    refine gd_aload_n C dL_law_867 rfl ?_
    refine gd_iload C dL_law_868 rfl ?_
    refine gd_iconst C dL_law_870 ?_
    refine gd_iadd C dL_law_871 ?_
    refine gd_sld C hX hbl hzb (by omega) hL8 dL_law_872 hq1 ?_
    refine gd_aload_n C dL_law_873 rfl ?_
    refine gd_iload C dL_law_874 rfl ?_
    refine gd_iconst C dL_law_876 ?_
    refine gd_iadd C dL_law_877 ?_
    refine gd_sld C hX hbl hzb (by omega) hL8 dL_law_878 hq2 ?_
    refine gd_callV (n := 2) (ci := 5) (Cn := RX5) (T := TX5) (N := 18) C (kX5_pieces hl hLWa.2.2.1 hR hI hq1R hq2R) ?_ rfl gL_law_X5_pieces rfl ⟨rfl, by decide, by decide, by decide +kernel⟩ rfl rfl (Nat.le_of_ble_eq_true rfl) rfl dL_law_879 ⟨⟨by decide, by decide⟩, (by show _ ≤ 601024; dsimp only; omega), (by show _ ≤ 7293034; dsimp only; omega)⟩ (fun _ h => h.elim) ?_
    · exact ⟨_, by exact hLWa.2.2.1.1⟩
    rintro r3 w3 hm
    obtain ⟨t7, ht7, rfl, F9, G9, hV, hR9, hN9, h79, h149, h179⟩ := hm.resolve_left (fun h => by have h1 := h.1; have h2 := h.2.1; omega)
    have hLWb := hLWa.mod hV
    have hINV9 := hINV.same hR9 hN9 h79 h149
    clear hm
    have ht : t7 = 1 := by omega
    subst ht
    refine gd_istore C dL_law_882 (Nat.le_of_ble_eq_true rfl) ?_
    refine gd_aload_n C dL_law_884 rfl ?_
    refine gd_callV (n := 0) (ci := 5) (Cn := RX5) (T := TX5) (N := 18) C (kX5_thrown hl hLWb.2.2.1) ?_ rfl gL_law_X5_thrown rfl ⟨rfl, by decide, by decide, by decide +kernel⟩ rfl rfl (Nat.le_of_ble_eq_true rfl) rfl dL_law_885 ⟨⟨by decide, by decide⟩, (by show _ ≤ 601024; dsimp only; omega), (by show _ ≤ 7293034; dsimp only; omega)⟩ (fun _ h => h.elim) ?_
    · exact ⟨_, by exact hLWb.2.2.1.1⟩
    rintro _ _ ⟨rfl, rfl⟩
    refine gd_iload C dL_law_888 rfl ?_
    refine gd_icmp_eq (tgt := 895) C dL_law_890 (by decide) ?_ ?_ (fun hc890 => ?_) (fun hc890 => ?_)
    · omega
    · omega
    · refine gd_iload C dL_law_895 rfl ?_
      refine gd_if_ne (tgt := 912) C dL_law_897 (by decide) ?_ (fun hc897 => ?_) (fun hc897 => ?_)
      · omega
      · refine gd_goto (tgt := 1373) C dL_law_912 (by decide) ?_
        refine Gd.widen (k := cells + 10) (n := slots + 60) (by dsimp only; omega) (by dsimp only; omega) (Gd.sub (by repeat (first | exact Lsb.nil | exact Lsb.rf _ | refine Lsb.keep ?_ | refine Lsb.drop ?_)) (kk _ ⟨g, t, ar, d, ac, ab, la, na, fa, A, _, _, _, _, _, _, _, _, _, _, _, F9, G9, _, _, hLWb, hINV9⟩))
      · exfalso; omega
    · exfalso; omega
  · have hx1 : (0 ≤ q1 ∧ q1 ≤ 3) ∧ ¬ (0 ≤ q2 ∧ q2 ≤ 5) := by
      rcases hx with ⟨h8, h9⟩ | ⟨h8, h9⟩
      · exact absurd h8 (by decide)
      · exact h9
    clear hx
    have hLWa := hLW
    refine gd_istore C dL_law_864 (Nat.le_of_ble_eq_true rfl) ?_
    refine gd_aload_n C dL_law_866 rfl ?_
    refine gd_aload_n C dL_law_867 rfl ?_
    refine gd_iload C dL_law_868 rfl ?_
    refine gd_iconst C dL_law_870 ?_
    refine gd_iadd C dL_law_871 ?_
    refine gd_sld C hX hbl hzb (by omega) hL8 dL_law_872 hq1 ?_
    refine gd_aload_n C dL_law_873 rfl ?_
    refine gd_iload C dL_law_874 rfl ?_
    refine gd_iconst C dL_law_876 ?_
    refine gd_iadd C dL_law_877 ?_
    refine gd_sld C hX hbl hzb (by omega) hL8 dL_law_878 hq2 ?_
    refine gd_callV (n := 2) (ci := 5) (Cn := RX5) (T := TX5) (N := 18) C (kX5_pieces hl hLWa.2.2.1 hR hI hq1R hq2R) ?_ rfl gL_law_X5_pieces rfl ⟨rfl, by decide, by decide, by decide +kernel⟩ rfl rfl (Nat.le_of_ble_eq_true rfl) rfl dL_law_879 ⟨⟨by decide, by decide⟩, (by show _ ≤ 601024; dsimp only; omega), (by show _ ≤ 7293034; dsimp only; omega)⟩ (fun _ h => h.elim) ?_
    · exact ⟨_, by exact hLWa.2.2.1.1⟩
    rintro r3 w3 hm
    obtain ⟨t7, ht7, rfl, F9, G9, hV, hR9, hN9, h79, h149, h179⟩ := hm.resolve_left (fun h => by have h1 := h.1; have h2 := h.2.1; omega)
    have hLWb := hLWa.mod hV
    have hINV9 := hINV.same hR9 hN9 h79 h149
    clear hm
    have ht : t7 = 2 := by omega
    subst ht
    refine gd_istore C dL_law_882 (Nat.le_of_ble_eq_true rfl) ?_
    refine gd_aload_n C dL_law_884 rfl ?_
    refine gd_callV (n := 0) (ci := 5) (Cn := RX5) (T := TX5) (N := 18) C (kX5_thrown hl hLWb.2.2.1) ?_ rfl gL_law_X5_thrown rfl ⟨rfl, by decide, by decide, by decide +kernel⟩ rfl rfl (Nat.le_of_ble_eq_true rfl) rfl dL_law_885 ⟨⟨by decide, by decide⟩, (by show _ ≤ 601024; dsimp only; omega), (by show _ ≤ 7293034; dsimp only; omega)⟩ (fun _ h => h.elim) ?_
    · exact ⟨_, by exact hLWb.2.2.1.1⟩
    rintro _ _ ⟨rfl, rfl⟩
    refine gd_iload C dL_law_888 rfl ?_
    refine gd_icmp_eq (tgt := 895) C dL_law_890 (by decide) ?_ ?_ (fun hc890 => ?_) (fun hc890 => ?_)
    · omega
    · omega
    · refine gd_iload C dL_law_895 rfl ?_
      refine gd_if_ne (tgt := 912) C dL_law_897 (by decide) ?_ (fun hc897 => ?_) (fun hc897 => ?_)
      · omega
      · refine gd_goto (tgt := 1373) C dL_law_912 (by decide) ?_
        refine Gd.widen (k := cells + 10) (n := slots + 60) (by dsimp only; omega) (by dsimp only; omega) (Gd.sub (by repeat (first | exact Lsb.nil | exact Lsb.rf _ | refine Lsb.keep ?_ | refine Lsb.drop ?_)) (kk _ ⟨g, t, ar, d, ac, ab, la, na, fa, A, _, _, _, _, _, _, _, _, _, _, _, F9, G9, _, _, hLWb, hINV9⟩))
      · exfalso; omega
    · exfalso; omega

set_option maxRecDepth 100000 in
set_option maxHeartbeats 4000000 in
theorem cs_blockAt {p : Program} {l : Launch} {e : Env} {s : State} {m : MethodId} {args : Array Value} {below : List Frame} {meth : Method} {c : Code} {D : va_G} {ky : Nat → ClassId} {z : Nat} {Q : State → Prop} {cells slots : Nat} {w : WT} (hl : l.stackTraces = false) (C : Cx p l s m args meth c D ky z cL_law 8 wsL_law RL) (hNC : NC3 s) {b0 L : Nat} {xs : Nat → Int32} (hX : va_X b0 L xs s s.heap) (hbl : b0 < s.heap.size) (hzb : ¬ z ≤ b0) (hL8 : L ≤ 2048) {b o ao ad : Nat} {k i : Int} (hLI : LI w ky b o ao ad k) (hk : 0 ≤ k ∧ k ≤ 511) (hi : 0 ≤ i ∧ i + 3 < L) (hcs : cells + 30 ≤ 601024 ∧ slots + 200 ≤ 7293034)
    (kk : ∀ w', LI w' ky b o ao ad (k + 1) → Gd p l e room_1 s m args below meth c D z Q (cells + 10) (slots + 60) w' 1373 [some (.ref b0), some (.ref b), some (.ref o), some (.ref ao), some (.ref ad), some (.int (iI i)), none, none] []) : Gd p l e room_1 s m args below meth c D z Q cells slots w 978 [some (.ref b0), some (.ref b), some (.ref o), some (.ref ao), some (.ref ad), some (.int (iI i)), none, none] [] := by
  obtain ⟨g, t, ar, d, ac, ab, la, na, fa, A, T, v, B, sc, dn, n, lo, co, ct, nm, fl, F, G, fo, fd, hLW, hINV⟩ := hLI
  obtain ⟨hW, hD, hM, hA0, hao, had⟩ := id hLW
  obtain ⟨hFS, hRL, hR, hNI, hPT, hRN, hF9⟩ := id hINV
  obtain ⟨hI, hOW, hL0, hsc, hds, h3c, hc0⟩ := id hFS
  obtain ⟨hi1, hi2, hi3, hi4⟩ := id hI
  have hDR := hNI.1
  have hn9 := PT_nn (ct := ct) hDR.1.1
  have hn3 : n < 300 := by omega
  have hlo0 := hNI.2.1
  have hco0 := hNI.2.2.1
  clear hn9
  obtain ⟨q1, hq1⟩ : ∃ q, scS xs (i + 1) = q := ⟨_, rfl⟩
  have hq1R : InR q1 := hq1 ▸ scS_R xs (i + 1)
  obtain ⟨q2, hq2⟩ : ∃ q, scS xs (i + 2) = q := ⟨_, rfl⟩
  have hq2R : InR q2 := hq2 ▸ scS_R xs (i + 2)
  obtain ⟨q3, hq3⟩ : ∃ q, scS xs (i + 3) = q := ⟨_, rfl⟩
  have hq3R : InR q3 := hq3 ▸ scS_R xs (i + 3)
  refine gd_aload_n C dL_law_978 rfl ?_
  refine gd_aload_n C dL_law_979 rfl ?_
  refine gd_iload C dL_law_980 rfl ?_
  refine gd_iconst C dL_law_982 ?_
  refine gd_iadd C dL_law_983 ?_
  refine gd_sld C hX hbl hzb (by omega) hL8 dL_law_984 hq1 ?_
  refine gd_aload_n C dL_law_985 rfl ?_
  refine gd_iload C dL_law_986 rfl ?_
  refine gd_iconst C dL_law_988 ?_
  refine gd_iadd C dL_law_989 ?_
  refine gd_sld C hX hbl hzb (by omega) hL8 dL_law_990 hq2 ?_
  refine gd_aload_n C dL_law_991 rfl ?_
  refine gd_callSW (n := 4) C hNC (kL_blockAt hl (kX4_blockAt hl hW hI ⟨hq1R, hq2R⟩) ⟨_, hW.1⟩ (ao := ao) (f := fo) ?_ (fun E h => h.imp And.left And.left)) gL_law_L_blockAt rfl ⟨by decide, by decide, by decide +kernel⟩ rfl rfl (Nat.le_of_ble_eq_true rfl) rfl dL_law_992 ⟨⟨by decide, by decide⟩, (by show _ ≤ 601024; dsimp only; omega), (by show _ ≤ 7293034; dsimp only; omega)⟩ ?_
  · rintro r w1 ⟨rfl, rfl, -⟩
    exact ⟨⟨_, rfl⟩, hao⟩
  intro r w1 hw1
  rcases hw1 with ⟨rfl, hok⟩ | ⟨rfl, ⟨rfl, hx⟩ | ⟨rfl, hx⟩⟩
  · obtain ⟨x1, w2, f', hP0, hf', rfl⟩ := hok
    obtain ⟨rfl, hv, hc1, hc2⟩ := hP0
    have hLWa := hLW.out f'
  
    refine gd_istore C dL_law_995 (Nat.le_of_ble_eq_true rfl) ?_
    refine gd_aload_n C dL_law_997 rfl ?_
    refine gd_aload_n C dL_law_998 rfl ?_
    refine gd_iload C dL_law_999 rfl ?_
    refine gd_iconst C dL_law_1001 ?_
    refine gd_iadd C dL_law_1002 ?_
    refine gd_sld C hX hbl hzb (by omega) hL8 dL_law_1003 hq1 ?_
    refine gd_aload_n C dL_law_1004 rfl ?_
    refine gd_iload C dL_law_1005 rfl ?_
    refine gd_iconst C dL_law_1007 ?_
    refine gd_iadd C dL_law_1008 ?_
    refine gd_sld C hX hbl hzb (by omega) hL8 dL_law_1009 hq2 ?_
    refine gd_callV (n := 2) (ci := 5) (Cn := RX5) (T := TX5) (N := 18) C (kX5_blockAt hl hLWa.2.2.1 hR hI hq1R hq2R) ?_ rfl gL_law_X5_blockAt rfl ⟨rfl, by decide, by decide, by decide +kernel⟩ rfl rfl (Nat.le_of_ble_eq_true rfl) rfl dL_law_1010 ⟨⟨by decide, by decide⟩, (by show _ ≤ 601024; dsimp only; omega), (by show _ ≤ 7293034; dsimp only; omega)⟩ (fun _ h => h.elim) ?_
    · exact ⟨_, by exact hLWa.2.2.1.1⟩
    rintro r3 w3 hm
    obtain ⟨-, -, rfl, F9, G9, hV, hR9, hN9, h79, h149, h179⟩ := hm.resolve_right (fun ⟨t7, ht7, _⟩ => by omega)
    have hLWb := hLWa.mod hV
    have hINV9 := hINV.same hR9 hN9 h79 h149
    clear hm
    have hval : f' 0 = (iI (B q1 q2)).toInt64 := by rw [hf', Value.int.inj (Option.some.inj hv)]
    refine gd_istore C dL_law_1013 (Nat.le_of_ble_eq_true rfl) ?_
    refine gd_aload_n C dL_law_1015 rfl ?_
    refine gd_callV (n := 0) (ci := 5) (Cn := RX5) (T := TX5) (N := 18) C (kX5_thrown hl hLWb.2.2.1) ?_ rfl gL_law_X5_thrown rfl ⟨rfl, by decide, by decide, by decide +kernel⟩ rfl rfl (Nat.le_of_ble_eq_true rfl) rfl dL_law_1016 ⟨⟨by decide, by decide⟩, (by show _ ≤ 601024; dsimp only; omega), (by show _ ≤ 7293034; dsimp only; omega)⟩ (fun _ h => h.elim) ?_
    · exact ⟨_, by exact hLWb.2.2.1.1⟩
    rintro _ _ ⟨rfl, rfl⟩
    refine gd_iload C dL_law_1019 rfl ?_
    refine gd_icmp_eq (tgt := 1026) C dL_law_1021 (by decide) ?_ ?_ (fun hc1021 => ?_) (fun hc1021 => ?_)
    · omega
    · omega
    · refine gd_iload C dL_law_1026 rfl ?_
      refine gd_if_ne (tgt := 1043) C dL_law_1028 (by decide) ?_ (fun hc1028 => ?_) (fun hc1028 => ?_)
      · omega
      · exfalso; omega
      · refine gd_aload_n C dL_law_1031 rfl ?_
        refine gd_iconst C dL_law_1032 ?_
        refine gd_lald C dL_law_1033 hLWb.2.2.2.2.1 hval ?_
        refine gd_iload C dL_law_1034 rfl ?_
        refine gd_i2l C dL_law_1036 ?_
        refine gd_lcmpE C dL_law_1037 ?_
        refine gd_if_eq (tgt := 1043) C dL_law_1038 (by decide) ?_ (fun hc1038 => ?_) (fun hc1038 => ?_)
        · omega
        · refine gd_goto (tgt := 1373) C dL_law_1043 (by decide) ?_
          refine Gd.widen (k := cells + 10) (n := slots + 60) (by dsimp only; omega) (by dsimp only; omega) (Gd.sub (by repeat (first | exact Lsb.nil | exact Lsb.rf _ | refine Lsb.keep ?_ | refine Lsb.drop ?_)) (kk _ ⟨g, t, ar, d, ac, ab, la, na, fa, A, _, _, _, _, _, _, _, _, _, _, _, F9, G9, _, _, hLWb, hINV9⟩))
        · exfalso; omega
    · exfalso; omega
  · have hx1 : ¬ (0 ≤ q1 ∧ q1 < 16 ∧ v q1 2 = 1) := by
      rcases hx with ⟨h8, h9⟩ | ⟨h8, h9⟩
      · exact h9
      · exact absurd h8 (by decide)
    clear hx
    have hLWa := hLW
    refine gd_istore C dL_law_995 (Nat.le_of_ble_eq_true rfl) ?_
    refine gd_aload_n C dL_law_997 rfl ?_
    refine gd_aload_n C dL_law_998 rfl ?_
    refine gd_iload C dL_law_999 rfl ?_
    refine gd_iconst C dL_law_1001 ?_
    refine gd_iadd C dL_law_1002 ?_
    refine gd_sld C hX hbl hzb (by omega) hL8 dL_law_1003 hq1 ?_
    refine gd_aload_n C dL_law_1004 rfl ?_
    refine gd_iload C dL_law_1005 rfl ?_
    refine gd_iconst C dL_law_1007 ?_
    refine gd_iadd C dL_law_1008 ?_
    refine gd_sld C hX hbl hzb (by omega) hL8 dL_law_1009 hq2 ?_
    refine gd_callV (n := 2) (ci := 5) (Cn := RX5) (T := TX5) (N := 18) C (kX5_blockAt hl hLWa.2.2.1 hR hI hq1R hq2R) ?_ rfl gL_law_X5_blockAt rfl ⟨rfl, by decide, by decide, by decide +kernel⟩ rfl rfl (Nat.le_of_ble_eq_true rfl) rfl dL_law_1010 ⟨⟨by decide, by decide⟩, (by show _ ≤ 601024; dsimp only; omega), (by show _ ≤ 7293034; dsimp only; omega)⟩ (fun _ h => h.elim) ?_
    · exact ⟨_, by exact hLWa.2.2.1.1⟩
    rintro r3 w3 hm
    obtain ⟨t7, ht7, rfl, F9, G9, hV, hR9, hN9, h79, h149, h179⟩ := hm.resolve_left (fun h => by have h1 := h.1; have h2 := h.2.1; omega)
    have hLWb := hLWa.mod hV
    have hINV9 := hINV.same hR9 hN9 h79 h149
    clear hm
    have ht : t7 = 1 := by omega
    subst ht
    refine gd_istore C dL_law_1013 (Nat.le_of_ble_eq_true rfl) ?_
    refine gd_aload_n C dL_law_1015 rfl ?_
    refine gd_callV (n := 0) (ci := 5) (Cn := RX5) (T := TX5) (N := 18) C (kX5_thrown hl hLWb.2.2.1) ?_ rfl gL_law_X5_thrown rfl ⟨rfl, by decide, by decide, by decide +kernel⟩ rfl rfl (Nat.le_of_ble_eq_true rfl) rfl dL_law_1016 ⟨⟨by decide, by decide⟩, (by show _ ≤ 601024; dsimp only; omega), (by show _ ≤ 7293034; dsimp only; omega)⟩ (fun _ h => h.elim) ?_
    · exact ⟨_, by exact hLWb.2.2.1.1⟩
    rintro _ _ ⟨rfl, rfl⟩
    refine gd_iload C dL_law_1019 rfl ?_
    refine gd_icmp_eq (tgt := 1026) C dL_law_1021 (by decide) ?_ ?_ (fun hc1021 => ?_) (fun hc1021 => ?_)
    · omega
    · omega
    · refine gd_iload C dL_law_1026 rfl ?_
      refine gd_if_ne (tgt := 1043) C dL_law_1028 (by decide) ?_ (fun hc1028 => ?_) (fun hc1028 => ?_)
      · omega
      · refine gd_goto (tgt := 1373) C dL_law_1043 (by decide) ?_
        refine Gd.widen (k := cells + 10) (n := slots + 60) (by dsimp only; omega) (by dsimp only; omega) (Gd.sub (by repeat (first | exact Lsb.nil | exact Lsb.rf _ | refine Lsb.keep ?_ | refine Lsb.drop ?_)) (kk _ ⟨g, t, ar, d, ac, ab, la, na, fa, A, _, _, _, _, _, _, _, _, _, _, _, F9, G9, _, _, hLWb, hINV9⟩))
      · exfalso; omega
    · exfalso; omega
  · have hx1 : (0 ≤ q1 ∧ q1 < 16 ∧ v q1 2 = 1) ∧ ¬ (0 ≤ q2 ∧ q2 ≤ 63) := by
      rcases hx with ⟨h8, h9⟩ | ⟨h8, h9⟩
      · exact absurd h8 (by decide)
      · exact h9
    clear hx
    have hLWa := hLW
    refine gd_istore C dL_law_995 (Nat.le_of_ble_eq_true rfl) ?_
    refine gd_aload_n C dL_law_997 rfl ?_
    refine gd_aload_n C dL_law_998 rfl ?_
    refine gd_iload C dL_law_999 rfl ?_
    refine gd_iconst C dL_law_1001 ?_
    refine gd_iadd C dL_law_1002 ?_
    refine gd_sld C hX hbl hzb (by omega) hL8 dL_law_1003 hq1 ?_
    refine gd_aload_n C dL_law_1004 rfl ?_
    refine gd_iload C dL_law_1005 rfl ?_
    refine gd_iconst C dL_law_1007 ?_
    refine gd_iadd C dL_law_1008 ?_
    refine gd_sld C hX hbl hzb (by omega) hL8 dL_law_1009 hq2 ?_
    refine gd_callV (n := 2) (ci := 5) (Cn := RX5) (T := TX5) (N := 18) C (kX5_blockAt hl hLWa.2.2.1 hR hI hq1R hq2R) ?_ rfl gL_law_X5_blockAt rfl ⟨rfl, by decide, by decide, by decide +kernel⟩ rfl rfl (Nat.le_of_ble_eq_true rfl) rfl dL_law_1010 ⟨⟨by decide, by decide⟩, (by show _ ≤ 601024; dsimp only; omega), (by show _ ≤ 7293034; dsimp only; omega)⟩ (fun _ h => h.elim) ?_
    · exact ⟨_, by exact hLWa.2.2.1.1⟩
    rintro r3 w3 hm
    obtain ⟨t7, ht7, rfl, F9, G9, hV, hR9, hN9, h79, h149, h179⟩ := hm.resolve_left (fun h => by have h1 := h.1; have h2 := h.2.1; omega)
    have hLWb := hLWa.mod hV
    have hINV9 := hINV.same hR9 hN9 h79 h149
    clear hm
    have ht : t7 = 2 := by omega
    subst ht
    refine gd_istore C dL_law_1013 (Nat.le_of_ble_eq_true rfl) ?_
    refine gd_aload_n C dL_law_1015 rfl ?_
    refine gd_callV (n := 0) (ci := 5) (Cn := RX5) (T := TX5) (N := 18) C (kX5_thrown hl hLWb.2.2.1) ?_ rfl gL_law_X5_thrown rfl ⟨rfl, by decide, by decide, by decide +kernel⟩ rfl rfl (Nat.le_of_ble_eq_true rfl) rfl dL_law_1016 ⟨⟨by decide, by decide⟩, (by show _ ≤ 601024; dsimp only; omega), (by show _ ≤ 7293034; dsimp only; omega)⟩ (fun _ h => h.elim) ?_
    · exact ⟨_, by exact hLWb.2.2.1.1⟩
    rintro _ _ ⟨rfl, rfl⟩
    refine gd_iload C dL_law_1019 rfl ?_
    refine gd_icmp_eq (tgt := 1026) C dL_law_1021 (by decide) ?_ ?_ (fun hc1021 => ?_) (fun hc1021 => ?_)
    · omega
    · omega
    · refine gd_iload C dL_law_1026 rfl ?_
      refine gd_if_ne (tgt := 1043) C dL_law_1028 (by decide) ?_ (fun hc1028 => ?_) (fun hc1028 => ?_)
      · omega
      · refine gd_goto (tgt := 1373) C dL_law_1043 (by decide) ?_
        refine Gd.widen (k := cells + 10) (n := slots + 60) (by dsimp only; omega) (by dsimp only; omega) (Gd.sub (by repeat (first | exact Lsb.nil | exact Lsb.rf _ | refine Lsb.keep ?_ | refine Lsb.drop ?_)) (kk _ ⟨g, t, ar, d, ac, ab, la, na, fa, A, _, _, _, _, _, _, _, _, _, _, _, F9, G9, _, _, hLWb, hINV9⟩))
      · exfalso; omega
    · exfalso; omega
