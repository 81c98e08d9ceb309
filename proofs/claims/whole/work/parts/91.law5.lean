section GU
variable {p : Program} {l : Launch} {e : Env} {R : Room} {s : State} {m : MethodId} {args : Array Value} {below : List Frame} {meth : Method} {c : Code} {D : va_G} {ky : Nat → ClassId} {z : Nat} {Q : State → Prop} {cells slots : Nat} {w : WT} {pc : Nat} {ls : List (Option Value)} {st : List Value} {cc : ByteArray} {own : String} {Ts : List Cond} {nL : Nat}
theorem gd_icmpS (C : Cx p l s m args meth c D ky z cc nL Ts own) {x : Int32} {off : Int} {tgt : Nat} (hdg : decode cc pc = .ok (.if_icmp .eq off, 3)) (ht : (pc : Int) + off = (tgt : Int)) (kt : Gd p l e R s m args below meth c D z Q cells slots w tgt ls st) : Gd p l e R s m args below meth c D z Q cells slots w pc ls (.int x :: .int x :: st) := by
  obtain ⟨n, hn, rfl⟩ := iI_of x
  exact gd_icmp_eq C hdg ht hn hn (fun _ => kt) (fun h => absurd rfl h)
theorem gd_lcmpZ (C : Cx p l s m args meth c D ky z cc nL Ts own) {x y : Int64} (hdg : decode cc pc = .ok (.lcmp, 1)) (hxy : x = y) (kk : Gd p l e R s m args below meth c D z Q cells slots w (pc + 1) ls (.int (iI 0) :: st)) : Gd p l e R s m args below meth c D z Q cells slots w pc ls (.long y :: .long x :: st) := by
  subst hxy
  exact gd_lcmpE C hdg kk
end GU
set_option maxRecDepth 100000 in
set_option maxHeartbeats 4000000 in
theorem cs_isDown {p : Program} {l : Launch} {e : Env} {s : State} {m : MethodId} {args : Array Value} {below : List Frame} {meth : Method} {c : Code} {D : va_G} {ky : Nat → ClassId} {z : Nat} {Q : State → Prop} {cells slots : Nat} {w : WT} (hl : l.stackTraces = false) (C : Cx p l s m args meth c D ky z cL_law 8 wsL_law RL) (hNC : NC3 s) {b0 L : Nat} {xs : Nat → Int32} (hX : va_X b0 L xs s s.heap) (hbl : b0 < s.heap.size) (hzb : ¬ z ≤ b0) (hL8 : L ≤ 2048) {b o ao ad : Nat} {k i : Int} (hLI : LI w ky b o ao ad k) (hk : 0 ≤ k ∧ k ≤ 511) (hi : 0 ≤ i ∧ i + 3 < L) (hcs : cells + 30 ≤ 601024 ∧ slots + 200 ≤ 7293034)
    (kk : ∀ w', LI w' ky b o ao ad (k + 1) → Gd p l e room_1 s m args below meth c D z Q (cells + 10) (slots + 60) w' 1373 [some (.ref b0), some (.ref b), some (.ref o), some (.ref ao), some (.ref ad), some (.int (iI i)), none, none] []) : Gd p l e room_1 s m args below meth c D z Q cells slots w 700 [some (.ref b0), some (.ref b), some (.ref o), some (.ref ao), some (.ref ad), some (.int (iI i)), none, none] [] := by
  obtain ⟨g, t, ar, d, ac, ab, la, na, fa, A, T, v, B, sc, dn, n, lo, co, ct, nm, fl, F, G, fo, fd, hLW, hINV⟩ := hLI
  obtain ⟨hW, hD, hM, hA0, hao, had⟩ := id hLW
  obtain ⟨hFS, hRL, hR, hNI, hPT, hRN, hF9⟩ := id hINV
  obtain ⟨hI, hOW, hL0, hsc, hds, h3c, hc0⟩ := id hFS
  obtain ⟨hi1, hi2, hi3, hi4⟩ := id hI
  have hDR := hNI.1
  have hn9 := PT_nn (ct := ct) hDR.1.1
  have hn3 : n < 300 := by omega
  have hlo0 := hNI.2.1
  have hco0 := hNI.2.2.1
  clear hn9
  obtain ⟨q1, hq1⟩ : ∃ q, scS xs (i + 1) = q := ⟨_, rfl⟩
  have hq1R : InR q1 := hq1 ▸ scS_R xs (i + 1)
  obtain ⟨q2, hq2⟩ : ∃ q, scS xs (i + 2) = q := ⟨_, rfl⟩
  have hq2R : InR q2 := hq2 ▸ scS_R xs (i + 2)
  obtain ⟨q3, hq3⟩ : ∃ q, scS xs (i + 3) = q := ⟨_, rfl⟩
  have hq3R : InR q3 := hq3 ▸ scS_R xs (i + 3)
  refine gd_aload_n C dL_law_700 rfl ?_
  refine gd_callV (n := 0) (ci := 4) (Cn := RX4) (T := TX4) (N := 5) C (kX4_isDown hl hW hI) ?_ rfl gL_law_X4_isDown rfl ⟨rfl, by decide, by decide, by decide +kernel⟩ rfl rfl (Nat.le_of_ble_eq_true rfl) rfl dL_law_701 ⟨⟨by decide, by decide⟩, (by show _ ≤ 601024; dsimp only; omega), (by show _ ≤ 7293034; dsimp only; omega)⟩ (fun _ h => h.elim) ?_
  · exact ⟨_, by exact hW.1⟩
  rintro _ _ ⟨rfl, rfl⟩
  refine gd_aload_n C dL_law_704 rfl ?_
  refine gd_callV (n := 0) (ci := 5) (Cn := RX5) (T := TX5) (N := 18) C (kX5_isDown hl hM hR hI) ?_ rfl gL_law_X5_isDown rfl ⟨rfl, by decide, by decide, by decide +kernel⟩ rfl rfl (Nat.le_of_ble_eq_true rfl) rfl dL_law_705 ⟨⟨by decide, by decide⟩, (by show _ ≤ 601024; dsimp only; omega), (by show _ ≤ 7293034; dsimp only; omega)⟩ (fun _ h => h.elim) ?_
  · exact ⟨_, by exact hM.1⟩
  rintro r3 w3 ⟨rfl, F9, G9, hV, hR9, hN9, h79, h149, h179⟩
  have hLWb := hLW.mod hV
  have hINV9 := hINV.same hR9 hN9 h79 h149
  refine gd_icmpS (tgt := 1373) C dL_law_708 (by decide) ?_
  refine Gd.widen (k := cells + 10) (n := slots + 60) (by dsimp only; omega) (by dsimp only; omega) (Gd.sub (by repeat (first | exact Lsb.nil | exact Lsb.rf _ | refine Lsb.keep ?_ | refine Lsb.drop ?_)) (kk _ ⟨g, t, ar, d, ac, ab, la, na, fa, A, _, _, _, _, _, _, _, _, _, _, _, F9, G9, _, _, hLWb, hINV9⟩))

set_option maxRecDepth 100000 in
set_option maxHeartbeats 4000000 in
theorem cs_files {p : Program} {l : Launch} {e : Env} {s : State} {m : MethodId} {args : Array Value} {below : List Frame} {meth : Method} {c : Code} {D : va_G} {ky : Nat → ClassId} {z : Nat} {Q : State → Prop} {cells slots : Nat} {w : WT} (hl : l.stackTraces = false) (C : Cx p l s m args meth c D ky z cL_law 8 wsL_law RL) (hNC : NC3 s) {b0 L : Nat} {xs : Nat → Int32} (hX : va_X b0 L xs s s.heap) (hbl : b0 < s.heap.size) (hzb : ¬ z ≤ b0) (hL8 : L ≤ 2048) {b o ao ad : Nat} {k i : Int} (hLI : LI w ky b o ao ad k) (hk : 0 ≤ k ∧ k ≤ 511) (hi : 0 ≤ i ∧ i + 3 < L) (hcs : cells + 30 ≤ 601024 ∧ slots + 200 ≤ 7293034)
    (kk : ∀ w', LI w' ky b o ao ad (k + 1) → Gd p l e room_1 s m args below meth c D z Q (cells + 10) (slots + 60) w' 1373 [some (.ref b0), some (.ref b), some (.ref o), some (.ref ao), some (.ref ad), some (.int (iI i)), none, none] []) : Gd p l e room_1 s m args below meth c D z Q cells slots w 713 [some (.ref b0), some (.ref b), some (.ref o), some (.ref ao), some (.ref ad), some (.int (iI i)), none, none] [] := by
  obtain ⟨g, t, ar, d, ac, ab, la, na, fa, A, T, v, B, sc, dn, n, lo, co, ct, nm, fl, F, G, fo, fd, hLW, hINV⟩ := hLI
  obtain ⟨hW, hD, hM, hA0, hao, had⟩ := id hLW
  obtain ⟨hFS, hRL, hR, hNI, hPT, hRN, hF9⟩ := id hINV
  obtain ⟨hI, hOW, hL0, hsc, hds, h3c, hc0⟩ := id hFS
  obtain ⟨hi1, hi2, hi3, hi4⟩ := id hI
  have hDR := hNI.1
  have hn9 := PT_nn (ct := ct) hDR.1.1
  have hn3 : n < 300 := by omega
  have hlo0 := hNI.2.1
  have hco0 := hNI.2.2.1
  clear hn9
  obtain ⟨q1, hq1⟩ : ∃ q, scS xs (i + 1) = q := ⟨_, rfl⟩
  have hq1R : InR q1 := hq1 ▸ scS_R xs (i + 1)
  obtain ⟨q2, hq2⟩ : ∃ q, scS xs (i + 2) = q := ⟨_, rfl⟩
  have hq2R : InR q2 := hq2 ▸ scS_R xs (i + 2)
  obtain ⟨q3, hq3⟩ : ∃ q, scS xs (i + 3) = q := ⟨_, rfl⟩
  have hq3R : InR q3 := hq3 ▸ scS_R xs (i + 3)
  refine gd_aload_n C dL_law_713 rfl ?_
  refine gd_callV (n := 0) (ci := 4) (Cn := RX4) (T := TX4) (N := 5) C (kX4_files hl hW hI) ?_ rfl gL_law_X4_files rfl ⟨rfl, by decide, by decide, by decide +kernel⟩ rfl rfl (Nat.le_of_ble_eq_true rfl) rfl dL_law_714 ⟨⟨by decide, by decide⟩, (by show _ ≤ 601024; dsimp only; omega), (by show _ ≤ 7293034; dsimp only; omega)⟩ (fun _ h => h.elim) ?_
  · exact ⟨_, by exact hW.1⟩
  rintro _ _ ⟨rfl, rfl⟩
  refine gd_aload_n C dL_law_717 rfl ?_
  refine gd_callV (n := 0) (ci := 5) (Cn := RX5) (T := TX5) (N := 18) C (kX5_files hl hM hR hI) ?_ rfl gL_law_X5_files rfl ⟨rfl, by decide, by decide, by decide +kernel⟩ rfl rfl (Nat.le_of_ble_eq_true rfl) rfl dL_law_718 ⟨⟨by decide, by decide⟩, (by show _ ≤ 601024; dsimp only; omega), (by show _ ≤ 7293034; dsimp only; omega)⟩ (fun _ h => h.elim) ?_
  · exact ⟨_, by exact hM.1⟩
  rintro r3 w3 ⟨rfl, F9, G9, hV, hR9, hN9, h79, h149, h179⟩
  have hLWb := hLW.mod hV
  have hINV9 := hINV.same hR9 hN9 h79 h149
  refine gd_icmpS (tgt := 1373) C dL_law_721 (by decide) ?_
  refine Gd.widen (k := cells + 10) (n := slots + 60) (by dsimp only; omega) (by dsimp only; omega) (Gd.sub (by repeat (first | exact Lsb.nil | exact Lsb.rf _ | refine Lsb.keep ?_ | refine Lsb.drop ?_)) (kk _ ⟨g, t, ar, d, ac, ab, la, na, fa, A, _, _, _, _, _, _, _, _, _, _, _, F9, G9, _, _, hLWb, hINV9⟩))

set_option maxRecDepth 100000 in
set_option maxHeartbeats 4000000 in
theorem cs_free {p : Program} {l : Launch} {e : Env} {s : State} {m : MethodId} {args : Array Value} {below : List Frame} {meth : Method} {c : Code} {D : va_G} {ky : Nat → ClassId} {z : Nat} {Q : State → Prop} {cells slots : Nat} {w : WT} (hl : l.stackTraces = false) (C : Cx p l s m args meth c D ky z cL_law 8 wsL_law RL) (hNC : NC3 s) {b0 L : Nat} {xs : Nat → Int32} (hX : va_X b0 L xs s s.heap) (hbl : b0 < s.heap.size) (hzb : ¬ z ≤ b0) (hL8 : L ≤ 2048) {b o ao ad : Nat} {k i : Int} (hLI : LI w ky b o ao ad k) (hk : 0 ≤ k ∧ k ≤ 511) (hi : 0 ≤ i ∧ i + 3 < L) (hcs : cells + 30 ≤ 601024 ∧ slots + 200 ≤ 7293034)
    (kk : ∀ w', LI w' ky b o ao ad (k + 1) → Gd p l e room_1 s m args below meth c D z Q (cells + 10) (slots + 60) w' 1373 [some (.ref b0), some (.ref b), some (.ref o), some (.ref ao), some (.ref ad), some (.int (iI i)), none, none] []) : Gd p l e room_1 s m args below meth c D z Q cells slots w 795 [some (.ref b0), some (.ref b), some (.ref o), some (.ref ao), some (.ref ad), some (.int (iI i)), none, none] [] := by
  obtain ⟨g, t, ar, d, ac, ab, la, na, fa, A, T, v, B, sc, dn, n, lo, co, ct, nm, fl, F, G, fo, fd, hLW, hINV⟩ := hLI
  obtain ⟨hW, hD, hM, hA0, hao, had⟩ := id hLW
  obtain ⟨hFS, hRL, hR, hNI, hPT, hRN, hF9⟩ := id hINV
  obtain ⟨hI, hOW, hL0, hsc, hds, h3c, hc0⟩ := id hFS
  obtain ⟨hi1, hi2, hi3, hi4⟩ := id hI
  have hDR := hNI.1
  have hn9 := PT_nn (ct := ct) hDR.1.1
  have hn3 : n < 300 := by omega
  have hlo0 := hNI.2.1
  have hco0 := hNI.2.2.1
  clear hn9
  obtain ⟨q1, hq1⟩ : ∃ q, scS xs (i + 1) = q := ⟨_, rfl⟩
  have hq1R : InR q1 := hq1 ▸ scS_R xs (i + 1)
  obtain ⟨q2, hq2⟩ : ∃ q, scS xs (i + 2) = q := ⟨_, rfl⟩
  have hq2R : InR q2 := hq2 ▸ scS_R xs (i + 2)
  obtain ⟨q3, hq3⟩ : ∃ q, scS xs (i + 3) = q := ⟨_, rfl⟩
  have hq3R : InR q3 := hq3 ▸ scS_R xs (i + 3)
  refine gd_aload_n C dL_law_795 rfl ?_
  refine gd_callV (n := 0) (ci := 4) (Cn := RX4) (T := TX4) (N := 5) C (kX4_free hl hW hI) ?_ rfl gL_law_X4_free rfl ⟨rfl, by decide, by decide, by decide +kernel⟩ rfl rfl (Nat.le_of_ble_eq_true rfl) rfl dL_law_796 ⟨⟨by decide, by decide⟩, (by show _ ≤ 601024; dsimp only; omega), (by show _ ≤ 7293034; dsimp only; omega)⟩ (fun _ h => h.elim) ?_
  · exact ⟨_, by exact hW.1⟩
  rintro _ _ ⟨rfl, rfl⟩
  refine gd_aload_n C dL_law_799 rfl ?_
  refine gd_callV (n := 0) (ci := 5) (Cn := RX5) (T := TX5) (N := 18) C (kX5_free hl hM hR hI) ?_ rfl gL_law_X5_free rfl ⟨rfl, by decide, by decide, by decide +kernel⟩ rfl rfl (Nat.le_of_ble_eq_true rfl) rfl dL_law_800 ⟨⟨by decide, by decide⟩, (by show _ ≤ 601024; dsimp only; omega), (by show _ ≤ 7293034; dsimp only; omega)⟩ (fun _ h => h.elim) ?_
  · exact ⟨_, by exact hM.1⟩
  rintro r3 w3 ⟨rfl, F9, G9, hV, hR9, hN9, h79, h149, h179⟩
  have hLWb := hLW.mod hV
  have hINV9 := hINV.same hR9 hN9 h79 h149
  refine gd_icmpS (tgt := 1373) C dL_law_803 (by decide) ?_
  refine Gd.widen (k := cells + 10) (n := slots + 60) (by dsimp only; omega) (by dsimp only; omega) (Gd.sub (by repeat (first | exact Lsb.nil | exact Lsb.rf _ | refine Lsb.keep ?_ | refine Lsb.drop ?_)) (kk _ ⟨g, t, ar, d, ac, ab, la, na, fa, A, _, _, _, _, _, _, _, _, _, _, _, F9, G9, _, _, hLWb, hINV9⟩))

set_option maxRecDepth 100000 in
set_option maxHeartbeats 4000000 in
theorem cs_freeByFiles {p : Program} {l : Launch} {e : Env} {s : State} {m : MethodId} {args : Array Value} {below : List Frame} {meth : Method} {c : Code} {D : va_G} {ky : Nat → ClassId} {z : Nat} {Q : State → Prop} {cells slots : Nat} {w : WT} (hl : l.stackTraces = false) (C : Cx p l s m args meth c D ky z cL_law 8 wsL_law RL) (hNC : NC3 s) {b0 L : Nat} {xs : Nat → Int32} (hX : va_X b0 L xs s s.heap) (hbl : b0 < s.heap.size) (hzb : ¬ z ≤ b0) (hL8 : L ≤ 2048) {b o ao ad : Nat} {k i : Int} (hLI : LI w ky b o ao ad k) (hk : 0 ≤ k ∧ k ≤ 511) (hi : 0 ≤ i ∧ i + 3 < L) (hcs : cells + 30 ≤ 601024 ∧ slots + 200 ≤ 7293034)
    (kk : ∀ w', LI w' ky b o ao ad (k + 1) → Gd p l e room_1 s m args below meth c D z Q (cells + 10) (slots + 60) w' 1373 [some (.ref b0), some (.ref b), some (.ref o), some (.ref ao), some (.ref ad), some (.int (iI i)), none, none] []) : Gd p l e room_1 s m args below meth c D z Q cells slots w 808 [some (.ref b0), some (.ref b), some (.ref o), some (.ref ao), some (.ref ad), some (.int (iI i)), none, none] [] := by
  obtain ⟨g, t, ar, d, ac, ab, la, na, fa, A, T, v, B, sc, dn, n, lo, co, ct, nm, fl, F, G, fo, fd, hLW, hINV⟩ := hLI
  obtain ⟨hW, hD, hM, hA0, hao, had⟩ := id hLW
  obtain ⟨hFS, hRL, hR, hNI, hPT, hRN, hF9⟩ := id hINV
  obtain ⟨hI, hOW, hL0, hsc, hds, h3c, hc0⟩ := id hFS
  obtain ⟨hi1, hi2, hi3, hi4⟩ := id hI
  have hDR := hNI.1
  have hn9 := PT_nn (ct := ct) hDR.1.1
  have hn3 : n < 300 := by omega
  have hlo0 := hNI.2.1
  have hco0 := hNI.2.2.1
  clear hn9
  obtain ⟨q1, hq1⟩ : ∃ q, scS xs (i + 1) = q := ⟨_, rfl⟩
  have hq1R : InR q1 := hq1 ▸ scS_R xs (i + 1)
  obtain ⟨q2, hq2⟩ : ∃ q, scS xs (i + 2) = q := ⟨_, rfl⟩
  have hq2R : InR q2 := hq2 ▸ scS_R xs (i + 2)
  obtain ⟨q3, hq3⟩ : ∃ q, scS xs (i + 3) = q := ⟨_, rfl⟩
  have hq3R : InR q3 := hq3 ▸ scS_R xs (i + 3)
  refine gd_aload_n C dL_law_808 rfl ?_
  refine gd_callV (n := 0) (ci := 4) (Cn := RX4) (T := TX4) (N := 5) C (kX4_freeByFiles hl hW hI) ?_ rfl gL_law_X4_freeByFiles rfl ⟨rfl, by decide, by decide, by decide +kernel⟩ rfl rfl (Nat.le_of_ble_eq_true rfl) rfl dL_law_809 ⟨⟨by decide, by decide⟩, (by show _ ≤ 601024; dsimp only; omega), (by show _ ≤ 7293034; dsimp only; omega)⟩ (fun _ h => h.elim) ?_
  · exact ⟨_, by exact hW.1⟩
  rintro _ _ ⟨rfl, rfl⟩
  refine gd_aload_n C dL_law_812 rfl ?_
  refine gd_callV (n := 0) (ci := 5) (Cn := RX5) (T := TX5) (N := 18) C (kX5_freeByFiles hl hM hR hI) ?_ rfl gL_law_X5_freeByFiles rfl ⟨rfl, by decide, by decide, by decide +kernel⟩ rfl rfl (Nat.le_of_ble_eq_true rfl) rfl dL_law_813 ⟨⟨by decide, by decide⟩, (by show _ ≤ 601024; dsimp only; omega), (by show _ ≤ 7293034; dsimp only; omega)⟩ (fun _ h => h.elim) ?_
  · exact ⟨_, by exact hM.1⟩
  rintro r3 w3 ⟨rfl, F9, G9, hV, hR9, hN9, h79, h149, h179⟩
  have hLWb := hLW.mod hV
  have hINV9 := hINV.same hR9 hN9 h79 h149
  refine gd_icmpS (tgt := 1373) C dL_law_816 (by decide) ?_
  refine Gd.widen (k := cells + 10) (n := slots + 60) (by dsimp only; omega) (by dsimp only; omega) (Gd.sub (by repeat (first | exact Lsb.nil | exact Lsb.rf _ | refine Lsb.keep ?_ | refine Lsb.drop ?_)) (kk _ ⟨g, t, ar, d, ac, ab, la, na, fa, A, _, _, _, _, _, _, _, _, _, _, _, F9, G9, _, _, hLWb, hINV9⟩))

set_option maxRecDepth 100000 in
set_option maxHeartbeats 4000000 in
theorem cs_reserved {p : Program} {l : Launch} {e : Env} {s : State} {m : MethodId} {args : Array Value} {below : List Frame} {meth : Method} {c : Code} {D : va_G} {ky : Nat → ClassId} {z : Nat} {Q : State → Prop} {cells slots : Nat} {w : WT} (hl : l.stackTraces = false) (C : Cx p l s m args meth c D ky z cL_law 8 wsL_law RL) (hNC : NC3 s) {b0 L : Nat} {xs : Nat → Int32} (hX : va_X b0 L xs s s.heap) (hbl : b0 < s.heap.size) (hzb : ¬ z ≤ b0) (hL8 : L ≤ 2048) {b o ao ad : Nat} {k i : Int} (hLI : LI w ky b o ao ad k) (hk : 0 ≤ k ∧ k ≤ 511) (hi : 0 ≤ i ∧ i + 3 < L) (hcs : cells + 30 ≤ 601024 ∧ slots + 200 ≤ 7293034)
    (kk : ∀ w', LI w' ky b o ao ad (k + 1) → Gd p l e room_1 s m args below meth c D z Q (cells + 10) (slots + 60) w' 1373 [some (.ref b0), some (.ref b), some (.ref o), some (.ref ao), some (.ref ad), some (.int (iI i)), none, none] []) : Gd p l e room_1 s m args below meth c D z Q cells slots w 821 [some (.ref b0), some (.ref b), some (.ref o), some (.ref ao), some (.ref ad), some (.int (iI i)), none, none] [] := by
  obtain ⟨g, t, ar, d, ac, ab, la, na, fa, A, T, v, B, sc, dn, n, lo, co, ct, nm, fl, F, G, fo, fd, hLW, hINV⟩ := hLI
  obtain ⟨hW, hD, hM, hA0, hao, had⟩ := id hLW
  obtain ⟨hFS, hRL, hR, hNI, hPT, hRN, hF9⟩ := id hINV
  obtain ⟨hI, hOW, hL0, hsc, hds, h3c, hc0⟩ := id hFS
  obtain ⟨hi1, hi2, hi3, hi4⟩ := id hI
  have hDR := hNI.1
  have hn9 := PT_nn (ct := ct) hDR.1.1
  have hn3 : n < 300 := by omega
  have hlo0 := hNI.2.1
  have hco0 := hNI.2.2.1
  clear hn9
  obtain ⟨q1, hq1⟩ : ∃ q, scS xs (i + 1) = q := ⟨_, rfl⟩
  have hq1R : InR q1 := hq1 ▸ scS_R xs (i + 1)
  obtain ⟨q2, hq2⟩ : ∃ q, scS xs (i + 2) = q := ⟨_, rfl⟩
  have hq2R : InR q2 := hq2 ▸ scS_R xs (i + 2)
  obtain ⟨q3, hq3⟩ : ∃ q, scS xs (i + 3) = q := ⟨_, rfl⟩
  have hq3R : InR q3 := hq3 ▸ scS_R xs (i + 3)
  refine gd_aload_n C dL_law_821 rfl ?_
  refine gd_callV (n := 0) (ci := 4) (Cn := RX4) (T := TX4) (N := 5) C (kX4_reserved hl hW hI) ?_ rfl gL_law_X4_reserved rfl ⟨rfl, by decide, by decide, by decide +kernel⟩ rfl rfl (Nat.le_of_ble_eq_true rfl) rfl dL_law_822 ⟨⟨by decide, by decide⟩, (by show _ ≤ 601024; dsimp only; omega), (by show _ ≤ 7293034; dsimp only; omega)⟩ (fun _ h => h.elim) ?_
  · exact ⟨_, by exact hW.1⟩
  rintro _ _ ⟨rfl, rfl⟩
  refine gd_aload_n C dL_law_825 rfl ?_
  refine gd_callV (n := 0) (ci := 5) (Cn := RX5) (T := TX5) (N := 18) C (kX5_reserved hl hM hR hI) ?_ rfl gL_law_X5_reserved rfl ⟨rfl, by decide, by decide, by decide +kernel⟩ rfl rfl (Nat.le_of_ble_eq_true rfl) rfl dL_law_826 ⟨⟨by decide, by decide⟩, (by show _ ≤ 601024; dsimp only; omega), (by show _ ≤ 7293034; dsimp only; omega)⟩ (fun _ h => h.elim) ?_
  · exact ⟨_, by exact hM.1⟩
  rintro r3 w3 ⟨rfl, F9, G9, hV, hR9, hN9, h79, h149, h179⟩
  have hLWb := hLW.mod hV
  have hINV9 := hINV.same hR9 hN9 h79 h149
  refine gd_icmpS (tgt := 1373) C dL_law_829 (by decide) ?_
  refine Gd.widen (k := cells + 10) (n := slots + 60) (by dsimp only; omega) (by dsimp only; omega) (Gd.sub (by repeat (first | exact Lsb.nil | exact Lsb.rf _ | refine Lsb.keep ?_ | refine Lsb.drop ?_)) (kk _ ⟨g, t, ar, d, ac, ab, la, na, fa, A, _, _, _, _, _, _, _, _, _, _, _, F9, G9, _, _, hLWb, hINV9⟩))

set_option maxRecDepth 100000 in
set_option maxHeartbeats 4000000 in
theorem cs_kept {p : Program} {l : Launch} {e : Env} {s : State} {m : MethodId} {args : Array Value} {below : List Frame} {meth : Method} {c : Code} {D : va_G} {ky : Nat → ClassId} {z : Nat} {Q : State → Prop} {cells slots : Nat} {w : WT} (hl : l.stackTraces = false) (C : Cx p l s m args meth c D ky z cL_law 8 wsL_law RL) (hNC : NC3 s) {b0 L : Nat} {xs : Nat → Int32} (hX : va_X b0 L xs s s.heap) (hbl : b0 < s.heap.size) (hzb : ¬ z ≤ b0) (hL8 : L ≤ 2048) {b o ao ad : Nat} {k i : Int} (hLI : LI w ky b o ao ad k) (hk : 0 ≤ k ∧ k ≤ 511) (hi : 0 ≤ i ∧ i + 3 < L) (hcs : cells + 30 ≤ 601024 ∧ slots + 200 ≤ 7293034)
    (kk : ∀ w', LI w' ky b o ao ad (k + 1) → Gd p l e room_1 s m args below meth c D z Q (cells + 10) (slots + 60) w' 1373 [some (.ref b0), some (.ref b), some (.ref o), some (.ref ao), some (.ref ad), some (.int (iI i)), none, none] []) : Gd p l e room_1 s m args below meth c D z Q cells slots w 834 [some (.ref b0), some (.ref b), some (.ref o), some (.ref ao), some (.ref ad), some (.int (iI i)), none, none] [] := by
  obtain ⟨g, t, ar, d, ac, ab, la, na, fa, A, T, v, B, sc, dn, n, lo, co, ct, nm, fl, F, G, fo, fd, hLW, hINV⟩ := hLI
  obtain ⟨hW, hD, hM, hA0, hao, had⟩ := id hLW
  obtain ⟨hFS, hRL, hR, hNI, hPT, hRN, hF9⟩ := id hINV
  obtain ⟨hI, hOW, hL0, hsc, hds, h3c, hc0⟩ := id hFS
  obtain ⟨hi1, hi2, hi3, hi4⟩ := id hI
  have hDR := hNI.1
  have hn9 := PT_nn (ct := ct) hDR.1.1
  have hn3 : n < 300 := by omega
  have hlo0 := hNI.2.1
  have hco0 := hNI.2.2.1
  clear hn9
  obtain ⟨q1, hq1⟩ : ∃ q, scS xs (i + 1) = q := ⟨_, rfl⟩
  have hq1R : InR q1 := hq1 ▸ scS_R xs (i + 1)
  obtain ⟨q2, hq2⟩ : ∃ q, scS xs (i + 2) = q := ⟨_, rfl⟩
  have hq2R : InR q2 := hq2 ▸ scS_R xs (i + 2)
  obtain ⟨q3, hq3⟩ : ∃ q, scS xs (i + 3) = q := ⟨_, rfl⟩
  have hq3R : InR q3 := hq3 ▸ scS_R xs (i + 3)
  refine gd_aload_n C dL_law_834 rfl ?_
  refine gd_callV (n := 0) (ci := 4) (Cn := RX4) (T := TX4) (N := 5) C (kX4_kept hl hW hI) ?_ rfl gL_law_X4_kept rfl ⟨rfl, by decide, by decide, by decide +kernel⟩ rfl rfl (Nat.le_of_ble_eq_true rfl) rfl dL_law_835 ⟨⟨by decide, by decide⟩, (by show _ ≤ 601024; dsimp only; omega), (by show _ ≤ 7293034; dsimp only; omega)⟩ (fun _ h => h.elim) ?_
  · exact ⟨_, by exact hW.1⟩
  rintro _ _ ⟨rfl, rfl⟩
  refine gd_aload_n C dL_law_838 rfl ?_
  refine gd_callV (n := 0) (ci := 5) (Cn := RX5) (T := TX5) (N := 18) C (kX5_kept hl hM hR hI) ?_ rfl gL_law_X5_kept rfl ⟨rfl, by decide, by decide, by decide +kernel⟩ rfl rfl (Nat.le_of_ble_eq_true rfl) rfl dL_law_839 ⟨⟨by decide, by decide⟩, (by show _ ≤ 601024; dsimp only; omega), (by show _ ≤ 7293034; dsimp only; omega)⟩ (fun _ h => h.elim) ?_
  · exact ⟨_, by exact hM.1⟩
  rintro r3 w3 ⟨rfl, F9, G9, hV, hR9, hN9, h79, h149, h179⟩
  have hLWb := hLW.mod hV
  have hINV9 := hINV.same hR9 hN9 h79 h149
  refine gd_icmpS (tgt := 1373) C dL_law_842 (by decide) ?_
  refine Gd.widen (k := cells + 10) (n := slots + 60) (by dsimp only; omega) (by dsimp only; omega) (Gd.sub (by repeat (first | exact Lsb.nil | exact Lsb.rf _ | refine Lsb.keep ?_ | refine Lsb.drop ?_)) (kk _ ⟨g, t, ar, d, ac, ab, la, na, fa, A, _, _, _, _, _, _, _, _, _, _, _, F9, G9, _, _, hLWb, hINV9⟩))

set_option maxRecDepth 100000 in
set_option maxHeartbeats 4000000 in
theorem cs_listed {p : Program} {l : Launch} {e : Env} {s : State} {m : MethodId} {args : Array Value} {below : List Frame} {meth : Method} {c : Code} {D : va_G} {ky : Nat → ClassId} {z : Nat} {Q : State → Prop} {cells slots : Nat} {w : WT} (hl : l.stackTraces = false) (C : Cx p l s m args meth c D ky z cL_law 8 wsL_law RL) (hNC : NC3 s) {b0 L : Nat} {xs : Nat → Int32} (hX : va_X b0 L xs s s.heap) (hbl : b0 < s.heap.size) (hzb : ¬ z ≤ b0) (hL8 : L ≤ 2048) {b o ao ad : Nat} {k i : Int} (hLI : LI w ky b o ao ad k) (hk : 0 ≤ k ∧ k ≤ 511) (hi : 0 ≤ i ∧ i + 3 < L) (hcs : cells + 30 ≤ 601024 ∧ slots + 200 ≤ 7293034)
    (kk : ∀ w', LI w' ky b o ao ad (k + 1) → Gd p l e room_1 s m args below meth c D z Q (cells + 10) (slots + 60) w' 1373 [some (.ref b0), some (.ref b), some (.ref o), some (.ref ao), some (.ref ad), some (.int (iI i)), none, none] []) : Gd p l e room_1 s m args below meth c D z Q cells slots w 726 [some (.ref b0), some (.ref b), some (.ref o), some (.ref ao), some (.ref ad), some (.int (iI i)), none, none] [] := by
  obtain ⟨g, t, ar, d, ac, ab, la, na, fa, A, T, v, B, sc, dn, n, lo, co, ct, nm, fl, F, G, fo, fd, hLW, hINV⟩ := hLI
  obtain ⟨hW, hD, hM, hA0, hao, had⟩ := id hLW
  obtain ⟨hFS, hRL, hR, hNI, hPT, hRN, hF9⟩ := id hINV
  obtain ⟨hI, hOW, hL0, hsc, hds, h3c, hc0⟩ := id hFS
  obtain ⟨hi1, hi2, hi3, hi4⟩ := id hI
  have hDR := hNI.1
  have hn9 := PT_nn (ct := ct) hDR.1.1
  have hn3 : n < 300 := by omega
  have hlo0 := hNI.2.1
  have hco0 := hNI.2.2.1
  clear hn9
  obtain ⟨q1, hq1⟩ : ∃ q, scS xs (i + 1) = q := ⟨_, rfl⟩
  have hq1R : InR q1 := hq1 ▸ scS_R xs (i + 1)
  obtain ⟨q2, hq2⟩ : ∃ q, scS xs (i + 2) = q := ⟨_, rfl⟩
  have hq2R : InR q2 := hq2 ▸ scS_R xs (i + 2)
  obtain ⟨q3, hq3⟩ : ∃ q, scS xs (i + 3) = q := ⟨_, rfl⟩
  have hq3R : InR q3 := hq3 ▸ scS_R xs (i + 3)
  refine gd_aload_n C dL_law_726 rfl ?_
  refine gd_callV (n := 0) (ci := 4) (Cn := RX4) (T := TX4) (N := 5) C (kX4_listed hl hW hI) ?_ rfl gL_law_X4_listed rfl ⟨rfl, by decide, by decide, by decide +kernel⟩ rfl rfl (Nat.le_of_ble_eq_true rfl) rfl dL_law_727 ⟨⟨by decide, by decide⟩, (by show _ ≤ 601024; dsimp only; omega), (by show _ ≤ 7293034; dsimp only; omega)⟩ (fun _ h => h.elim) ?_
  · exact ⟨_, by exact hW.1⟩
  rintro _ _ ⟨rfl, rfl⟩
  refine gd_aload_n C dL_law_730 rfl ?_
  refine gd_callV (n := 0) (ci := 5) (Cn := RX5) (T := TX5) (N := 18) C (kX5_listed hl hM hR hI hRL) ?_ rfl gL_law_X5_listed rfl ⟨rfl, by decide, by decide, by decide +kernel⟩ rfl rfl (Nat.le_of_ble_eq_true rfl) rfl dL_law_731 ⟨⟨by decide, by decide⟩, (by show _ ≤ 601024; dsimp only; omega), (by show _ ≤ 7293034; dsimp only; omega)⟩ (fun _ h => h.elim) ?_
  · exact ⟨_, by exact hM.1⟩
  rintro r3 w3 ⟨rfl, F9, G9, hV, hR9, hN9, h79, h149, h179⟩
  have hLWb := hLW.mod hV
  have hINV9 := hINV.same hR9 hN9 h79 h149
  refine gd_icmpS (tgt := 1373) C dL_law_734 (by decide) ?_
  refine Gd.widen (k := cells + 10) (n := slots + 60) (by dsimp only; omega) (by dsimp only; omega) (Gd.sub (by repeat (first | exact Lsb.nil | exact Lsb.rf _ | refine Lsb.keep ?_ | refine Lsb.drop ?_)) (kk _ ⟨g, t, ar, d, ac, ab, la, na, fa, A, _, _, _, _, _, _, _, _, _, _, _, F9, G9, _, _, hLWb, hINV9⟩))

set_option maxRecDepth 100000 in
set_option maxHeartbeats 4000000 in
theorem cs_leaves {p : Program} {l : Launch} {e : Env} {s : State} {m : MethodId} {args : Array Value} {below : List Frame} {meth : Method} {c : Code} {D : va_G} {ky : Nat → ClassId} {z : Nat} {Q : State → Prop} {cells slots : Nat} {w : WT} (hl : l.stackTraces = false) (C : Cx p l s m args meth c D ky z cL_law 8 wsL_law RL) (hNC : NC3 s) {b0 L : Nat} {xs : Nat → Int32} (hX : va_X b0 L xs s s.heap) (hbl : b0 < s.heap.size) (hzb : ¬ z ≤ b0) (hL8 : L ≤ 2048) {b o ao ad : Nat} {k i : Int} (hLI : LI w ky b o ao ad k) (hk : 0 ≤ k ∧ k ≤ 511) (hi : 0 ≤ i ∧ i + 3 < L) (hcs : cells + 30 ≤ 601024 ∧ slots + 200 ≤ 7293034)
    (kk : ∀ w', LI w' ky b o ao ad (k + 1) → Gd p l e room_1 s m args below meth c D z Q (cells + 10) (slots + 60) w' 1373 [some (.ref b0), some (.ref b), some (.ref o), some (.ref ao), some (.ref ad), some (.int (iI i)), none, none] []) : Gd p l e room_1 s m args below meth c D z Q cells slots w 1304 [some (.ref b0), some (.ref b), some (.ref o), some (.ref ao), some (.ref ad), some (.int (iI i)), none, none] [] := by
  obtain ⟨g, t, ar, d, ac, ab, la, na, fa, A, T, v, B, sc, dn, n, lo, co, ct, nm, fl, F, G, fo, fd, hLW, hINV⟩ := hLI
  obtain ⟨hW, hD, hM, hA0, hao, had⟩ := id hLW
  obtain ⟨hFS, hRL, hR, hNI, hPT, hRN, hF9⟩ := id hINV
  obtain ⟨hI, hOW, hL0, hsc, hds, h3c, hc0⟩ := id hFS
  obtain ⟨hi1, hi2, hi3, hi4⟩ := id hI
  have hDR := hNI.1
  have hn9 := PT_nn (ct := ct) hDR.1.1
  have hn3 : n < 300 := by omega
  have hlo0 := hNI.2.1
  have hco0 := hNI.2.2.1
  clear hn9
  obtain ⟨q1, hq1⟩ : ∃ q, scS xs (i + 1) = q := ⟨_, rfl⟩
  have hq1R : InR q1 := hq1 ▸ scS_R xs (i + 1)
  obtain ⟨q2, hq2⟩ : ∃ q, scS xs (i + 2) = q := ⟨_, rfl⟩
  have hq2R : InR q2 := hq2 ▸ scS_R xs (i + 2)
  obtain ⟨q3, hq3⟩ : ∃ q, scS xs (i + 3) = q := ⟨_, rfl⟩
  have hq3R : InR q3 := hq3 ▸ scS_R xs (i + 3)
  refine gd_aload_n C dL_law_1304 rfl ?_
  refine gd_callV (n := 0) (ci := 4) (Cn := RX4) (T := TX4) (N := 5) C (kX4_leaves hl hW hI hD hDR) ?_ rfl gL_law_X4_leaves rfl ⟨rfl, by decide, by decide, by decide +kernel⟩ rfl rfl (Nat.le_of_ble_eq_true rfl) rfl dL_law_1305 ⟨⟨by decide, by decide⟩, (by show _ ≤ 601024; dsimp only; omega), (by show _ ≤ 7293034; dsimp only; omega)⟩ (fun _ h => h.elim) ?_
  · exact ⟨_, by exact hW.1⟩
  rintro _ _ ⟨rfl, rfl⟩
  refine gd_aload_n C dL_law_1308 rfl ?_
  refine gd_callV (n := 0) (ci := 5) (Cn := RX5) (T := TX5) (N := 18) C (kX5_leaves hl hM hRN hDR (by omega) hlo0 hco0 hR hI) ?_ rfl gL_law_X5_leaves rfl ⟨rfl, by decide, by decide, by decide +kernel⟩ rfl rfl (Nat.le_of_ble_eq_true rfl) rfl dL_law_1309 ⟨⟨by decide, by decide⟩, (by show _ ≤ 601024; dsimp only; omega), (by show _ ≤ 7293034; dsimp only; omega)⟩ (fun _ h => h.elim) ?_
  · exact ⟨_, by exact hM.1⟩
  rintro r3 w3 ⟨rfl, F9, G9, hV, hR9, hN9, h79, h149, h179⟩
  have hLWb := hLW.mod hV
  have hINV9 := hINV.same hR9 hN9 h79 h149
  refine gd_icmpS (tgt := 1373) C dL_law_1312 (by decide) ?_
  refine Gd.widen (k := cells + 10) (n := slots + 60) (by dsimp only; omega) (by dsimp only; omega) (Gd.sub (by repeat (first | exact Lsb.nil | exact Lsb.rf _ | refine Lsb.keep ?_ | refine Lsb.drop ?_)) (kk _ ⟨g, t, ar, d, ac, ab, la, na, fa, A, _, _, _, _, _, _, _, _, _, _, _, F9, G9, _, _, hLWb, hINV9⟩))
