set_option maxRecDepth 100000 in
set_option maxHeartbeats 4000000 in
theorem cs_open {p : Program} {l : Launch} {e : Env} {s : State} {m : MethodId} {args : Array Value} {below : List Frame} {meth : Method} {c : Code} {D : va_G} {ky : Nat → ClassId} {z : Nat} {Q : State → Prop} {cells slots : Nat} {w : WT} (hl : l.stackTraces = false) (C : Cx p l s m args meth c D ky z cL_law 8 wsL_law RL) (hNC : NC3 s) {b0 L : Nat} {xs : Nat → Int32} (hX : va_X b0 L xs s s.heap) (hbl : b0 < s.heap.size) (hzb : ¬ z ≤ b0) (hL8 : L ≤ 2048) {b o ao ad : Nat} {k i : Int} (hLI : LI w ky b o ao ad k) (hk : 0 ≤ k ∧ k ≤ 511) (hi : 0 ≤ i ∧ i + 3 < L) (hcs : cells + 30 ≤ 601024 ∧ slots + 200 ≤ 7293034)
    (kk : ∀ w', LI w' ky b o ao ad (k + 1) → Gd p l e room_1 s m args below meth c D z Q (cells + 10) (slots + 60) w' 1373 [some (.ref b0), some (.ref b), some (.ref o), some (.ref ao), some (.ref ad), some (.int (iI i)), none, none] []) : Gd p l e room_1 s m args below meth c D z Q cells slots w 224 [some (.ref b0), some (.ref b), some (.ref o), some (.ref ao), some (.ref ad), some (.int (iI i)), none, none] [] := by
  obtain ⟨g, t, ar, d, ac, ab, la, na, fa, A, T, v, B, sc, dn, n, lo, co, ct, nm, fl, F, G, fo, fd, hLW, hINV⟩ := hLI
  obtain ⟨hW, hD, hM, hA0, hao, had⟩ := id hLW
  obtain ⟨hFS, hRL, hR, hNI, hPT, hRN, hF9⟩ := id hINV
  obtain ⟨hI, hOW, hL0, hsc, hds, h3c, hc0⟩ := id hFS
  obtain ⟨hi1, hi2, hi3, hi4⟩ := id hI
  have hDR := hNI.1
  have hn9 := PT_nn (ct := ct) hDR.1.1
  have hn3 : n < 300 := by omega
  have hlo0 := hNI.2.1
  have hco0 := hNI.2.2.1
  clear hn9
  obtain ⟨q1, hq1⟩ : ∃ q, scS xs (i + 1) = q := ⟨_, rfl⟩
  have hq1R : InR q1 := hq1 ▸ scS_R xs (i + 1)
  obtain ⟨q2, hq2⟩ : ∃ q, scS xs (i + 2) = q := ⟨_, rfl⟩
  have hq2R : InR q2 := hq2 ▸ scS_R xs (i + 2)
  obtain ⟨q3, hq3⟩ : ∃ q, scS xs (i + 3) = q := ⟨_, rfl⟩
  have hq3R : InR q3 := hq3 ▸ scS_R xs (i + 3)
  refine gd_aload_n C dL_law_224 rfl ?_
  refine gd_aload_n C dL_law_225 rfl ?_
  refine gd_iload C dL_law_226 rfl ?_
  refine gd_iconst C dL_law_228 ?_
  refine gd_iadd C dL_law_229 ?_
  refine gd_sld C hX hbl hzb (by omega) hL8 dL_law_230 hq1 ?_
  refine gd_aload_n C dL_law_231 rfl ?_
  refine gd_callSW (n := 3) C hNC (kL_open hl (kX4_open hl hW hI hD hDR hq1R (fun j a b => by have := h3c j a b; omega)) ⟨_, hW.1⟩ (ao := ao) (f := fo) ?_ (fun E h => h.imp And.left And.left)) gL_law_L_open rfl ⟨by decide, by decide, by decide +kernel⟩ rfl rfl (Nat.le_of_ble_eq_true rfl) rfl dL_law_232 ⟨⟨by decide, by decide⟩, (by show _ ≤ 601024; dsimp only; omega), (by show _ ≤ 7293034; dsimp only; omega)⟩ ?_
  · rintro r w1 ⟨-, -, -, rfl, hW1, -, hF1⟩
    exact ⟨⟨_, rfl⟩, (hLW.cls hW1 (hD.keptC hW hF1) hF1.A).2.2.2.2.1⟩
  intro r w1 hw1
  rcases hw1 with ⟨rfl, hok⟩ | ⟨rfl, ⟨rfl, hx⟩ | ⟨rfl, hx⟩⟩
  · obtain ⟨x1, w2, f', hP0, hf', rfl⟩ := hok
    obtain ⟨hc1, hc2, hc3, hv, hW1, hI1, hF1⟩ := hP0
    have hLWa := (hLW.cls hW1 (hD.keptC hW hF1) hF1.A).out f'
    have hdb := dF_bd hDR q1
    have h39 := h3c _ hc3 (by omega)
    refine gd_istore C dL_law_235 (Nat.le_of_ble_eq_true rfl) ?_
    refine gd_aload_n C dL_law_237 rfl ?_
    refine gd_aload_n C dL_law_238 rfl ?_
    refine gd_iload C dL_law_239 rfl ?_
    refine gd_iconst C dL_law_241 ?_
    refine gd_iadd C dL_law_242 ?_
    refine gd_sld C hX hbl hzb (by omega) hL8 dL_law_243 hq1 ?_
    refine gd_callV (n := 1) (ci := 5) (Cn := RX5) (T := TX5) (N := 18) C (kX5_open hl hLWa.2.2.1 hRN hDR (by omega) hlo0 hco0 hR hI hF9 hq1R) ?_ rfl gL_law_X5_open rfl ⟨rfl, by decide, by decide, by decide +kernel⟩ rfl rfl (Nat.le_of_ble_eq_true rfl) rfl dL_law_244 ⟨⟨by decide, by decide⟩, (by show _ ≤ 601024; dsimp only; omega), (by show _ ≤ 7293034; dsimp only; omega)⟩ (fun _ h => h.elim) ?_
    · exact ⟨_, by exact hLWa.2.2.1.1⟩
    rintro r3 w3 hm
    obtain ⟨-, -, -, rfl, F9, G9, hV, hR9, hN9, h79, h99, h179⟩ := hm.resolve_right (fun ⟨t7, ht7, _⟩ => by clear hm; omega)
    clear hm
    have hLWb := hLWa.mod hV
    have hINV9 : INV (k + 1) T _ B sc dn n lo co ct nm fl F9 G9 := ⟨hFS.setv hI1 ⟨rfl, rfl, Int.le_refl _, by show v (dF n lo co ct nm fl q1) 3 + 1 ≤ k + 1; omega⟩, by rw [h79]; exact hRL.vs rfl rfl rfl, hR9, hNI, by omega, hN9, by rw [h99]; exact hF9⟩
    have hval : f' 0 = (iI (dF n lo co ct nm fl q1)).toInt64 := by rw [hf', Value.int.inj (Option.some.inj hv)]
    refine gd_istore C dL_law_247 (Nat.le_of_ble_eq_true rfl) ?_
    refine gd_aload_n C dL_law_249 rfl ?_
    refine gd_callV (n := 0) (ci := 5) (Cn := RX5) (T := TX5) (N := 18) C (kX5_thrown hl hLWb.2.2.1) ?_ rfl gL_law_X5_thrown rfl ⟨rfl, by decide, by decide, by decide +kernel⟩ rfl rfl (Nat.le_of_ble_eq_true rfl) rfl dL_law_250 ⟨⟨by decide, by decide⟩, (by show _ ≤ 601024; dsimp only; omega), (by show _ ≤ 7293034; dsimp only; omega)⟩ (fun _ h => h.elim) ?_
    · exact ⟨_, by exact hLWb.2.2.1.1⟩
    rintro _ _ ⟨rfl, rfl⟩
    refine gd_iload C dL_law_253 rfl ?_
    refine gd_icmp_eq (tgt := 260) C dL_law_255 (by decide) ?_ ?_ (fun hc255 => ?_) (fun hc255 => ?_)
    · omega
    · omega
    · refine gd_iload C dL_law_260 rfl ?_
      refine gd_if_ne (tgt := 277) C dL_law_262 (by decide) ?_ (fun hc262 => ?_) (fun hc262 => ?_)
      · omega
      · exfalso; omega
      · refine gd_aload_n C dL_law_265 rfl ?_
        refine gd_iconst C dL_law_266 ?_
        refine gd_lald C dL_law_267 hLWb.2.2.2.2.1 hval ?_
        refine gd_iload C dL_law_268 rfl ?_
        refine gd_i2l C dL_law_270 ?_
        refine gd_lcmpE C dL_law_271 ?_
        refine gd_if_eq (tgt := 277) C dL_law_272 (by decide) ?_ (fun hc272 => ?_) (fun hc272 => ?_)
        · omega
        · refine gd_goto (tgt := 1373) C dL_law_277 (by decide) ?_
          refine Gd.widen (k := cells + 10) (n := slots + 60) (by dsimp only; omega) (by dsimp only; omega) (Gd.sub (by repeat (first | exact Lsb.nil | exact Lsb.rf _ | refine Lsb.keep ?_ | refine Lsb.drop ?_)) (kk _ ⟨g, t, ar, d, ac, ab, la, na, fa, A, _, _, _, _, _, _, _, _, _, _, _, F9, G9, _, _, hLWb, hINV9⟩))
        · exfalso; omega
    · exfalso; omega
  · have hx1 : ¬ (0 ≤ q1 ∧ q1 ≤ 999) := by
      rcases hx with ⟨h8, h9⟩ | ⟨h8, h9⟩
      · exact h9
      · exact absurd h8 (by decide)
    clear hx
    have hLWa := hLW
    refine gd_istore C dL_law_235 (Nat.le_of_ble_eq_true rfl) ?_
    refine gd_aload_n C dL_law_237 rfl ?_
    refine gd_aload_n C dL_law_238 rfl ?_
    refine gd_iload C dL_law_239 rfl ?_
    refine gd_iconst C dL_law_241 ?_
    refine gd_iadd C dL_law_242 ?_
    refine gd_sld C hX hbl hzb (by omega) hL8 dL_law_243 hq1 ?_
    refine gd_callV (n := 1) (ci := 5) (Cn := RX5) (T := TX5) (N := 18) C (kX5_open hl hLWa.2.2.1 hRN hDR (by omega) hlo0 hco0 hR hI hF9 hq1R) ?_ rfl gL_law_X5_open rfl ⟨rfl, by decide, by decide, by decide +kernel⟩ rfl rfl (Nat.le_of_ble_eq_true rfl) rfl dL_law_244 ⟨⟨by decide, by decide⟩, (by show _ ≤ 601024; dsimp only; omega), (by show _ ≤ 7293034; dsimp only; omega)⟩ (fun _ h => h.elim) ?_
    · exact ⟨_, by exact hLWa.2.2.1.1⟩
    rintro r3 w3 hm
    obtain ⟨t7, ht7, rfl, F9, G9, hV, hR9, hN9, h79, h99, h179⟩ := hm.resolve_left (fun h => by have h1 := h.1; have h2 := h.2.1; have h3 := h.2.2.1; clear hm h; omega)
    have hLWb := hLWa.mod hV
    have hINV9 : INV (k + 1) T v B sc dn n lo co ct nm fl F9 G9 := ⟨hFS.up, by rw [h79]; exact hRL, hR9, hNI, by omega, hN9, by rw [h99]; exact hF9⟩
    clear hm
    have ht : t7 = 1 := by omega
    subst ht
    refine gd_istore C dL_law_247 (Nat.le_of_ble_eq_true rfl) ?_
    refine gd_aload_n C dL_law_249 rfl ?_
    refine gd_callV (n := 0) (ci := 5) (Cn := RX5) (T := TX5) (N := 18) C (kX5_thrown hl hLWb.2.2.1) ?_ rfl gL_law_X5_thrown rfl ⟨rfl, by decide, by decide, by decide +kernel⟩ rfl rfl (Nat.le_of_ble_eq_true rfl) rfl dL_law_250 ⟨⟨by decide, by decide⟩, (by show _ ≤ 601024; dsimp only; omega), (by show _ ≤ 7293034; dsimp only; omega)⟩ (fun _ h => h.elim) ?_
    · exact ⟨_, by exact hLWb.2.2.1.1⟩
    rintro _ _ ⟨rfl, rfl⟩
    refine gd_iload C dL_law_253 rfl ?_
    refine gd_icmp_eq (tgt := 260) C dL_law_255 (by decide) ?_ ?_ (fun hc255 => ?_) (fun hc255 => ?_)
    · omega
    · omega
    · refine gd_iload C dL_law_260 rfl ?_
      refine gd_if_ne (tgt := 277) C dL_law_262 (by decide) ?_ (fun hc262 => ?_) (fun hc262 => ?_)
      · omega
      · refine gd_goto (tgt := 1373) C dL_law_277 (by decide) ?_
        refine Gd.widen (k := cells + 10) (n := slots + 60) (by dsimp only; omega) (by dsimp only; omega) (Gd.sub (by repeat (first | exact Lsb.nil | exact Lsb.rf _ | refine Lsb.keep ?_ | refine Lsb.drop ?_)) (kk _ ⟨g, t, ar, d, ac, ab, la, na, fa, A, _, _, _, _, _, _, _, _, _, _, _, F9, G9, _, _, hLWb, hINV9⟩))
      · exfalso; omega
    · exfalso; omega
  · have hx1 : (0 ≤ q1 ∧ q1 ≤ 999) ∧ (dn = 1 ∨ dF n lo co ct nm fl q1 = -1) := by
      rcases hx with ⟨h8, h9⟩ | ⟨h8, h9⟩
      · exact absurd h8 (by decide)
      · exact h9
    clear hx
    have hLWa := hLW
    refine gd_istore C dL_law_235 (Nat.le_of_ble_eq_true rfl) ?_
    refine gd_aload_n C dL_law_237 rfl ?_
    refine gd_aload_n C dL_law_238 rfl ?_
    refine gd_iload C dL_law_239 rfl ?_
    refine gd_iconst C dL_law_241 ?_
    refine gd_iadd C dL_law_242 ?_
    refine gd_sld C hX hbl hzb (by omega) hL8 dL_law_243 hq1 ?_
    refine gd_callV (n := 1) (ci := 5) (Cn := RX5) (T := TX5) (N := 18) C (kX5_open hl hLWa.2.2.1 hRN hDR (by omega) hlo0 hco0 hR hI hF9 hq1R) ?_ rfl gL_law_X5_open rfl ⟨rfl, by decide, by decide, by decide +kernel⟩ rfl rfl (Nat.le_of_ble_eq_true rfl) rfl dL_law_244 ⟨⟨by decide, by decide⟩, (by show _ ≤ 601024; dsimp only; omega), (by show _ ≤ 7293034; dsimp only; omega)⟩ (fun _ h => h.elim) ?_
    · exact ⟨_, by exact hLWa.2.2.1.1⟩
    rintro r3 w3 hm
    obtain ⟨t7, ht7, rfl, F9, G9, hV, hR9, hN9, h79, h99, h179⟩ := hm.resolve_left (fun h => by have h1 := h.1; have h2 := h.2.1; have h3 := h.2.2.1; clear hm h; omega)
    have hLWb := hLWa.mod hV
    have hINV9 : INV (k + 1) T v B sc dn n lo co ct nm fl F9 G9 := ⟨hFS.up, by rw [h79]; exact hRL, hR9, hNI, by omega, hN9, by rw [h99]; exact hF9⟩
    clear hm
    have ht : t7 = 2 := by omega
    subst ht
    refine gd_istore C dL_law_247 (Nat.le_of_ble_eq_true rfl) ?_
    refine gd_aload_n C dL_law_249 rfl ?_
    refine gd_callV (n := 0) (ci := 5) (Cn := RX5) (T := TX5) (N := 18) C (kX5_thrown hl hLWb.2.2.1) ?_ rfl gL_law_X5_thrown rfl ⟨rfl, by decide, by decide, by decide +kernel⟩ rfl rfl (Nat.le_of_ble_eq_true rfl) rfl dL_law_250 ⟨⟨by decide, by decide⟩, (by show _ ≤ 601024; dsimp only; omega), (by show _ ≤ 7293034; dsimp only; omega)⟩ (fun _ h => h.elim) ?_
    · exact ⟨_, by exact hLWb.2.2.1.1⟩
    rintro _ _ ⟨rfl, rfl⟩
    refine gd_iload C dL_law_253 rfl ?_
    refine gd_icmp_eq (tgt := 260) C dL_law_255 (by decide) ?_ ?_ (fun hc255 => ?_) (fun hc255 => ?_)
    · omega
    · omega
    · refine gd_iload C dL_law_260 rfl ?_
      refine gd_if_ne (tgt := 277) C dL_law_262 (by decide) ?_ (fun hc262 => ?_) (fun hc262 => ?_)
      · omega
      · refine gd_goto (tgt := 1373) C dL_law_277 (by decide) ?_
        refine Gd.widen (k := cells + 10) (n := slots + 60) (by dsimp only; omega) (by dsimp only; omega) (Gd.sub (by repeat (first | exact Lsb.nil | exact Lsb.rf _ | refine Lsb.keep ?_ | refine Lsb.drop ?_)) (kk _ ⟨g, t, ar, d, ac, ab, la, na, fa, A, _, _, _, _, _, _, _, _, _, _, _, F9, G9, _, _, hLWb, hINV9⟩))
      · exfalso; omega
    · exfalso; omega

set_option maxRecDepth 100000 in
set_option maxHeartbeats 4000000 in
theorem cs_write {p : Program} {l : Launch} {e : Env} {s : State} {m : MethodId} {args : Array Value} {below : List Frame} {meth : Method} {c : Code} {D : va_G} {ky : Nat → ClassId} {z : Nat} {Q : State → Prop} {cells slots : Nat} {w : WT} (hl : l.stackTraces = false) (C : Cx p l s m args meth c D ky z cL_law 8 wsL_law RL) (hNC : NC3 s) {b0 L : Nat} {xs : Nat → Int32} (hX : va_X b0 L xs s s.heap) (hbl : b0 < s.heap.size) (hzb : ¬ z ≤ b0) (hL8 : L ≤ 2048) {b o ao ad : Nat} {k i : Int} (hLI : LI w ky b o ao ad k) (hk : 0 ≤ k ∧ k ≤ 511) (hi : 0 ≤ i ∧ i + 3 < L) (hcs : cells + 30 ≤ 601024 ∧ slots + 200 ≤ 7293034)
    (kk : ∀ w', LI w' ky b o ao ad (k + 1) → Gd p l e room_1 s m args below meth c D z Q (cells + 10) (slots + 60) w' 1373 [some (.ref b0), some (.ref b), some (.ref o), some (.ref ao), some (.ref ad), some (.int (iI i)), none, none] []) : Gd p l e room_1 s m args below meth c D z Q cells slots w 392 [some (.ref b0), some (.ref b), some (.ref o), some (.ref ao), some (.ref ad), some (.int (iI i)), none, none] [] := by
  obtain ⟨g, t, ar, d, ac, ab, la, na, fa, A, T, v, B, sc, dn, n, lo, co, ct, nm, fl, F, G, fo, fd, hLW, hINV⟩ := hLI
  obtain ⟨hW, hD, hM, hA0, hao, had⟩ := id hLW
  obtain ⟨hFS, hRL, hR, hNI, hPT, hRN, hF9⟩ := id hINV
  obtain ⟨hI, hOW, hL0, hsc, hds, h3c, hc0⟩ := id hFS
  obtain ⟨hi1, hi2, hi3, hi4⟩ := id hI
  have hDR := hNI.1
  have hn9 := PT_nn (ct := ct) hDR.1.1
  have hn3 : n < 300 := by omega
  have hlo0 := hNI.2.1
  have hco0 := hNI.2.2.1
  clear hn9
  obtain ⟨q1, hq1⟩ : ∃ q, scS xs (i + 1) = q := ⟨_, rfl⟩
  have hq1R : InR q1 := hq1 ▸ scS_R xs (i + 1)
  obtain ⟨q2, hq2⟩ : ∃ q, scS xs (i + 2) = q := ⟨_, rfl⟩
  have hq2R : InR q2 := hq2 ▸ scS_R xs (i + 2)
  obtain ⟨q3, hq3⟩ : ∃ q, scS xs (i + 3) = q := ⟨_, rfl⟩
  have hq3R : InR q3 := hq3 ▸ scS_R xs (i + 3)
  refine gd_aload_n C dL_law_392 rfl ?_
  refine gd_aload_n C dL_law_393 rfl ?_
  refine gd_iload C dL_law_394 rfl ?_
  refine gd_iconst C dL_law_396 ?_
  refine gd_iadd C dL_law_397 ?_
  refine gd_sld C hX hbl hzb (by omega) hL8 dL_law_398 hq1 ?_
  refine gd_aload_n C dL_law_399 rfl ?_
  refine gd_iload C dL_law_400 rfl ?_
  refine gd_iconst C dL_law_402 ?_
  refine gd_iadd C dL_law_403 ?_
  refine gd_sld C hX hbl hzb (by omega) hL8 dL_law_404 hq2 ?_
  refine gd_aload_n C dL_law_405 rfl ?_
  refine gd_iload C dL_law_406 rfl ?_
  refine gd_iconst C dL_law_408 ?_
  refine gd_iadd C dL_law_409 ?_
  refine gd_sld C hX hbl hzb (by omega) hL8 dL_law_410 hq3 ?_
  refine gd_aload_n C dL_law_411 rfl ?_
  refine gd_callSW (n := 5) C hNC (kL_write hl (kX4_write hl hW hI ⟨hq1R, hq2R, hq3R⟩) ⟨_, hW.1⟩ (ao := ao) (f := fo) ?_ (fun E h => h.imp And.left (fun h => h.imp And.left And.left))) gL_law_L_write rfl ⟨by decide, by decide, by decide +kernel⟩ rfl rfl (Nat.le_of_ble_eq_true rfl) rfl dL_law_412 ⟨⟨by decide, by decide⟩, (by show _ ≤ 601024; dsimp only; omega), (by show _ ≤ 7293034; dsimp only; omega)⟩ ?_
  · rintro r w1 ⟨-, -, -, rfl, hP0⟩
    rcases hP0 with ⟨-, hW1, -, hF1⟩ | ⟨-, -, hW1, -, hF1⟩
    · exact ⟨⟨_, rfl⟩, (hLW.cls hW1 (hD.keptC hW hF1) hF1.A).2.2.2.2.1⟩
    · exact ⟨⟨_, rfl⟩, (hLW.cls hW1 (hD.keptC hW hF1) hF1.A).2.2.2.2.1⟩
  intro r w1 hw1
  rcases hw1 with ⟨rfl, hok⟩ | ⟨rfl, ⟨rfl, hx⟩ | ⟨rfl, hx⟩ | ⟨rfl, hx⟩⟩
  · obtain ⟨x1, w2, f', hP0, hf', rfl⟩ := hok
    obtain ⟨hc1, hc2, hc3, hv, hP0⟩ := hP0
    have hlF : lF T v = 128 - sI T 0 128 - sI (fun j => v j 4) 0 16 := rfl
    have hk7 := sI_nn (g := fun j => v j 7) (a := 0) (fun i a b => (hI.k67 i a b).2.1) 16 (by decide)
    rw [show (0 : Int) + ((16 : Nat) : Int) = 16 from rfl] at hk7
    rcases hP0 with ⟨hc4, hW1, hI1, hF1⟩ | ⟨hc4, hc5, hW1, hI1, hF1⟩
    · have hLWa := (hLW.cls hW1 (hD.keptC hW hF1) hF1.A).out f'
      refine gd_istore C dL_law_415 (Nat.le_of_ble_eq_true rfl) ?_
      refine gd_aload_n C dL_law_417 rfl ?_
      refine gd_aload_n C dL_law_418 rfl ?_
      refine gd_iload C dL_law_419 rfl ?_
      refine gd_iconst C dL_law_421 ?_
      refine gd_iadd C dL_law_422 ?_
      refine gd_sld C hX hbl hzb (by omega) hL8 dL_law_423 hq1 ?_
      refine gd_aload_n C dL_law_424 rfl ?_
      refine gd_iload C dL_law_425 rfl ?_
      refine gd_iconst C dL_law_427 ?_
      refine gd_iadd C dL_law_428 ?_
      refine gd_sld C hX hbl hzb (by omega) hL8 dL_law_429 hq2 ?_
      refine gd_aload_n C dL_law_430 rfl ?_
      refine gd_iload C dL_law_431 rfl ?_
      refine gd_iconst C dL_law_433 ?_
      refine gd_iadd C dL_law_434 ?_
      refine gd_sld C hX hbl hzb (by omega) hL8 dL_law_435 hq3 ?_
      refine gd_callV (n := 3) (ci := 5) (Cn := RX5) (T := TX5) (N := 18) C (kX5_write hl hLWa.2.2.1 hR hI hq1R ⟨hq2R, hq3R⟩) ?_ rfl gL_law_X5_write rfl ⟨rfl, by decide, by decide, by decide +kernel⟩ rfl rfl (Nat.le_of_ble_eq_true rfl) rfl dL_law_436 ⟨⟨by decide, by decide⟩, (by show _ ≤ 601024; dsimp only; omega), (by show _ ≤ 7293034; dsimp only; omega)⟩ (fun _ h => h.elim) ?_
      · exact ⟨_, by exact hLWa.2.2.1.1⟩
      rintro r3 w3 hm
      replace hm := hm.resolve_right (fun ⟨t7, ht7, _⟩ => by clear hm; omega)
      obtain ⟨-, -, -, rfl, hm⟩ := hm
      obtain ⟨-, F9, G9, hV, hR9, hN9, h79, h149, h179⟩ := hm.resolve_right (fun h => by have h1 := h.1; clear hm h; omega)
      clear hm
      have hLWb := hLWa.mod hV
      have hINV9 := hINV.file (hFS.wr1 ⟨hc1.1, hc1.2.1⟩ hI1 hc4) (by rw [h79]; exact hRL.vs rfl rfl rfl) (hR9.vs ⟨rfl, rfl, rfl, rfl, rfl, rfl⟩) hN9 h149
      have hval : f' 0 = (iI ((sI (fun p => eqI (B q1 p) (-1)) q2 (q2 + q3)))).toInt64 := by rw [hf', Value.int.inj (Option.some.inj hv)]
      refine gd_istore C dL_law_439 (Nat.le_of_ble_eq_true rfl) ?_
      refine gd_aload_n C dL_law_441 rfl ?_
      refine gd_callV (n := 0) (ci := 5) (Cn := RX5) (T := TX5) (N := 18) C (kX5_thrown hl hLWb.2.2.1) ?_ rfl gL_law_X5_thrown rfl ⟨rfl, by decide, by decide, by decide +kernel⟩ rfl rfl (Nat.le_of_ble_eq_true rfl) rfl dL_law_442 ⟨⟨by decide, by decide⟩, (by show _ ≤ 601024; dsimp only; omega), (by show _ ≤ 7293034; dsimp only; omega)⟩ (fun _ h => h.elim) ?_
      · exact ⟨_, by exact hLWb.2.2.1.1⟩
      rintro _ _ ⟨rfl, rfl⟩
      refine gd_iload C dL_law_445 rfl ?_
      refine gd_icmp_eq (tgt := 452) C dL_law_447 (by decide) ?_ ?_ (fun hc447 => ?_) (fun hc447 => ?_)
      · omega
      · omega
      · refine gd_iload C dL_law_452 rfl ?_
        refine gd_if_ne (tgt := 469) C dL_law_454 (by decide) ?_ (fun hc454 => ?_) (fun hc454 => ?_)
        · omega
        · exfalso; omega
        · refine gd_aload_n C dL_law_457 rfl ?_
          refine gd_iconst C dL_law_458 ?_
          refine gd_lald C dL_law_459 hLWb.2.2.2.2.1 hval ?_
          refine gd_iload C dL_law_460 rfl ?_
          refine gd_i2l C dL_law_462 ?_
          refine gd_lcmpE C dL_law_463 ?_
          refine gd_if_eq (tgt := 469) C dL_law_464 (by decide) ?_ (fun hc464 => ?_) (fun hc464 => ?_)
          · omega
          · refine gd_goto (tgt := 1373) C dL_law_469 (by decide) ?_
            refine Gd.widen (k := cells + 10) (n := slots + 60) (by dsimp only; omega) (by dsimp only; omega) (Gd.sub (by repeat (first | exact Lsb.nil | exact Lsb.rf _ | refine Lsb.keep ?_ | refine Lsb.drop ?_)) (kk _ ⟨g, t, ar, d, ac, ab, la, na, fa, A, _, _, _, _, _, _, _, _, _, _, _, F9, G9, _, _, hLWb, hINV9⟩))
          · exfalso; omega
      · exfalso; omega
    · have hLWa := (hLW.cls hW1 (hD.keptC hW hF1) hF1.A).out f'
      refine gd_istore C dL_law_415 (Nat.le_of_ble_eq_true rfl) ?_
      refine gd_aload_n C dL_law_417 rfl ?_
      refine gd_aload_n C dL_law_418 rfl ?_
      refine gd_iload C dL_law_419 rfl ?_
      refine gd_iconst C dL_law_421 ?_
      refine gd_iadd C dL_law_422 ?_
      refine gd_sld C hX hbl hzb (by omega) hL8 dL_law_423 hq1 ?_
      refine gd_aload_n C dL_law_424 rfl ?_
      refine gd_iload C dL_law_425 rfl ?_
      refine gd_iconst C dL_law_427 ?_
      refine gd_iadd C dL_law_428 ?_
      refine gd_sld C hX hbl hzb (by omega) hL8 dL_law_429 hq2 ?_
      refine gd_aload_n C dL_law_430 rfl ?_
      refine gd_iload C dL_law_431 rfl ?_
      refine gd_iconst C dL_law_433 ?_
      refine gd_iadd C dL_law_434 ?_
      refine gd_sld C hX hbl hzb (by omega) hL8 dL_law_435 hq3 ?_
      refine gd_callV (n := 3) (ci := 5) (Cn := RX5) (T := TX5) (N := 18) C (kX5_write hl hLWa.2.2.1 hR hI hq1R ⟨hq2R, hq3R⟩) ?_ rfl gL_law_X5_write rfl ⟨rfl, by decide, by decide, by decide +kernel⟩ rfl rfl (Nat.le_of_ble_eq_true rfl) rfl dL_law_436 ⟨⟨by decide, by decide⟩, (by show _ ≤ 601024; dsimp only; omega), (by show _ ≤ 7293034; dsimp only; omega)⟩ (fun _ h => h.elim) ?_
      · exact ⟨_, by exact hLWa.2.2.1.1⟩
      rintro r3 w3 hm
      replace hm := hm.resolve_right (fun ⟨t7, ht7, _⟩ => by clear hm; omega)
      obtain ⟨-, -, -, rfl, hm⟩ := hm
      obtain ⟨-, -, F9, G9, hV, hR9, hN9, h79, h149, h179⟩ := hm.resolve_left (fun h => by have h1 := h.1; clear hm h; omega)
      clear hm
      have hLWb := hLWa.mod hV
      have hINV9 := hINV.file (hFS.wr2 ⟨hc1.1, hc1.2.1⟩ hI1 hc5) (by rw [h79]; exact hRL.rl.vs rfl rfl rfl) (hR9.vs ⟨rfl, rfl, rfl, rfl, rfl, rfl⟩) hN9 h149
      have hval : f' 0 = (iI ((sI (fun p => eqI (B q1 p) (-1)) q2 (q2 + q3)))).toInt64 := by rw [hf', Value.int.inj (Option.some.inj hv)]
      refine gd_istore C dL_law_439 (Nat.le_of_ble_eq_true rfl) ?_
      refine gd_aload_n C dL_law_441 rfl ?_
      refine gd_callV (n := 0) (ci := 5) (Cn := RX5) (T := TX5) (N := 18) C (kX5_thrown hl hLWb.2.2.1) ?_ rfl gL_law_X5_thrown rfl ⟨rfl, by decide, by decide, by decide +kernel⟩ rfl rfl (Nat.le_of_ble_eq_true rfl) rfl dL_law_442 ⟨⟨by decide, by decide⟩, (by show _ ≤ 601024; dsimp only; omega), (by show _ ≤ 7293034; dsimp only; omega)⟩ (fun _ h => h.elim) ?_
      · exact ⟨_, by exact hLWb.2.2.1.1⟩
      rintro _ _ ⟨rfl, rfl⟩
      refine gd_iload C dL_law_445 rfl ?_
      refine gd_icmp_eq (tgt := 452) C dL_law_447 (by decide) ?_ ?_ (fun hc447 => ?_) (fun hc447 => ?_)
      · omega
      · omega
      · refine gd_iload C dL_law_452 rfl ?_
        refine gd_if_ne (tgt := 469) C dL_law_454 (by decide) ?_ (fun hc454 => ?_) (fun hc454 => ?_)
        · omega
        · exfalso; omega
        · refine gd_aload_n C dL_law_457 rfl ?_
          refine gd_iconst C dL_law_458 ?_
          refine gd_lald C dL_law_459 hLWb.2.2.2.2.1 hval ?_
          refine gd_iload C dL_law_460 rfl ?_
          refine gd_i2l C dL_law_462 ?_
          refine gd_lcmpE C dL_law_463 ?_
          refine gd_if_eq (tgt := 469) C dL_law_464 (by decide) ?_ (fun hc464 => ?_) (fun hc464 => ?_)
          · omega
          · refine gd_goto (tgt := 1373) C dL_law_469 (by decide) ?_
            refine Gd.widen (k := cells + 10) (n := slots + 60) (by dsimp only; omega) (by dsimp only; omega) (Gd.sub (by repeat (first | exact Lsb.nil | exact Lsb.rf _ | refine Lsb.keep ?_ | refine Lsb.drop ?_)) (kk _ ⟨g, t, ar, d, ac, ab, la, na, fa, A, _, _, _, _, _, _, _, _, _, _, _, F9, G9, _, _, hLWb, hINV9⟩))
          · exfalso; omega
      · exfalso; omega
  · have hx1 : ¬ (0 ≤ q1 ∧ q1 < 16 ∧ v q1 2 = 1) := by
      rcases hx with ⟨h8, h9⟩ | ⟨h8, h9⟩ | ⟨h8, h9⟩
      · exact h9
      · exact absurd h8 (by decide)
      · exact absurd h8 (by decide)
    clear hx
    have hLWa := hLW
    have hlF : lF T v = 128 - sI T 0 128 - sI (fun j => v j 4) 0 16 := rfl
    have hk7 := sI_nn (g := fun j => v j 7) (a := 0) (fun i a b => (hI.k67 i a b).2.1) 16 (by decide)
    rw [show (0 : Int) + ((16 : Nat) : Int) = 16 from rfl] at hk7
    refine gd_istore C dL_law_415 (Nat.le_of_ble_eq_true rfl) ?_
    refine gd_aload_n C dL_law_417 rfl ?_
    refine gd_aload_n C dL_law_418 rfl ?_
    refine gd_iload C dL_law_419 rfl ?_
    refine gd_iconst C dL_law_421 ?_
    refine gd_iadd C dL_law_422 ?_
    refine gd_sld C hX hbl hzb (by omega) hL8 dL_law_423 hq1 ?_
    refine gd_aload_n C dL_law_424 rfl ?_
    refine gd_iload C dL_law_425 rfl ?_
    refine gd_iconst C dL_law_427 ?_
    refine gd_iadd C dL_law_428 ?_
    refine gd_sld C hX hbl hzb (by omega) hL8 dL_law_429 hq2 ?_
    refine gd_aload_n C dL_law_430 rfl ?_
    refine gd_iload C dL_law_431 rfl ?_
    refine gd_iconst C dL_law_433 ?_
    refine gd_iadd C dL_law_434 ?_
    refine gd_sld C hX hbl hzb (by omega) hL8 dL_law_435 hq3 ?_
    refine gd_callV (n := 3) (ci := 5) (Cn := RX5) (T := TX5) (N := 18) C (kX5_write hl hLWa.2.2.1 hR hI hq1R ⟨hq2R, hq3R⟩) ?_ rfl gL_law_X5_write rfl ⟨rfl, by decide, by decide, by decide +kernel⟩ rfl rfl (Nat.le_of_ble_eq_true rfl) rfl dL_law_436 ⟨⟨by decide, by decide⟩, (by show _ ≤ 601024; dsimp only; omega), (by show _ ≤ 7293034; dsimp only; omega)⟩ (fun _ h => h.elim) ?_
    · exact ⟨_, by exact hLWa.2.2.1.1⟩
    rintro r3 w3 hm
    obtain ⟨t7, ht7, rfl, F9, G9, hV, hR9, hN9, h79, h149, h179⟩ := hm.resolve_left (fun h => by have h1 := h.1; have h2 := h.2.1; have h3 := h.2.2.1; have h4 := h.2.2.2.2.imp And.left (fun h => h.2.1); clear hm h; omega)
    have hLWb := hLWa.mod hV
    have hINV9 := hINV.same hR9 hN9 h79 h149
    clear hm
    have ht : t7 = 1 := by omega
    subst ht
    refine gd_istore C dL_law_439 (Nat.le_of_ble_eq_true rfl) ?_
    refine gd_aload_n C dL_law_441 rfl ?_
    refine gd_callV (n := 0) (ci := 5) (Cn := RX5) (T := TX5) (N := 18) C (kX5_thrown hl hLWb.2.2.1) ?_ rfl gL_law_X5_thrown rfl ⟨rfl, by decide, by decide, by decide +kernel⟩ rfl rfl (Nat.le_of_ble_eq_true rfl) rfl dL_law_442 ⟨⟨by decide, by decide⟩, (by show _ ≤ 601024; dsimp only; omega), (by show _ ≤ 7293034; dsimp only; omega)⟩ (fun _ h => h.elim) ?_
    · exact ⟨_, by exact hLWb.2.2.1.1⟩
    rintro _ _ ⟨rfl, rfl⟩
    refine gd_iload C dL_law_445 rfl ?_
    refine gd_icmp_eq (tgt := 452) C dL_law_447 (by decide) ?_ ?_ (fun hc447 => ?_) (fun hc447 => ?_)
    · omega
    · omega
    · refine gd_iload C dL_law_452 rfl ?_
      refine gd_if_ne (tgt := 469) C dL_law_454 (by decide) ?_ (fun hc454 => ?_) (fun hc454 => ?_)
      · omega
      · refine gd_goto (tgt := 1373) C dL_law_469 (by decide) ?_
        refine Gd.widen (k := cells + 10) (n := slots + 60) (by dsimp only; omega) (by dsimp only; omega) (Gd.sub (by repeat (first | exact Lsb.nil | exact Lsb.rf _ | refine Lsb.keep ?_ | refine Lsb.drop ?_)) (kk _ ⟨g, t, ar, d, ac, ab, la, na, fa, A, _, _, _, _, _, _, _, _, _, _, _, F9, G9, _, _, hLWb, hINV9⟩))
      · exfalso; omega
    · exfalso; omega
  · have hx1 : (0 ≤ q1 ∧ q1 < 16 ∧ v q1 2 = 1) ∧ ¬ ((0 ≤ q2 ∧ q2 ≤ 63) ∧ 1 ≤ q3 ∧ q3 ≤ 64 - q2) := by
      rcases hx with ⟨h8, h9⟩ | ⟨h8, h9⟩ | ⟨h8, h9⟩
      · exact absurd h8 (by decide)
      · exact h9
      · exact absurd h8 (by decide)
    clear hx
    have hLWa := hLW
    have hlF : lF T v = 128 - sI T 0 128 - sI (fun j => v j 4) 0 16 := rfl
    have hk7 := sI_nn (g := fun j => v j 7) (a := 0) (fun i a b => (hI.k67 i a b).2.1) 16 (by decide)
    rw [show (0 : Int) + ((16 : Nat) : Int) = 16 from rfl] at hk7
    refine gd_istore C dL_law_415 (Nat.le_of_ble_eq_true rfl) ?_
    refine gd_aload_n C dL_law_417 rfl ?_
    refine gd_aload_n C dL_law_418 rfl ?_
    refine gd_iload C dL_law_419 rfl ?_
    refine gd_iconst C dL_law_421 ?_
    refine gd_iadd C dL_law_422 ?_
    refine gd_sld C hX hbl hzb (by omega) hL8 dL_law_423 hq1 ?_
    refine gd_aload_n C dL_law_424 rfl ?_
    refine gd_iload C dL_law_425 rfl ?_
    refine gd_iconst C dL_law_427 ?_
    refine gd_iadd C dL_law_428 ?_
    refine gd_sld C hX hbl hzb (by omega) hL8 dL_law_429 hq2 ?_
    refine gd_aload_n C dL_law_430 rfl ?_
    refine gd_iload C dL_law_431 rfl ?_
    refine gd_iconst C dL_law_433 ?_
    refine gd_iadd C dL_law_434 ?_
    refine gd_sld C hX hbl hzb (by omega) hL8 dL_law_435 hq3 ?_
    refine gd_callV (n := 3) (ci := 5) (Cn := RX5) (T := TX5) (N := 18) C (kX5_write hl hLWa.2.2.1 hR hI hq1R ⟨hq2R, hq3R⟩) ?_ rfl gL_law_X5_write rfl ⟨rfl, by decide, by decide, by decide +kernel⟩ rfl rfl (Nat.le_of_ble_eq_true rfl) rfl dL_law_436 ⟨⟨by decide, by decide⟩, (by show _ ≤ 601024; dsimp only; omega), (by show _ ≤ 7293034; dsimp only; omega)⟩ (fun _ h => h.elim) ?_
    · exact ⟨_, by exact hLWa.2.2.1.1⟩
    rintro r3 w3 hm
    obtain ⟨t7, ht7, rfl, F9, G9, hV, hR9, hN9, h79, h149, h179⟩ := hm.resolve_left (fun h => by have h1 := h.1; have h2 := h.2.1; have h3 := h.2.2.1; have h4 := h.2.2.2.2.imp And.left (fun h => h.2.1); clear hm h; omega)
    have hLWb := hLWa.mod hV
    have hINV9 := hINV.same hR9 hN9 h79 h149
    clear hm
    have ht : t7 = 2 := by omega
    subst ht
    refine gd_istore C dL_law_439 (Nat.le_of_ble_eq_true rfl) ?_
    refine gd_aload_n C dL_law_441 rfl ?_
    refine gd_callV (n := 0) (ci := 5) (Cn := RX5) (T := TX5) (N := 18) C (kX5_thrown hl hLWb.2.2.1) ?_ rfl gL_law_X5_thrown rfl ⟨rfl, by decide, by decide, by decide +kernel⟩ rfl rfl (Nat.le_of_ble_eq_true rfl) rfl dL_law_442 ⟨⟨by decide, by decide⟩, (by show _ ≤ 601024; dsimp only; omega), (by show _ ≤ 7293034; dsimp only; omega)⟩ (fun _ h => h.elim) ?_
    · exact ⟨_, by exact hLWb.2.2.1.1⟩
    rintro _ _ ⟨rfl, rfl⟩
    refine gd_iload C dL_law_445 rfl ?_
    refine gd_icmp_eq (tgt := 452) C dL_law_447 (by decide) ?_ ?_ (fun hc447 => ?_) (fun hc447 => ?_)
    · omega
    · omega
    · refine gd_iload C dL_law_452 rfl ?_
      refine gd_if_ne (tgt := 469) C dL_law_454 (by decide) ?_ (fun hc454 => ?_) (fun hc454 => ?_)
      · omega
      · refine gd_goto (tgt := 1373) C dL_law_469 (by decide) ?_
        refine Gd.widen (k := cells + 10) (n := slots + 60) (by dsimp only; omega) (by dsimp only; omega) (Gd.sub (by repeat (first | exact Lsb.nil | exact Lsb.rf _ | refine Lsb.keep ?_ | refine Lsb.drop ?_)) (kk _ ⟨g, t, ar, d, ac, ab, la, na, fa, A, _, _, _, _, _, _, _, _, _, _, _, F9, G9, _, _, hLWb, hINV9⟩))
      · exfalso; omega
    · exfalso; omega
  · have hx1 : (0 ≤ q1 ∧ q1 < 16 ∧ v q1 2 = 1) ∧ ((0 ≤ q2 ∧ q2 ≤ 63) ∧ 1 ≤ q3 ∧ q3 ≤ 64 - q2) ∧ (dn = 1 ∨ (128 - sI T 0 128 - sI (fun j => v j 4) 0 16) + (sI (fun j => v j 7) 0 16) < (sI (fun p => eqI (B q1 p) (-1)) q2 (q2 + q3))) := by
      rcases hx with ⟨h8, h9⟩ | ⟨h8, h9⟩ | ⟨h8, h9⟩
      · exact absurd h8 (by decide)
      · exact absurd h8 (by decide)
      · exact h9
    clear hx
    have hLWa := hLW
    have hlF : lF T v = 128 - sI T 0 128 - sI (fun j => v j 4) 0 16 := rfl
    have hk7 := sI_nn (g := fun j => v j 7) (a := 0) (fun i a b => (hI.k67 i a b).2.1) 16 (by decide)
    rw [show (0 : Int) + ((16 : Nat) : Int) = 16 from rfl] at hk7
    refine gd_istore C dL_law_415 (Nat.le_of_ble_eq_true rfl) ?_
    refine gd_aload_n C dL_law_417 rfl ?_
    refine gd_aload_n C dL_law_418 rfl ?_
    refine gd_iload C dL_law_419 rfl ?_
    refine gd_iconst C dL_law_421 ?_
    refine gd_iadd C dL_law_422 ?_
    refine gd_sld C hX hbl hzb (by omega) hL8 dL_law_423 hq1 ?_
    refine gd_aload_n C dL_law_424 rfl ?_
    refine gd_iload C dL_law_425 rfl ?_
    refine gd_iconst C dL_law_427 ?_
    refine gd_iadd C dL_law_428 ?_
    refine gd_sld C hX hbl hzb (by omega) hL8 dL_law_429 hq2 ?_
    refine gd_aload_n C dL_law_430 rfl ?_
    refine gd_iload C dL_law_431 rfl ?_
    refine gd_iconst C dL_law_433 ?_
    refine gd_iadd C dL_law_434 ?_
    refine gd_sld C hX hbl hzb (by omega) hL8 dL_law_435 hq3 ?_
    refine gd_callV (n := 3) (ci := 5) (Cn := RX5) (T := TX5) (N := 18) C (kX5_write hl hLWa.2.2.1 hR hI hq1R ⟨hq2R, hq3R⟩) ?_ rfl gL_law_X5_write rfl ⟨rfl, by decide, by decide, by decide +kernel⟩ rfl rfl (Nat.le_of_ble_eq_true rfl) rfl dL_law_436 ⟨⟨by decide, by decide⟩, (by show _ ≤ 601024; dsimp only; omega), (by show _ ≤ 7293034; dsimp only; omega)⟩ (fun _ h => h.elim) ?_
    · exact ⟨_, by exact hLWa.2.2.1.1⟩
    rintro r3 w3 hm
    obtain ⟨t7, ht7, rfl, F9, G9, hV, hR9, hN9, h79, h149, h179⟩ := hm.resolve_left (fun h => by have h1 := h.1; have h2 := h.2.1; have h3 := h.2.2.1; have h4 := h.2.2.2.2.imp And.left (fun h => h.2.1); clear hm h; omega)
    have hLWb := hLWa.mod hV
    have hINV9 := hINV.same hR9 hN9 h79 h149
    clear hm
    have ht : t7 = 3 := by omega
    subst ht
    refine gd_istore C dL_law_439 (Nat.le_of_ble_eq_true rfl) ?_
    refine gd_aload_n C dL_law_441 rfl ?_
    refine gd_callV (n := 0) (ci := 5) (Cn := RX5) (T := TX5) (N := 18) C (kX5_thrown hl hLWb.2.2.1) ?_ rfl gL_law_X5_thrown rfl ⟨rfl, by decide, by decide, by decide +kernel⟩ rfl rfl (Nat.le_of_ble_eq_true rfl) rfl dL_law_442 ⟨⟨by decide, by decide⟩, (by show _ ≤ 601024; dsimp only; omega), (by show _ ≤ 7293034; dsimp only; omega)⟩ (fun _ h => h.elim) ?_
    · exact ⟨_, by exact hLWb.2.2.1.1⟩
    rintro _ _ ⟨rfl, rfl⟩
    refine gd_iload C dL_law_445 rfl ?_
    refine gd_icmp_eq (tgt := 452) C dL_law_447 (by decide) ?_ ?_ (fun hc447 => ?_) (fun hc447 => ?_)
    · omega
    · omega
    · refine gd_iload C dL_law_452 rfl ?_
      refine gd_if_ne (tgt := 469) C dL_law_454 (by decide) ?_ (fun hc454 => ?_) (fun hc454 => ?_)
      · omega
      · refine gd_goto (tgt := 1373) C dL_law_469 (by decide) ?_
        refine Gd.widen (k := cells + 10) (n := slots + 60) (by dsimp only; omega) (by dsimp only; omega) (Gd.sub (by repeat (first | exact Lsb.nil | exact Lsb.rf _ | refine Lsb.keep ?_ | refine Lsb.drop ?_)) (kk _ ⟨g, t, ar, d, ac, ab, la, na, fa, A, _, _, _, _, _, _, _, _, _, _, _, F9, G9, _, _, hLWb, hINV9⟩))
      · exfalso; omega
    · exfalso; omega

set_option maxRecDepth 100000 in
set_option maxHeartbeats 4000000 in
theorem cs_cut {p : Program} {l : Launch} {e : Env} {s : State} {m : MethodId} {args : Array Value} {below : List Frame} {meth : Method} {c : Code} {D : va_G} {ky : Nat → ClassId} {z : Nat} {Q : State → Prop} {cells slots : Nat} {w : WT} (hl : l.stackTraces = false) (C : Cx p l s m args meth c D ky z cL_law 8 wsL_law RL) (hNC : NC3 s) {b0 L : Nat} {xs : Nat → Int32} (hX : va_X b0 L xs s s.heap) (hbl : b0 < s.heap.size) (hzb : ¬ z ≤ b0) (hL8 : L ≤ 2048) {b o ao ad : Nat} {k i : Int} (hLI : LI w ky b o ao ad k) (hk : 0 ≤ k ∧ k ≤ 511) (hi : 0 ≤ i ∧ i + 3 < L) (hcs : cells + 30 ≤ 601024 ∧ slots + 200 ≤ 7293034)
    (kk : ∀ w', LI w' ky b o ao ad (k + 1) → Gd p l e room_1 s m args below meth c D z Q (cells + 10) (slots + 60) w' 1373 [some (.ref b0), some (.ref b), some (.ref o), some (.ref ao), some (.ref ad), some (.int (iI i)), none, none] []) : Gd p l e room_1 s m args below meth c D z Q cells slots w 528 [some (.ref b0), some (.ref b), some (.ref o), some (.ref ao), some (.ref ad), some (.int (iI i)), none, none] [] := by
  obtain ⟨g, t, ar, d, ac, ab, la, na, fa, A, T, v, B, sc, dn, n, lo, co, ct, nm, fl, F, G, fo, fd, hLW, hINV⟩ := hLI
  obtain ⟨hW, hD, hM, hA0, hao, had⟩ := id hLW
  obtain ⟨hFS, hRL, hR, hNI, hPT, hRN, hF9⟩ := id hINV
  obtain ⟨hI, hOW, hL0, hsc, hds, h3c, hc0⟩ := id hFS
  obtain ⟨hi1, hi2, hi3, hi4⟩ := id hI
  have hDR := hNI.1
  have hn9 := PT_nn (ct := ct) hDR.1.1
  have hn3 : n < 300 := by omega
  have hlo0 := hNI.2.1
  have hco0 := hNI.2.2.1
  clear hn9
  obtain ⟨q1, hq1⟩ : ∃ q, scS xs (i + 1) = q := ⟨_, rfl⟩
  have hq1R : InR q1 := hq1 ▸ scS_R xs (i + 1)
  obtain ⟨q2, hq2⟩ : ∃ q, scS xs (i + 2) = q := ⟨_, rfl⟩
  have hq2R : InR q2 := hq2 ▸ scS_R xs (i + 2)
  obtain ⟨q3, hq3⟩ : ∃ q, scS xs (i + 3) = q := ⟨_, rfl⟩
  have hq3R : InR q3 := hq3 ▸ scS_R xs (i + 3)
  refine gd_aload_n C dL_law_528 rfl ?_
  refine gd_aload_n C dL_law_529 rfl ?_
  refine gd_iload C dL_law_530 rfl ?_
  refine gd_iconst C dL_law_532 ?_
  refine gd_iadd C dL_law_533 ?_
  refine gd_sld C hX hbl hzb (by omega) hL8 dL_law_534 hq1 ?_
  refine gd_aload_n C dL_law_535 rfl ?_
  refine gd_iload C dL_law_536 rfl ?_
  refine gd_iconst C dL_law_538 ?_
  refine gd_iadd C dL_law_539 ?_
  refine gd_sld C hX hbl hzb (by omega) hL8 dL_law_540 hq2 ?_
  refine gd_aload_n C dL_law_541 rfl ?_
  refine gd_callSW (n := 4) C hNC (kL_cut hl (kX4_cut hl hW hI ⟨hq1R, hq2R⟩) ⟨_, hW.1⟩ (ao := ao) (f := fo) ?_ (fun E h => h.imp And.left (fun h => h.imp And.left And.left))) gL_law_L_cut rfl ⟨by decide, by decide, by decide +kernel⟩ rfl rfl (Nat.le_of_ble_eq_true rfl) rfl dL_law_542 ⟨⟨by decide, by decide⟩, (by show _ ≤ 601024; dsimp only; omega), (by show _ ≤ 7293034; dsimp only; omega)⟩ ?_
  · rintro r w1 ⟨-, -, -, hP0⟩
    rcases hP0 with ⟨-, rfl, hW1, -, hF1⟩ | ⟨-, rfl, -, -, hW1, -, hF1⟩
    · exact ⟨⟨_, rfl⟩, (hLW.cls hW1 (hD.keptC hW hF1) hF1.A).2.2.2.2.1⟩
    · exact ⟨⟨_, rfl⟩, (hLW.cls hW1 (hD.keptC hW hF1) hF1.A).2.2.2.2.1⟩
  intro r w1 hw1
  rcases hw1 with ⟨rfl, hok⟩ | ⟨rfl, ⟨rfl, hx⟩ | ⟨rfl, hx⟩ | ⟨rfl, hx⟩⟩
  · obtain ⟨x1, w2, f', hP0, hf', rfl⟩ := hok
    obtain ⟨hc1, hc2, hc3, hP0⟩ := hP0
    rcases hP0 with ⟨hc4, hv, hW1, hI1, hF1⟩ | ⟨hc4, hv, -, -, hW1, hI1, hF1⟩
    · have hLWa := (hLW.cls hW1 (hD.keptC hW hF1) hF1.A).out f'
      refine gd_istore C dL_law_545 (Nat.le_of_ble_eq_true rfl) ?_
      refine gd_aload_n C dL_law_547 rfl ?_
      refine gd_aload_n C dL_law_548 rfl ?_
      refine gd_iload C dL_law_549 rfl ?_
      refine gd_iconst C dL_law_551 ?_
      refine gd_iadd C dL_law_552 ?_
      refine gd_sld C hX hbl hzb (by omega) hL8 dL_law_553 hq1 ?_
      refine gd_aload_n C dL_law_554 rfl ?_
      refine gd_iload C dL_law_555 rfl ?_
      refine gd_iconst C dL_law_557 ?_
      refine gd_iadd C dL_law_558 ?_
      refine gd_sld C hX hbl hzb (by omega) hL8 dL_law_559 hq2 ?_
      refine gd_callV (n := 2) (ci := 5) (Cn := RX5) (T := TX5) (N := 18) C (kX5_cut hl hLWa.2.2.1 hR hI hq1R hq2R hsc) ?_ rfl gL_law_X5_cut rfl ⟨rfl, by decide, by decide, by decide +kernel⟩ rfl rfl (Nat.le_of_ble_eq_true rfl) rfl dL_law_560 ⟨⟨by decide, by decide⟩, (by show _ ≤ 601024; dsimp only; omega), (by show _ ≤ 7293034; dsimp only; omega)⟩ (fun _ h => h.elim) ?_
      · exact ⟨_, by exact hLWa.2.2.1.1⟩
      rintro r3 w3 hm
      replace hm := hm.resolve_right (fun ⟨t7, ht7, _⟩ => by clear hm; omega)
      obtain ⟨-, -, -, hm⟩ := hm
      obtain ⟨-, rfl, F9, G9, hV, hR9, hN9, h79, h149, h179⟩ := hm.resolve_right (fun h => by have h1 := h.1; clear hm h; omega)
      clear hm
      have hLWb := hLWa.mod hV
      have hINV9 := hINV.file (hFS.cutC (u := ctU (v q1) (B q1) q2) ⟨hc1.1, hc1.2.1⟩ hc2 ⟨rfl, rfl⟩ hI1).up (by rw [h79]; exact (hRL.set (y := q2) ⟨by omega, by omega⟩ ⟨fun _ => Or.inr (by omega), fun _ => rfl⟩ (fun _ _ => rfl)).fl) (hR9.cx (agU ⟨rfl, rfl, rfl, rfl, rfl⟩)) hN9 h149
      have hval : f' 0 = (iI (-1)).toInt64 := by rw [hf', Value.int.inj (Option.some.inj hv)]
      refine gd_istore C dL_law_563 (Nat.le_of_ble_eq_true rfl) ?_
      refine gd_aload_n C dL_law_565 rfl ?_
      refine gd_callV (n := 0) (ci := 5) (Cn := RX5) (T := TX5) (N := 18) C (kX5_thrown hl hLWb.2.2.1) ?_ rfl gL_law_X5_thrown rfl ⟨rfl, by decide, by decide, by decide +kernel⟩ rfl rfl (Nat.le_of_ble_eq_true rfl) rfl dL_law_566 ⟨⟨by decide, by decide⟩, (by show _ ≤ 601024; dsimp only; omega), (by show _ ≤ 7293034; dsimp only; omega)⟩ (fun _ h => h.elim) ?_
      · exact ⟨_, by exact hLWb.2.2.1.1⟩
      rintro _ _ ⟨rfl, rfl⟩
      refine gd_iload C dL_law_569 rfl ?_
      refine gd_icmp_eq (tgt := 576) C dL_law_571 (by decide) ?_ ?_ (fun hc571 => ?_) (fun hc571 => ?_)
      · omega
      · omega
      · refine gd_iload C dL_law_576 rfl ?_
        refine gd_if_ne (tgt := 593) C dL_law_578 (by decide) ?_ (fun hc578 => ?_) (fun hc578 => ?_)
        · omega
        · exfalso; omega
        · refine gd_aload_n C dL_law_581 rfl ?_
          refine gd_iconst C dL_law_582 ?_
          refine gd_lald C dL_law_583 hLWb.2.2.2.2.1 hval ?_
          refine gd_iload C dL_law_584 rfl ?_
          refine gd_i2l C dL_law_586 ?_
          refine gd_lcmpE C dL_law_587 ?_
          refine gd_if_eq (tgt := 593) C dL_law_588 (by decide) ?_ (fun hc588 => ?_) (fun hc588 => ?_)
          · omega
          · refine gd_goto (tgt := 1373) C dL_law_593 (by decide) ?_
            refine Gd.widen (k := cells + 10) (n := slots + 60) (by dsimp only; omega) (by dsimp only; omega) (Gd.sub (by repeat (first | exact Lsb.nil | exact Lsb.rf _ | refine Lsb.keep ?_ | refine Lsb.drop ?_)) (kk _ ⟨g, t, ar, d, ac, ab, la, na, fa, A, _, _, _, _, _, _, _, _, _, _, _, F9, G9, _, _, hLWb, hINV9⟩))
          · exfalso; omega
      · exfalso; omega
    · have hLWa := (hLW.cls hW1 (hD.keptC hW hF1) hF1.A).out f'
      have h39 := h3c _ hc1.1 hc1.2.1
      have hnn := eqI_nn (f := B q1) (x := -2) hc2.2
      refine gd_istore C dL_law_545 (Nat.le_of_ble_eq_true rfl) ?_
      refine gd_aload_n C dL_law_547 rfl ?_
      refine gd_aload_n C dL_law_548 rfl ?_
      refine gd_iload C dL_law_549 rfl ?_
      refine gd_iconst C dL_law_551 ?_
      refine gd_iadd C dL_law_552 ?_
      refine gd_sld C hX hbl hzb (by omega) hL8 dL_law_553 hq1 ?_
      refine gd_aload_n C dL_law_554 rfl ?_
      refine gd_iload C dL_law_555 rfl ?_
      refine gd_iconst C dL_law_557 ?_
      refine gd_iadd C dL_law_558 ?_
      refine gd_sld C hX hbl hzb (by omega) hL8 dL_law_559 hq2 ?_
      refine gd_callV (n := 2) (ci := 5) (Cn := RX5) (T := TX5) (N := 18) C (kX5_cut hl hLWa.2.2.1 hR hI hq1R hq2R hsc) ?_ rfl gL_law_X5_cut rfl ⟨rfl, by decide, by decide, by decide +kernel⟩ rfl rfl (Nat.le_of_ble_eq_true rfl) rfl dL_law_560 ⟨⟨by decide, by decide⟩, (by show _ ≤ 601024; dsimp only; omega), (by show _ ≤ 7293034; dsimp only; omega)⟩ (fun _ h => h.elim) ?_
      · exact ⟨_, by exact hLWa.2.2.1.1⟩
      rintro r3 w3 hm
      replace hm := hm.resolve_right (fun ⟨t7, ht7, _⟩ => by clear hm; omega)
      obtain ⟨-, -, -, hm⟩ := hm
      obtain ⟨-, rfl, F9, G9, hV, hR9, hN9, h79, h149, h179⟩ := hm.resolve_left (fun h => by have h1 := h.1; clear hm h; omega)
      clear hm
      have hLWb := hLWa.mod hV
      have hINV9 := hINV.file (hFS.cutD (u := fU (ctU (v q1) (B q1) q2) 8 (v q1 9)) ⟨hc1.1, hc1.2.1⟩ hc2 hc3 hc4 ⟨rfl, rfl, by show v q1 4 - sI (fun p => eqI (B q1 p) (-2)) q2 64 ≤ v q1 4; omega, h39⟩ hI1).up (by rw [h79, fU_ss]; exact hRL.en rfl) (hR9.us ⟨rfl, rfl, rfl, rfl, rfl, rfl⟩) hN9 h149
      have hval : f' 0 = (iI ((ctS q2 (64 - (q2 : Int)).toNat (tkF T (v q1 6) (v q1 7) 0) (drF (B q1) q2 64) sc 0).2.2.2.2)).toInt64 := by rw [hf', Value.int.inj (Option.some.inj hv)]
      refine gd_istore C dL_law_563 (Nat.le_of_ble_eq_true rfl) ?_
      refine gd_aload_n C dL_law_565 rfl ?_
      refine gd_callV (n := 0) (ci := 5) (Cn := RX5) (T := TX5) (N := 18) C (kX5_thrown hl hLWb.2.2.1) ?_ rfl gL_law_X5_thrown rfl ⟨rfl, by decide, by decide, by decide +kernel⟩ rfl rfl (Nat.le_of_ble_eq_true rfl) rfl dL_law_566 ⟨⟨by decide, by decide⟩, (by show _ ≤ 601024; dsimp only; omega), (by show _ ≤ 7293034; dsimp only; omega)⟩ (fun _ h => h.elim) ?_
      · exact ⟨_, by exact hLWb.2.2.1.1⟩
      rintro _ _ ⟨rfl, rfl⟩
      refine gd_iload C dL_law_569 rfl ?_
      refine gd_icmp_eq (tgt := 576) C dL_law_571 (by decide) ?_ ?_ (fun hc571 => ?_) (fun hc571 => ?_)
      · omega
      · omega
      · refine gd_iload C dL_law_576 rfl ?_
        refine gd_if_ne (tgt := 593) C dL_law_578 (by decide) ?_ (fun hc578 => ?_) (fun hc578 => ?_)
        · omega
        · exfalso; omega
        · refine gd_aload_n C dL_law_581 rfl ?_
          refine gd_iconst C dL_law_582 ?_
          refine gd_lald C dL_law_583 hLWb.2.2.2.2.1 hval ?_
          refine gd_iload C dL_law_584 rfl ?_
          refine gd_i2l C dL_law_586 ?_
          refine gd_lcmpE C dL_law_587 ?_
          refine gd_if_eq (tgt := 593) C dL_law_588 (by decide) ?_ (fun hc588 => ?_) (fun hc588 => ?_)
          · omega
          · refine gd_goto (tgt := 1373) C dL_law_593 (by decide) ?_
            refine Gd.widen (k := cells + 10) (n := slots + 60) (by dsimp only; omega) (by dsimp only; omega) (Gd.sub (by repeat (first | exact Lsb.nil | exact Lsb.rf _ | refine Lsb.keep ?_ | refine Lsb.drop ?_)) (kk _ ⟨g, t, ar, d, ac, ab, la, na, fa, A, _, _, _, _, _, _, _, _, _, _, _, F9, G9, _, _, hLWb, hINV9⟩))
          · exfalso; omega
      · exfalso; omega
  · have hx1 : ¬ (0 ≤ q1 ∧ q1 < 16 ∧ v q1 2 = 1) := by
      rcases hx with ⟨h8, h9⟩ | ⟨h8, h9⟩ | ⟨h8, h9⟩
      · exact h9
      · exact absurd h8 (by decide)
      · exact absurd h8 (by decide)
    clear hx
    have hLWa := hLW
    refine gd_istore C dL_law_545 (Nat.le_of_ble_eq_true rfl) ?_
    refine gd_aload_n C dL_law_547 rfl ?_
    refine gd_aload_n C dL_law_548 rfl ?_
    refine gd_iload C dL_law_549 rfl ?_
    refine gd_iconst C dL_law_551 ?_
    refine gd_iadd C dL_law_552 ?_
    refine gd_sld C hX hbl hzb (by omega) hL8 dL_law_553 hq1 ?_
    refine gd_aload_n C dL_law_554 rfl ?_
    refine gd_iload C dL_law_555 rfl ?_
    refine gd_iconst C dL_law_557 ?_
    refine gd_iadd C dL_law_558 ?_
    refine gd_sld C hX hbl hzb (by omega) hL8 dL_law_559 hq2 ?_
    refine gd_callV (n := 2) (ci := 5) (Cn := RX5) (T := TX5) (N := 18) C (kX5_cut hl hLWa.2.2.1 hR hI hq1R hq2R hsc) ?_ rfl gL_law_X5_cut rfl ⟨rfl, by decide, by decide, by decide +kernel⟩ rfl rfl (Nat.le_of_ble_eq_true rfl) rfl dL_law_560 ⟨⟨by decide, by decide⟩, (by show _ ≤ 601024; dsimp only; omega), (by show _ ≤ 7293034; dsimp only; omega)⟩ (fun _ h => h.elim) ?_
    · exact ⟨_, by exact hLWa.2.2.1.1⟩
    rintro r3 w3 hm
    obtain ⟨t7, ht7, rfl, F9, G9, hV, hR9, hN9, h79, h149, h179⟩ := hm.resolve_left (fun h => by have h1 := h.1; have h2 := h.2.1; have h3 := h.2.2.1; clear hm h; omega)
    have hLWb := hLWa.mod hV
    have hINV9 := hINV.same hR9 hN9 h79 h149
    clear hm
    have ht : t7 = 1 := by omega
    subst ht
    refine gd_istore C dL_law_563 (Nat.le_of_ble_eq_true rfl) ?_
    refine gd_aload_n C dL_law_565 rfl ?_
    refine gd_callV (n := 0) (ci := 5) (Cn := RX5) (T := TX5) (N := 18) C (kX5_thrown hl hLWb.2.2.1) ?_ rfl gL_law_X5_thrown rfl ⟨rfl, by decide, by decide, by decide +kernel⟩ rfl rfl (Nat.le_of_ble_eq_true rfl) rfl dL_law_566 ⟨⟨by decide, by decide⟩, (by show _ ≤ 601024; dsimp only; omega), (by show _ ≤ 7293034; dsimp only; omega)⟩ (fun _ h => h.elim) ?_
    · exact ⟨_, by exact hLWb.2.2.1.1⟩
    rintro _ _ ⟨rfl, rfl⟩
    refine gd_iload C dL_law_569 rfl ?_
    refine gd_icmp_eq (tgt := 576) C dL_law_571 (by decide) ?_ ?_ (fun hc571 => ?_) (fun hc571 => ?_)
    · omega
    · omega
    · refine gd_iload C dL_law_576 rfl ?_
      refine gd_if_ne (tgt := 593) C dL_law_578 (by decide) ?_ (fun hc578 => ?_) (fun hc578 => ?_)
      · omega
      · refine gd_goto (tgt := 1373) C dL_law_593 (by decide) ?_
        refine Gd.widen (k := cells + 10) (n := slots + 60) (by dsimp only; omega) (by dsimp only; omega) (Gd.sub (by repeat (first | exact Lsb.nil | exact Lsb.rf _ | refine Lsb.keep ?_ | refine Lsb.drop ?_)) (kk _ ⟨g, t, ar, d, ac, ab, la, na, fa, A, _, _, _, _, _, _, _, _, _, _, _, F9, G9, _, _, hLWb, hINV9⟩))
      · exfalso; omega
    · exfalso; omega
  · have hx1 : (0 ≤ q1 ∧ q1 < 16 ∧ v q1 2 = 1) ∧ ¬ (0 ≤ q2 ∧ q2 ≤ 64) := by
      rcases hx with ⟨h8, h9⟩ | ⟨h8, h9⟩ | ⟨h8, h9⟩
      · exact absurd h8 (by decide)
      · exact h9
      · exact absurd h8 (by decide)
    clear hx
    have hLWa := hLW
    refine gd_istore C dL_law_545 (Nat.le_of_ble_eq_true rfl) ?_
    refine gd_aload_n C dL_law_547 rfl ?_
    refine gd_aload_n C dL_law_548 rfl ?_
    refine gd_iload C dL_law_549 rfl ?_
    refine gd_iconst C dL_law_551 ?_
    refine gd_iadd C dL_law_552 ?_
    refine gd_sld C hX hbl hzb (by omega) hL8 dL_law_553 hq1 ?_
    refine gd_aload_n C dL_law_554 rfl ?_
    refine gd_iload C dL_law_555 rfl ?_
    refine gd_iconst C dL_law_557 ?_
    refine gd_iadd C dL_law_558 ?_
    refine gd_sld C hX hbl hzb (by omega) hL8 dL_law_559 hq2 ?_
    refine gd_callV (n := 2) (ci := 5) (Cn := RX5) (T := TX5) (N := 18) C (kX5_cut hl hLWa.2.2.1 hR hI hq1R hq2R hsc) ?_ rfl gL_law_X5_cut rfl ⟨rfl, by decide, by decide, by decide +kernel⟩ rfl rfl (Nat.le_of_ble_eq_true rfl) rfl dL_law_560 ⟨⟨by decide, by decide⟩, (by show _ ≤ 601024; dsimp only; omega), (by show _ ≤ 7293034; dsimp only; omega)⟩ (fun _ h => h.elim) ?_
    · exact ⟨_, by exact hLWa.2.2.1.1⟩
    rintro r3 w3 hm
    obtain ⟨t7, ht7, rfl, F9, G9, hV, hR9, hN9, h79, h149, h179⟩ := hm.resolve_left (fun h => by have h1 := h.1; have h2 := h.2.1; have h3 := h.2.2.1; clear hm h; omega)
    have hLWb := hLWa.mod hV
    have hINV9 := hINV.same hR9 hN9 h79 h149
    clear hm
    have ht : t7 = 2 := by omega
    subst ht
    refine gd_istore C dL_law_563 (Nat.le_of_ble_eq_true rfl) ?_
    refine gd_aload_n C dL_law_565 rfl ?_
    refine gd_callV (n := 0) (ci := 5) (Cn := RX5) (T := TX5) (N := 18) C (kX5_thrown hl hLWb.2.2.1) ?_ rfl gL_law_X5_thrown rfl ⟨rfl, by decide, by decide, by decide +kernel⟩ rfl rfl (Nat.le_of_ble_eq_true rfl) rfl dL_law_566 ⟨⟨by decide, by decide⟩, (by show _ ≤ 601024; dsimp only; omega), (by show _ ≤ 7293034; dsimp only; omega)⟩ (fun _ h => h.elim) ?_
    · exact ⟨_, by exact hLWb.2.2.1.1⟩
    rintro _ _ ⟨rfl, rfl⟩
    refine gd_iload C dL_law_569 rfl ?_
    refine gd_icmp_eq (tgt := 576) C dL_law_571 (by decide) ?_ ?_ (fun hc571 => ?_) (fun hc571 => ?_)
    · omega
    · omega
    · refine gd_iload C dL_law_576 rfl ?_
      refine gd_if_ne (tgt := 593) C dL_law_578 (by decide) ?_ (fun hc578 => ?_) (fun hc578 => ?_)
      · omega
      · refine gd_goto (tgt := 1373) C dL_law_593 (by decide) ?_
        refine Gd.widen (k := cells + 10) (n := slots + 60) (by dsimp only; omega) (by dsimp only; omega) (Gd.sub (by repeat (first | exact Lsb.nil | exact Lsb.rf _ | refine Lsb.keep ?_ | refine Lsb.drop ?_)) (kk _ ⟨g, t, ar, d, ac, ab, la, na, fa, A, _, _, _, _, _, _, _, _, _, _, _, F9, G9, _, _, hLWb, hINV9⟩))
      · exfalso; omega
    · exfalso; omega
  · have hx1 : (0 ≤ q1 ∧ q1 < 16 ∧ v q1 2 = 1) ∧ (0 ≤ q2 ∧ q2 ≤ 64) ∧ dn = 1 := by
      rcases hx with ⟨h8, h9⟩ | ⟨h8, h9⟩ | ⟨h8, h9⟩
      · exact absurd h8 (by decide)
      · exact absurd h8 (by decide)
      · exact h9
    clear hx
    have hLWa := hLW
    refine gd_istore C dL_law_545 (Nat.le_of_ble_eq_true rfl) ?_
    refine gd_aload_n C dL_law_547 rfl ?_
    refine gd_aload_n C dL_law_548 rfl ?_
    refine gd_iload C dL_law_549 rfl ?_
    refine gd_iconst C dL_law_551 ?_
    refine gd_iadd C dL_law_552 ?_
    refine gd_sld C hX hbl hzb (by omega) hL8 dL_law_553 hq1 ?_
    refine gd_aload_n C dL_law_554 rfl ?_
    refine gd_iload C dL_law_555 rfl ?_
    refine gd_iconst C dL_law_557 ?_
    refine gd_iadd C dL_law_558 ?_
    refine gd_sld C hX hbl hzb (by omega) hL8 dL_law_559 hq2 ?_
    refine gd_callV (n := 2) (ci := 5) (Cn := RX5) (T := TX5) (N := 18) C (kX5_cut hl hLWa.2.2.1 hR hI hq1R hq2R hsc) ?_ rfl gL_law_X5_cut rfl ⟨rfl, by decide, by decide, by decide +kernel⟩ rfl rfl (Nat.le_of_ble_eq_true rfl) rfl dL_law_560 ⟨⟨by decide, by decide⟩, (by show _ ≤ 601024; dsimp only; omega), (by show _ ≤ 7293034; dsimp only; omega)⟩ (fun _ h => h.elim) ?_
    · exact ⟨_, by exact hLWa.2.2.1.1⟩
    rintro r3 w3 hm
    obtain ⟨t7, ht7, rfl, F9, G9, hV, hR9, hN9, h79, h149, h179⟩ := hm.resolve_left (fun h => by have h1 := h.1; have h2 := h.2.1; have h3 := h.2.2.1; clear hm h; omega)
    have hLWb := hLWa.mod hV
    have hINV9 := hINV.same hR9 hN9 h79 h149
    clear hm
    have ht : t7 = 3 := by omega
    subst ht
    refine gd_istore C dL_law_563 (Nat.le_of_ble_eq_true rfl) ?_
    refine gd_aload_n C dL_law_565 rfl ?_
    refine gd_callV (n := 0) (ci := 5) (Cn := RX5) (T := TX5) (N := 18) C (kX5_thrown hl hLWb.2.2.1) ?_ rfl gL_law_X5_thrown rfl ⟨rfl, by decide, by decide, by decide +kernel⟩ rfl rfl (Nat.le_of_ble_eq_true rfl) rfl dL_law_566 ⟨⟨by decide, by decide⟩, (by show _ ≤ 601024; dsimp only; omega), (by show _ ≤ 7293034; dsimp only; omega)⟩ (fun _ h => h.elim) ?_
    · exact ⟨_, by exact hLWb.2.2.1.1⟩
    rintro _ _ ⟨rfl, rfl⟩
    refine gd_iload C dL_law_569 rfl ?_
    refine gd_icmp_eq (tgt := 576) C dL_law_571 (by decide) ?_ ?_ (fun hc571 => ?_) (fun hc571 => ?_)
    · omega
    · omega
    · refine gd_iload C dL_law_576 rfl ?_
      refine gd_if_ne (tgt := 593) C dL_law_578 (by decide) ?_ (fun hc578 => ?_) (fun hc578 => ?_)
      · omega
      · refine gd_goto (tgt := 1373) C dL_law_593 (by decide) ?_
        refine Gd.widen (k := cells + 10) (n := slots + 60) (by dsimp only; omega) (by dsimp only; omega) (Gd.sub (by repeat (first | exact Lsb.nil | exact Lsb.rf _ | refine Lsb.keep ?_ | refine Lsb.drop ?_)) (kk _ ⟨g, t, ar, d, ac, ab, la, na, fa, A, _, _, _, _, _, _, _, _, _, _, _, F9, G9, _, _, hLWb, hINV9⟩))
      · exfalso; omega
    · exfalso; omega
