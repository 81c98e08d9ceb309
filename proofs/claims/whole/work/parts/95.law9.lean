theorem NI.del {n : Int} {lo co ct : Int → Int} {nm fl : Int → Int → Int} (h : NI n lo co ct nm fl) {q : Int} (hd : 0 ≤ dF n lo co ct nm fl q) :
    NI n lo co (fU ct (lLk n lo co ct nm q) (ct (lLk n lo co ct nm q) - 1)) (fU nm (lLk n lo co ct nm q) (rmF (nm (lLk n lo co ct nm q)) (fF (fun j => nm (lLk n lo co ct nm q) j = q) 0 (ct (lLk n lo co ct nm q))) (ct (lLk n lo co ct nm q)))) (fU fl (lLk n lo co ct nm q) (rmF (fl (lLk n lo co ct nm q)) (fF (fun j => nm (lLk n lo co ct nm q) j = q) 0 (ct (lLk n lo co ct nm q))) (ct (lLk n lo co ct nm q)))) ∧ PT n (fU ct (lLk n lo co ct nm q) (ct (lLk n lo co ct nm q) - 1)) ≤ PT n ct ∧ ∀ f9 : Int → Int, (∀ q', 0 ≤ q' → q' ≤ 999 → f9 q' = dF n lo co ct nm fl q' + 1) → ∀ q', 0 ≤ q' → q' ≤ 999 → fU f9 q 0 q' = dF n lo co (fU ct (lLk n lo co ct nm q) (ct (lLk n lo co ct nm q) - 1)) (fU nm (lLk n lo co ct nm q) (rmF (nm (lLk n lo co ct nm q)) (fF (fun j => nm (lLk n lo co ct nm q) j = q) 0 (ct (lLk n lo co ct nm q))) (ct (lLk n lo co ct nm q)))) (fU fl (lLk n lo co ct nm q) (rmF (fl (lLk n lo co ct nm q)) (fF (fun j => nm (lLk n lo co ct nm q) j = q) 0 (ct (lLk n lo co ct nm q))) (ct (lLk n lo co ct nm q)))) q' + 1 := by
  have hn := h.1.1.1
  have h1 := lLk_bd lo co ct nm q hn
  have h0 := (fLk_bd lo co q hn).1
  have hs := hA_iff.mp (h.has hd)
  rcases fF_spec (P := fun j => nm (lLk n lo co ct nm q) j = q) (b := ct (lLk n lo co ct nm q)) _ 0 rfl with ⟨e, -⟩ | ⟨e1, e2, e3, -⟩
  · omega
  · obtain ⟨r1, r2, r3⟩ := h.rm (q := q) ⟨by omega, h1.2⟩ ⟨e1, e2⟩ e3
    refine ⟨r1, r3, fun f9 hf q' a b => ?_⟩
    by_cases hq : q' = q
    · subst hq
      rw [fU_s, dF_no hn (fun i k i1 i2 k1 k2 e => ((r2 q' _).mp ⟨i, k, i1, i2, k1, k2, e, rfl⟩).1 rfl)]
      rfl
    · rw [fU_n hq, hf q' a b, dF_EF h r1 (fun x => (r2 q' x).trans ⟨And.right, fun e => ⟨hq, e⟩⟩)]
theorem NI.put {n : Int} {lo co ct : Int → Int} {nm fl : Int → Int → Int} (h : NI n lo co ct nm fl) {q x n' : Int} {lo' co' ct' : Int → Int} {nm' fl' : Int → Int → Int} (hq : 0 ≤ q ∧ q ≤ 999) (hx : 0 ≤ x ∧ x ≤ 15) (hn : n < 1000) (hd : dF n lo co ct nm fl q = -1) (hA' : ADD q x n lo co ct nm fl n' lo' co' ct' nm' fl') :
    NI n' lo' co' ct' nm' fl' ∧ PT n' ct' ≤ PT n ct + 1 ∧ ∀ f9 : Int → Int, (∀ q', 0 ≤ q' → q' ≤ 999 → f9 q' = dF n lo co ct nm fl q' + 1) → ∀ q', 0 ≤ q' → q' ≤ 999 → fU f9 q (x + 1) q' = dF n' lo' co' ct' nm' fl' q' + 1 := by
  obtain ⟨r1, r2, r3⟩ := h.add hq hx hn (h.no hd) hA'
  refine ⟨r1, r3, fun f9 hf q' a b => ?_⟩
  by_cases hq : q' = q
  · subst hq
    rw [fU_s, r1.dFe ((r2 q' x).mpr (Or.inr ⟨rfl, rfl⟩))]
  · rw [fU_n hq, hf q' a b, dF_EF h r1 (fun y => (r2 q' y).trans ⟨fun e => e.elim id (fun e => absurd e.1 hq), Or.inl⟩)]
set_option maxRecDepth 100000 in
set_option maxHeartbeats 4000000 in
theorem cs_close {p : Program} {l : Launch} {e : Env} {s : State} {m : MethodId} {args : Array Value} {below : List Frame} {meth : Method} {c : Code} {D : va_G} {ky : Nat → ClassId} {z : Nat} {Q : State → Prop} {cells slots : Nat} {w : WT} (hl : l.stackTraces = false) (C : Cx p l s m args meth c D ky z cL_law 8 wsL_law RL) (hNC : NC3 s) {b0 L : Nat} {xs : Nat → Int32} (hX : va_X b0 L xs s s.heap) (hbl : b0 < s.heap.size) (hzb : ¬ z ≤ b0) (hL8 : L ≤ 2048) {b o ao ad : Nat} {k i : Int} (hLI : LI w ky b o ao ad k) (hk : 0 ≤ k ∧ k ≤ 511) (hi : 0 ≤ i ∧ i + 3 < L) (hcs : cells + 30 ≤ 601024 ∧ slots + 200 ≤ 7293034)
    (kk : ∀ w', LI w' ky b o ao ad (k + 1) → Gd p l e room_1 s m args below meth c D z Q (cells + 10) (slots + 60) w' 1373 [some (.ref b0), some (.ref b), some (.ref o), some (.ref ao), some (.ref ad), some (.int (iI i)), none, none] []) : Gd p l e room_1 s m args below meth c D z Q cells slots w 280 [some (.ref b0), some (.ref b), some (.ref o), some (.ref ao), some (.ref ad), some (.int (iI i)), none, none] [] := by
  obtain ⟨g, t, ar, d, ac, ab, la, na, fa, A, T, v, B, sc, dn, n, lo, co, ct, nm, fl, F, G, fo, fd, hLW, hINV⟩ := hLI
  obtain ⟨hW, hD, hM, hA0, hao, had⟩ := id hLW
  obtain ⟨hFS, hRL, hR, hNI, hPT, hRN, hF9⟩ := id hINV
  obtain ⟨hI, hOW, hL0, hsc, hds, h3c, hc0⟩ := id hFS
  obtain ⟨hi1, hi2, hi3, hi4⟩ := id hI
  have hDR := hNI.1
  have hn9 := PT_nn (ct := ct) hDR.1.1
  have hn3 : n < 300 := by omega
  have hlo0 := hNI.2.1
  have hco0 := hNI.2.2.1
  clear hn9
  obtain ⟨q1, hq1⟩ : ∃ q, scS xs (i + 1) = q := ⟨_, rfl⟩
  have hq1R : InR q1 := hq1 ▸ scS_R xs (i + 1)
  obtain ⟨q2, hq2⟩ : ∃ q, scS xs (i + 2) = q := ⟨_, rfl⟩
  have hq2R : InR q2 := hq2 ▸ scS_R xs (i + 2)
  obtain ⟨q3, hq3⟩ : ∃ q, scS xs (i + 3) = q := ⟨_, rfl⟩
  have hq3R : InR q3 := hq3 ▸ scS_R xs (i + 3)
  refine gd_aload_n C dL_law_280 rfl ?_
  refine gd_aload_n C dL_law_281 rfl ?_
  refine gd_iload C dL_law_282 rfl ?_
  refine gd_iconst C dL_law_284 ?_
  refine gd_iadd C dL_law_285 ?_
  refine gd_sld C hX hbl hzb (by omega) hL8 dL_law_286 hq1 ?_
  refine gd_aload_n C dL_law_287 rfl ?_
  refine gd_callSW (n := 3) C hNC (kL_close hl (kX4_close hl hW hI hq1R) ⟨_, hW.1⟩ (ao := ao) (f := fo) ?_ (fun E h => h.imp And.left And.left)) gL_law_L_close rfl ⟨by decide, by decide, by decide +kernel⟩ rfl rfl (Nat.le_of_ble_eq_true rfl) rfl dL_law_288 ⟨⟨by decide, by decide⟩, (by show _ ≤ 601024; dsimp only; omega), (by show _ ≤ 7293034; dsimp only; omega)⟩ ?_
  · rintro r w1 ⟨-, -, -, hP0⟩
    rcases hP0 with ⟨-, rfl, hW1, -, hF1⟩ | ⟨-, -, ⟨-, rfl, hW1, -, hF1⟩ | ⟨-, rfl, hW1, -, hF1⟩⟩
    · exact ⟨⟨_, rfl⟩, (hLW.cls hW1 (hD.keptC hW hF1) hF1.A).2.2.2.2.1⟩
    · exact ⟨⟨_, rfl⟩, (hLW.cls hW1 (hD.keptC hW hF1) hF1.A).2.2.2.2.1⟩
    · exact ⟨⟨_, rfl⟩, (hLW.cls hW1 (hD.keptC hW hF1) hF1.A).2.2.2.2.1⟩
  intro r w1 hw1
  rcases hw1 with ⟨rfl, hok⟩ | ⟨rfl, ⟨rfl, hx⟩ | ⟨rfl, hx⟩⟩
  · obtain ⟨x1, w2, f', hP0, hf', rfl⟩ := hok
    obtain ⟨hc1, hc2, hc3, hP0⟩ := hP0
    rcases hP0 with ⟨hc4, hv, hW1, hI1, hF1⟩ | ⟨hc5, hc6, ⟨hc4, hv, hW1, hI1, hF1⟩ | ⟨hc4, hv, hW1, hI1, hF1⟩⟩
    · have hLWa := (hLW.cls hW1 (hD.keptC hW hF1) hF1.A).out f'
      have h39 := h3c _ hc1.1 hc1.2.1
      have hnn := eqI_nn (f := B q1) (x := -2) (y := 0) (by decide)
      refine gd_istore C dL_law_291 (Nat.le_of_ble_eq_true rfl) ?_
      refine gd_aload_n C dL_law_293 rfl ?_
      refine gd_aload_n C dL_law_294 rfl ?_
      refine gd_iload C dL_law_295 rfl ?_
      refine gd_iconst C dL_law_297 ?_
      refine gd_iadd C dL_law_298 ?_
      refine gd_sld C hX hbl hzb (by omega) hL8 dL_law_299 hq1 ?_
      refine gd_callV (n := 1) (ci := 5) (Cn := RX5) (T := TX5) (N := 18) C (kX5_close hl hLWa.2.2.1 hR hI hq1R hsc) ?_ rfl gL_law_X5_close rfl ⟨rfl, by decide, by decide, by decide +kernel⟩ rfl rfl (Nat.le_of_ble_eq_true rfl) rfl dL_law_300 ⟨⟨by decide, by decide⟩, (by show _ ≤ 601024; dsimp only; omega), (by show _ ≤ 7293034; dsimp only; omega)⟩ (fun _ h => h.elim) ?_
      · exact ⟨_, by exact hLWa.2.2.1.1⟩
      rintro r3 w3 hm
      replace hm := hm.resolve_right (fun ⟨t7, ht7, _⟩ => by clear hm; omega)
      obtain ⟨-, -, -, hm⟩ := hm
      rcases hm with ⟨-, rfl, F9, G9, hV, hR9, hN9, h79, h149, h179⟩ | ⟨h1, h2, -⟩
      rotate_left
      · exact absurd ⟨h1, h2⟩ hc4
      have hLWb := hLWa.mod hV
      have hINV9 := hINV.file (hFS.setv (u := (fU (v q1) 3 (v q1 3 - 1))) hI1 ⟨rfl, rfl, Int.le_refl _, by show v q1 3 - 1 ≤ k + 1; omega⟩) (by rw [h79]; exact hRL.vs rfl rfl rfl) (hR9) hN9 h149
      have hval : f' 0 = (iI (v q1 3 - 1)).toInt64 := by rw [hf', Value.int.inj (Option.some.inj hv)]
      refine gd_istore C dL_law_303 (Nat.le_of_ble_eq_true rfl) ?_
      refine gd_aload_n C dL_law_305 rfl ?_
      refine gd_callV (n := 0) (ci := 5) (Cn := RX5) (T := TX5) (N := 18) C (kX5_thrown hl hLWb.2.2.1) ?_ rfl gL_law_X5_thrown rfl ⟨rfl, by decide, by decide, by decide +kernel⟩ rfl rfl (Nat.le_of_ble_eq_true rfl) rfl dL_law_306 ⟨⟨by decide, by decide⟩, (by show _ ≤ 601024; dsimp only; omega), (by show _ ≤ 7293034; dsimp only; omega)⟩ (fun _ h => h.elim) ?_
      · exact ⟨_, by exact hLWb.2.2.1.1⟩
      rintro _ _ ⟨rfl, rfl⟩
      refine gd_iload C dL_law_309 rfl ?_
      refine gd_icmp_eq (tgt := 316) C dL_law_311 (by decide) ?_ ?_ (fun hc311 => ?_) (fun hc311 => ?_)
      · omega
      · omega
      · refine gd_iload C dL_law_316 rfl ?_
        refine gd_if_ne (tgt := 333) C dL_law_318 (by decide) ?_ (fun hc318 => ?_) (fun hc318 => ?_)
        · omega
        · exfalso; omega
        · refine gd_aload_n C dL_law_321 rfl ?_
          refine gd_iconst C dL_law_322 ?_
          refine gd_lald C dL_law_323 hLWb.2.2.2.2.1 hval ?_
          refine gd_iload C dL_law_324 rfl ?_
          refine gd_i2l C dL_law_326 ?_
          refine gd_lcmpE C dL_law_327 ?_
          refine gd_if_eq (tgt := 333) C dL_law_328 (by decide) ?_ (fun hc328 => ?_) (fun hc328 => ?_)
          · omega
          · refine gd_goto (tgt := 1373) C dL_law_333 (by decide) ?_
            refine Gd.widen (k := cells + 10) (n := slots + 60) (by dsimp only; omega) (by dsimp only; omega) (Gd.sub (by repeat (first | exact Lsb.nil | exact Lsb.rf _ | refine Lsb.keep ?_ | refine Lsb.drop ?_)) (kk _ ⟨g, t, ar, d, ac, ab, la, na, fa, A, _, _, _, _, _, _, _, _, _, _, _, F9, G9, _, _, hLWb, hINV9⟩))
          · exfalso; omega
      · exfalso; omega
    · simp only [-Int.reduceSub, -Int.reduceToNat, fU_s, fU_ss, u36, u37, u39, u86, u87, u96, u97, u99] at hc4 hW1 hI1
      have hLWa := (hLW.cls hW1 (hD.keptC hW hF1) hF1.A).out f'
      have h39 := h3c _ hc1.1 hc1.2.1
      have hnn := eqI_nn (f := B q1) (x := -2) (y := 0) (by decide)
      refine gd_istore C dL_law_291 (Nat.le_of_ble_eq_true rfl) ?_
      refine gd_aload_n C dL_law_293 rfl ?_
      refine gd_aload_n C dL_law_294 rfl ?_
      refine gd_iload C dL_law_295 rfl ?_
      refine gd_iconst C dL_law_297 ?_
      refine gd_iadd C dL_law_298 ?_
      refine gd_sld C hX hbl hzb (by omega) hL8 dL_law_299 hq1 ?_
      refine gd_callV (n := 1) (ci := 5) (Cn := RX5) (T := TX5) (N := 18) C (kX5_close hl hLWa.2.2.1 hR hI hq1R hsc) ?_ rfl gL_law_X5_close rfl ⟨rfl, by decide, by decide, by decide +kernel⟩ rfl rfl (Nat.le_of_ble_eq_true rfl) rfl dL_law_300 ⟨⟨by decide, by decide⟩, (by show _ ≤ 601024; dsimp only; omega), (by show _ ≤ 7293034; dsimp only; omega)⟩ (fun _ h => h.elim) ?_
      · exact ⟨_, by exact hLWa.2.2.1.1⟩
      rintro r3 w3 hm
      replace hm := hm.resolve_right (fun ⟨t7, ht7, _⟩ => by clear hm; omega)
      obtain ⟨-, -, -, hm⟩ := hm
      rcases hm with ⟨h1, -⟩ | ⟨-, -, ⟨-, rfl, F9, G9, hV, hR9, hN9, h79, h149, h179⟩ | ⟨h1, -⟩⟩
      · exact absurd ⟨hc5, hc6⟩ h1
      rotate_left
      · omega
      have hLWb := hLWa.mod hV
      have hINV9 := hINV.file (hFS.cutC (u := ctU (fU (v q1) 3 (v q1 3 - 1)) (B q1) 0) ⟨hc1.1, hc1.2.1⟩ ⟨by decide, by decide⟩ ⟨rfl, rfl⟩ hI1).up (by rw [h79]; exact (hRL.dl (u := ctU (fU (v q1) 3 (v q1 3 - 1)) (B q1) 0) rfl hc5).fl) (hR9.cx (agU ⟨rfl, rfl, rfl, rfl, rfl⟩)) hN9 h149
      have hval : f' 0 = (iI (-1)).toInt64 := by rw [hf', Value.int.inj (Option.some.inj hv)]
      refine gd_istore C dL_law_303 (Nat.le_of_ble_eq_true rfl) ?_
      refine gd_aload_n C dL_law_305 rfl ?_
      refine gd_callV (n := 0) (ci := 5) (Cn := RX5) (T := TX5) (N := 18) C (kX5_thrown hl hLWb.2.2.1) ?_ rfl gL_law_X5_thrown rfl ⟨rfl, by decide, by decide, by decide +kernel⟩ rfl rfl (Nat.le_of_ble_eq_true rfl) rfl dL_law_306 ⟨⟨by decide, by decide⟩, (by show _ ≤ 601024; dsimp only; omega), (by show _ ≤ 7293034; dsimp only; omega)⟩ (fun _ h => h.elim) ?_
      · exact ⟨_, by exact hLWb.2.2.1.1⟩
      rintro _ _ ⟨rfl, rfl⟩
      refine gd_iload C dL_law_309 rfl ?_
      refine gd_icmp_eq (tgt := 316) C dL_law_311 (by decide) ?_ ?_ (fun hc311 => ?_) (fun hc311 => ?_)
      · omega
      · omega
      · refine gd_iload C dL_law_316 rfl ?_
        refine gd_if_ne (tgt := 333) C dL_law_318 (by decide) ?_ (fun hc318 => ?_) (fun hc318 => ?_)
        · omega
        · exfalso; omega
        · refine gd_aload_n C dL_law_321 rfl ?_
          refine gd_iconst C dL_law_322 ?_
          refine gd_lald C dL_law_323 hLWb.2.2.2.2.1 hval ?_
          refine gd_iload C dL_law_324 rfl ?_
          refine gd_i2l C dL_law_326 ?_
          refine gd_lcmpE C dL_law_327 ?_
          refine gd_if_eq (tgt := 333) C dL_law_328 (by decide) ?_ (fun hc328 => ?_) (fun hc328 => ?_)
          · omega
          · refine gd_goto (tgt := 1373) C dL_law_333 (by decide) ?_
            refine Gd.widen (k := cells + 10) (n := slots + 60) (by dsimp only; omega) (by dsimp only; omega) (Gd.sub (by repeat (first | exact Lsb.nil | exact Lsb.rf _ | refine Lsb.keep ?_ | refine Lsb.drop ?_)) (kk _ ⟨g, t, ar, d, ac, ab, la, na, fa, A, _, _, _, _, _, _, _, _, _, _, _, F9, G9, _, _, hLWb, hINV9⟩))
          · exfalso; omega
      · exfalso; omega
    · simp only [-Int.reduceSub, -Int.reduceToNat, fU_s, fU_ss, u36, u37, u39, u86, u87, u96, u97, u99] at hc4 hW1 hI1
      have hLWa := (hLW.cls hW1 (hD.keptC hW hF1) hF1.A).out f'
      have h39 := h3c _ hc1.1 hc1.2.1
      have hnn := eqI_nn (f := B q1) (x := -2) (y := 0) (by decide)
      refine gd_istore C dL_law_291 (Nat.le_of_ble_eq_true rfl) ?_
      refine gd_aload_n C dL_law_293 rfl ?_
      refine gd_aload_n C dL_law_294 rfl ?_
      refine gd_iload C dL_law_295 rfl ?_
      refine gd_iconst C dL_law_297 ?_
      refine gd_iadd C dL_law_298 ?_
      refine gd_sld C hX hbl hzb (by omega) hL8 dL_law_299 hq1 ?_
      refine gd_callV (n := 1) (ci := 5) (Cn := RX5) (T := TX5) (N := 18) C (kX5_close hl hLWa.2.2.1 hR hI hq1R hsc) ?_ rfl gL_law_X5_close rfl ⟨rfl, by decide, by decide, by decide +kernel⟩ rfl rfl (Nat.le_of_ble_eq_true rfl) rfl dL_law_300 ⟨⟨by decide, by decide⟩, (by show _ ≤ 601024; dsimp only; omega), (by show _ ≤ 7293034; dsimp only; omega)⟩ (fun _ h => h.elim) ?_
      · exact ⟨_, by exact hLWa.2.2.1.1⟩
      rintro r3 w3 hm
      replace hm := hm.resolve_right (fun ⟨t7, ht7, _⟩ => by clear hm; omega)
      obtain ⟨-, -, -, hm⟩ := hm
      rcases hm with ⟨h1, -⟩ | ⟨-, -, ⟨h1, -⟩ | ⟨-, rfl, F9, G9, hV, hR9, hN9, h79, h149, h179⟩⟩
      · exact absurd ⟨hc5, hc6⟩ h1
      · omega
      have hLWb := hLWa.mod hV
      have hINV9 := hINV.file (hFS.cutD (u := (fU (fU (fU (fU (ctU (fU (v q1) 3 (v q1 3 - 1)) (B q1) 0) 8 (v q1 9)) 2 0) 8 0) 9 0)) ⟨hc1.1, hc1.2.1⟩ ⟨by decide, by decide⟩ hc2 hc4 ⟨rfl, rfl, by show v q1 4 - sI (fun p => eqI (B q1 p) (-2)) 0 64 ≤ v q1 4; omega, by show v q1 3 - 1 ≤ k; omega⟩ hI1).up (by rw [h79]; exact hRL.en rfl) (hR9.us ⟨rfl, rfl, rfl, rfl, rfl, rfl⟩) hN9 h149
      have hval : f' 0 = (iI (0)).toInt64 := by rw [hf', Value.int.inj (Option.some.inj hv)]
      refine gd_istore C dL_law_303 (Nat.le_of_ble_eq_true rfl) ?_
      refine gd_aload_n C dL_law_305 rfl ?_
      refine gd_callV (n := 0) (ci := 5) (Cn := RX5) (T := TX5) (N := 18) C (kX5_thrown hl hLWb.2.2.1) ?_ rfl gL_law_X5_thrown rfl ⟨rfl, by decide, by decide, by decide +kernel⟩ rfl rfl (Nat.le_of_ble_eq_true rfl) rfl dL_law_306 ⟨⟨by decide, by decide⟩, (by show _ ≤ 601024; dsimp only; omega), (by show _ ≤ 7293034; dsimp only; omega)⟩ (fun _ h => h.elim) ?_
      · exact ⟨_, by exact hLWb.2.2.1.1⟩
      rintro _ _ ⟨rfl, rfl⟩
      refine gd_iload C dL_law_309 rfl ?_
      refine gd_icmp_eq (tgt := 316) C dL_law_311 (by decide) ?_ ?_ (fun hc311 => ?_) (fun hc311 => ?_)
      · omega
      · omega
      · refine gd_iload C dL_law_316 rfl ?_
        refine gd_if_ne (tgt := 333) C dL_law_318 (by decide) ?_ (fun hc318 => ?_) (fun hc318 => ?_)
        · omega
        · exfalso; omega
        · refine gd_aload_n C dL_law_321 rfl ?_
          refine gd_iconst C dL_law_322 ?_
          refine gd_lald C dL_law_323 hLWb.2.2.2.2.1 hval ?_
          refine gd_iload C dL_law_324 rfl ?_
          refine gd_i2l C dL_law_326 ?_
          refine gd_lcmpE C dL_law_327 ?_
          refine gd_if_eq (tgt := 333) C dL_law_328 (by decide) ?_ (fun hc328 => ?_) (fun hc328 => ?_)
          · omega
          · refine gd_goto (tgt := 1373) C dL_law_333 (by decide) ?_
            refine Gd.widen (k := cells + 10) (n := slots + 60) (by dsimp only; omega) (by dsimp only; omega) (Gd.sub (by repeat (first | exact Lsb.nil | exact Lsb.rf _ | refine Lsb.keep ?_ | refine Lsb.drop ?_)) (kk _ ⟨g, t, ar, d, ac, ab, la, na, fa, A, _, _, _, _, _, _, _, _, _, _, _, F9, G9, _, _, hLWb, hINV9⟩))
          · exfalso; omega
      · exfalso; omega
  · have hx1 : ¬ (0 ≤ q1 ∧ q1 < 16 ∧ v q1 2 = 1) := by
      rcases hx with ⟨h8, h9⟩ | ⟨h8, h9⟩
      · exact h9
      · exact absurd h8 (by decide)
    clear hx
    have hLWa := hLW
    refine gd_istore C dL_law_291 (Nat.le_of_ble_eq_true rfl) ?_
    refine gd_aload_n C dL_law_293 rfl ?_
    refine gd_aload_n C dL_law_294 rfl ?_
    refine gd_iload C dL_law_295 rfl ?_
    refine gd_iconst C dL_law_297 ?_
    refine gd_iadd C dL_law_298 ?_
    refine gd_sld C hX hbl hzb (by omega) hL8 dL_law_299 hq1 ?_
    refine gd_callV (n := 1) (ci := 5) (Cn := RX5) (T := TX5) (N := 18) C (kX5_close hl hLWa.2.2.1 hR hI hq1R hsc) ?_ rfl gL_law_X5_close rfl ⟨rfl, by decide, by decide, by decide +kernel⟩ rfl rfl (Nat.le_of_ble_eq_true rfl) rfl dL_law_300 ⟨⟨by decide, by decide⟩, (by show _ ≤ 601024; dsimp only; omega), (by show _ ≤ 7293034; dsimp only; omega)⟩ (fun _ h => h.elim) ?_
    · exact ⟨_, by exact hLWa.2.2.1.1⟩
    rintro r3 w3 hm
    obtain ⟨t7, ht7, rfl, F9, G9, hV, hR9, hN9, h79, h149, h179⟩ := hm.resolve_left (fun h => by have h1 := h.1; have h2 := h.2.1; have h3 := h.2.2.1; clear hm h; omega)
    have hLWb := hLWa.mod hV
    have hINV9 := hINV.same hR9 hN9 h79 h149
    clear hm
    have ht : t7 = 1 := by omega
    subst ht
    refine gd_istore C dL_law_303 (Nat.le_of_ble_eq_true rfl) ?_
    refine gd_aload_n C dL_law_305 rfl ?_
    refine gd_callV (n := 0) (ci := 5) (Cn := RX5) (T := TX5) (N := 18) C (kX5_thrown hl hLWb.2.2.1) ?_ rfl gL_law_X5_thrown rfl ⟨rfl, by decide, by decide, by decide +kernel⟩ rfl rfl (Nat.le_of_ble_eq_true rfl) rfl dL_law_306 ⟨⟨by decide, by decide⟩, (by show _ ≤ 601024; dsimp only; omega), (by show _ ≤ 7293034; dsimp only; omega)⟩ (fun _ h => h.elim) ?_
    · exact ⟨_, by exact hLWb.2.2.1.1⟩
    rintro _ _ ⟨rfl, rfl⟩
    refine gd_iload C dL_law_309 rfl ?_
    refine gd_icmp_eq (tgt := 316) C dL_law_311 (by decide) ?_ ?_ (fun hc311 => ?_) (fun hc311 => ?_)
    · omega
    · omega
    · refine gd_iload C dL_law_316 rfl ?_
      refine gd_if_ne (tgt := 333) C dL_law_318 (by decide) ?_ (fun hc318 => ?_) (fun hc318 => ?_)
      · omega
      · refine gd_goto (tgt := 1373) C dL_law_333 (by decide) ?_
        refine Gd.widen (k := cells + 10) (n := slots + 60) (by dsimp only; omega) (by dsimp only; omega) (Gd.sub (by repeat (first | exact Lsb.nil | exact Lsb.rf _ | refine Lsb.keep ?_ | refine Lsb.drop ?_)) (kk _ ⟨g, t, ar, d, ac, ab, la, na, fa, A, _, _, _, _, _, _, _, _, _, _, _, F9, G9, _, _, hLWb, hINV9⟩))
      · exfalso; omega
    · exfalso; omega
  · have hx1 : (0 ≤ q1 ∧ q1 < 16 ∧ v q1 2 = 1) ∧ (dn = 1 ∨ v q1 3 = 0) := by
      rcases hx with ⟨h8, h9⟩ | ⟨h8, h9⟩
      · exact absurd h8 (by decide)
      · exact h9
    clear hx
    have hLWa := hLW
    refine gd_istore C dL_law_291 (Nat.le_of_ble_eq_true rfl) ?_
    refine gd_aload_n C dL_law_293 rfl ?_
    refine gd_aload_n C dL_law_294 rfl ?_
    refine gd_iload C dL_law_295 rfl ?_
    refine gd_iconst C dL_law_297 ?_
    refine gd_iadd C dL_law_298 ?_
    refine gd_sld C hX hbl hzb (by omega) hL8 dL_law_299 hq1 ?_
    refine gd_callV (n := 1) (ci := 5) (Cn := RX5) (T := TX5) (N := 18) C (kX5_close hl hLWa.2.2.1 hR hI hq1R hsc) ?_ rfl gL_law_X5_close rfl ⟨rfl, by decide, by decide, by decide +kernel⟩ rfl rfl (Nat.le_of_ble_eq_true rfl) rfl dL_law_300 ⟨⟨by decide, by decide⟩, (by show _ ≤ 601024; dsimp only; omega), (by show _ ≤ 7293034; dsimp only; omega)⟩ (fun _ h => h.elim) ?_
    · exact ⟨_, by exact hLWa.2.2.1.1⟩
    rintro r3 w3 hm
    obtain ⟨t7, ht7, rfl, F9, G9, hV, hR9, hN9, h79, h149, h179⟩ := hm.resolve_left (fun h => by have h1 := h.1; have h2 := h.2.1; have h3 := h.2.2.1; clear hm h; omega)
    have hLWb := hLWa.mod hV
    have hINV9 := hINV.same hR9 hN9 h79 h149
    clear hm
    have ht : t7 = 2 := by omega
    subst ht
    refine gd_istore C dL_law_303 (Nat.le_of_ble_eq_true rfl) ?_
    refine gd_aload_n C dL_law_305 rfl ?_
    refine gd_callV (n := 0) (ci := 5) (Cn := RX5) (T := TX5) (N := 18) C (kX5_thrown hl hLWb.2.2.1) ?_ rfl gL_law_X5_thrown rfl ⟨rfl, by decide, by decide, by decide +kernel⟩ rfl rfl (Nat.le_of_ble_eq_true rfl) rfl dL_law_306 ⟨⟨by decide, by decide⟩, (by show _ ≤ 601024; dsimp only; omega), (by show _ ≤ 7293034; dsimp only; omega)⟩ (fun _ h => h.elim) ?_
    · exact ⟨_, by exact hLWb.2.2.1.1⟩
    rintro _ _ ⟨rfl, rfl⟩
    refine gd_iload C dL_law_309 rfl ?_
    refine gd_icmp_eq (tgt := 316) C dL_law_311 (by decide) ?_ ?_ (fun hc311 => ?_) (fun hc311 => ?_)
    · omega
    · omega
    · refine gd_iload C dL_law_316 rfl ?_
      refine gd_if_ne (tgt := 333) C dL_law_318 (by decide) ?_ (fun hc318 => ?_) (fun hc318 => ?_)
      · omega
      · refine gd_goto (tgt := 1373) C dL_law_333 (by decide) ?_
        refine Gd.widen (k := cells + 10) (n := slots + 60) (by dsimp only; omega) (by dsimp only; omega) (Gd.sub (by repeat (first | exact Lsb.nil | exact Lsb.rf _ | refine Lsb.keep ?_ | refine Lsb.drop ?_)) (kk _ ⟨g, t, ar, d, ac, ab, la, na, fa, A, _, _, _, _, _, _, _, _, _, _, _, F9, G9, _, _, hLWb, hINV9⟩))
      · exfalso; omega
    · exfalso; omega

set_option maxRecDepth 100000 in
set_option maxHeartbeats 4000000 in
theorem cs_delete {p : Program} {l : Launch} {e : Env} {s : State} {m : MethodId} {args : Array Value} {below : List Frame} {meth : Method} {c : Code} {D : va_G} {ky : Nat → ClassId} {z : Nat} {Q : State → Prop} {cells slots : Nat} {w : WT} (hl : l.stackTraces = false) (C : Cx p l s m args meth c D ky z cL_law 8 wsL_law RL) (hNC : NC3 s) {b0 L : Nat} {xs : Nat → Int32} (hX : va_X b0 L xs s s.heap) (hbl : b0 < s.heap.size) (hzb : ¬ z ≤ b0) (hL8 : L ≤ 2048) {b o ao ad : Nat} {k i : Int} (hLI : LI w ky b o ao ad k) (hk : 0 ≤ k ∧ k ≤ 511) (hi : 0 ≤ i ∧ i + 3 < L) (hcs : cells + 30 ≤ 601024 ∧ slots + 200 ≤ 7293034)
    (kk : ∀ w', LI w' ky b o ao ad (k + 1) → Gd p l e room_1 s m args below meth c D z Q (cells + 10) (slots + 60) w' 1373 [some (.ref b0), some (.ref b), some (.ref o), some (.ref ao), some (.ref ad), some (.int (iI i)), none, none] []) : Gd p l e room_1 s m args below meth c D z Q cells slots w 336 [some (.ref b0), some (.ref b), some (.ref o), some (.ref ao), some (.ref ad), some (.int (iI i)), none, none] [] := by
  obtain ⟨g, t, ar, d, ac, ab, la, na, fa, A, T, v, B, sc, dn, n, lo, co, ct, nm, fl, F, G, fo, fd, hLW, hINV⟩ := hLI
  obtain ⟨hW, hD, hM, hA0, hao, had⟩ := id hLW
  obtain ⟨hFS, hRL, hR, hNI, hPT, hRN, hF9⟩ := id hINV
  obtain ⟨hI, hOW, hL0, hsc, hds, h3c, hc0⟩ := id hFS
  obtain ⟨hi1, hi2, hi3, hi4⟩ := id hI
  have hDR := hNI.1
  have hn9 := PT_nn (ct := ct) hDR.1.1
  have hn3 : n < 300 := by omega
  have hlo0 := hNI.2.1
  have hco0 := hNI.2.2.1
  clear hn9
  obtain ⟨q1, hq1⟩ : ∃ q, scS xs (i + 1) = q := ⟨_, rfl⟩
  have hq1R : InR q1 := hq1 ▸ scS_R xs (i + 1)
  obtain ⟨q2, hq2⟩ : ∃ q, scS xs (i + 2) = q := ⟨_, rfl⟩
  have hq2R : InR q2 := hq2 ▸ scS_R xs (i + 2)
  obtain ⟨q3, hq3⟩ : ∃ q, scS xs (i + 3) = q := ⟨_, rfl⟩
  have hq3R : InR q3 := hq3 ▸ scS_R xs (i + 3)
  refine gd_aload_n C dL_law_336 rfl ?_
  refine gd_aload_n C dL_law_337 rfl ?_
  refine gd_iload C dL_law_338 rfl ?_
  refine gd_iconst C dL_law_340 ?_
  refine gd_iadd C dL_law_341 ?_
  refine gd_sld C hX hbl hzb (by omega) hL8 dL_law_342 hq1 ?_
  refine gd_aload_n C dL_law_343 rfl ?_
  refine gd_callSW (n := 3) C hNC (kL_delete hl (kX4_delete hl hW hI hD hDR hq1R) ⟨_, hW.1⟩ (ao := ao) (f := fo) ?_ (fun E h => h.imp And.left And.left)) gL_law_L_delete rfl ⟨by decide, by decide, by decide +kernel⟩ rfl rfl (Nat.le_of_ble_eq_true rfl) rfl dL_law_344 ⟨⟨by decide, by decide⟩, (by show _ ≤ 601024; dsimp only; omega), (by show _ ≤ 7293034; dsimp only; omega)⟩ ?_
  · rintro r w1 ⟨-, -, -, hP0⟩
    rcases hP0 with ⟨-, rfl, hW1, -, hD1, hF1⟩ | ⟨-, -, rfl, hW1, -, hD1, hF1⟩ | ⟨-, -, rfl, hW1, -, hD1, hF1⟩
    · exact ⟨⟨_, rfl⟩, (hLW.cls hW1 hD1 hF1).2.2.2.2.1⟩
    · exact ⟨⟨_, rfl⟩, (hLW.cls hW1 hD1 hF1).2.2.2.2.1⟩
    · exact ⟨⟨_, rfl⟩, (hLW.cls hW1 hD1 hF1).2.2.2.2.1⟩
  intro r w1 hw1
  rcases hw1 with ⟨rfl, hok⟩ | ⟨rfl, ⟨rfl, hx⟩ | ⟨rfl, hx⟩⟩
  · obtain ⟨x1, w2, f', hP0, hf', rfl⟩ := hok
    obtain ⟨hc1, hc2, hc3, hP0⟩ := hP0
    rcases hP0 with ⟨hc4, hv, hW1, hI1, hD1, hF1⟩ | ⟨hc6, hc4, hv, hW1, hI1, hD1, hF1⟩ | ⟨hc6, hc4, hv, hW1, hI1, hD1, hF1⟩
    · have hLWa := (hLW.cls hW1 hD1 hF1).out f'
      have hdb := dF_bd hDR q1
      have h39 := h3c _ hc3 (by omega)
      have hnn := eqI_nn (f := B (dF n lo co ct nm fl q1)) (x := -2) (y := 0) (by decide)
      have hjq : 0 ≤ dF n lo co ct nm fl q1 ∧ dF n lo co ct nm fl q1 < 16 := ⟨hc3, by omega⟩
      refine gd_istore C dL_law_347 (Nat.le_of_ble_eq_true rfl) ?_
      refine gd_aload_n C dL_law_349 rfl ?_
      refine gd_aload_n C dL_law_350 rfl ?_
      refine gd_iload C dL_law_351 rfl ?_
      refine gd_iconst C dL_law_353 ?_
      refine gd_iadd C dL_law_354 ?_
      refine gd_sld C hX hbl hzb (by omega) hL8 dL_law_355 hq1 ?_
      refine gd_callV (n := 1) (ci := 5) (Cn := RX5) (T := TX5) (N := 18) C (kX5_delete hl hLWa.2.2.1 hRN hDR (by omega) hlo0 hco0 hR hI hF9 hq1R hsc (fun h => hNI.has h) (srt_DI (hNI.2.2.2.1 _))) ?_ rfl gL_law_X5_delete rfl ⟨rfl, by decide, by decide, by decide +kernel⟩ rfl rfl (Nat.le_of_ble_eq_true rfl) rfl dL_law_356 ⟨⟨by decide, by decide⟩, (by show _ ≤ 601024; dsimp only; omega), (by show _ ≤ 7293034; dsimp only; omega)⟩ (fun _ h => h.elim) ?_
      · exact ⟨_, by exact hLWa.2.2.1.1⟩
      rintro r3 w3 hm
      replace hm := hm.resolve_right (fun ⟨t7, ht7, _⟩ => by clear hm; omega)
      obtain ⟨-, -, -, hm⟩ := hm
      rcases hm with ⟨-, rfl, F9, G9, hV, hR9, hN9, h79, h99, h179⟩ | ⟨h1, -⟩ | ⟨h1, -⟩
      rotate_left
      · exact absurd h1 hc4
      · exact absurd h1 hc4
      have hLWb := hLWa.mod hV
      obtain ⟨n1, n2, n3⟩ := hNI.del hc3
      have hINV9 := (⟨hFS.setv (u := (fU (fU (v (dF n lo co ct nm fl q1)) 8 1) 9 1)) hI1 ⟨rfl, rfl, Int.le_refl _, by show v (dF n lo co ct nm fl q1) 3 ≤ k + 1; omega⟩, by rw [h79]; exact hRL.dl (u := (fU (fU (v (dF n lo co ct nm fl q1)) 8 1) 9 1)) rfl rfl, hR9.us ⟨rfl, rfl, rfl, rfl, rfl, rfl⟩, n1, Int.le_trans n2 (by omega), hN9, by rw [h99]; exact n3 _ hF9⟩ : INV (k + 1) _ _ _ _ _ n lo co _ _ _ F9 G9)
      have hval : f' 0 = (iI (dF n lo co ct nm fl q1)).toInt64 := by rw [hf', Value.int.inj (Option.some.inj hv)]
      refine gd_istore C dL_law_359 (Nat.le_of_ble_eq_true rfl) ?_
      refine gd_aload_n C dL_law_361 rfl ?_
      refine gd_callV (n := 0) (ci := 5) (Cn := RX5) (T := TX5) (N := 18) C (kX5_thrown hl hLWb.2.2.1) ?_ rfl gL_law_X5_thrown rfl ⟨rfl, by decide, by decide, by decide +kernel⟩ rfl rfl (Nat.le_of_ble_eq_true rfl) rfl dL_law_362 ⟨⟨by decide, by decide⟩, (by show _ ≤ 601024; dsimp only; omega), (by show _ ≤ 7293034; dsimp only; omega)⟩ (fun _ h => h.elim) ?_
      · exact ⟨_, by exact hLWb.2.2.1.1⟩
      rintro _ _ ⟨rfl, rfl⟩
      refine gd_iload C dL_law_365 rfl ?_
      refine gd_icmp_eq (tgt := 372) C dL_law_367 (by decide) ?_ ?_ (fun hc367 => ?_) (fun hc367 => ?_)
      · omega
      · omega
      · refine gd_iload C dL_law_372 rfl ?_
        refine gd_if_ne (tgt := 389) C dL_law_374 (by decide) ?_ (fun hc374 => ?_) (fun hc374 => ?_)
        · omega
        · exfalso; omega
        · refine gd_aload_n C dL_law_377 rfl ?_
          refine gd_iconst C dL_law_378 ?_
          refine gd_lald C dL_law_379 hLWb.2.2.2.2.1 hval ?_
          refine gd_iload C dL_law_380 rfl ?_
          refine gd_i2l C dL_law_382 ?_
          refine gd_lcmpE C dL_law_383 ?_
          refine gd_if_eq (tgt := 389) C dL_law_384 (by decide) ?_ (fun hc384 => ?_) (fun hc384 => ?_)
          · omega
          · refine gd_goto (tgt := 1373) C dL_law_389 (by decide) ?_
            refine Gd.widen (k := cells + 10) (n := slots + 60) (by dsimp only; omega) (by dsimp only; omega) (Gd.sub (by repeat (first | exact Lsb.nil | exact Lsb.rf _ | refine Lsb.keep ?_ | refine Lsb.drop ?_)) (kk _ ⟨g, t, ar, d, ac, ab, la, na, fa, A, _, _, _, _, _, _, _, _, _, _, _, F9, G9, _, _, hLWb, hINV9⟩))
          · exfalso; omega
      · exfalso; omega
    · simp only [-Int.reduceSub, -Int.reduceToNat, fU_s, fU_ss, u36, u37, u39, u86, u87, u96, u97, u99] at hc4 hW1 hI1
      have hLWa := (hLW.cls hW1 hD1 hF1).out f'
      have hdb := dF_bd hDR q1
      have h39 := h3c _ hc3 (by omega)
      have hnn := eqI_nn (f := B (dF n lo co ct nm fl q1)) (x := -2) (y := 0) (by decide)
      have hjq : 0 ≤ dF n lo co ct nm fl q1 ∧ dF n lo co ct nm fl q1 < 16 := ⟨hc3, by omega⟩
      refine gd_istore C dL_law_347 (Nat.le_of_ble_eq_true rfl) ?_
      refine gd_aload_n C dL_law_349 rfl ?_
      refine gd_aload_n C dL_law_350 rfl ?_
      refine gd_iload C dL_law_351 rfl ?_
      refine gd_iconst C dL_law_353 ?_
      refine gd_iadd C dL_law_354 ?_
      refine gd_sld C hX hbl hzb (by omega) hL8 dL_law_355 hq1 ?_
      refine gd_callV (n := 1) (ci := 5) (Cn := RX5) (T := TX5) (N := 18) C (kX5_delete hl hLWa.2.2.1 hRN hDR (by omega) hlo0 hco0 hR hI hF9 hq1R hsc (fun h => hNI.has h) (srt_DI (hNI.2.2.2.1 _))) ?_ rfl gL_law_X5_delete rfl ⟨rfl, by decide, by decide, by decide +kernel⟩ rfl rfl (Nat.le_of_ble_eq_true rfl) rfl dL_law_356 ⟨⟨by decide, by decide⟩, (by show _ ≤ 601024; dsimp only; omega), (by show _ ≤ 7293034; dsimp only; omega)⟩ (fun _ h => h.elim) ?_
      · exact ⟨_, by exact hLWa.2.2.1.1⟩
      rintro r3 w3 hm
      replace hm := hm.resolve_right (fun ⟨t7, ht7, _⟩ => by clear hm; omega)
      obtain ⟨-, -, -, hm⟩ := hm
      rcases hm with ⟨h1, -⟩ | ⟨-, -, rfl, F9, G9, hV, hR9, hN9, h79, h99, h179⟩ | ⟨-, h1, -⟩
      · exact absurd hc6 h1
      rotate_left
      · omega
      have hLWb := hLWa.mod hV
      obtain ⟨n1, n2, n3⟩ := hNI.del hc3
      have hINV9 := (⟨(hFS.cutC (u := (ctU (fU (fU (v (dF n lo co ct nm fl q1)) 8 1) 9 1) (B (dF n lo co ct nm fl q1)) 0)) hjq ⟨by decide, by decide⟩ ⟨rfl, rfl⟩ hI1).up, by rw [h79]; exact (hRL.dl (u := (ctU (fU (fU (v (dF n lo co ct nm fl q1)) 8 1) 9 1) (B (dF n lo co ct nm fl q1)) 0)) rfl rfl).fl, hR9.cx (agU ⟨rfl, rfl, rfl, rfl, rfl⟩), n1, Int.le_trans n2 (by omega), hN9, by rw [h99]; exact n3 _ hF9⟩ : INV (k + 1) _ _ _ _ _ n lo co _ _ _ F9 G9)
      have hval : f' 0 = (iI (-1)).toInt64 := by rw [hf', Value.int.inj (Option.some.inj hv)]
      refine gd_istore C dL_law_359 (Nat.le_of_ble_eq_true rfl) ?_
      refine gd_aload_n C dL_law_361 rfl ?_
      refine gd_callV (n := 0) (ci := 5) (Cn := RX5) (T := TX5) (N := 18) C (kX5_thrown hl hLWb.2.2.1) ?_ rfl gL_law_X5_thrown rfl ⟨rfl, by decide, by decide, by decide +kernel⟩ rfl rfl (Nat.le_of_ble_eq_true rfl) rfl dL_law_362 ⟨⟨by decide, by decide⟩, (by show _ ≤ 601024; dsimp only; omega), (by show _ ≤ 7293034; dsimp only; omega)⟩ (fun _ h => h.elim) ?_
      · exact ⟨_, by exact hLWb.2.2.1.1⟩
      rintro _ _ ⟨rfl, rfl⟩
      refine gd_iload C dL_law_365 rfl ?_
      refine gd_icmp_eq (tgt := 372) C dL_law_367 (by decide) ?_ ?_ (fun hc367 => ?_) (fun hc367 => ?_)
      · omega
      · omega
      · refine gd_iload C dL_law_372 rfl ?_
        refine gd_if_ne (tgt := 389) C dL_law_374 (by decide) ?_ (fun hc374 => ?_) (fun hc374 => ?_)
        · omega
        · exfalso; omega
        · refine gd_aload_n C dL_law_377 rfl ?_
          refine gd_iconst C dL_law_378 ?_
          refine gd_lald C dL_law_379 hLWb.2.2.2.2.1 hval ?_
          refine gd_iload C dL_law_380 rfl ?_
          refine gd_i2l C dL_law_382 ?_
          refine gd_lcmpE C dL_law_383 ?_
          refine gd_if_eq (tgt := 389) C dL_law_384 (by decide) ?_ (fun hc384 => ?_) (fun hc384 => ?_)
          · omega
          · refine gd_goto (tgt := 1373) C dL_law_389 (by decide) ?_
            refine Gd.widen (k := cells + 10) (n := slots + 60) (by dsimp only; omega) (by dsimp only; omega) (Gd.sub (by repeat (first | exact Lsb.nil | exact Lsb.rf _ | refine Lsb.keep ?_ | refine Lsb.drop ?_)) (kk _ ⟨g, t, ar, d, ac, ab, la, na, fa, A, _, _, _, _, _, _, _, _, _, _, _, F9, G9, _, _, hLWb, hINV9⟩))
          · exfalso; omega
      · exfalso; omega
    · simp only [-Int.reduceSub, -Int.reduceToNat, fU_s, fU_ss, u36, u37, u39, u86, u87, u96, u97, u99] at hc4 hW1 hI1
      have hLWa := (hLW.cls hW1 hD1 hF1).out f'
      have hdb := dF_bd hDR q1
      have h39 := h3c _ hc3 (by omega)
      have hnn := eqI_nn (f := B (dF n lo co ct nm fl q1)) (x := -2) (y := 0) (by decide)
      have hjq : 0 ≤ dF n lo co ct nm fl q1 ∧ dF n lo co ct nm fl q1 < 16 := ⟨hc3, by omega⟩
      refine gd_istore C dL_law_347 (Nat.le_of_ble_eq_true rfl) ?_
      refine gd_aload_n C dL_law_349 rfl ?_
      refine gd_aload_n C dL_law_350 rfl ?_
      refine gd_iload C dL_law_351 rfl ?_
      refine gd_iconst C dL_law_353 ?_
      refine gd_iadd C dL_law_354 ?_
      refine gd_sld C hX hbl hzb (by omega) hL8 dL_law_355 hq1 ?_
      refine gd_callV (n := 1) (ci := 5) (Cn := RX5) (T := TX5) (N := 18) C (kX5_delete hl hLWa.2.2.1 hRN hDR (by omega) hlo0 hco0 hR hI hF9 hq1R hsc (fun h => hNI.has h) (srt_DI (hNI.2.2.2.1 _))) ?_ rfl gL_law_X5_delete rfl ⟨rfl, by decide, by decide, by decide +kernel⟩ rfl rfl (Nat.le_of_ble_eq_true rfl) rfl dL_law_356 ⟨⟨by decide, by decide⟩, (by show _ ≤ 601024; dsimp only; omega), (by show _ ≤ 7293034; dsimp only; omega)⟩ (fun _ h => h.elim) ?_
      · exact ⟨_, by exact hLWa.2.2.1.1⟩
      rintro r3 w3 hm
      replace hm := hm.resolve_right (fun ⟨t7, ht7, _⟩ => by clear hm; omega)
      obtain ⟨-, -, -, hm⟩ := hm
      rcases hm with ⟨h1, -⟩ | ⟨-, h1, -⟩ | ⟨-, -, rfl, F9, G9, hV, hR9, hN9, h79, h99, h179⟩
      · exact absurd hc6 h1
      · omega
      have hLWb := hLWa.mod hV
      obtain ⟨n1, n2, n3⟩ := hNI.del hc3
      have hINV9 := (⟨(hFS.cutD (u := (fU (fU (fU (fU (ctU (fU (fU (v (dF n lo co ct nm fl q1)) 8 1) 9 1) (B (dF n lo co ct nm fl q1)) 0) 8 1) 2 0) 8 0) 9 0)) hjq ⟨by decide, by decide⟩ hc2 hc4 ⟨rfl, rfl, by show v (dF n lo co ct nm fl q1) 4 - sI (fun p => eqI (B (dF n lo co ct nm fl q1) p) (-2)) 0 64 ≤ v (dF n lo co ct nm fl q1) 4; omega, by show v (dF n lo co ct nm fl q1) 3 ≤ k; omega⟩ hI1).up, by rw [h79]; exact hRL.en rfl, hR9.us ⟨rfl, rfl, rfl, rfl, rfl, rfl⟩, n1, Int.le_trans n2 (by omega), hN9, by rw [h99]; exact n3 _ hF9⟩ : INV (k + 1) _ _ _ _ _ n lo co _ _ _ F9 G9)
      have hval : f' 0 = (iI (dF n lo co ct nm fl q1)).toInt64 := by rw [hf', Value.int.inj (Option.some.inj hv)]
      refine gd_istore C dL_law_359 (Nat.le_of_ble_eq_true rfl) ?_
      refine gd_aload_n C dL_law_361 rfl ?_
      refine gd_callV (n := 0) (ci := 5) (Cn := RX5) (T := TX5) (N := 18) C (kX5_thrown hl hLWb.2.2.1) ?_ rfl gL_law_X5_thrown rfl ⟨rfl, by decide, by decide, by decide +kernel⟩ rfl rfl (Nat.le_of_ble_eq_true rfl) rfl dL_law_362 ⟨⟨by decide, by decide⟩, (by show _ ≤ 601024; dsimp only; omega), (by show _ ≤ 7293034; dsimp only; omega)⟩ (fun _ h => h.elim) ?_
      · exact ⟨_, by exact hLWb.2.2.1.1⟩
      rintro _ _ ⟨rfl, rfl⟩
      refine gd_iload C dL_law_365 rfl ?_
      refine gd_icmp_eq (tgt := 372) C dL_law_367 (by decide) ?_ ?_ (fun hc367 => ?_) (fun hc367 => ?_)
      · omega
      · omega
      · refine gd_iload C dL_law_372 rfl ?_
        refine gd_if_ne (tgt := 389) C dL_law_374 (by decide) ?_ (fun hc374 => ?_) (fun hc374 => ?_)
        · omega
        · exfalso; omega
        · refine gd_aload_n C dL_law_377 rfl ?_
          refine gd_iconst C dL_law_378 ?_
          refine gd_lald C dL_law_379 hLWb.2.2.2.2.1 hval ?_
          refine gd_iload C dL_law_380 rfl ?_
          refine gd_i2l C dL_law_382 ?_
          refine gd_lcmpE C dL_law_383 ?_
          refine gd_if_eq (tgt := 389) C dL_law_384 (by decide) ?_ (fun hc384 => ?_) (fun hc384 => ?_)
          · omega
          · refine gd_goto (tgt := 1373) C dL_law_389 (by decide) ?_
            refine Gd.widen (k := cells + 10) (n := slots + 60) (by dsimp only; omega) (by dsimp only; omega) (Gd.sub (by repeat (first | exact Lsb.nil | exact Lsb.rf _ | refine Lsb.keep ?_ | refine Lsb.drop ?_)) (kk _ ⟨g, t, ar, d, ac, ab, la, na, fa, A, _, _, _, _, _, _, _, _, _, _, _, F9, G9, _, _, hLWb, hINV9⟩))
          · exfalso; omega
      · exfalso; omega
  · have hx1 : ¬ (0 ≤ q1 ∧ q1 ≤ 999) := by
      rcases hx with ⟨h8, h9⟩ | ⟨h8, h9⟩
      · exact h9
      · exact absurd h8 (by decide)
    clear hx
    have hLWa := hLW
    refine gd_istore C dL_law_347 (Nat.le_of_ble_eq_true rfl) ?_
    refine gd_aload_n C dL_law_349 rfl ?_
    refine gd_aload_n C dL_law_350 rfl ?_
    refine gd_iload C dL_law_351 rfl ?_
    refine gd_iconst C dL_law_353 ?_
    refine gd_iadd C dL_law_354 ?_
    refine gd_sld C hX hbl hzb (by omega) hL8 dL_law_355 hq1 ?_
    refine gd_callV (n := 1) (ci := 5) (Cn := RX5) (T := TX5) (N := 18) C (kX5_delete hl hLWa.2.2.1 hRN hDR (by omega) hlo0 hco0 hR hI hF9 hq1R hsc (fun h => hNI.has h) (srt_DI (hNI.2.2.2.1 _))) ?_ rfl gL_law_X5_delete rfl ⟨rfl, by decide, by decide, by decide +kernel⟩ rfl rfl (Nat.le_of_ble_eq_true rfl) rfl dL_law_356 ⟨⟨by decide, by decide⟩, (by show _ ≤ 601024; dsimp only; omega), (by show _ ≤ 7293034; dsimp only; omega)⟩ (fun _ h => h.elim) ?_
    · exact ⟨_, by exact hLWa.2.2.1.1⟩
    rintro r3 w3 hm
    obtain ⟨t7, ht7, rfl, F9, G9, hV, hR9, hN9, h79, h99, h179⟩ := hm.resolve_left (fun h => by have h1 := h.1; have h2 := h.2.1; have h3 := h.2.2.1; clear hm h; omega)
    have hLWb := hLWa.mod hV
    have hINV9 : INV (k + 1) T v B sc dn n lo co ct nm fl F9 G9 := ⟨hFS.up, by rw [h79]; exact hRL, hR9, hNI, by omega, hN9, by rw [h99]; exact hF9⟩
    clear hm
    have ht : t7 = 1 := by omega
    subst ht
    refine gd_istore C dL_law_359 (Nat.le_of_ble_eq_true rfl) ?_
    refine gd_aload_n C dL_law_361 rfl ?_
    refine gd_callV (n := 0) (ci := 5) (Cn := RX5) (T := TX5) (N := 18) C (kX5_thrown hl hLWb.2.2.1) ?_ rfl gL_law_X5_thrown rfl ⟨rfl, by decide, by decide, by decide +kernel⟩ rfl rfl (Nat.le_of_ble_eq_true rfl) rfl dL_law_362 ⟨⟨by decide, by decide⟩, (by show _ ≤ 601024; dsimp only; omega), (by show _ ≤ 7293034; dsimp only; omega)⟩ (fun _ h => h.elim) ?_
    · exact ⟨_, by exact hLWb.2.2.1.1⟩
    rintro _ _ ⟨rfl, rfl⟩
    refine gd_iload C dL_law_365 rfl ?_
    refine gd_icmp_eq (tgt := 372) C dL_law_367 (by decide) ?_ ?_ (fun hc367 => ?_) (fun hc367 => ?_)
    · omega
    · omega
    · refine gd_iload C dL_law_372 rfl ?_
      refine gd_if_ne (tgt := 389) C dL_law_374 (by decide) ?_ (fun hc374 => ?_) (fun hc374 => ?_)
      · omega
      · refine gd_goto (tgt := 1373) C dL_law_389 (by decide) ?_
        refine Gd.widen (k := cells + 10) (n := slots + 60) (by dsimp only; omega) (by dsimp only; omega) (Gd.sub (by repeat (first | exact Lsb.nil | exact Lsb.rf _ | refine Lsb.keep ?_ | refine Lsb.drop ?_)) (kk _ ⟨g, t, ar, d, ac, ab, la, na, fa, A, _, _, _, _, _, _, _, _, _, _, _, F9, G9, _, _, hLWb, hINV9⟩))
      · exfalso; omega
    · exfalso; omega
  · have hx1 : (0 ≤ q1 ∧ q1 ≤ 999) ∧ (dn = 1 ∨ dF n lo co ct nm fl q1 = -1) := by
      rcases hx with ⟨h8, h9⟩ | ⟨h8, h9⟩
      · exact absurd h8 (by decide)
      · exact h9
    clear hx
    have hLWa := hLW
    refine gd_istore C dL_law_347 (Nat.le_of_ble_eq_true rfl) ?_
    refine gd_aload_n C dL_law_349 rfl ?_
    refine gd_aload_n C dL_law_350 rfl ?_
    refine gd_iload C dL_law_351 rfl ?_
    refine gd_iconst C dL_law_353 ?_
    refine gd_iadd C dL_law_354 ?_
    refine gd_sld C hX hbl hzb (by omega) hL8 dL_law_355 hq1 ?_
    refine gd_callV (n := 1) (ci := 5) (Cn := RX5) (T := TX5) (N := 18) C (kX5_delete hl hLWa.2.2.1 hRN hDR (by omega) hlo0 hco0 hR hI hF9 hq1R hsc (fun h => hNI.has h) (srt_DI (hNI.2.2.2.1 _))) ?_ rfl gL_law_X5_delete rfl ⟨rfl, by decide, by decide, by decide +kernel⟩ rfl rfl (Nat.le_of_ble_eq_true rfl) rfl dL_law_356 ⟨⟨by decide, by decide⟩, (by show _ ≤ 601024; dsimp only; omega), (by show _ ≤ 7293034; dsimp only; omega)⟩ (fun _ h => h.elim) ?_
    · exact ⟨_, by exact hLWa.2.2.1.1⟩
    rintro r3 w3 hm
    obtain ⟨t7, ht7, rfl, F9, G9, hV, hR9, hN9, h79, h99, h179⟩ := hm.resolve_left (fun h => by have h1 := h.1; have h2 := h.2.1; have h3 := h.2.2.1; clear hm h; omega)
    have hLWb := hLWa.mod hV
    have hINV9 : INV (k + 1) T v B sc dn n lo co ct nm fl F9 G9 := ⟨hFS.up, by rw [h79]; exact hRL, hR9, hNI, by omega, hN9, by rw [h99]; exact hF9⟩
    clear hm
    have ht : t7 = 2 := by omega
    subst ht
    refine gd_istore C dL_law_359 (Nat.le_of_ble_eq_true rfl) ?_
    refine gd_aload_n C dL_law_361 rfl ?_
    refine gd_callV (n := 0) (ci := 5) (Cn := RX5) (T := TX5) (N := 18) C (kX5_thrown hl hLWb.2.2.1) ?_ rfl gL_law_X5_thrown rfl ⟨rfl, by decide, by decide, by decide +kernel⟩ rfl rfl (Nat.le_of_ble_eq_true rfl) rfl dL_law_362 ⟨⟨by decide, by decide⟩, (by show _ ≤ 601024; dsimp only; omega), (by show _ ≤ 7293034; dsimp only; omega)⟩ (fun _ h => h.elim) ?_
    · exact ⟨_, by exact hLWb.2.2.1.1⟩
    rintro _ _ ⟨rfl, rfl⟩
    refine gd_iload C dL_law_365 rfl ?_
    refine gd_icmp_eq (tgt := 372) C dL_law_367 (by decide) ?_ ?_ (fun hc367 => ?_) (fun hc367 => ?_)
    · omega
    · omega
    · refine gd_iload C dL_law_372 rfl ?_
      refine gd_if_ne (tgt := 389) C dL_law_374 (by decide) ?_ (fun hc374 => ?_) (fun hc374 => ?_)
      · omega
      · refine gd_goto (tgt := 1373) C dL_law_389 (by decide) ?_
        refine Gd.widen (k := cells + 10) (n := slots + 60) (by dsimp only; omega) (by dsimp only; omega) (Gd.sub (by repeat (first | exact Lsb.nil | exact Lsb.rf _ | refine Lsb.keep ?_ | refine Lsb.drop ?_)) (kk _ ⟨g, t, ar, d, ac, ab, la, na, fa, A, _, _, _, _, _, _, _, _, _, _, _, F9, G9, _, _, hLWb, hINV9⟩))
      · exfalso; omega
    · exfalso; omega

set_option maxRecDepth 100000 in
set_option maxHeartbeats 4000000 in
theorem cs_create {p : Program} {l : Launch} {e : Env} {s : State} {m : MethodId} {args : Array Value} {below : List Frame} {meth : Method} {c : Code} {D : va_G} {ky : Nat → ClassId} {z : Nat} {Q : State → Prop} {cells slots : Nat} {w : WT} (hl : l.stackTraces = false) (C : Cx p l s m args meth c D ky z cL_law 8 wsL_law RL) (hNC : NC3 s) {b0 L : Nat} {xs : Nat → Int32} (hX : va_X b0 L xs s s.heap) (hbl : b0 < s.heap.size) (hzb : ¬ z ≤ b0) (hL8 : L ≤ 2048) {b o ao ad : Nat} {k i : Int} (hLI : LI w ky b o ao ad k) (hk : 0 ≤ k ∧ k ≤ 511) (hi : 0 ≤ i ∧ i + 3 < L) (hcs : cells + 30 ≤ 601024 ∧ slots + 200 ≤ 7293034)
    (kk : ∀ w', LI w' ky b o ao ad (k + 1) → Gd p l e room_1 s m args below meth c D z Q (cells + 10) (slots + 60) w' 1373 [some (.ref b0), some (.ref b), some (.ref o), some (.ref ao), some (.ref ad), some (.int (iI i)), none, none] []) : Gd p l e room_1 s m args below meth c D z Q cells slots w 168 [some (.ref b0), some (.ref b), some (.ref o), some (.ref ao), some (.ref ad), some (.int (iI i)), none, none] [] := by
  obtain ⟨g, t, ar, d, ac, ab, la, na, fa, A, T, v, B, sc, dn, n, lo, co, ct, nm, fl, F, G, fo, fd, hLW, hINV⟩ := hLI
  obtain ⟨hW, hD, hM, hA0, hao, had⟩ := id hLW
  obtain ⟨hFS, hRL, hR, hNI, hPT, hRN, hF9⟩ := id hINV
  obtain ⟨hI, hOW, hL0, hsc, hds, h3c, hc0⟩ := id hFS
  obtain ⟨hi1, hi2, hi3, hi4⟩ := id hI
  have hDR := hNI.1
  have hn9 := PT_nn (ct := ct) hDR.1.1
  have hn3 : n < 300 := by omega
  have hlo0 := hNI.2.1
  have hco0 := hNI.2.2.1
  clear hn9
  obtain ⟨q1, hq1⟩ : ∃ q, scS xs (i + 1) = q := ⟨_, rfl⟩
  have hq1R : InR q1 := hq1 ▸ scS_R xs (i + 1)
  obtain ⟨q2, hq2⟩ : ∃ q, scS xs (i + 2) = q := ⟨_, rfl⟩
  have hq2R : InR q2 := hq2 ▸ scS_R xs (i + 2)
  obtain ⟨q3, hq3⟩ : ∃ q, scS xs (i + 3) = q := ⟨_, rfl⟩
  have hq3R : InR q3 := hq3 ▸ scS_R xs (i + 3)
  refine gd_aload_n C dL_law_168 rfl ?_
  refine gd_aload_n C dL_law_169 rfl ?_
  refine gd_iload C dL_law_170 rfl ?_
  refine gd_iconst C dL_law_172 ?_
  refine gd_iadd C dL_law_173 ?_
  refine gd_sld C hX hbl hzb (by omega) hL8 dL_law_174 hq1 ?_
  refine gd_aload_n C dL_law_175 rfl ?_
  refine gd_callSW (n := 3) C hNC (kL_create hl (kX4_create hl hW hI hD hDR hq1R hlo0 (fun i e => hNI.2.2.2.1 i 2 (by decide) (by omega))) ⟨_, hW.1⟩ (ao := ao) (f := fo) ?_ (fun E h => h.imp And.left And.left)) gL_law_L_create rfl ⟨by decide, by decide, by decide +kernel⟩ rfl rfl (Nat.le_of_ble_eq_true rfl) rfl dL_law_176 ⟨⟨by decide, by decide⟩, (by show _ ≤ 601024; dsimp only; omega), (by show _ ≤ 7293034; dsimp only; omega)⟩ ?_
  · rintro r w1 ⟨-, -, -, -, -, rfl, hW1, -, la9, na9, fa9, n', lo', co', ct', nm', fl', hD1, -, hF1⟩
    exact ⟨⟨_, rfl⟩, (hLW.cls hW1 hD1 hF1).2.2.2.2.1⟩
  intro r w1 hw1
  rcases hw1 with ⟨rfl, hok⟩ | ⟨rfl, ⟨rfl, hx⟩ | ⟨rfl, hx⟩⟩
  · obtain ⟨x1, w2, f', hP0, hf', rfl⟩ := hok
    obtain ⟨hc1, hc2, hc3, hc4, -, hv, hW1, hI1, la9, na9, fa9, n', lo', co', ct', nm', fl', hD1, hADD, hF1⟩ := hP0
    have hLWa := (hLW.cls hW1 hD1 hF1).out f'
    have hxb : 0 ≤ (fF (fun j => v j 2 = 0) 0 16) ∧ (fF (fun j => v j 2 = 0) 0 16) ≤ 15 := by
      rcases fF_spec (P := fun j => v j 2 = 0) (b := 16) _ 0 rfl with ⟨e, -⟩ | ⟨e1, e2, -⟩
      · omega
      · omega
    have h39 := h3c _ hxb.1 (by omega)
    obtain ⟨n1, n2, n3⟩ := hNI.put hc1 hxb (by omega) hc4 hADD
    refine gd_istore C dL_law_179 (Nat.le_of_ble_eq_true rfl) ?_
    refine gd_aload_n C dL_law_181 rfl ?_
    refine gd_aload_n C dL_law_182 rfl ?_
    refine gd_iload C dL_law_183 rfl ?_
    refine gd_iconst C dL_law_185 ?_
    refine gd_iadd C dL_law_186 ?_
    refine gd_sld C hX hbl hzb (by omega) hL8 dL_law_187 hq1 ?_
    refine gd_callV (n := 1) (ci := 5) (Cn := RX5) (T := TX5) (N := 18) C (kX5_create hl hLWa.2.2.1 hRN hDR (by omega) hlo0 hco0 hR hI hF9 hq1R hn3 hNI.2.2.2.1 (fun h => hNI.no h) (fun _ _ _ _ => hADD)) ?_ rfl gL_law_X5_create rfl ⟨rfl, by decide, by decide, by decide +kernel⟩ rfl rfl (Nat.le_of_ble_eq_true rfl) rfl dL_law_188 ⟨⟨by decide, by decide⟩, (by show _ ≤ 601024; dsimp only; omega), (by show _ ≤ 7293034; dsimp only; omega)⟩ (fun _ h => h.elim) ?_
    · exact ⟨_, by exact hLWa.2.2.1.1⟩
    rintro r3 w3 hm
    obtain ⟨-, -, -, -, rfl, F9, G9, hV, hR9, hN9, h79, h99, h179⟩ := hm.resolve_right (fun ⟨t7, ht7, _⟩ => by clear hm; omega)
    clear hm
    have hLWb := hLWa.mod hV
    have hINV9 := (⟨hFS.setv hI1 ⟨rfl, rfl, Int.le_refl _, by show v (fF (fun j => v j 2 = 0) 0 16) 3 ≤ k + 1; omega⟩, by rw [h79]; exact hRL.vs rfl rfl rfl, hR9, n1, by omega, hN9, by rw [h99]; exact n3 _ hF9⟩ : INV (k + 1) _ _ _ _ _ n' lo' co' ct' nm' fl' F9 G9)
    have hval : f' 0 = (iI ((fF (fun j => v j 2 = 0) 0 16))).toInt64 := by rw [hf', Value.int.inj (Option.some.inj hv)]
    refine gd_istore C dL_law_191 (Nat.le_of_ble_eq_true rfl) ?_
    refine gd_aload_n C dL_law_193 rfl ?_
    refine gd_callV (n := 0) (ci := 5) (Cn := RX5) (T := TX5) (N := 18) C (kX5_thrown hl hLWb.2.2.1) ?_ rfl gL_law_X5_thrown rfl ⟨rfl, by decide, by decide, by decide +kernel⟩ rfl rfl (Nat.le_of_ble_eq_true rfl) rfl dL_law_194 ⟨⟨by decide, by decide⟩, (by show _ ≤ 601024; dsimp only; omega), (by show _ ≤ 7293034; dsimp only; omega)⟩ (fun _ h => h.elim) ?_
    · exact ⟨_, by exact hLWb.2.2.1.1⟩
    rintro _ _ ⟨rfl, rfl⟩
    refine gd_iload C dL_law_197 rfl ?_
    refine gd_icmp_eq (tgt := 204) C dL_law_199 (by decide) ?_ ?_ (fun hc199 => ?_) (fun hc199 => ?_)
    · omega
    · omega
    · refine gd_iload C dL_law_204 rfl ?_
      refine gd_if_ne (tgt := 221) C dL_law_206 (by decide) ?_ (fun hc206 => ?_) (fun hc206 => ?_)
      · omega
      · exfalso; omega
      · refine gd_aload_n C dL_law_209 rfl ?_
        refine gd_iconst C dL_law_210 ?_
        refine gd_lald C dL_law_211 hLWb.2.2.2.2.1 hval ?_
        refine gd_iload C dL_law_212 rfl ?_
        refine gd_i2l C dL_law_214 ?_
        refine gd_lcmpE C dL_law_215 ?_
        refine gd_if_eq (tgt := 221) C dL_law_216 (by decide) ?_ (fun hc216 => ?_) (fun hc216 => ?_)
        · omega
        · refine gd_goto (tgt := 1373) C dL_law_221 (by decide) ?_
          refine Gd.widen (k := cells + 10) (n := slots + 60) (by dsimp only; omega) (by dsimp only; omega) (Gd.sub (by repeat (first | exact Lsb.nil | exact Lsb.rf _ | refine Lsb.keep ?_ | refine Lsb.drop ?_)) (kk _ ⟨g, t, ar, d, ac, ab, la9, na9, fa9, A, _, _, _, _, _, _, _, _, _, _, _, F9, G9, _, _, hLWb, hINV9⟩))
        · exfalso; omega
    · exfalso; omega
  · have hx1 : ¬ (0 ≤ q1 ∧ q1 ≤ 999) := by
      rcases hx with ⟨h8, h9⟩ | ⟨h8, h9⟩
      · exact h9
      · exact absurd h8 (by decide)
    clear hx
    have hLWa := hLW
    refine gd_istore C dL_law_179 (Nat.le_of_ble_eq_true rfl) ?_
    refine gd_aload_n C dL_law_181 rfl ?_
    refine gd_aload_n C dL_law_182 rfl ?_
    refine gd_iload C dL_law_183 rfl ?_
    refine gd_iconst C dL_law_185 ?_
    refine gd_iadd C dL_law_186 ?_
    refine gd_sld C hX hbl hzb (by omega) hL8 dL_law_187 hq1 ?_
    refine gd_callV (n := 1) (ci := 5) (Cn := RX5) (T := TX5) (N := 18) C (kX5_create hl hLWa.2.2.1 hRN hDR (by omega) hlo0 hco0 hR hI hF9 hq1R (n' := n) (lo' := lo) (co' := co) (ct' := ct) (nm' := nm) (fl' := fl) hn3 hNI.2.2.2.1 (fun h => hNI.no h) (fun h1 h2 h3 h4 => by exfalso; omega)) ?_ rfl gL_law_X5_create rfl ⟨rfl, by decide, by decide, by decide +kernel⟩ rfl rfl (Nat.le_of_ble_eq_true rfl) rfl dL_law_188 ⟨⟨by decide, by decide⟩, (by show _ ≤ 601024; dsimp only; omega), (by show _ ≤ 7293034; dsimp only; omega)⟩ (fun _ h => h.elim) ?_
    · exact ⟨_, by exact hLWa.2.2.1.1⟩
    rintro r3 w3 hm
    obtain ⟨t7, ht7, rfl, F9, G9, hV, hR9, hN9, h79, h99, h179⟩ := hm.resolve_left (fun h => by have h1 := h.1; have h2 := h.2.1; have h3 := h.2.2.1; have h4 := h.2.2.2.1; clear hm h; omega)
    have hLWb := hLWa.mod hV
    have hINV9 : INV (k + 1) T v B sc dn n lo co ct nm fl F9 G9 := ⟨hFS.up, by rw [h79]; exact hRL, hR9, hNI, by omega, hN9, by rw [h99]; exact hF9⟩
    clear hm
    have ht : t7 = 1 := by omega
    subst ht
    refine gd_istore C dL_law_191 (Nat.le_of_ble_eq_true rfl) ?_
    refine gd_aload_n C dL_law_193 rfl ?_
    refine gd_callV (n := 0) (ci := 5) (Cn := RX5) (T := TX5) (N := 18) C (kX5_thrown hl hLWb.2.2.1) ?_ rfl gL_law_X5_thrown rfl ⟨rfl, by decide, by decide, by decide +kernel⟩ rfl rfl (Nat.le_of_ble_eq_true rfl) rfl dL_law_194 ⟨⟨by decide, by decide⟩, (by show _ ≤ 601024; dsimp only; omega), (by show _ ≤ 7293034; dsimp only; omega)⟩ (fun _ h => h.elim) ?_
    · exact ⟨_, by exact hLWb.2.2.1.1⟩
    rintro _ _ ⟨rfl, rfl⟩
    refine gd_iload C dL_law_197 rfl ?_
    refine gd_icmp_eq (tgt := 204) C dL_law_199 (by decide) ?_ ?_ (fun hc199 => ?_) (fun hc199 => ?_)
    · omega
    · omega
    · refine gd_iload C dL_law_204 rfl ?_
      refine gd_if_ne (tgt := 221) C dL_law_206 (by decide) ?_ (fun hc206 => ?_) (fun hc206 => ?_)
      · omega
      · refine gd_goto (tgt := 1373) C dL_law_221 (by decide) ?_
        refine Gd.widen (k := cells + 10) (n := slots + 60) (by dsimp only; omega) (by dsimp only; omega) (Gd.sub (by repeat (first | exact Lsb.nil | exact Lsb.rf _ | refine Lsb.keep ?_ | refine Lsb.drop ?_)) (kk _ ⟨g, t, ar, d, ac, ab, la, na, fa, A, _, _, _, _, _, _, _, _, _, _, _, F9, G9, _, _, hLWb, hINV9⟩))
      · exfalso; omega
    · exfalso; omega
  · have hx1 : (0 ≤ q1 ∧ q1 ≤ 999) ∧ (dn = 1 ∨ (fF (fun j => v j 2 = 0) 0 16) = -1 ∨ dF n lo co ct nm fl q1 ≠ -1 ∨ 512 ≤ n) := by
      rcases hx with ⟨h8, h9⟩ | ⟨h8, h9⟩
      · exact absurd h8 (by decide)
      · exact h9
    clear hx
    have hLWa := hLW
    refine gd_istore C dL_law_179 (Nat.le_of_ble_eq_true rfl) ?_
    refine gd_aload_n C dL_law_181 rfl ?_
    refine gd_aload_n C dL_law_182 rfl ?_
    refine gd_iload C dL_law_183 rfl ?_
    refine gd_iconst C dL_law_185 ?_
    refine gd_iadd C dL_law_186 ?_
    refine gd_sld C hX hbl hzb (by omega) hL8 dL_law_187 hq1 ?_
    refine gd_callV (n := 1) (ci := 5) (Cn := RX5) (T := TX5) (N := 18) C (kX5_create hl hLWa.2.2.1 hRN hDR (by omega) hlo0 hco0 hR hI hF9 hq1R (n' := n) (lo' := lo) (co' := co) (ct' := ct) (nm' := nm) (fl' := fl) hn3 hNI.2.2.2.1 (fun h => hNI.no h) (fun h1 h2 h3 h4 => by exfalso; omega)) ?_ rfl gL_law_X5_create rfl ⟨rfl, by decide, by decide, by decide +kernel⟩ rfl rfl (Nat.le_of_ble_eq_true rfl) rfl dL_law_188 ⟨⟨by decide, by decide⟩, (by show _ ≤ 601024; dsimp only; omega), (by show _ ≤ 7293034; dsimp only; omega)⟩ (fun _ h => h.elim) ?_
    · exact ⟨_, by exact hLWa.2.2.1.1⟩
    rintro r3 w3 hm
    obtain ⟨t7, ht7, rfl, F9, G9, hV, hR9, hN9, h79, h99, h179⟩ := hm.resolve_left (fun h => by have h1 := h.1; have h2 := h.2.1; have h3 := h.2.2.1; have h4 := h.2.2.2.1; clear hm h; omega)
    have hLWb := hLWa.mod hV
    have hINV9 : INV (k + 1) T v B sc dn n lo co ct nm fl F9 G9 := ⟨hFS.up, by rw [h79]; exact hRL, hR9, hNI, by omega, hN9, by rw [h99]; exact hF9⟩
    clear hm
    have ht : t7 = 2 := by omega
    subst ht
    refine gd_istore C dL_law_191 (Nat.le_of_ble_eq_true rfl) ?_
    refine gd_aload_n C dL_law_193 rfl ?_
    refine gd_callV (n := 0) (ci := 5) (Cn := RX5) (T := TX5) (N := 18) C (kX5_thrown hl hLWb.2.2.1) ?_ rfl gL_law_X5_thrown rfl ⟨rfl, by decide, by decide, by decide +kernel⟩ rfl rfl (Nat.le_of_ble_eq_true rfl) rfl dL_law_194 ⟨⟨by decide, by decide⟩, (by show _ ≤ 601024; dsimp only; omega), (by show _ ≤ 7293034; dsimp only; omega)⟩ (fun _ h => h.elim) ?_
    · exact ⟨_, by exact hLWb.2.2.1.1⟩
    rintro _ _ ⟨rfl, rfl⟩
    refine gd_iload C dL_law_197 rfl ?_
    refine gd_icmp_eq (tgt := 204) C dL_law_199 (by decide) ?_ ?_ (fun hc199 => ?_) (fun hc199 => ?_)
    · omega
    · omega
    · refine gd_iload C dL_law_204 rfl ?_
      refine gd_if_ne (tgt := 221) C dL_law_206 (by decide) ?_ (fun hc206 => ?_) (fun hc206 => ?_)
      · omega
      · refine gd_goto (tgt := 1373) C dL_law_221 (by decide) ?_
        refine Gd.widen (k := cells + 10) (n := slots + 60) (by dsimp only; omega) (by dsimp only; omega) (Gd.sub (by repeat (first | exact Lsb.nil | exact Lsb.rf _ | refine Lsb.keep ?_ | refine Lsb.drop ?_)) (kk _ ⟨g, t, ar, d, ac, ab, la, na, fa, A, _, _, _, _, _, _, _, _, _, _, _, F9, G9, _, _, hLWb, hINV9⟩))
      · exfalso; omega
    · exfalso; omega
