theorem eqI_nn {f : Int → Int} {x y : Int} (hy : y ≤ 64) : 0 ≤ sI (fun p => eqI (f p) x) y 64 := (sI_bd (g := fun p => eqI (f p) x) (fun _ => eqI_bd _ _) hy).1
theorem RF.vs {F : Nat → Int → Int} {G : Nat → Int} {T : Int → Int} {v B : Int → Int → Int} {sc dn q : Int} {u : Int → Int} (h : RF F G T v B sc dn) (hu : u 2 = v q 2 ∧ u 3 = v q 3 ∧ u 5 = v q 5 ∧ u 6 = v q 6 ∧ u 7 = v q 7 ∧ u 9 = v q 9) : RF F G T (fU v q u) B sc dn := h.cv (fun j _ _ => by
  by_cases hj : j = q
  · subst hj; rw [fU_s]; exact hu
  · rw [fU_n hj]; exact ⟨rfl, rfl, rfl, rfl, rfl, rfl⟩)
theorem RF.us {F : Nat → Int → Int} {G : Nat → Int} {T : Int → Int} {v B : Int → Int → Int} {sc dn q : Int} {u u' : Int → Int} (h : RF F G T (fU v q u') B sc dn) (hu : u 2 = u' 2 ∧ u 3 = u' 3 ∧ u 5 = u' 5 ∧ u 6 = u' 6 ∧ u 7 = u' 7 ∧ u 9 = u' 9) : RF F G T (fU v q u) B sc dn := h.cv (fun j _ _ => by
  by_cases hj : j = q
  · subst hj; rw [fU_s, fU_s]; exact hu
  · rw [fU_n hj, fU_n hj]; exact ⟨rfl, rfl, rfl, rfl, rfl, rfl⟩)
theorem RF.cx {F : Nat → Int → Int} {G : Nat → Int} {S : Int → Int} {v v' B : Int → Int → Int} {sc dn : Int} (h : RF F G (rlT v S 16) (crV v 16) B sc dn) (hv : ∀ j, v' j 2 = v j 2 ∧ v' j 5 = v j 5 ∧ v' j 6 = v j 6 ∧ v' j 7 = v j 7 ∧ v' j 9 = v j 9) : RF F G (rlT v' S 16) (flV (rlV v' 16) 16) B sc dn := by
  rw [rlT_cg (v := v) 16 (Nat.le_refl _) (fun j _ _ => ⟨(hv j).2.2.1, (hv j).2.2.2.1⟩)]
  refine h.cv (fun j a b => ?_)
  obtain ⟨e2, e5, e6, e7, e9⟩ := hv j
  unfold flV rlV crV
  rw [if_pos ⟨a, b⟩, if_pos ⟨a, b⟩, if_pos ⟨a, b⟩]
  exact ⟨e2, rfl, e5, e6, rfl, e9⟩
theorem agU {v : Int → Int → Int} {q : Int} {u u' : Int → Int} (hu : u 2 = u' 2 ∧ u 5 = u' 5 ∧ u 6 = u' 6 ∧ u 7 = u' 7 ∧ u 9 = u' 9) (j : Int) : fU v q u j 2 = fU v q u' j 2 ∧ fU v q u j 5 = fU v q u' j 5 ∧ fU v q u j 6 = fU v q u' j 6 ∧ fU v q u j 7 = fU v q u' j 7 ∧ fU v q u j 9 = fU v q u' j 9 := by
  by_cases hj : j = q
  · subst hj; rw [fU_s, fU_s]; exact hu
  · rw [fU_n hj, fU_n hj]; exact ⟨rfl, rfl, rfl, rfl, rfl⟩
theorem RLs.dl {f7 : Int → Int} {v : Int → Int → Int} (h : RLs f7 v) {q : Int} {u : Int → Int} (h8 : u 8 = 1) (h9 : u 9 = 1) : RLs f7 (fU v q u) := by
  intro j a b
  by_cases hj : j = q
  · subst hj
    rw [fU_s, h8, h9]
    exact ⟨(h j a b).1, ⟨fun _ => Or.inl rfl, fun _ => rfl⟩, fun e => absurd e (by decide)⟩
  · rw [fU_n hj]
    exact h j a b
theorem RLs.en {f7 : Int → Int} {v : Int → Int → Int} (h : RLs f7 v) {q : Int} {u : Int → Int} (h8 : u 8 = u 9) : RLs (fU f7 q (-1)) (fU v q u) := h.set ⟨by decide, by decide⟩ ⟨fun e => Or.inl (h8 ▸ e), fun e => e.elim (fun e => h8.trans e) (fun e => absurd rfl e)⟩ (fun _ e => absurd rfl e)
theorem RLs.fl {f7 : Int → Int} {v : Int → Int → Int} (h : RLs f7 v) : RLs f7 (flV (rlV v 16) 16) := h.cg (fun j _ _ => ⟨(flV_f v j).2.2.1, (flV_f v j).2.2.2.1, (flV_f v j).2.2.2.2.1⟩)
theorem RLs.rl {f7 : Int → Int} {v : Int → Int → Int} (h : RLs f7 v) : RLs f7 (rlV v 16) := h.cg (fun j _ _ => by unfold rlV; split <;> exact ⟨rfl, rfl, rfl⟩)
theorem u36 (f : Int → Int) (x : Int) : fU f 3 x 6 = f 6 := rfl
theorem u37 (f : Int → Int) (x : Int) : fU f 3 x 7 = f 7 := rfl
theorem u39 (f : Int → Int) (x : Int) : fU f 3 x 9 = f 9 := rfl
theorem u86 (f : Int → Int) (x : Int) : fU f 8 x 6 = f 6 := rfl
theorem u87 (f : Int → Int) (x : Int) : fU f 8 x 7 = f 7 := rfl
theorem u96 (f : Int → Int) (x : Int) : fU f 9 x 6 = f 6 := rfl
theorem u97 (f : Int → Int) (x : Int) : fU f 9 x 7 = f 7 := rfl
theorem u99 (f : Int → Int) (x : Int) : fU f 9 x 9 = x := rfl
set_option maxRecDepth 100000 in
set_option maxHeartbeats 4000000 in
theorem cs_crashBehind {p : Program} {l : Launch} {e : Env} {s : State} {m : MethodId} {args : Array Value} {below : List Frame} {meth : Method} {c : Code} {D : va_G} {ky : Nat → ClassId} {z : Nat} {Q : State → Prop} {cells slots : Nat} {w : WT} (hl : l.stackTraces = false) (C : Cx p l s m args meth c D ky z cL_law 8 wsL_law RL) (hNC : NC3 s) {b0 L : Nat} {xs : Nat → Int32} (hX : va_X b0 L xs s s.heap) (hbl : b0 < s.heap.size) (hzb : ¬ z ≤ b0) (hL8 : L ≤ 2048) {b o ao ad : Nat} {k i : Int} (hLI : LI w ky b o ao ad k) (hk : 0 ≤ k ∧ k ≤ 511) (hi : 0 ≤ i ∧ i + 3 < L) (hcs : cells + 30 ≤ 601024 ∧ slots + 200 ≤ 7293034)
    (kk : ∀ w', LI w' ky b o ao ad (k + 1) → Gd p l e room_1 s m args below meth c D z Q (cells + 10) (slots + 60) w' 1373 [some (.ref b0), some (.ref b), some (.ref o), some (.ref ao), some (.ref ad), some (.int (iI i)), none, none] []) : Gd p l e room_1 s m args below meth c D z Q cells slots w 596 [some (.ref b0), some (.ref b), some (.ref o), some (.ref ao), some (.ref ad), some (.int (iI i)), none, none] [] := by
  obtain ⟨g, t, ar, d, ac, ab, la, na, fa, A, T, v, B, sc, dn, n, lo, co, ct, nm, fl, F, G, fo, fd, hLW, hINV⟩ := hLI
  obtain ⟨hW, hD, hM, hA0, hao, had⟩ := id hLW
  obtain ⟨hFS, hRL, hR, hNI, hPT, hRN, hF9⟩ := id hINV
  obtain ⟨hI, hOW, hL0, hsc, hds, h3c, hc0⟩ := id hFS
  obtain ⟨hi1, hi2, hi3, hi4⟩ := id hI
  have hDR := hNI.1
  have hn9 := PT_nn (ct := ct) hDR.1.1
  have hn3 : n < 300 := by omega
  have hlo0 := hNI.2.1
  have hco0 := hNI.2.2.1
  clear hn9
  obtain ⟨q1, hq1⟩ : ∃ q, scS xs (i + 1) = q := ⟨_, rfl⟩
  have hq1R : InR q1 := hq1 ▸ scS_R xs (i + 1)
  obtain ⟨q2, hq2⟩ : ∃ q, scS xs (i + 2) = q := ⟨_, rfl⟩
  have hq2R : InR q2 := hq2 ▸ scS_R xs (i + 2)
  obtain ⟨q3, hq3⟩ : ∃ q, scS xs (i + 3) = q := ⟨_, rfl⟩
  have hq3R : InR q3 := hq3 ▸ scS_R xs (i + 3)
  refine gd_aload_n C dL_law_596 rfl ?_
  refine gd_aload_n C dL_law_597 rfl ?_
  refine gd_iload C dL_law_598 rfl ?_
  refine gd_iconst C dL_law_600 ?_
  refine gd_iadd C dL_law_601 ?_
  refine gd_sld C hX hbl hzb (by omega) hL8 dL_law_602 hq1 ?_
  refine gd_callSW (n := 2) C hNC (kL_crashBehind hl (kX4_crashBehind hl hW hI hq1R) ⟨_, hW.1⟩ ?_ (fun E h => h.imp And.left And.left)) gL_law_L_crashBehind rfl ⟨by decide, by decide, by decide +kernel⟩ rfl rfl (Nat.le_of_ble_eq_true rfl) rfl dL_law_603 ⟨⟨by decide, by decide⟩, (by show _ ≤ 601024; dsimp only; omega), (by show _ ≤ 7293034; dsimp only; omega)⟩ ?_
  · rintro r w1 ⟨rfl, -⟩
    rfl
  intro r w1 hw1
  rcases hw1 with ⟨rfl, hok⟩ | ⟨rfl, ⟨rfl, hx⟩ | ⟨rfl, hx⟩⟩
  · obtain ⟨-, hc1, hc2, hW1, hI1, hF1⟩ := hok
    have hLWa := hLW.cls hW1 (hD.keptC hW hF1) hF1.A
    refine gd_istore C dL_law_606 (Nat.le_of_ble_eq_true rfl) ?_
    refine gd_aload_n C dL_law_608 rfl ?_
    refine gd_aload_n C dL_law_609 rfl ?_
    refine gd_iload C dL_law_610 rfl ?_
    refine gd_iconst C dL_law_612 ?_
    refine gd_iadd C dL_law_613 ?_
    refine gd_sld C hX hbl hzb (by omega) hL8 dL_law_614 hq1 ?_
    refine gd_callV (n := 1) (ci := 5) (Cn := RX5) (T := TX5) (N := 18) C (kX5_crashBehind hl hLWa.2.2.1 hR hI hq1R) ?_ rfl gL_law_X5_crashBehind rfl ⟨rfl, by decide, by decide, by decide +kernel⟩ rfl rfl (Nat.le_of_ble_eq_true rfl) rfl dL_law_615 ⟨⟨by decide, by decide⟩, (by show _ ≤ 601024; dsimp only; omega), (by show _ ≤ 7293034; dsimp only; omega)⟩ (fun _ h => h.elim) ?_
    · exact ⟨_, by exact hLWa.2.2.1.1⟩
    rintro r3 w3 hm
    obtain ⟨-, -, rfl, F9, G9, hV, hR9, hN9, h79, h149, h179⟩ := hm.resolve_right (fun ⟨t7, ht7, _⟩ => by clear hm; omega)
    clear hm
    have hLWb := hLWa.mod hV
    have hINV9 := hINV.file (hFS.scs hI1 hc2 hc1) (by rw [h79]; exact hRL) (hR9) hN9 h149
    refine gd_aload_n C dL_law_618 rfl ?_
    refine gd_callV (n := 0) (ci := 5) (Cn := RX5) (T := TX5) (N := 18) C (kX5_thrown hl hLWb.2.2.1) ?_ rfl gL_law_X5_thrown rfl ⟨rfl, by decide, by decide, by decide +kernel⟩ rfl rfl (Nat.le_of_ble_eq_true rfl) rfl dL_law_619 ⟨⟨by decide, by decide⟩, (by show _ ≤ 601024; dsimp only; omega), (by show _ ≤ 7293034; dsimp only; omega)⟩ (fun _ h => h.elim) ?_
    · exact ⟨_, by exact hLWb.2.2.1.1⟩
    rintro _ _ ⟨rfl, rfl⟩
    refine gd_iload C dL_law_622 rfl ?_
    refine gd_icmp_eq (tgt := 629) C dL_law_624 (by decide) ?_ ?_ (fun hc624 => ?_) (fun hc624 => ?_)
    · omega
    · omega
    · refine gd_goto (tgt := 1373) C dL_law_629 (by decide) ?_
      refine Gd.widen (k := cells + 10) (n := slots + 60) (by dsimp only; omega) (by dsimp only; omega) (Gd.sub (by repeat (first | exact Lsb.nil | exact Lsb.rf _ | refine Lsb.keep ?_ | refine Lsb.drop ?_)) (kk _ ⟨g, t, ar, d, ac, ab, la, na, fa, A, _, _, _, _, _, _, _, _, _, _, _, F9, G9, _, _, hLWb, hINV9⟩))
    · exfalso; omega
  · have hx1 : ¬ (q1 = -1 ∨ 1 ≤ q1 ∧ q1 ≤ 50) := by
      rcases hx with ⟨h8, h9⟩ | ⟨h8, h9⟩
      · exact h9
      · exact absurd h8 (by decide)
    clear hx
    have hLWa := hLW
    refine gd_istore C dL_law_606 (Nat.le_of_ble_eq_true rfl) ?_
    refine gd_aload_n C dL_law_608 rfl ?_
    refine gd_aload_n C dL_law_609 rfl ?_
    refine gd_iload C dL_law_610 rfl ?_
    refine gd_iconst C dL_law_612 ?_
    refine gd_iadd C dL_law_613 ?_
    refine gd_sld C hX hbl hzb (by omega) hL8 dL_law_614 hq1 ?_
    refine gd_callV (n := 1) (ci := 5) (Cn := RX5) (T := TX5) (N := 18) C (kX5_crashBehind hl hLWa.2.2.1 hR hI hq1R) ?_ rfl gL_law_X5_crashBehind rfl ⟨rfl, by decide, by decide, by decide +kernel⟩ rfl rfl (Nat.le_of_ble_eq_true rfl) rfl dL_law_615 ⟨⟨by decide, by decide⟩, (by show _ ≤ 601024; dsimp only; omega), (by show _ ≤ 7293034; dsimp only; omega)⟩ (fun _ h => h.elim) ?_
    · exact ⟨_, by exact hLWa.2.2.1.1⟩
    rintro r3 w3 hm
    obtain ⟨t7, ht7, rfl, F9, G9, hV, hR9, hN9, h79, h149, h179⟩ := hm.resolve_left (fun h => by have h1 := h.1; have h2 := h.2.1; clear hm h; omega)
    have hLWb := hLWa.mod hV
    have hINV9 := hINV.same hR9 hN9 h79 h149
    clear hm
    have ht : t7 = 1 := by omega
    subst ht
    refine gd_aload_n C dL_law_618 rfl ?_
    refine gd_callV (n := 0) (ci := 5) (Cn := RX5) (T := TX5) (N := 18) C (kX5_thrown hl hLWb.2.2.1) ?_ rfl gL_law_X5_thrown rfl ⟨rfl, by decide, by decide, by decide +kernel⟩ rfl rfl (Nat.le_of_ble_eq_true rfl) rfl dL_law_619 ⟨⟨by decide, by decide⟩, (by show _ ≤ 601024; dsimp only; omega), (by show _ ≤ 7293034; dsimp only; omega)⟩ (fun _ h => h.elim) ?_
    · exact ⟨_, by exact hLWb.2.2.1.1⟩
    rintro _ _ ⟨rfl, rfl⟩
    refine gd_iload C dL_law_622 rfl ?_
    refine gd_icmp_eq (tgt := 629) C dL_law_624 (by decide) ?_ ?_ (fun hc624 => ?_) (fun hc624 => ?_)
    · omega
    · omega
    · refine gd_goto (tgt := 1373) C dL_law_629 (by decide) ?_
      refine Gd.widen (k := cells + 10) (n := slots + 60) (by dsimp only; omega) (by dsimp only; omega) (Gd.sub (by repeat (first | exact Lsb.nil | exact Lsb.rf _ | refine Lsb.keep ?_ | refine Lsb.drop ?_)) (kk _ ⟨g, t, ar, d, ac, ab, la, na, fa, A, _, _, _, _, _, _, _, _, _, _, _, F9, G9, _, _, hLWb, hINV9⟩))
    · exfalso; omega
  · have hx1 : (q1 = -1 ∨ 1 ≤ q1 ∧ q1 ≤ 50) ∧ dn = 1 := by
      rcases hx with ⟨h8, h9⟩ | ⟨h8, h9⟩
      · exact absurd h8 (by decide)
      · exact h9
    clear hx
    have hLWa := hLW
    refine gd_istore C dL_law_606 (Nat.le_of_ble_eq_true rfl) ?_
    refine gd_aload_n C dL_law_608 rfl ?_
    refine gd_aload_n C dL_law_609 rfl ?_
    refine gd_iload C dL_law_610 rfl ?_
    refine gd_iconst C dL_law_612 ?_
    refine gd_iadd C dL_law_613 ?_
    refine gd_sld C hX hbl hzb (by omega) hL8 dL_law_614 hq1 ?_
    refine gd_callV (n := 1) (ci := 5) (Cn := RX5) (T := TX5) (N := 18) C (kX5_crashBehind hl hLWa.2.2.1 hR hI hq1R) ?_ rfl gL_law_X5_crashBehind rfl ⟨rfl, by decide, by decide, by decide +kernel⟩ rfl rfl (Nat.le_of_ble_eq_true rfl) rfl dL_law_615 ⟨⟨by decide, by decide⟩, (by show _ ≤ 601024; dsimp only; omega), (by show _ ≤ 7293034; dsimp only; omega)⟩ (fun _ h => h.elim) ?_
    · exact ⟨_, by exact hLWa.2.2.1.1⟩
    rintro r3 w3 hm
    obtain ⟨t7, ht7, rfl, F9, G9, hV, hR9, hN9, h79, h149, h179⟩ := hm.resolve_left (fun h => by have h1 := h.1; have h2 := h.2.1; clear hm h; omega)
    have hLWb := hLWa.mod hV
    have hINV9 := hINV.same hR9 hN9 h79 h149
    clear hm
    have ht : t7 = 2 := by omega
    subst ht
    refine gd_aload_n C dL_law_618 rfl ?_
    refine gd_callV (n := 0) (ci := 5) (Cn := RX5) (T := TX5) (N := 18) C (kX5_thrown hl hLWb.2.2.1) ?_ rfl gL_law_X5_thrown rfl ⟨rfl, by decide, by decide, by decide +kernel⟩ rfl rfl (Nat.le_of_ble_eq_true rfl) rfl dL_law_619 ⟨⟨by decide, by decide⟩, (by show _ ≤ 601024; dsimp only; omega), (by show _ ≤ 7293034; dsimp only; omega)⟩ (fun _ h => h.elim) ?_
    · exact ⟨_, by exact hLWb.2.2.1.1⟩
    rintro _ _ ⟨rfl, rfl⟩
    refine gd_iload C dL_law_622 rfl ?_
    refine gd_icmp_eq (tgt := 629) C dL_law_624 (by decide) ?_ ?_ (fun hc624 => ?_) (fun hc624 => ?_)
    · omega
    · omega
    · refine gd_goto (tgt := 1373) C dL_law_629 (by decide) ?_
      refine Gd.widen (k := cells + 10) (n := slots + 60) (by dsimp only; omega) (by dsimp only; omega) (Gd.sub (by repeat (first | exact Lsb.nil | exact Lsb.rf _ | refine Lsb.keep ?_ | refine Lsb.drop ?_)) (kk _ ⟨g, t, ar, d, ac, ab, la, na, fa, A, _, _, _, _, _, _, _, _, _, _, _, F9, G9, _, _, hLWb, hINV9⟩))
    · exfalso; omega

set_option maxRecDepth 100000 in
set_option maxHeartbeats 4000000 in
theorem cs_crash {p : Program} {l : Launch} {e : Env} {s : State} {m : MethodId} {args : Array Value} {below : List Frame} {meth : Method} {c : Code} {D : va_G} {ky : Nat → ClassId} {z : Nat} {Q : State → Prop} {cells slots : Nat} {w : WT} (hl : l.stackTraces = false) (C : Cx p l s m args meth c D ky z cL_law 8 wsL_law RL) (hNC : NC3 s) {b0 L : Nat} {xs : Nat → Int32} (hX : va_X b0 L xs s s.heap) (hbl : b0 < s.heap.size) (hzb : ¬ z ≤ b0) (hL8 : L ≤ 2048) {b o ao ad : Nat} {k i : Int} (hLI : LI w ky b o ao ad k) (hk : 0 ≤ k ∧ k ≤ 511) (hi : 0 ≤ i ∧ i + 3 < L) (hcs : cells + 30 ≤ 601024 ∧ slots + 200 ≤ 7293034)
    (kk : ∀ w', LI w' ky b o ao ad (k + 1) → Gd p l e room_1 s m args below meth c D z Q (cells + 10) (slots + 60) w' 1373 [some (.ref b0), some (.ref b), some (.ref o), some (.ref ao), some (.ref ad), some (.int (iI i)), none, none] []) : Gd p l e room_1 s m args below meth c D z Q cells slots w 632 [some (.ref b0), some (.ref b), some (.ref o), some (.ref ao), some (.ref ad), some (.int (iI i)), none, none] [] := by
  obtain ⟨g, t, ar, d, ac, ab, la, na, fa, A, T, v, B, sc, dn, n, lo, co, ct, nm, fl, F, G, fo, fd, hLW, hINV⟩ := hLI
  obtain ⟨hW, hD, hM, hA0, hao, had⟩ := id hLW
  obtain ⟨hFS, hRL, hR, hNI, hPT, hRN, hF9⟩ := id hINV
  obtain ⟨hI, hOW, hL0, hsc, hds, h3c, hc0⟩ := id hFS
  obtain ⟨hi1, hi2, hi3, hi4⟩ := id hI
  have hDR := hNI.1
  have hn9 := PT_nn (ct := ct) hDR.1.1
  have hn3 : n < 300 := by omega
  have hlo0 := hNI.2.1
  have hco0 := hNI.2.2.1
  clear hn9
  obtain ⟨q1, hq1⟩ : ∃ q, scS xs (i + 1) = q := ⟨_, rfl⟩
  have hq1R : InR q1 := hq1 ▸ scS_R xs (i + 1)
  obtain ⟨q2, hq2⟩ : ∃ q, scS xs (i + 2) = q := ⟨_, rfl⟩
  have hq2R : InR q2 := hq2 ▸ scS_R xs (i + 2)
  obtain ⟨q3, hq3⟩ : ∃ q, scS xs (i + 3) = q := ⟨_, rfl⟩
  have hq3R : InR q3 := hq3 ▸ scS_R xs (i + 3)
  refine gd_aload_n C dL_law_632 rfl ?_
  refine gd_callSW (n := 1) C hNC (kL_crash hl (kX4_crash hl hW hI) ⟨_, hW.1⟩ ?_ (fun E h => h.1)) gL_law_L_crash rfl ⟨by decide, by decide, by decide +kernel⟩ rfl rfl (Nat.le_of_ble_eq_true rfl) rfl dL_law_633 ⟨⟨by decide, by decide⟩, (by show _ ≤ 601024; dsimp only; omega), (by show _ ≤ 7293034; dsimp only; omega)⟩ ?_
  · rintro r w1 ⟨rfl, -⟩
    rfl
  intro r w1 hw1
  rcases hw1 with ⟨rfl, hok⟩ | ⟨rfl, rfl, hx⟩
  · obtain ⟨-, hc1, hW1, hI1, hF1⟩ := hok
    have hLWa := hLW.cls hW1 (hD.keptC hW hF1) hF1.A
    refine gd_istore C dL_law_636 (Nat.le_of_ble_eq_true rfl) ?_
    refine gd_aload_n C dL_law_638 rfl ?_
    refine gd_callV (n := 0) (ci := 5) (Cn := RX5) (T := TX5) (N := 18) C (kX5_crash hl hLWa.2.2.1 hR hI) ?_ rfl gL_law_X5_crash rfl ⟨rfl, by decide, by decide, by decide +kernel⟩ rfl rfl (Nat.le_of_ble_eq_true rfl) rfl dL_law_639 ⟨⟨by decide, by decide⟩, (by show _ ≤ 601024; dsimp only; omega), (by show _ ≤ 7293034; dsimp only; omega)⟩ (fun _ h => h.elim) ?_
    · exact ⟨_, by exact hLWa.2.2.1.1⟩
    rintro r3 w3 hm
    obtain ⟨-, rfl, F9, G9, hV, hR9, hN9, h79, h149, h179⟩ := hm.resolve_right (fun h => h.1 hc1)
    clear hm
    have hLWb := hLWa.mod hV
    have hINV9 := hINV.file (hFS.crash hI1).up (by rw [h79]; exact hRL.fl) (hR9.cx (fun _ => ⟨rfl, rfl, rfl, rfl, rfl⟩)) hN9 h149
    refine gd_aload_n C dL_law_642 rfl ?_
    refine gd_callV (n := 0) (ci := 5) (Cn := RX5) (T := TX5) (N := 18) C (kX5_thrown hl hLWb.2.2.1) ?_ rfl gL_law_X5_thrown rfl ⟨rfl, by decide, by decide, by decide +kernel⟩ rfl rfl (Nat.le_of_ble_eq_true rfl) rfl dL_law_643 ⟨⟨by decide, by decide⟩, (by show _ ≤ 601024; dsimp only; omega), (by show _ ≤ 7293034; dsimp only; omega)⟩ (fun _ h => h.elim) ?_
    · exact ⟨_, by exact hLWb.2.2.1.1⟩
    rintro _ _ ⟨rfl, rfl⟩
    refine gd_iload C dL_law_646 rfl ?_
    refine gd_icmp_eq (tgt := 653) C dL_law_648 (by decide) ?_ ?_ (fun hc648 => ?_) (fun hc648 => ?_)
    · omega
    · omega
    · refine gd_goto (tgt := 1373) C dL_law_653 (by decide) ?_
      refine Gd.widen (k := cells + 10) (n := slots + 60) (by dsimp only; omega) (by dsimp only; omega) (Gd.sub (by repeat (first | exact Lsb.nil | exact Lsb.rf _ | refine Lsb.keep ?_ | refine Lsb.drop ?_)) (kk _ ⟨g, t, ar, d, ac, ab, la, na, fa, A, _, _, _, _, _, _, _, _, _, _, _, F9, G9, _, _, hLWb, hINV9⟩))
    · exfalso; omega
  · have hx1 : dn = 1 := hx.2
    clear hx
    have hLWa := hLW
    refine gd_istore C dL_law_636 (Nat.le_of_ble_eq_true rfl) ?_
    refine gd_aload_n C dL_law_638 rfl ?_
    refine gd_callV (n := 0) (ci := 5) (Cn := RX5) (T := TX5) (N := 18) C (kX5_crash hl hLWa.2.2.1 hR hI) ?_ rfl gL_law_X5_crash rfl ⟨rfl, by decide, by decide, by decide +kernel⟩ rfl rfl (Nat.le_of_ble_eq_true rfl) rfl dL_law_639 ⟨⟨by decide, by decide⟩, (by show _ ≤ 601024; dsimp only; omega), (by show _ ≤ 7293034; dsimp only; omega)⟩ (fun _ h => h.elim) ?_
    · exact ⟨_, by exact hLWa.2.2.1.1⟩
    rintro r3 w3 hm
    obtain ⟨-, rfl, F9, G9, hV, hR9, hN9, h79, h149, h179⟩ := hm.resolve_left (fun h => by have h1 := h.1; clear hm h; omega)
    have hLWb := hLWa.mod hV
    have hINV9 := hINV.same hR9 hN9 h79 h149
    clear hm
    refine gd_aload_n C dL_law_642 rfl ?_
    refine gd_callV (n := 0) (ci := 5) (Cn := RX5) (T := TX5) (N := 18) C (kX5_thrown hl hLWb.2.2.1) ?_ rfl gL_law_X5_thrown rfl ⟨rfl, by decide, by decide, by decide +kernel⟩ rfl rfl (Nat.le_of_ble_eq_true rfl) rfl dL_law_643 ⟨⟨by decide, by decide⟩, (by show _ ≤ 601024; dsimp only; omega), (by show _ ≤ 7293034; dsimp only; omega)⟩ (fun _ h => h.elim) ?_
    · exact ⟨_, by exact hLWb.2.2.1.1⟩
    rintro _ _ ⟨rfl, rfl⟩
    refine gd_iload C dL_law_646 rfl ?_
    refine gd_icmp_eq (tgt := 653) C dL_law_648 (by decide) ?_ ?_ (fun hc648 => ?_) (fun hc648 => ?_)
    · omega
    · omega
    · refine gd_goto (tgt := 1373) C dL_law_653 (by decide) ?_
      refine Gd.widen (k := cells + 10) (n := slots + 60) (by dsimp only; omega) (by dsimp only; omega) (Gd.sub (by repeat (first | exact Lsb.nil | exact Lsb.rf _ | refine Lsb.keep ?_ | refine Lsb.drop ?_)) (kk _ ⟨g, t, ar, d, ac, ab, la, na, fa, A, _, _, _, _, _, _, _, _, _, _, _, F9, G9, _, _, hLWb, hINV9⟩))
    · exfalso; omega

set_option maxRecDepth 100000 in
set_option maxHeartbeats 4000000 in
theorem cs_start {p : Program} {l : Launch} {e : Env} {s : State} {m : MethodId} {args : Array Value} {below : List Frame} {meth : Method} {c : Code} {D : va_G} {ky : Nat → ClassId} {z : Nat} {Q : State → Prop} {cells slots : Nat} {w : WT} (hl : l.stackTraces = false) (C : Cx p l s m args meth c D ky z cL_law 8 wsL_law RL) (hNC : NC3 s) {b0 L : Nat} {xs : Nat → Int32} (hX : va_X b0 L xs s s.heap) (hbl : b0 < s.heap.size) (hzb : ¬ z ≤ b0) (hL8 : L ≤ 2048) {b o ao ad : Nat} {k i : Int} (hLI : LI w ky b o ao ad k) (hk : 0 ≤ k ∧ k ≤ 511) (hi : 0 ≤ i ∧ i + 3 < L) (hcs : cells + 30 ≤ 601024 ∧ slots + 200 ≤ 7293034)
    (kk : ∀ w', LI w' ky b o ao ad (k + 1) → Gd p l e room_1 s m args below meth c D z Q (cells + 10) (slots + 60) w' 1373 [some (.ref b0), some (.ref b), some (.ref o), some (.ref ao), some (.ref ad), some (.int (iI i)), none, none] []) : Gd p l e room_1 s m args below meth c D z Q cells slots w 656 [some (.ref b0), some (.ref b), some (.ref o), some (.ref ao), some (.ref ad), some (.int (iI i)), none, none] [] := by
  obtain ⟨g, t, ar, d, ac, ab, la, na, fa, A, T, v, B, sc, dn, n, lo, co, ct, nm, fl, F, G, fo, fd, hLW, hINV⟩ := hLI
  obtain ⟨hW, hD, hM, hA0, hao, had⟩ := id hLW
  obtain ⟨hFS, hRL, hR, hNI, hPT, hRN, hF9⟩ := id hINV
  obtain ⟨hI, hOW, hL0, hsc, hds, h3c, hc0⟩ := id hFS
  obtain ⟨hi1, hi2, hi3, hi4⟩ := id hI
  have hDR := hNI.1
  have hn9 := PT_nn (ct := ct) hDR.1.1
  have hn3 : n < 300 := by omega
  have hlo0 := hNI.2.1
  have hco0 := hNI.2.2.1
  clear hn9
  obtain ⟨q1, hq1⟩ : ∃ q, scS xs (i + 1) = q := ⟨_, rfl⟩
  have hq1R : InR q1 := hq1 ▸ scS_R xs (i + 1)
  obtain ⟨q2, hq2⟩ : ∃ q, scS xs (i + 2) = q := ⟨_, rfl⟩
  have hq2R : InR q2 := hq2 ▸ scS_R xs (i + 2)
  obtain ⟨q3, hq3⟩ : ∃ q, scS xs (i + 3) = q := ⟨_, rfl⟩
  have hq3R : InR q3 := hq3 ▸ scS_R xs (i + 3)
  refine gd_aload_n C dL_law_656 rfl ?_
  refine gd_aload_n C dL_law_657 rfl ?_
  refine gd_callSW (n := 2) C hNC (kL_start hl (kX4_start hl hW hI hds) ⟨_, hW.1⟩ (ao := ao) (f := fo) ?_ (fun E h => h.1)) gL_law_L_start rfl ⟨by decide, by decide, by decide +kernel⟩ rfl rfl (Nat.le_of_ble_eq_true rfl) rfl dL_law_658 ⟨⟨by decide, by decide⟩, (by show _ ≤ 601024; dsimp only; omega), (by show _ ≤ 7293034; dsimp only; omega)⟩ ?_
  · rintro r w1 ⟨-, rfl, hW1, -, hF1⟩
    exact ⟨⟨_, rfl⟩, (hLW.cls hW1 (hD.keptC hW hF1) hF1.A).2.2.2.2.1⟩
  intro r w1 hw1
  rcases hw1 with ⟨rfl, hok⟩ | ⟨rfl, rfl, hx⟩
  · obtain ⟨x1, w2, f', hP0, hf', rfl⟩ := hok
    obtain ⟨hc1, hv, hW1, hI1, hF1⟩ := hP0
    have hLWa := (hLW.cls hW1 (hD.keptC hW hF1) hF1.A).out f'
    obtain rfl := hds hc1
    obtain ⟨s1, s2, s3, s4⟩ := hFS.sts 16 (Nat.le_refl _)
    have s5 := stS_89 hI 16 (Nat.le_refl _)
    refine gd_istore C dL_law_661 (Nat.le_of_ble_eq_true rfl) ?_
    refine gd_aload_n C dL_law_663 rfl ?_
    refine gd_callV (n := 0) (ci := 5) (Cn := RX5) (T := TX5) (N := 18) C (kX5_start hl hLWa.2.2.1 hR hI hRL hds) ?_ rfl gL_law_X5_start rfl ⟨rfl, by decide, by decide, by decide +kernel⟩ rfl rfl (Nat.le_of_ble_eq_true rfl) rfl dL_law_664 ⟨⟨by decide, by decide⟩, (by show _ ≤ 601024; dsimp only; omega), (by show _ ≤ 7293034; dsimp only; omega)⟩ (fun _ h => h.elim) ?_
    · exact ⟨_, by exact hLWa.2.2.1.1⟩
    rintro r3 w3 hm
    obtain ⟨-, rfl, f7, hf7, F9, G9, hV, hR9, hN9, h79, h149, h179⟩ := hm.resolve_right (fun h => h.1 hc1)
    clear hm
    have hLWb := hLWa.mod hV
    have hINV9 := hINV.file (FS.up ⟨hI1, s1, s4, Or.inl rfl, fun e => rfl, s3, by omega⟩) (by rw [h79]; exact fun j a b => by rw [hf7 j a b, (s5 j a b).1, (s5 j a b).2]; exact ⟨by omega, by omega, fun _ e => absurd rfl e⟩) (hR9) hN9 h149
    have hval : f' 0 = (iI (sI (fun j => v j 8) 0 16)).toInt64 := by rw [hf', Value.int.inj (Option.some.inj hv)]
    refine gd_istore C dL_law_667 (Nat.le_of_ble_eq_true rfl) ?_
    refine gd_aload_n C dL_law_669 rfl ?_
    refine gd_callV (n := 0) (ci := 5) (Cn := RX5) (T := TX5) (N := 18) C (kX5_thrown hl hLWb.2.2.1) ?_ rfl gL_law_X5_thrown rfl ⟨rfl, by decide, by decide, by decide +kernel⟩ rfl rfl (Nat.le_of_ble_eq_true rfl) rfl dL_law_670 ⟨⟨by decide, by decide⟩, (by show _ ≤ 601024; dsimp only; omega), (by show _ ≤ 7293034; dsimp only; omega)⟩ (fun _ h => h.elim) ?_
    · exact ⟨_, by exact hLWb.2.2.1.1⟩
    rintro _ _ ⟨rfl, rfl⟩
    refine gd_iload C dL_law_673 rfl ?_
    refine gd_icmp_eq (tgt := 680) C dL_law_675 (by decide) ?_ ?_ (fun hc675 => ?_) (fun hc675 => ?_)
    · omega
    · omega
    · refine gd_iload C dL_law_680 rfl ?_
      refine gd_if_ne (tgt := 697) C dL_law_682 (by decide) ?_ (fun hc682 => ?_) (fun hc682 => ?_)
      · omega
      · exfalso; omega
      · refine gd_aload_n C dL_law_685 rfl ?_
        refine gd_iconst C dL_law_686 ?_
        refine gd_lald C dL_law_687 hLWb.2.2.2.2.1 hval ?_
        refine gd_iload C dL_law_688 rfl ?_
        refine gd_i2l C dL_law_690 ?_
        refine gd_lcmpE C dL_law_691 ?_
        refine gd_if_eq (tgt := 697) C dL_law_692 (by decide) ?_ (fun hc692 => ?_) (fun hc692 => ?_)
        · omega
        · refine gd_goto (tgt := 1373) C dL_law_697 (by decide) ?_
          refine Gd.widen (k := cells + 10) (n := slots + 60) (by dsimp only; omega) (by dsimp only; omega) (Gd.sub (by repeat (first | exact Lsb.nil | exact Lsb.rf _ | refine Lsb.keep ?_ | refine Lsb.drop ?_)) (kk _ ⟨g, t, ar, d, ac, ab, la, na, fa, A, _, _, _, _, _, _, _, _, _, _, _, F9, G9, _, _, hLWb, hINV9⟩))
        · exfalso; omega
    · exfalso; omega
  · have hx1 : dn = 0 := hx.2
    clear hx
    have hLWa := hLW
    refine gd_istore C dL_law_661 (Nat.le_of_ble_eq_true rfl) ?_
    refine gd_aload_n C dL_law_663 rfl ?_
    refine gd_callV (n := 0) (ci := 5) (Cn := RX5) (T := TX5) (N := 18) C (kX5_start hl hLWa.2.2.1 hR hI hRL hds) ?_ rfl gL_law_X5_start rfl ⟨rfl, by decide, by decide, by decide +kernel⟩ rfl rfl (Nat.le_of_ble_eq_true rfl) rfl dL_law_664 ⟨⟨by decide, by decide⟩, (by show _ ≤ 601024; dsimp only; omega), (by show _ ≤ 7293034; dsimp only; omega)⟩ (fun _ h => h.elim) ?_
    · exact ⟨_, by exact hLWa.2.2.1.1⟩
    rintro r3 w3 hm
    obtain ⟨-, rfl, F9, G9, hV, hR9, hN9, h79, h149, h179⟩ := hm.resolve_left (fun h => by have h1 := h.1; clear hm h; omega)
    have hLWb := hLWa.mod hV
    have hINV9 := hINV.same hR9 hN9 h79 h149
    clear hm
    refine gd_istore C dL_law_667 (Nat.le_of_ble_eq_true rfl) ?_
    refine gd_aload_n C dL_law_669 rfl ?_
    refine gd_callV (n := 0) (ci := 5) (Cn := RX5) (T := TX5) (N := 18) C (kX5_thrown hl hLWb.2.2.1) ?_ rfl gL_law_X5_thrown rfl ⟨rfl, by decide, by decide, by decide +kernel⟩ rfl rfl (Nat.le_of_ble_eq_true rfl) rfl dL_law_670 ⟨⟨by decide, by decide⟩, (by show _ ≤ 601024; dsimp only; omega), (by show _ ≤ 7293034; dsimp only; omega)⟩ (fun _ h => h.elim) ?_
    · exact ⟨_, by exact hLWb.2.2.1.1⟩
    rintro _ _ ⟨rfl, rfl⟩
    refine gd_iload C dL_law_673 rfl ?_
    refine gd_icmp_eq (tgt := 680) C dL_law_675 (by decide) ?_ ?_ (fun hc675 => ?_) (fun hc675 => ?_)
    · omega
    · omega
    · refine gd_iload C dL_law_680 rfl ?_
      refine gd_if_ne (tgt := 697) C dL_law_682 (by decide) ?_ (fun hc682 => ?_) (fun hc682 => ?_)
      · omega
      · refine gd_goto (tgt := 1373) C dL_law_697 (by decide) ?_
        refine Gd.widen (k := cells + 10) (n := slots + 60) (by dsimp only; omega) (by dsimp only; omega) (Gd.sub (by repeat (first | exact Lsb.nil | exact Lsb.rf _ | refine Lsb.keep ?_ | refine Lsb.drop ?_)) (kk _ ⟨g, t, ar, d, ac, ab, la, na, fa, A, _, _, _, _, _, _, _, _, _, _, _, F9, G9, _, _, hLWb, hINV9⟩))
      · exfalso; omega
    · exfalso; omega

set_option maxRecDepth 100000 in
set_option maxHeartbeats 4000000 in
theorem cs_flush {p : Program} {l : Launch} {e : Env} {s : State} {m : MethodId} {args : Array Value} {below : List Frame} {meth : Method} {c : Code} {D : va_G} {ky : Nat → ClassId} {z : Nat} {Q : State → Prop} {cells slots : Nat} {w : WT} (hl : l.stackTraces = false) (C : Cx p l s m args meth c D ky z cL_law 8 wsL_law RL) (hNC : NC3 s) {b0 L : Nat} {xs : Nat → Int32} (hX : va_X b0 L xs s s.heap) (hbl : b0 < s.heap.size) (hzb : ¬ z ≤ b0) (hL8 : L ≤ 2048) {b o ao ad : Nat} {k i : Int} (hLI : LI w ky b o ao ad k) (hk : 0 ≤ k ∧ k ≤ 511) (hi : 0 ≤ i ∧ i + 3 < L) (hcs : cells + 30 ≤ 601024 ∧ slots + 200 ≤ 7293034)
    (kk : ∀ w', LI w' ky b o ao ad (k + 1) → Gd p l e room_1 s m args below meth c D z Q (cells + 10) (slots + 60) w' 1373 [some (.ref b0), some (.ref b), some (.ref o), some (.ref ao), some (.ref ad), some (.int (iI i)), none, none] []) : Gd p l e room_1 s m args below meth c D z Q cells slots w 472 [some (.ref b0), some (.ref b), some (.ref o), some (.ref ao), some (.ref ad), some (.int (iI i)), none, none] [] := by
  obtain ⟨g, t, ar, d, ac, ab, la, na, fa, A, T, v, B, sc, dn, n, lo, co, ct, nm, fl, F, G, fo, fd, hLW, hINV⟩ := hLI
  obtain ⟨hW, hD, hM, hA0, hao, had⟩ := id hLW
  obtain ⟨hFS, hRL, hR, hNI, hPT, hRN, hF9⟩ := id hINV
  obtain ⟨hI, hOW, hL0, hsc, hds, h3c, hc0⟩ := id hFS
  obtain ⟨hi1, hi2, hi3, hi4⟩ := id hI
  have hDR := hNI.1
  have hn9 := PT_nn (ct := ct) hDR.1.1
  have hn3 : n < 300 := by omega
  have hlo0 := hNI.2.1
  have hco0 := hNI.2.2.1
  clear hn9
  obtain ⟨q1, hq1⟩ : ∃ q, scS xs (i + 1) = q := ⟨_, rfl⟩
  have hq1R : InR q1 := hq1 ▸ scS_R xs (i + 1)
  obtain ⟨q2, hq2⟩ : ∃ q, scS xs (i + 2) = q := ⟨_, rfl⟩
  have hq2R : InR q2 := hq2 ▸ scS_R xs (i + 2)
  obtain ⟨q3, hq3⟩ : ∃ q, scS xs (i + 3) = q := ⟨_, rfl⟩
  have hq3R : InR q3 := hq3 ▸ scS_R xs (i + 3)
  refine gd_aload_n C dL_law_472 rfl ?_
  refine gd_aload_n C dL_law_473 rfl ?_
  refine gd_iload C dL_law_474 rfl ?_
  refine gd_iconst C dL_law_476 ?_
  refine gd_iadd C dL_law_477 ?_
  refine gd_sld C hX hbl hzb (by omega) hL8 dL_law_478 hq1 ?_
  refine gd_aload_n C dL_law_479 rfl ?_
  refine gd_callSW (n := 3) C hNC (kL_flush hl (kX4_flush hl hW hI hq1R hL0) ⟨_, hW.1⟩ (ao := ao) (f := fo) ?_ (fun E h => h.imp And.left And.left)) gL_law_L_flush rfl ⟨by decide, by decide, by decide +kernel⟩ rfl rfl (Nat.le_of_ble_eq_true rfl) rfl dL_law_480 ⟨⟨by decide, by decide⟩, (by show _ ≤ 601024; dsimp only; omega), (by show _ ≤ 7293034; dsimp only; omega)⟩ ?_
  · rintro r w1 ⟨-, -, rfl, -, hW1, -, hF1⟩
    exact ⟨⟨_, rfl⟩, (hLW.cls hW1 (hD.keptC hW hF1) hF1.A).2.2.2.2.1⟩
  intro r w1 hw1
  rcases hw1 with ⟨rfl, hok⟩ | ⟨rfl, ⟨rfl, hx⟩ | ⟨rfl, hx⟩⟩
  · obtain ⟨x1, w2, f', hP0, hf', rfl⟩ := hok
    obtain ⟨hc1, hc2, hv, hc3, hW1, hI1, hF1⟩ := hP0
    have hLWa := (hLW.cls hW1 (hD.keptC hW hF1) hF1.A).out f'
    refine gd_istore C dL_law_483 (Nat.le_of_ble_eq_true rfl) ?_
    refine gd_aload_n C dL_law_485 rfl ?_
    refine gd_aload_n C dL_law_486 rfl ?_
    refine gd_iload C dL_law_487 rfl ?_
    refine gd_iconst C dL_law_489 ?_
    refine gd_iadd C dL_law_490 ?_
    refine gd_sld C hX hbl hzb (by omega) hL8 dL_law_491 hq1 ?_
    refine gd_callV (n := 1) (ci := 5) (Cn := RX5) (T := TX5) (N := 18) C (kX5_flush hl hLWa.2.2.1 hR hI hq1R hL0) ?_ rfl gL_law_X5_flush rfl ⟨rfl, by decide, by decide, by decide +kernel⟩ rfl rfl (Nat.le_of_ble_eq_true rfl) rfl dL_law_492 ⟨⟨by decide, by decide⟩, (by show _ ≤ 601024; dsimp only; omega), (by show _ ≤ 7293034; dsimp only; omega)⟩ (fun _ h => h.elim) ?_
    · exact ⟨_, by exact hLWa.2.2.1.1⟩
    rintro r3 w3 hm
    obtain ⟨-, -, rfl, F9, G9, hV, hR9, hN9, h79, h149, h179⟩ := hm.resolve_right (fun ⟨t7, ht7, _⟩ => by clear hm; omega)
    clear hm
    have hLWb := hLWa.mod hV
    have hINV9 := hINV.file (hFS.fl ⟨hc1.1, hc1.2.1⟩ hI1 hc3) (by rw [h79]; exact hRL.cg (fun j _ _ => ⟨flR_v j (by omega) 64 0 (T, v, B), flR_v j (by omega) 64 0 (T, v, B), flR_v j (by omega) 64 0 (T, v, B)⟩)) (hR9) hN9 h149
    have hval : f' 0 = (iI (v q1 4 - (flR q1 64 0 (T, v, B)).2.1 q1 4)).toInt64 := by rw [hf', Value.int.inj (Option.some.inj hv)]
    refine gd_istore C dL_law_495 (Nat.le_of_ble_eq_true rfl) ?_
    refine gd_aload_n C dL_law_497 rfl ?_
    refine gd_callV (n := 0) (ci := 5) (Cn := RX5) (T := TX5) (N := 18) C (kX5_thrown hl hLWb.2.2.1) ?_ rfl gL_law_X5_thrown rfl ⟨rfl, by decide, by decide, by decide +kernel⟩ rfl rfl (Nat.le_of_ble_eq_true rfl) rfl dL_law_498 ⟨⟨by decide, by decide⟩, (by show _ ≤ 601024; dsimp only; omega), (by show _ ≤ 7293034; dsimp only; omega)⟩ (fun _ h => h.elim) ?_
    · exact ⟨_, by exact hLWb.2.2.1.1⟩
    rintro _ _ ⟨rfl, rfl⟩
    refine gd_iload C dL_law_501 rfl ?_
    refine gd_icmp_eq (tgt := 508) C dL_law_503 (by decide) ?_ ?_ (fun hc503 => ?_) (fun hc503 => ?_)
    · omega
    · omega
    · refine gd_iload C dL_law_508 rfl ?_
      refine gd_if_ne (tgt := 525) C dL_law_510 (by decide) ?_ (fun hc510 => ?_) (fun hc510 => ?_)
      · omega
      · exfalso; omega
      · refine gd_aload_n C dL_law_513 rfl ?_
        refine gd_iconst C dL_law_514 ?_
        refine gd_lald C dL_law_515 hLWb.2.2.2.2.1 hval ?_
        refine gd_iload C dL_law_516 rfl ?_
        refine gd_i2l C dL_law_518 ?_
        refine gd_lcmpE C dL_law_519 ?_
        refine gd_if_eq (tgt := 525) C dL_law_520 (by decide) ?_ (fun hc520 => ?_) (fun hc520 => ?_)
        · omega
        · refine gd_goto (tgt := 1373) C dL_law_525 (by decide) ?_
          refine Gd.widen (k := cells + 10) (n := slots + 60) (by dsimp only; omega) (by dsimp only; omega) (Gd.sub (by repeat (first | exact Lsb.nil | exact Lsb.rf _ | refine Lsb.keep ?_ | refine Lsb.drop ?_)) (kk _ ⟨g, t, ar, d, ac, ab, la, na, fa, A, _, _, _, _, _, _, _, _, _, _, _, F9, G9, _, _, hLWb, hINV9⟩))
        · exfalso; omega
    · exfalso; omega
  · have hx1 : ¬ (0 ≤ q1 ∧ q1 < 16 ∧ v q1 2 = 1) := by
      rcases hx with ⟨h8, h9⟩ | ⟨h8, h9⟩
      · exact h9
      · exact absurd h8 (by decide)
    clear hx
    have hLWa := hLW
    refine gd_istore C dL_law_483 (Nat.le_of_ble_eq_true rfl) ?_
    refine gd_aload_n C dL_law_485 rfl ?_
    refine gd_aload_n C dL_law_486 rfl ?_
    refine gd_iload C dL_law_487 rfl ?_
    refine gd_iconst C dL_law_489 ?_
    refine gd_iadd C dL_law_490 ?_
    refine gd_sld C hX hbl hzb (by omega) hL8 dL_law_491 hq1 ?_
    refine gd_callV (n := 1) (ci := 5) (Cn := RX5) (T := TX5) (N := 18) C (kX5_flush hl hLWa.2.2.1 hR hI hq1R hL0) ?_ rfl gL_law_X5_flush rfl ⟨rfl, by decide, by decide, by decide +kernel⟩ rfl rfl (Nat.le_of_ble_eq_true rfl) rfl dL_law_492 ⟨⟨by decide, by decide⟩, (by show _ ≤ 601024; dsimp only; omega), (by show _ ≤ 7293034; dsimp only; omega)⟩ (fun _ h => h.elim) ?_
    · exact ⟨_, by exact hLWa.2.2.1.1⟩
    rintro r3 w3 hm
    obtain ⟨t7, ht7, rfl, F9, G9, hV, hR9, hN9, h79, h149, h179⟩ := hm.resolve_left (fun h => by have h1 := h.1; have h2 := h.2.1; clear hm h; omega)
    have hLWb := hLWa.mod hV
    have hINV9 := hINV.same hR9 hN9 h79 h149
    clear hm
    have ht : t7 = 1 := by omega
    subst ht
    refine gd_istore C dL_law_495 (Nat.le_of_ble_eq_true rfl) ?_
    refine gd_aload_n C dL_law_497 rfl ?_
    refine gd_callV (n := 0) (ci := 5) (Cn := RX5) (T := TX5) (N := 18) C (kX5_thrown hl hLWb.2.2.1) ?_ rfl gL_law_X5_thrown rfl ⟨rfl, by decide, by decide, by decide +kernel⟩ rfl rfl (Nat.le_of_ble_eq_true rfl) rfl dL_law_498 ⟨⟨by decide, by decide⟩, (by show _ ≤ 601024; dsimp only; omega), (by show _ ≤ 7293034; dsimp only; omega)⟩ (fun _ h => h.elim) ?_
    · exact ⟨_, by exact hLWb.2.2.1.1⟩
    rintro _ _ ⟨rfl, rfl⟩
    refine gd_iload C dL_law_501 rfl ?_
    refine gd_icmp_eq (tgt := 508) C dL_law_503 (by decide) ?_ ?_ (fun hc503 => ?_) (fun hc503 => ?_)
    · omega
    · omega
    · refine gd_iload C dL_law_508 rfl ?_
      refine gd_if_ne (tgt := 525) C dL_law_510 (by decide) ?_ (fun hc510 => ?_) (fun hc510 => ?_)
      · omega
      · refine gd_goto (tgt := 1373) C dL_law_525 (by decide) ?_
        refine Gd.widen (k := cells + 10) (n := slots + 60) (by dsimp only; omega) (by dsimp only; omega) (Gd.sub (by repeat (first | exact Lsb.nil | exact Lsb.rf _ | refine Lsb.keep ?_ | refine Lsb.drop ?_)) (kk _ ⟨g, t, ar, d, ac, ab, la, na, fa, A, _, _, _, _, _, _, _, _, _, _, _, F9, G9, _, _, hLWb, hINV9⟩))
      · exfalso; omega
    · exfalso; omega
  · have hx1 : (0 ≤ q1 ∧ q1 < 16 ∧ v q1 2 = 1) ∧ dn = 1 := by
      rcases hx with ⟨h8, h9⟩ | ⟨h8, h9⟩
      · exact absurd h8 (by decide)
      · exact h9
    clear hx
    have hLWa := hLW
    refine gd_istore C dL_law_483 (Nat.le_of_ble_eq_true rfl) ?_
    refine gd_aload_n C dL_law_485 rfl ?_
    refine gd_aload_n C dL_law_486 rfl ?_
    refine gd_iload C dL_law_487 rfl ?_
    refine gd_iconst C dL_law_489 ?_
    refine gd_iadd C dL_law_490 ?_
    refine gd_sld C hX hbl hzb (by omega) hL8 dL_law_491 hq1 ?_
    refine gd_callV (n := 1) (ci := 5) (Cn := RX5) (T := TX5) (N := 18) C (kX5_flush hl hLWa.2.2.1 hR hI hq1R hL0) ?_ rfl gL_law_X5_flush rfl ⟨rfl, by decide, by decide, by decide +kernel⟩ rfl rfl (Nat.le_of_ble_eq_true rfl) rfl dL_law_492 ⟨⟨by decide, by decide⟩, (by show _ ≤ 601024; dsimp only; omega), (by show _ ≤ 7293034; dsimp only; omega)⟩ (fun _ h => h.elim) ?_
    · exact ⟨_, by exact hLWa.2.2.1.1⟩
    rintro r3 w3 hm
    obtain ⟨t7, ht7, rfl, F9, G9, hV, hR9, hN9, h79, h149, h179⟩ := hm.resolve_left (fun h => by have h1 := h.1; have h2 := h.2.1; clear hm h; omega)
    have hLWb := hLWa.mod hV
    have hINV9 := hINV.same hR9 hN9 h79 h149
    clear hm
    have ht : t7 = 2 := by omega
    subst ht
    refine gd_istore C dL_law_495 (Nat.le_of_ble_eq_true rfl) ?_
    refine gd_aload_n C dL_law_497 rfl ?_
    refine gd_callV (n := 0) (ci := 5) (Cn := RX5) (T := TX5) (N := 18) C (kX5_thrown hl hLWb.2.2.1) ?_ rfl gL_law_X5_thrown rfl ⟨rfl, by decide, by decide, by decide +kernel⟩ rfl rfl (Nat.le_of_ble_eq_true rfl) rfl dL_law_498 ⟨⟨by decide, by decide⟩, (by show _ ≤ 601024; dsimp only; omega), (by show _ ≤ 7293034; dsimp only; omega)⟩ (fun _ h => h.elim) ?_
    · exact ⟨_, by exact hLWb.2.2.1.1⟩
    rintro _ _ ⟨rfl, rfl⟩
    refine gd_iload C dL_law_501 rfl ?_
    refine gd_icmp_eq (tgt := 508) C dL_law_503 (by decide) ?_ ?_ (fun hc503 => ?_) (fun hc503 => ?_)
    · omega
    · omega
    · refine gd_iload C dL_law_508 rfl ?_
      refine gd_if_ne (tgt := 525) C dL_law_510 (by decide) ?_ (fun hc510 => ?_) (fun hc510 => ?_)
      · omega
      · refine gd_goto (tgt := 1373) C dL_law_525 (by decide) ?_
        refine Gd.widen (k := cells + 10) (n := slots + 60) (by dsimp only; omega) (by dsimp only; omega) (Gd.sub (by repeat (first | exact Lsb.nil | exact Lsb.rf _ | refine Lsb.keep ?_ | refine Lsb.drop ?_)) (kk _ ⟨g, t, ar, d, ac, ab, la, na, fa, A, _, _, _, _, _, _, _, _, _, _, _, F9, G9, _, _, hLWb, hINV9⟩))
      · exfalso; omega
    · exfalso; omega
