set_option maxRecDepth 100000 in
set_option maxHeartbeats 4000000 in
theorem kX5_maps {l : Launch} {D : va_G} {ky : Nat → ClassId} {z : Nat} {w : WT} (hl : l.stackTraces = false) {o : Nat} {A : Nat → Nat} {F : Nat → Int → Int} {G : Nat → Int} (hM : MW w ky o A F G) {T : Int → Int} {v B : Int → Int → Int} {sc dn : Int} (hR : RF F G T v B sc dn) (hI : CI T v B sc dn) {q x k : Int} (hq : 0 ≤ q ∧ q < 16) (hx : 0 ≤ x ∧ 1 ≤ k ∧ x + k ≤ 64) (hr : ∀ p, x ≤ p → p < x + k → B q p = -2) (hL : 0 ≤ lF T v) : Mt l D ky z yX5_maps wsX5_maps { frames := 2, cells := 0, slots := 0, locals := 49 } [.ref o, .int (iI q), .int (iI x), .int (iI k)] w (fun r w' => r = some (.int (iI (chk q T v B x k).1)) ∧ PM w w' ky o A F G ((chk q T v B x k).2.1) ((chk q T v B x k).2.2.1) ((chk q T v B x k).2.2.2) (sc) (dn) (F 7) (G 17)) (fun _ => False) := by
  refine Mt.of (cc := cX5_maps) (ret := (some .int)) (maxL := 10) (by decide) rfl (by intro v hv; simp at hv; rcases hv with rfl | rfl | rfl | rfl <;> rfl) (Nat.le_of_ble_eq_true rfl) ?_ hl
  intro p e s m args below meth c C htab hret hname Q hQ
  have hMv := hM.V
  obtain ⟨hR0, hR1, hR2, hR3, hR4⟩ := id hR
  obtain ⟨hi1, hi2, hi3, hi4⟩ := id hI
  obtain ⟨d1, d2, d3, d4, d5, d6⟩ := hR1 q hq.1 hq.2
  obtain ⟨f0, f2, f3, f4, f5, f6, f8, f9, f10, fp⟩ := hi2 q hq.1 hq.2
  obtain ⟨hc1, hc2, hc3, hc4, hc5, hc6⟩ := chH_ok (p := x) (R := k) hI hq hx hr hL
  have hgb := gF_bd (p := x) (f := B q) hq
  have hln := lnF_c (R := k) (L := (lF T v)) hx.2.1 hL
  have hLd : (chH q T v B x k) = (hvF T (gF q (B q) x) 4 (lnF k (lF T v))) := rfl
  obtain ⟨hsT, hsR, hsK⟩ := hI.bd
  have hLb : 0 ≤ (lF T v) ∧ (lF T v) ≤ 128 := by
    have e : (lF T v) = 128 - sI T 0 128 - sI (fun j => v j 4) 0 16 := rfl
    omega
  refine gd_bipush C dX5_maps_0 (by decide) ?_
  refine gd_iload_n C dX5_maps_2 rfl ?_
  refine gd_imul C dX5_maps_3 ?_
  refine gd_iload_n C dX5_maps_4 rfl ?_
  refine gd_iadd C dX5_maps_5 ?_
  refine gd_istore C dX5_maps_6 (Nat.le_of_ble_eq_true rfl) ?_
  have hcut120 : ¬ (0 < v q 7 ∧ v q 5 = x) → Gd p l e ({ frames := 2, cells := 0, slots := 0, locals := 49 }) s m args below meth c D z Q 0 0 w 120 [some (.ref o), some (.int (iI q)), some (.int (iI x)), some (.int (iI k)), some (.int (iI (64 * q + x))), none, none, none, none, none] [] := by
    intro hnk
    have hcut224 : ∀ len : Int, len = (lnF k (lF T v)) → Gd p l e ({ frames := 2, cells := 0, slots := 0, locals := 49 }) s m args below meth c D z Q 0 0 w 224 [some (.ref o), some (.int (iI q)), some (.int (iI x)), some (.int (iI k)), some (.int (iI (64 * q + x))), some (.int (iI (gF q (B q) x))), some (.int (iI len)), none, none, none] [] := by
      intro len9 hlen9
      subst hlen9
      refine gd_aload_n C dX5_maps_224 rfl ?_
      refine gd_iload C dX5_maps_225 rfl ?_
      refine gd_iload C dX5_maps_227 rfl ?_
      refine gd_callV (n := 2) (ci := 5) (Cn := RX5) (T := TX5) (N := 18) C (kX5_finds hl hM hR hi1 (a := (gF q (B q) x)) (k := (lnF k (lF T v))) hgb hln) ?_ rfl gX5_maps_X5_finds rfl ⟨rfl, by decide, by decide, by decide +kernel⟩ rfl rfl (Nat.le_of_ble_eq_true rfl) rfl dX5_maps_229 ⟨⟨by decide, by decide⟩, by decide, by decide⟩ (fun _ h => h.elim) ?_
      · exact ⟨_, by exact hMv.ob⟩
      rintro _ _ ⟨rfl, rfl⟩
      have hln9 := hln
      refine gd_istore C dX5_maps_232 (Nat.le_of_ble_eq_true rfl) ?_
      suffices hloop : ∀ (k9 : Nat) (len : Int), (len = 1 ∨ len = 2 ∨ len = 4 ∨ len = 8 ∨ len = 16) → ((k9 = 0 → len = 1) ∧ (k9 = 1 → len ≤ 2) ∧ (k9 = 2 → len ≤ 4) ∧ (k9 = 3 → len ≤ 8)) → (hvF T (gF q (B q) x) 4 (lnF k (lF T v))) = hvF T (gF q (B q) x) k9 len → Gd p l e ({ frames := 2, cells := 0, slots := 0, locals := 49 }) s m args below meth c D z Q 0 0 w 234 [some (.ref o), some (.int (iI q)), some (.int (iI x)), some (.int (iI k)), some (.int (iI (64 * q + x))), some (.int (iI (gF q (B q) x))), some (.int (iI len)), some (.int (iI (fD T (gF q (B q) x) len))), none, none] [] from
        hloop 4 _ hln9 (by omega) rfl
      intro k9
      induction k9 with
      | zero =>
        intro len h1n h2n hH
        have hlen1 : len = 1 := by omega
        have hfb := fD_bd (T := T) (goal := (gF q (B q) x)) (n := len) hgb h1n
        refine gd_iload C dX5_maps_234 rfl ?_
        refine gd_iconst C dX5_maps_236 ?_
        have hne : fD T (gF q (B q) x) len ≠ -1 := fun h9 => by
          rw [hLd, hH, hvF_f (by omega)] at hc3
          have hc39 : 0 ≤ fD T (gF q (B q) x) len := hc3
          omega
        refine gd_icmp_ne (tgt := 259) C dX5_maps_237 (by decide) ?_ ?_ (fun hc237 => ?_) (fun hc237 => ?_)
        · omega
        · omega
        · have hCH : (chH q T v B x k) = (len, fD T (gF q (B q) x) len) := by rw [hLd, hH]; exact hvF_f (by omega)
          generalize hfo : fD T (gF q (B q) x) len = fo at hCH hfb ⊢
          have hfo9 : 0 ≤ fo ∧ fo + len ≤ 128 := by omega
          refine gd_iload C dX5_maps_259 rfl ?_
          refine gd_iload_n C dX5_maps_261 rfl ?_
          have hj262 : ∀ y : Int, (y = len ∧ len ≤ k ∨ y = k ∧ k < len) → Gd p l e ({ frames := 2, cells := 0, slots := 0, locals := 49 }) s m args below meth c D z Q 0 0 w 271 [some (.ref o), some (.int (iI q)), some (.int (iI x)), some (.int (iI k)), some (.int (iI (64 * q + x))), some (.int (iI (gF q (B q) x))), some (.int (iI len)), some (.int (iI fo)), none, none] (.int (iI y) :: []) := by
            intro y hvy
            refine gd_istore C dX5_maps_271 (Nat.le_of_ble_eq_true rfl) ?_
            refine gd_iconst C dX5_maps_273 ?_
            refine gd_istore C dX5_maps_274 (Nat.le_of_ble_eq_true rfl) ?_
            suffices hloop : ∀ (n : Nat) (i : Int) (w1 : WT) (F1 : Nat → Int → Int), 0 ≤ i → i ≤ len → (len - i).toNat = n → MV w w1 ky o A F1 G → RF F1 G (tkF T fo i 1) v (fU B q (mpF (B q) x fo (mI i y))) sc dn → FN F F1 → F1 7 = F 7 → Gd p l e ({ frames := 2, cells := 0, slots := 0, locals := 49 }) s m args below meth c D z Q 0 0 w1 276 [some (.ref o), some (.int (iI q)), some (.int (iI x)), some (.int (iI k)), some (.int (iI (64 * q + x))), some (.int (iI (gF q (B q) x))), some (.int (iI len)), some (.int (iI fo)), some (.int (iI y)), some (.int (iI i))] [] from
              hloop _ 0 w F (by omega) (by omega) rfl hMv (by rw [tkF_0, show mI 0 y = 0 by unfold mI; rw [if_pos (by omega)], mpF_0, fU_id]; exact hR) (FN.rf F) rfl
            intro n
            induction n using Nat.strongRecOn with
            | _ n ih =>
            intro i w1 F1 h1i h2i hn hM1 hRi hNi h7i
            have hmi := mI_c i y
            have hmi1 := mI_c (i + 1) y
            refine gd_iload C dX5_maps_276 rfl ?_
            refine gd_iload C dX5_maps_278 rfl ?_
            refine gd_icmp_ge (tgt := 322) C dX5_maps_280 (by decide) ?_ ?_ (fun hc280 => ?_) (fun hc280 => ?_)
            · omega
            · omega
            · refine gd_iload C dX5_maps_322 rfl ?_
              refine gd_iload C dX5_maps_324 rfl ?_
              refine gd_icmp_le (tgt := 366) C dX5_maps_326 (by decide) ?_ ?_ (fun hc326 => ?_) (fun hc326 => ?_)
              · omega
              · omega
              · refine gd_iload C dX5_maps_366 rfl ?_
                refine gd_iret C hQ hret dX5_maps_368 ?_ ?_
                · first
                    | (have e1 : i = len := by omega
                       subst e1
                       have hle : i ≤ k := by omega
                       have hy9 : y = i := by omega
                       subst hy9
                       rw [chk_s hnk (y := y) (by rw [hCH]) (by rw [hCH]; exact hle), hCH]
                       dsimp only
                       rw [show mI y y = y by omega] at hRi
                       refine ⟨rfl, _, _, hM1, hRi.cv (fun j j1 j2 => ?_), hNi, h7i, rfl, rfl⟩
                       by_cases hj : j = q
                       · subst hj
                         rw [fU_s]
                         exact ⟨rfl, rfl, rfl, rfl, rfl, rfl⟩
                       · rw [fU_n hj]
                         exact ⟨rfl, rfl, rfl, rfl, rfl, rfl⟩)
                    | (have hgt : k < len := by omega
                       have hy9 : y = k := by omega
                       subst hy9
                       rw [chk_l hnk (y := y) rfl (by rw [hCH]; exact hgt), hCH]
                       dsimp only
                       refine ⟨rfl, _, _, hM1, ?_, ((hNj.nU (by decide) _).nU (by decide) _).nU (by decide) _, h7j, h14j, h17j⟩
                       have h9 := ((hRj.sv (k := 4) (j := q) (x := fo + y) (u := fU (fU (v q) 7 0) 6 (fo + y)) (by decide) (by rw [fU_s]; exact ⟨rfl, rfl, rfl, rfl, rfl, rfl⟩)).sv (k := 5) (j := q) (x := len - y) (u := fU (fU (fU (v q) 7 0) 6 (fo + y)) 7 (len - y)) (by decide) (by rw [fU_s]; exact ⟨rfl, rfl, rfl, rfl, rfl, rfl⟩)).sv (k := 6) (j := q) (x := x + y) (u := fU (fU (fU (fU (v q) 7 0) 6 (fo + y)) 7 (len - y)) 5 (x + y)) (by decide) (by rw [fU_s]; exact ⟨rfl, rfl, rfl, rfl, rfl, rfl⟩)
                       rw [fU_ss, fU_ss, fU_ss] at h9
                       refine h9.cv (fun j j1 j2 => ?_)
                       by_cases hj : j = q
                       · subst hj
                         rw [fU_s, fU_s]
                         exact ⟨rfl, rfl, rfl, rfl, rfl, rfl⟩
                       · rw [fU_n hj, fU_n hj]
                         exact ⟨rfl, rfl, rfl, rfl, rfl, rfl⟩)
                · decide
              · refine gd_aload_n C dX5_maps_329 rfl ?_
                refine gd_iload_n C dX5_maps_330 rfl ?_
                refine gd_callV (n := 1) (ci := 5) (Cn := RX5) (T := TX5) (N := 18) C (kX5_freesKept hl hM1.1 hRi (q := q) hq f6) ?_ rfl gX5_maps_X5_freesKept rfl ⟨rfl, by decide, by decide, by decide +kernel⟩ rfl rfl (Nat.le_of_ble_eq_true rfl) rfl dX5_maps_331 ⟨⟨by decide, by decide⟩, by decide, by decide⟩ (fun _ h => h.elim) ?_
                · exact ⟨_, by exact hM1.ob⟩
                rintro _ w2 ⟨rfl, F2, G2, hM2, hRj, hNj, h7j, h14j, h17j⟩
                have e1 : i = len := by omega
                rw [show mI i y = y by omega, e1] at hRj
                replace hM2 := hM1.tr hM2
                replace hNj := hNi.tr hNj
                replace h7j := h7j.trans h7i
                refine gd_aload_n C dX5_maps_334 rfl ?_
                refine gm_get C hM2 (by decide +kernel) 4 (by decide) (by decide +kernel) rfl dX5_maps_335 rfl ?_
                refine gd_iload_n C dX5_maps_338 rfl ?_
                refine gd_iload C dX5_maps_339 rfl ?_
                refine gd_iload C dX5_maps_341 rfl ?_
                refine gd_iadd C dX5_maps_343 ?_
                refine gm_iast C hM2 (k := 4) (n := 16) (by decide) (fun _ => rfl) dX5_maps_344 (by decide) ?_ (fun wm1 hMm1 => ?_)
                · omega
                refine gd_aload_n C dX5_maps_345 rfl ?_
                refine gm_get C hMm1 (by decide +kernel) 5 (by decide) (by decide +kernel) rfl dX5_maps_346 rfl ?_
                refine gd_iload_n C dX5_maps_349 rfl ?_
                refine gd_iload C dX5_maps_350 rfl ?_
                refine gd_iload C dX5_maps_352 rfl ?_
                refine gd_isub C dX5_maps_354 ?_
                refine gm_iast C hMm1 (k := 5) (n := 16) (by decide) (fun _ => rfl) dX5_maps_355 (by decide) ?_ (fun wm2 hMm2 => ?_)
                · omega
                refine gd_aload_n C dX5_maps_356 rfl ?_
                refine gm_get C hMm2 (by decide +kernel) 6 (by decide) (by decide +kernel) rfl dX5_maps_357 rfl ?_
                refine gd_iload_n C dX5_maps_360 rfl ?_
                refine gd_iload_n C dX5_maps_361 rfl ?_
                refine gd_iload C dX5_maps_362 rfl ?_
                refine gd_iadd C dX5_maps_364 ?_
                refine gm_iast C hMm2 (k := 6) (n := 16) (by decide) (fun _ => rfl) dX5_maps_365 (by decide) ?_ (fun wm3 hMm3 => ?_)
                · omega
                refine gd_iload C dX5_maps_366 rfl ?_
                refine gd_iret C hQ hret dX5_maps_368 ?_ ?_
                · first
                    | (have e1 : i = len := by omega
                       subst e1
                       have hle : i ≤ k := by omega
                       have hy9 : y = i := by omega
                       subst hy9
                       rw [chk_s hnk (y := y) (by rw [hCH]) (by rw [hCH]; exact hle), hCH]
                       dsimp only
                       rw [show mI y y = y by omega] at hRi
                       refine ⟨rfl, _, _, hMm3, hRi.cv (fun j j1 j2 => ?_), hNi, h7i, rfl, rfl⟩
                       by_cases hj : j = q
                       · subst hj
                         rw [fU_s]
                         exact ⟨rfl, rfl, rfl, rfl, rfl, rfl⟩
                       · rw [fU_n hj]
                         exact ⟨rfl, rfl, rfl, rfl, rfl, rfl⟩)
                    | (have hgt : k < len := by omega
                       have hy9 : y = k := by omega
                       subst hy9
                       rw [chk_l hnk (y := y) rfl (by rw [hCH]; exact hgt), hCH]
                       dsimp only
                       refine ⟨rfl, _, _, hMm3, ?_, ((hNj.nU (by decide) _).nU (by decide) _).nU (by decide) _, h7j, h14j, h17j⟩
                       have h9 := ((hRj.sv (k := 4) (j := q) (x := fo + y) (u := fU (fU (v q) 7 0) 6 (fo + y)) (by decide) (by rw [fU_s]; exact ⟨rfl, rfl, rfl, rfl, rfl, rfl⟩)).sv (k := 5) (j := q) (x := len - y) (u := fU (fU (fU (v q) 7 0) 6 (fo + y)) 7 (len - y)) (by decide) (by rw [fU_s]; exact ⟨rfl, rfl, rfl, rfl, rfl, rfl⟩)).sv (k := 6) (j := q) (x := x + y) (u := fU (fU (fU (fU (v q) 7 0) 6 (fo + y)) 7 (len - y)) 5 (x + y)) (by decide) (by rw [fU_s]; exact ⟨rfl, rfl, rfl, rfl, rfl, rfl⟩)
                       rw [fU_ss, fU_ss, fU_ss] at h9
                       refine h9.cv (fun j j1 j2 => ?_)
                       by_cases hj : j = q
                       · subst hj
                         rw [fU_s, fU_s]
                         exact ⟨rfl, rfl, rfl, rfl, rfl, rfl⟩
                       · rw [fU_n hj, fU_n hj]
                         exact ⟨rfl, rfl, rfl, rfl, rfl, rfl⟩)
                · decide
            · refine gd_aload_n C dX5_maps_283 rfl ?_
              refine gm_get C hM1 (by decide +kernel) 0 (by decide) (by decide +kernel) rfl dX5_maps_284 rfl ?_
              refine gd_iload C dX5_maps_287 rfl ?_
              refine gd_iload C dX5_maps_289 rfl ?_
              refine gd_iadd C dX5_maps_291 ?_
              refine gd_iconst C dX5_maps_292 ?_
              refine gm_zast C hM1 (k := 0) (n := 128) (by decide) (fun _ => rfl) dX5_maps_293 (by decide) ?_ ?_ (fun wm4 hMm4 => ?_)
              · omega
              · omega
              refine gd_iload C dX5_maps_294 rfl ?_
              refine gd_iload C dX5_maps_296 rfl ?_
              refine gd_icmp_ge (tgt := 316) C dX5_maps_298 (by decide) ?_ ?_ (fun hc298 => ?_) (fun hc298 => ?_)
              · omega
              · omega
              · refine gd_iinc C dX5_maps_316 rfl ?_
                refine gd_goto (tgt := 276) C dX5_maps_319 (by decide) ?_
                first
                  | (refine ih _ (by omega) (i + 1) _ _ (by omega) (by omega) rfl hMm4 ?_ (hNi.nU (by decide) _) h7i
                     rw [tkF_s h1i, show mI (i + 1) y = mI i y by omega]
                     exact hRi.s0 (by decide))
                  | (refine ih _ (by omega) (i + 1) _ _ (by omega) (by omega) rfl hMm4 ?_ ((hNi.nU (by decide) _).nU (by decide) _) h7i
                     have h9 := (hRi.s0 (i := fo + i) (x := 0) (y := 1) (by decide)).s2 (j := q) (p := x + i) (x := fo + i) hq (by omega)
                     rw [show 64 * q + (x + i) = 64 * q + x + i by omega, fU_s, fU_ss] at h9
                     rw [tkF_s h1i, show mI (i + 1) y = i + 1 by omega, mpF_s h1i]
                     rw [show mI i y = i by omega] at h9
                     exact h9)
              · refine gd_aload_n C dX5_maps_301 rfl ?_
                refine gm_get C hMm4 (by decide +kernel) 2 (by decide) (by decide +kernel) rfl dX5_maps_302 rfl ?_
                refine gd_iload C dX5_maps_305 rfl ?_
                refine gd_iload C dX5_maps_307 rfl ?_
                refine gd_iadd C dX5_maps_309 ?_
                refine gd_iload C dX5_maps_310 rfl ?_
                refine gd_iload C dX5_maps_312 rfl ?_
                refine gd_iadd C dX5_maps_314 ?_
                refine gm_iast C hMm4 (k := 2) (n := 1024) (by decide) (fun _ => rfl) dX5_maps_315 (by decide) ?_ (fun wm5 hMm5 => ?_)
                · omega
                refine gd_iinc C dX5_maps_316 rfl ?_
                refine gd_goto (tgt := 276) C dX5_maps_319 (by decide) ?_
                first
                  | (refine ih _ (by omega) (i + 1) _ _ (by omega) (by omega) rfl hMm5 ?_ (hNi.nU (by decide) _) h7i
                     rw [tkF_s h1i, show mI (i + 1) y = mI i y by omega]
                     exact hRi.s0 (by decide))
                  | (refine ih _ (by omega) (i + 1) _ _ (by omega) (by omega) rfl hMm5 ?_ ((hNi.nU (by decide) _).nU (by decide) _) h7i
                     have h9 := (hRi.s0 (i := fo + i) (x := 0) (y := 1) (by decide)).s2 (j := q) (p := x + i) (x := fo + i) hq (by omega)
                     rw [show 64 * q + (x + i) = 64 * q + x + i by omega, fU_s, fU_ss] at h9
                     rw [tkF_s h1i, show mI (i + 1) y = i + 1 by omega, mpF_s h1i]
                     rw [show mI i y = i by omega] at h9
                     exact h9)
          refine gd_icmp_ge (tgt := 270) C dX5_maps_262 (by decide) ?_ ?_ (fun hc262 => ?_) (fun hc262 => ?_)
          · omega
          · omega
          · refine gd_iload_n C dX5_maps_270 rfl ?_
            exact hj262 _ (by omega)
          · refine gd_iload C dX5_maps_265 rfl ?_
            refine gd_goto (tgt := 271) C dX5_maps_267 (by decide) ?_
            exact hj262 _ (by omega)
        · exfalso; omega
      | succ k9 ih =>
        intro len h1n h2n hH
        have hfb := fD_bd (T := T) (goal := (gF q (B q) x)) (n := len) hgb h1n
        skip
        refine gd_iload C dX5_maps_234 rfl ?_
        refine gd_iconst C dX5_maps_236 ?_
        refine gd_icmp_ne (tgt := 259) C dX5_maps_237 (by decide) ?_ ?_ (fun hc237 => ?_) (fun hc237 => ?_)
        · omega
        · omega
        · have hCH : (chH q T v B x k) = (len, fD T (gF q (B q) x) len) := by rw [hLd, hH]; exact hvF_f (by omega)
          generalize hfo : fD T (gF q (B q) x) len = fo at hCH hfb ⊢
          have hfo9 : 0 ≤ fo ∧ fo + len ≤ 128 := by omega
          refine gd_iload C dX5_maps_259 rfl ?_
          refine gd_iload_n C dX5_maps_261 rfl ?_
          have hj262 : ∀ y : Int, (y = len ∧ len ≤ k ∨ y = k ∧ k < len) → Gd p l e ({ frames := 2, cells := 0, slots := 0, locals := 49 }) s m args below meth c D z Q 0 0 w 271 [some (.ref o), some (.int (iI q)), some (.int (iI x)), some (.int (iI k)), some (.int (iI (64 * q + x))), some (.int (iI (gF q (B q) x))), some (.int (iI len)), some (.int (iI fo)), none, none] (.int (iI y) :: []) := by
            intro y hvy
            refine gd_istore C dX5_maps_271 (Nat.le_of_ble_eq_true rfl) ?_
            refine gd_iconst C dX5_maps_273 ?_
            refine gd_istore C dX5_maps_274 (Nat.le_of_ble_eq_true rfl) ?_
            suffices hloop : ∀ (n : Nat) (i : Int) (w1 : WT) (F1 : Nat → Int → Int), 0 ≤ i → i ≤ len → (len - i).toNat = n → MV w w1 ky o A F1 G → RF F1 G (tkF T fo i 1) v (fU B q (mpF (B q) x fo (mI i y))) sc dn → FN F F1 → F1 7 = F 7 → Gd p l e ({ frames := 2, cells := 0, slots := 0, locals := 49 }) s m args below meth c D z Q 0 0 w1 276 [some (.ref o), some (.int (iI q)), some (.int (iI x)), some (.int (iI k)), some (.int (iI (64 * q + x))), some (.int (iI (gF q (B q) x))), some (.int (iI len)), some (.int (iI fo)), some (.int (iI y)), some (.int (iI i))] [] from
              hloop _ 0 w F (by omega) (by omega) rfl hMv (by rw [tkF_0, show mI 0 y = 0 by unfold mI; rw [if_pos (by omega)], mpF_0, fU_id]; exact hR) (FN.rf F) rfl
            intro n
            induction n using Nat.strongRecOn with
            | _ n ih =>
            intro i w1 F1 h1i h2i hn hM1 hRi hNi h7i
            have hmi := mI_c i y
            have hmi1 := mI_c (i + 1) y
            refine gd_iload C dX5_maps_276 rfl ?_
            refine gd_iload C dX5_maps_278 rfl ?_
            refine gd_icmp_ge (tgt := 322) C dX5_maps_280 (by decide) ?_ ?_ (fun hc280 => ?_) (fun hc280 => ?_)
            · omega
            · omega
            · refine gd_iload C dX5_maps_322 rfl ?_
              refine gd_iload C dX5_maps_324 rfl ?_
              refine gd_icmp_le (tgt := 366) C dX5_maps_326 (by decide) ?_ ?_ (fun hc326 => ?_) (fun hc326 => ?_)
              · omega
              · omega
              · refine gd_iload C dX5_maps_366 rfl ?_
                refine gd_iret C hQ hret dX5_maps_368 ?_ ?_
                · first
                    | (have e1 : i = len := by omega
                       subst e1
                       have hle : i ≤ k := by omega
                       have hy9 : y = i := by omega
                       subst hy9
                       rw [chk_s hnk (y := y) (by rw [hCH]) (by rw [hCH]; exact hle), hCH]
                       dsimp only
                       rw [show mI y y = y by omega] at hRi
                       refine ⟨rfl, _, _, hM1, hRi.cv (fun j j1 j2 => ?_), hNi, h7i, rfl, rfl⟩
                       by_cases hj : j = q
                       · subst hj
                         rw [fU_s]
                         exact ⟨rfl, rfl, rfl, rfl, rfl, rfl⟩
                       · rw [fU_n hj]
                         exact ⟨rfl, rfl, rfl, rfl, rfl, rfl⟩)
                    | (have hgt : k < len := by omega
                       have hy9 : y = k := by omega
                       subst hy9
                       rw [chk_l hnk (y := y) rfl (by rw [hCH]; exact hgt), hCH]
                       dsimp only
                       refine ⟨rfl, _, _, hM1, ?_, ((hNj.nU (by decide) _).nU (by decide) _).nU (by decide) _, h7j, h14j, h17j⟩
                       have h9 := ((hRj.sv (k := 4) (j := q) (x := fo + y) (u := fU (fU (v q) 7 0) 6 (fo + y)) (by decide) (by rw [fU_s]; exact ⟨rfl, rfl, rfl, rfl, rfl, rfl⟩)).sv (k := 5) (j := q) (x := len - y) (u := fU (fU (fU (v q) 7 0) 6 (fo + y)) 7 (len - y)) (by decide) (by rw [fU_s]; exact ⟨rfl, rfl, rfl, rfl, rfl, rfl⟩)).sv (k := 6) (j := q) (x := x + y) (u := fU (fU (fU (fU (v q) 7 0) 6 (fo + y)) 7 (len - y)) 5 (x + y)) (by decide) (by rw [fU_s]; exact ⟨rfl, rfl, rfl, rfl, rfl, rfl⟩)
                       rw [fU_ss, fU_ss, fU_ss] at h9
                       refine h9.cv (fun j j1 j2 => ?_)
                       by_cases hj : j = q
                       · subst hj
                         rw [fU_s, fU_s]
                         exact ⟨rfl, rfl, rfl, rfl, rfl, rfl⟩
                       · rw [fU_n hj, fU_n hj]
                         exact ⟨rfl, rfl, rfl, rfl, rfl, rfl⟩)
                · decide
              · refine gd_aload_n C dX5_maps_329 rfl ?_
                refine gd_iload_n C dX5_maps_330 rfl ?_
                refine gd_callV (n := 1) (ci := 5) (Cn := RX5) (T := TX5) (N := 18) C (kX5_freesKept hl hM1.1 hRi (q := q) hq f6) ?_ rfl gX5_maps_X5_freesKept rfl ⟨rfl, by decide, by decide, by decide +kernel⟩ rfl rfl (Nat.le_of_ble_eq_true rfl) rfl dX5_maps_331 ⟨⟨by decide, by decide⟩, by decide, by decide⟩ (fun _ h => h.elim) ?_
                · exact ⟨_, by exact hM1.ob⟩
                rintro _ w2 ⟨rfl, F2, G2, hM2, hRj, hNj, h7j, h14j, h17j⟩
                have e1 : i = len := by omega
                rw [show mI i y = y by omega, e1] at hRj
                replace hM2 := hM1.tr hM2
                replace hNj := hNi.tr hNj
                replace h7j := h7j.trans h7i
                refine gd_aload_n C dX5_maps_334 rfl ?_
                refine gm_get C hM2 (by decide +kernel) 4 (by decide) (by decide +kernel) rfl dX5_maps_335 rfl ?_
                refine gd_iload_n C dX5_maps_338 rfl ?_
                refine gd_iload C dX5_maps_339 rfl ?_
                refine gd_iload C dX5_maps_341 rfl ?_
                refine gd_iadd C dX5_maps_343 ?_
                refine gm_iast C hM2 (k := 4) (n := 16) (by decide) (fun _ => rfl) dX5_maps_344 (by decide) ?_ (fun wm1 hMm1 => ?_)
                · omega
                refine gd_aload_n C dX5_maps_345 rfl ?_
                refine gm_get C hMm1 (by decide +kernel) 5 (by decide) (by decide +kernel) rfl dX5_maps_346 rfl ?_
                refine gd_iload_n C dX5_maps_349 rfl ?_
                refine gd_iload C dX5_maps_350 rfl ?_
                refine gd_iload C dX5_maps_352 rfl ?_
                refine gd_isub C dX5_maps_354 ?_
                refine gm_iast C hMm1 (k := 5) (n := 16) (by decide) (fun _ => rfl) dX5_maps_355 (by decide) ?_ (fun wm2 hMm2 => ?_)
                · omega
                refine gd_aload_n C dX5_maps_356 rfl ?_
                refine gm_get C hMm2 (by decide +kernel) 6 (by decide) (by decide +kernel) rfl dX5_maps_357 rfl ?_
                refine gd_iload_n C dX5_maps_360 rfl ?_
                refine gd_iload_n C dX5_maps_361 rfl ?_
                refine gd_iload C dX5_maps_362 rfl ?_
                refine gd_iadd C dX5_maps_364 ?_
                refine gm_iast C hMm2 (k := 6) (n := 16) (by decide) (fun _ => rfl) dX5_maps_365 (by decide) ?_ (fun wm3 hMm3 => ?_)
                · omega
                refine gd_iload C dX5_maps_366 rfl ?_
                refine gd_iret C hQ hret dX5_maps_368 ?_ ?_
                · first
                    | (have e1 : i = len := by omega
                       subst e1
                       have hle : i ≤ k := by omega
                       have hy9 : y = i := by omega
                       subst hy9
                       rw [chk_s hnk (y := y) (by rw [hCH]) (by rw [hCH]; exact hle), hCH]
                       dsimp only
                       rw [show mI y y = y by omega] at hRi
                       refine ⟨rfl, _, _, hMm3, hRi.cv (fun j j1 j2 => ?_), hNi, h7i, rfl, rfl⟩
                       by_cases hj : j = q
                       · subst hj
                         rw [fU_s]
                         exact ⟨rfl, rfl, rfl, rfl, rfl, rfl⟩
                       · rw [fU_n hj]
                         exact ⟨rfl, rfl, rfl, rfl, rfl, rfl⟩)
                    | (have hgt : k < len := by omega
                       have hy9 : y = k := by omega
                       subst hy9
                       rw [chk_l hnk (y := y) rfl (by rw [hCH]; exact hgt), hCH]
                       dsimp only
                       refine ⟨rfl, _, _, hMm3, ?_, ((hNj.nU (by decide) _).nU (by decide) _).nU (by decide) _, h7j, h14j, h17j⟩
                       have h9 := ((hRj.sv (k := 4) (j := q) (x := fo + y) (u := fU (fU (v q) 7 0) 6 (fo + y)) (by decide) (by rw [fU_s]; exact ⟨rfl, rfl, rfl, rfl, rfl, rfl⟩)).sv (k := 5) (j := q) (x := len - y) (u := fU (fU (fU (v q) 7 0) 6 (fo + y)) 7 (len - y)) (by decide) (by rw [fU_s]; exact ⟨rfl, rfl, rfl, rfl, rfl, rfl⟩)).sv (k := 6) (j := q) (x := x + y) (u := fU (fU (fU (fU (v q) 7 0) 6 (fo + y)) 7 (len - y)) 5 (x + y)) (by decide) (by rw [fU_s]; exact ⟨rfl, rfl, rfl, rfl, rfl, rfl⟩)
                       rw [fU_ss, fU_ss, fU_ss] at h9
                       refine h9.cv (fun j j1 j2 => ?_)
                       by_cases hj : j = q
                       · subst hj
                         rw [fU_s, fU_s]
                         exact ⟨rfl, rfl, rfl, rfl, rfl, rfl⟩
                       · rw [fU_n hj, fU_n hj]
                         exact ⟨rfl, rfl, rfl, rfl, rfl, rfl⟩)
                · decide
            · refine gd_aload_n C dX5_maps_283 rfl ?_
              refine gm_get C hM1 (by decide +kernel) 0 (by decide) (by decide +kernel) rfl dX5_maps_284 rfl ?_
              refine gd_iload C dX5_maps_287 rfl ?_
              refine gd_iload C dX5_maps_289 rfl ?_
              refine gd_iadd C dX5_maps_291 ?_
              refine gd_iconst C dX5_maps_292 ?_
              refine gm_zast C hM1 (k := 0) (n := 128) (by decide) (fun _ => rfl) dX5_maps_293 (by decide) ?_ ?_ (fun wm4 hMm4 => ?_)
              · omega
              · omega
              refine gd_iload C dX5_maps_294 rfl ?_
              refine gd_iload C dX5_maps_296 rfl ?_
              refine gd_icmp_ge (tgt := 316) C dX5_maps_298 (by decide) ?_ ?_ (fun hc298 => ?_) (fun hc298 => ?_)
              · omega
              · omega
              · refine gd_iinc C dX5_maps_316 rfl ?_
                refine gd_goto (tgt := 276) C dX5_maps_319 (by decide) ?_
                first
                  | (refine ih _ (by omega) (i + 1) _ _ (by omega) (by omega) rfl hMm4 ?_ (hNi.nU (by decide) _) h7i
                     rw [tkF_s h1i, show mI (i + 1) y = mI i y by omega]
                     exact hRi.s0 (by decide))
                  | (refine ih _ (by omega) (i + 1) _ _ (by omega) (by omega) rfl hMm4 ?_ ((hNi.nU (by decide) _).nU (by decide) _) h7i
                     have h9 := (hRi.s0 (i := fo + i) (x := 0) (y := 1) (by decide)).s2 (j := q) (p := x + i) (x := fo + i) hq (by omega)
                     rw [show 64 * q + (x + i) = 64 * q + x + i by omega, fU_s, fU_ss] at h9
                     rw [tkF_s h1i, show mI (i + 1) y = i + 1 by omega, mpF_s h1i]
                     rw [show mI i y = i by omega] at h9
                     exact h9)
              · refine gd_aload_n C dX5_maps_301 rfl ?_
                refine gm_get C hMm4 (by decide +kernel) 2 (by decide) (by decide +kernel) rfl dX5_maps_302 rfl ?_
                refine gd_iload C dX5_maps_305 rfl ?_
                refine gd_iload C dX5_maps_307 rfl ?_
                refine gd_iadd C dX5_maps_309 ?_
                refine gd_iload C dX5_maps_310 rfl ?_
                refine gd_iload C dX5_maps_312 rfl ?_
                refine gd_iadd C dX5_maps_314 ?_
                refine gm_iast C hMm4 (k := 2) (n := 1024) (by decide) (fun _ => rfl) dX5_maps_315 (by decide) ?_ (fun wm5 hMm5 => ?_)
                · omega
                refine gd_iinc C dX5_maps_316 rfl ?_
                refine gd_goto (tgt := 276) C dX5_maps_319 (by decide) ?_
                first
                  | (refine ih _ (by omega) (i + 1) _ _ (by omega) (by omega) rfl hMm5 ?_ (hNi.nU (by decide) _) h7i
                     rw [tkF_s h1i, show mI (i + 1) y = mI i y by omega]
                     exact hRi.s0 (by decide))
                  | (refine ih _ (by omega) (i + 1) _ _ (by omega) (by omega) rfl hMm5 ?_ ((hNi.nU (by decide) _).nU (by decide) _) h7i
                     have h9 := (hRi.s0 (i := fo + i) (x := 0) (y := 1) (by decide)).s2 (j := q) (p := x + i) (x := fo + i) hq (by omega)
                     rw [show 64 * q + (x + i) = 64 * q + x + i by omega, fU_s, fU_ss] at h9
                     rw [tkF_s h1i, show mI (i + 1) y = i + 1 by omega, mpF_s h1i]
                     rw [show mI i y = i by omega] at h9
                     exact h9)
          refine gd_icmp_ge (tgt := 270) C dX5_maps_262 (by decide) ?_ ?_ (fun hc262 => ?_) (fun hc262 => ?_)
          · omega
          · omega
          · refine gd_iload_n C dX5_maps_270 rfl ?_
            exact hj262 _ (by omega)
          · refine gd_iload C dX5_maps_265 rfl ?_
            refine gd_goto (tgt := 271) C dX5_maps_267 (by decide) ?_
            exact hj262 _ (by omega)
        · have hlen1 : 1 < len := by
            by_cases h9 : 1 < len
            · exact h9
            · exfalso
              rw [hLd, hH, hvF_f (by omega)] at hc3
              have hc39 : 0 ≤ fD T (gF q (B q) x) len := hc3
              omega
          refine gd_iload C dX5_maps_240 rfl ?_
          refine gd_iconst C dX5_maps_242 ?_
          refine gd_idiv C dX5_maps_243 ?_ ?_
          · omega
          refine gd_istore C dX5_maps_244 (Nat.le_of_ble_eq_true rfl) ?_
          refine gd_aload_n C dX5_maps_246 rfl ?_
          refine gd_iload C dX5_maps_247 rfl ?_
          refine gd_iload C dX5_maps_249 rfl ?_
          refine gd_callV (n := 2) (ci := 5) (Cn := RX5) (T := TX5) (N := 18) C (kX5_finds hl hM hR hi1 (a := (gF q (B q) x)) (k := len / 2) hgb ?_) ?_ rfl gX5_maps_X5_finds rfl ⟨rfl, by decide, by decide, by decide +kernel⟩ rfl rfl (Nat.le_of_ble_eq_true rfl) rfl dX5_maps_251 ⟨⟨by decide, by decide⟩, by decide, by decide⟩ (fun _ h => h.elim) ?_
          · omega
          · exact ⟨_, by exact hMv.ob⟩
          rintro _ _ ⟨rfl, rfl⟩
          refine gd_istore C dX5_maps_254 (Nat.le_of_ble_eq_true rfl) ?_
          refine gd_goto (tgt := 234) C dX5_maps_256 (by decide) ?_
          exact ih _ (by omega) (by omega) (by rw [hH]; exact hvF_t ⟨by omega, hlen1⟩)
    have hF9 : 0 < x → F 2 (64 * q + x - 1) = B q (x - 1) := fun h => by
      have h1 := hR2 q (x - 1) hq.1 hq.2 (by omega) (by omega)
      rwa [show 64 * q + (x - 1) = 64 * q + x - 1 by omega] at h1
    have hF8 := fp (x - 1)
    refine gd_iload_n C dX5_maps_120 rfl ?_
    have hj121 : ∀ x9 : Int, (x9 = (gF q (B q) x)) → Gd p l e ({ frames := 2, cells := 0, slots := 0, locals := 49 }) s m args below meth c D z Q 0 0 w 174 [some (.ref o), some (.int (iI q)), some (.int (iI x)), some (.int (iI k)), some (.int (iI (64 * q + x))), none, none, none, none, none] (.int (iI x9) :: []) := by
      intro x9 hvx9
      subst hvx9
      refine gd_istore C dX5_maps_174 (Nat.le_of_ble_eq_true rfl) ?_
      refine gd_iconst C dX5_maps_176 ?_
      refine gd_istore C dX5_maps_177 (Nat.le_of_ble_eq_true rfl) ?_
      suffices hloop : ∀ (n9 : Nat) (i : Int), (i = 1 ∨ i = 2 ∨ i = 4 ∨ i = 8 ∨ i = 16) → (i = 1 ∨ i / 2 < k) → (16 - i).toNat = n9 → Gd p l e ({ frames := 2, cells := 0, slots := 0, locals := 49 }) s m args below meth c D z Q 0 0 w 179 [some (.ref o), some (.int (iI q)), some (.int (iI x)), some (.int (iI k)), some (.int (iI (64 * q + x))), some (.int (iI (gF q (B q) x))), some (.int (iI i)), none, none, none] [] from
        hloop _ 1 (by omega) (by omega) rfl
      intro n9
      induction n9 using Nat.strongRecOn with
      | _ n9 ih =>
      intro i h1i h2i hn
      refine gd_iload C dX5_maps_179 rfl ?_
      refine gd_iload_n C dX5_maps_181 rfl ?_
      refine gd_icmp_ge (tgt := 201) C dX5_maps_182 (by decide) ?_ ?_ (fun hc182 => ?_) (fun hc182 => ?_)
      · omega
      · omega
      · refine gd_iload C dX5_maps_201 rfl ?_
        refine gd_iload_n C dX5_maps_203 rfl ?_
        refine gd_icmp_le (tgt := 224) C dX5_maps_204 (by decide) ?_ ?_ (fun hc204 => ?_) (fun hc204 => ?_)
        · omega
        · omega
        · exact hcut224 _ (lnF_u h1i h2i (by omega) (by omega))
        · refine gd_iload C dX5_maps_207 rfl ?_
          refine gd_iload_n C dX5_maps_209 rfl ?_
          refine gd_isub C dX5_maps_210 ?_
          refine gd_aload_n C dX5_maps_211 rfl ?_
          refine gd_callV (n := 0) (ci := 5) (Cn := RX5) (T := TX5) (N := 18) C (kX5_left hl hM hR hI) ?_ rfl gX5_maps_X5_left rfl ⟨rfl, by decide, by decide, by decide +kernel⟩ rfl rfl (Nat.le_of_ble_eq_true rfl) rfl dX5_maps_212 ⟨⟨by decide, by decide⟩, by decide, by decide⟩ (fun _ h => h.elim) ?_
          · exact ⟨_, by exact hMv.ob⟩
          rintro _ _ ⟨rfl, rfl⟩
          refine gd_icmp_le (tgt := 224) C dX5_maps_215 (by decide) ?_ ?_ (fun hc215 => ?_) (fun hc215 => ?_)
          · omega
          · omega
          · exact hcut224 _ (lnF_u h1i h2i (by omega) (by omega))
          · refine gd_iload C dX5_maps_218 rfl ?_
            refine gd_iconst C dX5_maps_220 ?_
            refine gd_idiv C dX5_maps_221 ?_ ?_
            · omega
            refine gd_istore C dX5_maps_222 (Nat.le_of_ble_eq_true rfl) ?_
            exact hcut224 _ (lnF_u h1i h2i (by omega) (by omega))
      · refine gd_iload C dX5_maps_185 rfl ?_
        refine gd_bipush C dX5_maps_187 (by decide) ?_
        refine gd_icmp_ge (tgt := 201) C dX5_maps_189 (by decide) ?_ ?_ (fun hc189 => ?_) (fun hc189 => ?_)
        · omega
        · omega
        · refine gd_iload C dX5_maps_201 rfl ?_
          refine gd_iload_n C dX5_maps_203 rfl ?_
          refine gd_icmp_le (tgt := 224) C dX5_maps_204 (by decide) ?_ ?_ (fun hc204 => ?_) (fun hc204 => ?_)
          · omega
          · omega
          · exact hcut224 _ (lnF_u h1i h2i (by omega) (by omega))
          · refine gd_iload C dX5_maps_207 rfl ?_
            refine gd_iload_n C dX5_maps_209 rfl ?_
            refine gd_isub C dX5_maps_210 ?_
            refine gd_aload_n C dX5_maps_211 rfl ?_
            refine gd_callV (n := 0) (ci := 5) (Cn := RX5) (T := TX5) (N := 18) C (kX5_left hl hM hR hI) ?_ rfl gX5_maps_X5_left rfl ⟨rfl, by decide, by decide, by decide +kernel⟩ rfl rfl (Nat.le_of_ble_eq_true rfl) rfl dX5_maps_212 ⟨⟨by decide, by decide⟩, by decide, by decide⟩ (fun _ h => h.elim) ?_
            · exact ⟨_, by exact hMv.ob⟩
            rintro _ _ ⟨rfl, rfl⟩
            refine gd_icmp_le (tgt := 224) C dX5_maps_215 (by decide) ?_ ?_ (fun hc215 => ?_) (fun hc215 => ?_)
            · omega
            · omega
            · exact hcut224 _ (lnF_u h1i h2i (by omega) (by omega))
            · refine gd_iload C dX5_maps_218 rfl ?_
              refine gd_iconst C dX5_maps_220 ?_
              refine gd_idiv C dX5_maps_221 ?_ ?_
              · omega
              refine gd_istore C dX5_maps_222 (Nat.le_of_ble_eq_true rfl) ?_
              exact hcut224 _ (lnF_u h1i h2i (by omega) (by omega))
        · refine gd_iload C dX5_maps_192 rfl ?_
          refine gd_iconst C dX5_maps_194 ?_
          refine gd_imul C dX5_maps_195 ?_
          refine gd_istore C dX5_maps_196 (Nat.le_of_ble_eq_true rfl) ?_
          refine gd_goto (tgt := 179) C dX5_maps_198 (by decide) ?_
          exact ih _ (by omega) (i * 2) (by omega) (by omega) rfl
    refine gd_if_le (tgt := 150) C dX5_maps_121 (by decide) ?_ (fun hc121 => ?_) (fun hc121 => ?_)
    · omega
    · refine gd_sipush C dX5_maps_150 (by decide) ?_
      refine gd_istore C dX5_maps_153 (Nat.le_of_ble_eq_true rfl) ?_
      refine gd_iload C dX5_maps_155 rfl ?_
      refine gd_sipush C dX5_maps_157 (by decide) ?_
      refine gd_icmp_ne (tgt := 172) C dX5_maps_160 (by decide) ?_ ?_ (fun hc160 => ?_) (fun hc160 => ?_)
      · omega
      · omega
      · refine gd_iload C dX5_maps_172 rfl ?_
        first
          | (exfalso; omega)
          | (refine Gd.sub (by repeat (first | exact Lsb.nil | exact Lsb.rf _ | refine Lsb.keep ?_ | refine Lsb.drop ?_)) (hj121 _ ?_)
             unfold gF
             split <;> omega)
      · refine gd_bipush C dX5_maps_163 (by decide) ?_
        refine gd_iload_n C dX5_maps_165 rfl ?_
        refine gd_iconst C dX5_maps_166 ?_
        refine gd_irem C dX5_maps_167 ?_ ?_
        · omega
        refine gd_imul C dX5_maps_168 ?_
        refine gd_goto (tgt := 174) C dX5_maps_169 (by decide) ?_
        first
          | (exfalso; omega)
          | (refine Gd.sub (by repeat (first | exact Lsb.nil | exact Lsb.rf _ | refine Lsb.keep ?_ | refine Lsb.drop ?_)) (hj121 _ ?_)
             unfold gF
             split <;> omega)
    · refine gd_aload_n C dX5_maps_124 rfl ?_
      refine gm_get C hMv (by decide +kernel) 2 (by decide) (by decide +kernel) rfl dX5_maps_125 rfl ?_
      refine gd_iload C dX5_maps_128 rfl ?_
      refine gd_iconst C dX5_maps_130 ?_
      refine gd_isub C dX5_maps_131 ?_
      refine gd_iald C dX5_maps_132 hMv.a2 (by decide) ?_ ?_
      · omega
      replace hF9 := hF9 (by omega)
      refine gd_if_lt (tgt := 150) C dX5_maps_133 (by decide) ?_ (fun hc133 => ?_) (fun hc133 => ?_)
      · omega
      · refine gd_sipush C dX5_maps_150 (by decide) ?_
        refine gd_istore C dX5_maps_153 (Nat.le_of_ble_eq_true rfl) ?_
        refine gd_iload C dX5_maps_155 rfl ?_
        refine gd_sipush C dX5_maps_157 (by decide) ?_
        refine gd_icmp_ne (tgt := 172) C dX5_maps_160 (by decide) ?_ ?_ (fun hc160 => ?_) (fun hc160 => ?_)
        · omega
        · omega
        · refine gd_iload C dX5_maps_172 rfl ?_
          first
            | (exfalso; omega)
            | (refine Gd.sub (by repeat (first | exact Lsb.nil | exact Lsb.rf _ | refine Lsb.keep ?_ | refine Lsb.drop ?_)) (hj121 _ ?_)
               unfold gF
               split <;> omega)
        · refine gd_bipush C dX5_maps_163 (by decide) ?_
          refine gd_iload_n C dX5_maps_165 rfl ?_
          refine gd_iconst C dX5_maps_166 ?_
          refine gd_irem C dX5_maps_167 ?_ ?_
          · omega
          refine gd_imul C dX5_maps_168 ?_
          refine gd_goto (tgt := 174) C dX5_maps_169 (by decide) ?_
          first
            | (exfalso; omega)
            | (refine Gd.sub (by repeat (first | exact Lsb.nil | exact Lsb.rf _ | refine Lsb.keep ?_ | refine Lsb.drop ?_)) (hj121 _ ?_)
               unfold gF
               split <;> omega)
      · refine gd_aload_n C dX5_maps_136 rfl ?_
        refine gm_get C hMv (by decide +kernel) 2 (by decide) (by decide +kernel) rfl dX5_maps_137 rfl ?_
        refine gd_iload C dX5_maps_140 rfl ?_
        refine gd_iconst C dX5_maps_142 ?_
        refine gd_isub C dX5_maps_143 ?_
        refine gd_iald C dX5_maps_144 hMv.a2 (by decide) ?_ ?_
        · omega
        refine gd_iconst C dX5_maps_145 ?_
        refine gd_iadd C dX5_maps_146 ?_
        refine gd_goto (tgt := 153) C dX5_maps_147 (by decide) ?_
        refine gd_istore C dX5_maps_153 (Nat.le_of_ble_eq_true rfl) ?_
        refine gd_iload C dX5_maps_155 rfl ?_
        refine gd_sipush C dX5_maps_157 (by decide) ?_
        refine gd_icmp_ne (tgt := 172) C dX5_maps_160 (by decide) ?_ ?_ (fun hc160 => ?_) (fun hc160 => ?_)
        · omega
        · omega
        · refine gd_iload C dX5_maps_172 rfl ?_
          first
            | (exfalso; omega)
            | (refine Gd.sub (by repeat (first | exact Lsb.nil | exact Lsb.rf _ | refine Lsb.keep ?_ | refine Lsb.drop ?_)) (hj121 _ ?_)
               unfold gF
               split <;> omega)
        · refine gd_bipush C dX5_maps_163 (by decide) ?_
          refine gd_iload_n C dX5_maps_165 rfl ?_
          refine gd_iconst C dX5_maps_166 ?_
          refine gd_irem C dX5_maps_167 ?_ ?_
          · omega
          refine gd_imul C dX5_maps_168 ?_
          refine gd_goto (tgt := 174) C dX5_maps_169 (by decide) ?_
          first
            | (exfalso; omega)
            | (refine Gd.sub (by repeat (first | exact Lsb.nil | exact Lsb.rf _ | refine Lsb.keep ?_ | refine Lsb.drop ?_)) (hj121 _ ?_)
               unfold gF
               split <;> omega)
  refine gd_aload_n C dX5_maps_8 rfl ?_
  refine gm_get C hMv (by decide +kernel) 5 (by decide) (by decide +kernel) rfl dX5_maps_9 rfl ?_
  refine gd_iload_n C dX5_maps_12 rfl ?_
  refine gd_iald C dX5_maps_13 hMv.a5 (by decide) ?_ ?_
  · omega
  refine gd_if_le (tgt := 120) C dX5_maps_14 (by decide) ?_ (fun hc14 => ?_) (fun hc14 => ?_)
  · omega
  · exact hcut120 (by omega)
  · refine gd_aload_n C dX5_maps_17 rfl ?_
    refine gm_get C hMv (by decide +kernel) 6 (by decide) (by decide +kernel) rfl dX5_maps_18 rfl ?_
    refine gd_iload_n C dX5_maps_21 rfl ?_
    refine gd_iald C dX5_maps_22 hMv.a6 (by decide) ?_ ?_
    · omega
    refine gd_iload_n C dX5_maps_23 rfl ?_
    refine gd_icmp_ne (tgt := 120) C dX5_maps_24 (by decide) ?_ ?_ (fun hc24 => ?_) (fun hc24 => ?_)
    · omega
    · omega
    · exact hcut120 (by omega)
    · refine gd_aload_n C dX5_maps_27 rfl ?_
      refine gm_get C hMv (by decide +kernel) 5 (by decide) (by decide +kernel) rfl dX5_maps_28 rfl ?_
      refine gd_iload_n C dX5_maps_31 rfl ?_
      refine gd_iald C dX5_maps_32 hMv.a5 (by decide) ?_ ?_
      · omega
      refine gd_iload_n C dX5_maps_33 rfl ?_
      have hj34 : ∀ x9 : Int, (x9 = v q 7 ∧ v q 7 ≤ k ∨ x9 = k ∧ k < v q 7) → Gd p l e ({ frames := 2, cells := 0, slots := 0, locals := 49 }) s m args below meth c D z Q 0 0 w 47 [some (.ref o), some (.int (iI q)), some (.int (iI x)), some (.int (iI k)), some (.int (iI (64 * q + x))), none, none, none, none, none] (.int (iI x9) :: []) := by
        intro x9 hvx9
        refine gd_istore C dX5_maps_47 (Nat.le_of_ble_eq_true rfl) ?_
        refine gd_iconst C dX5_maps_49 ?_
        refine gd_istore C dX5_maps_50 (Nat.le_of_ble_eq_true rfl) ?_
        suffices hloop : ∀ (n : Nat) (i : Int) (w1 : WT) (F1 : Nat → Int → Int), 0 ≤ i → i ≤ x9 → (x9 - i).toNat = n → MV w w1 ky o A F1 G → RF F1 G T v (fU B q (mpF (B q) x (v q 6) i)) sc dn → FN F F1 → F1 7 = F 7 → Gd p l e ({ frames := 2, cells := 0, slots := 0, locals := 49 }) s m args below meth c D z Q 0 0 w1 52 [some (.ref o), some (.int (iI q)), some (.int (iI x)), some (.int (iI k)), some (.int (iI (64 * q + x))), some (.int (iI x9)), some (.int (iI i)), none, none, none] [] from
          hloop _ 0 w F (by omega) (by omega) rfl hMv (by rw [mpF_0, fU_id]; exact hR) (FN.rf F) rfl
        intro n
        induction n using Nat.strongRecOn with
        | _ n ih =>
        intro i w1 F1 h1i h2i hn hM1 hRi hNi h7i
        obtain ⟨d1, d2, d3, d4, d5, d6⟩ := hRi.2.1 q hq.1 hq.2
        refine gd_iload C dX5_maps_52 rfl ?_
        refine gd_iload C dX5_maps_54 rfl ?_
        refine gd_icmp_ge (tgt := 84) C dX5_maps_56 (by decide) ?_ ?_ (fun hc56 => ?_) (fun hc56 => ?_)
        · omega
        · omega
        · refine gd_aload_n C dX5_maps_84 rfl ?_
          refine gm_get C hM1 (by decide +kernel) 4 (by decide) (by decide +kernel) rfl dX5_maps_85 rfl ?_
          refine gd_iload_n C dX5_maps_88 rfl ?_
          refine gd_dup2 C dX5_maps_89 rfl rfl ?_
          refine gd_iald C dX5_maps_90 hM1.a4 (by decide) ?_ ?_
          · omega
          refine gd_iload C dX5_maps_91 rfl ?_
          refine gd_iadd C dX5_maps_93 ?_
          refine gm_iast C hM1 (k := 4) (n := 16) (by decide) (fun _ => rfl) dX5_maps_94 (by decide) ?_ (fun wm1 hMm1 => ?_)
          · omega
          refine gd_aload_n C dX5_maps_95 rfl ?_
          refine gm_get C hMm1 (by decide +kernel) 6 (by decide) (by decide +kernel) rfl dX5_maps_96 rfl ?_
          refine gd_iload_n C dX5_maps_99 rfl ?_
          refine gd_dup2 C dX5_maps_100 rfl rfl ?_
          refine gd_iald C dX5_maps_101 hMm1.a6 (by decide) ?_ ?_
          · omega
          refine gd_iload C dX5_maps_102 rfl ?_
          refine gd_iadd C dX5_maps_104 ?_
          refine gm_iast C hMm1 (k := 6) (n := 16) (by decide) (fun _ => rfl) dX5_maps_105 (by decide) ?_ (fun wm2 hMm2 => ?_)
          · omega
          refine gd_aload_n C dX5_maps_106 rfl ?_
          refine gm_get C hMm2 (by decide +kernel) 5 (by decide) (by decide +kernel) rfl dX5_maps_107 rfl ?_
          refine gd_iload_n C dX5_maps_110 rfl ?_
          refine gd_dup2 C dX5_maps_111 rfl rfl ?_
          refine gd_iald C dX5_maps_112 hMm2.a5 (by decide) ?_ ?_
          · omega
          refine gd_iload C dX5_maps_113 rfl ?_
          refine gd_isub C dX5_maps_115 ?_
          refine gm_iast C hMm2 (k := 5) (n := 16) (by decide) (fun _ => rfl) dX5_maps_116 (by decide) ?_ (fun wm3 hMm3 => ?_)
          · omega
          refine gd_iload C dX5_maps_117 rfl ?_
          refine gd_iret C hQ hret dX5_maps_119 ?_ ?_
          · have e1 : i = x9 := by omega
            subst e1
            rw [chk_k ⟨by omega, by omega⟩ (by omega)]
            dsimp only
            refine ⟨rfl, _, _, hMm3, ?_, ((hNi.nU (by decide) _).nU (by decide) _).nU (by decide) _, h7i, rfl, rfl⟩
            have h9 := ((hRi.sv (k := 4) (j := q) (x := F1 4 q + i) (u := fU (v q) 6 (v q 6 + i)) (by decide) ⟨rfl, rfl, by show F1 4 q + i = v q 6 + i; omega, rfl, rfl, rfl⟩).sv (k := 6) (j := q) (x := F1 6 q + i) (u := fU (fU (v q) 6 (v q 6 + i)) 5 (x + i)) (by decide) (by rw [fU_s]; exact ⟨rfl, rfl, rfl, rfl, by show F1 6 q + i = x + i; omega, rfl⟩)).sv (k := 5) (j := q) (x := F1 5 q - i) (u := fU (fU (fU (v q) 6 (v q 6 + i)) 5 (x + i)) 7 (v q 7 - i)) (by decide) (by rw [fU_s]; exact ⟨rfl, rfl, rfl, by show F1 5 q - i = v q 7 - i; omega, rfl, rfl⟩)
            rw [fU_ss, fU_ss] at h9
            refine h9.cv (fun j j1 j2 => ?_)
            by_cases hj : j = q
            · subst hj
              rw [fU_s, fU_s]
              exact ⟨rfl, rfl, rfl, rfl, rfl, rfl⟩
            · rw [fU_n hj, fU_n hj]
              exact ⟨rfl, rfl, rfl, rfl, rfl, rfl⟩
          · decide
        · refine gd_aload_n C dX5_maps_59 rfl ?_
          refine gm_get C hM1 (by decide +kernel) 2 (by decide) (by decide +kernel) rfl dX5_maps_60 rfl ?_
          refine gd_iload C dX5_maps_63 rfl ?_
          refine gd_iload C dX5_maps_65 rfl ?_
          refine gd_iadd C dX5_maps_67 ?_
          refine gd_aload_n C dX5_maps_68 rfl ?_
          refine gm_get C hM1 (by decide +kernel) 4 (by decide) (by decide +kernel) rfl dX5_maps_69 rfl ?_
          refine gd_iload_n C dX5_maps_72 rfl ?_
          refine gd_iald C dX5_maps_73 hM1.a4 (by decide) ?_ ?_
          · omega
          refine gd_iload C dX5_maps_74 rfl ?_
          refine gd_iadd C dX5_maps_76 ?_
          refine gm_iast C hM1 (k := 2) (n := 1024) (by decide) (fun _ => rfl) dX5_maps_77 (by decide) ?_ (fun wm4 hMm4 => ?_)
          · omega
          refine gd_iinc C dX5_maps_78 rfl ?_
          refine gd_goto (tgt := 52) C dX5_maps_81 (by decide) ?_
          refine ih _ (by omega) (i + 1) _ _ (by omega) (by omega) rfl hMm4 ?_ (hNi.nU (by decide) _) h7i
          have h9 := hRi.s2 (j := q) (p := x + i) (x := F1 4 q + i) hq (by omega)
          rw [show 64 * q + (x + i) = 64 * q + x + i by omega, fU_s, fU_ss] at h9
          rw [mpF_s h1i, show v q 6 + i = F1 4 q + i by omega]
          exact h9
      refine gd_icmp_ge (tgt := 46) C dX5_maps_34 (by decide) ?_ ?_ (fun hc34 => ?_) (fun hc34 => ?_)
      · omega
      · omega
      · refine gd_iload_n C dX5_maps_46 rfl ?_
        exact hj34 _ (by omega)
      · refine gd_aload_n C dX5_maps_37 rfl ?_
        refine gm_get C hMv (by decide +kernel) 5 (by decide) (by decide +kernel) rfl dX5_maps_38 rfl ?_
        refine gd_iload_n C dX5_maps_41 rfl ?_
        refine gd_iald C dX5_maps_42 hMv.a5 (by decide) ?_ ?_
        · omega
        refine gd_goto (tgt := 47) C dX5_maps_43 (by decide) ?_
        exact hj34 _ (by omega)
