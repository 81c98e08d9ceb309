/-! the law: two objects, one turn and another -/
def TI (w : WT) (ky : Nat → ClassId) (a b : Nat) (mo c9 : Int) : Prop :=
  ∃ (P1 P2 : Nat → Prop) (T : Int → Int) (v B : Int → Int → Int) (sc dn n : Int) (lo co ct : Int → Int) (nm fl : Int → Int → Int) (n2 : Int) (lo2 co2 ct2 : Int → Int) (nm2 fl2 : Int → Int → Int),
    VW w ky a P1 T v B sc dn n lo co ct nm fl ∧ VW w ky b P2 T v B sc dn n2 lo2 co2 ct2 nm2 fl2 ∧ (∀ y, P1 y → P2 y → False) ∧ FS T v B sc dn c9 ∧ SIM mo n lo co ct nm fl n2 lo2 co2 ct2 nm2 fl2 ∧ NI n lo co ct nm fl ∧ NI n2 lo2 co2 ct2 nm2 fl2
theorem TI.up {w : WT} {ky : Nat → ClassId} {a b : Nat} {mo c9 : Int} (h : TI w ky a b mo c9) : TI w ky a b mo (c9 + 1) := by
  obtain ⟨P1, P2, T, v, B, sc, dn, n, lo, co, ct, nm, fl, n2, lo2, co2, ct2, nm2, fl2, hV1, hV2, hA, hS, hSm, hN1, hN2⟩ := h
  exact ⟨P1, P2, T, v, B, sc, dn, n, lo, co, ct, nm, fl, n2, lo2, co2, ct2, nm2, fl2, hV1, hV2, hA, hS.up, hSm, hN1, hN2⟩
theorem XF_le (v : Int → Int → Int) : (fF (fun j => v j 2 = 0) 0 16) ≤ 15 := by
  rcases fF_spec (P := fun j => v j 2 = 0) (b := 16) _ 0 rfl with ⟨e, -⟩ | ⟨e1, e2, -⟩
  · omega
  · omega
theorem FS.hk7 {T : Int → Int} {v B : Int → Int → Int} {sc dn c : Int} (h : FS T v B sc dn c) : 0 ≤ sI (fun j => v j 7) 0 16 := by
  have hk7 := sI_nn (g := fun j => v j 7) (a := 0) (fun i a b => (h.1.k67 i a b).2.1) 16 (by decide)
  rwa [show (0 : Int) + ((16 : Nat) : Int) = 16 from rfl] at hk7
set_option maxRecDepth 100000 in
set_option maxHeartbeats 8000000 in
theorem law_disp {p : Program} {l : Launch} {e : Env} {s : State} {m : MethodId} {args : Array Value} {below : List Frame} {meth : Method} {c : Code} {D : va_G} {ky : Nat → ClassId} {z : Nat} {Q : State → Prop} (hl : l.stackTraces = false) (C : Cx p l s m args meth c D ky z cL_law 13 wsL_law RL) (hNC : NC3 s) {b0 L : Nat} {xs : Nat → Int32} (hX : va_X b0 L xs s s.heap) (hbl : b0 < s.heap.size) (hzb : ¬ z ≤ b0) (hL8 : L ≤ 2048) {a b : Nat} {mo : Int} (hm : M16 mo) (hmo : 0 ≤ mo ∧ mo ≤ 640) {cells slots : Nat} {w : WT} {c9 k z9 kd q : Int} (hc9 : 0 ≤ c9 ∧ c9 ≤ 150) (hTI0 : TI w ky a b mo c9) (hz9 : 0 ≤ z9 ∧ z9 ≤ 1100000000) (hkd : 0 ≤ kd ∧ kd ≤ 19) (hq : 0 ≤ q ∧ q ≤ 304) (hcs : cells + 12 ≤ 673968 ∧ slots + 66 ≤ 7079565)
    (h525 : ∀ w', TI w' ky a b mo (c9 + 1) → Gd p l e room_1 s m args below meth c D z Q (cells + 12) (slots + 66) w' 525 [some (.ref b0), some (.ref a), some (.ref b), some (.int (iI mo)), some (.int (iI 1)), some (.int (iI k)), some (.int (iI z9)), some (.int (iI kd)), some (.int (iI (z9 / 20))), some (.int (iI q)), some (.int (iI (z9 / 20 % 6))), none, none] []) : Gd p l e room_1 s m args below meth c D z Q cells slots w 136 [some (.ref b0), some (.ref a), some (.ref b), some (.int (iI mo)), some (.int (iI 1)), some (.int (iI k)), some (.int (iI z9)), some (.int (iI kd)), some (.int (iI (z9 / 20))), some (.int (iI q)), some (.int (iI (z9 / 20 % 6))), none, none] [] := by
  have hTI := hTI0.up
  obtain ⟨P1, P2, T, v, B, sc, dn, n, lo, co, ct, nm, fl, n2, lo2, co2, ct2, nm2, fl2, hV1, hV2, hA, hS, hSm, hN1, hN2⟩ := hTI0
  refine gd_iload C dL_law_136 rfl ?_
  refine gd_iconst C dL_law_138 ?_
  refine gd_icmp_ge (tgt := 171) C dL_law_139 (by decide) ?_ ?_ (fun hc139 => ?_) (fun hc139 => ?_)
  · first | decide | omega
  · first | decide | omega
  · refine gd_iload C dL_law_171 rfl ?_
    refine gd_iconst C dL_law_173 ?_
    refine gd_icmp_ne (tgt := 206) C dL_law_174 (by decide) ?_ ?_ (fun hc174 => ?_) (fun hc174 => ?_)
    · first | decide | omega
    · first | decide | omega
    · refine gd_iload C dL_law_206 rfl ?_
      refine gd_bipush C dL_law_208 (by decide) ?_
      refine gd_icmp_ne (tgt := 240) C dL_law_210 (by decide) ?_ ?_ (fun hc210 => ?_) (fun hc210 => ?_)
      · first | decide | omega
      · first | decide | omega
      · refine gd_iload C dL_law_240 rfl ?_
        refine gd_bipush C dL_law_242 (by decide) ?_
        refine gd_icmp_ne (tgt := 276) C dL_law_244 (by decide) ?_ ?_ (fun hc244 => ?_) (fun hc244 => ?_)
        · first | decide | omega
        · first | decide | omega
        · refine gd_iload C dL_law_276 rfl ?_
          refine gd_bipush C dL_law_278 (by decide) ?_
          refine gd_icmp_ge (tgt := 342) C dL_law_280 (by decide) ?_ ?_ (fun hc280 => ?_) (fun hc280 => ?_)
          · first | decide | omega
          · first | decide | omega
          · refine gd_iload C dL_law_342 rfl ?_
            refine gd_bipush C dL_law_344 (by decide) ?_
            refine gd_icmp_ge (tgt := 376) C dL_law_346 (by decide) ?_ ?_ (fun hc346 => ?_) (fun hc346 => ?_)
            · first | decide | omega
            · first | decide | omega
            · refine gd_iload C dL_law_376 rfl ?_
              refine gd_bipush C dL_law_378 (by decide) ?_
              refine gd_icmp_ne (tgt := 426) C dL_law_380 (by decide) ?_ ?_ (fun hc380 => ?_) (fun hc380 => ?_)
              · first | decide | omega
              · first | decide | omega
              · refine gd_iload C dL_law_426 rfl ?_
                refine gd_bipush C dL_law_428 (by decide) ?_
                refine gd_icmp_ne (tgt := 468) C dL_law_430 (by decide) ?_ ?_ (fun hc430 => ?_) (fun hc430 => ?_)
                · first | decide | omega
                · first | decide | omega
                · refine gd_iload C dL_law_468 rfl ?_
                  refine gd_bipush C dL_law_470 (by decide) ?_
                  refine gd_icmp_ne (tgt := 503) C dL_law_472 (by decide) ?_ ?_ (fun hc472 => ?_) (fun hc472 => ?_)
                  · first | decide | omega
                  · first | decide | omega
                  · refine gd_aload_n C dL_law_503 rfl ?_
                    refine gd_iconst C dL_law_504 ?_
                    refine gd_iconst C dL_law_505 ?_
                    refine gd_callSW (n := 3) (maxL := 4) C hNC (kV_start hl hV1 hS (by omega) (q := 0)) gL_law_L_does rfl ⟨by decide, by decide, by decide +kernel⟩ rfl rfl (Nat.le_of_ble_eq_true rfl) rfl dL_law_506 ⟨⟨by decide, by decide⟩, by dsimp only [room_1]; omega, by dsimp only [room_1]; omega⟩ ?_
                    rintro _ w1 ⟨x1, T1, v1, B1, s1, d1, rfl, hR1, hU1, hF1⟩
                    obtain ⟨hV2a, hA1⟩ := hV2.other hF1 hA
                    refine gd_aload_n C dL_law_509 rfl ?_
                    refine gd_iconst C dL_law_510 ?_
                    refine gd_iconst C dL_law_511 ?_
                    refine gd_callSW (n := 3) (maxL := 4) C hNC (kV_start hl hV2a hS (by omega) (q := 0)) gL_law_L_does rfl ⟨by decide, by decide, by decide +kernel⟩ rfl rfl (Nat.le_of_ble_eq_true rfl) rfl dL_law_512 ⟨⟨by decide, by decide⟩, by dsimp only [room_1]; omega, by dsimp only [room_1]; omega⟩ ?_
                    rintro _ w2 ⟨x2, T2, v2, B2, s2, d2, rfl, hR2, hU2, hF2⟩
                    obtain ⟨hV1a, hA2⟩ := hU1.other hF2 (fun y a1 a2 => hA1 y a2 a1)
                    obtain ⟨rfl, rfl, rfl, rfl, rfl, rfl⟩ := RR_start_det hR1 hR2
                    have hTI : TI w2 ky a b mo (c9 + 1) := ⟨_, _, _, _, _, _, _, _, _, _, _, _, _, _, _, _, _, _, _, hV1a, hU2, fun y a1 a2 => hA2 y a2 a1, RR_start_FS hS hR1, hSm, hN1, hN2⟩
                    refine gd_icmp_neE (tgt := 522) C dL_law_515 (by decide) ?_
                    refine gd_iconst C dL_law_518 ?_
                    refine gd_goto (tgt := 523) C dL_law_519 (by decide) ?_
                    refine gd_istore C dL_law_523 (Nat.le_of_ble_eq_true rfl) ?_
                    exact Gd.widen (by first | omega | (dsimp only; omega)) (by first | omega | (dsimp only; omega)) (Gd.sub (.keep (.keep (.keep (.keep (.keep (.keep (.keep (.keep (.keep (.keep (.keep (.drop (.drop .nil))))))))))))) (h525 _ hTI))
                  · refine gd_iload C dL_law_475 rfl ?_
                    refine gd_iconst C dL_law_477 ?_
                    refine gd_irem C dL_law_478 ?_ ?_
                    · omega
                    refine gd_if_gt (tgt := 493) C dL_law_479 (by decide) ?_ (fun hc479 => ?_) (fun hc479 => ?_)
                    · first | decide | omega
                    · refine gd_iconst C dL_law_493 ?_
                      refine gd_goto (tgt := 498) C dL_law_494 (by decide) ?_
                      refine gd_istore C dL_law_498 (Nat.le_of_ble_eq_true rfl) ?_
                      refine gd_goto (tgt := 525) C dL_law_500 (by decide) ?_
                      exact Gd.widen (by first | omega | (dsimp only; omega)) (by first | omega | (dsimp only; omega)) (Gd.sub (.keep (.keep (.keep (.keep (.keep (.keep (.keep (.keep (.keep (.keep (.keep (.drop (.drop .nil))))))))))))) (h525 _ hTI))
                    · refine gd_aload_n C dL_law_482 rfl ?_
                      refine gd_callSW (n := 1) (maxL := 2) C hNC (kV_crash hl hV1 hS (by omega) ) gL_law_L_crash rfl ⟨by decide, by decide, by decide +kernel⟩ rfl rfl (Nat.le_of_ble_eq_true rfl) rfl dL_law_483 ⟨⟨by decide, by decide⟩, by dsimp only [room_1]; omega, by dsimp only [room_1]; omega⟩ ?_
                      rintro _ w1 ⟨x1, T1, v1, B1, s1, d1, rfl, hR1, hU1, hF1⟩
                      obtain ⟨hV2a, hA1⟩ := hV2.other hF1 hA
                      refine gd_aload_n C dL_law_486 rfl ?_
                      refine gd_callSW (n := 1) (maxL := 2) C hNC (kV_crash hl hV2a hS (by omega) ) gL_law_L_crash rfl ⟨by decide, by decide, by decide +kernel⟩ rfl rfl (Nat.le_of_ble_eq_true rfl) rfl dL_law_487 ⟨⟨by decide, by decide⟩, by dsimp only [room_1]; omega, by dsimp only [room_1]; omega⟩ ?_
                      rintro _ w2 ⟨x2, T2, v2, B2, s2, d2, rfl, hR2, hU2, hF2⟩
                      obtain ⟨hV1a, hA2⟩ := hU1.other hF2 (fun y a1 a2 => hA1 y a2 a1)
                      obtain ⟨rfl, rfl, rfl, rfl, rfl, rfl⟩ := RR_crash_det hR1 hR2
                      have hTI : TI w2 ky a b mo (c9 + 1) := ⟨_, _, _, _, _, _, _, _, _, _, _, _, _, _, _, _, _, _, _, hV1a, hU2, fun y a1 a2 => hA2 y a2 a1, RR_crash_FS hS hR1, hSm, hN1, hN2⟩
                      refine gd_icmp_neE (tgt := 497) C dL_law_490 (by decide) ?_
                      refine gd_iconst C dL_law_493 ?_
                      refine gd_goto (tgt := 498) C dL_law_494 (by decide) ?_
                      refine gd_istore C dL_law_498 (Nat.le_of_ble_eq_true rfl) ?_
                      refine gd_goto (tgt := 525) C dL_law_500 (by decide) ?_
                      exact Gd.widen (by first | omega | (dsimp only; omega)) (by first | omega | (dsimp only; omega)) (Gd.sub (.keep (.keep (.keep (.keep (.keep (.keep (.keep (.keep (.keep (.keep (.keep (.drop (.drop .nil))))))))))))) (h525 _ hTI))
                · refine gd_aload_n C dL_law_433 rfl ?_
                  refine gd_iconst C dL_law_434 ?_
                  refine gd_iload C dL_law_435 rfl ?_
                  refine gd_bipush C dL_law_437 (by decide) ?_
                  refine gd_irem C dL_law_439 ?_ ?_
                  · omega
                  refine gd_iadd C dL_law_440 ?_
                  refine gd_callSW (n := 2) (maxL := 3) C hNC (kV_crashBehind hl hV1 hS (by omega) (q := 1 + z9 / 20 % 12) (by omega)) gL_law_L_crashes rfl ⟨by decide, by decide, by decide +kernel⟩ rfl rfl (Nat.le_of_ble_eq_true rfl) rfl dL_law_441 ⟨⟨by decide, by decide⟩, by dsimp only [room_1]; omega, by dsimp only [room_1]; omega⟩ ?_
                  rintro _ w1 ⟨x1, T1, v1, B1, s1, d1, rfl, hR1, hU1, hF1⟩
                  obtain ⟨hV2a, hA1⟩ := hV2.other hF1 hA
                  refine gd_aload_n C dL_law_444 rfl ?_
                  refine gd_iconst C dL_law_445 ?_
                  refine gd_iload C dL_law_446 rfl ?_
                  refine gd_bipush C dL_law_448 (by decide) ?_
                  refine gd_irem C dL_law_450 ?_ ?_
                  · omega
                  refine gd_iadd C dL_law_451 ?_
                  refine gd_callSW (n := 2) (maxL := 3) C hNC (kV_crashBehind hl hV2a hS (by omega) (q := 1 + z9 / 20 % 12) (by omega)) gL_law_L_crashes rfl ⟨by decide, by decide, by decide +kernel⟩ rfl rfl (Nat.le_of_ble_eq_true rfl) rfl dL_law_452 ⟨⟨by decide, by decide⟩, by dsimp only [room_1]; omega, by dsimp only [room_1]; omega⟩ ?_
                  rintro _ w2 ⟨x2, T2, v2, B2, s2, d2, rfl, hR2, hU2, hF2⟩
                  obtain ⟨hV1a, hA2⟩ := hU1.other hF2 (fun y a1 a2 => hA1 y a2 a1)
                  obtain ⟨rfl, rfl, rfl, rfl, rfl, rfl⟩ := RR_crashBehind_det hR1 hR2
                  have hTI : TI w2 ky a b mo (c9 + 1) := ⟨_, _, _, _, _, _, _, _, _, _, _, _, _, _, _, _, _, _, _, hV1a, hU2, fun y a1 a2 => hA2 y a2 a1, RR_crashBehind_FS hS hR1, hSm, hN1, hN2⟩
                  refine gd_icmp_neE (tgt := 462) C dL_law_455 (by decide) ?_
                  refine gd_iconst C dL_law_458 ?_
                  refine gd_goto (tgt := 463) C dL_law_459 (by decide) ?_
                  refine gd_istore C dL_law_463 (Nat.le_of_ble_eq_true rfl) ?_
                  refine gd_goto (tgt := 525) C dL_law_465 (by decide) ?_
                  exact Gd.widen (by first | omega | (dsimp only; omega)) (by first | omega | (dsimp only; omega)) (Gd.sub (.keep (.keep (.keep (.keep (.keep (.keep (.keep (.keep (.keep (.keep (.keep (.drop (.drop .nil))))))))))))) (h525 _ hTI))
              · refine gd_aload_n C dL_law_383 rfl ?_
                refine gd_iload C dL_law_384 rfl ?_
                refine gd_iload C dL_law_386 rfl ?_
                refine gd_bipush C dL_law_388 (by decide) ?_
                refine gd_idiv C dL_law_390 ?_ ?_
                · omega
                refine gd_bipush C dL_law_391 (by decide) ?_
                refine gd_irem C dL_law_393 ?_ ?_
                · omega
                refine gd_iconst C dL_law_394 ?_
                refine gd_callSW (n := 4) (maxL := 5) C hNC (kV_cut hl hV1 hS (by omega) (q := z9 / 20 % 6) (y := z9 / 20 / 6 % 64) (by omega)) gL_law_L_write rfl ⟨by decide, by decide, by decide +kernel⟩ rfl rfl (Nat.le_of_ble_eq_true rfl) rfl dL_law_395 ⟨⟨by decide, by decide⟩, by dsimp only [room_1]; omega, by dsimp only [room_1]; omega⟩ ?_
                rintro _ w1 ⟨x1, T1, v1, B1, s1, d1, rfl, hR1, hU1, hF1⟩
                obtain ⟨hV2a, hA1⟩ := hV2.other hF1 hA
                refine gd_aload_n C dL_law_398 rfl ?_
                refine gd_iload C dL_law_399 rfl ?_
                refine gd_iload C dL_law_401 rfl ?_
                refine gd_bipush C dL_law_403 (by decide) ?_
                refine gd_idiv C dL_law_405 ?_ ?_
                · omega
                refine gd_bipush C dL_law_406 (by decide) ?_
                refine gd_irem C dL_law_408 ?_ ?_
                · omega
                refine gd_iconst C dL_law_409 ?_
                refine gd_callSW (n := 4) (maxL := 5) C hNC (kV_cut hl hV2a hS (by omega) (q := z9 / 20 % 6) (y := z9 / 20 / 6 % 64) (by omega)) gL_law_L_write rfl ⟨by decide, by decide, by decide +kernel⟩ rfl rfl (Nat.le_of_ble_eq_true rfl) rfl dL_law_410 ⟨⟨by decide, by decide⟩, by dsimp only [room_1]; omega, by dsimp only [room_1]; omega⟩ ?_
                rintro _ w2 ⟨x2, T2, v2, B2, s2, d2, rfl, hR2, hU2, hF2⟩
                obtain ⟨hV1a, hA2⟩ := hU1.other hF2 (fun y a1 a2 => hA1 y a2 a1)
                obtain ⟨rfl, rfl, rfl, rfl, rfl, rfl⟩ := RR_cut_det hR1 hR2
                have hTI : TI w2 ky a b mo (c9 + 1) := ⟨_, _, _, _, _, _, _, _, _, _, _, _, _, _, _, _, _, _, _, hV1a, hU2, fun y a1 a2 => hA2 y a2 a1, RR_cut_FS hS hR1, hSm, hN1, hN2⟩
                refine gd_icmp_neE (tgt := 420) C dL_law_413 (by decide) ?_
                refine gd_iconst C dL_law_416 ?_
                refine gd_goto (tgt := 421) C dL_law_417 (by decide) ?_
                refine gd_istore C dL_law_421 (Nat.le_of_ble_eq_true rfl) ?_
                refine gd_goto (tgt := 525) C dL_law_423 (by decide) ?_
                exact Gd.widen (by first | omega | (dsimp only; omega)) (by first | omega | (dsimp only; omega)) (Gd.sub (.keep (.keep (.keep (.keep (.keep (.keep (.keep (.keep (.keep (.keep (.keep (.drop (.drop .nil))))))))))))) (h525 _ hTI))
            · refine gd_aload_n C dL_law_349 rfl ?_
              refine gd_iconst C dL_law_350 ?_
              refine gd_iload C dL_law_351 rfl ?_
              refine gd_callSW (n := 3) (maxL := 4) C hNC (kV_flush hl hV1 hS (by omega) (q := z9 / 20 % 6) (by omega)) gL_law_L_does rfl ⟨by decide, by decide, by decide +kernel⟩ rfl rfl (Nat.le_of_ble_eq_true rfl) rfl dL_law_353 ⟨⟨by decide, by decide⟩, by dsimp only [room_1]; omega, by dsimp only [room_1]; omega⟩ ?_
              rintro _ w1 ⟨x1, T1, v1, B1, s1, d1, rfl, hR1, hU1, hF1⟩
              obtain ⟨hV2a, hA1⟩ := hV2.other hF1 hA
              refine gd_aload_n C dL_law_356 rfl ?_
              refine gd_iconst C dL_law_357 ?_
              refine gd_iload C dL_law_358 rfl ?_
              refine gd_callSW (n := 3) (maxL := 4) C hNC (kV_flush hl hV2a hS (by omega) (q := z9 / 20 % 6) (by omega)) gL_law_L_does rfl ⟨by decide, by decide, by decide +kernel⟩ rfl rfl (Nat.le_of_ble_eq_true rfl) rfl dL_law_360 ⟨⟨by decide, by decide⟩, by dsimp only [room_1]; omega, by dsimp only [room_1]; omega⟩ ?_
              rintro _ w2 ⟨x2, T2, v2, B2, s2, d2, rfl, hR2, hU2, hF2⟩
              obtain ⟨hV1a, hA2⟩ := hU1.other hF2 (fun y a1 a2 => hA1 y a2 a1)
              obtain ⟨rfl, rfl, rfl, rfl, rfl, rfl⟩ := RR_flush_det hR1 hR2
              have hTI : TI w2 ky a b mo (c9 + 1) := ⟨_, _, _, _, _, _, _, _, _, _, _, _, _, _, _, _, _, _, _, hV1a, hU2, fun y a1 a2 => hA2 y a2 a1, RR_flush_FS hS hR1, hSm, hN1, hN2⟩
              refine gd_icmp_neE (tgt := 370) C dL_law_363 (by decide) ?_
              refine gd_iconst C dL_law_366 ?_
              refine gd_goto (tgt := 371) C dL_law_367 (by decide) ?_
              refine gd_istore C dL_law_371 (Nat.le_of_ble_eq_true rfl) ?_
              refine gd_goto (tgt := 525) C dL_law_373 (by decide) ?_
              exact Gd.widen (by first | omega | (dsimp only; omega)) (by first | omega | (dsimp only; omega)) (Gd.sub (.keep (.keep (.keep (.keep (.keep (.keep (.keep (.keep (.keep (.keep (.keep (.drop (.drop .nil))))))))))))) (h525 _ hTI))
          · refine gd_iload C dL_law_283 rfl ?_
            refine gd_bipush C dL_law_285 (by decide) ?_
            refine gd_idiv C dL_law_287 ?_ ?_
            · omega
            refine gd_bipush C dL_law_288 (by decide) ?_
            refine gd_irem C dL_law_290 ?_ ?_
            · omega
            refine gd_istore C dL_law_291 (Nat.le_of_ble_eq_true rfl) ?_
            refine gd_iconst C dL_law_293 ?_
            refine gd_iload C dL_law_294 rfl ?_
            refine gd_sipush C dL_law_296 (by decide) ?_
            refine gd_idiv C dL_law_299 ?_ ?_
            · omega
            refine gd_bipush C dL_law_300 (by decide) ?_
            refine gd_iload C dL_law_302 rfl ?_
            refine gd_isub C dL_law_304 ?_
            refine gd_irem C dL_law_305 ?_ ?_
            · omega
            refine gd_iadd C dL_law_306 ?_
            have e1 : 0 ≤ z9 / 20 / 384 % (64 - z9 / 20 / 6 % 64) := Int.emod_nonneg _ (by omega)
            have e2 : z9 / 20 / 384 % (64 - z9 / 20 / 6 % 64) < 64 - z9 / 20 / 6 % 64 := Int.emod_lt_of_pos _ (by omega)
            generalize hmany : 1 + z9 / 20 / 384 % (64 - z9 / 20 / 6 % 64) = many
            have e3 : 1 ≤ many ∧ many ≤ 64 := by omega
            refine gd_istore C dL_law_307 (Nat.le_of_ble_eq_true rfl) ?_
            refine gd_aload_n C dL_law_309 rfl ?_
            refine gd_iload C dL_law_310 rfl ?_
            refine gd_iload C dL_law_312 rfl ?_
            refine gd_iload C dL_law_314 rfl ?_
            refine gd_callSW (n := 4) (maxL := 5) C hNC (kV_write hl hV1 hS (by omega) (q := z9 / 20 % 6) (x := z9 / 20 / 6 % 64) (k := many) ⟨by omega, by omega, by omega⟩ (by omega)) gL_law_L_write rfl ⟨by decide, by decide, by decide +kernel⟩ rfl rfl (Nat.le_of_ble_eq_true rfl) rfl dL_law_316 ⟨⟨by decide, by decide⟩, by dsimp only [room_1]; omega, by dsimp only [room_1]; omega⟩ ?_
            rintro _ w1 ⟨x1, T1, v1, B1, s1, d1, rfl, hR1, hU1, hF1⟩
            obtain ⟨hV2a, hA1⟩ := hV2.other hF1 hA
            refine gd_aload_n C dL_law_319 rfl ?_
            refine gd_iload C dL_law_320 rfl ?_
            refine gd_iload C dL_law_322 rfl ?_
            refine gd_iload C dL_law_324 rfl ?_
            refine gd_callSW (n := 4) (maxL := 5) C hNC (kV_write hl hV2a hS (by omega) (q := z9 / 20 % 6) (x := z9 / 20 / 6 % 64) (k := many) ⟨by omega, by omega, by omega⟩ (by omega)) gL_law_L_write rfl ⟨by decide, by decide, by decide +kernel⟩ rfl rfl (Nat.le_of_ble_eq_true rfl) rfl dL_law_326 ⟨⟨by decide, by decide⟩, by dsimp only [room_1]; omega, by dsimp only [room_1]; omega⟩ ?_
            rintro _ w2 ⟨x2, T2, v2, B2, s2, d2, rfl, hR2, hU2, hF2⟩
            obtain ⟨hV1a, hA2⟩ := hU1.other hF2 (fun y a1 a2 => hA1 y a2 a1)
            obtain ⟨rfl, rfl, rfl, rfl, rfl, rfl⟩ := RR_write_det hS.hk7 hR1 hR2
            have hTI : TI w2 ky a b mo (c9 + 1) := ⟨_, _, _, _, _, _, _, _, _, _, _, _, _, _, _, _, _, _, _, hV1a, hU2, fun y a1 a2 => hA2 y a2 a1, RR_write_FS hS hR1, hSm, hN1, hN2⟩
            refine gd_icmp_neE (tgt := 336) C dL_law_329 (by decide) ?_
            refine gd_iconst C dL_law_332 ?_
            refine gd_goto (tgt := 337) C dL_law_333 (by decide) ?_
            refine gd_istore C dL_law_337 (Nat.le_of_ble_eq_true rfl) ?_
            refine gd_goto (tgt := 525) C dL_law_339 (by decide) ?_
            exact Gd.widen (by first | omega | (dsimp only; omega)) (by first | omega | (dsimp only; omega)) (Gd.sub (.keep (.keep (.keep (.keep (.keep (.keep (.keep (.keep (.keep (.keep (.keep (.drop (.drop .nil))))))))))))) (h525 _ hTI))
        · refine gd_aload_n C dL_law_247 rfl ?_
          refine gd_iconst C dL_law_248 ?_
          refine gd_iload C dL_law_249 rfl ?_
          refine gd_callSW (n := 3) (maxL := 4) C hNC (kV_delete hl hV1 hS (by omega) (q := q) hN1 (by omega)) gL_law_L_does rfl ⟨by decide, by decide, by decide +kernel⟩ rfl rfl (Nat.le_of_ble_eq_true rfl) rfl dL_law_251 ⟨⟨by decide, by decide⟩, by dsimp only [room_1]; omega, by dsimp only [room_1]; omega⟩ ?_
          rintro _ w1 ⟨x1, T1, v1, B1, s1, d1, rfl, hR1, ct1, nm1, fl1, hL1, hU1, hF1⟩
          obtain ⟨hV2a, hA1⟩ := hV2.other hF1 hA
          refine gd_aload_n C dL_law_254 rfl ?_
          refine gd_iconst C dL_law_255 ?_
          refine gd_iload C dL_law_256 rfl ?_
          refine gd_iload_n C dL_law_258 rfl ?_
          refine gd_iadd C dL_law_259 ?_
          refine gd_callSW (n := 3) (maxL := 4) C hNC (kV_delete hl hV2a hS (by omega) (q := q + mo) hN2 (by omega)) gL_law_L_does rfl ⟨by decide, by decide, by decide +kernel⟩ rfl rfl (Nat.le_of_ble_eq_true rfl) rfl dL_law_260 ⟨⟨by decide, by decide⟩, by dsimp only [room_1]; omega, by dsimp only [room_1]; omega⟩ ?_
          rintro _ w2 ⟨x2, T2, v2, B2, s2, d2, rfl, hR2, ct3, nm3, fl3, hL2, hU2, hF2⟩
          obtain ⟨hV1a, hA2⟩ := hU1.other hF2 (fun y a1 a2 => hA1 y a2 a1)
          rw [hSm.eD hm hN1.1.1.1 q] at hR2
          obtain ⟨rfl, rfl, rfl, rfl, rfl, rfl⟩ := RR_delete_det hR1 hR2
          have hTI : TI w2 ky a b mo (c9 + 1) := ⟨_, _, _, _, _, _, _, _, _, _, _, _, _, _, _, _, _, _, _, hV1a, hU2, fun y a1 a2 => hA2 y a2 a1, RR_delete_FS hS (by have := dF_bd hN1.1 q; omega) hR1, RDEL_sim hN1 hSm hm hL1 hL2, RDEL_NI hN1 hL1, RDEL_NI hN2 hL2⟩
          refine gd_icmp_neE (tgt := 270) C dL_law_263 (by decide) ?_
          refine gd_iconst C dL_law_266 ?_
          refine gd_goto (tgt := 271) C dL_law_267 (by decide) ?_
          refine gd_istore C dL_law_271 (Nat.le_of_ble_eq_true rfl) ?_
          refine gd_goto (tgt := 525) C dL_law_273 (by decide) ?_
          exact Gd.widen (by first | omega | (dsimp only; omega)) (by first | omega | (dsimp only; omega)) (Gd.sub (.keep (.keep (.keep (.keep (.keep (.keep (.keep (.keep (.keep (.keep (.keep (.drop (.drop .nil))))))))))))) (h525 _ hTI))
      · refine gd_aload_n C dL_law_213 rfl ?_
        refine gd_iconst C dL_law_214 ?_
        refine gd_iload C dL_law_215 rfl ?_
        refine gd_callSW (n := 3) (maxL := 4) C hNC (kV_close hl hV1 hS (by omega) (q := z9 / 20 % 6) (by omega)) gL_law_L_does rfl ⟨by decide, by decide, by decide +kernel⟩ rfl rfl (Nat.le_of_ble_eq_true rfl) rfl dL_law_217 ⟨⟨by decide, by decide⟩, by dsimp only [room_1]; omega, by dsimp only [room_1]; omega⟩ ?_
        rintro _ w1 ⟨x1, T1, v1, B1, s1, d1, rfl, hR1, hU1, hF1⟩
        obtain ⟨hV2a, hA1⟩ := hV2.other hF1 hA
        refine gd_aload_n C dL_law_220 rfl ?_
        refine gd_iconst C dL_law_221 ?_
        refine gd_iload C dL_law_222 rfl ?_
        refine gd_callSW (n := 3) (maxL := 4) C hNC (kV_close hl hV2a hS (by omega) (q := z9 / 20 % 6) (by omega)) gL_law_L_does rfl ⟨by decide, by decide, by decide +kernel⟩ rfl rfl (Nat.le_of_ble_eq_true rfl) rfl dL_law_224 ⟨⟨by decide, by decide⟩, by dsimp only [room_1]; omega, by dsimp only [room_1]; omega⟩ ?_
        rintro _ w2 ⟨x2, T2, v2, B2, s2, d2, rfl, hR2, hU2, hF2⟩
        obtain ⟨hV1a, hA2⟩ := hU1.other hF2 (fun y a1 a2 => hA1 y a2 a1)
        obtain ⟨rfl, rfl, rfl, rfl, rfl, rfl⟩ := RR_close_det hR1 hR2
        have hTI : TI w2 ky a b mo (c9 + 1) := ⟨_, _, _, _, _, _, _, _, _, _, _, _, _, _, _, _, _, _, _, hV1a, hU2, fun y a1 a2 => hA2 y a2 a1, RR_close_FS hS hR1, hSm, hN1, hN2⟩
        refine gd_icmp_neE (tgt := 234) C dL_law_227 (by decide) ?_
        refine gd_iconst C dL_law_230 ?_
        refine gd_goto (tgt := 235) C dL_law_231 (by decide) ?_
        refine gd_istore C dL_law_235 (Nat.le_of_ble_eq_true rfl) ?_
        refine gd_goto (tgt := 525) C dL_law_237 (by decide) ?_
        exact Gd.widen (by first | omega | (dsimp only; omega)) (by first | omega | (dsimp only; omega)) (Gd.sub (.keep (.keep (.keep (.keep (.keep (.keep (.keep (.keep (.keep (.keep (.keep (.drop (.drop .nil))))))))))))) (h525 _ hTI))
    · refine gd_aload_n C dL_law_177 rfl ?_
      refine gd_iconst C dL_law_178 ?_
      refine gd_iload C dL_law_179 rfl ?_
      refine gd_callSW (n := 3) (maxL := 4) C hNC (kV_open hl hV1 hS (by omega) (q := q) hN1 (by omega)) gL_law_L_does rfl ⟨by decide, by decide, by decide +kernel⟩ rfl rfl (Nat.le_of_ble_eq_true rfl) rfl dL_law_181 ⟨⟨by decide, by decide⟩, by dsimp only [room_1]; omega, by dsimp only [room_1]; omega⟩ ?_
      rintro _ w1 ⟨x1, T1, v1, B1, s1, d1, rfl, hR1, hU1, hF1⟩
      obtain ⟨hV2a, hA1⟩ := hV2.other hF1 hA
      refine gd_aload_n C dL_law_184 rfl ?_
      refine gd_iconst C dL_law_185 ?_
      refine gd_iload C dL_law_186 rfl ?_
      refine gd_iload_n C dL_law_188 rfl ?_
      refine gd_iadd C dL_law_189 ?_
      refine gd_callSW (n := 3) (maxL := 4) C hNC (kV_open hl hV2a hS (by omega) (q := q + mo) hN2 (by omega)) gL_law_L_does rfl ⟨by decide, by decide, by decide +kernel⟩ rfl rfl (Nat.le_of_ble_eq_true rfl) rfl dL_law_190 ⟨⟨by decide, by decide⟩, by dsimp only [room_1]; omega, by dsimp only [room_1]; omega⟩ ?_
      rintro _ w2 ⟨x2, T2, v2, B2, s2, d2, rfl, hR2, hU2, hF2⟩
      obtain ⟨hV1a, hA2⟩ := hU1.other hF2 (fun y a1 a2 => hA1 y a2 a1)
      rw [hSm.eD hm hN1.1.1.1 q] at hR2
      obtain ⟨rfl, rfl, rfl, rfl, rfl, rfl⟩ := RR_open_det hR1 hR2
      have hTI : TI w2 ky a b mo (c9 + 1) := ⟨_, _, _, _, _, _, _, _, _, _, _, _, _, _, _, _, _, _, _, hV1a, hU2, fun y a1 a2 => hA2 y a2 a1, RR_open_FS hS (by have := dF_bd hN1.1 q; omega) hR1, hSm, hN1, hN2⟩
      refine gd_icmp_neE (tgt := 200) C dL_law_193 (by decide) ?_
      refine gd_iconst C dL_law_196 ?_
      refine gd_goto (tgt := 201) C dL_law_197 (by decide) ?_
      refine gd_istore C dL_law_201 (Nat.le_of_ble_eq_true rfl) ?_
      refine gd_goto (tgt := 525) C dL_law_203 (by decide) ?_
      exact Gd.widen (by first | omega | (dsimp only; omega)) (by first | omega | (dsimp only; omega)) (Gd.sub (.keep (.keep (.keep (.keep (.keep (.keep (.keep (.keep (.keep (.keep (.keep (.drop (.drop .nil))))))))))))) (h525 _ hTI))
  · refine gd_aload_n C dL_law_142 rfl ?_
    refine gd_iconst C dL_law_143 ?_
    refine gd_iload C dL_law_144 rfl ?_
    refine gd_callSW (n := 3) (maxL := 4) C hNC (kV_create hl hV1 hS (by omega) (q := q) hN1 (by omega)) gL_law_L_does rfl ⟨by decide, by decide, by decide +kernel⟩ rfl rfl (Nat.le_of_ble_eq_true rfl) rfl dL_law_146 ⟨⟨by decide, by decide⟩, by dsimp only [room_1]; omega, by dsimp only [room_1]; omega⟩ ?_
    rintro _ w1 ⟨x1, T1, v1, B1, s1, d1, rfl, hR1, P3, n1, lo1, co1, ct1, nm1, fl1, hL1, hU1, hF1⟩
    obtain ⟨hV2a, hA1⟩ := hV2.other hF1 hA
    refine gd_aload_n C dL_law_149 rfl ?_
    refine gd_iconst C dL_law_150 ?_
    refine gd_iload C dL_law_151 rfl ?_
    refine gd_iload_n C dL_law_153 rfl ?_
    refine gd_iadd C dL_law_154 ?_
    refine gd_callSW (n := 3) (maxL := 4) C hNC (kV_create hl hV2a hS (by omega) (q := q + mo) hN2 (by omega)) gL_law_L_does rfl ⟨by decide, by decide, by decide +kernel⟩ rfl rfl (Nat.le_of_ble_eq_true rfl) rfl dL_law_155 ⟨⟨by decide, by decide⟩, by dsimp only [room_1]; omega, by dsimp only [room_1]; omega⟩ ?_
    rintro _ w2 ⟨x2, T2, v2, B2, s2, d2, rfl, hR2, P4, n3, lo3, co3, ct3, nm3, fl3, hL2, hU2, hF2⟩
    obtain ⟨hV1a, hA2⟩ := hU1.other hF2 (fun y a1 a2 => hA1 y a2 a1)
    rw [hSm.eD hm hN1.1.1.1 q, hSm.1] at hR2
    obtain ⟨rfl, rfl, rfl, rfl, rfl, rfl⟩ := RR_create_det hR1 hR2
    have hTI : TI w2 ky a b mo (c9 + 1) := ⟨_, _, _, _, _, _, _, _, _, _, _, _, _, _, _, _, _, _, _, hV1a, hU2, fun y a1 a2 => hA2 y a2 a1, RR_create_FS hS hR1, RADD_sim hN1 hSm hm hL1 hL2, RADD_NI hN1 (by omega) (XF_le _) hL1, RADD_NI hN2 (by omega) (XF_le _) hL2⟩
    refine gd_icmp_neE (tgt := 165) C dL_law_158 (by decide) ?_
    refine gd_iconst C dL_law_161 ?_
    refine gd_goto (tgt := 166) C dL_law_162 (by decide) ?_
    refine gd_istore C dL_law_166 (Nat.le_of_ble_eq_true rfl) ?_
    refine gd_goto (tgt := 525) C dL_law_168 (by decide) ?_
    exact Gd.widen (by first | omega | (dsimp only; omega)) (by first | omega | (dsimp only; omega)) (Gd.sub (.keep (.keep (.keep (.keep (.keep (.keep (.keep (.keep (.keep (.keep (.keep (.drop (.drop .nil))))))))))))) (h525 _ hTI))
set_option maxRecDepth 100000 in
set_option maxHeartbeats 8000000 in
theorem law_like {p : Program} {l : Launch} {e : Env} {s : State} {m : MethodId} {args : Array Value} {below : List Frame} {meth : Method} {c : Code} {D : va_G} {ky : Nat → ClassId} {z : Nat} {Q : State → Prop} (hl : l.stackTraces = false) (C : Cx p l s m args meth c D ky z cL_law 13 wsL_law RL) (hNC : NC3 s) {b0 L : Nat} {xs : Nat → Int32} (hX : va_X b0 L xs s s.heap) (hbl : b0 < s.heap.size) (hzb : ¬ z ≤ b0) (hL8 : L ≤ 2048) {a b : Nat} {mo : Int} (hm : M16 mo) (hmo : 0 ≤ mo ∧ mo ≤ 640) {cells slots : Nat} {w : WT} {c9 k z9 kd q : Int} (hTI : TI w ky a b mo c9) (hz9 : 0 ≤ z9 ∧ z9 ≤ 1100000000) (hq : 0 ≤ q ∧ q ≤ 304) (hcs : cells + 64 ≤ 673968 ∧ slots + 384 ≤ 7079565)
    (kk : Gd p l e room_1 s m args below meth c D z Q (cells + 64) (slots + 384) w 36 [some (.ref b0), some (.ref a), some (.ref b), some (.int (iI mo)), some (.int (iI 1)), some (.int (iI (k + 1))), none, none, none, none, none, none, none] []) : Gd p l e room_1 s m args below meth c D z Q cells slots w 525 [some (.ref b0), some (.ref a), some (.ref b), some (.int (iI mo)), some (.int (iI 1)), some (.int (iI k)), some (.int (iI z9)), some (.int (iI kd)), some (.int (iI (z9 / 20))), some (.int (iI q)), some (.int (iI (z9 / 20 % 6))), none, none] [] := by
  obtain ⟨P1, P2, T, v, B, sc, dn, n, lo, co, ct, nm, fl, n2, lo2, co2, ct2, nm2, fl2, hV1, hV2, hA, hS, hSm, hN1, hN2⟩ := id hTI
  refine gd_iload C dL_law_525 rfl ?_
  refine gd_if_eq (tgt := 550) C dL_law_527 (by decide) (by decide) (fun hc => ?_) (fun hc => ?_)
  · exfalso; omega
  refine gd_aload_n C dL_law_530 rfl ?_
  refine gd_aload_n C dL_law_531 rfl ?_
  refine gd_iload C dL_law_532 rfl ?_
  refine gd_iload_n C dL_law_534 rfl ?_
  refine gd_iload C dL_law_535 rfl ?_
  refine gd_bipush C dL_law_537 (by decide) ?_
  refine gd_idiv C dL_law_539 ?_ ?_
  · omega
  refine gd_callSC (n := 5) (maxL := 8) C hNC (kL_areAlike hl hV1 hV2 hS hSm hN1 hN2 hm (q := q) (z9 := z9 / 7) ⟨by omega, by omega, by omega⟩ ⟨by omega, by omega⟩) gL_law_L_areAlike rfl ⟨by decide, by decide, by decide +kernel⟩ rfl rfl (Nat.le_of_ble_eq_true rfl) rfl dL_law_540 ⟨⟨by decide, by decide⟩, by dsimp only [room_1]; omega, by dsimp only [room_1]; omega⟩ ?_
  rintro _ _ ⟨rfl, rfl⟩
  refine gd_if_eq (tgt := 550) C dL_law_543 (by decide) (by decide) (fun hc => ?_) (fun hc => ?_)
  · exfalso; omega
  refine gd_iconst C dL_law_546 ?_
  refine gd_goto (tgt := 551) C dL_law_547 (by decide) ?_
  refine gd_istore C dL_law_551 (Nat.le_of_ble_eq_true rfl) ?_
  refine gd_iinc C dL_law_553 rfl ?_
  refine gd_goto (tgt := 36) C dL_law_556 (by decide) ?_
  exact Gd.sub (.keep (.keep (.keep (.keep (.keep (.keep (.drop (.drop (.drop (.drop (.drop (.keep (.keep .nil))))))))))))) kk
set_option maxRecDepth 100000 in
set_option maxHeartbeats 8000000 in
theorem law_turn {p : Program} {l : Launch} {e : Env} {s : State} {m : MethodId} {args : Array Value} {below : List Frame} {meth : Method} {c : Code} {D : va_G} {ky : Nat → ClassId} {z : Nat} {Q : State → Prop} (hl : l.stackTraces = false) (C : Cx p l s m args meth c D ky z cL_law 13 wsL_law RL) (hNC : NC3 s) {b0 L : Nat} {xs : Nat → Int32} (hX : va_X b0 L xs s s.heap) (hbl : b0 < s.heap.size) (hzb : ¬ z ≤ b0) (hL8 : L ≤ 2048) {a b : Nat} {mo : Int} (hm : M16 mo) (hmo : 0 ≤ mo ∧ mo ≤ 640) {cells slots : Nat} {w : WT} {c9 k : Int} (hc9 : 0 ≤ c9 ∧ c9 ≤ 150) (hk : 1 ≤ k ∧ k ≤ 119) (hTI : TI w ky a b mo c9) (hcs : cells + 76 ≤ 673968 ∧ slots + 450 ≤ 7079565)
    (kk : ∀ w', TI w' ky a b mo (c9 + 1) → Gd p l e room_1 s m args below meth c D z Q (cells + 76) (slots + 450) w' 36 [some (.ref b0), some (.ref a), some (.ref b), some (.int (iI mo)), some (.int (iI 1)), some (.int (iI (k + 1))), none, none, none, none, none, none, none] []) : Gd p l e room_1 s m args below meth c D z Q cells slots w 48 [some (.ref b0), some (.ref a), some (.ref b), some (.int (iI mo)), some (.int (iI 1)), some (.int (iI k)), none, none, none, none, none, none, none] [] := by
  refine gd_aload_n C dL_law_48 rfl ?_
  refine gd_iload C dL_law_49 rfl ?_
  refine gd_bipush C dL_law_51 (by decide) ?_
  refine gd_irem C dL_law_53 ?_ ?_
  · omega
  refine gd_callX (n := 2) (maxL := 3) C hX hbl hzb (kL_drawn hl hzb hL8 (i := k % 60) (by omega)) gL_law_L_drawn rfl ⟨by decide, by decide, by decide +kernel⟩ rfl rfl (Nat.le_of_ble_eq_true rfl) rfl dL_law_54 ⟨⟨by decide, by decide⟩, by dsimp only [room_1]; omega, by dsimp only [room_1]; omega⟩ ?_
  rintro _ _ ⟨rfl, x, rfl, hx0, hx1⟩
  refine gd_iconst C dL_law_57 ?_
  refine gd_iload C dL_law_58 rfl ?_
  refine gd_bipush C dL_law_60 (by decide) ?_
  refine gd_idiv C dL_law_62 ?_ ?_
  · omega
  refine gd_iadd C dL_law_63 ?_
  refine gd_idiv C dL_law_64 ?_ ?_
  · omega
  refine gd_bipush C dL_law_65 (by decide) ?_
  refine gd_iload C dL_law_67 rfl ?_
  refine gd_bipush C dL_law_69 (by decide) ?_
  refine gd_idiv C dL_law_71 ?_ ?_
  · omega
  refine gd_imul C dL_law_72 ?_
  refine gd_iadd C dL_law_73 ?_
  have e1 : 0 ≤ x / (1 + k / 60) := Int.ediv_nonneg hx0 (by omega)
  have e2 : x / (1 + k / 60) ≤ x := Int.ediv_le_self _ hx0
  generalize hz9e : x / (1 + k / 60) + 7 * (k / 60) = z9
  have hz9 : 0 ≤ z9 ∧ z9 ≤ 1100000000 := by omega
  refine gd_istore C dL_law_74 (Nat.le_of_ble_eq_true rfl) ?_
  have h127 : ∀ kd q : Int, 0 ≤ kd → kd ≤ 19 → 0 ≤ q → q ≤ 304 → Gd p l e room_1 s m args below meth c D z Q cells slots w 127 [some (.ref b0), some (.ref a), some (.ref b), some (.int (iI mo)), some (.int (iI 1)), some (.int (iI k)), some (.int (iI z9)), some (.int (iI kd)), some (.int (iI (z9 / 20))), none, none, none, none] [.int (iI q)] := by
    intro kd q k1 k2 q1 q2
    refine gd_istore C dL_law_127 (Nat.le_of_ble_eq_true rfl) ?_
    refine gd_iload C dL_law_129 rfl ?_
    refine gd_bipush C dL_law_131 (by decide) ?_
    refine gd_irem C dL_law_133 ?_ ?_
    · omega
    refine gd_istore C dL_law_134 (Nat.le_of_ble_eq_true rfl) ?_
    refine law_disp (kd := kd) (q := q) (z9 := z9) (k := k) hl C hNC hX hbl hzb hL8 hm hmo hc9 hTI hz9 ⟨k1, k2⟩ ⟨q1, q2⟩ (by omega) (fun w' h' => ?_)
    refine law_like (kd := kd) (q := q) (z9 := z9) (k := k) hl C hNC hX hbl hzb hL8 hm hmo h' hz9 ⟨q1, q2⟩ (by omega) ?_
    exact Gd.widen (by omega) (by omega) (kk w' h')
  have h91 : ∀ kd : Int, 0 ≤ kd → kd ≤ 19 → Gd p l e room_1 s m args below meth c D z Q cells slots w 91 [some (.ref b0), some (.ref a), some (.ref b), some (.int (iI mo)), some (.int (iI 1)), some (.int (iI k)), some (.int (iI z9)), none, none, none, none, none, none] [.int (iI kd)] := by
    intro kd k1 k2
    refine gd_istore C dL_law_91 (Nat.le_of_ble_eq_true rfl) ?_
    refine gd_iload C dL_law_93 rfl ?_
    refine gd_bipush C dL_law_95 (by decide) ?_
    refine gd_idiv C dL_law_97 ?_ ?_
    · omega
    refine gd_istore C dL_law_98 (Nat.le_of_ble_eq_true rfl) ?_
    refine gd_iload C dL_law_100 rfl ?_
    refine gd_iconst C dL_law_102 ?_
    refine gd_irem C dL_law_103 ?_ ?_
    · omega
    refine gd_if_ne (tgt := 120) C dL_law_104 (by decide) ?_ (fun hc => ?_) (fun hc => ?_)
    · omega
    · refine gd_iload C dL_law_120 rfl ?_
      refine gd_iconst C dL_law_122 ?_
      refine gd_idiv C dL_law_123 ?_ ?_
      · omega
      refine gd_bipush C dL_law_124 (by decide) ?_
      refine gd_irem C dL_law_126 ?_ ?_
      · omega
      exact h127 kd _ k1 k2 (by omega) (by omega)
    · refine gd_bipush C dL_law_107 (by decide) ?_
      refine gd_iload C dL_law_109 rfl ?_
      refine gd_iconst C dL_law_111 ?_
      refine gd_idiv C dL_law_112 ?_ ?_
      · omega
      refine gd_bipush C dL_law_113 (by decide) ?_
      refine gd_irem C dL_law_115 ?_ ?_
      · omega
      refine gd_imul C dL_law_116 ?_
      refine gd_goto (tgt := 127) C dL_law_117 (by decide) ?_
      exact h127 kd _ k1 k2 (by omega) (by omega)
  refine gd_iload C dL_law_76 rfl ?_
  refine gd_iconst C dL_law_78 ?_
  refine gd_icmp_ge (tgt := 86) C dL_law_79 (by decide) (by omega) (by decide) (fun hc => ?_) (fun hc => ?_)
  · refine gd_iload C dL_law_86 rfl ?_
    refine gd_bipush C dL_law_88 (by decide) ?_
    refine gd_irem C dL_law_90 ?_ ?_
    · omega
    exact Gd.widen (by first | omega | (dsimp only; omega)) (by first | omega | (dsimp only; omega)) (h91 _ (by omega) (by omega))
  · refine gd_iconst C dL_law_82 ?_
    refine gd_goto (tgt := 91) C dL_law_83 (by decide) ?_
    exact Gd.widen (by first | omega | (dsimp only; omega)) (by first | omega | (dsimp only; omega)) (h91 0 (by decide) (by decide))
set_option maxRecDepth 100000 in
set_option maxHeartbeats 8000000 in
theorem law_loop {p : Program} {l : Launch} {e : Env} {s : State} {m : MethodId} {args : Array Value} {below : List Frame} {meth : Method} {c : Code} {D : va_G} {ky : Nat → ClassId} {z : Nat} {Q : State → Prop} (hl : l.stackTraces = false) (C : Cx p l s m args meth c D ky z cL_law 13 wsL_law RL) (hNC : NC3 s) {b0 L : Nat} {xs : Nat → Int32} (hX : va_X b0 L xs s s.heap) (hbl : b0 < s.heap.size) (hzb : ¬ z ≤ b0) (hL8 : L ≤ 2048) {a b : Nat} {mo : Int} (hm : M16 mo) (hmo : 0 ≤ mo ∧ mo ≤ 640) {c0 s0 : Nat} (hcs : c0 + 10000 ≤ 673968 ∧ s0 + 60000 ≤ 7079565) (hend : ∀ w ls, ls.length = 13 → Gd p l e room_1 s m args below meth c D z Q (673968) (7079565) w 561 ls [.int (iI 1)]) :
    ∀ (f k : Nat) (w : WT), k + f = 120 → 1 ≤ k → TI w ky a b mo ((k : Int) - 1) → Gd p l e room_1 s m args below meth c D z Q (c0 + 76 * k) (s0 + 450 * k) w 36 [some (.ref b0), some (.ref a), some (.ref b), some (.int (iI mo)), some (.int (iI 1)), some (.int (iI ((k : Nat) : Int))), none, none, none, none, none, none, none] [] := by
  intro f
  induction f with
  | zero =>
    intro k w hk h1 hTI
    obtain rfl : k = 120 := hk
    refine gd_iload C dL_law_36 rfl ?_
    refine gd_bipush C dL_law_38 (by decide) ?_
    refine gd_icmp_ge (tgt := 559) C dL_law_40 (by decide) (by decide) (by decide) (fun hc => ?_) (fun hc => ?_)
    · refine gd_iload C dL_law_559 rfl ?_
      exact Gd.widen (by omega) (by omega) (hend _ _ rfl)
    · exfalso; omega
  | succ f ih =>
    intro k w hk h1 hTI
    refine gd_iload C dL_law_36 rfl ?_
    refine gd_bipush C dL_law_38 (by decide) ?_
    refine gd_icmp_ge (tgt := 559) C dL_law_40 (by decide) (by omega) (by decide) (fun hc => ?_) (fun hc => ?_)
    · exfalso; omega
    · refine gd_iload C dL_law_43 rfl ?_
      refine gd_if_eq (tgt := 559) C dL_law_45 (by decide) (by decide) (fun hc2 => ?_) (fun hc2 => ?_)
      · exfalso; omega
      · refine law_turn hl C hNC hX hbl hzb hL8 hm hmo (c9 := (k : Int) - 1) (k := (k : Int)) (by omega) (by omega) hTI (by omega) (fun w' h' => ?_)
        have h9 := ih (k + 1) w' (by omega) (by omega) (by rw [show ((k + 1 : Nat) : Int) - 1 = (k : Int) - 1 + 1 by omega]; exact h')
        rw [show ((k + 1 : Nat) : Int) = (k : Int) + 1 by omega] at h9
        exact Gd.widen (by omega) (by omega) h9
