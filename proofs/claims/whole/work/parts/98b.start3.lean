set_option maxRecDepth 100000 in
set_option maxHeartbeats 4000000 in
theorem whole_start {p : Program} {e : Env} {s : State} {m : MethodId} {below : List Frame} {meth : Method} {c : Code} (l : Launch) (hflags : l.flags = flags0) {b L : Nat} {xs : Nat → Int32} (hL : L ≤ 2048) (C0 : lw_At p s m meth c b L xs) : W p l e room_1 s m #[Value.ref b] below meth c s.heap [] 0 0 (lw_Z below #[Value.ref b] s) (entryFrame m ([Value.ref b] : List Value).toArray 8) := by
  obtain ⟨hx, hb, hr, hml, hown, hts, hX, hbl, hlocks, hgv⟩ := id C0
  have hl : l.stackTraces = false := by unfold Launch.stackTraces; rw [hflags]; decide
  obtain ⟨⟨D, ky, hSB⟩, hNC, hO⟩ := law_SB hts hgv
  have C : Cx p l s m #[Value.ref b] meth c D ky s.heap.size cL_law 8 wsL_law RL := ⟨⟨hx, hb, hml, hown, fun w h => hts w (wsL_law_in w h)⟩, hSB, hlocks, hl, Nat.le_refl _⟩
  have hend : ∀ (w : WT) (ls : List (Option Value)), ls.length = 8 → Gd p l e room_1 s m #[Value.ref b] below meth c D s.heap.size (lw_Z below #[Value.ref b] s) 601024 7293034 w 1379 ls [] := by
    intro w ls _
    refine gd_iconst C dL_law_1379 ?_
    intro H locs la h1 h2 h3
    exact va_forget (fun q hq => h2.2.2 q hq) (lw_ret (d0 := s.drawn) (Drawn.sameBut.refl s.drawn lw_cs) hx hb hr hlocks dL_law_1380)
  have key : Gd p l e room_1 s m #[Value.ref b] below meth c D s.heap.size (lw_Z below #[Value.ref b] s) 0 0 (fun _ => none) 0 [some (.ref b), none, none, none, none, none, none, none] [] := by
    refine gd_new (ci := 4) (Cn := RX4) (T := TX4) (N := 5) (fs := [.null, .null, .null, .int 0, .int 0]) C rfl inlX4 tyX4 tyX4_ok (by decide +kernel) (by decide +kernel) (by decide +kernel) (fun j hj => by rcases (show j = 0 ∨ j = 1 ∨ j = 2 ∨ j = 3 ∨ j = 4 by omega) with rfl | rfl | rfl | rfl | rfl <;> rfl) ⟨by decide, by decide⟩ dL_law_0 (fun bq hbq => ?_)
    refine gd_dup C dL_law_3 rfl ?_
    refine gd_callIA (n := 0) C hO (kX4_init hl (wU_s _ _ _)) gL_law_X4_init rfl rfl (by decide +kernel) (by decide +kernel) (by decide +kernel) ⟨by decide, by decide, by decide +kernel⟩ rfl rfl (Nat.le_of_ble_eq_true rfl) rfl dL_law_4 ⟨⟨by decide, by decide⟩, by decide, by decide⟩ ?_
    rintro r1 w1 ⟨rfl, g, t, ar, d, q, nb, fb, ac, ab, hW, hD, hK⟩
    refine gd_astore_n C dL_law_7 (Nat.le_of_ble_eq_true rfl) ?_
    refine gd_new (ci := 5) (Cn := RX5) (T := TX5) (N := 18) (fs := [.null, .null, .null, .null, .null, .null, .null, .null, .null, .null, .null, .null, .null, .null, .int 0, .int 0, .int 0, .int 0]) C rfl inlX5 tyX5 tyX5_ok (by decide +kernel) (by decide +kernel) (by decide +kernel) (fun j hj => by rcases (show j = 0 ∨ j = 1 ∨ j = 2 ∨ j = 3 ∨ j = 4 ∨ j = 5 ∨ j = 6 ∨ j = 7 ∨ j = 8 ∨ j = 9 ∨ j = 10 ∨ j = 11 ∨ j = 12 ∨ j = 13 ∨ j = 14 ∨ j = 15 ∨ j = 16 ∨ j = 17 by omega) with rfl | rfl | rfl | rfl | rfl | rfl | rfl | rfl | rfl | rfl | rfl | rfl | rfl | rfl | rfl | rfl | rfl | rfl <;> rfl) ⟨by decide, by decide⟩ dL_law_8 (fun o ho => ?_)
    refine gd_dup C dL_law_11 rfl ?_
    refine gd_callI (n := 0) C (kX5_init hl (wU_s _ _ _)) gL_law_X5_init rfl rfl (by decide +kernel) (by decide +kernel) (by decide +kernel) ⟨by decide, by decide, by decide +kernel⟩ rfl rfl (Nat.le_of_ble_eq_true rfl) rfl dL_law_12 ⟨⟨by decide, by decide⟩, by decide, by decide⟩ (fun _ h => h.elim) ?_
    rintro r2 w2 ⟨rfl, A, F, G, hV, hA, hR, hRL, hN, h9⟩
    refine gd_astore_n C dL_law_15 (Nat.le_of_ble_eq_true rfl) ?_
    refine gd_iconst C dL_law_16 ?_
    refine gd_newL (N := 1) C (by decide +kernel) dL_law_17 ⟨rfl, by decide⟩ ⟨by decide, by decide⟩ (fun ao hao => ?_)
    refine gd_astore_n C dL_law_19 (Nat.le_of_ble_eq_true rfl) ?_
    refine gd_iconst C dL_law_20 ?_
    refine gd_newD (N := 1) C (by decide +kernel) dL_law_21 ⟨rfl, by decide⟩ ⟨by decide, by decide⟩ (fun ad had => ?_)
    refine gd_astore C dL_law_23 (Nat.le_of_ble_eq_true rfl) ?_
    refine gd_iconst C dL_law_25 ?_
    refine gd_istore C dL_law_26 (Nat.le_of_ble_eq_true rfl) ?_
    have k1 : ∀ y u, w1 y = some u → w2 y = some u := fun y u hy => by
      have hyo : y ≠ o := fun e => by rw [e, ho] at hy; cases hy
      have h1 := (wU_n (w := w1) (e := oB 5 [.null, .null, .null, .null, .null, .null, .null, .null, .null, .null, .null, .null, .null, .null, .int 0, .int 0, .int 0, .int 0]) hyo).trans hy
      exact (hV.2 y hyo (fun k hk e => by rw [e, hA k hk] at h1; cases h1)).trans h1
    have k2 : ∀ y u, w2 y = some u → wU (wU w2 ao (lA (ky 3) 1 (fun _ => 0))) ad (dA (ky 4) 1 (fun _ => 0)) y = some u := fun y u hy => by
      have h1 : y ≠ ao := fun e => by rw [e, hao] at hy; cases hy
      have h2 := (wU_n (w := w2) (e := lA (ky 3) 1 (fun _ => 0)) h1).trans hy
      have h3 : y ≠ ad := fun e => by rw [e, had] at h2; cases h2
      exact (wU_n h3).trans h2
    have hne : ao ≠ ad := fun e => by
      have h1 := wU_s w2 ao (lA (ky 3) 1 (fun _ => 0))
      rw [e] at h1
      rw [e, h1] at had
      cases had
    have hA0 : A 0 ≠ t := fun e => by
      have h1 := hW.2.2.1
      have h2 : t ≠ o := fun e => by rw [e, ho] at h1; cases h1
      have h3 := (wU_n (w := w1) (e := oB 5 [.null, .null, .null, .null, .null, .null, .null, .null, .null, .null, .null, .null, .null, .null, .int 0, .int 0, .int 0, .int 0]) h2).trans h1
      rw [← e, hA 0 (by decide)] at h3
      cases h3
    have hLW := (⟨hW.kp (fun y u hy _ => k2 y u (k1 y u hy)), hD.kp (fun y u hy _ => k2 y u (k1 y u hy)), ⟨k2 _ _ hV.1.1, fun k hk => k2 _ _ (hV.1.2.1 k hk), hV.1.2.2⟩, hA0, (wU_n hne).trans (wU_s _ _ _), wU_s _ _ _⟩ : LW _ ky bq g t ar d o ao ad ac ab _ _ _ A _ _ _ _ _ _ _ _ _ _ _ F G _ _)
    have hLI : LI _ ky bq o ao ad ((0 : Nat) : Int) := ⟨g, t, ar, d, ac, ab, _, _, _, A, _, _, _, _, _, _, _, _, _, _, _, F, G, _, _, hLW, INV0 hR hRL hN h9⟩
    have h8 := law_loop (e := e) (below := below) hl C hNC hX hbl (Nat.not_le.mpr hbl) hL (c0 := 100) (s0 := 10000) ⟨by decide, by decide⟩ hend 513 0 _ rfl hLI
    exact Gd.widen (by decide) (by decide) h8
  rw [lg_entry_eq]
  exact key s.heap [] _ ⟨Nat.le_refl _, fun a x h => by cases h⟩ va_S.rf (lh_entry [.ref b] 8 (by intro v hv; simp at hv; rcases hv with rfl; rfl) (Nat.le_of_ble_eq_true rfl))
