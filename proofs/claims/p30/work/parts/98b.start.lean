set_option maxRecDepth 100000 in
set_option maxHeartbeats 8000000 in
theorem whole_start {p : Program} {e : Env} {s : State} {m : MethodId} {below : List Frame} {meth : Method} {c : Code} (l : Launch) (hflags : l.flags = flags0) {b L : Nat} {xs : Nat → Int32} (hL : L ≤ 260) (C0 : lw_At p s m meth c b L xs) : W p l e room_1 s m #[Value.ref b] below meth c s.heap [] 0 0 (lw_Z below #[Value.ref b] s) (entryFrame m ([Value.ref b] : List Value).toArray 13) := by
  obtain ⟨hx, hb, hr, hml, hown, hts, hX, hbl, hlocks, hgv⟩ := id C0
  have hl : l.stackTraces = false := by unfold Launch.stackTraces; rw [hflags]; decide
  obtain ⟨⟨D, ky, hSB⟩, hNC, hO⟩ := law_SB hts hgv
  have C : Cx p l s m #[Value.ref b] meth c D ky s.heap.size cL_law 13 wsL_law RL := ⟨⟨hx, hb, hml, hown, fun w h => hts w (wsL_law_in w h)⟩, hSB, hlocks, hl, Nat.le_refl _⟩
  have hend : ∀ (w : WT) (ls : List (Option Value)), ls.length = 13 → Gd p l e room_1 s m #[Value.ref b] below meth c D s.heap.size (lw_Z below #[Value.ref b] s) 673968 7079565 w 561 ls [.int (iI 1)] := by
    intro w ls _
    intro H locs la h1 h2 h3
    exact va_forget (fun q hq => h2.2.2 q hq) (lw_ret hx hb hr hlocks dL_law_561)
  have key : Gd p l e room_1 s m #[Value.ref b] below meth c D s.heap.size (lw_Z below #[Value.ref b] s) 0 0 (fun _ => none) 0 [some (.ref b), none, none, none, none, none, none, none, none, none, none, none, none] [] := by
    refine gd_new (ci := 4) (Cn := RX4) (T := TX4) (N := 5) (fs := [.null, .null, .null, .int 0, .int 0]) C rfl inlX4 tyX4 tyX4_ok (by decide +kernel) (by decide +kernel) (by decide +kernel) (fun j hj => by rcases (show j = 0 ∨ j = 1 ∨ j = 2 ∨ j = 3 ∨ j = 4 by omega) with rfl | rfl | rfl | rfl | rfl <;> rfl) ⟨by decide, by decide⟩ dL_law_0 (fun a1 ha1 => ?_)
    refine gd_dup C dL_law_3 rfl ?_
    refine gd_callIA (n := 0) C hO (kX4_initF hl (wU_s _ _ _)) gL_law_X4_init rfl rfl (by decide +kernel) (by decide +kernel) (by decide +kernel) ⟨by decide, by decide, by decide +kernel⟩ rfl rfl (Nat.le_of_ble_eq_true rfl) rfl dL_law_4 ⟨⟨by decide, by decide⟩, by decide, by decide⟩ ?_
    rintro r1 w1 ⟨rfl, g, t, ar, d, q, nb, fb, ac, ab, hW, hD, -, -⟩
    refine gd_astore_n C dL_law_7 (Nat.le_of_ble_eq_true rfl) ?_
    refine gd_new (ci := 4) (Cn := RX4) (T := TX4) (N := 5) (fs := [.null, .null, .null, .int 0, .int 0]) C rfl inlX4 tyX4 tyX4_ok (by decide +kernel) (by decide +kernel) (by decide +kernel) (fun j hj => by rcases (show j = 0 ∨ j = 1 ∨ j = 2 ∨ j = 3 ∨ j = 4 by omega) with rfl | rfl | rfl | rfl | rfl <;> rfl) ⟨by decide, by decide⟩ dL_law_8 (fun b1 hb1 => ?_)
    refine gd_dup C dL_law_11 rfl ?_
    refine gd_callIA (n := 0) C hO (kX4_initF hl (wU_s _ _ _)) gL_law_X4_init rfl rfl (by decide +kernel) (by decide +kernel) (by decide +kernel) ⟨by decide, by decide, by decide +kernel⟩ rfl rfl (Nat.le_of_ble_eq_true rfl) rfl dL_law_12 ⟨⟨by decide, by decide⟩, by decide, by decide⟩ ?_
    rintro r2 w3 ⟨rfl, g2, t2, ar2, d2, q2, nb2, fb2, ac2, ab2, hW2, hD2, hK, hO2⟩
    refine gd_astore_n C dL_law_15 (Nat.le_of_ble_eq_true rfl) ?_
    have hV1 : VW w1 ky a1 _ _ _ _ _ _ _ _ _ _ _ _ := ⟨g, t, ar, d, ac, ab, _, _, _, hW, hD, rfl⟩
    have hV2 : VW w3 ky b1 _ _ _ _ _ _ _ _ _ _ _ _ := ⟨g2, t2, ar2, d2, ac2, ab2, _, _, _, hW2, hD2, rfl⟩
    have k1 : ∀ y u, w1 y = some u → w3 y = some u := fun y u hy => hK y u (new_at hb1 hy) (new_ne hb1 hy)
    have hV1' := hV1.kp (fun y u hy _ => k1 y u hy)
    have hA : ∀ y, OWN a1 g t ar d ac ab (fun _ => q) (fun _ => nb) (fun _ => fb) 1 y → OWN b1 g2 t2 ar2 d2 ac2 ab2 (fun _ => q2) (fun _ => nb2) (fun _ => fb2) 1 y → False := fun y h1 h2 => by
      obtain ⟨u, hu⟩ := hV1.has h1
      exact hO2 y u (new_at hb1 hu) (new_ne hb1 hu) h2
    have hTI : ∀ mo, TI w3 ky a1 b1 mo 0 := fun mo => ⟨_, _, _, _, _, _, _, _, _, _, _, _, _, _, _, _, _, _, _, hV1', hV2, hA, FS0, SIM0 mo, NI0, NI0⟩
    refine gd_bipush C dL_law_16 (by decide) ?_
    refine gd_iconst C dL_law_18 ?_
    refine gd_aload_n C dL_law_19 rfl ?_
    refine gd_iconst C dL_law_20 ?_
    refine gd_callX (n := 2) (maxL := 3) C hX hbl (Nat.not_le.mpr hbl) (kL_drawn hl (Nat.not_le.mpr hbl) (by omega) (i := 0) (by decide)) gL_law_L_drawn rfl ⟨by decide, by decide, by decide +kernel⟩ rfl rfl (Nat.le_of_ble_eq_true rfl) rfl dL_law_21 ⟨⟨by decide, by decide⟩, by decide, by decide⟩ ?_
    rintro _ _ ⟨rfl, x, rfl, hx0, hx1⟩
    refine gd_bipush C dL_law_24 (by decide) ?_
    refine gd_irem C dL_law_26 ?_ ?_
    · omega
    refine gd_iadd C dL_law_27 ?_
    refine gd_imul C dL_law_28 ?_
    refine gd_istore_n C dL_law_29 (Nat.le_of_ble_eq_true rfl) ?_
    refine gd_iconst C dL_law_30 ?_
    refine gd_istore C dL_law_31 (Nat.le_of_ble_eq_true rfl) ?_
    refine gd_iconst C dL_law_33 ?_
    refine gd_istore C dL_law_34 (Nat.le_of_ble_eq_true rfl) ?_
    have h8 := law_loop (e := e) (below := below) hl C hNC hX hbl (Nat.not_le.mpr hbl) (by omega : L ≤ 2048) (a := a1) (b := b1) (mo := 16 * (1 + x % 40)) ⟨1 + x % 40, rfl⟩ (by omega) (c0 := 100) (s0 := 4000) ⟨by decide, by decide⟩ hend 119 1 w3 rfl (Nat.le_refl 1) (hTI _)
    exact Gd.widen (by decide) (by decide) h8
  rw [lg_entry_eq]
  exact key s.heap [] _ ⟨Nat.le_refl _, fun a x h => by cases h⟩ va_S.rf (lh_entry [.ref b] 13 (by intro v hv; simp at hv; rcases hv with rfl; rfl) (Nat.le_of_ble_eq_true rfl))
