set_option maxRecDepth 100000 in
set_option maxHeartbeats 4000000 in
theorem kL_create {l : Launch} {D : va_G} {ky : Nat → ClassId} {z : Nat} {w : WT} (hl : l.stackTraces = false) {b ao : Nat} {q : Int} {f : Nat → Int64} {P0 : Option Value → WT → Prop} {XP : String → Prop} (hM : Mt l D ky z yX4_create wsX4_create { frames := 8, cells := 6, slots := 33, locals := 132 } [.ref b, .int (iI q)] w P0 XP) (hb : ∃ fs, w b = some (oB 4 fs)) (hP : ∀ r w1, P0 r w1 → (∃ x1 : Int, r = some (.int (iI x1))) ∧ w1 ao = some (lA (ky 3) 1 f)) (hX : ∀ E, XP E → E = "java/lang/IllegalArgumentException" ∨ E = "java/lang/IllegalStateException") : MtW l D ky z yL_create wsL_create { frames := 9, cells := 6, slots := 33, locals := 154 } [.ref b, .int (iI q), .ref ao] w (fun r w' => (r = some (.int (iI 0)) ∧ ∃ x1 w1 f', P0 (some (.int (iI x1))) w1 ∧ f' 0 = (iI x1).toInt64 ∧ w' = wU w1 ao (lA (ky 3) 1 f')) ∨ (w = w' ∧ ((r = some (.int (iI 1)) ∧ XP "java/lang/IllegalArgumentException") ∨ (r = some (.int (iI 2)) ∧ XP "java/lang/IllegalStateException")))) := by
  refine MtW.of (cc := cL_create) (ret := (some .int)) (maxL := 4) (hh := [(0, 9, 12, 13), (0, 9, 15, 15)]) (by decide) rfl (by intro v hv; simp at hv; rcases hv with rfl | rfl | rfl <;> rfl) (Nat.le_of_ble_eq_true rfl) ?_ hl
  intro p e s m args below meth c C hNC ht hret Q hQ
  refine gd_aload_n C dL_create_0 rfl ?_
  refine gd_iconst C dL_create_1 ?_
  refine gd_aload_n C dL_create_2 rfl ?_
  refine gd_iload_n C dL_create_3 rfl ?_
  refine gd_callV (n := 1) (ci := 4) (Cn := RX4) (T := TX4) (N := 5) C (hM) ?_ rfl gL_create_X4_create rfl ⟨rfl, by decide, by decide, by decide +kernel⟩ rfl rfl (Nat.le_of_ble_eq_true rfl) rfl dL_create_4 ⟨⟨by decide, by decide⟩, by decide, by decide⟩ ?_ ?_
  · exact hb
  · intro E hE
    rcases hX E hE with rfl | rfl
    · refine gx_catch C (name := "java/lang/IllegalArgumentException") [] ⟨0, 9, 12, 13⟩ [⟨0, 9, 15, 15⟩] ht (fun _ h => absurd h List.not_mem_nil) (by decide) (by decide) (by decide +kernel) (by decide) (fun q9 => ?_)
      refine gd_astore_n C dL_create_12 (Nat.le_of_ble_eq_true rfl) ?_
      refine gd_iconst C dL_create_13 ?_
      refine gd_iret C hQ hret dL_create_14 ?_ ?_
      · exact Or.inr ⟨rfl, Or.inl ⟨rfl, hE⟩⟩
      · decide
    · refine gx_catch C (name := "java/lang/IllegalStateException") [⟨0, 9, 12, 13⟩] ⟨0, 9, 15, 15⟩ [] ht (fun z hz => by rw [List.mem_singleton.mp hz]; exact Or.inr ⟨by decide, "java/lang/IllegalArgumentException", by decide +kernel, hNC.1⟩) (by decide) (by decide) (by decide +kernel) (by decide) (fun q9 => ?_)
      refine gd_astore_n C dL_create_15 (Nat.le_of_ble_eq_true rfl) ?_
      refine gd_iconst C dL_create_16 ?_
      refine gd_iret C hQ hret dL_create_17 ?_ ?_
      · exact Or.inr ⟨rfl, Or.inr ⟨rfl, hE⟩⟩
      · decide
  intro r1 w1 hP1
  obtain ⟨⟨x1, rfl⟩, ho1⟩ := hP r1 w1 hP1
  refine gd_i2l C dL_create_7 ?_
  refine gd_last C dL_create_8 ho1 (fun f' hf' => ?_)
  refine gd_goto (tgt := 18) C dL_create_9 (by decide) ?_
  refine gd_iconst C dL_create_18 ?_
  refine gd_iret C hQ hret dL_create_19 ?_ ?_
  · exact Or.inl ⟨rfl, x1, w1, f', hP1, hf', rfl⟩
  · decide

set_option maxRecDepth 100000 in
set_option maxHeartbeats 4000000 in
theorem kL_open {l : Launch} {D : va_G} {ky : Nat → ClassId} {z : Nat} {w : WT} (hl : l.stackTraces = false) {b ao : Nat} {q : Int} {f : Nat → Int64} {P0 : Option Value → WT → Prop} {XP : String → Prop} (hM : Mt l D ky z yX4_open wsX4_open { frames := 8, cells := 3, slots := 18, locals := 132 } [.ref b, .int (iI q)] w P0 XP) (hb : ∃ fs, w b = some (oB 4 fs)) (hP : ∀ r w1, P0 r w1 → (∃ x1 : Int, r = some (.int (iI x1))) ∧ w1 ao = some (lA (ky 3) 1 f)) (hX : ∀ E, XP E → E = "java/lang/IllegalArgumentException" ∨ E = "java/lang/IllegalStateException") : MtW l D ky z yL_open wsL_open { frames := 9, cells := 3, slots := 18, locals := 154 } [.ref b, .int (iI q), .ref ao] w (fun r w' => (r = some (.int (iI 0)) ∧ ∃ x1 w1 f', P0 (some (.int (iI x1))) w1 ∧ f' 0 = (iI x1).toInt64 ∧ w' = wU w1 ao (lA (ky 3) 1 f')) ∨ (w = w' ∧ ((r = some (.int (iI 1)) ∧ XP "java/lang/IllegalArgumentException") ∨ (r = some (.int (iI 2)) ∧ XP "java/lang/IllegalStateException")))) := by
  refine MtW.of (cc := cL_open) (ret := (some .int)) (maxL := 4) (hh := [(0, 9, 12, 13), (0, 9, 15, 15)]) (by decide) rfl (by intro v hv; simp at hv; rcases hv with rfl | rfl | rfl <;> rfl) (Nat.le_of_ble_eq_true rfl) ?_ hl
  intro p e s m args below meth c C hNC ht hret Q hQ
  refine gd_aload_n C dL_open_0 rfl ?_
  refine gd_iconst C dL_open_1 ?_
  refine gd_aload_n C dL_open_2 rfl ?_
  refine gd_iload_n C dL_open_3 rfl ?_
  refine gd_callV (n := 1) (ci := 4) (Cn := RX4) (T := TX4) (N := 5) C (hM) ?_ rfl gL_open_X4_open rfl ⟨rfl, by decide, by decide, by decide +kernel⟩ rfl rfl (Nat.le_of_ble_eq_true rfl) rfl dL_open_4 ⟨⟨by decide, by decide⟩, by decide, by decide⟩ ?_ ?_
  · exact hb
  · intro E hE
    rcases hX E hE with rfl | rfl
    · refine gx_catch C (name := "java/lang/IllegalArgumentException") [] ⟨0, 9, 12, 13⟩ [⟨0, 9, 15, 15⟩] ht (fun _ h => absurd h List.not_mem_nil) (by decide) (by decide) (by decide +kernel) (by decide) (fun q9 => ?_)
      refine gd_astore_n C dL_open_12 (Nat.le_of_ble_eq_true rfl) ?_
      refine gd_iconst C dL_open_13 ?_
      refine gd_iret C hQ hret dL_open_14 ?_ ?_
      · exact Or.inr ⟨rfl, Or.inl ⟨rfl, hE⟩⟩
      · decide
    · refine gx_catch C (name := "java/lang/IllegalStateException") [⟨0, 9, 12, 13⟩] ⟨0, 9, 15, 15⟩ [] ht (fun z hz => by rw [List.mem_singleton.mp hz]; exact Or.inr ⟨by decide, "java/lang/IllegalArgumentException", by decide +kernel, hNC.1⟩) (by decide) (by decide) (by decide +kernel) (by decide) (fun q9 => ?_)
      refine gd_astore_n C dL_open_15 (Nat.le_of_ble_eq_true rfl) ?_
      refine gd_iconst C dL_open_16 ?_
      refine gd_iret C hQ hret dL_open_17 ?_ ?_
      · exact Or.inr ⟨rfl, Or.inr ⟨rfl, hE⟩⟩
      · decide
  intro r1 w1 hP1
  obtain ⟨⟨x1, rfl⟩, ho1⟩ := hP r1 w1 hP1
  refine gd_i2l C dL_open_7 ?_
  refine gd_last C dL_open_8 ho1 (fun f' hf' => ?_)
  refine gd_goto (tgt := 18) C dL_open_9 (by decide) ?_
  refine gd_iconst C dL_open_18 ?_
  refine gd_iret C hQ hret dL_open_19 ?_ ?_
  · exact Or.inl ⟨rfl, x1, w1, f', hP1, hf', rfl⟩
  · decide

set_option maxRecDepth 100000 in
set_option maxHeartbeats 4000000 in
theorem kL_close {l : Launch} {D : va_G} {ky : Nat → ClassId} {z : Nat} {w : WT} (hl : l.stackTraces = false) {b ao : Nat} {q : Int} {f : Nat → Int64} {P0 : Option Value → WT → Prop} {XP : String → Prop} (hM : Mt l D ky z yX4_close wsX4_close { frames := 7, cells := 3, slots := 18, locals := 154 } [.ref b, .int (iI q)] w P0 XP) (hb : ∃ fs, w b = some (oB 4 fs)) (hP : ∀ r w1, P0 r w1 → (∃ x1 : Int, r = some (.int (iI x1))) ∧ w1 ao = some (lA (ky 3) 1 f)) (hX : ∀ E, XP E → E = "java/lang/IndexOutOfBoundsException" ∨ E = "java/lang/IllegalStateException") : MtW l D ky z yL_close wsL_close { frames := 8, cells := 3, slots := 18, locals := 176 } [.ref b, .int (iI q), .ref ao] w (fun r w' => (r = some (.int (iI 0)) ∧ ∃ x1 w1 f', P0 (some (.int (iI x1))) w1 ∧ f' 0 = (iI x1).toInt64 ∧ w' = wU w1 ao (lA (ky 3) 1 f')) ∨ (w = w' ∧ ((r = some (.int (iI 1)) ∧ XP "java/lang/IndexOutOfBoundsException") ∨ (r = some (.int (iI 2)) ∧ XP "java/lang/IllegalStateException")))) := by
  refine MtW.of (cc := cL_close) (ret := (some .int)) (maxL := 4) (hh := [(0, 9, 12, 23), (0, 9, 15, 15)]) (by decide) rfl (by intro v hv; simp at hv; rcases hv with rfl | rfl | rfl <;> rfl) (Nat.le_of_ble_eq_true rfl) ?_ hl
  intro p e s m args below meth c C hNC ht hret Q hQ
  refine gd_aload_n C dL_close_0 rfl ?_
  refine gd_iconst C dL_close_1 ?_
  refine gd_aload_n C dL_close_2 rfl ?_
  refine gd_iload_n C dL_close_3 rfl ?_
  refine gd_callV (n := 1) (ci := 4) (Cn := RX4) (T := TX4) (N := 5) C (hM) ?_ rfl gL_close_X4_close rfl ⟨rfl, by decide, by decide, by decide +kernel⟩ rfl rfl (Nat.le_of_ble_eq_true rfl) rfl dL_close_4 ⟨⟨by decide, by decide⟩, by decide, by decide⟩ ?_ ?_
  · exact hb
  · intro E hE
    rcases hX E hE with rfl | rfl
    · refine gx_catch C (name := "java/lang/IndexOutOfBoundsException") [] ⟨0, 9, 12, 23⟩ [⟨0, 9, 15, 15⟩] ht (fun _ h => absurd h List.not_mem_nil) (by decide) (by decide) (by decide +kernel) (by decide) (fun q9 => ?_)
      refine gd_astore_n C dL_close_12 (Nat.le_of_ble_eq_true rfl) ?_
      refine gd_iconst C dL_close_13 ?_
      refine gd_iret C hQ hret dL_close_14 ?_ ?_
      · exact Or.inr ⟨rfl, Or.inl ⟨rfl, hE⟩⟩
      · decide
    · refine gx_catch C (name := "java/lang/IllegalStateException") [⟨0, 9, 12, 23⟩] ⟨0, 9, 15, 15⟩ [] ht (fun z hz => by rw [List.mem_singleton.mp hz]; exact Or.inr ⟨by decide, "java/lang/IndexOutOfBoundsException", by decide +kernel, hNC.2.1⟩) (by decide) (by decide) (by decide +kernel) (by decide) (fun q9 => ?_)
      refine gd_astore_n C dL_close_15 (Nat.le_of_ble_eq_true rfl) ?_
      refine gd_iconst C dL_close_16 ?_
      refine gd_iret C hQ hret dL_close_17 ?_ ?_
      · exact Or.inr ⟨rfl, Or.inr ⟨rfl, hE⟩⟩
      · decide
  intro r1 w1 hP1
  obtain ⟨⟨x1, rfl⟩, ho1⟩ := hP r1 w1 hP1
  refine gd_i2l C dL_close_7 ?_
  refine gd_last C dL_close_8 ho1 (fun f' hf' => ?_)
  refine gd_goto (tgt := 18) C dL_close_9 (by decide) ?_
  refine gd_iconst C dL_close_18 ?_
  refine gd_iret C hQ hret dL_close_19 ?_ ?_
  · exact Or.inl ⟨rfl, x1, w1, f', hP1, hf', rfl⟩
  · decide

set_option maxRecDepth 100000 in
set_option maxHeartbeats 4000000 in
theorem kL_delete {l : Launch} {D : va_G} {ky : Nat → ClassId} {z : Nat} {w : WT} (hl : l.stackTraces = false) {b ao : Nat} {q : Int} {f : Nat → Int64} {P0 : Option Value → WT → Prop} {XP : String → Prop} (hM : Mt l D ky z yX4_delete wsX4_delete { frames := 8, cells := 3, slots := 18, locals := 154 } [.ref b, .int (iI q)] w P0 XP) (hb : ∃ fs, w b = some (oB 4 fs)) (hP : ∀ r w1, P0 r w1 → (∃ x1 : Int, r = some (.int (iI x1))) ∧ w1 ao = some (lA (ky 3) 1 f)) (hX : ∀ E, XP E → E = "java/lang/IllegalArgumentException" ∨ E = "java/lang/IllegalStateException") : MtW l D ky z yL_delete wsL_delete { frames := 9, cells := 3, slots := 18, locals := 177 } [.ref b, .int (iI q), .ref ao] w (fun r w' => (r = some (.int (iI 0)) ∧ ∃ x1 w1 f', P0 (some (.int (iI x1))) w1 ∧ f' 0 = (iI x1).toInt64 ∧ w' = wU w1 ao (lA (ky 3) 1 f')) ∨ (w = w' ∧ ((r = some (.int (iI 1)) ∧ XP "java/lang/IllegalArgumentException") ∨ (r = some (.int (iI 2)) ∧ XP "java/lang/IllegalStateException")))) := by
  refine MtW.of (cc := cL_delete) (ret := (some .int)) (maxL := 4) (hh := [(0, 9, 12, 13), (0, 9, 15, 15)]) (by decide) rfl (by intro v hv; simp at hv; rcases hv with rfl | rfl | rfl <;> rfl) (Nat.le_of_ble_eq_true rfl) ?_ hl
  intro p e s m args below meth c C hNC ht hret Q hQ
  refine gd_aload_n C dL_delete_0 rfl ?_
  refine gd_iconst C dL_delete_1 ?_
  refine gd_aload_n C dL_delete_2 rfl ?_
  refine gd_iload_n C dL_delete_3 rfl ?_
  refine gd_callV (n := 1) (ci := 4) (Cn := RX4) (T := TX4) (N := 5) C (hM) ?_ rfl gL_delete_X4_delete rfl ⟨rfl, by decide, by decide, by decide +kernel⟩ rfl rfl (Nat.le_of_ble_eq_true rfl) rfl dL_delete_4 ⟨⟨by decide, by decide⟩, by decide, by decide⟩ ?_ ?_
  · exact hb
  · intro E hE
    rcases hX E hE with rfl | rfl
    · refine gx_catch C (name := "java/lang/IllegalArgumentException") [] ⟨0, 9, 12, 13⟩ [⟨0, 9, 15, 15⟩] ht (fun _ h => absurd h List.not_mem_nil) (by decide) (by decide) (by decide +kernel) (by decide) (fun q9 => ?_)
      refine gd_astore_n C dL_delete_12 (Nat.le_of_ble_eq_true rfl) ?_
      refine gd_iconst C dL_delete_13 ?_
      refine gd_iret C hQ hret dL_delete_14 ?_ ?_
      · exact Or.inr ⟨rfl, Or.inl ⟨rfl, hE⟩⟩
      · decide
    · refine gx_catch C (name := "java/lang/IllegalStateException") [⟨0, 9, 12, 13⟩] ⟨0, 9, 15, 15⟩ [] ht (fun z hz => by rw [List.mem_singleton.mp hz]; exact Or.inr ⟨by decide, "java/lang/IllegalArgumentException", by decide +kernel, hNC.1⟩) (by decide) (by decide) (by decide +kernel) (by decide) (fun q9 => ?_)
      refine gd_astore_n C dL_delete_15 (Nat.le_of_ble_eq_true rfl) ?_
      refine gd_iconst C dL_delete_16 ?_
      refine gd_iret C hQ hret dL_delete_17 ?_ ?_
      · exact Or.inr ⟨rfl, Or.inr ⟨rfl, hE⟩⟩
      · decide
  intro r1 w1 hP1
  obtain ⟨⟨x1, rfl⟩, ho1⟩ := hP r1 w1 hP1
  refine gd_i2l C dL_delete_7 ?_
  refine gd_last C dL_delete_8 ho1 (fun f' hf' => ?_)
  refine gd_goto (tgt := 18) C dL_delete_9 (by decide) ?_
  refine gd_iconst C dL_delete_18 ?_
  refine gd_iret C hQ hret dL_delete_19 ?_ ?_
  · exact Or.inl ⟨rfl, x1, w1, f', hP1, hf', rfl⟩
  · decide

set_option maxRecDepth 100000 in
set_option maxHeartbeats 4000000 in
theorem kL_write {l : Launch} {D : va_G} {ky : Nat → ClassId} {z : Nat} {w : WT} (hl : l.stackTraces = false) {b ao : Nat} {q x k : Int} {f : Nat → Int64} {P0 : Option Value → WT → Prop} {XP : String → Prop} (hM : Mt l D ky z yX4_write wsX4_write { frames := 7, cells := 5, slots := 30, locals := 112 } [.ref b, .int (iI q), .int (iI x), .int (iI k)] w P0 XP) (hb : ∃ fs, w b = some (oB 4 fs)) (hP : ∀ r w1, P0 r w1 → (∃ x1 : Int, r = some (.int (iI x1))) ∧ w1 ao = some (lA (ky 3) 1 f)) (hX : ∀ E, XP E → E = "java/lang/IndexOutOfBoundsException" ∨ E = "java/lang/IllegalArgumentException" ∨ E = "java/lang/IllegalStateException") : MtW l D ky z yL_write wsL_write { frames := 8, cells := 5, slots := 30, locals := 137 } [.ref b, .int (iI q), .int (iI x), .int (iI k), .ref ao] w (fun r w' => (r = some (.int (iI 0)) ∧ ∃ x1 w1 f', P0 (some (.int (iI x1))) w1 ∧ f' 0 = (iI x1).toInt64 ∧ w' = wU w1 ao (lA (ky 3) 1 f')) ∨ (w = w' ∧ ((r = some (.int (iI 1)) ∧ XP "java/lang/IndexOutOfBoundsException") ∨ (r = some (.int (iI 2)) ∧ XP "java/lang/IllegalArgumentException") ∨ (r = some (.int (iI 3)) ∧ XP "java/lang/IllegalStateException")))) := by
  refine MtW.of (cc := cL_write) (ret := (some .int)) (maxL := 6) (hh := [(0, 12, 15, 23), (0, 12, 19, 13), (0, 12, 23, 15)]) (by decide) rfl (by intro v hv; simp at hv; rcases hv with rfl | rfl | rfl | rfl | rfl <;> rfl) (Nat.le_of_ble_eq_true rfl) ?_ hl
  intro p e s m args below meth c C hNC ht hret Q hQ
  refine gd_aload C dL_write_0 rfl ?_
  refine gd_iconst C dL_write_2 ?_
  refine gd_aload_n C dL_write_3 rfl ?_
  refine gd_iload_n C dL_write_4 rfl ?_
  refine gd_iload_n C dL_write_5 rfl ?_
  refine gd_iload_n C dL_write_6 rfl ?_
  refine gd_callV (n := 3) (ci := 4) (Cn := RX4) (T := TX4) (N := 5) C (hM) ?_ rfl gL_write_X4_write rfl ⟨rfl, by decide, by decide, by decide +kernel⟩ rfl rfl (Nat.le_of_ble_eq_true rfl) rfl dL_write_7 ⟨⟨by decide, by decide⟩, by decide, by decide⟩ ?_ ?_
  · exact hb
  · intro E hE
    rcases hX E hE with rfl | rfl | rfl
    · refine gx_catch C (name := "java/lang/IndexOutOfBoundsException") [] ⟨0, 12, 15, 23⟩ [⟨0, 12, 19, 13⟩, ⟨0, 12, 23, 15⟩] ht (fun _ h => absurd h List.not_mem_nil) (by decide) (by decide) (by decide +kernel) (by decide) (fun q9 => ?_)
      refine gd_astore C dL_write_15 (Nat.le_of_ble_eq_true rfl) ?_
      refine gd_iconst C dL_write_17 ?_
      refine gd_iret C hQ hret dL_write_18 ?_ ?_
      · exact Or.inr ⟨rfl, Or.inl ⟨rfl, hE⟩⟩
      · decide
    · refine gx_catch C (name := "java/lang/IllegalArgumentException") [⟨0, 12, 15, 23⟩] ⟨0, 12, 19, 13⟩ [⟨0, 12, 23, 15⟩] ht (fun z hz => by rw [List.mem_singleton.mp hz]; exact Or.inr ⟨by decide, "java/lang/IndexOutOfBoundsException", by decide +kernel, hNC.2.2⟩) (by decide) (by decide) (by decide +kernel) (by decide) (fun q9 => ?_)
      refine gd_astore C dL_write_19 (Nat.le_of_ble_eq_true rfl) ?_
      refine gd_iconst C dL_write_21 ?_
      refine gd_iret C hQ hret dL_write_22 ?_ ?_
      · exact Or.inr ⟨rfl, Or.inr (Or.inl ⟨rfl, hE⟩)⟩
      · decide
    · refine gx_catch C (name := "java/lang/IllegalStateException") [⟨0, 12, 15, 23⟩, ⟨0, 12, 19, 13⟩] ⟨0, 12, 23, 15⟩ [] ht (fun z hz => by rcases List.mem_cons.mp hz with rfl | hz; exact Or.inr ⟨by decide, "java/lang/IndexOutOfBoundsException", by decide +kernel, hNC.2.1⟩; rw [List.mem_singleton.mp hz]; exact Or.inr ⟨by decide, "java/lang/IllegalArgumentException", by decide +kernel, hNC.1⟩) (by decide) (by decide) (by decide +kernel) (by decide) (fun q9 => ?_)
      refine gd_astore C dL_write_23 (Nat.le_of_ble_eq_true rfl) ?_
      refine gd_iconst C dL_write_25 ?_
      refine gd_iret C hQ hret dL_write_26 ?_ ?_
      · exact Or.inr ⟨rfl, Or.inr (Or.inr ⟨rfl, hE⟩)⟩
      · decide
  intro r1 w1 hP1
  obtain ⟨⟨x1, rfl⟩, ho1⟩ := hP r1 w1 hP1
  refine gd_i2l C dL_write_10 ?_
  refine gd_last C dL_write_11 ho1 (fun f' hf' => ?_)
  refine gd_goto (tgt := 27) C dL_write_12 (by decide) ?_
  refine gd_iconst C dL_write_27 ?_
  refine gd_iret C hQ hret dL_write_28 ?_ ?_
  · exact Or.inl ⟨rfl, x1, w1, f', hP1, hf', rfl⟩
  · decide

set_option maxRecDepth 100000 in
set_option maxHeartbeats 4000000 in
theorem kL_flush {l : Launch} {D : va_G} {ky : Nat → ClassId} {z : Nat} {w : WT} (hl : l.stackTraces = false) {b ao : Nat} {q : Int} {f : Nat → Int64} {P0 : Option Value → WT → Prop} {XP : String → Prop} (hM : Mt l D ky z yX4_flush wsX4_flush { frames := 7, cells := 2, slots := 12, locals := 147 } [.ref b, .int (iI q)] w P0 XP) (hb : ∃ fs, w b = some (oB 4 fs)) (hP : ∀ r w1, P0 r w1 → (∃ x1 : Int, r = some (.int (iI x1))) ∧ w1 ao = some (lA (ky 3) 1 f)) (hX : ∀ E, XP E → E = "java/lang/IndexOutOfBoundsException" ∨ E = "java/lang/IllegalStateException") : MtW l D ky z yL_flush wsL_flush { frames := 8, cells := 2, slots := 12, locals := 171 } [.ref b, .int (iI q), .ref ao] w (fun r w' => (r = some (.int (iI 0)) ∧ ∃ x1 w1 f', P0 (some (.int (iI x1))) w1 ∧ f' 0 = (iI x1).toInt64 ∧ w' = wU w1 ao (lA (ky 3) 1 f')) ∨ (w = w' ∧ ((r = some (.int (iI 1)) ∧ XP "java/lang/IndexOutOfBoundsException") ∨ (r = some (.int (iI 2)) ∧ XP "java/lang/IllegalStateException")))) := by
  refine MtW.of (cc := cL_flush) (ret := (some .int)) (maxL := 4) (hh := [(0, 9, 12, 23), (0, 9, 15, 15)]) (by decide) rfl (by intro v hv; simp at hv; rcases hv with rfl | rfl | rfl <;> rfl) (Nat.le_of_ble_eq_true rfl) ?_ hl
  intro p e s m args below meth c C hNC ht hret Q hQ
  refine gd_aload_n C dL_flush_0 rfl ?_
  refine gd_iconst C dL_flush_1 ?_
  refine gd_aload_n C dL_flush_2 rfl ?_
  refine gd_iload_n C dL_flush_3 rfl ?_
  refine gd_callV (n := 1) (ci := 4) (Cn := RX4) (T := TX4) (N := 5) C (hM) ?_ rfl gL_flush_X4_flush rfl ⟨rfl, by decide, by decide, by decide +kernel⟩ rfl rfl (Nat.le_of_ble_eq_true rfl) rfl dL_flush_4 ⟨⟨by decide, by decide⟩, by decide, by decide⟩ ?_ ?_
  · exact hb
  · intro E hE
    rcases hX E hE with rfl | rfl
    · refine gx_catch C (name := "java/lang/IndexOutOfBoundsException") [] ⟨0, 9, 12, 23⟩ [⟨0, 9, 15, 15⟩] ht (fun _ h => absurd h List.not_mem_nil) (by decide) (by decide) (by decide +kernel) (by decide) (fun q9 => ?_)
      refine gd_astore_n C dL_flush_12 (Nat.le_of_ble_eq_true rfl) ?_
      refine gd_iconst C dL_flush_13 ?_
      refine gd_iret C hQ hret dL_flush_14 ?_ ?_
      · exact Or.inr ⟨rfl, Or.inl ⟨rfl, hE⟩⟩
      · decide
    · refine gx_catch C (name := "java/lang/IllegalStateException") [⟨0, 9, 12, 23⟩] ⟨0, 9, 15, 15⟩ [] ht (fun z hz => by rw [List.mem_singleton.mp hz]; exact Or.inr ⟨by decide, "java/lang/IndexOutOfBoundsException", by decide +kernel, hNC.2.1⟩) (by decide) (by decide) (by decide +kernel) (by decide) (fun q9 => ?_)
      refine gd_astore_n C dL_flush_15 (Nat.le_of_ble_eq_true rfl) ?_
      refine gd_iconst C dL_flush_16 ?_
      refine gd_iret C hQ hret dL_flush_17 ?_ ?_
      · exact Or.inr ⟨rfl, Or.inr ⟨rfl, hE⟩⟩
      · decide
  intro r1 w1 hP1
  obtain ⟨⟨x1, rfl⟩, ho1⟩ := hP r1 w1 hP1
  refine gd_i2l C dL_flush_7 ?_
  refine gd_last C dL_flush_8 ho1 (fun f' hf' => ?_)
  refine gd_goto (tgt := 18) C dL_flush_9 (by decide) ?_
  refine gd_iconst C dL_flush_18 ?_
  refine gd_iret C hQ hret dL_flush_19 ?_ ?_
  · exact Or.inl ⟨rfl, x1, w1, f', hP1, hf', rfl⟩
  · decide

set_option maxRecDepth 100000 in
set_option maxHeartbeats 4000000 in
theorem kL_cut {l : Launch} {D : va_G} {ky : Nat → ClassId} {z : Nat} {w : WT} (hl : l.stackTraces = false) {b ao : Nat} {q x : Int} {f : Nat → Int64} {P0 : Option Value → WT → Prop} {XP : String → Prop} (hM : Mt l D ky z yX4_cut wsX4_cut { frames := 7, cells := 3, slots := 18, locals := 133 } [.ref b, .int (iI q), .int (iI x)] w P0 XP) (hb : ∃ fs, w b = some (oB 4 fs)) (hP : ∀ r w1, P0 r w1 → (∃ x1 : Int, r = some (.int (iI x1))) ∧ w1 ao = some (lA (ky 3) 1 f)) (hX : ∀ E, XP E → E = "java/lang/IndexOutOfBoundsException" ∨ E = "java/lang/IllegalArgumentException" ∨ E = "java/lang/IllegalStateException") : MtW l D ky z yL_cut wsL_cut { frames := 8, cells := 3, slots := 18, locals := 156 } [.ref b, .int (iI q), .int (iI x), .ref ao] w (fun r w' => (r = some (.int (iI 0)) ∧ ∃ x1 w1 f', P0 (some (.int (iI x1))) w1 ∧ f' 0 = (iI x1).toInt64 ∧ w' = wU w1 ao (lA (ky 3) 1 f')) ∨ (w = w' ∧ ((r = some (.int (iI 1)) ∧ XP "java/lang/IndexOutOfBoundsException") ∨ (r = some (.int (iI 2)) ∧ XP "java/lang/IllegalArgumentException") ∨ (r = some (.int (iI 3)) ∧ XP "java/lang/IllegalStateException")))) := by
  refine MtW.of (cc := cL_cut) (ret := (some .int)) (maxL := 5) (hh := [(0, 10, 13, 23), (0, 10, 17, 13), (0, 10, 21, 15)]) (by decide) rfl (by intro v hv; simp at hv; rcases hv with rfl | rfl | rfl | rfl <;> rfl) (Nat.le_of_ble_eq_true rfl) ?_ hl
  intro p e s m args below meth c C hNC ht hret Q hQ
  refine gd_aload_n C dL_cut_0 rfl ?_
  refine gd_iconst C dL_cut_1 ?_
  refine gd_aload_n C dL_cut_2 rfl ?_
  refine gd_iload_n C dL_cut_3 rfl ?_
  refine gd_iload_n C dL_cut_4 rfl ?_
  refine gd_callV (n := 2) (ci := 4) (Cn := RX4) (T := TX4) (N := 5) C (hM) ?_ rfl gL_cut_X4_cut rfl ⟨rfl, by decide, by decide, by decide +kernel⟩ rfl rfl (Nat.le_of_ble_eq_true rfl) rfl dL_cut_5 ⟨⟨by decide, by decide⟩, by decide, by decide⟩ ?_ ?_
  · exact hb
  · intro E hE
    rcases hX E hE with rfl | rfl | rfl
    · refine gx_catch C (name := "java/lang/IndexOutOfBoundsException") [] ⟨0, 10, 13, 23⟩ [⟨0, 10, 17, 13⟩, ⟨0, 10, 21, 15⟩] ht (fun _ h => absurd h List.not_mem_nil) (by decide) (by decide) (by decide +kernel) (by decide) (fun q9 => ?_)
      refine gd_astore C dL_cut_13 (Nat.le_of_ble_eq_true rfl) ?_
      refine gd_iconst C dL_cut_15 ?_
      refine gd_iret C hQ hret dL_cut_16 ?_ ?_
      · exact Or.inr ⟨rfl, Or.inl ⟨rfl, hE⟩⟩
      · decide
    · refine gx_catch C (name := "java/lang/IllegalArgumentException") [⟨0, 10, 13, 23⟩] ⟨0, 10, 17, 13⟩ [⟨0, 10, 21, 15⟩] ht (fun z hz => by rw [List.mem_singleton.mp hz]; exact Or.inr ⟨by decide, "java/lang/IndexOutOfBoundsException", by decide +kernel, hNC.2.2⟩) (by decide) (by decide) (by decide +kernel) (by decide) (fun q9 => ?_)
      refine gd_astore C dL_cut_17 (Nat.le_of_ble_eq_true rfl) ?_
      refine gd_iconst C dL_cut_19 ?_
      refine gd_iret C hQ hret dL_cut_20 ?_ ?_
      · exact Or.inr ⟨rfl, Or.inr (Or.inl ⟨rfl, hE⟩)⟩
      · decide
    · refine gx_catch C (name := "java/lang/IllegalStateException") [⟨0, 10, 13, 23⟩, ⟨0, 10, 17, 13⟩] ⟨0, 10, 21, 15⟩ [] ht (fun z hz => by rcases List.mem_cons.mp hz with rfl | hz; exact Or.inr ⟨by decide, "java/lang/IndexOutOfBoundsException", by decide +kernel, hNC.2.1⟩; rw [List.mem_singleton.mp hz]; exact Or.inr ⟨by decide, "java/lang/IllegalArgumentException", by decide +kernel, hNC.1⟩) (by decide) (by decide) (by decide +kernel) (by decide) (fun q9 => ?_)
      refine gd_astore C dL_cut_21 (Nat.le_of_ble_eq_true rfl) ?_
      refine gd_iconst C dL_cut_23 ?_
      refine gd_iret C hQ hret dL_cut_24 ?_ ?_
      · exact Or.inr ⟨rfl, Or.inr (Or.inr ⟨rfl, hE⟩)⟩
      · decide
  intro r1 w1 hP1
  obtain ⟨⟨x1, rfl⟩, ho1⟩ := hP r1 w1 hP1
  refine gd_i2l C dL_cut_8 ?_
  refine gd_last C dL_cut_9 ho1 (fun f' hf' => ?_)
  refine gd_goto (tgt := 25) C dL_cut_10 (by decide) ?_
  refine gd_iconst C dL_cut_25 ?_
  refine gd_iret C hQ hret dL_cut_26 ?_ ?_
  · exact Or.inl ⟨rfl, x1, w1, f', hP1, hf', rfl⟩
  · decide

set_option maxRecDepth 100000 in
set_option maxHeartbeats 4000000 in
theorem kL_crashBehind {l : Launch} {D : va_G} {ky : Nat → ClassId} {z : Nat} {w : WT} (hl : l.stackTraces = false) {b : Nat} {q : Int} {P0 : Option Value → WT → Prop} {XP : String → Prop} (hM : Mt l D ky z yX4_crashBehind wsX4_crashBehind { frames := 7, cells := 2, slots := 12, locals := 112 } [.ref b, .int (iI q)] w P0 XP) (hb : ∃ fs, w b = some (oB 4 fs)) (hP : ∀ r w1, P0 r w1 → r = none) (hX : ∀ E, XP E → E = "java/lang/IllegalArgumentException" ∨ E = "java/lang/IllegalStateException") : MtW l D ky z yL_crashBehind wsL_crashBehind { frames := 8, cells := 2, slots := 12, locals := 133 } [.ref b, .int (iI q)] w (fun r w' => (r = some (.int (iI 0)) ∧ P0 none w') ∨ (w = w' ∧ ((r = some (.int (iI 1)) ∧ XP "java/lang/IllegalArgumentException") ∨ (r = some (.int (iI 2)) ∧ XP "java/lang/IllegalStateException")))) := by
  refine MtW.of (cc := cL_crashBehind) (ret := (some .int)) (maxL := 3) (hh := [(0, 5, 8, 13), (0, 5, 11, 15)]) (by decide) rfl (by intro v hv; simp at hv; rcases hv with rfl | rfl <;> rfl) (Nat.le_of_ble_eq_true rfl) ?_ hl
  intro p e s m args below meth c C hNC ht hret Q hQ
  refine gd_aload_n C dL_crashBehind_0 rfl ?_
  refine gd_iload_n C dL_crashBehind_1 rfl ?_
  refine gd_callV (n := 1) (ci := 4) (Cn := RX4) (T := TX4) (N := 5) C (hM) ?_ rfl gL_crashBehind_X4_crashBehind rfl ⟨rfl, by decide, by decide, by decide +kernel⟩ rfl rfl (Nat.le_of_ble_eq_true rfl) rfl dL_crashBehind_2 ⟨⟨by decide, by decide⟩, by decide, by decide⟩ ?_ ?_
  · exact hb
  · intro E hE
    rcases hX E hE with rfl | rfl
    · refine gx_catch C (name := "java/lang/IllegalArgumentException") [] ⟨0, 5, 8, 13⟩ [⟨0, 5, 11, 15⟩] ht (fun _ h => absurd h List.not_mem_nil) (by decide) (by decide) (by decide +kernel) (by decide) (fun q9 => ?_)
      refine gd_astore_n C dL_crashBehind_8 (Nat.le_of_ble_eq_true rfl) ?_
      refine gd_iconst C dL_crashBehind_9 ?_
      refine gd_iret C hQ hret dL_crashBehind_10 ?_ ?_
      · exact Or.inr ⟨rfl, Or.inl ⟨rfl, hE⟩⟩
      · decide
    · refine gx_catch C (name := "java/lang/IllegalStateException") [⟨0, 5, 8, 13⟩] ⟨0, 5, 11, 15⟩ [] ht (fun z hz => by rw [List.mem_singleton.mp hz]; exact Or.inr ⟨by decide, "java/lang/IllegalArgumentException", by decide +kernel, hNC.1⟩) (by decide) (by decide) (by decide +kernel) (by decide) (fun q9 => ?_)
      refine gd_astore_n C dL_crashBehind_11 (Nat.le_of_ble_eq_true rfl) ?_
      refine gd_iconst C dL_crashBehind_12 ?_
      refine gd_iret C hQ hret dL_crashBehind_13 ?_ ?_
      · exact Or.inr ⟨rfl, Or.inr ⟨rfl, hE⟩⟩
      · decide
  intro r1 w1 hP1
  obtain rfl := hP r1 w1 hP1
  refine gd_goto (tgt := 14) C dL_crashBehind_5 (by decide) ?_
  refine gd_iconst C dL_crashBehind_14 ?_
  refine gd_iret C hQ hret dL_crashBehind_15 ?_ ?_
  · exact Or.inl ⟨rfl, hP1⟩
  · decide

set_option maxRecDepth 100000 in
set_option maxHeartbeats 4000000 in
theorem kL_crash {l : Launch} {D : va_G} {ky : Nat → ClassId} {z : Nat} {w : WT} (hl : l.stackTraces = false) {b : Nat} {P0 : Option Value → WT → Prop} {XP : String → Prop} (hM : Mt l D ky z yX4_crash wsX4_crash { frames := 7, cells := 1, slots := 6, locals := 110 } [.ref b] w P0 XP) (hb : ∃ fs, w b = some (oB 4 fs)) (hP : ∀ r w1, P0 r w1 → r = none) (hX : ∀ E, XP E → E = "java/lang/IllegalStateException") : MtW l D ky z yL_crash wsL_crash { frames := 8, cells := 1, slots := 6, locals := 130 } [.ref b] w (fun r w' => (r = some (.int (iI 0)) ∧ P0 none w') ∨ (w = w' ∧ (r = some (.int (iI 1)) ∧ XP "java/lang/IllegalStateException"))) := by
  refine MtW.of (cc := cL_crash) (ret := (some .int)) (maxL := 2) (hh := [(0, 4, 7, 15)]) (by decide) rfl (by intro v hv; simp at hv; rcases hv with rfl <;> rfl) (Nat.le_of_ble_eq_true rfl) ?_ hl
  intro p e s m args below meth c C hNC ht hret Q hQ
  refine gd_aload_n C dL_crash_0 rfl ?_
  refine gd_callV (n := 0) (ci := 4) (Cn := RX4) (T := TX4) (N := 5) C (hM) ?_ rfl gL_crash_X4_crash rfl ⟨rfl, by decide, by decide, by decide +kernel⟩ rfl rfl (Nat.le_of_ble_eq_true rfl) rfl dL_crash_1 ⟨⟨by decide, by decide⟩, by decide, by decide⟩ ?_ ?_
  · exact hb
  · intro E hE
    obtain rfl := hX E hE
    refine gx_catch C (name := "java/lang/IllegalStateException") [] ⟨0, 4, 7, 15⟩ [] ht (fun _ h => absurd h List.not_mem_nil) (by decide) (by decide) (by decide +kernel) (by decide) (fun q9 => ?_)
    refine gd_astore_n C dL_crash_7 (Nat.le_of_ble_eq_true rfl) ?_
    refine gd_iconst C dL_crash_8 ?_
    refine gd_iret C hQ hret dL_crash_9 ?_ ?_
    · exact Or.inr ⟨rfl, ⟨rfl, hE⟩⟩
    · decide
  intro r1 w1 hP1
  obtain rfl := hP r1 w1 hP1
  refine gd_goto (tgt := 10) C dL_crash_4 (by decide) ?_
  refine gd_iconst C dL_crash_10 ?_
  refine gd_iret C hQ hret dL_crash_11 ?_ ?_
  · exact Or.inl ⟨rfl, hP1⟩
  · decide

set_option maxRecDepth 100000 in
set_option maxHeartbeats 4000000 in
theorem kL_start {l : Launch} {D : va_G} {ky : Nat → ClassId} {z : Nat} {w : WT} (hl : l.stackTraces = false) {b ao : Nat} {f : Nat → Int64} {P0 : Option Value → WT → Prop} {XP : String → Prop} (hM : Mt l D ky z yX4_start wsX4_start { frames := 7, cells := 1, slots := 6, locals := 154 } [.ref b] w P0 XP) (hb : ∃ fs, w b = some (oB 4 fs)) (hP : ∀ r w1, P0 r w1 → (∃ x1 : Int, r = some (.int (iI x1))) ∧ w1 ao = some (lA (ky 3) 1 f)) (hX : ∀ E, XP E → E = "java/lang/IllegalStateException") : MtW l D ky z yL_start wsL_start { frames := 8, cells := 1, slots := 6, locals := 177 } [.ref b, .ref ao] w (fun r w' => (r = some (.int (iI 0)) ∧ ∃ x1 w1 f', P0 (some (.int (iI x1))) w1 ∧ f' 0 = (iI x1).toInt64 ∧ w' = wU w1 ao (lA (ky 3) 1 f')) ∨ (w = w' ∧ (r = some (.int (iI 1)) ∧ XP "java/lang/IllegalStateException"))) := by
  refine MtW.of (cc := cL_start) (ret := (some .int)) (maxL := 3) (hh := [(0, 8, 11, 15)]) (by decide) rfl (by intro v hv; simp at hv; rcases hv with rfl | rfl <;> rfl) (Nat.le_of_ble_eq_true rfl) ?_ hl
  intro p e s m args below meth c C hNC ht hret Q hQ
  refine gd_aload_n C dL_start_0 rfl ?_
  refine gd_iconst C dL_start_1 ?_
  refine gd_aload_n C dL_start_2 rfl ?_
  refine gd_callV (n := 0) (ci := 4) (Cn := RX4) (T := TX4) (N := 5) C (hM) ?_ rfl gL_start_X4_start rfl ⟨rfl, by decide, by decide, by decide +kernel⟩ rfl rfl (Nat.le_of_ble_eq_true rfl) rfl dL_start_3 ⟨⟨by decide, by decide⟩, by decide, by decide⟩ ?_ ?_
  · exact hb
  · intro E hE
    obtain rfl := hX E hE
    refine gx_catch C (name := "java/lang/IllegalStateException") [] ⟨0, 8, 11, 15⟩ [] ht (fun _ h => absurd h List.not_mem_nil) (by decide) (by decide) (by decide +kernel) (by decide) (fun q9 => ?_)
    refine gd_astore_n C dL_start_11 (Nat.le_of_ble_eq_true rfl) ?_
    refine gd_iconst C dL_start_12 ?_
    refine gd_iret C hQ hret dL_start_13 ?_ ?_
    · exact Or.inr ⟨rfl, ⟨rfl, hE⟩⟩
    · decide
  intro r1 w1 hP1
  obtain ⟨⟨x1, rfl⟩, ho1⟩ := hP r1 w1 hP1
  refine gd_i2l C dL_start_6 ?_
  refine gd_last C dL_start_7 ho1 (fun f' hf' => ?_)
  refine gd_goto (tgt := 14) C dL_start_8 (by decide) ?_
  refine gd_iconst C dL_start_14 ?_
  refine gd_iret C hQ hret dL_start_15 ?_ ?_
  · exact Or.inl ⟨rfl, x1, w1, f', hP1, hf', rfl⟩
  · decide

set_option maxRecDepth 100000 in
set_option maxHeartbeats 4000000 in
theorem kL_opens {l : Launch} {D : va_G} {ky : Nat → ClassId} {z : Nat} {w : WT} (hl : l.stackTraces = false) {b ao : Nat} {q : Int} {f : Nat → Int64} {P0 : Option Value → WT → Prop} {XP : String → Prop} (hM : Mt l D ky z yX4_opens wsX4_opens { frames := 7, cells := 1, slots := 6, locals := 111 } [.ref b, .int (iI q)] w P0 XP) (hb : ∃ fs, w b = some (oB 4 fs)) (hP : ∀ r w1, P0 r w1 → (∃ x1 : Int, r = some (.int (iI x1))) ∧ w1 ao = some (lA (ky 3) 1 f)) (hX : ∀ E, XP E → E = "java/lang/IndexOutOfBoundsException") : MtW l D ky z yL_opens wsL_opens { frames := 8, cells := 1, slots := 6, locals := 132 } [.ref b, .int (iI q), .ref ao] w (fun r w' => (r = some (.int (iI 0)) ∧ ∃ x1 w1 f', P0 (some (.int (iI x1))) w1 ∧ f' 0 = (iI x1).toInt64 ∧ w' = wU w1 ao (lA (ky 3) 1 f')) ∨ (w = w' ∧ (r = some (.int (iI 1)) ∧ XP "java/lang/IndexOutOfBoundsException"))) := by
  refine MtW.of (cc := cL_opens) (ret := (some .int)) (maxL := 4) (hh := [(0, 9, 12, 23)]) (by decide) rfl (by intro v hv; simp at hv; rcases hv with rfl | rfl | rfl <;> rfl) (Nat.le_of_ble_eq_true rfl) ?_ hl
  intro p e s m args below meth c C hNC ht hret Q hQ
  refine gd_aload_n C dL_opens_0 rfl ?_
  refine gd_iconst C dL_opens_1 ?_
  refine gd_aload_n C dL_opens_2 rfl ?_
  refine gd_iload_n C dL_opens_3 rfl ?_
  refine gd_callV (n := 1) (ci := 4) (Cn := RX4) (T := TX4) (N := 5) C (hM) ?_ rfl gL_opens_X4_opens rfl ⟨rfl, by decide, by decide, by decide +kernel⟩ rfl rfl (Nat.le_of_ble_eq_true rfl) rfl dL_opens_4 ⟨⟨by decide, by decide⟩, by decide, by decide⟩ ?_ ?_
  · exact hb
  · intro E hE
    obtain rfl := hX E hE
    refine gx_catch C (name := "java/lang/IndexOutOfBoundsException") [] ⟨0, 9, 12, 23⟩ [] ht (fun _ h => absurd h List.not_mem_nil) (by decide) (by decide) (by decide +kernel) (by decide) (fun q9 => ?_)
    refine gd_astore_n C dL_opens_12 (Nat.le_of_ble_eq_true rfl) ?_
    refine gd_iconst C dL_opens_13 ?_
    refine gd_iret C hQ hret dL_opens_14 ?_ ?_
    · exact Or.inr ⟨rfl, ⟨rfl, hE⟩⟩
    · decide
  intro r1 w1 hP1
  obtain ⟨⟨x1, rfl⟩, ho1⟩ := hP r1 w1 hP1
  refine gd_i2l C dL_opens_7 ?_
  refine gd_last C dL_opens_8 ho1 (fun f' hf' => ?_)
  refine gd_goto (tgt := 15) C dL_opens_9 (by decide) ?_
  refine gd_iconst C dL_opens_15 ?_
  refine gd_iret C hQ hret dL_opens_16 ?_ ?_
  · exact Or.inl ⟨rfl, x1, w1, f', hP1, hf', rfl⟩
  · decide

set_option maxRecDepth 100000 in
set_option maxHeartbeats 4000000 in
theorem kL_pieces {l : Launch} {D : va_G} {ky : Nat → ClassId} {z : Nat} {w : WT} (hl : l.stackTraces = false) {b ao : Nat} {q x : Int} {f : Nat → Int64} {P0 : Option Value → WT → Prop} {XP : String → Prop} (hM : Mt l D ky z yX4_pieces wsX4_pieces { frames := 7, cells := 2, slots := 12, locals := 112 } [.ref b, .int (iI q), .int (iI x)] w P0 XP) (hb : ∃ fs, w b = some (oB 4 fs)) (hP : ∀ r w1, P0 r w1 → (∃ x1 : Int, r = some (.int (iI x1))) ∧ w1 ao = some (lA (ky 3) 1 f)) (hX : ∀ E, XP E → E = "java/lang/IndexOutOfBoundsException" ∨ E = "java/lang/IllegalArgumentException") : MtW l D ky z yL_pieces wsL_pieces { frames := 8, cells := 2, slots := 12, locals := 134 } [.ref b, .int (iI q), .int (iI x), .ref ao] w (fun r w' => (r = some (.int (iI 0)) ∧ ∃ x1 w1 f', P0 (some (.int (iI x1))) w1 ∧ f' 0 = (iI x1).toInt64 ∧ w' = wU w1 ao (lA (ky 3) 1 f')) ∨ (w = w' ∧ ((r = some (.int (iI 1)) ∧ XP "java/lang/IndexOutOfBoundsException") ∨ (r = some (.int (iI 2)) ∧ XP "java/lang/IllegalArgumentException")))) := by
  refine MtW.of (cc := cL_pieces) (ret := (some .int)) (maxL := 5) (hh := [(0, 10, 13, 23), (0, 10, 17, 13)]) (by decide) rfl (by intro v hv; simp at hv; rcases hv with rfl | rfl | rfl | rfl <;> rfl) (Nat.le_of_ble_eq_true rfl) ?_ hl
  intro p e s m args below meth c C hNC ht hret Q hQ
  refine gd_aload_n C dL_pieces_0 rfl ?_
  refine gd_iconst C dL_pieces_1 ?_
  refine gd_aload_n C dL_pieces_2 rfl ?_
  refine gd_iload_n C dL_pieces_3 rfl ?_
  refine gd_iload_n C dL_pieces_4 rfl ?_
  refine gd_callV (n := 2) (ci := 4) (Cn := RX4) (T := TX4) (N := 5) C (hM) ?_ rfl gL_pieces_X4_pieces rfl ⟨rfl, by decide, by decide, by decide +kernel⟩ rfl rfl (Nat.le_of_ble_eq_true rfl) rfl dL_pieces_5 ⟨⟨by decide, by decide⟩, by decide, by decide⟩ ?_ ?_
  · exact hb
  · intro E hE
    rcases hX E hE with rfl | rfl
    · refine gx_catch C (name := "java/lang/IndexOutOfBoundsException") [] ⟨0, 10, 13, 23⟩ [⟨0, 10, 17, 13⟩] ht (fun _ h => absurd h List.not_mem_nil) (by decide) (by decide) (by decide +kernel) (by decide) (fun q9 => ?_)
      refine gd_astore C dL_pieces_13 (Nat.le_of_ble_eq_true rfl) ?_
      refine gd_iconst C dL_pieces_15 ?_
      refine gd_iret C hQ hret dL_pieces_16 ?_ ?_
      · exact Or.inr ⟨rfl, Or.inl ⟨rfl, hE⟩⟩
      · decide
    · refine gx_catch C (name := "java/lang/IllegalArgumentException") [⟨0, 10, 13, 23⟩] ⟨0, 10, 17, 13⟩ [] ht (fun z hz => by rw [List.mem_singleton.mp hz]; exact Or.inr ⟨by decide, "java/lang/IndexOutOfBoundsException", by decide +kernel, hNC.2.2⟩) (by decide) (by decide) (by decide +kernel) (by decide) (fun q9 => ?_)
      refine gd_astore C dL_pieces_17 (Nat.le_of_ble_eq_true rfl) ?_
      refine gd_iconst C dL_pieces_19 ?_
      refine gd_iret C hQ hret dL_pieces_20 ?_ ?_
      · exact Or.inr ⟨rfl, Or.inr ⟨rfl, hE⟩⟩
      · decide
  intro r1 w1 hP1
  obtain ⟨⟨x1, rfl⟩, ho1⟩ := hP r1 w1 hP1
  refine gd_i2l C dL_pieces_8 ?_
  refine gd_last C dL_pieces_9 ho1 (fun f' hf' => ?_)
  refine gd_goto (tgt := 21) C dL_pieces_10 (by decide) ?_
  refine gd_iconst C dL_pieces_21 ?_
  refine gd_iret C hQ hret dL_pieces_22 ?_ ?_
  · exact Or.inl ⟨rfl, x1, w1, f', hP1, hf', rfl⟩
  · decide

set_option maxRecDepth 100000 in
set_option maxHeartbeats 4000000 in
theorem kL_isFree {l : Launch} {D : va_G} {ky : Nat → ClassId} {z : Nat} {w : WT} (hl : l.stackTraces = false) {b ao : Nat} {q : Int} {f : Nat → Int64} {P0 : Option Value → WT → Prop} {XP : String → Prop} (hM : Mt l D ky z yX4_isFree wsX4_isFree { frames := 6, cells := 1, slots := 6, locals := 90 } [.ref b, .int (iI q)] w P0 XP) (hb : ∃ fs, w b = some (oB 4 fs)) (hP : ∀ r w1, P0 r w1 → (∃ x1 : Int, r = some (.int (iI x1)) ∧ (x1 = 0 ∨ x1 = 1)) ∧ w1 ao = some (lA (ky 3) 1 f)) (hX : ∀ E, XP E → E = "java/lang/IndexOutOfBoundsException") : MtW l D ky z yL_isFree wsL_isFree { frames := 7, cells := 1, slots := 6, locals := 111 } [.ref b, .int (iI q), .ref ao] w (fun r w' => (r = some (.int (iI 0)) ∧ ∃ x1 w1 f', P0 (some (.int (iI x1))) w1 ∧ f' 0 = (if x1 = 0 then (0 : Int64) else 1) ∧ w' = wU w1 ao (lA (ky 3) 1 f')) ∨ (w = w' ∧ (r = some (.int (iI 1)) ∧ XP "java/lang/IndexOutOfBoundsException"))) := by
  refine MtW.of (cc := cL_isFree) (ret := (some .int)) (maxL := 4) (hh := [(0, 16, 19, 23)]) (by decide) rfl (by intro v hv; simp at hv; rcases hv with rfl | rfl | rfl <;> rfl) (Nat.le_of_ble_eq_true rfl) ?_ hl
  intro p e s m args below meth c C hNC ht hret Q hQ
  refine gd_aload_n C dL_isFree_0 rfl ?_
  refine gd_iconst C dL_isFree_1 ?_
  refine gd_aload_n C dL_isFree_2 rfl ?_
  refine gd_iload_n C dL_isFree_3 rfl ?_
  refine gd_callV (n := 1) (ci := 4) (Cn := RX4) (T := TX4) (N := 5) C (hM) ?_ rfl gL_isFree_X4_isFree rfl ⟨rfl, by decide, by decide, by decide +kernel⟩ rfl rfl (Nat.le_of_ble_eq_true rfl) rfl dL_isFree_4 ⟨⟨by decide, by decide⟩, by decide, by decide⟩ ?_ ?_
  · exact hb
  · intro E hE
    obtain rfl := hX E hE
    refine gx_catch C (name := "java/lang/IndexOutOfBoundsException") [] ⟨0, 16, 19, 23⟩ [] ht (fun _ h => absurd h List.not_mem_nil) (by decide) (by decide) (by decide +kernel) (by decide) (fun q9 => ?_)
    refine gd_astore_n C dL_isFree_19 (Nat.le_of_ble_eq_true rfl) ?_
    refine gd_iconst C dL_isFree_20 ?_
    refine gd_iret C hQ hret dL_isFree_21 ?_ ?_
    · exact Or.inr ⟨rfl, ⟨rfl, hE⟩⟩
    · decide
  intro r1 w1 hP1
  obtain ⟨⟨x1, rfl, hx1⟩, ho1⟩ := hP r1 w1 hP1
  refine gd_if_eq (tgt := 14) C dL_isFree_7 (by decide) ?_ (fun hc7 => ?_) (fun hc7 => ?_)
  · omega
  · refine gd_lconst C dL_isFree_14 ?_
    refine gd_last C dL_isFree_15 ho1 (fun f' hf' => ?_)
    refine gd_goto (tgt := 22) C dL_isFree_16 (by decide) ?_
    refine gd_iconst C dL_isFree_22 ?_
    refine gd_iret C hQ hret dL_isFree_23 ?_ ?_
    · first
        | exact Or.inl ⟨rfl, x1, w1, f', hP1, by rw [hf', if_pos (by omega)]; rfl, rfl⟩
        | exact Or.inl ⟨rfl, x1, w1, f', hP1, by rw [hf', if_neg (by omega)]; rfl, rfl⟩
    · decide
  · refine gd_lconst C dL_isFree_10 ?_
    refine gd_goto (tgt := 15) C dL_isFree_11 (by decide) ?_
    refine gd_last C dL_isFree_15 ho1 (fun f' hf' => ?_)
    refine gd_goto (tgt := 22) C dL_isFree_16 (by decide) ?_
    refine gd_iconst C dL_isFree_22 ?_
    refine gd_iret C hQ hret dL_isFree_23 ?_ ?_
    · first
        | exact Or.inl ⟨rfl, x1, w1, f', hP1, by rw [hf', if_pos (by omega)]; rfl, rfl⟩
        | exact Or.inl ⟨rfl, x1, w1, f', hP1, by rw [hf', if_neg (by omega)]; rfl, rfl⟩
    · decide

set_option maxRecDepth 100000 in
set_option maxHeartbeats 4000000 in
theorem kL_blockAt {l : Launch} {D : va_G} {ky : Nat → ClassId} {z : Nat} {w : WT} (hl : l.stackTraces = false) {b ao : Nat} {q x : Int} {f : Nat → Int64} {P0 : Option Value → WT → Prop} {XP : String → Prop} (hM : Mt l D ky z yX4_blockAt wsX4_blockAt { frames := 7, cells := 2, slots := 12, locals := 112 } [.ref b, .int (iI q), .int (iI x)] w P0 XP) (hb : ∃ fs, w b = some (oB 4 fs)) (hP : ∀ r w1, P0 r w1 → (∃ x1 : Int, r = some (.int (iI x1))) ∧ w1 ao = some (lA (ky 3) 1 f)) (hX : ∀ E, XP E → E = "java/lang/IndexOutOfBoundsException" ∨ E = "java/lang/IllegalArgumentException") : MtW l D ky z yL_blockAt wsL_blockAt { frames := 8, cells := 2, slots := 12, locals := 135 } [.ref b, .int (iI q), .int (iI x), .ref ao] w (fun r w' => (r = some (.int (iI 0)) ∧ ∃ x1 w1 f', P0 (some (.int (iI x1))) w1 ∧ f' 0 = (iI x1).toInt64 ∧ w' = wU w1 ao (lA (ky 3) 1 f')) ∨ (w = w' ∧ ((r = some (.int (iI 1)) ∧ XP "java/lang/IndexOutOfBoundsException") ∨ (r = some (.int (iI 2)) ∧ XP "java/lang/IllegalArgumentException")))) := by
  refine MtW.of (cc := cL_blockAt) (ret := (some .int)) (maxL := 5) (hh := [(0, 10, 13, 23), (0, 10, 17, 13)]) (by decide) rfl (by intro v hv; simp at hv; rcases hv with rfl | rfl | rfl | rfl <;> rfl) (Nat.le_of_ble_eq_true rfl) ?_ hl
  intro p e s m args below meth c C hNC ht hret Q hQ
  refine gd_aload_n C dL_blockAt_0 rfl ?_
  refine gd_iconst C dL_blockAt_1 ?_
  refine gd_aload_n C dL_blockAt_2 rfl ?_
  refine gd_iload_n C dL_blockAt_3 rfl ?_
  refine gd_iload_n C dL_blockAt_4 rfl ?_
  refine gd_callV (n := 2) (ci := 4) (Cn := RX4) (T := TX4) (N := 5) C (hM) ?_ rfl gL_blockAt_X4_blockAt rfl ⟨rfl, by decide, by decide, by decide +kernel⟩ rfl rfl (Nat.le_of_ble_eq_true rfl) rfl dL_blockAt_5 ⟨⟨by decide, by decide⟩, by decide, by decide⟩ ?_ ?_
  · exact hb
  · intro E hE
    rcases hX E hE with rfl | rfl
    · refine gx_catch C (name := "java/lang/IndexOutOfBoundsException") [] ⟨0, 10, 13, 23⟩ [⟨0, 10, 17, 13⟩] ht (fun _ h => absurd h List.not_mem_nil) (by decide) (by decide) (by decide +kernel) (by decide) (fun q9 => ?_)
      refine gd_astore C dL_blockAt_13 (Nat.le_of_ble_eq_true rfl) ?_
      refine gd_iconst C dL_blockAt_15 ?_
      refine gd_iret C hQ hret dL_blockAt_16 ?_ ?_
      · exact Or.inr ⟨rfl, Or.inl ⟨rfl, hE⟩⟩
      · decide
    · refine gx_catch C (name := "java/lang/IllegalArgumentException") [⟨0, 10, 13, 23⟩] ⟨0, 10, 17, 13⟩ [] ht (fun z hz => by rw [List.mem_singleton.mp hz]; exact Or.inr ⟨by decide, "java/lang/IndexOutOfBoundsException", by decide +kernel, hNC.2.2⟩) (by decide) (by decide) (by decide +kernel) (by decide) (fun q9 => ?_)
      refine gd_astore C dL_blockAt_17 (Nat.le_of_ble_eq_true rfl) ?_
      refine gd_iconst C dL_blockAt_19 ?_
      refine gd_iret C hQ hret dL_blockAt_20 ?_ ?_
      · exact Or.inr ⟨rfl, Or.inr ⟨rfl, hE⟩⟩
      · decide
  intro r1 w1 hP1
  obtain ⟨⟨x1, rfl⟩, ho1⟩ := hP r1 w1 hP1
  refine gd_i2l C dL_blockAt_8 ?_
  refine gd_last C dL_blockAt_9 ho1 (fun f' hf' => ?_)
  refine gd_goto (tgt := 21) C dL_blockAt_10 (by decide) ?_
  refine gd_iconst C dL_blockAt_21 ?_
  refine gd_iret C hQ hret dL_blockAt_22 ?_ ?_
  · exact Or.inl ⟨rfl, x1, w1, f', hP1, hf', rfl⟩
  · decide

set_option maxRecDepth 100000 in
set_option maxHeartbeats 4000000 in
theorem kL_extents {l : Launch} {D : va_G} {ky : Nat → ClassId} {z : Nat} {w : WT} (hl : l.stackTraces = false) {b ao : Nat} {q : Int} {f : Nat → Int64} {P0 : Option Value → WT → Prop} {XP : String → Prop} (hM : Mt l D ky z yX4_extents wsX4_extents { frames := 7, cells := 1, slots := 6, locals := 111 } [.ref b, .int (iI q)] w P0 XP) (hb : ∃ fs, w b = some (oB 4 fs)) (hP : ∀ r w1, P0 r w1 → (∃ x1 : Int, r = some (.int (iI x1))) ∧ w1 ao = some (lA (ky 3) 1 f)) (hX : ∀ E, XP E → E = "java/lang/IndexOutOfBoundsException") : MtW l D ky z yL_extents wsL_extents { frames := 8, cells := 1, slots := 6, locals := 132 } [.ref b, .int (iI q), .ref ao] w (fun r w' => (r = some (.int (iI 0)) ∧ ∃ x1 w1 f', P0 (some (.int (iI x1))) w1 ∧ f' 0 = (iI x1).toInt64 ∧ w' = wU w1 ao (lA (ky 3) 1 f')) ∨ (w = w' ∧ (r = some (.int (iI 1)) ∧ XP "java/lang/IndexOutOfBoundsException"))) := by
  refine MtW.of (cc := cL_extents) (ret := (some .int)) (maxL := 4) (hh := [(0, 9, 12, 23)]) (by decide) rfl (by intro v hv; simp at hv; rcases hv with rfl | rfl | rfl <;> rfl) (Nat.le_of_ble_eq_true rfl) ?_ hl
  intro p e s m args below meth c C hNC ht hret Q hQ
  refine gd_aload_n C dL_extents_0 rfl ?_
  refine gd_iconst C dL_extents_1 ?_
  refine gd_aload_n C dL_extents_2 rfl ?_
  refine gd_iload_n C dL_extents_3 rfl ?_
  refine gd_callV (n := 1) (ci := 4) (Cn := RX4) (T := TX4) (N := 5) C (hM) ?_ rfl gL_extents_X4_extents rfl ⟨rfl, by decide, by decide, by decide +kernel⟩ rfl rfl (Nat.le_of_ble_eq_true rfl) rfl dL_extents_4 ⟨⟨by decide, by decide⟩, by decide, by decide⟩ ?_ ?_
  · exact hb
  · intro E hE
    obtain rfl := hX E hE
    refine gx_catch C (name := "java/lang/IndexOutOfBoundsException") [] ⟨0, 9, 12, 23⟩ [] ht (fun _ h => absurd h List.not_mem_nil) (by decide) (by decide) (by decide +kernel) (by decide) (fun q9 => ?_)
    refine gd_astore_n C dL_extents_12 (Nat.le_of_ble_eq_true rfl) ?_
    refine gd_iconst C dL_extents_13 ?_
    refine gd_iret C hQ hret dL_extents_14 ?_ ?_
    · exact Or.inr ⟨rfl, ⟨rfl, hE⟩⟩
    · decide
  intro r1 w1 hP1
  obtain ⟨⟨x1, rfl⟩, ho1⟩ := hP r1 w1 hP1
  refine gd_i2l C dL_extents_7 ?_
  refine gd_last C dL_extents_8 ho1 (fun f' hf' => ?_)
  refine gd_goto (tgt := 15) C dL_extents_9 (by decide) ?_
  refine gd_iconst C dL_extents_15 ?_
  refine gd_iret C hQ hret dL_extents_16 ?_ ?_
  · exact Or.inl ⟨rfl, x1, w1, f', hP1, hf', rfl⟩
  · decide

set_option maxRecDepth 100000 in
set_option maxHeartbeats 4000000 in
theorem kL_extent {l : Launch} {D : va_G} {ky : Nat → ClassId} {z : Nat} {w : WT} (hl : l.stackTraces = false) {b ao : Nat} {q x : Int} {f : Nat → Int64} {P0 : Option Value → WT → Prop} {XP : String → Prop} (hM : Mt l D ky z yX4_extent wsX4_extent { frames := 7, cells := 2, slots := 12, locals := 111 } [.ref b, .int (iI q), .int (iI x)] w P0 XP) (hb : ∃ fs, w b = some (oB 4 fs)) (hP : ∀ r w1, P0 r w1 → (∃ x1 : Int, r = some (.int (iI x1))) ∧ w1 ao = some (lA (ky 3) 1 f)) (hX : ∀ E, XP E → E = "java/lang/IndexOutOfBoundsException") : MtW l D ky z yL_extent wsL_extent { frames := 8, cells := 2, slots := 12, locals := 135 } [.ref b, .int (iI q), .int (iI x), .ref ao] w (fun r w' => (r = some (.int (iI 0)) ∧ ∃ x1 w1 f', P0 (some (.int (iI x1))) w1 ∧ f' 0 = (iI x1).toInt64 ∧ w' = wU w1 ao (lA (ky 3) 1 f')) ∨ (w = w' ∧ (r = some (.int (iI 1)) ∧ XP "java/lang/IndexOutOfBoundsException"))) := by
  refine MtW.of (cc := cL_extent) (ret := (some .int)) (maxL := 5) (hh := [(0, 10, 13, 23)]) (by decide) rfl (by intro v hv; simp at hv; rcases hv with rfl | rfl | rfl | rfl <;> rfl) (Nat.le_of_ble_eq_true rfl) ?_ hl
  intro p e s m args below meth c C hNC ht hret Q hQ
  refine gd_aload_n C dL_extent_0 rfl ?_
  refine gd_iconst C dL_extent_1 ?_
  refine gd_aload_n C dL_extent_2 rfl ?_
  refine gd_iload_n C dL_extent_3 rfl ?_
  refine gd_iload_n C dL_extent_4 rfl ?_
  refine gd_callV (n := 2) (ci := 4) (Cn := RX4) (T := TX4) (N := 5) C (hM) ?_ rfl gL_extent_X4_extent rfl ⟨rfl, by decide, by decide, by decide +kernel⟩ rfl rfl (Nat.le_of_ble_eq_true rfl) rfl dL_extent_5 ⟨⟨by decide, by decide⟩, by decide, by decide⟩ ?_ ?_
  · exact hb
  · intro E hE
    obtain rfl := hX E hE
    refine gx_catch C (name := "java/lang/IndexOutOfBoundsException") [] ⟨0, 10, 13, 23⟩ [] ht (fun _ h => absurd h List.not_mem_nil) (by decide) (by decide) (by decide +kernel) (by decide) (fun q9 => ?_)
    refine gd_astore C dL_extent_13 (Nat.le_of_ble_eq_true rfl) ?_
    refine gd_iconst C dL_extent_15 ?_
    refine gd_iret C hQ hret dL_extent_16 ?_ ?_
    · exact Or.inr ⟨rfl, ⟨rfl, hE⟩⟩
    · decide
  intro r1 w1 hP1
  obtain ⟨⟨x1, rfl⟩, ho1⟩ := hP r1 w1 hP1
  refine gd_i2l C dL_extent_8 ?_
  refine gd_last C dL_extent_9 ho1 (fun f' hf' => ?_)
  refine gd_goto (tgt := 17) C dL_extent_10 (by decide) ?_
  refine gd_iconst C dL_extent_17 ?_
  refine gd_iret C hQ hret dL_extent_18 ?_ ?_
  · exact Or.inl ⟨rfl, x1, w1, f', hP1, hf', rfl⟩
  · decide

set_option maxRecDepth 100000 in
set_option maxHeartbeats 4000000 in
theorem kL_average {l : Launch} {D : va_G} {ky : Nat → ClassId} {z : Nat} {w : WT} (hl : l.stackTraces = false) {b ao : Nat} {q : Int} {f : Nat → UInt64} {P0 : Option Value → WT → Prop} {XP : String → Prop} (hM : Mt l D ky z yX4_average wsX4_average { frames := 7, cells := 1, slots := 6, locals := 111 } [.ref b, .int (iI q)] w P0 XP) (hb : ∃ fs, w b = some (oB 4 fs)) (hP : ∀ r w1, P0 r w1 → (∃ x1 : UInt32, r = some (.float x1) ∧ vf_n64 (FP.f2d x1)) ∧ w1 ao = some (dA (ky 4) 1 f)) (hX : ∀ E, XP E → E = "java/lang/IndexOutOfBoundsException") : MtW l D ky z yL_average wsL_average { frames := 8, cells := 1, slots := 6, locals := 134 } [.ref b, .int (iI q), .ref ao] w (fun r w' => (r = some (.int (iI 0)) ∧ ∃ x1 w1 f', P0 (some (.float x1)) w1 ∧ f' 0 = FP.f2d x1 ∧ w' = wU w1 ao (dA (ky 4) 1 f')) ∨ (w = w' ∧ (r = some (.int (iI 1)) ∧ XP "java/lang/IndexOutOfBoundsException"))) := by
  refine MtW.of (cc := cL_average) (ret := (some .int)) (maxL := 4) (hh := [(0, 9, 12, 23)]) (by decide) rfl (by intro v hv; simp at hv; rcases hv with rfl | rfl | rfl <;> rfl) (Nat.le_of_ble_eq_true rfl) ?_ hl
  intro p e s m args below meth c C hNC ht hret Q hQ
  refine gd_aload_n C dL_average_0 rfl ?_
  refine gd_iconst C dL_average_1 ?_
  refine gd_aload_n C dL_average_2 rfl ?_
  refine gd_iload_n C dL_average_3 rfl ?_
  refine gd_callV (n := 1) (ci := 4) (Cn := RX4) (T := TX4) (N := 5) C (hM) ?_ rfl gL_average_X4_average rfl ⟨rfl, by decide, by decide, by decide +kernel⟩ rfl rfl (Nat.le_of_ble_eq_true rfl) rfl dL_average_4 ⟨⟨by decide, by decide⟩, by decide, by decide⟩ ?_ ?_
  · exact hb
  · intro E hE
    obtain rfl := hX E hE
    refine gx_catch C (name := "java/lang/IndexOutOfBoundsException") [] ⟨0, 9, 12, 23⟩ [] ht (fun _ h => absurd h List.not_mem_nil) (by decide) (by decide) (by decide +kernel) (by decide) (fun q9 => ?_)
    refine gd_astore_n C dL_average_12 (Nat.le_of_ble_eq_true rfl) ?_
    refine gd_iconst C dL_average_13 ?_
    refine gd_iret C hQ hret dL_average_14 ?_ ?_
    · exact Or.inr ⟨rfl, ⟨rfl, hE⟩⟩
    · decide
  intro r1 w1 hP1
  obtain ⟨⟨x1, rfl, hx1⟩, ho1⟩ := hP r1 w1 hP1
  refine gd_f2d C dL_average_7 hx1 ?_
  refine gd_dast C dL_average_8 ho1 (fun f' hf' => ?_)
  refine gd_goto (tgt := 15) C dL_average_9 (by decide) ?_
  refine gd_iconst C dL_average_15 ?_
  refine gd_iret C hQ hret dL_average_16 ?_ ?_
  · exact Or.inl ⟨rfl, x1, w1, f', hP1, hf', rfl⟩
  · decide

set_option maxRecDepth 100000 in
set_option maxHeartbeats 4000000 in
theorem kL_fileOf {l : Launch} {D : va_G} {ky : Nat → ClassId} {z : Nat} {w : WT} (hl : l.stackTraces = false) {b ao : Nat} {q : Int} {f : Nat → Int64} {P0 : Option Value → WT → Prop} {XP : String → Prop} (hM : Mt l D ky z yX4_fileOf wsX4_fileOf { frames := 8, cells := 1, slots := 6, locals := 132 } [.ref b, .int (iI q)] w P0 XP) (hb : ∃ fs, w b = some (oB 4 fs)) (hP : ∀ r w1, P0 r w1 → (∃ x1 : Int, r = some (.int (iI x1))) ∧ w1 ao = some (lA (ky 3) 1 f)) (hX : ∀ E, XP E → E = "java/lang/IllegalArgumentException") : MtW l D ky z yL_fileOf wsL_fileOf { frames := 9, cells := 1, slots := 6, locals := 153 } [.ref b, .int (iI q), .ref ao] w (fun r w' => (r = some (.int (iI 0)) ∧ ∃ x1 w1 f', P0 (some (.int (iI x1))) w1 ∧ f' 0 = (iI x1).toInt64 ∧ w' = wU w1 ao (lA (ky 3) 1 f')) ∨ (w = w' ∧ (r = some (.int (iI 1)) ∧ XP "java/lang/IllegalArgumentException"))) := by
  refine MtW.of (cc := cL_fileOf) (ret := (some .int)) (maxL := 4) (hh := [(0, 9, 12, 13)]) (by decide) rfl (by intro v hv; simp at hv; rcases hv with rfl | rfl | rfl <;> rfl) (Nat.le_of_ble_eq_true rfl) ?_ hl
  intro p e s m args below meth c C hNC ht hret Q hQ
  refine gd_aload_n C dL_fileOf_0 rfl ?_
  refine gd_iconst C dL_fileOf_1 ?_
  refine gd_aload_n C dL_fileOf_2 rfl ?_
  refine gd_iload_n C dL_fileOf_3 rfl ?_
  refine gd_callV (n := 1) (ci := 4) (Cn := RX4) (T := TX4) (N := 5) C (hM) ?_ rfl gL_fileOf_X4_fileOf rfl ⟨rfl, by decide, by decide, by decide +kernel⟩ rfl rfl (Nat.le_of_ble_eq_true rfl) rfl dL_fileOf_4 ⟨⟨by decide, by decide⟩, by decide, by decide⟩ ?_ ?_
  · exact hb
  · intro E hE
    obtain rfl := hX E hE
    refine gx_catch C (name := "java/lang/IllegalArgumentException") [] ⟨0, 9, 12, 13⟩ [] ht (fun _ h => absurd h List.not_mem_nil) (by decide) (by decide) (by decide +kernel) (by decide) (fun q9 => ?_)
    refine gd_astore_n C dL_fileOf_12 (Nat.le_of_ble_eq_true rfl) ?_
    refine gd_iconst C dL_fileOf_13 ?_
    refine gd_iret C hQ hret dL_fileOf_14 ?_ ?_
    · exact Or.inr ⟨rfl, ⟨rfl, hE⟩⟩
    · decide
  intro r1 w1 hP1
  obtain ⟨⟨x1, rfl⟩, ho1⟩ := hP r1 w1 hP1
  refine gd_i2l C dL_fileOf_7 ?_
  refine gd_last C dL_fileOf_8 ho1 (fun f' hf' => ?_)
  refine gd_goto (tgt := 15) C dL_fileOf_9 (by decide) ?_
  refine gd_iconst C dL_fileOf_15 ?_
  refine gd_iret C hQ hret dL_fileOf_16 ?_ ?_
  · exact Or.inl ⟨rfl, x1, w1, f', hP1, hf', rfl⟩
  · decide

set_option maxRecDepth 100000 in
set_option maxHeartbeats 4000000 in
theorem kL_looks {l : Launch} {D : va_G} {ky : Nat → ClassId} {z : Nat} {w : WT} (hl : l.stackTraces = false) {b ao : Nat} {q : Int} {f : Nat → Int64} {P0 : Option Value → WT → Prop} {XP : String → Prop} (hM : Mt l D ky z yX4_looks wsX4_looks { frames := 8, cells := 1, slots := 6, locals := 132 } [.ref b, .int (iI q)] w P0 XP) (hb : ∃ fs, w b = some (oB 4 fs)) (hP : ∀ r w1, P0 r w1 → (∃ x1 : Int, r = some (.int (iI x1))) ∧ w1 ao = some (lA (ky 3) 1 f)) (hX : ∀ E, XP E → E = "java/lang/IllegalArgumentException") : MtW l D ky z yL_looks wsL_looks { frames := 9, cells := 1, slots := 6, locals := 153 } [.ref b, .int (iI q), .ref ao] w (fun r w' => (r = some (.int (iI 0)) ∧ ∃ x1 w1 f', P0 (some (.int (iI x1))) w1 ∧ f' 0 = (iI x1).toInt64 ∧ w' = wU w1 ao (lA (ky 3) 1 f')) ∨ (w = w' ∧ (r = some (.int (iI 1)) ∧ XP "java/lang/IllegalArgumentException"))) := by
  refine MtW.of (cc := cL_looks) (ret := (some .int)) (maxL := 4) (hh := [(0, 9, 12, 13)]) (by decide) rfl (by intro v hv; simp at hv; rcases hv with rfl | rfl | rfl <;> rfl) (Nat.le_of_ble_eq_true rfl) ?_ hl
  intro p e s m args below meth c C hNC ht hret Q hQ
  refine gd_aload_n C dL_looks_0 rfl ?_
  refine gd_iconst C dL_looks_1 ?_
  refine gd_aload_n C dL_looks_2 rfl ?_
  refine gd_iload_n C dL_looks_3 rfl ?_
  refine gd_callV (n := 1) (ci := 4) (Cn := RX4) (T := TX4) (N := 5) C (hM) ?_ rfl gL_looks_X4_looks rfl ⟨rfl, by decide, by decide, by decide +kernel⟩ rfl rfl (Nat.le_of_ble_eq_true rfl) rfl dL_looks_4 ⟨⟨by decide, by decide⟩, by decide, by decide⟩ ?_ ?_
  · exact hb
  · intro E hE
    obtain rfl := hX E hE
    refine gx_catch C (name := "java/lang/IllegalArgumentException") [] ⟨0, 9, 12, 13⟩ [] ht (fun _ h => absurd h List.not_mem_nil) (by decide) (by decide) (by decide +kernel) (by decide) (fun q9 => ?_)
    refine gd_astore_n C dL_looks_12 (Nat.le_of_ble_eq_true rfl) ?_
    refine gd_iconst C dL_looks_13 ?_
    refine gd_iret C hQ hret dL_looks_14 ?_ ?_
    · exact Or.inr ⟨rfl, ⟨rfl, hE⟩⟩
    · decide
  intro r1 w1 hP1
  obtain ⟨⟨x1, rfl⟩, ho1⟩ := hP r1 w1 hP1
  refine gd_i2l C dL_looks_7 ?_
  refine gd_last C dL_looks_8 ho1 (fun f' hf' => ?_)
  refine gd_goto (tgt := 15) C dL_looks_9 (by decide) ?_
  refine gd_iconst C dL_looks_15 ?_
  refine gd_iret C hQ hret dL_looks_16 ?_ ?_
  · exact Or.inl ⟨rfl, x1, w1, f', hP1, hf', rfl⟩
  · decide
