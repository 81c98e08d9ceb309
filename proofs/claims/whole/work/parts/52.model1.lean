set_option maxRecDepth 100000 in
set_option maxHeartbeats 4000000 in
theorem kX5_thrown {l : Launch} {D : va_G} {ky : Nat → ClassId} {z : Nat} {w : WT} (hl : l.stackTraces = false) {o : Nat} {A : Nat → Nat} {F : Nat → Int → Int} {G : Nat → Int} (hM : MW w ky o A F G) : Mt l D ky z yX5_thrown wsX5_thrown { frames := 0, cells := 0, slots := 0, locals := 0 } [.ref o] w (fun r w' => w = w' ∧ r = some (.int (iI (G 17)))) (fun _ => False) := by
  refine Mt.of (cc := cX5_thrown) (ret := (some .int)) (maxL := 1) (by decide) rfl (by intro v hv; simp at hv; rcases hv with rfl <;> rfl) (Nat.le_of_ble_eq_true rfl) ?_ hl
  intro p e s m args below meth c C htab hret hname Q hQ
  have hMv := hM.V
  refine gd_aload_n C dX5_thrown_0 rfl ?_
  refine gm_get C hMv (by decide +kernel) 17 (by decide) (by decide +kernel) rfl dX5_thrown_1 rfl ?_
  refine gd_iret C hQ hret dX5_thrown_4 ?_ ?_
  · exact ⟨rfl, rfl⟩
  · decide

set_option maxRecDepth 100000 in
set_option maxHeartbeats 4000000 in
theorem kX5_in {l : Launch} {D : va_G} {ky : Nat → ClassId} {z : Nat} {w : WT} (hl : l.stackTraces = false) {q lo hi : Int} (hq : InR q ∧ InR lo ∧ InR hi) : Mt l D ky z yX5_in wsX5_in { frames := 0, cells := 0, slots := 0, locals := 0 } [.int (iI q), .int (iI lo), .int (iI hi)] w (fun r w' => ∃ b : Int, w = w' ∧ r = some (.int (iI b)) ∧ (b = 1 ∧ (lo ≤ q ∧ q ≤ hi) ∨ b = 0 ∧ ¬ (lo ≤ q ∧ q ≤ hi))) (fun _ => False) := by
  refine Mt.of (cc := cX5_in) (ret := (some .boolean)) (maxL := 3) (by decide) rfl (by intro v hv; simp at hv; rcases hv with rfl | rfl | rfl <;> rfl) (Nat.le_of_ble_eq_true rfl) ?_ hl
  intro p e s m args below meth c C htab hret hname Q hQ
  refine gd_iload_n C dX5_in_0 rfl ?_
  refine gd_iload_n C dX5_in_1 rfl ?_
  refine gd_icmp_lt (tgt := 14) C dX5_in_2 (by decide) ?_ ?_ (fun hc2 => ?_) (fun hc2 => ?_)
  · omega
  · omega
  · refine gd_iconst C dX5_in_14 ?_
    refine gd_zret C hQ hret ?_ dX5_in_15 ?_ ?_
    · omega
    · exact ⟨_, rfl, rfl, by omega⟩
    · decide
  · refine gd_iload_n C dX5_in_5 rfl ?_
    refine gd_iload_n C dX5_in_6 rfl ?_
    refine gd_icmp_gt (tgt := 14) C dX5_in_7 (by decide) ?_ ?_ (fun hc7 => ?_) (fun hc7 => ?_)
    · omega
    · omega
    · refine gd_iconst C dX5_in_14 ?_
      refine gd_zret C hQ hret ?_ dX5_in_15 ?_ ?_
      · omega
      · exact ⟨_, rfl, rfl, by omega⟩
      · decide
    · refine gd_iconst C dX5_in_10 ?_
      refine gd_goto (tgt := 15) C dX5_in_11 (by decide) ?_
      refine gd_zret C hQ hret ?_ dX5_in_15 ?_ ?_
      · omega
      · exact ⟨_, rfl, rfl, by omega⟩
      · decide

set_option maxRecDepth 100000 in
set_option maxHeartbeats 4000000 in
theorem kX5_asked {l : Launch} {D : va_G} {ky : Nat → ClassId} {z : Nat} {w : WT} (hl : l.stackTraces = false) {o : Nat} {A : Nat → Nat} {F : Nat → Int → Int} {G : Nat → Int} (hM : MW w ky o A F G) {x : Int} (hx : x = 0 ∨ x = 1) : Mt l D ky z yX5_asked wsX5_asked { frames := 0, cells := 0, slots := 0, locals := 0 } [.ref o, .int (iI x)] w (fun r w' => r = some (.int (iI x)) ∧ MV w w' ky o A (F) (nU G 17 (1 - x))) (fun _ => False) := by
  refine Mt.of (cc := cX5_asked) (ret := (some .boolean)) (maxL := 2) (by decide) rfl (by intro v hv; simp at hv; rcases hv with rfl | rfl <;> rfl) (Nat.le_of_ble_eq_true rfl) ?_ hl
  intro p e s m args below meth c C htab hret hname Q hQ
  have hMv := hM.V
  refine gd_aload_n C dX5_asked_0 rfl ?_
  refine gd_iload_n C dX5_asked_1 rfl ?_
  refine gd_if_eq (tgt := 9) C dX5_asked_2 (by decide) ?_ (fun hc2 => ?_) (fun hc2 => ?_)
  · omega
  · refine gd_iconst C dX5_asked_9 ?_
    refine gm_put C hMv (by decide +kernel) 17 (by decide) (by decide +kernel) rfl rfl dX5_asked_10 rfl rfl rfl (fun wm1 hMm1 => ?_)
    refine gd_iload_n C dX5_asked_13 rfl ?_
    refine gd_zret C hQ hret ?_ dX5_asked_14 ?_ ?_
    · omega
    · first
        | exact ⟨rfl, by rw [show 1 - x = 0 by omega]; exact hMm1⟩
        | exact ⟨rfl, by rw [show 1 - x = 1 by omega]; exact hMm1⟩
    · decide
  · refine gd_iconst C dX5_asked_5 ?_
    refine gd_goto (tgt := 10) C dX5_asked_6 (by decide) ?_
    refine gm_put C hMv (by decide +kernel) 17 (by decide) (by decide +kernel) rfl rfl dX5_asked_10 rfl rfl rfl (fun wm2 hMm2 => ?_)
    refine gd_iload_n C dX5_asked_13 rfl ?_
    refine gd_zret C hQ hret ?_ dX5_asked_14 ?_ ?_
    · omega
    · first
        | exact ⟨rfl, by rw [show 1 - x = 0 by omega]; exact hMm2⟩
        | exact ⟨rfl, by rw [show 1 - x = 1 by omega]; exact hMm2⟩
    · decide

set_option maxRecDepth 100000 in
set_option maxHeartbeats 4000000 in
theorem kX5_asked_ {l : Launch} {D : va_G} {ky : Nat → ClassId} {z : Nat} {w : WT} (hl : l.stackTraces = false) {o : Nat} {A : Nat → Nat} {F : Nat → Int → Int} {G : Nat → Int} (hM : MW w ky o A F G) {x y : Int} (hx : (x = 0 ∨ x = 1) ∧ (y = 0 ∨ y = 1)) : Mt l D ky z yX5_asked_ wsX5_asked_ { frames := 0, cells := 0, slots := 0, locals := 0 } [.ref o, .int (iI x), .int (iI y)] w (fun r w' => ∃ t b : Int, r = some (.int (iI b)) ∧ MV w w' ky o A (F) (nU G 17 t) ∧ AS2 x y t b) (fun _ => False) := by
  refine Mt.of (cc := cX5_asked_) (ret := (some .boolean)) (maxL := 3) (by decide) rfl (by intro v hv; simp at hv; rcases hv with rfl | rfl | rfl <;> rfl) (Nat.le_of_ble_eq_true rfl) ?_ hl
  intro p e s m args below meth c C htab hret hname Q hQ
  have hMv := hM.V
  refine gd_aload_n C dX5_asked__0 rfl ?_
  refine gd_iload_n C dX5_asked__1 rfl ?_
  have hj2 : ∀ t0 : Int, ((t0 = 0 ∧ x = 1 ∧ y = 1) ∨ (x = 0 ∧ t0 = 1) ∨ (x = 1 ∧ y = 0 ∧ t0 = 2)) → Gd p l e ({ frames := 0, cells := 0, slots := 0, locals := 0 }) s m args below meth c D z Q 0 0 w 18 [some (.ref o), some (.int (iI x)), some (.int (iI y))] (.int (iI t0) :: [.ref o]) := by
    intro t0 hvt0
    refine gm_put C hMv (by decide +kernel) 17 (by decide) (by decide +kernel) rfl rfl dX5_asked__18 rfl rfl rfl (fun wm1 hMm1 => ?_)
    refine gd_aload_n C dX5_asked__21 rfl ?_
    refine gm_get C hMm1 (by decide +kernel) 17 (by decide) (by decide +kernel) rfl dX5_asked__22 (v := .int (iI t0)) rfl ?_
    refine gd_if_ne (tgt := 32) C dX5_asked__25 (by decide) ?_ (fun hc25 => ?_) (fun hc25 => ?_)
    · omega
    · refine gd_iconst C dX5_asked__32 ?_
      refine gd_zret C hQ hret ?_ dX5_asked__33 ?_ ?_
      · omega
      · exact ⟨t0, _, rfl, hMm1, by unfold AS2; omega⟩
      · decide
    · refine gd_iconst C dX5_asked__28 ?_
      refine gd_goto (tgt := 33) C dX5_asked__29 (by decide) ?_
      refine gd_zret C hQ hret ?_ dX5_asked__33 ?_ ?_
      · omega
      · exact ⟨t0, _, rfl, hMm1, by unfold AS2; omega⟩
      · decide
  refine gd_if_ne (tgt := 9) C dX5_asked__2 (by decide) ?_ (fun hc2 => ?_) (fun hc2 => ?_)
  · omega
  · refine gd_iload_n C dX5_asked__9 rfl ?_
    refine gd_if_eq (tgt := 17) C dX5_asked__10 (by decide) ?_ (fun hc10 => ?_) (fun hc10 => ?_)
    · omega
    · refine gd_iconst C dX5_asked__17 ?_
      exact hj2 _ (by omega)
    · refine gd_iconst C dX5_asked__13 ?_
      refine gd_goto (tgt := 18) C dX5_asked__14 (by decide) ?_
      exact hj2 _ (by omega)
  · refine gd_iconst C dX5_asked__5 ?_
    refine gd_goto (tgt := 18) C dX5_asked__6 (by decide) ?_
    exact hj2 _ (by omega)

set_option maxRecDepth 100000 in
set_option maxHeartbeats 4000000 in
theorem kX5_asked__ {l : Launch} {D : va_G} {ky : Nat → ClassId} {z : Nat} {w : WT} (hl : l.stackTraces = false) {o : Nat} {A : Nat → Nat} {F : Nat → Int → Int} {G : Nat → Int} (hM : MW w ky o A F G) {x y q : Int} (hx : (x = 0 ∨ x = 1) ∧ (y = 0 ∨ y = 1) ∧ (q = 0 ∨ q = 1)) : Mt l D ky z yX5_asked__ wsX5_asked__ { frames := 0, cells := 0, slots := 0, locals := 0 } [.ref o, .int (iI x), .int (iI y), .int (iI q)] w (fun r w' => ∃ t b : Int, r = some (.int (iI b)) ∧ MV w w' ky o A (F) (nU G 17 t) ∧ AS3 x y q t b) (fun _ => False) := by
  refine Mt.of (cc := cX5_asked__) (ret := (some .boolean)) (maxL := 4) (by decide) rfl (by intro v hv; simp at hv; rcases hv with rfl | rfl | rfl | rfl <;> rfl) (Nat.le_of_ble_eq_true rfl) ?_ hl
  intro p e s m args below meth c C htab hret hname Q hQ
  have hMv := hM.V
  refine gd_aload_n C dX5_asked___0 rfl ?_
  refine gd_iload_n C dX5_asked___1 rfl ?_
  have hj2 : ∀ t0 : Int, ((t0 = 0 ∧ x = 1 ∧ y = 1 ∧ q = 1) ∨ (x = 0 ∧ t0 = 1) ∨ (x = 1 ∧ y = 0 ∧ t0 = 2) ∨ (x = 1 ∧ y = 1 ∧ q = 0 ∧ t0 = 3)) → Gd p l e ({ frames := 0, cells := 0, slots := 0, locals := 0 }) s m args below meth c D z Q 0 0 w 26 [some (.ref o), some (.int (iI x)), some (.int (iI y)), some (.int (iI q))] (.int (iI t0) :: [.ref o]) := by
    intro t0 hvt0
    refine gm_put C hMv (by decide +kernel) 17 (by decide) (by decide +kernel) rfl rfl dX5_asked___26 rfl rfl rfl (fun wm1 hMm1 => ?_)
    refine gd_aload_n C dX5_asked___29 rfl ?_
    refine gm_get C hMm1 (by decide +kernel) 17 (by decide) (by decide +kernel) rfl dX5_asked___30 (v := .int (iI t0)) rfl ?_
    refine gd_if_ne (tgt := 40) C dX5_asked___33 (by decide) ?_ (fun hc33 => ?_) (fun hc33 => ?_)
    · omega
    · refine gd_iconst C dX5_asked___40 ?_
      refine gd_zret C hQ hret ?_ dX5_asked___41 ?_ ?_
      · omega
      · exact ⟨t0, _, rfl, hMm1, by unfold AS3; omega⟩
      · decide
    · refine gd_iconst C dX5_asked___36 ?_
      refine gd_goto (tgt := 41) C dX5_asked___37 (by decide) ?_
      refine gd_zret C hQ hret ?_ dX5_asked___41 ?_ ?_
      · omega
      · exact ⟨t0, _, rfl, hMm1, by unfold AS3; omega⟩
      · decide
  refine gd_if_ne (tgt := 9) C dX5_asked___2 (by decide) ?_ (fun hc2 => ?_) (fun hc2 => ?_)
  · omega
  · refine gd_iload_n C dX5_asked___9 rfl ?_
    refine gd_if_ne (tgt := 17) C dX5_asked___10 (by decide) ?_ (fun hc10 => ?_) (fun hc10 => ?_)
    · omega
    · refine gd_iload_n C dX5_asked___17 rfl ?_
      refine gd_if_eq (tgt := 25) C dX5_asked___18 (by decide) ?_ (fun hc18 => ?_) (fun hc18 => ?_)
      · omega
      · refine gd_iconst C dX5_asked___25 ?_
        exact hj2 _ (by omega)
      · refine gd_iconst C dX5_asked___21 ?_
        refine gd_goto (tgt := 26) C dX5_asked___22 (by decide) ?_
        exact hj2 _ (by omega)
    · refine gd_iconst C dX5_asked___13 ?_
      refine gd_goto (tgt := 26) C dX5_asked___14 (by decide) ?_
      exact hj2 _ (by omega)
  · refine gd_iconst C dX5_asked___5 ?_
    refine gd_goto (tgt := 26) C dX5_asked___6 (by decide) ?_
    exact hj2 _ (by omega)

set_option maxRecDepth 100000 in
set_option maxHeartbeats 4000000 in
theorem kX5_told {l : Launch} {D : va_G} {ky : Nat → ClassId} {z : Nat} {w : WT} (hl : l.stackTraces = false) {o : Nat} {A : Nat → Nat} {F : Nat → Int → Int} {G : Nat → Int} (hM : MW w ky o A F G) {x : Int} : Mt l D ky z yX5_told wsX5_told { frames := 0, cells := 0, slots := 0, locals := 0 } [.ref o, .int (iI x)] w (fun r w' => r = some (.int (iI x)) ∧ MV w w' ky o A (F) (nU G 17 0)) (fun _ => False) := by
  refine Mt.of (cc := cX5_told) (ret := (some .int)) (maxL := 2) (by decide) rfl (by intro v hv; simp at hv; rcases hv with rfl | rfl <;> rfl) (Nat.le_of_ble_eq_true rfl) ?_ hl
  intro p e s m args below meth c C htab hret hname Q hQ
  have hMv := hM.V
  refine gd_aload_n C dX5_told_0 rfl ?_
  refine gd_iconst C dX5_told_1 ?_
  refine gm_put C hMv (by decide +kernel) 17 (by decide) (by decide +kernel) rfl rfl dX5_told_2 rfl rfl rfl (fun wm1 hMm1 => ?_)
  refine gd_iload_n C dX5_told_5 rfl ?_
  refine gd_iret C hQ hret dX5_told_6 ?_ ?_
  · exact ⟨rfl, hMm1⟩
  · decide

set_option maxRecDepth 100000 in
set_option maxHeartbeats 4000000 in
theorem kX5_isThere {l : Launch} {D : va_G} {ky : Nat → ClassId} {z : Nat} {w : WT} (hl : l.stackTraces = false) {o : Nat} {A : Nat → Nat} {F : Nat → Int → Int} {G : Nat → Int} (hM : MW w ky o A F G) {T : Int → Int} {v B : Int → Int → Int} {sc dn : Int} (hR : RF F G T v B sc dn) (hI : CI T v B sc dn) {q : Int} (hq : InR q) : Mt l D ky z yX5_isThere wsX5_isThere { frames := 1, cells := 0, slots := 0, locals := 22 } [.ref o, .int (iI q)] w (fun r w' => ∃ b : Int, w = w' ∧ r = some (.int (iI b)) ∧ (b = 1 ∧ (0 ≤ q ∧ q < 16 ∧ v q 2 = 1) ∨ b = 0 ∧ ¬ (0 ≤ q ∧ q < 16 ∧ v q 2 = 1))) (fun _ => False) := by
  refine Mt.of (cc := cX5_isThere) (ret := (some .boolean)) (maxL := 2) (by decide) rfl (by intro v hv; simp at hv; rcases hv with rfl | rfl <;> rfl) (Nat.le_of_ble_eq_true rfl) ?_ hl
  intro p e s m args below meth c C htab hret hname Q hQ
  have hMv := hM.V
  obtain ⟨hR0, hR1, hR2, hR3, hR4⟩ := id hR
  obtain ⟨hi1, hi2, hi3, hi4⟩ := id hI
  refine gd_iload_n C dX5_isThere_0 rfl ?_
  refine gd_iconst C dX5_isThere_1 ?_
  refine gd_bipush C dX5_isThere_2 (by decide) ?_
  refine gd_callS (n := 3) C (kX5_in hl (q := q) (lo := 0) (hi := 15) ?_) gX5_isThere_X5_in rfl ⟨by decide, by decide, by decide +kernel⟩ rfl rfl (Nat.le_of_ble_eq_true rfl) rfl dX5_isThere_4 ⟨⟨by decide, by decide⟩, by decide, by decide⟩ (fun _ h => h.elim) ?_
  · omega
  rintro _ _ ⟨b9, rfl, rfl, hb9⟩
  refine gd_if_eq (tgt := 23) C dX5_isThere_7 (by decide) ?_ (fun hc7 => ?_) (fun hc7 => ?_)
  · omega
  · refine gd_iconst C dX5_isThere_23 ?_
    refine gd_zret C hQ hret ?_ dX5_isThere_24 ?_ ?_
    · omega
    · exact ⟨_, rfl, rfl, by omega⟩
    · decide
  · refine gd_aload_n C dX5_isThere_10 rfl ?_
    refine gm_get C hMv (by decide +kernel) 1 (by decide) (by decide +kernel) rfl dX5_isThere_11 rfl ?_
    refine gd_iload_n C dX5_isThere_14 rfl ?_
    have hf1 := (hR1 q (by omega) (by omega)).1
    have hf2 := (hi2 q (by omega) (by omega)).2.1
    refine gd_zald C dX5_isThere_15 hMv.a1 (by decide) ?_ ?_
    · omega
    refine gd_if_eq (tgt := 23) C dX5_isThere_16 (by decide) ?_ (fun hc16 => ?_) (fun hc16 => ?_)
    · omega
    · refine gd_iconst C dX5_isThere_23 ?_
      refine gd_zret C hQ hret ?_ dX5_isThere_24 ?_ ?_
      · omega
      · exact ⟨_, rfl, rfl, by omega⟩
      · decide
    · refine gd_iconst C dX5_isThere_19 ?_
      refine gd_goto (tgt := 24) C dX5_isThere_20 (by decide) ?_
      refine gd_zret C hQ hret ?_ dX5_isThere_24 ?_ ?_
      · omega
      · exact ⟨_, rfl, rfl, by omega⟩
      · decide

set_option maxRecDepth 100000 in
set_option maxHeartbeats 4000000 in
theorem kX5_isName {l : Launch} {D : va_G} {ky : Nat → ClassId} {z : Nat} {w : WT} (hl : l.stackTraces = false) {q : Int} (hq : InR q) : Mt l D ky z yX5_isName wsX5_isName { frames := 1, cells := 0, slots := 0, locals := 22 } [.int (iI q)] w (fun r w' => ∃ b : Int, w = w' ∧ r = some (.int (iI b)) ∧ (b = 1 ∧ (0 ≤ q ∧ q ≤ 999) ∨ b = 0 ∧ ¬ (0 ≤ q ∧ q ≤ 999))) (fun _ => False) := by
  refine Mt.of (cc := cX5_isName) (ret := (some .boolean)) (maxL := 1) (by decide) rfl (by intro v hv; simp at hv; rcases hv with rfl <;> rfl) (Nat.le_of_ble_eq_true rfl) ?_ hl
  intro p e s m args below meth c C htab hret hname Q hQ
  refine gd_iload_n C dX5_isName_0 rfl ?_
  refine gd_iconst C dX5_isName_1 ?_
  refine gd_sipush C dX5_isName_2 (by decide) ?_
  refine gd_callS (n := 3) C (kX5_in hl (q := q) (lo := 0) (hi := 999) ?_) gX5_isName_X5_in rfl ⟨by decide, by decide, by decide +kernel⟩ rfl rfl (Nat.le_of_ble_eq_true rfl) rfl dX5_isName_5 ⟨⟨by decide, by decide⟩, by decide, by decide⟩ (fun _ h => h.elim) ?_
  · omega
  rintro _ _ ⟨b9, rfl, rfl, hb9⟩
  refine gd_zret C hQ hret ?_ dX5_isName_8 ?_ ?_
  · omega
  · exact ⟨b9, rfl, rfl, by omega⟩
  · decide

set_option maxRecDepth 100000 in
set_option maxHeartbeats 4000000 in
theorem kX5_freeNow {l : Launch} {D : va_G} {ky : Nat → ClassId} {z : Nat} {w : WT} (hl : l.stackTraces = false) {o : Nat} {A : Nat → Nat} {F : Nat → Int → Int} {G : Nat → Int} (hM : MW w ky o A F G) {T : Int → Int} {v B : Int → Int → Int} {sc dn : Int} (hR : RF F G T v B sc dn) (hI : CI T v B sc dn) : Mt l D ky z yX5_freeNow wsX5_freeNow { frames := 0, cells := 0, slots := 0, locals := 0 } [.ref o] w (fun r w' => w = w' ∧ r = some (.int (iI (128 - sI T 0 128)))) (fun _ => False) := by
  refine Mt.of (cc := cX5_freeNow) (ret := (some .int)) (maxL := 3) (by decide) rfl (by intro v hv; simp at hv; rcases hv with rfl <;> rfl) (Nat.le_of_ble_eq_true rfl) ?_ hl
  intro p e s m args below meth c C htab hret hname Q hQ
  have hMv := hM.V
  obtain ⟨hR0, hR1, hR2, hR3, hR4⟩ := id hR
  obtain ⟨hi1, hi2, hi3, hi4⟩ := id hI
  refine gd_iconst C dX5_freeNow_0 ?_
  refine gd_istore_n C dX5_freeNow_1 (Nat.le_of_ble_eq_true rfl) ?_
  refine gd_iconst C dX5_freeNow_2 ?_
  refine gd_istore_n C dX5_freeNow_3 (Nat.le_of_ble_eq_true rfl) ?_
  suffices hloop : ∀ (n : Nat) (i a : Int), 0 ≤ i → i ≤ 128 → (128 - i).toNat = n → a = i - sI T 0 i → Gd p l e ({ frames := 0, cells := 0, slots := 0, locals := 0 }) s m args below meth c D z Q 0 0 w 4 [some (.ref o), some (.int (iI a)), some (.int (iI i))] [] from
    hloop _ 0 _ (by omega) (by omega) rfl (by simp [sI_0])
  intro n
  induction n using Nat.strongRecOn with
  | _ n ih =>
  intro i a h1i h2i hn ha
  have hF0 : i < 128 → F 0 i = 1 - T i := hR0 i h1i
  have hT0 := hi1 i
  refine gd_iload_n C dX5_freeNow_4 rfl ?_
  refine gd_sipush C dX5_freeNow_5 (by decide) ?_
  refine gd_icmp_ge (tgt := 34) C dX5_freeNow_8 (by decide) ?_ ?_ (fun hc8 => ?_) (fun hc8 => ?_)
  · omega
  · omega
  · refine gd_iload_n C dX5_freeNow_34 rfl ?_
    refine gd_iret C hQ hret dX5_freeNow_35 ?_ ?_
    · exact ⟨rfl, by rw [ha, show i = 128 by omega]⟩
    · decide
  · refine gd_iload_n C dX5_freeNow_11 rfl ?_
    refine gd_aload_n C dX5_freeNow_12 rfl ?_
    refine gm_get C hMv (by decide +kernel) 0 (by decide) (by decide +kernel) rfl dX5_freeNow_13 rfl ?_
    refine gd_iload_n C dX5_freeNow_16 rfl ?_
    refine gd_zald C dX5_freeNow_17 hMv.a0 (by decide) ?_ ?_
    · omega
    have hj18 : ∀ x9 : Int, (x9 = 1 ∧ (T i = 0) ∨ x9 = 0 ∧ ¬ (T i = 0)) → Gd p l e ({ frames := 0, cells := 0, slots := 0, locals := 0 }) s m args below meth c D z Q 0 0 w 26 [some (.ref o), some (.int (iI a)), some (.int (iI i))] (.int (iI x9) :: [.int (iI a)]) := by
      intro x9 hvx9
      refine gd_iadd C dX5_freeNow_26 ?_
      refine gd_istore_n C dX5_freeNow_27 (Nat.le_of_ble_eq_true rfl) ?_
      refine gd_iinc C dX5_freeNow_28 rfl ?_
      refine gd_goto (tgt := 4) C dX5_freeNow_31 (by decide) ?_
      exact ih _ (by omega) (i + 1) _ (by omega) (by omega) rfl (by rw [sI_s (by omega)]; omega)
    refine gd_if_eq (tgt := 25) C dX5_freeNow_18 (by decide) ?_ (fun hc18 => ?_) (fun hc18 => ?_)
    · omega
    · refine gd_iconst C dX5_freeNow_25 ?_
      exact hj18 _ (by omega)
    · refine gd_iconst C dX5_freeNow_21 ?_
      refine gd_goto (tgt := 26) C dX5_freeNow_22 (by decide) ?_
      exact hj18 _ (by omega)

set_option maxRecDepth 100000 in
set_option maxHeartbeats 4000000 in
theorem kX5_reservedNow {l : Launch} {D : va_G} {ky : Nat → ClassId} {z : Nat} {w : WT} (hl : l.stackTraces = false) {o : Nat} {A : Nat → Nat} {F : Nat → Int → Int} {G : Nat → Int} (hM : MW w ky o A F G) {T : Int → Int} {v B : Int → Int → Int} {sc dn : Int} (hR : RF F G T v B sc dn) (hI : CI T v B sc dn) : Mt l D ky z yX5_reservedNow wsX5_reservedNow { frames := 0, cells := 0, slots := 0, locals := 0 } [.ref o] w (fun r w' => w = w' ∧ r = some (.int (iI (sI (fun j => v j 4) 0 16)))) (fun _ => False) := by
  refine Mt.of (cc := cX5_reservedNow) (ret := (some .int)) (maxL := 3) (by decide) rfl (by intro v hv; simp at hv; rcases hv with rfl <;> rfl) (Nat.le_of_ble_eq_true rfl) ?_ hl
  intro p e s m args below meth c C htab hret hname Q hQ
  have hMv := hM.V
  obtain ⟨hR0, hR1, hR2, hR3, hR4⟩ := id hR
  obtain ⟨hi1, hi2, hi3, hi4⟩ := id hI
  refine gd_iconst C dX5_reservedNow_0 ?_
  refine gd_istore_n C dX5_reservedNow_1 (Nat.le_of_ble_eq_true rfl) ?_
  refine gd_iconst C dX5_reservedNow_2 ?_
  refine gd_istore_n C dX5_reservedNow_3 (Nat.le_of_ble_eq_true rfl) ?_
  suffices hloop : ∀ (n : Nat) (i a : Int), 0 ≤ i → i ≤ 1024 → (1024 - i).toNat = n → a = sI (fun k => eqI (F 2 k) (-2)) 0 i → Gd p l e ({ frames := 0, cells := 0, slots := 0, locals := 0 }) s m args below meth c D z Q 0 0 w 4 [some (.ref o), some (.int (iI a)), some (.int (iI i))] [] from
    hloop _ 0 _ (by omega) (by omega) rfl (by simp [sI_0])
  intro n
  induction n using Nat.strongRecOn with
  | _ n ih =>
  intro i a h1i h2i hn ha
  have hF2 := fun h => hR.at hI (k := i) ⟨h1i, h⟩
  refine gd_iload_n C dX5_reservedNow_4 rfl ?_
  refine gd_sipush C dX5_reservedNow_5 (by decide) ?_
  refine gd_icmp_ge (tgt := 36) C dX5_reservedNow_8 (by decide) ?_ ?_ (fun hc8 => ?_) (fun hc8 => ?_)
  · omega
  · omega
  · refine gd_iload_n C dX5_reservedNow_36 rfl ?_
    refine gd_iret C hQ hret dX5_reservedNow_37 ?_ ?_
    · exact ⟨rfl, by rw [ha, show i = 1024 by omega, hR.res hI]⟩
    · decide
  · refine gd_iload_n C dX5_reservedNow_11 rfl ?_
    refine gd_aload_n C dX5_reservedNow_12 rfl ?_
    refine gm_get C hMv (by decide +kernel) 2 (by decide) (by decide +kernel) rfl dX5_reservedNow_13 rfl ?_
    refine gd_iload_n C dX5_reservedNow_16 rfl ?_
    refine gd_iald C dX5_reservedNow_17 hMv.a2 (by decide) ?_ ?_
    · omega
    refine gd_bipush C dX5_reservedNow_18 (by decide) ?_
    have hj20 : ∀ x9 : Int, (x9 = 1 ∧ (F 2 i = -2) ∨ x9 = 0 ∧ ¬ (F 2 i = -2)) → Gd p l e ({ frames := 0, cells := 0, slots := 0, locals := 0 }) s m args below meth c D z Q 0 0 w 28 [some (.ref o), some (.int (iI a)), some (.int (iI i))] (.int (iI x9) :: [.int (iI a)]) := by
      intro x9 hvx9
      refine gd_iadd C dX5_reservedNow_28 ?_
      refine gd_istore_n C dX5_reservedNow_29 (Nat.le_of_ble_eq_true rfl) ?_
      refine gd_iinc C dX5_reservedNow_30 rfl ?_
      refine gd_goto (tgt := 4) C dX5_reservedNow_33 (by decide) ?_
      exact ih _ (by omega) (i + 1) _ (by omega) (by omega) rfl (by rw [sI_s (by omega), ← ha]; unfold eqI; split <;> omega)
    refine gd_icmp_ne (tgt := 27) C dX5_reservedNow_20 (by decide) ?_ ?_ (fun hc20 => ?_) (fun hc20 => ?_)
    · omega
    · omega
    · refine gd_iconst C dX5_reservedNow_27 ?_
      exact hj20 _ (by omega)
    · refine gd_iconst C dX5_reservedNow_23 ?_
      refine gd_goto (tgt := 28) C dX5_reservedNow_24 (by decide) ?_
      exact hj20 _ (by omega)

set_option maxRecDepth 100000 in
set_option maxHeartbeats 4000000 in
theorem kX5_keptNow {l : Launch} {D : va_G} {ky : Nat → ClassId} {z : Nat} {w : WT} (hl : l.stackTraces = false) {o : Nat} {A : Nat → Nat} {F : Nat → Int → Int} {G : Nat → Int} (hM : MW w ky o A F G) {T : Int → Int} {v B : Int → Int → Int} {sc dn : Int} (hR : RF F G T v B sc dn) (hI : CI T v B sc dn) : Mt l D ky z yX5_keptNow wsX5_keptNow { frames := 0, cells := 0, slots := 0, locals := 0 } [.ref o] w (fun r w' => w = w' ∧ r = some (.int (iI (sI (fun j => v j 7) 0 16)))) (fun _ => False) := by
  refine Mt.of (cc := cX5_keptNow) (ret := (some .int)) (maxL := 3) (by decide) rfl (by intro v hv; simp at hv; rcases hv with rfl <;> rfl) (Nat.le_of_ble_eq_true rfl) ?_ hl
  intro p e s m args below meth c C htab hret hname Q hQ
  have hMv := hM.V
  obtain ⟨hR0, hR1, hR2, hR3, hR4⟩ := id hR
  obtain ⟨hi1, hi2, hi3, hi4⟩ := id hI
  refine gd_iconst C dX5_keptNow_0 ?_
  refine gd_istore_n C dX5_keptNow_1 (Nat.le_of_ble_eq_true rfl) ?_
  refine gd_iconst C dX5_keptNow_2 ?_
  refine gd_istore_n C dX5_keptNow_3 (Nat.le_of_ble_eq_true rfl) ?_
  suffices hloop : ∀ (n : Nat) (i a : Int), 0 ≤ i → i ≤ 16 → (16 - i).toNat = n → a = sI (fun j => v j 7) 0 i → Gd p l e ({ frames := 0, cells := 0, slots := 0, locals := 0 }) s m args below meth c D z Q 0 0 w 4 [some (.ref o), some (.int (iI a)), some (.int (iI i))] [] from
    hloop _ 0 _ (by omega) (by omega) rfl (by simp [sI_0])
  intro n
  induction n using Nat.strongRecOn with
  | _ n ih =>
  intro i a h1i h2i hn ha
  have hF5 : i < 16 → F 5 i = v i 7 := fun h => (hR1 i h1i h).2.2.2.1
  refine gd_iload_n C dX5_keptNow_4 rfl ?_
  refine gd_bipush C dX5_keptNow_5 (by decide) ?_
  refine gd_icmp_ge (tgt := 25) C dX5_keptNow_7 (by decide) ?_ ?_ (fun hc7 => ?_) (fun hc7 => ?_)
  · omega
  · omega
  · refine gd_iload_n C dX5_keptNow_25 rfl ?_
    refine gd_iret C hQ hret dX5_keptNow_26 ?_ ?_
    · exact ⟨rfl, by rw [ha, show i = 16 by omega]⟩
    · decide
  · refine gd_iload_n C dX5_keptNow_10 rfl ?_
    refine gd_aload_n C dX5_keptNow_11 rfl ?_
    refine gm_get C hMv (by decide +kernel) 5 (by decide) (by decide +kernel) rfl dX5_keptNow_12 rfl ?_
    refine gd_iload_n C dX5_keptNow_15 rfl ?_
    refine gd_iald C dX5_keptNow_16 hMv.a5 (by decide) ?_ ?_
    · omega
    refine gd_iadd C dX5_keptNow_17 ?_
    refine gd_istore_n C dX5_keptNow_18 (Nat.le_of_ble_eq_true rfl) ?_
    refine gd_iinc C dX5_keptNow_19 rfl ?_
    refine gd_goto (tgt := 4) C dX5_keptNow_22 (by decide) ?_
    exact ih _ (by omega) (i + 1) _ (by omega) (by omega) rfl (by rw [sI_s (by omega), ← ha]; omega)

set_option maxRecDepth 100000 in
set_option maxHeartbeats 4000000 in
theorem kX5_left {l : Launch} {D : va_G} {ky : Nat → ClassId} {z : Nat} {w : WT} (hl : l.stackTraces = false) {o : Nat} {A : Nat → Nat} {F : Nat → Int → Int} {G : Nat → Int} (hM : MW w ky o A F G) {T : Int → Int} {v B : Int → Int → Int} {sc dn : Int} (hR : RF F G T v B sc dn) (hI : CI T v B sc dn) : Mt l D ky z yX5_left wsX5_left { frames := 1, cells := 0, slots := 0, locals := 22 } [.ref o] w (fun r w' => w = w' ∧ r = some (.int (iI (lF T v)))) (fun _ => False) := by
  refine Mt.of (cc := cX5_left) (ret := (some .int)) (maxL := 1) (by decide) rfl (by intro v hv; simp at hv; rcases hv with rfl <;> rfl) (Nat.le_of_ble_eq_true rfl) ?_ hl
  intro p e s m args below meth c C htab hret hname Q hQ
  have hMv := hM.V
  obtain ⟨hR0, hR1, hR2, hR3, hR4⟩ := id hR
  obtain ⟨hi1, hi2, hi3, hi4⟩ := id hI
  refine gd_aload_n C dX5_left_0 rfl ?_
  refine gd_callV (n := 0) (ci := 5) (Cn := RX5) (T := TX5) (N := 18) C (kX5_freeNow hl hM hR hI) ?_ rfl gX5_left_X5_freeNow rfl ⟨rfl, by decide, by decide, by decide +kernel⟩ rfl rfl (Nat.le_of_ble_eq_true rfl) rfl dX5_left_1 ⟨⟨by decide, by decide⟩, by decide, by decide⟩ (fun _ h => h.elim) ?_
  · exact ⟨_, by exact hMv.ob⟩
  rintro _ _ ⟨rfl, rfl⟩
  refine gd_aload_n C dX5_left_4 rfl ?_
  refine gd_callV (n := 0) (ci := 5) (Cn := RX5) (T := TX5) (N := 18) C (kX5_reservedNow hl hM hR hI) ?_ rfl gX5_left_X5_reservedNow rfl ⟨rfl, by decide, by decide, by decide +kernel⟩ rfl rfl (Nat.le_of_ble_eq_true rfl) rfl dX5_left_5 ⟨⟨by decide, by decide⟩, by decide, by decide⟩ (fun _ h => h.elim) ?_
  · exact ⟨_, by exact hMv.ob⟩
  rintro _ _ ⟨rfl, rfl⟩
  refine gd_isub C dX5_left_8 ?_
  refine gd_iret C hQ hret dX5_left_9 ?_ ?_
  · exact ⟨rfl, rfl⟩
  · decide
