set_option maxRecDepth 100000 in
set_option maxHeartbeats 4000000 in
theorem kX2_areFree {l : Launch} {D : va_G} {ky : Nat → ClassId} {z : Nat} {w : WT} (hl : l.stackTraces = false) {g t : Nat} {fb : Int} {T : Int → Int} (hg : w g = some (cG t fb)) (ht : w t = some (iA (ky 1) 128 T)) (hT : ∀ i, T i = 0 ∨ T i = 1) {a q : Int} (ha : InR a) (hq : 0 ≤ q ∧ q ≤ 128) : Mt l D ky z yX2_areFree wsX2_areFree { frames := 0, cells := 0, slots := 0, locals := 0 } [.ref g, .int (iI a), .int (iI q)] w (fun r w' => ∃ b : Int, w = w' ∧ r = some (.int (iI b)) ∧ (b = 1 ∧ (0 ≤ a ∧ q ≤ 128 - a ∧ aF T a q) ∨ b = 0 ∧ ¬ (0 ≤ a ∧ q ≤ 128 - a ∧ aF T a q))) (fun _ => False) := by
  refine Mt.of (cc := cX2_areFree) (ret := (some .boolean)) (maxL := 4) (by decide) rfl (by intro v hv; simp at hv; rcases hv with rfl | rfl | rfl <;> rfl) (Nat.le_of_ble_eq_true rfl) ?_ hl
  intro p e s m args below meth c C htab hret hname Q hQ
  refine gd_iload_n C dX2_areFree_0 rfl ?_
  refine gd_if_lt (tgt := 13) C dX2_areFree_1 (by decide) ?_ (fun hc1 => ?_) (fun hc1 => ?_)
  · omega
  · refine gd_iconst C dX2_areFree_13 ?_
    refine gd_zret C hQ hret ?_ dX2_areFree_14 ?_ ?_
    · omega
    · exact ⟨0, rfl, rfl, Or.inr ⟨rfl, fun h => by omega⟩⟩
    · decide
  · refine gd_iload_n C dX2_areFree_4 rfl ?_
    refine gd_sipush C dX2_areFree_5 (by decide) ?_
    refine gd_iload_n C dX2_areFree_8 rfl ?_
    refine gd_isub C dX2_areFree_9 ?_
    refine gd_icmp_le (tgt := 15) C dX2_areFree_10 (by decide) ?_ ?_ (fun hc10 => ?_) (fun hc10 => ?_)
    · omega
    · omega
    · refine gd_iload_n C dX2_areFree_15 rfl ?_
      refine gd_istore_n C dX2_areFree_16 (Nat.le_of_ble_eq_true rfl) ?_
      suffices hloop : ∀ (n : Nat) (i : Int), a ≤ i → i ≤ a + q → (a + q - i).toNat = n → (∀ j, a ≤ j → j < i → T j = 0) → Gd p l e ({ frames := 0, cells := 0, slots := 0, locals := 0 }) s m args below meth c D z Q 0 0 w 17 [some (.ref g), some (.int (iI a)), some (.int (iI q)), some (.int (iI i))] [] from
        hloop _ a (by omega) (by omega) rfl (fun j h1 h2 => by omega)
      intro n
      induction n using Nat.strongRecOn with
      | _ n ih =>
      intro i hi1 hi2 hn hall
      have hT1 := hT i
      refine gd_iload_n C dX2_areFree_17 rfl ?_
      refine gd_iload_n C dX2_areFree_18 rfl ?_
      refine gd_iload_n C dX2_areFree_19 rfl ?_
      refine gd_iadd C dX2_areFree_20 ?_
      refine gd_icmp_ge (tgt := 41) C dX2_areFree_21 (by decide) ?_ ?_ (fun hc21 => ?_) (fun hc21 => ?_)
      · omega
      · omega
      · refine gd_iconst C dX2_areFree_41 ?_
        refine gd_zret C hQ hret ?_ dX2_areFree_42 ?_ ?_
        · omega
        · exact ⟨1, rfl, rfl, Or.inl ⟨rfl, by omega, by omega, fun j h1 h2 => hall j h1 (by omega)⟩⟩
        · decide
      · refine gd_aload_n C dX2_areFree_24 rfl ?_
        apply gd_get (ci := 2) (Cn := RX2) (T := TX2) (N := 2) (ref := RX2) C rfl (by decide +kernel) 0 (by decide) (by decide +kernel) rfl dX2_areFree_25
        · first | assumption | exact wU_s _ _ _ | exact look1 (by assumption) (by assumption) | exact look2 (by assumption) (by assumption)
        · rfl
        refine gd_iload_n C dX2_areFree_28 rfl ?_
        apply gd_zald C dX2_areFree_29
        · first | assumption | exact wU_s _ _ _ | exact look1 (by assumption) (by assumption) | exact look2 (by assumption) (by assumption)
        · decide
        · omega
        refine gd_if_eq (tgt := 35) C dX2_areFree_30 (by decide) ?_ (fun hc30 => ?_) (fun hc30 => ?_)
        · omega
        · refine gd_iinc C dX2_areFree_35 rfl ?_
          refine gd_goto (tgt := 17) C dX2_areFree_38 (by decide) ?_
          exact ih _ (by omega) _ (by omega) (by omega) rfl (fun j h1 h2 => by
            by_cases hj : j = i
            · rw [hj]; omega
            · exact hall j h1 (by omega))
        · refine gd_iconst C dX2_areFree_33 ?_
          refine gd_zret C hQ hret ?_ dX2_areFree_34 ?_ ?_
          · omega
          · exact ⟨0, rfl, rfl, Or.inr ⟨rfl, fun h => by have := h.2.2 i (by omega) (by omega); omega⟩⟩
          · decide
    · refine gd_iconst C dX2_areFree_13 ?_
      refine gd_zret C hQ hret ?_ dX2_areFree_14 ?_ ?_
      · omega
      · exact ⟨0, rfl, rfl, Or.inr ⟨rfl, fun h => by omega⟩⟩
      · decide

set_option maxRecDepth 100000 in
set_option maxHeartbeats 4000000 in
theorem kX2_isFreePiece {l : Launch} {D : va_G} {ky : Nat → ClassId} {z : Nat} {w : WT} (hl : l.stackTraces = false) {g t : Nat} {fb : Int} {T : Int → Int} (hg : w g = some (cG t fb)) (ht : w t = some (iA (ky 1) 128 T)) (hT : ∀ i, T i = 0 ∨ T i = 1) {a q : Int} (ha : 0 ≤ a ∧ a < 128) (hq : q = 1 ∨ q = 2 ∨ q = 4 ∨ q = 8 ∨ q = 16 ∨ q = 32) : Mt l D ky z yX2_isFreePiece wsX2_isFreePiece { frames := 1, cells := 0, slots := 0, locals := 23 } [.ref g, .int (iI a), .int (iI q)] w (fun r w' => ∃ b : Int, w = w' ∧ r = some (.int (iI b)) ∧ (b = 1 ∧ aP T q a ∨ b = 0 ∧ ¬ aP T q a)) (fun _ => False) := by
  refine Mt.of (cc := cX2_isFreePiece) (ret := (some .boolean)) (maxL := 3) (by decide) rfl (by intro v hv; simp at hv; rcases hv with rfl | rfl | rfl <;> rfl) (Nat.le_of_ble_eq_true rfl) ?_ hl
  intro p e s m args below meth c C htab hret hname Q hQ
  refine gd_iload_n C dX2_isFreePiece_0 rfl ?_
  refine gd_iload_n C dX2_isFreePiece_1 rfl ?_
  refine gd_iconst C dX2_isFreePiece_2 ?_
  refine gd_isub C dX2_isFreePiece_3 ?_
  refine gd_iand C dX2_isFreePiece_4 ?_ ?_
  · omega
  refine gd_if_ne (tgt := 21) C dX2_isFreePiece_5 (by decide) ?_ (fun hc5 => ?_) (fun hc5 => ?_)
  · (have := Int.emod_nonneg a (b := q - 1 + 1) (by omega)); (have := Int.emod_lt_of_pos a (b := q - 1 + 1) (by omega)); omega
  · refine gd_iconst C dX2_isFreePiece_21 ?_
    refine gd_zret C hQ hret ?_ dX2_isFreePiece_22 ?_ ?_
    · omega
    · first
        | (refine ⟨1, rfl, rfl, Or.inl ⟨rfl, ?_, ?_⟩⟩
           · have e : q - 1 + 1 = q := by omega
             rw [e] at hc5
             omega
           · rcases hb with hb | hb
             · exact hb.2.2.2
             · omega)
        | (refine ⟨0, rfl, rfl, Or.inr ⟨rfl, fun h => ?_⟩⟩
           rcases hb with hb | hb
           · omega
           · have h1 := h.1
             refine hb.2 ⟨by omega, ?_, h.2⟩
             rcases hq with rfl | rfl | rfl | rfl | rfl | rfl <;> omega)
        | (refine ⟨0, rfl, rfl, Or.inr ⟨rfl, fun h => hc5 ?_⟩⟩
           have e : q - 1 + 1 = q := by omega
           rw [e]
           exact h.1)
    · decide
  · refine gd_aload_n C dX2_isFreePiece_8 rfl ?_
    refine gd_iload_n C dX2_isFreePiece_9 rfl ?_
    refine gd_iload_n C dX2_isFreePiece_10 rfl ?_
    refine gd_callV (n := 2) (ci := 2) (Cn := RX2) (T := TX2) (N := 2) C (kX2_areFree hl hg ht hT (a := a) (q := q) ?_ ?_) ?_ rfl gX2_isFreePiece_X2_areFree rfl ⟨rfl, by decide, by decide, by decide +kernel⟩ rfl rfl (Nat.le_of_ble_eq_true rfl) rfl dX2_isFreePiece_11 ⟨⟨by decide, by decide⟩, by decide, by decide⟩ (fun _ h => h.elim) ?_
    · omega
    · omega
    · exact ⟨_, by assumption⟩
    rintro _ _ ⟨b, rfl, rfl, hb⟩
    refine gd_if_eq (tgt := 21) C dX2_isFreePiece_14 (by decide) ?_ (fun hc14 => ?_) (fun hc14 => ?_)
    · omega
    · refine gd_iconst C dX2_isFreePiece_21 ?_
      refine gd_zret C hQ hret ?_ dX2_isFreePiece_22 ?_ ?_
      · omega
      · first
          | (refine ⟨1, rfl, rfl, Or.inl ⟨rfl, ?_, ?_⟩⟩
             · have e : q - 1 + 1 = q := by omega
               rw [e] at hc5
               omega
             · rcases hb with hb | hb
               · exact hb.2.2.2
               · omega)
          | (refine ⟨0, rfl, rfl, Or.inr ⟨rfl, fun h => ?_⟩⟩
             rcases hb with hb | hb
             · omega
             · have h1 := h.1
               refine hb.2 ⟨by omega, ?_, h.2⟩
               rcases hq with rfl | rfl | rfl | rfl | rfl | rfl <;> omega)
          | (refine ⟨0, rfl, rfl, Or.inr ⟨rfl, fun h => hc5 ?_⟩⟩
             have e : q - 1 + 1 = q := by omega
             rw [e]
             exact h.1)
      · decide
    · refine gd_iconst C dX2_isFreePiece_17 ?_
      refine gd_goto (tgt := 22) C dX2_isFreePiece_18 (by decide) ?_
      refine gd_zret C hQ hret ?_ dX2_isFreePiece_22 ?_ ?_
      · omega
      · first
          | (refine ⟨1, rfl, rfl, Or.inl ⟨rfl, ?_, ?_⟩⟩
             · have e : q - 1 + 1 = q := by omega
               rw [e] at hc5
               omega
             · rcases hb with hb | hb
               · exact hb.2.2.2
               · omega)
          | (refine ⟨0, rfl, rfl, Or.inr ⟨rfl, fun h => ?_⟩⟩
             rcases hb with hb | hb
             · omega
             · have h1 := h.1
               refine hb.2 ⟨by omega, ?_, h.2⟩
               rcases hq with rfl | rfl | rfl | rfl | rfl | rfl <;> omega)
          | (refine ⟨0, rfl, rfl, Or.inr ⟨rfl, fun h => hc5 ?_⟩⟩
             have e : q - 1 + 1 = q := by omega
             rw [e]
             exact h.1)
      · decide

set_option maxRecDepth 100000 in
set_option maxHeartbeats 4000000 in
theorem kX2_mark {l : Launch} {D : va_G} {ky : Nat → ClassId} {z : Nat} {w : WT} (hl : l.stackTraces = false) {g t : Nat} {fb : Int} {T : Int → Int} (hg : w g = some (cG t fb)) (ht : w t = some (iA (ky 1) 128 T)) (hT : ∀ i, T i = 0 ∨ T i = 1) {a q x : Int} (ha : 0 ≤ a ∧ 0 ≤ q ∧ a + q ≤ 128) (hx : x = 0 ∨ x = 1) : Mt l D ky z yX2_mark wsX2_mark { frames := 0, cells := 0, slots := 0, locals := 0 } [.ref g, .int (iI a), .int (iI q), .int (iI x)] w (fun r w' => r = none ∧ w' t = some (iA (ky 1) 128 (tkF T a q x)) ∧ w' g = some (cG t (fb + sI T a (a + q) - x * q)) ∧ ∀ y, y ≠ t → y ≠ g → w' y = w y) (fun _ => False) := by
  refine Mt.of (cc := cX2_mark) (ret := none) (maxL := 5) (by decide) rfl (by intro v hv; simp at hv; rcases hv with rfl | rfl | rfl | rfl <;> rfl) (Nat.le_of_ble_eq_true rfl) ?_ hl
  intro p e s m args below meth c C htab hret hname Q hQ
  refine gd_iload_n C dX2_mark_0 rfl ?_
  refine gd_if_lt (tgt := 13) C dX2_mark_1 (by decide) ?_ (fun hc1 => ?_) (fun hc1 => ?_)
  · omega
  · refine gd_vret C hQ hret dX2_mark_13 ?_ ?_
    · exfalso; omega
    · decide
  · refine gd_iload_n C dX2_mark_4 rfl ?_
    refine gd_sipush C dX2_mark_5 (by decide) ?_
    refine gd_iload_n C dX2_mark_8 rfl ?_
    refine gd_isub C dX2_mark_9 ?_
    refine gd_icmp_le (tgt := 14) C dX2_mark_10 (by decide) ?_ ?_ (fun hc10 => ?_) (fun hc10 => ?_)
    · omega
    · omega
    · refine gd_iload_n C dX2_mark_14 rfl ?_
      refine gd_istore C dX2_mark_15 (Nat.le_of_ble_eq_true rfl) ?_
      suffices hloop : ∀ (n : Nat) (i : Int) (w1 : WT), a ≤ i → i ≤ a + q → (a + q - i).toNat = n → w1 t = some (iA (ky 1) 128 (tkF T a (i - a) x)) → w1 g = some (cG t (fb + sI T a i - x * (i - a))) → (∀ y, y ≠ t → y ≠ g → w1 y = w y) → Gd p l e ({ frames := 0, cells := 0, slots := 0, locals := 0 }) s m args below meth c D z Q 0 0 w1 17 [some (.ref g), some (.int (iI a)), some (.int (iI q)), some (.int (iI x)), some (.int (iI i))] [] from
        hloop _ a w (by omega) (by omega) rfl (by rw [Int.sub_self, tkF_0]; exact ht) (by rw [sI_0, Int.sub_self, Int.mul_zero, Int.add_zero, Int.sub_zero]; exact hg) (fun _ _ _ => rfl)
      intro n
      induction n using Nat.strongRecOn with
      | _ n ih =>
      intro i w1 hi1 hi2 hn ht1 hg1 hfr
      have hT1 := hT i
      have hge : tkF T a (i - a) x i = T i := tkF_ge (by omega)
      have hne : g ≠ t := kd_ne hg1 ht1
      refine gd_iload C dX2_mark_17 rfl ?_
      refine gd_iload_n C dX2_mark_19 rfl ?_
      refine gd_iload_n C dX2_mark_20 rfl ?_
      refine gd_iadd C dX2_mark_21 ?_
      refine gd_icmp_ge (tgt := 68) C dX2_mark_22 (by decide) ?_ ?_ (fun hc22 => ?_) (fun hc22 => ?_)
      · omega
      · omega
      · refine gd_vret C hQ hret dX2_mark_68 ?_ ?_
        · have e : i = a + q := by omega
          subst e
          rw [show a + q - a = q by omega] at ht1 hg1
          exact ⟨rfl, ht1, hg1, hfr⟩
        · decide
      · refine gd_aload_n C dX2_mark_25 rfl ?_
        apply gd_get (ci := 2) (Cn := RX2) (T := TX2) (N := 2) (ref := RX2) C rfl (by decide +kernel) 0 (by decide) (by decide +kernel) rfl dX2_mark_26
        · first | assumption | exact wU_s _ _ _ | exact look1 (by assumption) (by assumption) | exact look2 (by assumption) (by assumption)
        · rfl
        refine gd_iload C dX2_mark_29 rfl ?_
        apply gd_zald C dX2_mark_31
        · first | assumption | exact wU_s _ _ _ | exact look1 (by assumption) (by assumption) | exact look2 (by assumption) (by assumption)
        · decide
        · omega
        refine gd_iload_n C dX2_mark_32 rfl ?_
        refine gd_icmp_eq (tgt := 62) C dX2_mark_33 (by decide) ?_ ?_ (fun hc33 => ?_) (fun hc33 => ?_)
        · omega
        · omega
        · refine gd_iinc C dX2_mark_62 rfl ?_
          refine gd_goto (tgt := 17) C dX2_mark_65 (by decide) ?_
          first
            | exact ih _ (by omega) _ _ (by omega) (by omega) rfl (by rw [show i + 1 - a = (i - a) + 1 by omega, tkF_s (by omega), show a + (i - a) = i by omega, fU_idd (by omega)]; assumption) (by rw [sI_s (by omega), show x * (i + 1 - a) = x * (i - a) + x by rw [show i + 1 - a = (i - a) + 1 by omega, Int.mul_add, Int.mul_one], show fb + (sI T a i + T i) - (x * (i - a) + x) = fb + sI T a i - x * (i - a) by omega]; assumption) hfr
            | exact ih _ (by omega) _ _ (by omega) (by omega) rfl (by rw [show i + 1 - a = (i - a) + 1 by omega, tkF_s (by omega), show a + (i - a) = i by omega]; exact look2 (wU_s _ _ _) hne) (by
                refine (wU_s _ _ _).trans (congrArg (fun q => some (cG t q)) ?_)
                rw [sI_s (by omega), show x * (i + 1 - a) = x * (i - a) + x by rw [show i + 1 - a = (i - a) + 1 by omega, Int.mul_add, Int.mul_one]]
                omega) (fun y h1 h2 => by rw [wU_n h2, wU_n h1]; exact hfr y h1 h2)
        · refine gd_aload_n C dX2_mark_36 rfl ?_
          apply gd_get (ci := 2) (Cn := RX2) (T := TX2) (N := 2) (ref := RX2) C rfl (by decide +kernel) 0 (by decide) (by decide +kernel) rfl dX2_mark_37
          · first | assumption | exact wU_s _ _ _ | exact look1 (by assumption) (by assumption) | exact look2 (by assumption) (by assumption)
          · rfl
          refine gd_iload C dX2_mark_40 rfl ?_
          refine gd_iload_n C dX2_mark_42 rfl ?_
          apply gd_zast C dX2_mark_43
          · first | assumption | exact wU_s _ _ _ | exact look1 (by assumption) (by assumption) | exact look2 (by assumption) (by assumption)
          · decide
          · omega
          · omega
          refine gd_aload_n C dX2_mark_44 rfl ?_
          refine gd_dup C dX2_mark_45 rfl ?_
          apply gd_get (ci := 2) (Cn := RX2) (T := TX2) (N := 2) (ref := RX2) C rfl (by decide +kernel) 1 (by decide) (by decide +kernel) rfl dX2_mark_46
          · first | assumption | exact wU_s _ _ _ | exact look1 (by assumption) (by assumption) | exact look2 (by assumption) (by assumption)
          · rfl
          refine gd_iload_n C dX2_mark_49 rfl ?_
          refine gd_if_eq (tgt := 57) C dX2_mark_50 (by decide) ?_ (fun hc50 => ?_) (fun hc50 => ?_)
          · omega
          · refine gd_iconst C dX2_mark_57 ?_
            refine gd_iadd C dX2_mark_58 ?_
            apply gd_put (ci := 2) (Cn := RX2) (T := TX2) (N := 2) (ref := RX2) C rfl (by decide +kernel) tyX2 tyX2_ok nmX2 1 (by decide) (by decide +kernel) rfl rfl dX2_mark_59
            · first | assumption | exact wU_s _ _ _ | exact look1 (by assumption) (by assumption) | exact look2 (by assumption) (by assumption)
            · rfl
            · rfl
            · exact Nat.le_of_ble_eq_true rfl
            refine gd_iinc C dX2_mark_62 rfl ?_
            refine gd_goto (tgt := 17) C dX2_mark_65 (by decide) ?_
            first
              | exact ih _ (by omega) _ _ (by omega) (by omega) rfl (by rw [show i + 1 - a = (i - a) + 1 by omega, tkF_s (by omega), show a + (i - a) = i by omega, fU_idd (by omega)]; assumption) (by rw [sI_s (by omega), show x * (i + 1 - a) = x * (i - a) + x by rw [show i + 1 - a = (i - a) + 1 by omega, Int.mul_add, Int.mul_one], show fb + (sI T a i + T i) - (x * (i - a) + x) = fb + sI T a i - x * (i - a) by omega]; assumption) hfr
              | exact ih _ (by omega) _ _ (by omega) (by omega) rfl (by rw [show i + 1 - a = (i - a) + 1 by omega, tkF_s (by omega), show a + (i - a) = i by omega]; exact look2 (wU_s _ _ _) hne) (by
                  refine (wU_s _ _ _).trans (congrArg (fun q => some (cG t q)) ?_)
                  rw [sI_s (by omega), show x * (i + 1 - a) = x * (i - a) + x by rw [show i + 1 - a = (i - a) + 1 by omega, Int.mul_add, Int.mul_one]]
                  omega) (fun y h1 h2 => by rw [wU_n h2, wU_n h1]; exact hfr y h1 h2)
          · refine gd_iconst C dX2_mark_53 ?_
            refine gd_goto (tgt := 58) C dX2_mark_54 (by decide) ?_
            refine gd_iadd C dX2_mark_58 ?_
            apply gd_put (ci := 2) (Cn := RX2) (T := TX2) (N := 2) (ref := RX2) C rfl (by decide +kernel) tyX2 tyX2_ok nmX2 1 (by decide) (by decide +kernel) rfl rfl dX2_mark_59
            · first | assumption | exact wU_s _ _ _ | exact look1 (by assumption) (by assumption) | exact look2 (by assumption) (by assumption)
            · rfl
            · rfl
            · exact Nat.le_of_ble_eq_true rfl
            refine gd_iinc C dX2_mark_62 rfl ?_
            refine gd_goto (tgt := 17) C dX2_mark_65 (by decide) ?_
            first
              | exact ih _ (by omega) _ _ (by omega) (by omega) rfl (by rw [show i + 1 - a = (i - a) + 1 by omega, tkF_s (by omega), show a + (i - a) = i by omega, fU_idd (by omega)]; assumption) (by rw [sI_s (by omega), show x * (i + 1 - a) = x * (i - a) + x by rw [show i + 1 - a = (i - a) + 1 by omega, Int.mul_add, Int.mul_one], show fb + (sI T a i + T i) - (x * (i - a) + x) = fb + sI T a i - x * (i - a) by omega]; assumption) hfr
              | exact ih _ (by omega) _ _ (by omega) (by omega) rfl (by rw [show i + 1 - a = (i - a) + 1 by omega, tkF_s (by omega), show a + (i - a) = i by omega]; exact look2 (wU_s _ _ _) hne) (by
                  refine (wU_s _ _ _).trans (congrArg (fun q => some (cG t q)) ?_)
                  rw [sI_s (by omega), show x * (i + 1 - a) = x * (i - a) + x by rw [show i + 1 - a = (i - a) + 1 by omega, Int.mul_add, Int.mul_one]]
                  omega) (fun y h1 h2 => by rw [wU_n h2, wU_n h1]; exact hfr y h1 h2)
    · refine gd_vret C hQ hret dX2_mark_13 ?_ ?_
      · exfalso; omega
      · decide

set_option maxRecDepth 100000 in
set_option maxHeartbeats 4000000 in
theorem kX2_take {l : Launch} {D : va_G} {ky : Nat → ClassId} {z : Nat} {w : WT} (hl : l.stackTraces = false) {g t : Nat} {fb : Int} {T : Int → Int} (hg : w g = some (cG t fb)) (ht : w t = some (iA (ky 1) 128 T)) (hT : ∀ i, T i = 0 ∨ T i = 1) {a q : Int} (ha : 0 ≤ a ∧ 0 ≤ q ∧ a + q ≤ 128) : Mt l D ky z yX2_take wsX2_take { frames := 1, cells := 0, slots := 0, locals := 24 } [.ref g, .int (iI a), .int (iI q)] w (fun r w' => r = none ∧ w' t = some (iA (ky 1) 128 (tkF T a q 1)) ∧ w' g = some (cG t (fb + sI T a (a + q) - 1 * q)) ∧ ∀ y, y ≠ t → y ≠ g → w' y = w y) (fun _ => False) := by
  refine Mt.of (cc := cX2_take) (ret := none) (maxL := 3) (by decide) rfl (by intro v hv; simp at hv; rcases hv with rfl | rfl | rfl <;> rfl) (Nat.le_of_ble_eq_true rfl) ?_ hl
  intro p e s m args below meth c C htab hret hname Q hQ
  refine gd_aload_n C dX2_take_0 rfl ?_
  refine gd_iload_n C dX2_take_1 rfl ?_
  refine gd_iload_n C dX2_take_2 rfl ?_
  refine gd_iconst C dX2_take_3 ?_
  refine gd_callV (n := 3) (ci := 2) (Cn := RX2) (T := TX2) (N := 2) C (kX2_mark hl hg ht hT (a := a) (q := q) (x := 1) ?_ ?_) ?_ rfl gX2_take_X2_mark rfl ⟨rfl, by decide, by decide, by decide +kernel⟩ rfl rfl (Nat.le_of_ble_eq_true rfl) rfl dX2_take_4 ⟨⟨by decide, by decide⟩, by decide, by decide⟩ (fun _ h => h.elim) ?_
  · omega
  · omega
  · exact ⟨_, by assumption⟩
  rintro _ _ ⟨rfl, h1, h2, h3⟩
  refine gd_vret C hQ hret dX2_take_7 ?_ ?_
  · exact ⟨rfl, h1, h2, h3⟩
  · decide

set_option maxRecDepth 100000 in
set_option maxHeartbeats 4000000 in
theorem kX2_release {l : Launch} {D : va_G} {ky : Nat → ClassId} {z : Nat} {w : WT} (hl : l.stackTraces = false) {g t : Nat} {fb : Int} {T : Int → Int} (hg : w g = some (cG t fb)) (ht : w t = some (iA (ky 1) 128 T)) (hT : ∀ i, T i = 0 ∨ T i = 1) {a q : Int} (ha : 0 ≤ a ∧ 0 ≤ q ∧ a + q ≤ 128) : Mt l D ky z yX2_release wsX2_release { frames := 1, cells := 0, slots := 0, locals := 24 } [.ref g, .int (iI a), .int (iI q)] w (fun r w' => r = none ∧ w' t = some (iA (ky 1) 128 (tkF T a q 0)) ∧ w' g = some (cG t (fb + sI T a (a + q) - 0 * q)) ∧ ∀ y, y ≠ t → y ≠ g → w' y = w y) (fun _ => False) := by
  refine Mt.of (cc := cX2_release) (ret := none) (maxL := 3) (by decide) rfl (by intro v hv; simp at hv; rcases hv with rfl | rfl | rfl <;> rfl) (Nat.le_of_ble_eq_true rfl) ?_ hl
  intro p e s m args below meth c C htab hret hname Q hQ
  refine gd_aload_n C dX2_release_0 rfl ?_
  refine gd_iload_n C dX2_release_1 rfl ?_
  refine gd_iload_n C dX2_release_2 rfl ?_
  refine gd_iconst C dX2_release_3 ?_
  refine gd_callV (n := 3) (ci := 2) (Cn := RX2) (T := TX2) (N := 2) C (kX2_mark hl hg ht hT (a := a) (q := q) (x := 0) ?_ ?_) ?_ rfl gX2_release_X2_mark rfl ⟨rfl, by decide, by decide, by decide +kernel⟩ rfl rfl (Nat.le_of_ble_eq_true rfl) rfl dX2_release_4 ⟨⟨by decide, by decide⟩, by decide, by decide⟩ (fun _ h => h.elim) ?_
  · omega
  · omega
  · exact ⟨_, by assumption⟩
  rintro _ _ ⟨rfl, h1, h2, h3⟩
  refine gd_vret C hQ hret dX2_release_7 ?_ ?_
  · exact ⟨rfl, h1, h2, h3⟩
  · decide

set_option maxRecDepth 100000 in
set_option maxHeartbeats 4000000 in
theorem kX2_firstPiece {l : Launch} {D : va_G} {ky : Nat → ClassId} {z : Nat} {w : WT} (hl : l.stackTraces = false) {g t : Nat} {fb : Int} {T : Int → Int} (hg : w g = some (cG t fb)) (ht : w t = some (iA (ky 1) 128 T)) (hT : ∀ i, T i = 0 ∨ T i = 1) {k q : Int} (hk : 0 ≤ k ∧ k < 4) (hq : q = 1 ∨ q = 2 ∨ q = 4 ∨ q = 8 ∨ q = 16 ∨ q = 32) : Mt l D ky z yX2_firstPiece wsX2_firstPiece { frames := 2, cells := 0, slots := 0, locals := 45 } [.ref g, .int (iI k), .int (iI q)] w (fun r w' => w = w' ∧ r = some (.int (iI (fP T k q)))) (fun _ => False) := by
  refine Mt.of (cc := cX2_firstPiece) (ret := (some .int)) (maxL := 5) (by decide) rfl (by intro v hv; simp at hv; rcases hv with rfl | rfl | rfl <;> rfl) (Nat.le_of_ble_eq_true rfl) ?_ hl
  intro p e s m args below meth c C htab hret hname Q hQ
  refine gd_iload_n C dX2_firstPiece_0 rfl ?_
  refine gd_bipush C dX2_firstPiece_1 (by decide) ?_
  refine gd_imul C dX2_firstPiece_3 ?_
  refine gd_istore_n C dX2_firstPiece_4 (Nat.le_of_ble_eq_true rfl) ?_
  refine gd_iload_n C dX2_firstPiece_5 rfl ?_
  refine gd_istore C dX2_firstPiece_6 (Nat.le_of_ble_eq_true rfl) ?_
  suffices hloop : ∀ (n : Nat) (i : Int), 32 * k ≤ i → i ≤ 32 * k + 32 → (32 * k + 32 - i).toNat = n → fP T k q = fF (aP T q) i (32 * k + 32) → Gd p l e ({ frames := 2, cells := 0, slots := 0, locals := 45 }) s m args below meth c D z Q 0 0 w 8 [some (.ref g), some (.int (iI k)), some (.int (iI q)), some (.int (iI (k * 32))), some (.int (iI i))] [] from
    hloop _ (k * 32) (by omega) (by omega) rfl (by unfold fP; rw [show k * 32 = 32 * k by omega])
  intro n
  induction n using Nat.strongRecOn with
  | _ n ih =>
  intro i hi1 hi2 hn hall
  refine gd_iload C dX2_firstPiece_8 rfl ?_
  refine gd_iload_n C dX2_firstPiece_10 rfl ?_
  refine gd_bipush C dX2_firstPiece_11 (by decide) ?_
  refine gd_iadd C dX2_firstPiece_13 ?_
  refine gd_icmp_ge (tgt := 36) C dX2_firstPiece_14 (by decide) ?_ ?_ (fun hc14 => ?_) (fun hc14 => ?_)
  · omega
  · omega
  · refine gd_iconst C dX2_firstPiece_36 ?_
    refine gd_iret C hQ hret dX2_firstPiece_37 ?_ ?_
    · exact ⟨rfl, by rw [hall, fF_end (by omega)]⟩
    · decide
  · refine gd_aload_n C dX2_firstPiece_17 rfl ?_
    refine gd_iload C dX2_firstPiece_18 rfl ?_
    refine gd_iload_n C dX2_firstPiece_20 rfl ?_
    refine gd_callV (n := 2) (ci := 2) (Cn := RX2) (T := TX2) (N := 2) C (kX2_isFreePiece hl hg ht hT (a := i) (q := q) ?_ hq) ?_ rfl gX2_firstPiece_X2_isFreePiece rfl ⟨rfl, by decide, by decide, by decide +kernel⟩ rfl rfl (Nat.le_of_ble_eq_true rfl) rfl dX2_firstPiece_21 ⟨⟨by decide, by decide⟩, by decide, by decide⟩ (fun _ h => h.elim) ?_
    · omega
    · exact ⟨_, by assumption⟩
    rintro _ _ ⟨b, rfl, rfl, hb⟩
    refine gd_if_eq (tgt := 30) C dX2_firstPiece_24 (by decide) ?_ (fun hc24 => ?_) (fun hc24 => ?_)
    · omega
    · refine gd_iinc C dX2_firstPiece_30 rfl ?_
      refine gd_goto (tgt := 8) C dX2_firstPiece_33 (by decide) ?_
      exact ih _ (by omega) _ (by omega) (by omega) rfl (by rw [hall]; exact fF_miss (by omega) (by rcases hb with hb | hb; exact absurd hb.1 (by omega); exact hb.2))
    · refine gd_iload C dX2_firstPiece_27 rfl ?_
      refine gd_iret C hQ hret dX2_firstPiece_29 ?_ ?_
      · exact ⟨rfl, by rw [hall, fF_hit (by omega) (by rcases hb with hb | hb; exact hb.2; exact absurd hb.1 (by omega))]⟩
      · decide

set_option maxRecDepth 100000 in
set_option maxHeartbeats 4000000 in
theorem kX2_find {l : Launch} {D : va_G} {ky : Nat → ClassId} {z : Nat} {w : WT} (hl : l.stackTraces = false) {g t : Nat} {fb : Int} {T : Int → Int} (hg : w g = some (cG t fb)) (ht : w t = some (iA (ky 1) 128 T)) (hT : ∀ i, T i = 0 ∨ T i = 1) {a q : Int} (ha : 0 ≤ a ∧ a < 128) (hq : q = 1 ∨ q = 2 ∨ q = 4 ∨ q = 8 ∨ q = 16) : Mt l D ky z yX2_find wsX2_find { frames := 3, cells := 0, slots := 0, locals := 69 } [.ref g, .int (iI a), .int (iI q)] w (fun r w' => w = w' ∧ r = some (.int (iI (fD T a q)))) (fun _ => False) := by
  refine Mt.of (cc := cX2_find) (ret := (some .int)) (maxL := 7) (by decide) rfl (by intro v hv; simp at hv; rcases hv with rfl | rfl | rfl <;> rfl) (Nat.le_of_ble_eq_true rfl) ?_ hl
  intro p e s m args below meth c C htab hret hname Q hQ
  refine gd_iload_n C dX2_find_0 rfl ?_
  refine gd_bipush C dX2_find_1 (by decide) ?_
  refine gd_idiv C dX2_find_3 ?_ ?_
  · omega
  refine gd_istore_n C dX2_find_4 (Nat.le_of_ble_eq_true rfl) ?_
  have h39 : fD T a q = fT T (a / 32) q 4 → Gd p l e ({ frames := 3, cells := 0, slots := 0, locals := 69 }) s m args below meth c D z Q 0 0 w 39 [some (.ref g), some (.int (iI a)), some (.int (iI q)), some (.int (iI (a / 32))), none, none, none] [] := by
    intro hD
    refine gd_iconst C dX2_find_39 ?_
    refine gd_istore C dX2_find_40 (Nat.le_of_ble_eq_true rfl) ?_
    suffices hloop : ∀ (n : Nat) (i : Int), 0 ≤ i → i ≤ 4 → (4 - i).toNat = n → fD T a q = fT T (a / 32) q (4 - i).toNat → Gd p l e ({ frames := 3, cells := 0, slots := 0, locals := 69 }) s m args below meth c D z Q 0 0 w 42 [some (.ref g), some (.int (iI a)), some (.int (iI q)), some (.int (iI (a / 32))), none, some (.int (iI i)), none] [] from
      hloop _ 0 (by omega) (by omega) rfl hD
    intro n
    induction n using Nat.strongRecOn with
    | _ n ih =>
    intro i hi1 hi2 hn hall
    refine gd_iload C dX2_find_42 rfl ?_
    refine gd_iconst C dX2_find_44 ?_
    refine gd_icmp_ge (tgt := 76) C dX2_find_45 (by decide) ?_ ?_ (fun hc45 => ?_) (fun hc45 => ?_)
    · omega
    · omega
    · refine gd_iconst C dX2_find_76 ?_
      refine gd_iret C hQ hret dX2_find_77 ?_ ?_
      · exact ⟨rfl, by rw [hall, show i = 4 by omega]; rfl⟩
      · decide
    · refine gd_aload_n C dX2_find_48 rfl ?_
      refine gd_iload_n C dX2_find_49 rfl ?_
      refine gd_iload C dX2_find_50 rfl ?_
      refine gd_iadd C dX2_find_52 ?_
      refine gd_iconst C dX2_find_53 ?_
      refine gd_irem C dX2_find_54 ?_ ?_
      · omega
      refine gd_iload_n C dX2_find_55 rfl ?_
      refine gd_callV (n := 2) (ci := 2) (Cn := RX2) (T := TX2) (N := 2) C (kX2_firstPiece hl hg ht hT (k := (a / 32 + i) % 4) (q := q) ?_ ?_) ?_ rfl gX2_find_X2_firstPiece rfl ⟨rfl, by decide, by decide, by decide +kernel⟩ rfl rfl (Nat.le_of_ble_eq_true rfl) rfl dX2_find_56 ⟨⟨by decide, by decide⟩, by decide, by decide⟩ (fun _ h => h.elim) ?_
      · omega
      · omega
      · exact ⟨_, by assumption⟩
      rintro _ _ ⟨rfl, rfl⟩
      have hfp := fP_bd T ((a / 32 + i) % 4) q (by omega)
      refine gd_istore C dX2_find_59 (Nat.le_of_ble_eq_true rfl) ?_
      refine gd_iload C dX2_find_61 rfl ?_
      refine gd_iconst C dX2_find_63 ?_
      refine gd_icmp_eq (tgt := 70) C dX2_find_64 (by decide) ?_ ?_ (fun hc64 => ?_) (fun hc64 => ?_)
      · omega
      · omega
      · refine gd_iinc C dX2_find_70 rfl ?_
        refine gd_goto (tgt := 42) C dX2_find_73 (by decide) ?_
        exact Gd.sub (by repeat (first | exact Lsb.nil | exact Lsb.rf _ | refine Lsb.keep ?_ | refine Lsb.drop ?_)) (ih _ (by omega) _ (by omega) (by omega) rfl (by rw [hall]; exact fT_miss (by omega) (by omega)))
      · refine gd_iload C dX2_find_67 rfl ?_
        refine gd_iret C hQ hret dX2_find_69 ?_ ?_
        · exact ⟨rfl, by rw [hall, fT_hit (by omega) (by omega)]⟩
        · decide
  refine gd_iload_n C dX2_find_5 rfl ?_
  refine gd_bipush C dX2_find_6 (by decide) ?_
  refine gd_irem C dX2_find_8 ?_ ?_
  · omega
  refine gd_iload_n C dX2_find_9 rfl ?_
  refine gd_iadd C dX2_find_10 ?_
  refine gd_bipush C dX2_find_11 (by decide) ?_
  refine gd_icmp_gt (tgt := 20) C dX2_find_13 (by decide) ?_ ?_ (fun hc13 => ?_) (fun hc13 => ?_)
  · omega
  · omega
  · refine gd_iconst C dX2_find_20 ?_
    refine gd_istore C dX2_find_21 (Nat.le_of_ble_eq_true rfl) ?_
    refine gd_iload C dX2_find_23 rfl ?_
    refine gd_if_eq (tgt := 39) C dX2_find_25 (by decide) ?_ (fun hc25 => ?_) (fun hc25 => ?_)
    · omega
    · first
      | (exfalso; omega)
      | (
        exact Gd.sub (by repeat (first | exact Lsb.nil | exact Lsb.rf _ | refine Lsb.keep ?_ | refine Lsb.drop ?_)) (h39 (if_neg (fun h => by first | omega | (rcases hb with hb | hb; omega; exact hb.2 ⟨by omega, by omega, h.2⟩)))))
    · first
      | (exfalso; omega)
      | (
        refine gd_aload_n C dX2_find_28 rfl ?_
        refine gd_iload_n C dX2_find_29 rfl ?_
        refine gd_iload_n C dX2_find_30 rfl ?_
        refine gd_callV (n := 2) (ci := 2) (Cn := RX2) (T := TX2) (N := 2) C (kX2_areFree hl hg ht hT (a := a) (q := q) ?_ ?_) ?_ rfl gX2_find_X2_areFree rfl ⟨rfl, by decide, by decide, by decide +kernel⟩ rfl rfl (Nat.le_of_ble_eq_true rfl) rfl dX2_find_31 ⟨⟨by decide, by decide⟩, by decide, by decide⟩ (fun _ h => h.elim) ?_
        · omega
        · omega
        · exact ⟨_, by assumption⟩
        rintro _ _ ⟨b, rfl, rfl, hb⟩
        refine gd_if_eq (tgt := 39) C dX2_find_34 (by decide) ?_ (fun hc34 => ?_) (fun hc34 => ?_)
        · omega
        · exact Gd.sub (by repeat (first | exact Lsb.nil | exact Lsb.rf _ | refine Lsb.keep ?_ | refine Lsb.drop ?_)) (h39 (if_neg (fun h => by first | omega | (rcases hb with hb | hb; omega; exact hb.2 ⟨by omega, by omega, h.2⟩))))
        · refine gd_iload_n C dX2_find_37 rfl ?_
          refine gd_iret C hQ hret dX2_find_38 ?_ ?_
          · exact ⟨rfl, by
              have h : a % 32 + q ≤ 32 ∧ aF T a q := ⟨by omega, by rcases hb with hb | hb; exact hb.2.2.2; exact absurd hb.1 (by omega)⟩
              rw [show fD T a q = a from if_pos h]⟩
          · decide)
  · refine gd_iconst C dX2_find_16 ?_
    refine gd_goto (tgt := 21) C dX2_find_17 (by decide) ?_
    refine gd_istore C dX2_find_21 (Nat.le_of_ble_eq_true rfl) ?_
    refine gd_iload C dX2_find_23 rfl ?_
    refine gd_if_eq (tgt := 39) C dX2_find_25 (by decide) ?_ (fun hc25 => ?_) (fun hc25 => ?_)
    · omega
    · first
      | (exfalso; omega)
      | (
        exact Gd.sub (by repeat (first | exact Lsb.nil | exact Lsb.rf _ | refine Lsb.keep ?_ | refine Lsb.drop ?_)) (h39 (if_neg (fun h => by first | omega | (rcases hb with hb | hb; omega; exact hb.2 ⟨by omega, by omega, h.2⟩)))))
    · first
      | (exfalso; omega)
      | (
        refine gd_aload_n C dX2_find_28 rfl ?_
        refine gd_iload_n C dX2_find_29 rfl ?_
        refine gd_iload_n C dX2_find_30 rfl ?_
        refine gd_callV (n := 2) (ci := 2) (Cn := RX2) (T := TX2) (N := 2) C (kX2_areFree hl hg ht hT (a := a) (q := q) ?_ ?_) ?_ rfl gX2_find_X2_areFree rfl ⟨rfl, by decide, by decide, by decide +kernel⟩ rfl rfl (Nat.le_of_ble_eq_true rfl) rfl dX2_find_31 ⟨⟨by decide, by decide⟩, by decide, by decide⟩ (fun _ h => h.elim) ?_
        · omega
        · omega
        · exact ⟨_, by assumption⟩
        rintro _ _ ⟨b, rfl, rfl, hb⟩
        refine gd_if_eq (tgt := 39) C dX2_find_34 (by decide) ?_ (fun hc34 => ?_) (fun hc34 => ?_)
        · omega
        · exact Gd.sub (by repeat (first | exact Lsb.nil | exact Lsb.rf _ | refine Lsb.keep ?_ | refine Lsb.drop ?_)) (h39 (if_neg (fun h => by first | omega | (rcases hb with hb | hb; omega; exact hb.2 ⟨by omega, by omega, h.2⟩))))
        · refine gd_iload_n C dX2_find_37 rfl ?_
          refine gd_iret C hQ hret dX2_find_38 ?_ ?_
          · exact ⟨rfl, by
              have h : a % 32 + q ≤ 32 ∧ aF T a q := ⟨by omega, by rcases hb with hb | hb; exact hb.2.2.2; exact absurd hb.1 (by omega)⟩
              rw [show fD T a q = a from if_pos h]⟩
          · decide)

set_option maxRecDepth 100000 in
set_option maxHeartbeats 4000000 in
theorem kX2_countPieces {l : Launch} {D : va_G} {ky : Nat → ClassId} {z : Nat} {w : WT} (hl : l.stackTraces = false) {g t : Nat} {fb : Int} {T : Int → Int} (hg : w g = some (cG t fb)) (ht : w t = some (iA (ky 1) 128 T)) (hT : ∀ i, T i = 0 ∨ T i = 1) {k q : Int} (hk : 0 ≤ k ∧ k < 4) (hq : q = 1 ∨ q = 2 ∨ q = 4 ∨ q = 8 ∨ q = 16 ∨ q = 32) : Mt l D ky z yX2_countPieces wsX2_countPieces { frames := 2, cells := 0, slots := 0, locals := 45 } [.ref g, .int (iI k), .int (iI q)] w (fun r w' => w = w' ∧ r = some (.int (iI (sI (fun y => pI (aP T q y)) (32 * k) (32 * k + 32))))) (fun _ => False) := by
  refine Mt.of (cc := cX2_countPieces) (ret := (some .int)) (maxL := 6) (by decide) rfl (by intro v hv; simp at hv; rcases hv with rfl | rfl | rfl <;> rfl) (Nat.le_of_ble_eq_true rfl) ?_ hl
  intro p e s m args below meth c C htab hret hname Q hQ
  refine gd_iload_n C dX2_countPieces_0 rfl ?_
  refine gd_bipush C dX2_countPieces_1 (by decide) ?_
  refine gd_imul C dX2_countPieces_3 ?_
  refine gd_istore_n C dX2_countPieces_4 (Nat.le_of_ble_eq_true rfl) ?_
  refine gd_iconst C dX2_countPieces_5 ?_
  refine gd_istore C dX2_countPieces_6 (Nat.le_of_ble_eq_true rfl) ?_
  refine gd_iload_n C dX2_countPieces_8 rfl ?_
  refine gd_istore C dX2_countPieces_9 (Nat.le_of_ble_eq_true rfl) ?_
  suffices hloop : ∀ (n : Nat) (i x : Int), 32 * k ≤ i → i ≤ 32 * k + 32 → (32 * k + 32 - i).toNat = n → x = sI (fun y => pI (aP T q y)) (32 * k) i → Gd p l e ({ frames := 2, cells := 0, slots := 0, locals := 45 }) s m args below meth c D z Q 0 0 w 11 [some (.ref g), some (.int (iI k)), some (.int (iI q)), some (.int (iI (k * 32))), some (.int (iI x)), some (.int (iI i))] [] from
    hloop _ (k * 32) 0 (by omega) (by omega) rfl (by rw [show k * 32 = 32 * k by omega, sI_0])
  intro n
  induction n using Nat.strongRecOn with
  | _ n ih =>
  intro i x hi1 hi2 hn ha
  refine gd_iload C dX2_countPieces_11 rfl ?_
  refine gd_iload_n C dX2_countPieces_13 rfl ?_
  refine gd_bipush C dX2_countPieces_14 (by decide) ?_
  refine gd_iadd C dX2_countPieces_16 ?_
  refine gd_icmp_ge (tgt := 46) C dX2_countPieces_17 (by decide) ?_ ?_ (fun hc17 => ?_) (fun hc17 => ?_)
  · omega
  · omega
  · refine gd_iload C dX2_countPieces_46 rfl ?_
    refine gd_iret C hQ hret dX2_countPieces_48 ?_ ?_
    · exact ⟨rfl, by rw [ha, show i = 32 * k + 32 by omega]⟩
    · decide
  · refine gd_iload C dX2_countPieces_20 rfl ?_
    refine gd_aload_n C dX2_countPieces_22 rfl ?_
    refine gd_iload C dX2_countPieces_23 rfl ?_
    refine gd_iload_n C dX2_countPieces_25 rfl ?_
    refine gd_callV (n := 2) (ci := 2) (Cn := RX2) (T := TX2) (N := 2) C (kX2_isFreePiece hl hg ht hT (a := i) (q := q) ?_ hq) ?_ rfl gX2_countPieces_X2_isFreePiece rfl ⟨rfl, by decide, by decide, by decide +kernel⟩ rfl rfl (Nat.le_of_ble_eq_true rfl) rfl dX2_countPieces_26 ⟨⟨by decide, by decide⟩, by decide, by decide⟩ (fun _ h => h.elim) ?_
    · omega
    · exact ⟨_, by assumption⟩
    rintro _ _ ⟨b, rfl, rfl, hb⟩
    refine gd_if_eq (tgt := 36) C dX2_countPieces_29 (by decide) ?_ (fun hc29 => ?_) (fun hc29 => ?_)
    · omega
    · refine gd_iconst C dX2_countPieces_36 ?_
      refine gd_iadd C dX2_countPieces_37 ?_
      refine gd_istore C dX2_countPieces_38 (Nat.le_of_ble_eq_true rfl) ?_
      refine gd_iinc C dX2_countPieces_40 rfl ?_
      refine gd_goto (tgt := 11) C dX2_countPieces_43 (by decide) ?_
      exact ih _ (by omega) _ _ (by omega) (by omega) rfl (by
        rw [sI_s (by omega), ← ha]
        rcases hb with hb | hb
        · first | (rw [pI_t hb.2]; omega) | (rw [pI_t hb.2]; done) | (exfalso; omega)
        · first | (rw [pI_f hb.2]; omega) | (rw [pI_f hb.2]; done) | (exfalso; omega))
    · refine gd_iconst C dX2_countPieces_32 ?_
      refine gd_goto (tgt := 37) C dX2_countPieces_33 (by decide) ?_
      refine gd_iadd C dX2_countPieces_37 ?_
      refine gd_istore C dX2_countPieces_38 (Nat.le_of_ble_eq_true rfl) ?_
      refine gd_iinc C dX2_countPieces_40 rfl ?_
      refine gd_goto (tgt := 11) C dX2_countPieces_43 (by decide) ?_
      exact ih _ (by omega) _ _ (by omega) (by omega) rfl (by
        rw [sI_s (by omega), ← ha]
        rcases hb with hb | hb
        · first | (rw [pI_t hb.2]; omega) | (rw [pI_t hb.2]; done) | (exfalso; omega)
        · first | (rw [pI_f hb.2]; omega) | (rw [pI_f hb.2]; done) | (exfalso; omega))
