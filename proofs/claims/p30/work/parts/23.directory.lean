set_option maxRecDepth 100000 in
set_option maxHeartbeats 4000000 in
theorem kX1_isFull {l : Launch} {D : va_G} {ky : Nat → ClassId} {z : Nat} {w : WT} (hl : l.stackTraces = false) {d : Nat} {la na fa : Int → Nat} {n : Int} {lo co ct : Int → Int} {nm fl : Int → Int → Int} (hd : DW w ky d la na fa n lo co ct nm fl) (hr : DR n lo co ct nm fl) : Mt l D ky z yX1_isFull wsX1_isFull { frames := 0, cells := 0, slots := 0, locals := 0 } [.ref d] w (fun r w' => ∃ b : Int, w = w' ∧ r = some (.int (iI b)) ∧ (b = 1 ∧ 512 ≤ n ∨ b = 0 ∧ ¬ 512 ≤ n)) (fun _ => False) := by
  refine Mt.of (cc := cX1_isFull) (ret := (some .boolean)) (maxL := 1) (by decide) rfl (by intro v hv; simp at hv; rcases hv with rfl <;> rfl) (Nat.le_of_ble_eq_true rfl) ?_ hl
  intro p e s m args below meth c C htab hret hname Q hQ
  obtain ⟨hd0, hdl, hdi⟩ := id hd
  obtain ⟨hr1, hr2, hr3, hr4, hr5, hr6⟩ := id hr
  refine gd_aload_n C dX1_isFull_0 rfl ?_
  apply gd_get (ci := 1) (Cn := RX1) (T := TX1) (N := 2) (ref := RX1) C rfl (by decide +kernel) 1 (by decide) (by decide +kernel) rfl dX1_isFull_1
  · first | assumption | exact (hdl _ (by omega) (by omega)).1 | exact wU_s _ _ _
  · rfl
  refine gd_sipush C dX1_isFull_4 (by decide) ?_
  refine gd_icmp_lt (tgt := 14) C dX1_isFull_7 (by decide) ?_ ?_ (fun hc7 => ?_) (fun hc7 => ?_)
  · omega
  · omega
  · refine gd_iconst C dX1_isFull_14 ?_
    refine gd_zret C hQ hret ?_ dX1_isFull_15 ?_ ?_
    · omega
    · exact ⟨_, rfl, rfl, by omega⟩
    · decide
  · refine gd_iconst C dX1_isFull_10 ?_
    refine gd_goto (tgt := 15) C dX1_isFull_11 (by decide) ?_
    refine gd_zret C hQ hret ?_ dX1_isFull_15 ?_ ?_
    · omega
    · exact ⟨_, rfl, rfl, by omega⟩
    · decide

set_option maxRecDepth 100000 in
set_option maxHeartbeats 4000000 in
theorem kX1_lastLeafFor {l : Launch} {D : va_G} {ky : Nat → ClassId} {z : Nat} {w : WT} (hl : l.stackTraces = false) {d : Nat} {la na fa : Int → Nat} {n : Int} {lo co ct : Int → Int} {nm fl : Int → Int → Int} (hd : DW w ky d la na fa n lo co ct nm fl) (hr : DR n lo co ct nm fl) {q : Int} (hq : InR q) : Mt l D ky z yX1_lastLeafFor wsX1_lastLeafFor { frames := 0, cells := 0, slots := 0, locals := 0 } [.ref d, .int (iI q)] w (fun r w' => w = w' ∧ r = some (.ref (la (lL lo n q)))) (fun _ => False) := by
  refine Mt.of (cc := cX1_lastLeafFor) (ret := (some (.object "Buddyfield$Leaf"))) (maxL := 4) (by decide) rfl (by intro v hv; simp at hv; rcases hv with rfl | rfl <;> rfl) (Nat.le_of_ble_eq_true rfl) ?_ hl
  intro p e s m args below meth c C htab hret hname Q hQ
  obtain ⟨hd0, hdl, hdi⟩ := id hd
  obtain ⟨hr1, hr2, hr3, hr4, hr5, hr6⟩ := id hr
  refine gd_aload_n C dX1_lastLeafFor_0 rfl ?_
  apply gd_get (ci := 1) (Cn := RX1) (T := TX1) (N := 2) (ref := RX1) C rfl (by decide +kernel) 0 (by decide) (by decide +kernel) rfl dX1_lastLeafFor_1
  · first | assumption | exact (hdl _ (by omega) (by omega)).1 | exact wU_s _ _ _
  · rfl
  refine gd_astore_n C dX1_lastLeafFor_4 (Nat.le_of_ble_eq_true rfl) ?_
  refine gd_aload_n C dX1_lastLeafFor_5 rfl ?_
  apply gd_get (ci := 1) (Cn := RX1) (T := TX1) (N := 2) (ref := RX1) C rfl (by decide +kernel) 0 (by decide) (by decide +kernel) rfl dX1_lastLeafFor_6
  · first | assumption | exact (hdl _ (by omega) (by omega)).1 | exact wU_s _ _ _
  · rfl
  refine gd_astore_n C dX1_lastLeafFor_9 (Nat.le_of_ble_eq_true rfl) ?_
  suffices hloop : ∀ (n9 : Nat) (i : Int) (v3 : Value), 0 ≤ i → i ≤ n → (n - i).toNat = n9 → v3 = va_rf (lq la n i) → Gd p l e ({ frames := 0, cells := 0, slots := 0, locals := 0 }) s m args below meth c D z Q 0 0 w 10 [some (.ref d), some (.int (iI q)), some (.ref (la (lL lo i q))), some v3] [] from
    hloop _ 0 _ (by omega) (by omega) rfl (by rw [lq_lt (by omega)]; rfl)
  intro n9
  induction n9 using Nat.strongRecOn with
  | _ n9 ih =>
  intro i v3 hi1 hi2 hn9 hv3
  have hr2i := hr2 i
  by_cases hin : i < n
  · rw [lq_lt hin] at hv3
    subst hv3
    refine gd_aload_n C dX1_lastLeafFor_10 rfl ?_
    refine gd_ifnull C dX1_lastLeafFor_11 ?_
    refine gd_aload_n C dX1_lastLeafFor_14 rfl ?_
    apply gd_getN (host := RX4) (ci := 3) (Cn := RX3) (T := TX3) (N := 7) (ref := RX3) C rfl (by decide +kernel) 0 (by decide) (by decide +kernel) rfl dX1_lastLeafFor_15
    · first | assumption | exact (hdl _ (by omega) (by omega)).1 | exact wU_s _ _ _
    · rfl
    refine gd_iload_n C dX1_lastLeafFor_18 rfl ?_
    refine gd_icmp_gt (tgt := 24) C dX1_lastLeafFor_19 (by decide) ?_ ?_ (fun hc19 => ?_) (fun hc19 => ?_)
    · omega
    · omega
    · refine gd_aload_n C dX1_lastLeafFor_24 rfl ?_
      apply gd_getN (host := RX4) (ci := 3) (Cn := RX3) (T := TX3) (N := 7) (ref := RX3) C rfl (by decide +kernel) 6 (by decide) (by decide +kernel) rfl dX1_lastLeafFor_25
      · first | assumption | exact (hdl _ (by omega) (by omega)).1 | exact wU_s _ _ _
      · rfl
      refine gd_astore_nq C dX1_lastLeafFor_28 (Nat.le_of_ble_eq_true rfl) ?_
      refine gd_goto (tgt := 10) C dX1_lastLeafFor_29 (by decide) ?_
      have e1 := lL_s (lo := lo) (h := q) hi1
      first
        | (rw [if_pos (by omega)] at e1; refine Gd.sub (ls' := [some (.ref d), some (.int (iI q)), some (.ref (la (lL lo (i + 1) q))), _]) ?_ (ih _ (by omega) (i + 1) _ (by omega) (by omega) rfl rfl); rw [e1]; exact Lsb.rf _)
        | (rw [if_neg (by omega)] at e1; refine Gd.sub (ls' := [some (.ref d), some (.int (iI q)), some (.ref (la (lL lo (i + 1) q))), _]) ?_ (ih _ (by omega) (i + 1) _ (by omega) (by omega) rfl rfl); rw [e1]; exact Lsb.rf _)
    · refine gd_aload_n C dX1_lastLeafFor_22 rfl ?_
      refine gd_astore_n C dX1_lastLeafFor_23 (Nat.le_of_ble_eq_true rfl) ?_
      refine gd_aload_n C dX1_lastLeafFor_24 rfl ?_
      apply gd_getN (host := RX4) (ci := 3) (Cn := RX3) (T := TX3) (N := 7) (ref := RX3) C rfl (by decide +kernel) 6 (by decide) (by decide +kernel) rfl dX1_lastLeafFor_25
      · first | assumption | exact (hdl _ (by omega) (by omega)).1 | exact wU_s _ _ _
      · rfl
      refine gd_astore_nq C dX1_lastLeafFor_28 (Nat.le_of_ble_eq_true rfl) ?_
      refine gd_goto (tgt := 10) C dX1_lastLeafFor_29 (by decide) ?_
      have e1 := lL_s (lo := lo) (h := q) hi1
      first
        | (rw [if_pos (by omega)] at e1; refine Gd.sub (ls' := [some (.ref d), some (.int (iI q)), some (.ref (la (lL lo (i + 1) q))), _]) ?_ (ih _ (by omega) (i + 1) _ (by omega) (by omega) rfl rfl); rw [e1]; exact Lsb.rf _)
        | (rw [if_neg (by omega)] at e1; refine Gd.sub (ls' := [some (.ref d), some (.int (iI q)), some (.ref (la (lL lo (i + 1) q))), _]) ?_ (ih _ (by omega) (i + 1) _ (by omega) (by omega) rfl rfl); rw [e1]; exact Lsb.rf _)
  · rw [lq_ge hin] at hv3
    subst hv3
    refine gd_aload_nN C dX1_lastLeafFor_10 rfl ?_
    refine gd_ifnullN (tgt := 32) C dX1_lastLeafFor_11 (by decide) ?_
    refine gd_aload_n C dX1_lastLeafFor_32 rfl ?_
    refine gd_aret C hQ hret dX1_lastLeafFor_33 ?_ ?_
    · have e1 : i = n := by omega
      subst e1
      exact ⟨rfl, rfl⟩
    · decide

set_option maxRecDepth 100000 in
set_option maxHeartbeats 4000000 in
theorem kX1_firstLookedAt {l : Launch} {D : va_G} {ky : Nat → ClassId} {z : Nat} {w : WT} (hl : l.stackTraces = false) {d : Nat} {la na fa : Int → Nat} {n : Int} {lo co ct : Int → Int} {nm fl : Int → Int → Int} (hd : DW w ky d la na fa n lo co ct nm fl) (hr : DR n lo co ct nm fl) {q : Int} (hq : 0 ≤ q ∧ q ≤ 999) : Mt l D ky z yX1_firstLookedAt wsX1_firstLookedAt { frames := 1, cells := 0, slots := 0, locals := 23 } [.ref d, .int (iI q)] w (fun r w' => w = w' ∧ r = some (.ref (la (fLk n lo co q)))) (fun _ => False) := by
  refine Mt.of (cc := cX1_firstLookedAt) (ret := (some (.object "Buddyfield$Leaf"))) (maxL := 4) (by decide) rfl (by intro v hv; simp at hv; rcases hv with rfl | rfl <;> rfl) (Nat.le_of_ble_eq_true rfl) ?_ hl
  intro p e s m args below meth c C htab hret hname Q hQ
  obtain ⟨hd0, hdl, hdi⟩ := id hd
  obtain ⟨hr1, hr2, hr3, hr4, hr5, hr6⟩ := id hr
  refine gd_iload_n C dX1_firstLookedAt_0 rfl ?_
  refine gd_callSN (n := 1) (host := RX4) C (kX4_hashOf hl (q := q) hq) gX1_firstLookedAt_X4_hashOf_n24 rfl (by decide +kernel) (by decide +kernel) (by decide +kernel) ⟨by decide, by decide, by decide +kernel⟩ rfl rfl (Nat.le_of_ble_eq_true rfl) rfl dX1_firstLookedAt_1 ⟨⟨by decide, by decide⟩, by decide, by decide⟩ (fun _ h => h.elim) ?_
  rintro _ _ ⟨rfl, rfl⟩
  have hbq := hs_bd q
  refine gd_istore_n C dX1_firstLookedAt_4 (Nat.le_of_ble_eq_true rfl) ?_
  refine gd_aload_n C dX1_firstLookedAt_5 rfl ?_
  refine gd_iload_n C dX1_firstLookedAt_6 rfl ?_
  refine gd_callV (n := 1) (ci := 1) (Cn := RX1) (T := TX1) (N := 2) C (kX1_lastLeafFor hl hd hr (q := hs q) (by omega)) ?_ rfl gX1_firstLookedAt_X1_lastLeafFor rfl ⟨rfl, by decide, by decide, by decide +kernel⟩ rfl rfl (Nat.le_of_ble_eq_true rfl) rfl dX1_firstLookedAt_7 ⟨⟨by decide, by decide⟩, by decide, by decide⟩ (fun _ h => h.elim) ?_
  · exact ⟨_, by exact hd0⟩
  rintro _ _ ⟨rfl, rfl⟩
  refine gd_astore_n C dX1_firstLookedAt_10 (Nat.le_of_ble_eq_true rfl) ?_
  suffices hloop : ∀ (n9 : Nat) (i : Int), 0 ≤ i → i < n → i.toNat = n9 → fLk n lo co q = bK lo co (hs q) i → Gd p l e ({ frames := 1, cells := 0, slots := 0, locals := 23 }) s m args below meth c D z Q 0 0 w 11 [some (.ref d), some (.int (iI q)), some (.int (iI (hs q))), some (.ref (la i))] [] from
    hloop _ _ (lL_bd lo (hs q) hr1.1).1 (lL_bd lo (hs q) hr1.1).2 rfl rfl
  intro n9
  induction n9 using Nat.strongRecOn with
  | _ n9 ih =>
  intro i hi1 hi2 hn9 hall
  have hr2i := hr2 i
  have hdi1 := hdl i hi1 hi2
  refine gd_aload_n C dX1_firstLookedAt_11 rfl ?_
  refine gd_iload_n C dX1_firstLookedAt_12 rfl ?_
  refine gd_callVN (n := 1) (ci := 3) (Cn := RX3) (T := TX3) (N := 7) (host := RX4) C (kX3_continues hl hdi1.1 (q := hs q) ⟨by omega, by omega⟩ (hr3 i)) ?_ rfl gX1_firstLookedAt_X3_continues_n61 rfl (by decide +kernel) (by decide +kernel) (by decide +kernel) (by decide +kernel) ⟨by decide, by decide, by decide +kernel⟩ rfl rfl (Nat.le_of_ble_eq_true rfl) rfl dX1_firstLookedAt_13 ⟨⟨by decide, by decide⟩, by decide, by decide⟩ (fun _ h => h.elim) ?_
  · exact ⟨_, by exact hdi1.1⟩
  rintro _ _ ⟨b, rfl, rfl, hb⟩
  refine gd_if_eq (tgt := 34) C dX1_firstLookedAt_16 (by decide) ?_ (fun hc16 => ?_) (fun hc16 => ?_)
  · omega
  · refine gd_aload_n C dX1_firstLookedAt_34 rfl ?_
    refine gd_aret C hQ hret dX1_firstLookedAt_35 ?_ ?_
    · first
        | (have hi0 : i = 0 := by
             by_cases h : i = 0
             · exact h
             · unfold bq at hc23; rw [if_neg h] at hc23; cases hc23
           subst hi0
           exact ⟨rfl, by rw [hall]; rfl⟩)
        | (by_cases h0 : i = 0
           · subst h0; exact ⟨rfl, by rw [hall]; rfl⟩
           · exact ⟨rfl, by rw [hall, bK_f (by omega) (by omega)]⟩)
    · decide
  · refine gd_aload_n C dX1_firstLookedAt_19 rfl ?_
    apply gd_getN (host := RX4) (ci := 3) (Cn := RX3) (T := TX3) (N := 7) (ref := RX3) C rfl (by decide +kernel) 5 (by decide) (by decide +kernel) rfl dX1_firstLookedAt_20
    · exact hdi1.1
    · rfl
    refine gd_ifnullq (tgt := 34) C dX1_firstLookedAt_23 (by decide) (fun hc23 => ?_) (fun x23 hc23 => ?_)
    · refine gd_aload_n C dX1_firstLookedAt_34 rfl ?_
      refine gd_aret C hQ hret dX1_firstLookedAt_35 ?_ ?_
      · first
          | (have hi0 : i = 0 := by
               by_cases h : i = 0
               · exact h
               · unfold bq at hc23; rw [if_neg h] at hc23; cases hc23
             subst hi0
             exact ⟨rfl, by rw [hall]; rfl⟩)
          | (by_cases h0 : i = 0
             · subst h0; exact ⟨rfl, by rw [hall]; rfl⟩
             · exact ⟨rfl, by rw [hall, bK_f (by omega) (by omega)]⟩)
      · decide
    · refine gd_aload_n C dX1_firstLookedAt_26 rfl ?_
      apply gd_getN (host := RX4) (ci := 3) (Cn := RX3) (T := TX3) (N := 7) (ref := RX3) C rfl (by decide +kernel) 5 (by decide) (by decide +kernel) rfl dX1_firstLookedAt_27
      · exact hdi1.1
      · rfl
      have hi0 : ¬ i = 0 := fun h => by unfold bq at hc23; rw [if_pos h] at hc23; cases hc23
      rw [show bq la i = some (la (i - 1)) from if_neg hi0]
      change Gd _ _ _ _ _ _ _ _ _ _ _ _ _ _ _ _ _ _ (Value.ref (la (i - 1)) :: _)
      refine gd_astore_n C dX1_firstLookedAt_30 (Nat.le_of_ble_eq_true rfl) ?_
      refine gd_goto (tgt := 11) C dX1_firstLookedAt_31 (by decide) ?_
      exact ih _ (by omega) (i - 1) (by omega) (by omega) rfl (by rw [hall]; exact bK_t (by omega) (by omega))

set_option maxRecDepth 100000 in
set_option maxHeartbeats 4000000 in
theorem kX1_lastLookedAt {l : Launch} {D : va_G} {ky : Nat → ClassId} {z : Nat} {w : WT} (hl : l.stackTraces = false) {d : Nat} {la na fa : Int → Nat} {n : Int} {lo co ct : Int → Int} {nm fl : Int → Int → Int} (hd : DW w ky d la na fa n lo co ct nm fl) (hr : DR n lo co ct nm fl) {q : Int} (hq : 0 ≤ q ∧ q ≤ 999) : Mt l D ky z yX1_lastLookedAt wsX1_lastLookedAt { frames := 2, cells := 0, slots := 0, locals := 46 } [.ref d, .int (iI q)] w (fun r w' => w = w' ∧ r = some (.ref (la (lLk n lo co ct nm q)))) (fun _ => False) := by
  refine Mt.of (cc := cX1_lastLookedAt) (ret := (some (.object "Buddyfield$Leaf"))) (maxL := 4) (by decide) rfl (by intro v hv; simp at hv; rcases hv with rfl | rfl <;> rfl) (Nat.le_of_ble_eq_true rfl) ?_ hl
  intro p e s m args below meth c C htab hret hname Q hQ
  obtain ⟨hd0, hdl, hdi⟩ := id hd
  obtain ⟨hr1, hr2, hr3, hr4, hr5, hr6⟩ := id hr
  refine gd_iload_n C dX1_lastLookedAt_0 rfl ?_
  refine gd_callSN (n := 1) (host := RX4) C (kX4_hashOf hl (q := q) hq) gX1_lastLookedAt_X4_hashOf_n24 rfl (by decide +kernel) (by decide +kernel) (by decide +kernel) ⟨by decide, by decide, by decide +kernel⟩ rfl rfl (Nat.le_of_ble_eq_true rfl) rfl dX1_lastLookedAt_1 ⟨⟨by decide, by decide⟩, by decide, by decide⟩ (fun _ h => h.elim) ?_
  rintro _ _ ⟨rfl, rfl⟩
  have hbq := hs_bd q
  refine gd_istore_n C dX1_lastLookedAt_4 (Nat.le_of_ble_eq_true rfl) ?_
  refine gd_aload_n C dX1_lastLookedAt_5 rfl ?_
  refine gd_iload_n C dX1_lastLookedAt_6 rfl ?_
  refine gd_callV (n := 1) (ci := 1) (Cn := RX1) (T := TX1) (N := 2) C (kX1_firstLookedAt hl hd hr (q := q) hq) ?_ rfl gX1_lastLookedAt_X1_firstLookedAt rfl ⟨rfl, by decide, by decide, by decide +kernel⟩ rfl rfl (Nat.le_of_ble_eq_true rfl) rfl dX1_lastLookedAt_7 ⟨⟨by decide, by decide⟩, by decide, by decide⟩ (fun _ h => h.elim) ?_
  · exact ⟨_, by exact hd0⟩
  rintro _ _ ⟨rfl, rfl⟩
  refine gd_astore_n C dX1_lastLookedAt_10 (Nat.le_of_ble_eq_true rfl) ?_
  suffices hloop : ∀ (n9 : Nat) (i : Int), 0 ≤ i → i < n → (n - i).toNat = n9 → lLk n lo co ct nm q = fW (hA ct nm q) lo co (hs q) n i → Gd p l e ({ frames := 2, cells := 0, slots := 0, locals := 46 }) s m args below meth c D z Q 0 0 w 11 [some (.ref d), some (.int (iI q)), some (.int (iI (hs q))), some (.ref (la i))] [] from
    hloop _ _ (fLk_bd lo co q hr1.1).1 (fLk_bd lo co q hr1.1).2 rfl rfl
  intro n9
  induction n9 using Nat.strongRecOn with
  | _ n9 ih =>
  intro i hi1 hi2 hn9 hall
  have hr4i := hr4 i
  have hr2j := hr2 (i + 1)
  have hdi1 := hdl i hi1 hi2
  have hdj1 : i + 1 < n → _ := hdl (i + 1) (by omega)
  have hiff := hA_iff (ct := ct) (nm := nm) (q := q) (i := i)
  refine gd_aload_n C dX1_lastLookedAt_11 rfl ?_
  refine gd_iload_n C dX1_lastLookedAt_12 rfl ?_
  refine gd_callVN (n := 1) (ci := 3) (Cn := RX3) (T := TX3) (N := 7) (host := RX4) C (kX3_has hl hdi1.1 hdi1.2.1 hr4i (hr5 i) (q := q) (by omega)) ?_ rfl gX1_lastLookedAt_X3_has_n68 rfl (by decide +kernel) (by decide +kernel) (by decide +kernel) (by decide +kernel) ⟨by decide, by decide, by decide +kernel⟩ rfl rfl (Nat.le_of_ble_eq_true rfl) rfl dX1_lastLookedAt_13 ⟨⟨by decide, by decide⟩, by decide, by decide⟩ (fun _ h => h.elim) ?_
  · exact ⟨_, by exact hdi1.1⟩
  rintro _ _ ⟨b, rfl, rfl, hb⟩
  refine gd_if_ne (tgt := 45) C dX1_lastLookedAt_16 (by decide) ?_ (fun hc16 => ?_) (fun hc16 => ?_)
  · omega
  · refine gd_aload_n C dX1_lastLookedAt_45 rfl ?_
    refine gd_aret C hQ hret dX1_lastLookedAt_46 ?_ ?_
    · refine ⟨rfl, ?_⟩
      rw [hall, fW_f hi2 (fun h => ?_)]
      have h1 := h.1
      rw [hiff] at h1
      first
        | omega
        | (have hi0 := h.2.1
           rw [lq_lt hi0] at hc23
           cases hc23)
    · decide
  · refine gd_aload_n C dX1_lastLookedAt_19 rfl ?_
    apply gd_getN (host := RX4) (ci := 3) (Cn := RX3) (T := TX3) (N := 7) (ref := RX3) C rfl (by decide +kernel) 6 (by decide) (by decide +kernel) rfl dX1_lastLookedAt_20
    · exact hdi1.1
    · rfl
    refine gd_ifnullq (tgt := 45) C dX1_lastLookedAt_23 (by decide) (fun hc23 => ?_) (fun x23 hc23 => ?_)
    · refine gd_aload_n C dX1_lastLookedAt_45 rfl ?_
      refine gd_aret C hQ hret dX1_lastLookedAt_46 ?_ ?_
      · refine ⟨rfl, ?_⟩
        rw [hall, fW_f hi2 (fun h => ?_)]
        have h1 := h.1
        rw [hiff] at h1
        first
          | omega
          | (have hi0 := h.2.1
             rw [lq_lt hi0] at hc23
             cases hc23)
      · decide
    · refine gd_aload_n C dX1_lastLookedAt_26 rfl ?_
      apply gd_getN (host := RX4) (ci := 3) (Cn := RX3) (T := TX3) (N := 7) (ref := RX3) C rfl (by decide +kernel) 6 (by decide) (by decide +kernel) rfl dX1_lastLookedAt_27
      · exact hdi1.1
      · rfl
      have hi0 : i + 1 < n := by
        by_cases h : i + 1 < n
        · exact h
        · rw [lq_ge h] at hc23; cases hc23
      rw [lq_lt hi0]
      change Gd _ _ _ _ _ _ _ _ _ _ _ _ _ _ _ _ _ _ (Value.ref (la (i + 1)) :: _)
      refine gd_iload_n C dX1_lastLookedAt_30 rfl ?_
      refine gd_callVN (n := 1) (ci := 3) (Cn := RX3) (T := TX3) (N := 7) (host := RX4) C (kX3_continues hl (hdj1 hi0).1 (q := hs q) ⟨by omega, by omega⟩ (hr3 (i + 1))) ?_ rfl gX1_lastLookedAt_X3_continues_n61 rfl (by decide +kernel) (by decide +kernel) (by decide +kernel) (by decide +kernel) ⟨by decide, by decide, by decide +kernel⟩ rfl rfl (Nat.le_of_ble_eq_true rfl) rfl dX1_lastLookedAt_31 ⟨⟨by decide, by decide⟩, by decide, by decide⟩ (fun _ h => h.elim) ?_
      · exact ⟨_, by exact (hdj1 hi0).1⟩
      rintro _ _ ⟨b2, rfl, rfl, hb2⟩
      refine gd_if_eq (tgt := 45) C dX1_lastLookedAt_34 (by decide) ?_ (fun hc34 => ?_) (fun hc34 => ?_)
      · omega
      · refine gd_aload_n C dX1_lastLookedAt_45 rfl ?_
        refine gd_aret C hQ hret dX1_lastLookedAt_46 ?_ ?_
        · refine ⟨rfl, ?_⟩
          rw [hall, fW_f hi2 (fun h => ?_)]
          have h1 := h.1
          rw [hiff] at h1
          first
            | omega
            | (have hi0 := h.2.1
               rw [lq_lt hi0] at hc23
               cases hc23)
        · decide
      · refine gd_aload_n C dX1_lastLookedAt_37 rfl ?_
        apply gd_getN (host := RX4) (ci := 3) (Cn := RX3) (T := TX3) (N := 7) (ref := RX3) C rfl (by decide +kernel) 6 (by decide) (by decide +kernel) rfl dX1_lastLookedAt_38
        · exact hdi1.1
        · rfl
        rw [lq_lt hi0]
        change Gd _ _ _ _ _ _ _ _ _ _ _ _ _ _ _ _ _ _ (Value.ref (la (i + 1)) :: _)
        refine gd_astore_n C dX1_lastLookedAt_41 (Nat.le_of_ble_eq_true rfl) ?_
        refine gd_goto (tgt := 11) C dX1_lastLookedAt_42 (by decide) ?_
        exact ih _ (by omega) (i + 1) (by omega) (by omega) rfl (by rw [hall]; exact fW_t hi2 ⟨fun h => by have := hiff.mp h; omega, by omega, by omega, by omega⟩)

set_option maxRecDepth 100000 in
set_option maxHeartbeats 4000000 in
theorem kX1_fileWith {l : Launch} {D : va_G} {ky : Nat → ClassId} {z : Nat} {w : WT} (hl : l.stackTraces = false) {d : Nat} {la na fa : Int → Nat} {n : Int} {lo co ct : Int → Int} {nm fl : Int → Int → Int} (hd : DW w ky d la na fa n lo co ct nm fl) (hr : DR n lo co ct nm fl) {q : Int} (hq : 0 ≤ q ∧ q ≤ 999) : Mt l D ky z yX1_fileWith wsX1_fileWith { frames := 3, cells := 0, slots := 0, locals := 69 } [.ref d, .int (iI q)] w (fun r w' => w = w' ∧ r = some (.int (iI (if 0 ≤ fF (fun j => nm (lLk n lo co ct nm q) j = q) 0 (ct (lLk n lo co ct nm q)) then fl (lLk n lo co ct nm q) (fF (fun j => nm (lLk n lo co ct nm q) j = q) 0 (ct (lLk n lo co ct nm q))) else -1)))) (fun _ => False) := by
  refine Mt.of (cc := cX1_fileWith) (ret := (some .int)) (maxL := 2) (by decide) rfl (by intro v hv; simp at hv; rcases hv with rfl | rfl <;> rfl) (Nat.le_of_ble_eq_true rfl) ?_ hl
  intro p e s m args below meth c C htab hret hname Q hQ
  obtain ⟨hd0, hdl, hdi⟩ := id hd
  obtain ⟨hr1, hr2, hr3, hr4, hr5, hr6⟩ := id hr
  refine gd_aload_n C dX1_fileWith_0 rfl ?_
  refine gd_iload_n C dX1_fileWith_1 rfl ?_
  refine gd_callV (n := 1) (ci := 1) (Cn := RX1) (T := TX1) (N := 2) C (kX1_lastLookedAt hl hd hr (q := q) hq) ?_ rfl gX1_fileWith_X1_lastLookedAt rfl ⟨rfl, by decide, by decide, by decide +kernel⟩ rfl rfl (Nat.le_of_ble_eq_true rfl) rfl dX1_fileWith_2 ⟨⟨by decide, by decide⟩, by decide, by decide⟩ (fun _ h => h.elim) ?_
  · exact ⟨_, by exact hd0⟩
  rintro _ _ ⟨rfl, rfl⟩
  have hlb := lLk_bd lo co ct nm q hr1.1
  have hfb := fLk_bd lo co q hr1.1
  have hdi1 := hdl (lLk n lo co ct nm q) (by omega) hlb.2
  refine gd_iload_n C dX1_fileWith_5 rfl ?_
  refine gd_callVN (n := 1) (ci := 3) (Cn := RX3) (T := TX3) (N := 7) (host := RX4) C (kX3_fileWith hl hdi1.1 hdi1.2.1 (hr4 _) (hr5 _) hdi1.2.2.1 (q := q) (by omega)) ?_ rfl gX1_fileWith_X3_fileWith_n49 rfl (by decide +kernel) (by decide +kernel) (by decide +kernel) (by decide +kernel) ⟨by decide, by decide, by decide +kernel⟩ rfl rfl (Nat.le_of_ble_eq_true rfl) rfl dX1_fileWith_6 ⟨⟨by decide, by decide⟩, by decide, by decide⟩ (fun _ h => h.elim) ?_
  · exact ⟨_, by exact hdi1.1⟩
  rintro _ _ ⟨rfl, rfl⟩
  refine gd_iret C hQ hret dX1_fileWith_9 ?_ ?_
  · exact ⟨rfl, rfl⟩
  · decide

set_option maxRecDepth 100000 in
set_option maxHeartbeats 4000000 in
theorem kX1_takeOut {l : Launch} {D : va_G} {ky : Nat → ClassId} {z : Nat} {w : WT} (hl : l.stackTraces = false) {d : Nat} {la na fa : Int → Nat} {n : Int} {lo co ct : Int → Int} {nm fl : Int → Int → Int} (hd : DW w ky d la na fa n lo co ct nm fl) (hr : DR n lo co ct nm fl) {q p0 : Int} (hq : 0 ≤ q ∧ q ≤ 999) (hp : fF (fun j => nm (lLk n lo co ct nm q) j = q) 0 (ct (lLk n lo co ct nm q)) = p0) (hp0 : 0 ≤ p0 ∧ p0 < ct (lLk n lo co ct nm q)) : Mt l D ky z yX1_takeOut wsX1_takeOut { frames := 3, cells := 0, slots := 0, locals := 69 } [.ref d, .int (iI q)] w (fun r w' => r = none ∧ w' (na (lLk n lo co ct nm q)) = some (iA (ky 0) 4 (rmF (nm (lLk n lo co ct nm q)) p0 (ct (lLk n lo co ct nm q)))) ∧ w' (fa (lLk n lo co ct nm q)) = some (iA (ky 0) 4 (rmF (fl (lLk n lo co ct nm q)) p0 (ct (lLk n lo co ct nm q)))) ∧ w' (la (lLk n lo co ct nm q)) = some (cL (na (lLk n lo co ct nm q)) (fa (lLk n lo co ct nm q)) (lo (lLk n lo co ct nm q)) (co (lLk n lo co ct nm q)) (ct (lLk n lo co ct nm q) - 1) (bq la (lLk n lo co ct nm q)) (lq la n ((lLk n lo co ct nm q) + 1))) ∧ ∀ y, y ≠ na (lLk n lo co ct nm q) → y ≠ fa (lLk n lo co ct nm q) → y ≠ la (lLk n lo co ct nm q) → w' y = w y) (fun _ => False) := by
  refine Mt.of (cc := cX1_takeOut) (ret := none) (maxL := 2) (by decide) rfl (by intro v hv; simp at hv; rcases hv with rfl | rfl <;> rfl) (Nat.le_of_ble_eq_true rfl) ?_ hl
  intro p e s m args below meth c C htab hret hname Q hQ
  obtain ⟨hd0, hdl, hdi⟩ := id hd
  obtain ⟨hr1, hr2, hr3, hr4, hr5, hr6⟩ := id hr
  refine gd_aload_n C dX1_takeOut_0 rfl ?_
  refine gd_iload_n C dX1_takeOut_1 rfl ?_
  refine gd_callV (n := 1) (ci := 1) (Cn := RX1) (T := TX1) (N := 2) C (kX1_lastLookedAt hl hd hr (q := q) hq) ?_ rfl gX1_takeOut_X1_lastLookedAt rfl ⟨rfl, by decide, by decide, by decide +kernel⟩ rfl rfl (Nat.le_of_ble_eq_true rfl) rfl dX1_takeOut_2 ⟨⟨by decide, by decide⟩, by decide, by decide⟩ (fun _ h => h.elim) ?_
  · exact ⟨_, by exact hd0⟩
  rintro _ _ ⟨rfl, rfl⟩
  have hlb := lLk_bd lo co ct nm q hr1.1
  have hfb := fLk_bd lo co q hr1.1
  have hdi1 := hdl (lLk n lo co ct nm q) (by omega) hlb.2
  refine gd_iload_n C dX1_takeOut_5 rfl ?_
  refine gd_callVN (n := 1) (ci := 3) (Cn := RX3) (T := TX3) (N := 7) (host := RX4) C (kX3_takeOut hl hdi1.1 hdi1.2.1 (hr4 _) (hr5 _) hdi1.2.2.1 hdi1.2.2.2 (q := q) (p0 := p0) (by omega) hp hp0) ?_ rfl gX1_takeOut_X3_takeOut_n45 rfl (by decide +kernel) (by decide +kernel) (by decide +kernel) (by decide +kernel) ⟨by decide, by decide, by decide +kernel⟩ rfl rfl (Nat.le_of_ble_eq_true rfl) rfl dX1_takeOut_6 ⟨⟨by decide, by decide⟩, by decide, by decide⟩ (fun _ h => h.elim) ?_
  · exact ⟨_, by exact hdi1.1⟩
  rintro _ w1 ⟨rfl, h1, h2, h3, h4⟩
  refine gd_vret C hQ hret dX1_takeOut_9 ?_ ?_
  · exact ⟨rfl, h1, h2, h3, h4⟩
  · decide

set_option maxRecDepth 100000 in
set_option maxHeartbeats 4000000 in
theorem kX1_countLooks {l : Launch} {D : va_G} {ky : Nat → ClassId} {z : Nat} {w : WT} (hl : l.stackTraces = false) {d : Nat} {la na fa : Int → Nat} {n : Int} {lo co ct : Int → Int} {nm fl : Int → Int → Int} (hd : DW w ky d la na fa n lo co ct nm fl) (hr : DR n lo co ct nm fl) {q : Int} (hq : 0 ≤ q ∧ q ≤ 999) : Mt l D ky z yX1_countLooks wsX1_countLooks { frames := 3, cells := 0, slots := 0, locals := 69 } [.ref d, .int (iI q)] w (fun r w' => w = w' ∧ r = some (.int (iI (lLk n lo co ct nm q - fLk n lo co q + 1)))) (fun _ => False) := by
  refine Mt.of (cc := cX1_countLooks) (ret := (some .int)) (maxL := 5) (by decide) rfl (by intro v hv; simp at hv; rcases hv with rfl | rfl <;> rfl) (Nat.le_of_ble_eq_true rfl) ?_ hl
  intro p e s m args below meth c C htab hret hname Q hQ
  obtain ⟨hd0, hdl, hdi⟩ := id hd
  obtain ⟨hr1, hr2, hr3, hr4, hr5, hr6⟩ := id hr
  refine gd_aload_n C dX1_countLooks_0 rfl ?_
  refine gd_iload_n C dX1_countLooks_1 rfl ?_
  refine gd_callV (n := 1) (ci := 1) (Cn := RX1) (T := TX1) (N := 2) C (kX1_lastLookedAt hl hd hr (q := q) hq) ?_ rfl gX1_countLooks_X1_lastLookedAt rfl ⟨rfl, by decide, by decide, by decide +kernel⟩ rfl rfl (Nat.le_of_ble_eq_true rfl) rfl dX1_countLooks_2 ⟨⟨by decide, by decide⟩, by decide, by decide⟩ (fun _ h => h.elim) ?_
  · exact ⟨_, by exact hd0⟩
  rintro _ _ ⟨rfl, rfl⟩
  have hlb := lLk_bd lo co ct nm q hr1.1
  have hfb := fLk_bd lo co q hr1.1
  have hdi1 := hdl (lLk n lo co ct nm q) (by omega) hlb.2
  refine gd_astore_n C dX1_countLooks_5 (Nat.le_of_ble_eq_true rfl) ?_
  refine gd_iconst C dX1_countLooks_6 ?_
  refine gd_istore_n C dX1_countLooks_7 (Nat.le_of_ble_eq_true rfl) ?_
  refine gd_aload_n C dX1_countLooks_8 rfl ?_
  refine gd_iload_n C dX1_countLooks_9 rfl ?_
  refine gd_callV (n := 1) (ci := 1) (Cn := RX1) (T := TX1) (N := 2) C (kX1_firstLookedAt hl hd hr (q := q) hq) ?_ rfl gX1_countLooks_X1_firstLookedAt rfl ⟨rfl, by decide, by decide, by decide +kernel⟩ rfl rfl (Nat.le_of_ble_eq_true rfl) rfl dX1_countLooks_10 ⟨⟨by decide, by decide⟩, by decide, by decide⟩ (fun _ h => h.elim) ?_
  · exact ⟨_, by exact hd0⟩
  rintro _ _ ⟨rfl, rfl⟩
  refine gd_astore C dX1_countLooks_13 (Nat.le_of_ble_eq_true rfl) ?_
  suffices hloop : ∀ (n9 : Nat) (i x : Int), 0 ≤ i → i ≤ lLk n lo co ct nm q → (n - i).toNat = n9 → x = i - fLk n lo co q + 1 → Gd p l e ({ frames := 3, cells := 0, slots := 0, locals := 69 }) s m args below meth c D z Q 0 0 w 15 [some (.ref d), some (.int (iI q)), some (.ref (la (lLk n lo co ct nm q))), some (.int (iI x)), some (.ref (la i))] [] from
    hloop _ _ _ hfb.1 hlb.1 rfl (by omega)
  intro n9
  induction n9 using Nat.strongRecOn with
  | _ n9 ih =>
  intro i x hi1 hi2 hn9 hx
  have hdj1 := hdl i hi1 (by omega)
  refine gd_aload C dX1_countLooks_15 rfl ?_
  refine gd_ifnull C dX1_countLooks_17 ?_
  refine gd_aload C dX1_countLooks_20 rfl ?_
  refine gd_aload_n C dX1_countLooks_22 rfl ?_
  refine gd_acmpeq (tgt := 39) C dX1_countLooks_23 (by decide) (fun hc23 => ?_) (fun hc23 => ?_)
  · refine gd_iload_n C dX1_countLooks_39 rfl ?_
    refine gd_iret C hQ hret dX1_countLooks_40 ?_ ?_
    · have e1 : i = lLk n lo co ct nm q := by
        by_cases h : i = lLk n lo co ct nm q
        · exact h
        · exact absurd hc23 (hdi i _ hi1 (by omega) (by omega) hlb.2 h).1
      exact ⟨rfl, by rw [hx, e1]⟩
    · decide
  · refine gd_iinc C dX1_countLooks_26 rfl ?_
    refine gd_aload C dX1_countLooks_29 rfl ?_
    apply gd_getN (host := RX4) (ci := 3) (Cn := RX3) (T := TX3) (N := 7) (ref := RX3) C rfl (by decide +kernel) 6 (by decide) (by decide +kernel) rfl dX1_countLooks_31
    · exact hdj1.1
    · rfl
    have hne : i ≠ lLk n lo co ct nm q := fun e => hc23 (by rw [e])
    rw [lq_lt (by omega)]
    change Gd _ _ _ _ _ _ _ _ _ _ _ _ _ _ _ _ _ _ (Value.ref (la (i + 1)) :: _)
    refine gd_astore C dX1_countLooks_34 (Nat.le_of_ble_eq_true rfl) ?_
    refine gd_goto (tgt := 15) C dX1_countLooks_36 (by decide) ?_
    exact ih _ (by omega) (i + 1) _ (by omega) (by omega) rfl (by omega)

set_option maxRecDepth 100000 in
set_option maxHeartbeats 4000000 in
theorem kX1_add {l : Launch} {D : va_G} {ky : Nat → ClassId} {z : Nat} {w : WT} (hl : l.stackTraces = false) {d : Nat} {la na fa : Int → Nat} {n : Int} {lo co ct : Int → Int} {nm fl : Int → Int → Int} (hd : DW w ky d la na fa n lo co ct nm fl) (hr : DR n lo co ct nm fl) {q x : Int} (hq : 0 ≤ q ∧ q ≤ 999) (hn : n < 600) (hlo0 : lo 0 = 0) (hs3 : ∀ i, ct i = 4 → rk (nm i 2) < rk (nm i 3)) : Mt l D ky z yX1_add wsX1_add { frames := 4, cells := 3, slots := 15, locals := 87 } [.ref d, .int (iI q), .int (iI x)] w (fun r w' => r = none ∧ ∃ (la' na' fa' : Int → Nat) (n' : Int) (lo' co' ct' : Int → Int) (nm' fl' : Int → Int → Int), DW w' ky d la' na' fa' n' lo' co' ct' nm' fl' ∧ ADD q x n lo co ct nm fl n' lo' co' ct' nm' fl' ∧ ∀ y v, w y = some v → y ≠ d → (∀ i, 0 ≤ i → i < n → y ≠ la i ∧ y ≠ na i ∧ y ≠ fa i) → w' y = w y) (fun _ => False) := by
  refine Mt.of (cc := cX1_add) (ret := none) (maxL := 4) (by decide) rfl (by intro v hv; simp at hv; rcases hv with rfl | rfl | rfl <;> rfl) (Nat.le_of_ble_eq_true rfl) ?_ hl
  intro p e s m args below meth c C htab hret hname Q hQ
  obtain ⟨hd0, hdl, hdi⟩ := id hd
  obtain ⟨hr1, hr2, hr3, hr4, hr5, hr6⟩ := id hr
  refine gd_aload_n C dX1_add_0 rfl ?_
  refine gd_iload_n C dX1_add_1 rfl ?_
  refine gd_callSN (n := 1) (host := RX4) C (kX4_hashOf hl (q := q) hq) gX1_add_X4_hashOf_n24 rfl (by decide +kernel) (by decide +kernel) (by decide +kernel) ⟨by decide, by decide, by decide +kernel⟩ rfl rfl (Nat.le_of_ble_eq_true rfl) rfl dX1_add_2 ⟨⟨by decide, by decide⟩, by decide, by decide⟩ (fun _ h => h.elim) ?_
  rintro _ _ ⟨rfl, rfl⟩
  have hbq := hs_bd q
  refine gd_callV (n := 1) (ci := 1) (Cn := RX1) (T := TX1) (N := 2) C (kX1_lastLeafFor hl hd hr (q := hs q) (by omega)) ?_ rfl gX1_add_X1_lastLeafFor rfl ⟨rfl, by decide, by decide, by decide +kernel⟩ rfl rfl (Nat.le_of_ble_eq_true rfl) rfl dX1_add_5 ⟨⟨by decide, by decide⟩, by decide, by decide⟩ (fun _ h => h.elim) ?_
  · exact ⟨_, by exact hd0⟩
  rintro _ _ ⟨rfl, rfl⟩
  have hjb := lL_bd lo (hs q) hr1.1
  generalize hJ : lL lo n (hs q) = j at hjb ⊢
  have hdj := hdl j hjb.1 hjb.2
  have hr4j := hr4 j
  refine gd_astore_n C dX1_add_8 (Nat.le_of_ble_eq_true rfl) ?_
  refine gd_aload_n C dX1_add_9 rfl ?_
  apply gd_getN (host := RX4) (ci := 3) (Cn := RX3) (T := TX3) (N := 7) (ref := RX3) C rfl (by decide +kernel) 4 (by decide) (by decide +kernel) rfl dX1_add_10
  · exact hdj.1
  · rfl
  refine gd_iconst C dX1_add_13 ?_
  refine gd_icmp_ne (tgt := 40) C dX1_add_14 (by decide) ?_ ?_ (fun hc14 => ?_) (fun hc14 => ?_)
  · omega
  · omega
  · refine gd_aload_n C dX1_add_40 rfl ?_
    refine gd_iload_n C dX1_add_41 rfl ?_
    refine gd_iload_n C dX1_add_42 rfl ?_
    refine gd_callVN (n := 2) (ci := 3) (Cn := RX3) (T := TX3) (N := 7) (host := RX4) C (kX3_insert hl hdj.1 hdj.2.1 ?_ (hr5 j) hdj.2.2.1 hdj.2.2.2 (q := q) (x := x) hq) ?_ rfl gX1_add_X3_insert_n38 rfl (by decide +kernel) (by decide +kernel) (by decide +kernel) (by decide +kernel) ⟨by decide, by decide, by decide +kernel⟩ rfl rfl (Nat.le_of_ble_eq_true rfl) rfl dX1_add_43 ⟨⟨by decide, by decide⟩, by decide, by decide⟩ (fun _ h => h.elim) ?_
    · omega
    · exact ⟨_, by exact hdj.1⟩
    rintro _ w3 ⟨rfl, p, p1, p2, p3, p4, q1, q2, q3, q4⟩
    refine gd_vret C hQ hret dX1_add_46 ?_ ?_
    · subst hJ
      refine ⟨rfl, la, na, fa, n, lo, co, _, _, _, DW_leaf hd hjb q1 q2 q3 q4, Or.inl ⟨hc14, rfl, rfl, rfl, p, p1, p2, p3, p4, rfl, rfl, rfl⟩, fun y v hy y1 y2 => ?_⟩
      have y3 := y2 _ hjb.1 hjb.2
      exact q4 y y3.2.1 y3.2.2 y3.1
    · decide
  · refine gd_aload_n C dX1_add_17 rfl ?_
    have hcj : ct j = 4 := by omega
    have hdj1 := hdj.1
    rw [hcj] at hdj1
    refine gd_callVN (n := 0) (ci := 3) (Cn := RX3) (T := TX3) (N := 7) (host := RX4) C (kX3_split hl hdj1 hdj.2.1 (hr5 j) hdj.2.2.1 (hs3 j hcj) ?_) ?_ rfl gX1_add_X3_split_n35 rfl (by decide +kernel) (by decide +kernel) (by decide +kernel) (by decide +kernel) ⟨by decide, by decide, by decide +kernel⟩ rfl rfl (Nat.le_of_ble_eq_true rfl) rfl dX1_add_18 ⟨⟨by decide, by decide⟩, by decide, by decide⟩ (fun _ h => h.elim) ?_
    · intro k hk
      have hk1 : j + 1 < n := by
        by_cases h : j + 1 < n
        · exact h
        · rw [lq_ge h] at hk; cases hk
      rw [lq_lt hk1] at hk
      cases hk
      exact ⟨(hdi (j + 1) j (by omega) hk1 hjb.1 hjb.2 (by omega)).1, _, _, _, _, _, _, _, (hdl (j + 1) (by omega) hk1).1⟩
    · exact ⟨_, by exact hdj1⟩
    rintro _ w1 ⟨rfl, g, nb, fb, hg, hnb, hfb, e1, e2, e3, c1, c2, c3, c4, c5, c6⟩
    have hdd : w1 d = some (oB 1 [.ref (la 0), .int (iI n)]) := (c6 d (kd2 hd0 hdj.1 (by decide)) (new_ne hg hd0) (new_ne hnb hd0) (new_ne hfb hd0) (fun h => by
      by_cases hk1 : j + 1 < n
      · rw [lq_lt hk1] at h
        cases h
        exact kd2 hd0 (hdl (j + 1) (by omega) hk1).1 (by decide) rfl
      · rw [lq_ge hk1] at h
        cases h)).trans hd0
    have hD2 := DW_split hd hjb hg hnb hfb e1 e2 e3 c1 c2 c3 c4 c5 c6
    have hbL := hs_bd (nm j 2)
    have hC : eqI (hs (nm j 1)) (hs (nm j 2)) = 0 ∨ eqI (hs (nm j 1)) (hs (nm j 2)) = 1 := by have := eqI_bd (hs (nm j 1)) (hs (nm j 2)); omega
    have hR2 := DR_split (j := j) hr (by omega) (L := hs (nm j 2)) (by omega) hC
    refine gd_aload_n C dX1_add_21 rfl ?_
    refine gd_dup C dX1_add_22 rfl ?_
    apply gd_get (ci := 1) (Cn := RX1) (T := TX1) (N := 2) (ref := RX1) C rfl (by decide +kernel) 1 (by decide) (by decide +kernel) rfl dX1_add_23
    · first | assumption | exact (hdl _ (by omega) (by omega)).1 | exact wU_s _ _ _
    · rfl
    refine gd_iconst C dX1_add_26 ?_
    refine gd_iadd C dX1_add_27 ?_
    apply gd_put (ci := 1) (Cn := RX1) (T := TX1) (N := 2) (ref := RX1) C rfl (by decide +kernel) tyX1 tyX1_ok nmX1 1 (by decide) (by decide +kernel) rfl rfl dX1_add_28
    · exact hdd
    · rfl
    · rfl
    · exact Nat.le_of_ble_eq_true rfl
    refine gd_aload_n C dX1_add_31 rfl ?_
    refine gd_iload_n C dX1_add_32 rfl ?_
    refine gd_callSN (n := 1) (host := RX4) C (kX4_hashOf hl (q := q) hq) gX1_add_X4_hashOf_n24 rfl (by decide +kernel) (by decide +kernel) (by decide +kernel) ⟨by decide, by decide, by decide +kernel⟩ rfl rfl (Nat.le_of_ble_eq_true rfl) rfl dX1_add_33 ⟨⟨by decide, by decide⟩, by decide, by decide⟩ (fun _ h => h.elim) ?_
    rintro _ _ ⟨rfl, rfl⟩
    refine gd_callV (n := 1) (ci := 1) (Cn := RX1) (T := TX1) (N := 2) C (kX1_lastLeafFor hl hD2 hR2 (q := hs q) (by omega)) ?_ rfl gX1_add_X1_lastLeafFor rfl ⟨rfl, by decide, by decide, by decide +kernel⟩ rfl rfl (Nat.le_of_ble_eq_true rfl) rfl dX1_add_36 ⟨⟨by decide, by decide⟩, by decide, by decide⟩ (fun _ h => h.elim) ?_
    · exact ⟨_, by exact hD2.1⟩
    rintro _ _ ⟨rfl, rfl⟩
    have hJ2 := lL_shI (lo := lo) (n := n) (h := hs q) (L := hs (nm j 2)) hr1.1 (by omega)
    rw [hJ] at hJ2
    have hKb := lL_bd (shI lo j (hs (nm j 2))) (hs q) hR2.1.1
    generalize hK : lL (shI lo j (hs (nm j 2))) (n + 1) (hs q) = K at hJ2 hKb ⊢
    have hct2 : (fU (shI ct j 2) j 2) K = 2 := by
      split at hJ2
      · rw [hJ2, fU_n (by omega), shI_eq rfl]
      · rw [hJ2, fU_s]
    have hdK := hD2.2.1 K hKb.1 hKb.2
    have hR5 := hR2.2.2.2.2.1 K
    have hR6 := hR2.2.2.2.2.2 K
    refine gd_astore_n C dX1_add_39 (Nat.le_of_ble_eq_true rfl) ?_
    refine gd_aload_n C dX1_add_40 rfl ?_
    refine gd_iload_n C dX1_add_41 rfl ?_
    refine gd_iload_n C dX1_add_42 rfl ?_
    refine gd_callVN (n := 2) (ci := 3) (Cn := RX3) (T := TX3) (N := 7) (host := RX4) C (kX3_insert hl hdK.1 hdK.2.1 ?_ hR5 hdK.2.2.1 hdK.2.2.2 (q := q) (x := x) hq) ?_ rfl gX1_add_X3_insert_n38 rfl (by decide +kernel) (by decide +kernel) (by decide +kernel) (by decide +kernel) ⟨by decide, by decide, by decide +kernel⟩ rfl rfl (Nat.le_of_ble_eq_true rfl) rfl dX1_add_43 ⟨⟨by decide, by decide⟩, by decide, by decide⟩ (fun _ h => h.elim) ?_
    · omega
    · exact ⟨_, by exact hdK.1⟩
    rintro _ w3 ⟨rfl, p, p1, p2, p3, p4, q1, q2, q3, q4⟩
    refine gd_vret C hQ hret dX1_add_46 ?_ ?_
    · refine ⟨rfl, _, _, _, n + 1, _, _, _, _, _, DW_leaf hD2 hKb q1 q2 q3 q4, Or.inr ⟨by rw [hJ]; exact hcj, rfl, j, _, hJ.symm, rfl, rfl, rfl, by rw [hK]; exact ⟨p, p1, p2, p3, p4, rfl, rfl, rfl⟩⟩, fun y v hy y1 y2 => ?_⟩
      have yg := new_ne hg hy
      have yn := new_ne hnb hy
      have yf := new_ne hfb hy
      have y3 : y ≠ shI la j g K ∧ y ≠ shI na j nb K ∧ y ≠ shI fa j fb K := by
        by_cases h1 : K ≤ j
        · rw [shI_le h1, shI_le h1, shI_le h1]
          exact y2 K hKb.1 (by omega)
        · by_cases h2 : K = j + 1
          · rw [shI_eq h2, shI_eq h2, shI_eq h2]
            exact ⟨yg, yn, yf⟩
          · rw [shI_gt (by omega), shI_gt (by omega), shI_gt (by omega)]
            exact y2 (K - 1) (by omega) (by omega)
      have y4 := y2 j hjb.1 hjb.2
      refine (q4 y y3.2.1 y3.2.2 y3.1).trans ((wU_n y1).trans (c6 y y4.1 yg yn yf (fun h => ?_)))
      by_cases hk1 : j + 1 < n
      · rw [lq_lt hk1] at h
        cases h
        exact (y2 (j + 1) (by omega) hk1).1 rfl
      · rw [lq_ge hk1] at h
        cases h
    · decide
