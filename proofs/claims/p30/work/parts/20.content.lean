set_option maxRecDepth 100000 in
set_option maxHeartbeats 4000000 in
theorem kX0_isMapped {l : Launch} {D : va_G} {ky : Nat → ClassId} {z : Nat} {w : WT} (hl : l.stackTraces = false) {h bl : Nat} {v f : Int → Int} (hh : w h = some (cC bl v)) (hb : w bl = some (iA (ky 0) 64 f)) (hf : ∀ i, -2 ≤ f i ∧ f i ≤ 127) {q : Int} (hq : InR q) : Mt l D ky z yX0_isMapped wsX0_isMapped { frames := 0, cells := 0, slots := 0, locals := 0 } [.ref h, .int (iI q)] w (fun r w' => ∃ b : Int, w = w' ∧ r = some (.int (iI b)) ∧ (b = 1 ∧ (0 ≤ q ∧ q < 64 ∧ 0 ≤ f q) ∨ b = 0 ∧ ¬ (0 ≤ q ∧ q < 64 ∧ 0 ≤ f q))) (fun _ => False) := by
  refine Mt.of (cc := cX0_isMapped) (ret := (some .boolean)) (maxL := 2) (by decide) rfl (by intro v hv; simp at hv; rcases hv with rfl | rfl <;> rfl) (Nat.le_of_ble_eq_true rfl) ?_ hl
  intro p e s m args below meth c C htab hret hname Q hQ
  have hf1 := hf q
  refine gd_iload_n C dX0_isMapped_0 rfl ?_
  refine gd_if_lt (tgt := 23) C dX0_isMapped_1 (by decide) ?_ (fun hc1 => ?_) (fun hc1 => ?_)
  · omega
  · refine gd_iconst C dX0_isMapped_23 ?_
    refine gd_zret C hQ hret ?_ dX0_isMapped_24 ?_ ?_
    · omega
    · exact ⟨_, rfl, rfl, by omega⟩
    · decide
  · refine gd_iload_n C dX0_isMapped_4 rfl ?_
    refine gd_bipush C dX0_isMapped_5 (by decide) ?_
    refine gd_icmp_ge (tgt := 23) C dX0_isMapped_7 (by decide) ?_ ?_ (fun hc7 => ?_) (fun hc7 => ?_)
    · omega
    · omega
    · refine gd_iconst C dX0_isMapped_23 ?_
      refine gd_zret C hQ hret ?_ dX0_isMapped_24 ?_ ?_
      · omega
      · exact ⟨_, rfl, rfl, by omega⟩
      · decide
    · refine gd_aload_n C dX0_isMapped_10 rfl ?_
      apply gd_get (ci := 0) (Cn := RX0) (T := TX0) (N := 11) (ref := RX0) C rfl (by decide +kernel) 1 (by decide) (by decide +kernel) rfl dX0_isMapped_11
      · first | assumption | exact wU_s _ _ _ | exact look1 (by assumption) (by assumption) | exact look2 (by assumption) (by assumption)
      · rfl
      refine gd_iload_n C dX0_isMapped_14 rfl ?_
      apply gd_iald C dX0_isMapped_15
      · first | assumption | exact wU_s _ _ _ | exact look1 (by assumption) (by assumption) | exact look2 (by assumption) (by assumption)
      · decide
      · omega
      refine gd_if_lt (tgt := 23) C dX0_isMapped_16 (by decide) ?_ (fun hc16 => ?_) (fun hc16 => ?_)
      · omega
      · refine gd_iconst C dX0_isMapped_23 ?_
        refine gd_zret C hQ hret ?_ dX0_isMapped_24 ?_ ?_
        · omega
        · exact ⟨_, rfl, rfl, by omega⟩
        · decide
      · refine gd_iconst C dX0_isMapped_19 ?_
        refine gd_goto (tgt := 24) C dX0_isMapped_20 (by decide) ?_
        refine gd_zret C hQ hret ?_ dX0_isMapped_24 ?_ ?_
        · omega
        · exact ⟨_, rfl, rfl, by omega⟩
        · decide

set_option maxRecDepth 100000 in
set_option maxHeartbeats 4000000 in
theorem kX0_isReserved {l : Launch} {D : va_G} {ky : Nat → ClassId} {z : Nat} {w : WT} (hl : l.stackTraces = false) {h bl : Nat} {v f : Int → Int} (hh : w h = some (cC bl v)) (hb : w bl = some (iA (ky 0) 64 f)) (hf : ∀ i, -2 ≤ f i ∧ f i ≤ 127) {q : Int} (hq : InR q) : Mt l D ky z yX0_isReserved wsX0_isReserved { frames := 0, cells := 0, slots := 0, locals := 0 } [.ref h, .int (iI q)] w (fun r w' => ∃ b : Int, w = w' ∧ r = some (.int (iI b)) ∧ (b = 1 ∧ (0 ≤ q ∧ q < 64 ∧ f q = -2) ∨ b = 0 ∧ ¬ (0 ≤ q ∧ q < 64 ∧ f q = -2))) (fun _ => False) := by
  refine Mt.of (cc := cX0_isReserved) (ret := (some .boolean)) (maxL := 2) (by decide) rfl (by intro v hv; simp at hv; rcases hv with rfl | rfl <;> rfl) (Nat.le_of_ble_eq_true rfl) ?_ hl
  intro p e s m args below meth c C htab hret hname Q hQ
  have hf1 := hf q
  refine gd_iload_n C dX0_isReserved_0 rfl ?_
  refine gd_if_lt (tgt := 25) C dX0_isReserved_1 (by decide) ?_ (fun hc1 => ?_) (fun hc1 => ?_)
  · omega
  · refine gd_iconst C dX0_isReserved_25 ?_
    refine gd_zret C hQ hret ?_ dX0_isReserved_26 ?_ ?_
    · omega
    · exact ⟨_, rfl, rfl, by omega⟩
    · decide
  · refine gd_iload_n C dX0_isReserved_4 rfl ?_
    refine gd_bipush C dX0_isReserved_5 (by decide) ?_
    refine gd_icmp_ge (tgt := 25) C dX0_isReserved_7 (by decide) ?_ ?_ (fun hc7 => ?_) (fun hc7 => ?_)
    · omega
    · omega
    · refine gd_iconst C dX0_isReserved_25 ?_
      refine gd_zret C hQ hret ?_ dX0_isReserved_26 ?_ ?_
      · omega
      · exact ⟨_, rfl, rfl, by omega⟩
      · decide
    · refine gd_aload_n C dX0_isReserved_10 rfl ?_
      apply gd_get (ci := 0) (Cn := RX0) (T := TX0) (N := 11) (ref := RX0) C rfl (by decide +kernel) 1 (by decide) (by decide +kernel) rfl dX0_isReserved_11
      · first | assumption | exact wU_s _ _ _ | exact look1 (by assumption) (by assumption) | exact look2 (by assumption) (by assumption)
      · rfl
      refine gd_iload_n C dX0_isReserved_14 rfl ?_
      apply gd_iald C dX0_isReserved_15
      · first | assumption | exact wU_s _ _ _ | exact look1 (by assumption) (by assumption) | exact look2 (by assumption) (by assumption)
      · decide
      · omega
      refine gd_bipush C dX0_isReserved_16 (by decide) ?_
      refine gd_icmp_ne (tgt := 25) C dX0_isReserved_18 (by decide) ?_ ?_ (fun hc18 => ?_) (fun hc18 => ?_)
      · omega
      · omega
      · refine gd_iconst C dX0_isReserved_25 ?_
        refine gd_zret C hQ hret ?_ dX0_isReserved_26 ?_ ?_
        · omega
        · exact ⟨_, rfl, rfl, by omega⟩
        · decide
      · refine gd_iconst C dX0_isReserved_21 ?_
        refine gd_goto (tgt := 26) C dX0_isReserved_22 (by decide) ?_
        refine gd_zret C hQ hret ?_ dX0_isReserved_26 ?_ ?_
        · omega
        · exact ⟨_, rfl, rfl, by omega⟩
        · decide

set_option maxRecDepth 100000 in
set_option maxHeartbeats 4000000 in
theorem kX0_begin {l : Launch} {D : va_G} {ky : Nat → ClassId} {z : Nat} {w : WT} (hl : l.stackTraces = false) {h bl : Nat} {v : Int → Int} (hh : w h = some (cC bl v)) : Mt l D ky z yX0_begin wsX0_begin { frames := 0, cells := 0, slots := 0, locals := 0 } [.ref h] w (fun r w' => r = none ∧ w' = wU w h (cC bl (fU v 2 1))) (fun _ => False) := by
  refine Mt.of (cc := cX0_begin) (ret := none) (maxL := 1) (by decide) rfl (by intro v hv; simp at hv; rcases hv with rfl <;> rfl) (Nat.le_of_ble_eq_true rfl) ?_ hl
  intro p e s m args below meth c C htab hret hname Q hQ
  refine gd_aload_n C dX0_begin_0 rfl ?_
  refine gd_iconst C dX0_begin_1 ?_
  apply gd_putC C (by decide +kernel) 2 2 rfl (by decide) (by decide) (by decide +kernel) rfl dX0_begin_2
  · first | assumption | exact wU_s _ _ _ | exact look1 (by assumption) (by assumption) | exact look2 (by assumption) (by assumption)
  · exact fun _ => by omega
  refine gd_vret C hQ hret dX0_begin_5 ?_ ?_
  · exact ⟨rfl, rfl⟩
  · decide

set_option maxRecDepth 100000 in
set_option maxHeartbeats 4000000 in
theorem kX0_keep {l : Launch} {D : va_G} {ky : Nat → ClassId} {z : Nat} {w : WT} (hl : l.stackTraces = false) {h bl : Nat} {v : Int → Int} {a b n : Int} (hh : w h = some (cC bl v)) : Mt l D ky z yX0_keep wsX0_keep { frames := 0, cells := 0, slots := 0, locals := 0 } [.ref h, .int (iI a), .int (iI b), .int (iI n)] w (fun r w' => r = none ∧ w' h = some (cC bl (fU (fU (fU v 5 a) 6 b) 7 n)) ∧ ∀ q, q ≠ h → w' q = w q) (fun _ => False) := by
  refine Mt.of (cc := cX0_keep) (ret := none) (maxL := 4) (by decide) rfl (by intro v hv; simp at hv; rcases hv with rfl | rfl | rfl | rfl <;> rfl) (Nat.le_of_ble_eq_true rfl) ?_ hl
  intro p e s m args below meth c C htab hret hname Q hQ
  refine gd_aload_n C dX0_keep_0 rfl ?_
  refine gd_iload_n C dX0_keep_1 rfl ?_
  apply gd_putC C (by decide +kernel) 5 5 rfl (by decide) (by decide) (by decide +kernel) rfl dX0_keep_2
  · first | assumption | exact wU_s _ _ _ | exact look1 (by assumption) (by assumption) | exact look2 (by assumption) (by assumption)
  · exact fun h => nomatch h
  refine gd_aload_n C dX0_keep_5 rfl ?_
  refine gd_iload_n C dX0_keep_6 rfl ?_
  apply gd_putC C (by decide +kernel) 6 6 rfl (by decide) (by decide) (by decide +kernel) rfl dX0_keep_7
  · first | assumption | exact wU_s _ _ _ | exact look1 (by assumption) (by assumption) | exact look2 (by assumption) (by assumption)
  · exact fun h => nomatch h
  refine gd_aload_n C dX0_keep_10 rfl ?_
  refine gd_iload_n C dX0_keep_11 rfl ?_
  apply gd_putC C (by decide +kernel) 7 7 rfl (by decide) (by decide) (by decide +kernel) rfl dX0_keep_12
  · first | assumption | exact wU_s _ _ _ | exact look1 (by assumption) (by assumption) | exact look2 (by assumption) (by assumption)
  · exact fun h => nomatch h
  refine gd_vret C hQ hret dX0_keep_15 ?_ ?_
  · exact ⟨rfl, wU_s _ _ _, fun q hq => by rw [wU_n hq, wU_n hq, wU_n hq]⟩
  · decide

set_option maxRecDepth 100000 in
set_option maxHeartbeats 4000000 in
theorem kX0_isKeptFor {l : Launch} {D : va_G} {ky : Nat → ClassId} {z : Nat} {w : WT} (hl : l.stackTraces = false) {h bl : Nat} {v : Int → Int} {q : Int} (hh : w h = some (cC bl v)) (hv : InR (v 5) ∧ InR (v 7)) (hq : InR q) : Mt l D ky z yX0_isKeptFor wsX0_isKeptFor { frames := 0, cells := 0, slots := 0, locals := 0 } [.ref h, .int (iI q)] w (fun r w' => ∃ b : Int, w = w' ∧ r = some (.int (iI b)) ∧ (b = 1 ∧ (0 < v 7 ∧ v 5 = q) ∨ b = 0 ∧ ¬ (0 < v 7 ∧ v 5 = q))) (fun _ => False) := by
  refine Mt.of (cc := cX0_isKeptFor) (ret := (some .boolean)) (maxL := 2) (by decide) rfl (by intro v hv; simp at hv; rcases hv with rfl | rfl <;> rfl) (Nat.le_of_ble_eq_true rfl) ?_ hl
  intro p e s m args below meth c C htab hret hname Q hQ
  refine gd_aload_n C dX0_isKeptFor_0 rfl ?_
  apply gd_get (ci := 0) (Cn := RX0) (T := TX0) (N := 11) (ref := RX0) C rfl (by decide +kernel) 7 (by decide) (by decide +kernel) rfl dX0_isKeptFor_1
  · first | assumption | exact wU_s _ _ _ | exact look1 (by assumption) (by assumption) | exact look2 (by assumption) (by assumption)
  · rfl
  refine gd_if_le (tgt := 19) C dX0_isKeptFor_4 (by decide) ?_ (fun hc4 => ?_) (fun hc4 => ?_)
  · omega
  · refine gd_iconst C dX0_isKeptFor_19 ?_
    refine gd_zret C hQ hret ?_ dX0_isKeptFor_20 ?_ ?_
    · omega
    · exact ⟨_, rfl, rfl, by omega⟩
    · decide
  · refine gd_aload_n C dX0_isKeptFor_7 rfl ?_
    apply gd_get (ci := 0) (Cn := RX0) (T := TX0) (N := 11) (ref := RX0) C rfl (by decide +kernel) 5 (by decide) (by decide +kernel) rfl dX0_isKeptFor_8
    · first | assumption | exact wU_s _ _ _ | exact look1 (by assumption) (by assumption) | exact look2 (by assumption) (by assumption)
    · rfl
    refine gd_iload_n C dX0_isKeptFor_11 rfl ?_
    refine gd_icmp_ne (tgt := 19) C dX0_isKeptFor_12 (by decide) ?_ ?_ (fun hc12 => ?_) (fun hc12 => ?_)
    · omega
    · omega
    · refine gd_iconst C dX0_isKeptFor_19 ?_
      refine gd_zret C hQ hret ?_ dX0_isKeptFor_20 ?_ ?_
      · omega
      · exact ⟨_, rfl, rfl, by omega⟩
      · decide
    · refine gd_iconst C dX0_isKeptFor_15 ?_
      refine gd_goto (tgt := 20) C dX0_isKeptFor_16 (by decide) ?_
      refine gd_zret C hQ hret ?_ dX0_isKeptFor_20 ?_ ?_
      · omega
      · exact ⟨_, rfl, rfl, by omega⟩
      · decide

set_option maxRecDepth 100000 in
set_option maxHeartbeats 4000000 in
theorem kX0_joinsAhead {l : Launch} {D : va_G} {ky : Nat → ClassId} {z : Nat} {w : WT} (hl : l.stackTraces = false) {h bl : Nat} {v f : Int → Int} (hh : w h = some (cC bl v)) (hb : w bl = some (iA (ky 0) 64 f)) (hf : ∀ i, -2 ≤ f i ∧ f i ≤ 127) {q : Int} (hq : 0 ≤ q ∧ q < 64) : Mt l D ky z yX0_joinsAhead wsX0_joinsAhead { frames := 1, cells := 0, slots := 0, locals := 21 } [.ref h, .int (iI q)] w (fun r w' => ∃ b : Int, w = w' ∧ r = some (.int (iI b)) ∧ (b = 1 ∧ (0 < q ∧ 0 ≤ f q ∧ 0 ≤ f (q - 1) ∧ f q = f (q - 1) + 1) ∨ b = 0 ∧ ¬ (0 < q ∧ 0 ≤ f q ∧ 0 ≤ f (q - 1) ∧ f q = f (q - 1) + 1))) (fun _ => False) := by
  refine Mt.of (cc := cX0_joinsAhead) (ret := (some .boolean)) (maxL := 2) (by decide) rfl (by intro v hv; simp at hv; rcases hv with rfl | rfl <;> rfl) (Nat.le_of_ble_eq_true rfl) ?_ hl
  intro p e s m args below meth c C htab hret hname Q hQ
  have hf1 := hf q
  have hf2 := hf (q - 1)
  refine gd_aload_n C dX0_joinsAhead_0 rfl ?_
  refine gd_iload_n C dX0_joinsAhead_1 rfl ?_
  refine gd_callV (n := 1) (ci := 0) (Cn := RX0) (T := TX0) (N := 11) C (kX0_isMapped hl hh hb hf (q := q) ?_) ?_ rfl gX0_joinsAhead_X0_isMapped rfl ⟨rfl, by decide, by decide, by decide +kernel⟩ rfl rfl (Nat.le_of_ble_eq_true rfl) rfl dX0_joinsAhead_2 ⟨⟨by decide, by decide⟩, by decide, by decide⟩ (fun _ h => h.elim) ?_
  · omega
  · exact ⟨_, by assumption⟩
  rintro _ _ ⟨b1, rfl, rfl, hb1⟩
  refine gd_if_eq (tgt := 41) C dX0_joinsAhead_5 (by decide) ?_ (fun hc5 => ?_) (fun hc5 => ?_)
  · omega
  · refine gd_iconst C dX0_joinsAhead_41 ?_
    refine gd_zret C hQ hret ?_ dX0_joinsAhead_42 ?_ ?_
    · omega
    · refine ⟨_, rfl, rfl, ?_⟩
      omega
    · decide
  · refine gd_aload_n C dX0_joinsAhead_8 rfl ?_
    refine gd_iload_n C dX0_joinsAhead_9 rfl ?_
    refine gd_iconst C dX0_joinsAhead_10 ?_
    refine gd_isub C dX0_joinsAhead_11 ?_
    refine gd_callV (n := 1) (ci := 0) (Cn := RX0) (T := TX0) (N := 11) C (kX0_isMapped hl hh hb hf (q := (q - 1)) ?_) ?_ rfl gX0_joinsAhead_X0_isMapped rfl ⟨rfl, by decide, by decide, by decide +kernel⟩ rfl rfl (Nat.le_of_ble_eq_true rfl) rfl dX0_joinsAhead_12 ⟨⟨by decide, by decide⟩, by decide, by decide⟩ (fun _ h => h.elim) ?_
    · omega
    · exact ⟨_, by assumption⟩
    rintro _ _ ⟨b2, rfl, rfl, hb2⟩
    refine gd_if_eq (tgt := 41) C dX0_joinsAhead_15 (by decide) ?_ (fun hc15 => ?_) (fun hc15 => ?_)
    · omega
    · refine gd_iconst C dX0_joinsAhead_41 ?_
      refine gd_zret C hQ hret ?_ dX0_joinsAhead_42 ?_ ?_
      · omega
      · refine ⟨_, rfl, rfl, ?_⟩
        omega
      · decide
    · refine gd_aload_n C dX0_joinsAhead_18 rfl ?_
      apply gd_get (ci := 0) (Cn := RX0) (T := TX0) (N := 11) (ref := RX0) C rfl (by decide +kernel) 1 (by decide) (by decide +kernel) rfl dX0_joinsAhead_19
      · first | assumption | exact wU_s _ _ _ | exact look1 (by assumption) (by assumption) | exact look2 (by assumption) (by assumption)
      · rfl
      refine gd_iload_n C dX0_joinsAhead_22 rfl ?_
      apply gd_iald C dX0_joinsAhead_23
      · first | assumption | exact wU_s _ _ _ | exact look1 (by assumption) (by assumption) | exact look2 (by assumption) (by assumption)
      · decide
      · omega
      refine gd_aload_n C dX0_joinsAhead_24 rfl ?_
      apply gd_get (ci := 0) (Cn := RX0) (T := TX0) (N := 11) (ref := RX0) C rfl (by decide +kernel) 1 (by decide) (by decide +kernel) rfl dX0_joinsAhead_25
      · first | assumption | exact wU_s _ _ _ | exact look1 (by assumption) (by assumption) | exact look2 (by assumption) (by assumption)
      · rfl
      refine gd_iload_n C dX0_joinsAhead_28 rfl ?_
      refine gd_iconst C dX0_joinsAhead_29 ?_
      refine gd_isub C dX0_joinsAhead_30 ?_
      apply gd_iald C dX0_joinsAhead_31
      · first | assumption | exact wU_s _ _ _ | exact look1 (by assumption) (by assumption) | exact look2 (by assumption) (by assumption)
      · decide
      · omega
      refine gd_iconst C dX0_joinsAhead_32 ?_
      refine gd_iadd C dX0_joinsAhead_33 ?_
      refine gd_icmp_ne (tgt := 41) C dX0_joinsAhead_34 (by decide) ?_ ?_ (fun hc34 => ?_) (fun hc34 => ?_)
      · omega
      · omega
      · refine gd_iconst C dX0_joinsAhead_41 ?_
        refine gd_zret C hQ hret ?_ dX0_joinsAhead_42 ?_ ?_
        · omega
        · refine ⟨_, rfl, rfl, ?_⟩
          omega
        · decide
      · refine gd_iconst C dX0_joinsAhead_37 ?_
        refine gd_goto (tgt := 42) C dX0_joinsAhead_38 (by decide) ?_
        refine gd_zret C hQ hret ?_ dX0_joinsAhead_42 ?_ ?_
        · omega
        · refine ⟨_, rfl, rfl, ?_⟩
          omega
        · decide

set_option maxRecDepth 100000 in
set_option maxHeartbeats 4000000 in
theorem kX0_beginsExtent {l : Launch} {D : va_G} {ky : Nat → ClassId} {z : Nat} {w : WT} (hl : l.stackTraces = false) {h bl : Nat} {v f : Int → Int} (hh : w h = some (cC bl v)) (hb : w bl = some (iA (ky 0) 64 f)) (hf : ∀ i, -2 ≤ f i ∧ f i ≤ 127) {q : Int} (hq : 0 ≤ q ∧ q < 64) : Mt l D ky z yX0_beginsExtent wsX0_beginsExtent { frames := 2, cells := 0, slots := 0, locals := 42 } [.ref h, .int (iI q)] w (fun r w' => w = w' ∧ r = some (.int (iI (bE f q)))) (fun _ => False) := by
  refine Mt.of (cc := cX0_beginsExtent) (ret := (some .boolean)) (maxL := 2) (by decide) rfl (by intro v hv; simp at hv; rcases hv with rfl | rfl <;> rfl) (Nat.le_of_ble_eq_true rfl) ?_ hl
  intro p e s m args below meth c C htab hret hname Q hQ
  have hf1 := hf q
  have hf2 := hf (q - 1)
  refine gd_aload_n C dX0_beginsExtent_0 rfl ?_
  refine gd_iload_n C dX0_beginsExtent_1 rfl ?_
  refine gd_callV (n := 1) (ci := 0) (Cn := RX0) (T := TX0) (N := 11) C (kX0_isMapped hl hh hb hf (q := q) ?_) ?_ rfl gX0_beginsExtent_X0_isMapped rfl ⟨rfl, by decide, by decide, by decide +kernel⟩ rfl rfl (Nat.le_of_ble_eq_true rfl) rfl dX0_beginsExtent_2 ⟨⟨by decide, by decide⟩, by decide, by decide⟩ (fun _ h => h.elim) ?_
  · omega
  · exact ⟨_, by assumption⟩
  rintro _ _ ⟨b1, rfl, rfl, hb1⟩
  refine gd_if_eq (tgt := 20) C dX0_beginsExtent_5 (by decide) ?_ (fun hc5 => ?_) (fun hc5 => ?_)
  · omega
  · refine gd_iconst C dX0_beginsExtent_20 ?_
    refine gd_zret C hQ hret ?_ dX0_beginsExtent_21 ?_ ?_
    · omega
    · exact ⟨rfl, by unfold bE; first | rw [if_pos (by omega)] | rw [if_neg (by omega)]⟩
    · decide
  · refine gd_aload_n C dX0_beginsExtent_8 rfl ?_
    refine gd_iload_n C dX0_beginsExtent_9 rfl ?_
    refine gd_callV (n := 1) (ci := 0) (Cn := RX0) (T := TX0) (N := 11) C (kX0_joinsAhead hl hh hb hf (q := q) ?_) ?_ rfl gX0_beginsExtent_X0_joinsAhead rfl ⟨rfl, by decide, by decide, by decide +kernel⟩ rfl rfl (Nat.le_of_ble_eq_true rfl) rfl dX0_beginsExtent_10 ⟨⟨by decide, by decide⟩, by decide, by decide⟩ (fun _ h => h.elim) ?_
    · omega
    · exact ⟨_, by assumption⟩
    rintro _ _ ⟨b2, rfl, rfl, hb2⟩
    refine gd_if_ne (tgt := 20) C dX0_beginsExtent_13 (by decide) ?_ (fun hc13 => ?_) (fun hc13 => ?_)
    · omega
    · refine gd_iconst C dX0_beginsExtent_20 ?_
      refine gd_zret C hQ hret ?_ dX0_beginsExtent_21 ?_ ?_
      · omega
      · exact ⟨rfl, by unfold bE; first | rw [if_pos (by omega)] | rw [if_neg (by omega)]⟩
      · decide
    · refine gd_iconst C dX0_beginsExtent_16 ?_
      refine gd_goto (tgt := 21) C dX0_beginsExtent_17 (by decide) ?_
      refine gd_zret C hQ hret ?_ dX0_beginsExtent_21 ?_ ?_
      · omega
      · exact ⟨rfl, by unfold bE; first | rw [if_pos (by omega)] | rw [if_neg (by omega)]⟩
      · decide

set_option maxRecDepth 100000 in
set_option maxHeartbeats 4000000 in
theorem kX0_mappedPlaces {l : Launch} {D : va_G} {ky : Nat → ClassId} {z : Nat} {w : WT} (hl : l.stackTraces = false) {h bl : Nat} {v f : Int → Int} (hh : w h = some (cC bl v)) (hb : w bl = some (iA (ky 0) 64 f)) (hf : ∀ i, -2 ≤ f i ∧ f i ≤ 127) : Mt l D ky z yX0_mappedPlaces wsX0_mappedPlaces { frames := 0, cells := 0, slots := 0, locals := 0 } [.ref h] w (fun r w' => w = w' ∧ r = some (.int (iI (sI (fun j => geI (f j)) 0 64)))) (fun _ => False) := by
  refine Mt.of (cc := cX0_mappedPlaces) (ret := (some .int)) (maxL := 3) (by decide) rfl (by intro v hv; simp at hv; rcases hv with rfl <;> rfl) (Nat.le_of_ble_eq_true rfl) ?_ hl
  intro p e s m args below meth c C htab hret hname Q hQ
  refine gd_iconst C dX0_mappedPlaces_0 ?_
  refine gd_istore_n C dX0_mappedPlaces_1 (Nat.le_of_ble_eq_true rfl) ?_
  refine gd_iconst C dX0_mappedPlaces_2 ?_
  refine gd_istore_n C dX0_mappedPlaces_3 (Nat.le_of_ble_eq_true rfl) ?_
  suffices hloop : ∀ (n : Nat) (i a : Int), 0 ≤ i → i ≤ 64 → (64 - i).toNat = n → a = sI (fun j => geI (f j)) 0 i → Gd p l e ({ frames := 0, cells := 0, slots := 0, locals := 0 }) s m args below meth c D z Q 0 0 w 4 [some (.ref h), some (.int (iI a)), some (.int (iI i))] [] from
    hloop _ 0 0 (by omega) (by omega) rfl (sI_0 _ _).symm
  intro n
  induction n using Nat.strongRecOn with
  | _ n ih =>
  intro i a hi1 hi2 hn ha
  have hf1 := hf i
  refine gd_iload_n C dX0_mappedPlaces_4 rfl ?_
  refine gd_bipush C dX0_mappedPlaces_5 (by decide) ?_
  refine gd_icmp_ge (tgt := 33) C dX0_mappedPlaces_7 (by decide) ?_ ?_ (fun hc7 => ?_) (fun hc7 => ?_)
  · omega
  · omega
  · refine gd_iload_n C dX0_mappedPlaces_33 rfl ?_
    refine gd_iret C hQ hret dX0_mappedPlaces_34 ?_ ?_
    · exact ⟨rfl, by rw [ha, show i = 64 by omega]⟩
    · decide
  · refine gd_iload_n C dX0_mappedPlaces_10 rfl ?_
    refine gd_aload_n C dX0_mappedPlaces_11 rfl ?_
    apply gd_get (ci := 0) (Cn := RX0) (T := TX0) (N := 11) (ref := RX0) C rfl (by decide +kernel) 1 (by decide) (by decide +kernel) rfl dX0_mappedPlaces_12
    · first | assumption | exact wU_s _ _ _ | exact look1 (by assumption) (by assumption) | exact look2 (by assumption) (by assumption)
    · rfl
    refine gd_iload_n C dX0_mappedPlaces_15 rfl ?_
    apply gd_iald C dX0_mappedPlaces_16
    · first | assumption | exact wU_s _ _ _ | exact look1 (by assumption) (by assumption) | exact look2 (by assumption) (by assumption)
    · decide
    · omega
    refine gd_if_lt (tgt := 24) C dX0_mappedPlaces_17 (by decide) ?_ (fun hc17 => ?_) (fun hc17 => ?_)
    · omega
    · refine gd_iconst C dX0_mappedPlaces_24 ?_
      refine gd_iadd C dX0_mappedPlaces_25 ?_
      refine gd_istore_n C dX0_mappedPlaces_26 (Nat.le_of_ble_eq_true rfl) ?_
      refine gd_iinc C dX0_mappedPlaces_27 rfl ?_
      refine gd_goto (tgt := 4) C dX0_mappedPlaces_30 (by decide) ?_
      exact ih _ (by omega) _ _ (by omega) (by omega) rfl (by rw [sI_s (by omega), ← ha]; congr 1; first | exact (geI_t (by omega)).symm | exact (geI_f (by omega)).symm | omega)
    · refine gd_iconst C dX0_mappedPlaces_20 ?_
      refine gd_goto (tgt := 25) C dX0_mappedPlaces_21 (by decide) ?_
      refine gd_iadd C dX0_mappedPlaces_25 ?_
      refine gd_istore_n C dX0_mappedPlaces_26 (Nat.le_of_ble_eq_true rfl) ?_
      refine gd_iinc C dX0_mappedPlaces_27 rfl ?_
      refine gd_goto (tgt := 4) C dX0_mappedPlaces_30 (by decide) ?_
      exact ih _ (by omega) _ _ (by omega) (by omega) rfl (by rw [sI_s (by omega), ← ha]; congr 1; first | exact (geI_t (by omega)).symm | exact (geI_f (by omega)).symm | omega)

set_option maxRecDepth 100000 in
set_option maxHeartbeats 4000000 in
theorem kX0_countExtents {l : Launch} {D : va_G} {ky : Nat → ClassId} {z : Nat} {w : WT} (hl : l.stackTraces = false) {h bl : Nat} {v f : Int → Int} (hh : w h = some (cC bl v)) (hb : w bl = some (iA (ky 0) 64 f)) (hf : ∀ i, -2 ≤ f i ∧ f i ≤ 127) : Mt l D ky z yX0_countExtents wsX0_countExtents { frames := 3, cells := 0, slots := 0, locals := 63 } [.ref h] w (fun r w' => w = w' ∧ r = some (.int (iI (sI (bE f) 0 64)))) (fun _ => False) := by
  refine Mt.of (cc := cX0_countExtents) (ret := (some .int)) (maxL := 3) (by decide) rfl (by intro v hv; simp at hv; rcases hv with rfl <;> rfl) (Nat.le_of_ble_eq_true rfl) ?_ hl
  intro p e s m args below meth c C htab hret hname Q hQ
  refine gd_iconst C dX0_countExtents_0 ?_
  refine gd_istore_n C dX0_countExtents_1 (Nat.le_of_ble_eq_true rfl) ?_
  refine gd_iconst C dX0_countExtents_2 ?_
  refine gd_istore_n C dX0_countExtents_3 (Nat.le_of_ble_eq_true rfl) ?_
  suffices hloop : ∀ (n : Nat) (i a : Int), 0 ≤ i → i ≤ 64 → (64 - i).toNat = n → a = sI (bE f) 0 i → Gd p l e ({ frames := 3, cells := 0, slots := 0, locals := 63 }) s m args below meth c D z Q 0 0 w 4 [some (.ref h), some (.int (iI a)), some (.int (iI i))] [] from
    hloop _ 0 0 (by omega) (by omega) rfl (sI_0 _ _).symm
  intro n
  induction n using Nat.strongRecOn with
  | _ n ih =>
  intro i a hi1 hi2 hn ha
  have hf1 := hf i
  have hbe := bE_bd f i
  refine gd_iload_n C dX0_countExtents_4 rfl ?_
  refine gd_bipush C dX0_countExtents_5 (by decide) ?_
  refine gd_icmp_ge (tgt := 32) C dX0_countExtents_7 (by decide) ?_ ?_ (fun hc7 => ?_) (fun hc7 => ?_)
  · omega
  · omega
  · refine gd_iload_n C dX0_countExtents_32 rfl ?_
    refine gd_iret C hQ hret dX0_countExtents_33 ?_ ?_
    · exact ⟨rfl, by rw [ha, show i = 64 by omega]⟩
    · decide
  · refine gd_iload_n C dX0_countExtents_10 rfl ?_
    refine gd_aload_n C dX0_countExtents_11 rfl ?_
    refine gd_iload_n C dX0_countExtents_12 rfl ?_
    refine gd_callV (n := 1) (ci := 0) (Cn := RX0) (T := TX0) (N := 11) C (kX0_beginsExtent hl hh hb hf (q := i) ?_) ?_ rfl gX0_countExtents_X0_beginsExtent rfl ⟨rfl, by decide, by decide, by decide +kernel⟩ rfl rfl (Nat.le_of_ble_eq_true rfl) rfl dX0_countExtents_13 ⟨⟨by decide, by decide⟩, by decide, by decide⟩ (fun _ h => h.elim) ?_
    · omega
    · exact ⟨_, by assumption⟩
    rintro _ _ ⟨rfl, rfl⟩
    refine gd_if_eq (tgt := 23) C dX0_countExtents_16 (by decide) ?_ (fun hc16 => ?_) (fun hc16 => ?_)
    · omega
    · refine gd_iconst C dX0_countExtents_23 ?_
      refine gd_iadd C dX0_countExtents_24 ?_
      refine gd_istore_n C dX0_countExtents_25 (Nat.le_of_ble_eq_true rfl) ?_
      refine gd_iinc C dX0_countExtents_26 rfl ?_
      refine gd_goto (tgt := 4) C dX0_countExtents_29 (by decide) ?_
      exact ih _ (by omega) _ _ (by omega) (by omega) rfl (by rw [sI_s (by omega), ← ha]; congr 1; first | exact (geI_t (by omega)).symm | exact (geI_f (by omega)).symm | omega)
    · refine gd_iconst C dX0_countExtents_19 ?_
      refine gd_goto (tgt := 24) C dX0_countExtents_20 (by decide) ?_
      refine gd_iadd C dX0_countExtents_24 ?_
      refine gd_istore_n C dX0_countExtents_25 (Nat.le_of_ble_eq_true rfl) ?_
      refine gd_iinc C dX0_countExtents_26 rfl ?_
      refine gd_goto (tgt := 4) C dX0_countExtents_29 (by decide) ?_
      exact ih _ (by omega) _ _ (by omega) (by omega) rfl (by rw [sI_s (by omega), ← ha]; congr 1; first | exact (geI_t (by omega)).symm | exact (geI_f (by omega)).symm | omega)

set_option maxRecDepth 100000 in
set_option maxHeartbeats 4000000 in
theorem kX0_emptyPlaces {l : Launch} {D : va_G} {ky : Nat → ClassId} {z : Nat} {w : WT} (hl : l.stackTraces = false) {h bl : Nat} {v f : Int → Int} (hh : w h = some (cC bl v)) (hb : w bl = some (iA (ky 0) 64 f)) (hf : ∀ i, -2 ≤ f i ∧ f i ≤ 127) {a b : Int} (hab : 0 ≤ a ∧ a ≤ b ∧ b ≤ 64) : Mt l D ky z yX0_emptyPlaces wsX0_emptyPlaces { frames := 0, cells := 0, slots := 0, locals := 0 } [.ref h, .int (iI a), .int (iI b)] w (fun r w' => w = w' ∧ r = some (.int (iI (sI (fun j => eqI (f j) (-1)) a b)))) (fun _ => False) := by
  refine Mt.of (cc := cX0_emptyPlaces) (ret := (some .int)) (maxL := 5) (by decide) rfl (by intro v hv; simp at hv; rcases hv with rfl | rfl | rfl <;> rfl) (Nat.le_of_ble_eq_true rfl) ?_ hl
  intro p e s m args below meth c C htab hret hname Q hQ
  refine gd_iconst C dX0_emptyPlaces_0 ?_
  refine gd_istore_n C dX0_emptyPlaces_1 (Nat.le_of_ble_eq_true rfl) ?_
  refine gd_iload_n C dX0_emptyPlaces_2 rfl ?_
  refine gd_istore C dX0_emptyPlaces_3 (Nat.le_of_ble_eq_true rfl) ?_
  suffices hloop : ∀ (n : Nat) (i x : Int), a ≤ i → i ≤ b → (b - i).toNat = n → x = sI (fun j => eqI (f j) (-1)) a i → Gd p l e ({ frames := 0, cells := 0, slots := 0, locals := 0 }) s m args below meth c D z Q 0 0 w 5 [some (.ref h), some (.int (iI a)), some (.int (iI b)), some (.int (iI x)), some (.int (iI i))] [] from
    hloop _ a 0 (by omega) (by omega) rfl (sI_0 _ _).symm
  intro n
  induction n using Nat.strongRecOn with
  | _ n ih =>
  intro i x hi1 hi2 hn ha
  have hf1 := hf i
  refine gd_iload C dX0_emptyPlaces_5 rfl ?_
  refine gd_iload_n C dX0_emptyPlaces_7 rfl ?_
  refine gd_icmp_ge (tgt := 43) C dX0_emptyPlaces_8 (by decide) ?_ ?_ (fun hc8 => ?_) (fun hc8 => ?_)
  · omega
  · omega
  · refine gd_iload_n C dX0_emptyPlaces_43 rfl ?_
    refine gd_iret C hQ hret dX0_emptyPlaces_44 ?_ ?_
    · first | exact ⟨rfl, by rw [ha, show i = b by omega]⟩ | (exfalso; omega)
    · decide
  · refine gd_iload C dX0_emptyPlaces_11 rfl ?_
    refine gd_bipush C dX0_emptyPlaces_13 (by decide) ?_
    refine gd_icmp_ge (tgt := 43) C dX0_emptyPlaces_15 (by decide) ?_ ?_ (fun hc15 => ?_) (fun hc15 => ?_)
    · omega
    · omega
    · refine gd_iload_n C dX0_emptyPlaces_43 rfl ?_
      refine gd_iret C hQ hret dX0_emptyPlaces_44 ?_ ?_
      · first | exact ⟨rfl, by rw [ha, show i = b by omega]⟩ | (exfalso; omega)
      · decide
    · refine gd_iload_n C dX0_emptyPlaces_18 rfl ?_
      refine gd_aload_n C dX0_emptyPlaces_19 rfl ?_
      apply gd_get (ci := 0) (Cn := RX0) (T := TX0) (N := 11) (ref := RX0) C rfl (by decide +kernel) 1 (by decide) (by decide +kernel) rfl dX0_emptyPlaces_20
      · first | assumption | exact wU_s _ _ _ | exact look1 (by assumption) (by assumption) | exact look2 (by assumption) (by assumption)
      · rfl
      refine gd_iload C dX0_emptyPlaces_23 rfl ?_
      apply gd_iald C dX0_emptyPlaces_25
      · first | assumption | exact wU_s _ _ _ | exact look1 (by assumption) (by assumption) | exact look2 (by assumption) (by assumption)
      · decide
      · omega
      refine gd_iconst C dX0_emptyPlaces_26 ?_
      refine gd_icmp_ne (tgt := 34) C dX0_emptyPlaces_27 (by decide) ?_ ?_ (fun hc27 => ?_) (fun hc27 => ?_)
      · omega
      · omega
      · refine gd_iconst C dX0_emptyPlaces_34 ?_
        refine gd_iadd C dX0_emptyPlaces_35 ?_
        refine gd_istore_n C dX0_emptyPlaces_36 (Nat.le_of_ble_eq_true rfl) ?_
        refine gd_iinc C dX0_emptyPlaces_37 rfl ?_
        refine gd_goto (tgt := 5) C dX0_emptyPlaces_40 (by decide) ?_
        exact ih _ (by omega) _ _ (by omega) (by omega) rfl (by rw [sI_s (by omega), ← ha]; congr 1; first | exact (eqI_t (by omega)).symm | exact (eqI_f (by omega)).symm)
      · refine gd_iconst C dX0_emptyPlaces_30 ?_
        refine gd_goto (tgt := 35) C dX0_emptyPlaces_31 (by decide) ?_
        refine gd_iadd C dX0_emptyPlaces_35 ?_
        refine gd_istore_n C dX0_emptyPlaces_36 (Nat.le_of_ble_eq_true rfl) ?_
        refine gd_iinc C dX0_emptyPlaces_37 rfl ?_
        refine gd_goto (tgt := 5) C dX0_emptyPlaces_40 (by decide) ?_
        exact ih _ (by omega) _ _ (by omega) (by omega) rfl (by rw [sI_s (by omega), ← ha]; congr 1; first | exact (eqI_t (by omega)).symm | exact (eqI_f (by omega)).symm)

set_option maxRecDepth 100000 in
set_option maxHeartbeats 4000000 in
theorem kX0_reserve {l : Launch} {D : va_G} {ky : Nat → ClassId} {z : Nat} {w : WT} (hl : l.stackTraces = false) {h bl : Nat} {v f : Int → Int} (hh : w h = some (cC bl v)) (hb : w bl = some (iA (ky 0) 64 f)) (hf : ∀ i, -2 ≤ f i ∧ f i ≤ 127) {a b : Int} (hab : 0 ≤ a ∧ a ≤ b ∧ b ≤ 64) : Mt l D ky z yX0_reserve wsX0_reserve { frames := 0, cells := 0, slots := 0, locals := 0 } [.ref h, .int (iI a), .int (iI b)] w (fun r w' => r = none ∧ w' bl = some (iA (ky 0) 64 (rsF f a b)) ∧ w' h = some (cC bl (fU v 4 (v 4 + sI (fun j => eqI (f j) (-1)) a b))) ∧ ∀ q, q ≠ bl → q ≠ h → w' q = w q) (fun _ => False) := by
  refine Mt.of (cc := cX0_reserve) (ret := none) (maxL := 4) (by decide) rfl (by intro v hv; simp at hv; rcases hv with rfl | rfl | rfl <;> rfl) (Nat.le_of_ble_eq_true rfl) ?_ hl
  intro p e s m args below meth c C htab hret hname Q hQ
  refine gd_iload_n C dX0_reserve_0 rfl ?_
  refine gd_istore_n C dX0_reserve_1 (Nat.le_of_ble_eq_true rfl) ?_
  suffices hloop : ∀ (n : Nat) (i : Int) (w1 : WT), a ≤ i → i ≤ b → (b - i).toNat = n → w1 bl = some (iA (ky 0) 64 (rsF f a i)) → w1 h = some (cC bl (fU v 4 (v 4 + sI (fun j => eqI (f j) (-1)) a i))) → (∀ q, q ≠ bl → q ≠ h → w1 q = w q) → Gd p l e ({ frames := 0, cells := 0, slots := 0, locals := 0 }) s m args below meth c D z Q 0 0 w1 2 [some (.ref h), some (.int (iI a)), some (.int (iI b)), some (.int (iI i))] [] from
    hloop _ a w (by omega) (by omega) rfl (by rw [rsF_0]; exact hb) (by rw [sI_0, Int.add_zero, fU_id]; exact hh) (fun _ _ _ => rfl)
  intro n
  induction n using Nat.strongRecOn with
  | _ n ih =>
  intro i w1 hi1 hi2 hn hb1 hh1 hfr
  have hf1 := hf i
  have hge : rsF f a i i = f i := rsF_ge (Int.le_refl _)
  have hne : h ≠ bl := kd_ne hh1 hb1
  refine gd_iload_n C dX0_reserve_2 rfl ?_
  refine gd_iload_n C dX0_reserve_3 rfl ?_
  refine gd_icmp_ge (tgt := 47) C dX0_reserve_4 (by decide) ?_ ?_ (fun hc4 => ?_) (fun hc4 => ?_)
  · omega
  · omega
  · refine gd_vret C hQ hret dX0_reserve_47 ?_ ?_
    · first | exact ⟨rfl, by rw [← show i = b by omega]; assumption, by rw [← show i = b by omega]; assumption, hfr⟩ | (exfalso; omega)
    · decide
  · refine gd_iload_n C dX0_reserve_7 rfl ?_
    refine gd_bipush C dX0_reserve_8 (by decide) ?_
    refine gd_icmp_ge (tgt := 47) C dX0_reserve_10 (by decide) ?_ ?_ (fun hc10 => ?_) (fun hc10 => ?_)
    · omega
    · omega
    · refine gd_vret C hQ hret dX0_reserve_47 ?_ ?_
      · first | exact ⟨rfl, by rw [← show i = b by omega]; assumption, by rw [← show i = b by omega]; assumption, hfr⟩ | (exfalso; omega)
      · decide
    · refine gd_aload_n C dX0_reserve_13 rfl ?_
      apply gd_get (ci := 0) (Cn := RX0) (T := TX0) (N := 11) (ref := RX0) C rfl (by decide +kernel) 1 (by decide) (by decide +kernel) rfl dX0_reserve_14
      · first | assumption | exact wU_s _ _ _ | exact look1 (by assumption) (by assumption) | exact look2 (by assumption) (by assumption)
      · rfl
      refine gd_iload_n C dX0_reserve_17 rfl ?_
      apply gd_iald C dX0_reserve_18
      · first | assumption | exact wU_s _ _ _ | exact look1 (by assumption) (by assumption) | exact look2 (by assumption) (by assumption)
      · decide
      · omega
      refine gd_iconst C dX0_reserve_19 ?_
      refine gd_icmp_ne (tgt := 41) C dX0_reserve_20 (by decide) ?_ ?_ (fun hc20 => ?_) (fun hc20 => ?_)
      · omega
      · omega
      · refine gd_iinc C dX0_reserve_41 rfl ?_
        refine gd_goto (tgt := 2) C dX0_reserve_44 (by decide) ?_
        first
          | exact ih _ (by omega) _ _ (by omega) (by omega) rfl (by rw [rsF_f (by omega)]; assumption) (by rw [sI_s (by omega), eqI_f (by omega), Int.add_zero]; assumption) hfr
          | exact ih _ (by omega) _ _ (by omega) (by omega) rfl (by rw [rsF_t (by omega) (by omega)]; exact look2 (wU_s _ _ _) hne) (by rw [sI_s (by omega), eqI_t (by omega)]; exact (wU_s _ _ _).trans (by simp only [fU_ss, fU_s, Int.sub_sub, Int.add_assoc])) (fun q h1 h2 => by rw [wU_n h2, wU_n h1]; exact hfr q h1 h2)
      · refine gd_aload_n C dX0_reserve_23 rfl ?_
        apply gd_get (ci := 0) (Cn := RX0) (T := TX0) (N := 11) (ref := RX0) C rfl (by decide +kernel) 1 (by decide) (by decide +kernel) rfl dX0_reserve_24
        · first | assumption | exact wU_s _ _ _ | exact look1 (by assumption) (by assumption) | exact look2 (by assumption) (by assumption)
        · rfl
        refine gd_iload_n C dX0_reserve_27 rfl ?_
        refine gd_bipush C dX0_reserve_28 (by decide) ?_
        apply gd_iast C dX0_reserve_30
        · first | assumption | exact wU_s _ _ _ | exact look1 (by assumption) (by assumption) | exact look2 (by assumption) (by assumption)
        · decide
        · omega
        refine gd_aload_n C dX0_reserve_31 rfl ?_
        refine gd_dup C dX0_reserve_32 rfl ?_
        apply gd_get (ci := 0) (Cn := RX0) (T := TX0) (N := 11) (ref := RX0) C rfl (by decide +kernel) 4 (by decide) (by decide +kernel) rfl dX0_reserve_33
        · first | assumption | exact wU_s _ _ _ | exact look1 (by assumption) (by assumption) | exact look2 (by assumption) (by assumption)
        · rfl
        refine gd_iconst C dX0_reserve_36 ?_
        refine gd_iadd C dX0_reserve_37 ?_
        apply gd_putC C (by decide +kernel) 4 4 rfl (by decide) (by decide) (by decide +kernel) rfl dX0_reserve_38
        · first | assumption | exact wU_s _ _ _ | exact look1 (by assumption) (by assumption) | exact look2 (by assumption) (by assumption)
        · exact fun h => nomatch h
        refine gd_iinc C dX0_reserve_41 rfl ?_
        refine gd_goto (tgt := 2) C dX0_reserve_44 (by decide) ?_
        first
          | exact ih _ (by omega) _ _ (by omega) (by omega) rfl (by rw [rsF_f (by omega)]; assumption) (by rw [sI_s (by omega), eqI_f (by omega), Int.add_zero]; assumption) hfr
          | exact ih _ (by omega) _ _ (by omega) (by omega) rfl (by rw [rsF_t (by omega) (by omega)]; exact look2 (wU_s _ _ _) hne) (by rw [sI_s (by omega), eqI_t (by omega)]; exact (wU_s _ _ _).trans (by simp only [fU_ss, fU_s, Int.sub_sub, Int.add_assoc])) (fun q h1 h2 => by rw [wU_n h2, wU_n h1]; exact hfr q h1 h2)

set_option maxRecDepth 100000 in
set_option maxHeartbeats 4000000 in
theorem kX0_dropReserved {l : Launch} {D : va_G} {ky : Nat → ClassId} {z : Nat} {w : WT} (hl : l.stackTraces = false) {h bl : Nat} {v f : Int → Int} (hh : w h = some (cC bl v)) (hb : w bl = some (iA (ky 0) 64 f)) (hf : ∀ i, -2 ≤ f i ∧ f i ≤ 127) {a : Int} (hab : 0 ≤ a ∧ a ≤ 64) : Mt l D ky z yX0_dropReserved wsX0_dropReserved { frames := 0, cells := 0, slots := 0, locals := 0 } [.ref h, .int (iI a)] w (fun r w' => r = none ∧ w' bl = some (iA (ky 0) 64 (drF f a 64)) ∧ w' h = some (cC bl (fU v 4 (v 4 - sI (fun j => eqI (f j) (-2)) a 64))) ∧ ∀ q, q ≠ bl → q ≠ h → w' q = w q) (fun _ => False) := by
  refine Mt.of (cc := cX0_dropReserved) (ret := none) (maxL := 3) (by decide) rfl (by intro v hv; simp at hv; rcases hv with rfl | rfl <;> rfl) (Nat.le_of_ble_eq_true rfl) ?_ hl
  intro p e s m args below meth c C htab hret hname Q hQ
  refine gd_iload_n C dX0_dropReserved_0 rfl ?_
  refine gd_istore_n C dX0_dropReserved_1 (Nat.le_of_ble_eq_true rfl) ?_
  suffices hloop : ∀ (n : Nat) (i : Int) (w1 : WT), a ≤ i → i ≤ 64 → (64 - i).toNat = n → w1 bl = some (iA (ky 0) 64 (drF f a i)) → w1 h = some (cC bl (fU v 4 (v 4 - sI (fun j => eqI (f j) (-2)) a i))) → (∀ q, q ≠ bl → q ≠ h → w1 q = w q) → Gd p l e ({ frames := 0, cells := 0, slots := 0, locals := 0 }) s m args below meth c D z Q 0 0 w1 2 [some (.ref h), some (.int (iI a)), some (.int (iI i))] [] from
    hloop _ a w (by omega) (by omega) rfl (by rw [drF_0]; exact hb) (by rw [sI_0, Int.sub_zero, fU_id]; exact hh) (fun _ _ _ => rfl)
  intro n
  induction n using Nat.strongRecOn with
  | _ n ih =>
  intro i w1 hi1 hi2 hn hb1 hh1 hfr
  have hf1 := hf i
  have hge : drF f a i i = f i := drF_ge (Int.le_refl _)
  have hne : h ≠ bl := kd_ne hh1 hb1
  refine gd_iload_n C dX0_dropReserved_2 rfl ?_
  refine gd_bipush C dX0_dropReserved_3 (by decide) ?_
  refine gd_icmp_ge (tgt := 42) C dX0_dropReserved_5 (by decide) ?_ ?_ (fun hc5 => ?_) (fun hc5 => ?_)
  · omega
  · omega
  · refine gd_vret C hQ hret dX0_dropReserved_42 ?_ ?_
    · exact ⟨rfl, by rw [← show i = 64 by omega]; assumption, by rw [← show i = 64 by omega]; assumption, hfr⟩
    · decide
  · refine gd_aload_n C dX0_dropReserved_8 rfl ?_
    apply gd_get (ci := 0) (Cn := RX0) (T := TX0) (N := 11) (ref := RX0) C rfl (by decide +kernel) 1 (by decide) (by decide +kernel) rfl dX0_dropReserved_9
    · first | assumption | exact wU_s _ _ _ | exact look1 (by assumption) (by assumption) | exact look2 (by assumption) (by assumption)
    · rfl
    refine gd_iload_n C dX0_dropReserved_12 rfl ?_
    apply gd_iald C dX0_dropReserved_13
    · first | assumption | exact wU_s _ _ _ | exact look1 (by assumption) (by assumption) | exact look2 (by assumption) (by assumption)
    · decide
    · omega
    refine gd_bipush C dX0_dropReserved_14 (by decide) ?_
    refine gd_icmp_ne (tgt := 36) C dX0_dropReserved_16 (by decide) ?_ ?_ (fun hc16 => ?_) (fun hc16 => ?_)
    · omega
    · omega
    · refine gd_iinc C dX0_dropReserved_36 rfl ?_
      refine gd_goto (tgt := 2) C dX0_dropReserved_39 (by decide) ?_
      first
        | exact ih _ (by omega) _ _ (by omega) (by omega) rfl (by rw [drF_f (by omega)]; assumption) (by rw [sI_s (by omega), eqI_f (by omega), Int.add_zero]; assumption) hfr
        | exact ih _ (by omega) _ _ (by omega) (by omega) rfl (by rw [drF_t (by omega) (by omega)]; exact look2 (wU_s _ _ _) hne) (by rw [sI_s (by omega), eqI_t (by omega)]; exact (wU_s _ _ _).trans (by simp only [fU_ss, fU_s, Int.sub_sub, Int.add_assoc])) (fun q h1 h2 => by rw [wU_n h2, wU_n h1]; exact hfr q h1 h2)
    · refine gd_aload_n C dX0_dropReserved_19 rfl ?_
      apply gd_get (ci := 0) (Cn := RX0) (T := TX0) (N := 11) (ref := RX0) C rfl (by decide +kernel) 1 (by decide) (by decide +kernel) rfl dX0_dropReserved_20
      · first | assumption | exact wU_s _ _ _ | exact look1 (by assumption) (by assumption) | exact look2 (by assumption) (by assumption)
      · rfl
      refine gd_iload_n C dX0_dropReserved_23 rfl ?_
      refine gd_iconst C dX0_dropReserved_24 ?_
      apply gd_iast C dX0_dropReserved_25
      · first | assumption | exact wU_s _ _ _ | exact look1 (by assumption) (by assumption) | exact look2 (by assumption) (by assumption)
      · decide
      · omega
      refine gd_aload_n C dX0_dropReserved_26 rfl ?_
      refine gd_dup C dX0_dropReserved_27 rfl ?_
      apply gd_get (ci := 0) (Cn := RX0) (T := TX0) (N := 11) (ref := RX0) C rfl (by decide +kernel) 4 (by decide) (by decide +kernel) rfl dX0_dropReserved_28
      · first | assumption | exact wU_s _ _ _ | exact look1 (by assumption) (by assumption) | exact look2 (by assumption) (by assumption)
      · rfl
      refine gd_iconst C dX0_dropReserved_31 ?_
      refine gd_isub C dX0_dropReserved_32 ?_
      apply gd_putC C (by decide +kernel) 4 4 rfl (by decide) (by decide) (by decide +kernel) rfl dX0_dropReserved_33
      · first | assumption | exact wU_s _ _ _ | exact look1 (by assumption) (by assumption) | exact look2 (by assumption) (by assumption)
      · exact fun h => nomatch h
      refine gd_iinc C dX0_dropReserved_36 rfl ?_
      refine gd_goto (tgt := 2) C dX0_dropReserved_39 (by decide) ?_
      first
        | exact ih _ (by omega) _ _ (by omega) (by omega) rfl (by rw [drF_f (by omega)]; assumption) (by rw [sI_s (by omega), eqI_f (by omega), Int.add_zero]; assumption) hfr
        | exact ih _ (by omega) _ _ (by omega) (by omega) rfl (by rw [drF_t (by omega) (by omega)]; exact look2 (wU_s _ _ _) hne) (by rw [sI_s (by omega), eqI_t (by omega)]; exact (wU_s _ _ _).trans (by simp only [fU_ss, fU_s, Int.sub_sub, Int.add_assoc])) (fun q h1 h2 => by rw [wU_n h2, wU_n h1]; exact hfr q h1 h2)

set_option maxRecDepth 100000 in
set_option maxHeartbeats 4000000 in
theorem kX0_map {l : Launch} {D : va_G} {ky : Nat → ClassId} {z : Nat} {w : WT} (hl : l.stackTraces = false) {h bl : Nat} {v f : Int → Int} (hh : w h = some (cC bl v)) (hb : w bl = some (iA (ky 0) 64 f)) {a b k : Int} (hab : 0 ≤ a ∧ 0 ≤ k ∧ a + k ≤ 64) : Mt l D ky z yX0_map wsX0_map { frames := 0, cells := 0, slots := 0, locals := 0 } [.ref h, .int (iI a), .int (iI b), .int (iI k)] w (fun r w' => r = none ∧ w' bl = some (iA (ky 0) 64 (mpF f a b k)) ∧ w' h = some (cC bl (fU v 4 (v 4 - k))) ∧ ∀ q, q ≠ bl → q ≠ h → w' q = w q) (fun _ => False) := by
  refine Mt.of (cc := cX0_map) (ret := none) (maxL := 5) (by decide) rfl (by intro v hv; simp at hv; rcases hv with rfl | rfl | rfl | rfl <;> rfl) (Nat.le_of_ble_eq_true rfl) ?_ hl
  intro p e s m args below meth c C htab hret hname Q hQ
  refine gd_iconst C dX0_map_0 ?_
  refine gd_istore C dX0_map_1 (Nat.le_of_ble_eq_true rfl) ?_
  suffices hloop : ∀ (n : Nat) (i : Int) (w1 : WT), 0 ≤ i → i ≤ k → (k - i).toNat = n → w1 bl = some (iA (ky 0) 64 (mpF f a b i)) → w1 h = some (cC bl (fU v 4 (v 4 - i))) → (∀ q, q ≠ bl → q ≠ h → w1 q = w q) → Gd p l e ({ frames := 0, cells := 0, slots := 0, locals := 0 }) s m args below meth c D z Q 0 0 w1 3 [some (.ref h), some (.int (iI a)), some (.int (iI b)), some (.int (iI k)), some (.int (iI i))] [] from
    hloop _ 0 w (by omega) (by omega) rfl (by rw [mpF_0]; exact hb) (by rw [Int.sub_zero, fU_id]; exact hh) (fun _ _ _ => rfl)
  intro n
  induction n using Nat.strongRecOn with
  | _ n ih =>
  intro i w1 hi1 hi2 hn hb1 hh1 hfr
  have hne : h ≠ bl := kd_ne hh1 hb1
  refine gd_iload C dX0_map_3 rfl ?_
  refine gd_iload_n C dX0_map_5 rfl ?_
  refine gd_icmp_ge (tgt := 47) C dX0_map_6 (by decide) ?_ ?_ (fun hc6 => ?_) (fun hc6 => ?_)
  · omega
  · omega
  · refine gd_vret C hQ hret dX0_map_47 ?_ ?_
    · first | exact ⟨rfl, by rw [← show i = k by omega]; assumption, by rw [← show i = k by omega]; assumption, hfr⟩ | (exfalso; omega)
    · decide
  · refine gd_iload_n C dX0_map_9 rfl ?_
    refine gd_iload C dX0_map_10 rfl ?_
    refine gd_iadd C dX0_map_12 ?_
    refine gd_bipush C dX0_map_13 (by decide) ?_
    refine gd_icmp_ge (tgt := 47) C dX0_map_15 (by decide) ?_ ?_ (fun hc15 => ?_) (fun hc15 => ?_)
    · omega
    · omega
    · refine gd_vret C hQ hret dX0_map_47 ?_ ?_
      · first | exact ⟨rfl, by rw [← show i = k by omega]; assumption, by rw [← show i = k by omega]; assumption, hfr⟩ | (exfalso; omega)
      · decide
    · refine gd_aload_n C dX0_map_18 rfl ?_
      apply gd_get (ci := 0) (Cn := RX0) (T := TX0) (N := 11) (ref := RX0) C rfl (by decide +kernel) 1 (by decide) (by decide +kernel) rfl dX0_map_19
      · first | assumption | exact wU_s _ _ _ | exact look1 (by assumption) (by assumption) | exact look2 (by assumption) (by assumption)
      · rfl
      refine gd_iload_n C dX0_map_22 rfl ?_
      refine gd_iload C dX0_map_23 rfl ?_
      refine gd_iadd C dX0_map_25 ?_
      refine gd_iload_n C dX0_map_26 rfl ?_
      refine gd_iload C dX0_map_27 rfl ?_
      refine gd_iadd C dX0_map_29 ?_
      apply gd_iast C dX0_map_30
      · first | assumption | exact wU_s _ _ _ | exact look1 (by assumption) (by assumption) | exact look2 (by assumption) (by assumption)
      · decide
      · omega
      refine gd_aload_n C dX0_map_31 rfl ?_
      refine gd_dup C dX0_map_32 rfl ?_
      apply gd_get (ci := 0) (Cn := RX0) (T := TX0) (N := 11) (ref := RX0) C rfl (by decide +kernel) 4 (by decide) (by decide +kernel) rfl dX0_map_33
      · first | assumption | exact wU_s _ _ _ | exact look1 (by assumption) (by assumption) | exact look2 (by assumption) (by assumption)
      · rfl
      refine gd_iconst C dX0_map_36 ?_
      refine gd_isub C dX0_map_37 ?_
      apply gd_putC C (by decide +kernel) 4 4 rfl (by decide) (by decide) (by decide +kernel) rfl dX0_map_38
      · first | assumption | exact wU_s _ _ _ | exact look1 (by assumption) (by assumption) | exact look2 (by assumption) (by assumption)
      · exact fun h => nomatch h
      refine gd_iinc C dX0_map_41 rfl ?_
      refine gd_goto (tgt := 3) C dX0_map_44 (by decide) ?_
      exact ih _ (by omega) _ _ (by omega) (by omega) rfl (by rw [mpF_s (by omega)]; exact look2 (wU_s _ _ _) hne) ((wU_s _ _ _).trans (by simp only [fU_ss, fU_s, Int.sub_sub])) (fun q h1 h2 => by rw [wU_n h2, wU_n h1]; exact hfr q h1 h2)

set_option maxRecDepth 100000 in
set_option maxHeartbeats 4000000 in
theorem kX0_mapKept {l : Launch} {D : va_G} {ky : Nat → ClassId} {z : Nat} {w : WT} (hl : l.stackTraces = false) {h bl : Nat} {v f : Int → Int} (hh : w h = some (cC bl v)) (hb : w bl = some (iA (ky 0) 64 f)) {a k : Int} (hab : 0 ≤ a ∧ 0 ≤ k ∧ a + k ≤ 64) (hv : 0 ≤ v 7 ∧ v 7 ≤ 128) : Mt l D ky z yX0_mapKept wsX0_mapKept { frames := 1, cells := 0, slots := 0, locals := 24 } [.ref h, .int (iI a), .int (iI k)] w (fun r w' => ∃ x : Int, r = some (.int (iI x)) ∧ (x = v 7 ∧ v 7 ≤ k ∨ x = k ∧ k < v 7) ∧ w' bl = some (iA (ky 0) 64 (mpF f a (v 6) x)) ∧ w' h = some (cC bl (fU (fU (fU (fU v 4 (v 4 - x)) 5 (a + x)) 6 (v 6 + x)) 7 (v 7 - x))) ∧ ∀ q, q ≠ bl → q ≠ h → w' q = w q) (fun _ => False) := by
  refine Mt.of (cc := cX0_mapKept) (ret := (some .int)) (maxL := 4) (by decide) rfl (by intro v hv; simp at hv; rcases hv with rfl | rfl | rfl <;> rfl) (Nat.le_of_ble_eq_true rfl) ?_ hl
  intro p e s m args below meth c C htab hret hname Q hQ
  refine gd_aload_n C dX0_mapKept_0 rfl ?_
  apply gd_get (ci := 0) (Cn := RX0) (T := TX0) (N := 11) (ref := RX0) C rfl (by decide +kernel) 7 (by decide) (by decide +kernel) rfl dX0_mapKept_1
  · first | assumption | exact wU_s _ _ _ | exact look1 (by assumption) (by assumption) | exact look2 (by assumption) (by assumption)
  · rfl
  refine gd_iload_n C dX0_mapKept_4 rfl ?_
  apply gd_min C (by decide +kernel) (by decide +kernel) (by decide +kernel) (by decide +kernel) rfl dX0_mapKept_5 ⟨⟨by decide, Nat.le_of_ble_eq_true rfl⟩, by decide, by decide⟩
  · omega
  · omega
  intro x hx
  refine gd_istore_n C dX0_mapKept_8 (Nat.le_of_ble_eq_true rfl) ?_
  refine gd_aload_n C dX0_mapKept_9 rfl ?_
  refine gd_iload_n C dX0_mapKept_10 rfl ?_
  refine gd_aload_n C dX0_mapKept_11 rfl ?_
  apply gd_get (ci := 0) (Cn := RX0) (T := TX0) (N := 11) (ref := RX0) C rfl (by decide +kernel) 6 (by decide) (by decide +kernel) rfl dX0_mapKept_12
  · first | assumption | exact wU_s _ _ _ | exact look1 (by assumption) (by assumption) | exact look2 (by assumption) (by assumption)
  · rfl
  refine gd_iload_n C dX0_mapKept_15 rfl ?_
  refine gd_callV (n := 3) (ci := 0) (Cn := RX0) (T := TX0) (N := 11) C (kX0_map hl hh hb (a := a) (b := v 6) (k := x) ?_) ?_ rfl gX0_mapKept_X0_map rfl ⟨rfl, by decide, by decide, by decide +kernel⟩ rfl rfl (Nat.le_of_ble_eq_true rfl) rfl dX0_mapKept_16 ⟨⟨by decide, by decide⟩, by decide, by decide⟩ (fun _ h => h.elim) ?_
  · omega
  · exact ⟨_, by assumption⟩
  rintro _ w1 ⟨rfl, hb1, hh1, hfr1⟩
  refine gd_aload_n C dX0_mapKept_19 rfl ?_
  refine gd_iload_n C dX0_mapKept_20 rfl ?_
  refine gd_iload_n C dX0_mapKept_21 rfl ?_
  refine gd_iadd C dX0_mapKept_22 ?_
  refine gd_aload_n C dX0_mapKept_23 rfl ?_
  apply gd_get (ci := 0) (Cn := RX0) (T := TX0) (N := 11) (ref := RX0) C rfl (by decide +kernel) 6 (by decide) (by decide +kernel) rfl dX0_mapKept_24
  · first | assumption | exact wU_s _ _ _ | exact look1 (by assumption) (by assumption) | exact look2 (by assumption) (by assumption)
  · rfl
  refine gd_iload_n C dX0_mapKept_27 rfl ?_
  refine gd_iadd C dX0_mapKept_28 ?_
  refine gd_aload_n C dX0_mapKept_29 rfl ?_
  apply gd_get (ci := 0) (Cn := RX0) (T := TX0) (N := 11) (ref := RX0) C rfl (by decide +kernel) 7 (by decide) (by decide +kernel) rfl dX0_mapKept_30
  · first | assumption | exact wU_s _ _ _ | exact look1 (by assumption) (by assumption) | exact look2 (by assumption) (by assumption)
  · rfl
  refine gd_iload_n C dX0_mapKept_33 rfl ?_
  refine gd_isub C dX0_mapKept_34 ?_
  refine gd_callV (n := 3) (ci := 0) (Cn := RX0) (T := TX0) (N := 11) C (kX0_keep hl hh1 (a := a + x) (b := v 6 + x) (n := v 7 - x)) ?_ rfl gX0_mapKept_X0_keep rfl ⟨rfl, by decide, by decide, by decide +kernel⟩ rfl rfl (Nat.le_of_ble_eq_true rfl) rfl dX0_mapKept_35 ⟨⟨by decide, by decide⟩, by decide, by decide⟩ (fun _ h => h.elim) ?_
  · exact ⟨_, by assumption⟩
  rintro _ w2 ⟨rfl, hh2, hfr2⟩
  refine gd_iload_n C dX0_mapKept_38 rfl ?_
  refine gd_iret C hQ hret dX0_mapKept_39 ?_ ?_
  · have hne : bl ≠ h := (kd_ne hh hb).symm
    exact ⟨x, rfl, hx, (hfr2 bl hne).trans hb1, hh2, fun q h1 h2 => (hfr2 q h2).trans (hfr1 q h1 h2)⟩
  · decide

set_option maxRecDepth 100000 in
set_option maxHeartbeats 4000000 in
theorem kX0_beginOfExtent {l : Launch} {D : va_G} {ky : Nat → ClassId} {z : Nat} {w : WT} (hl : l.stackTraces = false) {h bl : Nat} {v f : Int → Int} (hh : w h = some (cC bl v)) (hb : w bl = some (iA (ky 0) 64 f)) (hf : ∀ i, -2 ≤ f i ∧ f i ≤ 127) {k : Int} (hk : InR k) : Mt l D ky z yX0_beginOfExtent wsX0_beginOfExtent { frames := 3, cells := 0, slots := 0, locals := 63 } [.ref h, .int (iI k)] w (fun r w' => ∃ x : Int, w = w' ∧ r = some (.int (iI x)) ∧ (0 ≤ x ∧ x < 64 ∧ bE f x = 1 ∧ sI (bE f) 0 x = k ∨ x = -1 ∧ ∀ j, 0 ≤ j → j < 64 → ¬ (bE f j = 1 ∧ sI (bE f) 0 j = k))) (fun _ => False) := by
  refine Mt.of (cc := cX0_beginOfExtent) (ret := (some .int)) (maxL := 4) (by decide) rfl (by intro v hv; simp at hv; rcases hv with rfl | rfl <;> rfl) (Nat.le_of_ble_eq_true rfl) ?_ hl
  intro p e s m args below meth c C htab hret hname Q hQ
  refine gd_iconst C dX0_beginOfExtent_0 ?_
  refine gd_istore_n C dX0_beginOfExtent_1 (Nat.le_of_ble_eq_true rfl) ?_
  refine gd_iconst C dX0_beginOfExtent_2 ?_
  refine gd_istore_n C dX0_beginOfExtent_3 (Nat.le_of_ble_eq_true rfl) ?_
  suffices hloop : ∀ (n : Nat) (i a : Int), 0 ≤ i → i ≤ 64 → (64 - i).toNat = n → a = sI (bE f) 0 i → (∀ j, 0 ≤ j → j < i → ¬ (bE f j = 1 ∧ sI (bE f) 0 j = k)) → Gd p l e ({ frames := 3, cells := 0, slots := 0, locals := 63 }) s m args below meth c D z Q 0 0 w 4 [some (.ref h), some (.int (iI k)), some (.int (iI a)), some (.int (iI i))] [] from
    hloop _ 0 0 (by omega) (by omega) rfl (sI_0 _ _).symm (fun j h1 h2 => by omega)
  intro n
  induction n using Nat.strongRecOn with
  | _ n ih =>
  intro i a hi1 hi2 hn ha hno
  have hbe := bE_bd f i
  have hsb := sI_bd (g := bE f) (a := 0) (b := i) (bE_bd f) hi1
  refine gd_iload_n C dX0_beginOfExtent_4 rfl ?_
  refine gd_bipush C dX0_beginOfExtent_5 (by decide) ?_
  refine gd_icmp_ge (tgt := 34) C dX0_beginOfExtent_7 (by decide) ?_ ?_ (fun hc7 => ?_) (fun hc7 => ?_)
  · omega
  · omega
  · refine gd_iconst C dX0_beginOfExtent_34 ?_
    refine gd_iret C hQ hret dX0_beginOfExtent_35 ?_ ?_
    · exact ⟨_, rfl, rfl, Or.inr ⟨rfl, fun j h1 h2 => hno j h1 (by omega)⟩⟩
    · decide
  · refine gd_aload_n C dX0_beginOfExtent_10 rfl ?_
    refine gd_iload_n C dX0_beginOfExtent_11 rfl ?_
    refine gd_callV (n := 1) (ci := 0) (Cn := RX0) (T := TX0) (N := 11) C (kX0_beginsExtent hl hh hb hf (q := i) ?_) ?_ rfl gX0_beginOfExtent_X0_beginsExtent rfl ⟨rfl, by decide, by decide, by decide +kernel⟩ rfl rfl (Nat.le_of_ble_eq_true rfl) rfl dX0_beginOfExtent_12 ⟨⟨by decide, by decide⟩, by decide, by decide⟩ (fun _ h => h.elim) ?_
    · omega
    · exact ⟨_, by assumption⟩
    rintro _ _ ⟨rfl, rfl⟩
    refine gd_if_eq (tgt := 28) C dX0_beginOfExtent_15 (by decide) ?_ (fun hc15 => ?_) (fun hc15 => ?_)
    · omega
    · refine gd_iinc C dX0_beginOfExtent_28 rfl ?_
      refine gd_goto (tgt := 4) C dX0_beginOfExtent_31 (by decide) ?_
      exact ih _ (by omega) _ _ (by omega) (by omega) rfl (by rw [sI_s (by omega), ← ha]; omega) (fun j h1 h2 h3 => by
        by_cases hj : j = i
        · subst hj
          omega
        · exact hno j h1 (by omega) h3)
    · refine gd_iload_n C dX0_beginOfExtent_18 rfl ?_
      refine gd_iload_n C dX0_beginOfExtent_19 rfl ?_
      refine gd_icmp_ne (tgt := 25) C dX0_beginOfExtent_20 (by decide) ?_ ?_ (fun hc20 => ?_) (fun hc20 => ?_)
      · omega
      · omega
      · refine gd_iinc C dX0_beginOfExtent_25 rfl ?_
        refine gd_iinc C dX0_beginOfExtent_28 rfl ?_
        refine gd_goto (tgt := 4) C dX0_beginOfExtent_31 (by decide) ?_
        exact ih _ (by omega) _ _ (by omega) (by omega) rfl (by rw [sI_s (by omega), ← ha]; omega) (fun j h1 h2 h3 => by
          by_cases hj : j = i
          · subst hj
            omega
          · exact hno j h1 (by omega) h3)
      · refine gd_iload_n C dX0_beginOfExtent_23 rfl ?_
        refine gd_iret C hQ hret dX0_beginOfExtent_24 ?_ ?_
        · exact ⟨_, rfl, rfl, Or.inl ⟨hi1, by omega, by omega, by omega⟩⟩
        · decide

set_option maxRecDepth 100000 in
set_option maxHeartbeats 4000000 in
theorem kX0_lengthOfExtent {l : Launch} {D : va_G} {ky : Nat → ClassId} {z : Nat} {w : WT} (hl : l.stackTraces = false) {h bl : Nat} {v f : Int → Int} (hh : w h = some (cC bl v)) (hb : w bl = some (iA (ky 0) 64 f)) (hf : ∀ i, -2 ≤ f i ∧ f i ≤ 127) {a : Int} (ha : 0 ≤ a ∧ a < 64) : Mt l D ky z yX0_lengthOfExtent wsX0_lengthOfExtent { frames := 2, cells := 0, slots := 0, locals := 42 } [.ref h, .int (iI a)] w (fun r w' => ∃ x : Int, w = w' ∧ r = some (.int (iI (x - a))) ∧ a < x ∧ x ≤ 64 ∧ (∀ j, a < j → j < x → jN f j = 1) ∧ (x = 64 ∨ jN f x = 0)) (fun _ => False) := by
  refine Mt.of (cc := cX0_lengthOfExtent) (ret := (some .int)) (maxL := 3) (by decide) rfl (by intro v hv; simp at hv; rcases hv with rfl | rfl <;> rfl) (Nat.le_of_ble_eq_true rfl) ?_ hl
  intro p e s m args below meth c C htab hret hname Q hQ
  refine gd_iload_n C dX0_lengthOfExtent_0 rfl ?_
  refine gd_iconst C dX0_lengthOfExtent_1 ?_
  refine gd_iadd C dX0_lengthOfExtent_2 ?_
  refine gd_istore_n C dX0_lengthOfExtent_3 (Nat.le_of_ble_eq_true rfl) ?_
  suffices hloop : ∀ (n : Nat) (i : Int), a < i → i ≤ 64 → (64 - i).toNat = n → (∀ j, a < j → j < i → jN f j = 1) → Gd p l e ({ frames := 2, cells := 0, slots := 0, locals := 42 }) s m args below meth c D z Q 0 0 w 4 [some (.ref h), some (.int (iI a)), some (.int (iI i))] [] from
    hloop _ (a + 1) (by omega) (by omega) rfl (fun j h1 h2 => by omega)
  intro n
  induction n using Nat.strongRecOn with
  | _ n ih =>
  intro i hi1 hi2 hn hall
  refine gd_iload_n C dX0_lengthOfExtent_4 rfl ?_
  refine gd_bipush C dX0_lengthOfExtent_5 (by decide) ?_
  refine gd_icmp_ge (tgt := 24) C dX0_lengthOfExtent_7 (by decide) ?_ ?_ (fun hc7 => ?_) (fun hc7 => ?_)
  · omega
  · omega
  · refine gd_iload_n C dX0_lengthOfExtent_24 rfl ?_
    refine gd_iload_n C dX0_lengthOfExtent_25 rfl ?_
    refine gd_isub C dX0_lengthOfExtent_26 ?_
    refine gd_iret C hQ hret dX0_lengthOfExtent_27 ?_ ?_
    · first
        | exact ⟨i, rfl, rfl, hi1, hi2, hall, Or.inl (by omega)⟩
        | exact ⟨i, rfl, rfl, hi1, hi2, hall, Or.inr (by unfold jN; rw [if_neg (by omega)])⟩
    · decide
  · refine gd_aload_n C dX0_lengthOfExtent_10 rfl ?_
    refine gd_iload_n C dX0_lengthOfExtent_11 rfl ?_
    refine gd_callV (n := 1) (ci := 0) (Cn := RX0) (T := TX0) (N := 11) C (kX0_joinsAhead hl hh hb hf (q := i) ?_) ?_ rfl gX0_lengthOfExtent_X0_joinsAhead rfl ⟨rfl, by decide, by decide, by decide +kernel⟩ rfl rfl (Nat.le_of_ble_eq_true rfl) rfl dX0_lengthOfExtent_12 ⟨⟨by decide, by decide⟩, by decide, by decide⟩ (fun _ h => h.elim) ?_
    · omega
    · exact ⟨_, by assumption⟩
    rintro _ _ ⟨b, rfl, rfl, hb9⟩
    refine gd_if_eq (tgt := 24) C dX0_lengthOfExtent_15 (by decide) ?_ (fun hc15 => ?_) (fun hc15 => ?_)
    · omega
    · refine gd_iload_n C dX0_lengthOfExtent_24 rfl ?_
      refine gd_iload_n C dX0_lengthOfExtent_25 rfl ?_
      refine gd_isub C dX0_lengthOfExtent_26 ?_
      refine gd_iret C hQ hret dX0_lengthOfExtent_27 ?_ ?_
      · first
          | exact ⟨i, rfl, rfl, hi1, hi2, hall, Or.inl (by omega)⟩
          | exact ⟨i, rfl, rfl, hi1, hi2, hall, Or.inr (by unfold jN; rw [if_neg (by omega)])⟩
      · decide
    · refine gd_iinc C dX0_lengthOfExtent_18 rfl ?_
      refine gd_goto (tgt := 4) C dX0_lengthOfExtent_21 (by decide) ?_
      exact ih _ (by omega) _ (by omega) (by omega) rfl (fun j h1 h2 => by
        by_cases hj : j = i
        · subst hj
          unfold jN
          rw [if_pos (by omega)]
        · exact hall j h1 (by omega))

set_option maxRecDepth 100000 in
set_option maxHeartbeats 4000000 in
theorem kX0_endOfReserved {l : Launch} {D : va_G} {ky : Nat → ClassId} {z : Nat} {w : WT} (hl : l.stackTraces = false) {h bl : Nat} {v f : Int → Int} (hh : w h = some (cC bl v)) (hb : w bl = some (iA (ky 0) 64 f)) (hf : ∀ i, -2 ≤ f i ∧ f i ≤ 127) {a : Int} (ha : 0 ≤ a ∧ a ≤ 64) : Mt l D ky z yX0_endOfReserved wsX0_endOfReserved { frames := 1, cells := 0, slots := 0, locals := 21 } [.ref h, .int (iI a)] w (fun r w' => ∃ x : Int, w = w' ∧ r = some (.int (iI x)) ∧ a ≤ x ∧ x ≤ 64 ∧ (∀ j, a ≤ j → j < x → f j = -2) ∧ (x = 64 ∨ f x ≠ -2)) (fun _ => False) := by
  refine Mt.of (cc := cX0_endOfReserved) (ret := (some .int)) (maxL := 3) (by decide) rfl (by intro v hv; simp at hv; rcases hv with rfl | rfl <;> rfl) (Nat.le_of_ble_eq_true rfl) ?_ hl
  intro p e s m args below meth c C htab hret hname Q hQ
  refine gd_iload_n C dX0_endOfReserved_0 rfl ?_
  refine gd_istore_n C dX0_endOfReserved_1 (Nat.le_of_ble_eq_true rfl) ?_
  suffices hloop : ∀ (n : Nat) (i : Int), a ≤ i → i ≤ 64 → (64 - i).toNat = n → (∀ j, a ≤ j → j < i → f j = -2) → Gd p l e ({ frames := 1, cells := 0, slots := 0, locals := 21 }) s m args below meth c D z Q 0 0 w 2 [some (.ref h), some (.int (iI a)), some (.int (iI i))] [] from
    hloop _ a (by omega) (by omega) rfl (fun j h1 h2 => by omega)
  intro n
  induction n using Nat.strongRecOn with
  | _ n ih =>
  intro i hi1 hi2 hn hall
  refine gd_iload_n C dX0_endOfReserved_2 rfl ?_
  refine gd_bipush C dX0_endOfReserved_3 (by decide) ?_
  refine gd_icmp_ge (tgt := 22) C dX0_endOfReserved_5 (by decide) ?_ ?_ (fun hc5 => ?_) (fun hc5 => ?_)
  · omega
  · omega
  · refine gd_iload_n C dX0_endOfReserved_22 rfl ?_
    refine gd_iret C hQ hret dX0_endOfReserved_23 ?_ ?_
    · first
        | exact ⟨i, rfl, rfl, hi1, hi2, hall, Or.inl (by omega)⟩
        | exact ⟨i, rfl, rfl, hi1, hi2, hall, Or.inr (by omega)⟩
    · decide
  · refine gd_aload_n C dX0_endOfReserved_8 rfl ?_
    refine gd_iload_n C dX0_endOfReserved_9 rfl ?_
    refine gd_callV (n := 1) (ci := 0) (Cn := RX0) (T := TX0) (N := 11) C (kX0_isReserved hl hh hb hf (q := i) ?_) ?_ rfl gX0_endOfReserved_X0_isReserved rfl ⟨rfl, by decide, by decide, by decide +kernel⟩ rfl rfl (Nat.le_of_ble_eq_true rfl) rfl dX0_endOfReserved_10 ⟨⟨by decide, by decide⟩, by decide, by decide⟩ (fun _ h => h.elim) ?_
    · omega
    · exact ⟨_, by assumption⟩
    rintro _ _ ⟨b, rfl, rfl, hb9⟩
    refine gd_if_eq (tgt := 22) C dX0_endOfReserved_13 (by decide) ?_ (fun hc13 => ?_) (fun hc13 => ?_)
    · omega
    · refine gd_iload_n C dX0_endOfReserved_22 rfl ?_
      refine gd_iret C hQ hret dX0_endOfReserved_23 ?_ ?_
      · first
          | exact ⟨i, rfl, rfl, hi1, hi2, hall, Or.inl (by omega)⟩
          | exact ⟨i, rfl, rfl, hi1, hi2, hall, Or.inr (by omega)⟩
      · decide
    · refine gd_iinc C dX0_endOfReserved_16 rfl ?_
      refine gd_goto (tgt := 2) C dX0_endOfReserved_19 (by decide) ?_
      exact ih _ (by omega) _ (by omega) (by omega) rfl (fun j h1 h2 => by
        by_cases hj : j = i
        · subst hj
          omega
        · exact hall j h1 (by omega))
