set_option maxRecDepth 100000 in
set_option maxHeartbeats 4000000 in
theorem kX4_requireRange {l : Launch} {D : va_G} {ky : Nat → ClassId} {z : Nat} {w : WT} (hl : l.stackTraces = false) {q p1 p2 : Int} (hq : InR q ∧ InR p1 ∧ InR p2) : Mt l D ky z yX4_requireRange wsX4_requireRange { frames := 6, cells := 1, slots := 6, locals := 90 } [.int (iI q), .int (iI p1), .int (iI p2)] w (fun r w' => w = w' ∧ r = none ∧ p1 ≤ q ∧ q ≤ p2) (fun E => E = "java/lang/IllegalArgumentException" ∧ (q < p1 ∨ p2 < q)) := by
  refine Mt.of (cc := cX4_requireRange) (ret := none) (maxL := 3) (by decide) rfl (by intro v hv; simp at hv; rcases hv with rfl | rfl | rfl <;> rfl) (Nat.le_of_ble_eq_true rfl) ?_ hl
  intro p e s m args below meth c C htab hret hname Q hQ
  refine gd_iload_n C dX4_requireRange_0 rfl ?_
  refine gd_iload_n C dX4_requireRange_1 rfl ?_
  refine gd_icmp_lt (tgt := 10) C dX4_requireRange_2 (by decide) ?_ ?_ (fun hc2 => ?_) (fun hc2 => ?_)
  · omega
  · omega
  · refine gd_throw (cls := "java/lang/IllegalArgumentException") (text := "an argument is out of its range") (ik := 195) (is := 197) (ic := 199) C hQ htab (by decide +kernel) (by decide +kernel) (by decide +kernel) (by decide +kernel) (by decide +kernel) (by decide +kernel) (by decide +kernel) dX4_requireRange_10 dX4_requireRange_13 dX4_requireRange_14 dX4_requireRange_16 dX4_requireRange_19 rfl ?_ ⟨⟨by decide, Nat.le_of_ble_eq_true rfl, by decide, by decide⟩, by decide, by decide⟩
    · exact ⟨rfl, by omega⟩
  · refine gd_iload_n C dX4_requireRange_5 rfl ?_
    refine gd_iload_n C dX4_requireRange_6 rfl ?_
    refine gd_icmp_le (tgt := 20) C dX4_requireRange_7 (by decide) ?_ ?_ (fun hc7 => ?_) (fun hc7 => ?_)
    · omega
    · omega
    · refine gd_vret C hQ hret dX4_requireRange_20 ?_ ?_
      · exact ⟨rfl, rfl, by omega, by omega⟩
      · decide
    · refine gd_throw (cls := "java/lang/IllegalArgumentException") (text := "an argument is out of its range") (ik := 195) (is := 197) (ic := 199) C hQ htab (by decide +kernel) (by decide +kernel) (by decide +kernel) (by decide +kernel) (by decide +kernel) (by decide +kernel) (by decide +kernel) dX4_requireRange_10 dX4_requireRange_13 dX4_requireRange_14 dX4_requireRange_16 dX4_requireRange_19 rfl ?_ ⟨⟨by decide, Nat.le_of_ble_eq_true rfl, by decide, by decide⟩, by decide, by decide⟩
      · exact ⟨rfl, by omega⟩

set_option maxRecDepth 100000 in
set_option maxHeartbeats 4000000 in
theorem kX4_requireName {l : Launch} {D : va_G} {ky : Nat → ClassId} {z : Nat} {w : WT} (hl : l.stackTraces = false) {q : Int} (hq : InR q) : Mt l D ky z yX4_requireName wsX4_requireName { frames := 7, cells := 1, slots := 6, locals := 112 } [.int (iI q)] w (fun r w' => w = w' ∧ r = none ∧ 0 ≤ q ∧ q ≤ 999) (fun E => E = "java/lang/IllegalArgumentException" ∧ ¬ (0 ≤ q ∧ q ≤ 999)) := by
  refine Mt.of (cc := cX4_requireName) (ret := none) (maxL := 1) (by decide) rfl (by intro v hv; simp at hv; rcases hv with rfl <;> rfl) (Nat.le_of_ble_eq_true rfl) ?_ hl
  intro p e s m args below meth c C htab hret hname Q hQ
  refine gd_iload_n C dX4_requireName_0 rfl ?_
  refine gd_iconst C dX4_requireName_1 ?_
  refine gd_sipush C dX4_requireName_2 (by decide) ?_
  refine gd_callS (n := 3) C (kX4_requireRange hl (q := q) (p1 := 0) (p2 := 999) ?_) gX4_requireName_X4_requireRange rfl ⟨by decide, by decide, by decide +kernel⟩ rfl rfl (Nat.le_of_ble_eq_true rfl) rfl dX4_requireName_5 ⟨⟨by decide, by decide⟩, by decide, by decide⟩ (fun E h => gx_out C hQ htab (⟨h.1, by have := h.2; omega⟩) (by decide) (by decide)) ?_
  · omega
  rintro _ _ ⟨rfl, rfl, h1, h2⟩
  refine gd_vret C hQ hret dX4_requireName_8 ?_ ?_
  · exact ⟨rfl, rfl, by omega, by omega⟩
  · decide

set_option maxRecDepth 100000 in
set_option maxHeartbeats 4000000 in
theorem kX4_requireUp {l : Launch} {D : va_G} {ky : Nat → ClassId} {z : Nat} {w : WT} (hl : l.stackTraces = false) {b g t ar d : Nat} {ac ab : Int → Nat} {T : Int → Int} {v B : Int → Int → Int} {sc dn : Int} (hW : CW w ky b g t ar d ac ab T v B sc dn) (hI : CI T v B sc dn) : Mt l D ky z yX4_requireUp wsX4_requireUp { frames := 6, cells := 1, slots := 6, locals := 90 } [.ref b] w (fun r w' => w = w' ∧ r = none ∧ dn = 0) (fun E => E = "java/lang/IllegalStateException" ∧ dn = 1) := by
  refine Mt.of (cc := cX4_requireUp) (ret := none) (maxL := 1) (by decide) rfl (by intro v hv; simp at hv; rcases hv with rfl <;> rfl) (Nat.le_of_ble_eq_true rfl) ?_ hl
  intro p e s m args below meth c C htab hret hname Q hQ
  obtain ⟨hb, hg, ht, har, hfl, hdj⟩ := id hW
  obtain ⟨hi1, hi2, hi3, hi4⟩ := id hI
  refine gd_aload_n C dX4_requireUp_0 rfl ?_
  apply gd_get (ci := 4) (Cn := RX4) (T := TX4) (N := 5) (ref := RX4) C rfl (by decide +kernel) 4 (by decide) (by decide +kernel) rfl dX4_requireUp_1
  · first | assumption | exact (hfl _ (by omega) (by omega)).1 | exact (hfl _ (by omega) (by omega)).2 | exact wU_s _ _ _
  · rfl
  refine gd_if_eq (tgt := 17) C dX4_requireUp_4 (by decide) ?_ (fun hc4 => ?_) (fun hc4 => ?_)
  · omega
  · refine gd_vret C hQ hret dX4_requireUp_17 ?_ ?_
    · exact ⟨rfl, rfl, by omega⟩
    · decide
  · refine gd_throw (cls := "java/lang/IllegalStateException") (text := "the volume is down") (ik := 58) (is := 200) (ic := 62) C hQ htab (by decide +kernel) (by decide +kernel) (by decide +kernel) (by decide +kernel) (by decide +kernel) (by decide +kernel) (by decide +kernel) dX4_requireUp_7 dX4_requireUp_10 dX4_requireUp_11 dX4_requireUp_13 dX4_requireUp_16 rfl ?_ ⟨⟨by decide, Nat.le_of_ble_eq_true rfl, by decide, by decide⟩, by decide, by decide⟩
    · exact ⟨rfl, by omega⟩

set_option maxRecDepth 100000 in
set_option maxHeartbeats 4000000 in
theorem kX4_requireContent {l : Launch} {D : va_G} {ky : Nat → ClassId} {z : Nat} {w : WT} (hl : l.stackTraces = false) {b g t ar d : Nat} {ac ab : Int → Nat} {T : Int → Int} {v B : Int → Int → Int} {sc dn : Int} (hW : CW w ky b g t ar d ac ab T v B sc dn) (hI : CI T v B sc dn) {q : Int} (hq : InR q) : Mt l D ky z yX4_requireContent wsX4_requireContent { frames := 6, cells := 1, slots := 6, locals := 90 } [.ref b, .int (iI q)] w (fun r w' => w = w' ∧ r = some (.ref (ac q)) ∧ 0 ≤ q ∧ q < 16 ∧ v q 2 = 1) (fun E => E = "java/lang/IndexOutOfBoundsException" ∧ ¬ (0 ≤ q ∧ q < 16 ∧ v q 2 = 1)) := by
  refine Mt.of (cc := cX4_requireContent) (ret := (some (.object "Buddyfield$Content"))) (maxL := 2) (by decide) rfl (by intro v hv; simp at hv; rcases hv with rfl | rfl <;> rfl) (Nat.le_of_ble_eq_true rfl) ?_ hl
  intro p e s m args below meth c C htab hret hname Q hQ
  obtain ⟨hb, hg, ht, har, hfl, hdj⟩ := id hW
  obtain ⟨hi1, hi2, hi3, hi4⟩ := id hI
  refine gd_iload_n C dX4_requireContent_0 rfl ?_
  refine gd_if_lt (tgt := 22) C dX4_requireContent_1 (by decide) ?_ (fun hc1 => ?_) (fun hc1 => ?_)
  · omega
  · refine gd_throw (cls := "java/lang/IndexOutOfBoundsException") (text := "there is no such file") (ik := 160) (is := 202) (ic := 164) C hQ htab (by decide +kernel) (by decide +kernel) (by decide +kernel) (by decide +kernel) (by decide +kernel) (by decide +kernel) (by decide +kernel) dX4_requireContent_22 dX4_requireContent_25 dX4_requireContent_26 dX4_requireContent_28 dX4_requireContent_31 rfl ?_ ⟨⟨by decide, Nat.le_of_ble_eq_true rfl, by decide, by decide⟩, by decide, by decide⟩
    · exact ⟨rfl, by omega⟩
  · refine gd_iload_n C dX4_requireContent_4 rfl ?_
    refine gd_bipush C dX4_requireContent_5 (by decide) ?_
    refine gd_icmp_ge (tgt := 22) C dX4_requireContent_7 (by decide) ?_ ?_ (fun hc7 => ?_) (fun hc7 => ?_)
    · omega
    · omega
    · refine gd_throw (cls := "java/lang/IndexOutOfBoundsException") (text := "there is no such file") (ik := 160) (is := 202) (ic := 164) C hQ htab (by decide +kernel) (by decide +kernel) (by decide +kernel) (by decide +kernel) (by decide +kernel) (by decide +kernel) (by decide +kernel) dX4_requireContent_22 dX4_requireContent_25 dX4_requireContent_26 dX4_requireContent_28 dX4_requireContent_31 rfl ?_ ⟨⟨by decide, Nat.le_of_ble_eq_true rfl, by decide, by decide⟩, by decide, by decide⟩
      · exact ⟨rfl, by omega⟩
    · refine gd_aload_n C dX4_requireContent_10 rfl ?_
      apply gd_get (ci := 4) (Cn := RX4) (T := TX4) (N := 5) (ref := RX4) C rfl (by decide +kernel) 2 (by decide) (by decide +kernel) rfl dX4_requireContent_11
      · first | assumption | exact (hfl _ (by omega) (by omega)).1 | exact (hfl _ (by omega) (by omega)).2 | exact wU_s _ _ _
      · rfl
      refine gd_iload_n C dX4_requireContent_14 rfl ?_
      apply gd_aald C dX4_requireContent_15
      · first | assumption | exact (hfl _ (by omega) (by omega)).1 | exact (hfl _ (by omega) (by omega)).2 | exact wU_s _ _ _
      · decide
      · omega
      · exact cQ_at (by omega)
      have hfi := hi2 q (by omega) (by omega)
      unfold FI at hfi
      apply gd_getN (host := RX4) (ci := 0) (Cn := RX0) (T := TX0) (N := 11) (ref := RX0) C rfl (by decide +kernel) 2 (by decide) (by decide +kernel) rfl dX4_requireContent_16
      · first | assumption | exact (hfl _ (by omega) (by omega)).1 | exact (hfl _ (by omega) (by omega)).2 | exact wU_s _ _ _
      · rfl
      refine gd_if_ne (tgt := 32) C dX4_requireContent_19 (by decide) ?_ (fun hc19 => ?_) (fun hc19 => ?_)
      · omega
      · refine gd_aload_n C dX4_requireContent_32 rfl ?_
        apply gd_get (ci := 4) (Cn := RX4) (T := TX4) (N := 5) (ref := RX4) C rfl (by decide +kernel) 2 (by decide) (by decide +kernel) rfl dX4_requireContent_33
        · first | assumption | exact (hfl _ (by omega) (by omega)).1 | exact (hfl _ (by omega) (by omega)).2 | exact wU_s _ _ _
        · rfl
        refine gd_iload_n C dX4_requireContent_36 rfl ?_
        apply gd_aald C dX4_requireContent_37
        · first | assumption | exact (hfl _ (by omega) (by omega)).1 | exact (hfl _ (by omega) (by omega)).2 | exact wU_s _ _ _
        · decide
        · omega
        · exact cQ_at (by omega)
        refine gd_aret C hQ hret dX4_requireContent_38 ?_ ?_
        · exact ⟨rfl, rfl, by omega, by omega, by omega⟩
        · decide
      · refine gd_throw (cls := "java/lang/IndexOutOfBoundsException") (text := "there is no such file") (ik := 160) (is := 202) (ic := 164) C hQ htab (by decide +kernel) (by decide +kernel) (by decide +kernel) (by decide +kernel) (by decide +kernel) (by decide +kernel) (by decide +kernel) dX4_requireContent_22 dX4_requireContent_25 dX4_requireContent_26 dX4_requireContent_28 dX4_requireContent_31 rfl ?_ ⟨⟨by decide, Nat.le_of_ble_eq_true rfl, by decide, by decide⟩, by decide, by decide⟩
        · exact ⟨rfl, by omega⟩

set_option maxRecDepth 100000 in
set_option maxHeartbeats 4000000 in
theorem kX4_files {l : Launch} {D : va_G} {ky : Nat → ClassId} {z : Nat} {w : WT} (hl : l.stackTraces = false) {b g t ar d : Nat} {ac ab : Int → Nat} {T : Int → Int} {v B : Int → Int → Int} {sc dn : Int} (hW : CW w ky b g t ar d ac ab T v B sc dn) (hI : CI T v B sc dn) : Mt l D ky z yX4_files wsX4_files { frames := 0, cells := 0, slots := 0, locals := 0 } [.ref b] w (fun r w' => w = w' ∧ r = some (.int (iI (sI (fun j => v j 2) 0 16)))) (fun _ => False) := by
  refine Mt.of (cc := cX4_files) (ret := (some .int)) (maxL := 3) (by decide) rfl (by intro v hv; simp at hv; rcases hv with rfl <;> rfl) (Nat.le_of_ble_eq_true rfl) ?_ hl
  intro p e s m args below meth c C htab hret hname Q hQ
  obtain ⟨hb, hg, ht, har, hfl, hdj⟩ := id hW
  obtain ⟨hi1, hi2, hi3, hi4⟩ := id hI
  refine gd_iconst C dX4_files_0 ?_
  refine gd_istore_n C dX4_files_1 (Nat.le_of_ble_eq_true rfl) ?_
  refine gd_iconst C dX4_files_2 ?_
  refine gd_istore_n C dX4_files_3 (Nat.le_of_ble_eq_true rfl) ?_
  suffices hloop : ∀ (n : Nat) (i a : Int), 0 ≤ i → i ≤ 16 → (16 - i).toNat = n → a = sI (fun j => v j 2) 0 i → Gd p l e ({ frames := 0, cells := 0, slots := 0, locals := 0 }) s m args below meth c D z Q 0 0 w 4 [some (.ref b), some (.int (iI a)), some (.int (iI i))] [] from
    hloop _ 0 0 (by omega) (by omega) rfl (sI_0 _ _).symm
  intro n
  induction n using Nat.strongRecOn with
  | _ n ih =>
  intro i a h1i h2i hn ha
  have hfi : i < 16 → FI i (v i) (B i) := hi2 i (by omega)
  unfold FI at hfi
  refine gd_iload_n C dX4_files_4 rfl ?_
  refine gd_bipush C dX4_files_5 (by decide) ?_
  refine gd_icmp_ge (tgt := 36) C dX4_files_7 (by decide) ?_ ?_ (fun hc7 => ?_) (fun hc7 => ?_)
  · omega
  · omega
  · refine gd_iload_n C dX4_files_36 rfl ?_
    refine gd_iret C hQ hret dX4_files_37 ?_ ?_
    · exact ⟨rfl, by rw [ha, show i = 16 by omega]⟩
    · decide
  · refine gd_iload_n C dX4_files_10 rfl ?_
    refine gd_aload_n C dX4_files_11 rfl ?_
    apply gd_get (ci := 4) (Cn := RX4) (T := TX4) (N := 5) (ref := RX4) C rfl (by decide +kernel) 2 (by decide) (by decide +kernel) rfl dX4_files_12
    · first | assumption | exact (hfl _ (by omega) (by omega)).1 | exact (hfl _ (by omega) (by omega)).2 | exact wU_s _ _ _
    · rfl
    refine gd_iload_n C dX4_files_15 rfl ?_
    apply gd_aald C dX4_files_16
    · first | assumption | exact (hfl _ (by omega) (by omega)).1 | exact (hfl _ (by omega) (by omega)).2 | exact wU_s _ _ _
    · decide
    · omega
    · exact cQ_at (by omega)
    apply gd_getN (host := RX4) (ci := 0) (Cn := RX0) (T := TX0) (N := 11) (ref := RX0) C rfl (by decide +kernel) 2 (by decide) (by decide +kernel) rfl dX4_files_17
    · first | assumption | exact (hfl _ (by omega) (by omega)).1 | exact (hfl _ (by omega) (by omega)).2 | exact wU_s _ _ _
    · rfl
    refine gd_if_eq (tgt := 27) C dX4_files_20 (by decide) ?_ (fun hc20 => ?_) (fun hc20 => ?_)
    · omega
    · refine gd_iconst C dX4_files_27 ?_
      refine gd_iadd C dX4_files_28 ?_
      refine gd_istore_n C dX4_files_29 (Nat.le_of_ble_eq_true rfl) ?_
      refine gd_iinc C dX4_files_30 rfl ?_
      refine gd_goto (tgt := 4) C dX4_files_33 (by decide) ?_
      exact ih _ (by omega) _ _ (by omega) (by omega) rfl (by rw [sI_s (by omega), ← ha]; congr 1; omega)
    · refine gd_iconst C dX4_files_23 ?_
      refine gd_goto (tgt := 28) C dX4_files_24 (by decide) ?_
      refine gd_iadd C dX4_files_28 ?_
      refine gd_istore_n C dX4_files_29 (Nat.le_of_ble_eq_true rfl) ?_
      refine gd_iinc C dX4_files_30 rfl ?_
      refine gd_goto (tgt := 4) C dX4_files_33 (by decide) ?_
      exact ih _ (by omega) _ _ (by omega) (by omega) rfl (by rw [sI_s (by omega), ← ha]; congr 1; omega)

set_option maxRecDepth 100000 in
set_option maxHeartbeats 4000000 in
theorem kX4_listed {l : Launch} {D : va_G} {ky : Nat → ClassId} {z : Nat} {w : WT} (hl : l.stackTraces = false) {b g t ar d : Nat} {ac ab : Int → Nat} {T : Int → Int} {v B : Int → Int → Int} {sc dn : Int} (hW : CW w ky b g t ar d ac ab T v B sc dn) (hI : CI T v B sc dn) : Mt l D ky z yX4_listed wsX4_listed { frames := 0, cells := 0, slots := 0, locals := 0 } [.ref b] w (fun r w' => w = w' ∧ r = some (.int (iI (sI (fun j => v j 8) 0 16)))) (fun _ => False) := by
  refine Mt.of (cc := cX4_listed) (ret := (some .int)) (maxL := 3) (by decide) rfl (by intro v hv; simp at hv; rcases hv with rfl <;> rfl) (Nat.le_of_ble_eq_true rfl) ?_ hl
  intro p e s m args below meth c C htab hret hname Q hQ
  obtain ⟨hb, hg, ht, har, hfl, hdj⟩ := id hW
  obtain ⟨hi1, hi2, hi3, hi4⟩ := id hI
  refine gd_iconst C dX4_listed_0 ?_
  refine gd_istore_n C dX4_listed_1 (Nat.le_of_ble_eq_true rfl) ?_
  refine gd_iconst C dX4_listed_2 ?_
  refine gd_istore_n C dX4_listed_3 (Nat.le_of_ble_eq_true rfl) ?_
  suffices hloop : ∀ (n : Nat) (i a : Int), 0 ≤ i → i ≤ 16 → (16 - i).toNat = n → a = sI (fun j => v j 8) 0 i → Gd p l e ({ frames := 0, cells := 0, slots := 0, locals := 0 }) s m args below meth c D z Q 0 0 w 4 [some (.ref b), some (.int (iI a)), some (.int (iI i))] [] from
    hloop _ 0 0 (by omega) (by omega) rfl (sI_0 _ _).symm
  intro n
  induction n using Nat.strongRecOn with
  | _ n ih =>
  intro i a h1i h2i hn ha
  have hfi : i < 16 → FI i (v i) (B i) := hi2 i (by omega)
  unfold FI at hfi
  refine gd_iload_n C dX4_listed_4 rfl ?_
  refine gd_bipush C dX4_listed_5 (by decide) ?_
  refine gd_icmp_ge (tgt := 36) C dX4_listed_7 (by decide) ?_ ?_ (fun hc7 => ?_) (fun hc7 => ?_)
  · omega
  · omega
  · refine gd_iload_n C dX4_listed_36 rfl ?_
    refine gd_iret C hQ hret dX4_listed_37 ?_ ?_
    · exact ⟨rfl, by rw [ha, show i = 16 by omega]⟩
    · decide
  · refine gd_iload_n C dX4_listed_10 rfl ?_
    refine gd_aload_n C dX4_listed_11 rfl ?_
    apply gd_get (ci := 4) (Cn := RX4) (T := TX4) (N := 5) (ref := RX4) C rfl (by decide +kernel) 2 (by decide) (by decide +kernel) rfl dX4_listed_12
    · first | assumption | exact (hfl _ (by omega) (by omega)).1 | exact (hfl _ (by omega) (by omega)).2 | exact wU_s _ _ _
    · rfl
    refine gd_iload_n C dX4_listed_15 rfl ?_
    apply gd_aald C dX4_listed_16
    · first | assumption | exact (hfl _ (by omega) (by omega)).1 | exact (hfl _ (by omega) (by omega)).2 | exact wU_s _ _ _
    · decide
    · omega
    · exact cQ_at (by omega)
    apply gd_getN (host := RX4) (ci := 0) (Cn := RX0) (T := TX0) (N := 11) (ref := RX0) C rfl (by decide +kernel) 8 (by decide) (by decide +kernel) rfl dX4_listed_17
    · first | assumption | exact (hfl _ (by omega) (by omega)).1 | exact (hfl _ (by omega) (by omega)).2 | exact wU_s _ _ _
    · rfl
    refine gd_if_eq (tgt := 27) C dX4_listed_20 (by decide) ?_ (fun hc20 => ?_) (fun hc20 => ?_)
    · omega
    · refine gd_iconst C dX4_listed_27 ?_
      refine gd_iadd C dX4_listed_28 ?_
      refine gd_istore_n C dX4_listed_29 (Nat.le_of_ble_eq_true rfl) ?_
      refine gd_iinc C dX4_listed_30 rfl ?_
      refine gd_goto (tgt := 4) C dX4_listed_33 (by decide) ?_
      exact ih _ (by omega) _ _ (by omega) (by omega) rfl (by rw [sI_s (by omega), ← ha]; congr 1; omega)
    · refine gd_iconst C dX4_listed_23 ?_
      refine gd_goto (tgt := 28) C dX4_listed_24 (by decide) ?_
      refine gd_iadd C dX4_listed_28 ?_
      refine gd_istore_n C dX4_listed_29 (Nat.le_of_ble_eq_true rfl) ?_
      refine gd_iinc C dX4_listed_30 rfl ?_
      refine gd_goto (tgt := 4) C dX4_listed_33 (by decide) ?_
      exact ih _ (by omega) _ _ (by omega) (by omega) rfl (by rw [sI_s (by omega), ← ha]; congr 1; omega)

set_option maxRecDepth 100000 in
set_option maxHeartbeats 4000000 in
theorem kX4_reserved {l : Launch} {D : va_G} {ky : Nat → ClassId} {z : Nat} {w : WT} (hl : l.stackTraces = false) {b g t ar d : Nat} {ac ab : Int → Nat} {T : Int → Int} {v B : Int → Int → Int} {sc dn : Int} (hW : CW w ky b g t ar d ac ab T v B sc dn) (hI : CI T v B sc dn) : Mt l D ky z yX4_reserved wsX4_reserved { frames := 0, cells := 0, slots := 0, locals := 0 } [.ref b] w (fun r w' => w = w' ∧ r = some (.int (iI (sI (fun j => v j 4) 0 16)))) (fun _ => False) := by
  refine Mt.of (cc := cX4_reserved) (ret := (some .int)) (maxL := 3) (by decide) rfl (by intro v hv; simp at hv; rcases hv with rfl <;> rfl) (Nat.le_of_ble_eq_true rfl) ?_ hl
  intro p e s m args below meth c C htab hret hname Q hQ
  obtain ⟨hb, hg, ht, har, hfl, hdj⟩ := id hW
  obtain ⟨hi1, hi2, hi3, hi4⟩ := id hI
  refine gd_iconst C dX4_reserved_0 ?_
  refine gd_istore_n C dX4_reserved_1 (Nat.le_of_ble_eq_true rfl) ?_
  refine gd_iconst C dX4_reserved_2 ?_
  refine gd_istore_n C dX4_reserved_3 (Nat.le_of_ble_eq_true rfl) ?_
  suffices hloop : ∀ (n : Nat) (i a : Int), 0 ≤ i → i ≤ 16 → (16 - i).toNat = n → a = sI (fun j => v j 4) 0 i → Gd p l e ({ frames := 0, cells := 0, slots := 0, locals := 0 }) s m args below meth c D z Q 0 0 w 4 [some (.ref b), some (.int (iI a)), some (.int (iI i))] [] from
    hloop _ 0 0 (by omega) (by omega) rfl (sI_0 _ _).symm
  intro n
  induction n using Nat.strongRecOn with
  | _ n ih =>
  intro i a h1i h2i hn ha
  have hfi : i < 16 → FI i (v i) (B i) := hi2 i (by omega)
  unfold FI at hfi
  refine gd_iload_n C dX4_reserved_4 rfl ?_
  refine gd_bipush C dX4_reserved_5 (by decide) ?_
  refine gd_icmp_ge (tgt := 28) C dX4_reserved_7 (by decide) ?_ ?_ (fun hc7 => ?_) (fun hc7 => ?_)
  · omega
  · omega
  · refine gd_iload_n C dX4_reserved_28 rfl ?_
    refine gd_iret C hQ hret dX4_reserved_29 ?_ ?_
    · exact ⟨rfl, by rw [ha, show i = 16 by omega]⟩
    · decide
  · refine gd_iload_n C dX4_reserved_10 rfl ?_
    refine gd_aload_n C dX4_reserved_11 rfl ?_
    apply gd_get (ci := 4) (Cn := RX4) (T := TX4) (N := 5) (ref := RX4) C rfl (by decide +kernel) 2 (by decide) (by decide +kernel) rfl dX4_reserved_12
    · first | assumption | exact (hfl _ (by omega) (by omega)).1 | exact (hfl _ (by omega) (by omega)).2 | exact wU_s _ _ _
    · rfl
    refine gd_iload_n C dX4_reserved_15 rfl ?_
    apply gd_aald C dX4_reserved_16
    · first | assumption | exact (hfl _ (by omega) (by omega)).1 | exact (hfl _ (by omega) (by omega)).2 | exact wU_s _ _ _
    · decide
    · omega
    · exact cQ_at (by omega)
    apply gd_getN (host := RX4) (ci := 0) (Cn := RX0) (T := TX0) (N := 11) (ref := RX0) C rfl (by decide +kernel) 4 (by decide) (by decide +kernel) rfl dX4_reserved_17
    · first | assumption | exact (hfl _ (by omega) (by omega)).1 | exact (hfl _ (by omega) (by omega)).2 | exact wU_s _ _ _
    · rfl
    refine gd_iadd C dX4_reserved_20 ?_
    refine gd_istore_n C dX4_reserved_21 (Nat.le_of_ble_eq_true rfl) ?_
    refine gd_iinc C dX4_reserved_22 rfl ?_
    refine gd_goto (tgt := 4) C dX4_reserved_25 (by decide) ?_
    exact ih _ (by omega) _ _ (by omega) (by omega) rfl (by rw [sI_s (by omega), ← ha])

set_option maxRecDepth 100000 in
set_option maxHeartbeats 4000000 in
theorem kX4_kept {l : Launch} {D : va_G} {ky : Nat → ClassId} {z : Nat} {w : WT} (hl : l.stackTraces = false) {b g t ar d : Nat} {ac ab : Int → Nat} {T : Int → Int} {v B : Int → Int → Int} {sc dn : Int} (hW : CW w ky b g t ar d ac ab T v B sc dn) (hI : CI T v B sc dn) : Mt l D ky z yX4_kept wsX4_kept { frames := 0, cells := 0, slots := 0, locals := 0 } [.ref b] w (fun r w' => w = w' ∧ r = some (.int (iI (sI (fun j => v j 7) 0 16)))) (fun _ => False) := by
  refine Mt.of (cc := cX4_kept) (ret := (some .int)) (maxL := 3) (by decide) rfl (by intro v hv; simp at hv; rcases hv with rfl <;> rfl) (Nat.le_of_ble_eq_true rfl) ?_ hl
  intro p e s m args below meth c C htab hret hname Q hQ
  obtain ⟨hb, hg, ht, har, hfl, hdj⟩ := id hW
  obtain ⟨hi1, hi2, hi3, hi4⟩ := id hI
  refine gd_iconst C dX4_kept_0 ?_
  refine gd_istore_n C dX4_kept_1 (Nat.le_of_ble_eq_true rfl) ?_
  refine gd_iconst C dX4_kept_2 ?_
  refine gd_istore_n C dX4_kept_3 (Nat.le_of_ble_eq_true rfl) ?_
  suffices hloop : ∀ (n : Nat) (i a : Int), 0 ≤ i → i ≤ 16 → (16 - i).toNat = n → a = sI (fun j => v j 7) 0 i → Gd p l e ({ frames := 0, cells := 0, slots := 0, locals := 0 }) s m args below meth c D z Q 0 0 w 4 [some (.ref b), some (.int (iI a)), some (.int (iI i))] [] from
    hloop _ 0 0 (by omega) (by omega) rfl (sI_0 _ _).symm
  intro n
  induction n using Nat.strongRecOn with
  | _ n ih =>
  intro i a h1i h2i hn ha
  have hfi : i < 16 → FI i (v i) (B i) := hi2 i (by omega)
  unfold FI at hfi
  refine gd_iload_n C dX4_kept_4 rfl ?_
  refine gd_bipush C dX4_kept_5 (by decide) ?_
  refine gd_icmp_ge (tgt := 28) C dX4_kept_7 (by decide) ?_ ?_ (fun hc7 => ?_) (fun hc7 => ?_)
  · omega
  · omega
  · refine gd_iload_n C dX4_kept_28 rfl ?_
    refine gd_iret C hQ hret dX4_kept_29 ?_ ?_
    · exact ⟨rfl, by rw [ha, show i = 16 by omega]⟩
    · decide
  · refine gd_iload_n C dX4_kept_10 rfl ?_
    refine gd_aload_n C dX4_kept_11 rfl ?_
    apply gd_get (ci := 4) (Cn := RX4) (T := TX4) (N := 5) (ref := RX4) C rfl (by decide +kernel) 2 (by decide) (by decide +kernel) rfl dX4_kept_12
    · first | assumption | exact (hfl _ (by omega) (by omega)).1 | exact (hfl _ (by omega) (by omega)).2 | exact wU_s _ _ _
    · rfl
    refine gd_iload_n C dX4_kept_15 rfl ?_
    apply gd_aald C dX4_kept_16
    · first | assumption | exact (hfl _ (by omega) (by omega)).1 | exact (hfl _ (by omega) (by omega)).2 | exact wU_s _ _ _
    · decide
    · omega
    · exact cQ_at (by omega)
    apply gd_getN (host := RX4) (ci := 0) (Cn := RX0) (T := TX0) (N := 11) (ref := RX0) C rfl (by decide +kernel) 7 (by decide) (by decide +kernel) rfl dX4_kept_17
    · first | assumption | exact (hfl _ (by omega) (by omega)).1 | exact (hfl _ (by omega) (by omega)).2 | exact wU_s _ _ _
    · rfl
    refine gd_iadd C dX4_kept_20 ?_
    refine gd_istore_n C dX4_kept_21 (Nat.le_of_ble_eq_true rfl) ?_
    refine gd_iinc C dX4_kept_22 rfl ?_
    refine gd_goto (tgt := 4) C dX4_kept_25 (by decide) ?_
    exact ih _ (by omega) _ _ (by omega) (by omega) rfl (by rw [sI_s (by omega), ← ha])

set_option maxRecDepth 100000 in
set_option maxHeartbeats 4000000 in
theorem kX4_isDown {l : Launch} {D : va_G} {ky : Nat → ClassId} {z : Nat} {w : WT} (hl : l.stackTraces = false) {b g t ar d : Nat} {ac ab : Int → Nat} {T : Int → Int} {v B : Int → Int → Int} {sc dn : Int} (hW : CW w ky b g t ar d ac ab T v B sc dn) (hI : CI T v B sc dn) : Mt l D ky z yX4_isDown wsX4_isDown { frames := 0, cells := 0, slots := 0, locals := 0 } [.ref b] w (fun r w' => w = w' ∧ r = some (.int (iI dn))) (fun _ => False) := by
  refine Mt.of (cc := cX4_isDown) (ret := (some .boolean)) (maxL := 1) (by decide) rfl (by intro v hv; simp at hv; rcases hv with rfl <;> rfl) (Nat.le_of_ble_eq_true rfl) ?_ hl
  intro p e s m args below meth c C htab hret hname Q hQ
  obtain ⟨hb, hg, ht, har, hfl, hdj⟩ := id hW
  obtain ⟨hi1, hi2, hi3, hi4⟩ := id hI
  refine gd_aload_n C dX4_isDown_0 rfl ?_
  apply gd_get (ci := 4) (Cn := RX4) (T := TX4) (N := 5) (ref := RX4) C rfl (by decide +kernel) 4 (by decide) (by decide +kernel) rfl dX4_isDown_1
  · first | assumption | exact (hfl _ (by omega) (by omega)).1 | exact (hfl _ (by omega) (by omega)).2 | exact wU_s _ _ _
  · rfl
  refine gd_zret C hQ hret ?_ dX4_isDown_4 ?_ ?_
  · omega
  · exact ⟨rfl, rfl⟩
  · decide

set_option maxRecDepth 100000 in
set_option maxHeartbeats 4000000 in
theorem kX4_free {l : Launch} {D : va_G} {ky : Nat → ClassId} {z : Nat} {w : WT} (hl : l.stackTraces = false) {b g t ar d : Nat} {ac ab : Int → Nat} {T : Int → Int} {v B : Int → Int → Int} {sc dn : Int} (hW : CW w ky b g t ar d ac ab T v B sc dn) (hI : CI T v B sc dn) : Mt l D ky z yX4_free wsX4_free { frames := 0, cells := 0, slots := 0, locals := 0 } [.ref b] w (fun r w' => w = w' ∧ r = some (.int (iI (128 - sI T 0 128)))) (fun _ => False) := by
  refine Mt.of (cc := cX4_free) (ret := (some .int)) (maxL := 1) (by decide) rfl (by intro v hv; simp at hv; rcases hv with rfl <;> rfl) (Nat.le_of_ble_eq_true rfl) ?_ hl
  intro p e s m args below meth c C htab hret hname Q hQ
  obtain ⟨hb, hg, ht, har, hfl, hdj⟩ := id hW
  obtain ⟨hi1, hi2, hi3, hi4⟩ := id hI
  refine gd_aload_n C dX4_free_0 rfl ?_
  apply gd_get (ci := 4) (Cn := RX4) (T := TX4) (N := 5) (ref := RX4) C rfl (by decide +kernel) 0 (by decide) (by decide +kernel) rfl dX4_free_1
  · first | assumption | exact (hfl _ (by omega) (by omega)).1 | exact (hfl _ (by omega) (by omega)).2 | exact wU_s _ _ _
  · rfl
  apply gd_getN (host := RX4) (ci := 2) (Cn := RX2) (T := TX2) (N := 2) (ref := RX2) C rfl (by decide +kernel) 1 (by decide) (by decide +kernel) rfl dX4_free_4
  · first | assumption | exact (hfl _ (by omega) (by omega)).1 | exact (hfl _ (by omega) (by omega)).2 | exact wU_s _ _ _
  · rfl
  refine gd_iret C hQ hret dX4_free_7 ?_ ?_
  · exact ⟨rfl, rfl⟩
  · decide

set_option maxRecDepth 100000 in
set_option maxHeartbeats 4000000 in
theorem kX4_left {l : Launch} {D : va_G} {ky : Nat → ClassId} {z : Nat} {w : WT} (hl : l.stackTraces = false) {b g t ar d : Nat} {ac ab : Int → Nat} {T : Int → Int} {v B : Int → Int → Int} {sc dn : Int} (hW : CW w ky b g t ar d ac ab T v B sc dn) (hI : CI T v B sc dn) : Mt l D ky z yX4_left wsX4_left { frames := 1, cells := 0, slots := 0, locals := 22 } [.ref b] w (fun r w' => w = w' ∧ r = some (.int (iI (128 - sI T 0 128 - sI (fun j => v j 4) 0 16)))) (fun _ => False) := by
  refine Mt.of (cc := cX4_left) (ret := (some .int)) (maxL := 1) (by decide) rfl (by intro v hv; simp at hv; rcases hv with rfl <;> rfl) (Nat.le_of_ble_eq_true rfl) ?_ hl
  intro p e s m args below meth c C htab hret hname Q hQ
  obtain ⟨hb, hg, ht, har, hfl, hdj⟩ := id hW
  obtain ⟨hi1, hi2, hi3, hi4⟩ := id hI
  refine gd_aload_n C dX4_left_0 rfl ?_
  refine gd_callV (n := 0) (ci := 4) (Cn := RX4) (T := TX4) (N := 5) C (kX4_free hl hW hI) ?_ rfl gX4_left_X4_free rfl ⟨rfl, by decide, by decide, by decide +kernel⟩ rfl rfl (Nat.le_of_ble_eq_true rfl) rfl dX4_left_1 ⟨⟨by decide, by decide⟩, by decide, by decide⟩ (fun _ h => h.elim) ?_
  · exact ⟨_, by first | assumption | exact wU_s _ _ _ | exact look1 (by assumption) (by assumption) | exact look2 (by assumption) (by assumption)⟩
  rintro _ _ ⟨rfl, rfl⟩
  refine gd_aload_n C dX4_left_4 rfl ?_
  refine gd_callV (n := 0) (ci := 4) (Cn := RX4) (T := TX4) (N := 5) C (kX4_reserved hl hW hI) ?_ rfl gX4_left_X4_reserved rfl ⟨rfl, by decide, by decide, by decide +kernel⟩ rfl rfl (Nat.le_of_ble_eq_true rfl) rfl dX4_left_5 ⟨⟨by decide, by decide⟩, by decide, by decide⟩ (fun _ h => h.elim) ?_
  · exact ⟨_, by first | assumption | exact wU_s _ _ _ | exact look1 (by assumption) (by assumption) | exact look2 (by assumption) (by assumption)⟩
  rintro _ _ ⟨rfl, rfl⟩
  refine gd_isub C dX4_left_8 ?_
  refine gd_iret C hQ hret dX4_left_9 ?_ ?_
  · exact ⟨rfl, rfl⟩
  · decide

set_option maxRecDepth 100000 in
set_option maxHeartbeats 4000000 in
theorem kX4_lowestUnusedFile {l : Launch} {D : va_G} {ky : Nat → ClassId} {z : Nat} {w : WT} (hl : l.stackTraces = false) {b g t ar d : Nat} {ac ab : Int → Nat} {T : Int → Int} {v B : Int → Int → Int} {sc dn : Int} (hW : CW w ky b g t ar d ac ab T v B sc dn) (hI : CI T v B sc dn) : Mt l D ky z yX4_lowestUnusedFile wsX4_lowestUnusedFile { frames := 0, cells := 0, slots := 0, locals := 0 } [.ref b] w (fun r w' => w = w' ∧ r = some (.int (iI (fF (fun j => v j 2 = 0) 0 16)))) (fun _ => False) := by
  refine Mt.of (cc := cX4_lowestUnusedFile) (ret := (some .int)) (maxL := 2) (by decide) rfl (by intro v hv; simp at hv; rcases hv with rfl <;> rfl) (Nat.le_of_ble_eq_true rfl) ?_ hl
  intro p e s m args below meth c C htab hret hname Q hQ
  obtain ⟨hb, hg, ht, har, hfl, hdj⟩ := id hW
  obtain ⟨hi1, hi2, hi3, hi4⟩ := id hI
  refine gd_iconst C dX4_lowestUnusedFile_0 ?_
  refine gd_istore_n C dX4_lowestUnusedFile_1 (Nat.le_of_ble_eq_true rfl) ?_
  suffices hloop : ∀ (n : Nat) (i : Int), 0 ≤ i → i ≤ 16 → (16 - i).toNat = n → fF (fun j => v j 2 = 0) 0 16 = fF (fun j => v j 2 = 0) i 16 → Gd p l e ({ frames := 0, cells := 0, slots := 0, locals := 0 }) s m args below meth c D z Q 0 0 w 2 [some (.ref b), some (.int (iI i))] [] from
    hloop _ 0 (by omega) (by omega) rfl rfl
  intro n
  induction n using Nat.strongRecOn with
  | _ n ih =>
  intro i h1i h2i hn hall
  have hfi : i < 16 → FI i (v i) (B i) := hi2 i (by omega)
  unfold FI at hfi
  refine gd_iload_n C dX4_lowestUnusedFile_2 rfl ?_
  refine gd_bipush C dX4_lowestUnusedFile_3 (by decide) ?_
  refine gd_icmp_ge (tgt := 28) C dX4_lowestUnusedFile_5 (by decide) ?_ ?_ (fun hc5 => ?_) (fun hc5 => ?_)
  · omega
  · omega
  · refine gd_iconst C dX4_lowestUnusedFile_28 ?_
    refine gd_iret C hQ hret dX4_lowestUnusedFile_29 ?_ ?_
    · exact ⟨rfl, by rw [hall, fF_end (by omega)]⟩
    · decide
  · refine gd_aload_n C dX4_lowestUnusedFile_8 rfl ?_
    apply gd_get (ci := 4) (Cn := RX4) (T := TX4) (N := 5) (ref := RX4) C rfl (by decide +kernel) 2 (by decide) (by decide +kernel) rfl dX4_lowestUnusedFile_9
    · first | assumption | exact (hfl _ (by omega) (by omega)).1 | exact (hfl _ (by omega) (by omega)).2 | exact wU_s _ _ _
    · rfl
    refine gd_iload_n C dX4_lowestUnusedFile_12 rfl ?_
    apply gd_aald C dX4_lowestUnusedFile_13
    · first | assumption | exact (hfl _ (by omega) (by omega)).1 | exact (hfl _ (by omega) (by omega)).2 | exact wU_s _ _ _
    · decide
    · omega
    · exact cQ_at (by omega)
    apply gd_getN (host := RX4) (ci := 0) (Cn := RX0) (T := TX0) (N := 11) (ref := RX0) C rfl (by decide +kernel) 2 (by decide) (by decide +kernel) rfl dX4_lowestUnusedFile_14
    · first | assumption | exact (hfl _ (by omega) (by omega)).1 | exact (hfl _ (by omega) (by omega)).2 | exact wU_s _ _ _
    · rfl
    refine gd_if_ne (tgt := 22) C dX4_lowestUnusedFile_17 (by decide) ?_ (fun hc17 => ?_) (fun hc17 => ?_)
    · omega
    · refine gd_iinc C dX4_lowestUnusedFile_22 rfl ?_
      refine gd_goto (tgt := 2) C dX4_lowestUnusedFile_25 (by decide) ?_
      exact ih _ (by omega) _ (by omega) (by omega) rfl (by rw [hall]; exact fF_miss (by omega) (by omega))
    · refine gd_iload_n C dX4_lowestUnusedFile_20 rfl ?_
      refine gd_iret C hQ hret dX4_lowestUnusedFile_21 ?_ ?_
      · exact ⟨rfl, by rw [hall, fF_hit (by omega) (by omega)]⟩
      · decide

set_option maxRecDepth 100000 in
set_option maxHeartbeats 4000000 in
theorem kX4_releaseKept {l : Launch} {D : va_G} {ky : Nat → ClassId} {z : Nat} {w : WT} (hl : l.stackTraces = false) {b g t ar d : Nat} {ac ab : Int → Nat} {T : Int → Int} {v B : Int → Int → Int} {sc dn : Int} (hW : CW w ky b g t ar d ac ab T v B sc dn) (hI : CI T v B sc dn) {j : Int} (hj : 0 ≤ j ∧ j < 16) : Mt l D ky z yX4_releaseKept wsX4_releaseKept { frames := 2, cells := 0, slots := 0, locals := 46 } [.ref b, .ref (ac j)] w (fun r w' => r = none ∧ CW w' ky b g t ar d ac ab (tkF T (v j 6) (v j 7) 0) (fU v j (fU (v j) 7 0)) (B) (sc) (dn) ∧ CI (tkF T (v j 6) (v j 7) 0) (fU v j (fU (v j) 7 0)) (B) (sc) (dn) ∧ FrC w w' b g t ac ab) (fun _ => False) := by
  refine Mt.of (cc := cX4_releaseKept) (ret := none) (maxL := 2) (by decide) rfl (by intro v hv; simp at hv; rcases hv with rfl | rfl <;> rfl) (Nat.le_of_ble_eq_true rfl) ?_ hl
  intro p e s m args below meth c C htab hret hname Q hQ
  obtain ⟨hb, hg, ht, har, hfl, hdj⟩ := id hW
  obtain ⟨hi1, hi2, hi3, hi4⟩ := id hI
  refine gd_aload_n C dX4_releaseKept_0 rfl ?_
  apply gd_get (ci := 4) (Cn := RX4) (T := TX4) (N := 5) (ref := RX4) C rfl (by decide +kernel) 0 (by decide) (by decide +kernel) rfl dX4_releaseKept_1
  · first | assumption | exact (hfl _ (by omega) (by omega)).1 | exact (hfl _ (by omega) (by omega)).2 | exact wU_s _ _ _
  · rfl
  refine gd_aload_n C dX4_releaseKept_4 rfl ?_
  apply gd_getN (host := RX4) (ci := 0) (Cn := RX0) (T := TX0) (N := 11) (ref := RX0) C rfl (by decide +kernel) 6 (by decide) (by decide +kernel) rfl dX4_releaseKept_5
  · first | assumption | exact (hfl _ (by omega) (by omega)).1 | exact (hfl _ (by omega) (by omega)).2 | exact wU_s _ _ _
  · rfl
  refine gd_aload_n C dX4_releaseKept_8 rfl ?_
  apply gd_getN (host := RX4) (ci := 0) (Cn := RX0) (T := TX0) (N := 11) (ref := RX0) C rfl (by decide +kernel) 7 (by decide) (by decide +kernel) rfl dX4_releaseKept_9
  · first | assumption | exact (hfl _ (by omega) (by omega)).1 | exact (hfl _ (by omega) (by omega)).2 | exact wU_s _ _ _
  · rfl
  have hfi := hi2 j (by omega) (by omega)
  unfold FI at hfi
  refine gd_callVN (n := 2) (ci := 2) (Cn := RX2) (T := TX2) (N := 2) (host := RX4) C (kX2_release hl hg ht hi1 (a := v j 6) (q := v j 7) ?_) ?_ rfl gX4_releaseKept_X2_release_n215 rfl (by decide +kernel) (by decide +kernel) (by decide +kernel) (by decide +kernel) ⟨by decide, by decide, by decide +kernel⟩ rfl rfl (Nat.le_of_ble_eq_true rfl) rfl dX4_releaseKept_12 ⟨⟨by decide, by decide⟩, by decide, by decide⟩ (fun _ h => h.elim) ?_
  · omega
  · exact ⟨_, by first | assumption | exact wU_s _ _ _ | exact look1 (by assumption) (by assumption) | exact look2 (by assumption) (by assumption)⟩
  rintro _ w1 ⟨rfl, c1, c2, c3⟩
  obtain ⟨hW1, hF1⟩ := hW.setG c1 c2 (by rw [sI_tk (by omega)]; omega) c3
  have hfl1 := hW1.2.2.2.2.1 j (by omega) (by omega)
  refine gd_aload_n C dX4_releaseKept_15 rfl ?_
  refine gd_iconst C dX4_releaseKept_16 ?_
  apply gd_putCN (host := RX4) C (by decide +kernel) 7 7 rfl (by decide) (by decide) (by decide +kernel) rfl dX4_releaseKept_17
  · exact hfl1.1
  · exact fun h => nomatch h
  refine gd_vret C hQ hret dX4_releaseKept_20 ?_ ?_
  · obtain ⟨hW2, hF2⟩ := hW1.setV (j := j) (by omega) (wU_s _ _ _) (fun y h => wU_n h)
    exact ⟨rfl, hW2, (hI.setT (tkF_01 hi1 (Or.inl rfl))).setV (FI.km0 (hi2 j (by omega) (by omega))), hF1.tr hF2⟩
  · decide

set_option maxRecDepth 100000 in
set_option maxHeartbeats 4000000 in
theorem kX4_releaseAllKept {l : Launch} {D : va_G} {ky : Nat → ClassId} {z : Nat} {w : WT} (hl : l.stackTraces = false) {b g t ar d : Nat} {ac ab : Int → Nat} {T : Int → Int} {v B : Int → Int → Int} {sc dn : Int} (hW : CW w ky b g t ar d ac ab T v B sc dn) (hI : CI T v B sc dn) : Mt l D ky z yX4_releaseAllKept wsX4_releaseAllKept { frames := 3, cells := 0, slots := 0, locals := 67 } [.ref b] w (fun r w' => r = none ∧ CW w' ky b g t ar d ac ab (rlT v T 16) (rlV v 16) (B) (sc) (dn) ∧ CI (rlT v T 16) (rlV v 16) (B) (sc) (dn) ∧ FrC w w' b g t ac ab) (fun _ => False) := by
  refine Mt.of (cc := cX4_releaseAllKept) (ret := none) (maxL := 2) (by decide) rfl (by intro v hv; simp at hv; rcases hv with rfl <;> rfl) (Nat.le_of_ble_eq_true rfl) ?_ hl
  intro p e s m args below meth c C htab hret hname Q hQ
  obtain ⟨hb, hg, ht, har, hfl, hdj⟩ := id hW
  obtain ⟨hi1, hi2, hi3, hi4⟩ := id hI
  refine gd_iconst C dX4_releaseAllKept_0 ?_
  refine gd_istore_n C dX4_releaseAllKept_1 (Nat.le_of_ble_eq_true rfl) ?_
  suffices hloop : ∀ (n : Nat) (i : Int) (w1 : WT), 0 ≤ i → i ≤ 16 → (16 - i).toNat = n → CW w1 ky b g t ar d ac ab (rlT v T i.toNat) (rlV v i) B sc dn → CI (rlT v T i.toNat) (rlV v i) B sc dn → FrC w w1 b g t ac ab → Gd p l e ({ frames := 3, cells := 0, slots := 0, locals := 67 }) s m args below meth c D z Q 0 0 w1 2 [some (.ref b), some (.int (iI i))] [] from
    hloop _ 0 w (by omega) (by omega) rfl (by rw [rlV_0]; exact hW) (by rw [rlV_0]; exact hI) (FrC.rf _ _ _ _ _ _)
  intro n
  induction n using Nat.strongRecOn with
  | _ n ih =>
  intro i w1 h1i h2i hn hW1 hI1 hF1
  obtain ⟨hb1, hg1, ht1, har1, hfl1, hdj1⟩ := id hW1
  refine gd_iload_n C dX4_releaseAllKept_2 rfl ?_
  refine gd_bipush C dX4_releaseAllKept_3 (by decide) ?_
  refine gd_icmp_ge (tgt := 24) C dX4_releaseAllKept_5 (by decide) ?_ ?_ (fun hc5 => ?_) (fun hc5 => ?_)
  · omega
  · omega
  · refine gd_vret C hQ hret dX4_releaseAllKept_24 ?_ ?_
    · have e : i = 16 := by omega
      subst e
      exact ⟨rfl, hW1, hI1, hF1⟩
    · decide
  · refine gd_aload_n C dX4_releaseAllKept_8 rfl ?_
    refine gd_aload_n C dX4_releaseAllKept_9 rfl ?_
    apply gd_get (ci := 4) (Cn := RX4) (T := TX4) (N := 5) (ref := RX4) C rfl (by decide +kernel) 2 (by decide) (by decide +kernel) rfl dX4_releaseAllKept_10
    · exact hb1
    · rfl
    refine gd_iload_n C dX4_releaseAllKept_13 rfl ?_
    apply gd_aald C dX4_releaseAllKept_14
    · exact har1
    · decide
    · omega
    · exact cQ_at (by omega)
    refine gd_callV (n := 1) (ci := 4) (Cn := RX4) (T := TX4) (N := 5) C (kX4_releaseKept hl hW1 hI1 (j := i) ?_) ?_ rfl gX4_releaseAllKept_X4_releaseKept rfl ⟨rfl, by decide, by decide, by decide +kernel⟩ rfl rfl (Nat.le_of_ble_eq_true rfl) rfl dX4_releaseAllKept_15 ⟨⟨by decide, by decide⟩, by decide, by decide⟩ (fun _ h => h.elim) ?_
    · omega
    · exact ⟨_, by exact hb1⟩
    rintro _ w2 ⟨rfl, hW2, hI2, hF2⟩
    rw [rlV_at] at hW2 hI2
    refine gd_iinc C dX4_releaseAllKept_18 rfl ?_
    refine gd_goto (tgt := 2) C dX4_releaseAllKept_21 (by decide) ?_
    exact ih _ (by omega) (i + 1) _ (by omega) (by omega) rfl (by rw [rlT_s h1i, ← rlV_s h1i]; exact hW2) (by rw [rlT_s h1i, ← rlV_s h1i]; exact hI2) (hF1.tr hF2)

set_option maxRecDepth 100000 in
set_option maxHeartbeats 4000000 in
theorem kX4_freeByFiles {l : Launch} {D : va_G} {ky : Nat → ClassId} {z : Nat} {w : WT} (hl : l.stackTraces = false) {b g t ar d : Nat} {ac ab : Int → Nat} {T : Int → Int} {v B : Int → Int → Int} {sc dn : Int} (hW : CW w ky b g t ar d ac ab T v B sc dn) (hI : CI T v B sc dn) : Mt l D ky z yX4_freeByFiles wsX4_freeByFiles { frames := 1, cells := 0, slots := 0, locals := 22 } [.ref b] w (fun r w' => w = w' ∧ r = some (.int (iI (128 - sI (fun j => sI (fun p => geI (B j p)) 0 64 + v j 7) 0 16)))) (fun _ => False) := by
  refine Mt.of (cc := cX4_freeByFiles) (ret := (some .int)) (maxL := 3) (by decide) rfl (by intro v hv; simp at hv; rcases hv with rfl <;> rfl) (Nat.le_of_ble_eq_true rfl) ?_ hl
  intro p e s m args below meth c C htab hret hname Q hQ
  obtain ⟨hb, hg, ht, har, hfl, hdj⟩ := id hW
  obtain ⟨hi1, hi2, hi3, hi4⟩ := id hI
  refine gd_sipush C dX4_freeByFiles_0 (by decide) ?_
  refine gd_istore_n C dX4_freeByFiles_3 (Nat.le_of_ble_eq_true rfl) ?_
  refine gd_iconst C dX4_freeByFiles_4 ?_
  refine gd_istore_n C dX4_freeByFiles_5 (Nat.le_of_ble_eq_true rfl) ?_
  suffices hloop : ∀ (n : Nat) (i a : Int), 0 ≤ i → i ≤ 16 → (16 - i).toNat = n → a = 128 - sI (fun j => sI (fun p => geI (B j p)) 0 64 + v j 7) 0 i → Gd p l e ({ frames := 1, cells := 0, slots := 0, locals := 22 }) s m args below meth c D z Q 0 0 w 6 [some (.ref b), some (.int (iI a)), some (.int (iI i))] [] from
    hloop _ 0 128 (by omega) (by omega) rfl (by rw [sI_0]; rfl)
  intro n
  induction n using Nat.strongRecOn with
  | _ n ih =>
  intro i a h1i h2i hn ha
  have hfi : i < 16 → FI i (v i) (B i) := hi2 i (by omega)
  unfold FI at hfi
  have hfl1 := fun h => hfl i (by omega) (h : i < 16)
  refine gd_iload_n C dX4_freeByFiles_6 rfl ?_
  refine gd_bipush C dX4_freeByFiles_7 (by decide) ?_
  refine gd_icmp_ge (tgt := 40) C dX4_freeByFiles_9 (by decide) ?_ ?_ (fun hc9 => ?_) (fun hc9 => ?_)
  · omega
  · omega
  · refine gd_iload_n C dX4_freeByFiles_40 rfl ?_
    refine gd_iret C hQ hret dX4_freeByFiles_41 ?_ ?_
    · exact ⟨rfl, by rw [ha, show i = 16 by omega]⟩
    · decide
  · refine gd_iload_n C dX4_freeByFiles_12 rfl ?_
    refine gd_aload_n C dX4_freeByFiles_13 rfl ?_
    apply gd_get (ci := 4) (Cn := RX4) (T := TX4) (N := 5) (ref := RX4) C rfl (by decide +kernel) 2 (by decide) (by decide +kernel) rfl dX4_freeByFiles_14
    · first | assumption | exact (hfl _ (by omega) (by omega)).1 | exact (hfl _ (by omega) (by omega)).2 | exact wU_s _ _ _
    · rfl
    refine gd_iload_n C dX4_freeByFiles_17 rfl ?_
    apply gd_aald C dX4_freeByFiles_18
    · first | assumption | exact (hfl _ (by omega) (by omega)).1 | exact (hfl _ (by omega) (by omega)).2 | exact wU_s _ _ _
    · decide
    · omega
    · exact cQ_at (by omega)
    refine gd_callVN (n := 0) (ci := 0) (Cn := RX0) (T := TX0) (N := 11) (host := RX4) C (kX0_mappedPlaces hl (hfl1 (by omega)).1 (hfl1 (by omega)).2 (hfi (by omega)).2.2.2.2.2.2.2.2.2) ?_ rfl gX4_freeByFiles_X0_mappedPlaces_n151 rfl (by decide +kernel) (by decide +kernel) (by decide +kernel) (by decide +kernel) ⟨by decide, by decide, by decide +kernel⟩ rfl rfl (Nat.le_of_ble_eq_true rfl) rfl dX4_freeByFiles_19 ⟨⟨by decide, by decide⟩, by decide, by decide⟩ (fun _ h => h.elim) ?_
    · exact ⟨_, by exact (hfl1 (by omega)).1⟩
    rintro _ _ ⟨rfl, rfl⟩
    refine gd_aload_n C dX4_freeByFiles_22 rfl ?_
    apply gd_get (ci := 4) (Cn := RX4) (T := TX4) (N := 5) (ref := RX4) C rfl (by decide +kernel) 2 (by decide) (by decide +kernel) rfl dX4_freeByFiles_23
    · first | assumption | exact (hfl _ (by omega) (by omega)).1 | exact (hfl _ (by omega) (by omega)).2 | exact wU_s _ _ _
    · rfl
    refine gd_iload_n C dX4_freeByFiles_26 rfl ?_
    apply gd_aald C dX4_freeByFiles_27
    · first | assumption | exact (hfl _ (by omega) (by omega)).1 | exact (hfl _ (by omega) (by omega)).2 | exact wU_s _ _ _
    · decide
    · omega
    · exact cQ_at (by omega)
    apply gd_getN (host := RX4) (ci := 0) (Cn := RX0) (T := TX0) (N := 11) (ref := RX0) C rfl (by decide +kernel) 7 (by decide) (by decide +kernel) rfl dX4_freeByFiles_28
    · first | assumption | exact (hfl _ (by omega) (by omega)).1 | exact (hfl _ (by omega) (by omega)).2 | exact wU_s _ _ _
    · rfl
    refine gd_iadd C dX4_freeByFiles_31 ?_
    refine gd_isub C dX4_freeByFiles_32 ?_
    refine gd_istore_n C dX4_freeByFiles_33 (Nat.le_of_ble_eq_true rfl) ?_
    refine gd_iinc C dX4_freeByFiles_34 rfl ?_
    refine gd_goto (tgt := 6) C dX4_freeByFiles_37 (by decide) ?_
    exact ih _ (by omega) (i + 1) _ (by omega) (by omega) rfl (by rw [sI_s (by omega)]; omega)

set_option maxRecDepth 100000 in
set_option maxHeartbeats 4000000 in
theorem kX4_opens {l : Launch} {D : va_G} {ky : Nat → ClassId} {z : Nat} {w : WT} (hl : l.stackTraces = false) {b g t ar d : Nat} {ac ab : Int → Nat} {T : Int → Int} {v B : Int → Int → Int} {sc dn : Int} (hW : CW w ky b g t ar d ac ab T v B sc dn) (hI : CI T v B sc dn) {q : Int} (hq : InR q) : Mt l D ky z yX4_opens wsX4_opens { frames := 7, cells := 1, slots := 6, locals := 111 } [.ref b, .int (iI q)] w (fun r w' => w = w' ∧ r = some (.int (iI (v q 3))) ∧ (0 ≤ q ∧ q < 16 ∧ v q 2 = 1)) (fun E => E = "java/lang/IndexOutOfBoundsException" ∧ ¬ (0 ≤ q ∧ q < 16 ∧ v q 2 = 1)) := by
  refine Mt.of (cc := cX4_opens) (ret := (some .int)) (maxL := 2) (by decide) rfl (by intro v hv; simp at hv; rcases hv with rfl | rfl <;> rfl) (Nat.le_of_ble_eq_true rfl) ?_ hl
  intro p e s m args below meth c C htab hret hname Q hQ
  obtain ⟨hb, hg, ht, har, hfl, hdj⟩ := id hW
  obtain ⟨hi1, hi2, hi3, hi4⟩ := id hI
  refine gd_aload_n C dX4_opens_0 rfl ?_
  refine gd_iload_n C dX4_opens_1 rfl ?_
  refine gd_callV (n := 1) (ci := 4) (Cn := RX4) (T := TX4) (N := 5) C (kX4_requireContent hl hW hI (q := q) ?_) ?_ rfl gX4_opens_X4_requireContent rfl ⟨rfl, by decide, by decide, by decide +kernel⟩ rfl rfl (Nat.le_of_ble_eq_true rfl) rfl dX4_opens_2 ⟨⟨by decide, by decide⟩, by decide, by decide⟩ (fun E h => gx_out C hQ htab (⟨h.1, h.2⟩) (by decide) (by decide)) ?_
  · omega
  · exact ⟨_, by first | assumption | exact wU_s _ _ _ | exact look1 (by assumption) (by assumption) | exact look2 (by assumption) (by assumption)⟩
  rintro _ _ ⟨rfl, rfl, hq1, hq2, hq3⟩
  have hfi := hi2 q hq1 hq2
  unfold FI at hfi
  have hfq := hfl q hq1 hq2
  apply gd_getN (host := RX4) (ci := 0) (Cn := RX0) (T := TX0) (N := 11) (ref := RX0) C rfl (by decide +kernel) 3 (by decide) (by decide +kernel) rfl dX4_opens_5
  · exact hfq.1
  · rfl
  refine gd_iret C hQ hret dX4_opens_8 ?_ ?_
  · exact ⟨rfl, rfl, by omega⟩
  · decide

set_option maxRecDepth 100000 in
set_option maxHeartbeats 4000000 in
theorem kX4_extents {l : Launch} {D : va_G} {ky : Nat → ClassId} {z : Nat} {w : WT} (hl : l.stackTraces = false) {b g t ar d : Nat} {ac ab : Int → Nat} {T : Int → Int} {v B : Int → Int → Int} {sc dn : Int} (hW : CW w ky b g t ar d ac ab T v B sc dn) (hI : CI T v B sc dn) {q : Int} (hq : InR q) : Mt l D ky z yX4_extents wsX4_extents { frames := 7, cells := 1, slots := 6, locals := 111 } [.ref b, .int (iI q)] w (fun r w' => w = w' ∧ r = some (.int (iI (sI (bE (B q)) 0 64))) ∧ (0 ≤ q ∧ q < 16 ∧ v q 2 = 1)) (fun E => E = "java/lang/IndexOutOfBoundsException" ∧ ¬ (0 ≤ q ∧ q < 16 ∧ v q 2 = 1)) := by
  refine Mt.of (cc := cX4_extents) (ret := (some .int)) (maxL := 2) (by decide) rfl (by intro v hv; simp at hv; rcases hv with rfl | rfl <;> rfl) (Nat.le_of_ble_eq_true rfl) ?_ hl
  intro p e s m args below meth c C htab hret hname Q hQ
  obtain ⟨hb, hg, ht, har, hfl, hdj⟩ := id hW
  obtain ⟨hi1, hi2, hi3, hi4⟩ := id hI
  refine gd_aload_n C dX4_extents_0 rfl ?_
  refine gd_iload_n C dX4_extents_1 rfl ?_
  refine gd_callV (n := 1) (ci := 4) (Cn := RX4) (T := TX4) (N := 5) C (kX4_requireContent hl hW hI (q := q) ?_) ?_ rfl gX4_extents_X4_requireContent rfl ⟨rfl, by decide, by decide, by decide +kernel⟩ rfl rfl (Nat.le_of_ble_eq_true rfl) rfl dX4_extents_2 ⟨⟨by decide, by decide⟩, by decide, by decide⟩ (fun E h => gx_out C hQ htab (⟨h.1, h.2⟩) (by decide) (by decide)) ?_
  · omega
  · exact ⟨_, by first | assumption | exact wU_s _ _ _ | exact look1 (by assumption) (by assumption) | exact look2 (by assumption) (by assumption)⟩
  rintro _ _ ⟨rfl, rfl, hq1, hq2, hq3⟩
  have hfi := hi2 q hq1 hq2
  unfold FI at hfi
  have hfq := hfl q hq1 hq2
  refine gd_callVN (n := 0) (ci := 0) (Cn := RX0) (T := TX0) (N := 11) (host := RX4) C (kX0_countExtents hl hfq.1 hfq.2 hfi.2.2.2.2.2.2.2.2.2) ?_ rfl gX4_extents_X0_countExtents_n178 rfl (by decide +kernel) (by decide +kernel) (by decide +kernel) (by decide +kernel) ⟨by decide, by decide, by decide +kernel⟩ rfl rfl (Nat.le_of_ble_eq_true rfl) rfl dX4_extents_5 ⟨⟨by decide, by decide⟩, by decide, by decide⟩ (fun _ h => h.elim) ?_
  · exact ⟨_, by exact hfq.1⟩
  rintro _ _ ⟨rfl, rfl⟩
  refine gd_iret C hQ hret dX4_extents_8 ?_ ?_
  · exact ⟨rfl, rfl, by omega⟩
  · decide

set_option maxRecDepth 100000 in
set_option maxHeartbeats 4000000 in
theorem kX4_blockAt {l : Launch} {D : va_G} {ky : Nat → ClassId} {z : Nat} {w : WT} (hl : l.stackTraces = false) {b g t ar d : Nat} {ac ab : Int → Nat} {T : Int → Int} {v B : Int → Int → Int} {sc dn : Int} (hW : CW w ky b g t ar d ac ab T v B sc dn) (hI : CI T v B sc dn) {q x : Int} (hq : InR q ∧ InR x) : Mt l D ky z yX4_blockAt wsX4_blockAt { frames := 7, cells := 2, slots := 12, locals := 112 } [.ref b, .int (iI q), .int (iI x)] w (fun r w' => w = w' ∧ r = some (.int (iI (B q x))) ∧ (0 ≤ q ∧ q < 16 ∧ v q 2 = 1) ∧ 0 ≤ x ∧ x ≤ 63) (fun E => (E = "java/lang/IndexOutOfBoundsException" ∧ ¬ (0 ≤ q ∧ q < 16 ∧ v q 2 = 1)) ∨ (E = "java/lang/IllegalArgumentException" ∧ (0 ≤ q ∧ q < 16 ∧ v q 2 = 1) ∧ ¬ (0 ≤ x ∧ x ≤ 63))) := by
  refine Mt.of (cc := cX4_blockAt) (ret := (some .int)) (maxL := 4) (by decide) rfl (by intro v hv; simp at hv; rcases hv with rfl | rfl | rfl <;> rfl) (Nat.le_of_ble_eq_true rfl) ?_ hl
  intro p e s m args below meth c C htab hret hname Q hQ
  obtain ⟨hb, hg, ht, har, hfl, hdj⟩ := id hW
  obtain ⟨hi1, hi2, hi3, hi4⟩ := id hI
  refine gd_aload_n C dX4_blockAt_0 rfl ?_
  refine gd_iload_n C dX4_blockAt_1 rfl ?_
  refine gd_callV (n := 1) (ci := 4) (Cn := RX4) (T := TX4) (N := 5) C (kX4_requireContent hl hW hI (q := q) ?_) ?_ rfl gX4_blockAt_X4_requireContent rfl ⟨rfl, by decide, by decide, by decide +kernel⟩ rfl rfl (Nat.le_of_ble_eq_true rfl) rfl dX4_blockAt_2 ⟨⟨by decide, by decide⟩, by decide, by decide⟩ (fun E h => gx_out C hQ htab (Or.inl ⟨h.1, h.2⟩) (by decide) (by decide)) ?_
  · omega
  · exact ⟨_, by first | assumption | exact wU_s _ _ _ | exact look1 (by assumption) (by assumption) | exact look2 (by assumption) (by assumption)⟩
  rintro _ _ ⟨rfl, rfl, hq1, hq2, hq3⟩
  have hfi := hi2 q hq1 hq2
  unfold FI at hfi
  have hfq := hfl q hq1 hq2
  refine gd_astore_n C dX4_blockAt_5 (Nat.le_of_ble_eq_true rfl) ?_
  refine gd_iload_n C dX4_blockAt_6 rfl ?_
  refine gd_iconst C dX4_blockAt_7 ?_
  refine gd_bipush C dX4_blockAt_8 (by decide) ?_
  refine gd_callS (n := 3) C (kX4_requireRange hl (q := x) (p1 := 0) (p2 := 63) ?_) gX4_blockAt_X4_requireRange rfl ⟨by decide, by decide, by decide +kernel⟩ rfl rfl (Nat.le_of_ble_eq_true rfl) rfl dX4_blockAt_10 ⟨⟨by decide, by decide⟩, by decide, by decide⟩ (fun E h => gx_out C hQ htab (Or.inr ⟨h.1, by omega, by have := h.2; omega⟩) (by decide) (by decide)) ?_
  · omega
  rintro _ _ ⟨rfl, rfl, hr1, hr2⟩
  refine gd_aload_n C dX4_blockAt_13 rfl ?_
  apply gd_getN (host := RX4) (ci := 0) (Cn := RX0) (T := TX0) (N := 11) (ref := RX0) C rfl (by decide +kernel) 1 (by decide) (by decide +kernel) rfl dX4_blockAt_14
  · exact hfq.1
  · rfl
  refine gd_iload_n C dX4_blockAt_17 rfl ?_
  apply gd_iald C dX4_blockAt_18
  · exact hfq.2
  · decide
  · omega
  refine gd_iret C hQ hret dX4_blockAt_19 ?_ ?_
  · exact ⟨rfl, rfl, by omega, by omega⟩
  · decide

set_option maxRecDepth 100000 in
set_option maxHeartbeats 4000000 in
theorem kX4_isFree {l : Launch} {D : va_G} {ky : Nat → ClassId} {z : Nat} {w : WT} (hl : l.stackTraces = false) {b g t ar d : Nat} {ac ab : Int → Nat} {T : Int → Int} {v B : Int → Int → Int} {sc dn : Int} (hW : CW w ky b g t ar d ac ab T v B sc dn) (hI : CI T v B sc dn) {q : Int} (hq : InR q) : Mt l D ky z yX4_isFree wsX4_isFree { frames := 6, cells := 1, slots := 6, locals := 90 } [.ref b, .int (iI q)] w (fun r w' => w = w' ∧ r = some (.int (iI (1 - T q))) ∧ 0 ≤ q ∧ q < 128) (fun E => E = "java/lang/IndexOutOfBoundsException" ∧ ¬ (0 ≤ q ∧ q < 128)) := by
  refine Mt.of (cc := cX4_isFree) (ret := (some .boolean)) (maxL := 2) (by decide) rfl (by intro v hv; simp at hv; rcases hv with rfl | rfl <;> rfl) (Nat.le_of_ble_eq_true rfl) ?_ hl
  intro p e s m args below meth c C htab hret hname Q hQ
  obtain ⟨hb, hg, ht, har, hfl, hdj⟩ := id hW
  obtain ⟨hi1, hi2, hi3, hi4⟩ := id hI
  refine gd_iload_n C dX4_isFree_0 rfl ?_
  refine gd_if_lt (tgt := 11) C dX4_isFree_1 (by decide) ?_ (fun hc1 => ?_) (fun hc1 => ?_)
  · omega
  · refine gd_throw (cls := "java/lang/IndexOutOfBoundsException") (text := "there is no such block") (ik := 160) (is := 168) (ic := 164) C hQ htab (by decide +kernel) (by decide +kernel) (by decide +kernel) (by decide +kernel) (by decide +kernel) (by decide +kernel) (by decide +kernel) dX4_isFree_11 dX4_isFree_14 dX4_isFree_15 dX4_isFree_17 dX4_isFree_20 rfl ?_ ⟨⟨by decide, Nat.le_of_ble_eq_true rfl, by decide, by decide⟩, by decide, by decide⟩
    · exact ⟨rfl, by omega⟩
  · refine gd_iload_n C dX4_isFree_4 rfl ?_
    refine gd_sipush C dX4_isFree_5 (by decide) ?_
    refine gd_icmp_lt (tgt := 21) C dX4_isFree_8 (by decide) ?_ ?_ (fun hc8 => ?_) (fun hc8 => ?_)
    · omega
    · omega
    · refine gd_aload_n C dX4_isFree_21 rfl ?_
      apply gd_get (ci := 4) (Cn := RX4) (T := TX4) (N := 5) (ref := RX4) C rfl (by decide +kernel) 0 (by decide) (by decide +kernel) rfl dX4_isFree_22
      · first | assumption | exact (hfl _ (by omega) (by omega)).1 | exact (hfl _ (by omega) (by omega)).2 | exact wU_s _ _ _
      · rfl
      refine gd_iload_n C dX4_isFree_25 rfl ?_
      refine gd_iconst C dX4_isFree_26 ?_
      refine gd_callVN (n := 2) (ci := 2) (Cn := RX2) (T := TX2) (N := 2) (host := RX4) C (kX2_areFree hl hg ht hi1 (a := q) (q := 1) ?_ ?_) ?_ rfl gX4_isFree_X2_areFree_n170 rfl (by decide +kernel) (by decide +kernel) (by decide +kernel) (by decide +kernel) ⟨by decide, by decide, by decide +kernel⟩ rfl rfl (Nat.le_of_ble_eq_true rfl) rfl dX4_isFree_27 ⟨⟨by decide, by decide⟩, by decide, by decide⟩ (fun _ h => h.elim) ?_
      · omega
      · omega
      · exact ⟨_, by first | assumption | exact wU_s _ _ _ | exact look1 (by assumption) (by assumption) | exact look2 (by assumption) (by assumption)⟩
      rintro _ _ ⟨x, rfl, rfl, hx⟩
      refine gd_zret C hQ hret ?_ dX4_isFree_30 ?_ ?_
      · omega
      · have hT := hi1 q
        refine ⟨rfl, ?_, by omega, by omega⟩
        have e : x = 1 - T q := by
          rcases hx with ⟨h1, h2⟩ | ⟨h1, h2⟩
          · have := h2.2.2 q (by omega) (by omega)
            omega
          · rcases hT with h3 | h3
            · exact absurd ⟨by omega, by omega, fun j j1 j2 => by rw [show j = q by omega]; exact h3⟩ h2
            · omega
        rw [e]
      · decide
    · refine gd_throw (cls := "java/lang/IndexOutOfBoundsException") (text := "there is no such block") (ik := 160) (is := 168) (ic := 164) C hQ htab (by decide +kernel) (by decide +kernel) (by decide +kernel) (by decide +kernel) (by decide +kernel) (by decide +kernel) (by decide +kernel) dX4_isFree_11 dX4_isFree_14 dX4_isFree_15 dX4_isFree_17 dX4_isFree_20 rfl ?_ ⟨⟨by decide, Nat.le_of_ble_eq_true rfl, by decide, by decide⟩, by decide, by decide⟩
      · exact ⟨rfl, by omega⟩

set_option maxRecDepth 100000 in
set_option maxHeartbeats 4000000 in
theorem kX4_pieces {l : Launch} {D : va_G} {ky : Nat → ClassId} {z : Nat} {w : WT} (hl : l.stackTraces = false) {b g t ar d : Nat} {ac ab : Int → Nat} {T : Int → Int} {v B : Int → Int → Int} {sc dn : Int} (hW : CW w ky b g t ar d ac ab T v B sc dn) (hI : CI T v B sc dn) {q x : Int} (hq : InR q ∧ InR x) : Mt l D ky z yX4_pieces wsX4_pieces { frames := 7, cells := 2, slots := 12, locals := 112 } [.ref b, .int (iI q), .int (iI x)] w (fun r w' => w = w' ∧ r = some (.int (iI (sI (fun y => pI (aP T (p2 x) y)) (32 * q) (32 * q + 32)))) ∧ (0 ≤ q ∧ q ≤ 3) ∧ 0 ≤ x ∧ x ≤ 5) (fun E => (E = "java/lang/IndexOutOfBoundsException" ∧ ¬ (0 ≤ q ∧ q ≤ 3)) ∨ (E = "java/lang/IllegalArgumentException" ∧ (0 ≤ q ∧ q ≤ 3) ∧ ¬ (0 ≤ x ∧ x ≤ 5))) := by
  refine Mt.of (cc := cX4_pieces) (ret := (some .int)) (maxL := 3) (by decide) rfl (by intro v hv; simp at hv; rcases hv with rfl | rfl | rfl <;> rfl) (Nat.le_of_ble_eq_true rfl) ?_ hl
  intro p e s m args below meth c C htab hret hname Q hQ
  obtain ⟨hb, hg, ht, har, hfl, hdj⟩ := id hW
  obtain ⟨hi1, hi2, hi3, hi4⟩ := id hI
  refine gd_iload_n C dX4_pieces_0 rfl ?_
  refine gd_if_lt (tgt := 9) C dX4_pieces_1 (by decide) ?_ (fun hc1 => ?_) (fun hc1 => ?_)
  · omega
  · refine gd_throw (cls := "java/lang/IndexOutOfBoundsException") (text := "there is no such group") (ik := 160) (is := 162) (ic := 164) C hQ htab (by decide +kernel) (by decide +kernel) (by decide +kernel) (by decide +kernel) (by decide +kernel) (by decide +kernel) (by decide +kernel) dX4_pieces_9 dX4_pieces_12 dX4_pieces_13 dX4_pieces_15 dX4_pieces_18 rfl ?_ ⟨⟨by decide, Nat.le_of_ble_eq_true rfl, by decide, by decide⟩, by decide, by decide⟩
    · exact Or.inl ⟨rfl, by omega⟩
  · refine gd_iload_n C dX4_pieces_4 rfl ?_
    refine gd_iconst C dX4_pieces_5 ?_
    refine gd_icmp_lt (tgt := 19) C dX4_pieces_6 (by decide) ?_ ?_ (fun hc6 => ?_) (fun hc6 => ?_)
    · omega
    · omega
    · refine gd_iload_n C dX4_pieces_19 rfl ?_
      refine gd_iconst C dX4_pieces_20 ?_
      refine gd_iconst C dX4_pieces_21 ?_
      refine gd_callS (n := 3) C (kX4_requireRange hl (q := x) (p1 := 0) (p2 := 5) ?_) gX4_pieces_X4_requireRange rfl ⟨by decide, by decide, by decide +kernel⟩ rfl rfl (Nat.le_of_ble_eq_true rfl) rfl dX4_pieces_22 ⟨⟨by decide, by decide⟩, by decide, by decide⟩ (fun E h => gx_out C hQ htab (Or.inr ⟨h.1, by omega, by have := h.2; omega⟩) (by decide) (by decide)) ?_
      · omega
      rintro _ _ ⟨rfl, rfl, hr1, hr2⟩
      refine gd_aload_n C dX4_pieces_25 rfl ?_
      apply gd_get (ci := 4) (Cn := RX4) (T := TX4) (N := 5) (ref := RX4) C rfl (by decide +kernel) 0 (by decide) (by decide +kernel) rfl dX4_pieces_26
      · first | assumption | exact (hfl _ (by omega) (by omega)).1 | exact (hfl _ (by omega) (by omega)).2 | exact wU_s _ _ _
      · rfl
      refine gd_iload_n C dX4_pieces_29 rfl ?_
      refine gd_iconst C dX4_pieces_30 ?_
      refine gd_iload_n C dX4_pieces_31 rfl ?_
      refine gd_ishl1 C dX4_pieces_32 ?_ ?_
      · omega
      refine gd_callVN (n := 2) (ci := 2) (Cn := RX2) (T := TX2) (N := 2) (host := RX4) C (kX2_countPieces hl hg ht hi1 (k := q) (q := p2 x) ?_ (p2_c x)) ?_ rfl gX4_pieces_X2_countPieces_n165 rfl (by decide +kernel) (by decide +kernel) (by decide +kernel) (by decide +kernel) ⟨by decide, by decide, by decide +kernel⟩ rfl rfl (Nat.le_of_ble_eq_true rfl) rfl dX4_pieces_33 ⟨⟨by decide, by decide⟩, by decide, by decide⟩ (fun _ h => h.elim) ?_
      · omega
      · exact ⟨_, by first | assumption | exact wU_s _ _ _ | exact look1 (by assumption) (by assumption) | exact look2 (by assumption) (by assumption)⟩
      rintro _ _ ⟨rfl, rfl⟩
      refine gd_iret C hQ hret dX4_pieces_36 ?_ ?_
      · exact ⟨rfl, rfl, by omega, by omega⟩
      · decide
    · refine gd_throw (cls := "java/lang/IndexOutOfBoundsException") (text := "there is no such group") (ik := 160) (is := 162) (ic := 164) C hQ htab (by decide +kernel) (by decide +kernel) (by decide +kernel) (by decide +kernel) (by decide +kernel) (by decide +kernel) (by decide +kernel) dX4_pieces_9 dX4_pieces_12 dX4_pieces_13 dX4_pieces_15 dX4_pieces_18 rfl ?_ ⟨⟨by decide, Nat.le_of_ble_eq_true rfl, by decide, by decide⟩, by decide, by decide⟩
      · exact Or.inl ⟨rfl, by omega⟩

set_option maxRecDepth 100000 in
set_option maxHeartbeats 4000000 in
theorem kX4_extent {l : Launch} {D : va_G} {ky : Nat → ClassId} {z : Nat} {w : WT} (hl : l.stackTraces = false) {b g t ar d : Nat} {ac ab : Int → Nat} {T : Int → Int} {v B : Int → Int → Int} {sc dn : Int} (hW : CW w ky b g t ar d ac ab T v B sc dn) (hI : CI T v B sc dn) {q k : Int} (hq : InR q ∧ InR k) : Mt l D ky z yX4_extent wsX4_extent { frames := 7, cells := 2, slots := 12, locals := 111 } [.ref b, .int (iI q), .int (iI k)] w (fun r w' => ∃ x y : Int, w = w' ∧ 0 ≤ x ∧ x < 64 ∧ bE (B q) x = 1 ∧ sI (bE (B q)) 0 x = k ∧ x < y ∧ y ≤ 64 ∧ (∀ j, x < j → j < y → jN (B q) j = 1) ∧ (y = 64 ∨ jN (B q) y = 0) ∧ (0 ≤ q ∧ q < 16 ∧ v q 2 = 1) ∧ r = some (.int (iI (10000 * x + 100 * (y - x) + B q x % 100)))) (fun E => E = "java/lang/IndexOutOfBoundsException" ∧ (¬ (0 ≤ q ∧ q < 16 ∧ v q 2 = 1) ∨ (0 ≤ q ∧ q < 16 ∧ v q 2 = 1) ∧ ∀ j, 0 ≤ j → j < 64 → ¬ (bE (B q) j = 1 ∧ sI (bE (B q)) 0 j = k))) := by
  refine Mt.of (cc := cX4_extent) (ret := (some .int)) (maxL := 5) (by decide) rfl (by intro v hv; simp at hv; rcases hv with rfl | rfl | rfl <;> rfl) (Nat.le_of_ble_eq_true rfl) ?_ hl
  intro p e s m args below meth c C htab hret hname Q hQ
  obtain ⟨hb, hg, ht, har, hfl, hdj⟩ := id hW
  obtain ⟨hi1, hi2, hi3, hi4⟩ := id hI
  refine gd_aload_n C dX4_extent_0 rfl ?_
  refine gd_iload_n C dX4_extent_1 rfl ?_
  refine gd_callV (n := 1) (ci := 4) (Cn := RX4) (T := TX4) (N := 5) C (kX4_requireContent hl hW hI (q := q) ?_) ?_ rfl gX4_extent_X4_requireContent rfl ⟨rfl, by decide, by decide, by decide +kernel⟩ rfl rfl (Nat.le_of_ble_eq_true rfl) rfl dX4_extent_2 ⟨⟨by decide, by decide⟩, by decide, by decide⟩ (fun E h => gx_out C hQ htab (⟨h.1, Or.inl h.2⟩) (by decide) (by decide)) ?_
  · omega
  · exact ⟨_, by first | assumption | exact wU_s _ _ _ | exact look1 (by assumption) (by assumption) | exact look2 (by assumption) (by assumption)⟩
  rintro _ _ ⟨rfl, rfl, hq1, hq2, hq3⟩
  have hfi := hi2 q hq1 hq2
  unfold FI at hfi
  have hfq := hfl q hq1 hq2
  refine gd_astore_n C dX4_extent_5 (Nat.le_of_ble_eq_true rfl) ?_
  refine gd_aload_n C dX4_extent_6 rfl ?_
  refine gd_iload_n C dX4_extent_7 rfl ?_
  refine gd_callVN (n := 1) (ci := 0) (Cn := RX0) (T := TX0) (N := 11) (host := RX4) C (kX0_beginOfExtent hl hfq.1 hfq.2 hfi.2.2.2.2.2.2.2.2.2 (k := k) ?_) ?_ rfl gX4_extent_X0_beginOfExtent_n181 rfl (by decide +kernel) (by decide +kernel) (by decide +kernel) (by decide +kernel) ⟨by decide, by decide, by decide +kernel⟩ rfl rfl (Nat.le_of_ble_eq_true rfl) rfl dX4_extent_8 ⟨⟨by decide, by decide⟩, by decide, by decide⟩ (fun _ h => h.elim) ?_
  · omega
  · exact ⟨_, by exact hfq.1⟩
  rintro _ _ ⟨x, rfl, rfl, hx⟩
  have hBx := hfi.2.2.2.2.2.2.2.2.2 x
  refine gd_istore C dX4_extent_11 (Nat.le_of_ble_eq_true rfl) ?_
  refine gd_iload C dX4_extent_13 rfl ?_
  refine gd_if_lt (tgt := 25) C dX4_extent_15 (by decide) ?_ (fun hc15 => ?_) (fun hc15 => ?_)
  · omega
  · refine gd_throw (cls := "java/lang/IndexOutOfBoundsException") (text := "there is no such extent") (ik := 160) (is := 184) (ic := 164) C hQ htab (by decide +kernel) (by decide +kernel) (by decide +kernel) (by decide +kernel) (by decide +kernel) (by decide +kernel) (by decide +kernel) dX4_extent_25 dX4_extent_28 dX4_extent_29 dX4_extent_31 dX4_extent_34 rfl ?_ ⟨⟨by decide, Nat.le_of_ble_eq_true rfl, by decide, by decide⟩, by decide, by decide⟩
    · exact ⟨rfl, Or.inr ⟨⟨hq1, hq2, hq3⟩, fun j h1 h2 => by
        rcases hx with hx | hx
        · omega
        · exact hx.2 j h1 h2⟩⟩
  · refine gd_iload C dX4_extent_18 rfl ?_
    refine gd_bipush C dX4_extent_20 (by decide) ?_
    refine gd_icmp_lt (tgt := 35) C dX4_extent_22 (by decide) ?_ ?_ (fun hc22 => ?_) (fun hc22 => ?_)
    · omega
    · omega
    · refine gd_sipush C dX4_extent_35 (by decide) ?_
      refine gd_iload C dX4_extent_38 rfl ?_
      refine gd_imul C dX4_extent_40 ?_
      refine gd_bipush C dX4_extent_41 (by decide) ?_
      refine gd_aload_n C dX4_extent_43 rfl ?_
      refine gd_iload C dX4_extent_44 rfl ?_
      refine gd_callVN (n := 1) (ci := 0) (Cn := RX0) (T := TX0) (N := 11) (host := RX4) C (kX0_lengthOfExtent hl hfq.1 hfq.2 hfi.2.2.2.2.2.2.2.2.2 (a := x) ?_) ?_ rfl gX4_extent_X0_lengthOfExtent_n186 rfl (by decide +kernel) (by decide +kernel) (by decide +kernel) (by decide +kernel) ⟨by decide, by decide, by decide +kernel⟩ rfl rfl (Nat.le_of_ble_eq_true rfl) rfl dX4_extent_46 ⟨⟨by decide, by decide⟩, by decide, by decide⟩ (fun _ h => h.elim) ?_
      · omega
      · exact ⟨_, by exact hfq.1⟩
      rintro _ _ ⟨y, rfl, rfl, hy1, hy2, hy3, hy4⟩
      have hbx : bE (B q) x = 1 := by omega
      have hbx0 : 0 ≤ B q x := by
        unfold bE at hbx
        split at hbx
        · omega
        · omega
      refine gd_imul C dX4_extent_49 ?_
      refine gd_iadd C dX4_extent_50 ?_
      refine gd_aload_n C dX4_extent_51 rfl ?_
      apply gd_getN (host := RX4) (ci := 0) (Cn := RX0) (T := TX0) (N := 11) (ref := RX0) C rfl (by decide +kernel) 1 (by decide) (by decide +kernel) rfl dX4_extent_52
      · exact hfq.1
      · rfl
      refine gd_iload C dX4_extent_55 rfl ?_
      apply gd_iald C dX4_extent_57
      · exact hfq.2
      · decide
      · omega
      refine gd_bipush C dX4_extent_58 (by decide) ?_
      refine gd_irem C dX4_extent_60 ?_ ?_
      · omega
      refine gd_iadd C dX4_extent_61 ?_
      refine gd_iret C hQ hret dX4_extent_62 ?_ ?_
      · exact ⟨x, y, rfl, by omega, by omega, hbx, by omega, hy1, hy2, hy3, hy4, by omega, rfl⟩
      · decide
    · refine gd_throw (cls := "java/lang/IndexOutOfBoundsException") (text := "there is no such extent") (ik := 160) (is := 184) (ic := 164) C hQ htab (by decide +kernel) (by decide +kernel) (by decide +kernel) (by decide +kernel) (by decide +kernel) (by decide +kernel) (by decide +kernel) dX4_extent_25 dX4_extent_28 dX4_extent_29 dX4_extent_31 dX4_extent_34 rfl ?_ ⟨⟨by decide, Nat.le_of_ble_eq_true rfl, by decide, by decide⟩, by decide, by decide⟩
      · exact ⟨rfl, Or.inr ⟨⟨hq1, hq2, hq3⟩, fun j h1 h2 => by
          rcases hx with hx | hx
          · omega
          · exact hx.2 j h1 h2⟩⟩

set_option maxRecDepth 100000 in
set_option maxHeartbeats 4000000 in
theorem kX4_requireFileWith {l : Launch} {D : va_G} {ky : Nat → ClassId} {z : Nat} {w : WT} (hl : l.stackTraces = false) {b g t ar d : Nat} {ac ab : Int → Nat} {T : Int → Int} {v B : Int → Int → Int} {sc dn : Int} (hW : CW w ky b g t ar d ac ab T v B sc dn) (hI : CI T v B sc dn) {la na fa : Int → Nat} {n : Int} {lo co ct : Int → Int} {nm fl : Int → Int → Int} (hD : DW w ky d la na fa n lo co ct nm fl) (hR : DR n lo co ct nm fl) {q : Int} (hq : 0 ≤ q ∧ q ≤ 999) : Mt l D ky z yX4_requireFileWith wsX4_requireFileWith { frames := 6, cells := 1, slots := 6, locals := 90 } [.ref b, .int (iI q)] w (fun r w' => w = w' ∧ r = some (.int (iI (dF n lo co ct nm fl q))) ∧ 0 ≤ dF n lo co ct nm fl q) (fun E => E = "java/lang/IllegalStateException" ∧ dF n lo co ct nm fl q = -1) := by
  refine Mt.of (cc := cX4_requireFileWith) (ret := (some .int)) (maxL := 3) (by decide) rfl (by intro v hv; simp at hv; rcases hv with rfl | rfl <;> rfl) (Nat.le_of_ble_eq_true rfl) ?_ hl
  intro p e s m args below meth c C htab hret hname Q hQ
  obtain ⟨hb, hg, ht, har, hfl, hdj⟩ := id hW
  obtain ⟨hi1, hi2, hi3, hi4⟩ := id hI
  refine gd_aload_n C dX4_requireFileWith_0 rfl ?_
  apply gd_get (ci := 4) (Cn := RX4) (T := TX4) (N := 5) (ref := RX4) C rfl (by decide +kernel) 1 (by decide) (by decide +kernel) rfl dX4_requireFileWith_1
  · first | assumption | exact (hfl _ (by omega) (by omega)).1 | exact (hfl _ (by omega) (by omega)).2 | exact wU_s _ _ _
  · rfl
  refine gd_iload_n C dX4_requireFileWith_4 rfl ?_
  refine gd_callVN (n := 1) (ci := 1) (Cn := RX1) (T := TX1) (N := 2) (host := RX4) C (kX1_fileWith hl hD hR (q := q) hq) ?_ rfl gX4_requireFileWith_X1_fileWith_n50 rfl (by decide +kernel) (by decide +kernel) (by decide +kernel) (by decide +kernel) ⟨by decide, by decide, by decide +kernel⟩ rfl rfl (Nat.le_of_ble_eq_true rfl) rfl dX4_requireFileWith_5 ⟨⟨by decide, by decide⟩, by decide, by decide⟩ (fun _ h => h.elim) ?_
  · exact ⟨_, by exact hD.1⟩
  rintro _ _ ⟨rfl, rfl⟩
  have hdF := dF_bd hR q
  unfold dF at hdF
  refine gd_istore_n C dX4_requireFileWith_8 (Nat.le_of_ble_eq_true rfl) ?_
  refine gd_iload_n C dX4_requireFileWith_9 rfl ?_
  refine gd_if_lt (tgt := 19) C dX4_requireFileWith_10 (by decide) ?_ (fun hc10 => ?_) (fun hc10 => ?_)
  · omega
  · refine gd_throw (cls := "java/lang/IllegalStateException") (text := "there is no such name") (ik := 58) (is := 204) (ic := 62) C hQ htab (by decide +kernel) (by decide +kernel) (by decide +kernel) (by decide +kernel) (by decide +kernel) (by decide +kernel) (by decide +kernel) dX4_requireFileWith_19 dX4_requireFileWith_22 dX4_requireFileWith_23 dX4_requireFileWith_25 dX4_requireFileWith_28 rfl ?_ ⟨⟨by decide, Nat.le_of_ble_eq_true rfl, by decide, by decide⟩, by decide, by decide⟩
    · exact ⟨rfl, by unfold dF; omega⟩
  · refine gd_iload_n C dX4_requireFileWith_13 rfl ?_
    refine gd_bipush C dX4_requireFileWith_14 (by decide) ?_
    refine gd_icmp_lt (tgt := 29) C dX4_requireFileWith_16 (by decide) ?_ ?_ (fun hc16 => ?_) (fun hc16 => ?_)
    · omega
    · omega
    · refine gd_iload_n C dX4_requireFileWith_29 rfl ?_
      refine gd_iret C hQ hret dX4_requireFileWith_30 ?_ ?_
      · exact ⟨rfl, rfl, by unfold dF; omega⟩
      · decide
    · refine gd_throw (cls := "java/lang/IllegalStateException") (text := "there is no such name") (ik := 58) (is := 204) (ic := 62) C hQ htab (by decide +kernel) (by decide +kernel) (by decide +kernel) (by decide +kernel) (by decide +kernel) (by decide +kernel) (by decide +kernel) dX4_requireFileWith_19 dX4_requireFileWith_22 dX4_requireFileWith_23 dX4_requireFileWith_25 dX4_requireFileWith_28 rfl ?_ ⟨⟨by decide, Nat.le_of_ble_eq_true rfl, by decide, by decide⟩, by decide, by decide⟩
      · exact ⟨rfl, by unfold dF; omega⟩

set_option maxRecDepth 100000 in
set_option maxHeartbeats 4000000 in
theorem kX4_fileOf {l : Launch} {D : va_G} {ky : Nat → ClassId} {z : Nat} {w : WT} (hl : l.stackTraces = false) {b g t ar d : Nat} {ac ab : Int → Nat} {T : Int → Int} {v B : Int → Int → Int} {sc dn : Int} (hW : CW w ky b g t ar d ac ab T v B sc dn) (hI : CI T v B sc dn) {la na fa : Int → Nat} {n : Int} {lo co ct : Int → Int} {nm fl : Int → Int → Int} (hD : DW w ky d la na fa n lo co ct nm fl) (hR : DR n lo co ct nm fl) {q : Int} (hq : InR q) : Mt l D ky z yX4_fileOf wsX4_fileOf { frames := 8, cells := 1, slots := 6, locals := 132 } [.ref b, .int (iI q)] w (fun r w' => w = w' ∧ r = some (.int (iI (dF n lo co ct nm fl q))) ∧ 0 ≤ q ∧ q ≤ 999) (fun E => E = "java/lang/IllegalArgumentException" ∧ ¬ (0 ≤ q ∧ q ≤ 999)) := by
  refine Mt.of (cc := cX4_fileOf) (ret := (some .int)) (maxL := 2) (by decide) rfl (by intro v hv; simp at hv; rcases hv with rfl | rfl <;> rfl) (Nat.le_of_ble_eq_true rfl) ?_ hl
  intro p e s m args below meth c C htab hret hname Q hQ
  obtain ⟨hb, hg, ht, har, hfl, hdj⟩ := id hW
  obtain ⟨hi1, hi2, hi3, hi4⟩ := id hI
  refine gd_iload_n C dX4_fileOf_0 rfl ?_
  refine gd_callS (n := 1) C (kX4_requireName hl (q := q) ?_) gX4_fileOf_X4_requireName rfl ⟨by decide, by decide, by decide +kernel⟩ rfl rfl (Nat.le_of_ble_eq_true rfl) rfl dX4_fileOf_1 ⟨⟨by decide, by decide⟩, by decide, by decide⟩ (fun E h => gx_out C hQ htab (⟨h.1, h.2⟩) (by decide) (by decide)) ?_
  · omega
  rintro _ _ ⟨rfl, rfl, hn1, hn2⟩
  refine gd_aload_n C dX4_fileOf_4 rfl ?_
  apply gd_get (ci := 4) (Cn := RX4) (T := TX4) (N := 5) (ref := RX4) C rfl (by decide +kernel) 1 (by decide) (by decide +kernel) rfl dX4_fileOf_5
  · first | assumption | exact (hfl _ (by omega) (by omega)).1 | exact (hfl _ (by omega) (by omega)).2 | exact wU_s _ _ _
  · rfl
  refine gd_iload_n C dX4_fileOf_8 rfl ?_
  refine gd_callVN (n := 1) (ci := 1) (Cn := RX1) (T := TX1) (N := 2) (host := RX4) C (kX1_fileWith hl hD hR (q := q) ⟨hn1, hn2⟩) ?_ rfl gX4_fileOf_X1_fileWith_n50 rfl (by decide +kernel) (by decide +kernel) (by decide +kernel) (by decide +kernel) ⟨by decide, by decide, by decide +kernel⟩ rfl rfl (Nat.le_of_ble_eq_true rfl) rfl dX4_fileOf_9 ⟨⟨by decide, by decide⟩, by decide, by decide⟩ (fun _ h => h.elim) ?_
  · exact ⟨_, by exact hD.1⟩
  rintro _ _ ⟨rfl, rfl⟩
  refine gd_iret C hQ hret dX4_fileOf_12 ?_ ?_
  · exact ⟨rfl, rfl, hn1, hn2⟩
  · decide

set_option maxRecDepth 100000 in
set_option maxHeartbeats 4000000 in
theorem kX4_looks {l : Launch} {D : va_G} {ky : Nat → ClassId} {z : Nat} {w : WT} (hl : l.stackTraces = false) {b g t ar d : Nat} {ac ab : Int → Nat} {T : Int → Int} {v B : Int → Int → Int} {sc dn : Int} (hW : CW w ky b g t ar d ac ab T v B sc dn) (hI : CI T v B sc dn) {la na fa : Int → Nat} {n : Int} {lo co ct : Int → Int} {nm fl : Int → Int → Int} (hD : DW w ky d la na fa n lo co ct nm fl) (hR : DR n lo co ct nm fl) {q : Int} (hq : InR q) : Mt l D ky z yX4_looks wsX4_looks { frames := 8, cells := 1, slots := 6, locals := 132 } [.ref b, .int (iI q)] w (fun r w' => w = w' ∧ r = some (.int (iI (lLk n lo co ct nm q - fLk n lo co q + 1))) ∧ 0 ≤ q ∧ q ≤ 999) (fun E => E = "java/lang/IllegalArgumentException" ∧ ¬ (0 ≤ q ∧ q ≤ 999)) := by
  refine Mt.of (cc := cX4_looks) (ret := (some .int)) (maxL := 2) (by decide) rfl (by intro v hv; simp at hv; rcases hv with rfl | rfl <;> rfl) (Nat.le_of_ble_eq_true rfl) ?_ hl
  intro p e s m args below meth c C htab hret hname Q hQ
  obtain ⟨hb, hg, ht, har, hfl, hdj⟩ := id hW
  obtain ⟨hi1, hi2, hi3, hi4⟩ := id hI
  refine gd_iload_n C dX4_looks_0 rfl ?_
  refine gd_callS (n := 1) C (kX4_requireName hl (q := q) ?_) gX4_looks_X4_requireName rfl ⟨by decide, by decide, by decide +kernel⟩ rfl rfl (Nat.le_of_ble_eq_true rfl) rfl dX4_looks_1 ⟨⟨by decide, by decide⟩, by decide, by decide⟩ (fun E h => gx_out C hQ htab (⟨h.1, h.2⟩) (by decide) (by decide)) ?_
  · omega
  rintro _ _ ⟨rfl, rfl, hn1, hn2⟩
  refine gd_aload_n C dX4_looks_4 rfl ?_
  apply gd_get (ci := 4) (Cn := RX4) (T := TX4) (N := 5) (ref := RX4) C rfl (by decide +kernel) 1 (by decide) (by decide +kernel) rfl dX4_looks_5
  · first | assumption | exact (hfl _ (by omega) (by omega)).1 | exact (hfl _ (by omega) (by omega)).2 | exact wU_s _ _ _
  · rfl
  refine gd_iload_n C dX4_looks_8 rfl ?_
  refine gd_callVN (n := 1) (ci := 1) (Cn := RX1) (T := TX1) (N := 2) (host := RX4) C (kX1_countLooks hl hD hR (q := q) ⟨hn1, hn2⟩) ?_ rfl gX4_looks_X1_countLooks_n192 rfl (by decide +kernel) (by decide +kernel) (by decide +kernel) (by decide +kernel) ⟨by decide, by decide, by decide +kernel⟩ rfl rfl (Nat.le_of_ble_eq_true rfl) rfl dX4_looks_9 ⟨⟨by decide, by decide⟩, by decide, by decide⟩ (fun _ h => h.elim) ?_
  · exact ⟨_, by exact hD.1⟩
  rintro _ _ ⟨rfl, rfl⟩
  refine gd_iret C hQ hret dX4_looks_12 ?_ ?_
  · exact ⟨rfl, rfl, hn1, hn2⟩
  · decide

set_option maxRecDepth 100000 in
set_option maxHeartbeats 4000000 in
theorem kX4_leaves {l : Launch} {D : va_G} {ky : Nat → ClassId} {z : Nat} {w : WT} (hl : l.stackTraces = false) {b g t ar d : Nat} {ac ab : Int → Nat} {T : Int → Int} {v B : Int → Int → Int} {sc dn : Int} (hW : CW w ky b g t ar d ac ab T v B sc dn) (hI : CI T v B sc dn) {la na fa : Int → Nat} {n : Int} {lo co ct : Int → Int} {nm fl : Int → Int → Int} (hD : DW w ky d la na fa n lo co ct nm fl) (hR : DR n lo co ct nm fl) : Mt l D ky z yX4_leaves wsX4_leaves { frames := 0, cells := 0, slots := 0, locals := 0 } [.ref b] w (fun r w' => w = w' ∧ r = some (.int (iI n))) (fun _ => False) := by
  refine Mt.of (cc := cX4_leaves) (ret := (some .int)) (maxL := 1) (by decide) rfl (by intro v hv; simp at hv; rcases hv with rfl <;> rfl) (Nat.le_of_ble_eq_true rfl) ?_ hl
  intro p e s m args below meth c C htab hret hname Q hQ
  obtain ⟨hb, hg, ht, har, hfl, hdj⟩ := id hW
  obtain ⟨hi1, hi2, hi3, hi4⟩ := id hI
  refine gd_aload_n C dX4_leaves_0 rfl ?_
  apply gd_get (ci := 4) (Cn := RX4) (T := TX4) (N := 5) (ref := RX4) C rfl (by decide +kernel) 1 (by decide) (by decide +kernel) rfl dX4_leaves_1
  · first | assumption | exact (hfl _ (by omega) (by omega)).1 | exact (hfl _ (by omega) (by omega)).2 | exact wU_s _ _ _
  · rfl
  apply gd_getN (host := RX4) (ci := 1) (Cn := RX1) (T := TX1) (N := 2) (ref := RX1) C rfl (by decide +kernel) 1 (by decide) (by decide +kernel) rfl dX4_leaves_4
  · exact hD.1
  · rfl
  refine gd_iret C hQ hret dX4_leaves_7 ?_ ?_
  · exact ⟨rfl, rfl⟩
  · decide

set_option maxRecDepth 100000 in
set_option maxHeartbeats 4000000 in
theorem kX4_crashIsDue {l : Launch} {D : va_G} {ky : Nat → ClassId} {z : Nat} {w : WT} (hl : l.stackTraces = false) {b g t ar d : Nat} {ac ab : Int → Nat} {T : Int → Int} {v B : Int → Int → Int} {sc dn : Int} (hW : CW w ky b g t ar d ac ab T v B sc dn) (hI : CI T v B sc dn) : Mt l D ky z yX4_crashIsDue wsX4_crashIsDue { frames := 0, cells := 0, slots := 0, locals := 0 } [.ref b] w (fun r w' => ∃ x : Int, r = some (.int (iI x)) ∧ CW w' ky b g t ar d ac ab T v B (if sc = -1 then sc else sc - 1) dn ∧ FrC w w' b g t ac ab ∧ (x = 1 ∧ sc = 1 ∨ x = 0 ∧ sc ≠ 1)) (fun _ => False) := by
  refine Mt.of (cc := cX4_crashIsDue) (ret := (some .boolean)) (maxL := 1) (by decide) rfl (by intro v hv; simp at hv; rcases hv with rfl <;> rfl) (Nat.le_of_ble_eq_true rfl) ?_ hl
  intro p e s m args below meth c C htab hret hname Q hQ
  obtain ⟨hb, hg, ht, har, hfl, hdj⟩ := id hW
  obtain ⟨hi1, hi2, hi3, hi4⟩ := id hI
  refine gd_aload_n C dX4_crashIsDue_0 rfl ?_
  apply gd_get (ci := 4) (Cn := RX4) (T := TX4) (N := 5) (ref := RX4) C rfl (by decide +kernel) 3 (by decide) (by decide +kernel) rfl dX4_crashIsDue_1
  · first | assumption | exact (hfl _ (by omega) (by omega)).1 | exact (hfl _ (by omega) (by omega)).2 | exact wU_s _ _ _
  · rfl
  refine gd_iconst C dX4_crashIsDue_4 ?_
  refine gd_icmp_ne (tgt := 10) C dX4_crashIsDue_5 (by decide) ?_ ?_ (fun hc5 => ?_) (fun hc5 => ?_)
  · omega
  · omega
  · refine gd_aload_n C dX4_crashIsDue_10 rfl ?_
    refine gd_dup C dX4_crashIsDue_11 rfl ?_
    apply gd_get (ci := 4) (Cn := RX4) (T := TX4) (N := 5) (ref := RX4) C rfl (by decide +kernel) 3 (by decide) (by decide +kernel) rfl dX4_crashIsDue_12
    · first | assumption | exact (hfl _ (by omega) (by omega)).1 | exact (hfl _ (by omega) (by omega)).2 | exact wU_s _ _ _
    · rfl
    refine gd_iconst C dX4_crashIsDue_15 ?_
    refine gd_isub C dX4_crashIsDue_16 ?_
    apply gd_put (ci := 4) (Cn := RX4) (T := TX4) (N := 5) (ref := RX4) C rfl (by decide +kernel) tyX4 tyX4_ok nmX4 3 (by decide) (by decide +kernel) rfl rfl dX4_crashIsDue_17
    · first | assumption | exact (hfl _ (by omega) (by omega)).1 | exact (hfl _ (by omega) (by omega)).2 | exact wU_s _ _ _
    · rfl
    · rfl
    · exact Nat.le_of_ble_eq_true rfl
    refine gd_aload_n C dX4_crashIsDue_20 rfl ?_
    apply gd_get (ci := 4) (Cn := RX4) (T := TX4) (N := 5) (ref := RX4) C rfl (by decide +kernel) 3 (by decide) (by decide +kernel) rfl dX4_crashIsDue_21
    · first | assumption | exact (hfl _ (by omega) (by omega)).1 | exact (hfl _ (by omega) (by omega)).2 | exact wU_s _ _ _
    · rfl
    refine gd_if_ne (tgt := 31) C dX4_crashIsDue_24 (by decide) ?_ (fun hc24 => ?_) (fun hc24 => ?_)
    · omega
    · refine gd_iconst C dX4_crashIsDue_31 ?_
      refine gd_zret C hQ hret ?_ dX4_crashIsDue_32 ?_ ?_
      · omega
      · obtain ⟨hW1, hF1⟩ := hW.setO (sc' := sc - 1) (dn' := dn) (wU_s _ _ _) (fun y h => wU_n h)
        first
          | exact ⟨1, rfl, by rw [show (if sc = -1 then sc else sc - 1) = sc - 1 by rw [if_neg (by omega)]]; exact hW1, hF1, Or.inl ⟨rfl, by omega⟩⟩
          | exact ⟨0, rfl, by rw [show (if sc = -1 then sc else sc - 1) = sc - 1 by rw [if_neg (by omega)]]; exact hW1, hF1, Or.inr ⟨rfl, by omega⟩⟩
      · decide
    · refine gd_iconst C dX4_crashIsDue_27 ?_
      refine gd_goto (tgt := 32) C dX4_crashIsDue_28 (by decide) ?_
      refine gd_zret C hQ hret ?_ dX4_crashIsDue_32 ?_ ?_
      · omega
      · obtain ⟨hW1, hF1⟩ := hW.setO (sc' := sc - 1) (dn' := dn) (wU_s _ _ _) (fun y h => wU_n h)
        first
          | exact ⟨1, rfl, by rw [show (if sc = -1 then sc else sc - 1) = sc - 1 by rw [if_neg (by omega)]]; exact hW1, hF1, Or.inl ⟨rfl, by omega⟩⟩
          | exact ⟨0, rfl, by rw [show (if sc = -1 then sc else sc - 1) = sc - 1 by rw [if_neg (by omega)]]; exact hW1, hF1, Or.inr ⟨rfl, by omega⟩⟩
      · decide
  · refine gd_iconst C dX4_crashIsDue_8 ?_
    refine gd_zret C hQ hret ?_ dX4_crashIsDue_9 ?_ ?_
    · omega
    · exact ⟨0, rfl, by rw [show (if sc = -1 then sc else sc - 1) = sc by rw [if_pos (by omega)]]; exact hW, FrC.rf _ _ _ _ _ _, Or.inr ⟨rfl, by omega⟩⟩
    · decide
