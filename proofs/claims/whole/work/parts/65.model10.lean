set_option maxRecDepth 100000 in
set_option maxHeartbeats 4000000 in
theorem kX5_hash {l : Launch} {D : va_G} {ky : Nat → ClassId} {z : Nat} {w : WT} (hl : l.stackTraces = false) {q : Int} (hq : 0 ≤ q ∧ q ≤ 999) : Mt l D ky z yX5_hash wsX5_hash { frames := 0, cells := 0, slots := 0, locals := 0 } [.int (iI q)] w (fun r w' => w = w' ∧ r = some (.int (iI (hs q)))) (fun _ => False) := by
  refine Mt.of (cc := cX5_hash) (ret := (some .int)) (maxL := 1) (by decide) rfl (by intro v hv; simp at hv; rcases hv with rfl <;> rfl) (Nat.le_of_ble_eq_true rfl) ?_ hl
  intro p e s m args below meth c C htab hret hname Q hQ
  refine gd_iconst C dX5_hash_0 ?_
  refine gd_iload_n C dX5_hash_1 rfl ?_
  refine gd_imul C dX5_hash_2 ?_
  refine gd_bipush C dX5_hash_3 (by decide) ?_
  refine gd_irem C dX5_hash_5 ?_ ?_
  · omega
  refine gd_iret C hQ hret dX5_hash_6 ?_ ?_
  · exact ⟨rfl, rfl⟩
  · decide

set_option maxRecDepth 100000 in
set_option maxHeartbeats 4000000 in
theorem kX5_isAhead {l : Launch} {D : va_G} {ky : Nat → ClassId} {z : Nat} {w : WT} (hl : l.stackTraces = false) {q x : Int} (hq : 0 ≤ q ∧ q ≤ 999) (hx : 0 ≤ x ∧ x ≤ 999) : Mt l D ky z yX5_isAhead wsX5_isAhead { frames := 1, cells := 0, slots := 0, locals := 20 } [.int (iI q), .int (iI x)] w (fun r w' => ∃ b : Int, w = w' ∧ r = some (.int (iI b)) ∧ (b = 1 ∧ (rk q < rk x) ∨ b = 0 ∧ ¬ (rk q < rk x))) (fun _ => False) := by
  refine Mt.of (cc := cX5_isAhead) (ret := (some .boolean)) (maxL := 2) (by decide) rfl (by intro v hv; simp at hv; rcases hv with rfl | rfl <;> rfl) (Nat.le_of_ble_eq_true rfl) ?_ hl
  intro p e s m args below meth c C htab hret hname Q hQ
  have hb1 := hs_bd q
  have hb2 := hs_bd x
  have hr1 : rk q = hs q * 1000 + q := rfl
  have hr2 : rk x = hs x * 1000 + x := rfl
  refine gd_iload_n C dX5_isAhead_0 rfl ?_
  refine gd_callS (n := 1) C (kX5_hash hl (q := q) ?_) gX5_isAhead_X5_hash rfl ⟨by decide, by decide, by decide +kernel⟩ rfl rfl (Nat.le_of_ble_eq_true rfl) rfl dX5_isAhead_1 ⟨⟨by decide, by decide⟩, by decide, by decide⟩ (fun _ h => h.elim) ?_
  · omega
  rintro _ _ ⟨rfl, rfl⟩
  refine gd_iload_n C dX5_isAhead_4 rfl ?_
  refine gd_callS (n := 1) C (kX5_hash hl (q := x) ?_) gX5_isAhead_X5_hash rfl ⟨by decide, by decide, by decide +kernel⟩ rfl rfl (Nat.le_of_ble_eq_true rfl) rfl dX5_isAhead_5 ⟨⟨by decide, by decide⟩, by decide, by decide⟩ (fun _ h => h.elim) ?_
  · omega
  rintro _ _ ⟨rfl, rfl⟩
  refine gd_icmp_lt (tgt := 27) C dX5_isAhead_8 (by decide) ?_ ?_ (fun hc8 => ?_) (fun hc8 => ?_)
  · omega
  · omega
  · refine gd_iconst C dX5_isAhead_27 ?_
    refine gd_goto (tgt := 32) C dX5_isAhead_28 (by decide) ?_
    refine gd_zret C hQ hret ?_ dX5_isAhead_32 ?_ ?_
    · omega
    · exact ⟨_, rfl, rfl, by omega⟩
    · decide
  · refine gd_iload_n C dX5_isAhead_11 rfl ?_
    refine gd_callS (n := 1) C (kX5_hash hl (q := q) ?_) gX5_isAhead_X5_hash rfl ⟨by decide, by decide, by decide +kernel⟩ rfl rfl (Nat.le_of_ble_eq_true rfl) rfl dX5_isAhead_12 ⟨⟨by decide, by decide⟩, by decide, by decide⟩ (fun _ h => h.elim) ?_
    · omega
    rintro _ _ ⟨rfl, rfl⟩
    refine gd_iload_n C dX5_isAhead_15 rfl ?_
    refine gd_callS (n := 1) C (kX5_hash hl (q := x) ?_) gX5_isAhead_X5_hash rfl ⟨by decide, by decide, by decide +kernel⟩ rfl rfl (Nat.le_of_ble_eq_true rfl) rfl dX5_isAhead_16 ⟨⟨by decide, by decide⟩, by decide, by decide⟩ (fun _ h => h.elim) ?_
    · omega
    rintro _ _ ⟨rfl, rfl⟩
    refine gd_icmp_ne (tgt := 31) C dX5_isAhead_19 (by decide) ?_ ?_ (fun hc19 => ?_) (fun hc19 => ?_)
    · omega
    · omega
    · refine gd_iconst C dX5_isAhead_31 ?_
      refine gd_zret C hQ hret ?_ dX5_isAhead_32 ?_ ?_
      · omega
      · exact ⟨_, rfl, rfl, by omega⟩
      · decide
    · refine gd_iload_n C dX5_isAhead_22 rfl ?_
      refine gd_iload_n C dX5_isAhead_23 rfl ?_
      refine gd_icmp_ge (tgt := 31) C dX5_isAhead_24 (by decide) ?_ ?_ (fun hc24 => ?_) (fun hc24 => ?_)
      · omega
      · omega
      · refine gd_iconst C dX5_isAhead_31 ?_
        refine gd_zret C hQ hret ?_ dX5_isAhead_32 ?_ ?_
        · omega
        · exact ⟨_, rfl, rfl, by omega⟩
        · decide
      · refine gd_iconst C dX5_isAhead_27 ?_
        refine gd_goto (tgt := 32) C dX5_isAhead_28 (by decide) ?_
        refine gd_zret C hQ hret ?_ dX5_isAhead_32 ?_ ?_
        · omega
        · exact ⟨_, rfl, rfl, by omega⟩
        · decide

set_option maxRecDepth 100000 in
set_option maxHeartbeats 4000000 in
theorem kX5_lastLeaf {l : Launch} {D : va_G} {ky : Nat → ClassId} {z : Nat} {w : WT} (hl : l.stackTraces = false) {o : Nat} {A : Nat → Nat} {F : Nat → Int → Int} {G : Nat → Int} (hM : MW w ky o A F G) {n : Int} {lo co ct : Int → Int} {nm fl : Int → Int → Int} (hN : RNM F G n lo co ct nm) (hD : DR n lo co ct nm fl) (hn3 : n ≤ 300) (hlo0 : lo 0 = 0) (hco0 : co 0 = 0) {h : Int} (hh : 0 ≤ h ∧ h ≤ 15) : Mt l D ky z yX5_lastLeaf wsX5_lastLeaf { frames := 0, cells := 0, slots := 0, locals := 0 } [.ref o, .int (iI h)] w (fun r w' => w = w' ∧ r = some (.int (iI (lL lo n h)))) (fun _ => False) := by
  refine Mt.of (cc := cX5_lastLeaf) (ret := (some .int)) (maxL := 3) (by decide) rfl (by intro v hv; simp at hv; rcases hv with rfl | rfl <;> rfl) (Nat.le_of_ble_eq_true rfl) ?_ hl
  intro p e s m args below meth c C htab hret hname Q hQ
  have hMv := hM.V
  obtain ⟨hN1, hN2⟩ := id hN
  obtain ⟨hD1, hD2, hD3, hD4, hD5, hD6⟩ := id hD
  refine gd_aload_n C dX5_lastLeaf_0 rfl ?_
  refine gm_get C hMv (by decide +kernel) 14 (by decide) (by decide +kernel) rfl dX5_lastLeaf_1 rfl ?_
  refine gd_iconst C dX5_lastLeaf_4 ?_
  refine gd_isub C dX5_lastLeaf_5 ?_
  refine gd_istore_n C dX5_lastLeaf_6 (Nat.le_of_ble_eq_true rfl) ?_
  suffices hloop : ∀ (n9 : Nat) (i : Int), 0 ≤ i → i < n → i.toNat = n9 → lL lo n h = lL lo (i + 1) h → Gd p l e ({ frames := 0, cells := 0, slots := 0, locals := 0 }) s m args below meth c D z Q 0 0 w 7 [some (.ref o), some (.int (iI h)), some (.int (iI i))] [] from by
    rw [hN1]
    exact hloop _ (n - 1) (by omega) (by omega) rfl (by rw [show n - 1 + 1 = n by omega])
  intro n9
  induction n9 using Nat.strongRecOn with
  | _ n9 ih =>
  intro i h1i h2i hn hl1
  obtain ⟨hA, hB, hC, hP⟩ := hN2 i h1i h2i
  have hlo := hD2 i
  have hi0 : i = 0 → lo i ≤ h := fun e => by rw [e, hlo0]; exact hh.1
  rw [lL_s h1i] at hl1
  refine gd_aload_n C dX5_lastLeaf_7 rfl ?_
  refine gm_get C hMv (by decide +kernel) 10 (by decide) (by decide +kernel) rfl dX5_lastLeaf_8 rfl ?_
  refine gd_iload_n C dX5_lastLeaf_11 rfl ?_
  refine gd_iald C dX5_lastLeaf_12 hMv.a10 (by decide) ?_ ?_
  · omega
  refine gd_iload_n C dX5_lastLeaf_13 rfl ?_
  refine gd_icmp_le (tgt := 23) C dX5_lastLeaf_14 (by decide) ?_ ?_ (fun hc14 => ?_) (fun hc14 => ?_)
  · omega
  · omega
  · refine gd_iload_n C dX5_lastLeaf_23 rfl ?_
    refine gd_iret C hQ hret dX5_lastLeaf_24 ?_ ?_
    · exact ⟨rfl, by rw [hl1, if_pos (by omega)]⟩
    · decide
  · refine gd_iinc C dX5_lastLeaf_17 rfl ?_
    refine gd_goto (tgt := 7) C dX5_lastLeaf_20 (by decide) ?_
    exact ih _ (by omega) (i + -1) (by omega) (by omega) rfl (by rw [hl1, if_neg (by omega), show i + -1 + 1 = i by omega])

set_option maxRecDepth 100000 in
set_option maxHeartbeats 4000000 in
theorem kX5_begins {l : Launch} {D : va_G} {ky : Nat → ClassId} {z : Nat} {w : WT} (hl : l.stackTraces = false) {o : Nat} {A : Nat → Nat} {F : Nat → Int → Int} {G : Nat → Int} (hM : MW w ky o A F G) {n : Int} {lo co ct : Int → Int} {nm fl : Int → Int → Int} (hN : RNM F G n lo co ct nm) (hD : DR n lo co ct nm fl) (hn3 : n ≤ 300) (hlo0 : lo 0 = 0) (hco0 : co 0 = 0) {q : Int} (hq : 0 ≤ q ∧ q ≤ 999) : Mt l D ky z yX5_begins wsX5_begins { frames := 1, cells := 0, slots := 0, locals := 22 } [.ref o, .int (iI q)] w (fun r w' => w = w' ∧ r = some (.int (iI (fLk n lo co q)))) (fun _ => False) := by
  refine Mt.of (cc := cX5_begins) (ret := (some .int)) (maxL := 3) (by decide) rfl (by intro v hv; simp at hv; rcases hv with rfl | rfl <;> rfl) (Nat.le_of_ble_eq_true rfl) ?_ hl
  intro p e s m args below meth c C htab hret hname Q hQ
  have hMv := hM.V
  obtain ⟨hN1, hN2⟩ := id hN
  obtain ⟨hD1, hD2, hD3, hD4, hD5, hD6⟩ := id hD
  refine gd_aload_n C dX5_begins_0 rfl ?_
  refine gd_iload_n C dX5_begins_1 rfl ?_
  refine gd_callS (n := 1) C (kX5_hash hl (q := q) ?_) gX5_begins_X5_hash rfl ⟨by decide, by decide, by decide +kernel⟩ rfl rfl (Nat.le_of_ble_eq_true rfl) rfl dX5_begins_2 ⟨⟨by decide, by decide⟩, by decide, by decide⟩ (fun _ h => h.elim) ?_
  · omega
  rintro _ _ ⟨rfl, rfl⟩
  refine gd_callV (n := 1) (ci := 5) (Cn := RX5) (T := TX5) (N := 18) C (kX5_lastLeaf hl hM hN hD hn3 hlo0 hco0 (h := hs q) ?_) ?_ rfl gX5_begins_X5_lastLeaf rfl ⟨rfl, by decide, by decide, by decide +kernel⟩ rfl rfl (Nat.le_of_ble_eq_true rfl) rfl dX5_begins_5 ⟨⟨by decide, by decide⟩, by decide, by decide⟩ (fun _ h => h.elim) ?_
  · have := hs_bd q; omega
  · exact ⟨_, by exact hMv.ob⟩
  rintro _ _ ⟨rfl, rfl⟩
  have hLb := lL_bd lo (hs q) hD1.1
  have hb1 := hs_bd q
  refine gd_istore_n C dX5_begins_8 (Nat.le_of_ble_eq_true rfl) ?_
  suffices hloop : ∀ (n9 : Nat) (i : Int), 0 ≤ i → i < n → i.toNat = n9 → fLk n lo co q = bK lo co (hs q) i → Gd p l e ({ frames := 1, cells := 0, slots := 0, locals := 22 }) s m args below meth c D z Q 0 0 w 9 [some (.ref o), some (.int (iI q)), some (.int (iI i))] [] from
    hloop _ _ hLb.1 hLb.2 rfl rfl
  intro n9
  induction n9 using Nat.strongRecOn with
  | _ n9 ih =>
  intro i h1i h2i hn hl1
  obtain ⟨hA, hB, hC, hP⟩ := hN2 i h1i h2i
  have hlo := hD2 i
  have hco := hD3 i
  have hi0 : i = 0 → co i = 0 := fun e => by rw [e, hco0]
  refine gd_aload_n C dX5_begins_9 rfl ?_
  refine gm_get C hMv (by decide +kernel) 11 (by decide) (by decide +kernel) rfl dX5_begins_10 rfl ?_
  refine gd_iload_n C dX5_begins_13 rfl ?_
  refine gd_zald C dX5_begins_14 hMv.a11 (by decide) ?_ ?_
  · omega
  refine gd_if_eq (tgt := 37) C dX5_begins_15 (by decide) ?_ (fun hc15 => ?_) (fun hc15 => ?_)
  · omega
  · refine gd_iload_n C dX5_begins_37 rfl ?_
    refine gd_iret C hQ hret dX5_begins_38 ?_ ?_
    · refine ⟨rfl, ?_⟩
      rw [hl1]
      by_cases h0 : i = 0
      · rw [h0, bK_0]
      · rw [bK_f (by omega) (by omega)]
    · decide
  · refine gd_aload_n C dX5_begins_18 rfl ?_
    refine gm_get C hMv (by decide +kernel) 10 (by decide) (by decide +kernel) rfl dX5_begins_19 rfl ?_
    refine gd_iload_n C dX5_begins_22 rfl ?_
    refine gd_iald C dX5_begins_23 hMv.a10 (by decide) ?_ ?_
    · omega
    refine gd_iload_n C dX5_begins_24 rfl ?_
    refine gd_callS (n := 1) C (kX5_hash hl (q := q) ?_) gX5_begins_X5_hash rfl ⟨by decide, by decide, by decide +kernel⟩ rfl rfl (Nat.le_of_ble_eq_true rfl) rfl dX5_begins_25 ⟨⟨by decide, by decide⟩, by decide, by decide⟩ (fun _ h => h.elim) ?_
    · omega
    rintro _ _ ⟨rfl, rfl⟩
    refine gd_icmp_ne (tgt := 37) C dX5_begins_28 (by decide) ?_ ?_ (fun hc28 => ?_) (fun hc28 => ?_)
    · omega
    · omega
    · refine gd_iload_n C dX5_begins_37 rfl ?_
      refine gd_iret C hQ hret dX5_begins_38 ?_ ?_
      · refine ⟨rfl, ?_⟩
        rw [hl1]
        by_cases h0 : i = 0
        · rw [h0, bK_0]
        · rw [bK_f (by omega) (by omega)]
      · decide
    · refine gd_iinc C dX5_begins_31 rfl ?_
      refine gd_goto (tgt := 9) C dX5_begins_34 (by decide) ?_
      exact ih _ (by omega) (i + -1) (by omega) (by omega) rfl (by rw [hl1, bK_t (by omega) ⟨by omega, by omega⟩]; rfl)

set_option maxRecDepth 100000 in
set_option maxHeartbeats 4000000 in
theorem kX5_isIn {l : Launch} {D : va_G} {ky : Nat → ClassId} {z : Nat} {w : WT} (hl : l.stackTraces = false) {o : Nat} {A : Nat → Nat} {F : Nat → Int → Int} {G : Nat → Int} (hM : MW w ky o A F G) {n : Int} {lo co ct : Int → Int} {nm fl : Int → Int → Int} (hN : RNM F G n lo co ct nm) (hD : DR n lo co ct nm fl) (hn3 : n ≤ 300) (hlo0 : lo 0 = 0) (hco0 : co 0 = 0) {i q : Int} (hi : 0 ≤ i ∧ i < n) (hq : InR q) : Mt l D ky z yX5_isIn wsX5_isIn { frames := 0, cells := 0, slots := 0, locals := 0 } [.ref o, .int (iI i), .int (iI q)] w (fun r w' => ∃ b : Int, w = w' ∧ r = some (.int (iI b)) ∧ (b = 1 ∧ (hA ct nm q i) ∨ b = 0 ∧ ¬ (hA ct nm q i))) (fun _ => False) := by
  refine Mt.of (cc := cX5_isIn) (ret := (some .boolean)) (maxL := 5) (by decide) rfl (by intro v hv; simp at hv; rcases hv with rfl | rfl | rfl <;> rfl) (Nat.le_of_ble_eq_true rfl) ?_ hl
  intro p e s m args below meth c C htab hret hname Q hQ
  have hMv := hM.V
  obtain ⟨hN1, hN2⟩ := id hN
  obtain ⟨hD1, hD2, hD3, hD4, hD5, hD6⟩ := id hD
  obtain ⟨hA9, hB9, hC9, hP⟩ := hN2 i hi.1 hi.2
  have hct := hD4 i
  refine gd_iconst C dX5_isIn_0 ?_
  refine gd_istore_n C dX5_isIn_1 (Nat.le_of_ble_eq_true rfl) ?_
  refine gd_iconst C dX5_isIn_2 ?_
  refine gd_istore C dX5_isIn_3 (Nat.le_of_ble_eq_true rfl) ?_
  suffices hloop : ∀ (n9 : Nat) (k x : Int), 0 ≤ k → k ≤ ct i → (ct i - k).toNat = n9 → (x = 1 ∧ (∃ j, 0 ≤ j ∧ j < k ∧ F 12 (4 * i + j) = q) ∨ x = 0 ∧ ¬ (∃ j, 0 ≤ j ∧ j < k ∧ F 12 (4 * i + j) = q)) → Gd p l e ({ frames := 0, cells := 0, slots := 0, locals := 0 }) s m args below meth c D z Q 0 0 w 5 [some (.ref o), some (.int (iI i)), some (.int (iI q)), some (.int (iI x)), some (.int (iI k))] [] from
    hloop _ 0 0 (by omega) (by omega) rfl (Or.inr ⟨rfl, fun ⟨j, j1, j2, _⟩ => by omega⟩)
  intro n9
  induction n9 using Nat.strongRecOn with
  | _ n9 ih =>
  intro k x h1k h2k hn hx
  have hx01 : x = 0 ∨ x = 1 := by rcases hx with h9 | h9 <;> omega
  have hFb : k < ct i → 0 ≤ F 12 (4 * i + k) ∧ F 12 (4 * i + k) ≤ 999 := fun h => by
    obtain ⟨k', a1, a2, a3⟩ := (hP.1 (F 12 (4 * i + k))).mpr ⟨k, h1k, h, rfl⟩
    rw [← a3]
    exact hD5 i k'
  refine gd_iload C dX5_isIn_5 rfl ?_
  refine gd_aload_n C dX5_isIn_7 rfl ?_
  refine gm_get C hMv (by decide +kernel) 13 (by decide) (by decide +kernel) rfl dX5_isIn_8 rfl ?_
  refine gd_iload_n C dX5_isIn_11 rfl ?_
  refine gd_iald C dX5_isIn_12 hMv.a13 (by decide) ?_ ?_
  · omega
  refine gd_icmp_ge (tgt := 47) C dX5_isIn_13 (by decide) ?_ ?_ (fun hc13 => ?_) (fun hc13 => ?_)
  · omega
  · omega
  · refine gd_iload_n C dX5_isIn_47 rfl ?_
    refine gd_zret C hQ hret ?_ dX5_isIn_48 ?_ ?_
    · omega
    · refine ⟨x, rfl, rfl, ?_⟩
      have hk9 : k = ct i := by omega
      subst hk9
      rw [hP.hA]
      exact hx
    · decide
  · replace hFb := hFb (by omega)
    refine gd_iload_n C dX5_isIn_16 rfl ?_
    have hj17 : ∀ x9 : Int, (x9 = 1 ∧ (x = 1 ∨ F 12 (4 * i + k) = q) ∨ x9 = 0 ∧ ¬ (x = 1 ∨ F 12 (4 * i + k) = q)) → Gd p l e ({ frames := 0, cells := 0, slots := 0, locals := 0 }) s m args below meth c D z Q 0 0 w 40 [some (.ref o), some (.int (iI i)), some (.int (iI q)), some (.int (iI x)), some (.int (iI k))] (.int (iI x9) :: []) := by
      intro x9 hvx9
      refine gd_istore_n C dX5_isIn_40 (Nat.le_of_ble_eq_true rfl) ?_
      refine gd_iinc C dX5_isIn_41 rfl ?_
      refine gd_goto (tgt := 5) C dX5_isIn_44 (by decide) ?_
      refine ih _ (by clear hx hvx9; omega) (k + 1) x9 (by clear hx hvx9; omega) (by clear hx hvx9; omega) rfl ?_
      have hiff : (∃ j, 0 ≤ j ∧ j < k + 1 ∧ F 12 (4 * i + j) = q) ↔ (∃ j, 0 ≤ j ∧ j < k ∧ F 12 (4 * i + j) = q) ∨ F 12 (4 * i + k) = q := by
        constructor
        · rintro ⟨j, j1, j2, j3⟩
          by_cases hj : j = k
          · exact Or.inr (by rw [← hj]; exact j3)
          · exact Or.inl ⟨j, j1, by omega, j3⟩
        · rintro (⟨j, j1, j2, j3⟩ | h)
          · exact ⟨j, j1, by omega, j3⟩
          · exact ⟨k, h1k, by omega, h⟩
      rw [hiff]
      rcases hvx9 with ⟨h8, h9⟩ | ⟨h8, h9⟩
      · refine Or.inl ⟨h8, ?_⟩
        rcases h9 with h9 | h9
        · exact Or.inl (hx.resolve_right (fun h7 => by omega)).2
        · exact Or.inr h9
      · refine Or.inr ⟨h8, ?_⟩
        rintro (h7 | h7)
        · exact h9 (Or.inl (hx.resolve_right (fun h6 => h6.2 h7)).1)
        · exact h9 (Or.inr h7)
    refine gd_if_ne (tgt := 35) C dX5_isIn_17 (by decide) ?_ (fun hc17 => ?_) (fun hc17 => ?_)
    · omega
    · refine gd_iconst C dX5_isIn_35 ?_
      refine gd_goto (tgt := 40) C dX5_isIn_36 (by decide) ?_
      exact hj17 _ (by omega)
    · refine gd_aload_n C dX5_isIn_20 rfl ?_
      refine gm_get C hMv (by decide +kernel) 12 (by decide) (by decide +kernel) rfl dX5_isIn_21 rfl ?_
      refine gd_iconst C dX5_isIn_24 ?_
      refine gd_iload_n C dX5_isIn_25 rfl ?_
      refine gd_imul C dX5_isIn_26 ?_
      refine gd_iload C dX5_isIn_27 rfl ?_
      refine gd_iadd C dX5_isIn_29 ?_
      refine gd_iald C dX5_isIn_30 hMv.a12 (by decide) ?_ ?_
      · omega
      refine gd_iload_n C dX5_isIn_31 rfl ?_
      refine gd_icmp_ne (tgt := 39) C dX5_isIn_32 (by decide) ?_ ?_ (fun hc32 => ?_) (fun hc32 => ?_)
      · omega
      · omega
      · refine gd_iconst C dX5_isIn_39 ?_
        exact hj17 _ (by omega)
      · refine gd_iconst C dX5_isIn_35 ?_
        refine gd_goto (tgt := 40) C dX5_isIn_36 (by decide) ?_
        exact hj17 _ (by omega)

set_option maxRecDepth 100000 in
set_option maxHeartbeats 4000000 in
theorem kX5_goesOn {l : Launch} {D : va_G} {ky : Nat → ClassId} {z : Nat} {w : WT} (hl : l.stackTraces = false) {o : Nat} {A : Nat → Nat} {F : Nat → Int → Int} {G : Nat → Int} (hM : MW w ky o A F G) {n : Int} {lo co ct : Int → Int} {nm fl : Int → Int → Int} (hN : RNM F G n lo co ct nm) (hD : DR n lo co ct nm fl) (hn3 : n ≤ 300) (hlo0 : lo 0 = 0) (hco0 : co 0 = 0) {q : Int} (hq : 0 ≤ q ∧ q ≤ 999) {i : Int} (hi : 0 ≤ i ∧ i < n) : Mt l D ky z yX5_goesOn wsX5_goesOn { frames := 1, cells := 0, slots := 0, locals := 24 } [.ref o, .int (iI i), .int (iI q)] w (fun r w' => ∃ b : Int, w = w' ∧ r = some (.int (iI b)) ∧ (b = 1 ∧ (¬ hA ct nm q i ∧ i + 1 < n ∧ co (i + 1) = 1 ∧ lo (i + 1) = hs q) ∨ b = 0 ∧ ¬ (¬ hA ct nm q i ∧ i + 1 < n ∧ co (i + 1) = 1 ∧ lo (i + 1) = hs q))) (fun _ => False) := by
  refine Mt.of (cc := cX5_goesOn) (ret := (some .boolean)) (maxL := 3) (by decide) rfl (by intro v hv; simp at hv; rcases hv with rfl | rfl | rfl <;> rfl) (Nat.le_of_ble_eq_true rfl) ?_ hl
  intro p e s m args below meth c C htab hret hname Q hQ
  have hMv := hM.V
  obtain ⟨hN1, hN2⟩ := id hN
  obtain ⟨hD1, hD2, hD3, hD4, hD5, hD6⟩ := id hD
  refine gd_aload_n C dX5_goesOn_0 rfl ?_
  refine gd_iload_n C dX5_goesOn_1 rfl ?_
  refine gd_iload_n C dX5_goesOn_2 rfl ?_
  refine gd_callV (n := 2) (ci := 5) (Cn := RX5) (T := TX5) (N := 18) C (kX5_isIn hl hM hN hD hn3 hlo0 hco0 (i := i) (q := q) hi ?_) ?_ rfl gX5_goesOn_X5_isIn rfl ⟨rfl, by decide, by decide, by decide +kernel⟩ rfl rfl (Nat.le_of_ble_eq_true rfl) rfl dX5_goesOn_3 ⟨⟨by decide, by decide⟩, by decide, by decide⟩ (fun _ h => h.elim) ?_
  · omega
  · exact ⟨_, by exact hMv.ob⟩
  rintro _ _ ⟨b9, rfl, rfl, hb9⟩
  have hb91 : b9 = 0 ∨ b9 = 1 := by rcases hb9 with h9 | h9 <;> omega
  have hb1 := hs_bd q
  refine gd_if_ne (tgt := 49) C dX5_goesOn_6 (by decide) ?_ (fun hc6 => ?_) (fun hc6 => ?_)
  · omega
  · refine gd_iconst C dX5_goesOn_49 ?_
    refine gd_zret C hQ hret ?_ dX5_goesOn_50 ?_ ?_
    · omega
    · refine ⟨_, rfl, rfl, ?_⟩
      have hb := hb9.resolve_left
      first
        | exact Or.inl ⟨rfl, (hb9.resolve_left (fun h8 => by omega)).2, by omega, by omega, by omega⟩
        | exact Or.inr ⟨rfl, fun h8 => absurd (hb9.resolve_right (fun h7 => by omega)).2 h8.1⟩
        | exact Or.inr ⟨rfl, fun h8 => by have h7 := h8.2; omega⟩
    · decide
  · refine gd_iload_n C dX5_goesOn_9 rfl ?_
    refine gd_iconst C dX5_goesOn_10 ?_
    refine gd_iadd C dX5_goesOn_11 ?_
    refine gd_aload_n C dX5_goesOn_12 rfl ?_
    refine gm_get C hMv (by decide +kernel) 14 (by decide) (by decide +kernel) rfl dX5_goesOn_13 rfl ?_
    refine gd_icmp_ge (tgt := 49) C dX5_goesOn_16 (by decide) ?_ ?_ (fun hc16 => ?_) (fun hc16 => ?_)
    · omega
    · omega
    · refine gd_iconst C dX5_goesOn_49 ?_
      refine gd_zret C hQ hret ?_ dX5_goesOn_50 ?_ ?_
      · omega
      · refine ⟨_, rfl, rfl, ?_⟩
        have hb := hb9.resolve_left
        first
          | exact Or.inl ⟨rfl, (hb9.resolve_left (fun h8 => by omega)).2, by omega, by omega, by omega⟩
          | exact Or.inr ⟨rfl, fun h8 => absurd (hb9.resolve_right (fun h7 => by omega)).2 h8.1⟩
          | exact Or.inr ⟨rfl, fun h8 => by have h7 := h8.2; omega⟩
      · decide
    · obtain ⟨hA, hB, hC, hP⟩ := hN2 (i + 1) (by omega) (by omega)
      have hlo := hD2 (i + 1)
      have hco := hD3 (i + 1)
      refine gd_aload_n C dX5_goesOn_19 rfl ?_
      refine gm_get C hMv (by decide +kernel) 11 (by decide) (by decide +kernel) rfl dX5_goesOn_20 rfl ?_
      refine gd_iload_n C dX5_goesOn_23 rfl ?_
      refine gd_iconst C dX5_goesOn_24 ?_
      refine gd_iadd C dX5_goesOn_25 ?_
      refine gd_zald C dX5_goesOn_26 hMv.a11 (by decide) ?_ ?_
      · omega
      refine gd_if_eq (tgt := 49) C dX5_goesOn_27 (by decide) ?_ (fun hc27 => ?_) (fun hc27 => ?_)
      · omega
      · refine gd_iconst C dX5_goesOn_49 ?_
        refine gd_zret C hQ hret ?_ dX5_goesOn_50 ?_ ?_
        · omega
        · refine ⟨_, rfl, rfl, ?_⟩
          have hb := hb9.resolve_left
          first
            | exact Or.inl ⟨rfl, (hb9.resolve_left (fun h8 => by omega)).2, by omega, by omega, by omega⟩
            | exact Or.inr ⟨rfl, fun h8 => absurd (hb9.resolve_right (fun h7 => by omega)).2 h8.1⟩
            | exact Or.inr ⟨rfl, fun h8 => by have h7 := h8.2; omega⟩
        · decide
      · refine gd_aload_n C dX5_goesOn_30 rfl ?_
        refine gm_get C hMv (by decide +kernel) 10 (by decide) (by decide +kernel) rfl dX5_goesOn_31 rfl ?_
        refine gd_iload_n C dX5_goesOn_34 rfl ?_
        refine gd_iconst C dX5_goesOn_35 ?_
        refine gd_iadd C dX5_goesOn_36 ?_
        refine gd_iald C dX5_goesOn_37 hMv.a10 (by decide) ?_ ?_
        · omega
        refine gd_iload_n C dX5_goesOn_38 rfl ?_
        refine gd_callS (n := 1) C (kX5_hash hl (q := q) ?_) gX5_goesOn_X5_hash rfl ⟨by decide, by decide, by decide +kernel⟩ rfl rfl (Nat.le_of_ble_eq_true rfl) rfl dX5_goesOn_39 ⟨⟨by decide, by decide⟩, by decide, by decide⟩ (fun _ h => h.elim) ?_
        · omega
        rintro _ _ ⟨rfl, rfl⟩
        refine gd_icmp_ne (tgt := 49) C dX5_goesOn_42 (by decide) ?_ ?_ (fun hc42 => ?_) (fun hc42 => ?_)
        · omega
        · omega
        · refine gd_iconst C dX5_goesOn_49 ?_
          refine gd_zret C hQ hret ?_ dX5_goesOn_50 ?_ ?_
          · omega
          · refine ⟨_, rfl, rfl, ?_⟩
            have hb := hb9.resolve_left
            first
              | exact Or.inl ⟨rfl, (hb9.resolve_left (fun h8 => by omega)).2, by omega, by omega, by omega⟩
              | exact Or.inr ⟨rfl, fun h8 => absurd (hb9.resolve_right (fun h7 => by omega)).2 h8.1⟩
              | exact Or.inr ⟨rfl, fun h8 => by have h7 := h8.2; omega⟩
          · decide
        · refine gd_iconst C dX5_goesOn_45 ?_
          refine gd_goto (tgt := 50) C dX5_goesOn_46 (by decide) ?_
          refine gd_zret C hQ hret ?_ dX5_goesOn_50 ?_ ?_
          · omega
          · refine ⟨_, rfl, rfl, ?_⟩
            have hb := hb9.resolve_left
            first
              | exact Or.inl ⟨rfl, (hb9.resolve_left (fun h8 => by omega)).2, by omega, by omega, by omega⟩
              | exact Or.inr ⟨rfl, fun h8 => absurd (hb9.resolve_right (fun h7 => by omega)).2 h8.1⟩
              | exact Or.inr ⟨rfl, fun h8 => by have h7 := h8.2; omega⟩
          · decide

set_option maxRecDepth 100000 in
set_option maxHeartbeats 4000000 in
theorem kX5_looks {l : Launch} {D : va_G} {ky : Nat → ClassId} {z : Nat} {w : WT} (hl : l.stackTraces = false) {o : Nat} {A : Nat → Nat} {F : Nat → Int → Int} {G : Nat → Int} (hM : MW w ky o A F G) {n : Int} {lo co ct : Int → Int} {nm fl : Int → Int → Int} (hN : RNM F G n lo co ct nm) (hD : DR n lo co ct nm fl) (hn3 : n ≤ 300) (hlo0 : lo 0 = 0) (hco0 : co 0 = 0) {T : Int → Int} {v B : Int → Int → Int} {sc dn : Int} (hR : RF F G T v B sc dn) (hI : CI T v B sc dn) {q : Int} (hq : InR q) : Mt l D ky z yX5_looks wsX5_looks { frames := 2, cells := 0, slots := 0, locals := 46 } [.ref o, .int (iI q)] w (fun r w' => ((0 ≤ q ∧ q ≤ 999) ∧ r = some (.int (iI (lLk n lo co ct nm q - fLk n lo co q + 1))) ∧ PM w w' ky o A F G (T) (v) (B) (sc) (dn) (F 7) (0)) ∨ (¬ (0 ≤ q ∧ q ≤ 999) ∧ r = some (.int (iI 0)) ∧ PM w w' ky o A F G (T) (v) (B) (sc) (dn) (F 7) (1))) (fun _ => False) := by
  refine Mt.of (cc := cX5_looks) (ret := (some .int)) (maxL := 4) (by decide) rfl (by intro v hv; simp at hv; rcases hv with rfl | rfl <;> rfl) (Nat.le_of_ble_eq_true rfl) ?_ hl
  intro p e s m args below meth c C htab hret hname Q hQ
  have hMv := hM.V
  obtain ⟨hN1, hN2⟩ := id hN
  obtain ⟨hD1, hD2, hD3, hD4, hD5, hD6⟩ := id hD
  obtain ⟨hR0, hR1, hR2, hR3, hR4⟩ := id hR
  obtain ⟨hi1, hi2, hi3, hi4⟩ := id hI
  refine gd_aload_n C dX5_looks_0 rfl ?_
  refine gd_iload_n C dX5_looks_1 rfl ?_
  refine gd_callS (n := 1) C (kX5_isName hl (q := q) ?_) gX5_looks_X5_isName rfl ⟨by decide, by decide, by decide +kernel⟩ rfl rfl (Nat.le_of_ble_eq_true rfl) rfl dX5_looks_2 ⟨⟨by decide, by decide⟩, by decide, by decide⟩ (fun _ h => h.elim) ?_
  · omega
  rintro _ _ ⟨b8, rfl, rfl, hb8⟩
  have hb8x : b8 = 0 ∨ b8 = 1 := by omega
  refine gd_callV (n := 1) (ci := 5) (Cn := RX5) (T := TX5) (N := 18) C (kX5_asked hl hMv.1 (x := b8) ?_) ?_ rfl gX5_looks_X5_asked rfl ⟨rfl, by decide, by decide, by decide +kernel⟩ rfl rfl (Nat.le_of_ble_eq_true rfl) rfl dX5_looks_5 ⟨⟨by decide, by decide⟩, by decide, by decide⟩ (fun _ h => h.elim) ?_
  · omega
  · exact ⟨_, by exact hMv.ob⟩
  rintro _ w2 ⟨rfl, hM2⟩
  have hR2b : RF F (nU G 17 (1 - b8)) T v B sc dn := hR.g hR3 hR4
  have hN2b : RNM F (nU G 17 (1 - b8)) n lo co ct nm := hN
  refine gd_if_ne (tgt := 13) C dX5_looks_8 (by decide) ?_ (fun hc8 => ?_) (fun hc8 => ?_)
  · omega
  · refine gd_iconst C dX5_looks_13 ?_
    refine gd_istore_n C dX5_looks_14 (Nat.le_of_ble_eq_true rfl) ?_
    refine gd_aload_n C dX5_looks_15 rfl ?_
    refine gd_iload_n C dX5_looks_16 rfl ?_
    refine gd_callV (n := 1) (ci := 5) (Cn := RX5) (T := TX5) (N := 18) C (kX5_begins hl hM2.1 hN2b hD hn3 hlo0 hco0 (q := q) ?_) ?_ rfl gX5_looks_X5_begins rfl ⟨rfl, by decide, by decide, by decide +kernel⟩ rfl rfl (Nat.le_of_ble_eq_true rfl) rfl dX5_looks_17 ⟨⟨by decide, by decide⟩, by decide, by decide⟩ (fun _ h => h.elim) ?_
    · omega
    · exact ⟨_, by exact hM2.ob⟩
    rintro _ _ ⟨rfl, rfl⟩
    have hNQ : 0 ≤ q ∧ q ≤ 999 := by omega
    have hfb := fLk_bd lo co q hD1.1
    refine gd_istore_n C dX5_looks_20 (Nat.le_of_ble_eq_true rfl) ?_
    suffices hloop : ∀ (n9 : Nat) (i a : Int), fLk n lo co q ≤ i → i < n → (n - i).toNat = n9 → a = i - fLk n lo co q + 1 → lLk n lo co ct nm q = fW (hA ct nm q) lo co (hs q) n i → Gd p l e ({ frames := 2, cells := 0, slots := 0, locals := 46 }) s m args below meth c D z Q 0 0 w2 21 [some (.ref o), some (.int (iI q)), some (.int (iI a)), some (.int (iI i))] [] from
      hloop _ _ 1 (Int.le_refl _) hfb.2 rfl (by omega) rfl
    intro n9
    induction n9 using Nat.strongRecOn with
    | _ n9 ih =>
    intro i a h1i h2i hn ha hl1
    refine gd_aload_n C dX5_looks_21 rfl ?_
    refine gd_iload_n C dX5_looks_22 rfl ?_
    refine gd_iload_n C dX5_looks_23 rfl ?_
    refine gd_callV (n := 2) (ci := 5) (Cn := RX5) (T := TX5) (N := 18) C (kX5_goesOn hl hM2.1 hN2b hD hn3 hlo0 hco0 (q := q) hNQ (i := i) ?_) ?_ rfl gX5_looks_X5_goesOn rfl ⟨rfl, by decide, by decide, by decide +kernel⟩ rfl rfl (Nat.le_of_ble_eq_true rfl) rfl dX5_looks_24 ⟨⟨by decide, by decide⟩, by decide, by decide⟩ (fun _ h => h.elim) ?_
    · omega
    · exact ⟨_, by exact hM2.ob⟩
    rintro _ _ ⟨b7, rfl, rfl, hb7⟩
    have hb71 : b7 = 0 ∨ b7 = 1 := by rcases hb7 with h9 | h9 <;> omega
    refine gd_if_eq (tgt := 39) C dX5_looks_27 (by decide) ?_ (fun hc27 => ?_) (fun hc27 => ?_)
    · omega
    · refine gd_iload_n C dX5_looks_39 rfl ?_
      refine gd_iret C hQ hret dX5_looks_40 ?_ ?_
      · have e1 : lLk n lo co ct nm q = i := by rw [hl1]; exact fW_f h2i (hb7.resolve_left (fun h9 => by omega)).2
        exact Or.inl ⟨hNQ, by rw [e1, ha], _, _, hM2, hR2b, FN.rf F, rfl, rfl, by show 1 - b8 = 0; omega⟩
      · decide
    · refine gd_iinc C dX5_looks_30 rfl ?_
      refine gd_iinc C dX5_looks_33 rfl ?_
      refine gd_goto (tgt := 21) C dX5_looks_36 (by decide) ?_
      have hgo := (hb7.resolve_right (fun h9 => by omega)).2
      exact ih _ (by have := hgo.2.1; omega) (i + 1) (a + 1) (by omega) hgo.2.1 rfl (by omega) (by rw [hl1]; exact fW_t h2i hgo)
  · refine gd_iconst C dX5_looks_11 ?_
    refine gd_iret C hQ hret dX5_looks_12 ?_ ?_
    · exact Or.inr ⟨by omega, rfl, _, _, hM2, hR2b, FN.rf F, rfl, rfl, by show 1 - b8 = 1; omega⟩
    · decide

set_option maxRecDepth 100000 in
set_option maxHeartbeats 4000000 in
theorem kX5_leaves {l : Launch} {D : va_G} {ky : Nat → ClassId} {z : Nat} {w : WT} (hl : l.stackTraces = false) {o : Nat} {A : Nat → Nat} {F : Nat → Int → Int} {G : Nat → Int} (hM : MW w ky o A F G) {n : Int} {lo co ct : Int → Int} {nm fl : Int → Int → Int} (hN : RNM F G n lo co ct nm) (hD : DR n lo co ct nm fl) (hn3 : n ≤ 300) (hlo0 : lo 0 = 0) (hco0 : co 0 = 0) {T : Int → Int} {v B : Int → Int → Int} {sc dn : Int} (hR : RF F G T v B sc dn) (hI : CI T v B sc dn) : Mt l D ky z yX5_leaves wsX5_leaves { frames := 1, cells := 0, slots := 0, locals := 21 } [.ref o] w (fun r w' => r = some (.int (iI n)) ∧ PM w w' ky o A F G (T) (v) (B) (sc) (dn) (F 7) (0)) (fun _ => False) := by
  refine Mt.of (cc := cX5_leaves) (ret := (some .int)) (maxL := 1) (by decide) rfl (by intro v hv; simp at hv; rcases hv with rfl <;> rfl) (Nat.le_of_ble_eq_true rfl) ?_ hl
  intro p e s m args below meth c C htab hret hname Q hQ
  have hMv := hM.V
  obtain ⟨hN1, hN2⟩ := id hN
  obtain ⟨hD1, hD2, hD3, hD4, hD5, hD6⟩ := id hD
  obtain ⟨hR0, hR1, hR2, hR3, hR4⟩ := id hR
  obtain ⟨hi1, hi2, hi3, hi4⟩ := id hI
  refine gd_aload_n C dX5_leaves_0 rfl ?_
  refine gd_aload_n C dX5_leaves_1 rfl ?_
  refine gm_get C hMv (by decide +kernel) 14 (by decide) (by decide +kernel) rfl dX5_leaves_2 rfl ?_
  refine gd_callV (n := 1) (ci := 5) (Cn := RX5) (T := TX5) (N := 18) C (kX5_told hl hMv.1 (x := G 14)) ?_ rfl gX5_leaves_X5_told rfl ⟨rfl, by decide, by decide, by decide +kernel⟩ rfl rfl (Nat.le_of_ble_eq_true rfl) rfl dX5_leaves_5 ⟨⟨by decide, by decide⟩, by decide, by decide⟩ (fun _ h => h.elim) ?_
  · exact ⟨_, by exact hMv.ob⟩
  rintro _ w2 ⟨rfl, hM2⟩
  have hR2b : RF F (nU G 17 0) T v B sc dn := hR.g hR3 hR4
  refine gd_iret C hQ hret dX5_leaves_8 ?_ ?_
  · exact ⟨by rw [hN1], _, _, hM2, hR2b, FN.rf F, rfl, rfl, rfl⟩
  · decide

set_option maxRecDepth 100000 in
set_option maxHeartbeats 4000000 in
theorem kX5_fileOf {l : Launch} {D : va_G} {ky : Nat → ClassId} {z : Nat} {w : WT} (hl : l.stackTraces = false) {o : Nat} {A : Nat → Nat} {F : Nat → Int → Int} {G : Nat → Int} (hM : MW w ky o A F G) {n : Int} {lo co ct : Int → Int} {nm fl : Int → Int → Int} (hN : RNM F G n lo co ct nm) (hD : DR n lo co ct nm fl) (hn3 : n ≤ 300) (hlo0 : lo 0 = 0) (hco0 : co 0 = 0) {T : Int → Int} {v B : Int → Int → Int} {sc dn : Int} (hR : RF F G T v B sc dn) (hI : CI T v B sc dn) (hF9 : ∀ q, 0 ≤ q → q ≤ 999 → F 9 q = dF n lo co ct nm fl q + 1) {q : Int} (hq : InR q) : Mt l D ky z yX5_fileOf wsX5_fileOf { frames := 2, cells := 0, slots := 0, locals := 42 } [.ref o, .int (iI q)] w (fun r w' => ((0 ≤ q ∧ q ≤ 999) ∧ r = some (.int (iI (dF n lo co ct nm fl q))) ∧ PM w w' ky o A F G (T) (v) (B) (sc) (dn) (F 7) (0)) ∨ (¬ (0 ≤ q ∧ q ≤ 999) ∧ r = some (.int (iI 0)) ∧ PM w w' ky o A F G (T) (v) (B) (sc) (dn) (F 7) (1))) (fun _ => False) := by
  refine Mt.of (cc := cX5_fileOf) (ret := (some .int)) (maxL := 2) (by decide) rfl (by intro v hv; simp at hv; rcases hv with rfl | rfl <;> rfl) (Nat.le_of_ble_eq_true rfl) ?_ hl
  intro p e s m args below meth c C htab hret hname Q hQ
  have hMv := hM.V
  obtain ⟨hN1, hN2⟩ := id hN
  obtain ⟨hD1, hD2, hD3, hD4, hD5, hD6⟩ := id hD
  obtain ⟨hR0, hR1, hR2, hR3, hR4⟩ := id hR
  obtain ⟨hi1, hi2, hi3, hi4⟩ := id hI
  refine gd_aload_n C dX5_fileOf_0 rfl ?_
  refine gd_iload_n C dX5_fileOf_1 rfl ?_
  refine gd_callS (n := 1) C (kX5_isName hl (q := q) ?_) gX5_fileOf_X5_isName rfl ⟨by decide, by decide, by decide +kernel⟩ rfl rfl (Nat.le_of_ble_eq_true rfl) rfl dX5_fileOf_2 ⟨⟨by decide, by decide⟩, by decide, by decide⟩ (fun _ h => h.elim) ?_
  · omega
  rintro _ _ ⟨b8, rfl, rfl, hb8⟩
  have hb8x : b8 = 0 ∨ b8 = 1 := by omega
  refine gd_callV (n := 1) (ci := 5) (Cn := RX5) (T := TX5) (N := 18) C (kX5_asked hl hMv.1 (x := b8) ?_) ?_ rfl gX5_fileOf_X5_asked rfl ⟨rfl, by decide, by decide, by decide +kernel⟩ rfl rfl (Nat.le_of_ble_eq_true rfl) rfl dX5_fileOf_5 ⟨⟨by decide, by decide⟩, by decide, by decide⟩ (fun _ h => h.elim) ?_
  · omega
  · exact ⟨_, by exact hMv.ob⟩
  rintro _ w2 ⟨rfl, hM2⟩
  have hR2b : RF F (nU G 17 (1 - b8)) T v B sc dn := hR.g hR3 hR4
  have hN2b : RNM F (nU G 17 (1 - b8)) n lo co ct nm := hN
  refine gd_if_eq (tgt := 22) C dX5_fileOf_8 (by decide) ?_ (fun hc8 => ?_) (fun hc8 => ?_)
  · omega
  · refine gd_iconst C dX5_fileOf_22 ?_
    refine gd_iret C hQ hret dX5_fileOf_23 ?_ ?_
    · first
        | exact Or.inl ⟨hNQ, by rw [hF2, show dF n lo co ct nm fl q + 1 - 1 = dF n lo co ct nm fl q by omega], _, _, hM2, hR2b, FN.rf F, rfl, rfl, by show 1 - b8 = 0; omega⟩
        | exact Or.inr ⟨by omega, rfl, _, _, hM2, hR2b, FN.rf F, rfl, rfl, by show 1 - b8 = 1; omega⟩
    · decide
  · have hNQ : 0 ≤ q ∧ q ≤ 999 := by omega
    have hF2 := hF9 q hNQ.1 hNQ.2
    refine gd_aload_n C dX5_fileOf_11 rfl ?_
    refine gm_get C hM2 (by decide +kernel) 9 (by decide) (by decide +kernel) rfl dX5_fileOf_12 rfl ?_
    refine gd_iload_n C dX5_fileOf_15 rfl ?_
    refine gd_iald C dX5_fileOf_16 hM2.a9 (by decide) ?_ ?_
    · omega
    refine gd_iconst C dX5_fileOf_17 ?_
    refine gd_isub C dX5_fileOf_18 ?_
    refine gd_goto (tgt := 23) C dX5_fileOf_19 (by decide) ?_
    refine gd_iret C hQ hret dX5_fileOf_23 ?_ ?_
    · first
        | exact Or.inl ⟨hNQ, by rw [hF2, show dF n lo co ct nm fl q + 1 - 1 = dF n lo co ct nm fl q by omega], _, _, hM2, hR2b, FN.rf F, rfl, rfl, by show 1 - b8 = 0; omega⟩
        | exact Or.inr ⟨by omega, rfl, _, _, hM2, hR2b, FN.rf F, rfl, rfl, by show 1 - b8 = 1; omega⟩
    · decide
