set_option maxRecDepth 100000 in
set_option maxHeartbeats 4000000 in
theorem kX4_hashOf {l : Launch} {D : va_G} {ky : Nat → ClassId} {z : Nat} {w : WT} (hl : l.stackTraces = false) {q : Int} (hq : 0 ≤ q ∧ q ≤ 999) : Mt l D ky z yX4_hashOf wsX4_hashOf { frames := 0, cells := 0, slots := 0, locals := 0 } [.int (iI q)] w (fun r w' => w = w' ∧ r = some (.int (iI (hs q)))) (fun _ => False) := by
  refine Mt.of (cc := cX4_hashOf) (ret := (some .int)) (maxL := 1) (by decide) rfl (by intro v hv; simp at hv; rcases hv with rfl <;> rfl) (Nat.le_of_ble_eq_true rfl) ?_ hl
  intro p e s m args below meth c C htab hret hname Q hQ
  refine gd_iconst C dX4_hashOf_0 ?_
  refine gd_iload_n C dX4_hashOf_1 rfl ?_
  refine gd_imul C dX4_hashOf_2 ?_
  refine gd_bipush C dX4_hashOf_3 (by decide) ?_
  refine gd_irem C dX4_hashOf_5 ?_ ?_
  · omega
  refine gd_iret C hQ hret dX4_hashOf_6 ?_ ?_
  · exact ⟨rfl, rfl⟩
  · decide

set_option maxRecDepth 100000 in
set_option maxHeartbeats 4000000 in
theorem kX3_rankOf {l : Launch} {D : va_G} {ky : Nat → ClassId} {z : Nat} {w : WT} (hl : l.stackTraces = false) {q : Int} (hq : 0 ≤ q ∧ q ≤ 999) : Mt l D ky z yX3_rankOf wsX3_rankOf { frames := 1, cells := 0, slots := 0, locals := 20 } [.int (iI q)] w (fun r w' => w = w' ∧ r = some (.int (iI (rk q)))) (fun _ => False) := by
  refine Mt.of (cc := cX3_rankOf) (ret := (some .int)) (maxL := 1) (by decide) rfl (by intro v hv; simp at hv; rcases hv with rfl <;> rfl) (Nat.le_of_ble_eq_true rfl) ?_ hl
  intro p e s m args below meth c C htab hret hname Q hQ
  refine gd_iload_n C dX3_rankOf_0 rfl ?_
  refine gd_callSN (n := 1) (host := RX4) C (kX4_hashOf hl (q := q) hq) gX3_rankOf_X4_hashOf_n43 rfl (by decide +kernel) (by decide +kernel) (by decide +kernel) ⟨by decide, by decide, by decide +kernel⟩ rfl rfl (Nat.le_of_ble_eq_true rfl) rfl dX3_rankOf_1 ⟨⟨by decide, by decide⟩, by decide, by decide⟩ (fun _ h => h.elim) ?_
  rintro _ _ ⟨rfl, rfl⟩
  refine gd_sipush C dX3_rankOf_4 (by decide) ?_
  refine gd_imul C dX3_rankOf_7 ?_
  refine gd_iload_n C dX3_rankOf_8 rfl ?_
  refine gd_iadd C dX3_rankOf_9 ?_
  refine gd_iret C hQ hret dX3_rankOf_10 ?_ ?_
  · exact ⟨rfl, rfl⟩
  · decide

set_option maxRecDepth 100000 in
set_option maxHeartbeats 4000000 in
theorem kX3_continues {l : Launch} {D : va_G} {ky : Nat → ClassId} {z : Nat} {w : WT} (hl : l.stackTraces = false) {h na fa : Nat} {lo co ct : Int} {bk nx : Option Nat} (hh : w h = some (cL na fa lo co ct bk nx)) {q : Int} (hq : InR q ∧ InR lo) (hb : co = 0 ∨ co = 1) : Mt l D ky z yX3_continues wsX3_continues { frames := 0, cells := 0, slots := 0, locals := 0 } [.ref h, .int (iI q)] w (fun r w' => ∃ b : Int, w = w' ∧ r = some (.int (iI b)) ∧ (b = 1 ∧ (co = 1 ∧ lo = q) ∨ b = 0 ∧ ¬ (co = 1 ∧ lo = q))) (fun _ => False) := by
  refine Mt.of (cc := cX3_continues) (ret := (some .boolean)) (maxL := 2) (by decide) rfl (by intro v hv; simp at hv; rcases hv with rfl | rfl <;> rfl) (Nat.le_of_ble_eq_true rfl) ?_ hl
  intro p e s m args below meth c C htab hret hname Q hQ
  refine gd_aload_n C dX3_continues_0 rfl ?_
  apply gd_get (ci := 3) (Cn := RX3) (T := TX3) (N := 7) (ref := RX3) C rfl (by decide +kernel) 1 (by decide) (by decide +kernel) rfl dX3_continues_1
  · first | assumption | exact wU_s _ _ _ | exact look1 (by assumption) (by assumption) | exact look2 (by assumption) (by assumption)
  · rfl
  refine gd_if_eq (tgt := 19) C dX3_continues_4 (by decide) ?_ (fun hc4 => ?_) (fun hc4 => ?_)
  · omega
  · refine gd_iconst C dX3_continues_19 ?_
    refine gd_zret C hQ hret ?_ dX3_continues_20 ?_ ?_
    · omega
    · exact ⟨_, rfl, rfl, by omega⟩
    · decide
  · refine gd_aload_n C dX3_continues_7 rfl ?_
    apply gd_get (ci := 3) (Cn := RX3) (T := TX3) (N := 7) (ref := RX3) C rfl (by decide +kernel) 0 (by decide) (by decide +kernel) rfl dX3_continues_8
    · first | assumption | exact wU_s _ _ _ | exact look1 (by assumption) (by assumption) | exact look2 (by assumption) (by assumption)
    · rfl
    refine gd_iload_n C dX3_continues_11 rfl ?_
    refine gd_icmp_ne (tgt := 19) C dX3_continues_12 (by decide) ?_ ?_ (fun hc12 => ?_) (fun hc12 => ?_)
    · omega
    · omega
    · refine gd_iconst C dX3_continues_19 ?_
      refine gd_zret C hQ hret ?_ dX3_continues_20 ?_ ?_
      · omega
      · exact ⟨_, rfl, rfl, by omega⟩
      · decide
    · refine gd_iconst C dX3_continues_15 ?_
      refine gd_goto (tgt := 20) C dX3_continues_16 (by decide) ?_
      refine gd_zret C hQ hret ?_ dX3_continues_20 ?_ ?_
      · omega
      · exact ⟨_, rfl, rfl, by omega⟩
      · decide

set_option maxRecDepth 100000 in
set_option maxHeartbeats 4000000 in
theorem kX3_indexOf {l : Launch} {D : va_G} {ky : Nat → ClassId} {z : Nat} {w : WT} (hl : l.stackTraces = false) {h na fa : Nat} {lo co ct : Int} {bk nx : Option Nat} (hh : w h = some (cL na fa lo co ct bk nx)) {nm : Int → Int} (hn : w na = some (iA (ky 0) 4 nm)) (hc : 0 ≤ ct ∧ ct ≤ 4) (hm : ∀ i, 0 ≤ nm i ∧ nm i ≤ 999) {q : Int} (hq : InR q) : Mt l D ky z yX3_indexOf wsX3_indexOf { frames := 0, cells := 0, slots := 0, locals := 0 } [.ref h, .int (iI q)] w (fun r w' => w = w' ∧ r = some (.int (iI (fF (fun j => nm j = q) 0 ct)))) (fun _ => False) := by
  refine Mt.of (cc := cX3_indexOf) (ret := (some .int)) (maxL := 3) (by decide) rfl (by intro v hv; simp at hv; rcases hv with rfl | rfl <;> rfl) (Nat.le_of_ble_eq_true rfl) ?_ hl
  intro p e s m args below meth c C htab hret hname Q hQ
  refine gd_iconst C dX3_indexOf_0 ?_
  refine gd_istore_n C dX3_indexOf_1 (Nat.le_of_ble_eq_true rfl) ?_
  suffices hloop : ∀ (n : Nat) (i : Int), 0 ≤ i → i ≤ ct → (ct - i).toNat = n → fF (fun j => nm j = q) 0 ct = fF (fun j => nm j = q) i ct → Gd p l e ({ frames := 0, cells := 0, slots := 0, locals := 0 }) s m args below meth c D z Q 0 0 w 2 [some (.ref h), some (.int (iI q)), some (.int (iI i))] [] from
    hloop _ 0 (by omega) (by omega) rfl rfl
  intro n
  induction n using Nat.strongRecOn with
  | _ n ih =>
  intro i hi1 hi2 hn9 hall
  have hm1 := hm i
  refine gd_iload_n C dX3_indexOf_2 rfl ?_
  refine gd_aload_n C dX3_indexOf_3 rfl ?_
  apply gd_get (ci := 3) (Cn := RX3) (T := TX3) (N := 7) (ref := RX3) C rfl (by decide +kernel) 4 (by decide) (by decide +kernel) rfl dX3_indexOf_4
  · first | assumption | exact wU_s _ _ _ | exact look1 (by assumption) (by assumption) | exact look2 (by assumption) (by assumption)
  · rfl
  refine gd_icmp_ge (tgt := 33) C dX3_indexOf_7 (by decide) ?_ ?_ (fun hc7 => ?_) (fun hc7 => ?_)
  · omega
  · omega
  · refine gd_iconst C dX3_indexOf_33 ?_
    refine gd_iret C hQ hret dX3_indexOf_34 ?_ ?_
    · first | exact ⟨rfl, by rw [hall, fF_end (by omega)]⟩ | (exfalso; omega)
    · decide
  · refine gd_iload_n C dX3_indexOf_10 rfl ?_
    refine gd_iconst C dX3_indexOf_11 ?_
    refine gd_icmp_ge (tgt := 33) C dX3_indexOf_12 (by decide) ?_ ?_ (fun hc12 => ?_) (fun hc12 => ?_)
    · omega
    · omega
    · refine gd_iconst C dX3_indexOf_33 ?_
      refine gd_iret C hQ hret dX3_indexOf_34 ?_ ?_
      · first | exact ⟨rfl, by rw [hall, fF_end (by omega)]⟩ | (exfalso; omega)
      · decide
    · refine gd_aload_n C dX3_indexOf_15 rfl ?_
      apply gd_get (ci := 3) (Cn := RX3) (T := TX3) (N := 7) (ref := RX3) C rfl (by decide +kernel) 2 (by decide) (by decide +kernel) rfl dX3_indexOf_16
      · first | assumption | exact wU_s _ _ _ | exact look1 (by assumption) (by assumption) | exact look2 (by assumption) (by assumption)
      · rfl
      refine gd_iload_n C dX3_indexOf_19 rfl ?_
      apply gd_iald C dX3_indexOf_20
      · first | assumption | exact wU_s _ _ _ | exact look1 (by assumption) (by assumption) | exact look2 (by assumption) (by assumption)
      · decide
      · omega
      refine gd_iload_n C dX3_indexOf_21 rfl ?_
      refine gd_icmp_ne (tgt := 27) C dX3_indexOf_22 (by decide) ?_ ?_ (fun hc22 => ?_) (fun hc22 => ?_)
      · omega
      · omega
      · refine gd_iinc C dX3_indexOf_27 rfl ?_
        refine gd_goto (tgt := 2) C dX3_indexOf_30 (by decide) ?_
        exact ih _ (by omega) _ (by omega) (by omega) rfl (by rw [hall]; exact fF_miss (by omega) (by omega))
      · refine gd_iload_n C dX3_indexOf_25 rfl ?_
        refine gd_iret C hQ hret dX3_indexOf_26 ?_ ?_
        · exact ⟨rfl, by rw [hall, fF_hit (by omega) (by omega)]⟩
        · decide

set_option maxRecDepth 100000 in
set_option maxHeartbeats 4000000 in
theorem kX3_has {l : Launch} {D : va_G} {ky : Nat → ClassId} {z : Nat} {w : WT} (hl : l.stackTraces = false) {h na fa : Nat} {lo co ct : Int} {bk nx : Option Nat} (hh : w h = some (cL na fa lo co ct bk nx)) {nm : Int → Int} (hn : w na = some (iA (ky 0) 4 nm)) (hc : 0 ≤ ct ∧ ct ≤ 4) (hm : ∀ i, 0 ≤ nm i ∧ nm i ≤ 999) {q : Int} (hq : InR q) : Mt l D ky z yX3_has wsX3_has { frames := 1, cells := 0, slots := 0, locals := 22 } [.ref h, .int (iI q)] w (fun r w' => ∃ b : Int, w = w' ∧ r = some (.int (iI b)) ∧ (b = 1 ∧ (0 ≤ fF (fun j => nm j = q) 0 ct) ∨ b = 0 ∧ ¬ (0 ≤ fF (fun j => nm j = q) 0 ct))) (fun _ => False) := by
  refine Mt.of (cc := cX3_has) (ret := (some .boolean)) (maxL := 2) (by decide) rfl (by intro v hv; simp at hv; rcases hv with rfl | rfl <;> rfl) (Nat.le_of_ble_eq_true rfl) ?_ hl
  intro p e s m args below meth c C htab hret hname Q hQ
  have hfs := fF_spec (P := fun j => nm j = q) (b := ct) _ 0 rfl
  refine gd_aload_n C dX3_has_0 rfl ?_
  refine gd_iload_n C dX3_has_1 rfl ?_
  refine gd_callV (n := 1) (ci := 3) (Cn := RX3) (T := TX3) (N := 7) C (kX3_indexOf hl hh hn hc hm (q := q) hq) ?_ rfl gX3_has_X3_indexOf rfl ⟨rfl, by decide, by decide, by decide +kernel⟩ rfl rfl (Nat.le_of_ble_eq_true rfl) rfl dX3_has_2 ⟨⟨by decide, by decide⟩, by decide, by decide⟩ (fun _ h => h.elim) ?_
  · exact ⟨_, by first | assumption | exact wU_s _ _ _ | exact look1 (by assumption) (by assumption) | exact look2 (by assumption) (by assumption)⟩
  rintro _ _ ⟨rfl, rfl⟩
  refine gd_iconst C dX3_has_5 ?_
  refine gd_icmp_eq (tgt := 13) C dX3_has_6 (by decide) ?_ ?_ (fun hc6 => ?_) (fun hc6 => ?_)
  · omega
  · omega
  · refine gd_iconst C dX3_has_13 ?_
    refine gd_zret C hQ hret ?_ dX3_has_14 ?_ ?_
    · omega
    · first | exact ⟨1, rfl, rfl, Or.inl ⟨rfl, by omega⟩⟩ | exact ⟨0, rfl, rfl, Or.inr ⟨rfl, by omega⟩⟩
    · decide
  · refine gd_iconst C dX3_has_9 ?_
    refine gd_goto (tgt := 14) C dX3_has_10 (by decide) ?_
    refine gd_zret C hQ hret ?_ dX3_has_14 ?_ ?_
    · omega
    · first | exact ⟨1, rfl, rfl, Or.inl ⟨rfl, by omega⟩⟩ | exact ⟨0, rfl, rfl, Or.inr ⟨rfl, by omega⟩⟩
    · decide

set_option maxRecDepth 100000 in
set_option maxHeartbeats 4000000 in
theorem kX3_fileWith {l : Launch} {D : va_G} {ky : Nat → ClassId} {z : Nat} {w : WT} (hl : l.stackTraces = false) {h na fa : Nat} {lo co ct : Int} {bk nx : Option Nat} (hh : w h = some (cL na fa lo co ct bk nx)) {nm : Int → Int} (hn : w na = some (iA (ky 0) 4 nm)) (hc : 0 ≤ ct ∧ ct ≤ 4) (hm : ∀ i, 0 ≤ nm i ∧ nm i ≤ 999) {fl : Int → Int} (hf : w fa = some (iA (ky 0) 4 fl)) {q : Int} (hq : InR q) : Mt l D ky z yX3_fileWith wsX3_fileWith { frames := 1, cells := 0, slots := 0, locals := 22 } [.ref h, .int (iI q)] w (fun r w' => w = w' ∧ r = some (.int (iI (if 0 ≤ fF (fun j => nm j = q) 0 ct then fl (fF (fun j => nm j = q) 0 ct) else -1)))) (fun _ => False) := by
  refine Mt.of (cc := cX3_fileWith) (ret := (some .int)) (maxL := 3) (by decide) rfl (by intro v hv; simp at hv; rcases hv with rfl | rfl <;> rfl) (Nat.le_of_ble_eq_true rfl) ?_ hl
  intro p e s m args below meth c C htab hret hname Q hQ
  have hfs := fF_spec (P := fun j => nm j = q) (b := ct) _ 0 rfl
  refine gd_aload_n C dX3_fileWith_0 rfl ?_
  refine gd_iload_n C dX3_fileWith_1 rfl ?_
  refine gd_callV (n := 1) (ci := 3) (Cn := RX3) (T := TX3) (N := 7) C (kX3_indexOf hl hh hn hc hm (q := q) hq) ?_ rfl gX3_fileWith_X3_indexOf rfl ⟨rfl, by decide, by decide, by decide +kernel⟩ rfl rfl (Nat.le_of_ble_eq_true rfl) rfl dX3_fileWith_2 ⟨⟨by decide, by decide⟩, by decide, by decide⟩ (fun _ h => h.elim) ?_
  · exact ⟨_, by first | assumption | exact wU_s _ _ _ | exact look1 (by assumption) (by assumption) | exact look2 (by assumption) (by assumption)⟩
  rintro _ _ ⟨rfl, rfl⟩
  refine gd_istore_n C dX3_fileWith_5 (Nat.le_of_ble_eq_true rfl) ?_
  refine gd_iload_n C dX3_fileWith_6 rfl ?_
  refine gd_if_ge (tgt := 14) C dX3_fileWith_7 (by decide) ?_ (fun hc7 => ?_) (fun hc7 => ?_)
  · omega
  · refine gd_aload_n C dX3_fileWith_14 rfl ?_
    apply gd_get (ci := 3) (Cn := RX3) (T := TX3) (N := 7) (ref := RX3) C rfl (by decide +kernel) 3 (by decide) (by decide +kernel) rfl dX3_fileWith_15
    · first | assumption | exact wU_s _ _ _ | exact look1 (by assumption) (by assumption) | exact look2 (by assumption) (by assumption)
    · rfl
    refine gd_iload_n C dX3_fileWith_18 rfl ?_
    apply gd_iald C dX3_fileWith_19
    · first | assumption | exact wU_s _ _ _ | exact look1 (by assumption) (by assumption) | exact look2 (by assumption) (by assumption)
    · decide
    · omega
    refine gd_iret C hQ hret dX3_fileWith_20 ?_ ?_
    · first | exact ⟨rfl, by rw [if_pos (by omega)]⟩ | exact ⟨rfl, by rw [if_neg (by omega)]⟩
    · decide
  · refine gd_iconst C dX3_fileWith_10 ?_
    refine gd_goto (tgt := 20) C dX3_fileWith_11 (by decide) ?_
    refine gd_iret C hQ hret dX3_fileWith_20 ?_ ?_
    · first | exact ⟨rfl, by rw [if_pos (by omega)]⟩ | exact ⟨rfl, by rw [if_neg (by omega)]⟩
    · decide

set_option maxRecDepth 100000 in
set_option maxHeartbeats 4000000 in
theorem kX3_insert {l : Launch} {D : va_G} {ky : Nat → ClassId} {z : Nat} {w : WT} (hl : l.stackTraces = false) {h na fa : Nat} {lo co ct : Int} {bk nx : Option Nat} (hh : w h = some (cL na fa lo co ct bk nx)) {nm : Int → Int} (hn : w na = some (iA (ky 0) 4 nm)) (hc : 0 ≤ ct ∧ ct < 4) (hm : ∀ i, 0 ≤ nm i ∧ nm i ≤ 999) {fl : Int → Int} (hf : w fa = some (iA (ky 0) 4 fl)) (hnf : na ≠ fa) {q x : Int} (hq : 0 ≤ q ∧ q ≤ 999) : Mt l D ky z yX3_insert wsX3_insert { frames := 2, cells := 0, slots := 0, locals := 40 } [.ref h, .int (iI q), .int (iI x)] w (fun r w' => r = none ∧ ∃ p : Int, 0 ≤ p ∧ p ≤ ct ∧ (∀ j, p ≤ j → j < ct → rk q < rk (nm j)) ∧ (p = 0 ∨ rk (nm (p - 1)) ≤ rk q) ∧ w' na = some (iA (ky 0) 4 (inF nm p ct q)) ∧ w' fa = some (iA (ky 0) 4 (inF fl p ct x)) ∧ w' h = some (cL na fa lo co (ct + 1) bk nx) ∧ ∀ y, y ≠ na → y ≠ fa → y ≠ h → w' y = w y) (fun _ => False) := by
  refine Mt.of (cc := cX3_insert) (ret := none) (maxL := 4) (by decide) rfl (by intro v hv; simp at hv; rcases hv with rfl | rfl | rfl <;> rfl) (Nat.le_of_ble_eq_true rfl) ?_ hl
  intro p e s m args below meth c C htab hret hname Q hQ
  refine gd_aload_n C dX3_insert_0 rfl ?_
  apply gd_get (ci := 3) (Cn := RX3) (T := TX3) (N := 7) (ref := RX3) C rfl (by decide +kernel) 4 (by decide) (by decide +kernel) rfl dX3_insert_1
  · first | assumption | exact wU_s _ _ _ | exact (wU_n hnf).trans (by assumption) | exact (wU_n hnf.symm).trans (by assumption) | exact (wU_n hne1).trans (by assumption) | exact (wU_n hne1.symm).trans (by assumption) | exact (wU_n hne2).trans (by assumption) | exact (wU_n hne2).trans ((wU_n hne1).trans hh1) | exact (wU_n hne2.symm).trans (by assumption) | exact (wU_n hnf).trans (wU_s _ _ _) | exact (wU_n hnf.symm).trans ((wU_n hne1.symm).trans (by assumption)) | exact (wU_n hnf.symm).trans (wU_s _ _ _)
  · rfl
  refine gd_iconst C dX3_insert_4 ?_
  refine gd_icmp_lt (tgt := 9) C dX3_insert_5 (by decide) ?_ ?_ (fun hc5 => ?_) (fun hc5 => ?_)
  · omega
  · omega
  · refine gd_aload_n C dX3_insert_9 rfl ?_
    apply gd_get (ci := 3) (Cn := RX3) (T := TX3) (N := 7) (ref := RX3) C rfl (by decide +kernel) 4 (by decide) (by decide +kernel) rfl dX3_insert_10
    · first | assumption | exact wU_s _ _ _ | exact (wU_n hnf).trans (by assumption) | exact (wU_n hnf.symm).trans (by assumption) | exact (wU_n hne1).trans (by assumption) | exact (wU_n hne1.symm).trans (by assumption) | exact (wU_n hne2).trans (by assumption) | exact (wU_n hne2).trans ((wU_n hne1).trans hh1) | exact (wU_n hne2.symm).trans (by assumption) | exact (wU_n hnf).trans (wU_s _ _ _) | exact (wU_n hnf.symm).trans ((wU_n hne1.symm).trans (by assumption)) | exact (wU_n hnf.symm).trans (wU_s _ _ _)
    · rfl
    refine gd_istore_n C dX3_insert_13 (Nat.le_of_ble_eq_true rfl) ?_
    suffices hloop : ∀ (n : Nat) (i : Int) (w1 : WT), 0 ≤ i → i ≤ ct → i.toNat = n → w1 na = some (iA (ky 0) 4 (shF nm i ct)) → w1 fa = some (iA (ky 0) 4 (shF fl i ct)) → w1 h = some (cL na fa lo co ct bk nx) → (∀ y, y ≠ na → y ≠ fa → y ≠ h → w1 y = w y) → (∀ j, i ≤ j → j < ct → rk q < rk (nm j)) → Gd p l e ({ frames := 2, cells := 0, slots := 0, locals := 40 }) s m args below meth c D z Q 0 0 w1 14 [some (.ref h), some (.int (iI q)), some (.int (iI x)), some (.int (iI i))] [] from
      hloop _ ct w (by omega) (by omega) rfl (by rw [shF_0]; exact hn) (by rw [shF_0]; exact hf) hh (fun _ _ _ _ => rfl) (fun j h1 h2 => by omega)
    intro n
    induction n using Nat.strongRecOn with
    | _ n ih =>
    intro i w1 hi1 hi2 hn9 hn1 hf1 hh1 hfr hgt
    have hm1 := hm (i - 1)
    have e1 : shF nm i ct (i - 1) = nm (i - 1) := shF_at (by omega)
    have e2 : shF fl i ct (i - 1) = fl (i - 1) := shF_at (by omega)
    have hb1 := hs_bd q
    have hb2 := hs_bd (nm (i - 1))
    have hrk1 : rk q = hs q * 1000 + q := rfl
    have hrk2 : rk (nm (i - 1)) = hs (nm (i - 1)) * 1000 + nm (i - 1) := rfl
    have hne1 : h ≠ na := kd_ne hh1 hn1
    have hne2 : h ≠ fa := kd_ne hh1 hf1
    refine gd_iload_n C dX3_insert_14 rfl ?_
    refine gd_if_le (tgt := 70) C dX3_insert_15 (by decide) ?_ (fun hc15 => ?_) (fun hc15 => ?_)
    · omega
    · refine gd_aload_n C dX3_insert_70 rfl ?_
      apply gd_get (ci := 3) (Cn := RX3) (T := TX3) (N := 7) (ref := RX3) C rfl (by decide +kernel) 2 (by decide) (by decide +kernel) rfl dX3_insert_71
      · first | assumption | exact wU_s _ _ _ | exact (wU_n hnf).trans (by assumption) | exact (wU_n hnf.symm).trans (by assumption) | exact (wU_n hne1).trans (by assumption) | exact (wU_n hne1.symm).trans (by assumption) | exact (wU_n hne2).trans (by assumption) | exact (wU_n hne2).trans ((wU_n hne1).trans hh1) | exact (wU_n hne2.symm).trans (by assumption) | exact (wU_n hnf).trans (wU_s _ _ _) | exact (wU_n hnf.symm).trans ((wU_n hne1.symm).trans (by assumption)) | exact (wU_n hnf.symm).trans (wU_s _ _ _)
      · rfl
      refine gd_iload_n C dX3_insert_74 rfl ?_
      refine gd_iload_n C dX3_insert_75 rfl ?_
      apply gd_iast C dX3_insert_76
      · first | assumption | exact wU_s _ _ _ | exact (wU_n hnf).trans (by assumption) | exact (wU_n hnf.symm).trans (by assumption) | exact (wU_n hne1).trans (by assumption) | exact (wU_n hne1.symm).trans (by assumption) | exact (wU_n hne2).trans (by assumption) | exact (wU_n hne2).trans ((wU_n hne1).trans hh1) | exact (wU_n hne2.symm).trans (by assumption) | exact (wU_n hnf).trans (wU_s _ _ _) | exact (wU_n hnf.symm).trans ((wU_n hne1.symm).trans (by assumption)) | exact (wU_n hnf.symm).trans (wU_s _ _ _)
      · decide
      · omega
      refine gd_aload_n C dX3_insert_77 rfl ?_
      apply gd_get (ci := 3) (Cn := RX3) (T := TX3) (N := 7) (ref := RX3) C rfl (by decide +kernel) 3 (by decide) (by decide +kernel) rfl dX3_insert_78
      · first | assumption | exact wU_s _ _ _ | exact (wU_n hnf).trans (by assumption) | exact (wU_n hnf.symm).trans (by assumption) | exact (wU_n hne1).trans (by assumption) | exact (wU_n hne1.symm).trans (by assumption) | exact (wU_n hne2).trans (by assumption) | exact (wU_n hne2).trans ((wU_n hne1).trans hh1) | exact (wU_n hne2.symm).trans (by assumption) | exact (wU_n hnf).trans (wU_s _ _ _) | exact (wU_n hnf.symm).trans ((wU_n hne1.symm).trans (by assumption)) | exact (wU_n hnf.symm).trans (wU_s _ _ _)
      · rfl
      refine gd_iload_n C dX3_insert_81 rfl ?_
      refine gd_iload_n C dX3_insert_82 rfl ?_
      apply gd_iast C dX3_insert_83
      · first | assumption | exact wU_s _ _ _ | exact (wU_n hnf).trans (by assumption) | exact (wU_n hnf.symm).trans (by assumption) | exact (wU_n hne1).trans (by assumption) | exact (wU_n hne1.symm).trans (by assumption) | exact (wU_n hne2).trans (by assumption) | exact (wU_n hne2).trans ((wU_n hne1).trans hh1) | exact (wU_n hne2.symm).trans (by assumption) | exact (wU_n hnf).trans (wU_s _ _ _) | exact (wU_n hnf.symm).trans ((wU_n hne1.symm).trans (by assumption)) | exact (wU_n hnf.symm).trans (wU_s _ _ _)
      · decide
      · omega
      refine gd_aload_n C dX3_insert_84 rfl ?_
      refine gd_dup C dX3_insert_85 rfl ?_
      apply gd_get (ci := 3) (Cn := RX3) (T := TX3) (N := 7) (ref := RX3) C rfl (by decide +kernel) 4 (by decide) (by decide +kernel) rfl dX3_insert_86
      · first | assumption | exact wU_s _ _ _ | exact (wU_n hnf).trans (by assumption) | exact (wU_n hnf.symm).trans (by assumption) | exact (wU_n hne1).trans (by assumption) | exact (wU_n hne1.symm).trans (by assumption) | exact (wU_n hne2).trans (by assumption) | exact (wU_n hne2).trans ((wU_n hne1).trans hh1) | exact (wU_n hne2.symm).trans (by assumption) | exact (wU_n hnf).trans (wU_s _ _ _) | exact (wU_n hnf.symm).trans ((wU_n hne1.symm).trans (by assumption)) | exact (wU_n hnf.symm).trans (wU_s _ _ _)
      · rfl
      refine gd_iconst C dX3_insert_89 ?_
      refine gd_iadd C dX3_insert_90 ?_
      apply gd_put (ci := 3) (Cn := RX3) (T := TX3) (N := 7) (ref := RX3) C rfl (by decide +kernel) tyX3 tyX3_ok nmX3 4 (by decide) (by decide +kernel) rfl rfl dX3_insert_91
      · first | assumption | exact wU_s _ _ _ | exact (wU_n hnf).trans (by assumption) | exact (wU_n hnf.symm).trans (by assumption) | exact (wU_n hne1).trans (by assumption) | exact (wU_n hne1.symm).trans (by assumption) | exact (wU_n hne2).trans (by assumption) | exact (wU_n hne2).trans ((wU_n hne1).trans hh1) | exact (wU_n hne2.symm).trans (by assumption) | exact (wU_n hnf).trans (wU_s _ _ _) | exact (wU_n hnf.symm).trans ((wU_n hne1.symm).trans (by assumption)) | exact (wU_n hnf.symm).trans (wU_s _ _ _)
      · rfl
      · rfl
      · exact Nat.le_of_ble_eq_true rfl
      refine gd_vret C hQ hret dX3_insert_94 ?_ ?_
      · refine ⟨rfl, i, hi1, hi2, hgt, ?_, ?_, ?_, ?_, ?_⟩
        · first | (left; omega) | (right; omega)
        · exact (wU_n hne1.symm).trans ((wU_n hnf).trans (wU_s _ _ _))
        · exact (wU_n hne2.symm).trans (wU_s _ _ _)
        · exact wU_s _ _ _
        · intro y h1 h2 h3
          rw [wU_n h3, wU_n h2, wU_n h1]
          exact hfr y h1 h2 h3
      · decide
    · refine gd_aload_n C dX3_insert_18 rfl ?_
      apply gd_get (ci := 3) (Cn := RX3) (T := TX3) (N := 7) (ref := RX3) C rfl (by decide +kernel) 2 (by decide) (by decide +kernel) rfl dX3_insert_19
      · first | assumption | exact wU_s _ _ _ | exact (wU_n hnf).trans (by assumption) | exact (wU_n hnf.symm).trans (by assumption) | exact (wU_n hne1).trans (by assumption) | exact (wU_n hne1.symm).trans (by assumption) | exact (wU_n hne2).trans (by assumption) | exact (wU_n hne2).trans ((wU_n hne1).trans hh1) | exact (wU_n hne2.symm).trans (by assumption) | exact (wU_n hnf).trans (wU_s _ _ _) | exact (wU_n hnf.symm).trans ((wU_n hne1.symm).trans (by assumption)) | exact (wU_n hnf.symm).trans (wU_s _ _ _)
      · rfl
      refine gd_iload_n C dX3_insert_22 rfl ?_
      refine gd_iconst C dX3_insert_23 ?_
      refine gd_isub C dX3_insert_24 ?_
      apply gd_iald C dX3_insert_25
      · first | assumption | exact wU_s _ _ _ | exact (wU_n hnf).trans (by assumption) | exact (wU_n hnf.symm).trans (by assumption) | exact (wU_n hne1).trans (by assumption) | exact (wU_n hne1.symm).trans (by assumption) | exact (wU_n hne2).trans (by assumption) | exact (wU_n hne2).trans ((wU_n hne1).trans hh1) | exact (wU_n hne2.symm).trans (by assumption) | exact (wU_n hnf).trans (wU_s _ _ _) | exact (wU_n hnf.symm).trans ((wU_n hne1.symm).trans (by assumption)) | exact (wU_n hnf.symm).trans (wU_s _ _ _)
      · decide
      · omega
      rw [e1]
      refine gd_callS (n := 1) C (kX3_rankOf hl (q := nm (i - 1)) hm1) gX3_insert_X3_rankOf rfl ⟨by decide, by decide, by decide +kernel⟩ rfl rfl (Nat.le_of_ble_eq_true rfl) rfl dX3_insert_26 ⟨⟨by decide, by decide⟩, by decide, by decide⟩ (fun _ h => h.elim) ?_
      rintro _ _ ⟨rfl, rfl⟩
      refine gd_iload_n C dX3_insert_29 rfl ?_
      refine gd_callS (n := 1) C (kX3_rankOf hl (q := q) hq) gX3_insert_X3_rankOf rfl ⟨by decide, by decide, by decide +kernel⟩ rfl rfl (Nat.le_of_ble_eq_true rfl) rfl dX3_insert_30 ⟨⟨by decide, by decide⟩, by decide, by decide⟩ (fun _ h => h.elim) ?_
      rintro _ _ ⟨rfl, rfl⟩
      refine gd_icmp_le (tgt := 70) C dX3_insert_33 (by decide) ?_ ?_ (fun hc33 => ?_) (fun hc33 => ?_)
      · omega
      · omega
      · refine gd_aload_n C dX3_insert_70 rfl ?_
        apply gd_get (ci := 3) (Cn := RX3) (T := TX3) (N := 7) (ref := RX3) C rfl (by decide +kernel) 2 (by decide) (by decide +kernel) rfl dX3_insert_71
        · first | assumption | exact wU_s _ _ _ | exact (wU_n hnf).trans (by assumption) | exact (wU_n hnf.symm).trans (by assumption) | exact (wU_n hne1).trans (by assumption) | exact (wU_n hne1.symm).trans (by assumption) | exact (wU_n hne2).trans (by assumption) | exact (wU_n hne2).trans ((wU_n hne1).trans hh1) | exact (wU_n hne2.symm).trans (by assumption) | exact (wU_n hnf).trans (wU_s _ _ _) | exact (wU_n hnf.symm).trans ((wU_n hne1.symm).trans (by assumption)) | exact (wU_n hnf.symm).trans (wU_s _ _ _)
        · rfl
        refine gd_iload_n C dX3_insert_74 rfl ?_
        refine gd_iload_n C dX3_insert_75 rfl ?_
        apply gd_iast C dX3_insert_76
        · first | assumption | exact wU_s _ _ _ | exact (wU_n hnf).trans (by assumption) | exact (wU_n hnf.symm).trans (by assumption) | exact (wU_n hne1).trans (by assumption) | exact (wU_n hne1.symm).trans (by assumption) | exact (wU_n hne2).trans (by assumption) | exact (wU_n hne2).trans ((wU_n hne1).trans hh1) | exact (wU_n hne2.symm).trans (by assumption) | exact (wU_n hnf).trans (wU_s _ _ _) | exact (wU_n hnf.symm).trans ((wU_n hne1.symm).trans (by assumption)) | exact (wU_n hnf.symm).trans (wU_s _ _ _)
        · decide
        · omega
        refine gd_aload_n C dX3_insert_77 rfl ?_
        apply gd_get (ci := 3) (Cn := RX3) (T := TX3) (N := 7) (ref := RX3) C rfl (by decide +kernel) 3 (by decide) (by decide +kernel) rfl dX3_insert_78
        · first | assumption | exact wU_s _ _ _ | exact (wU_n hnf).trans (by assumption) | exact (wU_n hnf.symm).trans (by assumption) | exact (wU_n hne1).trans (by assumption) | exact (wU_n hne1.symm).trans (by assumption) | exact (wU_n hne2).trans (by assumption) | exact (wU_n hne2).trans ((wU_n hne1).trans hh1) | exact (wU_n hne2.symm).trans (by assumption) | exact (wU_n hnf).trans (wU_s _ _ _) | exact (wU_n hnf.symm).trans ((wU_n hne1.symm).trans (by assumption)) | exact (wU_n hnf.symm).trans (wU_s _ _ _)
        · rfl
        refine gd_iload_n C dX3_insert_81 rfl ?_
        refine gd_iload_n C dX3_insert_82 rfl ?_
        apply gd_iast C dX3_insert_83
        · first | assumption | exact wU_s _ _ _ | exact (wU_n hnf).trans (by assumption) | exact (wU_n hnf.symm).trans (by assumption) | exact (wU_n hne1).trans (by assumption) | exact (wU_n hne1.symm).trans (by assumption) | exact (wU_n hne2).trans (by assumption) | exact (wU_n hne2).trans ((wU_n hne1).trans hh1) | exact (wU_n hne2.symm).trans (by assumption) | exact (wU_n hnf).trans (wU_s _ _ _) | exact (wU_n hnf.symm).trans ((wU_n hne1.symm).trans (by assumption)) | exact (wU_n hnf.symm).trans (wU_s _ _ _)
        · decide
        · omega
        refine gd_aload_n C dX3_insert_84 rfl ?_
        refine gd_dup C dX3_insert_85 rfl ?_
        apply gd_get (ci := 3) (Cn := RX3) (T := TX3) (N := 7) (ref := RX3) C rfl (by decide +kernel) 4 (by decide) (by decide +kernel) rfl dX3_insert_86
        · first | assumption | exact wU_s _ _ _ | exact (wU_n hnf).trans (by assumption) | exact (wU_n hnf.symm).trans (by assumption) | exact (wU_n hne1).trans (by assumption) | exact (wU_n hne1.symm).trans (by assumption) | exact (wU_n hne2).trans (by assumption) | exact (wU_n hne2).trans ((wU_n hne1).trans hh1) | exact (wU_n hne2.symm).trans (by assumption) | exact (wU_n hnf).trans (wU_s _ _ _) | exact (wU_n hnf.symm).trans ((wU_n hne1.symm).trans (by assumption)) | exact (wU_n hnf.symm).trans (wU_s _ _ _)
        · rfl
        refine gd_iconst C dX3_insert_89 ?_
        refine gd_iadd C dX3_insert_90 ?_
        apply gd_put (ci := 3) (Cn := RX3) (T := TX3) (N := 7) (ref := RX3) C rfl (by decide +kernel) tyX3 tyX3_ok nmX3 4 (by decide) (by decide +kernel) rfl rfl dX3_insert_91
        · first | assumption | exact wU_s _ _ _ | exact (wU_n hnf).trans (by assumption) | exact (wU_n hnf.symm).trans (by assumption) | exact (wU_n hne1).trans (by assumption) | exact (wU_n hne1.symm).trans (by assumption) | exact (wU_n hne2).trans (by assumption) | exact (wU_n hne2).trans ((wU_n hne1).trans hh1) | exact (wU_n hne2.symm).trans (by assumption) | exact (wU_n hnf).trans (wU_s _ _ _) | exact (wU_n hnf.symm).trans ((wU_n hne1.symm).trans (by assumption)) | exact (wU_n hnf.symm).trans (wU_s _ _ _)
        · rfl
        · rfl
        · exact Nat.le_of_ble_eq_true rfl
        refine gd_vret C hQ hret dX3_insert_94 ?_ ?_
        · refine ⟨rfl, i, hi1, hi2, hgt, ?_, ?_, ?_, ?_, ?_⟩
          · first | (left; omega) | (right; omega)
          · exact (wU_n hne1.symm).trans ((wU_n hnf).trans (wU_s _ _ _))
          · exact (wU_n hne2.symm).trans (wU_s _ _ _)
          · exact wU_s _ _ _
          · intro y h1 h2 h3
            rw [wU_n h3, wU_n h2, wU_n h1]
            exact hfr y h1 h2 h3
        · decide
      · refine gd_aload_n C dX3_insert_36 rfl ?_
        apply gd_get (ci := 3) (Cn := RX3) (T := TX3) (N := 7) (ref := RX3) C rfl (by decide +kernel) 2 (by decide) (by decide +kernel) rfl dX3_insert_37
        · first | assumption | exact wU_s _ _ _ | exact (wU_n hnf).trans (by assumption) | exact (wU_n hnf.symm).trans (by assumption) | exact (wU_n hne1).trans (by assumption) | exact (wU_n hne1.symm).trans (by assumption) | exact (wU_n hne2).trans (by assumption) | exact (wU_n hne2).trans ((wU_n hne1).trans hh1) | exact (wU_n hne2.symm).trans (by assumption) | exact (wU_n hnf).trans (wU_s _ _ _) | exact (wU_n hnf.symm).trans ((wU_n hne1.symm).trans (by assumption)) | exact (wU_n hnf.symm).trans (wU_s _ _ _)
        · rfl
        refine gd_iload_n C dX3_insert_40 rfl ?_
        refine gd_aload_n C dX3_insert_41 rfl ?_
        apply gd_get (ci := 3) (Cn := RX3) (T := TX3) (N := 7) (ref := RX3) C rfl (by decide +kernel) 2 (by decide) (by decide +kernel) rfl dX3_insert_42
        · first | assumption | exact wU_s _ _ _ | exact (wU_n hnf).trans (by assumption) | exact (wU_n hnf.symm).trans (by assumption) | exact (wU_n hne1).trans (by assumption) | exact (wU_n hne1.symm).trans (by assumption) | exact (wU_n hne2).trans (by assumption) | exact (wU_n hne2).trans ((wU_n hne1).trans hh1) | exact (wU_n hne2.symm).trans (by assumption) | exact (wU_n hnf).trans (wU_s _ _ _) | exact (wU_n hnf.symm).trans ((wU_n hne1.symm).trans (by assumption)) | exact (wU_n hnf.symm).trans (wU_s _ _ _)
        · rfl
        refine gd_iload_n C dX3_insert_45 rfl ?_
        refine gd_iconst C dX3_insert_46 ?_
        refine gd_isub C dX3_insert_47 ?_
        apply gd_iald C dX3_insert_48
        · first | assumption | exact wU_s _ _ _ | exact (wU_n hnf).trans (by assumption) | exact (wU_n hnf.symm).trans (by assumption) | exact (wU_n hne1).trans (by assumption) | exact (wU_n hne1.symm).trans (by assumption) | exact (wU_n hne2).trans (by assumption) | exact (wU_n hne2).trans ((wU_n hne1).trans hh1) | exact (wU_n hne2.symm).trans (by assumption) | exact (wU_n hnf).trans (wU_s _ _ _) | exact (wU_n hnf.symm).trans ((wU_n hne1.symm).trans (by assumption)) | exact (wU_n hnf.symm).trans (wU_s _ _ _)
        · decide
        · omega
        apply gd_iast C dX3_insert_49
        · first | assumption | exact wU_s _ _ _ | exact (wU_n hnf).trans (by assumption) | exact (wU_n hnf.symm).trans (by assumption) | exact (wU_n hne1).trans (by assumption) | exact (wU_n hne1.symm).trans (by assumption) | exact (wU_n hne2).trans (by assumption) | exact (wU_n hne2).trans ((wU_n hne1).trans hh1) | exact (wU_n hne2.symm).trans (by assumption) | exact (wU_n hnf).trans (wU_s _ _ _) | exact (wU_n hnf.symm).trans ((wU_n hne1.symm).trans (by assumption)) | exact (wU_n hnf.symm).trans (wU_s _ _ _)
        · decide
        · omega
        refine gd_aload_n C dX3_insert_50 rfl ?_
        apply gd_get (ci := 3) (Cn := RX3) (T := TX3) (N := 7) (ref := RX3) C rfl (by decide +kernel) 3 (by decide) (by decide +kernel) rfl dX3_insert_51
        · first | assumption | exact wU_s _ _ _ | exact (wU_n hnf).trans (by assumption) | exact (wU_n hnf.symm).trans (by assumption) | exact (wU_n hne1).trans (by assumption) | exact (wU_n hne1.symm).trans (by assumption) | exact (wU_n hne2).trans (by assumption) | exact (wU_n hne2).trans ((wU_n hne1).trans hh1) | exact (wU_n hne2.symm).trans (by assumption) | exact (wU_n hnf).trans (wU_s _ _ _) | exact (wU_n hnf.symm).trans ((wU_n hne1.symm).trans (by assumption)) | exact (wU_n hnf.symm).trans (wU_s _ _ _)
        · rfl
        refine gd_iload_n C dX3_insert_54 rfl ?_
        refine gd_aload_n C dX3_insert_55 rfl ?_
        apply gd_get (ci := 3) (Cn := RX3) (T := TX3) (N := 7) (ref := RX3) C rfl (by decide +kernel) 3 (by decide) (by decide +kernel) rfl dX3_insert_56
        · first | assumption | exact wU_s _ _ _ | exact (wU_n hnf).trans (by assumption) | exact (wU_n hnf.symm).trans (by assumption) | exact (wU_n hne1).trans (by assumption) | exact (wU_n hne1.symm).trans (by assumption) | exact (wU_n hne2).trans (by assumption) | exact (wU_n hne2).trans ((wU_n hne1).trans hh1) | exact (wU_n hne2.symm).trans (by assumption) | exact (wU_n hnf).trans (wU_s _ _ _) | exact (wU_n hnf.symm).trans ((wU_n hne1.symm).trans (by assumption)) | exact (wU_n hnf.symm).trans (wU_s _ _ _)
        · rfl
        refine gd_iload_n C dX3_insert_59 rfl ?_
        refine gd_iconst C dX3_insert_60 ?_
        refine gd_isub C dX3_insert_61 ?_
        apply gd_iald C dX3_insert_62
        · first | assumption | exact wU_s _ _ _ | exact (wU_n hnf).trans (by assumption) | exact (wU_n hnf.symm).trans (by assumption) | exact (wU_n hne1).trans (by assumption) | exact (wU_n hne1.symm).trans (by assumption) | exact (wU_n hne2).trans (by assumption) | exact (wU_n hne2).trans ((wU_n hne1).trans hh1) | exact (wU_n hne2.symm).trans (by assumption) | exact (wU_n hnf).trans (wU_s _ _ _) | exact (wU_n hnf.symm).trans ((wU_n hne1.symm).trans (by assumption)) | exact (wU_n hnf.symm).trans (wU_s _ _ _)
        · decide
        · omega
        apply gd_iast C dX3_insert_63
        · first | assumption | exact wU_s _ _ _ | exact (wU_n hnf).trans (by assumption) | exact (wU_n hnf.symm).trans (by assumption) | exact (wU_n hne1).trans (by assumption) | exact (wU_n hne1.symm).trans (by assumption) | exact (wU_n hne2).trans (by assumption) | exact (wU_n hne2).trans ((wU_n hne1).trans hh1) | exact (wU_n hne2.symm).trans (by assumption) | exact (wU_n hnf).trans (wU_s _ _ _) | exact (wU_n hnf.symm).trans ((wU_n hne1.symm).trans (by assumption)) | exact (wU_n hnf.symm).trans (wU_s _ _ _)
        · decide
        · omega
        refine gd_iinc C dX3_insert_64 rfl ?_
        refine gd_goto (tgt := 14) C dX3_insert_67 (by decide) ?_
        exact ih _ (by omega) _ _ (by omega) (by omega) rfl (by rw [show i + -1 = i - 1 by omega, ← shF_s (by omega)]; exact (wU_n hnf).trans (by rw [wU_s, e1])) (by rw [show i + -1 = i - 1 by omega, ← shF_s (by omega)]; exact (wU_s _ _ _).trans (by rw [e2])) ((wU_n hne2).trans ((wU_n hne1).trans hh1)) (fun y h1 h2 h3 => (wU_n h2).trans ((wU_n h1).trans (hfr y h1 h2 h3))) (fun j h1 h2 => by
          by_cases hj : j = i - 1
          · subst hj
            omega
          · exact hgt j (by omega) h2)
  · refine gd_vret C hQ hret dX3_insert_8 ?_ ?_
    · exfalso; omega
    · decide

set_option maxRecDepth 100000 in
set_option maxHeartbeats 4000000 in
theorem kX3_takeOut {l : Launch} {D : va_G} {ky : Nat → ClassId} {z : Nat} {w : WT} (hl : l.stackTraces = false) {h na fa : Nat} {lo co ct : Int} {bk nx : Option Nat} (hh : w h = some (cL na fa lo co ct bk nx)) {nm : Int → Int} (hn : w na = some (iA (ky 0) 4 nm)) (hc : 0 ≤ ct ∧ ct ≤ 4) (hm : ∀ i, 0 ≤ nm i ∧ nm i ≤ 999) {fl : Int → Int} (hf : w fa = some (iA (ky 0) 4 fl)) (hnf : na ≠ fa) {q p0 : Int} (hq : InR q) (hp : fF (fun j => nm j = q) 0 ct = p0) (hp0 : 0 ≤ p0 ∧ p0 < ct) : Mt l D ky z yX3_takeOut wsX3_takeOut { frames := 1, cells := 0, slots := 0, locals := 22 } [.ref h, .int (iI q)] w (fun r w' => r = none ∧ w' na = some (iA (ky 0) 4 (rmF nm p0 ct)) ∧ w' fa = some (iA (ky 0) 4 (rmF fl p0 ct)) ∧ w' h = some (cL na fa lo co (ct - 1) bk nx) ∧ ∀ y, y ≠ na → y ≠ fa → y ≠ h → w' y = w y) (fun _ => False) := by
  refine Mt.of (cc := cX3_takeOut) (ret := none) (maxL := 4) (by decide) rfl (by intro v hv; simp at hv; rcases hv with rfl | rfl <;> rfl) (Nat.le_of_ble_eq_true rfl) ?_ hl
  intro p e s m args below meth c C htab hret hname Q hQ
  have hne1 : h ≠ na := kd_ne hh hn
  have hne2 : h ≠ fa := kd_ne hh hf
  refine gd_aload_n C dX3_takeOut_0 rfl ?_
  refine gd_iload_n C dX3_takeOut_1 rfl ?_
  refine gd_callV (n := 1) (ci := 3) (Cn := RX3) (T := TX3) (N := 7) C (kX3_indexOf hl hh hn hc hm (q := q) hq) ?_ rfl gX3_takeOut_X3_indexOf rfl ⟨rfl, by decide, by decide, by decide +kernel⟩ rfl rfl (Nat.le_of_ble_eq_true rfl) rfl dX3_takeOut_2 ⟨⟨by decide, by decide⟩, by decide, by decide⟩ (fun _ h => h.elim) ?_
  · exact ⟨_, by first | assumption | exact wU_s _ _ _ | exact look1 (by assumption) (by assumption) | exact look2 (by assumption) (by assumption)⟩
  rintro _ _ ⟨rfl, rfl⟩
  rw [hp]
  refine gd_istore_n C dX3_takeOut_5 (Nat.le_of_ble_eq_true rfl) ?_
  refine gd_iload_n C dX3_takeOut_6 rfl ?_
  refine gd_if_ge (tgt := 11) C dX3_takeOut_7 (by decide) ?_ (fun hc7 => ?_) (fun hc7 => ?_)
  · omega
  · refine gd_aload_n C dX3_takeOut_11 rfl ?_
    refine gd_dup C dX3_takeOut_12 rfl ?_
    apply gd_get (ci := 3) (Cn := RX3) (T := TX3) (N := 7) (ref := RX3) C rfl (by decide +kernel) 4 (by decide) (by decide +kernel) rfl dX3_takeOut_13
    · first | assumption | exact wU_s _ _ _ | exact (wU_n hnf).trans (by assumption) | exact (wU_n hnf.symm).trans (by assumption) | exact (wU_n hne1).trans (by assumption) | exact (wU_n hne1.symm).trans (by assumption) | exact (wU_n hne2).trans (by assumption) | exact (wU_n hne2).trans ((wU_n hne1).trans hh1) | exact (wU_n hne2.symm).trans (by assumption) | exact (wU_n hnf).trans (wU_s _ _ _) | exact (wU_n hnf.symm).trans ((wU_n hne1.symm).trans (by assumption)) | exact (wU_n hnf.symm).trans (wU_s _ _ _)
    · rfl
    refine gd_iconst C dX3_takeOut_16 ?_
    refine gd_isub C dX3_takeOut_17 ?_
    apply gd_put (ci := 3) (Cn := RX3) (T := TX3) (N := 7) (ref := RX3) C rfl (by decide +kernel) tyX3 tyX3_ok nmX3 4 (by decide) (by decide +kernel) rfl rfl dX3_takeOut_18
    · first | assumption | exact wU_s _ _ _ | exact (wU_n hnf).trans (by assumption) | exact (wU_n hnf.symm).trans (by assumption) | exact (wU_n hne1).trans (by assumption) | exact (wU_n hne1.symm).trans (by assumption) | exact (wU_n hne2).trans (by assumption) | exact (wU_n hne2).trans ((wU_n hne1).trans hh1) | exact (wU_n hne2.symm).trans (by assumption) | exact (wU_n hnf).trans (wU_s _ _ _) | exact (wU_n hnf.symm).trans ((wU_n hne1.symm).trans (by assumption)) | exact (wU_n hnf.symm).trans (wU_s _ _ _)
    · rfl
    · rfl
    · exact Nat.le_of_ble_eq_true rfl
    refine gd_iload_n C dX3_takeOut_21 rfl ?_
    refine gd_istore_n C dX3_takeOut_22 (Nat.le_of_ble_eq_true rfl) ?_
    suffices hloop : ∀ (n : Nat) (i : Int) (w1 : WT), p0 ≤ i → i < ct → (ct - i).toNat = n → w1 na = some (iA (ky 0) 4 (rmF nm p0 (i + 1))) → w1 fa = some (iA (ky 0) 4 (rmF fl p0 (i + 1))) → w1 h = some (cL na fa lo co (ct - 1) bk nx) → (∀ y, y ≠ na → y ≠ fa → y ≠ h → w1 y = w y) → Gd p l e ({ frames := 1, cells := 0, slots := 0, locals := 22 }) s m args below meth c D z Q 0 0 w1 23 [some (.ref h), some (.int (iI q)), some (.int (iI p0)), some (.int (iI i))] [] from
      hloop _ p0 (wU w h (cL na fa lo co (ct - 1) bk nx)) (by omega) (by omega) rfl (by rw [rmF_0]; exact (wU_n hne1.symm).trans hn) (by rw [rmF_0]; exact (wU_n hne2.symm).trans hf) (wU_s _ _ _) (fun y h1 h2 h3 => wU_n h3)
    intro n
    induction n using Nat.strongRecOn with
    | _ n ih =>
    intro i w1 hi1 hi2 hn9 hn1 hf1 hh1 hfr
    have e1 : rmF nm p0 (i + 1) (i + 1) = nm (i + 1) := rmF_at (by omega)
    have e2 : rmF fl p0 (i + 1) (i + 1) = fl (i + 1) := rmF_at (by omega)
    refine gd_iload_n C dX3_takeOut_23 rfl ?_
    refine gd_aload_n C dX3_takeOut_24 rfl ?_
    apply gd_get (ci := 3) (Cn := RX3) (T := TX3) (N := 7) (ref := RX3) C rfl (by decide +kernel) 4 (by decide) (by decide +kernel) rfl dX3_takeOut_25
    · first | assumption | exact wU_s _ _ _ | exact (wU_n hnf).trans (by assumption) | exact (wU_n hnf.symm).trans (by assumption) | exact (wU_n hne1).trans (by assumption) | exact (wU_n hne1.symm).trans (by assumption) | exact (wU_n hne2).trans (by assumption) | exact (wU_n hne2).trans ((wU_n hne1).trans hh1) | exact (wU_n hne2.symm).trans (by assumption) | exact (wU_n hnf).trans (wU_s _ _ _) | exact (wU_n hnf.symm).trans ((wU_n hne1.symm).trans (by assumption)) | exact (wU_n hnf.symm).trans (wU_s _ _ _)
    · rfl
    refine gd_icmp_ge (tgt := 65) C dX3_takeOut_28 (by decide) ?_ ?_ (fun hc28 => ?_) (fun hc28 => ?_)
    · omega
    · omega
    · refine gd_vret C hQ hret dX3_takeOut_65 ?_ ?_
      · refine ⟨rfl, ?_, ?_, hh1, hfr⟩
        · rw [show ct = i + 1 by omega]; exact hn1
        · rw [show ct = i + 1 by omega]; exact hf1
      · decide
    · refine gd_aload_n C dX3_takeOut_31 rfl ?_
      apply gd_get (ci := 3) (Cn := RX3) (T := TX3) (N := 7) (ref := RX3) C rfl (by decide +kernel) 2 (by decide) (by decide +kernel) rfl dX3_takeOut_32
      · first | assumption | exact wU_s _ _ _ | exact (wU_n hnf).trans (by assumption) | exact (wU_n hnf.symm).trans (by assumption) | exact (wU_n hne1).trans (by assumption) | exact (wU_n hne1.symm).trans (by assumption) | exact (wU_n hne2).trans (by assumption) | exact (wU_n hne2).trans ((wU_n hne1).trans hh1) | exact (wU_n hne2.symm).trans (by assumption) | exact (wU_n hnf).trans (wU_s _ _ _) | exact (wU_n hnf.symm).trans ((wU_n hne1.symm).trans (by assumption)) | exact (wU_n hnf.symm).trans (wU_s _ _ _)
      · rfl
      refine gd_iload_n C dX3_takeOut_35 rfl ?_
      refine gd_aload_n C dX3_takeOut_36 rfl ?_
      apply gd_get (ci := 3) (Cn := RX3) (T := TX3) (N := 7) (ref := RX3) C rfl (by decide +kernel) 2 (by decide) (by decide +kernel) rfl dX3_takeOut_37
      · first | assumption | exact wU_s _ _ _ | exact (wU_n hnf).trans (by assumption) | exact (wU_n hnf.symm).trans (by assumption) | exact (wU_n hne1).trans (by assumption) | exact (wU_n hne1.symm).trans (by assumption) | exact (wU_n hne2).trans (by assumption) | exact (wU_n hne2).trans ((wU_n hne1).trans hh1) | exact (wU_n hne2.symm).trans (by assumption) | exact (wU_n hnf).trans (wU_s _ _ _) | exact (wU_n hnf.symm).trans ((wU_n hne1.symm).trans (by assumption)) | exact (wU_n hnf.symm).trans (wU_s _ _ _)
      · rfl
      refine gd_iload_n C dX3_takeOut_40 rfl ?_
      refine gd_iconst C dX3_takeOut_41 ?_
      refine gd_iadd C dX3_takeOut_42 ?_
      apply gd_iald C dX3_takeOut_43
      · first | assumption | exact wU_s _ _ _ | exact (wU_n hnf).trans (by assumption) | exact (wU_n hnf.symm).trans (by assumption) | exact (wU_n hne1).trans (by assumption) | exact (wU_n hne1.symm).trans (by assumption) | exact (wU_n hne2).trans (by assumption) | exact (wU_n hne2).trans ((wU_n hne1).trans hh1) | exact (wU_n hne2.symm).trans (by assumption) | exact (wU_n hnf).trans (wU_s _ _ _) | exact (wU_n hnf.symm).trans ((wU_n hne1.symm).trans (by assumption)) | exact (wU_n hnf.symm).trans (wU_s _ _ _)
      · decide
      · omega
      apply gd_iast C dX3_takeOut_44
      · first | assumption | exact wU_s _ _ _ | exact (wU_n hnf).trans (by assumption) | exact (wU_n hnf.symm).trans (by assumption) | exact (wU_n hne1).trans (by assumption) | exact (wU_n hne1.symm).trans (by assumption) | exact (wU_n hne2).trans (by assumption) | exact (wU_n hne2).trans ((wU_n hne1).trans hh1) | exact (wU_n hne2.symm).trans (by assumption) | exact (wU_n hnf).trans (wU_s _ _ _) | exact (wU_n hnf.symm).trans ((wU_n hne1.symm).trans (by assumption)) | exact (wU_n hnf.symm).trans (wU_s _ _ _)
      · decide
      · omega
      refine gd_aload_n C dX3_takeOut_45 rfl ?_
      apply gd_get (ci := 3) (Cn := RX3) (T := TX3) (N := 7) (ref := RX3) C rfl (by decide +kernel) 3 (by decide) (by decide +kernel) rfl dX3_takeOut_46
      · first | assumption | exact wU_s _ _ _ | exact (wU_n hnf).trans (by assumption) | exact (wU_n hnf.symm).trans (by assumption) | exact (wU_n hne1).trans (by assumption) | exact (wU_n hne1.symm).trans (by assumption) | exact (wU_n hne2).trans (by assumption) | exact (wU_n hne2).trans ((wU_n hne1).trans hh1) | exact (wU_n hne2.symm).trans (by assumption) | exact (wU_n hnf).trans (wU_s _ _ _) | exact (wU_n hnf.symm).trans ((wU_n hne1.symm).trans (by assumption)) | exact (wU_n hnf.symm).trans (wU_s _ _ _)
      · rfl
      refine gd_iload_n C dX3_takeOut_49 rfl ?_
      refine gd_aload_n C dX3_takeOut_50 rfl ?_
      apply gd_get (ci := 3) (Cn := RX3) (T := TX3) (N := 7) (ref := RX3) C rfl (by decide +kernel) 3 (by decide) (by decide +kernel) rfl dX3_takeOut_51
      · first | assumption | exact wU_s _ _ _ | exact (wU_n hnf).trans (by assumption) | exact (wU_n hnf.symm).trans (by assumption) | exact (wU_n hne1).trans (by assumption) | exact (wU_n hne1.symm).trans (by assumption) | exact (wU_n hne2).trans (by assumption) | exact (wU_n hne2).trans ((wU_n hne1).trans hh1) | exact (wU_n hne2.symm).trans (by assumption) | exact (wU_n hnf).trans (wU_s _ _ _) | exact (wU_n hnf.symm).trans ((wU_n hne1.symm).trans (by assumption)) | exact (wU_n hnf.symm).trans (wU_s _ _ _)
      · rfl
      refine gd_iload_n C dX3_takeOut_54 rfl ?_
      refine gd_iconst C dX3_takeOut_55 ?_
      refine gd_iadd C dX3_takeOut_56 ?_
      apply gd_iald C dX3_takeOut_57
      · first | assumption | exact wU_s _ _ _ | exact (wU_n hnf).trans (by assumption) | exact (wU_n hnf.symm).trans (by assumption) | exact (wU_n hne1).trans (by assumption) | exact (wU_n hne1.symm).trans (by assumption) | exact (wU_n hne2).trans (by assumption) | exact (wU_n hne2).trans ((wU_n hne1).trans hh1) | exact (wU_n hne2.symm).trans (by assumption) | exact (wU_n hnf).trans (wU_s _ _ _) | exact (wU_n hnf.symm).trans ((wU_n hne1.symm).trans (by assumption)) | exact (wU_n hnf.symm).trans (wU_s _ _ _)
      · decide
      · omega
      apply gd_iast C dX3_takeOut_58
      · first | assumption | exact wU_s _ _ _ | exact (wU_n hnf).trans (by assumption) | exact (wU_n hnf.symm).trans (by assumption) | exact (wU_n hne1).trans (by assumption) | exact (wU_n hne1.symm).trans (by assumption) | exact (wU_n hne2).trans (by assumption) | exact (wU_n hne2).trans ((wU_n hne1).trans hh1) | exact (wU_n hne2.symm).trans (by assumption) | exact (wU_n hnf).trans (wU_s _ _ _) | exact (wU_n hnf.symm).trans ((wU_n hne1.symm).trans (by assumption)) | exact (wU_n hnf.symm).trans (wU_s _ _ _)
      · decide
      · omega
      refine gd_iinc C dX3_takeOut_59 rfl ?_
      refine gd_goto (tgt := 23) C dX3_takeOut_62 (by decide) ?_
      exact ih _ (by omega) _ _ (by omega) (by omega) rfl ((wU_n hnf).trans ((wU_s _ _ _).trans (by rw [e1, rmF_s (by omega)]))) ((wU_s _ _ _).trans (by rw [e2, rmF_s (by omega)])) ((wU_n hne2).trans ((wU_n hne1).trans hh1)) (fun y h1 h2 h3 => (wU_n h2).trans ((wU_n h1).trans (hfr y h1 h2 h3)))
  · refine gd_vret C hQ hret dX3_takeOut_10 ?_ ?_
    · exfalso; omega
    · decide

set_option maxRecDepth 100000 in
set_option maxHeartbeats 4000000 in
theorem kX3_init {l : Launch} {D : va_G} {ky : Nat → ClassId} {z : Nat} {w : WT} (hl : l.stackTraces = false) {h : Nat} {x y : Int} (hh : w h = some (oB 3 [.int 0, .int 0, .null, .null, .int 0, .null, .null])) (hy : y = 0 ∨ y = 1) : Mt l D ky z yX3_init wsX3_init { frames := 1, cells := 2, slots := 8, locals := 20 } [.ref h, .int (iI x), .int (iI y)] w (fun r w' => r = none ∧ ∃ na fa : Nat, w na = none ∧ w fa = none ∧ na ≠ fa ∧ w' na = some (iA (ky 0) 4 (fun _ => 0)) ∧ w' fa = some (iA (ky 0) 4 (fun _ => 0)) ∧ w' h = some (cL na fa x y 0 none none) ∧ ∀ y, y ≠ na → y ≠ fa → y ≠ h → w' y = w y) (fun _ => False) := by
  refine Mt.of (cc := cX3_init) (ret := none) (maxL := 3) (by decide) rfl (by intro v hv; simp at hv; rcases hv with rfl | rfl | rfl <;> rfl) (Nat.le_of_ble_eq_true rfl) ?_ hl
  intro p e s m args below meth c C htab hret hname Q hQ
  refine gd_aload_n C dX3_init_0 rfl ?_
  refine gd_objInit C (by decide +kernel) (by decide +kernel) (by decide +kernel) rfl dX3_init_1 ⟨by decide, Nat.le_of_ble_eq_true rfl⟩ ?_
  refine gd_aload_n C dX3_init_4 rfl ?_
  refine gd_iconst C dX3_init_5 ?_
  refine gd_newI (N := 4) C (by decide +kernel) dX3_init_6 ⟨rfl, by decide⟩ ⟨by decide, by decide⟩ ?_
  intro a6 hx6
  have hh6 := new_at (y := iA (ky 0) 4 (fun _ => 0)) hx6 hh
  have hq6 : w h ≠ none := by rw [hh]; exact fun h => nomatch h
  have hs6 := wU_s w a6 (iA (ky 0) 4 (fun _ => 0))
  apply gd_putF (ci := 3) (Cn := RX3) (T := TX3) (N := 7) (ref := RX3) C rfl (by decide +kernel) tyX3 tyX3_ok nmX3 2 (by decide) (by decide +kernel) rfl rfl hname rfl dX3_init_8
  · first | assumption | exact wU_s _ _ _ | exact (wU_n hnf).trans (by assumption) | exact (wU_n hnf.symm).trans (by assumption) | exact (wU_n hne1).trans (by assumption) | exact (wU_n hne1.symm).trans (by assumption) | exact (wU_n hne2).trans (by assumption) | exact (wU_n hne2).trans ((wU_n hne1).trans hh1) | exact (wU_n hne2.symm).trans (by assumption) | exact (wU_n hnf).trans (wU_s _ _ _) | exact (wU_n hnf.symm).trans ((wU_n hne1.symm).trans (by assumption)) | exact (wU_n hnf.symm).trans (wU_s _ _ _)
  · rfl
  · rfl
  · exact Nat.le_of_ble_eq_true rfl
  refine gd_aload_n C dX3_init_11 rfl ?_
  refine gd_iconst C dX3_init_12 ?_
  refine gd_newI (N := 4) C (by decide +kernel) dX3_init_13 ⟨rfl, by decide⟩ ⟨by decide, by decide⟩ ?_
  intro a13 hx13
  have hs13 := wU_s (wU (wU w a6 (iA (ky 0) 4 (fun _ => 0))) h (oB 3 [.int 0, .int 0, .ref a6, .null, .int 0, .null, .null])) a13 (iA (ky 0) 4 (fun _ => 0))
  have hh13 := new_at (y := iA (ky 0) 4 (fun _ => 0)) hx13 (wU_s (wU w a6 (iA (ky 0) 4 (fun _ => 0))) h (oB 3 [.int 0, .int 0, .ref a6, .null, .int 0, .null, .null]))
  apply gd_putF (ci := 3) (Cn := RX3) (T := TX3) (N := 7) (ref := RX3) C rfl (by decide +kernel) tyX3 tyX3_ok nmX3 3 (by decide) (by decide +kernel) rfl rfl hname rfl dX3_init_15
  · first | assumption | exact wU_s _ _ _ | exact (wU_n hnf).trans (by assumption) | exact (wU_n hnf.symm).trans (by assumption) | exact (wU_n hne1).trans (by assumption) | exact (wU_n hne1.symm).trans (by assumption) | exact (wU_n hne2).trans (by assumption) | exact (wU_n hne2).trans ((wU_n hne1).trans hh1) | exact (wU_n hne2.symm).trans (by assumption) | exact (wU_n hnf).trans (wU_s _ _ _) | exact (wU_n hnf.symm).trans ((wU_n hne1.symm).trans (by assumption)) | exact (wU_n hnf.symm).trans (wU_s _ _ _)
  · rfl
  · rfl
  · exact Nat.le_of_ble_eq_true rfl
  refine gd_aload_n C dX3_init_18 rfl ?_
  refine gd_iconst C dX3_init_19 ?_
  apply gd_put (ci := 3) (Cn := RX3) (T := TX3) (N := 7) (ref := RX3) C rfl (by decide +kernel) tyX3 tyX3_ok nmX3 4 (by decide) (by decide +kernel) rfl rfl dX3_init_20
  · first | assumption | exact wU_s _ _ _ | exact (wU_n hnf).trans (by assumption) | exact (wU_n hnf.symm).trans (by assumption) | exact (wU_n hne1).trans (by assumption) | exact (wU_n hne1.symm).trans (by assumption) | exact (wU_n hne2).trans (by assumption) | exact (wU_n hne2).trans ((wU_n hne1).trans hh1) | exact (wU_n hne2.symm).trans (by assumption) | exact (wU_n hnf).trans (wU_s _ _ _) | exact (wU_n hnf.symm).trans ((wU_n hne1.symm).trans (by assumption)) | exact (wU_n hnf.symm).trans (wU_s _ _ _)
  · rfl
  · rfl
  · exact Nat.le_of_ble_eq_true rfl
  refine gd_aload_n C dX3_init_23 rfl ?_
  refine gd_null C dX3_init_24 ?_
  apply gd_put (ci := 3) (Cn := RX3) (T := TX3) (N := 7) (ref := RX3) C rfl (by decide +kernel) tyX3 tyX3_ok nmX3 5 (by decide) (by decide +kernel) rfl rfl dX3_init_25
  · first | assumption | exact wU_s _ _ _ | exact (wU_n hnf).trans (by assumption) | exact (wU_n hnf.symm).trans (by assumption) | exact (wU_n hne1).trans (by assumption) | exact (wU_n hne1.symm).trans (by assumption) | exact (wU_n hne2).trans (by assumption) | exact (wU_n hne2).trans ((wU_n hne1).trans hh1) | exact (wU_n hne2.symm).trans (by assumption) | exact (wU_n hnf).trans (wU_s _ _ _) | exact (wU_n hnf.symm).trans ((wU_n hne1.symm).trans (by assumption)) | exact (wU_n hnf.symm).trans (wU_s _ _ _)
  · rfl
  · rfl
  · exact Nat.le_of_ble_eq_true rfl
  refine gd_aload_n C dX3_init_28 rfl ?_
  refine gd_null C dX3_init_29 ?_
  apply gd_put (ci := 3) (Cn := RX3) (T := TX3) (N := 7) (ref := RX3) C rfl (by decide +kernel) tyX3 tyX3_ok nmX3 6 (by decide) (by decide +kernel) rfl rfl dX3_init_30
  · first | assumption | exact wU_s _ _ _ | exact (wU_n hnf).trans (by assumption) | exact (wU_n hnf.symm).trans (by assumption) | exact (wU_n hne1).trans (by assumption) | exact (wU_n hne1.symm).trans (by assumption) | exact (wU_n hne2).trans (by assumption) | exact (wU_n hne2).trans ((wU_n hne1).trans hh1) | exact (wU_n hne2.symm).trans (by assumption) | exact (wU_n hnf).trans (wU_s _ _ _) | exact (wU_n hnf.symm).trans ((wU_n hne1.symm).trans (by assumption)) | exact (wU_n hnf.symm).trans (wU_s _ _ _)
  · rfl
  · rfl
  · exact Nat.le_of_ble_eq_true rfl
  refine gd_aload_n C dX3_init_33 rfl ?_
  refine gd_iload_n C dX3_init_34 rfl ?_
  apply gd_putF (ci := 3) (Cn := RX3) (T := TX3) (N := 7) (ref := RX3) C rfl (by decide +kernel) tyX3 tyX3_ok nmX3 0 (by decide) (by decide +kernel) rfl rfl hname rfl dX3_init_35
  · first | assumption | exact wU_s _ _ _ | exact (wU_n hnf).trans (by assumption) | exact (wU_n hnf.symm).trans (by assumption) | exact (wU_n hne1).trans (by assumption) | exact (wU_n hne1.symm).trans (by assumption) | exact (wU_n hne2).trans (by assumption) | exact (wU_n hne2).trans ((wU_n hne1).trans hh1) | exact (wU_n hne2.symm).trans (by assumption) | exact (wU_n hnf).trans (wU_s _ _ _) | exact (wU_n hnf.symm).trans ((wU_n hne1.symm).trans (by assumption)) | exact (wU_n hnf.symm).trans (wU_s _ _ _)
  · rfl
  · rfl
  · exact Nat.le_of_ble_eq_true rfl
  refine gd_aload_n C dX3_init_38 rfl ?_
  refine gd_iload_n C dX3_init_39 rfl ?_
  apply gd_putF (ci := 3) (Cn := RX3) (T := TX3) (N := 7) (ref := RX3) C rfl (by decide +kernel) tyX3 tyX3_ok nmX3 1 (by decide) (by decide +kernel) rfl rfl hname rfl dX3_init_40
  · first | assumption | exact wU_s _ _ _ | exact (wU_n hnf).trans (by assumption) | exact (wU_n hnf.symm).trans (by assumption) | exact (wU_n hne1).trans (by assumption) | exact (wU_n hne1.symm).trans (by assumption) | exact (wU_n hne2).trans (by assumption) | exact (wU_n hne2).trans ((wU_n hne1).trans hh1) | exact (wU_n hne2.symm).trans (by assumption) | exact (wU_n hnf).trans (wU_s _ _ _) | exact (wU_n hnf.symm).trans ((wU_n hne1.symm).trans (by assumption)) | exact (wU_n hnf.symm).trans (wU_s _ _ _)
  · exact nar_b (by omega)
  · exact (nar_t (Or.inr rfl) (fun _ => by omega)).2
  · exact Nat.le_of_ble_eq_true rfl
  refine gd_vret C hQ hret dX3_init_43 ?_ ?_
  · have hne1 : h ≠ a6 := new_ne hx6 hh
    have hne3 : a13 ≠ h := by
      intro e
      rw [e, wU_s] at hx13
      cases hx13
    have hne2 : a13 ≠ a6 := by
      intro e
      rw [e, wU_n hne1.symm, wU_s] at hx13
      cases hx13
    refine ⟨rfl, a6, a13, hx6, ?_, hne2.symm, ?_, ?_, wU_s _ _ _, ?_⟩
    · rw [wU_n hne3, wU_n hne2] at hx13
      exact hx13
    · simp only [wU_n hne1.symm, wU_n hne2.symm]
      exact wU_s _ _ _
    · simp only [wU_n hne3]
      exact wU_s _ _ _
    · intro y h1 h2 h3
      simp only [wU_n h1, wU_n h2, wU_n h3]
  · decide

set_option maxRecDepth 100000 in
set_option maxHeartbeats 4000000 in
theorem kX3_linkBehind {l : Launch} {D : va_G} {ky : Nat → ClassId} {z : Nat} {w : WT} (hl : l.stackTraces = false) {h g na fa nb fb : Nat} {lo co ct l2 c2 t2 : Int} {bk nx : Option Nat} (hh : w h = some (cL na fa lo co ct bk nx)) (hg : w g = some (cL nb fb l2 c2 t2 none none)) (hne : h ≠ g) (hk : ∀ k, nx = some k → k ≠ h ∧ k ≠ g ∧ ∃ nk fk lk ck tk bq nq, w k = some (cL nk fk lk ck tk bq nq)) : Mt l D ky z yX3_linkBehind wsX3_linkBehind { frames := 0, cells := 0, slots := 0, locals := 0 } [.ref h, .ref g] w (fun r w' => r = none ∧ w' h = some (cL na fa lo co ct bk (some g)) ∧ w' g = some (cL nb fb l2 c2 t2 (some h) nx) ∧ (∀ k, nx = some k → ∀ nk fk lk ck tk bq nq, w k = some (cL nk fk lk ck tk bq nq) → w' k = some (cL nk fk lk ck tk (some g) nq)) ∧ ∀ y, y ≠ h → y ≠ g → nx ≠ some y → w' y = w y) (fun _ => False) := by
  refine Mt.of (cc := cX3_linkBehind) (ret := none) (maxL := 2) (by decide) rfl (by intro v hv; simp at hv; rcases hv with rfl | rfl <;> rfl) (Nat.le_of_ble_eq_true rfl) ?_ hl
  intro p e s m args below meth c C htab hret hname Q hQ
  cases nx with
  | none =>
    refine gd_aload_n C dX3_linkBehind_0 rfl ?_
    refine gd_aload_n C dX3_linkBehind_1 rfl ?_
    apply gd_put (ci := 3) (Cn := RX3) (T := TX3) (N := 7) (ref := RX3) C rfl (by decide +kernel) tyX3 tyX3_ok nmX3 5 (by decide) (by decide +kernel) rfl rfl dX3_linkBehind_2
    · first | assumption | exact wU_s _ _ _ | exact (wU_n hne).trans (by assumption) | exact (wU_n hne.symm).trans (by assumption) | exact (wU_n hne).trans ((wU_n hne).trans (by assumption)) | exact (wU_n hkg).trans ((wU_n hkg).trans hkk) | exact (wU_n hkh.symm).trans ((wU_n hne).trans ((wU_n hne).trans hh))
    · rfl
    · rfl
    · exact Nat.le_of_ble_eq_true rfl
    refine gd_aload_n C dX3_linkBehind_5 rfl ?_
    refine gd_aload_n C dX3_linkBehind_6 rfl ?_
    apply gd_get (ci := 3) (Cn := RX3) (T := TX3) (N := 7) (ref := RX3) C rfl (by decide +kernel) 6 (by decide) (by decide +kernel) rfl dX3_linkBehind_7
    · first | assumption | exact wU_s _ _ _ | exact (wU_n hne).trans (by assumption) | exact (wU_n hne.symm).trans (by assumption) | exact (wU_n hne).trans ((wU_n hne).trans (by assumption)) | exact (wU_n hkg).trans ((wU_n hkg).trans hkk) | exact (wU_n hkh.symm).trans ((wU_n hne).trans ((wU_n hne).trans hh))
    · rfl
    apply gd_put (ci := 3) (Cn := RX3) (T := TX3) (N := 7) (ref := RX3) C rfl (by decide +kernel) tyX3 tyX3_ok nmX3 6 (by decide) (by decide +kernel) rfl rfl dX3_linkBehind_10
    · first | assumption | exact wU_s _ _ _ | exact (wU_n hne).trans (by assumption) | exact (wU_n hne.symm).trans (by assumption) | exact (wU_n hne).trans ((wU_n hne).trans (by assumption)) | exact (wU_n hkg).trans ((wU_n hkg).trans hkk) | exact (wU_n hkh.symm).trans ((wU_n hne).trans ((wU_n hne).trans hh))
    · rfl
    · rfl
    · exact Nat.le_of_ble_eq_true rfl
    refine gd_aload_n C dX3_linkBehind_13 rfl ?_
    apply gd_get (ci := 3) (Cn := RX3) (T := TX3) (N := 7) (ref := RX3) C rfl (by decide +kernel) 6 (by decide) (by decide +kernel) rfl dX3_linkBehind_14
    · first | assumption | exact wU_s _ _ _ | exact (wU_n hne).trans (by assumption) | exact (wU_n hne.symm).trans (by assumption) | exact (wU_n hne).trans ((wU_n hne).trans (by assumption)) | exact (wU_n hkg).trans ((wU_n hkg).trans hkk) | exact (wU_n hkh.symm).trans ((wU_n hne).trans ((wU_n hne).trans hh))
    · rfl
    refine gd_ifnullN (tgt := 28) C dX3_linkBehind_17 (by decide) ?_
    refine gd_aload_n C dX3_linkBehind_28 rfl ?_
    refine gd_aload_n C dX3_linkBehind_29 rfl ?_
    apply gd_put (ci := 3) (Cn := RX3) (T := TX3) (N := 7) (ref := RX3) C rfl (by decide +kernel) tyX3 tyX3_ok nmX3 6 (by decide) (by decide +kernel) rfl rfl dX3_linkBehind_30
    · first | assumption | exact wU_s _ _ _ | exact (wU_n hne).trans (by assumption) | exact (wU_n hne.symm).trans (by assumption) | exact (wU_n hne).trans ((wU_n hne).trans (by assumption)) | exact (wU_n hkg).trans ((wU_n hkg).trans hkk) | exact (wU_n hkh.symm).trans ((wU_n hne).trans ((wU_n hne).trans hh))
    · rfl
    · rfl
    · exact Nat.le_of_ble_eq_true rfl
    refine gd_vret C hQ hret dX3_linkBehind_33 ?_ ?_
    · refine ⟨rfl, wU_s _ _ _, (wU_n hne.symm).trans (wU_s _ _ _), fun k h9 => (by cases h9), fun y h1 h2 h3 => ?_⟩
      rw [wU_n h1, wU_n h2, wU_n h2]
    · decide
  | some k =>
    obtain ⟨hkh, hkg, nk, fk, lk, ck, tk, bq, nq, hkk⟩ := hk k rfl
    refine gd_aload_n C dX3_linkBehind_0 rfl ?_
    refine gd_aload_n C dX3_linkBehind_1 rfl ?_
    apply gd_put (ci := 3) (Cn := RX3) (T := TX3) (N := 7) (ref := RX3) C rfl (by decide +kernel) tyX3 tyX3_ok nmX3 5 (by decide) (by decide +kernel) rfl rfl dX3_linkBehind_2
    · first | assumption | exact wU_s _ _ _ | exact (wU_n hne).trans (by assumption) | exact (wU_n hne.symm).trans (by assumption) | exact (wU_n hne).trans ((wU_n hne).trans (by assumption)) | exact (wU_n hkg).trans ((wU_n hkg).trans hkk) | exact (wU_n hkh.symm).trans ((wU_n hne).trans ((wU_n hne).trans hh))
    · rfl
    · rfl
    · exact Nat.le_of_ble_eq_true rfl
    refine gd_aload_n C dX3_linkBehind_5 rfl ?_
    refine gd_aload_n C dX3_linkBehind_6 rfl ?_
    apply gd_get (ci := 3) (Cn := RX3) (T := TX3) (N := 7) (ref := RX3) C rfl (by decide +kernel) 6 (by decide) (by decide +kernel) rfl dX3_linkBehind_7
    · first | assumption | exact wU_s _ _ _ | exact (wU_n hne).trans (by assumption) | exact (wU_n hne.symm).trans (by assumption) | exact (wU_n hne).trans ((wU_n hne).trans (by assumption)) | exact (wU_n hkg).trans ((wU_n hkg).trans hkk) | exact (wU_n hkh.symm).trans ((wU_n hne).trans ((wU_n hne).trans hh))
    · rfl
    apply gd_put (ci := 3) (Cn := RX3) (T := TX3) (N := 7) (ref := RX3) C rfl (by decide +kernel) tyX3 tyX3_ok nmX3 6 (by decide) (by decide +kernel) rfl rfl dX3_linkBehind_10
    · first | assumption | exact wU_s _ _ _ | exact (wU_n hne).trans (by assumption) | exact (wU_n hne.symm).trans (by assumption) | exact (wU_n hne).trans ((wU_n hne).trans (by assumption)) | exact (wU_n hkg).trans ((wU_n hkg).trans hkk) | exact (wU_n hkh.symm).trans ((wU_n hne).trans ((wU_n hne).trans hh))
    · rfl
    · rfl
    · exact Nat.le_of_ble_eq_true rfl
    refine gd_aload_n C dX3_linkBehind_13 rfl ?_
    apply gd_get (ci := 3) (Cn := RX3) (T := TX3) (N := 7) (ref := RX3) C rfl (by decide +kernel) 6 (by decide) (by decide +kernel) rfl dX3_linkBehind_14
    · first | assumption | exact wU_s _ _ _ | exact (wU_n hne).trans (by assumption) | exact (wU_n hne.symm).trans (by assumption) | exact (wU_n hne).trans ((wU_n hne).trans (by assumption)) | exact (wU_n hkg).trans ((wU_n hkg).trans hkk) | exact (wU_n hkh.symm).trans ((wU_n hne).trans ((wU_n hne).trans hh))
    · rfl
    refine gd_ifnull C dX3_linkBehind_17 ?_
    refine gd_aload_n C dX3_linkBehind_20 rfl ?_
    apply gd_get (ci := 3) (Cn := RX3) (T := TX3) (N := 7) (ref := RX3) C rfl (by decide +kernel) 6 (by decide) (by decide +kernel) rfl dX3_linkBehind_21
    · first | assumption | exact wU_s _ _ _ | exact (wU_n hne).trans (by assumption) | exact (wU_n hne.symm).trans (by assumption) | exact (wU_n hne).trans ((wU_n hne).trans (by assumption)) | exact (wU_n hkg).trans ((wU_n hkg).trans hkk) | exact (wU_n hkh.symm).trans ((wU_n hne).trans ((wU_n hne).trans hh))
    · rfl
    refine gd_aload_n C dX3_linkBehind_24 rfl ?_
    apply gd_put (ci := 3) (Cn := RX3) (T := TX3) (N := 7) (ref := RX3) C rfl (by decide +kernel) tyX3 tyX3_ok nmX3 5 (by decide) (by decide +kernel) rfl rfl dX3_linkBehind_25
    · first | assumption | exact wU_s _ _ _ | exact (wU_n hne).trans (by assumption) | exact (wU_n hne.symm).trans (by assumption) | exact (wU_n hne).trans ((wU_n hne).trans (by assumption)) | exact (wU_n hkg).trans ((wU_n hkg).trans hkk) | exact (wU_n hkh.symm).trans ((wU_n hne).trans ((wU_n hne).trans hh))
    · rfl
    · rfl
    · exact Nat.le_of_ble_eq_true rfl
    refine gd_aload_n C dX3_linkBehind_28 rfl ?_
    refine gd_aload_n C dX3_linkBehind_29 rfl ?_
    apply gd_put (ci := 3) (Cn := RX3) (T := TX3) (N := 7) (ref := RX3) C rfl (by decide +kernel) tyX3 tyX3_ok nmX3 6 (by decide) (by decide +kernel) rfl rfl dX3_linkBehind_30
    · first | assumption | exact wU_s _ _ _ | exact (wU_n hne).trans (by assumption) | exact (wU_n hne.symm).trans (by assumption) | exact (wU_n hne).trans ((wU_n hne).trans (by assumption)) | exact (wU_n hkg).trans ((wU_n hkg).trans hkk) | exact (wU_n hkh.symm).trans ((wU_n hne).trans ((wU_n hne).trans hh))
    · rfl
    · rfl
    · exact Nat.le_of_ble_eq_true rfl
    refine gd_vret C hQ hret dX3_linkBehind_33 ?_ ?_
    · refine ⟨rfl, wU_s _ _ _, (wU_n hne.symm).trans ((wU_n hkg.symm).trans (wU_s _ _ _)), fun k2 h9 => ?_, fun y h1 h2 h3 => ?_⟩
      · cases h9
        intro n1 f1 l1 c1 t1 b1 q1 h8
        rw [hkk] at h8
        exact (wU_n hkh).trans ((wU_s _ _ _).trans (congrArg (fun e : va_E => match e with | .inr (c, fs) => some (Sum.inr (c, fs.set 5 (.ref g))) | x => some x) (Option.some.inj h8)))
      · rw [wU_n h1, wU_n (fun q => h3 (by rw [q])), wU_n h2, wU_n h2]
    · decide

set_option maxRecDepth 100000 in
set_option maxHeartbeats 4000000 in
theorem kX3_split {l : Launch} {D : va_G} {ky : Nat → ClassId} {z : Nat} {w : WT} (hl : l.stackTraces = false) {h na fa : Nat} {lo co : Int} {bk nx : Option Nat} (hh : w h = some (cL na fa lo co 4 bk nx)) {nm : Int → Int} (hn : w na = some (iA (ky 0) 4 nm)) (hm : ∀ i, 0 ≤ nm i ∧ nm i ≤ 999) {fl : Int → Int} (hf : w fa = some (iA (ky 0) 4 fl)) (hs3 : rk (nm 2) < rk (nm 3)) (hk : ∀ k, nx = some k → k ≠ h ∧ ∃ nk fk lk ck tk bq nq, w k = some (cL nk fk lk ck tk bq nq)) : Mt l D ky z yX3_split wsX3_split { frames := 3, cells := 3, slots := 15, locals := 63 } [.ref h] w (fun r w' => r = none ∧ ∃ g nb fb : Nat, w g = none ∧ w nb = none ∧ w fb = none ∧ g ≠ nb ∧ g ≠ fb ∧ nb ≠ fb ∧ w' h = some (cL na fa lo co 2 bk (some g)) ∧ w' g = some (cL nb fb (hs (nm 2)) (eqI (hs (nm 1)) (hs (nm 2))) 2 (some h) nx) ∧ w' nb = some (iA (ky 0) 4 (spF nm)) ∧ w' fb = some (iA (ky 0) 4 (spF fl)) ∧ (∀ k, nx = some k → ∀ nk fk lk ck tk bq nq, w k = some (cL nk fk lk ck tk bq nq) → w' k = some (cL nk fk lk ck tk (some g) nq)) ∧ ∀ y, y ≠ h → y ≠ g → y ≠ nb → y ≠ fb → nx ≠ some y → w' y = w y) (fun _ => False) := by
  refine Mt.of (cc := cX3_split) (ret := none) (maxL := 5) (by decide) rfl (by intro v hv; simp at hv; rcases hv with rfl <;> rfl) (Nat.le_of_ble_eq_true rfl) ?_ hl
  intro p e s m args below meth c C htab hret hname Q hQ
  refine gd_aload_n C dX3_split_0 rfl ?_
  apply gd_get (ci := 3) (Cn := RX3) (T := TX3) (N := 7) (ref := RX3) C rfl (by decide +kernel) 2 (by decide) (by decide +kernel) rfl dX3_split_1
  · first | assumption | exact wU_s _ _ _ | exact look1 (by assumption) (by assumption) | exact look2 (by assumption) (by assumption)
  · rfl
  have h29 : ∀ y : Int, (y = 0 ∨ y = 1) → y = eqI (hs (nm 1)) (hs (nm 2)) → Gd p l e ({ frames := 3, cells := 3, slots := 15, locals := 63 }) s m args below meth c D z Q 0 0 w 29 [some (.ref h), some (.int (iI (hs (nm 2)))), some (.int (iI y)), none, none] [] := by
    intro y hy hye
    refine gd_new (ci := 3) (Cn := RX3) (T := TX3) (N := 7) (fs := [.int 0, .int 0, .null, .null, .int 0, .null, .null]) C rfl (by decide +kernel) tyX3 tyX3_ok (by decide +kernel) (by decide +kernel) (by decide +kernel) (fun j hj => by
      match j, hj with
      | 0, _ => rfl
      | 1, _ => rfl
      | 2, _ => rfl
      | 3, _ => rfl
      | 4, _ => rfl
      | 5, _ => rfl
      | 6, _ => rfl) ⟨by decide, by decide⟩ dX3_split_29 ?_
    intro a29 hx29
    have hW1 := wU_s w a29 (oB 3 [.int 0, .int 0, .null, .null, .int 0, .null, .null])
    refine gd_dup C dX3_split_32 rfl ?_
    refine gd_iload_n C dX3_split_33 rfl ?_
    refine gd_iload_n C dX3_split_34 rfl ?_
    refine gd_callI (n := 2) C (kX3_init hl (h := a29) (x := hs (nm 2)) (y := y) hW1 hy) gX3_split_X3_init rfl rfl (by decide +kernel) (by decide +kernel) (by decide +kernel) ⟨by decide, by decide, by decide +kernel⟩ rfl rfl (Nat.le_of_ble_eq_true rfl) rfl dX3_split_35 ⟨⟨by decide, by decide⟩, by decide, by decide⟩ (fun _ h => h.elim) ?_
    rintro _ w1 ⟨rfl, nb, fb, hnb, hfb, hnbfb, hwb, hwf, hwg, hfr⟩
    have hga := new_ne hx29 hh
    have hgn := new_ne hx29 hn
    have hgf := new_ne hx29 hf
    have hWh := new_at (y := oB 3 [.int 0, .int 0, .null, .null, .int 0, .null, .null]) hx29 hh
    have hWn := new_at (y := oB 3 [.int 0, .int 0, .null, .null, .int 0, .null, .null]) hx29 hn
    have hWf := new_at (y := oB 3 [.int 0, .int 0, .null, .null, .int 0, .null, .null]) hx29 hf
    have hbh := new_ne hnb hWh
    have hfh := new_ne hfb hWh
    have hbn := new_ne hnb hWn
    have hfn := new_ne hfb hWn
    have hbf := new_ne hnb hWf
    have hff := new_ne hfb hWf
    have hbg := new_ne hnb hW1
    have hfg := new_ne hfb hW1
    have hh1 := (hfr h hbh hfh hga).trans hWh
    have hn1 := (hfr na hbn hfn hgn).trans hWn
    have hf1 := (hfr fa hbf hff hgf).trans hWf
    refine gd_astore_n C dX3_split_38 (Nat.le_of_ble_eq_true rfl) ?_
    refine gd_iconst C dX3_split_39 ?_
    refine gd_istore C dX3_split_40 (Nat.le_of_ble_eq_true rfl) ?_
    refine gd_iload C dX3_split_42 rfl ?_
    refine gd_aload_n C dX3_split_44 rfl ?_
    apply gd_get (ci := 3) (Cn := RX3) (T := TX3) (N := 7) (ref := RX3) C rfl (by decide +kernel) 4 (by decide) (by decide +kernel) rfl dX3_split_45
    · first | assumption | exact wU_s _ _ _ | exact look1 (by assumption) (by assumption) | exact look2 (by assumption) (by assumption)
    · rfl
    refine gd_icmp_ge (tgt := 81) C dX3_split_48 (by decide) ?_ ?_ (fun hc48 => ?_) (fun hc48 => ?_)
    · omega
    · omega
    · exfalso; omega
    · refine gd_iload C dX3_split_51 rfl ?_
      refine gd_iconst C dX3_split_53 ?_
      refine gd_icmp_ge (tgt := 81) C dX3_split_54 (by decide) ?_ ?_ (fun hc54 => ?_) (fun hc54 => ?_)
      · omega
      · omega
      · exfalso; omega
      · refine gd_aload_n C dX3_split_57 rfl ?_
        refine gd_aload_n C dX3_split_58 rfl ?_
        apply gd_get (ci := 3) (Cn := RX3) (T := TX3) (N := 7) (ref := RX3) C rfl (by decide +kernel) 2 (by decide) (by decide +kernel) rfl dX3_split_59
        · first | assumption | exact wU_s _ _ _ | exact look1 (by assumption) (by assumption) | exact look2 (by assumption) (by assumption)
        · rfl
        refine gd_iload C dX3_split_62 rfl ?_
        apply gd_iald C dX3_split_64
        · first | assumption | exact wU_s _ _ _ | exact look1 (by assumption) (by assumption) | exact look2 (by assumption) (by assumption)
        · decide
        · omega
        refine gd_aload_n C dX3_split_65 rfl ?_
        apply gd_get (ci := 3) (Cn := RX3) (T := TX3) (N := 7) (ref := RX3) C rfl (by decide +kernel) 3 (by decide) (by decide +kernel) rfl dX3_split_66
        · first | assumption | exact wU_s _ _ _ | exact look1 (by assumption) (by assumption) | exact look2 (by assumption) (by assumption)
        · rfl
        refine gd_iload C dX3_split_69 rfl ?_
        apply gd_iald C dX3_split_71
        · first | assumption | exact wU_s _ _ _ | exact look1 (by assumption) (by assumption) | exact look2 (by assumption) (by assumption)
        · decide
        · omega
        refine gd_callV (n := 2) (ci := 3) (Cn := RX3) (T := TX3) (N := 7) C (kX3_insert hl hwg hwb (by omega) (fun _ => by omega) hwf hnbfb (q := nm 2) (x := fl 2) (hm 2)) ?_ rfl gX3_split_X3_insert rfl ⟨rfl, by decide, by decide, by decide +kernel⟩ rfl rfl (Nat.le_of_ble_eq_true rfl) rfl dX3_split_72 ⟨⟨by decide, by decide⟩, by decide, by decide⟩ (fun _ h => h.elim) ?_
        · exact ⟨_, by first | assumption | exact wU_s _ _ _ | exact look1 (by assumption) (by assumption) | exact look2 (by assumption) (by assumption)⟩
        rintro _ w2 ⟨rfl, p1, hp1, hp2, -, -, hb2, hf2, hg2, hfr2⟩
        obtain rfl : p1 = 0 := by omega
        have hh2 := (hfr2 h hbh hfh hga).trans hh1
        have hn2 := (hfr2 na hbn hfn hgn).trans hn1
        have hf3 := (hfr2 fa hbf hff hgf).trans hf1
        clear hh1 hn1 hf1 hwb hwf hwg
        refine gd_iinc C dX3_split_75 rfl ?_
        refine gd_goto (tgt := 42) C dX3_split_78 (by decide) ?_
        refine gd_iload C dX3_split_42 rfl ?_
        refine gd_aload_n C dX3_split_44 rfl ?_
        apply gd_get (ci := 3) (Cn := RX3) (T := TX3) (N := 7) (ref := RX3) C rfl (by decide +kernel) 4 (by decide) (by decide +kernel) rfl dX3_split_45
        · first | assumption | exact wU_s _ _ _ | exact look1 (by assumption) (by assumption) | exact look2 (by assumption) (by assumption)
        · rfl
        refine gd_icmp_ge (tgt := 81) C dX3_split_48 (by decide) ?_ ?_ (fun hc48 => ?_) (fun hc48 => ?_)
        · omega
        · omega
        · exfalso; omega
        · refine gd_iload C dX3_split_51 rfl ?_
          refine gd_iconst C dX3_split_53 ?_
          refine gd_icmp_ge (tgt := 81) C dX3_split_54 (by decide) ?_ ?_ (fun hc54 => ?_) (fun hc54 => ?_)
          · omega
          · omega
          · exfalso; omega
          · refine gd_aload_n C dX3_split_57 rfl ?_
            refine gd_aload_n C dX3_split_58 rfl ?_
            apply gd_get (ci := 3) (Cn := RX3) (T := TX3) (N := 7) (ref := RX3) C rfl (by decide +kernel) 2 (by decide) (by decide +kernel) rfl dX3_split_59
            · first | assumption | exact wU_s _ _ _ | exact look1 (by assumption) (by assumption) | exact look2 (by assumption) (by assumption)
            · rfl
            refine gd_iload C dX3_split_62 rfl ?_
            apply gd_iald C dX3_split_64
            · first | assumption | exact wU_s _ _ _ | exact look1 (by assumption) (by assumption) | exact look2 (by assumption) (by assumption)
            · decide
            · omega
            refine gd_aload_n C dX3_split_65 rfl ?_
            apply gd_get (ci := 3) (Cn := RX3) (T := TX3) (N := 7) (ref := RX3) C rfl (by decide +kernel) 3 (by decide) (by decide +kernel) rfl dX3_split_66
            · first | assumption | exact wU_s _ _ _ | exact look1 (by assumption) (by assumption) | exact look2 (by assumption) (by assumption)
            · rfl
            refine gd_iload C dX3_split_69 rfl ?_
            apply gd_iald C dX3_split_71
            · first | assumption | exact wU_s _ _ _ | exact look1 (by assumption) (by assumption) | exact look2 (by assumption) (by assumption)
            · decide
            · omega
            refine gd_callV (n := 2) (ci := 3) (Cn := RX3) (T := TX3) (N := 7) C (kX3_insert hl hg2 hb2 (by omega) (in0_bd (hm 2)) hf2 hnbfb (q := nm 3) (x := fl 3) (hm 3)) ?_ rfl gX3_split_X3_insert rfl ⟨rfl, by decide, by decide, by decide +kernel⟩ rfl rfl (Nat.le_of_ble_eq_true rfl) rfl dX3_split_72 ⟨⟨by decide, by decide⟩, by decide, by decide⟩ (fun _ h => h.elim) ?_
            · exact ⟨_, by first | assumption | exact wU_s _ _ _ | exact look1 (by assumption) (by assumption) | exact look2 (by assumption) (by assumption)⟩
            rintro _ w3 ⟨rfl, p1, hp1, hp2, hp3, -, hb3, hf4, hg3, hfr3⟩
            obtain rfl : p1 = 1 := by
              by_cases h0 : p1 = 0
              · have := hp3 0 (by omega) (by omega)
                rw [in0_at] at this
                omega
              · omega
            have hh3 := (hfr3 h hbh hfh hga).trans hh2
            have e1 : (0 : Int) + 1 = 1 := rfl
            rw [e1, spF_eq] at hb3
            rw [e1, spF_eq] at hf4
            have hg4 : w3 a29 = some (cL nb fb (hs (nm 2)) y 2 none none) := hg3
            clear hh2 hn2 hf3 hb2 hf2 hg2 hg3
            refine gd_iinc C dX3_split_75 rfl ?_
            refine gd_goto (tgt := 42) C dX3_split_78 (by decide) ?_
            refine gd_iload C dX3_split_42 rfl ?_
            refine gd_aload_n C dX3_split_44 rfl ?_
            apply gd_get (ci := 3) (Cn := RX3) (T := TX3) (N := 7) (ref := RX3) C rfl (by decide +kernel) 4 (by decide) (by decide +kernel) rfl dX3_split_45
            · first | assumption | exact wU_s _ _ _ | exact look1 (by assumption) (by assumption) | exact look2 (by assumption) (by assumption)
            · rfl
            refine gd_icmp_ge (tgt := 81) C dX3_split_48 (by decide) ?_ ?_ (fun hc48 => ?_) (fun hc48 => ?_)
            · omega
            · omega
            · refine gd_aload_n C dX3_split_81 rfl ?_
              refine gd_iconst C dX3_split_82 ?_
              apply gd_put (ci := 3) (Cn := RX3) (T := TX3) (N := 7) (ref := RX3) C rfl (by decide +kernel) tyX3 tyX3_ok nmX3 4 (by decide) (by decide +kernel) rfl rfl dX3_split_83
              · first | assumption | exact wU_s _ _ _ | exact look1 (by assumption) (by assumption) | exact look2 (by assumption) (by assumption)
              · rfl
              · rfl
              · exact Nat.le_of_ble_eq_true rfl
              refine gd_aload_n C dX3_split_86 rfl ?_
              refine gd_aload_n C dX3_split_87 rfl ?_
              refine gd_callV (n := 1) (ci := 3) (Cn := RX3) (T := TX3) (N := 7) C (kX3_linkBehind hl (h := h) (g := a29) (na := na) (fa := fa) (nb := nb) (fb := fb) (lo := lo) (co := co) (ct := 2) (l2 := hs (nm 2)) (c2 := y) (t2 := 2) (bk := bk) (nx := nx) ?_ ?_ hga ?_) ?_ rfl gX3_split_X3_linkBehind rfl ⟨rfl, by decide, by decide, by decide +kernel⟩ rfl rfl (Nat.le_of_ble_eq_true rfl) rfl dX3_split_88 ⟨⟨by decide, by decide⟩, by decide, by decide⟩ (fun _ h => h.elim) ?_
              · exact wU_s _ _ _
              · exact (wU_n hga.symm).trans hg4
              · intro k hk9
                obtain ⟨k1, nk, fk, lk, ck, tk, bq, nq, hkk⟩ := hk k hk9
                have hka := new_ne hx29 hkk
                have hWk := new_at (y := oB 3 [.int 0, .int 0, .null, .null, .int 0, .null, .null]) hx29 hkk
                exact ⟨k1, hka, nk, fk, lk, ck, tk, bq, nq, (wU_n k1).trans ((hfr3 k (new_ne hnb hWk) (new_ne hfb hWk) hka).trans ((hfr2 k (new_ne hnb hWk) (new_ne hfb hWk) hka).trans ((hfr k (new_ne hnb hWk) (new_ne hfb hWk) hka).trans hWk)))⟩
              · exact ⟨_, by first | assumption | exact wU_s _ _ _ | exact look1 (by assumption) (by assumption) | exact look2 (by assumption) (by assumption)⟩
              rintro _ w4 ⟨rfl, hh5, hg5, hk5, hfr5⟩
              refine gd_vret C hQ hret dX3_split_91 ?_ ?_
              · have hnbw : w nb = none := by rw [← hnb]; exact (wU_n hbg.symm).symm
                have hfbw : w fb = none := by rw [← hfb]; exact (wU_n hfg.symm).symm
                have hxnb : ∀ x, nx = some x → nb ≠ x ∧ fb ≠ x := by
                  intro x hx
                  obtain ⟨k1, nk, fk, lk, ck, tk, bq, nq, hkk⟩ := hk x hx
                  have hWk := new_at (y := oB 3 [.int 0, .int 0, .null, .null, .int 0, .null, .null]) hx29 hkk
                  exact ⟨(new_ne hnb hWk).symm, (new_ne hfb hWk).symm⟩
                refine ⟨rfl, a29, nb, fb, hx29, hnbw, hfbw, hbg, hfg, hnbfb, hh5, (by rw [← hye]; exact hg5), ?_, ?_, ?_, ?_⟩
                · exact (hfr5 nb hbh.symm hbg.symm (fun q => (hxnb nb q).1 rfl)).trans ((wU_n hbh.symm).trans hb3)
                · exact (hfr5 fb hfh.symm hfg.symm (fun q => (hxnb fb q).2 rfl)).trans ((wU_n hfh.symm).trans hf4)
                · intro k hk9 nk fk lk ck tk bq nq hkk
                  obtain ⟨k1, -⟩ := hk k hk9
                  have hka := new_ne hx29 hkk
                  have hWk := new_at (y := oB 3 [.int 0, .int 0, .null, .null, .int 0, .null, .null]) hx29 hkk
                  exact hk5 k hk9 nk fk lk ck tk bq nq ((wU_n k1).trans ((hfr3 k (new_ne hnb hWk) (new_ne hfb hWk) hka).trans ((hfr2 k (new_ne hnb hWk) (new_ne hfb hWk) hka).trans ((hfr k (new_ne hnb hWk) (new_ne hfb hWk) hka).trans hWk))))
                · intro y h1 h2 h3 h4 h5
                  rw [hfr5 y h1 h2 h5, wU_n h1, hfr3 y h3 h4 h2, hfr2 y h3 h4 h2, hfr y h3 h4 h2, wU_n h2]
              · decide
            · exfalso; omega
  refine gd_iconst C dX3_split_4 ?_
  apply gd_iald C dX3_split_5
  · first | assumption | exact wU_s _ _ _ | exact look1 (by assumption) (by assumption) | exact look2 (by assumption) (by assumption)
  · decide
  · omega
  refine gd_callSN (n := 1) (host := RX4) C (kX4_hashOf hl (q := nm 2) (hm 2)) gX3_split_X4_hashOf_n43 rfl (by decide +kernel) (by decide +kernel) (by decide +kernel) ⟨by decide, by decide, by decide +kernel⟩ rfl rfl (Nat.le_of_ble_eq_true rfl) rfl dX3_split_6 ⟨⟨by decide, by decide⟩, by decide, by decide⟩ (fun _ h => h.elim) ?_
  rintro _ _ ⟨rfl, rfl⟩
  refine gd_istore_n C dX3_split_9 (Nat.le_of_ble_eq_true rfl) ?_
  refine gd_iload_n C dX3_split_10 rfl ?_
  refine gd_aload_n C dX3_split_11 rfl ?_
  apply gd_get (ci := 3) (Cn := RX3) (T := TX3) (N := 7) (ref := RX3) C rfl (by decide +kernel) 2 (by decide) (by decide +kernel) rfl dX3_split_12
  · first | assumption | exact wU_s _ _ _ | exact look1 (by assumption) (by assumption) | exact look2 (by assumption) (by assumption)
  · rfl
  refine gd_iconst C dX3_split_15 ?_
  apply gd_iald C dX3_split_16
  · first | assumption | exact wU_s _ _ _ | exact look1 (by assumption) (by assumption) | exact look2 (by assumption) (by assumption)
  · decide
  · omega
  refine gd_callSN (n := 1) (host := RX4) C (kX4_hashOf hl (q := nm 1) (hm 1)) gX3_split_X4_hashOf_n43 rfl (by decide +kernel) (by decide +kernel) (by decide +kernel) ⟨by decide, by decide, by decide +kernel⟩ rfl rfl (Nat.le_of_ble_eq_true rfl) rfl dX3_split_17 ⟨⟨by decide, by decide⟩, by decide, by decide⟩ (fun _ h => h.elim) ?_
  rintro _ _ ⟨rfl, rfl⟩
  have hb1 := hs_bd (nm 1)
  have hb2 := hs_bd (nm 2)
  refine gd_icmp_ne (tgt := 27) C dX3_split_20 (by decide) ?_ ?_ (fun hc20 => ?_) (fun hc20 => ?_)
  · omega
  · omega
  · refine gd_iconst C dX3_split_27 ?_
    refine gd_istore_n C dX3_split_28 (Nat.le_of_ble_eq_true rfl) ?_
    first | exact h29 1 (by omega) (eqI_t (by omega)).symm | exact h29 0 (by omega) (eqI_f (by omega)).symm
  · refine gd_iconst C dX3_split_23 ?_
    refine gd_goto (tgt := 28) C dX3_split_24 (by decide) ?_
    refine gd_istore_n C dX3_split_28 (Nat.le_of_ble_eq_true rfl) ?_
    first | exact h29 1 (by omega) (eqI_t (by omega)).symm | exact h29 0 (by omega) (eqI_f (by omega)).symm
