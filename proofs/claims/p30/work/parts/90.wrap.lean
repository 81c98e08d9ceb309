/-! the law's methods that call the class: what it throws is caught -/
set_option maxRecDepth 100000 in
set_option maxHeartbeats 4000000 in
theorem kL_does_create {l : Launch} {D : va_G} {ky : Nat → ClassId} {z : Nat} {w : WT} (hl : l.stackTraces = false) {b : Nat} {q : Int} {P0 : Option Value → WT → Prop} {XP : String → Prop} (hM : Mt l D ky z yX4_create wsX4_create { frames := 8, cells := 6, slots := 33, locals := 132 } [.ref b, .int (iI q)] w P0 XP) (hb : ∃ fs, w b = some (oB 4 fs)) (hP : ∀ r w1, P0 r w1 → ∃ x1 : Int, r = some (.int (iI x1))) (hX : ∀ E, XP E → E = "java/lang/IllegalArgumentException" ∨ E = "java/lang/IllegalStateException") : MtW l D ky z yL_does wsL_does { frames := 9, cells := 6, slots := 33, locals := 154 } [.ref b, .int (iI 0), .int (iI q)] w (fun r w' => P0 r w' ∨ (w = w' ∧ r = some (.int (iI (-8))) ∧ ∃ E, XP E)) := by
  refine MtW.of (cc := cL_does) (ret := (some .int)) (maxL := 4) (hh := [(0, 68, 69, 30), (0, 68, 73, 32), (0, 68, 77, 34)]) (by decide) rfl (by intro v hv; simp at hv; rcases hv with rfl | rfl | rfl <;> rfl) (Nat.le_of_ble_eq_true rfl) ?_ hl
  intro p e s m args below meth c C hNC ht hret Q hQ
  refine gd_iload_n C dL_does_0 rfl ?_
  refine gd_if_ne (tgt := 12) C dL_does_1 (by decide) ?_ (fun hc1 => ?_) (fun hc1 => ?_)
  · first | decide | exact hk9.1
  · exfalso; omega
  · refine gd_aload_n C dL_does_4 rfl ?_
    refine gd_iload_n C dL_does_5 rfl ?_
    refine gd_callV (n := 1) (ci := 4) (Cn := RX4) (T := TX4) (N := 5) C (hM) ?_ rfl gL_does_X4_create rfl ⟨rfl, by decide, by decide, by decide +kernel⟩ rfl rfl (Nat.le_of_ble_eq_true rfl) rfl dL_does_6 ⟨⟨by decide, by decide⟩, by decide, by decide⟩ ?_ ?_
    · exact hb
    · intro E hE
      rcases hX E hE with rfl | rfl
      · refine gx_catch C (name := "java/lang/IllegalArgumentException") [⟨0, 68, 69, 30⟩] ⟨0, 68, 73, 32⟩ [⟨0, 68, 77, 34⟩] ht (fun z hz => by rw [List.mem_singleton.mp hz]; exact Or.inr ⟨by decide, "java/lang/IndexOutOfBoundsException", by decide +kernel, hNC.2.2⟩) (by decide) (by decide) (by decide +kernel) (by decide) (fun q9 => ?_)
        refine gd_astore_n C dL_does_73 (Nat.le_of_ble_eq_true rfl) ?_
        refine gd_bipush C dL_does_74 (by decide) ?_
        refine gd_iret C hQ hret dL_does_76 ?_ ?_
        · exact Or.inr ⟨rfl, rfl, _, hE⟩
        · decide
      · refine gx_catch C (name := "java/lang/IllegalStateException") [⟨0, 68, 69, 30⟩, ⟨0, 68, 73, 32⟩] ⟨0, 68, 77, 34⟩ [] ht (fun z hz => by rcases List.mem_cons.mp hz with rfl | hz; exact Or.inr ⟨by decide, "java/lang/IndexOutOfBoundsException", by decide +kernel, hNC.2.1⟩; rw [List.mem_singleton.mp hz]; exact Or.inr ⟨by decide, "java/lang/IllegalArgumentException", by decide +kernel, hNC.1⟩) (by decide) (by decide) (by decide +kernel) (by decide) (fun q9 => ?_)
        refine gd_astore_n C dL_does_77 (Nat.le_of_ble_eq_true rfl) ?_
        refine gd_bipush C dL_does_78 (by decide) ?_
        refine gd_iret C hQ hret dL_does_80 ?_ ?_
        · exact Or.inr ⟨rfl, rfl, _, hE⟩
        · decide
    intro r1 w1 hP1
    obtain ⟨x1, rfl⟩ := hP r1 w1 hP1
    refine gd_goto (tgt := 68) C dL_does_9 (by decide) ?_
    refine gd_iret C hQ hret dL_does_68 ?_ ?_
    · exact Or.inl hP1
    · decide

set_option maxRecDepth 100000 in
set_option maxHeartbeats 4000000 in
theorem kL_does_open {l : Launch} {D : va_G} {ky : Nat → ClassId} {z : Nat} {w : WT} (hl : l.stackTraces = false) {b : Nat} {q : Int} {P0 : Option Value → WT → Prop} {XP : String → Prop} (hM : Mt l D ky z yX4_open wsX4_open { frames := 8, cells := 3, slots := 18, locals := 132 } [.ref b, .int (iI q)] w P0 XP) (hb : ∃ fs, w b = some (oB 4 fs)) (hP : ∀ r w1, P0 r w1 → ∃ x1 : Int, r = some (.int (iI x1))) (hX : ∀ E, XP E → E = "java/lang/IllegalArgumentException" ∨ E = "java/lang/IllegalStateException") : MtW l D ky z yL_does wsL_does { frames := 9, cells := 3, slots := 18, locals := 154 } [.ref b, .int (iI 1), .int (iI q)] w (fun r w' => P0 r w' ∨ (w = w' ∧ r = some (.int (iI (-8))) ∧ ∃ E, XP E)) := by
  refine MtW.of (cc := cL_does) (ret := (some .int)) (maxL := 4) (hh := [(0, 68, 69, 30), (0, 68, 73, 32), (0, 68, 77, 34)]) (by decide) rfl (by intro v hv; simp at hv; rcases hv with rfl | rfl | rfl <;> rfl) (Nat.le_of_ble_eq_true rfl) ?_ hl
  intro p e s m args below meth c C hNC ht hret Q hQ
  refine gd_iload_n C dL_does_0 rfl ?_
  refine gd_if_ne (tgt := 12) C dL_does_1 (by decide) ?_ (fun hc1 => ?_) (fun hc1 => ?_)
  · first | decide | exact hk9.1
  · refine gd_iload_n C dL_does_12 rfl ?_
    refine gd_iconst C dL_does_13 ?_
    refine gd_icmp_ne (tgt := 25) C dL_does_14 (by decide) ?_ ?_ (fun hc14 => ?_) (fun hc14 => ?_)
    · first | decide | exact hk9.1
    · first | decide | exact hk9.1
    · exfalso; omega
    · refine gd_aload_n C dL_does_17 rfl ?_
      refine gd_iload_n C dL_does_18 rfl ?_
      refine gd_callV (n := 1) (ci := 4) (Cn := RX4) (T := TX4) (N := 5) C (hM) ?_ rfl gL_does_X4_open rfl ⟨rfl, by decide, by decide, by decide +kernel⟩ rfl rfl (Nat.le_of_ble_eq_true rfl) rfl dL_does_19 ⟨⟨by decide, by decide⟩, by decide, by decide⟩ ?_ ?_
      · exact hb
      · intro E hE
        rcases hX E hE with rfl | rfl
        · refine gx_catch C (name := "java/lang/IllegalArgumentException") [⟨0, 68, 69, 30⟩] ⟨0, 68, 73, 32⟩ [⟨0, 68, 77, 34⟩] ht (fun z hz => by rw [List.mem_singleton.mp hz]; exact Or.inr ⟨by decide, "java/lang/IndexOutOfBoundsException", by decide +kernel, hNC.2.2⟩) (by decide) (by decide) (by decide +kernel) (by decide) (fun q9 => ?_)
          refine gd_astore_n C dL_does_73 (Nat.le_of_ble_eq_true rfl) ?_
          refine gd_bipush C dL_does_74 (by decide) ?_
          refine gd_iret C hQ hret dL_does_76 ?_ ?_
          · exact Or.inr ⟨rfl, rfl, _, hE⟩
          · decide
        · refine gx_catch C (name := "java/lang/IllegalStateException") [⟨0, 68, 69, 30⟩, ⟨0, 68, 73, 32⟩] ⟨0, 68, 77, 34⟩ [] ht (fun z hz => by rcases List.mem_cons.mp hz with rfl | hz; exact Or.inr ⟨by decide, "java/lang/IndexOutOfBoundsException", by decide +kernel, hNC.2.1⟩; rw [List.mem_singleton.mp hz]; exact Or.inr ⟨by decide, "java/lang/IllegalArgumentException", by decide +kernel, hNC.1⟩) (by decide) (by decide) (by decide +kernel) (by decide) (fun q9 => ?_)
          refine gd_astore_n C dL_does_77 (Nat.le_of_ble_eq_true rfl) ?_
          refine gd_bipush C dL_does_78 (by decide) ?_
          refine gd_iret C hQ hret dL_does_80 ?_ ?_
          · exact Or.inr ⟨rfl, rfl, _, hE⟩
          · decide
      intro r1 w1 hP1
      obtain ⟨x1, rfl⟩ := hP r1 w1 hP1
      refine gd_goto (tgt := 68) C dL_does_22 (by decide) ?_
      refine gd_iret C hQ hret dL_does_68 ?_ ?_
      · exact Or.inl hP1
      · decide
  · exfalso; omega

set_option maxRecDepth 100000 in
set_option maxHeartbeats 4000000 in
theorem kL_does_close {l : Launch} {D : va_G} {ky : Nat → ClassId} {z : Nat} {w : WT} (hl : l.stackTraces = false) {b : Nat} {q : Int} {P0 : Option Value → WT → Prop} {XP : String → Prop} (hM : Mt l D ky z yX4_close wsX4_close { frames := 7, cells := 3, slots := 18, locals := 154 } [.ref b, .int (iI q)] w P0 XP) (hb : ∃ fs, w b = some (oB 4 fs)) (hP : ∀ r w1, P0 r w1 → ∃ x1 : Int, r = some (.int (iI x1))) (hX : ∀ E, XP E → E = "java/lang/IndexOutOfBoundsException" ∨ E = "java/lang/IllegalStateException") : MtW l D ky z yL_does wsL_does { frames := 8, cells := 3, slots := 18, locals := 176 } [.ref b, .int (iI 2), .int (iI q)] w (fun r w' => P0 r w' ∨ (w = w' ∧ r = some (.int (iI (-8))) ∧ ∃ E, XP E)) := by
  refine MtW.of (cc := cL_does) (ret := (some .int)) (maxL := 4) (hh := [(0, 68, 69, 30), (0, 68, 73, 32), (0, 68, 77, 34)]) (by decide) rfl (by intro v hv; simp at hv; rcases hv with rfl | rfl | rfl <;> rfl) (Nat.le_of_ble_eq_true rfl) ?_ hl
  intro p e s m args below meth c C hNC ht hret Q hQ
  refine gd_iload_n C dL_does_0 rfl ?_
  refine gd_if_ne (tgt := 12) C dL_does_1 (by decide) ?_ (fun hc1 => ?_) (fun hc1 => ?_)
  · first | decide | exact hk9.1
  · refine gd_iload_n C dL_does_12 rfl ?_
    refine gd_iconst C dL_does_13 ?_
    refine gd_icmp_ne (tgt := 25) C dL_does_14 (by decide) ?_ ?_ (fun hc14 => ?_) (fun hc14 => ?_)
    · first | decide | exact hk9.1
    · first | decide | exact hk9.1
    · refine gd_iload_n C dL_does_25 rfl ?_
      refine gd_iconst C dL_does_26 ?_
      refine gd_icmp_ne (tgt := 38) C dL_does_27 (by decide) ?_ ?_ (fun hc27 => ?_) (fun hc27 => ?_)
      · first | decide | exact hk9.1
      · first | decide | exact hk9.1
      · exfalso; omega
      · refine gd_aload_n C dL_does_30 rfl ?_
        refine gd_iload_n C dL_does_31 rfl ?_
        refine gd_callV (n := 1) (ci := 4) (Cn := RX4) (T := TX4) (N := 5) C (hM) ?_ rfl gL_does_X4_close rfl ⟨rfl, by decide, by decide, by decide +kernel⟩ rfl rfl (Nat.le_of_ble_eq_true rfl) rfl dL_does_32 ⟨⟨by decide, by decide⟩, by decide, by decide⟩ ?_ ?_
        · exact hb
        · intro E hE
          rcases hX E hE with rfl | rfl
          · refine gx_catch C (name := "java/lang/IndexOutOfBoundsException") [] ⟨0, 68, 69, 30⟩ [⟨0, 68, 73, 32⟩, ⟨0, 68, 77, 34⟩] ht (fun _ h => absurd h List.not_mem_nil) (by decide) (by decide) (by decide +kernel) (by decide) (fun q9 => ?_)
            refine gd_astore_n C dL_does_69 (Nat.le_of_ble_eq_true rfl) ?_
            refine gd_bipush C dL_does_70 (by decide) ?_
            refine gd_iret C hQ hret dL_does_72 ?_ ?_
            · exact Or.inr ⟨rfl, rfl, _, hE⟩
            · decide
          · refine gx_catch C (name := "java/lang/IllegalStateException") [⟨0, 68, 69, 30⟩, ⟨0, 68, 73, 32⟩] ⟨0, 68, 77, 34⟩ [] ht (fun z hz => by rcases List.mem_cons.mp hz with rfl | hz; exact Or.inr ⟨by decide, "java/lang/IndexOutOfBoundsException", by decide +kernel, hNC.2.1⟩; rw [List.mem_singleton.mp hz]; exact Or.inr ⟨by decide, "java/lang/IllegalArgumentException", by decide +kernel, hNC.1⟩) (by decide) (by decide) (by decide +kernel) (by decide) (fun q9 => ?_)
            refine gd_astore_n C dL_does_77 (Nat.le_of_ble_eq_true rfl) ?_
            refine gd_bipush C dL_does_78 (by decide) ?_
            refine gd_iret C hQ hret dL_does_80 ?_ ?_
            · exact Or.inr ⟨rfl, rfl, _, hE⟩
            · decide
        intro r1 w1 hP1
        obtain ⟨x1, rfl⟩ := hP r1 w1 hP1
        refine gd_goto (tgt := 68) C dL_does_35 (by decide) ?_
        refine gd_iret C hQ hret dL_does_68 ?_ ?_
        · exact Or.inl hP1
        · decide
    · exfalso; omega
  · exfalso; omega

set_option maxRecDepth 100000 in
set_option maxHeartbeats 4000000 in
theorem kL_does_delete {l : Launch} {D : va_G} {ky : Nat → ClassId} {z : Nat} {w : WT} (hl : l.stackTraces = false) {b : Nat} {q : Int} {P0 : Option Value → WT → Prop} {XP : String → Prop} (hM : Mt l D ky z yX4_delete wsX4_delete { frames := 8, cells := 3, slots := 18, locals := 154 } [.ref b, .int (iI q)] w P0 XP) (hb : ∃ fs, w b = some (oB 4 fs)) (hP : ∀ r w1, P0 r w1 → ∃ x1 : Int, r = some (.int (iI x1))) (hX : ∀ E, XP E → E = "java/lang/IllegalArgumentException" ∨ E = "java/lang/IllegalStateException") : MtW l D ky z yL_does wsL_does { frames := 9, cells := 3, slots := 18, locals := 177 } [.ref b, .int (iI 3), .int (iI q)] w (fun r w' => P0 r w' ∨ (w = w' ∧ r = some (.int (iI (-8))) ∧ ∃ E, XP E)) := by
  refine MtW.of (cc := cL_does) (ret := (some .int)) (maxL := 4) (hh := [(0, 68, 69, 30), (0, 68, 73, 32), (0, 68, 77, 34)]) (by decide) rfl (by intro v hv; simp at hv; rcases hv with rfl | rfl | rfl <;> rfl) (Nat.le_of_ble_eq_true rfl) ?_ hl
  intro p e s m args below meth c C hNC ht hret Q hQ
  refine gd_iload_n C dL_does_0 rfl ?_
  refine gd_if_ne (tgt := 12) C dL_does_1 (by decide) ?_ (fun hc1 => ?_) (fun hc1 => ?_)
  · first | decide | exact hk9.1
  · refine gd_iload_n C dL_does_12 rfl ?_
    refine gd_iconst C dL_does_13 ?_
    refine gd_icmp_ne (tgt := 25) C dL_does_14 (by decide) ?_ ?_ (fun hc14 => ?_) (fun hc14 => ?_)
    · first | decide | exact hk9.1
    · first | decide | exact hk9.1
    · refine gd_iload_n C dL_does_25 rfl ?_
      refine gd_iconst C dL_does_26 ?_
      refine gd_icmp_ne (tgt := 38) C dL_does_27 (by decide) ?_ ?_ (fun hc27 => ?_) (fun hc27 => ?_)
      · first | decide | exact hk9.1
      · first | decide | exact hk9.1
      · refine gd_iload_n C dL_does_38 rfl ?_
        refine gd_iconst C dL_does_39 ?_
        refine gd_icmp_ne (tgt := 51) C dL_does_40 (by decide) ?_ ?_ (fun hc40 => ?_) (fun hc40 => ?_)
        · first | decide | exact hk9.1
        · first | decide | exact hk9.1
        · exfalso; omega
        · refine gd_aload_n C dL_does_43 rfl ?_
          refine gd_iload_n C dL_does_44 rfl ?_
          refine gd_callV (n := 1) (ci := 4) (Cn := RX4) (T := TX4) (N := 5) C (hM) ?_ rfl gL_does_X4_delete rfl ⟨rfl, by decide, by decide, by decide +kernel⟩ rfl rfl (Nat.le_of_ble_eq_true rfl) rfl dL_does_45 ⟨⟨by decide, by decide⟩, by decide, by decide⟩ ?_ ?_
          · exact hb
          · intro E hE
            rcases hX E hE with rfl | rfl
            · refine gx_catch C (name := "java/lang/IllegalArgumentException") [⟨0, 68, 69, 30⟩] ⟨0, 68, 73, 32⟩ [⟨0, 68, 77, 34⟩] ht (fun z hz => by rw [List.mem_singleton.mp hz]; exact Or.inr ⟨by decide, "java/lang/IndexOutOfBoundsException", by decide +kernel, hNC.2.2⟩) (by decide) (by decide) (by decide +kernel) (by decide) (fun q9 => ?_)
              refine gd_astore_n C dL_does_73 (Nat.le_of_ble_eq_true rfl) ?_
              refine gd_bipush C dL_does_74 (by decide) ?_
              refine gd_iret C hQ hret dL_does_76 ?_ ?_
              · exact Or.inr ⟨rfl, rfl, _, hE⟩
              · decide
            · refine gx_catch C (name := "java/lang/IllegalStateException") [⟨0, 68, 69, 30⟩, ⟨0, 68, 73, 32⟩] ⟨0, 68, 77, 34⟩ [] ht (fun z hz => by rcases List.mem_cons.mp hz with rfl | hz; exact Or.inr ⟨by decide, "java/lang/IndexOutOfBoundsException", by decide +kernel, hNC.2.1⟩; rw [List.mem_singleton.mp hz]; exact Or.inr ⟨by decide, "java/lang/IllegalArgumentException", by decide +kernel, hNC.1⟩) (by decide) (by decide) (by decide +kernel) (by decide) (fun q9 => ?_)
              refine gd_astore_n C dL_does_77 (Nat.le_of_ble_eq_true rfl) ?_
              refine gd_bipush C dL_does_78 (by decide) ?_
              refine gd_iret C hQ hret dL_does_80 ?_ ?_
              · exact Or.inr ⟨rfl, rfl, _, hE⟩
              · decide
          intro r1 w1 hP1
          obtain ⟨x1, rfl⟩ := hP r1 w1 hP1
          refine gd_goto (tgt := 68) C dL_does_48 (by decide) ?_
          refine gd_iret C hQ hret dL_does_68 ?_ ?_
          · exact Or.inl hP1
          · decide
      · exfalso; omega
    · exfalso; omega
  · exfalso; omega

set_option maxRecDepth 100000 in
set_option maxHeartbeats 4000000 in
theorem kL_does_flush {l : Launch} {D : va_G} {ky : Nat → ClassId} {z : Nat} {w : WT} (hl : l.stackTraces = false) {b : Nat} {q : Int} {P0 : Option Value → WT → Prop} {XP : String → Prop} (hM : Mt l D ky z yX4_flush wsX4_flush { frames := 7, cells := 2, slots := 12, locals := 147 } [.ref b, .int (iI q)] w P0 XP) (hb : ∃ fs, w b = some (oB 4 fs)) (hP : ∀ r w1, P0 r w1 → ∃ x1 : Int, r = some (.int (iI x1))) (hX : ∀ E, XP E → E = "java/lang/IndexOutOfBoundsException" ∨ E = "java/lang/IllegalStateException") : MtW l D ky z yL_does wsL_does { frames := 8, cells := 2, slots := 12, locals := 171 } [.ref b, .int (iI 4), .int (iI q)] w (fun r w' => P0 r w' ∨ (w = w' ∧ r = some (.int (iI (-8))) ∧ ∃ E, XP E)) := by
  refine MtW.of (cc := cL_does) (ret := (some .int)) (maxL := 4) (hh := [(0, 68, 69, 30), (0, 68, 73, 32), (0, 68, 77, 34)]) (by decide) rfl (by intro v hv; simp at hv; rcases hv with rfl | rfl | rfl <;> rfl) (Nat.le_of_ble_eq_true rfl) ?_ hl
  intro p e s m args below meth c C hNC ht hret Q hQ
  refine gd_iload_n C dL_does_0 rfl ?_
  refine gd_if_ne (tgt := 12) C dL_does_1 (by decide) ?_ (fun hc1 => ?_) (fun hc1 => ?_)
  · first | decide | exact hk9.1
  · refine gd_iload_n C dL_does_12 rfl ?_
    refine gd_iconst C dL_does_13 ?_
    refine gd_icmp_ne (tgt := 25) C dL_does_14 (by decide) ?_ ?_ (fun hc14 => ?_) (fun hc14 => ?_)
    · first | decide | exact hk9.1
    · first | decide | exact hk9.1
    · refine gd_iload_n C dL_does_25 rfl ?_
      refine gd_iconst C dL_does_26 ?_
      refine gd_icmp_ne (tgt := 38) C dL_does_27 (by decide) ?_ ?_ (fun hc27 => ?_) (fun hc27 => ?_)
      · first | decide | exact hk9.1
      · first | decide | exact hk9.1
      · refine gd_iload_n C dL_does_38 rfl ?_
        refine gd_iconst C dL_does_39 ?_
        refine gd_icmp_ne (tgt := 51) C dL_does_40 (by decide) ?_ ?_ (fun hc40 => ?_) (fun hc40 => ?_)
        · first | decide | exact hk9.1
        · first | decide | exact hk9.1
        · refine gd_iload_n C dL_does_51 rfl ?_
          refine gd_iconst C dL_does_52 ?_
          refine gd_icmp_ne (tgt := 64) C dL_does_53 (by decide) ?_ ?_ (fun hc53 => ?_) (fun hc53 => ?_)
          · first | decide | exact hk9.1
          · first | decide | exact hk9.1
          · exfalso; omega
          · refine gd_aload_n C dL_does_56 rfl ?_
            refine gd_iload_n C dL_does_57 rfl ?_
            refine gd_callV (n := 1) (ci := 4) (Cn := RX4) (T := TX4) (N := 5) C (hM) ?_ rfl gL_does_X4_flush rfl ⟨rfl, by decide, by decide, by decide +kernel⟩ rfl rfl (Nat.le_of_ble_eq_true rfl) rfl dL_does_58 ⟨⟨by decide, by decide⟩, by decide, by decide⟩ ?_ ?_
            · exact hb
            · intro E hE
              rcases hX E hE with rfl | rfl
              · refine gx_catch C (name := "java/lang/IndexOutOfBoundsException") [] ⟨0, 68, 69, 30⟩ [⟨0, 68, 73, 32⟩, ⟨0, 68, 77, 34⟩] ht (fun _ h => absurd h List.not_mem_nil) (by decide) (by decide) (by decide +kernel) (by decide) (fun q9 => ?_)
                refine gd_astore_n C dL_does_69 (Nat.le_of_ble_eq_true rfl) ?_
                refine gd_bipush C dL_does_70 (by decide) ?_
                refine gd_iret C hQ hret dL_does_72 ?_ ?_
                · exact Or.inr ⟨rfl, rfl, _, hE⟩
                · decide
              · refine gx_catch C (name := "java/lang/IllegalStateException") [⟨0, 68, 69, 30⟩, ⟨0, 68, 73, 32⟩] ⟨0, 68, 77, 34⟩ [] ht (fun z hz => by rcases List.mem_cons.mp hz with rfl | hz; exact Or.inr ⟨by decide, "java/lang/IndexOutOfBoundsException", by decide +kernel, hNC.2.1⟩; rw [List.mem_singleton.mp hz]; exact Or.inr ⟨by decide, "java/lang/IllegalArgumentException", by decide +kernel, hNC.1⟩) (by decide) (by decide) (by decide +kernel) (by decide) (fun q9 => ?_)
                refine gd_astore_n C dL_does_77 (Nat.le_of_ble_eq_true rfl) ?_
                refine gd_bipush C dL_does_78 (by decide) ?_
                refine gd_iret C hQ hret dL_does_80 ?_ ?_
                · exact Or.inr ⟨rfl, rfl, _, hE⟩
                · decide
            intro r1 w1 hP1
            obtain ⟨x1, rfl⟩ := hP r1 w1 hP1
            refine gd_goto (tgt := 68) C dL_does_61 (by decide) ?_
            refine gd_iret C hQ hret dL_does_68 ?_ ?_
            · exact Or.inl hP1
            · decide
        · exfalso; omega
      · exfalso; omega
    · exfalso; omega
  · exfalso; omega

set_option maxRecDepth 100000 in
set_option maxHeartbeats 4000000 in
theorem kL_does_start {l : Launch} {D : va_G} {ky : Nat → ClassId} {z : Nat} {w : WT} (hl : l.stackTraces = false) {b : Nat} {q : Int} {P0 : Option Value → WT → Prop} {XP : String → Prop} (hM : Mt l D ky z yX4_start wsX4_start { frames := 7, cells := 1, slots := 6, locals := 154 } [.ref b] w P0 XP) (hb : ∃ fs, w b = some (oB 4 fs)) (hP : ∀ r w1, P0 r w1 → ∃ x1 : Int, r = some (.int (iI x1))) (hX : ∀ E, XP E → E = "java/lang/IllegalStateException") : MtW l D ky z yL_does wsL_does { frames := 8, cells := 1, slots := 6, locals := 177 } [.ref b, .int (iI 5), .int (iI q)] w (fun r w' => P0 r w' ∨ (w = w' ∧ r = some (.int (iI (-8))) ∧ ∃ E, XP E)) := by
  refine MtW.of (cc := cL_does) (ret := (some .int)) (maxL := 4) (hh := [(0, 68, 69, 30), (0, 68, 73, 32), (0, 68, 77, 34)]) (by decide) rfl (by intro v hv; simp at hv; rcases hv with rfl | rfl | rfl <;> rfl) (Nat.le_of_ble_eq_true rfl) ?_ hl
  intro p e s m args below meth c C hNC ht hret Q hQ
  refine gd_iload_n C dL_does_0 rfl ?_
  refine gd_if_ne (tgt := 12) C dL_does_1 (by decide) ?_ (fun hc1 => ?_) (fun hc1 => ?_)
  · first | decide | exact hk9.1
  · refine gd_iload_n C dL_does_12 rfl ?_
    refine gd_iconst C dL_does_13 ?_
    refine gd_icmp_ne (tgt := 25) C dL_does_14 (by decide) ?_ ?_ (fun hc14 => ?_) (fun hc14 => ?_)
    · first | decide | exact hk9.1
    · first | decide | exact hk9.1
    · refine gd_iload_n C dL_does_25 rfl ?_
      refine gd_iconst C dL_does_26 ?_
      refine gd_icmp_ne (tgt := 38) C dL_does_27 (by decide) ?_ ?_ (fun hc27 => ?_) (fun hc27 => ?_)
      · first | decide | exact hk9.1
      · first | decide | exact hk9.1
      · refine gd_iload_n C dL_does_38 rfl ?_
        refine gd_iconst C dL_does_39 ?_
        refine gd_icmp_ne (tgt := 51) C dL_does_40 (by decide) ?_ ?_ (fun hc40 => ?_) (fun hc40 => ?_)
        · first | decide | exact hk9.1
        · first | decide | exact hk9.1
        · refine gd_iload_n C dL_does_51 rfl ?_
          refine gd_iconst C dL_does_52 ?_
          refine gd_icmp_ne (tgt := 64) C dL_does_53 (by decide) ?_ ?_ (fun hc53 => ?_) (fun hc53 => ?_)
          · first | decide | exact hk9.1
          · first | decide | exact hk9.1
          · refine gd_aload_n C dL_does_64 rfl ?_
            refine gd_callV (n := 0) (ci := 4) (Cn := RX4) (T := TX4) (N := 5) C (hM) ?_ rfl gL_does_X4_start rfl ⟨rfl, by decide, by decide, by decide +kernel⟩ rfl rfl (Nat.le_of_ble_eq_true rfl) rfl dL_does_65 ⟨⟨by decide, by decide⟩, by decide, by decide⟩ ?_ ?_
            · exact hb
            · intro E hE
              obtain rfl := hX E hE
              refine gx_catch C (name := "java/lang/IllegalStateException") [⟨0, 68, 69, 30⟩, ⟨0, 68, 73, 32⟩] ⟨0, 68, 77, 34⟩ [] ht (fun z hz => by rcases List.mem_cons.mp hz with rfl | hz; exact Or.inr ⟨by decide, "java/lang/IndexOutOfBoundsException", by decide +kernel, hNC.2.1⟩; rw [List.mem_singleton.mp hz]; exact Or.inr ⟨by decide, "java/lang/IllegalArgumentException", by decide +kernel, hNC.1⟩) (by decide) (by decide) (by decide +kernel) (by decide) (fun q9 => ?_)
              refine gd_astore_n C dL_does_77 (Nat.le_of_ble_eq_true rfl) ?_
              refine gd_bipush C dL_does_78 (by decide) ?_
              refine gd_iret C hQ hret dL_does_80 ?_ ?_
              · exact Or.inr ⟨rfl, rfl, _, hE⟩
              · decide
            intro r1 w1 hP1
            obtain ⟨x1, rfl⟩ := hP r1 w1 hP1
            refine gd_iret C hQ hret dL_does_68 ?_ ?_
            · exact Or.inl hP1
            · decide
          · exfalso; omega
        · exfalso; omega
      · exfalso; omega
    · exfalso; omega
  · exfalso; omega

set_option maxRecDepth 100000 in
set_option maxHeartbeats 4000000 in
theorem kL_write_cut {l : Launch} {D : va_G} {ky : Nat → ClassId} {z : Nat} {w : WT} (hl : l.stackTraces = false) {b : Nat} {q x : Int} {P0 : Option Value → WT → Prop} {XP : String → Prop} (hM : Mt l D ky z yX4_cut wsX4_cut { frames := 7, cells := 3, slots := 18, locals := 133 } [.ref b, .int (iI q), .int (iI x)] w P0 XP) (hb : ∃ fs, w b = some (oB 4 fs)) (hP : ∀ r w1, P0 r w1 → ∃ x1 : Int, r = some (.int (iI x1))) (hX : ∀ E, XP E → E = "java/lang/IndexOutOfBoundsException" ∨ E = "java/lang/IllegalArgumentException" ∨ E = "java/lang/IllegalStateException") : MtW l D ky z yL_write wsL_write { frames := 8, cells := 3, slots := 18, locals := 156 } [.ref b, .int (iI q), .int (iI x), .int (iI (-1))] w (fun r w' => P0 r w' ∨ (w = w' ∧ r = some (.int (iI (-8))) ∧ ∃ E, XP E)) := by
  refine MtW.of (cc := cL_write) (ret := (some .int)) (maxL := 5) (hh := [(0, 21, 22, 30), (0, 21, 27, 32), (0, 21, 32, 34)]) (by decide) rfl (by intro v hv; simp at hv; rcases hv with rfl | rfl | rfl | rfl <;> rfl) (Nat.le_of_ble_eq_true rfl) ?_ hl
  intro p e s m args below meth c C hNC ht hret Q hQ
  refine gd_iload_n C dL_write_0 rfl ?_
  refine gd_iconst C dL_write_1 ?_
  refine gd_icmp_ne (tgt := 14) C dL_write_2 (by decide) ?_ ?_ (fun hc2 => ?_) (fun hc2 => ?_)
  · first | decide | exact hk9.1
  · first | decide | exact hk9.1
  · exfalso; omega
  · refine gd_aload_n C dL_write_5 rfl ?_
    refine gd_iload_n C dL_write_6 rfl ?_
    refine gd_iload_n C dL_write_7 rfl ?_
    refine gd_callV (n := 2) (ci := 4) (Cn := RX4) (T := TX4) (N := 5) C (hM) ?_ rfl gL_write_X4_cut rfl ⟨rfl, by decide, by decide, by decide +kernel⟩ rfl rfl (Nat.le_of_ble_eq_true rfl) rfl dL_write_8 ⟨⟨by decide, by decide⟩, by decide, by decide⟩ ?_ ?_
    · exact hb
    · intro E hE
      rcases hX E hE with rfl | rfl | rfl
      · refine gx_catch C (name := "java/lang/IndexOutOfBoundsException") [] ⟨0, 21, 22, 30⟩ [⟨0, 21, 27, 32⟩, ⟨0, 21, 32, 34⟩] ht (fun _ h => absurd h List.not_mem_nil) (by decide) (by decide) (by decide +kernel) (by decide) (fun q9 => ?_)
        refine gd_astore C dL_write_22 (Nat.le_of_ble_eq_true rfl) ?_
        refine gd_bipush C dL_write_24 (by decide) ?_
        refine gd_iret C hQ hret dL_write_26 ?_ ?_
        · exact Or.inr ⟨rfl, rfl, _, hE⟩
        · decide
      · refine gx_catch C (name := "java/lang/IllegalArgumentException") [⟨0, 21, 22, 30⟩] ⟨0, 21, 27, 32⟩ [⟨0, 21, 32, 34⟩] ht (fun z hz => by rw [List.mem_singleton.mp hz]; exact Or.inr ⟨by decide, "java/lang/IndexOutOfBoundsException", by decide +kernel, hNC.2.2⟩) (by decide) (by decide) (by decide +kernel) (by decide) (fun q9 => ?_)
        refine gd_astore C dL_write_27 (Nat.le_of_ble_eq_true rfl) ?_
        refine gd_bipush C dL_write_29 (by decide) ?_
        refine gd_iret C hQ hret dL_write_31 ?_ ?_
        · exact Or.inr ⟨rfl, rfl, _, hE⟩
        · decide
      · refine gx_catch C (name := "java/lang/IllegalStateException") [⟨0, 21, 22, 30⟩, ⟨0, 21, 27, 32⟩] ⟨0, 21, 32, 34⟩ [] ht (fun z hz => by rcases List.mem_cons.mp hz with rfl | hz; exact Or.inr ⟨by decide, "java/lang/IndexOutOfBoundsException", by decide +kernel, hNC.2.1⟩; rw [List.mem_singleton.mp hz]; exact Or.inr ⟨by decide, "java/lang/IllegalArgumentException", by decide +kernel, hNC.1⟩) (by decide) (by decide) (by decide +kernel) (by decide) (fun q9 => ?_)
        refine gd_astore C dL_write_32 (Nat.le_of_ble_eq_true rfl) ?_
        refine gd_bipush C dL_write_34 (by decide) ?_
        refine gd_iret C hQ hret dL_write_36 ?_ ?_
        · exact Or.inr ⟨rfl, rfl, _, hE⟩
        · decide
    intro r1 w1 hP1
    obtain ⟨x1, rfl⟩ := hP r1 w1 hP1
    refine gd_goto (tgt := 21) C dL_write_11 (by decide) ?_
    refine gd_iret C hQ hret dL_write_21 ?_ ?_
    · exact Or.inl hP1
    · decide

set_option maxRecDepth 100000 in
set_option maxHeartbeats 4000000 in
theorem kL_write_write {l : Launch} {D : va_G} {ky : Nat → ClassId} {z : Nat} {w : WT} (hl : l.stackTraces = false) {b : Nat} {q x k : Int} (hk9 : InR k ∧ k ≠ -1) {P0 : Option Value → WT → Prop} {XP : String → Prop} (hM : Mt l D ky z yX4_write wsX4_write { frames := 7, cells := 5, slots := 30, locals := 112 } [.ref b, .int (iI q), .int (iI x), .int (iI k)] w P0 XP) (hb : ∃ fs, w b = some (oB 4 fs)) (hP : ∀ r w1, P0 r w1 → ∃ x1 : Int, r = some (.int (iI x1))) (hX : ∀ E, XP E → E = "java/lang/IndexOutOfBoundsException" ∨ E = "java/lang/IllegalArgumentException" ∨ E = "java/lang/IllegalStateException") : MtW l D ky z yL_write wsL_write { frames := 8, cells := 5, slots := 30, locals := 137 } [.ref b, .int (iI q), .int (iI x), .int (iI k)] w (fun r w' => P0 r w' ∨ (w = w' ∧ r = some (.int (iI (-8))) ∧ ∃ E, XP E)) := by
  refine MtW.of (cc := cL_write) (ret := (some .int)) (maxL := 5) (hh := [(0, 21, 22, 30), (0, 21, 27, 32), (0, 21, 32, 34)]) (by decide) rfl (by intro v hv; simp at hv; rcases hv with rfl | rfl | rfl | rfl <;> rfl) (Nat.le_of_ble_eq_true rfl) ?_ hl
  intro p e s m args below meth c C hNC ht hret Q hQ
  refine gd_iload_n C dL_write_0 rfl ?_
  refine gd_iconst C dL_write_1 ?_
  refine gd_icmp_ne (tgt := 14) C dL_write_2 (by decide) ?_ ?_ (fun hc2 => ?_) (fun hc2 => ?_)
  · first | decide | exact hk9.1
  · first | decide | exact hk9.1
  · refine gd_aload_n C dL_write_14 rfl ?_
    refine gd_iload_n C dL_write_15 rfl ?_
    refine gd_iload_n C dL_write_16 rfl ?_
    refine gd_iload_n C dL_write_17 rfl ?_
    refine gd_callV (n := 3) (ci := 4) (Cn := RX4) (T := TX4) (N := 5) C (hM) ?_ rfl gL_write_X4_write rfl ⟨rfl, by decide, by decide, by decide +kernel⟩ rfl rfl (Nat.le_of_ble_eq_true rfl) rfl dL_write_18 ⟨⟨by decide, by decide⟩, by decide, by decide⟩ ?_ ?_
    · exact hb
    · intro E hE
      rcases hX E hE with rfl | rfl | rfl
      · refine gx_catch C (name := "java/lang/IndexOutOfBoundsException") [] ⟨0, 21, 22, 30⟩ [⟨0, 21, 27, 32⟩, ⟨0, 21, 32, 34⟩] ht (fun _ h => absurd h List.not_mem_nil) (by decide) (by decide) (by decide +kernel) (by decide) (fun q9 => ?_)
        refine gd_astore C dL_write_22 (Nat.le_of_ble_eq_true rfl) ?_
        refine gd_bipush C dL_write_24 (by decide) ?_
        refine gd_iret C hQ hret dL_write_26 ?_ ?_
        · exact Or.inr ⟨rfl, rfl, _, hE⟩
        · decide
      · refine gx_catch C (name := "java/lang/IllegalArgumentException") [⟨0, 21, 22, 30⟩] ⟨0, 21, 27, 32⟩ [⟨0, 21, 32, 34⟩] ht (fun z hz => by rw [List.mem_singleton.mp hz]; exact Or.inr ⟨by decide, "java/lang/IndexOutOfBoundsException", by decide +kernel, hNC.2.2⟩) (by decide) (by decide) (by decide +kernel) (by decide) (fun q9 => ?_)
        refine gd_astore C dL_write_27 (Nat.le_of_ble_eq_true rfl) ?_
        refine gd_bipush C dL_write_29 (by decide) ?_
        refine gd_iret C hQ hret dL_write_31 ?_ ?_
        · exact Or.inr ⟨rfl, rfl, _, hE⟩
        · decide
      · refine gx_catch C (name := "java/lang/IllegalStateException") [⟨0, 21, 22, 30⟩, ⟨0, 21, 27, 32⟩] ⟨0, 21, 32, 34⟩ [] ht (fun z hz => by rcases List.mem_cons.mp hz with rfl | hz; exact Or.inr ⟨by decide, "java/lang/IndexOutOfBoundsException", by decide +kernel, hNC.2.1⟩; rw [List.mem_singleton.mp hz]; exact Or.inr ⟨by decide, "java/lang/IllegalArgumentException", by decide +kernel, hNC.1⟩) (by decide) (by decide) (by decide +kernel) (by decide) (fun q9 => ?_)
        refine gd_astore C dL_write_32 (Nat.le_of_ble_eq_true rfl) ?_
        refine gd_bipush C dL_write_34 (by decide) ?_
        refine gd_iret C hQ hret dL_write_36 ?_ ?_
        · exact Or.inr ⟨rfl, rfl, _, hE⟩
        · decide
    intro r1 w1 hP1
    obtain ⟨x1, rfl⟩ := hP r1 w1 hP1
    refine gd_iret C hQ hret dL_write_21 ?_ ?_
    · exact Or.inl hP1
    · decide
  · exfalso; omega

set_option maxRecDepth 100000 in
set_option maxHeartbeats 4000000 in
theorem kL_crashes {l : Launch} {D : va_G} {ky : Nat → ClassId} {z : Nat} {w : WT} (hl : l.stackTraces = false) {b : Nat} {q : Int} {P0 : Option Value → WT → Prop} {XP : String → Prop} (hM : Mt l D ky z yX4_crashBehind wsX4_crashBehind { frames := 7, cells := 2, slots := 12, locals := 112 } [.ref b, .int (iI q)] w P0 XP) (hb : ∃ fs, w b = some (oB 4 fs)) (hP : ∀ r w1, P0 r w1 → r = none) (hX : ∀ E, XP E → E = "java/lang/IllegalArgumentException" ∨ E = "java/lang/IllegalStateException") : MtW l D ky z yL_crashes wsL_crashes { frames := 8, cells := 2, slots := 12, locals := 133 } [.ref b, .int (iI q)] w (fun r w' => (r = some (.int (iI 1)) ∧ P0 none w') ∨ (w = w' ∧ r = some (.int (iI 0)) ∧ ∃ E, XP E)) := by
  refine MtW.of (cc := cL_crashes) (ret := (some .boolean)) (maxL := 3) (hh := [(0, 5, 8, 32), (0, 5, 11, 34)]) (by decide) rfl (by intro v hv; simp at hv; rcases hv with rfl | rfl <;> rfl) (Nat.le_of_ble_eq_true rfl) ?_ hl
  intro p e s m args below meth c C hNC ht hret Q hQ
  refine gd_aload_n C dL_crashes_0 rfl ?_
  refine gd_iload_n C dL_crashes_1 rfl ?_
  refine gd_callV (n := 1) (ci := 4) (Cn := RX4) (T := TX4) (N := 5) C (hM) ?_ rfl gL_crashes_X4_crashBehind rfl ⟨rfl, by decide, by decide, by decide +kernel⟩ rfl rfl (Nat.le_of_ble_eq_true rfl) rfl dL_crashes_2 ⟨⟨by decide, by decide⟩, by decide, by decide⟩ ?_ ?_
  · exact hb
  · intro E hE
    rcases hX E hE with rfl | rfl
    · refine gx_catch C (name := "java/lang/IllegalArgumentException") [] ⟨0, 5, 8, 32⟩ [⟨0, 5, 11, 34⟩] ht (fun _ h => absurd h List.not_mem_nil) (by decide) (by decide) (by decide +kernel) (by decide) (fun q9 => ?_)
      refine gd_astore_n C dL_crashes_8 (Nat.le_of_ble_eq_true rfl) ?_
      refine gd_iconst C dL_crashes_9 ?_
      refine gd_zret C hQ hret (Or.inl rfl) dL_crashes_10 ?_ ?_
      · exact Or.inr ⟨rfl, rfl, _, hE⟩
      · decide
    · refine gx_catch C (name := "java/lang/IllegalStateException") [⟨0, 5, 8, 32⟩] ⟨0, 5, 11, 34⟩ [] ht (fun z hz => by rw [List.mem_singleton.mp hz]; exact Or.inr ⟨by decide, "java/lang/IllegalArgumentException", by decide +kernel, hNC.1⟩) (by decide) (by decide) (by decide +kernel) (by decide) (fun q9 => ?_)
      refine gd_astore_n C dL_crashes_11 (Nat.le_of_ble_eq_true rfl) ?_
      refine gd_iconst C dL_crashes_12 ?_
      refine gd_zret C hQ hret (Or.inl rfl) dL_crashes_13 ?_ ?_
      · exact Or.inr ⟨rfl, rfl, _, hE⟩
      · decide
  intro r1 w1 hP1
  obtain rfl := hP r1 w1 hP1
  refine gd_goto (tgt := 14) C dL_crashes_5 (by decide) ?_
  refine gd_iconst C dL_crashes_14 ?_
  refine gd_zret C hQ hret ?_ dL_crashes_15 ?_ ?_
  · exact Or.inr rfl
  · exact Or.inl ⟨rfl, hP1⟩
  · decide

set_option maxRecDepth 100000 in
set_option maxHeartbeats 4000000 in
theorem kL_crash {l : Launch} {D : va_G} {ky : Nat → ClassId} {z : Nat} {w : WT} (hl : l.stackTraces = false) {b : Nat} {P0 : Option Value → WT → Prop} {XP : String → Prop} (hM : Mt l D ky z yX4_crash wsX4_crash { frames := 7, cells := 1, slots := 6, locals := 110 } [.ref b] w P0 XP) (hb : ∃ fs, w b = some (oB 4 fs)) (hP : ∀ r w1, P0 r w1 → r = none) (hX : ∀ E, XP E → E = "java/lang/IllegalStateException") : MtW l D ky z yL_crash wsL_crash { frames := 8, cells := 1, slots := 6, locals := 130 } [.ref b] w (fun r w' => (r = some (.int (iI 1)) ∧ P0 none w') ∨ (w = w' ∧ r = some (.int (iI 0)) ∧ ∃ E, XP E)) := by
  refine MtW.of (cc := cL_crash) (ret := (some .boolean)) (maxL := 2) (hh := [(0, 4, 7, 34)]) (by decide) rfl (by intro v hv; simp at hv; rcases hv with rfl <;> rfl) (Nat.le_of_ble_eq_true rfl) ?_ hl
  intro p e s m args below meth c C hNC ht hret Q hQ
  refine gd_aload_n C dL_crash_0 rfl ?_
  refine gd_callV (n := 0) (ci := 4) (Cn := RX4) (T := TX4) (N := 5) C (hM) ?_ rfl gL_crash_X4_crash rfl ⟨rfl, by decide, by decide, by decide +kernel⟩ rfl rfl (Nat.le_of_ble_eq_true rfl) rfl dL_crash_1 ⟨⟨by decide, by decide⟩, by decide, by decide⟩ ?_ ?_
  · exact hb
  · intro E hE
    obtain rfl := hX E hE
    refine gx_catch C (name := "java/lang/IllegalStateException") [] ⟨0, 4, 7, 34⟩ [] ht (fun _ h => absurd h List.not_mem_nil) (by decide) (by decide) (by decide +kernel) (by decide) (fun q9 => ?_)
    refine gd_astore_n C dL_crash_7 (Nat.le_of_ble_eq_true rfl) ?_
    refine gd_iconst C dL_crash_8 ?_
    refine gd_zret C hQ hret (Or.inl rfl) dL_crash_9 ?_ ?_
    · exact Or.inr ⟨rfl, rfl, _, hE⟩
    · decide
  intro r1 w1 hP1
  obtain rfl := hP r1 w1 hP1
  refine gd_goto (tgt := 10) C dL_crash_4 (by decide) ?_
  refine gd_iconst C dL_crash_10 ?_
  refine gd_zret C hQ hret ?_ dL_crash_11 ?_ ?_
  · exact Or.inr rfl
  · exact Or.inl ⟨rfl, hP1⟩
  · decide

set_option maxRecDepth 100000 in
set_option maxHeartbeats 4000000 in
theorem kL_of_opens {l : Launch} {D : va_G} {ky : Nat → ClassId} {z : Nat} {w : WT} (hl : l.stackTraces = false) {b : Nat} {q x : Int} {P0 : Option Value → WT → Prop} {XP : String → Prop} (hM : Mt l D ky z yX4_opens wsX4_opens { frames := 7, cells := 1, slots := 6, locals := 111 } [.ref b, .int (iI q)] w P0 XP) (hb : ∃ fs, w b = some (oB 4 fs)) (hP : ∀ r w1, P0 r w1 → ∃ x1 : Int, r = some (.int (iI x1))) (hX : ∀ E, XP E → E = "java/lang/IndexOutOfBoundsException") : MtW l D ky z yL_of wsL_of { frames := 8, cells := 1, slots := 6, locals := 132 } [.ref b, .int (iI 0), .int (iI q), .int (iI x)] w (fun r w' => P0 r w' ∨ (w = w' ∧ r = some (.int (iI (-8))) ∧ ∃ E, XP E)) := by
  refine MtW.of (cc := cL_of) (ret := (some .int)) (maxL := 5) (hh := [(0, 107, 108, 30), (0, 107, 113, 32)]) (by decide) rfl (by intro v hv; simp at hv; rcases hv with rfl | rfl | rfl | rfl <;> rfl) (Nat.le_of_ble_eq_true rfl) ?_ hl
  intro p e s m args below meth c C hNC ht hret Q hQ
  refine gd_iload_n C dL_of_0 rfl ?_
  refine gd_if_ne (tgt := 12) C dL_of_1 (by decide) ?_ (fun hc1 => ?_) (fun hc1 => ?_)
  · first | decide | exact hk9.1
  · exfalso; omega
  · refine gd_aload_n C dL_of_4 rfl ?_
    refine gd_iload_n C dL_of_5 rfl ?_
    refine gd_callV (n := 1) (ci := 4) (Cn := RX4) (T := TX4) (N := 5) C (hM) ?_ rfl gL_of_X4_opens rfl ⟨rfl, by decide, by decide, by decide +kernel⟩ rfl rfl (Nat.le_of_ble_eq_true rfl) rfl dL_of_6 ⟨⟨by decide, by decide⟩, by decide, by decide⟩ ?_ ?_
    · exact hb
    · intro E hE
      obtain rfl := hX E hE
      refine gx_catch C (name := "java/lang/IndexOutOfBoundsException") [] ⟨0, 107, 108, 30⟩ [⟨0, 107, 113, 32⟩] ht (fun _ h => absurd h List.not_mem_nil) (by decide) (by decide) (by decide +kernel) (by decide) (fun q9 => ?_)
      refine gd_astore C dL_of_108 (Nat.le_of_ble_eq_true rfl) ?_
      refine gd_bipush C dL_of_110 (by decide) ?_
      refine gd_iret C hQ hret dL_of_112 ?_ ?_
      · exact Or.inr ⟨rfl, rfl, _, hE⟩
      · decide
    intro r1 w1 hP1
    obtain ⟨x1, rfl⟩ := hP r1 w1 hP1
    refine gd_goto (tgt := 107) C dL_of_9 (by decide) ?_
    refine gd_iret C hQ hret dL_of_107 ?_ ?_
    · exact Or.inl hP1
    · decide

set_option maxRecDepth 100000 in
set_option maxHeartbeats 4000000 in
theorem kL_of_extents {l : Launch} {D : va_G} {ky : Nat → ClassId} {z : Nat} {w : WT} (hl : l.stackTraces = false) {b : Nat} {q x : Int} {P0 : Option Value → WT → Prop} {XP : String → Prop} (hM : Mt l D ky z yX4_extents wsX4_extents { frames := 7, cells := 1, slots := 6, locals := 111 } [.ref b, .int (iI q)] w P0 XP) (hb : ∃ fs, w b = some (oB 4 fs)) (hP : ∀ r w1, P0 r w1 → ∃ x1 : Int, r = some (.int (iI x1))) (hX : ∀ E, XP E → E = "java/lang/IndexOutOfBoundsException") : MtW l D ky z yL_of wsL_of { frames := 8, cells := 1, slots := 6, locals := 132 } [.ref b, .int (iI 1), .int (iI q), .int (iI x)] w (fun r w' => P0 r w' ∨ (w = w' ∧ r = some (.int (iI (-8))) ∧ ∃ E, XP E)) := by
  refine MtW.of (cc := cL_of) (ret := (some .int)) (maxL := 5) (hh := [(0, 107, 108, 30), (0, 107, 113, 32)]) (by decide) rfl (by intro v hv; simp at hv; rcases hv with rfl | rfl | rfl | rfl <;> rfl) (Nat.le_of_ble_eq_true rfl) ?_ hl
  intro p e s m args below meth c C hNC ht hret Q hQ
  refine gd_iload_n C dL_of_0 rfl ?_
  refine gd_if_ne (tgt := 12) C dL_of_1 (by decide) ?_ (fun hc1 => ?_) (fun hc1 => ?_)
  · first | decide | exact hk9.1
  · refine gd_iload_n C dL_of_12 rfl ?_
    refine gd_iconst C dL_of_13 ?_
    refine gd_icmp_ne (tgt := 25) C dL_of_14 (by decide) ?_ ?_ (fun hc14 => ?_) (fun hc14 => ?_)
    · first | decide | exact hk9.1
    · first | decide | exact hk9.1
    · exfalso; omega
    · refine gd_aload_n C dL_of_17 rfl ?_
      refine gd_iload_n C dL_of_18 rfl ?_
      refine gd_callV (n := 1) (ci := 4) (Cn := RX4) (T := TX4) (N := 5) C (hM) ?_ rfl gL_of_X4_extents rfl ⟨rfl, by decide, by decide, by decide +kernel⟩ rfl rfl (Nat.le_of_ble_eq_true rfl) rfl dL_of_19 ⟨⟨by decide, by decide⟩, by decide, by decide⟩ ?_ ?_
      · exact hb
      · intro E hE
        obtain rfl := hX E hE
        refine gx_catch C (name := "java/lang/IndexOutOfBoundsException") [] ⟨0, 107, 108, 30⟩ [⟨0, 107, 113, 32⟩] ht (fun _ h => absurd h List.not_mem_nil) (by decide) (by decide) (by decide +kernel) (by decide) (fun q9 => ?_)
        refine gd_astore C dL_of_108 (Nat.le_of_ble_eq_true rfl) ?_
        refine gd_bipush C dL_of_110 (by decide) ?_
        refine gd_iret C hQ hret dL_of_112 ?_ ?_
        · exact Or.inr ⟨rfl, rfl, _, hE⟩
        · decide
      intro r1 w1 hP1
      obtain ⟨x1, rfl⟩ := hP r1 w1 hP1
      refine gd_goto (tgt := 107) C dL_of_22 (by decide) ?_
      refine gd_iret C hQ hret dL_of_107 ?_ ?_
      · exact Or.inl hP1
      · decide
  · exfalso; omega

set_option maxRecDepth 100000 in
set_option maxHeartbeats 4000000 in
theorem kL_of_extent {l : Launch} {D : va_G} {ky : Nat → ClassId} {z : Nat} {w : WT} (hl : l.stackTraces = false) {b : Nat} {q x : Int} {P0 : Option Value → WT → Prop} {XP : String → Prop} (hM : Mt l D ky z yX4_extent wsX4_extent { frames := 7, cells := 2, slots := 12, locals := 111 } [.ref b, .int (iI q), .int (iI x)] w P0 XP) (hb : ∃ fs, w b = some (oB 4 fs)) (hP : ∀ r w1, P0 r w1 → ∃ x1 : Int, r = some (.int (iI x1))) (hX : ∀ E, XP E → E = "java/lang/IndexOutOfBoundsException") : MtW l D ky z yL_of wsL_of { frames := 8, cells := 2, slots := 12, locals := 135 } [.ref b, .int (iI 2), .int (iI q), .int (iI x)] w (fun r w' => P0 r w' ∨ (w = w' ∧ r = some (.int (iI (-8))) ∧ ∃ E, XP E)) := by
  refine MtW.of (cc := cL_of) (ret := (some .int)) (maxL := 5) (hh := [(0, 107, 108, 30), (0, 107, 113, 32)]) (by decide) rfl (by intro v hv; simp at hv; rcases hv with rfl | rfl | rfl | rfl <;> rfl) (Nat.le_of_ble_eq_true rfl) ?_ hl
  intro p e s m args below meth c C hNC ht hret Q hQ
  refine gd_iload_n C dL_of_0 rfl ?_
  refine gd_if_ne (tgt := 12) C dL_of_1 (by decide) ?_ (fun hc1 => ?_) (fun hc1 => ?_)
  · first | decide | exact hk9.1
  · refine gd_iload_n C dL_of_12 rfl ?_
    refine gd_iconst C dL_of_13 ?_
    refine gd_icmp_ne (tgt := 25) C dL_of_14 (by decide) ?_ ?_ (fun hc14 => ?_) (fun hc14 => ?_)
    · first | decide | exact hk9.1
    · first | decide | exact hk9.1
    · refine gd_iload_n C dL_of_25 rfl ?_
      refine gd_iconst C dL_of_26 ?_
      refine gd_icmp_ne (tgt := 39) C dL_of_27 (by decide) ?_ ?_ (fun hc27 => ?_) (fun hc27 => ?_)
      · first | decide | exact hk9.1
      · first | decide | exact hk9.1
      · exfalso; omega
      · refine gd_aload_n C dL_of_30 rfl ?_
        refine gd_iload_n C dL_of_31 rfl ?_
        refine gd_iload_n C dL_of_32 rfl ?_
        refine gd_callV (n := 2) (ci := 4) (Cn := RX4) (T := TX4) (N := 5) C (hM) ?_ rfl gL_of_X4_extent rfl ⟨rfl, by decide, by decide, by decide +kernel⟩ rfl rfl (Nat.le_of_ble_eq_true rfl) rfl dL_of_33 ⟨⟨by decide, by decide⟩, by decide, by decide⟩ ?_ ?_
        · exact hb
        · intro E hE
          obtain rfl := hX E hE
          refine gx_catch C (name := "java/lang/IndexOutOfBoundsException") [] ⟨0, 107, 108, 30⟩ [⟨0, 107, 113, 32⟩] ht (fun _ h => absurd h List.not_mem_nil) (by decide) (by decide) (by decide +kernel) (by decide) (fun q9 => ?_)
          refine gd_astore C dL_of_108 (Nat.le_of_ble_eq_true rfl) ?_
          refine gd_bipush C dL_of_110 (by decide) ?_
          refine gd_iret C hQ hret dL_of_112 ?_ ?_
          · exact Or.inr ⟨rfl, rfl, _, hE⟩
          · decide
        intro r1 w1 hP1
        obtain ⟨x1, rfl⟩ := hP r1 w1 hP1
        refine gd_goto (tgt := 107) C dL_of_36 (by decide) ?_
        refine gd_iret C hQ hret dL_of_107 ?_ ?_
        · exact Or.inl hP1
        · decide
    · exfalso; omega
  · exfalso; omega

set_option maxRecDepth 100000 in
set_option maxHeartbeats 4000000 in
theorem kL_of_blockAt {l : Launch} {D : va_G} {ky : Nat → ClassId} {z : Nat} {w : WT} (hl : l.stackTraces = false) {b : Nat} {q x : Int} {P0 : Option Value → WT → Prop} {XP : String → Prop} (hM : Mt l D ky z yX4_blockAt wsX4_blockAt { frames := 7, cells := 2, slots := 12, locals := 112 } [.ref b, .int (iI q), .int (iI x)] w P0 XP) (hb : ∃ fs, w b = some (oB 4 fs)) (hP : ∀ r w1, P0 r w1 → ∃ x1 : Int, r = some (.int (iI x1))) (hX : ∀ E, XP E → E = "java/lang/IndexOutOfBoundsException" ∨ E = "java/lang/IllegalArgumentException") : MtW l D ky z yL_of wsL_of { frames := 8, cells := 2, slots := 12, locals := 135 } [.ref b, .int (iI 3), .int (iI q), .int (iI x)] w (fun r w' => P0 r w' ∨ (w = w' ∧ r = some (.int (iI (-8))) ∧ ∃ E, XP E)) := by
  refine MtW.of (cc := cL_of) (ret := (some .int)) (maxL := 5) (hh := [(0, 107, 108, 30), (0, 107, 113, 32)]) (by decide) rfl (by intro v hv; simp at hv; rcases hv with rfl | rfl | rfl | rfl <;> rfl) (Nat.le_of_ble_eq_true rfl) ?_ hl
  intro p e s m args below meth c C hNC ht hret Q hQ
  refine gd_iload_n C dL_of_0 rfl ?_
  refine gd_if_ne (tgt := 12) C dL_of_1 (by decide) ?_ (fun hc1 => ?_) (fun hc1 => ?_)
  · first | decide | exact hk9.1
  · refine gd_iload_n C dL_of_12 rfl ?_
    refine gd_iconst C dL_of_13 ?_
    refine gd_icmp_ne (tgt := 25) C dL_of_14 (by decide) ?_ ?_ (fun hc14 => ?_) (fun hc14 => ?_)
    · first | decide | exact hk9.1
    · first | decide | exact hk9.1
    · refine gd_iload_n C dL_of_25 rfl ?_
      refine gd_iconst C dL_of_26 ?_
      refine gd_icmp_ne (tgt := 39) C dL_of_27 (by decide) ?_ ?_ (fun hc27 => ?_) (fun hc27 => ?_)
      · first | decide | exact hk9.1
      · first | decide | exact hk9.1
      · refine gd_iload_n C dL_of_39 rfl ?_
        refine gd_iconst C dL_of_40 ?_
        refine gd_icmp_ne (tgt := 53) C dL_of_41 (by decide) ?_ ?_ (fun hc41 => ?_) (fun hc41 => ?_)
        · first | decide | exact hk9.1
        · first | decide | exact hk9.1
        · exfalso; omega
        · refine gd_aload_n C dL_of_44 rfl ?_
          refine gd_iload_n C dL_of_45 rfl ?_
          refine gd_iload_n C dL_of_46 rfl ?_
          refine gd_callV (n := 2) (ci := 4) (Cn := RX4) (T := TX4) (N := 5) C (hM) ?_ rfl gL_of_X4_blockAt rfl ⟨rfl, by decide, by decide, by decide +kernel⟩ rfl rfl (Nat.le_of_ble_eq_true rfl) rfl dL_of_47 ⟨⟨by decide, by decide⟩, by decide, by decide⟩ ?_ ?_
          · exact hb
          · intro E hE
            rcases hX E hE with rfl | rfl
            · refine gx_catch C (name := "java/lang/IndexOutOfBoundsException") [] ⟨0, 107, 108, 30⟩ [⟨0, 107, 113, 32⟩] ht (fun _ h => absurd h List.not_mem_nil) (by decide) (by decide) (by decide +kernel) (by decide) (fun q9 => ?_)
              refine gd_astore C dL_of_108 (Nat.le_of_ble_eq_true rfl) ?_
              refine gd_bipush C dL_of_110 (by decide) ?_
              refine gd_iret C hQ hret dL_of_112 ?_ ?_
              · exact Or.inr ⟨rfl, rfl, _, hE⟩
              · decide
            · refine gx_catch C (name := "java/lang/IllegalArgumentException") [⟨0, 107, 108, 30⟩] ⟨0, 107, 113, 32⟩ [] ht (fun z hz => by rw [List.mem_singleton.mp hz]; exact Or.inr ⟨by decide, "java/lang/IndexOutOfBoundsException", by decide +kernel, hNC.2.2⟩) (by decide) (by decide) (by decide +kernel) (by decide) (fun q9 => ?_)
              refine gd_astore C dL_of_113 (Nat.le_of_ble_eq_true rfl) ?_
              refine gd_bipush C dL_of_115 (by decide) ?_
              refine gd_iret C hQ hret dL_of_117 ?_ ?_
              · exact Or.inr ⟨rfl, rfl, _, hE⟩
              · decide
          intro r1 w1 hP1
          obtain ⟨x1, rfl⟩ := hP r1 w1 hP1
          refine gd_goto (tgt := 107) C dL_of_50 (by decide) ?_
          refine gd_iret C hQ hret dL_of_107 ?_ ?_
          · exact Or.inl hP1
          · decide
      · exfalso; omega
    · exfalso; omega
  · exfalso; omega

set_option maxRecDepth 100000 in
set_option maxHeartbeats 4000000 in
theorem kL_of_pieces {l : Launch} {D : va_G} {ky : Nat → ClassId} {z : Nat} {w : WT} (hl : l.stackTraces = false) {b : Nat} {q x : Int} {P0 : Option Value → WT → Prop} {XP : String → Prop} (hM : Mt l D ky z yX4_pieces wsX4_pieces { frames := 7, cells := 2, slots := 12, locals := 112 } [.ref b, .int (iI q), .int (iI x)] w P0 XP) (hb : ∃ fs, w b = some (oB 4 fs)) (hP : ∀ r w1, P0 r w1 → ∃ x1 : Int, r = some (.int (iI x1))) (hX : ∀ E, XP E → E = "java/lang/IndexOutOfBoundsException" ∨ E = "java/lang/IllegalArgumentException") : MtW l D ky z yL_of wsL_of { frames := 8, cells := 2, slots := 12, locals := 134 } [.ref b, .int (iI 4), .int (iI q), .int (iI x)] w (fun r w' => P0 r w' ∨ (w = w' ∧ r = some (.int (iI (-8))) ∧ ∃ E, XP E)) := by
  refine MtW.of (cc := cL_of) (ret := (some .int)) (maxL := 5) (hh := [(0, 107, 108, 30), (0, 107, 113, 32)]) (by decide) rfl (by intro v hv; simp at hv; rcases hv with rfl | rfl | rfl | rfl <;> rfl) (Nat.le_of_ble_eq_true rfl) ?_ hl
  intro p e s m args below meth c C hNC ht hret Q hQ
  refine gd_iload_n C dL_of_0 rfl ?_
  refine gd_if_ne (tgt := 12) C dL_of_1 (by decide) ?_ (fun hc1 => ?_) (fun hc1 => ?_)
  · first | decide | exact hk9.1
  · refine gd_iload_n C dL_of_12 rfl ?_
    refine gd_iconst C dL_of_13 ?_
    refine gd_icmp_ne (tgt := 25) C dL_of_14 (by decide) ?_ ?_ (fun hc14 => ?_) (fun hc14 => ?_)
    · first | decide | exact hk9.1
    · first | decide | exact hk9.1
    · refine gd_iload_n C dL_of_25 rfl ?_
      refine gd_iconst C dL_of_26 ?_
      refine gd_icmp_ne (tgt := 39) C dL_of_27 (by decide) ?_ ?_ (fun hc27 => ?_) (fun hc27 => ?_)
      · first | decide | exact hk9.1
      · first | decide | exact hk9.1
      · refine gd_iload_n C dL_of_39 rfl ?_
        refine gd_iconst C dL_of_40 ?_
        refine gd_icmp_ne (tgt := 53) C dL_of_41 (by decide) ?_ ?_ (fun hc41 => ?_) (fun hc41 => ?_)
        · first | decide | exact hk9.1
        · first | decide | exact hk9.1
        · refine gd_iload_n C dL_of_53 rfl ?_
          refine gd_iconst C dL_of_54 ?_
          refine gd_icmp_ne (tgt := 67) C dL_of_55 (by decide) ?_ ?_ (fun hc55 => ?_) (fun hc55 => ?_)
          · first | decide | exact hk9.1
          · first | decide | exact hk9.1
          · exfalso; omega
          · refine gd_aload_n C dL_of_58 rfl ?_
            refine gd_iload_n C dL_of_59 rfl ?_
            refine gd_iload_n C dL_of_60 rfl ?_
            refine gd_callV (n := 2) (ci := 4) (Cn := RX4) (T := TX4) (N := 5) C (hM) ?_ rfl gL_of_X4_pieces rfl ⟨rfl, by decide, by decide, by decide +kernel⟩ rfl rfl (Nat.le_of_ble_eq_true rfl) rfl dL_of_61 ⟨⟨by decide, by decide⟩, by decide, by decide⟩ ?_ ?_
            · exact hb
            · intro E hE
              rcases hX E hE with rfl | rfl
              · refine gx_catch C (name := "java/lang/IndexOutOfBoundsException") [] ⟨0, 107, 108, 30⟩ [⟨0, 107, 113, 32⟩] ht (fun _ h => absurd h List.not_mem_nil) (by decide) (by decide) (by decide +kernel) (by decide) (fun q9 => ?_)
                refine gd_astore C dL_of_108 (Nat.le_of_ble_eq_true rfl) ?_
                refine gd_bipush C dL_of_110 (by decide) ?_
                refine gd_iret C hQ hret dL_of_112 ?_ ?_
                · exact Or.inr ⟨rfl, rfl, _, hE⟩
                · decide
              · refine gx_catch C (name := "java/lang/IllegalArgumentException") [⟨0, 107, 108, 30⟩] ⟨0, 107, 113, 32⟩ [] ht (fun z hz => by rw [List.mem_singleton.mp hz]; exact Or.inr ⟨by decide, "java/lang/IndexOutOfBoundsException", by decide +kernel, hNC.2.2⟩) (by decide) (by decide) (by decide +kernel) (by decide) (fun q9 => ?_)
                refine gd_astore C dL_of_113 (Nat.le_of_ble_eq_true rfl) ?_
                refine gd_bipush C dL_of_115 (by decide) ?_
                refine gd_iret C hQ hret dL_of_117 ?_ ?_
                · exact Or.inr ⟨rfl, rfl, _, hE⟩
                · decide
            intro r1 w1 hP1
            obtain ⟨x1, rfl⟩ := hP r1 w1 hP1
            refine gd_goto (tgt := 107) C dL_of_64 (by decide) ?_
            refine gd_iret C hQ hret dL_of_107 ?_ ?_
            · exact Or.inl hP1
            · decide
        · exfalso; omega
      · exfalso; omega
    · exfalso; omega
  · exfalso; omega

set_option maxRecDepth 100000 in
set_option maxHeartbeats 4000000 in
theorem kL_of_fileOf {l : Launch} {D : va_G} {ky : Nat → ClassId} {z : Nat} {w : WT} (hl : l.stackTraces = false) {b : Nat} {q x : Int} {P0 : Option Value → WT → Prop} {XP : String → Prop} (hM : Mt l D ky z yX4_fileOf wsX4_fileOf { frames := 8, cells := 1, slots := 6, locals := 132 } [.ref b, .int (iI q)] w P0 XP) (hb : ∃ fs, w b = some (oB 4 fs)) (hP : ∀ r w1, P0 r w1 → ∃ x1 : Int, r = some (.int (iI x1))) (hX : ∀ E, XP E → E = "java/lang/IllegalArgumentException") : MtW l D ky z yL_of wsL_of { frames := 9, cells := 1, slots := 6, locals := 153 } [.ref b, .int (iI 5), .int (iI q), .int (iI x)] w (fun r w' => P0 r w' ∨ (w = w' ∧ r = some (.int (iI (-8))) ∧ ∃ E, XP E)) := by
  refine MtW.of (cc := cL_of) (ret := (some .int)) (maxL := 5) (hh := [(0, 107, 108, 30), (0, 107, 113, 32)]) (by decide) rfl (by intro v hv; simp at hv; rcases hv with rfl | rfl | rfl | rfl <;> rfl) (Nat.le_of_ble_eq_true rfl) ?_ hl
  intro p e s m args below meth c C hNC ht hret Q hQ
  refine gd_iload_n C dL_of_0 rfl ?_
  refine gd_if_ne (tgt := 12) C dL_of_1 (by decide) ?_ (fun hc1 => ?_) (fun hc1 => ?_)
  · first | decide | exact hk9.1
  · refine gd_iload_n C dL_of_12 rfl ?_
    refine gd_iconst C dL_of_13 ?_
    refine gd_icmp_ne (tgt := 25) C dL_of_14 (by decide) ?_ ?_ (fun hc14 => ?_) (fun hc14 => ?_)
    · first | decide | exact hk9.1
    · first | decide | exact hk9.1
    · refine gd_iload_n C dL_of_25 rfl ?_
      refine gd_iconst C dL_of_26 ?_
      refine gd_icmp_ne (tgt := 39) C dL_of_27 (by decide) ?_ ?_ (fun hc27 => ?_) (fun hc27 => ?_)
      · first | decide | exact hk9.1
      · first | decide | exact hk9.1
      · refine gd_iload_n C dL_of_39 rfl ?_
        refine gd_iconst C dL_of_40 ?_
        refine gd_icmp_ne (tgt := 53) C dL_of_41 (by decide) ?_ ?_ (fun hc41 => ?_) (fun hc41 => ?_)
        · first | decide | exact hk9.1
        · first | decide | exact hk9.1
        · refine gd_iload_n C dL_of_53 rfl ?_
          refine gd_iconst C dL_of_54 ?_
          refine gd_icmp_ne (tgt := 67) C dL_of_55 (by decide) ?_ ?_ (fun hc55 => ?_) (fun hc55 => ?_)
          · first | decide | exact hk9.1
          · first | decide | exact hk9.1
          · refine gd_iload_n C dL_of_67 rfl ?_
            refine gd_iconst C dL_of_68 ?_
            refine gd_icmp_ne (tgt := 80) C dL_of_69 (by decide) ?_ ?_ (fun hc69 => ?_) (fun hc69 => ?_)
            · first | decide | exact hk9.1
            · first | decide | exact hk9.1
            · exfalso; omega
            · refine gd_aload_n C dL_of_72 rfl ?_
              refine gd_iload_n C dL_of_73 rfl ?_
              refine gd_callV (n := 1) (ci := 4) (Cn := RX4) (T := TX4) (N := 5) C (hM) ?_ rfl gL_of_X4_fileOf rfl ⟨rfl, by decide, by decide, by decide +kernel⟩ rfl rfl (Nat.le_of_ble_eq_true rfl) rfl dL_of_74 ⟨⟨by decide, by decide⟩, by decide, by decide⟩ ?_ ?_
              · exact hb
              · intro E hE
                obtain rfl := hX E hE
                refine gx_catch C (name := "java/lang/IllegalArgumentException") [⟨0, 107, 108, 30⟩] ⟨0, 107, 113, 32⟩ [] ht (fun z hz => by rw [List.mem_singleton.mp hz]; exact Or.inr ⟨by decide, "java/lang/IndexOutOfBoundsException", by decide +kernel, hNC.2.2⟩) (by decide) (by decide) (by decide +kernel) (by decide) (fun q9 => ?_)
                refine gd_astore C dL_of_113 (Nat.le_of_ble_eq_true rfl) ?_
                refine gd_bipush C dL_of_115 (by decide) ?_
                refine gd_iret C hQ hret dL_of_117 ?_ ?_
                · exact Or.inr ⟨rfl, rfl, _, hE⟩
                · decide
              intro r1 w1 hP1
              obtain ⟨x1, rfl⟩ := hP r1 w1 hP1
              refine gd_goto (tgt := 107) C dL_of_77 (by decide) ?_
              refine gd_iret C hQ hret dL_of_107 ?_ ?_
              · exact Or.inl hP1
              · decide
          · exfalso; omega
        · exfalso; omega
      · exfalso; omega
    · exfalso; omega
  · exfalso; omega

set_option maxRecDepth 100000 in
set_option maxHeartbeats 4000000 in
theorem kL_of_looks {l : Launch} {D : va_G} {ky : Nat → ClassId} {z : Nat} {w : WT} (hl : l.stackTraces = false) {b : Nat} {q x : Int} {P0 : Option Value → WT → Prop} {XP : String → Prop} (hM : Mt l D ky z yX4_looks wsX4_looks { frames := 8, cells := 1, slots := 6, locals := 132 } [.ref b, .int (iI q)] w P0 XP) (hb : ∃ fs, w b = some (oB 4 fs)) (hP : ∀ r w1, P0 r w1 → ∃ x1 : Int, r = some (.int (iI x1))) (hX : ∀ E, XP E → E = "java/lang/IllegalArgumentException") : MtW l D ky z yL_of wsL_of { frames := 9, cells := 1, slots := 6, locals := 153 } [.ref b, .int (iI 6), .int (iI q), .int (iI x)] w (fun r w' => P0 r w' ∨ (w = w' ∧ r = some (.int (iI (-8))) ∧ ∃ E, XP E)) := by
  refine MtW.of (cc := cL_of) (ret := (some .int)) (maxL := 5) (hh := [(0, 107, 108, 30), (0, 107, 113, 32)]) (by decide) rfl (by intro v hv; simp at hv; rcases hv with rfl | rfl | rfl | rfl <;> rfl) (Nat.le_of_ble_eq_true rfl) ?_ hl
  intro p e s m args below meth c C hNC ht hret Q hQ
  refine gd_iload_n C dL_of_0 rfl ?_
  refine gd_if_ne (tgt := 12) C dL_of_1 (by decide) ?_ (fun hc1 => ?_) (fun hc1 => ?_)
  · first | decide | exact hk9.1
  · refine gd_iload_n C dL_of_12 rfl ?_
    refine gd_iconst C dL_of_13 ?_
    refine gd_icmp_ne (tgt := 25) C dL_of_14 (by decide) ?_ ?_ (fun hc14 => ?_) (fun hc14 => ?_)
    · first | decide | exact hk9.1
    · first | decide | exact hk9.1
    · refine gd_iload_n C dL_of_25 rfl ?_
      refine gd_iconst C dL_of_26 ?_
      refine gd_icmp_ne (tgt := 39) C dL_of_27 (by decide) ?_ ?_ (fun hc27 => ?_) (fun hc27 => ?_)
      · first | decide | exact hk9.1
      · first | decide | exact hk9.1
      · refine gd_iload_n C dL_of_39 rfl ?_
        refine gd_iconst C dL_of_40 ?_
        refine gd_icmp_ne (tgt := 53) C dL_of_41 (by decide) ?_ ?_ (fun hc41 => ?_) (fun hc41 => ?_)
        · first | decide | exact hk9.1
        · first | decide | exact hk9.1
        · refine gd_iload_n C dL_of_53 rfl ?_
          refine gd_iconst C dL_of_54 ?_
          refine gd_icmp_ne (tgt := 67) C dL_of_55 (by decide) ?_ ?_ (fun hc55 => ?_) (fun hc55 => ?_)
          · first | decide | exact hk9.1
          · first | decide | exact hk9.1
          · refine gd_iload_n C dL_of_67 rfl ?_
            refine gd_iconst C dL_of_68 ?_
            refine gd_icmp_ne (tgt := 80) C dL_of_69 (by decide) ?_ ?_ (fun hc69 => ?_) (fun hc69 => ?_)
            · first | decide | exact hk9.1
            · first | decide | exact hk9.1
            · refine gd_iload_n C dL_of_80 rfl ?_
              refine gd_bipush C dL_of_81 (by decide) ?_
              refine gd_icmp_ne (tgt := 94) C dL_of_83 (by decide) ?_ ?_ (fun hc83 => ?_) (fun hc83 => ?_)
              · first | decide | exact hk9.1
              · first | decide | exact hk9.1
              · exfalso; omega
              · refine gd_aload_n C dL_of_86 rfl ?_
                refine gd_iload_n C dL_of_87 rfl ?_
                refine gd_callV (n := 1) (ci := 4) (Cn := RX4) (T := TX4) (N := 5) C (hM) ?_ rfl gL_of_X4_looks rfl ⟨rfl, by decide, by decide, by decide +kernel⟩ rfl rfl (Nat.le_of_ble_eq_true rfl) rfl dL_of_88 ⟨⟨by decide, by decide⟩, by decide, by decide⟩ ?_ ?_
                · exact hb
                · intro E hE
                  obtain rfl := hX E hE
                  refine gx_catch C (name := "java/lang/IllegalArgumentException") [⟨0, 107, 108, 30⟩] ⟨0, 107, 113, 32⟩ [] ht (fun z hz => by rw [List.mem_singleton.mp hz]; exact Or.inr ⟨by decide, "java/lang/IndexOutOfBoundsException", by decide +kernel, hNC.2.2⟩) (by decide) (by decide) (by decide +kernel) (by decide) (fun q9 => ?_)
                  refine gd_astore C dL_of_113 (Nat.le_of_ble_eq_true rfl) ?_
                  refine gd_bipush C dL_of_115 (by decide) ?_
                  refine gd_iret C hQ hret dL_of_117 ?_ ?_
                  · exact Or.inr ⟨rfl, rfl, _, hE⟩
                  · decide
                intro r1 w1 hP1
                obtain ⟨x1, rfl⟩ := hP r1 w1 hP1
                refine gd_goto (tgt := 107) C dL_of_91 (by decide) ?_
                refine gd_iret C hQ hret dL_of_107 ?_ ?_
                · exact Or.inl hP1
                · decide
            · exfalso; omega
          · exfalso; omega
        · exfalso; omega
      · exfalso; omega
    · exfalso; omega
  · exfalso; omega

set_option maxRecDepth 100000 in
set_option maxHeartbeats 4000000 in
theorem kL_of_isFree {l : Launch} {D : va_G} {ky : Nat → ClassId} {z : Nat} {w : WT} (hl : l.stackTraces = false) {b : Nat} {q x : Int} {P0 : Option Value → WT → Prop} {XP : String → Prop} (hM : Mt l D ky z yX4_isFree wsX4_isFree { frames := 6, cells := 1, slots := 6, locals := 90 } [.ref b, .int (iI q)] w P0 XP) (hb : ∃ fs, w b = some (oB 4 fs)) (hP : ∀ r w1, P0 r w1 → ∃ x1 : Int, r = some (.int (iI x1)) ∧ (x1 = 0 ∨ x1 = 1)) (hX : ∀ E, XP E → E = "java/lang/IndexOutOfBoundsException") : MtW l D ky z yL_of wsL_of { frames := 7, cells := 1, slots := 6, locals := 111 } [.ref b, .int (iI 7), .int (iI q), .int (iI x)] w (fun r w' => P0 r w' ∨ (w = w' ∧ r = some (.int (iI (-8))) ∧ ∃ E, XP E)) := by
  refine MtW.of (cc := cL_of) (ret := (some .int)) (maxL := 5) (hh := [(0, 107, 108, 30), (0, 107, 113, 32)]) (by decide) rfl (by intro v hv; simp at hv; rcases hv with rfl | rfl | rfl | rfl <;> rfl) (Nat.le_of_ble_eq_true rfl) ?_ hl
  intro p e s m args below meth c C hNC ht hret Q hQ
  refine gd_iload_n C dL_of_0 rfl ?_
  refine gd_if_ne (tgt := 12) C dL_of_1 (by decide) ?_ (fun hc1 => ?_) (fun hc1 => ?_)
  · first | decide | exact hk9.1
  · refine gd_iload_n C dL_of_12 rfl ?_
    refine gd_iconst C dL_of_13 ?_
    refine gd_icmp_ne (tgt := 25) C dL_of_14 (by decide) ?_ ?_ (fun hc14 => ?_) (fun hc14 => ?_)
    · first | decide | exact hk9.1
    · first | decide | exact hk9.1
    · refine gd_iload_n C dL_of_25 rfl ?_
      refine gd_iconst C dL_of_26 ?_
      refine gd_icmp_ne (tgt := 39) C dL_of_27 (by decide) ?_ ?_ (fun hc27 => ?_) (fun hc27 => ?_)
      · first | decide | exact hk9.1
      · first | decide | exact hk9.1
      · refine gd_iload_n C dL_of_39 rfl ?_
        refine gd_iconst C dL_of_40 ?_
        refine gd_icmp_ne (tgt := 53) C dL_of_41 (by decide) ?_ ?_ (fun hc41 => ?_) (fun hc41 => ?_)
        · first | decide | exact hk9.1
        · first | decide | exact hk9.1
        · refine gd_iload_n C dL_of_53 rfl ?_
          refine gd_iconst C dL_of_54 ?_
          refine gd_icmp_ne (tgt := 67) C dL_of_55 (by decide) ?_ ?_ (fun hc55 => ?_) (fun hc55 => ?_)
          · first | decide | exact hk9.1
          · first | decide | exact hk9.1
          · refine gd_iload_n C dL_of_67 rfl ?_
            refine gd_iconst C dL_of_68 ?_
            refine gd_icmp_ne (tgt := 80) C dL_of_69 (by decide) ?_ ?_ (fun hc69 => ?_) (fun hc69 => ?_)
            · first | decide | exact hk9.1
            · first | decide | exact hk9.1
            · refine gd_iload_n C dL_of_80 rfl ?_
              refine gd_bipush C dL_of_81 (by decide) ?_
              refine gd_icmp_ne (tgt := 94) C dL_of_83 (by decide) ?_ ?_ (fun hc83 => ?_) (fun hc83 => ?_)
              · first | decide | exact hk9.1
              · first | decide | exact hk9.1
              · refine gd_aload_n C dL_of_94 rfl ?_
                refine gd_iload_n C dL_of_95 rfl ?_
                refine gd_callV (n := 1) (ci := 4) (Cn := RX4) (T := TX4) (N := 5) C (hM) ?_ rfl gL_of_X4_isFree rfl ⟨rfl, by decide, by decide, by decide +kernel⟩ rfl rfl (Nat.le_of_ble_eq_true rfl) rfl dL_of_96 ⟨⟨by decide, by decide⟩, by decide, by decide⟩ ?_ ?_
                · exact hb
                · intro E hE
                  obtain rfl := hX E hE
                  refine gx_catch C (name := "java/lang/IndexOutOfBoundsException") [] ⟨0, 107, 108, 30⟩ [⟨0, 107, 113, 32⟩] ht (fun _ h => absurd h List.not_mem_nil) (by decide) (by decide) (by decide +kernel) (by decide) (fun q9 => ?_)
                  refine gd_astore C dL_of_108 (Nat.le_of_ble_eq_true rfl) ?_
                  refine gd_bipush C dL_of_110 (by decide) ?_
                  refine gd_iret C hQ hret dL_of_112 ?_ ?_
                  · exact Or.inr ⟨rfl, rfl, _, hE⟩
                  · decide
                intro r1 w1 hP1
                obtain ⟨x1, rfl, hx1⟩ := hP r1 w1 hP1
                refine gd_if_eq (tgt := 106) C dL_of_99 (by decide) ?_ (fun hc99 => ?_) (fun hc99 => ?_)
                · omega
                · subst hc99
                  refine gd_iconst C dL_of_106 ?_
                  refine gd_iret C hQ hret dL_of_107 ?_ ?_
                  · exact Or.inl hP1
                  · decide
                · obtain rfl : x1 = 1 := by omega
                  refine gd_iconst C dL_of_102 ?_
                  refine gd_goto (tgt := 107) C dL_of_103 (by decide) ?_
                  refine gd_iret C hQ hret dL_of_107 ?_ ?_
                  · exact Or.inl hP1
                  · decide
              · exfalso; omega
            · exfalso; omega
          · exfalso; omega
        · exfalso; omega
      · exfalso; omega
    · exfalso; omega
  · exfalso; omega
