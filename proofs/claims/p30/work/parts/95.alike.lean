/-! the two are alike: every question gets one answer -/
set_option maxRecDepth 100000 in
set_option maxHeartbeats 4000000 in
theorem kL_areAlike {l : Launch} {D : va_G} {ky : Nat → ClassId} {z : Nat} {w : WT} (hl : l.stackTraces = false) {a b : Nat} {P1 P2 : Nat → Prop} {T : Int → Int} {v B : Int → Int → Int} {sc dn k9 n n2 : Int} {lo co ct lo2 co2 ct2 : Int → Int} {nm fl nm2 fl2 : Int → Int → Int} {q m z9 : Int}
    (hV1 : VW w ky a P1 T v B sc dn n lo co ct nm fl) (hV2 : VW w ky b P2 T v B sc dn n2 lo2 co2 ct2 nm2 fl2) (hS : FS T v B sc dn k9) (hSm : SIM m n lo co ct nm fl n2 lo2 co2 ct2 nm2 fl2) (hN1 : NI n lo co ct nm fl) (hN2 : NI n2 lo2 co2 ct2 nm2 fl2) (hm : M16 m) (hq : 0 ≤ q ∧ 0 ≤ m ∧ q + m ≤ 999) (hz : 0 ≤ z9 ∧ z9 ≤ 1200000000) :
    MtW l D ky z yL_areAlike wsL_areAlike { frames := 10, cells := 64, slots := 384, locals := 200 } [.ref a, .ref b, .int (iI q), .int (iI m), .int (iI z9)] w (fun r w' => w = w' ∧ r = some (.int (iI 1))) := by
  obtain ⟨g1, t1, ar1, d1, ac1, ab1, la1, na1, fa1, hW1, hD1, rfl⟩ := id hV1
  obtain ⟨g2, t2, ar2, d2, ac2, ab2, la2, na2, fa2, hW2, hD2, rfl⟩ := id hV2
  obtain rfl := hSm.1
  refine MtW.ofC (cc := cL_areAlike) (ret := (some .boolean)) (maxL := 8) (by decide) rfl (by intro v hv; simp at hv; rcases hv with rfl | rfl | rfl | rfl | rfl <;> rfl) (Nat.le_of_ble_eq_true rfl) ?_ hl
  intro p e s m' args below meth c C hNC hret Q hQ
  refine gd_iload C dL_areAlike_0 rfl ?_
  refine gd_bipush C dL_areAlike_2 (by decide) ?_
  refine gd_irem C dL_areAlike_4 ?_ ?_
  · omega
  refine gd_istore C dL_areAlike_5 (Nat.le_of_ble_eq_true rfl) ?_
  refine gd_aload_n C dL_areAlike_7 rfl ?_
  refine gd_callV (n := 0) (ci := 4) (Cn := RX4) (T := TX4) (N := 5) C (kX4_isDown hl hW1 hS.1) ?_ rfl gL_areAlike_X4_isDown rfl ⟨rfl, by decide, by decide, by decide +kernel⟩ rfl rfl (Nat.le_of_ble_eq_true rfl) rfl dL_areAlike_8 ⟨⟨by decide, by decide⟩, by decide, by decide⟩ (fun _ h => h.elim) ?_
  · exact ⟨_, by exact hW1.1⟩
  rintro _ _ ⟨rfl, rfl⟩
  refine gd_aload_n C dL_areAlike_11 rfl ?_
  refine gd_callV (n := 0) (ci := 4) (Cn := RX4) (T := TX4) (N := 5) C (kX4_isDown hl hW2 hS.1) ?_ rfl gL_areAlike_X4_isDown rfl ⟨rfl, by decide, by decide, by decide +kernel⟩ rfl rfl (Nat.le_of_ble_eq_true rfl) rfl dL_areAlike_12 ⟨⟨by decide, by decide⟩, by decide, by decide⟩ (fun _ h => h.elim) ?_
  · exact ⟨_, by exact hW2.1⟩
  rintro _ _ ⟨rfl, rfl⟩
  refine gd_icmp_neE (tgt := 99) C dL_areAlike_15 (by decide) ?_
  refine gd_aload_n C dL_areAlike_18 rfl ?_
  refine gd_callV (n := 0) (ci := 4) (Cn := RX4) (T := TX4) (N := 5) C (kX4_files hl hW1 hS.1) ?_ rfl gL_areAlike_X4_files rfl ⟨rfl, by decide, by decide, by decide +kernel⟩ rfl rfl (Nat.le_of_ble_eq_true rfl) rfl dL_areAlike_19 ⟨⟨by decide, by decide⟩, by decide, by decide⟩ (fun _ h => h.elim) ?_
  · exact ⟨_, by exact hW1.1⟩
  rintro _ _ ⟨rfl, rfl⟩
  refine gd_aload_n C dL_areAlike_22 rfl ?_
  refine gd_callV (n := 0) (ci := 4) (Cn := RX4) (T := TX4) (N := 5) C (kX4_files hl hW2 hS.1) ?_ rfl gL_areAlike_X4_files rfl ⟨rfl, by decide, by decide, by decide +kernel⟩ rfl rfl (Nat.le_of_ble_eq_true rfl) rfl dL_areAlike_23 ⟨⟨by decide, by decide⟩, by decide, by decide⟩ (fun _ h => h.elim) ?_
  · exact ⟨_, by exact hW2.1⟩
  rintro _ _ ⟨rfl, rfl⟩
  refine gd_icmp_neE (tgt := 99) C dL_areAlike_26 (by decide) ?_
  refine gd_aload_n C dL_areAlike_29 rfl ?_
  refine gd_callV (n := 0) (ci := 4) (Cn := RX4) (T := TX4) (N := 5) C (kX4_listed hl hW1 hS.1) ?_ rfl gL_areAlike_X4_listed rfl ⟨rfl, by decide, by decide, by decide +kernel⟩ rfl rfl (Nat.le_of_ble_eq_true rfl) rfl dL_areAlike_30 ⟨⟨by decide, by decide⟩, by decide, by decide⟩ (fun _ h => h.elim) ?_
  · exact ⟨_, by exact hW1.1⟩
  rintro _ _ ⟨rfl, rfl⟩
  refine gd_aload_n C dL_areAlike_33 rfl ?_
  refine gd_callV (n := 0) (ci := 4) (Cn := RX4) (T := TX4) (N := 5) C (kX4_listed hl hW2 hS.1) ?_ rfl gL_areAlike_X4_listed rfl ⟨rfl, by decide, by decide, by decide +kernel⟩ rfl rfl (Nat.le_of_ble_eq_true rfl) rfl dL_areAlike_34 ⟨⟨by decide, by decide⟩, by decide, by decide⟩ (fun _ h => h.elim) ?_
  · exact ⟨_, by exact hW2.1⟩
  rintro _ _ ⟨rfl, rfl⟩
  refine gd_icmp_neE (tgt := 99) C dL_areAlike_37 (by decide) ?_
  refine gd_aload_n C dL_areAlike_40 rfl ?_
  refine gd_callV (n := 0) (ci := 4) (Cn := RX4) (T := TX4) (N := 5) C (kX4_free hl hW1 hS.1) ?_ rfl gL_areAlike_X4_free rfl ⟨rfl, by decide, by decide, by decide +kernel⟩ rfl rfl (Nat.le_of_ble_eq_true rfl) rfl dL_areAlike_41 ⟨⟨by decide, by decide⟩, by decide, by decide⟩ (fun _ h => h.elim) ?_
  · exact ⟨_, by exact hW1.1⟩
  rintro _ _ ⟨rfl, rfl⟩
  refine gd_aload_n C dL_areAlike_44 rfl ?_
  refine gd_callV (n := 0) (ci := 4) (Cn := RX4) (T := TX4) (N := 5) C (kX4_free hl hW2 hS.1) ?_ rfl gL_areAlike_X4_free rfl ⟨rfl, by decide, by decide, by decide +kernel⟩ rfl rfl (Nat.le_of_ble_eq_true rfl) rfl dL_areAlike_45 ⟨⟨by decide, by decide⟩, by decide, by decide⟩ (fun _ h => h.elim) ?_
  · exact ⟨_, by exact hW2.1⟩
  rintro _ _ ⟨rfl, rfl⟩
  refine gd_icmp_neE (tgt := 99) C dL_areAlike_48 (by decide) ?_
  refine gd_aload_n C dL_areAlike_51 rfl ?_
  refine gd_callV (n := 0) (ci := 4) (Cn := RX4) (T := TX4) (N := 5) C (kX4_freeByFiles hl hW1 hS.1) ?_ rfl gL_areAlike_X4_freeByFiles rfl ⟨rfl, by decide, by decide, by decide +kernel⟩ rfl rfl (Nat.le_of_ble_eq_true rfl) rfl dL_areAlike_52 ⟨⟨by decide, by decide⟩, by decide, by decide⟩ (fun _ h => h.elim) ?_
  · exact ⟨_, by exact hW1.1⟩
  rintro _ _ ⟨rfl, rfl⟩
  refine gd_aload_n C dL_areAlike_55 rfl ?_
  refine gd_callV (n := 0) (ci := 4) (Cn := RX4) (T := TX4) (N := 5) C (kX4_freeByFiles hl hW2 hS.1) ?_ rfl gL_areAlike_X4_freeByFiles rfl ⟨rfl, by decide, by decide, by decide +kernel⟩ rfl rfl (Nat.le_of_ble_eq_true rfl) rfl dL_areAlike_56 ⟨⟨by decide, by decide⟩, by decide, by decide⟩ (fun _ h => h.elim) ?_
  · exact ⟨_, by exact hW2.1⟩
  rintro _ _ ⟨rfl, rfl⟩
  refine gd_icmp_neE (tgt := 99) C dL_areAlike_59 (by decide) ?_
  refine gd_aload_n C dL_areAlike_62 rfl ?_
  refine gd_callV (n := 0) (ci := 4) (Cn := RX4) (T := TX4) (N := 5) C (kX4_reserved hl hW1 hS.1) ?_ rfl gL_areAlike_X4_reserved rfl ⟨rfl, by decide, by decide, by decide +kernel⟩ rfl rfl (Nat.le_of_ble_eq_true rfl) rfl dL_areAlike_63 ⟨⟨by decide, by decide⟩, by decide, by decide⟩ (fun _ h => h.elim) ?_
  · exact ⟨_, by exact hW1.1⟩
  rintro _ _ ⟨rfl, rfl⟩
  refine gd_aload_n C dL_areAlike_66 rfl ?_
  refine gd_callV (n := 0) (ci := 4) (Cn := RX4) (T := TX4) (N := 5) C (kX4_reserved hl hW2 hS.1) ?_ rfl gL_areAlike_X4_reserved rfl ⟨rfl, by decide, by decide, by decide +kernel⟩ rfl rfl (Nat.le_of_ble_eq_true rfl) rfl dL_areAlike_67 ⟨⟨by decide, by decide⟩, by decide, by decide⟩ (fun _ h => h.elim) ?_
  · exact ⟨_, by exact hW2.1⟩
  rintro _ _ ⟨rfl, rfl⟩
  refine gd_icmp_neE (tgt := 99) C dL_areAlike_70 (by decide) ?_
  refine gd_aload_n C dL_areAlike_73 rfl ?_
  refine gd_callV (n := 0) (ci := 4) (Cn := RX4) (T := TX4) (N := 5) C (kX4_kept hl hW1 hS.1) ?_ rfl gL_areAlike_X4_kept rfl ⟨rfl, by decide, by decide, by decide +kernel⟩ rfl rfl (Nat.le_of_ble_eq_true rfl) rfl dL_areAlike_74 ⟨⟨by decide, by decide⟩, by decide, by decide⟩ (fun _ h => h.elim) ?_
  · exact ⟨_, by exact hW1.1⟩
  rintro _ _ ⟨rfl, rfl⟩
  refine gd_aload_n C dL_areAlike_77 rfl ?_
  refine gd_callV (n := 0) (ci := 4) (Cn := RX4) (T := TX4) (N := 5) C (kX4_kept hl hW2 hS.1) ?_ rfl gL_areAlike_X4_kept rfl ⟨rfl, by decide, by decide, by decide +kernel⟩ rfl rfl (Nat.le_of_ble_eq_true rfl) rfl dL_areAlike_78 ⟨⟨by decide, by decide⟩, by decide, by decide⟩ (fun _ h => h.elim) ?_
  · exact ⟨_, by exact hW2.1⟩
  rintro _ _ ⟨rfl, rfl⟩
  refine gd_icmp_neE (tgt := 99) C dL_areAlike_81 (by decide) ?_
  refine gd_aload_n C dL_areAlike_84 rfl ?_
  refine gd_callV (n := 0) (ci := 4) (Cn := RX4) (T := TX4) (N := 5) C (kX4_leaves hl hW1 hS.1 hD1 hN1.1) ?_ rfl gL_areAlike_X4_leaves rfl ⟨rfl, by decide, by decide, by decide +kernel⟩ rfl rfl (Nat.le_of_ble_eq_true rfl) rfl dL_areAlike_85 ⟨⟨by decide, by decide⟩, by decide, by decide⟩ (fun _ h => h.elim) ?_
  · exact ⟨_, by exact hW1.1⟩
  rintro _ _ ⟨rfl, rfl⟩
  refine gd_aload_n C dL_areAlike_88 rfl ?_
  refine gd_callV (n := 0) (ci := 4) (Cn := RX4) (T := TX4) (N := 5) C (kX4_leaves hl hW2 hS.1 hD2 hN2.1) ?_ rfl gL_areAlike_X4_leaves rfl ⟨rfl, by decide, by decide, by decide +kernel⟩ rfl rfl (Nat.le_of_ble_eq_true rfl) rfl dL_areAlike_89 ⟨⟨by decide, by decide⟩, by decide, by decide⟩ (fun _ h => h.elim) ?_
  · exact ⟨_, by exact hW2.1⟩
  rintro _ _ ⟨rfl, rfl⟩
  refine gd_icmp_neE (tgt := 99) C dL_areAlike_92 (by decide) ?_
  refine gd_iconst C dL_areAlike_95 ?_
  refine gd_goto (tgt := 100) C dL_areAlike_96 (by decide) ?_
  refine gd_istore C dL_areAlike_100 (Nat.le_of_ble_eq_true rfl) ?_
  refine gd_iload C dL_areAlike_102 rfl ?_
  refine gd_if_eq (tgt := 189) C dL_areAlike_104 (by decide) ?_ (fun hc104 => ?_) (fun hc104 => ?_)
  · decide
  · exfalso; omega
  · refine gd_aload_n C dL_areAlike_107 rfl ?_
    refine gd_iconst C dL_areAlike_108 ?_
    refine gd_iload_n C dL_areAlike_109 rfl ?_
    refine gd_iconst C dL_areAlike_110 ?_
    refine gd_callSW (n := 4) (maxL := 5) C hNC (kQ_fileOf hl hV1 hS.1 hN1.1 (q := q) (x := 0) (by omega)) gL_areAlike_L_of rfl ⟨by decide, by decide, by decide +kernel⟩ rfl rfl (Nat.le_of_ble_eq_true rfl) rfl dL_areAlike_111 ⟨⟨by decide, by decide⟩, by decide, by decide⟩ ?_
    rintro _ _ ⟨rfl, rfl⟩
    refine gd_aload_n C dL_areAlike_114 rfl ?_
    refine gd_iconst C dL_areAlike_115 ?_
    refine gd_iload_n C dL_areAlike_116 rfl ?_
    refine gd_iload_n C dL_areAlike_117 rfl ?_
    refine gd_iadd C dL_areAlike_118 ?_
    refine gd_iconst C dL_areAlike_119 ?_
    refine gd_callSW (n := 4) (maxL := 5) C hNC (kQ_fileOf hl hV2 hS.1 hN2.1 (q := q + m) (x := 0) (by omega)) gL_areAlike_L_of rfl ⟨by decide, by decide, by decide +kernel⟩ rfl rfl (Nat.le_of_ble_eq_true rfl) rfl dL_areAlike_120 ⟨⟨by decide, by decide⟩, by decide, by decide⟩ ?_
    rintro _ _ ⟨rfl, rfl⟩
    rw [hSm.eD hm hN1.1.1.1 q]
    refine gd_icmp_neE (tgt := 189) C dL_areAlike_123 (by decide) ?_
    refine gd_aload_n C dL_areAlike_126 rfl ?_
    refine gd_bipush C dL_areAlike_127 (by decide) ?_
    refine gd_iload_n C dL_areAlike_129 rfl ?_
    refine gd_iconst C dL_areAlike_130 ?_
    refine gd_callSW (n := 4) (maxL := 5) C hNC (kQ_looks hl hV1 hS.1 hN1.1 (q := q) (x := 0) (by omega)) gL_areAlike_L_of rfl ⟨by decide, by decide, by decide +kernel⟩ rfl rfl (Nat.le_of_ble_eq_true rfl) rfl dL_areAlike_131 ⟨⟨by decide, by decide⟩, by decide, by decide⟩ ?_
    rintro _ _ ⟨rfl, rfl⟩
    refine gd_aload_n C dL_areAlike_134 rfl ?_
    refine gd_bipush C dL_areAlike_135 (by decide) ?_
    refine gd_iload_n C dL_areAlike_137 rfl ?_
    refine gd_iload_n C dL_areAlike_138 rfl ?_
    refine gd_iadd C dL_areAlike_139 ?_
    refine gd_iconst C dL_areAlike_140 ?_
    refine gd_callSW (n := 4) (maxL := 5) C hNC (kQ_looks hl hV2 hS.1 hN2.1 (q := q + m) (x := 0) (by omega)) gL_areAlike_L_of rfl ⟨by decide, by decide, by decide +kernel⟩ rfl rfl (Nat.le_of_ble_eq_true rfl) rfl dL_areAlike_141 ⟨⟨by decide, by decide⟩, by decide, by decide⟩ ?_
    rintro _ _ ⟨rfl, rfl⟩
    rw [hSm.eK hm hN1.1.1.1 q, hSm.eF hm hN1.1.1.1 q]
    refine gd_icmp_neE (tgt := 189) C dL_areAlike_144 (by decide) ?_
    refine gd_aload_n C dL_areAlike_147 rfl ?_
    refine gd_iconst C dL_areAlike_148 ?_
    refine gd_iload C dL_areAlike_149 rfl ?_
    refine gd_iconst C dL_areAlike_151 ?_
    refine gd_callSW (n := 4) (maxL := 5) C hNC (kQ_opens hl hV1 hS.1 (q := z9 % 6) (x := 0) ⟨by omega, by omega⟩) gL_areAlike_L_of rfl ⟨by decide, by decide, by decide +kernel⟩ rfl rfl (Nat.le_of_ble_eq_true rfl) rfl dL_areAlike_152 ⟨⟨by decide, by decide⟩, by decide, by decide⟩ ?_
    rintro _ _ ⟨rfl, rfl⟩
    refine gd_aload_n C dL_areAlike_155 rfl ?_
    refine gd_iconst C dL_areAlike_156 ?_
    refine gd_iload C dL_areAlike_157 rfl ?_
    refine gd_iconst C dL_areAlike_159 ?_
    refine gd_callSW (n := 4) (maxL := 5) C hNC (kQ_opens hl hV2 hS.1 (q := z9 % 6) (x := 0) ⟨by omega, by omega⟩) gL_areAlike_L_of rfl ⟨by decide, by decide, by decide +kernel⟩ rfl rfl (Nat.le_of_ble_eq_true rfl) rfl dL_areAlike_160 ⟨⟨by decide, by decide⟩, by decide, by decide⟩ ?_
    rintro _ _ ⟨rfl, rfl⟩
    refine gd_icmp_neE (tgt := 189) C dL_areAlike_163 (by decide) ?_
    refine gd_aload_n C dL_areAlike_166 rfl ?_
    refine gd_iconst C dL_areAlike_167 ?_
    refine gd_iload C dL_areAlike_168 rfl ?_
    refine gd_iconst C dL_areAlike_170 ?_
    refine gd_callSW (n := 4) (maxL := 5) C hNC (kQ_extents hl hV1 hS.1 (q := z9 % 6) (x := 0) ⟨by omega, by omega⟩) gL_areAlike_L_of rfl ⟨by decide, by decide, by decide +kernel⟩ rfl rfl (Nat.le_of_ble_eq_true rfl) rfl dL_areAlike_171 ⟨⟨by decide, by decide⟩, by decide, by decide⟩ ?_
    rintro _ _ ⟨rfl, rfl⟩
    refine gd_aload_n C dL_areAlike_174 rfl ?_
    refine gd_iconst C dL_areAlike_175 ?_
    refine gd_iload C dL_areAlike_176 rfl ?_
    refine gd_iconst C dL_areAlike_178 ?_
    refine gd_callSW (n := 4) (maxL := 5) C hNC (kQ_extents hl hV2 hS.1 (q := z9 % 6) (x := 0) ⟨by omega, by omega⟩) gL_areAlike_L_of rfl ⟨by decide, by decide, by decide +kernel⟩ rfl rfl (Nat.le_of_ble_eq_true rfl) rfl dL_areAlike_179 ⟨⟨by decide, by decide⟩, by decide, by decide⟩ ?_
    rintro _ _ ⟨rfl, rfl⟩
    refine gd_icmp_neE (tgt := 189) C dL_areAlike_182 (by decide) ?_
    refine gd_iconst C dL_areAlike_185 ?_
    refine gd_goto (tgt := 190) C dL_areAlike_186 (by decide) ?_
    refine gd_istore C dL_areAlike_190 (Nat.le_of_ble_eq_true rfl) ?_
    refine gd_iconst C dL_areAlike_192 ?_
    refine gd_istore C dL_areAlike_193 (Nat.le_of_ble_eq_true rfl) ?_
    suffices hloop : ∀ (f i : Nat), i + f = 4 → Gd p l e ({ frames := 10, cells := 64, slots := 384, locals := 200 }) s m' args below meth c D z Q (8 + 14 * i) (48 + 84 * i) w 195 [some (.ref a), some (.ref b), some (.int (iI q)), some (.int (iI m)), some (.int (iI z9)), some (.int (iI (z9 % 6))), some (.int (iI 1)), some (.int (iI ((i : Nat) : Int)))] [] from Gd.widen (by decide) (by decide) (hloop 4 0 rfl)
    intro f
    induction f with
    | zero =>
      intro i hi
      obtain rfl : i = 4 := hi
      refine gd_iload C dL_areAlike_195 rfl ?_
      refine gd_iconst C dL_areAlike_197 ?_
      refine gd_icmp_ge (tgt := 351) C dL_areAlike_198 (by decide) (by decide) (by decide) (fun hc => ?_) (fun hc => ?_)
      · refine gd_iload C dL_areAlike_351 rfl ?_
        refine gd_zret C hQ hret (Or.inr rfl) dL_areAlike_353 ?_ ?_
        · exact ⟨rfl, rfl⟩
        · decide
      · exfalso; omega
    | succ f ih =>
      intro i hi
      refine gd_iload C dL_areAlike_195 rfl ?_
      refine gd_iconst C dL_areAlike_197 ?_
      refine gd_icmp_ge (tgt := 351) C dL_areAlike_198 (by decide) (by omega) (by decide) (fun hc => ?_) (fun hc => ?_)
      · exfalso; omega
      · refine gd_iload C dL_areAlike_201 rfl ?_
        refine gd_if_eq (tgt := 351) C dL_areAlike_203 (by decide) ?_ (fun hc203 => ?_) (fun hc203 => ?_)
        · decide
        · exfalso; omega
        · refine gd_aload_n C dL_areAlike_206 rfl ?_
          refine gd_iconst C dL_areAlike_207 ?_
          refine gd_iload C dL_areAlike_208 rfl ?_
          refine gd_iload C dL_areAlike_210 rfl ?_
          refine gd_callSW (n := 4) (maxL := 5) C hNC (kQ_extent hl hV1 hS.1 (q := z9 % 6) (x := ((i : Nat) : Int)) ⟨by omega, by omega⟩) gL_areAlike_L_of rfl ⟨by decide, by decide, by decide +kernel⟩ rfl rfl (Nat.le_of_ble_eq_true rfl) rfl dL_areAlike_212 ⟨⟨by decide, by decide⟩, by dsimp only; omega, by dsimp only; omega⟩ ?_
          rintro _ _ ⟨rfl, x1, rfl, hx1⟩
          refine gd_aload_n C dL_areAlike_215 rfl ?_
          refine gd_iconst C dL_areAlike_216 ?_
          refine gd_iload C dL_areAlike_217 rfl ?_
          refine gd_iload C dL_areAlike_219 rfl ?_
          refine gd_callSW (n := 4) (maxL := 5) C hNC (kQ_extent hl hV2 hS.1 (q := z9 % 6) (x := ((i : Nat) : Int)) ⟨by omega, by omega⟩) gL_areAlike_L_of rfl ⟨by decide, by decide, by decide +kernel⟩ rfl rfl (Nat.le_of_ble_eq_true rfl) rfl dL_areAlike_221 ⟨⟨by decide, by decide⟩, by dsimp only; omega, by dsimp only; omega⟩ ?_
          rintro _ _ ⟨rfl, x2, rfl, hx2⟩
          obtain rfl := REX_det hx1 hx2
          refine gd_icmp_neE (tgt := 342) C dL_areAlike_224 (by decide) ?_
          refine gd_aload_n C dL_areAlike_227 rfl ?_
          refine gd_iconst C dL_areAlike_228 ?_
          refine gd_iload C dL_areAlike_229 rfl ?_
          refine gd_iload C dL_areAlike_231 rfl ?_
          refine gd_bipush C dL_areAlike_233 (by decide) ?_
          refine gd_idiv C dL_areAlike_235 ?_ ?_
          · omega
          refine gd_bipush C dL_areAlike_236 (by decide) ?_
          refine gd_iload C dL_areAlike_238 rfl ?_
          refine gd_imul C dL_areAlike_240 ?_
          refine gd_iadd C dL_areAlike_241 ?_
          refine gd_bipush C dL_areAlike_242 (by decide) ?_
          refine gd_irem C dL_areAlike_244 ?_ ?_
          · omega
          refine gd_callSW (n := 4) (maxL := 5) C hNC (kQ_blockAt hl hV1 hS.1 (q := z9 % 6) (x := (z9 / 6 + 13 * ((i : Nat) : Int)) % 64) ⟨by omega, by omega⟩) gL_areAlike_L_of rfl ⟨by decide, by decide, by decide +kernel⟩ rfl rfl (Nat.le_of_ble_eq_true rfl) rfl dL_areAlike_245 ⟨⟨by decide, by decide⟩, by dsimp only; omega, by dsimp only; omega⟩ ?_
          rintro _ _ ⟨rfl, rfl⟩
          refine gd_aload_n C dL_areAlike_248 rfl ?_
          refine gd_iconst C dL_areAlike_249 ?_
          refine gd_iload C dL_areAlike_250 rfl ?_
          refine gd_iload C dL_areAlike_252 rfl ?_
          refine gd_bipush C dL_areAlike_254 (by decide) ?_
          refine gd_idiv C dL_areAlike_256 ?_ ?_
          · omega
          refine gd_bipush C dL_areAlike_257 (by decide) ?_
          refine gd_iload C dL_areAlike_259 rfl ?_
          refine gd_imul C dL_areAlike_261 ?_
          refine gd_iadd C dL_areAlike_262 ?_
          refine gd_bipush C dL_areAlike_263 (by decide) ?_
          refine gd_irem C dL_areAlike_265 ?_ ?_
          · omega
          refine gd_callSW (n := 4) (maxL := 5) C hNC (kQ_blockAt hl hV2 hS.1 (q := z9 % 6) (x := (z9 / 6 + 13 * ((i : Nat) : Int)) % 64) ⟨by omega, by omega⟩) gL_areAlike_L_of rfl ⟨by decide, by decide, by decide +kernel⟩ rfl rfl (Nat.le_of_ble_eq_true rfl) rfl dL_areAlike_266 ⟨⟨by decide, by decide⟩, by dsimp only; omega, by dsimp only; omega⟩ ?_
          rintro _ _ ⟨rfl, rfl⟩
          refine gd_icmp_neE (tgt := 342) C dL_areAlike_269 (by decide) ?_
          refine gd_aload_n C dL_areAlike_272 rfl ?_
          refine gd_iconst C dL_areAlike_273 ?_
          refine gd_iload C dL_areAlike_274 rfl ?_
          refine gd_iload C dL_areAlike_276 rfl ?_
          refine gd_iconst C dL_areAlike_278 ?_
          refine gd_irem C dL_areAlike_279 ?_ ?_
          · omega
          refine gd_callSW (n := 4) (maxL := 5) C hNC (kQ_pieces hl hV1 hS.1 (q := ((i : Nat) : Int)) (x := z9 % 5) ⟨by omega, by omega⟩) gL_areAlike_L_of rfl ⟨by decide, by decide, by decide +kernel⟩ rfl rfl (Nat.le_of_ble_eq_true rfl) rfl dL_areAlike_280 ⟨⟨by decide, by decide⟩, by dsimp only; omega, by dsimp only; omega⟩ ?_
          rintro _ _ ⟨rfl, rfl⟩
          refine gd_aload_n C dL_areAlike_283 rfl ?_
          refine gd_iconst C dL_areAlike_284 ?_
          refine gd_iload C dL_areAlike_285 rfl ?_
          refine gd_iload C dL_areAlike_287 rfl ?_
          refine gd_iconst C dL_areAlike_289 ?_
          refine gd_irem C dL_areAlike_290 ?_ ?_
          · omega
          refine gd_callSW (n := 4) (maxL := 5) C hNC (kQ_pieces hl hV2 hS.1 (q := ((i : Nat) : Int)) (x := z9 % 5) ⟨by omega, by omega⟩) gL_areAlike_L_of rfl ⟨by decide, by decide, by decide +kernel⟩ rfl rfl (Nat.le_of_ble_eq_true rfl) rfl dL_areAlike_291 ⟨⟨by decide, by decide⟩, by dsimp only; omega, by dsimp only; omega⟩ ?_
          rintro _ _ ⟨rfl, rfl⟩
          refine gd_icmp_neE (tgt := 342) C dL_areAlike_294 (by decide) ?_
          refine gd_aload_n C dL_areAlike_297 rfl ?_
          refine gd_bipush C dL_areAlike_298 (by decide) ?_
          refine gd_iload C dL_areAlike_300 rfl ?_
          refine gd_bipush C dL_areAlike_302 (by decide) ?_
          refine gd_iload C dL_areAlike_304 rfl ?_
          refine gd_imul C dL_areAlike_306 ?_
          refine gd_iadd C dL_areAlike_307 ?_
          refine gd_sipush C dL_areAlike_308 (by decide) ?_
          refine gd_irem C dL_areAlike_311 ?_ ?_
          · omega
          refine gd_iconst C dL_areAlike_312 ?_
          refine gd_callSW (n := 4) (maxL := 5) C hNC (kQ_isFree hl hV1 hS.1 (q := (z9 + 31 * ((i : Nat) : Int)) % 128) (x := 0) ⟨by omega, by omega⟩) gL_areAlike_L_of rfl ⟨by decide, by decide, by decide +kernel⟩ rfl rfl (Nat.le_of_ble_eq_true rfl) rfl dL_areAlike_313 ⟨⟨by decide, by decide⟩, by dsimp only; omega, by dsimp only; omega⟩ ?_
          rintro _ _ ⟨rfl, rfl⟩
          refine gd_aload_n C dL_areAlike_316 rfl ?_
          refine gd_bipush C dL_areAlike_317 (by decide) ?_
          refine gd_iload C dL_areAlike_319 rfl ?_
          refine gd_bipush C dL_areAlike_321 (by decide) ?_
          refine gd_iload C dL_areAlike_323 rfl ?_
          refine gd_imul C dL_areAlike_325 ?_
          refine gd_iadd C dL_areAlike_326 ?_
          refine gd_sipush C dL_areAlike_327 (by decide) ?_
          refine gd_irem C dL_areAlike_330 ?_ ?_
          · omega
          refine gd_iconst C dL_areAlike_331 ?_
          refine gd_callSW (n := 4) (maxL := 5) C hNC (kQ_isFree hl hV2 hS.1 (q := (z9 + 31 * ((i : Nat) : Int)) % 128) (x := 0) ⟨by omega, by omega⟩) gL_areAlike_L_of rfl ⟨by decide, by decide, by decide +kernel⟩ rfl rfl (Nat.le_of_ble_eq_true rfl) rfl dL_areAlike_332 ⟨⟨by decide, by decide⟩, by dsimp only; omega, by dsimp only; omega⟩ ?_
          rintro _ _ ⟨rfl, rfl⟩
          refine gd_icmp_neE (tgt := 342) C dL_areAlike_335 (by decide) ?_
          refine gd_iconst C dL_areAlike_338 ?_
          refine gd_goto (tgt := 343) C dL_areAlike_339 (by decide) ?_
          refine gd_istore C dL_areAlike_343 (Nat.le_of_ble_eq_true rfl) ?_
          refine gd_iinc C dL_areAlike_345 rfl ?_
          refine gd_goto (tgt := 195) C dL_areAlike_348 (by decide) ?_
          have h9 := ih (i + 1) (by omega)
          rw [show ((i + 1 : Nat) : Int) = (i : Int) + 1 by omega] at h9
          exact Gd.widen (by dsimp only; omega) (by dsimp only; omega) h9
