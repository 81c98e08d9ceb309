theorem LI.up {w : WT} {ky : Nat → ClassId} {b o ao ad : Nat} {k : Int} (h : LI w ky b o ao ad k) : LI w ky b o ao ad (k + 1) := by
  obtain ⟨g, t, ar, d, ac, ab, la, na, fa, A, T, v, B, sc, dn, n, lo, co, ct, nm, fl, F, G, fo, fd, hLW, hFS, hRL, hR, hNI, hPT, hRN, hF9⟩ := h
  exact ⟨g, t, ar, d, ac, ab, la, na, fa, A, T, v, B, sc, dn, n, lo, co, ct, nm, fl, F, G, fo, fd, hLW, hFS.up, hRL, hR, hNI, by omega, hRN, hF9⟩
set_option maxRecDepth 100000 in
set_option maxHeartbeats 4000000 in
theorem law_turn {p : Program} {l : Launch} {e : Env} {s : State} {m : MethodId} {args : Array Value} {below : List Frame} {meth : Method} {c : Code} {D : va_G} {ky : Nat → ClassId} {z : Nat} {Q : State → Prop} (hl : l.stackTraces = false) (C : Cx p l s m args meth c D ky z cL_law 8 wsL_law RL) (hNC : NC3 s) {b0 L : Nat} {xs : Nat → Int32} (hX : va_X b0 L xs s s.heap) (hbl : b0 < s.heap.size) (hzb : ¬ z ≤ b0) (hL8 : L ≤ 2048) {b o ao ad : Nat} {cells slots : Nat} {w : WT} {k i : Int} (hLI : LI w ky b o ao ad k) (hk : 0 ≤ k ∧ k ≤ 511) (hi : 0 ≤ i ∧ i + 3 < L) (hcs : cells + 30 ≤ 601024 ∧ slots + 200 ≤ 7293034)
    (kk : ∀ w', LI w' ky b o ao ad (k + 1) → Gd p l e room_1 s m args below meth c D z Q (cells + 10) (slots + 60) w' 1373 [some (.ref b0), some (.ref b), some (.ref o), some (.ref ao), some (.ref ad), some (.int (iI i)), none, none] []) : Gd p l e room_1 s m args below meth c D z Q cells slots w 37 [some (.ref b0), some (.ref b), some (.ref o), some (.ref ao), some (.ref ad), some (.int (iI i)), none, none] [] := by
  refine gd_aload_n C dL_law_37 rfl ?_
  refine gd_iload C dL_law_38 rfl ?_
  obtain ⟨q0, hq0⟩ : ∃ q, scS xs i = q := ⟨_, rfl⟩
  refine gd_sld C hX hbl hzb (by omega) hL8 dL_law_40 hq0 ?_
  refine gd_bipush C dL_law_41 (by decide) ?_
  refine gd_and31 C dL_law_43 (fun j h1 h2 => ?_)
  by_cases hj : j ≤ 26
  · have h27 : j = 0 ∨ j = 1 ∨ j = 2 ∨ j = 3 ∨ j = 4 ∨ j = 5 ∨ j = 6 ∨ j = 7 ∨ j = 8 ∨ j = 9 ∨ j = 10 ∨ j = 11 ∨ j = 12 ∨ j = 13 ∨ j = 14 ∨ j = 15 ∨ j = 16 ∨ j = 17 ∨ j = 18 ∨ j = 19 ∨ j = 20 ∨ j = 21 ∨ j = 22 ∨ j = 23 ∨ j = 24 ∨ j = 25 ∨ j = 26 := by omega
    rcases h27 with rfl | rfl | rfl | rfl | rfl | rfl | rfl | rfl | rfl | rfl | rfl | rfl | rfl | rfl | rfl | rfl | rfl | rfl | rfl | rfl | rfl | rfl | rfl | rfl | rfl | rfl | rfl
    · exact gd_swIn C dL_law_44 ⟨⟨by decide, by decide⟩, by decide, by decide⟩ rfl (by decide) (cs_create hl C hNC hX hbl hzb hL8 hLI hk hi hcs kk)
    · exact gd_swIn C dL_law_44 ⟨⟨by decide, by decide⟩, by decide, by decide⟩ rfl (by decide) (cs_open hl C hNC hX hbl hzb hL8 hLI hk hi hcs kk)
    · exact gd_swIn C dL_law_44 ⟨⟨by decide, by decide⟩, by decide, by decide⟩ rfl (by decide) (cs_close hl C hNC hX hbl hzb hL8 hLI hk hi hcs kk)
    · exact gd_swIn C dL_law_44 ⟨⟨by decide, by decide⟩, by decide, by decide⟩ rfl (by decide) (cs_delete hl C hNC hX hbl hzb hL8 hLI hk hi hcs kk)
    · exact gd_swIn C dL_law_44 ⟨⟨by decide, by decide⟩, by decide, by decide⟩ rfl (by decide) (cs_write hl C hNC hX hbl hzb hL8 hLI hk hi hcs kk)
    · exact gd_swIn C dL_law_44 ⟨⟨by decide, by decide⟩, by decide, by decide⟩ rfl (by decide) (cs_flush hl C hNC hX hbl hzb hL8 hLI hk hi hcs kk)
    · exact gd_swIn C dL_law_44 ⟨⟨by decide, by decide⟩, by decide, by decide⟩ rfl (by decide) (cs_cut hl C hNC hX hbl hzb hL8 hLI hk hi hcs kk)
    · exact gd_swIn C dL_law_44 ⟨⟨by decide, by decide⟩, by decide, by decide⟩ rfl (by decide) (cs_crashBehind hl C hNC hX hbl hzb hL8 hLI hk hi hcs kk)
    · exact gd_swIn C dL_law_44 ⟨⟨by decide, by decide⟩, by decide, by decide⟩ rfl (by decide) (cs_crash hl C hNC hX hbl hzb hL8 hLI hk hi hcs kk)
    · exact gd_swIn C dL_law_44 ⟨⟨by decide, by decide⟩, by decide, by decide⟩ rfl (by decide) (cs_start hl C hNC hX hbl hzb hL8 hLI hk hi hcs kk)
    · exact gd_swIn C dL_law_44 ⟨⟨by decide, by decide⟩, by decide, by decide⟩ rfl (by decide) (cs_isDown hl C hNC hX hbl hzb hL8 hLI hk hi hcs kk)
    · exact gd_swIn C dL_law_44 ⟨⟨by decide, by decide⟩, by decide, by decide⟩ rfl (by decide) (cs_files hl C hNC hX hbl hzb hL8 hLI hk hi hcs kk)
    · exact gd_swIn C dL_law_44 ⟨⟨by decide, by decide⟩, by decide, by decide⟩ rfl (by decide) (cs_listed hl C hNC hX hbl hzb hL8 hLI hk hi hcs kk)
    · exact gd_swIn C dL_law_44 ⟨⟨by decide, by decide⟩, by decide, by decide⟩ rfl (by decide) (cs_opens hl C hNC hX hbl hzb hL8 hLI hk hi hcs kk)
    · exact gd_swIn C dL_law_44 ⟨⟨by decide, by decide⟩, by decide, by decide⟩ rfl (by decide) (cs_free hl C hNC hX hbl hzb hL8 hLI hk hi hcs kk)
    · exact gd_swIn C dL_law_44 ⟨⟨by decide, by decide⟩, by decide, by decide⟩ rfl (by decide) (cs_freeByFiles hl C hNC hX hbl hzb hL8 hLI hk hi hcs kk)
    · exact gd_swIn C dL_law_44 ⟨⟨by decide, by decide⟩, by decide, by decide⟩ rfl (by decide) (cs_reserved hl C hNC hX hbl hzb hL8 hLI hk hi hcs kk)
    · exact gd_swIn C dL_law_44 ⟨⟨by decide, by decide⟩, by decide, by decide⟩ rfl (by decide) (cs_kept hl C hNC hX hbl hzb hL8 hLI hk hi hcs kk)
    · exact gd_swIn C dL_law_44 ⟨⟨by decide, by decide⟩, by decide, by decide⟩ rfl (by decide) (cs_pieces hl C hNC hX hbl hzb hL8 hLI hk hi hcs kk)
    · exact gd_swIn C dL_law_44 ⟨⟨by decide, by decide⟩, by decide, by decide⟩ rfl (by decide) (cs_isFree hl C hNC hX hbl hzb hL8 hLI hk hi hcs kk)
    · exact gd_swIn C dL_law_44 ⟨⟨by decide, by decide⟩, by decide, by decide⟩ rfl (by decide) (cs_blockAt hl C hNC hX hbl hzb hL8 hLI hk hi hcs kk)
    · exact gd_swIn C dL_law_44 ⟨⟨by decide, by decide⟩, by decide, by decide⟩ rfl (by decide) (cs_extents hl C hNC hX hbl hzb hL8 hLI hk hi hcs kk)
    · exact gd_swIn C dL_law_44 ⟨⟨by decide, by decide⟩, by decide, by decide⟩ rfl (by decide) (cs_extent hl C hNC hX hbl hzb hL8 hLI hk hi hcs kk)
    · exact gd_swIn C dL_law_44 ⟨⟨by decide, by decide⟩, by decide, by decide⟩ rfl (by decide) (cs_average hl C hNC hX hbl hzb hL8 hLI hk hi hcs kk)
    · exact gd_swIn C dL_law_44 ⟨⟨by decide, by decide⟩, by decide, by decide⟩ rfl (by decide) (cs_fileOf hl C hNC hX hbl hzb hL8 hLI hk hi hcs kk)
    · exact gd_swIn C dL_law_44 ⟨⟨by decide, by decide⟩, by decide, by decide⟩ rfl (by decide) (cs_leaves hl C hNC hX hbl hzb hL8 hLI hk hi hcs kk)
    · exact gd_swIn C dL_law_44 ⟨⟨by decide, by decide⟩, by decide, by decide⟩ rfl (by decide) (cs_looks hl C hNC hX hbl hzb hL8 hLI hk hi hcs kk)
  · exact gd_swOut (tgt := 1373) C dL_law_44 ⟨by omega, Or.inr (by omega)⟩ (by decide) (Gd.widen (k := cells + 10) (n := slots + 60) (by omega) (by omega) (kk _ hLI.up))
set_option maxRecDepth 100000 in
set_option maxHeartbeats 4000000 in
theorem law_loop {p : Program} {l : Launch} {e : Env} {s : State} {m : MethodId} {args : Array Value} {below : List Frame} {meth : Method} {c : Code} {D : va_G} {ky : Nat → ClassId} {z : Nat} {Q : State → Prop} (hl : l.stackTraces = false) (C : Cx p l s m args meth c D ky z cL_law 8 wsL_law RL) (hNC : NC3 s) {b0 L : Nat} {xs : Nat → Int32} (hX : va_X b0 L xs s s.heap) (hbl : b0 < s.heap.size) (hzb : ¬ z ≤ b0) (hL8 : L ≤ 2048) {b o ao ad : Nat} {c0 s0 : Nat} (hcs : c0 + 6000 ≤ 601024 ∧ s0 + 32000 ≤ 7293034) (hend : ∀ w ls, ls.length = 8 → Gd p l e room_1 s m args below meth c D z Q 601024 7293034 w 1379 ls []) :
    ∀ (f k : Nat) (w : WT), k + f = 513 → LI w ky b o ao ad k → Gd p l e room_1 s m args below meth c D z Q (c0 + 10 * k) (s0 + 60 * k) w 28 [some (.ref b0), some (.ref b), some (.ref o), some (.ref ao), some (.ref ad), some (.int (iI (4 * (k : Int)))), none, none] [] := by
  intro f
  induction f with
  | zero => 
    intro k w hk hLI
    refine gd_iload C dL_law_28 rfl ?_
    refine gd_aload_n C dL_law_30 rfl ?_
    refine gd_slen C hX hbl hzb dL_law_31 ?_
    refine gd_iconst C dL_law_32 ?_
    refine gd_isub C dL_law_33 ?_
    refine gd_icmp_gt (tgt := 1379) C dL_law_34 (by decide) (by omega) (by omega) (fun hc => ?_) (fun hc => ?_)
    · exact Gd.widen (by omega) (by omega) (hend _ _ rfl)
    · exfalso; omega
  | succ f ih =>
    intro k w hk hLI
    refine gd_iload C dL_law_28 rfl ?_
    refine gd_aload_n C dL_law_30 rfl ?_
    refine gd_slen C hX hbl hzb dL_law_31 ?_
    refine gd_iconst C dL_law_32 ?_
    refine gd_isub C dL_law_33 ?_
    refine gd_icmp_gt (tgt := 1379) C dL_law_34 (by decide) (by omega) (by omega) (fun hc => ?_) (fun hc => ?_)
    · exact Gd.widen (by omega) (by omega) (hend _ _ rfl)
    · refine law_turn hl C hNC hX hbl hzb hL8 (k := k) hLI (by omega) (by omega) (by omega) (fun w' h' => ?_)
      refine gd_iinc C dL_law_1373 rfl ?_
      refine gd_goto (tgt := 28) C dL_law_1376 (by decide) ?_
      have h9 := ih (k + 1) w' (by omega) (by rw [show ((k + 1 : Nat) : Int) = (k : Int) + 1 by omega]; exact h')
      rw [show (4 : Int) * ((k + 1 : Nat) : Int) = 4 * (k : Int) + 4 by omega] at h9
      exact Gd.widen (by omega) (by omega) h9
