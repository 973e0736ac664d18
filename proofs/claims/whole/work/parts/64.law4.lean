theorem mb_addPerson (z : Zs) : fl_addPerson z - 2 < 2 ^ 31 := by
  have h1 := rg_addPerson z
  first | omega | (rcases h1 with e | e | e <;> (rw [e]; decide))
set_option maxHeartbeats 400000 in
set_option maxRecDepth 100000 in
theorem lc_addPerson (hh : List (Nat × Nat × Nat × Nat)) (Sc : mx_Sc) (hS : mx_hS Sc) (bc bs : Nat) (G : mx_G) (I : mx_I) (a m o : Nat) (z : Zs) (i : Nat) (hi : i + 5 ≤ Sc.2.1) (hL : Sc.2.1 ≤ 2560) (hw : LW G I a m o z) (Q : Option Value → mx_G → mx_I → Prop) (X : String → mx_G → mx_I → Prop) (K : ∀ G' I' z', LW G' I' a m o z' → mx_V (mL_law hh) Sc 10 bc bs 1974 [some (.ref Sc.1), some (.ref a), some (.ref m), some (.ref o), some (.int (nI i)), none, none] [] G' I' Q X) : mx_V (mL_law hh) Sc 10 (bc + 10) (bs + 110) 646 [some (.ref Sc.1), some (.ref a), some (.ref m), some (.ref o), some (.int (nI i)), none, none] [] G I Q X := by
  refine mx_wk (bc' := bc + 1) (bs' := bs + 6) (by omega) (by omega) ?_
  obtain ⟨hW, hM, hz, ham, to, lo⟩ := id hw
  have tg9 : mx_tg G a = 19 := hW.1.1.1
  have tgm : mx_tg G m = 20 := hM.1.1
  obtain ⟨s1, es1⟩ : ∃ s1, Sc.2.2 (i + 1) = s1 := ⟨_, rfl⟩
  obtain ⟨s2, es2⟩ : ∃ s2, Sc.2.2 (i + 2) = s2 := ⟨_, rfl⟩
  obtain ⟨s3, es3⟩ : ∃ s3, Sc.2.2 (i + 3) = s3 := ⟨_, rfl⟩
  obtain ⟨s4, es4⟩ : ∃ s4, Sc.2.2 (i + 4) = s4 := ⟨_, rfl⟩
  refine mx_aload_n (i := 1) (hi := rfl) (hl := rfl) (hd := dL_law_646) ?_
  refine mx_aload_n (i := 3) (hi := rfl) (hl := rfl) (hd := dL_law_647) ?_
  refine mx_callSW (As := [.ref a, .ref o]) (rest := []) (b1 := 1) (b2 := 6) dL_law_648 (lw_addPerson G I a o z hW to lo) km_L_addPerson rfl k_653 k_654 rfl rfl (Nat.le_of_ble_eq_true rfl) (by decide) (fun _ _ _ q => q.elim) (fun r1 G1 I1 h2 => ?_)
  have hM1 : mW G1 I1 m z := lwQ.m h2 hw
  obtain ⟨to1, lo1⟩ := lwQ.t h2 to lo
  obtain ⟨e9, hq1, hq2⟩ := h2
  subst e9
  have tgm1 : mx_tg G1 m = 20 := hM1.1.1
  refine mx_istoreE (i := 5) (ls' := [some (.ref Sc.1), some (.ref a), some (.ref m), some (.ref o), some (.int (nI i)), some (.int (nI (fl_addPerson z - 2))), none]) (hd := dL_law_651) (hn := (by decide : (5 : Nat) < 7)) (hok := rfl) (hls := rfl) ?_
  refine mx_aload_n (i := 2) (hi := rfl) (hl := rfl) (hd := dL_law_653) ?_
  refine mx_callVi (ci := 10) (As := []) (rest := []) dL_law_654 (mt_addPerson G1 I1 m z hM1) km_X10_addPerson rfl k_1262 k_1263 k_1264 (by assumption) rfl rfl (Nat.le_of_ble_eq_true rfl) (by decide) (fun r3 I2 h4 => ?_)
  obtain ⟨hr0, hfr, hy, hn⟩ := h4
  by_cases hk0 : fl_addPerson z - 2 = 0
  · obtain ⟨e9, hW2⟩ := hy hk0
    subst e9
    have f0 : fl_addPerson z = 0 := mz_addPerson z hk0
    refine mx_istoreE (i := 6) (ls' := [some (.ref Sc.1), some (.ref a), some (.ref m), some (.ref o), some (.int (nI i)), some (.int (nI (fl_addPerson z - 2))), some (.int (nI (gP (zG z))))]) (hd := dL_law_657) (hn := (by decide : (6 : Nat) < 7)) (hok := rfl) (hls := rfl) ?_
    refine mx_aload_n (i := 2) (hi := rfl) (hl := rfl) (hd := dL_law_659) ?_
    refine mx_callVp (ci := 10) (As := []) (rest := []) dL_law_660 (mt_thrown G1 I2 m hW2.1) km_X10_thrown rfl k_1110 k_1111 k_1112 (by assumption) rfl rfl (Nat.le_of_ble_eq_true rfl) (by decide) ?_
    refine mx_top (y := nI (fl_addPerson z - 2)) (hr0) ?_
    refine mx_iload (i := 5) (hl := rfl) (hd := dL_law_663) ?_
    refine mx_icmp_eq (tgt := 670) dL_law_665 (by decide) (fun c665 => ?_) (fun c665 => ?_)
    · skip
      refine mx_iload (i := 5) (hl := rfl) (hd := dL_law_670) ?_
      refine mx_if_ne (tgt := 687) dL_law_672 (by decide) (fun c672 => ?_) (fun c672 => ?_)
      · skip
        exact absurd (show nI (fl_addPerson z - 2) = 0 by rw [hk0]; rfl) c672
      · skip
        
        refine mx_aload_n (i := 3) (hi := rfl) (hl := rfl) (hd := dL_law_675) ?_
        refine mx_iconstN 0 dL_law_676 (by decide) ?_
        refine mx_lald 0 dL_law_677 (by assumption) ⟨rfl, by omega, by omega⟩ ?_
        refine mx_topl (y := (nI (gP (zG z))).toInt64) ((hq1 hk0).2) ?_
        refine mx_iload (i := 6) (hl := rfl) (hd := dL_law_678) ?_
        refine mx_i2l (hv := rfl) (hd := dL_law_680) ?_
        refine mx_lcmp dL_law_681 ?_
        refine mx_if_eq (tgt := 687) dL_law_682 (by decide) (fun c682 => ?_) (fun c682 => ?_)
        · skip
          refine mx_goto (tgt := 1974) dL_law_687 (by decide) ?_
          refine mx_leS (ls' := [some (.ref Sc.1), some (.ref a), some (.ref m), some (.ref o), some (.int (nI i)), none, none]) ⟨rfl, rfl, rfl, rfl, rfl, trivial⟩ ?_
          exact K _ _ _ (hw.go (hq1 hk0).1 hW2 hfr (zi_addPerson hz))
        · skip
          exact absurd (lgc_self _) c682
    · skip
      exact absurd rfl c665
  · obtain ⟨⟨w9, e9⟩, hW2⟩ := hn hk0
    subst e9
    refine mx_istoreE (i := 6) (ls' := [some (.ref Sc.1), some (.ref a), some (.ref m), some (.ref o), some (.int (nI i)), some (.int (nI (fl_addPerson z - 2))), some (.int w9)]) (hd := dL_law_657) (hn := (by decide : (6 : Nat) < 7)) (hok := rfl) (hls := rfl) ?_
    refine mx_aload_n (i := 2) (hi := rfl) (hl := rfl) (hd := dL_law_659) ?_
    refine mx_callVp (ci := 10) (As := []) (rest := []) dL_law_660 (mt_thrown G1 I2 m hW2.1) km_X10_thrown rfl k_1110 k_1111 k_1112 (by assumption) rfl rfl (Nat.le_of_ble_eq_true rfl) (by decide) ?_
    refine mx_top (y := nI (fl_addPerson z - 2)) (hr0) ?_
    refine mx_iload (i := 5) (hl := rfl) (hd := dL_law_663) ?_
    refine mx_icmp_eq (tgt := 670) dL_law_665 (by decide) (fun c665 => ?_) (fun c665 => ?_)
    · skip
      refine mx_iload (i := 5) (hl := rfl) (hd := dL_law_670) ?_
      refine mx_if_ne (tgt := 687) dL_law_672 (by decide) (fun c672 => ?_) (fun c672 => ?_)
      · skip
        
        refine mx_goto (tgt := 1974) dL_law_687 (by decide) ?_
        refine mx_leS (ls' := [some (.ref Sc.1), some (.ref a), some (.ref m), some (.ref o), some (.int (nI i)), none, none]) ⟨rfl, rfl, rfl, rfl, rfl, trivial⟩ ?_
        exact K _ _ _ (hw.go (hq2 hk0) hW2 hfr hz)
      · skip
        exact absurd ((nI_eq (mb_addPerson z) (by decide)).mp c672) hk0
    · skip
      exact absurd rfl c665

theorem mb_addStep (z : Zs) (p : Int32) (k : Int32) (q : Int32) (c : Int32) : gWhy (zG z) p k q c < 2 ^ 31 := by
  have h1 := rg_addStep z p k q c
  first | omega | (rcases h1 with e | e | e <;> (rw [e]; decide))
set_option maxHeartbeats 400000 in
set_option maxRecDepth 100000 in
theorem lc_addStep (hh : List (Nat × Nat × Nat × Nat)) (Sc : mx_Sc) (hS : mx_hS Sc) (bc bs : Nat) (G : mx_G) (I : mx_I) (a m o : Nat) (z : Zs) (i : Nat) (hi : i + 5 ≤ Sc.2.1) (hL : Sc.2.1 ≤ 2560) (hw : LW G I a m o z) (Q : Option Value → mx_G → mx_I → Prop) (X : String → mx_G → mx_I → Prop) (K : ∀ G' I' z', LW G' I' a m o z' → mx_V (mL_law hh) Sc 10 bc bs 1974 [some (.ref Sc.1), some (.ref a), some (.ref m), some (.ref o), some (.int (nI i)), none, none] [] G' I' Q X) : mx_V (mL_law hh) Sc 10 (bc + 10) (bs + 110) 690 [some (.ref Sc.1), some (.ref a), some (.ref m), some (.ref o), some (.int (nI i)), none, none] [] G I Q X := by
  refine mx_wk (bc' := bc + 1) (bs' := bs + 6) (by omega) (by omega) ?_
  obtain ⟨hW, hM, hz, ham, to, lo⟩ := id hw
  have tg9 : mx_tg G a = 19 := hW.1.1.1
  have tgm : mx_tg G m = 20 := hM.1.1
  obtain ⟨s1, es1⟩ : ∃ s1, Sc.2.2 (i + 1) = s1 := ⟨_, rfl⟩
  obtain ⟨s2, es2⟩ : ∃ s2, Sc.2.2 (i + 2) = s2 := ⟨_, rfl⟩
  obtain ⟨s3, es3⟩ : ∃ s3, Sc.2.2 (i + 3) = s3 := ⟨_, rfl⟩
  obtain ⟨s4, es4⟩ : ∃ s4, Sc.2.2 (i + 4) = s4 := ⟨_, rfl⟩
  refine mx_aload_n (i := 1) (hi := rfl) (hl := rfl) (hd := dL_law_690) ?_
  refine mx_aload_n (i := 0) (hi := rfl) (hl := rfl) (hd := dL_law_691) ?_
  refine mx_iload (i := 4) (hl := rfl) (hd := dL_law_692) ?_
  refine mx_iconstN 1 dL_law_694 (by decide) ?_
  refine mx_iaddN dL_law_695 ?_
  refine mx_scld (i + 1) hS dL_law_696 ⟨rfl, by omega, by omega⟩ ?_
  refine mx_top (y := s1) es1 ?_
  refine mx_aload_n (i := 0) (hi := rfl) (hl := rfl) (hd := dL_law_697) ?_
  refine mx_iload (i := 4) (hl := rfl) (hd := dL_law_698) ?_
  refine mx_iconstN 2 dL_law_700 (by decide) ?_
  refine mx_iaddN dL_law_701 ?_
  refine mx_scld (i + 2) hS dL_law_702 ⟨rfl, by omega, by omega⟩ ?_
  refine mx_top (y := s2) es2 ?_
  refine mx_aload_n (i := 0) (hi := rfl) (hl := rfl) (hd := dL_law_703) ?_
  refine mx_iload (i := 4) (hl := rfl) (hd := dL_law_704) ?_
  refine mx_iconstN 3 dL_law_706 (by decide) ?_
  refine mx_iaddN dL_law_707 ?_
  refine mx_scld (i + 3) hS dL_law_708 ⟨rfl, by omega, by omega⟩ ?_
  refine mx_top (y := s3) es3 ?_
  refine mx_aload_n (i := 0) (hi := rfl) (hl := rfl) (hd := dL_law_709) ?_
  refine mx_iload (i := 4) (hl := rfl) (hd := dL_law_710) ?_
  refine mx_iconstN 4 dL_law_712 (by decide) ?_
  refine mx_iaddN dL_law_713 ?_
  refine mx_scld (i + 4) hS dL_law_714 ⟨rfl, by omega, by omega⟩ ?_
  refine mx_top (y := s4) es4 ?_
  refine mx_aload_n (i := 3) (hi := rfl) (hl := rfl) (hd := dL_law_715) ?_
  refine mx_callSW (As := [.ref a, .int s1, .int s2, .int s3, .int s4, .ref o]) (rest := []) (b1 := 1) (b2 := 6) dL_law_716 (lw_addStep G I a o z hW to lo s1 s2 s3 s4) km_L_addStep rfl k_668 k_669 rfl rfl (Nat.le_of_ble_eq_true rfl) (by decide) (fun _ _ _ q => q.elim) (fun r1 G1 I1 h2 => ?_)
  have hM1 : mW G1 I1 m z := lwQ.m h2 hw
  obtain ⟨to1, lo1⟩ := lwQ.t h2 to lo
  obtain ⟨e9, hq1, hq2⟩ := h2
  subst e9
  have tgm1 : mx_tg G1 m = 20 := hM1.1.1
  refine mx_istoreE (i := 5) (ls' := [some (.ref Sc.1), some (.ref a), some (.ref m), some (.ref o), some (.int (nI i)), some (.int (nI (gWhy (zG z) s1 s2 s3 s4))), none]) (hd := dL_law_719) (hn := (by decide : (5 : Nat) < 7)) (hok := rfl) (hls := rfl) ?_
  refine mx_aload_n (i := 2) (hi := rfl) (hl := rfl) (hd := dL_law_721) ?_
  refine mx_aload_n (i := 0) (hi := rfl) (hl := rfl) (hd := dL_law_722) ?_
  refine mx_iload (i := 4) (hl := rfl) (hd := dL_law_723) ?_
  refine mx_iconstN 1 dL_law_725 (by decide) ?_
  refine mx_iaddN dL_law_726 ?_
  refine mx_scld (i + 1) hS dL_law_727 ⟨rfl, by omega, by omega⟩ ?_
  refine mx_top (y := s1) es1 ?_
  refine mx_aload_n (i := 0) (hi := rfl) (hl := rfl) (hd := dL_law_728) ?_
  refine mx_iload (i := 4) (hl := rfl) (hd := dL_law_729) ?_
  refine mx_iconstN 2 dL_law_731 (by decide) ?_
  refine mx_iaddN dL_law_732 ?_
  refine mx_scld (i + 2) hS dL_law_733 ⟨rfl, by omega, by omega⟩ ?_
  refine mx_top (y := s2) es2 ?_
  refine mx_aload_n (i := 0) (hi := rfl) (hl := rfl) (hd := dL_law_734) ?_
  refine mx_iload (i := 4) (hl := rfl) (hd := dL_law_735) ?_
  refine mx_iconstN 3 dL_law_737 (by decide) ?_
  refine mx_iaddN dL_law_738 ?_
  refine mx_scld (i + 3) hS dL_law_739 ⟨rfl, by omega, by omega⟩ ?_
  refine mx_top (y := s3) es3 ?_
  refine mx_aload_n (i := 0) (hi := rfl) (hl := rfl) (hd := dL_law_740) ?_
  refine mx_iload (i := 4) (hl := rfl) (hd := dL_law_741) ?_
  refine mx_iconstN 4 dL_law_743 (by decide) ?_
  refine mx_iaddN dL_law_744 ?_
  refine mx_scld (i + 4) hS dL_law_745 ⟨rfl, by omega, by omega⟩ ?_
  refine mx_top (y := s4) es4 ?_
  refine mx_callVi (ci := 10) (As := [.int s1, .int s2, .int s3, .int s4]) (rest := []) dL_law_746 (mt_addStep G1 I1 m z hM1 s1 s2 s3 s4) km_X10_addStep rfl k_1270 k_1271 k_1272 (by assumption) rfl rfl (Nat.le_of_ble_eq_true rfl) (by decide) (fun r3 I2 h4 => ?_)
  obtain ⟨hr0, hfr, hy, hn⟩ := h4
  by_cases hk0 : gWhy (zG z) s1 s2 s3 s4 = 0
  · obtain ⟨e9, hW2⟩ := hy hk0
    subst e9
    have f0 : gWhy (zG z) s1 s2 s3 s4 = 0 := mz_addStep z s1 s2 s3 s4 hk0
    refine mx_istoreE (i := 6) (ls' := [some (.ref Sc.1), some (.ref a), some (.ref m), some (.ref o), some (.int (nI i)), some (.int (nI (gWhy (zG z) s1 s2 s3 s4))), some (.int (nI (gN (zG z))))]) (hd := dL_law_749) (hn := (by decide : (6 : Nat) < 7)) (hok := rfl) (hls := rfl) ?_
    refine mx_aload_n (i := 2) (hi := rfl) (hl := rfl) (hd := dL_law_751) ?_
    refine mx_callVp (ci := 10) (As := []) (rest := []) dL_law_752 (mt_thrown G1 I2 m hW2.1) km_X10_thrown rfl k_1110 k_1111 k_1112 (by assumption) rfl rfl (Nat.le_of_ble_eq_true rfl) (by decide) ?_
    refine mx_top (y := nI (gWhy (zG z) s1 s2 s3 s4)) (hr0) ?_
    refine mx_iload (i := 5) (hl := rfl) (hd := dL_law_755) ?_
    refine mx_icmp_eq (tgt := 762) dL_law_757 (by decide) (fun c757 => ?_) (fun c757 => ?_)
    · skip
      refine mx_iload (i := 5) (hl := rfl) (hd := dL_law_762) ?_
      refine mx_if_ne (tgt := 779) dL_law_764 (by decide) (fun c764 => ?_) (fun c764 => ?_)
      · skip
        exact absurd (show nI (gWhy (zG z) s1 s2 s3 s4) = 0 by rw [hk0]; rfl) c764
      · skip
        
        refine mx_aload_n (i := 3) (hi := rfl) (hl := rfl) (hd := dL_law_767) ?_
        refine mx_iconstN 0 dL_law_768 (by decide) ?_
        refine mx_lald 0 dL_law_769 (by assumption) ⟨rfl, by omega, by omega⟩ ?_
        refine mx_topl (y := (nI (gN (zG z))).toInt64) ((hq1 hk0).2) ?_
        refine mx_iload (i := 6) (hl := rfl) (hd := dL_law_770) ?_
        refine mx_i2l (hv := rfl) (hd := dL_law_772) ?_
        refine mx_lcmp dL_law_773 ?_
        refine mx_if_eq (tgt := 779) dL_law_774 (by decide) (fun c774 => ?_) (fun c774 => ?_)
        · skip
          refine mx_goto (tgt := 1974) dL_law_779 (by decide) ?_
          refine mx_leS (ls' := [some (.ref Sc.1), some (.ref a), some (.ref m), some (.ref o), some (.int (nI i)), none, none]) ⟨rfl, rfl, rfl, rfl, rfl, trivial⟩ ?_
          exact K _ _ _ (hw.go (hq1 hk0).1 hW2 hfr (zi_addStep hz f0))
        · skip
          exact absurd (lgc_self _) c774
    · skip
      exact absurd rfl c757
  · obtain ⟨⟨w9, e9⟩, hW2⟩ := hn hk0
    subst e9
    refine mx_istoreE (i := 6) (ls' := [some (.ref Sc.1), some (.ref a), some (.ref m), some (.ref o), some (.int (nI i)), some (.int (nI (gWhy (zG z) s1 s2 s3 s4))), some (.int w9)]) (hd := dL_law_749) (hn := (by decide : (6 : Nat) < 7)) (hok := rfl) (hls := rfl) ?_
    refine mx_aload_n (i := 2) (hi := rfl) (hl := rfl) (hd := dL_law_751) ?_
    refine mx_callVp (ci := 10) (As := []) (rest := []) dL_law_752 (mt_thrown G1 I2 m hW2.1) km_X10_thrown rfl k_1110 k_1111 k_1112 (by assumption) rfl rfl (Nat.le_of_ble_eq_true rfl) (by decide) ?_
    refine mx_top (y := nI (gWhy (zG z) s1 s2 s3 s4)) (hr0) ?_
    refine mx_iload (i := 5) (hl := rfl) (hd := dL_law_755) ?_
    refine mx_icmp_eq (tgt := 762) dL_law_757 (by decide) (fun c757 => ?_) (fun c757 => ?_)
    · skip
      refine mx_iload (i := 5) (hl := rfl) (hd := dL_law_762) ?_
      refine mx_if_ne (tgt := 779) dL_law_764 (by decide) (fun c764 => ?_) (fun c764 => ?_)
      · skip
        
        refine mx_goto (tgt := 1974) dL_law_779 (by decide) ?_
        refine mx_leS (ls' := [some (.ref Sc.1), some (.ref a), some (.ref m), some (.ref o), some (.int (nI i)), none, none]) ⟨rfl, rfl, rfl, rfl, rfl, trivial⟩ ?_
        exact K _ _ _ (hw.go (hq2 hk0) hW2 hfr hz)
      · skip
        exact absurd ((nI_eq (mb_addStep z s1 s2 s3 s4) (by decide)).mp c764) hk0
    · skip
      exact absurd rfl c757

theorem mb_removeStep (z : Zs) (s : Int32) : fl_one (gN (zG z)) s < 2 ^ 31 := by
  have h1 := rg_removeStep z s
  first | omega | (rcases h1 with e | e | e <;> (rw [e]; decide))
set_option maxHeartbeats 400000 in
set_option maxRecDepth 100000 in
theorem lc_removeStep (hh : List (Nat × Nat × Nat × Nat)) (Sc : mx_Sc) (hS : mx_hS Sc) (bc bs : Nat) (G : mx_G) (I : mx_I) (a m o : Nat) (z : Zs) (i : Nat) (hi : i + 5 ≤ Sc.2.1) (hL : Sc.2.1 ≤ 2560) (hw : LW G I a m o z) (Q : Option Value → mx_G → mx_I → Prop) (X : String → mx_G → mx_I → Prop) (K : ∀ G' I' z', LW G' I' a m o z' → mx_V (mL_law hh) Sc 10 bc bs 1974 [some (.ref Sc.1), some (.ref a), some (.ref m), some (.ref o), some (.int (nI i)), none, none] [] G' I' Q X) : mx_V (mL_law hh) Sc 10 (bc + 10) (bs + 110) 782 [some (.ref Sc.1), some (.ref a), some (.ref m), some (.ref o), some (.int (nI i)), none, none] [] G I Q X := by
  refine mx_wk (bc' := bc + 1) (bs' := bs + 6) (by omega) (by omega) ?_
  obtain ⟨hW, hM, hz, ham, to, lo⟩ := id hw
  have tg9 : mx_tg G a = 19 := hW.1.1.1
  have tgm : mx_tg G m = 20 := hM.1.1
  obtain ⟨s1, es1⟩ : ∃ s1, Sc.2.2 (i + 1) = s1 := ⟨_, rfl⟩
  obtain ⟨s2, es2⟩ : ∃ s2, Sc.2.2 (i + 2) = s2 := ⟨_, rfl⟩
  obtain ⟨s3, es3⟩ : ∃ s3, Sc.2.2 (i + 3) = s3 := ⟨_, rfl⟩
  obtain ⟨s4, es4⟩ : ∃ s4, Sc.2.2 (i + 4) = s4 := ⟨_, rfl⟩
  refine mx_aload_n (i := 1) (hi := rfl) (hl := rfl) (hd := dL_law_782) ?_
  refine mx_aload_n (i := 0) (hi := rfl) (hl := rfl) (hd := dL_law_783) ?_
  refine mx_iload (i := 4) (hl := rfl) (hd := dL_law_784) ?_
  refine mx_iconstN 1 dL_law_786 (by decide) ?_
  refine mx_iaddN dL_law_787 ?_
  refine mx_scld (i + 1) hS dL_law_788 ⟨rfl, by omega, by omega⟩ ?_
  refine mx_top (y := s1) es1 ?_
  refine mx_aload_n (i := 3) (hi := rfl) (hl := rfl) (hd := dL_law_789) ?_
  refine mx_callSW (As := [.ref a, .int s1, .ref o]) (rest := []) (b1 := 1) (b2 := 6) dL_law_790 (lw_removeStep G I a o z hW to lo s1) km_L_removeStep rfl k_687 k_688 rfl rfl (Nat.le_of_ble_eq_true rfl) (by decide) (fun _ _ _ q => q.elim) (fun r1 G1 I1 h2 => ?_)
  have hM1 : mW G1 I1 m z := lwQ.m h2 hw
  obtain ⟨to1, lo1⟩ := lwQ.t h2 to lo
  obtain ⟨e9, hq1, hq2⟩ := h2
  subst e9
  have tgm1 : mx_tg G1 m = 20 := hM1.1.1
  refine mx_istoreE (i := 5) (ls' := [some (.ref Sc.1), some (.ref a), some (.ref m), some (.ref o), some (.int (nI i)), some (.int (nI (fl_one (gN (zG z)) s1))), none]) (hd := dL_law_793) (hn := (by decide : (5 : Nat) < 7)) (hok := rfl) (hls := rfl) ?_
  refine mx_aload_n (i := 2) (hi := rfl) (hl := rfl) (hd := dL_law_795) ?_
  refine mx_aload_n (i := 0) (hi := rfl) (hl := rfl) (hd := dL_law_796) ?_
  refine mx_iload (i := 4) (hl := rfl) (hd := dL_law_797) ?_
  refine mx_iconstN 1 dL_law_799 (by decide) ?_
  refine mx_iaddN dL_law_800 ?_
  refine mx_scld (i + 1) hS dL_law_801 ⟨rfl, by omega, by omega⟩ ?_
  refine mx_top (y := s1) es1 ?_
  refine mx_callVi (ci := 10) (As := [.int s1]) (rest := []) dL_law_802 (mt_removeStep G1 I1 m z hM1 s1) km_X10_removeStep rfl k_1278 k_1279 k_1280 (by assumption) rfl rfl (Nat.le_of_ble_eq_true rfl) (by decide) (fun r3 I2 h4 => ?_)
  obtain ⟨hr0, hfr, hy, hn⟩ := h4
  by_cases hk0 : fl_one (gN (zG z)) s1 = 0
  · obtain ⟨e9, hW2⟩ := hy hk0
    subst e9
    have f0 : fl_one (gN (zG z)) s1 = 0 := mz_removeStep z s1 hk0
    refine mx_istoreE (i := 6) (ls' := [some (.ref Sc.1), some (.ref a), some (.ref m), some (.ref o), some (.int (nI i)), some (.int (nI (fl_one (gN (zG z)) s1))), some (.int (nI (gN (zG z) - 1)))]) (hd := dL_law_805) (hn := (by decide : (6 : Nat) < 7)) (hok := rfl) (hls := rfl) ?_
    refine mx_aload_n (i := 2) (hi := rfl) (hl := rfl) (hd := dL_law_807) ?_
    refine mx_callVp (ci := 10) (As := []) (rest := []) dL_law_808 (mt_thrown G1 I2 m hW2.1) km_X10_thrown rfl k_1110 k_1111 k_1112 (by assumption) rfl rfl (Nat.le_of_ble_eq_true rfl) (by decide) ?_
    refine mx_top (y := nI (fl_one (gN (zG z)) s1)) (hr0) ?_
    refine mx_iload (i := 5) (hl := rfl) (hd := dL_law_811) ?_
    refine mx_icmp_eq (tgt := 818) dL_law_813 (by decide) (fun c813 => ?_) (fun c813 => ?_)
    · skip
      refine mx_iload (i := 5) (hl := rfl) (hd := dL_law_818) ?_
      refine mx_if_ne (tgt := 835) dL_law_820 (by decide) (fun c820 => ?_) (fun c820 => ?_)
      · skip
        exact absurd (show nI (fl_one (gN (zG z)) s1) = 0 by rw [hk0]; rfl) c820
      · skip
        
        refine mx_aload_n (i := 3) (hi := rfl) (hl := rfl) (hd := dL_law_823) ?_
        refine mx_iconstN 0 dL_law_824 (by decide) ?_
        refine mx_lald 0 dL_law_825 (by assumption) ⟨rfl, by omega, by omega⟩ ?_
        refine mx_topl (y := (nI (gN (zG z) - 1)).toInt64) ((hq1 hk0).2) ?_
        refine mx_iload (i := 6) (hl := rfl) (hd := dL_law_826) ?_
        refine mx_i2l (hv := rfl) (hd := dL_law_828) ?_
        refine mx_lcmp dL_law_829 ?_
        refine mx_if_eq (tgt := 835) dL_law_830 (by decide) (fun c830 => ?_) (fun c830 => ?_)
        · skip
          refine mx_goto (tgt := 1974) dL_law_835 (by decide) ?_
          refine mx_leS (ls' := [some (.ref Sc.1), some (.ref a), some (.ref m), some (.ref o), some (.int (nI i)), none, none]) ⟨rfl, rfl, rfl, rfl, rfl, trivial⟩ ?_
          exact K _ _ _ (hw.go (hq1 hk0).1 hW2 hfr (zi_removeStep hz f0))
        · skip
          exact absurd (lgc_self _) c830
    · skip
      exact absurd rfl c813
  · obtain ⟨⟨w9, e9⟩, hW2⟩ := hn hk0
    subst e9
    refine mx_istoreE (i := 6) (ls' := [some (.ref Sc.1), some (.ref a), some (.ref m), some (.ref o), some (.int (nI i)), some (.int (nI (fl_one (gN (zG z)) s1))), some (.int w9)]) (hd := dL_law_805) (hn := (by decide : (6 : Nat) < 7)) (hok := rfl) (hls := rfl) ?_
    refine mx_aload_n (i := 2) (hi := rfl) (hl := rfl) (hd := dL_law_807) ?_
    refine mx_callVp (ci := 10) (As := []) (rest := []) dL_law_808 (mt_thrown G1 I2 m hW2.1) km_X10_thrown rfl k_1110 k_1111 k_1112 (by assumption) rfl rfl (Nat.le_of_ble_eq_true rfl) (by decide) ?_
    refine mx_top (y := nI (fl_one (gN (zG z)) s1)) (hr0) ?_
    refine mx_iload (i := 5) (hl := rfl) (hd := dL_law_811) ?_
    refine mx_icmp_eq (tgt := 818) dL_law_813 (by decide) (fun c813 => ?_) (fun c813 => ?_)
    · skip
      refine mx_iload (i := 5) (hl := rfl) (hd := dL_law_818) ?_
      refine mx_if_ne (tgt := 835) dL_law_820 (by decide) (fun c820 => ?_) (fun c820 => ?_)
      · skip
        
        refine mx_goto (tgt := 1974) dL_law_835 (by decide) ?_
        refine mx_leS (ls' := [some (.ref Sc.1), some (.ref a), some (.ref m), some (.ref o), some (.int (nI i)), none, none]) ⟨rfl, rfl, rfl, rfl, rfl, trivial⟩ ?_
        exact K _ _ _ (hw.go (hq2 hk0) hW2 hfr hz)
      · skip
        exact absurd ((nI_eq (mb_removeStep z s1) (by decide)).mp c820) hk0
    · skip
      exact absurd rfl c813

theorem mb_setCost (z : Zs) (s : Int32) (c : Int32) : fl_setCost z s c < 2 ^ 31 := by
  have h1 := rg_setCost z s c
  first | omega | (rcases h1 with e | e | e <;> (rw [e]; decide))
set_option maxHeartbeats 400000 in
set_option maxRecDepth 100000 in
theorem lc_setCost (hh : List (Nat × Nat × Nat × Nat)) (Sc : mx_Sc) (hS : mx_hS Sc) (bc bs : Nat) (G : mx_G) (I : mx_I) (a m o : Nat) (z : Zs) (i : Nat) (hi : i + 5 ≤ Sc.2.1) (hL : Sc.2.1 ≤ 2560) (hw : LW G I a m o z) (Q : Option Value → mx_G → mx_I → Prop) (X : String → mx_G → mx_I → Prop) (K : ∀ G' I' z', LW G' I' a m o z' → mx_V (mL_law hh) Sc 10 bc bs 1974 [some (.ref Sc.1), some (.ref a), some (.ref m), some (.ref o), some (.int (nI i)), none, none] [] G' I' Q X) : mx_V (mL_law hh) Sc 10 (bc + 10) (bs + 110) 838 [some (.ref Sc.1), some (.ref a), some (.ref m), some (.ref o), some (.int (nI i)), none, none] [] G I Q X := by
  refine mx_wk (bc' := bc + 1) (bs' := bs + 6) (by omega) (by omega) ?_
  obtain ⟨hW, hM, hz, ham, to, lo⟩ := id hw
  have tg9 : mx_tg G a = 19 := hW.1.1.1
  have tgm : mx_tg G m = 20 := hM.1.1
  obtain ⟨s1, es1⟩ : ∃ s1, Sc.2.2 (i + 1) = s1 := ⟨_, rfl⟩
  obtain ⟨s2, es2⟩ : ∃ s2, Sc.2.2 (i + 2) = s2 := ⟨_, rfl⟩
  obtain ⟨s3, es3⟩ : ∃ s3, Sc.2.2 (i + 3) = s3 := ⟨_, rfl⟩
  obtain ⟨s4, es4⟩ : ∃ s4, Sc.2.2 (i + 4) = s4 := ⟨_, rfl⟩
  refine mx_aload_n (i := 1) (hi := rfl) (hl := rfl) (hd := dL_law_838) ?_
  refine mx_aload_n (i := 0) (hi := rfl) (hl := rfl) (hd := dL_law_839) ?_
  refine mx_iload (i := 4) (hl := rfl) (hd := dL_law_840) ?_
  refine mx_iconstN 1 dL_law_842 (by decide) ?_
  refine mx_iaddN dL_law_843 ?_
  refine mx_scld (i + 1) hS dL_law_844 ⟨rfl, by omega, by omega⟩ ?_
  refine mx_top (y := s1) es1 ?_
  refine mx_aload_n (i := 0) (hi := rfl) (hl := rfl) (hd := dL_law_845) ?_
  refine mx_iload (i := 4) (hl := rfl) (hd := dL_law_846) ?_
  refine mx_iconstN 2 dL_law_848 (by decide) ?_
  refine mx_iaddN dL_law_849 ?_
  refine mx_scld (i + 2) hS dL_law_850 ⟨rfl, by omega, by omega⟩ ?_
  refine mx_top (y := s2) es2 ?_
  refine mx_aload_n (i := 3) (hi := rfl) (hl := rfl) (hd := dL_law_851) ?_
  refine mx_callSW (As := [.ref a, .int s1, .int s2, .ref o]) (rest := []) (b1 := 1) (b2 := 6) dL_law_852 (lw_setCost G I a o z hW to lo s1 s2) km_L_setCost rfl k_698 k_699 rfl rfl (Nat.le_of_ble_eq_true rfl) (by decide) (fun _ _ _ q => q.elim) (fun r1 G1 I1 h2 => ?_)
  have hM1 : mW G1 I1 m z := lwQ.m h2 hw
  obtain ⟨to1, lo1⟩ := lwQ.t h2 to lo
  obtain ⟨e9, hq1, hq2⟩ := h2
  subst e9
  have tgm1 : mx_tg G1 m = 20 := hM1.1.1
  refine mx_istoreE (i := 5) (ls' := [some (.ref Sc.1), some (.ref a), some (.ref m), some (.ref o), some (.int (nI i)), some (.int (nI (fl_setCost z s1 s2))), none]) (hd := dL_law_855) (hn := (by decide : (5 : Nat) < 7)) (hok := rfl) (hls := rfl) ?_
  refine mx_aload_n (i := 2) (hi := rfl) (hl := rfl) (hd := dL_law_857) ?_
  refine mx_aload_n (i := 0) (hi := rfl) (hl := rfl) (hd := dL_law_858) ?_
  refine mx_iload (i := 4) (hl := rfl) (hd := dL_law_859) ?_
  refine mx_iconstN 1 dL_law_861 (by decide) ?_
  refine mx_iaddN dL_law_862 ?_
  refine mx_scld (i + 1) hS dL_law_863 ⟨rfl, by omega, by omega⟩ ?_
  refine mx_top (y := s1) es1 ?_
  refine mx_aload_n (i := 0) (hi := rfl) (hl := rfl) (hd := dL_law_864) ?_
  refine mx_iload (i := 4) (hl := rfl) (hd := dL_law_865) ?_
  refine mx_iconstN 2 dL_law_867 (by decide) ?_
  refine mx_iaddN dL_law_868 ?_
  refine mx_scld (i + 2) hS dL_law_869 ⟨rfl, by omega, by omega⟩ ?_
  refine mx_top (y := s2) es2 ?_
  refine mx_callVi (ci := 10) (As := [.int s1, .int s2]) (rest := []) dL_law_870 (mt_setCost G1 I1 m z hM1 s1 s2) km_X10_setCost rfl k_1285 k_1286 k_1287 (by assumption) rfl rfl (Nat.le_of_ble_eq_true rfl) (by decide) (fun r3 I2 h4 => ?_)
  obtain ⟨hr0, hfr, hy, hn⟩ := h4
  by_cases hk0 : fl_setCost z s1 s2 = 0
  · obtain ⟨e9, hW2⟩ := hy hk0
    subst e9
    have f0 : fl_setCost z s1 s2 = 0 := mz_setCost z s1 s2 hk0
    refine mx_istoreE (i := 6) (ls' := [some (.ref Sc.1), some (.ref a), some (.ref m), some (.ref o), some (.int (nI i)), some (.int (nI (fl_setCost z s1 s2))), some (.int (nI (gC (zG z) s1.toInt.toNat)))]) (hd := dL_law_873) (hn := (by decide : (6 : Nat) < 7)) (hok := rfl) (hls := rfl) ?_
    refine mx_aload_n (i := 2) (hi := rfl) (hl := rfl) (hd := dL_law_875) ?_
    refine mx_callVp (ci := 10) (As := []) (rest := []) dL_law_876 (mt_thrown G1 I2 m hW2.1) km_X10_thrown rfl k_1110 k_1111 k_1112 (by assumption) rfl rfl (Nat.le_of_ble_eq_true rfl) (by decide) ?_
    refine mx_top (y := nI (fl_setCost z s1 s2)) (hr0) ?_
    refine mx_iload (i := 5) (hl := rfl) (hd := dL_law_879) ?_
    refine mx_icmp_eq (tgt := 886) dL_law_881 (by decide) (fun c881 => ?_) (fun c881 => ?_)
    · skip
      refine mx_iload (i := 5) (hl := rfl) (hd := dL_law_886) ?_
      refine mx_if_ne (tgt := 903) dL_law_888 (by decide) (fun c888 => ?_) (fun c888 => ?_)
      · skip
        exact absurd (show nI (fl_setCost z s1 s2) = 0 by rw [hk0]; rfl) c888
      · skip
        
        refine mx_aload_n (i := 3) (hi := rfl) (hl := rfl) (hd := dL_law_891) ?_
        refine mx_iconstN 0 dL_law_892 (by decide) ?_
        refine mx_lald 0 dL_law_893 (by assumption) ⟨rfl, by omega, by omega⟩ ?_
        refine mx_topl (y := (nI (gC (zG z) s1.toInt.toNat)).toInt64) ((hq1 hk0).2) ?_
        refine mx_iload (i := 6) (hl := rfl) (hd := dL_law_894) ?_
        refine mx_i2l (hv := rfl) (hd := dL_law_896) ?_
        refine mx_lcmp dL_law_897 ?_
        refine mx_if_eq (tgt := 903) dL_law_898 (by decide) (fun c898 => ?_) (fun c898 => ?_)
        · skip
          refine mx_goto (tgt := 1974) dL_law_903 (by decide) ?_
          refine mx_leS (ls' := [some (.ref Sc.1), some (.ref a), some (.ref m), some (.ref o), some (.int (nI i)), none, none]) ⟨rfl, rfl, rfl, rfl, rfl, trivial⟩ ?_
          exact K _ _ _ (hw.go (hq1 hk0).1 hW2 hfr (zi_setCost hz _ _))
        · skip
          exact absurd (lgc_self _) c898
    · skip
      exact absurd rfl c881
  · obtain ⟨⟨w9, e9⟩, hW2⟩ := hn hk0
    subst e9
    refine mx_istoreE (i := 6) (ls' := [some (.ref Sc.1), some (.ref a), some (.ref m), some (.ref o), some (.int (nI i)), some (.int (nI (fl_setCost z s1 s2))), some (.int w9)]) (hd := dL_law_873) (hn := (by decide : (6 : Nat) < 7)) (hok := rfl) (hls := rfl) ?_
    refine mx_aload_n (i := 2) (hi := rfl) (hl := rfl) (hd := dL_law_875) ?_
    refine mx_callVp (ci := 10) (As := []) (rest := []) dL_law_876 (mt_thrown G1 I2 m hW2.1) km_X10_thrown rfl k_1110 k_1111 k_1112 (by assumption) rfl rfl (Nat.le_of_ble_eq_true rfl) (by decide) ?_
    refine mx_top (y := nI (fl_setCost z s1 s2)) (hr0) ?_
    refine mx_iload (i := 5) (hl := rfl) (hd := dL_law_879) ?_
    refine mx_icmp_eq (tgt := 886) dL_law_881 (by decide) (fun c881 => ?_) (fun c881 => ?_)
    · skip
      refine mx_iload (i := 5) (hl := rfl) (hd := dL_law_886) ?_
      refine mx_if_ne (tgt := 903) dL_law_888 (by decide) (fun c888 => ?_) (fun c888 => ?_)
      · skip
        
        refine mx_goto (tgt := 1974) dL_law_903 (by decide) ?_
        refine mx_leS (ls' := [some (.ref Sc.1), some (.ref a), some (.ref m), some (.ref o), some (.int (nI i)), none, none]) ⟨rfl, rfl, rfl, rfl, rfl, trivial⟩ ?_
        exact K _ _ _ (hw.go (hq2 hk0) hW2 hfr hz)
      · skip
        exact absurd ((nI_eq (mb_setCost z s1 s2) (by decide)).mp c888) hk0
    · skip
      exact absurd rfl c881

theorem mb_turn (z : Zs) (s : Int32) : kD (fl_turn z s) < 2 ^ 31 := by
  have h1 := rg_turn z s
  first | omega | (rcases h1 with e | e | e <;> (rw [e]; decide))
set_option maxHeartbeats 400000 in
set_option maxRecDepth 100000 in
theorem lc_turn (hh : List (Nat × Nat × Nat × Nat)) (Sc : mx_Sc) (hS : mx_hS Sc) (bc bs : Nat) (G : mx_G) (I : mx_I) (a m o : Nat) (z : Zs) (i : Nat) (hi : i + 5 ≤ Sc.2.1) (hL : Sc.2.1 ≤ 2560) (hw : LW G I a m o z) (Q : Option Value → mx_G → mx_I → Prop) (X : String → mx_G → mx_I → Prop) (K : ∀ G' I' z', LW G' I' a m o z' → mx_V (mL_law hh) Sc 10 bc bs 1974 [some (.ref Sc.1), some (.ref a), some (.ref m), some (.ref o), some (.int (nI i)), none, none] [] G' I' Q X) : mx_V (mL_law hh) Sc 10 (bc + 10) (bs + 110) 906 [some (.ref Sc.1), some (.ref a), some (.ref m), some (.ref o), some (.int (nI i)), none, none] [] G I Q X := by
  refine mx_wk (bc' := bc + 1) (bs' := bs + 6) (by omega) (by omega) ?_
  obtain ⟨hW, hM, hz, ham, to, lo⟩ := id hw
  have tg9 : mx_tg G a = 19 := hW.1.1.1
  have tgm : mx_tg G m = 20 := hM.1.1
  obtain ⟨s1, es1⟩ : ∃ s1, Sc.2.2 (i + 1) = s1 := ⟨_, rfl⟩
  obtain ⟨s2, es2⟩ : ∃ s2, Sc.2.2 (i + 2) = s2 := ⟨_, rfl⟩
  obtain ⟨s3, es3⟩ : ∃ s3, Sc.2.2 (i + 3) = s3 := ⟨_, rfl⟩
  obtain ⟨s4, es4⟩ : ∃ s4, Sc.2.2 (i + 4) = s4 := ⟨_, rfl⟩
  refine mx_aload_n (i := 1) (hi := rfl) (hl := rfl) (hd := dL_law_906) ?_
  refine mx_aload_n (i := 0) (hi := rfl) (hl := rfl) (hd := dL_law_907) ?_
  refine mx_iload (i := 4) (hl := rfl) (hd := dL_law_908) ?_
  refine mx_iconstN 1 dL_law_910 (by decide) ?_
  refine mx_iaddN dL_law_911 ?_
  refine mx_scld (i + 1) hS dL_law_912 ⟨rfl, by omega, by omega⟩ ?_
  refine mx_top (y := s1) es1 ?_
  refine mx_aload_n (i := 3) (hi := rfl) (hl := rfl) (hd := dL_law_913) ?_
  refine mx_callSW (As := [.ref a, .int s1, .ref o]) (rest := []) (b1 := 1) (b2 := 6) dL_law_914 (lw_turn G I a o z hW to lo s1) km_L_turn rfl k_710 k_711 rfl rfl (Nat.le_of_ble_eq_true rfl) (by decide) (fun _ _ _ q => q.elim) (fun r1 G1 I1 h2 => ?_)
  have hM1 : mW G1 I1 m z := lwQ.m h2 hw
  obtain ⟨to1, lo1⟩ := lwQ.t h2 to lo
  obtain ⟨e9, hq1, hq2⟩ := h2
  subst e9
  have tgm1 : mx_tg G1 m = 20 := hM1.1.1
  refine mx_istoreE (i := 5) (ls' := [some (.ref Sc.1), some (.ref a), some (.ref m), some (.ref o), some (.int (nI i)), some (.int (nI (kD (fl_turn z s1)))), none]) (hd := dL_law_917) (hn := (by decide : (5 : Nat) < 7)) (hok := rfl) (hls := rfl) ?_
  refine mx_aload_n (i := 2) (hi := rfl) (hl := rfl) (hd := dL_law_919) ?_
  refine mx_aload_n (i := 0) (hi := rfl) (hl := rfl) (hd := dL_law_920) ?_
  refine mx_iload (i := 4) (hl := rfl) (hd := dL_law_921) ?_
  refine mx_iconstN 1 dL_law_923 (by decide) ?_
  refine mx_iaddN dL_law_924 ?_
  refine mx_scld (i + 1) hS dL_law_925 ⟨rfl, by omega, by omega⟩ ?_
  refine mx_top (y := s1) es1 ?_
  refine mx_callVi (ci := 10) (As := [.int s1]) (rest := []) dL_law_926 (mt_turn G1 I1 m z hM1 s1) km_X10_turn rfl k_1289 k_1290 k_1291 (by assumption) rfl rfl (Nat.le_of_ble_eq_true rfl) (by decide) (fun r3 I2 h4 => ?_)
  obtain ⟨hr0, hfr, hy, hn⟩ := h4
  by_cases hk0 : kD (fl_turn z s1) = 0
  · obtain ⟨e9, hW2⟩ := hy hk0
    subst e9
    have f0 : fl_turn z s1 = 0 := mz_turn z s1 hk0
    refine mx_istoreE (i := 6) (ls' := [some (.ref Sc.1), some (.ref a), some (.ref m), some (.ref o), some (.int (nI i)), some (.int (nI (kD (fl_turn z s1)))), some (.int (nI (gT (zG z) s1.toInt.toNat)))]) (hd := dL_law_929) (hn := (by decide : (6 : Nat) < 7)) (hok := rfl) (hls := rfl) ?_
    refine mx_aload_n (i := 2) (hi := rfl) (hl := rfl) (hd := dL_law_931) ?_
    refine mx_callVp (ci := 10) (As := []) (rest := []) dL_law_932 (mt_thrown G1 I2 m hW2.1) km_X10_thrown rfl k_1110 k_1111 k_1112 (by assumption) rfl rfl (Nat.le_of_ble_eq_true rfl) (by decide) ?_
    refine mx_top (y := nI (kD (fl_turn z s1))) (hr0) ?_
    refine mx_iload (i := 5) (hl := rfl) (hd := dL_law_935) ?_
    refine mx_icmp_eq (tgt := 942) dL_law_937 (by decide) (fun c937 => ?_) (fun c937 => ?_)
    · skip
      refine mx_iload (i := 5) (hl := rfl) (hd := dL_law_942) ?_
      refine mx_if_ne (tgt := 959) dL_law_944 (by decide) (fun c944 => ?_) (fun c944 => ?_)
      · skip
        exact absurd (show nI (kD (fl_turn z s1)) = 0 by rw [hk0]; rfl) c944
      · skip
        
        refine mx_aload_n (i := 3) (hi := rfl) (hl := rfl) (hd := dL_law_947) ?_
        refine mx_iconstN 0 dL_law_948 (by decide) ?_
        refine mx_lald 0 dL_law_949 (by assumption) ⟨rfl, by omega, by omega⟩ ?_
        refine mx_topl (y := (nI (gT (zG z) s1.toInt.toNat)).toInt64) ((hq1 hk0).2) ?_
        refine mx_iload (i := 6) (hl := rfl) (hd := dL_law_950) ?_
        refine mx_i2l (hv := rfl) (hd := dL_law_952) ?_
        refine mx_lcmp dL_law_953 ?_
        refine mx_if_eq (tgt := 959) dL_law_954 (by decide) (fun c954 => ?_) (fun c954 => ?_)
        · skip
          refine mx_goto (tgt := 1974) dL_law_959 (by decide) ?_
          refine mx_leS (ls' := [some (.ref Sc.1), some (.ref a), some (.ref m), some (.ref o), some (.int (nI i)), none, none]) ⟨rfl, rfl, rfl, rfl, rfl, trivial⟩ ?_
          exact K _ _ _ (hw.go (hq1 hk0).1 hW2 hfr (zi_turn hz f0))
        · skip
          exact absurd (lgc_self _) c954
    · skip
      exact absurd rfl c937
  · obtain ⟨⟨w9, e9⟩, hW2⟩ := hn hk0
    subst e9
    refine mx_istoreE (i := 6) (ls' := [some (.ref Sc.1), some (.ref a), some (.ref m), some (.ref o), some (.int (nI i)), some (.int (nI (kD (fl_turn z s1)))), some (.int w9)]) (hd := dL_law_929) (hn := (by decide : (6 : Nat) < 7)) (hok := rfl) (hls := rfl) ?_
    refine mx_aload_n (i := 2) (hi := rfl) (hl := rfl) (hd := dL_law_931) ?_
    refine mx_callVp (ci := 10) (As := []) (rest := []) dL_law_932 (mt_thrown G1 I2 m hW2.1) km_X10_thrown rfl k_1110 k_1111 k_1112 (by assumption) rfl rfl (Nat.le_of_ble_eq_true rfl) (by decide) ?_
    refine mx_top (y := nI (kD (fl_turn z s1))) (hr0) ?_
    refine mx_iload (i := 5) (hl := rfl) (hd := dL_law_935) ?_
    refine mx_icmp_eq (tgt := 942) dL_law_937 (by decide) (fun c937 => ?_) (fun c937 => ?_)
    · skip
      refine mx_iload (i := 5) (hl := rfl) (hd := dL_law_942) ?_
      refine mx_if_ne (tgt := 959) dL_law_944 (by decide) (fun c944 => ?_) (fun c944 => ?_)
      · skip
        
        refine mx_goto (tgt := 1974) dL_law_959 (by decide) ?_
        refine mx_leS (ls' := [some (.ref Sc.1), some (.ref a), some (.ref m), some (.ref o), some (.int (nI i)), none, none]) ⟨rfl, rfl, rfl, rfl, rfl, trivial⟩ ?_
        exact K _ _ _ (hw.go (hq2 hk0) hW2 hfr hz)
      · skip
        exact absurd ((nI_eq (mb_turn z s1) (by decide)).mp c944) hk0
    · skip
      exact absurd rfl c937

theorem mb_exchange (z : Zs) (k : Int32) (l : Int32) : fl_exchange k l - 1 < 2 ^ 31 := by
  have h1 := rg_exchange z k l
  first | omega | (rcases h1 with e | e | e <;> (rw [e]; decide))
set_option maxHeartbeats 400000 in
set_option maxRecDepth 100000 in
theorem lc_exchange (hh : List (Nat × Nat × Nat × Nat)) (Sc : mx_Sc) (hS : mx_hS Sc) (bc bs : Nat) (G : mx_G) (I : mx_I) (a m o : Nat) (z : Zs) (i : Nat) (hi : i + 5 ≤ Sc.2.1) (hL : Sc.2.1 ≤ 2560) (hw : LW G I a m o z) (Q : Option Value → mx_G → mx_I → Prop) (X : String → mx_G → mx_I → Prop) (K : ∀ G' I' z', LW G' I' a m o z' → mx_V (mL_law hh) Sc 10 bc bs 1974 [some (.ref Sc.1), some (.ref a), some (.ref m), some (.ref o), some (.int (nI i)), none, none] [] G' I' Q X) : mx_V (mL_law hh) Sc 10 (bc + 10) (bs + 110) 962 [some (.ref Sc.1), some (.ref a), some (.ref m), some (.ref o), some (.int (nI i)), none, none] [] G I Q X := by
  refine mx_wk (bc' := bc + 1) (bs' := bs + 6) (by omega) (by omega) ?_
  obtain ⟨hW, hM, hz, ham, to, lo⟩ := id hw
  have tg9 : mx_tg G a = 19 := hW.1.1.1
  have tgm : mx_tg G m = 20 := hM.1.1
  obtain ⟨s1, es1⟩ : ∃ s1, Sc.2.2 (i + 1) = s1 := ⟨_, rfl⟩
  obtain ⟨s2, es2⟩ : ∃ s2, Sc.2.2 (i + 2) = s2 := ⟨_, rfl⟩
  obtain ⟨s3, es3⟩ : ∃ s3, Sc.2.2 (i + 3) = s3 := ⟨_, rfl⟩
  obtain ⟨s4, es4⟩ : ∃ s4, Sc.2.2 (i + 4) = s4 := ⟨_, rfl⟩
  refine mx_aload_n (i := 1) (hi := rfl) (hl := rfl) (hd := dL_law_962) ?_
  refine mx_aload_n (i := 0) (hi := rfl) (hl := rfl) (hd := dL_law_963) ?_
  refine mx_iload (i := 4) (hl := rfl) (hd := dL_law_964) ?_
  refine mx_iconstN 1 dL_law_966 (by decide) ?_
  refine mx_iaddN dL_law_967 ?_
  refine mx_scld (i + 1) hS dL_law_968 ⟨rfl, by omega, by omega⟩ ?_
  refine mx_top (y := s1) es1 ?_
  refine mx_aload_n (i := 0) (hi := rfl) (hl := rfl) (hd := dL_law_969) ?_
  refine mx_iload (i := 4) (hl := rfl) (hd := dL_law_970) ?_
  refine mx_iconstN 2 dL_law_972 (by decide) ?_
  refine mx_iaddN dL_law_973 ?_
  refine mx_scld (i + 2) hS dL_law_974 ⟨rfl, by omega, by omega⟩ ?_
  refine mx_top (y := s2) es2 ?_
  refine mx_aload_n (i := 3) (hi := rfl) (hl := rfl) (hd := dL_law_975) ?_
  refine mx_callSW (As := [.ref a, .int s1, .int s2, .ref o]) (rest := []) (b1 := 1) (b2 := 6) dL_law_976 (lw_exchange G I a o z hW to lo s1 s2) km_L_exchange rfl k_725 k_726 rfl rfl (Nat.le_of_ble_eq_true rfl) (by decide) (fun _ _ _ q => q.elim) (fun r1 G1 I1 h2 => ?_)
  have hM1 : mW G1 I1 m z := lwQ.m h2 hw
  obtain ⟨to1, lo1⟩ := lwQ.t h2 to lo
  obtain ⟨e9, hq1, hq2⟩ := h2
  subst e9
  have tgm1 : mx_tg G1 m = 20 := hM1.1.1
  refine mx_istoreE (i := 5) (ls' := [some (.ref Sc.1), some (.ref a), some (.ref m), some (.ref o), some (.int (nI i)), some (.int (nI (fl_exchange s1 s2 - 1))), none]) (hd := dL_law_979) (hn := (by decide : (5 : Nat) < 7)) (hok := rfl) (hls := rfl) ?_
  refine mx_aload_n (i := 2) (hi := rfl) (hl := rfl) (hd := dL_law_981) ?_
  refine mx_aload_n (i := 0) (hi := rfl) (hl := rfl) (hd := dL_law_982) ?_
  refine mx_iload (i := 4) (hl := rfl) (hd := dL_law_983) ?_
  refine mx_iconstN 1 dL_law_985 (by decide) ?_
  refine mx_iaddN dL_law_986 ?_
  refine mx_scld (i + 1) hS dL_law_987 ⟨rfl, by omega, by omega⟩ ?_
  refine mx_top (y := s1) es1 ?_
  refine mx_aload_n (i := 0) (hi := rfl) (hl := rfl) (hd := dL_law_988) ?_
  refine mx_iload (i := 4) (hl := rfl) (hd := dL_law_989) ?_
  refine mx_iconstN 2 dL_law_991 (by decide) ?_
  refine mx_iaddN dL_law_992 ?_
  refine mx_scld (i + 2) hS dL_law_993 ⟨rfl, by omega, by omega⟩ ?_
  refine mx_top (y := s2) es2 ?_
  refine mx_callVi (ci := 10) (As := [.int s1, .int s2]) (rest := []) dL_law_994 (mt_exchange G1 I1 m z hM1 s1 s2) km_X10_exchange rfl k_1299 k_1300 k_1301 (by assumption) rfl rfl (Nat.le_of_ble_eq_true rfl) (by decide) (fun r3 I2 h4 => ?_)
  obtain ⟨hr0, hfr, hy, hn⟩ := h4
  by_cases hk0 : fl_exchange s1 s2 - 1 = 0
  · obtain ⟨e9, hW2⟩ := hy hk0
    subst e9
    have f0 : fl_exchange s1 s2 = 0 := mz_exchange z s1 s2 hk0
    refine mx_istoreE (i := 6) (ls' := [some (.ref Sc.1), some (.ref a), some (.ref m), some (.ref o), some (.int (nI i)), some (.int (nI (fl_exchange s1 s2 - 1))), some (.int (nI (gCh (gK (zG z)) s1.toInt.toNat s2.toInt.toNat (gN (zG z)))))]) (hd := dL_law_997) (hn := (by decide : (6 : Nat) < 7)) (hok := rfl) (hls := rfl) ?_
    refine mx_aload_n (i := 2) (hi := rfl) (hl := rfl) (hd := dL_law_999) ?_
    refine mx_callVp (ci := 10) (As := []) (rest := []) dL_law_1000 (mt_thrown G1 I2 m hW2.1) km_X10_thrown rfl k_1110 k_1111 k_1112 (by assumption) rfl rfl (Nat.le_of_ble_eq_true rfl) (by decide) ?_
    refine mx_top (y := nI (fl_exchange s1 s2 - 1)) (hr0) ?_
    refine mx_iload (i := 5) (hl := rfl) (hd := dL_law_1003) ?_
    refine mx_icmp_eq (tgt := 1010) dL_law_1005 (by decide) (fun c1005 => ?_) (fun c1005 => ?_)
    · skip
      refine mx_iload (i := 5) (hl := rfl) (hd := dL_law_1010) ?_
      refine mx_if_ne (tgt := 1027) dL_law_1012 (by decide) (fun c1012 => ?_) (fun c1012 => ?_)
      · skip
        exact absurd (show nI (fl_exchange s1 s2 - 1) = 0 by rw [hk0]; rfl) c1012
      · skip
        
        refine mx_aload_n (i := 3) (hi := rfl) (hl := rfl) (hd := dL_law_1015) ?_
        refine mx_iconstN 0 dL_law_1016 (by decide) ?_
        refine mx_lald 0 dL_law_1017 (by assumption) ⟨rfl, by omega, by omega⟩ ?_
        refine mx_topl (y := (nI (gCh (gK (zG z)) s1.toInt.toNat s2.toInt.toNat (gN (zG z)))).toInt64) ((hq1 hk0).2) ?_
        refine mx_iload (i := 6) (hl := rfl) (hd := dL_law_1018) ?_
        refine mx_i2l (hv := rfl) (hd := dL_law_1020) ?_
        refine mx_lcmp dL_law_1021 ?_
        refine mx_if_eq (tgt := 1027) dL_law_1022 (by decide) (fun c1022 => ?_) (fun c1022 => ?_)
        · skip
          refine mx_goto (tgt := 1974) dL_law_1027 (by decide) ?_
          refine mx_leS (ls' := [some (.ref Sc.1), some (.ref a), some (.ref m), some (.ref o), some (.int (nI i)), none, none]) ⟨rfl, rfl, rfl, rfl, rfl, trivial⟩ ?_
          exact K _ _ _ (hw.go (hq1 hk0).1 hW2 hfr (zi_exchange hz _ _))
        · skip
          exact absurd (lgc_self _) c1022
    · skip
      exact absurd rfl c1005
  · obtain ⟨⟨w9, e9⟩, hW2⟩ := hn hk0
    subst e9
    refine mx_istoreE (i := 6) (ls' := [some (.ref Sc.1), some (.ref a), some (.ref m), some (.ref o), some (.int (nI i)), some (.int (nI (fl_exchange s1 s2 - 1))), some (.int w9)]) (hd := dL_law_997) (hn := (by decide : (6 : Nat) < 7)) (hok := rfl) (hls := rfl) ?_
    refine mx_aload_n (i := 2) (hi := rfl) (hl := rfl) (hd := dL_law_999) ?_
    refine mx_callVp (ci := 10) (As := []) (rest := []) dL_law_1000 (mt_thrown G1 I2 m hW2.1) km_X10_thrown rfl k_1110 k_1111 k_1112 (by assumption) rfl rfl (Nat.le_of_ble_eq_true rfl) (by decide) ?_
    refine mx_top (y := nI (fl_exchange s1 s2 - 1)) (hr0) ?_
    refine mx_iload (i := 5) (hl := rfl) (hd := dL_law_1003) ?_
    refine mx_icmp_eq (tgt := 1010) dL_law_1005 (by decide) (fun c1005 => ?_) (fun c1005 => ?_)
    · skip
      refine mx_iload (i := 5) (hl := rfl) (hd := dL_law_1010) ?_
      refine mx_if_ne (tgt := 1027) dL_law_1012 (by decide) (fun c1012 => ?_) (fun c1012 => ?_)
      · skip
        
        refine mx_goto (tgt := 1974) dL_law_1027 (by decide) ?_
        refine mx_leS (ls' := [some (.ref Sc.1), some (.ref a), some (.ref m), some (.ref o), some (.int (nI i)), none, none]) ⟨rfl, rfl, rfl, rfl, rfl, trivial⟩ ?_
        exact K _ _ _ (hw.go (hq2 hk0) hW2 hfr hz)
      · skip
        exact absurd ((nI_eq (mb_exchange z s1 s2) (by decide)).mp c1012) hk0
    · skip
      exact absurd rfl c1005

theorem mb_take (z : Zs) : fl_take z - 2 < 2 ^ 31 := by
  have h1 := rg_take z
  first | omega | (rcases h1 with e | e | e <;> (rw [e]; decide))
set_option maxHeartbeats 400000 in
set_option maxRecDepth 100000 in
theorem lc_take (hh : List (Nat × Nat × Nat × Nat)) (Sc : mx_Sc) (hS : mx_hS Sc) (bc bs : Nat) (G : mx_G) (I : mx_I) (a m o : Nat) (z : Zs) (i : Nat) (hi : i + 5 ≤ Sc.2.1) (hL : Sc.2.1 ≤ 2560) (hw : LW G I a m o z) (Q : Option Value → mx_G → mx_I → Prop) (X : String → mx_G → mx_I → Prop) (K : ∀ G' I' z', LW G' I' a m o z' → mx_V (mL_law hh) Sc 10 bc bs 1974 [some (.ref Sc.1), some (.ref a), some (.ref m), some (.ref o), some (.int (nI i)), none, none] [] G' I' Q X) : mx_V (mL_law hh) Sc 10 (bc + 10) (bs + 110) 1030 [some (.ref Sc.1), some (.ref a), some (.ref m), some (.ref o), some (.int (nI i)), none, none] [] G I Q X := by
  refine mx_wk (bc' := bc + 6) (bs' := bs + 103) (by omega) (by omega) ?_
  obtain ⟨hW, hM, hz, ham, to, lo⟩ := id hw
  have tg9 : mx_tg G a = 19 := hW.1.1.1
  have tgm : mx_tg G m = 20 := hM.1.1
  obtain ⟨s1, es1⟩ : ∃ s1, Sc.2.2 (i + 1) = s1 := ⟨_, rfl⟩
  obtain ⟨s2, es2⟩ : ∃ s2, Sc.2.2 (i + 2) = s2 := ⟨_, rfl⟩
  obtain ⟨s3, es3⟩ : ∃ s3, Sc.2.2 (i + 3) = s3 := ⟨_, rfl⟩
  obtain ⟨s4, es4⟩ : ∃ s4, Sc.2.2 (i + 4) = s4 := ⟨_, rfl⟩
  refine mx_aload_n (i := 1) (hi := rfl) (hl := rfl) (hd := dL_law_1030) ?_
  refine mx_aload_n (i := 3) (hi := rfl) (hl := rfl) (hd := dL_law_1031) ?_
  refine mx_callSW (As := [.ref a, .ref o]) (rest := []) (b1 := 6) (b2 := 103) dL_law_1032 (lw_take G I a o z hW to lo) km_L_take rfl k_736 k_737 rfl rfl (Nat.le_of_ble_eq_true rfl) (by decide) (fun _ _ _ q => q.elim) (fun r1 G1 I1 h2 => ?_)
  have hM1 : mW G1 I1 m z := lwQ.m h2 hw
  obtain ⟨to1, lo1⟩ := lwQ.t h2 to lo
  obtain ⟨e9, hq1, hq2⟩ := h2
  subst e9
  have tgm1 : mx_tg G1 m = 20 := hM1.1.1
  refine mx_istoreE (i := 5) (ls' := [some (.ref Sc.1), some (.ref a), some (.ref m), some (.ref o), some (.int (nI i)), some (.int (nI (fl_take z - 2))), none]) (hd := dL_law_1035) (hn := (by decide : (5 : Nat) < 7)) (hok := rfl) (hls := rfl) ?_
  refine mx_aload_n (i := 2) (hi := rfl) (hl := rfl) (hd := dL_law_1037) ?_
  refine mx_callVi (ci := 10) (As := []) (rest := []) dL_law_1038 (mt_take G1 I1 m z hM1) km_X10_take rfl k_1306 k_1307 k_1308 (by assumption) rfl rfl (Nat.le_of_ble_eq_true rfl) (by decide) (fun r3 I2 h4 => ?_)
  obtain ⟨hr0, hfr, hy, hn⟩ := h4
  by_cases hk0 : fl_take z - 2 = 0
  · obtain ⟨e9, hW2⟩ := hy hk0
    subst e9
    have f0 : fl_take z = 0 := mz_take z hk0
    refine mx_istoreE (i := 6) (ls' := [some (.ref Sc.1), some (.ref a), some (.ref m), some (.ref o), some (.int (nI i)), some (.int (nI (fl_take z - 2))), some (.int (nI (pL (rdF (zT z) (zN z)))))]) (hd := dL_law_1041) (hn := (by decide : (6 : Nat) < 7)) (hok := rfl) (hls := rfl) ?_
    refine mx_aload_n (i := 2) (hi := rfl) (hl := rfl) (hd := dL_law_1043) ?_
    refine mx_callVp (ci := 10) (As := []) (rest := []) dL_law_1044 (mt_thrown G1 I2 m hW2.1) km_X10_thrown rfl k_1110 k_1111 k_1112 (by assumption) rfl rfl (Nat.le_of_ble_eq_true rfl) (by decide) ?_
    refine mx_top (y := nI (fl_take z - 2)) (hr0) ?_
    refine mx_iload (i := 5) (hl := rfl) (hd := dL_law_1047) ?_
    refine mx_icmp_eq (tgt := 1054) dL_law_1049 (by decide) (fun c1049 => ?_) (fun c1049 => ?_)
    · skip
      refine mx_iload (i := 5) (hl := rfl) (hd := dL_law_1054) ?_
      refine mx_if_ne (tgt := 1071) dL_law_1056 (by decide) (fun c1056 => ?_) (fun c1056 => ?_)
      · skip
        exact absurd (show nI (fl_take z - 2) = 0 by rw [hk0]; rfl) c1056
      · skip
        
        refine mx_aload_n (i := 3) (hi := rfl) (hl := rfl) (hd := dL_law_1059) ?_
        refine mx_iconstN 0 dL_law_1060 (by decide) ?_
        refine mx_lald 0 dL_law_1061 (by assumption) ⟨rfl, by omega, by omega⟩ ?_
        refine mx_topl (y := (nI (pL (rdF (zT z) (zN z)))).toInt64) ((hq1 hk0).2) ?_
        refine mx_iload (i := 6) (hl := rfl) (hd := dL_law_1062) ?_
        refine mx_i2l (hv := rfl) (hd := dL_law_1064) ?_
        refine mx_lcmp dL_law_1065 ?_
        refine mx_if_eq (tgt := 1071) dL_law_1066 (by decide) (fun c1066 => ?_) (fun c1066 => ?_)
        · skip
          refine mx_goto (tgt := 1974) dL_law_1071 (by decide) ?_
          refine mx_leS (ls' := [some (.ref Sc.1), some (.ref a), some (.ref m), some (.ref o), some (.int (nI i)), none, none]) ⟨rfl, rfl, rfl, rfl, rfl, trivial⟩ ?_
          exact K _ _ _ (hw.go (hq1 hk0).1 hW2 hfr (zi_take hz))
        · skip
          exact absurd (lgc_self _) c1066
    · skip
      exact absurd rfl c1049
  · obtain ⟨⟨w9, e9⟩, hW2⟩ := hn hk0
    subst e9
    refine mx_istoreE (i := 6) (ls' := [some (.ref Sc.1), some (.ref a), some (.ref m), some (.ref o), some (.int (nI i)), some (.int (nI (fl_take z - 2))), some (.int w9)]) (hd := dL_law_1041) (hn := (by decide : (6 : Nat) < 7)) (hok := rfl) (hls := rfl) ?_
    refine mx_aload_n (i := 2) (hi := rfl) (hl := rfl) (hd := dL_law_1043) ?_
    refine mx_callVp (ci := 10) (As := []) (rest := []) dL_law_1044 (mt_thrown G1 I2 m hW2.1) km_X10_thrown rfl k_1110 k_1111 k_1112 (by assumption) rfl rfl (Nat.le_of_ble_eq_true rfl) (by decide) ?_
    refine mx_top (y := nI (fl_take z - 2)) (hr0) ?_
    refine mx_iload (i := 5) (hl := rfl) (hd := dL_law_1047) ?_
    refine mx_icmp_eq (tgt := 1054) dL_law_1049 (by decide) (fun c1049 => ?_) (fun c1049 => ?_)
    · skip
      refine mx_iload (i := 5) (hl := rfl) (hd := dL_law_1054) ?_
      refine mx_if_ne (tgt := 1071) dL_law_1056 (by decide) (fun c1056 => ?_) (fun c1056 => ?_)
      · skip
        
        refine mx_goto (tgt := 1974) dL_law_1071 (by decide) ?_
        refine mx_leS (ls' := [some (.ref Sc.1), some (.ref a), some (.ref m), some (.ref o), some (.int (nI i)), none, none]) ⟨rfl, rfl, rfl, rfl, rfl, trivial⟩ ?_
        exact K _ _ _ (hw.go (hq2 hk0) hW2 hfr hz)
      · skip
        exact absurd ((nI_eq (mb_take z) (by decide)).mp c1056) hk0
    · skip
      exact absurd rfl c1049

theorem mb_undo (z : Zs) : fl_undo z - 2 < 2 ^ 31 := by
  have h1 := rg_undo z
  first | omega | (rcases h1 with e | e | e <;> (rw [e]; decide))
set_option maxHeartbeats 400000 in
set_option maxRecDepth 100000 in
theorem lc_undo (hh : List (Nat × Nat × Nat × Nat)) (Sc : mx_Sc) (hS : mx_hS Sc) (bc bs : Nat) (G : mx_G) (I : mx_I) (a m o : Nat) (z : Zs) (i : Nat) (hi : i + 5 ≤ Sc.2.1) (hL : Sc.2.1 ≤ 2560) (hw : LW G I a m o z) (Q : Option Value → mx_G → mx_I → Prop) (X : String → mx_G → mx_I → Prop) (K : ∀ G' I' z', LW G' I' a m o z' → mx_V (mL_law hh) Sc 10 bc bs 1974 [some (.ref Sc.1), some (.ref a), some (.ref m), some (.ref o), some (.int (nI i)), none, none] [] G' I' Q X) : mx_V (mL_law hh) Sc 10 (bc + 10) (bs + 110) 1074 [some (.ref Sc.1), some (.ref a), some (.ref m), some (.ref o), some (.int (nI i)), none, none] [] G I Q X := by
  refine mx_wk (bc' := bc + 1) (bs' := bs + 6) (by omega) (by omega) ?_
  obtain ⟨hW, hM, hz, ham, to, lo⟩ := id hw
  have tg9 : mx_tg G a = 19 := hW.1.1.1
  have tgm : mx_tg G m = 20 := hM.1.1
  obtain ⟨s1, es1⟩ : ∃ s1, Sc.2.2 (i + 1) = s1 := ⟨_, rfl⟩
  obtain ⟨s2, es2⟩ : ∃ s2, Sc.2.2 (i + 2) = s2 := ⟨_, rfl⟩
  obtain ⟨s3, es3⟩ : ∃ s3, Sc.2.2 (i + 3) = s3 := ⟨_, rfl⟩
  obtain ⟨s4, es4⟩ : ∃ s4, Sc.2.2 (i + 4) = s4 := ⟨_, rfl⟩
  refine mx_aload_n (i := 1) (hi := rfl) (hl := rfl) (hd := dL_law_1074) ?_
  refine mx_aload_n (i := 3) (hi := rfl) (hl := rfl) (hd := dL_law_1075) ?_
  refine mx_callSW (As := [.ref a, .ref o]) (rest := []) (b1 := 1) (b2 := 6) dL_law_1076 (lw_undo G I a o z hW to lo) km_L_undo rfl k_781 k_782 rfl rfl (Nat.le_of_ble_eq_true rfl) (by decide) (fun _ _ _ q => q.elim) (fun r1 G1 I1 h2 => ?_)
  have hM1 : mW G1 I1 m z := lwQ.m h2 hw
  obtain ⟨to1, lo1⟩ := lwQ.t h2 to lo
  obtain ⟨e9, hq1, hq2⟩ := h2
  subst e9
  have tgm1 : mx_tg G1 m = 20 := hM1.1.1
  refine mx_istoreE (i := 5) (ls' := [some (.ref Sc.1), some (.ref a), some (.ref m), some (.ref o), some (.int (nI i)), some (.int (nI (fl_undo z - 2))), none]) (hd := dL_law_1079) (hn := (by decide : (5 : Nat) < 7)) (hok := rfl) (hls := rfl) ?_
  refine mx_aload_n (i := 2) (hi := rfl) (hl := rfl) (hd := dL_law_1081) ?_
  refine mx_callVi (ci := 10) (As := []) (rest := []) dL_law_1082 (mt_undo G1 I1 m z hM1) km_X10_undo rfl k_1310 k_1311 k_1312 (by assumption) rfl rfl (Nat.le_of_ble_eq_true rfl) (by decide) (fun r3 I2 h4 => ?_)
  obtain ⟨hr0, hfr, hy, hn⟩ := h4
  by_cases hk0 : fl_undo z - 2 = 0
  · obtain ⟨e9, hW2⟩ := hy hk0
    subst e9
    have f0 : fl_undo z = 0 := mz_undo z hk0
    refine mx_istoreE (i := 6) (ls' := [some (.ref Sc.1), some (.ref a), some (.ref m), some (.ref o), some (.int (nI i)), some (.int (nI (fl_undo z - 2))), some (.int (nI (zC z - 1)))]) (hd := dL_law_1085) (hn := (by decide : (6 : Nat) < 7)) (hok := rfl) (hls := rfl) ?_
    refine mx_aload_n (i := 2) (hi := rfl) (hl := rfl) (hd := dL_law_1087) ?_
    refine mx_callVp (ci := 10) (As := []) (rest := []) dL_law_1088 (mt_thrown G1 I2 m hW2.1) km_X10_thrown rfl k_1110 k_1111 k_1112 (by assumption) rfl rfl (Nat.le_of_ble_eq_true rfl) (by decide) ?_
    refine mx_top (y := nI (fl_undo z - 2)) (hr0) ?_
    refine mx_iload (i := 5) (hl := rfl) (hd := dL_law_1091) ?_
    refine mx_icmp_eq (tgt := 1098) dL_law_1093 (by decide) (fun c1093 => ?_) (fun c1093 => ?_)
    · skip
      refine mx_iload (i := 5) (hl := rfl) (hd := dL_law_1098) ?_
      refine mx_if_ne (tgt := 1115) dL_law_1100 (by decide) (fun c1100 => ?_) (fun c1100 => ?_)
      · skip
        exact absurd (show nI (fl_undo z - 2) = 0 by rw [hk0]; rfl) c1100
      · skip
        
        refine mx_aload_n (i := 3) (hi := rfl) (hl := rfl) (hd := dL_law_1103) ?_
        refine mx_iconstN 0 dL_law_1104 (by decide) ?_
        refine mx_lald 0 dL_law_1105 (by assumption) ⟨rfl, by omega, by omega⟩ ?_
        refine mx_topl (y := (nI (zC z - 1)).toInt64) ((hq1 hk0).2) ?_
        refine mx_iload (i := 6) (hl := rfl) (hd := dL_law_1106) ?_
        refine mx_i2l (hv := rfl) (hd := dL_law_1108) ?_
        refine mx_lcmp dL_law_1109 ?_
        refine mx_if_eq (tgt := 1115) dL_law_1110 (by decide) (fun c1110 => ?_) (fun c1110 => ?_)
        · skip
          refine mx_goto (tgt := 1974) dL_law_1115 (by decide) ?_
          refine mx_leS (ls' := [some (.ref Sc.1), some (.ref a), some (.ref m), some (.ref o), some (.int (nI i)), none, none]) ⟨rfl, rfl, rfl, rfl, rfl, trivial⟩ ?_
          exact K _ _ _ (hw.go (hq1 hk0).1 hW2 hfr (zi_undo hz f0))
        · skip
          exact absurd (lgc_self _) c1110
    · skip
      exact absurd rfl c1093
  · obtain ⟨⟨w9, e9⟩, hW2⟩ := hn hk0
    subst e9
    refine mx_istoreE (i := 6) (ls' := [some (.ref Sc.1), some (.ref a), some (.ref m), some (.ref o), some (.int (nI i)), some (.int (nI (fl_undo z - 2))), some (.int w9)]) (hd := dL_law_1085) (hn := (by decide : (6 : Nat) < 7)) (hok := rfl) (hls := rfl) ?_
    refine mx_aload_n (i := 2) (hi := rfl) (hl := rfl) (hd := dL_law_1087) ?_
    refine mx_callVp (ci := 10) (As := []) (rest := []) dL_law_1088 (mt_thrown G1 I2 m hW2.1) km_X10_thrown rfl k_1110 k_1111 k_1112 (by assumption) rfl rfl (Nat.le_of_ble_eq_true rfl) (by decide) ?_
    refine mx_top (y := nI (fl_undo z - 2)) (hr0) ?_
    refine mx_iload (i := 5) (hl := rfl) (hd := dL_law_1091) ?_
    refine mx_icmp_eq (tgt := 1098) dL_law_1093 (by decide) (fun c1093 => ?_) (fun c1093 => ?_)
    · skip
      refine mx_iload (i := 5) (hl := rfl) (hd := dL_law_1098) ?_
      refine mx_if_ne (tgt := 1115) dL_law_1100 (by decide) (fun c1100 => ?_) (fun c1100 => ?_)
      · skip
        
        refine mx_goto (tgt := 1974) dL_law_1115 (by decide) ?_
        refine mx_leS (ls' := [some (.ref Sc.1), some (.ref a), some (.ref m), some (.ref o), some (.int (nI i)), none, none]) ⟨rfl, rfl, rfl, rfl, rfl, trivial⟩ ?_
        exact K _ _ _ (hw.go (hq2 hk0) hW2 hfr hz)
      · skip
        exact absurd ((nI_eq (mb_undo z) (by decide)).mp c1100) hk0
    · skip
      exact absurd rfl c1093

theorem mb_save (z : Zs) (s : Int32) : fl_slot s < 2 ^ 31 := by
  have h1 := rg_save z s
  first | omega | (rcases h1 with e | e | e <;> (rw [e]; decide))
set_option maxHeartbeats 400000 in
set_option maxRecDepth 100000 in
theorem lc_save (hh : List (Nat × Nat × Nat × Nat)) (Sc : mx_Sc) (hS : mx_hS Sc) (bc bs : Nat) (G : mx_G) (I : mx_I) (a m o : Nat) (z : Zs) (i : Nat) (hi : i + 5 ≤ Sc.2.1) (hL : Sc.2.1 ≤ 2560) (hw : LW G I a m o z) (Q : Option Value → mx_G → mx_I → Prop) (X : String → mx_G → mx_I → Prop) (K : ∀ G' I' z', LW G' I' a m o z' → mx_V (mL_law hh) Sc 10 bc bs 1974 [some (.ref Sc.1), some (.ref a), some (.ref m), some (.ref o), some (.int (nI i)), none, none] [] G' I' Q X) : mx_V (mL_law hh) Sc 10 (bc + 10) (bs + 110) 1862 [some (.ref Sc.1), some (.ref a), some (.ref m), some (.ref o), some (.int (nI i)), none, none] [] G I Q X := by
  refine mx_wk (bc' := bc + 1) (bs' := bs + 6) (by omega) (by omega) ?_
  obtain ⟨hW, hM, hz, ham, to, lo⟩ := id hw
  have tg9 : mx_tg G a = 19 := hW.1.1.1
  have tgm : mx_tg G m = 20 := hM.1.1
  obtain ⟨s1, es1⟩ : ∃ s1, Sc.2.2 (i + 1) = s1 := ⟨_, rfl⟩
  obtain ⟨s2, es2⟩ : ∃ s2, Sc.2.2 (i + 2) = s2 := ⟨_, rfl⟩
  obtain ⟨s3, es3⟩ : ∃ s3, Sc.2.2 (i + 3) = s3 := ⟨_, rfl⟩
  obtain ⟨s4, es4⟩ : ∃ s4, Sc.2.2 (i + 4) = s4 := ⟨_, rfl⟩
  refine mx_aload_n (i := 1) (hi := rfl) (hl := rfl) (hd := dL_law_1862) ?_
  refine mx_aload_n (i := 0) (hi := rfl) (hl := rfl) (hd := dL_law_1863) ?_
  refine mx_iload (i := 4) (hl := rfl) (hd := dL_law_1864) ?_
  refine mx_iconstN 1 dL_law_1866 (by decide) ?_
  refine mx_iaddN dL_law_1867 ?_
  refine mx_scld (i + 1) hS dL_law_1868 ⟨rfl, by omega, by omega⟩ ?_
  refine mx_top (y := s1) es1 ?_
  refine mx_aload_n (i := 3) (hi := rfl) (hl := rfl) (hd := dL_law_1869) ?_
  refine mx_callSW (As := [.ref a, .int s1, .ref o]) (rest := []) (b1 := 1) (b2 := 6) dL_law_1870 (lw_save G I a o z hW to lo s1) km_L_save rfl k_990 k_991 rfl rfl (Nat.le_of_ble_eq_true rfl) (by decide) (fun _ _ _ q => q.elim) (fun r1 G1 I1 h2 => ?_)
  have hM1 : mW G1 I1 m z := lwQ.m h2 hw
  obtain ⟨to1, lo1⟩ := lwQ.t h2 to lo
  obtain ⟨e9, hq1, hq2⟩ := h2
  subst e9
  have tgm1 : mx_tg G1 m = 20 := hM1.1.1
  refine mx_istoreE (i := 5) (ls' := [some (.ref Sc.1), some (.ref a), some (.ref m), some (.ref o), some (.int (nI i)), some (.int (nI (fl_slot s1))), none]) (hd := dL_law_1873) (hn := (by decide : (5 : Nat) < 7)) (hok := rfl) (hls := rfl) ?_
  refine mx_aload_n (i := 2) (hi := rfl) (hl := rfl) (hd := dL_law_1875) ?_
  refine mx_aload_n (i := 0) (hi := rfl) (hl := rfl) (hd := dL_law_1876) ?_
  refine mx_iload (i := 4) (hl := rfl) (hd := dL_law_1877) ?_
  refine mx_iconstN 1 dL_law_1879 (by decide) ?_
  refine mx_iaddN dL_law_1880 ?_
  refine mx_scld (i + 1) hS dL_law_1881 ⟨rfl, by omega, by omega⟩ ?_
  refine mx_top (y := s1) es1 ?_
  refine mx_callVi (ci := 10) (As := [.int s1]) (rest := []) dL_law_1882 (mt_save G1 I1 m z hM1 s1) km_X10_save rfl k_1389 k_1390 k_1391 (by assumption) rfl rfl (Nat.le_of_ble_eq_true rfl) (by decide) (fun r3 I2 h4 => ?_)
  obtain ⟨hr0, hfr, hy, hn⟩ := h4
  by_cases hk0 : fl_slot s1 = 0
  · obtain ⟨e9, hW2⟩ := hy hk0
    subst e9
    have f0 : fl_slot s1 = 0 := mz_save z s1 hk0
    refine mx_istoreE (i := 6) (ls' := [some (.ref Sc.1), some (.ref a), some (.ref m), some (.ref o), some (.int (nI i)), some (.int (nI (fl_slot s1))), some (.int (nI (gN (zG z))))]) (hd := dL_law_1885) (hn := (by decide : (6 : Nat) < 7)) (hok := rfl) (hls := rfl) ?_
    refine mx_aload_n (i := 2) (hi := rfl) (hl := rfl) (hd := dL_law_1887) ?_
    refine mx_callVp (ci := 10) (As := []) (rest := []) dL_law_1888 (mt_thrown G1 I2 m hW2.1) km_X10_thrown rfl k_1110 k_1111 k_1112 (by assumption) rfl rfl (Nat.le_of_ble_eq_true rfl) (by decide) ?_
    refine mx_top (y := nI (fl_slot s1)) (hr0) ?_
    refine mx_iload (i := 5) (hl := rfl) (hd := dL_law_1891) ?_
    refine mx_icmp_eq (tgt := 1898) dL_law_1893 (by decide) (fun c1893 => ?_) (fun c1893 => ?_)
    · skip
      refine mx_iload (i := 5) (hl := rfl) (hd := dL_law_1898) ?_
      refine mx_if_ne (tgt := 1915) dL_law_1900 (by decide) (fun c1900 => ?_) (fun c1900 => ?_)
      · skip
        exact absurd (show nI (fl_slot s1) = 0 by rw [hk0]; rfl) c1900
      · skip
        
        refine mx_aload_n (i := 3) (hi := rfl) (hl := rfl) (hd := dL_law_1903) ?_
        refine mx_iconstN 0 dL_law_1904 (by decide) ?_
        refine mx_lald 0 dL_law_1905 (by assumption) ⟨rfl, by omega, by omega⟩ ?_
        refine mx_topl (y := (nI (gN (zG z))).toInt64) ((hq1 hk0).2) ?_
        refine mx_iload (i := 6) (hl := rfl) (hd := dL_law_1906) ?_
        refine mx_i2l (hv := rfl) (hd := dL_law_1908) ?_
        refine mx_lcmp dL_law_1909 ?_
        refine mx_if_eq (tgt := 1915) dL_law_1910 (by decide) (fun c1910 => ?_) (fun c1910 => ?_)
        · skip
          refine mx_goto (tgt := 1974) dL_law_1915 (by decide) ?_
          refine mx_leS (ls' := [some (.ref Sc.1), some (.ref a), some (.ref m), some (.ref o), some (.int (nI i)), none, none]) ⟨rfl, rfl, rfl, rfl, rfl, trivial⟩ ?_
          exact K _ _ _ (hw.go (hq1 hk0).1 hW2 hfr (zi_save hz _))
        · skip
          exact absurd (lgc_self _) c1910
    · skip
      exact absurd rfl c1893
  · obtain ⟨⟨w9, e9⟩, hW2⟩ := hn hk0
    subst e9
    refine mx_istoreE (i := 6) (ls' := [some (.ref Sc.1), some (.ref a), some (.ref m), some (.ref o), some (.int (nI i)), some (.int (nI (fl_slot s1))), some (.int w9)]) (hd := dL_law_1885) (hn := (by decide : (6 : Nat) < 7)) (hok := rfl) (hls := rfl) ?_
    refine mx_aload_n (i := 2) (hi := rfl) (hl := rfl) (hd := dL_law_1887) ?_
    refine mx_callVp (ci := 10) (As := []) (rest := []) dL_law_1888 (mt_thrown G1 I2 m hW2.1) km_X10_thrown rfl k_1110 k_1111 k_1112 (by assumption) rfl rfl (Nat.le_of_ble_eq_true rfl) (by decide) ?_
    refine mx_top (y := nI (fl_slot s1)) (hr0) ?_
    refine mx_iload (i := 5) (hl := rfl) (hd := dL_law_1891) ?_
    refine mx_icmp_eq (tgt := 1898) dL_law_1893 (by decide) (fun c1893 => ?_) (fun c1893 => ?_)
    · skip
      refine mx_iload (i := 5) (hl := rfl) (hd := dL_law_1898) ?_
      refine mx_if_ne (tgt := 1915) dL_law_1900 (by decide) (fun c1900 => ?_) (fun c1900 => ?_)
      · skip
        
        refine mx_goto (tgt := 1974) dL_law_1915 (by decide) ?_
        refine mx_leS (ls' := [some (.ref Sc.1), some (.ref a), some (.ref m), some (.ref o), some (.int (nI i)), none, none]) ⟨rfl, rfl, rfl, rfl, rfl, trivial⟩ ?_
        exact K _ _ _ (hw.go (hq2 hk0) hW2 hfr hz)
      · skip
        exact absurd ((nI_eq (mb_save z s1) (by decide)).mp c1900) hk0
    · skip
      exact absurd rfl c1893

theorem mb_restore (z : Zs) (s : Int32) : kD (fl_restore z s) < 2 ^ 31 := by
  have h1 := rg_restore z s
  first | omega | (rcases h1 with e | e | e <;> (rw [e]; decide))
set_option maxHeartbeats 400000 in
set_option maxRecDepth 100000 in
theorem lc_restore (hh : List (Nat × Nat × Nat × Nat)) (Sc : mx_Sc) (hS : mx_hS Sc) (bc bs : Nat) (G : mx_G) (I : mx_I) (a m o : Nat) (z : Zs) (i : Nat) (hi : i + 5 ≤ Sc.2.1) (hL : Sc.2.1 ≤ 2560) (hw : LW G I a m o z) (Q : Option Value → mx_G → mx_I → Prop) (X : String → mx_G → mx_I → Prop) (K : ∀ G' I' z', LW G' I' a m o z' → mx_V (mL_law hh) Sc 10 bc bs 1974 [some (.ref Sc.1), some (.ref a), some (.ref m), some (.ref o), some (.int (nI i)), none, none] [] G' I' Q X) : mx_V (mL_law hh) Sc 10 (bc + 10) (bs + 110) 1918 [some (.ref Sc.1), some (.ref a), some (.ref m), some (.ref o), some (.int (nI i)), none, none] [] G I Q X := by
  refine mx_wk (bc' := bc + 2) (bs' := bs + 12) (by omega) (by omega) ?_
  obtain ⟨hW, hM, hz, ham, to, lo⟩ := id hw
  have tg9 : mx_tg G a = 19 := hW.1.1.1
  have tgm : mx_tg G m = 20 := hM.1.1
  obtain ⟨s1, es1⟩ : ∃ s1, Sc.2.2 (i + 1) = s1 := ⟨_, rfl⟩
  obtain ⟨s2, es2⟩ : ∃ s2, Sc.2.2 (i + 2) = s2 := ⟨_, rfl⟩
  obtain ⟨s3, es3⟩ : ∃ s3, Sc.2.2 (i + 3) = s3 := ⟨_, rfl⟩
  obtain ⟨s4, es4⟩ : ∃ s4, Sc.2.2 (i + 4) = s4 := ⟨_, rfl⟩
  refine mx_aload_n (i := 1) (hi := rfl) (hl := rfl) (hd := dL_law_1918) ?_
  refine mx_aload_n (i := 0) (hi := rfl) (hl := rfl) (hd := dL_law_1919) ?_
  refine mx_iload (i := 4) (hl := rfl) (hd := dL_law_1920) ?_
  refine mx_iconstN 1 dL_law_1922 (by decide) ?_
  refine mx_iaddN dL_law_1923 ?_
  refine mx_scld (i + 1) hS dL_law_1924 ⟨rfl, by omega, by omega⟩ ?_
  refine mx_top (y := s1) es1 ?_
  refine mx_aload_n (i := 3) (hi := rfl) (hl := rfl) (hd := dL_law_1925) ?_
  refine mx_callSW (As := [.ref a, .int s1, .ref o]) (rest := []) (b1 := 2) (b2 := 12) dL_law_1926 (lw_restore G I a o z hW to lo s1) km_L_restore rfl k_1000 k_1001 rfl rfl (Nat.le_of_ble_eq_true rfl) (by decide) (fun _ _ _ q => q.elim) (fun r1 G1 I1 h2 => ?_)
  have hM1 : mW G1 I1 m z := lwQ.m h2 hw
  obtain ⟨to1, lo1⟩ := lwQ.t h2 to lo
  obtain ⟨e9, hq1, hq2⟩ := h2
  subst e9
  have tgm1 : mx_tg G1 m = 20 := hM1.1.1
  refine mx_istoreE (i := 5) (ls' := [some (.ref Sc.1), some (.ref a), some (.ref m), some (.ref o), some (.int (nI i)), some (.int (nI (kD (fl_restore z s1)))), none]) (hd := dL_law_1929) (hn := (by decide : (5 : Nat) < 7)) (hok := rfl) (hls := rfl) ?_
  refine mx_aload_n (i := 2) (hi := rfl) (hl := rfl) (hd := dL_law_1931) ?_
  refine mx_aload_n (i := 0) (hi := rfl) (hl := rfl) (hd := dL_law_1932) ?_
  refine mx_iload (i := 4) (hl := rfl) (hd := dL_law_1933) ?_
  refine mx_iconstN 1 dL_law_1935 (by decide) ?_
  refine mx_iaddN dL_law_1936 ?_
  refine mx_scld (i + 1) hS dL_law_1937 ⟨rfl, by omega, by omega⟩ ?_
  refine mx_top (y := s1) es1 ?_
  refine mx_callVi (ci := 10) (As := [.int s1]) (rest := []) dL_law_1938 (mt_restore G1 I1 m z hM1 s1) km_X10_restore rfl k_1393 k_1394 k_1395 (by assumption) rfl rfl (Nat.le_of_ble_eq_true rfl) (by decide) (fun r3 I2 h4 => ?_)
  obtain ⟨hr0, hfr, hy, hn⟩ := h4
  by_cases hk0 : kD (fl_restore z s1) = 0
  · obtain ⟨e9, hW2⟩ := hy hk0
    subst e9
    have f0 : fl_restore z s1 = 0 := mz_restore z s1 hk0
    refine mx_istoreE (i := 6) (ls' := [some (.ref Sc.1), some (.ref a), some (.ref m), some (.ref o), some (.int (nI i)), some (.int (nI (kD (fl_restore z s1)))), some (.int (nI (gN (zK z s1.toInt.toNat).1)))]) (hd := dL_law_1941) (hn := (by decide : (6 : Nat) < 7)) (hok := rfl) (hls := rfl) ?_
    refine mx_aload_n (i := 2) (hi := rfl) (hl := rfl) (hd := dL_law_1943) ?_
    refine mx_callVp (ci := 10) (As := []) (rest := []) dL_law_1944 (mt_thrown G1 I2 m hW2.1) km_X10_thrown rfl k_1110 k_1111 k_1112 (by assumption) rfl rfl (Nat.le_of_ble_eq_true rfl) (by decide) ?_
    refine mx_top (y := nI (kD (fl_restore z s1))) (hr0) ?_
    refine mx_iload (i := 5) (hl := rfl) (hd := dL_law_1947) ?_
    refine mx_icmp_eq (tgt := 1954) dL_law_1949 (by decide) (fun c1949 => ?_) (fun c1949 => ?_)
    · skip
      refine mx_iload (i := 5) (hl := rfl) (hd := dL_law_1954) ?_
      refine mx_if_ne (tgt := 1971) dL_law_1956 (by decide) (fun c1956 => ?_) (fun c1956 => ?_)
      · skip
        exact absurd (show nI (kD (fl_restore z s1)) = 0 by rw [hk0]; rfl) c1956
      · skip
        
        refine mx_aload_n (i := 3) (hi := rfl) (hl := rfl) (hd := dL_law_1959) ?_
        refine mx_iconstN 0 dL_law_1960 (by decide) ?_
        refine mx_lald 0 dL_law_1961 (by assumption) ⟨rfl, by omega, by omega⟩ ?_
        refine mx_topl (y := (nI (gN (zK z s1.toInt.toNat).1)).toInt64) ((hq1 hk0).2) ?_
        refine mx_iload (i := 6) (hl := rfl) (hd := dL_law_1962) ?_
        refine mx_i2l (hv := rfl) (hd := dL_law_1964) ?_
        refine mx_lcmp dL_law_1965 ?_
        refine mx_if_eq (tgt := 1971) dL_law_1966 (by decide) (fun c1966 => ?_) (fun c1966 => ?_)
        · skip
          refine mx_goto (tgt := 1974) dL_law_1971 (by decide) ?_
          refine mx_leS (ls' := [some (.ref Sc.1), some (.ref a), some (.ref m), some (.ref o), some (.int (nI i)), none, none]) ⟨rfl, rfl, rfl, rfl, rfl, trivial⟩ ?_
          exact K _ _ _ (hw.go (hq1 hk0).1 hW2 hfr (zi_restore hz f0))
        · skip
          exact absurd (lgc_self _) c1966
    · skip
      exact absurd rfl c1949
  · obtain ⟨⟨w9, e9⟩, hW2⟩ := hn hk0
    subst e9
    refine mx_istoreE (i := 6) (ls' := [some (.ref Sc.1), some (.ref a), some (.ref m), some (.ref o), some (.int (nI i)), some (.int (nI (kD (fl_restore z s1)))), some (.int w9)]) (hd := dL_law_1941) (hn := (by decide : (6 : Nat) < 7)) (hok := rfl) (hls := rfl) ?_
    refine mx_aload_n (i := 2) (hi := rfl) (hl := rfl) (hd := dL_law_1943) ?_
    refine mx_callVp (ci := 10) (As := []) (rest := []) dL_law_1944 (mt_thrown G1 I2 m hW2.1) km_X10_thrown rfl k_1110 k_1111 k_1112 (by assumption) rfl rfl (Nat.le_of_ble_eq_true rfl) (by decide) ?_
    refine mx_top (y := nI (kD (fl_restore z s1))) (hr0) ?_
    refine mx_iload (i := 5) (hl := rfl) (hd := dL_law_1947) ?_
    refine mx_icmp_eq (tgt := 1954) dL_law_1949 (by decide) (fun c1949 => ?_) (fun c1949 => ?_)
    · skip
      refine mx_iload (i := 5) (hl := rfl) (hd := dL_law_1954) ?_
      refine mx_if_ne (tgt := 1971) dL_law_1956 (by decide) (fun c1956 => ?_) (fun c1956 => ?_)
      · skip
        
        refine mx_goto (tgt := 1974) dL_law_1971 (by decide) ?_
        refine mx_leS (ls' := [some (.ref Sc.1), some (.ref a), some (.ref m), some (.ref o), some (.int (nI i)), none, none]) ⟨rfl, rfl, rfl, rfl, rfl, trivial⟩ ?_
        exact K _ _ _ (hw.go (hq2 hk0) hW2 hfr hz)
      · skip
        exact absurd ((nI_eq (mb_restore z s1) (by decide)).mp c1956) hk0
    · skip
      exact absurd rfl c1949
