theorem mb_cost (z : Zs) (p : Int32) (q : Int32) : fl_two z p q < 2 ^ 31 := by
  have h1 := rg_cost z p q
  first | omega | (rcases h1 with e | e | e <;> (rw [e]; decide))
set_option maxHeartbeats 400000 in
set_option maxRecDepth 100000 in
theorem lc_cost (hh : List (Nat × Nat × Nat × Nat)) (Sc : mx_Sc) (hS : mx_hS Sc) (bc bs : Nat) (G : mx_G) (I : mx_I) (a m o : Nat) (z : Zs) (i : Nat) (hi : i + 5 ≤ Sc.2.1) (hL : Sc.2.1 ≤ 2560) (hw : LW G I a m o z) (Q : Option Value → mx_G → mx_I → Prop) (X : String → mx_G → mx_I → Prop) (K : ∀ G' I' z', LW G' I' a m o z' → mx_V (mL_law hh) Sc 10 bc bs 1974 [some (.ref Sc.1), some (.ref a), some (.ref m), some (.ref o), some (.int (nI i)), none, none] [] G' I' Q X) : mx_V (mL_law hh) Sc 10 (bc + 10) (bs + 110) 1118 [some (.ref Sc.1), some (.ref a), some (.ref m), some (.ref o), some (.int (nI i)), none, none] [] G I Q X := by
  refine mx_wk (bc' := bc + 1) (bs' := bs + 6) (by omega) (by omega) ?_
  obtain ⟨hW, hM, hz, ham, to, lo⟩ := id hw
  have tg9 : mx_tg G a = 19 := hW.1.1.1
  have tgm : mx_tg G m = 20 := hM.1.1
  obtain ⟨s1, es1⟩ : ∃ s1, Sc.2.2 (i + 1) = s1 := ⟨_, rfl⟩
  obtain ⟨s2, es2⟩ : ∃ s2, Sc.2.2 (i + 2) = s2 := ⟨_, rfl⟩
  obtain ⟨s3, es3⟩ : ∃ s3, Sc.2.2 (i + 3) = s3 := ⟨_, rfl⟩
  obtain ⟨s4, es4⟩ : ∃ s4, Sc.2.2 (i + 4) = s4 := ⟨_, rfl⟩
  refine mx_aload_n (i := 1) (hi := rfl) (hl := rfl) (hd := dL_law_1118) ?_
  refine mx_aload_n (i := 0) (hi := rfl) (hl := rfl) (hd := dL_law_1119) ?_
  refine mx_iload (i := 4) (hl := rfl) (hd := dL_law_1120) ?_
  refine mx_iconstN 1 dL_law_1122 (by decide) ?_
  refine mx_iaddN dL_law_1123 ?_
  refine mx_scld (i + 1) hS dL_law_1124 ⟨rfl, by omega, by omega⟩ ?_
  refine mx_top (y := s1) es1 ?_
  refine mx_aload_n (i := 0) (hi := rfl) (hl := rfl) (hd := dL_law_1125) ?_
  refine mx_iload (i := 4) (hl := rfl) (hd := dL_law_1126) ?_
  refine mx_iconstN 2 dL_law_1128 (by decide) ?_
  refine mx_iaddN dL_law_1129 ?_
  refine mx_scld (i + 2) hS dL_law_1130 ⟨rfl, by omega, by omega⟩ ?_
  refine mx_top (y := s2) es2 ?_
  refine mx_aload_n (i := 3) (hi := rfl) (hl := rfl) (hd := dL_law_1131) ?_
  refine mx_callSW (As := [.ref a, .int s1, .int s2, .ref o]) (rest := []) (b1 := 1) (b2 := 6) dL_law_1132 (lw_cost G I a o z hW to lo s1 s2) km_L_cost rfl k_792 k_793 rfl rfl (Nat.le_of_ble_eq_true rfl) (by decide) (fun _ _ _ q => q.elim) (fun r1 G1 I1 h2 => ?_)
  have hM1 : mW G1 I1 m z := lwQ.m h2 hw
  obtain ⟨to1, lo1⟩ := lwQ.t h2 to lo
  obtain ⟨e9, hq1, hq2⟩ := h2
  subst e9
  have tgm1 : mx_tg G1 m = 20 := hM1.1.1
  refine mx_istoreE (i := 5) (ls' := [some (.ref Sc.1), some (.ref a), some (.ref m), some (.ref o), some (.int (nI i)), some (.int (nI (fl_two z s1 s2))), none]) (hd := dL_law_1135) (hn := (by decide : (5 : Nat) < 7)) (hok := rfl) (hls := rfl) ?_
  refine mx_aload_n (i := 2) (hi := rfl) (hl := rfl) (hd := dL_law_1137) ?_
  refine mx_aload_n (i := 0) (hi := rfl) (hl := rfl) (hd := dL_law_1138) ?_
  refine mx_iload (i := 4) (hl := rfl) (hd := dL_law_1139) ?_
  refine mx_iconstN 1 dL_law_1141 (by decide) ?_
  refine mx_iaddN dL_law_1142 ?_
  refine mx_scld (i + 1) hS dL_law_1143 ⟨rfl, by omega, by omega⟩ ?_
  refine mx_top (y := s1) es1 ?_
  refine mx_aload_n (i := 0) (hi := rfl) (hl := rfl) (hd := dL_law_1144) ?_
  refine mx_iload (i := 4) (hl := rfl) (hd := dL_law_1145) ?_
  refine mx_iconstN 2 dL_law_1147 (by decide) ?_
  refine mx_iaddN dL_law_1148 ?_
  refine mx_scld (i + 2) hS dL_law_1149 ⟨rfl, by omega, by omega⟩ ?_
  refine mx_top (y := s2) es2 ?_
  refine mx_callVi (ci := 10) (As := [.int s1, .int s2]) (rest := []) dL_law_1150 (mt_cost G1 I1 m z hM1 s1 s2) km_X10_cost rfl k_1314 k_1315 k_1316 (by assumption) rfl rfl (Nat.le_of_ble_eq_true rfl) (by decide) (fun r3 I2 h4 => ?_)
  obtain ⟨hr0, hfr, hy, hn⟩ := h4
  by_cases hk0 : fl_two z s1 s2 = 0
  · obtain ⟨e9, hW2⟩ := hy hk0
    have hv := vG_of hW hz
    rw [show oI (am_cost z s1.toInt.toNat s2.toInt.toNat) = oI (an_cost z s1.toInt.toNat s2.toInt.toNat) from (congrArg oI (eq_cost hv (tn_lt (fl_two_0 hk0).1) (tn_lt (fl_two_0 hk0).2))).symm] at e9
    subst e9
    have f0 : fl_two z s1 s2 = 0 := mz_cost z s1 s2 hk0
    refine mx_istoreE (i := 6) (ls' := [some (.ref Sc.1), some (.ref a), some (.ref m), some (.ref o), some (.int (nI i)), some (.int (nI (fl_two z s1 s2))), some (.int (oI (an_cost z s1.toInt.toNat s2.toInt.toNat)))]) (hd := dL_law_1153) (hn := (by decide : (6 : Nat) < 7)) (hok := rfl) (hls := rfl) ?_
    refine mx_aload_n (i := 2) (hi := rfl) (hl := rfl) (hd := dL_law_1155) ?_
    refine mx_callVp (ci := 10) (As := []) (rest := []) dL_law_1156 (mt_thrown G1 I2 m hW2.1) km_X10_thrown rfl k_1110 k_1111 k_1112 (by assumption) rfl rfl (Nat.le_of_ble_eq_true rfl) (by decide) ?_
    refine mx_top (y := nI (fl_two z s1 s2)) (hr0) ?_
    refine mx_iload (i := 5) (hl := rfl) (hd := dL_law_1159) ?_
    refine mx_icmp_eq (tgt := 1166) dL_law_1161 (by decide) (fun c1161 => ?_) (fun c1161 => ?_)
    · skip
      refine mx_iload (i := 5) (hl := rfl) (hd := dL_law_1166) ?_
      refine mx_if_ne (tgt := 1183) dL_law_1168 (by decide) (fun c1168 => ?_) (fun c1168 => ?_)
      · skip
        exact absurd (show nI (fl_two z s1 s2) = 0 by rw [hk0]; rfl) c1168
      · skip
        
        refine mx_aload_n (i := 3) (hi := rfl) (hl := rfl) (hd := dL_law_1171) ?_
        refine mx_iconstN 0 dL_law_1172 (by decide) ?_
        refine mx_lald 0 dL_law_1173 (by assumption) ⟨rfl, by omega, by omega⟩ ?_
        refine mx_topl (y := (oI (an_cost z s1.toInt.toNat s2.toInt.toNat)).toInt64) ((hq1 hk0).2) ?_
        refine mx_iload (i := 6) (hl := rfl) (hd := dL_law_1174) ?_
        refine mx_i2l (hv := rfl) (hd := dL_law_1176) ?_
        refine mx_lcmp dL_law_1177 ?_
        refine mx_if_eq (tgt := 1183) dL_law_1178 (by decide) (fun c1178 => ?_) (fun c1178 => ?_)
        · skip
          refine mx_goto (tgt := 1974) dL_law_1183 (by decide) ?_
          refine mx_leS (ls' := [some (.ref Sc.1), some (.ref a), some (.ref m), some (.ref o), some (.int (nI i)), none, none]) ⟨rfl, rfl, rfl, rfl, rfl, trivial⟩ ?_
          exact K _ _ _ (hw.go (hq1 hk0).1 hW2 hfr (hz))
        · skip
          exact absurd (lgc_self _) c1178
    · skip
      exact absurd rfl c1161
  · obtain ⟨⟨w9, e9⟩, hW2⟩ := hn hk0
    subst e9
    refine mx_istoreE (i := 6) (ls' := [some (.ref Sc.1), some (.ref a), some (.ref m), some (.ref o), some (.int (nI i)), some (.int (nI (fl_two z s1 s2))), some (.int w9)]) (hd := dL_law_1153) (hn := (by decide : (6 : Nat) < 7)) (hok := rfl) (hls := rfl) ?_
    refine mx_aload_n (i := 2) (hi := rfl) (hl := rfl) (hd := dL_law_1155) ?_
    refine mx_callVp (ci := 10) (As := []) (rest := []) dL_law_1156 (mt_thrown G1 I2 m hW2.1) km_X10_thrown rfl k_1110 k_1111 k_1112 (by assumption) rfl rfl (Nat.le_of_ble_eq_true rfl) (by decide) ?_
    refine mx_top (y := nI (fl_two z s1 s2)) (hr0) ?_
    refine mx_iload (i := 5) (hl := rfl) (hd := dL_law_1159) ?_
    refine mx_icmp_eq (tgt := 1166) dL_law_1161 (by decide) (fun c1161 => ?_) (fun c1161 => ?_)
    · skip
      refine mx_iload (i := 5) (hl := rfl) (hd := dL_law_1166) ?_
      refine mx_if_ne (tgt := 1183) dL_law_1168 (by decide) (fun c1168 => ?_) (fun c1168 => ?_)
      · skip
        
        refine mx_goto (tgt := 1974) dL_law_1183 (by decide) ?_
        refine mx_leS (ls' := [some (.ref Sc.1), some (.ref a), some (.ref m), some (.ref o), some (.int (nI i)), none, none]) ⟨rfl, rfl, rfl, rfl, rfl, trivial⟩ ?_
        exact K _ _ _ (hw.go (hq2 hk0) hW2 hfr hz)
      · skip
        exact absurd ((nI_eq (mb_cost z s1 s2) (by decide)).mp c1168) hk0
    · skip
      exact absurd rfl c1161

theorem mb_length (z : Zs) (p : Int32) (q : Int32) : fl_two z p q < 2 ^ 31 := by
  have h1 := rg_length z p q
  first | omega | (rcases h1 with e | e | e <;> (rw [e]; decide))
set_option maxHeartbeats 400000 in
set_option maxRecDepth 100000 in
theorem lc_length (hh : List (Nat × Nat × Nat × Nat)) (Sc : mx_Sc) (hS : mx_hS Sc) (bc bs : Nat) (G : mx_G) (I : mx_I) (a m o : Nat) (z : Zs) (i : Nat) (hi : i + 5 ≤ Sc.2.1) (hL : Sc.2.1 ≤ 2560) (hw : LW G I a m o z) (Q : Option Value → mx_G → mx_I → Prop) (X : String → mx_G → mx_I → Prop) (K : ∀ G' I' z', LW G' I' a m o z' → mx_V (mL_law hh) Sc 10 bc bs 1974 [some (.ref Sc.1), some (.ref a), some (.ref m), some (.ref o), some (.int (nI i)), none, none] [] G' I' Q X) : mx_V (mL_law hh) Sc 10 (bc + 10) (bs + 110) 1186 [some (.ref Sc.1), some (.ref a), some (.ref m), some (.ref o), some (.int (nI i)), none, none] [] G I Q X := by
  refine mx_wk (bc' := bc + 1) (bs' := bs + 6) (by omega) (by omega) ?_
  obtain ⟨hW, hM, hz, ham, to, lo⟩ := id hw
  have tg9 : mx_tg G a = 19 := hW.1.1.1
  have tgm : mx_tg G m = 20 := hM.1.1
  obtain ⟨s1, es1⟩ : ∃ s1, Sc.2.2 (i + 1) = s1 := ⟨_, rfl⟩
  obtain ⟨s2, es2⟩ : ∃ s2, Sc.2.2 (i + 2) = s2 := ⟨_, rfl⟩
  obtain ⟨s3, es3⟩ : ∃ s3, Sc.2.2 (i + 3) = s3 := ⟨_, rfl⟩
  obtain ⟨s4, es4⟩ : ∃ s4, Sc.2.2 (i + 4) = s4 := ⟨_, rfl⟩
  refine mx_aload_n (i := 1) (hi := rfl) (hl := rfl) (hd := dL_law_1186) ?_
  refine mx_aload_n (i := 0) (hi := rfl) (hl := rfl) (hd := dL_law_1187) ?_
  refine mx_iload (i := 4) (hl := rfl) (hd := dL_law_1188) ?_
  refine mx_iconstN 1 dL_law_1190 (by decide) ?_
  refine mx_iaddN dL_law_1191 ?_
  refine mx_scld (i + 1) hS dL_law_1192 ⟨rfl, by omega, by omega⟩ ?_
  refine mx_top (y := s1) es1 ?_
  refine mx_aload_n (i := 0) (hi := rfl) (hl := rfl) (hd := dL_law_1193) ?_
  refine mx_iload (i := 4) (hl := rfl) (hd := dL_law_1194) ?_
  refine mx_iconstN 2 dL_law_1196 (by decide) ?_
  refine mx_iaddN dL_law_1197 ?_
  refine mx_scld (i + 2) hS dL_law_1198 ⟨rfl, by omega, by omega⟩ ?_
  refine mx_top (y := s2) es2 ?_
  refine mx_aload_n (i := 3) (hi := rfl) (hl := rfl) (hd := dL_law_1199) ?_
  refine mx_callSW (As := [.ref a, .int s1, .int s2, .ref o]) (rest := []) (b1 := 1) (b2 := 6) dL_law_1200 (lw_length G I a o z hW to lo s1 s2) km_L_length rfl k_803 k_804 rfl rfl (Nat.le_of_ble_eq_true rfl) (by decide) (fun _ _ _ q => q.elim) (fun r1 G1 I1 h2 => ?_)
  have hM1 : mW G1 I1 m z := lwQ.m h2 hw
  obtain ⟨to1, lo1⟩ := lwQ.t h2 to lo
  obtain ⟨e9, hq1, hq2⟩ := h2
  subst e9
  have tgm1 : mx_tg G1 m = 20 := hM1.1.1
  refine mx_istoreE (i := 5) (ls' := [some (.ref Sc.1), some (.ref a), some (.ref m), some (.ref o), some (.int (nI i)), some (.int (nI (fl_two z s1 s2))), none]) (hd := dL_law_1203) (hn := (by decide : (5 : Nat) < 7)) (hok := rfl) (hls := rfl) ?_
  refine mx_aload_n (i := 2) (hi := rfl) (hl := rfl) (hd := dL_law_1205) ?_
  refine mx_aload_n (i := 0) (hi := rfl) (hl := rfl) (hd := dL_law_1206) ?_
  refine mx_iload (i := 4) (hl := rfl) (hd := dL_law_1207) ?_
  refine mx_iconstN 1 dL_law_1209 (by decide) ?_
  refine mx_iaddN dL_law_1210 ?_
  refine mx_scld (i + 1) hS dL_law_1211 ⟨rfl, by omega, by omega⟩ ?_
  refine mx_top (y := s1) es1 ?_
  refine mx_aload_n (i := 0) (hi := rfl) (hl := rfl) (hd := dL_law_1212) ?_
  refine mx_iload (i := 4) (hl := rfl) (hd := dL_law_1213) ?_
  refine mx_iconstN 2 dL_law_1215 (by decide) ?_
  refine mx_iaddN dL_law_1216 ?_
  refine mx_scld (i + 2) hS dL_law_1217 ⟨rfl, by omega, by omega⟩ ?_
  refine mx_top (y := s2) es2 ?_
  refine mx_callVi (ci := 10) (As := [.int s1, .int s2]) (rest := []) dL_law_1218 (mt_length G1 I1 m z hM1 s1 s2) km_X10_length rfl k_1326 k_1327 k_1328 (by assumption) rfl rfl (Nat.le_of_ble_eq_true rfl) (by decide) (fun r3 I2 h4 => ?_)
  obtain ⟨hr0, hfr, hy, hn⟩ := h4
  by_cases hk0 : fl_two z s1 s2 = 0
  · obtain ⟨e9, hW2⟩ := hy hk0
    have hv := vG_of hW hz
    rw [show oI (am_length z s1.toInt.toNat s2.toInt.toNat) = oI (an_length z s1.toInt.toNat s2.toInt.toNat) from (congrArg oI (eq_length hv (tn_lt (fl_two_0 hk0).1) (tn_lt (fl_two_0 hk0).2))).symm] at e9
    subst e9
    have f0 : fl_two z s1 s2 = 0 := mz_length z s1 s2 hk0
    refine mx_istoreE (i := 6) (ls' := [some (.ref Sc.1), some (.ref a), some (.ref m), some (.ref o), some (.int (nI i)), some (.int (nI (fl_two z s1 s2))), some (.int (oI (an_length z s1.toInt.toNat s2.toInt.toNat)))]) (hd := dL_law_1221) (hn := (by decide : (6 : Nat) < 7)) (hok := rfl) (hls := rfl) ?_
    refine mx_aload_n (i := 2) (hi := rfl) (hl := rfl) (hd := dL_law_1223) ?_
    refine mx_callVp (ci := 10) (As := []) (rest := []) dL_law_1224 (mt_thrown G1 I2 m hW2.1) km_X10_thrown rfl k_1110 k_1111 k_1112 (by assumption) rfl rfl (Nat.le_of_ble_eq_true rfl) (by decide) ?_
    refine mx_top (y := nI (fl_two z s1 s2)) (hr0) ?_
    refine mx_iload (i := 5) (hl := rfl) (hd := dL_law_1227) ?_
    refine mx_icmp_eq (tgt := 1234) dL_law_1229 (by decide) (fun c1229 => ?_) (fun c1229 => ?_)
    · skip
      refine mx_iload (i := 5) (hl := rfl) (hd := dL_law_1234) ?_
      refine mx_if_ne (tgt := 1251) dL_law_1236 (by decide) (fun c1236 => ?_) (fun c1236 => ?_)
      · skip
        exact absurd (show nI (fl_two z s1 s2) = 0 by rw [hk0]; rfl) c1236
      · skip
        
        refine mx_aload_n (i := 3) (hi := rfl) (hl := rfl) (hd := dL_law_1239) ?_
        refine mx_iconstN 0 dL_law_1240 (by decide) ?_
        refine mx_lald 0 dL_law_1241 (by assumption) ⟨rfl, by omega, by omega⟩ ?_
        refine mx_topl (y := (oI (an_length z s1.toInt.toNat s2.toInt.toNat)).toInt64) ((hq1 hk0).2) ?_
        refine mx_iload (i := 6) (hl := rfl) (hd := dL_law_1242) ?_
        refine mx_i2l (hv := rfl) (hd := dL_law_1244) ?_
        refine mx_lcmp dL_law_1245 ?_
        refine mx_if_eq (tgt := 1251) dL_law_1246 (by decide) (fun c1246 => ?_) (fun c1246 => ?_)
        · skip
          refine mx_goto (tgt := 1974) dL_law_1251 (by decide) ?_
          refine mx_leS (ls' := [some (.ref Sc.1), some (.ref a), some (.ref m), some (.ref o), some (.int (nI i)), none, none]) ⟨rfl, rfl, rfl, rfl, rfl, trivial⟩ ?_
          exact K _ _ _ (hw.go (hq1 hk0).1 hW2 hfr (hz))
        · skip
          exact absurd (lgc_self _) c1246
    · skip
      exact absurd rfl c1229
  · obtain ⟨⟨w9, e9⟩, hW2⟩ := hn hk0
    subst e9
    refine mx_istoreE (i := 6) (ls' := [some (.ref Sc.1), some (.ref a), some (.ref m), some (.ref o), some (.int (nI i)), some (.int (nI (fl_two z s1 s2))), some (.int w9)]) (hd := dL_law_1221) (hn := (by decide : (6 : Nat) < 7)) (hok := rfl) (hls := rfl) ?_
    refine mx_aload_n (i := 2) (hi := rfl) (hl := rfl) (hd := dL_law_1223) ?_
    refine mx_callVp (ci := 10) (As := []) (rest := []) dL_law_1224 (mt_thrown G1 I2 m hW2.1) km_X10_thrown rfl k_1110 k_1111 k_1112 (by assumption) rfl rfl (Nat.le_of_ble_eq_true rfl) (by decide) ?_
    refine mx_top (y := nI (fl_two z s1 s2)) (hr0) ?_
    refine mx_iload (i := 5) (hl := rfl) (hd := dL_law_1227) ?_
    refine mx_icmp_eq (tgt := 1234) dL_law_1229 (by decide) (fun c1229 => ?_) (fun c1229 => ?_)
    · skip
      refine mx_iload (i := 5) (hl := rfl) (hd := dL_law_1234) ?_
      refine mx_if_ne (tgt := 1251) dL_law_1236 (by decide) (fun c1236 => ?_) (fun c1236 => ?_)
      · skip
        
        refine mx_goto (tgt := 1974) dL_law_1251 (by decide) ?_
        refine mx_leS (ls' := [some (.ref Sc.1), some (.ref a), some (.ref m), some (.ref o), some (.int (nI i)), none, none]) ⟨rfl, rfl, rfl, rfl, rfl, trivial⟩ ?_
        exact K _ _ _ (hw.go (hq2 hk0) hW2 hfr hz)
      · skip
        exact absurd ((nI_eq (mb_length z s1 s2) (by decide)).mp c1236) hk0
    · skip
      exact absurd rfl c1229

theorem mb_pathAt (z : Zs) (p : Int32) (q : Int32) (j : Int32) : fl_pathAt z p q j < 2 ^ 31 := by
  have h1 := rg_pathAt z p q j
  first | omega | (rcases h1 with e | e | e <;> (rw [e]; decide))
set_option maxHeartbeats 400000 in
set_option maxRecDepth 100000 in
theorem lc_pathAt (hh : List (Nat × Nat × Nat × Nat)) (Sc : mx_Sc) (hS : mx_hS Sc) (bc bs : Nat) (G : mx_G) (I : mx_I) (a m o : Nat) (z : Zs) (i : Nat) (hi : i + 5 ≤ Sc.2.1) (hL : Sc.2.1 ≤ 2560) (hw : LW G I a m o z) (Q : Option Value → mx_G → mx_I → Prop) (X : String → mx_G → mx_I → Prop) (K : ∀ G' I' z', LW G' I' a m o z' → mx_V (mL_law hh) Sc 10 bc bs 1974 [some (.ref Sc.1), some (.ref a), some (.ref m), some (.ref o), some (.int (nI i)), none, none] [] G' I' Q X) : mx_V (mL_law hh) Sc 10 (bc + 10) (bs + 110) 1254 [some (.ref Sc.1), some (.ref a), some (.ref m), some (.ref o), some (.int (nI i)), none, none] [] G I Q X := by
  refine mx_wk (bc' := bc + 2) (bs' := bs + 12) (by omega) (by omega) ?_
  obtain ⟨hW, hM, hz, ham, to, lo⟩ := id hw
  have tg9 : mx_tg G a = 19 := hW.1.1.1
  have tgm : mx_tg G m = 20 := hM.1.1
  obtain ⟨s1, es1⟩ : ∃ s1, Sc.2.2 (i + 1) = s1 := ⟨_, rfl⟩
  obtain ⟨s2, es2⟩ : ∃ s2, Sc.2.2 (i + 2) = s2 := ⟨_, rfl⟩
  obtain ⟨s3, es3⟩ : ∃ s3, Sc.2.2 (i + 3) = s3 := ⟨_, rfl⟩
  obtain ⟨s4, es4⟩ : ∃ s4, Sc.2.2 (i + 4) = s4 := ⟨_, rfl⟩
  refine mx_aload_n (i := 1) (hi := rfl) (hl := rfl) (hd := dL_law_1254) ?_
  refine mx_aload_n (i := 0) (hi := rfl) (hl := rfl) (hd := dL_law_1255) ?_
  refine mx_iload (i := 4) (hl := rfl) (hd := dL_law_1256) ?_
  refine mx_iconstN 1 dL_law_1258 (by decide) ?_
  refine mx_iaddN dL_law_1259 ?_
  refine mx_scld (i + 1) hS dL_law_1260 ⟨rfl, by omega, by omega⟩ ?_
  refine mx_top (y := s1) es1 ?_
  refine mx_aload_n (i := 0) (hi := rfl) (hl := rfl) (hd := dL_law_1261) ?_
  refine mx_iload (i := 4) (hl := rfl) (hd := dL_law_1262) ?_
  refine mx_iconstN 2 dL_law_1264 (by decide) ?_
  refine mx_iaddN dL_law_1265 ?_
  refine mx_scld (i + 2) hS dL_law_1266 ⟨rfl, by omega, by omega⟩ ?_
  refine mx_top (y := s2) es2 ?_
  refine mx_aload_n (i := 0) (hi := rfl) (hl := rfl) (hd := dL_law_1267) ?_
  refine mx_iload (i := 4) (hl := rfl) (hd := dL_law_1268) ?_
  refine mx_iconstN 3 dL_law_1270 (by decide) ?_
  refine mx_iaddN dL_law_1271 ?_
  refine mx_scld (i + 3) hS dL_law_1272 ⟨rfl, by omega, by omega⟩ ?_
  refine mx_top (y := s3) es3 ?_
  refine mx_aload_n (i := 3) (hi := rfl) (hl := rfl) (hd := dL_law_1273) ?_
  refine mx_callSW (As := [.ref a, .int s1, .int s2, .int s3, .ref o]) (rest := []) (b1 := 2) (b2 := 12) dL_law_1274 (lw_pathAt G I a o z hW to lo s1 s2 s3) km_L_pathAt rfl k_839 k_840 rfl rfl (Nat.le_of_ble_eq_true rfl) (by decide) (fun _ _ _ q => q.elim) (fun r1 G1 I1 h2 => ?_)
  have hM1 : mW G1 I1 m z := lwQ.m h2 hw
  obtain ⟨to1, lo1⟩ := lwQ.t h2 to lo
  obtain ⟨e9, hq1, hq2⟩ := h2
  subst e9
  have tgm1 : mx_tg G1 m = 20 := hM1.1.1
  refine mx_istoreE (i := 5) (ls' := [some (.ref Sc.1), some (.ref a), some (.ref m), some (.ref o), some (.int (nI i)), some (.int (nI (fl_pathAt z s1 s2 s3))), none]) (hd := dL_law_1277) (hn := (by decide : (5 : Nat) < 7)) (hok := rfl) (hls := rfl) ?_
  refine mx_aload_n (i := 2) (hi := rfl) (hl := rfl) (hd := dL_law_1279) ?_
  refine mx_aload_n (i := 0) (hi := rfl) (hl := rfl) (hd := dL_law_1280) ?_
  refine mx_iload (i := 4) (hl := rfl) (hd := dL_law_1281) ?_
  refine mx_iconstN 1 dL_law_1283 (by decide) ?_
  refine mx_iaddN dL_law_1284 ?_
  refine mx_scld (i + 1) hS dL_law_1285 ⟨rfl, by omega, by omega⟩ ?_
  refine mx_top (y := s1) es1 ?_
  refine mx_aload_n (i := 0) (hi := rfl) (hl := rfl) (hd := dL_law_1286) ?_
  refine mx_iload (i := 4) (hl := rfl) (hd := dL_law_1287) ?_
  refine mx_iconstN 2 dL_law_1289 (by decide) ?_
  refine mx_iaddN dL_law_1290 ?_
  refine mx_scld (i + 2) hS dL_law_1291 ⟨rfl, by omega, by omega⟩ ?_
  refine mx_top (y := s2) es2 ?_
  refine mx_aload_n (i := 0) (hi := rfl) (hl := rfl) (hd := dL_law_1292) ?_
  refine mx_iload (i := 4) (hl := rfl) (hd := dL_law_1293) ?_
  refine mx_iconstN 3 dL_law_1295 (by decide) ?_
  refine mx_iaddN dL_law_1296 ?_
  refine mx_scld (i + 3) hS dL_law_1297 ⟨rfl, by omega, by omega⟩ ?_
  refine mx_top (y := s3) es3 ?_
  refine mx_callVi (ci := 10) (As := [.int s1, .int s2, .int s3]) (rest := []) dL_law_1298 (mt_pathAt G1 I1 m z hM1 s1 s2 s3) km_X10_pathAt rfl k_1330 k_1331 k_1332 (by assumption) rfl rfl (Nat.le_of_ble_eq_true rfl) (by decide) (fun r3 I2 h4 => ?_)
  obtain ⟨hr0, hfr, hy, hn⟩ := h4
  by_cases hk0 : fl_pathAt z s1 s2 s3 = 0
  · obtain ⟨e9, hW2⟩ := hy hk0
    have hv := vG_of hW hz
    rw [show oI (am_pathAt z s1.toInt.toNat s2.toInt.toNat s3.toInt.toNat) = oI (an_pathAt z s1.toInt.toNat s2.toInt.toNat s3.toInt.toNat) from (congrArg oI (eq_pathAt hv (tn_lt (fl_pathAt_0 hk0).1.1) (tn_lt (fl_pathAt_0 hk0).1.2))).symm] at e9
    subst e9
    have f0 : fl_pathAt z s1 s2 s3 = 0 := mz_pathAt z s1 s2 s3 hk0
    refine mx_istoreE (i := 6) (ls' := [some (.ref Sc.1), some (.ref a), some (.ref m), some (.ref o), some (.int (nI i)), some (.int (nI (fl_pathAt z s1 s2 s3))), some (.int (oI (an_pathAt z s1.toInt.toNat s2.toInt.toNat s3.toInt.toNat)))]) (hd := dL_law_1301) (hn := (by decide : (6 : Nat) < 7)) (hok := rfl) (hls := rfl) ?_
    refine mx_aload_n (i := 2) (hi := rfl) (hl := rfl) (hd := dL_law_1303) ?_
    refine mx_callVp (ci := 10) (As := []) (rest := []) dL_law_1304 (mt_thrown G1 I2 m hW2.1) km_X10_thrown rfl k_1110 k_1111 k_1112 (by assumption) rfl rfl (Nat.le_of_ble_eq_true rfl) (by decide) ?_
    refine mx_top (y := nI (fl_pathAt z s1 s2 s3)) (hr0) ?_
    refine mx_iload (i := 5) (hl := rfl) (hd := dL_law_1307) ?_
    refine mx_icmp_eq (tgt := 1314) dL_law_1309 (by decide) (fun c1309 => ?_) (fun c1309 => ?_)
    · skip
      refine mx_iload (i := 5) (hl := rfl) (hd := dL_law_1314) ?_
      refine mx_if_ne (tgt := 1331) dL_law_1316 (by decide) (fun c1316 => ?_) (fun c1316 => ?_)
      · skip
        exact absurd (show nI (fl_pathAt z s1 s2 s3) = 0 by rw [hk0]; rfl) c1316
      · skip
        
        refine mx_aload_n (i := 3) (hi := rfl) (hl := rfl) (hd := dL_law_1319) ?_
        refine mx_iconstN 0 dL_law_1320 (by decide) ?_
        refine mx_lald 0 dL_law_1321 (by assumption) ⟨rfl, by omega, by omega⟩ ?_
        refine mx_topl (y := (oI (an_pathAt z s1.toInt.toNat s2.toInt.toNat s3.toInt.toNat)).toInt64) ((hq1 hk0).2) ?_
        refine mx_iload (i := 6) (hl := rfl) (hd := dL_law_1322) ?_
        refine mx_i2l (hv := rfl) (hd := dL_law_1324) ?_
        refine mx_lcmp dL_law_1325 ?_
        refine mx_if_eq (tgt := 1331) dL_law_1326 (by decide) (fun c1326 => ?_) (fun c1326 => ?_)
        · skip
          refine mx_goto (tgt := 1974) dL_law_1331 (by decide) ?_
          refine mx_leS (ls' := [some (.ref Sc.1), some (.ref a), some (.ref m), some (.ref o), some (.int (nI i)), none, none]) ⟨rfl, rfl, rfl, rfl, rfl, trivial⟩ ?_
          exact K _ _ _ (hw.go (hq1 hk0).1 hW2 hfr (hz))
        · skip
          exact absurd (lgc_self _) c1326
    · skip
      exact absurd rfl c1309
  · obtain ⟨⟨w9, e9⟩, hW2⟩ := hn hk0
    subst e9
    refine mx_istoreE (i := 6) (ls' := [some (.ref Sc.1), some (.ref a), some (.ref m), some (.ref o), some (.int (nI i)), some (.int (nI (fl_pathAt z s1 s2 s3))), some (.int w9)]) (hd := dL_law_1301) (hn := (by decide : (6 : Nat) < 7)) (hok := rfl) (hls := rfl) ?_
    refine mx_aload_n (i := 2) (hi := rfl) (hl := rfl) (hd := dL_law_1303) ?_
    refine mx_callVp (ci := 10) (As := []) (rest := []) dL_law_1304 (mt_thrown G1 I2 m hW2.1) km_X10_thrown rfl k_1110 k_1111 k_1112 (by assumption) rfl rfl (Nat.le_of_ble_eq_true rfl) (by decide) ?_
    refine mx_top (y := nI (fl_pathAt z s1 s2 s3)) (hr0) ?_
    refine mx_iload (i := 5) (hl := rfl) (hd := dL_law_1307) ?_
    refine mx_icmp_eq (tgt := 1314) dL_law_1309 (by decide) (fun c1309 => ?_) (fun c1309 => ?_)
    · skip
      refine mx_iload (i := 5) (hl := rfl) (hd := dL_law_1314) ?_
      refine mx_if_ne (tgt := 1331) dL_law_1316 (by decide) (fun c1316 => ?_) (fun c1316 => ?_)
      · skip
        
        refine mx_goto (tgt := 1974) dL_law_1331 (by decide) ?_
        refine mx_leS (ls' := [some (.ref Sc.1), some (.ref a), some (.ref m), some (.ref o), some (.int (nI i)), none, none]) ⟨rfl, rfl, rfl, rfl, rfl, trivial⟩ ?_
        exact K _ _ _ (hw.go (hq2 hk0) hW2 hfr hz)
      · skip
        exact absurd ((nI_eq (mb_pathAt z s1 s2 s3) (by decide)).mp c1316) hk0
    · skip
      exact absurd rfl c1309

theorem mb_paths (z : Zs) (p : Int32) (q : Int32) (n : Int32) : fl_paths z p q n < 2 ^ 31 := by
  have h1 := rg_paths z p q n
  first | omega | (rcases h1 with e | e | e <;> (rw [e]; decide))
set_option maxHeartbeats 400000 in
set_option maxRecDepth 100000 in
theorem lc_paths (hh : List (Nat × Nat × Nat × Nat)) (Sc : mx_Sc) (hS : mx_hS Sc) (bc bs : Nat) (G : mx_G) (I : mx_I) (a m o : Nat) (z : Zs) (i : Nat) (hi : i + 5 ≤ Sc.2.1) (hL : Sc.2.1 ≤ 2560) (hw : LW G I a m o z) (Q : Option Value → mx_G → mx_I → Prop) (X : String → mx_G → mx_I → Prop) (K : ∀ G' I' z', LW G' I' a m o z' → mx_V (mL_law hh) Sc 10 bc bs 1974 [some (.ref Sc.1), some (.ref a), some (.ref m), some (.ref o), some (.int (nI i)), none, none] [] G' I' Q X) : mx_V (mL_law hh) Sc 10 (bc + 10) (bs + 110) 1334 [some (.ref Sc.1), some (.ref a), some (.ref m), some (.ref o), some (.int (nI i)), none, none] [] G I Q X := by
  refine mx_wk (bc' := bc + 2) (bs' := bs + 12) (by omega) (by omega) ?_
  obtain ⟨hW, hM, hz, ham, to, lo⟩ := id hw
  have tg9 : mx_tg G a = 19 := hW.1.1.1
  have tgm : mx_tg G m = 20 := hM.1.1
  obtain ⟨s1, es1⟩ : ∃ s1, Sc.2.2 (i + 1) = s1 := ⟨_, rfl⟩
  obtain ⟨s2, es2⟩ : ∃ s2, Sc.2.2 (i + 2) = s2 := ⟨_, rfl⟩
  obtain ⟨s3, es3⟩ : ∃ s3, Sc.2.2 (i + 3) = s3 := ⟨_, rfl⟩
  obtain ⟨s4, es4⟩ : ∃ s4, Sc.2.2 (i + 4) = s4 := ⟨_, rfl⟩
  refine mx_aload_n (i := 1) (hi := rfl) (hl := rfl) (hd := dL_law_1334) ?_
  refine mx_aload_n (i := 0) (hi := rfl) (hl := rfl) (hd := dL_law_1335) ?_
  refine mx_iload (i := 4) (hl := rfl) (hd := dL_law_1336) ?_
  refine mx_iconstN 1 dL_law_1338 (by decide) ?_
  refine mx_iaddN dL_law_1339 ?_
  refine mx_scld (i + 1) hS dL_law_1340 ⟨rfl, by omega, by omega⟩ ?_
  refine mx_top (y := s1) es1 ?_
  refine mx_aload_n (i := 0) (hi := rfl) (hl := rfl) (hd := dL_law_1341) ?_
  refine mx_iload (i := 4) (hl := rfl) (hd := dL_law_1342) ?_
  refine mx_iconstN 2 dL_law_1344 (by decide) ?_
  refine mx_iaddN dL_law_1345 ?_
  refine mx_scld (i + 2) hS dL_law_1346 ⟨rfl, by omega, by omega⟩ ?_
  refine mx_top (y := s2) es2 ?_
  refine mx_aload_n (i := 0) (hi := rfl) (hl := rfl) (hd := dL_law_1347) ?_
  refine mx_iload (i := 4) (hl := rfl) (hd := dL_law_1348) ?_
  refine mx_iconstN 3 dL_law_1350 (by decide) ?_
  refine mx_iaddN dL_law_1351 ?_
  refine mx_scld (i + 3) hS dL_law_1352 ⟨rfl, by omega, by omega⟩ ?_
  refine mx_top (y := s3) es3 ?_
  refine mx_aload_n (i := 3) (hi := rfl) (hl := rfl) (hd := dL_law_1353) ?_
  refine mx_callSW (As := [.ref a, .int s1, .int s2, .int s3, .ref o]) (rest := []) (b1 := 2) (b2 := 12) dL_law_1354 (lw_paths G I a o z hW to lo s1 s2 s3) km_L_paths rfl k_872 k_873 rfl rfl (Nat.le_of_ble_eq_true rfl) (by decide) (fun _ _ _ q => q.elim) (fun r1 G1 I1 h2 => ?_)
  have hM1 : mW G1 I1 m z := lwQ.m h2 hw
  obtain ⟨to1, lo1⟩ := lwQ.t h2 to lo
  obtain ⟨e9, hq1, hq2⟩ := h2
  subst e9
  have tgm1 : mx_tg G1 m = 20 := hM1.1.1
  refine mx_istoreE (i := 5) (ls' := [some (.ref Sc.1), some (.ref a), some (.ref m), some (.ref o), some (.int (nI i)), some (.int (nI (fl_paths z s1 s2 s3))), none]) (hd := dL_law_1357) (hn := (by decide : (5 : Nat) < 7)) (hok := rfl) (hls := rfl) ?_
  refine mx_aload_n (i := 2) (hi := rfl) (hl := rfl) (hd := dL_law_1359) ?_
  refine mx_aload_n (i := 0) (hi := rfl) (hl := rfl) (hd := dL_law_1360) ?_
  refine mx_iload (i := 4) (hl := rfl) (hd := dL_law_1361) ?_
  refine mx_iconstN 1 dL_law_1363 (by decide) ?_
  refine mx_iaddN dL_law_1364 ?_
  refine mx_scld (i + 1) hS dL_law_1365 ⟨rfl, by omega, by omega⟩ ?_
  refine mx_top (y := s1) es1 ?_
  refine mx_aload_n (i := 0) (hi := rfl) (hl := rfl) (hd := dL_law_1366) ?_
  refine mx_iload (i := 4) (hl := rfl) (hd := dL_law_1367) ?_
  refine mx_iconstN 2 dL_law_1369 (by decide) ?_
  refine mx_iaddN dL_law_1370 ?_
  refine mx_scld (i + 2) hS dL_law_1371 ⟨rfl, by omega, by omega⟩ ?_
  refine mx_top (y := s2) es2 ?_
  refine mx_aload_n (i := 0) (hi := rfl) (hl := rfl) (hd := dL_law_1372) ?_
  refine mx_iload (i := 4) (hl := rfl) (hd := dL_law_1373) ?_
  refine mx_iconstN 3 dL_law_1375 (by decide) ?_
  refine mx_iaddN dL_law_1376 ?_
  refine mx_scld (i + 3) hS dL_law_1377 ⟨rfl, by omega, by omega⟩ ?_
  refine mx_top (y := s3) es3 ?_
  refine mx_callVi (ci := 10) (As := [.int s1, .int s2, .int s3]) (rest := []) dL_law_1378 (mt_paths G1 I1 m z hM1 s1 s2 s3) km_X10_paths rfl k_1342 k_1343 k_1344 (by assumption) rfl rfl (Nat.le_of_ble_eq_true rfl) (by decide) (fun r3 I2 h4 => ?_)
  obtain ⟨hr0, hfr, hy, hn⟩ := h4
  by_cases hk0 : fl_paths z s1 s2 s3 = 0
  · obtain ⟨e9, hW2⟩ := hy hk0
    subst e9
    have f0 : fl_paths z s1 s2 s3 = 0 := mz_paths z s1 s2 s3 hk0
    refine mx_istoreE (i := 6) (ls' := [some (.ref Sc.1), some (.ref a), some (.ref m), some (.ref o), some (.int (nI i)), some (.int (nI (fl_paths z s1 s2 s3))), some (.int (nI (an_paths z s1.toInt.toNat s2.toInt.toNat s3.toInt.toNat)))]) (hd := dL_law_1381) (hn := (by decide : (6 : Nat) < 7)) (hok := rfl) (hls := rfl) ?_
    refine mx_aload_n (i := 2) (hi := rfl) (hl := rfl) (hd := dL_law_1383) ?_
    refine mx_callVp (ci := 10) (As := []) (rest := []) dL_law_1384 (mt_thrown G1 I2 m hW2.1) km_X10_thrown rfl k_1110 k_1111 k_1112 (by assumption) rfl rfl (Nat.le_of_ble_eq_true rfl) (by decide) ?_
    refine mx_top (y := nI (fl_paths z s1 s2 s3)) (hr0) ?_
    refine mx_iload (i := 5) (hl := rfl) (hd := dL_law_1387) ?_
    refine mx_icmp_eq (tgt := 1394) dL_law_1389 (by decide) (fun c1389 => ?_) (fun c1389 => ?_)
    · skip
      refine mx_iload (i := 5) (hl := rfl) (hd := dL_law_1394) ?_
      refine mx_if_ne (tgt := 1411) dL_law_1396 (by decide) (fun c1396 => ?_) (fun c1396 => ?_)
      · skip
        exact absurd (show nI (fl_paths z s1 s2 s3) = 0 by rw [hk0]; rfl) c1396
      · skip
        
        refine mx_aload_n (i := 3) (hi := rfl) (hl := rfl) (hd := dL_law_1399) ?_
        refine mx_iconstN 0 dL_law_1400 (by decide) ?_
        refine mx_lald 0 dL_law_1401 (by assumption) ⟨rfl, by omega, by omega⟩ ?_
        refine mx_topl (y := (nI (an_paths z s1.toInt.toNat s2.toInt.toNat s3.toInt.toNat)).toInt64) ((hq1 hk0).2) ?_
        refine mx_iload (i := 6) (hl := rfl) (hd := dL_law_1402) ?_
        refine mx_i2l (hv := rfl) (hd := dL_law_1404) ?_
        refine mx_lcmp dL_law_1405 ?_
        refine mx_if_eq (tgt := 1411) dL_law_1406 (by decide) (fun c1406 => ?_) (fun c1406 => ?_)
        · skip
          refine mx_goto (tgt := 1974) dL_law_1411 (by decide) ?_
          refine mx_leS (ls' := [some (.ref Sc.1), some (.ref a), some (.ref m), some (.ref o), some (.int (nI i)), none, none]) ⟨rfl, rfl, rfl, rfl, rfl, trivial⟩ ?_
          exact K _ _ _ (hw.go (hq1 hk0).1 hW2 hfr (hz))
        · skip
          exact absurd (lgc_self _) c1406
    · skip
      exact absurd rfl c1389
  · obtain ⟨⟨w9, e9⟩, hW2⟩ := hn hk0
    subst e9
    refine mx_istoreE (i := 6) (ls' := [some (.ref Sc.1), some (.ref a), some (.ref m), some (.ref o), some (.int (nI i)), some (.int (nI (fl_paths z s1 s2 s3))), some (.int w9)]) (hd := dL_law_1381) (hn := (by decide : (6 : Nat) < 7)) (hok := rfl) (hls := rfl) ?_
    refine mx_aload_n (i := 2) (hi := rfl) (hl := rfl) (hd := dL_law_1383) ?_
    refine mx_callVp (ci := 10) (As := []) (rest := []) dL_law_1384 (mt_thrown G1 I2 m hW2.1) km_X10_thrown rfl k_1110 k_1111 k_1112 (by assumption) rfl rfl (Nat.le_of_ble_eq_true rfl) (by decide) ?_
    refine mx_top (y := nI (fl_paths z s1 s2 s3)) (hr0) ?_
    refine mx_iload (i := 5) (hl := rfl) (hd := dL_law_1387) ?_
    refine mx_icmp_eq (tgt := 1394) dL_law_1389 (by decide) (fun c1389 => ?_) (fun c1389 => ?_)
    · skip
      refine mx_iload (i := 5) (hl := rfl) (hd := dL_law_1394) ?_
      refine mx_if_ne (tgt := 1411) dL_law_1396 (by decide) (fun c1396 => ?_) (fun c1396 => ?_)
      · skip
        
        refine mx_goto (tgt := 1974) dL_law_1411 (by decide) ?_
        refine mx_leS (ls' := [some (.ref Sc.1), some (.ref a), some (.ref m), some (.ref o), some (.int (nI i)), none, none]) ⟨rfl, rfl, rfl, rfl, rfl, trivial⟩ ?_
        exact K _ _ _ (hw.go (hq2 hk0) hW2 hfr hz)
      · skip
        exact absurd ((nI_eq (mb_paths z s1 s2 s3) (by decide)).mp c1396) hk0
    · skip
      exact absurd rfl c1389

theorem mb_needed (z : Zs) (p : Int32) (q : Int32) : fl_two z p q < 2 ^ 31 := by
  have h1 := rg_needed z p q
  first | omega | (rcases h1 with e | e | e <;> (rw [e]; decide))
set_option maxHeartbeats 400000 in
set_option maxRecDepth 100000 in
theorem lc_needed (hh : List (Nat × Nat × Nat × Nat)) (Sc : mx_Sc) (hS : mx_hS Sc) (bc bs : Nat) (G : mx_G) (I : mx_I) (a m o : Nat) (z : Zs) (i : Nat) (hi : i + 5 ≤ Sc.2.1) (hL : Sc.2.1 ≤ 2560) (hw : LW G I a m o z) (Q : Option Value → mx_G → mx_I → Prop) (X : String → mx_G → mx_I → Prop) (K : ∀ G' I' z', LW G' I' a m o z' → mx_V (mL_law hh) Sc 10 bc bs 1974 [some (.ref Sc.1), some (.ref a), some (.ref m), some (.ref o), some (.int (nI i)), none, none] [] G' I' Q X) : mx_V (mL_law hh) Sc 10 (bc + 10) (bs + 110) 1414 [some (.ref Sc.1), some (.ref a), some (.ref m), some (.ref o), some (.int (nI i)), none, none] [] G I Q X := by
  refine mx_wk (bc' := bc + 1) (bs' := bs + 6) (by omega) (by omega) ?_
  obtain ⟨hW, hM, hz, ham, to, lo⟩ := id hw
  have tg9 : mx_tg G a = 19 := hW.1.1.1
  have tgm : mx_tg G m = 20 := hM.1.1
  obtain ⟨s1, es1⟩ : ∃ s1, Sc.2.2 (i + 1) = s1 := ⟨_, rfl⟩
  obtain ⟨s2, es2⟩ : ∃ s2, Sc.2.2 (i + 2) = s2 := ⟨_, rfl⟩
  obtain ⟨s3, es3⟩ : ∃ s3, Sc.2.2 (i + 3) = s3 := ⟨_, rfl⟩
  obtain ⟨s4, es4⟩ : ∃ s4, Sc.2.2 (i + 4) = s4 := ⟨_, rfl⟩
  refine mx_aload_n (i := 1) (hi := rfl) (hl := rfl) (hd := dL_law_1414) ?_
  refine mx_aload_n (i := 0) (hi := rfl) (hl := rfl) (hd := dL_law_1415) ?_
  refine mx_iload (i := 4) (hl := rfl) (hd := dL_law_1416) ?_
  refine mx_iconstN 1 dL_law_1418 (by decide) ?_
  refine mx_iaddN dL_law_1419 ?_
  refine mx_scld (i + 1) hS dL_law_1420 ⟨rfl, by omega, by omega⟩ ?_
  refine mx_top (y := s1) es1 ?_
  refine mx_aload_n (i := 0) (hi := rfl) (hl := rfl) (hd := dL_law_1421) ?_
  refine mx_iload (i := 4) (hl := rfl) (hd := dL_law_1422) ?_
  refine mx_iconstN 2 dL_law_1424 (by decide) ?_
  refine mx_iaddN dL_law_1425 ?_
  refine mx_scld (i + 2) hS dL_law_1426 ⟨rfl, by omega, by omega⟩ ?_
  refine mx_top (y := s2) es2 ?_
  refine mx_aload_n (i := 3) (hi := rfl) (hl := rfl) (hd := dL_law_1427) ?_
  refine mx_callSW (As := [.ref a, .int s1, .int s2, .ref o]) (rest := []) (b1 := 1) (b2 := 6) dL_law_1428 (lw_needed G I a o z hW to lo s1 s2) km_L_needed rfl k_886 k_887 rfl rfl (Nat.le_of_ble_eq_true rfl) (by decide) (fun _ _ _ q => q.elim) (fun r1 G1 I1 h2 => ?_)
  have hM1 : mW G1 I1 m z := lwQ.m h2 hw
  obtain ⟨to1, lo1⟩ := lwQ.t h2 to lo
  obtain ⟨e9, hq1, hq2⟩ := h2
  subst e9
  have tgm1 : mx_tg G1 m = 20 := hM1.1.1
  refine mx_istoreE (i := 5) (ls' := [some (.ref Sc.1), some (.ref a), some (.ref m), some (.ref o), some (.int (nI i)), some (.int (nI (fl_two z s1 s2))), none]) (hd := dL_law_1431) (hn := (by decide : (5 : Nat) < 7)) (hok := rfl) (hls := rfl) ?_
  refine mx_aload_n (i := 2) (hi := rfl) (hl := rfl) (hd := dL_law_1433) ?_
  refine mx_aload_n (i := 0) (hi := rfl) (hl := rfl) (hd := dL_law_1434) ?_
  refine mx_iload (i := 4) (hl := rfl) (hd := dL_law_1435) ?_
  refine mx_iconstN 1 dL_law_1437 (by decide) ?_
  refine mx_iaddN dL_law_1438 ?_
  refine mx_scld (i + 1) hS dL_law_1439 ⟨rfl, by omega, by omega⟩ ?_
  refine mx_top (y := s1) es1 ?_
  refine mx_aload_n (i := 0) (hi := rfl) (hl := rfl) (hd := dL_law_1440) ?_
  refine mx_iload (i := 4) (hl := rfl) (hd := dL_law_1441) ?_
  refine mx_iconstN 2 dL_law_1443 (by decide) ?_
  refine mx_iaddN dL_law_1444 ?_
  refine mx_scld (i + 2) hS dL_law_1445 ⟨rfl, by omega, by omega⟩ ?_
  refine mx_top (y := s2) es2 ?_
  refine mx_callVi (ci := 10) (As := [.int s1, .int s2]) (rest := []) dL_law_1446 (mt_needed G1 I1 m z hM1 s1 s2) km_X10_needed rfl k_1347 k_1348 k_1349 (by assumption) rfl rfl (Nat.le_of_ble_eq_true rfl) (by decide) (fun r3 I2 h4 => ?_)
  obtain ⟨hr0, hfr, hy, hn⟩ := h4
  by_cases hk0 : fl_two z s1 s2 = 0
  · obtain ⟨e9, hW2⟩ := hy hk0
    have hv := vG_of hW hz
    rw [show nI (am_needed z s1.toInt.toNat s2.toInt.toNat) = nI (an_needed z s1.toInt.toNat s2.toInt.toNat) from (congrArg nI (eq_needed hv (tn_lt (fl_two_0 hk0).1) (tn_lt (fl_two_0 hk0).2))).symm] at e9
    subst e9
    have f0 : fl_two z s1 s2 = 0 := mz_needed z s1 s2 hk0
    refine mx_istoreE (i := 6) (ls' := [some (.ref Sc.1), some (.ref a), some (.ref m), some (.ref o), some (.int (nI i)), some (.int (nI (fl_two z s1 s2))), some (.int (nI (an_needed z s1.toInt.toNat s2.toInt.toNat)))]) (hd := dL_law_1449) (hn := (by decide : (6 : Nat) < 7)) (hok := rfl) (hls := rfl) ?_
    refine mx_aload_n (i := 2) (hi := rfl) (hl := rfl) (hd := dL_law_1451) ?_
    refine mx_callVp (ci := 10) (As := []) (rest := []) dL_law_1452 (mt_thrown G1 I2 m hW2.1) km_X10_thrown rfl k_1110 k_1111 k_1112 (by assumption) rfl rfl (Nat.le_of_ble_eq_true rfl) (by decide) ?_
    refine mx_top (y := nI (fl_two z s1 s2)) (hr0) ?_
    refine mx_iload (i := 5) (hl := rfl) (hd := dL_law_1455) ?_
    refine mx_icmp_eq (tgt := 1462) dL_law_1457 (by decide) (fun c1457 => ?_) (fun c1457 => ?_)
    · skip
      refine mx_iload (i := 5) (hl := rfl) (hd := dL_law_1462) ?_
      refine mx_if_ne (tgt := 1479) dL_law_1464 (by decide) (fun c1464 => ?_) (fun c1464 => ?_)
      · skip
        exact absurd (show nI (fl_two z s1 s2) = 0 by rw [hk0]; rfl) c1464
      · skip
        
        refine mx_aload_n (i := 3) (hi := rfl) (hl := rfl) (hd := dL_law_1467) ?_
        refine mx_iconstN 0 dL_law_1468 (by decide) ?_
        refine mx_lald 0 dL_law_1469 (by assumption) ⟨rfl, by omega, by omega⟩ ?_
        refine mx_topl (y := (nI (an_needed z s1.toInt.toNat s2.toInt.toNat)).toInt64) ((hq1 hk0).2) ?_
        refine mx_iload (i := 6) (hl := rfl) (hd := dL_law_1470) ?_
        refine mx_i2l (hv := rfl) (hd := dL_law_1472) ?_
        refine mx_lcmp dL_law_1473 ?_
        refine mx_if_eq (tgt := 1479) dL_law_1474 (by decide) (fun c1474 => ?_) (fun c1474 => ?_)
        · skip
          refine mx_goto (tgt := 1974) dL_law_1479 (by decide) ?_
          refine mx_leS (ls' := [some (.ref Sc.1), some (.ref a), some (.ref m), some (.ref o), some (.int (nI i)), none, none]) ⟨rfl, rfl, rfl, rfl, rfl, trivial⟩ ?_
          exact K _ _ _ (hw.go (hq1 hk0).1 hW2 hfr (hz))
        · skip
          exact absurd (lgc_self _) c1474
    · skip
      exact absurd rfl c1457
  · obtain ⟨⟨w9, e9⟩, hW2⟩ := hn hk0
    subst e9
    refine mx_istoreE (i := 6) (ls' := [some (.ref Sc.1), some (.ref a), some (.ref m), some (.ref o), some (.int (nI i)), some (.int (nI (fl_two z s1 s2))), some (.int w9)]) (hd := dL_law_1449) (hn := (by decide : (6 : Nat) < 7)) (hok := rfl) (hls := rfl) ?_
    refine mx_aload_n (i := 2) (hi := rfl) (hl := rfl) (hd := dL_law_1451) ?_
    refine mx_callVp (ci := 10) (As := []) (rest := []) dL_law_1452 (mt_thrown G1 I2 m hW2.1) km_X10_thrown rfl k_1110 k_1111 k_1112 (by assumption) rfl rfl (Nat.le_of_ble_eq_true rfl) (by decide) ?_
    refine mx_top (y := nI (fl_two z s1 s2)) (hr0) ?_
    refine mx_iload (i := 5) (hl := rfl) (hd := dL_law_1455) ?_
    refine mx_icmp_eq (tgt := 1462) dL_law_1457 (by decide) (fun c1457 => ?_) (fun c1457 => ?_)
    · skip
      refine mx_iload (i := 5) (hl := rfl) (hd := dL_law_1462) ?_
      refine mx_if_ne (tgt := 1479) dL_law_1464 (by decide) (fun c1464 => ?_) (fun c1464 => ?_)
      · skip
        
        refine mx_goto (tgt := 1974) dL_law_1479 (by decide) ?_
        refine mx_leS (ls' := [some (.ref Sc.1), some (.ref a), some (.ref m), some (.ref o), some (.int (nI i)), none, none]) ⟨rfl, rfl, rfl, rfl, rfl, trivial⟩ ?_
        exact K _ _ _ (hw.go (hq2 hk0) hW2 hfr hz)
      · skip
        exact absurd ((nI_eq (mb_needed z s1 s2) (by decide)).mp c1464) hk0
    · skip
      exact absurd rfl c1457

theorem mb_bestNew (z : Zs) (p : Int32) (q : Int32) : fl_two z p q < 2 ^ 31 := by
  have h1 := rg_bestNew z p q
  first | omega | (rcases h1 with e | e | e <;> (rw [e]; decide))
set_option maxHeartbeats 400000 in
set_option maxRecDepth 100000 in
theorem lc_bestNew (hh : List (Nat × Nat × Nat × Nat)) (Sc : mx_Sc) (hS : mx_hS Sc) (bc bs : Nat) (G : mx_G) (I : mx_I) (a m o : Nat) (z : Zs) (i : Nat) (hi : i + 5 ≤ Sc.2.1) (hL : Sc.2.1 ≤ 2560) (hw : LW G I a m o z) (Q : Option Value → mx_G → mx_I → Prop) (X : String → mx_G → mx_I → Prop) (K : ∀ G' I' z', LW G' I' a m o z' → mx_V (mL_law hh) Sc 10 bc bs 1974 [some (.ref Sc.1), some (.ref a), some (.ref m), some (.ref o), some (.int (nI i)), none, none] [] G' I' Q X) : mx_V (mL_law hh) Sc 10 (bc + 10) (bs + 110) 1482 [some (.ref Sc.1), some (.ref a), some (.ref m), some (.ref o), some (.int (nI i)), none, none] [] G I Q X := by
  refine mx_wk (bc' := bc + 1) (bs' := bs + 6) (by omega) (by omega) ?_
  obtain ⟨hW, hM, hz, ham, to, lo⟩ := id hw
  have tg9 : mx_tg G a = 19 := hW.1.1.1
  have tgm : mx_tg G m = 20 := hM.1.1
  obtain ⟨s1, es1⟩ : ∃ s1, Sc.2.2 (i + 1) = s1 := ⟨_, rfl⟩
  obtain ⟨s2, es2⟩ : ∃ s2, Sc.2.2 (i + 2) = s2 := ⟨_, rfl⟩
  obtain ⟨s3, es3⟩ : ∃ s3, Sc.2.2 (i + 3) = s3 := ⟨_, rfl⟩
  obtain ⟨s4, es4⟩ : ∃ s4, Sc.2.2 (i + 4) = s4 := ⟨_, rfl⟩
  refine mx_aload_n (i := 1) (hi := rfl) (hl := rfl) (hd := dL_law_1482) ?_
  refine mx_aload_n (i := 0) (hi := rfl) (hl := rfl) (hd := dL_law_1483) ?_
  refine mx_iload (i := 4) (hl := rfl) (hd := dL_law_1484) ?_
  refine mx_iconstN 1 dL_law_1486 (by decide) ?_
  refine mx_iaddN dL_law_1487 ?_
  refine mx_scld (i + 1) hS dL_law_1488 ⟨rfl, by omega, by omega⟩ ?_
  refine mx_top (y := s1) es1 ?_
  refine mx_aload_n (i := 0) (hi := rfl) (hl := rfl) (hd := dL_law_1489) ?_
  refine mx_iload (i := 4) (hl := rfl) (hd := dL_law_1490) ?_
  refine mx_iconstN 2 dL_law_1492 (by decide) ?_
  refine mx_iaddN dL_law_1493 ?_
  refine mx_scld (i + 2) hS dL_law_1494 ⟨rfl, by omega, by omega⟩ ?_
  refine mx_top (y := s2) es2 ?_
  refine mx_aload_n (i := 3) (hi := rfl) (hl := rfl) (hd := dL_law_1495) ?_
  refine mx_callSW (As := [.ref a, .int s1, .int s2, .ref o]) (rest := []) (b1 := 1) (b2 := 6) dL_law_1496 (lw_bestNew G I a o z hW to lo s1 s2) km_L_bestNew rfl k_894 k_895 rfl rfl (Nat.le_of_ble_eq_true rfl) (by decide) (fun _ _ _ q => q.elim) (fun r1 G1 I1 h2 => ?_)
  have hM1 : mW G1 I1 m z := lwQ.m h2 hw
  obtain ⟨to1, lo1⟩ := lwQ.t h2 to lo
  obtain ⟨e9, hq1, hq2⟩ := h2
  subst e9
  have tgm1 : mx_tg G1 m = 20 := hM1.1.1
  refine mx_istoreE (i := 5) (ls' := [some (.ref Sc.1), some (.ref a), some (.ref m), some (.ref o), some (.int (nI i)), some (.int (nI (fl_two z s1 s2))), none]) (hd := dL_law_1499) (hn := (by decide : (5 : Nat) < 7)) (hok := rfl) (hls := rfl) ?_
  refine mx_aload_n (i := 2) (hi := rfl) (hl := rfl) (hd := dL_law_1501) ?_
  refine mx_aload_n (i := 0) (hi := rfl) (hl := rfl) (hd := dL_law_1502) ?_
  refine mx_iload (i := 4) (hl := rfl) (hd := dL_law_1503) ?_
  refine mx_iconstN 1 dL_law_1505 (by decide) ?_
  refine mx_iaddN dL_law_1506 ?_
  refine mx_scld (i + 1) hS dL_law_1507 ⟨rfl, by omega, by omega⟩ ?_
  refine mx_top (y := s1) es1 ?_
  refine mx_aload_n (i := 0) (hi := rfl) (hl := rfl) (hd := dL_law_1508) ?_
  refine mx_iload (i := 4) (hl := rfl) (hd := dL_law_1509) ?_
  refine mx_iconstN 2 dL_law_1511 (by decide) ?_
  refine mx_iaddN dL_law_1512 ?_
  refine mx_scld (i + 2) hS dL_law_1513 ⟨rfl, by omega, by omega⟩ ?_
  refine mx_top (y := s2) es2 ?_
  refine mx_callVi (ci := 10) (As := [.int s1, .int s2]) (rest := []) dL_law_1514 (mt_bestNew G1 I1 m z hM1 s1 s2) km_X10_bestNew rfl k_1359 k_1360 k_1361 (by assumption) rfl rfl (Nat.le_of_ble_eq_true rfl) (by decide) (fun r3 I2 h4 => ?_)
  obtain ⟨hr0, hfr, hy, hn⟩ := h4
  by_cases hk0 : fl_two z s1 s2 = 0
  · obtain ⟨e9, hW2⟩ := hy hk0
    have hv := vG_of hW hz
    rw [show oI (am_bestNew z s1.toInt.toNat s2.toInt.toNat) = oI (an_bestNew z s1.toInt.toNat s2.toInt.toNat) from (congrArg oI (eq_bestNew hv (tn_lt (fl_two_0 hk0).1) (tn_lt (fl_two_0 hk0).2))).symm] at e9
    subst e9
    have f0 : fl_two z s1 s2 = 0 := mz_bestNew z s1 s2 hk0
    refine mx_istoreE (i := 6) (ls' := [some (.ref Sc.1), some (.ref a), some (.ref m), some (.ref o), some (.int (nI i)), some (.int (nI (fl_two z s1 s2))), some (.int (oI (an_bestNew z s1.toInt.toNat s2.toInt.toNat)))]) (hd := dL_law_1517) (hn := (by decide : (6 : Nat) < 7)) (hok := rfl) (hls := rfl) ?_
    refine mx_aload_n (i := 2) (hi := rfl) (hl := rfl) (hd := dL_law_1519) ?_
    refine mx_callVp (ci := 10) (As := []) (rest := []) dL_law_1520 (mt_thrown G1 I2 m hW2.1) km_X10_thrown rfl k_1110 k_1111 k_1112 (by assumption) rfl rfl (Nat.le_of_ble_eq_true rfl) (by decide) ?_
    refine mx_top (y := nI (fl_two z s1 s2)) (hr0) ?_
    refine mx_iload (i := 5) (hl := rfl) (hd := dL_law_1523) ?_
    refine mx_icmp_eq (tgt := 1530) dL_law_1525 (by decide) (fun c1525 => ?_) (fun c1525 => ?_)
    · skip
      refine mx_iload (i := 5) (hl := rfl) (hd := dL_law_1530) ?_
      refine mx_if_ne (tgt := 1547) dL_law_1532 (by decide) (fun c1532 => ?_) (fun c1532 => ?_)
      · skip
        exact absurd (show nI (fl_two z s1 s2) = 0 by rw [hk0]; rfl) c1532
      · skip
        
        refine mx_aload_n (i := 3) (hi := rfl) (hl := rfl) (hd := dL_law_1535) ?_
        refine mx_iconstN 0 dL_law_1536 (by decide) ?_
        refine mx_lald 0 dL_law_1537 (by assumption) ⟨rfl, by omega, by omega⟩ ?_
        refine mx_topl (y := (oI (an_bestNew z s1.toInt.toNat s2.toInt.toNat)).toInt64) ((hq1 hk0).2) ?_
        refine mx_iload (i := 6) (hl := rfl) (hd := dL_law_1538) ?_
        refine mx_i2l (hv := rfl) (hd := dL_law_1540) ?_
        refine mx_lcmp dL_law_1541 ?_
        refine mx_if_eq (tgt := 1547) dL_law_1542 (by decide) (fun c1542 => ?_) (fun c1542 => ?_)
        · skip
          refine mx_goto (tgt := 1974) dL_law_1547 (by decide) ?_
          refine mx_leS (ls' := [some (.ref Sc.1), some (.ref a), some (.ref m), some (.ref o), some (.int (nI i)), none, none]) ⟨rfl, rfl, rfl, rfl, rfl, trivial⟩ ?_
          exact K _ _ _ (hw.go (hq1 hk0).1 hW2 hfr (hz))
        · skip
          exact absurd (lgc_self _) c1542
    · skip
      exact absurd rfl c1525
  · obtain ⟨⟨w9, e9⟩, hW2⟩ := hn hk0
    subst e9
    refine mx_istoreE (i := 6) (ls' := [some (.ref Sc.1), some (.ref a), some (.ref m), some (.ref o), some (.int (nI i)), some (.int (nI (fl_two z s1 s2))), some (.int w9)]) (hd := dL_law_1517) (hn := (by decide : (6 : Nat) < 7)) (hok := rfl) (hls := rfl) ?_
    refine mx_aload_n (i := 2) (hi := rfl) (hl := rfl) (hd := dL_law_1519) ?_
    refine mx_callVp (ci := 10) (As := []) (rest := []) dL_law_1520 (mt_thrown G1 I2 m hW2.1) km_X10_thrown rfl k_1110 k_1111 k_1112 (by assumption) rfl rfl (Nat.le_of_ble_eq_true rfl) (by decide) ?_
    refine mx_top (y := nI (fl_two z s1 s2)) (hr0) ?_
    refine mx_iload (i := 5) (hl := rfl) (hd := dL_law_1523) ?_
    refine mx_icmp_eq (tgt := 1530) dL_law_1525 (by decide) (fun c1525 => ?_) (fun c1525 => ?_)
    · skip
      refine mx_iload (i := 5) (hl := rfl) (hd := dL_law_1530) ?_
      refine mx_if_ne (tgt := 1547) dL_law_1532 (by decide) (fun c1532 => ?_) (fun c1532 => ?_)
      · skip
        
        refine mx_goto (tgt := 1974) dL_law_1547 (by decide) ?_
        refine mx_leS (ls' := [some (.ref Sc.1), some (.ref a), some (.ref m), some (.ref o), some (.int (nI i)), none, none]) ⟨rfl, rfl, rfl, rfl, rfl, trivial⟩ ?_
        exact K _ _ _ (hw.go (hq2 hk0) hW2 hfr hz)
      · skip
        exact absurd ((nI_eq (mb_bestNew z s1 s2) (by decide)).mp c1532) hk0
    · skip
      exact absurd rfl c1525

theorem mb_follow (z : Zs) (p : Int32) (n : Int32) (row : Int64) : fl_follow z p n row < 2 ^ 31 := by
  have h1 := rg_follow z p n row
  first | omega | (rcases h1 with e | e | e <;> (rw [e]; decide))
set_option maxHeartbeats 400000 in
set_option maxRecDepth 100000 in
theorem lc_follow (hh : List (Nat × Nat × Nat × Nat)) (Sc : mx_Sc) (hS : mx_hS Sc) (bc bs : Nat) (G : mx_G) (I : mx_I) (a m o : Nat) (z : Zs) (i : Nat) (hi : i + 5 ≤ Sc.2.1) (hL : Sc.2.1 ≤ 2560) (hw : LW G I a m o z) (Q : Option Value → mx_G → mx_I → Prop) (X : String → mx_G → mx_I → Prop) (K : ∀ G' I' z', LW G' I' a m o z' → mx_V (mL_law hh) Sc 10 bc bs 1974 [some (.ref Sc.1), some (.ref a), some (.ref m), some (.ref o), some (.int (nI i)), none, none] [] G' I' Q X) : mx_V (mL_law hh) Sc 10 (bc + 10) (bs + 110) 1550 [some (.ref Sc.1), some (.ref a), some (.ref m), some (.ref o), some (.int (nI i)), none, none] [] G I Q X := by
  refine mx_wk (bc' := bc + 3) (bs' := bs + 18) (by omega) (by omega) ?_
  obtain ⟨hW, hM, hz, ham, to, lo⟩ := id hw
  have tg9 : mx_tg G a = 19 := hW.1.1.1
  have tgm : mx_tg G m = 20 := hM.1.1
  obtain ⟨s1, es1⟩ : ∃ s1, Sc.2.2 (i + 1) = s1 := ⟨_, rfl⟩
  obtain ⟨s2, es2⟩ : ∃ s2, Sc.2.2 (i + 2) = s2 := ⟨_, rfl⟩
  obtain ⟨s3, es3⟩ : ∃ s3, Sc.2.2 (i + 3) = s3 := ⟨_, rfl⟩
  obtain ⟨s4, es4⟩ : ∃ s4, Sc.2.2 (i + 4) = s4 := ⟨_, rfl⟩
  refine mx_aload_n (i := 1) (hi := rfl) (hl := rfl) (hd := dL_law_1550) ?_
  refine mx_aload_n (i := 0) (hi := rfl) (hl := rfl) (hd := dL_law_1551) ?_
  refine mx_iload (i := 4) (hl := rfl) (hd := dL_law_1552) ?_
  refine mx_iconstN 1 dL_law_1554 (by decide) ?_
  refine mx_iaddN dL_law_1555 ?_
  refine mx_scld (i + 1) hS dL_law_1556 ⟨rfl, by omega, by omega⟩ ?_
  refine mx_top (y := s1) es1 ?_
  refine mx_aload_n (i := 0) (hi := rfl) (hl := rfl) (hd := dL_law_1557) ?_
  refine mx_iload (i := 4) (hl := rfl) (hd := dL_law_1558) ?_
  refine mx_iconstN 2 dL_law_1560 (by decide) ?_
  refine mx_iaddN dL_law_1561 ?_
  refine mx_scld (i + 2) hS dL_law_1562 ⟨rfl, by omega, by omega⟩ ?_
  refine mx_top (y := s2) es2 ?_
  refine mx_aload_n (i := 0) (hi := rfl) (hl := rfl) (hd := dL_law_1563) ?_
  refine mx_iload (i := 4) (hl := rfl) (hd := dL_law_1564) ?_
  refine mx_iconstN 3 dL_law_1566 (by decide) ?_
  refine mx_iaddN dL_law_1567 ?_
  refine mx_scld (i + 3) hS dL_law_1568 ⟨rfl, by omega, by omega⟩ ?_
  refine mx_top (y := s3) es3 ?_
  refine mx_i2l (hv := rfl) (hd := dL_law_1569) ?_
  refine mx_bipushN 32 dL_law_1570 (by decide) ?_
  refine mx_lshl (hv := rfl) (hd := dL_law_1572) ?_
  refine mx_aload_n (i := 0) (hi := rfl) (hl := rfl) (hd := dL_law_1573) ?_
  refine mx_iload (i := 4) (hl := rfl) (hd := dL_law_1574) ?_
  refine mx_iconstN 4 dL_law_1576 (by decide) ?_
  refine mx_iaddN dL_law_1577 ?_
  refine mx_scld (i + 4) hS dL_law_1578 ⟨rfl, by omega, by omega⟩ ?_
  refine mx_top (y := s4) es4 ?_
  refine mx_i2l (hv := rfl) (hd := dL_law_1579) ?_
  refine mx_ldc2 (v := (4294967295)) k_1397 dL_law_1580 ?_
  refine mx_land dL_law_1583 ?_
  refine mx_lor dL_law_1584 ?_
  refine mx_aload_n (i := 3) (hi := rfl) (hl := rfl) (hd := dL_law_1585) ?_
  refine mx_callSW (As := [.ref a, .int s1, .int s2, .long ((s3.toInt64 <<< ((nI 32).toInt64 &&& 63)) ||| (s4.toInt64 &&& (4294967295))), .ref o]) (rest := []) (b1 := 3) (b2 := 18) dL_law_1586 (lw_follow G I a o z hW to lo s1 s2 ((s3.toInt64 <<< ((nI 32).toInt64 &&& 63)) ||| (s4.toInt64 &&& (4294967295)))) km_L_follow rfl k_914 k_915 rfl rfl (Nat.le_of_ble_eq_true rfl) (by decide) (fun _ _ _ q => q.elim) (fun r1 G1 I1 h2 => ?_)
  have hM1 : mW G1 I1 m z := lwQ.m h2 hw
  obtain ⟨to1, lo1⟩ := lwQ.t h2 to lo
  obtain ⟨e9, hq1, hq2⟩ := h2
  subst e9
  have tgm1 : mx_tg G1 m = 20 := hM1.1.1
  refine mx_istoreE (i := 5) (ls' := [some (.ref Sc.1), some (.ref a), some (.ref m), some (.ref o), some (.int (nI i)), some (.int (nI (fl_follow z s1 s2 ((s3.toInt64 <<< ((nI 32).toInt64 &&& 63)) ||| (s4.toInt64 &&& (4294967295)))))), none]) (hd := dL_law_1589) (hn := (by decide : (5 : Nat) < 7)) (hok := rfl) (hls := rfl) ?_
  refine mx_aload_n (i := 2) (hi := rfl) (hl := rfl) (hd := dL_law_1591) ?_
  refine mx_aload_n (i := 0) (hi := rfl) (hl := rfl) (hd := dL_law_1592) ?_
  refine mx_iload (i := 4) (hl := rfl) (hd := dL_law_1593) ?_
  refine mx_iconstN 1 dL_law_1595 (by decide) ?_
  refine mx_iaddN dL_law_1596 ?_
  refine mx_scld (i + 1) hS dL_law_1597 ⟨rfl, by omega, by omega⟩ ?_
  refine mx_top (y := s1) es1 ?_
  refine mx_aload_n (i := 0) (hi := rfl) (hl := rfl) (hd := dL_law_1598) ?_
  refine mx_iload (i := 4) (hl := rfl) (hd := dL_law_1599) ?_
  refine mx_iconstN 2 dL_law_1601 (by decide) ?_
  refine mx_iaddN dL_law_1602 ?_
  refine mx_scld (i + 2) hS dL_law_1603 ⟨rfl, by omega, by omega⟩ ?_
  refine mx_top (y := s2) es2 ?_
  refine mx_aload_n (i := 0) (hi := rfl) (hl := rfl) (hd := dL_law_1604) ?_
  refine mx_iload (i := 4) (hl := rfl) (hd := dL_law_1605) ?_
  refine mx_iconstN 3 dL_law_1607 (by decide) ?_
  refine mx_iaddN dL_law_1608 ?_
  refine mx_scld (i + 3) hS dL_law_1609 ⟨rfl, by omega, by omega⟩ ?_
  refine mx_top (y := s3) es3 ?_
  refine mx_i2l (hv := rfl) (hd := dL_law_1610) ?_
  refine mx_bipushN 32 dL_law_1611 (by decide) ?_
  refine mx_lshl (hv := rfl) (hd := dL_law_1613) ?_
  refine mx_aload_n (i := 0) (hi := rfl) (hl := rfl) (hd := dL_law_1614) ?_
  refine mx_iload (i := 4) (hl := rfl) (hd := dL_law_1615) ?_
  refine mx_iconstN 4 dL_law_1617 (by decide) ?_
  refine mx_iaddN dL_law_1618 ?_
  refine mx_scld (i + 4) hS dL_law_1619 ⟨rfl, by omega, by omega⟩ ?_
  refine mx_top (y := s4) es4 ?_
  refine mx_i2l (hv := rfl) (hd := dL_law_1620) ?_
  refine mx_ldc2 (v := (4294967295)) k_1397 dL_law_1621 ?_
  refine mx_land dL_law_1624 ?_
  refine mx_lor dL_law_1625 ?_
  refine mx_callVi (ci := 10) (As := [.int s1, .int s2, .long ((s3.toInt64 <<< ((nI 32).toInt64 &&& 63)) ||| (s4.toInt64 &&& (4294967295)))]) (rest := []) dL_law_1626 (mt_follow G1 I1 m z hM1 s1 s2 ((s3.toInt64 <<< ((nI 32).toInt64 &&& 63)) ||| (s4.toInt64 &&& (4294967295)))) km_X10_follow rfl k_1364 k_1365 k_1366 (by assumption) rfl rfl (Nat.le_of_ble_eq_true rfl) (by decide) (fun r3 I2 h4 => ?_)
  obtain ⟨hr0, hfr, hy, hn⟩ := h4
  by_cases hk0 : fl_follow z s1 s2 ((s3.toInt64 <<< ((nI 32).toInt64 &&& 63)) ||| (s4.toInt64 &&& (4294967295))) = 0
  · obtain ⟨e9, hW2⟩ := hy hk0
    subst e9
    have f0 : fl_follow z s1 s2 ((s3.toInt64 <<< ((nI 32).toInt64 &&& 63)) ||| (s4.toInt64 &&& (4294967295))) = 0 := mz_follow z s1 s2 ((s3.toInt64 <<< ((nI 32).toInt64 &&& 63)) ||| (s4.toInt64 &&& (4294967295))) hk0
    refine mx_istoreE (i := 6) (ls' := [some (.ref Sc.1), some (.ref a), some (.ref m), some (.ref o), some (.int (nI i)), some (.int (nI (fl_follow z s1 s2 ((s3.toInt64 <<< ((nI 32).toInt64 &&& 63)) ||| (s4.toInt64 &&& (4294967295)))))), some (.int (an_follow z s1.toInt.toNat s2.toInt.toNat ((s3.toInt64 <<< ((nI 32).toInt64 &&& 63)) ||| (s4.toInt64 &&& (4294967295))).toInt.toNat))]) (hd := dL_law_1629) (hn := (by decide : (6 : Nat) < 7)) (hok := rfl) (hls := rfl) ?_
    refine mx_aload_n (i := 2) (hi := rfl) (hl := rfl) (hd := dL_law_1631) ?_
    refine mx_callVp (ci := 10) (As := []) (rest := []) dL_law_1632 (mt_thrown G1 I2 m hW2.1) km_X10_thrown rfl k_1110 k_1111 k_1112 (by assumption) rfl rfl (Nat.le_of_ble_eq_true rfl) (by decide) ?_
    refine mx_top (y := nI (fl_follow z s1 s2 ((s3.toInt64 <<< ((nI 32).toInt64 &&& 63)) ||| (s4.toInt64 &&& (4294967295))))) (hr0) ?_
    refine mx_iload (i := 5) (hl := rfl) (hd := dL_law_1635) ?_
    refine mx_icmp_eq (tgt := 1642) dL_law_1637 (by decide) (fun c1637 => ?_) (fun c1637 => ?_)
    · skip
      refine mx_iload (i := 5) (hl := rfl) (hd := dL_law_1642) ?_
      refine mx_if_ne (tgt := 1659) dL_law_1644 (by decide) (fun c1644 => ?_) (fun c1644 => ?_)
      · skip
        exact absurd (show nI (fl_follow z s1 s2 ((s3.toInt64 <<< ((nI 32).toInt64 &&& 63)) ||| (s4.toInt64 &&& (4294967295)))) = 0 by rw [hk0]; rfl) c1644
      · skip
        
        refine mx_aload_n (i := 3) (hi := rfl) (hl := rfl) (hd := dL_law_1647) ?_
        refine mx_iconstN 0 dL_law_1648 (by decide) ?_
        refine mx_lald 0 dL_law_1649 (by assumption) ⟨rfl, by omega, by omega⟩ ?_
        refine mx_topl (y := (an_follow z s1.toInt.toNat s2.toInt.toNat ((s3.toInt64 <<< ((nI 32).toInt64 &&& 63)) ||| (s4.toInt64 &&& (4294967295))).toInt.toNat).toInt64) ((hq1 hk0).2) ?_
        refine mx_iload (i := 6) (hl := rfl) (hd := dL_law_1650) ?_
        refine mx_i2l (hv := rfl) (hd := dL_law_1652) ?_
        refine mx_lcmp dL_law_1653 ?_
        refine mx_if_eq (tgt := 1659) dL_law_1654 (by decide) (fun c1654 => ?_) (fun c1654 => ?_)
        · skip
          refine mx_goto (tgt := 1974) dL_law_1659 (by decide) ?_
          refine mx_leS (ls' := [some (.ref Sc.1), some (.ref a), some (.ref m), some (.ref o), some (.int (nI i)), none, none]) ⟨rfl, rfl, rfl, rfl, rfl, trivial⟩ ?_
          exact K _ _ _ (hw.go (hq1 hk0).1 hW2 hfr (hz))
        · skip
          exact absurd (lgc_self _) c1654
    · skip
      exact absurd rfl c1637
  · obtain ⟨⟨w9, e9⟩, hW2⟩ := hn hk0
    subst e9
    refine mx_istoreE (i := 6) (ls' := [some (.ref Sc.1), some (.ref a), some (.ref m), some (.ref o), some (.int (nI i)), some (.int (nI (fl_follow z s1 s2 ((s3.toInt64 <<< ((nI 32).toInt64 &&& 63)) ||| (s4.toInt64 &&& (4294967295)))))), some (.int w9)]) (hd := dL_law_1629) (hn := (by decide : (6 : Nat) < 7)) (hok := rfl) (hls := rfl) ?_
    refine mx_aload_n (i := 2) (hi := rfl) (hl := rfl) (hd := dL_law_1631) ?_
    refine mx_callVp (ci := 10) (As := []) (rest := []) dL_law_1632 (mt_thrown G1 I2 m hW2.1) km_X10_thrown rfl k_1110 k_1111 k_1112 (by assumption) rfl rfl (Nat.le_of_ble_eq_true rfl) (by decide) ?_
    refine mx_top (y := nI (fl_follow z s1 s2 ((s3.toInt64 <<< ((nI 32).toInt64 &&& 63)) ||| (s4.toInt64 &&& (4294967295))))) (hr0) ?_
    refine mx_iload (i := 5) (hl := rfl) (hd := dL_law_1635) ?_
    refine mx_icmp_eq (tgt := 1642) dL_law_1637 (by decide) (fun c1637 => ?_) (fun c1637 => ?_)
    · skip
      refine mx_iload (i := 5) (hl := rfl) (hd := dL_law_1642) ?_
      refine mx_if_ne (tgt := 1659) dL_law_1644 (by decide) (fun c1644 => ?_) (fun c1644 => ?_)
      · skip
        
        refine mx_goto (tgt := 1974) dL_law_1659 (by decide) ?_
        refine mx_leS (ls' := [some (.ref Sc.1), some (.ref a), some (.ref m), some (.ref o), some (.int (nI i)), none, none]) ⟨rfl, rfl, rfl, rfl, rfl, trivial⟩ ?_
        exact K _ _ _ (hw.go (hq2 hk0) hW2 hfr hz)
      · skip
        exact absurd ((nI_eq (mb_follow z s1 s2 ((s3.toInt64 <<< ((nI 32).toInt64 &&& 63)) ||| (s4.toInt64 &&& (4294967295)))) (by decide)).mp c1644) hk0
    · skip
      exact absurd rfl c1637

theorem mb_runScript (z : Zs) (n : Int32) (sc : Int64) : fl_runScript n sc - 1 < 2 ^ 31 := by
  have h1 := rg_runScript z n sc
  first | omega | (rcases h1 with e | e | e <;> (rw [e]; decide))
set_option maxHeartbeats 400000 in
set_option maxRecDepth 100000 in
theorem lc_runScript (hh : List (Nat × Nat × Nat × Nat)) (Sc : mx_Sc) (hS : mx_hS Sc) (bc bs : Nat) (G : mx_G) (I : mx_I) (a m o : Nat) (z : Zs) (i : Nat) (hi : i + 5 ≤ Sc.2.1) (hL : Sc.2.1 ≤ 2560) (hw : LW G I a m o z) (Q : Option Value → mx_G → mx_I → Prop) (X : String → mx_G → mx_I → Prop) (K : ∀ G' I' z', LW G' I' a m o z' → mx_V (mL_law hh) Sc 10 bc bs 1974 [some (.ref Sc.1), some (.ref a), some (.ref m), some (.ref o), some (.int (nI i)), none, none] [] G' I' Q X) : mx_V (mL_law hh) Sc 10 (bc + 10) (bs + 110) 1662 [some (.ref Sc.1), some (.ref a), some (.ref m), some (.ref o), some (.int (nI i)), none, none] [] G I Q X := by
  refine mx_wk (bc' := bc + 2) (bs' := bs + 12) (by omega) (by omega) ?_
  obtain ⟨hW, hM, hz, ham, to, lo⟩ := id hw
  have tg9 : mx_tg G a = 19 := hW.1.1.1
  have tgm : mx_tg G m = 20 := hM.1.1
  obtain ⟨s1, es1⟩ : ∃ s1, Sc.2.2 (i + 1) = s1 := ⟨_, rfl⟩
  obtain ⟨s2, es2⟩ : ∃ s2, Sc.2.2 (i + 2) = s2 := ⟨_, rfl⟩
  obtain ⟨s3, es3⟩ : ∃ s3, Sc.2.2 (i + 3) = s3 := ⟨_, rfl⟩
  obtain ⟨s4, es4⟩ : ∃ s4, Sc.2.2 (i + 4) = s4 := ⟨_, rfl⟩
  refine mx_aload_n (i := 1) (hi := rfl) (hl := rfl) (hd := dL_law_1662) ?_
  refine mx_aload_n (i := 0) (hi := rfl) (hl := rfl) (hd := dL_law_1663) ?_
  refine mx_iload (i := 4) (hl := rfl) (hd := dL_law_1664) ?_
  refine mx_iconstN 1 dL_law_1666 (by decide) ?_
  refine mx_iaddN dL_law_1667 ?_
  refine mx_scld (i + 1) hS dL_law_1668 ⟨rfl, by omega, by omega⟩ ?_
  refine mx_top (y := s1) es1 ?_
  refine mx_aload_n (i := 0) (hi := rfl) (hl := rfl) (hd := dL_law_1669) ?_
  refine mx_iload (i := 4) (hl := rfl) (hd := dL_law_1670) ?_
  refine mx_iconstN 2 dL_law_1672 (by decide) ?_
  refine mx_iaddN dL_law_1673 ?_
  refine mx_scld (i + 2) hS dL_law_1674 ⟨rfl, by omega, by omega⟩ ?_
  refine mx_top (y := s2) es2 ?_
  refine mx_i2l (hv := rfl) (hd := dL_law_1675) ?_
  refine mx_bipushN 32 dL_law_1676 (by decide) ?_
  refine mx_lshl (hv := rfl) (hd := dL_law_1678) ?_
  refine mx_aload_n (i := 0) (hi := rfl) (hl := rfl) (hd := dL_law_1679) ?_
  refine mx_iload (i := 4) (hl := rfl) (hd := dL_law_1680) ?_
  refine mx_iconstN 3 dL_law_1682 (by decide) ?_
  refine mx_iaddN dL_law_1683 ?_
  refine mx_scld (i + 3) hS dL_law_1684 ⟨rfl, by omega, by omega⟩ ?_
  refine mx_top (y := s3) es3 ?_
  refine mx_i2l (hv := rfl) (hd := dL_law_1685) ?_
  refine mx_ldc2 (v := (4294967295)) k_1397 dL_law_1686 ?_
  refine mx_land dL_law_1689 ?_
  refine mx_lor dL_law_1690 ?_
  refine mx_aload_n (i := 3) (hi := rfl) (hl := rfl) (hd := dL_law_1691) ?_
  refine mx_callSW (As := [.ref a, .int s1, .long ((s2.toInt64 <<< ((nI 32).toInt64 &&& 63)) ||| (s3.toInt64 &&& (4294967295))), .ref o]) (rest := []) (b1 := 2) (b2 := 12) dL_law_1692 (lw_runScript G I a o z hW to lo s1 ((s2.toInt64 <<< ((nI 32).toInt64 &&& 63)) ||| (s3.toInt64 &&& (4294967295)))) km_L_runScript rfl k_926 k_927 rfl rfl (Nat.le_of_ble_eq_true rfl) (by decide) (fun _ _ _ q => q.elim) (fun r1 G1 I1 h2 => ?_)
  have hM1 : mW G1 I1 m z := lwQ.m h2 hw
  obtain ⟨to1, lo1⟩ := lwQ.t h2 to lo
  obtain ⟨e9, hq1, hq2⟩ := h2
  subst e9
  have tgm1 : mx_tg G1 m = 20 := hM1.1.1
  refine mx_istoreE (i := 5) (ls' := [some (.ref Sc.1), some (.ref a), some (.ref m), some (.ref o), some (.int (nI i)), some (.int (nI (fl_runScript s1 ((s2.toInt64 <<< ((nI 32).toInt64 &&& 63)) ||| (s3.toInt64 &&& (4294967295))) - 1))), none]) (hd := dL_law_1695) (hn := (by decide : (5 : Nat) < 7)) (hok := rfl) (hls := rfl) ?_
  refine mx_aload_n (i := 2) (hi := rfl) (hl := rfl) (hd := dL_law_1697) ?_
  refine mx_aload_n (i := 0) (hi := rfl) (hl := rfl) (hd := dL_law_1698) ?_
  refine mx_iload (i := 4) (hl := rfl) (hd := dL_law_1699) ?_
  refine mx_iconstN 1 dL_law_1701 (by decide) ?_
  refine mx_iaddN dL_law_1702 ?_
  refine mx_scld (i + 1) hS dL_law_1703 ⟨rfl, by omega, by omega⟩ ?_
  refine mx_top (y := s1) es1 ?_
  refine mx_aload_n (i := 0) (hi := rfl) (hl := rfl) (hd := dL_law_1704) ?_
  refine mx_iload (i := 4) (hl := rfl) (hd := dL_law_1705) ?_
  refine mx_iconstN 2 dL_law_1707 (by decide) ?_
  refine mx_iaddN dL_law_1708 ?_
  refine mx_scld (i + 2) hS dL_law_1709 ⟨rfl, by omega, by omega⟩ ?_
  refine mx_top (y := s2) es2 ?_
  refine mx_i2l (hv := rfl) (hd := dL_law_1710) ?_
  refine mx_bipushN 32 dL_law_1711 (by decide) ?_
  refine mx_lshl (hv := rfl) (hd := dL_law_1713) ?_
  refine mx_aload_n (i := 0) (hi := rfl) (hl := rfl) (hd := dL_law_1714) ?_
  refine mx_iload (i := 4) (hl := rfl) (hd := dL_law_1715) ?_
  refine mx_iconstN 3 dL_law_1717 (by decide) ?_
  refine mx_iaddN dL_law_1718 ?_
  refine mx_scld (i + 3) hS dL_law_1719 ⟨rfl, by omega, by omega⟩ ?_
  refine mx_top (y := s3) es3 ?_
  refine mx_i2l (hv := rfl) (hd := dL_law_1720) ?_
  refine mx_ldc2 (v := (4294967295)) k_1397 dL_law_1721 ?_
  refine mx_land dL_law_1724 ?_
  refine mx_lor dL_law_1725 ?_
  refine mx_callVi (ci := 10) (As := [.int s1, .long ((s2.toInt64 <<< ((nI 32).toInt64 &&& 63)) ||| (s3.toInt64 &&& (4294967295)))]) (rest := []) dL_law_1726 (mt_runScript G1 I1 m z hM1 s1 ((s2.toInt64 <<< ((nI 32).toInt64 &&& 63)) ||| (s3.toInt64 &&& (4294967295)))) km_X10_runScript rfl k_1370 k_1371 k_1372 (by assumption) rfl rfl (Nat.le_of_ble_eq_true rfl) (by decide) (fun r3 I2 h4 => ?_)
  obtain ⟨hr0, hfr, hy, hn⟩ := h4
  by_cases hk0 : fl_runScript s1 ((s2.toInt64 <<< ((nI 32).toInt64 &&& 63)) ||| (s3.toInt64 &&& (4294967295))) - 1 = 0
  · obtain ⟨e9, hW2⟩ := hy hk0
    have hv := vG_of hW hz
    rw [show am_runScript z s1.toInt.toNat ((s2.toInt64 <<< ((nI 32).toInt64 &&& 63)) ||| (s3.toInt64 &&& (4294967295))).toInt.toNat = an_runScript z s1.toInt.toNat ((s2.toInt64 <<< ((nI 32).toInt64 &&& 63)) ||| (s3.toInt64 &&& (4294967295))).toInt.toNat from (eq_runScript hv _ _).symm] at e9
    subst e9
    have f0 : fl_runScript s1 ((s2.toInt64 <<< ((nI 32).toInt64 &&& 63)) ||| (s3.toInt64 &&& (4294967295))) = 0 := mz_runScript z s1 ((s2.toInt64 <<< ((nI 32).toInt64 &&& 63)) ||| (s3.toInt64 &&& (4294967295))) hk0
    refine mx_istoreE (i := 6) (ls' := [some (.ref Sc.1), some (.ref a), some (.ref m), some (.ref o), some (.int (nI i)), some (.int (nI (fl_runScript s1 ((s2.toInt64 <<< ((nI 32).toInt64 &&& 63)) ||| (s3.toInt64 &&& (4294967295))) - 1))), some (.int (an_runScript z s1.toInt.toNat ((s2.toInt64 <<< ((nI 32).toInt64 &&& 63)) ||| (s3.toInt64 &&& (4294967295))).toInt.toNat))]) (hd := dL_law_1729) (hn := (by decide : (6 : Nat) < 7)) (hok := rfl) (hls := rfl) ?_
    refine mx_aload_n (i := 2) (hi := rfl) (hl := rfl) (hd := dL_law_1731) ?_
    refine mx_callVp (ci := 10) (As := []) (rest := []) dL_law_1732 (mt_thrown G1 I2 m hW2.1) km_X10_thrown rfl k_1110 k_1111 k_1112 (by assumption) rfl rfl (Nat.le_of_ble_eq_true rfl) (by decide) ?_
    refine mx_top (y := nI (fl_runScript s1 ((s2.toInt64 <<< ((nI 32).toInt64 &&& 63)) ||| (s3.toInt64 &&& (4294967295))) - 1)) (hr0) ?_
    refine mx_iload (i := 5) (hl := rfl) (hd := dL_law_1735) ?_
    refine mx_icmp_eq (tgt := 1742) dL_law_1737 (by decide) (fun c1737 => ?_) (fun c1737 => ?_)
    · skip
      refine mx_iload (i := 5) (hl := rfl) (hd := dL_law_1742) ?_
      refine mx_if_ne (tgt := 1759) dL_law_1744 (by decide) (fun c1744 => ?_) (fun c1744 => ?_)
      · skip
        exact absurd (show nI (fl_runScript s1 ((s2.toInt64 <<< ((nI 32).toInt64 &&& 63)) ||| (s3.toInt64 &&& (4294967295))) - 1) = 0 by rw [hk0]; rfl) c1744
      · skip
        
        refine mx_aload_n (i := 3) (hi := rfl) (hl := rfl) (hd := dL_law_1747) ?_
        refine mx_iconstN 0 dL_law_1748 (by decide) ?_
        refine mx_lald 0 dL_law_1749 (by assumption) ⟨rfl, by omega, by omega⟩ ?_
        refine mx_topl (y := (an_runScript z s1.toInt.toNat ((s2.toInt64 <<< ((nI 32).toInt64 &&& 63)) ||| (s3.toInt64 &&& (4294967295))).toInt.toNat).toInt64) ((hq1 hk0).2) ?_
        refine mx_iload (i := 6) (hl := rfl) (hd := dL_law_1750) ?_
        refine mx_i2l (hv := rfl) (hd := dL_law_1752) ?_
        refine mx_lcmp dL_law_1753 ?_
        refine mx_if_eq (tgt := 1759) dL_law_1754 (by decide) (fun c1754 => ?_) (fun c1754 => ?_)
        · skip
          refine mx_goto (tgt := 1974) dL_law_1759 (by decide) ?_
          refine mx_leS (ls' := [some (.ref Sc.1), some (.ref a), some (.ref m), some (.ref o), some (.int (nI i)), none, none]) ⟨rfl, rfl, rfl, rfl, rfl, trivial⟩ ?_
          exact K _ _ _ (hw.go (hq1 hk0).1 hW2 hfr (hz))
        · skip
          exact absurd (lgc_self _) c1754
    · skip
      exact absurd rfl c1737
  · obtain ⟨⟨w9, e9⟩, hW2⟩ := hn hk0
    subst e9
    refine mx_istoreE (i := 6) (ls' := [some (.ref Sc.1), some (.ref a), some (.ref m), some (.ref o), some (.int (nI i)), some (.int (nI (fl_runScript s1 ((s2.toInt64 <<< ((nI 32).toInt64 &&& 63)) ||| (s3.toInt64 &&& (4294967295))) - 1))), some (.int w9)]) (hd := dL_law_1729) (hn := (by decide : (6 : Nat) < 7)) (hok := rfl) (hls := rfl) ?_
    refine mx_aload_n (i := 2) (hi := rfl) (hl := rfl) (hd := dL_law_1731) ?_
    refine mx_callVp (ci := 10) (As := []) (rest := []) dL_law_1732 (mt_thrown G1 I2 m hW2.1) km_X10_thrown rfl k_1110 k_1111 k_1112 (by assumption) rfl rfl (Nat.le_of_ble_eq_true rfl) (by decide) ?_
    refine mx_top (y := nI (fl_runScript s1 ((s2.toInt64 <<< ((nI 32).toInt64 &&& 63)) ||| (s3.toInt64 &&& (4294967295))) - 1)) (hr0) ?_
    refine mx_iload (i := 5) (hl := rfl) (hd := dL_law_1735) ?_
    refine mx_icmp_eq (tgt := 1742) dL_law_1737 (by decide) (fun c1737 => ?_) (fun c1737 => ?_)
    · skip
      refine mx_iload (i := 5) (hl := rfl) (hd := dL_law_1742) ?_
      refine mx_if_ne (tgt := 1759) dL_law_1744 (by decide) (fun c1744 => ?_) (fun c1744 => ?_)
      · skip
        
        refine mx_goto (tgt := 1974) dL_law_1759 (by decide) ?_
        refine mx_leS (ls' := [some (.ref Sc.1), some (.ref a), some (.ref m), some (.ref o), some (.int (nI i)), none, none]) ⟨rfl, rfl, rfl, rfl, rfl, trivial⟩ ?_
        exact K _ _ _ (hw.go (hq2 hk0) hW2 hfr hz)
      · skip
        exact absurd ((nI_eq (mb_runScript z s1 ((s2.toInt64 <<< ((nI 32).toInt64 &&& 63)) ||| (s3.toInt64 &&& (4294967295)))) (by decide)).mp c1744) hk0
    · skip
      exact absurd rfl c1737

theorem mb_simulate (z : Zs) (seed : Int64) (dm : Int32) : fl_simulate dm - 1 < 2 ^ 31 := by
  have h1 := rg_simulate z seed dm
  first | omega | (rcases h1 with e | e | e <;> (rw [e]; decide))
set_option maxHeartbeats 400000 in
set_option maxRecDepth 100000 in
theorem lc_simulate (hh : List (Nat × Nat × Nat × Nat)) (Sc : mx_Sc) (hS : mx_hS Sc) (bc bs : Nat) (G : mx_G) (I : mx_I) (a m o : Nat) (z : Zs) (i : Nat) (hi : i + 5 ≤ Sc.2.1) (hL : Sc.2.1 ≤ 2560) (hw : LW G I a m o z) (Q : Option Value → mx_G → mx_I → Prop) (X : String → mx_G → mx_I → Prop) (K : ∀ G' I' z', LW G' I' a m o z' → mx_V (mL_law hh) Sc 10 bc bs 1974 [some (.ref Sc.1), some (.ref a), some (.ref m), some (.ref o), some (.int (nI i)), none, none] [] G' I' Q X) : mx_V (mL_law hh) Sc 10 (bc + 10) (bs + 110) 1762 [some (.ref Sc.1), some (.ref a), some (.ref m), some (.ref o), some (.int (nI i)), none, none] [] G I Q X := by
  refine mx_wk (bc' := bc + 1) (bs' := bs + 6) (by omega) (by omega) ?_
  obtain ⟨hW, hM, hz, ham, to, lo⟩ := id hw
  have tg9 : mx_tg G a = 19 := hW.1.1.1
  have tgm : mx_tg G m = 20 := hM.1.1
  obtain ⟨s1, es1⟩ : ∃ s1, Sc.2.2 (i + 1) = s1 := ⟨_, rfl⟩
  obtain ⟨s2, es2⟩ : ∃ s2, Sc.2.2 (i + 2) = s2 := ⟨_, rfl⟩
  obtain ⟨s3, es3⟩ : ∃ s3, Sc.2.2 (i + 3) = s3 := ⟨_, rfl⟩
  obtain ⟨s4, es4⟩ : ∃ s4, Sc.2.2 (i + 4) = s4 := ⟨_, rfl⟩
  refine mx_aload_n (i := 1) (hi := rfl) (hl := rfl) (hd := dL_law_1762) ?_
  refine mx_aload_n (i := 0) (hi := rfl) (hl := rfl) (hd := dL_law_1763) ?_
  refine mx_iload (i := 4) (hl := rfl) (hd := dL_law_1764) ?_
  refine mx_iconstN 1 dL_law_1766 (by decide) ?_
  refine mx_iaddN dL_law_1767 ?_
  refine mx_scld (i + 1) hS dL_law_1768 ⟨rfl, by omega, by omega⟩ ?_
  refine mx_top (y := s1) es1 ?_
  refine mx_i2l (hv := rfl) (hd := dL_law_1769) ?_
  refine mx_bipushN 32 dL_law_1770 (by decide) ?_
  refine mx_lshl (hv := rfl) (hd := dL_law_1772) ?_
  refine mx_aload_n (i := 0) (hi := rfl) (hl := rfl) (hd := dL_law_1773) ?_
  refine mx_iload (i := 4) (hl := rfl) (hd := dL_law_1774) ?_
  refine mx_iconstN 2 dL_law_1776 (by decide) ?_
  refine mx_iaddN dL_law_1777 ?_
  refine mx_scld (i + 2) hS dL_law_1778 ⟨rfl, by omega, by omega⟩ ?_
  refine mx_top (y := s2) es2 ?_
  refine mx_i2l (hv := rfl) (hd := dL_law_1779) ?_
  refine mx_ldc2 (v := (4294967295)) k_1397 dL_law_1780 ?_
  refine mx_land dL_law_1783 ?_
  refine mx_lor dL_law_1784 ?_
  refine mx_aload_n (i := 0) (hi := rfl) (hl := rfl) (hd := dL_law_1785) ?_
  refine mx_iload (i := 4) (hl := rfl) (hd := dL_law_1786) ?_
  refine mx_iconstN 3 dL_law_1788 (by decide) ?_
  refine mx_iaddN dL_law_1789 ?_
  refine mx_scld (i + 3) hS dL_law_1790 ⟨rfl, by omega, by omega⟩ ?_
  refine mx_top (y := s3) es3 ?_
  refine mx_aload_n (i := 3) (hi := rfl) (hl := rfl) (hd := dL_law_1791) ?_
  refine mx_callSW (As := [.ref a, .long ((s1.toInt64 <<< ((nI 32).toInt64 &&& 63)) ||| (s2.toInt64 &&& (4294967295))), .int s3, .ref o]) (rest := []) (b1 := 1) (b2 := 6) dL_law_1792 (lw_simulate G I a o z hW to lo ((s1.toInt64 <<< ((nI 32).toInt64 &&& 63)) ||| (s2.toInt64 &&& (4294967295))) s3) km_L_simulate rfl k_980 k_981 rfl rfl (Nat.le_of_ble_eq_true rfl) (by decide) (fun _ _ _ q => q.elim) (fun r1 G1 I1 h2 => ?_)
  have hM1 : mW G1 I1 m z := lwQ.m h2 hw
  obtain ⟨to1, lo1⟩ := lwQ.t h2 to lo
  obtain ⟨e9, hq1, hq2⟩ := h2
  subst e9
  have tgm1 : mx_tg G1 m = 20 := hM1.1.1
  refine mx_istoreE (i := 5) (ls' := [some (.ref Sc.1), some (.ref a), some (.ref m), some (.ref o), some (.int (nI i)), some (.int (nI (fl_simulate s3 - 1))), none]) (hd := dL_law_1795) (hn := (by decide : (5 : Nat) < 7)) (hok := rfl) (hls := rfl) ?_
  refine mx_aload_n (i := 2) (hi := rfl) (hl := rfl) (hd := dL_law_1797) ?_
  refine mx_aload_n (i := 0) (hi := rfl) (hl := rfl) (hd := dL_law_1798) ?_
  refine mx_iload (i := 4) (hl := rfl) (hd := dL_law_1799) ?_
  refine mx_iconstN 1 dL_law_1801 (by decide) ?_
  refine mx_iaddN dL_law_1802 ?_
  refine mx_scld (i + 1) hS dL_law_1803 ⟨rfl, by omega, by omega⟩ ?_
  refine mx_top (y := s1) es1 ?_
  refine mx_i2l (hv := rfl) (hd := dL_law_1804) ?_
  refine mx_bipushN 32 dL_law_1805 (by decide) ?_
  refine mx_lshl (hv := rfl) (hd := dL_law_1807) ?_
  refine mx_aload_n (i := 0) (hi := rfl) (hl := rfl) (hd := dL_law_1808) ?_
  refine mx_iload (i := 4) (hl := rfl) (hd := dL_law_1809) ?_
  refine mx_iconstN 2 dL_law_1811 (by decide) ?_
  refine mx_iaddN dL_law_1812 ?_
  refine mx_scld (i + 2) hS dL_law_1813 ⟨rfl, by omega, by omega⟩ ?_
  refine mx_top (y := s2) es2 ?_
  refine mx_i2l (hv := rfl) (hd := dL_law_1814) ?_
  refine mx_ldc2 (v := (4294967295)) k_1397 dL_law_1815 ?_
  refine mx_land dL_law_1818 ?_
  refine mx_lor dL_law_1819 ?_
  refine mx_aload_n (i := 0) (hi := rfl) (hl := rfl) (hd := dL_law_1820) ?_
  refine mx_iload (i := 4) (hl := rfl) (hd := dL_law_1821) ?_
  refine mx_iconstN 3 dL_law_1823 (by decide) ?_
  refine mx_iaddN dL_law_1824 ?_
  refine mx_scld (i + 3) hS dL_law_1825 ⟨rfl, by omega, by omega⟩ ?_
  refine mx_top (y := s3) es3 ?_
  refine mx_callVi (ci := 10) (As := [.long ((s1.toInt64 <<< ((nI 32).toInt64 &&& 63)) ||| (s2.toInt64 &&& (4294967295))), .int s3]) (rest := []) dL_law_1826 (mt_simulate G1 I1 m z hM1 ((s1.toInt64 <<< ((nI 32).toInt64 &&& 63)) ||| (s2.toInt64 &&& (4294967295))) s3) km_X10_simulate rfl k_1382 k_1383 k_1384 (by assumption) rfl rfl (Nat.le_of_ble_eq_true rfl) (by decide) (fun r3 I2 h4 => ?_)
  obtain ⟨hr0, hfr, hy, hn⟩ := h4
  by_cases hk0 : fl_simulate s3 - 1 = 0
  · obtain ⟨e9, hW2⟩ := hy hk0
    have hv := vG_of hW hz
    rw [show nI (am_simulate z ((s1.toInt64 <<< ((nI 32).toInt64 &&& 63)) ||| (s2.toInt64 &&& (4294967295))) s3.toInt.toNat) = nI (an_simulate z ((s1.toInt64 <<< ((nI 32).toInt64 &&& 63)) ||| (s2.toInt64 &&& (4294967295))) s3.toInt.toNat) from (congrArg nI (eq_simulate hv _ _)).symm] at e9
    subst e9
    have f0 : fl_simulate s3 = 0 := mz_simulate z ((s1.toInt64 <<< ((nI 32).toInt64 &&& 63)) ||| (s2.toInt64 &&& (4294967295))) s3 hk0
    refine mx_istoreE (i := 6) (ls' := [some (.ref Sc.1), some (.ref a), some (.ref m), some (.ref o), some (.int (nI i)), some (.int (nI (fl_simulate s3 - 1))), some (.int (nI (an_simulate z ((s1.toInt64 <<< ((nI 32).toInt64 &&& 63)) ||| (s2.toInt64 &&& (4294967295))) s3.toInt.toNat)))]) (hd := dL_law_1829) (hn := (by decide : (6 : Nat) < 7)) (hok := rfl) (hls := rfl) ?_
    refine mx_aload_n (i := 2) (hi := rfl) (hl := rfl) (hd := dL_law_1831) ?_
    refine mx_callVp (ci := 10) (As := []) (rest := []) dL_law_1832 (mt_thrown G1 I2 m hW2.1) km_X10_thrown rfl k_1110 k_1111 k_1112 (by assumption) rfl rfl (Nat.le_of_ble_eq_true rfl) (by decide) ?_
    refine mx_top (y := nI (fl_simulate s3 - 1)) (hr0) ?_
    refine mx_iload (i := 5) (hl := rfl) (hd := dL_law_1835) ?_
    refine mx_icmp_eq (tgt := 1842) dL_law_1837 (by decide) (fun c1837 => ?_) (fun c1837 => ?_)
    · skip
      refine mx_iload (i := 5) (hl := rfl) (hd := dL_law_1842) ?_
      refine mx_if_ne (tgt := 1859) dL_law_1844 (by decide) (fun c1844 => ?_) (fun c1844 => ?_)
      · skip
        exact absurd (show nI (fl_simulate s3 - 1) = 0 by rw [hk0]; rfl) c1844
      · skip
        
        refine mx_aload_n (i := 3) (hi := rfl) (hl := rfl) (hd := dL_law_1847) ?_
        refine mx_iconstN 0 dL_law_1848 (by decide) ?_
        refine mx_lald 0 dL_law_1849 (by assumption) ⟨rfl, by omega, by omega⟩ ?_
        refine mx_topl (y := (nI (an_simulate z ((s1.toInt64 <<< ((nI 32).toInt64 &&& 63)) ||| (s2.toInt64 &&& (4294967295))) s3.toInt.toNat)).toInt64) ((hq1 hk0).2) ?_
        refine mx_iload (i := 6) (hl := rfl) (hd := dL_law_1850) ?_
        refine mx_i2l (hv := rfl) (hd := dL_law_1852) ?_
        refine mx_lcmp dL_law_1853 ?_
        refine mx_if_eq (tgt := 1859) dL_law_1854 (by decide) (fun c1854 => ?_) (fun c1854 => ?_)
        · skip
          refine mx_goto (tgt := 1974) dL_law_1859 (by decide) ?_
          refine mx_leS (ls' := [some (.ref Sc.1), some (.ref a), some (.ref m), some (.ref o), some (.int (nI i)), none, none]) ⟨rfl, rfl, rfl, rfl, rfl, trivial⟩ ?_
          exact K _ _ _ (hw.go (hq1 hk0).1 hW2 hfr (hz))
        · skip
          exact absurd (lgc_self _) c1854
    · skip
      exact absurd rfl c1837
  · obtain ⟨⟨w9, e9⟩, hW2⟩ := hn hk0
    subst e9
    refine mx_istoreE (i := 6) (ls' := [some (.ref Sc.1), some (.ref a), some (.ref m), some (.ref o), some (.int (nI i)), some (.int (nI (fl_simulate s3 - 1))), some (.int w9)]) (hd := dL_law_1829) (hn := (by decide : (6 : Nat) < 7)) (hok := rfl) (hls := rfl) ?_
    refine mx_aload_n (i := 2) (hi := rfl) (hl := rfl) (hd := dL_law_1831) ?_
    refine mx_callVp (ci := 10) (As := []) (rest := []) dL_law_1832 (mt_thrown G1 I2 m hW2.1) km_X10_thrown rfl k_1110 k_1111 k_1112 (by assumption) rfl rfl (Nat.le_of_ble_eq_true rfl) (by decide) ?_
    refine mx_top (y := nI (fl_simulate s3 - 1)) (hr0) ?_
    refine mx_iload (i := 5) (hl := rfl) (hd := dL_law_1835) ?_
    refine mx_icmp_eq (tgt := 1842) dL_law_1837 (by decide) (fun c1837 => ?_) (fun c1837 => ?_)
    · skip
      refine mx_iload (i := 5) (hl := rfl) (hd := dL_law_1842) ?_
      refine mx_if_ne (tgt := 1859) dL_law_1844 (by decide) (fun c1844 => ?_) (fun c1844 => ?_)
      · skip
        
        refine mx_goto (tgt := 1974) dL_law_1859 (by decide) ?_
        refine mx_leS (ls' := [some (.ref Sc.1), some (.ref a), some (.ref m), some (.ref o), some (.int (nI i)), none, none]) ⟨rfl, rfl, rfl, rfl, rfl, trivial⟩ ?_
        exact K _ _ _ (hw.go (hq2 hk0) hW2 hfr hz)
      · skip
        exact absurd ((nI_eq (mb_simulate z ((s1.toInt64 <<< ((nI 32).toInt64 &&& 63)) ||| (s2.toInt64 &&& (4294967295))) s3) (by decide)).mp c1844) hk0
    · skip
      exact absurd rfl c1837
