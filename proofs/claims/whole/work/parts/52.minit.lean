/-! THE REFERENCE: the constructor -/
theorem nwT {G : mx_G} {m off t n : Nat} (ht : mx_tg G m = 20) (hz : mx_sz G = m + off) (h0 : 0 < off) : mx_tg (mx_nw G t n) m = 20 := by
  rw [mx_tg_nw, if_neg (by omega)]; exact ht
theorem nwA {G : mx_G} {m off k t n : Nat} (ht : mx_tg G m = 20) (hz : mx_sz G = m + off) (h0 : 0 < off) : mx_tg (mx_uR (mx_nw G t n) m k (m + off)) m = 20 ∧ mx_sz (mx_uR (mx_nw G t n) m k (m + off)) = m + (off + 1) ∧ (mx_rf (mx_uR (mx_nw G t n) m k (m + off)) m k = m + off ∧ mx_tg (mx_uR (mx_nw G t n) m k (m + off)) (m + off) = t ∧ mx_ln (mx_uR (mx_nw G t n) m k (m + off)) (m + off) = n) ∧ (∀ j o t' n', j ≠ k → o < off → (mx_rf G m j = m + o ∧ mx_tg G (m + o) = t' ∧ mx_ln G (m + o) = n') → (mx_rf (mx_uR (mx_nw G t n) m k (m + off)) m j = m + o ∧ mx_tg (mx_uR (mx_nw G t n) m k (m + off)) (m + o) = t' ∧ mx_ln (mx_uR (mx_nw G t n) m k (m + off)) (m + o) = n')) ∧ (∀ G0, mx_cr G0 G 0 m → mx_cr G0 (mx_uR (mx_nw G t n) m k (m + off)) 0 m) := by
  refine ⟨?_, ?_, ⟨?_, ?_, ?_⟩, ?_, ?_⟩
  · rw [mx_tg_uR, mx_tg_nw, if_neg (by omega)]; exact ht
  · rw [mx_sz_uR, mx_sz_nw, hz]; omega
  · rw [mx_rf_uR, if_pos ⟨rfl, rfl⟩]
  · rw [mx_tg_uR, mx_tg_nw, if_pos hz.symm]
  · rw [mx_ln_uR, mx_ln_nw, if_pos hz.symm]
  · rintro j o t' n' hj ho ⟨h1, h2, h3⟩
    refine ⟨?_, ?_, ?_⟩
    · rw [mx_rf_uR, if_neg (fun q => hj q.2), mx_rf_nw]; exact h1
    · rw [mx_tg_uR, mx_tg_nw, if_neg (by omega)]; exact h2
    · rw [mx_ln_uR, mx_ln_nw, if_neg (by omega)]; exact h3
  · intro G0 c
    exact (c.nw _ _ (by omega)).uR _ _ _ (by omega)

set_option maxHeartbeats 4000000 in
set_option maxRecDepth 100000 in
theorem mt_new (G : mx_G) (I : mx_I) (m : Nat) (ht : mx_tg G m = 20) (hz : mx_sz G = m + 1) : mx_CT yX10_init mX10_init 2 22 3147 [.ref m] G I (fun rv Gz Iz => rv = none ∧ Iz = mx_u I m 8 (nI 0) ∧ mx_sz Gz = m + 23 ∧ mx_cr G Gz 0 m ∧ oMD Gz m) (fun _ _ _ => False) := by
  refine mx_start (k := 0) (by decide) rfl rfl (fun _ => rfl) (Nat.le_of_ble_eq_true rfl) ?_
  show mx_V mX10_init mx_S0 2 22 3147 0 [some (.ref m)] [] G I (fun rv Gz Iz => rv = none ∧ Iz = mx_u I m 8 (nI 0) ∧ mx_sz Gz = m + 23 ∧ mx_cr G Gz 0 m ∧ oMD Gz m) (fun _ _ _ => False)
  have tgm : mx_tg G m = 20 := ht
  have zz : mx_sz G = m + 1 := hz
  have c0 : mx_cr G G 0 m := mx_cr.rf G 0 m
  refine mx_aload_n (i := 0) (hi := rfl) (hl := rfl) (hd := dX10_init_0) ?_
  refine mx_objInit (hd := dX10_init_1) k_1012 k_oi k_oc (by decide) (by decide) ?_
  refine mx_aload_n (i := 0) (hi := rfl) (hl := rfl) (hd := dX10_init_4) ?_
  refine mx_bipushN 110 dX10_init_5 (by decide) ?_
  refine mx_newaE (bc := 21) (bs := 3037) (t := 1) (n := 110) (a := (m + 1)) (by first | rfl | omega) (by first | rfl | omega) dX10_init_7 rfl (by decide) k_ac_int rfl (by decide) (zz) ?_
  refine mx_putF (ci := 10) (k := 1) dX10_init_9 k_1014 (by decide) rfl rfl rfl rfl (nwT tgm zz (by decide)) (by rw [mx_tg_nw, if_pos zz.symm]; decide) ?_
  obtain ⟨tgm, zz, a0, old, cc⟩ := nwA (k := 1) (t := 1) (n := 110) tgm zz (by decide : 0 < 1)
  have c0 := cc G c0
  clear old cc
  generalize mx_uR (mx_nw G 1 110) m 1 (m + 1) = G1 at a0 c0 tgm zz ⊢
  refine mx_aload_n (i := 0) (hi := rfl) (hl := rfl) (hd := dX10_init_12) ?_
  refine mx_sipushN 143 dX10_init_13 (by decide) ?_
  refine mx_newaE (bc := 20) (bs := 2894) (t := 1) (n := 143) (a := (m + 2)) (by first | rfl | omega) (by first | rfl | omega) dX10_init_16 rfl (by decide) k_ac_int rfl (by decide) (zz) ?_
  refine mx_putF (ci := 10) (k := 4) dX10_init_18 k_1017 (by decide) rfl rfl rfl rfl (nwT tgm zz (by decide)) (by rw [mx_tg_nw, if_pos zz.symm]; decide) ?_
  obtain ⟨tgm, zz, a1, old, cc⟩ := nwA (k := 4) (t := 1) (n := 143) tgm zz (by decide : 0 < 2)
  have c0 := cc G c0
  have a0 := old 1 1 1 110 (by decide) (by decide) a0
  clear old cc
  generalize mx_uR (mx_nw G1 1 143) m 4 (m + 2) = G2 at a0 a1 c0 tgm zz ⊢
  refine mx_aload_n (i := 0) (hi := rfl) (hl := rfl) (hd := dX10_init_21) ?_
  refine mx_sipushN 143 dX10_init_22 (by decide) ?_
  refine mx_newaE (bc := 19) (bs := 2751) (t := 1) (n := 143) (a := (m + 3)) (by first | rfl | omega) (by first | rfl | omega) dX10_init_25 rfl (by decide) k_ac_int rfl (by decide) (zz) ?_
  refine mx_putF (ci := 10) (k := 5) dX10_init_27 k_1018 (by decide) rfl rfl rfl rfl (nwT tgm zz (by decide)) (by rw [mx_tg_nw, if_pos zz.symm]; decide) ?_
  obtain ⟨tgm, zz, a2, old, cc⟩ := nwA (k := 5) (t := 1) (n := 143) tgm zz (by decide : 0 < 3)
  have c0 := cc G c0
  have a0 := old 1 1 1 110 (by decide) (by decide) a0
  have a1 := old 4 2 1 143 (by decide) (by decide) a1
  clear old cc
  generalize mx_uR (mx_nw G2 1 143) m 5 (m + 3) = G3 at a0 a1 a2 c0 tgm zz ⊢
  refine mx_aload_n (i := 0) (hi := rfl) (hl := rfl) (hd := dX10_init_30) ?_
  refine mx_sipushN 143 dX10_init_31 (by decide) ?_
  refine mx_newaE (bc := 18) (bs := 2608) (t := 1) (n := 143) (a := (m + 4)) (by first | rfl | omega) (by first | rfl | omega) dX10_init_34 rfl (by decide) k_ac_int rfl (by decide) (zz) ?_
  refine mx_putF (ci := 10) (k := 6) dX10_init_36 k_1019 (by decide) rfl rfl rfl rfl (nwT tgm zz (by decide)) (by rw [mx_tg_nw, if_pos zz.symm]; decide) ?_
  obtain ⟨tgm, zz, a3, old, cc⟩ := nwA (k := 6) (t := 1) (n := 143) tgm zz (by decide : 0 < 4)
  have c0 := cc G c0
  have a0 := old 1 1 1 110 (by decide) (by decide) a0
  have a1 := old 4 2 1 143 (by decide) (by decide) a1
  have a2 := old 5 3 1 143 (by decide) (by decide) a2
  clear old cc
  generalize mx_uR (mx_nw G3 1 143) m 6 (m + 4) = G4 at a0 a1 a2 a3 c0 tgm zz ⊢
  refine mx_aload_n (i := 0) (hi := rfl) (hl := rfl) (hd := dX10_init_39) ?_
  refine mx_sipushN 2002 dX10_init_40 (by decide) ?_
  refine mx_newaE (bc := 17) (bs := 606) (t := 1) (n := 2002) (a := (m + 5)) (by first | rfl | omega) (by first | rfl | omega) dX10_init_43 rfl (by decide) k_ac_int rfl (by decide) (zz) ?_
  refine mx_putF (ci := 10) (k := 7) dX10_init_45 k_1020 (by decide) rfl rfl rfl rfl (nwT tgm zz (by decide)) (by rw [mx_tg_nw, if_pos zz.symm]; decide) ?_
  obtain ⟨tgm, zz, a4, old, cc⟩ := nwA (k := 7) (t := 1) (n := 2002) tgm zz (by decide : 0 < 5)
  have c0 := cc G c0
  have a0 := old 1 1 1 110 (by decide) (by decide) a0
  have a1 := old 4 2 1 143 (by decide) (by decide) a1
  have a2 := old 5 3 1 143 (by decide) (by decide) a2
  have a3 := old 6 4 1 143 (by decide) (by decide) a3
  clear old cc
  generalize mx_uR (mx_nw G4 1 2002) m 7 (m + 5) = G5 at a0 a1 a2 a3 a4 c0 tgm zz ⊢
  refine mx_aload_n (i := 0) (hi := rfl) (hl := rfl) (hd := dX10_init_48) ?_
  refine mx_sipushN 286 dX10_init_49 (by decide) ?_
  refine mx_newaE (bc := 16) (bs := 320) (t := 1) (n := 286) (a := (m + 6)) (by first | rfl | omega) (by first | rfl | omega) dX10_init_52 rfl (by decide) k_ac_int rfl (by decide) (zz) ?_
  refine mx_putF (ci := 10) (k := 9) dX10_init_54 k_1022 (by decide) rfl rfl rfl rfl (nwT tgm zz (by decide)) (by rw [mx_tg_nw, if_pos zz.symm]; decide) ?_
  obtain ⟨tgm, zz, a5, old, cc⟩ := nwA (k := 9) (t := 1) (n := 286) tgm zz (by decide : 0 < 6)
  have c0 := cc G c0
  have a0 := old 1 1 1 110 (by decide) (by decide) a0
  have a1 := old 4 2 1 143 (by decide) (by decide) a1
  have a2 := old 5 3 1 143 (by decide) (by decide) a2
  have a3 := old 6 4 1 143 (by decide) (by decide) a3
  have a4 := old 7 5 1 2002 (by decide) (by decide) a4
  clear old cc
  generalize mx_uR (mx_nw G5 1 286) m 9 (m + 6) = G6 at a0 a1 a2 a3 a4 a5 c0 tgm zz ⊢
  refine mx_aload_n (i := 0) (hi := rfl) (hl := rfl) (hd := dX10_init_57) ?_
  refine mx_iconstN 2 dX10_init_58 (by decide) ?_
  refine mx_newaE (bc := 15) (bs := 318) (t := 3) (n := 2) (a := (m + 7)) (by first | rfl | omega) (by first | rfl | omega) dX10_init_59 rfl (by decide) k_ac_boolean rfl (by decide) (zz) ?_
  refine mx_putF (ci := 10) (k := 10) dX10_init_61 k_1023 (by decide) rfl rfl rfl rfl (nwT tgm zz (by decide)) (by rw [mx_tg_nw, if_pos zz.symm]; decide) ?_
  obtain ⟨tgm, zz, a6, old, cc⟩ := nwA (k := 10) (t := 3) (n := 2) tgm zz (by decide : 0 < 7)
  have c0 := cc G c0
  have a0 := old 1 1 1 110 (by decide) (by decide) a0
  have a1 := old 4 2 1 143 (by decide) (by decide) a1
  have a2 := old 5 3 1 143 (by decide) (by decide) a2
  have a3 := old 6 4 1 143 (by decide) (by decide) a3
  have a4 := old 7 5 1 2002 (by decide) (by decide) a4
  have a5 := old 9 6 1 286 (by decide) (by decide) a5
  clear old cc
  generalize mx_uR (mx_nw G6 3 2) m 10 (m + 7) = G7 at a0 a1 a2 a3 a4 a5 a6 c0 tgm zz ⊢
  refine mx_aload_n (i := 0) (hi := rfl) (hl := rfl) (hd := dX10_init_64) ?_
  refine mx_bipushN 21 dX10_init_65 (by decide) ?_
  refine mx_newaE (bc := 14) (bs := 297) (t := 1) (n := 21) (a := (m + 8)) (by first | rfl | omega) (by first | rfl | omega) dX10_init_67 rfl (by decide) k_ac_int rfl (by decide) (zz) ?_
  refine mx_putF (ci := 10) (k := 15) dX10_init_69 k_1028 (by decide) rfl rfl rfl rfl (nwT tgm zz (by decide)) (by rw [mx_tg_nw, if_pos zz.symm]; decide) ?_
  obtain ⟨tgm, zz, a7, old, cc⟩ := nwA (k := 15) (t := 1) (n := 21) tgm zz (by decide : 0 < 8)
  have c0 := cc G c0
  have a0 := old 1 1 1 110 (by decide) (by decide) a0
  have a1 := old 4 2 1 143 (by decide) (by decide) a1
  have a2 := old 5 3 1 143 (by decide) (by decide) a2
  have a3 := old 6 4 1 143 (by decide) (by decide) a3
  have a4 := old 7 5 1 2002 (by decide) (by decide) a4
  have a5 := old 9 6 1 286 (by decide) (by decide) a5
  have a6 := old 10 7 3 2 (by decide) (by decide) a6
  clear old cc
  generalize mx_uR (mx_nw G7 1 21) m 15 (m + 8) = G8 at a0 a1 a2 a3 a4 a5 a6 a7 c0 tgm zz ⊢
  refine mx_aload_n (i := 0) (hi := rfl) (hl := rfl) (hd := dX10_init_72) ?_
  refine mx_bipushN 21 dX10_init_73 (by decide) ?_
  refine mx_newaE (bc := 13) (bs := 276) (t := 1) (n := 21) (a := (m + 9)) (by first | rfl | omega) (by first | rfl | omega) dX10_init_75 rfl (by decide) k_ac_int rfl (by decide) (zz) ?_
  refine mx_putF (ci := 10) (k := 16) dX10_init_77 k_1029 (by decide) rfl rfl rfl rfl (nwT tgm zz (by decide)) (by rw [mx_tg_nw, if_pos zz.symm]; decide) ?_
  obtain ⟨tgm, zz, a8, old, cc⟩ := nwA (k := 16) (t := 1) (n := 21) tgm zz (by decide : 0 < 9)
  have c0 := cc G c0
  have a0 := old 1 1 1 110 (by decide) (by decide) a0
  have a1 := old 4 2 1 143 (by decide) (by decide) a1
  have a2 := old 5 3 1 143 (by decide) (by decide) a2
  have a3 := old 6 4 1 143 (by decide) (by decide) a3
  have a4 := old 7 5 1 2002 (by decide) (by decide) a4
  have a5 := old 9 6 1 286 (by decide) (by decide) a5
  have a6 := old 10 7 3 2 (by decide) (by decide) a6
  have a7 := old 15 8 1 21 (by decide) (by decide) a7
  clear old cc
  generalize mx_uR (mx_nw G8 1 21) m 16 (m + 9) = G9 at a0 a1 a2 a3 a4 a5 a6 a7 a8 c0 tgm zz ⊢
  refine mx_aload_n (i := 0) (hi := rfl) (hl := rfl) (hd := dX10_init_80) ?_
  refine mx_bipushN 10 dX10_init_81 (by decide) ?_
  refine mx_newaE (bc := 12) (bs := 266) (t := 3) (n := 10) (a := (m + 10)) (by first | rfl | omega) (by first | rfl | omega) dX10_init_83 rfl (by decide) k_ac_boolean rfl (by decide) (zz) ?_
  refine mx_putF (ci := 10) (k := 17) dX10_init_85 k_1030 (by decide) rfl rfl rfl rfl (nwT tgm zz (by decide)) (by rw [mx_tg_nw, if_pos zz.symm]; decide) ?_
  obtain ⟨tgm, zz, a9, old, cc⟩ := nwA (k := 17) (t := 3) (n := 10) tgm zz (by decide : 0 < 10)
  have c0 := cc G c0
  have a0 := old 1 1 1 110 (by decide) (by decide) a0
  have a1 := old 4 2 1 143 (by decide) (by decide) a1
  have a2 := old 5 3 1 143 (by decide) (by decide) a2
  have a3 := old 6 4 1 143 (by decide) (by decide) a3
  have a4 := old 7 5 1 2002 (by decide) (by decide) a4
  have a5 := old 9 6 1 286 (by decide) (by decide) a5
  have a6 := old 10 7 3 2 (by decide) (by decide) a6
  have a7 := old 15 8 1 21 (by decide) (by decide) a7
  have a8 := old 16 9 1 21 (by decide) (by decide) a8
  clear old cc
  generalize mx_uR (mx_nw G9 3 10) m 17 (m + 10) = G10 at a0 a1 a2 a3 a4 a5 a6 a7 a8 a9 c0 tgm zz ⊢
  refine mx_aload_n (i := 0) (hi := rfl) (hl := rfl) (hd := dX10_init_88) ?_
  refine mx_bipushN 10 dX10_init_89 (by decide) ?_
  refine mx_newaE (bc := 11) (bs := 256) (t := 1) (n := 10) (a := (m + 11)) (by first | rfl | omega) (by first | rfl | omega) dX10_init_91 rfl (by decide) k_ac_int rfl (by decide) (zz) ?_
  refine mx_putF (ci := 10) (k := 18) dX10_init_93 k_1031 (by decide) rfl rfl rfl rfl (nwT tgm zz (by decide)) (by rw [mx_tg_nw, if_pos zz.symm]; decide) ?_
  obtain ⟨tgm, zz, a10, old, cc⟩ := nwA (k := 18) (t := 1) (n := 10) tgm zz (by decide : 0 < 11)
  have c0 := cc G c0
  have a0 := old 1 1 1 110 (by decide) (by decide) a0
  have a1 := old 4 2 1 143 (by decide) (by decide) a1
  have a2 := old 5 3 1 143 (by decide) (by decide) a2
  have a3 := old 6 4 1 143 (by decide) (by decide) a3
  have a4 := old 7 5 1 2002 (by decide) (by decide) a4
  have a5 := old 9 6 1 286 (by decide) (by decide) a5
  have a6 := old 10 7 3 2 (by decide) (by decide) a6
  have a7 := old 15 8 1 21 (by decide) (by decide) a7
  have a8 := old 16 9 1 21 (by decide) (by decide) a8
  have a9 := old 17 10 3 10 (by decide) (by decide) a9
  clear old cc
  generalize mx_uR (mx_nw G10 1 10) m 18 (m + 11) = G11 at a0 a1 a2 a3 a4 a5 a6 a7 a8 a9 a10 c0 tgm zz ⊢
  refine mx_aload_n (i := 0) (hi := rfl) (hl := rfl) (hd := dX10_init_96) ?_
  refine mx_bipushN 10 dX10_init_97 (by decide) ?_
  refine mx_newaE (bc := 10) (bs := 246) (t := 1) (n := 10) (a := (m + 12)) (by first | rfl | omega) (by first | rfl | omega) dX10_init_99 rfl (by decide) k_ac_int rfl (by decide) (zz) ?_
  refine mx_putF (ci := 10) (k := 19) dX10_init_101 k_1032 (by decide) rfl rfl rfl rfl (nwT tgm zz (by decide)) (by rw [mx_tg_nw, if_pos zz.symm]; decide) ?_
  obtain ⟨tgm, zz, a11, old, cc⟩ := nwA (k := 19) (t := 1) (n := 10) tgm zz (by decide : 0 < 12)
  have c0 := cc G c0
  have a0 := old 1 1 1 110 (by decide) (by decide) a0
  have a1 := old 4 2 1 143 (by decide) (by decide) a1
  have a2 := old 5 3 1 143 (by decide) (by decide) a2
  have a3 := old 6 4 1 143 (by decide) (by decide) a3
  have a4 := old 7 5 1 2002 (by decide) (by decide) a4
  have a5 := old 9 6 1 286 (by decide) (by decide) a5
  have a6 := old 10 7 3 2 (by decide) (by decide) a6
  have a7 := old 15 8 1 21 (by decide) (by decide) a7
  have a8 := old 16 9 1 21 (by decide) (by decide) a8
  have a9 := old 17 10 3 10 (by decide) (by decide) a9
  have a10 := old 18 11 1 10 (by decide) (by decide) a10
  clear old cc
  generalize mx_uR (mx_nw G11 1 10) m 19 (m + 12) = G12 at a0 a1 a2 a3 a4 a5 a6 a7 a8 a9 a10 a11 c0 tgm zz ⊢
  refine mx_aload_n (i := 0) (hi := rfl) (hl := rfl) (hd := dX10_init_104) ?_
  refine mx_bipushN 10 dX10_init_105 (by decide) ?_
  refine mx_newaE (bc := 9) (bs := 236) (t := 3) (n := 10) (a := (m + 13)) (by first | rfl | omega) (by first | rfl | omega) dX10_init_107 rfl (by decide) k_ac_boolean rfl (by decide) (zz) ?_
  refine mx_putF (ci := 10) (k := 20) dX10_init_109 k_1033 (by decide) rfl rfl rfl rfl (nwT tgm zz (by decide)) (by rw [mx_tg_nw, if_pos zz.symm]; decide) ?_
  obtain ⟨tgm, zz, a12, old, cc⟩ := nwA (k := 20) (t := 3) (n := 10) tgm zz (by decide : 0 < 13)
  have c0 := cc G c0
  have a0 := old 1 1 1 110 (by decide) (by decide) a0
  have a1 := old 4 2 1 143 (by decide) (by decide) a1
  have a2 := old 5 3 1 143 (by decide) (by decide) a2
  have a3 := old 6 4 1 143 (by decide) (by decide) a3
  have a4 := old 7 5 1 2002 (by decide) (by decide) a4
  have a5 := old 9 6 1 286 (by decide) (by decide) a5
  have a6 := old 10 7 3 2 (by decide) (by decide) a6
  have a7 := old 15 8 1 21 (by decide) (by decide) a7
  have a8 := old 16 9 1 21 (by decide) (by decide) a8
  have a9 := old 17 10 3 10 (by decide) (by decide) a9
  have a10 := old 18 11 1 10 (by decide) (by decide) a10
  have a11 := old 19 12 1 10 (by decide) (by decide) a11
  clear old cc
  generalize mx_uR (mx_nw G12 3 10) m 20 (m + 13) = G13 at a0 a1 a2 a3 a4 a5 a6 a7 a8 a9 a10 a11 a12 c0 tgm zz ⊢
  refine mx_aload_n (i := 0) (hi := rfl) (hl := rfl) (hd := dX10_init_112) ?_
  refine mx_bipushN 10 dX10_init_113 (by decide) ?_
  refine mx_newaE (bc := 8) (bs := 226) (t := 1) (n := 10) (a := (m + 14)) (by first | rfl | omega) (by first | rfl | omega) dX10_init_115 rfl (by decide) k_ac_int rfl (by decide) (zz) ?_
  refine mx_putF (ci := 10) (k := 21) dX10_init_117 k_1034 (by decide) rfl rfl rfl rfl (nwT tgm zz (by decide)) (by rw [mx_tg_nw, if_pos zz.symm]; decide) ?_
  obtain ⟨tgm, zz, a13, old, cc⟩ := nwA (k := 21) (t := 1) (n := 10) tgm zz (by decide : 0 < 14)
  have c0 := cc G c0
  have a0 := old 1 1 1 110 (by decide) (by decide) a0
  have a1 := old 4 2 1 143 (by decide) (by decide) a1
  have a2 := old 5 3 1 143 (by decide) (by decide) a2
  have a3 := old 6 4 1 143 (by decide) (by decide) a3
  have a4 := old 7 5 1 2002 (by decide) (by decide) a4
  have a5 := old 9 6 1 286 (by decide) (by decide) a5
  have a6 := old 10 7 3 2 (by decide) (by decide) a6
  have a7 := old 15 8 1 21 (by decide) (by decide) a7
  have a8 := old 16 9 1 21 (by decide) (by decide) a8
  have a9 := old 17 10 3 10 (by decide) (by decide) a9
  have a10 := old 18 11 1 10 (by decide) (by decide) a10
  have a11 := old 19 12 1 10 (by decide) (by decide) a11
  have a12 := old 20 13 3 10 (by decide) (by decide) a12
  clear old cc
  generalize mx_uR (mx_nw G13 1 10) m 21 (m + 14) = G14 at a0 a1 a2 a3 a4 a5 a6 a7 a8 a9 a10 a11 a12 a13 c0 tgm zz ⊢
  refine mx_aload_n (i := 0) (hi := rfl) (hl := rfl) (hd := dX10_init_120) ?_
  refine mx_bipushN 10 dX10_init_121 (by decide) ?_
  refine mx_newaE (bc := 7) (bs := 216) (t := 1) (n := 10) (a := (m + 15)) (by first | rfl | omega) (by first | rfl | omega) dX10_init_123 rfl (by decide) k_ac_int rfl (by decide) (zz) ?_
  refine mx_putF (ci := 10) (k := 22) dX10_init_125 k_1035 (by decide) rfl rfl rfl rfl (nwT tgm zz (by decide)) (by rw [mx_tg_nw, if_pos zz.symm]; decide) ?_
  obtain ⟨tgm, zz, a14, old, cc⟩ := nwA (k := 22) (t := 1) (n := 10) tgm zz (by decide : 0 < 15)
  have c0 := cc G c0
  have a0 := old 1 1 1 110 (by decide) (by decide) a0
  have a1 := old 4 2 1 143 (by decide) (by decide) a1
  have a2 := old 5 3 1 143 (by decide) (by decide) a2
  have a3 := old 6 4 1 143 (by decide) (by decide) a3
  have a4 := old 7 5 1 2002 (by decide) (by decide) a4
  have a5 := old 9 6 1 286 (by decide) (by decide) a5
  have a6 := old 10 7 3 2 (by decide) (by decide) a6
  have a7 := old 15 8 1 21 (by decide) (by decide) a7
  have a8 := old 16 9 1 21 (by decide) (by decide) a8
  have a9 := old 17 10 3 10 (by decide) (by decide) a9
  have a10 := old 18 11 1 10 (by decide) (by decide) a10
  have a11 := old 19 12 1 10 (by decide) (by decide) a11
  have a12 := old 20 13 3 10 (by decide) (by decide) a12
  have a13 := old 21 14 1 10 (by decide) (by decide) a13
  clear old cc
  generalize mx_uR (mx_nw G14 1 10) m 22 (m + 15) = G15 at a0 a1 a2 a3 a4 a5 a6 a7 a8 a9 a10 a11 a12 a13 a14 c0 tgm zz ⊢
  refine mx_aload_n (i := 0) (hi := rfl) (hl := rfl) (hd := dX10_init_128) ?_
  refine mx_bipushN 25 dX10_init_129 (by decide) ?_
  refine mx_newaE (bc := 6) (bs := 191) (t := 1) (n := 25) (a := (m + 16)) (by first | rfl | omega) (by first | rfl | omega) dX10_init_131 rfl (by decide) k_ac_int rfl (by decide) (zz) ?_
  refine mx_putF (ci := 10) (k := 23) dX10_init_133 k_1036 (by decide) rfl rfl rfl rfl (nwT tgm zz (by decide)) (by rw [mx_tg_nw, if_pos zz.symm]; decide) ?_
  obtain ⟨tgm, zz, a15, old, cc⟩ := nwA (k := 23) (t := 1) (n := 25) tgm zz (by decide : 0 < 16)
  have c0 := cc G c0
  have a0 := old 1 1 1 110 (by decide) (by decide) a0
  have a1 := old 4 2 1 143 (by decide) (by decide) a1
  have a2 := old 5 3 1 143 (by decide) (by decide) a2
  have a3 := old 6 4 1 143 (by decide) (by decide) a3
  have a4 := old 7 5 1 2002 (by decide) (by decide) a4
  have a5 := old 9 6 1 286 (by decide) (by decide) a5
  have a6 := old 10 7 3 2 (by decide) (by decide) a6
  have a7 := old 15 8 1 21 (by decide) (by decide) a7
  have a8 := old 16 9 1 21 (by decide) (by decide) a8
  have a9 := old 17 10 3 10 (by decide) (by decide) a9
  have a10 := old 18 11 1 10 (by decide) (by decide) a10
  have a11 := old 19 12 1 10 (by decide) (by decide) a11
  have a12 := old 20 13 3 10 (by decide) (by decide) a12
  have a13 := old 21 14 1 10 (by decide) (by decide) a13
  have a14 := old 22 15 1 10 (by decide) (by decide) a14
  clear old cc
  generalize mx_uR (mx_nw G15 1 25) m 23 (m + 16) = G16 at a0 a1 a2 a3 a4 a5 a6 a7 a8 a9 a10 a11 a12 a13 a14 a15 c0 tgm zz ⊢
  refine mx_aload_n (i := 0) (hi := rfl) (hl := rfl) (hd := dX10_init_136) ?_
  refine mx_sipushN 168 dX10_init_137 (by decide) ?_
  refine mx_newaE (bc := 5) (bs := 23) (t := 1) (n := 168) (a := (m + 17)) (by first | rfl | omega) (by first | rfl | omega) dX10_init_140 rfl (by decide) k_ac_int rfl (by decide) (zz) ?_
  refine mx_putF (ci := 10) (k := 24) dX10_init_142 k_1037 (by decide) rfl rfl rfl rfl (nwT tgm zz (by decide)) (by rw [mx_tg_nw, if_pos zz.symm]; decide) ?_
  obtain ⟨tgm, zz, a16, old, cc⟩ := nwA (k := 24) (t := 1) (n := 168) tgm zz (by decide : 0 < 17)
  have c0 := cc G c0
  have a0 := old 1 1 1 110 (by decide) (by decide) a0
  have a1 := old 4 2 1 143 (by decide) (by decide) a1
  have a2 := old 5 3 1 143 (by decide) (by decide) a2
  have a3 := old 6 4 1 143 (by decide) (by decide) a3
  have a4 := old 7 5 1 2002 (by decide) (by decide) a4
  have a5 := old 9 6 1 286 (by decide) (by decide) a5
  have a6 := old 10 7 3 2 (by decide) (by decide) a6
  have a7 := old 15 8 1 21 (by decide) (by decide) a7
  have a8 := old 16 9 1 21 (by decide) (by decide) a8
  have a9 := old 17 10 3 10 (by decide) (by decide) a9
  have a10 := old 18 11 1 10 (by decide) (by decide) a10
  have a11 := old 19 12 1 10 (by decide) (by decide) a11
  have a12 := old 20 13 3 10 (by decide) (by decide) a12
  have a13 := old 21 14 1 10 (by decide) (by decide) a13
  have a14 := old 22 15 1 10 (by decide) (by decide) a14
  have a15 := old 23 16 1 25 (by decide) (by decide) a15
  clear old cc
  generalize mx_uR (mx_nw G16 1 168) m 24 (m + 17) = G17 at a0 a1 a2 a3 a4 a5 a6 a7 a8 a9 a10 a11 a12 a13 a14 a15 a16 c0 tgm zz ⊢
  refine mx_aload_n (i := 0) (hi := rfl) (hl := rfl) (hd := dX10_init_145) ?_
  refine mx_iconstN 4 dX10_init_146 (by decide) ?_
  refine mx_newaE (bc := 4) (bs := 19) (t := 1) (n := 4) (a := (m + 18)) (by first | rfl | omega) (by first | rfl | omega) dX10_init_147 rfl (by decide) k_ac_int rfl (by decide) (zz) ?_
  refine mx_putF (ci := 10) (k := 25) dX10_init_149 k_1038 (by decide) rfl rfl rfl rfl (nwT tgm zz (by decide)) (by rw [mx_tg_nw, if_pos zz.symm]; decide) ?_
  obtain ⟨tgm, zz, a17, old, cc⟩ := nwA (k := 25) (t := 1) (n := 4) tgm zz (by decide : 0 < 18)
  have c0 := cc G c0
  have a0 := old 1 1 1 110 (by decide) (by decide) a0
  have a1 := old 4 2 1 143 (by decide) (by decide) a1
  have a2 := old 5 3 1 143 (by decide) (by decide) a2
  have a3 := old 6 4 1 143 (by decide) (by decide) a3
  have a4 := old 7 5 1 2002 (by decide) (by decide) a4
  have a5 := old 9 6 1 286 (by decide) (by decide) a5
  have a6 := old 10 7 3 2 (by decide) (by decide) a6
  have a7 := old 15 8 1 21 (by decide) (by decide) a7
  have a8 := old 16 9 1 21 (by decide) (by decide) a8
  have a9 := old 17 10 3 10 (by decide) (by decide) a9
  have a10 := old 18 11 1 10 (by decide) (by decide) a10
  have a11 := old 19 12 1 10 (by decide) (by decide) a11
  have a12 := old 20 13 3 10 (by decide) (by decide) a12
  have a13 := old 21 14 1 10 (by decide) (by decide) a13
  have a14 := old 22 15 1 10 (by decide) (by decide) a14
  have a15 := old 23 16 1 25 (by decide) (by decide) a15
  have a16 := old 24 17 1 168 (by decide) (by decide) a16
  clear old cc
  generalize mx_uR (mx_nw G17 1 4) m 25 (m + 18) = G18 at a0 a1 a2 a3 a4 a5 a6 a7 a8 a9 a10 a11 a12 a13 a14 a15 a16 a17 c0 tgm zz ⊢
  refine mx_aload_n (i := 0) (hi := rfl) (hl := rfl) (hd := dX10_init_152) ?_
  refine mx_iconstN 4 dX10_init_153 (by decide) ?_
  refine mx_newaE (bc := 3) (bs := 15) (t := 1) (n := 4) (a := (m + 19)) (by first | rfl | omega) (by first | rfl | omega) dX10_init_154 rfl (by decide) k_ac_int rfl (by decide) (zz) ?_
  refine mx_putF (ci := 10) (k := 26) dX10_init_156 k_1039 (by decide) rfl rfl rfl rfl (nwT tgm zz (by decide)) (by rw [mx_tg_nw, if_pos zz.symm]; decide) ?_
  obtain ⟨tgm, zz, a18, old, cc⟩ := nwA (k := 26) (t := 1) (n := 4) tgm zz (by decide : 0 < 19)
  have c0 := cc G c0
  have a0 := old 1 1 1 110 (by decide) (by decide) a0
  have a1 := old 4 2 1 143 (by decide) (by decide) a1
  have a2 := old 5 3 1 143 (by decide) (by decide) a2
  have a3 := old 6 4 1 143 (by decide) (by decide) a3
  have a4 := old 7 5 1 2002 (by decide) (by decide) a4
  have a5 := old 9 6 1 286 (by decide) (by decide) a5
  have a6 := old 10 7 3 2 (by decide) (by decide) a6
  have a7 := old 15 8 1 21 (by decide) (by decide) a7
  have a8 := old 16 9 1 21 (by decide) (by decide) a8
  have a9 := old 17 10 3 10 (by decide) (by decide) a9
  have a10 := old 18 11 1 10 (by decide) (by decide) a10
  have a11 := old 19 12 1 10 (by decide) (by decide) a11
  have a12 := old 20 13 3 10 (by decide) (by decide) a12
  have a13 := old 21 14 1 10 (by decide) (by decide) a13
  have a14 := old 22 15 1 10 (by decide) (by decide) a14
  have a15 := old 23 16 1 25 (by decide) (by decide) a15
  have a16 := old 24 17 1 168 (by decide) (by decide) a16
  have a17 := old 25 18 1 4 (by decide) (by decide) a17
  clear old cc
  generalize mx_uR (mx_nw G18 1 4) m 26 (m + 19) = G19 at a0 a1 a2 a3 a4 a5 a6 a7 a8 a9 a10 a11 a12 a13 a14 a15 a16 a17 a18 c0 tgm zz ⊢
  refine mx_aload_n (i := 0) (hi := rfl) (hl := rfl) (hd := dX10_init_159) ?_
  refine mx_iconstN 5 dX10_init_160 (by decide) ?_
  refine mx_newaE (bc := 2) (bs := 10) (t := 1) (n := 5) (a := (m + 20)) (by first | rfl | omega) (by first | rfl | omega) dX10_init_161 rfl (by decide) k_ac_int rfl (by decide) (zz) ?_
  refine mx_putF (ci := 10) (k := 29) dX10_init_163 k_1042 (by decide) rfl rfl rfl rfl (nwT tgm zz (by decide)) (by rw [mx_tg_nw, if_pos zz.symm]; decide) ?_
  obtain ⟨tgm, zz, a19, old, cc⟩ := nwA (k := 29) (t := 1) (n := 5) tgm zz (by decide : 0 < 20)
  have c0 := cc G c0
  have a0 := old 1 1 1 110 (by decide) (by decide) a0
  have a1 := old 4 2 1 143 (by decide) (by decide) a1
  have a2 := old 5 3 1 143 (by decide) (by decide) a2
  have a3 := old 6 4 1 143 (by decide) (by decide) a3
  have a4 := old 7 5 1 2002 (by decide) (by decide) a4
  have a5 := old 9 6 1 286 (by decide) (by decide) a5
  have a6 := old 10 7 3 2 (by decide) (by decide) a6
  have a7 := old 15 8 1 21 (by decide) (by decide) a7
  have a8 := old 16 9 1 21 (by decide) (by decide) a8
  have a9 := old 17 10 3 10 (by decide) (by decide) a9
  have a10 := old 18 11 1 10 (by decide) (by decide) a10
  have a11 := old 19 12 1 10 (by decide) (by decide) a11
  have a12 := old 20 13 3 10 (by decide) (by decide) a12
  have a13 := old 21 14 1 10 (by decide) (by decide) a13
  have a14 := old 22 15 1 10 (by decide) (by decide) a14
  have a15 := old 23 16 1 25 (by decide) (by decide) a15
  have a16 := old 24 17 1 168 (by decide) (by decide) a16
  have a17 := old 25 18 1 4 (by decide) (by decide) a17
  have a18 := old 26 19 1 4 (by decide) (by decide) a18
  clear old cc
  generalize mx_uR (mx_nw G19 1 5) m 29 (m + 20) = G20 at a0 a1 a2 a3 a4 a5 a6 a7 a8 a9 a10 a11 a12 a13 a14 a15 a16 a17 a18 a19 c0 tgm zz ⊢
  refine mx_aload_n (i := 0) (hi := rfl) (hl := rfl) (hd := dX10_init_166) ?_
  refine mx_iconstN 5 dX10_init_167 (by decide) ?_
  refine mx_newaE (bc := 1) (bs := 5) (t := 1) (n := 5) (a := (m + 21)) (by first | rfl | omega) (by first | rfl | omega) dX10_init_168 rfl (by decide) k_ac_int rfl (by decide) (zz) ?_
  refine mx_putF (ci := 10) (k := 30) dX10_init_170 k_1043 (by decide) rfl rfl rfl rfl (nwT tgm zz (by decide)) (by rw [mx_tg_nw, if_pos zz.symm]; decide) ?_
  obtain ⟨tgm, zz, a20, old, cc⟩ := nwA (k := 30) (t := 1) (n := 5) tgm zz (by decide : 0 < 21)
  have c0 := cc G c0
  have a0 := old 1 1 1 110 (by decide) (by decide) a0
  have a1 := old 4 2 1 143 (by decide) (by decide) a1
  have a2 := old 5 3 1 143 (by decide) (by decide) a2
  have a3 := old 6 4 1 143 (by decide) (by decide) a3
  have a4 := old 7 5 1 2002 (by decide) (by decide) a4
  have a5 := old 9 6 1 286 (by decide) (by decide) a5
  have a6 := old 10 7 3 2 (by decide) (by decide) a6
  have a7 := old 15 8 1 21 (by decide) (by decide) a7
  have a8 := old 16 9 1 21 (by decide) (by decide) a8
  have a9 := old 17 10 3 10 (by decide) (by decide) a9
  have a10 := old 18 11 1 10 (by decide) (by decide) a10
  have a11 := old 19 12 1 10 (by decide) (by decide) a11
  have a12 := old 20 13 3 10 (by decide) (by decide) a12
  have a13 := old 21 14 1 10 (by decide) (by decide) a13
  have a14 := old 22 15 1 10 (by decide) (by decide) a14
  have a15 := old 23 16 1 25 (by decide) (by decide) a15
  have a16 := old 24 17 1 168 (by decide) (by decide) a16
  have a17 := old 25 18 1 4 (by decide) (by decide) a17
  have a18 := old 26 19 1 4 (by decide) (by decide) a18
  have a19 := old 29 20 1 5 (by decide) (by decide) a19
  clear old cc
  generalize mx_uR (mx_nw G20 1 5) m 30 (m + 21) = G21 at a0 a1 a2 a3 a4 a5 a6 a7 a8 a9 a10 a11 a12 a13 a14 a15 a16 a17 a18 a19 a20 c0 tgm zz ⊢
  refine mx_aload_n (i := 0) (hi := rfl) (hl := rfl) (hd := dX10_init_173) ?_
  refine mx_iconstN 5 dX10_init_174 (by decide) ?_
  refine mx_newaE (bc := 0) (bs := 0) (t := 1) (n := 5) (a := (m + 22)) (by first | rfl | omega) (by first | rfl | omega) dX10_init_175 rfl (by decide) k_ac_int rfl (by decide) (zz) ?_
  refine mx_putF (ci := 10) (k := 31) dX10_init_177 k_1044 (by decide) rfl rfl rfl rfl (nwT tgm zz (by decide)) (by rw [mx_tg_nw, if_pos zz.symm]; decide) ?_
  obtain ⟨tgm, zz, a21, old, cc⟩ := nwA (k := 31) (t := 1) (n := 5) tgm zz (by decide : 0 < 22)
  have c0 := cc G c0
  have a0 := old 1 1 1 110 (by decide) (by decide) a0
  have a1 := old 4 2 1 143 (by decide) (by decide) a1
  have a2 := old 5 3 1 143 (by decide) (by decide) a2
  have a3 := old 6 4 1 143 (by decide) (by decide) a3
  have a4 := old 7 5 1 2002 (by decide) (by decide) a4
  have a5 := old 9 6 1 286 (by decide) (by decide) a5
  have a6 := old 10 7 3 2 (by decide) (by decide) a6
  have a7 := old 15 8 1 21 (by decide) (by decide) a7
  have a8 := old 16 9 1 21 (by decide) (by decide) a8
  have a9 := old 17 10 3 10 (by decide) (by decide) a9
  have a10 := old 18 11 1 10 (by decide) (by decide) a10
  have a11 := old 19 12 1 10 (by decide) (by decide) a11
  have a12 := old 20 13 3 10 (by decide) (by decide) a12
  have a13 := old 21 14 1 10 (by decide) (by decide) a13
  have a14 := old 22 15 1 10 (by decide) (by decide) a14
  have a15 := old 23 16 1 25 (by decide) (by decide) a15
  have a16 := old 24 17 1 168 (by decide) (by decide) a16
  have a17 := old 25 18 1 4 (by decide) (by decide) a17
  have a18 := old 26 19 1 4 (by decide) (by decide) a18
  have a19 := old 29 20 1 5 (by decide) (by decide) a19
  have a20 := old 30 21 1 5 (by decide) (by decide) a20
  clear old cc
  generalize mx_uR (mx_nw G21 1 5) m 31 (m + 22) = G22 at a0 a1 a2 a3 a4 a5 a6 a7 a8 a9 a10 a11 a12 a13 a14 a15 a16 a17 a18 a19 a20 a21 c0 tgm zz ⊢
  refine mx_aload_n (i := 0) (hi := rfl) (hl := rfl) (hd := dX10_init_180) ?_
  refine mx_iconstN 0 dX10_init_181 (by decide) ?_
  refine mx_putI (ci := 10) (k := 8) dX10_init_182 k_1021 (by decide) rfl rfl rfl rfl tgm ?_
  exact mx_vret dX10_init_185 rfl (⟨rfl, rfl, zz, c0, tgm, a0, a1, a2, a3, a4, a5, a6, a7, a8, a9, a10, a11, a12, a13, a14, a15, a16, a17, a18, a19, a20, a21⟩)
