/-! THE LAW: its wrappers, what is refused told by numbers -/
theorem rg_append (z : Zs) (c : Int32) : fl_append z c = 0 ∨ fl_append z c = 2 ∨ fl_append z c = 3 := by
  unfold fl_append
  (repeat' split) <;> simp
set_option maxHeartbeats 400000 in
set_option maxRecDepth 100000 in
theorem lw_append (G : mx_G) (I : mx_I) (a : Nat) (z : Zs) (hW : cW G I a z) (c : Int32) : mx_CT yL_tryAppend mL_tryAppend 9 2 12 [.ref a, .int c] G I (fun rv Gz Iz => rv = some (.int (tv (fl_append z c) (nI (zN z + 1)))) ∧ cP G I a (tz (fl_append z c) z (nx_append z c)) Gz Iz) (fun _ _ _ => False) := by
  refine mx_startH (k := 1) (by decide) rfl rfl (fun h => nomatch h) (Nat.le_of_ble_eq_true rfl) ?_
  show mx_V mL_tryAppend mx_S0 9 2 12 0 [some (.ref a), some (.int c), none] [] G I (fun rv Gz Iz => rv = some (.int (tv (fl_append z c) (nI (zN z + 1)))) ∧ cP G I a (tz (fl_append z c) z (nx_append z c)) Gz Iz) (fun _ _ _ => False)
  have tg9 : mx_tg G a = 19 := hW.1.1.1
  refine mx_aload_n (i := 0) (hi := rfl) (hl := rfl) (hd := dL_tryAppend_0) ?_
  refine mx_iload_n (i := 1) (hi := rfl) (hl := rfl) (hd := dL_tryAppend_1) ?_
  refine mx_callV (bc := 0) (bs := 0) (ci := 9) (As := [.int c]) (rest := []) (b1 := 2) (b2 := 12) dL_tryAppend_2 (ct_append G I a z hW c) km_X9_append rfl k_671 k_672 k_673 (by assumption) rfl rfl (Nat.le_of_ble_eq_true rfl) (by decide) (fun E G9 I9 h9 => ?_) (fun r1 G1 I1 h2 => ?_)
  · obtain ⟨h1, h2, h3⟩ := h9
    rcases rg_append z c with e | e | e
    · exact absurd e h1
    · rw [e] at h2
      have h2 : E = "java/lang/IllegalArgumentException" := h2
      subst h2
      refine mx_hdl (h := (0, 5, 6, 13)) [] [(0, 5, 10, 27)] rfl (by unfold mx_exs; simp) (fun z9 hz9 => (nomatch hz9)) ⟨by decide, by decide⟩ (by decide) k_333 (fun q9 => ?_)
      refine mx_astoreE_n (i := 2) (ls' := [some (.ref a), some (.int c), some (.ref q9)]) (hi := rfl) (hd := dL_tryAppend_6) (hn := by decide) (hok := rfl) (hls := rfl) ?_
      refine mx_ldc (v := (-9999002)) k_638 dL_tryAppend_7 ?_
      exact mx_iret dL_tryAppend_9 rfl rfl (⟨congrArg (fun z9 => some (Value.int z9)) (tv_2 e).symm, by rw [tz_n h1]; exact h3⟩)
    · rw [e] at h2
      have h2 : E = "java/lang/IllegalStateException" := h2
      subst h2
      refine mx_hdl (h := (0, 5, 10, 27)) [(0, 5, 6, 13)] [] rfl (by unfold mx_exs; simp) (List.forall_mem_cons.mpr ⟨⟨by decide, "java/lang/IllegalArgumentException", k_333, by unfold mx_exs; simp, by decide⟩, fun z9 hz9 => (nomatch hz9)⟩) ⟨by decide, by decide⟩ (by decide) k_670 (fun q9 => ?_)
      refine mx_astoreE_n (i := 2) (ls' := [some (.ref a), some (.int c), some (.ref q9)]) (hi := rfl) (hd := dL_tryAppend_10) (hn := by decide) (hok := rfl) (hls := rfl) ?_
      refine mx_ldc (v := (-9999003)) k_675 dL_tryAppend_11 ?_
      exact mx_iret dL_tryAppend_13 rfl rfl (⟨congrArg (fun z9 => some (Value.int z9)) (tv_3 e).symm, by rw [tz_n h1]; exact h3⟩)
  · obtain ⟨e0, e9, hP⟩ := h2
    subst e9
    exact mx_iret dL_tryAppend_5 rfl rfl (⟨congrArg (fun z9 => some (Value.int z9)) (tv_0 e0).symm, by rw [tz_0 e0]; exact hP⟩)

theorem rg_about (z : Zs) (w : Int32) : fl_about w = 0 ∨ fl_about w = 2 := by
  unfold fl_about
  (repeat' split) <;> simp
set_option maxHeartbeats 400000 in
set_option maxRecDepth 100000 in
theorem lw_about (G : mx_G) (I : mx_I) (a : Nat) (z : Zs) (hW : cW G I a z) (w : Int32) : mx_CT yL_tryAbout mL_tryAbout 9 1 6 [.ref a, .int w] G I (fun rv Gz Iz => rv = some (.int (tv (fl_about w) (an_about z w.toInt.toNat))) ∧ cP G I a z Gz Iz) (fun _ _ _ => False) := by
  refine mx_startH (k := 1) (by decide) rfl rfl (fun h => nomatch h) (Nat.le_of_ble_eq_true rfl) ?_
  show mx_V mL_tryAbout mx_S0 9 1 6 0 [some (.ref a), some (.int w), none] [] G I (fun rv Gz Iz => rv = some (.int (tv (fl_about w) (an_about z w.toInt.toNat))) ∧ cP G I a z Gz Iz) (fun _ _ _ => False)
  have tg9 : mx_tg G a = 19 := hW.1.1.1
  refine mx_aload_n (i := 0) (hi := rfl) (hl := rfl) (hd := dL_tryAbout_0) ?_
  refine mx_iload_n (i := 1) (hi := rfl) (hl := rfl) (hd := dL_tryAbout_1) ?_
  refine mx_callV (bc := 0) (bs := 0) (ci := 9) (As := [.int w]) (rest := []) (b1 := 1) (b2 := 6) dL_tryAbout_2 (ct_about G I a z hW w) km_X9_about rfl k_706 k_707 k_708 (by assumption) rfl rfl (Nat.le_of_ble_eq_true rfl) (by decide) (fun E G9 I9 h9 => ?_) (fun r1 G1 I1 h2 => ?_)
  · obtain ⟨h1, h2, h3⟩ := h9
    rcases rg_about z w with e | e
    · exact absurd e h1
    · rw [e] at h2
      have h2 : E = "java/lang/IllegalArgumentException" := h2
      subst h2
      refine mx_hdl (h := (0, 5, 6, 13)) [] [] rfl (by unfold mx_exs; simp) (fun z9 hz9 => (nomatch hz9)) ⟨by decide, by decide⟩ (by decide) k_333 (fun q9 => ?_)
      refine mx_astoreE_n (i := 2) (ls' := [some (.ref a), some (.int w), some (.ref q9)]) (hi := rfl) (hd := dL_tryAbout_6) (hn := by decide) (hok := rfl) (hls := rfl) ?_
      refine mx_ldc (v := (-9999002)) k_638 dL_tryAbout_7 ?_
      exact mx_iret dL_tryAbout_9 rfl rfl (⟨congrArg (fun z9 => some (Value.int z9)) (tv_2 e).symm, h3⟩)
  · obtain ⟨e0, e9, hP⟩ := h2
    subst e9
    exact mx_iret dL_tryAbout_5 rfl rfl (⟨congrArg (fun z9 => some (Value.int z9)) (tv_0 e0).symm, hP⟩)

theorem rg_step (z : Zs) (s : Int32) (w : Int32) : fl_step z s w = 0 ∨ fl_step z s w = 1 ∨ fl_step z s w = 2 := by
  unfold fl_step
  (repeat' split) <;> simp
set_option maxHeartbeats 400000 in
set_option maxRecDepth 100000 in
theorem lw_step (G : mx_G) (I : mx_I) (a : Nat) (z : Zs) (hW : cW G I a z) (s : Int32) (w : Int32) : mx_CT yL_tryStep mL_tryStep 9 2 12 [.ref a, .int s, .int w] G I (fun rv Gz Iz => rv = some (.int (tv (fl_step z s w) (nI (an_step z s.toInt.toNat w.toInt.toNat)))) ∧ cP G I a z Gz Iz) (fun _ _ _ => False) := by
  refine mx_startH (k := 1) (by decide) rfl rfl (fun h => nomatch h) (Nat.le_of_ble_eq_true rfl) ?_
  show mx_V mL_tryStep mx_S0 9 2 12 0 [some (.ref a), some (.int s), some (.int w), none] [] G I (fun rv Gz Iz => rv = some (.int (tv (fl_step z s w) (nI (an_step z s.toInt.toNat w.toInt.toNat)))) ∧ cP G I a z Gz Iz) (fun _ _ _ => False)
  have tg9 : mx_tg G a = 19 := hW.1.1.1
  refine mx_aload_n (i := 0) (hi := rfl) (hl := rfl) (hd := dL_tryStep_0) ?_
  refine mx_iload_n (i := 1) (hi := rfl) (hl := rfl) (hd := dL_tryStep_1) ?_
  refine mx_iload_n (i := 2) (hi := rfl) (hl := rfl) (hd := dL_tryStep_2) ?_
  refine mx_callV (bc := 0) (bs := 0) (ci := 9) (As := [.int s, .int w]) (rest := []) (b1 := 2) (b2 := 12) dL_tryStep_3 (ct_step G I a z hW s w) km_X9_step rfl k_719 k_720 k_721 (by assumption) rfl rfl (Nat.le_of_ble_eq_true rfl) (by decide) (fun E G9 I9 h9 => ?_) (fun r1 G1 I1 h2 => ?_)
  · obtain ⟨h1, h2, h3⟩ := h9
    rcases rg_step z s w with e | e | e
    · exact absurd e h1
    · rw [e] at h2
      have h2 : E = "java/lang/IndexOutOfBoundsException" := h2
      subst h2
      refine mx_hdl (h := (0, 6, 7, 24)) [] [(0, 6, 11, 13)] rfl (by unfold mx_exs; simp) (fun z9 hz9 => (nomatch hz9)) ⟨by decide, by decide⟩ (by decide) k_718 (fun q9 => ?_)
      refine mx_astoreE_n (i := 3) (ls' := [some (.ref a), some (.int s), some (.int w), some (.ref q9)]) (hi := rfl) (hd := dL_tryStep_7) (hn := by decide) (hok := rfl) (hls := rfl) ?_
      refine mx_ldc (v := (-9999001)) k_723 dL_tryStep_8 ?_
      exact mx_iret dL_tryStep_10 rfl rfl (⟨congrArg (fun z9 => some (Value.int z9)) (tv_1 e).symm, h3⟩)
    · rw [e] at h2
      have h2 : E = "java/lang/IllegalArgumentException" := h2
      subst h2
      refine mx_hdl (h := (0, 6, 11, 13)) [(0, 6, 7, 24)] [] rfl (by unfold mx_exs; simp) (List.forall_mem_cons.mpr ⟨⟨by decide, "java/lang/IndexOutOfBoundsException", k_718, by unfold mx_exs; simp, by decide⟩, fun z9 hz9 => (nomatch hz9)⟩) ⟨by decide, by decide⟩ (by decide) k_333 (fun q9 => ?_)
      refine mx_astoreE_n (i := 3) (ls' := [some (.ref a), some (.int s), some (.int w), some (.ref q9)]) (hi := rfl) (hd := dL_tryStep_11) (hn := by decide) (hok := rfl) (hls := rfl) ?_
      refine mx_ldc (v := (-9999002)) k_638 dL_tryStep_12 ?_
      exact mx_iret dL_tryStep_14 rfl rfl (⟨congrArg (fun z9 => some (Value.int z9)) (tv_2 e).symm, h3⟩)
  · obtain ⟨e0, e9, hP⟩ := h2
    subst e9
    exact mx_iret dL_tryStep_6 rfl rfl (⟨congrArg (fun z9 => some (Value.int z9)) (tv_0 e0).symm, hP⟩)

theorem rg_person (z : Zs) (p : Int32) (w : Int32) : fl_person z p w = 0 ∨ fl_person z p w = 1 ∨ fl_person z p w = 2 := by
  unfold fl_person
  (repeat' split) <;> simp
set_option maxHeartbeats 400000 in
set_option maxRecDepth 100000 in
theorem lw_person (G : mx_G) (I : mx_I) (a : Nat) (z : Zs) (hW : cW G I a z) (p : Int32) (w : Int32) : mx_CT yL_tryPerson mL_tryPerson 9 2 12 [.ref a, .int p, .int w] G I (fun rv Gz Iz => rv = some (.int (tv (fl_person z p w) (nI (an_person z p.toInt.toNat w.toInt.toNat)))) ∧ cP G I a z Gz Iz) (fun _ _ _ => False) := by
  refine mx_startH (k := 1) (by decide) rfl rfl (fun h => nomatch h) (Nat.le_of_ble_eq_true rfl) ?_
  show mx_V mL_tryPerson mx_S0 9 2 12 0 [some (.ref a), some (.int p), some (.int w), none] [] G I (fun rv Gz Iz => rv = some (.int (tv (fl_person z p w) (nI (an_person z p.toInt.toNat w.toInt.toNat)))) ∧ cP G I a z Gz Iz) (fun _ _ _ => False)
  have tg9 : mx_tg G a = 19 := hW.1.1.1
  refine mx_aload_n (i := 0) (hi := rfl) (hl := rfl) (hd := dL_tryPerson_0) ?_
  refine mx_iload_n (i := 1) (hi := rfl) (hl := rfl) (hd := dL_tryPerson_1) ?_
  refine mx_iload_n (i := 2) (hi := rfl) (hl := rfl) (hd := dL_tryPerson_2) ?_
  refine mx_callV (bc := 0) (bs := 0) (ci := 9) (As := [.int p, .int w]) (rest := []) (b1 := 2) (b2 := 12) dL_tryPerson_3 (ct_person G I a z hW p w) km_X9_person rfl k_727 k_728 k_729 (by assumption) rfl rfl (Nat.le_of_ble_eq_true rfl) (by decide) (fun E G9 I9 h9 => ?_) (fun r1 G1 I1 h2 => ?_)
  · obtain ⟨h1, h2, h3⟩ := h9
    rcases rg_person z p w with e | e | e
    · exact absurd e h1
    · rw [e] at h2
      have h2 : E = "java/lang/IndexOutOfBoundsException" := h2
      subst h2
      refine mx_hdl (h := (0, 6, 7, 24)) [] [(0, 6, 11, 13)] rfl (by unfold mx_exs; simp) (fun z9 hz9 => (nomatch hz9)) ⟨by decide, by decide⟩ (by decide) k_718 (fun q9 => ?_)
      refine mx_astoreE_n (i := 3) (ls' := [some (.ref a), some (.int p), some (.int w), some (.ref q9)]) (hi := rfl) (hd := dL_tryPerson_7) (hn := by decide) (hok := rfl) (hls := rfl) ?_
      refine mx_ldc (v := (-9999001)) k_723 dL_tryPerson_8 ?_
      exact mx_iret dL_tryPerson_10 rfl rfl (⟨congrArg (fun z9 => some (Value.int z9)) (tv_1 e).symm, h3⟩)
    · rw [e] at h2
      have h2 : E = "java/lang/IllegalArgumentException" := h2
      subst h2
      refine mx_hdl (h := (0, 6, 11, 13)) [(0, 6, 7, 24)] [] rfl (by unfold mx_exs; simp) (List.forall_mem_cons.mpr ⟨⟨by decide, "java/lang/IndexOutOfBoundsException", k_718, by unfold mx_exs; simp, by decide⟩, fun z9 hz9 => (nomatch hz9)⟩) ⟨by decide, by decide⟩ (by decide) k_333 (fun q9 => ?_)
      refine mx_astoreE_n (i := 3) (ls' := [some (.ref a), some (.int p), some (.int w), some (.ref q9)]) (hi := rfl) (hd := dL_tryPerson_11) (hn := by decide) (hok := rfl) (hls := rfl) ?_
      refine mx_ldc (v := (-9999002)) k_638 dL_tryPerson_12 ?_
      exact mx_iret dL_tryPerson_14 rfl rfl (⟨congrArg (fun z9 => some (Value.int z9)) (tv_2 e).symm, h3⟩)
  · obtain ⟨e0, e9, hP⟩ := h2
    subst e9
    exact mx_iret dL_tryPerson_6 rfl rfl (⟨congrArg (fun z9 => some (Value.int z9)) (tv_0 e0).symm, hP⟩)

theorem rg_find (z : Zs) (p : Int32) (k : Int32) (q : Int32) : fl_find z p k q = 0 ∨ fl_find z p k q = 1 ∨ fl_find z p k q = 2 := by
  unfold fl_find
  (repeat' split) <;> simp
set_option maxHeartbeats 400000 in
set_option maxRecDepth 100000 in
theorem lw_find (G : mx_G) (I : mx_I) (a : Nat) (z : Zs) (hW : cW G I a z) (p : Int32) (k : Int32) (q : Int32) : mx_CT yL_tryFind mL_tryFind 9 2 12 [.ref a, .int p, .int k, .int q] G I (fun rv Gz Iz => rv = some (.int (tv (fl_find z p k q) (oI (an_find z p.toInt.toNat k.toInt.toNat q.toInt.toNat)))) ∧ cP G I a z Gz Iz) (fun _ _ _ => False) := by
  refine mx_startH (k := 1) (by decide) rfl rfl (fun h => nomatch h) (Nat.le_of_ble_eq_true rfl) ?_
  show mx_V mL_tryFind mx_S0 9 2 12 0 [some (.ref a), some (.int p), some (.int k), some (.int q), none] [] G I (fun rv Gz Iz => rv = some (.int (tv (fl_find z p k q) (oI (an_find z p.toInt.toNat k.toInt.toNat q.toInt.toNat)))) ∧ cP G I a z Gz Iz) (fun _ _ _ => False)
  have tg9 : mx_tg G a = 19 := hW.1.1.1
  refine mx_aload_n (i := 0) (hi := rfl) (hl := rfl) (hd := dL_tryFind_0) ?_
  refine mx_iload_n (i := 1) (hi := rfl) (hl := rfl) (hd := dL_tryFind_1) ?_
  refine mx_iload_n (i := 2) (hi := rfl) (hl := rfl) (hd := dL_tryFind_2) ?_
  refine mx_iload_n (i := 3) (hi := rfl) (hl := rfl) (hd := dL_tryFind_3) ?_
  refine mx_callV (bc := 0) (bs := 0) (ci := 9) (As := [.int p, .int k, .int q]) (rest := []) (b1 := 2) (b2 := 12) dL_tryFind_4 (ct_find G I a z hW p k q) km_X9_find rfl k_743 k_744 k_745 (by assumption) rfl rfl (Nat.le_of_ble_eq_true rfl) (by decide) (fun E G9 I9 h9 => ?_) (fun r1 G1 I1 h2 => ?_)
  · obtain ⟨h1, h2, h3⟩ := h9
    rcases rg_find z p k q with e | e | e
    · exact absurd e h1
    · rw [e] at h2
      have h2 : E = "java/lang/IndexOutOfBoundsException" := h2
      subst h2
      refine mx_hdl (h := (0, 7, 8, 24)) [] [(0, 7, 13, 13)] rfl (by unfold mx_exs; simp) (fun z9 hz9 => (nomatch hz9)) ⟨by decide, by decide⟩ (by decide) k_718 (fun q9 => ?_)
      refine mx_astoreE (i := 4) (ls' := [some (.ref a), some (.int p), some (.int k), some (.int q), some (.ref q9)]) (hd := dL_tryFind_8) (hn := by decide) (hok := rfl) (hls := rfl) ?_
      refine mx_ldc (v := (-9999001)) k_723 dL_tryFind_10 ?_
      exact mx_iret dL_tryFind_12 rfl rfl (⟨congrArg (fun z9 => some (Value.int z9)) (tv_1 e).symm, h3⟩)
    · rw [e] at h2
      have h2 : E = "java/lang/IllegalArgumentException" := h2
      subst h2
      refine mx_hdl (h := (0, 7, 13, 13)) [(0, 7, 8, 24)] [] rfl (by unfold mx_exs; simp) (List.forall_mem_cons.mpr ⟨⟨by decide, "java/lang/IndexOutOfBoundsException", k_718, by unfold mx_exs; simp, by decide⟩, fun z9 hz9 => (nomatch hz9)⟩) ⟨by decide, by decide⟩ (by decide) k_333 (fun q9 => ?_)
      refine mx_astoreE (i := 4) (ls' := [some (.ref a), some (.int p), some (.int k), some (.int q), some (.ref q9)]) (hd := dL_tryFind_13) (hn := by decide) (hok := rfl) (hls := rfl) ?_
      refine mx_ldc (v := (-9999002)) k_638 dL_tryFind_15 ?_
      exact mx_iret dL_tryFind_17 rfl rfl (⟨congrArg (fun z9 => some (Value.int z9)) (tv_2 e).symm, h3⟩)
  · obtain ⟨e0, e9, hP⟩ := h2
    subst e9
    exact mx_iret dL_tryFind_7 rfl rfl (⟨congrArg (fun z9 => some (Value.int z9)) (tv_0 e0).symm, hP⟩)

theorem rg_patternAt (z : Zs) (j : Int32) : fl_patternAt j = 0 ∨ fl_patternAt j = 2 := by
  unfold fl_patternAt
  (repeat' split) <;> simp
set_option maxHeartbeats 400000 in
set_option maxRecDepth 100000 in
theorem lw_patternAt (G : mx_G) (I : mx_I) (a : Nat) (z : Zs) (hW : cW G I a z) (j : Int32) : mx_CT yL_trySign mL_trySign 9 1 6 [.ref a, .int j] G I (fun rv Gz Iz => rv = some (.int (tv (fl_patternAt j) (an_patternAt z j.toInt.toNat))) ∧ cP G I a z Gz Iz) (fun _ _ _ => False) := by
  refine mx_startH (k := 1) (by decide) rfl rfl (fun h => nomatch h) (Nat.le_of_ble_eq_true rfl) ?_
  show mx_V mL_trySign mx_S0 9 1 6 0 [some (.ref a), some (.int j), none] [] G I (fun rv Gz Iz => rv = some (.int (tv (fl_patternAt j) (an_patternAt z j.toInt.toNat))) ∧ cP G I a z Gz Iz) (fun _ _ _ => False)
  have tg9 : mx_tg G a = 19 := hW.1.1.1
  refine mx_aload_n (i := 0) (hi := rfl) (hl := rfl) (hd := dL_trySign_0) ?_
  refine mx_iload_n (i := 1) (hi := rfl) (hl := rfl) (hd := dL_trySign_1) ?_
  refine mx_callV (bc := 0) (bs := 0) (ci := 9) (As := [.int j]) (rest := []) (b1 := 1) (b2 := 6) dL_trySign_2 (ct_patternAt G I a z hW j) km_X9_patternAt rfl k_751 k_752 k_753 (by assumption) rfl rfl (Nat.le_of_ble_eq_true rfl) (by decide) (fun E G9 I9 h9 => ?_) (fun r1 G1 I1 h2 => ?_)
  · obtain ⟨h1, h2, h3⟩ := h9
    rcases rg_patternAt z j with e | e
    · exact absurd e h1
    · rw [e] at h2
      have h2 : E = "java/lang/IllegalArgumentException" := h2
      subst h2
      refine mx_hdl (h := (0, 5, 6, 13)) [] [] rfl (by unfold mx_exs; simp) (fun z9 hz9 => (nomatch hz9)) ⟨by decide, by decide⟩ (by decide) k_333 (fun q9 => ?_)
      refine mx_astoreE_n (i := 2) (ls' := [some (.ref a), some (.int j), some (.ref q9)]) (hi := rfl) (hd := dL_trySign_6) (hn := by decide) (hok := rfl) (hls := rfl) ?_
      refine mx_ldc (v := (-9999002)) k_638 dL_trySign_7 ?_
      exact mx_iret dL_trySign_9 rfl rfl (⟨congrArg (fun z9 => some (Value.int z9)) (tv_2 e).symm, h3⟩)
  · obtain ⟨e0, e9, hP⟩ := h2
    subst e9
    exact mx_iret dL_trySign_5 rfl rfl (⟨congrArg (fun z9 => some (Value.int z9)) (tv_0 e0).symm, hP⟩)

theorem rg_addPerson (z : Zs) : fl_addPerson z = 0 ∨ fl_addPerson z = 3 := by
  unfold fl_addPerson
  (repeat' split) <;> simp
set_option maxHeartbeats 400000 in
set_option maxRecDepth 100000 in
theorem lw_addPerson (G : mx_G) (I : mx_I) (a : Nat) (z : Zs) (hW : cW G I a z) : mx_CT yL_tryPerson2 mL_tryPerson2 9 1 6 [.ref a] G I (fun rv Gz Iz => rv = some (.int (tv (fl_addPerson z) (nI (gP (zG z))))) ∧ cP G I a (tz (fl_addPerson z) z (nx_addPerson z)) Gz Iz) (fun _ _ _ => False) := by
  refine mx_startH (k := 1) (by decide) rfl rfl (fun h => nomatch h) (Nat.le_of_ble_eq_true rfl) ?_
  show mx_V mL_tryPerson2 mx_S0 9 1 6 0 [some (.ref a), none] [] G I (fun rv Gz Iz => rv = some (.int (tv (fl_addPerson z) (nI (gP (zG z))))) ∧ cP G I a (tz (fl_addPerson z) z (nx_addPerson z)) Gz Iz) (fun _ _ _ => False)
  have tg9 : mx_tg G a = 19 := hW.1.1.1
  refine mx_aload_n (i := 0) (hi := rfl) (hl := rfl) (hd := dL_tryPerson2_0) ?_
  refine mx_callV (bc := 0) (bs := 0) (ci := 9) (As := []) (rest := []) (b1 := 1) (b2 := 6) dL_tryPerson2_1 (ct_addPerson G I a z hW) km_X9_addPerson rfl k_758 k_759 k_760 (by assumption) rfl rfl (Nat.le_of_ble_eq_true rfl) (by decide) (fun E G9 I9 h9 => ?_) (fun r1 G1 I1 h2 => ?_)
  · obtain ⟨h1, h2, h3⟩ := h9
    rcases rg_addPerson z with e | e
    · exact absurd e h1
    · rw [e] at h2
      have h2 : E = "java/lang/IllegalStateException" := h2
      subst h2
      refine mx_hdl (h := (0, 4, 5, 27)) [] [] rfl (by unfold mx_exs; simp) (fun z9 hz9 => (nomatch hz9)) ⟨by decide, by decide⟩ (by decide) k_670 (fun q9 => ?_)
      refine mx_astoreE_n (i := 1) (ls' := [some (.ref a), some (.ref q9)]) (hi := rfl) (hd := dL_tryPerson2_5) (hn := by decide) (hok := rfl) (hls := rfl) ?_
      refine mx_ldc (v := (-9999003)) k_675 dL_tryPerson2_6 ?_
      exact mx_iret dL_tryPerson2_8 rfl rfl (⟨congrArg (fun z9 => some (Value.int z9)) (tv_3 e).symm, by rw [tz_n h1]; exact h3⟩)
  · obtain ⟨e0, e9, hP⟩ := h2
    subst e9
    exact mx_iret dL_tryPerson2_4 rfl rfl (⟨congrArg (fun z9 => some (Value.int z9)) (tv_0 e0).symm, by rw [tz_0 e0]; exact hP⟩)

theorem rg_removeStep (z : Zs) (s : Int32) : fl_one (gN (zG z)) s = 0 ∨ fl_one (gN (zG z)) s = 1 := by
  unfold fl_one
  (repeat' split) <;> simp
set_option maxHeartbeats 400000 in
set_option maxRecDepth 100000 in
theorem lw_removeStep (G : mx_G) (I : mx_I) (a : Nat) (z : Zs) (hW : cW G I a z) (s : Int32) : mx_CT yL_tryCut mL_tryCut 9 1 6 [.ref a, .int s] G I (fun rv Gz Iz => rv = some (.int (tv (fl_one (gN (zG z)) s) (nI (gN (zG z) - 1)))) ∧ cP G I a (tz (fl_one (gN (zG z)) s) z (nx_removeStep z s.toInt.toNat)) Gz Iz) (fun _ _ _ => False) := by
  refine mx_startH (k := 1) (by decide) rfl rfl (fun h => nomatch h) (Nat.le_of_ble_eq_true rfl) ?_
  show mx_V mL_tryCut mx_S0 9 1 6 0 [some (.ref a), some (.int s), none] [] G I (fun rv Gz Iz => rv = some (.int (tv (fl_one (gN (zG z)) s) (nI (gN (zG z) - 1)))) ∧ cP G I a (tz (fl_one (gN (zG z)) s) z (nx_removeStep z s.toInt.toNat)) Gz Iz) (fun _ _ _ => False)
  have tg9 : mx_tg G a = 19 := hW.1.1.1
  refine mx_aload_n (i := 0) (hi := rfl) (hl := rfl) (hd := dL_tryCut_0) ?_
  refine mx_iload_n (i := 1) (hi := rfl) (hl := rfl) (hd := dL_tryCut_1) ?_
  refine mx_callV (bc := 0) (bs := 0) (ci := 9) (As := [.int s]) (rest := []) (b1 := 1) (b2 := 6) dL_tryCut_2 (ct_removeStep G I a z hW s) km_X9_removeStep rfl k_773 k_774 k_775 (by assumption) rfl rfl (Nat.le_of_ble_eq_true rfl) (by decide) (fun E G9 I9 h9 => ?_) (fun r1 G1 I1 h2 => ?_)
  · obtain ⟨h1, h2, h3⟩ := h9
    rcases rg_removeStep z s with e | e
    · exact absurd e h1
    · rw [e] at h2
      have h2 : E = "java/lang/IndexOutOfBoundsException" := h2
      subst h2
      refine mx_hdl (h := (0, 5, 6, 24)) [] [] rfl (by unfold mx_exs; simp) (fun z9 hz9 => (nomatch hz9)) ⟨by decide, by decide⟩ (by decide) k_718 (fun q9 => ?_)
      refine mx_astoreE_n (i := 2) (ls' := [some (.ref a), some (.int s), some (.ref q9)]) (hi := rfl) (hd := dL_tryCut_6) (hn := by decide) (hok := rfl) (hls := rfl) ?_
      refine mx_ldc (v := (-9999001)) k_723 dL_tryCut_7 ?_
      exact mx_iret dL_tryCut_9 rfl rfl (⟨congrArg (fun z9 => some (Value.int z9)) (tv_1 e).symm, by rw [tz_n h1]; exact h3⟩)
  · obtain ⟨e0, e9, hP⟩ := h2
    subst e9
    exact mx_iret dL_tryCut_5 rfl rfl (⟨congrArg (fun z9 => some (Value.int z9)) (tv_0 e0).symm, by rw [tz_0 e0]; exact hP⟩)

theorem rg_setCost (z : Zs) (s : Int32) (c : Int32) : fl_setCost z s c = 0 ∨ fl_setCost z s c = 1 ∨ fl_setCost z s c = 2 := by
  unfold fl_setCost
  (repeat' split) <;> simp
set_option maxHeartbeats 400000 in
set_option maxRecDepth 100000 in
theorem lw_setCost (G : mx_G) (I : mx_I) (a : Nat) (z : Zs) (hW : cW G I a z) (s : Int32) (c : Int32) : mx_CT yL_tryPrice mL_tryPrice 9 1 6 [.ref a, .int s, .int c] G I (fun rv Gz Iz => rv = some (.int (tv (fl_setCost z s c) (nI (gC (zG z) s.toInt.toNat)))) ∧ cP G I a (tz (fl_setCost z s c) z (nx_setCost z s.toInt.toNat c.toInt.toNat)) Gz Iz) (fun _ _ _ => False) := by
  refine mx_startH (k := 1) (by decide) rfl rfl (fun h => nomatch h) (Nat.le_of_ble_eq_true rfl) ?_
  show mx_V mL_tryPrice mx_S0 9 1 6 0 [some (.ref a), some (.int s), some (.int c), none] [] G I (fun rv Gz Iz => rv = some (.int (tv (fl_setCost z s c) (nI (gC (zG z) s.toInt.toNat)))) ∧ cP G I a (tz (fl_setCost z s c) z (nx_setCost z s.toInt.toNat c.toInt.toNat)) Gz Iz) (fun _ _ _ => False)
  have tg9 : mx_tg G a = 19 := hW.1.1.1
  refine mx_aload_n (i := 0) (hi := rfl) (hl := rfl) (hd := dL_tryPrice_0) ?_
  refine mx_iload_n (i := 1) (hi := rfl) (hl := rfl) (hd := dL_tryPrice_1) ?_
  refine mx_iload_n (i := 2) (hi := rfl) (hl := rfl) (hd := dL_tryPrice_2) ?_
  refine mx_callV (bc := 0) (bs := 0) (ci := 9) (As := [.int s, .int c]) (rest := []) (b1 := 1) (b2 := 6) dL_tryPrice_3 (ct_setCost G I a z hW s c) km_X9_setCost rfl k_780 k_781 k_782 (by assumption) rfl rfl (Nat.le_of_ble_eq_true rfl) (by decide) (fun E G9 I9 h9 => ?_) (fun r1 G1 I1 h2 => ?_)
  · obtain ⟨h1, h2, h3⟩ := h9
    rcases rg_setCost z s c with e | e | e
    · exact absurd e h1
    · rw [e] at h2
      have h2 : E = "java/lang/IndexOutOfBoundsException" := h2
      subst h2
      refine mx_hdl (h := (0, 6, 7, 24)) [] [(0, 6, 11, 13)] rfl (by unfold mx_exs; simp) (fun z9 hz9 => (nomatch hz9)) ⟨by decide, by decide⟩ (by decide) k_718 (fun q9 => ?_)
      refine mx_astoreE_n (i := 3) (ls' := [some (.ref a), some (.int s), some (.int c), some (.ref q9)]) (hi := rfl) (hd := dL_tryPrice_7) (hn := by decide) (hok := rfl) (hls := rfl) ?_
      refine mx_ldc (v := (-9999001)) k_723 dL_tryPrice_8 ?_
      exact mx_iret dL_tryPrice_10 rfl rfl (⟨congrArg (fun z9 => some (Value.int z9)) (tv_1 e).symm, by rw [tz_n h1]; exact h3⟩)
    · rw [e] at h2
      have h2 : E = "java/lang/IllegalArgumentException" := h2
      subst h2
      refine mx_hdl (h := (0, 6, 11, 13)) [(0, 6, 7, 24)] [] rfl (by unfold mx_exs; simp) (List.forall_mem_cons.mpr ⟨⟨by decide, "java/lang/IndexOutOfBoundsException", k_718, by unfold mx_exs; simp, by decide⟩, fun z9 hz9 => (nomatch hz9)⟩) ⟨by decide, by decide⟩ (by decide) k_333 (fun q9 => ?_)
      refine mx_astoreE_n (i := 3) (ls' := [some (.ref a), some (.int s), some (.int c), some (.ref q9)]) (hi := rfl) (hd := dL_tryPrice_11) (hn := by decide) (hok := rfl) (hls := rfl) ?_
      refine mx_ldc (v := (-9999002)) k_638 dL_tryPrice_12 ?_
      exact mx_iret dL_tryPrice_14 rfl rfl (⟨congrArg (fun z9 => some (Value.int z9)) (tv_2 e).symm, by rw [tz_n h1]; exact h3⟩)
  · obtain ⟨e0, e9, hP⟩ := h2
    subst e9
    exact mx_iret dL_tryPrice_6 rfl rfl (⟨congrArg (fun z9 => some (Value.int z9)) (tv_0 e0).symm, by rw [tz_0 e0]; exact hP⟩)

theorem rg_turn (z : Zs) (s : Int32) : fl_turn z s = 0 ∨ fl_turn z s = 1 ∨ fl_turn z s = 3 := by
  unfold fl_turn
  (repeat' split) <;> simp
set_option maxHeartbeats 400000 in
set_option maxRecDepth 100000 in
theorem lw_turn (G : mx_G) (I : mx_I) (a : Nat) (z : Zs) (hW : cW G I a z) (s : Int32) : mx_CT yL_tryTurn mL_tryTurn 9 1 6 [.ref a, .int s] G I (fun rv Gz Iz => rv = some (.int (tv (fl_turn z s) (nI (gT (zG z) s.toInt.toNat)))) ∧ cP G I a (tz (fl_turn z s) z (nx_turn z s.toInt.toNat)) Gz Iz) (fun _ _ _ => False) := by
  refine mx_startH (k := 1) (by decide) rfl rfl (fun h => nomatch h) (Nat.le_of_ble_eq_true rfl) ?_
  show mx_V mL_tryTurn mx_S0 9 1 6 0 [some (.ref a), some (.int s), none] [] G I (fun rv Gz Iz => rv = some (.int (tv (fl_turn z s) (nI (gT (zG z) s.toInt.toNat)))) ∧ cP G I a (tz (fl_turn z s) z (nx_turn z s.toInt.toNat)) Gz Iz) (fun _ _ _ => False)
  have tg9 : mx_tg G a = 19 := hW.1.1.1
  refine mx_aload_n (i := 0) (hi := rfl) (hl := rfl) (hd := dL_tryTurn_0) ?_
  refine mx_iload_n (i := 1) (hi := rfl) (hl := rfl) (hd := dL_tryTurn_1) ?_
  refine mx_callV (bc := 0) (bs := 0) (ci := 9) (As := [.int s]) (rest := []) (b1 := 1) (b2 := 6) dL_tryTurn_2 (ct_turn G I a z hW s) km_X9_turn rfl k_787 k_788 k_789 (by assumption) rfl rfl (Nat.le_of_ble_eq_true rfl) (by decide) (fun E G9 I9 h9 => ?_) (fun r1 G1 I1 h2 => ?_)
  · obtain ⟨h1, h2, h3⟩ := h9
    rcases rg_turn z s with e | e | e
    · exact absurd e h1
    · rw [e] at h2
      have h2 : E = "java/lang/IndexOutOfBoundsException" := h2
      subst h2
      refine mx_hdl (h := (0, 5, 6, 24)) [] [(0, 5, 10, 27)] rfl (by unfold mx_exs; simp) (fun z9 hz9 => (nomatch hz9)) ⟨by decide, by decide⟩ (by decide) k_718 (fun q9 => ?_)
      refine mx_astoreE_n (i := 2) (ls' := [some (.ref a), some (.int s), some (.ref q9)]) (hi := rfl) (hd := dL_tryTurn_6) (hn := by decide) (hok := rfl) (hls := rfl) ?_
      refine mx_ldc (v := (-9999001)) k_723 dL_tryTurn_7 ?_
      exact mx_iret dL_tryTurn_9 rfl rfl (⟨congrArg (fun z9 => some (Value.int z9)) (tv_1 e).symm, by rw [tz_n h1]; exact h3⟩)
    · rw [e] at h2
      have h2 : E = "java/lang/IllegalStateException" := h2
      subst h2
      refine mx_hdl (h := (0, 5, 10, 27)) [(0, 5, 6, 24)] [] rfl (by unfold mx_exs; simp) (List.forall_mem_cons.mpr ⟨⟨by decide, "java/lang/IndexOutOfBoundsException", k_718, by unfold mx_exs; simp, by decide⟩, fun z9 hz9 => (nomatch hz9)⟩) ⟨by decide, by decide⟩ (by decide) k_670 (fun q9 => ?_)
      refine mx_astoreE_n (i := 2) (ls' := [some (.ref a), some (.int s), some (.ref q9)]) (hi := rfl) (hd := dL_tryTurn_10) (hn := by decide) (hok := rfl) (hls := rfl) ?_
      refine mx_ldc (v := (-9999003)) k_675 dL_tryTurn_11 ?_
      exact mx_iret dL_tryTurn_13 rfl rfl (⟨congrArg (fun z9 => some (Value.int z9)) (tv_3 e).symm, by rw [tz_n h1]; exact h3⟩)
  · obtain ⟨e0, e9, hP⟩ := h2
    subst e9
    exact mx_iret dL_tryTurn_5 rfl rfl (⟨congrArg (fun z9 => some (Value.int z9)) (tv_0 e0).symm, by rw [tz_0 e0]; exact hP⟩)

theorem rg_exchange (z : Zs) (k : Int32) (l : Int32) : fl_exchange k l = 0 ∨ fl_exchange k l = 2 := by
  unfold fl_exchange
  (repeat' split) <;> simp
set_option maxHeartbeats 400000 in
set_option maxRecDepth 100000 in
theorem lw_exchange (G : mx_G) (I : mx_I) (a : Nat) (z : Zs) (hW : cW G I a z) (k : Int32) (l : Int32) : mx_CT yL_trySwap mL_trySwap 9 1 6 [.ref a, .int k, .int l] G I (fun rv Gz Iz => rv = some (.int (tv (fl_exchange k l) (nI (gCh (gK (zG z)) k.toInt.toNat l.toInt.toNat (gN (zG z)))))) ∧ cP G I a (tz (fl_exchange k l) z (nx_exchange z k.toInt.toNat l.toInt.toNat)) Gz Iz) (fun _ _ _ => False) := by
  refine mx_startH (k := 1) (by decide) rfl rfl (fun h => nomatch h) (Nat.le_of_ble_eq_true rfl) ?_
  show mx_V mL_trySwap mx_S0 9 1 6 0 [some (.ref a), some (.int k), some (.int l), none] [] G I (fun rv Gz Iz => rv = some (.int (tv (fl_exchange k l) (nI (gCh (gK (zG z)) k.toInt.toNat l.toInt.toNat (gN (zG z)))))) ∧ cP G I a (tz (fl_exchange k l) z (nx_exchange z k.toInt.toNat l.toInt.toNat)) Gz Iz) (fun _ _ _ => False)
  have tg9 : mx_tg G a = 19 := hW.1.1.1
  refine mx_aload_n (i := 0) (hi := rfl) (hl := rfl) (hd := dL_trySwap_0) ?_
  refine mx_iload_n (i := 1) (hi := rfl) (hl := rfl) (hd := dL_trySwap_1) ?_
  refine mx_iload_n (i := 2) (hi := rfl) (hl := rfl) (hd := dL_trySwap_2) ?_
  refine mx_callV (bc := 0) (bs := 0) (ci := 9) (As := [.int k, .int l]) (rest := []) (b1 := 1) (b2 := 6) dL_trySwap_3 (ct_exchange G I a z hW k l) km_X9_exchange rfl k_794 k_795 k_796 (by assumption) rfl rfl (Nat.le_of_ble_eq_true rfl) (by decide) (fun E G9 I9 h9 => ?_) (fun r1 G1 I1 h2 => ?_)
  · obtain ⟨h1, h2, h3⟩ := h9
    rcases rg_exchange z k l with e | e
    · exact absurd e h1
    · rw [e] at h2
      have h2 : E = "java/lang/IllegalArgumentException" := h2
      subst h2
      refine mx_hdl (h := (0, 6, 7, 13)) [] [] rfl (by unfold mx_exs; simp) (fun z9 hz9 => (nomatch hz9)) ⟨by decide, by decide⟩ (by decide) k_333 (fun q9 => ?_)
      refine mx_astoreE_n (i := 3) (ls' := [some (.ref a), some (.int k), some (.int l), some (.ref q9)]) (hi := rfl) (hd := dL_trySwap_7) (hn := by decide) (hok := rfl) (hls := rfl) ?_
      refine mx_ldc (v := (-9999002)) k_638 dL_trySwap_8 ?_
      exact mx_iret dL_trySwap_10 rfl rfl (⟨congrArg (fun z9 => some (Value.int z9)) (tv_2 e).symm, by rw [tz_n h1]; exact h3⟩)
  · obtain ⟨e0, e9, hP⟩ := h2
    subst e9
    exact mx_iret dL_trySwap_6 rfl rfl (⟨congrArg (fun z9 => some (Value.int z9)) (tv_0 e0).symm, by rw [tz_0 e0]; exact hP⟩)

theorem rg_take (z : Zs) : fl_take z = 0 ∨ fl_take z = 3 := by
  unfold fl_take
  (repeat' split) <;> simp
set_option maxHeartbeats 400000 in
set_option maxRecDepth 100000 in
theorem lw_take (G : mx_G) (I : mx_I) (a : Nat) (z : Zs) (hW : cW G I a z) : mx_CT yL_tryTake mL_tryTake 9 6 103 [.ref a] G I (fun rv Gz Iz => rv = some (.int (tv (fl_take z) (nI (pL (rdF (zT z) (zN z)))))) ∧ cP G I a (tz (fl_take z) z (nx_take z)) Gz Iz) (fun _ _ _ => False) := by
  refine mx_startH (k := 1) (by decide) rfl rfl (fun h => nomatch h) (Nat.le_of_ble_eq_true rfl) ?_
  show mx_V mL_tryTake mx_S0 9 6 103 0 [some (.ref a), none] [] G I (fun rv Gz Iz => rv = some (.int (tv (fl_take z) (nI (pL (rdF (zT z) (zN z)))))) ∧ cP G I a (tz (fl_take z) z (nx_take z)) Gz Iz) (fun _ _ _ => False)
  have tg9 : mx_tg G a = 19 := hW.1.1.1
  refine mx_aload_n (i := 0) (hi := rfl) (hl := rfl) (hd := dL_tryTake_0) ?_
  refine mx_callV (bc := 0) (bs := 0) (ci := 9) (As := []) (rest := []) (b1 := 6) (b2 := 103) dL_tryTake_1 (ct_take G I a z hW) km_X9_take rfl k_801 k_802 k_803 (by assumption) rfl rfl (Nat.le_of_ble_eq_true rfl) (by decide) (fun E G9 I9 h9 => ?_) (fun r1 G1 I1 h2 => ?_)
  · obtain ⟨h1, h2, h3⟩ := h9
    rcases rg_take z with e | e
    · exact absurd e h1
    · rw [e] at h2
      have h2 : E = "java/lang/IllegalStateException" := h2
      subst h2
      refine mx_hdl (h := (0, 4, 5, 27)) [] [] rfl (by unfold mx_exs; simp) (fun z9 hz9 => (nomatch hz9)) ⟨by decide, by decide⟩ (by decide) k_670 (fun q9 => ?_)
      refine mx_astoreE_n (i := 1) (ls' := [some (.ref a), some (.ref q9)]) (hi := rfl) (hd := dL_tryTake_5) (hn := by decide) (hok := rfl) (hls := rfl) ?_
      refine mx_ldc (v := (-9999003)) k_675 dL_tryTake_6 ?_
      exact mx_iret dL_tryTake_8 rfl rfl (⟨congrArg (fun z9 => some (Value.int z9)) (tv_3 e).symm, by rw [tz_n h1]; exact h3⟩)
  · obtain ⟨e0, e9, hP⟩ := h2
    subst e9
    exact mx_iret dL_tryTake_4 rfl rfl (⟨congrArg (fun z9 => some (Value.int z9)) (tv_0 e0).symm, by rw [tz_0 e0]; exact hP⟩)

theorem rg_undo (z : Zs) : fl_undo z = 0 ∨ fl_undo z = 3 := by
  unfold fl_undo
  (repeat' split) <;> simp
set_option maxHeartbeats 400000 in
set_option maxRecDepth 100000 in
theorem lw_undo (G : mx_G) (I : mx_I) (a : Nat) (z : Zs) (hW : cW G I a z) : mx_CT yL_tryUndo mL_tryUndo 9 1 6 [.ref a] G I (fun rv Gz Iz => rv = some (.int (tv (fl_undo z) (nI (zC z - 1)))) ∧ cP G I a (tz (fl_undo z) z (nx_undo z)) Gz Iz) (fun _ _ _ => False) := by
  refine mx_startH (k := 1) (by decide) rfl rfl (fun h => nomatch h) (Nat.le_of_ble_eq_true rfl) ?_
  show mx_V mL_tryUndo mx_S0 9 1 6 0 [some (.ref a), none] [] G I (fun rv Gz Iz => rv = some (.int (tv (fl_undo z) (nI (zC z - 1)))) ∧ cP G I a (tz (fl_undo z) z (nx_undo z)) Gz Iz) (fun _ _ _ => False)
  have tg9 : mx_tg G a = 19 := hW.1.1.1
  refine mx_aload_n (i := 0) (hi := rfl) (hl := rfl) (hd := dL_tryUndo_0) ?_
  refine mx_callV (bc := 0) (bs := 0) (ci := 9) (As := []) (rest := []) (b1 := 1) (b2 := 6) dL_tryUndo_1 (ct_undo G I a z hW) km_X9_undo rfl k_856 k_857 k_858 (by assumption) rfl rfl (Nat.le_of_ble_eq_true rfl) (by decide) (fun E G9 I9 h9 => ?_) (fun r1 G1 I1 h2 => ?_)
  · obtain ⟨h1, h2, h3⟩ := h9
    rcases rg_undo z with e | e
    · exact absurd e h1
    · rw [e] at h2
      have h2 : E = "java/lang/IllegalStateException" := h2
      subst h2
      refine mx_hdl (h := (0, 4, 5, 27)) [] [] rfl (by unfold mx_exs; simp) (fun z9 hz9 => (nomatch hz9)) ⟨by decide, by decide⟩ (by decide) k_670 (fun q9 => ?_)
      refine mx_astoreE_n (i := 1) (ls' := [some (.ref a), some (.ref q9)]) (hi := rfl) (hd := dL_tryUndo_5) (hn := by decide) (hok := rfl) (hls := rfl) ?_
      refine mx_ldc (v := (-9999003)) k_675 dL_tryUndo_6 ?_
      exact mx_iret dL_tryUndo_8 rfl rfl (⟨congrArg (fun z9 => some (Value.int z9)) (tv_3 e).symm, by rw [tz_n h1]; exact h3⟩)
  · obtain ⟨e0, e9, hP⟩ := h2
    subst e9
    exact mx_iret dL_tryUndo_4 rfl rfl (⟨congrArg (fun z9 => some (Value.int z9)) (tv_0 e0).symm, by rw [tz_0 e0]; exact hP⟩)

theorem rg_cost (z : Zs) (p : Int32) (q : Int32) : fl_two z p q = 0 ∨ fl_two z p q = 1 := by
  unfold fl_two
  (repeat' split) <;> simp
set_option maxHeartbeats 400000 in
set_option maxRecDepth 100000 in
theorem lw_cost (G : mx_G) (I : mx_I) (a : Nat) (z : Zs) (hW : cW G I a z) (p : Int32) (q : Int32) : mx_CT yL_tryCost mL_tryCost 9 1 6 [.ref a, .int p, .int q] G I (fun rv Gz Iz => rv = some (.int (tv (fl_two z p q) (oI (an_cost z p.toInt.toNat q.toInt.toNat)))) ∧ cP G I a z Gz Iz) (fun _ _ _ => False) := by
  refine mx_startH (k := 1) (by decide) rfl rfl (fun h => nomatch h) (Nat.le_of_ble_eq_true rfl) ?_
  show mx_V mL_tryCost mx_S0 9 1 6 0 [some (.ref a), some (.int p), some (.int q), none] [] G I (fun rv Gz Iz => rv = some (.int (tv (fl_two z p q) (oI (an_cost z p.toInt.toNat q.toInt.toNat)))) ∧ cP G I a z Gz Iz) (fun _ _ _ => False)
  have tg9 : mx_tg G a = 19 := hW.1.1.1
  refine mx_aload_n (i := 0) (hi := rfl) (hl := rfl) (hd := dL_tryCost_0) ?_
  refine mx_iload_n (i := 1) (hi := rfl) (hl := rfl) (hd := dL_tryCost_1) ?_
  refine mx_iload_n (i := 2) (hi := rfl) (hl := rfl) (hd := dL_tryCost_2) ?_
  refine mx_callV (bc := 0) (bs := 0) (ci := 9) (As := [.int p, .int q]) (rest := []) (b1 := 1) (b2 := 6) dL_tryCost_3 (ct_cost G I a z hW p q) km_X9_cost rfl k_867 k_868 k_869 (by assumption) rfl rfl (Nat.le_of_ble_eq_true rfl) (by decide) (fun E G9 I9 h9 => ?_) (fun r1 G1 I1 h2 => ?_)
  · obtain ⟨h1, h2, h3⟩ := h9
    rcases rg_cost z p q with e | e
    · exact absurd e h1
    · rw [e] at h2
      have h2 : E = "java/lang/IndexOutOfBoundsException" := h2
      subst h2
      refine mx_hdl (h := (0, 6, 7, 24)) [] [] rfl (by unfold mx_exs; simp) (fun z9 hz9 => (nomatch hz9)) ⟨by decide, by decide⟩ (by decide) k_718 (fun q9 => ?_)
      refine mx_astoreE_n (i := 3) (ls' := [some (.ref a), some (.int p), some (.int q), some (.ref q9)]) (hi := rfl) (hd := dL_tryCost_7) (hn := by decide) (hok := rfl) (hls := rfl) ?_
      refine mx_ldc (v := (-9999001)) k_723 dL_tryCost_8 ?_
      exact mx_iret dL_tryCost_10 rfl rfl (⟨congrArg (fun z9 => some (Value.int z9)) (tv_1 e).symm, h3⟩)
  · obtain ⟨e0, e9, hP⟩ := h2
    subst e9
    exact mx_iret dL_tryCost_6 rfl rfl (⟨congrArg (fun z9 => some (Value.int z9)) (tv_0 e0).symm, hP⟩)

theorem rg_length (z : Zs) (p : Int32) (q : Int32) : fl_two z p q = 0 ∨ fl_two z p q = 1 := by
  unfold fl_two
  (repeat' split) <;> simp
set_option maxHeartbeats 400000 in
set_option maxRecDepth 100000 in
theorem lw_length (G : mx_G) (I : mx_I) (a : Nat) (z : Zs) (hW : cW G I a z) (p : Int32) (q : Int32) : mx_CT yL_tryLong mL_tryLong 9 1 6 [.ref a, .int p, .int q] G I (fun rv Gz Iz => rv = some (.int (tv (fl_two z p q) (oI (an_length z p.toInt.toNat q.toInt.toNat)))) ∧ cP G I a z Gz Iz) (fun _ _ _ => False) := by
  refine mx_startH (k := 1) (by decide) rfl rfl (fun h => nomatch h) (Nat.le_of_ble_eq_true rfl) ?_
  show mx_V mL_tryLong mx_S0 9 1 6 0 [some (.ref a), some (.int p), some (.int q), none] [] G I (fun rv Gz Iz => rv = some (.int (tv (fl_two z p q) (oI (an_length z p.toInt.toNat q.toInt.toNat)))) ∧ cP G I a z Gz Iz) (fun _ _ _ => False)
  have tg9 : mx_tg G a = 19 := hW.1.1.1
  refine mx_aload_n (i := 0) (hi := rfl) (hl := rfl) (hd := dL_tryLong_0) ?_
  refine mx_iload_n (i := 1) (hi := rfl) (hl := rfl) (hd := dL_tryLong_1) ?_
  refine mx_iload_n (i := 2) (hi := rfl) (hl := rfl) (hd := dL_tryLong_2) ?_
  refine mx_callV (bc := 0) (bs := 0) (ci := 9) (As := [.int p, .int q]) (rest := []) (b1 := 1) (b2 := 6) dL_tryLong_3 (ct_length G I a z hW p q) km_X9_length rfl k_874 k_875 k_876 (by assumption) rfl rfl (Nat.le_of_ble_eq_true rfl) (by decide) (fun E G9 I9 h9 => ?_) (fun r1 G1 I1 h2 => ?_)
  · obtain ⟨h1, h2, h3⟩ := h9
    rcases rg_length z p q with e | e
    · exact absurd e h1
    · rw [e] at h2
      have h2 : E = "java/lang/IndexOutOfBoundsException" := h2
      subst h2
      refine mx_hdl (h := (0, 6, 7, 24)) [] [] rfl (by unfold mx_exs; simp) (fun z9 hz9 => (nomatch hz9)) ⟨by decide, by decide⟩ (by decide) k_718 (fun q9 => ?_)
      refine mx_astoreE_n (i := 3) (ls' := [some (.ref a), some (.int p), some (.int q), some (.ref q9)]) (hi := rfl) (hd := dL_tryLong_7) (hn := by decide) (hok := rfl) (hls := rfl) ?_
      refine mx_ldc (v := (-9999001)) k_723 dL_tryLong_8 ?_
      exact mx_iret dL_tryLong_10 rfl rfl (⟨congrArg (fun z9 => some (Value.int z9)) (tv_1 e).symm, h3⟩)
  · obtain ⟨e0, e9, hP⟩ := h2
    subst e9
    exact mx_iret dL_tryLong_6 rfl rfl (⟨congrArg (fun z9 => some (Value.int z9)) (tv_0 e0).symm, hP⟩)

theorem rg_pathAt (z : Zs) (p : Int32) (q : Int32) (j : Int32) : fl_pathAt z p q j = 0 ∨ fl_pathAt z p q j = 1 ∨ fl_pathAt z p q j = 2 := by
  unfold fl_pathAt
  (repeat' split) <;> simp
set_option maxHeartbeats 400000 in
set_option maxRecDepth 100000 in
theorem lw_pathAt (G : mx_G) (I : mx_I) (a : Nat) (z : Zs) (hW : cW G I a z) (p : Int32) (q : Int32) (j : Int32) : mx_CT yL_tryPath mL_tryPath 9 2 12 [.ref a, .int p, .int q, .int j] G I (fun rv Gz Iz => rv = some (.int (tv (fl_pathAt z p q j) (oI (an_pathAt z p.toInt.toNat q.toInt.toNat j.toInt.toNat)))) ∧ cP G I a z Gz Iz) (fun _ _ _ => False) := by
  refine mx_startH (k := 1) (by decide) rfl rfl (fun h => nomatch h) (Nat.le_of_ble_eq_true rfl) ?_
  show mx_V mL_tryPath mx_S0 9 2 12 0 [some (.ref a), some (.int p), some (.int q), some (.int j), none] [] G I (fun rv Gz Iz => rv = some (.int (tv (fl_pathAt z p q j) (oI (an_pathAt z p.toInt.toNat q.toInt.toNat j.toInt.toNat)))) ∧ cP G I a z Gz Iz) (fun _ _ _ => False)
  have tg9 : mx_tg G a = 19 := hW.1.1.1
  refine mx_aload_n (i := 0) (hi := rfl) (hl := rfl) (hd := dL_tryPath_0) ?_
  refine mx_iload_n (i := 1) (hi := rfl) (hl := rfl) (hd := dL_tryPath_1) ?_
  refine mx_iload_n (i := 2) (hi := rfl) (hl := rfl) (hd := dL_tryPath_2) ?_
  refine mx_iload_n (i := 3) (hi := rfl) (hl := rfl) (hd := dL_tryPath_3) ?_
  refine mx_callV (bc := 0) (bs := 0) (ci := 9) (As := [.int p, .int q, .int j]) (rest := []) (b1 := 2) (b2 := 12) dL_tryPath_4 (ct_pathAt G I a z hW p q j) km_X9_pathAt rfl k_881 k_882 k_883 (by assumption) rfl rfl (Nat.le_of_ble_eq_true rfl) (by decide) (fun E G9 I9 h9 => ?_) (fun r1 G1 I1 h2 => ?_)
  · obtain ⟨h1, h2, h3⟩ := h9
    rcases rg_pathAt z p q j with e | e | e
    · exact absurd e h1
    · rw [e] at h2
      have h2 : E = "java/lang/IndexOutOfBoundsException" := h2
      subst h2
      refine mx_hdl (h := (0, 7, 8, 24)) [] [(0, 7, 13, 13)] rfl (by unfold mx_exs; simp) (fun z9 hz9 => (nomatch hz9)) ⟨by decide, by decide⟩ (by decide) k_718 (fun q9 => ?_)
      refine mx_astoreE (i := 4) (ls' := [some (.ref a), some (.int p), some (.int q), some (.int j), some (.ref q9)]) (hd := dL_tryPath_8) (hn := by decide) (hok := rfl) (hls := rfl) ?_
      refine mx_ldc (v := (-9999001)) k_723 dL_tryPath_10 ?_
      exact mx_iret dL_tryPath_12 rfl rfl (⟨congrArg (fun z9 => some (Value.int z9)) (tv_1 e).symm, h3⟩)
    · rw [e] at h2
      have h2 : E = "java/lang/IllegalArgumentException" := h2
      subst h2
      refine mx_hdl (h := (0, 7, 13, 13)) [(0, 7, 8, 24)] [] rfl (by unfold mx_exs; simp) (List.forall_mem_cons.mpr ⟨⟨by decide, "java/lang/IndexOutOfBoundsException", k_718, by unfold mx_exs; simp, by decide⟩, fun z9 hz9 => (nomatch hz9)⟩) ⟨by decide, by decide⟩ (by decide) k_333 (fun q9 => ?_)
      refine mx_astoreE (i := 4) (ls' := [some (.ref a), some (.int p), some (.int q), some (.int j), some (.ref q9)]) (hd := dL_tryPath_13) (hn := by decide) (hok := rfl) (hls := rfl) ?_
      refine mx_ldc (v := (-9999002)) k_638 dL_tryPath_15 ?_
      exact mx_iret dL_tryPath_17 rfl rfl (⟨congrArg (fun z9 => some (Value.int z9)) (tv_2 e).symm, h3⟩)
  · obtain ⟨e0, e9, hP⟩ := h2
    subst e9
    exact mx_iret dL_tryPath_7 rfl rfl (⟨congrArg (fun z9 => some (Value.int z9)) (tv_0 e0).symm, hP⟩)

theorem rg_paths (z : Zs) (p : Int32) (q : Int32) (n : Int32) : fl_paths z p q n = 0 ∨ fl_paths z p q n = 1 ∨ fl_paths z p q n = 2 := by
  unfold fl_paths
  (repeat' split) <;> simp
set_option maxHeartbeats 400000 in
set_option maxRecDepth 100000 in
theorem lw_paths (G : mx_G) (I : mx_I) (a : Nat) (z : Zs) (hW : cW G I a z) (p : Int32) (q : Int32) (n : Int32) : mx_CT yL_tryPaths mL_tryPaths 9 2 12 [.ref a, .int p, .int q, .int n] G I (fun rv Gz Iz => rv = some (.int (tv (fl_paths z p q n) (nI (an_paths z p.toInt.toNat q.toInt.toNat n.toInt.toNat)))) ∧ cP G I a z Gz Iz) (fun _ _ _ => False) := by
  refine mx_startH (k := 1) (by decide) rfl rfl (fun h => nomatch h) (Nat.le_of_ble_eq_true rfl) ?_
  show mx_V mL_tryPaths mx_S0 9 2 12 0 [some (.ref a), some (.int p), some (.int q), some (.int n), none] [] G I (fun rv Gz Iz => rv = some (.int (tv (fl_paths z p q n) (nI (an_paths z p.toInt.toNat q.toInt.toNat n.toInt.toNat)))) ∧ cP G I a z Gz Iz) (fun _ _ _ => False)
  have tg9 : mx_tg G a = 19 := hW.1.1.1
  refine mx_aload_n (i := 0) (hi := rfl) (hl := rfl) (hd := dL_tryPaths_0) ?_
  refine mx_iload_n (i := 1) (hi := rfl) (hl := rfl) (hd := dL_tryPaths_1) ?_
  refine mx_iload_n (i := 2) (hi := rfl) (hl := rfl) (hd := dL_tryPaths_2) ?_
  refine mx_iload_n (i := 3) (hi := rfl) (hl := rfl) (hd := dL_tryPaths_3) ?_
  refine mx_callV (bc := 0) (bs := 0) (ci := 9) (As := [.int p, .int q, .int n]) (rest := []) (b1 := 2) (b2 := 12) dL_tryPaths_4 (ct_paths G I a z hW p q n) km_X9_paths rfl k_914 k_915 k_916 (by assumption) rfl rfl (Nat.le_of_ble_eq_true rfl) (by decide) (fun E G9 I9 h9 => ?_) (fun r1 G1 I1 h2 => ?_)
  · obtain ⟨h1, h2, h3⟩ := h9
    rcases rg_paths z p q n with e | e | e
    · exact absurd e h1
    · rw [e] at h2
      have h2 : E = "java/lang/IndexOutOfBoundsException" := h2
      subst h2
      refine mx_hdl (h := (0, 7, 8, 24)) [] [(0, 7, 13, 13)] rfl (by unfold mx_exs; simp) (fun z9 hz9 => (nomatch hz9)) ⟨by decide, by decide⟩ (by decide) k_718 (fun q9 => ?_)
      refine mx_astoreE (i := 4) (ls' := [some (.ref a), some (.int p), some (.int q), some (.int n), some (.ref q9)]) (hd := dL_tryPaths_8) (hn := by decide) (hok := rfl) (hls := rfl) ?_
      refine mx_ldc (v := (-9999001)) k_723 dL_tryPaths_10 ?_
      exact mx_iret dL_tryPaths_12 rfl rfl (⟨congrArg (fun z9 => some (Value.int z9)) (tv_1 e).symm, h3⟩)
    · rw [e] at h2
      have h2 : E = "java/lang/IllegalArgumentException" := h2
      subst h2
      refine mx_hdl (h := (0, 7, 13, 13)) [(0, 7, 8, 24)] [] rfl (by unfold mx_exs; simp) (List.forall_mem_cons.mpr ⟨⟨by decide, "java/lang/IndexOutOfBoundsException", k_718, by unfold mx_exs; simp, by decide⟩, fun z9 hz9 => (nomatch hz9)⟩) ⟨by decide, by decide⟩ (by decide) k_333 (fun q9 => ?_)
      refine mx_astoreE (i := 4) (ls' := [some (.ref a), some (.int p), some (.int q), some (.int n), some (.ref q9)]) (hd := dL_tryPaths_13) (hn := by decide) (hok := rfl) (hls := rfl) ?_
      refine mx_ldc (v := (-9999002)) k_638 dL_tryPaths_15 ?_
      exact mx_iret dL_tryPaths_17 rfl rfl (⟨congrArg (fun z9 => some (Value.int z9)) (tv_2 e).symm, h3⟩)
  · obtain ⟨e0, e9, hP⟩ := h2
    subst e9
    exact mx_iret dL_tryPaths_7 rfl rfl (⟨congrArg (fun z9 => some (Value.int z9)) (tv_0 e0).symm, hP⟩)

theorem rg_needed (z : Zs) (p : Int32) (q : Int32) : fl_two z p q = 0 ∨ fl_two z p q = 1 := by
  unfold fl_two
  (repeat' split) <;> simp
set_option maxHeartbeats 400000 in
set_option maxRecDepth 100000 in
theorem lw_needed (G : mx_G) (I : mx_I) (a : Nat) (z : Zs) (hW : cW G I a z) (p : Int32) (q : Int32) : mx_CT yL_tryNeeded mL_tryNeeded 9 1 6 [.ref a, .int p, .int q] G I (fun rv Gz Iz => rv = some (.int (tv (fl_two z p q) (nI (an_needed z p.toInt.toNat q.toInt.toNat)))) ∧ cP G I a z Gz Iz) (fun _ _ _ => False) := by
  refine mx_startH (k := 1) (by decide) rfl rfl (fun h => nomatch h) (Nat.le_of_ble_eq_true rfl) ?_
  show mx_V mL_tryNeeded mx_S0 9 1 6 0 [some (.ref a), some (.int p), some (.int q), none] [] G I (fun rv Gz Iz => rv = some (.int (tv (fl_two z p q) (nI (an_needed z p.toInt.toNat q.toInt.toNat)))) ∧ cP G I a z Gz Iz) (fun _ _ _ => False)
  have tg9 : mx_tg G a = 19 := hW.1.1.1
  refine mx_aload_n (i := 0) (hi := rfl) (hl := rfl) (hd := dL_tryNeeded_0) ?_
  refine mx_iload_n (i := 1) (hi := rfl) (hl := rfl) (hd := dL_tryNeeded_1) ?_
  refine mx_iload_n (i := 2) (hi := rfl) (hl := rfl) (hd := dL_tryNeeded_2) ?_
  refine mx_callV (bc := 0) (bs := 0) (ci := 9) (As := [.int p, .int q]) (rest := []) (b1 := 1) (b2 := 6) dL_tryNeeded_3 (ct_needed G I a z hW p q) km_X9_needed rfl k_928 k_929 k_930 (by assumption) rfl rfl (Nat.le_of_ble_eq_true rfl) (by decide) (fun E G9 I9 h9 => ?_) (fun r1 G1 I1 h2 => ?_)
  · obtain ⟨h1, h2, h3⟩ := h9
    rcases rg_needed z p q with e | e
    · exact absurd e h1
    · rw [e] at h2
      have h2 : E = "java/lang/IndexOutOfBoundsException" := h2
      subst h2
      refine mx_hdl (h := (0, 6, 7, 24)) [] [] rfl (by unfold mx_exs; simp) (fun z9 hz9 => (nomatch hz9)) ⟨by decide, by decide⟩ (by decide) k_718 (fun q9 => ?_)
      refine mx_astoreE_n (i := 3) (ls' := [some (.ref a), some (.int p), some (.int q), some (.ref q9)]) (hi := rfl) (hd := dL_tryNeeded_7) (hn := by decide) (hok := rfl) (hls := rfl) ?_
      refine mx_ldc (v := (-9999001)) k_723 dL_tryNeeded_8 ?_
      exact mx_iret dL_tryNeeded_10 rfl rfl (⟨congrArg (fun z9 => some (Value.int z9)) (tv_1 e).symm, h3⟩)
  · obtain ⟨e0, e9, hP⟩ := h2
    subst e9
    exact mx_iret dL_tryNeeded_6 rfl rfl (⟨congrArg (fun z9 => some (Value.int z9)) (tv_0 e0).symm, hP⟩)

theorem rg_bestNew (z : Zs) (p : Int32) (q : Int32) : fl_two z p q = 0 ∨ fl_two z p q = 1 := by
  unfold fl_two
  (repeat' split) <;> simp
set_option maxHeartbeats 400000 in
set_option maxRecDepth 100000 in
theorem lw_bestNew (G : mx_G) (I : mx_I) (a : Nat) (z : Zs) (hW : cW G I a z) (p : Int32) (q : Int32) : mx_CT yL_tryNew mL_tryNew 9 1 6 [.ref a, .int p, .int q] G I (fun rv Gz Iz => rv = some (.int (tv (fl_two z p q) (oI (an_bestNew z p.toInt.toNat q.toInt.toNat)))) ∧ cP G I a z Gz Iz) (fun _ _ _ => False) := by
  refine mx_startH (k := 1) (by decide) rfl rfl (fun h => nomatch h) (Nat.le_of_ble_eq_true rfl) ?_
  show mx_V mL_tryNew mx_S0 9 1 6 0 [some (.ref a), some (.int p), some (.int q), none] [] G I (fun rv Gz Iz => rv = some (.int (tv (fl_two z p q) (oI (an_bestNew z p.toInt.toNat q.toInt.toNat)))) ∧ cP G I a z Gz Iz) (fun _ _ _ => False)
  have tg9 : mx_tg G a = 19 := hW.1.1.1
  refine mx_aload_n (i := 0) (hi := rfl) (hl := rfl) (hd := dL_tryNew_0) ?_
  refine mx_iload_n (i := 1) (hi := rfl) (hl := rfl) (hd := dL_tryNew_1) ?_
  refine mx_iload_n (i := 2) (hi := rfl) (hl := rfl) (hd := dL_tryNew_2) ?_
  refine mx_callV (bc := 0) (bs := 0) (ci := 9) (As := [.int p, .int q]) (rest := []) (b1 := 1) (b2 := 6) dL_tryNew_3 (ct_bestNew G I a z hW p q) km_X9_bestNew rfl k_935 k_936 k_937 (by assumption) rfl rfl (Nat.le_of_ble_eq_true rfl) (by decide) (fun E G9 I9 h9 => ?_) (fun r1 G1 I1 h2 => ?_)
  · obtain ⟨h1, h2, h3⟩ := h9
    rcases rg_bestNew z p q with e | e
    · exact absurd e h1
    · rw [e] at h2
      have h2 : E = "java/lang/IndexOutOfBoundsException" := h2
      subst h2
      refine mx_hdl (h := (0, 6, 7, 24)) [] [] rfl (by unfold mx_exs; simp) (fun z9 hz9 => (nomatch hz9)) ⟨by decide, by decide⟩ (by decide) k_718 (fun q9 => ?_)
      refine mx_astoreE_n (i := 3) (ls' := [some (.ref a), some (.int p), some (.int q), some (.ref q9)]) (hi := rfl) (hd := dL_tryNew_7) (hn := by decide) (hok := rfl) (hls := rfl) ?_
      refine mx_ldc (v := (-9999001)) k_723 dL_tryNew_8 ?_
      exact mx_iret dL_tryNew_10 rfl rfl (⟨congrArg (fun z9 => some (Value.int z9)) (tv_1 e).symm, h3⟩)
  · obtain ⟨e0, e9, hP⟩ := h2
    subst e9
    exact mx_iret dL_tryNew_6 rfl rfl (⟨congrArg (fun z9 => some (Value.int z9)) (tv_0 e0).symm, hP⟩)

theorem rg_save (z : Zs) (s : Int32) : fl_slot s = 0 ∨ fl_slot s = 1 := by
  unfold fl_slot
  (repeat' split) <;> simp
set_option maxHeartbeats 400000 in
set_option maxRecDepth 100000 in
theorem lw_save (G : mx_G) (I : mx_I) (a : Nat) (z : Zs) (hW : cW G I a z) (s : Int32) : mx_CT yL_tryKeep mL_tryKeep 9 1 6 [.ref a, .int s] G I (fun rv Gz Iz => rv = some (.int (tv (fl_slot s) (nI (gN (zG z))))) ∧ cP G I a (tz (fl_slot s) z (nx_save z s.toInt.toNat)) Gz Iz) (fun _ _ _ => False) := by
  refine mx_startH (k := 1) (by decide) rfl rfl (fun h => nomatch h) (Nat.le_of_ble_eq_true rfl) ?_
  show mx_V mL_tryKeep mx_S0 9 1 6 0 [some (.ref a), some (.int s), none] [] G I (fun rv Gz Iz => rv = some (.int (tv (fl_slot s) (nI (gN (zG z))))) ∧ cP G I a (tz (fl_slot s) z (nx_save z s.toInt.toNat)) Gz Iz) (fun _ _ _ => False)
  have tg9 : mx_tg G a = 19 := hW.1.1.1
  refine mx_aload_n (i := 0) (hi := rfl) (hl := rfl) (hd := dL_tryKeep_0) ?_
  refine mx_iload_n (i := 1) (hi := rfl) (hl := rfl) (hd := dL_tryKeep_1) ?_
  refine mx_callV (bc := 0) (bs := 0) (ci := 9) (As := [.int s]) (rest := []) (b1 := 1) (b2 := 6) dL_tryKeep_2 (ct_save G I a z hW s) km_X9_save rfl k_955 k_956 k_957 (by assumption) rfl rfl (Nat.le_of_ble_eq_true rfl) (by decide) (fun E G9 I9 h9 => ?_) (fun r1 G1 I1 h2 => ?_)
  · obtain ⟨h1, h2, h3⟩ := h9
    rcases rg_save z s with e | e
    · exact absurd e h1
    · rw [e] at h2
      have h2 : E = "java/lang/IndexOutOfBoundsException" := h2
      subst h2
      refine mx_hdl (h := (0, 5, 6, 24)) [] [] rfl (by unfold mx_exs; simp) (fun z9 hz9 => (nomatch hz9)) ⟨by decide, by decide⟩ (by decide) k_718 (fun q9 => ?_)
      refine mx_astoreE_n (i := 2) (ls' := [some (.ref a), some (.int s), some (.ref q9)]) (hi := rfl) (hd := dL_tryKeep_6) (hn := by decide) (hok := rfl) (hls := rfl) ?_
      refine mx_ldc (v := (-9999001)) k_723 dL_tryKeep_7 ?_
      exact mx_iret dL_tryKeep_9 rfl rfl (⟨congrArg (fun z9 => some (Value.int z9)) (tv_1 e).symm, by rw [tz_n h1]; exact h3⟩)
  · obtain ⟨e0, e9, hP⟩ := h2
    subst e9
    exact mx_iret dL_tryKeep_5 rfl rfl (⟨congrArg (fun z9 => some (Value.int z9)) (tv_0 e0).symm, by rw [tz_0 e0]; exact hP⟩)

theorem rg_restore (z : Zs) (s : Int32) : fl_restore z s = 0 ∨ fl_restore z s = 1 ∨ fl_restore z s = 3 := by
  unfold fl_restore
  (repeat' split) <;> simp
set_option maxHeartbeats 400000 in
set_option maxRecDepth 100000 in
theorem lw_restore (G : mx_G) (I : mx_I) (a : Nat) (z : Zs) (hW : cW G I a z) (s : Int32) : mx_CT yL_tryBack mL_tryBack 9 2 12 [.ref a, .int s] G I (fun rv Gz Iz => rv = some (.int (tv (fl_restore z s) (nI (gN (zK z s.toInt.toNat).1)))) ∧ cP G I a (tz (fl_restore z s) z (nx_restore z s.toInt.toNat)) Gz Iz) (fun _ _ _ => False) := by
  refine mx_startH (k := 1) (by decide) rfl rfl (fun h => nomatch h) (Nat.le_of_ble_eq_true rfl) ?_
  show mx_V mL_tryBack mx_S0 9 2 12 0 [some (.ref a), some (.int s), none] [] G I (fun rv Gz Iz => rv = some (.int (tv (fl_restore z s) (nI (gN (zK z s.toInt.toNat).1)))) ∧ cP G I a (tz (fl_restore z s) z (nx_restore z s.toInt.toNat)) Gz Iz) (fun _ _ _ => False)
  have tg9 : mx_tg G a = 19 := hW.1.1.1
  refine mx_aload_n (i := 0) (hi := rfl) (hl := rfl) (hd := dL_tryBack_0) ?_
  refine mx_iload_n (i := 1) (hi := rfl) (hl := rfl) (hd := dL_tryBack_1) ?_
  refine mx_callV (bc := 0) (bs := 0) (ci := 9) (As := [.int s]) (rest := []) (b1 := 2) (b2 := 12) dL_tryBack_2 (ct_restore G I a z hW s) km_X9_restore rfl k_965 k_966 k_967 (by assumption) rfl rfl (Nat.le_of_ble_eq_true rfl) (by decide) (fun E G9 I9 h9 => ?_) (fun r1 G1 I1 h2 => ?_)
  · obtain ⟨h1, h2, h3⟩ := h9
    rcases rg_restore z s with e | e | e
    · exact absurd e h1
    · rw [e] at h2
      have h2 : E = "java/lang/IndexOutOfBoundsException" := h2
      subst h2
      refine mx_hdl (h := (0, 5, 6, 24)) [] [(0, 5, 10, 27)] rfl (by unfold mx_exs; simp) (fun z9 hz9 => (nomatch hz9)) ⟨by decide, by decide⟩ (by decide) k_718 (fun q9 => ?_)
      refine mx_astoreE_n (i := 2) (ls' := [some (.ref a), some (.int s), some (.ref q9)]) (hi := rfl) (hd := dL_tryBack_6) (hn := by decide) (hok := rfl) (hls := rfl) ?_
      refine mx_ldc (v := (-9999001)) k_723 dL_tryBack_7 ?_
      exact mx_iret dL_tryBack_9 rfl rfl (⟨congrArg (fun z9 => some (Value.int z9)) (tv_1 e).symm, by rw [tz_n h1]; exact h3⟩)
    · rw [e] at h2
      have h2 : E = "java/lang/IllegalStateException" := h2
      subst h2
      refine mx_hdl (h := (0, 5, 10, 27)) [(0, 5, 6, 24)] [] rfl (by unfold mx_exs; simp) (List.forall_mem_cons.mpr ⟨⟨by decide, "java/lang/IndexOutOfBoundsException", k_718, by unfold mx_exs; simp, by decide⟩, fun z9 hz9 => (nomatch hz9)⟩) ⟨by decide, by decide⟩ (by decide) k_670 (fun q9 => ?_)
      refine mx_astoreE_n (i := 2) (ls' := [some (.ref a), some (.int s), some (.ref q9)]) (hi := rfl) (hd := dL_tryBack_10) (hn := by decide) (hok := rfl) (hls := rfl) ?_
      refine mx_ldc (v := (-9999003)) k_675 dL_tryBack_11 ?_
      exact mx_iret dL_tryBack_13 rfl rfl (⟨congrArg (fun z9 => some (Value.int z9)) (tv_3 e).symm, by rw [tz_n h1]; exact h3⟩)
  · obtain ⟨e0, e9, hP⟩ := h2
    subst e9
    exact mx_iret dL_tryBack_5 rfl rfl (⟨congrArg (fun z9 => some (Value.int z9)) (tv_0 e0).symm, by rw [tz_0 e0]; exact hP⟩)

theorem rg_addStep (z : Zs) (p : Int32) (k : Int32) (q : Int32) (c : Int32) : gWhy (zG z) p k q c = 0 ∨ gWhy (zG z) p k q c = 1 ∨ gWhy (zG z) p k q c = 2 ∨ gWhy (zG z) p k q c = 3 := by
  unfold gWhy
  (repeat' split) <;> simp
set_option maxHeartbeats 400000 in
set_option maxRecDepth 100000 in
theorem lw_addStep (G : mx_G) (I : mx_I) (a : Nat) (z : Zs) (hW : cW G I a z) (p : Int32) (k : Int32) (q : Int32) (c : Int32) : mx_CT yL_tryBuild mL_tryBuild 9 1 6 [.ref a, .int p, .int k, .int q, .int c] G I (fun rv Gz Iz => rv = some (.int (tv (gWhy (zG z) p k q c) (nI (gN (zG z))))) ∧ cP G I a (tz (gWhy (zG z) p k q c) z (nx_addStep z p.toInt.toNat k.toInt.toNat q.toInt.toNat c.toInt.toNat)) Gz Iz) (fun _ _ _ => False) := by
  refine mx_startH (k := 1) (by decide) rfl rfl (fun h => nomatch h) (Nat.le_of_ble_eq_true rfl) ?_
  show mx_V mL_tryBuild mx_S0 9 1 6 0 [some (.ref a), some (.int p), some (.int k), some (.int q), some (.int c), none] [] G I (fun rv Gz Iz => rv = some (.int (tv (gWhy (zG z) p k q c) (nI (gN (zG z))))) ∧ cP G I a (tz (gWhy (zG z) p k q c) z (nx_addStep z p.toInt.toNat k.toInt.toNat q.toInt.toNat c.toInt.toNat)) Gz Iz) (fun _ _ _ => False)
  have tg9 : mx_tg G a = 19 := hW.1.1.1
  refine mx_aload_n (i := 0) (hi := rfl) (hl := rfl) (hd := dL_tryBuild_0) ?_
  refine mx_iload_n (i := 1) (hi := rfl) (hl := rfl) (hd := dL_tryBuild_1) ?_
  refine mx_iload_n (i := 2) (hi := rfl) (hl := rfl) (hd := dL_tryBuild_2) ?_
  refine mx_iload_n (i := 3) (hi := rfl) (hl := rfl) (hd := dL_tryBuild_3) ?_
  refine mx_iload (i := 4) (hl := rfl) (hd := dL_tryBuild_4) ?_
  refine mx_callV (bc := 0) (bs := 0) (ci := 9) (As := [.int p, .int k, .int q, .int c]) (rest := []) (b1 := 1) (b2 := 6) dL_tryBuild_6 (ct_addStep G I a z hW p k q c) km_X9_addStep rfl k_972 k_973 k_974 (by assumption) rfl rfl (Nat.le_of_ble_eq_true rfl) (by decide) (fun E G9 I9 h9 => ?_) (fun r1 G1 I1 h2 => ?_)
  · obtain ⟨h1, h2, h3⟩ := h9
    rcases rg_addStep z p k q c with e | e | e | e
    · exact absurd e h1
    · rw [e] at h2
      have h2 : E = "java/lang/IndexOutOfBoundsException" := h2
      subst h2
      refine mx_hdl (h := (0, 9, 10, 24)) [] [(0, 9, 15, 13), (0, 9, 20, 27)] rfl (by unfold mx_exs; simp) (fun z9 hz9 => (nomatch hz9)) ⟨by decide, by decide⟩ (by decide) k_718 (fun q9 => ?_)
      refine mx_astoreE (i := 5) (ls' := [some (.ref a), some (.int p), some (.int k), some (.int q), some (.int c), some (.ref q9)]) (hd := dL_tryBuild_10) (hn := by decide) (hok := rfl) (hls := rfl) ?_
      refine mx_ldc (v := (-9999001)) k_723 dL_tryBuild_12 ?_
      exact mx_iret dL_tryBuild_14 rfl rfl (⟨congrArg (fun z9 => some (Value.int z9)) (tv_1 e).symm, by rw [tz_n h1]; exact h3⟩)
    · rw [e] at h2
      have h2 : E = "java/lang/IllegalArgumentException" := h2
      subst h2
      refine mx_hdl (h := (0, 9, 15, 13)) [(0, 9, 10, 24)] [(0, 9, 20, 27)] rfl (by unfold mx_exs; simp) (List.forall_mem_cons.mpr ⟨⟨by decide, "java/lang/IndexOutOfBoundsException", k_718, by unfold mx_exs; simp, by decide⟩, fun z9 hz9 => (nomatch hz9)⟩) ⟨by decide, by decide⟩ (by decide) k_333 (fun q9 => ?_)
      refine mx_astoreE (i := 5) (ls' := [some (.ref a), some (.int p), some (.int k), some (.int q), some (.int c), some (.ref q9)]) (hd := dL_tryBuild_15) (hn := by decide) (hok := rfl) (hls := rfl) ?_
      refine mx_ldc (v := (-9999002)) k_638 dL_tryBuild_17 ?_
      exact mx_iret dL_tryBuild_19 rfl rfl (⟨congrArg (fun z9 => some (Value.int z9)) (tv_2 e).symm, by rw [tz_n h1]; exact h3⟩)
    · rw [e] at h2
      have h2 : E = "java/lang/IllegalStateException" := h2
      subst h2
      refine mx_hdl (h := (0, 9, 20, 27)) [(0, 9, 10, 24), (0, 9, 15, 13)] [] rfl (by unfold mx_exs; simp) (List.forall_mem_cons.mpr ⟨⟨by decide, "java/lang/IndexOutOfBoundsException", k_718, by unfold mx_exs; simp, by decide⟩, List.forall_mem_cons.mpr ⟨⟨by decide, "java/lang/IllegalArgumentException", k_333, by unfold mx_exs; simp, by decide⟩, fun z9 hz9 => (nomatch hz9)⟩⟩) ⟨by decide, by decide⟩ (by decide) k_670 (fun q9 => ?_)
      refine mx_astoreE (i := 5) (ls' := [some (.ref a), some (.int p), some (.int k), some (.int q), some (.int c), some (.ref q9)]) (hd := dL_tryBuild_20) (hn := by decide) (hok := rfl) (hls := rfl) ?_
      refine mx_ldc (v := (-9999003)) k_675 dL_tryBuild_22 ?_
      exact mx_iret dL_tryBuild_24 rfl rfl (⟨congrArg (fun z9 => some (Value.int z9)) (tv_3 e).symm, by rw [tz_n h1]; exact h3⟩)
  · obtain ⟨e0, e9, hP⟩ := h2
    subst e9
    exact mx_iret dL_tryBuild_9 rfl rfl (⟨congrArg (fun z9 => some (Value.int z9)) (tv_0 e0).symm, by rw [tz_0 e0]; exact hP⟩)

theorem rg_follow (z : Zs) (p : Int32) (n : Int32) (row : Int64) : fl_follow z p n row = 0 ∨ fl_follow z p n row = 1 ∨ fl_follow z p n row = 2 := by
  unfold fl_follow
  (repeat' split) <;> simp
set_option maxHeartbeats 400000 in
set_option maxRecDepth 100000 in
theorem lw_follow (G : mx_G) (I : mx_I) (a : Nat) (z : Zs) (hW : cW G I a z) (p : Int32) (n : Int32) (row : Int64) : mx_CT yL_tryFollow mL_tryFollow 9 3 18 [.ref a, .int p, .int n, .long row] G I (fun rv Gz Iz => rv = some (.int (tv (fl_follow z p n row) (an_follow z p.toInt.toNat n.toInt.toNat row.toInt.toNat))) ∧ cP G I a z Gz Iz) (fun _ _ _ => False) := by
  refine mx_startH (k := 1) (by decide) rfl rfl (fun h => nomatch h) (Nat.le_of_ble_eq_true rfl) ?_
  show mx_V mL_tryFollow mx_S0 9 3 18 0 [some (.ref a), some (.int p), some (.int n), some (.long row), none, none] [] G I (fun rv Gz Iz => rv = some (.int (tv (fl_follow z p n row) (an_follow z p.toInt.toNat n.toInt.toNat row.toInt.toNat))) ∧ cP G I a z Gz Iz) (fun _ _ _ => False)
  have tg9 : mx_tg G a = 19 := hW.1.1.1
  refine mx_aload_n (i := 0) (hi := rfl) (hl := rfl) (hd := dL_tryFollow_0) ?_
  refine mx_iload_n (i := 1) (hi := rfl) (hl := rfl) (hd := dL_tryFollow_1) ?_
  refine mx_iload_n (i := 2) (hi := rfl) (hl := rfl) (hd := dL_tryFollow_2) ?_
  refine mx_lload_n (i := 3) (hi := rfl) (hl := rfl) (hd := dL_tryFollow_3) ?_
  refine mx_callV (bc := 0) (bs := 0) (ci := 9) (As := [.int p, .int n, .long row]) (rest := []) (b1 := 3) (b2 := 18) dL_tryFollow_4 (ct_follow G I a z hW p n row) km_X9_follow rfl k_981 k_982 k_983 (by assumption) rfl rfl (Nat.le_of_ble_eq_true rfl) (by decide) (fun E G9 I9 h9 => ?_) (fun r1 G1 I1 h2 => ?_)
  · obtain ⟨h1, h2, h3⟩ := h9
    rcases rg_follow z p n row with e | e | e
    · exact absurd e h1
    · rw [e] at h2
      have h2 : E = "java/lang/IndexOutOfBoundsException" := h2
      subst h2
      refine mx_hdl (h := (0, 7, 8, 24)) [] [(0, 7, 13, 13)] rfl (by unfold mx_exs; simp) (fun z9 hz9 => (nomatch hz9)) ⟨by decide, by decide⟩ (by decide) k_718 (fun q9 => ?_)
      refine mx_astoreE (i := 5) (ls' := [some (.ref a), some (.int p), some (.int n), some (.long row), none, some (.ref q9)]) (hd := dL_tryFollow_8) (hn := by decide) (hok := rfl) (hls := rfl) ?_
      refine mx_ldc (v := (-9999001)) k_723 dL_tryFollow_10 ?_
      exact mx_iret dL_tryFollow_12 rfl rfl (⟨congrArg (fun z9 => some (Value.int z9)) (tv_1 e).symm, h3⟩)
    · rw [e] at h2
      have h2 : E = "java/lang/IllegalArgumentException" := h2
      subst h2
      refine mx_hdl (h := (0, 7, 13, 13)) [(0, 7, 8, 24)] [] rfl (by unfold mx_exs; simp) (List.forall_mem_cons.mpr ⟨⟨by decide, "java/lang/IndexOutOfBoundsException", k_718, by unfold mx_exs; simp, by decide⟩, fun z9 hz9 => (nomatch hz9)⟩) ⟨by decide, by decide⟩ (by decide) k_333 (fun q9 => ?_)
      refine mx_astoreE (i := 5) (ls' := [some (.ref a), some (.int p), some (.int n), some (.long row), none, some (.ref q9)]) (hd := dL_tryFollow_13) (hn := by decide) (hok := rfl) (hls := rfl) ?_
      refine mx_ldc (v := (-9999002)) k_638 dL_tryFollow_15 ?_
      exact mx_iret dL_tryFollow_17 rfl rfl (⟨congrArg (fun z9 => some (Value.int z9)) (tv_2 e).symm, h3⟩)
  · obtain ⟨e0, e9, hP⟩ := h2
    subst e9
    exact mx_iret dL_tryFollow_7 rfl rfl (⟨congrArg (fun z9 => some (Value.int z9)) (tv_0 e0).symm, hP⟩)

theorem rg_runScript (z : Zs) (n : Int32) (sc : Int64) : fl_runScript n sc = 0 ∨ fl_runScript n sc = 2 := by
  unfold fl_runScript
  (repeat' split) <;> simp
set_option maxHeartbeats 400000 in
set_option maxRecDepth 100000 in
theorem lw_runScript (G : mx_G) (I : mx_I) (a : Nat) (z : Zs) (hW : cW G I a z) (n : Int32) (sc : Int64) : mx_CT yL_tryScript mL_tryScript 9 2 12 [.ref a, .int n, .long sc] G I (fun rv Gz Iz => rv = some (.int (tv (fl_runScript n sc) (an_runScript z n.toInt.toNat sc.toInt.toNat))) ∧ cP G I a z Gz Iz) (fun _ _ _ => False) := by
  refine mx_startH (k := 1) (by decide) rfl rfl (fun h => nomatch h) (Nat.le_of_ble_eq_true rfl) ?_
  show mx_V mL_tryScript mx_S0 9 2 12 0 [some (.ref a), some (.int n), some (.long sc), none, none] [] G I (fun rv Gz Iz => rv = some (.int (tv (fl_runScript n sc) (an_runScript z n.toInt.toNat sc.toInt.toNat))) ∧ cP G I a z Gz Iz) (fun _ _ _ => False)
  have tg9 : mx_tg G a = 19 := hW.1.1.1
  refine mx_aload_n (i := 0) (hi := rfl) (hl := rfl) (hd := dL_tryScript_0) ?_
  refine mx_iload_n (i := 1) (hi := rfl) (hl := rfl) (hd := dL_tryScript_1) ?_
  refine mx_lload_n (i := 2) (hi := rfl) (hl := rfl) (hd := dL_tryScript_2) ?_
  refine mx_callV (bc := 0) (bs := 0) (ci := 9) (As := [.int n, .long sc]) (rest := []) (b1 := 2) (b2 := 12) dL_tryScript_3 (ct_runScript G I a z hW n sc) km_X9_runScript rfl k_334 k_335 k_336 (by assumption) rfl rfl (Nat.le_of_ble_eq_true rfl) (by decide) (fun E G9 I9 h9 => ?_) (fun r1 G1 I1 h2 => ?_)
  · obtain ⟨h1, h2, h3⟩ := h9
    rcases rg_runScript z n sc with e | e
    · exact absurd e h1
    · rw [e] at h2
      have h2 : E = "java/lang/IllegalArgumentException" := h2
      subst h2
      refine mx_hdl (h := (0, 6, 7, 13)) [] [] rfl (by unfold mx_exs; simp) (fun z9 hz9 => (nomatch hz9)) ⟨by decide, by decide⟩ (by decide) k_333 (fun q9 => ?_)
      refine mx_astoreE (i := 4) (ls' := [some (.ref a), some (.int n), some (.long sc), none, some (.ref q9)]) (hd := dL_tryScript_7) (hn := by decide) (hok := rfl) (hls := rfl) ?_
      refine mx_ldc (v := (-9999002)) k_638 dL_tryScript_9 ?_
      exact mx_iret dL_tryScript_11 rfl rfl (⟨congrArg (fun z9 => some (Value.int z9)) (tv_2 e).symm, h3⟩)
  · obtain ⟨e0, e9, hP⟩ := h2
    subst e9
    exact mx_iret dL_tryScript_6 rfl rfl (⟨congrArg (fun z9 => some (Value.int z9)) (tv_0 e0).symm, hP⟩)

theorem rg_simulate (z : Zs) (seed : Int64) (dm : Int32) : fl_simulate dm = 0 ∨ fl_simulate dm = 2 := by
  unfold fl_simulate
  (repeat' split) <;> simp
set_option maxHeartbeats 400000 in
set_option maxRecDepth 100000 in
theorem lw_simulate (G : mx_G) (I : mx_I) (a : Nat) (z : Zs) (hW : cW G I a z) (seed : Int64) (dm : Int32) : mx_CT yL_trySimulate mL_trySimulate 9 1 6 [.ref a, .long seed, .int dm] G I (fun rv Gz Iz => rv = some (.int (tv (fl_simulate dm) (nI (an_simulate z seed dm.toInt.toNat)))) ∧ cP G I a z Gz Iz) (fun _ _ _ => False) := by
  refine mx_startH (k := 1) (by decide) rfl rfl (fun h => nomatch h) (Nat.le_of_ble_eq_true rfl) ?_
  show mx_V mL_trySimulate mx_S0 9 1 6 0 [some (.ref a), some (.long seed), none, some (.int dm), none] [] G I (fun rv Gz Iz => rv = some (.int (tv (fl_simulate dm) (nI (an_simulate z seed dm.toInt.toNat)))) ∧ cP G I a z Gz Iz) (fun _ _ _ => False)
  have tg9 : mx_tg G a = 19 := hW.1.1.1
  refine mx_aload_n (i := 0) (hi := rfl) (hl := rfl) (hd := dL_trySimulate_0) ?_
  refine mx_lload_n (i := 1) (hi := rfl) (hl := rfl) (hd := dL_trySimulate_1) ?_
  refine mx_iload_n (i := 3) (hi := rfl) (hl := rfl) (hd := dL_trySimulate_2) ?_
  refine mx_callV (bc := 0) (bs := 0) (ci := 9) (As := [.long seed, .int dm]) (rest := []) (b1 := 1) (b2 := 6) dL_trySimulate_3 (ct_simulate G I a z hW seed dm) km_X9_simulate rfl k_642 k_643 k_644 (by assumption) rfl rfl (Nat.le_of_ble_eq_true rfl) (by decide) (fun E G9 I9 h9 => ?_) (fun r1 G1 I1 h2 => ?_)
  · obtain ⟨h1, h2, h3⟩ := h9
    rcases rg_simulate z seed dm with e | e
    · exact absurd e h1
    · rw [e] at h2
      have h2 : E = "java/lang/IllegalArgumentException" := h2
      subst h2
      refine mx_hdl (h := (0, 6, 7, 13)) [] [] rfl (by unfold mx_exs; simp) (fun z9 hz9 => (nomatch hz9)) ⟨by decide, by decide⟩ (by decide) k_333 (fun q9 => ?_)
      refine mx_astoreE (i := 4) (ls' := [some (.ref a), some (.long seed), none, some (.int dm), some (.ref q9)]) (hd := dL_trySimulate_7) (hn := by decide) (hok := rfl) (hls := rfl) ?_
      refine mx_ldc (v := (-9999002)) k_638 dL_trySimulate_9 ?_
      exact mx_iret dL_trySimulate_11 rfl rfl (⟨congrArg (fun z9 => some (Value.int z9)) (tv_2 e).symm, h3⟩)
  · obtain ⟨e0, e9, hP⟩ := h2
    subst e9
    exact mx_iret dL_trySimulate_6 rfl rfl (⟨congrArg (fun z9 => some (Value.int z9)) (tv_0 e0).symm, hP⟩)
