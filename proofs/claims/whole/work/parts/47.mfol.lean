/-! THE REFERENCE: follow -/
theorem lN_pred {n : Nat} (h : 1 ≤ n) : lN n - 1 = lN (n - 1) := by
  obtain ⟨k, rfl⟩ : ∃ k, n = k + 1 := ⟨n - 1, by omega⟩
  have e : lN (k + 1) = lN k + 1 := Int64.ofNat_add k 1
  rw [e, Nat.add_sub_cancel]
  exact Int64.add_sub_cancel _ _
theorem in_row {row : Int64} {P : Nat} (h1 : 1 ≤ P) (h2 : P < 2 ^ 63) : ((0 : Int64).toInt ≤ row.toInt ∧ row.toInt ≤ (lN (P - 1)).toInt) ↔ (0 ≤ row.toInt ∧ row.toInt < (P : Int)) := by
  rw [pk_lT (by omega)]
  show (0 ≤ row.toInt ∧ _) ↔ _
  omega
theorem mt_inR (G : mx_G) (I : mx_I) (row : Int64) (P : Nat) (h1 : 1 ≤ P) (h2 : P < 2 ^ 63) : mx_CTp yX10_in mX10_in 1 [.long row, .long (0 : Int64), .long (lN (P - 1))] G I (some (.int (mx_b (decide (0 ≤ row.toInt ∧ row.toInt < (P : Int)))))) :=
  (mt_in G I row 0 (lN (P - 1))).eq rfl (by rw [decide_eq_decide.mpr (in_row (row := row) h1 h2)])
theorem fl_follow_0 {z : Zs} {p n : Int32} {row : Int64} (h : fl_follow z p n row = 0) : (0 ≤ p.toInt ∧ p.toInt < (gP (zG z) : Int)) ∧ (1 ≤ n.toInt ∧ n.toInt ≤ 5) ∧ (0 ≤ row.toInt ∧ row.toInt < ((1000 ^ n.toInt.toNat : Nat) : Int)) := by
  unfold fl_follow at h
  split at h
  · cases h
  · next c =>
    split at h
    · cases h
    · next c2 =>
      split at h
      · cases h
      · next c3 => exact ⟨Classical.not_not.mp c, Classical.not_not.mp c2, Classical.not_not.mp c3⟩
theorem fl_follow_le (z : Zs) (p n : Int32) (row : Int64) : fl_follow z p n row ≤ 3 := by
  unfold fl_follow
  split
  · decide
  · split
    · decide
    · split <;> decide
theorem flF_0 {v : Gr} {A : Pa} {r n f i here ps go s : Nat} (h : r / 1000 ^ (n - i) % 1000 = go) (hs : go / 10 = s) (hd : go % 10 = 0) : flF v A r n (f + 1) i here ps = if s < gN v ∧ gF v s = here then (if pFol A ps &&& pEn A 0 (gK v s) = 0 then nI i else flF v A r n f (i + 1) (gT v s) (pFol A ps &&& pEn A 0 (gK v s))) else nI i := by
  rw [flF_g h, hs, hd]
  by_cases c : s < gN v ∧ gF v s = here
  · rw [if_pos c, if_pos ⟨c.1, by decide, by rw [if_pos rfl]; exact c.2⟩, if_pos rfl]
  · rw [if_neg c, if_neg (fun q => c ⟨q.1, by have := q.2.2; rw [if_pos rfl] at this; exact this⟩)]
theorem flF_1 {v : Gr} {A : Pa} {r n f i here ps go s : Nat} (h : r / 1000 ^ (n - i) % 1000 = go) (hs : go / 10 = s) (hd : go % 10 = 1) : flF v A r n (f + 1) i here ps = if s < gN v ∧ gT v s = here then (if pFol A ps &&& pEn A 1 (gK v s) = 0 then nI i else flF v A r n f (i + 1) (gF v s) (pFol A ps &&& pEn A 1 (gK v s))) else nI i := by
  rw [flF_g h, hs, hd]
  by_cases c : s < gN v ∧ gT v s = here
  · rw [if_pos c, if_pos ⟨c.1, by decide, by rw [if_neg (by decide)]; exact c.2⟩, show (if (1 : Nat) = 0 then gT v s else gF v s) = gF v s from if_neg (by decide)]
  · rw [if_neg c, if_neg (fun q => c ⟨q.1, by have := q.2.2; rw [if_neg (by decide)] at this; exact this⟩)]
theorem flF_2 {v : Gr} {A : Pa} {r n f i here ps go : Nat} (h : r / 1000 ^ (n - i) % 1000 = go) (hd : 1 < go % 10) : flF v A r n (f + 1) i here ps = nI i := by
  rw [flF_g h, if_neg (fun q => absurd q.2.1 (by omega))]
theorem p1k {n i : Nat} (h : i ≤ n) : 1000 ^ (n + 1 - i) / 1000 = 1000 ^ (n - i) := by
  rw [show n + 1 - i = (n - i) + 1 by omega, Nat.pow_succ, Nat.mul_div_cancel _ (by decide)]
theorem p1000' {n i : Nat} (h : n ≤ 5) : 1000 ^ (n + 1 - i) < 2 ^ 63 := Nat.lt_of_le_of_lt (Nat.pow_le_pow_right (by decide) (by omega : n + 1 - i ≤ 6)) (by decide)
theorem p1000z {k : Nat} (h : k ≤ 6) : ¬ lN (1000 ^ k) = 0 := fun q => by
  have h1 : (1000 : Nat) ^ k < 2 ^ 63 := Nat.lt_of_le_of_lt (Nat.pow_le_pow_right (by decide) h) (by decide)
  have h2 := (pk_lEQ (a := 1000 ^ k) (b := 0) h1 (by decide)).mp q
  have h3 : 0 < 1000 ^ k := Nat.pow_pos (by decide)
  omega

theorem pe31 {A : Pa} (h : auP A) (d k : Nat) : pEn A d k < 2 ^ 31 := Nat.lt_trans (Nat.lt_of_le_of_lt (Nat.le_refl _) (inB21 (h.2.2.2.2.1 _) h.1)) (by decide)

set_option maxHeartbeats 4000000 in
set_option maxRecDepth 100000 in
theorem mt_follow (G : mx_G) (I : mx_I) (m : Nat) (z : Zs) (hW : mW G I m z) (p n : Int32) (row : Int64) : mx_CTi yX10_follow mX10_follow 5 [.ref m, .int p, .int n, .long row] G I (fun rv I1 => I1 m 0 = nI (fl_follow z p n row) ∧ mx_fr I I1 m (m + 23) ∧ ((fl_follow z p n row) = 0 → rv = some (.int (an_follow z p.toInt.toNat n.toInt.toNat row.toInt.toNat)) ∧ mW G I1 m (z)) ∧ (¬ (fl_follow z p n row) = 0 → (∃ w9, rv = some (.int w9)) ∧ mW G I1 m z)) := by
  refine mx_start (k := 9) (by decide) rfl rfl (fun h => nomatch h) (Nat.le_of_ble_eq_true rfl) ?_
  show mx_V mX10_follow mx_S0 5 0 0 0 [some (.ref m), some (.int p), some (.int n), some (.long row), none, none, none, none, none, none, none, none, none, none] [] G I (fun rv Gz Iz => (fun rv I1 => I1 m 0 = nI (fl_follow z p n row) ∧ mx_fr I I1 m (m + 23) ∧ ((fl_follow z p n row) = 0 → rv = some (.int (an_follow z p.toInt.toNat n.toInt.toNat row.toInt.toNat)) ∧ mW G I1 m (z)) ∧ (¬ (fl_follow z p n row) = 0 → (∃ w9, rv = some (.int w9)) ∧ mW G I1 m z)) rv Iz ∧ Gz = G) (fun _ _ _ => False)
  have hs0 : oMD G m := hW.1
  have hs1 := hs0
  have hW9 := hW
  obtain ⟨tgm, -, -, ⟨r_now, t_now, l_now⟩, -⟩ := hs1
  obtain ⟨-, hsz, ⟨hn110, h2, htx, htc⟩, ⟨hvp, hN24⟩, ⟨hc14, h8, hdi⟩, hke⟩ := hW9
  have hN24 : gN (zG z) ≤ 24 := hN24
  have hgw : wfG (zG z) := hvp.1.1
  have hP8 : gP (zG z) ≤ 8 := hgw.1
  have hgb : ∀ s, s < gN (zG z) → gF (zG z) s < 8 ∧ gK (zG z) s < 4 ∧ gT (zG z) s < 8 ∧ 1 ≤ gC (zG z) s ∧ gC (zG z) s ≤ 9 := hgw.2.2
  have hn40 := hvp.2.2.2.1
  refine mx_lconst (v := 1) (by decide) dX10_follow_0 ?_
  refine mx_topl (y := lN (1000 ^ 0)) (rfl) ?_
  refine mx_lstoreE (i := 5) (ls' := [some (.ref m), some (.int p), some (.int n), some (.long row), none, some (.long (lN (1000 ^ 0))), none, none, none, none, none, none, none, none]) (hd := dX10_follow_1) (hn := by decide) (hok := rfl) (hls := rfl) ?_
  have J32 : ∀ (k : Nat), (k ≤ 5) → (1 ≤ n.toInt ∧ n.toInt ≤ 5 → n.toInt = (k : Int)) → mx_V mX10_follow mx_S0 5 0 0 32 [some (.ref m), some (.int p), some (.int n), some (.long row), none, some (.long (lN (1000 ^ k))), none, some (.int (nI k)), none, none, none, none, none, none] [] G I (fun rv Gz Iz => (fun rv I1 => I1 m 0 = nI (fl_follow z p n row) ∧ mx_fr I I1 m (m + 23) ∧ ((fl_follow z p n row) = 0 → rv = some (.int (an_follow z p.toInt.toNat n.toInt.toNat row.toInt.toNat)) ∧ mW G I1 m (z)) ∧ (¬ (fl_follow z p n row) = 0 → (∃ w9, rv = some (.int w9)) ∧ mW G I1 m z)) rv Iz ∧ Gz = G) (fun _ _ _ => False) := by
    intro k hk h32
    have J77 : ∀ (_ : Unit), mx_V mX10_follow mx_S0 5 0 0 77 [some (.ref m), some (.int p), some (.int n), some (.long row), none, some (.long (lN (1000 ^ k))), none, some (.int (nI k)), none, none, none, none, none, none] [.int (nI (fl_follow z p n row)), .ref m] G I (fun rv Gz Iz => (fun rv I1 => I1 m 0 = nI (fl_follow z p n row) ∧ mx_fr I I1 m (m + 23) ∧ ((fl_follow z p n row) = 0 → rv = some (.int (an_follow z p.toInt.toNat n.toInt.toNat row.toInt.toNat)) ∧ mW G I1 m (z)) ∧ (¬ (fl_follow z p n row) = 0 → (∃ w9, rv = some (.int w9)) ∧ mW G I1 m z)) rv Iz ∧ Gz = G) (fun _ _ _ => False) := by
      intro _ 
      refine mx_callVi (ci := 10) (As := [.int (nI (fl_follow z p n row))]) (rest := []) dX10_follow_77 (mt_refused G I m hs0 (fl_follow z p n row) (Nat.lt_of_le_of_lt (fl_follow_le _ _ _ _) (by decide))) km_X10_refused rfl k_1122 k_1124 k_29 (by assumption) rfl rfl (Nat.le_of_ble_eq_true rfl) (by decide) (fun r1 Ir h2 => ?_)
      obtain ⟨e9, er⟩ := h2
      subst e9
      have hr0 : Ir m 0 = nI (fl_follow z p n row) := by rw [er, mx_u_at, if_pos ⟨rfl, rfl⟩]
      have hrf : mx_fr I Ir m (m + 23) := by rw [er]; exact (mx_fr.rf _ _ _).u (by omega)
      have hW1 : mW G Ir m z := hW.k (fun b k q => by rw [er, mx_u_at, if_neg (by omega)])
      clear er
      refine mx_ifB_eq 85 dX10_follow_80 (by decide) (fun c80 => ?_) (fun c80 => ?_)
      · skip
        have hm0 : fl_follow z p n row = 0 := by omega
        obtain ⟨k1, k2, k3⟩ := fl_follow_0 hm0
        clear hsz h2 htx htc hvp hdi hke h8
        have hs0 : oMD G m := hW1.1
        have hs1 := hs0
        have hW9 := hW1
        obtain ⟨tgm, -, -, ⟨r_now, t_now, l_now⟩, -, -, -, -, -, -, -, -, -, -, -, -, -, -, ⟨r_on, t_on, l_on⟩, ⟨r_back, t_back, l_back⟩, -⟩ := hs1
        obtain ⟨-, hsz, ⟨hn110, h2, htx, htc⟩, ⟨hvp, hN24⟩, ⟨hc14, h8, hdi⟩, hke⟩ := hW9
        have hN24 : gN (zG z) ≤ 24 := hN24
        have hgw : wfG (zG z) := hvp.1.1
        have hP8 : gP (zG z) ≤ 8 := hgw.1
        have hgb : ∀ s, s < gN (zG z) → gF (zG z) s < 8 ∧ gK (zG z) s < 4 ∧ gT (zG z) s < 8 ∧ 1 ≤ gC (zG z) s ∧ gC (zG z) s ≤ 9 := hgw.2.2
        have hn40 := hvp.2.2.2.1
        have hpne : p = nI p.toInt.toNat := (mx_nn (k1.1)).symm
        have hpnb : p.toInt.toNat < gP (zG z) := tn_lt k1
        have hpn31 : p.toInt.toNat < 2 ^ 31 := tn31 _
        generalize p.toInt.toNat = pn at hpne hpnb hpn31 ⊢
        subst hpne
        have hpn8 : pn < 8 := by omega
        have hnne : n = nI n.toInt.toNat := (mx_nn (by omega)).symm
        have hnnb : 1 ≤ n.toInt.toNat ∧ n.toInt.toNat ≤ 5 := by omega
        have hnn31 : n.toInt.toNat < 2 ^ 31 := tn31 _
        generalize n.toInt.toNat = nn at hnne hnnb hnn31 ⊢
        subst hnne
        rw [nI_tt hnn31] at k3
        have hnn9 : (nI nn).toInt = (nn : Int) := nI_toInt hnn31
        have hk9 : nn = k := by have := h32 ⟨by omega, by omega⟩; omega
        subst hk9
        have hre : row = lN row.toInt.toNat := lN_nn (k3.1)
        have hrb : row.toInt.toNat < 1000 ^ nn := tn_lt k3
        generalize row.toInt.toNat = r at hre hrb ⊢
        subst hre
        have hpw := p1000 hnnb
        have hr63 : r < 2 ^ 63 := Nat.lt_trans hrb hpw
        clear h32 hk
        refine mx_aload_n (i := 0) (hi := rfl) (hl := rfl) (hd := dX10_follow_85) ?_
        refine mx_aload_n (i := 0) (hi := rfl) (hl := rfl) (hd := dX10_follow_86) ?_
        refine mx_getR (ci := 10) (k := 5) (r := (m + 3)) dX10_follow_87 k_1018 (by decide) rfl (by assumption) (by assumption) (by omega) ?_
        refine mx_callVi (ci := 10) (As := [.ref (m + 3)]) (rest := []) dX10_follow_90 (mt_compileOf G Ir m hs0 (m + 3) (zX z) (Or.inl rfl) t_now l_now hvp) km_X10_compileOf rfl k_1198 k_1200 k_39 (by assumption) rfl rfl (Nat.le_of_ble_eq_true rfl) (by decide) (fun r3 I2 h4 => ?_)
        obtain ⟨e9, q1, q2⟩ := h4
        subst e9
        have hA9 := auP_rdF (zX z).2.2 (zX z).2.1
        have hwfp := wfP_vA hvp.2.2.2
        refine mx_aload_n (i := 0) (hi := rfl) (hl := rfl) (hd := dX10_follow_93) ?_
        refine mx_callVi (ci := 10) (As := []) (rest := []) dX10_follow_94 (mt_layFits G I2 m hs0 (vA (zX z)) q1 hA9) km_X10_layFits rfl k_1214 k_1216 k_43 (by assumption) rfl rfl (Nat.le_of_ble_eq_true rfl) (by decide) (fun r5 I3 h6 => ?_)
        obtain ⟨e9, f1, f2, f3⟩ := h6
        subst e9
        have ha3 : auN I3 m (vA (zX z)) := q1.k (fun j _ _ => f3 _ _ (by omega) (by omega)) (fun b k _ _ => f3 _ _ (by omega) (by omega))
        have hS3 : mS Ir I3 m := q2.S.tr (mS.of (fun b k hb => f3 b k (by omega) (by omega)))
        have hg3 : gaF (I3 (m + 3)) (zG z) := hvp.1.c (by omega) (fun k _ => by rw [hS3.1 (m + 3) (by omega)])
        have L106 : ∀ (fq : Nat) (i here ps : Nat), nn + 1 - i < fq → (1 ≤ i) → (i ≤ nn + 1) → (here < 8) → (ps < 2 ^ 21) → (flF (zG z) (vA (zX z)) r nn nn 1 pn 1 = flF (zG z) (vA (zX z)) r nn (nn + 1 - i) i here ps) → mx_V mX10_follow mx_S0 5 0 0 106 [some (.ref m), some (.int (nI pn)), some (.int (nI nn)), some (.long (lN r)), none, some (.long (lN (1000 ^ (nn + 1 - i)))), none, some (.int (nI ps)), some (.int (nI here)), some (.int (nI i)), none, none, none, none] [] G I3 (fun rv Gz Iz => (fun rv I1 => I1 m 0 = nI (fl_follow z (nI pn) (nI nn) (lN r)) ∧ mx_fr I I1 m (m + 23) ∧ ((fl_follow z (nI pn) (nI nn) (lN r)) = 0 → rv = some (.int (an_follow z pn nn r)) ∧ mW G I1 m (z)) ∧ (¬ (fl_follow z (nI pn) (nI nn) (lN r)) = 0 → (∃ w9, rv = some (.int w9)) ∧ mW G I1 m z)) rv Iz ∧ Gz = G) (fun _ _ _ => False) := by
          intro fq
          induction fq with
          | zero => intro i here ps hfu; exact absurd hfu (Nat.not_lt_zero _)
          | succ fq ih =>
            intro i here ps hfu hi1 hi hh hps hx
            refine mx_iload (i := 9) (hl := rfl) (hd := dX10_follow_106) ?_
            refine mx_iload_n (i := 2) (hi := rfl) (hl := rfl) (hd := dX10_follow_108) ?_
            refine mx_cmpN_gt 285 dX10_follow_109 (by decide) (by omega) (by omega) (fun c109 => ?_) (fun c109 => ?_)
            · skip
              refine mx_aload_n (i := 0) (hi := rfl) (hl := rfl) (hd := dX10_follow_285) ?_
              refine mx_iload (i := 7) (hl := rfl) (hd := dX10_follow_286) ?_
              refine mx_callVp (ci := 10) (As := [.int (nI ps)]) (rest := []) dX10_follow_288 (mt_isEnd G I3 m hs0 (vA (zX z)) ha3 hA9 ps (by omega)) km_X10_isEnd rfl k_1223 k_1225 k_45 (by assumption) rfl rfl (Nat.le_of_ble_eq_true rfl) (by decide) ?_
              refine mx_ifB_eq 299 dX10_follow_291 (by decide) (fun c291 => ?_) (fun c291 => ?_)
              · skip
                refine mx_iload_n (i := 2) (hi := rfl) (hl := rfl) (hd := dX10_follow_299) ?_
                refine mx_iconstN 1 dX10_follow_300 (by decide) ?_
                refine mx_iaddN dX10_follow_301 ?_
                exact mx_iret dX10_follow_302 rfl rfl (⟨⟨(hS3.2 0 (by omega)).trans hr0, mt_fr hrf hS3.fr, fun _ => ⟨congrArg (fun x => some (Value.int x)) (show _ = an_follow z pn nn r by unfold an_follow; rw [hx, show nn + 1 - i = 0 by omega, flF, if_neg c291]), hW1.S hS3⟩, fun z9 => absurd hm0 z9⟩, rfl⟩)
              · skip
                refine mx_bipush (v := (-9)) (by decide) dX10_follow_294 ?_
                refine mx_goto (tgt := 302) dX10_follow_296 (by decide) ?_
                exact mx_iret dX10_follow_302 rfl rfl (⟨⟨(hS3.2 0 (by omega)).trans hr0, mt_fr hrf hS3.fr, fun _ => ⟨congrArg (fun x => some (Value.int x)) (show _ = an_follow z pn nn r by unfold an_follow; rw [hx, show nn + 1 - i = 0 by omega, flF, if_pos c291]), hW1.S hS3⟩, fun z9 => absurd hm0 z9⟩, rfl⟩)
            · skip
              obtain ⟨go, hgo⟩ : ∃ go, r / 1000 ^ (nn - i) % 1000 = go := ⟨_, rfl⟩
              have hgo9 : go < 1000 := by rw [← hgo]; exact Nat.mod_lt _ (by decide)
              obtain ⟨sn, hsn⟩ : ∃ sn, go / 10 = sn := ⟨_, rfl⟩
              have hi9 : nn + 1 - i = (nn - i) + 1 := by omega
              refine mx_lload (i := 5) (hl := rfl) (hd := dX10_follow_112) ?_
              refine mx_ldc2 (v := (1000)) k_1368 dX10_follow_114 ?_
              refine mx_topl (y := lN 1000) (rfl) ?_
              refine mx_ldiv (by decide) dX10_follow_117 ?_
              refine mx_topl (y := lN (1000 ^ (nn + 1 - (i + 1)))) (by rw [pk_lDiv (p1000' (by omega)) (by decide) (by decide), p1k (by omega), show nn + 1 - (i + 1) = nn - i by omega]) ?_
              refine mx_lstoreE (i := 5) (ls' := [some (.ref m), some (.int (nI pn)), some (.int (nI nn)), some (.long (lN r)), none, some (.long (lN (1000 ^ (nn + 1 - (i + 1))))), none, some (.int (nI ps)), some (.int (nI here)), some (.int (nI i)), none, none, none, none]) (hd := dX10_follow_118) (hn := by decide) (hok := rfl) (hls := rfl) ?_
              refine mx_lload_n (i := 3) (hi := rfl) (hl := rfl) (hd := dX10_follow_120) ?_
              refine mx_lload (i := 5) (hl := rfl) (hd := dX10_follow_121) ?_
              refine mx_ldiv (p1000z (by omega)) dX10_follow_123 ?_
              refine mx_topl (y := lN (r / 1000 ^ (nn - i))) (by rw [show nn + 1 - (i + 1) = nn - i by omega]; exact pk_lDiv hr63 (Nat.pow_pos (by decide)) (Nat.lt_of_le_of_lt (Nat.pow_le_pow_right (by decide) (by omega : nn - i ≤ 5)) (by decide))) ?_
              refine mx_ldc2 (v := (1000)) k_1368 dX10_follow_124 ?_
              refine mx_topl (y := lN 1000) (rfl) ?_
              refine mx_lrem (by decide) dX10_follow_127 ?_
              refine mx_topl (y := lN (r / 1000 ^ (nn - i) % 1000)) (pk_lRem (Nat.lt_of_le_of_lt (Nat.div_le_self _ _) hr63) (by decide) (by decide)) ?_
              refine mx_l2i (hv := rfl) (hd := dX10_follow_128) ?_
              refine mx_top (y := nI go) ((lN_i _).trans (congrArg nI hgo)) ?_
              refine mx_istoreE (i := 10) (ls' := [some (.ref m), some (.int (nI pn)), some (.int (nI nn)), some (.long (lN r)), none, some (.long (lN (1000 ^ (nn + 1 - (i + 1))))), none, some (.int (nI ps)), some (.int (nI here)), some (.int (nI i)), some (.int (nI go)), none, none, none]) (hd := dX10_follow_129) (hn := by decide) (hok := rfl) (hls := rfl) ?_
              refine mx_iload (i := 10) (hl := rfl) (hd := dX10_follow_131) ?_
              refine mx_bipushN 10 dX10_follow_133 (by decide) ?_
              refine mx_idivN dX10_follow_135 (by omega) (by decide) ?_
              refine mx_top (y := nI sn) (congrArg nI hsn) ?_
              refine mx_istoreE (i := 11) (ls' := [some (.ref m), some (.int (nI pn)), some (.int (nI nn)), some (.long (lN r)), none, some (.long (lN (1000 ^ (nn + 1 - (i + 1))))), none, some (.int (nI ps)), some (.int (nI here)), some (.int (nI i)), some (.int (nI go)), some (.int (nI sn)), none, none]) (hd := dX10_follow_136) (hn := by decide) (hok := rfl) (hls := rfl) ?_
              refine mx_iload (i := 10) (hl := rfl) (hd := dX10_follow_138) ?_
              refine mx_bipushN 10 dX10_follow_140 (by decide) ?_
              refine mx_iremN dX10_follow_142 (by omega) (by decide) ?_
              refine mx_iconstN 1 dX10_follow_143 (by decide) ?_
              refine mx_cmpN_ne 151 dX10_follow_144 (by decide) (by omega) (by omega) (fun c144 => ?_) (fun c144 => ?_)
              · skip
                refine mx_iconstN 0 dX10_follow_151 (by decide) ?_
                refine mx_istoreE (i := 12) (ls' := [some (.ref m), some (.int (nI pn)), some (.int (nI nn)), some (.long (lN r)), none, some (.long (lN (1000 ^ (nn + 1 - (i + 1))))), none, some (.int (nI ps)), some (.int (nI here)), some (.int (nI i)), some (.int (nI go)), some (.int (nI sn)), some (.int (nI 0)), none]) (hd := dX10_follow_152) (hn := by decide) (hok := rfl) (hls := rfl) ?_
                refine mx_iload (i := 10) (hl := rfl) (hd := dX10_follow_154) ?_
                refine mx_bipushN 10 dX10_follow_156 (by decide) ?_
                refine mx_iremN dX10_follow_158 (by omega) (by decide) ?_
                refine mx_iconstN 1 dX10_follow_159 (by decide) ?_
                refine mx_cmpN_gt 201 dX10_follow_160 (by decide) (by omega) (by omega) (fun c160 => ?_) (fun c160 => ?_)
                · skip
                  
                  refine mx_iload (i := 9) (hl := rfl) (hd := dX10_follow_201) ?_
                  exact mx_iret dX10_follow_203 rfl rfl (⟨⟨(hS3.2 0 (by omega)).trans hr0, mt_fr hrf hS3.fr, fun _ => ⟨congrArg (fun x => some (Value.int x)) (show nI i = an_follow z pn nn r by unfold an_follow; rw [hx, hi9, flF_2 hgo (by omega)]), hW1.S hS3⟩, fun z9 => absurd hm0 z9⟩, rfl⟩)
                · skip
                  have hst := flF_0 (v := zG z) (A := vA (zX z)) (f := nn - i) (here := here) (ps := ps) hgo hsn (by omega)
                  rw [← hi9] at hst
                  refine mx_aload_n (i := 0) (hi := rfl) (hl := rfl) (hd := dX10_follow_163) ?_
                  refine mx_getR (ci := 10) (k := 5) (r := (m + 3)) dX10_follow_164 k_1018 (by decide) rfl (by assumption) (by assumption) (by omega) ?_
                  refine mx_iload (i := 11) (hl := rfl) (hd := dX10_follow_167) ?_
                  refine mx_callSp (As := [.ref (m + 3), .int (nI sn)]) (rest := []) dX10_follow_169 (mt_isStepN G I3 (m + 3) (zG z) t_now l_now hg3 sn (by omega)) km_X10_isStep rfl k_1235 k_1236 rfl rfl (Nat.le_of_ble_eq_true rfl) (by decide) ?_
                  refine mx_ifB_eq 201 dX10_follow_172 (by decide) (fun c172 => ?_) (fun c172 => ?_)
                  · skip
                    
                    refine mx_iload (i := 9) (hl := rfl) (hd := dX10_follow_201) ?_
                    exact mx_iret dX10_follow_203 rfl rfl (⟨⟨(hS3.2 0 (by omega)).trans hr0, mt_fr hrf hS3.fr, fun _ => ⟨congrArg (fun x => some (Value.int x)) (show nI i = an_follow z pn nn r by unfold an_follow; rw [hx, hst, if_neg (fun q => c172 q.1)]), hW1.S hS3⟩, fun z9 => absurd hm0 z9⟩, rfl⟩)
                  · skip
                    refine mx_aload_n (i := 0) (hi := rfl) (hl := rfl) (hd := dX10_follow_175) ?_
                    refine mx_getR (ci := 10) (k := 5) (r := (m + 3)) dX10_follow_176 k_1018 (by decide) rfl (by assumption) (by assumption) (by omega) ?_
                    refine mx_iload (i := 11) (hl := rfl) (hd := dX10_follow_179) ?_
                    refine mx_callSp (As := [.int (nI sn)]) (rest := [.ref (m + 3)]) dX10_follow_181 (mt_at G I3 sn) km_X10_at rfl k_1180 k_1181 rfl rfl (Nat.le_of_ble_eq_true rfl) (by decide) ?_
                    refine mx_iload (i := 12) (hl := rfl) (hd := dX10_follow_184) ?_
                    refine mx_if0_eq 193 dX10_follow_186 (by decide) ?_
                    refine mx_iconstN 0 dX10_follow_193 (by decide) ?_
                    refine mx_iaddN dX10_follow_194 ?_
                    refine mx_ialdV (3 + 4 * sn) (nI (gF (zG z) sn)) dX10_follow_195 (by assumption) ⟨rfl, by rw [l_now]; omega, by rw [l_now]; decide⟩ (hg3.2.2.2 sn (by omega)).1 ?_
                    refine mx_iload (i := 8) (hl := rfl) (hd := dX10_follow_196) ?_
                    refine mx_cmpN_eq 204 dX10_follow_198 (by decide) (by have := hg3.1.2.2 sn (by omega); omega) (by omega) (fun c198 => ?_) (fun c198 => ?_)
                    · skip
                      refine mx_aload_n (i := 0) (hi := rfl) (hl := rfl) (hd := dX10_follow_204) ?_
                      refine mx_getR (ci := 10) (k := 5) (r := (m + 3)) dX10_follow_205 k_1018 (by decide) rfl (by assumption) (by assumption) (by omega) ?_
                      refine mx_iload (i := 11) (hl := rfl) (hd := dX10_follow_208) ?_
                      refine mx_callSp (As := [.int (nI sn)]) (rest := [.ref (m + 3)]) dX10_follow_210 (mt_at G I3 sn) km_X10_at rfl k_1180 k_1181 rfl rfl (Nat.le_of_ble_eq_true rfl) (by decide) ?_
                      refine mx_iconstN 1 dX10_follow_213 (by decide) ?_
                      refine mx_iaddN dX10_follow_214 ?_
                      refine mx_ialdV ((3 + 4 * sn) + 1) (nI (gK (zG z) sn)) dX10_follow_215 (by assumption) ⟨rfl, by omega, by omega⟩ (hg3.2.2.2 sn (by omega)).2.1 ?_
                      refine mx_istoreE (i := 13) (ls' := [some (.ref m), some (.int (nI pn)), some (.int (nI nn)), some (.long (lN r)), none, some (.long (lN (1000 ^ (nn + 1 - (i + 1))))), none, some (.int (nI ps)), some (.int (nI here)), some (.int (nI i)), some (.int (nI go)), some (.int (nI sn)), some (.int (nI 0)), some (.int (nI (gK (zG z) sn)))]) (hd := dX10_follow_216) (hn := by decide) (hok := rfl) (hls := rfl) ?_
                      refine mx_aload_n (i := 0) (hi := rfl) (hl := rfl) (hd := dX10_follow_218) ?_
                      refine mx_iload (i := 7) (hl := rfl) (hd := dX10_follow_219) ?_
                      refine mx_iload (i := 12) (hl := rfl) (hd := dX10_follow_221) ?_
                      refine mx_if0_eq 236 dX10_follow_223 (by decide) ?_
                      refine mx_aload_n (i := 0) (hi := rfl) (hl := rfl) (hd := dX10_follow_236) ?_
                      refine mx_getR (ci := 10) (k := 25) (r := (m + 18)) dX10_follow_237 k_1038 (by decide) rfl (by assumption) (by assumption) (by omega) ?_
                      refine mx_iload (i := 13) (hl := rfl) (hd := dX10_follow_240) ?_
                      refine mx_ialdV (gK (zG z) sn) (nI (pEn (vA (zX z)) 0 (gK (zG z) sn))) dX10_follow_242 (by assumption) ⟨rfl, by rw [l_on]; exact (hgb _ c172).2.1, by rw [l_on]; decide⟩ (f1 _ (hgb _ c172).2.1) ?_
                      refine mx_callVp (ci := 10) (As := [.int (nI ps), .int (nI (pEn (vA (zX z)) 0 (gK (zG z) sn)))]) (rest := []) dX10_follow_243 (mt_behind G I3 m hs0 (vA (zX z)) ha3 hA9 ps (pEn (vA (zX z)) 0 (gK (zG z) sn)) (by omega)) km_X10_behind rfl k_1334 k_1336 k_52 (by assumption) rfl rfl (Nat.le_of_ble_eq_true rfl) (by decide) ?_
                      refine mx_istoreE (i := 7) (ls' := [some (.ref m), some (.int (nI pn)), some (.int (nI nn)), some (.long (lN r)), none, some (.long (lN (1000 ^ (nn + 1 - (i + 1))))), none, some (.int (nI (pFol (vA (zX z)) ps &&& pEn (vA (zX z)) 0 (gK (zG z) sn)))), some (.int (nI here)), some (.int (nI i)), some (.int (nI go)), some (.int (nI sn)), some (.int (nI 0)), some (.int (nI (gK (zG z) sn)))]) (hd := dX10_follow_246) (hn := by decide) (hok := rfl) (hls := rfl) ?_
                      refine mx_iload (i := 7) (hl := rfl) (hd := dX10_follow_248) ?_
                      refine mx_ifN_ne 256 dX10_follow_250 (by decide) (Nat.lt_trans (mx_and_lt (pFol_lt hwfp ps)) (by decide)) (fun c250 => ?_) (fun c250 => ?_)
                      · skip
                        refine mx_aload_n (i := 0) (hi := rfl) (hl := rfl) (hd := dX10_follow_256) ?_
                        refine mx_getR (ci := 10) (k := 5) (r := (m + 3)) dX10_follow_257 k_1018 (by decide) rfl (by assumption) (by assumption) (by omega) ?_
                        refine mx_iload (i := 11) (hl := rfl) (hd := dX10_follow_260) ?_
                        refine mx_callSp (As := [.int (nI sn)]) (rest := [.ref (m + 3)]) dX10_follow_262 (mt_at G I3 sn) km_X10_at rfl k_1180 k_1181 rfl rfl (Nat.le_of_ble_eq_true rfl) (by decide) ?_
                        refine mx_iload (i := 12) (hl := rfl) (hd := dX10_follow_265) ?_
                        refine mx_if0_eq 274 dX10_follow_267 (by decide) ?_
                        refine mx_iconstN 2 dX10_follow_274 (by decide) ?_
                        refine mx_iaddN dX10_follow_275 ?_
                        refine mx_ialdV (3 + 4 * sn + 2) (nI (gT (zG z) sn)) dX10_follow_276 (by assumption) ⟨rfl, by rw [l_now]; omega, by rw [l_now]; decide⟩ (hg3.2.2.2 sn (by omega)).2.2.1 ?_
                        refine mx_istoreE (i := 8) (ls' := [some (.ref m), some (.int (nI pn)), some (.int (nI nn)), some (.long (lN r)), none, some (.long (lN (1000 ^ (nn + 1 - (i + 1))))), none, some (.int (nI (pFol (vA (zX z)) ps &&& pEn (vA (zX z)) 0 (gK (zG z) sn)))), some (.int (nI (gT (zG z) sn))), some (.int (nI i)), some (.int (nI go)), some (.int (nI sn)), some (.int (nI 0)), some (.int (nI (gK (zG z) sn)))]) (hd := dX10_follow_277) (hn := by decide) (hok := rfl) (hls := rfl) ?_
                        refine mx_iincE (i := 9) (ls' := [some (.ref m), some (.int (nI pn)), some (.int (nI nn)), some (.long (lN r)), none, some (.long (lN (1000 ^ (nn + 1 - (i + 1))))), none, some (.int (nI (pFol (vA (zX z)) ps &&& pEn (vA (zX z)) 0 (gK (zG z) sn)))), some (.int (nI (gT (zG z) sn))), some (.int (nI (i + 1))), some (.int (nI go)), some (.int (nI sn)), some (.int (nI 0)), some (.int (nI (gK (zG z) sn)))]) 1 dX10_follow_279 rfl (by decide) (by decide) rfl rfl ?_
                        refine mx_goto (tgt := 106) dX10_follow_282 (by decide) ?_
                        refine mx_leS (ls' := [some (.ref m), some (.int (nI pn)), some (.int (nI nn)), some (.long (lN r)), none, some (.long (lN (1000 ^ (nn + 1 - (i + 1))))), none, some (.int (nI (pFol (vA (zX z)) ps &&& pEn (vA (zX z)) 0 (gK (zG z) sn)))), some (.int (nI (gT (zG z) sn))), some (.int (nI (i + 1))), none, none, none, none]) ⟨rfl, rfl, rfl, rfl, rfl, rfl, rfl, rfl, trivial⟩ ?_
                        exact ih (i + 1) (gT (zG z) sn) (pFol (vA (zX z)) ps &&& pEn (vA (zX z)) 0 (gK (zG z) sn)) (by omega) (by omega) (by omega) (by first | exact (hgb _ c172).2.2.1 | exact (hgb _ c172).1) (mx_and_lt (pFol_lt hwfp ps)) (by rw [hx, hst, if_pos ⟨c172, c198⟩, if_neg c250, show nn + 1 - (i + 1) = nn - i by omega])
                      · skip
                        refine mx_iload (i := 9) (hl := rfl) (hd := dX10_follow_253) ?_
                        exact mx_iret dX10_follow_255 rfl rfl (⟨⟨(hS3.2 0 (by omega)).trans hr0, mt_fr hrf hS3.fr, fun _ => ⟨congrArg (fun x => some (Value.int x)) (show nI i = an_follow z pn nn r by unfold an_follow; rw [hx, hst, if_pos ⟨c172, c198⟩, if_pos c250]), hW1.S hS3⟩, fun z9 => absurd hm0 z9⟩, rfl⟩)
                    · skip
                      
                      refine mx_iload (i := 9) (hl := rfl) (hd := dX10_follow_201) ?_
                      exact mx_iret dX10_follow_203 rfl rfl (⟨⟨(hS3.2 0 (by omega)).trans hr0, mt_fr hrf hS3.fr, fun _ => ⟨congrArg (fun x => some (Value.int x)) (show nI i = an_follow z pn nn r by unfold an_follow; rw [hx, hst, if_neg (fun q => c198 q.2)]), hW1.S hS3⟩, fun z9 => absurd hm0 z9⟩, rfl⟩)
              · skip
                refine mx_iconstN 1 dX10_follow_147 (by decide) ?_
                refine mx_goto (tgt := 152) dX10_follow_148 (by decide) ?_
                refine mx_istoreE (i := 12) (ls' := [some (.ref m), some (.int (nI pn)), some (.int (nI nn)), some (.long (lN r)), none, some (.long (lN (1000 ^ (nn + 1 - (i + 1))))), none, some (.int (nI ps)), some (.int (nI here)), some (.int (nI i)), some (.int (nI go)), some (.int (nI sn)), some (.int (nI 1)), none]) (hd := dX10_follow_152) (hn := by decide) (hok := rfl) (hls := rfl) ?_
                refine mx_iload (i := 10) (hl := rfl) (hd := dX10_follow_154) ?_
                refine mx_bipushN 10 dX10_follow_156 (by decide) ?_
                refine mx_iremN dX10_follow_158 (by omega) (by decide) ?_
                refine mx_iconstN 1 dX10_follow_159 (by decide) ?_
                refine mx_cmpN_gt 201 dX10_follow_160 (by decide) (by omega) (by omega) (fun c160 => ?_) (fun c160 => ?_)
                · skip
                  exact absurd c160 (by omega)
                · skip
                  have hst := flF_1 (v := zG z) (A := vA (zX z)) (f := nn - i) (here := here) (ps := ps) hgo hsn (by omega)
                  rw [← hi9] at hst
                  refine mx_aload_n (i := 0) (hi := rfl) (hl := rfl) (hd := dX10_follow_163) ?_
                  refine mx_getR (ci := 10) (k := 5) (r := (m + 3)) dX10_follow_164 k_1018 (by decide) rfl (by assumption) (by assumption) (by omega) ?_
                  refine mx_iload (i := 11) (hl := rfl) (hd := dX10_follow_167) ?_
                  refine mx_callSp (As := [.ref (m + 3), .int (nI sn)]) (rest := []) dX10_follow_169 (mt_isStepN G I3 (m + 3) (zG z) t_now l_now hg3 sn (by omega)) km_X10_isStep rfl k_1235 k_1236 rfl rfl (Nat.le_of_ble_eq_true rfl) (by decide) ?_
                  refine mx_ifB_eq 201 dX10_follow_172 (by decide) (fun c172 => ?_) (fun c172 => ?_)
                  · skip
                    
                    refine mx_iload (i := 9) (hl := rfl) (hd := dX10_follow_201) ?_
                    exact mx_iret dX10_follow_203 rfl rfl (⟨⟨(hS3.2 0 (by omega)).trans hr0, mt_fr hrf hS3.fr, fun _ => ⟨congrArg (fun x => some (Value.int x)) (show nI i = an_follow z pn nn r by unfold an_follow; rw [hx, hst, if_neg (fun q => c172 q.1)]), hW1.S hS3⟩, fun z9 => absurd hm0 z9⟩, rfl⟩)
                  · skip
                    refine mx_aload_n (i := 0) (hi := rfl) (hl := rfl) (hd := dX10_follow_175) ?_
                    refine mx_getR (ci := 10) (k := 5) (r := (m + 3)) dX10_follow_176 k_1018 (by decide) rfl (by assumption) (by assumption) (by omega) ?_
                    refine mx_iload (i := 11) (hl := rfl) (hd := dX10_follow_179) ?_
                    refine mx_callSp (As := [.int (nI sn)]) (rest := [.ref (m + 3)]) dX10_follow_181 (mt_at G I3 sn) km_X10_at rfl k_1180 k_1181 rfl rfl (Nat.le_of_ble_eq_true rfl) (by decide) ?_
                    refine mx_iload (i := 12) (hl := rfl) (hd := dX10_follow_184) ?_
                    refine mx_if1_eq 193 dX10_follow_186 (by decide) ?_
                    refine mx_iconstN 2 dX10_follow_189 (by decide) ?_
                    refine mx_goto (tgt := 194) dX10_follow_190 (by decide) ?_
                    refine mx_iaddN dX10_follow_194 ?_
                    refine mx_ialdV (3 + 4 * sn + 2) (nI (gT (zG z) sn)) dX10_follow_195 (by assumption) ⟨rfl, by rw [l_now]; omega, by rw [l_now]; decide⟩ (hg3.2.2.2 sn (by omega)).2.2.1 ?_
                    refine mx_iload (i := 8) (hl := rfl) (hd := dX10_follow_196) ?_
                    refine mx_cmpN_eq 204 dX10_follow_198 (by decide) (by have := hg3.1.2.2 sn (by omega); omega) (by omega) (fun c198 => ?_) (fun c198 => ?_)
                    · skip
                      refine mx_aload_n (i := 0) (hi := rfl) (hl := rfl) (hd := dX10_follow_204) ?_
                      refine mx_getR (ci := 10) (k := 5) (r := (m + 3)) dX10_follow_205 k_1018 (by decide) rfl (by assumption) (by assumption) (by omega) ?_
                      refine mx_iload (i := 11) (hl := rfl) (hd := dX10_follow_208) ?_
                      refine mx_callSp (As := [.int (nI sn)]) (rest := [.ref (m + 3)]) dX10_follow_210 (mt_at G I3 sn) km_X10_at rfl k_1180 k_1181 rfl rfl (Nat.le_of_ble_eq_true rfl) (by decide) ?_
                      refine mx_iconstN 1 dX10_follow_213 (by decide) ?_
                      refine mx_iaddN dX10_follow_214 ?_
                      refine mx_ialdV ((3 + 4 * sn) + 1) (nI (gK (zG z) sn)) dX10_follow_215 (by assumption) ⟨rfl, by omega, by omega⟩ (hg3.2.2.2 sn (by omega)).2.1 ?_
                      refine mx_istoreE (i := 13) (ls' := [some (.ref m), some (.int (nI pn)), some (.int (nI nn)), some (.long (lN r)), none, some (.long (lN (1000 ^ (nn + 1 - (i + 1))))), none, some (.int (nI ps)), some (.int (nI here)), some (.int (nI i)), some (.int (nI go)), some (.int (nI sn)), some (.int (nI 1)), some (.int (nI (gK (zG z) sn)))]) (hd := dX10_follow_216) (hn := by decide) (hok := rfl) (hls := rfl) ?_
                      refine mx_aload_n (i := 0) (hi := rfl) (hl := rfl) (hd := dX10_follow_218) ?_
                      refine mx_iload (i := 7) (hl := rfl) (hd := dX10_follow_219) ?_
                      refine mx_iload (i := 12) (hl := rfl) (hd := dX10_follow_221) ?_
                      refine mx_if1_eq 236 dX10_follow_223 (by decide) ?_
                      refine mx_aload_n (i := 0) (hi := rfl) (hl := rfl) (hd := dX10_follow_226) ?_
                      refine mx_getR (ci := 10) (k := 26) (r := (m + 19)) dX10_follow_227 k_1039 (by decide) rfl (by assumption) (by assumption) (by omega) ?_
                      refine mx_iload (i := 13) (hl := rfl) (hd := dX10_follow_230) ?_
                      refine mx_ialdV (gK (zG z) sn) (nI (pEn (vA (zX z)) 1 (gK (zG z) sn))) dX10_follow_232 (by assumption) ⟨rfl, by rw [l_back]; exact (hgb _ c172).2.1, by rw [l_back]; decide⟩ (f2 _ (hgb _ c172).2.1) ?_
                      refine mx_goto (tgt := 243) dX10_follow_233 (by decide) ?_
                      refine mx_callVp (ci := 10) (As := [.int (nI ps), .int (nI (pEn (vA (zX z)) 1 (gK (zG z) sn)))]) (rest := []) dX10_follow_243 (mt_behind G I3 m hs0 (vA (zX z)) ha3 hA9 ps (pEn (vA (zX z)) 1 (gK (zG z) sn)) (by omega)) km_X10_behind rfl k_1334 k_1336 k_52 (by assumption) rfl rfl (Nat.le_of_ble_eq_true rfl) (by decide) ?_
                      refine mx_istoreE (i := 7) (ls' := [some (.ref m), some (.int (nI pn)), some (.int (nI nn)), some (.long (lN r)), none, some (.long (lN (1000 ^ (nn + 1 - (i + 1))))), none, some (.int (nI (pFol (vA (zX z)) ps &&& pEn (vA (zX z)) 1 (gK (zG z) sn)))), some (.int (nI here)), some (.int (nI i)), some (.int (nI go)), some (.int (nI sn)), some (.int (nI 1)), some (.int (nI (gK (zG z) sn)))]) (hd := dX10_follow_246) (hn := by decide) (hok := rfl) (hls := rfl) ?_
                      refine mx_iload (i := 7) (hl := rfl) (hd := dX10_follow_248) ?_
                      refine mx_ifN_ne 256 dX10_follow_250 (by decide) (Nat.lt_trans (mx_and_lt (pFol_lt hwfp ps)) (by decide)) (fun c250 => ?_) (fun c250 => ?_)
                      · skip
                        refine mx_aload_n (i := 0) (hi := rfl) (hl := rfl) (hd := dX10_follow_256) ?_
                        refine mx_getR (ci := 10) (k := 5) (r := (m + 3)) dX10_follow_257 k_1018 (by decide) rfl (by assumption) (by assumption) (by omega) ?_
                        refine mx_iload (i := 11) (hl := rfl) (hd := dX10_follow_260) ?_
                        refine mx_callSp (As := [.int (nI sn)]) (rest := [.ref (m + 3)]) dX10_follow_262 (mt_at G I3 sn) km_X10_at rfl k_1180 k_1181 rfl rfl (Nat.le_of_ble_eq_true rfl) (by decide) ?_
                        refine mx_iload (i := 12) (hl := rfl) (hd := dX10_follow_265) ?_
                        refine mx_if1_eq 274 dX10_follow_267 (by decide) ?_
                        refine mx_iconstN 0 dX10_follow_270 (by decide) ?_
                        refine mx_goto (tgt := 275) dX10_follow_271 (by decide) ?_
                        refine mx_iaddN dX10_follow_275 ?_
                        refine mx_ialdV (3 + 4 * sn) (nI (gF (zG z) sn)) dX10_follow_276 (by assumption) ⟨rfl, by rw [l_now]; omega, by rw [l_now]; decide⟩ (hg3.2.2.2 sn (by omega)).1 ?_
                        refine mx_istoreE (i := 8) (ls' := [some (.ref m), some (.int (nI pn)), some (.int (nI nn)), some (.long (lN r)), none, some (.long (lN (1000 ^ (nn + 1 - (i + 1))))), none, some (.int (nI (pFol (vA (zX z)) ps &&& pEn (vA (zX z)) 1 (gK (zG z) sn)))), some (.int (nI (gF (zG z) sn))), some (.int (nI i)), some (.int (nI go)), some (.int (nI sn)), some (.int (nI 1)), some (.int (nI (gK (zG z) sn)))]) (hd := dX10_follow_277) (hn := by decide) (hok := rfl) (hls := rfl) ?_
                        refine mx_iincE (i := 9) (ls' := [some (.ref m), some (.int (nI pn)), some (.int (nI nn)), some (.long (lN r)), none, some (.long (lN (1000 ^ (nn + 1 - (i + 1))))), none, some (.int (nI (pFol (vA (zX z)) ps &&& pEn (vA (zX z)) 1 (gK (zG z) sn)))), some (.int (nI (gF (zG z) sn))), some (.int (nI (i + 1))), some (.int (nI go)), some (.int (nI sn)), some (.int (nI 1)), some (.int (nI (gK (zG z) sn)))]) 1 dX10_follow_279 rfl (by decide) (by decide) rfl rfl ?_
                        refine mx_goto (tgt := 106) dX10_follow_282 (by decide) ?_
                        refine mx_leS (ls' := [some (.ref m), some (.int (nI pn)), some (.int (nI nn)), some (.long (lN r)), none, some (.long (lN (1000 ^ (nn + 1 - (i + 1))))), none, some (.int (nI (pFol (vA (zX z)) ps &&& pEn (vA (zX z)) 1 (gK (zG z) sn)))), some (.int (nI (gF (zG z) sn))), some (.int (nI (i + 1))), none, none, none, none]) ⟨rfl, rfl, rfl, rfl, rfl, rfl, rfl, rfl, trivial⟩ ?_
                        exact ih (i + 1) (gF (zG z) sn) (pFol (vA (zX z)) ps &&& pEn (vA (zX z)) 1 (gK (zG z) sn)) (by omega) (by omega) (by omega) (by first | exact (hgb _ c172).2.2.1 | exact (hgb _ c172).1) (mx_and_lt (pFol_lt hwfp ps)) (by rw [hx, hst, if_pos ⟨c172, c198⟩, if_neg c250, show nn + 1 - (i + 1) = nn - i by omega])
                      · skip
                        refine mx_iload (i := 9) (hl := rfl) (hd := dX10_follow_253) ?_
                        exact mx_iret dX10_follow_255 rfl rfl (⟨⟨(hS3.2 0 (by omega)).trans hr0, mt_fr hrf hS3.fr, fun _ => ⟨congrArg (fun x => some (Value.int x)) (show nI i = an_follow z pn nn r by unfold an_follow; rw [hx, hst, if_pos ⟨c172, c198⟩, if_pos c250]), hW1.S hS3⟩, fun z9 => absurd hm0 z9⟩, rfl⟩)
                    · skip
                      
                      refine mx_iload (i := 9) (hl := rfl) (hd := dX10_follow_201) ?_
                      exact mx_iret dX10_follow_203 rfl rfl (⟨⟨(hS3.2 0 (by omega)).trans hr0, mt_fr hrf hS3.fr, fun _ => ⟨congrArg (fun x => some (Value.int x)) (show nI i = an_follow z pn nn r by unfold an_follow; rw [hx, hst, if_neg (fun q => c198 q.2)]), hW1.S hS3⟩, fun z9 => absurd hm0 z9⟩, rfl⟩)
        refine mx_iconstN 1 dX10_follow_97 (by decide) ?_
        refine mx_istoreE (i := 7) (ls' := [some (.ref m), some (.int (nI pn)), some (.int (nI nn)), some (.long (lN r)), none, some (.long (lN (1000 ^ nn))), none, some (.int (nI 1)), none, none, none, none, none, none]) (hd := dX10_follow_98) (hn := by decide) (hok := rfl) (hls := rfl) ?_
        refine mx_iload_n (i := 1) (hi := rfl) (hl := rfl) (hd := dX10_follow_100) ?_
        refine mx_istoreE (i := 8) (ls' := [some (.ref m), some (.int (nI pn)), some (.int (nI nn)), some (.long (lN r)), none, some (.long (lN (1000 ^ nn))), none, some (.int (nI 1)), some (.int (nI pn)), none, none, none, none, none]) (hd := dX10_follow_101) (hn := by decide) (hok := rfl) (hls := rfl) ?_
        refine mx_iconstN 1 dX10_follow_103 (by decide) ?_
        refine mx_istoreE (i := 9) (ls' := [some (.ref m), some (.int (nI pn)), some (.int (nI nn)), some (.long (lN r)), none, some (.long (lN (1000 ^ nn))), none, some (.int (nI 1)), some (.int (nI pn)), some (.int (nI 1)), none, none, none, none]) (hd := dX10_follow_104) (hn := by decide) (hok := rfl) (hls := rfl) ?_
        exact L106 _ 1 pn 1 (Nat.lt_succ_self _) (Nat.le_refl _) (by omega) (by omega) (by decide) (by rw [show nn + 1 - 1 = nn by omega])
      · skip
        refine mx_iconstN 0 dX10_follow_83 (by decide) ?_
        exact mx_iret dX10_follow_84 rfl rfl (⟨⟨hr0, hrf, fun z9 => absurd z9 (by omega), fun _ => ⟨⟨_, rfl⟩, hW1⟩⟩, rfl⟩)
    refine mx_aload_n (i := 0) (hi := rfl) (hl := rfl) (hd := dX10_follow_32) ?_
    refine mx_aload_n (i := 0) (hi := rfl) (hl := rfl) (hd := dX10_follow_33) ?_
    refine mx_getR (ci := 10) (k := 5) (r := (m + 3)) dX10_follow_34 k_1018 (by decide) rfl (by assumption) (by assumption) (by omega) ?_
    refine mx_iload_n (i := 1) (hi := rfl) (hl := rfl) (hd := dX10_follow_37) ?_
    refine mx_callSp (As := [.ref (m + 3), .int p]) (rest := [.ref m]) dX10_follow_38 (mt_isPerson G I (m + 3) (zG z) t_now l_now hvp.1 p) km_X10_isPerson rfl k_1243 k_1244 rfl rfl (Nat.le_of_ble_eq_true rfl) (by decide) ?_
    refine mx_ifB_ne 48 dX10_follow_41 (by decide) (fun c41 => ?_) (fun c41 => ?_)
    · skip
      refine mx_iload_n (i := 2) (hi := rfl) (hl := rfl) (hd := dX10_follow_48) ?_
      refine mx_i2l (hv := rfl) (hd := dX10_follow_49) ?_
      refine mx_lconst (v := 1) (by decide) dX10_follow_50 ?_
      refine mx_ldc2 (v := (5)) k_1369 dX10_follow_51 ?_
      refine mx_callSp (As := [.long n.toInt64, .long (1 : Int64), .long (5)]) (rest := [.ref m]) dX10_follow_54 (mt_in G I (n.toInt64) (1 : Int64) (5 : Int64)) km_X10_in rfl k_1119 k_1120 rfl rfl (Nat.le_of_ble_eq_true rfl) (by decide) ?_
      refine mx_top (y := mx_b (decide (1 ≤ n.toInt ∧ n.toInt ≤ 5))) (congrArg mx_b (decide_eq_decide.mpr ((in_l (x := 1) (y := 5) rfl rfl).trans (by omega)))) ?_
      refine mx_ifB_eq 76 dX10_follow_57 (by decide) (fun c57 => ?_) (fun c57 => ?_)
      · skip
        refine mx_iconstN 2 dX10_follow_76 (by decide) ?_
        refine mx_top (y := nI (fl_follow z p n row)) (congrArg nI (show 2 = fl_follow z p n row by unfold fl_follow; rw [if_neg (fun q => q c41), if_pos c57])) ?_
        exact J77 ()
      · skip
        refine mx_lload_n (i := 3) (hi := rfl) (hl := rfl) (hd := dX10_follow_60) ?_
        refine mx_lconst (v := 0) (by decide) dX10_follow_61 ?_
        refine mx_lload (i := 5) (hl := rfl) (hd := dX10_follow_62) ?_
        refine mx_lconst (v := 1) (by decide) dX10_follow_64 ?_
        refine mx_lsub dX10_follow_65 ?_
        refine mx_topl (y := lN (1000 ^ k - 1)) (lN_pred (Nat.pow_pos (by decide))) ?_
        refine mx_callSp (As := [.long row, .long (0 : Int64), .long (lN (1000 ^ k - 1))]) (rest := [.ref m]) dX10_follow_66 (mt_inR G I row (1000 ^ k) (Nat.pow_pos (by decide)) (Nat.lt_of_le_of_lt (Nat.pow_le_pow_right (by decide) hk) (by decide))) km_X10_in rfl k_1119 k_1120 rfl rfl (Nat.le_of_ble_eq_true rfl) (by decide) ?_
        refine mx_ifB_eq 76 dX10_follow_69 (by decide) (fun c69 => ?_) (fun c69 => ?_)
        · skip
          refine mx_iconstN 2 dX10_follow_76 (by decide) ?_
          have hnk : n.toInt.toNat = k := by have := h32 c57; omega
          refine mx_top (y := nI (fl_follow z p n row)) (congrArg nI (show 2 = fl_follow z p n row by unfold fl_follow; rw [if_neg (fun q => q c41), if_neg (fun q => q c57), if_pos (by rw [hnk]; exact c69)])) ?_
          exact J77 ()
        · skip
          refine mx_iconstN 0 dX10_follow_72 (by decide) ?_
          refine mx_goto (tgt := 77) dX10_follow_73 (by decide) ?_
          have hnk : n.toInt.toNat = k := by have := h32 c57; omega
          refine mx_top (y := nI (fl_follow z p n row)) (congrArg nI (show 0 = fl_follow z p n row by unfold fl_follow; rw [if_neg (fun q => q c41), if_neg (fun q => q c57), if_neg (fun q => q (by rw [hnk]; exact c69))])) ?_
          exact J77 ()
    · skip
      refine mx_iconstN 1 dX10_follow_44 (by decide) ?_
      refine mx_goto (tgt := 77) dX10_follow_45 (by decide) ?_
      refine mx_top (y := nI (fl_follow z p n row)) (congrArg nI (show 1 = fl_follow z p n row by unfold fl_follow; rw [if_pos c41])) ?_
      exact J77 ()
  have L6 : ∀ (fq : Nat) (k : Nat), 5 - k < fq → (k ≤ 5) → ((k : Int) ≤ n.toInt ∨ k = 0) → mx_V mX10_follow mx_S0 5 0 0 6 [some (.ref m), some (.int p), some (.int n), some (.long row), none, some (.long (lN (1000 ^ k))), none, some (.int (nI k)), none, none, none, none, none, none] [] G I (fun rv Gz Iz => (fun rv I1 => I1 m 0 = nI (fl_follow z p n row) ∧ mx_fr I I1 m (m + 23) ∧ ((fl_follow z p n row) = 0 → rv = some (.int (an_follow z p.toInt.toNat n.toInt.toNat row.toInt.toNat)) ∧ mW G I1 m (z)) ∧ (¬ (fl_follow z p n row) = 0 → (∃ w9, rv = some (.int w9)) ∧ mW G I1 m z)) rv Iz ∧ Gz = G) (fun _ _ _ => False) := by
    intro fq
    induction fq with
    | zero => intro k hfu; exact absurd hfu (Nat.not_lt_zero _)
    | succ fq ih =>
      intro k hfu hk hkn
      refine mx_iload (i := 7) (hl := rfl) (hd := dX10_follow_6) ?_
      refine mx_iload_n (i := 2) (hi := rfl) (hl := rfl) (hd := dX10_follow_8) ?_
      refine mx_cmpNR_ge 32 dX10_follow_9 (by decide) (by omega) (fun c9 => ?_) (fun c9 => ?_)
      · skip
        exact J32 k (by omega) (by omega)
      · skip
        refine mx_iload (i := 7) (hl := rfl) (hd := dX10_follow_12) ?_
        refine mx_iconstN 5 dX10_follow_14 (by decide) ?_
        refine mx_cmpN_ge 32 dX10_follow_15 (by decide) (by omega) (by omega) (fun c15 => ?_) (fun c15 => ?_)
        · skip
          exact J32 k (by omega) (by omega)
        · skip
          refine mx_lload (i := 5) (hl := rfl) (hd := dX10_follow_18) ?_
          refine mx_ldc2 (v := (1000)) k_1368 dX10_follow_20 ?_
          refine mx_topl (y := lN 1000) (rfl) ?_
          refine mx_lmul dX10_follow_23 ?_
          refine mx_topl (y := lN (1000 ^ (k + 1))) (by rw [lN_mul, Nat.pow_succ]) ?_
          refine mx_lstoreE (i := 5) (ls' := [some (.ref m), some (.int p), some (.int n), some (.long row), none, some (.long (lN (1000 ^ (k + 1)))), none, some (.int (nI k)), none, none, none, none, none, none]) (hd := dX10_follow_24) (hn := by decide) (hok := rfl) (hls := rfl) ?_
          refine mx_iincE (i := 7) (ls' := [some (.ref m), some (.int p), some (.int n), some (.long row), none, some (.long (lN (1000 ^ (k + 1)))), none, some (.int (nI (k + 1))), none, none, none, none, none, none]) 1 dX10_follow_26 rfl (by decide) (by decide) rfl rfl ?_
          refine mx_goto (tgt := 6) dX10_follow_29 (by decide) ?_
          exact ih (k + 1) (by omega) (by omega) (by omega)
  refine mx_iconstN 0 dX10_follow_3 (by decide) ?_
  refine mx_istoreE (i := 7) (ls' := [some (.ref m), some (.int p), some (.int n), some (.long row), none, some (.long (lN (1000 ^ 0))), none, some (.int (nI 0)), none, none, none, none, none, none]) (hd := dX10_follow_4) (hn := by decide) (hok := rfl) (hls := rfl) ?_
  exact L6 _ 0 (Nat.lt_succ_self _) (by omega) (by omega)
