/-! THE REFERENCE: reads a graph, errorPosition, load -/
def rgQ (I : mx_I) (m n : Nat) (ch : Nat → Nat) (rv : Option Value) (I1 : mx_I) : Prop := rv = some (.int (mx_b (decide (gErr ch n = none)))) ∧ (∀ b j, ¬ (b = m ∧ j = 3) → b ≠ m + 2 → I1 b j = I b j) ∧ (gErr ch n = none → gaF (I1 (m + 2)) (gtx ch ((n - 2) / 4)) ∧ I1 (m + 2) 2 = nI 0 ∧ (n - 2) / 4 ≤ 24) ∧ (∀ s, gErr ch n = some s → I1 m 3 = nI s)
theorem rgQ.f {I I1 : mx_I} {m n s : Nat} {ch : Nat → Nat} (h : gErr ch n = some s) (h3 : I1 m 3 = nI s) (hf : ∀ b j, ¬ (b = m ∧ j = 3) → b ≠ m + 2 → I1 b j = I b j) : rgQ I m n ch (some (.int (nI 0))) I1 := ⟨congrArg (fun z => some (Value.int z)) (mx_bF (fun q => by rw [h] at q; exact nomatch q)), hf, fun q => (by rw [h] at q; exact nomatch q), fun s' q => (by rw [h] at q; cases q; exact h3)⟩
theorem gE_0 {ch : Nat → Nat} {n : Nat} (h : 0 < n → ¬ rcOk ch 0) : gErr ch n = some 0 := rg_stop (i := 0) (Nat.zero_le _) h (by omega)
theorem gE_t {ch : Nat → Nat} {n : Nat} (hn : 0 < n) (h : rcOk ch 0) : gErr ch n = rgF ch n (n - 1) 1 := rgF_t (i := 0) hn h
theorem gE_1 {ch : Nat → Nat} {n : Nat} (hn : 0 < n) (h0 : rcOk ch 0) (h : 1 < n → ¬ rcOk ch 1) : gErr ch n = some 1 := by
  rw [gE_t hn h0]
  exact rg_stop (i := 1) hn h (by omega)
theorem gE_2 {ch : Nat → Nat} {n : Nat} (hn : 1 < n) (h0 : rcOk ch 0) (h1 : rcOk ch 1) : gErr ch n = rgF ch n (n - (2 + 4 * 0)) (2 + 4 * 0) := by
  rw [gE_t (by omega) h0, rgF_t (i := 1) hn h1]
theorem gE_n {ch : Nat → Nat} {n k : Nat} (h : gErr ch n = rgF ch n (n - (2 + 4 * k)) (2 + 4 * k)) (hn : n = 2 + 4 * k) : gErr ch n = none := by
  rw [h, ← hn, Nat.sub_self]
  exact if_neg (by omega)
theorem gtx_0 {ch : Nat → Nat} {f : Nat → Int32} (h1 : 49 ≤ ch 1 ∧ ch 1 ≤ 56) (e0 : f 0 = nI (ch 1 - 49 + 1)) (e1 : f 1 = nI 0) : gaF f (gtx ch 0) := ⟨⟨by show ch 1 - 48 ≤ 8; omega, Nat.zero_le _, fun s hs => absurd hs (Nat.not_lt_zero s)⟩, by rw [e0]; exact congrArg nI (show ch 1 - 49 + 1 = ch 1 - 48 by omega), e1, fun s hs => absurd hs (Nat.not_lt_zero s)⟩

set_option maxHeartbeats 4000000 in
set_option maxRecDepth 100000 in
theorem mt_readGraph (G : mx_G) (I : mx_I) (m : Nat) (hs : oMD G m) (n : Nat) (ch : Nat → Nat) (hx2 : I m 2 = nI n) (hn110 : n ≤ 110) (hx1 : ∀ i, i < n → I (m + 1) i = nI (ch i)) (hcb : ∀ i, i < n → ch i < 256) : mx_CTi yX10_readGraph mX10_readGraph 5 [.ref m] G I (fun rv I1 => rgQ I m n ch rv I1) := by
  refine mx_start (k := 2) (by decide) rfl rfl (fun h => nomatch h) (Nat.le_of_ble_eq_true rfl) ?_
  show mx_V mX10_readGraph mx_S0 5 0 0 0 [some (.ref m), none, none] [] G I (fun rv Gz Iz => (fun rv I1 => rgQ I m n ch rv I1) rv Iz ∧ Gz = G) (fun _ _ _ => False)
  have hs0 := hs
  obtain ⟨tgm, -, ⟨r_read, t_read, l_read⟩, -⟩ := hs
  have L7 : ∀ (fq : Nat) (i : Nat) (I1 : mx_I), 143 - i < fq → (i ≤ 143) → (∀ k, k < i → I1 (m + 2) k = nI 0) → (∀ b j, ¬ (b = m ∧ j = 3) → b ≠ m + 2 → I1 b j = I b j) → (I1 m 3 = nI 0) → mx_V mX10_readGraph mx_S0 5 0 0 7 [some (.ref m), some (.int (nI i)), none] [] G I1 (fun rv Gz Iz => (fun rv I1 => rgQ I m n ch rv I1) rv Iz ∧ Gz = G) (fun _ _ _ => False) := by
    intro fq
    induction fq with
    | zero => intro i I1 hfu; exact absurd hfu (Nat.not_lt_zero _)
    | succ fq ih =>
      intro i I1 hfu hi hz hf1 h31
      refine mx_iload_n (i := 1) (hi := rfl) (hl := rfl) (hd := dX10_readGraph_7) ?_
      refine mx_sipushN 143 dX10_readGraph_8 (by decide) ?_
      refine mx_cmpN_ge 27 dX10_readGraph_11 (by decide) (by omega) (by omega) (fun c11 => ?_) (fun c11 => ?_)
      · skip
        refine mx_aload_n (i := 0) (hi := rfl) (hl := rfl) (hd := dX10_readGraph_27) ?_
        refine mx_bipushN 75 dX10_readGraph_28 (by decide) ?_
        refine mx_bipushN 75 dX10_readGraph_30 (by decide) ?_
        have ht1 : txS I1 m n 0 ch := ⟨(hf1 _ _ (by omega) (by omega)).trans hx2, hn110, fun j hj => (hf1 _ _ (by omega) (by omega)).trans (hx1 j hj), hcb, h31, Nat.zero_le _⟩
        have FI1 := hf1
        by_cases g32 : sgU ch n 0 75 75
        · skip
          refine mx_callVi (ci := 10) (As := [.int (nI 75), .int (nI 75)]) (rest := []) dX10_readGraph_32 (mt_signT G I1 m hs0 n 0 ch ht1 75 75 (by decide) (by decide) g32) km_X10_sign rfl k_1169 k_1171 k_37 (by assumption) rfl rfl (Nat.le_of_ble_eq_true rfl) (by decide) (fun r1 Ia h2 => ?_)
          obtain ⟨e9, er⟩ := h2
          subst e9
          have b32 : ch 0 < 256 := hcb _ g32.1
          have hta : txS Ia m n (0 + 1) ch := ht1.u (fun b j q => by rw [er, mx_u_at, if_neg (by omega)]) (by rw [er, mx_u_at, if_pos ⟨rfl, rfl⟩]) g32.1
          have FIa : ∀ b j, ¬ (b = m ∧ j = 3) → Ia b j = I1 b j := fun b j q => by rw [er, mx_u_at, if_neg q]
          clear er
          refine mx_bipush (v := (-9)) (by decide) dX10_readGraph_35 ?_
          refine mx_icmp_ne (tgt := 42) dX10_readGraph_37 (by decide) (fun c37 => ?_) (fun c37 => ?_)
          · skip
            
            refine mx_aload_n (i := 0) (hi := rfl) (hl := rfl) (hd := dX10_readGraph_42) ?_
            refine mx_bipushN 49 dX10_readGraph_43 (by decide) ?_
            refine mx_bipushN 56 dX10_readGraph_45 (by decide) ?_
            by_cases g47 : sgU ch n 1 49 56
            · skip
              refine mx_callVi (ci := 10) (As := [.int (nI 49), .int (nI 56)]) (rest := []) dX10_readGraph_47 (mt_signT G Ia m hs0 n 1 ch hta 49 56 (by decide) (by decide) g47) km_X10_sign rfl k_1169 k_1171 k_37 (by assumption) rfl rfl (Nat.le_of_ble_eq_true rfl) (by decide) (fun r3 Ib h4 => ?_)
              obtain ⟨e9, er⟩ := h4
              subst e9
              have b47 : ch 1 < 256 := hcb _ g47.1
              have htb : txS Ib m n (1 + 1) ch := hta.u (fun b j q => by rw [er, mx_u_at, if_neg (by omega)]) (by rw [er, mx_u_at, if_pos ⟨rfl, rfl⟩]) g47.1
              have FIb : ∀ b j, ¬ (b = m ∧ j = 3) → Ib b j = Ia b j := fun b j q => by rw [er, mx_u_at, if_neg q]
              clear er
              refine mx_istoreE_n (i := 1) (ls' := [some (.ref m), some (.int (nI (ch 1 - 49))), none]) (hi := rfl) (hd := dX10_readGraph_50) (hn := by decide) (hok := rfl) (hls := rfl) ?_
              refine mx_iload_n (i := 1) (hi := rfl) (hl := rfl) (hd := dX10_readGraph_51) ?_
              refine mx_bipush (v := (-9)) (by decide) dX10_readGraph_52 ?_
              refine mx_icmp_ne (tgt := 59) dX10_readGraph_54 (by decide) (fun c54 => ?_) (fun c54 => ?_)
              · skip
                
                refine mx_aload_n (i := 0) (hi := rfl) (hl := rfl) (hd := dX10_readGraph_59) ?_
                refine mx_getR (ci := 10) (k := 4) (r := (m + 2)) dX10_readGraph_60 k_1017 (by decide) rfl (by assumption) (by assumption) (by omega) ?_
                refine mx_iconstN 0 dX10_readGraph_63 (by decide) ?_
                refine mx_iload_n (i := 1) (hi := rfl) (hl := rfl) (hd := dX10_readGraph_64) ?_
                refine mx_iconstN 1 dX10_readGraph_65 (by decide) ?_
                refine mx_iaddN dX10_readGraph_66 ?_
                refine mx_iast 0 dX10_readGraph_67 (by assumption) ⟨rfl, by omega, by omega⟩ ?_
                have L70 : ∀ (fq : Nat) (k : Nat) (gd : Bool) (s : Nat) (I2 : mx_I), (if gd = true then n + 1 - s else 0) < fq → (txS I2 m n s ch) → (gd = true → s = 2 + 4 * k ∧ k ≤ 24 ∧ gaF (I2 (m + 2)) (gtx ch k) ∧ gErr ch n = rgF ch n (n - (2 + 4 * k)) (2 + 4 * k)) → (gd = false → gErr ch n = some s) → (gd = true → I2 (m + 2) 2 = nI 0) → (∀ b j, ¬ (b = m ∧ j = 3) → b ≠ m + 2 → I2 b j = I b j) → mx_V mX10_readGraph mx_S0 5 0 0 70 [some (.ref m), none, some (.int (mx_b (decide (gd = true))))] [] G I2 (fun rv Gz Iz => (fun rv I1 => rgQ I m n ch rv I1) rv Iz ∧ Gz = G) (fun _ _ _ => False) := by
                  intro fq
                  induction fq with
                  | zero => intro k gd s I2 hfu; exact absurd hfu (Nat.not_lt_zero _)
                  | succ fq ih =>
                    intro k gd s I2 hfu ht2 hgt hgf hz2 hf2
                    generalize hmm9 : (if gd = true then n + 1 - s else 0) = mm9 at hfu
                    have J93 : ∀ (_ : Unit), (gd = true → n ≤ s) → mx_V mX10_readGraph mx_S0 5 0 0 93 [some (.ref m), none, some (.int (mx_b (decide (gd = true))))] [] G I2 (fun rv Gz Iz => (fun rv I1 => rgQ I m n ch rv I1) rv Iz ∧ Gz = G) (fun _ _ _ => False) := by
                      intro _ h93
                      refine mx_iload_n (i := 2) (hi := rfl) (hl := rfl) (hd := dX10_readGraph_93) ?_
                      refine mx_iret dX10_readGraph_94 rfl (mx_b_nz _) (⟨⟨congrArg (fun z => some (Value.int z)) (congrArg mx_b (decide_eq_decide.mpr ?_)), hf2, ?_, ?_⟩, rfl⟩)
                      · constructor
                        · intro q
                          obtain ⟨hk1, hk2, hk3, hk4⟩ := hgt q
                          have hsn9 := ht2.2.2.2.2.2
                          have h94 := h93 q
                          exact gE_n hk4 (by omega)
                        · intro q
                          cases gd with
                          | true => rfl
                          | false =>
                            have h8 := hgf rfl
                            rw [q] at h8
                            exact nomatch h8
                      · intro q
                        have hgd : gd = true := by
                          cases gd with
                          | true => rfl
                          | false =>
                            have h8 := hgf rfl
                            rw [q] at h8
                            exact nomatch h8
                        obtain ⟨hk1, hk2, hk3, hk4⟩ := hgt hgd
                        have hsn9 := ht2.2.2.2.2.2
                        have h94 := h93 hgd
                        have hk5 : (n - 2) / 4 = k := by omega
                        rw [hk5]
                        exact ⟨hk3, hz2 hgd, hk2⟩
                      · intro s' q
                        have hgd : gd = false := by
                          cases gd with
                          | false => rfl
                          | true =>
                            obtain ⟨hk1, hk2, hk3, hk4⟩ := hgt rfl
                            have hsn9 := ht2.2.2.2.2.2
                            have h94 := h93 rfl
                            have h8 := gE_n hk4 (by omega)
                            rw [q] at h8
                            exact nomatch h8
                        have h8 := hgf hgd
                        rw [q] at h8
                        cases h8
                        exact ht2.2.2.2.2.1
                    refine mx_iload_n (i := 2) (hi := rfl) (hl := rfl) (hd := dX10_readGraph_70) ?_
                    refine mx_ifB_eq 93 dX10_readGraph_71 (by decide) (fun c71 => ?_) (fun c71 => ?_)
                    · skip
                      exact J93 () (fun q => by first | exact absurd q c71 | omega)
                    · skip
                      obtain ⟨hk1, hk2, hk3, hk4⟩ := hgt c71
                      have hsn9 := ht2.2.2.2.2.2
                      have hz9 := hz2 c71
                      clear hgt hgf hz2
                      refine mx_aload_n (i := 0) (hi := rfl) (hl := rfl) (hd := dX10_readGraph_74) ?_
                      refine mx_getV (ci := 10) (k := 3) (nI s) dX10_readGraph_75 k_1016 (by decide) rfl (by assumption) ht2.2.2.2.2.1 ?_
                      refine mx_aload_n (i := 0) (hi := rfl) (hl := rfl) (hd := dX10_readGraph_78) ?_
                      refine mx_getV (ci := 10) (k := 2) (nI n) dX10_readGraph_79 k_1015 (by decide) rfl (by assumption) ht2.1 ?_
                      refine mx_cmpN_ge 93 dX10_readGraph_82 (by decide) (by omega) (by omega) (fun c82 => ?_) (fun c82 => ?_)
                      · skip
                        exact J93 () (fun q => by first | exact absurd q c71 | omega)
                      · skip
                        refine mx_aload_n (i := 0) (hi := rfl) (hl := rfl) (hd := dX10_readGraph_85) ?_
                        refine mx_callVi (ci := 10) (As := []) (rest := []) dX10_readGraph_86 (mt_readStep G I2 m hs0 n k ch (by rw [← hk1]; exact ht2) (by omega) hk2 hk3) km_X10_readStep rfl k_1173 k_1175 k_38 (by assumption) rfl rfl (Nat.le_of_ble_eq_true rfl) (by decide) (fun r5 I3 h6 => ?_)
                        obtain ⟨e9, w2, w3, w4⟩ := h6
                        subst e9
                        by_cases hst : stV ch n k = true
                        · refine mx_top (y := mx_b (decide (true = true))) (congrArg mx_b (decide_eq_decide.mpr ⟨fun _ => rfl, fun _ => hst⟩)) ?_
                          obtain ⟨ht5, hg5, hx5⟩ := w3 (stV_iff.mp hst)
                          refine mx_istoreE_n (i := 2) (ls' := [some (.ref m), none, some (.int (mx_b (decide (true = true))))]) (hi := rfl) (hd := dX10_readGraph_89) (hn := by decide) (hok := rfl) (hls := rfl) ?_
                          refine mx_goto (tgt := 70) dX10_readGraph_90 (by decide) ?_
                          exact ih (k + 1) true (6 + 4 * k) _ (by have : s = 2 + 4 * k := hk1; rw [if_pos c71] at hmm9; rw [if_pos rfl]; omega) ht5 (fun _ => ⟨by omega, by have := (stV_iff.mp hst).2.1; have := (rc0.mp this).1; omega, hg5, by rw [hk4, rg_4 (stV_iff.mp hst), show 6 + 4 * k = 2 + 4 * (k + 1) by omega]⟩) (fun q => nomatch q) (fun _ => (hx5 2 (Or.inl rfl)).trans hz9) (fun b j q1 q2 => (w2 b j q1 q2).trans (hf2 b j q1 q2))
                        · refine mx_top (y := mx_b (decide (false = true))) (congrArg mx_b (decide_eq_decide.mpr ⟨fun _ => absurd (by assumption) hst, fun _ => (by contradiction)⟩)) ?_
                          obtain ⟨s5, ht5, hg5⟩ := w4 (fun q => hst (stV_iff.mpr q))
                          refine mx_istoreE_n (i := 2) (ls' := [some (.ref m), none, some (.int (mx_b (decide (false = true))))]) (hi := rfl) (hd := dX10_readGraph_89) (hn := by decide) (hok := rfl) (hls := rfl) ?_
                          refine mx_goto (tgt := 70) dX10_readGraph_90 (by decide) ?_
                          exact ih (k + 1) false s5 _ (by rw [if_pos c71] at hmm9; rw [if_neg (fun q => nomatch q)]; omega) ht5 (fun q => nomatch q) (fun _ => hk4.trans hg5) (fun q => nomatch q) (fun b j q1 q2 => (w2 b j q1 q2).trans (hf2 b j q1 q2))
                refine mx_iconstN 1 dX10_readGraph_68 (by decide) ?_
                refine mx_istoreE_n (i := 2) (ls' := [some (.ref m), some (.int (nI (ch 1 - 49))), some (.int (nI 1))]) (hi := rfl) (hd := dX10_readGraph_69) (hn := by decide) (hok := rfl) (hls := rfl) ?_
                refine mx_leS (ls' := [some (.ref m), none, some (.int (nI 1))]) ⟨rfl, rfl, trivial⟩ ?_
                exact L70 _ 0 true 2 _ (Nat.lt_succ_self _) (htb.u (fun b j q => by rw [mx_u_at, if_neg (by omega)]) (by rw [mx_u_at, if_neg (by omega)]; exact htb.2.2.2.2.1) g47.1) (fun _ => ⟨rfl, by decide, gtx_0 g47.2 (by rw [mx_u_at, if_pos ⟨rfl, rfl⟩]) (by rw [mx_u_at, if_neg (by omega), FIb _ _ (by omega), FIa _ _ (by omega)]; exact hz 1 (by omega)), gE_2 g47.1 (show rcOk ch 0 from Or.inl ⟨rfl, by omega⟩) (show rcOk ch 1 from Or.inr (Or.inl ⟨rfl, g47.2⟩))⟩) (fun q => nomatch q) (fun _ => by rw [mx_u_at, if_neg (by omega), FIb _ _ (by omega), FIa _ _ (by omega)]; exact hz 2 (by omega)) (fun b j q1 q2 => by rw [mx_u_at, if_neg (by omega), FIb _ _ q1, FIa _ _ q1]; exact hf1 b j q1 q2)
              · skip
                exact absurd c54 (nI_ne9 (by omega))
            · skip
              refine mx_callVp (ci := 10) (As := [.int (nI 49), .int (nI 56)]) (rest := []) dX10_readGraph_47 (mt_signF G Ia m hs0 n 1 ch hta 49 56 (by decide) (by decide) g47) km_X10_sign rfl k_1169 k_1171 k_37 (by assumption) rfl rfl (Nat.le_of_ble_eq_true rfl) (by decide) ?_
              refine mx_istoreE_n (i := 1) (ls' := [some (.ref m), some (.int (-9)), none]) (hi := rfl) (hd := dX10_readGraph_50) (hn := by decide) (hok := rfl) (hls := rfl) ?_
              refine mx_iload_n (i := 1) (hi := rfl) (hl := rfl) (hd := dX10_readGraph_51) ?_
              refine mx_bipush (v := (-9)) (by decide) dX10_readGraph_52 ?_
              refine mx_icmp_ne (tgt := 59) dX10_readGraph_54 (by decide) (fun c54 => ?_) (fun c54 => ?_)
              · skip
                exact absurd rfl c54
              · skip
                
                refine mx_iconstN 0 dX10_readGraph_57 (by decide) ?_
                exact mx_iret dX10_readGraph_58 rfl (by decide) (⟨rgQ.f (gE_1 g32.1 (show rcOk ch 0 from Or.inl ⟨rfl, by omega⟩) (fun q3 q => g47 ⟨q3, by omega, by omega⟩)) hta.2.2.2.2.1 (fun b j q1 q2 => (FIa b j q1).trans (hf1 b j q1 q2)), rfl⟩)
          · skip
            exact absurd c37 (nI_ne9 (by omega))
        · skip
          refine mx_callVp (ci := 10) (As := [.int (nI 75), .int (nI 75)]) (rest := []) dX10_readGraph_32 (mt_signF G I1 m hs0 n 0 ch ht1 75 75 (by decide) (by decide) g32) km_X10_sign rfl k_1169 k_1171 k_37 (by assumption) rfl rfl (Nat.le_of_ble_eq_true rfl) (by decide) ?_
          refine mx_bipush (v := (-9)) (by decide) dX10_readGraph_35 ?_
          refine mx_icmp_ne (tgt := 42) dX10_readGraph_37 (by decide) (fun c37 => ?_) (fun c37 => ?_)
          · skip
            exact absurd rfl c37
          · skip
            
            refine mx_iconstN 0 dX10_readGraph_40 (by decide) ?_
            exact mx_iret dX10_readGraph_41 rfl (by decide) (⟨rgQ.f (gE_0 (fun q3 q => g32 ⟨q3, by omega, by omega⟩)) h31 hf1, rfl⟩)
      · skip
        refine mx_aload_n (i := 0) (hi := rfl) (hl := rfl) (hd := dX10_readGraph_14) ?_
        refine mx_getR (ci := 10) (k := 4) (r := (m + 2)) dX10_readGraph_15 k_1017 (by decide) rfl (by assumption) (by assumption) (by omega) ?_
        refine mx_iload_n (i := 1) (hi := rfl) (hl := rfl) (hd := dX10_readGraph_18) ?_
        refine mx_iconstN 0 dX10_readGraph_19 (by decide) ?_
        refine mx_iast i dX10_readGraph_20 (by assumption) ⟨rfl, by omega, by omega⟩ ?_
        refine mx_iincE (i := 1) (ls' := [some (.ref m), some (.int (nI (i + 1))), none]) 1 dX10_readGraph_21 rfl (by decide) (by decide) rfl rfl ?_
        refine mx_goto (tgt := 7) dX10_readGraph_24 (by decide) ?_
        exact ih (i + 1) _ (by omega) (by omega) (fun k hk => by rw [mx_u_at]; split; (next e => rfl); (next e => exact hz k (by omega))) (fun b j q1 q2 => by rw [mx_u_at, if_neg (by omega)]; exact hf1 b j q1 q2) (by rw [mx_u_at, if_neg (by omega)]; exact h31)
  refine mx_aload_n (i := 0) (hi := rfl) (hl := rfl) (hd := dX10_readGraph_0) ?_
  refine mx_iconstN 0 dX10_readGraph_1 (by decide) ?_
  refine mx_putI (ci := 10) (k := 3) dX10_readGraph_2 k_1016 (by decide) rfl rfl rfl rfl (by assumption) ?_
  refine mx_iconstN 0 dX10_readGraph_5 (by decide) ?_
  refine mx_istoreE_n (i := 1) (ls' := [some (.ref m), some (.int (nI 0)), none]) (hi := rfl) (hd := dX10_readGraph_6) (hn := by decide) (hok := rfl) (hls := rfl) ?_
  exact L7 _ 0 _ (Nat.lt_succ_self _) (Nat.zero_le _) (fun k hk => absurd hk (Nat.not_lt_zero k)) (fun b j q1 q2 => by rw [mx_u_at, if_neg q1]) (by rw [mx_u_at, if_pos ⟨rfl, rfl⟩])

theorem mW.rg {G : mx_G} {I I1 : mx_I} {m : Nat} {z : Zs} (h : mW G I m z) (e : ∀ b j, ¬ (b = m ∧ j = 3) → b ≠ m + 2 → I1 b j = I b j) : mW G I1 m z := h.k (fun b j q => e b j (by omega) (by omega))
theorem rg_fr {I I1 : mx_I} {m : Nat} (e : ∀ b j, ¬ (b = m ∧ j = 3) → b ≠ m + 2 → I1 b j = I b j) : mx_fr I I1 m (m + 23) := fun b hb => funext fun j => e b j (by omega) (by omega)
theorem oI_s {x : Option Nat} {s : Nat} (h : x = some s) : oI x = nI s := by rw [h]; rfl
theorem fl_load_0 {z : Zs} (h : fl_load z - 2 = 0) : gErr (zT z) (zN z) = none := by
  unfold fl_load at h
  split at h
  · assumption
  · cases h
theorem mW.load {G : mx_G} {I I1 : mx_I} {m : Nat} {z : Zs} (h : mW G I m z) (e : ∀ b k, ((b = m ∧ k = 2) ∨ b = m + 1) → I1 b k = I b k) (h8 : I1 m 8 = nI 0) (hk : ∀ s, s < 2 → I1 (m + 7) s = nI 0) (hg : gaF (I1 (m + 3)) (gtx (zT z) ((zN z - 2) / 4))) (h2' : I1 (m + 3) 2 = nI 0) (h24 : (zN z - 2) / 4 ≤ 24) : mW G I1 m (nx_load z) := by
  obtain ⟨h1, h2, ⟨h3, h4, h5, h6⟩, h7, -, h11⟩ := h
  exact ⟨h1, h2, ⟨h3, (e _ _ (by omega)).trans h4, fun i hi => (e _ _ (by omega)).trans (h5 i hi), h6⟩, ⟨⟨hg, h2', fun i hi => absurd hi (Nat.not_lt_zero i), Nat.zero_le _, pErr_0 _, fun i hi => absurd hi (Nat.not_lt_zero i)⟩, h24⟩, ⟨Nat.zero_le _, h8, fun j hj => absurd hj (Nat.not_lt_zero j)⟩, fun s hs => ⟨hk s hs, fun q => Bool.noConfusion q⟩⟩

set_option maxHeartbeats 4000000 in
set_option maxRecDepth 100000 in
theorem mt_errorPosition (G : mx_G) (I : mx_I) (m : Nat) (z : Zs) (hW : mW G I m z) (b : Bool) : mx_CTi yX10_errorPosition mX10_errorPosition 6 [.ref m, .int (mx_b (decide (b = true)))] G I (fun rv I1 => rv = some (.int (an_err z b)) ∧ mW G I1 m z ∧ mx_fr I I1 m (m + 23)) := by
  refine mx_start (k := 0) (by decide) rfl rfl (fun h => nomatch h) (Nat.le_of_ble_eq_true rfl) ?_
  show mx_V mX10_errorPosition mx_S0 6 0 0 0 [some (.ref m), some (.int (mx_b (decide (b = true))))] [] G I (fun rv Gz Iz => (fun rv I1 => rv = some (.int (an_err z b)) ∧ mW G I1 m z ∧ mx_fr I I1 m (m + 23)) rv Iz ∧ Gz = G) (fun _ _ _ => False)
  have hs0 : oMD G m := hW.1
  have hs1 := hs0
  have hW9 := hW
  obtain ⟨tgm, ⟨r_text, t_text, l_text⟩, -⟩ := hs1
  obtain ⟨-, hsz, ⟨hn110, h2, htx, htc⟩, ⟨hvp, hN24⟩, ⟨hc14, h8, hdi⟩, hke⟩ := hW9
  have hN24 : gN (zG z) ≤ 24 := hN24
  have hgw : wfG (zG z) := hvp.1.1
  have hP8 : gP (zG z) ≤ 8 := hgw.1
  have hgb : ∀ s, s < gN (zG z) → gF (zG z) s < 8 ∧ gK (zG z) s < 4 ∧ gT (zG z) s < 8 ∧ 1 ≤ gC (zG z) s ∧ gC (zG z) s ≤ 9 := hgw.2.2
  have hn40 := hvp.2.2.2.1
  refine mx_iload_n (i := 1) (hi := rfl) (hl := rfl) (hd := dX10_errorPosition_0) ?_
  refine mx_ifB_eq 18 dX10_errorPosition_1 (by decide) (fun c1 => ?_) (fun c1 => ?_)
  · skip
    refine mx_aload_n (i := 0) (hi := rfl) (hl := rfl) (hd := dX10_errorPosition_18) ?_
    refine mx_callVi (ci := 10) (As := []) (rest := []) dX10_errorPosition_19 (mt_readGraph G I m hs0 (zN z) (zT z) h2 hn110 htx htc) km_X10_readGraph rfl k_1165 k_1167 k_36 (by assumption) rfl rfl (Nat.le_of_ble_eq_true rfl) (by decide) (fun r1 I2 h2 => ?_)
    obtain ⟨e9, w2, w3, w4⟩ := h2
    subst e9
    refine mx_ifB_eq 30 dX10_errorPosition_22 (by decide) (fun c22 => ?_) (fun c22 => ?_)
    · skip
      obtain ⟨s9, hs9⟩ : ∃ s, gErr (zT z) (zN z) = some s := by
        cases h9 : gErr (zT z) (zN z) with
        | none => exact absurd h9 c22
        | some s => exact ⟨s, rfl⟩
      have hsp9 : I2 m 3 = oI (gErr (zT z) (zN z)) := (w4 s9 hs9).trans (oI_s hs9).symm
      refine mx_aload_n (i := 0) (hi := rfl) (hl := rfl) (hd := dX10_errorPosition_30) ?_
      refine mx_getV (ci := 10) (k := 3) (oI (gErr (zT z) (zN z)) : Int32) dX10_errorPosition_31 k_1016 (by decide) rfl (by assumption) hsp9 ?_
      exact mx_iret dX10_errorPosition_34 rfl rfl (⟨⟨by unfold an_err; rw [if_neg c1], hW.rg w2, rg_fr w2⟩, rfl⟩)
    · skip
      refine mx_bipush (v := (-9)) (by decide) dX10_errorPosition_25 ?_
      refine mx_goto (tgt := 34) dX10_errorPosition_27 (by decide) ?_
      exact mx_iret dX10_errorPosition_34 rfl rfl (⟨⟨by unfold an_err; rw [if_neg c1, c22]; rfl, hW.rg w2, rg_fr w2⟩, rfl⟩)
  · skip
    refine mx_aload_n (i := 0) (hi := rfl) (hl := rfl) (hd := dX10_errorPosition_4) ?_
    refine mx_aload_n (i := 0) (hi := rfl) (hl := rfl) (hd := dX10_errorPosition_5) ?_
    refine mx_getR (ci := 10) (k := 1) (r := (m + 1)) dX10_errorPosition_6 k_1014 (by decide) rfl (by assumption) (by assumption) (by omega) ?_
    refine mx_iconstN 0 dX10_errorPosition_9 (by decide) ?_
    refine mx_aload_n (i := 0) (hi := rfl) (hl := rfl) (hd := dX10_errorPosition_10) ?_
    refine mx_getV (ci := 10) (k := 2) (nI (zN z)) dX10_errorPosition_11 k_1015 (by decide) rfl (by assumption) h2 ?_
    refine mx_callVi (ci := 10) (As := [.ref (m + 1), .int (nI 0), .int (nI (zN z))]) (rest := []) dX10_errorPosition_14 (mt_compile G I m hs0 (m + 1) 0 (zN z) (zT z) (Or.inl rfl) t_text (by omega) (by omega) (fun i hi => by rw [Nat.zero_add]; exact htx i hi) htc) km_X10_compile rfl k_1134 k_1136 k_30 (by assumption) rfl rfl (Nat.le_of_ble_eq_true rfl) (by decide) (fun r3 I2 h4 => ?_)
    obtain ⟨e9, q1, q2⟩ := h4
    subst e9
    exact mx_iret dX10_errorPosition_17 rfl rfl (⟨⟨by unfold an_err; rw [if_pos c1], hW.S q2.S, q2.S.fr⟩, rfl⟩)

set_option maxHeartbeats 4000000 in
set_option maxRecDepth 100000 in
theorem mt_load (G : mx_G) (I : mx_I) (m : Nat) (z : Zs) (hW : mW G I m z) : mx_CTi yX10_load mX10_load 6 [.ref m] G I (fun rv I1 => I1 m 0 = nI (fl_load z - 2) ∧ mx_fr I I1 m (m + 23) ∧ ((fl_load z - 2) = 0 → rv = some (.int (nI (gN (zG (nx_load z))))) ∧ mW G I1 m (nx_load z)) ∧ (¬ (fl_load z - 2) = 0 → (∃ w9, rv = some (.int w9)) ∧ mW G I1 m z)) := by
  refine mx_start (k := 0) (by decide) rfl rfl (fun h => nomatch h) (Nat.le_of_ble_eq_true rfl) ?_
  show mx_V mX10_load mx_S0 6 0 0 0 [some (.ref m)] [] G I (fun rv Gz Iz => (fun rv I1 => I1 m 0 = nI (fl_load z - 2) ∧ mx_fr I I1 m (m + 23) ∧ ((fl_load z - 2) = 0 → rv = some (.int (nI (gN (zG (nx_load z))))) ∧ mW G I1 m (nx_load z)) ∧ (¬ (fl_load z - 2) = 0 → (∃ w9, rv = some (.int w9)) ∧ mW G I1 m z)) rv Iz ∧ Gz = G) (fun _ _ _ => False)
  have hs0 : oMD G m := hW.1
  have hs1 := hs0
  have hW9 := hW
  obtain ⟨tgm, -⟩ := hs1
  obtain ⟨-, hsz, ⟨hn110, h2, htx, htc⟩, ⟨hvp, hN24⟩, ⟨hc14, h8, hdi⟩, hke⟩ := hW9
  have hN24 : gN (zG z) ≤ 24 := hN24
  have hgw : wfG (zG z) := hvp.1.1
  have hP8 : gP (zG z) ≤ 8 := hgw.1
  have hgb : ∀ s, s < gN (zG z) → gF (zG z) s < 8 ∧ gK (zG z) s < 4 ∧ gT (zG z) s < 8 ∧ 1 ≤ gC (zG z) s ∧ gC (zG z) s ≤ 9 := hgw.2.2
  have hn40 := hvp.2.2.2.1
  refine mx_aload_n (i := 0) (hi := rfl) (hl := rfl) (hd := dX10_load_0) ?_
  refine mx_aload_n (i := 0) (hi := rfl) (hl := rfl) (hd := dX10_load_1) ?_
  refine mx_callVi (ci := 10) (As := []) (rest := [.ref m]) dX10_load_2 (mt_readGraph G I m hs0 (zN z) (zT z) h2 hn110 htx htc) km_X10_readGraph rfl k_1165 k_1167 k_36 (by assumption) rfl rfl (Nat.le_of_ble_eq_true rfl) (by decide) (fun r1 I2 h2 => ?_)
  obtain ⟨e9, w2, w3, w4⟩ := h2
  subst e9
  have hWb := hW.rg w2
  have hfrb := rg_fr w2
  have J13 : ∀ (_ : Unit), mx_V mX10_load mx_S0 6 0 0 13 [some (.ref m)] [.int (nI (fl_load z - 2)), .ref m] G I2 (fun rv Gz Iz => (fun rv I1 => I1 m 0 = nI (fl_load z - 2) ∧ mx_fr I I1 m (m + 23) ∧ ((fl_load z - 2) = 0 → rv = some (.int (nI (gN (zG (nx_load z))))) ∧ mW G I1 m (nx_load z)) ∧ (¬ (fl_load z - 2) = 0 → (∃ w9, rv = some (.int w9)) ∧ mW G I1 m z)) rv Iz ∧ Gz = G) (fun _ _ _ => False) := by
    intro _ 
    refine mx_callVi (ci := 10) (As := [.int (nI (fl_load z - 2))]) (rest := []) dX10_load_13 (mt_refused G I2 m hs0 (fl_load z - 2) (by unfold fl_load; (repeat' split) <;> omega)) km_X10_refused rfl k_1122 k_1124 k_29 (by assumption) rfl rfl (Nat.le_of_ble_eq_true rfl) (by decide) (fun r3 Ir h4 => ?_)
    obtain ⟨e9, er⟩ := h4
    subst e9
    have hr0 : Ir m 0 = nI (fl_load z - 2) := by rw [er, mx_u_at, if_pos ⟨rfl, rfl⟩]
    have hrf : mx_fr I Ir m (m + 23) := by rw [er]; exact (hfrb).u (by omega)
    have hW1 : mW G Ir m z := hWb.k (fun b k q => by rw [er, mx_u_at, if_neg (by omega)])
    have hrd : ∀ k, Ir (m + 2) k = I2 (m + 2) k := fun k => by rw [er, mx_u_at, if_neg (by omega)]
    clear er
    refine mx_ifB_eq 21 dX10_load_16 (by decide) (fun c16 => ?_) (fun c16 => ?_)
    · skip
      have hm0 : fl_load z - 2 = 0 := by omega
      have k1 := fl_load_0 hm0
      clear hsz h2 htx htc hvp hdi hke h8
      have hs0 : oMD G m := hW1.1
      have hs1 := hs0
      have hW9 := hW1
      obtain ⟨tgm, -, ⟨r_read, t_read, l_read⟩, ⟨r_now, t_now, l_now⟩, -, -, -, ⟨r_isKept, t_isKept, l_isKept⟩, -⟩ := hs1
      obtain ⟨-, hsz, ⟨hn110, h2, htx, htc⟩, ⟨hvp, hN24⟩, ⟨hc14, h8, hdi⟩, hke⟩ := hW9
      have hN24 : gN (zG z) ≤ 24 := hN24
      have hgw : wfG (zG z) := hvp.1.1
      have hP8 : gP (zG z) ≤ 8 := hgw.1
      have hgb : ∀ s, s < gN (zG z) → gF (zG z) s < 8 ∧ gK (zG z) s < 4 ∧ gT (zG z) s < 8 ∧ 1 ≤ gC (zG z) s ∧ gC (zG z) s ≤ 9 := hgw.2.2
      have hn40 := hvp.2.2.2.1
      refine mx_aload_n (i := 0) (hi := rfl) (hl := rfl) (hd := dX10_load_21) ?_
      refine mx_getR (ci := 10) (k := 4) (r := (m + 2)) dX10_load_22 k_1017 (by decide) rfl (by assumption) (by assumption) (by omega) ?_
      refine mx_iconstN 0 dX10_load_25 (by decide) ?_
      refine mx_aload_n (i := 0) (hi := rfl) (hl := rfl) (hd := dX10_load_26) ?_
      refine mx_getR (ci := 10) (k := 5) (r := (m + 3)) dX10_load_27 k_1018 (by decide) rfl (by assumption) (by assumption) (by omega) ?_
      refine mx_iconstN 0 dX10_load_30 (by decide) ?_
      refine mx_callSi (As := [.ref (m + 2), .int (nI 0), .ref (m + 3), .int (nI 0)]) (rest := []) dX10_load_31 (mt_copyGraph G Ir (m + 2) 0 (m + 3) 0 t_read t_now (by omega) (by omega) (by omega) (by omega) (by omega)) km_X10_copyGraph rfl k_1190 k_1191 rfl rfl (Nat.le_of_ble_eq_true rfl) (by decide) (fun r5 I4 h6 => ?_)
      obtain ⟨e9, q1, q2⟩ := h6
      subst e9
      obtain ⟨v1, v2, v3⟩ := w3 k1
      have hcp : ∀ k, k < 143 → I4 (m + 3) k = I2 (m + 2) k := fun k hk => by have h9 := q1 k hk; rw [Nat.zero_add, hrd] at h9; exact h9
      have hg4 : gaF (I4 (m + 3)) (gtx (zT z) ((zN z - 2) / 4)) := v1.c (by show (zN z - 2) / 4 ≤ 25; omega) (fun k hk => hcp k (by omega))
      refine mx_aload_n (i := 0) (hi := rfl) (hl := rfl) (hd := dX10_load_34) ?_
      refine mx_iconstN 0 dX10_load_35 (by decide) ?_
      refine mx_putI (ci := 10) (k := 8) dX10_load_36 k_1021 (by decide) rfl rfl rfl rfl (by assumption) ?_
      refine mx_aload_n (i := 0) (hi := rfl) (hl := rfl) (hd := dX10_load_39) ?_
      refine mx_getR (ci := 10) (k := 10) (r := (m + 7)) dX10_load_40 k_1023 (by decide) rfl (by assumption) (by assumption) (by omega) ?_
      refine mx_iconstN 0 dX10_load_43 (by decide) ?_
      refine mx_iconstN 0 dX10_load_44 (by decide) ?_
      refine mx_zast 0 dX10_load_45 (by assumption) ⟨rfl, by omega, by omega⟩ (by decide) ?_
      refine mx_aload_n (i := 0) (hi := rfl) (hl := rfl) (hd := dX10_load_46) ?_
      refine mx_getR (ci := 10) (k := 10) (r := (m + 7)) dX10_load_47 k_1023 (by decide) rfl (by assumption) (by assumption) (by omega) ?_
      refine mx_iconstN 1 dX10_load_50 (by decide) ?_
      refine mx_iconstN 0 dX10_load_51 (by decide) ?_
      refine mx_zast 1 dX10_load_52 (by assumption) ⟨rfl, by omega, by omega⟩ (by decide) ?_
      refine mx_aload_n (i := 0) (hi := rfl) (hl := rfl) (hd := dX10_load_53) ?_
      refine mx_getR (ci := 10) (k := 5) (r := (m + 3)) dX10_load_54 k_1018 (by decide) rfl (by assumption) (by assumption) (by omega) ?_
      refine mx_iconstN 1 dX10_load_57 (by decide) ?_
      refine mx_ialdV 1 (nI (gN (gtx (zT z) ((zN z - 2) / 4)))) dX10_load_58 (by assumption) ⟨rfl, by omega, by omega⟩ (by rw [mx_u_at, if_neg (by omega), mx_u_at, if_neg (by omega), mx_u_at, if_neg (by omega)]; exact hg4.2.2.1) ?_
      exact mx_iret dX10_load_59 rfl rfl (⟨⟨by rw [mx_u_at, if_neg (by omega), mx_u_at, if_neg (by omega), mx_u_at, if_neg (by omega), q2 _ _ (by omega)]; exact hr0, (((mt_fr hrf (fun b hb => funext fun k => q2 b k (by omega))).u (by omega)).u (by omega)).u (by omega), fun _ => ⟨rfl, hW1.load (fun b k q => by rw [mx_u_at, if_neg (by omega), mx_u_at, if_neg (by omega), mx_u_at, if_neg (by omega), q2 _ _ (by omega)]) (by rw [mx_u_at, if_neg (by omega), mx_u_at, if_neg (by omega), mx_u_at, if_pos ⟨rfl, rfl⟩]) (fun s hs => by rw [mx_u_at]; split; (next e => rfl); (next e => rw [mx_u_at, if_pos ⟨rfl, by omega⟩])) (hg4.c (by show (zN z - 2) / 4 ≤ 25; omega) (fun k hk => by rw [mx_u_at, if_neg (by omega), mx_u_at, if_neg (by omega), mx_u_at, if_neg (by omega)])) (by rw [mx_u_at, if_neg (by omega), mx_u_at, if_neg (by omega), mx_u_at, if_neg (by omega), hcp 2 (by decide)]; exact v2) v3⟩, fun z9 => absurd hm0 z9⟩, rfl⟩)
    · skip
      refine mx_iconstN 0 dX10_load_19 (by decide) ?_
      exact mx_iret dX10_load_20 rfl rfl (⟨⟨hr0, hrf, fun z9 => absurd z9 (by omega), fun _ => ⟨⟨_, rfl⟩, hW1⟩⟩, rfl⟩)
  refine mx_ifB_eq 12 dX10_load_5 (by decide) (fun c5 => ?_) (fun c5 => ?_)
  · skip
    refine mx_iconstN 1 dX10_load_12 (by decide) ?_
    refine mx_top (y := nI (fl_load z - 2)) (congrArg nI (show 1 = fl_load z - 2 by unfold fl_load; rw [if_neg c5])) ?_
    exact J13 ()
  · skip
    refine mx_iconstN 0 dX10_load_8 (by decide) ?_
    refine mx_goto (tgt := 13) dX10_load_9 (by decide) ?_
    refine mx_top (y := nI (fl_load z - 2)) (congrArg nI (show 0 = fl_load z - 2 by unfold fl_load; rw [if_pos c5])) ?_
    exact J13 ()
