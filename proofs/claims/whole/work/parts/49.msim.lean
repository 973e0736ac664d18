/-! THE REFERENCE: simulate -/
def lcN (x : Int64) : Nat → Int64
  | 0 => x
  | j + 1 => lcN x j * 6364136223846793005 + 1442695040888963407
def lcr (x : Int64) : Nat := (x.toUInt64 >>> 33).toNat
def lcV (r : Nat) : Nat := if r / 16 % 8 = 0 then 0 else 1 + r % 9
/-- the prices of a day that begins with x -/
def lcP (x : Int64) : Nat → Nat := fun s => lcV (lcr (lcN x (s + 1)))
theorem lcr_lt (x : Int64) : lcr x < 2 ^ 31 := by
  unfold lcr
  rw [UInt64.toNat_shiftRight, Nat.shiftRight_eq_div_pow]
  have h := UInt64.toNat_lt x.toUInt64
  exact Nat.div_lt_of_lt_mul h
theorem u_iN (u : UInt64) : u.toInt64 = lN u.toNat := congrArg UInt64.toInt64 (UInt64.ofNat_toNat (x := u)).symm
theorem lcr_i (x : Int64) : ((x.toUInt64 >>> ((nI 33 : Int32).toInt64.toUInt64 &&& Int64.toUInt64 63)).toInt64).toInt32 = nI (lcr x) := by
  rw [show (nI 33 : Int32).toInt64.toUInt64 &&& Int64.toUInt64 63 = 33 by decide, u_iN]
  exact lN_i _
theorem lcV_9 (r : Nat) : lcV r ≤ 9 := by
  unfold lcV
  split <;> omega
theorem oI_gd {x : Option Nat} (h : ¬ oI x = -9) : oI x = nI (x.getD 0) := by
  cases x with
  | none => exact absurd rfl h
  | some y => rfl
noncomputable def smM (v : Gr) (A : Pa) (seed : Int64) : Nat → Int64 × Nat × Nat
  | 0 => (seed, 0, 0)
  | d + 1 => (lcN (smM v A seed d).1 (gN v), (smM v A seed d).2.1 + (lpO v A (lcP (smM v A seed d).1) (gP v)).1, (smM v A seed d).2.2 + (lpO v A (lcP (smM v A seed d).1) (gP v)).2.getD 0)
noncomputable def am_simulate (z : Zs) (seed : Int64) (d : Nat) : Nat := 100000 * (smM (zG z) (vA (zX z)) seed d).2.1 + (smM (zG z) (vA (zX z)) seed d).2.2
def fl_simulate (dm : Int32) : Nat := if ¬ (1 ≤ dm.toInt ∧ dm.toInt ≤ 20) then 2 else 0
theorem fl_simulate_0 {dm : Int32} (h : fl_simulate dm - 1 = 0) : 1 ≤ dm.toInt ∧ dm.toInt ≤ 20 := by
  unfold fl_simulate at h
  split at h
  · cases h
  · next c => exact Classical.not_not.mp c

set_option maxHeartbeats 4000000 in
set_option maxRecDepth 100000 in
theorem mt_simulate (G : mx_G) (I : mx_I) (m : Nat) (z : Zs) (hW : mW G I m z) (seed : Int64) (dm : Int32) : mx_CTi yX10_simulate mX10_simulate 5 [.ref m, .long seed, .int dm] G I (fun rv I1 => I1 m 0 = nI (fl_simulate dm - 1) ∧ mx_fr I I1 m (m + 23) ∧ ((fl_simulate dm - 1) = 0 → rv = some (.int (nI (am_simulate z seed dm.toInt.toNat))) ∧ mW G I1 m (z)) ∧ (¬ (fl_simulate dm - 1) = 0 → (∃ w9, rv = some (.int w9)) ∧ mW G I1 m z)) := by
  refine mx_start (k := 7) (by decide) rfl rfl (fun h => nomatch h) (Nat.le_of_ble_eq_true rfl) ?_
  show mx_V mX10_simulate mx_S0 5 0 0 0 [some (.ref m), some (.long seed), none, some (.int dm), none, none, none, none, none, none, none] [] G I (fun rv Gz Iz => (fun rv I1 => I1 m 0 = nI (fl_simulate dm - 1) ∧ mx_fr I I1 m (m + 23) ∧ ((fl_simulate dm - 1) = 0 → rv = some (.int (nI (am_simulate z seed dm.toInt.toNat))) ∧ mW G I1 m (z)) ∧ (¬ (fl_simulate dm - 1) = 0 → (∃ w9, rv = some (.int w9)) ∧ mW G I1 m z)) rv Iz ∧ Gz = G) (fun _ _ _ => False)
  have hs0 : oMD G m := hW.1
  have hs1 := hs0
  have hW9 := hW
  obtain ⟨tgm, -⟩ := hs1
  obtain ⟨-, hsz, ⟨hn110, h2, htx, htc⟩, ⟨hvp, hN24⟩, ⟨hc14, h8, hdi⟩, hke⟩ := hW9
  have hN24 : gN (zG z) ≤ 24 := hN24
  have hgw : wfG (zG z) := hvp.1.1
  have hP8 : gP (zG z) ≤ 8 := hgw.1
  have hgb : ∀ s, s < gN (zG z) → gF (zG z) s < 8 ∧ gK (zG z) s < 4 ∧ gT (zG z) s < 8 ∧ 1 ≤ gC (zG z) s ∧ gC (zG z) s ≤ 9 := hgw.2.2
  have hn40 := hvp.2.2.2.1
  have J18 : ∀ (_ : Unit), mx_V mX10_simulate mx_S0 5 0 0 18 [some (.ref m), some (.long seed), none, some (.int dm), none, none, none, none, none, none, none] [.int (nI (fl_simulate dm - 1)), .ref m] G I (fun rv Gz Iz => (fun rv I1 => I1 m 0 = nI (fl_simulate dm - 1) ∧ mx_fr I I1 m (m + 23) ∧ ((fl_simulate dm - 1) = 0 → rv = some (.int (nI (am_simulate z seed dm.toInt.toNat))) ∧ mW G I1 m (z)) ∧ (¬ (fl_simulate dm - 1) = 0 → (∃ w9, rv = some (.int w9)) ∧ mW G I1 m z)) rv Iz ∧ Gz = G) (fun _ _ _ => False) := by
    intro _ 
    refine mx_callVi (ci := 10) (As := [.int (nI (fl_simulate dm - 1))]) (rest := []) dX10_simulate_18 (mt_refused G I m hs0 (fl_simulate dm - 1) (by unfold fl_simulate; (repeat' split) <;> omega)) km_X10_refused rfl k_1122 k_1124 k_29 (by assumption) rfl rfl (Nat.le_of_ble_eq_true rfl) (by decide) (fun r1 Ir h2 => ?_)
    obtain ⟨e9, er⟩ := h2
    subst e9
    have hr0 : Ir m 0 = nI (fl_simulate dm - 1) := by rw [er, mx_u_at, if_pos ⟨rfl, rfl⟩]
    have hrf : mx_fr I Ir m (m + 23) := by rw [er]; exact (mx_fr.rf _ _ _).u (by omega)
    have hW1 : mW G Ir m z := hW.k (fun b k q => by rw [er, mx_u_at, if_neg (by omega)])
    clear er
    refine mx_ifB_eq 26 dX10_simulate_21 (by decide) (fun c21 => ?_) (fun c21 => ?_)
    · skip
      have hm0 : fl_simulate dm - 1 = 0 := by omega
      have k1 := fl_simulate_0 hm0
      clear hsz h2 htx htc hvp hdi hke h8
      have hs0 : oMD G m := hW1.1
      have hs1 := hs0
      have hW9 := hW1
      obtain ⟨tgm, -, -, ⟨r_now, t_now, l_now⟩, -, -, -, -, -, -, -, -, -, -, -, -, ⟨r_prices, t_prices, l_prices⟩, -⟩ := hs1
      obtain ⟨-, hsz, ⟨hn110, h2, htx, htc⟩, ⟨hvp, hN24⟩, ⟨hc14, h8, hdi⟩, hke⟩ := hW9
      have hN24 : gN (zG z) ≤ 24 := hN24
      have hgw : wfG (zG z) := hvp.1.1
      have hP8 : gP (zG z) ≤ 8 := hgw.1
      have hgb : ∀ s, s < gN (zG z) → gF (zG z) s < 8 ∧ gK (zG z) s < 4 ∧ gT (zG z) s < 8 ∧ 1 ≤ gC (zG z) s ∧ gC (zG z) s ≤ 9 := hgw.2.2
      have hn40 := hvp.2.2.2.1
      have hdne : dm = nI dm.toInt.toNat := (mx_nn (by omega)).symm
      have hdnb : 1 ≤ dm.toInt.toNat ∧ dm.toInt.toNat ≤ 20 := by omega
      have hdn31 : dm.toInt.toNat < 2 ^ 31 := tn31 _
      generalize dm.toInt.toNat = dn at hdne hdnb hdn31 ⊢
      subst hdne
      refine mx_aload_n (i := 0) (hi := rfl) (hl := rfl) (hd := dX10_simulate_26) ?_
      refine mx_aload_n (i := 0) (hi := rfl) (hl := rfl) (hd := dX10_simulate_27) ?_
      refine mx_getR (ci := 10) (k := 5) (r := (m + 3)) dX10_simulate_28 k_1018 (by decide) rfl (by assumption) (by assumption) (by omega) ?_
      refine mx_callVi (ci := 10) (As := [.ref (m + 3)]) (rest := []) dX10_simulate_31 (mt_compileOf G Ir m hs0 (m + 3) (zX z) (Or.inl rfl) t_now l_now hvp) km_X10_compileOf rfl k_1198 k_1200 k_39 (by assumption) rfl rfl (Nat.le_of_ble_eq_true rfl) (by decide) (fun r3 I2 h4 => ?_)
      obtain ⟨e9, q1, q2⟩ := h4
      subst e9
      have hA9 := auP_rdF (zX z).2.2 (zX z).2.1
      have hwp9 := wfP_vA hvp.2.2.2
      have L46 : ∀ (fq : Nat) (d : Nat) (I3 : mx_I), dn - d < fq → (d ≤ dn) → (auN I3 m (vA (zX z))) → (mS Ir I3 m) → mx_V mX10_simulate mx_S0 5 0 0 46 [some (.ref m), some (.long seed), none, some (.int (nI dn)), some (.int (nI ((smM (zG z) (vA (zX z)) seed d).2.1))), some (.int (nI ((smM (zG z) (vA (zX z)) seed d).2.2))), some (.long ((smM (zG z) (vA (zX z)) seed d).1)), none, some (.int (nI d)), none, none] [] G I3 (fun rv Gz Iz => (fun rv I1 => I1 m 0 = nI (fl_simulate (nI dn) - 1) ∧ mx_fr I I1 m (m + 23) ∧ ((fl_simulate (nI dn) - 1) = 0 → rv = some (.int (nI (am_simulate z seed dn))) ∧ mW G I1 m (z)) ∧ (¬ (fl_simulate (nI dn) - 1) = 0 → (∃ w9, rv = some (.int w9)) ∧ mW G I1 m z)) rv Iz ∧ Gz = G) (fun _ _ _ => False) := by
        intro fq
        induction fq with
        | zero => intro d I3 hfu; exact absurd hfu (Nat.not_lt_zero _)
        | succ fq ih =>
          intro d I3 hfu hd ha3 hS3
          have hg3 : gaF (I3 (m + 3)) (zG z) := hvp.1.c (by omega) (fun k _ => by rw [hS3.1 (m + 3) (by omega)])
          have L55 : ∀ (fq : Nat) (s : Nat) (I4 : mx_I), gN (zG z) - s < fq → (d < dn) → (s ≤ gN (zG z)) → (∀ k, k < s → I4 (m + 16) k = nI (lcP (smM (zG z) (vA (zX z)) seed d).1 k)) → (∀ b k, b ≠ m + 16 → I4 b k = I3 b k) → mx_V mX10_simulate mx_S0 5 0 0 55 [some (.ref m), some (.long seed), none, some (.int (nI dn)), some (.int (nI ((smM (zG z) (vA (zX z)) seed d).2.1))), some (.int (nI ((smM (zG z) (vA (zX z)) seed d).2.2))), some (.long (lcN (smM (zG z) (vA (zX z)) seed d).1 s)), none, some (.int (nI d)), some (.int (nI s)), none] [] G I4 (fun rv Gz Iz => (fun rv I1 => I1 m 0 = nI (fl_simulate (nI dn) - 1) ∧ mx_fr I I1 m (m + 23) ∧ ((fl_simulate (nI dn) - 1) = 0 → rv = some (.int (nI (am_simulate z seed dn))) ∧ mW G I1 m (z)) ∧ (¬ (fl_simulate (nI dn) - 1) = 0 → (∃ w9, rv = some (.int w9)) ∧ mW G I1 m z)) rv Iz ∧ Gz = G) (fun _ _ _ => False) := by
            intro fq
            induction fq with
            | zero => intro s I4 hfu; exact absurd hfu (Nat.not_lt_zero _)
            | succ fq ih2 =>
              intro s I4 hfu hd8 hs9 hpr hfr4
              have hg4 : gaF (I4 (m + 3)) (zG z) := hg3.c (by omega) (fun k _ => hfr4 _ _ (by omega))
              obtain ⟨r, hr⟩ : ∃ r, lcr (lcN (smM (zG z) (vA (zX z)) seed d).1 (s + 1)) = r := ⟨_, rfl⟩
              have hr31 : r < 2 ^ 31 := by rw [← hr]; exact lcr_lt _
              refine mx_iload (i := 9) (hl := rfl) (hd := dX10_simulate_55) ?_
              refine mx_aload_n (i := 0) (hi := rfl) (hl := rfl) (hd := dX10_simulate_57) ?_
              refine mx_getR (ci := 10) (k := 5) (r := (m + 3)) dX10_simulate_58 k_1018 (by decide) rfl (by assumption) (by assumption) (by omega) ?_
              refine mx_iconstN 1 dX10_simulate_61 (by decide) ?_
              refine mx_ialdV 1 (nI (gN (zG z))) dX10_simulate_62 (by assumption) ⟨rfl, by omega, by omega⟩ hg4.2.2.1 ?_
              refine mx_cmpN_ge 121 dX10_simulate_63 (by decide) (by omega) (by omega) (fun c63 => ?_) (fun c63 => ?_)
              · skip
                obtain rfl : s = gN (zG z) := by omega
                have hpr9 : ∀ s, s < gN (zG z) → I4 (m + 16) s = nI (lcP (smM (zG z) (vA (zX z)) seed d).1 s) := fun k hk => hpr k (by omega)
                have ha4 : auN I4 m (vA (zX z)) := ha3.k (fun j _ _ => hfr4 _ _ (by omega)) (fun b k _ _ => hfr4 _ _ (by omega))
                refine mx_aload_n (i := 0) (hi := rfl) (hl := rfl) (hd := dX10_simulate_121) ?_
                refine mx_aload_n (i := 0) (hi := rfl) (hl := rfl) (hd := dX10_simulate_122) ?_
                refine mx_getR (ci := 10) (k := 5) (r := (m + 3)) dX10_simulate_123 k_1018 (by decide) rfl (by assumption) (by assumption) (by omega) ?_
                refine mx_callVi (ci := 10) (As := [.ref (m + 3)]) (rest := []) dX10_simulate_126 (mt_layPairs G I4 m hs0 (vA (zX z)) ha4 hA9 hwp9 (m + 3) (zG z) (Or.inl rfl) t_now l_now hg4 (lcP (smM (zG z) (vA (zX z)) seed d).1) (fun s _ => lcV_9 _) hpr9) km_X10_layPairs rfl k_1206 k_1208 k_41 (by assumption) rfl rfl (Nat.le_of_ble_eq_true rfl) (by decide) (fun r5 I5 h6 => ?_)
                obtain ⟨e9, h27, h28, ha5, hS5⟩ := h6
                subst e9
                have hlt5 : ∀ y, (lpO (zG z) (vA (zX z)) (lcP (smM (zG z) (vA (zX z)) seed d).1) (gP (zG z))).2 = some y → y < 2 ^ 31 := fun y hy => Nat.lt_trans (lpO_lt (fun q p hp => bR_eb hgw hwp9 (fun s _ => lcV_9 _) hp (by decide)) hP8 _ y hy) (by decide)
                have hS6 : mS Ir I5 m := hS3.tr ((mS.of (fun b k hb => hfr4 b k (by omega))).tr hS5)
                refine mx_iload (i := 4) (hl := rfl) (hd := dX10_simulate_129) ?_
                refine mx_aload_n (i := 0) (hi := rfl) (hl := rfl) (hd := dX10_simulate_131) ?_
                refine mx_getV (ci := 10) (k := 27) (nI ((lpO (zG z) (vA (zX z)) (lcP (smM (zG z) (vA (zX z)) seed d).1) (gP (zG z))).1)) dX10_simulate_132 k_1040 (by decide) rfl (by assumption) h27 ?_
                refine mx_iaddN dX10_simulate_135 ?_
                refine mx_istoreE (i := 4) (ls' := [some (.ref m), some (.long seed), none, some (.int (nI dn)), some (.int (nI (((smM (zG z) (vA (zX z)) seed d).2.1) + ((lpO (zG z) (vA (zX z)) (lcP (smM (zG z) (vA (zX z)) seed d).1) (gP (zG z))).1)))), some (.int (nI ((smM (zG z) (vA (zX z)) seed d).2.2))), some (.long (lcN (smM (zG z) (vA (zX z)) seed d).1 (gN (zG z)))), none, some (.int (nI d)), some (.int (nI (gN (zG z)))), none]) (hd := dX10_simulate_136) (hn := by decide) (hok := rfl) (hls := rfl) ?_
                refine mx_iload (i := 5) (hl := rfl) (hd := dX10_simulate_138) ?_
                refine mx_aload_n (i := 0) (hi := rfl) (hl := rfl) (hd := dX10_simulate_140) ?_
                refine mx_getV (ci := 10) (k := 28) (oI (lpO (zG z) (vA (zX z)) (lcP (smM (zG z) (vA (zX z)) seed d).1) (gP (zG z))).2 : Int32) dX10_simulate_141 k_1041 (by decide) rfl (by assumption) h28 ?_
                refine mx_bipush (v := (-9)) (by decide) dX10_simulate_144 ?_
                refine mx_icmp_ne (tgt := 153) dX10_simulate_146 (by decide) (fun c146 => ?_) (fun c146 => ?_)
                · skip
                  refine mx_aload_n (i := 0) (hi := rfl) (hl := rfl) (hd := dX10_simulate_153) ?_
                  refine mx_getV (ci := 10) (k := 28) (oI (lpO (zG z) (vA (zX z)) (lcP (smM (zG z) (vA (zX z)) seed d).1) (gP (zG z))).2 : Int32) dX10_simulate_154 k_1041 (by decide) rfl (by assumption) h28 ?_
                  refine mx_top (y := nI ((lpO (zG z) (vA (zX z)) (lcP (smM (zG z) (vA (zX z)) seed d).1) (gP (zG z))).2.getD 0)) (oI_gd c146) ?_
                  refine mx_iaddN dX10_simulate_157 ?_
                  refine mx_istoreE (i := 5) (ls' := [some (.ref m), some (.long seed), none, some (.int (nI dn)), some (.int (nI (((smM (zG z) (vA (zX z)) seed d).2.1) + ((lpO (zG z) (vA (zX z)) (lcP (smM (zG z) (vA (zX z)) seed d).1) (gP (zG z))).1)))), some (.int (nI (((smM (zG z) (vA (zX z)) seed d).2.2) + ((lpO (zG z) (vA (zX z)) (lcP (smM (zG z) (vA (zX z)) seed d).1) (gP (zG z))).2.getD 0)))), some (.long (lcN (smM (zG z) (vA (zX z)) seed d).1 (gN (zG z)))), none, some (.int (nI d)), some (.int (nI (gN (zG z)))), none]) (hd := dX10_simulate_158) (hn := by decide) (hok := rfl) (hls := rfl) ?_
                  refine mx_iincE (i := 8) (ls' := [some (.ref m), some (.long seed), none, some (.int (nI dn)), some (.int (nI (((smM (zG z) (vA (zX z)) seed d).2.1) + ((lpO (zG z) (vA (zX z)) (lcP (smM (zG z) (vA (zX z)) seed d).1) (gP (zG z))).1)))), some (.int (nI (((smM (zG z) (vA (zX z)) seed d).2.2) + ((lpO (zG z) (vA (zX z)) (lcP (smM (zG z) (vA (zX z)) seed d).1) (gP (zG z))).2.getD 0)))), some (.long (lcN (smM (zG z) (vA (zX z)) seed d).1 (gN (zG z)))), none, some (.int (nI (d + 1))), some (.int (nI (gN (zG z)))), none]) 1 dX10_simulate_160 rfl (by decide) (by decide) rfl rfl ?_
                  refine mx_goto (tgt := 46) dX10_simulate_163 (by decide) ?_
                  refine mx_leS (ls' := [some (.ref m), some (.long seed), none, some (.int (nI dn)), some (.int (nI (((smM (zG z) (vA (zX z)) seed d).2.1) + ((lpO (zG z) (vA (zX z)) (lcP (smM (zG z) (vA (zX z)) seed d).1) (gP (zG z))).1)))), some (.int (nI (((smM (zG z) (vA (zX z)) seed d).2.2) + ((lpO (zG z) (vA (zX z)) (lcP (smM (zG z) (vA (zX z)) seed d).1) (gP (zG z))).2.getD 0)))), some (.long (lcN (smM (zG z) (vA (zX z)) seed d).1 (gN (zG z)))), none, some (.int (nI (d + 1))), none, none]) ⟨rfl, rfl, rfl, rfl, rfl, rfl, rfl, trivial⟩ ?_
                  exact ih (d + 1) _ (by omega) (by omega) ha5 hS6
                · skip
                  refine mx_iconstN 0 dX10_simulate_149 (by decide) ?_
                  refine mx_goto (tgt := 157) dX10_simulate_150 (by decide) ?_
                  refine mx_top (y := nI ((lpO (zG z) (vA (zX z)) (lcP (smM (zG z) (vA (zX z)) seed d).1) (gP (zG z))).2.getD 0)) (by rw [(oI_iff hlt5).mp c146]; rfl) ?_
                  refine mx_iaddN dX10_simulate_157 ?_
                  refine mx_istoreE (i := 5) (ls' := [some (.ref m), some (.long seed), none, some (.int (nI dn)), some (.int (nI (((smM (zG z) (vA (zX z)) seed d).2.1) + ((lpO (zG z) (vA (zX z)) (lcP (smM (zG z) (vA (zX z)) seed d).1) (gP (zG z))).1)))), some (.int (nI (((smM (zG z) (vA (zX z)) seed d).2.2) + ((lpO (zG z) (vA (zX z)) (lcP (smM (zG z) (vA (zX z)) seed d).1) (gP (zG z))).2.getD 0)))), some (.long (lcN (smM (zG z) (vA (zX z)) seed d).1 (gN (zG z)))), none, some (.int (nI d)), some (.int (nI (gN (zG z)))), none]) (hd := dX10_simulate_158) (hn := by decide) (hok := rfl) (hls := rfl) ?_
                  refine mx_iincE (i := 8) (ls' := [some (.ref m), some (.long seed), none, some (.int (nI dn)), some (.int (nI (((smM (zG z) (vA (zX z)) seed d).2.1) + ((lpO (zG z) (vA (zX z)) (lcP (smM (zG z) (vA (zX z)) seed d).1) (gP (zG z))).1)))), some (.int (nI (((smM (zG z) (vA (zX z)) seed d).2.2) + ((lpO (zG z) (vA (zX z)) (lcP (smM (zG z) (vA (zX z)) seed d).1) (gP (zG z))).2.getD 0)))), some (.long (lcN (smM (zG z) (vA (zX z)) seed d).1 (gN (zG z)))), none, some (.int (nI (d + 1))), some (.int (nI (gN (zG z)))), none]) 1 dX10_simulate_160 rfl (by decide) (by decide) rfl rfl ?_
                  refine mx_goto (tgt := 46) dX10_simulate_163 (by decide) ?_
                  refine mx_leS (ls' := [some (.ref m), some (.long seed), none, some (.int (nI dn)), some (.int (nI (((smM (zG z) (vA (zX z)) seed d).2.1) + ((lpO (zG z) (vA (zX z)) (lcP (smM (zG z) (vA (zX z)) seed d).1) (gP (zG z))).1)))), some (.int (nI (((smM (zG z) (vA (zX z)) seed d).2.2) + ((lpO (zG z) (vA (zX z)) (lcP (smM (zG z) (vA (zX z)) seed d).1) (gP (zG z))).2.getD 0)))), some (.long (lcN (smM (zG z) (vA (zX z)) seed d).1 (gN (zG z)))), none, some (.int (nI (d + 1))), none, none]) ⟨rfl, rfl, rfl, rfl, rfl, rfl, rfl, trivial⟩ ?_
                  exact ih (d + 1) _ (by omega) (by omega) ha5 hS6
              · skip
                refine mx_lload (i := 6) (hl := rfl) (hd := dX10_simulate_66) ?_
                refine mx_ldc2 (v := (6364136223846793005)) k_1387 dX10_simulate_68 ?_
                refine mx_lmul dX10_simulate_71 ?_
                refine mx_ldc2 (v := (1442695040888963407)) k_1388 dX10_simulate_72 ?_
                refine mx_ladd dX10_simulate_75 ?_
                refine mx_topl (y := lcN (smM (zG z) (vA (zX z)) seed d).1 (s + 1)) (rfl) ?_
                refine mx_lstoreE (i := 6) (ls' := [some (.ref m), some (.long seed), none, some (.int (nI dn)), some (.int (nI ((smM (zG z) (vA (zX z)) seed d).2.1))), some (.int (nI ((smM (zG z) (vA (zX z)) seed d).2.2))), some (.long (lcN (smM (zG z) (vA (zX z)) seed d).1 (s + 1))), none, some (.int (nI d)), some (.int (nI s)), none]) (hd := dX10_simulate_76) (hn := by decide) (hok := rfl) (hls := rfl) ?_
                refine mx_lload (i := 6) (hl := rfl) (hd := dX10_simulate_78) ?_
                refine mx_bipushN 33 dX10_simulate_80 (by decide) ?_
                refine mx_lushr (hv := rfl) (hd := dX10_simulate_82) ?_
                refine mx_l2i (hv := rfl) (hd := dX10_simulate_83) ?_
                refine mx_top (y := nI r) ((lcr_i _).trans (congrArg nI hr)) ?_
                refine mx_istoreE (i := 10) (ls' := [some (.ref m), some (.long seed), none, some (.int (nI dn)), some (.int (nI ((smM (zG z) (vA (zX z)) seed d).2.1))), some (.int (nI ((smM (zG z) (vA (zX z)) seed d).2.2))), some (.long (lcN (smM (zG z) (vA (zX z)) seed d).1 (s + 1))), none, some (.int (nI d)), some (.int (nI s)), some (.int (nI r))]) (hd := dX10_simulate_84) (hn := by decide) (hok := rfl) (hls := rfl) ?_
                refine mx_aload_n (i := 0) (hi := rfl) (hl := rfl) (hd := dX10_simulate_86) ?_
                refine mx_getR (ci := 10) (k := 23) (r := (m + 16)) dX10_simulate_87 k_1036 (by decide) rfl (by assumption) (by assumption) (by omega) ?_
                refine mx_iload (i := 9) (hl := rfl) (hd := dX10_simulate_90) ?_
                refine mx_iload (i := 10) (hl := rfl) (hd := dX10_simulate_92) ?_
                refine mx_bipushN 16 dX10_simulate_94 (by decide) ?_
                refine mx_idivN dX10_simulate_96 (by omega) (by decide) ?_
                refine mx_bipushN 8 dX10_simulate_97 (by decide) ?_
                refine mx_iremN dX10_simulate_99 (by omega) (by decide) ?_
                refine mx_ifN_ne 107 dX10_simulate_100 (by decide) (by omega) (fun c100 => ?_) (fun c100 => ?_)
                · skip
                  refine mx_iconstN 1 dX10_simulate_107 (by decide) ?_
                  refine mx_iload (i := 10) (hl := rfl) (hd := dX10_simulate_108) ?_
                  refine mx_bipushN 9 dX10_simulate_110 (by decide) ?_
                  refine mx_iremN dX10_simulate_112 (by omega) (by decide) ?_
                  refine mx_iaddN dX10_simulate_113 ?_
                  refine mx_iast s dX10_simulate_114 (by assumption) ⟨rfl, by omega, by omega⟩ ?_
                  refine mx_iincE (i := 9) (ls' := [some (.ref m), some (.long seed), none, some (.int (nI dn)), some (.int (nI ((smM (zG z) (vA (zX z)) seed d).2.1))), some (.int (nI ((smM (zG z) (vA (zX z)) seed d).2.2))), some (.long (lcN (smM (zG z) (vA (zX z)) seed d).1 (s + 1))), none, some (.int (nI d)), some (.int (nI (s + 1))), some (.int (nI r))]) 1 dX10_simulate_115 rfl (by decide) (by decide) rfl rfl ?_
                  refine mx_goto (tgt := 55) dX10_simulate_118 (by decide) ?_
                  refine mx_leS (ls' := [some (.ref m), some (.long seed), none, some (.int (nI dn)), some (.int (nI ((smM (zG z) (vA (zX z)) seed d).2.1))), some (.int (nI ((smM (zG z) (vA (zX z)) seed d).2.2))), some (.long (lcN (smM (zG z) (vA (zX z)) seed d).1 (s + 1))), none, some (.int (nI d)), some (.int (nI (s + 1))), none]) ⟨rfl, rfl, rfl, rfl, rfl, rfl, rfl, rfl, trivial⟩ ?_
                  exact ih2 (s + 1) _ (by omega) hd8 (by omega) (fun k hk => by rw [mx_u_at]; split; (next e => rw [e.2]; show _ = nI (lcV (lcr (lcN (smM (zG z) (vA (zX z)) seed d).1 (s + 1)))); rw [hr]; unfold lcV; rw [if_neg c100]); (next e => exact hpr k (by omega))) (fun b k hb => by rw [mx_u_at, if_neg (by omega)]; exact hfr4 b k hb)
                · skip
                  refine mx_iconstN 0 dX10_simulate_103 (by decide) ?_
                  refine mx_goto (tgt := 114) dX10_simulate_104 (by decide) ?_
                  refine mx_iast s dX10_simulate_114 (by assumption) ⟨rfl, by omega, by omega⟩ ?_
                  refine mx_iincE (i := 9) (ls' := [some (.ref m), some (.long seed), none, some (.int (nI dn)), some (.int (nI ((smM (zG z) (vA (zX z)) seed d).2.1))), some (.int (nI ((smM (zG z) (vA (zX z)) seed d).2.2))), some (.long (lcN (smM (zG z) (vA (zX z)) seed d).1 (s + 1))), none, some (.int (nI d)), some (.int (nI (s + 1))), some (.int (nI r))]) 1 dX10_simulate_115 rfl (by decide) (by decide) rfl rfl ?_
                  refine mx_goto (tgt := 55) dX10_simulate_118 (by decide) ?_
                  refine mx_leS (ls' := [some (.ref m), some (.long seed), none, some (.int (nI dn)), some (.int (nI ((smM (zG z) (vA (zX z)) seed d).2.1))), some (.int (nI ((smM (zG z) (vA (zX z)) seed d).2.2))), some (.long (lcN (smM (zG z) (vA (zX z)) seed d).1 (s + 1))), none, some (.int (nI d)), some (.int (nI (s + 1))), none]) ⟨rfl, rfl, rfl, rfl, rfl, rfl, rfl, rfl, trivial⟩ ?_
                  exact ih2 (s + 1) _ (by omega) hd8 (by omega) (fun k hk => by rw [mx_u_at]; split; (next e => rw [e.2]; show _ = nI (lcV (lcr (lcN (smM (zG z) (vA (zX z)) seed d).1 (s + 1)))); rw [hr]; unfold lcV; rw [if_pos (by first | exact c100 | omega)]); (next e => exact hpr k (by omega))) (fun b k hb => by rw [mx_u_at, if_neg (by omega)]; exact hfr4 b k hb)
          refine mx_iload (i := 8) (hl := rfl) (hd := dX10_simulate_46) ?_
          refine mx_iload_n (i := 3) (hi := rfl) (hl := rfl) (hd := dX10_simulate_48) ?_
          refine mx_cmpN_ge 166 dX10_simulate_49 (by decide) (by omega) (by omega) (fun c49 => ?_) (fun c49 => ?_)
          · skip
            refine mx_ldcw (v := (100000)) k_1363 dX10_simulate_166 ?_
            refine mx_top (y := nI 100000) (by decide) ?_
            refine mx_iload (i := 4) (hl := rfl) (hd := dX10_simulate_169) ?_
            refine mx_imulN dX10_simulate_171 ?_
            refine mx_iload (i := 5) (hl := rfl) (hd := dX10_simulate_172) ?_
            refine mx_iaddN dX10_simulate_174 ?_
            exact mx_iret dX10_simulate_175 rfl rfl (⟨⟨(hS3.2 0 (by omega)).trans hr0, mt_fr hrf hS3.fr, fun _ => ⟨congrArg (fun x => some (Value.int (nI x))) (show _ = am_simulate z seed dn by unfold am_simulate; rw [show d = dn by omega]), hW1.S hS3⟩, fun z9 => absurd hm0 z9⟩, rfl⟩)
          · skip
            refine mx_iconstN 0 dX10_simulate_52 (by decide) ?_
            refine mx_istoreE (i := 9) (ls' := [some (.ref m), some (.long seed), none, some (.int (nI dn)), some (.int (nI ((smM (zG z) (vA (zX z)) seed d).2.1))), some (.int (nI ((smM (zG z) (vA (zX z)) seed d).2.2))), some (.long ((smM (zG z) (vA (zX z)) seed d).1)), none, some (.int (nI d)), some (.int (nI 0)), none]) (hd := dX10_simulate_53) (hn := by decide) (hok := rfl) (hls := rfl) ?_
            exact L55 _ 0 _ (Nat.lt_succ_self _) (by omega) (Nat.zero_le _) (fun k hk => absurd hk (Nat.not_lt_zero k)) (fun b k _ => rfl)
      refine mx_iconstN 0 dX10_simulate_34 (by decide) ?_
      refine mx_istoreE (i := 4) (ls' := [some (.ref m), some (.long seed), none, some (.int (nI dn)), some (.int (nI 0)), none, none, none, none, none, none]) (hd := dX10_simulate_35) (hn := by decide) (hok := rfl) (hls := rfl) ?_
      refine mx_iconstN 0 dX10_simulate_37 (by decide) ?_
      refine mx_istoreE (i := 5) (ls' := [some (.ref m), some (.long seed), none, some (.int (nI dn)), some (.int (nI 0)), some (.int (nI 0)), none, none, none, none, none]) (hd := dX10_simulate_38) (hn := by decide) (hok := rfl) (hls := rfl) ?_
      refine mx_lload_n (i := 1) (hi := rfl) (hl := rfl) (hd := dX10_simulate_40) ?_
      refine mx_lstoreE (i := 6) (ls' := [some (.ref m), some (.long seed), none, some (.int (nI dn)), some (.int (nI 0)), some (.int (nI 0)), some (.long seed), none, none, none, none]) (hd := dX10_simulate_41) (hn := by decide) (hok := rfl) (hls := rfl) ?_
      refine mx_iconstN 0 dX10_simulate_43 (by decide) ?_
      refine mx_istoreE (i := 8) (ls' := [some (.ref m), some (.long seed), none, some (.int (nI dn)), some (.int (nI 0)), some (.int (nI 0)), some (.long seed), none, some (.int (nI 0)), none, none]) (hd := dX10_simulate_44) (hn := by decide) (hok := rfl) (hls := rfl) ?_
      exact L46 _ 0 _ (Nat.lt_succ_self _) (Nat.zero_le _) q1 q2.S
    · skip
      refine mx_iconstN 0 dX10_simulate_24 (by decide) ?_
      exact mx_iret dX10_simulate_25 rfl rfl (⟨⟨hr0, hrf, fun z9 => absurd z9 (by omega), fun _ => ⟨⟨_, rfl⟩, hW1⟩⟩, rfl⟩)
  refine mx_aload_n (i := 0) (hi := rfl) (hl := rfl) (hd := dX10_simulate_0) ?_
  refine mx_iload_n (i := 3) (hi := rfl) (hl := rfl) (hd := dX10_simulate_1) ?_
  refine mx_i2l (hv := rfl) (hd := dX10_simulate_2) ?_
  refine mx_lconst (v := 1) (by decide) dX10_simulate_3 ?_
  refine mx_ldc2 (v := (20)) k_1386 dX10_simulate_4 ?_
  refine mx_callSp (As := [.long dm.toInt64, .long (1 : Int64), .long (20)]) (rest := [.ref m]) dX10_simulate_7 (mt_in G I (dm.toInt64) (1 : Int64) (20 : Int64)) km_X10_in rfl k_1119 k_1120 rfl rfl (Nat.le_of_ble_eq_true rfl) (by decide) ?_
  refine mx_top (y := mx_b (decide (1 ≤ dm.toInt ∧ dm.toInt ≤ 20))) (congrArg mx_b (decide_eq_decide.mpr ((in_l (x := 1) (y := 20) rfl rfl).trans (by omega)))) ?_
  refine mx_ifB_eq 17 dX10_simulate_10 (by decide) (fun c10 => ?_) (fun c10 => ?_)
  · skip
    refine mx_iconstN 1 dX10_simulate_17 (by decide) ?_
    refine mx_top (y := nI (fl_simulate dm - 1)) (congrArg nI (by unfold fl_simulate; (repeat' split) <;> first | omega | simp_all)) ?_
    exact J18 ()
  · skip
    refine mx_iconstN 0 dX10_simulate_13 (by decide) ?_
    refine mx_goto (tgt := 18) dX10_simulate_14 (by decide) ?_
    refine mx_top (y := nI (fl_simulate dm - 1)) (congrArg nI (by unfold fl_simulate; (repeat' split) <;> first | omega | simp_all)) ?_
    exact J18 ()
