/-! PatternReader.read -/
theorem nI_ch : ∀ c, c < 256 → narrow .char (.int (nI c)) = .int (nI c) := by decide +kernel
theorem nI_ic : ∀ c, c < 256 → ((nI c).toUInt32 % 65536).toInt32 = nI c := by decide +kernel
def pGrow (A : Pa) : Pa := (pL A, pA A, pB A, pE A, pAc A, pSz A + 1, pCh A)
def pEnd (A : Pa) (x : Nat) : Pa := (pL A, pA A, pB A, pE A, x, pSz A, pCh A)
/-- the empty pattern, as it is made -/
def pa0 (ch : Nat → Nat) : Pa := (0, fun _ => 0, fun _ => 0, fun _ => 0, 1, 0, ch)
theorem pa0_wf (ch : Nat → Nat) : wfP (pa0 ch) := ⟨Nat.zero_le _, fun _ _ => Nat.two_pow_pos 21, fun _ _ => Nat.two_pow_pos 21, fun _ _ => Nat.two_pow_pos 21, (by decide : 1 < 2 ^ 21), Nat.zero_le _, fun i hi => absurd hi (Nat.not_lt_zero i)⟩
def rdG (x : Rs) : Rs := (x.1, x.2.1, x.2.2.1, pGrow x.2.2.2)
def rdK (ch : Nat → Nat) (n : Nat) : Nat → Rs
  | 0 => (0, fun _ => (0, 0, false), fun _ => (0, 0, true), pa0 ch)
  | i + 1 => rdS (ch i) (if i + 1 < n then ch (i + 1) else 124) (rdG (rdK ch n i))
theorem rdS_sz (c nx : Nat) (x : Rs) : pSz (rdS c nx x).2.2.2 = pSz x.2.2.2 ∧ pCh (rdS c nx x).2.2.2 = pCh x.2.2.2 := by
  have hA : ∀ (A : Pa) (p b : Pc), pSz (rdA A p b nx) = pSz A ∧ pCh (rdA A p b nx) = pCh A := fun A p b => by
    unfold rdA
    by_cases q : nx = 42 ∨ nx = 43
    · rw [if_pos q]; exact ⟨rfl, rfl⟩
    · rw [if_neg q]; exact ⟨rfl, rfl⟩
  unfold rdS
  split
  · exact ⟨(hA _ _ _).1, (hA _ _ _).2⟩
  · split
    · exact ⟨rfl, rfl⟩
    · split
      · exact ⟨(hA _ _ _).1, (hA _ _ _).2⟩
      · split
        · exact ⟨rfl, rfl⟩
        · exact ⟨rfl, rfl⟩
theorem rdK_sz (ch : Nat → Nat) (n : Nat) : ∀ i, pSz (rdK ch n i).2.2.2 = i ∧ pCh (rdK ch n i).2.2.2 = ch
  | 0 => ⟨rfl, rfl⟩
  | i + 1 => ⟨(rdS_sz _ _ _).1.trans (congrArg (· + 1) (rdK_sz ch n i).1), (rdS_sz _ _ _).2.trans (rdK_sz ch n i).2⟩
def rdX (ch : Nat → Nat) (n : Nat) : Rs := rdK ch n (min n 40)
def rdW (ch : Nat → Nat) (n : Nat) : Pc := rdO ((rdX ch n).2.1 (rdX ch n).1) ((rdX ch n).2.2.1 (rdX ch n).1)
/-- the pattern that is read of a text -/
def rdF (ch : Nat → Nat) (n : Nat) : Pa := pEnd (pAllow (rdX ch n).2.2.2 1 (rdW ch n).1) ((rdW ch n).2.1 ||| (if (rdW ch n).2.2 = true then 1 else 0))
theorem ptN.new {I : mx_I} {N : Nat} (h : ∀ b, N ≤ b → ∀ k, I b k = 0) (ch : Nat → Nat) : ptN (mx_u I N 6 (nI 1)) N (pa0 ch) := by
  have h0 : ∀ b k, N ≤ b → ¬ (b = N ∧ k = 6) → mx_u I N 6 (nI 1) b k = nI 0 := fun b k hb hn => by rw [mx_u_at, if_neg hn]; exact h b hb k
  refine ⟨pa0_wf ch, h0 N 1 (Nat.le_refl N) (by omega), h0 N 2 (Nat.le_refl N) (by omega), by rw [mx_u_at, if_pos ⟨rfl, rfl⟩]; rfl, fun s hs => absurd hs (Nat.not_lt_zero s), fun s _ => h0 _ _ (by omega) (by omega), fun s _ => h0 _ _ (by omega) (by omega), fun s _ => h0 _ _ (by omega) (by omega)⟩
theorem ptN.grow {I : mx_I} {N : Nat} {A : Pa} (h : ptN I N A) (hs : pSz A < 40) (hc : pCh A (pSz A) < 256) : ptN (mx_u (mx_u I (N + 1) (pSz A) (nI (pCh A (pSz A)))) N 1 (nI (pSz A + 1))) N (pGrow A) := by
  obtain ⟨⟨w1, w2, w3, w4, w5, w6, w7⟩, h1, h2, h3, h4, h5, h6, h7⟩ := h
  have e : ∀ b k, ¬ (b = N ∧ k = 1) → ¬ (b = N + 1 ∧ k = pSz A) → mx_u (mx_u I (N + 1) (pSz A) (nI (pCh A (pSz A)))) N 1 (nI (pSz A + 1)) b k = I b k := fun b k q1 q2 => by rw [mx_u_at, if_neg q1, mx_u_at, if_neg q2]
  refine ⟨⟨w1, w2, w3, w4, w5, by show pSz A + 1 ≤ 40; omega, fun i hi => ?_⟩, by rw [mx_u_at, if_pos ⟨rfl, rfl⟩]; rfl, (e _ _ (by omega) (by omega)).trans h2, (e _ _ (by omega) (by omega)).trans h3, fun s hs => ?_, fun s hs => (e _ _ (by omega) (by omega)).trans (h5 s hs), fun s hs => (e _ _ (by omega) (by omega)).trans (h6 s hs), fun s hs => (e _ _ (by omega) (by omega)).trans (h7 s hs)⟩
  · have hi : i < pSz A + 1 := hi
    by_cases q : i = pSz A
    · subst q; exact hc
    · exact w7 i (by omega)
  · have hs : s < pSz A + 1 := hs
    by_cases q : s = pSz A
    · subst q
      rw [mx_u_at, if_neg (by omega), mx_u_at, if_pos ⟨rfl, rfl⟩]
      rfl
    · exact (e _ _ (by omega) (by omega)).trans (h4 s (by omega))
theorem ptN.end {I : mx_I} {N x : Nat} {A : Pa} (h : ptN I N A) (hx : x < 2 ^ 21) : ptN (mx_u I N 6 (nI x)) N (pEnd A x) := by
  obtain ⟨⟨w1, w2, w3, w4, w5, w6, w7⟩, h1, h2, h3, h4, h5, h6, h7⟩ := h
  have e : ∀ b k, ¬ (b = N ∧ k = 6) → mx_u I N 6 (nI x) b k = I b k := fun b k q1 => by rw [mx_u_at, if_neg q1]
  exact ⟨⟨w1, w2, w3, w4, hx, w6, w7⟩, (e _ _ (by omega)).trans h1, (e _ _ (by omega)).trans h2, by rw [mx_u_at, if_pos ⟨rfl, rfl⟩]; rfl, fun s hs => (e _ _ (by omega)).trans (h4 s hs), fun s hs => (e _ _ (by omega)).trans (h5 s hs), fun s hs => (e _ _ (by omega)).trans (h6 s hs), fun s hs => (e _ _ (by omega)).trans (h7 s hs)⟩

set_option maxHeartbeats 4000000 in
set_option maxRecDepth 100000 in
theorem ct_read (G : mx_G) (I : mx_I) (o q n N : Nat) (ch : Nat → Nat) (hs : oRD G o) (htx : oTX G q) (hv : txN I q n ch) (hz : mx_sz G = N) (hoN : o + 29 ≤ N) (hqN : q + 2 ≤ N) (hqs : q + 2 ≤ o ∨ o + 29 ≤ q) : mx_CT yX3_read mX3_read 6 5 97 [.ref o, .ref q] G I (fun rv Gz Iz => rv = some (.ref N) ∧ mx_sz Gz = N + 5 ∧ mx_sm G Gz ∧ mx_cr G Gz 0 o ∧ mx_cr G Gz (o + 1) N ∧ oRD Gz o ∧ mx_rf Gz o 3 = N ∧ oPT Gz N ∧ ptN Iz N (rdF ch n) ∧ ∀ b, (b < o ∨ (o + 4 ≤ b ∧ b < o + 9) ∨ o + 29 ≤ b) → (b < N ∨ N + 5 ≤ b) → Iz b = I b) (fun _ _ _ => False) := by
  refine mx_start (k := 1) (by decide) rfl rfl (fun h => nomatch h) (Nat.le_of_ble_eq_true rfl) ?_
  show mx_V mX3_read mx_S0 6 5 97 0 [some (.ref o), some (.ref q), none] [] G I (fun rv Gz Iz => rv = some (.ref N) ∧ mx_sz Gz = N + 5 ∧ mx_sm G Gz ∧ mx_cr G Gz 0 o ∧ mx_cr G Gz (o + 1) N ∧ oRD Gz o ∧ mx_rf Gz o 3 = N ∧ oPT Gz N ∧ ptN Iz N (rdF ch n) ∧ ∀ b, (b < o ∨ (o + 4 ≤ b ∧ b < o + 9) ∨ o + 29 ≤ b) → (b < N ∨ N + 5 ≤ b) → Iz b = I b) (fun _ _ _ => False)
  refine mx_cl0 (fun hcl0 => ?_)
  have hcl : ∀ b, N ≤ b → ∀ k, I b k = 0 := fun b hb => (hcl0 b (by omega)).2.2
  obtain ⟨hn, hqa, hqb, hqc⟩ := hv
  refine mx_aload_n (i := 0) (hi := rfl) (hl := rfl) (hd := dX3_read_0) ?_
  refine mx_newE (bc := 4) (bs := 90) (ci := 2) (a := N) (by first | rfl | omega) (by first | rfl | (show _ = _ + 7; omega)) dX3_read_1 k_139 nw_X2 (by decide) (hz) ?_
  refine mx_dup (hva := rfl) (hd := dX3_read_4) ?_
  refine mx_callIN (bc := 0) (bs := 0) (As := []) (rest := [.ref N, .ref o]) (b1 := 4) (b2 := 90) dX3_read_5 (ct_newPattern (mx_nw G 12 0) I N (by rw [mx_tg_nw, if_pos hz.symm]) (by rw [mx_sz_nw, hz])) km_X2_init rfl rfl rfl k_140 k_77 rfl rfl (Nat.le_of_ble_eq_true rfl) (by decide) (fun _ _ _ q => q.elim) (fun r1 K1 Ik h2 => ?_)
  obtain ⟨e1, e2, zz, c2, okp⟩ := h2
  subst e1; subst e2
  have ckm : mx_cr G K1 0 N := ((mx_cr.rf G 0 N).nw _ _ (Nat.le_of_eq hz.symm)).tr c2
  have smk : mx_sm G K1 := fun b hb => by
    have hbN : b < N := by
      rcases Nat.lt_or_ge b N with z | z
      · exact z
      · exact absurd (hcl0 b (by omega)).1 hb
    obtain ⟨z1, z2, z3⟩ := ckm b (Nat.zero_le _) hbN
    exact ⟨z1, z2, fun k _ _ => z3 k⟩
  have hg0 : mx_tg K1 o = 13 := ckm.tg hs.1 (Nat.zero_le _) (by omega)
  refine mx_putR (ci := 3) (k := 3) dX3_read_8 k_144 (by decide) rfl rfl (by first | assumption | (rw [mx_tg_nw, if_neg (by omega)]; assumption)) (by rw [okp.1]; decide) ?_
  have hcu : mx_cr K1 (mx_uR K1 o 3 N) 0 o := (mx_cr.rf K1 0 o).uR _ _ _ (by omega)
  have hcv : mx_cr K1 (mx_uR K1 o 3 N) (o + 1) (N + 5) := (mx_cr.rf K1 (o + 1) (N + 5)).uR _ _ _ (by omega)
  have hr3 : mx_rf (mx_uR K1 o 3 N) o 3 = N := by rw [mx_rf_uR, if_pos ⟨rfl, rfl⟩]
  have okp : oPT (mx_uR K1 o 3 N) N := okp.cr hcv (by omega) (by omega)
  have ors : oRD (mx_uR K1 o 3 N) o := (hs.cr ckm (Nat.zero_le _) hoN).sm ((mx_sm.rf K1).u3 hg0)
  have otx : oTX (mx_uR K1 o 3 N) q := hqs.elim (fun z => (htx.cr ckm (by omega) (by omega)).cr hcu (by omega) (by omega)) (fun z => (htx.cr ckm (by omega) (by omega)).cr hcv (by omega) (by omega))
  have hg0 := ors.1
  have hp0 := okp.1
  have ht0 := otx.1
  obtain ⟨ht1, ht2, ht3⟩ := otx.2
  obtain ⟨⟨hp1, hp2, hp3⟩, -⟩ := okp.2
  refine mx_aload_n (i := 0) (hi := rfl) (hl := rfl) (hd := dX3_read_11) ?_
  refine mx_iconstN 0 dX3_read_12 (by decide) ?_
  refine mx_putI (ci := 3) (k := 4) dX3_read_13 k_145 (by decide) rfl rfl rfl rfl (by first | assumption | (rw [mx_tg_nw, if_neg (by omega)]; assumption)) ?_
  refine mx_aload_n (i := 0) (hi := rfl) (hl := rfl) (hd := dX3_read_16) ?_
  refine mx_callVi (ci := 3) (As := []) (rest := []) dX3_read_17 (ct_rdBegin (mx_uR K1 o 3 N) _ o 0 ors (Nat.zero_le _) (by rw [mx_u_at, if_pos ⟨rfl, rfl⟩])) km_X3_begin rfl k_819 k_821 k_20 (by assumption) rfl rfl (Nat.le_of_ble_eq_true rfl) (by decide) (fun r3 I2 h4 => ?_)
  obtain ⟨e9, b1, b2, b3⟩ := h4
  subst e9
  have hk0 : rdN I2 o N (rdK ch n 0) := by
    refine ⟨Nat.zero_le 9, ?_, fun i hi => ?_, ?_⟩
    · rw [b3 o (by omega), mx_u_at, if_pos ⟨rfl, rfl⟩]; rfl
    · have hi : i ≤ 0 := hi
      obtain rfl : i = 0 := by omega
      exact ⟨⟨b1, wfC_0 false⟩, b2, wfC_0 true⟩
    · refine ((ptN.new (N := N) (fun b hb k => hcl b (by omega) k) ch).fr (lo := o) (hi := o + 1) ((mx_fr.rf _ _ _).u (by omega)) (by omega)).fr b3 (by omega)
  have hf0 : ∀ b, (b < o ∨ (o + 4 ≤ b ∧ b < o + 9) ∨ o + 29 ≤ b) → (b < N ∨ N + 5 ≤ b) → I2 b = I b := fun b q1 q2 => by
    rw [b3 b (by omega)]
    funext k
    rw [mx_u_at, if_neg (by omega), mx_u_at, if_neg (by omega)]
  have J103 : ∀ (I1 : mx_I), (rdN I1 o N (rdX ch n)) → ((∀ b, (b < o ∨ (o + 4 ≤ b ∧ b < o + 9) ∨ o + 29 ≤ b) → (b < N ∨ N + 5 ≤ b) → I1 b = I b)) → mx_V mX3_read mx_S0 6 0 0 103 [some (.ref o), some (.ref q), none] [] (mx_uR K1 o 3 N) I1 (fun rv Gz Iz => rv = some (.ref N) ∧ mx_sz Gz = N + 5 ∧ mx_sm G Gz ∧ mx_cr G Gz 0 o ∧ mx_cr G Gz (o + 1) N ∧ oRD Gz o ∧ mx_rf Gz o 3 = N ∧ oPT Gz N ∧ ptN Iz N (rdF ch n) ∧ ∀ b, (b < o ∨ (o + 4 ≤ b ∧ b < o + 9) ∨ o + 29 ≤ b) → (b < N ∨ N + 5 ≤ b) → Iz b = I b) (fun _ _ _ => False) := by
    intro I1 hx hf
    refine mx_aload_n (i := 0) (hi := rfl) (hl := rfl) (hd := dX3_read_103) ?_
    refine mx_callVi (ci := 3) (As := []) (rest := []) dX3_read_104 (ct_rdClosed (mx_uR K1 o 3 N) I1 o (rdX ch n).1 ors hx.1 hx.2.1 ((rdX ch n).2.1 (rdX ch n).1) ((rdX ch n).2.2.1 (rdX ch n).1) (hx.2.2.1 _ (Nat.le_refl _)).1.1 (hx.2.2.1 _ (Nat.le_refl _)).2.1) km_X3_closed rfl k_844 k_846 k_23 (by assumption) rfl rfl (Nat.le_of_ble_eq_true rfl) (by decide) (fun r5 I5 h6 => ?_)
    obtain ⟨e9, b1, b2⟩ := h6
    subst e9
    have hwc : wfC (rdW ch n) := (hx.2.2.1 _ (Nat.le_refl _)).1.2.O (hx.2.2.1 _ (Nat.le_refl _)).2.2
    have hb9 := hx.1
    have htw := (ors.2.2.2.2 (rdX ch n).1 (by omega)).1.2
    refine mx_astoreE_n (i := 2) (ls' := [some (.ref o), some (.ref q), some (.ref (o + 9 + 2 * (rdX ch n).1))]) (hi := rfl) (hd := dX3_read_107) (hn := by decide) (hok := rfl) (hls := rfl) ?_
    refine mx_aload_n (i := 0) (hi := rfl) (hl := rfl) (hd := dX3_read_108) ?_
    refine mx_getR (ci := 3) (k := 3) (r := N) dX3_read_109 k_144 (by decide) rfl (by first | assumption | (rw [mx_tg_nw, if_neg (by omega)]; assumption)) (hr3) (by omega) ?_
    refine mx_iconstN 1 dX3_read_112 (by decide) ?_
    refine mx_aload_n (i := 2) (hi := rfl) (hl := rfl) (hd := dX3_read_113) ?_
    refine mx_getV (ci := 4) (k := 0) (nI ((rdW ch n).1)) dX3_read_114 k_127 (by decide) rfl (by first | assumption | (rw [mx_tg_nw, if_neg (by omega)]; assumption)) b1.1 ?_
    refine mx_callVi (ci := 2) (As := [.int (nI 1), .int (nI ((rdW ch n).1))]) (rest := []) dX3_read_117 (ct_allow (mx_uR K1 o 3 N) I5 N (rdX ch n).2.2.2 okp (hx.2.2.2.fr b2 (by omega)) 1 (rdW ch n).1 (by decide) hwc.1) km_X2_allow rfl k_840 k_841 k_842 (by assumption) rfl rfl (Nat.le_of_ble_eq_true rfl) (by decide) (fun r7 I6 h8 => ?_)
    obtain ⟨e9, b3, b4⟩ := h8
    subst e9
    have b5 : pcP I6 (o + 9 + 2 * (rdX ch n).1) (rdW ch n) := pcP.k b1 (b4 _ (by omega))
    refine mx_aload_n (i := 0) (hi := rfl) (hl := rfl) (hd := dX3_read_120) ?_
    refine mx_getR (ci := 3) (k := 3) (r := N) dX3_read_121 k_144 (by decide) rfl (by first | assumption | (rw [mx_tg_nw, if_neg (by omega)]; assumption)) (hr3) (by omega) ?_
    refine mx_aload_n (i := 2) (hi := rfl) (hl := rfl) (hd := dX3_read_124) ?_
    refine mx_getV (ci := 4) (k := 1) (nI ((rdW ch n).2.1)) dX3_read_125 k_129 (by decide) rfl (by first | assumption | (rw [mx_tg_nw, if_neg (by omega)]; assumption)) b5.2.1 ?_
    refine mx_aload_n (i := 2) (hi := rfl) (hl := rfl) (hd := dX3_read_128) ?_
    refine mx_getV (ci := 4) (k := 2) (mx_b (decide ((rdW ch n).2.2 = true)) : Int32) dX3_read_129 k_131 (by decide) rfl (by first | assumption | (rw [mx_tg_nw, if_neg (by omega)]; assumption)) (by rw [mx_dec]; exact b5.2.2) ?_
    refine mx_ifB_eq 139 dX3_read_132 (by decide) (fun c132 => ?_) (fun c132 => ?_)
    · skip
      refine mx_iconstN 0 dX3_read_139 (by decide) ?_
      refine mx_top (y := nI (if (rdW ch n).2.2 = true then 1 else 0)) (by rw [if_neg c132]) ?_
      refine mx_iorN dX3_read_140 ?_
      refine mx_putI (ci := 2) (k := 6) dX3_read_141 k_96 (by decide) rfl rfl rfl rfl (by first | assumption | (rw [mx_tg_nw, if_neg (by omega)]; assumption)) ?_
      refine mx_aload_n (i := 0) (hi := rfl) (hl := rfl) (hd := dX3_read_144) ?_
      refine mx_getR (ci := 3) (k := 3) (r := N) dX3_read_145 k_144 (by decide) rfl (by first | assumption | (rw [mx_tg_nw, if_neg (by omega)]; assumption)) (hr3) (by omega) ?_
      exact mx_aret dX3_read_148 rfl (⟨rfl, zz, smk.u3 hs.1, (ckm.wk (Nat.le_refl 0) (by omega)).tr hcu, (ckm.wk (by omega) (Nat.le_refl N)).tr (hcv.wk (Nat.le_refl _) (by omega)), ors, hr3, okp, ptN.end b3 (mx_or_lt hwc.2 (by split <;> decide)), fun b q1 q2 => by funext k; rw [mx_u_at, if_neg (by omega), b4 b (by omega), b2 b (by omega), hf b q1 q2]⟩)
    · skip
      refine mx_iconstN 1 dX3_read_135 (by decide) ?_
      refine mx_top (y := nI (if (rdW ch n).2.2 = true then 1 else 0)) (by rw [if_pos c132]) ?_
      refine mx_goto (tgt := 140) dX3_read_136 (by decide) ?_
      refine mx_iorN dX3_read_140 ?_
      refine mx_putI (ci := 2) (k := 6) dX3_read_141 k_96 (by decide) rfl rfl rfl rfl (by first | assumption | (rw [mx_tg_nw, if_neg (by omega)]; assumption)) ?_
      refine mx_aload_n (i := 0) (hi := rfl) (hl := rfl) (hd := dX3_read_144) ?_
      refine mx_getR (ci := 3) (k := 3) (r := N) dX3_read_145 k_144 (by decide) rfl (by first | assumption | (rw [mx_tg_nw, if_neg (by omega)]; assumption)) (hr3) (by omega) ?_
      exact mx_aret dX3_read_148 rfl (⟨rfl, zz, smk.u3 hs.1, (ckm.wk (Nat.le_refl 0) (by omega)).tr hcu, (ckm.wk (by omega) (Nat.le_refl N)).tr (hcv.wk (Nat.le_refl _) (by omega)), ors, hr3, okp, ptN.end b3 (mx_or_lt hwc.2 (by split <;> decide)), fun b q1 q2 => by funext k; rw [mx_u_at, if_neg (by omega), b4 b (by omega), b2 b (by omega), hf b q1 q2]⟩)
  have L22 : ∀ (fq : Nat) (i : Nat) (I1 : mx_I), n - i < fq → (i ≤ n) → (i ≤ 40) → (rdN I1 o N (rdK ch n i)) → ((∀ b, (b < o ∨ (o + 4 ≤ b ∧ b < o + 9) ∨ o + 29 ≤ b) → (b < N ∨ N + 5 ≤ b) → I1 b = I b)) → mx_V mX3_read mx_S0 6 0 0 22 [some (.ref o), some (.ref q), some (.int (nI i))] [] (mx_uR K1 o 3 N) I1 (fun rv Gz Iz => rv = some (.ref N) ∧ mx_sz Gz = N + 5 ∧ mx_sm G Gz ∧ mx_cr G Gz 0 o ∧ mx_cr G Gz (o + 1) N ∧ oRD Gz o ∧ mx_rf Gz o 3 = N ∧ oPT Gz N ∧ ptN Iz N (rdF ch n) ∧ ∀ b, (b < o ∨ (o + 4 ≤ b ∧ b < o + 9) ∨ o + 29 ≤ b) → (b < N ∨ N + 5 ≤ b) → Iz b = I b) (fun _ _ _ => False) := by
    intro fq
    induction fq with
    | zero => intro i I1 hfu; exact absurd hfu (Nat.not_lt_zero _)
    | succ fq ih =>
      intro i I1 hfu hin hi4 hx hf
      have hq1 : I1 q 1 = nI n := by rw [hf q (by omega) (by omega)]; exact hqa
      have hq2 : ∀ s, s < n → I1 (q + 1) s = nI (ch s) := fun s hs => by rw [hf (q + 1) (by omega) (by omega)]; exact hqb s hs
      have hpsz : I1 N 1 = nI i := by rw [hx.2.2.2.2.1, (rdK_sz ch n i).1]
      refine mx_iload_n (i := 2) (hi := rfl) (hl := rfl) (hd := dX3_read_22) ?_
      refine mx_aload_n (i := 1) (hi := rfl) (hl := rfl) (hd := dX3_read_23) ?_
      refine mx_getV (ci := 7) (k := 1) (nI n) dX3_read_24 k_67 (by decide) rfl (by first | assumption | (rw [mx_tg_nw, if_neg (by omega)]; assumption)) hq1 ?_
      refine mx_cmpN_ge 103 dX3_read_27 (by decide) (by omega) (by omega) (fun c27 => ?_) (fun c27 => ?_)
      · skip
        refine mx_leS (ls' := [some (.ref o), some (.ref q), none]) ⟨rfl, rfl, trivial⟩ ?_
        exact J103 I1 (by unfold rdX; rw [show min n 40 = i from by omega]; exact hx) hf
      · skip
        refine mx_iload_n (i := 2) (hi := rfl) (hl := rfl) (hd := dX3_read_30) ?_
        refine mx_bipushN 40 dX3_read_31 (by decide) ?_
        refine mx_cmpN_ge 103 dX3_read_33 (by decide) (by omega) (by omega) (fun c33 => ?_) (fun c33 => ?_)
        · skip
          refine mx_leS (ls' := [some (.ref o), some (.ref q), none]) ⟨rfl, rfl, trivial⟩ ?_
          exact J103 I1 (by unfold rdX; rw [show min n 40 = i from by omega]; exact hx) hf
        · skip
          refine mx_aload_n (i := 0) (hi := rfl) (hl := rfl) (hd := dX3_read_36) ?_
          refine mx_getR (ci := 3) (k := 3) (r := N) dX3_read_37 k_144 (by decide) rfl (by first | assumption | (rw [mx_tg_nw, if_neg (by omega)]; assumption)) (hr3) (by omega) ?_
          refine mx_getR (ci := 2) (k := 0) (r := (N + 1)) dX3_read_40 k_81 (by decide) rfl (by first | assumption | (rw [mx_tg_nw, if_neg (by omega)]; assumption)) (by assumption) (by omega) ?_
          refine mx_iload_n (i := 2) (hi := rfl) (hl := rfl) (hd := dX3_read_43) ?_
          refine mx_aload_n (i := 1) (hi := rfl) (hl := rfl) (hd := dX3_read_44) ?_
          refine mx_getR (ci := 7) (k := 0) (r := (q + 1)) dX3_read_45 k_64 (by decide) rfl (by first | assumption | (rw [mx_tg_nw, if_neg (by omega)]; assumption)) (by assumption) (by omega) ?_
          refine mx_iload_n (i := 2) (hi := rfl) (hl := rfl) (hd := dX3_read_48) ?_
          refine mx_caldV i (nI (ch i)) dX3_read_49 (by assumption) ⟨rfl, by omega, by omega⟩ (hq2 i (by omega)) ?_
          refine mx_cast i dX3_read_50 (by assumption) ⟨rfl, by omega, by omega⟩ (nI_ch _ (hqc i (by omega))) ?_
          refine mx_aload_n (i := 0) (hi := rfl) (hl := rfl) (hd := dX3_read_51) ?_
          refine mx_getR (ci := 3) (k := 3) (r := N) dX3_read_52 k_144 (by decide) rfl (by first | assumption | (rw [mx_tg_nw, if_neg (by omega)]; assumption)) (hr3) (by omega) ?_
          refine mx_dup (hva := rfl) (hd := dX3_read_55) ?_
          refine mx_getV (ci := 2) (k := 1) (nI i) dX3_read_56 k_83 (by decide) rfl (by first | assumption | (rw [mx_tg_nw, if_neg (by omega)]; assumption)) (by rw [mx_u_at, if_neg (by omega)]; exact hpsz) ?_
          refine mx_iconstN 1 dX3_read_59 (by decide) ?_
          refine mx_iaddN dX3_read_60 ?_
          refine mx_putI (ci := 2) (k := 1) dX3_read_61 k_83 (by decide) rfl rfl rfl rfl (by first | assumption | (rw [mx_tg_nw, if_neg (by omega)]; assumption)) ?_
          have hgr : rdN (mx_u (mx_u I1 (N + 1) i (nI (ch i))) N 1 (nI (i + 1))) o N (rdG (rdK ch n i)) := by
            obtain ⟨z1, z2, z3, z4⟩ := hx
            have zf : ∀ b, b < N → mx_u (mx_u I1 (N + 1) i (nI (ch i))) N 1 (nI (i + 1)) b = I1 b := fun b hb => by funext k; rw [mx_u_at, if_neg (by omega), mx_u_at, if_neg (by omega)]
            refine ⟨z1, by rw [zf o (by omega)]; exact z2, fun j hj => ?_, ?_⟩
            · have hj9 : j ≤ 9 := Nat.le_trans hj z1
              obtain ⟨⟨q1, q2⟩, q3, q4⟩ := z3 j hj
              exact ⟨⟨pcP.k q1 (zf _ (by omega)), q2⟩, pcP.k q3 (zf _ (by omega)), q4⟩
            · have hgw := ptN.grow z4 (by rw [(rdK_sz ch n i).1]; omega) (by rw [(rdK_sz ch n i).1, (rdK_sz ch n i).2]; exact hqc i (by omega))
              rw [(rdK_sz ch n i).1, (rdK_sz ch n i).2] at hgw
              exact hgw
          have hnx9 : (if i + 1 < n then ch (i + 1) else 124) < 65536 := by
            split
            · rename_i z; have := hqc (i + 1) z; omega
            · decide
          refine mx_aload_n (i := 0) (hi := rfl) (hl := rfl) (hd := dX3_read_64) ?_
          refine mx_aload_n (i := 1) (hi := rfl) (hl := rfl) (hd := dX3_read_65) ?_
          refine mx_getR (ci := 7) (k := 0) (r := (q + 1)) dX3_read_66 k_64 (by decide) rfl (by first | assumption | (rw [mx_tg_nw, if_neg (by omega)]; assumption)) (by assumption) (by omega) ?_
          refine mx_iload_n (i := 2) (hi := rfl) (hl := rfl) (hd := dX3_read_69) ?_
          refine mx_caldV i (nI (ch i)) dX3_read_70 (by assumption) ⟨rfl, by omega, by omega⟩ (by rw [mx_u_at, if_neg (by omega), mx_u_at, if_neg (by omega)]; exact (hq2 i (by omega))) ?_
          refine mx_iload_n (i := 2) (hi := rfl) (hl := rfl) (hd := dX3_read_71) ?_
          refine mx_iconstN 1 dX3_read_72 (by decide) ?_
          refine mx_iaddN dX3_read_73 ?_
          refine mx_aload_n (i := 1) (hi := rfl) (hl := rfl) (hd := dX3_read_74) ?_
          refine mx_getV (ci := 7) (k := 1) (nI n) dX3_read_75 k_67 (by decide) rfl (by first | assumption | (rw [mx_tg_nw, if_neg (by omega)]; assumption)) (by rw [mx_u_at, if_neg (by omega), mx_u_at, if_neg (by omega)]; exact hq1) ?_
          refine mx_cmpN_ge 92 dX3_read_78 (by decide) (by omega) (by omega) (fun c78 => ?_) (fun c78 => ?_)
          · skip
            refine mx_bipushN 124 dX3_read_92 (by decide) ?_
            refine mx_top (y := nI (if i + 1 < n then ch (i + 1) else 124)) (by rw [if_neg (by omega)]) ?_
            refine mx_callVi (ci := 3) (As := [.int (nI (ch i)), .int (nI (if i + 1 < n then ch (i + 1) else 124))]) (rest := []) dX3_read_94 (ct_readSign (mx_uR K1 o 3 N) _ o N (rdG (rdK ch n i)).1 (ch i) (if i + 1 < n then ch (i + 1) else 124) (rdG (rdK ch n i)).2.1 (rdG (rdK ch n i)).2.2.1 (rdG (rdK ch n i)).2.2.2 ors hr3 okp hoN hgr (by have := hqc i (by omega); omega) hnx9) km_X3_readSign rfl k_827 k_829 k_21 (by assumption) rfl rfl (Nat.le_of_ble_eq_true rfl) (by decide) (fun r9 I4 h10 => ?_)
            obtain ⟨e9, b1, b2⟩ := h10
            subst e9
            have hf1 : ∀ b, (b < o ∨ (o + 4 ≤ b ∧ b < o + 9) ∨ o + 29 ≤ b) → (b < N ∨ N + 5 ≤ b) → I4 b = I b := fun b q1 q2 => by
              rw [b2 b q1 q2]
              funext k
              rw [mx_u_at, if_neg (by omega), mx_u_at, if_neg (by omega), hf b q1 q2]
            refine mx_iincE (i := 2) (ls' := [some (.ref o), some (.ref q), some (.int (nI (i + 1)))]) 1 dX3_read_97 rfl (by decide) (by decide) rfl rfl ?_
            refine mx_goto (tgt := 22) dX3_read_100 (by decide) ?_
            exact ih (i + 1) I4 (by omega) (by omega) (by omega) b1 hf1
          · skip
            refine mx_aload_n (i := 1) (hi := rfl) (hl := rfl) (hd := dX3_read_81) ?_
            refine mx_getR (ci := 7) (k := 0) (r := (q + 1)) dX3_read_82 k_64 (by decide) rfl (by first | assumption | (rw [mx_tg_nw, if_neg (by omega)]; assumption)) (by assumption) (by omega) ?_
            refine mx_iload_n (i := 2) (hi := rfl) (hl := rfl) (hd := dX3_read_85) ?_
            refine mx_iconstN 1 dX3_read_86 (by decide) ?_
            refine mx_iaddN dX3_read_87 ?_
            refine mx_caldV (i + 1) (nI (ch (i + 1))) dX3_read_88 (by assumption) ⟨rfl, by omega, by omega⟩ (by rw [mx_u_at, if_neg (by omega), mx_u_at, if_neg (by omega)]; exact (hq2 (i + 1) (by omega))) ?_
            refine mx_top (y := nI (if i + 1 < n then ch (i + 1) else 124)) (by rw [if_pos (by omega)]) ?_
            refine mx_goto (tgt := 94) dX3_read_89 (by decide) ?_
            refine mx_callVi (ci := 3) (As := [.int (nI (ch i)), .int (nI (if i + 1 < n then ch (i + 1) else 124))]) (rest := []) dX3_read_94 (ct_readSign (mx_uR K1 o 3 N) _ o N (rdG (rdK ch n i)).1 (ch i) (if i + 1 < n then ch (i + 1) else 124) (rdG (rdK ch n i)).2.1 (rdG (rdK ch n i)).2.2.1 (rdG (rdK ch n i)).2.2.2 ors hr3 okp hoN hgr (by have := hqc i (by omega); omega) hnx9) km_X3_readSign rfl k_827 k_829 k_21 (by assumption) rfl rfl (Nat.le_of_ble_eq_true rfl) (by decide) (fun r11 I4 h12 => ?_)
            obtain ⟨e9, b1, b2⟩ := h12
            subst e9
            have hf1 : ∀ b, (b < o ∨ (o + 4 ≤ b ∧ b < o + 9) ∨ o + 29 ≤ b) → (b < N ∨ N + 5 ≤ b) → I4 b = I b := fun b q1 q2 => by
              rw [b2 b q1 q2]
              funext k
              rw [mx_u_at, if_neg (by omega), mx_u_at, if_neg (by omega), hf b q1 q2]
            refine mx_iincE (i := 2) (ls' := [some (.ref o), some (.ref q), some (.int (nI (i + 1)))]) 1 dX3_read_97 rfl (by decide) (by decide) rfl rfl ?_
            refine mx_goto (tgt := 22) dX3_read_100 (by decide) ?_
            exact ih (i + 1) I4 (by omega) (by omega) (by omega) b1 hf1
  refine mx_iconstN 0 dX3_read_20 (by decide) ?_
  refine mx_istoreE_n (i := 2) (ls' := [some (.ref o), some (.ref q), some (.int (nI 0))]) (hi := rfl) (hd := dX3_read_21) (hn := by decide) (hok := rfl) (hls := rfl) ?_
  exact L22 _ 0 I2 (Nat.lt_succ_self _) (Nat.zero_le _) (Nat.zero_le _) hk0 hf0

