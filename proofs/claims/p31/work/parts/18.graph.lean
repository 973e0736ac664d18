/-! Text.readGraph -/
def gtx (ch : Nat → Nat) (n : Nat) : Gr := (ch 1 - 48, n, fun s => ch (2 + 4 * s) - 48, fun s => ch (3 + 4 * s) - 97, fun s => ch (4 + 4 * s) - 48, fun s => ch (5 + 4 * s) - 48)
def rgN (I : mx_I) (g : Nat) (ch : Nat → Nat) (i : Nat) : Prop := (i ≤ 1 → I g 1 = nI 0) ∧ (2 ≤ i → stN I g (gtx ch ((i - 2) / 4)) ∧ (i - 2) / 4 ≤ 24 ∧ (1 ≤ (i - 2) % 4 → I (g + 1) ((i - 2) / 4) = nI (ch (2 + 4 * ((i - 2) / 4)) - 48) ∧ ch (2 + 4 * ((i - 2) / 4)) - 48 < 8) ∧ (2 ≤ (i - 2) % 4 → I (g + 2) ((i - 2) / 4) = nI (ch (3 + 4 * ((i - 2) / 4)) - 97) ∧ ch (3 + 4 * ((i - 2) / 4)) - 97 < 4) ∧ (3 ≤ (i - 2) % 4 → I (g + 3) ((i - 2) / 4) = nI (ch (4 + 4 * ((i - 2) / 4)) - 48) ∧ ch (4 + 4 * ((i - 2) / 4)) - 48 < 8))
/-- the character at i is allowed -/
abbrev rcOk (ch : Nat → Nat) (i : Nat) : Prop := (i = 0 ∧ ch 0 = 75) ∨ (i = 1 ∧ 49 ≤ ch 1 ∧ ch 1 ≤ 56) ∨ (2 ≤ i ∧ (i - 2) / 4 < 24 ∧ (((i - 2) % 4 = 0 ∧ 48 ≤ ch i ∧ ch i - 48 < ch 1 - 48) ∨ ((i - 2) % 4 = 1 ∧ 97 ≤ ch i ∧ ch i ≤ 100) ∨ ((i - 2) % 4 = 2 ∧ 48 ≤ ch i ∧ ch i - 48 < ch 1 - 48 ∧ ¬ ch i - 48 = ch (2 + 4 * ((i - 2) / 4)) - 48 ∧ gIx (gtx ch ((i - 2) / 4)) (ch (2 + 4 * ((i - 2) / 4)) - 48) (ch (3 + 4 * ((i - 2) / 4)) - 97) (ch i - 48) = none) ∨ ((i - 2) % 4 = 3 ∧ 49 ≤ ch i ∧ ch i ≤ 57)))
theorem nI_subI {a b : Nat} (ha : a < 2 ^ 30) (hb : b < 2 ^ 30) : (nI a - nI b).toInt = (a : Int) - (b : Int) := by
  rw [Int32.toInt_sub, nI_toInt (by omega), nI_toInt (by omega)]
  rw [Int.bmod_eq_of_le] <;> omega
theorem arN.oo {I : mx_I} {a n k : Nat} {x : Int32} {g : Nat → Nat} (h : arN I a g n) (hk : n ≤ k) : arN (mx_u I a k x) a g n := by
  intro s hs
  rw [mx_u_at, if_neg (by omega)]
  exact h s hs
/-- a write behind the steps, or to another array -/
theorem stN.oo {I : mx_I} {o k a : Nat} {x : Int32} {v : Gr} (h : stN I o v) (ha : a ≠ o) (hk : gN v ≤ k) : stN (mx_u I a k x) o v := by
  obtain ⟨h1, h3, h4, h5, h6, h7, h8⟩ := h
  have q : ∀ b g, arN I b g (gN v) → arN (mx_u I a k x) b g (gN v) := by
    intro b g hb s hs
    rw [mx_u_at, if_neg (by omega)]
    exact hb s hs
  exact ⟨h1, by rw [mx_u_at, if_neg (fun z => ha z.1.symm)]; exact h3, by rw [mx_u_at, if_neg (fun z => ha z.1.symm)]; exact h4, q _ _ h5, q _ _ h6, q _ _ h7, q _ _ h8⟩

set_option maxHeartbeats 4000000 in
set_option maxRecDepth 100000 in
theorem ct_readCharacter (G : mx_G) (I : mx_I) (o n : Nat) (ch : Nat → Nat) (hs : oTX G o) (hv : txN I o n ch) (g i : Nat) (hsg : oST G g) (hd : o + 2 ≤ g ∨ g + 5 ≤ o) (hi : i < n) (hrg : rgN I g ch i) : mx_CTi yX7_readCharacter mX7_readCharacter 2 [.ref o, .ref g, .int (nI i)] G I (fun rv I1 => rv = some (.int (mx_b (decide (rcOk ch i)))) ∧ (rcOk ch i → rgN I1 g ch (i + 1)) ∧ mx_fr I I1 g (g + 5)) := by
  refine mx_start (k := 2) (by decide) rfl rfl (fun h => nomatch h) (Nat.le_of_ble_eq_true rfl) ?_
  show mx_V mX7_readCharacter mx_S0 2 0 0 0 [some (.ref o), some (.ref g), some (.int (nI i)), none, none] [] G I (fun rv Gz Iz => (fun rv I1 => rv = some (.int (mx_b (decide (rcOk ch i)))) ∧ (rcOk ch i → rgN I1 g ch (i + 1)) ∧ mx_fr I I1 g (g + 5)) rv Iz ∧ Gz = G) (fun _ _ _ => False)
  obtain ⟨hg0, hg1, hg2, hg3⟩ := hs
  obtain ⟨hn, hv1, hch, hc8⟩ := hv
  have hsg0 := hsg
  obtain ⟨hq0, ⟨hq2, hq3, hq4⟩, ⟨hq5, hq6, hq7⟩, ⟨hq8, hq9, hq10⟩, ⟨hq11, hq12, hq13⟩⟩ := hsg
  have hsg := hsg0
  have hci := hc8 i hi
  have hti := nI_subI (a := ch i) (b := 48) (by omega) (by decide)
  have htk := nI_subI (a := ch i) (b := 97) (by omega) (by decide)
  refine mx_aload_n (i := 0) (hi := rfl) (hl := rfl) (hd := dX7_readCharacter_0) ?_
  refine mx_getR (ci := 7) (k := 0) (r := (o + 1)) dX7_readCharacter_1 k_62 (by decide) rfl (by assumption) (by assumption) (by omega) ?_
  refine mx_iload_n (i := 2) (hi := rfl) (hl := rfl) (hd := dX7_readCharacter_4) ?_
  refine mx_caldV i (nI (ch i)) dX7_readCharacter_5 (by assumption) ⟨rfl, by omega, by omega⟩ (hch i (by omega)) ?_
  refine mx_istoreE_n (i := 3) (ls' := [some (.ref o), some (.ref g), some (.int (nI i)), some (.int (nI (ch i))), none]) (hi := rfl) (hd := dX7_readCharacter_6) (hn := by decide) (hok := rfl) (hls := rfl) ?_
  refine mx_iload_n (i := 2) (hi := rfl) (hl := rfl) (hd := dX7_readCharacter_7) ?_
  refine mx_ifN_ne 23 dX7_readCharacter_8 (by decide) (by omega) (fun c8 => ?_) (fun c8 => ?_)
  · skip
    refine mx_iload_n (i := 2) (hi := rfl) (hl := rfl) (hd := dX7_readCharacter_23) ?_
    refine mx_iconstN 1 dX7_readCharacter_24 (by decide) ?_
    refine mx_cmpN_ne 54 dX7_readCharacter_25 (by decide) (by omega) (by omega) (fun c25 => ?_) (fun c25 => ?_)
    · skip
      have hi2 : 2 ≤ i := by omega
      obtain ⟨hst, hn24, hf1, hf2, hf3⟩ := hrg.2 (by omega)
      have hst0 := hst
      obtain ⟨⟨hP, hN, hb⟩, hv0, hv1g, hF, hK, hT, hC⟩ := hst
      refine mx_aload_n (i := 1) (hi := rfl) (hl := rfl) (hd := dX7_readCharacter_54) ?_
      refine mx_getV (ci := 6) (k := 1) (nI ((i - 2) / 4)) dX7_readCharacter_55 k_169 (by decide) rfl (by assumption) hv1g ?_
      refine mx_istoreE (i := 4) (ls' := [some (.ref o), some (.ref g), some (.int (nI i)), some (.int (nI (ch i))), some (.int (nI ((i - 2) / 4)))]) (hd := dX7_readCharacter_58) (hn := by decide) (hok := rfl) (hls := rfl) ?_
      refine mx_iload (i := 4) (hl := rfl) (hd := dX7_readCharacter_60) ?_
      refine mx_bipushN 24 dX7_readCharacter_62 (by decide) ?_
      refine mx_cmpN_lt 69 dX7_readCharacter_64 (by decide) (by omega) (by omega) (fun c64 => ?_) (fun c64 => ?_)
      · skip
        refine mx_iload_n (i := 2) (hi := rfl) (hl := rfl) (hd := dX7_readCharacter_69) ?_
        refine mx_iconstN 2 dX7_readCharacter_70 (by decide) ?_
        refine mx_isubN dX7_readCharacter_71 (by omega) ?_
        refine mx_iconstN 4 dX7_readCharacter_72 (by decide) ?_
        refine mx_iremN dX7_readCharacter_73 (by omega) (by decide) ?_
        rcases (show (i - 2) % 4 = 0 ∨ (i - 2) % 4 = 1 ∨ (i - 2) % 4 = 2 ∨ (i - 2) % 4 = 3 by omega) with hr | hr | hr | hr
        · refine mx_top (y := nI 0) (by rw [hr]) ?_
          refine mx_tabIn (tgt := 100) dX7_readCharacter_74 (by decide) (by decide) rfl (by decide) ?_
          refine mx_aload_n (i := 1) (hi := rfl) (hl := rfl) (hd := dX7_readCharacter_100) ?_
          refine mx_getR (ci := 6) (k := 2) (r := (g + 1)) dX7_readCharacter_101 k_174 (by decide) rfl (by assumption) (by assumption) (by omega) ?_
          refine mx_iload (i := 4) (hl := rfl) (hd := dX7_readCharacter_104) ?_
          refine mx_iload_n (i := 3) (hi := rfl) (hl := rfl) (hd := dX7_readCharacter_106) ?_
          refine mx_bipushN 48 dX7_readCharacter_107 (by decide) ?_
          refine mx_isub dX7_readCharacter_109 ?_
          refine mx_iast ((i - 2) / 4) dX7_readCharacter_110 (by assumption) ⟨rfl, by omega, by omega⟩ ?_
          refine mx_aload_n (i := 1) (hi := rfl) (hl := rfl) (hd := dX7_readCharacter_111) ?_
          refine mx_iload_n (i := 3) (hi := rfl) (hl := rfl) (hd := dX7_readCharacter_112) ?_
          refine mx_bipushN 48 dX7_readCharacter_113 (by decide) ?_
          refine mx_isub dX7_readCharacter_115 ?_
          refine mx_callVp (ci := 6) (As := [.int ((nI (ch i)) - (nI 48))]) (rest := []) dX7_readCharacter_116 (ct_hasPerson G _ g (gtx ch ((i - 2) / 4)) hsg (hst0.oo (by omega) (Nat.le_refl _)) (nI (ch i) - nI 48)) km_X6_hasPerson rfl k_695 k_470 k_471 (by assumption) rfl rfl (Nat.le_of_ble_eq_true rfl) (by decide) ?_
          refine mx_iret dX7_readCharacter_119 rfl (mx_b_nz _) (⟨⟨?_, ?_, ?_⟩, rfl⟩)
          · exact congrArg (fun z => some (Value.int (mx_b z))) (decide_eq_decide.mpr (⟨fun z => Or.inr (Or.inr ⟨by omega, by omega, Or.inl ⟨hr, by rw [hti] at z; omega, by rw [hti] at z; have := z.2; show ch i - 48 < ch 1 - 48; have e : (gP (gtx ch ((i - 2) / 4)) : Int) = ((ch 1 - 48 : Nat) : Int) := rfl; omega⟩⟩), fun z => by rw [hti]; have e : (gP (gtx ch ((i - 2) / 4)) : Int) = ((ch 1 - 48 : Nat) : Int) := rfl; rw [e]; rcases z with z | z | z <;> omega⟩))
          · intro hok; refine ⟨fun z => by omega, fun _ => ?_⟩
            have hok2 : 48 ≤ ch i ∧ ch i - 48 < ch 1 - 48 := by rcases hok with z | z | z <;> omega
            rw [show (i + 1 - 2) / 4 = (i - 2) / 4 by omega, show (i + 1 - 2) % 4 = 1 by omega]
            refine ⟨hst0.oo (by omega) (Nat.le_refl _), hn24, fun _ => ⟨?_, ?_⟩, fun z => by omega, fun z => by omega⟩
            · rw [mx_u_at, if_pos ⟨rfl, rfl⟩, show 2 + 4 * ((i - 2) / 4) = i by omega]; exact nI_sub hok2.1
            · rw [show 2 + 4 * ((i - 2) / 4) = i by omega]; have : ch 1 - 48 ≤ 8 := hP; omega
          · exact (mx_fr.rf _ _ _).u (by omega)
        · refine mx_top (y := nI 1) (by rw [hr]) ?_
          refine mx_tabIn (tgt := 120) dX7_readCharacter_74 (by decide) (by decide) rfl (by decide) ?_
          refine mx_aload_n (i := 1) (hi := rfl) (hl := rfl) (hd := dX7_readCharacter_120) ?_
          refine mx_getR (ci := 6) (k := 3) (r := (g + 2)) dX7_readCharacter_121 k_179 (by decide) rfl (by assumption) (by assumption) (by omega) ?_
          refine mx_iload (i := 4) (hl := rfl) (hd := dX7_readCharacter_124) ?_
          refine mx_iload_n (i := 3) (hi := rfl) (hl := rfl) (hd := dX7_readCharacter_126) ?_
          refine mx_bipushN 97 dX7_readCharacter_127 (by decide) ?_
          refine mx_isub dX7_readCharacter_129 ?_
          refine mx_iast ((i - 2) / 4) dX7_readCharacter_130 (by assumption) ⟨rfl, by omega, by omega⟩ ?_
          refine mx_iload_n (i := 3) (hi := rfl) (hl := rfl) (hd := dX7_readCharacter_131) ?_
          refine mx_bipushN 97 dX7_readCharacter_132 (by decide) ?_
          refine mx_isub dX7_readCharacter_134 ?_
          refine mx_callSNp (As := [.int ((nI (ch i)) - (nI 97))]) (rest := []) dX7_readCharacter_135 (ct_isKind G _ (nI (ch i) - nI 97)) km_X9_isKind rfl k_696 k_474 rfl rfl (Nat.le_of_ble_eq_true rfl) (by decide) ?_
          refine mx_iret dX7_readCharacter_138 rfl (mx_b_nz _) (⟨⟨?_, ?_, ?_⟩, rfl⟩)
          · exact congrArg (fun z => some (Value.int (mx_b z))) (decide_eq_decide.mpr (⟨fun z => Or.inr (Or.inr ⟨by omega, by omega, Or.inr (Or.inl ⟨hr, by rw [htk] at z; omega, by rw [htk] at z; omega⟩)⟩), fun z => by rw [htk]; rcases z with z | z | z <;> omega⟩))
          · intro hok; refine ⟨fun z => by omega, fun _ => ?_⟩
            have hok2 : 97 ≤ ch i ∧ ch i ≤ 100 := by rcases hok with z | z | z <;> omega
            rw [show (i + 1 - 2) / 4 = (i - 2) / 4 by omega, show (i + 1 - 2) % 4 = 2 by omega]
            refine ⟨hst0.oo (by omega) (Nat.le_refl _), hn24, fun _ => ⟨?_, (hf1 (by omega)).2⟩, fun _ => ⟨?_, ?_⟩, fun z => by omega⟩
            · rw [mx_u_at, if_neg (by omega)]; exact (hf1 (by omega)).1
            · rw [mx_u_at, if_pos ⟨rfl, rfl⟩, show 3 + 4 * ((i - 2) / 4) = i by omega]; exact nI_sub hok2.1
            · rw [show 3 + 4 * ((i - 2) / 4) = i by omega]; omega
          · exact (mx_fr.rf _ _ _).u (by omega)
        · refine mx_top (y := nI 2) (by rw [hr]) ?_
          refine mx_tabIn (tgt := 139) dX7_readCharacter_74 (by decide) (by decide) rfl (by decide) ?_
          refine mx_aload_n (i := 1) (hi := rfl) (hl := rfl) (hd := dX7_readCharacter_139) ?_
          refine mx_getR (ci := 6) (k := 4) (r := (g + 3)) dX7_readCharacter_140 k_182 (by decide) rfl (by assumption) (by assumption) (by omega) ?_
          refine mx_iload (i := 4) (hl := rfl) (hd := dX7_readCharacter_143) ?_
          refine mx_iload_n (i := 3) (hi := rfl) (hl := rfl) (hd := dX7_readCharacter_145) ?_
          refine mx_bipushN 48 dX7_readCharacter_146 (by decide) ?_
          refine mx_isub dX7_readCharacter_148 ?_
          refine mx_iast ((i - 2) / 4) dX7_readCharacter_149 (by assumption) ⟨rfl, by omega, by omega⟩ ?_
          refine mx_aload_n (i := 1) (hi := rfl) (hl := rfl) (hd := dX7_readCharacter_150) ?_
          refine mx_iload_n (i := 3) (hi := rfl) (hl := rfl) (hd := dX7_readCharacter_151) ?_
          refine mx_bipushN 48 dX7_readCharacter_152 (by decide) ?_
          refine mx_isub dX7_readCharacter_154 ?_
          refine mx_callVp (ci := 6) (As := [.int ((nI (ch i)) - (nI 48))]) (rest := []) dX7_readCharacter_155 (ct_hasPerson G _ g (gtx ch ((i - 2) / 4)) hsg (hst0.oo (by omega) (Nat.le_refl _)) (nI (ch i) - nI 48)) km_X6_hasPerson rfl k_695 k_470 k_471 (by assumption) rfl rfl (Nat.le_of_ble_eq_true rfl) (by decide) ?_
          refine mx_ifB_eq 206 dX7_readCharacter_158 (by decide) (fun c158 => ?_) (fun c158 => ?_)
          · skip
            refine mx_iconstN 0 dX7_readCharacter_206 (by decide) ?_
            refine mx_iret dX7_readCharacter_207 rfl (by decide) (⟨⟨congrArg (fun z => some (Value.int z)) (mx_bF ?_), fun z => absurd z ?_, (mx_fr.rf _ _ _).u (by omega)⟩, rfl⟩)
            all_goals (have e : (gP (gtx ch ((i - 2) / 4)) : Int) = ((ch 1 - 48 : Nat) : Int) := rfl)
            all_goals rintro (z | z | ⟨-, -, z | z | z | z⟩)
            all_goals first | omega | skip
            all_goals first | exact c199 ((gIx_iff hN).mpr z.2.2.2.2) | exact z.2.2.2.1 c172 | (exact c158 ⟨by rw [hti]; omega, by rw [hti, e]; omega⟩)
          · skip
            refine mx_iload_n (i := 3) (hi := rfl) (hl := rfl) (hd := dX7_readCharacter_161) ?_
            refine mx_bipushN 48 dX7_readCharacter_162 (by decide) ?_
            refine mx_isubN dX7_readCharacter_164 (by have := c158; rw [hti] at this; omega) ?_
            refine mx_aload_n (i := 1) (hi := rfl) (hl := rfl) (hd := dX7_readCharacter_165) ?_
            refine mx_getR (ci := 6) (k := 2) (r := (g + 1)) dX7_readCharacter_166 k_174 (by decide) rfl (by assumption) (by assumption) (by omega) ?_
            refine mx_iload (i := 4) (hl := rfl) (hd := dX7_readCharacter_169) ?_
            refine mx_ialdV ((i - 2) / 4) (nI (ch (2 + 4 * ((i - 2) / 4)) - 48)) dX7_readCharacter_171 (by assumption) ⟨rfl, by omega, by omega⟩ (by rw [mx_u_at, if_neg (by omega)]; exact (hf1 (by omega)).1) ?_
            refine mx_cmpN_eq 206 dX7_readCharacter_172 (by decide) (by omega) (by have := (hf1 (by omega)).2; omega) (fun c172 => ?_) (fun c172 => ?_)
            · skip
              refine mx_iconstN 0 dX7_readCharacter_206 (by decide) ?_
              refine mx_iret dX7_readCharacter_207 rfl (by decide) (⟨⟨congrArg (fun z => some (Value.int z)) (mx_bF ?_), fun z => absurd z ?_, (mx_fr.rf _ _ _).u (by omega)⟩, rfl⟩)
              all_goals (have e : (gP (gtx ch ((i - 2) / 4)) : Int) = ((ch 1 - 48 : Nat) : Int) := rfl)
              all_goals rintro (z | z | ⟨-, -, z | z | z | z⟩)
              all_goals first | omega | skip
              all_goals first | exact c199 ((gIx_iff hN).mpr z.2.2.2.2) | exact z.2.2.2.1 c172 | (exact c158 ⟨by rw [hti]; omega, by rw [hti, e]; omega⟩)
            · skip
              refine mx_aload_n (i := 1) (hi := rfl) (hl := rfl) (hd := dX7_readCharacter_175) ?_
              refine mx_aload_n (i := 1) (hi := rfl) (hl := rfl) (hd := dX7_readCharacter_176) ?_
              refine mx_getR (ci := 6) (k := 2) (r := (g + 1)) dX7_readCharacter_177 k_174 (by decide) rfl (by assumption) (by assumption) (by omega) ?_
              refine mx_iload (i := 4) (hl := rfl) (hd := dX7_readCharacter_180) ?_
              refine mx_ialdV ((i - 2) / 4) (nI (ch (2 + 4 * ((i - 2) / 4)) - 48)) dX7_readCharacter_182 (by assumption) ⟨rfl, by omega, by omega⟩ (by rw [mx_u_at, if_neg (by omega)]; exact (hf1 (by omega)).1) ?_
              refine mx_aload_n (i := 1) (hi := rfl) (hl := rfl) (hd := dX7_readCharacter_183) ?_
              refine mx_getR (ci := 6) (k := 3) (r := (g + 2)) dX7_readCharacter_184 k_179 (by decide) rfl (by assumption) (by assumption) (by omega) ?_
              refine mx_iload (i := 4) (hl := rfl) (hd := dX7_readCharacter_187) ?_
              refine mx_ialdV ((i - 2) / 4) (nI (ch (3 + 4 * ((i - 2) / 4)) - 97)) dX7_readCharacter_189 (by assumption) ⟨rfl, by omega, by omega⟩ (by rw [mx_u_at, if_neg (by omega)]; exact (hf2 (by omega)).1) ?_
              refine mx_iload_n (i := 3) (hi := rfl) (hl := rfl) (hd := dX7_readCharacter_190) ?_
              refine mx_bipushN 48 dX7_readCharacter_191 (by decide) ?_
              refine mx_isubN dX7_readCharacter_193 (by have := c158; rw [hti] at this; omega) ?_
              refine mx_callVp (ci := 6) (As := [.int (nI (ch (2 + 4 * ((i - 2) / 4)) - 48)), .int (nI (ch (3 + 4 * ((i - 2) / 4)) - 97)), .int (nI ((ch i) - 48))]) (rest := []) dX7_readCharacter_194 (ct_indexOf G _ g (gtx ch ((i - 2) / 4)) hsg (hst0.oo (by omega) (Nat.le_refl _)) (ch (2 + 4 * ((i - 2) / 4)) - 48) (ch (3 + 4 * ((i - 2) / 4)) - 97) (ch i - 48) (by have := (hf1 (by omega)).2; omega) (by have := (hf2 (by omega)).2; omega) (by omega)) km_X6_indexOf rfl k_697 k_480 k_481 (by assumption) rfl rfl (Nat.le_of_ble_eq_true rfl) (by decide) ?_
              refine mx_bipush (v := (-9)) (by decide) dX7_readCharacter_197 ?_
              refine mx_icmp_ne (tgt := 206) dX7_readCharacter_199 (by decide) (fun c199 => ?_) (fun c199 => ?_)
              · skip
                refine mx_iconstN 0 dX7_readCharacter_206 (by decide) ?_
                refine mx_iret dX7_readCharacter_207 rfl (by decide) (⟨⟨congrArg (fun z => some (Value.int z)) (mx_bF ?_), fun z => absurd z ?_, (mx_fr.rf _ _ _).u (by omega)⟩, rfl⟩)
                all_goals (have e : (gP (gtx ch ((i - 2) / 4)) : Int) = ((ch 1 - 48 : Nat) : Int) := rfl)
                all_goals rintro (z | z | ⟨-, -, z | z | z | z⟩)
                all_goals first | omega | skip
                all_goals first | exact c199 ((gIx_iff hN).mpr z.2.2.2.2) | exact z.2.2.2.1 c172 | (exact c158 ⟨by rw [hti]; omega, by rw [hti, e]; omega⟩)
              · skip
                refine mx_iconstN 1 dX7_readCharacter_202 (by decide) ?_
                refine mx_goto (tgt := 207) dX7_readCharacter_203 (by decide) ?_
                refine mx_iret dX7_readCharacter_207 rfl (by decide) (⟨⟨?_, ?_, ?_⟩, rfl⟩)
                all_goals (have e : (gP (gtx ch ((i - 2) / 4)) : Int) = ((ch 1 - 48 : Nat) : Int) := rfl)
                all_goals (have hok2 : 48 ≤ ch i ∧ ch i - 48 < ch 1 - 48 := by have := c158; rw [hti, e] at this; omega)
                · exact congrArg (fun z => some (Value.int z)) (mx_bT (Or.inr (Or.inr ⟨hi2, by omega, Or.inr (Or.inr (Or.inl ⟨hr, hok2.1, hok2.2, c172, (gIx_iff hN).mp c199⟩))⟩)))
                · intro hok; refine ⟨fun z => by omega, fun _ => ?_⟩
                  rw [show (i + 1 - 2) / 4 = (i - 2) / 4 by omega, show (i + 1 - 2) % 4 = 3 by omega]
                  refine ⟨hst0.oo (by omega) (Nat.le_refl _), hn24, fun _ => ⟨?_, (hf1 (by omega)).2⟩, fun _ => ⟨?_, (hf2 (by omega)).2⟩, fun _ => ⟨?_, ?_⟩⟩
                  · rw [mx_u_at, if_neg (by omega)]; exact (hf1 (by omega)).1
                  · rw [mx_u_at, if_neg (by omega)]; exact (hf2 (by omega)).1
                  · rw [mx_u_at, if_pos ⟨rfl, rfl⟩, show 4 + 4 * ((i - 2) / 4) = i by omega]; exact nI_sub hok2.1
                  · rw [show 4 + 4 * ((i - 2) / 4) = i by omega]; have : ch 1 - 48 ≤ 8 := hP; omega
                · exact (mx_fr.rf _ _ _).u (by omega)
        · refine mx_top (y := nI 3) (by rw [hr]) ?_
          refine mx_tabOut (tgt := 208) dX7_readCharacter_74 (by decide) (by decide) ?_
          refine mx_aload_n (i := 1) (hi := rfl) (hl := rfl) (hd := dX7_readCharacter_208) ?_
          refine mx_getR (ci := 6) (k := 5) (r := (g + 4)) dX7_readCharacter_209 k_187 (by decide) rfl (by assumption) (by assumption) (by omega) ?_
          refine mx_iload (i := 4) (hl := rfl) (hd := dX7_readCharacter_212) ?_
          refine mx_iload_n (i := 3) (hi := rfl) (hl := rfl) (hd := dX7_readCharacter_214) ?_
          refine mx_bipushN 48 dX7_readCharacter_215 (by decide) ?_
          refine mx_isub dX7_readCharacter_217 ?_
          refine mx_iast ((i - 2) / 4) dX7_readCharacter_218 (by assumption) ⟨rfl, by omega, by omega⟩ ?_
          refine mx_aload_n (i := 1) (hi := rfl) (hl := rfl) (hd := dX7_readCharacter_219) ?_
          refine mx_dup (hva := rfl) (hd := dX7_readCharacter_220) ?_
          refine mx_getV (ci := 6) (k := 1) (nI ((i - 2) / 4)) dX7_readCharacter_221 k_169 (by decide) rfl (by assumption) (by rw [mx_u_at, if_neg (by omega)]; exact hv1g) ?_
          refine mx_iconstN 1 dX7_readCharacter_224 (by decide) ?_
          refine mx_iaddN dX7_readCharacter_225 ?_
          refine mx_putI (ci := 6) (k := 1) dX7_readCharacter_226 k_169 (by decide) rfl rfl rfl rfl (by assumption) ?_
          refine mx_iload_n (i := 3) (hi := rfl) (hl := rfl) (hd := dX7_readCharacter_229) ?_
          refine mx_bipushN 48 dX7_readCharacter_230 (by decide) ?_
          refine mx_isub dX7_readCharacter_232 ?_
          refine mx_callSNp (As := [.int ((nI (ch i)) - (nI 48))]) (rest := []) dX7_readCharacter_233 (ct_isCost G _ (nI (ch i) - nI 48)) km_X9_isCost rfl k_698 k_477 rfl rfl (Nat.le_of_ble_eq_true rfl) (by decide) ?_
          refine mx_iret dX7_readCharacter_236 rfl (mx_b_nz _) (⟨⟨?_, ?_, ?_⟩, rfl⟩)
          · exact congrArg (fun z => some (Value.int (mx_b z))) (decide_eq_decide.mpr ⟨fun z => Or.inr (Or.inr ⟨hi2, by omega, Or.inr (Or.inr (Or.inr ⟨hr, by rw [hti] at z; omega, by rw [hti] at z; omega⟩))⟩), fun z => by rw [hti]; rcases z with z | z | z <;> omega⟩)
          · intro hok; refine ⟨fun z => by omega, fun _ => ?_⟩
            have hok2 : 49 ≤ ch i ∧ ch i ≤ 57 := by rcases hok with z | z | z <;> omega
            rw [show (i + 1 - 2) / 4 = (i - 2) / 4 + 1 by omega, show (i + 1 - 2) % 4 = 0 by omega]
            refine ⟨?_, by omega, fun z => by omega, fun z => by omega, fun z => by omega⟩
            refine ⟨⟨hP, by show (i - 2) / 4 + 1 ≤ 25; omega, fun s hs => ?_⟩, ?_, ?_, fun s hs => ?_, fun s hs => ?_, fun s hs => ?_, fun s hs => ?_⟩
            · have hs : s < (i - 2) / 4 + 1 := hs
              by_cases es : s = (i - 2) / 4
              · have a1 := (hf1 (by omega)).2
                have a2 := (hf2 (by omega)).2
                have a3 := (hf3 (by omega)).2
                show ch (2 + 4 * s) - 48 < 8 ∧ ch (3 + 4 * s) - 97 < 4 ∧ ch (4 + 4 * s) - 48 < 8 ∧ 1 ≤ ch (5 + 4 * s) - 48 ∧ ch (5 + 4 * s) - 48 ≤ 9
                rw [es, show 5 + 4 * ((i - 2) / 4) = i by omega]
                omega
              · exact hb s (by show s < (i - 2) / 4; omega)
            · rw [mx_u_at, if_neg (by omega), mx_u_at, if_neg (by omega)]; exact hv0
            · rw [mx_u_at, if_pos ⟨rfl, rfl⟩]; rfl
            · have hs : s < (i - 2) / 4 + 1 := hs
              rw [mx_u_at, if_neg (by omega), mx_u_at, if_neg (by omega)]
              by_cases es : s = (i - 2) / 4
              · rw [es]; exact (hf1 (by omega)).1
              · exact hF s (by show s < (i - 2) / 4; omega)
            · have hs : s < (i - 2) / 4 + 1 := hs
              rw [mx_u_at, if_neg (by omega), mx_u_at, if_neg (by omega)]
              by_cases es : s = (i - 2) / 4
              · rw [es]; exact (hf2 (by omega)).1
              · exact hK s (by show s < (i - 2) / 4; omega)
            · have hs : s < (i - 2) / 4 + 1 := hs
              rw [mx_u_at, if_neg (by omega), mx_u_at, if_neg (by omega)]
              by_cases es : s = (i - 2) / 4
              · rw [es]; exact (hf3 (by omega)).1
              · exact hT s (by show s < (i - 2) / 4; omega)
            · have hs : s < (i - 2) / 4 + 1 := hs
              rw [mx_u_at, if_neg (by omega), mx_u_at]
              by_cases es : s = (i - 2) / 4
              · rw [if_pos ⟨rfl, es⟩, es]
                show _ = nI (ch (5 + 4 * ((i - 2) / 4)) - 48)
                rw [show 5 + 4 * ((i - 2) / 4) = i by omega]; exact nI_sub (by omega)
              · rw [if_neg (fun z => es z.2)]; exact hC s (by show s < (i - 2) / 4; omega)
          · exact ((mx_fr.rf _ _ _).u (by omega)).u (by omega)
      · skip
        refine mx_iconstN 0 dX7_readCharacter_67 (by decide) ?_
        exact mx_iret dX7_readCharacter_68 rfl (by decide) (⟨⟨congrArg (fun z => some (Value.int z)) (mx_bF (by rintro (z | z | z) <;> omega)), fun z => absurd z (by rintro (z | z | z) <;> omega), mx_fr.rf _ _ _⟩, rfl⟩)
    · skip
      refine mx_aload_n (i := 1) (hi := rfl) (hl := rfl) (hd := dX7_readCharacter_28) ?_
      refine mx_iload_n (i := 3) (hi := rfl) (hl := rfl) (hd := dX7_readCharacter_29) ?_
      refine mx_bipushN 48 dX7_readCharacter_30 (by decide) ?_
      refine mx_isub dX7_readCharacter_32 ?_
      refine mx_putI (ci := 6) (k := 0) dX7_readCharacter_33 k_165 (by decide) rfl rfl rfl rfl (by assumption) ?_
      refine mx_iload_n (i := 3) (hi := rfl) (hl := rfl) (hd := dX7_readCharacter_36) ?_
      refine mx_bipushN 49 dX7_readCharacter_37 (by decide) ?_
      refine mx_cmpN_lt 52 dX7_readCharacter_39 (by decide) (by have := hc8 i (by omega); omega) (by omega) (fun c39 => ?_) (fun c39 => ?_)
      · skip
        refine mx_iconstN 0 dX7_readCharacter_52 (by decide) ?_
        exact mx_iret dX7_readCharacter_53 rfl (by decide) (⟨⟨congrArg (fun z => some (Value.int z)) (mx_bF (by rintro (z | z | z) <;> first | omega | (subst c25; omega))), fun z => absurd z (by rintro (z | z | z) <;> first | omega | (subst c25; omega)), (mx_fr.rf _ _ _).u (by omega)⟩, rfl⟩)
      · skip
        refine mx_iload_n (i := 3) (hi := rfl) (hl := rfl) (hd := dX7_readCharacter_42) ?_
        refine mx_bipushN 56 dX7_readCharacter_43 (by decide) ?_
        refine mx_cmpN_gt 52 dX7_readCharacter_45 (by decide) (by have := hc8 i (by omega); omega) (by omega) (fun c45 => ?_) (fun c45 => ?_)
        · skip
          refine mx_iconstN 0 dX7_readCharacter_52 (by decide) ?_
          exact mx_iret dX7_readCharacter_53 rfl (by decide) (⟨⟨congrArg (fun z => some (Value.int z)) (mx_bF (by rintro (z | z | z) <;> first | omega | (subst c25; omega))), fun z => absurd z (by rintro (z | z | z) <;> first | omega | (subst c25; omega)), (mx_fr.rf _ _ _).u (by omega)⟩, rfl⟩)
        · skip
          refine mx_iconstN 1 dX7_readCharacter_48 (by decide) ?_
          refine mx_goto (tgt := 53) dX7_readCharacter_49 (by decide) ?_
          refine mx_iret dX7_readCharacter_53 rfl (by decide) (⟨⟨congrArg (fun z => some (Value.int z)) (mx_bT (Or.inr (Or.inl ⟨c25, by rw [← c25]; omega, by rw [← c25]; omega⟩))), fun z => ?_, (mx_fr.rf _ _ _).u (by omega)⟩, rfl⟩)
          refine ⟨fun z => by omega, fun _ => ?_⟩
          subst c25
          refine ⟨⟨⟨?_, by show (1 + 1 - 2) / 4 ≤ 25; decide, fun s hs => absurd hs (Nat.not_lt_zero _)⟩, ?_, ?_, fun s hs => absurd hs (Nat.not_lt_zero _), fun s hs => absurd hs (Nat.not_lt_zero _), fun s hs => absurd hs (Nat.not_lt_zero _), fun s hs => absurd hs (Nat.not_lt_zero _)⟩, by decide, fun z => absurd z (by decide), fun z => absurd z (by decide), fun z => absurd z (by decide)⟩
          · show ch 1 - 48 ≤ 8; omega
          · rw [mx_u_at, if_pos ⟨rfl, rfl⟩]; exact nI_sub (by omega)
          · rw [mx_u_at, if_neg (by omega)]; exact hrg.1 (by decide)
  · skip
    refine mx_iload_n (i := 3) (hi := rfl) (hl := rfl) (hd := dX7_readCharacter_11) ?_
    refine mx_bipushN 75 dX7_readCharacter_12 (by decide) ?_
    refine mx_cmpN_ne 21 dX7_readCharacter_14 (by decide) (by have := hc8 i (by omega); omega) (by omega) (fun c14 => ?_) (fun c14 => ?_)
    · skip
      refine mx_iconstN 0 dX7_readCharacter_21 (by decide) ?_
      exact mx_iret dX7_readCharacter_22 rfl (by decide) (⟨⟨congrArg (fun z => some (Value.int z)) (mx_bF (fun z => by rcases z with z | z | z; (exact c14 (by rw [c8]; exact z.2)); omega; omega)), fun z => ⟨fun _ => hrg.1 (by omega), fun z => by omega⟩, mx_fr.rf _ _ _⟩, rfl⟩)
    · skip
      refine mx_iconstN 1 dX7_readCharacter_17 (by decide) ?_
      refine mx_goto (tgt := 22) dX7_readCharacter_18 (by decide) ?_
      exact mx_iret dX7_readCharacter_22 rfl (by decide) (⟨⟨congrArg (fun z => some (Value.int z)) (mx_bT (Or.inl ⟨c8, by rw [← c8]; exact c14⟩)), fun _ => ⟨fun _ => hrg.1 (by omega), fun z => by omega⟩, mx_fr.rf _ _ _⟩, rfl⟩)

def rgF (ch : Nat → Nat) (n : Nat) : Nat → Nat → Option Nat
  | 0, _ => if n < 2 ∨ ¬ (n - 2) % 4 = 0 then some n else none
  | f + 1, i => if rcOk ch i then rgF ch n f (i + 1) else some i
theorem rgF_t {ch : Nat → Nat} {n i : Nat} (hi : i < n) (h : rcOk ch i) : rgF ch n (n - i) i = rgF ch n (n - (i + 1)) (i + 1) := by
  have e : n - i = (n - (i + 1)) + 1 := by omega
  rw [e]
  exact if_pos h
theorem rgF_f {ch : Nat → Nat} {n i : Nat} (hi : i < n) (h : ¬ rcOk ch i) : rgF ch n (n - i) i = some i := by
  have e : n - i = (n - (i + 1)) + 1 := by omega
  rw [e]
  exact if_neg h
/-- the error position of a graph -/
def gErr (ch : Nat → Nat) (n : Nat) : Option Nat := rgF ch n n 0

set_option maxHeartbeats 4000000 in
set_option maxRecDepth 100000 in
theorem ct_readGraph (G : mx_G) (I : mx_I) (o n : Nat) (ch : Nat → Nat) (hs : oTX G o) (hv : txN I o n ch) (g pt : Nat) (hsg : oST G g) (hd : o + 2 ≤ g ∨ g + 5 ≤ o) (hpt : mx_tg G pt = 12) : mx_CT yX7_readGraph mX7_readGraph 3 0 0 [.ref o, .ref g, .ref pt] G I (fun rv Gz Iz => rv = some (.int (oI (gErr ch n))) ∧ Gz = mx_uR G g 6 pt ∧ (gErr ch n = none → stN Iz g (gtx ch ((n - 2) / 4)) ∧ 2 ≤ n ∧ (n - 2) / 4 ≤ 24) ∧ mx_fr I Iz g (g + 5)) (fun _ _ _ => False) := by
  refine mx_start (k := 1) (by decide) rfl rfl (fun h => nomatch h) (Nat.le_of_ble_eq_true rfl) ?_
  show mx_V mX7_readGraph mx_S0 3 0 0 0 [some (.ref o), some (.ref g), some (.ref pt), none] [] G I (fun rv Gz Iz => rv = some (.int (oI (gErr ch n))) ∧ Gz = mx_uR G g 6 pt ∧ (gErr ch n = none → stN Iz g (gtx ch ((n - 2) / 4)) ∧ 2 ≤ n ∧ (n - 2) / 4 ≤ 24) ∧ mx_fr I Iz g (g + 5)) (fun _ _ _ => False)
  have hs0 := hs
  have hv0 := hv
  have hsg9 := hsg.1
  obtain ⟨hg0, hg1, hg2, hg3⟩ := hs
  obtain ⟨hn, hv1, hch, hc8⟩ := hv
  have L7 : ∀ (fq : Nat) (i : Nat) (I1 : mx_I), n - i < fq → (i ≤ n) → (gErr ch n = rgF ch n (n - i) i) → (rgN I1 g ch i) → (mx_fr I I1 g (g + 5)) → mx_V mX7_readGraph mx_S0 3 0 0 7 [some (.ref o), some (.ref g), some (.ref pt), some (.int (nI i))] [] (mx_uR G g 6 pt) I1 (fun rv Gz Iz => rv = some (.int (oI (gErr ch n))) ∧ Gz = mx_uR G g 6 pt ∧ (gErr ch n = none → stN Iz g (gtx ch ((n - 2) / 4)) ∧ 2 ≤ n ∧ (n - 2) / 4 ≤ 24) ∧ mx_fr I Iz g (g + 5)) (fun _ _ _ => False) := by
    intro fq
    induction fq with
    | zero => intro i I1 hfu; exact absurd hfu (Nat.not_lt_zero _)
    | succ fq ih =>
      intro i I1 hfu hi hx hrg hfr
      refine mx_iload_n (i := 3) (hi := rfl) (hl := rfl) (hd := dX7_readGraph_7) ?_
      refine mx_aload_n (i := 0) (hi := rfl) (hl := rfl) (hd := dX7_readGraph_8) ?_
      refine mx_getV (ci := 7) (k := 1) (nI n) dX7_readGraph_9 k_65 (by decide) rfl (by assumption) (by rw [hfr o (by omega)]; exact hv1) ?_
      refine mx_cmpN_ge 32 dX7_readGraph_12 (by decide) (by omega) (by omega) (fun c12 => ?_) (fun c12 => ?_)
      · skip
        refine mx_aload_n (i := 0) (hi := rfl) (hl := rfl) (hd := dX7_readGraph_32) ?_
        refine mx_getV (ci := 7) (k := 1) (nI n) dX7_readGraph_33 k_65 (by decide) rfl (by assumption) (by rw [hfr o (by omega)]; exact hv1) ?_
        refine mx_iconstN 2 dX7_readGraph_36 (by decide) ?_
        refine mx_cmpN_lt 51 dX7_readGraph_37 (by decide) (by omega) (by omega) (fun c37 => ?_) (fun c37 => ?_)
        · skip
          refine mx_aload_n (i := 0) (hi := rfl) (hl := rfl) (hd := dX7_readGraph_51) ?_
          refine mx_getV (ci := 7) (k := 1) (nI n) dX7_readGraph_52 k_65 (by decide) rfl (by assumption) (by rw [hfr o (by omega)]; exact hv1) ?_
          refine mx_goto (tgt := 60) dX7_readGraph_55 (by decide) ?_
          refine mx_iret dX7_readGraph_60 rfl rfl (⟨by rw [hx, show n - i = 0 by omega, rgF, if_pos (by omega)]; rfl, rfl, fun z => ?_, hfr⟩)
          rw [hx, show n - i = 0 by omega, rgF, if_pos (by omega)] at z; cases z
        · skip
          refine mx_aload_n (i := 0) (hi := rfl) (hl := rfl) (hd := dX7_readGraph_40) ?_
          refine mx_getV (ci := 7) (k := 1) (nI n) dX7_readGraph_41 k_65 (by decide) rfl (by assumption) (by rw [hfr o (by omega)]; exact hv1) ?_
          refine mx_iconstN 2 dX7_readGraph_44 (by decide) ?_
          refine mx_isubN dX7_readGraph_45 (by omega) ?_
          refine mx_iconstN 4 dX7_readGraph_46 (by decide) ?_
          refine mx_iremN dX7_readGraph_47 (by omega) (by decide) ?_
          refine mx_ifN_eq 58 dX7_readGraph_48 (by decide) (by omega) (fun c48 => ?_) (fun c48 => ?_)
          · skip
            refine mx_bipush (v := (-9)) (by decide) dX7_readGraph_58 ?_
            refine mx_iret dX7_readGraph_60 rfl rfl (⟨by rw [hx, show n - i = 0 by omega, rgF, if_neg (by omega)]; rfl, rfl, fun z => ?_, hfr⟩)
            have en : i = n := by omega
            subst en
            exact ⟨(hrg.2 (by omega)).1, by omega, (hrg.2 (by omega)).2.1⟩
          · skip
            refine mx_aload_n (i := 0) (hi := rfl) (hl := rfl) (hd := dX7_readGraph_51) ?_
            refine mx_getV (ci := 7) (k := 1) (nI n) dX7_readGraph_52 k_65 (by decide) rfl (by assumption) (by rw [hfr o (by omega)]; exact hv1) ?_
            refine mx_goto (tgt := 60) dX7_readGraph_55 (by decide) ?_
            refine mx_iret dX7_readGraph_60 rfl rfl (⟨by rw [hx, show n - i = 0 by omega, rgF, if_pos (by omega)]; rfl, rfl, fun z => ?_, hfr⟩)
            rw [hx, show n - i = 0 by omega, rgF, if_pos (by omega)] at z; cases z
      · skip
        refine mx_aload_n (i := 0) (hi := rfl) (hl := rfl) (hd := dX7_readGraph_15) ?_
        refine mx_aload_n (i := 1) (hi := rfl) (hl := rfl) (hd := dX7_readGraph_16) ?_
        refine mx_iload_n (i := 3) (hi := rfl) (hl := rfl) (hd := dX7_readGraph_17) ?_
        refine mx_callVi (ci := 7) (As := [.ref g, .int (nI i)]) (rest := []) dX7_readGraph_18 (ct_readCharacter (mx_uR G g 6 pt) I1 o n ch (hs0.sm ((mx_sm.rf G).u6 hsg.1)) (hv0.fr hfr (by omega)) g i (hsg.sm ((mx_sm.rf G).u6 hsg.1)) hd (by omega) hrg) km_X7_readCharacter rfl k_691 k_693 k_19 (by assumption) rfl rfl (Nat.le_of_ble_eq_true rfl) (by decide) (fun r1 I3 h2 => ?_)
        obtain ⟨e9, m1, m2⟩ := h2
        subst e9
        refine mx_ifB_ne 26 dX7_readGraph_21 (by decide) (fun c21 => ?_) (fun c21 => ?_)
        · skip
          refine mx_iincE (i := 3) (ls' := [some (.ref o), some (.ref g), some (.ref pt), some (.int (nI (i + 1)))]) 1 dX7_readGraph_26 rfl (by decide) (by decide) rfl rfl ?_
          refine mx_goto (tgt := 7) dX7_readGraph_29 (by decide) ?_
          exact ih (i + 1) _ (by omega) (by omega) (hx.trans (rgF_t (by omega) c21)) (m1 c21) (hfr.tr m2)
        · skip
          refine mx_iload_n (i := 3) (hi := rfl) (hl := rfl) (hd := dX7_readGraph_24) ?_
          exact mx_iret dX7_readGraph_25 rfl rfl (⟨by rw [hx.trans (rgF_f (by omega) c21)]; rfl, rfl, fun z => (by rw [hx.trans (rgF_f (by omega) c21)] at z; cases z), hfr.tr m2⟩)
  refine mx_aload_n (i := 1) (hi := rfl) (hl := rfl) (hd := dX7_readGraph_0) ?_
  refine mx_aload_n (i := 2) (hi := rfl) (hl := rfl) (hd := dX7_readGraph_1) ?_
  refine mx_callV (ci := 6) (As := [.ref pt]) (rest := []) (b1 := 0) (b2 := 0) dX7_readGraph_2 (ct_clear G I g pt hsg hpt) km_X6_clear rfl k_687 k_688 k_689 (by assumption) rfl rfl (Nat.le_of_ble_eq_true rfl) (by decide) (fun _ _ _ q => q.elim) (fun r3 G2 I2 h4 => ?_)
  obtain ⟨e9, hq1, hq2⟩ := h4
  subst e9; subst hq1; subst hq2
  refine mx_iconstN 0 dX7_readGraph_5 (by decide) ?_
  refine mx_istoreE_n (i := 3) (ls' := [some (.ref o), some (.ref g), some (.ref pt), some (.int (nI 0))]) (hi := rfl) (hd := dX7_readGraph_6) (hn := by decide) (hok := rfl) (hls := rfl) ?_
  exact L7 _ 0 _ (Nat.lt_succ_self _) (Nat.zero_le _) rfl ⟨fun _ => by rw [mx_u_at, if_pos ⟨rfl, rfl⟩], fun z => absurd z (by decide)⟩ (((mx_fr.rf _ _ _).u (by omega)).u (by omega))
