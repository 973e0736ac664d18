/-! THE REFERENCE: relax, layFar -/
theorem gSum_c {f g : Nat → Nat} : ∀ n, (∀ j, j < n → f j = g j) → gSum f n = gSum g n
  | 0, _ => rfl
  | n + 1, h => by rw [gSum, gSum, gSum_c n (fun j hj => h j (by omega)), h n (Nat.lt_succ_self n)]
theorem gSum_le {f g : Nat → Nat} (h : ∀ j, f j ≤ g j) : ∀ n, gSum f n ≤ gSum g n
  | 0 => Nat.le_refl _
  | n + 1 => Nat.add_le_add (gSum_le h n) (h n)
theorem gSum_up {f : Nat → Nat} {k x : Nat} (hx : x < f k) : ∀ n, k < n → gSum (fun j => if j = k then x else f j) n < gSum f n
  | 0, h => absurd h (Nat.not_lt_zero _)
  | n + 1, h => by
    rw [gSum, gSum]
    by_cases e : n = k
    · subst e
      rw [if_pos rfl, gSum_c n (fun j hj => if_neg (show ¬ j = n by omega))]
      omega
    · rw [if_neg e]
      have := gSum_up hx n (by omega)
      omega
abbrev rxB (nx : Nat → Nat) (by9 s t : Nat) : Prop := (nx s &&& by9).testBit t = true
/-- relaxed on the way: D tells what has been looked at -/
def rxR (nx : Nat → Nat) (by9 co a b L : Nat) (f f1 : Nat → Nat) (nb : Bool) (D : Nat → Nat → Prop) : Prop :=
  (∀ j, f1 j ≤ f j) ∧ (nb = false → f1 = f ∧ ∀ s t, D s t → s ≤ L → 1 ≤ t → t ≤ L → rxB nx by9 s t → f (21 * a + s) ≤ f (21 * b + t) + co) ∧ (nb = true → gSum f1 168 < gSum f 168) ∧
  (∀ T : Nat → Nat → Prop, (∀ s t x, s ≤ L → t ≤ L → rxB nx by9 s t → x + co < 100000000 → T (21 * b + t) x → T (21 * a + s) (x + co)) → (∀ j, T j (f j)) → ∀ j, T j (f1 j))
section
variable {nx : Nat → Nat} {by9 co a b L : Nat} {f f1 : Nat → Nat} {nb : Bool} {D D' : Nat → Nat → Prop}
theorem rxR.rf : rxR nx by9 co a b L f f false (fun _ _ => False) := ⟨fun _ => Nat.le_refl _, fun _ => ⟨rfl, fun _ _ h => h.elim⟩, fun h => (nomatch h), fun _ _ h => h⟩
theorem rxR.wk (h : rxR nx by9 co a b L f f1 nb D) (hD : ∀ s t, D' s t → s ≤ L → 1 ≤ t → t ≤ L → rxB nx by9 s t → D s t) : rxR nx by9 co a b L f f1 nb D' := by
  obtain ⟨h1, h2, h3, h4⟩ := h
  exact ⟨h1, fun q => ⟨(h2 q).1, fun s t d a1 a2 a3 a4 => (h2 q).2 s t (hD s t d a1 a2 a3 a4) a1 a2 a3 a4⟩, h3, h4⟩
theorem rxR.no {s t : Nat} (h : rxR nx by9 co a b L f f1 nb (fun x y => x < s ∨ (x = s ∧ y < t))) (hb : ¬ rxB nx by9 s t) : rxR nx by9 co a b L f f1 nb (fun x y => x < s ∨ (x = s ∧ y < t + 1)) :=
  h.wk (fun x y d _ _ _ q => by
    rcases d with d | ⟨d1, d2⟩
    · exact Or.inl d
    · by_cases e : y = t
      · subst e; subst d1; exact absurd q hb
      · exact Or.inr ⟨d1, by omega⟩)
theorem rxR.ge {s t : Nat} (h : rxR nx by9 co a b L f f1 nb (fun x y => x < s ∨ (x = s ∧ y < t))) (hb : f1 (21 * a + s) ≤ f1 (21 * b + t) + co) : rxR nx by9 co a b L f f1 nb (fun x y => x < s ∨ (x = s ∧ y < t + 1)) := by
  obtain ⟨h1, h2, h3, h4⟩ := h
  refine ⟨h1, fun q => ⟨(h2 q).1, fun x y d a1 a2 a3 a4 => ?_⟩, h3, h4⟩
  by_cases e : x = s ∧ y = t
  · obtain ⟨e1, e2⟩ := e
    subst e1; subst e2
    rw [(h2 q).1] at hb
    exact hb
  · exact (h2 q).2 x y (by omega) a1 a2 a3 a4
theorem rxR.up {s t : Nat} (h : rxR nx by9 co a b L f f1 nb D) (hs : s ≤ L) (ht : t ≤ L) (hL : L ≤ 20) (ha : a < 8) (hb : rxB nx by9 s t) (hlt : f1 (21 * b + t) + co < f1 (21 * a + s)) (hF : ∀ j, f j ≤ 100000000) : rxR nx by9 co a b L f (fun j => if j = 21 * a + s then f1 (21 * b + t) + co else f1 j) true D' := by
  obtain ⟨h1, h2, h3, h4⟩ := h
  refine ⟨fun j => ?_, fun q => (nomatch q), fun _ => Nat.lt_of_lt_of_le (gSum_up hlt 168 (by omega)) (gSum_le h1 168), fun T hT h0 j => ?_⟩
  · show (if j = 21 * a + s then f1 (21 * b + t) + co else f1 j) ≤ f j
    split
    · next e => subst e; have := h1 (21 * a + s); omega
    · exact h1 j
  · show T j (if j = 21 * a + s then f1 (21 * b + t) + co else f1 j)
    split
    · next e =>
      subst e
      have q1 := h1 (21 * a + s)
      have q2 := hF (21 * a + s)
      exact hT s t _ hs ht hb (by omega) (h4 T hT h0 _)
    · exact h4 T hT h0 j
end

set_option maxHeartbeats 4000000 in
set_option maxRecDepth 100000 in
theorem mt_relax (G : mx_G) (I : mx_I) (m : Nat) (hs : oMD G m) (L : Nat) (nx f : Nat → Nat) (h11 : I m 11 = nI L) (hL : L ≤ 20) (hnx : ∀ s, s ≤ L → I (m + 8) s = nI (nx s)) (har0 : arN I (m + 17) f 168) (hF : ∀ j, f j ≤ 100000000) (a b by9 co : Nat) (ha : a < 8) (hb : b < 8) (hby : by9 < 2 ^ 31) (hco : co ≤ 10000) : mx_CTi yX10_relax mX10_relax 1 [.ref m, .int (nI a), .int (nI b), .int (nI by9), .int (nI co)] G I (fun rv I1 => ∃ (nb : Bool) (f1 : Nat → Nat), rv = some (.int (mx_b (decide (nb = true)))) ∧ rxR nx by9 co a b L f f1 nb (fun _ _ => True) ∧ arN I1 (m + 17) f1 168 ∧ (∀ b9 k, b9 ≠ m + 17 → I1 b9 k = I b9 k)) := by
  refine mx_start (k := 4) (by decide) rfl rfl (fun h => nomatch h) (Nat.le_of_ble_eq_true rfl) ?_
  show mx_V mX10_relax mx_S0 1 0 0 0 [some (.ref m), some (.int (nI a)), some (.int (nI b)), some (.int (nI by9)), some (.int (nI co)), none, none, none, none] [] G I (fun rv Gz Iz => (fun rv I1 => ∃ (nb : Bool) (f1 : Nat → Nat), rv = some (.int (mx_b (decide (nb = true)))) ∧ rxR nx by9 co a b L f f1 nb (fun _ _ => True) ∧ arN I1 (m + 17) f1 168 ∧ (∀ b9 k, b9 ≠ m + 17 → I1 b9 k = I b9 k)) rv Iz ∧ Gz = G) (fun _ _ _ => False)
  obtain ⟨tgm, -, -, -, -, -, -, -, ⟨r_next, t_next, l_next⟩, -, -, -, -, -, -, -, -, ⟨r_far, t_far, l_far⟩, -⟩ := hs
  have L6 : ∀ (fq : Nat) (s : Nat) (nb : Bool) (f1 : Nat → Nat) (I1 : mx_I), L + 1 - s < fq → (s ≤ L + 1) → (rxR nx by9 co a b L f f1 nb (fun x _ => x < s)) → (arN I1 (m + 17) f1 168) → (∀ b9 k, b9 ≠ m + 17 → I1 b9 k = I b9 k) → mx_V mX10_relax mx_S0 1 0 0 6 [some (.ref m), some (.int (nI a)), some (.int (nI b)), some (.int (nI by9)), some (.int (nI co)), some (.int (mx_b (decide (nb = true)))), some (.int (nI s)), none, none] [] G I1 (fun rv Gz Iz => (fun rv I1 => ∃ (nb : Bool) (f1 : Nat → Nat), rv = some (.int (mx_b (decide (nb = true)))) ∧ rxR nx by9 co a b L f f1 nb (fun _ _ => True) ∧ arN I1 (m + 17) f1 168 ∧ (∀ b9 k, b9 ≠ m + 17 → I1 b9 k = I b9 k)) rv Iz ∧ Gz = G) (fun _ _ _ => False) := by
    intro fq
    induction fq with
    | zero => intro s nb f1 I1 hfu; exact absurd hfu (Nat.not_lt_zero _)
    | succ fq ih =>
      intro s nb f1 I1 hfu hs hr har eo
      have L29 : ∀ (fq : Nat) (t : Nat) (nb : Bool) (f1 : Nat → Nat) (I1 : mx_I), L + 1 - t < fq → (1 ≤ t) → (t ≤ L + 1) → (s ≤ L) → (rxR nx by9 co a b L f f1 nb (fun x y => x < s ∨ (x = s ∧ y < t))) → (arN I1 (m + 17) f1 168) → (∀ b9 k, b9 ≠ m + 17 → I1 b9 k = I b9 k) → mx_V mX10_relax mx_S0 1 0 0 29 [some (.ref m), some (.int (nI a)), some (.int (nI b)), some (.int (nI by9)), some (.int (nI co)), some (.int (mx_b (decide (nb = true)))), some (.int (nI s)), some (.int (nI (nx s &&& by9))), some (.int (nI t))] [] G I1 (fun rv Gz Iz => (fun rv I1 => ∃ (nb : Bool) (f1 : Nat → Nat), rv = some (.int (mx_b (decide (nb = true)))) ∧ rxR nx by9 co a b L f f1 nb (fun _ _ => True) ∧ arN I1 (m + 17) f1 168 ∧ (∀ b9 k, b9 ≠ m + 17 → I1 b9 k = I b9 k)) rv Iz ∧ Gz = G) (fun _ _ _ => False) := by
        intro fq
        induction fq with
        | zero => intro t nb f1 I1 hfu; exact absurd hfu (Nat.not_lt_zero _)
        | succ fq ih2 =>
          intro t nb f1 I1 hfu ht1 ht2 hsl hr har eo
          refine mx_iload (i := 8) (hl := rfl) (hd := dX10_relax_29) ?_
          refine mx_aload_n (i := 0) (hi := rfl) (hl := rfl) (hd := dX10_relax_31) ?_
          refine mx_getV (ci := 10) (k := 11) (nI L) dX10_relax_32 k_1024 (by decide) rfl (by assumption) (by rw [eo _ _ (by omega)]; exact h11) ?_
          refine mx_cmpN_gt 120 dX10_relax_35 (by decide) (by omega) (by omega) (fun c35 => ?_) (fun c35 => ?_)
          · skip
            refine mx_iincE (i := 6) (ls' := [some (.ref m), some (.int (nI a)), some (.int (nI b)), some (.int (nI by9)), some (.int (nI co)), some (.int (mx_b (decide (nb = true)))), some (.int (nI (s + 1))), some (.int (nI (nx s &&& by9))), some (.int (nI t))]) 1 dX10_relax_120 rfl (by decide) (by decide) rfl rfl ?_
            refine mx_goto (tgt := 6) dX10_relax_123 (by decide) ?_
            refine mx_leS (ls' := [some (.ref m), some (.int (nI a)), some (.int (nI b)), some (.int (nI by9)), some (.int (nI co)), some (.int (mx_b (decide (nb = true)))), some (.int (nI (s + 1))), none, none]) ⟨rfl, rfl, rfl, rfl, rfl, rfl, rfl, trivial⟩ ?_
            exact ih (s + 1) _ _ _ (by omega) (by omega) (hr.wk (fun x y d _ q1 q2 q3 => by
              by_cases e : x = s
              · first | exact Or.inr ⟨e, by omega⟩ | exact absurd q3 (by unfold rxB; rw [e, c40, Nat.zero_testBit]; exact Bool.noConfusion)
              · exact Or.inl (by omega))) har eo
          · skip
            refine mx_iload (i := 7) (hl := rfl) (hd := dX10_relax_38) ?_
            refine mx_ifN_eq 120 dX10_relax_40 (by decide) (Nat.lt_of_le_of_lt Nat.and_le_right hby) (fun c40 => ?_) (fun c40 => ?_)
            · skip
              refine mx_iincE (i := 6) (ls' := [some (.ref m), some (.int (nI a)), some (.int (nI b)), some (.int (nI by9)), some (.int (nI co)), some (.int (mx_b (decide (nb = true)))), some (.int (nI (s + 1))), some (.int (nI (nx s &&& by9))), some (.int (nI t))]) 1 dX10_relax_120 rfl (by decide) (by decide) rfl rfl ?_
              refine mx_goto (tgt := 6) dX10_relax_123 (by decide) ?_
              refine mx_leS (ls' := [some (.ref m), some (.int (nI a)), some (.int (nI b)), some (.int (nI by9)), some (.int (nI co)), some (.int (mx_b (decide (nb = true)))), some (.int (nI (s + 1))), none, none]) ⟨rfl, rfl, rfl, rfl, rfl, rfl, rfl, trivial⟩ ?_
              exact ih (s + 1) _ _ _ (by omega) (by omega) (hr.wk (fun x y d _ q1 q2 q3 => by
                by_cases e : x = s
                · first | exact Or.inr ⟨e, by omega⟩ | exact absurd q3 (by unfold rxB; rw [e, c40, Nat.zero_testBit]; exact Bool.noConfusion)
                · exact Or.inl (by omega))) har eo
            · skip
              refine mx_iload (i := 7) (hl := rfl) (hd := dX10_relax_43) ?_
              refine mx_iload (i := 8) (hl := rfl) (hd := dX10_relax_45) ?_
              refine mx_ishrN dX10_relax_47 (Nat.lt_of_le_of_lt Nat.and_le_right hby) (by omega) ?_
              refine mx_iconstN 1 dX10_relax_48 (by decide) ?_
              refine mx_iandN dX10_relax_49 ?_
              refine mx_top (mx_bit _ _) ?_
              refine mx_iconstN 1 dX10_relax_50 (by decide) ?_
              refine mx_icmp_ne (tgt := 114) dX10_relax_51 (by decide) (fun c51 => ?_) (fun c51 => ?_)
              · skip
                have d51 : ¬ rxB nx by9 s t := fun q => c51 (mx_bT q).symm
                refine mx_iincE (i := 8) (ls' := [some (.ref m), some (.int (nI a)), some (.int (nI b)), some (.int (nI by9)), some (.int (nI co)), some (.int (mx_b (decide (nb = true)))), some (.int (nI s)), some (.int (nI (nx s &&& by9))), some (.int (nI (t + 1)))]) 1 dX10_relax_114 rfl (by decide) (by decide) rfl rfl ?_
                refine mx_goto (tgt := 29) dX10_relax_117 (by decide) ?_
                exact ih2 (t + 1) _ _ _ (by omega) (by omega) (by omega) hsl (by first | exact hr.no d51 | exact hr.ge (by omega)) har eo
              · skip
                have d51 : rxB nx by9 s t := mx_b1 c51
                refine mx_aload_n (i := 0) (hi := rfl) (hl := rfl) (hd := dX10_relax_54) ?_
                refine mx_getR (ci := 10) (k := 24) (r := (m + 17)) dX10_relax_55 k_1037 (by decide) rfl (by assumption) (by assumption) (by omega) ?_
                refine mx_bipushN 21 dX10_relax_58 (by decide) ?_
                refine mx_iload_n (i := 2) (hi := rfl) (hl := rfl) (hd := dX10_relax_60) ?_
                refine mx_imulN dX10_relax_61 ?_
                refine mx_iload (i := 8) (hl := rfl) (hd := dX10_relax_62) ?_
                refine mx_iaddN dX10_relax_64 ?_
                refine mx_ialdV ((21 * b) + t) (nI (f1 ((21 * b) + t))) dX10_relax_65 (by assumption) ⟨rfl, by omega, by omega⟩ (har ((21 * b) + t) (by omega)) ?_
                refine mx_iload (i := 4) (hl := rfl) (hd := dX10_relax_66) ?_
                refine mx_iaddN dX10_relax_68 ?_
                refine mx_aload_n (i := 0) (hi := rfl) (hl := rfl) (hd := dX10_relax_69) ?_
                refine mx_getR (ci := 10) (k := 24) (r := (m + 17)) dX10_relax_70 k_1037 (by decide) rfl (by assumption) (by assumption) (by omega) ?_
                refine mx_bipushN 21 dX10_relax_73 (by decide) ?_
                refine mx_iload_n (i := 1) (hi := rfl) (hl := rfl) (hd := dX10_relax_75) ?_
                refine mx_imulN dX10_relax_76 ?_
                refine mx_iload (i := 6) (hl := rfl) (hd := dX10_relax_77) ?_
                refine mx_iaddN dX10_relax_79 ?_
                refine mx_ialdV ((21 * a) + s) (nI (f1 ((21 * a) + s))) dX10_relax_80 (by assumption) ⟨rfl, by omega, by omega⟩ (har ((21 * a) + s) (by omega)) ?_
                refine mx_cmpN_ge 114 dX10_relax_81 (by decide) (by have := hr.1 (21 * b + t); have := hF (21 * b + t); omega) (by have := hr.1 (21 * a + s); have := hF (21 * a + s); omega) (fun c81 => ?_) (fun c81 => ?_)
                · skip
                  refine mx_iincE (i := 8) (ls' := [some (.ref m), some (.int (nI a)), some (.int (nI b)), some (.int (nI by9)), some (.int (nI co)), some (.int (mx_b (decide (nb = true)))), some (.int (nI s)), some (.int (nI (nx s &&& by9))), some (.int (nI (t + 1)))]) 1 dX10_relax_114 rfl (by decide) (by decide) rfl rfl ?_
                  refine mx_goto (tgt := 29) dX10_relax_117 (by decide) ?_
                  exact ih2 (t + 1) _ _ _ (by omega) (by omega) (by omega) hsl (by first | exact hr.no d51 | exact hr.ge (by omega)) har eo
                · skip
                  refine mx_aload_n (i := 0) (hi := rfl) (hl := rfl) (hd := dX10_relax_84) ?_
                  refine mx_getR (ci := 10) (k := 24) (r := (m + 17)) dX10_relax_85 k_1037 (by decide) rfl (by assumption) (by assumption) (by omega) ?_
                  refine mx_bipushN 21 dX10_relax_88 (by decide) ?_
                  refine mx_iload_n (i := 1) (hi := rfl) (hl := rfl) (hd := dX10_relax_90) ?_
                  refine mx_imulN dX10_relax_91 ?_
                  refine mx_iload (i := 6) (hl := rfl) (hd := dX10_relax_92) ?_
                  refine mx_iaddN dX10_relax_94 ?_
                  refine mx_aload_n (i := 0) (hi := rfl) (hl := rfl) (hd := dX10_relax_95) ?_
                  refine mx_getR (ci := 10) (k := 24) (r := (m + 17)) dX10_relax_96 k_1037 (by decide) rfl (by assumption) (by assumption) (by omega) ?_
                  refine mx_bipushN 21 dX10_relax_99 (by decide) ?_
                  refine mx_iload_n (i := 2) (hi := rfl) (hl := rfl) (hd := dX10_relax_101) ?_
                  refine mx_imulN dX10_relax_102 ?_
                  refine mx_iload (i := 8) (hl := rfl) (hd := dX10_relax_103) ?_
                  refine mx_iaddN dX10_relax_105 ?_
                  refine mx_ialdV ((21 * b) + t) (nI (f1 ((21 * b) + t))) dX10_relax_106 (by assumption) ⟨rfl, by omega, by omega⟩ (har ((21 * b) + t) (by omega)) ?_
                  refine mx_iload (i := 4) (hl := rfl) (hd := dX10_relax_107) ?_
                  refine mx_iaddN dX10_relax_109 ?_
                  refine mx_iast ((21 * a) + s) dX10_relax_110 (by assumption) ⟨rfl, by omega, by omega⟩ ?_
                  refine mx_iconstN 1 dX10_relax_111 (by decide) ?_
                  refine mx_istoreE (i := 5) (ls' := [some (.ref m), some (.int (nI a)), some (.int (nI b)), some (.int (nI by9)), some (.int (nI co)), some (.int (nI 1)), some (.int (nI s)), some (.int (nI (nx s &&& by9))), some (.int (nI t))]) (hd := dX10_relax_112) (hn := by decide) (hok := rfl) (hls := rfl) ?_
                  refine mx_iincE (i := 8) (ls' := [some (.ref m), some (.int (nI a)), some (.int (nI b)), some (.int (nI by9)), some (.int (nI co)), some (.int (nI 1)), some (.int (nI s)), some (.int (nI (nx s &&& by9))), some (.int (nI (t + 1)))]) 1 dX10_relax_114 rfl (by decide) (by decide) rfl rfl ?_
                  refine mx_goto (tgt := 29) dX10_relax_117 (by decide) ?_
                  exact ih2 (t + 1) true _ _ (by omega) (by omega) (by omega) hsl (hr.up hsl (by omega) hL ha d51 (by omega) hF) har.u (fun b9 k q => by rw [mx_u_at, if_neg (fun z => q z.1)]; exact eo b9 k q)
      refine mx_iload (i := 6) (hl := rfl) (hd := dX10_relax_6) ?_
      refine mx_aload_n (i := 0) (hi := rfl) (hl := rfl) (hd := dX10_relax_8) ?_
      refine mx_getV (ci := 10) (k := 11) (nI L) dX10_relax_9 k_1024 (by decide) rfl (by assumption) (by rw [eo _ _ (by omega)]; exact h11) ?_
      refine mx_cmpN_gt 126 dX10_relax_12 (by decide) (by omega) (by omega) (fun c12 => ?_) (fun c12 => ?_)
      · skip
        refine mx_iload (i := 5) (hl := rfl) (hd := dX10_relax_126) ?_
        exact mx_iret dX10_relax_128 rfl (mx_b_nz _) (⟨⟨nb, f1, rfl, hr.wk (fun x y _ q _ _ _ => by omega), har, eo⟩, rfl⟩)
      · skip
        refine mx_aload_n (i := 0) (hi := rfl) (hl := rfl) (hd := dX10_relax_15) ?_
        refine mx_getR (ci := 10) (k := 15) (r := (m + 8)) dX10_relax_16 k_1028 (by decide) rfl (by assumption) (by assumption) (by omega) ?_
        refine mx_iload (i := 6) (hl := rfl) (hd := dX10_relax_19) ?_
        refine mx_ialdV s (nI (nx s)) dX10_relax_21 (by assumption) ⟨rfl, by omega, by omega⟩ (by rw [eo _ _ (by omega)]; exact hnx s (by omega)) ?_
        refine mx_iload_n (i := 3) (hi := rfl) (hl := rfl) (hd := dX10_relax_22) ?_
        refine mx_iandN dX10_relax_23 ?_
        refine mx_istoreE (i := 7) (ls' := [some (.ref m), some (.int (nI a)), some (.int (nI b)), some (.int (nI by9)), some (.int (nI co)), some (.int (mx_b (decide (nb = true)))), some (.int (nI s)), some (.int (nI ((nx s) &&& by9))), none]) (hd := dX10_relax_24) (hn := by decide) (hok := rfl) (hls := rfl) ?_
        refine mx_iconstN 1 dX10_relax_26 (by decide) ?_
        refine mx_istoreE (i := 8) (ls' := [some (.ref m), some (.int (nI a)), some (.int (nI b)), some (.int (nI by9)), some (.int (nI co)), some (.int (mx_b (decide (nb = true)))), some (.int (nI s)), some (.int (nI ((nx s) &&& by9))), some (.int (nI 1))]) (hd := dX10_relax_27) (hn := by decide) (hok := rfl) (hls := rfl) ?_
        exact L29 _ 1 _ _ _ (Nat.lt_succ_self _) (Nat.le_refl _) (by omega) (by omega) (hr.wk (fun x y d _ _ _ _ => d.elim id (fun q => absurd q.2 (by omega)))) har eo
  refine mx_iconstN 0 dX10_relax_0 (by decide) ?_
  refine mx_istoreE (i := 5) (ls' := [some (.ref m), some (.int (nI a)), some (.int (nI b)), some (.int (nI by9)), some (.int (nI co)), some (.int (nI 0)), none, none, none]) (hd := dX10_relax_1) (hn := by decide) (hok := rfl) (hls := rfl) ?_
  refine mx_iconstN 0 dX10_relax_3 (by decide) ?_
  refine mx_istoreE (i := 6) (ls' := [some (.ref m), some (.int (nI a)), some (.int (nI b)), some (.int (nI by9)), some (.int (nI co)), some (.int (nI 0)), some (.int (nI 0)), none, none]) (hd := dX10_relax_4) (hn := by decide) (hok := rfl) (hls := rfl) ?_
  exact L6 _ 0 false f _ (Nat.lt_succ_self _) (Nat.zero_le _) (rxR.rf.wk (fun x y d _ _ _ _ => absurd d (Nat.not_lt_zero _))) har0 (fun _ _ _ => rfl)

/-- the first table -/
def tgF (A : Pa) (q s : Nat) : Nat → Nat := fun j => if 21 * q ≤ j ∧ j < 21 * q + s ∧ (pAc A).testBit (j - 21 * q) = true then 0 else 100000000
theorem tgF_st (A : Pa) (q s j : Nat) : (if j = 21 * q + s then (if (pAc A).testBit s = true then 0 else 100000000) else tgF A q s j) = tgF A q (s + 1) j := by
  unfold tgF
  by_cases e : j = 21 * q + s
  · subst e
    rw [if_pos rfl, show 21 * q + s - 21 * q = s by omega]
    by_cases c : (pAc A).testBit s = true
    · rw [if_pos c, if_pos ⟨by omega, by omega, c⟩]
    · rw [if_neg c, if_neg (fun z => c z.2.2)]
  · rw [if_neg e]
    by_cases c : 21 * q ≤ j ∧ j < 21 * q + s ∧ (pAc A).testBit (j - 21 * q) = true
    · rw [if_pos c, if_pos ⟨c.1, by omega, c.2.2⟩]
    · rw [if_neg c, if_neg (fun z => c ⟨z.1, by omega, z.2.2⟩)]
/-- sound, and right at the target -/
def lfF (v : Gr) (A : Pa) (pr : Nat → Nat) (q : Nat) (f : Nat → Nat) : Prop := (∀ j, f j ≤ 100000000) ∧ (∀ a i, a < 8 → i < 21 → tgA A q a i → f (21 * a + i) = 0) ∧ (∀ a i, a < 8 → i < 21 → f (21 * a + i) < 100000000 → ∃ n c, fR v A pr (tgA A q) n c a i ∧ f (21 * a + i) = 1000 * c + n)
/-- closed for the steps below n -/
def lfC (v : Gr) (A : Pa) (pr : Nat → Nat) (f : Nat → Nat) (n : Nat) : Prop := ∀ s, s < n → 0 < pr s → ∀ i j, i ≤ pL A → 1 ≤ j → j ≤ pL A → ((pA A i &&& pEn A 0 (gK v s)).testBit j = true → f (21 * gF v s + i) ≤ f (21 * gT v s + j) + (1000 * pr s + 1)) ∧ ((pA A i &&& pEn A 1 (gK v s)).testBit j = true → f (21 * gT v s + i) ≤ f (21 * gF v s + j) + (1000 * pr s + 1))
theorem tgF_F {v : Gr} {A : Pa} {pr : Nat → Nat} {q : Nat} (hA : auP A) (hq : q < 8) : lfF v A pr q (tgF A q (pL A + 1)) := by
  refine ⟨fun j => by unfold tgF; split <;> omega, fun a i ha hi ht => ?_, fun a i ha hi h => ?_⟩
  · have := hA.2.2.2.2.2 i ht.2
    unfold tgF
    have e := ht.1
    subst e
    rw [if_pos ⟨by omega, by omega, by rw [show 21 * a + i - 21 * a = i by omega]; exact ht.2⟩]
  · unfold tgF at h ⊢
    by_cases c : 21 * q ≤ 21 * a + i ∧ 21 * a + i < 21 * q + (pL A + 1) ∧ (pAc A).testBit (21 * a + i - 21 * q) = true
    · have hL := hA.1
      have e : a = q := by omega
      subst e
      rw [if_pos c]
      rw [show 21 * a + i - 21 * a = i by omega] at c
      exact ⟨0, 0, ⟨rfl, rfl, c.2.2⟩, rfl⟩
    · rw [if_neg c] at h; omega
theorem lfF.rx {v : Gr} {A : Pa} {pr : Nat → Nat} {q s a b d : Nat} {f f1 : Nat → Nat} {nb : Bool} {D : Nat → Nat → Prop} (h : lfF v A pr q f) (hA : auP A) (hs : s < gN v) (hp : 0 < pr s) (hd : (d = 0 ∧ gF v s = a ∧ gT v s = b) ∨ (d = 1 ∧ gT v s = a ∧ gF v s = b)) (ha : a < 8) (hb : b < 8) (r : rxR (pA A) (pEn A d (gK v s)) (1000 * pr s + 1) a b (pL A) f f1 nb D) : lfF v A pr q f1 := by
  obtain ⟨h1, h2, h3⟩ := h
  obtain ⟨r1, r2, r3, r4⟩ := r
  have hL := hA.1
  refine ⟨fun j => Nat.le_trans (r1 j) (h1 j), fun x i hx hi ht => by have := r1 (21 * x + i); have := h2 x i hx hi ht; omega, fun x i hx hi => ?_⟩
  have h4 := r4 (fun j y => ∀ x i, x < 8 → i < 21 → j = 21 * x + i → y < 100000000 → ∃ n c, fR v A pr (tgA A q) n c x i ∧ y = 1000 * c + n) (fun s' t' y q1 q2 q3 q4 q5 x i hx hi e hy => by
    have e1 : x = a := by omega
    have e2 : i = s' := by omega
    subst e1; subst e2
    obtain ⟨n, c, q6, q7⟩ := q5 b t' hb (by omega) rfl (by omega)
    refine ⟨n + 1, pr s + c, ⟨b, t', pr s, c, rfl, ⟨s, hs, rfl, hp, ?_⟩, q6⟩, by omega⟩
    rcases hd with ⟨d1, d2, d3⟩ | ⟨d1, d2, d3⟩
    · subst d1; exact Or.inl ⟨d2, d3, q3⟩
    · subst d1; exact Or.inr ⟨d2, d3, q3⟩) (fun j x i hx hi e hy => by subst e; exact h3 x i hx hi hy)
  exact h4 (21 * x + i) x i hx hi rfl
theorem mx_b_or (p q : Bool) : mx_b (decide (p = true)) ||| mx_b (decide (q = true)) = mx_b (decide ((p || q) = true)) := by
  cases p <;> cases q <;> decide
/-- a round on the way -/
def lfR (v : Gr) (A : Pa) (pr : Nat → Nat) (f1 f2 : Nat → Nat) (nb : Bool) (s : Nat) : Prop := (nb = false → f2 = f1 ∧ lfC v A pr f1 s) ∧ (nb = true → gSum f2 168 < gSum f1 168)
theorem lfR.st {v : Gr} {A : Pa} {pr : Nat → Nat} {f1 f2 f3 f4 : Nat → Nat} {nb n2 n3 : Bool} {s : Nat} {D : Nat → Nat → Prop} (h : lfR v A pr f1 f2 nb s) (r1 : rxR (pA A) (pEn A 0 (gK v s)) (1000 * pr s + 1) (gF v s) (gT v s) (pL A) f2 f3 n2 (fun _ _ => True)) (r2 : rxR (pA A) (pEn A 1 (gK v s)) (1000 * pr s + 1) (gT v s) (gF v s) (pL A) f3 f4 n3 (fun _ _ => True)) : lfR v A pr f1 f4 ((nb || n2) || n3) (s + 1) := by
  obtain ⟨h1, h2⟩ := h
  have l1 : gSum f3 168 ≤ gSum f2 168 := gSum_le r1.1 168
  have l2 : gSum f4 168 ≤ gSum f3 168 := gSum_le r2.1 168
  have l0 : gSum f2 168 ≤ gSum f1 168 := by
    cases nb with
    | false => rw [(h1 rfl).1]; exact Nat.le_refl _
    | true => exact Nat.le_of_lt (h2 rfl)
  refine ⟨fun q => ?_, fun q => ?_⟩
  · have q1 : nb = false := by cases nb <;> simp_all
    have q2 : n2 = false := by cases n2 <;> simp_all
    have q3 : n3 = false := by cases n3 <;> simp_all
    obtain ⟨a1, a2⟩ := h1 q1
    obtain ⟨b1, b2⟩ := r1.2.1 q2
    obtain ⟨c1, c2⟩ := r2.2.1 q3
    refine ⟨by rw [c1, b1, a1], fun t ht hp i j hi hj hj2 => ?_⟩
    by_cases e : t = s
    · subst e
      rw [a1] at b1 b2
      rw [b1] at c2
      exact ⟨fun z => b2 i j trivial hi hj hj2 z, fun z => c2 i j trivial hi hj hj2 z⟩
    · exact a2 t (by omega) hp i j hi hj hj2
  · cases n3 with
    | true => have := r2.2.2.1 rfl; omega
    | false =>
      cases n2 with
      | true => have := r1.2.2.1 rfl; omega
      | false =>
        cases nb with
        | true => have := h2 rfl; omega
        | false => cases q
theorem lfR.no {v : Gr} {A : Pa} {pr : Nat → Nat} {f1 f2 : Nat → Nat} {nb : Bool} {s : Nat} (h : lfR v A pr f1 f2 nb s) (hp : ¬ 0 < pr s) : lfR v A pr f1 f2 nb (s + 1) := ⟨fun q => ⟨(h.1 q).1, fun t ht hq => by
    by_cases e : t = s
    · subst e; exact absurd hq hp
    · exact (h.1 q).2 t (by omega) hq⟩, h.2⟩
def ms9 (nb : Bool) (f : Nat → Nat) : Nat := if nb = true then gSum f 168 + 1 else 0
theorem ms9_lt {nb n2 : Bool} {f1 f2 : Nat → Nat} {k : Nat} (h1 : nb = true) (h2 : n2 = true → gSum f2 168 < gSum f1 168) (h : ms9 nb f1 < k + 1) : ms9 n2 f2 < k := by
  unfold ms9 at h ⊢
  rw [if_pos h1] at h
  split
  · next q => have := h2 q; omega
  · omega
theorem lf_end {v : Gr} {A : Pa} {pr : Nat → Nat} {q : Nat} {f : Nat → Nat} (hv : wfG v) (hw : wfP A) (hA : auP A) (hpr : ∀ s, s < gN v → pr s ≤ 9) (h : lfF v A pr q f) (hC : lfC v A pr f (gN v)) {a i : Nat} (ha : a < 8) (hi : i < 21) : f (21 * a + i) = enc 1000 100000000 (bR v A pr (tgA A q) a i) := by
  refine tab_eq (U := 1000) (X := 100000000) (f := fun a i => f (21 * a + i)) hv hw hpr (by decide) (by decide) h.2.1 (fun a i b j c _ hi he _ => ?_) ha hi (h.1 _) (h.2.2 a i ha hi)
  obtain ⟨s, hs, e1, e2, e3⟩ := he
  subst e1
  have hiL : i ≤ pL A := by
    rcases Nat.lt_or_ge (pL A) i with z | z
    · exfalso
      have h0 : pA A i = 0 := hA.2.2.1 i z
      rcases e3 with ⟨-, -, e3⟩ | ⟨-, -, e3⟩ <;> (rw [h0, Nat.zero_and, Nat.zero_testBit] at e3; cases e3)
    · exact z
  rcases e3 with ⟨e4, e5, e6⟩ | ⟨e4, e5, e6⟩
  · have hj : 1 ≤ j ∧ j ≤ pL A := by
      rw [Nat.testBit_and, Bool.and_eq_true] at e6
      exact hA.2.1 i j e6.1
    have := (hC s hs e2 i j hiL hj.1 hj.2).1 e6
    rw [e4, e5] at this
    show f (21 * a + i) ≤ f (21 * b + j) + 1000 * pr s + 1
    omega
  · have hj : 1 ≤ j ∧ j ≤ pL A := by
      rw [Nat.testBit_and, Bool.and_eq_true] at e6
      exact hA.2.1 i j e6.1
    have := (hC s hs e2 i j hiL hj.1 hj.2).2 e6
    rw [e4, e5] at this
    show f (21 * a + i) ≤ f (21 * b + j) + 1000 * pr s + 1
    omega
/-- what layFar leaves as it was -/
def lfI (I I1 : mx_I) (m : Nat) (A : Pa) : Prop := (∀ k, k < 4 → I1 (m + 18) k = nI (pEn A 0 k)) ∧ (∀ k, k < 4 → I1 (m + 19) k = nI (pEn A 1 k)) ∧ ∀ b k, b ≠ m + 17 → b ≠ m + 18 → b ≠ m + 19 → I1 b k = I b k
theorem lfI.u {I I1 : mx_I} {m : Nat} {A : Pa} {j : Nat} {x : Int32} (h : lfI I I1 m A) : lfI I (mx_u I1 (m + 17) j x) m A := ⟨fun k hk => by rw [mx_u_at, if_neg (by omega)]; exact h.1 k hk, fun k hk => by rw [mx_u_at, if_neg (by omega)]; exact h.2.1 k hk, fun b k q1 q2 q3 => by rw [mx_u_at, if_neg (fun z => q1 z.1)]; exact h.2.2 b k q1 q2 q3⟩
theorem lfI.o {I I1 I2 : mx_I} {m : Nat} {A : Pa} (h : lfI I I1 m A) (e : ∀ b k, b ≠ m + 17 → I2 b k = I1 b k) : lfI I I2 m A := ⟨fun k hk => (e _ _ (by omega)).trans (h.1 k hk), fun k hk => (e _ _ (by omega)).trans (h.2.1 k hk), fun b k q1 q2 q3 => (e _ _ q1).trans (h.2.2 b k q1 q2 q3)⟩
theorem lfI.au {I I1 : mx_I} {m : Nat} {A B : Pa} (h : lfI I I1 m B) (a : auN I m A) : auN I1 m A := a.k (fun j _ _ => h.2.2 _ _ (by omega) (by omega) (by omega)) (fun b k _ _ => h.2.2 _ _ (by omega) (by omega) (by omega))

set_option maxHeartbeats 2000000 in
set_option maxRecDepth 100000 in
theorem mt_layFar (G : mx_G) (I : mx_I) (m : Nat) (hs : oMD G m) (A : Pa) (ha : auN I m A) (hA : auP A) (hwp : wfP A) (g : Nat) (v : Gr) (hg34 : g = m + 3 ∨ g = m + 4) (htg : mx_tg G g = 1) (hlg : mx_ln G g = 143) (hg : gaF (I g) v) (pr : Nat → Nat) (hpr9 : ∀ s, s < gN v → pr s ≤ 9) (hprs : ∀ s, s < gN v → I (m + 16) s = nI (pr s)) (q : Nat) (hq : q < 8) : mx_CTi yX10_layFar mX10_layFar 3 [.ref m, .ref g, .int (nI q)] G I (fun rv I1 => rv = none ∧ (∃ fr, arN I1 (m + 17) fr 168 ∧ ∀ a i, a < 8 → i < 21 → fr (21 * a + i) = enc 1000 100000000 (bR v A pr (tgA A q) a i)) ∧ lfI I I1 m A) := by
  refine mx_start (k := 5) (by decide) rfl rfl (fun h => nomatch h) (Nat.le_of_ble_eq_true rfl) ?_
  show mx_V mX10_layFar mx_S0 3 0 0 0 [some (.ref m), some (.ref g), some (.int (nI q)), none, none, none, none, none] [] G I (fun rv Gz Iz => (fun rv I1 => rv = none ∧ (∃ fr, arN I1 (m + 17) fr 168 ∧ ∀ a i, a < 8 → i < 21 → fr (21 * a + i) = enc 1000 100000000 (bR v A pr (tgA A q) a i)) ∧ lfI I I1 m A) rv Iz ∧ Gz = G) (fun _ _ _ => False)
  have hs0 := hs
  have hwv := hg.1
  obtain ⟨hgP, hgN, hgb⟩ := hg.1
  have hL := hA.1
  obtain ⟨tgm, -, -, -, -, -, -, -, -, -, -, -, -, -, -, -, ⟨r_prices, t_prices, l_prices⟩, ⟨r_far, t_far, l_far⟩, ⟨r_on, t_on, l_on⟩, ⟨r_back, t_back, l_back⟩, -⟩ := hs
  have L74 : ∀ (fq : Nat) (nb : Bool) (f1 : Nat → Nat) (I1 : mx_I), ms9 nb f1 < fq → (lfF v A pr q f1) → (nb = false → lfC v A pr f1 (gN v)) → (arN I1 (m + 17) f1 168) → (lfI I I1 m A) → mx_V mX10_layFar mx_S0 3 0 0 74 [some (.ref m), some (.ref g), some (.int (nI q)), some (.int (mx_b (decide (nb = true)))), none, none, none, none] [] G I1 (fun rv Gz Iz => (fun rv I1 => rv = none ∧ (∃ fr, arN I1 (m + 17) fr 168 ∧ ∀ a i, a < 8 → i < 21 → fr (21 * a + i) = enc 1000 100000000 (bR v A pr (tgA A q) a i)) ∧ lfI I I1 m A) rv Iz ∧ Gz = G) (fun _ _ _ => False) := by
    intro fq
    induction fq with
    | zero => intro nb f1 I1 hfu; exact absurd hfu (Nat.not_lt_zero _)
    | succ fq ih =>
      intro nb f1 I1 hfu hF1 hC har hI1
      have hfu9 := hfu
      have L83 : ∀ (fq : Nat) (s : Nat) (n2 : Bool) (f2 : Nat → Nat) (I2 : mx_I), gN v - s < fq → (nb = true) → (s ≤ gN v) → (lfF v A pr q f2) → (lfR v A pr f1 f2 n2 s) → (arN I2 (m + 17) f2 168) → (lfI I I2 m A) → mx_V mX10_layFar mx_S0 3 0 0 83 [some (.ref m), some (.ref g), some (.int (nI q)), some (.int (mx_b (decide (n2 = true)))), some (.int (nI s)), none, none, none] [] G I2 (fun rv Gz Iz => (fun rv I1 => rv = none ∧ (∃ fr, arN I1 (m + 17) fr 168 ∧ ∀ a i, a < 8 → i < 21 → fr (21 * a + i) = enc 1000 100000000 (bR v A pr (tgA A q) a i)) ∧ lfI I I1 m A) rv Iz ∧ Gz = G) (fun _ _ _ => False) := by
        intro fq
        induction fq with
        | zero => intro s n2 f2 I2 hfu; exact absurd hfu (Nat.not_lt_zero _)
        | succ fq ih2 =>
          intro s n2 f2 I2 hfu hnb hs2 hF2 hR har2 hI2
          refine mx_iload (i := 4) (hl := rfl) (hd := dX10_layFar_83) ?_
          refine mx_aload_n (i := 1) (hi := rfl) (hl := rfl) (hd := dX10_layFar_85) ?_
          refine mx_iconstN 1 dX10_layFar_86 (by decide) ?_
          refine mx_ialdV 1 (nI (gN v)) dX10_layFar_87 (by assumption) ⟨rfl, by omega, by omega⟩ (by rw [hI2.2.2 _ _ (by omega) (by omega) (by omega)]; exact hg.2.2.1) ?_
          refine mx_cmpN_ge 200 dX10_layFar_88 (by decide) (by omega) (by omega) (fun c88 => ?_) (fun c88 => ?_)
          · skip
            refine mx_goto (tgt := 74) dX10_layFar_200 (by decide) ?_
            refine mx_leS (ls' := [some (.ref m), some (.ref g), some (.int (nI q)), some (.int (mx_b (decide (n2 = true)))), none, none, none, none]) ⟨rfl, rfl, rfl, rfl, trivial⟩ ?_
            exact ih n2 f2 _ (ms9_lt hnb hR.2 hfu9) hF2 (fun z => by rw [(hR.1 z).1, ← show s = gN v by omega]; exact (hR.1 z).2) har2 hI2
          · skip
            refine mx_aload_n (i := 0) (hi := rfl) (hl := rfl) (hd := dX10_layFar_91) ?_
            refine mx_getR (ci := 10) (k := 23) (r := (m + 16)) dX10_layFar_92 k_1036 (by decide) rfl (by assumption) (by assumption) (by omega) ?_
            refine mx_iload (i := 4) (hl := rfl) (hd := dX10_layFar_95) ?_
            refine mx_ialdV s (nI (pr s)) dX10_layFar_97 (by assumption) ⟨rfl, by omega, by omega⟩ (by rw [hI2.2.2 _ _ (by omega) (by omega) (by omega)]; exact hprs s (by omega)) ?_
            refine mx_ifN_le 194 dX10_layFar_98 (by decide) (by have := hpr9 s (by omega); omega) (fun c98 => ?_) (fun c98 => ?_)
            · skip
              refine mx_iincE (i := 4) (ls' := [some (.ref m), some (.ref g), some (.int (nI q)), some (.int (mx_b (decide (n2 = true)))), some (.int (nI (s + 1))), none, none, none]) 1 dX10_layFar_194 rfl (by decide) (by decide) rfl rfl ?_
              refine mx_goto (tgt := 83) dX10_layFar_197 (by decide) ?_
              exact ih2 (s + 1) n2 f2 _ (by omega) hnb (by omega) hF2 (hR.no (by omega)) har2 hI2
            · skip
              have hgs := hgb s (by omega)
              have hp9 := hpr9 s (by omega)
              refine mx_aload_n (i := 1) (hi := rfl) (hl := rfl) (hd := dX10_layFar_101) ?_
              refine mx_iload (i := 4) (hl := rfl) (hd := dX10_layFar_102) ?_
              refine mx_callSp (As := [.int (nI s)]) (rest := [.ref g]) dX10_layFar_104 (mt_at G I2 s) km_X10_at rfl k_1180 k_1181 rfl rfl (Nat.le_of_ble_eq_true rfl) (by decide) ?_
              refine mx_ialdV (3 + 4 * s) (nI (gF v s)) dX10_layFar_107 (by assumption) ⟨rfl, by omega, by omega⟩ (by rw [hI2.2.2 _ _ (by omega) (by omega) (by omega)]; exact (hg.2.2.2 s (by omega)).1) ?_
              refine mx_istoreE (i := 5) (ls' := [some (.ref m), some (.ref g), some (.int (nI q)), some (.int (mx_b (decide (n2 = true)))), some (.int (nI s)), some (.int (nI (gF v s))), none, none]) (hd := dX10_layFar_108) (hn := by decide) (hok := rfl) (hls := rfl) ?_
              refine mx_aload_n (i := 1) (hi := rfl) (hl := rfl) (hd := dX10_layFar_110) ?_
              refine mx_iload (i := 4) (hl := rfl) (hd := dX10_layFar_111) ?_
              refine mx_callSp (As := [.int (nI s)]) (rest := [.ref g]) dX10_layFar_113 (mt_at G I2 s) km_X10_at rfl k_1180 k_1181 rfl rfl (Nat.le_of_ble_eq_true rfl) (by decide) ?_
              refine mx_iconstN 2 dX10_layFar_116 (by decide) ?_
              refine mx_iaddN dX10_layFar_117 ?_
              refine mx_ialdV ((3 + 4 * s) + 2) (nI (gT v s)) dX10_layFar_118 (by assumption) ⟨rfl, by omega, by omega⟩ (by rw [hI2.2.2 _ _ (by omega) (by omega) (by omega)]; exact (hg.2.2.2 s (by omega)).2.2.1) ?_
              refine mx_istoreE (i := 6) (ls' := [some (.ref m), some (.ref g), some (.int (nI q)), some (.int (mx_b (decide (n2 = true)))), some (.int (nI s)), some (.int (nI (gF v s))), some (.int (nI (gT v s))), none]) (hd := dX10_layFar_119) (hn := by decide) (hok := rfl) (hls := rfl) ?_
              refine mx_aload_n (i := 1) (hi := rfl) (hl := rfl) (hd := dX10_layFar_121) ?_
              refine mx_iload (i := 4) (hl := rfl) (hd := dX10_layFar_122) ?_
              refine mx_callSp (As := [.int (nI s)]) (rest := [.ref g]) dX10_layFar_124 (mt_at G I2 s) km_X10_at rfl k_1180 k_1181 rfl rfl (Nat.le_of_ble_eq_true rfl) (by decide) ?_
              refine mx_iconstN 1 dX10_layFar_127 (by decide) ?_
              refine mx_iaddN dX10_layFar_128 ?_
              refine mx_ialdV ((3 + 4 * s) + 1) (nI (gK v s)) dX10_layFar_129 (by assumption) ⟨rfl, by omega, by omega⟩ (by rw [hI2.2.2 _ _ (by omega) (by omega) (by omega)]; exact (hg.2.2.2 s (by omega)).2.1) ?_
              refine mx_istoreE (i := 7) (ls' := [some (.ref m), some (.ref g), some (.int (nI q)), some (.int (mx_b (decide (n2 = true)))), some (.int (nI s)), some (.int (nI (gF v s))), some (.int (nI (gT v s))), some (.int (nI (gK v s)))]) (hd := dX10_layFar_130) (hn := by decide) (hok := rfl) (hls := rfl) ?_
              refine mx_iload_n (i := 3) (hi := rfl) (hl := rfl) (hd := dX10_layFar_132) ?_
              refine mx_aload_n (i := 0) (hi := rfl) (hl := rfl) (hd := dX10_layFar_133) ?_
              refine mx_iload (i := 5) (hl := rfl) (hd := dX10_layFar_134) ?_
              refine mx_iload (i := 6) (hl := rfl) (hd := dX10_layFar_136) ?_
              refine mx_aload_n (i := 0) (hi := rfl) (hl := rfl) (hd := dX10_layFar_138) ?_
              refine mx_getR (ci := 10) (k := 25) (r := (m + 18)) dX10_layFar_139 k_1038 (by decide) rfl (by assumption) (by assumption) (by omega) ?_
              refine mx_iload (i := 7) (hl := rfl) (hd := dX10_layFar_142) ?_
              refine mx_ialdV (gK v s) (nI (pEn A 0 (gK v s))) dX10_layFar_144 (by assumption) ⟨rfl, by omega, by omega⟩ (hI2.1 (gK v s) (by omega)) ?_
              refine mx_sipushN 1000 dX10_layFar_145 (by decide) ?_
              refine mx_aload_n (i := 0) (hi := rfl) (hl := rfl) (hd := dX10_layFar_148) ?_
              refine mx_getR (ci := 10) (k := 23) (r := (m + 16)) dX10_layFar_149 k_1036 (by decide) rfl (by assumption) (by assumption) (by omega) ?_
              refine mx_iload (i := 4) (hl := rfl) (hd := dX10_layFar_152) ?_
              refine mx_ialdV s (nI (pr s)) dX10_layFar_154 (by assumption) ⟨rfl, by omega, by omega⟩ (by rw [hI2.2.2 _ _ (by omega) (by omega) (by omega)]; exact hprs s (by omega)) ?_
              refine mx_imulN dX10_layFar_155 ?_
              refine mx_iconstN 1 dX10_layFar_156 (by decide) ?_
              refine mx_iaddN dX10_layFar_157 ?_
              refine mx_callVi (ci := 10) (As := [.int (nI (gF v s)), .int (nI (gT v s)), .int (nI (pEn A 0 (gK v s))), .int (nI ((1000 * (pr s)) + 1))]) (rest := [.int (mx_b (decide (n2 = true)))]) dX10_layFar_158 (mt_relax G I2 m hs0 (pL A) (pA A) f2 (by rw [hI2.2.2 _ _ (by omega) (by omega) (by omega)]; exact ha.1) hA.1 (fun s hs => (hI2.au ha).2.2.1 s hs) har2 hF2.1 (gF v s) (gT v s) (pEn A 0 (gK v s)) (1000 * pr s + 1) (by omega) (by omega) (Nat.lt_trans (inB21 (enB hA 0 _) hA.1) (by decide)) (by omega)) km_X10_relax rfl k_1227 k_1229 k_46 (by assumption) rfl rfl (Nat.le_of_ble_eq_true rfl) (by decide) (fun r1 I3 h2 => ?_)
              obtain ⟨n3, f3, e9, rr_f3, ar_f3, eo_f3⟩ := h2
              subst e9
              have lf_f3 := hI2.o eo_f3
              have hF3 := hF2.rx hA (by omega) (by omega) (Or.inl ⟨rfl, rfl, rfl⟩) (by omega) (by omega) rr_f3
              refine mx_ior dX10_layFar_161 ?_
              refine mx_top (y := mx_b (decide ((n2 || n3) = true))) (mx_b_or _ _) ?_
              refine mx_istoreE_n (i := 3) (ls' := [some (.ref m), some (.ref g), some (.int (nI q)), some (.int (mx_b (decide ((n2 || n3) = true)))), some (.int (nI s)), some (.int (nI (gF v s))), some (.int (nI (gT v s))), some (.int (nI (gK v s)))]) (hi := rfl) (hd := dX10_layFar_162) (hn := by decide) (hok := rfl) (hls := rfl) ?_
              refine mx_iload_n (i := 3) (hi := rfl) (hl := rfl) (hd := dX10_layFar_163) ?_
              refine mx_aload_n (i := 0) (hi := rfl) (hl := rfl) (hd := dX10_layFar_164) ?_
              refine mx_iload (i := 6) (hl := rfl) (hd := dX10_layFar_165) ?_
              refine mx_iload (i := 5) (hl := rfl) (hd := dX10_layFar_167) ?_
              refine mx_aload_n (i := 0) (hi := rfl) (hl := rfl) (hd := dX10_layFar_169) ?_
              refine mx_getR (ci := 10) (k := 26) (r := (m + 19)) dX10_layFar_170 k_1039 (by decide) rfl (by assumption) (by assumption) (by omega) ?_
              refine mx_iload (i := 7) (hl := rfl) (hd := dX10_layFar_173) ?_
              refine mx_ialdV (gK v s) (nI (pEn A 1 (gK v s))) dX10_layFar_175 (by assumption) ⟨rfl, by omega, by omega⟩ (lf_f3.2.1 (gK v s) (by omega)) ?_
              refine mx_sipushN 1000 dX10_layFar_176 (by decide) ?_
              refine mx_aload_n (i := 0) (hi := rfl) (hl := rfl) (hd := dX10_layFar_179) ?_
              refine mx_getR (ci := 10) (k := 23) (r := (m + 16)) dX10_layFar_180 k_1036 (by decide) rfl (by assumption) (by assumption) (by omega) ?_
              refine mx_iload (i := 4) (hl := rfl) (hd := dX10_layFar_183) ?_
              refine mx_ialdV s (nI (pr s)) dX10_layFar_185 (by assumption) ⟨rfl, by omega, by omega⟩ (by rw [lf_f3.2.2 _ _ (by omega) (by omega) (by omega)]; exact hprs s (by omega)) ?_
              refine mx_imulN dX10_layFar_186 ?_
              refine mx_iconstN 1 dX10_layFar_187 (by decide) ?_
              refine mx_iaddN dX10_layFar_188 ?_
              refine mx_callVi (ci := 10) (As := [.int (nI (gT v s)), .int (nI (gF v s)), .int (nI (pEn A 1 (gK v s))), .int (nI ((1000 * (pr s)) + 1))]) (rest := [.int (mx_b (decide ((n2 || n3) = true)))]) dX10_layFar_189 (mt_relax G I3 m hs0 (pL A) (pA A) f3 (by rw [lf_f3.2.2 _ _ (by omega) (by omega) (by omega)]; exact ha.1) hA.1 (fun s hs => (lf_f3.au ha).2.2.1 s hs) ar_f3 hF3.1 (gT v s) (gF v s) (pEn A 1 (gK v s)) (1000 * pr s + 1) (by omega) (by omega) (Nat.lt_trans (inB21 (enB hA 1 _) hA.1) (by decide)) (by omega)) km_X10_relax rfl k_1227 k_1229 k_46 (by assumption) rfl rfl (Nat.le_of_ble_eq_true rfl) (by decide) (fun r3 I4 h4 => ?_)
              obtain ⟨n4, f4, e9, rr_f4, ar_f4, eo_f4⟩ := h4
              subst e9
              have lf_f4 := lf_f3.o eo_f4
              have hF4 := hF3.rx hA (by omega) (by omega) (Or.inr ⟨rfl, rfl, rfl⟩) (by omega) (by omega) rr_f4
              refine mx_ior dX10_layFar_192 ?_
              refine mx_top (y := mx_b (decide (((n2 || n3) || n4) = true))) (mx_b_or _ _) ?_
              refine mx_istoreE_n (i := 3) (ls' := [some (.ref m), some (.ref g), some (.int (nI q)), some (.int (mx_b (decide (((n2 || n3) || n4) = true)))), some (.int (nI s)), some (.int (nI (gF v s))), some (.int (nI (gT v s))), some (.int (nI (gK v s)))]) (hi := rfl) (hd := dX10_layFar_193) (hn := by decide) (hok := rfl) (hls := rfl) ?_
              refine mx_iincE (i := 4) (ls' := [some (.ref m), some (.ref g), some (.int (nI q)), some (.int (mx_b (decide (((n2 || n3) || n4) = true)))), some (.int (nI (s + 1))), some (.int (nI (gF v s))), some (.int (nI (gT v s))), some (.int (nI (gK v s)))]) 1 dX10_layFar_194 rfl (by decide) (by decide) rfl rfl ?_
              refine mx_goto (tgt := 83) dX10_layFar_197 (by decide) ?_
              refine mx_leS (ls' := [some (.ref m), some (.ref g), some (.int (nI q)), some (.int (mx_b (decide (((n2 || n3) || n4) = true)))), some (.int (nI (s + 1))), none, none, none]) ⟨rfl, rfl, rfl, rfl, rfl, trivial⟩ ?_
              exact ih2 (s + 1) ((n2 || n3) || n4) f4 _ (by omega) hnb (by omega) hF4 (lfR.st (D := fun _ _ => True) hR rr_f3 rr_f4) ar_f4 lf_f4
      refine mx_iload_n (i := 3) (hi := rfl) (hl := rfl) (hd := dX10_layFar_74) ?_
      refine mx_ifB_eq 203 dX10_layFar_75 (by decide) (fun c75 => ?_) (fun c75 => ?_)
      · skip
        exact mx_vret dX10_layFar_203 rfl (⟨⟨rfl, ⟨f1, har, fun a i h1 h2 => lf_end hwv hwp hA hpr9 hF1 (hC (Bool.eq_false_iff.mpr c75)) h1 h2⟩, hI1⟩, rfl⟩)
      · skip
        refine mx_iconstN 0 dX10_layFar_78 (by decide) ?_
        refine mx_istoreE_n (i := 3) (ls' := [some (.ref m), some (.ref g), some (.int (nI q)), some (.int (nI 0)), none, none, none, none]) (hi := rfl) (hd := dX10_layFar_79) (hn := by decide) (hok := rfl) (hls := rfl) ?_
        refine mx_iconstN 0 dX10_layFar_80 (by decide) ?_
        refine mx_istoreE (i := 4) (ls' := [some (.ref m), some (.ref g), some (.int (nI q)), some (.int (nI 0)), some (.int (nI 0)), none, none, none]) (hd := dX10_layFar_81) (hn := by decide) (hok := rfl) (hls := rfl) ?_
        exact L83 _ 0 false f1 _ (Nat.lt_succ_self _) c75 (Nat.zero_le _) hF1 ⟨fun _ => ⟨rfl, fun t ht => absurd ht (Nat.not_lt_zero _)⟩, fun z => (nomatch z)⟩ har hI1
  have L31 : ∀ (fq : Nat) (s : Nat) (I1 : mx_I), pL A + 1 - s < fq → (s ≤ pL A + 1) → (arN I1 (m + 17) (tgF A q s) 168) → (lfI I I1 m A) → mx_V mX10_layFar mx_S0 3 0 0 31 [some (.ref m), some (.ref g), some (.int (nI q)), some (.int (nI s)), none, none, none, none] [] G I1 (fun rv Gz Iz => (fun rv I1 => rv = none ∧ (∃ fr, arN I1 (m + 17) fr 168 ∧ ∀ a i, a < 8 → i < 21 → fr (21 * a + i) = enc 1000 100000000 (bR v A pr (tgA A q) a i)) ∧ lfI I I1 m A) rv Iz ∧ Gz = G) (fun _ _ _ => False) := by
    intro fq
    induction fq with
    | zero => intro s I1 hfu; exact absurd hfu (Nat.not_lt_zero _)
    | succ fq ih =>
      intro s I1 hfu hs2 har hI1
      have J65 : ∀ (_ : Unit), (s ≤ pL A) → mx_V mX10_layFar mx_S0 3 0 0 65 [some (.ref m), some (.ref g), some (.int (nI q)), some (.int (nI s)), none, none, none, none] [.int (nI (if (pAc A).testBit s = true then 0 else 100000000)), .int (nI (21 * q + s)), .ref (m + 17)] G I1 (fun rv Gz Iz => (fun rv I1 => rv = none ∧ (∃ fr, arN I1 (m + 17) fr 168 ∧ ∀ a i, a < 8 → i < 21 → fr (21 * a + i) = enc 1000 100000000 (bR v A pr (tgA A q) a i)) ∧ lfI I I1 m A) rv Iz ∧ Gz = G) (fun _ _ _ => False) := by
        intro _ hsb
        refine mx_iast (21 * q + s) dX10_layFar_65 (by assumption) ⟨rfl, by omega, by omega⟩ ?_
        refine mx_iincE (i := 3) (ls' := [some (.ref m), some (.ref g), some (.int (nI q)), some (.int (nI (s + 1))), none, none, none, none]) 1 dX10_layFar_66 rfl (by decide) (by decide) rfl rfl ?_
        refine mx_goto (tgt := 31) dX10_layFar_69 (by decide) ?_
        exact ih (s + 1) _ (by omega) (by omega) ((har.u).c (fun j _ => tgF_st A q s j)) hI1.u
      refine mx_iload_n (i := 3) (hi := rfl) (hl := rfl) (hd := dX10_layFar_31) ?_
      refine mx_aload_n (i := 0) (hi := rfl) (hl := rfl) (hd := dX10_layFar_32) ?_
      refine mx_getV (ci := 10) (k := 11) (nI (pL A)) dX10_layFar_33 k_1024 (by decide) rfl (by assumption) (by rw [hI1.2.2 _ _ (by omega) (by omega) (by omega)]; exact ha.1) ?_
      refine mx_cmpN_gt 72 dX10_layFar_36 (by decide) (by omega) (by omega) (fun c36 => ?_) (fun c36 => ?_)
      · skip
        refine mx_iconstN 1 dX10_layFar_72 (by decide) ?_
        refine mx_istoreE_n (i := 3) (ls' := [some (.ref m), some (.ref g), some (.int (nI q)), some (.int (nI 1)), none, none, none, none]) (hi := rfl) (hd := dX10_layFar_73) (hn := by decide) (hok := rfl) (hls := rfl) ?_
        exact L74 _ true _ _ (Nat.lt_succ_self _) (tgF_F hA hq) (fun z => (nomatch z)) ((show s = pL A + 1 by omega) ▸ har) hI1
      · skip
        refine mx_aload_n (i := 0) (hi := rfl) (hl := rfl) (hd := dX10_layFar_39) ?_
        refine mx_getR (ci := 10) (k := 24) (r := (m + 17)) dX10_layFar_40 k_1037 (by decide) rfl (by assumption) (by assumption) (by omega) ?_
        refine mx_bipushN 21 dX10_layFar_43 (by decide) ?_
        refine mx_iload_n (i := 2) (hi := rfl) (hl := rfl) (hd := dX10_layFar_45) ?_
        refine mx_imulN dX10_layFar_46 ?_
        refine mx_iload_n (i := 3) (hi := rfl) (hl := rfl) (hd := dX10_layFar_47) ?_
        refine mx_iaddN dX10_layFar_48 ?_
        refine mx_aload_n (i := 0) (hi := rfl) (hl := rfl) (hd := dX10_layFar_49) ?_
        refine mx_iconstN 1 dX10_layFar_50 (by decide) ?_
        refine mx_iload_n (i := 3) (hi := rfl) (hl := rfl) (hd := dX10_layFar_51) ?_
        refine mx_ishl1N dX10_layFar_52 (by omega) ?_
        refine mx_callVp (ci := 10) (As := [.int (nI (2 ^ s))]) (rest := [.int (nI ((21 * q) + s)), .ref (m + 17)]) dX10_layFar_53 (mt_isEnd G I1 m hs0 A (hI1.au ha) hA (2 ^ s) (Nat.pow_lt_pow_right (by decide) (by omega))) km_X10_isEnd rfl k_1223 k_1225 k_45 (by assumption) rfl rfl (Nat.le_of_ble_eq_true rfl) (by decide) ?_
        refine mx_ifB_eq 63 dX10_layFar_56 (by decide) (fun c56 => ?_) (fun c56 => ?_)
        · skip
          refine mx_ldc (v := (100000000)) k_1222 dX10_layFar_63 ?_
          refine mx_top (y := nI 100000000) (by decide) ?_
          refine mx_top (y := nI (if (pAc A).testBit s = true then 0 else 100000000)) (by rw [if_neg (fun z => c56 (pw_bit.mpr z))]) ?_
          exact J65 () (by omega)
        · skip
          refine mx_iconstN 0 dX10_layFar_59 (by decide) ?_
          refine mx_goto (tgt := 65) dX10_layFar_60 (by decide) ?_
          refine mx_top (y := nI (if (pAc A).testBit s = true then 0 else 100000000)) (by rw [if_pos (pw_bit.mp c56)]) ?_
          exact J65 () (by omega)
  have L6 : ∀ (fq : Nat) (k : Nat) (I1 : mx_I), 168 - k < fq → (k ≤ 168) → (arN I1 (m + 17) (fun _ => 100000000) k) → (lfI I I1 m A) → mx_V mX10_layFar mx_S0 3 0 0 6 [some (.ref m), some (.ref g), some (.int (nI q)), some (.int (nI k)), none, none, none, none] [] G I1 (fun rv Gz Iz => (fun rv I1 => rv = none ∧ (∃ fr, arN I1 (m + 17) fr 168 ∧ ∀ a i, a < 8 → i < 21 → fr (21 * a + i) = enc 1000 100000000 (bR v A pr (tgA A q) a i)) ∧ lfI I I1 m A) rv Iz ∧ Gz = G) (fun _ _ _ => False) := by
    intro fq
    induction fq with
    | zero => intro k I1 hfu; exact absurd hfu (Nat.not_lt_zero _)
    | succ fq ih =>
      intro k I1 hfu hk har hI1
      refine mx_iload_n (i := 3) (hi := rfl) (hl := rfl) (hd := dX10_layFar_6) ?_
      refine mx_aload_n (i := 0) (hi := rfl) (hl := rfl) (hd := dX10_layFar_7) ?_
      refine mx_getR (ci := 10) (k := 24) (r := (m + 17)) dX10_layFar_8 k_1037 (by decide) rfl (by assumption) (by assumption) (by omega) ?_
      refine mx_alen dX10_layFar_11 (by assumption) ?_
      refine mx_top (y := nI 168) (congrArg nI (l_far)) ?_
      refine mx_cmpN_ge 29 dX10_layFar_12 (by decide) (by omega) (by omega) (fun c12 => ?_) (fun c12 => ?_)
      · skip
        refine mx_iconstN 0 dX10_layFar_29 (by decide) ?_
        refine mx_istoreE_n (i := 3) (ls' := [some (.ref m), some (.ref g), some (.int (nI q)), some (.int (nI 0)), none, none, none, none]) (hi := rfl) (hd := dX10_layFar_30) (hn := by decide) (hok := rfl) (hls := rfl) ?_
        exact L31 _ 0 _ (Nat.lt_succ_self _) (Nat.zero_le _) (((show k = 168 by omega) ▸ har).c (fun j _ => by unfold tgF; rw [if_neg (by omega)])) hI1
      · skip
        refine mx_aload_n (i := 0) (hi := rfl) (hl := rfl) (hd := dX10_layFar_15) ?_
        refine mx_getR (ci := 10) (k := 24) (r := (m + 17)) dX10_layFar_16 k_1037 (by decide) rfl (by assumption) (by assumption) (by omega) ?_
        refine mx_iload_n (i := 3) (hi := rfl) (hl := rfl) (hd := dX10_layFar_19) ?_
        refine mx_ldc (v := (100000000)) k_1222 dX10_layFar_20 ?_
        refine mx_top (y := nI 100000000) (by decide) ?_
        refine mx_iast k dX10_layFar_22 (by assumption) ⟨rfl, by omega, by omega⟩ ?_
        refine mx_iincE (i := 3) (ls' := [some (.ref m), some (.ref g), some (.int (nI q)), some (.int (nI (k + 1))), none, none, none, none]) 1 dX10_layFar_23 rfl (by decide) (by decide) rfl rfl ?_
        refine mx_goto (tgt := 6) dX10_layFar_26 (by decide) ?_
        exact ih (k + 1) _ (by omega) (by omega) ((har.up).c (fun j _ => by by_cases e : j = k <;> simp [e])) hI1.u
  refine mx_aload_n (i := 0) (hi := rfl) (hl := rfl) (hd := dX10_layFar_0) ?_
  refine mx_callVi (ci := 10) (As := []) (rest := []) dX10_layFar_1 (mt_layFits G I m hs0 A ha hA) km_X10_layFits rfl k_1214 k_1216 k_43 (by assumption) rfl rfl (Nat.le_of_ble_eq_true rfl) (by decide) (fun r5 I2 h6 => ?_)
  obtain ⟨e9, q1, q2, q3⟩ := h6
  subst e9
  have hI0 : lfI I I2 m A := ⟨q1, q2, fun b k _ z1 z2 => q3 b k z1 z2⟩
  refine mx_iconstN 0 dX10_layFar_4 (by decide) ?_
  refine mx_istoreE_n (i := 3) (ls' := [some (.ref m), some (.ref g), some (.int (nI q)), some (.int (nI 0)), none, none, none, none]) (hi := rfl) (hd := dX10_layFar_5) (hn := by decide) (hok := rfl) (hls := rfl) ?_
  exact L6 _ 0 _ (Nat.lt_succ_self _) (Nat.zero_le _) (fun s hs => absurd hs (Nat.not_lt_zero _)) hI0
