def R_law : String := "StepPathsLaw"
def lw_P (b : Addr) (xs : List Int32) (args : Array Value) (s : State) : Prop := args = #[.ref b] ∧ s.IntsAt b xs ∧ xs.length ≤ 260 ∧ (Jvm.Cond.and given_1 narrow_1).before args s = true
def lw_Q (_ : Array Value) (s : State) (o : Outcome) (t : State) : Prop := o = .returned (some (.int 1)) ∧ Framed s o t [] 690471 7030212
def lw_Z (below : List Frame) (a : Array Value) (s : State) : State → Prop := fun t => ∃ o, t.status = .running ∧ Ended t below o ∧ lw_Q a s o t
/-- the law's own end, with 1 on the stack, nothing written that was there before, its room as the claim has it -/
theorem lw_ret {p : Program} {l : Launch} {e : Env} {s : State} {m : MethodId} {below : List Frame} {meth : Method} {c : Code} {b : Nat} (hx : p.tables.exec = Jvm.exec) (hb : c.code = code) (hr : meth.sig.returnType = ret) (hlocks : meth.locks = false) {pc : Nat} {H : Heap} {ls : Array Slot} (hdg : decode code pc = .ok (.ireturn, 1)) : W p l e room_1 s m #[Value.ref b] below meth c H [] 690471 7030212 (lw_Z below #[Value.ref b] s) (F0 m pc ls [.int 1]) := by
  intro T hT X
  obtain ⟨fs, hret, hrun, hended, hW, hframe⟩ := X.leave (v := some (.int 1)) (hlocks := hlocks) (fun h => by rw [hr] at h; cases h)
  have hmeth' : T.vm.method? m = some meth := X.method'
  refine ⟨T.setFrames fs, ?_, .returned (some (.int 1)), hrun, hended, rfl, ⟨_, rfl⟩, hW, hframe⟩
  jvm_step X.here [X.here.top, hx, hb, hdg, hmeth', hr, ret, narrow_b1]
  (try refine ⟨rfl, ?_⟩); (try refine ⟨rfl, ?_⟩)
  first | (intro acts; rw [hret _ acts rfl rfl rfl]) | rw [hret _ _ rfl rfl rfl]
  exact Steps.refl _
/-- what holds at the law's entry: the machine, the code, the tables' words (any of lw_tbl by 'hts w (by decide +kernel)'), the script of L ints xs at the cell b, what the Statement gives of the start (any of its parts by flat_of_before) -/
def lw_At (p : Program) (s : State) (m : MethodId) (meth : Method) (c : Code) (b L : Nat) (xs : Nat → Int32) : Prop :=
  p.tables.exec = Jvm.exec ∧ c.code = code ∧ meth.sig.returnType = ret ∧ c.maxLocals = 10 ∧ s.vm.findClass R_law = some m.cls ∧ (∀ w ∈ lw_tbl, w.before #[Value.ref b] s = true) ∧ va_X b L xs s s.heap ∧ b < s.heap.size ∧ meth.locks = false ∧ (Jvm.Cond.and given_1 narrow_1).before #[Value.ref b] s = true
-- ===== YOUR PART BEGINS =====
theorem W.fin {p : Program} {l : Launch} {e : Env} {R : Room} {s : State} {m : MethodId} {args : Array Value} {below : List Frame} {meth : Method} {c : Code} {H : Heap} {locs : List Loc} {cells slots : Nat} {Q Q' : State → Prop} {g : JFrame} (k : W p l e R s m args below meth c H locs cells slots Q g) (h : ∀ t, Q t → Q' t) : W p l e R s m args below meth c H locs cells slots Q' g := fun T hT X => by
  obtain ⟨t, a1, a2⟩ := k T hT X
  exact ⟨t, a1, h t a2⟩
theorem st_nw {ci : Nat} (h : ci < 10) : Cond.instantiable (mx_C ci) (mx_N ci) ∈ mx_AW := by
  match ci, h with
  | 0, _ => exact nw_X0.1
  | 1, _ => exact nw_X1.1
  | 2, _ => exact nw_X2.1
  | 3, _ => exact nw_X3.1
  | 4, _ => exact nw_X4.1
  | 5, _ => exact nw_X5.1
  | 6, _ => exact nw_X6.1
  | 7, _ => exact nw_X7.1
  | 8, _ => exact nw_X8.1
  | 9, _ => exact nw_X9.1
  | n + 10, h => omega
theorem st_arr {args : Array Value} {s : State} {ty : FieldType} (h : (Cond.arrayClass ty).before args s = true) : ∃ cA, ArrOfT s cA ty ∧ s.vm.findClass ("[" ++ ty.toString) = some cA := by
  obtain ⟨cA, kA, comp, h1, h2, h3⟩ := Cond.arrayClass_spec h
  exact ⟨cA, fun n z => ⟨fun k h => (by cases h), kA, h2, comp, h3⟩, h1⟩
theorem st_arO {args : Array Value} {s : State} {C : String} (h : (Cond.arrayOver (.object C)).before args s = true) : ∃ cA, ArrOfT s cA (.object C) ∧ va_RA s cA (.object C) := by
  obtain ⟨comp, cA, kA, f1, f2, f3, f4, f5⟩ := Cond.arrayOver_spec h
  exact ⟨cA, fun N z => ⟨fun k h => (by cases h), kA, f3, comp, f4⟩, kA, comp, f3, f4, f1, f5⟩
theorem st_ref {args : Array Value} {s : State} {k : Nat} {tx : String} (h1 : (Cond.stringRef RX9 k tx).before args s = true) (h2 : (Cond.exactly (.string RX9 k) "java/lang/String").before args s = true) : ∃ a, vk_R RX9 k tx a s := by
  obtain ⟨a, c, cell, k, e1, -⟩ := Cond.exactly_spec h2
  exact ⟨a, vk_R.of h1 e1⟩
theorem st_EWt : ∀ w ∈ mx_EW, w ∈ lw_tbl := by decide +kernel
theorem st_EWo : ∀ w ∈ mx_EW, w.onTables = true := by decide +kernel
theorem st_NWo : ∀ w ∈ mx_NW, w.onTables = true := by decide +kernel
theorem st_KK {args : Array Value} {s : State} (hts : ∀ w ∈ lw_tbl, w.before args s = true) (hgv : (Jvm.Cond.and given_1 narrow_1).before args s = true) : ∃ (D : va_G) (dA : Nat → ClassId), mx_KK s.heap.size D dA s s.heap := by
  have hAW : ∀ w ∈ mx_AW, w.before args s = true := fun w hw => hts w (List.mem_filter.mp hw).1
  have hu : ∀ ci : Nat, ∃ q : ClassId × (Nat → Nat), ci < 10 → u_Kn s (mx_C ci) (mx_F ci) (mx_N ci) q.1 q.2 := by
    intro ci
    by_cases hc : ci < 10
    · obtain ⟨c1, i1, h1⟩ := u_known hAW (mx_cls hc).2.1 (hAW _ (st_nw hc))
      exact ⟨(c1, i1), fun _ => h1⟩
    · exact ⟨(0, fun _ => 0), fun h => absurd h hc⟩
  obtain ⟨f, hf⟩ := Classical.axiomOfChoice hu
  have ha : ∀ k : Nat, ∃ cA : ClassId, ∀ ty, mx_aty k = some ty → ArrOfT s cA ty ∧ va_RA s cA ty := by
    intro k
    match k with
    | 1 => obtain ⟨cA, h1, h2⟩ := st_arr (hAW _ k_ac_int); exact ⟨cA, fun ty h => by cases h; exact ⟨h1, h2⟩⟩
    | 2 => obtain ⟨cA, h1, h2⟩ := st_arr (hAW _ k_ac_char); exact ⟨cA, fun ty h => by cases h; exact ⟨h1, h2⟩⟩
    | 3 => obtain ⟨cA, h1, h2⟩ := st_arr (hAW _ k_ac_boolean); exact ⟨cA, fun ty h => by cases h; exact ⟨h1, h2⟩⟩
    | 4 => exact ⟨0, fun ty h => by cases h⟩
    | 5 => obtain ⟨cA, h1, h2⟩ := st_arO (hts (Cond.arrayOver (.object "StepPaths$State")) (by decide +kernel)); exact ⟨cA, fun ty h => by cases h; exact ⟨h1, h2⟩⟩
    | 6 => obtain ⟨cA, h1, h2⟩ := st_arO (hts (Cond.arrayOver (.object "StepPaths$Piece")) (by decide +kernel)); exact ⟨cA, fun ty h => by cases h; exact ⟨h1, h2⟩⟩
    | 0 => exact ⟨0, fun ty h => by cases h⟩
    | n + 7 => exact ⟨0, fun ty h => by cases h⟩
  obtain ⟨g, hg⟩ := Classical.axiomOfChoice ha
  have hfl := flat_of_before _ hgv
  refine ⟨(fun ci => (f ci).1, fun ci => (f ci).2), g, ⟨fun ci q hq => ?_, fun k q hq => by simp at hq⟩, hg, ?_, ?_, ?_, ?_, ?_, ?_, ⟨?_, ?_, ?_⟩, ?_⟩
  · have hc : ci < 10 := (List.getElem?_eq_some_iff.mp hq).1
    have h1 := (mx_cls hc).1
    rw [h1] at hq
    cases hq
    exact hf ci hc
  · exact vx_Zqof (hts (Cond.laysStatic Bundle.tN "UNASSIGNED_STACK" Bundle.steD) (by decide +kernel)) (hts (Cond.initialized Bundle.tN) (by decide +kernel)) (hfl _ (by decide +kernel)) (fun a ha hb => by omega)
  · exact vx_Zqof (hts (Cond.laysStatic Bundle.tN "SUPPRESSED_SENTINEL" Bundle.listD) (by decide +kernel)) (hts (Cond.initialized Bundle.tN) (by decide +kernel)) (hfl _ (by decide +kernel)) (fun a ha hb => by omega)
  · exact st_ref (hts _ (by decide +kernel)) (hfl _ (by decide +kernel))
  · exact st_ref (hts _ (by decide +kernel)) (hfl _ (by decide +kernel))
  · exact st_ref (hts _ (by decide +kernel)) (hfl _ (by decide +kernel))
  · intro E hE F hF hne
    unfold mx_exs at hE hF
    simp only [List.mem_cons, List.not_mem_nil, or_false] at hE hF
    rcases hE with rfl | rfl | rfl <;> rcases hF with rfl | rfl | rfl <;> first | exact absurd rfl hne | exact va_Nc.of (hfl _ (by decide +kernel))
  · exact va_AO.of (hts (Cond.arrayOver (.object "StepPaths$State")) (by decide +kernel))
  · exact va_AO.of (hts (Cond.arrayOver (.object "StepPaths$Piece")) (by decide +kernel))
  · exact fun w hw => va_Nw.of (st_EWo w hw) (hts w (st_EWt w hw))
  · exact fun w hw => va_Nw.of (st_NWo w hw) (hts w (mx_NW_tbl w hw))
theorem st_tab (t : List ExceptionTableEntry) : t = tableOf (t.map (fun x => (x.startPc, x.endPc, x.handlerPc, x.catchType))) := by
  unfold tableOf
  rw [List.map_map]
  induction t with
  | nil => rfl
  | cons a r ih => rw [List.map_cons, ← ih]; rfl
theorem st_at (D : va_G) (dA : Nat → ClassId) (n : Nat) (H : Heap) (a : Nat) : mx_at D dA (n, fun _ => 0, fun _ => 0, fun _ _ => 0, fun _ _ => 0) (fun _ _ => 0) H a :=
  ⟨fun t h q => by have h : 0 = t := h; omega, fun h => by have h : 0 = 4 := h; omega, fun t h q => by have h : 0 = t := h; omega, fun ci h => by have h : 0 = ci + 10 := h; omega⟩
/-- YOUR PART: from the entry, for every script of at most 260 ints, the law comes to its end with true ('hflags': the launch's flags, for a law that throws: no stack traces) -/
theorem whole_start {p : Program} {e : Env} {s : State} {m : MethodId} {below : List Frame} {meth : Method} {c : Code} (l : Launch) (hflags : l.flags = flags0) {b L : Nat} {xs : Nat → Int32} (hL : L ≤ 260) (C0 : lw_At p s m meth c b L xs) : W p l e room_1 s m #[Value.ref b] below meth c s.heap [] 0 0 (lw_Z below #[Value.ref b] s) (entryFrame m ([Value.ref b] : List Value).toArray 10) := by
  obtain ⟨hx, hb, hr, hml, hown, hts, hX, hbl, hlocks, hgv⟩ := C0
  obtain ⟨D, dA, hKK⟩ := st_KK hts hgv
  have hS : mx_hS (b, L, xs) := by
    show L ≠ 65537
    omega
  have hRep : mx_Rep D dA s.heap.size s.heap (s.heap.size, fun _ => 0, fun _ => 0, fun _ _ => 0, fun _ _ => 0) (fun _ _ => 0) :=
    ⟨rfl, Nat.le_refl _, by omega, fun a _ => ⟨rfl, fun _ => rfl, fun _ => rfl, fun _ => rfl⟩, fun _ _ => rfl, fun a => st_at D dA _ _ a⟩
  have hLs : mx_L ((lg_sl [Value.ref b] ++ List.replicate (10 - (lg_sl [Value.ref b]).length) Slot.unset).toArray) 10 (mx_fl [Value.ref b] ++ List.replicate 9 none) := mx_ent (Nat.le_of_ble_eq_true rfl)
  have k := law_start (c.exceptionTable.toList.map (fun x : ExceptionTableEntry => (x.startPc, x.endPc, x.handlerPc, x.catchType))) (b, L, xs) hS hL (s.heap.size, fun _ => 0, fun _ => 0, fun _ _ => 0, fun _ _ => 0) (fun _ _ => 0) s.heap.size rfl (by omega)
    p l e room_1 s m #[Value.ref b] below meth c 690471 7030212 s.heap.size D dA
    ⟨hx, hb, hml, hr, hown, fun w hw => hts w (List.mem_filter.mp hw).1, hlocks, st_tab _, fun h => Bool.noConfusion h, hflags, by decide, by decide, Nat.le_refl _, Nat.le_refl _, Nat.le_refl _, hKK⟩
    s.heap [] 0 0 _ ⟨hRep, va_S.rf, by show 0 + (2500 * (28 - 0) + 292) ≤ 690471; omega, by show 0 + (16000 * (28 - 0) + 5642) ≤ 7030212; omega, hLs, Or.inr ⟨hX, hbl⟩⟩
  rw [lg_entry_eq]
  refine W.fin k fun t ht => ?_
  obtain ⟨o, t1, t2, t3⟩ := ht
  rcases t3 with ⟨⟨⟨v, G', I', e1, e2, -⟩, -⟩, L', ⟨-, hW, hsb⟩, hfree⟩ | ⟨q, -, E, ce, L', ⟨⟨G', I', e2, -⟩, -⟩, -⟩
  · subst e2
    refine ⟨o, t1, t2, e1, ⟨_, e1⟩, hW, ?_⟩
    obtain ⟨s1, s2, s3, s4, s5, s6⟩ := hsb
    refine ⟨s1, s2, s3, s4, s5, fun a ca hca => ?_⟩
    obtain ⟨c', d1, d2, d3, d4⟩ := s6 a ca hca
    refine ⟨c', d1, d2, d3, fun i _ => d4 i fun hmem => ?_⟩
    have h1 : s.heap.size ≤ a := hfree _ hmem
    have h2 := (Array.getElem?_eq_some_iff.mp hca).1
    omega
  · exact e2.elim
-- ===== YOUR PART ENDS =====
set_option maxHeartbeats 4000000 in
theorem lw_walk (l : Launch) (hflags : l.flags = flags0) (b : Addr) (xs : List Int32) : MetFree l x (headSpec (Jvm.Cond.code x code maxLocals ret :: tables_1) room_1) (lw_P b xs) (fun _ _ _ _ _ => True) lw_Q := by
  refine MetFree.of_bodyS (code := code) (maxLocals := maxLocals) (ret := ret) (by decide) ?_ ?_
  · intro args s m h hn
    obtain ⟨meth, c, h1, h2, h3, h4, h5, h6, -, -⟩ := Cond.code_spec hn (atoms_spec (ws := Jvm.Cond.code x code maxLocals ret :: tables_1) h _ List.mem_cons_self)
    exact ⟨meth, c, h1, h2, h3, h4, h5, h6⟩
  · intro p e s m args below meth c s₁ B hml0 hP _
    obtain ⟨rfl, hx, hbd, hgv⟩ := hP
    obtain ⟨scr, harrAt, hlist, hof, hsmall⟩ := hx
    obtain ⟨hcb, hkn, -, -⟩ := State.arrayAt?_spec harrAt
    have hown : s.vm.findClass R_law = some m.cls := findClass_of_methodNamed B.named
    have hts0 : ∀ c ∈ (Jvm.Cond.code x code maxLocals ret :: tables_1), c.before #[Value.ref b] s = true := atoms_spec (ws := Jvm.Cond.code x code maxLocals ret :: tables_1) B.pre
    have hts : ∀ w ∈ lw_tbl, w.before #[Value.ref b] s = true := k2_hts_sels lw_privs (fun w hw => hts0 w (List.mem_cons_of_mem _ hw)) lw_privs_ok
    have hml : c.maxLocals = 10 := B.maxLocals_eq (hts0 _ List.mem_cons_self)
    have X₀ : Stand p l e room_1 s m #[Value.ref b] below meth c s₁ [] 0 0 := Stand.of_body B
    have hh0 : s₁.heap = s.heap := by rw [B.state]; rfl
    have hsz : scr.slots.size = xs.length := by rw [← Array.length_toList, hlist, List.length_map]
    have hval : ∀ j : Nat, j < xs.length → scr.slots[j]? = some (.int (xs.getD j 0)) := fun j hj => by
      rw [← Array.getElem?_toList, hlist]
      simp [hj]
    have hbl : b < s.heap.size := (Array.getElem?_eq_some_iff.mp hcb).1
    have hX : va_X b xs.length (fun j => xs.getD j 0) s s.heap := ⟨scr, hcb, hof, hkn, hsz, hval⟩
    have K : W p l e room_1 s m #[Value.ref b] below meth c s₁.heap [] 0 0 (lw_Z below #[Value.ref b] s) (entryFrame m ([Value.ref b] : List Value).toArray 10) := by
      rw [hh0]
      exact whole_start l hflags hbd ⟨B.exec, B.bytes, B.returns, hml, hown, hts, hX, hbl, B.notSynchronized, hgv⟩
    obtain ⟨t, a1, o, b1, b2, b3⟩ := K s₁ rfl X₀
    exact ⟨t, o, a1, b1, b2, b3⟩
theorem lw_pre_spec {args : Array Value} {s : State} (h : (Jvm.Cond.and given_1 narrow_1).before args s = true) (hr : rest_1_c.before args s = true) : ∃ (b : Addr) (xs : List Int32), lw_P b xs args s := by
  have hs := flat_of_before _ h
  have hq := flat_of_before _ hr
  have hc : (Cond.count 1).before args s = true := hs _ (by decide +kernel)
  have harr : (Cond.arrayOf (.arg 0) .int).before args s = true := hs _ (by decide +kernel)
  have hle : (Cond.le (.length (.arg 0)) (.int 260)).before args s = true := hs _ (by decide +kernel)
  have hlen : (Cond.isInt (.length (.arg 0))).before args s = true := hq _ (by decide +kernel)
  have hall : (Cond.all (.arg 0) (.isInt (.elem (.arg 0) (.index 0)))).before args s = true := hq _ (by decide +kernel)
  obtain ⟨b, xs, hb, hx⟩ := State.ints_of_pre rfl harr hlen hall
  have hsm : xs.length < 2 ^ 31 := hx.choose_spec.2.2.2
  have hev : (Term.length (.arg 0)).eval args s none [] s = some (.int xs.length.toInt32) := hx.length_eval hb
  have hv := Cond.le_ints hev (show (Term.int 260).eval args s none [] s = some (.int 260) from rfl)
  have hd : xs.length.toInt32 ≤ 260 := by
    simpa [Cond.before, Cond.holds, hv] using hle
  have hN : xs.length ≤ 260 := (Int32.ofNat_le_ofNat hsm (by decide)).mp (show Int32.ofNat xs.length ≤ Int32.ofNat 260 from hd)
  exact ⟨b, xs, Cond.one_arg hc (show args[0]? = some (.ref b) from hb), hx, hN, h⟩
theorem lw_comes (l : Launch) (hflags : l.flags = flags0) : Comes l x (Jvm.Cond.code x code maxLocals ret :: tables_1) room_1 (fun tb e args s => Calls_1 tb e args s ∧ rest_1 tb e args s ∧ Pre_1 tb e args s)
    (fun _ _ args s o t => lw_Q args s o t) := by
  intro p e ha hc hk s m args below hf hfit hheap happ hpre
  obtain ⟨b, xs, hP⟩ := lw_pre_spec hpre.2.2 hpre.2.1
  obtain ⟨k, o, h1, h2, h3, hQ⟩ := lw_walk l hflags b xs p e ha hc hk s m args below hf ((Spec.applies_iff_loose hf).mp happ).1 hP trivial
  exact ⟨k, o, h1, h2, h3, hQ⟩
theorem lw_frame {s t : State} {o : Outcome} {args : Array Value} (h : Framed s o t [] 690471 7030212) :
    Framed s o t (fieldLocs frame_1_writes args s ++ arrayLocs frame_1_arrays args s ++ staticLocs frame_1_statics s) 690471 7030212 := h
theorem lw_limb (L : Cond) (hL : ∀ (args : Array Value) (s t : State), L.after args s (.returned (some (.int 1))) t = true) :
    ArmFor flags0 classFile x code maxLocals ret World_1 tables_1 room_1 Calls_1 rest_1 Pre_1
      (fun tb e a s o t => postC L tb e a s o t ∧ Framed s o t (fieldLocs frame_1_writes a s ++ arrayLocs frame_1_arrays a s ++ staticLocs frame_1_statics s) 690471 7030212) := by
  intro l hflags _ _ p e ha hc hk s m args below hf hfit hheap happ hpre
  obtain ⟨k, o, h1, h2, h3, rfl, hF⟩ := lw_comes l hflags p e ha hc hk s m args below hf hfit hheap happ hpre
  exact ⟨k, _, h1, h2, h3, hL args s _, lw_frame hF⟩
theorem i_vc : Claimed_1_1 ∧ Claimed_1_2 := ⟨lw_limb limb_1_1 (fun args s t => by simp [limb_1_1, Cond.after, Cond.holds, Cond.value]), lw_limb limb_1_2 (fun args s t => Cond.after_iff.mpr (by
  first | (rw [show limb_1_2 = Cond.eq .result (.int 1) from rfl, Cond.eq_ints (x := 1) (y := 1) rfl rfl]; simp; done) | (simp [limb_1_2, Cond.value, Term.eval]; done)))⟩
