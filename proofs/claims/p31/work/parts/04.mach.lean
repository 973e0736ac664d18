/-! ===== BEGIN a constructor that throws (launches without stack traces) ===== -/
section VXIA
variable {p : Program} {l : Launch} {e : Env} {R : Room} {s : State} {m : MethodId} {args : Array Value} {below : List Frame} {meth : Method} {c : Code} {T : State} {locs : List Loc} {cells slots : Nat}
theorem vx_callI (X : Stand p l e R s m args below meth c T locs cells slots) (hexec : p.tables.exec = Jvm.exec) {own : String} {index : Nat} {y : MethodName} {bytes : ByteArray} {maxL : Nat}
    (hown : s.vm.findClass own = some m.cls) (hy1 : y.name = "<init>") (hlink : (Cond.methodLink own index y).before args s = true) (hinst : (Cond.instanceMethod y).before args s = true)
    (hcode : (Cond.code y bytes maxL none).before args s = true) (hy : y.cls ≠ "java/lang/invoke/MethodHandle" ∧ y.cls ≠ "java/lang/invoke/VarHandle")
    {W9 : Nat} {Pre : Pt → Array Value → Prop} {Post : Pt → Array Value → Option Value → Pt → Prop} {PostX : Pt → Array Value → Addr → Pt → Prop} (hK : vx_Back l R p e below s args y 3 W9 Pre Post PostX)
    {g : JFrame} (hg : g.method = m) (hsize : g.locals.size = c.maxLocals) {a : Addr} {argsL rest : List Value} (hlen : ∀ sig, parseMethodDescriptor y.desc = some sig → argsL.length = sig.parameters.length)
    (hstack : g.stack = argsL.reverse ++ .ref a :: rest) (hW : 2 * g.monitorRoom + (rest.map fun v => v.category).sum ≤ W9) (hdg : decode c.code g.pc = .ok (.invokespecial index, 3))
    (hpre : ∀ vm₁, s.WarmedH vm₁ → Pre ⟨T.setVm vm₁, locs, cells, slots⟩ (Value.ref a :: argsL).toArray) :
    (∃ (v : Option Value) (vm₁ : Vm) (B : Pt), s.WarmedH vm₁ ∧ Stand p l e R s m args below meth c B.U B.locs B.cells B.slots ∧ Post ⟨T.setVm vm₁, locs, cells, slots⟩ (Value.ref a :: argsL).toArray v B ∧
      ∀ target, Steps p.tables e below (B.U.setTop { g with pc := g.pc + 3, stack := v.toList ++ rest }) target → Steps p.tables e below (T.setTop g) target) ∨
    (∃ (q : Addr) (vm₁ : Vm) (B : Pt), s.WarmedH vm₁ ∧ Stand p l e R s m args below meth c B.U B.locs B.cells B.slots ∧ PostX ⟨T.setVm vm₁, locs, cells, slots⟩ (Value.ref a :: argsL).toArray q B ∧
      Steps p.tables e below (T.setTop g) ((B.U.setTop { g with stack := rest }).pushFrame (.throwing q))) := by
  subst hg
  have hpl : e.platform.magicAccessors = ({} : Platform).magicAccessors := by rw [X.admits.platform]
  obtain ⟨mk, methM, cM, kP, vm₁, hnamed, hmethM, hcodeM, -, hlocalsM, -, hkP, -, hW₁, hstep₁⟩ := Steps.initColdArgs (e := e) X.here hexec X.warmed hpl hown hy1 hy hlink hinst hcode (f := g) rfl hlen hstack hdg
  have X₁ := X.noted hW₁
  rcases hK g.method meth c ⟨T.setVm vm₁, locs, cells, slots⟩ { g with stack := rest } (.invokespecial index) mk (Value.ref a :: argsL).toArray X₁ rfl hsize hdg hW (X₁.named hnamed) (hpre vm₁ X₁.warmed) with ⟨v, B, X', hpost, hsteps⟩ | ⟨q, B, X', hpost, hsteps⟩
  · exact Or.inl ⟨v, vm₁, B, X₁.warmed, X', hpost, fun target h => hstep₁ _ fun acts => by rw [doInvoke_state]; exact hsteps.trans h⟩
  · exact Or.inr ⟨q, vm₁, B, X₁.warmed, X', hpost, hstep₁ _ fun acts => by rw [doInvoke_state]; exact hsteps⟩
end VXIA
section VXIB
variable {p : Program} {l : Launch} {e : Env} {R : Room} {s : State} {m : MethodId} {args : Array Value} {below : List Frame} {meth : Method} {c : Code} {H : Heap} {locs : List Loc} {cells slots : Nat}
variable {y : MethodName} {bytes cc : ByteArray} {maxL nL mc ms n index : Nat} {ret : Option FieldType} {ws : List Cond} {rm : Room} {Pc : Array Value → State → Prop} {Qc : Array Value → State → Outcome → State → Prop} {XC : String → State → State → Prop} {free : Addr → Prop} {Ts : List Cond} {own C : String} {b : Addr} {As rest : List Value} {g : JFrame}
theorem vx_runI (S : CallFix p m c cc nL s args Ts own) (hM : vx_Met l y ws rm Pc Qc XC mc ms free) (cw : CallB R s args own index y bytes maxL none ws rm mc ms n ∧ y.name = "<init>" ∧ (Cond.instanceMethod y).before args s = true) (hp : PreS s H Pc (.ref b :: As))
    (hg : g.method = m) (hn : As.length = n) (hsize : g.locals.size = nL) (hstack : g.stack = As.reverse ++ .ref b :: rest) (hW : 2 * g.monitorRoom + (rest.map fun v => v.category).sum ≤ 8) (hdg : decode cc g.pc = .ok (.invokespecial index, 3)) (hf : cells + mc ≤ R.cells ∧ slots + ms ≤ R.slots) :
    vx_Run p l e R s m args below meth c H locs cells slots mc ms g rest (Qc (Value.ref b :: As).toArray) XC free := by
  have hK : vx_Back l R p e below s args y 3 8 (PreOf R mc ms Pc) (PostOf Qc mc ms free) (vx_Post XC mc ms free) := vx_callBack cw.1 hM hp.1
  obtain ⟨⟨-, -, -, -, -, -, hcode, -, hy, hlen, hl⟩, hy1, hin⟩ := cw
  obtain ⟨hx, hb, hml, ho, -⟩ := S
  have hPc := hp.2
  intro T hT X
  rcases vx_callI X hx (bytes := bytes) (maxL := maxL) ho hy1 hl hin hcode hy hK hg (hsize.trans hml.symm) (a := b) (argsL := As) (rest := rest) (fun sig h => hn.trans (hlen sig h)) hstack hW (by rw [hb]; exact hdg)
    (fun vm₁ hW₁ => ⟨hf.1, hf.2, hPc (T.setVm vm₁) hT hW₁⟩) with ⟨v, vm₁, ⟨U', l2, c2, s2⟩, hW₁, X', ⟨g', mk, t, L, e1, e2, hq, h1, hL, h2, h3⟩, st⟩ | ⟨q, vm₁, ⟨U', l2, c2, s2⟩, hW₁, X', ⟨g', mk, t, L, E, ce, e1, e2, hq, hce, hcv, hcl, h1, hL, h2, h3⟩, st⟩
  · dsimp only [Pt.U, Pt.locs, Pt.cells, Pt.slots] at X' e1 e2 h1 h2 h3 st
    subst h1; subst h2; subst h3
    exact Or.inl ⟨v, (T.setVm vm₁).calling g' mk (Value.ref b :: As).toArray, t, U', L, hT, X', hL, e1, e2, hq, st⟩
  · dsimp only [Pt.U, Pt.locs, Pt.cells, Pt.slots] at X' e1 e2 h1 h2 h3 st hcl
    subst h1; subst h2; subst h3
    exact Or.inr ⟨q, (T.setVm vm₁).calling g' mk (Value.ref b :: As).toArray, t, U', L, E, ce, hT, X', hL, e1, e2, hq, hce, hcv, vx_cls hW₁ hcl, st⟩
end VXIB
/-! ===== END ===== -/
/-! THE MACHINE BEHIND ONE WORD: mx_V says that a method, standing at pc with locals ls, stack st, world (G, I), comes to an end with Q (returned) or X (thrown). -/
abbrev mx_MI : Type := String × ByteArray × Nat × Option FieldType × List (Nat × Nat × Nat × Nat) × Bool
abbrev mx_own (M : mx_MI) : String := M.1
abbrev mx_cc (M : mx_MI) : ByteArray := M.2.1
abbrev mx_mL (M : mx_MI) : Nat := M.2.2.1
abbrev mx_rt (M : mx_MI) : Option FieldType := M.2.2.2.1
abbrev mx_hh (M : mx_MI) : List (Nat × Nat × Nat × Nat) := M.2.2.2.2.1
abbrev mx_ini (M : mx_MI) : Bool := M.2.2.2.2.2
def mx_C (ci : Nat) : String := match ci with
  | 0 => RX0 | 1 => RX1 | 2 => RX2 | 3 => RX3 | 4 => RX4 | 5 => RX5 | 6 => RX6 | 7 => RX7 | 8 => RX8 | 9 => RX9 | _ => RX10
def mx_F (ci : Nat) : u_T := match ci with
  | 0 => TX0 | 1 => TX1 | 2 => TX2 | 3 => TX3 | 4 => TX4 | 5 => TX5 | 6 => TX6 | 7 => TX7 | 8 => TX8 | 9 => TX9 | _ => TX10
def mx_ty (ci : Nat) : Nat → FieldType := match ci with
  | 0 => tyX0 | 1 => tyX1 | 2 => tyX2 | 3 => tyX3 | 4 => tyX4 | 5 => tyX5 | 6 => tyX6 | 7 => tyX7 | 8 => tyX8 | 9 => tyX9 | _ => tyX10
def mx_N (ci : Nat) : Nat := match ci with
  | 0 => 6 | 1 => 3 | 2 => 7 | 3 => 5 | 4 => 3 | 5 => 6 | 6 => 7 | 7 => 2 | 8 => 1 | 9 => 11 | _ => 32
def mx_cl (ci : Nat) : Prop := vwCl[ci]? = some (mx_C ci, mx_F ci, mx_N ci) ∧ (∀ w ∈ u_ws (mx_C ci) (mx_F ci) (mx_N ci), w ∈ mx_AW) ∧ (∀ k, k < mx_N ci → parseFieldDescriptor (mx_F ci k).2.2.1 = some (mx_ty ci k)) ∧ (∀ a, a < mx_N ci → ∀ b, b < mx_N ci → a ≠ b → (mx_F ci a).2.1 ≠ (mx_F ci b).2.1)
theorem mx_cls {ci : Nat} (h : ci < 10) : mx_cl ci := by
  match ci, h with
  | 0, _ => exact ⟨rfl, in_X0, tyX0_ok, nmX0⟩
  | 1, _ => exact ⟨rfl, in_X1, tyX1_ok, nmX1⟩
  | 2, _ => exact ⟨rfl, in_X2, tyX2_ok, nmX2⟩
  | 3, _ => exact ⟨rfl, in_X3, tyX3_ok, nmX3⟩
  | 4, _ => exact ⟨rfl, in_X4, tyX4_ok, nmX4⟩
  | 5, _ => exact ⟨rfl, in_X5, tyX5_ok, nmX5⟩
  | 6, _ => exact ⟨rfl, in_X6, tyX6_ok, nmX6⟩
  | 7, _ => exact ⟨rfl, in_X7, tyX7_ok, nmX7⟩
  | 8, _ => exact ⟨rfl, in_X8, tyX8_ok, nmX8⟩
  | 9, _ => exact ⟨rfl, in_X9, tyX9_ok, nmX9⟩
  | n + 10, h => omega
def mx_isRT (t : FieldType) : Bool := match t with
  | .object _ => true
  | .array _ => true
  | _ => false
def mx_isR (ci k : Nat) : Bool := mx_isRT (mx_ty ci k)
def mx_rv (n : Nat) : Value := match n with
  | 0 => .null
  | k + 1 => .ref (k + 1)
/-- the world's shape: how many cells, each one's kind, length, references, longs -/
abbrev mx_G : Type := Nat × (Nat → Nat) × (Nat → Nat) × (Nat → Nat → Nat) × (Nat → Nat → Int64)
/-- the world's ints: by address, by place -/
abbrev mx_I : Type := Nat → Nat → Int32
abbrev mx_sz (G : mx_G) : Nat := G.1
abbrev mx_tg (G : mx_G) : Nat → Nat := G.2.1
abbrev mx_ln (G : mx_G) : Nat → Nat := G.2.2.1
abbrev mx_rf (G : mx_G) : Nat → Nat → Nat := G.2.2.2.1
abbrev mx_lg (G : mx_G) : Nat → Nat → Int64 := G.2.2.2.2
def mx_fv (ci : Nat) (G : mx_G) (I : mx_I) (a k : Nat) : Value := if mx_isR ci k = true then mx_rv (mx_rf G a k) else .int (I a k)
def mx_at (D : va_G) (dA : Nat → ClassId) (G : mx_G) (I : mx_I) (H : Heap) (a : Nat) : Prop :=
  (∀ t, mx_tg G a = t → (t = 1 ∨ t = 2 ∨ t = 3) → H[a]? = some (arrV (dA t) (mx_ln G a) (fun j => .int (I a j)))) ∧
  (mx_tg G a = 4 → H[a]? = some (arrV (dA 4) (mx_ln G a) (fun j => .long (mx_lg G a j)))) ∧
  (∀ t, mx_tg G a = t → (t = 5 ∨ t = 6) → H[a]? = some (arrV (dA t) (mx_ln G a) (fun j => mx_rv (mx_rf G a j)))) ∧
  (∀ ci, mx_tg G a = ci + 10 → ci < 10 ∧ t_OB a (D.1 ci) (mx_N ci) (D.2 ci) H (fun k => mx_fv ci G I a k))
def mx_Rep (D : va_G) (dA : Nat → ClassId) (base : Nat) (H : Heap) (G : mx_G) (I : mx_I) : Prop :=
  H.size = mx_sz G ∧ base ≤ mx_sz G ∧ 1 ≤ base ∧ (∀ a, mx_sz G ≤ a → mx_tg G a = 0 ∧ (∀ k, mx_rf G a k = 0) ∧ (∀ k, I a k = 0) ∧ (∀ k, mx_lg G a k = 0)) ∧ (∀ a, a < base → mx_tg G a = 0) ∧ ∀ a, mx_at D dA G I H a
theorem mx_at.kept {D : va_G} {dA : Nat → ClassId} {G G' : mx_G} {I I' : mx_I} {H H' : Heap} {a : Nat} (h : mx_at D dA G I H a) (hH : H'[a]? = H[a]?) (ht : mx_tg G' a = mx_tg G a) (hl : mx_ln G' a = mx_ln G a) (hR : ∀ k, mx_rf G' a k = mx_rf G a k) (hL : ∀ k, mx_lg G' a k = mx_lg G a k) (hI : ∀ k, I' a k = I a k) : mx_at D dA G' I' H' a := by
  obtain ⟨h1, h2, h3, h4⟩ := h
  refine ⟨fun t e q => ?_, fun e => ?_, fun t e q => ?_, fun ci e => ?_⟩
  · rw [hH, hl, h1 t (ht ▸ e) q]
    simp only [hI]
  · rw [hH, hl, h2 (ht ▸ e)]
    simp only [hL]
  · rw [hH, hl, h3 t (ht ▸ e) q]
    simp only [hR]
  · obtain ⟨q1, q2⟩ := h4 ci (ht ▸ e)
    exact ⟨q1, (q2.kept hH).to (fun k _ => by simp only [mx_fv, hR, hI])⟩
theorem mx_lt {D : va_G} {dA : Nat → ClassId} {base : Nat} {H : Heap} {G : mx_G} {I : mx_I} (h : mx_Rep D dA base H G I) {a : Nat} (ha : mx_tg G a ≠ 0) : a < mx_sz G ∧ base ≤ a := by
  obtain ⟨h1, h2, h3, h4, h5, h6⟩ := h
  refine ⟨?_, ?_⟩
  · rcases Nat.lt_or_ge a (mx_sz G) with q | q
    · exact q
    · exact absurd (h4 a q).1 ha
  · rcases Nat.lt_or_ge a base with q | q
    · exact absurd (h5 a q) ha
    · exact q
/-- one cell changed -/
theorem mx_Rep.w {D : va_G} {dA : Nat → ClassId} {base : Nat} {H H' : Heap} {G G' : mx_G} {I I' : mx_I} (h : mx_Rep D dA base H G I) {a : Nat} (ha : mx_tg G a ≠ 0) (z : H'.size = H.size) (o : ∀ q, q ≠ a → H'[q]? = H[q]?)
    (hs : mx_sz G' = mx_sz G) (ht : mx_tg G' = mx_tg G) (hl : mx_ln G' = mx_ln G) (hR : ∀ b, b ≠ a → ∀ k, mx_rf G' b k = mx_rf G b k) (hL : ∀ b, b ≠ a → ∀ k, mx_lg G' b k = mx_lg G b k) (hI : ∀ b, b ≠ a → ∀ k, I' b k = I b k) (hat : mx_at D dA G' I' H' a) : mx_Rep D dA base H' G' I' := by
  obtain ⟨q1, q2⟩ := mx_lt h ha
  obtain ⟨h1, h2, h3, h4, h5, h6⟩ := h
  refine ⟨by rw [z, h1, hs], by rw [hs]; exact h2, h3, fun b hb => ?_, fun b hb => by rw [ht]; exact h5 b hb, fun b => ?_⟩
  · have hne : b ≠ a := by rw [hs] at hb; omega
    obtain ⟨e1, e2, e3, e4⟩ := h4 b (by rw [← hs]; exact hb)
    exact ⟨by rw [ht]; exact e1, fun k => by rw [hR b hne]; exact e2 k, fun k => by rw [hI b hne]; exact e3 k, fun k => by rw [hL b hne]; exact e4 k⟩
  · by_cases hne : b = a
    · rw [hne]; exact hat
    · exact (h6 b).kept (o b hne) (by rw [ht]) (by rw [hl]) (hR b hne) (hL b hne) (hI b hne)
def mx_u (I : mx_I) (a k : Nat) (v : Int32) : mx_I := fun b j => if b = a ∧ j = k then v else I b j
def mx_uR (G : mx_G) (a k r : Nat) : mx_G := (mx_sz G, mx_tg G, mx_ln G, fun b j => if b = a ∧ j = k then r else mx_rf G b j, mx_lg G)
def mx_uL (G : mx_G) (a k : Nat) (v : Int64) : mx_G := (mx_sz G, mx_tg G, mx_ln G, mx_rf G, fun b j => if b = a ∧ j = k then v else mx_lg G b j)
def mx_nw (G : mx_G) (t n : Nat) : mx_G := (mx_sz G + 1, fun b => if b = mx_sz G then t else mx_tg G b, fun b => if b = mx_sz G then n else mx_ln G b, mx_rf G, mx_lg G)
/-- more cells of no known kind -/
def mx_more (G : mx_G) (z : Nat) : mx_G := (z, mx_tg G, mx_ln G, mx_rf G, mx_lg G)
theorem mx_rf_uR (G : mx_G) (a k r b j : Nat) : mx_rf (mx_uR G a k r) b j = if b = a ∧ j = k then r else mx_rf G b j := rfl
theorem mx_lg_uL (G : mx_G) (a k : Nat) (v : Int64) (b j : Nat) : mx_lg (mx_uL G a k v) b j = if b = a ∧ j = k then v else mx_lg G b j := rfl
theorem mx_tg_nw (G : mx_G) (t n b : Nat) : mx_tg (mx_nw G t n) b = if b = mx_sz G then t else mx_tg G b := rfl
theorem mx_ln_nw (G : mx_G) (t n b : Nat) : mx_ln (mx_nw G t n) b = if b = mx_sz G then n else mx_ln G b := rfl
theorem mx_tg_uR (G : mx_G) (a k r : Nat) : mx_tg (mx_uR G a k r) = mx_tg G := rfl
theorem mx_ln_uR (G : mx_G) (a k r : Nat) : mx_ln (mx_uR G a k r) = mx_ln G := rfl
theorem mx_u_at (I : mx_I) (a k : Nat) (v : Int32) (b j : Nat) : mx_u I a k v b j = if b = a ∧ j = k then v else I b j := rfl
theorem mx_Rep.new {D : va_G} {dA : Nat → ClassId} {base : Nat} {H H' : Heap} {G : mx_G} {I : mx_I} (h : mx_Rep D dA base H G I) (t n : Nat) (z : H'.size = H.size + 1) (o : ∀ q, q < H.size → H'[q]? = H[q]?) (hat : mx_at D dA (mx_nw G t n) I H' (mx_sz G)) : mx_Rep D dA base H' (mx_nw G t n) I := by
  obtain ⟨h1, h2, h3, h4, h5, h6⟩ := h
  refine ⟨by rw [z, h1]; rfl, Nat.le_trans h2 (Nat.le_succ _), h3, fun b hb => ?_, fun b hb => ?_, fun b => ?_⟩
  · have hb : mx_sz G + 1 ≤ b := hb
    obtain ⟨e1, e2⟩ := h4 b (by omega)
    refine ⟨?_, e2⟩
    show (if b = mx_sz G then t else mx_tg G b) = 0
    rw [if_neg (by omega)]; exact e1
  · show (if b = mx_sz G then t else mx_tg G b) = 0
    rw [if_neg (by omega)]; exact h5 b hb
  · by_cases hne : b = mx_sz G
    · rw [hne]; exact hat
    · rcases Nat.lt_or_ge b (mx_sz G) with q | q
      · exact (h6 b).kept (o b (by omega)) (by show (if b = mx_sz G then t else mx_tg G b) = _; rw [if_neg hne]) (by show (if b = mx_sz G then n else mx_ln G b) = _; rw [if_neg hne]) (fun _ => rfl) (fun _ => rfl) (fun _ => rfl)
      · have e1 := (h4 b q).1
        have e2 : mx_tg (mx_nw G t n) b = 0 := by show (if b = mx_sz G then t else mx_tg G b) = 0; rw [if_neg hne]; exact e1
        exact ⟨fun t e q => by rw [e2] at e; omega, fun e => by rw [e2] at e; omega, fun t e q => by rw [e2] at e; omega, fun ci e => by rw [e2] at e; omega⟩
theorem mx_Rep.more {D : va_G} {dA : Nat → ClassId} {base : Nat} {H H' : Heap} {G : mx_G} {I : mx_I} (h : mx_Rep D dA base H G I) (z : H.size ≤ H'.size) (o : ∀ q, q < H.size → H'[q]? = H[q]?) : mx_Rep D dA base H' (mx_more G H'.size) I := by
  obtain ⟨h1, h2, h3, h4, h5, h6⟩ := h
  refine ⟨rfl, Nat.le_trans h2 (by rw [← h1]; exact z), h3, fun b hb => ?_, h5, fun b => ?_⟩
  · have hb : H'.size ≤ b := hb
    exact h4 b (by omega)
  · rcases Nat.lt_or_ge b (mx_sz G) with q | q
    · exact (h6 b).kept (o b (by omega)) rfl rfl (fun _ => rfl) (fun _ => rfl) (fun _ => rfl)
    · have e2 : mx_tg (mx_more G H'.size) b = 0 := (h4 b q).1
      exact ⟨fun t e q => by rw [e2] at e; omega, fun e => by rw [e2] at e; omega, fun t e q => by rw [e2] at e; omega, fun ci e => by rw [e2] at e; omega⟩
def mx_aty (k : Nat) : Option FieldType := match k with
  | 1 => some .int
  | 2 => some .char
  | 3 => some .boolean
  | 5 => some (.object "StepPaths$State")
  | 6 => some (.object "StepPaths$Piece")
  | _ => none
def mx_exs : List String := ["java/lang/IndexOutOfBoundsException", "java/lang/IllegalArgumentException", "java/lang/IllegalStateException"]
/-- words of a throw that the tables alone decide -/
def mx_EW : List Cond := [.declares (Bundle.initS "java/lang/RuntimeException"), .declares (Bundle.initS "java/lang/Exception"), .declares (Bundle.initS Bundle.tN), .castable "java/lang/IndexOutOfBoundsException" "java/lang/IndexOutOfBoundsException", .castable "java/lang/IllegalArgumentException" "java/lang/IllegalArgumentException", .castable "java/lang/IllegalStateException" "java/lang/IllegalStateException"]
theorem mx_EW_go {s U : State} (hW : s.WarmedH U.vm) : ∀ w ∈ mx_EW, va_Nw w s → va_Nw w U := by
  intro w hw h
  unfold mx_EW at hw
  simp only [List.mem_cons, List.not_mem_nil, or_false] at hw
  rcases hw with rfl | rfl | rfl | rfl | rfl | rfl
  · exact va_Nw.warmD hW h
  · exact va_Nw.warmD hW h
  · exact va_Nw.warmD hW h
  · exact va_Nw.warmC hW h
  · exact va_Nw.warmC hW h
  · exact va_Nw.warmC hW h
/-- what a state's tables say, and what lies in its heap below base -/
def mx_KK (base : Nat) (D : va_G) (dA : Nat → ClassId) (s : State) (H : Heap) : Prop :=
  va_K D vwCl [] s ∧ (∀ k ty, mx_aty k = some ty → ArrOfT s (dA k) ty ∧ va_RA s (dA k) ty) ∧
  vx_Zq Bundle.tN "UNASSIGNED_STACK" Bundle.steD (fun q => base ≤ q) s H ∧ vx_Zq Bundle.tN "SUPPRESSED_SENTINEL" Bundle.listD (fun q => base ≤ q) s H ∧
  (∃ a, vk_R RX9 278 "there is no such person, step or save slot" a s) ∧ (∃ a, vk_R RX9 285 "an argument is out of its range" a s) ∧ (∃ a, vk_R RX9 290 "the state or the text does not allow this" a s) ∧
  (∀ E ∈ mx_exs, ∀ F ∈ mx_exs, E ≠ F → va_Nc E F s) ∧ (va_AO "StepPaths$State" s ∧ va_AO "StepPaths$Piece" s ∧ ∀ w ∈ mx_EW, va_Nw w s) ∧ ∀ w ∈ mx_NW, va_Nw w s
theorem mx_NW_is (j : Nat) (w : Cond) (h : mx_NW[j]? = some w) : ∃ (own : String) (idx : Nat) (y : MethodName) (host : String), w = .methodLinkNest own idx y host := by
  have h1 : ∀ z ∈ mx_NW, ∃ (own : String) (idx : Nat) (y : MethodName) (host : String), z = .methodLinkNest own idx y host := by
    unfold mx_NW
    intro z hz
    simp only [List.mem_cons, List.not_mem_nil, or_false] at hz
    rcases hz with rfl | rfl | rfl | rfl | rfl | rfl | rfl | rfl | rfl | rfl | rfl | rfl <;> exact ⟨_, _, _, _, rfl⟩
  exact h1 w (List.mem_of_getElem? h)
theorem mx_KK.go {base : Nat} {D : va_G} {dA : Nat → ClassId} {s U : State} {H H' : Heap} (h : mx_KK base D dA s H) (hW : s.WarmedH U.vm) (hH : ∀ a : Nat, a < H.size → ¬ base ≤ a → H'[a]? = H[a]?) : mx_KK base D dA U H' := by
  obtain ⟨h1, h2, h3, h4, ⟨a5, h5⟩, ⟨a6, h6⟩, ⟨a7, h7⟩, h8, ⟨hao1, hao2, hex⟩, h9⟩ := h
  have hvm := hW.alike
  refine ⟨h1.moved hvm, fun k ty hk => ⟨arrOfT_moved hvm (h2 k ty hk).1, (h2 k ty hk).2.moved hvm⟩, (h3.moved hvm).kept hH, (h4.moved hvm).kept hH, ⟨a5, h5.warm hW⟩, ⟨a6, h6.warm hW⟩, ⟨a7, h7.warm hW⟩, fun E hE F hF hne => (h8 E hE F hF hne).moved hvm, ⟨va_AO.moved hvm hao1, va_AO.moved hvm hao2, fun w hw => mx_EW_go hW w hw (hex w hw)⟩, fun w hw => ?_⟩
  have h10 := h9 w hw
  obtain ⟨j, hj⟩ := List.getElem?_of_mem hw
  clear h9 hw
  obtain ⟨own, idx, y, host, rfl⟩ := mx_NW_is j w hj
  exact h10.warmM hW
/-- the locals that are known -/
def mx_L (lsA : Array Slot) (n : Nat) (ls : List (Option Value)) : Prop := lsA.size = n ∧ lv_wf lsA ∧ ∀ (i : Nat) (v : Value), ls[i]? = some (some v) → lsA[i]? = some (.val v)
/-- the script (of the law alone) -/
abbrev mx_Sc : Type := Nat × Nat × (Nat → Int32)
def mx_S0 : mx_Sc := (0, 65537, fun _ => 0)
/-- the script is there (the marker of 'no script' is a length that no script has) -/
def mx_hS (S : mx_Sc) : Prop := S.2.1 ≠ 65537
def mx_sc (S : mx_Sc) (base : Nat) (s : State) (H : Heap) : Prop := S.2.1 = 65537 ∨ (va_X S.1 S.2.1 S.2.2 s H ∧ S.1 < base)
def mx_Qc (Q : Option Value → mx_G → mx_I → Prop) (base : Nat) (D : va_G) (dA : Nat → ClassId) : Array Value → State → Outcome → State → Prop := fun _ st o t => (∃ v G I, o = .returned v ∧ Q v G I ∧ mx_Rep D dA base t.heap G I) ∧ va_F (fun q => base ≤ q) st t
def mx_Xc (X : String → mx_G → mx_I → Prop) (base : Nat) (D : va_G) (dA : Nat → ClassId) : String → State → State → Prop := fun E st t => (∃ G I, X E G I ∧ mx_Rep D dA base t.heap G I) ∧ va_F (fun q => base ≤ q) st t
def mx_Pc (av : List Value) (G : mx_G) (I : mx_I) (base : Nat) (D : va_G) (dA : Nat → ClassId) : Array Value → State → Prop := fun a U => a = av.toArray ∧ mx_Rep D dA base U.heap G I ∧ mx_KK base D dA U U.heap
def mx_cw (y : MethodName) (M : mx_MI) : Cond := match mx_hh M with
  | [] => .code y (mx_cc M) (mx_mL M) (mx_rt M)
  | h :: t => .codeWith y (mx_cc M) (mx_mL M) (mx_rt M) (h :: t)
def mx_ws (y : MethodName) (M : mx_MI) : List Cond := mx_cw y M :: mx_AW
def mx_rm (d bc bs : Nat) : Room := { frames := d, cells := bc, slots := bs, locals := 48 * d }
/-- THE CONTRACT: called with av in the world (G, I), y ends with Q or X -/
def mx_CT (y : MethodName) (M : mx_MI) (d bc bs : Nat) (av : List Value) (G : mx_G) (I : mx_I) (Q : Option Value → mx_G → mx_I → Prop) (X : String → mx_G → mx_I → Prop) : Prop :=
  ∀ (l : Launch) (base : Nat) (D : va_G) (dA : Nat → ClassId), l.flags = flags0 → vx_Met l y (mx_ws y M) (mx_rm d bc bs) (mx_Pc av G I base D dA) (mx_Qc Q base D dA) (mx_Xc X base D dA) bc bs (fun q => base ≤ q)
def mx_Fix (M : mx_MI) (S : mx_Sc) (d : Nat) (p : Program) (l : Launch) (R : Room) (s : State) (m : MethodId) (args : Array Value) (meth : Method) (c : Code) (mc ms base : Nat) (D : va_G) (dA : Nat → ClassId) : Prop :=
  p.tables.exec = Jvm.exec ∧ c.code = mx_cc M ∧ c.maxLocals = mx_mL M ∧ meth.sig.returnType = mx_rt M ∧ s.vm.findClass (mx_own M) = some m.cls ∧ (∀ w ∈ mx_AW, w.before args s = true) ∧ meth.locks = false ∧ c.exceptionTable.toList = tableOf (mx_hh M) ∧ (mx_ini M = true → meth.name = "<init>") ∧
  l.flags = flags0 ∧ d ≤ R.frames ∧ 48 * d ≤ R.locals ∧ mc ≤ R.cells ∧ ms ≤ R.slots ∧ base ≤ s.heap.size ∧ mx_KK base D dA s s.heap
def mx_Mov (M : mx_MI) (S : mx_Sc) (bc bs : Nat) (ls : List (Option Value)) (G : mx_G) (I : mx_I) (s : State) (H : Heap) (locs : List Loc) (cells slots mc ms base : Nat) (D : va_G) (dA : Nat → ClassId) (lsA : Array Slot) : Prop :=
  mx_Rep D dA base H G I ∧ va_S (fun q => base ≤ q) s.heap H locs ∧ cells + bc ≤ mc ∧ slots + bs ≤ ms ∧ mx_L lsA (mx_mL M) ls ∧ mx_sc S base s H
def mx_V (M : mx_MI) (S : mx_Sc) (d bc bs pc : Nat) (ls : List (Option Value)) (st : List Value) (G : mx_G) (I : mx_I) (Q : Option Value → mx_G → mx_I → Prop) (X : String → mx_G → mx_I → Prop) : Prop :=
  ∀ (p : Program) (l : Launch) (e : Env) (R : Room) (s : State) (m : MethodId) (args : Array Value) (below : List Frame) (meth : Method) (c : Code) (mc ms base : Nat) (D : va_G) (dA : Nat → ClassId), mx_Fix M S d p l R s m args meth c mc ms base D dA →
    ∀ (H : Heap) (locs : List Loc) (cells slots : Nat) (lsA : Array Slot), mx_Mov M S bc bs ls G I s H locs cells slots mc ms base D dA lsA →
      W p l e R s m args below meth c H locs cells slots (vx_MQ below (mx_Qc Q base D dA) (mx_Xc X base D dA) args s mc ms (fun q => base ≤ q)) (F0 m pc lsA st)
section MXR
variable {M : mx_MI} {S : mx_Sc} {d bc bs pc : Nat} {ls : List (Option Value)} {st : List Value} {G : mx_G} {I : mx_I} {Q : Option Value → mx_G → mx_I → Prop} {X : String → mx_G → mx_I → Prop}
theorem mx_L.at {lsA : Array Slot} {n : Nat} {ls : List (Option Value)} (h : mx_L lsA n ls) {i : Nat} {v : Value} (hl : ls[i]? = some (some v)) : lsA[i]? = some (.val v) := h.2.2 i v hl
theorem mx_L.sub {lsA : Array Slot} {n : Nat} {ls ls' : List (Option Value)} (h : mx_L lsA n ls) (hl : ∀ (i : Nat) (v : Value), ls'[i]? = some (some v) → ls[i]? = some (some v)) : mx_L lsA n ls' := ⟨h.1, h.2.1, fun i v q => h.2.2 i v (hl i v q)⟩
/-- the known locals as pairs -/
def mx_ps : Nat → List (Option Value) → List (Nat × Value)
  | _, [] => []
  | i, none :: r => mx_ps (i + 1) r
  | i, some v :: r => (i, v) :: mx_ps (i + 1) r
theorem mx_ps_mem (ls : List (Option Value)) : ∀ (o : Nat) (q : Nat × Value), q ∈ mx_ps o ls → ∃ j, q.1 = o + j ∧ ls[j]? = some (some q.2) := by
  induction ls with
  | nil => intro o q h; simp [mx_ps] at h
  | cons a r ih =>
    intro o q h
    cases a with
    | none =>
      obtain ⟨j, h1, h2⟩ := ih (o + 1) q h
      exact ⟨j + 1, by omega, by simpa using h2⟩
    | some v =>
      rcases List.mem_cons.mp h with h | h
      · subst h; exact ⟨0, by simp, by simp⟩
      · obtain ⟨j, h1, h2⟩ := ih (o + 1) q h
        exact ⟨j + 1, by omega, by simpa using h2⟩
theorem mx_mem_ps (ls : List (Option Value)) : ∀ (o j : Nat) (v : Value), ls[j]? = some (some v) → (o + j, v) ∈ mx_ps o ls := by
  induction ls with
  | nil => intro o j v h; simp at h
  | cons a r ih =>
    intro o j v h
    cases j with
    | zero =>
      have h1 : a = some v := by simpa using h
      subst h1
      exact List.mem_cons_self
    | succ j =>
      have h1 := ih (o + 1) j v (by simpa using h)
      have h2 : o + (j + 1) = o + 1 + j := by omega
      rw [h2]
      cases a with
      | none => exact h1
      | some w => exact List.mem_cons_of_mem _ h1
theorem mx_L.has {lsA : Array Slot} {n : Nat} {ls : List (Option Value)} (h : mx_L lsA n ls) : lv_has lsA n (mx_ps 0 ls) := ⟨h.1, h.2.1, fun q hq => by
  obtain ⟨j, h1, h2⟩ := mx_ps_mem ls 0 q hq
  rw [h1, Nat.zero_add]
  exact h.2.2 j q.2 h2⟩
/-- no long stands just ahead of i -/
def mx_ok (ls : List (Option Value)) (i : Nat) : Bool := match i with
  | 0 => true
  | j + 1 => match ls[j]? with
    | some (some (.long _)) => false
    | some (some (.double _)) => false
    | _ => true
theorem mx_ok_cat {ls : List (Option Value)} {j : Nat} {v : Value} (h : mx_ok ls (j + 1) = true) (hl : ls[j]? = some (some v)) : v.category ≠ 2 := by
  simp only [mx_ok, hl] at h
  cases v <;> simp_all [Value.category]
theorem mx_L.st1 {lsA : Array Slot} {n i : Nat} {ls : List (Option Value)} {v : Value} (hok : mx_ok ls i = true) {lv' : List (Nat × Value)} (h : mx_L lsA n ls) (hl' : lv' = (i, v) :: (mx_ps 0 ls).filter (fun q => !(q.1 == i) && !(q.1 + 1 == i && q.2.category == 2))) {lsB : Array Slot} (hB : lv_has lsB n lv') : mx_L lsB n (ls.set i (some v)) := by
  refine ⟨hB.1, hB.2.1, fun j w hj => ?_⟩
  by_cases hji : j = i
  · subst hji
    have : w = v := by
      have hlt : j < ls.length := by
        rcases Nat.lt_or_ge j ls.length with q | q
        · exact q
        · rw [List.getElem?_eq_none (by simpa using q)] at hj; cases hj
      rw [List.getElem?_set_self hlt] at hj
      simpa using hj.symm
    subst this
    exact hB.2.2 (j, w) (by rw [hl']; exact List.mem_cons_self)
  · rw [List.getElem?_set_ne (fun q => hji q.symm)] at hj
    refine hB.2.2 (j, w) ?_
    rw [hl']
    refine List.mem_cons_of_mem _ (List.mem_filter.mpr ⟨by simpa using mx_mem_ps ls 0 j w hj, ?_⟩)
    have h1 : (j == i) = false := by simp [hji]
    by_cases h2 : j + 1 = i
    · subst h2
      have h3 := mx_ok_cat hok hj
      simp [h1, h3]
    · simp [h1, h2]
theorem mx_L.st2 {lsA : Array Slot} {n i : Nat} {ls : List (Option Value)} {v : Value} (hok : mx_ok ls i = true) {lv' : List (Nat × Value)} (h : mx_L lsA n ls) (hl' : lv' = (i, v) :: (mx_ps 0 ls).filter (fun q => !(q.1 == i) && (!(q.1 == i + 1) && !(q.1 + 1 == i && q.2.category == 2)))) {lsB : Array Slot} (hB : lv_has lsB n lv') : mx_L lsB n ((ls.set i (some v)).set (i + 1) none) := by
  refine ⟨hB.1, hB.2.1, fun j w hj => ?_⟩
  by_cases hj1 : j = i + 1
  · subst hj1
    have hlt : i + 1 < (ls.set i (some v)).length := by
      rcases Nat.lt_or_ge (i + 1) (ls.set i (some v)).length with q | q
      · exact q
      · rw [List.getElem?_eq_none (by simpa using q)] at hj; cases hj
    rw [List.getElem?_set_self hlt] at hj
    cases hj
  · rw [List.getElem?_set_ne (fun q => hj1 q.symm)] at hj
    by_cases hji : j = i
    · subst hji
      have : w = v := by
        have hlt : j < ls.length := by
          rcases Nat.lt_or_ge j ls.length with q | q
          · exact q
          · rw [List.getElem?_eq_none (by simpa using q)] at hj; cases hj
        rw [List.getElem?_set_self hlt] at hj
        simpa using hj.symm
      subst this
      exact hB.2.2 (j, w) (by rw [hl']; exact List.mem_cons_self)
    · rw [List.getElem?_set_ne (fun q => hji q.symm)] at hj
      refine hB.2.2 (j, w) ?_
      rw [hl']
      refine List.mem_cons_of_mem _ (List.mem_filter.mpr ⟨by simpa using mx_mem_ps ls 0 j w hj, ?_⟩)
      have h1 : (j == i) = false := by simp [hji]
      have h4 : (j == i + 1) = false := by simp [hj1]
      by_cases h2 : j + 1 = i
      · subst h2
        have h3 := mx_ok_cat hok hj
        simp [h1, h4, h3]
      · simp [h1, h4, h2]
theorem mx_Mls {bc' bs' : Nat} {ls' : List (Option Value)} {s : State} {H : Heap} {locs : List Loc} {cells slots mc ms base : Nat} {D : va_G} {dA : Nat → ClassId} {lsA lsB : Array Slot} (h : mx_Mov M S bc bs ls G I s H locs cells slots mc ms base D dA lsA) (hb : mx_L lsB (mx_mL M) ls') : mx_Mov M S bc bs ls' G I s H locs cells slots mc ms base D dA lsB := ⟨h.1, h.2.1, h.2.2.1, h.2.2.2.1, hb, h.2.2.2.2.2⟩
/-- fewer known locals -/
theorem mx_sub {ls' : List (Option Value)} (hl : ∀ (i : Nat) (v : Value), ls'[i]? = some (some v) → ls[i]? = some (some v)) (k : mx_V M S d bc bs pc ls' st G I Q X) : mx_V M S d bc bs pc ls st G I Q X := by
  intro p l e R s m args below meth c mc ms base D dA hF H locs cells slots lsA hM
  exact k p l e R s m args below meth c mc ms base D dA hF H locs cells slots lsA (mx_Mls (bc' := 0) (bs' := 0) hM (hM.2.2.2.2.1.sub hl))
/-- a smaller debt -/
theorem mx_wk {bc' bs' : Nat} (h1 : bc' ≤ bc) (h2 : bs' ≤ bs) (k : mx_V M S d bc' bs' pc ls st G I Q X) : mx_V M S d bc bs pc ls st G I Q X := by
  intro p l e R s m args below meth c mc ms base D dA hF H locs cells slots lsA hM
  obtain ⟨a1, a2, a3, a4, a5, a6⟩ := hM
  exact k p l e R s m args below meth c mc ms base D dA hF H locs cells slots lsA ⟨a1, a2, by omega, by omega, a5, a6⟩

theorem mx_iload {i : Nat} {x : Int32} (hl : ls[i]? = some (some (.int x))) (hd : decode (mx_cc M) pc = .ok (.iload i, 2)) (k : mx_V M S d bc bs (pc + 2) ls (.int x :: st) G I Q X) : mx_V M S d bc bs pc ls st G I Q X := by
  intro p l e R s m args below meth c mc ms base D dA hF H locs cells slots lsA hM
  exact lv_iload hF.1 hF.2.1 hd (hM.2.2.2.2.1.at hl) (k p l e R s m args below meth c mc ms base D dA hF H locs cells slots lsA hM)
theorem mx_iload_n {i : Nat} {j : Fin 4} {x : Int32} (hi : (j : Nat) = i) (hl : ls[i]? = some (some (.int x))) (hd : decode (mx_cc M) pc = .ok (.iload_n j, 1)) (k : mx_V M S d bc bs (pc + 1) ls (.int x :: st) G I Q X) : mx_V M S d bc bs pc ls st G I Q X := by
  intro p l e R s m args below meth c mc ms base D dA hF H locs cells slots lsA hM
  exact lv_iload_n hF.1 hF.2.1 hd hi (hM.2.2.2.2.1.at hl) (k p l e R s m args below meth c mc ms base D dA hF H locs cells slots lsA hM)
theorem mx_lload {i : Nat} {x : Int64} (hl : ls[i]? = some (some (.long x))) (hd : decode (mx_cc M) pc = .ok (.lload i, 2)) (k : mx_V M S d bc bs (pc + 2) ls (.long x :: st) G I Q X) : mx_V M S d bc bs pc ls st G I Q X := by
  intro p l e R s m args below meth c mc ms base D dA hF H locs cells slots lsA hM
  exact lv_lload hF.1 hF.2.1 hd (hM.2.2.2.2.1.at hl) (k p l e R s m args below meth c mc ms base D dA hF H locs cells slots lsA hM)
theorem mx_lload_n {i : Nat} {j : Fin 4} {x : Int64} (hi : (j : Nat) = i) (hl : ls[i]? = some (some (.long x))) (hd : decode (mx_cc M) pc = .ok (.lload_n j, 1)) (k : mx_V M S d bc bs (pc + 1) ls (.long x :: st) G I Q X) : mx_V M S d bc bs pc ls st G I Q X := by
  intro p l e R s m args below meth c mc ms base D dA hF H locs cells slots lsA hM
  exact lv_lload_n hF.1 hF.2.1 hd hi (hM.2.2.2.2.1.at hl) (k p l e R s m args below meth c mc ms base D dA hF H locs cells slots lsA hM)
theorem mx_aload {i : Nat} {x : Nat} (hl : ls[i]? = some (some (.ref x))) (hd : decode (mx_cc M) pc = .ok (.aload i, 2)) (k : mx_V M S d bc bs (pc + 2) ls (.ref x :: st) G I Q X) : mx_V M S d bc bs pc ls st G I Q X := by
  intro p l e R s m args below meth c mc ms base D dA hF H locs cells slots lsA hM
  exact lv_aload hF.1 hF.2.1 hd (hM.2.2.2.2.1.at hl) (k p l e R s m args below meth c mc ms base D dA hF H locs cells slots lsA hM)
theorem mx_aload_n {i : Nat} {j : Fin 4} {x : Nat} (hi : (j : Nat) = i) (hl : ls[i]? = some (some (.ref x))) (hd : decode (mx_cc M) pc = .ok (.aload_n j, 1)) (k : mx_V M S d bc bs (pc + 1) ls (.ref x :: st) G I Q X) : mx_V M S d bc bs pc ls st G I Q X := by
  intro p l e R s m args below meth c mc ms base D dA hF H locs cells slots lsA hM
  exact lv_aload_n hF.1 hF.2.1 hd hi (hM.2.2.2.2.1.at hl) (k p l e R s m args below meth c mc ms base D dA hF H locs cells slots lsA hM)
theorem mx_istore {i : Nat} {x : Int32}  (hd : decode (mx_cc M) pc = .ok (.istore i, 2)) (hn : i < mx_mL M) (hok : mx_ok ls i = true) (k : mx_V M S d bc bs (pc + 2) (ls.set i (some (.int x))) st G I Q X) : mx_V M S d bc bs pc ls (.int x :: st) G I Q X := by
  intro p l e R s m args below meth c mc ms base D dA hF H locs cells slots lsA hM
  exact lv_istore hF.1 hF.2.1 hd  hM.2.2.2.2.1.has hn rfl (fun lsB hB => k p l e R s m args below meth c mc ms base D dA hF H locs cells slots lsB (mx_Mls (bc' := 0) (bs' := 0) hM (hM.2.2.2.2.1.st1 hok rfl hB)))
theorem mx_istore_n {i : Nat} {x : Int32} {j : Fin 4} (hi : (j : Nat) = i) (hd : decode (mx_cc M) pc = .ok (.istore_n j, 1)) (hn : i < mx_mL M) (hok : mx_ok ls i = true) (k : mx_V M S d bc bs (pc + 1) (ls.set i (some (.int x))) st G I Q X) : mx_V M S d bc bs pc ls (.int x :: st) G I Q X := by
  intro p l e R s m args below meth c mc ms base D dA hF H locs cells slots lsA hM
  exact lv_istore_n hF.1 hF.2.1 hd hi hM.2.2.2.2.1.has hn rfl (fun lsB hB => k p l e R s m args below meth c mc ms base D dA hF H locs cells slots lsB (mx_Mls (bc' := 0) (bs' := 0) hM (hM.2.2.2.2.1.st1 hok rfl hB)))
theorem mx_astore {i : Nat} {x : Nat}  (hd : decode (mx_cc M) pc = .ok (.astore i, 2)) (hn : i < mx_mL M) (hok : mx_ok ls i = true) (k : mx_V M S d bc bs (pc + 2) (ls.set i (some (.ref x))) st G I Q X) : mx_V M S d bc bs pc ls (.ref x :: st) G I Q X := by
  intro p l e R s m args below meth c mc ms base D dA hF H locs cells slots lsA hM
  exact lv_astore hF.1 hF.2.1 hd  hM.2.2.2.2.1.has hn rfl (fun lsB hB => k p l e R s m args below meth c mc ms base D dA hF H locs cells slots lsB (mx_Mls (bc' := 0) (bs' := 0) hM (hM.2.2.2.2.1.st1 hok rfl hB)))
theorem mx_astore_n {i : Nat} {x : Nat} {j : Fin 4} (hi : (j : Nat) = i) (hd : decode (mx_cc M) pc = .ok (.astore_n j, 1)) (hn : i < mx_mL M) (hok : mx_ok ls i = true) (k : mx_V M S d bc bs (pc + 1) (ls.set i (some (.ref x))) st G I Q X) : mx_V M S d bc bs pc ls (.ref x :: st) G I Q X := by
  intro p l e R s m args below meth c mc ms base D dA hF H locs cells slots lsA hM
  exact lv_astore_n hF.1 hF.2.1 hd hi hM.2.2.2.2.1.has hn rfl (fun lsB hB => k p l e R s m args below meth c mc ms base D dA hF H locs cells slots lsB (mx_Mls (bc' := 0) (bs' := 0) hM (hM.2.2.2.2.1.st1 hok rfl hB)))
theorem mx_lstore {i : Nat} {x : Int64}  (hd : decode (mx_cc M) pc = .ok (.lstore i, 2)) (hn : i + 1 < mx_mL M) (hok : mx_ok ls i = true) (k : mx_V M S d bc bs (pc + 2) ((ls.set i (some (.long x))).set (i + 1) none) st G I Q X) : mx_V M S d bc bs pc ls (.long x :: st) G I Q X := by
  intro p l e R s m args below meth c mc ms base D dA hF H locs cells slots lsA hM
  exact lv_lstore hF.1 hF.2.1 hd  hM.2.2.2.2.1.has hn rfl (fun lsB hB => k p l e R s m args below meth c mc ms base D dA hF H locs cells slots lsB (mx_Mls (bc' := 0) (bs' := 0) hM (hM.2.2.2.2.1.st2 hok rfl hB)))
theorem mx_lstore_n {i : Nat} {x : Int64} {j : Fin 4} (hi : (j : Nat) = i) (hd : decode (mx_cc M) pc = .ok (.lstore_n j, 1)) (hn : i + 1 < mx_mL M) (hok : mx_ok ls i = true) (k : mx_V M S d bc bs (pc + 1) ((ls.set i (some (.long x))).set (i + 1) none) st G I Q X) : mx_V M S d bc bs pc ls (.long x :: st) G I Q X := by
  intro p l e R s m args below meth c mc ms base D dA hF H locs cells slots lsA hM
  exact lv_lstore_n hF.1 hF.2.1 hd hi hM.2.2.2.2.1.has hn rfl (fun lsB hB => k p l e R s m args below meth c mc ms base D dA hF H locs cells slots lsB (mx_Mls (bc' := 0) (bs' := 0) hM (hM.2.2.2.2.1.st2 hok rfl hB)))
theorem mx_iinc {i : Nat} {n : Int} {x v : Int32} (hd : decode (mx_cc M) pc = .ok (.iinc i n, 3)) (hl : ls[i]? = some (some (.int x))) (hv : x + Int32.ofInt n = v) (hn : i < mx_mL M) (hok : mx_ok ls i = true) (k : mx_V M S d bc bs (pc + 3) (ls.set i (some (.int v))) st G I Q X) : mx_V M S d bc bs pc ls st G I Q X := by
  intro p l e R s m args below meth c mc ms base D dA hF H locs cells slots lsA hM
  obtain ⟨kk, hkk⟩ := List.getElem?_of_mem (show (i, Value.int x) ∈ mx_ps 0 ls by simpa using mx_mem_ps ls 0 i _ hl)
  exact lv_iinc (k := kk) hF.1 hF.2.1 hd hM.2.2.2.2.1.has hkk hv hn rfl (fun lsB hB => k p l e R s m args below meth c mc ms base D dA hF H locs cells slots lsB (mx_Mls (bc' := 0) (bs' := 0) hM (hM.2.2.2.2.1.st1 hok rfl hB)))
theorem mx_iconst {n : Int} {v : Int32} (hv : Int32.ofInt n = v) (hd : decode (mx_cc M) pc = .ok (.iconst n, 1)) (k : mx_V M S d bc bs (pc + 1) ls (.int v :: st) G I Q X) : mx_V M S d bc bs pc ls st G I Q X := by
  intro p l e R s m args below meth c mc ms base D dA hF H locs cells slots lsA hM
  exact lv_iconst hF.1 hF.2.1 hd hv (k p l e R s m args below meth c mc ms base D dA hF H locs cells slots lsA hM)
theorem mx_bipush {n : Int} {v : Int32} (hv : (Int8.ofInt n).toInt32 = v) (hd : decode (mx_cc M) pc = .ok (.bipush n, 2)) (k : mx_V M S d bc bs (pc + 2) ls (.int v :: st) G I Q X) : mx_V M S d bc bs pc ls st G I Q X := by
  intro p l e R s m args below meth c mc ms base D dA hF H locs cells slots lsA hM
  exact lv_bipush hF.1 hF.2.1 hd hv (k p l e R s m args below meth c mc ms base D dA hF H locs cells slots lsA hM)
theorem mx_sipush {n : Int} {v : Int32} (hv : (Int16.ofInt n).toInt32 = v) (hd : decode (mx_cc M) pc = .ok (.sipush n, 3)) (k : mx_V M S d bc bs (pc + 3) ls (.int v :: st) G I Q X) : mx_V M S d bc bs pc ls st G I Q X := by
  intro p l e R s m args below meth c mc ms base D dA hF H locs cells slots lsA hM
  exact lv_sipush hF.1 hF.2.1 hd hv (k p l e R s m args below meth c mc ms base D dA hF H locs cells slots lsA hM)
theorem mx_lconst {n : Fin 2} {v : Int64} (hv : Int64.ofNat (n : Nat) = v) (hd : decode (mx_cc M) pc = .ok (.lconst n, 1)) (k : mx_V M S d bc bs (pc + 1) ls (.long v :: st) G I Q X) : mx_V M S d bc bs pc ls st G I Q X := by
  intro p l e R s m args below meth c mc ms base D dA hF H locs cells slots lsA hM
  exact lv_lconst hF.1 hF.2.1 hd hv (k p l e R s m args below meth c mc ms base D dA hF H locs cells slots lsA hM)
theorem mx_ldc {index : Nat} {v : Int32} (hk : Cond.constant (mx_own M) index v ∈ mx_AW) (hd : decode (mx_cc M) pc = .ok (.ldc index, 2)) (k : mx_V M S d bc bs (pc + 2) ls (.int v :: st) G I Q X) : mx_V M S d bc bs pc ls st G I Q X := by
  intro p l e R s m args below meth c mc ms base D dA hF H locs cells slots lsA hM
  exact lv_ldc hF.1 hF.2.1 hF.2.2.2.2.1 (hF.2.2.2.2.2.1 _ hk) hd (k p l e R s m args below meth c mc ms base D dA hF H locs cells slots lsA hM)
theorem mx_ldcw {index : Nat} {v : Int32} (hk : Cond.constant (mx_own M) index v ∈ mx_AW) (hd : decode (mx_cc M) pc = .ok (.ldc_w index, 3)) (k : mx_V M S d bc bs (pc + 3) ls (.int v :: st) G I Q X) : mx_V M S d bc bs pc ls st G I Q X := by
  intro p l e R s m args below meth c mc ms base D dA hF H locs cells slots lsA hM
  exact lv_ldcw hF.1 hF.2.1 hF.2.2.2.2.1 (hF.2.2.2.2.2.1 _ hk) hd (k p l e R s m args below meth c mc ms base D dA hF H locs cells slots lsA hM)
theorem mx_ldc2 {index : Nat} {v : Int64} (hk : Cond.constantLong (mx_own M) index v ∈ mx_AW) (hd : decode (mx_cc M) pc = .ok (.ldc2_w index, 3)) (k : mx_V M S d bc bs (pc + 3) ls (.long v :: st) G I Q X) : mx_V M S d bc bs pc ls st G I Q X := by
  intro p l e R s m args below meth c mc ms base D dA hF H locs cells slots lsA hM
  exact lv_ldc2 hF.1 hF.2.1 hF.2.2.2.2.1 (hF.2.2.2.2.2.1 _ hk) hd (k p l e R s m args below meth c mc ms base D dA hF H locs cells slots lsA hM)
theorem mx_dup {va : Value} (hva : va.category = 1) (hd : decode (mx_cc M) pc = .ok (.dup, 1)) (k : mx_V M S d bc bs (pc + 1) ls (va :: va :: st) G I Q X) : mx_V M S d bc bs pc ls (va :: st) G I Q X := by
  intro p l e R s m args below meth c mc ms base D dA hF H locs cells slots lsA hM
  exact lv_dup hF.1 hF.2.1 hd hva (k p l e R s m args below meth c mc ms base D dA hF H locs cells slots lsA hM)
theorem mx_dup2 {va vb : Value} (hva : va.category = 1) (hvb : vb.category = 1) (hd : decode (mx_cc M) pc = .ok (.dup2, 1)) (k : mx_V M S d bc bs (pc + 1) ls (va :: vb :: va :: vb :: st) G I Q X) : mx_V M S d bc bs pc ls (va :: vb :: st) G I Q X := by
  intro p l e R s m args below meth c mc ms base D dA hF H locs cells slots lsA hM
  exact lv_dup2_11 hF.1 hF.2.1 hd hva hvb (k p l e R s m args below meth c mc ms base D dA hF H locs cells slots lsA hM)
theorem mx_pop {va : Value} (hva : va.category = 1) (hd : decode (mx_cc M) pc = .ok (.pop, 1)) (k : mx_V M S d bc bs (pc + 1) ls st G I Q X) : mx_V M S d bc bs pc ls (va :: st) G I Q X := by
  intro p l e R s m args below meth c mc ms base D dA hF H locs cells slots lsA hM
  exact lv_pop hF.1 hF.2.1 hd hva (k p l e R s m args below meth c mc ms base D dA hF H locs cells slots lsA hM)
theorem mx_iadd {x y : Int32} (hd : decode (mx_cc M) pc = .ok (.iadd, 1)) (k : mx_V M S d bc bs (pc + 1) ls (.int (x + y) :: st) G I Q X) : mx_V M S d bc bs pc ls (.int y :: .int x :: st) G I Q X := by
  intro p l e R s m args below meth c mc ms base D dA hF H locs cells slots lsA hM
  exact lv_iadd hF.1 hF.2.1 hd  (k p l e R s m args below meth c mc ms base D dA hF H locs cells slots lsA hM)
theorem mx_isub {x y : Int32} (hd : decode (mx_cc M) pc = .ok (.isub, 1)) (k : mx_V M S d bc bs (pc + 1) ls (.int (x - y) :: st) G I Q X) : mx_V M S d bc bs pc ls (.int y :: .int x :: st) G I Q X := by
  intro p l e R s m args below meth c mc ms base D dA hF H locs cells slots lsA hM
  exact lv_isub hF.1 hF.2.1 hd  (k p l e R s m args below meth c mc ms base D dA hF H locs cells slots lsA hM)
theorem mx_imul {x y : Int32} (hd : decode (mx_cc M) pc = .ok (.imul, 1)) (k : mx_V M S d bc bs (pc + 1) ls (.int (x * y) :: st) G I Q X) : mx_V M S d bc bs pc ls (.int y :: .int x :: st) G I Q X := by
  intro p l e R s m args below meth c mc ms base D dA hF H locs cells slots lsA hM
  exact lv_imul hF.1 hF.2.1 hd  (k p l e R s m args below meth c mc ms base D dA hF H locs cells slots lsA hM)
theorem mx_iand {x y : Int32} (hd : decode (mx_cc M) pc = .ok (.iand, 1)) (k : mx_V M S d bc bs (pc + 1) ls (.int (x &&& y) :: st) G I Q X) : mx_V M S d bc bs pc ls (.int y :: .int x :: st) G I Q X := by
  intro p l e R s m args below meth c mc ms base D dA hF H locs cells slots lsA hM
  exact lv_iand hF.1 hF.2.1 hd  (k p l e R s m args below meth c mc ms base D dA hF H locs cells slots lsA hM)
theorem mx_ior {x y : Int32} (hd : decode (mx_cc M) pc = .ok (.ior, 1)) (k : mx_V M S d bc bs (pc + 1) ls (.int (x ||| y) :: st) G I Q X) : mx_V M S d bc bs pc ls (.int y :: .int x :: st) G I Q X := by
  intro p l e R s m args below meth c mc ms base D dA hF H locs cells slots lsA hM
  exact lv_ior hF.1 hF.2.1 hd  (k p l e R s m args below meth c mc ms base D dA hF H locs cells slots lsA hM)
theorem mx_ixor {x y : Int32} (hd : decode (mx_cc M) pc = .ok (.ixor, 1)) (k : mx_V M S d bc bs (pc + 1) ls (.int (x ^^^ y) :: st) G I Q X) : mx_V M S d bc bs pc ls (.int y :: .int x :: st) G I Q X := by
  intro p l e R s m args below meth c mc ms base D dA hF H locs cells slots lsA hM
  exact lv_ixor hF.1 hF.2.1 hd  (k p l e R s m args below meth c mc ms base D dA hF H locs cells slots lsA hM)
theorem mx_ishl {x y : Int32} (hd : decode (mx_cc M) pc = .ok (.ishl, 1)) (k : mx_V M S d bc bs (pc + 1) ls (.int (x <<< (y &&& 31)) :: st) G I Q X) : mx_V M S d bc bs pc ls (.int y :: .int x :: st) G I Q X := by
  intro p l e R s m args below meth c mc ms base D dA hF H locs cells slots lsA hM
  exact lv_ishl hF.1 hF.2.1 hd  (k p l e R s m args below meth c mc ms base D dA hF H locs cells slots lsA hM)
theorem mx_ishr {x y : Int32} (hd : decode (mx_cc M) pc = .ok (.ishr, 1)) (k : mx_V M S d bc bs (pc + 1) ls (.int (x >>> (y &&& 31)) :: st) G I Q X) : mx_V M S d bc bs pc ls (.int y :: .int x :: st) G I Q X := by
  intro p l e R s m args below meth c mc ms base D dA hF H locs cells slots lsA hM
  exact lv_ishr hF.1 hF.2.1 hd  (k p l e R s m args below meth c mc ms base D dA hF H locs cells slots lsA hM)
theorem mx_iushr {x y v : Int32} (hv : (x.toUInt32 >>> (y.toUInt32 &&& Int32.toUInt32 31)).toInt32 = v) (hd : decode (mx_cc M) pc = .ok (.iushr, 1)) (k : mx_V M S d bc bs (pc + 1) ls (.int v :: st) G I Q X) : mx_V M S d bc bs pc ls (.int y :: .int x :: st) G I Q X := by
  intro p l e R s m args below meth c mc ms base D dA hF H locs cells slots lsA hM
  exact lv_iushr hF.1 hF.2.1 hd hv (k p l e R s m args below meth c mc ms base D dA hF H locs cells slots lsA hM)
theorem mx_idiv {x y : Int32} (hne : ¬ y = 0) (hd : decode (mx_cc M) pc = .ok (.idiv, 1)) (k : mx_V M S d bc bs (pc + 1) ls (.int (x / y) :: st) G I Q X) : mx_V M S d bc bs pc ls (.int y :: .int x :: st) G I Q X := by
  intro p l e R s m args below meth c mc ms base D dA hF H locs cells slots lsA hM
  exact lv_idiv hF.1 hF.2.1 hd hne (k p l e R s m args below meth c mc ms base D dA hF H locs cells slots lsA hM)
theorem mx_irem {x y : Int32} (hne : ¬ y = 0) (hd : decode (mx_cc M) pc = .ok (.irem, 1)) (k : mx_V M S d bc bs (pc + 1) ls (.int (x - x / y * y) :: st) G I Q X) : mx_V M S d bc bs pc ls (.int y :: .int x :: st) G I Q X := by
  intro p l e R s m args below meth c mc ms base D dA hF H locs cells slots lsA hM
  exact lv_irem hF.1 hF.2.1 hd hne (k p l e R s m args below meth c mc ms base D dA hF H locs cells slots lsA hM)
theorem mx_ladd {x y : Int64} (hd : decode (mx_cc M) pc = .ok (.ladd, 1)) (k : mx_V M S d bc bs (pc + 1) ls (.long (x + y) :: st) G I Q X) : mx_V M S d bc bs pc ls (.long y :: .long x :: st) G I Q X := by
  intro p l e R s m args below meth c mc ms base D dA hF H locs cells slots lsA hM
  exact lv_ladd hF.1 hF.2.1 hd  (k p l e R s m args below meth c mc ms base D dA hF H locs cells slots lsA hM)
theorem mx_lsub {x y : Int64} (hd : decode (mx_cc M) pc = .ok (.lsub, 1)) (k : mx_V M S d bc bs (pc + 1) ls (.long (x - y) :: st) G I Q X) : mx_V M S d bc bs pc ls (.long y :: .long x :: st) G I Q X := by
  intro p l e R s m args below meth c mc ms base D dA hF H locs cells slots lsA hM
  exact lv_lsub hF.1 hF.2.1 hd  (k p l e R s m args below meth c mc ms base D dA hF H locs cells slots lsA hM)
theorem mx_lmul {x y : Int64} (hd : decode (mx_cc M) pc = .ok (.lmul, 1)) (k : mx_V M S d bc bs (pc + 1) ls (.long (x * y) :: st) G I Q X) : mx_V M S d bc bs pc ls (.long y :: .long x :: st) G I Q X := by
  intro p l e R s m args below meth c mc ms base D dA hF H locs cells slots lsA hM
  exact lv_lmul hF.1 hF.2.1 hd  (k p l e R s m args below meth c mc ms base D dA hF H locs cells slots lsA hM)
theorem mx_land {x y : Int64} (hd : decode (mx_cc M) pc = .ok (.land, 1)) (k : mx_V M S d bc bs (pc + 1) ls (.long (x &&& y) :: st) G I Q X) : mx_V M S d bc bs pc ls (.long y :: .long x :: st) G I Q X := by
  intro p l e R s m args below meth c mc ms base D dA hF H locs cells slots lsA hM
  exact lv_land hF.1 hF.2.1 hd  (k p l e R s m args below meth c mc ms base D dA hF H locs cells slots lsA hM)
theorem mx_lor {x y : Int64} (hd : decode (mx_cc M) pc = .ok (.lor, 1)) (k : mx_V M S d bc bs (pc + 1) ls (.long (x ||| y) :: st) G I Q X) : mx_V M S d bc bs pc ls (.long y :: .long x :: st) G I Q X := by
  intro p l e R s m args below meth c mc ms base D dA hF H locs cells slots lsA hM
  exact lv_lor hF.1 hF.2.1 hd  (k p l e R s m args below meth c mc ms base D dA hF H locs cells slots lsA hM)
theorem mx_ldiv {x y : Int64} (hne : ¬ y = 0) (hd : decode (mx_cc M) pc = .ok (.ldiv, 1)) (k : mx_V M S d bc bs (pc + 1) ls (.long (x / y) :: st) G I Q X) : mx_V M S d bc bs pc ls (.long y :: .long x :: st) G I Q X := by
  intro p l e R s m args below meth c mc ms base D dA hF H locs cells slots lsA hM
  exact lv_ldiv hF.1 hF.2.1 hd hne (k p l e R s m args below meth c mc ms base D dA hF H locs cells slots lsA hM)
theorem mx_lrem {x y : Int64} (hne : ¬ y = 0) (hd : decode (mx_cc M) pc = .ok (.lrem, 1)) (k : mx_V M S d bc bs (pc + 1) ls (.long (x - x / y * y) :: st) G I Q X) : mx_V M S d bc bs pc ls (.long y :: .long x :: st) G I Q X := by
  intro p l e R s m args below meth c mc ms base D dA hF H locs cells slots lsA hM
  exact lv_lrem hF.1 hF.2.1 hd hne (k p l e R s m args below meth c mc ms base D dA hF H locs cells slots lsA hM)
theorem mx_lshl {x v : Int64} {y : Int32} (hv : x <<< (y.toInt64 &&& 63) = v) (hd : decode (mx_cc M) pc = .ok (.lshl, 1)) (k : mx_V M S d bc bs (pc + 1) ls (.long v :: st) G I Q X) : mx_V M S d bc bs pc ls (.int y :: .long x :: st) G I Q X := by
  intro p l e R s m args below meth c mc ms base D dA hF H locs cells slots lsA hM
  exact lv_lshl hF.1 hF.2.1 hd hv (k p l e R s m args below meth c mc ms base D dA hF H locs cells slots lsA hM)
theorem mx_lushr {x v : Int64} {y : Int32} (hv : (x.toUInt64 >>> (y.toInt64.toUInt64 &&& Int64.toUInt64 63)).toInt64 = v) (hd : decode (mx_cc M) pc = .ok (.lushr, 1)) (k : mx_V M S d bc bs (pc + 1) ls (.long v :: st) G I Q X) : mx_V M S d bc bs pc ls (.int y :: .long x :: st) G I Q X := by
  intro p l e R s m args below meth c mc ms base D dA hF H locs cells slots lsA hM
  exact lv_lushr hF.1 hF.2.1 hd hv (k p l e R s m args below meth c mc ms base D dA hF H locs cells slots lsA hM)
theorem mx_i2c {x v : Int32} (hv : (x.toUInt32 % 65536).toInt32 = v) (hd : decode (mx_cc M) pc = .ok (.i2c, 1)) (k : mx_V M S d bc bs (pc + 1) ls (.int v :: st) G I Q X) : mx_V M S d bc bs pc ls (.int x :: st) G I Q X := by
  intro p l e R s m args below meth c mc ms base D dA hF H locs cells slots lsA hM
  exact lv_i2c hF.1 hF.2.1 hd hv (k p l e R s m args below meth c mc ms base D dA hF H locs cells slots lsA hM)
theorem mx_i2l {x : Int32} {v : Int64} (hv : x.toInt64 = v) (hd : decode (mx_cc M) pc = .ok (.i2l, 1)) (k : mx_V M S d bc bs (pc + 1) ls (.long v :: st) G I Q X) : mx_V M S d bc bs pc ls (.int x :: st) G I Q X := by
  intro p l e R s m args below meth c mc ms base D dA hF H locs cells slots lsA hM
  exact lv_i2l hF.1 hF.2.1 hd hv (k p l e R s m args below meth c mc ms base D dA hF H locs cells slots lsA hM)
theorem mx_l2i {x : Int64} {v : Int32} (hv : x.toInt32 = v) (hd : decode (mx_cc M) pc = .ok (.l2i, 1)) (k : mx_V M S d bc bs (pc + 1) ls (.int v :: st) G I Q X) : mx_V M S d bc bs pc ls (.long x :: st) G I Q X := by
  intro p l e R s m args below meth c mc ms base D dA hF H locs cells slots lsA hM
  exact lv_l2i hF.1 hF.2.1 hd hv (k p l e R s m args below meth c mc ms base D dA hF H locs cells slots lsA hM)
theorem mx_lcmp {x y : Int64} (hd : decode (mx_cc M) pc = .ok (.lcmp, 1)) (k : mx_V M S d bc bs (pc + 1) ls (.int (lg_cmp x y) :: st) G I Q X) : mx_V M S d bc bs pc ls (.long y :: .long x :: st) G I Q X := by
  intro p l e R s m args below meth c mc ms base D dA hF H locs cells slots lsA hM
  exact W.lcmp hF.1 hF.2.1 hd (k p l e R s m args below meth c mc ms base D dA hF H locs cells slots lsA hM)
theorem mx_if_eq {x : Int32} {off : Int} {tgt : Nat} (hd : decode (mx_cc M) pc = .ok (.ifCond .eq off, 3)) (ht : (pc : Int) + off = (tgt : Int)) (kt : x = 0 → mx_V M S d bc bs tgt ls st G I Q X) (kf : ¬ x = 0 → mx_V M S d bc bs (pc + 3) ls st G I Q X) : mx_V M S d bc bs pc ls (.int x :: st) G I Q X := by
  intro p l e R s m args below meth c mc ms base D dA hF H locs cells slots lsA hM
  exact lv_if_eq hF.1 hF.2.1 hd ht (fun q => kt q p l e R s m args below meth c mc ms base D dA hF H locs cells slots lsA hM) (fun q => kf q p l e R s m args below meth c mc ms base D dA hF H locs cells slots lsA hM)
theorem mx_if_ne {x : Int32} {off : Int} {tgt : Nat} (hd : decode (mx_cc M) pc = .ok (.ifCond .ne off, 3)) (ht : (pc : Int) + off = (tgt : Int)) (kt : ¬ x = 0 → mx_V M S d bc bs tgt ls st G I Q X) (kf : x = 0 → mx_V M S d bc bs (pc + 3) ls st G I Q X) : mx_V M S d bc bs pc ls (.int x :: st) G I Q X := by
  intro p l e R s m args below meth c mc ms base D dA hF H locs cells slots lsA hM
  exact lv_if_ne hF.1 hF.2.1 hd ht (fun q => kt q p l e R s m args below meth c mc ms base D dA hF H locs cells slots lsA hM) (fun q => kf q p l e R s m args below meth c mc ms base D dA hF H locs cells slots lsA hM)
theorem mx_if_lt {x : Int32} {off : Int} {tgt : Nat} (hd : decode (mx_cc M) pc = .ok (.ifCond .lt off, 3)) (ht : (pc : Int) + off = (tgt : Int)) (kt : x < 0 → mx_V M S d bc bs tgt ls st G I Q X) (kf : ¬ x < 0 → mx_V M S d bc bs (pc + 3) ls st G I Q X) : mx_V M S d bc bs pc ls (.int x :: st) G I Q X := by
  intro p l e R s m args below meth c mc ms base D dA hF H locs cells slots lsA hM
  exact lv_if_lt hF.1 hF.2.1 hd ht (fun q => kt q p l e R s m args below meth c mc ms base D dA hF H locs cells slots lsA hM) (fun q => kf q p l e R s m args below meth c mc ms base D dA hF H locs cells slots lsA hM)
theorem mx_if_ge {x : Int32} {off : Int} {tgt : Nat} (hd : decode (mx_cc M) pc = .ok (.ifCond .ge off, 3)) (ht : (pc : Int) + off = (tgt : Int)) (kt : 0 ≤ x → mx_V M S d bc bs tgt ls st G I Q X) (kf : ¬ 0 ≤ x → mx_V M S d bc bs (pc + 3) ls st G I Q X) : mx_V M S d bc bs pc ls (.int x :: st) G I Q X := by
  intro p l e R s m args below meth c mc ms base D dA hF H locs cells slots lsA hM
  exact lv_if_ge hF.1 hF.2.1 hd ht (fun q => kt q p l e R s m args below meth c mc ms base D dA hF H locs cells slots lsA hM) (fun q => kf q p l e R s m args below meth c mc ms base D dA hF H locs cells slots lsA hM)
theorem mx_if_gt {x : Int32} {off : Int} {tgt : Nat} (hd : decode (mx_cc M) pc = .ok (.ifCond .gt off, 3)) (ht : (pc : Int) + off = (tgt : Int)) (kt : 0 < x → mx_V M S d bc bs tgt ls st G I Q X) (kf : ¬ 0 < x → mx_V M S d bc bs (pc + 3) ls st G I Q X) : mx_V M S d bc bs pc ls (.int x :: st) G I Q X := by
  intro p l e R s m args below meth c mc ms base D dA hF H locs cells slots lsA hM
  exact lv_if_gt hF.1 hF.2.1 hd ht (fun q => kt q p l e R s m args below meth c mc ms base D dA hF H locs cells slots lsA hM) (fun q => kf q p l e R s m args below meth c mc ms base D dA hF H locs cells slots lsA hM)
theorem mx_if_le {x : Int32} {off : Int} {tgt : Nat} (hd : decode (mx_cc M) pc = .ok (.ifCond .le off, 3)) (ht : (pc : Int) + off = (tgt : Int)) (kt : x ≤ 0 → mx_V M S d bc bs tgt ls st G I Q X) (kf : ¬ x ≤ 0 → mx_V M S d bc bs (pc + 3) ls st G I Q X) : mx_V M S d bc bs pc ls (.int x :: st) G I Q X := by
  intro p l e R s m args below meth c mc ms base D dA hF H locs cells slots lsA hM
  exact lv_if_le hF.1 hF.2.1 hd ht (fun q => kt q p l e R s m args below meth c mc ms base D dA hF H locs cells slots lsA hM) (fun q => kf q p l e R s m args below meth c mc ms base D dA hF H locs cells slots lsA hM)
theorem mx_icmp_eq {x y : Int32} {off : Int} {tgt : Nat} (hd : decode (mx_cc M) pc = .ok (.if_icmp .eq off, 3)) (ht : (pc : Int) + off = (tgt : Int)) (kt : x = y → mx_V M S d bc bs tgt ls st G I Q X) (kf : ¬ x = y → mx_V M S d bc bs (pc + 3) ls st G I Q X) : mx_V M S d bc bs pc ls (.int y :: .int x :: st) G I Q X := by
  intro p l e R s m args below meth c mc ms base D dA hF H locs cells slots lsA hM
  exact lv_icmp_eq hF.1 hF.2.1 hd ht (fun q => kt q p l e R s m args below meth c mc ms base D dA hF H locs cells slots lsA hM) (fun q => kf q p l e R s m args below meth c mc ms base D dA hF H locs cells slots lsA hM)
theorem mx_icmp_ne {x y : Int32} {off : Int} {tgt : Nat} (hd : decode (mx_cc M) pc = .ok (.if_icmp .ne off, 3)) (ht : (pc : Int) + off = (tgt : Int)) (kt : ¬ x = y → mx_V M S d bc bs tgt ls st G I Q X) (kf : x = y → mx_V M S d bc bs (pc + 3) ls st G I Q X) : mx_V M S d bc bs pc ls (.int y :: .int x :: st) G I Q X := by
  intro p l e R s m args below meth c mc ms base D dA hF H locs cells slots lsA hM
  exact lv_icmp_ne hF.1 hF.2.1 hd ht (fun q => kt q p l e R s m args below meth c mc ms base D dA hF H locs cells slots lsA hM) (fun q => kf q p l e R s m args below meth c mc ms base D dA hF H locs cells slots lsA hM)
theorem mx_icmp_lt {x y : Int32} {off : Int} {tgt : Nat} (hd : decode (mx_cc M) pc = .ok (.if_icmp .lt off, 3)) (ht : (pc : Int) + off = (tgt : Int)) (kt : x < y → mx_V M S d bc bs tgt ls st G I Q X) (kf : ¬ x < y → mx_V M S d bc bs (pc + 3) ls st G I Q X) : mx_V M S d bc bs pc ls (.int y :: .int x :: st) G I Q X := by
  intro p l e R s m args below meth c mc ms base D dA hF H locs cells slots lsA hM
  exact lv_icmp_lt hF.1 hF.2.1 hd ht (fun q => kt q p l e R s m args below meth c mc ms base D dA hF H locs cells slots lsA hM) (fun q => kf q p l e R s m args below meth c mc ms base D dA hF H locs cells slots lsA hM)
theorem mx_icmp_ge {x y : Int32} {off : Int} {tgt : Nat} (hd : decode (mx_cc M) pc = .ok (.if_icmp .ge off, 3)) (ht : (pc : Int) + off = (tgt : Int)) (kt : y ≤ x → mx_V M S d bc bs tgt ls st G I Q X) (kf : ¬ y ≤ x → mx_V M S d bc bs (pc + 3) ls st G I Q X) : mx_V M S d bc bs pc ls (.int y :: .int x :: st) G I Q X := by
  intro p l e R s m args below meth c mc ms base D dA hF H locs cells slots lsA hM
  exact lv_icmp_ge hF.1 hF.2.1 hd ht (fun q => kt q p l e R s m args below meth c mc ms base D dA hF H locs cells slots lsA hM) (fun q => kf q p l e R s m args below meth c mc ms base D dA hF H locs cells slots lsA hM)
theorem mx_icmp_gt {x y : Int32} {off : Int} {tgt : Nat} (hd : decode (mx_cc M) pc = .ok (.if_icmp .gt off, 3)) (ht : (pc : Int) + off = (tgt : Int)) (kt : y < x → mx_V M S d bc bs tgt ls st G I Q X) (kf : ¬ y < x → mx_V M S d bc bs (pc + 3) ls st G I Q X) : mx_V M S d bc bs pc ls (.int y :: .int x :: st) G I Q X := by
  intro p l e R s m args below meth c mc ms base D dA hF H locs cells slots lsA hM
  exact lv_icmp_gt hF.1 hF.2.1 hd ht (fun q => kt q p l e R s m args below meth c mc ms base D dA hF H locs cells slots lsA hM) (fun q => kf q p l e R s m args below meth c mc ms base D dA hF H locs cells slots lsA hM)
theorem mx_icmp_le {x y : Int32} {off : Int} {tgt : Nat} (hd : decode (mx_cc M) pc = .ok (.if_icmp .le off, 3)) (ht : (pc : Int) + off = (tgt : Int)) (kt : x ≤ y → mx_V M S d bc bs tgt ls st G I Q X) (kf : ¬ x ≤ y → mx_V M S d bc bs (pc + 3) ls st G I Q X) : mx_V M S d bc bs pc ls (.int y :: .int x :: st) G I Q X := by
  intro p l e R s m args below meth c mc ms base D dA hF H locs cells slots lsA hM
  exact lv_icmp_le hF.1 hF.2.1 hd ht (fun q => kt q p l e R s m args below meth c mc ms base D dA hF H locs cells slots lsA hM) (fun q => kf q p l e R s m args below meth c mc ms base D dA hF H locs cells slots lsA hM)
theorem mx_goto {off : Int} {tgt : Nat} (hd : decode (mx_cc M) pc = .ok (.goto off, 3)) (ht : (pc : Int) + off = (tgt : Int)) (k : mx_V M S d bc bs tgt ls st G I Q X) : mx_V M S d bc bs pc ls st G I Q X := by
  intro p l e R s m args below meth c mc ms base D dA hF H locs cells slots lsA hM
  exact lv_goto hF.1 hF.2.1 hd ht (k p l e R s m args below meth c mc ms base D dA hF H locs cells slots lsA hM)
theorem mx_tabIn {dflt lo hi : Int} {offs : Array Int} {len : Nat} {x : Int32} {off : Int} {tgt : Nat} (hd : decode (mx_cc M) pc = .ok (.tableswitch dflt lo hi offs, len)) (h1 : ¬ x.toInt < lo) (h2 : ¬ hi < x.toInt) (ho : offs[(x.toInt - lo).toNat]? = some off) (ht : (pc : Int) + off = (tgt : Int)) (k : mx_V M S d bc bs tgt ls st G I Q X) : mx_V M S d bc bs pc ls (.int x :: st) G I Q X := by
  intro p l e R s m args below meth c mc ms base D dA hF H locs cells slots lsA hM
  exact lv_tableIn hF.1 hF.2.1 hd h1 h2 ho ht (k p l e R s m args below meth c mc ms base D dA hF H locs cells slots lsA hM)
theorem mx_tabOut {dflt lo hi : Int} {offs : Array Int} {len : Nat} {x : Int32} {tgt : Nat} (hd : decode (mx_cc M) pc = .ok (.tableswitch dflt lo hi offs, len)) (h : x.toInt < lo ∨ hi < x.toInt) (ht : (pc : Int) + dflt = (tgt : Int)) (k : mx_V M S d bc bs tgt ls st G I Q X) : mx_V M S d bc bs pc ls (.int x :: st) G I Q X := by
  intro p l e R s m args below meth c mc ms base D dA hF H locs cells slots lsA hM
  exact lv_tableOut hF.1 hF.2.1 hd h ht (k p l e R s m args below meth c mc ms base D dA hF H locs cells slots lsA hM)
end MXR
section MXM
variable {M : mx_MI} {S : mx_Sc} {d bc bs pc : Nat} {ls : List (Option Value)} {st : List Value} {G : mx_G} {I : mx_I} {Q : Option Value → mx_G → mx_I → Prop} {X : String → mx_G → mx_I → Prop}
/-- index i is place j of n -/
def mx_ix (i : Int32) (j n : Nat) : Prop := i = nI j ∧ j < n ∧ n ≤ 65536
theorem mx_ix.in {i : Int32} {j n : Nat} (h : mx_ix i j n) : vp_in i n := by
  obtain ⟨h1, h2, h3⟩ := h
  rw [h1]
  exact vp_in_nI h2 (by omega)
theorem mx_ix.at {i : Int32} {j n : Nat} (h : mx_ix i j n) : i.toNatClampNeg = j := by
  obtain ⟨h1, h2, h3⟩ := h
  rw [h1]
  exact nI_clamp (by omega)
theorem mx_Mworld {H' : Heap} {locs' : List Loc} {G' : mx_G} {I' : mx_I} {s : State} {H : Heap} {locs : List Loc} {cells slots mc ms base : Nat} {D : va_G} {dA : Nat → ClassId} {lsA : Array Slot} (h : mx_Mov M S bc bs ls G I s H locs cells slots mc ms base D dA lsA)
    (hR : mx_Rep D dA base H' G' I') (hS : va_S (fun q => base ≤ q) s.heap H' locs') (hk : ∀ q : Nat, q < base → H'[q]? = H[q]?) : mx_Mov M S bc bs ls G' I' s H' locs' cells slots mc ms base D dA lsA := by
  obtain ⟨h1, h2, h3, h4, h5, h6⟩ := h
  refine ⟨hR, hS, h3, h4, h5, ?_⟩
  rcases h6 with h6 | ⟨h6, h7⟩
  · exact Or.inl h6
  · exact Or.inr ⟨h6.kept (hk _ h7), h7⟩
theorem mx_getI {idx a ci k : Nat} (hd : decode (mx_cc M) pc = .ok (.getfield idx, 3)) (hlk : Cond.fieldLink (mx_own M) idx (mx_F ci k).1 (mx_F ci k).2.1 (mx_F ci k).2.2.1 ∈ mx_AW) (hk : k < mx_N ci) (hr : mx_isR ci k = false) (ht : mx_tg G a = ci + 10)
    (kk : mx_V M S d bc bs (pc + 3) ls (.int (I a k) :: st) G I Q X) : mx_V M S d bc bs pc ls (.ref a :: st) G I Q X := by
  intro p l e R s m args below meth c mc ms base D dA hF H locs cells slots lsA hM
  have k1 := kk p l e R s m args below meth c mc ms base D dA hF H locs cells slots lsA hM
  obtain ⟨hx, hb, hml, hrt, hown, hts, hlocks, htab, hini, hfl, hRf, hRl, hmc, hms, hbase, hKK⟩ := hF
  obtain ⟨hlt, cell, q1, q2, q3, q4⟩ := (hM.1.2.2.2.2.2 a).2.2.2 ci ht
  obtain ⟨hcl, hin, hty, hnm⟩ := mx_cls hlt
  obtain ⟨hS, hfc, kC, hkC, hkind⟩ := hKK.1.1 ci _ hcl
  obtain ⟨cf, kf, fi, f, hi, hsl⟩ := hS k hk
  refine W.getf hx hb hown (hts _ hlk) hi (u_facts hfc hkC (u_lays hts hin hk) hi).1 q1 (by rw [q3]; exact fun h => by cases h) (v := .int (I a k)) ?_ rfl rfl hd k1
  rw [hsl, q4 k hk]
  simp [mx_fv, hr]
theorem mx_getR {idx a ci k r : Nat} (hd : decode (mx_cc M) pc = .ok (.getfield idx, 3)) (hlk : Cond.fieldLink (mx_own M) idx (mx_F ci k).1 (mx_F ci k).2.1 (mx_F ci k).2.2.1 ∈ mx_AW) (hk : k < mx_N ci) (hr : mx_isR ci k = true) (ht : mx_tg G a = ci + 10) (hrf : mx_rf G a k = r) (h0 : mx_tg G r ≠ 0)
    (kk : mx_V M S d bc bs (pc + 3) ls (.ref r :: st) G I Q X) : mx_V M S d bc bs pc ls (.ref a :: st) G I Q X := by
  intro p l e R s m args below meth c mc ms base D dA hF H locs cells slots lsA hM
  have k1 := kk p l e R s m args below meth c mc ms base D dA hF H locs cells slots lsA hM
  obtain ⟨hx, hb, hml, hrt, hown, hts, hlocks, htab, hini, hfl, hRf, hRl, hmc, hms, hbase, hKK⟩ := hF
  obtain ⟨hlt, cell, q1, q2, q3, q4⟩ := (hM.1.2.2.2.2.2 a).2.2.2 ci ht
  obtain ⟨hcl, hin, hty, hnm⟩ := mx_cls hlt
  obtain ⟨hS, hfc, kC, hkC, hkind⟩ := hKK.1.1 ci _ hcl
  obtain ⟨cf, kf, fi, f, hi, hsl⟩ := hS k hk
  have hpos : 1 ≤ r := Nat.le_trans hM.1.2.2.1 (mx_lt hM.1 h0).2
  refine W.getf hx hb hown (hts _ hlk) hi (u_facts hfc hkC (u_lays hts hin hk) hi).1 q1 (by rw [q3]; exact fun h => by cases h) (v := .ref r) ?_ rfl rfl hd k1
  rw [hsl, q4 k hk]
  obtain ⟨r', rfl⟩ : ∃ r', r = r' + 1 := ⟨r - 1, by omega⟩
  simp [mx_fv, hr, hrf, mx_rv]
theorem mx_S_put {base : Nat} {s : State} {H H' : Heap} {locs : List Loc} {a k : Nat} (h : va_S (fun q => base ≤ q) s.heap H locs) (z : H'.size = H.size) (o : ∀ q, q ≠ a → H'[q]? = H[q]?) (ha : base ≤ a) : va_S (fun q => base ≤ q) s.heap H' (locs ++ [⟨a, k⟩]) := h.put z o ha
theorem mx_tgO {D : va_G} {dA : Nat → ClassId} {G : mx_G} {I : mx_I} {H : Heap} {a ci : Nat} (ht : mx_tg G a = ci + 10) (h : ci < 10 ∧ t_OB a (D.1 ci) (mx_N ci) (D.2 ci) H (fun k => mx_fv ci G I a k)) : mx_at D dA G I H a :=
  ⟨fun t e q => by omega, fun e => by omega, fun t e q => by omega, fun cj e => by
    have : cj = ci := by omega
    rw [this]; exact h⟩
theorem mx_put0 {own : String} {args : Array Value} {s : State} {m : MethodId} {D : va_G} {ci : Nat} (hlt : ci < 10) (hts : ∀ w ∈ mx_AW, w.before args s = true) (hK : va_K D vwCl [] s) : ∀ x y, x < mx_N ci → y < mx_N ci → x ≠ y → (D.2 ci) x ≠ (D.2 ci) y := by
  obtain ⟨hcl, hin, hty, hnm⟩ := mx_cls hlt
  exact va_apart (own := own) hts hin (mx_ty ci) hty hnm hK hcl
theorem mx_putI {idx a ci k : Nat} {v : Int32} (hd : decode (mx_cc M) pc = .ok (.putfield idx, 3)) (hlk : Cond.fieldLink (mx_own M) idx (mx_F ci k).1 (mx_F ci k).2.1 (mx_F ci k).2.2.1 ∈ mx_AW) (hk : k < mx_N ci) (hr : mx_isR ci k = false) (hfin : (mx_F ci k).2.2.2 = false) (hn : narrow (mx_ty ci k) (.int v) = .int v) (hfit : fits (mx_ty ci k) (.int v) = true) (ht : mx_tg G a = ci + 10)
    (kk : mx_V M S d bc bs (pc + 3) ls st G (mx_u I a k v) Q X) : mx_V M S d bc bs pc ls (.int v :: .ref a :: st) G I Q X := by
  intro p l e R s m args below meth c mc ms base D dA hF H locs cells slots lsA hM
  have hF0 := hF
  obtain ⟨hx, hb, hml, hrt, hown, hts, hlocks, htab, hini, hfl, hRf, hRl, hmc, hms, hbase, hKK⟩ := hF
  obtain ⟨hlt, cell, q1, q2, q3, q4⟩ := (hM.1.2.2.2.2.2 a).2.2.2 ci ht
  obtain ⟨hcl, hin, hty, hnm⟩ := mx_cls hlt
  have hap := mx_put0 (own := mx_own M) (m := m) hlt hts hKK.1
  obtain ⟨hS, hfc, kC, hkC, hkind⟩ := hKK.1.1 ci _ hcl
  obtain ⟨cf, kf, fi, f, hi, hsl⟩ := hS k hk
  have hlay := hts _ (hin _ (u_in_lay hk))
  unfold u_lay at hlay
  rw [if_neg (by rw [hfin]; decide)] at hlay
  have hst := (u_facts hfc hkC (u_lays hts hin hk) hi).1
  have h6 := u_store (v := .int v) hfc hkC hkind hlay hi (hty k hk) hn hfit
  have hba := (mx_lt hM.1 (a := a) (by omega)).2
  refine W.putK hx hb (f := f) ⟨hown, hts _ hlk, ⟨_, _, _, hi⟩, hst⟩ (by rw [q2]; exact h6) q1 q3 (by rw [hsl]; exact k2_hasslot (q4 k hk)) rfl rfl hd fun H' e1 e2 e3 => ?_
  rw [hsl] at e1 ⊢
  refine kk p l e R s m args below meth c mc ms base D dA hF0 H' _ cells slots lsA (mx_Mworld hM (hM.1.w (a := a) (by omega) e2 e3 rfl rfl rfl (fun _ _ _ => rfl) (fun _ _ _ => rfl) (fun b hb k => by simp [mx_u, hb]) ?_) (mx_S_put hM.2.1 e2 e3 hba) (fun q hq => e3 q (Nat.ne_of_lt (Nat.lt_of_lt_of_le hq hba))))
  refine mx_tgO ht ⟨hlt, t_OB.to (V := updV (fun k => mx_fv ci G I a k) k (.int v)) ⟨_, e1, q2, q3, t_set q4 hap hk (.int v)⟩ (fun j _ => ?_)⟩
  by_cases hj : j = k
  · subst hj; simp [updV, mx_fv, hr, mx_u]
  · simp [updV, mx_fv, mx_u, hj]
theorem mx_putR {idx a ci k r : Nat} (hd : decode (mx_cc M) pc = .ok (.putfield idx, 3)) (hlk : Cond.fieldLink (mx_own M) idx (mx_F ci k).1 (mx_F ci k).2.1 (mx_F ci k).2.2.1 ∈ mx_AW) (hk : k < mx_N ci) (hr : mx_isR ci k = true) (hfin : (mx_F ci k).2.2.2 = false) (ht : mx_tg G a = ci + 10) (h0 : mx_tg G r ≠ 0)
    (kk : mx_V M S d bc bs (pc + 3) ls st (mx_uR G a k r) I Q X) : mx_V M S d bc bs pc ls (.ref r :: .ref a :: st) G I Q X := by
  intro p l e R s m args below meth c mc ms base D dA hF H locs cells slots lsA hM
  have hF0 := hF
  obtain ⟨hx, hb, hml, hrt, hown, hts, hlocks, htab, hini, hfl, hRf, hRl, hmc, hms, hbase, hKK⟩ := hF
  obtain ⟨hlt, cell, q1, q2, q3, q4⟩ := (hM.1.2.2.2.2.2 a).2.2.2 ci ht
  obtain ⟨hcl, hin, hty, hnm⟩ := mx_cls hlt
  have hap := mx_put0 (own := mx_own M) (m := m) hlt hts hKK.1
  obtain ⟨hS, hfc, kC, hkC, hkind⟩ := hKK.1.1 ci _ hcl
  obtain ⟨cf, kf, fi, f, hi, hsl⟩ := hS k hk
  have hlay := hts _ (hin _ (u_in_lay hk))
  unfold u_lay at hlay
  rw [if_neg (by rw [hfin]; decide)] at hlay
  have hst := (u_facts hfc hkC (u_lays hts hin hk) hi).1
  have hrt2 : mx_isRT (mx_ty ci k) = true := hr
  have h6 := u_store (v := .ref r) hfc hkC hkind hlay hi (hty k hk) (by revert hrt2; cases mx_ty ci k <;> simp [mx_isRT, narrow]) (by revert hrt2; cases mx_ty ci k <;> simp [mx_isRT, fits])
  have hba := (mx_lt hM.1 (a := a) (by omega)).2
  have hpos : 1 ≤ r := Nat.le_trans hM.1.2.2.1 (mx_lt hM.1 h0).2
  refine W.putK hx hb (f := f) ⟨hown, hts _ hlk, ⟨_, _, _, hi⟩, hst⟩ (by rw [q2]; exact h6) q1 q3 (by rw [hsl]; exact k2_hasslot (q4 k hk)) rfl rfl hd fun H' e1 e2 e3 => ?_
  rw [hsl] at e1 ⊢
  refine kk p l e R s m args below meth c mc ms base D dA hF0 H' _ cells slots lsA (mx_Mworld hM (hM.1.w (a := a) (by omega) e2 e3 rfl rfl rfl (fun b hb k => by rw [mx_rf_uR, if_neg (fun q => hb q.1)]) (fun _ _ _ => rfl) (fun _ _ _ => rfl) ?_) (mx_S_put hM.2.1 e2 e3 hba) (fun q hq => e3 q (Nat.ne_of_lt (Nat.lt_of_lt_of_le hq hba))))
  refine mx_tgO ht ⟨hlt, t_OB.to (V := updV (fun k => mx_fv ci G I a k) k (.ref r)) ⟨_, e1, q2, q3, t_set q4 hap hk (.ref r)⟩ (fun j _ => ?_)⟩
  obtain ⟨r', rfl⟩ : ∃ r', r = r' + 1 := ⟨r - 1, by omega⟩
  by_cases hj : j = k
  · subst hj; simp [updV, mx_fv, hr, mx_rf_uR, mx_rv]
  · simp [updV, mx_fv, mx_rf_uR, hj]
theorem mx_putF {idx a ci k r : Nat} (hd : decode (mx_cc M) pc = .ok (.putfield idx, 3)) (hlk : Cond.fieldLink (mx_own M) idx (mx_F ci k).1 (mx_F ci k).2.1 (mx_F ci k).2.2.1 ∈ mx_AW) (hk : k < mx_N ci) (hr : mx_isR ci k = true) (hfin : (mx_F ci k).2.2.2 = true) (hin2 : mx_ini M = true) (hdecl : (mx_F ci k).1 = mx_own M) (ht : mx_tg G a = ci + 10) (h0 : mx_tg G r ≠ 0)
    (kk : mx_V M S d bc bs (pc + 3) ls st (mx_uR G a k r) I Q X) : mx_V M S d bc bs pc ls (.ref r :: .ref a :: st) G I Q X := by
  intro p l e R s m args below meth c mc ms base D dA hF H locs cells slots lsA hM
  have hF0 := hF
  obtain ⟨hx, hb, hml, hrt, hown, hts, hlocks, htab, hini, hfl, hRf, hRl, hmc, hms, hbase, hKK⟩ := hF
  obtain ⟨hlt, cell, q1, q2, q3, q4⟩ := (hM.1.2.2.2.2.2 a).2.2.2 ci ht
  obtain ⟨hcl, hin, hty, hnm⟩ := mx_cls hlt
  have hap := mx_put0 (own := mx_own M) (m := m) hlt hts hKK.1
  obtain ⟨hS, hfc, kC, hkC, hkind⟩ := hKK.1.1 ci _ hcl
  obtain ⟨cf, kf, fi, f, hi, hsl⟩ := hS k hk
  have hlay := hts _ (hin _ (u_in_lay hk))
  unfold u_lay at hlay
  rw [if_pos hfin] at hlay
  have hst := (u_facts hfc hkC (u_lays hts hin hk) hi).1
  have hcf : m.cls = cf := by
    obtain ⟨_, _, c', _, _, _, -, -, hf', -, -, -, hown2, -⟩ := Cond.laysFinal_spec hlay
    have e1 : c' = cf := by have := hi.symm.trans hf'; simp at this; exact this.1.symm
    rw [hdecl] at hown2
    rw [← e1]; exact Option.some.inj (hown.symm.trans hown2)
  have hrt2 : mx_isRT (mx_ty ci k) = true := hr
  have h6 := u_fits (v := .ref r) hfc hkC hkind (u_lays hts hin hk) hi (hty k hk) (by revert hrt2; cases mx_ty ci k <;> simp [mx_isRT, narrow]) (by revert hrt2; cases mx_ty ci k <;> simp [mx_isRT, fits])
  have hba := (mx_lt hM.1 (a := a) (by omega)).2
  have hpos : 1 ≤ r := Nat.le_trans hM.1.2.2.1 (mx_lt hM.1 h0).2
  refine W.putFinK hx hb hown (hts _ hlk) hi hst hcf (hini hin2) (by rw [q2]; exact h6) q1 q3 (by rw [hsl]; exact k2_hasslot (q4 k hk)) rfl rfl hd fun H' e1 e2 e3 => ?_
  rw [hsl] at e1 ⊢
  refine kk p l e R s m args below meth c mc ms base D dA hF0 H' _ cells slots lsA (mx_Mworld hM (hM.1.w (a := a) (by omega) e2 e3 rfl rfl rfl (fun b hb k => by rw [mx_rf_uR, if_neg (fun q => hb q.1)]) (fun _ _ _ => rfl) (fun _ _ _ => rfl) ?_) (mx_S_put hM.2.1 e2 e3 hba) (fun q hq => e3 q (Nat.ne_of_lt (Nat.lt_of_lt_of_le hq hba))))
  refine mx_tgO ht ⟨hlt, t_OB.to (V := updV (fun k => mx_fv ci G I a k) k (.ref r)) ⟨_, e1, q2, q3, t_set q4 hap hk (.ref r)⟩ (fun j _ => ?_)⟩
  obtain ⟨r', rfl⟩ : ∃ r', r = r' + 1 := ⟨r - 1, by omega⟩
  by_cases hj : j = k
  · subst hj; simp [updV, mx_fv, hr, mx_rf_uR, mx_rv]
  · simp [updV, mx_fv, mx_rf_uR, hj]
theorem mx_iald {a : Nat} {i : Int32} (j : Nat) (hd : decode (mx_cc M) pc = .ok (.iaload, 1)) (ht : mx_tg G a = 1) (hi : mx_ix i j (mx_ln G a)) (kk : mx_V M S d bc bs (pc + 1) ls (.int (I a j) :: st) G I Q X) : mx_V M S d bc bs pc ls (.int i :: .ref a :: st) G I Q X := by
  intro p l e R s m args below meth c mc ms base D dA hF H locs cells slots lsA hM
  have k1 := kk p l e R s m args below meth c mc ms base D dA hF H locs cells slots lsA hM
  have hF0 := hF
  obtain ⟨hx, hb, hml, hrt, hown, hts, hlocks, htab, hini, hfl, hRf, hRl, hmc, hms, hbase, hKK⟩ := hF
  have hc := (hM.1.2.2.2.2.2 a).1 1 ht (by decide)
  refine W.iald hx hb hc ((hKK.2.1 1 _ rfl).1 _ _) (fun q => by cases q) (by rw [arrV_size]; exact hi.in) (v := .int (I a j)) ?_ rfl rfl hd k1
  rw [hi.at]
  exact arrV_read _ _ hi.2.1
theorem mx_cald {a : Nat} {i : Int32} (j : Nat) (hd : decode (mx_cc M) pc = .ok (.caload, 1)) (ht : mx_tg G a = 2) (hi : mx_ix i j (mx_ln G a)) (kk : mx_V M S d bc bs (pc + 1) ls (.int (I a j) :: st) G I Q X) : mx_V M S d bc bs pc ls (.int i :: .ref a :: st) G I Q X := by
  intro p l e R s m args below meth c mc ms base D dA hF H locs cells slots lsA hM
  have k1 := kk p l e R s m args below meth c mc ms base D dA hF H locs cells slots lsA hM
  have hF0 := hF
  obtain ⟨hx, hb, hml, hrt, hown, hts, hlocks, htab, hini, hfl, hRf, hRl, hmc, hms, hbase, hKK⟩ := hF
  have hc := (hM.1.2.2.2.2.2 a).1 2 ht (by decide)
  refine W.cald hx hb hc ((hKK.2.1 2 _ rfl).1 _ _) (fun q => by cases q) (by rw [arrV_size]; exact hi.in) (v := .int (I a j)) ?_ rfl rfl hd k1
  rw [hi.at]
  exact arrV_read _ _ hi.2.1
theorem mx_zald {a : Nat} {i : Int32} (j : Nat) (hd : decode (mx_cc M) pc = .ok (.baload, 1)) (ht : mx_tg G a = 3) (hi : mx_ix i j (mx_ln G a)) (kk : mx_V M S d bc bs (pc + 1) ls (.int (I a j) :: st) G I Q X) : mx_V M S d bc bs pc ls (.int i :: .ref a :: st) G I Q X := by
  intro p l e R s m args below meth c mc ms base D dA hF H locs cells slots lsA hM
  have k1 := kk p l e R s m args below meth c mc ms base D dA hF H locs cells slots lsA hM
  have hF0 := hF
  obtain ⟨hx, hb, hml, hrt, hown, hts, hlocks, htab, hini, hfl, hRf, hRl, hmc, hms, hbase, hKK⟩ := hF
  have hc := (hM.1.2.2.2.2.2 a).1 3 ht (by decide)
  refine W.zald hx hb hc ((hKK.2.1 3 _ rfl).1 _ _) (fun q => by cases q) (by rw [arrV_size]; exact hi.in) (v := .int (I a j)) ?_ rfl rfl hd k1
  rw [hi.at]
  exact arrV_read _ _ hi.2.1
theorem mx_aald {a r t : Nat} {i : Int32} (j : Nat) (hd : decode (mx_cc M) pc = .ok (.aaload, 1)) (ht : mx_tg G a = t) (h5 : t = 5 ∨ t = 6) (hi : mx_ix i j (mx_ln G a)) (hrf : mx_rf G a j = r) (h0 : mx_tg G r ≠ 0) (kk : mx_V M S d bc bs (pc + 1) ls (.ref r :: st) G I Q X) : mx_V M S d bc bs pc ls (.int i :: .ref a :: st) G I Q X := by
  intro p l e R s m args below meth c mc ms base D dA hF H locs cells slots lsA hM
  have k1 := kk p l e R s m args below meth c mc ms base D dA hF H locs cells slots lsA hM
  have hF0 := hF
  obtain ⟨hx, hb, hml, hrt, hown, hts, hlocks, htab, hini, hfl, hRf, hRl, hmc, hms, hbase, hKK⟩ := hF
  have hc := (hM.1.2.2.2.2.2 a).2.2.1 t ht h5
  have hpos : 1 ≤ r := Nat.le_trans hM.1.2.2.1 (mx_lt hM.1 h0).2
  obtain ⟨ty, hty, hre⟩ : ∃ ty, mx_aty t = some ty ∧ ty.isReference = true := by rcases h5 with rfl | rfl <;> exact ⟨_, rfl, rfl⟩
  refine W.aald hx hb hc ((hKK.2.1 t ty hty).1 _ _) hre (fun q => by cases q) (by rw [arrV_size]; exact hi.in) (v := .ref r) ?_ rfl rfl hd k1
  rw [hi.at]
  refine (arrV_read _ _ hi.2.1).trans ?_
  obtain ⟨r', rfl⟩ : ∃ r', r = r' + 1 := ⟨r - 1, by omega⟩
  rw [hrf]; rfl
theorem mx_alen {a : Nat} (hd : decode (mx_cc M) pc = .ok (.arraylength, 1)) (ht : mx_tg G a = 1) (kk : mx_V M S d bc bs (pc + 1) ls (.int (nI (mx_ln G a)) :: st) G I Q X) : mx_V M S d bc bs pc ls (.ref a :: st) G I Q X := by
  intro p l e R s m args below meth c mc ms base D dA hF H locs cells slots lsA hM
  have k1 := kk p l e R s m args below meth c mc ms base D dA hF H locs cells slots lsA hM
  have hF0 := hF
  obtain ⟨hx, hb, hml, hrt, hown, hts, hlocks, htab, hini, hfl, hRf, hRl, hmc, hms, hbase, hKK⟩ := hF
  have hc := (hM.1.2.2.2.2.2 a).1 1 ht (by decide)
  exact W.alen hx hb hc ((hKK.2.1 1 _ rfl).1 _ _) (by rw [arrV_size]; rfl) rfl rfl hd k1
theorem mx_iast {a : Nat} {i x : Int32} (j : Nat) (hd : decode (mx_cc M) pc = .ok (.iastore, 1)) (ht : mx_tg G a = 1) (hi : mx_ix i j (mx_ln G a)) (kk : mx_V M S d bc bs (pc + 1) ls st G (mx_u I a j x) Q X) : mx_V M S d bc bs pc ls (.int x :: .int i :: .ref a :: st) G I Q X := by
  intro p l e R s m args below meth c mc ms base D dA hF H locs cells slots lsA hM
  have hF0 := hF
  obtain ⟨hx, hb, hml, hrt, hown, hts, hlocks, htab, hini, hfl, hRf, hRl, hmc, hms, hbase, hKK⟩ := hF
  have hc := (hM.1.2.2.2.2.2 a).1 1 ht (by decide)
  have hba := (mx_lt hM.1 (a := a) (by omega)).2
  refine W.iast hx hb hc ((hKK.2.1 1 _ rfl).1 _ _) (fun q => by cases q) (by rw [arrV_size]; exact hi.in) rfl rfl hd fun H' e1 e2 e3 => ?_
  refine kk p l e R s m args below meth c mc ms base D dA hF0 H' _ cells slots lsA (mx_Mworld hM (hM.1.w (a := a) (by omega) e2 e3 rfl rfl rfl (fun _ _ _ => rfl) (fun _ _ _ => rfl) (fun b hb k => by simp [mx_u, hb]) ?_) (mx_S_put hM.2.1 e2 e3 hba) (fun q hq => e3 q (Nat.ne_of_lt (Nat.lt_of_lt_of_le hq hba))))
  refine ⟨fun t' e q => ?_, fun e => by omega, fun t' e q => by omega, fun ci e => by omega⟩
  cases ht.symm.trans e
  rw [e1, hi.at, arrV_store]
  congr 2
  funext q
  by_cases hq : q = j
  · subst hq; simp [updV, mx_u]
  · simp [updV, mx_u, hq]
theorem mx_cast {a : Nat} {i x : Int32} (j : Nat) (hd : decode (mx_cc M) pc = .ok (.castore, 1)) (ht : mx_tg G a = 2) (hi : mx_ix i j (mx_ln G a)) (hn : narrow .char (.int x) = .int x) (kk : mx_V M S d bc bs (pc + 1) ls st G (mx_u I a j x) Q X) : mx_V M S d bc bs pc ls (.int x :: .int i :: .ref a :: st) G I Q X := by
  intro p l e R s m args below meth c mc ms base D dA hF H locs cells slots lsA hM
  have hF0 := hF
  obtain ⟨hx, hb, hml, hrt, hown, hts, hlocks, htab, hini, hfl, hRf, hRl, hmc, hms, hbase, hKK⟩ := hF
  have hc := (hM.1.2.2.2.2.2 a).1 2 ht (by decide)
  have hba := (mx_lt hM.1 (a := a) (by omega)).2
  refine W.cast hx hb hc ((hKK.2.1 2 _ rfl).1 _ _) (fun q => by cases q) (by rw [arrV_size]; exact hi.in) rfl rfl hd fun H' e1 e2 e3 => ?_
  refine kk p l e R s m args below meth c mc ms base D dA hF0 H' _ cells slots lsA (mx_Mworld hM (hM.1.w (a := a) (by omega) e2 e3 rfl rfl rfl (fun _ _ _ => rfl) (fun _ _ _ => rfl) (fun b hb k => by simp [mx_u, hb]) ?_) (mx_S_put hM.2.1 e2 e3 hba) (fun q hq => e3 q (Nat.ne_of_lt (Nat.lt_of_lt_of_le hq hba))))
  refine ⟨fun t' e q => ?_, fun e => by omega, fun t' e q => by omega, fun ci e => by omega⟩
  cases ht.symm.trans e
  rw [e1, hi.at, hn, arrV_store]
  congr 2
  funext q
  by_cases hq : q = j
  · subst hq; simp [updV, mx_u]
  · simp [updV, mx_u, hq]
theorem mx_zast {a : Nat} {i x : Int32} (j : Nat) (hd : decode (mx_cc M) pc = .ok (.bastore, 1)) (ht : mx_tg G a = 3) (hi : mx_ix i j (mx_ln G a)) (hn : narrow .boolean (.int x) = .int x) (kk : mx_V M S d bc bs (pc + 1) ls st G (mx_u I a j x) Q X) : mx_V M S d bc bs pc ls (.int x :: .int i :: .ref a :: st) G I Q X := by
  intro p l e R s m args below meth c mc ms base D dA hF H locs cells slots lsA hM
  have hF0 := hF
  obtain ⟨hx, hb, hml, hrt, hown, hts, hlocks, htab, hini, hfl, hRf, hRl, hmc, hms, hbase, hKK⟩ := hF
  have hc := (hM.1.2.2.2.2.2 a).1 3 ht (by decide)
  have hba := (mx_lt hM.1 (a := a) (by omega)).2
  refine W.zast hx hb hc ((hKK.2.1 3 _ rfl).1 _ _) (fun q => by cases q) (by rw [arrV_size]; exact hi.in) rfl rfl hd fun H' e1 e2 e3 => ?_
  refine kk p l e R s m args below meth c mc ms base D dA hF0 H' _ cells slots lsA (mx_Mworld hM (hM.1.w (a := a) (by omega) e2 e3 rfl rfl rfl (fun _ _ _ => rfl) (fun _ _ _ => rfl) (fun b hb k => by simp [mx_u, hb]) ?_) (mx_S_put hM.2.1 e2 e3 hba) (fun q hq => e3 q (Nat.ne_of_lt (Nat.lt_of_lt_of_le hq hba))))
  refine ⟨fun t' e q => ?_, fun e => by omega, fun t' e q => by omega, fun ci e => by omega⟩
  cases ht.symm.trans e
  rw [e1, hi.at, hn, arrV_store]
  congr 2
  funext q
  by_cases hq : q = j
  · subst hq; simp [updV, mx_u]
  · simp [updV, mx_u, hq]
theorem mx_aast {a r t ci : Nat} {i : Int32} (j : Nat) (hd : decode (mx_cc M) pc = .ok (.aastore, 1)) (ht : mx_tg G a = t) (h5 : (t = 5 ∧ ci = 6) ∨ (t = 6 ∧ ci = 4)) (hi : mx_ix i j (mx_ln G a)) (hr : mx_tg G r = ci + 10) (kk : mx_V M S d bc bs (pc + 1) ls st (mx_uR G a j r) I Q X) : mx_V M S d bc bs pc ls (.ref r :: .int i :: .ref a :: st) G I Q X := by
  intro p l e R s m args below meth c mc ms base D dA hF H locs cells slots lsA hM
  have hF0 := hF
  obtain ⟨hx, hb, hml, hrt, hown, hts, hlocks, htab, hini, hfl, hRf, hRl, hmc, hms, hbase, hKK⟩ := hF
  have h56 : t = 5 ∨ t = 6 := by omega
  have hc := (hM.1.2.2.2.2.2 a).2.2.1 t ht h56
  have hba := (mx_lt hM.1 (a := a) (by omega)).2
  have hpos : 1 ≤ r := Nat.le_trans hM.1.2.2.1 (mx_lt hM.1 (a := r) (by omega)).2
  obtain ⟨hlt, cellV, g1, g2, g3, g4⟩ := (hM.1.2.2.2.2.2 r).2.2.2 ci hr
  obtain ⟨hcl, hin, hty, hnm⟩ := mx_cls hlt
  have hcls := (hKK.1.1 ci _ hcl).2
  have hty5 : mx_aty t = some (.object (mx_C ci)) := by rcases h5 with ⟨rfl, rfl⟩ | ⟨rfl, rfl⟩ <;> rfl
  obtain ⟨kA, comp, k1, k2, k3, -⟩ := (hKK.2.1 t _ hty5).2
  have hcomp : comp = D.1 ci := Option.some.inj (k3.symm.trans hcls.1)
  subst hcomp
  obtain ⟨kC, hkC, -⟩ := hcls.2
  have hix := hi.in
  refine W.aast hx hb hc (fun q h => by cases h) (fun h => by cases h) k1 k2 rfl hkC ⟨fun q => hix (Or.inl q), by show _ < (arrV _ _ _).slots.size; rw [arrV_size, hi.at]; exact hi.2.1⟩ g1 (fun q h => by rw [g3] at h; cases h) (by rw [g2]; exact hkC) (by rw [g2]; exact va_assign hcls) rfl rfl hd fun H' e1 e2 e3 => ?_
  refine kk p l e R s m args below meth c mc ms base D dA hF0 H' _ cells slots lsA (mx_Mworld hM (hM.1.w (a := a) (by omega) e2 e3 rfl rfl rfl (fun b hb k => by rw [mx_rf_uR, if_neg (fun q => hb q.1)]) (fun _ _ _ => rfl) (fun _ _ _ => rfl) ?_) (mx_S_put hM.2.1 e2 e3 hba) (fun q hq => e3 q (Nat.ne_of_lt (Nat.lt_of_lt_of_le hq hba))))
  have ht' : mx_tg (mx_uR G a j r) a = t := ht
  refine ⟨fun t' e q => by omega, fun e => by omega, fun t' e q => ?_, fun ci e => by omega⟩
  cases ht'.symm.trans e
  rw [e1, hi.at, arrV_store]
  show _ = some (arrV (dA t) (mx_ln G a) _)
  congr 2
  obtain ⟨r', rfl⟩ : ∃ r', r = r' + 1 := ⟨r - 1, by omega⟩
  funext q
  by_cases hq : q = j
  · subst hq; simp [updV, mx_rf_uR, mx_rv]
  · simp [updV, mx_rf_uR, hq]
theorem mx_dfl : ∀ ci, ci < 10 → ∀ k, k < mx_N ci → defaultValue (mx_ty ci k) = if mx_isR ci k = true then Value.null else Value.int 0 := by decide +kernel
theorem mx_Mgrow {H' : Heap} {G' : mx_G} {bc' bs' cells' slots' : Nat} {s : State} {H : Heap} {locs : List Loc} {cells slots mc ms base : Nat} {D : va_G} {dA : Nat → ClassId} {lsA : Array Slot} (h : mx_Mov M S bc bs ls G I s H locs cells slots mc ms base D dA lsA)
    (hR : mx_Rep D dA base H' G' I) (z : H.size ≤ H'.size) (o : ∀ q, q < H.size → H'[q]? = H[q]?) (h3 : cells' + bc' ≤ mc) (h4 : slots' + bs' ≤ ms) : mx_Mov M S bc' bs' ls G' I s H' locs cells' slots' mc ms base D dA lsA := by
  obtain ⟨h1, h2, -, -, h5, h6⟩ := h
  refine ⟨hR, ⟨Nat.le_trans h2.1 z, fun q hq hn => (o q (Nat.lt_of_lt_of_le hq h2.1)).trans (h2.2.1 q hq hn), h2.2.2⟩, h3, h4, h5, ?_⟩
  rcases h6 with h6 | ⟨h6, h7⟩
  · exact Or.inl h6
  · refine Or.inr ⟨h6.kept (o _ ?_), h7⟩
    exact Nat.lt_of_lt_of_le h7 (Nat.le_trans h1.2.1 (Nat.le_of_eq h1.1.symm))
theorem mx_new {idx ci : Nat} (hd : decode (mx_cc M) pc = .ok (.new idx, 3)) (hlk : Cond.classLink (mx_own M) idx (mx_C ci) ∈ mx_AW) (hnw : Cond.instantiable (mx_C ci) (mx_N ci) ∈ mx_AW ∧ Cond.initialized (mx_C ci) ∈ mx_AW) (hlt : ci < 10) (kk : mx_V M S d bc bs (pc + 3) ls (.ref (mx_sz G) :: st) (mx_nw G (ci + 10) 0) I Q X) : mx_V M S d (bc + 1) (bs + mx_N ci) pc ls st G I Q X := by
  intro p l e R s m args below meth c mc ms base D dA hF H locs cells slots lsA hM
  have hF0 := hF
  obtain ⟨hx, hb, hml, hrt, hown, hts, hlocks, htab, hini, hfl, hRf, hRl, hmc, hms, hbase, hKK⟩ := hF
  obtain ⟨hcl, hin, hty, hnm⟩ := mx_cls hlt
  have hKn := hKK.1.1 ci _ hcl
  have hb1 := hM.2.2.1
  have hb2 := hM.2.2.2.1
  refine W.newcK hx hb hown (hts _ hlk) (hts _ hnw.1) (hts _ hnw.2) rfl hd (by omega) (by omega) hKn.2.1 hM.1.1 fun H' kC hkC e1 z1 o1 => ?_
  have o2 : ∀ q, q < H.size → H'[q]? = H[q]? := fun q hq => o1 q (by rw [hM.1.1] at hq; exact hq)
  have z2 : H'.size = H.size + 1 := by rw [z1, hM.1.1]
  refine kk p l e R s m args below meth c mc ms base D dA hF0 H' locs (cells + 1) (slots + mx_N ci) lsA (mx_Mgrow hM (hM.1.new _ _ z2 o2 ?_) (by omega) o2 (by omega) (by omega))
  refine mx_tgO (by rw [mx_tg_nw, if_pos rfl]) ⟨hlt, (u_born (mx_ty ci) hts hin hKn hkC e1 hty).to (fun k hk => ?_)⟩
  obtain ⟨-, c2, c3, -⟩ := hM.1.2.2.2.1 (mx_sz G) (Nat.le_refl _)
  have c2' : mx_rf (mx_nw G (ci + 10) 0) (mx_sz G) k = 0 := c2 k
  rw [mx_dfl ci hlt k hk]
  unfold mx_fv
  rw [c2', c3 k]
  rfl
theorem mx_newa {t n : Nat} {v : Int32} {atype : ArrayType} (hd : decode (mx_cc M) pc = .ok (.newarray atype, 2)) (hty : mx_aty t = some (newarray.typeOf atype)) (ht : t = 1 ∨ t = 2 ∨ t = 3 ∨ t = 4) (hlk : Cond.arrayClass (newarray.typeOf atype) ∈ mx_AW) (hv : v = nI n) (hn : n ≤ 65536) (kk : mx_V M S d bc bs (pc + 2) ls (.ref (mx_sz G) :: st) (mx_nw G t n) I Q X) : mx_V M S d (bc + 1) (bs + n) pc ls (.int v :: st) G I Q X := by
  intro p l e R s m args below meth c mc ms base D dA hF H locs cells slots lsA hM
  have hF0 := hF
  obtain ⟨hx, hb, hml, hrt, hown, hts, hlocks, htab, hini, hfl, hRf, hRl, hmc, hms, hbase, hKK⟩ := hF
  subst hv
  have hb1 := hM.2.2.1
  have hb2 := hM.2.2.2.1
  refine va_newaK hx hb (hts _ hlk) rfl hd rfl (nI_pos (by omega)) (nI_clamp (by omega)) ?_ (by omega) (by omega) hM.1.1 fun H' cA e1 z1 o1 hAr hNm => ?_
  · have : componentBytes (newarray.typeOf atype) ≤ 8 := by cases atype <;> decide
    calc n * componentBytes (newarray.typeOf atype) ≤ 65536 * 8 := Nat.mul_le_mul hn this
      _ ≤ 536870912 := by decide
  have o2 : ∀ q, q < H.size → H'[q]? = H[q]? := fun q hq => o1 q (by rw [hM.1.1] at hq; exact hq)
  have z2 : H'.size = H.size + 1 := by rw [z1, hM.1.1]
  have hcA : cA = dA t := by
    have h9 := (hKK.2.1 t _ hty).2
    have h8 : s.vm.findClass ("[" ++ (newarray.typeOf atype).toString) = some (dA t) := by cases atype <;> exact h9
    exact Option.some.inj (hNm.symm.trans h8)
  subst hcA
  obtain ⟨-, c2, c3, c4⟩ := hM.1.2.2.2.1 (mx_sz G) (Nat.le_refl _)
  have c4' : ∀ k, mx_lg (mx_nw G t n) (mx_sz G) k = 0 := c4
  have etg : mx_tg (mx_nw G t n) (mx_sz G) = t := by rw [mx_tg_nw, if_pos rfl]
  have eln : mx_ln (mx_nw G t n) (mx_sz G) = n := by rw [mx_ln_nw, if_pos rfl]
  refine kk p l e R s m args below meth c mc ms base D dA hF0 H' locs (cells + 1) (slots + n) lsA (mx_Mgrow hM (hM.1.new _ _ z2 o2 ?_) (by omega) o2 (by omega) (by omega))
  refine ⟨fun t' q e => ?_, fun q => ?_, fun t' q e => by omega, fun ci q => by omega⟩
  · cases etg.symm.trans q
    rw [e1, eln]
    simp only [c3]
    congr 2
    funext j
    rcases e with rfl | rfl | rfl <;> (have h9 := Option.some.inj hty; show defaultValue (newarray.typeOf atype) = _; rw [← h9]; rfl)
  · cases etg.symm.trans q
    have h9 : (none : Option FieldType) = some (newarray.typeOf atype) := hty
    cases h9
theorem mx_anew {t n idx : Nat} {v : Int32} {C : String} (hd : decode (mx_cc M) pc = .ok (.anewarray idx, 3)) (hty : mx_aty t = some (.object C)) (ht : t = 5 ∨ t = 6) (hlk : Cond.classLink (mx_own M) idx C ∈ mx_AW) (hov : C = "StepPaths$State" ∨ C = "StepPaths$Piece") (hv : v = nI n) (hn : n ≤ 65536) (kk : mx_V M S d bc bs (pc + 3) ls (.ref (mx_sz G) :: st) (mx_nw G t n) I Q X) : mx_V M S d (bc + 1) (bs + n) pc ls (.int v :: st) G I Q X := by
  intro p l e R s m args below meth c mc ms base D dA hF H locs cells slots lsA hM
  have hF0 := hF
  obtain ⟨hx, hb, hml, hrt, hown, hts, hlocks, htab, hini, hfl, hRf, hRl, hmc, hms, hbase, hKK⟩ := hF
  subst hv
  have hb1 := hM.2.2.1
  have hb2 := hM.2.2.2.1
  have hov2 : va_AO C s := by rcases hov with rfl | rfl; exact hKK.2.2.2.2.2.2.2.2.1.1; exact hKK.2.2.2.2.2.2.2.2.1.2.1
  refine W.anew hx hb hown (hts _ hlk) (va_AO.use hov2) rfl hd rfl (nI_pos (by omega)) (by rw [nI_clamp (by omega)]; omega) (by omega) (by rw [nI_clamp (by omega)]; omega) fun cA kA comp h1 h2 h3 h4 => ?_
  rw [nI_clamp (show n < 2 ^ 31 by omega)]
  obtain ⟨kA', comp', q1, q2, q3, q4⟩ := (hKK.2.1 t _ hty).2
  have hcA : cA = dA t := Option.some.inj (h1.symm.trans q4)
  subst hcA
  obtain ⟨-, c2, c3, c4⟩ := hM.1.2.2.2.1 (mx_sz G) (Nat.le_refl _)
  have c2' : ∀ k, mx_rf (mx_nw G t n) (mx_sz G) k = 0 := c2
  have etg : mx_tg (mx_nw G t n) (mx_sz G) = t := by rw [mx_tg_nw, if_pos rfl]
  have eln : mx_ln (mx_nw G t n) (mx_sz G) = n := by rw [mx_ln_nw, if_pos rfl]
  have o2 : ∀ q, q < H.size → (H.push { cls := dA t, slots := Array.replicate n .null, vm := .none })[q]? = H[q]? := fun q hq => by
    rw [Array.getElem?_push, if_neg (by omega)]
  have z2 : (H.push { cls := dA t, slots := Array.replicate n .null, vm := .none }).size = H.size + 1 := by simp
  rw [hM.1.1]
  refine kk p l e R s m args below meth c mc ms base D dA hF0 _ locs (cells + 1) (slots + n) lsA (mx_Mgrow hM (hM.1.new _ _ z2 o2 ?_) (by omega) o2 (by omega) (by omega))
  refine ⟨fun t' q e => by omega, fun q => by omega, fun t' q e => ?_, fun ci q => by omega⟩
  cases etg.symm.trans q
  rw [eln, ← hM.1.1, Array.getElem?_push, if_pos rfl, hM.1.1]
  simp only [c2']
  show _ = some (arrV (dA t) n (fun _ => Value.null))
  congr 1
  unfold arrV
  congr 1
  apply Array.ext
  · simp
  · intro i h1 h2; simp
/-- what holds where E was thrown over the frame -/
def mx_VX (M : mx_MI) (S : mx_Sc) (d bc bs pc : Nat) (ls : List (Option Value)) (st : List Value) (E : String) (G : mx_G) (I : mx_I) (Q : Option Value → mx_G → mx_I → Prop) (X : String → mx_G → mx_I → Prop) : Prop :=
  ∀ (p : Program) (l : Launch) (e : Env) (R : Room) (s : State) (m : MethodId) (args : Array Value) (below : List Frame) (meth : Method) (c : Code) (mc ms base : Nat) (D : va_G) (dA : Nat → ClassId), mx_Fix M S d p l R s m args meth c mc ms base D dA →
    ∀ (H : Heap) (locs : List Loc) (cells slots : Nat) (lsA : Array Slot), mx_Mov M S bc bs ls G I s H locs cells slots mc ms base D dA lsA → ∀ (q : Addr) (ce : Cell), H[q]? = some ce → ce.vm = .none → s.vm.findClass E = some ce.cls →
      vx_W p l e R s m args below meth c H locs cells slots (vx_MQ below (mx_Qc Q base D dA) (mx_Xc X base D dA) args s mc ms (fun q => base ≤ q)) (F0 m pc lsA st) q
theorem mx_xo {E : String} (hh : mx_hh M = []) (h : X E G I) : mx_VX M S d bc bs pc ls st E G I Q X := by
  intro p l e R s m args below meth c mc ms base D dA hF H locs cells slots lsA hM q ce h1 h2 h3
  obtain ⟨hx, hb, hml, hrt, hown, hts, hlocks, htab, hini, hfl, hRf, hRl, hmc, hms, hbase, hKK⟩ := hF
  exact vx_out (by rw [htab, hh]; intro x hx; cases hx) hlocks h1 h2 h3 (fun t ht hvm => ⟨⟨G, I, h, by rw [ht]; exact hM.1⟩, hM.2.1.F ht⟩) hM.2.1.2.2 (by have := hM.2.2.1; omega) (by have := hM.2.2.2.1; omega)
theorem mx_callK {stk rest : List Value} {av : Array Value} {b1 b2 : Nat} {Q' : Option Value → mx_G → mx_I → Prop} {X' : String → mx_G → mx_I → Prop}
    (hr : ∀ (p : Program) (l : Launch) (e : Env) (R : Room) (s : State) (m : MethodId) (args : Array Value) (below : List Frame) (meth : Method) (c : Code) (mc ms base : Nat) (D : va_G) (dA : Nat → ClassId), mx_Fix M S d p l R s m args meth c mc ms base D dA →
      ∀ (H : Heap) (locs : List Loc) (cells slots : Nat) (lsA : Array Slot), mx_Mov M S (bc + b1) (bs + b2) ls G I s H locs cells slots mc ms base D dA lsA →
        vx_Run p l e R s m args below meth c H locs cells slots b1 b2 (F0 m pc lsA stk) rest (mx_Qc Q' base D dA av) (mx_Xc X' base D dA) (fun q => base ≤ q))
    (kx : ∀ E G' I', X' E G' I' → mx_VX M S d bc bs pc ls rest E G' I' Q X) (kk : ∀ v G' I', Q' v G' I' → mx_V M S d bc bs (pc + 3) ls (v.toList ++ rest) G' I' Q X) : mx_V M S d (bc + b1) (bs + b2) pc ls stk G I Q X := by
  intro p l e R s m args below meth c mc ms base D dA hF H locs cells slots lsA hM T hT XT
  have hsc : ∀ (T' t : State), T'.heap = t.heap → (∀ q : Nat, q < H.size → ¬ base ≤ q → T'.heap[q]? = H[q]?) → mx_sc S base s T'.heap := by
    intro T' t e1 hk
    rcases hM.2.2.2.2.2 with h6 | ⟨h6, h7⟩
    · exact Or.inl h6
    · exact Or.inr ⟨h6.kept (hk _ (Nat.lt_of_lt_of_le h7 (Nat.le_trans hM.1.2.1 (Nat.le_of_eq hM.1.1.symm))) (by omega)), h7⟩
  have hb1 := hM.2.2.1
  have hb2 := hM.2.2.2.1
  rcases hr p l e R s m args below meth c mc ms base D dA hF H locs cells slots lsA hM T hT XT with ⟨v, st₀, t, T', L, h0, X', hL, e1, e2, ⟨⟨v', G', I', ev, hq, hRep⟩, hFr⟩, st⟩ | ⟨q, st₀, t, T', L, E, ce, h0, X', hL, e1, e2, ⟨⟨G', I', hx, hRep⟩, hFr⟩, hce, hcv, hcl, st⟩
  · cases ev
    obtain ⟨k1, k2, k3⟩ := vx_keep h0 e1 hM.2.1 (A1 := fun q => base ≤ q) (free := fun q => base ≤ q) (fun q _ h => h) (fun q h => h) hL hFr
    obtain ⟨t2, a1, b1'⟩ := kk v G' I' hq p l e R s m args below meth c mc ms base D dA hF T'.heap (locs ++ L) (cells + b1) (slots + b2) lsA ⟨by rw [e1]; exact hRep, k3, by omega, by omega, hM.2.2.2.2.1, hsc T' t e1 k2⟩ T' rfl X'
    exact ⟨t2, st t2 a1, b1'⟩
  · obtain ⟨k1, k2, k3⟩ := vx_keep h0 e1 hM.2.1 (A1 := fun q => base ≤ q) (free := fun q => base ≤ q) (fun q _ h => h) (fun q h => h) hL hFr
    obtain ⟨t2, a1, b1'⟩ := kx E G' I' hx p l e R s m args below meth c mc ms base D dA hF T'.heap (locs ++ L) (cells + b1) (slots + b2) lsA ⟨by rw [e1]; exact hRep, k3, by omega, by omega, hM.2.2.2.2.1, hsc T' t e1 k2⟩ q ce (by rw [e1]; exact hce) hcv hcl T' rfl X'
    exact ⟨t2, st.trans a1, b1'⟩
/-- a method's own words -/
def mx_kM (y : MethodName) (M' : mx_MI) (n : Nat) : Prop := mx_cw y M' ∈ mx_AW ∧ Cond.initialized y.cls ∈ mx_AW ∧ (y.cls ≠ "java/lang/invoke/MethodHandle" ∧ y.cls ≠ "java/lang/invoke/VarHandle" ∧ (parseMethodDescriptor y.desc).map (fun d => d.parameters.length) = some n) ∧ mx_mL M' ≤ 29
theorem mx_good (y : MethodName) (M' : mx_MI) (h : mx_cw y M' ∈ mx_AW) : GoodIn mx_AW (mx_ws y M') := by
  intro w hw
  have h1 : w ∈ mx_AW := by
    rcases List.mem_cons.mp hw with q | q
    · rw [q]; exact h
    · exact q
  exact ⟨h1, good_of_word (List.mem_filter.mp h1).2⟩
theorem mx_blind (av : List Value) (G : mx_G) (I : mx_I) (base : Nat) (D : va_G) (dA : Nat → ClassId) : FrameBlind (mx_Pc av G I base D dA) := by
  intro a U g mk ⟨h1, h2, h3⟩
  exact ⟨h1, h2, h3.go (U := U.calling g mk a) (State.WarmedH.refl U) (fun _ _ _ => rfl)⟩
theorem mx_pre {av : List Value} {s U : State} {H : Heap} {locs : List Loc} {cells slots mc ms base : Nat} {D : va_G} {dA : Nat → ClassId} {lsA : Array Slot} (hM : mx_Mov M S bc bs ls G I s H locs cells slots mc ms base D dA lsA) (hK : mx_KK base D dA s s.heap) (hU : U.heap = H) (hW : s.WarmedH U.vm) : mx_Pc av G I base D dA av.toArray U :=
  ⟨rfl, by rw [hU]; exact hM.1, hK.go hW (fun a ha hn => by rw [hU]; exact hM.2.1.2.1 a ha hn)⟩
theorem mx_obj {s : State} {H : Heap} {base a ci : Nat} {D : va_G} {dA : Nat → ClassId} (h : mx_Rep D dA base H G I) (hK : mx_KK base D dA s s.heap) (ht : mx_tg G a = ci + 10) : ∃ cellB : Cell, H[a]? = some cellB ∧ cellB.vm.isStatics = false ∧ s.vm.findClass (mx_C ci) = some cellB.cls := by
  obtain ⟨hlt, cell, q1, q2, q3, q4⟩ := (h.2.2.2.2.2 a).2.2.2 ci ht
  exact ⟨cell, q1, by rw [q3]; rfl, by rw [q2]; exact (hK.1.1 ci _ (mx_cls hlt).1).2.1⟩
section MXC
variable {y : MethodName} {M' : mx_MI} {d' b1 b2 idx n : Nat} {As rest stk : List Value} {Q' : Option Value → mx_G → mx_I → Prop} {X' : String → mx_G → mx_I → Prop}
theorem mx_rmB {R : Room} (hRf : d ≤ R.frames) (hRl : 48 * d ≤ R.locals) (hdd : d' + 1 ≤ d) (hmL : mx_mL M' ≤ 29) : (mx_rm d' b1 b2).frames + 1 ≤ R.frames ∧ 8 + (mx_mL M' + 11) + (mx_rm d' b1 b2).locals ≤ R.locals := by
  show d' + 1 ≤ R.frames ∧ 8 + (mx_mL M' + 11) + 48 * d' ≤ R.locals
  omega
theorem mx_callV {b ci : Nat} (hd : decode (mx_cc M) pc = .ok (.invokevirtual idx, 3)) (hc : mx_CT y M' d' b1 b2 (.ref b :: As) G I Q' X') (hk : mx_kM y M' n) (hhh : mx_hh M' = []) (h1 : Cond.methodLink (mx_own M) idx y ∈ mx_AW) (h2 : Cond.instanceMethod y ∈ mx_AW) (h3 : Cond.selects (mx_C ci) y y ∈ mx_AW) (ht : mx_tg G b = ci + 10)
    (hst : stk = As.reverse ++ .ref b :: rest) (hn : As.length = n) (hW : (rest.map fun v => v.category).sum ≤ 8) (hdd : d' + 1 ≤ d)
    (kx : ∀ E G' I', X' E G' I' → mx_VX M S d bc bs pc ls rest E G' I' Q X) (kk : ∀ v G' I', Q' v G' I' → mx_V M S d bc bs (pc + 3) ls (v.toList ++ rest) G' I' Q X) : mx_V M S d (bc + b1) (bs + b2) pc ls stk G I Q X := by
  subst hst
  refine mx_callK (av := (Value.ref b :: As).toArray) (Q' := Q') (X' := X') ?_ kx kk
  intro p l e R s m args below meth c mc ms base D dA hF H locs cells slots lsA hM
  obtain ⟨hx, hb, hml, hrt, hown, hts, hlocks, htab, hini, hfl, hRf, hRl, hmc, hms, hbase, hKK⟩ := hF
  have hb1 := hM.2.2.1
  have hb2 := hM.2.2.2.1
  exact vx_runV (C := mx_C ci) ⟨hx, hb, hml, hown, hts⟩ (hc l base D dA hfl) ⟨callB_of n hts (mx_good y M' hk.1) (by unfold mx_ws mx_cw; rw [hhh]) rfl rfl (hts _ hk.2.1) (hts _ h1) hk.2.2.1 (mx_rmB hRf hRl hdd hk.2.2.2), hts _ h2, hts _ h3⟩
    ⟨mx_blind _ _ _ _ _ _, mx_obj hM.1 hKK ht, fun U hU hW => mx_pre hM hKK hU hW⟩ rfl hn hM.2.2.2.2.1.1 rfl (lv_room hW) hd ⟨by omega, by omega⟩
theorem mx_callS (hd : decode (mx_cc M) pc = .ok (.invokestatic idx, 3)) (hc : mx_CT y M' d' b1 b2 As G I Q' X') (hk : mx_kM y M' n) (hhh : mx_hh M' = []) (h1 : Cond.methodLink (mx_own M) idx y ∈ mx_AW) (h2 : Cond.static y ∈ mx_AW)
    (hst : stk = As.reverse ++ rest) (hn : As.length = n) (hW : (rest.map fun v => v.category).sum ≤ 8) (hdd : d' + 1 ≤ d)
    (kx : ∀ E G' I', X' E G' I' → mx_VX M S d bc bs pc ls rest E G' I' Q X) (kk : ∀ v G' I', Q' v G' I' → mx_V M S d bc bs (pc + 3) ls (v.toList ++ rest) G' I' Q X) : mx_V M S d (bc + b1) (bs + b2) pc ls stk G I Q X := by
  subst hst
  refine mx_callK (av := As.toArray) (Q' := Q') (X' := X') ?_ kx kk
  intro p l e R s m args below meth c mc ms base D dA hF H locs cells slots lsA hM
  obtain ⟨hx, hb, hml, hrt, hown, hts, hlocks, htab, hini, hfl, hRf, hRl, hmc, hms, hbase, hKK⟩ := hF
  have hb1 := hM.2.2.1
  have hb2 := hM.2.2.2.1
  exact vx_runS ⟨hx, hb, hml, hown, hts⟩ (hc l base D dA hfl) ⟨callB_of n hts (mx_good y M' hk.1) (by unfold mx_ws mx_cw; rw [hhh]) rfl rfl (hts _ hk.2.1) (hts _ h1) hk.2.2.1 (mx_rmB hRf hRl hdd hk.2.2.2), hts _ h2⟩
    ⟨mx_blind _ _ _ _ _ _, fun U hU hW => mx_pre hM hKK hU hW⟩ rfl hn hM.2.2.2.2.1.1 rfl (lv_room hW) hd ⟨by omega, by omega⟩
/-- a static method with handlers of its own -/
theorem mx_callSW (hd : decode (mx_cc M) pc = .ok (.invokestatic idx, 3)) (hc : mx_CT y M' d' b1 b2 As G I Q' X') (hk : mx_kM y M' n) {h0 : Nat × Nat × Nat × Nat} {hr0 : List (Nat × Nat × Nat × Nat)} (hhh : mx_hh M' = h0 :: hr0) (h1 : Cond.methodLink (mx_own M) idx y ∈ mx_AW) (h2 : Cond.static y ∈ mx_AW)
    (hst : stk = As.reverse ++ rest) (hn : As.length = n) (hW : (rest.map fun v => v.category).sum ≤ 8) (hdd : d' + 1 ≤ d)
    (kx : ∀ E G' I', X' E G' I' → mx_VX M S d bc bs pc ls rest E G' I' Q X) (kk : ∀ v G' I', Q' v G' I' → mx_V M S d bc bs (pc + 3) ls (v.toList ++ rest) G' I' Q X) : mx_V M S d (bc + b1) (bs + b2) pc ls stk G I Q X := by
  subst hst
  refine mx_callK (av := As.toArray) (Q' := Q') (X' := X') ?_ kx kk
  intro p l e R s m args below meth c mc ms base D dA hF H locs cells slots lsA hM
  obtain ⟨hx, hb, hml, hrt, hown, hts, hlocks, htab, hini, hfl, hRf, hRl, hmc, hms, hbase, hKK⟩ := hF
  have hb1 := hM.2.2.1
  have hb2 := hM.2.2.2.1
  have hw : mx_cw y M' = .codeWith y (mx_cc M') (mx_mL M') (mx_rt M') (h0 :: hr0) := by unfold mx_cw; rw [hhh]
  have hG := mx_good y M' hk.1
  have hmem : Cond.codeWith y (mx_cc M') (mx_mL M') (mx_rt M') (h0 :: hr0) ∈ mx_ws y M' := by rw [← hw]; exact List.mem_cons_self
  have hR := mx_rmB (b1 := b1) (b2 := b2) hRf hRl hdd hk.2.2.2
  exact vx_runSX (hh := h0 :: hr0) ⟨hx, hb, hml, hown, hts⟩ (hc l base D dA hfl) ⟨⟨rfl, rfl, hR.1, hR.2, pay_in hts hG, hmem⟩, hts _ (hG _ hmem).1, hts _ hk.2.1, ⟨hk.2.2.1.1, hk.2.2.1.2.1⟩, fun sig h => by
      have h2 := hk.2.2.1.2.2
      rw [h] at h2
      exact (Option.some.inj h2).symm, hts _ h1, hts _ h2⟩
    ⟨mx_blind _ _ _ _ _ _, fun U hU hW => mx_pre hM hKK hU hW⟩ rfl hn hM.2.2.2.2.1.1 rfl (lv_room hW) hd ⟨by omega, by omega⟩
/-- a static private method of a nest mate -/
theorem mx_callSN {host : String} (hd : decode (mx_cc M) pc = .ok (.invokestatic idx, 3)) (hc : mx_CT y M' d' b1 b2 As G I Q' X') (hk : mx_kM y M' n) (hhh : mx_hh M' = []) (h1 : Cond.methodLinkNest (mx_own M) idx y host ∈ mx_NW) (h2 : Cond.static y ∈ mx_AW)
    (hst : stk = As.reverse ++ rest) (hn : As.length = n) (hW : (rest.map fun v => v.category).sum ≤ 8) (hdd : d' + 1 ≤ d)
    (kx : ∀ E G' I', X' E G' I' → mx_VX M S d bc bs pc ls rest E G' I' Q X) (kk : ∀ v G' I', Q' v G' I' → mx_V M S d bc bs (pc + 3) ls (v.toList ++ rest) G' I' Q X) : mx_V M S d (bc + b1) (bs + b2) pc ls stk G I Q X := by
  subst hst
  refine mx_callK (av := As.toArray) (Q' := Q') (X' := X') ?_ kx kk
  intro p l e R s m args below meth c mc ms base D dA hF H locs cells slots lsA hM
  obtain ⟨hx, hb, hml, hrt, hown, hts, hlocks, htab, hini, hfl, hRf, hRl, hmc, hms, hbase, hKK⟩ := hF
  have hb1 := hM.2.2.1
  have hb2 := hM.2.2.2.1
  exact vx_runSN ⟨hx, hb, hml, hown, hts⟩ (hc l base D dA hfl) ⟨va_cnB n hts (mx_good y M' hk.1) (by unfold mx_ws mx_cw; rw [hhh]) rfl rfl (hKK.2.2.2.2.2.2.2.2.2 _ h1) (hts _ hk.2.1) hk.2.2.1 (mx_rmB hRf hRl hdd hk.2.2.2), hts _ h2, trivial⟩
    ⟨mx_blind _ _ _ _ _ _, fun U hU hW => mx_pre hM hKK hU hW⟩ rfl hn hM.2.2.2.2.1.1 rfl (lv_room hW) hd ⟨by omega, by omega⟩
theorem mx_callI {b : Nat} (hd : decode (mx_cc M) pc = .ok (.invokespecial idx, 3)) (hc : mx_CT y M' d' b1 b2 (.ref b :: As) G I Q' X') (hk : mx_kM y M' n) (hhh : mx_hh M' = []) (hrn : mx_rt M' = none) (hnm : y.name = "<init>") (h1 : Cond.methodLink (mx_own M) idx y ∈ mx_AW) (h2 : Cond.instanceMethod y ∈ mx_AW)
    (hst : stk = As.reverse ++ .ref b :: rest) (hn : As.length = n) (hW : (rest.map fun v => v.category).sum ≤ 8) (hdd : d' + 1 ≤ d)
    (kx : ∀ E G' I', X' E G' I' → mx_VX M S d bc bs pc ls rest E G' I' Q X) (kk : ∀ v G' I', Q' v G' I' → mx_V M S d bc bs (pc + 3) ls (v.toList ++ rest) G' I' Q X) : mx_V M S d (bc + b1) (bs + b2) pc ls stk G I Q X := by
  subst hst
  refine mx_callK (av := (Value.ref b :: As).toArray) (Q' := Q') (X' := X') ?_ kx kk
  intro p l e R s m args below meth c mc ms base D dA hF H locs cells slots lsA hM
  obtain ⟨hx, hb, hml, hrt, hown, hts, hlocks, htab, hini, hfl, hRf, hRl, hmc, hms, hbase, hKK⟩ := hF
  have hb1 := hM.2.2.1
  have hb2 := hM.2.2.2.1
  exact vx_runI ⟨hx, hb, hml, hown, hts⟩ (hc l base D dA hfl) ⟨callB_of n hts (mx_good y M' hk.1) (by unfold mx_ws mx_cw; rw [hhh, hrn]) rfl rfl (hts _ hk.2.1) (hts _ h1) hk.2.2.1 (mx_rmB hRf hRl hdd hk.2.2.2), hnm, hts _ h2⟩
    ⟨mx_blind _ _ _ _ _ _, fun U hU hW => mx_pre hM hKK hU hW⟩ rfl hn hM.2.2.2.2.1.1 rfl (lv_room hW) hd ⟨by omega, by omega⟩
theorem mx_callIN {b : Nat} {host : String} (hd : decode (mx_cc M) pc = .ok (.invokespecial idx, 3)) (hc : mx_CT y M' d' b1 b2 (.ref b :: As) G I Q' X') (hk : mx_kM y M' n) (hhh : mx_hh M' = []) (hrn : mx_rt M' = none) (hnm : y.name = "<init>") (h1 : Cond.methodLinkNest (mx_own M) idx y host ∈ mx_NW) (h2 : Cond.instanceMethod y ∈ mx_AW)
    (hst : stk = As.reverse ++ .ref b :: rest) (hn : As.length = n) (hW : (rest.map fun v => v.category).sum ≤ 8) (hdd : d' + 1 ≤ d)
    (kx : ∀ E G' I', X' E G' I' → mx_VX M S d bc bs pc ls rest E G' I' Q X) (kk : ∀ v G' I', Q' v G' I' → mx_V M S d bc bs (pc + 3) ls (v.toList ++ rest) G' I' Q X) : mx_V M S d (bc + b1) (bs + b2) pc ls stk G I Q X := by
  subst hst
  refine mx_callK (av := (Value.ref b :: As).toArray) (Q' := Q') (X' := X') ?_ kx kk
  intro p l e R s m args below meth c mc ms base D dA hF H locs cells slots lsA hM
  obtain ⟨hx, hb, hml, hrt, hown, hts, hlocks, htab, hini, hfl, hRf, hRl, hmc, hms, hbase, hKK⟩ := hF
  have hb1 := hM.2.2.1
  have hb2 := hM.2.2.2.1
  exact vx_runIN ⟨hx, hb, hml, hown, hts⟩ (hc l base D dA hfl) ⟨va_cnB n hts (mx_good y M' hk.1) (by unfold mx_ws mx_cw; rw [hhh, hrn]) rfl rfl (hKK.2.2.2.2.2.2.2.2.2 _ h1) (hts _ hk.2.1) hk.2.2.1 (mx_rmB hRf hRl hdd hk.2.2.2), hnm, hts _ h2⟩
    ⟨mx_blind _ _ _ _ _ _, fun U hU hW => mx_pre hM hKK hU hW⟩ rfl hn hM.2.2.2.2.1.1 rfl (lv_room hW) hd ⟨by omega, by omega⟩
end MXC
theorem mx_objInit {idx a : Nat} (hd : decode (mx_cc M) pc = .ok (.invokespecial idx, 3)) (h1 : Cond.methodLink (mx_own M) idx objectInit ∈ mx_AW) (h2 : Cond.instanceMethod objectInit ∈ mx_AW) (h3 : Cond.code objectInit ⟨#[0xb1]⟩ 1 none ∈ mx_AW) (hd1 : 1 ≤ d) (hst : (st.map fun v => v.category).sum + 12 ≤ 48)
    (kk : mx_V M S d bc bs (pc + 3) ls st G I Q X) : mx_V M S d bc bs pc ls (.ref a :: st) G I Q X := by
  intro p l e R s m args below meth c mc ms base D dA hF H locs cells slots lsA hM
  have k1 := kk p l e R s m args below meth c mc ms base D dA hF H locs cells slots lsA hM
  obtain ⟨hx, hb, hml, hrt, hown, hts, hlocks, htab, hini, hfl, hRf, hRl, hmc, hms, hbase, hKK⟩ := hF
  exact W.objInit hx hb hown (hts _ h1) (hts _ h2) (hts _ h3) rfl (hM.2.2.2.2.1.1.trans hml.symm) rfl hd (by omega) (by show 2 * 0 + _ + 12 ≤ _; omega) k1
-- returns
theorem mx_iret {v : Int32} {ty : FieldType} (hd : decode (mx_cc M) pc = .ok (.ireturn, 1)) (hr : mx_rt M = some ty) (hn : narrow ty (.int v) = .int v) (hQ : Q (some (.int v)) G I) : mx_V M S d bc bs pc ls [.int v] G I Q X := by
  intro p l e R s m args below meth c mc ms base D dA hF H locs cells slots lsA hM
  obtain ⟨hx, hb, hml, hrt, hown, hts, hlocks, htab, hini, hfl, hRf, hRl, hmc, hms, hbase, hKK⟩ := hF
  have hb1 := hM.2.2.1
  have hb2 := hM.2.2.2.1
  refine W.widen (k := mc) (n := ms) (by omega) (by omega) ?_
  exact vx_ret (W.zret hx hb (hrt.trans hr) hn (fun t ht hW => ⟨⟨_, G, I, rfl, hQ, by rw [ht]; exact hM.1⟩, hM.2.1.F ht⟩) hM.2.1.2.2 hd hlocks)
theorem mx_lret {v : Int64} (hd : decode (mx_cc M) pc = .ok (.lreturn, 1)) (hr : mx_rt M = some .long) (hQ : Q (some (.long v)) G I) : mx_V M S d bc bs pc ls [.long v] G I Q X := by
  intro p l e R s m args below meth c mc ms base D dA hF H locs cells slots lsA hM
  obtain ⟨hx, hb, hml, hrt, hown, hts, hlocks, htab, hini, hfl, hRf, hRl, hmc, hms, hbase, hKK⟩ := hF
  have hb1 := hM.2.2.1
  have hb2 := hM.2.2.2.1
  refine W.widen (k := mc) (n := ms) (by omega) (by omega) ?_
  exact vx_ret (W.lret hx hb (hrt.trans hr) (fun t ht hW => ⟨⟨_, G, I, rfl, hQ, by rw [ht]; exact hM.1⟩, hM.2.1.F ht⟩) hM.2.1.2.2 hd hlocks)
theorem mx_aret {r : Nat} {C : String} (hd : decode (mx_cc M) pc = .ok (.areturn, 1)) (hr : mx_rt M = some (.object C)) (hQ : Q (some (.ref r)) G I) : mx_V M S d bc bs pc ls [.ref r] G I Q X := by
  intro p l e R s m args below meth c mc ms base D dA hF H locs cells slots lsA hM
  obtain ⟨hx, hb, hml, hrt, hown, hts, hlocks, htab, hini, hfl, hRf, hRl, hmc, hms, hbase, hKK⟩ := hF
  have hb1 := hM.2.2.1
  have hb2 := hM.2.2.2.1
  refine W.widen (k := mc) (n := ms) (by omega) (by omega) ?_
  exact vx_ret (W.aret hx hb (hrt.trans hr) (Or.inl ⟨_, rfl⟩) (Or.inr ⟨_, rfl⟩) (fun t ht hW => ⟨⟨_, G, I, rfl, hQ, by rw [ht]; exact hM.1⟩, hM.2.1.F ht⟩) hM.2.1.2.2 hd hlocks)
theorem mx_vret (hd : decode (mx_cc M) pc = .ok (.return_, 1)) (hr : mx_rt M = none) (hQ : Q none G I) : mx_V M S d bc bs pc ls [] G I Q X := by
  intro p l e R s m args below meth c mc ms base D dA hF H locs cells slots lsA hM
  obtain ⟨hx, hb, hml, hrt, hown, hts, hlocks, htab, hini, hfl, hRf, hRl, hmc, hms, hbase, hKK⟩ := hF
  have hb1 := hM.2.2.1
  have hb2 := hM.2.2.2.1
  refine W.widen (k := mc) (n := ms) (by omega) (by omega) ?_
  exact vx_ret (W.vret hx hb (hrt.trans hr) (fun t ht hW => ⟨⟨_, G, I, rfl, hQ, by rw [ht]; exact hM.1⟩, hM.2.1.F ht⟩) hM.2.1.2.2 hd hlocks)
-- the start
def mx_fl : List Value → List (Option Value)
  | [] => []
  | v :: r => if v.category = 2 then some v :: none :: mx_fl r else some v :: mx_fl r
theorem mx_fl_args (av : List Value) : ∀ (o j : Nat) (v : Value), (mx_fl av)[j]? = some (some v) → (o + j, v) ∈ lv_args o av := by
  induction av with
  | nil => intro o j v h; simp [mx_fl] at h
  | cons a r ih =>
    intro o j v h
    unfold lv_args
    by_cases hc : a.category = 2
    · simp only [mx_fl, hc, if_true] at h ⊢
      match j, h with
      | 0, h =>
        have : a = v := by simpa using h
        subst this
        exact List.mem_cons_self
      | 1, h => simp at h
      | j + 2, h =>
        refine List.mem_cons_of_mem _ ?_
        have := ih (o + 2) j v (by simpa using h)
        rwa [show o + 2 + j = o + (j + 2) by omega] at this
    · simp only [mx_fl, hc, if_false] at h ⊢
      match j, h with
      | 0, h =>
        have : a = v := by simpa using h
        subst this
        exact List.mem_cons_self
      | j + 1, h =>
        refine List.mem_cons_of_mem _ ?_
        have := ih (o + 1) j v (by simpa using h)
        rwa [show o + 1 + j = o + (j + 1) by omega] at this
theorem mx_ent {av : List Value} {n k : Nat} (h : (lg_sl av).length ≤ n) : mx_L ((lg_sl av ++ List.replicate (n - (lg_sl av).length) Slot.unset).toArray) n (mx_fl av ++ List.replicate k none) := by
  obtain ⟨h1, h2, h3⟩ := lv_entry av h
  refine ⟨h1, h2, fun i v hi => h3 (i, v) ?_⟩
  have : (mx_fl av)[i]? = some (some v) := by
    rcases Nat.lt_or_ge i (mx_fl av).length with q | q
    · rwa [List.getElem?_append_left q] at hi
    · rw [List.getElem?_append_right q] at hi
      have := List.mem_of_getElem? hi
      have := List.eq_of_mem_replicate this
      cases this
  simpa using mx_fl_args av 0 i v this
theorem mx_start {y : MethodName} {av : List Value} {k : Nat} (hy : plainName y.cls = true) (hoy : y.cls = mx_own M) (hhh : mx_hh M = []) (hini : mx_ini M = true → y.name = "<init>") (hlen : (lg_sl av).length ≤ mx_mL M) (kk : mx_V M mx_S0 d bc bs 0 (mx_fl av ++ List.replicate k none) [] G I Q X) : mx_CT y M d bc bs av G I Q X := by
  intro l base D dA hfl
  have hcw : mx_ws y M = Cond.code y (mx_cc M) (mx_mL M) (mx_rt M) :: mx_AW := by unfold mx_ws mx_cw; rw [hhh]
  refine vx_ofW (cc := mx_cc M) (maxL := mx_mL M) (ret := mx_rt M) hy hcw ?_
  intro p e s m args below meth c s₁ B hml htab hv
  obtain ⟨rfl, hRep, hKK⟩ := hv
  have hts := atoms_spec (ws := mx_ws y M) B.pre
  have hown : s.vm.findClass y.cls = some m.cls := findClass_of_methodNamed B.named
  have hname : meth.name = y.name := (name_of_methodNamed B.named B.method).1
  have htab0 : c.exceptionTable.toList = tableOf (mx_hh M) := by
    rw [hhh]
    exact List.eq_nil_iff_forall_not_mem.mpr htab
  rw [lg_entry_eq]
  exact kk p l e _ s m av.toArray below meth c bc bs base D dA ⟨B.exec, B.bytes, hml, B.returns, by rw [← hoy]; exact hown, fun w hw => hts w (List.mem_cons_of_mem _ hw), B.notSynchronized, htab0, fun h => by rw [hname]; exact hini h, hfl, Nat.le_refl _, Nat.le_refl _, Nat.le_refl _, Nat.le_refl _, by rw [hRep.1]; exact hRep.2.1, hKK⟩
    s.heap [] 0 0 _ ⟨hRep, va_S.rf, by omega, by omega, mx_ent hlen, Or.inl rfl⟩
theorem mx_startH {y : MethodName} {av : List Value} {k : Nat} {h0 : Nat × Nat × Nat × Nat} {hr0 : List (Nat × Nat × Nat × Nat)} (hy : plainName y.cls = true) (hoy : y.cls = mx_own M) (hhh : mx_hh M = h0 :: hr0) (hini : mx_ini M = true → y.name = "<init>") (hlen : (lg_sl av).length ≤ mx_mL M) (kk : mx_V M mx_S0 d bc bs 0 (mx_fl av ++ List.replicate k none) [] G I Q X) : mx_CT y M d bc bs av G I Q X := by
  intro l base D dA hfl
  have hcw : mx_ws y M = Cond.codeWith y (mx_cc M) (mx_mL M) (mx_rt M) (h0 :: hr0) :: mx_AW := by unfold mx_ws mx_cw; rw [hhh]
  refine vx_ofWH (cc := mx_cc M) (maxL := mx_mL M) (ret := mx_rt M) hy hcw ?_
  intro p e s m args below meth c s₁ B hml hv
  obtain ⟨rfl, hRep, hKK⟩ := hv
  have hts := atoms_spec (ws := mx_ws y M) B.pre
  have hown : s.vm.findClass y.cls = some m.cls := findClass_of_methodNamed B.named
  have hname : meth.name = y.name := (name_of_methodNamed B.named B.method).1
  have htab0 : c.exceptionTable.toList = tableOf (mx_hh M) := by
    rw [hhh]
    exact vx_table (x := y) B (hts _ (by rw [hcw]; exact List.mem_cons_self))
  rw [lg_entry_eq]
  exact kk p l e _ s m av.toArray below meth c bc bs base D dA ⟨B.exec, B.bytes, hml, B.returns, by rw [← hoy]; exact hown, fun w hw => hts w (List.mem_cons_of_mem _ hw), B.notSynchronized, htab0, fun h => by rw [hname]; exact hini h, hfl, Nat.le_refl _, Nat.le_refl _, Nat.le_refl _, Nat.le_refl _, by rw [hRep.1]; exact hRep.2.1, hKK⟩
    s.heap [] 0 0 _ ⟨hRep, va_S.rf, by omega, by omega, mx_ent hlen, Or.inl rfl⟩
/-- a contract says less -/
theorem mx_CT.mono {y : MethodName} {av : List Value} {Q' : Option Value → mx_G → mx_I → Prop} {X' : String → mx_G → mx_I → Prop} (h : mx_CT y M d bc bs av G I Q' X') (hQ : ∀ v G I, Q' v G I → Q v G I) (hX : ∀ E G I, X' E G I → X E G I) : mx_CT y M d bc bs av G I Q X := by
  intro l base D dA hfl p e ha hc hk s m args below hf happ hP hK
  obtain ⟨k, o, h1, h2, h3, h4⟩ := h l base D dA hfl p e ha hc hk s m args below hf happ hP hK
  refine ⟨k, o, h1, h2, h3, ?_⟩
  rcases h4 with ⟨⟨⟨v, G', I', e1, e2, e3⟩, e4⟩, e5⟩ | ⟨q, e1, E, ce, L, ⟨⟨G', I', e2, e3⟩, e4⟩, e5⟩
  · exact Or.inl ⟨⟨⟨v, G', I', e1, hQ _ _ _ e2, e3⟩, e4⟩, e5⟩
  · exact Or.inr ⟨q, e1, E, ce, L, ⟨⟨G', I', hX _ _ _ e2, e3⟩, e4⟩, e5⟩
end MXM
