/-! CONTRACTS AND CALLS -/
theorem gcode_spec {M : gM} {args : Array Value} {s : State} {m : MethodId} (h : (gcode M).before args s = true) (hn : s.methodNamed? M.1 = some m) : ∃ meth c, s.vm.method? m = some meth ∧ meth.code = some c ∧ c.code = M.2.1 ∧ c.maxLocals = M.2.2.1 ∧ meth.sig.returnType = M.2.2.2.1 ∧ meth.locks = false ∧ c.exceptionTable.toList.map (fun h => (h.startPc, h.endPc, h.handlerPc, h.catchType)) = M.2.2.2.2 ∧ parseMethodDescriptor M.1.desc = some meth.sig := by
  obtain ⟨y, cc, nL, rt, hs⟩ := M
  cases hs with
  | nil =>
    obtain ⟨meth, c, h1, h2, h3, h4, h5, h6, h7, h8⟩ := Cond.code_spec hn h
    refine ⟨meth, c, h1, h2, h3, h4, h5, h6, ?_, h8⟩
    have : c.exceptionTable = #[] := by simpa [Array.isEmpty_iff] using h7
    rw [this]; rfl
  | cons a r =>
    obtain ⟨m9, meth, c, hn9, h1, h2, h3, h4, h7, h5, h6, h8⟩ := Cond.codeWith_spec h
    cases hn.symm.trans hn9
    exact ⟨meth, c, h1, h2, h3, h4, h5, h6, h7, h8⟩
def gPc (D : va_G) (dA : Nat → ClassId) (κ : Nat → Nat) (sz : Nat) (avs : List Value) (w : gW) : Array Value → State → Prop := fun v U => v = (avs.map (gv κ)).toArray ∧ U.heap.size = sz ∧ gHT U ∧ va_P D gcls (gk dA κ w) U.heap ∧ va_K D gcls (gtys dA) U ∧ va_D (fun _ => True) (gk dA κ w) ∧ gH0 (va_A (gk dA κ w) sz) U
def gMet (l : Launch) (M : gM) (rm : Room) (Pc : Array Value → State → Prop) (Qc : Array Value → State → Outcome → State → Prop) (mc ms : Nat) (free : Addr → Prop) : Prop :=
  MetFree l M.1 (headSpec [gcode M] rm) Pc (fun _ _ _ _ _ => True) (fun a st o t => Qc a st o t ∧ ∃ L, (st.WarmedH t.vm ∧ st.sameButNew ({ t with vm := st.vm } : State) L mc ms) ∧ ∀ q ∈ L, free q.base)
/-- a method's contract over pure worlds: called with avs in the world w it comes to an end of which Q holds, with d levels of calls, mc cells of ms slots -/
def gCt (M : gM) (d : Nat × Nat) (mc ms : Nat) (avs : List Value) (w : gW) (Q : gR → gW → Prop) : Prop := ∀ (l : Launch), l.stackTraces = false → ∀ (D : va_G) (dA : Nat → ClassId) (κ : Nat → Nat) (sz : Nat), gMet l M { frames := d.1, cells := mc, slots := ms, locals := d.2 } (gPc D dA κ sz avs w) (fun _ st o t => gQ (va_A (gk dA κ w) sz) D dA κ w.length Q st o t) mc ms (va_A (gk dA κ w) sz)
def gla : List Value → List (Option Value)
  | [] => []
  | v :: r => if v.category = 2 then some v :: none :: gla r else some v :: gla r
theorem gas_gla (κ : Nat → Nat) : ∀ (vs : List Value) (i : Nat), gas κ i (gla vs) = lv_args i (vs.map (gv κ)) := by
  intro vs
  induction vs with
  | nil => intro i; rfl
  | cons v r ih =>
    intro i
    simp only [gla, List.map_cons, lv_args, gv_cat]
    by_cases h : v.category = 2
    · rw [if_pos h, if_pos h]; simp only [gas]; rw [ih]
    · rw [if_neg h, if_neg h]; simp only [gas]; rw [ih]
theorem gas_none (κ : Nat → Nat) (r : Nat) : ∀ (l : List (Option Value)) (i : Nat), gas κ i (l ++ List.replicate r none) = gas κ i l := by
  have h0 : ∀ (r i : Nat), gas κ i (List.replicate r none) = [] := by
    intro r
    induction r with
    | zero => intro i; rfl
    | succ r ih => intro i; rw [List.replicate_succ]; exact ih (i + 1)
  intro l
  induction l with
  | nil => intro i; exact h0 r i
  | cons a l ih =>
    intro i
    cases a with
    | none => exact ih (i + 1)
    | some v => exact congrArg (fun z => (i, gv κ v) :: z) (ih (i + 1))
theorem gsl_len (κ : Nat → Nat) : ∀ vs : List Value, (lg_sl (vs.map (gv κ))).length = (lg_sl vs).length := by
  intro vs
  induction vs with
  | nil => rfl
  | cons v r ih =>
    simp only [lg_sl, List.map_cons, List.flatMap_cons, List.length_append, gv_cat] at ih ⊢
    rw [ih]
    by_cases h : v.category = 2 <;> simp [h]
theorem gCt.of {M : gM} {d : Nat × Nat} {mc ms : Nat} {avs : List Value} {w : gW} {Q : gR → gW → Prop} {ls : List (Option Value)} (r : Nat) (hpl : plainName M.1.cls = true) (hls : gla avs ++ List.replicate r none = ls) (hlen : (lg_sl avs).length ≤ M.2.2.1) (h : G M d 0 ls [] w mc ms Q) : gCt M d mc ms avs w Q := by
  intro l hl D dA κ sz
  refine MetFree.of_bodyS (code := M.2.1) (maxLocals := M.2.2.1) (ret := M.2.2.2.1) hpl ?_ ?_
  · intro args s m hb hn
    obtain ⟨meth, c, h1, h2, h3, h4, h5, h6, -, -⟩ := gcode_spec (atoms_spec (ws := [gcode M]) hb (gcode M) List.mem_cons_self) hn
    exact ⟨meth, c, h1, h2, h3, h4, h5, h6⟩
  · intro p e s m args below meth c s₁ B hml hPc _
    obtain ⟨rfl, hsz, hT, hP, hK, hD, hH⟩ := hPc
    subst hsz
    have hh0 : s₁.heap = s.heap := by rw [B.state]; rfl
    have X₀ := Stand.of_body B
    obtain ⟨meth', c', g1, g2, g3, g4, g5, g6, g7, g8⟩ := gcode_spec (atoms_spec (ws := [gcode M]) B.pre (gcode M) List.mem_cons_self) B.named
    cases g1.symm.trans B.method
    cases g2.symm.trans X₀.code
    have C : gC M d p l { frames := d.1, cells := mc, slots := ms, locals := d.2 } s m meth c (va_A (gk dA κ w) s.heap.size) D dA :=
      ⟨B.exec, B.bytes, hml, B.returns, findClass_of_methodNamed B.named, hT, hK, fun q h => Or.inr h, B.notSynchronized, ⟨Nat.le_refl _, Nat.le_refl _⟩, g7, (name_of_methodNamed B.named B.method).1, hl, hH⟩
    have hl0 := lv_entry (avs.map (gv κ)) (n := M.2.2.1) (by rw [gsl_len]; exact hlen)
    have hl1 : lv_has ((lg_sl (avs.map (gv κ)) ++ List.replicate (M.2.2.1 - (lg_sl (avs.map (gv κ))).length) Slot.unset).toArray) M.2.2.1 (gas κ 0 ls) := by
      rw [← hls, gas_none, gas_gla]; exact hl0
    have K := h p l e { frames := d.1, cells := mc, slots := ms, locals := d.2 } s m (avs.map (gv κ)).toArray below meth c (va_A (gk dA κ w) s.heap.size) D dA κ w.length C trivial κ s.heap [] _ 0 0 ⟨⟨Nat.le_refl _, fun _ => rfl, fun _ _ => rfl⟩, by simp, by simp, hl1, hP, hD.self, va_S.rf⟩
    obtain ⟨t, a1, o, b1, b2, b3, L, b4, b5⟩ := K s₁ hh0 X₀
    refine ⟨t, o, ?_, b1, b2, b3, L, b4, b5⟩
    rw [lg_entry_eq]
    exact a1
theorem gCt.mono {M : gM} {d : Nat × Nat} {mc ms : Nat} {avs : List Value} {w : gW} {Q Q' : gR → gW → Prop} (h : ∀ r w, Q r w → Q' r w) (g : gCt M d mc ms avs w Q) : gCt M d mc ms avs w Q' := by
  intro l hl D dA κ sz p e ha hc hk s m args below h1 h2 h3 h4
  obtain ⟨n, o, q1, q2, q3, ⟨⟨⟨κ', r, w', hq, hr⟩, hF⟩, hL⟩⟩ := g l hl D dA κ sz p e ha hc hk s m args below h1 h2 h3 h4
  exact ⟨n, o, q1, q2, q3, ⟨⟨⟨κ', r, w', h r w' hq, hr⟩, hF⟩, hL⟩⟩
section GCALL
variable {p : Program} {l : Launch} {e : Env} {R : Room} {s : State} {m : MethodId} {sargs : Array Value} {below : List Frame} {meth : Method} {c : Code} {U : State} {locs : List Loc} {cells slots : Nat}
/-- a call, whatever its outcome: the caller's frame goes on, or the exception lies over it -/
theorem gcall {M : gM} {rm : Room} {Pc : Array Value → State → Prop} {Qc : Array Value → State → Outcome → State → Prop} {mc ms : Nat} {free : Addr → Prop} {g : JFrame} {ig : Instr} {mk : MethodId} {a : Array Value} (hM : gMet l M rm Pc Qc mc ms free) (hrc : rm.cells = mc) (hrs : rm.slots = ms)
    (hfr : rm.frames + 1 ≤ R.frames) (hlo : 8 + (M.2.2.1 + 11) + rm.locals ≤ R.locals) (X : Stand p l e R s m sargs below meth c U locs cells slots) (hg : g.method = m) (hsize : g.locals.size = c.maxLocals) (hdg : decode c.code g.pc = .ok (ig, 3)) (hW : 2 * g.monitorRoom + (g.stack.map fun v => v.category).sum ≤ 8)
    (hn : U.methodNamed? M.1 = some mk) (hcode : (gcode M).before a U = true) (hini : (Cond.initialized M.1.cls).before a U = true) (hcells : cells + mc ≤ R.cells) (hslots : slots + ms ≤ R.slots) (hP : Pc a (U.calling g mk a)) :
    ∃ (o : Outcome) (t T' : State) (L : List Loc), Qc a (U.calling g mk a) o t ∧ T'.heap = t.heap ∧ T'.vm = t.vm ∧ (∀ q ∈ L, free q.base) ∧ Stand p l e R s m sargs below meth c T' (locs ++ L) (cells + mc) (slots + ms) ∧
      ((∃ v, o = .returned v ∧ Steps p.tables e below (doInvoke e (U.setTop g) [] mk a).1 (T'.setTop { g with pc := g.pc + 3, stack := v.toList ++ g.stack })) ∨ (∃ x, o = .threw x ∧ Steps p.tables e below (doInvoke e (U.setTop g) [] mk a).1 ((T'.setTop g).pushFrame (.throwing x)))) := by
  obtain ⟨methY, cY, hmY, hcY, -, hlY, -, -, -, -⟩ := gcode_spec hcode hn
  obtain ⟨kY, hkY, -⟩ := className_of_methodNamed hn
  have hinitY : kY.init = .initialized := Cond.initialized_spec (findClass_of_methodNamed hn) hkY hini
  have h : At U g.method c below := by rw [hg]; exact X.here
  have happ : (headSpec [gcode M] rm).appliesLoose M.1 e.platform (U.calling g mk a) = true :=
    Spec.appliesLoose_calling (g := g) h hdg hn hkY hinitY
      (X.room_calling (g := g) (R' := rm) hsize hmY hcY hfr (by rw [hlY]; omega) (by rw [hrc]; exact hcells) (by rw [hrs]; exact hslots)) (atoms_intro fun w hw => by
        rw [List.mem_singleton.mp hw]; exact hcode)
  obtain ⟨mid, hmid⟩ := h.above
  have hfr : (U.setTop g).frames = (.java g :: mid) ++ below := by rw [State.frames_setTop' g h.top, hmid]; rfl
  obtain ⟨o, s₂, hsteps, -, hend, hq, L, ⟨hW₂, hsm⟩, hL⟩ := Steps.callFree hM p X.admits X.cas X.clock (acts := []) hfr happ hP trivial
  rw [State.frames_setTop' g h.top] at hend
  have hq' : Qc a (U.calling g mk a) o s₂ := hq
  have hW3 : (U.calling g mk a).WarmedH s₂.vm := hW₂
  have hsm3 : (U.calling g mk a).sameButNew ({ s₂ with vm := (U.calling g mk a).vm } : State) L mc ms := hsm
  cases o with
  | threw x =>
    have hend' : Ended s₂ (.java g :: below) (.threw x) := by rw [X.tail] at hend; exact hend
    obtain ⟨T', X', -, -, ht⟩ := X.outOfThrown hg hend' hW3 hsm3
    refine ⟨.threw x, s₂, T', L, hq', by rw [ht]; rfl, by rw [ht]; rfl, hL, X', Or.inr ⟨x, rfl, by rw [← ht]; exact hsteps⟩⟩
  | returned v =>
    obtain ⟨e2, q2, q3, q4, q5, q6⟩ := hsm3
    have e3 : s₂ = ({ (U.calling g mk a).setFrames s₂.frames with heap := s₂.heap, slotsUsed := s₂.slotsUsed } : State).setVm s₂.vm := by
      have : s₂ = ({ s₂ with vm := (U.calling g mk a).vm } : State).setVm s₂.vm := rfl
      rw [e2] at this
      exact this
    obtain ⟨c₂, i₂, len₂, hc₂, hd₂, hf₂⟩ := hend
    have hW' : U.WarmedH s₂.vm := hW₂
    have hcc : c₂ = c := by
      have h1 : s₂.code? g.method = U.code? g.method := by
        rw [State.code?_eq, State.code?_eq, hW'.alike.method?]
      exact Option.some.inj (hc₂.symm.trans (h1.trans h.code))
    subst hcc
    have hlen : len₂ = 3 := by rw [hdg] at hd₂; cases hd₂; rfl
    subst hlen
    obtain ⟨g₀, hg0⟩ := Option.isSome_iff_exists.mp h.top
    obtain ⟨r, hr⟩ := State.topJava?_eq_some.mp hg0
    have hs₂ : s₂ = (({ U with heap := s₂.heap, slotsUsed := s₂.slotsUsed } : State).setVm s₂.vm).setTop { g with pc := g.pc + 3, stack := v.toList ++ g.stack } := by
      have hr' : (({ U with heap := s₂.heap, slotsUsed := s₂.slotsUsed } : State).setVm s₂.vm).frames = .java g₀ :: r := hr
      refine e3.trans ?_
      rw [hf₂, State.calling_eq h.top, State.setFrames_setFrames, State.setTop_of_frames _ hr', hr]
      rfl
    have hsame : U.sameButNew ({ U with heap := s₂.heap, slotsUsed := s₂.slotsUsed } : State) L mc ms := by
      refine ⟨?_, q2, q3, q4, q5, q6⟩
      obtain ⟨t, ht, -⟩ := State.frames_cons hr
      show ({ U with heap := s₂.heap, slotsUsed := s₂.slotsUsed } : State) = { U.setFrames U.frames with heap := s₂.heap, slotsUsed := s₂.slotsUsed }
      rw [State.setFrames_self ht]
    subst hg
    refine ⟨.returned v, s₂, (({ U with heap := s₂.heap, slotsUsed := s₂.slotsUsed } : State).setVm s₂.vm), L, hq', rfl, rfl, hL,
      ⟨X.admits, X.cas, X.clock, X.frames, X.room, X.hears, X.method, X.code, (X.here.setHeapUsed s₂.heap s₂.slotsUsed).setVm hW'.alike, X.tail, State.WarmedH.trans X.warmed hW', X.limits, X.bytes, X.same.trans (hsame.setVm s.vm)⟩, Or.inl ⟨v, rfl, ?_⟩⟩
    rw [← hs₂]
    exact hsteps
/-- what links a call: the callee's code, and the pool's entry -/
def gL (own : String) (index : Nat) (M : gM) (np : Nat) : Prop := gcode M ∈ gT ∧ Cond.initialized M.1.cls ∈ gT ∧ (M.1.cls ≠ "java/lang/invoke/MethodHandle" ∧ M.1.cls ≠ "java/lang/invoke/VarHandle") ∧ (parseMethodDescriptor M.1.desc).map (fun d => d.parameters.length) = some np ∧
  (Cond.methodLink own index M.1 ∈ gT ∨ ∃ host, Cond.methodLinkNest own index M.1 host ∈ gT)
theorem gL.np {own : String} {index np : Nat} {M : gM} (h : gL own index M np) {sig : MethodDescriptor} (hs : parseMethodDescriptor M.1.desc = some sig) : np = sig.parameters.length := by
  have h2 := h.2.2.2.1
  rw [hs] at h2
  exact (Option.some.inj h2).symm
theorem giV (X : Stand p l e R s m sargs below meth c U locs cells slots) (hexec : p.tables.exec = Jvm.exec) (hts : ∀ x ∈ gT, x.before sargs s = true) {own C : String} {index np : Nat} {M : gM} (hown : s.vm.findClass own = some m.cls) (hL : gL own index M np) (hi : Cond.instanceMethod M.1 ∈ gT) (hs : Cond.selects C M.1 M.1 ∈ gT)
    {b : Addr} {cellB : Cell} (hcell : U.heap[b]? = some cellB) (hobj : cellB.vm.isStatics = false) (hcls : s.vm.findClass C = some cellB.cls) {g : JFrame} (hg : g.method = m) {as rest : List Value} (hlen : as.length = np) (hstack : g.stack = as.reverse ++ .ref b :: rest) (hdg : decode c.code g.pc = .ok (.invokevirtual index, 3)) :
    ∃ (mk : MethodId) (vm₁ : Vm), Stand p l e R s m sargs below meth c (U.setVm vm₁) locs cells slots ∧ s.methodNamed? M.1 = some mk ∧ ∀ target, (∀ acts, Steps p.tables e below (doInvoke e ((U.setVm vm₁).setTop { g with stack := rest }) acts mk (Value.ref b :: as).toArray).1 target) → Steps p.tables e below (U.setTop g) target := by
  obtain ⟨mk, methM, hnamed, hmethM, hstM, habM⟩ := Cond.instanceMethod_spec (hts _ hi)
  obtain ⟨methM', cM, hmethM', -, -, -, -, -, -, hsigM⟩ := gcode_spec (hts _ hL.1) hnamed
  cases hmethM.symm.trans hmethM'
  obtain ⟨c2, r2, m2, q1, q2, q3, q4, kP, hkP, hkPi⟩ := Cond.selects_spec (hts _ hs)
  cases hcls.symm.trans q1
  cases (State.methodFound?_of_named hnamed hL.2.2.1).symm.trans q2
  cases hnamed.symm.trans q3
  have hselP : selectMethod e.platform s.vm cellB.cls mk = .method mk := by rw [Launch.admits_selectMethod X.admits]; exact q4
  have hlen' : as.length = methM.sig.parameters.length := hlen.trans (hL.np hsigM)
  rcases hL.2.2.2.2 with hl | ⟨host, hl⟩
  · obtain ⟨vm₁, X₁, hstep₁⟩ := X.invokevirtual hexec hown (hts _ hl) hnamed hmethM hstM hkP hkPi hL.2.2.1 (a := b) (cell := cellB) hcell
      (fun z h => by rw [h] at hobj; cases hobj) hselP hmethM habM hkP hkPi (g := g) hg (argsL := as) (rest := rest) hlen' hstack hdg
    exact ⟨mk, vm₁, X₁, hnamed, hstep₁⟩
  · obtain ⟨vm₁, X₁, hstep₁⟩ := X.invokevirtualNest hexec hown (hts _ hl) hnamed hmethM hstM hkP hkPi hL.2.2.1 (a := b) (cell := cellB) hcell
      (fun z h => by rw [h] at hobj; cases hobj) hselP hmethM habM hkP hkPi (g := g) hg (argsL := as) (rest := rest) hlen' hstack hdg
    exact ⟨mk, vm₁, X₁, hnamed, hstep₁⟩
theorem giS (X : Stand p l e R s m sargs below meth c U locs cells slots) (hexec : p.tables.exec = Jvm.exec) (hts : ∀ x ∈ gT, x.before sargs s = true) {own : String} {index np : Nat} {M : gM} (hown : s.vm.findClass own = some m.cls) (hL : gL own index M np) (hst : Cond.static M.1 ∈ gT)
    {g : JFrame} (hg : g.method = m) {as rest : List Value} (hlen : as.length = np) (hstack : g.stack = as.reverse ++ rest) (hdg : decode c.code g.pc = .ok (.invokestatic index, 3)) :
    ∃ (mk : MethodId) (vm₁ : Vm), Stand p l e R s m sargs below meth c (U.setVm vm₁) locs cells slots ∧ s.methodNamed? M.1 = some mk ∧ ∀ target, (∀ acts, Steps p.tables e below (doInvoke e ((U.setVm vm₁).setTop { g with stack := rest }) acts mk as.toArray).1 target) → Steps p.tables e below (U.setTop g) target := by
  have hcode := hts _ hL.1
  obtain ⟨mk, hnamed⟩ : ∃ mk, s.methodNamed? M.1 = some mk := by
    obtain ⟨y, cc, nL, rt, hs⟩ := M
    cases hs with
    | nil => exact Cond.code_named hcode
    | cons a r => obtain ⟨m9, _, _, hn9, _⟩ := Cond.codeWith_spec hcode; exact ⟨m9, hn9⟩
  obtain ⟨methM, cM, hmethM, -, -, -, -, -, -, hsigM⟩ := gcode_spec hcode hnamed
  have hstatic : methM.isStatic = true := Cond.static_spec hnamed hmethM (hts _ hst)
  obtain ⟨kP, hkP, -⟩ := className_of_methodNamed hnamed
  have hinitP : kP.init = .initialized := Cond.initialized_spec (findClass_of_methodNamed hnamed) hkP (hts _ hL.2.1)
  have hlen' : as.length = methM.sig.parameters.length := hlen.trans (hL.np hsigM)
  rcases hL.2.2.2.2 with hl | ⟨host, hl⟩
  · obtain ⟨vm₁, X₁, hstep₁⟩ := X.invokestatic hexec hown (hts _ hl) hnamed hmethM hstatic hkP hinitP hL.2.2.1 (g := g) hg (argsL := as) (rest := rest) hlen' hstack hdg
    exact ⟨mk, vm₁, X₁, hnamed, hstep₁⟩
  · obtain ⟨vm₁, X₁, hstep₁⟩ := X.invokestaticNest hexec hown (hts _ hl) hnamed hmethM hstatic hkP hinitP hL.2.2.1 (g := g) hg (argsL := as) (rest := rest) hlen' hstack hdg
    exact ⟨mk, vm₁, X₁, hnamed, hstep₁⟩
theorem giI (X : Stand p l e R s m sargs below meth c U locs cells slots) (hexec : p.tables.exec = Jvm.exec) (hts : ∀ x ∈ gT, x.before sargs s = true) {own : String} {index np : Nat} {M : gM} (hown : s.vm.findClass own = some m.cls) (hL : gL own index M np) (hy1 : M.1.name = "<init>") (hi : Cond.instanceMethod M.1 ∈ gT) (hh : M.2.2.2.2 = []) (hr : M.2.2.2.1 = none)
    {b : Addr} {g : JFrame} (hg : g.method = m) {as rest : List Value} (hlen : as.length = np) (hstack : g.stack = as.reverse ++ .ref b :: rest) (hdg : decode c.code g.pc = .ok (.invokespecial index, 3)) :
    ∃ (mk : MethodId) (vm₁ : Vm), Stand p l e R s m sargs below meth c (U.setVm vm₁) locs cells slots ∧ s.methodNamed? M.1 = some mk ∧ ∀ target, (∀ acts, Steps p.tables e below (doInvoke e ((U.setVm vm₁).setTop { g with stack := rest }) acts mk (Value.ref b :: as).toArray).1 target) → Steps p.tables e below (U.setTop g) target := by
  subst hg
  obtain ⟨y, cc, nL, rt, hs⟩ := M
  subst hh; subst hr
  have hcode : (Cond.code y cc nL none).before sargs s = true := hts _ hL.1
  have hpl : e.platform.magicAccessors = ({} : Platform).magicAccessors := by rw [X.admits.platform]
  rcases hL.2.2.2.2 with hl | ⟨host, hl⟩
  · obtain ⟨mk, methM, cM, kP, vm₁, hnamed, hmethM, hcodeM, -, hlocalsM, -, hkP, -, hW₁, hstep₁⟩ := Steps.initColdArgs (e := e) X.here hexec X.warmed hpl hown hy1 hL.2.2.1 (hts _ hl) (hts _ hi) hcode (f := g) (argsL := as) (rest := rest) (a := b) rfl (fun sig h => hlen.trans (hL.np h)) hstack hdg
    exact ⟨mk, vm₁, X.noted hW₁, hnamed, hstep₁⟩
  · obtain ⟨mk, methM, cM, kP, vm₁, hnamed, hmethM, hcodeM, -, hlocalsM, -, hkP, -, hW₁, hstep₁⟩ := Steps.initColdArgsNest (e := e) X.here hexec X.warmed hpl hown hy1 hL.2.2.1 (hts _ hl) (hts _ hi) hcode (f := g) (argsL := as) (rest := rest) (a := b) rfl (fun sig h => hlen.trans (hL.np h)) hstack hdg
    exact ⟨mk, vm₁, X.noted hW₁, hnamed, hstep₁⟩
end GCALL
/-! CALLS OVER PURE WORLDS -/
/-- an exception of class E lies over the frame -/
def GTE (X : gXs) (M : gM) (d : Nat × Nat) (pc : Nat) (ls : List (Option Value)) (st : List Value) (w : gW) (k n : Nat) (E : String) (Q : gR → gW → Prop) : Prop :=
  ∀ p l e R s m args below meth c A D dA κ0 n0, gC M d p l R s m meth c A D dA → X.2 s A → ∀ κ H locs lsr cells slots, gI X M ls w k n R s A D dA κ0 n0 κ H locs lsr cells slots →
    ∀ (x : Addr) (cell : Cell) (T : State), T.heap = H → Stand p l e R s m args below meth c T locs cells slots → H[x]? = some cell → cell.vm.isStatics = false → s.vm.findClass E = some cell.cls →
      ∃ t, Steps p.tables e below ((T.setTop (F0 m pc lsr (st.map (gv κ)))).pushFrame (.throwing x)) t ∧ gZ below s A D dA κ0 n0 R.cells R.slots Q t
abbrev GT (M : gM) (d : Nat × Nat) (pc : Nat) (ls : List (Option Value)) (st : List Value) (w : gW) (k n : Nat) (E : String) (Q : gR → gW → Prop) : Prop := GTE gx0 M d pc ls st w k n E Q
def gvb (N : Nat) : Value → Bool
  | .ref a => decide (a < N)
  | _ => true
def glb (N : Nat) (ls : List (Option Value)) : Bool := ls.all (fun o => match o with | some v => gvb N v | none => true)
theorem gv_agree {N : Nat} {κ κ' : Nat → Nat} (h : ∀ i, i < N → κ' i = κ i) {v : Value} (hv : gvb N v = true) : gv κ' v = gv κ v := by
  cases v <;> first | rfl | (simp only [gvb, decide_eq_true_eq] at hv; simp only [gv]; rw [h _ hv])
theorem gst_agree {N : Nat} {κ κ' : Nat → Nat} (h : ∀ i, i < N → κ' i = κ i) {st : List Value} (hv : st.all (gvb N) = true) : st.map (gv κ') = st.map (gv κ) :=
  List.map_congr_left (fun v hm => gv_agree h (List.all_eq_true.mp hv v hm))
theorem gas_agree {N : Nat} {κ κ' : Nat → Nat} (h : ∀ i, i < N → κ' i = κ i) : ∀ (ls : List (Option Value)) (i : Nat), glb N ls = true → gas κ' i ls = gas κ i ls := by
  intro ls
  induction ls with
  | nil => intro i _; rfl
  | cons a r ih =>
    intro i hv
    simp only [glb, List.all_cons, Bool.and_eq_true] at hv
    cases a with
    | none => exact ih (i + 1) hv.2
    | some v => simp only [gas]; rw [gv_agree h hv.1, ih (i + 1) hv.2]
theorem g_inv {X : gXs} {M M2 : gM} {d d2 : Nat × Nat} {pc mc ms : Nat} {ls : List (Option Value)} {st stk avs : List Value} {w : gW} {k n : Nat} {Q Q2 : gR → gW → Prop} {ig : Instr} (hct : gCt M2 d2 mc ms avs w Q2) (hdd : d2.1 + 1 ≤ d.1 ∧ 8 + (M2.2.2.1 + 11) + d2.2 ≤ d.2) (hmc : mc ≤ k) (hms : ms ≤ n) (hcode : gcode M2 ∈ gT) (hini : Cond.initialized M2.1.cls ∈ gT)
    (hst8 : (st.map fun v => v.category).sum ≤ 8) (hk : (∀ r w', Q2 r w' → w'.length = w.length) ∨ (glb w.length ls = true ∧ st.all (gvb w.length) = true)) (hd : decode M.2.1 pc = .ok (ig, 3))
    (hinv : ∀ (p : Program) (l : Launch) (e : Env) (R : Room) (s : State) (m : MethodId) (args : Array Value) (below : List Frame) (meth : Method) (c : Code) (A : Nat → Prop) (D : va_G) (dA : Nat → ClassId), gC M d p l R s m meth c A D dA → ∀ (κ : Nat → Nat) (lsr : Array Slot) (locs : List Loc) (cells slots : Nat) (T : State), va_P D gcls (gk dA κ w) T.heap → Stand p l e R s m args below meth c T locs cells slots →
      ∃ (mk : MethodId) (vm₁ : Vm), Stand p l e R s m args below meth c (T.setVm vm₁) locs cells slots ∧ s.methodNamed? M2.1 = some mk ∧ ∀ target, (∀ acts, Steps p.tables e below (doInvoke e ((T.setVm vm₁).setTop (F0 m pc lsr (st.map (gv κ)))) acts mk (avs.map (gv κ)).toArray).1 target) → Steps p.tables e below (T.setTop (F0 m pc lsr (stk.map (gv κ)))) target)
    (kr : ∀ v w', Q2 (.inl v) w' → GE X M d (pc + 3) ls (v.toList ++ st) w' (k - mc) (n - ms) Q) (kt : ∀ E w', Q2 (.inr E) w' → GTE X M d pc ls st w' (k - mc) (n - ms) E Q) : GE X M d pc ls stk w k n Q := by
  intro p l e R s m args below meth c A D dA κ0 n0 C EX κ H locs lsr cells slots I T hT X9
  subst hT
  obtain ⟨mk, vm₁, X₁, hnamed, hstep⟩ := hinv p l e R s m args below meth c A D dA C κ lsr locs cells slots T I.2.2.2.2.1 X9
  have hts1 : gHT (T.setVm vm₁) := gT_warm X₁.warmed C.2.2.2.2.2.1
  have hR := C.2.2.2.2.2.2.2.2.2.1
  have hcat : ((st.map (gv κ)).map fun v => v.category).sum ≤ 8 := by
    rw [List.map_map]
    have : (Value.category ∘ gv κ) = fun v => v.category := funext (fun v => gv_cat κ v)
    rw [show (fun v => v.category) ∘ gv κ = (fun v : Value => v.category) from this]
    exact hst8
  have hfree : ∀ q, va_A (gk dA κ w) T.heap.size q → A q := by
    intro q hq
    rcases hq with ⟨i, e, h⟩ | h
    · exact I.2.2.2.2.2.1.2 i (q, e) h
    · exact C.2.2.2.2.2.2.2.1 q (Nat.le_trans I.2.2.2.2.2.2.1 h)
  obtain ⟨o, t, T', L, hq, e1, e2, hL, X', hout⟩ := gcall (hct l C.2.2.2.2.2.2.2.2.2.2.2.2.1 D dA κ T.heap.size) rfl rfl (Nat.le_trans hdd.1 hR.1) (Nat.le_trans hdd.2 hR.2) X₁ (g := F0 m pc lsr (st.map (gv κ))) rfl (by rw [C.2.2.1]; exact I.2.2.2.1.1) (by rw [C.2.1]; exact hd) (lv_room hcat) (X₁.named hnamed) (hts1 _ hcode _) (hts1 _ hini _) (by have := I.2.1; omega) (by have := I.2.2.1; omega)
    (a := (avs.map (gv κ)).toArray) ⟨rfl, rfl, gT_warm (s := T.setVm vm₁) (State.WarmedH.refl _) hts1, I.2.2.2.2.1, va_K.moved (u := T.setVm vm₁) (Vm.Alike.refl _) (va_K.moved X₁.warmed.alike C.2.2.2.2.2.2.1), I.2.2.2.2.2.1.weaken (fun _ _ _ _ => trivial), gH0_call C.2.2.2.2.2.2.2.2.2.2.2.2.2 (fun q h1 h2 => I.2.2.2.2.2.2.2.1 q h1 h2) X₁.warmed hfree⟩
  obtain ⟨⟨κ', r, w', hq2, hO, hP', hD', hn', hk1, hk2⟩, hF1, hF2⟩ := hq
  have hF1 : T.heap.size ≤ t.heap.size := hF1
  have hF2 : ∀ q : Nat, q < T.heap.size → ¬ va_A (gk dA κ w) T.heap.size q → t.heap[q]? = T.heap[q]? := hF2
  have hagree : gas κ' 0 ls = gas κ 0 ls ∧ st.map (gv κ') = st.map (gv κ) := by
    rcases hk with hk | ⟨h1, h2⟩
    · have := hk1 (hk r w' hq2)
      subst this
      exact ⟨rfl, rfl⟩
    · exact ⟨gas_agree hk2 ls 0 h1, gst_agree hk2 h2⟩
  have I' : gI X M ls w' (k - mc) (n - ms) R s A D dA κ0 n0 κ' T'.heap (locs ++ L) lsr (cells + mc) (slots + ms) := by
    refine ⟨⟨Nat.le_trans I.1.1 hn', fun h => ?_, fun i hi => (hk2 i (Nat.lt_of_lt_of_le hi I.1.1)).trans (I.1.2.2 i hi)⟩, by have := I.2.1; omega, by have := I.2.2.1; omega, by rw [hagree.1]; exact I.2.2.2.1, by rw [e1]; exact hP', hD'.weaken (fun _ q _ h => hfree q.1 h), ?_⟩
    · have hw : w.length = n0 := by have := I.1.1; omega
      exact (hk1 (by omega)).trans (I.1.2.1 hw)
    · refine ⟨by rw [e1]; exact Nat.le_trans I.2.2.2.2.2.2.1 hF1, fun q h1 h2 => ?_, fun q hq => ?_⟩
      · rw [e1, hF2 q (Nat.lt_of_lt_of_le h1 I.2.2.2.2.2.2.1) (fun z => h2 (hfree q z))]
        exact I.2.2.2.2.2.2.2.1 q h1 h2
      · rcases List.mem_append.mp hq with h | h
        · exact I.2.2.2.2.2.2.2.2 q h
        · exact hfree _ (hL q h)
  cases r with
  | inl v =>
    have ho : o = .returned (v.map (gv κ')) := hO
    rcases hout with ⟨v2, h1, h2⟩ | ⟨x, h1, h2⟩
    · cases ho.symm.trans h1
      obtain ⟨t2, a2, b2⟩ := kr v w' hq2 p l e R s m args below meth c A D dA κ0 n0 C EX κ' T'.heap (locs ++ L) lsr (cells + mc) (slots + ms) I' T' rfl X'
      refine ⟨t2, hstep _ (fun acts => ?_), b2⟩
      rw [doInvoke_state]
      refine h2.trans ?_
      have hst : (v.toList ++ st).map (gv κ') = (v.map (gv κ')).toList ++ st.map (gv κ) := by
        rw [List.map_append, hagree.2]; cases v <;> rfl
      rw [hst] at a2
      exact a2
    · rw [ho] at h1; cases h1
  | inr E =>
    obtain ⟨x, cell, ho, hc1, hc2, hc3⟩ := hO
    rcases hout with ⟨v2, h1, h2⟩ | ⟨x2, h1, h2⟩
    · rw [ho] at h1; cases h1
    · cases ho.symm.trans h1
      have hfc : s.vm.findClass E = some cell.cls := by rw [← hc3, ← e2]; exact (X'.warmed.alike.findClass E none).symm
      obtain ⟨t2, a2, b2⟩ := kt E w' hq2 p l e R s m args below meth c A D dA κ0 n0 C EX κ' T'.heap (locs ++ L) lsr (cells + mc) (slots + ms) I' x cell T' rfl X' (by rw [e1]; exact hc1) hc2 hfc
      refine ⟨t2, hstep _ (fun acts => ?_), b2⟩
      rw [doInvoke_state]
      refine h2.trans ?_
      rw [hagree.2] at a2
      exact a2
section GCR
variable {X : gXs} {M M2 : gM} {d d2 : Nat × Nat} {pc mc ms : Nat} {ls : List (Option Value)} {st stk as : List Value} {w : gW} {k n : Nat} {Q Q2 : gR → gW → Prop} {index np : Nat}
theorem g_callV {C : String} {b ci : Nat} {fs : List Value} {T : u_T} {N : Nat} (hd : decode M.2.1 pc = .ok (.invokevirtual index, 3)) (hL : gL M.1.cls index M2 np) (hi : Cond.instanceMethod M2.1 ∈ gT) (hs : Cond.selects C M2.1 M2.1 ∈ gT) (hcl : gcls[ci]? = some (C, T, N)) (has : as.length = np) (hstk : as.reverse ++ .ref b :: st = stk) (he : w[b]? = some (.inr (ci, fs)))
    (hct : gCt M2 d2 mc ms (.ref b :: as) w Q2) (hdd : d2.1 + 1 ≤ d.1 ∧ 8 + (M2.2.2.1 + 11) + d2.2 ≤ d.2) (hmc : mc ≤ k) (hms : ms ≤ n) (hst8 : (st.map fun v => v.category).sum ≤ 8) (hk : (∀ r w', Q2 r w' → w'.length = w.length) ∨ (glb w.length ls = true ∧ st.all (gvb w.length) = true))
    (kr : ∀ v w', Q2 (.inl v) w' → GE X M d (pc + 3) ls (v.toList ++ st) w' (k - mc) (n - ms) Q) (kt : ∀ E w', Q2 (.inr E) w' → GTE X M d pc ls st w' (k - mc) (n - ms) E Q) : GE X M d pc ls stk w k n Q := by
  refine g_inv hct hdd hmc hms hL.1 hL.2.1 hst8 hk hd ?_ kr kt
  intro p l e R s m args below meth c A D dA C0 κ lsr locs cells slots T0 hP X
  subst hstk
  obtain ⟨cell, h1, h2, h3⟩ := va_recv C0.2.2.2.2.2.2.1 hP (ci := ci) (q0 := b) hcl (gk_get he)
  exact giV X C0.1 (gts C0.2.2.2.2.2.1) C0.2.2.2.2.1 hL hi hs h1 h2 h3 (g := F0 m pc lsr ((as.reverse ++ .ref b :: st).map (gv κ))) rfl (as := as.map (gv κ)) (rest := st.map (gv κ)) (by rw [List.length_map]; exact has) (by simp [gv]) (by rw [C0.2.1]; exact hd)
theorem g_callS (hd : decode M.2.1 pc = .ok (.invokestatic index, 3)) (hL : gL M.1.cls index M2 np) (hi : Cond.static M2.1 ∈ gT) (has : as.length = np) (hstk : as.reverse ++ st = stk)
    (hct : gCt M2 d2 mc ms as w Q2) (hdd : d2.1 + 1 ≤ d.1 ∧ 8 + (M2.2.2.1 + 11) + d2.2 ≤ d.2) (hmc : mc ≤ k) (hms : ms ≤ n) (hst8 : (st.map fun v => v.category).sum ≤ 8) (hk : (∀ r w', Q2 r w' → w'.length = w.length) ∨ (glb w.length ls = true ∧ st.all (gvb w.length) = true))
    (kr : ∀ v w', Q2 (.inl v) w' → GE X M d (pc + 3) ls (v.toList ++ st) w' (k - mc) (n - ms) Q) (kt : ∀ E w', Q2 (.inr E) w' → GTE X M d pc ls st w' (k - mc) (n - ms) E Q) : GE X M d pc ls stk w k n Q := by
  refine g_inv hct hdd hmc hms hL.1 hL.2.1 hst8 hk hd ?_ kr kt
  intro p l e R s m args below meth c A D dA C0 κ lsr locs cells slots T0 hP X
  subst hstk
  exact giS X C0.1 (gts C0.2.2.2.2.2.1) C0.2.2.2.2.1 hL hi (g := F0 m pc lsr ((as.reverse ++ st).map (gv κ))) rfl (as := as.map (gv κ)) (rest := st.map (gv κ)) (by rw [List.length_map]; exact has) (by simp) (by rw [C0.2.1]; exact hd)
theorem g_callI {b : Nat} (hd : decode M.2.1 pc = .ok (.invokespecial index, 3)) (hL : gL M.1.cls index M2 np) (hy1 : M2.1.name = "<init>") (hi : Cond.instanceMethod M2.1 ∈ gT) (hh : M2.2.2.2.2 = []) (hr : M2.2.2.2.1 = none) (has : as.length = np) (hstk : as.reverse ++ .ref b :: st = stk)
    (hct : gCt M2 d2 mc ms (.ref b :: as) w Q2) (hdd : d2.1 + 1 ≤ d.1 ∧ 8 + (M2.2.2.1 + 11) + d2.2 ≤ d.2) (hmc : mc ≤ k) (hms : ms ≤ n) (hst8 : (st.map fun v => v.category).sum ≤ 8) (hk : (∀ r w', Q2 r w' → w'.length = w.length) ∨ (glb w.length ls = true ∧ st.all (gvb w.length) = true))
    (kr : ∀ v w', Q2 (.inl v) w' → GE X M d (pc + 3) ls (v.toList ++ st) w' (k - mc) (n - ms) Q) (kt : ∀ E w', Q2 (.inr E) w' → GTE X M d pc ls st w' (k - mc) (n - ms) E Q) : GE X M d pc ls stk w k n Q := by
  refine g_inv hct hdd hmc hms hL.1 hL.2.1 hst8 hk hd ?_ kr kt
  intro p l e R s m args below meth c A D dA C0 κ lsr locs cells slots T0 hP X
  subst hstk
  exact giI X C0.1 (gts C0.2.2.2.2.2.1) C0.2.2.2.2.1 hL hy1 hi hh hr (b := κ b) (g := F0 m pc lsr ((as.reverse ++ .ref b :: st).map (gv κ))) rfl (as := as.map (gv κ)) (rest := st.map (gv κ)) (by rw [List.length_map]; exact has) (by simp [gv]) (by rw [C0.2.1]; exact hd)
theorem GTE.out {E : String} (hno : ∀ h ∈ M.2.2.2.2, (decide (h.1 ≤ pc) && decide (pc < h.2.1)) = false) (hq : Q (.inr E) w) : GTE X M d pc ls st w k n E Q := by
  intro p l e R s m args below meth c A D dA κ0 n0 C EX κ H locs lsr cells slots I x cell T hT X hc1 hc2 hc3
  have X2 := stand_widen (k := R.cells) (n := R.slots) X (by have := I.2.1; omega) (by have := I.2.2.1; omega)
  have hout : ∀ y ∈ c.exceptionTable.toList, covers y pc = false := by
    intro y hy
    exact hno (y.startPc, y.endPc, y.handlerPc, y.catchType) (by rw [← C.2.2.2.2.2.2.2.2.2.2.1]; exact List.mem_map.mpr ⟨y, hy, rfl⟩)
  obtain ⟨hst, hrun, hend, hwarm, hsame⟩ := X2.leaveThrown x (g := F0 m pc lsr (st.map (gv κ))) rfl rfl rfl hout C.2.2.2.2.2.2.2.2.1
  have hh : (T.setFrames (.throwing x :: below)).heap = H := hT
  refine ⟨_, hst, .threw x, hrun, hend, ⟨⟨κ, .inr E, w, hq, ⟨x, cell, rfl, by rw [hh]; exact hc1, hc2, ?_⟩, by rw [hh]; exact I.2.2.2.2.1, I.2.2.2.2.2.1, I.1⟩, I.2.2.2.2.2.2.F hh⟩, locs, ⟨hwarm, hsame⟩, I.2.2.2.2.2.2.2.2⟩
  rw [← hc3]
  exact hwarm.alike.findClass E none
end GCR
/-! THROWING AND CATCHING OVER PURE WORLDS -/
def gs0 (i : Nat) (ls : List (Option Value)) : List (Option Value) := (gx i ls).set i none
theorem gs0_has {κ : Nat → Nat} {lsr : Array Slot} {nL i : Nat} {v : Value} {ls : List (Option Value)} {Y : List (Nat × Value)} (hY : gXo Y i) (h : lv_has lsr nL ((i, v) :: (Y ++ gas κ 0 ls).filter (fun q => !(q.1 == i) && !(q.1 + 1 == i && q.2.category == 2)))) : lv_has lsr nL (Y ++ gas κ 0 (gs0 i ls)) := by
  refine ⟨h.1, h.2.1, fun q hq => h.2.2 q ?_⟩
  rcases List.mem_append.mp hq with hq | hq
  · exact List.mem_cons.mpr (Or.inr (List.mem_filter.mpr ⟨List.mem_append_left _ hq, gXo_1 hY hq⟩))
  obtain ⟨k, u, h1, rfl⟩ := (gas_mem κ _ _ _).mp hq
  unfold gs0 at h1
  rw [List.getElem?_set] at h1
  by_cases hk : i = k
  · subst hk
    rw [if_pos rfl] at h1
    split at h1
    · cases h1
    · cases h1
  · rw [if_neg hk] at h1
    obtain ⟨h2, h3⟩ := gx_in h1
    refine List.mem_cons.mpr (Or.inr (List.mem_filter.mpr ⟨List.mem_append_right _ ((gas_mem κ _ _ _).mpr ⟨k, u, h2, rfl⟩), ?_⟩))
    have hki : ¬ (0 + k) = i := fun z => hk (by omega)
    simp only [gv_cat, Bool.and_eq_true, Bool.not_eq_true', beq_eq_false_iff_ne, ne_eq, Bool.and_eq_false_iff]
    refine ⟨hki, ?_⟩
    by_cases hc : 0 + k + 1 = i
    · exact Or.inr (fun z => h3 ⟨by omega, z⟩)
    · exact Or.inl hc
theorem gcas {s : State} {args : Array Value} {C : String} {c : ClassId} (h : s.vm.findClass C = some c) : (Cond.castable C C).before args s = true := by
  simp [Cond.before, Cond.holds, Cond.value, h, gasg]
section GTC
variable {X : gXs} {M : gM} {d : Nat × Nat} {pc : Nat} {ls : List (Option Value)} {st : List Value} {w : gW} {k n : Nat} {Q : gR → gW → Prop}
theorem g_throwS {cls text : String} {names : List String} {ik is ic : Nat} (hcls : Bundle.fit cls = true) (hnames : ∀ n ∈ names, Bundle.fit n = true) (hk : Cond.classLink M.1.cls ik cls ∈ gT) (hini : Cond.initialized cls ∈ gT) (hstr : (M.1.cls, is, text) ∈ gstr) (hat : ∀ x ∈ vx_atS M.1.cls ic cls names, x ∈ gT ∨ x = .castable cls cls) (hins : Cond.instantiable cls 6 ∈ gT)
    (hgood : ∀ x ∈ Cond.classLink M.1.cls ik cls :: Cond.initialized cls :: vx_atS M.1.cls ic cls names, vx_ot x = true)
    (d0 : decode M.2.1 pc = .ok (.new ik, 3)) (d3 : decode M.2.1 (pc + 3) = .ok (.dup, 1)) (d4 : decode M.2.1 (pc + 4) = .ok (.ldc is, 2)) (d6 : decode M.2.1 (pc + 6) = .ok (.invokespecial ic, 3)) (d9 : decode M.2.1 (pc + 9) = .ok (.athrow, 1))
    (hno : ∀ h ∈ M.2.2.2.2, (decide (h.1 ≤ pc + 9) && decide (pc + 9 < h.2.1)) = false) (hr1 : names.length + 3 < d.1) (hr2 : (st.map fun v => v.category).sum + (13 * (names.length + 1) + 43) ≤ d.2) (hc : 1 ≤ k) (hs : 6 ≤ n) (hq : Q (.inr cls) w) : GE X M d pc ls st w k n Q := by
  intro p l e R s m args below meth c A D dA κ0 n0 C EX κ H locs lsr cells slots I
  have hH := C.2.2.2.2.2.2.2.2.2.2.2.2.2
  have hR := C.2.2.2.2.2.2.2.2.2.1
  have hts := gts (args := args) C.2.2.2.2.2.1
  obtain ⟨sa, hsa⟩ := hH.2.2.1 _ hstr
  have hcat : ((st.map (gv κ)).map fun v => v.category).sum = (st.map fun v => v.category).sum := by
    rw [List.map_map]
    exact congrArg List.sum (List.map_congr_left (fun v _ => gv_cat κ v))
  have hout : ∀ y ∈ c.exceptionTable.toList, covers y (pc + 9) = false := by
    intro y hy
    exact hno (y.startPc, y.endPc, y.handlerPc, y.catchType) (by rw [← C.2.2.2.2.2.2.2.2.2.2.1]; exact List.mem_map.mpr ⟨y, hy, rfl⟩)
  have hi1 := I.2.1
  have hi2 := I.2.2.1
  have K := vx_throwS (p := p) (l := l) (e := e) (R := R) (s := s) (m := m) (args := args) (below := below) (meth := meth) (c := c) (H := H) (locs := locs) (cells := cells) (slots := slots) (ls := lsr) (rest := st.map (gv κ)) (free := A) (Qc := fun _ _ _ _ => False) (XC := fun E st t => E = cls ∧ s.vm.Alike t.vm ∧ H.size ≤ t.heap.size ∧ ∀ q : Nat, q < H.size → t.heap[q]? = H[q]?) (mc := R.cells) (ms := R.slots)
    C.1 C.2.1 C.2.2.2.2.2.2.2.2.2.2.2.2.1 C.2.2.2.2.1 hcls hnames (hts _ hk) (hts _ hini) hsa (fun x hx => by
      rcases hat x hx with h | rfl
      · exact hts x h
      · obtain ⟨cC, hcC⟩ := classAt_of (hts _ hins)
        exact gcas hcC.1) hgood hH.1 hH.2.1 I.2.2.2.2.2.2 (by rw [C.2.2.1]; exact I.2.2.2.1.1) d0 d3 d4 d6 d9 hout (by omega) (by rw [hcat]; omega) (by omega) (by omega) C.2.2.2.2.2.2.2.2.1 (fun t h1 h2 h3 => ⟨rfl, h1, h2, h3⟩) I.2.2.2.2.2.2.2.2 (by omega) (by omega)
  intro T hT X
  obtain ⟨t, a1, o, b1, b2, b3⟩ := K T hT X
  rcases b3 with ⟨hF, -⟩ | ⟨q, ho, E, ce, L, ⟨hE, hal, hsz, hkp⟩, hce, hvm, hcl, hwm, hsm, hfr⟩
  · exact hF.elim
  · refine ⟨t, a1, o, b1, b2, ⟨⟨κ, .inr cls, w, hq, ⟨q, ce, ho, hce, by rw [hvm]; rfl, ?_⟩, ?_, I.2.2.2.2.2.1, I.1⟩, ?_⟩, L, ⟨hwm, hsm⟩, hfr⟩
    · rw [← hE, ← hcl]; exact hal.findClass E none
    · exact I.2.2.2.2.1.kept (fun k q h => hkp q.1 (I.2.2.2.2.1 k q h).lt)
    · refine ⟨Nat.le_trans I.2.2.2.2.2.2.1 hsz, fun q h1 h2 => ?_⟩
      rw [hkp q (Nat.lt_of_lt_of_le h1 I.2.2.2.2.2.2.1)]
      exact I.2.2.2.2.2.2.2.1 q h1 h2
theorem GTE.caught {E : String} {hp hr : List (Nat × Nat × Nat × Nat)} {h : Nat × Nat × Nat × Nat} (hs : M.2.2.2.2 = hp ++ h :: hr)
    (hpass : ∀ z ∈ hp, (decide (z.1 ≤ pc) && decide (pc < z.2.1)) = false ∨ (z.2.2.2 ≠ 0 ∧ ∃ nm, Cond.classLink M.1.cls z.2.2.2 nm ∈ gT ∧ (E, nm) ∈ gncs)) (hx : (decide (h.1 ≤ pc) && decide (pc < h.2.1)) = true) (h0 : h.2.2.2 ≠ 0) (hlink : Cond.classLink M.1.cls h.2.2.2 E ∈ gT)
    (j len : Nat) (hj : j < M.2.2.1) (hd : (∃ i : Fin 4, (i : Nat) = j ∧ len = 1 ∧ decode M.2.1 h.2.2.1 = .ok (.astore_n i, 1)) ∨ (len = 2 ∧ decode M.2.1 h.2.2.1 = .ok (.astore j, 2))) (kk : GE X M d (h.2.2.1 + len) (gs0 j ls) [] w k n Q) (hY : gXo X.1 j := by first | exact gXo_nil _ | exact gXo_law (by decide)) : GTE X M d pc ls st w k n E Q := by
  intro p l e R s m args below meth c A D dA κ0 n0 C EX κ H locs lsr cells slots I x cell T hT X9 hc1 hc2 hc3
  have hts := gts (args := args) C.2.2.2.2.2.1
  have htab := C.2.2.2.2.2.2.2.2.2.2.1
  rw [hs] at htab
  obtain ⟨pre, r1, e1, e2, e3⟩ := List.map_eq_append_iff.mp htab
  obtain ⟨y, suf, e4, e5, e6⟩ := List.map_eq_cons_iff.mp e3
  subst e5; subst e4
  have hh := C.2.2.2.2.2.2.2.2.2.2.2.2.2.2.2.2
  obtain ⟨vm', X', st'⟩ := gcatch X9 C.2.2.2.2.1 (by rw [hT]; exact hc1) hc2 hc3 (g := F0 m pc lsr (st.map (gv κ))) rfl pre y suf e1 (fun z hz => by
      rcases hpass (z.startPc, z.endPc, z.handlerPc, z.catchType) (by rw [← e2]; exact List.mem_map.mpr ⟨z, hz, rfl⟩) with q | ⟨q1, nm, q2, q3⟩
      · exact Or.inl q
      · exact Or.inr ⟨q1, nm, hts _ q2, hh _ q3⟩) hx h0 (hts _ hlink)
  have K : W p l e R s m args below meth c H locs cells slots (gZ below s A D dA κ0 n0 R.cells R.slots Q) (F0 m y.handlerPc lsr [.ref x]) := by
    rcases hd with ⟨i, hi, hl, hdd⟩ | ⟨hl, hdd⟩
    · subst hl
      exact lv_astore_n C.1 C.2.1 hdd hi I.2.2.2.1 hj rfl (fun ls' hl' => kk p l e R s m args below meth c A D dA κ0 n0 C EX κ H locs ls' cells slots ⟨I.1, I.2.1, I.2.2.1, gs0_has hY hl', I.2.2.2.2⟩)
    · subst hl
      exact lv_astore C.1 C.2.1 hdd I.2.2.2.1 hj rfl (fun ls' hl' => kk p l e R s m args below meth c A D dA κ0 n0 C EX κ H locs ls' cells slots ⟨I.1, I.2.1, I.2.2.1, gs0_has hY hl', I.2.2.2.2⟩)
  obtain ⟨t, a1, b1⟩ := K (T.setVm vm') hT X'
  exact ⟨t, st'.trans a1, b1⟩
end GTC
/-! MAKING OBJECTS AND ARRAYS -/
def gab (N : Nat) : gE → Bool
  | .inr o => o.2.all (gvb N)
  | .inl q => match q.2.2 with
    | .inr (.inr (.inr (.inr _))) => false
    | _ => true
def gwf (w : gW) (ls : List (Option Value)) (st : List Value) : Bool := w.all (gab w.length) && glb w.length ls && st.all (gvb w.length)
theorem ge_agree {N : Nat} {dA : Nat → ClassId} {κ κ' : Nat → Nat} (h : ∀ i, i < N → κ' i = κ i) {e : gE} (hv : gab N e = true) : ge dA κ' e = ge dA κ e := by
  cases e with
  | inr o => simp only [ge]; rw [gst_agree h hv]
  | inl q =>
    obtain ⟨t, len, x⟩ := q
    rcases x with x | x | x | x | x
    · rfl
    · rfl
    · rfl
    · rfl
    · exact absurd hv (by simp [gab])
theorem gk_push {dA : Nat → ClassId} {κ : Nat → Nat} {w : gW} {e : gE} {q : Nat} (h : w.all (gab w.length) = true) : gk dA (va_up κ w.length q) (w ++ [e]) = gk dA κ w ++ [(q, ge dA (va_up κ w.length q) e)] := by
  have hup : ∀ i, i < w.length → va_up κ w.length q i = κ i := fun i hi => va_up_ne _ _ (by omega)
  apply List.ext_getElem?
  intro i
  simp only [gk, List.getElem?_mapIdx, List.getElem?_append, List.length_mapIdx]
  by_cases hi : i < w.length
  · rw [if_pos hi, if_pos hi]
    have hw : w[i]? = some w[i] := List.getElem?_eq_getElem hi
    rw [hw]
    simp only [Option.map_some]
    rw [hup i hi, ge_agree hup (List.all_eq_true.mp h _ (List.getElem_mem hi))]
  · rw [if_neg hi, if_neg hi]
    by_cases h2 : i - w.length = 0
    · have h3 : i = w.length := by omega
      subst h3
      simp [va_up_self]
    · obtain ⟨j, hj⟩ := Nat.exists_eq_succ_of_ne_zero h2
      rw [hj]
      simp
section GNW
variable {X : gXs} {M : gM} {d : Nat × Nat} {pc : Nat} {ls : List (Option Value)} {st : List Value} {w : gW} {k n : Nat} {Q : gR → gW → Prop}
theorem gI_push {R : Room} {s : State} {A : Nat → Prop} {D : va_G} {dA : Nat → ClassId} {κ0 κ : Nat → Nat} {n0 : Nat} {H H1 : Heap} {locs : List Loc} {lsr : Array Slot} {cells slots q k1 n1 cells1 slots1 : Nat} {e1 : gE} {e2 : va_E} (I : gI X M ls w k1 n1 R s A D dA κ0 n0 κ H locs lsr cells slots) (hw : gwf w ls st = true) (he : ge dA (va_up κ w.length q) e1 = e2)
    (hP : va_P D gcls (gk dA κ w ++ [(q, e2)]) H1) (hD : va_D A (gk dA κ w ++ [(q, e2)])) (hS : va_S A s.heap H1 locs) (hc : cells1 + k ≤ R.cells) (hs : slots1 + n ≤ R.slots) : gI X M ls (w ++ [e1]) k n R s A D dA κ0 n0 (va_up κ w.length q) H1 locs lsr cells1 slots1 ∧ st.map (gv (va_up κ w.length q)) = st.map (gv κ) := by
  subst he
  simp only [gwf, Bool.and_eq_true] at hw
  have hup : ∀ i, i < w.length → va_up κ w.length q i = κ i := fun i hi => va_up_ne _ _ (by omega)
  rw [← gk_push hw.1.1] at hP hD
  refine ⟨⟨⟨by rw [List.length_append]; exact Nat.le_trans I.1.1 (Nat.le_add_right _ _), fun h => ?_, fun i hi => (hup i (Nat.lt_of_lt_of_le hi I.1.1)).trans (I.1.2.2 i hi)⟩, hc, hs, by rw [gas_agree hup ls 0 hw.1.2]; exact I.2.2.2.1, hP, hD, hS⟩, gst_agree hup hw.2⟩
  rw [List.length_append, List.length_singleton] at h
  have := I.1.1
  omega
theorem g_new {index ci N : Nat} {C : String} {T : u_T} {fs : List Value} {ty : Nat → FieldType} (hd : decode M.2.1 pc = .ok (.new index, 3)) (hcl : gcls[ci]? = some (C, T, N)) (hin : ∀ x ∈ u_ws C T N, x ∈ gT) (hty : ∀ k, k < N → parseFieldDescriptor (T k).2.2.1 = some (ty k)) (hlink : Cond.classLink M.1.cls index C ∈ gT) (hinst : Cond.instantiable C N ∈ gT) (hini : Cond.initialized C ∈ gT)
    (hfs : ∀ j, j < N → defaultValue (ty j) = vp_V fs j) (hnr : ∀ κ, fs.map (gv κ) = fs) (hw : gwf w ls st = true) (kk : GE X M d (pc + 3) ls (.ref w.length :: st) (w ++ [.inr (ci, fs)]) k n Q) : GE X M d pc ls st w (k + 1) (n + N) Q := by
  intro p l e R s m args below meth c A D dA κ0 n0 C0 EX κ H locs lsr cells slots I
  have hts := gts (args := args) C0.2.2.2.2.2.1
  have hi1 := I.2.1
  have hi2 := I.2.2.1
  refine va_new (ci := ci) (fs := fs) (C := C) (T := T) (N := N) C0.1 C0.2.1 hts hin ty hty C0.2.2.2.2.1 (hts _ hlink) (hts _ hinst) (hts _ hini) C0.2.2.2.2.2.2.1 I.2.2.2.2.1 I.2.2.2.2.2.1 I.2.2.2.2.2.2 C0.2.2.2.2.2.2.2.1 hcl hfs (by omega) (by omega) hd (fun q H1 hP hD hS => ?_)
  obtain ⟨I', hst⟩ := gI_push (k := k) (n := n) (st := st) (q := q) (cells1 := cells + 1) (slots1 := slots + N) (e1 := .inr (ci, fs)) I hw (by show Sum.inr _ = Sum.inr _; rw [hnr]) hP hD hS (by omega) (by omega)
  have K := kk p l e R s m args below meth c A D dA κ0 n0 C0 EX (va_up κ w.length q) H1 locs lsr (cells + 1) (slots + N) I'
  have hst2 : (Value.ref w.length :: st).map (gv (va_up κ w.length q)) = .ref q :: st.map (gv κ) := by
    rw [List.map_cons, hst]; simp only [gv]; rw [va_up_self]
  rw [hst2] at K
  exact K
theorem g_newa {atype : ArrayType} {t N : Nat} {x : Int32} {a0 : vp_A} {ty : FieldType} (hd : decode M.2.1 pc = .ok (.newarray atype, 2)) (hty : newarray.typeOf atype = ty) (harr : Cond.arrayClass ty ∈ gT) (hpr : ∀ C, ty ≠ .object C) (ht : ∀ dA, (gtys dA)[t]? = some (dA t, ty)) (ha : ∀ cA : ClassId, vp_cell cA a0 = arrV cA N (fun _ => defaultValue ty)) (hga : ∀ κ, ga κ a0 = a0)
    (hn : ¬ x < 0) (hN : x.toNatClampNeg = N) (hb : N * componentBytes ty ≤ 536870912) (hw : gwf w ls st = true) (kk : GE X M d (pc + 2) ls (.ref w.length :: st) (w ++ [.inl (t, a0)]) k n Q) : GE X M d pc ls (.int x :: st) w (k + 1) (n + N) Q := by
  intro p l e R s m args below meth c A D dA κ0 n0 C0 EX κ H locs lsr cells slots I
  have hts := gts (args := args) C0.2.2.2.2.2.1
  have hi1 := I.2.1
  have hi2 := I.2.2.1
  refine va_newa (D := D) (a0 := a0) C0.1 C0.2.1 (by rw [hty]; exact hts _ harr) hty C0.2.2.2.2.2.2.1 I.2.2.2.2.1 I.2.2.2.2.2.1 I.2.2.2.2.2.2 C0.2.2.2.2.2.2.2.1 ha hn hN hb (by omega) (by omega) hd (fun q cA H1 hK hP hD hS => ?_)
  have hcA : cA = dA t := by
    have h1 := (C0.2.2.2.2.2.2.1.2 t _ (ht dA)).2
    have h2 := (hK.2 (gtys dA).length (cA, ty) (by simp)).2
    cases ty with
    | object C9 => exact absurd rfl (hpr C9)
    | _ => exact Option.some.inj (h2.symm.trans h1)
  subst hcA
  obtain ⟨I', hst⟩ := gI_push (k := k) (n := n) (st := st) (q := q) (cells1 := cells + 1) (slots1 := slots + N) (e1 := .inl (t, a0)) I hw (by show Sum.inl _ = Sum.inl _; rw [hga]) hP hD hS (by omega) (by omega)
  have K := kk p l e R s m args below meth c A D dA κ0 n0 C0 EX (va_up κ w.length q) H1 locs lsr (cells + 1) (slots + N) I'
  have hst2 : (Value.ref w.length :: st).map (gv (va_up κ w.length q)) = .ref q :: st.map (gv κ) := by
    rw [List.map_cons, hst]; simp only [gv]; rw [va_up_self]
  rw [hst2] at K
  exact K
theorem g_objInit {index a : Nat} (hd : decode M.2.1 pc = .ok (.invokespecial index, 3)) (hlink : Cond.methodLink M.1.cls index Lib.objectInit ∈ gT) (hinst : Cond.instanceMethod Lib.objectInit ∈ gT) (hcode : Cond.code Lib.objectInit ⟨#[0xb1]⟩ 1 none ∈ gT) (hr1 : 1 ≤ d.1) (hr2 : (st.map fun v => v.category).sum + 12 ≤ d.2) (kk : GE X M d (pc + 3) ls st w k n Q) : GE X M d pc ls (.ref a :: st) w k n Q := by
  intro p l e R s m args below meth c A D dA κ0 n0 C EX κ H locs lsr cells slots I
  have hts := gts (args := args) C.2.2.2.2.2.1
  have hR := C.2.2.2.2.2.2.2.2.2.1
  have hcat : ((st.map (gv κ)).map fun v => v.category).sum = (st.map fun v => v.category).sum := by
    rw [List.map_map]
    exact congrArg List.sum (List.map_congr_left (fun v _ => gv_cat κ v))
  refine W.objInit C.1 C.2.1 C.2.2.2.2.1 (hts _ hlink) (hts _ hinst) (hts _ hcode) rfl (by rw [C.2.2.1]; exact I.2.2.2.1.1) rfl hd (by omega) ?_ (kk p l e R s m args below meth c A D dA κ0 n0 C EX κ H locs lsr cells slots I)
  have : 2 * (F0 m pc lsr (List.map (gv κ) (Value.ref a :: st))).monitorRoom = 0 := rfl
  rw [this, hcat]
  omega
end GNW
