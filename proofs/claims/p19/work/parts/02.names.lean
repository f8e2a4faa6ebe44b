/-! ===== BEGIN words of one list among another's, by their places ===== -/
theorem goodIn_r {big : List Cond} (ws : List Cond) (ps : List Nat) (hp : ws = ps.filterMap (fun i => big[i]?)) (h : ws.all goodWord = true) : GoodIn big ws := by
  intro w hw
  have h1 := List.all_eq_true.mp h w hw
  rw [hp] at hw
  obtain ⟨i, -, hi⟩ := List.mem_filterMap.mp hw
  have hm : w ∈ big := by first | exact List.mem_of_getElem? hi | exact List.getElem?_mem hi
  exact ⟨hm, good_of_word h1⟩
theorem goodIn_app {big a b : List Cond} (ha : GoodIn big a) (hb : GoodIn big b) : GoodIn big (a ++ b) := fun w h => (List.mem_append.mp h).elim (ha w) (hb w)
theorem goodIn_ca {big a b : List Cond} {c : Cond} (ha : GoodIn big (c :: a)) (hb : GoodIn big b) : GoodIn big (c :: (a ++ b)) := fun w h => (List.mem_cons.mp h).elim (fun e => ha w (List.mem_cons.mpr (Or.inl e))) (fun h => (List.mem_append.mp h).elim (fun h => ha w (List.mem_cons.mpr (Or.inr h))) (hb w))
theorem goodIn_sub {big ws : List Cond} (hm : ∀ w ∈ ws, w ∈ big) (h : ws.all goodWord = true) : GoodIn big ws := fun w hw => ⟨hm w hw, good_of_word (List.all_eq_true.mp h w hw)⟩
/-! ===== END ===== -/

/-! ===== BEGIN exceptions that leave a method, and their catching by the caller (launches without stack traces) ===== -/
section VXA
/-! The laws vx_back, vx_callV, vx_callS, vx_callSW, vx_throw0, vx_throwS follow proofs of the library, with one case more: JvmDerived/Free/Laws.lean (Back.of_free), Shelf42/LK1.lean (callV, callS), Shelf/KitTraced.lean (throwNew0V, throwNewS). -/
/-- where a method has thrown q: the class by its name, the cell, what was written, the world -/
def vx_T (XC : String → State → State → Prop) (st : State) (q : Addr) (t : State) (mc ms : Nat) (free : Addr → Prop) : Prop :=
  ∃ (E : String) (ce : Cell) (L : List Loc), XC E st t ∧ t.heap[q]? = some ce ∧ ce.vm = .none ∧ st.vm.findClass E = some ce.cls ∧ st.WarmedH t.vm ∧ st.sameButNew ({ t with vm := st.vm } : State) L mc ms ∧ ∀ z ∈ L, free z.base
def vx_Q (Qc : Array Value → State → Outcome → State → Prop) (XC : String → State → State → Prop) (mc ms : Nat) (free : Addr → Prop) : Array Value → State → Outcome → State → Prop := fun a st o t =>
  (Qc a st o t ∧ ∃ L, FrameEnd st o t L mc ms ∧ ∀ q ∈ L, free q.base) ∨ ∃ q, o = .threw q ∧ vx_T XC st q t mc ms free
/-- a callee that returns or throws -/
def vx_Met (l : Launch) (y : MethodName) (ws : List Cond) (rm : Room) (Pc : Array Value → State → Prop) (Qc : Array Value → State → Outcome → State → Prop) (XC : String → State → State → Prop) (mc ms : Nat) (free : Addr → Prop) : Prop :=
  MetFree l y (headSpec ws rm) Pc (fun _ _ _ _ _ => True) (vx_Q Qc XC mc ms free)
def vx_Post (XC : String → State → State → Prop) (mc ms : Nat) (free : Addr → Prop) : Pt → Array Value → Addr → Pt → Prop := fun A a q B =>
  ∃ (g : JFrame) (mk : MethodId) (t : State) (L : List Loc) (E : String) (ce : Cell), B.U.heap = t.heap ∧ B.U.vm = t.vm ∧ XC E (A.U.calling g mk a) t ∧ t.heap[q]? = some ce ∧ ce.vm = .none ∧ A.U.vm.findClass E = some ce.cls ∧ B.locs = A.locs ++ L ∧ (∀ z ∈ L, free z.base) ∧ B.cells = A.cells + mc ∧ B.slots = A.slots + ms
def vx_Back (l : Launch) (R : Room) (p : Program) (e : Env) (below : List Frame) (s : State) (sargs : Array Value) (y : MethodName) (len W9 : Nat)
    (Pre : Pt → Array Value → Prop) (Post : Pt → Array Value → Option Value → Pt → Prop) (PostX : Pt → Array Value → Addr → Pt → Prop) : Prop :=
  ∀ (m : MethodId) (meth : Method) (c : Code) (A : Pt) (g : JFrame) (ig : Instr) (mk : MethodId) (a : Array Value),
    Stand p l e R s m sargs below meth c A.U A.locs A.cells A.slots → g.method = m → g.locals.size = c.maxLocals → decode c.code g.pc = .ok (ig, len) →
    2 * g.monitorRoom + (g.stack.map fun v => v.category).sum ≤ W9 → A.U.methodNamed? y = some mk → Pre A a →
    (∃ (v : Option Value) (B : Pt), Stand p l e R s m sargs below meth c B.U B.locs B.cells B.slots ∧ Post A a v B ∧
      Steps p.tables e below (doInvoke e (A.U.setTop g) [] mk a).1 (B.U.setTop { g with pc := g.pc + len, stack := v.toList ++ g.stack })) ∨
    (∃ (q : Addr) (B : Pt), Stand p l e R s m sargs below meth c B.U B.locs B.cells B.slots ∧ PostX A a q B ∧
      Steps p.tables e below (doInvoke e (A.U.setTop g) [] mk a).1 ((B.U.setTop g).pushFrame (.throwing q)))
section Payer
variable {l : Launch} {R : Room} {p : Program} {e : Env} {below : List Frame} {s : State} {sargs : Array Value} {y : MethodName} {len W9 : Nat}
theorem vx_back {ws : List Cond} {rm : Room} {Pc : Array Value → State → Prop} {Qc : Array Value → State → Outcome → State → Prop} {XC : String → State → State → Prop} {mc ms : Nat} {free : Addr → Prop} {bytes : ByteArray} {maxL : Nat} {ret : Option FieldType}
    (hM : vx_Met l y ws rm Pc Qc XC mc ms free) (hblind : FrameBlind Pc) (hrc : rm.cells = mc) (hrs : rm.slots = ms)
    (hframes : rm.frames + 1 ≤ R.frames) (hlocals : W9 + (maxL + 11) + rm.locals ≤ R.locals)
    (hws : ∀ w ∈ ws, ∀ a' U, s.WarmedH U.vm → w.before a' U = true) (hcode : Cond.code y bytes maxL ret ∈ ws) (hinit : ∀ a' U, s.WarmedH U.vm → (Cond.initialized y.cls).before a' U = true) :
    vx_Back l R p e below s sargs y len W9 (PreOf R mc ms Pc) (PostOf Qc mc ms free) (vx_Post XC mc ms free) := by
  intro m meth c A g ig mk a X hg hsize hdg hW hn hp
  have h1 : (headSpec ws rm).pre.before a A.U = true := atoms_intro fun w hw => hws w hw _ _ X.warmed
  have h2 : (Cond.code y bytes maxL ret).before a A.U = true := hws _ hcode _ _ X.warmed
  have h3 : (Cond.initialized y.cls).before a A.U = true := hinit _ _ X.warmed
  have h4 : A.cells + (headSpec ws rm).room.cells ≤ R.cells := by rw [show (headSpec ws rm).room.cells = mc from hrc]; exact hp.1
  have h5 : A.slots + (headSpec ws rm).room.slots ≤ R.slots := by rw [show (headSpec ws rm).room.slots = ms from hrs]; exact hp.2.1
  have hPc : Pc a (A.U.calling g mk a) := hblind _ _ _ _ hp.2.2
  obtain ⟨U, Ls, c0, s0⟩ := A
  dsimp only [Pt.U, Pt.locs, Pt.cells, Pt.slots] at h1 h2 h3 h4 h5 X hn hPc ⊢
  obtain ⟨methY, cY, hmY, hcY, -, hlY, -, -, -, -⟩ := Cond.code_spec hn h2
  obtain ⟨kY, hkY, -⟩ := className_of_methodNamed hn
  have hinitY : kY.init = .initialized := Cond.initialized_spec (findClass_of_methodNamed hn) hkY h3
  have h : At U g.method c below := by rw [hg]; exact X.here
  have hlocals9 : W9 + (maxL + 11) + (headSpec ws rm).room.locals ≤ R.locals := hlocals
  have happ : (headSpec ws rm).appliesLoose y e.platform (U.calling g mk a) = true :=
    Spec.appliesLoose_calling (g := g) h hdg hn hkY hinitY
      (X.room_calling (g := g) (R' := (headSpec ws rm).room) hsize hmY hcY hframes (by rw [hlY]; omega) h4 h5) h1
  obtain ⟨mid, hmid⟩ := h.above
  have hfr : (U.setTop g).frames = (.java g :: mid) ++ below := by rw [State.frames_setTop' g h.top, hmid]; rfl
  obtain ⟨o, s₂, hsteps, -, hend, hq⟩ := Steps.callFree hM p X.admits X.cas X.clock (acts := []) hfr happ hPc trivial
  have hq' : vx_Q Qc XC mc ms free a (U.calling g mk a) o s₂ := hq
  rw [State.frames_setTop' g h.top] at hend
  obtain ⟨g₀, hg0⟩ := Option.isSome_iff_exists.mp h.top
  obtain ⟨r, hr⟩ := State.topJava?_eq_some.mp hg0
  have hr' : (({ U with heap := s₂.heap, slotsUsed := s₂.slotsUsed } : State).setVm s₂.vm).frames = .java g₀ :: r := hr
  rcases hq' with ⟨hqc, L, hfe, hL⟩ | ⟨q, rfl, E, ce, L, hx, hce, hcv, hcl, hW₂, hsm, hL⟩
  · obtain ⟨⟨v, rfl⟩, hW₂, e2, q2, q3, q4, q5, q6⟩ := id hfe
    have e3 : s₂ = ({ (U.calling g mk a).setFrames s₂.frames with heap := s₂.heap, slotsUsed := s₂.slotsUsed } : State).setVm s₂.vm := by
      have : s₂ = ({ s₂ with vm := (U.calling g mk a).vm } : State).setVm s₂.vm := rfl
      rw [e2] at this
      exact this
    obtain ⟨c₂, i₂, len₂, hc₂, hd₂, hf₂⟩ := hend
    have hW' : U.WarmedH s₂.vm := hW₂
    have hcc : c₂ = c := by
      have h1 : s₂.code? g.method = U.code? g.method := by
        rw [State.code?_eq, State.code?_eq, hW'.alike.method?]
      exact Option.some.inj (hc₂.symm.trans (h1.trans h.code))
    subst hcc
    have hlen : len₂ = len := by rw [hdg] at hd₂; cases hd₂; rfl
    subst hlen
    have hs₂ : s₂ = (({ U with heap := s₂.heap, slotsUsed := s₂.slotsUsed } : State).setVm s₂.vm).setTop { g with pc := g.pc + len₂, stack := v.toList ++ g.stack } := by
      refine e3.trans ?_
      rw [hf₂, State.calling_eq h.top, State.setFrames_setFrames, State.setTop_of_frames _ hr', hr]
      rfl
    have hsame : U.sameButNew ({ U with heap := s₂.heap, slotsUsed := s₂.slotsUsed } : State) L mc ms := by
      refine ⟨?_, q2, q3, q4, q5, q6⟩
      obtain ⟨t, ht, -⟩ := State.frames_cons hr
      show ({ U with heap := s₂.heap, slotsUsed := s₂.slotsUsed } : State) = { U.setFrames U.frames with heap := s₂.heap, slotsUsed := s₂.slotsUsed }
      rw [State.setFrames_self ht]
    subst hg
    refine Or.inl ⟨v, ⟨(({ U with heap := s₂.heap, slotsUsed := s₂.slotsUsed } : State).setVm s₂.vm), Ls ++ L, c0 + mc, s0 + ms⟩,
      ⟨X.admits, X.cas, X.clock, X.frames, X.room, X.hears, X.method, X.code, (X.here.setHeapUsed s₂.heap s₂.slotsUsed).setVm hW'.alike, X.tail, State.WarmedH.trans X.warmed hW', X.limits, X.bytes, X.same.trans (hsame.setVm s.vm)⟩,
      ⟨g, mk, s₂, L, rfl, rfl, hqc, rfl, hL, rfl, rfl⟩, ?_⟩
    show Steps p.tables e below _ ((({ U with heap := s₂.heap, slotsUsed := s₂.slotsUsed } : State).setVm s₂.vm).setTop { g with pc := g.pc + len₂, stack := v.toList ++ g.stack })
    rw [← hs₂]
    exact hsteps
  · obtain ⟨e2, q2, q3, q4, q5, q6⟩ := id hsm
    have e3 : s₂ = ({ (U.calling g mk a).setFrames s₂.frames with heap := s₂.heap, slotsUsed := s₂.slotsUsed } : State).setVm s₂.vm := by
      have : s₂ = ({ s₂ with vm := (U.calling g mk a).vm } : State).setVm s₂.vm := rfl
      rw [e2] at this
      exact this
    have hf₂ : s₂.frames = .throwing q :: .java g :: U.frames.tail := hend
    have hW' : U.WarmedH s₂.vm := hW₂
    have hs₂ : s₂ = ((({ U with heap := s₂.heap, slotsUsed := s₂.slotsUsed } : State).setVm s₂.vm).setTop g).pushFrame (.throwing q) := by
      refine e3.trans ?_
      rw [hf₂, State.calling_eq h.top, State.setFrames_setFrames, State.pushFrame, State.frames_setTop _ hr', State.setTop_of_frames _ hr', State.setFrames_setFrames, hr]
      rfl
    have hsame : U.sameButNew ({ U with heap := s₂.heap, slotsUsed := s₂.slotsUsed } : State) L mc ms := by
      refine ⟨?_, q2, q3, q4, q5, q6⟩
      obtain ⟨t, ht, -⟩ := State.frames_cons hr
      show ({ U with heap := s₂.heap, slotsUsed := s₂.slotsUsed } : State) = { U.setFrames U.frames with heap := s₂.heap, slotsUsed := s₂.slotsUsed }
      rw [State.setFrames_self ht]
    subst hg
    refine Or.inr ⟨q, ⟨(({ U with heap := s₂.heap, slotsUsed := s₂.slotsUsed } : State).setVm s₂.vm), Ls ++ L, c0 + mc, s0 + ms⟩,
      ⟨X.admits, X.cas, X.clock, X.frames, X.room, X.hears, X.method, X.code, (X.here.setHeapUsed s₂.heap s₂.slotsUsed).setVm hW'.alike, X.tail, State.WarmedH.trans X.warmed hW', X.limits, X.bytes, X.same.trans (hsame.setVm s.vm)⟩,
      ⟨g, mk, s₂, L, E, ce, rfl, rfl, hx, hce, hcv, hcl, rfl, hL, rfl, rfl⟩, ?_⟩
    show Steps p.tables e below _ (((({ U with heap := s₂.heap, slotsUsed := s₂.slotsUsed } : State).setVm s₂.vm).setTop g).pushFrame (.throwing q))
    rw [← hs₂]
    exact hsteps
end Payer
section Calls
variable {p : Program} {l : Launch} {e : Env} {R : Room} {s : State} {m : MethodId} {args : Array Value} {below : List Frame} {meth : Method} {c : Code} {T : State} {locs : List Loc} {cells slots : Nat}
theorem vx_callV (X : Stand p l e R s m args below meth c T locs cells slots) (hexec : p.tables.exec = Jvm.exec) {own C : String} {index : Nat} {y : MethodName} {bytes : ByteArray} {maxL : Nat} {ret : Option FieldType}
    (hown : s.vm.findClass own = some m.cls) (hlink : (Cond.methodLink own index y).before args s = true) (hinst : (Cond.instanceMethod y).before args s = true) (hsel : (Cond.selects C y y).before args s = true)
    (hcode : (Cond.code y bytes maxL ret).before args s = true) (hy : y.cls ≠ "java/lang/invoke/MethodHandle" ∧ y.cls ≠ "java/lang/invoke/VarHandle")
    {W9 : Nat} {Pre : Pt → Array Value → Prop} {Post : Pt → Array Value → Option Value → Pt → Prop} {PostX : Pt → Array Value → Addr → Pt → Prop} (hK : vx_Back l R p e below s args y 3 W9 Pre Post PostX)
    {b : Addr} {cellB : Cell} (hcell : T.heap[b]? = some cellB) (hobj : cellB.vm.isStatics = false) (hcls : s.vm.findClass C = some cellB.cls)
    {g : JFrame} (hg : g.method = m) (hsize : g.locals.size = c.maxLocals) {argsL rest : List Value} (hlen : ∀ sig, parseMethodDescriptor y.desc = some sig → argsL.length = sig.parameters.length)
    (hstack : g.stack = argsL.reverse ++ .ref b :: rest) (hW : 2 * g.monitorRoom + (rest.map fun v => v.category).sum ≤ W9) (hdg : decode c.code g.pc = .ok (.invokevirtual index, 3))
    (hpre : ∀ vm₁, s.WarmedH vm₁ → Pre ⟨T.setVm vm₁, locs, cells, slots⟩ (Value.ref b :: argsL).toArray) :
    (∃ (v : Option Value) (vm₁ : Vm) (B : Pt), s.WarmedH vm₁ ∧ Stand p l e R s m args below meth c B.U B.locs B.cells B.slots ∧ Post ⟨T.setVm vm₁, locs, cells, slots⟩ (Value.ref b :: argsL).toArray v B ∧
      ∀ target, Steps p.tables e below (B.U.setTop { g with pc := g.pc + 3, stack := v.toList ++ rest }) target → Steps p.tables e below (T.setTop g) target) ∨
    (∃ (q : Addr) (vm₁ : Vm) (B : Pt), s.WarmedH vm₁ ∧ Stand p l e R s m args below meth c B.U B.locs B.cells B.slots ∧ PostX ⟨T.setVm vm₁, locs, cells, slots⟩ (Value.ref b :: argsL).toArray q B ∧
      Steps p.tables e below (T.setTop g) ((B.U.setTop { g with stack := rest }).pushFrame (.throwing q))) := by
  obtain ⟨mk, methM, hnamed, hmethM, hstM, habM⟩ := Cond.instanceMethod_spec hinst
  obtain ⟨methM', cM, hmethM', -, -, -, -, -, -, hsigM⟩ := Cond.code_spec hnamed hcode
  cases hmethM.symm.trans hmethM'
  obtain ⟨c2, r2, m2, q1, q2, q3, q4, kP, hkP, hkPi⟩ := Cond.selects_spec hsel
  cases hcls.symm.trans q1
  cases (State.methodFound?_of_named hnamed hy).symm.trans q2
  cases hnamed.symm.trans q3
  have hselP : selectMethod e.platform s.vm cellB.cls mk = .method mk := by rw [Launch.admits_selectMethod X.admits]; exact q4
  obtain ⟨vm₁, X₁, hstep₁⟩ := X.invokevirtual hexec hown hlink hnamed hmethM hstM hkP hkPi hy (a := b) (cell := cellB) hcell
    (fun z h => by rw [h] at hobj; cases hobj) hselP hmethM habM hkP hkPi (g := g) hg (argsL := argsL) (rest := rest) (hlen _ hsigM) hstack hdg
  rcases hK m meth c ⟨T.setVm vm₁, locs, cells, slots⟩ { g with stack := rest } (.invokevirtual index) mk (Value.ref b :: argsL).toArray X₁ hg hsize hdg hW (X₁.named hnamed) (hpre vm₁ X₁.warmed) with ⟨v, B, X', hpost, hsteps⟩ | ⟨q, B, X', hpost, hsteps⟩
  · exact Or.inl ⟨v, vm₁, B, X₁.warmed, X', hpost, fun target h => hstep₁ _ fun acts => by rw [doInvoke_state]; exact hsteps.trans h⟩
  · exact Or.inr ⟨q, vm₁, B, X₁.warmed, X', hpost, hstep₁ _ fun acts => by rw [doInvoke_state]; exact hsteps⟩
theorem vx_callS (X : Stand p l e R s m args below meth c T locs cells slots) (hexec : p.tables.exec = Jvm.exec) {own : String} {index : Nat} {y : MethodName} {bytes : ByteArray} {maxL : Nat} {ret : Option FieldType}
    (hown : s.vm.findClass own = some m.cls) (hlink : (Cond.methodLink own index y).before args s = true) (hstat : (Cond.static y).before args s = true) (hinit : (Cond.initialized y.cls).before args s = true)
    (hcode : (Cond.code y bytes maxL ret).before args s = true) (hy : y.cls ≠ "java/lang/invoke/MethodHandle" ∧ y.cls ≠ "java/lang/invoke/VarHandle")
    {W9 : Nat} {Pre : Pt → Array Value → Prop} {Post : Pt → Array Value → Option Value → Pt → Prop} {PostX : Pt → Array Value → Addr → Pt → Prop} (hK : vx_Back l R p e below s args y 3 W9 Pre Post PostX)
    {g : JFrame} (hg : g.method = m) (hsize : g.locals.size = c.maxLocals) {argsL rest : List Value} (hlen : ∀ sig, parseMethodDescriptor y.desc = some sig → argsL.length = sig.parameters.length)
    (hstack : g.stack = argsL.reverse ++ rest) (hW : 2 * g.monitorRoom + (rest.map fun v => v.category).sum ≤ W9) (hdg : decode c.code g.pc = .ok (.invokestatic index, 3))
    (hpre : ∀ vm₁, s.WarmedH vm₁ → Pre ⟨T.setVm vm₁, locs, cells, slots⟩ argsL.toArray) :
    (∃ (v : Option Value) (vm₁ : Vm) (B : Pt), s.WarmedH vm₁ ∧ Stand p l e R s m args below meth c B.U B.locs B.cells B.slots ∧ Post ⟨T.setVm vm₁, locs, cells, slots⟩ argsL.toArray v B ∧
      ∀ target, Steps p.tables e below (B.U.setTop { g with pc := g.pc + 3, stack := v.toList ++ rest }) target → Steps p.tables e below (T.setTop g) target) ∨
    (∃ (q : Addr) (vm₁ : Vm) (B : Pt), s.WarmedH vm₁ ∧ Stand p l e R s m args below meth c B.U B.locs B.cells B.slots ∧ PostX ⟨T.setVm vm₁, locs, cells, slots⟩ argsL.toArray q B ∧
      Steps p.tables e below (T.setTop g) ((B.U.setTop { g with stack := rest }).pushFrame (.throwing q))) := by
  obtain ⟨mk, hnamed⟩ := Cond.code_named hcode
  obtain ⟨methM, cM, hmethM, -, -, -, -, -, -, hsigM⟩ := Cond.code_spec hnamed hcode
  have hstatic : methM.isStatic = true := Cond.static_spec hnamed hmethM hstat
  obtain ⟨kP, hkP, -⟩ := className_of_methodNamed hnamed
  have hinitP : kP.init = .initialized := Cond.initialized_spec (findClass_of_methodNamed hnamed) hkP hinit
  obtain ⟨vm₁, X₁, hstep₁⟩ := X.invokestatic hexec hown hlink hnamed hmethM hstatic hkP hinitP hy (g := g) hg (argsL := argsL) (rest := rest) (hlen _ hsigM) hstack hdg
  rcases hK m meth c ⟨T.setVm vm₁, locs, cells, slots⟩ { g with stack := rest } (.invokestatic index) mk argsL.toArray X₁ hg hsize hdg hW (X₁.named hnamed) (hpre vm₁ X₁.warmed) with ⟨v, B, X', hpost, hsteps⟩ | ⟨q, B, X', hpost, hsteps⟩
  · exact Or.inl ⟨v, vm₁, B, X₁.warmed, X', hpost, fun target h => hstep₁ _ fun acts => by rw [doInvoke_state]; exact hsteps.trans h⟩
  · exact Or.inr ⟨q, vm₁, B, X₁.warmed, X', hpost, hstep₁ _ fun acts => by rw [doInvoke_state]; exact hsteps⟩
end Calls
theorem vx_cls {s : State} {T : State} {vm₁ : Vm} {E : String} {k : ClassId} (hW : s.WarmedH vm₁) (h : (T.setVm vm₁).vm.findClass E = some k) : s.vm.findClass E = some k := by
  have h1 : vm₁.findClass E = some k := h
  rw [hW.alike.findClass] at h1
  exact h1
/-- the method's frame g, with q thrown over it -/
def vx_W (p : Program) (l : Launch) (e : Env) (R : Room) (s : State) (m : MethodId) (args : Array Value) (below : List Frame) (meth : Method) (c : Code) (H : Heap) (locs : List Loc) (cells slots : Nat) (Q : State → Prop) (g : JFrame) (q : Addr) : Prop :=
  ∀ T : State, T.heap = H → Stand p l e R s m args below meth c T locs cells slots → ∃ t, Steps p.tables e below ((T.setTop g).pushFrame (.throwing q)) t ∧ Q t
def vx_Run (p : Program) (l : Launch) (e : Env) (R : Room) (s : State) (m : MethodId) (args : Array Value) (below : List Frame) (meth : Method) (c : Code) (H : Heap) (locs : List Loc) (cells slots mc ms : Nat) (g : JFrame) (rest : List Value) (Qa : State → Outcome → State → Prop) (XC : String → State → State → Prop) (free : Addr → Prop) : Prop :=
  ∀ T : State, T.heap = H → Stand p l e R s m args below meth c T locs cells slots →
    (∃ (v : Option Value) (st₀ t T' : State) (L : List Loc), st₀.heap = H ∧ Stand p l e R s m args below meth c T' (locs ++ L) (cells + mc) (slots + ms) ∧ (∀ q ∈ L, free q.base) ∧ T'.heap = t.heap ∧ T'.vm = t.vm ∧ Qa st₀ (.returned v) t ∧
      Goes p e below T g T' { g with pc := g.pc + 3, stack := v.toList ++ rest }) ∨
    (∃ (q : Addr) (st₀ t T' : State) (L : List Loc) (E : String) (ce : Cell), st₀.heap = H ∧ Stand p l e R s m args below meth c T' (locs ++ L) (cells + mc) (slots + ms) ∧ (∀ z ∈ L, free z.base) ∧ T'.heap = t.heap ∧ T'.vm = t.vm ∧ XC E st₀ t ∧ t.heap[q]? = some ce ∧ ce.vm = .none ∧ s.vm.findClass E = some ce.cls ∧
      Steps p.tables e below (T.setTop g) ((T'.setTop { g with stack := rest }).pushFrame (.throwing q)))
def vx_X {S : Type} (px : S → Prop) (B : String → S → State → Prop) (A : Nat → Prop) : String → State → State → Prop := fun E st t => ∃ u : S, px u ∧ B E u t ∧ va_F A st t
section Runs
variable {p : Program} {l : Launch} {e : Env} {R : Room} {s : State} {m : MethodId} {args : Array Value} {below : List Frame} {meth : Method} {c : Code} {H : Heap} {locs : List Loc} {cells slots : Nat}
variable {y : MethodName} {bytes cc : ByteArray} {maxL nL mc ms n index : Nat} {ret : Option FieldType} {ws : List Cond} {rm : Room} {Pc : Array Value → State → Prop} {Qc : Array Value → State → Outcome → State → Prop} {XC : String → State → State → Prop} {free : Addr → Prop} {Ts : List Cond} {own C : String} {b : Addr} {As rest : List Value} {g : JFrame}
theorem vx_callBack (cb : CallB R s args own index y bytes maxL ret ws rm mc ms n) (hM : vx_Met l y ws rm Pc Qc XC mc ms free) (hbl : FrameBlind Pc) : vx_Back l R p e below s args y 3 8 (PreOf R mc ms Pc) (PostOf Qc mc ms free) (vx_Post XC mc ms free) := by
  obtain ⟨hrc, hrs, hfr, hlo, hws, hcw, -, hini, -⟩ := cb
  exact vx_back (bytes := bytes) (maxL := maxL) (ret := ret) hM hbl hrc hrs hfr hlo hws hcw (fun a' U hW => word_at hW (Or.inl (by first | rfl | simp [Cond.onTables, Cond.keeps, Cond.steady])) hini)
theorem vx_runV (S : CallFix p m c cc nL s args Ts own) (hM : vx_Met l y ws rm Pc Qc XC mc ms free) (cw : CallW R s args own C index y bytes maxL ret ws rm mc ms n) (hp : PreV s H C b Pc As)
    (hg : g.method = m) (hn : As.length = n) (hsize : g.locals.size = nL) (hstack : g.stack = As.reverse ++ .ref b :: rest) (hW : 2 * g.monitorRoom + (rest.map fun v => v.category).sum ≤ 8) (hdg : decode cc g.pc = .ok (.invokevirtual index, 3)) (hf : cells + mc ≤ R.cells ∧ slots + ms ≤ R.slots) :
    vx_Run p l e R s m args below meth c H locs cells slots mc ms g rest (Qc (Value.ref b :: As).toArray) XC free := by
  have hK : vx_Back l R p e below s args y 3 8 (PreOf R mc ms Pc) (PostOf Qc mc ms free) (vx_Post XC mc ms free) := vx_callBack cw.1 hM hp.1
  obtain ⟨⟨-, -, -, -, -, -, hcode, -, hy, hlen, hl⟩, hin, hse⟩ := cw
  obtain ⟨hx, hb, hml, ho, -⟩ := S
  obtain ⟨-, ⟨cellB, hcB, hoB, hclB⟩, hPc⟩ := hp
  intro T hT X
  rcases vx_callV X hx (C := C) (bytes := bytes) (maxL := maxL) (ret := ret) ho hl hin hse hcode hy hK (by rw [hT]; exact hcB) hoB hclB hg (hsize.trans hml.symm) (argsL := As) (rest := rest) (fun sig h => hn.trans (hlen sig h)) hstack hW (by rw [hb]; exact hdg)
    (fun vm₁ hW₁ => ⟨hf.1, hf.2, hPc (T.setVm vm₁) hT hW₁⟩) with ⟨v, vm₁, ⟨U', l2, c2, s2⟩, hW₁, X', ⟨g', mk, t, L, e1, e2, hq, h1, hL, h2, h3⟩, st⟩ | ⟨q, vm₁, ⟨U', l2, c2, s2⟩, hW₁, X', ⟨g', mk, t, L, E, ce, e1, e2, hq, hce, hcv, hcl, h1, hL, h2, h3⟩, st⟩
  · dsimp only [Pt.U, Pt.locs, Pt.cells, Pt.slots] at X' e1 e2 h1 h2 h3 st
    subst h1; subst h2; subst h3
    exact Or.inl ⟨v, (T.setVm vm₁).calling g' mk (Value.ref b :: As).toArray, t, U', L, hT, X', hL, e1, e2, hq, st⟩
  · dsimp only [Pt.U, Pt.locs, Pt.cells, Pt.slots] at X' e1 e2 h1 h2 h3 st hcl
    subst h1; subst h2; subst h3
    exact Or.inr ⟨q, (T.setVm vm₁).calling g' mk (Value.ref b :: As).toArray, t, U', L, E, ce, hT, X', hL, e1, e2, hq, hce, hcv, vx_cls hW₁ hcl, st⟩
theorem vx_runS (S : CallFix p m c cc nL s args Ts own) (hM : vx_Met l y ws rm Pc Qc XC mc ms free) (cw : CallB R s args own index y bytes maxL ret ws rm mc ms n ∧ (Cond.static y).before args s = true) (hp : PreS s H Pc As)
    (hg : g.method = m) (hn : As.length = n) (hsize : g.locals.size = nL) (hstack : g.stack = As.reverse ++ rest) (hW : 2 * g.monitorRoom + (rest.map fun v => v.category).sum ≤ 8) (hdg : decode cc g.pc = .ok (.invokestatic index, 3)) (hf : cells + mc ≤ R.cells ∧ slots + ms ≤ R.slots) :
    vx_Run p l e R s m args below meth c H locs cells slots mc ms g rest (Qc As.toArray) XC free := by
  have hK : vx_Back l R p e below s args y 3 8 (PreOf R mc ms Pc) (PostOf Qc mc ms free) (vx_Post XC mc ms free) := vx_callBack cw.1 hM hp.1
  obtain ⟨⟨-, -, -, -, -, -, hcode, hini, hy, hlen, hl⟩, hstt⟩ := cw
  obtain ⟨hx, hb, hml, ho, -⟩ := S
  intro T hT X
  rcases vx_callS X hx (bytes := bytes) (maxL := maxL) (ret := ret) ho hl hstt hini hcode hy hK hg (hsize.trans hml.symm) (argsL := As) (rest := rest) (fun sig h => hn.trans (hlen sig h)) hstack hW (by rw [hb]; exact hdg)
    (fun vm₁ hW₁ => ⟨hf.1, hf.2, hp.2 (T.setVm vm₁) hT hW₁⟩) with ⟨v, vm₁, ⟨U', l2, c2, s2⟩, hW₁, X', ⟨g', mk, t, L, e1, e2, hq, h1, hL, h2, h3⟩, st⟩ | ⟨q, vm₁, ⟨U', l2, c2, s2⟩, hW₁, X', ⟨g', mk, t, L, E, ce, e1, e2, hq, hce, hcv, hcl, h1, hL, h2, h3⟩, st⟩
  · dsimp only [Pt.U, Pt.locs, Pt.cells, Pt.slots] at X' e1 e2 h1 h2 h3 st
    subst h1; subst h2; subst h3
    exact Or.inl ⟨v, (T.setVm vm₁).calling g' mk As.toArray, t, U', L, hT, X', hL, e1, e2, hq, st⟩
  · dsimp only [Pt.U, Pt.locs, Pt.cells, Pt.slots] at X' e1 e2 h1 h2 h3 st hcl
    subst h1; subst h2; subst h3
    exact Or.inr ⟨q, (T.setVm vm₁).calling g' mk As.toArray, t, U', L, E, ce, hT, X', hL, e1, e2, hq, hce, hcv, vx_cls hW₁ hcl, st⟩
end Runs
section Rows
variable {p : Program} {l : Launch} {e : Env} {R : Room} {s : State} {m : MethodId} {args : Array Value} {below : List Frame} {meth : Method} {c : Code} {H : Heap} {locs : List Loc} {cells slots : Nat} {Q : State → Prop}
variable {mc ms : Nat} {free : Addr → Prop} {A0 A1 : Nat → Prop} {H0 : Heap} {a : Array Value} {pc : Nat} {ls : Array Slot} {st0 rest : List Value}
theorem vx_keep {st₀ t T' : State} {L : List Loc} (h0 : st₀.heap = H) (e1 : T'.heap = t.heap) (hS : va_S A0 H0 H locs) (hA : ∀ q, q < H.size → A1 q → A0 q) (hf : ∀ q, free q → A0 q) (hL : ∀ q ∈ L, free q.base) (hF : va_F A1 st₀ t) :
    H.size ≤ T'.heap.size ∧ (∀ q : Nat, q < H.size → ¬ A1 q → T'.heap[q]? = H[q]?) ∧ va_S A0 H0 T'.heap (locs ++ L) := by
  obtain ⟨hz, hk⟩ := hF
  rw [h0] at hz hk
  exact ⟨by rw [e1]; exact hz, fun q h1 h2 => by rw [e1]; exact hk q h1 h2,
    ⟨Nat.le_trans hS.1 (by rw [e1]; exact hz), fun q h1 h2 => by rw [e1, hk q (Nat.lt_of_lt_of_le h1 hS.1) (fun z => h2 (hA q (Nat.lt_of_lt_of_le h1 hS.1) z))]; exact hS.2.1 q h1 h2, fun q hq => by
      rcases List.mem_append.mp hq with h | h
      · exact hS.2.2 q h
      · exact hf _ (hL q h)⟩⟩
theorem vx_calli {S SX : Type} {post : Int32 → S → Prop} {px : SX → Prop} {B : S → State → Prop} {BX : String → SX → State → Prop} {AX : Nat → Prop} (hr : vx_Run p l e R s m args below meth c H locs cells slots mc ms (F0 m pc ls st0) rest (va_Qi post B A1 a) (vx_X px BX AX) free) (hS : va_S A0 H0 H locs) (hA : ∀ q, q < H.size → A1 q → A0 q) (hf : ∀ q, free q → A0 q) (hAX : ∀ q, q < H.size → AX q → A0 q)
    (kx : ∀ (E : String) (ce : Cell) (q9 : Addr) (u : SX) (t : State) (H1 : Heap) (locs1 : List Loc), t.heap = H1 → s.vm.Alike t.vm → px u → BX E u t → H.size ≤ H1.size → (∀ q : Nat, q < H.size → ¬ AX q → H1[q]? = H[q]?) → va_S A0 H0 H1 locs1 → H1[q9]? = some ce → ce.vm = .none → s.vm.findClass E = some ce.cls → vx_W p l e R s m args below meth c H1 locs1 (cells + mc) (slots + ms) Q (F0 m pc ls rest) q9)
    (kk : ∀ (r : Int32) (u : S) (t : State) (H1 : Heap) (locs1 : List Loc), t.heap = H1 → s.vm.Alike t.vm → post r u → B u t → H.size ≤ H1.size → (∀ q : Nat, q < H.size → ¬ A1 q → H1[q]? = H[q]?) → va_S A0 H0 H1 locs1 → W p l e R s m args below meth c H1 locs1 (cells + mc) (slots + ms) Q (F0 m (pc + 3) ls (.int r :: rest))) : W p l e R s m args below meth c H locs cells slots Q (F0 m pc ls st0) := by
  intro T hT X
  rcases hr T hT X with ⟨v, st₀, t, T', L, h0, X', hL, e1, e2, ⟨⟨r, u, hv, hp, hb⟩, hF⟩, st⟩ | ⟨q, st₀, t, T', L, E, ce, h0, X', hL, e1, e2, ⟨u, hp, hb, hF⟩, hce, hcv, hcl, st⟩
  · cases hv
    obtain ⟨k1, k2, k3⟩ := vx_keep h0 e1 hS hA hf hL hF
    obtain ⟨t2, a1, b1⟩ := kk r u t T'.heap (locs ++ L) e1.symm (by rw [← e2]; exact X'.warmed.alike) hp hb k1 k2 k3 T' rfl X'
    exact ⟨t2, st t2 a1, b1⟩
  · obtain ⟨k1, k2, k3⟩ := vx_keep h0 e1 hS hAX hf hL hF
    obtain ⟨t2, a1, b1⟩ := kx E ce q u t T'.heap (locs ++ L) e1.symm (by rw [← e2]; exact X'.warmed.alike) hp hb k1 k2 k3 (by rw [e1]; exact hce) hcv hcl T' rfl X'
    exact ⟨t2, st.trans a1, b1⟩
theorem vx_calll {S SX : Type} {post : Int64 → S → Prop} {px : SX → Prop} {B : S → State → Prop} {BX : String → SX → State → Prop} {AX : Nat → Prop} (hr : vx_Run p l e R s m args below meth c H locs cells slots mc ms (F0 m pc ls st0) rest (va_Ql post B A1 a) (vx_X px BX AX) free) (hS : va_S A0 H0 H locs) (hA : ∀ q, q < H.size → A1 q → A0 q) (hf : ∀ q, free q → A0 q) (hAX : ∀ q, q < H.size → AX q → A0 q)
    (kx : ∀ (E : String) (ce : Cell) (q9 : Addr) (u : SX) (t : State) (H1 : Heap) (locs1 : List Loc), t.heap = H1 → s.vm.Alike t.vm → px u → BX E u t → H.size ≤ H1.size → (∀ q : Nat, q < H.size → ¬ AX q → H1[q]? = H[q]?) → va_S A0 H0 H1 locs1 → H1[q9]? = some ce → ce.vm = .none → s.vm.findClass E = some ce.cls → vx_W p l e R s m args below meth c H1 locs1 (cells + mc) (slots + ms) Q (F0 m pc ls rest) q9)
    (kk : ∀ (r : Int64) (u : S) (t : State) (H1 : Heap) (locs1 : List Loc), t.heap = H1 → s.vm.Alike t.vm → post r u → B u t → H.size ≤ H1.size → (∀ q : Nat, q < H.size → ¬ A1 q → H1[q]? = H[q]?) → va_S A0 H0 H1 locs1 → W p l e R s m args below meth c H1 locs1 (cells + mc) (slots + ms) Q (F0 m (pc + 3) ls (.long r :: rest))) : W p l e R s m args below meth c H locs cells slots Q (F0 m pc ls st0) := by
  intro T hT X
  rcases hr T hT X with ⟨v, st₀, t, T', L, h0, X', hL, e1, e2, ⟨⟨r, u, hv, hp, hb⟩, hF⟩, st⟩ | ⟨q, st₀, t, T', L, E, ce, h0, X', hL, e1, e2, ⟨u, hp, hb, hF⟩, hce, hcv, hcl, st⟩
  · cases hv
    obtain ⟨k1, k2, k3⟩ := vx_keep h0 e1 hS hA hf hL hF
    obtain ⟨t2, a1, b1⟩ := kk r u t T'.heap (locs ++ L) e1.symm (by rw [← e2]; exact X'.warmed.alike) hp hb k1 k2 k3 T' rfl X'
    exact ⟨t2, st t2 a1, b1⟩
  · obtain ⟨k1, k2, k3⟩ := vx_keep h0 e1 hS hAX hf hL hF
    obtain ⟨t2, a1, b1⟩ := kx E ce q u t T'.heap (locs ++ L) e1.symm (by rw [← e2]; exact X'.warmed.alike) hp hb k1 k2 k3 (by rw [e1]; exact hce) hcv hcl T' rfl X'
    exact ⟨t2, st.trans a1, b1⟩
theorem vx_callf {S SX : Type} {post : UInt32 → S → Prop} {px : SX → Prop} {B : S → State → Prop} {BX : String → SX → State → Prop} {AX : Nat → Prop} (hr : vx_Run p l e R s m args below meth c H locs cells slots mc ms (F0 m pc ls st0) rest (va_Qf post B A1 a) (vx_X px BX AX) free) (hS : va_S A0 H0 H locs) (hA : ∀ q, q < H.size → A1 q → A0 q) (hf : ∀ q, free q → A0 q) (hAX : ∀ q, q < H.size → AX q → A0 q)
    (kx : ∀ (E : String) (ce : Cell) (q9 : Addr) (u : SX) (t : State) (H1 : Heap) (locs1 : List Loc), t.heap = H1 → s.vm.Alike t.vm → px u → BX E u t → H.size ≤ H1.size → (∀ q : Nat, q < H.size → ¬ AX q → H1[q]? = H[q]?) → va_S A0 H0 H1 locs1 → H1[q9]? = some ce → ce.vm = .none → s.vm.findClass E = some ce.cls → vx_W p l e R s m args below meth c H1 locs1 (cells + mc) (slots + ms) Q (F0 m pc ls rest) q9)
    (kk : ∀ (r : UInt32) (u : S) (t : State) (H1 : Heap) (locs1 : List Loc), t.heap = H1 → s.vm.Alike t.vm → post r u → B u t → H.size ≤ H1.size → (∀ q : Nat, q < H.size → ¬ A1 q → H1[q]? = H[q]?) → va_S A0 H0 H1 locs1 → W p l e R s m args below meth c H1 locs1 (cells + mc) (slots + ms) Q (F0 m (pc + 3) ls (.float r :: rest))) : W p l e R s m args below meth c H locs cells slots Q (F0 m pc ls st0) := by
  intro T hT X
  rcases hr T hT X with ⟨v, st₀, t, T', L, h0, X', hL, e1, e2, ⟨⟨r, u, hv, hp, hb⟩, hF⟩, st⟩ | ⟨q, st₀, t, T', L, E, ce, h0, X', hL, e1, e2, ⟨u, hp, hb, hF⟩, hce, hcv, hcl, st⟩
  · cases hv
    obtain ⟨k1, k2, k3⟩ := vx_keep h0 e1 hS hA hf hL hF
    obtain ⟨t2, a1, b1⟩ := kk r u t T'.heap (locs ++ L) e1.symm (by rw [← e2]; exact X'.warmed.alike) hp hb k1 k2 k3 T' rfl X'
    exact ⟨t2, st t2 a1, b1⟩
  · obtain ⟨k1, k2, k3⟩ := vx_keep h0 e1 hS hAX hf hL hF
    obtain ⟨t2, a1, b1⟩ := kx E ce q u t T'.heap (locs ++ L) e1.symm (by rw [← e2]; exact X'.warmed.alike) hp hb k1 k2 k3 (by rw [e1]; exact hce) hcv hcl T' rfl X'
    exact ⟨t2, st.trans a1, b1⟩
theorem vx_calld {S SX : Type} {post : UInt64 → S → Prop} {px : SX → Prop} {B : S → State → Prop} {BX : String → SX → State → Prop} {AX : Nat → Prop} (hr : vx_Run p l e R s m args below meth c H locs cells slots mc ms (F0 m pc ls st0) rest (va_Qd post B A1 a) (vx_X px BX AX) free) (hS : va_S A0 H0 H locs) (hA : ∀ q, q < H.size → A1 q → A0 q) (hf : ∀ q, free q → A0 q) (hAX : ∀ q, q < H.size → AX q → A0 q)
    (kx : ∀ (E : String) (ce : Cell) (q9 : Addr) (u : SX) (t : State) (H1 : Heap) (locs1 : List Loc), t.heap = H1 → s.vm.Alike t.vm → px u → BX E u t → H.size ≤ H1.size → (∀ q : Nat, q < H.size → ¬ AX q → H1[q]? = H[q]?) → va_S A0 H0 H1 locs1 → H1[q9]? = some ce → ce.vm = .none → s.vm.findClass E = some ce.cls → vx_W p l e R s m args below meth c H1 locs1 (cells + mc) (slots + ms) Q (F0 m pc ls rest) q9)
    (kk : ∀ (r : UInt64) (u : S) (t : State) (H1 : Heap) (locs1 : List Loc), t.heap = H1 → s.vm.Alike t.vm → post r u → B u t → H.size ≤ H1.size → (∀ q : Nat, q < H.size → ¬ A1 q → H1[q]? = H[q]?) → va_S A0 H0 H1 locs1 → W p l e R s m args below meth c H1 locs1 (cells + mc) (slots + ms) Q (F0 m (pc + 3) ls (.double r :: rest))) : W p l e R s m args below meth c H locs cells slots Q (F0 m pc ls st0) := by
  intro T hT X
  rcases hr T hT X with ⟨v, st₀, t, T', L, h0, X', hL, e1, e2, ⟨⟨r, u, hv, hp, hb⟩, hF⟩, st⟩ | ⟨q, st₀, t, T', L, E, ce, h0, X', hL, e1, e2, ⟨u, hp, hb, hF⟩, hce, hcv, hcl, st⟩
  · cases hv
    obtain ⟨k1, k2, k3⟩ := vx_keep h0 e1 hS hA hf hL hF
    obtain ⟨t2, a1, b1⟩ := kk r u t T'.heap (locs ++ L) e1.symm (by rw [← e2]; exact X'.warmed.alike) hp hb k1 k2 k3 T' rfl X'
    exact ⟨t2, st t2 a1, b1⟩
  · obtain ⟨k1, k2, k3⟩ := vx_keep h0 e1 hS hAX hf hL hF
    obtain ⟨t2, a1, b1⟩ := kx E ce q u t T'.heap (locs ++ L) e1.symm (by rw [← e2]; exact X'.warmed.alike) hp hb k1 k2 k3 (by rw [e1]; exact hce) hcv hcl T' rfl X'
    exact ⟨t2, st.trans a1, b1⟩
theorem vx_callv {S SX : Type} {post : S → Prop} {px : SX → Prop} {B : S → State → Prop} {BX : String → SX → State → Prop} {AX : Nat → Prop} (hr : vx_Run p l e R s m args below meth c H locs cells slots mc ms (F0 m pc ls st0) rest (va_Qv post B A1 a) (vx_X px BX AX) free) (hS : va_S A0 H0 H locs) (hA : ∀ q, q < H.size → A1 q → A0 q) (hf : ∀ q, free q → A0 q) (hAX : ∀ q, q < H.size → AX q → A0 q)
    (kx : ∀ (E : String) (ce : Cell) (q9 : Addr) (u : SX) (t : State) (H1 : Heap) (locs1 : List Loc), t.heap = H1 → s.vm.Alike t.vm → px u → BX E u t → H.size ≤ H1.size → (∀ q : Nat, q < H.size → ¬ AX q → H1[q]? = H[q]?) → va_S A0 H0 H1 locs1 → H1[q9]? = some ce → ce.vm = .none → s.vm.findClass E = some ce.cls → vx_W p l e R s m args below meth c H1 locs1 (cells + mc) (slots + ms) Q (F0 m pc ls rest) q9)
    (kk : ∀ (u : S) (t : State) (H1 : Heap) (locs1 : List Loc), t.heap = H1 → s.vm.Alike t.vm → post u → B u t → H.size ≤ H1.size → (∀ q : Nat, q < H.size → ¬ A1 q → H1[q]? = H[q]?) → va_S A0 H0 H1 locs1 → W p l e R s m args below meth c H1 locs1 (cells + mc) (slots + ms) Q (F0 m (pc + 3) ls (rest))) : W p l e R s m args below meth c H locs cells slots Q (F0 m pc ls st0) := by
  intro T hT X
  rcases hr T hT X with ⟨v, st₀, t, T', L, h0, X', hL, e1, e2, ⟨⟨u, hv, hp, hb⟩, hF⟩, st⟩ | ⟨q, st₀, t, T', L, E, ce, h0, X', hL, e1, e2, ⟨u, hp, hb, hF⟩, hce, hcv, hcl, st⟩
  · cases hv
    obtain ⟨k1, k2, k3⟩ := vx_keep h0 e1 hS hA hf hL hF
    obtain ⟨t2, a1, b1⟩ := kk u t T'.heap (locs ++ L) e1.symm (by rw [← e2]; exact X'.warmed.alike) hp hb k1 k2 k3 T' rfl X'
    exact ⟨t2, st t2 a1, b1⟩
  · obtain ⟨k1, k2, k3⟩ := vx_keep h0 e1 hS hAX hf hL hF
    obtain ⟨t2, a1, b1⟩ := kx E ce q u t T'.heap (locs ++ L) e1.symm (by rw [← e2]; exact X'.warmed.alike) hp hb k1 k2 k3 (by rw [e1]; exact hce) hcv hcl T' rfl X'
    exact ⟨t2, st.trans a1, b1⟩
/-- caught by the row x of this method's table; the rows ahead don't take it -/
theorem vx_catch {own name : String} {E : String} {ce : Cell} {q : Addr} (hown : s.vm.findClass own = some m.cls) (pre : List ExceptionTableEntry) (x : ExceptionTableEntry) (suf : List ExceptionTableEntry) (hsplit : c.exceptionTable.toList = pre ++ x :: suf)
    (hpass : ∀ z ∈ pre, covers z pc = false ∨ (z.catchType ≠ 0 ∧ ∃ nm : String, (Cond.classLink own z.catchType nm).before args s = true ∧ va_Nc E nm s)) (hx : covers x pc = true) (h0 : x.catchType ≠ 0)
    (hlink : (Cond.classLink own x.catchType name).before args s = true) (hcast : (Cond.castable E name).before args s = true) (hcell : H[q]? = some ce) (hv : ce.vm = .none) (hcl : s.vm.findClass E = some ce.cls)
    (kk : W p l e R s m args below meth c H locs cells slots Q (F0 m x.handlerPc ls [.ref q])) : vx_W p l e R s m args below meth c H locs cells slots Q (F0 m pc ls rest) q := by
  intro T hT X
  have hpl : e.platform.magicAccessors = ({} : Platform).magicAccessors := by rw [X.admits.platform]
  obtain ⟨c3, c4, hc3, hc4, hasg⟩ := Cond.castable_spec hcast
  cases Option.some.inj (hc3.symm.trans hcl)
  obtain ⟨c5, hc5, hcl5⟩ := Cond.classLink_spec hown hlink e.platform hpl
  cases Option.some.inj (hc4.symm.trans hc5)
  obtain ⟨vm', X', st⟩ := X.thenCaughtThrough q (g := F0 m pc ls rest) rfl (Steps.refl _) (by rw [hT]; exact hcell) (by rw [hv]; rfl) (by obtain ⟨k9, h9, -⟩ := Vm.findClass_spec hcl; exact ⟨k9, h9⟩) pre x suf hsplit
    (fun z hz => by
      rcases hpass z hz with h | ⟨hz0, nm, hl1, hn1⟩
      · exact Or.inl h
      · obtain ⟨c6, hc6, hcl6⟩ := Cond.classLink_spec hown hl1 e.platform hpl
        obtain ⟨a8, b8, h1, h2, h3⟩ := hn1
        cases Option.some.inj (h1.symm.trans hcl)
        cases Option.some.inj (h2.symm.trans hc6)
        exact Or.inr ⟨hz0, _, hcl6, h3⟩) hx (Or.inr ⟨h0, c4, hcl5, hasg⟩)
  obtain ⟨t, a1, b1⟩ := kk (T.setVm vm') hT X'
  exact ⟨t, st.trans a1, b1⟩
end Rows
section Ends
variable {p : Program} {l : Launch} {e : Env} {R : Room} {s : State} {m : MethodId} {args : Array Value} {below : List Frame} {meth : Method} {c : Code} {H : Heap} {locs : List Loc} {cells slots : Nat} {Q : State → Prop}
variable {mc ms : Nat} {free : Addr → Prop} {A0 A1 : Nat → Prop} {H0 : Heap} {a : Array Value} {ls : Array Slot} {st0 rest : List Value}
variable {Qc : Array Value → State → Outcome → State → Prop} {XC : String → State → State → Prop}
/-- what a body that may throw owes at its end -/
def vx_MQ (below : List Frame) (Qc : Array Value → State → Outcome → State → Prop) (XC : String → State → State → Prop) (a : Array Value) (s : State) (mc ms : Nat) (free : Addr → Prop) : State → Prop := fun t =>
  ∃ o, t.status = .running ∧ Ended t below o ∧ vx_Q Qc XC mc ms free a s o t
theorem vx_ret {g : JFrame} {mc ms : Nat} (k : W p l e R s m args below meth c H locs cells slots (MQ below Qc args s mc ms free) g) : W p l e R s m args below meth c H locs cells slots (vx_MQ below Qc XC args s mc ms free) g := by
  intro T hT X
  obtain ⟨t, a1, o, b1, b2, b3, b4⟩ := k T hT X
  exact ⟨t, a1, o, b1, b2, Or.inl ⟨b3, b4⟩⟩
/-- not caught here: it goes on to the caller -/
theorem vx_widen {g : JFrame} {q : Addr} {k n : Nat} (h1 : cells ≤ k) (h2 : slots ≤ n) (kk : vx_W p l e R s m args below meth c H locs k n Q g q) : vx_W p l e R s m args below meth c H locs cells slots Q g q := fun T hT X => kk T hT (stand_widen X h1 h2)
theorem vx_out {pc : Nat} {E : String} {ce : Cell} {q : Addr} {mc ms : Nat} (hout : ∀ x ∈ c.exceptionTable.toList, covers x pc = false) (hlocks : meth.locks = false) (hcell : H[q]? = some ce) (hv : ce.vm = .none) (hcl : s.vm.findClass E = some ce.cls)
    (hx : ∀ t : State, t.heap = H → s.vm.Alike t.vm → XC E s t) (hf : ∀ z ∈ locs, free z.base) (hc : cells ≤ mc) (hs : slots ≤ ms) :
    vx_W p l e R s m args below meth c H locs cells slots (vx_MQ below Qc XC args s mc ms free) (F0 m pc ls rest) q := by
  intro T hT X
  obtain ⟨st1, hrun, hend, hW, hsm⟩ := X.leaveThrown q (g := F0 m pc ls rest) rfl rfl rfl hout hlocks
  have hcell9 : (T.setFrames (.throwing q :: below)).heap[q]? = some ce := by
    show T.heap[q]? = some ce
    rw [hT]; exact hcell
  exact ⟨_, st1, .threw q, hrun, hend, Or.inr ⟨q, rfl, E, ce, locs, hx _ hT hW.alike, hcell9, hv, hcl, hW, hsm.mono hc hs, hf⟩⟩
theorem vx_frame {U : State} {k n : Nat} (h : s.sameButNew ({ U with vm := s.vm } : State) locs k n) : s.heap.size ≤ U.heap.size ∧ ∀ q : Nat, q < s.heap.size → (∀ z ∈ locs, z.base ≠ q) → U.heap[q]? = s.heap[q]? := by
  obtain ⟨-, h2, -, -, -, h6⟩ := h
  refine ⟨h2, fun q hq hz => ?_⟩
  obtain ⟨c9, e1, e2, e3, e4⟩ := h6 q _ (Array.getElem?_eq_getElem hq)
  have hs : c9.slots = (s.heap[q]).slots := Array.ext_getElem? fun i => e4 i fun hm => hz _ hm rfl
  have h9 : c9 = s.heap[q] := by
    rw [hs] at e2
    exact e2
  have e5 : U.heap[q]? = some c9 := e1
  rw [e5, h9, Array.getElem?_eq_getElem hq]
/-- the words of a throw but the four that speak of the heap -/
def vx_no (w : Cond) : Bool := decide (w ≠ .isRef (.static Bundle.tN "UNASSIGNED_STACK" Bundle.steD)) && decide (w ≠ .isRef (.static Bundle.tN "SUPPRESSED_SENTINEL" Bundle.listD)) && decide (w ≠ .laysStatic Bundle.tN "UNASSIGNED_STACK" Bundle.steD) && decide (w ≠ .laysStatic Bundle.tN "SUPPRESSED_SENTINEL" Bundle.listD)
def vx_at0 (own : String) (ic : Nat) (X : String) (names : List String) : List Cond := (Bundle.ownAtoms0 own ic X names).filter vx_no
def vx_atS (own : String) (ic : Nat) (X : String) (names : List String) : List Cond := (Bundle.ownAtoms own ic X names).filter vx_no
/-- a word that the tables alone decide, or a good one -/
def vx_ot (w : Cond) : Bool := w.onTables || goodWord w
theorem vx_ot_at {args a' : Array Value} {s U : State} {w : Cond} (hW : s.WarmedH U.vm) (hvm : s.vm = U.vm) (hg : vx_ot w = true) (h : w.before args s = true) : w.before a' U = true := by
  simp only [vx_ot, Bool.or_eq_true] at hg
  rcases hg with hg | hg
  · exact va_tabs hg hvm h
  · exact word_at hW (good_of_word hg) h
/-- a list's words: the good ones out of the method's own list, the others by premises of their own -/
theorem vx_hat {args : Array Value} {s : State} {L B : List Cond} (h1 : ∀ w ∈ L.filter goodWord, w.before args s = true) (h2 : ∀ w ∈ L.filter (fun w => !goodWord w), w ∈ B) (h3 : ∀ w ∈ B, w.before args s = true) : ∀ w ∈ L, w.before args s = true := by
  intro w hw
  by_cases g : goodWord w = true
  · exact h1 w (List.mem_filter.mpr ⟨hw, g⟩)
  · refine h3 w (h2 w (List.mem_filter.mpr ⟨hw, ?_⟩))
    show (!goodWord w) = true
    cases hgw : goodWord w
    · rfl
    · exact absurd hgw g
theorem vx_c {args : Array Value} {s : State} {w : Cond} {B : List Cond} (h : w.before args s = true) (t : ∀ w ∈ B, w.before args s = true) : ∀ w' ∈ w :: B, w'.before args s = true := fun w' h' => (List.mem_cons.mp h').elim (fun e => by rw [e]; exact h) (t w')
theorem vx_n {args : Array Value} {s : State} : ∀ w ∈ ([] : List Cond), w.before args s = true := fun _ h => nomatch h
theorem vx_own {args : Array Value} {s : State} {L : List Cond} (h1 : ∀ w ∈ L.filter vx_no, w.before args s = true)
    (hU : (Cond.isRef (.static Bundle.tN "UNASSIGNED_STACK" Bundle.steD)).before args s = true) (hN : (Cond.isRef (.static Bundle.tN "SUPPRESSED_SENTINEL" Bundle.listD)).before args s = true)
    (lU : (Cond.laysStatic Bundle.tN "UNASSIGNED_STACK" Bundle.steD).before args s = true) (lN : (Cond.laysStatic Bundle.tN "SUPPRESSED_SENTINEL" Bundle.listD).before args s = true) : ∀ w ∈ L, w.before args s = true := by
  intro w hw
  by_cases e1 : w = .isRef (.static Bundle.tN "UNASSIGNED_STACK" Bundle.steD)
  · rw [e1]; exact hU
  · by_cases e2 : w = .isRef (.static Bundle.tN "SUPPRESSED_SENTINEL" Bundle.listD)
    · rw [e2]; exact hN
    · by_cases e3 : w = .laysStatic Bundle.tN "UNASSIGNED_STACK" Bundle.steD
      · rw [e3]; exact lU
      · by_cases e4 : w = .laysStatic Bundle.tN "SUPPRESSED_SENTINEL" Bundle.listD
        · rw [e4]; exact lN
        · exact h1 w (List.mem_filter.mpr ⟨hw, by unfold vx_no; rw [decide_eq_true e1, decide_eq_true e2, decide_eq_true e3, decide_eq_true e4]; rfl⟩)
/-- where a static field lies, its class's statics cell in H -/
def vx_L (C n d : String) (A : Nat → Prop) (U : State) (H : Heap) : Prop := ∃ (c : ClassId) (k : Class) (i : Nat) (f : Field) (a : Nat) (cell : Cell), U.vm.findClass C = some c ∧ U.fieldFound? C n d = some (c, k, i, f) ∧ f.isStatic = true ∧ k.statics = some a ∧ H[a]? = some cell ∧ cell.vm.isStatics = true ∧ cell.cls = c ∧ f.slot < cell.slots.size ∧ k.staticTypes[f.slot]? = some f.type ∧ ¬ A a
theorem vx_L.moved {C n d : String} {A : Nat → Prop} {u U : State} {H : Heap} (hvm : u.vm.Alike U.vm) (h : vx_L C n d A u H) : vx_L C n d A U H := by
  obtain ⟨c, k, i, f, a, cell, h1, h2, h3, h4, h5, h6, h7, h8, h9, h10⟩ := h
  obtain ⟨k', hi', he⟩ := State.fieldFound?_setVm hvm h2
  exact ⟨c, k', i, f, a, cell, by rw [hvm.findClass]; exact h1, hi', h3, by rw [he]; exact h4, h5, h6, h7, h8, by rw [he]; exact h9, h10⟩
theorem vx_L.kept {C n d : String} {A : Nat → Prop} {U : State} {H H1 : Heap} (h : vx_L C n d A U H) (hq : ∀ a : Nat, a < H.size → ¬ A a → H1[a]? = H[a]?) : vx_L C n d A U H1 := by
  obtain ⟨c, k, i, f, a, cell, h1, h2, h3, h4, h5, h6, h7, h8, h9, h10⟩ := h
  exact ⟨c, k, i, f, a, cell, h1, h2, h3, h4, by rw [hq a (Array.getElem?_eq_some_iff.mp h5).1 h10]; exact h5, h6, h7, h8, h9, h10⟩
theorem vx_L.narrow {C n d : String} {A B : Nat → Prop} {U : State} {H : Heap} (h : vx_L C n d A U H) (hAB : ∀ q, B q → A q) : vx_L C n d B U H := by
  obtain ⟨c, k, i, f, a, cell, h1, h2, h3, h4, h5, h6, h7, h8, h9, h10⟩ := h
  exact ⟨c, k, i, f, a, cell, h1, h2, h3, h4, h5, h6, h7, h8, h9, fun z => h10 (hAB _ z)⟩
theorem vx_L.word {C n d : String} {A : Nat → Prop} {s : State} {args : Array Value} (h : vx_L C n d A s s.heap) : (Cond.laysStatic C n d).before args s = true := by
  obtain ⟨c, k, i, f, a, cell, h1, h2, h3, h4, h5, h6, h7, h8, h9, -⟩ := h
  show (Cond.laysStatic C n d).holds args s none s [] = true
  exact Cond.laysStatic_of h1 h2 h3 h4 h5 h6 h7 h8 h9
/-- .. and what it holds: null or some reference -/
def vx_Zq (C n d : String) (A : Nat → Prop) (U : State) (H : Heap) : Prop := va_Zq C n d A U H ∧ vx_L C n d A U H
theorem vx_Zq.moved {C n d : String} {A : Nat → Prop} {u U : State} {H : Heap} (hvm : u.vm.Alike U.vm) (h : vx_Zq C n d A u H) : vx_Zq C n d A U H := ⟨va_Zq.moved hvm h.1, vx_L.moved hvm h.2⟩
theorem vx_Zq.kept {C n d : String} {A : Nat → Prop} {U : State} {H H1 : Heap} (h : vx_Zq C n d A U H) (hq : ∀ a : Nat, a < H.size → ¬ A a → H1[a]? = H[a]?) : vx_Zq C n d A U H1 := ⟨va_Zq.kept h.1 hq, vx_L.kept h.2 hq⟩
theorem vx_Zq.narrow {C n d : String} {A B : Nat → Prop} {U : State} {H : Heap} (h : vx_Zq C n d A U H) (hAB : ∀ q, B q → A q) : vx_Zq C n d B U H := ⟨va_Zq.narrow h.1 hAB, vx_L.narrow h.2 hAB⟩
theorem vx_Zqof {args : Array Value} {s : State} {C n d : String} {A : Nat → Prop} (hl : (Cond.laysStatic C n d).before args s = true) (hini : (Cond.initialized C).before args s = true) (h : (Cond.isRef (.static C n d)).before args s = true) (hA : ∀ a : Nat, a < s.heap.size → ¬ A a) : vx_Zq C n d A s s.heap := by
  refine ⟨va_Zqof hl hini h hA, ?_⟩
  obtain ⟨c, k, i, f, a, cell, h1, h2, h3, h4, h5, h6, h7, h8, h9⟩ := Cond.laysStatic_spec hl
  exact ⟨c, k, i, f, a, cell, h1, h2, h3, h4, h5, h6, h7, h8, h9, hA a (Array.getElem?_eq_some_iff.mp h5).1⟩
theorem vx_isRef {C n d : String} {v : Value} {A : Nat → Prop} {s : State} {args : Array Value} (h : va_Z C n d v A s s.heap) (hv : v.isRef = true) : (Cond.isRef (.static C n d)).before args s = true := by
  obtain ⟨cf, kf, fi, f, a, cell, h1, h2, h3, h4, h5, h6, h7, -⟩ := h
  have he : (Term.static C n d).eval args s none [] s = some v := by
    simp [Term.eval, State.fieldNamed?, h1, h2, h4, h5, h6, h7]
  simp only [Cond.before, Cond.holds, Cond.value, he]
  cases v <;> simp_all [Value.isRef]
theorem vx_isRefq {C n d : String} {A : Nat → Prop} {s : State} {args : Array Value} (h : va_Zq C n d A s s.heap) : (Cond.isRef (.static C n d)).before args s = true := by
  rcases h with h | ⟨t, h⟩
  · exact vx_isRef h rfl
  · exact vx_isRef h rfl
/-- the same frame, seen from here: as if the method were called anew in this heap -/
theorem vx_rebase {T : State} (X : Stand p l e R s m args below meth c T locs cells slots) {R' : Room} (hf : R'.frames ≤ R.frames) (hl : R'.locals ≤ R.locals) (hc : cells + R'.cells ≤ R.cells) (hs : slots + R'.slots ≤ R.slots) :
    Stand p l e R' ((T.setVm s.vm).setFrames (.invoking m args :: below)) m args below meth c T [] 0 0 := by
  have htop : (T.setVm s.vm).topJava?.isSome := X.here.top
  have hF : ((T.setVm s.vm).setFrames (.invoking m args :: below)).frames = .invoking m args :: below := State.frames_setFrames _ (State.cur_lt_of_top htop)
  obtain ⟨g₀, hg0⟩ := Option.isSome_iff_exists.mp htop
  obtain ⟨r, hr⟩ := State.topJava?_eq_some.mp hg0
  have hl9 : e.platform.stackLimits (T.setVm s.vm).me = e.platform.stackLimits s.me := X.limits
  have hb9 : (T.setVm s.vm).me.stackBytes = s.me.stackBytes := X.bytes
  refine ⟨X.admits, X.cas, X.clock, hF, ?_, X.hears, X.method, X.code, X.here, X.tail, X.warmed, ?_, ?_, ?_⟩
  · have h := X.room
    have hU : ((T.setVm s.vm).setFrames (.invoking m args :: below)).localsInUse = s.localsInUse := by
      rw [State.localsInUse_invoking hF (meth := meth) (c := c) X.method X.code, State.localsInUse_invoking X.frames X.method X.code]
    simp only [State.hasRoom, Bool.and_eq_true, decide_eq_true_eq] at h ⊢
    obtain ⟨⟨⟨⟨h1, h2, h3, h4, h5, h6⟩, h7⟩, h8⟩, h9⟩ := h
    rw [X.frames, List.length_cons] at h2 h3
    have q1 := X.heapSize
    have q2 := X.used
    simp only [hF, hU, List.length_cons, State.stackLimits_setFrames, State.stackBytes_setFrames, hl9, hb9]
    refine ⟨⟨⟨⟨by omega, by omega, by omega, by omega, by omega, h6⟩, ?_⟩, ?_⟩, X.book⟩
    · show T.heap.size + R'.cells ≤ e.platform.maxCells
      omega
    · show T.slotsUsed + R'.slots ≤ e.platform.maxSlots
      omega
  · rw [State.stackLimits_setFrames]; rfl
  · rw [State.stackBytes_setFrames]; rfl
  · refine ⟨?_, Nat.le_refl _, Nat.le_refl _, ?_, ?_, fun a c9 h9 => ⟨c9, h9, rfl, rfl, fun _ _ => rfl⟩⟩
    · obtain ⟨t, ht, -⟩ := State.frames_cons hr
      show T.setVm s.vm = { ((T.setVm s.vm).setFrames (.invoking m args :: below)).setFrames (T.setVm s.vm).frames with heap := T.heap, slotsUsed := T.slotsUsed }
      rw [State.setFrames_setFrames, State.setFrames_self ht]
      rfl
    · show T.slotsUsed = T.slotsUsed + ((T.heap.toList.drop T.heap.size).map (·.slots.size)).sum
      rw [List.drop_eq_nil_of_le (Nat.le_of_eq Array.length_toList)]
      rfl
    · show ((T.heap.toList.drop T.heap.size).map (·.slots.size)).sum ≤ 0
      rw [List.drop_eq_nil_of_le (Nat.le_of_eq Array.length_toList)]
      exact Nat.le_refl _
/-- 'throw new E()': new; dup; invokespecial; athrow -/
theorem vx_throw0 {cc : ByteArray} {pc : Nat} (hexec : p.tables.exec = Jvm.exec) (hb : c.code = cc) (hl : l.stackTraces = false) {own cls : String} {names : List String} {ik ic mc ms : Nat} {A : Nat → Prop}
    (hown : s.vm.findClass own = some m.cls) (hcls : Bundle.fit cls = true) (hnames : ∀ n ∈ names, Bundle.fit n = true)
    (hk : (Cond.classLink own ik cls).before args s = true) (hini : (Cond.initialized cls).before args s = true) (hat : ∀ w ∈ vx_at0 own ic cls names, w.before args s = true)
    (hgood : ∀ w ∈ Cond.classLink own ik cls :: Cond.initialized cls :: vx_at0 own ic cls names, vx_ot w = true)
    (hU : vx_Zq Bundle.tN "UNASSIGNED_STACK" Bundle.steD A s s.heap) (hN : vx_Zq Bundle.tN "SUPPRESSED_SENTINEL" Bundle.listD A s s.heap) (hS : va_S A s.heap H locs) (hsize : ls.size = c.maxLocals)
    (d0 : decode cc pc = .ok (.new ik, 3)) (d3 : decode cc (pc + 3) = .ok (.dup, 1)) (d4 : decode cc (pc + 4) = .ok (.invokespecial ic, 3)) (d7 : decode cc (pc + 7) = .ok (.athrow, 1))
    (hout : ∀ x ∈ c.exceptionTable.toList, covers x (pc + 7) = false)
    (hRframes : names.length + 3 < R.frames) (hRlocals : (rest.map fun v => v.category).sum + (13 * (names.length + 1) + 42) ≤ R.locals) (hRcells : cells + 1 ≤ R.cells) (hRslots : slots + 6 ≤ R.slots) (hlocks : meth.locks = false)
    (hx : ∀ t : State, s.vm.Alike t.vm → H.size ≤ t.heap.size → (∀ q : Nat, q < H.size → t.heap[q]? = H[q]?) → XC cls s t)
    (hf : ∀ z ∈ locs, free z.base) (hc : cells + 1 ≤ mc) (hs : slots + 6 ≤ ms) :
    W p l e R s m args below meth c H locs cells slots (vx_MQ below Qc XC args s mc ms free) (F0 m pc ls rest) := by
  intro T hT X
  have htr : e.platform.stackTraces = false := (show e.platform.stackTraces = l.stackTraces by rw [X.admits.platform]).trans hl
  have Y := vx_rebase X (R' := { frames := R.frames, locals := R.locals, cells := 1, slots := 6 }) (Nat.le_refl _) (Nat.le_refl _) hRcells hRslots
  obtain ⟨s', hA⟩ : ∃ z, z = (T.setVm s.vm).setFrames (.invoking m args :: below) := ⟨_, rfl⟩
  rw [← hA] at Y
  have hvm : s'.vm = s.vm := by rw [hA]; rfl
  have hhp : s'.heap = H := by rw [hA]; exact hT
  have hW0 : s.WarmedH s'.vm := by rw [hvm]; exact State.WarmedH.refl s
  have hat' : ∀ w ∈ vx_at0 own ic cls names, w.before args s' = true := fun w hw => vx_ot_at hW0 hvm.symm (hgood w (List.mem_cons_of_mem _ (List.mem_cons_of_mem _ hw))) (hat w hw)
  have hk' : (Cond.classLink own ik cls).before args s' = true := vx_ot_at hW0 hvm.symm (hgood _ List.mem_cons_self) hk
  have hini' : (Cond.initialized cls).before args s' = true := vx_ot_at hW0 hvm.symm (hgood _ (List.mem_cons_of_mem _ List.mem_cons_self)) hini
  have hU' : vx_Zq Bundle.tN "UNASSIGNED_STACK" Bundle.steD A s' s'.heap := by rw [hhp]; exact vx_Zq.moved hW0.alike (hU.kept hS.2.1)
  have hN' : vx_Zq Bundle.tN "SUPPRESSED_SENTINEL" Bundle.listD A s' s'.heap := by rw [hhp]; exact vx_Zq.moved hW0.alike (hN.kept hS.2.1)
  have h : ∀ w ∈ Bundle.ownAtoms0 own ic cls names, w.before args s' = true := vx_own hat' (vx_isRefq hU'.1) (vx_isRefq hN'.1) hU'.2.word hN'.2.word
  have hown' : s'.vm.findClass own = some m.cls := by rw [hvm]; exact hown
  have hins : (Cond.instantiable cls 6).before args s' = true := h _ (by simp [Bundle.ownAtoms0])
  obtain ⟨vm₁, cX, kX, hfX, hkX, -, -, X₁, st1⟩ := Y.newCold hexec (own := own) (C := cls) (index := ik) (n := 6) hown' hk' hins hini'
    (g := F0 m pc ls rest) rfl (by rw [hb]; exact d0) (Nat.le_refl _) (Nat.le_refl _)
  generalize hT1 : (T.setVm vm₁).pushCell { cls := cX, slots := kX.instanceTypes.map defaultValue, vm := .none } = T1 at X₁ st1
  have hcat : (Value.ref T.heap.size).category = 1 := rfl
  have hcellA : T1.heap[T.heap.size]? = some (freshCell cX kX) := by rw [← hT1]; exact State.heap_pushCell_size _ _
  have d3' : decode c.code (pc + 3) = .ok (.dup, 1) := by rw [hb]; exact d3
  obtain ⟨U, hsteps, hrun, hend, hW, hsame, ce, hce, hO⟩ := X₁.ctorThrow0 hexec htr (own := own) (cls := cls) (names := names) (ic := ic) hown' hcls hnames h (fun x hx => nomatch hx) hfX hkX hcellA (by rw [hhp, hT]; exact Nat.le_refl _)
    (g := { method := m, pc := pc + 4, locals := ls, stack := .ref T.heap.size :: .ref T.heap.size :: rest, locked := none }) rfl hsize rfl rfl (rest := rest) rfl
    (by rw [hb]; exact d4) (by rw [hb]; exact d7) hout hRframes (by simp only [List.map_cons, List.sum_cons, hcat]; omega) hlocks
  obtain ⟨f1, f2⟩ := vx_frame hsame
  rw [hhp] at f1 f2
  have hWs : s.WarmedH U.vm := State.WarmedH.trans hW0 hW
  have hcl : s.vm.findClass cls = some ce.cls := by
    have h9 := hO.cls
    rw [hvm] at h9
    exact h9
  have hall : s.sameButNew ({ U with vm := s.vm } : State) locs mc ms := by
    subst hA
    obtain ⟨e1, e2⟩ := hsame
    rw [State.setFrames_setFrames] at e1
    have h2 : (T.setVm s.vm).sameButNew ({ U with vm := s.vm } : State) [] (0 + 1) (0 + 6) := ⟨e1, e2⟩
    have h3 := X.same.trans h2
    rw [List.append_nil] at h3
    exact h3.mono hc hs
  refine ⟨U, ?_, .threw T.heap.size, hrun, hend, Or.inr ⟨T.heap.size, rfl, cls, ce, locs, hx U hWs.alike f1 (fun q hq => f2 q hq (fun z hz => nomatch hz)), hce, hO.vm, hcl, hWs, hall, hf⟩⟩
  refine st1 _ ?_
  show Steps p.tables e below (T1.setTop { method := m, pc := pc + 3, locals := ls, stack := .ref T.heap.size :: rest, locked := none }) _
  jvm_step X₁.here [X₁.here.top, hexec, d3', Value.category]
  exact hsteps
/-- 'throw new E("text")': new; dup; ldc; invokespecial; athrow -/
theorem vx_throwS {cc : ByteArray} {pc : Nat} (hexec : p.tables.exec = Jvm.exec) (hb : c.code = cc) (hl : l.stackTraces = false) {own cls text : String} {names : List String} {ik is ic mc ms sa : Nat} {A : Nat → Prop}
    (hown : s.vm.findClass own = some m.cls) (hcls : Bundle.fit cls = true) (hnames : ∀ n ∈ names, Bundle.fit n = true)
    (hk : (Cond.classLink own ik cls).before args s = true) (hini : (Cond.initialized cls).before args s = true) (hstr : vk_R own is text sa s) (hat : ∀ w ∈ vx_atS own ic cls names, w.before args s = true)
    (hgood : ∀ w ∈ Cond.classLink own ik cls :: Cond.initialized cls :: vx_atS own ic cls names, vx_ot w = true)
    (hU : vx_Zq Bundle.tN "UNASSIGNED_STACK" Bundle.steD A s s.heap) (hN : vx_Zq Bundle.tN "SUPPRESSED_SENTINEL" Bundle.listD A s s.heap) (hS : va_S A s.heap H locs) (hsize : ls.size = c.maxLocals)
    (d0 : decode cc pc = .ok (.new ik, 3)) (d3 : decode cc (pc + 3) = .ok (.dup, 1)) (d4 : decode cc (pc + 4) = .ok (.ldc is, 2)) (d6 : decode cc (pc + 6) = .ok (.invokespecial ic, 3)) (d9 : decode cc (pc + 9) = .ok (.athrow, 1))
    (hout : ∀ x ∈ c.exceptionTable.toList, covers x (pc + 9) = false)
    (hRframes : names.length + 3 < R.frames) (hRlocals : (rest.map fun v => v.category).sum + (13 * (names.length + 1) + 43) ≤ R.locals) (hRcells : cells + 1 ≤ R.cells) (hRslots : slots + 6 ≤ R.slots) (hlocks : meth.locks = false)
    (hx : ∀ t : State, s.vm.Alike t.vm → H.size ≤ t.heap.size → (∀ q : Nat, q < H.size → t.heap[q]? = H[q]?) → XC cls s t)
    (hf : ∀ z ∈ locs, free z.base) (hc : cells + 1 ≤ mc) (hs : slots + 6 ≤ ms) :
    W p l e R s m args below meth c H locs cells slots (vx_MQ below Qc XC args s mc ms free) (F0 m pc ls rest) := by
  intro T hT X
  have htr : e.platform.stackTraces = false := (show e.platform.stackTraces = l.stackTraces by rw [X.admits.platform]).trans hl
  have Y := vx_rebase X (R' := { frames := R.frames, locals := R.locals, cells := 1, slots := 6 }) (Nat.le_refl _) (Nat.le_refl _) hRcells hRslots
  obtain ⟨s', hA⟩ : ∃ z, z = (T.setVm s.vm).setFrames (.invoking m args :: below) := ⟨_, rfl⟩
  rw [← hA] at Y
  have hvm : s'.vm = s.vm := by rw [hA]; rfl
  have hhp : s'.heap = H := by rw [hA]; exact hT
  have hW0 : s.WarmedH s'.vm := by rw [hvm]; exact State.WarmedH.refl s
  have hat' : ∀ w ∈ vx_atS own ic cls names, w.before args s' = true := fun w hw => vx_ot_at hW0 hvm.symm (hgood w (List.mem_cons_of_mem _ (List.mem_cons_of_mem _ hw))) (hat w hw)
  have hk' : (Cond.classLink own ik cls).before args s' = true := vx_ot_at hW0 hvm.symm (hgood _ List.mem_cons_self) hk
  have hini' : (Cond.initialized cls).before args s' = true := vx_ot_at hW0 hvm.symm (hgood _ (List.mem_cons_of_mem _ List.mem_cons_self)) hini
  have hU' : vx_Zq Bundle.tN "UNASSIGNED_STACK" Bundle.steD A s' s'.heap := by rw [hhp]; exact vx_Zq.moved hW0.alike (hU.kept hS.2.1)
  have hN' : vx_Zq Bundle.tN "SUPPRESSED_SENTINEL" Bundle.listD A s' s'.heap := by rw [hhp]; exact vx_Zq.moved hW0.alike (hN.kept hS.2.1)
  have h : ∀ w ∈ Bundle.ownAtoms own ic cls names, w.before args s' = true := vx_own hat' (vx_isRefq hU'.1) (vx_isRefq hN'.1) hU'.2.word hN'.2.word
  have hown' : s'.vm.findClass own = some m.cls := by rw [hvm]; exact hown
  have hins : (Cond.instantiable cls 6).before args s' = true := h _ (by simp [Bundle.ownAtoms])
  obtain ⟨vm₁, cX, kX, hfX, hkX, -, -, X₁, st1⟩ := Y.newCold hexec (own := own) (C := cls) (index := ik) (n := 6) hown' hk' hins hini'
    (g := F0 m pc ls rest) rfl (by rw [hb]; exact d0) (Nat.le_refl _) (Nat.le_refl _)
  generalize hT1 : (T.setVm vm₁).pushCell { cls := cX, slots := kX.instanceTypes.map defaultValue, vm := .none } = T1 at X₁ st1
  have hcat : (Value.ref T.heap.size).category = 1 := rfl
  have hcellA : T1.heap[T.heap.size]? = some (freshCell cX kX) := by rw [← hT1]; exact State.heap_pushCell_size _ _
  have d3' : decode c.code (pc + 3) = .ok (.dup, 1) := by rw [hb]; exact d3
  have d4' : decode c.code (pc + 4) = .ok (.ldc is, 2) := by rw [hb]; exact d4
  have hstr' : vk_R own is text sa s' := vk_R.warm hW0 hstr
  obtain ⟨U, hsteps, hrun, hend, hW, hsame, ce, hce, hO⟩ := X₁.ctorThrowS hexec htr (own := own) (cls := cls) (names := names) (ic := ic) hown' hcls hnames h (fun x hx => nomatch hx) hfX hkX hcellA (by rw [hhp, hT]; exact Nat.le_refl _) (msg := .ref sa) rfl
    (g := { method := m, pc := pc + 6, locals := ls, stack := .ref sa :: .ref T.heap.size :: .ref T.heap.size :: rest, locked := none }) rfl hsize rfl rfl (rest := rest) rfl
    (by rw [hb]; exact d6) (by rw [hb]; exact d9) hout hRframes (by simp only [List.map_cons, List.sum_cons, hcat]; omega) hlocks
  obtain ⟨f1, f2⟩ := vx_frame hsame
  rw [hhp] at f1 f2
  have hWs : s.WarmedH U.vm := State.WarmedH.trans hW0 hW
  have hcl : s.vm.findClass cls = some ce.cls := by
    have h9 := hO.cls
    rw [hvm] at h9
    exact h9
  have hall : s.sameButNew ({ U with vm := s.vm } : State) locs mc ms := by
    subst hA
    obtain ⟨e1, e2⟩ := hsame
    rw [State.setFrames_setFrames] at e1
    have h2 : (T.setVm s.vm).sameButNew ({ U with vm := s.vm } : State) [] (0 + 1) (0 + 6) := ⟨e1, e2⟩
    have h3 := X.same.trans h2
    rw [List.append_nil] at h3
    exact h3.mono hc hs
  refine ⟨U, ?_, .threw T.heap.size, hrun, hend, Or.inr ⟨T.heap.size, rfl, cls, ce, locs, hx U hWs.alike f1 (fun q hq => f2 q hq (fun z hz => nomatch hz)), hce, hO.vm, hcl, hWs, hall, hf⟩⟩
  refine st1 _ ?_
  show Steps p.tables e below (T1.setTop { method := m, pc := pc + 3, locals := ls, stack := .ref T.heap.size :: rest, locked := none }) _
  jvm_step X₁.here [X₁.here.top, hexec, d3', Value.category]
  exact X₁.ldcString hexec (own := own) (text := text) (index := is) (a := sa) hown' hstr'.1 hstr'.2
    (g := { method := m, pc := pc + 4, locals := ls, stack := .ref T.heap.size :: .ref T.heap.size :: rest, locked := none }) rfl d4' _ hsteps
/-- 'throw new E("text")', the text by a wide index -/
theorem vx_throwSW {cc : ByteArray} {pc : Nat} (hexec : p.tables.exec = Jvm.exec) (hb : c.code = cc) (hl : l.stackTraces = false) {own cls text : String} {names : List String} {ik is ic mc ms sa : Nat} {A : Nat → Prop}
    (hown : s.vm.findClass own = some m.cls) (hcls : Bundle.fit cls = true) (hnames : ∀ n ∈ names, Bundle.fit n = true)
    (hk : (Cond.classLink own ik cls).before args s = true) (hini : (Cond.initialized cls).before args s = true) (hstr : vk_R own is text sa s) (hat : ∀ w ∈ vx_atS own ic cls names, w.before args s = true)
    (hgood : ∀ w ∈ Cond.classLink own ik cls :: Cond.initialized cls :: vx_atS own ic cls names, vx_ot w = true)
    (hU : vx_Zq Bundle.tN "UNASSIGNED_STACK" Bundle.steD A s s.heap) (hN : vx_Zq Bundle.tN "SUPPRESSED_SENTINEL" Bundle.listD A s s.heap) (hS : va_S A s.heap H locs) (hsize : ls.size = c.maxLocals)
    (d0 : decode cc pc = .ok (.new ik, 3)) (d3 : decode cc (pc + 3) = .ok (.dup, 1)) (d4 : decode cc (pc + 4) = .ok (.ldc_w is, 3)) (d7 : decode cc (pc + 7) = .ok (.invokespecial ic, 3)) (d10 : decode cc (pc + 10) = .ok (.athrow, 1))
    (hout : ∀ x ∈ c.exceptionTable.toList, covers x (pc + 10) = false)
    (hRframes : names.length + 3 < R.frames) (hRlocals : (rest.map fun v => v.category).sum + (13 * (names.length + 1) + 43) ≤ R.locals) (hRcells : cells + 1 ≤ R.cells) (hRslots : slots + 6 ≤ R.slots) (hlocks : meth.locks = false)
    (hx : ∀ t : State, s.vm.Alike t.vm → H.size ≤ t.heap.size → (∀ q : Nat, q < H.size → t.heap[q]? = H[q]?) → XC cls s t)
    (hf : ∀ z ∈ locs, free z.base) (hc : cells + 1 ≤ mc) (hs : slots + 6 ≤ ms) :
    W p l e R s m args below meth c H locs cells slots (vx_MQ below Qc XC args s mc ms free) (F0 m pc ls rest) := by
  intro T hT X
  have htr : e.platform.stackTraces = false := (show e.platform.stackTraces = l.stackTraces by rw [X.admits.platform]).trans hl
  have Y := vx_rebase X (R' := { frames := R.frames, locals := R.locals, cells := 1, slots := 6 }) (Nat.le_refl _) (Nat.le_refl _) hRcells hRslots
  obtain ⟨s', hA⟩ : ∃ z, z = (T.setVm s.vm).setFrames (.invoking m args :: below) := ⟨_, rfl⟩
  rw [← hA] at Y
  have hvm : s'.vm = s.vm := by rw [hA]; rfl
  have hhp : s'.heap = H := by rw [hA]; exact hT
  have hW0 : s.WarmedH s'.vm := by rw [hvm]; exact State.WarmedH.refl s
  have hat' : ∀ w ∈ vx_atS own ic cls names, w.before args s' = true := fun w hw => vx_ot_at hW0 hvm.symm (hgood w (List.mem_cons_of_mem _ (List.mem_cons_of_mem _ hw))) (hat w hw)
  have hk' : (Cond.classLink own ik cls).before args s' = true := vx_ot_at hW0 hvm.symm (hgood _ List.mem_cons_self) hk
  have hini' : (Cond.initialized cls).before args s' = true := vx_ot_at hW0 hvm.symm (hgood _ (List.mem_cons_of_mem _ List.mem_cons_self)) hini
  have hU' : vx_Zq Bundle.tN "UNASSIGNED_STACK" Bundle.steD A s' s'.heap := by rw [hhp]; exact vx_Zq.moved hW0.alike (hU.kept hS.2.1)
  have hN' : vx_Zq Bundle.tN "SUPPRESSED_SENTINEL" Bundle.listD A s' s'.heap := by rw [hhp]; exact vx_Zq.moved hW0.alike (hN.kept hS.2.1)
  have h : ∀ w ∈ Bundle.ownAtoms own ic cls names, w.before args s' = true := vx_own hat' (vx_isRefq hU'.1) (vx_isRefq hN'.1) hU'.2.word hN'.2.word
  have hown' : s'.vm.findClass own = some m.cls := by rw [hvm]; exact hown
  have hins : (Cond.instantiable cls 6).before args s' = true := h _ (by simp [Bundle.ownAtoms])
  obtain ⟨vm₁, cX, kX, hfX, hkX, -, -, X₁, st1⟩ := Y.newCold hexec (own := own) (C := cls) (index := ik) (n := 6) hown' hk' hins hini'
    (g := F0 m pc ls rest) rfl (by rw [hb]; exact d0) (Nat.le_refl _) (Nat.le_refl _)
  generalize hT1 : (T.setVm vm₁).pushCell { cls := cX, slots := kX.instanceTypes.map defaultValue, vm := .none } = T1 at X₁ st1
  have hcat : (Value.ref T.heap.size).category = 1 := rfl
  have hcellA : T1.heap[T.heap.size]? = some (freshCell cX kX) := by rw [← hT1]; exact State.heap_pushCell_size _ _
  have d3' : decode c.code (pc + 3) = .ok (.dup, 1) := by rw [hb]; exact d3
  have d4' : decode c.code (pc + 4) = .ok (.ldc_w is, 3) := by rw [hb]; exact d4
  have hstr' : vk_R own is text sa s' := vk_R.warm hW0 hstr
  obtain ⟨U, hsteps, hrun, hend, hW, hsame, ce, hce, hO⟩ := X₁.ctorThrowS hexec htr (own := own) (cls := cls) (names := names) (ic := ic) hown' hcls hnames h (fun x hx => nomatch hx) hfX hkX hcellA (by rw [hhp, hT]; exact Nat.le_refl _) (msg := .ref sa) rfl
    (g := { method := m, pc := pc + 7, locals := ls, stack := .ref sa :: .ref T.heap.size :: .ref T.heap.size :: rest, locked := none }) rfl hsize rfl rfl (rest := rest) rfl
    (by rw [hb]; exact d7) (by rw [hb]; exact d10) hout hRframes (by simp only [List.map_cons, List.sum_cons, hcat]; omega) hlocks
  obtain ⟨f1, f2⟩ := vx_frame hsame
  rw [hhp] at f1 f2
  have hWs : s.WarmedH U.vm := State.WarmedH.trans hW0 hW
  have hcl : s.vm.findClass cls = some ce.cls := by
    have h9 := hO.cls
    rw [hvm] at h9
    exact h9
  have hall : s.sameButNew ({ U with vm := s.vm } : State) locs mc ms := by
    subst hA
    obtain ⟨e1, e2⟩ := hsame
    rw [State.setFrames_setFrames] at e1
    have h2 : (T.setVm s.vm).sameButNew ({ U with vm := s.vm } : State) [] (0 + 1) (0 + 6) := ⟨e1, e2⟩
    have h3 := X.same.trans h2
    rw [List.append_nil] at h3
    exact h3.mono hc hs
  refine ⟨U, ?_, .threw T.heap.size, hrun, hend, Or.inr ⟨T.heap.size, rfl, cls, ce, locs, hx U hWs.alike f1 (fun q hq => f2 q hq (fun z hz => nomatch hz)), hce, hO.vm, hcl, hWs, hall, hf⟩⟩
  refine st1 _ ?_
  show Steps p.tables e below (T1.setTop { method := m, pc := pc + 3, locals := ls, stack := .ref T.heap.size :: rest, locked := none }) _
  jvm_step X₁.here [X₁.here.top, hexec, d3', Value.category]
  exact X₁.ldcStringW hexec (own := own) (text := text) (index := is) (a := sa) hown' hstr'.1 hstr'.2
    (g := { method := m, pc := pc + 4, locals := ls, stack := .ref T.heap.size :: .ref T.heap.size :: rest, locked := none }) rfl d4' _ hsteps
end Ends
section Bodies
variable {l : Launch}
theorem vx_ofW {y : MethodName} {ws ws' : List Cond} {rm : Room} {Pc : Array Value → State → Prop} {Qc : Array Value → State → Outcome → State → Prop} {XC : String → State → State → Prop} {mc ms : Nat} {free : Addr → Prop} {cc : ByteArray} {maxL : Nat} {ret : Option FieldType}
    (hy : plainName y.cls = true) (hw : ws = Cond.code y cc maxL ret :: ws')
    (body : ∀ p e s m args below meth c s₁, BodyLoose p l y (headSpec ws rm) cc maxL ret e s m args below meth c s₁ → c.maxLocals = maxL → (∀ x ∈ c.exceptionTable.toList, False) → Pc args s →
      W p l e (headSpec ws rm).room s m args below meth c s.heap [] 0 0 (vx_MQ below Qc XC args s mc ms free) (entryFrame m args maxL)) : vx_Met l y ws rm Pc Qc XC mc ms free := by
  refine MetFree.of_bodyS (code := cc) (maxLocals := maxL) (ret := ret) hy ?_ ?_
  · intro args s m h hn
    obtain ⟨meth, c, h1, h2, h3, h4, h5, h6, -, -⟩ := Cond.code_spec hn (atoms_spec (ws := ws) h _ (by rw [hw]; exact List.mem_cons_self))
    exact ⟨meth, c, h1, h2, h3, h4, h5, h6⟩
  · intro p e s m args below meth c s₁ B hml hP _
    have hh0 : s₁.heap = s.heap := by rw [B.state]; rfl
    have ht : ∀ x ∈ c.exceptionTable.toList, False := by
      obtain ⟨meth9, c9, h1, h2, -, -, -, -, h7, -⟩ := Cond.code_spec B.named (atoms_spec (ws := ws) B.pre _ (by rw [hw]; exact List.mem_cons_self))
      cases Option.some.inj (h1.symm.trans B.method)
      cases Option.some.inj (h2.symm.trans (Stand.of_body B).code)
      intro x hx
      rw [Array.isEmpty_iff.mp h7] at hx
      cases hx
    obtain ⟨t, a1, o, b1, b2, b3⟩ := body p e s m args below meth c s₁ B hml ht hP s₁ hh0 (Stand.of_body B)
    exact ⟨t, o, a1, b1, b2, b3⟩
/-- the table of a body with handlers -/
theorem vx_table {p : Program} {x y : MethodName} {S : Spec} {cc bytes : ByteArray} {maxL maxL' : Nat} {ret ret' : Option FieldType} {e : Env} {s s₁ : State} {m : MethodId} {args : Array Value} {below : List Frame} {meth : Method} {c : Code} {hh : List (Nat × Nat × Nat × Nat)}
    (B : BodyLoose p l y S cc maxL ret e s m args below meth c s₁) (h : (Cond.codeWith y bytes maxL' ret' hh).before args s = true) : c.exceptionTable.toList = tableOf hh := by
  obtain ⟨m9, meth9, c9, hn9, h1, h2, -, -, h6, -⟩ := Cond.codeWith_spec h
  cases Option.some.inj (hn9.symm.trans B.named)
  cases Option.some.inj (h1.symm.trans B.method)
  cases Option.some.inj (h2.symm.trans (Stand.of_body B).code)
  rw [← h6, table_eq]
end Bodies
end VXA
/-! ===== END ===== -/
/-! ===== BEGIN a static call of a method with an exception table ===== -/
section VXS
variable {p : Program} {l : Launch} {e : Env} {R : Room} {s : State} {m : MethodId} {args : Array Value} {below : List Frame} {meth : Method} {c : Code} {T : State} {H : Heap} {locs : List Loc} {cells slots : Nat}
abbrev vx_CSW (R : Room) (s : State) (args : Array Value) (own : String) (index : Nat) (y : MethodName) (bytes : ByteArray) (maxL : Nat) (ret : Option FieldType) (hh : List (Nat × Nat × Nat × Nat)) (ws : List Cond) (rm : Room) (mc ms n : Nat) : Prop :=
  (rm.cells = mc ∧ rm.slots = ms ∧ rm.frames + 1 ≤ R.frames ∧ 8 + (maxL + 11) + rm.locals ≤ R.locals ∧ (∀ w ∈ ws, ∀ (a' : Array Value) (U : State), s.WarmedH U.vm → w.before a' U = true) ∧ Cond.codeWith y bytes maxL ret hh ∈ ws) ∧
  (Cond.codeWith y bytes maxL ret hh).before args s = true ∧ (Cond.initialized y.cls).before args s = true ∧ (y.cls ≠ "java/lang/invoke/MethodHandle" ∧ y.cls ≠ "java/lang/invoke/VarHandle") ∧
  (∀ sig, parseMethodDescriptor y.desc = some sig → n = sig.parameters.length) ∧ (Cond.methodLink own index y).before args s = true ∧ (Cond.static y).before args s = true
theorem vx_cwSW {own : String} {index maxL mc ms : Nat} {y : MethodName} {bytes : ByteArray} {ret : Option FieldType} {hh : List (Nat × Nat × Nat × Nat)} {Ts ws ws' : List Cond} {rm : Room} (n : Nat) (ht : ∀ w ∈ Ts, w.before args s = true) (hT : GoodIn Ts (va_wsS own index y ws)) (hw : ws = Cond.codeWith y bytes maxL ret hh :: ws') (hrc : rm.cells = mc) (hrs : rm.slots = ms)
    (hd : y.cls ≠ "java/lang/invoke/MethodHandle" ∧ y.cls ≠ "java/lang/invoke/VarHandle" ∧ (parseMethodDescriptor y.desc).map (fun d => d.parameters.length) = some n) (hR : rm.frames + 1 ≤ R.frames ∧ 8 + (maxL + 11) + rm.locals ≤ R.locals) :
    vx_CSW R s args own index y bytes maxL ret hh ws rm mc ms n := by
  have ok : ∀ w ∈ va_wsS own index y ws, w.before args s = true := fun w h => ht w (hT w h).1
  have hG : GoodIn Ts ws := fun w h => hT w (by unfold va_wsS; exact List.mem_append_right _ h)
  have hc : Cond.codeWith y bytes maxL ret hh ∈ ws := by rw [hw]; exact List.mem_cons_self
  refine ⟨⟨hrc, hrs, hR.1, hR.2, pay_in ht hG, hc⟩, ht _ (hG _ hc).1, ok _ (by simp [va_wsS]), ⟨hd.1, hd.2.1⟩, fun sig h => ?_, ok _ (by simp [va_wsS]), ok _ (by simp [va_wsS])⟩
  have h2 := hd.2.2
  rw [h] at h2
  exact (Option.some.inj h2).symm
theorem vx_callSW (X : Stand p l e R s m args below meth c T locs cells slots) (hexec : p.tables.exec = Jvm.exec) {own : String} {index : Nat} {y : MethodName} {bytes : ByteArray} {maxL : Nat} {ret : Option FieldType} {hh : List (Nat × Nat × Nat × Nat)}
    (hown : s.vm.findClass own = some m.cls) (hlink : (Cond.methodLink own index y).before args s = true) (hstat : (Cond.static y).before args s = true) (hinit : (Cond.initialized y.cls).before args s = true)
    (hcode : (Cond.codeWith y bytes maxL ret hh).before args s = true) (hy : y.cls ≠ "java/lang/invoke/MethodHandle" ∧ y.cls ≠ "java/lang/invoke/VarHandle")
    {W9 : Nat} {Pre : Pt → Array Value → Prop} {Post : Pt → Array Value → Option Value → Pt → Prop} (hK : Back l R p e below s args y 3 W9 Pre Post)
    {g : JFrame} (hg : g.method = m) (hsize : g.locals.size = c.maxLocals) {argsL rest : List Value} (hlen : ∀ sig, parseMethodDescriptor y.desc = some sig → argsL.length = sig.parameters.length)
    (hstack : g.stack = argsL.reverse ++ rest) (hW : 2 * g.monitorRoom + (rest.map fun v => v.category).sum ≤ W9) (hdg : decode c.code g.pc = .ok (.invokestatic index, 3))
    (hpre : ∀ vm₁, s.WarmedH vm₁ → Pre ⟨T.setVm vm₁, locs, cells, slots⟩ argsL.toArray) :
    ∃ (v : Option Value) (vm₁ : Vm) (B : Pt), s.WarmedH vm₁ ∧ Stand p l e R s m args below meth c B.U B.locs B.cells B.slots ∧ Post ⟨T.setVm vm₁, locs, cells, slots⟩ argsL.toArray v B ∧
      ∀ target, Steps p.tables e below (B.U.setTop { g with pc := g.pc + 3, stack := v.toList ++ rest }) target → Steps p.tables e below (T.setTop g) target := by
  obtain ⟨mk, methM, cM, hnamed, hmethM, -, -, -, -, -, -, hsigM⟩ := Cond.codeWith_spec hcode
  have hstatic : methM.isStatic = true := Cond.static_spec hnamed hmethM hstat
  obtain ⟨kP, hkP, -⟩ := className_of_methodNamed hnamed
  have hinitP : kP.init = .initialized := Cond.initialized_spec (findClass_of_methodNamed hnamed) hkP hinit
  obtain ⟨vm₁, X₁, hstep₁⟩ := X.invokestatic hexec hown hlink hnamed hmethM hstatic hkP hinitP hy (g := g) hg (argsL := argsL) (rest := rest) (hlen _ hsigM) hstack hdg
  obtain ⟨v, B, X', hpost, hsteps⟩ := hK m meth c ⟨T.setVm vm₁, locs, cells, slots⟩ { g with stack := rest } (.invokestatic index) mk argsL.toArray X₁ hg hsize hdg hW (X₁.named hnamed) (hpre vm₁ X₁.warmed)
  exact ⟨v, vm₁, B, X₁.warmed, X', hpost, fun target h => hstep₁ _ fun acts => by rw [doInvoke_state]; exact hsteps.trans h⟩
theorem vx_runSW {y : MethodName} {bytes cc : ByteArray} {maxL nL mc ms n index : Nat} {ret : Option FieldType} {hh : List (Nat × Nat × Nat × Nat)} {ws : List Cond} {rm : Room} {Pc : Array Value → State → Prop} {Qc : Array Value → State → Outcome → State → Prop} {free : Addr → Prop} {Ts : List Cond} {own : String} {As rest : List Value} {g : JFrame}
    (S : CallFix p m c cc nL s args Ts own) (hM : Met l y ws rm Pc Qc mc ms free) (cw : vx_CSW R s args own index y bytes maxL ret hh ws rm mc ms n) (hp : PreS s H Pc As)
    (hg : g.method = m) (hn : As.length = n) (hsize : g.locals.size = nL) (hstack : g.stack = As.reverse ++ rest) (hW : 2 * g.monitorRoom + (rest.map fun v => v.category).sum ≤ 8) (hdg : decode cc g.pc = .ok (.invokestatic index, 3)) (hf : cells + mc ≤ R.cells ∧ slots + ms ≤ R.slots) :
    va_Run p l e R s m args below meth c H locs cells slots mc ms g rest (Qc As.toArray) (free) := by
  obtain ⟨⟨hrc, hrs, hfr, hlo, hws, hcw⟩, hcode, hini, hy, hlen, hl, hstt⟩ := cw
  have hK : Back l R p e below s args y 3 8 (PreOf R mc ms Pc) (PostOf Qc mc ms free) := va_backW (hh := hh) (bytes := bytes) (maxL := maxL) (ret := ret) hM hp.1 hrc hrs hfr hlo hws hcw (fun a' U hW => word_at hW (Or.inl (by first | rfl | simp [Cond.onTables, Cond.keeps, Cond.steady])) hini)
  obtain ⟨hx, hb, hml, ho, -⟩ := S
  intro T hT X
  obtain ⟨v, vm₁, ⟨U', l2, c2, s2⟩, hW₁, X', ⟨g', mk, t, L, e1, e2, hq, h1, hL, h2, h3⟩, st⟩ := vx_callSW X hx (hh := hh) (bytes := bytes) (maxL := maxL) (ret := ret) ho hl hstt hini hcode hy hK hg (hsize.trans hml.symm) (argsL := As) (rest := rest) (fun sig h => hn.trans (hlen sig h)) hstack hW (by rw [hb]; exact hdg)
    (fun vm₁ hW₁ => ⟨hf.1, hf.2, hp.2 (T.setVm vm₁) hT hW₁⟩)
  dsimp only [Pt.U, Pt.locs, Pt.cells, Pt.slots] at X' e1 e2 h1 h2 h3 st
  subst h1; subst h2; subst h3
  exact ⟨v, (T.setVm vm₁).calling g' mk As.toArray, t, U', L, hT, X', hL, e1, e2, hq, st⟩
/-- not caught here, past rows that name other classes: it goes on to the caller -/
theorem vx_outP {p : Program} {l : Launch} {e : Env} {R : Room} {s : State} {m : MethodId} {args : Array Value} {below : List Frame} {meth : Method} {c : Code} {H : Heap} {locs : List Loc} {cells slots : Nat} {free : Addr → Prop} {ls : Array Slot} {rest : List Value} {Qc : Array Value → State → Outcome → State → Prop} {XC : String → State → State → Prop}
    {pc : Nat} {own E : String} {ce : Cell} {q : Addr} {mc ms : Nat} (hown : s.vm.findClass own = some m.cls) (hlocks : meth.locks = false)
    (hpass : ∀ z ∈ c.exceptionTable.toList, covers z pc = false ∨ (z.catchType ≠ 0 ∧ ∃ nm : String, (Cond.classLink own z.catchType nm).before args s = true ∧ va_Nc E nm s)) (hcell : H[q]? = some ce) (hv : ce.vm = .none) (hcl : s.vm.findClass E = some ce.cls)
    (hx : ∀ t : State, t.heap = H → s.vm.Alike t.vm → XC E s t) (hf : ∀ z ∈ locs, free z.base) (hc : cells ≤ mc) (hs : slots ≤ ms) :
    vx_W p l e R s m args below meth c H locs cells slots (vx_MQ below Qc XC args s mc ms free) (F0 m pc ls rest) q := by
  intro T hT X
  have hpl : e.platform.magicAccessors = ({} : Platform).magicAccessors := by rw [X.admits.platform]
  obtain ⟨vm', hW', X', st⟩ := X.outThrough hlocks q (g := F0 m pc ls rest) rfl rfl rfl (cell := ce) (by rw [hT]; exact hcell) (by rw [hv]; rfl)
    (by obtain ⟨k9, h9, -⟩ := Vm.findClass_spec hcl; exact ⟨k9, h9⟩) (fun z hz => by
      rcases hpass z hz with h | ⟨hz0, nm, hl1, hn1⟩
      · exact Or.inl h
      · obtain ⟨c6, hc6, hcl6⟩ := Cond.classLink_spec hown hl1 e.platform hpl
        obtain ⟨a8, b8, h1, h2, h3⟩ := hn1
        cases Option.some.inj (h1.symm.trans hcl)
        cases Option.some.inj (h2.symm.trans hc6)
        exact Or.inr ⟨hz0, _, hcl6, h3⟩)
  obtain ⟨g₀, hfr⟩ := X'.frames_eq
  have hcell9 : ((T.setVm vm').setFrames (.throwing q :: below)).heap[q]? = some ce := by
    show T.heap[q]? = some ce
    rw [hT]; exact hcell
  have hend : Ended ((T.setVm vm').setFrames (.throwing q :: below)) below (.threw q) := State.frames_setFrames _ (State.cur_lt_of_frames hfr)
  refine ⟨(T.setVm vm').setFrames (.throwing q :: below), ?_, .threw q, X'.here.running, hend, Or.inr ⟨q, rfl, E, ce, locs, hx _ hT (X'.ends _).1.alike, hcell9, hv, hcl, (X'.ends _).1, (X'.ends _).2.mono hc hs, hf⟩⟩
  rw [X.pushThrowing_eq]
  exact st
/-- a thing of a world lies in the heap -/
theorem vx_lt {D : va_G} {cl : List vw_C} {ws : va_W} {H1 : Heap} (h : va_P D cl ws H1) {k : Nat} {q : Nat × va_E} (hk : ws[k]? = some q) : q.1 < H1.size := (h k q hk).lt
end VXS
/-! ===== END ===== -/
/-! ===== BEGIN methods with a table of their own: called by a name, returning or throwing ===== -/
section VXH
/-! vx_backW, vx_callVX, vx_callSX, vx_callVW, vx_runVW, vx_runVX, vx_runSX, vx_ofWH follow the same proofs as their sisters above (Free/Laws.lean, Shelf42/LK1.lean); vx_outP calls Shelf42/NT130.lean (outThrough). -/
section
variable {l : Launch} {R : Room} {p : Program} {e : Env} {below : List Frame} {s : State} {sargs : Array Value} {y : MethodName} {len W9 : Nat}
theorem vx_backW {ws : List Cond} {rm : Room} {Pc : Array Value → State → Prop} {Qc : Array Value → State → Outcome → State → Prop} {XC : String → State → State → Prop} {mc ms : Nat} {free : Addr → Prop} {bytes : ByteArray} {maxL : Nat} {ret : Option FieldType} {hh : List (Nat × Nat × Nat × Nat)}
    (hM : vx_Met l y ws rm Pc Qc XC mc ms free) (hblind : FrameBlind Pc) (hrc : rm.cells = mc) (hrs : rm.slots = ms)
    (hframes : rm.frames + 1 ≤ R.frames) (hlocals : W9 + (maxL + 11) + rm.locals ≤ R.locals)
    (hws : ∀ w ∈ ws, ∀ a' U, s.WarmedH U.vm → w.before a' U = true) (hcode : Cond.codeWith y bytes maxL ret hh ∈ ws) (hinit : ∀ a' U, s.WarmedH U.vm → (Cond.initialized y.cls).before a' U = true) :
    vx_Back l R p e below s sargs y len W9 (PreOf R mc ms Pc) (PostOf Qc mc ms free) (vx_Post XC mc ms free) := by
  intro m meth c A g ig mk a X hg hsize hdg hW hn hp
  have h1 : (headSpec ws rm).pre.before a A.U = true := atoms_intro fun w hw => hws w hw _ _ X.warmed
  have h2 : (Cond.codeWith y bytes maxL ret hh).before a A.U = true := hws _ hcode _ _ X.warmed
  have h3 : (Cond.initialized y.cls).before a A.U = true := hinit _ _ X.warmed
  have h4 : A.cells + (headSpec ws rm).room.cells ≤ R.cells := by rw [show (headSpec ws rm).room.cells = mc from hrc]; exact hp.1
  have h5 : A.slots + (headSpec ws rm).room.slots ≤ R.slots := by rw [show (headSpec ws rm).room.slots = ms from hrs]; exact hp.2.1
  have hPc : Pc a (A.U.calling g mk a) := hblind _ _ _ _ hp.2.2
  obtain ⟨U, Ls, c0, s0⟩ := A
  dsimp only [Pt.U, Pt.locs, Pt.cells, Pt.slots] at h1 h2 h3 h4 h5 X hn hPc ⊢
  obtain ⟨m9, methY, cY, hn9, hmY, hcY, -, hlY, -⟩ := Cond.codeWith_spec h2
  cases Option.some.inj (hn9.symm.trans hn)
  obtain ⟨kY, hkY, -⟩ := className_of_methodNamed hn
  have hinitY : kY.init = .initialized := Cond.initialized_spec (findClass_of_methodNamed hn) hkY h3
  have h : At U g.method c below := by rw [hg]; exact X.here
  have hlocals9 : W9 + (maxL + 11) + (headSpec ws rm).room.locals ≤ R.locals := hlocals
  have happ : (headSpec ws rm).appliesLoose y e.platform (U.calling g mk a) = true :=
    Spec.appliesLoose_calling (g := g) h hdg hn hkY hinitY
      (X.room_calling (g := g) (R' := (headSpec ws rm).room) hsize hmY hcY hframes (by rw [hlY]; omega) h4 h5) h1
  obtain ⟨mid, hmid⟩ := h.above
  have hfr : (U.setTop g).frames = (.java g :: mid) ++ below := by rw [State.frames_setTop' g h.top, hmid]; rfl
  obtain ⟨o, s₂, hsteps, -, hend, hq⟩ := Steps.callFree hM p X.admits X.cas X.clock (acts := []) hfr happ hPc trivial
  have hq' : vx_Q Qc XC mc ms free a (U.calling g mk a) o s₂ := hq
  rw [State.frames_setTop' g h.top] at hend
  obtain ⟨g₀, hg0⟩ := Option.isSome_iff_exists.mp h.top
  obtain ⟨r, hr⟩ := State.topJava?_eq_some.mp hg0
  have hr' : (({ U with heap := s₂.heap, slotsUsed := s₂.slotsUsed } : State).setVm s₂.vm).frames = .java g₀ :: r := hr
  rcases hq' with ⟨hqc, L, hfe, hL⟩ | ⟨q, rfl, E, ce, L, hx, hce, hcv, hcl, hW₂, hsm, hL⟩
  · obtain ⟨⟨v, rfl⟩, hW₂, e2, q2, q3, q4, q5, q6⟩ := id hfe
    have e3 : s₂ = ({ (U.calling g mk a).setFrames s₂.frames with heap := s₂.heap, slotsUsed := s₂.slotsUsed } : State).setVm s₂.vm := by
      have : s₂ = ({ s₂ with vm := (U.calling g mk a).vm } : State).setVm s₂.vm := rfl
      rw [e2] at this
      exact this
    obtain ⟨c₂, i₂, len₂, hc₂, hd₂, hf₂⟩ := hend
    have hW' : U.WarmedH s₂.vm := hW₂
    have hcc : c₂ = c := by
      have h1 : s₂.code? g.method = U.code? g.method := by
        rw [State.code?_eq, State.code?_eq, hW'.alike.method?]
      exact Option.some.inj (hc₂.symm.trans (h1.trans h.code))
    subst hcc
    have hlen : len₂ = len := by rw [hdg] at hd₂; cases hd₂; rfl
    subst hlen
    have hs₂ : s₂ = (({ U with heap := s₂.heap, slotsUsed := s₂.slotsUsed } : State).setVm s₂.vm).setTop { g with pc := g.pc + len₂, stack := v.toList ++ g.stack } := by
      refine e3.trans ?_
      rw [hf₂, State.calling_eq h.top, State.setFrames_setFrames, State.setTop_of_frames _ hr', hr]
      rfl
    have hsame : U.sameButNew ({ U with heap := s₂.heap, slotsUsed := s₂.slotsUsed } : State) L mc ms := by
      refine ⟨?_, q2, q3, q4, q5, q6⟩
      obtain ⟨t, ht, -⟩ := State.frames_cons hr
      show ({ U with heap := s₂.heap, slotsUsed := s₂.slotsUsed } : State) = { U.setFrames U.frames with heap := s₂.heap, slotsUsed := s₂.slotsUsed }
      rw [State.setFrames_self ht]
    subst hg
    refine Or.inl ⟨v, ⟨(({ U with heap := s₂.heap, slotsUsed := s₂.slotsUsed } : State).setVm s₂.vm), Ls ++ L, c0 + mc, s0 + ms⟩,
      ⟨X.admits, X.cas, X.clock, X.frames, X.room, X.hears, X.method, X.code, (X.here.setHeapUsed s₂.heap s₂.slotsUsed).setVm hW'.alike, X.tail, State.WarmedH.trans X.warmed hW', X.limits, X.bytes, X.same.trans (hsame.setVm s.vm)⟩,
      ⟨g, mk, s₂, L, rfl, rfl, hqc, rfl, hL, rfl, rfl⟩, ?_⟩
    show Steps p.tables e below _ ((({ U with heap := s₂.heap, slotsUsed := s₂.slotsUsed } : State).setVm s₂.vm).setTop { g with pc := g.pc + len₂, stack := v.toList ++ g.stack })
    rw [← hs₂]
    exact hsteps
  · obtain ⟨e2, q2, q3, q4, q5, q6⟩ := id hsm
    have e3 : s₂ = ({ (U.calling g mk a).setFrames s₂.frames with heap := s₂.heap, slotsUsed := s₂.slotsUsed } : State).setVm s₂.vm := by
      have : s₂ = ({ s₂ with vm := (U.calling g mk a).vm } : State).setVm s₂.vm := rfl
      rw [e2] at this
      exact this
    have hf₂ : s₂.frames = .throwing q :: .java g :: U.frames.tail := hend
    have hW' : U.WarmedH s₂.vm := hW₂
    have hs₂ : s₂ = ((({ U with heap := s₂.heap, slotsUsed := s₂.slotsUsed } : State).setVm s₂.vm).setTop g).pushFrame (.throwing q) := by
      refine e3.trans ?_
      rw [hf₂, State.calling_eq h.top, State.setFrames_setFrames, State.pushFrame, State.frames_setTop _ hr', State.setTop_of_frames _ hr', State.setFrames_setFrames, hr]
      rfl
    have hsame : U.sameButNew ({ U with heap := s₂.heap, slotsUsed := s₂.slotsUsed } : State) L mc ms := by
      refine ⟨?_, q2, q3, q4, q5, q6⟩
      obtain ⟨t, ht, -⟩ := State.frames_cons hr
      show ({ U with heap := s₂.heap, slotsUsed := s₂.slotsUsed } : State) = { U.setFrames U.frames with heap := s₂.heap, slotsUsed := s₂.slotsUsed }
      rw [State.setFrames_self ht]
    subst hg
    refine Or.inr ⟨q, ⟨(({ U with heap := s₂.heap, slotsUsed := s₂.slotsUsed } : State).setVm s₂.vm), Ls ++ L, c0 + mc, s0 + ms⟩,
      ⟨X.admits, X.cas, X.clock, X.frames, X.room, X.hears, X.method, X.code, (X.here.setHeapUsed s₂.heap s₂.slotsUsed).setVm hW'.alike, X.tail, State.WarmedH.trans X.warmed hW', X.limits, X.bytes, X.same.trans (hsame.setVm s.vm)⟩,
      ⟨g, mk, s₂, L, E, ce, rfl, rfl, hx, hce, hcv, hcl, rfl, hL, rfl, rfl⟩, ?_⟩
    show Steps p.tables e below _ (((({ U with heap := s₂.heap, slotsUsed := s₂.slotsUsed } : State).setVm s₂.vm).setTop g).pushFrame (.throwing q))
    rw [← hs₂]
    exact hsteps
end
variable {p : Program} {l : Launch} {e : Env} {R : Room} {s : State} {m : MethodId} {args : Array Value} {below : List Frame} {meth : Method} {c : Code} {T : State} {H : Heap} {locs : List Loc} {cells slots : Nat}
theorem vx_callVX (X : Stand p l e R s m args below meth c T locs cells slots) (hexec : p.tables.exec = Jvm.exec) {own C : String} {index : Nat} {y : MethodName} {bytes : ByteArray} {maxL : Nat} {ret : Option FieldType} {hh : List (Nat × Nat × Nat × Nat)}
    (hown : s.vm.findClass own = some m.cls) (hlink : (Cond.methodLink own index y).before args s = true) (hinst : (Cond.instanceMethod y).before args s = true) (hsel : (Cond.selects C y y).before args s = true)
    (hcode : (Cond.codeWith y bytes maxL ret hh).before args s = true) (hy : y.cls ≠ "java/lang/invoke/MethodHandle" ∧ y.cls ≠ "java/lang/invoke/VarHandle")
    {W9 : Nat} {Pre : Pt → Array Value → Prop} {Post : Pt → Array Value → Option Value → Pt → Prop} {PostX : Pt → Array Value → Addr → Pt → Prop} (hK : vx_Back l R p e below s args y 3 W9 Pre Post PostX)
    {b : Addr} {cellB : Cell} (hcell : T.heap[b]? = some cellB) (hobj : cellB.vm.isStatics = false) (hcls : s.vm.findClass C = some cellB.cls)
    {g : JFrame} (hg : g.method = m) (hsize : g.locals.size = c.maxLocals) {argsL rest : List Value} (hlen : ∀ sig, parseMethodDescriptor y.desc = some sig → argsL.length = sig.parameters.length)
    (hstack : g.stack = argsL.reverse ++ .ref b :: rest) (hW : 2 * g.monitorRoom + (rest.map fun v => v.category).sum ≤ W9) (hdg : decode c.code g.pc = .ok (.invokevirtual index, 3))
    (hpre : ∀ vm₁, s.WarmedH vm₁ → Pre ⟨T.setVm vm₁, locs, cells, slots⟩ (Value.ref b :: argsL).toArray) :
    (∃ (v : Option Value) (vm₁ : Vm) (B : Pt), s.WarmedH vm₁ ∧ Stand p l e R s m args below meth c B.U B.locs B.cells B.slots ∧ Post ⟨T.setVm vm₁, locs, cells, slots⟩ (Value.ref b :: argsL).toArray v B ∧
      ∀ target, Steps p.tables e below (B.U.setTop { g with pc := g.pc + 3, stack := v.toList ++ rest }) target → Steps p.tables e below (T.setTop g) target) ∨
    (∃ (q : Addr) (vm₁ : Vm) (B : Pt), s.WarmedH vm₁ ∧ Stand p l e R s m args below meth c B.U B.locs B.cells B.slots ∧ PostX ⟨T.setVm vm₁, locs, cells, slots⟩ (Value.ref b :: argsL).toArray q B ∧
      Steps p.tables e below (T.setTop g) ((B.U.setTop { g with stack := rest }).pushFrame (.throwing q))) := by
  obtain ⟨mk, methM, hnamed, hmethM, hstM, habM⟩ := Cond.instanceMethod_spec hinst
  obtain ⟨m8, methM', cM, hn8, hmethM', -, -, -, -, -, -, hsigM⟩ := Cond.codeWith_spec hcode
  cases Option.some.inj (hn8.symm.trans hnamed)
  cases hmethM.symm.trans hmethM'
  obtain ⟨c2, r2, m2, q1, q2, q3, q4, kP, hkP, hkPi⟩ := Cond.selects_spec hsel
  cases hcls.symm.trans q1
  cases (State.methodFound?_of_named hnamed hy).symm.trans q2
  cases hnamed.symm.trans q3
  have hselP : selectMethod e.platform s.vm cellB.cls mk = .method mk := by rw [Launch.admits_selectMethod X.admits]; exact q4
  obtain ⟨vm₁, X₁, hstep₁⟩ := X.invokevirtual hexec hown hlink hnamed hmethM hstM hkP hkPi hy (a := b) (cell := cellB) hcell
    (fun z h => by rw [h] at hobj; cases hobj) hselP hmethM habM hkP hkPi (g := g) hg (argsL := argsL) (rest := rest) (hlen _ hsigM) hstack hdg
  rcases hK m meth c ⟨T.setVm vm₁, locs, cells, slots⟩ { g with stack := rest } (.invokevirtual index) mk (Value.ref b :: argsL).toArray X₁ hg hsize hdg hW (X₁.named hnamed) (hpre vm₁ X₁.warmed) with ⟨v, B, X', hpost, hsteps⟩ | ⟨q, B, X', hpost, hsteps⟩
  · exact Or.inl ⟨v, vm₁, B, X₁.warmed, X', hpost, fun target h => hstep₁ _ fun acts => by rw [doInvoke_state]; exact hsteps.trans h⟩
  · exact Or.inr ⟨q, vm₁, B, X₁.warmed, X', hpost, hstep₁ _ fun acts => by rw [doInvoke_state]; exact hsteps⟩
theorem vx_callSX (X : Stand p l e R s m args below meth c T locs cells slots) (hexec : p.tables.exec = Jvm.exec) {own : String} {index : Nat} {y : MethodName} {bytes : ByteArray} {maxL : Nat} {ret : Option FieldType} {hh : List (Nat × Nat × Nat × Nat)}
    (hown : s.vm.findClass own = some m.cls) (hlink : (Cond.methodLink own index y).before args s = true) (hstat : (Cond.static y).before args s = true) (hinit : (Cond.initialized y.cls).before args s = true)
    (hcode : (Cond.codeWith y bytes maxL ret hh).before args s = true) (hy : y.cls ≠ "java/lang/invoke/MethodHandle" ∧ y.cls ≠ "java/lang/invoke/VarHandle")
    {W9 : Nat} {Pre : Pt → Array Value → Prop} {Post : Pt → Array Value → Option Value → Pt → Prop} {PostX : Pt → Array Value → Addr → Pt → Prop} (hK : vx_Back l R p e below s args y 3 W9 Pre Post PostX)
    {g : JFrame} (hg : g.method = m) (hsize : g.locals.size = c.maxLocals) {argsL rest : List Value} (hlen : ∀ sig, parseMethodDescriptor y.desc = some sig → argsL.length = sig.parameters.length)
    (hstack : g.stack = argsL.reverse ++ rest) (hW : 2 * g.monitorRoom + (rest.map fun v => v.category).sum ≤ W9) (hdg : decode c.code g.pc = .ok (.invokestatic index, 3))
    (hpre : ∀ vm₁, s.WarmedH vm₁ → Pre ⟨T.setVm vm₁, locs, cells, slots⟩ argsL.toArray) :
    (∃ (v : Option Value) (vm₁ : Vm) (B : Pt), s.WarmedH vm₁ ∧ Stand p l e R s m args below meth c B.U B.locs B.cells B.slots ∧ Post ⟨T.setVm vm₁, locs, cells, slots⟩ argsL.toArray v B ∧
      ∀ target, Steps p.tables e below (B.U.setTop { g with pc := g.pc + 3, stack := v.toList ++ rest }) target → Steps p.tables e below (T.setTop g) target) ∨
    (∃ (q : Addr) (vm₁ : Vm) (B : Pt), s.WarmedH vm₁ ∧ Stand p l e R s m args below meth c B.U B.locs B.cells B.slots ∧ PostX ⟨T.setVm vm₁, locs, cells, slots⟩ argsL.toArray q B ∧
      Steps p.tables e below (T.setTop g) ((B.U.setTop { g with stack := rest }).pushFrame (.throwing q))) := by
  obtain ⟨mk, methM, cM, hnamed, hmethM, -, -, -, -, -, -, hsigM⟩ := Cond.codeWith_spec hcode
  have hstatic : methM.isStatic = true := Cond.static_spec hnamed hmethM hstat
  obtain ⟨kP, hkP, -⟩ := className_of_methodNamed hnamed
  have hinitP : kP.init = .initialized := Cond.initialized_spec (findClass_of_methodNamed hnamed) hkP hinit
  obtain ⟨vm₁, X₁, hstep₁⟩ := X.invokestatic hexec hown hlink hnamed hmethM hstatic hkP hinitP hy (g := g) hg (argsL := argsL) (rest := rest) (hlen _ hsigM) hstack hdg
  rcases hK m meth c ⟨T.setVm vm₁, locs, cells, slots⟩ { g with stack := rest } (.invokestatic index) mk argsL.toArray X₁ hg hsize hdg hW (X₁.named hnamed) (hpre vm₁ X₁.warmed) with ⟨v, B, X', hpost, hsteps⟩ | ⟨q, B, X', hpost, hsteps⟩
  · exact Or.inl ⟨v, vm₁, B, X₁.warmed, X', hpost, fun target h => hstep₁ _ fun acts => by rw [doInvoke_state]; exact hsteps.trans h⟩
  · exact Or.inr ⟨q, vm₁, B, X₁.warmed, X', hpost, hstep₁ _ fun acts => by rw [doInvoke_state]; exact hsteps⟩
theorem vx_callVW (X : Stand p l e R s m args below meth c T locs cells slots) (hexec : p.tables.exec = Jvm.exec) {own C : String} {index : Nat} {y : MethodName} {bytes : ByteArray} {maxL : Nat} {ret : Option FieldType} {hh : List (Nat × Nat × Nat × Nat)}
    (hown : s.vm.findClass own = some m.cls) (hlink : (Cond.methodLink own index y).before args s = true) (hinst : (Cond.instanceMethod y).before args s = true) (hsel : (Cond.selects C y y).before args s = true)
    (hcode : (Cond.codeWith y bytes maxL ret hh).before args s = true) (hy : y.cls ≠ "java/lang/invoke/MethodHandle" ∧ y.cls ≠ "java/lang/invoke/VarHandle")
    {W9 : Nat} {Pre : Pt → Array Value → Prop} {Post : Pt → Array Value → Option Value → Pt → Prop} (hK : Back l R p e below s args y 3 W9 Pre Post)
    {b : Addr} {cellB : Cell} (hcell : T.heap[b]? = some cellB) (hobj : cellB.vm.isStatics = false) (hcls : s.vm.findClass C = some cellB.cls)
    {g : JFrame} (hg : g.method = m) (hsize : g.locals.size = c.maxLocals) {argsL rest : List Value} (hlen : ∀ sig, parseMethodDescriptor y.desc = some sig → argsL.length = sig.parameters.length)
    (hstack : g.stack = argsL.reverse ++ .ref b :: rest) (hW : 2 * g.monitorRoom + (rest.map fun v => v.category).sum ≤ W9) (hdg : decode c.code g.pc = .ok (.invokevirtual index, 3))
    (hpre : ∀ vm₁, s.WarmedH vm₁ → Pre ⟨T.setVm vm₁, locs, cells, slots⟩ (Value.ref b :: argsL).toArray) :
    ∃ (v : Option Value) (vm₁ : Vm) (B : Pt), s.WarmedH vm₁ ∧ Stand p l e R s m args below meth c B.U B.locs B.cells B.slots ∧ Post ⟨T.setVm vm₁, locs, cells, slots⟩ (Value.ref b :: argsL).toArray v B ∧
      ∀ target, Steps p.tables e below (B.U.setTop { g with pc := g.pc + 3, stack := v.toList ++ rest }) target → Steps p.tables e below (T.setTop g) target := by
  obtain ⟨mk, methM, hnamed, hmethM, hstM, habM⟩ := Cond.instanceMethod_spec hinst
  obtain ⟨m8, methM', cM, hn8, hmethM', -, -, -, -, -, -, hsigM⟩ := Cond.codeWith_spec hcode
  cases Option.some.inj (hn8.symm.trans hnamed)
  cases hmethM.symm.trans hmethM'
  obtain ⟨c2, r2, m2, q1, q2, q3, q4, kP, hkP, hkPi⟩ := Cond.selects_spec hsel
  cases hcls.symm.trans q1
  cases (State.methodFound?_of_named hnamed hy).symm.trans q2
  cases hnamed.symm.trans q3
  have hselP : selectMethod e.platform s.vm cellB.cls mk = .method mk := by rw [Launch.admits_selectMethod X.admits]; exact q4
  obtain ⟨vm₁, X₁, hstep₁⟩ := X.invokevirtual hexec hown hlink hnamed hmethM hstM hkP hkPi hy (a := b) (cell := cellB) hcell
    (fun z h => by rw [h] at hobj; cases hobj) hselP hmethM habM hkP hkPi (g := g) hg (argsL := argsL) (rest := rest) (hlen _ hsigM) hstack hdg
  obtain ⟨v, B, X', hpost, hsteps⟩ := hK m meth c ⟨T.setVm vm₁, locs, cells, slots⟩ { g with stack := rest } (.invokevirtual index) mk (Value.ref b :: argsL).toArray X₁ hg hsize hdg hW (X₁.named hnamed) (hpre vm₁ X₁.warmed)
  exact ⟨v, vm₁, B, X₁.warmed, X', hpost, fun target h => hstep₁ _ fun acts => by rw [doInvoke_state]; exact hsteps.trans h⟩
abbrev vx_CVW (R : Room) (s : State) (args : Array Value) (own C : String) (index : Nat) (y : MethodName) (bytes : ByteArray) (maxL : Nat) (ret : Option FieldType) (hh : List (Nat × Nat × Nat × Nat)) (ws : List Cond) (rm : Room) (mc ms n : Nat) : Prop :=
  (rm.cells = mc ∧ rm.slots = ms ∧ rm.frames + 1 ≤ R.frames ∧ 8 + (maxL + 11) + rm.locals ≤ R.locals ∧ (∀ w ∈ ws, ∀ (a' : Array Value) (U : State), s.WarmedH U.vm → w.before a' U = true) ∧ Cond.codeWith y bytes maxL ret hh ∈ ws) ∧
  (Cond.codeWith y bytes maxL ret hh).before args s = true ∧ (Cond.initialized y.cls).before args s = true ∧ (y.cls ≠ "java/lang/invoke/MethodHandle" ∧ y.cls ≠ "java/lang/invoke/VarHandle") ∧
  (∀ sig, parseMethodDescriptor y.desc = some sig → n = sig.parameters.length) ∧ (Cond.methodLink own index y).before args s = true ∧ (Cond.instanceMethod y).before args s = true ∧ (Cond.selects C y y).before args s = true
theorem vx_cwVW {own C : String} {index maxL mc ms : Nat} {y : MethodName} {bytes : ByteArray} {ret : Option FieldType} {hh : List (Nat × Nat × Nat × Nat)} {Ts ws ws' : List Cond} {rm : Room} (n : Nat) (ht : ∀ w ∈ Ts, w.before args s = true) (hT : GoodIn Ts (wsV own index C y ws)) (hw : ws = Cond.codeWith y bytes maxL ret hh :: ws') (hrc : rm.cells = mc) (hrs : rm.slots = ms)
    (hd : y.cls = C ∧ y.cls ≠ "java/lang/invoke/MethodHandle" ∧ y.cls ≠ "java/lang/invoke/VarHandle" ∧ (parseMethodDescriptor y.desc).map (fun d => d.parameters.length) = some n) (hR : rm.frames + 1 ≤ R.frames ∧ 8 + (maxL + 11) + rm.locals ≤ R.locals) :
    vx_CVW R s args own C index y bytes maxL ret hh ws rm mc ms n := by
  obtain ⟨hC, hd⟩ := hd
  subst hC
  have ok : ∀ w ∈ wsV own index y.cls y ws, w.before args s = true := fun w h => ht w (hT w h).1
  have hG : GoodIn Ts ws := fun w h => hT w (by unfold wsV; exact List.mem_append_right _ h)
  have hc : Cond.codeWith y bytes maxL ret hh ∈ ws := by rw [hw]; exact List.mem_cons_self
  refine ⟨⟨hrc, hrs, hR.1, hR.2, pay_in ht hG, hc⟩, ht _ (hG _ hc).1, ok _ (by simp [wsV]), ⟨hd.1, hd.2.1⟩, fun sig h => ?_, ok _ (by simp [wsV]), ok _ (by simp [wsV]), ok _ (by simp [wsV])⟩
  have h2 := hd.2.2
  rw [h] at h2
  exact (Option.some.inj h2).symm
theorem vx_runVW {y : MethodName} {bytes cc : ByteArray} {maxL nL mc ms n index : Nat} {ret : Option FieldType} {hh : List (Nat × Nat × Nat × Nat)} {ws : List Cond} {rm : Room} {Pc : Array Value → State → Prop} {Qc : Array Value → State → Outcome → State → Prop} {free : Addr → Prop} {Ts : List Cond} {own C : String} {b : Addr} {As rest : List Value} {g : JFrame}
    (S : CallFix p m c cc nL s args Ts own) (hM : Met l y ws rm Pc Qc mc ms free) (cw : vx_CVW R s args own C index y bytes maxL ret hh ws rm mc ms n) (hp : PreV s H C b Pc As)
    (hg : g.method = m) (hn : As.length = n) (hsize : g.locals.size = nL) (hstack : g.stack = As.reverse ++ .ref b :: rest) (hW : 2 * g.monitorRoom + (rest.map fun v => v.category).sum ≤ 8) (hdg : decode cc g.pc = .ok (.invokevirtual index, 3)) (hf : cells + mc ≤ R.cells ∧ slots + ms ≤ R.slots) :
    va_Run p l e R s m args below meth c H locs cells slots mc ms g rest (Qc (Value.ref b :: As).toArray) free := by
  obtain ⟨⟨hrc, hrs, hfr, hlo, hws, hcw⟩, hcode, hini, hy, hlen, hl, hin, hse⟩ := cw
  have hK : Back l R p e below s args y 3 8 (PreOf R mc ms Pc) (PostOf Qc mc ms free) := va_backW (hh := hh) (bytes := bytes) (maxL := maxL) (ret := ret) hM hp.1 hrc hrs hfr hlo hws hcw (fun a' U hW => word_at hW (Or.inl (by first | rfl | simp [Cond.onTables, Cond.keeps, Cond.steady])) hini)
  obtain ⟨hx, hb, hml, ho, -⟩ := S
  obtain ⟨-, ⟨cellB, hcB, hoB, hclB⟩, hPc⟩ := hp
  intro T hT X
  obtain ⟨v, vm₁, ⟨U', l2, c2, s2⟩, hW₁, X', ⟨g', mk, t, L, e1, e2, hq, h1, hL, h2, h3⟩, st⟩ := vx_callVW X hx (C := C) (hh := hh) (bytes := bytes) (maxL := maxL) (ret := ret) ho hl hin hse hcode hy hK (by rw [hT]; exact hcB) hoB hclB hg (hsize.trans hml.symm) (argsL := As) (rest := rest) (fun sig h => hn.trans (hlen sig h)) hstack hW (by rw [hb]; exact hdg)
    (fun vm₁ hW₁ => ⟨hf.1, hf.2, hPc (T.setVm vm₁) hT hW₁⟩)
  dsimp only [Pt.U, Pt.locs, Pt.cells, Pt.slots] at X' e1 e2 h1 h2 h3 st
  subst h1; subst h2; subst h3
  exact ⟨v, (T.setVm vm₁).calling g' mk (Value.ref b :: As).toArray, t, U', L, hT, X', hL, e1, e2, hq, st⟩
section
variable {y : MethodName} {bytes cc : ByteArray} {maxL nL mc ms n index : Nat} {ret : Option FieldType} {ws : List Cond} {rm : Room} {Pc : Array Value → State → Prop} {Qc : Array Value → State → Outcome → State → Prop} {XC : String → State → State → Prop} {free : Addr → Prop} {Ts : List Cond} {own C : String} {b : Addr} {As rest : List Value} {g : JFrame}
theorem vx_runVX {hh : List (Nat × Nat × Nat × Nat)} (S : CallFix p m c cc nL s args Ts own) (hM : vx_Met l y ws rm Pc Qc XC mc ms free) (cw : vx_CVW R s args own C index y bytes maxL ret hh ws rm mc ms n) (hp : PreV s H C b Pc As)
    (hg : g.method = m) (hn : As.length = n) (hsize : g.locals.size = nL) (hstack : g.stack = As.reverse ++ .ref b :: rest) (hW : 2 * g.monitorRoom + (rest.map fun v => v.category).sum ≤ 8) (hdg : decode cc g.pc = .ok (.invokevirtual index, 3)) (hf : cells + mc ≤ R.cells ∧ slots + ms ≤ R.slots) :
    vx_Run p l e R s m args below meth c H locs cells slots mc ms g rest (Qc (Value.ref b :: As).toArray) XC free := by
  obtain ⟨⟨hrc, hrs, hfr, hlo, hws, hcw⟩, hcode, hini, hy, hlen, hl, hin, hse⟩ := cw
  have hK : vx_Back l R p e below s args y 3 8 (PreOf R mc ms Pc) (PostOf Qc mc ms free) (vx_Post XC mc ms free) := vx_backW (hh := hh) (bytes := bytes) (maxL := maxL) (ret := ret) hM hp.1 hrc hrs hfr hlo hws hcw (fun a' U hW => word_at hW (Or.inl (by first | rfl | simp [Cond.onTables, Cond.keeps, Cond.steady])) hini)
  obtain ⟨hx, hb, hml, ho, -⟩ := S
  obtain ⟨-, ⟨cellB, hcB, hoB, hclB⟩, hPc⟩ := hp
  intro T hT X
  rcases vx_callVX X hx (C := C) (hh := hh) (bytes := bytes) (maxL := maxL) (ret := ret) ho hl hin hse hcode hy hK (by rw [hT]; exact hcB) hoB hclB hg (hsize.trans hml.symm) (argsL := As) (rest := rest) (fun sig h => hn.trans (hlen sig h)) hstack hW (by rw [hb]; exact hdg)
    (fun vm₁ hW₁ => ⟨hf.1, hf.2, hPc (T.setVm vm₁) hT hW₁⟩) with ⟨v, vm₁, ⟨U', l2, c2, s2⟩, hW₁, X', ⟨g', mk, t, L, e1, e2, hq, h1, hL, h2, h3⟩, st⟩ | ⟨q, vm₁, ⟨U', l2, c2, s2⟩, hW₁, X', ⟨g', mk, t, L, E, ce, e1, e2, hq, hce, hcv, hcl, h1, hL, h2, h3⟩, st⟩
  · dsimp only [Pt.U, Pt.locs, Pt.cells, Pt.slots] at X' e1 e2 h1 h2 h3 st
    subst h1; subst h2; subst h3
    exact Or.inl ⟨v, (T.setVm vm₁).calling g' mk (Value.ref b :: As).toArray, t, U', L, hT, X', hL, e1, e2, hq, st⟩
  · dsimp only [Pt.U, Pt.locs, Pt.cells, Pt.slots] at X' e1 e2 h1 h2 h3 st hcl
    subst h1; subst h2; subst h3
    exact Or.inr ⟨q, (T.setVm vm₁).calling g' mk (Value.ref b :: As).toArray, t, U', L, E, ce, hT, X', hL, e1, e2, hq, hce, hcv, vx_cls hW₁ hcl, st⟩
theorem vx_runSX {hh : List (Nat × Nat × Nat × Nat)} (S : CallFix p m c cc nL s args Ts own) (hM : vx_Met l y ws rm Pc Qc XC mc ms free) (cw : vx_CSW R s args own index y bytes maxL ret hh ws rm mc ms n) (hp : PreS s H Pc As)
    (hg : g.method = m) (hn : As.length = n) (hsize : g.locals.size = nL) (hstack : g.stack = As.reverse ++ rest) (hW : 2 * g.monitorRoom + (rest.map fun v => v.category).sum ≤ 8) (hdg : decode cc g.pc = .ok (.invokestatic index, 3)) (hf : cells + mc ≤ R.cells ∧ slots + ms ≤ R.slots) :
    vx_Run p l e R s m args below meth c H locs cells slots mc ms g rest (Qc As.toArray) XC free := by
  obtain ⟨⟨hrc, hrs, hfr, hlo, hws, hcw⟩, hcode, hini, hy, hlen, hl, hstt⟩ := cw
  have hK : vx_Back l R p e below s args y 3 8 (PreOf R mc ms Pc) (PostOf Qc mc ms free) (vx_Post XC mc ms free) := vx_backW (hh := hh) (bytes := bytes) (maxL := maxL) (ret := ret) hM hp.1 hrc hrs hfr hlo hws hcw (fun a' U hW => word_at hW (Or.inl (by first | rfl | simp [Cond.onTables, Cond.keeps, Cond.steady])) hini)
  obtain ⟨hx, hb, hml, ho, -⟩ := S
  intro T hT X
  rcases vx_callSX X hx (hh := hh) (bytes := bytes) (maxL := maxL) (ret := ret) ho hl hstt hini hcode hy hK hg (hsize.trans hml.symm) (argsL := As) (rest := rest) (fun sig h => hn.trans (hlen sig h)) hstack hW (by rw [hb]; exact hdg)
    (fun vm₁ hW₁ => ⟨hf.1, hf.2, hp.2 (T.setVm vm₁) hT hW₁⟩) with ⟨v, vm₁, ⟨U', l2, c2, s2⟩, hW₁, X', ⟨g', mk, t, L, e1, e2, hq, h1, hL, h2, h3⟩, st⟩ | ⟨q, vm₁, ⟨U', l2, c2, s2⟩, hW₁, X', ⟨g', mk, t, L, E, ce, e1, e2, hq, hce, hcv, hcl, h1, hL, h2, h3⟩, st⟩
  · dsimp only [Pt.U, Pt.locs, Pt.cells, Pt.slots] at X' e1 e2 h1 h2 h3 st
    subst h1; subst h2; subst h3
    exact Or.inl ⟨v, (T.setVm vm₁).calling g' mk As.toArray, t, U', L, hT, X', hL, e1, e2, hq, st⟩
  · dsimp only [Pt.U, Pt.locs, Pt.cells, Pt.slots] at X' e1 e2 h1 h2 h3 st hcl
    subst h1; subst h2; subst h3
    exact Or.inr ⟨q, (T.setVm vm₁).calling g' mk As.toArray, t, U', L, E, ce, hT, X', hL, e1, e2, hq, hce, hcv, vx_cls hW₁ hcl, st⟩
end
end VXH
theorem vx_ofWH {l : Launch} {y : MethodName} {ws ws' : List Cond} {rm : Room} {Pc : Array Value → State → Prop} {Qc : Array Value → State → Outcome → State → Prop} {XC : String → State → State → Prop} {mc ms : Nat} {free : Addr → Prop} {cc : ByteArray} {maxL : Nat} {ret : Option FieldType} {hh : List (Nat × Nat × Nat × Nat)}
    (hy : plainName y.cls = true) (hw : ws = Cond.codeWith y cc maxL ret hh :: ws')
    (body : ∀ p e s m args below meth c s₁, BodyLoose p l y (headSpec ws rm) cc maxL ret e s m args below meth c s₁ → c.maxLocals = maxL → Pc args s →
      W p l e (headSpec ws rm).room s m args below meth c s.heap [] 0 0 (vx_MQ below Qc XC args s mc ms free) (entryFrame m args maxL)) : vx_Met l y ws rm Pc Qc XC mc ms free := by
  refine MetFree.of_bodyS (code := cc) (maxLocals := maxL) (ret := ret) hy ?_ ?_
  · intro args s m h hn
    obtain ⟨m9, meth, c, hn9, h1, h2, h3, h4, -, h5, h6, -⟩ := Cond.codeWith_spec (atoms_spec (ws := ws) h _ (by rw [hw]; exact List.mem_cons_self))
    cases hn.symm.trans hn9
    exact ⟨meth, c, h1, h2, h3, h4, h5, h6⟩
  · intro p e s m args below meth c s₁ B hml hP _
    have hh0 : s₁.heap = s.heap := by rw [B.state]; rfl
    obtain ⟨t, a1, o, b1, b2, b3⟩ := body p e s m args below meth c s₁ B hml hP s₁ hh0 (Stand.of_body B)
    exact ⟨t, o, a1, b1, b2, b3⟩
/-! ===== END ===== -/

/-! ===== BEGIN printed: names, fields, word lists, decode rows ===== -/
def RX0 : String := "VouchGate$Desk"
def TX0 : u_T := fun k => match k with
  | 0 => ("VouchGate$Desk", "words", "[I", true)
  | 1 => ("VouchGate$Desk", "failures", "[I", true)
  | 2 => ("VouchGate$Desk", "restEnds", "[I", true)
  | _ => ("VouchGate$Desk", "sessionEnds", "[I", true)
def tyX0 : Nat → FieldType := fun k => match k with
  | 0 => .array .int
  | 1 => .array .int
  | 2 => .array .int
  | _ => .array .int
abbrev wsX00 : List Cond := u_ws RX0 TX0 4
theorem nmX0 : ∀ a, a < 4 → ∀ b, b < 4 → a ≠ b → (TX0 a).2.1 ≠ (TX0 b).2.1 := by decide +kernel
theorem tyX0_ok : ∀ k, k < 4 → parseFieldDescriptor (TX0 k).2.2.1 = some (tyX0 k) := by decide +kernel
abbrev cX0_init : ByteArray := prog_2_method_1_code
def yX0_init : MethodName := ⟨RX0, "<init>", "()V"⟩
abbrev cX0_setWord : ByteArray := prog_2_method_2_code
def yX0_setWord : MethodName := ⟨RX0, "setWord", "(II)V"⟩
abbrev cX0_tryLogin : ByteArray := prog_2_method_3_code
def yX0_tryLogin : MethodName := ⟨RX0, "tryLogin", "(IIII)I"⟩
abbrev cX0_codeOf : ByteArray := prog_2_method_4_code
def yX0_codeOf : MethodName := ⟨RX0, "codeOf", "(II)I"⟩
abbrev cX0_countFailure : ByteArray := prog_2_method_5_code
def yX0_countFailure : MethodName := ⟨RX0, "countFailure", "(II)V"⟩
abbrev cX0_isInSession : ByteArray := prog_2_method_6_code
def yX0_isInSession : MethodName := ⟨RX0, "isInSession", "(II)Z"⟩
abbrev cX0_failuresOf : ByteArray := prog_2_method_7_code
def yX0_failuresOf : MethodName := ⟨RX0, "failuresOf", "(I)I"⟩
abbrev cX0_sessionEndOf : ByteArray := prog_2_method_8_code
def yX0_sessionEndOf : MethodName := ⟨RX0, "sessionEndOf", "(I)I"⟩
abbrev cX0_countEndingAheadOf : ByteArray := prog_2_method_9_code
def yX0_countEndingAheadOf : MethodName := ⟨RX0, "countEndingAheadOf", "(II)I"⟩
abbrev cX0_endsAheadOf : ByteArray := prog_2_method_10_code
def yX0_endsAheadOf : MethodName := ⟨RX0, "endsAheadOf", "(II)Z"⟩
def RX1 : String := "VouchGate$Log"
def TX1 : u_T := fun k => match k with
  | 0 => ("VouchGate$Log", "kinds", "[I", true)
  | 1 => ("VouchGate$Log", "persons", "[I", true)
  | 2 => ("VouchGate$Log", "guests", "[I", true)
  | 3 => ("VouchGate$Log", "minutes", "[I", true)
  | 4 => ("VouchGate$Log", "size", "I", false)
  | _ => ("VouchGate$Log", "vouchings", "I", false)
def tyX1 : Nat → FieldType := fun k => match k with
  | 0 => .array .int
  | 1 => .array .int
  | 2 => .array .int
  | 3 => .array .int
  | 4 => .int
  | _ => .int
abbrev wsX10 : List Cond := u_ws RX1 TX1 6
theorem nmX1 : ∀ a, a < 6 → ∀ b, b < 6 → a ≠ b → (TX1 a).2.1 ≠ (TX1 b).2.1 := by decide +kernel
theorem tyX1_ok : ∀ k, k < 6 → parseFieldDescriptor (TX1 k).2.2.1 = some (tyX1 k) := by decide +kernel
abbrev cX1_init : ByteArray := prog_3_method_1_code
def yX1_init : MethodName := ⟨RX1, "<init>", "()V"⟩
abbrev cX1_countVouchings : ByteArray := prog_3_method_2_code
def yX1_countVouchings : MethodName := ⟨RX1, "countVouchings", "()I"⟩
abbrev cX1_addVouching : ByteArray := prog_3_method_3_code
def yX1_addVouching : MethodName := ⟨RX1, "addVouching", "(III)V"⟩
abbrev cX1_addEnding : ByteArray := prog_3_method_4_code
def yX1_addEnding : MethodName := ⟨RX1, "addEnding", "(I)V"⟩
abbrev cX1_addLoss : ByteArray := prog_3_method_5_code
def yX1_addLoss : MethodName := ⟨RX1, "addLoss", "(II)V"⟩
abbrev cX1_addIssue : ByteArray := prog_3_method_6_code
def yX1_addIssue : MethodName := ⟨RX1, "addIssue", "(I)V"⟩
abbrev cX1_add : ByteArray := prog_3_method_7_code
def yX1_add : MethodName := ⟨RX1, "add", "(IIII)V"⟩
abbrev cX1_replayInto : ByteArray := prog_3_method_8_code
def yX1_replayInto : MethodName := ⟨RX1, "replayInto", "(LVouchGate$Ties;)V"⟩
abbrev cX1_replayOne : ByteArray := prog_3_method_9_code
def yX1_replayOne : MethodName := ⟨RX1, "replayOne", "(ILVouchGate$Ties;)V"⟩
def RX2 : String := "VouchGate$Ties"
def TX2 : u_T := fun k => match k with
  | 0 => ("VouchGate$Ties", "hosts", "[I", true)
  | 1 => ("VouchGate$Ties", "rooms", "[I", true)
  | 2 => ("VouchGate$Ties", "minutes", "[I", true)
  | 3 => ("VouchGate$Ties", "hostBadges", "[I", true)
  | 4 => ("VouchGate$Ties", "bad", "[Z", true)
  | 5 => ("VouchGate$Ties", "badges", "[I", true)
  | 6 => ("VouchGate$Ties", "lost", "[Z", true)
  | _ => ("VouchGate$Ties", "nextBadge", "I", false)
def tyX2 : Nat → FieldType := fun k => match k with
  | 0 => .array .int
  | 1 => .array .int
  | 2 => .array .int
  | 3 => .array .int
  | 4 => .array .boolean
  | 5 => .array .int
  | 6 => .array .boolean
  | _ => .int
abbrev wsX20 : List Cond := u_ws RX2 TX2 8
theorem nmX2 : ∀ a, a < 8 → ∀ b, b < 8 → a ≠ b → (TX2 a).2.1 ≠ (TX2 b).2.1 := by decide +kernel
theorem tyX2_ok : ∀ k, k < 8 → parseFieldDescriptor (TX2 k).2.2.1 = some (tyX2 k) := by decide +kernel
abbrev cX2_init : ByteArray := prog_4_method_1_code
def yX2_init : MethodName := ⟨RX2, "<init>", "()V"⟩
abbrev cX2_reset : ByteArray := prog_4_method_2_code
def yX2_reset : MethodName := ⟨RX2, "reset", "()V"⟩
abbrev cX2_tie : ByteArray := prog_4_method_3_code
def yX2_tie : MethodName := ⟨RX2, "tie", "(III)V"⟩
abbrev cX2_setRooms : ByteArray := prog_4_method_4_code
def yX2_setRooms : MethodName := ⟨RX2, "setRooms", "(II)V"⟩
abbrev cX2_untie : ByteArray := prog_4_method_5_code
def yX2_untie : MethodName := ⟨RX2, "untie", "(I)V"⟩
abbrev cX2_markLost : ByteArray := prog_4_method_6_code
def yX2_markLost : MethodName := ⟨RX2, "markLost", "(II)V"⟩
abbrev cX2_renewBadge : ByteArray := prog_4_method_7_code
def yX2_renewBadge : MethodName := ⟨RX2, "renewBadge", "(I)V"⟩
abbrev cX2_hostOf : ByteArray := prog_4_method_8_code
def yX2_hostOf : MethodName := ⟨RX2, "hostOf", "(I)I"⟩
abbrev cX2_badgeOf : ByteArray := prog_4_method_9_code
def yX2_badgeOf : MethodName := ⟨RX2, "badgeOf", "(I)I"⟩
abbrev cX2_stepsToStaff : ByteArray := prog_4_method_10_code
def yX2_stepsToStaff : MethodName := ⟨RX2, "stepsToStaff", "(I)I"⟩
abbrev cX2_isTrusted : ByteArray := prog_4_method_11_code
def yX2_isTrusted : MethodName := ⟨RX2, "isTrusted", "(I)Z"⟩
abbrev cX2_roomsOf : ByteArray := prog_4_method_12_code
def yX2_roomsOf : MethodName := ⟨RX2, "roomsOf", "(I)I"⟩
abbrev cX2_isTainted : ByteArray := prog_4_method_13_code
def yX2_isTainted : MethodName := ⟨RX2, "isTainted", "(I)Z"⟩
abbrev cX2_standsOnBadVouching : ByteArray := prog_4_method_14_code
def yX2_standsOnBadVouching : MethodName := ⟨RX2, "standsOnBadVouching", "(I)Z"⟩
abbrev cX2_countTainted : ByteArray := prog_4_method_15_code
def yX2_countTainted : MethodName := ⟨RX2, "countTainted", "()I"⟩
def RX3 : String := "VouchGate"
def TX3 : u_T := fun k => match k with
  | 0 => ("VouchGate", "desk", "LVouchGate$Desk;", true)
  | 1 => ("VouchGate", "ties", "LVouchGate$Ties;", true)
  | 2 => ("VouchGate", "tiesAnew", "LVouchGate$Ties;", true)
  | 3 => ("VouchGate", "log", "LVouchGate$Log;", true)
  | 4 => ("VouchGate", "keepers", "[I", true)
  | 5 => ("VouchGate", "thresholds", "[I", true)
  | _ => ("VouchGate", "now", "I", false)
def tyX3 : Nat → FieldType := fun k => match k with
  | 0 => .object "VouchGate$Desk"
  | 1 => .object "VouchGate$Ties"
  | 2 => .object "VouchGate$Ties"
  | 3 => .object "VouchGate$Log"
  | 4 => .array .int
  | 5 => .array .int
  | _ => .int
abbrev wsX30 : List Cond := u_ws RX3 TX3 7
theorem nmX3 : ∀ a, a < 7 → ∀ b, b < 7 → a ≠ b → (TX3 a).2.1 ≠ (TX3 b).2.1 := by decide +kernel
theorem tyX3_ok : ∀ k, k < 7 → parseFieldDescriptor (TX3 k).2.2.1 = some (tyX3 k) := by decide +kernel
abbrev cX3_init : ByteArray := prog_1_method_1_code
def yX3_init : MethodName := ⟨RX3, "<init>", "()V"⟩
abbrev cX3_word : ByteArray := prog_1_method_2_code
def yX3_word : MethodName := ⟨RX3, "word", "(II)V"⟩
abbrev cX3_login : ByteArray := prog_1_method_3_code
def yX3_login : MethodName := ⟨RX3, "login", "(III)I"⟩
abbrev cX3_pass : ByteArray := prog_1_method_4_code
def yX3_pass : MethodName := ⟨RX3, "pass", "(I)I"⟩
abbrev cX3_vouch : ByteArray := prog_1_method_5_code
def yX3_vouch : MethodName := ⟨RX3, "vouch", "(III)I"⟩
abbrev cX3_end : ByteArray := prog_1_method_6_code
def yX3_end : MethodName := ⟨RX3, "end", "(I)I"⟩
abbrev cX3_lose : ByteArray := prog_1_method_7_code
def yX3_lose : MethodName := ⟨RX3, "lose", "(II)I"⟩
abbrev cX3_issue : ByteArray := prog_1_method_8_code
def yX3_issue : MethodName := ⟨RX3, "issue", "(I)I"⟩
abbrev cX3_door : ByteArray := prog_1_method_9_code
def yX3_door : MethodName := ⟨RX3, "door", "(II)Z"⟩
abbrev cX3_share : ByteArray := prog_1_method_10_code
def yX3_share : MethodName := ⟨RX3, "share", "(III)I"⟩
abbrev cX3_use : ByteArray := prog_1_method_11_code
def yX3_use : MethodName := ⟨RX3, "use", "(I)Z"⟩
abbrev cX3_of : ByteArray := prog_1_method_12_code
def yX3_of : MethodName := ⟨RX3, "of", "(II)I"⟩
abbrev cX3_taintedAnew : ByteArray := prog_1_method_13_code
def yX3_taintedAnew : MethodName := ⟨RX3, "taintedAnew", "(I)Z"⟩
abbrev cX3_chain : ByteArray := prog_1_method_14_code
def yX3_chain : MethodName := ⟨RX3, "chain", "(I)I"⟩
abbrev cX3_ending : ByteArray := prog_1_method_15_code
def yX3_ending : MethodName := ⟨RX3, "ending", "(I)I"⟩
abbrev cX3_sign : ByteArray := prog_1_method_16_code
def yX3_sign : MethodName := ⟨RX3, "sign", "(II)C"⟩
abbrev cX3_keyOf : ByteArray := prog_1_method_17_code
def yX3_keyOf : MethodName := ⟨RX3, "keyOf", "(II)I"⟩
abbrev cX3_isPerson : ByteArray := prog_1_method_18_code
def yX3_isPerson : MethodName := ⟨RX3, "isPerson", "(I)Z"⟩
abbrev cX3_isGuest : ByteArray := prog_1_method_19_code
def yX3_isGuest : MethodName := ⟨RX3, "isGuest", "(I)Z"⟩
abbrev cX3_isKey : ByteArray := prog_1_method_20_code
def yX3_isKey : MethodName := ⟨RX3, "isKey", "(I)Z"⟩
abbrev cX3_asNumber : ByteArray := prog_1_method_21_code
def yX3_asNumber : MethodName := ⟨RX3, "asNumber", "(Z)I"⟩
abbrev cX3_holds : ByteArray := prog_1_method_22_code
def yX3_holds : MethodName := ⟨RX3, "holds", "(II)Z"⟩
abbrev cX3_mayAct : ByteArray := prog_1_method_23_code
def yX3_mayAct : MethodName := ⟨RX3, "mayAct", "(I)Z"⟩
abbrev cX3_countUsers : ByteArray := prog_1_method_24_code
def yX3_countUsers : MethodName := ⟨RX3, "countUsers", "(I)I"⟩
abbrev cX3_badgeText : ByteArray := prog_1_method_25_code
def yX3_badgeText : MethodName := ⟨RX3, "badgeText", "(II)Ljava/lang/StringBuilder;"⟩
abbrev cX3_appendBackwards : ByteArray := prog_1_method_26_code
def yX3_appendBackwards : MethodName := ⟨RX3, "appendBackwards", "(Ljava/lang/StringBuilder;I)V"⟩
def RX4 : String := "VouchGateModel"
def TX4 : u_T := fun k => match k with
  | _ => ("", "", "", false)
def tyX4 : Nat → FieldType := fun k => match k with
  | _ => .int
abbrev wsX40 : List Cond := u_ws RX4 TX4 0
theorem nmX4 : ∀ a, a < 0 → ∀ b, b < 0 → a ≠ b → (TX4 a).2.1 ≠ (TX4 b).2.1 := by decide +kernel
theorem tyX4_ok : ∀ k, k < 0 → parseFieldDescriptor (TX4 k).2.2.1 = some (tyX4 k) := by decide +kernel
def RJ5 : String := "java/lang/AbstractStringBuilder"
def TJ5 : u_T := fun k => match k with
  | _ => ("", "", "", false)
def tyJ5 : Nat → FieldType := fun k => match k with
  | _ => .int
abbrev wsJ50 : List Cond := u_ws RJ5 TJ5 0
theorem nmJ5 : ∀ a, a < 0 → ∀ b, b < 0 → a ≠ b → (TJ5 a).2.1 ≠ (TJ5 b).2.1 := by decide +kernel
theorem tyJ5_ok : ∀ k, k < 0 → parseFieldDescriptor (TJ5 k).2.2.1 = some (tyJ5 k) := by decide +kernel
abbrev cJ5_init_d00df : ByteArray := prog_7_method_2_code
def yJ5_init_d00df : MethodName := ⟨RJ5, "<init>", "(I)V"⟩
abbrev cJ5_length_8abf5 : ByteArray := prog_7_method_6_code
def yJ5_length_8abf5 : MethodName := ⟨RJ5, "length", "()I"⟩
abbrev cJ5_ensureCapacityInternal_d00df : ByteArray := prog_7_method_9_code
def yJ5_ensureCapacityInternal_d00df : MethodName := ⟨RJ5, "ensureCapacityInternal", "(I)V"⟩
abbrev cJ5_newCapacity_0f7a4 : ByteArray := prog_7_method_10_code
def yJ5_newCapacity_0f7a4 : MethodName := ⟨RJ5, "newCapacity", "(I)I"⟩
abbrev cJ5_inflate_da8c8 : ByteArray := prog_7_method_11_code
def yJ5_inflate_da8c8 : MethodName := ⟨RJ5, "inflate", "()V"⟩
abbrev cJ5_charAt_5068e : ByteArray := prog_7_method_14_code
def yJ5_charAt_5068e : MethodName := ⟨RJ5, "charAt", "(I)C"⟩
abbrev cJ5_append_3fe6f : ByteArray := prog_7_method_31_code
def yJ5_append_3fe6f : MethodName := ⟨RJ5, "append", "(C)Ljava/lang/AbstractStringBuilder;"⟩
abbrev cJ5_append_c97b9 : ByteArray := prog_7_method_32_code
def yJ5_append_c97b9 : MethodName := ⟨RJ5, "append", "(I)Ljava/lang/AbstractStringBuilder;"⟩
abbrev cJ5_isLatin1_aae02 : ByteArray := prog_7_method_68_code
def yJ5_isLatin1_aae02 : MethodName := ⟨RJ5, "isLatin1", "()Z"⟩
def RJx8e188 : String := "java/lang/Cloneable"
def TJx8e188 : u_T := fun k => match k with
  | _ => ("", "", "", false)
def tyJx8e188 : Nat → FieldType := fun k => match k with
  | _ => .int
abbrev wsJx8e1880 : List Cond := u_ws RJx8e188 TJx8e188 0
theorem nmJx8e188 : ∀ a, a < 0 → ∀ b, b < 0 → a ≠ b → (TJx8e188 a).2.1 ≠ (TJx8e188 b).2.1 := by decide +kernel
theorem tyJx8e188_ok : ∀ k, k < 0 → parseFieldDescriptor (TJx8e188 k).2.2.1 = some (tyJx8e188 k) := by decide +kernel
def RJ6 : String := "java/lang/Integer"
def TJ6 : u_T := fun k => match k with
  | _ => ("", "", "", false)
def tyJ6 : Nat → FieldType := fun k => match k with
  | _ => .int
abbrev wsJ60 : List Cond := u_ws RJ6 TJ6 0
theorem nmJ6 : ∀ a, a < 0 → ∀ b, b < 0 → a ≠ b → (TJ6 a).2.1 ≠ (TJ6 b).2.1 := by decide +kernel
theorem tyJ6_ok : ∀ k, k < 0 → parseFieldDescriptor (TJ6 k).2.2.1 = some (tyJ6 k) := by decide +kernel
abbrev cJ6_getChars_ba4f3 : ByteArray := prog_13_method_12_code
def yJ6_getChars_ba4f3 : MethodName := ⟨RJ6, "getChars", "(II[B)I"⟩
abbrev cJ6_stringSize_0f7a4 : ByteArray := prog_13_method_13_code
def yJ6_stringSize_0f7a4 : MethodName := ⟨RJ6, "stringSize", "(I)I"⟩
abbrev cJ6_bitCount_0f7a4 : ByteArray := prog_13_method_49_code
def yJ6_bitCount_0f7a4 : MethodName := ⟨RJ6, "bitCount", "(I)I"⟩
def RJ9 : String := "java/lang/Math"
def TJ9 : u_T := fun k => match k with
  | _ => ("", "", "", false)
def tyJ9 : Nat → FieldType := fun k => match k with
  | _ => .int
abbrev wsJ90 : List Cond := u_ws RJ9 TJ9 0
theorem nmJ9 : ∀ a, a < 0 → ∀ b, b < 0 → a ≠ b → (TJ9 a).2.1 ≠ (TJ9 b).2.1 := by decide +kernel
theorem tyJ9_ok : ∀ k, k < 0 → parseFieldDescriptor (TJ9 k).2.2.1 = some (tyJ9 k) := by decide +kernel
abbrev cJ9_max_7cf53 : ByteArray := prog_14_method_65_code
def yJ9_max_7cf53 : MethodName := ⟨RJ9, "max", "(II)I"⟩
abbrev cJ9_min_7cf53 : ByteArray := prog_14_method_69_code
def yJ9_min_7cf53 : MethodName := ⟨RJ9, "min", "(II)I"⟩
def RJ0 : String := "java/lang/String"
def TJ0 : u_T := fun k => match k with
  | _ => ("", "", "", false)
def tyJ0 : Nat → FieldType := fun k => match k with
  | _ => .int
abbrev wsJ00 : List Cond := u_ws RJ0 TJ0 0
theorem nmJ0 : ∀ a, a < 0 → ∀ b, b < 0 → a ≠ b → (TJ0 a).2.1 ≠ (TJ0 b).2.1 := by decide +kernel
theorem tyJ0_ok : ∀ k, k < 0 → parseFieldDescriptor (TJ0 k).2.2.1 = some (tyJ0 k) := by decide +kernel
abbrev cJ0_checkIndex_df160 : ByteArray := prog_16_method_155_code
def yJ0_checkIndex_df160 : MethodName := ⟨RJ0, "checkIndex", "(II)V"⟩
abbrev cJ0_checkBoundsOffCount_cabcc : ByteArray := prog_16_method_157_code
def yJ0_checkBoundsOffCount_cabcc : MethodName := ⟨RJ0, "checkBoundsOffCount", "(III)I"⟩
abbrev cJ0_checkBoundsBeginEnd_23922 : ByteArray := prog_16_method_158_code
def yJ0_checkBoundsBeginEnd_23922 : MethodName := ⟨RJ0, "checkBoundsBeginEnd", "(III)V"⟩
def RJ4 : String := "java/lang/StringBuilder"
def TJ4 : u_T := fun k => match k with
  | 0 => ("java/lang/AbstractStringBuilder", "value", "[B", false)
  | 1 => ("java/lang/AbstractStringBuilder", "coder", "B", false)
  | 2 => ("java/lang/AbstractStringBuilder", "maybeLatin1", "Z", false)
  | _ => ("java/lang/AbstractStringBuilder", "count", "I", false)
def tyJ4 : Nat → FieldType := fun k => match k with
  | 0 => .array .byte
  | 1 => .byte
  | 2 => .boolean
  | _ => .int
abbrev wsJ40 : List Cond := u_ws RJ4 TJ4 4
theorem nmJ4 : ∀ a, a < 4 → ∀ b, b < 4 → a ≠ b → (TJ4 a).2.1 ≠ (TJ4 b).2.1 := by decide +kernel
theorem tyJ4_ok : ∀ k, k < 4 → parseFieldDescriptor (TJ4 k).2.2.1 = some (tyJ4 k) := by decide +kernel
abbrev cJ4_init_da8c8 : ByteArray := prog_17_method_1_code
def yJ4_init_da8c8 : MethodName := ⟨RJ4, "<init>", "()V"⟩
abbrev cJ4_append_cf468 : ByteArray := prog_17_method_14_code
def yJ4_append_cf468 : MethodName := ⟨RJ4, "append", "(C)Ljava/lang/StringBuilder;"⟩
abbrev cJ4_append_bf812 : ByteArray := prog_17_method_15_code
def yJ4_append_bf812 : MethodName := ⟨RJ4, "append", "(I)Ljava/lang/StringBuilder;"⟩
abbrev cJ4_charAt_5068e : ByteArray := prog_17_method_88_code
def yJ4_charAt_5068e : MethodName := ⟨RJ4, "charAt", "(I)C"⟩
abbrev cJ4_length_8abf5 : ByteArray := prog_17_method_93_code
def yJ4_length_8abf5 : MethodName := ⟨RJ4, "length", "()I"⟩
def RJ1 : String := "java/lang/StringLatin1"
def TJ1 : u_T := fun k => match k with
  | _ => ("", "", "", false)
def tyJ1 : Nat → FieldType := fun k => match k with
  | _ => .int
abbrev wsJ10 : List Cond := u_ws RJ1 TJ1 0
theorem nmJ1 : ∀ a, a < 0 → ∀ b, b < 0 → a ≠ b → (TJ1 a).2.1 ≠ (TJ1 b).2.1 := by decide +kernel
theorem tyJ1_ok : ∀ k, k < 0 → parseFieldDescriptor (TJ1 k).2.2.1 = some (tyJ1 k) := by decide +kernel
abbrev cJ1_canEncode_fc78d : ByteArray := prog_18_method_3_code
def yJ1_canEncode_fc78d : MethodName := ⟨RJ1, "canEncode", "(C)Z"⟩
abbrev cJ1_inflate_0e8fd : ByteArray := prog_18_method_50_code
def yJ1_inflate_0e8fd : MethodName := ⟨RJ1, "inflate", "([BI[BII)V"⟩
def RJ2 : String := "java/lang/StringUTF16"
def TJ2 : u_T := fun k => match k with
  | _ => ("", "", "", false)
def tyJ2 : Nat → FieldType := fun k => match k with
  | _ => .int
abbrev wsJ20 : List Cond := u_ws RJ2 TJ2 0
theorem nmJ2 : ∀ a, a < 0 → ∀ b, b < 0 → a ≠ b → (TJ2 a).2.1 ≠ (TJ2 b).2.1 := by decide +kernel
theorem tyJ2_ok : ∀ k, k < 0 → parseFieldDescriptor (TJ2 k).2.2.1 = some (tyJ2 k) := by decide +kernel
abbrev cJ2_newBytesFor_77867 : ByteArray := prog_19_method_2_code
def yJ2_newBytesFor_77867 : MethodName := ⟨RJ2, "newBytesFor", "(I)[B"⟩
abbrev cJ2_newBytesLength_0f7a4 : ByteArray := prog_19_method_3_code
def yJ2_newBytesLength_0f7a4 : MethodName := ⟨RJ2, "newBytesLength", "(I)I"⟩
abbrev cJ2_putChar_b72d1 : ByteArray := prog_19_method_4_code
def yJ2_putChar_b72d1 : MethodName := ⟨RJ2, "putChar", "([BII)V"⟩
abbrev cJ2_getChar_3b067 : ByteArray := prog_19_method_5_code
def yJ2_getChar_3b067 : MethodName := ⟨RJ2, "getChar", "([BI)C"⟩
abbrev cJ2_length_9d52b : ByteArray := prog_19_method_6_code
def yJ2_length_9d52b : MethodName := ⟨RJ2, "length", "([B)I"⟩
abbrev cJ2_putCharSB_b72d1 : ByteArray := prog_19_method_71_code
def yJ2_putCharSB_b72d1 : MethodName := ⟨RJ2, "putCharSB", "([BII)V"⟩
abbrev cJ2_getChars_46870 : ByteArray := prog_19_method_77_code
def yJ2_getChars_46870 : MethodName := ⟨RJ2, "getChars", "(III[B)I"⟩
abbrev cJ2_inflate_0e8fd : ByteArray := prog_19_method_86_code
def yJ2_inflate_0e8fd : MethodName := ⟨RJ2, "inflate", "([BI[BII)V"⟩
abbrev cJ2_getChars_ba4f3 : ByteArray := prog_19_method_89_code
def yJ2_getChars_ba4f3 : MethodName := ⟨RJ2, "getChars", "(II[B)I"⟩
abbrev cJ2_checkIndex_2214a : ByteArray := prog_19_method_91_code
def yJ2_checkIndex_2214a : MethodName := ⟨RJ2, "checkIndex", "(I[B)V"⟩
abbrev cJ2_checkBoundsBeginEnd_d044e : ByteArray := prog_19_method_93_code
def yJ2_checkBoundsBeginEnd_d044e : MethodName := ⟨RJ2, "checkBoundsBeginEnd", "(II[B)V"⟩
abbrev cJ2_checkBoundsOffCount_d044e : ByteArray := prog_19_method_94_code
def yJ2_checkBoundsOffCount_d044e : MethodName := ⟨RJ2, "checkBoundsOffCount", "(II[B)V"⟩
def RJ10 : String := "java/lang/System"
def TJ10 : u_T := fun k => match k with
  | _ => ("", "", "", false)
def tyJ10 : Nat → FieldType := fun k => match k with
  | _ => .int
abbrev wsJ100 : List Cond := u_ws RJ10 TJ10 0
theorem nmJ10 : ∀ a, a < 0 → ∀ b, b < 0 → a ≠ b → (TJ10 a).2.1 ≠ (TJ10 b).2.1 := by decide +kernel
theorem tyJ10_ok : ∀ k, k < 0 → parseFieldDescriptor (TJ10 k).2.2.1 = some (tyJ10 k) := by decide +kernel
def RJ7 : String := "java/util/Arrays"
def TJ7 : u_T := fun k => match k with
  | _ => ("", "", "", false)
def tyJ7 : Nat → FieldType := fun k => match k with
  | _ => .int
abbrev wsJ70 : List Cond := u_ws RJ7 TJ7 0
theorem nmJ7 : ∀ a, a < 0 → ∀ b, b < 0 → a ≠ b → (TJ7 a).2.1 ≠ (TJ7 b).2.1 := by decide +kernel
theorem tyJ7_ok : ∀ k, k < 0 → parseFieldDescriptor (TJ7 k).2.2.1 = some (tyJ7 k) := by decide +kernel
abbrev cJ7_copyOf_9075b : ByteArray := prog_22_method_121_code
def yJ7_copyOf_9075b : MethodName := ⟨RJ7, "copyOf", "([BI)[B"⟩
def RJ8 : String := "jdk/internal/util/ArraysSupport"
def TJ8 : u_T := fun k => match k with
  | _ => ("", "", "", false)
def tyJ8 : Nat → FieldType := fun k => match k with
  | _ => .int
abbrev wsJ80 : List Cond := u_ws RJ8 TJ8 0
theorem nmJ8 : ∀ a, a < 0 → ∀ b, b < 0 → a ≠ b → (TJ8 a).2.1 ≠ (TJ8 b).2.1 := by decide +kernel
theorem tyJ8_ok : ∀ k, k < 0 → parseFieldDescriptor (TJ8 k).2.2.1 = some (tyJ8 k) := by decide +kernel
abbrev cJ8_newLength_cabcc : ByteArray := prog_23_method_27_code
def yJ8_newLength_cabcc : MethodName := ⟨RJ8, "newLength", "(III)I"⟩
abbrev cJ8_hugeLength_7cf53 : ByteArray := prog_23_method_28_code
def yJ8_hugeLength_7cf53 : MethodName := ⟨RJ8, "hugeLength", "(II)I"⟩
def RJ3 : String := "jdk/internal/util/Preconditions"
def TJ3 : u_T := fun k => match k with
  | _ => ("", "", "", false)
def tyJ3 : Nat → FieldType := fun k => match k with
  | _ => .int
abbrev wsJ30 : List Cond := u_ws RJ3 TJ3 0
theorem nmJ3 : ∀ a, a < 0 → ∀ b, b < 0 → a ≠ b → (TJ3 a).2.1 ≠ (TJ3 b).2.1 := by decide +kernel
theorem tyJ3_ok : ∀ k, k < 0 → parseFieldDescriptor (TJ3 k).2.2.1 = some (tyJ3 k) := by decide +kernel
abbrev cJ3_checkIndex_8e157 : ByteArray := prog_24_method_11_code
def yJ3_checkIndex_8e157 : MethodName := ⟨RJ3, "checkIndex", "(IILjava/util/function/BiFunction;)I"⟩
abbrev cJ3_checkFromToIndex_8c36e : ByteArray := prog_24_method_12_code
def yJ3_checkFromToIndex_8c36e : MethodName := ⟨RJ3, "checkFromToIndex", "(IIILjava/util/function/BiFunction;)I"⟩
abbrev cJ3_checkFromIndexSize_8c36e : ByteArray := prog_24_method_13_code
def yJ3_checkFromIndexSize_8c36e : MethodName := ⟨RJ3, "checkFromIndexSize", "(IIILjava/util/function/BiFunction;)I"⟩
def RL : String := "VouchGateLaw"
abbrev cL_at : ByteArray := method_2_code
def yL_at : MethodName := ⟨RL, "at", "([II)I"⟩
abbrev cL_low : ByteArray := method_3_code
def yL_low : MethodName := ⟨RL, "low", "(II)I"⟩
abbrev cL_word : ByteArray := method_4_code
def yL_word : MethodName := ⟨RL, "word", "(LVouchGate;II)I"⟩
abbrev cL_login : ByteArray := method_5_code
def yL_login : MethodName := ⟨RL, "login", "(LVouchGate;III)I"⟩
abbrev cL_pass : ByteArray := method_6_code
def yL_pass : MethodName := ⟨RL, "pass", "(LVouchGate;I)I"⟩
abbrev cL_vouch : ByteArray := method_7_code
def yL_vouch : MethodName := ⟨RL, "vouch", "(LVouchGate;III)I"⟩
abbrev cL_end : ByteArray := method_8_code
def yL_end : MethodName := ⟨RL, "end", "(LVouchGate;I)I"⟩
abbrev cL_lose : ByteArray := method_9_code
def yL_lose : MethodName := ⟨RL, "lose", "(LVouchGate;II)I"⟩
abbrev cL_issue : ByteArray := method_10_code
def yL_issue : MethodName := ⟨RL, "issue", "(LVouchGate;I)I"⟩
abbrev cL_door : ByteArray := method_11_code
def yL_door : MethodName := ⟨RL, "door", "(LVouchGate;II)I"⟩
abbrev cL_share : ByteArray := method_12_code
def yL_share : MethodName := ⟨RL, "share", "(LVouchGate;III)I"⟩
abbrev cL_use : ByteArray := method_13_code
def yL_use : MethodName := ⟨RL, "use", "(LVouchGate;I)I"⟩
abbrev cL_of : ByteArray := method_14_code
def yL_of : MethodName := ⟨RL, "of", "(LVouchGate;II)I"⟩
abbrev cL_taintedAnew : ByteArray := method_15_code
def yL_taintedAnew : MethodName := ⟨RL, "taintedAnew", "(LVouchGate;I)I"⟩
abbrev cL_chain : ByteArray := method_16_code
def yL_chain : MethodName := ⟨RL, "chain", "(LVouchGate;I)I"⟩
abbrev cL_ending : ByteArray := method_17_code
def yL_ending : MethodName := ⟨RL, "ending", "(LVouchGate;I)I"⟩
abbrev cL_keyOf : ByteArray := method_18_code
def yL_keyOf : MethodName := ⟨RL, "keyOf", "(LVouchGate;II)I"⟩
abbrev cL_sign : ByteArray := method_19_code
def yL_sign : MethodName := ⟨RL, "sign", "(LVouchGate;II)I"⟩
abbrev cL_arePersons : ByteArray := method_20_code
def yL_arePersons : MethodName := ⟨RL, "arePersons", "(LVouchGate;[I[I)Z"⟩
abbrev cL_areKeys : ByteArray := method_21_code
def yL_areKeys : MethodName := ⟨RL, "areKeys", "(LVouchGate;[I)Z"⟩
abbrev cL_isSign : ByteArray := method_22_code
def yL_isSign : MethodName := ⟨RL, "isSign", "(LVouchGate;II)Z"⟩
abbrev cL_logsIn : ByteArray := method_23_code
def yL_logsIn : MethodName := ⟨RL, "logsIn", "(LVouchGate;[I[III)Z"⟩
abbrev cL_vouches : ByteArray := method_24_code
def yL_vouches : MethodName := ⟨RL, "vouches", "(LVouchGate;[II)Z"⟩
abbrev cL_loses : ByteArray := method_25_code
def yL_loses : MethodName := ⟨RL, "loses", "(LVouchGate;[III)Z"⟩
abbrev cL_acts : ByteArray := method_26_code
def yL_acts : MethodName := ⟨RL, "acts", "(LVouchGate;[I[I[III)Z"⟩
abbrev cL_law : ByteArray := code
def yL_law : MethodName := ⟨RL, "law", "([I)Z"⟩
def wsX0_init : List Cond := .code yX0_init cX0_init 2 none :: ([.methodLink RX0 3 objectInit, .instanceMethod objectInit, .code objectInit ⟨#[0xb1]⟩ 1 none, .arrayClass .int, .fieldLink RX0 9 "VouchGate$Desk" "words" "[I", .fieldLink RX0 15 "VouchGate$Desk" "failures" "[I", .fieldLink RX0 18 "VouchGate$Desk" "restEnds" "[I", .fieldLink RX0 21 "VouchGate$Desk" "sessionEnds" "[I"] ++ wsX00)
def wsX0_setWord : List Cond := .code yX0_setWord cX0_setWord 3 none :: ([.fieldLink RX0 9 "VouchGate$Desk" "words" "[I"] ++ wsX00)
def wsX0_countFailure : List Cond := .code yX0_countFailure cX0_countFailure 3 none :: ([.fieldLink RX0 15 "VouchGate$Desk" "failures" "[I", .fieldLink RX0 18 "VouchGate$Desk" "restEnds" "[I"] ++ wsX00)
def wsX0_codeOf : List Cond := .code yX0_codeOf cX0_codeOf 2 (some .int) :: ([])
def wsX0_tryLogin : List Cond := .code yX0_tryLogin cX0_tryLogin 5 (some .int) :: ([.fieldLink RX0 18 "VouchGate$Desk" "restEnds" "[I", .fieldLink RX0 9 "VouchGate$Desk" "words" "[I", .fieldLink RX0 15 "VouchGate$Desk" "failures" "[I", .fieldLink RX0 21 "VouchGate$Desk" "sessionEnds" "[I", .methodLink RX0 24 yX0_countFailure, .instanceMethod yX0_countFailure, .selects RX0 yX0_countFailure yX0_countFailure, .initialized RX0, .code yX0_countFailure cX0_countFailure 3 none, .methodLink RX0 28 yX0_codeOf, .static yX0_codeOf, .code yX0_codeOf cX0_codeOf 2 (some .int)] ++ wsX00)
def wsX0_isInSession : List Cond := .code yX0_isInSession cX0_isInSession 3 (some .boolean) :: ([.fieldLink RX0 21 "VouchGate$Desk" "sessionEnds" "[I"] ++ wsX00)
def wsX0_failuresOf : List Cond := .code yX0_failuresOf cX0_failuresOf 2 (some .int) :: ([.fieldLink RX0 15 "VouchGate$Desk" "failures" "[I"] ++ wsX00)
def wsX0_sessionEndOf : List Cond := .code yX0_sessionEndOf cX0_sessionEndOf 2 (some .int) :: ([.fieldLink RX0 21 "VouchGate$Desk" "sessionEnds" "[I"] ++ wsX00)
def wsX0_endsAheadOf : List Cond := .code yX0_endsAheadOf cX0_endsAheadOf 3 (some .boolean) :: ([.fieldLink RX0 21 "VouchGate$Desk" "sessionEnds" "[I"] ++ wsX00)
def wsX0_countEndingAheadOf : List Cond := .code yX0_countEndingAheadOf cX0_countEndingAheadOf 5 (some .int) :: ([.methodLink RX0 32 yX0_isInSession, .instanceMethod yX0_isInSession, .selects RX0 yX0_isInSession yX0_isInSession, .initialized RX0, .code yX0_isInSession cX0_isInSession 3 (some .boolean), .fieldLink RX0 21 "VouchGate$Desk" "sessionEnds" "[I", .methodLink RX0 36 yX0_endsAheadOf, .instanceMethod yX0_endsAheadOf, .selects RX0 yX0_endsAheadOf yX0_endsAheadOf, .code yX0_endsAheadOf cX0_endsAheadOf 3 (some .boolean)] ++ wsX00)
def wsX1_init : List Cond := .code yX1_init cX1_init 1 none :: ([.methodLink RX1 3 objectInit, .instanceMethod objectInit, .code objectInit ⟨#[0xb1]⟩ 1 none, .arrayClass .int, .fieldLink RX1 9 "VouchGate$Log" "kinds" "[I", .fieldLink RX1 15 "VouchGate$Log" "persons" "[I", .fieldLink RX1 18 "VouchGate$Log" "guests" "[I", .fieldLink RX1 21 "VouchGate$Log" "minutes" "[I", .fieldLink RX1 24 "VouchGate$Log" "size" "I", .fieldLink RX1 28 "VouchGate$Log" "vouchings" "I"] ++ wsX10)
def wsX1_countVouchings : List Cond := .code yX1_countVouchings cX1_countVouchings 1 (some .int) :: ([.fieldLink RX1 28 "VouchGate$Log" "vouchings" "I"] ++ wsX10)
def wsX1_add : List Cond := .code yX1_add cX1_add 5 none :: ([.fieldLink RX1 24 "VouchGate$Log" "size" "I", .fieldLink RX1 9 "VouchGate$Log" "kinds" "[I", .fieldLink RX1 15 "VouchGate$Log" "persons" "[I", .fieldLink RX1 18 "VouchGate$Log" "guests" "[I", .fieldLink RX1 21 "VouchGate$Log" "minutes" "[I"] ++ wsX10)
def wsX1_addVouching : List Cond := .code yX1_addVouching cX1_addVouching 4 none :: ([.fieldLink RX1 28 "VouchGate$Log" "vouchings" "I", .methodLink RX1 31 yX1_add, .instanceMethod yX1_add, .selects RX1 yX1_add yX1_add, .initialized RX1, .code yX1_add cX1_add 5 none, .fieldLink RX1 24 "VouchGate$Log" "size" "I", .fieldLink RX1 9 "VouchGate$Log" "kinds" "[I", .fieldLink RX1 15 "VouchGate$Log" "persons" "[I", .fieldLink RX1 18 "VouchGate$Log" "guests" "[I", .fieldLink RX1 21 "VouchGate$Log" "minutes" "[I"] ++ wsX10)
def wsX1_addEnding : List Cond := .code yX1_addEnding cX1_addEnding 2 none :: ([.methodLink RX1 31 yX1_add, .instanceMethod yX1_add, .selects RX1 yX1_add yX1_add, .initialized RX1, .code yX1_add cX1_add 5 none, .fieldLink RX1 24 "VouchGate$Log" "size" "I", .fieldLink RX1 9 "VouchGate$Log" "kinds" "[I", .fieldLink RX1 15 "VouchGate$Log" "persons" "[I", .fieldLink RX1 18 "VouchGate$Log" "guests" "[I", .fieldLink RX1 21 "VouchGate$Log" "minutes" "[I"] ++ wsX10)
def wsX1_addLoss : List Cond := .code yX1_addLoss cX1_addLoss 3 none :: ([.methodLink RX1 31 yX1_add, .instanceMethod yX1_add, .selects RX1 yX1_add yX1_add, .initialized RX1, .code yX1_add cX1_add 5 none, .fieldLink RX1 24 "VouchGate$Log" "size" "I", .fieldLink RX1 9 "VouchGate$Log" "kinds" "[I", .fieldLink RX1 15 "VouchGate$Log" "persons" "[I", .fieldLink RX1 18 "VouchGate$Log" "guests" "[I", .fieldLink RX1 21 "VouchGate$Log" "minutes" "[I"] ++ wsX10)
def wsX1_addIssue : List Cond := .code yX1_addIssue cX1_addIssue 2 none :: ([.methodLink RX1 31 yX1_add, .instanceMethod yX1_add, .selects RX1 yX1_add yX1_add, .initialized RX1, .code yX1_add cX1_add 5 none, .fieldLink RX1 24 "VouchGate$Log" "size" "I", .fieldLink RX1 9 "VouchGate$Log" "kinds" "[I", .fieldLink RX1 15 "VouchGate$Log" "persons" "[I", .fieldLink RX1 18 "VouchGate$Log" "guests" "[I", .fieldLink RX1 21 "VouchGate$Log" "minutes" "[I"] ++ wsX10)
def wsX2_reset : List Cond := .code yX2_reset cX2_reset 2 none :: ([.fieldLink RX2 9 "VouchGate$Ties" "hosts" "[I", .fieldLink RX2 24 "VouchGate$Ties" "bad" "[Z", .fieldLink RX2 28 "VouchGate$Ties" "badges" "[I", .fieldLink RX2 31 "VouchGate$Ties" "lost" "[Z", .fieldLink RX2 37 "VouchGate$Ties" "nextBadge" "I"] ++ wsX20)
def wsX2_tie : List Cond := .code yX2_tie cX2_tie 4 none :: ([.fieldLink RX2 9 "VouchGate$Ties" "hosts" "[I", .fieldLink RX2 18 "VouchGate$Ties" "minutes" "[I", .fieldLink RX2 21 "VouchGate$Ties" "hostBadges" "[I", .fieldLink RX2 28 "VouchGate$Ties" "badges" "[I", .fieldLink RX2 24 "VouchGate$Ties" "bad" "[Z"] ++ wsX20)
def wsX2_untie : List Cond := .code yX2_untie cX2_untie 2 none :: ([.fieldLink RX2 9 "VouchGate$Ties" "hosts" "[I", .fieldLink RX2 24 "VouchGate$Ties" "bad" "[Z"] ++ wsX20)
def wsX2_markLost : List Cond := .code yX2_markLost cX2_markLost 4 none :: ([.fieldLink RX2 31 "VouchGate$Ties" "lost" "[Z", .fieldLink RX2 9 "VouchGate$Ties" "hosts" "[I", .fieldLink RX2 21 "VouchGate$Ties" "hostBadges" "[I", .fieldLink RX2 28 "VouchGate$Ties" "badges" "[I", .fieldLink RX2 18 "VouchGate$Ties" "minutes" "[I", .fieldLink RX2 24 "VouchGate$Ties" "bad" "[Z"] ++ wsX20)
def wsX2_renewBadge : List Cond := .code yX2_renewBadge cX2_renewBadge 2 none :: ([.fieldLink RX2 28 "VouchGate$Ties" "badges" "[I", .fieldLink RX2 37 "VouchGate$Ties" "nextBadge" "I", .fieldLink RX2 31 "VouchGate$Ties" "lost" "[Z"] ++ wsX20)
def wsX1_replayOne_r1 : List Cond := [Cond.fieldLink RX1 9 "VouchGate$Log" "kinds" "[I", Cond.fieldLink RX1 15 "VouchGate$Log" "persons" "[I", Cond.fieldLink RX1 18 "VouchGate$Log" "guests" "[I", Cond.fieldLink RX1 21 "VouchGate$Log" "minutes" "[I", Cond.methodLink RX1 44 yX2_tie, Cond.instanceMethod yX2_tie, Cond.selects RX2 yX2_tie yX2_tie, Cond.initialized RX2, Cond.code yX2_tie cX2_tie 4 none, Cond.fieldLink RX2 9 "VouchGate$Ties" "hosts" "[I", Cond.fieldLink RX2 18 "VouchGate$Ties" "minutes" "[I", Cond.fieldLink RX2 21 "VouchGate$Ties" "hostBadges" "[I", Cond.fieldLink RX2 28 "VouchGate$Ties" "badges" "[I", Cond.fieldLink RX2 24 "VouchGate$Ties" "bad" "[Z", Cond.methodLink RX1 48 yX2_untie, Cond.instanceMethod yX2_untie, Cond.selects RX2 yX2_untie yX2_untie, Cond.code yX2_untie cX2_untie 2 none, Cond.methodLink RX1 52 yX2_markLost, Cond.instanceMethod yX2_markLost, Cond.selects RX2 yX2_markLost yX2_markLost, Cond.code yX2_markLost cX2_markLost 4 none, Cond.fieldLink RX2 31 "VouchGate$Ties" "lost" "[Z", Cond.methodLink RX1 56 yX2_renewBadge]
def wsX1_replayOne_r2 : List Cond := [Cond.instanceMethod yX2_renewBadge, Cond.selects RX2 yX2_renewBadge yX2_renewBadge, Cond.code yX2_renewBadge cX2_renewBadge 2 none, Cond.fieldLink RX2 37 "VouchGate$Ties" "nextBadge" "I"]
def wsX1_replayOne : List Cond := .code yX1_replayOne cX1_replayOne 3 none :: ((wsX1_replayOne_r1 ++ wsX1_replayOne_r2) ++ wsX10 ++ wsX20)
def wsX1_replayInto_r1 : List Cond := [Cond.fieldLink RX1 24 "VouchGate$Log" "size" "I", Cond.methodLink RX1 35 yX2_reset, Cond.instanceMethod yX2_reset, Cond.selects RX2 yX2_reset yX2_reset, Cond.initialized RX2, Cond.code yX2_reset cX2_reset 2 none, Cond.fieldLink RX2 9 "VouchGate$Ties" "hosts" "[I", Cond.fieldLink RX2 24 "VouchGate$Ties" "bad" "[Z", Cond.fieldLink RX2 28 "VouchGate$Ties" "badges" "[I", Cond.fieldLink RX2 31 "VouchGate$Ties" "lost" "[Z", Cond.fieldLink RX2 37 "VouchGate$Ties" "nextBadge" "I", Cond.methodLink RX1 40 yX1_replayOne, Cond.instanceMethod yX1_replayOne, Cond.selects RX1 yX1_replayOne yX1_replayOne, Cond.initialized RX1, Cond.code yX1_replayOne cX1_replayOne 3 none, Cond.fieldLink RX1 9 "VouchGate$Log" "kinds" "[I", Cond.fieldLink RX1 15 "VouchGate$Log" "persons" "[I", Cond.fieldLink RX1 18 "VouchGate$Log" "guests" "[I", Cond.fieldLink RX1 21 "VouchGate$Log" "minutes" "[I", Cond.methodLink RX1 44 yX2_tie, Cond.instanceMethod yX2_tie, Cond.selects RX2 yX2_tie yX2_tie, Cond.code yX2_tie cX2_tie 4 none]
def wsX1_replayInto_r2 : List Cond := [Cond.fieldLink RX2 18 "VouchGate$Ties" "minutes" "[I", Cond.fieldLink RX2 21 "VouchGate$Ties" "hostBadges" "[I", Cond.methodLink RX1 48 yX2_untie, Cond.instanceMethod yX2_untie, Cond.selects RX2 yX2_untie yX2_untie, Cond.code yX2_untie cX2_untie 2 none, Cond.methodLink RX1 52 yX2_markLost, Cond.instanceMethod yX2_markLost, Cond.selects RX2 yX2_markLost yX2_markLost, Cond.code yX2_markLost cX2_markLost 4 none, Cond.methodLink RX1 56 yX2_renewBadge, Cond.instanceMethod yX2_renewBadge, Cond.selects RX2 yX2_renewBadge yX2_renewBadge, Cond.code yX2_renewBadge cX2_renewBadge 2 none]
def wsX1_replayInto : List Cond := .code yX1_replayInto cX1_replayInto 3 none :: ((wsX1_replayInto_r1 ++ wsX1_replayInto_r2) ++ wsX10 ++ wsX20)
def wsX2_init : List Cond := .code yX2_init cX2_init 1 none :: ([.methodLink RX2 3 objectInit, .instanceMethod objectInit, .code objectInit ⟨#[0xb1]⟩ 1 none, .arrayClass .int, .fieldLink RX2 9 "VouchGate$Ties" "hosts" "[I", .fieldLink RX2 15 "VouchGate$Ties" "rooms" "[I", .fieldLink RX2 18 "VouchGate$Ties" "minutes" "[I", .fieldLink RX2 21 "VouchGate$Ties" "hostBadges" "[I", .arrayClass .boolean, .fieldLink RX2 24 "VouchGate$Ties" "bad" "[Z", .fieldLink RX2 28 "VouchGate$Ties" "badges" "[I", .fieldLink RX2 31 "VouchGate$Ties" "lost" "[Z", .methodLink RX2 34 yX2_reset, .instanceMethod yX2_reset, .selects RX2 yX2_reset yX2_reset, .initialized RX2, .code yX2_reset cX2_reset 2 none, .fieldLink RX2 37 "VouchGate$Ties" "nextBadge" "I"] ++ wsX20)
def wsX2_setRooms : List Cond := .code yX2_setRooms cX2_setRooms 3 none :: ([.fieldLink RX2 15 "VouchGate$Ties" "rooms" "[I"] ++ wsX20)
def wsX2_hostOf : List Cond := .code yX2_hostOf cX2_hostOf 2 (some .int) :: ([.fieldLink RX2 9 "VouchGate$Ties" "hosts" "[I"] ++ wsX20)
def wsX2_badgeOf : List Cond := .code yX2_badgeOf cX2_badgeOf 2 (some .int) :: ([.fieldLink RX2 28 "VouchGate$Ties" "badges" "[I"] ++ wsX20)
def wsX3_isPerson : List Cond := .code yX3_isPerson cX3_isPerson 1 (some .boolean) :: ([])
def wsX3_isGuest : List Cond := .code yX3_isGuest cX3_isGuest 1 (some .boolean) :: ([])
def wsX2_stepsToStaff : List Cond := .code yX2_stepsToStaff cX2_stepsToStaff 4 (some .int) :: ([.fieldLink RX2 9 "VouchGate$Ties" "hosts" "[I", .static yX3_isPerson, .initialized RX3, .code yX3_isPerson cX3_isPerson 1 (some .boolean), .static yX3_isGuest, .code yX3_isGuest cX3_isGuest 1 (some .boolean)] ++ wsX20)
def wsX2_isTrusted : List Cond := .code yX2_isTrusted cX2_isTrusted 2 (some .boolean) :: ([.methodLink RX2 48 yX2_stepsToStaff, .instanceMethod yX2_stepsToStaff, .selects RX2 yX2_stepsToStaff yX2_stepsToStaff, .initialized RX2, .code yX2_stepsToStaff cX2_stepsToStaff 4 (some .int), .fieldLink RX2 9 "VouchGate$Ties" "hosts" "[I", .static yX3_isPerson, .initialized RX3, .code yX3_isPerson cX3_isPerson 1 (some .boolean), .static yX3_isGuest, .code yX3_isGuest cX3_isGuest 1 (some .boolean)] ++ wsX20)
def wsX2_roomsOf : List Cond := .code yX2_roomsOf cX2_roomsOf 5 (some .int) :: ([.fieldLink RX2 15 "VouchGate$Ties" "rooms" "[I", .fieldLink RX2 9 "VouchGate$Ties" "hosts" "[I", .methodLink RX2 52 yX2_isTrusted, .instanceMethod yX2_isTrusted, .selects RX2 yX2_isTrusted yX2_isTrusted, .initialized RX2, .code yX2_isTrusted cX2_isTrusted 2 (some .boolean), .methodLink RX2 48 yX2_stepsToStaff, .instanceMethod yX2_stepsToStaff, .selects RX2 yX2_stepsToStaff yX2_stepsToStaff, .code yX2_stepsToStaff cX2_stepsToStaff 4 (some .int), .static yX3_isPerson, .initialized RX3, .code yX3_isPerson cX3_isPerson 1 (some .boolean), .static yX3_isGuest, .code yX3_isGuest cX3_isGuest 1 (some .boolean)] ++ wsX20)
def wsX2_standsOnBadVouching : List Cond := .code yX2_standsOnBadVouching cX2_standsOnBadVouching 4 (some .boolean) :: ([.fieldLink RX2 24 "VouchGate$Ties" "bad" "[Z", .fieldLink RX2 9 "VouchGate$Ties" "hosts" "[I", .static yX3_isGuest, .initialized RX3, .code yX3_isGuest cX3_isGuest 1 (some .boolean)] ++ wsX20)
def wsX2_isTainted : List Cond := .code yX2_isTainted cX2_isTainted 2 (some .boolean) :: ([.fieldLink RX2 31 "VouchGate$Ties" "lost" "[Z", .methodLink RX2 55 yX2_standsOnBadVouching, .instanceMethod yX2_standsOnBadVouching, .selects RX2 yX2_standsOnBadVouching yX2_standsOnBadVouching, .initialized RX2, .code yX2_standsOnBadVouching cX2_standsOnBadVouching 4 (some .boolean), .fieldLink RX2 24 "VouchGate$Ties" "bad" "[Z", .fieldLink RX2 9 "VouchGate$Ties" "hosts" "[I", .static yX3_isGuest, .initialized RX3, .code yX3_isGuest cX3_isGuest 1 (some .boolean)] ++ wsX20)
def wsX2_countTainted : List Cond := .code yX2_countTainted cX2_countTainted 3 (some .int) :: ([.methodLink RX2 58 yX2_isTainted, .instanceMethod yX2_isTainted, .selects RX2 yX2_isTainted yX2_isTainted, .initialized RX2, .code yX2_isTainted cX2_isTainted 2 (some .boolean), .fieldLink RX2 31 "VouchGate$Ties" "lost" "[Z", .methodLink RX2 55 yX2_standsOnBadVouching, .instanceMethod yX2_standsOnBadVouching, .selects RX2 yX2_standsOnBadVouching yX2_standsOnBadVouching, .code yX2_standsOnBadVouching cX2_standsOnBadVouching 4 (some .boolean), .fieldLink RX2 24 "VouchGate$Ties" "bad" "[Z", .fieldLink RX2 9 "VouchGate$Ties" "hosts" "[I", .static yX3_isGuest, .initialized RX3, .code yX3_isGuest cX3_isGuest 1 (some .boolean)] ++ wsX20)
def wsX3_init_r1 : List Cond := [Cond.methodLink RX3 1 objectInit, Cond.instanceMethod objectInit, Cond.code objectInit ⟨#[0xb1]⟩ 1 none, Cond.classLink RX3 7 RX0, Cond.instantiable RX0 4, Cond.initialized RX0, Cond.fieldLink RX3 10 "VouchGate" "desk" "LVouchGate$Desk;", Cond.classLink RX3 16 RX2, Cond.instantiable RX2 8, Cond.initialized RX2, Cond.fieldLink RX3 19 "VouchGate" "ties" "LVouchGate$Ties;", Cond.fieldLink RX3 23 "VouchGate" "tiesAnew" "LVouchGate$Ties;", Cond.classLink RX3 26 RX1, Cond.instantiable RX1 6, Cond.initialized RX1, Cond.fieldLink RX3 29 "VouchGate" "log" "LVouchGate$Log;", Cond.arrayClass .int, Cond.fieldLink RX3 33 "VouchGate" "keepers" "[I", Cond.fieldLink RX3 37 "VouchGate" "thresholds" "[I", Cond.fieldLink RX3 40 "VouchGate" "now" "I", Cond.methodLink RX3 9 yX0_init, Cond.instanceMethod yX0_init, Cond.code yX0_init cX0_init 2 none, Cond.methodLink RX0 3 objectInit]
def wsX3_init_r2 : List Cond := [Cond.fieldLink RX0 9 "VouchGate$Desk" "words" "[I", Cond.fieldLink RX0 15 "VouchGate$Desk" "failures" "[I", Cond.fieldLink RX0 18 "VouchGate$Desk" "restEnds" "[I", Cond.fieldLink RX0 21 "VouchGate$Desk" "sessionEnds" "[I", Cond.methodLink RX3 18 yX2_init, Cond.instanceMethod yX2_init, Cond.code yX2_init cX2_init 1 none, Cond.methodLink RX2 3 objectInit, Cond.fieldLink RX2 9 "VouchGate$Ties" "hosts" "[I", Cond.fieldLink RX2 15 "VouchGate$Ties" "rooms" "[I", Cond.fieldLink RX2 18 "VouchGate$Ties" "minutes" "[I", Cond.fieldLink RX2 21 "VouchGate$Ties" "hostBadges" "[I", Cond.arrayClass .boolean, Cond.fieldLink RX2 24 "VouchGate$Ties" "bad" "[Z", Cond.fieldLink RX2 28 "VouchGate$Ties" "badges" "[I", Cond.fieldLink RX2 31 "VouchGate$Ties" "lost" "[Z", Cond.methodLink RX2 34 yX2_reset, Cond.instanceMethod yX2_reset, Cond.selects RX2 yX2_reset yX2_reset, Cond.code yX2_reset cX2_reset 2 none, Cond.fieldLink RX2 37 "VouchGate$Ties" "nextBadge" "I", Cond.methodLink RX3 28 yX1_init, Cond.instanceMethod yX1_init, Cond.code yX1_init cX1_init 1 none]
def wsX3_init_r3 : List Cond := [Cond.methodLink RX1 3 objectInit, Cond.fieldLink RX1 9 "VouchGate$Log" "kinds" "[I", Cond.fieldLink RX1 15 "VouchGate$Log" "persons" "[I", Cond.fieldLink RX1 18 "VouchGate$Log" "guests" "[I", Cond.fieldLink RX1 21 "VouchGate$Log" "minutes" "[I", Cond.fieldLink RX1 24 "VouchGate$Log" "size" "I", Cond.fieldLink RX1 28 "VouchGate$Log" "vouchings" "I"]
def wsX3_init : List Cond := .code yX3_init cX3_init 2 none :: ((wsX3_init_r1 ++ (wsX3_init_r2 ++ wsX3_init_r3)) ++ wsX00 ++ wsX30 ++ wsX20 ++ wsX10)
def wsX3_word : List Cond := .code yX3_word cX3_word 3 none :: ([.classLink RX3 48 "java/lang/IndexOutOfBoundsException", .initialized "java/lang/IndexOutOfBoundsException", .classLink RX3 55 "java/lang/IllegalArgumentException", .initialized "java/lang/IllegalArgumentException", .classLink RX3 64 "java/lang/IllegalStateException", .initialized "java/lang/IllegalStateException", .fieldLink RX3 10 "VouchGate" "desk" "LVouchGate$Desk;", .fieldLink RX3 40 "VouchGate" "now" "I", .methodLink RX3 44 yX3_isPerson, .static yX3_isPerson, .initialized RX3, .code yX3_isPerson cX3_isPerson 1 (some .boolean), .methodLink RX3 60 yX0_isInSession, .instanceMethod yX0_isInSession, .selects RX0 yX0_isInSession yX0_isInSession, .initialized RX0, .code yX0_isInSession cX0_isInSession 3 (some .boolean), .fieldLink RX0 21 "VouchGate$Desk" "sessionEnds" "[I", .methodLink RX3 69 yX0_setWord, .instanceMethod yX0_setWord, .selects RX0 yX0_setWord yX0_setWord, .code yX0_setWord cX0_setWord 3 none, .fieldLink RX0 9 "VouchGate$Desk" "words" "[I"] ++ wsX30 ++ wsX00 ++ (vx_atS RX3 52 "java/lang/IndexOutOfBoundsException" ["java/lang/RuntimeException", "java/lang/Exception"]).filter goodWord ++ (vx_atS RX3 59 "java/lang/IllegalArgumentException" ["java/lang/RuntimeException", "java/lang/Exception"]).filter goodWord ++ (vx_atS RX3 68 "java/lang/IllegalStateException" ["java/lang/RuntimeException", "java/lang/Exception"]).filter goodWord)
def wsX3_login_r1 : List Cond := [Cond.classLink RX3 48 "java/lang/IndexOutOfBoundsException", Cond.initialized "java/lang/IndexOutOfBoundsException", Cond.classLink RX3 55 "java/lang/IllegalArgumentException", Cond.initialized "java/lang/IllegalArgumentException", Cond.fieldLink RX3 10 "VouchGate" "desk" "LVouchGate$Desk;", Cond.fieldLink RX3 40 "VouchGate" "now" "I", Cond.methodLink RX3 44 yX3_isPerson, Cond.static yX3_isPerson, Cond.initialized RX3, Cond.code yX3_isPerson cX3_isPerson 1 (some .boolean), Cond.methodLink RX3 75 yX0_tryLogin, Cond.instanceMethod yX0_tryLogin, Cond.selects RX0 yX0_tryLogin yX0_tryLogin, Cond.initialized RX0, Cond.code yX0_tryLogin cX0_tryLogin 5 (some .int), Cond.fieldLink RX0 18 "VouchGate$Desk" "restEnds" "[I", Cond.fieldLink RX0 9 "VouchGate$Desk" "words" "[I", Cond.fieldLink RX0 15 "VouchGate$Desk" "failures" "[I", Cond.fieldLink RX0 21 "VouchGate$Desk" "sessionEnds" "[I", Cond.methodLink RX0 24 yX0_countFailure, Cond.instanceMethod yX0_countFailure, Cond.selects RX0 yX0_countFailure yX0_countFailure, Cond.code yX0_countFailure cX0_countFailure 3 none, Cond.methodLink RX0 28 yX0_codeOf]
def wsX3_login_r2 : List Cond := [Cond.static yX0_codeOf, Cond.code yX0_codeOf cX0_codeOf 2 (some .int)]
def wsX3_login : List Cond := .code yX3_login cX3_login 4 (some .int) :: ((wsX3_login_r1 ++ wsX3_login_r2) ++ wsX30 ++ wsX00 ++ (vx_atS RX3 52 "java/lang/IndexOutOfBoundsException" ["java/lang/RuntimeException", "java/lang/Exception"]).filter goodWord ++ (vx_atS RX3 59 "java/lang/IllegalArgumentException" ["java/lang/RuntimeException", "java/lang/Exception"]).filter goodWord)
def wsX3_pass : List Cond := .code yX3_pass cX3_pass 2 (some .int) :: ([.classLink RX3 55 "java/lang/IllegalArgumentException", .initialized "java/lang/IllegalArgumentException", .fieldLink RX3 40 "VouchGate" "now" "I"] ++ wsX30 ++ (vx_atS RX3 59 "java/lang/IllegalArgumentException" ["java/lang/RuntimeException", "java/lang/Exception"]).filter goodWord)
def wsX3_mayAct_r1 : List Cond := [Cond.fieldLink RX3 10 "VouchGate" "desk" "LVouchGate$Desk;", Cond.fieldLink RX3 40 "VouchGate" "now" "I", Cond.fieldLink RX3 19 "VouchGate" "ties" "LVouchGate$Ties;", Cond.methodLink RX3 60 yX0_isInSession, Cond.instanceMethod yX0_isInSession, Cond.selects RX0 yX0_isInSession yX0_isInSession, Cond.initialized RX0, Cond.code yX0_isInSession cX0_isInSession 3 (some .boolean), Cond.fieldLink RX0 21 "VouchGate$Desk" "sessionEnds" "[I", Cond.methodLink RX3 174 yX2_isTrusted, Cond.instanceMethod yX2_isTrusted, Cond.selects RX2 yX2_isTrusted yX2_isTrusted, Cond.initialized RX2, Cond.code yX2_isTrusted cX2_isTrusted 2 (some .boolean), Cond.methodLink RX2 48 yX2_stepsToStaff, Cond.instanceMethod yX2_stepsToStaff, Cond.selects RX2 yX2_stepsToStaff yX2_stepsToStaff, Cond.code yX2_stepsToStaff cX2_stepsToStaff 4 (some .int), Cond.fieldLink RX2 9 "VouchGate$Ties" "hosts" "[I", Cond.static yX3_isPerson, Cond.initialized RX3, Cond.code yX3_isPerson cX3_isPerson 1 (some .boolean), Cond.static yX3_isGuest, Cond.code yX3_isGuest cX3_isGuest 1 (some .boolean)]
def wsX3_mayAct_r2 : List Cond := [Cond.methodLink RX3 150 yX2_isTainted, Cond.instanceMethod yX2_isTainted, Cond.selects RX2 yX2_isTainted yX2_isTainted, Cond.code yX2_isTainted cX2_isTainted 2 (some .boolean), Cond.fieldLink RX2 31 "VouchGate$Ties" "lost" "[Z", Cond.methodLink RX2 55 yX2_standsOnBadVouching, Cond.instanceMethod yX2_standsOnBadVouching, Cond.selects RX2 yX2_standsOnBadVouching yX2_standsOnBadVouching, Cond.code yX2_standsOnBadVouching cX2_standsOnBadVouching 4 (some .boolean), Cond.fieldLink RX2 24 "VouchGate$Ties" "bad" "[Z"]
def wsX3_mayAct : List Cond := .code yX3_mayAct cX3_mayAct 2 (some .boolean) :: ((wsX3_mayAct_r1 ++ wsX3_mayAct_r2) ++ wsX30 ++ wsX00 ++ wsX20)
def wsX3_vouch_r1 : List Cond := [Cond.classLink RX3 48 "java/lang/IndexOutOfBoundsException", Cond.initialized "java/lang/IndexOutOfBoundsException", Cond.classLink RX3 55 "java/lang/IllegalArgumentException", Cond.initialized "java/lang/IllegalArgumentException", Cond.classLink RX3 64 "java/lang/IllegalStateException", Cond.initialized "java/lang/IllegalStateException", Cond.fieldLink RX3 29 "VouchGate" "log" "LVouchGate$Log;", Cond.fieldLink RX3 19 "VouchGate" "ties" "LVouchGate$Ties;", Cond.fieldLink RX3 40 "VouchGate" "now" "I", Cond.methodLink RX3 44 yX3_isPerson, Cond.static yX3_isPerson, Cond.initialized RX3, Cond.code yX3_isPerson cX3_isPerson 1 (some .boolean), Cond.methodLink RX3 81 yX3_isGuest, Cond.static yX3_isGuest, Cond.code yX3_isGuest cX3_isGuest 1 (some .boolean), Cond.methodLink RX3 88 yX3_mayAct, Cond.instanceMethod yX3_mayAct, Cond.selects RX3 yX3_mayAct yX3_mayAct, Cond.code yX3_mayAct cX3_mayAct 2 (some .boolean), Cond.fieldLink RX3 10 "VouchGate" "desk" "LVouchGate$Desk;", Cond.methodLink RX3 60 yX0_isInSession, Cond.instanceMethod yX0_isInSession, Cond.selects RX0 yX0_isInSession yX0_isInSession]
def wsX3_vouch_r2 : List Cond := [Cond.initialized RX0, Cond.code yX0_isInSession cX0_isInSession 3 (some .boolean), Cond.fieldLink RX0 21 "VouchGate$Desk" "sessionEnds" "[I", Cond.methodLink RX3 174 yX2_isTrusted, Cond.instanceMethod yX2_isTrusted, Cond.selects RX2 yX2_isTrusted yX2_isTrusted, Cond.initialized RX2, Cond.code yX2_isTrusted cX2_isTrusted 2 (some .boolean), Cond.methodLink RX2 48 yX2_stepsToStaff, Cond.instanceMethod yX2_stepsToStaff, Cond.selects RX2 yX2_stepsToStaff yX2_stepsToStaff, Cond.code yX2_stepsToStaff cX2_stepsToStaff 4 (some .int), Cond.fieldLink RX2 9 "VouchGate$Ties" "hosts" "[I", Cond.methodLink RX3 150 yX2_isTainted, Cond.instanceMethod yX2_isTainted, Cond.selects RX2 yX2_isTainted yX2_isTainted, Cond.code yX2_isTainted cX2_isTainted 2 (some .boolean), Cond.fieldLink RX2 31 "VouchGate$Ties" "lost" "[Z", Cond.methodLink RX2 55 yX2_standsOnBadVouching, Cond.instanceMethod yX2_standsOnBadVouching, Cond.selects RX2 yX2_standsOnBadVouching yX2_standsOnBadVouching, Cond.code yX2_standsOnBadVouching cX2_standsOnBadVouching 4 (some .boolean), Cond.fieldLink RX2 24 "VouchGate$Ties" "bad" "[Z", Cond.methodLink RX3 91 yX1_countVouchings]
def wsX3_vouch_r3 : List Cond := [Cond.instanceMethod yX1_countVouchings, Cond.selects RX1 yX1_countVouchings yX1_countVouchings, Cond.initialized RX1, Cond.code yX1_countVouchings cX1_countVouchings 1 (some .int), Cond.fieldLink RX1 28 "VouchGate$Log" "vouchings" "I", Cond.methodLink RX3 97 yX2_tie, Cond.instanceMethod yX2_tie, Cond.selects RX2 yX2_tie yX2_tie, Cond.code yX2_tie cX2_tie 4 none, Cond.fieldLink RX2 18 "VouchGate$Ties" "minutes" "[I", Cond.fieldLink RX2 21 "VouchGate$Ties" "hostBadges" "[I", Cond.fieldLink RX2 28 "VouchGate$Ties" "badges" "[I", Cond.methodLink RX3 101 yX2_setRooms, Cond.instanceMethod yX2_setRooms, Cond.selects RX2 yX2_setRooms yX2_setRooms, Cond.code yX2_setRooms cX2_setRooms 3 none, Cond.fieldLink RX2 15 "VouchGate$Ties" "rooms" "[I", Cond.methodLink RX3 104 yX1_addVouching, Cond.instanceMethod yX1_addVouching, Cond.selects RX1 yX1_addVouching yX1_addVouching, Cond.code yX1_addVouching cX1_addVouching 4 none, Cond.methodLink RX1 31 yX1_add, Cond.instanceMethod yX1_add, Cond.selects RX1 yX1_add yX1_add]
def wsX3_vouch_r4 : List Cond := [Cond.code yX1_add cX1_add 5 none, Cond.fieldLink RX1 24 "VouchGate$Log" "size" "I", Cond.fieldLink RX1 9 "VouchGate$Log" "kinds" "[I", Cond.fieldLink RX1 15 "VouchGate$Log" "persons" "[I", Cond.fieldLink RX1 18 "VouchGate$Log" "guests" "[I", Cond.fieldLink RX1 21 "VouchGate$Log" "minutes" "[I"]
def wsX3_vouch : List Cond := .code yX3_vouch cX3_vouch 4 (some .int) :: ((wsX3_vouch_r1 ++ (wsX3_vouch_r2 ++ (wsX3_vouch_r3 ++ wsX3_vouch_r4))) ++ wsX30 ++ wsX00 ++ wsX20 ++ wsX10 ++ (vx_atS RX3 52 "java/lang/IndexOutOfBoundsException" ["java/lang/RuntimeException", "java/lang/Exception"]).filter goodWord ++ (vx_atS RX3 59 "java/lang/IllegalArgumentException" ["java/lang/RuntimeException", "java/lang/Exception"]).filter goodWord ++ (vx_atS RX3 68 "java/lang/IllegalStateException" ["java/lang/RuntimeException", "java/lang/Exception"]).filter goodWord)
def wsX3_end_r1 : List Cond := [Cond.classLink RX3 48 "java/lang/IndexOutOfBoundsException", Cond.initialized "java/lang/IndexOutOfBoundsException", Cond.classLink RX3 64 "java/lang/IllegalStateException", Cond.initialized "java/lang/IllegalStateException", Cond.fieldLink RX3 19 "VouchGate" "ties" "LVouchGate$Ties;", Cond.fieldLink RX3 29 "VouchGate" "log" "LVouchGate$Log;", Cond.methodLink RX3 81 yX3_isGuest, Cond.static yX3_isGuest, Cond.initialized RX3, Cond.code yX3_isGuest cX3_isGuest 1 (some .boolean), Cond.methodLink RX3 109 yX2_hostOf, Cond.instanceMethod yX2_hostOf, Cond.selects RX2 yX2_hostOf yX2_hostOf, Cond.initialized RX2, Cond.code yX2_hostOf cX2_hostOf 2 (some .int), Cond.fieldLink RX2 9 "VouchGate$Ties" "hosts" "[I", Cond.methodLink RX3 115 yX2_untie, Cond.instanceMethod yX2_untie, Cond.selects RX2 yX2_untie yX2_untie, Cond.code yX2_untie cX2_untie 2 none, Cond.fieldLink RX2 24 "VouchGate$Ties" "bad" "[Z", Cond.methodLink RX3 119 yX1_addEnding, Cond.instanceMethod yX1_addEnding, Cond.selects RX1 yX1_addEnding yX1_addEnding]
def wsX3_end_r2 : List Cond := [Cond.initialized RX1, Cond.code yX1_addEnding cX1_addEnding 2 none, Cond.methodLink RX1 31 yX1_add, Cond.instanceMethod yX1_add, Cond.selects RX1 yX1_add yX1_add, Cond.code yX1_add cX1_add 5 none, Cond.fieldLink RX1 24 "VouchGate$Log" "size" "I", Cond.fieldLink RX1 9 "VouchGate$Log" "kinds" "[I", Cond.fieldLink RX1 15 "VouchGate$Log" "persons" "[I", Cond.fieldLink RX1 18 "VouchGate$Log" "guests" "[I", Cond.fieldLink RX1 21 "VouchGate$Log" "minutes" "[I"]
def wsX3_end : List Cond := .code yX3_end cX3_end 3 (some .int) :: ((wsX3_end_r1 ++ wsX3_end_r2) ++ wsX30 ++ wsX20 ++ wsX10 ++ (vx_atS RX3 52 "java/lang/IndexOutOfBoundsException" ["java/lang/RuntimeException", "java/lang/Exception"]).filter goodWord ++ (vx_atS RX3 68 "java/lang/IllegalStateException" ["java/lang/RuntimeException", "java/lang/Exception"]).filter goodWord)
def wsX3_lose_r1 : List Cond := [Cond.classLink RX3 48 "java/lang/IndexOutOfBoundsException", Cond.initialized "java/lang/IndexOutOfBoundsException", Cond.classLink RX3 55 "java/lang/IllegalArgumentException", Cond.initialized "java/lang/IllegalArgumentException", Cond.fieldLink RX3 40 "VouchGate" "now" "I", Cond.fieldLink RX3 19 "VouchGate" "ties" "LVouchGate$Ties;", Cond.fieldLink RX3 29 "VouchGate" "log" "LVouchGate$Log;", Cond.methodLink RX3 44 yX3_isPerson, Cond.static yX3_isPerson, Cond.initialized RX3, Cond.code yX3_isPerson cX3_isPerson 1 (some .boolean), Cond.methodLink RX3 124 yX2_markLost, Cond.instanceMethod yX2_markLost, Cond.selects RX2 yX2_markLost yX2_markLost, Cond.initialized RX2, Cond.code yX2_markLost cX2_markLost 4 none, Cond.fieldLink RX2 31 "VouchGate$Ties" "lost" "[Z", Cond.fieldLink RX2 9 "VouchGate$Ties" "hosts" "[I", Cond.fieldLink RX2 21 "VouchGate$Ties" "hostBadges" "[I", Cond.fieldLink RX2 28 "VouchGate$Ties" "badges" "[I", Cond.fieldLink RX2 18 "VouchGate$Ties" "minutes" "[I", Cond.fieldLink RX2 24 "VouchGate$Ties" "bad" "[Z", Cond.methodLink RX3 127 yX1_addLoss, Cond.instanceMethod yX1_addLoss]
def wsX3_lose_r2 : List Cond := [Cond.selects RX1 yX1_addLoss yX1_addLoss, Cond.initialized RX1, Cond.code yX1_addLoss cX1_addLoss 3 none, Cond.methodLink RX1 31 yX1_add, Cond.instanceMethod yX1_add, Cond.selects RX1 yX1_add yX1_add, Cond.code yX1_add cX1_add 5 none, Cond.fieldLink RX1 24 "VouchGate$Log" "size" "I", Cond.fieldLink RX1 9 "VouchGate$Log" "kinds" "[I", Cond.fieldLink RX1 15 "VouchGate$Log" "persons" "[I", Cond.fieldLink RX1 18 "VouchGate$Log" "guests" "[I", Cond.fieldLink RX1 21 "VouchGate$Log" "minutes" "[I", Cond.methodLink RX3 130 yX2_countTainted, Cond.instanceMethod yX2_countTainted, Cond.selects RX2 yX2_countTainted yX2_countTainted, Cond.code yX2_countTainted cX2_countTainted 3 (some .int), Cond.methodLink RX2 58 yX2_isTainted, Cond.instanceMethod yX2_isTainted, Cond.selects RX2 yX2_isTainted yX2_isTainted, Cond.code yX2_isTainted cX2_isTainted 2 (some .boolean), Cond.methodLink RX2 55 yX2_standsOnBadVouching, Cond.instanceMethod yX2_standsOnBadVouching, Cond.selects RX2 yX2_standsOnBadVouching yX2_standsOnBadVouching, Cond.code yX2_standsOnBadVouching cX2_standsOnBadVouching 4 (some .boolean)]
def wsX3_lose_r3 : List Cond := [Cond.static yX3_isGuest, Cond.code yX3_isGuest cX3_isGuest 1 (some .boolean)]
def wsX3_lose : List Cond := .code yX3_lose cX3_lose 3 (some .int) :: ((wsX3_lose_r1 ++ (wsX3_lose_r2 ++ wsX3_lose_r3)) ++ wsX30 ++ wsX20 ++ wsX10 ++ (vx_atS RX3 52 "java/lang/IndexOutOfBoundsException" ["java/lang/RuntimeException", "java/lang/Exception"]).filter goodWord ++ (vx_atS RX3 59 "java/lang/IllegalArgumentException" ["java/lang/RuntimeException", "java/lang/Exception"]).filter goodWord)
def wsX3_issue_r1 : List Cond := [Cond.classLink RX3 48 "java/lang/IndexOutOfBoundsException", Cond.initialized "java/lang/IndexOutOfBoundsException", Cond.fieldLink RX3 19 "VouchGate" "ties" "LVouchGate$Ties;", Cond.fieldLink RX3 29 "VouchGate" "log" "LVouchGate$Log;", Cond.methodLink RX3 44 yX3_isPerson, Cond.static yX3_isPerson, Cond.initialized RX3, Cond.code yX3_isPerson cX3_isPerson 1 (some .boolean), Cond.methodLink RX3 133 yX2_renewBadge, Cond.instanceMethod yX2_renewBadge, Cond.selects RX2 yX2_renewBadge yX2_renewBadge, Cond.initialized RX2, Cond.code yX2_renewBadge cX2_renewBadge 2 none, Cond.fieldLink RX2 28 "VouchGate$Ties" "badges" "[I", Cond.fieldLink RX2 37 "VouchGate$Ties" "nextBadge" "I", Cond.fieldLink RX2 31 "VouchGate$Ties" "lost" "[Z", Cond.methodLink RX3 136 yX1_addIssue, Cond.instanceMethod yX1_addIssue, Cond.selects RX1 yX1_addIssue yX1_addIssue, Cond.initialized RX1, Cond.code yX1_addIssue cX1_addIssue 2 none, Cond.methodLink RX1 31 yX1_add, Cond.instanceMethod yX1_add, Cond.selects RX1 yX1_add yX1_add]
def wsX3_issue_r2 : List Cond := [Cond.code yX1_add cX1_add 5 none, Cond.fieldLink RX1 24 "VouchGate$Log" "size" "I", Cond.fieldLink RX1 9 "VouchGate$Log" "kinds" "[I", Cond.fieldLink RX1 15 "VouchGate$Log" "persons" "[I", Cond.fieldLink RX1 18 "VouchGate$Log" "guests" "[I", Cond.fieldLink RX1 21 "VouchGate$Log" "minutes" "[I", Cond.methodLink RX3 139 yX2_badgeOf, Cond.instanceMethod yX2_badgeOf, Cond.selects RX2 yX2_badgeOf yX2_badgeOf, Cond.code yX2_badgeOf cX2_badgeOf 2 (some .int)]
def wsX3_issue : List Cond := .code yX3_issue cX3_issue 2 (some .int) :: ((wsX3_issue_r1 ++ wsX3_issue_r2) ++ wsX30 ++ wsX20 ++ wsX10 ++ (vx_atS RX3 52 "java/lang/IndexOutOfBoundsException" ["java/lang/RuntimeException", "java/lang/Exception"]).filter goodWord)
def wsX3_holds : List Cond := .code yX3_holds cX3_holds 2 (some .boolean) :: ([])
def wsX3_door_r1 : List Cond := [Cond.classLink RX3 48 "java/lang/IndexOutOfBoundsException", Cond.initialized "java/lang/IndexOutOfBoundsException", Cond.fieldLink RX3 19 "VouchGate" "ties" "LVouchGate$Ties;", Cond.methodLink RX3 44 yX3_isPerson, Cond.static yX3_isPerson, Cond.initialized RX3, Cond.code yX3_isPerson cX3_isPerson 1 (some .boolean), Cond.methodLink RX3 144 yX2_roomsOf, Cond.instanceMethod yX2_roomsOf, Cond.selects RX2 yX2_roomsOf yX2_roomsOf, Cond.initialized RX2, Cond.code yX2_roomsOf cX2_roomsOf 5 (some .int), Cond.fieldLink RX2 15 "VouchGate$Ties" "rooms" "[I", Cond.fieldLink RX2 9 "VouchGate$Ties" "hosts" "[I", Cond.methodLink RX2 52 yX2_isTrusted, Cond.instanceMethod yX2_isTrusted, Cond.selects RX2 yX2_isTrusted yX2_isTrusted, Cond.code yX2_isTrusted cX2_isTrusted 2 (some .boolean), Cond.methodLink RX2 48 yX2_stepsToStaff, Cond.instanceMethod yX2_stepsToStaff, Cond.selects RX2 yX2_stepsToStaff yX2_stepsToStaff, Cond.code yX2_stepsToStaff cX2_stepsToStaff 4 (some .int), Cond.static yX3_isGuest, Cond.code yX3_isGuest cX3_isGuest 1 (some .boolean)]
def wsX3_door_r2 : List Cond := [Cond.methodLink RX3 147 yX3_holds, Cond.static yX3_holds, Cond.code yX3_holds cX3_holds 2 (some .boolean), Cond.methodLink RX3 150 yX2_isTainted, Cond.instanceMethod yX2_isTainted, Cond.selects RX2 yX2_isTainted yX2_isTainted, Cond.code yX2_isTainted cX2_isTainted 2 (some .boolean), Cond.fieldLink RX2 31 "VouchGate$Ties" "lost" "[Z", Cond.methodLink RX2 55 yX2_standsOnBadVouching, Cond.instanceMethod yX2_standsOnBadVouching, Cond.selects RX2 yX2_standsOnBadVouching yX2_standsOnBadVouching, Cond.code yX2_standsOnBadVouching cX2_standsOnBadVouching 4 (some .boolean), Cond.fieldLink RX2 24 "VouchGate$Ties" "bad" "[Z"]
def wsX3_door : List Cond := .code yX3_door cX3_door 3 (some .boolean) :: ((wsX3_door_r1 ++ wsX3_door_r2) ++ wsX30 ++ wsX20 ++ (vx_atS RX3 52 "java/lang/IndexOutOfBoundsException" ["java/lang/RuntimeException", "java/lang/Exception"]).filter goodWord)
def wsX3_isKey : List Cond := .code yX3_isKey cX3_isKey 1 (some .boolean) :: ([])
def wsJ6_bitCount_0f7a4 : List Cond := .code yJ6_bitCount_0f7a4 cJ6_bitCount_0f7a4 1 (some .int) :: ([.constant RJ6 265 (1431655765), .constant RJ6 266 (858993459), .constant RJ6 267 (252645135)])
def wsX3_share : List Cond := .code yX3_share cX3_share 5 (some .int) :: ([.classLink RX3 48 "java/lang/IndexOutOfBoundsException", .initialized "java/lang/IndexOutOfBoundsException", .classLink RX3 55 "java/lang/IllegalArgumentException", .initialized "java/lang/IllegalArgumentException", .fieldLink RX3 37 "VouchGate" "thresholds" "[I", .fieldLink RX3 33 "VouchGate" "keepers" "[I", .methodLink RX3 153 yX3_isKey, .static yX3_isKey, .initialized RX3, .code yX3_isKey cX3_isKey 1 (some .boolean), .methodLink RX3 160 yJ6_bitCount_0f7a4, .static yJ6_bitCount_0f7a4, .initialized RJ6, .code yJ6_bitCount_0f7a4 cJ6_bitCount_0f7a4 1 (some .int), .constant RJ6 265 (1431655765), .constant RJ6 266 (858993459), .constant RJ6 267 (252645135)] ++ wsX30 ++ (vx_atS RX3 52 "java/lang/IndexOutOfBoundsException" ["java/lang/RuntimeException", "java/lang/Exception"]).filter goodWord ++ (vx_atS RX3 59 "java/lang/IllegalArgumentException" ["java/lang/RuntimeException", "java/lang/Exception"]).filter goodWord)
def wsX3_countUsers_r1 : List Cond := [Cond.fieldLink RX3 33 "VouchGate" "keepers" "[I", Cond.methodLink RX3 147 yX3_holds, Cond.static yX3_holds, Cond.initialized RX3, Cond.code yX3_holds cX3_holds 2 (some .boolean), Cond.methodLink RX3 88 yX3_mayAct, Cond.instanceMethod yX3_mayAct, Cond.selects RX3 yX3_mayAct yX3_mayAct, Cond.code yX3_mayAct cX3_mayAct 2 (some .boolean), Cond.fieldLink RX3 10 "VouchGate" "desk" "LVouchGate$Desk;", Cond.fieldLink RX3 40 "VouchGate" "now" "I", Cond.fieldLink RX3 19 "VouchGate" "ties" "LVouchGate$Ties;", Cond.methodLink RX3 60 yX0_isInSession, Cond.instanceMethod yX0_isInSession, Cond.selects RX0 yX0_isInSession yX0_isInSession, Cond.initialized RX0, Cond.code yX0_isInSession cX0_isInSession 3 (some .boolean), Cond.fieldLink RX0 21 "VouchGate$Desk" "sessionEnds" "[I", Cond.methodLink RX3 174 yX2_isTrusted, Cond.instanceMethod yX2_isTrusted, Cond.selects RX2 yX2_isTrusted yX2_isTrusted, Cond.initialized RX2, Cond.code yX2_isTrusted cX2_isTrusted 2 (some .boolean), Cond.methodLink RX2 48 yX2_stepsToStaff]
def wsX3_countUsers_r2 : List Cond := [Cond.instanceMethod yX2_stepsToStaff, Cond.selects RX2 yX2_stepsToStaff yX2_stepsToStaff, Cond.code yX2_stepsToStaff cX2_stepsToStaff 4 (some .int), Cond.fieldLink RX2 9 "VouchGate$Ties" "hosts" "[I", Cond.static yX3_isPerson, Cond.code yX3_isPerson cX3_isPerson 1 (some .boolean), Cond.static yX3_isGuest, Cond.code yX3_isGuest cX3_isGuest 1 (some .boolean), Cond.methodLink RX3 150 yX2_isTainted, Cond.instanceMethod yX2_isTainted, Cond.selects RX2 yX2_isTainted yX2_isTainted, Cond.code yX2_isTainted cX2_isTainted 2 (some .boolean), Cond.fieldLink RX2 31 "VouchGate$Ties" "lost" "[Z", Cond.methodLink RX2 55 yX2_standsOnBadVouching, Cond.instanceMethod yX2_standsOnBadVouching, Cond.selects RX2 yX2_standsOnBadVouching yX2_standsOnBadVouching, Cond.code yX2_standsOnBadVouching cX2_standsOnBadVouching 4 (some .boolean), Cond.fieldLink RX2 24 "VouchGate$Ties" "bad" "[Z"]
def wsX3_countUsers : List Cond := .code yX3_countUsers cX3_countUsers 4 (some .int) :: ((wsX3_countUsers_r1 ++ wsX3_countUsers_r2) ++ wsX30 ++ wsX00 ++ wsX20)
def wsX3_use_r1 : List Cond := [Cond.classLink RX3 48 "java/lang/IndexOutOfBoundsException", Cond.initialized "java/lang/IndexOutOfBoundsException", Cond.fieldLink RX3 37 "VouchGate" "thresholds" "[I", Cond.methodLink RX3 153 yX3_isKey, Cond.static yX3_isKey, Cond.initialized RX3, Cond.code yX3_isKey cX3_isKey 1 (some .boolean), Cond.methodLink RX3 167 yX3_countUsers, Cond.instanceMethod yX3_countUsers, Cond.selects RX3 yX3_countUsers yX3_countUsers, Cond.code yX3_countUsers cX3_countUsers 4 (some .int), Cond.fieldLink RX3 33 "VouchGate" "keepers" "[I", Cond.methodLink RX3 147 yX3_holds, Cond.static yX3_holds, Cond.code yX3_holds cX3_holds 2 (some .boolean), Cond.methodLink RX3 88 yX3_mayAct, Cond.instanceMethod yX3_mayAct, Cond.selects RX3 yX3_mayAct yX3_mayAct, Cond.code yX3_mayAct cX3_mayAct 2 (some .boolean), Cond.fieldLink RX3 10 "VouchGate" "desk" "LVouchGate$Desk;", Cond.fieldLink RX3 40 "VouchGate" "now" "I", Cond.fieldLink RX3 19 "VouchGate" "ties" "LVouchGate$Ties;", Cond.methodLink RX3 60 yX0_isInSession, Cond.instanceMethod yX0_isInSession]
def wsX3_use_r2 : List Cond := [Cond.selects RX0 yX0_isInSession yX0_isInSession, Cond.initialized RX0, Cond.code yX0_isInSession cX0_isInSession 3 (some .boolean), Cond.fieldLink RX0 21 "VouchGate$Desk" "sessionEnds" "[I", Cond.methodLink RX3 174 yX2_isTrusted, Cond.instanceMethod yX2_isTrusted, Cond.selects RX2 yX2_isTrusted yX2_isTrusted, Cond.initialized RX2, Cond.code yX2_isTrusted cX2_isTrusted 2 (some .boolean), Cond.methodLink RX2 48 yX2_stepsToStaff, Cond.instanceMethod yX2_stepsToStaff, Cond.selects RX2 yX2_stepsToStaff yX2_stepsToStaff, Cond.code yX2_stepsToStaff cX2_stepsToStaff 4 (some .int), Cond.fieldLink RX2 9 "VouchGate$Ties" "hosts" "[I", Cond.static yX3_isPerson, Cond.code yX3_isPerson cX3_isPerson 1 (some .boolean), Cond.static yX3_isGuest, Cond.code yX3_isGuest cX3_isGuest 1 (some .boolean), Cond.methodLink RX3 150 yX2_isTainted, Cond.instanceMethod yX2_isTainted, Cond.selects RX2 yX2_isTainted yX2_isTainted, Cond.code yX2_isTainted cX2_isTainted 2 (some .boolean), Cond.fieldLink RX2 31 "VouchGate$Ties" "lost" "[Z", Cond.methodLink RX2 55 yX2_standsOnBadVouching]
def wsX3_use_r3 : List Cond := [Cond.instanceMethod yX2_standsOnBadVouching, Cond.selects RX2 yX2_standsOnBadVouching yX2_standsOnBadVouching, Cond.code yX2_standsOnBadVouching cX2_standsOnBadVouching 4 (some .boolean), Cond.fieldLink RX2 24 "VouchGate$Ties" "bad" "[Z"]
def wsX3_use : List Cond := .code yX3_use cX3_use 2 (some .boolean) :: ((wsX3_use_r1 ++ (wsX3_use_r2 ++ wsX3_use_r3)) ++ wsX30 ++ wsX00 ++ wsX20 ++ (vx_atS RX3 52 "java/lang/IndexOutOfBoundsException" ["java/lang/RuntimeException", "java/lang/Exception"]).filter goodWord)
def wsX3_asNumber : List Cond := .code yX3_asNumber cX3_asNumber 1 (some .int) :: ([])
def wsX3_of_r1 : List Cond := [Cond.classLink RX3 48 "java/lang/IndexOutOfBoundsException", Cond.initialized "java/lang/IndexOutOfBoundsException", Cond.classLink RX3 55 "java/lang/IllegalArgumentException", Cond.initialized "java/lang/IllegalArgumentException", Cond.fieldLink RX3 10 "VouchGate" "desk" "LVouchGate$Desk;", Cond.fieldLink RX3 40 "VouchGate" "now" "I", Cond.fieldLink RX3 19 "VouchGate" "ties" "LVouchGate$Ties;", Cond.methodLink RX3 44 yX3_isPerson, Cond.static yX3_isPerson, Cond.initialized RX3, Cond.code yX3_isPerson cX3_isPerson 1 (some .boolean), Cond.methodLink RX3 60 yX0_isInSession, Cond.instanceMethod yX0_isInSession, Cond.selects RX0 yX0_isInSession yX0_isInSession, Cond.initialized RX0, Cond.code yX0_isInSession cX0_isInSession 3 (some .boolean), Cond.fieldLink RX0 21 "VouchGate$Desk" "sessionEnds" "[I", Cond.methodLink RX3 170 yX3_asNumber, Cond.static yX3_asNumber, Cond.code yX3_asNumber cX3_asNumber 1 (some .int), Cond.methodLink RX3 174 yX2_isTrusted, Cond.instanceMethod yX2_isTrusted, Cond.selects RX2 yX2_isTrusted yX2_isTrusted, Cond.initialized RX2]
def wsX3_of_r2 : List Cond := [Cond.code yX2_isTrusted cX2_isTrusted 2 (some .boolean), Cond.methodLink RX2 48 yX2_stepsToStaff, Cond.instanceMethod yX2_stepsToStaff, Cond.selects RX2 yX2_stepsToStaff yX2_stepsToStaff, Cond.code yX2_stepsToStaff cX2_stepsToStaff 4 (some .int), Cond.fieldLink RX2 9 "VouchGate$Ties" "hosts" "[I", Cond.static yX3_isGuest, Cond.code yX3_isGuest cX3_isGuest 1 (some .boolean), Cond.methodLink RX3 150 yX2_isTainted, Cond.instanceMethod yX2_isTainted, Cond.selects RX2 yX2_isTainted yX2_isTainted, Cond.code yX2_isTainted cX2_isTainted 2 (some .boolean), Cond.fieldLink RX2 31 "VouchGate$Ties" "lost" "[Z", Cond.methodLink RX2 55 yX2_standsOnBadVouching, Cond.instanceMethod yX2_standsOnBadVouching, Cond.selects RX2 yX2_standsOnBadVouching yX2_standsOnBadVouching, Cond.code yX2_standsOnBadVouching cX2_standsOnBadVouching 4 (some .boolean), Cond.fieldLink RX2 24 "VouchGate$Ties" "bad" "[Z", Cond.methodLink RX3 144 yX2_roomsOf, Cond.instanceMethod yX2_roomsOf, Cond.selects RX2 yX2_roomsOf yX2_roomsOf, Cond.code yX2_roomsOf cX2_roomsOf 5 (some .int), Cond.fieldLink RX2 15 "VouchGate$Ties" "rooms" "[I", Cond.methodLink RX2 52 yX2_isTrusted]
def wsX3_of_r3 : List Cond := [Cond.methodLink RX3 109 yX2_hostOf, Cond.instanceMethod yX2_hostOf, Cond.selects RX2 yX2_hostOf yX2_hostOf, Cond.code yX2_hostOf cX2_hostOf 2 (some .int), Cond.methodLink RX3 177 yX0_failuresOf, Cond.instanceMethod yX0_failuresOf, Cond.selects RX0 yX0_failuresOf yX0_failuresOf, Cond.code yX0_failuresOf cX0_failuresOf 2 (some .int), Cond.fieldLink RX0 15 "VouchGate$Desk" "failures" "[I", Cond.methodLink RX3 180 yX0_sessionEndOf, Cond.instanceMethod yX0_sessionEndOf, Cond.selects RX0 yX0_sessionEndOf yX0_sessionEndOf, Cond.code yX0_sessionEndOf cX0_sessionEndOf 2 (some .int), Cond.methodLink RX3 139 yX2_badgeOf, Cond.instanceMethod yX2_badgeOf, Cond.selects RX2 yX2_badgeOf yX2_badgeOf, Cond.code yX2_badgeOf cX2_badgeOf 2 (some .int), Cond.fieldLink RX2 28 "VouchGate$Ties" "badges" "[I"]
def wsX3_of : List Cond := .code yX3_of cX3_of 3 (some .int) :: ((wsX3_of_r1 ++ (wsX3_of_r2 ++ wsX3_of_r3)) ++ wsX30 ++ wsX00 ++ wsX20 ++ (vx_atS RX3 52 "java/lang/IndexOutOfBoundsException" ["java/lang/RuntimeException", "java/lang/Exception"]).filter goodWord ++ (vx_atS RX3 59 "java/lang/IllegalArgumentException" ["java/lang/RuntimeException", "java/lang/Exception"]).filter goodWord)
def wsX3_taintedAnew_r1 : List Cond := [Cond.classLink RX3 48 "java/lang/IndexOutOfBoundsException", Cond.initialized "java/lang/IndexOutOfBoundsException", Cond.fieldLink RX3 29 "VouchGate" "log" "LVouchGate$Log;", Cond.fieldLink RX3 23 "VouchGate" "tiesAnew" "LVouchGate$Ties;", Cond.methodLink RX3 44 yX3_isPerson, Cond.static yX3_isPerson, Cond.initialized RX3, Cond.code yX3_isPerson cX3_isPerson 1 (some .boolean), Cond.methodLink RX3 185 yX1_replayInto, Cond.instanceMethod yX1_replayInto, Cond.selects RX1 yX1_replayInto yX1_replayInto, Cond.initialized RX1, Cond.code yX1_replayInto cX1_replayInto 3 none, Cond.fieldLink RX1 24 "VouchGate$Log" "size" "I", Cond.methodLink RX1 35 yX2_reset, Cond.instanceMethod yX2_reset, Cond.selects RX2 yX2_reset yX2_reset, Cond.initialized RX2, Cond.code yX2_reset cX2_reset 2 none, Cond.fieldLink RX2 9 "VouchGate$Ties" "hosts" "[I", Cond.fieldLink RX2 24 "VouchGate$Ties" "bad" "[Z", Cond.fieldLink RX2 28 "VouchGate$Ties" "badges" "[I", Cond.fieldLink RX2 31 "VouchGate$Ties" "lost" "[Z", Cond.fieldLink RX2 37 "VouchGate$Ties" "nextBadge" "I"]
def wsX3_taintedAnew_r2 : List Cond := [Cond.methodLink RX1 40 yX1_replayOne, Cond.instanceMethod yX1_replayOne, Cond.selects RX1 yX1_replayOne yX1_replayOne, Cond.code yX1_replayOne cX1_replayOne 3 none, Cond.fieldLink RX1 9 "VouchGate$Log" "kinds" "[I", Cond.fieldLink RX1 15 "VouchGate$Log" "persons" "[I", Cond.fieldLink RX1 18 "VouchGate$Log" "guests" "[I", Cond.fieldLink RX1 21 "VouchGate$Log" "minutes" "[I", Cond.methodLink RX1 44 yX2_tie, Cond.instanceMethod yX2_tie, Cond.selects RX2 yX2_tie yX2_tie, Cond.code yX2_tie cX2_tie 4 none, Cond.fieldLink RX2 18 "VouchGate$Ties" "minutes" "[I", Cond.fieldLink RX2 21 "VouchGate$Ties" "hostBadges" "[I", Cond.methodLink RX1 48 yX2_untie, Cond.instanceMethod yX2_untie, Cond.selects RX2 yX2_untie yX2_untie, Cond.code yX2_untie cX2_untie 2 none, Cond.methodLink RX1 52 yX2_markLost, Cond.instanceMethod yX2_markLost, Cond.selects RX2 yX2_markLost yX2_markLost, Cond.code yX2_markLost cX2_markLost 4 none, Cond.methodLink RX1 56 yX2_renewBadge, Cond.instanceMethod yX2_renewBadge]
def wsX3_taintedAnew_r3 : List Cond := [Cond.selects RX2 yX2_renewBadge yX2_renewBadge, Cond.code yX2_renewBadge cX2_renewBadge 2 none, Cond.methodLink RX3 150 yX2_isTainted, Cond.instanceMethod yX2_isTainted, Cond.selects RX2 yX2_isTainted yX2_isTainted, Cond.code yX2_isTainted cX2_isTainted 2 (some .boolean), Cond.methodLink RX2 55 yX2_standsOnBadVouching, Cond.instanceMethod yX2_standsOnBadVouching, Cond.selects RX2 yX2_standsOnBadVouching yX2_standsOnBadVouching, Cond.code yX2_standsOnBadVouching cX2_standsOnBadVouching 4 (some .boolean), Cond.static yX3_isGuest, Cond.code yX3_isGuest cX3_isGuest 1 (some .boolean)]
def wsX3_taintedAnew : List Cond := .code yX3_taintedAnew cX3_taintedAnew 2 (some .boolean) :: ((wsX3_taintedAnew_r1 ++ (wsX3_taintedAnew_r2 ++ wsX3_taintedAnew_r3)) ++ wsX30 ++ wsX10 ++ wsX20 ++ (vx_atS RX3 52 "java/lang/IndexOutOfBoundsException" ["java/lang/RuntimeException", "java/lang/Exception"]).filter goodWord)
def wsX3_chain : List Cond := .code yX3_chain cX3_chain 2 (some .int) :: ([.classLink RX3 48 "java/lang/IndexOutOfBoundsException", .initialized "java/lang/IndexOutOfBoundsException", .fieldLink RX3 19 "VouchGate" "ties" "LVouchGate$Ties;", .methodLink RX3 44 yX3_isPerson, .static yX3_isPerson, .initialized RX3, .code yX3_isPerson cX3_isPerson 1 (some .boolean), .methodLink RX3 189 yX2_stepsToStaff, .instanceMethod yX2_stepsToStaff, .selects RX2 yX2_stepsToStaff yX2_stepsToStaff, .initialized RX2, .code yX2_stepsToStaff cX2_stepsToStaff 4 (some .int), .fieldLink RX2 9 "VouchGate$Ties" "hosts" "[I", .static yX3_isGuest, .code yX3_isGuest cX3_isGuest 1 (some .boolean)] ++ wsX30 ++ wsX20 ++ (vx_atS RX3 52 "java/lang/IndexOutOfBoundsException" ["java/lang/RuntimeException", "java/lang/Exception"]).filter goodWord)
def wsX3_ending : List Cond := .code yX3_ending cX3_ending 3 (some .int) :: ([.classLink RX3 48 "java/lang/IndexOutOfBoundsException", .initialized "java/lang/IndexOutOfBoundsException", .fieldLink RX3 10 "VouchGate" "desk" "LVouchGate$Desk;", .fieldLink RX3 40 "VouchGate" "now" "I", .methodLink RX3 60 yX0_isInSession, .instanceMethod yX0_isInSession, .selects RX0 yX0_isInSession yX0_isInSession, .initialized RX0, .code yX0_isInSession cX0_isInSession 3 (some .boolean), .fieldLink RX0 21 "VouchGate$Desk" "sessionEnds" "[I", .methodLink RX3 194 yX0_countEndingAheadOf, .instanceMethod yX0_countEndingAheadOf, .selects RX0 yX0_countEndingAheadOf yX0_countEndingAheadOf, .code yX0_countEndingAheadOf cX0_countEndingAheadOf 5 (some .int), .methodLink RX0 32 yX0_isInSession, .methodLink RX0 36 yX0_endsAheadOf, .instanceMethod yX0_endsAheadOf, .selects RX0 yX0_endsAheadOf yX0_endsAheadOf, .code yX0_endsAheadOf cX0_endsAheadOf 3 (some .boolean)] ++ wsX30 ++ wsX00 ++ (vx_atS RX3 52 "java/lang/IndexOutOfBoundsException" ["java/lang/RuntimeException", "java/lang/Exception"]).filter goodWord)
def wsJ2_newBytesLength_0f7a4 : List Cond := .code yJ2_newBytesLength_0f7a4 cJ2_newBytesLength_0f7a4 1 (some .int) :: ([.constant RJ2 20 (1073741823)])
def wsJ2_newBytesFor_77867 : List Cond := .code yJ2_newBytesFor_77867 cJ2_newBytesFor_77867 1 (some (.array .byte)) :: ([.arrayClass .byte, .methodLink RJ2 11 yJ2_newBytesLength_0f7a4, .static yJ2_newBytesLength_0f7a4, .initialized RJ2, .code yJ2_newBytesLength_0f7a4 cJ2_newBytesLength_0f7a4 1 (some .int), .constant RJ2 20 (1073741823)])
def wsJ5_init_d00df : List Cond := .code yJ5_init_d00df cJ5_init_d00df 2 none :: ([.methodLink RJ5 3 objectInit, .instanceMethod objectInit, .code objectInit ⟨#[0xb1]⟩ 1 none, .fieldLink RJ5 18 "java/lang/String" "COMPACT_STRINGS" "Z", .arrayClass .byte, .fieldLink RJ5 15 "java/lang/AbstractStringBuilder" "value" "[B", .fieldLink RJ5 22 "java/lang/AbstractStringBuilder" "coder" "B", .methodLink RJ5 26 yJ2_newBytesFor_77867, .static yJ2_newBytesFor_77867, .initialized RJ2, .code yJ2_newBytesFor_77867 cJ2_newBytesFor_77867 1 (some (.array .byte)), .methodLink RJ2 11 yJ2_newBytesLength_0f7a4, .static yJ2_newBytesLength_0f7a4, .code yJ2_newBytesLength_0f7a4 cJ2_newBytesLength_0f7a4 1 (some .int), .constant RJ2 20 (1073741823)] ++ wsJ40)
def wsJ4_init_da8c8 : List Cond := .code yJ4_init_da8c8 cJ4_init_da8c8 1 none :: ([.methodLink RJ4 1 yJ5_init_d00df, .instanceMethod yJ5_init_d00df, .initialized RJ5, .code yJ5_init_d00df cJ5_init_d00df 2 none, .methodLink RJ5 3 objectInit, .instanceMethod objectInit, .code objectInit ⟨#[0xb1]⟩ 1 none, .fieldLink RJ5 18 "java/lang/String" "COMPACT_STRINGS" "Z", .arrayClass .byte, .fieldLink RJ5 15 "java/lang/AbstractStringBuilder" "value" "[B", .fieldLink RJ5 22 "java/lang/AbstractStringBuilder" "coder" "B", .methodLink RJ5 26 yJ2_newBytesFor_77867, .static yJ2_newBytesFor_77867, .initialized RJ2, .code yJ2_newBytesFor_77867 cJ2_newBytesFor_77867 1 (some (.array .byte)), .methodLink RJ2 11 yJ2_newBytesLength_0f7a4, .static yJ2_newBytesLength_0f7a4, .code yJ2_newBytesLength_0f7a4 cJ2_newBytesLength_0f7a4 1 (some .int), .constant RJ2 20 (1073741823)] ++ wsJ40)
def wsJ6_stringSize_0f7a4 : List Cond := .code yJ6_stringSize_0f7a4 cJ6_stringSize_0f7a4 4 (some .int) :: ([])
def wsJ8_hugeLength_7cf53 : List Cond := .code yJ8_hugeLength_7cf53 cJ8_hugeLength_7cf53 3 (some .int) :: ([.constant RJ8 200 (2147483639)])
def wsJ8_newLength_cabcc : List Cond := .code yJ8_newLength_cabcc cJ8_newLength_cabcc 4 (some .int) :: ([.methodLink RJ8 194 Lib.Math.max.name, .static Lib.Math.max.name, .initialized "java/lang/Math", .code Lib.Math.max.name Lib.Math.max.code 2 (some .int), .constant RJ8 200 (2147483639), .methodLink RJ8 201 yJ8_hugeLength_7cf53, .static yJ8_hugeLength_7cf53, .initialized RJ8, .code yJ8_hugeLength_7cf53 cJ8_hugeLength_7cf53 3 (some .int)])
def wsJ5_newCapacity_0f7a4 : List Cond := .code yJ5_newCapacity_0f7a4 cJ5_newCapacity_0f7a4 6 (some .int) :: ([.fieldLink RJ5 15 "java/lang/AbstractStringBuilder" "value" "[B", .fieldLink RJ5 22 "java/lang/AbstractStringBuilder" "coder" "B", .constant RJ5 39 (2147483647), .methodLink RJ5 114 yJ8_newLength_cabcc, .static yJ8_newLength_cabcc, .initialized RJ8, .code yJ8_newLength_cabcc cJ8_newLength_cabcc 4 (some .int), .methodLink RJ8 194 Lib.Math.max.name, .static Lib.Math.max.name, .initialized "java/lang/Math", .code Lib.Math.max.name Lib.Math.max.code 2 (some .int), .constant RJ8 200 (2147483639), .methodLink RJ8 201 yJ8_hugeLength_7cf53, .static yJ8_hugeLength_7cf53, .code yJ8_hugeLength_7cf53 cJ8_hugeLength_7cf53 3 (some .int)] ++ wsJ40)
def wsJ7_copyOf_9075b : List Cond := .code yJ7_copyOf_9075b cJ7_copyOf_9075b 3 (some (.array .byte)) :: ([.methodLink RJ7 310 ⟨"[B", "clone", "()Ljava/lang/Object;"⟩, .sameMethod "[B" "java/lang/Object" "clone" "()Ljava/lang/Object;", .native ⟨"java/lang/Object", "clone", "()Ljava/lang/Object;"⟩, .instanceMethod ⟨"java/lang/Object", "clone", "()Ljava/lang/Object;"⟩, .selects "[B" ⟨"[B", "clone", "()Ljava/lang/Object;"⟩ ⟨"java/lang/Object", "clone", "()Ljava/lang/Object;"⟩, .classLink RJ7 311 "[B", .arrayClass .byte, .methodLink RJ7 304 Lib.Math.min.name, .static Lib.Math.min.name, .initialized "java/lang/Math", .code Lib.Math.min.name Lib.Math.min.code 2 (some .int), .methodLink RJ7 150 arraycopyName, .native arraycopyName, .static arraycopyName, .initialized "java/lang/System"])
def wsJ5_ensureCapacityInternal_d00df_r1 : List Cond := [Cond.fieldLink RJ5 15 "java/lang/AbstractStringBuilder" "value" "[B", Cond.fieldLink RJ5 22 "java/lang/AbstractStringBuilder" "coder" "B", Cond.methodLink RJ5 104 ⟨"java/lang/AbstractStringBuilder", "newCapacity", "(I)I"⟩, Cond.sameMethod "java/lang/AbstractStringBuilder" "java/lang/AbstractStringBuilder" "newCapacity" "(I)I", Cond.selects RJ4 ⟨"java/lang/AbstractStringBuilder", "newCapacity", "(I)I"⟩ yJ5_newCapacity_0f7a4, Cond.instanceMethod yJ5_newCapacity_0f7a4, Cond.initialized RJ5, Cond.code yJ5_newCapacity_0f7a4 cJ5_newCapacity_0f7a4 6 (some .int), Cond.constant RJ5 39 (2147483647), Cond.methodLink RJ5 114 yJ8_newLength_cabcc, Cond.static yJ8_newLength_cabcc, Cond.initialized RJ8, Cond.code yJ8_newLength_cabcc cJ8_newLength_cabcc 4 (some .int), Cond.methodLink RJ8 194 Lib.Math.max.name, Cond.static Lib.Math.max.name, Cond.initialized "java/lang/Math", Cond.code Lib.Math.max.name Lib.Math.max.code 2 (some .int), Cond.constant RJ8 200 (2147483639), Cond.methodLink RJ8 201 yJ8_hugeLength_7cf53, Cond.static yJ8_hugeLength_7cf53, Cond.code yJ8_hugeLength_7cf53 cJ8_hugeLength_7cf53 3 (some .int), Cond.methodLink RJ5 108 yJ7_copyOf_9075b, Cond.static yJ7_copyOf_9075b, Cond.initialized RJ7]
def wsJ5_ensureCapacityInternal_d00df_r2 : List Cond := [Cond.code yJ7_copyOf_9075b cJ7_copyOf_9075b 3 (some (.array .byte)), Cond.methodLink RJ7 310 ⟨"[B", "clone", "()Ljava/lang/Object;"⟩, Cond.sameMethod "[B" "java/lang/Object" "clone" "()Ljava/lang/Object;", Cond.native ⟨"java/lang/Object", "clone", "()Ljava/lang/Object;"⟩, Cond.instanceMethod ⟨"java/lang/Object", "clone", "()Ljava/lang/Object;"⟩, Cond.selects "[B" ⟨"[B", "clone", "()Ljava/lang/Object;"⟩ ⟨"java/lang/Object", "clone", "()Ljava/lang/Object;"⟩, Cond.classLink RJ7 311 "[B", Cond.arrayClass .byte, Cond.methodLink RJ7 304 Lib.Math.min.name, Cond.static Lib.Math.min.name, Cond.code Lib.Math.min.name Lib.Math.min.code 2 (some .int), Cond.methodLink RJ7 150 arraycopyName, Cond.native arraycopyName, Cond.static arraycopyName, Cond.initialized "java/lang/System"]
def wsJ5_ensureCapacityInternal_d00df : List Cond := .code yJ5_ensureCapacityInternal_d00df cJ5_ensureCapacityInternal_d00df 3 none :: ((wsJ5_ensureCapacityInternal_d00df_r1 ++ wsJ5_ensureCapacityInternal_d00df_r2) ++ wsJ40)
def wsJ5_isLatin1_aae02 : List Cond := .code yJ5_isLatin1_aae02 cJ5_isLatin1_aae02 1 (some .boolean) :: ([.fieldLink RJ5 18 "java/lang/String" "COMPACT_STRINGS" "Z", .fieldLink RJ5 22 "java/lang/AbstractStringBuilder" "coder" "B"] ++ wsJ40)
def wsJ6_getChars_ba4f3 : List Cond := .code yJ6_getChars_ba4f3 cJ6_getChars_ba4f3 7 (some .int) :: ([.fieldLink RJ6 83 "java/lang/Integer" "DigitOnes" "[B", .fieldLink RJ6 87 "java/lang/Integer" "DigitTens" "[B"])
def wsJ2_length_9d52b : List Cond := .code yJ2_length_9d52b cJ2_length_9d52b 1 (some .int) :: ([])
def wsJ3_checkFromToIndex_8c36e : List Cond := .code yJ3_checkFromToIndex_8c36e cJ3_checkFromToIndex_8c36e 4 (some .int) :: ([])
def wsJ0_checkBoundsBeginEnd_23922 : List Cond := .code yJ0_checkBoundsBeginEnd_23922 cJ0_checkBoundsBeginEnd_23922 3 none :: ([.fieldLink RJ0 1053 "jdk/internal/util/Preconditions" "SIOOBE_FORMATTER" "Ljava/util/function/BiFunction;", .methodLink RJ0 1062 yJ3_checkFromToIndex_8c36e, .static yJ3_checkFromToIndex_8c36e, .initialized RJ3, .code yJ3_checkFromToIndex_8c36e cJ3_checkFromToIndex_8c36e 4 (some .int)])
def wsJ2_checkBoundsBeginEnd_d044e : List Cond := .code yJ2_checkBoundsBeginEnd_d044e cJ2_checkBoundsBeginEnd_d044e 3 none :: ([.methodLink RJ2 48 yJ2_length_9d52b, .static yJ2_length_9d52b, .initialized RJ2, .code yJ2_length_9d52b cJ2_length_9d52b 1 (some .int), .methodLink RJ2 241 yJ0_checkBoundsBeginEnd_23922, .static yJ0_checkBoundsBeginEnd_23922, .initialized RJ0, .code yJ0_checkBoundsBeginEnd_23922 cJ0_checkBoundsBeginEnd_23922 3 none, .fieldLink RJ0 1053 "jdk/internal/util/Preconditions" "SIOOBE_FORMATTER" "Ljava/util/function/BiFunction;", .methodLink RJ0 1062 yJ3_checkFromToIndex_8c36e, .static yJ3_checkFromToIndex_8c36e, .initialized RJ3, .code yJ3_checkFromToIndex_8c36e cJ3_checkFromToIndex_8c36e 4 (some .int)])
def wsJ2_putChar_b72d1 : List Cond := .code yJ2_putChar_b72d1 cJ2_putChar_b72d1 3 none :: ([.fieldLink RJ2 44 "java/lang/StringUTF16" "$assertionsDisabled" "Z", .fieldLink RJ2 59 "java/lang/StringUTF16" "HI_BYTE_SHIFT" "I", .fieldLink RJ2 63 "java/lang/StringUTF16" "LO_BYTE_SHIFT" "I", .methodLink RJ2 48 yJ2_length_9d52b, .static yJ2_length_9d52b, .initialized RJ2, .code yJ2_length_9d52b cJ2_length_9d52b 1 (some .int)])
def wsJ2_getChars_ba4f3 : List Cond := .code yJ2_getChars_ba4f3 cJ2_getChars_ba4f3 7 (some .int) :: ([.fieldLink RJ2 403 "java/lang/Integer" "DigitOnes" "[B", .fieldLink RJ2 407 "java/lang/Integer" "DigitTens" "[B", .methodLink RJ2 111 yJ2_putChar_b72d1, .static yJ2_putChar_b72d1, .initialized RJ2, .code yJ2_putChar_b72d1 cJ2_putChar_b72d1 3 none, .fieldLink RJ2 44 "java/lang/StringUTF16" "$assertionsDisabled" "Z", .fieldLink RJ2 59 "java/lang/StringUTF16" "HI_BYTE_SHIFT" "I", .fieldLink RJ2 63 "java/lang/StringUTF16" "LO_BYTE_SHIFT" "I", .methodLink RJ2 48 yJ2_length_9d52b, .static yJ2_length_9d52b, .code yJ2_length_9d52b cJ2_length_9d52b 1 (some .int)])
def wsJ2_getChars_46870_r1 : List Cond := [Cond.fieldLink RJ2 44 "java/lang/StringUTF16" "$assertionsDisabled" "Z", Cond.methodLink RJ2 96 yJ2_checkBoundsBeginEnd_d044e, Cond.static yJ2_checkBoundsBeginEnd_d044e, Cond.initialized RJ2, Cond.code yJ2_checkBoundsBeginEnd_d044e cJ2_checkBoundsBeginEnd_d044e 3 none, Cond.methodLink RJ2 48 yJ2_length_9d52b, Cond.static yJ2_length_9d52b, Cond.code yJ2_length_9d52b cJ2_length_9d52b 1 (some .int), Cond.methodLink RJ2 241 yJ0_checkBoundsBeginEnd_23922, Cond.static yJ0_checkBoundsBeginEnd_23922, Cond.initialized RJ0, Cond.code yJ0_checkBoundsBeginEnd_23922 cJ0_checkBoundsBeginEnd_23922 3 none, Cond.fieldLink RJ0 1053 "jdk/internal/util/Preconditions" "SIOOBE_FORMATTER" "Ljava/util/function/BiFunction;", Cond.methodLink RJ0 1062 yJ3_checkFromToIndex_8c36e, Cond.static yJ3_checkFromToIndex_8c36e, Cond.initialized RJ3, Cond.code yJ3_checkFromToIndex_8c36e cJ3_checkFromToIndex_8c36e 4 (some .int), Cond.methodLink RJ2 393 yJ2_getChars_ba4f3, Cond.static yJ2_getChars_ba4f3, Cond.code yJ2_getChars_ba4f3 cJ2_getChars_ba4f3 7 (some .int), Cond.fieldLink RJ2 403 "java/lang/Integer" "DigitOnes" "[B", Cond.fieldLink RJ2 407 "java/lang/Integer" "DigitTens" "[B", Cond.methodLink RJ2 111 yJ2_putChar_b72d1, Cond.static yJ2_putChar_b72d1]
def wsJ2_getChars_46870_r2 : List Cond := [Cond.code yJ2_putChar_b72d1 cJ2_putChar_b72d1 3 none, Cond.fieldLink RJ2 59 "java/lang/StringUTF16" "HI_BYTE_SHIFT" "I", Cond.fieldLink RJ2 63 "java/lang/StringUTF16" "LO_BYTE_SHIFT" "I"]
def wsJ2_getChars_46870 : List Cond := .code yJ2_getChars_46870 cJ2_getChars_46870 5 (some .int) :: ((wsJ2_getChars_46870_r1 ++ wsJ2_getChars_46870_r2))
def wsJ5_append_c97b9_r1 : List Cond := [Cond.fieldLink RJ5 79 "java/lang/AbstractStringBuilder" "count" "I", Cond.fieldLink RJ5 15 "java/lang/AbstractStringBuilder" "value" "[B", Cond.methodLink RJ5 245 yJ6_stringSize_0f7a4, Cond.static yJ6_stringSize_0f7a4, Cond.initialized RJ6, Cond.code yJ6_stringSize_0f7a4 cJ6_stringSize_0f7a4 4 (some .int), Cond.methodLink RJ5 100 ⟨"java/lang/AbstractStringBuilder", "ensureCapacityInternal", "(I)V"⟩, Cond.sameMethod "java/lang/AbstractStringBuilder" "java/lang/AbstractStringBuilder" "ensureCapacityInternal" "(I)V", Cond.selects RJ4 ⟨"java/lang/AbstractStringBuilder", "ensureCapacityInternal", "(I)V"⟩ yJ5_ensureCapacityInternal_d00df, Cond.instanceMethod yJ5_ensureCapacityInternal_d00df, Cond.initialized RJ5, Cond.code yJ5_ensureCapacityInternal_d00df cJ5_ensureCapacityInternal_d00df 3 none, Cond.fieldLink RJ5 22 "java/lang/AbstractStringBuilder" "coder" "B", Cond.methodLink RJ5 104 ⟨"java/lang/AbstractStringBuilder", "newCapacity", "(I)I"⟩, Cond.sameMethod "java/lang/AbstractStringBuilder" "java/lang/AbstractStringBuilder" "newCapacity" "(I)I", Cond.selects RJ4 ⟨"java/lang/AbstractStringBuilder", "newCapacity", "(I)I"⟩ yJ5_newCapacity_0f7a4, Cond.instanceMethod yJ5_newCapacity_0f7a4, Cond.code yJ5_newCapacity_0f7a4 cJ5_newCapacity_0f7a4 6 (some .int), Cond.constant RJ5 39 (2147483647), Cond.methodLink RJ5 114 yJ8_newLength_cabcc, Cond.static yJ8_newLength_cabcc, Cond.initialized RJ8, Cond.code yJ8_newLength_cabcc cJ8_newLength_cabcc 4 (some .int), Cond.methodLink RJ8 194 Lib.Math.max.name]
def wsJ5_append_c97b9_r2 : List Cond := [Cond.static Lib.Math.max.name, Cond.initialized "java/lang/Math", Cond.code Lib.Math.max.name Lib.Math.max.code 2 (some .int), Cond.constant RJ8 200 (2147483639), Cond.methodLink RJ8 201 yJ8_hugeLength_7cf53, Cond.static yJ8_hugeLength_7cf53, Cond.code yJ8_hugeLength_7cf53 cJ8_hugeLength_7cf53 3 (some .int), Cond.methodLink RJ5 108 yJ7_copyOf_9075b, Cond.static yJ7_copyOf_9075b, Cond.initialized RJ7, Cond.code yJ7_copyOf_9075b cJ7_copyOf_9075b 3 (some (.array .byte)), Cond.methodLink RJ7 310 ⟨"[B", "clone", "()Ljava/lang/Object;"⟩, Cond.sameMethod "[B" "java/lang/Object" "clone" "()Ljava/lang/Object;", Cond.native ⟨"java/lang/Object", "clone", "()Ljava/lang/Object;"⟩, Cond.instanceMethod ⟨"java/lang/Object", "clone", "()Ljava/lang/Object;"⟩, Cond.selects "[B" ⟨"[B", "clone", "()Ljava/lang/Object;"⟩ ⟨"java/lang/Object", "clone", "()Ljava/lang/Object;"⟩, Cond.classLink RJ7 311 "[B", Cond.arrayClass .byte, Cond.methodLink RJ7 304 Lib.Math.min.name, Cond.static Lib.Math.min.name, Cond.code Lib.Math.min.name Lib.Math.min.code 2 (some .int), Cond.methodLink RJ7 150 arraycopyName, Cond.native arraycopyName, Cond.static arraycopyName]
def wsJ5_append_c97b9_r3 : List Cond := [Cond.initialized "java/lang/System", Cond.methodLink RJ5 83 ⟨"java/lang/AbstractStringBuilder", "isLatin1", "()Z"⟩, Cond.sameMethod "java/lang/AbstractStringBuilder" "java/lang/AbstractStringBuilder" "isLatin1" "()Z", Cond.selects RJ4 ⟨"java/lang/AbstractStringBuilder", "isLatin1", "()Z"⟩ yJ5_isLatin1_aae02, Cond.instanceMethod yJ5_isLatin1_aae02, Cond.code yJ5_isLatin1_aae02 cJ5_isLatin1_aae02 1 (some .boolean), Cond.fieldLink RJ5 18 "java/lang/String" "COMPACT_STRINGS" "Z", Cond.methodLink RJ5 248 yJ6_getChars_ba4f3, Cond.static yJ6_getChars_ba4f3, Cond.code yJ6_getChars_ba4f3 cJ6_getChars_ba4f3 7 (some .int), Cond.fieldLink RJ6 83 "java/lang/Integer" "DigitOnes" "[B", Cond.fieldLink RJ6 87 "java/lang/Integer" "DigitTens" "[B", Cond.methodLink RJ5 251 yJ2_getChars_46870, Cond.static yJ2_getChars_46870, Cond.initialized RJ2, Cond.code yJ2_getChars_46870 cJ2_getChars_46870 5 (some .int), Cond.fieldLink RJ2 44 "java/lang/StringUTF16" "$assertionsDisabled" "Z", Cond.methodLink RJ2 96 yJ2_checkBoundsBeginEnd_d044e, Cond.static yJ2_checkBoundsBeginEnd_d044e, Cond.code yJ2_checkBoundsBeginEnd_d044e cJ2_checkBoundsBeginEnd_d044e 3 none, Cond.methodLink RJ2 48 yJ2_length_9d52b, Cond.static yJ2_length_9d52b, Cond.code yJ2_length_9d52b cJ2_length_9d52b 1 (some .int), Cond.methodLink RJ2 241 yJ0_checkBoundsBeginEnd_23922]
def wsJ5_append_c97b9_r4 : List Cond := [Cond.static yJ0_checkBoundsBeginEnd_23922, Cond.initialized RJ0, Cond.code yJ0_checkBoundsBeginEnd_23922 cJ0_checkBoundsBeginEnd_23922 3 none, Cond.fieldLink RJ0 1053 "jdk/internal/util/Preconditions" "SIOOBE_FORMATTER" "Ljava/util/function/BiFunction;", Cond.methodLink RJ0 1062 yJ3_checkFromToIndex_8c36e, Cond.static yJ3_checkFromToIndex_8c36e, Cond.initialized RJ3, Cond.code yJ3_checkFromToIndex_8c36e cJ3_checkFromToIndex_8c36e 4 (some .int), Cond.methodLink RJ2 393 yJ2_getChars_ba4f3, Cond.static yJ2_getChars_ba4f3, Cond.code yJ2_getChars_ba4f3 cJ2_getChars_ba4f3 7 (some .int), Cond.fieldLink RJ2 403 "java/lang/Integer" "DigitOnes" "[B", Cond.fieldLink RJ2 407 "java/lang/Integer" "DigitTens" "[B", Cond.methodLink RJ2 111 yJ2_putChar_b72d1, Cond.static yJ2_putChar_b72d1, Cond.code yJ2_putChar_b72d1 cJ2_putChar_b72d1 3 none, Cond.fieldLink RJ2 59 "java/lang/StringUTF16" "HI_BYTE_SHIFT" "I", Cond.fieldLink RJ2 63 "java/lang/StringUTF16" "LO_BYTE_SHIFT" "I"]
def wsJ5_append_c97b9 : List Cond := .code yJ5_append_c97b9 cJ5_append_c97b9 4 (some (.object "java/lang/AbstractStringBuilder")) :: ((wsJ5_append_c97b9_r1 ++ (wsJ5_append_c97b9_r2 ++ (wsJ5_append_c97b9_r3 ++ wsJ5_append_c97b9_r4))) ++ wsJ40)
def wsJ4_append_bf812_r1 : List Cond := [Cond.methodLink RJ4 53 yJ5_append_c97b9, Cond.sameMethod "java/lang/AbstractStringBuilder" "java/lang/AbstractStringBuilder" "append" "(I)Ljava/lang/AbstractStringBuilder;", Cond.superclass RJ4 RJ5, Cond.instanceMethod yJ5_append_c97b9, Cond.initialized RJ5, Cond.code yJ5_append_c97b9 cJ5_append_c97b9 4 (some (.object "java/lang/AbstractStringBuilder")), Cond.fieldLink RJ5 79 "java/lang/AbstractStringBuilder" "count" "I", Cond.fieldLink RJ5 15 "java/lang/AbstractStringBuilder" "value" "[B", Cond.methodLink RJ5 245 yJ6_stringSize_0f7a4, Cond.static yJ6_stringSize_0f7a4, Cond.initialized RJ6, Cond.code yJ6_stringSize_0f7a4 cJ6_stringSize_0f7a4 4 (some .int), Cond.methodLink RJ5 100 ⟨"java/lang/AbstractStringBuilder", "ensureCapacityInternal", "(I)V"⟩, Cond.sameMethod "java/lang/AbstractStringBuilder" "java/lang/AbstractStringBuilder" "ensureCapacityInternal" "(I)V", Cond.selects RJ4 ⟨"java/lang/AbstractStringBuilder", "ensureCapacityInternal", "(I)V"⟩ yJ5_ensureCapacityInternal_d00df, Cond.instanceMethod yJ5_ensureCapacityInternal_d00df, Cond.code yJ5_ensureCapacityInternal_d00df cJ5_ensureCapacityInternal_d00df 3 none, Cond.fieldLink RJ5 22 "java/lang/AbstractStringBuilder" "coder" "B", Cond.methodLink RJ5 104 ⟨"java/lang/AbstractStringBuilder", "newCapacity", "(I)I"⟩, Cond.sameMethod "java/lang/AbstractStringBuilder" "java/lang/AbstractStringBuilder" "newCapacity" "(I)I", Cond.selects RJ4 ⟨"java/lang/AbstractStringBuilder", "newCapacity", "(I)I"⟩ yJ5_newCapacity_0f7a4, Cond.instanceMethod yJ5_newCapacity_0f7a4, Cond.code yJ5_newCapacity_0f7a4 cJ5_newCapacity_0f7a4 6 (some .int), Cond.constant RJ5 39 (2147483647)]
def wsJ4_append_bf812_r2 : List Cond := [Cond.methodLink RJ5 114 yJ8_newLength_cabcc, Cond.static yJ8_newLength_cabcc, Cond.initialized RJ8, Cond.code yJ8_newLength_cabcc cJ8_newLength_cabcc 4 (some .int), Cond.methodLink RJ8 194 Lib.Math.max.name, Cond.static Lib.Math.max.name, Cond.initialized "java/lang/Math", Cond.code Lib.Math.max.name Lib.Math.max.code 2 (some .int), Cond.constant RJ8 200 (2147483639), Cond.methodLink RJ8 201 yJ8_hugeLength_7cf53, Cond.static yJ8_hugeLength_7cf53, Cond.code yJ8_hugeLength_7cf53 cJ8_hugeLength_7cf53 3 (some .int), Cond.methodLink RJ5 108 yJ7_copyOf_9075b, Cond.static yJ7_copyOf_9075b, Cond.initialized RJ7, Cond.code yJ7_copyOf_9075b cJ7_copyOf_9075b 3 (some (.array .byte)), Cond.methodLink RJ7 310 ⟨"[B", "clone", "()Ljava/lang/Object;"⟩, Cond.sameMethod "[B" "java/lang/Object" "clone" "()Ljava/lang/Object;", Cond.native ⟨"java/lang/Object", "clone", "()Ljava/lang/Object;"⟩, Cond.instanceMethod ⟨"java/lang/Object", "clone", "()Ljava/lang/Object;"⟩, Cond.selects "[B" ⟨"[B", "clone", "()Ljava/lang/Object;"⟩ ⟨"java/lang/Object", "clone", "()Ljava/lang/Object;"⟩, Cond.classLink RJ7 311 "[B", Cond.arrayClass .byte, Cond.methodLink RJ7 304 Lib.Math.min.name]
def wsJ4_append_bf812_r3 : List Cond := [Cond.static Lib.Math.min.name, Cond.code Lib.Math.min.name Lib.Math.min.code 2 (some .int), Cond.methodLink RJ7 150 arraycopyName, Cond.native arraycopyName, Cond.static arraycopyName, Cond.initialized "java/lang/System", Cond.methodLink RJ5 83 ⟨"java/lang/AbstractStringBuilder", "isLatin1", "()Z"⟩, Cond.sameMethod "java/lang/AbstractStringBuilder" "java/lang/AbstractStringBuilder" "isLatin1" "()Z", Cond.selects RJ4 ⟨"java/lang/AbstractStringBuilder", "isLatin1", "()Z"⟩ yJ5_isLatin1_aae02, Cond.instanceMethod yJ5_isLatin1_aae02, Cond.code yJ5_isLatin1_aae02 cJ5_isLatin1_aae02 1 (some .boolean), Cond.fieldLink RJ5 18 "java/lang/String" "COMPACT_STRINGS" "Z", Cond.methodLink RJ5 248 yJ6_getChars_ba4f3, Cond.static yJ6_getChars_ba4f3, Cond.code yJ6_getChars_ba4f3 cJ6_getChars_ba4f3 7 (some .int), Cond.fieldLink RJ6 83 "java/lang/Integer" "DigitOnes" "[B", Cond.fieldLink RJ6 87 "java/lang/Integer" "DigitTens" "[B", Cond.methodLink RJ5 251 yJ2_getChars_46870, Cond.static yJ2_getChars_46870, Cond.initialized RJ2, Cond.code yJ2_getChars_46870 cJ2_getChars_46870 5 (some .int), Cond.fieldLink RJ2 44 "java/lang/StringUTF16" "$assertionsDisabled" "Z", Cond.methodLink RJ2 96 yJ2_checkBoundsBeginEnd_d044e, Cond.static yJ2_checkBoundsBeginEnd_d044e]
def wsJ4_append_bf812_r4 : List Cond := [Cond.code yJ2_checkBoundsBeginEnd_d044e cJ2_checkBoundsBeginEnd_d044e 3 none, Cond.methodLink RJ2 48 yJ2_length_9d52b, Cond.static yJ2_length_9d52b, Cond.code yJ2_length_9d52b cJ2_length_9d52b 1 (some .int), Cond.methodLink RJ2 241 yJ0_checkBoundsBeginEnd_23922, Cond.static yJ0_checkBoundsBeginEnd_23922, Cond.initialized RJ0, Cond.code yJ0_checkBoundsBeginEnd_23922 cJ0_checkBoundsBeginEnd_23922 3 none, Cond.fieldLink RJ0 1053 "jdk/internal/util/Preconditions" "SIOOBE_FORMATTER" "Ljava/util/function/BiFunction;", Cond.methodLink RJ0 1062 yJ3_checkFromToIndex_8c36e, Cond.static yJ3_checkFromToIndex_8c36e, Cond.initialized RJ3, Cond.code yJ3_checkFromToIndex_8c36e cJ3_checkFromToIndex_8c36e 4 (some .int), Cond.methodLink RJ2 393 yJ2_getChars_ba4f3, Cond.static yJ2_getChars_ba4f3, Cond.code yJ2_getChars_ba4f3 cJ2_getChars_ba4f3 7 (some .int), Cond.fieldLink RJ2 403 "java/lang/Integer" "DigitOnes" "[B", Cond.fieldLink RJ2 407 "java/lang/Integer" "DigitTens" "[B", Cond.methodLink RJ2 111 yJ2_putChar_b72d1, Cond.static yJ2_putChar_b72d1, Cond.code yJ2_putChar_b72d1 cJ2_putChar_b72d1 3 none, Cond.fieldLink RJ2 59 "java/lang/StringUTF16" "HI_BYTE_SHIFT" "I", Cond.fieldLink RJ2 63 "java/lang/StringUTF16" "LO_BYTE_SHIFT" "I"]
def wsJ4_append_bf812 : List Cond := .code yJ4_append_bf812 cJ4_append_bf812 2 (some (.object "java/lang/StringBuilder")) :: ((wsJ4_append_bf812_r1 ++ (wsJ4_append_bf812_r2 ++ (wsJ4_append_bf812_r3 ++ wsJ4_append_bf812_r4))) ++ wsJ40)
def wsJ1_canEncode_fc78d : List Cond := .code yJ1_canEncode_fc78d cJ1_canEncode_fc78d 1 (some .boolean) :: ([])
def wsJ3_checkFromIndexSize_8c36e : List Cond := .code yJ3_checkFromIndexSize_8c36e cJ3_checkFromIndexSize_8c36e 4 (some .int) :: ([])
def wsJ0_checkBoundsOffCount_cabcc : List Cond := .code yJ0_checkBoundsOffCount_cabcc cJ0_checkBoundsOffCount_cabcc 3 (some .int) :: ([.fieldLink RJ0 1053 "jdk/internal/util/Preconditions" "SIOOBE_FORMATTER" "Ljava/util/function/BiFunction;", .methodLink RJ0 1065 yJ3_checkFromIndexSize_8c36e, .static yJ3_checkFromIndexSize_8c36e, .initialized RJ3, .code yJ3_checkFromIndexSize_8c36e cJ3_checkFromIndexSize_8c36e 4 (some .int)])
def wsJ2_checkBoundsOffCount_d044e : List Cond := .code yJ2_checkBoundsOffCount_d044e cJ2_checkBoundsOffCount_d044e 3 none :: ([.methodLink RJ2 48 yJ2_length_9d52b, .static yJ2_length_9d52b, .initialized RJ2, .code yJ2_length_9d52b cJ2_length_9d52b 1 (some .int), .methodLink RJ2 419 yJ0_checkBoundsOffCount_cabcc, .static yJ0_checkBoundsOffCount_cabcc, .initialized RJ0, .code yJ0_checkBoundsOffCount_cabcc cJ0_checkBoundsOffCount_cabcc 3 (some .int), .fieldLink RJ0 1053 "jdk/internal/util/Preconditions" "SIOOBE_FORMATTER" "Ljava/util/function/BiFunction;", .methodLink RJ0 1065 yJ3_checkFromIndexSize_8c36e, .static yJ3_checkFromIndexSize_8c36e, .initialized RJ3, .code yJ3_checkFromIndexSize_8c36e cJ3_checkFromIndexSize_8c36e 4 (some .int)])
def wsJ2_inflate_0e8fd : List Cond := .code yJ2_inflate_0e8fd cJ2_inflate_0e8fd 6 none :: ([.methodLink RJ2 173 yJ2_checkBoundsOffCount_d044e, .static yJ2_checkBoundsOffCount_d044e, .initialized RJ2, .code yJ2_checkBoundsOffCount_d044e cJ2_checkBoundsOffCount_d044e 3 none, .methodLink RJ2 48 yJ2_length_9d52b, .static yJ2_length_9d52b, .code yJ2_length_9d52b cJ2_length_9d52b 1 (some .int), .methodLink RJ2 419 yJ0_checkBoundsOffCount_cabcc, .static yJ0_checkBoundsOffCount_cabcc, .initialized RJ0, .code yJ0_checkBoundsOffCount_cabcc cJ0_checkBoundsOffCount_cabcc 3 (some .int), .fieldLink RJ0 1053 "jdk/internal/util/Preconditions" "SIOOBE_FORMATTER" "Ljava/util/function/BiFunction;", .methodLink RJ0 1065 yJ3_checkFromIndexSize_8c36e, .static yJ3_checkFromIndexSize_8c36e, .initialized RJ3, .code yJ3_checkFromIndexSize_8c36e cJ3_checkFromIndexSize_8c36e 4 (some .int), .methodLink RJ2 111 yJ2_putChar_b72d1, .static yJ2_putChar_b72d1, .code yJ2_putChar_b72d1 cJ2_putChar_b72d1 3 none, .fieldLink RJ2 44 "java/lang/StringUTF16" "$assertionsDisabled" "Z", .fieldLink RJ2 59 "java/lang/StringUTF16" "HI_BYTE_SHIFT" "I", .fieldLink RJ2 63 "java/lang/StringUTF16" "LO_BYTE_SHIFT" "I"])
def wsJ1_inflate_0e8fd_r1 : List Cond := [Cond.methodLink RJ1 240 yJ2_inflate_0e8fd, Cond.static yJ2_inflate_0e8fd, Cond.initialized RJ2, Cond.code yJ2_inflate_0e8fd cJ2_inflate_0e8fd 6 none, Cond.methodLink RJ2 173 yJ2_checkBoundsOffCount_d044e, Cond.static yJ2_checkBoundsOffCount_d044e, Cond.code yJ2_checkBoundsOffCount_d044e cJ2_checkBoundsOffCount_d044e 3 none, Cond.methodLink RJ2 48 yJ2_length_9d52b, Cond.static yJ2_length_9d52b, Cond.code yJ2_length_9d52b cJ2_length_9d52b 1 (some .int), Cond.methodLink RJ2 419 yJ0_checkBoundsOffCount_cabcc, Cond.static yJ0_checkBoundsOffCount_cabcc, Cond.initialized RJ0, Cond.code yJ0_checkBoundsOffCount_cabcc cJ0_checkBoundsOffCount_cabcc 3 (some .int), Cond.fieldLink RJ0 1053 "jdk/internal/util/Preconditions" "SIOOBE_FORMATTER" "Ljava/util/function/BiFunction;", Cond.methodLink RJ0 1065 yJ3_checkFromIndexSize_8c36e, Cond.static yJ3_checkFromIndexSize_8c36e, Cond.initialized RJ3, Cond.code yJ3_checkFromIndexSize_8c36e cJ3_checkFromIndexSize_8c36e 4 (some .int), Cond.methodLink RJ2 111 yJ2_putChar_b72d1, Cond.static yJ2_putChar_b72d1, Cond.code yJ2_putChar_b72d1 cJ2_putChar_b72d1 3 none, Cond.fieldLink RJ2 44 "java/lang/StringUTF16" "$assertionsDisabled" "Z", Cond.fieldLink RJ2 59 "java/lang/StringUTF16" "HI_BYTE_SHIFT" "I"]
def wsJ1_inflate_0e8fd_r2 : List Cond := [Cond.fieldLink RJ2 63 "java/lang/StringUTF16" "LO_BYTE_SHIFT" "I"]
def wsJ1_inflate_0e8fd : List Cond := .code yJ1_inflate_0e8fd cJ1_inflate_0e8fd 5 none :: ((wsJ1_inflate_0e8fd_r1 ++ wsJ1_inflate_0e8fd_r2))
def wsJ5_inflate_da8c8_r1 : List Cond := [Cond.fieldLink RJ5 15 "java/lang/AbstractStringBuilder" "value" "[B", Cond.fieldLink RJ5 79 "java/lang/AbstractStringBuilder" "count" "I", Cond.fieldLink RJ5 22 "java/lang/AbstractStringBuilder" "coder" "B", Cond.methodLink RJ5 83 ⟨"java/lang/AbstractStringBuilder", "isLatin1", "()Z"⟩, Cond.sameMethod "java/lang/AbstractStringBuilder" "java/lang/AbstractStringBuilder" "isLatin1" "()Z", Cond.selects RJ4 ⟨"java/lang/AbstractStringBuilder", "isLatin1", "()Z"⟩ yJ5_isLatin1_aae02, Cond.instanceMethod yJ5_isLatin1_aae02, Cond.initialized RJ5, Cond.code yJ5_isLatin1_aae02 cJ5_isLatin1_aae02 1 (some .boolean), Cond.fieldLink RJ5 18 "java/lang/String" "COMPACT_STRINGS" "Z", Cond.methodLink RJ5 26 yJ2_newBytesFor_77867, Cond.static yJ2_newBytesFor_77867, Cond.initialized RJ2, Cond.code yJ2_newBytesFor_77867 cJ2_newBytesFor_77867 1 (some (.array .byte)), Cond.arrayClass .byte, Cond.methodLink RJ2 11 yJ2_newBytesLength_0f7a4, Cond.static yJ2_newBytesLength_0f7a4, Cond.code yJ2_newBytesLength_0f7a4 cJ2_newBytesLength_0f7a4 1 (some .int), Cond.constant RJ2 20 (1073741823), Cond.methodLink RJ5 125 yJ1_inflate_0e8fd, Cond.static yJ1_inflate_0e8fd, Cond.initialized RJ1, Cond.code yJ1_inflate_0e8fd cJ1_inflate_0e8fd 5 none, Cond.methodLink RJ1 240 yJ2_inflate_0e8fd]
def wsJ5_inflate_da8c8_r2 : List Cond := [Cond.static yJ2_inflate_0e8fd, Cond.code yJ2_inflate_0e8fd cJ2_inflate_0e8fd 6 none, Cond.methodLink RJ2 173 yJ2_checkBoundsOffCount_d044e, Cond.static yJ2_checkBoundsOffCount_d044e, Cond.code yJ2_checkBoundsOffCount_d044e cJ2_checkBoundsOffCount_d044e 3 none, Cond.methodLink RJ2 48 yJ2_length_9d52b, Cond.static yJ2_length_9d52b, Cond.code yJ2_length_9d52b cJ2_length_9d52b 1 (some .int), Cond.methodLink RJ2 419 yJ0_checkBoundsOffCount_cabcc, Cond.static yJ0_checkBoundsOffCount_cabcc, Cond.initialized RJ0, Cond.code yJ0_checkBoundsOffCount_cabcc cJ0_checkBoundsOffCount_cabcc 3 (some .int), Cond.fieldLink RJ0 1053 "jdk/internal/util/Preconditions" "SIOOBE_FORMATTER" "Ljava/util/function/BiFunction;", Cond.methodLink RJ0 1065 yJ3_checkFromIndexSize_8c36e, Cond.static yJ3_checkFromIndexSize_8c36e, Cond.initialized RJ3, Cond.code yJ3_checkFromIndexSize_8c36e cJ3_checkFromIndexSize_8c36e 4 (some .int), Cond.methodLink RJ2 111 yJ2_putChar_b72d1, Cond.static yJ2_putChar_b72d1, Cond.code yJ2_putChar_b72d1 cJ2_putChar_b72d1 3 none, Cond.fieldLink RJ2 44 "java/lang/StringUTF16" "$assertionsDisabled" "Z", Cond.fieldLink RJ2 59 "java/lang/StringUTF16" "HI_BYTE_SHIFT" "I", Cond.fieldLink RJ2 63 "java/lang/StringUTF16" "LO_BYTE_SHIFT" "I"]
def wsJ5_inflate_da8c8 : List Cond := .code yJ5_inflate_da8c8 cJ5_inflate_da8c8 2 none :: ((wsJ5_inflate_da8c8_r1 ++ wsJ5_inflate_da8c8_r2) ++ wsJ40)
def wsJ3_checkIndex_8e157 : List Cond := .code yJ3_checkIndex_8e157 cJ3_checkIndex_8e157 3 (some .int) :: ([])
def wsJ0_checkIndex_df160 : List Cond := .code yJ0_checkIndex_df160 cJ0_checkIndex_df160 2 none :: ([.fieldLink RJ0 1053 "jdk/internal/util/Preconditions" "SIOOBE_FORMATTER" "Ljava/util/function/BiFunction;", .methodLink RJ0 1059 yJ3_checkIndex_8e157, .static yJ3_checkIndex_8e157, .initialized RJ3, .code yJ3_checkIndex_8e157 cJ3_checkIndex_8e157 3 (some .int)])
def wsJ2_checkIndex_2214a : List Cond := .code yJ2_checkIndex_2214a cJ2_checkIndex_2214a 2 none :: ([.methodLink RJ2 48 yJ2_length_9d52b, .static yJ2_length_9d52b, .initialized RJ2, .code yJ2_length_9d52b cJ2_length_9d52b 1 (some .int), .methodLink RJ2 414 yJ0_checkIndex_df160, .static yJ0_checkIndex_df160, .initialized RJ0, .code yJ0_checkIndex_df160 cJ0_checkIndex_df160 2 none, .fieldLink RJ0 1053 "jdk/internal/util/Preconditions" "SIOOBE_FORMATTER" "Ljava/util/function/BiFunction;", .methodLink RJ0 1059 yJ3_checkIndex_8e157, .static yJ3_checkIndex_8e157, .initialized RJ3, .code yJ3_checkIndex_8e157 cJ3_checkIndex_8e157 3 (some .int)])
def wsJ2_putCharSB_b72d1 : List Cond := .code yJ2_putCharSB_b72d1 cJ2_putCharSB_b72d1 3 none :: ([.methodLink RJ2 67 yJ2_checkIndex_2214a, .static yJ2_checkIndex_2214a, .initialized RJ2, .code yJ2_checkIndex_2214a cJ2_checkIndex_2214a 2 none, .methodLink RJ2 48 yJ2_length_9d52b, .static yJ2_length_9d52b, .code yJ2_length_9d52b cJ2_length_9d52b 1 (some .int), .methodLink RJ2 414 yJ0_checkIndex_df160, .static yJ0_checkIndex_df160, .initialized RJ0, .code yJ0_checkIndex_df160 cJ0_checkIndex_df160 2 none, .fieldLink RJ0 1053 "jdk/internal/util/Preconditions" "SIOOBE_FORMATTER" "Ljava/util/function/BiFunction;", .methodLink RJ0 1059 yJ3_checkIndex_8e157, .static yJ3_checkIndex_8e157, .initialized RJ3, .code yJ3_checkIndex_8e157 cJ3_checkIndex_8e157 3 (some .int), .methodLink RJ2 111 yJ2_putChar_b72d1, .static yJ2_putChar_b72d1, .code yJ2_putChar_b72d1 cJ2_putChar_b72d1 3 none, .fieldLink RJ2 44 "java/lang/StringUTF16" "$assertionsDisabled" "Z", .fieldLink RJ2 59 "java/lang/StringUTF16" "HI_BYTE_SHIFT" "I", .fieldLink RJ2 63 "java/lang/StringUTF16" "LO_BYTE_SHIFT" "I"])
def wsJ5_append_3fe6f_r1 : List Cond := [Cond.fieldLink RJ5 79 "java/lang/AbstractStringBuilder" "count" "I", Cond.fieldLink RJ5 15 "java/lang/AbstractStringBuilder" "value" "[B", Cond.methodLink RJ5 100 ⟨"java/lang/AbstractStringBuilder", "ensureCapacityInternal", "(I)V"⟩, Cond.sameMethod "java/lang/AbstractStringBuilder" "java/lang/AbstractStringBuilder" "ensureCapacityInternal" "(I)V", Cond.selects RJ4 ⟨"java/lang/AbstractStringBuilder", "ensureCapacityInternal", "(I)V"⟩ yJ5_ensureCapacityInternal_d00df, Cond.instanceMethod yJ5_ensureCapacityInternal_d00df, Cond.initialized RJ5, Cond.code yJ5_ensureCapacityInternal_d00df cJ5_ensureCapacityInternal_d00df 3 none, Cond.fieldLink RJ5 22 "java/lang/AbstractStringBuilder" "coder" "B", Cond.methodLink RJ5 104 ⟨"java/lang/AbstractStringBuilder", "newCapacity", "(I)I"⟩, Cond.sameMethod "java/lang/AbstractStringBuilder" "java/lang/AbstractStringBuilder" "newCapacity" "(I)I", Cond.selects RJ4 ⟨"java/lang/AbstractStringBuilder", "newCapacity", "(I)I"⟩ yJ5_newCapacity_0f7a4, Cond.instanceMethod yJ5_newCapacity_0f7a4, Cond.code yJ5_newCapacity_0f7a4 cJ5_newCapacity_0f7a4 6 (some .int), Cond.constant RJ5 39 (2147483647), Cond.methodLink RJ5 114 yJ8_newLength_cabcc, Cond.static yJ8_newLength_cabcc, Cond.initialized RJ8, Cond.code yJ8_newLength_cabcc cJ8_newLength_cabcc 4 (some .int), Cond.methodLink RJ8 194 Lib.Math.max.name, Cond.static Lib.Math.max.name, Cond.initialized "java/lang/Math", Cond.code Lib.Math.max.name Lib.Math.max.code 2 (some .int), Cond.constant RJ8 200 (2147483639)]
def wsJ5_append_3fe6f_r2 : List Cond := [Cond.methodLink RJ8 201 yJ8_hugeLength_7cf53, Cond.static yJ8_hugeLength_7cf53, Cond.code yJ8_hugeLength_7cf53 cJ8_hugeLength_7cf53 3 (some .int), Cond.methodLink RJ5 108 yJ7_copyOf_9075b, Cond.static yJ7_copyOf_9075b, Cond.initialized RJ7, Cond.code yJ7_copyOf_9075b cJ7_copyOf_9075b 3 (some (.array .byte)), Cond.methodLink RJ7 310 ⟨"[B", "clone", "()Ljava/lang/Object;"⟩, Cond.sameMethod "[B" "java/lang/Object" "clone" "()Ljava/lang/Object;", Cond.native ⟨"java/lang/Object", "clone", "()Ljava/lang/Object;"⟩, Cond.instanceMethod ⟨"java/lang/Object", "clone", "()Ljava/lang/Object;"⟩, Cond.selects "[B" ⟨"[B", "clone", "()Ljava/lang/Object;"⟩ ⟨"java/lang/Object", "clone", "()Ljava/lang/Object;"⟩, Cond.classLink RJ7 311 "[B", Cond.arrayClass .byte, Cond.methodLink RJ7 304 Lib.Math.min.name, Cond.static Lib.Math.min.name, Cond.code Lib.Math.min.name Lib.Math.min.code 2 (some .int), Cond.methodLink RJ7 150 arraycopyName, Cond.native arraycopyName, Cond.static arraycopyName, Cond.initialized "java/lang/System", Cond.methodLink RJ5 83 ⟨"java/lang/AbstractStringBuilder", "isLatin1", "()Z"⟩, Cond.sameMethod "java/lang/AbstractStringBuilder" "java/lang/AbstractStringBuilder" "isLatin1" "()Z", Cond.selects RJ4 ⟨"java/lang/AbstractStringBuilder", "isLatin1", "()Z"⟩ yJ5_isLatin1_aae02]
def wsJ5_append_3fe6f_r3 : List Cond := [Cond.instanceMethod yJ5_isLatin1_aae02, Cond.code yJ5_isLatin1_aae02 cJ5_isLatin1_aae02 1 (some .boolean), Cond.fieldLink RJ5 18 "java/lang/String" "COMPACT_STRINGS" "Z", Cond.methodLink RJ5 191 yJ1_canEncode_fc78d, Cond.static yJ1_canEncode_fc78d, Cond.initialized RJ1, Cond.code yJ1_canEncode_fc78d cJ1_canEncode_fc78d 1 (some .boolean), Cond.methodLink RJ5 195 ⟨"java/lang/AbstractStringBuilder", "inflate", "()V"⟩, Cond.sameMethod "java/lang/AbstractStringBuilder" "java/lang/AbstractStringBuilder" "inflate" "()V", Cond.selects RJ4 ⟨"java/lang/AbstractStringBuilder", "inflate", "()V"⟩ yJ5_inflate_da8c8, Cond.instanceMethod yJ5_inflate_da8c8, Cond.code yJ5_inflate_da8c8 cJ5_inflate_da8c8 2 none, Cond.methodLink RJ5 26 yJ2_newBytesFor_77867, Cond.static yJ2_newBytesFor_77867, Cond.initialized RJ2, Cond.code yJ2_newBytesFor_77867 cJ2_newBytesFor_77867 1 (some (.array .byte)), Cond.methodLink RJ2 11 yJ2_newBytesLength_0f7a4, Cond.static yJ2_newBytesLength_0f7a4, Cond.code yJ2_newBytesLength_0f7a4 cJ2_newBytesLength_0f7a4 1 (some .int), Cond.constant RJ2 20 (1073741823), Cond.methodLink RJ5 125 yJ1_inflate_0e8fd, Cond.static yJ1_inflate_0e8fd, Cond.code yJ1_inflate_0e8fd cJ1_inflate_0e8fd 5 none, Cond.methodLink RJ1 240 yJ2_inflate_0e8fd]
def wsJ5_append_3fe6f_r4 : List Cond := [Cond.static yJ2_inflate_0e8fd, Cond.code yJ2_inflate_0e8fd cJ2_inflate_0e8fd 6 none, Cond.methodLink RJ2 173 yJ2_checkBoundsOffCount_d044e, Cond.static yJ2_checkBoundsOffCount_d044e, Cond.code yJ2_checkBoundsOffCount_d044e cJ2_checkBoundsOffCount_d044e 3 none, Cond.methodLink RJ2 48 yJ2_length_9d52b, Cond.static yJ2_length_9d52b, Cond.code yJ2_length_9d52b cJ2_length_9d52b 1 (some .int), Cond.methodLink RJ2 419 yJ0_checkBoundsOffCount_cabcc, Cond.static yJ0_checkBoundsOffCount_cabcc, Cond.initialized RJ0, Cond.code yJ0_checkBoundsOffCount_cabcc cJ0_checkBoundsOffCount_cabcc 3 (some .int), Cond.fieldLink RJ0 1053 "jdk/internal/util/Preconditions" "SIOOBE_FORMATTER" "Ljava/util/function/BiFunction;", Cond.methodLink RJ0 1065 yJ3_checkFromIndexSize_8c36e, Cond.static yJ3_checkFromIndexSize_8c36e, Cond.initialized RJ3, Cond.code yJ3_checkFromIndexSize_8c36e cJ3_checkFromIndexSize_8c36e 4 (some .int), Cond.methodLink RJ2 111 yJ2_putChar_b72d1, Cond.static yJ2_putChar_b72d1, Cond.code yJ2_putChar_b72d1 cJ2_putChar_b72d1 3 none, Cond.fieldLink RJ2 44 "java/lang/StringUTF16" "$assertionsDisabled" "Z", Cond.fieldLink RJ2 59 "java/lang/StringUTF16" "HI_BYTE_SHIFT" "I", Cond.fieldLink RJ2 63 "java/lang/StringUTF16" "LO_BYTE_SHIFT" "I", Cond.methodLink RJ5 197 yJ2_putCharSB_b72d1]
def wsJ5_append_3fe6f_r5 : List Cond := [Cond.static yJ2_putCharSB_b72d1, Cond.code yJ2_putCharSB_b72d1 cJ2_putCharSB_b72d1 3 none, Cond.methodLink RJ2 67 yJ2_checkIndex_2214a, Cond.static yJ2_checkIndex_2214a, Cond.code yJ2_checkIndex_2214a cJ2_checkIndex_2214a 2 none, Cond.methodLink RJ2 414 yJ0_checkIndex_df160, Cond.static yJ0_checkIndex_df160, Cond.code yJ0_checkIndex_df160 cJ0_checkIndex_df160 2 none, Cond.methodLink RJ0 1059 yJ3_checkIndex_8e157, Cond.static yJ3_checkIndex_8e157, Cond.code yJ3_checkIndex_8e157 cJ3_checkIndex_8e157 3 (some .int)]
def wsJ5_append_3fe6f : List Cond := .code yJ5_append_3fe6f cJ5_append_3fe6f 2 (some (.object "java/lang/AbstractStringBuilder")) :: ((wsJ5_append_3fe6f_r1 ++ (wsJ5_append_3fe6f_r2 ++ (wsJ5_append_3fe6f_r3 ++ (wsJ5_append_3fe6f_r4 ++ wsJ5_append_3fe6f_r5)))) ++ wsJ40)
def wsJ4_append_cf468_r1 : List Cond := [Cond.methodLink RJ4 50 yJ5_append_3fe6f, Cond.sameMethod "java/lang/AbstractStringBuilder" "java/lang/AbstractStringBuilder" "append" "(C)Ljava/lang/AbstractStringBuilder;", Cond.superclass RJ4 RJ5, Cond.instanceMethod yJ5_append_3fe6f, Cond.initialized RJ5, Cond.code yJ5_append_3fe6f cJ5_append_3fe6f 2 (some (.object "java/lang/AbstractStringBuilder")), Cond.fieldLink RJ5 79 "java/lang/AbstractStringBuilder" "count" "I", Cond.fieldLink RJ5 15 "java/lang/AbstractStringBuilder" "value" "[B", Cond.methodLink RJ5 100 ⟨"java/lang/AbstractStringBuilder", "ensureCapacityInternal", "(I)V"⟩, Cond.sameMethod "java/lang/AbstractStringBuilder" "java/lang/AbstractStringBuilder" "ensureCapacityInternal" "(I)V", Cond.selects RJ4 ⟨"java/lang/AbstractStringBuilder", "ensureCapacityInternal", "(I)V"⟩ yJ5_ensureCapacityInternal_d00df, Cond.instanceMethod yJ5_ensureCapacityInternal_d00df, Cond.code yJ5_ensureCapacityInternal_d00df cJ5_ensureCapacityInternal_d00df 3 none, Cond.fieldLink RJ5 22 "java/lang/AbstractStringBuilder" "coder" "B", Cond.methodLink RJ5 104 ⟨"java/lang/AbstractStringBuilder", "newCapacity", "(I)I"⟩, Cond.sameMethod "java/lang/AbstractStringBuilder" "java/lang/AbstractStringBuilder" "newCapacity" "(I)I", Cond.selects RJ4 ⟨"java/lang/AbstractStringBuilder", "newCapacity", "(I)I"⟩ yJ5_newCapacity_0f7a4, Cond.instanceMethod yJ5_newCapacity_0f7a4, Cond.code yJ5_newCapacity_0f7a4 cJ5_newCapacity_0f7a4 6 (some .int), Cond.constant RJ5 39 (2147483647), Cond.methodLink RJ5 114 yJ8_newLength_cabcc, Cond.static yJ8_newLength_cabcc, Cond.initialized RJ8, Cond.code yJ8_newLength_cabcc cJ8_newLength_cabcc 4 (some .int)]
def wsJ4_append_cf468_r2 : List Cond := [Cond.methodLink RJ8 194 Lib.Math.max.name, Cond.static Lib.Math.max.name, Cond.initialized "java/lang/Math", Cond.code Lib.Math.max.name Lib.Math.max.code 2 (some .int), Cond.constant RJ8 200 (2147483639), Cond.methodLink RJ8 201 yJ8_hugeLength_7cf53, Cond.static yJ8_hugeLength_7cf53, Cond.code yJ8_hugeLength_7cf53 cJ8_hugeLength_7cf53 3 (some .int), Cond.methodLink RJ5 108 yJ7_copyOf_9075b, Cond.static yJ7_copyOf_9075b, Cond.initialized RJ7, Cond.code yJ7_copyOf_9075b cJ7_copyOf_9075b 3 (some (.array .byte)), Cond.methodLink RJ7 310 ⟨"[B", "clone", "()Ljava/lang/Object;"⟩, Cond.sameMethod "[B" "java/lang/Object" "clone" "()Ljava/lang/Object;", Cond.native ⟨"java/lang/Object", "clone", "()Ljava/lang/Object;"⟩, Cond.instanceMethod ⟨"java/lang/Object", "clone", "()Ljava/lang/Object;"⟩, Cond.selects "[B" ⟨"[B", "clone", "()Ljava/lang/Object;"⟩ ⟨"java/lang/Object", "clone", "()Ljava/lang/Object;"⟩, Cond.classLink RJ7 311 "[B", Cond.arrayClass .byte, Cond.methodLink RJ7 304 Lib.Math.min.name, Cond.static Lib.Math.min.name, Cond.code Lib.Math.min.name Lib.Math.min.code 2 (some .int), Cond.methodLink RJ7 150 arraycopyName, Cond.native arraycopyName]
def wsJ4_append_cf468_r3 : List Cond := [Cond.static arraycopyName, Cond.initialized "java/lang/System", Cond.methodLink RJ5 83 ⟨"java/lang/AbstractStringBuilder", "isLatin1", "()Z"⟩, Cond.sameMethod "java/lang/AbstractStringBuilder" "java/lang/AbstractStringBuilder" "isLatin1" "()Z", Cond.selects RJ4 ⟨"java/lang/AbstractStringBuilder", "isLatin1", "()Z"⟩ yJ5_isLatin1_aae02, Cond.instanceMethod yJ5_isLatin1_aae02, Cond.code yJ5_isLatin1_aae02 cJ5_isLatin1_aae02 1 (some .boolean), Cond.fieldLink RJ5 18 "java/lang/String" "COMPACT_STRINGS" "Z", Cond.methodLink RJ5 191 yJ1_canEncode_fc78d, Cond.static yJ1_canEncode_fc78d, Cond.initialized RJ1, Cond.code yJ1_canEncode_fc78d cJ1_canEncode_fc78d 1 (some .boolean), Cond.methodLink RJ5 195 ⟨"java/lang/AbstractStringBuilder", "inflate", "()V"⟩, Cond.sameMethod "java/lang/AbstractStringBuilder" "java/lang/AbstractStringBuilder" "inflate" "()V", Cond.selects RJ4 ⟨"java/lang/AbstractStringBuilder", "inflate", "()V"⟩ yJ5_inflate_da8c8, Cond.instanceMethod yJ5_inflate_da8c8, Cond.code yJ5_inflate_da8c8 cJ5_inflate_da8c8 2 none, Cond.methodLink RJ5 26 yJ2_newBytesFor_77867, Cond.static yJ2_newBytesFor_77867, Cond.initialized RJ2, Cond.code yJ2_newBytesFor_77867 cJ2_newBytesFor_77867 1 (some (.array .byte)), Cond.methodLink RJ2 11 yJ2_newBytesLength_0f7a4, Cond.static yJ2_newBytesLength_0f7a4, Cond.code yJ2_newBytesLength_0f7a4 cJ2_newBytesLength_0f7a4 1 (some .int)]
def wsJ4_append_cf468_r4 : List Cond := [Cond.constant RJ2 20 (1073741823), Cond.methodLink RJ5 125 yJ1_inflate_0e8fd, Cond.static yJ1_inflate_0e8fd, Cond.code yJ1_inflate_0e8fd cJ1_inflate_0e8fd 5 none, Cond.methodLink RJ1 240 yJ2_inflate_0e8fd, Cond.static yJ2_inflate_0e8fd, Cond.code yJ2_inflate_0e8fd cJ2_inflate_0e8fd 6 none, Cond.methodLink RJ2 173 yJ2_checkBoundsOffCount_d044e, Cond.static yJ2_checkBoundsOffCount_d044e, Cond.code yJ2_checkBoundsOffCount_d044e cJ2_checkBoundsOffCount_d044e 3 none, Cond.methodLink RJ2 48 yJ2_length_9d52b, Cond.static yJ2_length_9d52b, Cond.code yJ2_length_9d52b cJ2_length_9d52b 1 (some .int), Cond.methodLink RJ2 419 yJ0_checkBoundsOffCount_cabcc, Cond.static yJ0_checkBoundsOffCount_cabcc, Cond.initialized RJ0, Cond.code yJ0_checkBoundsOffCount_cabcc cJ0_checkBoundsOffCount_cabcc 3 (some .int), Cond.fieldLink RJ0 1053 "jdk/internal/util/Preconditions" "SIOOBE_FORMATTER" "Ljava/util/function/BiFunction;", Cond.methodLink RJ0 1065 yJ3_checkFromIndexSize_8c36e, Cond.static yJ3_checkFromIndexSize_8c36e, Cond.initialized RJ3, Cond.code yJ3_checkFromIndexSize_8c36e cJ3_checkFromIndexSize_8c36e 4 (some .int), Cond.methodLink RJ2 111 yJ2_putChar_b72d1, Cond.static yJ2_putChar_b72d1]
def wsJ4_append_cf468_r5 : List Cond := [Cond.code yJ2_putChar_b72d1 cJ2_putChar_b72d1 3 none, Cond.fieldLink RJ2 44 "java/lang/StringUTF16" "$assertionsDisabled" "Z", Cond.fieldLink RJ2 59 "java/lang/StringUTF16" "HI_BYTE_SHIFT" "I", Cond.fieldLink RJ2 63 "java/lang/StringUTF16" "LO_BYTE_SHIFT" "I", Cond.methodLink RJ5 197 yJ2_putCharSB_b72d1, Cond.static yJ2_putCharSB_b72d1, Cond.code yJ2_putCharSB_b72d1 cJ2_putCharSB_b72d1 3 none, Cond.methodLink RJ2 67 yJ2_checkIndex_2214a, Cond.static yJ2_checkIndex_2214a, Cond.code yJ2_checkIndex_2214a cJ2_checkIndex_2214a 2 none, Cond.methodLink RJ2 414 yJ0_checkIndex_df160, Cond.static yJ0_checkIndex_df160, Cond.code yJ0_checkIndex_df160 cJ0_checkIndex_df160 2 none, Cond.methodLink RJ0 1059 yJ3_checkIndex_8e157, Cond.static yJ3_checkIndex_8e157, Cond.code yJ3_checkIndex_8e157 cJ3_checkIndex_8e157 3 (some .int)]
def wsJ4_append_cf468 : List Cond := .code yJ4_append_cf468 cJ4_append_cf468 2 (some (.object "java/lang/StringBuilder")) :: ((wsJ4_append_cf468_r1 ++ (wsJ4_append_cf468_r2 ++ (wsJ4_append_cf468_r3 ++ (wsJ4_append_cf468_r4 ++ wsJ4_append_cf468_r5)))) ++ wsJ40)
def wsX3_appendBackwards_r1 : List Cond := [Cond.methodLink RX3 218 yJ4_append_cf468, Cond.instanceMethod yJ4_append_cf468, Cond.selects RJ4 yJ4_append_cf468 yJ4_append_cf468, Cond.initialized RJ4, Cond.code yJ4_append_cf468 cJ4_append_cf468 2 (some (.object "java/lang/StringBuilder")), Cond.methodLink RJ4 50 yJ5_append_3fe6f, Cond.sameMethod "java/lang/AbstractStringBuilder" "java/lang/AbstractStringBuilder" "append" "(C)Ljava/lang/AbstractStringBuilder;", Cond.superclass RJ4 RJ5, Cond.instanceMethod yJ5_append_3fe6f, Cond.initialized RJ5, Cond.code yJ5_append_3fe6f cJ5_append_3fe6f 2 (some (.object "java/lang/AbstractStringBuilder")), Cond.fieldLink RJ5 79 "java/lang/AbstractStringBuilder" "count" "I", Cond.fieldLink RJ5 15 "java/lang/AbstractStringBuilder" "value" "[B", Cond.methodLink RJ5 100 ⟨"java/lang/AbstractStringBuilder", "ensureCapacityInternal", "(I)V"⟩, Cond.sameMethod "java/lang/AbstractStringBuilder" "java/lang/AbstractStringBuilder" "ensureCapacityInternal" "(I)V", Cond.selects RJ4 ⟨"java/lang/AbstractStringBuilder", "ensureCapacityInternal", "(I)V"⟩ yJ5_ensureCapacityInternal_d00df, Cond.instanceMethod yJ5_ensureCapacityInternal_d00df, Cond.code yJ5_ensureCapacityInternal_d00df cJ5_ensureCapacityInternal_d00df 3 none, Cond.fieldLink RJ5 22 "java/lang/AbstractStringBuilder" "coder" "B", Cond.methodLink RJ5 104 ⟨"java/lang/AbstractStringBuilder", "newCapacity", "(I)I"⟩, Cond.sameMethod "java/lang/AbstractStringBuilder" "java/lang/AbstractStringBuilder" "newCapacity" "(I)I", Cond.selects RJ4 ⟨"java/lang/AbstractStringBuilder", "newCapacity", "(I)I"⟩ yJ5_newCapacity_0f7a4, Cond.instanceMethod yJ5_newCapacity_0f7a4, Cond.code yJ5_newCapacity_0f7a4 cJ5_newCapacity_0f7a4 6 (some .int)]
def wsX3_appendBackwards_r2 : List Cond := [Cond.constant RJ5 39 (2147483647), Cond.methodLink RJ5 114 yJ8_newLength_cabcc, Cond.static yJ8_newLength_cabcc, Cond.initialized RJ8, Cond.code yJ8_newLength_cabcc cJ8_newLength_cabcc 4 (some .int), Cond.methodLink RJ8 194 Lib.Math.max.name, Cond.static Lib.Math.max.name, Cond.initialized "java/lang/Math", Cond.code Lib.Math.max.name Lib.Math.max.code 2 (some .int), Cond.constant RJ8 200 (2147483639), Cond.methodLink RJ8 201 yJ8_hugeLength_7cf53, Cond.static yJ8_hugeLength_7cf53, Cond.code yJ8_hugeLength_7cf53 cJ8_hugeLength_7cf53 3 (some .int), Cond.methodLink RJ5 108 yJ7_copyOf_9075b, Cond.static yJ7_copyOf_9075b, Cond.initialized RJ7, Cond.code yJ7_copyOf_9075b cJ7_copyOf_9075b 3 (some (.array .byte)), Cond.methodLink RJ7 310 ⟨"[B", "clone", "()Ljava/lang/Object;"⟩, Cond.sameMethod "[B" "java/lang/Object" "clone" "()Ljava/lang/Object;", Cond.native ⟨"java/lang/Object", "clone", "()Ljava/lang/Object;"⟩, Cond.instanceMethod ⟨"java/lang/Object", "clone", "()Ljava/lang/Object;"⟩, Cond.selects "[B" ⟨"[B", "clone", "()Ljava/lang/Object;"⟩ ⟨"java/lang/Object", "clone", "()Ljava/lang/Object;"⟩, Cond.classLink RJ7 311 "[B", Cond.arrayClass .byte]
def wsX3_appendBackwards_r3 : List Cond := [Cond.methodLink RJ7 304 Lib.Math.min.name, Cond.static Lib.Math.min.name, Cond.code Lib.Math.min.name Lib.Math.min.code 2 (some .int), Cond.methodLink RJ7 150 arraycopyName, Cond.native arraycopyName, Cond.static arraycopyName, Cond.initialized "java/lang/System", Cond.methodLink RJ5 83 ⟨"java/lang/AbstractStringBuilder", "isLatin1", "()Z"⟩, Cond.sameMethod "java/lang/AbstractStringBuilder" "java/lang/AbstractStringBuilder" "isLatin1" "()Z", Cond.selects RJ4 ⟨"java/lang/AbstractStringBuilder", "isLatin1", "()Z"⟩ yJ5_isLatin1_aae02, Cond.instanceMethod yJ5_isLatin1_aae02, Cond.code yJ5_isLatin1_aae02 cJ5_isLatin1_aae02 1 (some .boolean), Cond.fieldLink RJ5 18 "java/lang/String" "COMPACT_STRINGS" "Z", Cond.methodLink RJ5 191 yJ1_canEncode_fc78d, Cond.static yJ1_canEncode_fc78d, Cond.initialized RJ1, Cond.code yJ1_canEncode_fc78d cJ1_canEncode_fc78d 1 (some .boolean), Cond.methodLink RJ5 195 ⟨"java/lang/AbstractStringBuilder", "inflate", "()V"⟩, Cond.sameMethod "java/lang/AbstractStringBuilder" "java/lang/AbstractStringBuilder" "inflate" "()V", Cond.selects RJ4 ⟨"java/lang/AbstractStringBuilder", "inflate", "()V"⟩ yJ5_inflate_da8c8, Cond.instanceMethod yJ5_inflate_da8c8, Cond.code yJ5_inflate_da8c8 cJ5_inflate_da8c8 2 none, Cond.methodLink RJ5 26 yJ2_newBytesFor_77867, Cond.static yJ2_newBytesFor_77867]
def wsX3_appendBackwards_r4 : List Cond := [Cond.initialized RJ2, Cond.code yJ2_newBytesFor_77867 cJ2_newBytesFor_77867 1 (some (.array .byte)), Cond.methodLink RJ2 11 yJ2_newBytesLength_0f7a4, Cond.static yJ2_newBytesLength_0f7a4, Cond.code yJ2_newBytesLength_0f7a4 cJ2_newBytesLength_0f7a4 1 (some .int), Cond.constant RJ2 20 (1073741823), Cond.methodLink RJ5 125 yJ1_inflate_0e8fd, Cond.static yJ1_inflate_0e8fd, Cond.code yJ1_inflate_0e8fd cJ1_inflate_0e8fd 5 none, Cond.methodLink RJ1 240 yJ2_inflate_0e8fd, Cond.static yJ2_inflate_0e8fd, Cond.code yJ2_inflate_0e8fd cJ2_inflate_0e8fd 6 none, Cond.methodLink RJ2 173 yJ2_checkBoundsOffCount_d044e, Cond.static yJ2_checkBoundsOffCount_d044e, Cond.code yJ2_checkBoundsOffCount_d044e cJ2_checkBoundsOffCount_d044e 3 none, Cond.methodLink RJ2 48 yJ2_length_9d52b, Cond.static yJ2_length_9d52b, Cond.code yJ2_length_9d52b cJ2_length_9d52b 1 (some .int), Cond.methodLink RJ2 419 yJ0_checkBoundsOffCount_cabcc, Cond.static yJ0_checkBoundsOffCount_cabcc, Cond.initialized RJ0, Cond.code yJ0_checkBoundsOffCount_cabcc cJ0_checkBoundsOffCount_cabcc 3 (some .int), Cond.fieldLink RJ0 1053 "jdk/internal/util/Preconditions" "SIOOBE_FORMATTER" "Ljava/util/function/BiFunction;", Cond.methodLink RJ0 1065 yJ3_checkFromIndexSize_8c36e]
def wsX3_appendBackwards_r5 : List Cond := [Cond.static yJ3_checkFromIndexSize_8c36e, Cond.initialized RJ3, Cond.code yJ3_checkFromIndexSize_8c36e cJ3_checkFromIndexSize_8c36e 4 (some .int), Cond.methodLink RJ2 111 yJ2_putChar_b72d1, Cond.static yJ2_putChar_b72d1, Cond.code yJ2_putChar_b72d1 cJ2_putChar_b72d1 3 none, Cond.fieldLink RJ2 44 "java/lang/StringUTF16" "$assertionsDisabled" "Z", Cond.fieldLink RJ2 59 "java/lang/StringUTF16" "HI_BYTE_SHIFT" "I", Cond.fieldLink RJ2 63 "java/lang/StringUTF16" "LO_BYTE_SHIFT" "I", Cond.methodLink RJ5 197 yJ2_putCharSB_b72d1, Cond.static yJ2_putCharSB_b72d1, Cond.code yJ2_putCharSB_b72d1 cJ2_putCharSB_b72d1 3 none, Cond.methodLink RJ2 67 yJ2_checkIndex_2214a, Cond.static yJ2_checkIndex_2214a, Cond.code yJ2_checkIndex_2214a cJ2_checkIndex_2214a 2 none, Cond.methodLink RJ2 414 yJ0_checkIndex_df160, Cond.static yJ0_checkIndex_df160, Cond.code yJ0_checkIndex_df160 cJ0_checkIndex_df160 2 none, Cond.methodLink RJ0 1059 yJ3_checkIndex_8e157, Cond.static yJ3_checkIndex_8e157, Cond.code yJ3_checkIndex_8e157 cJ3_checkIndex_8e157 3 (some .int)]
def wsX3_appendBackwards : List Cond := .code yX3_appendBackwards cX3_appendBackwards 4 none :: ((wsX3_appendBackwards_r1 ++ (wsX3_appendBackwards_r2 ++ (wsX3_appendBackwards_r3 ++ (wsX3_appendBackwards_r4 ++ wsX3_appendBackwards_r5)))) ++ wsJ40)
def wsX3_badgeText_r1 : List Cond := [Cond.classLink RX3 205 RJ4, Cond.instantiable RJ4 4, Cond.initialized RJ4, Cond.methodLink RX3 213 yJ4_init_da8c8, Cond.instanceMethod yJ4_init_da8c8, Cond.code yJ4_init_da8c8 cJ4_init_da8c8 1 none, Cond.methodLink RJ4 1 yJ5_init_d00df, Cond.instanceMethod yJ5_init_d00df, Cond.initialized RJ5, Cond.code yJ5_init_d00df cJ5_init_d00df 2 none, Cond.methodLink RJ5 3 objectInit, Cond.instanceMethod objectInit, Cond.code objectInit ⟨#[0xb1]⟩ 1 none, Cond.fieldLink RJ5 18 "java/lang/String" "COMPACT_STRINGS" "Z", Cond.arrayClass .byte, Cond.fieldLink RJ5 15 "java/lang/AbstractStringBuilder" "value" "[B", Cond.fieldLink RJ5 22 "java/lang/AbstractStringBuilder" "coder" "B", Cond.methodLink RJ5 26 yJ2_newBytesFor_77867, Cond.static yJ2_newBytesFor_77867, Cond.initialized RJ2, Cond.code yJ2_newBytesFor_77867 cJ2_newBytesFor_77867 1 (some (.array .byte)), Cond.methodLink RJ2 11 yJ2_newBytesLength_0f7a4, Cond.static yJ2_newBytesLength_0f7a4, Cond.code yJ2_newBytesLength_0f7a4 cJ2_newBytesLength_0f7a4 1 (some .int)]
def wsX3_badgeText_r2 : List Cond := [Cond.constant RJ2 20 (1073741823), Cond.methodLink RX3 214 yJ4_append_bf812, Cond.instanceMethod yJ4_append_bf812, Cond.selects RJ4 yJ4_append_bf812 yJ4_append_bf812, Cond.code yJ4_append_bf812 cJ4_append_bf812 2 (some (.object "java/lang/StringBuilder")), Cond.methodLink RJ4 53 yJ5_append_c97b9, Cond.sameMethod "java/lang/AbstractStringBuilder" "java/lang/AbstractStringBuilder" "append" "(I)Ljava/lang/AbstractStringBuilder;", Cond.superclass RJ4 RJ5, Cond.instanceMethod yJ5_append_c97b9, Cond.code yJ5_append_c97b9 cJ5_append_c97b9 4 (some (.object "java/lang/AbstractStringBuilder")), Cond.fieldLink RJ5 79 "java/lang/AbstractStringBuilder" "count" "I", Cond.methodLink RJ5 245 yJ6_stringSize_0f7a4, Cond.static yJ6_stringSize_0f7a4, Cond.initialized RJ6, Cond.code yJ6_stringSize_0f7a4 cJ6_stringSize_0f7a4 4 (some .int), Cond.methodLink RJ5 100 ⟨"java/lang/AbstractStringBuilder", "ensureCapacityInternal", "(I)V"⟩, Cond.sameMethod "java/lang/AbstractStringBuilder" "java/lang/AbstractStringBuilder" "ensureCapacityInternal" "(I)V", Cond.selects RJ4 ⟨"java/lang/AbstractStringBuilder", "ensureCapacityInternal", "(I)V"⟩ yJ5_ensureCapacityInternal_d00df, Cond.instanceMethod yJ5_ensureCapacityInternal_d00df, Cond.code yJ5_ensureCapacityInternal_d00df cJ5_ensureCapacityInternal_d00df 3 none, Cond.methodLink RJ5 104 ⟨"java/lang/AbstractStringBuilder", "newCapacity", "(I)I"⟩, Cond.sameMethod "java/lang/AbstractStringBuilder" "java/lang/AbstractStringBuilder" "newCapacity" "(I)I", Cond.selects RJ4 ⟨"java/lang/AbstractStringBuilder", "newCapacity", "(I)I"⟩ yJ5_newCapacity_0f7a4, Cond.instanceMethod yJ5_newCapacity_0f7a4]
def wsX3_badgeText_r3 : List Cond := [Cond.code yJ5_newCapacity_0f7a4 cJ5_newCapacity_0f7a4 6 (some .int), Cond.constant RJ5 39 (2147483647), Cond.methodLink RJ5 114 yJ8_newLength_cabcc, Cond.static yJ8_newLength_cabcc, Cond.initialized RJ8, Cond.code yJ8_newLength_cabcc cJ8_newLength_cabcc 4 (some .int), Cond.methodLink RJ8 194 Lib.Math.max.name, Cond.static Lib.Math.max.name, Cond.initialized "java/lang/Math", Cond.code Lib.Math.max.name Lib.Math.max.code 2 (some .int), Cond.constant RJ8 200 (2147483639), Cond.methodLink RJ8 201 yJ8_hugeLength_7cf53, Cond.static yJ8_hugeLength_7cf53, Cond.code yJ8_hugeLength_7cf53 cJ8_hugeLength_7cf53 3 (some .int), Cond.methodLink RJ5 108 yJ7_copyOf_9075b, Cond.static yJ7_copyOf_9075b, Cond.initialized RJ7, Cond.code yJ7_copyOf_9075b cJ7_copyOf_9075b 3 (some (.array .byte)), Cond.methodLink RJ7 310 ⟨"[B", "clone", "()Ljava/lang/Object;"⟩, Cond.sameMethod "[B" "java/lang/Object" "clone" "()Ljava/lang/Object;", Cond.native ⟨"java/lang/Object", "clone", "()Ljava/lang/Object;"⟩, Cond.instanceMethod ⟨"java/lang/Object", "clone", "()Ljava/lang/Object;"⟩, Cond.selects "[B" ⟨"[B", "clone", "()Ljava/lang/Object;"⟩ ⟨"java/lang/Object", "clone", "()Ljava/lang/Object;"⟩, Cond.classLink RJ7 311 "[B"]
def wsX3_badgeText_r4 : List Cond := [Cond.methodLink RJ7 304 Lib.Math.min.name, Cond.static Lib.Math.min.name, Cond.code Lib.Math.min.name Lib.Math.min.code 2 (some .int), Cond.methodLink RJ7 150 arraycopyName, Cond.native arraycopyName, Cond.static arraycopyName, Cond.initialized "java/lang/System", Cond.methodLink RJ5 83 ⟨"java/lang/AbstractStringBuilder", "isLatin1", "()Z"⟩, Cond.sameMethod "java/lang/AbstractStringBuilder" "java/lang/AbstractStringBuilder" "isLatin1" "()Z", Cond.selects RJ4 ⟨"java/lang/AbstractStringBuilder", "isLatin1", "()Z"⟩ yJ5_isLatin1_aae02, Cond.instanceMethod yJ5_isLatin1_aae02, Cond.code yJ5_isLatin1_aae02 cJ5_isLatin1_aae02 1 (some .boolean), Cond.methodLink RJ5 248 yJ6_getChars_ba4f3, Cond.static yJ6_getChars_ba4f3, Cond.code yJ6_getChars_ba4f3 cJ6_getChars_ba4f3 7 (some .int), Cond.fieldLink RJ6 83 "java/lang/Integer" "DigitOnes" "[B", Cond.fieldLink RJ6 87 "java/lang/Integer" "DigitTens" "[B", Cond.methodLink RJ5 251 yJ2_getChars_46870, Cond.static yJ2_getChars_46870, Cond.code yJ2_getChars_46870 cJ2_getChars_46870 5 (some .int), Cond.fieldLink RJ2 44 "java/lang/StringUTF16" "$assertionsDisabled" "Z", Cond.methodLink RJ2 96 yJ2_checkBoundsBeginEnd_d044e, Cond.static yJ2_checkBoundsBeginEnd_d044e, Cond.code yJ2_checkBoundsBeginEnd_d044e cJ2_checkBoundsBeginEnd_d044e 3 none]
def wsX3_badgeText_r5 : List Cond := [Cond.methodLink RJ2 48 yJ2_length_9d52b, Cond.static yJ2_length_9d52b, Cond.code yJ2_length_9d52b cJ2_length_9d52b 1 (some .int), Cond.methodLink RJ2 241 yJ0_checkBoundsBeginEnd_23922, Cond.static yJ0_checkBoundsBeginEnd_23922, Cond.initialized RJ0, Cond.code yJ0_checkBoundsBeginEnd_23922 cJ0_checkBoundsBeginEnd_23922 3 none, Cond.fieldLink RJ0 1053 "jdk/internal/util/Preconditions" "SIOOBE_FORMATTER" "Ljava/util/function/BiFunction;", Cond.methodLink RJ0 1062 yJ3_checkFromToIndex_8c36e, Cond.static yJ3_checkFromToIndex_8c36e, Cond.initialized RJ3, Cond.code yJ3_checkFromToIndex_8c36e cJ3_checkFromToIndex_8c36e 4 (some .int), Cond.methodLink RJ2 393 yJ2_getChars_ba4f3, Cond.static yJ2_getChars_ba4f3, Cond.code yJ2_getChars_ba4f3 cJ2_getChars_ba4f3 7 (some .int), Cond.fieldLink RJ2 403 "java/lang/Integer" "DigitOnes" "[B", Cond.fieldLink RJ2 407 "java/lang/Integer" "DigitTens" "[B", Cond.methodLink RJ2 111 yJ2_putChar_b72d1, Cond.static yJ2_putChar_b72d1, Cond.code yJ2_putChar_b72d1 cJ2_putChar_b72d1 3 none, Cond.fieldLink RJ2 59 "java/lang/StringUTF16" "HI_BYTE_SHIFT" "I", Cond.fieldLink RJ2 63 "java/lang/StringUTF16" "LO_BYTE_SHIFT" "I", Cond.methodLink RX3 218 yJ4_append_cf468, Cond.instanceMethod yJ4_append_cf468]
def wsX3_badgeText_r6 : List Cond := [Cond.selects RJ4 yJ4_append_cf468 yJ4_append_cf468, Cond.code yJ4_append_cf468 cJ4_append_cf468 2 (some (.object "java/lang/StringBuilder")), Cond.methodLink RJ4 50 yJ5_append_3fe6f, Cond.sameMethod "java/lang/AbstractStringBuilder" "java/lang/AbstractStringBuilder" "append" "(C)Ljava/lang/AbstractStringBuilder;", Cond.instanceMethod yJ5_append_3fe6f, Cond.code yJ5_append_3fe6f cJ5_append_3fe6f 2 (some (.object "java/lang/AbstractStringBuilder")), Cond.methodLink RJ5 191 yJ1_canEncode_fc78d, Cond.static yJ1_canEncode_fc78d, Cond.initialized RJ1, Cond.code yJ1_canEncode_fc78d cJ1_canEncode_fc78d 1 (some .boolean), Cond.methodLink RJ5 195 ⟨"java/lang/AbstractStringBuilder", "inflate", "()V"⟩, Cond.sameMethod "java/lang/AbstractStringBuilder" "java/lang/AbstractStringBuilder" "inflate" "()V", Cond.selects RJ4 ⟨"java/lang/AbstractStringBuilder", "inflate", "()V"⟩ yJ5_inflate_da8c8, Cond.instanceMethod yJ5_inflate_da8c8, Cond.code yJ5_inflate_da8c8 cJ5_inflate_da8c8 2 none, Cond.methodLink RJ5 125 yJ1_inflate_0e8fd, Cond.static yJ1_inflate_0e8fd, Cond.code yJ1_inflate_0e8fd cJ1_inflate_0e8fd 5 none, Cond.methodLink RJ1 240 yJ2_inflate_0e8fd, Cond.static yJ2_inflate_0e8fd, Cond.code yJ2_inflate_0e8fd cJ2_inflate_0e8fd 6 none, Cond.methodLink RJ2 173 yJ2_checkBoundsOffCount_d044e, Cond.static yJ2_checkBoundsOffCount_d044e, Cond.code yJ2_checkBoundsOffCount_d044e cJ2_checkBoundsOffCount_d044e 3 none]
def wsX3_badgeText_r7 : List Cond := [Cond.methodLink RJ2 419 yJ0_checkBoundsOffCount_cabcc, Cond.static yJ0_checkBoundsOffCount_cabcc, Cond.code yJ0_checkBoundsOffCount_cabcc cJ0_checkBoundsOffCount_cabcc 3 (some .int), Cond.methodLink RJ0 1065 yJ3_checkFromIndexSize_8c36e, Cond.static yJ3_checkFromIndexSize_8c36e, Cond.code yJ3_checkFromIndexSize_8c36e cJ3_checkFromIndexSize_8c36e 4 (some .int), Cond.methodLink RJ5 197 yJ2_putCharSB_b72d1, Cond.static yJ2_putCharSB_b72d1, Cond.code yJ2_putCharSB_b72d1 cJ2_putCharSB_b72d1 3 none, Cond.methodLink RJ2 67 yJ2_checkIndex_2214a, Cond.static yJ2_checkIndex_2214a, Cond.code yJ2_checkIndex_2214a cJ2_checkIndex_2214a 2 none, Cond.methodLink RJ2 414 yJ0_checkIndex_df160, Cond.static yJ0_checkIndex_df160, Cond.code yJ0_checkIndex_df160 cJ0_checkIndex_df160 2 none, Cond.methodLink RJ0 1059 yJ3_checkIndex_8e157, Cond.static yJ3_checkIndex_8e157, Cond.code yJ3_checkIndex_8e157 cJ3_checkIndex_8e157 3 (some .int), Cond.methodLink RX3 221 yX3_appendBackwards, Cond.static yX3_appendBackwards, Cond.initialized RX3, Cond.code yX3_appendBackwards cX3_appendBackwards 4 none]
def wsX3_badgeText : List Cond := .code yX3_badgeText cX3_badgeText 3 (some (.object "java/lang/StringBuilder")) :: ((wsX3_badgeText_r1 ++ (wsX3_badgeText_r2 ++ (wsX3_badgeText_r3 ++ (wsX3_badgeText_r4 ++ (wsX3_badgeText_r5 ++ (wsX3_badgeText_r6 ++ wsX3_badgeText_r7)))))) ++ wsJ40)
def wsJ5_length_8abf5 : List Cond := .code yJ5_length_8abf5 cJ5_length_8abf5 1 (some .int) :: ([.fieldLink RJ5 79 "java/lang/AbstractStringBuilder" "count" "I"] ++ wsJ40)
def wsJ4_length_8abf5 : List Cond := .code yJ4_length_8abf5 cJ4_length_8abf5 1 (some .int) :: ([.methodLink RJ4 343 yJ5_length_8abf5, .sameMethod "java/lang/AbstractStringBuilder" "java/lang/AbstractStringBuilder" "length" "()I", .superclass RJ4 RJ5, .instanceMethod yJ5_length_8abf5, .initialized RJ5, .code yJ5_length_8abf5 cJ5_length_8abf5 1 (some .int), .fieldLink RJ5 79 "java/lang/AbstractStringBuilder" "count" "I"] ++ wsJ40)
def wsJ2_getChar_3b067 : List Cond := .code yJ2_getChar_3b067 cJ2_getChar_3b067 2 (some .char) :: ([.fieldLink RJ2 44 "java/lang/StringUTF16" "$assertionsDisabled" "Z", .fieldLink RJ2 59 "java/lang/StringUTF16" "HI_BYTE_SHIFT" "I", .fieldLink RJ2 63 "java/lang/StringUTF16" "LO_BYTE_SHIFT" "I", .methodLink RJ2 48 yJ2_length_9d52b, .static yJ2_length_9d52b, .initialized RJ2, .code yJ2_length_9d52b cJ2_length_9d52b 1 (some .int)])
def wsJ5_charAt_5068e_r1 : List Cond := [Cond.fieldLink RJ5 22 "java/lang/AbstractStringBuilder" "coder" "B", Cond.fieldLink RJ5 15 "java/lang/AbstractStringBuilder" "value" "[B", Cond.fieldLink RJ5 79 "java/lang/AbstractStringBuilder" "count" "I", Cond.methodLink RJ5 138 Lib.Math.min.name, Cond.static Lib.Math.min.name, Cond.initialized "java/lang/Math", Cond.code Lib.Math.min.name Lib.Math.min.code 2 (some .int), Cond.methodLink RJ5 144 yJ0_checkIndex_df160, Cond.static yJ0_checkIndex_df160, Cond.initialized RJ0, Cond.code yJ0_checkIndex_df160 cJ0_checkIndex_df160 2 none, Cond.fieldLink RJ0 1053 "jdk/internal/util/Preconditions" "SIOOBE_FORMATTER" "Ljava/util/function/BiFunction;", Cond.methodLink RJ0 1059 yJ3_checkIndex_8e157, Cond.static yJ3_checkIndex_8e157, Cond.initialized RJ3, Cond.code yJ3_checkIndex_8e157 cJ3_checkIndex_8e157 3 (some .int), Cond.methodLink RJ5 148 yJ2_getChar_3b067, Cond.static yJ2_getChar_3b067, Cond.initialized RJ2, Cond.code yJ2_getChar_3b067 cJ2_getChar_3b067 2 (some .char), Cond.fieldLink RJ2 44 "java/lang/StringUTF16" "$assertionsDisabled" "Z", Cond.fieldLink RJ2 59 "java/lang/StringUTF16" "HI_BYTE_SHIFT" "I", Cond.fieldLink RJ2 63 "java/lang/StringUTF16" "LO_BYTE_SHIFT" "I", Cond.methodLink RJ2 48 yJ2_length_9d52b]
def wsJ5_charAt_5068e_r2 : List Cond := [Cond.static yJ2_length_9d52b, Cond.code yJ2_length_9d52b cJ2_length_9d52b 1 (some .int)]
def wsJ5_charAt_5068e : List Cond := .code yJ5_charAt_5068e cJ5_charAt_5068e 5 (some .char) :: ((wsJ5_charAt_5068e_r1 ++ wsJ5_charAt_5068e_r2) ++ wsJ40)
def wsJ4_charAt_5068e_r1 : List Cond := [Cond.methodLink RJ4 329 yJ5_charAt_5068e, Cond.sameMethod "java/lang/AbstractStringBuilder" "java/lang/AbstractStringBuilder" "charAt" "(I)C", Cond.superclass RJ4 RJ5, Cond.instanceMethod yJ5_charAt_5068e, Cond.initialized RJ5, Cond.code yJ5_charAt_5068e cJ5_charAt_5068e 5 (some .char), Cond.fieldLink RJ5 22 "java/lang/AbstractStringBuilder" "coder" "B", Cond.fieldLink RJ5 15 "java/lang/AbstractStringBuilder" "value" "[B", Cond.fieldLink RJ5 79 "java/lang/AbstractStringBuilder" "count" "I", Cond.methodLink RJ5 138 Lib.Math.min.name, Cond.static Lib.Math.min.name, Cond.initialized "java/lang/Math", Cond.code Lib.Math.min.name Lib.Math.min.code 2 (some .int), Cond.methodLink RJ5 144 yJ0_checkIndex_df160, Cond.static yJ0_checkIndex_df160, Cond.initialized RJ0, Cond.code yJ0_checkIndex_df160 cJ0_checkIndex_df160 2 none, Cond.fieldLink RJ0 1053 "jdk/internal/util/Preconditions" "SIOOBE_FORMATTER" "Ljava/util/function/BiFunction;", Cond.methodLink RJ0 1059 yJ3_checkIndex_8e157, Cond.static yJ3_checkIndex_8e157, Cond.initialized RJ3, Cond.code yJ3_checkIndex_8e157 cJ3_checkIndex_8e157 3 (some .int), Cond.methodLink RJ5 148 yJ2_getChar_3b067, Cond.static yJ2_getChar_3b067]
def wsJ4_charAt_5068e_r2 : List Cond := [Cond.initialized RJ2, Cond.code yJ2_getChar_3b067 cJ2_getChar_3b067 2 (some .char), Cond.fieldLink RJ2 44 "java/lang/StringUTF16" "$assertionsDisabled" "Z", Cond.fieldLink RJ2 59 "java/lang/StringUTF16" "HI_BYTE_SHIFT" "I", Cond.fieldLink RJ2 63 "java/lang/StringUTF16" "LO_BYTE_SHIFT" "I", Cond.methodLink RJ2 48 yJ2_length_9d52b, Cond.static yJ2_length_9d52b, Cond.code yJ2_length_9d52b cJ2_length_9d52b 1 (some .int)]
def wsJ4_charAt_5068e : List Cond := .code yJ4_charAt_5068e cJ4_charAt_5068e 2 (some .char) :: ((wsJ4_charAt_5068e_r1 ++ wsJ4_charAt_5068e_r2) ++ wsJ40)
def wsX3_sign_r1 : List Cond := [Cond.classLink RX3 48 "java/lang/IndexOutOfBoundsException", Cond.initialized "java/lang/IndexOutOfBoundsException", Cond.fieldLink RX3 19 "VouchGate" "ties" "LVouchGate$Ties;", Cond.methodLink RX3 44 yX3_isPerson, Cond.static yX3_isPerson, Cond.initialized RX3, Cond.code yX3_isPerson cX3_isPerson 1 (some .boolean), Cond.methodLink RX3 139 yX2_badgeOf, Cond.instanceMethod yX2_badgeOf, Cond.selects RX2 yX2_badgeOf yX2_badgeOf, Cond.initialized RX2, Cond.code yX2_badgeOf cX2_badgeOf 2 (some .int), Cond.fieldLink RX2 28 "VouchGate$Ties" "badges" "[I", Cond.methodLink RX3 200 yX3_badgeText, Cond.static yX3_badgeText, Cond.code yX3_badgeText cX3_badgeText 3 (some (.object "java/lang/StringBuilder")), Cond.classLink RX3 205 RJ4, Cond.instantiable RJ4 4, Cond.initialized RJ4, Cond.methodLink RX3 213 yJ4_init_da8c8, Cond.instanceMethod yJ4_init_da8c8, Cond.code yJ4_init_da8c8 cJ4_init_da8c8 1 none, Cond.methodLink RJ4 1 yJ5_init_d00df, Cond.instanceMethod yJ5_init_d00df]
def wsX3_sign_r2 : List Cond := [Cond.initialized RJ5, Cond.code yJ5_init_d00df cJ5_init_d00df 2 none, Cond.methodLink RJ5 3 objectInit, Cond.instanceMethod objectInit, Cond.code objectInit ⟨#[0xb1]⟩ 1 none, Cond.fieldLink RJ5 18 "java/lang/String" "COMPACT_STRINGS" "Z", Cond.arrayClass .byte, Cond.fieldLink RJ5 15 "java/lang/AbstractStringBuilder" "value" "[B", Cond.fieldLink RJ5 22 "java/lang/AbstractStringBuilder" "coder" "B", Cond.methodLink RJ5 26 yJ2_newBytesFor_77867, Cond.static yJ2_newBytesFor_77867, Cond.initialized RJ2, Cond.code yJ2_newBytesFor_77867 cJ2_newBytesFor_77867 1 (some (.array .byte)), Cond.methodLink RJ2 11 yJ2_newBytesLength_0f7a4, Cond.static yJ2_newBytesLength_0f7a4, Cond.code yJ2_newBytesLength_0f7a4 cJ2_newBytesLength_0f7a4 1 (some .int), Cond.constant RJ2 20 (1073741823), Cond.methodLink RX3 214 yJ4_append_bf812, Cond.instanceMethod yJ4_append_bf812, Cond.selects RJ4 yJ4_append_bf812 yJ4_append_bf812, Cond.code yJ4_append_bf812 cJ4_append_bf812 2 (some (.object "java/lang/StringBuilder")), Cond.methodLink RJ4 53 yJ5_append_c97b9, Cond.sameMethod "java/lang/AbstractStringBuilder" "java/lang/AbstractStringBuilder" "append" "(I)Ljava/lang/AbstractStringBuilder;", Cond.superclass RJ4 RJ5]
def wsX3_sign_r3 : List Cond := [Cond.instanceMethod yJ5_append_c97b9, Cond.code yJ5_append_c97b9 cJ5_append_c97b9 4 (some (.object "java/lang/AbstractStringBuilder")), Cond.fieldLink RJ5 79 "java/lang/AbstractStringBuilder" "count" "I", Cond.methodLink RJ5 245 yJ6_stringSize_0f7a4, Cond.static yJ6_stringSize_0f7a4, Cond.initialized RJ6, Cond.code yJ6_stringSize_0f7a4 cJ6_stringSize_0f7a4 4 (some .int), Cond.methodLink RJ5 100 ⟨"java/lang/AbstractStringBuilder", "ensureCapacityInternal", "(I)V"⟩, Cond.sameMethod "java/lang/AbstractStringBuilder" "java/lang/AbstractStringBuilder" "ensureCapacityInternal" "(I)V", Cond.selects RJ4 ⟨"java/lang/AbstractStringBuilder", "ensureCapacityInternal", "(I)V"⟩ yJ5_ensureCapacityInternal_d00df, Cond.instanceMethod yJ5_ensureCapacityInternal_d00df, Cond.code yJ5_ensureCapacityInternal_d00df cJ5_ensureCapacityInternal_d00df 3 none, Cond.methodLink RJ5 104 ⟨"java/lang/AbstractStringBuilder", "newCapacity", "(I)I"⟩, Cond.sameMethod "java/lang/AbstractStringBuilder" "java/lang/AbstractStringBuilder" "newCapacity" "(I)I", Cond.selects RJ4 ⟨"java/lang/AbstractStringBuilder", "newCapacity", "(I)I"⟩ yJ5_newCapacity_0f7a4, Cond.instanceMethod yJ5_newCapacity_0f7a4, Cond.code yJ5_newCapacity_0f7a4 cJ5_newCapacity_0f7a4 6 (some .int), Cond.constant RJ5 39 (2147483647), Cond.methodLink RJ5 114 yJ8_newLength_cabcc, Cond.static yJ8_newLength_cabcc, Cond.initialized RJ8, Cond.code yJ8_newLength_cabcc cJ8_newLength_cabcc 4 (some .int), Cond.methodLink RJ8 194 Lib.Math.max.name, Cond.static Lib.Math.max.name]
def wsX3_sign_r4 : List Cond := [Cond.initialized "java/lang/Math", Cond.code Lib.Math.max.name Lib.Math.max.code 2 (some .int), Cond.constant RJ8 200 (2147483639), Cond.methodLink RJ8 201 yJ8_hugeLength_7cf53, Cond.static yJ8_hugeLength_7cf53, Cond.code yJ8_hugeLength_7cf53 cJ8_hugeLength_7cf53 3 (some .int), Cond.methodLink RJ5 108 yJ7_copyOf_9075b, Cond.static yJ7_copyOf_9075b, Cond.initialized RJ7, Cond.code yJ7_copyOf_9075b cJ7_copyOf_9075b 3 (some (.array .byte)), Cond.methodLink RJ7 310 ⟨"[B", "clone", "()Ljava/lang/Object;"⟩, Cond.sameMethod "[B" "java/lang/Object" "clone" "()Ljava/lang/Object;", Cond.native ⟨"java/lang/Object", "clone", "()Ljava/lang/Object;"⟩, Cond.instanceMethod ⟨"java/lang/Object", "clone", "()Ljava/lang/Object;"⟩, Cond.selects "[B" ⟨"[B", "clone", "()Ljava/lang/Object;"⟩ ⟨"java/lang/Object", "clone", "()Ljava/lang/Object;"⟩, Cond.classLink RJ7 311 "[B", Cond.methodLink RJ7 304 Lib.Math.min.name, Cond.static Lib.Math.min.name, Cond.code Lib.Math.min.name Lib.Math.min.code 2 (some .int), Cond.methodLink RJ7 150 arraycopyName, Cond.native arraycopyName, Cond.static arraycopyName, Cond.initialized "java/lang/System", Cond.methodLink RJ5 83 ⟨"java/lang/AbstractStringBuilder", "isLatin1", "()Z"⟩]
def wsX3_sign_r5 : List Cond := [Cond.sameMethod "java/lang/AbstractStringBuilder" "java/lang/AbstractStringBuilder" "isLatin1" "()Z", Cond.selects RJ4 ⟨"java/lang/AbstractStringBuilder", "isLatin1", "()Z"⟩ yJ5_isLatin1_aae02, Cond.instanceMethod yJ5_isLatin1_aae02, Cond.code yJ5_isLatin1_aae02 cJ5_isLatin1_aae02 1 (some .boolean), Cond.methodLink RJ5 248 yJ6_getChars_ba4f3, Cond.static yJ6_getChars_ba4f3, Cond.code yJ6_getChars_ba4f3 cJ6_getChars_ba4f3 7 (some .int), Cond.fieldLink RJ6 83 "java/lang/Integer" "DigitOnes" "[B", Cond.fieldLink RJ6 87 "java/lang/Integer" "DigitTens" "[B", Cond.methodLink RJ5 251 yJ2_getChars_46870, Cond.static yJ2_getChars_46870, Cond.code yJ2_getChars_46870 cJ2_getChars_46870 5 (some .int), Cond.fieldLink RJ2 44 "java/lang/StringUTF16" "$assertionsDisabled" "Z", Cond.methodLink RJ2 96 yJ2_checkBoundsBeginEnd_d044e, Cond.static yJ2_checkBoundsBeginEnd_d044e, Cond.code yJ2_checkBoundsBeginEnd_d044e cJ2_checkBoundsBeginEnd_d044e 3 none, Cond.methodLink RJ2 48 yJ2_length_9d52b, Cond.static yJ2_length_9d52b, Cond.code yJ2_length_9d52b cJ2_length_9d52b 1 (some .int), Cond.methodLink RJ2 241 yJ0_checkBoundsBeginEnd_23922, Cond.static yJ0_checkBoundsBeginEnd_23922, Cond.initialized RJ0, Cond.code yJ0_checkBoundsBeginEnd_23922 cJ0_checkBoundsBeginEnd_23922 3 none, Cond.fieldLink RJ0 1053 "jdk/internal/util/Preconditions" "SIOOBE_FORMATTER" "Ljava/util/function/BiFunction;"]
def wsX3_sign_r6 : List Cond := [Cond.methodLink RJ0 1062 yJ3_checkFromToIndex_8c36e, Cond.static yJ3_checkFromToIndex_8c36e, Cond.initialized RJ3, Cond.code yJ3_checkFromToIndex_8c36e cJ3_checkFromToIndex_8c36e 4 (some .int), Cond.methodLink RJ2 393 yJ2_getChars_ba4f3, Cond.static yJ2_getChars_ba4f3, Cond.code yJ2_getChars_ba4f3 cJ2_getChars_ba4f3 7 (some .int), Cond.fieldLink RJ2 403 "java/lang/Integer" "DigitOnes" "[B", Cond.fieldLink RJ2 407 "java/lang/Integer" "DigitTens" "[B", Cond.methodLink RJ2 111 yJ2_putChar_b72d1, Cond.static yJ2_putChar_b72d1, Cond.code yJ2_putChar_b72d1 cJ2_putChar_b72d1 3 none, Cond.fieldLink RJ2 59 "java/lang/StringUTF16" "HI_BYTE_SHIFT" "I", Cond.fieldLink RJ2 63 "java/lang/StringUTF16" "LO_BYTE_SHIFT" "I", Cond.methodLink RX3 218 yJ4_append_cf468, Cond.instanceMethod yJ4_append_cf468, Cond.selects RJ4 yJ4_append_cf468 yJ4_append_cf468, Cond.code yJ4_append_cf468 cJ4_append_cf468 2 (some (.object "java/lang/StringBuilder")), Cond.methodLink RJ4 50 yJ5_append_3fe6f, Cond.sameMethod "java/lang/AbstractStringBuilder" "java/lang/AbstractStringBuilder" "append" "(C)Ljava/lang/AbstractStringBuilder;", Cond.instanceMethod yJ5_append_3fe6f, Cond.code yJ5_append_3fe6f cJ5_append_3fe6f 2 (some (.object "java/lang/AbstractStringBuilder")), Cond.methodLink RJ5 191 yJ1_canEncode_fc78d, Cond.static yJ1_canEncode_fc78d]
def wsX3_sign_r7 : List Cond := [Cond.initialized RJ1, Cond.code yJ1_canEncode_fc78d cJ1_canEncode_fc78d 1 (some .boolean), Cond.methodLink RJ5 195 ⟨"java/lang/AbstractStringBuilder", "inflate", "()V"⟩, Cond.sameMethod "java/lang/AbstractStringBuilder" "java/lang/AbstractStringBuilder" "inflate" "()V", Cond.selects RJ4 ⟨"java/lang/AbstractStringBuilder", "inflate", "()V"⟩ yJ5_inflate_da8c8, Cond.instanceMethod yJ5_inflate_da8c8, Cond.code yJ5_inflate_da8c8 cJ5_inflate_da8c8 2 none, Cond.methodLink RJ5 125 yJ1_inflate_0e8fd, Cond.static yJ1_inflate_0e8fd, Cond.code yJ1_inflate_0e8fd cJ1_inflate_0e8fd 5 none, Cond.methodLink RJ1 240 yJ2_inflate_0e8fd, Cond.static yJ2_inflate_0e8fd, Cond.code yJ2_inflate_0e8fd cJ2_inflate_0e8fd 6 none, Cond.methodLink RJ2 173 yJ2_checkBoundsOffCount_d044e, Cond.static yJ2_checkBoundsOffCount_d044e, Cond.code yJ2_checkBoundsOffCount_d044e cJ2_checkBoundsOffCount_d044e 3 none, Cond.methodLink RJ2 419 yJ0_checkBoundsOffCount_cabcc, Cond.static yJ0_checkBoundsOffCount_cabcc, Cond.code yJ0_checkBoundsOffCount_cabcc cJ0_checkBoundsOffCount_cabcc 3 (some .int), Cond.methodLink RJ0 1065 yJ3_checkFromIndexSize_8c36e, Cond.static yJ3_checkFromIndexSize_8c36e, Cond.code yJ3_checkFromIndexSize_8c36e cJ3_checkFromIndexSize_8c36e 4 (some .int), Cond.methodLink RJ5 197 yJ2_putCharSB_b72d1, Cond.static yJ2_putCharSB_b72d1]
def wsX3_sign_r8 : List Cond := [Cond.code yJ2_putCharSB_b72d1 cJ2_putCharSB_b72d1 3 none, Cond.methodLink RJ2 67 yJ2_checkIndex_2214a, Cond.static yJ2_checkIndex_2214a, Cond.code yJ2_checkIndex_2214a cJ2_checkIndex_2214a 2 none, Cond.methodLink RJ2 414 yJ0_checkIndex_df160, Cond.static yJ0_checkIndex_df160, Cond.code yJ0_checkIndex_df160 cJ0_checkIndex_df160 2 none, Cond.methodLink RJ0 1059 yJ3_checkIndex_8e157, Cond.static yJ3_checkIndex_8e157, Cond.code yJ3_checkIndex_8e157 cJ3_checkIndex_8e157 3 (some .int), Cond.methodLink RX3 221 yX3_appendBackwards, Cond.static yX3_appendBackwards, Cond.code yX3_appendBackwards cX3_appendBackwards 4 none, Cond.methodLink RX3 204 yJ4_length_8abf5, Cond.instanceMethod yJ4_length_8abf5, Cond.selects RJ4 yJ4_length_8abf5 yJ4_length_8abf5, Cond.code yJ4_length_8abf5 cJ4_length_8abf5 1 (some .int), Cond.methodLink RJ4 343 yJ5_length_8abf5, Cond.sameMethod "java/lang/AbstractStringBuilder" "java/lang/AbstractStringBuilder" "length" "()I", Cond.instanceMethod yJ5_length_8abf5, Cond.code yJ5_length_8abf5 cJ5_length_8abf5 1 (some .int), Cond.methodLink RX3 209 yJ4_charAt_5068e, Cond.instanceMethod yJ4_charAt_5068e, Cond.selects RJ4 yJ4_charAt_5068e yJ4_charAt_5068e]
def wsX3_sign_r9 : List Cond := [Cond.code yJ4_charAt_5068e cJ4_charAt_5068e 2 (some .char), Cond.methodLink RJ4 329 yJ5_charAt_5068e, Cond.sameMethod "java/lang/AbstractStringBuilder" "java/lang/AbstractStringBuilder" "charAt" "(I)C", Cond.instanceMethod yJ5_charAt_5068e, Cond.code yJ5_charAt_5068e cJ5_charAt_5068e 5 (some .char), Cond.methodLink RJ5 138 Lib.Math.min.name, Cond.methodLink RJ5 144 yJ0_checkIndex_df160, Cond.methodLink RJ5 148 yJ2_getChar_3b067, Cond.static yJ2_getChar_3b067, Cond.code yJ2_getChar_3b067 cJ2_getChar_3b067 2 (some .char)]
def wsX3_sign : List Cond := .code yX3_sign cX3_sign 4 (some .char) :: ((wsX3_sign_r1 ++ (wsX3_sign_r2 ++ (wsX3_sign_r3 ++ (wsX3_sign_r4 ++ (wsX3_sign_r5 ++ (wsX3_sign_r6 ++ (wsX3_sign_r7 ++ (wsX3_sign_r8 ++ wsX3_sign_r9)))))))) ++ wsX30 ++ wsX20 ++ wsJ40 ++ (vx_atS RX3 52 "java/lang/IndexOutOfBoundsException" ["java/lang/RuntimeException", "java/lang/Exception"]).filter goodWord)
def wsX3_keyOf_r1 : List Cond := [Cond.classLink RX3 48 "java/lang/IndexOutOfBoundsException", Cond.initialized "java/lang/IndexOutOfBoundsException", Cond.classLink RX3 55 "java/lang/IllegalArgumentException", Cond.initialized "java/lang/IllegalArgumentException", Cond.fieldLink RX3 33 "VouchGate" "keepers" "[I", Cond.fieldLink RX3 37 "VouchGate" "thresholds" "[I", Cond.methodLink RX3 153 yX3_isKey, Cond.static yX3_isKey, Cond.initialized RX3, Cond.code yX3_isKey cX3_isKey 1 (some .boolean), Cond.methodLink RX3 167 yX3_countUsers, Cond.instanceMethod yX3_countUsers, Cond.selects RX3 yX3_countUsers yX3_countUsers, Cond.code yX3_countUsers cX3_countUsers 4 (some .int), Cond.methodLink RX3 147 yX3_holds, Cond.static yX3_holds, Cond.code yX3_holds cX3_holds 2 (some .boolean), Cond.methodLink RX3 88 yX3_mayAct, Cond.instanceMethod yX3_mayAct, Cond.selects RX3 yX3_mayAct yX3_mayAct, Cond.code yX3_mayAct cX3_mayAct 2 (some .boolean), Cond.fieldLink RX3 10 "VouchGate" "desk" "LVouchGate$Desk;", Cond.fieldLink RX3 40 "VouchGate" "now" "I", Cond.fieldLink RX3 19 "VouchGate" "ties" "LVouchGate$Ties;"]
def wsX3_keyOf_r2 : List Cond := [Cond.methodLink RX3 60 yX0_isInSession, Cond.instanceMethod yX0_isInSession, Cond.selects RX0 yX0_isInSession yX0_isInSession, Cond.initialized RX0, Cond.code yX0_isInSession cX0_isInSession 3 (some .boolean), Cond.fieldLink RX0 21 "VouchGate$Desk" "sessionEnds" "[I", Cond.methodLink RX3 174 yX2_isTrusted, Cond.instanceMethod yX2_isTrusted, Cond.selects RX2 yX2_isTrusted yX2_isTrusted, Cond.initialized RX2, Cond.code yX2_isTrusted cX2_isTrusted 2 (some .boolean), Cond.methodLink RX2 48 yX2_stepsToStaff, Cond.instanceMethod yX2_stepsToStaff, Cond.selects RX2 yX2_stepsToStaff yX2_stepsToStaff, Cond.code yX2_stepsToStaff cX2_stepsToStaff 4 (some .int), Cond.fieldLink RX2 9 "VouchGate$Ties" "hosts" "[I", Cond.static yX3_isPerson, Cond.code yX3_isPerson cX3_isPerson 1 (some .boolean), Cond.static yX3_isGuest, Cond.code yX3_isGuest cX3_isGuest 1 (some .boolean), Cond.methodLink RX3 150 yX2_isTainted, Cond.instanceMethod yX2_isTainted, Cond.selects RX2 yX2_isTainted yX2_isTainted, Cond.code yX2_isTainted cX2_isTainted 2 (some .boolean)]
def wsX3_keyOf_r3 : List Cond := [Cond.fieldLink RX2 31 "VouchGate$Ties" "lost" "[Z", Cond.methodLink RX2 55 yX2_standsOnBadVouching, Cond.instanceMethod yX2_standsOnBadVouching, Cond.selects RX2 yX2_standsOnBadVouching yX2_standsOnBadVouching, Cond.code yX2_standsOnBadVouching cX2_standsOnBadVouching 4 (some .boolean), Cond.fieldLink RX2 24 "VouchGate$Ties" "bad" "[Z"]
def wsX3_keyOf : List Cond := .code yX3_keyOf cX3_keyOf 3 (some .int) :: ((wsX3_keyOf_r1 ++ (wsX3_keyOf_r2 ++ wsX3_keyOf_r3)) ++ wsX30 ++ wsX00 ++ wsX20 ++ (vx_atS RX3 52 "java/lang/IndexOutOfBoundsException" ["java/lang/RuntimeException", "java/lang/Exception"]).filter goodWord ++ (vx_atS RX3 59 "java/lang/IllegalArgumentException" ["java/lang/RuntimeException", "java/lang/Exception"]).filter goodWord)
def wsJ9_max_7cf53 : List Cond := .code yJ9_max_7cf53 cJ9_max_7cf53 2 (some .int) :: ([])
def wsJ9_min_7cf53 : List Cond := .code yJ9_min_7cf53 cJ9_min_7cf53 2 (some .int) :: ([])
def wsL_at : List Cond := .code yL_at cL_at 2 (some .int) :: ([.constant RL 7 (1673918935), .constant RL 8 (699917297)])
def wsL_low : List Cond := .code yL_low cL_low 2 (some .int) :: ([.constant RL 9 (2147483647)])
def wsL_word_r1 : List Cond := [Cond.classLink RL 16 "java/lang/IndexOutOfBoundsException", Cond.classLink RL 19 "java/lang/IllegalArgumentException", Cond.classLink RL 22 "java/lang/IllegalStateException", Cond.constant RL 18 (-1000001), Cond.constant RL 21 (-1000002), Cond.constant RL 24 (-1000003), Cond.methodLink RL 10 yX3_word, Cond.instanceMethod yX3_word, Cond.selects RX3 yX3_word yX3_word, Cond.initialized RX3, Cond.code yX3_word cX3_word 3 none, Cond.classLink RX3 48 "java/lang/IndexOutOfBoundsException", Cond.initialized "java/lang/IndexOutOfBoundsException", Cond.classLink RX3 55 "java/lang/IllegalArgumentException", Cond.initialized "java/lang/IllegalArgumentException", Cond.classLink RX3 64 "java/lang/IllegalStateException", Cond.initialized "java/lang/IllegalStateException", Cond.fieldLink RX3 10 "VouchGate" "desk" "LVouchGate$Desk;", Cond.fieldLink RX3 40 "VouchGate" "now" "I", Cond.methodLink RX3 44 yX3_isPerson, Cond.static yX3_isPerson, Cond.code yX3_isPerson cX3_isPerson 1 (some .boolean), Cond.methodLink RX3 60 yX0_isInSession, Cond.instanceMethod yX0_isInSession]
def wsL_word_r2 : List Cond := [Cond.selects RX0 yX0_isInSession yX0_isInSession, Cond.initialized RX0, Cond.code yX0_isInSession cX0_isInSession 3 (some .boolean), Cond.fieldLink RX0 21 "VouchGate$Desk" "sessionEnds" "[I", Cond.methodLink RX3 69 yX0_setWord, Cond.instanceMethod yX0_setWord, Cond.selects RX0 yX0_setWord yX0_setWord, Cond.code yX0_setWord cX0_setWord 3 none, Cond.fieldLink RX0 9 "VouchGate$Desk" "words" "[I"]
def wsL_word : List Cond := .codeWith yL_word cL_word 4 (some .int) [(0, 7, 8, 16), (0, 7, 12, 19), (0, 7, 16, 22)] :: ((wsL_word_r1 ++ wsL_word_r2) ++ wsX30 ++ wsX00 ++ (vx_atS RX3 52 "java/lang/IndexOutOfBoundsException" ["java/lang/RuntimeException", "java/lang/Exception"]).filter goodWord ++ (vx_atS RX3 59 "java/lang/IllegalArgumentException" ["java/lang/RuntimeException", "java/lang/Exception"]).filter goodWord ++ (vx_atS RX3 68 "java/lang/IllegalStateException" ["java/lang/RuntimeException", "java/lang/Exception"]).filter goodWord)
def wsL_login_r1 : List Cond := [Cond.classLink RL 16 "java/lang/IndexOutOfBoundsException", Cond.classLink RL 19 "java/lang/IllegalArgumentException", Cond.constant RL 18 (-1000001), Cond.constant RL 21 (-1000002), Cond.methodLink RL 25 yX3_login, Cond.instanceMethod yX3_login, Cond.selects RX3 yX3_login yX3_login, Cond.initialized RX3, Cond.code yX3_login cX3_login 4 (some .int), Cond.classLink RX3 48 "java/lang/IndexOutOfBoundsException", Cond.initialized "java/lang/IndexOutOfBoundsException", Cond.classLink RX3 55 "java/lang/IllegalArgumentException", Cond.initialized "java/lang/IllegalArgumentException", Cond.fieldLink RX3 10 "VouchGate" "desk" "LVouchGate$Desk;", Cond.fieldLink RX3 40 "VouchGate" "now" "I", Cond.methodLink RX3 44 yX3_isPerson, Cond.static yX3_isPerson, Cond.code yX3_isPerson cX3_isPerson 1 (some .boolean), Cond.methodLink RX3 75 yX0_tryLogin, Cond.instanceMethod yX0_tryLogin, Cond.selects RX0 yX0_tryLogin yX0_tryLogin, Cond.initialized RX0, Cond.code yX0_tryLogin cX0_tryLogin 5 (some .int), Cond.fieldLink RX0 18 "VouchGate$Desk" "restEnds" "[I"]
def wsL_login_r2 : List Cond := [Cond.fieldLink RX0 9 "VouchGate$Desk" "words" "[I", Cond.fieldLink RX0 15 "VouchGate$Desk" "failures" "[I", Cond.fieldLink RX0 21 "VouchGate$Desk" "sessionEnds" "[I", Cond.methodLink RX0 24 yX0_countFailure, Cond.instanceMethod yX0_countFailure, Cond.selects RX0 yX0_countFailure yX0_countFailure, Cond.code yX0_countFailure cX0_countFailure 3 none, Cond.methodLink RX0 28 yX0_codeOf, Cond.static yX0_codeOf, Cond.code yX0_codeOf cX0_codeOf 2 (some .int)]
def wsL_login : List Cond := .codeWith yL_login cL_login 5 (some .int) [(0, 7, 8, 16), (0, 7, 13, 19)] :: ((wsL_login_r1 ++ wsL_login_r2) ++ wsX30 ++ wsX00 ++ (vx_atS RX3 52 "java/lang/IndexOutOfBoundsException" ["java/lang/RuntimeException", "java/lang/Exception"]).filter goodWord ++ (vx_atS RX3 59 "java/lang/IllegalArgumentException" ["java/lang/RuntimeException", "java/lang/Exception"]).filter goodWord)
def wsL_pass : List Cond := .codeWith yL_pass cL_pass 3 (some .int) [(0, 5, 6, 19)] :: ([.classLink RL 19 "java/lang/IllegalArgumentException", .constant RL 21 (-1000002), .methodLink RL 29 yX3_pass, .instanceMethod yX3_pass, .selects RX3 yX3_pass yX3_pass, .initialized RX3, .code yX3_pass cX3_pass 2 (some .int), .classLink RX3 55 "java/lang/IllegalArgumentException", .initialized "java/lang/IllegalArgumentException", .fieldLink RX3 40 "VouchGate" "now" "I"] ++ wsX30 ++ (vx_atS RX3 59 "java/lang/IllegalArgumentException" ["java/lang/RuntimeException", "java/lang/Exception"]).filter goodWord)
def wsL_vouch_r1 : List Cond := [Cond.classLink RL 16 "java/lang/IndexOutOfBoundsException", Cond.classLink RL 19 "java/lang/IllegalArgumentException", Cond.classLink RL 22 "java/lang/IllegalStateException", Cond.constant RL 18 (-1000001), Cond.constant RL 21 (-1000002), Cond.constant RL 24 (-1000003), Cond.methodLink RL 33 yX3_vouch, Cond.instanceMethod yX3_vouch, Cond.selects RX3 yX3_vouch yX3_vouch, Cond.initialized RX3, Cond.code yX3_vouch cX3_vouch 4 (some .int), Cond.classLink RX3 48 "java/lang/IndexOutOfBoundsException", Cond.initialized "java/lang/IndexOutOfBoundsException", Cond.classLink RX3 55 "java/lang/IllegalArgumentException", Cond.initialized "java/lang/IllegalArgumentException", Cond.classLink RX3 64 "java/lang/IllegalStateException", Cond.initialized "java/lang/IllegalStateException", Cond.fieldLink RX3 29 "VouchGate" "log" "LVouchGate$Log;", Cond.fieldLink RX3 19 "VouchGate" "ties" "LVouchGate$Ties;", Cond.fieldLink RX3 40 "VouchGate" "now" "I", Cond.methodLink RX3 44 yX3_isPerson, Cond.static yX3_isPerson, Cond.code yX3_isPerson cX3_isPerson 1 (some .boolean), Cond.methodLink RX3 81 yX3_isGuest]
def wsL_vouch_r2 : List Cond := [Cond.static yX3_isGuest, Cond.code yX3_isGuest cX3_isGuest 1 (some .boolean), Cond.methodLink RX3 88 yX3_mayAct, Cond.instanceMethod yX3_mayAct, Cond.selects RX3 yX3_mayAct yX3_mayAct, Cond.code yX3_mayAct cX3_mayAct 2 (some .boolean), Cond.fieldLink RX3 10 "VouchGate" "desk" "LVouchGate$Desk;", Cond.methodLink RX3 60 yX0_isInSession, Cond.instanceMethod yX0_isInSession, Cond.selects RX0 yX0_isInSession yX0_isInSession, Cond.initialized RX0, Cond.code yX0_isInSession cX0_isInSession 3 (some .boolean), Cond.fieldLink RX0 21 "VouchGate$Desk" "sessionEnds" "[I", Cond.methodLink RX3 174 yX2_isTrusted, Cond.instanceMethod yX2_isTrusted, Cond.selects RX2 yX2_isTrusted yX2_isTrusted, Cond.initialized RX2, Cond.code yX2_isTrusted cX2_isTrusted 2 (some .boolean), Cond.methodLink RX2 48 yX2_stepsToStaff, Cond.instanceMethod yX2_stepsToStaff, Cond.selects RX2 yX2_stepsToStaff yX2_stepsToStaff, Cond.code yX2_stepsToStaff cX2_stepsToStaff 4 (some .int), Cond.fieldLink RX2 9 "VouchGate$Ties" "hosts" "[I", Cond.methodLink RX3 150 yX2_isTainted]
def wsL_vouch_r3 : List Cond := [Cond.instanceMethod yX2_isTainted, Cond.selects RX2 yX2_isTainted yX2_isTainted, Cond.code yX2_isTainted cX2_isTainted 2 (some .boolean), Cond.fieldLink RX2 31 "VouchGate$Ties" "lost" "[Z", Cond.methodLink RX2 55 yX2_standsOnBadVouching, Cond.instanceMethod yX2_standsOnBadVouching, Cond.selects RX2 yX2_standsOnBadVouching yX2_standsOnBadVouching, Cond.code yX2_standsOnBadVouching cX2_standsOnBadVouching 4 (some .boolean), Cond.fieldLink RX2 24 "VouchGate$Ties" "bad" "[Z", Cond.methodLink RX3 91 yX1_countVouchings, Cond.instanceMethod yX1_countVouchings, Cond.selects RX1 yX1_countVouchings yX1_countVouchings, Cond.initialized RX1, Cond.code yX1_countVouchings cX1_countVouchings 1 (some .int), Cond.fieldLink RX1 28 "VouchGate$Log" "vouchings" "I", Cond.methodLink RX3 97 yX2_tie, Cond.instanceMethod yX2_tie, Cond.selects RX2 yX2_tie yX2_tie, Cond.code yX2_tie cX2_tie 4 none, Cond.fieldLink RX2 18 "VouchGate$Ties" "minutes" "[I", Cond.fieldLink RX2 21 "VouchGate$Ties" "hostBadges" "[I", Cond.fieldLink RX2 28 "VouchGate$Ties" "badges" "[I", Cond.methodLink RX3 101 yX2_setRooms, Cond.instanceMethod yX2_setRooms]
def wsL_vouch_r4 : List Cond := [Cond.selects RX2 yX2_setRooms yX2_setRooms, Cond.code yX2_setRooms cX2_setRooms 3 none, Cond.fieldLink RX2 15 "VouchGate$Ties" "rooms" "[I", Cond.methodLink RX3 104 yX1_addVouching, Cond.instanceMethod yX1_addVouching, Cond.selects RX1 yX1_addVouching yX1_addVouching, Cond.code yX1_addVouching cX1_addVouching 4 none, Cond.methodLink RX1 31 yX1_add, Cond.instanceMethod yX1_add, Cond.selects RX1 yX1_add yX1_add, Cond.code yX1_add cX1_add 5 none, Cond.fieldLink RX1 24 "VouchGate$Log" "size" "I", Cond.fieldLink RX1 9 "VouchGate$Log" "kinds" "[I", Cond.fieldLink RX1 15 "VouchGate$Log" "persons" "[I", Cond.fieldLink RX1 18 "VouchGate$Log" "guests" "[I", Cond.fieldLink RX1 21 "VouchGate$Log" "minutes" "[I"]
def wsL_vouch : List Cond := .codeWith yL_vouch cL_vouch 5 (some .int) [(0, 7, 8, 16), (0, 7, 13, 19), (0, 7, 18, 22)] :: ((wsL_vouch_r1 ++ (wsL_vouch_r2 ++ (wsL_vouch_r3 ++ wsL_vouch_r4))) ++ wsX30 ++ wsX00 ++ wsX20 ++ wsX10 ++ (vx_atS RX3 52 "java/lang/IndexOutOfBoundsException" ["java/lang/RuntimeException", "java/lang/Exception"]).filter goodWord ++ (vx_atS RX3 59 "java/lang/IllegalArgumentException" ["java/lang/RuntimeException", "java/lang/Exception"]).filter goodWord ++ (vx_atS RX3 68 "java/lang/IllegalStateException" ["java/lang/RuntimeException", "java/lang/Exception"]).filter goodWord)
def wsL_end_r1 : List Cond := [Cond.classLink RL 16 "java/lang/IndexOutOfBoundsException", Cond.classLink RL 22 "java/lang/IllegalStateException", Cond.constant RL 18 (-1000001), Cond.constant RL 24 (-1000003), Cond.methodLink RL 36 yX3_end, Cond.instanceMethod yX3_end, Cond.selects RX3 yX3_end yX3_end, Cond.initialized RX3, Cond.code yX3_end cX3_end 3 (some .int), Cond.classLink RX3 48 "java/lang/IndexOutOfBoundsException", Cond.initialized "java/lang/IndexOutOfBoundsException", Cond.classLink RX3 64 "java/lang/IllegalStateException", Cond.initialized "java/lang/IllegalStateException", Cond.fieldLink RX3 19 "VouchGate" "ties" "LVouchGate$Ties;", Cond.fieldLink RX3 29 "VouchGate" "log" "LVouchGate$Log;", Cond.methodLink RX3 81 yX3_isGuest, Cond.static yX3_isGuest, Cond.code yX3_isGuest cX3_isGuest 1 (some .boolean), Cond.methodLink RX3 109 yX2_hostOf, Cond.instanceMethod yX2_hostOf, Cond.selects RX2 yX2_hostOf yX2_hostOf, Cond.initialized RX2, Cond.code yX2_hostOf cX2_hostOf 2 (some .int), Cond.fieldLink RX2 9 "VouchGate$Ties" "hosts" "[I"]
def wsL_end_r2 : List Cond := [Cond.methodLink RX3 115 yX2_untie, Cond.instanceMethod yX2_untie, Cond.selects RX2 yX2_untie yX2_untie, Cond.code yX2_untie cX2_untie 2 none, Cond.fieldLink RX2 24 "VouchGate$Ties" "bad" "[Z", Cond.methodLink RX3 119 yX1_addEnding, Cond.instanceMethod yX1_addEnding, Cond.selects RX1 yX1_addEnding yX1_addEnding, Cond.initialized RX1, Cond.code yX1_addEnding cX1_addEnding 2 none, Cond.methodLink RX1 31 yX1_add, Cond.instanceMethod yX1_add, Cond.selects RX1 yX1_add yX1_add, Cond.code yX1_add cX1_add 5 none, Cond.fieldLink RX1 24 "VouchGate$Log" "size" "I", Cond.fieldLink RX1 9 "VouchGate$Log" "kinds" "[I", Cond.fieldLink RX1 15 "VouchGate$Log" "persons" "[I", Cond.fieldLink RX1 18 "VouchGate$Log" "guests" "[I", Cond.fieldLink RX1 21 "VouchGate$Log" "minutes" "[I"]
def wsL_end : List Cond := .codeWith yL_end cL_end 3 (some .int) [(0, 5, 6, 16), (0, 5, 10, 22)] :: ((wsL_end_r1 ++ wsL_end_r2) ++ wsX30 ++ wsX20 ++ wsX10 ++ (vx_atS RX3 52 "java/lang/IndexOutOfBoundsException" ["java/lang/RuntimeException", "java/lang/Exception"]).filter goodWord ++ (vx_atS RX3 68 "java/lang/IllegalStateException" ["java/lang/RuntimeException", "java/lang/Exception"]).filter goodWord)
def wsL_lose_r1 : List Cond := [Cond.classLink RL 16 "java/lang/IndexOutOfBoundsException", Cond.classLink RL 19 "java/lang/IllegalArgumentException", Cond.constant RL 18 (-1000001), Cond.constant RL 21 (-1000002), Cond.methodLink RL 39 yX3_lose, Cond.instanceMethod yX3_lose, Cond.selects RX3 yX3_lose yX3_lose, Cond.initialized RX3, Cond.code yX3_lose cX3_lose 3 (some .int), Cond.classLink RX3 48 "java/lang/IndexOutOfBoundsException", Cond.initialized "java/lang/IndexOutOfBoundsException", Cond.classLink RX3 55 "java/lang/IllegalArgumentException", Cond.initialized "java/lang/IllegalArgumentException", Cond.fieldLink RX3 40 "VouchGate" "now" "I", Cond.fieldLink RX3 19 "VouchGate" "ties" "LVouchGate$Ties;", Cond.fieldLink RX3 29 "VouchGate" "log" "LVouchGate$Log;", Cond.methodLink RX3 44 yX3_isPerson, Cond.static yX3_isPerson, Cond.code yX3_isPerson cX3_isPerson 1 (some .boolean), Cond.methodLink RX3 124 yX2_markLost, Cond.instanceMethod yX2_markLost, Cond.selects RX2 yX2_markLost yX2_markLost, Cond.initialized RX2, Cond.code yX2_markLost cX2_markLost 4 none]
def wsL_lose_r2 : List Cond := [Cond.fieldLink RX2 31 "VouchGate$Ties" "lost" "[Z", Cond.fieldLink RX2 9 "VouchGate$Ties" "hosts" "[I", Cond.fieldLink RX2 21 "VouchGate$Ties" "hostBadges" "[I", Cond.fieldLink RX2 28 "VouchGate$Ties" "badges" "[I", Cond.fieldLink RX2 18 "VouchGate$Ties" "minutes" "[I", Cond.fieldLink RX2 24 "VouchGate$Ties" "bad" "[Z", Cond.methodLink RX3 127 yX1_addLoss, Cond.instanceMethod yX1_addLoss, Cond.selects RX1 yX1_addLoss yX1_addLoss, Cond.initialized RX1, Cond.code yX1_addLoss cX1_addLoss 3 none, Cond.methodLink RX1 31 yX1_add, Cond.instanceMethod yX1_add, Cond.selects RX1 yX1_add yX1_add, Cond.code yX1_add cX1_add 5 none, Cond.fieldLink RX1 24 "VouchGate$Log" "size" "I", Cond.fieldLink RX1 9 "VouchGate$Log" "kinds" "[I", Cond.fieldLink RX1 15 "VouchGate$Log" "persons" "[I", Cond.fieldLink RX1 18 "VouchGate$Log" "guests" "[I", Cond.fieldLink RX1 21 "VouchGate$Log" "minutes" "[I", Cond.methodLink RX3 130 yX2_countTainted, Cond.instanceMethod yX2_countTainted, Cond.selects RX2 yX2_countTainted yX2_countTainted, Cond.code yX2_countTainted cX2_countTainted 3 (some .int)]
def wsL_lose_r3 : List Cond := [Cond.methodLink RX2 58 yX2_isTainted, Cond.instanceMethod yX2_isTainted, Cond.selects RX2 yX2_isTainted yX2_isTainted, Cond.code yX2_isTainted cX2_isTainted 2 (some .boolean), Cond.methodLink RX2 55 yX2_standsOnBadVouching, Cond.instanceMethod yX2_standsOnBadVouching, Cond.selects RX2 yX2_standsOnBadVouching yX2_standsOnBadVouching, Cond.code yX2_standsOnBadVouching cX2_standsOnBadVouching 4 (some .boolean), Cond.static yX3_isGuest, Cond.code yX3_isGuest cX3_isGuest 1 (some .boolean)]
def wsL_lose : List Cond := .codeWith yL_lose cL_lose 4 (some .int) [(0, 6, 7, 16), (0, 6, 11, 19)] :: ((wsL_lose_r1 ++ (wsL_lose_r2 ++ wsL_lose_r3)) ++ wsX30 ++ wsX20 ++ wsX10 ++ (vx_atS RX3 52 "java/lang/IndexOutOfBoundsException" ["java/lang/RuntimeException", "java/lang/Exception"]).filter goodWord ++ (vx_atS RX3 59 "java/lang/IllegalArgumentException" ["java/lang/RuntimeException", "java/lang/Exception"]).filter goodWord)
def wsL_issue_r1 : List Cond := [Cond.classLink RL 16 "java/lang/IndexOutOfBoundsException", Cond.constant RL 18 (-1000001), Cond.methodLink RL 43 yX3_issue, Cond.instanceMethod yX3_issue, Cond.selects RX3 yX3_issue yX3_issue, Cond.initialized RX3, Cond.code yX3_issue cX3_issue 2 (some .int), Cond.classLink RX3 48 "java/lang/IndexOutOfBoundsException", Cond.initialized "java/lang/IndexOutOfBoundsException", Cond.fieldLink RX3 19 "VouchGate" "ties" "LVouchGate$Ties;", Cond.fieldLink RX3 29 "VouchGate" "log" "LVouchGate$Log;", Cond.methodLink RX3 44 yX3_isPerson, Cond.static yX3_isPerson, Cond.code yX3_isPerson cX3_isPerson 1 (some .boolean), Cond.methodLink RX3 133 yX2_renewBadge, Cond.instanceMethod yX2_renewBadge, Cond.selects RX2 yX2_renewBadge yX2_renewBadge, Cond.initialized RX2, Cond.code yX2_renewBadge cX2_renewBadge 2 none, Cond.fieldLink RX2 28 "VouchGate$Ties" "badges" "[I", Cond.fieldLink RX2 37 "VouchGate$Ties" "nextBadge" "I", Cond.fieldLink RX2 31 "VouchGate$Ties" "lost" "[Z", Cond.methodLink RX3 136 yX1_addIssue, Cond.instanceMethod yX1_addIssue]
def wsL_issue_r2 : List Cond := [Cond.selects RX1 yX1_addIssue yX1_addIssue, Cond.initialized RX1, Cond.code yX1_addIssue cX1_addIssue 2 none, Cond.methodLink RX1 31 yX1_add, Cond.instanceMethod yX1_add, Cond.selects RX1 yX1_add yX1_add, Cond.code yX1_add cX1_add 5 none, Cond.fieldLink RX1 24 "VouchGate$Log" "size" "I", Cond.fieldLink RX1 9 "VouchGate$Log" "kinds" "[I", Cond.fieldLink RX1 15 "VouchGate$Log" "persons" "[I", Cond.fieldLink RX1 18 "VouchGate$Log" "guests" "[I", Cond.fieldLink RX1 21 "VouchGate$Log" "minutes" "[I", Cond.methodLink RX3 139 yX2_badgeOf, Cond.instanceMethod yX2_badgeOf, Cond.selects RX2 yX2_badgeOf yX2_badgeOf, Cond.code yX2_badgeOf cX2_badgeOf 2 (some .int)]
def wsL_issue : List Cond := .codeWith yL_issue cL_issue 3 (some .int) [(0, 5, 6, 16)] :: ((wsL_issue_r1 ++ wsL_issue_r2) ++ wsX30 ++ wsX20 ++ wsX10 ++ (vx_atS RX3 52 "java/lang/IndexOutOfBoundsException" ["java/lang/RuntimeException", "java/lang/Exception"]).filter goodWord)
def wsL_door_r1 : List Cond := [Cond.classLink RL 16 "java/lang/IndexOutOfBoundsException", Cond.constant RL 18 (-1000001), Cond.methodLink RL 46 yX3_door, Cond.instanceMethod yX3_door, Cond.selects RX3 yX3_door yX3_door, Cond.initialized RX3, Cond.code yX3_door cX3_door 3 (some .boolean), Cond.classLink RX3 48 "java/lang/IndexOutOfBoundsException", Cond.initialized "java/lang/IndexOutOfBoundsException", Cond.fieldLink RX3 19 "VouchGate" "ties" "LVouchGate$Ties;", Cond.methodLink RX3 44 yX3_isPerson, Cond.static yX3_isPerson, Cond.code yX3_isPerson cX3_isPerson 1 (some .boolean), Cond.methodLink RX3 144 yX2_roomsOf, Cond.instanceMethod yX2_roomsOf, Cond.selects RX2 yX2_roomsOf yX2_roomsOf, Cond.initialized RX2, Cond.code yX2_roomsOf cX2_roomsOf 5 (some .int), Cond.fieldLink RX2 15 "VouchGate$Ties" "rooms" "[I", Cond.fieldLink RX2 9 "VouchGate$Ties" "hosts" "[I", Cond.methodLink RX2 52 yX2_isTrusted, Cond.instanceMethod yX2_isTrusted, Cond.selects RX2 yX2_isTrusted yX2_isTrusted, Cond.code yX2_isTrusted cX2_isTrusted 2 (some .boolean)]
def wsL_door_r2 : List Cond := [Cond.methodLink RX2 48 yX2_stepsToStaff, Cond.instanceMethod yX2_stepsToStaff, Cond.selects RX2 yX2_stepsToStaff yX2_stepsToStaff, Cond.code yX2_stepsToStaff cX2_stepsToStaff 4 (some .int), Cond.static yX3_isGuest, Cond.code yX3_isGuest cX3_isGuest 1 (some .boolean), Cond.methodLink RX3 147 yX3_holds, Cond.static yX3_holds, Cond.code yX3_holds cX3_holds 2 (some .boolean), Cond.methodLink RX3 150 yX2_isTainted, Cond.instanceMethod yX2_isTainted, Cond.selects RX2 yX2_isTainted yX2_isTainted, Cond.code yX2_isTainted cX2_isTainted 2 (some .boolean), Cond.fieldLink RX2 31 "VouchGate$Ties" "lost" "[Z", Cond.methodLink RX2 55 yX2_standsOnBadVouching, Cond.instanceMethod yX2_standsOnBadVouching, Cond.selects RX2 yX2_standsOnBadVouching yX2_standsOnBadVouching, Cond.code yX2_standsOnBadVouching cX2_standsOnBadVouching 4 (some .boolean), Cond.fieldLink RX2 24 "VouchGate$Ties" "bad" "[Z"]
def wsL_door : List Cond := .codeWith yL_door cL_door 4 (some .int) [(0, 14, 15, 16)] :: ((wsL_door_r1 ++ wsL_door_r2) ++ wsX30 ++ wsX20 ++ (vx_atS RX3 52 "java/lang/IndexOutOfBoundsException" ["java/lang/RuntimeException", "java/lang/Exception"]).filter goodWord)
def wsL_share_r1 : List Cond := [Cond.classLink RL 16 "java/lang/IndexOutOfBoundsException", Cond.classLink RL 19 "java/lang/IllegalArgumentException", Cond.constant RL 18 (-1000001), Cond.constant RL 21 (-1000002), Cond.methodLink RL 50 yX3_share, Cond.instanceMethod yX3_share, Cond.selects RX3 yX3_share yX3_share, Cond.initialized RX3, Cond.code yX3_share cX3_share 5 (some .int), Cond.classLink RX3 48 "java/lang/IndexOutOfBoundsException", Cond.initialized "java/lang/IndexOutOfBoundsException", Cond.classLink RX3 55 "java/lang/IllegalArgumentException", Cond.initialized "java/lang/IllegalArgumentException", Cond.fieldLink RX3 37 "VouchGate" "thresholds" "[I", Cond.fieldLink RX3 33 "VouchGate" "keepers" "[I", Cond.methodLink RX3 153 yX3_isKey, Cond.static yX3_isKey, Cond.code yX3_isKey cX3_isKey 1 (some .boolean), Cond.methodLink RX3 160 yJ6_bitCount_0f7a4, Cond.static yJ6_bitCount_0f7a4, Cond.initialized RJ6, Cond.code yJ6_bitCount_0f7a4 cJ6_bitCount_0f7a4 1 (some .int), Cond.constant RJ6 265 (1431655765), Cond.constant RJ6 266 (858993459)]
def wsL_share_r2 : List Cond := [Cond.constant RJ6 267 (252645135)]
def wsL_share : List Cond := .codeWith yL_share cL_share 5 (some .int) [(0, 7, 8, 16), (0, 7, 13, 19)] :: ((wsL_share_r1 ++ wsL_share_r2) ++ wsX30 ++ (vx_atS RX3 52 "java/lang/IndexOutOfBoundsException" ["java/lang/RuntimeException", "java/lang/Exception"]).filter goodWord ++ (vx_atS RX3 59 "java/lang/IllegalArgumentException" ["java/lang/RuntimeException", "java/lang/Exception"]).filter goodWord)
def wsL_use_r1 : List Cond := [Cond.classLink RL 16 "java/lang/IndexOutOfBoundsException", Cond.constant RL 18 (-1000001), Cond.methodLink RL 53 yX3_use, Cond.instanceMethod yX3_use, Cond.selects RX3 yX3_use yX3_use, Cond.initialized RX3, Cond.code yX3_use cX3_use 2 (some .boolean), Cond.classLink RX3 48 "java/lang/IndexOutOfBoundsException", Cond.initialized "java/lang/IndexOutOfBoundsException", Cond.fieldLink RX3 37 "VouchGate" "thresholds" "[I", Cond.methodLink RX3 153 yX3_isKey, Cond.static yX3_isKey, Cond.code yX3_isKey cX3_isKey 1 (some .boolean), Cond.methodLink RX3 167 yX3_countUsers, Cond.instanceMethod yX3_countUsers, Cond.selects RX3 yX3_countUsers yX3_countUsers, Cond.code yX3_countUsers cX3_countUsers 4 (some .int), Cond.fieldLink RX3 33 "VouchGate" "keepers" "[I", Cond.methodLink RX3 147 yX3_holds, Cond.static yX3_holds, Cond.code yX3_holds cX3_holds 2 (some .boolean), Cond.methodLink RX3 88 yX3_mayAct, Cond.instanceMethod yX3_mayAct, Cond.selects RX3 yX3_mayAct yX3_mayAct]
def wsL_use_r2 : List Cond := [Cond.code yX3_mayAct cX3_mayAct 2 (some .boolean), Cond.fieldLink RX3 10 "VouchGate" "desk" "LVouchGate$Desk;", Cond.fieldLink RX3 40 "VouchGate" "now" "I", Cond.fieldLink RX3 19 "VouchGate" "ties" "LVouchGate$Ties;", Cond.methodLink RX3 60 yX0_isInSession, Cond.instanceMethod yX0_isInSession, Cond.selects RX0 yX0_isInSession yX0_isInSession, Cond.initialized RX0, Cond.code yX0_isInSession cX0_isInSession 3 (some .boolean), Cond.fieldLink RX0 21 "VouchGate$Desk" "sessionEnds" "[I", Cond.methodLink RX3 174 yX2_isTrusted, Cond.instanceMethod yX2_isTrusted, Cond.selects RX2 yX2_isTrusted yX2_isTrusted, Cond.initialized RX2, Cond.code yX2_isTrusted cX2_isTrusted 2 (some .boolean), Cond.methodLink RX2 48 yX2_stepsToStaff, Cond.instanceMethod yX2_stepsToStaff, Cond.selects RX2 yX2_stepsToStaff yX2_stepsToStaff, Cond.code yX2_stepsToStaff cX2_stepsToStaff 4 (some .int), Cond.fieldLink RX2 9 "VouchGate$Ties" "hosts" "[I", Cond.static yX3_isPerson, Cond.code yX3_isPerson cX3_isPerson 1 (some .boolean), Cond.static yX3_isGuest, Cond.code yX3_isGuest cX3_isGuest 1 (some .boolean)]
def wsL_use_r3 : List Cond := [Cond.methodLink RX3 150 yX2_isTainted, Cond.instanceMethod yX2_isTainted, Cond.selects RX2 yX2_isTainted yX2_isTainted, Cond.code yX2_isTainted cX2_isTainted 2 (some .boolean), Cond.fieldLink RX2 31 "VouchGate$Ties" "lost" "[Z", Cond.methodLink RX2 55 yX2_standsOnBadVouching, Cond.instanceMethod yX2_standsOnBadVouching, Cond.selects RX2 yX2_standsOnBadVouching yX2_standsOnBadVouching, Cond.code yX2_standsOnBadVouching cX2_standsOnBadVouching 4 (some .boolean), Cond.fieldLink RX2 24 "VouchGate$Ties" "bad" "[Z"]
def wsL_use : List Cond := .codeWith yL_use cL_use 3 (some .int) [(0, 13, 14, 16)] :: ((wsL_use_r1 ++ (wsL_use_r2 ++ wsL_use_r3)) ++ wsX30 ++ wsX00 ++ wsX20 ++ (vx_atS RX3 52 "java/lang/IndexOutOfBoundsException" ["java/lang/RuntimeException", "java/lang/Exception"]).filter goodWord)
def wsL_of_r1 : List Cond := [Cond.classLink RL 16 "java/lang/IndexOutOfBoundsException", Cond.classLink RL 19 "java/lang/IllegalArgumentException", Cond.constant RL 18 (-1000001), Cond.constant RL 21 (-1000002), Cond.methodLink RL 57 yX3_of, Cond.instanceMethod yX3_of, Cond.selects RX3 yX3_of yX3_of, Cond.initialized RX3, Cond.code yX3_of cX3_of 3 (some .int), Cond.classLink RX3 48 "java/lang/IndexOutOfBoundsException", Cond.initialized "java/lang/IndexOutOfBoundsException", Cond.classLink RX3 55 "java/lang/IllegalArgumentException", Cond.initialized "java/lang/IllegalArgumentException", Cond.fieldLink RX3 10 "VouchGate" "desk" "LVouchGate$Desk;", Cond.fieldLink RX3 40 "VouchGate" "now" "I", Cond.fieldLink RX3 19 "VouchGate" "ties" "LVouchGate$Ties;", Cond.methodLink RX3 44 yX3_isPerson, Cond.static yX3_isPerson, Cond.code yX3_isPerson cX3_isPerson 1 (some .boolean), Cond.methodLink RX3 60 yX0_isInSession, Cond.instanceMethod yX0_isInSession, Cond.selects RX0 yX0_isInSession yX0_isInSession, Cond.initialized RX0, Cond.code yX0_isInSession cX0_isInSession 3 (some .boolean)]
def wsL_of_r2 : List Cond := [Cond.fieldLink RX0 21 "VouchGate$Desk" "sessionEnds" "[I", Cond.methodLink RX3 170 yX3_asNumber, Cond.static yX3_asNumber, Cond.code yX3_asNumber cX3_asNumber 1 (some .int), Cond.methodLink RX3 174 yX2_isTrusted, Cond.instanceMethod yX2_isTrusted, Cond.selects RX2 yX2_isTrusted yX2_isTrusted, Cond.initialized RX2, Cond.code yX2_isTrusted cX2_isTrusted 2 (some .boolean), Cond.methodLink RX2 48 yX2_stepsToStaff, Cond.instanceMethod yX2_stepsToStaff, Cond.selects RX2 yX2_stepsToStaff yX2_stepsToStaff, Cond.code yX2_stepsToStaff cX2_stepsToStaff 4 (some .int), Cond.fieldLink RX2 9 "VouchGate$Ties" "hosts" "[I", Cond.static yX3_isGuest, Cond.code yX3_isGuest cX3_isGuest 1 (some .boolean), Cond.methodLink RX3 150 yX2_isTainted, Cond.instanceMethod yX2_isTainted, Cond.selects RX2 yX2_isTainted yX2_isTainted, Cond.code yX2_isTainted cX2_isTainted 2 (some .boolean), Cond.fieldLink RX2 31 "VouchGate$Ties" "lost" "[Z", Cond.methodLink RX2 55 yX2_standsOnBadVouching, Cond.instanceMethod yX2_standsOnBadVouching, Cond.selects RX2 yX2_standsOnBadVouching yX2_standsOnBadVouching]
def wsL_of_r3 : List Cond := [Cond.code yX2_standsOnBadVouching cX2_standsOnBadVouching 4 (some .boolean), Cond.fieldLink RX2 24 "VouchGate$Ties" "bad" "[Z", Cond.methodLink RX3 144 yX2_roomsOf, Cond.instanceMethod yX2_roomsOf, Cond.selects RX2 yX2_roomsOf yX2_roomsOf, Cond.code yX2_roomsOf cX2_roomsOf 5 (some .int), Cond.fieldLink RX2 15 "VouchGate$Ties" "rooms" "[I", Cond.methodLink RX2 52 yX2_isTrusted, Cond.methodLink RX3 109 yX2_hostOf, Cond.instanceMethod yX2_hostOf, Cond.selects RX2 yX2_hostOf yX2_hostOf, Cond.code yX2_hostOf cX2_hostOf 2 (some .int), Cond.methodLink RX3 177 yX0_failuresOf, Cond.instanceMethod yX0_failuresOf, Cond.selects RX0 yX0_failuresOf yX0_failuresOf, Cond.code yX0_failuresOf cX0_failuresOf 2 (some .int), Cond.fieldLink RX0 15 "VouchGate$Desk" "failures" "[I", Cond.methodLink RX3 180 yX0_sessionEndOf, Cond.instanceMethod yX0_sessionEndOf, Cond.selects RX0 yX0_sessionEndOf yX0_sessionEndOf, Cond.code yX0_sessionEndOf cX0_sessionEndOf 2 (some .int), Cond.methodLink RX3 139 yX2_badgeOf, Cond.instanceMethod yX2_badgeOf, Cond.selects RX2 yX2_badgeOf yX2_badgeOf]
def wsL_of_r4 : List Cond := [Cond.code yX2_badgeOf cX2_badgeOf 2 (some .int), Cond.fieldLink RX2 28 "VouchGate$Ties" "badges" "[I"]
def wsL_of : List Cond := .codeWith yL_of cL_of 4 (some .int) [(0, 6, 7, 16), (0, 6, 11, 19)] :: ((wsL_of_r1 ++ (wsL_of_r2 ++ (wsL_of_r3 ++ wsL_of_r4))) ++ wsX30 ++ wsX00 ++ wsX20 ++ (vx_atS RX3 52 "java/lang/IndexOutOfBoundsException" ["java/lang/RuntimeException", "java/lang/Exception"]).filter goodWord ++ (vx_atS RX3 59 "java/lang/IllegalArgumentException" ["java/lang/RuntimeException", "java/lang/Exception"]).filter goodWord)
def wsL_taintedAnew_r1 : List Cond := [Cond.classLink RL 16 "java/lang/IndexOutOfBoundsException", Cond.constant RL 18 (-1000001), Cond.methodLink RL 60 yX3_taintedAnew, Cond.instanceMethod yX3_taintedAnew, Cond.selects RX3 yX3_taintedAnew yX3_taintedAnew, Cond.initialized RX3, Cond.code yX3_taintedAnew cX3_taintedAnew 2 (some .boolean), Cond.classLink RX3 48 "java/lang/IndexOutOfBoundsException", Cond.initialized "java/lang/IndexOutOfBoundsException", Cond.fieldLink RX3 29 "VouchGate" "log" "LVouchGate$Log;", Cond.fieldLink RX3 23 "VouchGate" "tiesAnew" "LVouchGate$Ties;", Cond.methodLink RX3 44 yX3_isPerson, Cond.static yX3_isPerson, Cond.code yX3_isPerson cX3_isPerson 1 (some .boolean), Cond.methodLink RX3 185 yX1_replayInto, Cond.instanceMethod yX1_replayInto, Cond.selects RX1 yX1_replayInto yX1_replayInto, Cond.initialized RX1, Cond.code yX1_replayInto cX1_replayInto 3 none, Cond.fieldLink RX1 24 "VouchGate$Log" "size" "I", Cond.methodLink RX1 35 yX2_reset, Cond.instanceMethod yX2_reset, Cond.selects RX2 yX2_reset yX2_reset, Cond.initialized RX2]
def wsL_taintedAnew_r2 : List Cond := [Cond.code yX2_reset cX2_reset 2 none, Cond.fieldLink RX2 9 "VouchGate$Ties" "hosts" "[I", Cond.fieldLink RX2 24 "VouchGate$Ties" "bad" "[Z", Cond.fieldLink RX2 28 "VouchGate$Ties" "badges" "[I", Cond.fieldLink RX2 31 "VouchGate$Ties" "lost" "[Z", Cond.fieldLink RX2 37 "VouchGate$Ties" "nextBadge" "I", Cond.methodLink RX1 40 yX1_replayOne, Cond.instanceMethod yX1_replayOne, Cond.selects RX1 yX1_replayOne yX1_replayOne, Cond.code yX1_replayOne cX1_replayOne 3 none, Cond.fieldLink RX1 9 "VouchGate$Log" "kinds" "[I", Cond.fieldLink RX1 15 "VouchGate$Log" "persons" "[I", Cond.fieldLink RX1 18 "VouchGate$Log" "guests" "[I", Cond.fieldLink RX1 21 "VouchGate$Log" "minutes" "[I", Cond.methodLink RX1 44 yX2_tie, Cond.instanceMethod yX2_tie, Cond.selects RX2 yX2_tie yX2_tie, Cond.code yX2_tie cX2_tie 4 none, Cond.fieldLink RX2 18 "VouchGate$Ties" "minutes" "[I", Cond.fieldLink RX2 21 "VouchGate$Ties" "hostBadges" "[I", Cond.methodLink RX1 48 yX2_untie, Cond.instanceMethod yX2_untie, Cond.selects RX2 yX2_untie yX2_untie, Cond.code yX2_untie cX2_untie 2 none]
def wsL_taintedAnew_r3 : List Cond := [Cond.methodLink RX1 52 yX2_markLost, Cond.instanceMethod yX2_markLost, Cond.selects RX2 yX2_markLost yX2_markLost, Cond.code yX2_markLost cX2_markLost 4 none, Cond.methodLink RX1 56 yX2_renewBadge, Cond.instanceMethod yX2_renewBadge, Cond.selects RX2 yX2_renewBadge yX2_renewBadge, Cond.code yX2_renewBadge cX2_renewBadge 2 none, Cond.methodLink RX3 150 yX2_isTainted, Cond.instanceMethod yX2_isTainted, Cond.selects RX2 yX2_isTainted yX2_isTainted, Cond.code yX2_isTainted cX2_isTainted 2 (some .boolean), Cond.methodLink RX2 55 yX2_standsOnBadVouching, Cond.instanceMethod yX2_standsOnBadVouching, Cond.selects RX2 yX2_standsOnBadVouching yX2_standsOnBadVouching, Cond.code yX2_standsOnBadVouching cX2_standsOnBadVouching 4 (some .boolean), Cond.static yX3_isGuest, Cond.code yX3_isGuest cX3_isGuest 1 (some .boolean)]
def wsL_taintedAnew : List Cond := .codeWith yL_taintedAnew cL_taintedAnew 3 (some .int) [(0, 13, 14, 16)] :: ((wsL_taintedAnew_r1 ++ (wsL_taintedAnew_r2 ++ wsL_taintedAnew_r3)) ++ wsX30 ++ wsX10 ++ wsX20 ++ (vx_atS RX3 52 "java/lang/IndexOutOfBoundsException" ["java/lang/RuntimeException", "java/lang/Exception"]).filter goodWord)
def wsL_chain : List Cond := .codeWith yL_chain cL_chain 3 (some .int) [(0, 5, 6, 16)] :: ([.classLink RL 16 "java/lang/IndexOutOfBoundsException", .constant RL 18 (-1000001), .methodLink RL 63 yX3_chain, .instanceMethod yX3_chain, .selects RX3 yX3_chain yX3_chain, .initialized RX3, .code yX3_chain cX3_chain 2 (some .int), .classLink RX3 48 "java/lang/IndexOutOfBoundsException", .initialized "java/lang/IndexOutOfBoundsException", .fieldLink RX3 19 "VouchGate" "ties" "LVouchGate$Ties;", .methodLink RX3 44 yX3_isPerson, .static yX3_isPerson, .code yX3_isPerson cX3_isPerson 1 (some .boolean), .methodLink RX3 189 yX2_stepsToStaff, .instanceMethod yX2_stepsToStaff, .selects RX2 yX2_stepsToStaff yX2_stepsToStaff, .initialized RX2, .code yX2_stepsToStaff cX2_stepsToStaff 4 (some .int), .fieldLink RX2 9 "VouchGate$Ties" "hosts" "[I", .static yX3_isGuest, .code yX3_isGuest cX3_isGuest 1 (some .boolean)] ++ wsX30 ++ wsX20 ++ (vx_atS RX3 52 "java/lang/IndexOutOfBoundsException" ["java/lang/RuntimeException", "java/lang/Exception"]).filter goodWord)
def wsL_ending_r1 : List Cond := [Cond.classLink RL 16 "java/lang/IndexOutOfBoundsException", Cond.constant RL 18 (-1000001), Cond.methodLink RL 66 yX3_ending, Cond.instanceMethod yX3_ending, Cond.selects RX3 yX3_ending yX3_ending, Cond.initialized RX3, Cond.code yX3_ending cX3_ending 3 (some .int), Cond.classLink RX3 48 "java/lang/IndexOutOfBoundsException", Cond.initialized "java/lang/IndexOutOfBoundsException", Cond.fieldLink RX3 10 "VouchGate" "desk" "LVouchGate$Desk;", Cond.fieldLink RX3 40 "VouchGate" "now" "I", Cond.methodLink RX3 60 yX0_isInSession, Cond.instanceMethod yX0_isInSession, Cond.selects RX0 yX0_isInSession yX0_isInSession, Cond.initialized RX0, Cond.code yX0_isInSession cX0_isInSession 3 (some .boolean), Cond.fieldLink RX0 21 "VouchGate$Desk" "sessionEnds" "[I", Cond.methodLink RX3 194 yX0_countEndingAheadOf, Cond.instanceMethod yX0_countEndingAheadOf, Cond.selects RX0 yX0_countEndingAheadOf yX0_countEndingAheadOf, Cond.code yX0_countEndingAheadOf cX0_countEndingAheadOf 5 (some .int), Cond.methodLink RX0 32 yX0_isInSession, Cond.methodLink RX0 36 yX0_endsAheadOf, Cond.instanceMethod yX0_endsAheadOf]
def wsL_ending_r2 : List Cond := [Cond.selects RX0 yX0_endsAheadOf yX0_endsAheadOf, Cond.code yX0_endsAheadOf cX0_endsAheadOf 3 (some .boolean)]
def wsL_ending : List Cond := .codeWith yL_ending cL_ending 3 (some .int) [(0, 5, 6, 16)] :: ((wsL_ending_r1 ++ wsL_ending_r2) ++ wsX30 ++ wsX00 ++ (vx_atS RX3 52 "java/lang/IndexOutOfBoundsException" ["java/lang/RuntimeException", "java/lang/Exception"]).filter goodWord)
def wsL_keyOf_r1 : List Cond := [Cond.classLink RL 16 "java/lang/IndexOutOfBoundsException", Cond.classLink RL 19 "java/lang/IllegalArgumentException", Cond.constant RL 18 (-1000001), Cond.constant RL 21 (-1000002), Cond.methodLink RL 69 yX3_keyOf, Cond.instanceMethod yX3_keyOf, Cond.selects RX3 yX3_keyOf yX3_keyOf, Cond.initialized RX3, Cond.code yX3_keyOf cX3_keyOf 3 (some .int), Cond.classLink RX3 48 "java/lang/IndexOutOfBoundsException", Cond.initialized "java/lang/IndexOutOfBoundsException", Cond.classLink RX3 55 "java/lang/IllegalArgumentException", Cond.initialized "java/lang/IllegalArgumentException", Cond.fieldLink RX3 33 "VouchGate" "keepers" "[I", Cond.fieldLink RX3 37 "VouchGate" "thresholds" "[I", Cond.methodLink RX3 153 yX3_isKey, Cond.static yX3_isKey, Cond.code yX3_isKey cX3_isKey 1 (some .boolean), Cond.methodLink RX3 167 yX3_countUsers, Cond.instanceMethod yX3_countUsers, Cond.selects RX3 yX3_countUsers yX3_countUsers, Cond.code yX3_countUsers cX3_countUsers 4 (some .int), Cond.methodLink RX3 147 yX3_holds, Cond.static yX3_holds]
def wsL_keyOf_r2 : List Cond := [Cond.code yX3_holds cX3_holds 2 (some .boolean), Cond.methodLink RX3 88 yX3_mayAct, Cond.instanceMethod yX3_mayAct, Cond.selects RX3 yX3_mayAct yX3_mayAct, Cond.code yX3_mayAct cX3_mayAct 2 (some .boolean), Cond.fieldLink RX3 10 "VouchGate" "desk" "LVouchGate$Desk;", Cond.fieldLink RX3 40 "VouchGate" "now" "I", Cond.fieldLink RX3 19 "VouchGate" "ties" "LVouchGate$Ties;", Cond.methodLink RX3 60 yX0_isInSession, Cond.instanceMethod yX0_isInSession, Cond.selects RX0 yX0_isInSession yX0_isInSession, Cond.initialized RX0, Cond.code yX0_isInSession cX0_isInSession 3 (some .boolean), Cond.fieldLink RX0 21 "VouchGate$Desk" "sessionEnds" "[I", Cond.methodLink RX3 174 yX2_isTrusted, Cond.instanceMethod yX2_isTrusted, Cond.selects RX2 yX2_isTrusted yX2_isTrusted, Cond.initialized RX2, Cond.code yX2_isTrusted cX2_isTrusted 2 (some .boolean), Cond.methodLink RX2 48 yX2_stepsToStaff, Cond.instanceMethod yX2_stepsToStaff, Cond.selects RX2 yX2_stepsToStaff yX2_stepsToStaff, Cond.code yX2_stepsToStaff cX2_stepsToStaff 4 (some .int), Cond.fieldLink RX2 9 "VouchGate$Ties" "hosts" "[I"]
def wsL_keyOf_r3 : List Cond := [Cond.static yX3_isPerson, Cond.code yX3_isPerson cX3_isPerson 1 (some .boolean), Cond.static yX3_isGuest, Cond.code yX3_isGuest cX3_isGuest 1 (some .boolean), Cond.methodLink RX3 150 yX2_isTainted, Cond.instanceMethod yX2_isTainted, Cond.selects RX2 yX2_isTainted yX2_isTainted, Cond.code yX2_isTainted cX2_isTainted 2 (some .boolean), Cond.fieldLink RX2 31 "VouchGate$Ties" "lost" "[Z", Cond.methodLink RX2 55 yX2_standsOnBadVouching, Cond.instanceMethod yX2_standsOnBadVouching, Cond.selects RX2 yX2_standsOnBadVouching yX2_standsOnBadVouching, Cond.code yX2_standsOnBadVouching cX2_standsOnBadVouching 4 (some .boolean), Cond.fieldLink RX2 24 "VouchGate$Ties" "bad" "[Z"]
def wsL_keyOf : List Cond := .codeWith yL_keyOf cL_keyOf 4 (some .int) [(0, 6, 7, 16), (0, 6, 11, 19)] :: ((wsL_keyOf_r1 ++ (wsL_keyOf_r2 ++ wsL_keyOf_r3)) ++ wsX30 ++ wsX00 ++ wsX20 ++ (vx_atS RX3 52 "java/lang/IndexOutOfBoundsException" ["java/lang/RuntimeException", "java/lang/Exception"]).filter goodWord ++ (vx_atS RX3 59 "java/lang/IllegalArgumentException" ["java/lang/RuntimeException", "java/lang/Exception"]).filter goodWord)
def wsL_sign_r1 : List Cond := [Cond.classLink RL 16 "java/lang/IndexOutOfBoundsException", Cond.constant RL 18 (-1000001), Cond.methodLink RL 72 yX3_sign, Cond.instanceMethod yX3_sign, Cond.selects RX3 yX3_sign yX3_sign, Cond.initialized RX3, Cond.code yX3_sign cX3_sign 4 (some .char), Cond.classLink RX3 48 "java/lang/IndexOutOfBoundsException", Cond.initialized "java/lang/IndexOutOfBoundsException", Cond.fieldLink RX3 19 "VouchGate" "ties" "LVouchGate$Ties;", Cond.methodLink RX3 44 yX3_isPerson, Cond.static yX3_isPerson, Cond.code yX3_isPerson cX3_isPerson 1 (some .boolean), Cond.methodLink RX3 139 yX2_badgeOf, Cond.instanceMethod yX2_badgeOf, Cond.selects RX2 yX2_badgeOf yX2_badgeOf, Cond.initialized RX2, Cond.code yX2_badgeOf cX2_badgeOf 2 (some .int), Cond.fieldLink RX2 28 "VouchGate$Ties" "badges" "[I", Cond.methodLink RX3 200 yX3_badgeText, Cond.static yX3_badgeText, Cond.code yX3_badgeText cX3_badgeText 3 (some (.object "java/lang/StringBuilder")), Cond.classLink RX3 205 RJ4, Cond.instantiable RJ4 4]
def wsL_sign_r2 : List Cond := [Cond.initialized RJ4, Cond.methodLink RX3 213 yJ4_init_da8c8, Cond.instanceMethod yJ4_init_da8c8, Cond.code yJ4_init_da8c8 cJ4_init_da8c8 1 none, Cond.methodLink RJ4 1 yJ5_init_d00df, Cond.instanceMethod yJ5_init_d00df, Cond.initialized RJ5, Cond.code yJ5_init_d00df cJ5_init_d00df 2 none, Cond.methodLink RJ5 3 objectInit, Cond.instanceMethod objectInit, Cond.code objectInit ⟨#[0xb1]⟩ 1 none, Cond.fieldLink RJ5 18 "java/lang/String" "COMPACT_STRINGS" "Z", Cond.arrayClass .byte, Cond.fieldLink RJ5 15 "java/lang/AbstractStringBuilder" "value" "[B", Cond.fieldLink RJ5 22 "java/lang/AbstractStringBuilder" "coder" "B", Cond.methodLink RJ5 26 yJ2_newBytesFor_77867, Cond.static yJ2_newBytesFor_77867, Cond.initialized RJ2, Cond.code yJ2_newBytesFor_77867 cJ2_newBytesFor_77867 1 (some (.array .byte)), Cond.methodLink RJ2 11 yJ2_newBytesLength_0f7a4, Cond.static yJ2_newBytesLength_0f7a4, Cond.code yJ2_newBytesLength_0f7a4 cJ2_newBytesLength_0f7a4 1 (some .int), Cond.constant RJ2 20 (1073741823), Cond.methodLink RX3 214 yJ4_append_bf812]
def wsL_sign_r3 : List Cond := [Cond.instanceMethod yJ4_append_bf812, Cond.selects RJ4 yJ4_append_bf812 yJ4_append_bf812, Cond.code yJ4_append_bf812 cJ4_append_bf812 2 (some (.object "java/lang/StringBuilder")), Cond.methodLink RJ4 53 yJ5_append_c97b9, Cond.sameMethod "java/lang/AbstractStringBuilder" "java/lang/AbstractStringBuilder" "append" "(I)Ljava/lang/AbstractStringBuilder;", Cond.superclass RJ4 RJ5, Cond.instanceMethod yJ5_append_c97b9, Cond.code yJ5_append_c97b9 cJ5_append_c97b9 4 (some (.object "java/lang/AbstractStringBuilder")), Cond.fieldLink RJ5 79 "java/lang/AbstractStringBuilder" "count" "I", Cond.methodLink RJ5 245 yJ6_stringSize_0f7a4, Cond.static yJ6_stringSize_0f7a4, Cond.initialized RJ6, Cond.code yJ6_stringSize_0f7a4 cJ6_stringSize_0f7a4 4 (some .int), Cond.methodLink RJ5 100 ⟨"java/lang/AbstractStringBuilder", "ensureCapacityInternal", "(I)V"⟩, Cond.sameMethod "java/lang/AbstractStringBuilder" "java/lang/AbstractStringBuilder" "ensureCapacityInternal" "(I)V", Cond.selects RJ4 ⟨"java/lang/AbstractStringBuilder", "ensureCapacityInternal", "(I)V"⟩ yJ5_ensureCapacityInternal_d00df, Cond.instanceMethod yJ5_ensureCapacityInternal_d00df, Cond.code yJ5_ensureCapacityInternal_d00df cJ5_ensureCapacityInternal_d00df 3 none, Cond.methodLink RJ5 104 ⟨"java/lang/AbstractStringBuilder", "newCapacity", "(I)I"⟩, Cond.sameMethod "java/lang/AbstractStringBuilder" "java/lang/AbstractStringBuilder" "newCapacity" "(I)I", Cond.selects RJ4 ⟨"java/lang/AbstractStringBuilder", "newCapacity", "(I)I"⟩ yJ5_newCapacity_0f7a4, Cond.instanceMethod yJ5_newCapacity_0f7a4, Cond.code yJ5_newCapacity_0f7a4 cJ5_newCapacity_0f7a4 6 (some .int), Cond.constant RJ5 39 (2147483647)]
def wsL_sign_r4 : List Cond := [Cond.methodLink RJ5 114 yJ8_newLength_cabcc, Cond.static yJ8_newLength_cabcc, Cond.initialized RJ8, Cond.code yJ8_newLength_cabcc cJ8_newLength_cabcc 4 (some .int), Cond.methodLink RJ8 194 Lib.Math.max.name, Cond.static Lib.Math.max.name, Cond.initialized "java/lang/Math", Cond.code Lib.Math.max.name Lib.Math.max.code 2 (some .int), Cond.constant RJ8 200 (2147483639), Cond.methodLink RJ8 201 yJ8_hugeLength_7cf53, Cond.static yJ8_hugeLength_7cf53, Cond.code yJ8_hugeLength_7cf53 cJ8_hugeLength_7cf53 3 (some .int), Cond.methodLink RJ5 108 yJ7_copyOf_9075b, Cond.static yJ7_copyOf_9075b, Cond.initialized RJ7, Cond.code yJ7_copyOf_9075b cJ7_copyOf_9075b 3 (some (.array .byte)), Cond.methodLink RJ7 310 ⟨"[B", "clone", "()Ljava/lang/Object;"⟩, Cond.sameMethod "[B" "java/lang/Object" "clone" "()Ljava/lang/Object;", Cond.native ⟨"java/lang/Object", "clone", "()Ljava/lang/Object;"⟩, Cond.instanceMethod ⟨"java/lang/Object", "clone", "()Ljava/lang/Object;"⟩, Cond.selects "[B" ⟨"[B", "clone", "()Ljava/lang/Object;"⟩ ⟨"java/lang/Object", "clone", "()Ljava/lang/Object;"⟩, Cond.classLink RJ7 311 "[B", Cond.methodLink RJ7 304 Lib.Math.min.name, Cond.static Lib.Math.min.name]
def wsL_sign_r5 : List Cond := [Cond.code Lib.Math.min.name Lib.Math.min.code 2 (some .int), Cond.methodLink RJ7 150 arraycopyName, Cond.native arraycopyName, Cond.static arraycopyName, Cond.initialized "java/lang/System", Cond.methodLink RJ5 83 ⟨"java/lang/AbstractStringBuilder", "isLatin1", "()Z"⟩, Cond.sameMethod "java/lang/AbstractStringBuilder" "java/lang/AbstractStringBuilder" "isLatin1" "()Z", Cond.selects RJ4 ⟨"java/lang/AbstractStringBuilder", "isLatin1", "()Z"⟩ yJ5_isLatin1_aae02, Cond.instanceMethod yJ5_isLatin1_aae02, Cond.code yJ5_isLatin1_aae02 cJ5_isLatin1_aae02 1 (some .boolean), Cond.methodLink RJ5 248 yJ6_getChars_ba4f3, Cond.static yJ6_getChars_ba4f3, Cond.code yJ6_getChars_ba4f3 cJ6_getChars_ba4f3 7 (some .int), Cond.fieldLink RJ6 83 "java/lang/Integer" "DigitOnes" "[B", Cond.fieldLink RJ6 87 "java/lang/Integer" "DigitTens" "[B", Cond.methodLink RJ5 251 yJ2_getChars_46870, Cond.static yJ2_getChars_46870, Cond.code yJ2_getChars_46870 cJ2_getChars_46870 5 (some .int), Cond.fieldLink RJ2 44 "java/lang/StringUTF16" "$assertionsDisabled" "Z", Cond.methodLink RJ2 96 yJ2_checkBoundsBeginEnd_d044e, Cond.static yJ2_checkBoundsBeginEnd_d044e, Cond.code yJ2_checkBoundsBeginEnd_d044e cJ2_checkBoundsBeginEnd_d044e 3 none, Cond.methodLink RJ2 48 yJ2_length_9d52b, Cond.static yJ2_length_9d52b]
def wsL_sign_r6 : List Cond := [Cond.code yJ2_length_9d52b cJ2_length_9d52b 1 (some .int), Cond.methodLink RJ2 241 yJ0_checkBoundsBeginEnd_23922, Cond.static yJ0_checkBoundsBeginEnd_23922, Cond.initialized RJ0, Cond.code yJ0_checkBoundsBeginEnd_23922 cJ0_checkBoundsBeginEnd_23922 3 none, Cond.fieldLink RJ0 1053 "jdk/internal/util/Preconditions" "SIOOBE_FORMATTER" "Ljava/util/function/BiFunction;", Cond.methodLink RJ0 1062 yJ3_checkFromToIndex_8c36e, Cond.static yJ3_checkFromToIndex_8c36e, Cond.initialized RJ3, Cond.code yJ3_checkFromToIndex_8c36e cJ3_checkFromToIndex_8c36e 4 (some .int), Cond.methodLink RJ2 393 yJ2_getChars_ba4f3, Cond.static yJ2_getChars_ba4f3, Cond.code yJ2_getChars_ba4f3 cJ2_getChars_ba4f3 7 (some .int), Cond.fieldLink RJ2 403 "java/lang/Integer" "DigitOnes" "[B", Cond.fieldLink RJ2 407 "java/lang/Integer" "DigitTens" "[B", Cond.methodLink RJ2 111 yJ2_putChar_b72d1, Cond.static yJ2_putChar_b72d1, Cond.code yJ2_putChar_b72d1 cJ2_putChar_b72d1 3 none, Cond.fieldLink RJ2 59 "java/lang/StringUTF16" "HI_BYTE_SHIFT" "I", Cond.fieldLink RJ2 63 "java/lang/StringUTF16" "LO_BYTE_SHIFT" "I", Cond.methodLink RX3 218 yJ4_append_cf468, Cond.instanceMethod yJ4_append_cf468, Cond.selects RJ4 yJ4_append_cf468 yJ4_append_cf468, Cond.code yJ4_append_cf468 cJ4_append_cf468 2 (some (.object "java/lang/StringBuilder"))]
def wsL_sign_r7 : List Cond := [Cond.methodLink RJ4 50 yJ5_append_3fe6f, Cond.sameMethod "java/lang/AbstractStringBuilder" "java/lang/AbstractStringBuilder" "append" "(C)Ljava/lang/AbstractStringBuilder;", Cond.instanceMethod yJ5_append_3fe6f, Cond.code yJ5_append_3fe6f cJ5_append_3fe6f 2 (some (.object "java/lang/AbstractStringBuilder")), Cond.methodLink RJ5 191 yJ1_canEncode_fc78d, Cond.static yJ1_canEncode_fc78d, Cond.initialized RJ1, Cond.code yJ1_canEncode_fc78d cJ1_canEncode_fc78d 1 (some .boolean), Cond.methodLink RJ5 195 ⟨"java/lang/AbstractStringBuilder", "inflate", "()V"⟩, Cond.sameMethod "java/lang/AbstractStringBuilder" "java/lang/AbstractStringBuilder" "inflate" "()V", Cond.selects RJ4 ⟨"java/lang/AbstractStringBuilder", "inflate", "()V"⟩ yJ5_inflate_da8c8, Cond.instanceMethod yJ5_inflate_da8c8, Cond.code yJ5_inflate_da8c8 cJ5_inflate_da8c8 2 none, Cond.methodLink RJ5 125 yJ1_inflate_0e8fd, Cond.static yJ1_inflate_0e8fd, Cond.code yJ1_inflate_0e8fd cJ1_inflate_0e8fd 5 none, Cond.methodLink RJ1 240 yJ2_inflate_0e8fd, Cond.static yJ2_inflate_0e8fd, Cond.code yJ2_inflate_0e8fd cJ2_inflate_0e8fd 6 none, Cond.methodLink RJ2 173 yJ2_checkBoundsOffCount_d044e, Cond.static yJ2_checkBoundsOffCount_d044e, Cond.code yJ2_checkBoundsOffCount_d044e cJ2_checkBoundsOffCount_d044e 3 none, Cond.methodLink RJ2 419 yJ0_checkBoundsOffCount_cabcc, Cond.static yJ0_checkBoundsOffCount_cabcc]
def wsL_sign_r8 : List Cond := [Cond.code yJ0_checkBoundsOffCount_cabcc cJ0_checkBoundsOffCount_cabcc 3 (some .int), Cond.methodLink RJ0 1065 yJ3_checkFromIndexSize_8c36e, Cond.static yJ3_checkFromIndexSize_8c36e, Cond.code yJ3_checkFromIndexSize_8c36e cJ3_checkFromIndexSize_8c36e 4 (some .int), Cond.methodLink RJ5 197 yJ2_putCharSB_b72d1, Cond.static yJ2_putCharSB_b72d1, Cond.code yJ2_putCharSB_b72d1 cJ2_putCharSB_b72d1 3 none, Cond.methodLink RJ2 67 yJ2_checkIndex_2214a, Cond.static yJ2_checkIndex_2214a, Cond.code yJ2_checkIndex_2214a cJ2_checkIndex_2214a 2 none, Cond.methodLink RJ2 414 yJ0_checkIndex_df160, Cond.static yJ0_checkIndex_df160, Cond.code yJ0_checkIndex_df160 cJ0_checkIndex_df160 2 none, Cond.methodLink RJ0 1059 yJ3_checkIndex_8e157, Cond.static yJ3_checkIndex_8e157, Cond.code yJ3_checkIndex_8e157 cJ3_checkIndex_8e157 3 (some .int), Cond.methodLink RX3 221 yX3_appendBackwards, Cond.static yX3_appendBackwards, Cond.code yX3_appendBackwards cX3_appendBackwards 4 none, Cond.methodLink RX3 204 yJ4_length_8abf5, Cond.instanceMethod yJ4_length_8abf5, Cond.selects RJ4 yJ4_length_8abf5 yJ4_length_8abf5, Cond.code yJ4_length_8abf5 cJ4_length_8abf5 1 (some .int), Cond.methodLink RJ4 343 yJ5_length_8abf5]
def wsL_sign_r9 : List Cond := [Cond.sameMethod "java/lang/AbstractStringBuilder" "java/lang/AbstractStringBuilder" "length" "()I", Cond.instanceMethod yJ5_length_8abf5, Cond.code yJ5_length_8abf5 cJ5_length_8abf5 1 (some .int), Cond.methodLink RX3 209 yJ4_charAt_5068e, Cond.instanceMethod yJ4_charAt_5068e, Cond.selects RJ4 yJ4_charAt_5068e yJ4_charAt_5068e, Cond.code yJ4_charAt_5068e cJ4_charAt_5068e 2 (some .char), Cond.methodLink RJ4 329 yJ5_charAt_5068e, Cond.sameMethod "java/lang/AbstractStringBuilder" "java/lang/AbstractStringBuilder" "charAt" "(I)C", Cond.instanceMethod yJ5_charAt_5068e, Cond.code yJ5_charAt_5068e cJ5_charAt_5068e 5 (some .char), Cond.methodLink RJ5 138 Lib.Math.min.name, Cond.methodLink RJ5 144 yJ0_checkIndex_df160, Cond.methodLink RJ5 148 yJ2_getChar_3b067, Cond.static yJ2_getChar_3b067, Cond.code yJ2_getChar_3b067 cJ2_getChar_3b067 2 (some .char)]
def wsL_sign : List Cond := .codeWith yL_sign cL_sign 4 (some .int) [(0, 6, 7, 16)] :: ((wsL_sign_r1 ++ (wsL_sign_r2 ++ (wsL_sign_r3 ++ (wsL_sign_r4 ++ (wsL_sign_r5 ++ (wsL_sign_r6 ++ (wsL_sign_r7 ++ (wsL_sign_r8 ++ wsL_sign_r9)))))))) ++ wsX30 ++ wsX20 ++ wsJ40 ++ (vx_atS RX3 52 "java/lang/IndexOutOfBoundsException" ["java/lang/RuntimeException", "java/lang/Exception"]).filter goodWord)
def wsL_arePersons_r1 : List Cond := [Cond.constant RL 21 (-1000002), Cond.methodLink RL 76 yL_of, Cond.static yL_of, Cond.initialized RL, Cond.codeWith yL_of cL_of 4 (some .int) [(0, 6, 7, 16), (0, 6, 11, 19)], Cond.classLink RL 16 "java/lang/IndexOutOfBoundsException", Cond.classLink RL 19 "java/lang/IllegalArgumentException", Cond.constant RL 18 (-1000001), Cond.methodLink RL 57 yX3_of, Cond.instanceMethod yX3_of, Cond.selects RX3 yX3_of yX3_of, Cond.initialized RX3, Cond.code yX3_of cX3_of 3 (some .int), Cond.classLink RX3 48 "java/lang/IndexOutOfBoundsException", Cond.initialized "java/lang/IndexOutOfBoundsException", Cond.classLink RX3 55 "java/lang/IllegalArgumentException", Cond.initialized "java/lang/IllegalArgumentException", Cond.fieldLink RX3 10 "VouchGate" "desk" "LVouchGate$Desk;", Cond.fieldLink RX3 40 "VouchGate" "now" "I", Cond.fieldLink RX3 19 "VouchGate" "ties" "LVouchGate$Ties;", Cond.methodLink RX3 44 yX3_isPerson, Cond.static yX3_isPerson, Cond.code yX3_isPerson cX3_isPerson 1 (some .boolean), Cond.methodLink RX3 60 yX0_isInSession]
def wsL_arePersons_r2 : List Cond := [Cond.instanceMethod yX0_isInSession, Cond.selects RX0 yX0_isInSession yX0_isInSession, Cond.initialized RX0, Cond.code yX0_isInSession cX0_isInSession 3 (some .boolean), Cond.fieldLink RX0 21 "VouchGate$Desk" "sessionEnds" "[I", Cond.methodLink RX3 170 yX3_asNumber, Cond.static yX3_asNumber, Cond.code yX3_asNumber cX3_asNumber 1 (some .int), Cond.methodLink RX3 174 yX2_isTrusted, Cond.instanceMethod yX2_isTrusted, Cond.selects RX2 yX2_isTrusted yX2_isTrusted, Cond.initialized RX2, Cond.code yX2_isTrusted cX2_isTrusted 2 (some .boolean), Cond.methodLink RX2 48 yX2_stepsToStaff, Cond.instanceMethod yX2_stepsToStaff, Cond.selects RX2 yX2_stepsToStaff yX2_stepsToStaff, Cond.code yX2_stepsToStaff cX2_stepsToStaff 4 (some .int), Cond.fieldLink RX2 9 "VouchGate$Ties" "hosts" "[I", Cond.static yX3_isGuest, Cond.code yX3_isGuest cX3_isGuest 1 (some .boolean), Cond.methodLink RX3 150 yX2_isTainted, Cond.instanceMethod yX2_isTainted, Cond.selects RX2 yX2_isTainted yX2_isTainted, Cond.code yX2_isTainted cX2_isTainted 2 (some .boolean)]
def wsL_arePersons_r3 : List Cond := [Cond.fieldLink RX2 31 "VouchGate$Ties" "lost" "[Z", Cond.methodLink RX2 55 yX2_standsOnBadVouching, Cond.instanceMethod yX2_standsOnBadVouching, Cond.selects RX2 yX2_standsOnBadVouching yX2_standsOnBadVouching, Cond.code yX2_standsOnBadVouching cX2_standsOnBadVouching 4 (some .boolean), Cond.fieldLink RX2 24 "VouchGate$Ties" "bad" "[Z", Cond.methodLink RX3 144 yX2_roomsOf, Cond.instanceMethod yX2_roomsOf, Cond.selects RX2 yX2_roomsOf yX2_roomsOf, Cond.code yX2_roomsOf cX2_roomsOf 5 (some .int), Cond.fieldLink RX2 15 "VouchGate$Ties" "rooms" "[I", Cond.methodLink RX2 52 yX2_isTrusted, Cond.methodLink RX3 109 yX2_hostOf, Cond.instanceMethod yX2_hostOf, Cond.selects RX2 yX2_hostOf yX2_hostOf, Cond.code yX2_hostOf cX2_hostOf 2 (some .int), Cond.methodLink RX3 177 yX0_failuresOf, Cond.instanceMethod yX0_failuresOf, Cond.selects RX0 yX0_failuresOf yX0_failuresOf, Cond.code yX0_failuresOf cX0_failuresOf 2 (some .int), Cond.fieldLink RX0 15 "VouchGate$Desk" "failures" "[I", Cond.methodLink RX3 180 yX0_sessionEndOf, Cond.instanceMethod yX0_sessionEndOf, Cond.selects RX0 yX0_sessionEndOf yX0_sessionEndOf]
def wsL_arePersons_r4 : List Cond := [Cond.code yX0_sessionEndOf cX0_sessionEndOf 2 (some .int), Cond.methodLink RX3 139 yX2_badgeOf, Cond.instanceMethod yX2_badgeOf, Cond.selects RX2 yX2_badgeOf yX2_badgeOf, Cond.code yX2_badgeOf cX2_badgeOf 2 (some .int), Cond.fieldLink RX2 28 "VouchGate$Ties" "badges" "[I", Cond.methodLink RL 81 yL_chain, Cond.static yL_chain, Cond.codeWith yL_chain cL_chain 3 (some .int) [(0, 5, 6, 16)], Cond.methodLink RL 63 yX3_chain, Cond.instanceMethod yX3_chain, Cond.selects RX3 yX3_chain yX3_chain, Cond.code yX3_chain cX3_chain 2 (some .int), Cond.methodLink RX3 189 yX2_stepsToStaff, Cond.methodLink RL 84 yL_taintedAnew, Cond.static yL_taintedAnew, Cond.codeWith yL_taintedAnew cL_taintedAnew 3 (some .int) [(0, 13, 14, 16)], Cond.methodLink RL 60 yX3_taintedAnew, Cond.instanceMethod yX3_taintedAnew, Cond.selects RX3 yX3_taintedAnew yX3_taintedAnew, Cond.code yX3_taintedAnew cX3_taintedAnew 2 (some .boolean), Cond.fieldLink RX3 29 "VouchGate" "log" "LVouchGate$Log;", Cond.fieldLink RX3 23 "VouchGate" "tiesAnew" "LVouchGate$Ties;", Cond.methodLink RX3 185 yX1_replayInto]
def wsL_arePersons_r5 : List Cond := [Cond.instanceMethod yX1_replayInto, Cond.selects RX1 yX1_replayInto yX1_replayInto, Cond.initialized RX1, Cond.code yX1_replayInto cX1_replayInto 3 none, Cond.fieldLink RX1 24 "VouchGate$Log" "size" "I", Cond.methodLink RX1 35 yX2_reset, Cond.instanceMethod yX2_reset, Cond.selects RX2 yX2_reset yX2_reset, Cond.code yX2_reset cX2_reset 2 none, Cond.fieldLink RX2 37 "VouchGate$Ties" "nextBadge" "I", Cond.methodLink RX1 40 yX1_replayOne, Cond.instanceMethod yX1_replayOne, Cond.selects RX1 yX1_replayOne yX1_replayOne, Cond.code yX1_replayOne cX1_replayOne 3 none, Cond.fieldLink RX1 9 "VouchGate$Log" "kinds" "[I", Cond.fieldLink RX1 15 "VouchGate$Log" "persons" "[I", Cond.fieldLink RX1 18 "VouchGate$Log" "guests" "[I", Cond.fieldLink RX1 21 "VouchGate$Log" "minutes" "[I", Cond.methodLink RX1 44 yX2_tie, Cond.instanceMethod yX2_tie, Cond.selects RX2 yX2_tie yX2_tie, Cond.code yX2_tie cX2_tie 4 none, Cond.fieldLink RX2 18 "VouchGate$Ties" "minutes" "[I", Cond.fieldLink RX2 21 "VouchGate$Ties" "hostBadges" "[I"]
def wsL_arePersons_r6 : List Cond := [Cond.methodLink RX1 48 yX2_untie, Cond.instanceMethod yX2_untie, Cond.selects RX2 yX2_untie yX2_untie, Cond.code yX2_untie cX2_untie 2 none, Cond.methodLink RX1 52 yX2_markLost, Cond.instanceMethod yX2_markLost, Cond.selects RX2 yX2_markLost yX2_markLost, Cond.code yX2_markLost cX2_markLost 4 none, Cond.methodLink RX1 56 yX2_renewBadge, Cond.instanceMethod yX2_renewBadge, Cond.selects RX2 yX2_renewBadge yX2_renewBadge, Cond.code yX2_renewBadge cX2_renewBadge 2 none, Cond.methodLink RL 86 yL_door, Cond.static yL_door, Cond.codeWith yL_door cL_door 4 (some .int) [(0, 14, 15, 16)], Cond.methodLink RL 46 yX3_door, Cond.instanceMethod yX3_door, Cond.selects RX3 yX3_door yX3_door, Cond.code yX3_door cX3_door 3 (some .boolean), Cond.methodLink RX3 147 yX3_holds, Cond.static yX3_holds, Cond.code yX3_holds cX3_holds 2 (some .boolean), Cond.methodLink RL 88 yL_ending, Cond.static yL_ending]
def wsL_arePersons_r7 : List Cond := [Cond.codeWith yL_ending cL_ending 3 (some .int) [(0, 5, 6, 16)], Cond.methodLink RL 66 yX3_ending, Cond.instanceMethod yX3_ending, Cond.selects RX3 yX3_ending yX3_ending, Cond.code yX3_ending cX3_ending 3 (some .int), Cond.methodLink RX3 194 yX0_countEndingAheadOf, Cond.instanceMethod yX0_countEndingAheadOf, Cond.selects RX0 yX0_countEndingAheadOf yX0_countEndingAheadOf, Cond.code yX0_countEndingAheadOf cX0_countEndingAheadOf 5 (some .int), Cond.methodLink RX0 32 yX0_isInSession, Cond.methodLink RX0 36 yX0_endsAheadOf, Cond.instanceMethod yX0_endsAheadOf, Cond.selects RX0 yX0_endsAheadOf yX0_endsAheadOf, Cond.code yX0_endsAheadOf cX0_endsAheadOf 3 (some .boolean)]
def wsL_arePersons : List Cond := .code yL_arePersons cL_arePersons 13 (some .boolean) :: ((wsL_arePersons_r1 ++ (wsL_arePersons_r2 ++ (wsL_arePersons_r3 ++ (wsL_arePersons_r4 ++ (wsL_arePersons_r5 ++ (wsL_arePersons_r6 ++ wsL_arePersons_r7)))))) ++ wsX30 ++ wsX00 ++ wsX20 ++ wsX10 ++ (vx_atS RX3 52 "java/lang/IndexOutOfBoundsException" ["java/lang/RuntimeException", "java/lang/Exception"]).filter goodWord ++ (vx_atS RX3 59 "java/lang/IllegalArgumentException" ["java/lang/RuntimeException", "java/lang/Exception"]).filter goodWord)
def wsL_areKeys_r1 : List Cond := [Cond.methodLink RL 90 yL_keyOf, Cond.static yL_keyOf, Cond.initialized RL, Cond.codeWith yL_keyOf cL_keyOf 4 (some .int) [(0, 6, 7, 16), (0, 6, 11, 19)], Cond.classLink RL 16 "java/lang/IndexOutOfBoundsException", Cond.classLink RL 19 "java/lang/IllegalArgumentException", Cond.constant RL 18 (-1000001), Cond.constant RL 21 (-1000002), Cond.methodLink RL 69 yX3_keyOf, Cond.instanceMethod yX3_keyOf, Cond.selects RX3 yX3_keyOf yX3_keyOf, Cond.initialized RX3, Cond.code yX3_keyOf cX3_keyOf 3 (some .int), Cond.classLink RX3 48 "java/lang/IndexOutOfBoundsException", Cond.initialized "java/lang/IndexOutOfBoundsException", Cond.classLink RX3 55 "java/lang/IllegalArgumentException", Cond.initialized "java/lang/IllegalArgumentException", Cond.fieldLink RX3 33 "VouchGate" "keepers" "[I", Cond.fieldLink RX3 37 "VouchGate" "thresholds" "[I", Cond.methodLink RX3 153 yX3_isKey, Cond.static yX3_isKey, Cond.code yX3_isKey cX3_isKey 1 (some .boolean), Cond.methodLink RX3 167 yX3_countUsers, Cond.instanceMethod yX3_countUsers]
def wsL_areKeys_r2 : List Cond := [Cond.selects RX3 yX3_countUsers yX3_countUsers, Cond.code yX3_countUsers cX3_countUsers 4 (some .int), Cond.methodLink RX3 147 yX3_holds, Cond.static yX3_holds, Cond.code yX3_holds cX3_holds 2 (some .boolean), Cond.methodLink RX3 88 yX3_mayAct, Cond.instanceMethod yX3_mayAct, Cond.selects RX3 yX3_mayAct yX3_mayAct, Cond.code yX3_mayAct cX3_mayAct 2 (some .boolean), Cond.fieldLink RX3 10 "VouchGate" "desk" "LVouchGate$Desk;", Cond.fieldLink RX3 40 "VouchGate" "now" "I", Cond.fieldLink RX3 19 "VouchGate" "ties" "LVouchGate$Ties;", Cond.methodLink RX3 60 yX0_isInSession, Cond.instanceMethod yX0_isInSession, Cond.selects RX0 yX0_isInSession yX0_isInSession, Cond.initialized RX0, Cond.code yX0_isInSession cX0_isInSession 3 (some .boolean), Cond.fieldLink RX0 21 "VouchGate$Desk" "sessionEnds" "[I", Cond.methodLink RX3 174 yX2_isTrusted, Cond.instanceMethod yX2_isTrusted, Cond.selects RX2 yX2_isTrusted yX2_isTrusted, Cond.initialized RX2, Cond.code yX2_isTrusted cX2_isTrusted 2 (some .boolean), Cond.methodLink RX2 48 yX2_stepsToStaff]
def wsL_areKeys_r3 : List Cond := [Cond.instanceMethod yX2_stepsToStaff, Cond.selects RX2 yX2_stepsToStaff yX2_stepsToStaff, Cond.code yX2_stepsToStaff cX2_stepsToStaff 4 (some .int), Cond.fieldLink RX2 9 "VouchGate$Ties" "hosts" "[I", Cond.static yX3_isPerson, Cond.code yX3_isPerson cX3_isPerson 1 (some .boolean), Cond.static yX3_isGuest, Cond.code yX3_isGuest cX3_isGuest 1 (some .boolean), Cond.methodLink RX3 150 yX2_isTainted, Cond.instanceMethod yX2_isTainted, Cond.selects RX2 yX2_isTainted yX2_isTainted, Cond.code yX2_isTainted cX2_isTainted 2 (some .boolean), Cond.fieldLink RX2 31 "VouchGate$Ties" "lost" "[Z", Cond.methodLink RX2 55 yX2_standsOnBadVouching, Cond.instanceMethod yX2_standsOnBadVouching, Cond.selects RX2 yX2_standsOnBadVouching yX2_standsOnBadVouching, Cond.code yX2_standsOnBadVouching cX2_standsOnBadVouching 4 (some .boolean), Cond.fieldLink RX2 24 "VouchGate$Ties" "bad" "[Z", Cond.methodLink RL 76 yL_of, Cond.static yL_of, Cond.codeWith yL_of cL_of 4 (some .int) [(0, 6, 7, 16), (0, 6, 11, 19)], Cond.methodLink RL 57 yX3_of, Cond.instanceMethod yX3_of, Cond.selects RX3 yX3_of yX3_of]
def wsL_areKeys_r4 : List Cond := [Cond.code yX3_of cX3_of 3 (some .int), Cond.methodLink RX3 44 yX3_isPerson, Cond.methodLink RX3 170 yX3_asNumber, Cond.static yX3_asNumber, Cond.code yX3_asNumber cX3_asNumber 1 (some .int), Cond.methodLink RX3 144 yX2_roomsOf, Cond.instanceMethod yX2_roomsOf, Cond.selects RX2 yX2_roomsOf yX2_roomsOf, Cond.code yX2_roomsOf cX2_roomsOf 5 (some .int), Cond.fieldLink RX2 15 "VouchGate$Ties" "rooms" "[I", Cond.methodLink RX2 52 yX2_isTrusted, Cond.methodLink RX3 109 yX2_hostOf, Cond.instanceMethod yX2_hostOf, Cond.selects RX2 yX2_hostOf yX2_hostOf, Cond.code yX2_hostOf cX2_hostOf 2 (some .int), Cond.methodLink RX3 177 yX0_failuresOf, Cond.instanceMethod yX0_failuresOf, Cond.selects RX0 yX0_failuresOf yX0_failuresOf, Cond.code yX0_failuresOf cX0_failuresOf 2 (some .int), Cond.fieldLink RX0 15 "VouchGate$Desk" "failures" "[I", Cond.methodLink RX3 180 yX0_sessionEndOf, Cond.instanceMethod yX0_sessionEndOf, Cond.selects RX0 yX0_sessionEndOf yX0_sessionEndOf, Cond.code yX0_sessionEndOf cX0_sessionEndOf 2 (some .int)]
def wsL_areKeys_r5 : List Cond := [Cond.methodLink RX3 139 yX2_badgeOf, Cond.instanceMethod yX2_badgeOf, Cond.selects RX2 yX2_badgeOf yX2_badgeOf, Cond.code yX2_badgeOf cX2_badgeOf 2 (some .int), Cond.fieldLink RX2 28 "VouchGate$Ties" "badges" "[I", Cond.methodLink RL 92 yL_use, Cond.static yL_use, Cond.codeWith yL_use cL_use 3 (some .int) [(0, 13, 14, 16)], Cond.methodLink RL 53 yX3_use, Cond.instanceMethod yX3_use, Cond.selects RX3 yX3_use yX3_use, Cond.code yX3_use cX3_use 2 (some .boolean)]
def wsL_areKeys : List Cond := .code yL_areKeys cL_areKeys 7 (some .boolean) :: ((wsL_areKeys_r1 ++ (wsL_areKeys_r2 ++ (wsL_areKeys_r3 ++ (wsL_areKeys_r4 ++ wsL_areKeys_r5)))) ++ wsX30 ++ wsX00 ++ wsX20 ++ (vx_atS RX3 52 "java/lang/IndexOutOfBoundsException" ["java/lang/RuntimeException", "java/lang/Exception"]).filter goodWord ++ (vx_atS RX3 59 "java/lang/IllegalArgumentException" ["java/lang/RuntimeException", "java/lang/Exception"]).filter goodWord)
def wsL_isSign_r1 : List Cond := [Cond.methodLink RL 94 yL_sign, Cond.static yL_sign, Cond.initialized RL, Cond.codeWith yL_sign cL_sign 4 (some .int) [(0, 6, 7, 16)], Cond.classLink RL 16 "java/lang/IndexOutOfBoundsException", Cond.constant RL 18 (-1000001), Cond.methodLink RL 72 yX3_sign, Cond.instanceMethod yX3_sign, Cond.selects RX3 yX3_sign yX3_sign, Cond.initialized RX3, Cond.code yX3_sign cX3_sign 4 (some .char), Cond.classLink RX3 48 "java/lang/IndexOutOfBoundsException", Cond.initialized "java/lang/IndexOutOfBoundsException", Cond.fieldLink RX3 19 "VouchGate" "ties" "LVouchGate$Ties;", Cond.methodLink RX3 44 yX3_isPerson, Cond.static yX3_isPerson, Cond.code yX3_isPerson cX3_isPerson 1 (some .boolean), Cond.methodLink RX3 139 yX2_badgeOf, Cond.instanceMethod yX2_badgeOf, Cond.selects RX2 yX2_badgeOf yX2_badgeOf, Cond.initialized RX2, Cond.code yX2_badgeOf cX2_badgeOf 2 (some .int), Cond.fieldLink RX2 28 "VouchGate$Ties" "badges" "[I", Cond.methodLink RX3 200 yX3_badgeText]
def wsL_isSign_r2 : List Cond := [Cond.static yX3_badgeText, Cond.code yX3_badgeText cX3_badgeText 3 (some (.object "java/lang/StringBuilder")), Cond.classLink RX3 205 RJ4, Cond.instantiable RJ4 4, Cond.initialized RJ4, Cond.methodLink RX3 213 yJ4_init_da8c8, Cond.instanceMethod yJ4_init_da8c8, Cond.code yJ4_init_da8c8 cJ4_init_da8c8 1 none, Cond.methodLink RJ4 1 yJ5_init_d00df, Cond.instanceMethod yJ5_init_d00df, Cond.initialized RJ5, Cond.code yJ5_init_d00df cJ5_init_d00df 2 none, Cond.methodLink RJ5 3 objectInit, Cond.instanceMethod objectInit, Cond.code objectInit ⟨#[0xb1]⟩ 1 none, Cond.fieldLink RJ5 18 "java/lang/String" "COMPACT_STRINGS" "Z", Cond.arrayClass .byte, Cond.fieldLink RJ5 15 "java/lang/AbstractStringBuilder" "value" "[B", Cond.fieldLink RJ5 22 "java/lang/AbstractStringBuilder" "coder" "B", Cond.methodLink RJ5 26 yJ2_newBytesFor_77867, Cond.static yJ2_newBytesFor_77867, Cond.initialized RJ2, Cond.code yJ2_newBytesFor_77867 cJ2_newBytesFor_77867 1 (some (.array .byte)), Cond.methodLink RJ2 11 yJ2_newBytesLength_0f7a4]
def wsL_isSign_r3 : List Cond := [Cond.static yJ2_newBytesLength_0f7a4, Cond.code yJ2_newBytesLength_0f7a4 cJ2_newBytesLength_0f7a4 1 (some .int), Cond.constant RJ2 20 (1073741823), Cond.methodLink RX3 214 yJ4_append_bf812, Cond.instanceMethod yJ4_append_bf812, Cond.selects RJ4 yJ4_append_bf812 yJ4_append_bf812, Cond.code yJ4_append_bf812 cJ4_append_bf812 2 (some (.object "java/lang/StringBuilder")), Cond.methodLink RJ4 53 yJ5_append_c97b9, Cond.sameMethod "java/lang/AbstractStringBuilder" "java/lang/AbstractStringBuilder" "append" "(I)Ljava/lang/AbstractStringBuilder;", Cond.superclass RJ4 RJ5, Cond.instanceMethod yJ5_append_c97b9, Cond.code yJ5_append_c97b9 cJ5_append_c97b9 4 (some (.object "java/lang/AbstractStringBuilder")), Cond.fieldLink RJ5 79 "java/lang/AbstractStringBuilder" "count" "I", Cond.methodLink RJ5 245 yJ6_stringSize_0f7a4, Cond.static yJ6_stringSize_0f7a4, Cond.initialized RJ6, Cond.code yJ6_stringSize_0f7a4 cJ6_stringSize_0f7a4 4 (some .int), Cond.methodLink RJ5 100 ⟨"java/lang/AbstractStringBuilder", "ensureCapacityInternal", "(I)V"⟩, Cond.sameMethod "java/lang/AbstractStringBuilder" "java/lang/AbstractStringBuilder" "ensureCapacityInternal" "(I)V", Cond.selects RJ4 ⟨"java/lang/AbstractStringBuilder", "ensureCapacityInternal", "(I)V"⟩ yJ5_ensureCapacityInternal_d00df, Cond.instanceMethod yJ5_ensureCapacityInternal_d00df, Cond.code yJ5_ensureCapacityInternal_d00df cJ5_ensureCapacityInternal_d00df 3 none, Cond.methodLink RJ5 104 ⟨"java/lang/AbstractStringBuilder", "newCapacity", "(I)I"⟩, Cond.sameMethod "java/lang/AbstractStringBuilder" "java/lang/AbstractStringBuilder" "newCapacity" "(I)I"]
def wsL_isSign_r4 : List Cond := [Cond.selects RJ4 ⟨"java/lang/AbstractStringBuilder", "newCapacity", "(I)I"⟩ yJ5_newCapacity_0f7a4, Cond.instanceMethod yJ5_newCapacity_0f7a4, Cond.code yJ5_newCapacity_0f7a4 cJ5_newCapacity_0f7a4 6 (some .int), Cond.constant RJ5 39 (2147483647), Cond.methodLink RJ5 114 yJ8_newLength_cabcc, Cond.static yJ8_newLength_cabcc, Cond.initialized RJ8, Cond.code yJ8_newLength_cabcc cJ8_newLength_cabcc 4 (some .int), Cond.methodLink RJ8 194 Lib.Math.max.name, Cond.static Lib.Math.max.name, Cond.initialized "java/lang/Math", Cond.code Lib.Math.max.name Lib.Math.max.code 2 (some .int), Cond.constant RJ8 200 (2147483639), Cond.methodLink RJ8 201 yJ8_hugeLength_7cf53, Cond.static yJ8_hugeLength_7cf53, Cond.code yJ8_hugeLength_7cf53 cJ8_hugeLength_7cf53 3 (some .int), Cond.methodLink RJ5 108 yJ7_copyOf_9075b, Cond.static yJ7_copyOf_9075b, Cond.initialized RJ7, Cond.code yJ7_copyOf_9075b cJ7_copyOf_9075b 3 (some (.array .byte)), Cond.methodLink RJ7 310 ⟨"[B", "clone", "()Ljava/lang/Object;"⟩, Cond.sameMethod "[B" "java/lang/Object" "clone" "()Ljava/lang/Object;", Cond.native ⟨"java/lang/Object", "clone", "()Ljava/lang/Object;"⟩, Cond.instanceMethod ⟨"java/lang/Object", "clone", "()Ljava/lang/Object;"⟩]
def wsL_isSign_r5 : List Cond := [Cond.selects "[B" ⟨"[B", "clone", "()Ljava/lang/Object;"⟩ ⟨"java/lang/Object", "clone", "()Ljava/lang/Object;"⟩, Cond.classLink RJ7 311 "[B", Cond.methodLink RJ7 304 Lib.Math.min.name, Cond.static Lib.Math.min.name, Cond.code Lib.Math.min.name Lib.Math.min.code 2 (some .int), Cond.methodLink RJ7 150 arraycopyName, Cond.native arraycopyName, Cond.static arraycopyName, Cond.initialized "java/lang/System", Cond.methodLink RJ5 83 ⟨"java/lang/AbstractStringBuilder", "isLatin1", "()Z"⟩, Cond.sameMethod "java/lang/AbstractStringBuilder" "java/lang/AbstractStringBuilder" "isLatin1" "()Z", Cond.selects RJ4 ⟨"java/lang/AbstractStringBuilder", "isLatin1", "()Z"⟩ yJ5_isLatin1_aae02, Cond.instanceMethod yJ5_isLatin1_aae02, Cond.code yJ5_isLatin1_aae02 cJ5_isLatin1_aae02 1 (some .boolean), Cond.methodLink RJ5 248 yJ6_getChars_ba4f3, Cond.static yJ6_getChars_ba4f3, Cond.code yJ6_getChars_ba4f3 cJ6_getChars_ba4f3 7 (some .int), Cond.fieldLink RJ6 83 "java/lang/Integer" "DigitOnes" "[B", Cond.fieldLink RJ6 87 "java/lang/Integer" "DigitTens" "[B", Cond.methodLink RJ5 251 yJ2_getChars_46870, Cond.static yJ2_getChars_46870, Cond.code yJ2_getChars_46870 cJ2_getChars_46870 5 (some .int), Cond.fieldLink RJ2 44 "java/lang/StringUTF16" "$assertionsDisabled" "Z", Cond.methodLink RJ2 96 yJ2_checkBoundsBeginEnd_d044e]
def wsL_isSign_r6 : List Cond := [Cond.static yJ2_checkBoundsBeginEnd_d044e, Cond.code yJ2_checkBoundsBeginEnd_d044e cJ2_checkBoundsBeginEnd_d044e 3 none, Cond.methodLink RJ2 48 yJ2_length_9d52b, Cond.static yJ2_length_9d52b, Cond.code yJ2_length_9d52b cJ2_length_9d52b 1 (some .int), Cond.methodLink RJ2 241 yJ0_checkBoundsBeginEnd_23922, Cond.static yJ0_checkBoundsBeginEnd_23922, Cond.initialized RJ0, Cond.code yJ0_checkBoundsBeginEnd_23922 cJ0_checkBoundsBeginEnd_23922 3 none, Cond.fieldLink RJ0 1053 "jdk/internal/util/Preconditions" "SIOOBE_FORMATTER" "Ljava/util/function/BiFunction;", Cond.methodLink RJ0 1062 yJ3_checkFromToIndex_8c36e, Cond.static yJ3_checkFromToIndex_8c36e, Cond.initialized RJ3, Cond.code yJ3_checkFromToIndex_8c36e cJ3_checkFromToIndex_8c36e 4 (some .int), Cond.methodLink RJ2 393 yJ2_getChars_ba4f3, Cond.static yJ2_getChars_ba4f3, Cond.code yJ2_getChars_ba4f3 cJ2_getChars_ba4f3 7 (some .int), Cond.fieldLink RJ2 403 "java/lang/Integer" "DigitOnes" "[B", Cond.fieldLink RJ2 407 "java/lang/Integer" "DigitTens" "[B", Cond.methodLink RJ2 111 yJ2_putChar_b72d1, Cond.static yJ2_putChar_b72d1, Cond.code yJ2_putChar_b72d1 cJ2_putChar_b72d1 3 none, Cond.fieldLink RJ2 59 "java/lang/StringUTF16" "HI_BYTE_SHIFT" "I", Cond.fieldLink RJ2 63 "java/lang/StringUTF16" "LO_BYTE_SHIFT" "I"]
def wsL_isSign_r7 : List Cond := [Cond.methodLink RX3 218 yJ4_append_cf468, Cond.instanceMethod yJ4_append_cf468, Cond.selects RJ4 yJ4_append_cf468 yJ4_append_cf468, Cond.code yJ4_append_cf468 cJ4_append_cf468 2 (some (.object "java/lang/StringBuilder")), Cond.methodLink RJ4 50 yJ5_append_3fe6f, Cond.sameMethod "java/lang/AbstractStringBuilder" "java/lang/AbstractStringBuilder" "append" "(C)Ljava/lang/AbstractStringBuilder;", Cond.instanceMethod yJ5_append_3fe6f, Cond.code yJ5_append_3fe6f cJ5_append_3fe6f 2 (some (.object "java/lang/AbstractStringBuilder")), Cond.methodLink RJ5 191 yJ1_canEncode_fc78d, Cond.static yJ1_canEncode_fc78d, Cond.initialized RJ1, Cond.code yJ1_canEncode_fc78d cJ1_canEncode_fc78d 1 (some .boolean), Cond.methodLink RJ5 195 ⟨"java/lang/AbstractStringBuilder", "inflate", "()V"⟩, Cond.sameMethod "java/lang/AbstractStringBuilder" "java/lang/AbstractStringBuilder" "inflate" "()V", Cond.selects RJ4 ⟨"java/lang/AbstractStringBuilder", "inflate", "()V"⟩ yJ5_inflate_da8c8, Cond.instanceMethod yJ5_inflate_da8c8, Cond.code yJ5_inflate_da8c8 cJ5_inflate_da8c8 2 none, Cond.methodLink RJ5 125 yJ1_inflate_0e8fd, Cond.static yJ1_inflate_0e8fd, Cond.code yJ1_inflate_0e8fd cJ1_inflate_0e8fd 5 none, Cond.methodLink RJ1 240 yJ2_inflate_0e8fd, Cond.static yJ2_inflate_0e8fd, Cond.code yJ2_inflate_0e8fd cJ2_inflate_0e8fd 6 none, Cond.methodLink RJ2 173 yJ2_checkBoundsOffCount_d044e]
def wsL_isSign_r8 : List Cond := [Cond.static yJ2_checkBoundsOffCount_d044e, Cond.code yJ2_checkBoundsOffCount_d044e cJ2_checkBoundsOffCount_d044e 3 none, Cond.methodLink RJ2 419 yJ0_checkBoundsOffCount_cabcc, Cond.static yJ0_checkBoundsOffCount_cabcc, Cond.code yJ0_checkBoundsOffCount_cabcc cJ0_checkBoundsOffCount_cabcc 3 (some .int), Cond.methodLink RJ0 1065 yJ3_checkFromIndexSize_8c36e, Cond.static yJ3_checkFromIndexSize_8c36e, Cond.code yJ3_checkFromIndexSize_8c36e cJ3_checkFromIndexSize_8c36e 4 (some .int), Cond.methodLink RJ5 197 yJ2_putCharSB_b72d1, Cond.static yJ2_putCharSB_b72d1, Cond.code yJ2_putCharSB_b72d1 cJ2_putCharSB_b72d1 3 none, Cond.methodLink RJ2 67 yJ2_checkIndex_2214a, Cond.static yJ2_checkIndex_2214a, Cond.code yJ2_checkIndex_2214a cJ2_checkIndex_2214a 2 none, Cond.methodLink RJ2 414 yJ0_checkIndex_df160, Cond.static yJ0_checkIndex_df160, Cond.code yJ0_checkIndex_df160 cJ0_checkIndex_df160 2 none, Cond.methodLink RJ0 1059 yJ3_checkIndex_8e157, Cond.static yJ3_checkIndex_8e157, Cond.code yJ3_checkIndex_8e157 cJ3_checkIndex_8e157 3 (some .int), Cond.methodLink RX3 221 yX3_appendBackwards, Cond.static yX3_appendBackwards, Cond.code yX3_appendBackwards cX3_appendBackwards 4 none, Cond.methodLink RX3 204 yJ4_length_8abf5]
def wsL_isSign_r9 : List Cond := [Cond.instanceMethod yJ4_length_8abf5, Cond.selects RJ4 yJ4_length_8abf5 yJ4_length_8abf5, Cond.code yJ4_length_8abf5 cJ4_length_8abf5 1 (some .int), Cond.methodLink RJ4 343 yJ5_length_8abf5, Cond.sameMethod "java/lang/AbstractStringBuilder" "java/lang/AbstractStringBuilder" "length" "()I", Cond.instanceMethod yJ5_length_8abf5, Cond.code yJ5_length_8abf5 cJ5_length_8abf5 1 (some .int), Cond.methodLink RX3 209 yJ4_charAt_5068e, Cond.instanceMethod yJ4_charAt_5068e, Cond.selects RJ4 yJ4_charAt_5068e yJ4_charAt_5068e, Cond.code yJ4_charAt_5068e cJ4_charAt_5068e 2 (some .char), Cond.methodLink RJ4 329 yJ5_charAt_5068e, Cond.sameMethod "java/lang/AbstractStringBuilder" "java/lang/AbstractStringBuilder" "charAt" "(I)C", Cond.instanceMethod yJ5_charAt_5068e, Cond.code yJ5_charAt_5068e cJ5_charAt_5068e 5 (some .char), Cond.methodLink RJ5 138 Lib.Math.min.name, Cond.methodLink RJ5 144 yJ0_checkIndex_df160, Cond.methodLink RJ5 148 yJ2_getChar_3b067, Cond.static yJ2_getChar_3b067, Cond.code yJ2_getChar_3b067 cJ2_getChar_3b067 2 (some .char)]
def wsL_isSign : List Cond := .code yL_isSign cL_isSign 8 (some .boolean) :: ((wsL_isSign_r1 ++ (wsL_isSign_r2 ++ (wsL_isSign_r3 ++ (wsL_isSign_r4 ++ (wsL_isSign_r5 ++ (wsL_isSign_r6 ++ (wsL_isSign_r7 ++ (wsL_isSign_r8 ++ wsL_isSign_r9)))))))) ++ wsX30 ++ wsX20 ++ wsJ40 ++ (vx_atS RX3 52 "java/lang/IndexOutOfBoundsException" ["java/lang/RuntimeException", "java/lang/Exception"]).filter goodWord)
def wsL_logsIn_r1 : List Cond := [Cond.methodLink RL 76 yL_of, Cond.static yL_of, Cond.initialized RL, Cond.codeWith yL_of cL_of 4 (some .int) [(0, 6, 7, 16), (0, 6, 11, 19)], Cond.classLink RL 16 "java/lang/IndexOutOfBoundsException", Cond.classLink RL 19 "java/lang/IllegalArgumentException", Cond.constant RL 18 (-1000001), Cond.constant RL 21 (-1000002), Cond.methodLink RL 57 yX3_of, Cond.instanceMethod yX3_of, Cond.selects RX3 yX3_of yX3_of, Cond.initialized RX3, Cond.code yX3_of cX3_of 3 (some .int), Cond.classLink RX3 48 "java/lang/IndexOutOfBoundsException", Cond.initialized "java/lang/IndexOutOfBoundsException", Cond.classLink RX3 55 "java/lang/IllegalArgumentException", Cond.initialized "java/lang/IllegalArgumentException", Cond.fieldLink RX3 10 "VouchGate" "desk" "LVouchGate$Desk;", Cond.fieldLink RX3 40 "VouchGate" "now" "I", Cond.fieldLink RX3 19 "VouchGate" "ties" "LVouchGate$Ties;", Cond.methodLink RX3 44 yX3_isPerson, Cond.static yX3_isPerson, Cond.code yX3_isPerson cX3_isPerson 1 (some .boolean), Cond.methodLink RX3 60 yX0_isInSession]
def wsL_logsIn_r2 : List Cond := [Cond.instanceMethod yX0_isInSession, Cond.selects RX0 yX0_isInSession yX0_isInSession, Cond.initialized RX0, Cond.code yX0_isInSession cX0_isInSession 3 (some .boolean), Cond.fieldLink RX0 21 "VouchGate$Desk" "sessionEnds" "[I", Cond.methodLink RX3 170 yX3_asNumber, Cond.static yX3_asNumber, Cond.code yX3_asNumber cX3_asNumber 1 (some .int), Cond.methodLink RX3 174 yX2_isTrusted, Cond.instanceMethod yX2_isTrusted, Cond.selects RX2 yX2_isTrusted yX2_isTrusted, Cond.initialized RX2, Cond.code yX2_isTrusted cX2_isTrusted 2 (some .boolean), Cond.methodLink RX2 48 yX2_stepsToStaff, Cond.instanceMethod yX2_stepsToStaff, Cond.selects RX2 yX2_stepsToStaff yX2_stepsToStaff, Cond.code yX2_stepsToStaff cX2_stepsToStaff 4 (some .int), Cond.fieldLink RX2 9 "VouchGate$Ties" "hosts" "[I", Cond.static yX3_isGuest, Cond.code yX3_isGuest cX3_isGuest 1 (some .boolean), Cond.methodLink RX3 150 yX2_isTainted, Cond.instanceMethod yX2_isTainted, Cond.selects RX2 yX2_isTainted yX2_isTainted, Cond.code yX2_isTainted cX2_isTainted 2 (some .boolean)]
def wsL_logsIn_r3 : List Cond := [Cond.fieldLink RX2 31 "VouchGate$Ties" "lost" "[Z", Cond.methodLink RX2 55 yX2_standsOnBadVouching, Cond.instanceMethod yX2_standsOnBadVouching, Cond.selects RX2 yX2_standsOnBadVouching yX2_standsOnBadVouching, Cond.code yX2_standsOnBadVouching cX2_standsOnBadVouching 4 (some .boolean), Cond.fieldLink RX2 24 "VouchGate$Ties" "bad" "[Z", Cond.methodLink RX3 144 yX2_roomsOf, Cond.instanceMethod yX2_roomsOf, Cond.selects RX2 yX2_roomsOf yX2_roomsOf, Cond.code yX2_roomsOf cX2_roomsOf 5 (some .int), Cond.fieldLink RX2 15 "VouchGate$Ties" "rooms" "[I", Cond.methodLink RX2 52 yX2_isTrusted, Cond.methodLink RX3 109 yX2_hostOf, Cond.instanceMethod yX2_hostOf, Cond.selects RX2 yX2_hostOf yX2_hostOf, Cond.code yX2_hostOf cX2_hostOf 2 (some .int), Cond.methodLink RX3 177 yX0_failuresOf, Cond.instanceMethod yX0_failuresOf, Cond.selects RX0 yX0_failuresOf yX0_failuresOf, Cond.code yX0_failuresOf cX0_failuresOf 2 (some .int), Cond.fieldLink RX0 15 "VouchGate$Desk" "failures" "[I", Cond.methodLink RX3 180 yX0_sessionEndOf, Cond.instanceMethod yX0_sessionEndOf, Cond.selects RX0 yX0_sessionEndOf yX0_sessionEndOf]
def wsL_logsIn_r4 : List Cond := [Cond.code yX0_sessionEndOf cX0_sessionEndOf 2 (some .int), Cond.methodLink RX3 139 yX2_badgeOf, Cond.instanceMethod yX2_badgeOf, Cond.selects RX2 yX2_badgeOf yX2_badgeOf, Cond.code yX2_badgeOf cX2_badgeOf 2 (some .int), Cond.fieldLink RX2 28 "VouchGate$Ties" "badges" "[I", Cond.methodLink RL 96 yL_low, Cond.static yL_low, Cond.code yL_low cL_low 2 (some .int), Cond.constant RL 9 (2147483647), Cond.methodLink RL 99 yL_login, Cond.static yL_login, Cond.codeWith yL_login cL_login 5 (some .int) [(0, 7, 8, 16), (0, 7, 13, 19)], Cond.methodLink RL 25 yX3_login, Cond.instanceMethod yX3_login, Cond.selects RX3 yX3_login yX3_login, Cond.code yX3_login cX3_login 4 (some .int), Cond.methodLink RX3 75 yX0_tryLogin, Cond.instanceMethod yX0_tryLogin, Cond.selects RX0 yX0_tryLogin yX0_tryLogin, Cond.code yX0_tryLogin cX0_tryLogin 5 (some .int), Cond.fieldLink RX0 18 "VouchGate$Desk" "restEnds" "[I", Cond.fieldLink RX0 9 "VouchGate$Desk" "words" "[I", Cond.methodLink RX0 24 yX0_countFailure]
def wsL_logsIn_r5 : List Cond := [Cond.instanceMethod yX0_countFailure, Cond.selects RX0 yX0_countFailure yX0_countFailure, Cond.code yX0_countFailure cX0_countFailure 3 none, Cond.methodLink RX0 28 yX0_codeOf, Cond.static yX0_codeOf, Cond.code yX0_codeOf cX0_codeOf 2 (some .int)]
def wsL_logsIn : List Cond := .code yL_logsIn cL_logsIn 9 (some .boolean) :: ((wsL_logsIn_r1 ++ (wsL_logsIn_r2 ++ (wsL_logsIn_r3 ++ (wsL_logsIn_r4 ++ wsL_logsIn_r5)))) ++ wsX30 ++ wsX00 ++ wsX20 ++ (vx_atS RX3 52 "java/lang/IndexOutOfBoundsException" ["java/lang/RuntimeException", "java/lang/Exception"]).filter goodWord ++ (vx_atS RX3 59 "java/lang/IllegalArgumentException" ["java/lang/RuntimeException", "java/lang/Exception"]).filter goodWord)
def wsL_vouches_r1 : List Cond := [Cond.constant RL 21 (-1000002), Cond.constant RL 24 (-1000003), Cond.methodLink RL 96 yL_low, Cond.static yL_low, Cond.initialized RL, Cond.code yL_low cL_low 2 (some .int), Cond.constant RL 9 (2147483647), Cond.methodLink RL 76 yL_of, Cond.static yL_of, Cond.codeWith yL_of cL_of 4 (some .int) [(0, 6, 7, 16), (0, 6, 11, 19)], Cond.classLink RL 16 "java/lang/IndexOutOfBoundsException", Cond.classLink RL 19 "java/lang/IllegalArgumentException", Cond.constant RL 18 (-1000001), Cond.methodLink RL 57 yX3_of, Cond.instanceMethod yX3_of, Cond.selects RX3 yX3_of yX3_of, Cond.initialized RX3, Cond.code yX3_of cX3_of 3 (some .int), Cond.classLink RX3 48 "java/lang/IndexOutOfBoundsException", Cond.initialized "java/lang/IndexOutOfBoundsException", Cond.classLink RX3 55 "java/lang/IllegalArgumentException", Cond.initialized "java/lang/IllegalArgumentException", Cond.fieldLink RX3 10 "VouchGate" "desk" "LVouchGate$Desk;", Cond.fieldLink RX3 40 "VouchGate" "now" "I"]
def wsL_vouches_r2 : List Cond := [Cond.fieldLink RX3 19 "VouchGate" "ties" "LVouchGate$Ties;", Cond.methodLink RX3 44 yX3_isPerson, Cond.static yX3_isPerson, Cond.code yX3_isPerson cX3_isPerson 1 (some .boolean), Cond.methodLink RX3 60 yX0_isInSession, Cond.instanceMethod yX0_isInSession, Cond.selects RX0 yX0_isInSession yX0_isInSession, Cond.initialized RX0, Cond.code yX0_isInSession cX0_isInSession 3 (some .boolean), Cond.fieldLink RX0 21 "VouchGate$Desk" "sessionEnds" "[I", Cond.methodLink RX3 170 yX3_asNumber, Cond.static yX3_asNumber, Cond.code yX3_asNumber cX3_asNumber 1 (some .int), Cond.methodLink RX3 174 yX2_isTrusted, Cond.instanceMethod yX2_isTrusted, Cond.selects RX2 yX2_isTrusted yX2_isTrusted, Cond.initialized RX2, Cond.code yX2_isTrusted cX2_isTrusted 2 (some .boolean), Cond.methodLink RX2 48 yX2_stepsToStaff, Cond.instanceMethod yX2_stepsToStaff, Cond.selects RX2 yX2_stepsToStaff yX2_stepsToStaff, Cond.code yX2_stepsToStaff cX2_stepsToStaff 4 (some .int), Cond.fieldLink RX2 9 "VouchGate$Ties" "hosts" "[I", Cond.static yX3_isGuest]
def wsL_vouches_r3 : List Cond := [Cond.code yX3_isGuest cX3_isGuest 1 (some .boolean), Cond.methodLink RX3 150 yX2_isTainted, Cond.instanceMethod yX2_isTainted, Cond.selects RX2 yX2_isTainted yX2_isTainted, Cond.code yX2_isTainted cX2_isTainted 2 (some .boolean), Cond.fieldLink RX2 31 "VouchGate$Ties" "lost" "[Z", Cond.methodLink RX2 55 yX2_standsOnBadVouching, Cond.instanceMethod yX2_standsOnBadVouching, Cond.selects RX2 yX2_standsOnBadVouching yX2_standsOnBadVouching, Cond.code yX2_standsOnBadVouching cX2_standsOnBadVouching 4 (some .boolean), Cond.fieldLink RX2 24 "VouchGate$Ties" "bad" "[Z", Cond.methodLink RX3 144 yX2_roomsOf, Cond.instanceMethod yX2_roomsOf, Cond.selects RX2 yX2_roomsOf yX2_roomsOf, Cond.code yX2_roomsOf cX2_roomsOf 5 (some .int), Cond.fieldLink RX2 15 "VouchGate$Ties" "rooms" "[I", Cond.methodLink RX2 52 yX2_isTrusted, Cond.methodLink RX3 109 yX2_hostOf, Cond.instanceMethod yX2_hostOf, Cond.selects RX2 yX2_hostOf yX2_hostOf, Cond.code yX2_hostOf cX2_hostOf 2 (some .int), Cond.methodLink RX3 177 yX0_failuresOf, Cond.instanceMethod yX0_failuresOf, Cond.selects RX0 yX0_failuresOf yX0_failuresOf]
def wsL_vouches_r4 : List Cond := [Cond.code yX0_failuresOf cX0_failuresOf 2 (some .int), Cond.fieldLink RX0 15 "VouchGate$Desk" "failures" "[I", Cond.methodLink RX3 180 yX0_sessionEndOf, Cond.instanceMethod yX0_sessionEndOf, Cond.selects RX0 yX0_sessionEndOf yX0_sessionEndOf, Cond.code yX0_sessionEndOf cX0_sessionEndOf 2 (some .int), Cond.methodLink RX3 139 yX2_badgeOf, Cond.instanceMethod yX2_badgeOf, Cond.selects RX2 yX2_badgeOf yX2_badgeOf, Cond.code yX2_badgeOf cX2_badgeOf 2 (some .int), Cond.fieldLink RX2 28 "VouchGate$Ties" "badges" "[I", Cond.methodLink RL 102 yL_vouch, Cond.static yL_vouch, Cond.codeWith yL_vouch cL_vouch 5 (some .int) [(0, 7, 8, 16), (0, 7, 13, 19), (0, 7, 18, 22)], Cond.classLink RL 22 "java/lang/IllegalStateException", Cond.methodLink RL 33 yX3_vouch, Cond.instanceMethod yX3_vouch, Cond.selects RX3 yX3_vouch yX3_vouch, Cond.code yX3_vouch cX3_vouch 4 (some .int), Cond.classLink RX3 64 "java/lang/IllegalStateException", Cond.initialized "java/lang/IllegalStateException", Cond.fieldLink RX3 29 "VouchGate" "log" "LVouchGate$Log;", Cond.methodLink RX3 81 yX3_isGuest, Cond.methodLink RX3 88 yX3_mayAct]
def wsL_vouches_r5 : List Cond := [Cond.instanceMethod yX3_mayAct, Cond.selects RX3 yX3_mayAct yX3_mayAct, Cond.code yX3_mayAct cX3_mayAct 2 (some .boolean), Cond.methodLink RX3 91 yX1_countVouchings, Cond.instanceMethod yX1_countVouchings, Cond.selects RX1 yX1_countVouchings yX1_countVouchings, Cond.initialized RX1, Cond.code yX1_countVouchings cX1_countVouchings 1 (some .int), Cond.fieldLink RX1 28 "VouchGate$Log" "vouchings" "I", Cond.methodLink RX3 97 yX2_tie, Cond.instanceMethod yX2_tie, Cond.selects RX2 yX2_tie yX2_tie, Cond.code yX2_tie cX2_tie 4 none, Cond.fieldLink RX2 18 "VouchGate$Ties" "minutes" "[I", Cond.fieldLink RX2 21 "VouchGate$Ties" "hostBadges" "[I", Cond.methodLink RX3 101 yX2_setRooms, Cond.instanceMethod yX2_setRooms, Cond.selects RX2 yX2_setRooms yX2_setRooms, Cond.code yX2_setRooms cX2_setRooms 3 none, Cond.methodLink RX3 104 yX1_addVouching, Cond.instanceMethod yX1_addVouching, Cond.selects RX1 yX1_addVouching yX1_addVouching, Cond.code yX1_addVouching cX1_addVouching 4 none, Cond.methodLink RX1 31 yX1_add]
def wsL_vouches_r6 : List Cond := [Cond.instanceMethod yX1_add, Cond.selects RX1 yX1_add yX1_add, Cond.code yX1_add cX1_add 5 none, Cond.fieldLink RX1 24 "VouchGate$Log" "size" "I", Cond.fieldLink RX1 9 "VouchGate$Log" "kinds" "[I", Cond.fieldLink RX1 15 "VouchGate$Log" "persons" "[I", Cond.fieldLink RX1 18 "VouchGate$Log" "guests" "[I", Cond.fieldLink RX1 21 "VouchGate$Log" "minutes" "[I", Cond.methodLink RL 81 yL_chain, Cond.static yL_chain, Cond.codeWith yL_chain cL_chain 3 (some .int) [(0, 5, 6, 16)], Cond.methodLink RL 63 yX3_chain, Cond.instanceMethod yX3_chain, Cond.selects RX3 yX3_chain yX3_chain, Cond.code yX3_chain cX3_chain 2 (some .int), Cond.methodLink RX3 189 yX2_stepsToStaff]
def wsL_vouches : List Cond := .code yL_vouches cL_vouches 8 (some .boolean) :: ((wsL_vouches_r1 ++ (wsL_vouches_r2 ++ (wsL_vouches_r3 ++ (wsL_vouches_r4 ++ (wsL_vouches_r5 ++ wsL_vouches_r6))))) ++ wsX30 ++ wsX00 ++ wsX20 ++ wsX10 ++ (vx_atS RX3 52 "java/lang/IndexOutOfBoundsException" ["java/lang/RuntimeException", "java/lang/Exception"]).filter goodWord ++ (vx_atS RX3 59 "java/lang/IllegalArgumentException" ["java/lang/RuntimeException", "java/lang/Exception"]).filter goodWord ++ (vx_atS RX3 68 "java/lang/IllegalStateException" ["java/lang/RuntimeException", "java/lang/Exception"]).filter goodWord)
def wsL_loses_r1 : List Cond := [Cond.constant RL 21 (-1000002), Cond.methodLink RL 96 yL_low, Cond.static yL_low, Cond.initialized RL, Cond.code yL_low cL_low 2 (some .int), Cond.constant RL 9 (2147483647), Cond.methodLink RL 104 yL_lose, Cond.static yL_lose, Cond.codeWith yL_lose cL_lose 4 (some .int) [(0, 6, 7, 16), (0, 6, 11, 19)], Cond.classLink RL 16 "java/lang/IndexOutOfBoundsException", Cond.classLink RL 19 "java/lang/IllegalArgumentException", Cond.constant RL 18 (-1000001), Cond.methodLink RL 39 yX3_lose, Cond.instanceMethod yX3_lose, Cond.selects RX3 yX3_lose yX3_lose, Cond.initialized RX3, Cond.code yX3_lose cX3_lose 3 (some .int), Cond.classLink RX3 48 "java/lang/IndexOutOfBoundsException", Cond.initialized "java/lang/IndexOutOfBoundsException", Cond.classLink RX3 55 "java/lang/IllegalArgumentException", Cond.initialized "java/lang/IllegalArgumentException", Cond.fieldLink RX3 40 "VouchGate" "now" "I", Cond.fieldLink RX3 19 "VouchGate" "ties" "LVouchGate$Ties;", Cond.fieldLink RX3 29 "VouchGate" "log" "LVouchGate$Log;"]
def wsL_loses_r2 : List Cond := [Cond.methodLink RX3 44 yX3_isPerson, Cond.static yX3_isPerson, Cond.code yX3_isPerson cX3_isPerson 1 (some .boolean), Cond.methodLink RX3 124 yX2_markLost, Cond.instanceMethod yX2_markLost, Cond.selects RX2 yX2_markLost yX2_markLost, Cond.initialized RX2, Cond.code yX2_markLost cX2_markLost 4 none, Cond.fieldLink RX2 31 "VouchGate$Ties" "lost" "[Z", Cond.fieldLink RX2 9 "VouchGate$Ties" "hosts" "[I", Cond.fieldLink RX2 21 "VouchGate$Ties" "hostBadges" "[I", Cond.fieldLink RX2 28 "VouchGate$Ties" "badges" "[I", Cond.fieldLink RX2 18 "VouchGate$Ties" "minutes" "[I", Cond.fieldLink RX2 24 "VouchGate$Ties" "bad" "[Z", Cond.methodLink RX3 127 yX1_addLoss, Cond.instanceMethod yX1_addLoss, Cond.selects RX1 yX1_addLoss yX1_addLoss, Cond.initialized RX1, Cond.code yX1_addLoss cX1_addLoss 3 none, Cond.methodLink RX1 31 yX1_add, Cond.instanceMethod yX1_add, Cond.selects RX1 yX1_add yX1_add, Cond.code yX1_add cX1_add 5 none, Cond.fieldLink RX1 24 "VouchGate$Log" "size" "I"]
def wsL_loses_r3 : List Cond := [Cond.fieldLink RX1 9 "VouchGate$Log" "kinds" "[I", Cond.fieldLink RX1 15 "VouchGate$Log" "persons" "[I", Cond.fieldLink RX1 18 "VouchGate$Log" "guests" "[I", Cond.fieldLink RX1 21 "VouchGate$Log" "minutes" "[I", Cond.methodLink RX3 130 yX2_countTainted, Cond.instanceMethod yX2_countTainted, Cond.selects RX2 yX2_countTainted yX2_countTainted, Cond.code yX2_countTainted cX2_countTainted 3 (some .int), Cond.methodLink RX2 58 yX2_isTainted, Cond.instanceMethod yX2_isTainted, Cond.selects RX2 yX2_isTainted yX2_isTainted, Cond.code yX2_isTainted cX2_isTainted 2 (some .boolean), Cond.methodLink RX2 55 yX2_standsOnBadVouching, Cond.instanceMethod yX2_standsOnBadVouching, Cond.selects RX2 yX2_standsOnBadVouching yX2_standsOnBadVouching, Cond.code yX2_standsOnBadVouching cX2_standsOnBadVouching 4 (some .boolean), Cond.static yX3_isGuest, Cond.code yX3_isGuest cX3_isGuest 1 (some .boolean), Cond.methodLink RL 76 yL_of, Cond.static yL_of, Cond.codeWith yL_of cL_of 4 (some .int) [(0, 6, 7, 16), (0, 6, 11, 19)], Cond.methodLink RL 57 yX3_of, Cond.instanceMethod yX3_of, Cond.selects RX3 yX3_of yX3_of]
def wsL_loses_r4 : List Cond := [Cond.code yX3_of cX3_of 3 (some .int), Cond.fieldLink RX3 10 "VouchGate" "desk" "LVouchGate$Desk;", Cond.methodLink RX3 60 yX0_isInSession, Cond.instanceMethod yX0_isInSession, Cond.selects RX0 yX0_isInSession yX0_isInSession, Cond.initialized RX0, Cond.code yX0_isInSession cX0_isInSession 3 (some .boolean), Cond.fieldLink RX0 21 "VouchGate$Desk" "sessionEnds" "[I", Cond.methodLink RX3 170 yX3_asNumber, Cond.static yX3_asNumber, Cond.code yX3_asNumber cX3_asNumber 1 (some .int), Cond.methodLink RX3 174 yX2_isTrusted, Cond.instanceMethod yX2_isTrusted, Cond.selects RX2 yX2_isTrusted yX2_isTrusted, Cond.code yX2_isTrusted cX2_isTrusted 2 (some .boolean), Cond.methodLink RX2 48 yX2_stepsToStaff, Cond.instanceMethod yX2_stepsToStaff, Cond.selects RX2 yX2_stepsToStaff yX2_stepsToStaff, Cond.code yX2_stepsToStaff cX2_stepsToStaff 4 (some .int), Cond.methodLink RX3 150 yX2_isTainted, Cond.methodLink RX3 144 yX2_roomsOf, Cond.instanceMethod yX2_roomsOf, Cond.selects RX2 yX2_roomsOf yX2_roomsOf, Cond.code yX2_roomsOf cX2_roomsOf 5 (some .int)]
def wsL_loses_r5 : List Cond := [Cond.fieldLink RX2 15 "VouchGate$Ties" "rooms" "[I", Cond.methodLink RX2 52 yX2_isTrusted, Cond.methodLink RX3 109 yX2_hostOf, Cond.instanceMethod yX2_hostOf, Cond.selects RX2 yX2_hostOf yX2_hostOf, Cond.code yX2_hostOf cX2_hostOf 2 (some .int), Cond.methodLink RX3 177 yX0_failuresOf, Cond.instanceMethod yX0_failuresOf, Cond.selects RX0 yX0_failuresOf yX0_failuresOf, Cond.code yX0_failuresOf cX0_failuresOf 2 (some .int), Cond.fieldLink RX0 15 "VouchGate$Desk" "failures" "[I", Cond.methodLink RX3 180 yX0_sessionEndOf, Cond.instanceMethod yX0_sessionEndOf, Cond.selects RX0 yX0_sessionEndOf yX0_sessionEndOf, Cond.code yX0_sessionEndOf cX0_sessionEndOf 2 (some .int), Cond.methodLink RX3 139 yX2_badgeOf, Cond.instanceMethod yX2_badgeOf, Cond.selects RX2 yX2_badgeOf yX2_badgeOf, Cond.code yX2_badgeOf cX2_badgeOf 2 (some .int)]
def wsL_loses : List Cond := .code yL_loses cL_loses 8 (some .boolean) :: ((wsL_loses_r1 ++ (wsL_loses_r2 ++ (wsL_loses_r3 ++ (wsL_loses_r4 ++ wsL_loses_r5)))) ++ wsX30 ++ wsX20 ++ wsX10 ++ wsX00 ++ (vx_atS RX3 52 "java/lang/IndexOutOfBoundsException" ["java/lang/RuntimeException", "java/lang/Exception"]).filter goodWord ++ (vx_atS RX3 59 "java/lang/IllegalArgumentException" ["java/lang/RuntimeException", "java/lang/Exception"]).filter goodWord)
def wsL_acts_r1 : List Cond := [Cond.constant RL 24 (-1000003), Cond.methodLink RL 96 yL_low, Cond.static yL_low, Cond.initialized RL, Cond.code yL_low cL_low 2 (some .int), Cond.constant RL 9 (2147483647), Cond.methodLink RL 106 yL_logsIn, Cond.static yL_logsIn, Cond.code yL_logsIn cL_logsIn 9 (some .boolean), Cond.methodLink RL 76 yL_of, Cond.static yL_of, Cond.codeWith yL_of cL_of 4 (some .int) [(0, 6, 7, 16), (0, 6, 11, 19)], Cond.classLink RL 16 "java/lang/IndexOutOfBoundsException", Cond.classLink RL 19 "java/lang/IllegalArgumentException", Cond.constant RL 18 (-1000001), Cond.constant RL 21 (-1000002), Cond.methodLink RL 57 yX3_of, Cond.instanceMethod yX3_of, Cond.selects RX3 yX3_of yX3_of, Cond.initialized RX3, Cond.code yX3_of cX3_of 3 (some .int), Cond.classLink RX3 48 "java/lang/IndexOutOfBoundsException", Cond.initialized "java/lang/IndexOutOfBoundsException", Cond.classLink RX3 55 "java/lang/IllegalArgumentException"]
def wsL_acts_r2 : List Cond := [Cond.initialized "java/lang/IllegalArgumentException", Cond.fieldLink RX3 10 "VouchGate" "desk" "LVouchGate$Desk;", Cond.fieldLink RX3 40 "VouchGate" "now" "I", Cond.fieldLink RX3 19 "VouchGate" "ties" "LVouchGate$Ties;", Cond.methodLink RX3 44 yX3_isPerson, Cond.static yX3_isPerson, Cond.code yX3_isPerson cX3_isPerson 1 (some .boolean), Cond.methodLink RX3 60 yX0_isInSession, Cond.instanceMethod yX0_isInSession, Cond.selects RX0 yX0_isInSession yX0_isInSession, Cond.initialized RX0, Cond.code yX0_isInSession cX0_isInSession 3 (some .boolean), Cond.fieldLink RX0 21 "VouchGate$Desk" "sessionEnds" "[I", Cond.methodLink RX3 170 yX3_asNumber, Cond.static yX3_asNumber, Cond.code yX3_asNumber cX3_asNumber 1 (some .int), Cond.methodLink RX3 174 yX2_isTrusted, Cond.instanceMethod yX2_isTrusted, Cond.selects RX2 yX2_isTrusted yX2_isTrusted, Cond.initialized RX2, Cond.code yX2_isTrusted cX2_isTrusted 2 (some .boolean), Cond.methodLink RX2 48 yX2_stepsToStaff, Cond.instanceMethod yX2_stepsToStaff, Cond.selects RX2 yX2_stepsToStaff yX2_stepsToStaff]
def wsL_acts_r3 : List Cond := [Cond.code yX2_stepsToStaff cX2_stepsToStaff 4 (some .int), Cond.fieldLink RX2 9 "VouchGate$Ties" "hosts" "[I", Cond.static yX3_isGuest, Cond.code yX3_isGuest cX3_isGuest 1 (some .boolean), Cond.methodLink RX3 150 yX2_isTainted, Cond.instanceMethod yX2_isTainted, Cond.selects RX2 yX2_isTainted yX2_isTainted, Cond.code yX2_isTainted cX2_isTainted 2 (some .boolean), Cond.fieldLink RX2 31 "VouchGate$Ties" "lost" "[Z", Cond.methodLink RX2 55 yX2_standsOnBadVouching, Cond.instanceMethod yX2_standsOnBadVouching, Cond.selects RX2 yX2_standsOnBadVouching yX2_standsOnBadVouching, Cond.code yX2_standsOnBadVouching cX2_standsOnBadVouching 4 (some .boolean), Cond.fieldLink RX2 24 "VouchGate$Ties" "bad" "[Z", Cond.methodLink RX3 144 yX2_roomsOf, Cond.instanceMethod yX2_roomsOf, Cond.selects RX2 yX2_roomsOf yX2_roomsOf, Cond.code yX2_roomsOf cX2_roomsOf 5 (some .int), Cond.fieldLink RX2 15 "VouchGate$Ties" "rooms" "[I", Cond.methodLink RX2 52 yX2_isTrusted, Cond.methodLink RX3 109 yX2_hostOf, Cond.instanceMethod yX2_hostOf, Cond.selects RX2 yX2_hostOf yX2_hostOf, Cond.code yX2_hostOf cX2_hostOf 2 (some .int)]
def wsL_acts_r4 : List Cond := [Cond.methodLink RX3 177 yX0_failuresOf, Cond.instanceMethod yX0_failuresOf, Cond.selects RX0 yX0_failuresOf yX0_failuresOf, Cond.code yX0_failuresOf cX0_failuresOf 2 (some .int), Cond.fieldLink RX0 15 "VouchGate$Desk" "failures" "[I", Cond.methodLink RX3 180 yX0_sessionEndOf, Cond.instanceMethod yX0_sessionEndOf, Cond.selects RX0 yX0_sessionEndOf yX0_sessionEndOf, Cond.code yX0_sessionEndOf cX0_sessionEndOf 2 (some .int), Cond.methodLink RX3 139 yX2_badgeOf, Cond.instanceMethod yX2_badgeOf, Cond.selects RX2 yX2_badgeOf yX2_badgeOf, Cond.code yX2_badgeOf cX2_badgeOf 2 (some .int), Cond.fieldLink RX2 28 "VouchGate$Ties" "badges" "[I", Cond.methodLink RL 99 yL_login, Cond.static yL_login, Cond.codeWith yL_login cL_login 5 (some .int) [(0, 7, 8, 16), (0, 7, 13, 19)], Cond.methodLink RL 25 yX3_login, Cond.instanceMethod yX3_login, Cond.selects RX3 yX3_login yX3_login, Cond.code yX3_login cX3_login 4 (some .int), Cond.methodLink RX3 75 yX0_tryLogin, Cond.instanceMethod yX0_tryLogin, Cond.selects RX0 yX0_tryLogin yX0_tryLogin]
def wsL_acts_r5 : List Cond := [Cond.code yX0_tryLogin cX0_tryLogin 5 (some .int), Cond.fieldLink RX0 18 "VouchGate$Desk" "restEnds" "[I", Cond.fieldLink RX0 9 "VouchGate$Desk" "words" "[I", Cond.methodLink RX0 24 yX0_countFailure, Cond.instanceMethod yX0_countFailure, Cond.selects RX0 yX0_countFailure yX0_countFailure, Cond.code yX0_countFailure cX0_countFailure 3 none, Cond.methodLink RX0 28 yX0_codeOf, Cond.static yX0_codeOf, Cond.code yX0_codeOf cX0_codeOf 2 (some .int), Cond.methodLink RL 110 yL_vouches, Cond.static yL_vouches, Cond.code yL_vouches cL_vouches 8 (some .boolean), Cond.methodLink RL 102 yL_vouch, Cond.static yL_vouch, Cond.codeWith yL_vouch cL_vouch 5 (some .int) [(0, 7, 8, 16), (0, 7, 13, 19), (0, 7, 18, 22)], Cond.classLink RL 22 "java/lang/IllegalStateException", Cond.methodLink RL 33 yX3_vouch, Cond.instanceMethod yX3_vouch, Cond.selects RX3 yX3_vouch yX3_vouch, Cond.code yX3_vouch cX3_vouch 4 (some .int), Cond.classLink RX3 64 "java/lang/IllegalStateException", Cond.initialized "java/lang/IllegalStateException", Cond.fieldLink RX3 29 "VouchGate" "log" "LVouchGate$Log;"]
def wsL_acts_r6 : List Cond := [Cond.methodLink RX3 81 yX3_isGuest, Cond.methodLink RX3 88 yX3_mayAct, Cond.instanceMethod yX3_mayAct, Cond.selects RX3 yX3_mayAct yX3_mayAct, Cond.code yX3_mayAct cX3_mayAct 2 (some .boolean), Cond.methodLink RX3 91 yX1_countVouchings, Cond.instanceMethod yX1_countVouchings, Cond.selects RX1 yX1_countVouchings yX1_countVouchings, Cond.initialized RX1, Cond.code yX1_countVouchings cX1_countVouchings 1 (some .int), Cond.fieldLink RX1 28 "VouchGate$Log" "vouchings" "I", Cond.methodLink RX3 97 yX2_tie, Cond.instanceMethod yX2_tie, Cond.selects RX2 yX2_tie yX2_tie, Cond.code yX2_tie cX2_tie 4 none, Cond.fieldLink RX2 18 "VouchGate$Ties" "minutes" "[I", Cond.fieldLink RX2 21 "VouchGate$Ties" "hostBadges" "[I", Cond.methodLink RX3 101 yX2_setRooms, Cond.instanceMethod yX2_setRooms, Cond.selects RX2 yX2_setRooms yX2_setRooms, Cond.code yX2_setRooms cX2_setRooms 3 none, Cond.methodLink RX3 104 yX1_addVouching, Cond.instanceMethod yX1_addVouching, Cond.selects RX1 yX1_addVouching yX1_addVouching]
def wsL_acts_r7 : List Cond := [Cond.code yX1_addVouching cX1_addVouching 4 none, Cond.methodLink RX1 31 yX1_add, Cond.instanceMethod yX1_add, Cond.selects RX1 yX1_add yX1_add, Cond.code yX1_add cX1_add 5 none, Cond.fieldLink RX1 24 "VouchGate$Log" "size" "I", Cond.fieldLink RX1 9 "VouchGate$Log" "kinds" "[I", Cond.fieldLink RX1 15 "VouchGate$Log" "persons" "[I", Cond.fieldLink RX1 18 "VouchGate$Log" "guests" "[I", Cond.fieldLink RX1 21 "VouchGate$Log" "minutes" "[I", Cond.methodLink RL 81 yL_chain, Cond.static yL_chain, Cond.codeWith yL_chain cL_chain 3 (some .int) [(0, 5, 6, 16)], Cond.methodLink RL 63 yX3_chain, Cond.instanceMethod yX3_chain, Cond.selects RX3 yX3_chain yX3_chain, Cond.code yX3_chain cX3_chain 2 (some .int), Cond.methodLink RX3 189 yX2_stepsToStaff, Cond.methodLink RL 114 yL_pass, Cond.static yL_pass, Cond.codeWith yL_pass cL_pass 3 (some .int) [(0, 5, 6, 19)], Cond.methodLink RL 29 yX3_pass, Cond.instanceMethod yX3_pass, Cond.selects RX3 yX3_pass yX3_pass]
def wsL_acts_r8 : List Cond := [Cond.code yX3_pass cX3_pass 2 (some .int), Cond.methodLink RL 116 yL_loses, Cond.static yL_loses, Cond.code yL_loses cL_loses 8 (some .boolean), Cond.methodLink RL 104 yL_lose, Cond.static yL_lose, Cond.codeWith yL_lose cL_lose 4 (some .int) [(0, 6, 7, 16), (0, 6, 11, 19)], Cond.methodLink RL 39 yX3_lose, Cond.instanceMethod yX3_lose, Cond.selects RX3 yX3_lose yX3_lose, Cond.code yX3_lose cX3_lose 3 (some .int), Cond.methodLink RX3 124 yX2_markLost, Cond.instanceMethod yX2_markLost, Cond.selects RX2 yX2_markLost yX2_markLost, Cond.code yX2_markLost cX2_markLost 4 none, Cond.methodLink RX3 127 yX1_addLoss, Cond.instanceMethod yX1_addLoss, Cond.selects RX1 yX1_addLoss yX1_addLoss, Cond.code yX1_addLoss cX1_addLoss 3 none, Cond.methodLink RX3 130 yX2_countTainted, Cond.instanceMethod yX2_countTainted, Cond.selects RX2 yX2_countTainted yX2_countTainted, Cond.code yX2_countTainted cX2_countTainted 3 (some .int), Cond.methodLink RX2 58 yX2_isTainted]
def wsL_acts_r9 : List Cond := [Cond.methodLink RL 120 yL_issue, Cond.static yL_issue, Cond.codeWith yL_issue cL_issue 3 (some .int) [(0, 5, 6, 16)], Cond.methodLink RL 43 yX3_issue, Cond.instanceMethod yX3_issue, Cond.selects RX3 yX3_issue yX3_issue, Cond.code yX3_issue cX3_issue 2 (some .int), Cond.methodLink RX3 133 yX2_renewBadge, Cond.instanceMethod yX2_renewBadge, Cond.selects RX2 yX2_renewBadge yX2_renewBadge, Cond.code yX2_renewBadge cX2_renewBadge 2 none, Cond.fieldLink RX2 37 "VouchGate$Ties" "nextBadge" "I", Cond.methodLink RX3 136 yX1_addIssue, Cond.instanceMethod yX1_addIssue, Cond.selects RX1 yX1_addIssue yX1_addIssue, Cond.code yX1_addIssue cX1_addIssue 2 none, Cond.methodLink RL 122 yL_isSign, Cond.static yL_isSign, Cond.code yL_isSign cL_isSign 8 (some .boolean), Cond.methodLink RL 94 yL_sign, Cond.static yL_sign, Cond.codeWith yL_sign cL_sign 4 (some .int) [(0, 6, 7, 16)], Cond.methodLink RL 72 yX3_sign, Cond.instanceMethod yX3_sign]
def wsL_acts_r10 : List Cond := [Cond.selects RX3 yX3_sign yX3_sign, Cond.code yX3_sign cX3_sign 4 (some .char), Cond.methodLink RX3 200 yX3_badgeText, Cond.static yX3_badgeText, Cond.code yX3_badgeText cX3_badgeText 3 (some (.object "java/lang/StringBuilder")), Cond.classLink RX3 205 RJ4, Cond.instantiable RJ4 4, Cond.initialized RJ4, Cond.methodLink RX3 213 yJ4_init_da8c8, Cond.instanceMethod yJ4_init_da8c8, Cond.code yJ4_init_da8c8 cJ4_init_da8c8 1 none, Cond.methodLink RJ4 1 yJ5_init_d00df, Cond.instanceMethod yJ5_init_d00df, Cond.initialized RJ5, Cond.code yJ5_init_d00df cJ5_init_d00df 2 none, Cond.methodLink RJ5 3 objectInit, Cond.instanceMethod objectInit, Cond.code objectInit ⟨#[0xb1]⟩ 1 none, Cond.fieldLink RJ5 18 "java/lang/String" "COMPACT_STRINGS" "Z", Cond.arrayClass .byte, Cond.fieldLink RJ5 15 "java/lang/AbstractStringBuilder" "value" "[B", Cond.fieldLink RJ5 22 "java/lang/AbstractStringBuilder" "coder" "B", Cond.methodLink RJ5 26 yJ2_newBytesFor_77867, Cond.static yJ2_newBytesFor_77867]
def wsL_acts_r11 : List Cond := [Cond.initialized RJ2, Cond.code yJ2_newBytesFor_77867 cJ2_newBytesFor_77867 1 (some (.array .byte)), Cond.methodLink RJ2 11 yJ2_newBytesLength_0f7a4, Cond.static yJ2_newBytesLength_0f7a4, Cond.code yJ2_newBytesLength_0f7a4 cJ2_newBytesLength_0f7a4 1 (some .int), Cond.constant RJ2 20 (1073741823), Cond.methodLink RX3 214 yJ4_append_bf812, Cond.instanceMethod yJ4_append_bf812, Cond.selects RJ4 yJ4_append_bf812 yJ4_append_bf812, Cond.code yJ4_append_bf812 cJ4_append_bf812 2 (some (.object "java/lang/StringBuilder")), Cond.methodLink RJ4 53 yJ5_append_c97b9, Cond.sameMethod "java/lang/AbstractStringBuilder" "java/lang/AbstractStringBuilder" "append" "(I)Ljava/lang/AbstractStringBuilder;", Cond.superclass RJ4 RJ5, Cond.instanceMethod yJ5_append_c97b9, Cond.code yJ5_append_c97b9 cJ5_append_c97b9 4 (some (.object "java/lang/AbstractStringBuilder")), Cond.fieldLink RJ5 79 "java/lang/AbstractStringBuilder" "count" "I", Cond.methodLink RJ5 245 yJ6_stringSize_0f7a4, Cond.static yJ6_stringSize_0f7a4, Cond.initialized RJ6, Cond.code yJ6_stringSize_0f7a4 cJ6_stringSize_0f7a4 4 (some .int), Cond.methodLink RJ5 100 ⟨"java/lang/AbstractStringBuilder", "ensureCapacityInternal", "(I)V"⟩, Cond.sameMethod "java/lang/AbstractStringBuilder" "java/lang/AbstractStringBuilder" "ensureCapacityInternal" "(I)V", Cond.selects RJ4 ⟨"java/lang/AbstractStringBuilder", "ensureCapacityInternal", "(I)V"⟩ yJ5_ensureCapacityInternal_d00df, Cond.instanceMethod yJ5_ensureCapacityInternal_d00df]
def wsL_acts_r12 : List Cond := [Cond.code yJ5_ensureCapacityInternal_d00df cJ5_ensureCapacityInternal_d00df 3 none, Cond.methodLink RJ5 104 ⟨"java/lang/AbstractStringBuilder", "newCapacity", "(I)I"⟩, Cond.sameMethod "java/lang/AbstractStringBuilder" "java/lang/AbstractStringBuilder" "newCapacity" "(I)I", Cond.selects RJ4 ⟨"java/lang/AbstractStringBuilder", "newCapacity", "(I)I"⟩ yJ5_newCapacity_0f7a4, Cond.instanceMethod yJ5_newCapacity_0f7a4, Cond.code yJ5_newCapacity_0f7a4 cJ5_newCapacity_0f7a4 6 (some .int), Cond.constant RJ5 39 (2147483647), Cond.methodLink RJ5 114 yJ8_newLength_cabcc, Cond.static yJ8_newLength_cabcc, Cond.initialized RJ8, Cond.code yJ8_newLength_cabcc cJ8_newLength_cabcc 4 (some .int), Cond.methodLink RJ8 194 Lib.Math.max.name, Cond.static Lib.Math.max.name, Cond.initialized "java/lang/Math", Cond.code Lib.Math.max.name Lib.Math.max.code 2 (some .int), Cond.constant RJ8 200 (2147483639), Cond.methodLink RJ8 201 yJ8_hugeLength_7cf53, Cond.static yJ8_hugeLength_7cf53, Cond.code yJ8_hugeLength_7cf53 cJ8_hugeLength_7cf53 3 (some .int), Cond.methodLink RJ5 108 yJ7_copyOf_9075b, Cond.static yJ7_copyOf_9075b, Cond.initialized RJ7, Cond.code yJ7_copyOf_9075b cJ7_copyOf_9075b 3 (some (.array .byte)), Cond.methodLink RJ7 310 ⟨"[B", "clone", "()Ljava/lang/Object;"⟩]
def wsL_acts_r13 : List Cond := [Cond.sameMethod "[B" "java/lang/Object" "clone" "()Ljava/lang/Object;", Cond.native ⟨"java/lang/Object", "clone", "()Ljava/lang/Object;"⟩, Cond.instanceMethod ⟨"java/lang/Object", "clone", "()Ljava/lang/Object;"⟩, Cond.selects "[B" ⟨"[B", "clone", "()Ljava/lang/Object;"⟩ ⟨"java/lang/Object", "clone", "()Ljava/lang/Object;"⟩, Cond.classLink RJ7 311 "[B", Cond.methodLink RJ7 304 Lib.Math.min.name, Cond.static Lib.Math.min.name, Cond.code Lib.Math.min.name Lib.Math.min.code 2 (some .int), Cond.methodLink RJ7 150 arraycopyName, Cond.native arraycopyName, Cond.static arraycopyName, Cond.initialized "java/lang/System", Cond.methodLink RJ5 83 ⟨"java/lang/AbstractStringBuilder", "isLatin1", "()Z"⟩, Cond.sameMethod "java/lang/AbstractStringBuilder" "java/lang/AbstractStringBuilder" "isLatin1" "()Z", Cond.selects RJ4 ⟨"java/lang/AbstractStringBuilder", "isLatin1", "()Z"⟩ yJ5_isLatin1_aae02, Cond.instanceMethod yJ5_isLatin1_aae02, Cond.code yJ5_isLatin1_aae02 cJ5_isLatin1_aae02 1 (some .boolean), Cond.methodLink RJ5 248 yJ6_getChars_ba4f3, Cond.static yJ6_getChars_ba4f3, Cond.code yJ6_getChars_ba4f3 cJ6_getChars_ba4f3 7 (some .int), Cond.fieldLink RJ6 83 "java/lang/Integer" "DigitOnes" "[B", Cond.fieldLink RJ6 87 "java/lang/Integer" "DigitTens" "[B", Cond.methodLink RJ5 251 yJ2_getChars_46870, Cond.static yJ2_getChars_46870]
def wsL_acts_r14 : List Cond := [Cond.code yJ2_getChars_46870 cJ2_getChars_46870 5 (some .int), Cond.fieldLink RJ2 44 "java/lang/StringUTF16" "$assertionsDisabled" "Z", Cond.methodLink RJ2 96 yJ2_checkBoundsBeginEnd_d044e, Cond.static yJ2_checkBoundsBeginEnd_d044e, Cond.code yJ2_checkBoundsBeginEnd_d044e cJ2_checkBoundsBeginEnd_d044e 3 none, Cond.methodLink RJ2 48 yJ2_length_9d52b, Cond.static yJ2_length_9d52b, Cond.code yJ2_length_9d52b cJ2_length_9d52b 1 (some .int), Cond.methodLink RJ2 241 yJ0_checkBoundsBeginEnd_23922, Cond.static yJ0_checkBoundsBeginEnd_23922, Cond.initialized RJ0, Cond.code yJ0_checkBoundsBeginEnd_23922 cJ0_checkBoundsBeginEnd_23922 3 none, Cond.fieldLink RJ0 1053 "jdk/internal/util/Preconditions" "SIOOBE_FORMATTER" "Ljava/util/function/BiFunction;", Cond.methodLink RJ0 1062 yJ3_checkFromToIndex_8c36e, Cond.static yJ3_checkFromToIndex_8c36e, Cond.initialized RJ3, Cond.code yJ3_checkFromToIndex_8c36e cJ3_checkFromToIndex_8c36e 4 (some .int), Cond.methodLink RJ2 393 yJ2_getChars_ba4f3, Cond.static yJ2_getChars_ba4f3, Cond.code yJ2_getChars_ba4f3 cJ2_getChars_ba4f3 7 (some .int), Cond.fieldLink RJ2 403 "java/lang/Integer" "DigitOnes" "[B", Cond.fieldLink RJ2 407 "java/lang/Integer" "DigitTens" "[B", Cond.methodLink RJ2 111 yJ2_putChar_b72d1, Cond.static yJ2_putChar_b72d1]
def wsL_acts_r15 : List Cond := [Cond.code yJ2_putChar_b72d1 cJ2_putChar_b72d1 3 none, Cond.fieldLink RJ2 59 "java/lang/StringUTF16" "HI_BYTE_SHIFT" "I", Cond.fieldLink RJ2 63 "java/lang/StringUTF16" "LO_BYTE_SHIFT" "I", Cond.methodLink RX3 218 yJ4_append_cf468, Cond.instanceMethod yJ4_append_cf468, Cond.selects RJ4 yJ4_append_cf468 yJ4_append_cf468, Cond.code yJ4_append_cf468 cJ4_append_cf468 2 (some (.object "java/lang/StringBuilder")), Cond.methodLink RJ4 50 yJ5_append_3fe6f, Cond.sameMethod "java/lang/AbstractStringBuilder" "java/lang/AbstractStringBuilder" "append" "(C)Ljava/lang/AbstractStringBuilder;", Cond.instanceMethod yJ5_append_3fe6f, Cond.code yJ5_append_3fe6f cJ5_append_3fe6f 2 (some (.object "java/lang/AbstractStringBuilder")), Cond.methodLink RJ5 191 yJ1_canEncode_fc78d, Cond.static yJ1_canEncode_fc78d, Cond.initialized RJ1, Cond.code yJ1_canEncode_fc78d cJ1_canEncode_fc78d 1 (some .boolean), Cond.methodLink RJ5 195 ⟨"java/lang/AbstractStringBuilder", "inflate", "()V"⟩, Cond.sameMethod "java/lang/AbstractStringBuilder" "java/lang/AbstractStringBuilder" "inflate" "()V", Cond.selects RJ4 ⟨"java/lang/AbstractStringBuilder", "inflate", "()V"⟩ yJ5_inflate_da8c8, Cond.instanceMethod yJ5_inflate_da8c8, Cond.code yJ5_inflate_da8c8 cJ5_inflate_da8c8 2 none, Cond.methodLink RJ5 125 yJ1_inflate_0e8fd, Cond.static yJ1_inflate_0e8fd, Cond.code yJ1_inflate_0e8fd cJ1_inflate_0e8fd 5 none, Cond.methodLink RJ1 240 yJ2_inflate_0e8fd]
def wsL_acts_r16 : List Cond := [Cond.static yJ2_inflate_0e8fd, Cond.code yJ2_inflate_0e8fd cJ2_inflate_0e8fd 6 none, Cond.methodLink RJ2 173 yJ2_checkBoundsOffCount_d044e, Cond.static yJ2_checkBoundsOffCount_d044e, Cond.code yJ2_checkBoundsOffCount_d044e cJ2_checkBoundsOffCount_d044e 3 none, Cond.methodLink RJ2 419 yJ0_checkBoundsOffCount_cabcc, Cond.static yJ0_checkBoundsOffCount_cabcc, Cond.code yJ0_checkBoundsOffCount_cabcc cJ0_checkBoundsOffCount_cabcc 3 (some .int), Cond.methodLink RJ0 1065 yJ3_checkFromIndexSize_8c36e, Cond.static yJ3_checkFromIndexSize_8c36e, Cond.code yJ3_checkFromIndexSize_8c36e cJ3_checkFromIndexSize_8c36e 4 (some .int), Cond.methodLink RJ5 197 yJ2_putCharSB_b72d1, Cond.static yJ2_putCharSB_b72d1, Cond.code yJ2_putCharSB_b72d1 cJ2_putCharSB_b72d1 3 none, Cond.methodLink RJ2 67 yJ2_checkIndex_2214a, Cond.static yJ2_checkIndex_2214a, Cond.code yJ2_checkIndex_2214a cJ2_checkIndex_2214a 2 none, Cond.methodLink RJ2 414 yJ0_checkIndex_df160, Cond.static yJ0_checkIndex_df160, Cond.code yJ0_checkIndex_df160 cJ0_checkIndex_df160 2 none, Cond.methodLink RJ0 1059 yJ3_checkIndex_8e157, Cond.static yJ3_checkIndex_8e157, Cond.code yJ3_checkIndex_8e157 cJ3_checkIndex_8e157 3 (some .int), Cond.methodLink RX3 221 yX3_appendBackwards]
def wsL_acts_r17 : List Cond := [Cond.static yX3_appendBackwards, Cond.code yX3_appendBackwards cX3_appendBackwards 4 none, Cond.methodLink RX3 204 yJ4_length_8abf5, Cond.instanceMethod yJ4_length_8abf5, Cond.selects RJ4 yJ4_length_8abf5 yJ4_length_8abf5, Cond.code yJ4_length_8abf5 cJ4_length_8abf5 1 (some .int), Cond.methodLink RJ4 343 yJ5_length_8abf5, Cond.sameMethod "java/lang/AbstractStringBuilder" "java/lang/AbstractStringBuilder" "length" "()I", Cond.instanceMethod yJ5_length_8abf5, Cond.code yJ5_length_8abf5 cJ5_length_8abf5 1 (some .int), Cond.methodLink RX3 209 yJ4_charAt_5068e, Cond.instanceMethod yJ4_charAt_5068e, Cond.selects RJ4 yJ4_charAt_5068e yJ4_charAt_5068e, Cond.code yJ4_charAt_5068e cJ4_charAt_5068e 2 (some .char), Cond.methodLink RJ4 329 yJ5_charAt_5068e, Cond.sameMethod "java/lang/AbstractStringBuilder" "java/lang/AbstractStringBuilder" "charAt" "(I)C", Cond.instanceMethod yJ5_charAt_5068e, Cond.code yJ5_charAt_5068e cJ5_charAt_5068e 5 (some .char), Cond.methodLink RJ5 138 Lib.Math.min.name, Cond.methodLink RJ5 144 yJ0_checkIndex_df160, Cond.methodLink RJ5 148 yJ2_getChar_3b067, Cond.static yJ2_getChar_3b067, Cond.code yJ2_getChar_3b067 cJ2_getChar_3b067 2 (some .char), Cond.methodLink RL 126 yL_end]
def wsL_acts_r18 : List Cond := [Cond.static yL_end, Cond.codeWith yL_end cL_end 3 (some .int) [(0, 5, 6, 16), (0, 5, 10, 22)], Cond.methodLink RL 36 yX3_end, Cond.instanceMethod yX3_end, Cond.selects RX3 yX3_end yX3_end, Cond.code yX3_end cX3_end 3 (some .int), Cond.methodLink RX3 115 yX2_untie, Cond.instanceMethod yX2_untie, Cond.selects RX2 yX2_untie yX2_untie, Cond.code yX2_untie cX2_untie 2 none, Cond.methodLink RX3 119 yX1_addEnding, Cond.instanceMethod yX1_addEnding, Cond.selects RX1 yX1_addEnding yX1_addEnding, Cond.code yX1_addEnding cX1_addEnding 2 none, Cond.methodLink RL 128 yL_word, Cond.static yL_word, Cond.codeWith yL_word cL_word 4 (some .int) [(0, 7, 8, 16), (0, 7, 12, 19), (0, 7, 16, 22)], Cond.methodLink RL 10 yX3_word, Cond.instanceMethod yX3_word, Cond.selects RX3 yX3_word yX3_word, Cond.code yX3_word cX3_word 3 none, Cond.methodLink RX3 69 yX0_setWord, Cond.instanceMethod yX0_setWord, Cond.selects RX0 yX0_setWord yX0_setWord]
def wsL_acts_r19 : List Cond := [Cond.code yX0_setWord cX0_setWord 3 none, Cond.methodLink RL 90 yL_keyOf, Cond.static yL_keyOf, Cond.codeWith yL_keyOf cL_keyOf 4 (some .int) [(0, 6, 7, 16), (0, 6, 11, 19)], Cond.methodLink RL 69 yX3_keyOf, Cond.instanceMethod yX3_keyOf, Cond.selects RX3 yX3_keyOf yX3_keyOf, Cond.code yX3_keyOf cX3_keyOf 3 (some .int), Cond.fieldLink RX3 33 "VouchGate" "keepers" "[I", Cond.fieldLink RX3 37 "VouchGate" "thresholds" "[I", Cond.methodLink RX3 153 yX3_isKey, Cond.static yX3_isKey, Cond.code yX3_isKey cX3_isKey 1 (some .boolean), Cond.methodLink RX3 167 yX3_countUsers, Cond.instanceMethod yX3_countUsers, Cond.selects RX3 yX3_countUsers yX3_countUsers, Cond.code yX3_countUsers cX3_countUsers 4 (some .int), Cond.methodLink RX3 147 yX3_holds, Cond.static yX3_holds, Cond.code yX3_holds cX3_holds 2 (some .boolean), Cond.methodLink RL 130 yL_share, Cond.static yL_share, Cond.codeWith yL_share cL_share 5 (some .int) [(0, 7, 8, 16), (0, 7, 13, 19)], Cond.methodLink RL 50 yX3_share]
def wsL_acts_r20 : List Cond := [Cond.instanceMethod yX3_share, Cond.selects RX3 yX3_share yX3_share, Cond.code yX3_share cX3_share 5 (some .int), Cond.methodLink RX3 160 yJ6_bitCount_0f7a4, Cond.static yJ6_bitCount_0f7a4, Cond.code yJ6_bitCount_0f7a4 cJ6_bitCount_0f7a4 1 (some .int), Cond.constant RJ6 265 (1431655765), Cond.constant RJ6 266 (858993459), Cond.constant RJ6 267 (252645135), Cond.methodLink RL 132 yL_areKeys, Cond.static yL_areKeys, Cond.code yL_areKeys cL_areKeys 7 (some .boolean), Cond.methodLink RL 92 yL_use, Cond.static yL_use, Cond.codeWith yL_use cL_use 3 (some .int) [(0, 13, 14, 16)], Cond.methodLink RL 53 yX3_use, Cond.instanceMethod yX3_use, Cond.selects RX3 yX3_use yX3_use, Cond.code yX3_use cX3_use 2 (some .boolean)]
def wsL_acts : List Cond := .code yL_acts cL_acts 11 (some .boolean) :: ((wsL_acts_r1 ++ (wsL_acts_r2 ++ (wsL_acts_r3 ++ (wsL_acts_r4 ++ (wsL_acts_r5 ++ (wsL_acts_r6 ++ (wsL_acts_r7 ++ (wsL_acts_r8 ++ (wsL_acts_r9 ++ (wsL_acts_r10 ++ (wsL_acts_r11 ++ (wsL_acts_r12 ++ (wsL_acts_r13 ++ (wsL_acts_r14 ++ (wsL_acts_r15 ++ (wsL_acts_r16 ++ (wsL_acts_r17 ++ (wsL_acts_r18 ++ (wsL_acts_r19 ++ wsL_acts_r20))))))))))))))))))) ++ wsX30 ++ wsX00 ++ wsX20 ++ wsX10 ++ wsJ40 ++ (vx_atS RX3 52 "java/lang/IndexOutOfBoundsException" ["java/lang/RuntimeException", "java/lang/Exception"]).filter goodWord ++ (vx_atS RX3 59 "java/lang/IllegalArgumentException" ["java/lang/RuntimeException", "java/lang/Exception"]).filter goodWord ++ (vx_atS RX3 68 "java/lang/IllegalStateException" ["java/lang/RuntimeException", "java/lang/Exception"]).filter goodWord)
def wsL_law0_r1 : List Cond := [Cond.classLink RL 11 RX3, Cond.instantiable RX3 7, Cond.initialized RX3, Cond.arrayClass .int, Cond.methodLink RL 136 yX3_init, Cond.instanceMethod yX3_init, Cond.code yX3_init cX3_init 2 none, Cond.methodLink RX3 1 objectInit, Cond.instanceMethod objectInit, Cond.code objectInit ⟨#[0xb1]⟩ 1 none, Cond.classLink RX3 7 RX0, Cond.instantiable RX0 4, Cond.initialized RX0, Cond.fieldLink RX3 10 "VouchGate" "desk" "LVouchGate$Desk;", Cond.classLink RX3 16 RX2, Cond.instantiable RX2 8, Cond.initialized RX2, Cond.fieldLink RX3 19 "VouchGate" "ties" "LVouchGate$Ties;", Cond.fieldLink RX3 23 "VouchGate" "tiesAnew" "LVouchGate$Ties;", Cond.classLink RX3 26 RX1, Cond.instantiable RX1 6, Cond.initialized RX1, Cond.fieldLink RX3 29 "VouchGate" "log" "LVouchGate$Log;", Cond.fieldLink RX3 33 "VouchGate" "keepers" "[I"]
def wsL_law0_r2 : List Cond := [Cond.fieldLink RX3 37 "VouchGate" "thresholds" "[I", Cond.fieldLink RX3 40 "VouchGate" "now" "I", Cond.methodLink RX3 9 yX0_init, Cond.instanceMethod yX0_init, Cond.code yX0_init cX0_init 2 none, Cond.methodLink RX0 3 objectInit, Cond.fieldLink RX0 9 "VouchGate$Desk" "words" "[I", Cond.fieldLink RX0 15 "VouchGate$Desk" "failures" "[I", Cond.fieldLink RX0 18 "VouchGate$Desk" "restEnds" "[I", Cond.fieldLink RX0 21 "VouchGate$Desk" "sessionEnds" "[I", Cond.methodLink RX3 18 yX2_init, Cond.instanceMethod yX2_init, Cond.code yX2_init cX2_init 1 none, Cond.methodLink RX2 3 objectInit, Cond.fieldLink RX2 9 "VouchGate$Ties" "hosts" "[I", Cond.fieldLink RX2 15 "VouchGate$Ties" "rooms" "[I", Cond.fieldLink RX2 18 "VouchGate$Ties" "minutes" "[I", Cond.fieldLink RX2 21 "VouchGate$Ties" "hostBadges" "[I", Cond.arrayClass .boolean, Cond.fieldLink RX2 24 "VouchGate$Ties" "bad" "[Z", Cond.fieldLink RX2 28 "VouchGate$Ties" "badges" "[I", Cond.fieldLink RX2 31 "VouchGate$Ties" "lost" "[Z", Cond.methodLink RX2 34 yX2_reset, Cond.instanceMethod yX2_reset]
def wsL_law0_r3 : List Cond := [Cond.selects RX2 yX2_reset yX2_reset, Cond.code yX2_reset cX2_reset 2 none, Cond.fieldLink RX2 37 "VouchGate$Ties" "nextBadge" "I", Cond.methodLink RX3 28 yX1_init, Cond.instanceMethod yX1_init, Cond.code yX1_init cX1_init 1 none, Cond.methodLink RX1 3 objectInit, Cond.fieldLink RX1 9 "VouchGate$Log" "kinds" "[I", Cond.fieldLink RX1 15 "VouchGate$Log" "persons" "[I", Cond.fieldLink RX1 18 "VouchGate$Log" "guests" "[I", Cond.fieldLink RX1 21 "VouchGate$Log" "minutes" "[I", Cond.fieldLink RX1 24 "VouchGate$Log" "size" "I", Cond.fieldLink RX1 28 "VouchGate$Log" "vouchings" "I", Cond.methodLink RL 137 yL_at, Cond.static yL_at, Cond.initialized RL, Cond.code yL_at cL_at 2 (some .int), Cond.constant RL 7 (1673918935), Cond.constant RL 8 (699917297), Cond.methodLink RL 141 yL_acts, Cond.static yL_acts, Cond.code yL_acts cL_acts 11 (some .boolean), Cond.constant RL 24 (-1000003), Cond.methodLink RL 96 yL_low]
def wsL_law0_r4 : List Cond := [Cond.static yL_low, Cond.code yL_low cL_low 2 (some .int), Cond.constant RL 9 (2147483647), Cond.methodLink RL 106 yL_logsIn, Cond.static yL_logsIn, Cond.code yL_logsIn cL_logsIn 9 (some .boolean), Cond.methodLink RL 76 yL_of, Cond.static yL_of, Cond.codeWith yL_of cL_of 4 (some .int) [(0, 6, 7, 16), (0, 6, 11, 19)], Cond.classLink RL 16 "java/lang/IndexOutOfBoundsException", Cond.classLink RL 19 "java/lang/IllegalArgumentException", Cond.constant RL 18 (-1000001), Cond.constant RL 21 (-1000002), Cond.methodLink RL 57 yX3_of, Cond.instanceMethod yX3_of, Cond.selects RX3 yX3_of yX3_of, Cond.code yX3_of cX3_of 3 (some .int), Cond.classLink RX3 48 "java/lang/IndexOutOfBoundsException", Cond.initialized "java/lang/IndexOutOfBoundsException", Cond.classLink RX3 55 "java/lang/IllegalArgumentException", Cond.initialized "java/lang/IllegalArgumentException", Cond.methodLink RX3 44 yX3_isPerson, Cond.static yX3_isPerson, Cond.code yX3_isPerson cX3_isPerson 1 (some .boolean)]
def wsL_law0_r5 : List Cond := [Cond.methodLink RX3 60 yX0_isInSession, Cond.instanceMethod yX0_isInSession, Cond.selects RX0 yX0_isInSession yX0_isInSession, Cond.code yX0_isInSession cX0_isInSession 3 (some .boolean), Cond.methodLink RX3 170 yX3_asNumber, Cond.static yX3_asNumber, Cond.code yX3_asNumber cX3_asNumber 1 (some .int), Cond.methodLink RX3 174 yX2_isTrusted, Cond.instanceMethod yX2_isTrusted, Cond.selects RX2 yX2_isTrusted yX2_isTrusted, Cond.code yX2_isTrusted cX2_isTrusted 2 (some .boolean), Cond.methodLink RX2 48 yX2_stepsToStaff, Cond.instanceMethod yX2_stepsToStaff, Cond.selects RX2 yX2_stepsToStaff yX2_stepsToStaff, Cond.code yX2_stepsToStaff cX2_stepsToStaff 4 (some .int), Cond.static yX3_isGuest, Cond.code yX3_isGuest cX3_isGuest 1 (some .boolean), Cond.methodLink RX3 150 yX2_isTainted, Cond.instanceMethod yX2_isTainted, Cond.selects RX2 yX2_isTainted yX2_isTainted, Cond.code yX2_isTainted cX2_isTainted 2 (some .boolean), Cond.methodLink RX2 55 yX2_standsOnBadVouching, Cond.instanceMethod yX2_standsOnBadVouching, Cond.selects RX2 yX2_standsOnBadVouching yX2_standsOnBadVouching]
def wsL_law0_r6 : List Cond := [Cond.code yX2_standsOnBadVouching cX2_standsOnBadVouching 4 (some .boolean), Cond.methodLink RX3 144 yX2_roomsOf, Cond.instanceMethod yX2_roomsOf, Cond.selects RX2 yX2_roomsOf yX2_roomsOf, Cond.code yX2_roomsOf cX2_roomsOf 5 (some .int), Cond.methodLink RX2 52 yX2_isTrusted, Cond.methodLink RX3 109 yX2_hostOf, Cond.instanceMethod yX2_hostOf, Cond.selects RX2 yX2_hostOf yX2_hostOf, Cond.code yX2_hostOf cX2_hostOf 2 (some .int), Cond.methodLink RX3 177 yX0_failuresOf, Cond.instanceMethod yX0_failuresOf, Cond.selects RX0 yX0_failuresOf yX0_failuresOf, Cond.code yX0_failuresOf cX0_failuresOf 2 (some .int), Cond.methodLink RX3 180 yX0_sessionEndOf, Cond.instanceMethod yX0_sessionEndOf, Cond.selects RX0 yX0_sessionEndOf yX0_sessionEndOf, Cond.code yX0_sessionEndOf cX0_sessionEndOf 2 (some .int), Cond.methodLink RX3 139 yX2_badgeOf, Cond.instanceMethod yX2_badgeOf, Cond.selects RX2 yX2_badgeOf yX2_badgeOf, Cond.code yX2_badgeOf cX2_badgeOf 2 (some .int), Cond.methodLink RL 99 yL_login, Cond.static yL_login]
def wsL_law0_r7 : List Cond := [Cond.codeWith yL_login cL_login 5 (some .int) [(0, 7, 8, 16), (0, 7, 13, 19)], Cond.methodLink RL 25 yX3_login, Cond.instanceMethod yX3_login, Cond.selects RX3 yX3_login yX3_login, Cond.code yX3_login cX3_login 4 (some .int), Cond.methodLink RX3 75 yX0_tryLogin, Cond.instanceMethod yX0_tryLogin, Cond.selects RX0 yX0_tryLogin yX0_tryLogin, Cond.code yX0_tryLogin cX0_tryLogin 5 (some .int), Cond.methodLink RX0 24 yX0_countFailure, Cond.instanceMethod yX0_countFailure, Cond.selects RX0 yX0_countFailure yX0_countFailure, Cond.code yX0_countFailure cX0_countFailure 3 none, Cond.methodLink RX0 28 yX0_codeOf, Cond.static yX0_codeOf, Cond.code yX0_codeOf cX0_codeOf 2 (some .int), Cond.methodLink RL 110 yL_vouches, Cond.static yL_vouches, Cond.code yL_vouches cL_vouches 8 (some .boolean), Cond.methodLink RL 102 yL_vouch, Cond.static yL_vouch, Cond.codeWith yL_vouch cL_vouch 5 (some .int) [(0, 7, 8, 16), (0, 7, 13, 19), (0, 7, 18, 22)], Cond.classLink RL 22 "java/lang/IllegalStateException", Cond.methodLink RL 33 yX3_vouch]
def wsL_law0_r8 : List Cond := [Cond.instanceMethod yX3_vouch, Cond.selects RX3 yX3_vouch yX3_vouch, Cond.code yX3_vouch cX3_vouch 4 (some .int), Cond.classLink RX3 64 "java/lang/IllegalStateException", Cond.initialized "java/lang/IllegalStateException", Cond.methodLink RX3 81 yX3_isGuest, Cond.methodLink RX3 88 yX3_mayAct, Cond.instanceMethod yX3_mayAct, Cond.selects RX3 yX3_mayAct yX3_mayAct, Cond.code yX3_mayAct cX3_mayAct 2 (some .boolean), Cond.methodLink RX3 91 yX1_countVouchings, Cond.instanceMethod yX1_countVouchings, Cond.selects RX1 yX1_countVouchings yX1_countVouchings, Cond.code yX1_countVouchings cX1_countVouchings 1 (some .int), Cond.methodLink RX3 97 yX2_tie, Cond.instanceMethod yX2_tie, Cond.selects RX2 yX2_tie yX2_tie, Cond.code yX2_tie cX2_tie 4 none, Cond.methodLink RX3 101 yX2_setRooms, Cond.instanceMethod yX2_setRooms, Cond.selects RX2 yX2_setRooms yX2_setRooms, Cond.code yX2_setRooms cX2_setRooms 3 none, Cond.methodLink RX3 104 yX1_addVouching, Cond.instanceMethod yX1_addVouching]
def wsL_law0_r9 : List Cond := [Cond.selects RX1 yX1_addVouching yX1_addVouching, Cond.code yX1_addVouching cX1_addVouching 4 none, Cond.methodLink RX1 31 yX1_add, Cond.instanceMethod yX1_add, Cond.selects RX1 yX1_add yX1_add, Cond.code yX1_add cX1_add 5 none, Cond.methodLink RL 81 yL_chain, Cond.static yL_chain, Cond.codeWith yL_chain cL_chain 3 (some .int) [(0, 5, 6, 16)], Cond.methodLink RL 63 yX3_chain, Cond.instanceMethod yX3_chain, Cond.selects RX3 yX3_chain yX3_chain, Cond.code yX3_chain cX3_chain 2 (some .int), Cond.methodLink RX3 189 yX2_stepsToStaff, Cond.methodLink RL 114 yL_pass, Cond.static yL_pass, Cond.codeWith yL_pass cL_pass 3 (some .int) [(0, 5, 6, 19)], Cond.methodLink RL 29 yX3_pass, Cond.instanceMethod yX3_pass, Cond.selects RX3 yX3_pass yX3_pass, Cond.code yX3_pass cX3_pass 2 (some .int), Cond.methodLink RL 116 yL_loses, Cond.static yL_loses, Cond.code yL_loses cL_loses 8 (some .boolean)]
def wsL_law0_r10 : List Cond := [Cond.methodLink RL 104 yL_lose, Cond.static yL_lose, Cond.codeWith yL_lose cL_lose 4 (some .int) [(0, 6, 7, 16), (0, 6, 11, 19)], Cond.methodLink RL 39 yX3_lose, Cond.instanceMethod yX3_lose, Cond.selects RX3 yX3_lose yX3_lose, Cond.code yX3_lose cX3_lose 3 (some .int), Cond.methodLink RX3 124 yX2_markLost, Cond.instanceMethod yX2_markLost, Cond.selects RX2 yX2_markLost yX2_markLost, Cond.code yX2_markLost cX2_markLost 4 none, Cond.methodLink RX3 127 yX1_addLoss, Cond.instanceMethod yX1_addLoss, Cond.selects RX1 yX1_addLoss yX1_addLoss, Cond.code yX1_addLoss cX1_addLoss 3 none, Cond.methodLink RX3 130 yX2_countTainted, Cond.instanceMethod yX2_countTainted, Cond.selects RX2 yX2_countTainted yX2_countTainted, Cond.code yX2_countTainted cX2_countTainted 3 (some .int), Cond.methodLink RX2 58 yX2_isTainted, Cond.methodLink RL 120 yL_issue, Cond.static yL_issue, Cond.codeWith yL_issue cL_issue 3 (some .int) [(0, 5, 6, 16)], Cond.methodLink RL 43 yX3_issue]
def wsL_law0_r11 : List Cond := [Cond.instanceMethod yX3_issue, Cond.selects RX3 yX3_issue yX3_issue, Cond.code yX3_issue cX3_issue 2 (some .int), Cond.methodLink RX3 133 yX2_renewBadge, Cond.instanceMethod yX2_renewBadge, Cond.selects RX2 yX2_renewBadge yX2_renewBadge, Cond.code yX2_renewBadge cX2_renewBadge 2 none, Cond.methodLink RX3 136 yX1_addIssue, Cond.instanceMethod yX1_addIssue, Cond.selects RX1 yX1_addIssue yX1_addIssue, Cond.code yX1_addIssue cX1_addIssue 2 none, Cond.methodLink RL 122 yL_isSign, Cond.static yL_isSign, Cond.code yL_isSign cL_isSign 8 (some .boolean), Cond.methodLink RL 94 yL_sign, Cond.static yL_sign, Cond.codeWith yL_sign cL_sign 4 (some .int) [(0, 6, 7, 16)], Cond.methodLink RL 72 yX3_sign, Cond.instanceMethod yX3_sign, Cond.selects RX3 yX3_sign yX3_sign, Cond.code yX3_sign cX3_sign 4 (some .char), Cond.methodLink RX3 200 yX3_badgeText, Cond.static yX3_badgeText, Cond.code yX3_badgeText cX3_badgeText 3 (some (.object "java/lang/StringBuilder"))]
def wsL_law0_r12 : List Cond := [Cond.classLink RX3 205 RJ4, Cond.instantiable RJ4 4, Cond.initialized RJ4, Cond.methodLink RX3 213 yJ4_init_da8c8, Cond.instanceMethod yJ4_init_da8c8, Cond.code yJ4_init_da8c8 cJ4_init_da8c8 1 none, Cond.methodLink RJ4 1 yJ5_init_d00df, Cond.instanceMethod yJ5_init_d00df, Cond.initialized RJ5, Cond.code yJ5_init_d00df cJ5_init_d00df 2 none, Cond.methodLink RJ5 3 objectInit, Cond.fieldLink RJ5 18 "java/lang/String" "COMPACT_STRINGS" "Z", Cond.arrayClass .byte, Cond.fieldLink RJ5 15 "java/lang/AbstractStringBuilder" "value" "[B", Cond.fieldLink RJ5 22 "java/lang/AbstractStringBuilder" "coder" "B", Cond.methodLink RJ5 26 yJ2_newBytesFor_77867, Cond.static yJ2_newBytesFor_77867, Cond.initialized RJ2, Cond.code yJ2_newBytesFor_77867 cJ2_newBytesFor_77867 1 (some (.array .byte)), Cond.methodLink RJ2 11 yJ2_newBytesLength_0f7a4, Cond.static yJ2_newBytesLength_0f7a4, Cond.code yJ2_newBytesLength_0f7a4 cJ2_newBytesLength_0f7a4 1 (some .int), Cond.constant RJ2 20 (1073741823), Cond.methodLink RX3 214 yJ4_append_bf812]
def wsL_law0_r13 : List Cond := [Cond.instanceMethod yJ4_append_bf812, Cond.selects RJ4 yJ4_append_bf812 yJ4_append_bf812, Cond.code yJ4_append_bf812 cJ4_append_bf812 2 (some (.object "java/lang/StringBuilder")), Cond.methodLink RJ4 53 yJ5_append_c97b9, Cond.sameMethod "java/lang/AbstractStringBuilder" "java/lang/AbstractStringBuilder" "append" "(I)Ljava/lang/AbstractStringBuilder;", Cond.superclass RJ4 RJ5, Cond.instanceMethod yJ5_append_c97b9, Cond.code yJ5_append_c97b9 cJ5_append_c97b9 4 (some (.object "java/lang/AbstractStringBuilder")), Cond.fieldLink RJ5 79 "java/lang/AbstractStringBuilder" "count" "I", Cond.methodLink RJ5 245 yJ6_stringSize_0f7a4, Cond.static yJ6_stringSize_0f7a4, Cond.initialized RJ6, Cond.code yJ6_stringSize_0f7a4 cJ6_stringSize_0f7a4 4 (some .int), Cond.methodLink RJ5 100 ⟨"java/lang/AbstractStringBuilder", "ensureCapacityInternal", "(I)V"⟩, Cond.sameMethod "java/lang/AbstractStringBuilder" "java/lang/AbstractStringBuilder" "ensureCapacityInternal" "(I)V", Cond.selects RJ4 ⟨"java/lang/AbstractStringBuilder", "ensureCapacityInternal", "(I)V"⟩ yJ5_ensureCapacityInternal_d00df, Cond.instanceMethod yJ5_ensureCapacityInternal_d00df, Cond.code yJ5_ensureCapacityInternal_d00df cJ5_ensureCapacityInternal_d00df 3 none, Cond.methodLink RJ5 104 ⟨"java/lang/AbstractStringBuilder", "newCapacity", "(I)I"⟩, Cond.sameMethod "java/lang/AbstractStringBuilder" "java/lang/AbstractStringBuilder" "newCapacity" "(I)I", Cond.selects RJ4 ⟨"java/lang/AbstractStringBuilder", "newCapacity", "(I)I"⟩ yJ5_newCapacity_0f7a4, Cond.instanceMethod yJ5_newCapacity_0f7a4, Cond.code yJ5_newCapacity_0f7a4 cJ5_newCapacity_0f7a4 6 (some .int), Cond.constant RJ5 39 (2147483647)]
def wsL_law0_r14 : List Cond := [Cond.methodLink RJ5 114 yJ8_newLength_cabcc, Cond.static yJ8_newLength_cabcc, Cond.initialized RJ8, Cond.code yJ8_newLength_cabcc cJ8_newLength_cabcc 4 (some .int), Cond.methodLink RJ8 194 Lib.Math.max.name, Cond.static Lib.Math.max.name, Cond.initialized "java/lang/Math", Cond.code Lib.Math.max.name Lib.Math.max.code 2 (some .int), Cond.constant RJ8 200 (2147483639), Cond.methodLink RJ8 201 yJ8_hugeLength_7cf53, Cond.static yJ8_hugeLength_7cf53, Cond.code yJ8_hugeLength_7cf53 cJ8_hugeLength_7cf53 3 (some .int), Cond.methodLink RJ5 108 yJ7_copyOf_9075b, Cond.static yJ7_copyOf_9075b, Cond.initialized RJ7, Cond.code yJ7_copyOf_9075b cJ7_copyOf_9075b 3 (some (.array .byte)), Cond.methodLink RJ7 310 ⟨"[B", "clone", "()Ljava/lang/Object;"⟩, Cond.sameMethod "[B" "java/lang/Object" "clone" "()Ljava/lang/Object;", Cond.native ⟨"java/lang/Object", "clone", "()Ljava/lang/Object;"⟩, Cond.instanceMethod ⟨"java/lang/Object", "clone", "()Ljava/lang/Object;"⟩, Cond.selects "[B" ⟨"[B", "clone", "()Ljava/lang/Object;"⟩ ⟨"java/lang/Object", "clone", "()Ljava/lang/Object;"⟩, Cond.classLink RJ7 311 "[B", Cond.methodLink RJ7 304 Lib.Math.min.name, Cond.static Lib.Math.min.name]
def wsL_law0_r15 : List Cond := [Cond.code Lib.Math.min.name Lib.Math.min.code 2 (some .int), Cond.methodLink RJ7 150 arraycopyName, Cond.native arraycopyName, Cond.static arraycopyName, Cond.initialized "java/lang/System", Cond.methodLink RJ5 83 ⟨"java/lang/AbstractStringBuilder", "isLatin1", "()Z"⟩, Cond.sameMethod "java/lang/AbstractStringBuilder" "java/lang/AbstractStringBuilder" "isLatin1" "()Z", Cond.selects RJ4 ⟨"java/lang/AbstractStringBuilder", "isLatin1", "()Z"⟩ yJ5_isLatin1_aae02, Cond.instanceMethod yJ5_isLatin1_aae02, Cond.code yJ5_isLatin1_aae02 cJ5_isLatin1_aae02 1 (some .boolean), Cond.methodLink RJ5 248 yJ6_getChars_ba4f3, Cond.static yJ6_getChars_ba4f3, Cond.code yJ6_getChars_ba4f3 cJ6_getChars_ba4f3 7 (some .int), Cond.fieldLink RJ6 83 "java/lang/Integer" "DigitOnes" "[B", Cond.fieldLink RJ6 87 "java/lang/Integer" "DigitTens" "[B", Cond.methodLink RJ5 251 yJ2_getChars_46870, Cond.static yJ2_getChars_46870, Cond.code yJ2_getChars_46870 cJ2_getChars_46870 5 (some .int), Cond.fieldLink RJ2 44 "java/lang/StringUTF16" "$assertionsDisabled" "Z", Cond.methodLink RJ2 96 yJ2_checkBoundsBeginEnd_d044e, Cond.static yJ2_checkBoundsBeginEnd_d044e, Cond.code yJ2_checkBoundsBeginEnd_d044e cJ2_checkBoundsBeginEnd_d044e 3 none, Cond.methodLink RJ2 48 yJ2_length_9d52b, Cond.static yJ2_length_9d52b]
def wsL_law0_r16 : List Cond := [Cond.code yJ2_length_9d52b cJ2_length_9d52b 1 (some .int), Cond.methodLink RJ2 241 yJ0_checkBoundsBeginEnd_23922, Cond.static yJ0_checkBoundsBeginEnd_23922, Cond.initialized RJ0, Cond.code yJ0_checkBoundsBeginEnd_23922 cJ0_checkBoundsBeginEnd_23922 3 none, Cond.fieldLink RJ0 1053 "jdk/internal/util/Preconditions" "SIOOBE_FORMATTER" "Ljava/util/function/BiFunction;", Cond.methodLink RJ0 1062 yJ3_checkFromToIndex_8c36e, Cond.static yJ3_checkFromToIndex_8c36e, Cond.initialized RJ3, Cond.code yJ3_checkFromToIndex_8c36e cJ3_checkFromToIndex_8c36e 4 (some .int), Cond.methodLink RJ2 393 yJ2_getChars_ba4f3, Cond.static yJ2_getChars_ba4f3, Cond.code yJ2_getChars_ba4f3 cJ2_getChars_ba4f3 7 (some .int), Cond.fieldLink RJ2 403 "java/lang/Integer" "DigitOnes" "[B", Cond.fieldLink RJ2 407 "java/lang/Integer" "DigitTens" "[B", Cond.methodLink RJ2 111 yJ2_putChar_b72d1, Cond.static yJ2_putChar_b72d1, Cond.code yJ2_putChar_b72d1 cJ2_putChar_b72d1 3 none, Cond.fieldLink RJ2 59 "java/lang/StringUTF16" "HI_BYTE_SHIFT" "I", Cond.fieldLink RJ2 63 "java/lang/StringUTF16" "LO_BYTE_SHIFT" "I", Cond.methodLink RX3 218 yJ4_append_cf468, Cond.instanceMethod yJ4_append_cf468, Cond.selects RJ4 yJ4_append_cf468 yJ4_append_cf468, Cond.code yJ4_append_cf468 cJ4_append_cf468 2 (some (.object "java/lang/StringBuilder"))]
def wsL_law0_r17 : List Cond := [Cond.methodLink RJ4 50 yJ5_append_3fe6f, Cond.sameMethod "java/lang/AbstractStringBuilder" "java/lang/AbstractStringBuilder" "append" "(C)Ljava/lang/AbstractStringBuilder;", Cond.instanceMethod yJ5_append_3fe6f, Cond.code yJ5_append_3fe6f cJ5_append_3fe6f 2 (some (.object "java/lang/AbstractStringBuilder")), Cond.methodLink RJ5 191 yJ1_canEncode_fc78d, Cond.static yJ1_canEncode_fc78d, Cond.initialized RJ1, Cond.code yJ1_canEncode_fc78d cJ1_canEncode_fc78d 1 (some .boolean), Cond.methodLink RJ5 195 ⟨"java/lang/AbstractStringBuilder", "inflate", "()V"⟩, Cond.sameMethod "java/lang/AbstractStringBuilder" "java/lang/AbstractStringBuilder" "inflate" "()V", Cond.selects RJ4 ⟨"java/lang/AbstractStringBuilder", "inflate", "()V"⟩ yJ5_inflate_da8c8, Cond.instanceMethod yJ5_inflate_da8c8, Cond.code yJ5_inflate_da8c8 cJ5_inflate_da8c8 2 none, Cond.methodLink RJ5 125 yJ1_inflate_0e8fd, Cond.static yJ1_inflate_0e8fd, Cond.code yJ1_inflate_0e8fd cJ1_inflate_0e8fd 5 none, Cond.methodLink RJ1 240 yJ2_inflate_0e8fd, Cond.static yJ2_inflate_0e8fd, Cond.code yJ2_inflate_0e8fd cJ2_inflate_0e8fd 6 none, Cond.methodLink RJ2 173 yJ2_checkBoundsOffCount_d044e, Cond.static yJ2_checkBoundsOffCount_d044e, Cond.code yJ2_checkBoundsOffCount_d044e cJ2_checkBoundsOffCount_d044e 3 none, Cond.methodLink RJ2 419 yJ0_checkBoundsOffCount_cabcc, Cond.static yJ0_checkBoundsOffCount_cabcc]
def wsL_law0_r18 : List Cond := [Cond.code yJ0_checkBoundsOffCount_cabcc cJ0_checkBoundsOffCount_cabcc 3 (some .int), Cond.methodLink RJ0 1065 yJ3_checkFromIndexSize_8c36e, Cond.static yJ3_checkFromIndexSize_8c36e, Cond.code yJ3_checkFromIndexSize_8c36e cJ3_checkFromIndexSize_8c36e 4 (some .int), Cond.methodLink RJ5 197 yJ2_putCharSB_b72d1, Cond.static yJ2_putCharSB_b72d1, Cond.code yJ2_putCharSB_b72d1 cJ2_putCharSB_b72d1 3 none, Cond.methodLink RJ2 67 yJ2_checkIndex_2214a, Cond.static yJ2_checkIndex_2214a, Cond.code yJ2_checkIndex_2214a cJ2_checkIndex_2214a 2 none, Cond.methodLink RJ2 414 yJ0_checkIndex_df160, Cond.static yJ0_checkIndex_df160, Cond.code yJ0_checkIndex_df160 cJ0_checkIndex_df160 2 none, Cond.methodLink RJ0 1059 yJ3_checkIndex_8e157, Cond.static yJ3_checkIndex_8e157, Cond.code yJ3_checkIndex_8e157 cJ3_checkIndex_8e157 3 (some .int), Cond.methodLink RX3 221 yX3_appendBackwards, Cond.static yX3_appendBackwards, Cond.code yX3_appendBackwards cX3_appendBackwards 4 none, Cond.methodLink RX3 204 yJ4_length_8abf5, Cond.instanceMethod yJ4_length_8abf5, Cond.selects RJ4 yJ4_length_8abf5 yJ4_length_8abf5, Cond.code yJ4_length_8abf5 cJ4_length_8abf5 1 (some .int), Cond.methodLink RJ4 343 yJ5_length_8abf5]
def wsL_law0_r19 : List Cond := [Cond.sameMethod "java/lang/AbstractStringBuilder" "java/lang/AbstractStringBuilder" "length" "()I", Cond.instanceMethod yJ5_length_8abf5, Cond.code yJ5_length_8abf5 cJ5_length_8abf5 1 (some .int), Cond.methodLink RX3 209 yJ4_charAt_5068e, Cond.instanceMethod yJ4_charAt_5068e, Cond.selects RJ4 yJ4_charAt_5068e yJ4_charAt_5068e, Cond.code yJ4_charAt_5068e cJ4_charAt_5068e 2 (some .char), Cond.methodLink RJ4 329 yJ5_charAt_5068e, Cond.sameMethod "java/lang/AbstractStringBuilder" "java/lang/AbstractStringBuilder" "charAt" "(I)C", Cond.instanceMethod yJ5_charAt_5068e, Cond.code yJ5_charAt_5068e cJ5_charAt_5068e 5 (some .char), Cond.methodLink RJ5 138 Lib.Math.min.name, Cond.methodLink RJ5 144 yJ0_checkIndex_df160, Cond.methodLink RJ5 148 yJ2_getChar_3b067, Cond.static yJ2_getChar_3b067, Cond.code yJ2_getChar_3b067 cJ2_getChar_3b067 2 (some .char), Cond.methodLink RL 126 yL_end, Cond.static yL_end, Cond.codeWith yL_end cL_end 3 (some .int) [(0, 5, 6, 16), (0, 5, 10, 22)], Cond.methodLink RL 36 yX3_end, Cond.instanceMethod yX3_end, Cond.selects RX3 yX3_end yX3_end, Cond.code yX3_end cX3_end 3 (some .int), Cond.methodLink RX3 115 yX2_untie]
def wsL_law0_r20 : List Cond := [Cond.instanceMethod yX2_untie, Cond.selects RX2 yX2_untie yX2_untie, Cond.code yX2_untie cX2_untie 2 none, Cond.methodLink RX3 119 yX1_addEnding, Cond.instanceMethod yX1_addEnding, Cond.selects RX1 yX1_addEnding yX1_addEnding, Cond.code yX1_addEnding cX1_addEnding 2 none, Cond.methodLink RL 128 yL_word, Cond.static yL_word, Cond.codeWith yL_word cL_word 4 (some .int) [(0, 7, 8, 16), (0, 7, 12, 19), (0, 7, 16, 22)], Cond.methodLink RL 10 yX3_word, Cond.instanceMethod yX3_word, Cond.selects RX3 yX3_word yX3_word, Cond.code yX3_word cX3_word 3 none, Cond.methodLink RX3 69 yX0_setWord, Cond.instanceMethod yX0_setWord, Cond.selects RX0 yX0_setWord yX0_setWord, Cond.code yX0_setWord cX0_setWord 3 none, Cond.methodLink RL 90 yL_keyOf, Cond.static yL_keyOf, Cond.codeWith yL_keyOf cL_keyOf 4 (some .int) [(0, 6, 7, 16), (0, 6, 11, 19)], Cond.methodLink RL 69 yX3_keyOf, Cond.instanceMethod yX3_keyOf, Cond.selects RX3 yX3_keyOf yX3_keyOf]
def wsL_law0_r21 : List Cond := [Cond.code yX3_keyOf cX3_keyOf 3 (some .int), Cond.methodLink RX3 153 yX3_isKey, Cond.static yX3_isKey, Cond.code yX3_isKey cX3_isKey 1 (some .boolean), Cond.methodLink RX3 167 yX3_countUsers, Cond.instanceMethod yX3_countUsers, Cond.selects RX3 yX3_countUsers yX3_countUsers, Cond.code yX3_countUsers cX3_countUsers 4 (some .int), Cond.methodLink RX3 147 yX3_holds, Cond.static yX3_holds, Cond.code yX3_holds cX3_holds 2 (some .boolean), Cond.methodLink RL 130 yL_share, Cond.static yL_share, Cond.codeWith yL_share cL_share 5 (some .int) [(0, 7, 8, 16), (0, 7, 13, 19)], Cond.methodLink RL 50 yX3_share, Cond.instanceMethod yX3_share, Cond.selects RX3 yX3_share yX3_share, Cond.code yX3_share cX3_share 5 (some .int), Cond.methodLink RX3 160 yJ6_bitCount_0f7a4, Cond.static yJ6_bitCount_0f7a4, Cond.code yJ6_bitCount_0f7a4 cJ6_bitCount_0f7a4 1 (some .int), Cond.constant RJ6 265 (1431655765), Cond.constant RJ6 266 (858993459), Cond.constant RJ6 267 (252645135)]
def wsL_law0_r22 : List Cond := [Cond.methodLink RL 132 yL_areKeys, Cond.static yL_areKeys, Cond.code yL_areKeys cL_areKeys 7 (some .boolean), Cond.methodLink RL 92 yL_use, Cond.static yL_use, Cond.codeWith yL_use cL_use 3 (some .int) [(0, 13, 14, 16)], Cond.methodLink RL 53 yX3_use, Cond.instanceMethod yX3_use, Cond.selects RX3 yX3_use yX3_use, Cond.code yX3_use cX3_use 2 (some .boolean), Cond.methodLink RL 145 yL_arePersons, Cond.static yL_arePersons, Cond.code yL_arePersons cL_arePersons 13 (some .boolean), Cond.methodLink RL 84 yL_taintedAnew, Cond.static yL_taintedAnew, Cond.codeWith yL_taintedAnew cL_taintedAnew 3 (some .int) [(0, 13, 14, 16)], Cond.methodLink RL 60 yX3_taintedAnew, Cond.instanceMethod yX3_taintedAnew, Cond.selects RX3 yX3_taintedAnew yX3_taintedAnew, Cond.code yX3_taintedAnew cX3_taintedAnew 2 (some .boolean), Cond.methodLink RX3 185 yX1_replayInto, Cond.instanceMethod yX1_replayInto, Cond.selects RX1 yX1_replayInto yX1_replayInto, Cond.code yX1_replayInto cX1_replayInto 3 none]
def wsL_law0_r23 : List Cond := [Cond.methodLink RX1 35 yX2_reset, Cond.methodLink RX1 40 yX1_replayOne, Cond.instanceMethod yX1_replayOne, Cond.selects RX1 yX1_replayOne yX1_replayOne, Cond.code yX1_replayOne cX1_replayOne 3 none, Cond.methodLink RX1 44 yX2_tie, Cond.methodLink RX1 48 yX2_untie, Cond.methodLink RX1 52 yX2_markLost, Cond.methodLink RX1 56 yX2_renewBadge, Cond.methodLink RL 86 yL_door, Cond.static yL_door, Cond.codeWith yL_door cL_door 4 (some .int) [(0, 14, 15, 16)], Cond.methodLink RL 46 yX3_door, Cond.instanceMethod yX3_door, Cond.selects RX3 yX3_door yX3_door, Cond.code yX3_door cX3_door 3 (some .boolean), Cond.methodLink RL 88 yL_ending, Cond.static yL_ending, Cond.codeWith yL_ending cL_ending 3 (some .int) [(0, 5, 6, 16)], Cond.methodLink RL 66 yX3_ending, Cond.instanceMethod yX3_ending, Cond.selects RX3 yX3_ending yX3_ending, Cond.code yX3_ending cX3_ending 3 (some .int), Cond.methodLink RX3 194 yX0_countEndingAheadOf]
def wsL_law0_r24 : List Cond := [Cond.instanceMethod yX0_countEndingAheadOf, Cond.selects RX0 yX0_countEndingAheadOf yX0_countEndingAheadOf, Cond.code yX0_countEndingAheadOf cX0_countEndingAheadOf 5 (some .int), Cond.methodLink RX0 32 yX0_isInSession, Cond.methodLink RX0 36 yX0_endsAheadOf, Cond.instanceMethod yX0_endsAheadOf, Cond.selects RX0 yX0_endsAheadOf yX0_endsAheadOf, Cond.code yX0_endsAheadOf cX0_endsAheadOf 3 (some .boolean)]
def wsL_law0 : List Cond := (wsL_law0_r1 ++ (wsL_law0_r2 ++ (wsL_law0_r3 ++ (wsL_law0_r4 ++ (wsL_law0_r5 ++ (wsL_law0_r6 ++ (wsL_law0_r7 ++ (wsL_law0_r8 ++ (wsL_law0_r9 ++ (wsL_law0_r10 ++ (wsL_law0_r11 ++ (wsL_law0_r12 ++ (wsL_law0_r13 ++ (wsL_law0_r14 ++ (wsL_law0_r15 ++ (wsL_law0_r16 ++ (wsL_law0_r17 ++ (wsL_law0_r18 ++ (wsL_law0_r19 ++ (wsL_law0_r20 ++ (wsL_law0_r21 ++ (wsL_law0_r22 ++ (wsL_law0_r23 ++ wsL_law0_r24))))))))))))))))))))))) ++ wsX30 ++ wsX00 ++ wsX20 ++ wsX10 ++ wsJ40 ++ ([] : List Cond)
def wsL_law : List Cond := wsL_law0 ++ (vx_atS RX3 52 "java/lang/IndexOutOfBoundsException" ["java/lang/RuntimeException", "java/lang/Exception"]).filter goodWord ++ (vx_atS RX3 59 "java/lang/IllegalArgumentException" ["java/lang/RuntimeException", "java/lang/Exception"]).filter goodWord ++ (vx_atS RX3 68 "java/lang/IllegalStateException" ["java/lang/RuntimeException", "java/lang/Exception"]).filter goodWord
theorem inlX0 : ∀ w ∈ wsX00, w ∈ wsL_law := fun _ h => List.mem_append_left _ (List.mem_append_left _ (List.mem_append_left _ (List.mem_append_left _ (List.mem_append_left _ (List.mem_append_left _ (List.mem_append_left _ (List.mem_append_right _ h)))))))
theorem inlX1 : ∀ w ∈ wsX10, w ∈ wsL_law := fun _ h => List.mem_append_left _ (List.mem_append_left _ (List.mem_append_left _ (List.mem_append_left _ (List.mem_append_left _ (List.mem_append_right _ h)))))
theorem inlX2 : ∀ w ∈ wsX20, w ∈ wsL_law := fun _ h => List.mem_append_left _ (List.mem_append_left _ (List.mem_append_left _ (List.mem_append_left _ (List.mem_append_left _ (List.mem_append_left _ (List.mem_append_right _ h))))))
theorem inlX3 : ∀ w ∈ wsX30, w ∈ wsL_law := fun _ h => List.mem_append_left _ (List.mem_append_left _ (List.mem_append_left _ (List.mem_append_left _ (List.mem_append_left _ (List.mem_append_left _ (List.mem_append_left _ (List.mem_append_left _ (List.mem_append_right _ h))))))))
theorem inlJ4 : ∀ w ∈ wsJ40, w ∈ wsL_law := fun _ h => List.mem_append_left _ (List.mem_append_left _ (List.mem_append_left _ (List.mem_append_left _ (List.mem_append_right _ h))))
theorem dX0_init_0 : decode cX0_init 0 = .ok (.aload_n 0, 1) := by decide +kernel
theorem dX0_init_1 : decode cX0_init 1 = .ok (.invokespecial 3, 3) := by decide +kernel
theorem dX0_init_4 : decode cX0_init 4 = .ok (.aload_n 0, 1) := by decide +kernel
theorem dX0_init_5 : decode cX0_init 5 = .ok (.bipush 12, 2) := by decide +kernel
theorem dX0_init_7 : decode cX0_init 7 = .ok (.newarray .int, 2) := by decide +kernel
theorem dX0_init_9 : decode cX0_init 9 = .ok (.putfield 9, 3) := by decide +kernel
theorem dX0_init_12 : decode cX0_init 12 = .ok (.aload_n 0, 1) := by decide +kernel
theorem dX0_init_13 : decode cX0_init 13 = .ok (.bipush 12, 2) := by decide +kernel
theorem dX0_init_15 : decode cX0_init 15 = .ok (.newarray .int, 2) := by decide +kernel
theorem dX0_init_17 : decode cX0_init 17 = .ok (.putfield 15, 3) := by decide +kernel
theorem dX0_init_20 : decode cX0_init 20 = .ok (.aload_n 0, 1) := by decide +kernel
theorem dX0_init_21 : decode cX0_init 21 = .ok (.bipush 12, 2) := by decide +kernel
theorem dX0_init_23 : decode cX0_init 23 = .ok (.newarray .int, 2) := by decide +kernel
theorem dX0_init_25 : decode cX0_init 25 = .ok (.putfield 18, 3) := by decide +kernel
theorem dX0_init_28 : decode cX0_init 28 = .ok (.aload_n 0, 1) := by decide +kernel
theorem dX0_init_29 : decode cX0_init 29 = .ok (.bipush 12, 2) := by decide +kernel
theorem dX0_init_31 : decode cX0_init 31 = .ok (.newarray .int, 2) := by decide +kernel
theorem dX0_init_33 : decode cX0_init 33 = .ok (.putfield 21, 3) := by decide +kernel
theorem dX0_init_36 : decode cX0_init 36 = .ok (.iconst 0, 1) := by decide +kernel
theorem dX0_init_37 : decode cX0_init 37 = .ok (.istore_n 1, 1) := by decide +kernel
theorem dX0_init_38 : decode cX0_init 38 = .ok (.iload_n 1, 1) := by decide +kernel
theorem dX0_init_39 : decode cX0_init 39 = .ok (.bipush 12, 2) := by decide +kernel
theorem dX0_init_41 : decode cX0_init 41 = .ok (.if_icmp .ge 19, 3) := by decide +kernel
theorem dX0_init_44 : decode cX0_init 44 = .ok (.aload_n 0, 1) := by decide +kernel
theorem dX0_init_45 : decode cX0_init 45 = .ok (.getfield 9, 3) := by decide +kernel
theorem dX0_init_48 : decode cX0_init 48 = .ok (.iload_n 1, 1) := by decide +kernel
theorem dX0_init_49 : decode cX0_init 49 = .ok (.bipush 11, 2) := by decide +kernel
theorem dX0_init_51 : decode cX0_init 51 = .ok (.iload_n 1, 1) := by decide +kernel
theorem dX0_init_52 : decode cX0_init 52 = .ok (.imul, 1) := by decide +kernel
theorem dX0_init_53 : decode cX0_init 53 = .ok (.iastore, 1) := by decide +kernel
theorem dX0_init_54 : decode cX0_init 54 = .ok (.iinc 1 1, 3) := by decide +kernel
theorem dX0_init_57 : decode cX0_init 57 = .ok (.goto (-19), 3) := by decide +kernel
theorem dX0_init_60 : decode cX0_init 60 = .ok (.return_, 1) := by decide +kernel
theorem dX0_setWord_0 : decode cX0_setWord 0 = .ok (.aload_n 0, 1) := by decide +kernel
theorem dX0_setWord_1 : decode cX0_setWord 1 = .ok (.getfield 9, 3) := by decide +kernel
theorem dX0_setWord_4 : decode cX0_setWord 4 = .ok (.iload_n 1, 1) := by decide +kernel
theorem dX0_setWord_5 : decode cX0_setWord 5 = .ok (.iload_n 2, 1) := by decide +kernel
theorem dX0_setWord_6 : decode cX0_setWord 6 = .ok (.iastore, 1) := by decide +kernel
theorem dX0_setWord_7 : decode cX0_setWord 7 = .ok (.return_, 1) := by decide +kernel
set_option maxRecDepth 20000 in
theorem ggX0_tryLogin_X0_countFailure : GoodIn wsX0_tryLogin wsX0_countFailure := goodIn_r _ [9, 3, 1, 13, 14, 15, 16] (by decide +kernel) (by decide +kernel)
set_option maxRecDepth 20000 in
theorem gX0_tryLogin_X0_countFailure : GoodIn wsX0_tryLogin (wsV RX0 24 RX0 yX0_countFailure wsX0_countFailure) := goodIn_app (goodIn_of _ (by decide +kernel)) ggX0_tryLogin_X0_countFailure
set_option maxRecDepth 20000 in
theorem ggX0_tryLogin_X0_codeOf : GoodIn wsX0_tryLogin wsX0_codeOf := goodIn_r _ [12] (by decide +kernel) (by decide +kernel)
set_option maxRecDepth 20000 in
theorem gX0_tryLogin_X0_codeOf : GoodIn wsX0_tryLogin (va_wsS RX0 28 yX0_codeOf wsX0_codeOf) := goodIn_app (goodIn_of _ (by decide +kernel)) ggX0_tryLogin_X0_codeOf
theorem dX0_tryLogin_0 : decode cX0_tryLogin 0 = .ok (.iload 4, 2) := by decide +kernel
theorem dX0_tryLogin_2 : decode cX0_tryLogin 2 = .ok (.aload_n 0, 1) := by decide +kernel
theorem dX0_tryLogin_3 : decode cX0_tryLogin 3 = .ok (.getfield 18, 3) := by decide +kernel
theorem dX0_tryLogin_6 : decode cX0_tryLogin 6 = .ok (.iload_n 1, 1) := by decide +kernel
theorem dX0_tryLogin_7 : decode cX0_tryLogin 7 = .ok (.iaload, 1) := by decide +kernel
theorem dX0_tryLogin_8 : decode cX0_tryLogin 8 = .ok (.if_icmp .ge 5, 3) := by decide +kernel
theorem dX0_tryLogin_11 : decode cX0_tryLogin 11 = .ok (.iconst 3, 1) := by decide +kernel
theorem dX0_tryLogin_12 : decode cX0_tryLogin 12 = .ok (.ireturn, 1) := by decide +kernel
theorem dX0_tryLogin_13 : decode cX0_tryLogin 13 = .ok (.iload_n 2, 1) := by decide +kernel
theorem dX0_tryLogin_14 : decode cX0_tryLogin 14 = .ok (.aload_n 0, 1) := by decide +kernel
theorem dX0_tryLogin_15 : decode cX0_tryLogin 15 = .ok (.getfield 9, 3) := by decide +kernel
theorem dX0_tryLogin_18 : decode cX0_tryLogin 18 = .ok (.iload_n 1, 1) := by decide +kernel
theorem dX0_tryLogin_19 : decode cX0_tryLogin 19 = .ok (.iaload, 1) := by decide +kernel
theorem dX0_tryLogin_20 : decode cX0_tryLogin 20 = .ok (.if_icmp .eq 12, 3) := by decide +kernel
theorem dX0_tryLogin_23 : decode cX0_tryLogin 23 = .ok (.aload_n 0, 1) := by decide +kernel
theorem dX0_tryLogin_24 : decode cX0_tryLogin 24 = .ok (.iload_n 1, 1) := by decide +kernel
theorem dX0_tryLogin_25 : decode cX0_tryLogin 25 = .ok (.iload 4, 2) := by decide +kernel
theorem dX0_tryLogin_27 : decode cX0_tryLogin 27 = .ok (.invokevirtual 24, 3) := by decide +kernel
theorem dX0_tryLogin_30 : decode cX0_tryLogin 30 = .ok (.iconst 1, 1) := by decide +kernel
theorem dX0_tryLogin_31 : decode cX0_tryLogin 31 = .ok (.ireturn, 1) := by decide +kernel
theorem dX0_tryLogin_32 : decode cX0_tryLogin 32 = .ok (.iload_n 3, 1) := by decide +kernel
theorem dX0_tryLogin_33 : decode cX0_tryLogin 33 = .ok (.iload_n 1, 1) := by decide +kernel
theorem dX0_tryLogin_34 : decode cX0_tryLogin 34 = .ok (.iload 4, 2) := by decide +kernel
theorem dX0_tryLogin_36 : decode cX0_tryLogin 36 = .ok (.invokestatic 28, 3) := by decide +kernel
theorem dX0_tryLogin_39 : decode cX0_tryLogin 39 = .ok (.if_icmp .eq 12, 3) := by decide +kernel
theorem dX0_tryLogin_42 : decode cX0_tryLogin 42 = .ok (.aload_n 0, 1) := by decide +kernel
theorem dX0_tryLogin_43 : decode cX0_tryLogin 43 = .ok (.iload_n 1, 1) := by decide +kernel
theorem dX0_tryLogin_44 : decode cX0_tryLogin 44 = .ok (.iload 4, 2) := by decide +kernel
theorem dX0_tryLogin_46 : decode cX0_tryLogin 46 = .ok (.invokevirtual 24, 3) := by decide +kernel
theorem dX0_tryLogin_49 : decode cX0_tryLogin 49 = .ok (.iconst 2, 1) := by decide +kernel
theorem dX0_tryLogin_50 : decode cX0_tryLogin 50 = .ok (.ireturn, 1) := by decide +kernel
theorem dX0_tryLogin_51 : decode cX0_tryLogin 51 = .ok (.aload_n 0, 1) := by decide +kernel
theorem dX0_tryLogin_52 : decode cX0_tryLogin 52 = .ok (.getfield 15, 3) := by decide +kernel
theorem dX0_tryLogin_55 : decode cX0_tryLogin 55 = .ok (.iload_n 1, 1) := by decide +kernel
theorem dX0_tryLogin_56 : decode cX0_tryLogin 56 = .ok (.iconst 0, 1) := by decide +kernel
theorem dX0_tryLogin_57 : decode cX0_tryLogin 57 = .ok (.iastore, 1) := by decide +kernel
theorem dX0_tryLogin_58 : decode cX0_tryLogin 58 = .ok (.aload_n 0, 1) := by decide +kernel
theorem dX0_tryLogin_59 : decode cX0_tryLogin 59 = .ok (.getfield 21, 3) := by decide +kernel
theorem dX0_tryLogin_62 : decode cX0_tryLogin 62 = .ok (.iload_n 1, 1) := by decide +kernel
theorem dX0_tryLogin_63 : decode cX0_tryLogin 63 = .ok (.iload 4, 2) := by decide +kernel
theorem dX0_tryLogin_65 : decode cX0_tryLogin 65 = .ok (.bipush 30, 2) := by decide +kernel
theorem dX0_tryLogin_67 : decode cX0_tryLogin 67 = .ok (.iadd, 1) := by decide +kernel
theorem dX0_tryLogin_68 : decode cX0_tryLogin 68 = .ok (.iastore, 1) := by decide +kernel
theorem dX0_tryLogin_69 : decode cX0_tryLogin 69 = .ok (.iconst 0, 1) := by decide +kernel
theorem dX0_tryLogin_70 : decode cX0_tryLogin 70 = .ok (.ireturn, 1) := by decide +kernel
theorem dX0_codeOf_0 : decode cX0_codeOf 0 = .ok (.bipush 7, 2) := by decide +kernel
theorem dX0_codeOf_2 : decode cX0_codeOf 2 = .ok (.iload_n 0, 1) := by decide +kernel
theorem dX0_codeOf_3 : decode cX0_codeOf 3 = .ok (.imul, 1) := by decide +kernel
theorem dX0_codeOf_4 : decode cX0_codeOf 4 = .ok (.iconst 3, 1) := by decide +kernel
theorem dX0_codeOf_5 : decode cX0_codeOf 5 = .ok (.iload_n 1, 1) := by decide +kernel
theorem dX0_codeOf_6 : decode cX0_codeOf 6 = .ok (.imul, 1) := by decide +kernel
theorem dX0_codeOf_7 : decode cX0_codeOf 7 = .ok (.iadd, 1) := by decide +kernel
theorem dX0_codeOf_8 : decode cX0_codeOf 8 = .ok (.bipush 10, 2) := by decide +kernel
theorem dX0_codeOf_10 : decode cX0_codeOf 10 = .ok (.irem, 1) := by decide +kernel
theorem dX0_codeOf_11 : decode cX0_codeOf 11 = .ok (.ireturn, 1) := by decide +kernel
theorem dX0_countFailure_0 : decode cX0_countFailure 0 = .ok (.aload_n 0, 1) := by decide +kernel
theorem dX0_countFailure_1 : decode cX0_countFailure 1 = .ok (.getfield 15, 3) := by decide +kernel
theorem dX0_countFailure_4 : decode cX0_countFailure 4 = .ok (.iload_n 1, 1) := by decide +kernel
theorem dX0_countFailure_5 : decode cX0_countFailure 5 = .ok (.dup2, 1) := by decide +kernel
theorem dX0_countFailure_6 : decode cX0_countFailure 6 = .ok (.iaload, 1) := by decide +kernel
theorem dX0_countFailure_7 : decode cX0_countFailure 7 = .ok (.iconst 1, 1) := by decide +kernel
theorem dX0_countFailure_8 : decode cX0_countFailure 8 = .ok (.iadd, 1) := by decide +kernel
theorem dX0_countFailure_9 : decode cX0_countFailure 9 = .ok (.iastore, 1) := by decide +kernel
theorem dX0_countFailure_10 : decode cX0_countFailure 10 = .ok (.aload_n 0, 1) := by decide +kernel
theorem dX0_countFailure_11 : decode cX0_countFailure 11 = .ok (.getfield 15, 3) := by decide +kernel
theorem dX0_countFailure_14 : decode cX0_countFailure 14 = .ok (.iload_n 1, 1) := by decide +kernel
theorem dX0_countFailure_15 : decode cX0_countFailure 15 = .ok (.iaload, 1) := by decide +kernel
theorem dX0_countFailure_16 : decode cX0_countFailure 16 = .ok (.iconst 3, 1) := by decide +kernel
theorem dX0_countFailure_17 : decode cX0_countFailure 17 = .ok (.if_icmp .lt 20, 3) := by decide +kernel
theorem dX0_countFailure_20 : decode cX0_countFailure 20 = .ok (.aload_n 0, 1) := by decide +kernel
theorem dX0_countFailure_21 : decode cX0_countFailure 21 = .ok (.getfield 15, 3) := by decide +kernel
theorem dX0_countFailure_24 : decode cX0_countFailure 24 = .ok (.iload_n 1, 1) := by decide +kernel
theorem dX0_countFailure_25 : decode cX0_countFailure 25 = .ok (.iconst 0, 1) := by decide +kernel
theorem dX0_countFailure_26 : decode cX0_countFailure 26 = .ok (.iastore, 1) := by decide +kernel
theorem dX0_countFailure_27 : decode cX0_countFailure 27 = .ok (.aload_n 0, 1) := by decide +kernel
theorem dX0_countFailure_28 : decode cX0_countFailure 28 = .ok (.getfield 18, 3) := by decide +kernel
theorem dX0_countFailure_31 : decode cX0_countFailure 31 = .ok (.iload_n 1, 1) := by decide +kernel
theorem dX0_countFailure_32 : decode cX0_countFailure 32 = .ok (.iload_n 2, 1) := by decide +kernel
theorem dX0_countFailure_33 : decode cX0_countFailure 33 = .ok (.bipush 10, 2) := by decide +kernel
theorem dX0_countFailure_35 : decode cX0_countFailure 35 = .ok (.iadd, 1) := by decide +kernel
theorem dX0_countFailure_36 : decode cX0_countFailure 36 = .ok (.iastore, 1) := by decide +kernel
theorem dX0_countFailure_37 : decode cX0_countFailure 37 = .ok (.return_, 1) := by decide +kernel
theorem dX0_isInSession_0 : decode cX0_isInSession 0 = .ok (.iload_n 2, 1) := by decide +kernel
theorem dX0_isInSession_1 : decode cX0_isInSession 1 = .ok (.aload_n 0, 1) := by decide +kernel
theorem dX0_isInSession_2 : decode cX0_isInSession 2 = .ok (.getfield 21, 3) := by decide +kernel
theorem dX0_isInSession_5 : decode cX0_isInSession 5 = .ok (.iload_n 1, 1) := by decide +kernel
theorem dX0_isInSession_6 : decode cX0_isInSession 6 = .ok (.iaload, 1) := by decide +kernel
theorem dX0_isInSession_7 : decode cX0_isInSession 7 = .ok (.if_icmp .ge 7, 3) := by decide +kernel
theorem dX0_isInSession_10 : decode cX0_isInSession 10 = .ok (.iconst 1, 1) := by decide +kernel
theorem dX0_isInSession_11 : decode cX0_isInSession 11 = .ok (.goto 4, 3) := by decide +kernel
theorem dX0_isInSession_14 : decode cX0_isInSession 14 = .ok (.iconst 0, 1) := by decide +kernel
theorem dX0_isInSession_15 : decode cX0_isInSession 15 = .ok (.ireturn, 1) := by decide +kernel
theorem dX0_failuresOf_0 : decode cX0_failuresOf 0 = .ok (.aload_n 0, 1) := by decide +kernel
theorem dX0_failuresOf_1 : decode cX0_failuresOf 1 = .ok (.getfield 15, 3) := by decide +kernel
theorem dX0_failuresOf_4 : decode cX0_failuresOf 4 = .ok (.iload_n 1, 1) := by decide +kernel
theorem dX0_failuresOf_5 : decode cX0_failuresOf 5 = .ok (.iaload, 1) := by decide +kernel
theorem dX0_failuresOf_6 : decode cX0_failuresOf 6 = .ok (.ireturn, 1) := by decide +kernel
theorem dX0_sessionEndOf_0 : decode cX0_sessionEndOf 0 = .ok (.aload_n 0, 1) := by decide +kernel
theorem dX0_sessionEndOf_1 : decode cX0_sessionEndOf 1 = .ok (.getfield 21, 3) := by decide +kernel
theorem dX0_sessionEndOf_4 : decode cX0_sessionEndOf 4 = .ok (.iload_n 1, 1) := by decide +kernel
theorem dX0_sessionEndOf_5 : decode cX0_sessionEndOf 5 = .ok (.iaload, 1) := by decide +kernel
theorem dX0_sessionEndOf_6 : decode cX0_sessionEndOf 6 = .ok (.ireturn, 1) := by decide +kernel
set_option maxRecDepth 20000 in
theorem ggX0_countEndingAheadOf_X0_isInSession : GoodIn wsX0_countEndingAheadOf wsX0_isInSession := goodIn_r _ [5, 6, 11, 12, 13, 14] (by decide +kernel) (by decide +kernel)
set_option maxRecDepth 20000 in
theorem gX0_countEndingAheadOf_X0_isInSession : GoodIn wsX0_countEndingAheadOf (wsV RX0 32 RX0 yX0_isInSession wsX0_isInSession) := goodIn_app (goodIn_of _ (by decide +kernel)) ggX0_countEndingAheadOf_X0_isInSession
set_option maxRecDepth 20000 in
theorem ggX0_countEndingAheadOf_X0_endsAheadOf : GoodIn wsX0_countEndingAheadOf wsX0_endsAheadOf := goodIn_r _ [10, 6, 11, 12, 13, 14] (by decide +kernel) (by decide +kernel)
set_option maxRecDepth 20000 in
theorem gX0_countEndingAheadOf_X0_endsAheadOf : GoodIn wsX0_countEndingAheadOf (wsV RX0 36 RX0 yX0_endsAheadOf wsX0_endsAheadOf) := goodIn_app (goodIn_of _ (by decide +kernel)) ggX0_countEndingAheadOf_X0_endsAheadOf
theorem dX0_countEndingAheadOf_0 : decode cX0_countEndingAheadOf 0 = .ok (.iconst 0, 1) := by decide +kernel
theorem dX0_countEndingAheadOf_1 : decode cX0_countEndingAheadOf 1 = .ok (.istore_n 3, 1) := by decide +kernel
theorem dX0_countEndingAheadOf_2 : decode cX0_countEndingAheadOf 2 = .ok (.iconst 0, 1) := by decide +kernel
theorem dX0_countEndingAheadOf_3 : decode cX0_countEndingAheadOf 3 = .ok (.istore 4, 2) := by decide +kernel
theorem dX0_countEndingAheadOf_5 : decode cX0_countEndingAheadOf 5 = .ok (.iload 4, 2) := by decide +kernel
theorem dX0_countEndingAheadOf_7 : decode cX0_countEndingAheadOf 7 = .ok (.bipush 12, 2) := by decide +kernel
theorem dX0_countEndingAheadOf_9 : decode cX0_countEndingAheadOf 9 = .ok (.if_icmp .ge 32, 3) := by decide +kernel
theorem dX0_countEndingAheadOf_12 : decode cX0_countEndingAheadOf 12 = .ok (.aload_n 0, 1) := by decide +kernel
theorem dX0_countEndingAheadOf_13 : decode cX0_countEndingAheadOf 13 = .ok (.iload 4, 2) := by decide +kernel
theorem dX0_countEndingAheadOf_15 : decode cX0_countEndingAheadOf 15 = .ok (.iload_n 2, 1) := by decide +kernel
theorem dX0_countEndingAheadOf_16 : decode cX0_countEndingAheadOf 16 = .ok (.invokevirtual 32, 3) := by decide +kernel
theorem dX0_countEndingAheadOf_19 : decode cX0_countEndingAheadOf 19 = .ok (.ifCond .eq 16, 3) := by decide +kernel
theorem dX0_countEndingAheadOf_22 : decode cX0_countEndingAheadOf 22 = .ok (.aload_n 0, 1) := by decide +kernel
theorem dX0_countEndingAheadOf_23 : decode cX0_countEndingAheadOf 23 = .ok (.iload 4, 2) := by decide +kernel
theorem dX0_countEndingAheadOf_25 : decode cX0_countEndingAheadOf 25 = .ok (.iload_n 1, 1) := by decide +kernel
theorem dX0_countEndingAheadOf_26 : decode cX0_countEndingAheadOf 26 = .ok (.invokevirtual 36, 3) := by decide +kernel
theorem dX0_countEndingAheadOf_29 : decode cX0_countEndingAheadOf 29 = .ok (.ifCond .eq 6, 3) := by decide +kernel
theorem dX0_countEndingAheadOf_32 : decode cX0_countEndingAheadOf 32 = .ok (.iinc 3 1, 3) := by decide +kernel
theorem dX0_countEndingAheadOf_35 : decode cX0_countEndingAheadOf 35 = .ok (.iinc 4 1, 3) := by decide +kernel
theorem dX0_countEndingAheadOf_38 : decode cX0_countEndingAheadOf 38 = .ok (.goto (-33), 3) := by decide +kernel
theorem dX0_countEndingAheadOf_41 : decode cX0_countEndingAheadOf 41 = .ok (.iload_n 3, 1) := by decide +kernel
theorem dX0_countEndingAheadOf_42 : decode cX0_countEndingAheadOf 42 = .ok (.ireturn, 1) := by decide +kernel
theorem dX0_endsAheadOf_0 : decode cX0_endsAheadOf 0 = .ok (.aload_n 0, 1) := by decide +kernel
theorem dX0_endsAheadOf_1 : decode cX0_endsAheadOf 1 = .ok (.getfield 21, 3) := by decide +kernel
theorem dX0_endsAheadOf_4 : decode cX0_endsAheadOf 4 = .ok (.iload_n 1, 1) := by decide +kernel
theorem dX0_endsAheadOf_5 : decode cX0_endsAheadOf 5 = .ok (.iaload, 1) := by decide +kernel
theorem dX0_endsAheadOf_6 : decode cX0_endsAheadOf 6 = .ok (.aload_n 0, 1) := by decide +kernel
theorem dX0_endsAheadOf_7 : decode cX0_endsAheadOf 7 = .ok (.getfield 21, 3) := by decide +kernel
theorem dX0_endsAheadOf_10 : decode cX0_endsAheadOf 10 = .ok (.iload_n 2, 1) := by decide +kernel
theorem dX0_endsAheadOf_11 : decode cX0_endsAheadOf 11 = .ok (.iaload, 1) := by decide +kernel
theorem dX0_endsAheadOf_12 : decode cX0_endsAheadOf 12 = .ok (.if_icmp .eq 24, 3) := by decide +kernel
theorem dX0_endsAheadOf_15 : decode cX0_endsAheadOf 15 = .ok (.aload_n 0, 1) := by decide +kernel
theorem dX0_endsAheadOf_16 : decode cX0_endsAheadOf 16 = .ok (.getfield 21, 3) := by decide +kernel
theorem dX0_endsAheadOf_19 : decode cX0_endsAheadOf 19 = .ok (.iload_n 1, 1) := by decide +kernel
theorem dX0_endsAheadOf_20 : decode cX0_endsAheadOf 20 = .ok (.iaload, 1) := by decide +kernel
theorem dX0_endsAheadOf_21 : decode cX0_endsAheadOf 21 = .ok (.aload_n 0, 1) := by decide +kernel
theorem dX0_endsAheadOf_22 : decode cX0_endsAheadOf 22 = .ok (.getfield 21, 3) := by decide +kernel
theorem dX0_endsAheadOf_25 : decode cX0_endsAheadOf 25 = .ok (.iload_n 2, 1) := by decide +kernel
theorem dX0_endsAheadOf_26 : decode cX0_endsAheadOf 26 = .ok (.iaload, 1) := by decide +kernel
theorem dX0_endsAheadOf_27 : decode cX0_endsAheadOf 27 = .ok (.if_icmp .ge 7, 3) := by decide +kernel
theorem dX0_endsAheadOf_30 : decode cX0_endsAheadOf 30 = .ok (.iconst 1, 1) := by decide +kernel
theorem dX0_endsAheadOf_31 : decode cX0_endsAheadOf 31 = .ok (.goto 4, 3) := by decide +kernel
theorem dX0_endsAheadOf_34 : decode cX0_endsAheadOf 34 = .ok (.iconst 0, 1) := by decide +kernel
theorem dX0_endsAheadOf_35 : decode cX0_endsAheadOf 35 = .ok (.ireturn, 1) := by decide +kernel
theorem dX0_endsAheadOf_36 : decode cX0_endsAheadOf 36 = .ok (.iload_n 1, 1) := by decide +kernel
theorem dX0_endsAheadOf_37 : decode cX0_endsAheadOf 37 = .ok (.iload_n 2, 1) := by decide +kernel
theorem dX0_endsAheadOf_38 : decode cX0_endsAheadOf 38 = .ok (.if_icmp .ge 7, 3) := by decide +kernel
theorem dX0_endsAheadOf_41 : decode cX0_endsAheadOf 41 = .ok (.iconst 1, 1) := by decide +kernel
theorem dX0_endsAheadOf_42 : decode cX0_endsAheadOf 42 = .ok (.goto 4, 3) := by decide +kernel
theorem dX0_endsAheadOf_45 : decode cX0_endsAheadOf 45 = .ok (.iconst 0, 1) := by decide +kernel
theorem dX0_endsAheadOf_46 : decode cX0_endsAheadOf 46 = .ok (.ireturn, 1) := by decide +kernel
theorem dX1_init_0 : decode cX1_init 0 = .ok (.aload_n 0, 1) := by decide +kernel
theorem dX1_init_1 : decode cX1_init 1 = .ok (.invokespecial 3, 3) := by decide +kernel
theorem dX1_init_4 : decode cX1_init 4 = .ok (.aload_n 0, 1) := by decide +kernel
theorem dX1_init_5 : decode cX1_init 5 = .ok (.sipush 512, 3) := by decide +kernel
theorem dX1_init_8 : decode cX1_init 8 = .ok (.newarray .int, 2) := by decide +kernel
theorem dX1_init_10 : decode cX1_init 10 = .ok (.putfield 9, 3) := by decide +kernel
theorem dX1_init_13 : decode cX1_init 13 = .ok (.aload_n 0, 1) := by decide +kernel
theorem dX1_init_14 : decode cX1_init 14 = .ok (.sipush 512, 3) := by decide +kernel
theorem dX1_init_17 : decode cX1_init 17 = .ok (.newarray .int, 2) := by decide +kernel
theorem dX1_init_19 : decode cX1_init 19 = .ok (.putfield 15, 3) := by decide +kernel
theorem dX1_init_22 : decode cX1_init 22 = .ok (.aload_n 0, 1) := by decide +kernel
theorem dX1_init_23 : decode cX1_init 23 = .ok (.sipush 512, 3) := by decide +kernel
theorem dX1_init_26 : decode cX1_init 26 = .ok (.newarray .int, 2) := by decide +kernel
theorem dX1_init_28 : decode cX1_init 28 = .ok (.putfield 18, 3) := by decide +kernel
theorem dX1_init_31 : decode cX1_init 31 = .ok (.aload_n 0, 1) := by decide +kernel
theorem dX1_init_32 : decode cX1_init 32 = .ok (.sipush 512, 3) := by decide +kernel
theorem dX1_init_35 : decode cX1_init 35 = .ok (.newarray .int, 2) := by decide +kernel
theorem dX1_init_37 : decode cX1_init 37 = .ok (.putfield 21, 3) := by decide +kernel
theorem dX1_init_40 : decode cX1_init 40 = .ok (.aload_n 0, 1) := by decide +kernel
theorem dX1_init_41 : decode cX1_init 41 = .ok (.iconst 0, 1) := by decide +kernel
theorem dX1_init_42 : decode cX1_init 42 = .ok (.putfield 24, 3) := by decide +kernel
theorem dX1_init_45 : decode cX1_init 45 = .ok (.aload_n 0, 1) := by decide +kernel
theorem dX1_init_46 : decode cX1_init 46 = .ok (.iconst 0, 1) := by decide +kernel
theorem dX1_init_47 : decode cX1_init 47 = .ok (.putfield 28, 3) := by decide +kernel
theorem dX1_init_50 : decode cX1_init 50 = .ok (.return_, 1) := by decide +kernel
theorem dX1_countVouchings_0 : decode cX1_countVouchings 0 = .ok (.aload_n 0, 1) := by decide +kernel
theorem dX1_countVouchings_1 : decode cX1_countVouchings 1 = .ok (.getfield 28, 3) := by decide +kernel
theorem dX1_countVouchings_4 : decode cX1_countVouchings 4 = .ok (.ireturn, 1) := by decide +kernel
set_option maxRecDepth 20000 in
theorem ggX1_addVouching_X1_add : GoodIn wsX1_addVouching wsX1_add := goodIn_r _ [6, 7, 8, 9, 10, 11, 12, 13, 14, 15, 16, 17] (by decide +kernel) (by decide +kernel)
set_option maxRecDepth 20000 in
theorem gX1_addVouching_X1_add : GoodIn wsX1_addVouching (wsV RX1 31 RX1 yX1_add wsX1_add) := goodIn_app (goodIn_of _ (by decide +kernel)) ggX1_addVouching_X1_add
theorem dX1_addVouching_0 : decode cX1_addVouching 0 = .ok (.aload_n 0, 1) := by decide +kernel
theorem dX1_addVouching_1 : decode cX1_addVouching 1 = .ok (.iconst 0, 1) := by decide +kernel
theorem dX1_addVouching_2 : decode cX1_addVouching 2 = .ok (.iload_n 1, 1) := by decide +kernel
theorem dX1_addVouching_3 : decode cX1_addVouching 3 = .ok (.iload_n 2, 1) := by decide +kernel
theorem dX1_addVouching_4 : decode cX1_addVouching 4 = .ok (.iload_n 3, 1) := by decide +kernel
theorem dX1_addVouching_5 : decode cX1_addVouching 5 = .ok (.invokevirtual 31, 3) := by decide +kernel
theorem dX1_addVouching_8 : decode cX1_addVouching 8 = .ok (.aload_n 0, 1) := by decide +kernel
theorem dX1_addVouching_9 : decode cX1_addVouching 9 = .ok (.dup, 1) := by decide +kernel
theorem dX1_addVouching_10 : decode cX1_addVouching 10 = .ok (.getfield 28, 3) := by decide +kernel
theorem dX1_addVouching_13 : decode cX1_addVouching 13 = .ok (.iconst 1, 1) := by decide +kernel
theorem dX1_addVouching_14 : decode cX1_addVouching 14 = .ok (.iadd, 1) := by decide +kernel
theorem dX1_addVouching_15 : decode cX1_addVouching 15 = .ok (.putfield 28, 3) := by decide +kernel
theorem dX1_addVouching_18 : decode cX1_addVouching 18 = .ok (.return_, 1) := by decide +kernel
set_option maxRecDepth 20000 in
theorem ggX1_addEnding_X1_add : GoodIn wsX1_addEnding wsX1_add := goodIn_r _ [5, 6, 7, 8, 9, 10, 11, 12, 13, 14, 15, 16] (by decide +kernel) (by decide +kernel)
set_option maxRecDepth 20000 in
theorem gX1_addEnding_X1_add : GoodIn wsX1_addEnding (wsV RX1 31 RX1 yX1_add wsX1_add) := goodIn_app (goodIn_of _ (by decide +kernel)) ggX1_addEnding_X1_add
theorem dX1_addEnding_0 : decode cX1_addEnding 0 = .ok (.aload_n 0, 1) := by decide +kernel
theorem dX1_addEnding_1 : decode cX1_addEnding 1 = .ok (.iconst 1, 1) := by decide +kernel
theorem dX1_addEnding_2 : decode cX1_addEnding 2 = .ok (.iconst (-1), 1) := by decide +kernel
theorem dX1_addEnding_3 : decode cX1_addEnding 3 = .ok (.iload_n 1, 1) := by decide +kernel
theorem dX1_addEnding_4 : decode cX1_addEnding 4 = .ok (.iconst 0, 1) := by decide +kernel
theorem dX1_addEnding_5 : decode cX1_addEnding 5 = .ok (.invokevirtual 31, 3) := by decide +kernel
theorem dX1_addEnding_8 : decode cX1_addEnding 8 = .ok (.return_, 1) := by decide +kernel
set_option maxRecDepth 20000 in
theorem ggX1_addLoss_X1_add : GoodIn wsX1_addLoss wsX1_add := goodIn_r _ [5, 6, 7, 8, 9, 10, 11, 12, 13, 14, 15, 16] (by decide +kernel) (by decide +kernel)
set_option maxRecDepth 20000 in
theorem gX1_addLoss_X1_add : GoodIn wsX1_addLoss (wsV RX1 31 RX1 yX1_add wsX1_add) := goodIn_app (goodIn_of _ (by decide +kernel)) ggX1_addLoss_X1_add
theorem dX1_addLoss_0 : decode cX1_addLoss 0 = .ok (.aload_n 0, 1) := by decide +kernel
theorem dX1_addLoss_1 : decode cX1_addLoss 1 = .ok (.iconst 2, 1) := by decide +kernel
theorem dX1_addLoss_2 : decode cX1_addLoss 2 = .ok (.iload_n 1, 1) := by decide +kernel
theorem dX1_addLoss_3 : decode cX1_addLoss 3 = .ok (.iconst (-1), 1) := by decide +kernel
theorem dX1_addLoss_4 : decode cX1_addLoss 4 = .ok (.iload_n 2, 1) := by decide +kernel
theorem dX1_addLoss_5 : decode cX1_addLoss 5 = .ok (.invokevirtual 31, 3) := by decide +kernel
theorem dX1_addLoss_8 : decode cX1_addLoss 8 = .ok (.return_, 1) := by decide +kernel
set_option maxRecDepth 20000 in
theorem ggX1_addIssue_X1_add : GoodIn wsX1_addIssue wsX1_add := goodIn_r _ [5, 6, 7, 8, 9, 10, 11, 12, 13, 14, 15, 16] (by decide +kernel) (by decide +kernel)
set_option maxRecDepth 20000 in
theorem gX1_addIssue_X1_add : GoodIn wsX1_addIssue (wsV RX1 31 RX1 yX1_add wsX1_add) := goodIn_app (goodIn_of _ (by decide +kernel)) ggX1_addIssue_X1_add
theorem dX1_addIssue_0 : decode cX1_addIssue 0 = .ok (.aload_n 0, 1) := by decide +kernel
theorem dX1_addIssue_1 : decode cX1_addIssue 1 = .ok (.iconst 3, 1) := by decide +kernel
theorem dX1_addIssue_2 : decode cX1_addIssue 2 = .ok (.iload_n 1, 1) := by decide +kernel
theorem dX1_addIssue_3 : decode cX1_addIssue 3 = .ok (.iconst (-1), 1) := by decide +kernel
theorem dX1_addIssue_4 : decode cX1_addIssue 4 = .ok (.iconst 0, 1) := by decide +kernel
theorem dX1_addIssue_5 : decode cX1_addIssue 5 = .ok (.invokevirtual 31, 3) := by decide +kernel
theorem dX1_addIssue_8 : decode cX1_addIssue 8 = .ok (.return_, 1) := by decide +kernel
theorem dX1_add_0 : decode cX1_add 0 = .ok (.aload_n 0, 1) := by decide +kernel
theorem dX1_add_1 : decode cX1_add 1 = .ok (.getfield 24, 3) := by decide +kernel
theorem dX1_add_4 : decode cX1_add 4 = .ok (.sipush 512, 3) := by decide +kernel
theorem dX1_add_7 : decode cX1_add 7 = .ok (.if_icmp .lt 4, 3) := by decide +kernel
theorem dX1_add_10 : decode cX1_add 10 = .ok (.return_, 1) := by decide +kernel
theorem dX1_add_11 : decode cX1_add 11 = .ok (.aload_n 0, 1) := by decide +kernel
theorem dX1_add_12 : decode cX1_add 12 = .ok (.getfield 9, 3) := by decide +kernel
theorem dX1_add_15 : decode cX1_add 15 = .ok (.aload_n 0, 1) := by decide +kernel
theorem dX1_add_16 : decode cX1_add 16 = .ok (.getfield 24, 3) := by decide +kernel
theorem dX1_add_19 : decode cX1_add 19 = .ok (.iload_n 1, 1) := by decide +kernel
theorem dX1_add_20 : decode cX1_add 20 = .ok (.iastore, 1) := by decide +kernel
theorem dX1_add_21 : decode cX1_add 21 = .ok (.aload_n 0, 1) := by decide +kernel
theorem dX1_add_22 : decode cX1_add 22 = .ok (.getfield 15, 3) := by decide +kernel
theorem dX1_add_25 : decode cX1_add 25 = .ok (.aload_n 0, 1) := by decide +kernel
theorem dX1_add_26 : decode cX1_add 26 = .ok (.getfield 24, 3) := by decide +kernel
theorem dX1_add_29 : decode cX1_add 29 = .ok (.iload_n 2, 1) := by decide +kernel
theorem dX1_add_30 : decode cX1_add 30 = .ok (.iastore, 1) := by decide +kernel
theorem dX1_add_31 : decode cX1_add 31 = .ok (.aload_n 0, 1) := by decide +kernel
theorem dX1_add_32 : decode cX1_add 32 = .ok (.getfield 18, 3) := by decide +kernel
theorem dX1_add_35 : decode cX1_add 35 = .ok (.aload_n 0, 1) := by decide +kernel
theorem dX1_add_36 : decode cX1_add 36 = .ok (.getfield 24, 3) := by decide +kernel
theorem dX1_add_39 : decode cX1_add 39 = .ok (.iload_n 3, 1) := by decide +kernel
theorem dX1_add_40 : decode cX1_add 40 = .ok (.iastore, 1) := by decide +kernel
theorem dX1_add_41 : decode cX1_add 41 = .ok (.aload_n 0, 1) := by decide +kernel
theorem dX1_add_42 : decode cX1_add 42 = .ok (.getfield 21, 3) := by decide +kernel
theorem dX1_add_45 : decode cX1_add 45 = .ok (.aload_n 0, 1) := by decide +kernel
theorem dX1_add_46 : decode cX1_add 46 = .ok (.getfield 24, 3) := by decide +kernel
theorem dX1_add_49 : decode cX1_add 49 = .ok (.iload 4, 2) := by decide +kernel
theorem dX1_add_51 : decode cX1_add 51 = .ok (.iastore, 1) := by decide +kernel
theorem dX1_add_52 : decode cX1_add 52 = .ok (.aload_n 0, 1) := by decide +kernel
theorem dX1_add_53 : decode cX1_add 53 = .ok (.dup, 1) := by decide +kernel
theorem dX1_add_54 : decode cX1_add 54 = .ok (.getfield 24, 3) := by decide +kernel
theorem dX1_add_57 : decode cX1_add 57 = .ok (.iconst 1, 1) := by decide +kernel
theorem dX1_add_58 : decode cX1_add 58 = .ok (.iadd, 1) := by decide +kernel
theorem dX1_add_59 : decode cX1_add 59 = .ok (.putfield 24, 3) := by decide +kernel
theorem dX1_add_62 : decode cX1_add 62 = .ok (.return_, 1) := by decide +kernel
set_option maxRecDepth 20000 in
theorem ggX1_replayInto_X2_reset : GoodIn wsX1_replayInto wsX2_reset := goodIn_r _ [6, 7, 8, 9, 10, 11, 45, 46, 47, 48, 49, 50, 51, 52] (by decide +kernel) (by decide +kernel)
set_option maxRecDepth 20000 in
theorem gX1_replayInto_X2_reset : GoodIn wsX1_replayInto (wsV RX1 35 RX2 yX2_reset wsX2_reset) := goodIn_app (goodIn_of _ (by decide +kernel)) ggX1_replayInto_X2_reset
set_option maxRecDepth 20000 in
theorem ggX1_replayInto_X1_replayOne : GoodIn wsX1_replayInto wsX1_replayOne := goodIn_r _ [16, 17, 18, 19, 20, 21, 22, 23, 5, 24, 7, 25, 26, 9, 8, 27, 28, 29, 30, 31, 32, 33, 34, 10, 35, 36, 37, 38, 11, 39, 40, 41, 42, 43, 44, 45, 46, 47, 48, 49, 50, 51, 52] (by decide +kernel) (by decide +kernel)
set_option maxRecDepth 20000 in
theorem gX1_replayInto_X1_replayOne : GoodIn wsX1_replayInto (wsV RX1 40 RX1 yX1_replayOne wsX1_replayOne) := goodIn_app (goodIn_of _ (by decide +kernel)) ggX1_replayInto_X1_replayOne
theorem dX1_replayInto_0 : decode cX1_replayInto 0 = .ok (.aload_n 1, 1) := by decide +kernel
theorem dX1_replayInto_1 : decode cX1_replayInto 1 = .ok (.invokevirtual 35, 3) := by decide +kernel
theorem dX1_replayInto_4 : decode cX1_replayInto 4 = .ok (.iconst 0, 1) := by decide +kernel
theorem dX1_replayInto_5 : decode cX1_replayInto 5 = .ok (.istore_n 2, 1) := by decide +kernel
theorem dX1_replayInto_6 : decode cX1_replayInto 6 = .ok (.iload_n 2, 1) := by decide +kernel
theorem dX1_replayInto_7 : decode cX1_replayInto 7 = .ok (.aload_n 0, 1) := by decide +kernel
theorem dX1_replayInto_8 : decode cX1_replayInto 8 = .ok (.getfield 24, 3) := by decide +kernel
theorem dX1_replayInto_11 : decode cX1_replayInto 11 = .ok (.if_icmp .ge 15, 3) := by decide +kernel
theorem dX1_replayInto_14 : decode cX1_replayInto 14 = .ok (.aload_n 0, 1) := by decide +kernel
theorem dX1_replayInto_15 : decode cX1_replayInto 15 = .ok (.iload_n 2, 1) := by decide +kernel
theorem dX1_replayInto_16 : decode cX1_replayInto 16 = .ok (.aload_n 1, 1) := by decide +kernel
theorem dX1_replayInto_17 : decode cX1_replayInto 17 = .ok (.invokevirtual 40, 3) := by decide +kernel
theorem dX1_replayInto_20 : decode cX1_replayInto 20 = .ok (.iinc 2 1, 3) := by decide +kernel
theorem dX1_replayInto_23 : decode cX1_replayInto 23 = .ok (.goto (-17), 3) := by decide +kernel
theorem dX1_replayInto_26 : decode cX1_replayInto 26 = .ok (.return_, 1) := by decide +kernel
set_option maxRecDepth 20000 in
theorem ggX1_replayOne_X2_tie : GoodIn wsX1_replayOne wsX2_tie := goodIn_r _ [9, 10, 11, 12, 13, 14, 35, 36, 37, 38, 39, 40, 41, 42] (by decide +kernel) (by decide +kernel)
set_option maxRecDepth 20000 in
theorem gX1_replayOne_X2_tie : GoodIn wsX1_replayOne (wsV RX1 44 RX2 yX2_tie wsX2_tie) := goodIn_app (goodIn_of _ (by decide +kernel)) ggX1_replayOne_X2_tie
set_option maxRecDepth 20000 in
theorem ggX1_replayOne_X2_untie : GoodIn wsX1_replayOne wsX2_untie := goodIn_r _ [18, 10, 14, 35, 36, 37, 38, 39, 40, 41, 42] (by decide +kernel) (by decide +kernel)
set_option maxRecDepth 20000 in
theorem gX1_replayOne_X2_untie : GoodIn wsX1_replayOne (wsV RX1 48 RX2 yX2_untie wsX2_untie) := goodIn_app (goodIn_of _ (by decide +kernel)) ggX1_replayOne_X2_untie
set_option maxRecDepth 20000 in
theorem ggX1_replayOne_X2_markLost : GoodIn wsX1_replayOne wsX2_markLost := goodIn_r _ [22, 23, 10, 12, 13, 11, 14, 35, 36, 37, 38, 39, 40, 41, 42] (by decide +kernel) (by decide +kernel)
set_option maxRecDepth 20000 in
theorem gX1_replayOne_X2_markLost : GoodIn wsX1_replayOne (wsV RX1 52 RX2 yX2_markLost wsX2_markLost) := goodIn_app (goodIn_of _ (by decide +kernel)) ggX1_replayOne_X2_markLost
set_option maxRecDepth 20000 in
theorem ggX1_replayOne_X2_renewBadge : GoodIn wsX1_replayOne wsX2_renewBadge := goodIn_r _ [27, 13, 28, 23, 35, 36, 37, 38, 39, 40, 41, 42] (by decide +kernel) (by decide +kernel)
set_option maxRecDepth 20000 in
theorem gX1_replayOne_X2_renewBadge : GoodIn wsX1_replayOne (wsV RX1 56 RX2 yX2_renewBadge wsX2_renewBadge) := goodIn_app (goodIn_of _ (by decide +kernel)) ggX1_replayOne_X2_renewBadge
theorem dX1_replayOne_0 : decode cX1_replayOne 0 = .ok (.aload_n 0, 1) := by decide +kernel
theorem dX1_replayOne_1 : decode cX1_replayOne 1 = .ok (.getfield 9, 3) := by decide +kernel
theorem dX1_replayOne_4 : decode cX1_replayOne 4 = .ok (.iload_n 1, 1) := by decide +kernel
theorem dX1_replayOne_5 : decode cX1_replayOne 5 = .ok (.iaload, 1) := by decide +kernel
theorem dX1_replayOne_6 : decode cX1_replayOne 6 = .ok (.tableswitch 83 0 2 #[26, 51, 64], 26) := by decide +kernel
theorem dX1_replayOne_32 : decode cX1_replayOne 32 = .ok (.aload_n 2, 1) := by decide +kernel
theorem dX1_replayOne_33 : decode cX1_replayOne 33 = .ok (.aload_n 0, 1) := by decide +kernel
theorem dX1_replayOne_34 : decode cX1_replayOne 34 = .ok (.getfield 15, 3) := by decide +kernel
theorem dX1_replayOne_37 : decode cX1_replayOne 37 = .ok (.iload_n 1, 1) := by decide +kernel
theorem dX1_replayOne_38 : decode cX1_replayOne 38 = .ok (.iaload, 1) := by decide +kernel
theorem dX1_replayOne_39 : decode cX1_replayOne 39 = .ok (.aload_n 0, 1) := by decide +kernel
theorem dX1_replayOne_40 : decode cX1_replayOne 40 = .ok (.getfield 18, 3) := by decide +kernel
theorem dX1_replayOne_43 : decode cX1_replayOne 43 = .ok (.iload_n 1, 1) := by decide +kernel
theorem dX1_replayOne_44 : decode cX1_replayOne 44 = .ok (.iaload, 1) := by decide +kernel
theorem dX1_replayOne_45 : decode cX1_replayOne 45 = .ok (.aload_n 0, 1) := by decide +kernel
theorem dX1_replayOne_46 : decode cX1_replayOne 46 = .ok (.getfield 21, 3) := by decide +kernel
theorem dX1_replayOne_49 : decode cX1_replayOne 49 = .ok (.iload_n 1, 1) := by decide +kernel
theorem dX1_replayOne_50 : decode cX1_replayOne 50 = .ok (.iaload, 1) := by decide +kernel
theorem dX1_replayOne_51 : decode cX1_replayOne 51 = .ok (.invokevirtual 44, 3) := by decide +kernel
theorem dX1_replayOne_54 : decode cX1_replayOne 54 = .ok (.goto 45, 3) := by decide +kernel
theorem dX1_replayOne_57 : decode cX1_replayOne 57 = .ok (.aload_n 2, 1) := by decide +kernel
theorem dX1_replayOne_58 : decode cX1_replayOne 58 = .ok (.aload_n 0, 1) := by decide +kernel
theorem dX1_replayOne_59 : decode cX1_replayOne 59 = .ok (.getfield 18, 3) := by decide +kernel
theorem dX1_replayOne_62 : decode cX1_replayOne 62 = .ok (.iload_n 1, 1) := by decide +kernel
theorem dX1_replayOne_63 : decode cX1_replayOne 63 = .ok (.iaload, 1) := by decide +kernel
theorem dX1_replayOne_64 : decode cX1_replayOne 64 = .ok (.invokevirtual 48, 3) := by decide +kernel
theorem dX1_replayOne_67 : decode cX1_replayOne 67 = .ok (.goto 32, 3) := by decide +kernel
theorem dX1_replayOne_70 : decode cX1_replayOne 70 = .ok (.aload_n 2, 1) := by decide +kernel
theorem dX1_replayOne_71 : decode cX1_replayOne 71 = .ok (.aload_n 0, 1) := by decide +kernel
theorem dX1_replayOne_72 : decode cX1_replayOne 72 = .ok (.getfield 15, 3) := by decide +kernel
theorem dX1_replayOne_75 : decode cX1_replayOne 75 = .ok (.iload_n 1, 1) := by decide +kernel
theorem dX1_replayOne_76 : decode cX1_replayOne 76 = .ok (.iaload, 1) := by decide +kernel
theorem dX1_replayOne_77 : decode cX1_replayOne 77 = .ok (.aload_n 0, 1) := by decide +kernel
theorem dX1_replayOne_78 : decode cX1_replayOne 78 = .ok (.getfield 21, 3) := by decide +kernel
theorem dX1_replayOne_81 : decode cX1_replayOne 81 = .ok (.iload_n 1, 1) := by decide +kernel
theorem dX1_replayOne_82 : decode cX1_replayOne 82 = .ok (.iaload, 1) := by decide +kernel
theorem dX1_replayOne_83 : decode cX1_replayOne 83 = .ok (.invokevirtual 52, 3) := by decide +kernel
theorem dX1_replayOne_86 : decode cX1_replayOne 86 = .ok (.goto 13, 3) := by decide +kernel
theorem dX1_replayOne_89 : decode cX1_replayOne 89 = .ok (.aload_n 2, 1) := by decide +kernel
theorem dX1_replayOne_90 : decode cX1_replayOne 90 = .ok (.aload_n 0, 1) := by decide +kernel
theorem dX1_replayOne_91 : decode cX1_replayOne 91 = .ok (.getfield 15, 3) := by decide +kernel
theorem dX1_replayOne_94 : decode cX1_replayOne 94 = .ok (.iload_n 1, 1) := by decide +kernel
theorem dX1_replayOne_95 : decode cX1_replayOne 95 = .ok (.iaload, 1) := by decide +kernel
theorem dX1_replayOne_96 : decode cX1_replayOne 96 = .ok (.invokevirtual 56, 3) := by decide +kernel
theorem dX1_replayOne_99 : decode cX1_replayOne 99 = .ok (.return_, 1) := by decide +kernel
set_option maxRecDepth 20000 in
theorem ggX2_init_X2_reset : GoodIn wsX2_init wsX2_reset := goodIn_r _ [17, 5, 10, 11, 12, 18, 19, 20, 21, 22, 23, 24, 25, 26] (by decide +kernel) (by decide +kernel)
set_option maxRecDepth 20000 in
theorem gX2_init_X2_reset : GoodIn wsX2_init (wsV RX2 34 RX2 yX2_reset wsX2_reset) := goodIn_app (goodIn_of _ (by decide +kernel)) ggX2_init_X2_reset
theorem dX2_init_0 : decode cX2_init 0 = .ok (.aload_n 0, 1) := by decide +kernel
theorem dX2_init_1 : decode cX2_init 1 = .ok (.invokespecial 3, 3) := by decide +kernel
theorem dX2_init_4 : decode cX2_init 4 = .ok (.aload_n 0, 1) := by decide +kernel
theorem dX2_init_5 : decode cX2_init 5 = .ok (.bipush 12, 2) := by decide +kernel
theorem dX2_init_7 : decode cX2_init 7 = .ok (.newarray .int, 2) := by decide +kernel
theorem dX2_init_9 : decode cX2_init 9 = .ok (.putfield 9, 3) := by decide +kernel
theorem dX2_init_12 : decode cX2_init 12 = .ok (.aload_n 0, 1) := by decide +kernel
theorem dX2_init_13 : decode cX2_init 13 = .ok (.bipush 12, 2) := by decide +kernel
theorem dX2_init_15 : decode cX2_init 15 = .ok (.newarray .int, 2) := by decide +kernel
theorem dX2_init_17 : decode cX2_init 17 = .ok (.putfield 15, 3) := by decide +kernel
theorem dX2_init_20 : decode cX2_init 20 = .ok (.aload_n 0, 1) := by decide +kernel
theorem dX2_init_21 : decode cX2_init 21 = .ok (.bipush 12, 2) := by decide +kernel
theorem dX2_init_23 : decode cX2_init 23 = .ok (.newarray .int, 2) := by decide +kernel
theorem dX2_init_25 : decode cX2_init 25 = .ok (.putfield 18, 3) := by decide +kernel
theorem dX2_init_28 : decode cX2_init 28 = .ok (.aload_n 0, 1) := by decide +kernel
theorem dX2_init_29 : decode cX2_init 29 = .ok (.bipush 12, 2) := by decide +kernel
theorem dX2_init_31 : decode cX2_init 31 = .ok (.newarray .int, 2) := by decide +kernel
theorem dX2_init_33 : decode cX2_init 33 = .ok (.putfield 21, 3) := by decide +kernel
theorem dX2_init_36 : decode cX2_init 36 = .ok (.aload_n 0, 1) := by decide +kernel
theorem dX2_init_37 : decode cX2_init 37 = .ok (.bipush 12, 2) := by decide +kernel
theorem dX2_init_39 : decode cX2_init 39 = .ok (.newarray .boolean, 2) := by decide +kernel
theorem dX2_init_41 : decode cX2_init 41 = .ok (.putfield 24, 3) := by decide +kernel
theorem dX2_init_44 : decode cX2_init 44 = .ok (.aload_n 0, 1) := by decide +kernel
theorem dX2_init_45 : decode cX2_init 45 = .ok (.bipush 12, 2) := by decide +kernel
theorem dX2_init_47 : decode cX2_init 47 = .ok (.newarray .int, 2) := by decide +kernel
theorem dX2_init_49 : decode cX2_init 49 = .ok (.putfield 28, 3) := by decide +kernel
theorem dX2_init_52 : decode cX2_init 52 = .ok (.aload_n 0, 1) := by decide +kernel
theorem dX2_init_53 : decode cX2_init 53 = .ok (.bipush 12, 2) := by decide +kernel
theorem dX2_init_55 : decode cX2_init 55 = .ok (.newarray .boolean, 2) := by decide +kernel
theorem dX2_init_57 : decode cX2_init 57 = .ok (.putfield 31, 3) := by decide +kernel
theorem dX2_init_60 : decode cX2_init 60 = .ok (.aload_n 0, 1) := by decide +kernel
theorem dX2_init_61 : decode cX2_init 61 = .ok (.invokevirtual 34, 3) := by decide +kernel
theorem dX2_init_64 : decode cX2_init 64 = .ok (.return_, 1) := by decide +kernel
theorem dX2_reset_0 : decode cX2_reset 0 = .ok (.iconst 0, 1) := by decide +kernel
theorem dX2_reset_1 : decode cX2_reset 1 = .ok (.istore_n 1, 1) := by decide +kernel
theorem dX2_reset_2 : decode cX2_reset 2 = .ok (.iload_n 1, 1) := by decide +kernel
theorem dX2_reset_3 : decode cX2_reset 3 = .ok (.bipush 12, 2) := by decide +kernel
theorem dX2_reset_5 : decode cX2_reset 5 = .ok (.if_icmp .ge 37, 3) := by decide +kernel
theorem dX2_reset_8 : decode cX2_reset 8 = .ok (.aload_n 0, 1) := by decide +kernel
theorem dX2_reset_9 : decode cX2_reset 9 = .ok (.getfield 9, 3) := by decide +kernel
theorem dX2_reset_12 : decode cX2_reset 12 = .ok (.iload_n 1, 1) := by decide +kernel
theorem dX2_reset_13 : decode cX2_reset 13 = .ok (.iconst (-1), 1) := by decide +kernel
theorem dX2_reset_14 : decode cX2_reset 14 = .ok (.iastore, 1) := by decide +kernel
theorem dX2_reset_15 : decode cX2_reset 15 = .ok (.aload_n 0, 1) := by decide +kernel
theorem dX2_reset_16 : decode cX2_reset 16 = .ok (.getfield 24, 3) := by decide +kernel
theorem dX2_reset_19 : decode cX2_reset 19 = .ok (.iload_n 1, 1) := by decide +kernel
theorem dX2_reset_20 : decode cX2_reset 20 = .ok (.iconst 0, 1) := by decide +kernel
theorem dX2_reset_21 : decode cX2_reset 21 = .ok (.bastore, 1) := by decide +kernel
theorem dX2_reset_22 : decode cX2_reset 22 = .ok (.aload_n 0, 1) := by decide +kernel
theorem dX2_reset_23 : decode cX2_reset 23 = .ok (.getfield 28, 3) := by decide +kernel
theorem dX2_reset_26 : decode cX2_reset 26 = .ok (.iload_n 1, 1) := by decide +kernel
theorem dX2_reset_27 : decode cX2_reset 27 = .ok (.iload_n 1, 1) := by decide +kernel
theorem dX2_reset_28 : decode cX2_reset 28 = .ok (.iastore, 1) := by decide +kernel
theorem dX2_reset_29 : decode cX2_reset 29 = .ok (.aload_n 0, 1) := by decide +kernel
theorem dX2_reset_30 : decode cX2_reset 30 = .ok (.getfield 31, 3) := by decide +kernel
theorem dX2_reset_33 : decode cX2_reset 33 = .ok (.iload_n 1, 1) := by decide +kernel
theorem dX2_reset_34 : decode cX2_reset 34 = .ok (.iconst 0, 1) := by decide +kernel
theorem dX2_reset_35 : decode cX2_reset 35 = .ok (.bastore, 1) := by decide +kernel
theorem dX2_reset_36 : decode cX2_reset 36 = .ok (.iinc 1 1, 3) := by decide +kernel
theorem dX2_reset_39 : decode cX2_reset 39 = .ok (.goto (-37), 3) := by decide +kernel
theorem dX2_reset_42 : decode cX2_reset 42 = .ok (.aload_n 0, 1) := by decide +kernel
theorem dX2_reset_43 : decode cX2_reset 43 = .ok (.bipush 12, 2) := by decide +kernel
theorem dX2_reset_45 : decode cX2_reset 45 = .ok (.putfield 37, 3) := by decide +kernel
theorem dX2_reset_48 : decode cX2_reset 48 = .ok (.return_, 1) := by decide +kernel
theorem dX2_tie_0 : decode cX2_tie 0 = .ok (.aload_n 0, 1) := by decide +kernel
theorem dX2_tie_1 : decode cX2_tie 1 = .ok (.getfield 9, 3) := by decide +kernel
theorem dX2_tie_4 : decode cX2_tie 4 = .ok (.iload_n 2, 1) := by decide +kernel
theorem dX2_tie_5 : decode cX2_tie 5 = .ok (.iload_n 1, 1) := by decide +kernel
theorem dX2_tie_6 : decode cX2_tie 6 = .ok (.iastore, 1) := by decide +kernel
theorem dX2_tie_7 : decode cX2_tie 7 = .ok (.aload_n 0, 1) := by decide +kernel
theorem dX2_tie_8 : decode cX2_tie 8 = .ok (.getfield 18, 3) := by decide +kernel
theorem dX2_tie_11 : decode cX2_tie 11 = .ok (.iload_n 2, 1) := by decide +kernel
theorem dX2_tie_12 : decode cX2_tie 12 = .ok (.iload_n 3, 1) := by decide +kernel
theorem dX2_tie_13 : decode cX2_tie 13 = .ok (.iastore, 1) := by decide +kernel
theorem dX2_tie_14 : decode cX2_tie 14 = .ok (.aload_n 0, 1) := by decide +kernel
theorem dX2_tie_15 : decode cX2_tie 15 = .ok (.getfield 21, 3) := by decide +kernel
theorem dX2_tie_18 : decode cX2_tie 18 = .ok (.iload_n 2, 1) := by decide +kernel
theorem dX2_tie_19 : decode cX2_tie 19 = .ok (.aload_n 0, 1) := by decide +kernel
theorem dX2_tie_20 : decode cX2_tie 20 = .ok (.getfield 28, 3) := by decide +kernel
theorem dX2_tie_23 : decode cX2_tie 23 = .ok (.iload_n 1, 1) := by decide +kernel
theorem dX2_tie_24 : decode cX2_tie 24 = .ok (.iaload, 1) := by decide +kernel
theorem dX2_tie_25 : decode cX2_tie 25 = .ok (.iastore, 1) := by decide +kernel
theorem dX2_tie_26 : decode cX2_tie 26 = .ok (.aload_n 0, 1) := by decide +kernel
theorem dX2_tie_27 : decode cX2_tie 27 = .ok (.getfield 24, 3) := by decide +kernel
theorem dX2_tie_30 : decode cX2_tie 30 = .ok (.iload_n 2, 1) := by decide +kernel
theorem dX2_tie_31 : decode cX2_tie 31 = .ok (.iconst 0, 1) := by decide +kernel
theorem dX2_tie_32 : decode cX2_tie 32 = .ok (.bastore, 1) := by decide +kernel
theorem dX2_tie_33 : decode cX2_tie 33 = .ok (.return_, 1) := by decide +kernel
theorem dX2_setRooms_0 : decode cX2_setRooms 0 = .ok (.aload_n 0, 1) := by decide +kernel
theorem dX2_setRooms_1 : decode cX2_setRooms 1 = .ok (.getfield 15, 3) := by decide +kernel
theorem dX2_setRooms_4 : decode cX2_setRooms 4 = .ok (.iload_n 1, 1) := by decide +kernel
theorem dX2_setRooms_5 : decode cX2_setRooms 5 = .ok (.iload_n 2, 1) := by decide +kernel
theorem dX2_setRooms_6 : decode cX2_setRooms 6 = .ok (.iastore, 1) := by decide +kernel
theorem dX2_setRooms_7 : decode cX2_setRooms 7 = .ok (.return_, 1) := by decide +kernel
theorem dX2_untie_0 : decode cX2_untie 0 = .ok (.aload_n 0, 1) := by decide +kernel
theorem dX2_untie_1 : decode cX2_untie 1 = .ok (.getfield 9, 3) := by decide +kernel
theorem dX2_untie_4 : decode cX2_untie 4 = .ok (.iload_n 1, 1) := by decide +kernel
theorem dX2_untie_5 : decode cX2_untie 5 = .ok (.iconst (-1), 1) := by decide +kernel
theorem dX2_untie_6 : decode cX2_untie 6 = .ok (.iastore, 1) := by decide +kernel
theorem dX2_untie_7 : decode cX2_untie 7 = .ok (.aload_n 0, 1) := by decide +kernel
theorem dX2_untie_8 : decode cX2_untie 8 = .ok (.getfield 24, 3) := by decide +kernel
theorem dX2_untie_11 : decode cX2_untie 11 = .ok (.iload_n 1, 1) := by decide +kernel
theorem dX2_untie_12 : decode cX2_untie 12 = .ok (.iconst 0, 1) := by decide +kernel
theorem dX2_untie_13 : decode cX2_untie 13 = .ok (.bastore, 1) := by decide +kernel
theorem dX2_untie_14 : decode cX2_untie 14 = .ok (.return_, 1) := by decide +kernel
theorem dX2_markLost_0 : decode cX2_markLost 0 = .ok (.aload_n 0, 1) := by decide +kernel
theorem dX2_markLost_1 : decode cX2_markLost 1 = .ok (.getfield 31, 3) := by decide +kernel
theorem dX2_markLost_4 : decode cX2_markLost 4 = .ok (.iload_n 1, 1) := by decide +kernel
theorem dX2_markLost_5 : decode cX2_markLost 5 = .ok (.iconst 1, 1) := by decide +kernel
theorem dX2_markLost_6 : decode cX2_markLost 6 = .ok (.bastore, 1) := by decide +kernel
theorem dX2_markLost_7 : decode cX2_markLost 7 = .ok (.iconst 4, 1) := by decide +kernel
theorem dX2_markLost_8 : decode cX2_markLost 8 = .ok (.istore_n 3, 1) := by decide +kernel
theorem dX2_markLost_9 : decode cX2_markLost 9 = .ok (.iload_n 3, 1) := by decide +kernel
theorem dX2_markLost_10 : decode cX2_markLost 10 = .ok (.bipush 12, 2) := by decide +kernel
theorem dX2_markLost_12 : decode cX2_markLost 12 = .ok (.if_icmp .ge 51, 3) := by decide +kernel
theorem dX2_markLost_15 : decode cX2_markLost 15 = .ok (.aload_n 0, 1) := by decide +kernel
theorem dX2_markLost_16 : decode cX2_markLost 16 = .ok (.getfield 9, 3) := by decide +kernel
theorem dX2_markLost_19 : decode cX2_markLost 19 = .ok (.iload_n 3, 1) := by decide +kernel
theorem dX2_markLost_20 : decode cX2_markLost 20 = .ok (.iaload, 1) := by decide +kernel
theorem dX2_markLost_21 : decode cX2_markLost 21 = .ok (.iload_n 1, 1) := by decide +kernel
theorem dX2_markLost_22 : decode cX2_markLost 22 = .ok (.if_icmp .ne 35, 3) := by decide +kernel
theorem dX2_markLost_25 : decode cX2_markLost 25 = .ok (.aload_n 0, 1) := by decide +kernel
theorem dX2_markLost_26 : decode cX2_markLost 26 = .ok (.getfield 21, 3) := by decide +kernel
theorem dX2_markLost_29 : decode cX2_markLost 29 = .ok (.iload_n 3, 1) := by decide +kernel
theorem dX2_markLost_30 : decode cX2_markLost 30 = .ok (.iaload, 1) := by decide +kernel
theorem dX2_markLost_31 : decode cX2_markLost 31 = .ok (.aload_n 0, 1) := by decide +kernel
theorem dX2_markLost_32 : decode cX2_markLost 32 = .ok (.getfield 28, 3) := by decide +kernel
theorem dX2_markLost_35 : decode cX2_markLost 35 = .ok (.iload_n 1, 1) := by decide +kernel
theorem dX2_markLost_36 : decode cX2_markLost 36 = .ok (.iaload, 1) := by decide +kernel
theorem dX2_markLost_37 : decode cX2_markLost 37 = .ok (.if_icmp .ne 20, 3) := by decide +kernel
theorem dX2_markLost_40 : decode cX2_markLost 40 = .ok (.aload_n 0, 1) := by decide +kernel
theorem dX2_markLost_41 : decode cX2_markLost 41 = .ok (.getfield 18, 3) := by decide +kernel
theorem dX2_markLost_44 : decode cX2_markLost 44 = .ok (.iload_n 3, 1) := by decide +kernel
theorem dX2_markLost_45 : decode cX2_markLost 45 = .ok (.iaload, 1) := by decide +kernel
theorem dX2_markLost_46 : decode cX2_markLost 46 = .ok (.iload_n 2, 1) := by decide +kernel
theorem dX2_markLost_47 : decode cX2_markLost 47 = .ok (.if_icmp .lt 10, 3) := by decide +kernel
theorem dX2_markLost_50 : decode cX2_markLost 50 = .ok (.aload_n 0, 1) := by decide +kernel
theorem dX2_markLost_51 : decode cX2_markLost 51 = .ok (.getfield 24, 3) := by decide +kernel
theorem dX2_markLost_54 : decode cX2_markLost 54 = .ok (.iload_n 3, 1) := by decide +kernel
theorem dX2_markLost_55 : decode cX2_markLost 55 = .ok (.iconst 1, 1) := by decide +kernel
theorem dX2_markLost_56 : decode cX2_markLost 56 = .ok (.bastore, 1) := by decide +kernel
theorem dX2_markLost_57 : decode cX2_markLost 57 = .ok (.iinc 3 1, 3) := by decide +kernel
theorem dX2_markLost_60 : decode cX2_markLost 60 = .ok (.goto (-51), 3) := by decide +kernel
theorem dX2_markLost_63 : decode cX2_markLost 63 = .ok (.return_, 1) := by decide +kernel
theorem dX2_renewBadge_0 : decode cX2_renewBadge 0 = .ok (.aload_n 0, 1) := by decide +kernel
theorem dX2_renewBadge_1 : decode cX2_renewBadge 1 = .ok (.getfield 28, 3) := by decide +kernel
theorem dX2_renewBadge_4 : decode cX2_renewBadge 4 = .ok (.iload_n 1, 1) := by decide +kernel
theorem dX2_renewBadge_5 : decode cX2_renewBadge 5 = .ok (.aload_n 0, 1) := by decide +kernel
theorem dX2_renewBadge_6 : decode cX2_renewBadge 6 = .ok (.getfield 37, 3) := by decide +kernel
theorem dX2_renewBadge_9 : decode cX2_renewBadge 9 = .ok (.iastore, 1) := by decide +kernel
theorem dX2_renewBadge_10 : decode cX2_renewBadge 10 = .ok (.aload_n 0, 1) := by decide +kernel
theorem dX2_renewBadge_11 : decode cX2_renewBadge 11 = .ok (.dup, 1) := by decide +kernel
theorem dX2_renewBadge_12 : decode cX2_renewBadge 12 = .ok (.getfield 37, 3) := by decide +kernel
theorem dX2_renewBadge_15 : decode cX2_renewBadge 15 = .ok (.iconst 1, 1) := by decide +kernel
theorem dX2_renewBadge_16 : decode cX2_renewBadge 16 = .ok (.iadd, 1) := by decide +kernel
theorem dX2_renewBadge_17 : decode cX2_renewBadge 17 = .ok (.putfield 37, 3) := by decide +kernel
theorem dX2_renewBadge_20 : decode cX2_renewBadge 20 = .ok (.aload_n 0, 1) := by decide +kernel
theorem dX2_renewBadge_21 : decode cX2_renewBadge 21 = .ok (.getfield 31, 3) := by decide +kernel
theorem dX2_renewBadge_24 : decode cX2_renewBadge 24 = .ok (.iload_n 1, 1) := by decide +kernel
theorem dX2_renewBadge_25 : decode cX2_renewBadge 25 = .ok (.iconst 0, 1) := by decide +kernel
theorem dX2_renewBadge_26 : decode cX2_renewBadge 26 = .ok (.bastore, 1) := by decide +kernel
theorem dX2_renewBadge_27 : decode cX2_renewBadge 27 = .ok (.return_, 1) := by decide +kernel
theorem dX2_hostOf_0 : decode cX2_hostOf 0 = .ok (.aload_n 0, 1) := by decide +kernel
theorem dX2_hostOf_1 : decode cX2_hostOf 1 = .ok (.getfield 9, 3) := by decide +kernel
theorem dX2_hostOf_4 : decode cX2_hostOf 4 = .ok (.iload_n 1, 1) := by decide +kernel
theorem dX2_hostOf_5 : decode cX2_hostOf 5 = .ok (.iaload, 1) := by decide +kernel
theorem dX2_hostOf_6 : decode cX2_hostOf 6 = .ok (.ireturn, 1) := by decide +kernel
theorem dX2_badgeOf_0 : decode cX2_badgeOf 0 = .ok (.aload_n 0, 1) := by decide +kernel
theorem dX2_badgeOf_1 : decode cX2_badgeOf 1 = .ok (.getfield 28, 3) := by decide +kernel
theorem dX2_badgeOf_4 : decode cX2_badgeOf 4 = .ok (.iload_n 1, 1) := by decide +kernel
theorem dX2_badgeOf_5 : decode cX2_badgeOf 5 = .ok (.iaload, 1) := by decide +kernel
theorem dX2_badgeOf_6 : decode cX2_badgeOf 6 = .ok (.ireturn, 1) := by decide +kernel
set_option maxRecDepth 20000 in
theorem ggX2_stepsToStaff_X3_isPerson : GoodIn wsX2_stepsToStaff wsX3_isPerson := goodIn_r _ [4] (by decide +kernel) (by decide +kernel)
set_option maxRecDepth 20000 in
theorem gX2_stepsToStaff_X3_isPerson_n41 : GoodIn wsX2_stepsToStaff (wsX3_isPerson) := ggX2_stepsToStaff_X3_isPerson
set_option maxRecDepth 20000 in
theorem ggX2_stepsToStaff_X3_isGuest : GoodIn wsX2_stepsToStaff wsX3_isGuest := goodIn_r _ [6] (by decide +kernel) (by decide +kernel)
set_option maxRecDepth 20000 in
theorem gX2_stepsToStaff_X3_isGuest_n45 : GoodIn wsX2_stepsToStaff (wsX3_isGuest) := ggX2_stepsToStaff_X3_isGuest
theorem dX2_stepsToStaff_0 : decode cX2_stepsToStaff 0 = .ok (.iload_n 1, 1) := by decide +kernel
theorem dX2_stepsToStaff_1 : decode cX2_stepsToStaff 1 = .ok (.istore_n 2, 1) := by decide +kernel
theorem dX2_stepsToStaff_2 : decode cX2_stepsToStaff 2 = .ok (.iconst 0, 1) := by decide +kernel
theorem dX2_stepsToStaff_3 : decode cX2_stepsToStaff 3 = .ok (.istore_n 3, 1) := by decide +kernel
theorem dX2_stepsToStaff_4 : decode cX2_stepsToStaff 4 = .ok (.iload_n 3, 1) := by decide +kernel
theorem dX2_stepsToStaff_5 : decode cX2_stepsToStaff 5 = .ok (.bipush 12, 2) := by decide +kernel
theorem dX2_stepsToStaff_7 : decode cX2_stepsToStaff 7 = .ok (.if_icmp .ge 32, 3) := by decide +kernel
theorem dX2_stepsToStaff_10 : decode cX2_stepsToStaff 10 = .ok (.iload_n 2, 1) := by decide +kernel
theorem dX2_stepsToStaff_11 : decode cX2_stepsToStaff 11 = .ok (.invokestatic 41, 3) := by decide +kernel
theorem dX2_stepsToStaff_14 : decode cX2_stepsToStaff 14 = .ok (.ifCond .eq 25, 3) := by decide +kernel
theorem dX2_stepsToStaff_17 : decode cX2_stepsToStaff 17 = .ok (.iload_n 2, 1) := by decide +kernel
theorem dX2_stepsToStaff_18 : decode cX2_stepsToStaff 18 = .ok (.invokestatic 45, 3) := by decide +kernel
theorem dX2_stepsToStaff_21 : decode cX2_stepsToStaff 21 = .ok (.ifCond .ne 5, 3) := by decide +kernel
theorem dX2_stepsToStaff_24 : decode cX2_stepsToStaff 24 = .ok (.iload_n 3, 1) := by decide +kernel
theorem dX2_stepsToStaff_25 : decode cX2_stepsToStaff 25 = .ok (.ireturn, 1) := by decide +kernel
theorem dX2_stepsToStaff_26 : decode cX2_stepsToStaff 26 = .ok (.aload_n 0, 1) := by decide +kernel
theorem dX2_stepsToStaff_27 : decode cX2_stepsToStaff 27 = .ok (.getfield 9, 3) := by decide +kernel
theorem dX2_stepsToStaff_30 : decode cX2_stepsToStaff 30 = .ok (.iload_n 2, 1) := by decide +kernel
theorem dX2_stepsToStaff_31 : decode cX2_stepsToStaff 31 = .ok (.iaload, 1) := by decide +kernel
theorem dX2_stepsToStaff_32 : decode cX2_stepsToStaff 32 = .ok (.istore_n 2, 1) := by decide +kernel
theorem dX2_stepsToStaff_33 : decode cX2_stepsToStaff 33 = .ok (.iinc 3 1, 3) := by decide +kernel
theorem dX2_stepsToStaff_36 : decode cX2_stepsToStaff 36 = .ok (.goto (-32), 3) := by decide +kernel
theorem dX2_stepsToStaff_39 : decode cX2_stepsToStaff 39 = .ok (.iconst (-1), 1) := by decide +kernel
theorem dX2_stepsToStaff_40 : decode cX2_stepsToStaff 40 = .ok (.ireturn, 1) := by decide +kernel
set_option maxRecDepth 20000 in
theorem ggX2_isTrusted_X2_stepsToStaff : GoodIn wsX2_isTrusted wsX2_stepsToStaff := goodIn_r _ [5, 6, 7, 8, 9, 10, 11, 12, 13, 14, 15, 16, 17, 18, 19] (by decide +kernel) (by decide +kernel)
set_option maxRecDepth 20000 in
theorem gX2_isTrusted_X2_stepsToStaff : GoodIn wsX2_isTrusted (wsV RX2 48 RX2 yX2_stepsToStaff wsX2_stepsToStaff) := goodIn_app (goodIn_of _ (by decide +kernel)) ggX2_isTrusted_X2_stepsToStaff
theorem dX2_isTrusted_0 : decode cX2_isTrusted 0 = .ok (.aload_n 0, 1) := by decide +kernel
theorem dX2_isTrusted_1 : decode cX2_isTrusted 1 = .ok (.iload_n 1, 1) := by decide +kernel
theorem dX2_isTrusted_2 : decode cX2_isTrusted 2 = .ok (.invokevirtual 48, 3) := by decide +kernel
theorem dX2_isTrusted_5 : decode cX2_isTrusted 5 = .ok (.iconst (-1), 1) := by decide +kernel
theorem dX2_isTrusted_6 : decode cX2_isTrusted 6 = .ok (.if_icmp .eq 7, 3) := by decide +kernel
theorem dX2_isTrusted_9 : decode cX2_isTrusted 9 = .ok (.iconst 1, 1) := by decide +kernel
theorem dX2_isTrusted_10 : decode cX2_isTrusted 10 = .ok (.goto 4, 3) := by decide +kernel
theorem dX2_isTrusted_13 : decode cX2_isTrusted 13 = .ok (.iconst 0, 1) := by decide +kernel
theorem dX2_isTrusted_14 : decode cX2_isTrusted 14 = .ok (.ireturn, 1) := by decide +kernel
set_option maxRecDepth 20000 in
theorem ggX2_roomsOf_X2_isTrusted : GoodIn wsX2_roomsOf wsX2_isTrusted := goodIn_r _ [7, 8, 9, 10, 6, 11, 2, 12, 13, 14, 15, 16, 17, 18, 19, 20, 21, 22, 23, 24] (by decide +kernel) (by decide +kernel)
set_option maxRecDepth 20000 in
theorem gX2_roomsOf_X2_isTrusted : GoodIn wsX2_roomsOf (wsV RX2 52 RX2 yX2_isTrusted wsX2_isTrusted) := goodIn_app (goodIn_of _ (by decide +kernel)) ggX2_roomsOf_X2_isTrusted
set_option maxRecDepth 20000 in
theorem ggX2_roomsOf_X3_isGuest : GoodIn wsX2_roomsOf wsX3_isGuest := goodIn_r _ [16] (by decide +kernel) (by decide +kernel)
set_option maxRecDepth 20000 in
theorem gX2_roomsOf_X3_isGuest_n45 : GoodIn wsX2_roomsOf (wsX3_isGuest) := ggX2_roomsOf_X3_isGuest
theorem dX2_roomsOf_0 : decode cX2_roomsOf 0 = .ok (.aload_n 0, 1) := by decide +kernel
theorem dX2_roomsOf_1 : decode cX2_roomsOf 1 = .ok (.iload_n 1, 1) := by decide +kernel
theorem dX2_roomsOf_2 : decode cX2_roomsOf 2 = .ok (.invokevirtual 52, 3) := by decide +kernel
theorem dX2_roomsOf_5 : decode cX2_roomsOf 5 = .ok (.ifCond .ne 5, 3) := by decide +kernel
theorem dX2_roomsOf_8 : decode cX2_roomsOf 8 = .ok (.iconst 0, 1) := by decide +kernel
theorem dX2_roomsOf_9 : decode cX2_roomsOf 9 = .ok (.ireturn, 1) := by decide +kernel
theorem dX2_roomsOf_10 : decode cX2_roomsOf 10 = .ok (.bipush 63, 2) := by decide +kernel
theorem dX2_roomsOf_12 : decode cX2_roomsOf 12 = .ok (.istore_n 2, 1) := by decide +kernel
theorem dX2_roomsOf_13 : decode cX2_roomsOf 13 = .ok (.iload_n 1, 1) := by decide +kernel
theorem dX2_roomsOf_14 : decode cX2_roomsOf 14 = .ok (.istore_n 3, 1) := by decide +kernel
theorem dX2_roomsOf_15 : decode cX2_roomsOf 15 = .ok (.iconst 0, 1) := by decide +kernel
theorem dX2_roomsOf_16 : decode cX2_roomsOf 16 = .ok (.istore 4, 2) := by decide +kernel
theorem dX2_roomsOf_18 : decode cX2_roomsOf 18 = .ok (.iload 4, 2) := by decide +kernel
theorem dX2_roomsOf_20 : decode cX2_roomsOf 20 = .ok (.bipush 12, 2) := by decide +kernel
theorem dX2_roomsOf_22 : decode cX2_roomsOf 22 = .ok (.if_icmp .ge 32, 3) := by decide +kernel
theorem dX2_roomsOf_25 : decode cX2_roomsOf 25 = .ok (.iload_n 3, 1) := by decide +kernel
theorem dX2_roomsOf_26 : decode cX2_roomsOf 26 = .ok (.invokestatic 45, 3) := by decide +kernel
theorem dX2_roomsOf_29 : decode cX2_roomsOf 29 = .ok (.ifCond .eq 25, 3) := by decide +kernel
theorem dX2_roomsOf_32 : decode cX2_roomsOf 32 = .ok (.iload_n 2, 1) := by decide +kernel
theorem dX2_roomsOf_33 : decode cX2_roomsOf 33 = .ok (.aload_n 0, 1) := by decide +kernel
theorem dX2_roomsOf_34 : decode cX2_roomsOf 34 = .ok (.getfield 15, 3) := by decide +kernel
theorem dX2_roomsOf_37 : decode cX2_roomsOf 37 = .ok (.iload_n 3, 1) := by decide +kernel
theorem dX2_roomsOf_38 : decode cX2_roomsOf 38 = .ok (.iaload, 1) := by decide +kernel
theorem dX2_roomsOf_39 : decode cX2_roomsOf 39 = .ok (.iand, 1) := by decide +kernel
theorem dX2_roomsOf_40 : decode cX2_roomsOf 40 = .ok (.istore_n 2, 1) := by decide +kernel
theorem dX2_roomsOf_41 : decode cX2_roomsOf 41 = .ok (.aload_n 0, 1) := by decide +kernel
theorem dX2_roomsOf_42 : decode cX2_roomsOf 42 = .ok (.getfield 9, 3) := by decide +kernel
theorem dX2_roomsOf_45 : decode cX2_roomsOf 45 = .ok (.iload_n 3, 1) := by decide +kernel
theorem dX2_roomsOf_46 : decode cX2_roomsOf 46 = .ok (.iaload, 1) := by decide +kernel
theorem dX2_roomsOf_47 : decode cX2_roomsOf 47 = .ok (.istore_n 3, 1) := by decide +kernel
theorem dX2_roomsOf_48 : decode cX2_roomsOf 48 = .ok (.iinc 4 1, 3) := by decide +kernel
theorem dX2_roomsOf_51 : decode cX2_roomsOf 51 = .ok (.goto (-33), 3) := by decide +kernel
theorem dX2_roomsOf_54 : decode cX2_roomsOf 54 = .ok (.iload_n 2, 1) := by decide +kernel
theorem dX2_roomsOf_55 : decode cX2_roomsOf 55 = .ok (.ireturn, 1) := by decide +kernel
set_option maxRecDepth 20000 in
theorem ggX2_isTainted_X2_standsOnBadVouching : GoodIn wsX2_isTainted wsX2_standsOnBadVouching := goodIn_r _ [6, 7, 8, 9, 10, 11, 12, 13, 14, 15, 16, 17, 18, 19] (by decide +kernel) (by decide +kernel)
set_option maxRecDepth 20000 in
theorem gX2_isTainted_X2_standsOnBadVouching : GoodIn wsX2_isTainted (wsV RX2 55 RX2 yX2_standsOnBadVouching wsX2_standsOnBadVouching) := goodIn_app (goodIn_of _ (by decide +kernel)) ggX2_isTainted_X2_standsOnBadVouching
theorem dX2_isTainted_0 : decode cX2_isTainted 0 = .ok (.aload_n 0, 1) := by decide +kernel
theorem dX2_isTainted_1 : decode cX2_isTainted 1 = .ok (.getfield 31, 3) := by decide +kernel
theorem dX2_isTainted_4 : decode cX2_isTainted 4 = .ok (.iload_n 1, 1) := by decide +kernel
theorem dX2_isTainted_5 : decode cX2_isTainted 5 = .ok (.baload, 1) := by decide +kernel
theorem dX2_isTainted_6 : decode cX2_isTainted 6 = .ok (.ifCond .ne 11, 3) := by decide +kernel
theorem dX2_isTainted_9 : decode cX2_isTainted 9 = .ok (.aload_n 0, 1) := by decide +kernel
theorem dX2_isTainted_10 : decode cX2_isTainted 10 = .ok (.iload_n 1, 1) := by decide +kernel
theorem dX2_isTainted_11 : decode cX2_isTainted 11 = .ok (.invokevirtual 55, 3) := by decide +kernel
theorem dX2_isTainted_14 : decode cX2_isTainted 14 = .ok (.ifCond .eq 7, 3) := by decide +kernel
theorem dX2_isTainted_17 : decode cX2_isTainted 17 = .ok (.iconst 1, 1) := by decide +kernel
theorem dX2_isTainted_18 : decode cX2_isTainted 18 = .ok (.goto 4, 3) := by decide +kernel
theorem dX2_isTainted_21 : decode cX2_isTainted 21 = .ok (.iconst 0, 1) := by decide +kernel
theorem dX2_isTainted_22 : decode cX2_isTainted 22 = .ok (.ireturn, 1) := by decide +kernel
set_option maxRecDepth 20000 in
theorem ggX2_standsOnBadVouching_X3_isGuest : GoodIn wsX2_standsOnBadVouching wsX3_isGuest := goodIn_r _ [5] (by decide +kernel) (by decide +kernel)
set_option maxRecDepth 20000 in
theorem gX2_standsOnBadVouching_X3_isGuest_n45 : GoodIn wsX2_standsOnBadVouching (wsX3_isGuest) := ggX2_standsOnBadVouching_X3_isGuest
theorem dX2_standsOnBadVouching_0 : decode cX2_standsOnBadVouching 0 = .ok (.iload_n 1, 1) := by decide +kernel
theorem dX2_standsOnBadVouching_1 : decode cX2_standsOnBadVouching 1 = .ok (.istore_n 2, 1) := by decide +kernel
theorem dX2_standsOnBadVouching_2 : decode cX2_standsOnBadVouching 2 = .ok (.iconst 0, 1) := by decide +kernel
theorem dX2_standsOnBadVouching_3 : decode cX2_standsOnBadVouching 3 = .ok (.istore_n 3, 1) := by decide +kernel
theorem dX2_standsOnBadVouching_4 : decode cX2_standsOnBadVouching 4 = .ok (.iload_n 3, 1) := by decide +kernel
theorem dX2_standsOnBadVouching_5 : decode cX2_standsOnBadVouching 5 = .ok (.bipush 12, 2) := by decide +kernel
theorem dX2_standsOnBadVouching_7 : decode cX2_standsOnBadVouching 7 = .ok (.if_icmp .ge 34, 3) := by decide +kernel
theorem dX2_standsOnBadVouching_10 : decode cX2_standsOnBadVouching 10 = .ok (.iload_n 2, 1) := by decide +kernel
theorem dX2_standsOnBadVouching_11 : decode cX2_standsOnBadVouching 11 = .ok (.invokestatic 45, 3) := by decide +kernel
theorem dX2_standsOnBadVouching_14 : decode cX2_standsOnBadVouching 14 = .ok (.ifCond .eq 27, 3) := by decide +kernel
theorem dX2_standsOnBadVouching_17 : decode cX2_standsOnBadVouching 17 = .ok (.aload_n 0, 1) := by decide +kernel
theorem dX2_standsOnBadVouching_18 : decode cX2_standsOnBadVouching 18 = .ok (.getfield 24, 3) := by decide +kernel
theorem dX2_standsOnBadVouching_21 : decode cX2_standsOnBadVouching 21 = .ok (.iload_n 2, 1) := by decide +kernel
theorem dX2_standsOnBadVouching_22 : decode cX2_standsOnBadVouching 22 = .ok (.baload, 1) := by decide +kernel
theorem dX2_standsOnBadVouching_23 : decode cX2_standsOnBadVouching 23 = .ok (.ifCond .eq 5, 3) := by decide +kernel
theorem dX2_standsOnBadVouching_26 : decode cX2_standsOnBadVouching 26 = .ok (.iconst 1, 1) := by decide +kernel
theorem dX2_standsOnBadVouching_27 : decode cX2_standsOnBadVouching 27 = .ok (.ireturn, 1) := by decide +kernel
theorem dX2_standsOnBadVouching_28 : decode cX2_standsOnBadVouching 28 = .ok (.aload_n 0, 1) := by decide +kernel
theorem dX2_standsOnBadVouching_29 : decode cX2_standsOnBadVouching 29 = .ok (.getfield 9, 3) := by decide +kernel
theorem dX2_standsOnBadVouching_32 : decode cX2_standsOnBadVouching 32 = .ok (.iload_n 2, 1) := by decide +kernel
theorem dX2_standsOnBadVouching_33 : decode cX2_standsOnBadVouching 33 = .ok (.iaload, 1) := by decide +kernel
theorem dX2_standsOnBadVouching_34 : decode cX2_standsOnBadVouching 34 = .ok (.istore_n 2, 1) := by decide +kernel
theorem dX2_standsOnBadVouching_35 : decode cX2_standsOnBadVouching 35 = .ok (.iinc 3 1, 3) := by decide +kernel
theorem dX2_standsOnBadVouching_38 : decode cX2_standsOnBadVouching 38 = .ok (.goto (-34), 3) := by decide +kernel
theorem dX2_standsOnBadVouching_41 : decode cX2_standsOnBadVouching 41 = .ok (.iconst 0, 1) := by decide +kernel
theorem dX2_standsOnBadVouching_42 : decode cX2_standsOnBadVouching 42 = .ok (.ireturn, 1) := by decide +kernel
set_option maxRecDepth 20000 in
theorem ggX2_countTainted_X2_isTainted : GoodIn wsX2_countTainted wsX2_isTainted := goodIn_r _ [5, 6, 7, 8, 9, 4, 10, 11, 12, 13, 14, 15, 16, 17, 18, 19, 20, 21, 22, 23] (by decide +kernel) (by decide +kernel)
set_option maxRecDepth 20000 in
theorem gX2_countTainted_X2_isTainted : GoodIn wsX2_countTainted (wsV RX2 58 RX2 yX2_isTainted wsX2_isTainted) := goodIn_app (goodIn_of _ (by decide +kernel)) ggX2_countTainted_X2_isTainted
theorem dX2_countTainted_0 : decode cX2_countTainted 0 = .ok (.iconst 0, 1) := by decide +kernel
theorem dX2_countTainted_1 : decode cX2_countTainted 1 = .ok (.istore_n 1, 1) := by decide +kernel
theorem dX2_countTainted_2 : decode cX2_countTainted 2 = .ok (.iconst 0, 1) := by decide +kernel
theorem dX2_countTainted_3 : decode cX2_countTainted 3 = .ok (.istore_n 2, 1) := by decide +kernel
theorem dX2_countTainted_4 : decode cX2_countTainted 4 = .ok (.iload_n 2, 1) := by decide +kernel
theorem dX2_countTainted_5 : decode cX2_countTainted 5 = .ok (.bipush 12, 2) := by decide +kernel
theorem dX2_countTainted_7 : decode cX2_countTainted 7 = .ok (.if_icmp .ge 20, 3) := by decide +kernel
theorem dX2_countTainted_10 : decode cX2_countTainted 10 = .ok (.aload_n 0, 1) := by decide +kernel
theorem dX2_countTainted_11 : decode cX2_countTainted 11 = .ok (.iload_n 2, 1) := by decide +kernel
theorem dX2_countTainted_12 : decode cX2_countTainted 12 = .ok (.invokevirtual 58, 3) := by decide +kernel
theorem dX2_countTainted_15 : decode cX2_countTainted 15 = .ok (.ifCond .eq 6, 3) := by decide +kernel
theorem dX2_countTainted_18 : decode cX2_countTainted 18 = .ok (.iinc 1 1, 3) := by decide +kernel
theorem dX2_countTainted_21 : decode cX2_countTainted 21 = .ok (.iinc 2 1, 3) := by decide +kernel
theorem dX2_countTainted_24 : decode cX2_countTainted 24 = .ok (.goto (-20), 3) := by decide +kernel
theorem dX2_countTainted_27 : decode cX2_countTainted 27 = .ok (.iload_n 1, 1) := by decide +kernel
theorem dX2_countTainted_28 : decode cX2_countTainted 28 = .ok (.ireturn, 1) := by decide +kernel
set_option maxRecDepth 20000 in
theorem ggX3_init_X0_init : GoodIn wsX3_init wsX0_init := goodIn_r _ [23, 24, 2, 3, 17, 25, 26, 27, 28, 56, 57, 58, 59] (by decide +kernel) (by decide +kernel)
set_option maxRecDepth 20000 in
theorem gX3_init_X0_init : GoodIn wsX3_init (wsX0_init) := ggX3_init_X0_init
set_option maxRecDepth 20000 in
theorem ggX3_init_X2_init : GoodIn wsX3_init wsX2_init := goodIn_r _ [31, 32, 2, 3, 17, 33, 34, 35, 36, 37, 38, 39, 40, 41, 42, 43, 10, 44, 45, 67, 68, 69, 70, 71, 72, 73, 74] (by decide +kernel) (by decide +kernel)
set_option maxRecDepth 20000 in
theorem gX3_init_X2_init : GoodIn wsX3_init (wsX2_init) := ggX3_init_X2_init
set_option maxRecDepth 20000 in
theorem ggX3_init_X1_init : GoodIn wsX3_init wsX1_init := goodIn_r _ [48, 49, 2, 3, 17, 50, 51, 52, 53, 54, 55, 75, 76, 77, 78, 79, 80] (by decide +kernel) (by decide +kernel)
set_option maxRecDepth 20000 in
theorem gX3_init_X1_init : GoodIn wsX3_init (wsX1_init) := ggX3_init_X1_init
theorem dX3_init_0 : decode cX3_init 0 = .ok (.aload_n 0, 1) := by decide +kernel
theorem dX3_init_1 : decode cX3_init 1 = .ok (.invokespecial 1, 3) := by decide +kernel
theorem dX3_init_4 : decode cX3_init 4 = .ok (.aload_n 0, 1) := by decide +kernel
theorem dX3_init_5 : decode cX3_init 5 = .ok (.new 7, 3) := by decide +kernel
theorem dX3_init_8 : decode cX3_init 8 = .ok (.dup, 1) := by decide +kernel
theorem dX3_init_9 : decode cX3_init 9 = .ok (.invokespecial 9, 3) := by decide +kernel
theorem dX3_init_12 : decode cX3_init 12 = .ok (.putfield 10, 3) := by decide +kernel
theorem dX3_init_15 : decode cX3_init 15 = .ok (.aload_n 0, 1) := by decide +kernel
theorem dX3_init_16 : decode cX3_init 16 = .ok (.new 16, 3) := by decide +kernel
theorem dX3_init_19 : decode cX3_init 19 = .ok (.dup, 1) := by decide +kernel
theorem dX3_init_20 : decode cX3_init 20 = .ok (.invokespecial 18, 3) := by decide +kernel
theorem dX3_init_23 : decode cX3_init 23 = .ok (.putfield 19, 3) := by decide +kernel
theorem dX3_init_26 : decode cX3_init 26 = .ok (.aload_n 0, 1) := by decide +kernel
theorem dX3_init_27 : decode cX3_init 27 = .ok (.new 16, 3) := by decide +kernel
theorem dX3_init_30 : decode cX3_init 30 = .ok (.dup, 1) := by decide +kernel
theorem dX3_init_31 : decode cX3_init 31 = .ok (.invokespecial 18, 3) := by decide +kernel
theorem dX3_init_34 : decode cX3_init 34 = .ok (.putfield 23, 3) := by decide +kernel
theorem dX3_init_37 : decode cX3_init 37 = .ok (.aload_n 0, 1) := by decide +kernel
theorem dX3_init_38 : decode cX3_init 38 = .ok (.new 26, 3) := by decide +kernel
theorem dX3_init_41 : decode cX3_init 41 = .ok (.dup, 1) := by decide +kernel
theorem dX3_init_42 : decode cX3_init 42 = .ok (.invokespecial 28, 3) := by decide +kernel
theorem dX3_init_45 : decode cX3_init 45 = .ok (.putfield 29, 3) := by decide +kernel
theorem dX3_init_48 : decode cX3_init 48 = .ok (.aload_n 0, 1) := by decide +kernel
theorem dX3_init_49 : decode cX3_init 49 = .ok (.iconst 4, 1) := by decide +kernel
theorem dX3_init_50 : decode cX3_init 50 = .ok (.newarray .int, 2) := by decide +kernel
theorem dX3_init_52 : decode cX3_init 52 = .ok (.putfield 33, 3) := by decide +kernel
theorem dX3_init_55 : decode cX3_init 55 = .ok (.aload_n 0, 1) := by decide +kernel
theorem dX3_init_56 : decode cX3_init 56 = .ok (.iconst 4, 1) := by decide +kernel
theorem dX3_init_57 : decode cX3_init 57 = .ok (.newarray .int, 2) := by decide +kernel
theorem dX3_init_59 : decode cX3_init 59 = .ok (.putfield 37, 3) := by decide +kernel
theorem dX3_init_62 : decode cX3_init 62 = .ok (.iconst 0, 1) := by decide +kernel
theorem dX3_init_63 : decode cX3_init 63 = .ok (.istore_n 1, 1) := by decide +kernel
theorem dX3_init_64 : decode cX3_init 64 = .ok (.iload_n 1, 1) := by decide +kernel
theorem dX3_init_65 : decode cX3_init 65 = .ok (.iconst 4, 1) := by decide +kernel
theorem dX3_init_66 : decode cX3_init 66 = .ok (.if_icmp .ge 16, 3) := by decide +kernel
theorem dX3_init_69 : decode cX3_init 69 = .ok (.aload_n 0, 1) := by decide +kernel
theorem dX3_init_70 : decode cX3_init 70 = .ok (.getfield 37, 3) := by decide +kernel
theorem dX3_init_73 : decode cX3_init 73 = .ok (.iload_n 1, 1) := by decide +kernel
theorem dX3_init_74 : decode cX3_init 74 = .ok (.iconst 1, 1) := by decide +kernel
theorem dX3_init_75 : decode cX3_init 75 = .ok (.iastore, 1) := by decide +kernel
theorem dX3_init_76 : decode cX3_init 76 = .ok (.iinc 1 1, 3) := by decide +kernel
theorem dX3_init_79 : decode cX3_init 79 = .ok (.goto (-15), 3) := by decide +kernel
theorem dX3_init_82 : decode cX3_init 82 = .ok (.aload_n 0, 1) := by decide +kernel
theorem dX3_init_83 : decode cX3_init 83 = .ok (.iconst 0, 1) := by decide +kernel
theorem dX3_init_84 : decode cX3_init 84 = .ok (.putfield 40, 3) := by decide +kernel
theorem dX3_init_87 : decode cX3_init 87 = .ok (.return_, 1) := by decide +kernel
set_option maxRecDepth 20000 in
theorem ggX3_word_X3_isPerson : GoodIn wsX3_word wsX3_isPerson := goodIn_r _ [12] (by decide +kernel) (by decide +kernel)
set_option maxRecDepth 20000 in
theorem gX3_word_X3_isPerson : GoodIn wsX3_word (va_wsS RX3 44 yX3_isPerson wsX3_isPerson) := goodIn_app (goodIn_of _ (by decide +kernel)) ggX3_word_X3_isPerson
set_option maxRecDepth 20000 in
theorem ggX3_word_X0_isInSession : GoodIn wsX3_word wsX0_isInSession := goodIn_r _ [17, 18, 31, 32, 33, 34] (by decide +kernel) (by decide +kernel)
set_option maxRecDepth 20000 in
theorem gX3_word_X0_isInSession : GoodIn wsX3_word (wsV RX3 60 RX0 yX0_isInSession wsX0_isInSession) := goodIn_app (goodIn_of _ (by decide +kernel)) ggX3_word_X0_isInSession
set_option maxRecDepth 20000 in
theorem ggX3_word_X0_setWord : GoodIn wsX3_word wsX0_setWord := goodIn_r _ [22, 23, 31, 32, 33, 34] (by decide +kernel) (by decide +kernel)
set_option maxRecDepth 20000 in
theorem gX3_word_X0_setWord : GoodIn wsX3_word (wsV RX3 69 RX0 yX0_setWord wsX0_setWord) := goodIn_app (goodIn_of _ (by decide +kernel)) ggX3_word_X0_setWord
theorem dX3_word_0 : decode cX3_word 0 = .ok (.iload_n 1, 1) := by decide +kernel
theorem dX3_word_1 : decode cX3_word 1 = .ok (.invokestatic 44, 3) := by decide +kernel
theorem dX3_word_4 : decode cX3_word 4 = .ok (.ifCond .ne 13, 3) := by decide +kernel
theorem dX3_word_7 : decode cX3_word 7 = .ok (.new 48, 3) := by decide +kernel
theorem dX3_word_10 : decode cX3_word 10 = .ok (.dup, 1) := by decide +kernel
theorem dX3_word_11 : decode cX3_word 11 = .ok (.ldc 50, 2) := by decide +kernel
theorem dX3_word_13 : decode cX3_word 13 = .ok (.invokespecial 52, 3) := by decide +kernel
theorem dX3_word_16 : decode cX3_word 16 = .ok (.athrow, 1) := by decide +kernel
theorem dX3_word_17 : decode cX3_word 17 = .ok (.iload_n 2, 1) := by decide +kernel
theorem dX3_word_18 : decode cX3_word 18 = .ok (.ifCond .lt 10, 3) := by decide +kernel
theorem dX3_word_21 : decode cX3_word 21 = .ok (.iload_n 2, 1) := by decide +kernel
theorem dX3_word_22 : decode cX3_word 22 = .ok (.sipush 999, 3) := by decide +kernel
theorem dX3_word_25 : decode cX3_word 25 = .ok (.if_icmp .le 13, 3) := by decide +kernel
theorem dX3_word_28 : decode cX3_word 28 = .ok (.new 55, 3) := by decide +kernel
theorem dX3_word_31 : decode cX3_word 31 = .ok (.dup, 1) := by decide +kernel
theorem dX3_word_32 : decode cX3_word 32 = .ok (.ldc 57, 2) := by decide +kernel
theorem dX3_word_34 : decode cX3_word 34 = .ok (.invokespecial 59, 3) := by decide +kernel
theorem dX3_word_37 : decode cX3_word 37 = .ok (.athrow, 1) := by decide +kernel
theorem dX3_word_38 : decode cX3_word 38 = .ok (.aload_n 0, 1) := by decide +kernel
theorem dX3_word_39 : decode cX3_word 39 = .ok (.getfield 10, 3) := by decide +kernel
theorem dX3_word_42 : decode cX3_word 42 = .ok (.iload_n 1, 1) := by decide +kernel
theorem dX3_word_43 : decode cX3_word 43 = .ok (.aload_n 0, 1) := by decide +kernel
theorem dX3_word_44 : decode cX3_word 44 = .ok (.getfield 40, 3) := by decide +kernel
theorem dX3_word_47 : decode cX3_word 47 = .ok (.invokevirtual 60, 3) := by decide +kernel
theorem dX3_word_50 : decode cX3_word 50 = .ok (.ifCond .ne 13, 3) := by decide +kernel
theorem dX3_word_53 : decode cX3_word 53 = .ok (.new 64, 3) := by decide +kernel
theorem dX3_word_56 : decode cX3_word 56 = .ok (.dup, 1) := by decide +kernel
theorem dX3_word_57 : decode cX3_word 57 = .ok (.ldc 66, 2) := by decide +kernel
theorem dX3_word_59 : decode cX3_word 59 = .ok (.invokespecial 68, 3) := by decide +kernel
theorem dX3_word_62 : decode cX3_word 62 = .ok (.athrow, 1) := by decide +kernel
theorem dX3_word_63 : decode cX3_word 63 = .ok (.aload_n 0, 1) := by decide +kernel
theorem dX3_word_64 : decode cX3_word 64 = .ok (.getfield 10, 3) := by decide +kernel
theorem dX3_word_67 : decode cX3_word 67 = .ok (.iload_n 1, 1) := by decide +kernel
theorem dX3_word_68 : decode cX3_word 68 = .ok (.iload_n 2, 1) := by decide +kernel
theorem dX3_word_69 : decode cX3_word 69 = .ok (.invokevirtual 69, 3) := by decide +kernel
theorem dX3_word_72 : decode cX3_word 72 = .ok (.return_, 1) := by decide +kernel
set_option maxRecDepth 20000 in
theorem ggX3_login_X3_isPerson : GoodIn wsX3_login wsX3_isPerson := goodIn_r _ [10] (by decide +kernel) (by decide +kernel)
set_option maxRecDepth 20000 in
theorem gX3_login_X3_isPerson : GoodIn wsX3_login (va_wsS RX3 44 yX3_isPerson wsX3_isPerson) := goodIn_app (goodIn_of _ (by decide +kernel)) ggX3_login_X3_isPerson
set_option maxRecDepth 20000 in
theorem ggX3_login_X0_tryLogin : GoodIn wsX3_login wsX0_tryLogin := goodIn_r _ [15, 16, 17, 18, 19, 20, 21, 22, 14, 23, 24, 25, 26, 34, 35, 36, 37] (by decide +kernel) (by decide +kernel)
set_option maxRecDepth 20000 in
theorem gX3_login_X0_tryLogin : GoodIn wsX3_login (wsV RX3 75 RX0 yX0_tryLogin wsX0_tryLogin) := goodIn_app (goodIn_of _ (by decide +kernel)) ggX3_login_X0_tryLogin
theorem dX3_login_0 : decode cX3_login 0 = .ok (.iload_n 1, 1) := by decide +kernel
theorem dX3_login_1 : decode cX3_login 1 = .ok (.invokestatic 44, 3) := by decide +kernel
theorem dX3_login_4 : decode cX3_login 4 = .ok (.ifCond .ne 13, 3) := by decide +kernel
theorem dX3_login_7 : decode cX3_login 7 = .ok (.new 48, 3) := by decide +kernel
theorem dX3_login_10 : decode cX3_login 10 = .ok (.dup, 1) := by decide +kernel
theorem dX3_login_11 : decode cX3_login 11 = .ok (.ldc 50, 2) := by decide +kernel
theorem dX3_login_13 : decode cX3_login 13 = .ok (.invokespecial 52, 3) := by decide +kernel
theorem dX3_login_16 : decode cX3_login 16 = .ok (.athrow, 1) := by decide +kernel
theorem dX3_login_17 : decode cX3_login 17 = .ok (.iload_n 2, 1) := by decide +kernel
theorem dX3_login_18 : decode cX3_login 18 = .ok (.ifCond .lt 20, 3) := by decide +kernel
theorem dX3_login_21 : decode cX3_login 21 = .ok (.iload_n 2, 1) := by decide +kernel
theorem dX3_login_22 : decode cX3_login 22 = .ok (.sipush 999, 3) := by decide +kernel
theorem dX3_login_25 : decode cX3_login 25 = .ok (.if_icmp .gt 13, 3) := by decide +kernel
theorem dX3_login_28 : decode cX3_login 28 = .ok (.iload_n 3, 1) := by decide +kernel
theorem dX3_login_29 : decode cX3_login 29 = .ok (.ifCond .lt 9, 3) := by decide +kernel
theorem dX3_login_32 : decode cX3_login 32 = .ok (.iload_n 3, 1) := by decide +kernel
theorem dX3_login_33 : decode cX3_login 33 = .ok (.bipush 9, 2) := by decide +kernel
theorem dX3_login_35 : decode cX3_login 35 = .ok (.if_icmp .le 13, 3) := by decide +kernel
theorem dX3_login_38 : decode cX3_login 38 = .ok (.new 55, 3) := by decide +kernel
theorem dX3_login_41 : decode cX3_login 41 = .ok (.dup, 1) := by decide +kernel
theorem dX3_login_42 : decode cX3_login 42 = .ok (.ldc 73, 2) := by decide +kernel
theorem dX3_login_44 : decode cX3_login 44 = .ok (.invokespecial 59, 3) := by decide +kernel
theorem dX3_login_47 : decode cX3_login 47 = .ok (.athrow, 1) := by decide +kernel
theorem dX3_login_48 : decode cX3_login 48 = .ok (.aload_n 0, 1) := by decide +kernel
theorem dX3_login_49 : decode cX3_login 49 = .ok (.getfield 10, 3) := by decide +kernel
theorem dX3_login_52 : decode cX3_login 52 = .ok (.iload_n 1, 1) := by decide +kernel
theorem dX3_login_53 : decode cX3_login 53 = .ok (.iload_n 2, 1) := by decide +kernel
theorem dX3_login_54 : decode cX3_login 54 = .ok (.iload_n 3, 1) := by decide +kernel
theorem dX3_login_55 : decode cX3_login 55 = .ok (.aload_n 0, 1) := by decide +kernel
theorem dX3_login_56 : decode cX3_login 56 = .ok (.getfield 40, 3) := by decide +kernel
theorem dX3_login_59 : decode cX3_login 59 = .ok (.invokevirtual 75, 3) := by decide +kernel
theorem dX3_login_62 : decode cX3_login 62 = .ok (.ireturn, 1) := by decide +kernel
theorem dX3_pass_0 : decode cX3_pass 0 = .ok (.iload_n 1, 1) := by decide +kernel
theorem dX3_pass_1 : decode cX3_pass 1 = .ok (.iconst 1, 1) := by decide +kernel
theorem dX3_pass_2 : decode cX3_pass 2 = .ok (.if_icmp .lt 10, 3) := by decide +kernel
theorem dX3_pass_5 : decode cX3_pass 5 = .ok (.iload_n 1, 1) := by decide +kernel
theorem dX3_pass_6 : decode cX3_pass 6 = .ok (.sipush 500, 3) := by decide +kernel
theorem dX3_pass_9 : decode cX3_pass 9 = .ok (.if_icmp .le 13, 3) := by decide +kernel
theorem dX3_pass_12 : decode cX3_pass 12 = .ok (.new 55, 3) := by decide +kernel
theorem dX3_pass_15 : decode cX3_pass 15 = .ok (.dup, 1) := by decide +kernel
theorem dX3_pass_16 : decode cX3_pass 16 = .ok (.ldc 79, 2) := by decide +kernel
theorem dX3_pass_18 : decode cX3_pass 18 = .ok (.invokespecial 59, 3) := by decide +kernel
theorem dX3_pass_21 : decode cX3_pass 21 = .ok (.athrow, 1) := by decide +kernel
theorem dX3_pass_22 : decode cX3_pass 22 = .ok (.aload_n 0, 1) := by decide +kernel
theorem dX3_pass_23 : decode cX3_pass 23 = .ok (.dup, 1) := by decide +kernel
theorem dX3_pass_24 : decode cX3_pass 24 = .ok (.getfield 40, 3) := by decide +kernel
theorem dX3_pass_27 : decode cX3_pass 27 = .ok (.iload_n 1, 1) := by decide +kernel
theorem dX3_pass_28 : decode cX3_pass 28 = .ok (.iadd, 1) := by decide +kernel
theorem dX3_pass_29 : decode cX3_pass 29 = .ok (.putfield 40, 3) := by decide +kernel
theorem dX3_pass_32 : decode cX3_pass 32 = .ok (.aload_n 0, 1) := by decide +kernel
theorem dX3_pass_33 : decode cX3_pass 33 = .ok (.getfield 40, 3) := by decide +kernel
theorem dX3_pass_36 : decode cX3_pass 36 = .ok (.ireturn, 1) := by decide +kernel
set_option maxRecDepth 20000 in
theorem ggX3_vouch_X3_isPerson : GoodIn wsX3_vouch wsX3_isPerson := goodIn_r _ [13] (by decide +kernel) (by decide +kernel)
set_option maxRecDepth 20000 in
theorem gX3_vouch_X3_isPerson : GoodIn wsX3_vouch (va_wsS RX3 44 yX3_isPerson wsX3_isPerson) := goodIn_app (goodIn_of _ (by decide +kernel)) ggX3_vouch_X3_isPerson
set_option maxRecDepth 20000 in
theorem ggX3_vouch_X3_isGuest : GoodIn wsX3_vouch wsX3_isGuest := goodIn_r _ [16] (by decide +kernel) (by decide +kernel)
set_option maxRecDepth 20000 in
theorem gX3_vouch_X3_isGuest : GoodIn wsX3_vouch (va_wsS RX3 81 yX3_isGuest wsX3_isGuest) := goodIn_app (goodIn_of _ (by decide +kernel)) ggX3_vouch_X3_isGuest
set_option maxRecDepth 20000 in
theorem ggX3_vouch_X3_mayAct : GoodIn wsX3_vouch wsX3_mayAct := goodIn_r _ [20, 21, 9, 8, 22, 23, 24, 25, 26, 27, 28, 29, 30, 31, 32, 33, 34, 35, 36, 37, 11, 12, 13, 15, 16, 38, 39, 40, 41, 42, 43, 44, 45, 46, 47, 79, 80, 81, 82, 83, 84, 85, 86, 87, 88, 89, 90, 91, 92, 93, 94, 95, 96, 97] (by decide +kernel) (by decide +kernel)
set_option maxRecDepth 20000 in
theorem gX3_vouch_X3_mayAct : GoodIn wsX3_vouch (wsV RX3 88 RX3 yX3_mayAct wsX3_mayAct) := goodIn_app (goodIn_of _ (by decide +kernel)) ggX3_vouch_X3_mayAct
set_option maxRecDepth 20000 in
theorem ggX3_vouch_X1_countVouchings : GoodIn wsX3_vouch wsX1_countVouchings := goodIn_r _ [52, 53, 98, 99, 100, 101, 102, 103] (by decide +kernel) (by decide +kernel)
set_option maxRecDepth 20000 in
theorem gX3_vouch_X1_countVouchings : GoodIn wsX3_vouch (wsV RX3 91 RX1 yX1_countVouchings wsX1_countVouchings) := goodIn_app (goodIn_of _ (by decide +kernel)) ggX3_vouch_X1_countVouchings
set_option maxRecDepth 20000 in
theorem ggX3_vouch_X2_tie : GoodIn wsX3_vouch wsX2_tie := goodIn_r _ [57, 37, 58, 59, 60, 47, 90, 91, 92, 93, 94, 95, 96, 97] (by decide +kernel) (by decide +kernel)
set_option maxRecDepth 20000 in
theorem gX3_vouch_X2_tie : GoodIn wsX3_vouch (wsV RX3 97 RX2 yX2_tie wsX2_tie) := goodIn_app (goodIn_of _ (by decide +kernel)) ggX3_vouch_X2_tie
set_option maxRecDepth 20000 in
theorem ggX3_vouch_X2_setRooms : GoodIn wsX3_vouch wsX2_setRooms := goodIn_r _ [64, 65, 90, 91, 92, 93, 94, 95, 96, 97] (by decide +kernel) (by decide +kernel)
set_option maxRecDepth 20000 in
theorem gX3_vouch_X2_setRooms : GoodIn wsX3_vouch (wsV RX3 101 RX2 yX2_setRooms wsX2_setRooms) := goodIn_app (goodIn_of _ (by decide +kernel)) ggX3_vouch_X2_setRooms
set_option maxRecDepth 20000 in
theorem ggX3_vouch_X1_addVouching : GoodIn wsX3_vouch wsX1_addVouching := goodIn_r _ [69, 53, 70, 71, 72, 51, 73, 74, 75, 76, 77, 78, 98, 99, 100, 101, 102, 103] (by decide +kernel) (by decide +kernel)
set_option maxRecDepth 20000 in
theorem gX3_vouch_X1_addVouching : GoodIn wsX3_vouch (wsV RX3 104 RX1 yX1_addVouching wsX1_addVouching) := goodIn_app (goodIn_of _ (by decide +kernel)) ggX3_vouch_X1_addVouching
theorem dX3_vouch_0 : decode cX3_vouch 0 = .ok (.iload_n 1, 1) := by decide +kernel
theorem dX3_vouch_1 : decode cX3_vouch 1 = .ok (.invokestatic 44, 3) := by decide +kernel
theorem dX3_vouch_4 : decode cX3_vouch 4 = .ok (.ifCond .eq 10, 3) := by decide +kernel
theorem dX3_vouch_7 : decode cX3_vouch 7 = .ok (.iload_n 2, 1) := by decide +kernel
theorem dX3_vouch_8 : decode cX3_vouch 8 = .ok (.invokestatic 81, 3) := by decide +kernel
theorem dX3_vouch_11 : decode cX3_vouch 11 = .ok (.ifCond .ne 13, 3) := by decide +kernel
theorem dX3_vouch_14 : decode cX3_vouch 14 = .ok (.new 48, 3) := by decide +kernel
theorem dX3_vouch_17 : decode cX3_vouch 17 = .ok (.dup, 1) := by decide +kernel
theorem dX3_vouch_18 : decode cX3_vouch 18 = .ok (.ldc 84, 2) := by decide +kernel
theorem dX3_vouch_20 : decode cX3_vouch 20 = .ok (.invokespecial 52, 3) := by decide +kernel
theorem dX3_vouch_23 : decode cX3_vouch 23 = .ok (.athrow, 1) := by decide +kernel
theorem dX3_vouch_24 : decode cX3_vouch 24 = .ok (.iload_n 1, 1) := by decide +kernel
theorem dX3_vouch_25 : decode cX3_vouch 25 = .ok (.iload_n 2, 1) := by decide +kernel
theorem dX3_vouch_26 : decode cX3_vouch 26 = .ok (.if_icmp .eq 14, 3) := by decide +kernel
theorem dX3_vouch_29 : decode cX3_vouch 29 = .ok (.iload_n 3, 1) := by decide +kernel
theorem dX3_vouch_30 : decode cX3_vouch 30 = .ok (.iconst 1, 1) := by decide +kernel
theorem dX3_vouch_31 : decode cX3_vouch 31 = .ok (.if_icmp .lt 9, 3) := by decide +kernel
theorem dX3_vouch_34 : decode cX3_vouch 34 = .ok (.iload_n 3, 1) := by decide +kernel
theorem dX3_vouch_35 : decode cX3_vouch 35 = .ok (.bipush 63, 2) := by decide +kernel
theorem dX3_vouch_37 : decode cX3_vouch 37 = .ok (.if_icmp .le 13, 3) := by decide +kernel
theorem dX3_vouch_40 : decode cX3_vouch 40 = .ok (.new 55, 3) := by decide +kernel
theorem dX3_vouch_43 : decode cX3_vouch 43 = .ok (.dup, 1) := by decide +kernel
theorem dX3_vouch_44 : decode cX3_vouch 44 = .ok (.ldc 86, 2) := by decide +kernel
theorem dX3_vouch_46 : decode cX3_vouch 46 = .ok (.invokespecial 59, 3) := by decide +kernel
theorem dX3_vouch_49 : decode cX3_vouch 49 = .ok (.athrow, 1) := by decide +kernel
theorem dX3_vouch_50 : decode cX3_vouch 50 = .ok (.aload_n 0, 1) := by decide +kernel
theorem dX3_vouch_51 : decode cX3_vouch 51 = .ok (.iload_n 1, 1) := by decide +kernel
theorem dX3_vouch_52 : decode cX3_vouch 52 = .ok (.invokevirtual 88, 3) := by decide +kernel
theorem dX3_vouch_55 : decode cX3_vouch 55 = .ok (.ifCond .eq 15, 3) := by decide +kernel
theorem dX3_vouch_58 : decode cX3_vouch 58 = .ok (.aload_n 0, 1) := by decide +kernel
theorem dX3_vouch_59 : decode cX3_vouch 59 = .ok (.getfield 29, 3) := by decide +kernel
theorem dX3_vouch_62 : decode cX3_vouch 62 = .ok (.invokevirtual 91, 3) := by decide +kernel
theorem dX3_vouch_65 : decode cX3_vouch 65 = .ok (.bipush 100, 2) := by decide +kernel
theorem dX3_vouch_67 : decode cX3_vouch 67 = .ok (.if_icmp .lt 13, 3) := by decide +kernel
theorem dX3_vouch_70 : decode cX3_vouch 70 = .ok (.new 64, 3) := by decide +kernel
theorem dX3_vouch_73 : decode cX3_vouch 73 = .ok (.dup, 1) := by decide +kernel
theorem dX3_vouch_74 : decode cX3_vouch 74 = .ok (.ldc 95, 2) := by decide +kernel
theorem dX3_vouch_76 : decode cX3_vouch 76 = .ok (.invokespecial 68, 3) := by decide +kernel
theorem dX3_vouch_79 : decode cX3_vouch 79 = .ok (.athrow, 1) := by decide +kernel
theorem dX3_vouch_80 : decode cX3_vouch 80 = .ok (.aload_n 0, 1) := by decide +kernel
theorem dX3_vouch_81 : decode cX3_vouch 81 = .ok (.getfield 19, 3) := by decide +kernel
theorem dX3_vouch_84 : decode cX3_vouch 84 = .ok (.iload_n 1, 1) := by decide +kernel
theorem dX3_vouch_85 : decode cX3_vouch 85 = .ok (.iload_n 2, 1) := by decide +kernel
theorem dX3_vouch_86 : decode cX3_vouch 86 = .ok (.aload_n 0, 1) := by decide +kernel
theorem dX3_vouch_87 : decode cX3_vouch 87 = .ok (.getfield 40, 3) := by decide +kernel
theorem dX3_vouch_90 : decode cX3_vouch 90 = .ok (.invokevirtual 97, 3) := by decide +kernel
theorem dX3_vouch_93 : decode cX3_vouch 93 = .ok (.aload_n 0, 1) := by decide +kernel
theorem dX3_vouch_94 : decode cX3_vouch 94 = .ok (.getfield 19, 3) := by decide +kernel
theorem dX3_vouch_97 : decode cX3_vouch 97 = .ok (.iload_n 2, 1) := by decide +kernel
theorem dX3_vouch_98 : decode cX3_vouch 98 = .ok (.iload_n 3, 1) := by decide +kernel
theorem dX3_vouch_99 : decode cX3_vouch 99 = .ok (.invokevirtual 101, 3) := by decide +kernel
theorem dX3_vouch_102 : decode cX3_vouch 102 = .ok (.aload_n 0, 1) := by decide +kernel
theorem dX3_vouch_103 : decode cX3_vouch 103 = .ok (.getfield 29, 3) := by decide +kernel
theorem dX3_vouch_106 : decode cX3_vouch 106 = .ok (.iload_n 1, 1) := by decide +kernel
theorem dX3_vouch_107 : decode cX3_vouch 107 = .ok (.iload_n 2, 1) := by decide +kernel
theorem dX3_vouch_108 : decode cX3_vouch 108 = .ok (.aload_n 0, 1) := by decide +kernel
theorem dX3_vouch_109 : decode cX3_vouch 109 = .ok (.getfield 40, 3) := by decide +kernel
theorem dX3_vouch_112 : decode cX3_vouch 112 = .ok (.invokevirtual 104, 3) := by decide +kernel
theorem dX3_vouch_115 : decode cX3_vouch 115 = .ok (.aload_n 0, 1) := by decide +kernel
theorem dX3_vouch_116 : decode cX3_vouch 116 = .ok (.getfield 29, 3) := by decide +kernel
theorem dX3_vouch_119 : decode cX3_vouch 119 = .ok (.invokevirtual 91, 3) := by decide +kernel
theorem dX3_vouch_122 : decode cX3_vouch 122 = .ok (.ireturn, 1) := by decide +kernel
set_option maxRecDepth 20000 in
theorem ggX3_end_X3_isGuest : GoodIn wsX3_end wsX3_isGuest := goodIn_r _ [10] (by decide +kernel) (by decide +kernel)
set_option maxRecDepth 20000 in
theorem gX3_end_X3_isGuest : GoodIn wsX3_end (va_wsS RX3 81 yX3_isGuest wsX3_isGuest) := goodIn_app (goodIn_of _ (by decide +kernel)) ggX3_end_X3_isGuest
set_option maxRecDepth 20000 in
theorem ggX3_end_X2_hostOf : GoodIn wsX3_end wsX2_hostOf := goodIn_r _ [15, 16, 43, 44, 45, 46, 47, 48, 49, 50] (by decide +kernel) (by decide +kernel)
set_option maxRecDepth 20000 in
theorem gX3_end_X2_hostOf : GoodIn wsX3_end (wsV RX3 109 RX2 yX2_hostOf wsX2_hostOf) := goodIn_app (goodIn_of _ (by decide +kernel)) ggX3_end_X2_hostOf
set_option maxRecDepth 20000 in
theorem ggX3_end_X2_untie : GoodIn wsX3_end wsX2_untie := goodIn_r _ [20, 16, 21, 43, 44, 45, 46, 47, 48, 49, 50] (by decide +kernel) (by decide +kernel)
set_option maxRecDepth 20000 in
theorem gX3_end_X2_untie : GoodIn wsX3_end (wsV RX3 115 RX2 yX2_untie wsX2_untie) := goodIn_app (goodIn_of _ (by decide +kernel)) ggX3_end_X2_untie
set_option maxRecDepth 20000 in
theorem ggX3_end_X1_addEnding : GoodIn wsX3_end wsX1_addEnding := goodIn_r _ [26, 27, 28, 29, 25, 30, 31, 32, 33, 34, 35, 51, 52, 53, 54, 55, 56] (by decide +kernel) (by decide +kernel)
set_option maxRecDepth 20000 in
theorem gX3_end_X1_addEnding : GoodIn wsX3_end (wsV RX3 119 RX1 yX1_addEnding wsX1_addEnding) := goodIn_app (goodIn_of _ (by decide +kernel)) ggX3_end_X1_addEnding
theorem dX3_end_0 : decode cX3_end 0 = .ok (.iload_n 1, 1) := by decide +kernel
theorem dX3_end_1 : decode cX3_end 1 = .ok (.invokestatic 81, 3) := by decide +kernel
theorem dX3_end_4 : decode cX3_end 4 = .ok (.ifCond .ne 13, 3) := by decide +kernel
theorem dX3_end_7 : decode cX3_end 7 = .ok (.new 48, 3) := by decide +kernel
theorem dX3_end_10 : decode cX3_end 10 = .ok (.dup, 1) := by decide +kernel
theorem dX3_end_11 : decode cX3_end 11 = .ok (.ldc 107, 2) := by decide +kernel
theorem dX3_end_13 : decode cX3_end 13 = .ok (.invokespecial 52, 3) := by decide +kernel
theorem dX3_end_16 : decode cX3_end 16 = .ok (.athrow, 1) := by decide +kernel
theorem dX3_end_17 : decode cX3_end 17 = .ok (.aload_n 0, 1) := by decide +kernel
theorem dX3_end_18 : decode cX3_end 18 = .ok (.getfield 19, 3) := by decide +kernel
theorem dX3_end_21 : decode cX3_end 21 = .ok (.iload_n 1, 1) := by decide +kernel
theorem dX3_end_22 : decode cX3_end 22 = .ok (.invokevirtual 109, 3) := by decide +kernel
theorem dX3_end_25 : decode cX3_end 25 = .ok (.istore_n 2, 1) := by decide +kernel
theorem dX3_end_26 : decode cX3_end 26 = .ok (.iload_n 2, 1) := by decide +kernel
theorem dX3_end_27 : decode cX3_end 27 = .ok (.iconst (-1), 1) := by decide +kernel
theorem dX3_end_28 : decode cX3_end 28 = .ok (.if_icmp .ne 13, 3) := by decide +kernel
theorem dX3_end_31 : decode cX3_end 31 = .ok (.new 64, 3) := by decide +kernel
theorem dX3_end_34 : decode cX3_end 34 = .ok (.dup, 1) := by decide +kernel
theorem dX3_end_35 : decode cX3_end 35 = .ok (.ldc 113, 2) := by decide +kernel
theorem dX3_end_37 : decode cX3_end 37 = .ok (.invokespecial 68, 3) := by decide +kernel
theorem dX3_end_40 : decode cX3_end 40 = .ok (.athrow, 1) := by decide +kernel
theorem dX3_end_41 : decode cX3_end 41 = .ok (.aload_n 0, 1) := by decide +kernel
theorem dX3_end_42 : decode cX3_end 42 = .ok (.getfield 19, 3) := by decide +kernel
theorem dX3_end_45 : decode cX3_end 45 = .ok (.iload_n 1, 1) := by decide +kernel
theorem dX3_end_46 : decode cX3_end 46 = .ok (.invokevirtual 115, 3) := by decide +kernel
theorem dX3_end_49 : decode cX3_end 49 = .ok (.aload_n 0, 1) := by decide +kernel
theorem dX3_end_50 : decode cX3_end 50 = .ok (.getfield 29, 3) := by decide +kernel
theorem dX3_end_53 : decode cX3_end 53 = .ok (.iload_n 1, 1) := by decide +kernel
theorem dX3_end_54 : decode cX3_end 54 = .ok (.invokevirtual 119, 3) := by decide +kernel
theorem dX3_end_57 : decode cX3_end 57 = .ok (.iload_n 2, 1) := by decide +kernel
theorem dX3_end_58 : decode cX3_end 58 = .ok (.ireturn, 1) := by decide +kernel
set_option maxRecDepth 20000 in
theorem ggX3_lose_X3_isPerson : GoodIn wsX3_lose wsX3_isPerson := goodIn_r _ [11] (by decide +kernel) (by decide +kernel)
set_option maxRecDepth 20000 in
theorem gX3_lose_X3_isPerson : GoodIn wsX3_lose (va_wsS RX3 44 yX3_isPerson wsX3_isPerson) := goodIn_app (goodIn_of _ (by decide +kernel)) ggX3_lose_X3_isPerson
set_option maxRecDepth 20000 in
theorem ggX3_lose_X2_markLost : GoodIn wsX3_lose wsX2_markLost := goodIn_r _ [16, 17, 18, 19, 20, 21, 22, 58, 59, 60, 61, 62, 63, 64, 65] (by decide +kernel) (by decide +kernel)
set_option maxRecDepth 20000 in
theorem gX3_lose_X2_markLost : GoodIn wsX3_lose (wsV RX3 124 RX2 yX2_markLost wsX2_markLost) := goodIn_app (goodIn_of _ (by decide +kernel)) ggX3_lose_X2_markLost
set_option maxRecDepth 20000 in
theorem ggX3_lose_X1_addLoss : GoodIn wsX3_lose wsX1_addLoss := goodIn_r _ [27, 28, 29, 30, 26, 31, 32, 33, 34, 35, 36, 66, 67, 68, 69, 70, 71] (by decide +kernel) (by decide +kernel)
set_option maxRecDepth 20000 in
theorem gX3_lose_X1_addLoss : GoodIn wsX3_lose (wsV RX3 127 RX1 yX1_addLoss wsX1_addLoss) := goodIn_app (goodIn_of _ (by decide +kernel)) ggX3_lose_X1_addLoss
set_option maxRecDepth 20000 in
theorem ggX3_lose_X2_countTainted : GoodIn wsX3_lose wsX2_countTainted := goodIn_r _ [40, 41, 42, 43, 15, 44, 17, 45, 46, 47, 48, 22, 18, 49, 10, 50, 58, 59, 60, 61, 62, 63, 64, 65] (by decide +kernel) (by decide +kernel)
set_option maxRecDepth 20000 in
theorem gX3_lose_X2_countTainted : GoodIn wsX3_lose (wsV RX3 130 RX2 yX2_countTainted wsX2_countTainted) := goodIn_app (goodIn_of _ (by decide +kernel)) ggX3_lose_X2_countTainted
theorem dX3_lose_0 : decode cX3_lose 0 = .ok (.iload_n 1, 1) := by decide +kernel
theorem dX3_lose_1 : decode cX3_lose 1 = .ok (.invokestatic 44, 3) := by decide +kernel
theorem dX3_lose_4 : decode cX3_lose 4 = .ok (.ifCond .ne 13, 3) := by decide +kernel
theorem dX3_lose_7 : decode cX3_lose 7 = .ok (.new 48, 3) := by decide +kernel
theorem dX3_lose_10 : decode cX3_lose 10 = .ok (.dup, 1) := by decide +kernel
theorem dX3_lose_11 : decode cX3_lose 11 = .ok (.ldc 50, 2) := by decide +kernel
theorem dX3_lose_13 : decode cX3_lose 13 = .ok (.invokespecial 52, 3) := by decide +kernel
theorem dX3_lose_16 : decode cX3_lose 16 = .ok (.athrow, 1) := by decide +kernel
theorem dX3_lose_17 : decode cX3_lose 17 = .ok (.iload_n 2, 1) := by decide +kernel
theorem dX3_lose_18 : decode cX3_lose 18 = .ok (.ifCond .lt 11, 3) := by decide +kernel
theorem dX3_lose_21 : decode cX3_lose 21 = .ok (.iload_n 2, 1) := by decide +kernel
theorem dX3_lose_22 : decode cX3_lose 22 = .ok (.aload_n 0, 1) := by decide +kernel
theorem dX3_lose_23 : decode cX3_lose 23 = .ok (.getfield 40, 3) := by decide +kernel
theorem dX3_lose_26 : decode cX3_lose 26 = .ok (.if_icmp .le 13, 3) := by decide +kernel
theorem dX3_lose_29 : decode cX3_lose 29 = .ok (.new 55, 3) := by decide +kernel
theorem dX3_lose_32 : decode cX3_lose 32 = .ok (.dup, 1) := by decide +kernel
theorem dX3_lose_33 : decode cX3_lose 33 = .ok (.ldc 122, 2) := by decide +kernel
theorem dX3_lose_35 : decode cX3_lose 35 = .ok (.invokespecial 59, 3) := by decide +kernel
theorem dX3_lose_38 : decode cX3_lose 38 = .ok (.athrow, 1) := by decide +kernel
theorem dX3_lose_39 : decode cX3_lose 39 = .ok (.aload_n 0, 1) := by decide +kernel
theorem dX3_lose_40 : decode cX3_lose 40 = .ok (.getfield 19, 3) := by decide +kernel
theorem dX3_lose_43 : decode cX3_lose 43 = .ok (.iload_n 1, 1) := by decide +kernel
theorem dX3_lose_44 : decode cX3_lose 44 = .ok (.iload_n 2, 1) := by decide +kernel
theorem dX3_lose_45 : decode cX3_lose 45 = .ok (.invokevirtual 124, 3) := by decide +kernel
theorem dX3_lose_48 : decode cX3_lose 48 = .ok (.aload_n 0, 1) := by decide +kernel
theorem dX3_lose_49 : decode cX3_lose 49 = .ok (.getfield 29, 3) := by decide +kernel
theorem dX3_lose_52 : decode cX3_lose 52 = .ok (.iload_n 1, 1) := by decide +kernel
theorem dX3_lose_53 : decode cX3_lose 53 = .ok (.iload_n 2, 1) := by decide +kernel
theorem dX3_lose_54 : decode cX3_lose 54 = .ok (.invokevirtual 127, 3) := by decide +kernel
theorem dX3_lose_57 : decode cX3_lose 57 = .ok (.aload_n 0, 1) := by decide +kernel
theorem dX3_lose_58 : decode cX3_lose 58 = .ok (.getfield 19, 3) := by decide +kernel
theorem dX3_lose_61 : decode cX3_lose 61 = .ok (.invokevirtual 130, 3) := by decide +kernel
theorem dX3_lose_64 : decode cX3_lose 64 = .ok (.ireturn, 1) := by decide +kernel
set_option maxRecDepth 20000 in
theorem ggX3_issue_X3_isPerson : GoodIn wsX3_issue wsX3_isPerson := goodIn_r _ [8] (by decide +kernel) (by decide +kernel)
set_option maxRecDepth 20000 in
theorem gX3_issue_X3_isPerson : GoodIn wsX3_issue (va_wsS RX3 44 yX3_isPerson wsX3_isPerson) := goodIn_app (goodIn_of _ (by decide +kernel)) ggX3_issue_X3_isPerson
set_option maxRecDepth 20000 in
theorem ggX3_issue_X2_renewBadge : GoodIn wsX3_issue wsX2_renewBadge := goodIn_r _ [13, 14, 15, 16, 42, 43, 44, 45, 46, 47, 48, 49] (by decide +kernel) (by decide +kernel)
set_option maxRecDepth 20000 in
theorem gX3_issue_X2_renewBadge : GoodIn wsX3_issue (wsV RX3 133 RX2 yX2_renewBadge wsX2_renewBadge) := goodIn_app (goodIn_of _ (by decide +kernel)) ggX3_issue_X2_renewBadge
set_option maxRecDepth 20000 in
theorem ggX3_issue_X1_addIssue : GoodIn wsX3_issue wsX1_addIssue := goodIn_r _ [21, 22, 23, 24, 20, 25, 26, 27, 28, 29, 30, 50, 51, 52, 53, 54, 55] (by decide +kernel) (by decide +kernel)
set_option maxRecDepth 20000 in
theorem gX3_issue_X1_addIssue : GoodIn wsX3_issue (wsV RX3 136 RX1 yX1_addIssue wsX1_addIssue) := goodIn_app (goodIn_of _ (by decide +kernel)) ggX3_issue_X1_addIssue
set_option maxRecDepth 20000 in
theorem ggX3_issue_X2_badgeOf : GoodIn wsX3_issue wsX2_badgeOf := goodIn_r _ [34, 14, 42, 43, 44, 45, 46, 47, 48, 49] (by decide +kernel) (by decide +kernel)
set_option maxRecDepth 20000 in
theorem gX3_issue_X2_badgeOf : GoodIn wsX3_issue (wsV RX3 139 RX2 yX2_badgeOf wsX2_badgeOf) := goodIn_app (goodIn_of _ (by decide +kernel)) ggX3_issue_X2_badgeOf
theorem dX3_issue_0 : decode cX3_issue 0 = .ok (.iload_n 1, 1) := by decide +kernel
theorem dX3_issue_1 : decode cX3_issue 1 = .ok (.invokestatic 44, 3) := by decide +kernel
theorem dX3_issue_4 : decode cX3_issue 4 = .ok (.ifCond .ne 13, 3) := by decide +kernel
theorem dX3_issue_7 : decode cX3_issue 7 = .ok (.new 48, 3) := by decide +kernel
theorem dX3_issue_10 : decode cX3_issue 10 = .ok (.dup, 1) := by decide +kernel
theorem dX3_issue_11 : decode cX3_issue 11 = .ok (.ldc 50, 2) := by decide +kernel
theorem dX3_issue_13 : decode cX3_issue 13 = .ok (.invokespecial 52, 3) := by decide +kernel
theorem dX3_issue_16 : decode cX3_issue 16 = .ok (.athrow, 1) := by decide +kernel
theorem dX3_issue_17 : decode cX3_issue 17 = .ok (.aload_n 0, 1) := by decide +kernel
theorem dX3_issue_18 : decode cX3_issue 18 = .ok (.getfield 19, 3) := by decide +kernel
theorem dX3_issue_21 : decode cX3_issue 21 = .ok (.iload_n 1, 1) := by decide +kernel
theorem dX3_issue_22 : decode cX3_issue 22 = .ok (.invokevirtual 133, 3) := by decide +kernel
theorem dX3_issue_25 : decode cX3_issue 25 = .ok (.aload_n 0, 1) := by decide +kernel
theorem dX3_issue_26 : decode cX3_issue 26 = .ok (.getfield 29, 3) := by decide +kernel
theorem dX3_issue_29 : decode cX3_issue 29 = .ok (.iload_n 1, 1) := by decide +kernel
theorem dX3_issue_30 : decode cX3_issue 30 = .ok (.invokevirtual 136, 3) := by decide +kernel
theorem dX3_issue_33 : decode cX3_issue 33 = .ok (.aload_n 0, 1) := by decide +kernel
theorem dX3_issue_34 : decode cX3_issue 34 = .ok (.getfield 19, 3) := by decide +kernel
theorem dX3_issue_37 : decode cX3_issue 37 = .ok (.iload_n 1, 1) := by decide +kernel
theorem dX3_issue_38 : decode cX3_issue 38 = .ok (.invokevirtual 139, 3) := by decide +kernel
theorem dX3_issue_41 : decode cX3_issue 41 = .ok (.ireturn, 1) := by decide +kernel
set_option maxRecDepth 20000 in
theorem ggX3_door_X3_isPerson : GoodIn wsX3_door wsX3_isPerson := goodIn_r _ [7] (by decide +kernel) (by decide +kernel)
set_option maxRecDepth 20000 in
theorem gX3_door_X3_isPerson : GoodIn wsX3_door (va_wsS RX3 44 yX3_isPerson wsX3_isPerson) := goodIn_app (goodIn_of _ (by decide +kernel)) ggX3_door_X3_isPerson
set_option maxRecDepth 20000 in
theorem ggX3_door_X2_roomsOf : GoodIn wsX3_door wsX2_roomsOf := goodIn_r _ [12, 13, 14, 15, 16, 17, 11, 18, 19, 20, 21, 22, 5, 6, 7, 23, 24, 45, 46, 47, 48, 49, 50, 51, 52] (by decide +kernel) (by decide +kernel)
set_option maxRecDepth 20000 in
theorem gX3_door_X2_roomsOf : GoodIn wsX3_door (wsV RX3 144 RX2 yX2_roomsOf wsX2_roomsOf) := goodIn_app (goodIn_of _ (by decide +kernel)) ggX3_door_X2_roomsOf
set_option maxRecDepth 20000 in
theorem ggX3_door_X3_holds : GoodIn wsX3_door wsX3_holds := goodIn_r _ [27] (by decide +kernel) (by decide +kernel)
set_option maxRecDepth 20000 in
theorem gX3_door_X3_holds : GoodIn wsX3_door (va_wsS RX3 147 yX3_holds wsX3_holds) := goodIn_app (goodIn_of _ (by decide +kernel)) ggX3_door_X3_holds
set_option maxRecDepth 20000 in
theorem ggX3_door_X2_isTainted : GoodIn wsX3_door wsX2_isTainted := goodIn_r _ [31, 32, 33, 34, 35, 11, 36, 37, 14, 23, 6, 24, 45, 46, 47, 48, 49, 50, 51, 52] (by decide +kernel) (by decide +kernel)
set_option maxRecDepth 20000 in
theorem gX3_door_X2_isTainted : GoodIn wsX3_door (wsV RX3 150 RX2 yX2_isTainted wsX2_isTainted) := goodIn_app (goodIn_of _ (by decide +kernel)) ggX3_door_X2_isTainted
theorem dX3_door_0 : decode cX3_door 0 = .ok (.iload_n 1, 1) := by decide +kernel
theorem dX3_door_1 : decode cX3_door 1 = .ok (.invokestatic 44, 3) := by decide +kernel
theorem dX3_door_4 : decode cX3_door 4 = .ok (.ifCond .eq 13, 3) := by decide +kernel
theorem dX3_door_7 : decode cX3_door 7 = .ok (.iload_n 2, 1) := by decide +kernel
theorem dX3_door_8 : decode cX3_door 8 = .ok (.ifCond .lt 9, 3) := by decide +kernel
theorem dX3_door_11 : decode cX3_door 11 = .ok (.iload_n 2, 1) := by decide +kernel
theorem dX3_door_12 : decode cX3_door 12 = .ok (.bipush 6, 2) := by decide +kernel
theorem dX3_door_14 : decode cX3_door 14 = .ok (.if_icmp .lt 13, 3) := by decide +kernel
theorem dX3_door_17 : decode cX3_door 17 = .ok (.new 48, 3) := by decide +kernel
theorem dX3_door_20 : decode cX3_door 20 = .ok (.dup, 1) := by decide +kernel
theorem dX3_door_21 : decode cX3_door 21 = .ok (.ldc 142, 2) := by decide +kernel
theorem dX3_door_23 : decode cX3_door 23 = .ok (.invokespecial 52, 3) := by decide +kernel
theorem dX3_door_26 : decode cX3_door 26 = .ok (.athrow, 1) := by decide +kernel
theorem dX3_door_27 : decode cX3_door 27 = .ok (.aload_n 0, 1) := by decide +kernel
theorem dX3_door_28 : decode cX3_door 28 = .ok (.getfield 19, 3) := by decide +kernel
theorem dX3_door_31 : decode cX3_door 31 = .ok (.iload_n 1, 1) := by decide +kernel
theorem dX3_door_32 : decode cX3_door 32 = .ok (.invokevirtual 144, 3) := by decide +kernel
theorem dX3_door_35 : decode cX3_door 35 = .ok (.iload_n 2, 1) := by decide +kernel
theorem dX3_door_36 : decode cX3_door 36 = .ok (.invokestatic 147, 3) := by decide +kernel
theorem dX3_door_39 : decode cX3_door 39 = .ok (.ifCond .eq 18, 3) := by decide +kernel
theorem dX3_door_42 : decode cX3_door 42 = .ok (.aload_n 0, 1) := by decide +kernel
theorem dX3_door_43 : decode cX3_door 43 = .ok (.getfield 19, 3) := by decide +kernel
theorem dX3_door_46 : decode cX3_door 46 = .ok (.iload_n 1, 1) := by decide +kernel
theorem dX3_door_47 : decode cX3_door 47 = .ok (.invokevirtual 150, 3) := by decide +kernel
theorem dX3_door_50 : decode cX3_door 50 = .ok (.ifCond .ne 7, 3) := by decide +kernel
theorem dX3_door_53 : decode cX3_door 53 = .ok (.iconst 1, 1) := by decide +kernel
theorem dX3_door_54 : decode cX3_door 54 = .ok (.goto 4, 3) := by decide +kernel
theorem dX3_door_57 : decode cX3_door 57 = .ok (.iconst 0, 1) := by decide +kernel
theorem dX3_door_58 : decode cX3_door 58 = .ok (.ireturn, 1) := by decide +kernel
set_option maxRecDepth 20000 in
theorem ggX3_share_X3_isKey : GoodIn wsX3_share wsX3_isKey := goodIn_r _ [10] (by decide +kernel) (by decide +kernel)
set_option maxRecDepth 20000 in
theorem gX3_share_X3_isKey : GoodIn wsX3_share (va_wsS RX3 153 yX3_isKey wsX3_isKey) := goodIn_app (goodIn_of _ (by decide +kernel)) ggX3_share_X3_isKey
set_option maxRecDepth 20000 in
theorem ggX3_share_J6_bitCount_0f7a4 : GoodIn wsX3_share wsJ6_bitCount_0f7a4 := goodIn_r _ [14, 15, 16, 17] (by decide +kernel) (by decide +kernel)
set_option maxRecDepth 20000 in
theorem gX3_share_J6_bitCount_0f7a4 : GoodIn wsX3_share (va_wsS RX3 160 yJ6_bitCount_0f7a4 wsJ6_bitCount_0f7a4) := goodIn_app (goodIn_of _ (by decide +kernel)) ggX3_share_J6_bitCount_0f7a4
theorem dX3_share_0 : decode cX3_share 0 = .ok (.iload_n 1, 1) := by decide +kernel
theorem dX3_share_1 : decode cX3_share 1 = .ok (.invokestatic 153, 3) := by decide +kernel
theorem dX3_share_4 : decode cX3_share 4 = .ok (.ifCond .ne 13, 3) := by decide +kernel
theorem dX3_share_7 : decode cX3_share 7 = .ok (.new 48, 3) := by decide +kernel
theorem dX3_share_10 : decode cX3_share 10 = .ok (.dup, 1) := by decide +kernel
theorem dX3_share_11 : decode cX3_share 11 = .ok (.ldc 156, 2) := by decide +kernel
theorem dX3_share_13 : decode cX3_share 13 = .ok (.invokespecial 52, 3) := by decide +kernel
theorem dX3_share_16 : decode cX3_share 16 = .ok (.athrow, 1) := by decide +kernel
theorem dX3_share_17 : decode cX3_share 17 = .ok (.iload_n 2, 1) := by decide +kernel
theorem dX3_share_18 : decode cX3_share 18 = .ok (.iconst 1, 1) := by decide +kernel
theorem dX3_share_19 : decode cX3_share 19 = .ok (.if_icmp .lt 10, 3) := by decide +kernel
theorem dX3_share_22 : decode cX3_share 22 = .ok (.iload_n 2, 1) := by decide +kernel
theorem dX3_share_23 : decode cX3_share 23 = .ok (.sipush 4095, 3) := by decide +kernel
theorem dX3_share_26 : decode cX3_share 26 = .ok (.if_icmp .le 13, 3) := by decide +kernel
theorem dX3_share_29 : decode cX3_share 29 = .ok (.new 55, 3) := by decide +kernel
theorem dX3_share_32 : decode cX3_share 32 = .ok (.dup, 1) := by decide +kernel
theorem dX3_share_33 : decode cX3_share 33 = .ok (.ldc 158, 2) := by decide +kernel
theorem dX3_share_35 : decode cX3_share 35 = .ok (.invokespecial 59, 3) := by decide +kernel
theorem dX3_share_38 : decode cX3_share 38 = .ok (.athrow, 1) := by decide +kernel
theorem dX3_share_39 : decode cX3_share 39 = .ok (.iload_n 3, 1) := by decide +kernel
theorem dX3_share_40 : decode cX3_share 40 = .ok (.iconst 1, 1) := by decide +kernel
theorem dX3_share_41 : decode cX3_share 41 = .ok (.if_icmp .lt 11, 3) := by decide +kernel
theorem dX3_share_44 : decode cX3_share 44 = .ok (.iload_n 3, 1) := by decide +kernel
theorem dX3_share_45 : decode cX3_share 45 = .ok (.iload_n 2, 1) := by decide +kernel
theorem dX3_share_46 : decode cX3_share 46 = .ok (.invokestatic 160, 3) := by decide +kernel
theorem dX3_share_49 : decode cX3_share 49 = .ok (.if_icmp .le 13, 3) := by decide +kernel
theorem dX3_share_52 : decode cX3_share 52 = .ok (.new 55, 3) := by decide +kernel
theorem dX3_share_55 : decode cX3_share 55 = .ok (.dup, 1) := by decide +kernel
theorem dX3_share_56 : decode cX3_share 56 = .ok (.ldc 165, 2) := by decide +kernel
theorem dX3_share_58 : decode cX3_share 58 = .ok (.invokespecial 59, 3) := by decide +kernel
theorem dX3_share_61 : decode cX3_share 61 = .ok (.athrow, 1) := by decide +kernel
theorem dX3_share_62 : decode cX3_share 62 = .ok (.aload_n 0, 1) := by decide +kernel
theorem dX3_share_63 : decode cX3_share 63 = .ok (.getfield 37, 3) := by decide +kernel
theorem dX3_share_66 : decode cX3_share 66 = .ok (.iload_n 1, 1) := by decide +kernel
theorem dX3_share_67 : decode cX3_share 67 = .ok (.iaload, 1) := by decide +kernel
theorem dX3_share_68 : decode cX3_share 68 = .ok (.istore 4, 2) := by decide +kernel
theorem dX3_share_70 : decode cX3_share 70 = .ok (.aload_n 0, 1) := by decide +kernel
theorem dX3_share_71 : decode cX3_share 71 = .ok (.getfield 33, 3) := by decide +kernel
theorem dX3_share_74 : decode cX3_share 74 = .ok (.iload_n 1, 1) := by decide +kernel
theorem dX3_share_75 : decode cX3_share 75 = .ok (.iload_n 2, 1) := by decide +kernel
theorem dX3_share_76 : decode cX3_share 76 = .ok (.iastore, 1) := by decide +kernel
theorem dX3_share_77 : decode cX3_share 77 = .ok (.aload_n 0, 1) := by decide +kernel
theorem dX3_share_78 : decode cX3_share 78 = .ok (.getfield 37, 3) := by decide +kernel
theorem dX3_share_81 : decode cX3_share 81 = .ok (.iload_n 1, 1) := by decide +kernel
theorem dX3_share_82 : decode cX3_share 82 = .ok (.iload_n 3, 1) := by decide +kernel
theorem dX3_share_83 : decode cX3_share 83 = .ok (.iastore, 1) := by decide +kernel
theorem dX3_share_84 : decode cX3_share 84 = .ok (.iload 4, 2) := by decide +kernel
theorem dX3_share_86 : decode cX3_share 86 = .ok (.ireturn, 1) := by decide +kernel
set_option maxRecDepth 20000 in
theorem ggX3_use_X3_isKey : GoodIn wsX3_use wsX3_isKey := goodIn_r _ [7] (by decide +kernel) (by decide +kernel)
set_option maxRecDepth 20000 in
theorem gX3_use_X3_isKey : GoodIn wsX3_use (va_wsS RX3 153 yX3_isKey wsX3_isKey) := goodIn_app (goodIn_of _ (by decide +kernel)) ggX3_use_X3_isKey
set_option maxRecDepth 20000 in
theorem ggX3_use_X3_countUsers : GoodIn wsX3_use wsX3_countUsers := goodIn_r _ [11, 12, 13, 14, 6, 15, 16, 17, 18, 19, 20, 21, 22, 23, 24, 25, 26, 27, 28, 29, 30, 31, 32, 33, 34, 35, 36, 37, 38, 39, 40, 41, 42, 43, 44, 45, 46, 47, 48, 49, 50, 51, 52, 53, 54, 55, 56, 57, 58, 59, 60, 61, 62, 63, 64, 65, 66, 67, 68, 69, 70, 71] (by decide +kernel) (by decide +kernel)
set_option maxRecDepth 20000 in
theorem gX3_use_X3_countUsers : GoodIn wsX3_use (wsV RX3 167 RX3 yX3_countUsers wsX3_countUsers) := goodIn_app (goodIn_of _ (by decide +kernel)) ggX3_use_X3_countUsers
theorem dX3_use_0 : decode cX3_use 0 = .ok (.iload_n 1, 1) := by decide +kernel
theorem dX3_use_1 : decode cX3_use 1 = .ok (.invokestatic 153, 3) := by decide +kernel
theorem dX3_use_4 : decode cX3_use 4 = .ok (.ifCond .ne 13, 3) := by decide +kernel
theorem dX3_use_7 : decode cX3_use 7 = .ok (.new 48, 3) := by decide +kernel
theorem dX3_use_10 : decode cX3_use 10 = .ok (.dup, 1) := by decide +kernel
theorem dX3_use_11 : decode cX3_use 11 = .ok (.ldc 156, 2) := by decide +kernel
theorem dX3_use_13 : decode cX3_use 13 = .ok (.invokespecial 52, 3) := by decide +kernel
theorem dX3_use_16 : decode cX3_use 16 = .ok (.athrow, 1) := by decide +kernel
theorem dX3_use_17 : decode cX3_use 17 = .ok (.aload_n 0, 1) := by decide +kernel
theorem dX3_use_18 : decode cX3_use 18 = .ok (.iload_n 1, 1) := by decide +kernel
theorem dX3_use_19 : decode cX3_use 19 = .ok (.invokevirtual 167, 3) := by decide +kernel
theorem dX3_use_22 : decode cX3_use 22 = .ok (.aload_n 0, 1) := by decide +kernel
theorem dX3_use_23 : decode cX3_use 23 = .ok (.getfield 37, 3) := by decide +kernel
theorem dX3_use_26 : decode cX3_use 26 = .ok (.iload_n 1, 1) := by decide +kernel
theorem dX3_use_27 : decode cX3_use 27 = .ok (.iaload, 1) := by decide +kernel
theorem dX3_use_28 : decode cX3_use 28 = .ok (.if_icmp .lt 7, 3) := by decide +kernel
theorem dX3_use_31 : decode cX3_use 31 = .ok (.iconst 1, 1) := by decide +kernel
theorem dX3_use_32 : decode cX3_use 32 = .ok (.goto 4, 3) := by decide +kernel
theorem dX3_use_35 : decode cX3_use 35 = .ok (.iconst 0, 1) := by decide +kernel
theorem dX3_use_36 : decode cX3_use 36 = .ok (.ireturn, 1) := by decide +kernel
set_option maxRecDepth 20000 in
theorem ggX3_of_X3_isPerson : GoodIn wsX3_of wsX3_isPerson := goodIn_r _ [11] (by decide +kernel) (by decide +kernel)
set_option maxRecDepth 20000 in
theorem gX3_of_X3_isPerson : GoodIn wsX3_of (va_wsS RX3 44 yX3_isPerson wsX3_isPerson) := goodIn_app (goodIn_of _ (by decide +kernel)) ggX3_of_X3_isPerson
set_option maxRecDepth 20000 in
theorem ggX3_of_X0_isInSession : GoodIn wsX3_of wsX0_isInSession := goodIn_r _ [16, 17, 74, 75, 76, 77] (by decide +kernel) (by decide +kernel)
set_option maxRecDepth 20000 in
theorem gX3_of_X0_isInSession : GoodIn wsX3_of (wsV RX3 60 RX0 yX0_isInSession wsX0_isInSession) := goodIn_app (goodIn_of _ (by decide +kernel)) ggX3_of_X0_isInSession
set_option maxRecDepth 20000 in
theorem ggX3_of_X3_asNumber : GoodIn wsX3_of wsX3_asNumber := goodIn_r _ [20] (by decide +kernel) (by decide +kernel)
set_option maxRecDepth 20000 in
theorem gX3_of_X3_asNumber : GoodIn wsX3_of (va_wsS RX3 170 yX3_asNumber wsX3_asNumber) := goodIn_app (goodIn_of _ (by decide +kernel)) ggX3_of_X3_asNumber
set_option maxRecDepth 20000 in
theorem ggX3_of_X2_isTrusted : GoodIn wsX3_of wsX2_isTrusted := goodIn_r _ [25, 26, 27, 28, 24, 29, 30, 9, 10, 11, 31, 32, 78, 79, 80, 81, 82, 83, 84, 85] (by decide +kernel) (by decide +kernel)
set_option maxRecDepth 20000 in
theorem gX3_of_X2_isTrusted : GoodIn wsX3_of (wsV RX3 174 RX2 yX2_isTrusted wsX2_isTrusted) := goodIn_app (goodIn_of _ (by decide +kernel)) ggX3_of_X2_isTrusted
set_option maxRecDepth 20000 in
theorem ggX3_of_X2_isTainted : GoodIn wsX3_of wsX2_isTainted := goodIn_r _ [36, 37, 38, 39, 40, 24, 41, 42, 30, 31, 10, 32, 78, 79, 80, 81, 82, 83, 84, 85] (by decide +kernel) (by decide +kernel)
set_option maxRecDepth 20000 in
theorem gX3_of_X2_isTainted : GoodIn wsX3_of (wsV RX3 150 RX2 yX2_isTainted wsX2_isTainted) := goodIn_app (goodIn_of _ (by decide +kernel)) ggX3_of_X2_isTainted
set_option maxRecDepth 20000 in
theorem ggX3_of_X2_roomsOf : GoodIn wsX3_of wsX2_roomsOf := goodIn_r _ [46, 47, 30, 48, 22, 23, 24, 25, 26, 27, 28, 29, 9, 10, 11, 31, 32, 78, 79, 80, 81, 82, 83, 84, 85] (by decide +kernel) (by decide +kernel)
set_option maxRecDepth 20000 in
theorem gX3_of_X2_roomsOf : GoodIn wsX3_of (wsV RX3 144 RX2 yX2_roomsOf wsX2_roomsOf) := goodIn_app (goodIn_of _ (by decide +kernel)) ggX3_of_X2_roomsOf
set_option maxRecDepth 20000 in
theorem ggX3_of_X2_hostOf : GoodIn wsX3_of wsX2_hostOf := goodIn_r _ [52, 30, 78, 79, 80, 81, 82, 83, 84, 85] (by decide +kernel) (by decide +kernel)
set_option maxRecDepth 20000 in
theorem gX3_of_X2_hostOf : GoodIn wsX3_of (wsV RX3 109 RX2 yX2_hostOf wsX2_hostOf) := goodIn_app (goodIn_of _ (by decide +kernel)) ggX3_of_X2_hostOf
set_option maxRecDepth 20000 in
theorem ggX3_of_X0_failuresOf : GoodIn wsX3_of wsX0_failuresOf := goodIn_r _ [56, 57, 74, 75, 76, 77] (by decide +kernel) (by decide +kernel)
set_option maxRecDepth 20000 in
theorem gX3_of_X0_failuresOf : GoodIn wsX3_of (wsV RX3 177 RX0 yX0_failuresOf wsX0_failuresOf) := goodIn_app (goodIn_of _ (by decide +kernel)) ggX3_of_X0_failuresOf
set_option maxRecDepth 20000 in
theorem ggX3_of_X0_sessionEndOf : GoodIn wsX3_of wsX0_sessionEndOf := goodIn_r _ [61, 17, 74, 75, 76, 77] (by decide +kernel) (by decide +kernel)
set_option maxRecDepth 20000 in
theorem gX3_of_X0_sessionEndOf : GoodIn wsX3_of (wsV RX3 180 RX0 yX0_sessionEndOf wsX0_sessionEndOf) := goodIn_app (goodIn_of _ (by decide +kernel)) ggX3_of_X0_sessionEndOf
set_option maxRecDepth 20000 in
theorem ggX3_of_X2_badgeOf : GoodIn wsX3_of wsX2_badgeOf := goodIn_r _ [65, 66, 78, 79, 80, 81, 82, 83, 84, 85] (by decide +kernel) (by decide +kernel)
set_option maxRecDepth 20000 in
theorem gX3_of_X2_badgeOf : GoodIn wsX3_of (wsV RX3 139 RX2 yX2_badgeOf wsX2_badgeOf) := goodIn_app (goodIn_of _ (by decide +kernel)) ggX3_of_X2_badgeOf
theorem dX3_of_0 : decode cX3_of 0 = .ok (.iload_n 1, 1) := by decide +kernel
theorem dX3_of_1 : decode cX3_of 1 = .ok (.invokestatic 44, 3) := by decide +kernel
theorem dX3_of_4 : decode cX3_of 4 = .ok (.ifCond .ne 13, 3) := by decide +kernel
theorem dX3_of_7 : decode cX3_of 7 = .ok (.new 48, 3) := by decide +kernel
theorem dX3_of_10 : decode cX3_of 10 = .ok (.dup, 1) := by decide +kernel
theorem dX3_of_11 : decode cX3_of 11 = .ok (.ldc 50, 2) := by decide +kernel
theorem dX3_of_13 : decode cX3_of 13 = .ok (.invokespecial 52, 3) := by decide +kernel
theorem dX3_of_16 : decode cX3_of 16 = .ok (.athrow, 1) := by decide +kernel
theorem dX3_of_17 : decode cX3_of 17 = .ok (.iload_n 2, 1) := by decide +kernel
theorem dX3_of_18 : decode cX3_of 18 = .ok (.tableswitch 150 0 7 #[46, 62, 74, 86, 95, 104, 113, 141], 46) := by decide +kernel
theorem dX3_of_64 : decode cX3_of 64 = .ok (.aload_n 0, 1) := by decide +kernel
theorem dX3_of_65 : decode cX3_of 65 = .ok (.getfield 10, 3) := by decide +kernel
theorem dX3_of_68 : decode cX3_of 68 = .ok (.iload_n 1, 1) := by decide +kernel
theorem dX3_of_69 : decode cX3_of 69 = .ok (.aload_n 0, 1) := by decide +kernel
theorem dX3_of_70 : decode cX3_of 70 = .ok (.getfield 40, 3) := by decide +kernel
theorem dX3_of_73 : decode cX3_of 73 = .ok (.invokevirtual 60, 3) := by decide +kernel
theorem dX3_of_76 : decode cX3_of 76 = .ok (.invokestatic 170, 3) := by decide +kernel
theorem dX3_of_79 : decode cX3_of 79 = .ok (.ireturn, 1) := by decide +kernel
theorem dX3_of_80 : decode cX3_of 80 = .ok (.aload_n 0, 1) := by decide +kernel
theorem dX3_of_81 : decode cX3_of 81 = .ok (.getfield 19, 3) := by decide +kernel
theorem dX3_of_84 : decode cX3_of 84 = .ok (.iload_n 1, 1) := by decide +kernel
theorem dX3_of_85 : decode cX3_of 85 = .ok (.invokevirtual 174, 3) := by decide +kernel
theorem dX3_of_88 : decode cX3_of 88 = .ok (.invokestatic 170, 3) := by decide +kernel
theorem dX3_of_91 : decode cX3_of 91 = .ok (.ireturn, 1) := by decide +kernel
theorem dX3_of_92 : decode cX3_of 92 = .ok (.aload_n 0, 1) := by decide +kernel
theorem dX3_of_93 : decode cX3_of 93 = .ok (.getfield 19, 3) := by decide +kernel
theorem dX3_of_96 : decode cX3_of 96 = .ok (.iload_n 1, 1) := by decide +kernel
theorem dX3_of_97 : decode cX3_of 97 = .ok (.invokevirtual 150, 3) := by decide +kernel
theorem dX3_of_100 : decode cX3_of 100 = .ok (.invokestatic 170, 3) := by decide +kernel
theorem dX3_of_103 : decode cX3_of 103 = .ok (.ireturn, 1) := by decide +kernel
theorem dX3_of_104 : decode cX3_of 104 = .ok (.aload_n 0, 1) := by decide +kernel
theorem dX3_of_105 : decode cX3_of 105 = .ok (.getfield 19, 3) := by decide +kernel
theorem dX3_of_108 : decode cX3_of 108 = .ok (.iload_n 1, 1) := by decide +kernel
theorem dX3_of_109 : decode cX3_of 109 = .ok (.invokevirtual 144, 3) := by decide +kernel
theorem dX3_of_112 : decode cX3_of 112 = .ok (.ireturn, 1) := by decide +kernel
theorem dX3_of_113 : decode cX3_of 113 = .ok (.aload_n 0, 1) := by decide +kernel
theorem dX3_of_114 : decode cX3_of 114 = .ok (.getfield 19, 3) := by decide +kernel
theorem dX3_of_117 : decode cX3_of 117 = .ok (.iload_n 1, 1) := by decide +kernel
theorem dX3_of_118 : decode cX3_of 118 = .ok (.invokevirtual 109, 3) := by decide +kernel
theorem dX3_of_121 : decode cX3_of 121 = .ok (.ireturn, 1) := by decide +kernel
theorem dX3_of_122 : decode cX3_of 122 = .ok (.aload_n 0, 1) := by decide +kernel
theorem dX3_of_123 : decode cX3_of 123 = .ok (.getfield 10, 3) := by decide +kernel
theorem dX3_of_126 : decode cX3_of 126 = .ok (.iload_n 1, 1) := by decide +kernel
theorem dX3_of_127 : decode cX3_of 127 = .ok (.invokevirtual 177, 3) := by decide +kernel
theorem dX3_of_130 : decode cX3_of 130 = .ok (.ireturn, 1) := by decide +kernel
theorem dX3_of_131 : decode cX3_of 131 = .ok (.aload_n 0, 1) := by decide +kernel
theorem dX3_of_132 : decode cX3_of 132 = .ok (.getfield 10, 3) := by decide +kernel
theorem dX3_of_135 : decode cX3_of 135 = .ok (.iload_n 1, 1) := by decide +kernel
theorem dX3_of_136 : decode cX3_of 136 = .ok (.aload_n 0, 1) := by decide +kernel
theorem dX3_of_137 : decode cX3_of 137 = .ok (.getfield 40, 3) := by decide +kernel
theorem dX3_of_140 : decode cX3_of 140 = .ok (.invokevirtual 60, 3) := by decide +kernel
theorem dX3_of_143 : decode cX3_of 143 = .ok (.ifCond .eq 14, 3) := by decide +kernel
theorem dX3_of_146 : decode cX3_of 146 = .ok (.aload_n 0, 1) := by decide +kernel
theorem dX3_of_147 : decode cX3_of 147 = .ok (.getfield 10, 3) := by decide +kernel
theorem dX3_of_150 : decode cX3_of 150 = .ok (.iload_n 1, 1) := by decide +kernel
theorem dX3_of_151 : decode cX3_of 151 = .ok (.invokevirtual 180, 3) := by decide +kernel
theorem dX3_of_154 : decode cX3_of 154 = .ok (.goto 4, 3) := by decide +kernel
theorem dX3_of_157 : decode cX3_of 157 = .ok (.iconst (-1), 1) := by decide +kernel
theorem dX3_of_158 : decode cX3_of 158 = .ok (.ireturn, 1) := by decide +kernel
theorem dX3_of_159 : decode cX3_of 159 = .ok (.aload_n 0, 1) := by decide +kernel
theorem dX3_of_160 : decode cX3_of 160 = .ok (.getfield 19, 3) := by decide +kernel
theorem dX3_of_163 : decode cX3_of 163 = .ok (.iload_n 1, 1) := by decide +kernel
theorem dX3_of_164 : decode cX3_of 164 = .ok (.invokevirtual 139, 3) := by decide +kernel
theorem dX3_of_167 : decode cX3_of 167 = .ok (.ireturn, 1) := by decide +kernel
theorem dX3_of_168 : decode cX3_of 168 = .ok (.new 55, 3) := by decide +kernel
theorem dX3_of_171 : decode cX3_of 171 = .ok (.dup, 1) := by decide +kernel
theorem dX3_of_172 : decode cX3_of 172 = .ok (.ldc 183, 2) := by decide +kernel
theorem dX3_of_174 : decode cX3_of 174 = .ok (.invokespecial 59, 3) := by decide +kernel
theorem dX3_of_177 : decode cX3_of 177 = .ok (.athrow, 1) := by decide +kernel
set_option maxRecDepth 20000 in
theorem ggX3_taintedAnew_X3_isPerson : GoodIn wsX3_taintedAnew wsX3_isPerson := goodIn_r _ [8] (by decide +kernel) (by decide +kernel)
set_option maxRecDepth 20000 in
theorem gX3_taintedAnew_X3_isPerson : GoodIn wsX3_taintedAnew (va_wsS RX3 44 yX3_isPerson wsX3_isPerson) := goodIn_app (goodIn_of _ (by decide +kernel)) ggX3_taintedAnew_X3_isPerson
set_option maxRecDepth 20000 in
theorem ggX3_taintedAnew_X1_replayInto : GoodIn wsX3_taintedAnew wsX1_replayInto := goodIn_r _ [13, 14, 15, 16, 17, 18, 19, 20, 21, 22, 23, 24, 25, 26, 27, 12, 28, 29, 30, 31, 32, 33, 34, 35, 36, 37, 38, 39, 40, 41, 42, 43, 44, 45, 46, 47, 48, 49, 50, 68, 69, 70, 71, 72, 73, 74, 75, 76, 77, 78, 79, 80, 81] (by decide +kernel) (by decide +kernel)
set_option maxRecDepth 20000 in
theorem gX3_taintedAnew_X1_replayInto : GoodIn wsX3_taintedAnew (wsV RX3 185 RX1 yX1_replayInto wsX1_replayInto) := goodIn_app (goodIn_of _ (by decide +kernel)) ggX3_taintedAnew_X1_replayInto
set_option maxRecDepth 20000 in
theorem ggX3_taintedAnew_X2_isTainted : GoodIn wsX3_taintedAnew wsX2_isTainted := goodIn_r _ [54, 23, 55, 56, 57, 18, 58, 21, 20, 59, 7, 60, 74, 75, 76, 77, 78, 79, 80, 81] (by decide +kernel) (by decide +kernel)
set_option maxRecDepth 20000 in
theorem gX3_taintedAnew_X2_isTainted : GoodIn wsX3_taintedAnew (wsV RX3 150 RX2 yX2_isTainted wsX2_isTainted) := goodIn_app (goodIn_of _ (by decide +kernel)) ggX3_taintedAnew_X2_isTainted
theorem dX3_taintedAnew_0 : decode cX3_taintedAnew 0 = .ok (.iload_n 1, 1) := by decide +kernel
theorem dX3_taintedAnew_1 : decode cX3_taintedAnew 1 = .ok (.invokestatic 44, 3) := by decide +kernel
theorem dX3_taintedAnew_4 : decode cX3_taintedAnew 4 = .ok (.ifCond .ne 13, 3) := by decide +kernel
theorem dX3_taintedAnew_7 : decode cX3_taintedAnew 7 = .ok (.new 48, 3) := by decide +kernel
theorem dX3_taintedAnew_10 : decode cX3_taintedAnew 10 = .ok (.dup, 1) := by decide +kernel
theorem dX3_taintedAnew_11 : decode cX3_taintedAnew 11 = .ok (.ldc 50, 2) := by decide +kernel
theorem dX3_taintedAnew_13 : decode cX3_taintedAnew 13 = .ok (.invokespecial 52, 3) := by decide +kernel
theorem dX3_taintedAnew_16 : decode cX3_taintedAnew 16 = .ok (.athrow, 1) := by decide +kernel
theorem dX3_taintedAnew_17 : decode cX3_taintedAnew 17 = .ok (.aload_n 0, 1) := by decide +kernel
theorem dX3_taintedAnew_18 : decode cX3_taintedAnew 18 = .ok (.getfield 29, 3) := by decide +kernel
theorem dX3_taintedAnew_21 : decode cX3_taintedAnew 21 = .ok (.aload_n 0, 1) := by decide +kernel
theorem dX3_taintedAnew_22 : decode cX3_taintedAnew 22 = .ok (.getfield 23, 3) := by decide +kernel
theorem dX3_taintedAnew_25 : decode cX3_taintedAnew 25 = .ok (.invokevirtual 185, 3) := by decide +kernel
theorem dX3_taintedAnew_28 : decode cX3_taintedAnew 28 = .ok (.aload_n 0, 1) := by decide +kernel
theorem dX3_taintedAnew_29 : decode cX3_taintedAnew 29 = .ok (.getfield 23, 3) := by decide +kernel
theorem dX3_taintedAnew_32 : decode cX3_taintedAnew 32 = .ok (.iload_n 1, 1) := by decide +kernel
theorem dX3_taintedAnew_33 : decode cX3_taintedAnew 33 = .ok (.invokevirtual 150, 3) := by decide +kernel
theorem dX3_taintedAnew_36 : decode cX3_taintedAnew 36 = .ok (.ireturn, 1) := by decide +kernel
set_option maxRecDepth 20000 in
theorem ggX3_chain_X3_isPerson : GoodIn wsX3_chain wsX3_isPerson := goodIn_r _ [7] (by decide +kernel) (by decide +kernel)
set_option maxRecDepth 20000 in
theorem gX3_chain_X3_isPerson : GoodIn wsX3_chain (va_wsS RX3 44 yX3_isPerson wsX3_isPerson) := goodIn_app (goodIn_of _ (by decide +kernel)) ggX3_chain_X3_isPerson
set_option maxRecDepth 20000 in
theorem ggX3_chain_X2_stepsToStaff : GoodIn wsX3_chain wsX2_stepsToStaff := goodIn_r _ [12, 13, 5, 6, 7, 14, 15, 23, 24, 25, 26, 27, 28, 29, 30] (by decide +kernel) (by decide +kernel)
set_option maxRecDepth 20000 in
theorem gX3_chain_X2_stepsToStaff : GoodIn wsX3_chain (wsV RX3 189 RX2 yX2_stepsToStaff wsX2_stepsToStaff) := goodIn_app (goodIn_of _ (by decide +kernel)) ggX3_chain_X2_stepsToStaff
theorem dX3_chain_0 : decode cX3_chain 0 = .ok (.iload_n 1, 1) := by decide +kernel
theorem dX3_chain_1 : decode cX3_chain 1 = .ok (.invokestatic 44, 3) := by decide +kernel
theorem dX3_chain_4 : decode cX3_chain 4 = .ok (.ifCond .ne 13, 3) := by decide +kernel
theorem dX3_chain_7 : decode cX3_chain 7 = .ok (.new 48, 3) := by decide +kernel
theorem dX3_chain_10 : decode cX3_chain 10 = .ok (.dup, 1) := by decide +kernel
theorem dX3_chain_11 : decode cX3_chain 11 = .ok (.ldc 50, 2) := by decide +kernel
theorem dX3_chain_13 : decode cX3_chain 13 = .ok (.invokespecial 52, 3) := by decide +kernel
theorem dX3_chain_16 : decode cX3_chain 16 = .ok (.athrow, 1) := by decide +kernel
theorem dX3_chain_17 : decode cX3_chain 17 = .ok (.aload_n 0, 1) := by decide +kernel
theorem dX3_chain_18 : decode cX3_chain 18 = .ok (.getfield 19, 3) := by decide +kernel
theorem dX3_chain_21 : decode cX3_chain 21 = .ok (.iload_n 1, 1) := by decide +kernel
theorem dX3_chain_22 : decode cX3_chain 22 = .ok (.invokevirtual 189, 3) := by decide +kernel
theorem dX3_chain_25 : decode cX3_chain 25 = .ok (.ireturn, 1) := by decide +kernel
set_option maxRecDepth 20000 in
theorem ggX3_ending_X0_isInSession : GoodIn wsX3_ending wsX0_isInSession := goodIn_r _ [9, 10, 27, 28, 29, 30] (by decide +kernel) (by decide +kernel)
set_option maxRecDepth 20000 in
theorem gX3_ending_X0_isInSession : GoodIn wsX3_ending (wsV RX3 60 RX0 yX0_isInSession wsX0_isInSession) := goodIn_app (goodIn_of _ (by decide +kernel)) ggX3_ending_X0_isInSession
set_option maxRecDepth 20000 in
theorem ggX3_ending_X0_countEndingAheadOf : GoodIn wsX3_ending wsX0_countEndingAheadOf := goodIn_r _ [14, 15, 6, 7, 8, 9, 10, 16, 17, 18, 19, 27, 28, 29, 30] (by decide +kernel) (by decide +kernel)
set_option maxRecDepth 20000 in
theorem gX3_ending_X0_countEndingAheadOf : GoodIn wsX3_ending (wsV RX3 194 RX0 yX0_countEndingAheadOf wsX0_countEndingAheadOf) := goodIn_app (goodIn_of _ (by decide +kernel)) ggX3_ending_X0_countEndingAheadOf
theorem dX3_ending_0 : decode cX3_ending 0 = .ok (.iload_n 1, 1) := by decide +kernel
theorem dX3_ending_1 : decode cX3_ending 1 = .ok (.ifCond .ge 13, 3) := by decide +kernel
theorem dX3_ending_4 : decode cX3_ending 4 = .ok (.new 48, 3) := by decide +kernel
theorem dX3_ending_7 : decode cX3_ending 7 = .ok (.dup, 1) := by decide +kernel
theorem dX3_ending_8 : decode cX3_ending 8 = .ok (.ldc 192, 2) := by decide +kernel
theorem dX3_ending_10 : decode cX3_ending 10 = .ok (.invokespecial 52, 3) := by decide +kernel
theorem dX3_ending_13 : decode cX3_ending 13 = .ok (.athrow, 1) := by decide +kernel
theorem dX3_ending_14 : decode cX3_ending 14 = .ok (.iconst 0, 1) := by decide +kernel
theorem dX3_ending_15 : decode cX3_ending 15 = .ok (.istore_n 2, 1) := by decide +kernel
theorem dX3_ending_16 : decode cX3_ending 16 = .ok (.iload_n 2, 1) := by decide +kernel
theorem dX3_ending_17 : decode cX3_ending 17 = .ok (.bipush 12, 2) := by decide +kernel
theorem dX3_ending_19 : decode cX3_ending 19 = .ok (.if_icmp .ge 42, 3) := by decide +kernel
theorem dX3_ending_22 : decode cX3_ending 22 = .ok (.aload_n 0, 1) := by decide +kernel
theorem dX3_ending_23 : decode cX3_ending 23 = .ok (.getfield 10, 3) := by decide +kernel
theorem dX3_ending_26 : decode cX3_ending 26 = .ok (.iload_n 2, 1) := by decide +kernel
theorem dX3_ending_27 : decode cX3_ending 27 = .ok (.aload_n 0, 1) := by decide +kernel
theorem dX3_ending_28 : decode cX3_ending 28 = .ok (.getfield 40, 3) := by decide +kernel
theorem dX3_ending_31 : decode cX3_ending 31 = .ok (.invokevirtual 60, 3) := by decide +kernel
theorem dX3_ending_34 : decode cX3_ending 34 = .ok (.ifCond .eq 21, 3) := by decide +kernel
theorem dX3_ending_37 : decode cX3_ending 37 = .ok (.aload_n 0, 1) := by decide +kernel
theorem dX3_ending_38 : decode cX3_ending 38 = .ok (.getfield 10, 3) := by decide +kernel
theorem dX3_ending_41 : decode cX3_ending 41 = .ok (.iload_n 2, 1) := by decide +kernel
theorem dX3_ending_42 : decode cX3_ending 42 = .ok (.aload_n 0, 1) := by decide +kernel
theorem dX3_ending_43 : decode cX3_ending 43 = .ok (.getfield 40, 3) := by decide +kernel
theorem dX3_ending_46 : decode cX3_ending 46 = .ok (.invokevirtual 194, 3) := by decide +kernel
theorem dX3_ending_49 : decode cX3_ending 49 = .ok (.iload_n 1, 1) := by decide +kernel
theorem dX3_ending_50 : decode cX3_ending 50 = .ok (.if_icmp .ne 5, 3) := by decide +kernel
theorem dX3_ending_53 : decode cX3_ending 53 = .ok (.iload_n 2, 1) := by decide +kernel
theorem dX3_ending_54 : decode cX3_ending 54 = .ok (.ireturn, 1) := by decide +kernel
theorem dX3_ending_55 : decode cX3_ending 55 = .ok (.iinc 2 1, 3) := by decide +kernel
theorem dX3_ending_58 : decode cX3_ending 58 = .ok (.goto (-42), 3) := by decide +kernel
theorem dX3_ending_61 : decode cX3_ending 61 = .ok (.iconst (-1), 1) := by decide +kernel
theorem dX3_ending_62 : decode cX3_ending 62 = .ok (.ireturn, 1) := by decide +kernel
set_option maxRecDepth 20000 in
theorem ggX3_sign_X3_isPerson : GoodIn wsX3_sign wsX3_isPerson := goodIn_r _ [7] (by decide +kernel) (by decide +kernel)
set_option maxRecDepth 20000 in
theorem gX3_sign_X3_isPerson : GoodIn wsX3_sign (va_wsS RX3 44 yX3_isPerson wsX3_isPerson) := goodIn_app (goodIn_of _ (by decide +kernel)) ggX3_sign_X3_isPerson
set_option maxRecDepth 20000 in
theorem ggX3_sign_X2_badgeOf : GoodIn wsX3_sign wsX2_badgeOf := goodIn_r _ [12, 13, 210, 211, 212, 213, 214, 215, 216, 217] (by decide +kernel) (by decide +kernel)
set_option maxRecDepth 20000 in
theorem gX3_sign_X2_badgeOf : GoodIn wsX3_sign (wsV RX3 139 RX2 yX2_badgeOf wsX2_badgeOf) := goodIn_app (goodIn_of _ (by decide +kernel)) ggX3_sign_X2_badgeOf
set_option maxRecDepth 20000 in
theorem ggX3_sign_X3_badgeText : GoodIn wsX3_sign wsX3_badgeText := goodIn_r _ [16, 17, 18, 19, 20, 21, 22, 23, 24, 25, 26, 27, 28, 29, 30, 31, 32, 33, 34, 35, 36, 37, 38, 39, 40, 41, 42, 43, 44, 45, 46, 47, 48, 49, 50, 51, 52, 53, 54, 55, 56, 57, 58, 59, 60, 61, 62, 63, 64, 65, 66, 67, 68, 69, 70, 71, 72, 73, 74, 75, 76, 77, 78, 79, 80, 81, 82, 83, 84, 85, 86, 87, 88, 89, 90, 91, 92, 93, 94, 95, 96, 97, 98, 99, 100, 101, 102, 103, 104, 105, 106, 107, 108, 109, 110, 111, 112, 113, 114, 115, 116, 117, 118, 119, 120, 121, 122, 123, 124, 125, 126, 127, 128, 129, 130, 131, 132, 133, 134, 135, 136, 137, 138, 139, 140, 141, 142, 143, 144, 145, 146, 147, 148, 149, 150, 151, 152, 153, 154, 155, 156, 157, 158, 159, 160, 161, 162, 163, 164, 165, 166, 167, 168, 169, 170, 171, 172, 173, 174, 175, 176, 177, 178, 179, 180, 6, 181, 218, 219, 220, 221] (by decide +kernel) (by decide +kernel)
set_option maxRecDepth 20000 in
theorem gX3_sign_X3_badgeText : GoodIn wsX3_sign (va_wsS RX3 200 yX3_badgeText wsX3_badgeText) := goodIn_app (goodIn_of _ (by decide +kernel)) ggX3_sign_X3_badgeText
set_option maxRecDepth 20000 in
theorem ggX3_sign_J4_length_8abf5 : GoodIn wsX3_sign wsJ4_length_8abf5 := goodIn_r _ [185, 186, 187, 48, 188, 25, 189, 51, 218, 219, 220, 221] (by decide +kernel) (by decide +kernel)
set_option maxRecDepth 20000 in
theorem gX3_sign_J4_length_8abf5 : GoodIn wsX3_sign (wsV RX3 204 RJ4 yJ4_length_8abf5 wsJ4_length_8abf5) := goodIn_app (goodIn_of _ (by decide +kernel)) ggX3_sign_J4_length_8abf5
set_option maxRecDepth 20000 in
theorem ggX3_sign_J4_charAt_5068e : GoodIn wsX3_sign wsJ4_charAt_5068e := goodIn_r _ [193, 194, 195, 48, 196, 25, 197, 33, 32, 51, 198, 90, 73, 91, 199, 174, 118, 175, 120, 176, 177, 123, 178, 200, 201, 36, 202, 109, 133, 134, 113, 114, 115, 218, 219, 220, 221] (by decide +kernel) (by decide +kernel)
set_option maxRecDepth 20000 in
theorem gX3_sign_J4_charAt_5068e : GoodIn wsX3_sign (wsV RX3 209 RJ4 yJ4_charAt_5068e wsJ4_charAt_5068e) := goodIn_app (goodIn_of _ (by decide +kernel)) ggX3_sign_J4_charAt_5068e
theorem dX3_sign_0 : decode cX3_sign 0 = .ok (.iload_n 1, 1) := by decide +kernel
theorem dX3_sign_1 : decode cX3_sign 1 = .ok (.invokestatic 44, 3) := by decide +kernel
theorem dX3_sign_4 : decode cX3_sign 4 = .ok (.ifCond .eq 7, 3) := by decide +kernel
theorem dX3_sign_7 : decode cX3_sign 7 = .ok (.iload_n 2, 1) := by decide +kernel
theorem dX3_sign_8 : decode cX3_sign 8 = .ok (.ifCond .ge 13, 3) := by decide +kernel
theorem dX3_sign_11 : decode cX3_sign 11 = .ok (.new 48, 3) := by decide +kernel
theorem dX3_sign_14 : decode cX3_sign 14 = .ok (.dup, 1) := by decide +kernel
theorem dX3_sign_15 : decode cX3_sign 15 = .ok (.ldc 198, 2) := by decide +kernel
theorem dX3_sign_17 : decode cX3_sign 17 = .ok (.invokespecial 52, 3) := by decide +kernel
theorem dX3_sign_20 : decode cX3_sign 20 = .ok (.athrow, 1) := by decide +kernel
theorem dX3_sign_21 : decode cX3_sign 21 = .ok (.iload_n 1, 1) := by decide +kernel
theorem dX3_sign_22 : decode cX3_sign 22 = .ok (.aload_n 0, 1) := by decide +kernel
theorem dX3_sign_23 : decode cX3_sign 23 = .ok (.getfield 19, 3) := by decide +kernel
theorem dX3_sign_26 : decode cX3_sign 26 = .ok (.iload_n 1, 1) := by decide +kernel
theorem dX3_sign_27 : decode cX3_sign 27 = .ok (.invokevirtual 139, 3) := by decide +kernel
theorem dX3_sign_30 : decode cX3_sign 30 = .ok (.invokestatic 200, 3) := by decide +kernel
theorem dX3_sign_33 : decode cX3_sign 33 = .ok (.astore_n 3, 1) := by decide +kernel
theorem dX3_sign_34 : decode cX3_sign 34 = .ok (.iload_n 2, 1) := by decide +kernel
theorem dX3_sign_35 : decode cX3_sign 35 = .ok (.aload_n 3, 1) := by decide +kernel
theorem dX3_sign_36 : decode cX3_sign 36 = .ok (.invokevirtual 204, 3) := by decide +kernel
theorem dX3_sign_39 : decode cX3_sign 39 = .ok (.if_icmp .ge 11, 3) := by decide +kernel
theorem dX3_sign_42 : decode cX3_sign 42 = .ok (.aload_n 3, 1) := by decide +kernel
theorem dX3_sign_43 : decode cX3_sign 43 = .ok (.iload_n 2, 1) := by decide +kernel
theorem dX3_sign_44 : decode cX3_sign 44 = .ok (.invokevirtual 209, 3) := by decide +kernel
theorem dX3_sign_47 : decode cX3_sign 47 = .ok (.goto 4, 3) := by decide +kernel
theorem dX3_sign_50 : decode cX3_sign 50 = .ok (.iconst 0, 1) := by decide +kernel
theorem dX3_sign_51 : decode cX3_sign 51 = .ok (.ireturn, 1) := by decide +kernel
set_option maxRecDepth 20000 in
theorem ggX3_keyOf_X3_isKey : GoodIn wsX3_keyOf wsX3_isKey := goodIn_r _ [10] (by decide +kernel) (by decide +kernel)
set_option maxRecDepth 20000 in
theorem gX3_keyOf_X3_isKey : GoodIn wsX3_keyOf (va_wsS RX3 153 yX3_isKey wsX3_isKey) := goodIn_app (goodIn_of _ (by decide +kernel)) ggX3_keyOf_X3_isKey
set_option maxRecDepth 20000 in
theorem ggX3_keyOf_X3_countUsers : GoodIn wsX3_keyOf wsX3_countUsers := goodIn_r _ [14, 5, 15, 16, 9, 17, 18, 19, 20, 21, 22, 23, 24, 25, 26, 27, 28, 29, 30, 31, 32, 33, 34, 35, 36, 37, 38, 39, 40, 41, 42, 43, 44, 45, 46, 47, 48, 49, 50, 51, 52, 53, 54, 55, 56, 57, 58, 59, 60, 61, 62, 63, 64, 65, 66, 67, 68, 69, 70, 71, 72, 73] (by decide +kernel) (by decide +kernel)
set_option maxRecDepth 20000 in
theorem gX3_keyOf_X3_countUsers : GoodIn wsX3_keyOf (wsV RX3 167 RX3 yX3_countUsers wsX3_countUsers) := goodIn_app (goodIn_of _ (by decide +kernel)) ggX3_keyOf_X3_countUsers
theorem dX3_keyOf_0 : decode cX3_keyOf 0 = .ok (.iload_n 1, 1) := by decide +kernel
theorem dX3_keyOf_1 : decode cX3_keyOf 1 = .ok (.invokestatic 153, 3) := by decide +kernel
theorem dX3_keyOf_4 : decode cX3_keyOf 4 = .ok (.ifCond .ne 13, 3) := by decide +kernel
theorem dX3_keyOf_7 : decode cX3_keyOf 7 = .ok (.new 48, 3) := by decide +kernel
theorem dX3_keyOf_10 : decode cX3_keyOf 10 = .ok (.dup, 1) := by decide +kernel
theorem dX3_keyOf_11 : decode cX3_keyOf 11 = .ok (.ldc 156, 2) := by decide +kernel
theorem dX3_keyOf_13 : decode cX3_keyOf 13 = .ok (.invokespecial 52, 3) := by decide +kernel
theorem dX3_keyOf_16 : decode cX3_keyOf 16 = .ok (.athrow, 1) := by decide +kernel
theorem dX3_keyOf_17 : decode cX3_keyOf 17 = .ok (.iload_n 2, 1) := by decide +kernel
theorem dX3_keyOf_18 : decode cX3_keyOf 18 = .ok (.tableswitch 46 0 2 #[26, 33, 40], 26) := by decide +kernel
theorem dX3_keyOf_44 : decode cX3_keyOf 44 = .ok (.aload_n 0, 1) := by decide +kernel
theorem dX3_keyOf_45 : decode cX3_keyOf 45 = .ok (.getfield 33, 3) := by decide +kernel
theorem dX3_keyOf_48 : decode cX3_keyOf 48 = .ok (.iload_n 1, 1) := by decide +kernel
theorem dX3_keyOf_49 : decode cX3_keyOf 49 = .ok (.iaload, 1) := by decide +kernel
theorem dX3_keyOf_50 : decode cX3_keyOf 50 = .ok (.ireturn, 1) := by decide +kernel
theorem dX3_keyOf_51 : decode cX3_keyOf 51 = .ok (.aload_n 0, 1) := by decide +kernel
theorem dX3_keyOf_52 : decode cX3_keyOf 52 = .ok (.getfield 37, 3) := by decide +kernel
theorem dX3_keyOf_55 : decode cX3_keyOf 55 = .ok (.iload_n 1, 1) := by decide +kernel
theorem dX3_keyOf_56 : decode cX3_keyOf 56 = .ok (.iaload, 1) := by decide +kernel
theorem dX3_keyOf_57 : decode cX3_keyOf 57 = .ok (.ireturn, 1) := by decide +kernel
theorem dX3_keyOf_58 : decode cX3_keyOf 58 = .ok (.aload_n 0, 1) := by decide +kernel
theorem dX3_keyOf_59 : decode cX3_keyOf 59 = .ok (.iload_n 1, 1) := by decide +kernel
theorem dX3_keyOf_60 : decode cX3_keyOf 60 = .ok (.invokevirtual 167, 3) := by decide +kernel
theorem dX3_keyOf_63 : decode cX3_keyOf 63 = .ok (.ireturn, 1) := by decide +kernel
theorem dX3_keyOf_64 : decode cX3_keyOf 64 = .ok (.new 55, 3) := by decide +kernel
theorem dX3_keyOf_67 : decode cX3_keyOf 67 = .ok (.dup, 1) := by decide +kernel
theorem dX3_keyOf_68 : decode cX3_keyOf 68 = .ok (.ldc 183, 2) := by decide +kernel
theorem dX3_keyOf_70 : decode cX3_keyOf 70 = .ok (.invokespecial 59, 3) := by decide +kernel
theorem dX3_keyOf_73 : decode cX3_keyOf 73 = .ok (.athrow, 1) := by decide +kernel
theorem dX3_isPerson_0 : decode cX3_isPerson 0 = .ok (.iload_n 0, 1) := by decide +kernel
theorem dX3_isPerson_1 : decode cX3_isPerson 1 = .ok (.ifCond .lt 13, 3) := by decide +kernel
theorem dX3_isPerson_4 : decode cX3_isPerson 4 = .ok (.iload_n 0, 1) := by decide +kernel
theorem dX3_isPerson_5 : decode cX3_isPerson 5 = .ok (.bipush 12, 2) := by decide +kernel
theorem dX3_isPerson_7 : decode cX3_isPerson 7 = .ok (.if_icmp .ge 7, 3) := by decide +kernel
theorem dX3_isPerson_10 : decode cX3_isPerson 10 = .ok (.iconst 1, 1) := by decide +kernel
theorem dX3_isPerson_11 : decode cX3_isPerson 11 = .ok (.goto 4, 3) := by decide +kernel
theorem dX3_isPerson_14 : decode cX3_isPerson 14 = .ok (.iconst 0, 1) := by decide +kernel
theorem dX3_isPerson_15 : decode cX3_isPerson 15 = .ok (.ireturn, 1) := by decide +kernel
theorem dX3_isGuest_0 : decode cX3_isGuest 0 = .ok (.iload_n 0, 1) := by decide +kernel
theorem dX3_isGuest_1 : decode cX3_isGuest 1 = .ok (.iconst 4, 1) := by decide +kernel
theorem dX3_isGuest_2 : decode cX3_isGuest 2 = .ok (.if_icmp .lt 13, 3) := by decide +kernel
theorem dX3_isGuest_5 : decode cX3_isGuest 5 = .ok (.iload_n 0, 1) := by decide +kernel
theorem dX3_isGuest_6 : decode cX3_isGuest 6 = .ok (.bipush 12, 2) := by decide +kernel
theorem dX3_isGuest_8 : decode cX3_isGuest 8 = .ok (.if_icmp .ge 7, 3) := by decide +kernel
theorem dX3_isGuest_11 : decode cX3_isGuest 11 = .ok (.iconst 1, 1) := by decide +kernel
theorem dX3_isGuest_12 : decode cX3_isGuest 12 = .ok (.goto 4, 3) := by decide +kernel
theorem dX3_isGuest_15 : decode cX3_isGuest 15 = .ok (.iconst 0, 1) := by decide +kernel
theorem dX3_isGuest_16 : decode cX3_isGuest 16 = .ok (.ireturn, 1) := by decide +kernel
theorem dX3_isKey_0 : decode cX3_isKey 0 = .ok (.iload_n 0, 1) := by decide +kernel
theorem dX3_isKey_1 : decode cX3_isKey 1 = .ok (.ifCond .lt 12, 3) := by decide +kernel
theorem dX3_isKey_4 : decode cX3_isKey 4 = .ok (.iload_n 0, 1) := by decide +kernel
theorem dX3_isKey_5 : decode cX3_isKey 5 = .ok (.iconst 4, 1) := by decide +kernel
theorem dX3_isKey_6 : decode cX3_isKey 6 = .ok (.if_icmp .ge 7, 3) := by decide +kernel
theorem dX3_isKey_9 : decode cX3_isKey 9 = .ok (.iconst 1, 1) := by decide +kernel
theorem dX3_isKey_10 : decode cX3_isKey 10 = .ok (.goto 4, 3) := by decide +kernel
theorem dX3_isKey_13 : decode cX3_isKey 13 = .ok (.iconst 0, 1) := by decide +kernel
theorem dX3_isKey_14 : decode cX3_isKey 14 = .ok (.ireturn, 1) := by decide +kernel
theorem dX3_asNumber_0 : decode cX3_asNumber 0 = .ok (.iload_n 0, 1) := by decide +kernel
theorem dX3_asNumber_1 : decode cX3_asNumber 1 = .ok (.ifCond .eq 7, 3) := by decide +kernel
theorem dX3_asNumber_4 : decode cX3_asNumber 4 = .ok (.iconst 1, 1) := by decide +kernel
theorem dX3_asNumber_5 : decode cX3_asNumber 5 = .ok (.goto 4, 3) := by decide +kernel
theorem dX3_asNumber_8 : decode cX3_asNumber 8 = .ok (.iconst 0, 1) := by decide +kernel
theorem dX3_asNumber_9 : decode cX3_asNumber 9 = .ok (.ireturn, 1) := by decide +kernel
theorem dX3_holds_0 : decode cX3_holds 0 = .ok (.iload_n 0, 1) := by decide +kernel
theorem dX3_holds_1 : decode cX3_holds 1 = .ok (.iload_n 1, 1) := by decide +kernel
theorem dX3_holds_2 : decode cX3_holds 2 = .ok (.ishr, 1) := by decide +kernel
theorem dX3_holds_3 : decode cX3_holds 3 = .ok (.iconst 1, 1) := by decide +kernel
theorem dX3_holds_4 : decode cX3_holds 4 = .ok (.iand, 1) := by decide +kernel
theorem dX3_holds_5 : decode cX3_holds 5 = .ok (.iconst 1, 1) := by decide +kernel
theorem dX3_holds_6 : decode cX3_holds 6 = .ok (.if_icmp .ne 7, 3) := by decide +kernel
theorem dX3_holds_9 : decode cX3_holds 9 = .ok (.iconst 1, 1) := by decide +kernel
theorem dX3_holds_10 : decode cX3_holds 10 = .ok (.goto 4, 3) := by decide +kernel
theorem dX3_holds_13 : decode cX3_holds 13 = .ok (.iconst 0, 1) := by decide +kernel
theorem dX3_holds_14 : decode cX3_holds 14 = .ok (.ireturn, 1) := by decide +kernel
set_option maxRecDepth 20000 in
theorem ggX3_mayAct_X0_isInSession : GoodIn wsX3_mayAct wsX0_isInSession := goodIn_r _ [8, 9, 42, 43, 44, 45] (by decide +kernel) (by decide +kernel)
set_option maxRecDepth 20000 in
theorem gX3_mayAct_X0_isInSession : GoodIn wsX3_mayAct (wsV RX3 60 RX0 yX0_isInSession wsX0_isInSession) := goodIn_app (goodIn_of _ (by decide +kernel)) ggX3_mayAct_X0_isInSession
set_option maxRecDepth 20000 in
theorem ggX3_mayAct_X2_isTrusted : GoodIn wsX3_mayAct wsX2_isTrusted := goodIn_r _ [14, 15, 16, 17, 13, 18, 19, 20, 21, 22, 23, 24, 46, 47, 48, 49, 50, 51, 52, 53] (by decide +kernel) (by decide +kernel)
set_option maxRecDepth 20000 in
theorem gX3_mayAct_X2_isTrusted : GoodIn wsX3_mayAct (wsV RX3 174 RX2 yX2_isTrusted wsX2_isTrusted) := goodIn_app (goodIn_of _ (by decide +kernel)) ggX3_mayAct_X2_isTrusted
set_option maxRecDepth 20000 in
theorem ggX3_mayAct_X2_isTainted : GoodIn wsX3_mayAct wsX2_isTainted := goodIn_r _ [28, 29, 30, 31, 32, 13, 33, 34, 19, 23, 21, 24, 46, 47, 48, 49, 50, 51, 52, 53] (by decide +kernel) (by decide +kernel)
set_option maxRecDepth 20000 in
theorem gX3_mayAct_X2_isTainted : GoodIn wsX3_mayAct (wsV RX3 150 RX2 yX2_isTainted wsX2_isTainted) := goodIn_app (goodIn_of _ (by decide +kernel)) ggX3_mayAct_X2_isTainted
theorem dX3_mayAct_0 : decode cX3_mayAct 0 = .ok (.aload_n 0, 1) := by decide +kernel
theorem dX3_mayAct_1 : decode cX3_mayAct 1 = .ok (.getfield 10, 3) := by decide +kernel
theorem dX3_mayAct_4 : decode cX3_mayAct 4 = .ok (.iload_n 1, 1) := by decide +kernel
theorem dX3_mayAct_5 : decode cX3_mayAct 5 = .ok (.aload_n 0, 1) := by decide +kernel
theorem dX3_mayAct_6 : decode cX3_mayAct 6 = .ok (.getfield 40, 3) := by decide +kernel
theorem dX3_mayAct_9 : decode cX3_mayAct 9 = .ok (.invokevirtual 60, 3) := by decide +kernel
theorem dX3_mayAct_12 : decode cX3_mayAct 12 = .ok (.ifCond .eq 29, 3) := by decide +kernel
theorem dX3_mayAct_15 : decode cX3_mayAct 15 = .ok (.aload_n 0, 1) := by decide +kernel
theorem dX3_mayAct_16 : decode cX3_mayAct 16 = .ok (.getfield 19, 3) := by decide +kernel
theorem dX3_mayAct_19 : decode cX3_mayAct 19 = .ok (.iload_n 1, 1) := by decide +kernel
theorem dX3_mayAct_20 : decode cX3_mayAct 20 = .ok (.invokevirtual 174, 3) := by decide +kernel
theorem dX3_mayAct_23 : decode cX3_mayAct 23 = .ok (.ifCond .eq 18, 3) := by decide +kernel
theorem dX3_mayAct_26 : decode cX3_mayAct 26 = .ok (.aload_n 0, 1) := by decide +kernel
theorem dX3_mayAct_27 : decode cX3_mayAct 27 = .ok (.getfield 19, 3) := by decide +kernel
theorem dX3_mayAct_30 : decode cX3_mayAct 30 = .ok (.iload_n 1, 1) := by decide +kernel
theorem dX3_mayAct_31 : decode cX3_mayAct 31 = .ok (.invokevirtual 150, 3) := by decide +kernel
theorem dX3_mayAct_34 : decode cX3_mayAct 34 = .ok (.ifCond .ne 7, 3) := by decide +kernel
theorem dX3_mayAct_37 : decode cX3_mayAct 37 = .ok (.iconst 1, 1) := by decide +kernel
theorem dX3_mayAct_38 : decode cX3_mayAct 38 = .ok (.goto 4, 3) := by decide +kernel
theorem dX3_mayAct_41 : decode cX3_mayAct 41 = .ok (.iconst 0, 1) := by decide +kernel
theorem dX3_mayAct_42 : decode cX3_mayAct 42 = .ok (.ireturn, 1) := by decide +kernel
set_option maxRecDepth 20000 in
theorem ggX3_countUsers_X3_holds : GoodIn wsX3_countUsers wsX3_holds := goodIn_r _ [5] (by decide +kernel) (by decide +kernel)
set_option maxRecDepth 20000 in
theorem gX3_countUsers_X3_holds : GoodIn wsX3_countUsers (va_wsS RX3 147 yX3_holds wsX3_holds) := goodIn_app (goodIn_of _ (by decide +kernel)) ggX3_countUsers_X3_holds
set_option maxRecDepth 20000 in
theorem ggX3_countUsers_X3_mayAct : GoodIn wsX3_countUsers wsX3_mayAct := goodIn_r _ [9, 10, 11, 12, 13, 14, 15, 16, 17, 18, 19, 20, 21, 22, 23, 24, 25, 26, 27, 28, 29, 4, 30, 31, 32, 33, 34, 35, 36, 37, 38, 39, 40, 41, 42, 43, 44, 45, 46, 47, 48, 49, 50, 51, 52, 53, 54, 55, 56, 57, 58, 59, 60, 61] (by decide +kernel) (by decide +kernel)
set_option maxRecDepth 20000 in
theorem gX3_countUsers_X3_mayAct : GoodIn wsX3_countUsers (wsV RX3 88 RX3 yX3_mayAct wsX3_mayAct) := goodIn_app (goodIn_of _ (by decide +kernel)) ggX3_countUsers_X3_mayAct
theorem dX3_countUsers_0 : decode cX3_countUsers 0 = .ok (.iconst 0, 1) := by decide +kernel
theorem dX3_countUsers_1 : decode cX3_countUsers 1 = .ok (.istore_n 2, 1) := by decide +kernel
theorem dX3_countUsers_2 : decode cX3_countUsers 2 = .ok (.iconst 0, 1) := by decide +kernel
theorem dX3_countUsers_3 : decode cX3_countUsers 3 = .ok (.istore_n 3, 1) := by decide +kernel
theorem dX3_countUsers_4 : decode cX3_countUsers 4 = .ok (.iload_n 3, 1) := by decide +kernel
theorem dX3_countUsers_5 : decode cX3_countUsers 5 = .ok (.bipush 12, 2) := by decide +kernel
theorem dX3_countUsers_7 : decode cX3_countUsers 7 = .ok (.if_icmp .ge 33, 3) := by decide +kernel
theorem dX3_countUsers_10 : decode cX3_countUsers 10 = .ok (.aload_n 0, 1) := by decide +kernel
theorem dX3_countUsers_11 : decode cX3_countUsers 11 = .ok (.getfield 33, 3) := by decide +kernel
theorem dX3_countUsers_14 : decode cX3_countUsers 14 = .ok (.iload_n 1, 1) := by decide +kernel
theorem dX3_countUsers_15 : decode cX3_countUsers 15 = .ok (.iaload, 1) := by decide +kernel
theorem dX3_countUsers_16 : decode cX3_countUsers 16 = .ok (.iload_n 3, 1) := by decide +kernel
theorem dX3_countUsers_17 : decode cX3_countUsers 17 = .ok (.invokestatic 147, 3) := by decide +kernel
theorem dX3_countUsers_20 : decode cX3_countUsers 20 = .ok (.ifCond .eq 14, 3) := by decide +kernel
theorem dX3_countUsers_23 : decode cX3_countUsers 23 = .ok (.aload_n 0, 1) := by decide +kernel
theorem dX3_countUsers_24 : decode cX3_countUsers 24 = .ok (.iload_n 3, 1) := by decide +kernel
theorem dX3_countUsers_25 : decode cX3_countUsers 25 = .ok (.invokevirtual 88, 3) := by decide +kernel
theorem dX3_countUsers_28 : decode cX3_countUsers 28 = .ok (.ifCond .eq 6, 3) := by decide +kernel
theorem dX3_countUsers_31 : decode cX3_countUsers 31 = .ok (.iinc 2 1, 3) := by decide +kernel
theorem dX3_countUsers_34 : decode cX3_countUsers 34 = .ok (.iinc 3 1, 3) := by decide +kernel
theorem dX3_countUsers_37 : decode cX3_countUsers 37 = .ok (.goto (-33), 3) := by decide +kernel
theorem dX3_countUsers_40 : decode cX3_countUsers 40 = .ok (.iload_n 2, 1) := by decide +kernel
theorem dX3_countUsers_41 : decode cX3_countUsers 41 = .ok (.ireturn, 1) := by decide +kernel
set_option maxRecDepth 20000 in
theorem ggX3_badgeText_J4_init_da8c8 : GoodIn wsX3_badgeText wsJ4_init_da8c8 := goodIn_r _ [6, 7, 8, 9, 10, 11, 12, 13, 14, 15, 16, 17, 18, 19, 20, 21, 22, 23, 24, 25, 167, 168, 169, 170] (by decide +kernel) (by decide +kernel)
set_option maxRecDepth 20000 in
theorem gX3_badgeText_J4_init_da8c8 : GoodIn wsX3_badgeText (wsJ4_init_da8c8) := ggX3_badgeText_J4_init_da8c8
set_option maxRecDepth 20000 in
theorem ggX3_badgeText_J4_append_bf812 : GoodIn wsX3_badgeText wsJ4_append_bf812 := goodIn_r _ [29, 30, 31, 32, 33, 9, 34, 35, 16, 36, 37, 38, 39, 40, 41, 42, 43, 44, 17, 45, 46, 47, 48, 49, 50, 51, 52, 53, 54, 55, 56, 57, 58, 59, 60, 61, 62, 63, 64, 65, 66, 67, 68, 69, 70, 71, 72, 15, 73, 74, 75, 76, 77, 78, 79, 80, 81, 82, 83, 84, 14, 85, 86, 87, 88, 89, 90, 91, 20, 92, 93, 94, 95, 96, 97, 98, 99, 100, 101, 102, 103, 104, 105, 106, 107, 108, 109, 110, 111, 112, 113, 114, 115, 116, 117, 118, 167, 168, 169, 170] (by decide +kernel) (by decide +kernel)
set_option maxRecDepth 20000 in
theorem gX3_badgeText_J4_append_bf812 : GoodIn wsX3_badgeText (wsV RX3 214 RJ4 yJ4_append_bf812 wsJ4_append_bf812) := goodIn_app (goodIn_of _ (by decide +kernel)) ggX3_badgeText_J4_append_bf812
set_option maxRecDepth 20000 in
theorem ggX3_badgeText_J4_append_cf468 : GoodIn wsX3_badgeText wsJ4_append_cf468 := goodIn_r _ [122, 123, 124, 32, 125, 9, 126, 35, 16, 40, 41, 42, 43, 44, 17, 45, 46, 47, 48, 49, 50, 51, 52, 53, 54, 55, 56, 57, 58, 59, 60, 61, 62, 63, 64, 65, 66, 67, 68, 69, 70, 71, 72, 15, 73, 74, 75, 76, 77, 78, 79, 80, 81, 82, 83, 84, 14, 127, 128, 129, 130, 131, 132, 133, 134, 135, 18, 19, 20, 21, 22, 23, 24, 25, 136, 137, 138, 139, 140, 141, 142, 143, 144, 97, 98, 99, 145, 146, 102, 147, 104, 148, 149, 107, 150, 114, 115, 116, 93, 117, 118, 151, 152, 153, 154, 155, 156, 157, 158, 159, 160, 161, 162, 167, 168, 169, 170] (by decide +kernel) (by decide +kernel)
set_option maxRecDepth 20000 in
theorem gX3_badgeText_J4_append_cf468 : GoodIn wsX3_badgeText (wsV RX3 218 RJ4 yJ4_append_cf468 wsJ4_append_cf468) := goodIn_app (goodIn_of _ (by decide +kernel)) ggX3_badgeText_J4_append_cf468
set_option maxRecDepth 20000 in
theorem ggX3_badgeText_X3_appendBackwards : GoodIn wsX3_badgeText wsX3_appendBackwards := goodIn_r _ [166, 119, 120, 121, 3, 122, 123, 124, 32, 125, 9, 126, 35, 16, 40, 41, 42, 43, 44, 17, 45, 46, 47, 48, 49, 50, 51, 52, 53, 54, 55, 56, 57, 58, 59, 60, 61, 62, 63, 64, 65, 66, 67, 68, 69, 70, 71, 72, 15, 73, 74, 75, 76, 77, 78, 79, 80, 81, 82, 83, 84, 14, 127, 128, 129, 130, 131, 132, 133, 134, 135, 18, 19, 20, 21, 22, 23, 24, 25, 136, 137, 138, 139, 140, 141, 142, 143, 144, 97, 98, 99, 145, 146, 102, 147, 104, 148, 149, 107, 150, 114, 115, 116, 93, 117, 118, 151, 152, 153, 154, 155, 156, 157, 158, 159, 160, 161, 162, 167, 168, 169, 170] (by decide +kernel) (by decide +kernel)
set_option maxRecDepth 20000 in
theorem gX3_badgeText_X3_appendBackwards : GoodIn wsX3_badgeText (va_wsS RX3 221 yX3_appendBackwards wsX3_appendBackwards) := goodIn_app (goodIn_of _ (by decide +kernel)) ggX3_badgeText_X3_appendBackwards
theorem dX3_badgeText_0 : decode cX3_badgeText 0 = .ok (.new 205, 3) := by decide +kernel
theorem dX3_badgeText_3 : decode cX3_badgeText 3 = .ok (.dup, 1) := by decide +kernel
theorem dX3_badgeText_4 : decode cX3_badgeText 4 = .ok (.invokespecial 213, 3) := by decide +kernel
theorem dX3_badgeText_7 : decode cX3_badgeText 7 = .ok (.astore_n 2, 1) := by decide +kernel
theorem dX3_badgeText_8 : decode cX3_badgeText 8 = .ok (.aload_n 2, 1) := by decide +kernel
theorem dX3_badgeText_9 : decode cX3_badgeText 9 = .ok (.iload_n 0, 1) := by decide +kernel
theorem dX3_badgeText_10 : decode cX3_badgeText 10 = .ok (.invokevirtual 214, 3) := by decide +kernel
theorem dX3_badgeText_13 : decode cX3_badgeText 13 = .ok (.pop, 1) := by decide +kernel
theorem dX3_badgeText_14 : decode cX3_badgeText 14 = .ok (.aload_n 2, 1) := by decide +kernel
theorem dX3_badgeText_15 : decode cX3_badgeText 15 = .ok (.bipush 45, 2) := by decide +kernel
theorem dX3_badgeText_17 : decode cX3_badgeText 17 = .ok (.invokevirtual 218, 3) := by decide +kernel
theorem dX3_badgeText_20 : decode cX3_badgeText 20 = .ok (.pop, 1) := by decide +kernel
theorem dX3_badgeText_21 : decode cX3_badgeText 21 = .ok (.aload_n 2, 1) := by decide +kernel
theorem dX3_badgeText_22 : decode cX3_badgeText 22 = .ok (.iload_n 1, 1) := by decide +kernel
theorem dX3_badgeText_23 : decode cX3_badgeText 23 = .ok (.invokestatic 221, 3) := by decide +kernel
theorem dX3_badgeText_26 : decode cX3_badgeText 26 = .ok (.aload_n 2, 1) := by decide +kernel
theorem dX3_badgeText_27 : decode cX3_badgeText 27 = .ok (.bipush 65, 2) := by decide +kernel
theorem dX3_badgeText_29 : decode cX3_badgeText 29 = .ok (.iconst 3, 1) := by decide +kernel
theorem dX3_badgeText_30 : decode cX3_badgeText 30 = .ok (.iload_n 1, 1) := by decide +kernel
theorem dX3_badgeText_31 : decode cX3_badgeText 31 = .ok (.imul, 1) := by decide +kernel
theorem dX3_badgeText_32 : decode cX3_badgeText 32 = .ok (.iload_n 0, 1) := by decide +kernel
theorem dX3_badgeText_33 : decode cX3_badgeText 33 = .ok (.iadd, 1) := by decide +kernel
theorem dX3_badgeText_34 : decode cX3_badgeText 34 = .ok (.bipush 26, 2) := by decide +kernel
theorem dX3_badgeText_36 : decode cX3_badgeText 36 = .ok (.irem, 1) := by decide +kernel
theorem dX3_badgeText_37 : decode cX3_badgeText 37 = .ok (.iadd, 1) := by decide +kernel
theorem dX3_badgeText_38 : decode cX3_badgeText 38 = .ok (.i2c, 1) := by decide +kernel
theorem dX3_badgeText_39 : decode cX3_badgeText 39 = .ok (.invokevirtual 218, 3) := by decide +kernel
theorem dX3_badgeText_42 : decode cX3_badgeText 42 = .ok (.pop, 1) := by decide +kernel
theorem dX3_badgeText_43 : decode cX3_badgeText 43 = .ok (.aload_n 2, 1) := by decide +kernel
theorem dX3_badgeText_44 : decode cX3_badgeText 44 = .ok (.areturn, 1) := by decide +kernel
set_option maxRecDepth 20000 in
theorem ggX3_appendBackwards_J4_append_cf468 : GoodIn wsX3_appendBackwards wsJ4_append_cf468 := goodIn_r _ [5, 6, 7, 8, 9, 10, 11, 12, 13, 14, 15, 16, 17, 18, 19, 20, 21, 22, 23, 24, 25, 26, 27, 28, 29, 30, 31, 32, 33, 34, 35, 36, 37, 38, 39, 40, 41, 42, 43, 44, 45, 46, 47, 48, 49, 50, 51, 52, 53, 54, 55, 56, 57, 58, 59, 60, 61, 62, 63, 64, 65, 66, 67, 68, 69, 70, 71, 72, 73, 74, 75, 76, 77, 78, 79, 80, 81, 82, 83, 84, 85, 86, 87, 88, 89, 90, 91, 92, 93, 94, 95, 96, 97, 98, 99, 100, 101, 102, 103, 104, 105, 106, 107, 108, 109, 110, 111, 112, 113, 114, 115, 116, 117, 118, 119, 120, 121] (by decide +kernel) (by decide +kernel)
set_option maxRecDepth 20000 in
theorem gX3_appendBackwards_J4_append_cf468 : GoodIn wsX3_appendBackwards (wsV RX3 218 RJ4 yJ4_append_cf468 wsJ4_append_cf468) := goodIn_app (goodIn_of _ (by decide +kernel)) ggX3_appendBackwards_J4_append_cf468
theorem dX3_appendBackwards_0 : decode cX3_appendBackwards 0 = .ok (.iload_n 1, 1) := by decide +kernel
theorem dX3_appendBackwards_1 : decode cX3_appendBackwards 1 = .ok (.istore_n 2, 1) := by decide +kernel
theorem dX3_appendBackwards_2 : decode cX3_appendBackwards 2 = .ok (.iconst 0, 1) := by decide +kernel
theorem dX3_appendBackwards_3 : decode cX3_appendBackwards 3 = .ok (.istore_n 3, 1) := by decide +kernel
theorem dX3_appendBackwards_4 : decode cX3_appendBackwards 4 = .ok (.iload_n 3, 1) := by decide +kernel
theorem dX3_appendBackwards_5 : decode cX3_appendBackwards 5 = .ok (.bipush 10, 2) := by decide +kernel
theorem dX3_appendBackwards_7 : decode cX3_appendBackwards 7 = .ok (.if_icmp .ge 32, 3) := by decide +kernel
theorem dX3_appendBackwards_10 : decode cX3_appendBackwards 10 = .ok (.aload_n 0, 1) := by decide +kernel
theorem dX3_appendBackwards_11 : decode cX3_appendBackwards 11 = .ok (.bipush 48, 2) := by decide +kernel
theorem dX3_appendBackwards_13 : decode cX3_appendBackwards 13 = .ok (.iload_n 2, 1) := by decide +kernel
theorem dX3_appendBackwards_14 : decode cX3_appendBackwards 14 = .ok (.bipush 10, 2) := by decide +kernel
theorem dX3_appendBackwards_16 : decode cX3_appendBackwards 16 = .ok (.irem, 1) := by decide +kernel
theorem dX3_appendBackwards_17 : decode cX3_appendBackwards 17 = .ok (.iadd, 1) := by decide +kernel
theorem dX3_appendBackwards_18 : decode cX3_appendBackwards 18 = .ok (.i2c, 1) := by decide +kernel
theorem dX3_appendBackwards_19 : decode cX3_appendBackwards 19 = .ok (.invokevirtual 218, 3) := by decide +kernel
theorem dX3_appendBackwards_22 : decode cX3_appendBackwards 22 = .ok (.pop, 1) := by decide +kernel
theorem dX3_appendBackwards_23 : decode cX3_appendBackwards 23 = .ok (.iload_n 2, 1) := by decide +kernel
theorem dX3_appendBackwards_24 : decode cX3_appendBackwards 24 = .ok (.bipush 10, 2) := by decide +kernel
theorem dX3_appendBackwards_26 : decode cX3_appendBackwards 26 = .ok (.idiv, 1) := by decide +kernel
theorem dX3_appendBackwards_27 : decode cX3_appendBackwards 27 = .ok (.istore_n 2, 1) := by decide +kernel
theorem dX3_appendBackwards_28 : decode cX3_appendBackwards 28 = .ok (.iload_n 2, 1) := by decide +kernel
theorem dX3_appendBackwards_29 : decode cX3_appendBackwards 29 = .ok (.ifCond .ne 4, 3) := by decide +kernel
theorem dX3_appendBackwards_32 : decode cX3_appendBackwards 32 = .ok (.return_, 1) := by decide +kernel
theorem dX3_appendBackwards_33 : decode cX3_appendBackwards 33 = .ok (.iinc 3 1, 3) := by decide +kernel
theorem dX3_appendBackwards_36 : decode cX3_appendBackwards 36 = .ok (.goto (-32), 3) := by decide +kernel
theorem dX3_appendBackwards_39 : decode cX3_appendBackwards 39 = .ok (.return_, 1) := by decide +kernel
set_option maxRecDepth 20000 in
theorem ggJ5_init_d00df_J2_newBytesFor_77867 : GoodIn wsJ5_init_d00df wsJ2_newBytesFor_77867 := goodIn_r _ [11, 5, 12, 13, 10, 14, 15] (by decide +kernel) (by decide +kernel)
set_option maxRecDepth 20000 in
theorem gJ5_init_d00df_J2_newBytesFor_77867 : GoodIn wsJ5_init_d00df (va_wsS RJ5 26 yJ2_newBytesFor_77867 wsJ2_newBytesFor_77867) := goodIn_app (goodIn_of _ (by decide +kernel)) ggJ5_init_d00df_J2_newBytesFor_77867
theorem dJ5_init_d00df_0 : decode cJ5_init_d00df 0 = .ok (.aload_n 0, 1) := by decide +kernel
theorem dJ5_init_d00df_1 : decode cJ5_init_d00df 1 = .ok (.invokespecial 3, 3) := by decide +kernel
theorem dJ5_init_d00df_4 : decode cJ5_init_d00df 4 = .ok (.getstatic 18, 3) := by decide +kernel
theorem dJ5_init_d00df_7 : decode cJ5_init_d00df 7 = .ok (.ifCond .eq 18, 3) := by decide +kernel
theorem dJ5_init_d00df_10 : decode cJ5_init_d00df 10 = .ok (.aload_n 0, 1) := by decide +kernel
theorem dJ5_init_d00df_11 : decode cJ5_init_d00df 11 = .ok (.iload_n 1, 1) := by decide +kernel
theorem dJ5_init_d00df_12 : decode cJ5_init_d00df 12 = .ok (.newarray .byte, 2) := by decide +kernel
theorem dJ5_init_d00df_14 : decode cJ5_init_d00df 14 = .ok (.putfield 15, 3) := by decide +kernel
theorem dJ5_init_d00df_17 : decode cJ5_init_d00df 17 = .ok (.aload_n 0, 1) := by decide +kernel
theorem dJ5_init_d00df_18 : decode cJ5_init_d00df 18 = .ok (.iconst 0, 1) := by decide +kernel
theorem dJ5_init_d00df_19 : decode cJ5_init_d00df 19 = .ok (.putfield 22, 3) := by decide +kernel
theorem dJ5_init_d00df_22 : decode cJ5_init_d00df 22 = .ok (.goto 16, 3) := by decide +kernel
theorem dJ5_init_d00df_25 : decode cJ5_init_d00df 25 = .ok (.aload_n 0, 1) := by decide +kernel
theorem dJ5_init_d00df_26 : decode cJ5_init_d00df 26 = .ok (.iload_n 1, 1) := by decide +kernel
theorem dJ5_init_d00df_27 : decode cJ5_init_d00df 27 = .ok (.invokestatic 26, 3) := by decide +kernel
theorem dJ5_init_d00df_30 : decode cJ5_init_d00df 30 = .ok (.putfield 15, 3) := by decide +kernel
theorem dJ5_init_d00df_33 : decode cJ5_init_d00df 33 = .ok (.aload_n 0, 1) := by decide +kernel
theorem dJ5_init_d00df_34 : decode cJ5_init_d00df 34 = .ok (.iconst 1, 1) := by decide +kernel
theorem dJ5_init_d00df_35 : decode cJ5_init_d00df 35 = .ok (.putfield 22, 3) := by decide +kernel
theorem dJ5_init_d00df_38 : decode cJ5_init_d00df 38 = .ok (.return_, 1) := by decide +kernel
theorem dJ5_length_8abf5_0 : decode cJ5_length_8abf5 0 = .ok (.aload_n 0, 1) := by decide +kernel
theorem dJ5_length_8abf5_1 : decode cJ5_length_8abf5 1 = .ok (.getfield 79, 3) := by decide +kernel
theorem dJ5_length_8abf5_4 : decode cJ5_length_8abf5 4 = .ok (.ireturn, 1) := by decide +kernel
set_option maxRecDepth 20000 in
theorem ggJ5_ensureCapacityInternal_d00df_J5_newCapacity_0f7a4 : GoodIn wsJ5_ensureCapacityInternal_d00df wsJ5_newCapacity_0f7a4 := goodIn_r _ [8, 1, 2, 9, 10, 11, 12, 13, 14, 15, 16, 17, 18, 19, 20, 21, 40, 41, 42, 43] (by decide +kernel) (by decide +kernel)
set_option maxRecDepth 20000 in
theorem gJ5_ensureCapacityInternal_d00df_J5_newCapacity_0f7a4_u104J4 : GoodIn wsJ5_ensureCapacityInternal_d00df (va_wsU RJ5 104 RJ4 "java/lang/AbstractStringBuilder" ⟨"java/lang/AbstractStringBuilder", "newCapacity", "(I)I"⟩ yJ5_newCapacity_0f7a4 wsJ5_newCapacity_0f7a4) := goodIn_app (goodIn_of _ (by decide +kernel)) ggJ5_ensureCapacityInternal_d00df_J5_newCapacity_0f7a4
set_option maxRecDepth 20000 in
theorem ggJ5_ensureCapacityInternal_d00df_J7_copyOf_9075b : GoodIn wsJ5_ensureCapacityInternal_d00df wsJ7_copyOf_9075b := goodIn_r _ [25, 26, 27, 28, 29, 30, 31, 32, 33, 34, 16, 35, 36, 37, 38, 39] (by decide +kernel) (by decide +kernel)
set_option maxRecDepth 20000 in
theorem gJ5_ensureCapacityInternal_d00df_J7_copyOf_9075b : GoodIn wsJ5_ensureCapacityInternal_d00df (va_wsS RJ5 108 yJ7_copyOf_9075b wsJ7_copyOf_9075b) := goodIn_app (goodIn_of _ (by decide +kernel)) ggJ5_ensureCapacityInternal_d00df_J7_copyOf_9075b
theorem dJ5_ensureCapacityInternal_d00df_0 : decode cJ5_ensureCapacityInternal_d00df 0 = .ok (.aload_n 0, 1) := by decide +kernel
theorem dJ5_ensureCapacityInternal_d00df_1 : decode cJ5_ensureCapacityInternal_d00df 1 = .ok (.getfield 15, 3) := by decide +kernel
theorem dJ5_ensureCapacityInternal_d00df_4 : decode cJ5_ensureCapacityInternal_d00df 4 = .ok (.arraylength, 1) := by decide +kernel
theorem dJ5_ensureCapacityInternal_d00df_5 : decode cJ5_ensureCapacityInternal_d00df 5 = .ok (.aload_n 0, 1) := by decide +kernel
theorem dJ5_ensureCapacityInternal_d00df_6 : decode cJ5_ensureCapacityInternal_d00df 6 = .ok (.getfield 22, 3) := by decide +kernel
theorem dJ5_ensureCapacityInternal_d00df_9 : decode cJ5_ensureCapacityInternal_d00df 9 = .ok (.ishr, 1) := by decide +kernel
theorem dJ5_ensureCapacityInternal_d00df_10 : decode cJ5_ensureCapacityInternal_d00df 10 = .ok (.istore_n 2, 1) := by decide +kernel
theorem dJ5_ensureCapacityInternal_d00df_11 : decode cJ5_ensureCapacityInternal_d00df 11 = .ok (.iload_n 1, 1) := by decide +kernel
theorem dJ5_ensureCapacityInternal_d00df_12 : decode cJ5_ensureCapacityInternal_d00df 12 = .ok (.iload_n 2, 1) := by decide +kernel
theorem dJ5_ensureCapacityInternal_d00df_13 : decode cJ5_ensureCapacityInternal_d00df 13 = .ok (.isub, 1) := by decide +kernel
theorem dJ5_ensureCapacityInternal_d00df_14 : decode cJ5_ensureCapacityInternal_d00df 14 = .ok (.ifCond .le 24, 3) := by decide +kernel
theorem dJ5_ensureCapacityInternal_d00df_17 : decode cJ5_ensureCapacityInternal_d00df 17 = .ok (.aload_n 0, 1) := by decide +kernel
theorem dJ5_ensureCapacityInternal_d00df_18 : decode cJ5_ensureCapacityInternal_d00df 18 = .ok (.aload_n 0, 1) := by decide +kernel
theorem dJ5_ensureCapacityInternal_d00df_19 : decode cJ5_ensureCapacityInternal_d00df 19 = .ok (.getfield 15, 3) := by decide +kernel
theorem dJ5_ensureCapacityInternal_d00df_22 : decode cJ5_ensureCapacityInternal_d00df 22 = .ok (.aload_n 0, 1) := by decide +kernel
theorem dJ5_ensureCapacityInternal_d00df_23 : decode cJ5_ensureCapacityInternal_d00df 23 = .ok (.iload_n 1, 1) := by decide +kernel
theorem dJ5_ensureCapacityInternal_d00df_24 : decode cJ5_ensureCapacityInternal_d00df 24 = .ok (.invokevirtual 104, 3) := by decide +kernel
theorem dJ5_ensureCapacityInternal_d00df_27 : decode cJ5_ensureCapacityInternal_d00df 27 = .ok (.aload_n 0, 1) := by decide +kernel
theorem dJ5_ensureCapacityInternal_d00df_28 : decode cJ5_ensureCapacityInternal_d00df 28 = .ok (.getfield 22, 3) := by decide +kernel
theorem dJ5_ensureCapacityInternal_d00df_31 : decode cJ5_ensureCapacityInternal_d00df 31 = .ok (.ishl, 1) := by decide +kernel
theorem dJ5_ensureCapacityInternal_d00df_32 : decode cJ5_ensureCapacityInternal_d00df 32 = .ok (.invokestatic 108, 3) := by decide +kernel
theorem dJ5_ensureCapacityInternal_d00df_35 : decode cJ5_ensureCapacityInternal_d00df 35 = .ok (.putfield 15, 3) := by decide +kernel
theorem dJ5_ensureCapacityInternal_d00df_38 : decode cJ5_ensureCapacityInternal_d00df 38 = .ok (.return_, 1) := by decide +kernel
set_option maxRecDepth 20000 in
theorem ggJ5_newCapacity_0f7a4_J8_newLength_cabcc : GoodIn wsJ5_newCapacity_0f7a4 wsJ8_newLength_cabcc := goodIn_r _ [7, 8, 9, 10, 11, 12, 13, 14, 6, 15] (by decide +kernel) (by decide +kernel)
set_option maxRecDepth 20000 in
theorem gJ5_newCapacity_0f7a4_J8_newLength_cabcc : GoodIn wsJ5_newCapacity_0f7a4 (va_wsS RJ5 114 yJ8_newLength_cabcc wsJ8_newLength_cabcc) := goodIn_app (goodIn_of _ (by decide +kernel)) ggJ5_newCapacity_0f7a4_J8_newLength_cabcc
theorem dJ5_newCapacity_0f7a4_0 : decode cJ5_newCapacity_0f7a4 0 = .ok (.aload_n 0, 1) := by decide +kernel
theorem dJ5_newCapacity_0f7a4_1 : decode cJ5_newCapacity_0f7a4 1 = .ok (.getfield 15, 3) := by decide +kernel
theorem dJ5_newCapacity_0f7a4_4 : decode cJ5_newCapacity_0f7a4 4 = .ok (.arraylength, 1) := by decide +kernel
theorem dJ5_newCapacity_0f7a4_5 : decode cJ5_newCapacity_0f7a4 5 = .ok (.istore_n 2, 1) := by decide +kernel
theorem dJ5_newCapacity_0f7a4_6 : decode cJ5_newCapacity_0f7a4 6 = .ok (.iload_n 1, 1) := by decide +kernel
theorem dJ5_newCapacity_0f7a4_7 : decode cJ5_newCapacity_0f7a4 7 = .ok (.aload_n 0, 1) := by decide +kernel
theorem dJ5_newCapacity_0f7a4_8 : decode cJ5_newCapacity_0f7a4 8 = .ok (.getfield 22, 3) := by decide +kernel
theorem dJ5_newCapacity_0f7a4_11 : decode cJ5_newCapacity_0f7a4 11 = .ok (.ishl, 1) := by decide +kernel
theorem dJ5_newCapacity_0f7a4_12 : decode cJ5_newCapacity_0f7a4 12 = .ok (.istore_n 3, 1) := by decide +kernel
theorem dJ5_newCapacity_0f7a4_13 : decode cJ5_newCapacity_0f7a4 13 = .ok (.iload_n 3, 1) := by decide +kernel
theorem dJ5_newCapacity_0f7a4_14 : decode cJ5_newCapacity_0f7a4 14 = .ok (.iload_n 2, 1) := by decide +kernel
theorem dJ5_newCapacity_0f7a4_15 : decode cJ5_newCapacity_0f7a4 15 = .ok (.isub, 1) := by decide +kernel
theorem dJ5_newCapacity_0f7a4_16 : decode cJ5_newCapacity_0f7a4 16 = .ok (.istore 4, 2) := by decide +kernel
theorem dJ5_newCapacity_0f7a4_18 : decode cJ5_newCapacity_0f7a4 18 = .ok (.iload_n 2, 1) := by decide +kernel
theorem dJ5_newCapacity_0f7a4_19 : decode cJ5_newCapacity_0f7a4 19 = .ok (.iload 4, 2) := by decide +kernel
theorem dJ5_newCapacity_0f7a4_21 : decode cJ5_newCapacity_0f7a4 21 = .ok (.iload_n 2, 1) := by decide +kernel
theorem dJ5_newCapacity_0f7a4_22 : decode cJ5_newCapacity_0f7a4 22 = .ok (.iconst 2, 1) := by decide +kernel
theorem dJ5_newCapacity_0f7a4_23 : decode cJ5_newCapacity_0f7a4 23 = .ok (.aload_n 0, 1) := by decide +kernel
theorem dJ5_newCapacity_0f7a4_24 : decode cJ5_newCapacity_0f7a4 24 = .ok (.getfield 22, 3) := by decide +kernel
theorem dJ5_newCapacity_0f7a4_27 : decode cJ5_newCapacity_0f7a4 27 = .ok (.ishl, 1) := by decide +kernel
theorem dJ5_newCapacity_0f7a4_28 : decode cJ5_newCapacity_0f7a4 28 = .ok (.iadd, 1) := by decide +kernel
theorem dJ5_newCapacity_0f7a4_29 : decode cJ5_newCapacity_0f7a4 29 = .ok (.invokestatic 114, 3) := by decide +kernel
theorem dJ5_newCapacity_0f7a4_32 : decode cJ5_newCapacity_0f7a4 32 = .ok (.istore 5, 2) := by decide +kernel
theorem dJ5_newCapacity_0f7a4_34 : decode cJ5_newCapacity_0f7a4 34 = .ok (.iload 5, 2) := by decide +kernel
theorem dJ5_newCapacity_0f7a4_36 : decode cJ5_newCapacity_0f7a4 36 = .ok (.ldc 39, 2) := by decide +kernel
theorem dJ5_newCapacity_0f7a4_38 : decode cJ5_newCapacity_0f7a4 38 = .ok (.if_icmp .ne 13, 3) := by decide +kernel
theorem dJ5_newCapacity_0f7a4_41 : decode cJ5_newCapacity_0f7a4 41 = .ok (.new 120, 3) := by decide +kernel
theorem dJ5_newCapacity_0f7a4_44 : decode cJ5_newCapacity_0f7a4 44 = .ok (.dup, 1) := by decide +kernel
theorem dJ5_newCapacity_0f7a4_45 : decode cJ5_newCapacity_0f7a4 45 = .ok (.ldc 122, 2) := by decide +kernel
theorem dJ5_newCapacity_0f7a4_47 : decode cJ5_newCapacity_0f7a4 47 = .ok (.invokespecial 124, 3) := by decide +kernel
theorem dJ5_newCapacity_0f7a4_50 : decode cJ5_newCapacity_0f7a4 50 = .ok (.athrow, 1) := by decide +kernel
theorem dJ5_newCapacity_0f7a4_51 : decode cJ5_newCapacity_0f7a4 51 = .ok (.iload 5, 2) := by decide +kernel
theorem dJ5_newCapacity_0f7a4_53 : decode cJ5_newCapacity_0f7a4 53 = .ok (.aload_n 0, 1) := by decide +kernel
theorem dJ5_newCapacity_0f7a4_54 : decode cJ5_newCapacity_0f7a4 54 = .ok (.getfield 22, 3) := by decide +kernel
theorem dJ5_newCapacity_0f7a4_57 : decode cJ5_newCapacity_0f7a4 57 = .ok (.ishr, 1) := by decide +kernel
theorem dJ5_newCapacity_0f7a4_58 : decode cJ5_newCapacity_0f7a4 58 = .ok (.ireturn, 1) := by decide +kernel
set_option maxRecDepth 20000 in
theorem ggJ5_inflate_da8c8_J5_isLatin1_aae02 : GoodIn wsJ5_inflate_da8c8 wsJ5_isLatin1_aae02 := goodIn_r _ [9, 10, 3, 48, 49, 50, 51] (by decide +kernel) (by decide +kernel)
set_option maxRecDepth 20000 in
theorem gJ5_inflate_da8c8_J5_isLatin1_aae02_u83J4 : GoodIn wsJ5_inflate_da8c8 (va_wsU RJ5 83 RJ4 "java/lang/AbstractStringBuilder" ⟨"java/lang/AbstractStringBuilder", "isLatin1", "()Z"⟩ yJ5_isLatin1_aae02 wsJ5_isLatin1_aae02) := goodIn_app (goodIn_of _ (by decide +kernel)) ggJ5_inflate_da8c8_J5_isLatin1_aae02
set_option maxRecDepth 20000 in
theorem ggJ5_inflate_da8c8_J2_newBytesFor_77867 : GoodIn wsJ5_inflate_da8c8 wsJ2_newBytesFor_77867 := goodIn_r _ [14, 15, 16, 17, 13, 18, 19] (by decide +kernel) (by decide +kernel)
set_option maxRecDepth 20000 in
theorem gJ5_inflate_da8c8_J2_newBytesFor_77867 : GoodIn wsJ5_inflate_da8c8 (va_wsS RJ5 26 yJ2_newBytesFor_77867 wsJ2_newBytesFor_77867) := goodIn_app (goodIn_of _ (by decide +kernel)) ggJ5_inflate_da8c8_J2_newBytesFor_77867
set_option maxRecDepth 20000 in
theorem ggJ5_inflate_da8c8_J1_inflate_0e8fd : GoodIn wsJ5_inflate_da8c8 wsJ1_inflate_0e8fd := goodIn_r _ [23, 24, 25, 13, 26, 27, 28, 29, 30, 31, 32, 33, 34, 35, 36, 37, 38, 39, 40, 41, 42, 43, 44, 45, 46, 47] (by decide +kernel) (by decide +kernel)
set_option maxRecDepth 20000 in
theorem gJ5_inflate_da8c8_J1_inflate_0e8fd : GoodIn wsJ5_inflate_da8c8 (va_wsS RJ5 125 yJ1_inflate_0e8fd wsJ1_inflate_0e8fd) := goodIn_app (goodIn_of _ (by decide +kernel)) ggJ5_inflate_da8c8_J1_inflate_0e8fd
theorem dJ5_inflate_da8c8_0 : decode cJ5_inflate_da8c8 0 = .ok (.aload_n 0, 1) := by decide +kernel
theorem dJ5_inflate_da8c8_1 : decode cJ5_inflate_da8c8 1 = .ok (.invokevirtual 83, 3) := by decide +kernel
theorem dJ5_inflate_da8c8_4 : decode cJ5_inflate_da8c8 4 = .ok (.ifCond .ne 4, 3) := by decide +kernel
theorem dJ5_inflate_da8c8_7 : decode cJ5_inflate_da8c8 7 = .ok (.return_, 1) := by decide +kernel
theorem dJ5_inflate_da8c8_8 : decode cJ5_inflate_da8c8 8 = .ok (.aload_n 0, 1) := by decide +kernel
theorem dJ5_inflate_da8c8_9 : decode cJ5_inflate_da8c8 9 = .ok (.getfield 15, 3) := by decide +kernel
theorem dJ5_inflate_da8c8_12 : decode cJ5_inflate_da8c8 12 = .ok (.arraylength, 1) := by decide +kernel
theorem dJ5_inflate_da8c8_13 : decode cJ5_inflate_da8c8 13 = .ok (.invokestatic 26, 3) := by decide +kernel
theorem dJ5_inflate_da8c8_16 : decode cJ5_inflate_da8c8 16 = .ok (.astore_n 1, 1) := by decide +kernel
theorem dJ5_inflate_da8c8_17 : decode cJ5_inflate_da8c8 17 = .ok (.aload_n 0, 1) := by decide +kernel
theorem dJ5_inflate_da8c8_18 : decode cJ5_inflate_da8c8 18 = .ok (.getfield 15, 3) := by decide +kernel
theorem dJ5_inflate_da8c8_21 : decode cJ5_inflate_da8c8 21 = .ok (.iconst 0, 1) := by decide +kernel
theorem dJ5_inflate_da8c8_22 : decode cJ5_inflate_da8c8 22 = .ok (.aload_n 1, 1) := by decide +kernel
theorem dJ5_inflate_da8c8_23 : decode cJ5_inflate_da8c8 23 = .ok (.iconst 0, 1) := by decide +kernel
theorem dJ5_inflate_da8c8_24 : decode cJ5_inflate_da8c8 24 = .ok (.aload_n 0, 1) := by decide +kernel
theorem dJ5_inflate_da8c8_25 : decode cJ5_inflate_da8c8 25 = .ok (.getfield 79, 3) := by decide +kernel
theorem dJ5_inflate_da8c8_28 : decode cJ5_inflate_da8c8 28 = .ok (.invokestatic 125, 3) := by decide +kernel
theorem dJ5_inflate_da8c8_31 : decode cJ5_inflate_da8c8 31 = .ok (.aload_n 0, 1) := by decide +kernel
theorem dJ5_inflate_da8c8_32 : decode cJ5_inflate_da8c8 32 = .ok (.aload_n 1, 1) := by decide +kernel
theorem dJ5_inflate_da8c8_33 : decode cJ5_inflate_da8c8 33 = .ok (.putfield 15, 3) := by decide +kernel
theorem dJ5_inflate_da8c8_36 : decode cJ5_inflate_da8c8 36 = .ok (.aload_n 0, 1) := by decide +kernel
theorem dJ5_inflate_da8c8_37 : decode cJ5_inflate_da8c8 37 = .ok (.iconst 1, 1) := by decide +kernel
theorem dJ5_inflate_da8c8_38 : decode cJ5_inflate_da8c8 38 = .ok (.putfield 22, 3) := by decide +kernel
theorem dJ5_inflate_da8c8_41 : decode cJ5_inflate_da8c8 41 = .ok (.return_, 1) := by decide +kernel
set_option maxRecDepth 20000 in
theorem ggJ5_charAt_5068e_J0_checkIndex_df160 : GoodIn wsJ5_charAt_5068e wsJ0_checkIndex_df160 := goodIn_r _ [11, 12, 13, 14, 15, 16] (by decide +kernel) (by decide +kernel)
set_option maxRecDepth 20000 in
theorem gJ5_charAt_5068e_J0_checkIndex_df160 : GoodIn wsJ5_charAt_5068e (va_wsS RJ5 144 yJ0_checkIndex_df160 wsJ0_checkIndex_df160) := goodIn_app (goodIn_of _ (by decide +kernel)) ggJ5_charAt_5068e_J0_checkIndex_df160
set_option maxRecDepth 20000 in
theorem ggJ5_charAt_5068e_J2_getChar_3b067 : GoodIn wsJ5_charAt_5068e wsJ2_getChar_3b067 := goodIn_r _ [20, 21, 22, 23, 24, 25, 19, 26] (by decide +kernel) (by decide +kernel)
set_option maxRecDepth 20000 in
theorem gJ5_charAt_5068e_J2_getChar_3b067 : GoodIn wsJ5_charAt_5068e (va_wsS RJ5 148 yJ2_getChar_3b067 wsJ2_getChar_3b067) := goodIn_app (goodIn_of _ (by decide +kernel)) ggJ5_charAt_5068e_J2_getChar_3b067
theorem dJ5_charAt_5068e_0 : decode cJ5_charAt_5068e 0 = .ok (.aload_n 0, 1) := by decide +kernel
theorem dJ5_charAt_5068e_1 : decode cJ5_charAt_5068e 1 = .ok (.getfield 22, 3) := by decide +kernel
theorem dJ5_charAt_5068e_4 : decode cJ5_charAt_5068e 4 = .ok (.istore_n 2, 1) := by decide +kernel
theorem dJ5_charAt_5068e_5 : decode cJ5_charAt_5068e 5 = .ok (.aload_n 0, 1) := by decide +kernel
theorem dJ5_charAt_5068e_6 : decode cJ5_charAt_5068e 6 = .ok (.getfield 15, 3) := by decide +kernel
theorem dJ5_charAt_5068e_9 : decode cJ5_charAt_5068e 9 = .ok (.astore_n 3, 1) := by decide +kernel
theorem dJ5_charAt_5068e_10 : decode cJ5_charAt_5068e 10 = .ok (.aload_n 0, 1) := by decide +kernel
theorem dJ5_charAt_5068e_11 : decode cJ5_charAt_5068e 11 = .ok (.getfield 79, 3) := by decide +kernel
theorem dJ5_charAt_5068e_14 : decode cJ5_charAt_5068e 14 = .ok (.aload_n 3, 1) := by decide +kernel
theorem dJ5_charAt_5068e_15 : decode cJ5_charAt_5068e 15 = .ok (.arraylength, 1) := by decide +kernel
theorem dJ5_charAt_5068e_16 : decode cJ5_charAt_5068e 16 = .ok (.iload_n 2, 1) := by decide +kernel
theorem dJ5_charAt_5068e_17 : decode cJ5_charAt_5068e 17 = .ok (.ishr, 1) := by decide +kernel
theorem dJ5_charAt_5068e_18 : decode cJ5_charAt_5068e 18 = .ok (.invokestatic 138, 3) := by decide +kernel
theorem dJ5_charAt_5068e_21 : decode cJ5_charAt_5068e 21 = .ok (.istore 4, 2) := by decide +kernel
theorem dJ5_charAt_5068e_23 : decode cJ5_charAt_5068e 23 = .ok (.iload_n 1, 1) := by decide +kernel
theorem dJ5_charAt_5068e_24 : decode cJ5_charAt_5068e 24 = .ok (.iload 4, 2) := by decide +kernel
theorem dJ5_charAt_5068e_26 : decode cJ5_charAt_5068e 26 = .ok (.invokestatic 144, 3) := by decide +kernel
theorem dJ5_charAt_5068e_29 : decode cJ5_charAt_5068e 29 = .ok (.iload_n 2, 1) := by decide +kernel
theorem dJ5_charAt_5068e_30 : decode cJ5_charAt_5068e 30 = .ok (.ifCond .ne 12, 3) := by decide +kernel
theorem dJ5_charAt_5068e_33 : decode cJ5_charAt_5068e 33 = .ok (.aload_n 3, 1) := by decide +kernel
theorem dJ5_charAt_5068e_34 : decode cJ5_charAt_5068e 34 = .ok (.iload_n 1, 1) := by decide +kernel
theorem dJ5_charAt_5068e_35 : decode cJ5_charAt_5068e 35 = .ok (.baload, 1) := by decide +kernel
theorem dJ5_charAt_5068e_36 : decode cJ5_charAt_5068e 36 = .ok (.sipush 255, 3) := by decide +kernel
theorem dJ5_charAt_5068e_39 : decode cJ5_charAt_5068e 39 = .ok (.iand, 1) := by decide +kernel
theorem dJ5_charAt_5068e_40 : decode cJ5_charAt_5068e 40 = .ok (.i2c, 1) := by decide +kernel
theorem dJ5_charAt_5068e_41 : decode cJ5_charAt_5068e 41 = .ok (.ireturn, 1) := by decide +kernel
theorem dJ5_charAt_5068e_42 : decode cJ5_charAt_5068e 42 = .ok (.aload_n 3, 1) := by decide +kernel
theorem dJ5_charAt_5068e_43 : decode cJ5_charAt_5068e 43 = .ok (.iload_n 1, 1) := by decide +kernel
theorem dJ5_charAt_5068e_44 : decode cJ5_charAt_5068e 44 = .ok (.invokestatic 148, 3) := by decide +kernel
theorem dJ5_charAt_5068e_47 : decode cJ5_charAt_5068e 47 = .ok (.ireturn, 1) := by decide +kernel
set_option maxRecDepth 20000 in
theorem ggJ5_append_3fe6f_J5_ensureCapacityInternal_d00df : GoodIn wsJ5_append_3fe6f wsJ5_ensureCapacityInternal_d00df := goodIn_r _ [8, 2, 9, 10, 11, 12, 13, 7, 14, 15, 16, 17, 18, 19, 20, 21, 22, 23, 24, 25, 26, 27, 28, 29, 30, 31, 32, 33, 34, 35, 36, 37, 38, 39, 40, 41, 42, 43, 44, 45, 108, 109, 110, 111] (by decide +kernel) (by decide +kernel)
set_option maxRecDepth 20000 in
theorem gJ5_append_3fe6f_J5_ensureCapacityInternal_d00df_u100J4 : GoodIn wsJ5_append_3fe6f (va_wsU RJ5 100 RJ4 "java/lang/AbstractStringBuilder" ⟨"java/lang/AbstractStringBuilder", "ensureCapacityInternal", "(I)V"⟩ yJ5_ensureCapacityInternal_d00df wsJ5_ensureCapacityInternal_d00df) := goodIn_app (goodIn_of _ (by decide +kernel)) ggJ5_append_3fe6f_J5_ensureCapacityInternal_d00df
set_option maxRecDepth 20000 in
theorem ggJ5_append_3fe6f_J5_isLatin1_aae02 : GoodIn wsJ5_append_3fe6f wsJ5_isLatin1_aae02 := goodIn_r _ [50, 51, 9, 108, 109, 110, 111] (by decide +kernel) (by decide +kernel)
set_option maxRecDepth 20000 in
theorem gJ5_append_3fe6f_J5_isLatin1_aae02_u83J4 : GoodIn wsJ5_append_3fe6f (va_wsU RJ5 83 RJ4 "java/lang/AbstractStringBuilder" ⟨"java/lang/AbstractStringBuilder", "isLatin1", "()Z"⟩ yJ5_isLatin1_aae02 wsJ5_isLatin1_aae02) := goodIn_app (goodIn_of _ (by decide +kernel)) ggJ5_append_3fe6f_J5_isLatin1_aae02
set_option maxRecDepth 20000 in
theorem ggJ5_append_3fe6f_J1_canEncode_fc78d : GoodIn wsJ5_append_3fe6f wsJ1_canEncode_fc78d := goodIn_r _ [55] (by decide +kernel) (by decide +kernel)
set_option maxRecDepth 20000 in
theorem gJ5_append_3fe6f_J1_canEncode_fc78d : GoodIn wsJ5_append_3fe6f (va_wsS RJ5 191 yJ1_canEncode_fc78d wsJ1_canEncode_fc78d) := goodIn_app (goodIn_of _ (by decide +kernel)) ggJ5_append_3fe6f_J1_canEncode_fc78d
set_option maxRecDepth 20000 in
theorem ggJ5_append_3fe6f_J5_inflate_da8c8 : GoodIn wsJ5_append_3fe6f wsJ5_inflate_da8c8 := goodIn_r _ [60, 2, 1, 9, 46, 47, 48, 49, 7, 50, 51, 61, 62, 63, 64, 38, 65, 66, 67, 68, 69, 70, 54, 71, 72, 73, 74, 75, 76, 77, 78, 79, 80, 81, 82, 83, 84, 85, 86, 87, 88, 89, 90, 91, 92, 93, 94, 95, 108, 109, 110, 111] (by decide +kernel) (by decide +kernel)
set_option maxRecDepth 20000 in
theorem gJ5_append_3fe6f_J5_inflate_da8c8_u195J4 : GoodIn wsJ5_append_3fe6f (va_wsU RJ5 195 RJ4 "java/lang/AbstractStringBuilder" ⟨"java/lang/AbstractStringBuilder", "inflate", "()V"⟩ yJ5_inflate_da8c8 wsJ5_inflate_da8c8) := goodIn_app (goodIn_of _ (by decide +kernel)) ggJ5_append_3fe6f_J5_inflate_da8c8
set_option maxRecDepth 20000 in
theorem ggJ5_append_3fe6f_J2_putCharSB_b72d1 : GoodIn wsJ5_append_3fe6f wsJ2_putCharSB_b72d1 := goodIn_r _ [98, 99, 100, 63, 101, 78, 79, 80, 102, 103, 83, 104, 85, 105, 106, 88, 107, 90, 91, 92, 93, 94, 95] (by decide +kernel) (by decide +kernel)
set_option maxRecDepth 20000 in
theorem gJ5_append_3fe6f_J2_putCharSB_b72d1 : GoodIn wsJ5_append_3fe6f (va_wsS RJ5 197 yJ2_putCharSB_b72d1 wsJ2_putCharSB_b72d1) := goodIn_app (goodIn_of _ (by decide +kernel)) ggJ5_append_3fe6f_J2_putCharSB_b72d1
theorem dJ5_append_3fe6f_0 : decode cJ5_append_3fe6f 0 = .ok (.aload_n 0, 1) := by decide +kernel
theorem dJ5_append_3fe6f_1 : decode cJ5_append_3fe6f 1 = .ok (.aload_n 0, 1) := by decide +kernel
theorem dJ5_append_3fe6f_2 : decode cJ5_append_3fe6f 2 = .ok (.getfield 79, 3) := by decide +kernel
theorem dJ5_append_3fe6f_5 : decode cJ5_append_3fe6f 5 = .ok (.iconst 1, 1) := by decide +kernel
theorem dJ5_append_3fe6f_6 : decode cJ5_append_3fe6f 6 = .ok (.iadd, 1) := by decide +kernel
theorem dJ5_append_3fe6f_7 : decode cJ5_append_3fe6f 7 = .ok (.invokevirtual 100, 3) := by decide +kernel
theorem dJ5_append_3fe6f_10 : decode cJ5_append_3fe6f 10 = .ok (.aload_n 0, 1) := by decide +kernel
theorem dJ5_append_3fe6f_11 : decode cJ5_append_3fe6f 11 = .ok (.invokevirtual 83, 3) := by decide +kernel
theorem dJ5_append_3fe6f_14 : decode cJ5_append_3fe6f 14 = .ok (.ifCond .eq 31, 3) := by decide +kernel
theorem dJ5_append_3fe6f_17 : decode cJ5_append_3fe6f 17 = .ok (.iload_n 1, 1) := by decide +kernel
theorem dJ5_append_3fe6f_18 : decode cJ5_append_3fe6f 18 = .ok (.invokestatic 191, 3) := by decide +kernel
theorem dJ5_append_3fe6f_21 : decode cJ5_append_3fe6f 21 = .ok (.ifCond .eq 24, 3) := by decide +kernel
theorem dJ5_append_3fe6f_24 : decode cJ5_append_3fe6f 24 = .ok (.aload_n 0, 1) := by decide +kernel
theorem dJ5_append_3fe6f_25 : decode cJ5_append_3fe6f 25 = .ok (.getfield 15, 3) := by decide +kernel
theorem dJ5_append_3fe6f_28 : decode cJ5_append_3fe6f 28 = .ok (.aload_n 0, 1) := by decide +kernel
theorem dJ5_append_3fe6f_29 : decode cJ5_append_3fe6f 29 = .ok (.dup, 1) := by decide +kernel
theorem dJ5_append_3fe6f_30 : decode cJ5_append_3fe6f 30 = .ok (.getfield 79, 3) := by decide +kernel
theorem dJ5_append_3fe6f_33 : decode cJ5_append_3fe6f 33 = .ok (.dup_x1, 1) := by decide +kernel
theorem dJ5_append_3fe6f_34 : decode cJ5_append_3fe6f 34 = .ok (.iconst 1, 1) := by decide +kernel
theorem dJ5_append_3fe6f_35 : decode cJ5_append_3fe6f 35 = .ok (.iadd, 1) := by decide +kernel
theorem dJ5_append_3fe6f_36 : decode cJ5_append_3fe6f 36 = .ok (.putfield 79, 3) := by decide +kernel
theorem dJ5_append_3fe6f_39 : decode cJ5_append_3fe6f 39 = .ok (.iload_n 1, 1) := by decide +kernel
theorem dJ5_append_3fe6f_40 : decode cJ5_append_3fe6f 40 = .ok (.i2b, 1) := by decide +kernel
theorem dJ5_append_3fe6f_41 : decode cJ5_append_3fe6f 41 = .ok (.bastore, 1) := by decide +kernel
theorem dJ5_append_3fe6f_42 : decode cJ5_append_3fe6f 42 = .ok (.goto 33, 3) := by decide +kernel
theorem dJ5_append_3fe6f_45 : decode cJ5_append_3fe6f 45 = .ok (.aload_n 0, 1) := by decide +kernel
theorem dJ5_append_3fe6f_46 : decode cJ5_append_3fe6f 46 = .ok (.invokevirtual 83, 3) := by decide +kernel
theorem dJ5_append_3fe6f_49 : decode cJ5_append_3fe6f 49 = .ok (.ifCond .eq 7, 3) := by decide +kernel
theorem dJ5_append_3fe6f_52 : decode cJ5_append_3fe6f 52 = .ok (.aload_n 0, 1) := by decide +kernel
theorem dJ5_append_3fe6f_53 : decode cJ5_append_3fe6f 53 = .ok (.invokevirtual 195, 3) := by decide +kernel
theorem dJ5_append_3fe6f_56 : decode cJ5_append_3fe6f 56 = .ok (.aload_n 0, 1) := by decide +kernel
theorem dJ5_append_3fe6f_57 : decode cJ5_append_3fe6f 57 = .ok (.getfield 15, 3) := by decide +kernel
theorem dJ5_append_3fe6f_60 : decode cJ5_append_3fe6f 60 = .ok (.aload_n 0, 1) := by decide +kernel
theorem dJ5_append_3fe6f_61 : decode cJ5_append_3fe6f 61 = .ok (.dup, 1) := by decide +kernel
theorem dJ5_append_3fe6f_62 : decode cJ5_append_3fe6f 62 = .ok (.getfield 79, 3) := by decide +kernel
theorem dJ5_append_3fe6f_65 : decode cJ5_append_3fe6f 65 = .ok (.dup_x1, 1) := by decide +kernel
theorem dJ5_append_3fe6f_66 : decode cJ5_append_3fe6f 66 = .ok (.iconst 1, 1) := by decide +kernel
theorem dJ5_append_3fe6f_67 : decode cJ5_append_3fe6f 67 = .ok (.iadd, 1) := by decide +kernel
theorem dJ5_append_3fe6f_68 : decode cJ5_append_3fe6f 68 = .ok (.putfield 79, 3) := by decide +kernel
theorem dJ5_append_3fe6f_71 : decode cJ5_append_3fe6f 71 = .ok (.iload_n 1, 1) := by decide +kernel
theorem dJ5_append_3fe6f_72 : decode cJ5_append_3fe6f 72 = .ok (.invokestatic 197, 3) := by decide +kernel
theorem dJ5_append_3fe6f_75 : decode cJ5_append_3fe6f 75 = .ok (.aload_n 0, 1) := by decide +kernel
theorem dJ5_append_3fe6f_76 : decode cJ5_append_3fe6f 76 = .ok (.areturn, 1) := by decide +kernel
set_option maxRecDepth 20000 in
theorem ggJ5_append_c97b9_J6_stringSize_0f7a4 : GoodIn wsJ5_append_c97b9 wsJ6_stringSize_0f7a4 := goodIn_r _ [6] (by decide +kernel) (by decide +kernel)
set_option maxRecDepth 20000 in
theorem gJ5_append_c97b9_J6_stringSize_0f7a4 : GoodIn wsJ5_append_c97b9 (va_wsS RJ5 245 yJ6_stringSize_0f7a4 wsJ6_stringSize_0f7a4) := goodIn_app (goodIn_of _ (by decide +kernel)) ggJ5_append_c97b9_J6_stringSize_0f7a4
set_option maxRecDepth 20000 in
theorem ggJ5_append_c97b9_J5_ensureCapacityInternal_d00df : GoodIn wsJ5_append_c97b9 wsJ5_ensureCapacityInternal_d00df := goodIn_r _ [12, 2, 13, 14, 15, 16, 17, 11, 18, 19, 20, 21, 22, 23, 24, 25, 26, 27, 28, 29, 30, 31, 32, 33, 34, 35, 36, 37, 38, 39, 40, 41, 42, 43, 44, 45, 46, 47, 48, 49, 91, 92, 93, 94] (by decide +kernel) (by decide +kernel)
set_option maxRecDepth 20000 in
theorem gJ5_append_c97b9_J5_ensureCapacityInternal_d00df_u100J4 : GoodIn wsJ5_append_c97b9 (va_wsU RJ5 100 RJ4 "java/lang/AbstractStringBuilder" ⟨"java/lang/AbstractStringBuilder", "ensureCapacityInternal", "(I)V"⟩ yJ5_ensureCapacityInternal_d00df wsJ5_ensureCapacityInternal_d00df) := goodIn_app (goodIn_of _ (by decide +kernel)) ggJ5_append_c97b9_J5_ensureCapacityInternal_d00df
set_option maxRecDepth 20000 in
theorem ggJ5_append_c97b9_J5_isLatin1_aae02 : GoodIn wsJ5_append_c97b9 wsJ5_isLatin1_aae02 := goodIn_r _ [54, 55, 13, 91, 92, 93, 94] (by decide +kernel) (by decide +kernel)
set_option maxRecDepth 20000 in
theorem gJ5_append_c97b9_J5_isLatin1_aae02_u83J4 : GoodIn wsJ5_append_c97b9 (va_wsU RJ5 83 RJ4 "java/lang/AbstractStringBuilder" ⟨"java/lang/AbstractStringBuilder", "isLatin1", "()Z"⟩ yJ5_isLatin1_aae02 wsJ5_isLatin1_aae02) := goodIn_app (goodIn_of _ (by decide +kernel)) ggJ5_append_c97b9_J5_isLatin1_aae02
set_option maxRecDepth 20000 in
theorem ggJ5_append_c97b9_J6_getChars_ba4f3 : GoodIn wsJ5_append_c97b9 wsJ6_getChars_ba4f3 := goodIn_r _ [58, 59, 60] (by decide +kernel) (by decide +kernel)
set_option maxRecDepth 20000 in
theorem gJ5_append_c97b9_J6_getChars_ba4f3 : GoodIn wsJ5_append_c97b9 (va_wsS RJ5 248 yJ6_getChars_ba4f3 wsJ6_getChars_ba4f3) := goodIn_app (goodIn_of _ (by decide +kernel)) ggJ5_append_c97b9_J6_getChars_ba4f3
set_option maxRecDepth 20000 in
theorem ggJ5_append_c97b9_J2_getChars_46870 : GoodIn wsJ5_append_c97b9 wsJ2_getChars_46870 := goodIn_r _ [64, 65, 66, 67, 63, 68, 69, 70, 71, 72, 73, 74, 75, 76, 77, 78, 79, 80, 81, 82, 83, 84, 85, 86, 87, 88, 89, 90] (by decide +kernel) (by decide +kernel)
set_option maxRecDepth 20000 in
theorem gJ5_append_c97b9_J2_getChars_46870 : GoodIn wsJ5_append_c97b9 (va_wsS RJ5 251 yJ2_getChars_46870 wsJ2_getChars_46870) := goodIn_app (goodIn_of _ (by decide +kernel)) ggJ5_append_c97b9_J2_getChars_46870
theorem dJ5_append_c97b9_0 : decode cJ5_append_c97b9 0 = .ok (.aload_n 0, 1) := by decide +kernel
theorem dJ5_append_c97b9_1 : decode cJ5_append_c97b9 1 = .ok (.getfield 79, 3) := by decide +kernel
theorem dJ5_append_c97b9_4 : decode cJ5_append_c97b9 4 = .ok (.istore_n 2, 1) := by decide +kernel
theorem dJ5_append_c97b9_5 : decode cJ5_append_c97b9 5 = .ok (.iload_n 2, 1) := by decide +kernel
theorem dJ5_append_c97b9_6 : decode cJ5_append_c97b9 6 = .ok (.iload_n 1, 1) := by decide +kernel
theorem dJ5_append_c97b9_7 : decode cJ5_append_c97b9 7 = .ok (.invokestatic 245, 3) := by decide +kernel
theorem dJ5_append_c97b9_10 : decode cJ5_append_c97b9 10 = .ok (.iadd, 1) := by decide +kernel
theorem dJ5_append_c97b9_11 : decode cJ5_append_c97b9 11 = .ok (.istore_n 3, 1) := by decide +kernel
theorem dJ5_append_c97b9_12 : decode cJ5_append_c97b9 12 = .ok (.aload_n 0, 1) := by decide +kernel
theorem dJ5_append_c97b9_13 : decode cJ5_append_c97b9 13 = .ok (.iload_n 3, 1) := by decide +kernel
theorem dJ5_append_c97b9_14 : decode cJ5_append_c97b9 14 = .ok (.invokevirtual 100, 3) := by decide +kernel
theorem dJ5_append_c97b9_17 : decode cJ5_append_c97b9 17 = .ok (.aload_n 0, 1) := by decide +kernel
theorem dJ5_append_c97b9_18 : decode cJ5_append_c97b9 18 = .ok (.invokevirtual 83, 3) := by decide +kernel
theorem dJ5_append_c97b9_21 : decode cJ5_append_c97b9 21 = .ok (.ifCond .eq 16, 3) := by decide +kernel
theorem dJ5_append_c97b9_24 : decode cJ5_append_c97b9 24 = .ok (.iload_n 1, 1) := by decide +kernel
theorem dJ5_append_c97b9_25 : decode cJ5_append_c97b9 25 = .ok (.iload_n 3, 1) := by decide +kernel
theorem dJ5_append_c97b9_26 : decode cJ5_append_c97b9 26 = .ok (.aload_n 0, 1) := by decide +kernel
theorem dJ5_append_c97b9_27 : decode cJ5_append_c97b9 27 = .ok (.getfield 15, 3) := by decide +kernel
theorem dJ5_append_c97b9_30 : decode cJ5_append_c97b9 30 = .ok (.invokestatic 248, 3) := by decide +kernel
theorem dJ5_append_c97b9_33 : decode cJ5_append_c97b9 33 = .ok (.pop, 1) := by decide +kernel
theorem dJ5_append_c97b9_34 : decode cJ5_append_c97b9 34 = .ok (.goto 14, 3) := by decide +kernel
theorem dJ5_append_c97b9_37 : decode cJ5_append_c97b9 37 = .ok (.iload_n 1, 1) := by decide +kernel
theorem dJ5_append_c97b9_38 : decode cJ5_append_c97b9 38 = .ok (.iload_n 2, 1) := by decide +kernel
theorem dJ5_append_c97b9_39 : decode cJ5_append_c97b9 39 = .ok (.iload_n 3, 1) := by decide +kernel
theorem dJ5_append_c97b9_40 : decode cJ5_append_c97b9 40 = .ok (.aload_n 0, 1) := by decide +kernel
theorem dJ5_append_c97b9_41 : decode cJ5_append_c97b9 41 = .ok (.getfield 15, 3) := by decide +kernel
theorem dJ5_append_c97b9_44 : decode cJ5_append_c97b9 44 = .ok (.invokestatic 251, 3) := by decide +kernel
theorem dJ5_append_c97b9_47 : decode cJ5_append_c97b9 47 = .ok (.pop, 1) := by decide +kernel
theorem dJ5_append_c97b9_48 : decode cJ5_append_c97b9 48 = .ok (.aload_n 0, 1) := by decide +kernel
theorem dJ5_append_c97b9_49 : decode cJ5_append_c97b9 49 = .ok (.iload_n 3, 1) := by decide +kernel
theorem dJ5_append_c97b9_50 : decode cJ5_append_c97b9 50 = .ok (.putfield 79, 3) := by decide +kernel
theorem dJ5_append_c97b9_53 : decode cJ5_append_c97b9 53 = .ok (.aload_n 0, 1) := by decide +kernel
theorem dJ5_append_c97b9_54 : decode cJ5_append_c97b9 54 = .ok (.areturn, 1) := by decide +kernel
theorem dJ5_isLatin1_aae02_0 : decode cJ5_isLatin1_aae02 0 = .ok (.getstatic 18, 3) := by decide +kernel
theorem dJ5_isLatin1_aae02_3 : decode cJ5_isLatin1_aae02 3 = .ok (.ifCond .eq 14, 3) := by decide +kernel
theorem dJ5_isLatin1_aae02_6 : decode cJ5_isLatin1_aae02 6 = .ok (.aload_n 0, 1) := by decide +kernel
theorem dJ5_isLatin1_aae02_7 : decode cJ5_isLatin1_aae02 7 = .ok (.getfield 22, 3) := by decide +kernel
theorem dJ5_isLatin1_aae02_10 : decode cJ5_isLatin1_aae02 10 = .ok (.ifCond .ne 7, 3) := by decide +kernel
theorem dJ5_isLatin1_aae02_13 : decode cJ5_isLatin1_aae02 13 = .ok (.iconst 1, 1) := by decide +kernel
theorem dJ5_isLatin1_aae02_14 : decode cJ5_isLatin1_aae02 14 = .ok (.goto 4, 3) := by decide +kernel
theorem dJ5_isLatin1_aae02_17 : decode cJ5_isLatin1_aae02 17 = .ok (.iconst 0, 1) := by decide +kernel
theorem dJ5_isLatin1_aae02_18 : decode cJ5_isLatin1_aae02 18 = .ok (.ireturn, 1) := by decide +kernel
theorem dJ6_getChars_ba4f3_0 : decode cJ6_getChars_ba4f3 0 = .ok (.iload_n 1, 1) := by decide +kernel
theorem dJ6_getChars_ba4f3_1 : decode cJ6_getChars_ba4f3 1 = .ok (.istore 5, 2) := by decide +kernel
theorem dJ6_getChars_ba4f3_3 : decode cJ6_getChars_ba4f3 3 = .ok (.iload_n 0, 1) := by decide +kernel
theorem dJ6_getChars_ba4f3_4 : decode cJ6_getChars_ba4f3 4 = .ok (.ifCond .ge 7, 3) := by decide +kernel
theorem dJ6_getChars_ba4f3_7 : decode cJ6_getChars_ba4f3 7 = .ok (.iconst 1, 1) := by decide +kernel
theorem dJ6_getChars_ba4f3_8 : decode cJ6_getChars_ba4f3 8 = .ok (.goto 4, 3) := by decide +kernel
theorem dJ6_getChars_ba4f3_11 : decode cJ6_getChars_ba4f3 11 = .ok (.iconst 0, 1) := by decide +kernel
theorem dJ6_getChars_ba4f3_12 : decode cJ6_getChars_ba4f3 12 = .ok (.istore 6, 2) := by decide +kernel
theorem dJ6_getChars_ba4f3_14 : decode cJ6_getChars_ba4f3 14 = .ok (.iload 6, 2) := by decide +kernel
theorem dJ6_getChars_ba4f3_16 : decode cJ6_getChars_ba4f3 16 = .ok (.ifCond .ne 6, 3) := by decide +kernel
theorem dJ6_getChars_ba4f3_19 : decode cJ6_getChars_ba4f3 19 = .ok (.iload_n 0, 1) := by decide +kernel
theorem dJ6_getChars_ba4f3_20 : decode cJ6_getChars_ba4f3 20 = .ok (.ineg, 1) := by decide +kernel
theorem dJ6_getChars_ba4f3_21 : decode cJ6_getChars_ba4f3 21 = .ok (.istore_n 0, 1) := by decide +kernel
theorem dJ6_getChars_ba4f3_22 : decode cJ6_getChars_ba4f3 22 = .ok (.iload_n 0, 1) := by decide +kernel
theorem dJ6_getChars_ba4f3_23 : decode cJ6_getChars_ba4f3 23 = .ok (.bipush (-100), 2) := by decide +kernel
theorem dJ6_getChars_ba4f3_25 : decode cJ6_getChars_ba4f3 25 = .ok (.if_icmp .gt 47, 3) := by decide +kernel
theorem dJ6_getChars_ba4f3_28 : decode cJ6_getChars_ba4f3 28 = .ok (.iload_n 0, 1) := by decide +kernel
theorem dJ6_getChars_ba4f3_29 : decode cJ6_getChars_ba4f3 29 = .ok (.bipush 100, 2) := by decide +kernel
theorem dJ6_getChars_ba4f3_31 : decode cJ6_getChars_ba4f3 31 = .ok (.idiv, 1) := by decide +kernel
theorem dJ6_getChars_ba4f3_32 : decode cJ6_getChars_ba4f3 32 = .ok (.istore_n 3, 1) := by decide +kernel
theorem dJ6_getChars_ba4f3_33 : decode cJ6_getChars_ba4f3 33 = .ok (.iload_n 3, 1) := by decide +kernel
theorem dJ6_getChars_ba4f3_34 : decode cJ6_getChars_ba4f3 34 = .ok (.bipush 100, 2) := by decide +kernel
theorem dJ6_getChars_ba4f3_36 : decode cJ6_getChars_ba4f3 36 = .ok (.imul, 1) := by decide +kernel
theorem dJ6_getChars_ba4f3_37 : decode cJ6_getChars_ba4f3 37 = .ok (.iload_n 0, 1) := by decide +kernel
theorem dJ6_getChars_ba4f3_38 : decode cJ6_getChars_ba4f3 38 = .ok (.isub, 1) := by decide +kernel
theorem dJ6_getChars_ba4f3_39 : decode cJ6_getChars_ba4f3 39 = .ok (.istore 4, 2) := by decide +kernel
theorem dJ6_getChars_ba4f3_41 : decode cJ6_getChars_ba4f3 41 = .ok (.iload_n 3, 1) := by decide +kernel
theorem dJ6_getChars_ba4f3_42 : decode cJ6_getChars_ba4f3 42 = .ok (.istore_n 0, 1) := by decide +kernel
theorem dJ6_getChars_ba4f3_43 : decode cJ6_getChars_ba4f3 43 = .ok (.aload_n 2, 1) := by decide +kernel
theorem dJ6_getChars_ba4f3_44 : decode cJ6_getChars_ba4f3 44 = .ok (.iinc 5 (-1), 3) := by decide +kernel
theorem dJ6_getChars_ba4f3_47 : decode cJ6_getChars_ba4f3 47 = .ok (.iload 5, 2) := by decide +kernel
theorem dJ6_getChars_ba4f3_49 : decode cJ6_getChars_ba4f3 49 = .ok (.getstatic 83, 3) := by decide +kernel
theorem dJ6_getChars_ba4f3_52 : decode cJ6_getChars_ba4f3 52 = .ok (.iload 4, 2) := by decide +kernel
theorem dJ6_getChars_ba4f3_54 : decode cJ6_getChars_ba4f3 54 = .ok (.baload, 1) := by decide +kernel
theorem dJ6_getChars_ba4f3_55 : decode cJ6_getChars_ba4f3 55 = .ok (.bastore, 1) := by decide +kernel
theorem dJ6_getChars_ba4f3_56 : decode cJ6_getChars_ba4f3 56 = .ok (.aload_n 2, 1) := by decide +kernel
theorem dJ6_getChars_ba4f3_57 : decode cJ6_getChars_ba4f3 57 = .ok (.iinc 5 (-1), 3) := by decide +kernel
theorem dJ6_getChars_ba4f3_60 : decode cJ6_getChars_ba4f3 60 = .ok (.iload 5, 2) := by decide +kernel
theorem dJ6_getChars_ba4f3_62 : decode cJ6_getChars_ba4f3 62 = .ok (.getstatic 87, 3) := by decide +kernel
theorem dJ6_getChars_ba4f3_65 : decode cJ6_getChars_ba4f3 65 = .ok (.iload 4, 2) := by decide +kernel
theorem dJ6_getChars_ba4f3_67 : decode cJ6_getChars_ba4f3 67 = .ok (.baload, 1) := by decide +kernel
theorem dJ6_getChars_ba4f3_68 : decode cJ6_getChars_ba4f3 68 = .ok (.bastore, 1) := by decide +kernel
theorem dJ6_getChars_ba4f3_69 : decode cJ6_getChars_ba4f3 69 = .ok (.goto (-47), 3) := by decide +kernel
theorem dJ6_getChars_ba4f3_72 : decode cJ6_getChars_ba4f3 72 = .ok (.aload_n 2, 1) := by decide +kernel
theorem dJ6_getChars_ba4f3_73 : decode cJ6_getChars_ba4f3 73 = .ok (.iinc 5 (-1), 3) := by decide +kernel
theorem dJ6_getChars_ba4f3_76 : decode cJ6_getChars_ba4f3 76 = .ok (.iload 5, 2) := by decide +kernel
theorem dJ6_getChars_ba4f3_78 : decode cJ6_getChars_ba4f3 78 = .ok (.getstatic 83, 3) := by decide +kernel
theorem dJ6_getChars_ba4f3_81 : decode cJ6_getChars_ba4f3 81 = .ok (.iload_n 0, 1) := by decide +kernel
theorem dJ6_getChars_ba4f3_82 : decode cJ6_getChars_ba4f3 82 = .ok (.ineg, 1) := by decide +kernel
theorem dJ6_getChars_ba4f3_83 : decode cJ6_getChars_ba4f3 83 = .ok (.baload, 1) := by decide +kernel
theorem dJ6_getChars_ba4f3_84 : decode cJ6_getChars_ba4f3 84 = .ok (.bastore, 1) := by decide +kernel
theorem dJ6_getChars_ba4f3_85 : decode cJ6_getChars_ba4f3 85 = .ok (.iload_n 0, 1) := by decide +kernel
theorem dJ6_getChars_ba4f3_86 : decode cJ6_getChars_ba4f3 86 = .ok (.bipush (-9), 2) := by decide +kernel
theorem dJ6_getChars_ba4f3_88 : decode cJ6_getChars_ba4f3 88 = .ok (.if_icmp .ge 16, 3) := by decide +kernel
theorem dJ6_getChars_ba4f3_91 : decode cJ6_getChars_ba4f3 91 = .ok (.aload_n 2, 1) := by decide +kernel
theorem dJ6_getChars_ba4f3_92 : decode cJ6_getChars_ba4f3 92 = .ok (.iinc 5 (-1), 3) := by decide +kernel
theorem dJ6_getChars_ba4f3_95 : decode cJ6_getChars_ba4f3 95 = .ok (.iload 5, 2) := by decide +kernel
theorem dJ6_getChars_ba4f3_97 : decode cJ6_getChars_ba4f3 97 = .ok (.getstatic 87, 3) := by decide +kernel
theorem dJ6_getChars_ba4f3_100 : decode cJ6_getChars_ba4f3 100 = .ok (.iload_n 0, 1) := by decide +kernel
theorem dJ6_getChars_ba4f3_101 : decode cJ6_getChars_ba4f3 101 = .ok (.ineg, 1) := by decide +kernel
theorem dJ6_getChars_ba4f3_102 : decode cJ6_getChars_ba4f3 102 = .ok (.baload, 1) := by decide +kernel
theorem dJ6_getChars_ba4f3_103 : decode cJ6_getChars_ba4f3 103 = .ok (.bastore, 1) := by decide +kernel
theorem dJ6_getChars_ba4f3_104 : decode cJ6_getChars_ba4f3 104 = .ok (.iload 6, 2) := by decide +kernel
theorem dJ6_getChars_ba4f3_106 : decode cJ6_getChars_ba4f3 106 = .ok (.ifCond .eq 12, 3) := by decide +kernel
theorem dJ6_getChars_ba4f3_109 : decode cJ6_getChars_ba4f3 109 = .ok (.aload_n 2, 1) := by decide +kernel
theorem dJ6_getChars_ba4f3_110 : decode cJ6_getChars_ba4f3 110 = .ok (.iinc 5 (-1), 3) := by decide +kernel
theorem dJ6_getChars_ba4f3_113 : decode cJ6_getChars_ba4f3 113 = .ok (.iload 5, 2) := by decide +kernel
theorem dJ6_getChars_ba4f3_115 : decode cJ6_getChars_ba4f3 115 = .ok (.bipush 45, 2) := by decide +kernel
theorem dJ6_getChars_ba4f3_117 : decode cJ6_getChars_ba4f3 117 = .ok (.bastore, 1) := by decide +kernel
theorem dJ6_getChars_ba4f3_118 : decode cJ6_getChars_ba4f3 118 = .ok (.iload 5, 2) := by decide +kernel
theorem dJ6_getChars_ba4f3_120 : decode cJ6_getChars_ba4f3 120 = .ok (.ireturn, 1) := by decide +kernel
theorem dJ6_stringSize_0f7a4_0 : decode cJ6_stringSize_0f7a4 0 = .ok (.iconst 1, 1) := by decide +kernel
theorem dJ6_stringSize_0f7a4_1 : decode cJ6_stringSize_0f7a4 1 = .ok (.istore_n 1, 1) := by decide +kernel
theorem dJ6_stringSize_0f7a4_2 : decode cJ6_stringSize_0f7a4 2 = .ok (.iload_n 0, 1) := by decide +kernel
theorem dJ6_stringSize_0f7a4_3 : decode cJ6_stringSize_0f7a4 3 = .ok (.ifCond .lt 8, 3) := by decide +kernel
theorem dJ6_stringSize_0f7a4_6 : decode cJ6_stringSize_0f7a4 6 = .ok (.iconst 0, 1) := by decide +kernel
theorem dJ6_stringSize_0f7a4_7 : decode cJ6_stringSize_0f7a4 7 = .ok (.istore_n 1, 1) := by decide +kernel
theorem dJ6_stringSize_0f7a4_8 : decode cJ6_stringSize_0f7a4 8 = .ok (.iload_n 0, 1) := by decide +kernel
theorem dJ6_stringSize_0f7a4_9 : decode cJ6_stringSize_0f7a4 9 = .ok (.ineg, 1) := by decide +kernel
theorem dJ6_stringSize_0f7a4_10 : decode cJ6_stringSize_0f7a4 10 = .ok (.istore_n 0, 1) := by decide +kernel
theorem dJ6_stringSize_0f7a4_11 : decode cJ6_stringSize_0f7a4 11 = .ok (.bipush (-10), 2) := by decide +kernel
theorem dJ6_stringSize_0f7a4_13 : decode cJ6_stringSize_0f7a4 13 = .ok (.istore_n 2, 1) := by decide +kernel
theorem dJ6_stringSize_0f7a4_14 : decode cJ6_stringSize_0f7a4 14 = .ok (.iconst 1, 1) := by decide +kernel
theorem dJ6_stringSize_0f7a4_15 : decode cJ6_stringSize_0f7a4 15 = .ok (.istore_n 3, 1) := by decide +kernel
theorem dJ6_stringSize_0f7a4_16 : decode cJ6_stringSize_0f7a4 16 = .ok (.iload_n 3, 1) := by decide +kernel
theorem dJ6_stringSize_0f7a4_17 : decode cJ6_stringSize_0f7a4 17 = .ok (.bipush 10, 2) := by decide +kernel
theorem dJ6_stringSize_0f7a4_19 : decode cJ6_stringSize_0f7a4 19 = .ok (.if_icmp .ge 23, 3) := by decide +kernel
theorem dJ6_stringSize_0f7a4_22 : decode cJ6_stringSize_0f7a4 22 = .ok (.iload_n 0, 1) := by decide +kernel
theorem dJ6_stringSize_0f7a4_23 : decode cJ6_stringSize_0f7a4 23 = .ok (.iload_n 2, 1) := by decide +kernel
theorem dJ6_stringSize_0f7a4_24 : decode cJ6_stringSize_0f7a4 24 = .ok (.if_icmp .le 7, 3) := by decide +kernel
theorem dJ6_stringSize_0f7a4_27 : decode cJ6_stringSize_0f7a4 27 = .ok (.iload_n 3, 1) := by decide +kernel
theorem dJ6_stringSize_0f7a4_28 : decode cJ6_stringSize_0f7a4 28 = .ok (.iload_n 1, 1) := by decide +kernel
theorem dJ6_stringSize_0f7a4_29 : decode cJ6_stringSize_0f7a4 29 = .ok (.iadd, 1) := by decide +kernel
theorem dJ6_stringSize_0f7a4_30 : decode cJ6_stringSize_0f7a4 30 = .ok (.ireturn, 1) := by decide +kernel
theorem dJ6_stringSize_0f7a4_31 : decode cJ6_stringSize_0f7a4 31 = .ok (.bipush 10, 2) := by decide +kernel
theorem dJ6_stringSize_0f7a4_33 : decode cJ6_stringSize_0f7a4 33 = .ok (.iload_n 2, 1) := by decide +kernel
theorem dJ6_stringSize_0f7a4_34 : decode cJ6_stringSize_0f7a4 34 = .ok (.imul, 1) := by decide +kernel
theorem dJ6_stringSize_0f7a4_35 : decode cJ6_stringSize_0f7a4 35 = .ok (.istore_n 2, 1) := by decide +kernel
theorem dJ6_stringSize_0f7a4_36 : decode cJ6_stringSize_0f7a4 36 = .ok (.iinc 3 1, 3) := by decide +kernel
theorem dJ6_stringSize_0f7a4_39 : decode cJ6_stringSize_0f7a4 39 = .ok (.goto (-23), 3) := by decide +kernel
theorem dJ6_stringSize_0f7a4_42 : decode cJ6_stringSize_0f7a4 42 = .ok (.bipush 10, 2) := by decide +kernel
theorem dJ6_stringSize_0f7a4_44 : decode cJ6_stringSize_0f7a4 44 = .ok (.iload_n 1, 1) := by decide +kernel
theorem dJ6_stringSize_0f7a4_45 : decode cJ6_stringSize_0f7a4 45 = .ok (.iadd, 1) := by decide +kernel
theorem dJ6_stringSize_0f7a4_46 : decode cJ6_stringSize_0f7a4 46 = .ok (.ireturn, 1) := by decide +kernel
theorem dJ6_bitCount_0f7a4_0 : decode cJ6_bitCount_0f7a4 0 = .ok (.iload_n 0, 1) := by decide +kernel
theorem dJ6_bitCount_0f7a4_1 : decode cJ6_bitCount_0f7a4 1 = .ok (.iload_n 0, 1) := by decide +kernel
theorem dJ6_bitCount_0f7a4_2 : decode cJ6_bitCount_0f7a4 2 = .ok (.iconst 1, 1) := by decide +kernel
theorem dJ6_bitCount_0f7a4_3 : decode cJ6_bitCount_0f7a4 3 = .ok (.iushr, 1) := by decide +kernel
theorem dJ6_bitCount_0f7a4_4 : decode cJ6_bitCount_0f7a4 4 = .ok (.ldc_w 265, 3) := by decide +kernel
theorem dJ6_bitCount_0f7a4_7 : decode cJ6_bitCount_0f7a4 7 = .ok (.iand, 1) := by decide +kernel
theorem dJ6_bitCount_0f7a4_8 : decode cJ6_bitCount_0f7a4 8 = .ok (.isub, 1) := by decide +kernel
theorem dJ6_bitCount_0f7a4_9 : decode cJ6_bitCount_0f7a4 9 = .ok (.istore_n 0, 1) := by decide +kernel
theorem dJ6_bitCount_0f7a4_10 : decode cJ6_bitCount_0f7a4 10 = .ok (.iload_n 0, 1) := by decide +kernel
theorem dJ6_bitCount_0f7a4_11 : decode cJ6_bitCount_0f7a4 11 = .ok (.ldc_w 266, 3) := by decide +kernel
theorem dJ6_bitCount_0f7a4_14 : decode cJ6_bitCount_0f7a4 14 = .ok (.iand, 1) := by decide +kernel
theorem dJ6_bitCount_0f7a4_15 : decode cJ6_bitCount_0f7a4 15 = .ok (.iload_n 0, 1) := by decide +kernel
theorem dJ6_bitCount_0f7a4_16 : decode cJ6_bitCount_0f7a4 16 = .ok (.iconst 2, 1) := by decide +kernel
theorem dJ6_bitCount_0f7a4_17 : decode cJ6_bitCount_0f7a4 17 = .ok (.iushr, 1) := by decide +kernel
theorem dJ6_bitCount_0f7a4_18 : decode cJ6_bitCount_0f7a4 18 = .ok (.ldc_w 266, 3) := by decide +kernel
theorem dJ6_bitCount_0f7a4_21 : decode cJ6_bitCount_0f7a4 21 = .ok (.iand, 1) := by decide +kernel
theorem dJ6_bitCount_0f7a4_22 : decode cJ6_bitCount_0f7a4 22 = .ok (.iadd, 1) := by decide +kernel
theorem dJ6_bitCount_0f7a4_23 : decode cJ6_bitCount_0f7a4 23 = .ok (.istore_n 0, 1) := by decide +kernel
theorem dJ6_bitCount_0f7a4_24 : decode cJ6_bitCount_0f7a4 24 = .ok (.iload_n 0, 1) := by decide +kernel
theorem dJ6_bitCount_0f7a4_25 : decode cJ6_bitCount_0f7a4 25 = .ok (.iload_n 0, 1) := by decide +kernel
theorem dJ6_bitCount_0f7a4_26 : decode cJ6_bitCount_0f7a4 26 = .ok (.iconst 4, 1) := by decide +kernel
theorem dJ6_bitCount_0f7a4_27 : decode cJ6_bitCount_0f7a4 27 = .ok (.iushr, 1) := by decide +kernel
theorem dJ6_bitCount_0f7a4_28 : decode cJ6_bitCount_0f7a4 28 = .ok (.iadd, 1) := by decide +kernel
theorem dJ6_bitCount_0f7a4_29 : decode cJ6_bitCount_0f7a4 29 = .ok (.ldc_w 267, 3) := by decide +kernel
theorem dJ6_bitCount_0f7a4_32 : decode cJ6_bitCount_0f7a4 32 = .ok (.iand, 1) := by decide +kernel
theorem dJ6_bitCount_0f7a4_33 : decode cJ6_bitCount_0f7a4 33 = .ok (.istore_n 0, 1) := by decide +kernel
theorem dJ6_bitCount_0f7a4_34 : decode cJ6_bitCount_0f7a4 34 = .ok (.iload_n 0, 1) := by decide +kernel
theorem dJ6_bitCount_0f7a4_35 : decode cJ6_bitCount_0f7a4 35 = .ok (.iload_n 0, 1) := by decide +kernel
theorem dJ6_bitCount_0f7a4_36 : decode cJ6_bitCount_0f7a4 36 = .ok (.bipush 8, 2) := by decide +kernel
theorem dJ6_bitCount_0f7a4_38 : decode cJ6_bitCount_0f7a4 38 = .ok (.iushr, 1) := by decide +kernel
theorem dJ6_bitCount_0f7a4_39 : decode cJ6_bitCount_0f7a4 39 = .ok (.iadd, 1) := by decide +kernel
theorem dJ6_bitCount_0f7a4_40 : decode cJ6_bitCount_0f7a4 40 = .ok (.istore_n 0, 1) := by decide +kernel
theorem dJ6_bitCount_0f7a4_41 : decode cJ6_bitCount_0f7a4 41 = .ok (.iload_n 0, 1) := by decide +kernel
theorem dJ6_bitCount_0f7a4_42 : decode cJ6_bitCount_0f7a4 42 = .ok (.iload_n 0, 1) := by decide +kernel
theorem dJ6_bitCount_0f7a4_43 : decode cJ6_bitCount_0f7a4 43 = .ok (.bipush 16, 2) := by decide +kernel
theorem dJ6_bitCount_0f7a4_45 : decode cJ6_bitCount_0f7a4 45 = .ok (.iushr, 1) := by decide +kernel
theorem dJ6_bitCount_0f7a4_46 : decode cJ6_bitCount_0f7a4 46 = .ok (.iadd, 1) := by decide +kernel
theorem dJ6_bitCount_0f7a4_47 : decode cJ6_bitCount_0f7a4 47 = .ok (.istore_n 0, 1) := by decide +kernel
theorem dJ6_bitCount_0f7a4_48 : decode cJ6_bitCount_0f7a4 48 = .ok (.iload_n 0, 1) := by decide +kernel
theorem dJ6_bitCount_0f7a4_49 : decode cJ6_bitCount_0f7a4 49 = .ok (.bipush 63, 2) := by decide +kernel
theorem dJ6_bitCount_0f7a4_51 : decode cJ6_bitCount_0f7a4 51 = .ok (.iand, 1) := by decide +kernel
theorem dJ6_bitCount_0f7a4_52 : decode cJ6_bitCount_0f7a4 52 = .ok (.ireturn, 1) := by decide +kernel
theorem dJ9_max_7cf53_0 : decode cJ9_max_7cf53 0 = .ok (.iload_n 0, 1) := by decide +kernel
theorem dJ9_max_7cf53_1 : decode cJ9_max_7cf53 1 = .ok (.iload_n 1, 1) := by decide +kernel
theorem dJ9_max_7cf53_2 : decode cJ9_max_7cf53 2 = .ok (.if_icmp .lt 7, 3) := by decide +kernel
theorem dJ9_max_7cf53_5 : decode cJ9_max_7cf53 5 = .ok (.iload_n 0, 1) := by decide +kernel
theorem dJ9_max_7cf53_6 : decode cJ9_max_7cf53 6 = .ok (.goto 4, 3) := by decide +kernel
theorem dJ9_max_7cf53_9 : decode cJ9_max_7cf53 9 = .ok (.iload_n 1, 1) := by decide +kernel
theorem dJ9_max_7cf53_10 : decode cJ9_max_7cf53 10 = .ok (.ireturn, 1) := by decide +kernel
theorem dJ9_min_7cf53_0 : decode cJ9_min_7cf53 0 = .ok (.iload_n 0, 1) := by decide +kernel
theorem dJ9_min_7cf53_1 : decode cJ9_min_7cf53 1 = .ok (.iload_n 1, 1) := by decide +kernel
theorem dJ9_min_7cf53_2 : decode cJ9_min_7cf53 2 = .ok (.if_icmp .gt 7, 3) := by decide +kernel
theorem dJ9_min_7cf53_5 : decode cJ9_min_7cf53 5 = .ok (.iload_n 0, 1) := by decide +kernel
theorem dJ9_min_7cf53_6 : decode cJ9_min_7cf53 6 = .ok (.goto 4, 3) := by decide +kernel
theorem dJ9_min_7cf53_9 : decode cJ9_min_7cf53 9 = .ok (.iload_n 1, 1) := by decide +kernel
theorem dJ9_min_7cf53_10 : decode cJ9_min_7cf53 10 = .ok (.ireturn, 1) := by decide +kernel
set_option maxRecDepth 20000 in
theorem ggJ0_checkIndex_df160_J3_checkIndex_8e157 : GoodIn wsJ0_checkIndex_df160 wsJ3_checkIndex_8e157 := goodIn_r _ [5] (by decide +kernel) (by decide +kernel)
set_option maxRecDepth 20000 in
theorem gJ0_checkIndex_df160_J3_checkIndex_8e157 : GoodIn wsJ0_checkIndex_df160 (va_wsS RJ0 1059 yJ3_checkIndex_8e157 wsJ3_checkIndex_8e157) := goodIn_app (goodIn_of _ (by decide +kernel)) ggJ0_checkIndex_df160_J3_checkIndex_8e157
theorem dJ0_checkIndex_df160_0 : decode cJ0_checkIndex_df160 0 = .ok (.iload_n 0, 1) := by decide +kernel
theorem dJ0_checkIndex_df160_1 : decode cJ0_checkIndex_df160 1 = .ok (.iload_n 1, 1) := by decide +kernel
theorem dJ0_checkIndex_df160_2 : decode cJ0_checkIndex_df160 2 = .ok (.getstatic 1053, 3) := by decide +kernel
theorem dJ0_checkIndex_df160_5 : decode cJ0_checkIndex_df160 5 = .ok (.invokestatic 1059, 3) := by decide +kernel
theorem dJ0_checkIndex_df160_8 : decode cJ0_checkIndex_df160 8 = .ok (.pop, 1) := by decide +kernel
theorem dJ0_checkIndex_df160_9 : decode cJ0_checkIndex_df160 9 = .ok (.return_, 1) := by decide +kernel
set_option maxRecDepth 20000 in
theorem ggJ0_checkBoundsOffCount_cabcc_J3_checkFromIndexSize_8c36e : GoodIn wsJ0_checkBoundsOffCount_cabcc wsJ3_checkFromIndexSize_8c36e := goodIn_r _ [5] (by decide +kernel) (by decide +kernel)
set_option maxRecDepth 20000 in
theorem gJ0_checkBoundsOffCount_cabcc_J3_checkFromIndexSize_8c36e : GoodIn wsJ0_checkBoundsOffCount_cabcc (va_wsS RJ0 1065 yJ3_checkFromIndexSize_8c36e wsJ3_checkFromIndexSize_8c36e) := goodIn_app (goodIn_of _ (by decide +kernel)) ggJ0_checkBoundsOffCount_cabcc_J3_checkFromIndexSize_8c36e
theorem dJ0_checkBoundsOffCount_cabcc_0 : decode cJ0_checkBoundsOffCount_cabcc 0 = .ok (.iload_n 0, 1) := by decide +kernel
theorem dJ0_checkBoundsOffCount_cabcc_1 : decode cJ0_checkBoundsOffCount_cabcc 1 = .ok (.iload_n 1, 1) := by decide +kernel
theorem dJ0_checkBoundsOffCount_cabcc_2 : decode cJ0_checkBoundsOffCount_cabcc 2 = .ok (.iload_n 2, 1) := by decide +kernel
theorem dJ0_checkBoundsOffCount_cabcc_3 : decode cJ0_checkBoundsOffCount_cabcc 3 = .ok (.getstatic 1053, 3) := by decide +kernel
theorem dJ0_checkBoundsOffCount_cabcc_6 : decode cJ0_checkBoundsOffCount_cabcc 6 = .ok (.invokestatic 1065, 3) := by decide +kernel
theorem dJ0_checkBoundsOffCount_cabcc_9 : decode cJ0_checkBoundsOffCount_cabcc 9 = .ok (.ireturn, 1) := by decide +kernel
set_option maxRecDepth 20000 in
theorem ggJ0_checkBoundsBeginEnd_23922_J3_checkFromToIndex_8c36e : GoodIn wsJ0_checkBoundsBeginEnd_23922 wsJ3_checkFromToIndex_8c36e := goodIn_r _ [5] (by decide +kernel) (by decide +kernel)
set_option maxRecDepth 20000 in
theorem gJ0_checkBoundsBeginEnd_23922_J3_checkFromToIndex_8c36e : GoodIn wsJ0_checkBoundsBeginEnd_23922 (va_wsS RJ0 1062 yJ3_checkFromToIndex_8c36e wsJ3_checkFromToIndex_8c36e) := goodIn_app (goodIn_of _ (by decide +kernel)) ggJ0_checkBoundsBeginEnd_23922_J3_checkFromToIndex_8c36e
theorem dJ0_checkBoundsBeginEnd_23922_0 : decode cJ0_checkBoundsBeginEnd_23922 0 = .ok (.iload_n 0, 1) := by decide +kernel
theorem dJ0_checkBoundsBeginEnd_23922_1 : decode cJ0_checkBoundsBeginEnd_23922 1 = .ok (.iload_n 1, 1) := by decide +kernel
theorem dJ0_checkBoundsBeginEnd_23922_2 : decode cJ0_checkBoundsBeginEnd_23922 2 = .ok (.iload_n 2, 1) := by decide +kernel
theorem dJ0_checkBoundsBeginEnd_23922_3 : decode cJ0_checkBoundsBeginEnd_23922 3 = .ok (.getstatic 1053, 3) := by decide +kernel
theorem dJ0_checkBoundsBeginEnd_23922_6 : decode cJ0_checkBoundsBeginEnd_23922 6 = .ok (.invokestatic 1062, 3) := by decide +kernel
theorem dJ0_checkBoundsBeginEnd_23922_9 : decode cJ0_checkBoundsBeginEnd_23922 9 = .ok (.pop, 1) := by decide +kernel
theorem dJ0_checkBoundsBeginEnd_23922_10 : decode cJ0_checkBoundsBeginEnd_23922 10 = .ok (.return_, 1) := by decide +kernel
set_option maxRecDepth 20000 in
theorem ggJ4_init_da8c8_J5_init_d00df : GoodIn wsJ4_init_da8c8 wsJ5_init_d00df := goodIn_r _ [4, 5, 6, 7, 8, 9, 10, 11, 12, 13, 14, 15, 16, 17, 18, 19, 20, 21, 22, 23] (by decide +kernel) (by decide +kernel)
set_option maxRecDepth 20000 in
theorem gJ4_init_da8c8_J5_init_d00df : GoodIn wsJ4_init_da8c8 (wsJ5_init_d00df) := ggJ4_init_da8c8_J5_init_d00df
theorem dJ4_init_da8c8_0 : decode cJ4_init_da8c8 0 = .ok (.aload_n 0, 1) := by decide +kernel
theorem dJ4_init_da8c8_1 : decode cJ4_init_da8c8 1 = .ok (.bipush 16, 2) := by decide +kernel
theorem dJ4_init_da8c8_3 : decode cJ4_init_da8c8 3 = .ok (.invokespecial 1, 3) := by decide +kernel
theorem dJ4_init_da8c8_6 : decode cJ4_init_da8c8 6 = .ok (.return_, 1) := by decide +kernel
set_option maxRecDepth 20000 in
theorem ggJ4_append_cf468_J5_append_3fe6f : GoodIn wsJ4_append_cf468 wsJ5_append_3fe6f := goodIn_r _ [6, 7, 8, 9, 10, 11, 12, 5, 13, 14, 15, 16, 17, 18, 19, 20, 21, 22, 23, 24, 25, 26, 27, 28, 29, 30, 31, 32, 33, 34, 35, 36, 37, 38, 39, 40, 41, 42, 43, 44, 45, 46, 47, 48, 49, 50, 51, 52, 53, 54, 55, 56, 57, 58, 59, 60, 61, 62, 63, 64, 65, 66, 67, 68, 69, 70, 71, 72, 73, 74, 75, 76, 77, 78, 79, 80, 81, 82, 83, 84, 85, 86, 87, 88, 89, 90, 91, 92, 93, 94, 95, 96, 97, 98, 99, 100, 101, 102, 103, 104, 105, 106, 107, 108, 109, 110, 111, 112, 113, 114, 115, 116] (by decide +kernel) (by decide +kernel)
set_option maxRecDepth 20000 in
theorem gJ4_append_cf468_J5_append_3fe6f_s50 : GoodIn wsJ4_append_cf468 (va_wsSU RJ4 50 yJ5_append_3fe6f wsJ5_append_3fe6f) := goodIn_app (goodIn_of _ (by decide +kernel)) ggJ4_append_cf468_J5_append_3fe6f
theorem dJ4_append_cf468_0 : decode cJ4_append_cf468 0 = .ok (.aload_n 0, 1) := by decide +kernel
theorem dJ4_append_cf468_1 : decode cJ4_append_cf468 1 = .ok (.iload_n 1, 1) := by decide +kernel
theorem dJ4_append_cf468_2 : decode cJ4_append_cf468 2 = .ok (.invokespecial 50, 3) := by decide +kernel
theorem dJ4_append_cf468_5 : decode cJ4_append_cf468 5 = .ok (.pop, 1) := by decide +kernel
theorem dJ4_append_cf468_6 : decode cJ4_append_cf468 6 = .ok (.aload_n 0, 1) := by decide +kernel
theorem dJ4_append_cf468_7 : decode cJ4_append_cf468 7 = .ok (.areturn, 1) := by decide +kernel
set_option maxRecDepth 20000 in
theorem ggJ4_append_bf812_J5_append_c97b9 : GoodIn wsJ4_append_bf812 wsJ5_append_c97b9 := goodIn_r _ [6, 7, 8, 9, 10, 11, 12, 13, 14, 15, 16, 5, 17, 18, 19, 20, 21, 22, 23, 24, 25, 26, 27, 28, 29, 30, 31, 32, 33, 34, 35, 36, 37, 38, 39, 40, 41, 42, 43, 44, 45, 46, 47, 48, 49, 50, 51, 52, 53, 54, 55, 56, 57, 58, 59, 60, 61, 62, 63, 64, 65, 66, 67, 68, 69, 70, 71, 72, 73, 74, 75, 76, 77, 78, 79, 80, 81, 82, 83, 84, 85, 86, 87, 88, 89, 90, 91, 92, 93, 94, 95, 96, 97, 98, 99] (by decide +kernel) (by decide +kernel)
set_option maxRecDepth 20000 in
theorem gJ4_append_bf812_J5_append_c97b9_s53 : GoodIn wsJ4_append_bf812 (va_wsSU RJ4 53 yJ5_append_c97b9 wsJ5_append_c97b9) := goodIn_app (goodIn_of _ (by decide +kernel)) ggJ4_append_bf812_J5_append_c97b9
theorem dJ4_append_bf812_0 : decode cJ4_append_bf812 0 = .ok (.aload_n 0, 1) := by decide +kernel
theorem dJ4_append_bf812_1 : decode cJ4_append_bf812 1 = .ok (.iload_n 1, 1) := by decide +kernel
theorem dJ4_append_bf812_2 : decode cJ4_append_bf812 2 = .ok (.invokespecial 53, 3) := by decide +kernel
theorem dJ4_append_bf812_5 : decode cJ4_append_bf812 5 = .ok (.pop, 1) := by decide +kernel
theorem dJ4_append_bf812_6 : decode cJ4_append_bf812 6 = .ok (.aload_n 0, 1) := by decide +kernel
theorem dJ4_append_bf812_7 : decode cJ4_append_bf812 7 = .ok (.areturn, 1) := by decide +kernel
set_option maxRecDepth 20000 in
theorem ggJ4_charAt_5068e_J5_charAt_5068e : GoodIn wsJ4_charAt_5068e wsJ5_charAt_5068e := goodIn_r _ [6, 7, 8, 9, 10, 11, 12, 13, 14, 15, 16, 17, 18, 19, 20, 21, 22, 23, 24, 25, 26, 27, 28, 29, 30, 31, 32, 33, 34, 35, 36] (by decide +kernel) (by decide +kernel)
set_option maxRecDepth 20000 in
theorem gJ4_charAt_5068e_J5_charAt_5068e_s329 : GoodIn wsJ4_charAt_5068e (va_wsSU RJ4 329 yJ5_charAt_5068e wsJ5_charAt_5068e) := goodIn_app (goodIn_of _ (by decide +kernel)) ggJ4_charAt_5068e_J5_charAt_5068e
theorem dJ4_charAt_5068e_0 : decode cJ4_charAt_5068e 0 = .ok (.aload_n 0, 1) := by decide +kernel
theorem dJ4_charAt_5068e_1 : decode cJ4_charAt_5068e 1 = .ok (.iload_n 1, 1) := by decide +kernel
theorem dJ4_charAt_5068e_2 : decode cJ4_charAt_5068e 2 = .ok (.invokespecial 329, 3) := by decide +kernel
theorem dJ4_charAt_5068e_5 : decode cJ4_charAt_5068e 5 = .ok (.ireturn, 1) := by decide +kernel
set_option maxRecDepth 20000 in
theorem ggJ4_length_8abf5_J5_length_8abf5 : GoodIn wsJ4_length_8abf5 wsJ5_length_8abf5 := goodIn_r _ [6, 7, 8, 9, 10, 11] (by decide +kernel) (by decide +kernel)
set_option maxRecDepth 20000 in
theorem gJ4_length_8abf5_J5_length_8abf5_s343 : GoodIn wsJ4_length_8abf5 (va_wsSU RJ4 343 yJ5_length_8abf5 wsJ5_length_8abf5) := goodIn_app (goodIn_of _ (by decide +kernel)) ggJ4_length_8abf5_J5_length_8abf5
theorem dJ4_length_8abf5_0 : decode cJ4_length_8abf5 0 = .ok (.aload_n 0, 1) := by decide +kernel
theorem dJ4_length_8abf5_1 : decode cJ4_length_8abf5 1 = .ok (.invokespecial 343, 3) := by decide +kernel
theorem dJ4_length_8abf5_4 : decode cJ4_length_8abf5 4 = .ok (.ireturn, 1) := by decide +kernel
theorem dJ1_canEncode_fc78d_0 : decode cJ1_canEncode_fc78d 0 = .ok (.iload_n 0, 1) := by decide +kernel
theorem dJ1_canEncode_fc78d_1 : decode cJ1_canEncode_fc78d 1 = .ok (.sipush 255, 3) := by decide +kernel
theorem dJ1_canEncode_fc78d_4 : decode cJ1_canEncode_fc78d 4 = .ok (.if_icmp .gt 7, 3) := by decide +kernel
theorem dJ1_canEncode_fc78d_7 : decode cJ1_canEncode_fc78d 7 = .ok (.iconst 1, 1) := by decide +kernel
theorem dJ1_canEncode_fc78d_8 : decode cJ1_canEncode_fc78d 8 = .ok (.goto 4, 3) := by decide +kernel
theorem dJ1_canEncode_fc78d_11 : decode cJ1_canEncode_fc78d 11 = .ok (.iconst 0, 1) := by decide +kernel
theorem dJ1_canEncode_fc78d_12 : decode cJ1_canEncode_fc78d 12 = .ok (.ireturn, 1) := by decide +kernel
set_option maxRecDepth 20000 in
theorem ggJ1_inflate_0e8fd_J2_inflate_0e8fd : GoodIn wsJ1_inflate_0e8fd wsJ2_inflate_0e8fd := goodIn_r _ [4, 5, 6, 3, 7, 8, 9, 10, 11, 12, 13, 14, 15, 16, 17, 18, 19, 20, 21, 22, 23, 24, 25] (by decide +kernel) (by decide +kernel)
set_option maxRecDepth 20000 in
theorem gJ1_inflate_0e8fd_J2_inflate_0e8fd : GoodIn wsJ1_inflate_0e8fd (va_wsS RJ1 240 yJ2_inflate_0e8fd wsJ2_inflate_0e8fd) := goodIn_app (goodIn_of _ (by decide +kernel)) ggJ1_inflate_0e8fd_J2_inflate_0e8fd
theorem dJ1_inflate_0e8fd_0 : decode cJ1_inflate_0e8fd 0 = .ok (.aload_n 0, 1) := by decide +kernel
theorem dJ1_inflate_0e8fd_1 : decode cJ1_inflate_0e8fd 1 = .ok (.iload_n 1, 1) := by decide +kernel
theorem dJ1_inflate_0e8fd_2 : decode cJ1_inflate_0e8fd 2 = .ok (.aload_n 2, 1) := by decide +kernel
theorem dJ1_inflate_0e8fd_3 : decode cJ1_inflate_0e8fd 3 = .ok (.iload_n 3, 1) := by decide +kernel
theorem dJ1_inflate_0e8fd_4 : decode cJ1_inflate_0e8fd 4 = .ok (.iload 4, 2) := by decide +kernel
theorem dJ1_inflate_0e8fd_6 : decode cJ1_inflate_0e8fd 6 = .ok (.invokestatic 240, 3) := by decide +kernel
theorem dJ1_inflate_0e8fd_9 : decode cJ1_inflate_0e8fd 9 = .ok (.return_, 1) := by decide +kernel
set_option maxRecDepth 20000 in
theorem ggJ2_newBytesFor_77867_J2_newBytesLength_0f7a4 : GoodIn wsJ2_newBytesFor_77867 wsJ2_newBytesLength_0f7a4 := goodIn_r _ [5, 6] (by decide +kernel) (by decide +kernel)
set_option maxRecDepth 20000 in
theorem gJ2_newBytesFor_77867_J2_newBytesLength_0f7a4 : GoodIn wsJ2_newBytesFor_77867 (va_wsS RJ2 11 yJ2_newBytesLength_0f7a4 wsJ2_newBytesLength_0f7a4) := goodIn_app (goodIn_of _ (by decide +kernel)) ggJ2_newBytesFor_77867_J2_newBytesLength_0f7a4
theorem dJ2_newBytesFor_77867_0 : decode cJ2_newBytesFor_77867 0 = .ok (.iload_n 0, 1) := by decide +kernel
theorem dJ2_newBytesFor_77867_1 : decode cJ2_newBytesFor_77867 1 = .ok (.invokestatic 11, 3) := by decide +kernel
theorem dJ2_newBytesFor_77867_4 : decode cJ2_newBytesFor_77867 4 = .ok (.newarray .byte, 2) := by decide +kernel
theorem dJ2_newBytesFor_77867_6 : decode cJ2_newBytesFor_77867 6 = .ok (.areturn, 1) := by decide +kernel
theorem dJ2_newBytesLength_0f7a4_0 : decode cJ2_newBytesLength_0f7a4 0 = .ok (.iload_n 0, 1) := by decide +kernel
theorem dJ2_newBytesLength_0f7a4_1 : decode cJ2_newBytesLength_0f7a4 1 = .ok (.ifCond .ge 11, 3) := by decide +kernel
theorem dJ2_newBytesLength_0f7a4_4 : decode cJ2_newBytesLength_0f7a4 4 = .ok (.new 17, 3) := by decide +kernel
theorem dJ2_newBytesLength_0f7a4_7 : decode cJ2_newBytesLength_0f7a4 7 = .ok (.dup, 1) := by decide +kernel
theorem dJ2_newBytesLength_0f7a4_8 : decode cJ2_newBytesLength_0f7a4 8 = .ok (.invokespecial 19, 3) := by decide +kernel
theorem dJ2_newBytesLength_0f7a4_11 : decode cJ2_newBytesLength_0f7a4 11 = .ok (.athrow, 1) := by decide +kernel
theorem dJ2_newBytesLength_0f7a4_12 : decode cJ2_newBytesLength_0f7a4 12 = .ok (.iload_n 0, 1) := by decide +kernel
theorem dJ2_newBytesLength_0f7a4_13 : decode cJ2_newBytesLength_0f7a4 13 = .ok (.ldc 20, 2) := by decide +kernel
theorem dJ2_newBytesLength_0f7a4_15 : decode cJ2_newBytesLength_0f7a4 15 = .ok (.if_icmp .lt 40, 3) := by decide +kernel
theorem dJ2_newBytesLength_0f7a4_18 : decode cJ2_newBytesLength_0f7a4 18 = .ok (.new 21, 3) := by decide +kernel
theorem dJ2_newBytesLength_0f7a4_21 : decode cJ2_newBytesLength_0f7a4 21 = .ok (.dup, 1) := by decide +kernel
theorem dJ2_newBytesLength_0f7a4_22 : decode cJ2_newBytesLength_0f7a4 22 = .ok (.new 23, 3) := by decide +kernel
theorem dJ2_newBytesLength_0f7a4_25 : decode cJ2_newBytesLength_0f7a4 25 = .ok (.dup, 1) := by decide +kernel
theorem dJ2_newBytesLength_0f7a4_26 : decode cJ2_newBytesLength_0f7a4 26 = .ok (.invokespecial 25, 3) := by decide +kernel
theorem dJ2_newBytesLength_0f7a4_29 : decode cJ2_newBytesLength_0f7a4 29 = .ok (.ldc 26, 2) := by decide +kernel
theorem dJ2_newBytesLength_0f7a4_31 : decode cJ2_newBytesLength_0f7a4 31 = .ok (.invokevirtual 28, 3) := by decide +kernel
theorem dJ2_newBytesLength_0f7a4_34 : decode cJ2_newBytesLength_0f7a4 34 = .ok (.iload_n 0, 1) := by decide +kernel
theorem dJ2_newBytesLength_0f7a4_35 : decode cJ2_newBytesLength_0f7a4 35 = .ok (.invokevirtual 32, 3) := by decide +kernel
theorem dJ2_newBytesLength_0f7a4_38 : decode cJ2_newBytesLength_0f7a4 38 = .ok (.ldc 35, 2) := by decide +kernel
theorem dJ2_newBytesLength_0f7a4_40 : decode cJ2_newBytesLength_0f7a4 40 = .ok (.invokevirtual 28, 3) := by decide +kernel
theorem dJ2_newBytesLength_0f7a4_43 : decode cJ2_newBytesLength_0f7a4 43 = .ok (.ldc 20, 2) := by decide +kernel
theorem dJ2_newBytesLength_0f7a4_45 : decode cJ2_newBytesLength_0f7a4 45 = .ok (.invokevirtual 32, 3) := by decide +kernel
theorem dJ2_newBytesLength_0f7a4_48 : decode cJ2_newBytesLength_0f7a4 48 = .ok (.invokevirtual 37, 3) := by decide +kernel
theorem dJ2_newBytesLength_0f7a4_51 : decode cJ2_newBytesLength_0f7a4 51 = .ok (.invokespecial 41, 3) := by decide +kernel
theorem dJ2_newBytesLength_0f7a4_54 : decode cJ2_newBytesLength_0f7a4 54 = .ok (.athrow, 1) := by decide +kernel
theorem dJ2_newBytesLength_0f7a4_55 : decode cJ2_newBytesLength_0f7a4 55 = .ok (.iload_n 0, 1) := by decide +kernel
theorem dJ2_newBytesLength_0f7a4_56 : decode cJ2_newBytesLength_0f7a4 56 = .ok (.iconst 1, 1) := by decide +kernel
theorem dJ2_newBytesLength_0f7a4_57 : decode cJ2_newBytesLength_0f7a4 57 = .ok (.ishl, 1) := by decide +kernel
theorem dJ2_newBytesLength_0f7a4_58 : decode cJ2_newBytesLength_0f7a4 58 = .ok (.ireturn, 1) := by decide +kernel
set_option maxRecDepth 20000 in
theorem ggJ2_putChar_b72d1_J2_length_9d52b : GoodIn wsJ2_putChar_b72d1 wsJ2_length_9d52b := goodIn_r _ [7] (by decide +kernel) (by decide +kernel)
set_option maxRecDepth 20000 in
theorem gJ2_putChar_b72d1_J2_length_9d52b : GoodIn wsJ2_putChar_b72d1 (va_wsS RJ2 48 yJ2_length_9d52b wsJ2_length_9d52b) := goodIn_app (goodIn_of _ (by decide +kernel)) ggJ2_putChar_b72d1_J2_length_9d52b
theorem dJ2_putChar_b72d1_0 : decode cJ2_putChar_b72d1 0 = .ok (.getstatic 44, 3) := by decide +kernel
theorem dJ2_putChar_b72d1_3 : decode cJ2_putChar_b72d1 3 = .ok (.ifCond .ne 25, 3) := by decide +kernel
theorem dJ2_putChar_b72d1_6 : decode cJ2_putChar_b72d1 6 = .ok (.iload_n 1, 1) := by decide +kernel
theorem dJ2_putChar_b72d1_7 : decode cJ2_putChar_b72d1 7 = .ok (.ifCond .lt 11, 3) := by decide +kernel
theorem dJ2_putChar_b72d1_10 : decode cJ2_putChar_b72d1 10 = .ok (.iload_n 1, 1) := by decide +kernel
theorem dJ2_putChar_b72d1_11 : decode cJ2_putChar_b72d1 11 = .ok (.aload_n 0, 1) := by decide +kernel
theorem dJ2_putChar_b72d1_12 : decode cJ2_putChar_b72d1 12 = .ok (.invokestatic 48, 3) := by decide +kernel
theorem dJ2_putChar_b72d1_15 : decode cJ2_putChar_b72d1 15 = .ok (.if_icmp .lt 13, 3) := by decide +kernel
theorem dJ2_putChar_b72d1_18 : decode cJ2_putChar_b72d1 18 = .ok (.new 52, 3) := by decide +kernel
theorem dJ2_putChar_b72d1_21 : decode cJ2_putChar_b72d1 21 = .ok (.dup, 1) := by decide +kernel
theorem dJ2_putChar_b72d1_22 : decode cJ2_putChar_b72d1 22 = .ok (.ldc 54, 2) := by decide +kernel
theorem dJ2_putChar_b72d1_24 : decode cJ2_putChar_b72d1 24 = .ok (.invokespecial 56, 3) := by decide +kernel
theorem dJ2_putChar_b72d1_27 : decode cJ2_putChar_b72d1 27 = .ok (.athrow, 1) := by decide +kernel
theorem dJ2_putChar_b72d1_28 : decode cJ2_putChar_b72d1 28 = .ok (.iload_n 1, 1) := by decide +kernel
theorem dJ2_putChar_b72d1_29 : decode cJ2_putChar_b72d1 29 = .ok (.iconst 1, 1) := by decide +kernel
theorem dJ2_putChar_b72d1_30 : decode cJ2_putChar_b72d1 30 = .ok (.ishl, 1) := by decide +kernel
theorem dJ2_putChar_b72d1_31 : decode cJ2_putChar_b72d1 31 = .ok (.istore_n 1, 1) := by decide +kernel
theorem dJ2_putChar_b72d1_32 : decode cJ2_putChar_b72d1 32 = .ok (.aload_n 0, 1) := by decide +kernel
theorem dJ2_putChar_b72d1_33 : decode cJ2_putChar_b72d1 33 = .ok (.iload_n 1, 1) := by decide +kernel
theorem dJ2_putChar_b72d1_34 : decode cJ2_putChar_b72d1 34 = .ok (.iinc 1 1, 3) := by decide +kernel
theorem dJ2_putChar_b72d1_37 : decode cJ2_putChar_b72d1 37 = .ok (.iload_n 2, 1) := by decide +kernel
theorem dJ2_putChar_b72d1_38 : decode cJ2_putChar_b72d1 38 = .ok (.getstatic 59, 3) := by decide +kernel
theorem dJ2_putChar_b72d1_41 : decode cJ2_putChar_b72d1 41 = .ok (.ishr, 1) := by decide +kernel
theorem dJ2_putChar_b72d1_42 : decode cJ2_putChar_b72d1 42 = .ok (.i2b, 1) := by decide +kernel
theorem dJ2_putChar_b72d1_43 : decode cJ2_putChar_b72d1 43 = .ok (.bastore, 1) := by decide +kernel
theorem dJ2_putChar_b72d1_44 : decode cJ2_putChar_b72d1 44 = .ok (.aload_n 0, 1) := by decide +kernel
theorem dJ2_putChar_b72d1_45 : decode cJ2_putChar_b72d1 45 = .ok (.iload_n 1, 1) := by decide +kernel
theorem dJ2_putChar_b72d1_46 : decode cJ2_putChar_b72d1 46 = .ok (.iload_n 2, 1) := by decide +kernel
theorem dJ2_putChar_b72d1_47 : decode cJ2_putChar_b72d1 47 = .ok (.getstatic 63, 3) := by decide +kernel
theorem dJ2_putChar_b72d1_50 : decode cJ2_putChar_b72d1 50 = .ok (.ishr, 1) := by decide +kernel
theorem dJ2_putChar_b72d1_51 : decode cJ2_putChar_b72d1 51 = .ok (.i2b, 1) := by decide +kernel
theorem dJ2_putChar_b72d1_52 : decode cJ2_putChar_b72d1 52 = .ok (.bastore, 1) := by decide +kernel
theorem dJ2_putChar_b72d1_53 : decode cJ2_putChar_b72d1 53 = .ok (.return_, 1) := by decide +kernel
set_option maxRecDepth 20000 in
theorem ggJ2_getChar_3b067_J2_length_9d52b : GoodIn wsJ2_getChar_3b067 wsJ2_length_9d52b := goodIn_r _ [7] (by decide +kernel) (by decide +kernel)
set_option maxRecDepth 20000 in
theorem gJ2_getChar_3b067_J2_length_9d52b : GoodIn wsJ2_getChar_3b067 (va_wsS RJ2 48 yJ2_length_9d52b wsJ2_length_9d52b) := goodIn_app (goodIn_of _ (by decide +kernel)) ggJ2_getChar_3b067_J2_length_9d52b
theorem dJ2_getChar_3b067_0 : decode cJ2_getChar_3b067 0 = .ok (.getstatic 44, 3) := by decide +kernel
theorem dJ2_getChar_3b067_3 : decode cJ2_getChar_3b067 3 = .ok (.ifCond .ne 25, 3) := by decide +kernel
theorem dJ2_getChar_3b067_6 : decode cJ2_getChar_3b067 6 = .ok (.iload_n 1, 1) := by decide +kernel
theorem dJ2_getChar_3b067_7 : decode cJ2_getChar_3b067 7 = .ok (.ifCond .lt 11, 3) := by decide +kernel
theorem dJ2_getChar_3b067_10 : decode cJ2_getChar_3b067 10 = .ok (.iload_n 1, 1) := by decide +kernel
theorem dJ2_getChar_3b067_11 : decode cJ2_getChar_3b067 11 = .ok (.aload_n 0, 1) := by decide +kernel
theorem dJ2_getChar_3b067_12 : decode cJ2_getChar_3b067 12 = .ok (.invokestatic 48, 3) := by decide +kernel
theorem dJ2_getChar_3b067_15 : decode cJ2_getChar_3b067 15 = .ok (.if_icmp .lt 13, 3) := by decide +kernel
theorem dJ2_getChar_3b067_18 : decode cJ2_getChar_3b067 18 = .ok (.new 52, 3) := by decide +kernel
theorem dJ2_getChar_3b067_21 : decode cJ2_getChar_3b067 21 = .ok (.dup, 1) := by decide +kernel
theorem dJ2_getChar_3b067_22 : decode cJ2_getChar_3b067 22 = .ok (.ldc 54, 2) := by decide +kernel
theorem dJ2_getChar_3b067_24 : decode cJ2_getChar_3b067 24 = .ok (.invokespecial 56, 3) := by decide +kernel
theorem dJ2_getChar_3b067_27 : decode cJ2_getChar_3b067 27 = .ok (.athrow, 1) := by decide +kernel
theorem dJ2_getChar_3b067_28 : decode cJ2_getChar_3b067 28 = .ok (.iload_n 1, 1) := by decide +kernel
theorem dJ2_getChar_3b067_29 : decode cJ2_getChar_3b067 29 = .ok (.iconst 1, 1) := by decide +kernel
theorem dJ2_getChar_3b067_30 : decode cJ2_getChar_3b067 30 = .ok (.ishl, 1) := by decide +kernel
theorem dJ2_getChar_3b067_31 : decode cJ2_getChar_3b067 31 = .ok (.istore_n 1, 1) := by decide +kernel
theorem dJ2_getChar_3b067_32 : decode cJ2_getChar_3b067 32 = .ok (.aload_n 0, 1) := by decide +kernel
theorem dJ2_getChar_3b067_33 : decode cJ2_getChar_3b067 33 = .ok (.iload_n 1, 1) := by decide +kernel
theorem dJ2_getChar_3b067_34 : decode cJ2_getChar_3b067 34 = .ok (.iinc 1 1, 3) := by decide +kernel
theorem dJ2_getChar_3b067_37 : decode cJ2_getChar_3b067 37 = .ok (.baload, 1) := by decide +kernel
theorem dJ2_getChar_3b067_38 : decode cJ2_getChar_3b067 38 = .ok (.sipush 255, 3) := by decide +kernel
theorem dJ2_getChar_3b067_41 : decode cJ2_getChar_3b067 41 = .ok (.iand, 1) := by decide +kernel
theorem dJ2_getChar_3b067_42 : decode cJ2_getChar_3b067 42 = .ok (.getstatic 59, 3) := by decide +kernel
theorem dJ2_getChar_3b067_45 : decode cJ2_getChar_3b067 45 = .ok (.ishl, 1) := by decide +kernel
theorem dJ2_getChar_3b067_46 : decode cJ2_getChar_3b067 46 = .ok (.aload_n 0, 1) := by decide +kernel
theorem dJ2_getChar_3b067_47 : decode cJ2_getChar_3b067 47 = .ok (.iload_n 1, 1) := by decide +kernel
theorem dJ2_getChar_3b067_48 : decode cJ2_getChar_3b067 48 = .ok (.baload, 1) := by decide +kernel
theorem dJ2_getChar_3b067_49 : decode cJ2_getChar_3b067 49 = .ok (.sipush 255, 3) := by decide +kernel
theorem dJ2_getChar_3b067_52 : decode cJ2_getChar_3b067 52 = .ok (.iand, 1) := by decide +kernel
theorem dJ2_getChar_3b067_53 : decode cJ2_getChar_3b067 53 = .ok (.getstatic 63, 3) := by decide +kernel
theorem dJ2_getChar_3b067_56 : decode cJ2_getChar_3b067 56 = .ok (.ishl, 1) := by decide +kernel
theorem dJ2_getChar_3b067_57 : decode cJ2_getChar_3b067 57 = .ok (.ior, 1) := by decide +kernel
theorem dJ2_getChar_3b067_58 : decode cJ2_getChar_3b067 58 = .ok (.i2c, 1) := by decide +kernel
theorem dJ2_getChar_3b067_59 : decode cJ2_getChar_3b067 59 = .ok (.ireturn, 1) := by decide +kernel
theorem dJ2_length_9d52b_0 : decode cJ2_length_9d52b 0 = .ok (.aload_n 0, 1) := by decide +kernel
theorem dJ2_length_9d52b_1 : decode cJ2_length_9d52b 1 = .ok (.arraylength, 1) := by decide +kernel
theorem dJ2_length_9d52b_2 : decode cJ2_length_9d52b 2 = .ok (.iconst 1, 1) := by decide +kernel
theorem dJ2_length_9d52b_3 : decode cJ2_length_9d52b 3 = .ok (.ishr, 1) := by decide +kernel
theorem dJ2_length_9d52b_4 : decode cJ2_length_9d52b 4 = .ok (.ireturn, 1) := by decide +kernel
set_option maxRecDepth 20000 in
theorem ggJ2_putCharSB_b72d1_J2_checkIndex_2214a : GoodIn wsJ2_putCharSB_b72d1 wsJ2_checkIndex_2214a := goodIn_r _ [4, 5, 6, 3, 7, 8, 9, 10, 11, 12, 13, 14, 15, 16] (by decide +kernel) (by decide +kernel)
set_option maxRecDepth 20000 in
theorem gJ2_putCharSB_b72d1_J2_checkIndex_2214a : GoodIn wsJ2_putCharSB_b72d1 (va_wsS RJ2 67 yJ2_checkIndex_2214a wsJ2_checkIndex_2214a) := goodIn_app (goodIn_of _ (by decide +kernel)) ggJ2_putCharSB_b72d1_J2_checkIndex_2214a
set_option maxRecDepth 20000 in
theorem ggJ2_putCharSB_b72d1_J2_putChar_b72d1 : GoodIn wsJ2_putCharSB_b72d1 wsJ2_putChar_b72d1 := goodIn_r _ [19, 20, 21, 22, 5, 6, 3, 7] (by decide +kernel) (by decide +kernel)
set_option maxRecDepth 20000 in
theorem gJ2_putCharSB_b72d1_J2_putChar_b72d1 : GoodIn wsJ2_putCharSB_b72d1 (va_wsS RJ2 111 yJ2_putChar_b72d1 wsJ2_putChar_b72d1) := goodIn_app (goodIn_of _ (by decide +kernel)) ggJ2_putCharSB_b72d1_J2_putChar_b72d1
theorem dJ2_putCharSB_b72d1_0 : decode cJ2_putCharSB_b72d1 0 = .ok (.iload_n 1, 1) := by decide +kernel
theorem dJ2_putCharSB_b72d1_1 : decode cJ2_putCharSB_b72d1 1 = .ok (.aload_n 0, 1) := by decide +kernel
theorem dJ2_putCharSB_b72d1_2 : decode cJ2_putCharSB_b72d1 2 = .ok (.invokestatic 67, 3) := by decide +kernel
theorem dJ2_putCharSB_b72d1_5 : decode cJ2_putCharSB_b72d1 5 = .ok (.aload_n 0, 1) := by decide +kernel
theorem dJ2_putCharSB_b72d1_6 : decode cJ2_putCharSB_b72d1 6 = .ok (.iload_n 1, 1) := by decide +kernel
theorem dJ2_putCharSB_b72d1_7 : decode cJ2_putCharSB_b72d1 7 = .ok (.iload_n 2, 1) := by decide +kernel
theorem dJ2_putCharSB_b72d1_8 : decode cJ2_putCharSB_b72d1 8 = .ok (.invokestatic 111, 3) := by decide +kernel
theorem dJ2_putCharSB_b72d1_11 : decode cJ2_putCharSB_b72d1 11 = .ok (.return_, 1) := by decide +kernel
set_option maxRecDepth 20000 in
theorem ggJ2_getChars_46870_J2_checkBoundsBeginEnd_d044e : GoodIn wsJ2_getChars_46870 wsJ2_checkBoundsBeginEnd_d044e := goodIn_r _ [5, 6, 7, 4, 8, 9, 10, 11, 12, 13, 14, 15, 16, 17] (by decide +kernel) (by decide +kernel)
set_option maxRecDepth 20000 in
theorem gJ2_getChars_46870_J2_checkBoundsBeginEnd_d044e : GoodIn wsJ2_getChars_46870 (va_wsS RJ2 96 yJ2_checkBoundsBeginEnd_d044e wsJ2_checkBoundsBeginEnd_d044e) := goodIn_app (goodIn_of _ (by decide +kernel)) ggJ2_getChars_46870_J2_checkBoundsBeginEnd_d044e
set_option maxRecDepth 20000 in
theorem ggJ2_getChars_46870_J2_getChars_ba4f3 : GoodIn wsJ2_getChars_46870 wsJ2_getChars_ba4f3 := goodIn_r _ [20, 21, 22, 23, 24, 4, 25, 1, 26, 27, 6, 7, 8] (by decide +kernel) (by decide +kernel)
set_option maxRecDepth 20000 in
theorem gJ2_getChars_46870_J2_getChars_ba4f3 : GoodIn wsJ2_getChars_46870 (va_wsS RJ2 393 yJ2_getChars_ba4f3 wsJ2_getChars_ba4f3) := goodIn_app (goodIn_of _ (by decide +kernel)) ggJ2_getChars_46870_J2_getChars_ba4f3
theorem dJ2_getChars_46870_0 : decode cJ2_getChars_46870 0 = .ok (.iload_n 1, 1) := by decide +kernel
theorem dJ2_getChars_46870_1 : decode cJ2_getChars_46870 1 = .ok (.iload_n 2, 1) := by decide +kernel
theorem dJ2_getChars_46870_2 : decode cJ2_getChars_46870 2 = .ok (.aload_n 3, 1) := by decide +kernel
theorem dJ2_getChars_46870_3 : decode cJ2_getChars_46870 3 = .ok (.invokestatic 96, 3) := by decide +kernel
theorem dJ2_getChars_46870_6 : decode cJ2_getChars_46870 6 = .ok (.iload_n 0, 1) := by decide +kernel
theorem dJ2_getChars_46870_7 : decode cJ2_getChars_46870 7 = .ok (.iload_n 2, 1) := by decide +kernel
theorem dJ2_getChars_46870_8 : decode cJ2_getChars_46870 8 = .ok (.aload_n 3, 1) := by decide +kernel
theorem dJ2_getChars_46870_9 : decode cJ2_getChars_46870 9 = .ok (.invokestatic 393, 3) := by decide +kernel
theorem dJ2_getChars_46870_12 : decode cJ2_getChars_46870 12 = .ok (.istore 4, 2) := by decide +kernel
theorem dJ2_getChars_46870_14 : decode cJ2_getChars_46870 14 = .ok (.getstatic 44, 3) := by decide +kernel
theorem dJ2_getChars_46870_17 : decode cJ2_getChars_46870 17 = .ok (.ifCond .ne 17, 3) := by decide +kernel
theorem dJ2_getChars_46870_20 : decode cJ2_getChars_46870 20 = .ok (.iload_n 1, 1) := by decide +kernel
theorem dJ2_getChars_46870_21 : decode cJ2_getChars_46870 21 = .ok (.iload 4, 2) := by decide +kernel
theorem dJ2_getChars_46870_23 : decode cJ2_getChars_46870 23 = .ok (.if_icmp .eq 11, 3) := by decide +kernel
theorem dJ2_getChars_46870_26 : decode cJ2_getChars_46870 26 = .ok (.new 52, 3) := by decide +kernel
theorem dJ2_getChars_46870_29 : decode cJ2_getChars_46870 29 = .ok (.dup, 1) := by decide +kernel
theorem dJ2_getChars_46870_30 : decode cJ2_getChars_46870 30 = .ok (.invokespecial 66, 3) := by decide +kernel
theorem dJ2_getChars_46870_33 : decode cJ2_getChars_46870 33 = .ok (.athrow, 1) := by decide +kernel
theorem dJ2_getChars_46870_34 : decode cJ2_getChars_46870 34 = .ok (.iload 4, 2) := by decide +kernel
theorem dJ2_getChars_46870_36 : decode cJ2_getChars_46870 36 = .ok (.ireturn, 1) := by decide +kernel
set_option maxRecDepth 20000 in
theorem ggJ2_inflate_0e8fd_J2_checkBoundsOffCount_d044e : GoodIn wsJ2_inflate_0e8fd wsJ2_checkBoundsOffCount_d044e := goodIn_r _ [4, 5, 6, 3, 7, 8, 9, 10, 11, 12, 13, 14, 15, 16] (by decide +kernel) (by decide +kernel)
set_option maxRecDepth 20000 in
theorem gJ2_inflate_0e8fd_J2_checkBoundsOffCount_d044e : GoodIn wsJ2_inflate_0e8fd (va_wsS RJ2 173 yJ2_checkBoundsOffCount_d044e wsJ2_checkBoundsOffCount_d044e) := goodIn_app (goodIn_of _ (by decide +kernel)) ggJ2_inflate_0e8fd_J2_checkBoundsOffCount_d044e
set_option maxRecDepth 20000 in
theorem ggJ2_inflate_0e8fd_J2_putChar_b72d1 : GoodIn wsJ2_inflate_0e8fd wsJ2_putChar_b72d1 := goodIn_r _ [19, 20, 21, 22, 5, 6, 3, 7] (by decide +kernel) (by decide +kernel)
set_option maxRecDepth 20000 in
theorem gJ2_inflate_0e8fd_J2_putChar_b72d1 : GoodIn wsJ2_inflate_0e8fd (va_wsS RJ2 111 yJ2_putChar_b72d1 wsJ2_putChar_b72d1) := goodIn_app (goodIn_of _ (by decide +kernel)) ggJ2_inflate_0e8fd_J2_putChar_b72d1
theorem dJ2_inflate_0e8fd_0 : decode cJ2_inflate_0e8fd 0 = .ok (.iload_n 3, 1) := by decide +kernel
theorem dJ2_inflate_0e8fd_1 : decode cJ2_inflate_0e8fd 1 = .ok (.iload 4, 2) := by decide +kernel
theorem dJ2_inflate_0e8fd_3 : decode cJ2_inflate_0e8fd 3 = .ok (.aload_n 2, 1) := by decide +kernel
theorem dJ2_inflate_0e8fd_4 : decode cJ2_inflate_0e8fd 4 = .ok (.invokestatic 173, 3) := by decide +kernel
theorem dJ2_inflate_0e8fd_7 : decode cJ2_inflate_0e8fd 7 = .ok (.iconst 0, 1) := by decide +kernel
theorem dJ2_inflate_0e8fd_8 : decode cJ2_inflate_0e8fd 8 = .ok (.istore 5, 2) := by decide +kernel
theorem dJ2_inflate_0e8fd_10 : decode cJ2_inflate_0e8fd 10 = .ok (.iload 5, 2) := by decide +kernel
theorem dJ2_inflate_0e8fd_12 : decode cJ2_inflate_0e8fd 12 = .ok (.iload 4, 2) := by decide +kernel
theorem dJ2_inflate_0e8fd_14 : decode cJ2_inflate_0e8fd 14 = .ok (.if_icmp .ge 27, 3) := by decide +kernel
theorem dJ2_inflate_0e8fd_17 : decode cJ2_inflate_0e8fd 17 = .ok (.aload_n 2, 1) := by decide +kernel
theorem dJ2_inflate_0e8fd_18 : decode cJ2_inflate_0e8fd 18 = .ok (.iload_n 3, 1) := by decide +kernel
theorem dJ2_inflate_0e8fd_19 : decode cJ2_inflate_0e8fd 19 = .ok (.iinc 3 1, 3) := by decide +kernel
theorem dJ2_inflate_0e8fd_22 : decode cJ2_inflate_0e8fd 22 = .ok (.aload_n 0, 1) := by decide +kernel
theorem dJ2_inflate_0e8fd_23 : decode cJ2_inflate_0e8fd 23 = .ok (.iload_n 1, 1) := by decide +kernel
theorem dJ2_inflate_0e8fd_24 : decode cJ2_inflate_0e8fd 24 = .ok (.iinc 1 1, 3) := by decide +kernel
theorem dJ2_inflate_0e8fd_27 : decode cJ2_inflate_0e8fd 27 = .ok (.baload, 1) := by decide +kernel
theorem dJ2_inflate_0e8fd_28 : decode cJ2_inflate_0e8fd 28 = .ok (.sipush 255, 3) := by decide +kernel
theorem dJ2_inflate_0e8fd_31 : decode cJ2_inflate_0e8fd 31 = .ok (.iand, 1) := by decide +kernel
theorem dJ2_inflate_0e8fd_32 : decode cJ2_inflate_0e8fd 32 = .ok (.invokestatic 111, 3) := by decide +kernel
theorem dJ2_inflate_0e8fd_35 : decode cJ2_inflate_0e8fd 35 = .ok (.iinc 5 1, 3) := by decide +kernel
theorem dJ2_inflate_0e8fd_38 : decode cJ2_inflate_0e8fd 38 = .ok (.goto (-28), 3) := by decide +kernel
theorem dJ2_inflate_0e8fd_41 : decode cJ2_inflate_0e8fd 41 = .ok (.return_, 1) := by decide +kernel
set_option maxRecDepth 20000 in
theorem ggJ2_getChars_ba4f3_J2_putChar_b72d1 : GoodIn wsJ2_getChars_ba4f3 wsJ2_putChar_b72d1 := goodIn_r _ [6, 7, 8, 9, 10, 11, 5, 12] (by decide +kernel) (by decide +kernel)
set_option maxRecDepth 20000 in
theorem gJ2_getChars_ba4f3_J2_putChar_b72d1 : GoodIn wsJ2_getChars_ba4f3 (va_wsS RJ2 111 yJ2_putChar_b72d1 wsJ2_putChar_b72d1) := goodIn_app (goodIn_of _ (by decide +kernel)) ggJ2_getChars_ba4f3_J2_putChar_b72d1
theorem dJ2_getChars_ba4f3_0 : decode cJ2_getChars_ba4f3 0 = .ok (.iload_n 1, 1) := by decide +kernel
theorem dJ2_getChars_ba4f3_1 : decode cJ2_getChars_ba4f3 1 = .ok (.istore 5, 2) := by decide +kernel
theorem dJ2_getChars_ba4f3_3 : decode cJ2_getChars_ba4f3 3 = .ok (.iload_n 0, 1) := by decide +kernel
theorem dJ2_getChars_ba4f3_4 : decode cJ2_getChars_ba4f3 4 = .ok (.ifCond .ge 7, 3) := by decide +kernel
theorem dJ2_getChars_ba4f3_7 : decode cJ2_getChars_ba4f3 7 = .ok (.iconst 1, 1) := by decide +kernel
theorem dJ2_getChars_ba4f3_8 : decode cJ2_getChars_ba4f3 8 = .ok (.goto 4, 3) := by decide +kernel
theorem dJ2_getChars_ba4f3_11 : decode cJ2_getChars_ba4f3 11 = .ok (.iconst 0, 1) := by decide +kernel
theorem dJ2_getChars_ba4f3_12 : decode cJ2_getChars_ba4f3 12 = .ok (.istore 6, 2) := by decide +kernel
theorem dJ2_getChars_ba4f3_14 : decode cJ2_getChars_ba4f3 14 = .ok (.iload 6, 2) := by decide +kernel
theorem dJ2_getChars_ba4f3_16 : decode cJ2_getChars_ba4f3 16 = .ok (.ifCond .ne 6, 3) := by decide +kernel
theorem dJ2_getChars_ba4f3_19 : decode cJ2_getChars_ba4f3 19 = .ok (.iload_n 0, 1) := by decide +kernel
theorem dJ2_getChars_ba4f3_20 : decode cJ2_getChars_ba4f3 20 = .ok (.ineg, 1) := by decide +kernel
theorem dJ2_getChars_ba4f3_21 : decode cJ2_getChars_ba4f3 21 = .ok (.istore_n 0, 1) := by decide +kernel
theorem dJ2_getChars_ba4f3_22 : decode cJ2_getChars_ba4f3 22 = .ok (.iload_n 0, 1) := by decide +kernel
theorem dJ2_getChars_ba4f3_23 : decode cJ2_getChars_ba4f3 23 = .ok (.bipush (-100), 2) := by decide +kernel
theorem dJ2_getChars_ba4f3_25 : decode cJ2_getChars_ba4f3 25 = .ok (.if_icmp .gt 51, 3) := by decide +kernel
theorem dJ2_getChars_ba4f3_28 : decode cJ2_getChars_ba4f3 28 = .ok (.iload_n 0, 1) := by decide +kernel
theorem dJ2_getChars_ba4f3_29 : decode cJ2_getChars_ba4f3 29 = .ok (.bipush 100, 2) := by decide +kernel
theorem dJ2_getChars_ba4f3_31 : decode cJ2_getChars_ba4f3 31 = .ok (.idiv, 1) := by decide +kernel
theorem dJ2_getChars_ba4f3_32 : decode cJ2_getChars_ba4f3 32 = .ok (.istore_n 3, 1) := by decide +kernel
theorem dJ2_getChars_ba4f3_33 : decode cJ2_getChars_ba4f3 33 = .ok (.iload_n 3, 1) := by decide +kernel
theorem dJ2_getChars_ba4f3_34 : decode cJ2_getChars_ba4f3 34 = .ok (.bipush 100, 2) := by decide +kernel
theorem dJ2_getChars_ba4f3_36 : decode cJ2_getChars_ba4f3 36 = .ok (.imul, 1) := by decide +kernel
theorem dJ2_getChars_ba4f3_37 : decode cJ2_getChars_ba4f3 37 = .ok (.iload_n 0, 1) := by decide +kernel
theorem dJ2_getChars_ba4f3_38 : decode cJ2_getChars_ba4f3 38 = .ok (.isub, 1) := by decide +kernel
theorem dJ2_getChars_ba4f3_39 : decode cJ2_getChars_ba4f3 39 = .ok (.istore 4, 2) := by decide +kernel
theorem dJ2_getChars_ba4f3_41 : decode cJ2_getChars_ba4f3 41 = .ok (.iload_n 3, 1) := by decide +kernel
theorem dJ2_getChars_ba4f3_42 : decode cJ2_getChars_ba4f3 42 = .ok (.istore_n 0, 1) := by decide +kernel
theorem dJ2_getChars_ba4f3_43 : decode cJ2_getChars_ba4f3 43 = .ok (.aload_n 2, 1) := by decide +kernel
theorem dJ2_getChars_ba4f3_44 : decode cJ2_getChars_ba4f3 44 = .ok (.iinc 5 (-1), 3) := by decide +kernel
theorem dJ2_getChars_ba4f3_47 : decode cJ2_getChars_ba4f3 47 = .ok (.iload 5, 2) := by decide +kernel
theorem dJ2_getChars_ba4f3_49 : decode cJ2_getChars_ba4f3 49 = .ok (.getstatic 403, 3) := by decide +kernel
theorem dJ2_getChars_ba4f3_52 : decode cJ2_getChars_ba4f3 52 = .ok (.iload 4, 2) := by decide +kernel
theorem dJ2_getChars_ba4f3_54 : decode cJ2_getChars_ba4f3 54 = .ok (.baload, 1) := by decide +kernel
theorem dJ2_getChars_ba4f3_55 : decode cJ2_getChars_ba4f3 55 = .ok (.invokestatic 111, 3) := by decide +kernel
theorem dJ2_getChars_ba4f3_58 : decode cJ2_getChars_ba4f3 58 = .ok (.aload_n 2, 1) := by decide +kernel
theorem dJ2_getChars_ba4f3_59 : decode cJ2_getChars_ba4f3 59 = .ok (.iinc 5 (-1), 3) := by decide +kernel
theorem dJ2_getChars_ba4f3_62 : decode cJ2_getChars_ba4f3 62 = .ok (.iload 5, 2) := by decide +kernel
theorem dJ2_getChars_ba4f3_64 : decode cJ2_getChars_ba4f3 64 = .ok (.getstatic 407, 3) := by decide +kernel
theorem dJ2_getChars_ba4f3_67 : decode cJ2_getChars_ba4f3 67 = .ok (.iload 4, 2) := by decide +kernel
theorem dJ2_getChars_ba4f3_69 : decode cJ2_getChars_ba4f3 69 = .ok (.baload, 1) := by decide +kernel
theorem dJ2_getChars_ba4f3_70 : decode cJ2_getChars_ba4f3 70 = .ok (.invokestatic 111, 3) := by decide +kernel
theorem dJ2_getChars_ba4f3_73 : decode cJ2_getChars_ba4f3 73 = .ok (.goto (-51), 3) := by decide +kernel
theorem dJ2_getChars_ba4f3_76 : decode cJ2_getChars_ba4f3 76 = .ok (.aload_n 2, 1) := by decide +kernel
theorem dJ2_getChars_ba4f3_77 : decode cJ2_getChars_ba4f3 77 = .ok (.iinc 5 (-1), 3) := by decide +kernel
theorem dJ2_getChars_ba4f3_80 : decode cJ2_getChars_ba4f3 80 = .ok (.iload 5, 2) := by decide +kernel
theorem dJ2_getChars_ba4f3_82 : decode cJ2_getChars_ba4f3 82 = .ok (.getstatic 403, 3) := by decide +kernel
theorem dJ2_getChars_ba4f3_85 : decode cJ2_getChars_ba4f3 85 = .ok (.iload_n 0, 1) := by decide +kernel
theorem dJ2_getChars_ba4f3_86 : decode cJ2_getChars_ba4f3 86 = .ok (.ineg, 1) := by decide +kernel
theorem dJ2_getChars_ba4f3_87 : decode cJ2_getChars_ba4f3 87 = .ok (.baload, 1) := by decide +kernel
theorem dJ2_getChars_ba4f3_88 : decode cJ2_getChars_ba4f3 88 = .ok (.invokestatic 111, 3) := by decide +kernel
theorem dJ2_getChars_ba4f3_91 : decode cJ2_getChars_ba4f3 91 = .ok (.iload_n 0, 1) := by decide +kernel
theorem dJ2_getChars_ba4f3_92 : decode cJ2_getChars_ba4f3 92 = .ok (.bipush (-9), 2) := by decide +kernel
theorem dJ2_getChars_ba4f3_94 : decode cJ2_getChars_ba4f3 94 = .ok (.if_icmp .ge 18, 3) := by decide +kernel
theorem dJ2_getChars_ba4f3_97 : decode cJ2_getChars_ba4f3 97 = .ok (.aload_n 2, 1) := by decide +kernel
theorem dJ2_getChars_ba4f3_98 : decode cJ2_getChars_ba4f3 98 = .ok (.iinc 5 (-1), 3) := by decide +kernel
theorem dJ2_getChars_ba4f3_101 : decode cJ2_getChars_ba4f3 101 = .ok (.iload 5, 2) := by decide +kernel
theorem dJ2_getChars_ba4f3_103 : decode cJ2_getChars_ba4f3 103 = .ok (.getstatic 407, 3) := by decide +kernel
theorem dJ2_getChars_ba4f3_106 : decode cJ2_getChars_ba4f3 106 = .ok (.iload_n 0, 1) := by decide +kernel
theorem dJ2_getChars_ba4f3_107 : decode cJ2_getChars_ba4f3 107 = .ok (.ineg, 1) := by decide +kernel
theorem dJ2_getChars_ba4f3_108 : decode cJ2_getChars_ba4f3 108 = .ok (.baload, 1) := by decide +kernel
theorem dJ2_getChars_ba4f3_109 : decode cJ2_getChars_ba4f3 109 = .ok (.invokestatic 111, 3) := by decide +kernel
theorem dJ2_getChars_ba4f3_112 : decode cJ2_getChars_ba4f3 112 = .ok (.iload 6, 2) := by decide +kernel
theorem dJ2_getChars_ba4f3_114 : decode cJ2_getChars_ba4f3 114 = .ok (.ifCond .eq 14, 3) := by decide +kernel
theorem dJ2_getChars_ba4f3_117 : decode cJ2_getChars_ba4f3 117 = .ok (.aload_n 2, 1) := by decide +kernel
theorem dJ2_getChars_ba4f3_118 : decode cJ2_getChars_ba4f3 118 = .ok (.iinc 5 (-1), 3) := by decide +kernel
theorem dJ2_getChars_ba4f3_121 : decode cJ2_getChars_ba4f3 121 = .ok (.iload 5, 2) := by decide +kernel
theorem dJ2_getChars_ba4f3_123 : decode cJ2_getChars_ba4f3 123 = .ok (.bipush 45, 2) := by decide +kernel
theorem dJ2_getChars_ba4f3_125 : decode cJ2_getChars_ba4f3 125 = .ok (.invokestatic 111, 3) := by decide +kernel
theorem dJ2_getChars_ba4f3_128 : decode cJ2_getChars_ba4f3 128 = .ok (.iload 5, 2) := by decide +kernel
theorem dJ2_getChars_ba4f3_130 : decode cJ2_getChars_ba4f3 130 = .ok (.ireturn, 1) := by decide +kernel
set_option maxRecDepth 20000 in
theorem ggJ2_checkIndex_2214a_J2_length_9d52b : GoodIn wsJ2_checkIndex_2214a wsJ2_length_9d52b := goodIn_r _ [4] (by decide +kernel) (by decide +kernel)
set_option maxRecDepth 20000 in
theorem gJ2_checkIndex_2214a_J2_length_9d52b : GoodIn wsJ2_checkIndex_2214a (va_wsS RJ2 48 yJ2_length_9d52b wsJ2_length_9d52b) := goodIn_app (goodIn_of _ (by decide +kernel)) ggJ2_checkIndex_2214a_J2_length_9d52b
set_option maxRecDepth 20000 in
theorem ggJ2_checkIndex_2214a_J0_checkIndex_df160 : GoodIn wsJ2_checkIndex_2214a wsJ0_checkIndex_df160 := goodIn_r _ [8, 9, 10, 11, 12, 13] (by decide +kernel) (by decide +kernel)
set_option maxRecDepth 20000 in
theorem gJ2_checkIndex_2214a_J0_checkIndex_df160 : GoodIn wsJ2_checkIndex_2214a (va_wsS RJ2 414 yJ0_checkIndex_df160 wsJ0_checkIndex_df160) := goodIn_app (goodIn_of _ (by decide +kernel)) ggJ2_checkIndex_2214a_J0_checkIndex_df160
theorem dJ2_checkIndex_2214a_0 : decode cJ2_checkIndex_2214a 0 = .ok (.iload_n 0, 1) := by decide +kernel
theorem dJ2_checkIndex_2214a_1 : decode cJ2_checkIndex_2214a 1 = .ok (.aload_n 1, 1) := by decide +kernel
theorem dJ2_checkIndex_2214a_2 : decode cJ2_checkIndex_2214a 2 = .ok (.invokestatic 48, 3) := by decide +kernel
theorem dJ2_checkIndex_2214a_5 : decode cJ2_checkIndex_2214a 5 = .ok (.invokestatic 414, 3) := by decide +kernel
theorem dJ2_checkIndex_2214a_8 : decode cJ2_checkIndex_2214a 8 = .ok (.return_, 1) := by decide +kernel
set_option maxRecDepth 20000 in
theorem ggJ2_checkBoundsBeginEnd_d044e_J2_length_9d52b : GoodIn wsJ2_checkBoundsBeginEnd_d044e wsJ2_length_9d52b := goodIn_r _ [4] (by decide +kernel) (by decide +kernel)
set_option maxRecDepth 20000 in
theorem gJ2_checkBoundsBeginEnd_d044e_J2_length_9d52b : GoodIn wsJ2_checkBoundsBeginEnd_d044e (va_wsS RJ2 48 yJ2_length_9d52b wsJ2_length_9d52b) := goodIn_app (goodIn_of _ (by decide +kernel)) ggJ2_checkBoundsBeginEnd_d044e_J2_length_9d52b
set_option maxRecDepth 20000 in
theorem ggJ2_checkBoundsBeginEnd_d044e_J0_checkBoundsBeginEnd_23922 : GoodIn wsJ2_checkBoundsBeginEnd_d044e wsJ0_checkBoundsBeginEnd_23922 := goodIn_r _ [8, 9, 10, 11, 12, 13] (by decide +kernel) (by decide +kernel)
set_option maxRecDepth 20000 in
theorem gJ2_checkBoundsBeginEnd_d044e_J0_checkBoundsBeginEnd_23922 : GoodIn wsJ2_checkBoundsBeginEnd_d044e (va_wsS RJ2 241 yJ0_checkBoundsBeginEnd_23922 wsJ0_checkBoundsBeginEnd_23922) := goodIn_app (goodIn_of _ (by decide +kernel)) ggJ2_checkBoundsBeginEnd_d044e_J0_checkBoundsBeginEnd_23922
theorem dJ2_checkBoundsBeginEnd_d044e_0 : decode cJ2_checkBoundsBeginEnd_d044e 0 = .ok (.iload_n 0, 1) := by decide +kernel
theorem dJ2_checkBoundsBeginEnd_d044e_1 : decode cJ2_checkBoundsBeginEnd_d044e 1 = .ok (.iload_n 1, 1) := by decide +kernel
theorem dJ2_checkBoundsBeginEnd_d044e_2 : decode cJ2_checkBoundsBeginEnd_d044e 2 = .ok (.aload_n 2, 1) := by decide +kernel
theorem dJ2_checkBoundsBeginEnd_d044e_3 : decode cJ2_checkBoundsBeginEnd_d044e 3 = .ok (.invokestatic 48, 3) := by decide +kernel
theorem dJ2_checkBoundsBeginEnd_d044e_6 : decode cJ2_checkBoundsBeginEnd_d044e 6 = .ok (.invokestatic 241, 3) := by decide +kernel
theorem dJ2_checkBoundsBeginEnd_d044e_9 : decode cJ2_checkBoundsBeginEnd_d044e 9 = .ok (.return_, 1) := by decide +kernel
set_option maxRecDepth 20000 in
theorem ggJ2_checkBoundsOffCount_d044e_J2_length_9d52b : GoodIn wsJ2_checkBoundsOffCount_d044e wsJ2_length_9d52b := goodIn_r _ [4] (by decide +kernel) (by decide +kernel)
set_option maxRecDepth 20000 in
theorem gJ2_checkBoundsOffCount_d044e_J2_length_9d52b : GoodIn wsJ2_checkBoundsOffCount_d044e (va_wsS RJ2 48 yJ2_length_9d52b wsJ2_length_9d52b) := goodIn_app (goodIn_of _ (by decide +kernel)) ggJ2_checkBoundsOffCount_d044e_J2_length_9d52b
set_option maxRecDepth 20000 in
theorem ggJ2_checkBoundsOffCount_d044e_J0_checkBoundsOffCount_cabcc : GoodIn wsJ2_checkBoundsOffCount_d044e wsJ0_checkBoundsOffCount_cabcc := goodIn_r _ [8, 9, 10, 11, 12, 13] (by decide +kernel) (by decide +kernel)
set_option maxRecDepth 20000 in
theorem gJ2_checkBoundsOffCount_d044e_J0_checkBoundsOffCount_cabcc : GoodIn wsJ2_checkBoundsOffCount_d044e (va_wsS RJ2 419 yJ0_checkBoundsOffCount_cabcc wsJ0_checkBoundsOffCount_cabcc) := goodIn_app (goodIn_of _ (by decide +kernel)) ggJ2_checkBoundsOffCount_d044e_J0_checkBoundsOffCount_cabcc
theorem dJ2_checkBoundsOffCount_d044e_0 : decode cJ2_checkBoundsOffCount_d044e 0 = .ok (.iload_n 0, 1) := by decide +kernel
theorem dJ2_checkBoundsOffCount_d044e_1 : decode cJ2_checkBoundsOffCount_d044e 1 = .ok (.iload_n 1, 1) := by decide +kernel
theorem dJ2_checkBoundsOffCount_d044e_2 : decode cJ2_checkBoundsOffCount_d044e 2 = .ok (.aload_n 2, 1) := by decide +kernel
theorem dJ2_checkBoundsOffCount_d044e_3 : decode cJ2_checkBoundsOffCount_d044e 3 = .ok (.invokestatic 48, 3) := by decide +kernel
theorem dJ2_checkBoundsOffCount_d044e_6 : decode cJ2_checkBoundsOffCount_d044e 6 = .ok (.invokestatic 419, 3) := by decide +kernel
theorem dJ2_checkBoundsOffCount_d044e_9 : decode cJ2_checkBoundsOffCount_d044e 9 = .ok (.pop, 1) := by decide +kernel
theorem dJ2_checkBoundsOffCount_d044e_10 : decode cJ2_checkBoundsOffCount_d044e 10 = .ok (.return_, 1) := by decide +kernel
theorem dJ7_copyOf_9075b_0 : decode cJ7_copyOf_9075b 0 = .ok (.iload_n 1, 1) := by decide +kernel
theorem dJ7_copyOf_9075b_1 : decode cJ7_copyOf_9075b 1 = .ok (.aload_n 0, 1) := by decide +kernel
theorem dJ7_copyOf_9075b_2 : decode cJ7_copyOf_9075b 2 = .ok (.arraylength, 1) := by decide +kernel
theorem dJ7_copyOf_9075b_3 : decode cJ7_copyOf_9075b 3 = .ok (.if_icmp .ne 11, 3) := by decide +kernel
theorem dJ7_copyOf_9075b_6 : decode cJ7_copyOf_9075b 6 = .ok (.aload_n 0, 1) := by decide +kernel
theorem dJ7_copyOf_9075b_7 : decode cJ7_copyOf_9075b 7 = .ok (.invokevirtual 310, 3) := by decide +kernel
theorem dJ7_copyOf_9075b_10 : decode cJ7_copyOf_9075b 10 = .ok (.checkcast 311, 3) := by decide +kernel
theorem dJ7_copyOf_9075b_13 : decode cJ7_copyOf_9075b 13 = .ok (.areturn, 1) := by decide +kernel
theorem dJ7_copyOf_9075b_14 : decode cJ7_copyOf_9075b 14 = .ok (.iload_n 1, 1) := by decide +kernel
theorem dJ7_copyOf_9075b_15 : decode cJ7_copyOf_9075b 15 = .ok (.newarray .byte, 2) := by decide +kernel
theorem dJ7_copyOf_9075b_17 : decode cJ7_copyOf_9075b 17 = .ok (.astore_n 2, 1) := by decide +kernel
theorem dJ7_copyOf_9075b_18 : decode cJ7_copyOf_9075b 18 = .ok (.aload_n 0, 1) := by decide +kernel
theorem dJ7_copyOf_9075b_19 : decode cJ7_copyOf_9075b 19 = .ok (.iconst 0, 1) := by decide +kernel
theorem dJ7_copyOf_9075b_20 : decode cJ7_copyOf_9075b 20 = .ok (.aload_n 2, 1) := by decide +kernel
theorem dJ7_copyOf_9075b_21 : decode cJ7_copyOf_9075b 21 = .ok (.iconst 0, 1) := by decide +kernel
theorem dJ7_copyOf_9075b_22 : decode cJ7_copyOf_9075b 22 = .ok (.aload_n 0, 1) := by decide +kernel
theorem dJ7_copyOf_9075b_23 : decode cJ7_copyOf_9075b 23 = .ok (.arraylength, 1) := by decide +kernel
theorem dJ7_copyOf_9075b_24 : decode cJ7_copyOf_9075b 24 = .ok (.iload_n 1, 1) := by decide +kernel
theorem dJ7_copyOf_9075b_25 : decode cJ7_copyOf_9075b 25 = .ok (.invokestatic 304, 3) := by decide +kernel
theorem dJ7_copyOf_9075b_28 : decode cJ7_copyOf_9075b 28 = .ok (.invokestatic 150, 3) := by decide +kernel
theorem dJ7_copyOf_9075b_31 : decode cJ7_copyOf_9075b 31 = .ok (.aload_n 2, 1) := by decide +kernel
theorem dJ7_copyOf_9075b_32 : decode cJ7_copyOf_9075b 32 = .ok (.areturn, 1) := by decide +kernel
set_option maxRecDepth 20000 in
theorem ggJ8_newLength_cabcc_J8_hugeLength_7cf53 : GoodIn wsJ8_newLength_cabcc wsJ8_hugeLength_7cf53 := goodIn_r _ [9, 5] (by decide +kernel) (by decide +kernel)
set_option maxRecDepth 20000 in
theorem gJ8_newLength_cabcc_J8_hugeLength_7cf53 : GoodIn wsJ8_newLength_cabcc (va_wsS RJ8 201 yJ8_hugeLength_7cf53 wsJ8_hugeLength_7cf53) := goodIn_app (goodIn_of _ (by decide +kernel)) ggJ8_newLength_cabcc_J8_hugeLength_7cf53
theorem dJ8_newLength_cabcc_0 : decode cJ8_newLength_cabcc 0 = .ok (.iload_n 0, 1) := by decide +kernel
theorem dJ8_newLength_cabcc_1 : decode cJ8_newLength_cabcc 1 = .ok (.iload_n 1, 1) := by decide +kernel
theorem dJ8_newLength_cabcc_2 : decode cJ8_newLength_cabcc 2 = .ok (.iload_n 2, 1) := by decide +kernel
theorem dJ8_newLength_cabcc_3 : decode cJ8_newLength_cabcc 3 = .ok (.invokestatic 194, 3) := by decide +kernel
theorem dJ8_newLength_cabcc_6 : decode cJ8_newLength_cabcc 6 = .ok (.iadd, 1) := by decide +kernel
theorem dJ8_newLength_cabcc_7 : decode cJ8_newLength_cabcc 7 = .ok (.istore_n 3, 1) := by decide +kernel
theorem dJ8_newLength_cabcc_8 : decode cJ8_newLength_cabcc 8 = .ok (.iconst 0, 1) := by decide +kernel
theorem dJ8_newLength_cabcc_9 : decode cJ8_newLength_cabcc 9 = .ok (.iload_n 3, 1) := by decide +kernel
theorem dJ8_newLength_cabcc_10 : decode cJ8_newLength_cabcc 10 = .ok (.if_icmp .ge 11, 3) := by decide +kernel
theorem dJ8_newLength_cabcc_13 : decode cJ8_newLength_cabcc 13 = .ok (.iload_n 3, 1) := by decide +kernel
theorem dJ8_newLength_cabcc_14 : decode cJ8_newLength_cabcc 14 = .ok (.ldc 200, 2) := by decide +kernel
theorem dJ8_newLength_cabcc_16 : decode cJ8_newLength_cabcc 16 = .ok (.if_icmp .gt 5, 3) := by decide +kernel
theorem dJ8_newLength_cabcc_19 : decode cJ8_newLength_cabcc 19 = .ok (.iload_n 3, 1) := by decide +kernel
theorem dJ8_newLength_cabcc_20 : decode cJ8_newLength_cabcc 20 = .ok (.ireturn, 1) := by decide +kernel
theorem dJ8_newLength_cabcc_21 : decode cJ8_newLength_cabcc 21 = .ok (.iload_n 0, 1) := by decide +kernel
theorem dJ8_newLength_cabcc_22 : decode cJ8_newLength_cabcc 22 = .ok (.iload_n 1, 1) := by decide +kernel
theorem dJ8_newLength_cabcc_23 : decode cJ8_newLength_cabcc 23 = .ok (.invokestatic 201, 3) := by decide +kernel
theorem dJ8_newLength_cabcc_26 : decode cJ8_newLength_cabcc 26 = .ok (.ireturn, 1) := by decide +kernel
theorem dJ8_hugeLength_7cf53_0 : decode cJ8_hugeLength_7cf53 0 = .ok (.iload_n 0, 1) := by decide +kernel
theorem dJ8_hugeLength_7cf53_1 : decode cJ8_hugeLength_7cf53 1 = .ok (.iload_n 1, 1) := by decide +kernel
theorem dJ8_hugeLength_7cf53_2 : decode cJ8_hugeLength_7cf53 2 = .ok (.iadd, 1) := by decide +kernel
theorem dJ8_hugeLength_7cf53_3 : decode cJ8_hugeLength_7cf53 3 = .ok (.istore_n 2, 1) := by decide +kernel
theorem dJ8_hugeLength_7cf53_4 : decode cJ8_hugeLength_7cf53 4 = .ok (.iload_n 2, 1) := by decide +kernel
theorem dJ8_hugeLength_7cf53_5 : decode cJ8_hugeLength_7cf53 5 = .ok (.ifCond .ge 44, 3) := by decide +kernel
theorem dJ8_hugeLength_7cf53_8 : decode cJ8_hugeLength_7cf53 8 = .ok (.new 204, 3) := by decide +kernel
theorem dJ8_hugeLength_7cf53_11 : decode cJ8_hugeLength_7cf53 11 = .ok (.dup, 1) := by decide +kernel
theorem dJ8_hugeLength_7cf53_12 : decode cJ8_hugeLength_7cf53 12 = .ok (.new 89, 3) := by decide +kernel
theorem dJ8_hugeLength_7cf53_15 : decode cJ8_hugeLength_7cf53 15 = .ok (.dup, 1) := by decide +kernel
theorem dJ8_hugeLength_7cf53_16 : decode cJ8_hugeLength_7cf53 16 = .ok (.invokespecial 91, 3) := by decide +kernel
theorem dJ8_hugeLength_7cf53_19 : decode cJ8_hugeLength_7cf53 19 = .ok (.ldc 206, 2) := by decide +kernel
theorem dJ8_hugeLength_7cf53_21 : decode cJ8_hugeLength_7cf53 21 = .ok (.invokevirtual 94, 3) := by decide +kernel
theorem dJ8_hugeLength_7cf53_24 : decode cJ8_hugeLength_7cf53 24 = .ok (.iload_n 0, 1) := by decide +kernel
theorem dJ8_hugeLength_7cf53_25 : decode cJ8_hugeLength_7cf53 25 = .ok (.invokevirtual 98, 3) := by decide +kernel
theorem dJ8_hugeLength_7cf53_28 : decode cJ8_hugeLength_7cf53 28 = .ok (.ldc 208, 2) := by decide +kernel
theorem dJ8_hugeLength_7cf53_30 : decode cJ8_hugeLength_7cf53 30 = .ok (.invokevirtual 94, 3) := by decide +kernel
theorem dJ8_hugeLength_7cf53_33 : decode cJ8_hugeLength_7cf53 33 = .ok (.iload_n 1, 1) := by decide +kernel
theorem dJ8_hugeLength_7cf53_34 : decode cJ8_hugeLength_7cf53 34 = .ok (.invokevirtual 98, 3) := by decide +kernel
theorem dJ8_hugeLength_7cf53_37 : decode cJ8_hugeLength_7cf53 37 = .ok (.ldc 210, 2) := by decide +kernel
theorem dJ8_hugeLength_7cf53_39 : decode cJ8_hugeLength_7cf53 39 = .ok (.invokevirtual 94, 3) := by decide +kernel
theorem dJ8_hugeLength_7cf53_42 : decode cJ8_hugeLength_7cf53 42 = .ok (.invokevirtual 101, 3) := by decide +kernel
theorem dJ8_hugeLength_7cf53_45 : decode cJ8_hugeLength_7cf53 45 = .ok (.invokespecial 212, 3) := by decide +kernel
theorem dJ8_hugeLength_7cf53_48 : decode cJ8_hugeLength_7cf53 48 = .ok (.athrow, 1) := by decide +kernel
theorem dJ8_hugeLength_7cf53_49 : decode cJ8_hugeLength_7cf53 49 = .ok (.iload_n 2, 1) := by decide +kernel
theorem dJ8_hugeLength_7cf53_50 : decode cJ8_hugeLength_7cf53 50 = .ok (.ldc 200, 2) := by decide +kernel
theorem dJ8_hugeLength_7cf53_52 : decode cJ8_hugeLength_7cf53 52 = .ok (.if_icmp .gt 6, 3) := by decide +kernel
theorem dJ8_hugeLength_7cf53_55 : decode cJ8_hugeLength_7cf53 55 = .ok (.ldc 200, 2) := by decide +kernel
theorem dJ8_hugeLength_7cf53_57 : decode cJ8_hugeLength_7cf53 57 = .ok (.ireturn, 1) := by decide +kernel
theorem dJ8_hugeLength_7cf53_58 : decode cJ8_hugeLength_7cf53 58 = .ok (.iload_n 2, 1) := by decide +kernel
theorem dJ8_hugeLength_7cf53_59 : decode cJ8_hugeLength_7cf53 59 = .ok (.ireturn, 1) := by decide +kernel
theorem dJ3_checkIndex_8e157_0 : decode cJ3_checkIndex_8e157 0 = .ok (.iload_n 0, 1) := by decide +kernel
theorem dJ3_checkIndex_8e157_1 : decode cJ3_checkIndex_8e157 1 = .ok (.ifCond .lt 8, 3) := by decide +kernel
theorem dJ3_checkIndex_8e157_4 : decode cJ3_checkIndex_8e157 4 = .ok (.iload_n 0, 1) := by decide +kernel
theorem dJ3_checkIndex_8e157_5 : decode cJ3_checkIndex_8e157 5 = .ok (.iload_n 1, 1) := by decide +kernel
theorem dJ3_checkIndex_8e157_6 : decode cJ3_checkIndex_8e157 6 = .ok (.if_icmp .lt 10, 3) := by decide +kernel
theorem dJ3_checkIndex_8e157_9 : decode cJ3_checkIndex_8e157 9 = .ok (.aload_n 2, 1) := by decide +kernel
theorem dJ3_checkIndex_8e157_10 : decode cJ3_checkIndex_8e157 10 = .ok (.iload_n 0, 1) := by decide +kernel
theorem dJ3_checkIndex_8e157_11 : decode cJ3_checkIndex_8e157 11 = .ok (.iload_n 1, 1) := by decide +kernel
theorem dJ3_checkIndex_8e157_12 : decode cJ3_checkIndex_8e157 12 = .ok (.invokestatic 95, 3) := by decide +kernel
theorem dJ3_checkIndex_8e157_15 : decode cJ3_checkIndex_8e157 15 = .ok (.athrow, 1) := by decide +kernel
theorem dJ3_checkIndex_8e157_16 : decode cJ3_checkIndex_8e157 16 = .ok (.iload_n 0, 1) := by decide +kernel
theorem dJ3_checkIndex_8e157_17 : decode cJ3_checkIndex_8e157 17 = .ok (.ireturn, 1) := by decide +kernel
theorem dJ3_checkFromToIndex_8c36e_0 : decode cJ3_checkFromToIndex_8c36e 0 = .ok (.iload_n 0, 1) := by decide +kernel
theorem dJ3_checkFromToIndex_8c36e_1 : decode cJ3_checkFromToIndex_8c36e 1 = .ok (.ifCond .lt 13, 3) := by decide +kernel
theorem dJ3_checkFromToIndex_8c36e_4 : decode cJ3_checkFromToIndex_8c36e 4 = .ok (.iload_n 0, 1) := by decide +kernel
theorem dJ3_checkFromToIndex_8c36e_5 : decode cJ3_checkFromToIndex_8c36e 5 = .ok (.iload_n 1, 1) := by decide +kernel
theorem dJ3_checkFromToIndex_8c36e_6 : decode cJ3_checkFromToIndex_8c36e 6 = .ok (.if_icmp .gt 8, 3) := by decide +kernel
theorem dJ3_checkFromToIndex_8c36e_9 : decode cJ3_checkFromToIndex_8c36e 9 = .ok (.iload_n 1, 1) := by decide +kernel
theorem dJ3_checkFromToIndex_8c36e_10 : decode cJ3_checkFromToIndex_8c36e 10 = .ok (.iload_n 2, 1) := by decide +kernel
theorem dJ3_checkFromToIndex_8c36e_11 : decode cJ3_checkFromToIndex_8c36e 11 = .ok (.if_icmp .le 11, 3) := by decide +kernel
theorem dJ3_checkFromToIndex_8c36e_14 : decode cJ3_checkFromToIndex_8c36e 14 = .ok (.aload_n 3, 1) := by decide +kernel
theorem dJ3_checkFromToIndex_8c36e_15 : decode cJ3_checkFromToIndex_8c36e 15 = .ok (.iload_n 0, 1) := by decide +kernel
theorem dJ3_checkFromToIndex_8c36e_16 : decode cJ3_checkFromToIndex_8c36e 16 = .ok (.iload_n 1, 1) := by decide +kernel
theorem dJ3_checkFromToIndex_8c36e_17 : decode cJ3_checkFromToIndex_8c36e 17 = .ok (.iload_n 2, 1) := by decide +kernel
theorem dJ3_checkFromToIndex_8c36e_18 : decode cJ3_checkFromToIndex_8c36e 18 = .ok (.invokestatic 99, 3) := by decide +kernel
theorem dJ3_checkFromToIndex_8c36e_21 : decode cJ3_checkFromToIndex_8c36e 21 = .ok (.athrow, 1) := by decide +kernel
theorem dJ3_checkFromToIndex_8c36e_22 : decode cJ3_checkFromToIndex_8c36e 22 = .ok (.iload_n 0, 1) := by decide +kernel
theorem dJ3_checkFromToIndex_8c36e_23 : decode cJ3_checkFromToIndex_8c36e 23 = .ok (.ireturn, 1) := by decide +kernel
theorem dJ3_checkFromIndexSize_8c36e_0 : decode cJ3_checkFromIndexSize_8c36e 0 = .ok (.iload_n 2, 1) := by decide +kernel
theorem dJ3_checkFromIndexSize_8c36e_1 : decode cJ3_checkFromIndexSize_8c36e 1 = .ok (.iload_n 0, 1) := by decide +kernel
theorem dJ3_checkFromIndexSize_8c36e_2 : decode cJ3_checkFromIndexSize_8c36e 2 = .ok (.ior, 1) := by decide +kernel
theorem dJ3_checkFromIndexSize_8c36e_3 : decode cJ3_checkFromIndexSize_8c36e 3 = .ok (.iload_n 1, 1) := by decide +kernel
theorem dJ3_checkFromIndexSize_8c36e_4 : decode cJ3_checkFromIndexSize_8c36e 4 = .ok (.ior, 1) := by decide +kernel
theorem dJ3_checkFromIndexSize_8c36e_5 : decode cJ3_checkFromIndexSize_8c36e 5 = .ok (.ifCond .lt 10, 3) := by decide +kernel
theorem dJ3_checkFromIndexSize_8c36e_8 : decode cJ3_checkFromIndexSize_8c36e 8 = .ok (.iload_n 1, 1) := by decide +kernel
theorem dJ3_checkFromIndexSize_8c36e_9 : decode cJ3_checkFromIndexSize_8c36e 9 = .ok (.iload_n 2, 1) := by decide +kernel
theorem dJ3_checkFromIndexSize_8c36e_10 : decode cJ3_checkFromIndexSize_8c36e 10 = .ok (.iload_n 0, 1) := by decide +kernel
theorem dJ3_checkFromIndexSize_8c36e_11 : decode cJ3_checkFromIndexSize_8c36e 11 = .ok (.isub, 1) := by decide +kernel
theorem dJ3_checkFromIndexSize_8c36e_12 : decode cJ3_checkFromIndexSize_8c36e 12 = .ok (.if_icmp .le 11, 3) := by decide +kernel
theorem dJ3_checkFromIndexSize_8c36e_15 : decode cJ3_checkFromIndexSize_8c36e 15 = .ok (.aload_n 3, 1) := by decide +kernel
theorem dJ3_checkFromIndexSize_8c36e_16 : decode cJ3_checkFromIndexSize_8c36e 16 = .ok (.iload_n 0, 1) := by decide +kernel
theorem dJ3_checkFromIndexSize_8c36e_17 : decode cJ3_checkFromIndexSize_8c36e 17 = .ok (.iload_n 1, 1) := by decide +kernel
theorem dJ3_checkFromIndexSize_8c36e_18 : decode cJ3_checkFromIndexSize_8c36e 18 = .ok (.iload_n 2, 1) := by decide +kernel
theorem dJ3_checkFromIndexSize_8c36e_19 : decode cJ3_checkFromIndexSize_8c36e 19 = .ok (.invokestatic 103, 3) := by decide +kernel
theorem dJ3_checkFromIndexSize_8c36e_22 : decode cJ3_checkFromIndexSize_8c36e 22 = .ok (.athrow, 1) := by decide +kernel
theorem dJ3_checkFromIndexSize_8c36e_23 : decode cJ3_checkFromIndexSize_8c36e 23 = .ok (.iload_n 0, 1) := by decide +kernel
theorem dJ3_checkFromIndexSize_8c36e_24 : decode cJ3_checkFromIndexSize_8c36e 24 = .ok (.ireturn, 1) := by decide +kernel
theorem dL_at_0 : decode cL_at 0 = .ok (.iload_n 1, 1) := by decide +kernel
theorem dL_at_1 : decode cL_at 1 = .ok (.aload_n 0, 1) := by decide +kernel
theorem dL_at_2 : decode cL_at 2 = .ok (.arraylength, 1) := by decide +kernel
theorem dL_at_3 : decode cL_at 3 = .ok (.if_icmp .ge 9, 3) := by decide +kernel
theorem dL_at_6 : decode cL_at 6 = .ok (.aload_n 0, 1) := by decide +kernel
theorem dL_at_7 : decode cL_at 7 = .ok (.iload_n 1, 1) := by decide +kernel
theorem dL_at_8 : decode cL_at 8 = .ok (.iaload, 1) := by decide +kernel
theorem dL_at_9 : decode cL_at 9 = .ok (.goto 12, 3) := by decide +kernel
theorem dL_at_12 : decode cL_at 12 = .ok (.ldc 7, 2) := by decide +kernel
theorem dL_at_14 : decode cL_at 14 = .ok (.iload_n 1, 1) := by decide +kernel
theorem dL_at_15 : decode cL_at 15 = .ok (.iconst 1, 1) := by decide +kernel
theorem dL_at_16 : decode cL_at 16 = .ok (.iadd, 1) := by decide +kernel
theorem dL_at_17 : decode cL_at 17 = .ok (.imul, 1) := by decide +kernel
theorem dL_at_18 : decode cL_at 18 = .ok (.ldc 8, 2) := by decide +kernel
theorem dL_at_20 : decode cL_at 20 = .ok (.iadd, 1) := by decide +kernel
theorem dL_at_21 : decode cL_at 21 = .ok (.ireturn, 1) := by decide +kernel
theorem dL_low_0 : decode cL_low 0 = .ok (.iload_n 0, 1) := by decide +kernel
theorem dL_low_1 : decode cL_low 1 = .ok (.ldc 9, 2) := by decide +kernel
theorem dL_low_3 : decode cL_low 3 = .ok (.iand, 1) := by decide +kernel
theorem dL_low_4 : decode cL_low 4 = .ok (.iload_n 1, 1) := by decide +kernel
theorem dL_low_5 : decode cL_low 5 = .ok (.irem, 1) := by decide +kernel
theorem dL_low_6 : decode cL_low 6 = .ok (.ireturn, 1) := by decide +kernel
set_option maxRecDepth 20000 in
theorem ggL_word_X3_word : GoodIn wsL_word wsX3_word := goodIn_ca (goodIn_ca (goodIn_ca (goodIn_r _ [11, 12, 13, 14, 15, 16, 17, 18, 19, 20, 21, 10, 22, 23, 24, 25, 26, 27, 28, 29, 30, 31, 32, 33, 34, 35, 36, 37, 38, 39, 40, 41, 42, 43, 44] (by decide +kernel) (by decide +kernel)) (goodIn_sub (fun _ h => List.mem_cons_of_mem _ (List.mem_append_left _ (List.mem_append_left _ (List.mem_append_right _ h)))) (by decide +kernel))) (goodIn_sub (fun _ h => List.mem_cons_of_mem _ (List.mem_append_left _ (List.mem_append_right _ h))) (by decide +kernel))) (goodIn_sub (fun _ h => List.mem_cons_of_mem _ (List.mem_append_right _ h)) (by decide +kernel))
set_option maxRecDepth 20000 in
theorem gL_word_X3_word : GoodIn wsL_word (wsV RL 10 RX3 yX3_word wsX3_word) := goodIn_app (goodIn_of _ (by decide +kernel)) ggL_word_X3_word
theorem dL_word_0 : decode cL_word 0 = .ok (.aload_n 0, 1) := by decide +kernel
theorem dL_word_1 : decode cL_word 1 = .ok (.iload_n 1, 1) := by decide +kernel
theorem dL_word_2 : decode cL_word 2 = .ok (.iload_n 2, 1) := by decide +kernel
theorem dL_word_3 : decode cL_word 3 = .ok (.invokevirtual 10, 3) := by decide +kernel
theorem dL_word_6 : decode cL_word 6 = .ok (.iconst 0, 1) := by decide +kernel
theorem dL_word_7 : decode cL_word 7 = .ok (.ireturn, 1) := by decide +kernel
theorem dL_word_8 : decode cL_word 8 = .ok (.astore_n 3, 1) := by decide +kernel
theorem dL_word_9 : decode cL_word 9 = .ok (.ldc 18, 2) := by decide +kernel
theorem dL_word_11 : decode cL_word 11 = .ok (.ireturn, 1) := by decide +kernel
theorem dL_word_12 : decode cL_word 12 = .ok (.astore_n 3, 1) := by decide +kernel
theorem dL_word_13 : decode cL_word 13 = .ok (.ldc 21, 2) := by decide +kernel
theorem dL_word_15 : decode cL_word 15 = .ok (.ireturn, 1) := by decide +kernel
theorem dL_word_16 : decode cL_word 16 = .ok (.astore_n 3, 1) := by decide +kernel
theorem dL_word_17 : decode cL_word 17 = .ok (.ldc 24, 2) := by decide +kernel
theorem dL_word_19 : decode cL_word 19 = .ok (.ireturn, 1) := by decide +kernel
set_option maxRecDepth 20000 in
theorem ggL_login_X3_login : GoodIn wsL_login wsX3_login := goodIn_ca (goodIn_ca (goodIn_r _ [9, 10, 11, 12, 13, 14, 15, 16, 17, 8, 18, 19, 20, 21, 22, 23, 24, 25, 26, 27, 28, 29, 30, 31, 32, 33, 34, 35, 36, 37, 38, 39, 40, 41, 42, 43, 44, 45] (by decide +kernel) (by decide +kernel)) (goodIn_sub (fun _ h => List.mem_cons_of_mem _ (List.mem_append_left _ (List.mem_append_right _ h))) (by decide +kernel))) (goodIn_sub (fun _ h => List.mem_cons_of_mem _ (List.mem_append_right _ h)) (by decide +kernel))
set_option maxRecDepth 20000 in
theorem gL_login_X3_login : GoodIn wsL_login (wsV RL 25 RX3 yX3_login wsX3_login) := goodIn_app (goodIn_of _ (by decide +kernel)) ggL_login_X3_login
theorem dL_login_0 : decode cL_login 0 = .ok (.aload_n 0, 1) := by decide +kernel
theorem dL_login_1 : decode cL_login 1 = .ok (.iload_n 1, 1) := by decide +kernel
theorem dL_login_2 : decode cL_login 2 = .ok (.iload_n 2, 1) := by decide +kernel
theorem dL_login_3 : decode cL_login 3 = .ok (.iload_n 3, 1) := by decide +kernel
theorem dL_login_4 : decode cL_login 4 = .ok (.invokevirtual 25, 3) := by decide +kernel
theorem dL_login_7 : decode cL_login 7 = .ok (.ireturn, 1) := by decide +kernel
theorem dL_login_8 : decode cL_login 8 = .ok (.astore 4, 2) := by decide +kernel
theorem dL_login_10 : decode cL_login 10 = .ok (.ldc 18, 2) := by decide +kernel
theorem dL_login_12 : decode cL_login 12 = .ok (.ireturn, 1) := by decide +kernel
theorem dL_login_13 : decode cL_login 13 = .ok (.astore 4, 2) := by decide +kernel
theorem dL_login_15 : decode cL_login 15 = .ok (.ldc 21, 2) := by decide +kernel
theorem dL_login_17 : decode cL_login 17 = .ok (.ireturn, 1) := by decide +kernel
set_option maxRecDepth 20000 in
theorem ggL_pass_X3_pass : GoodIn wsL_pass wsX3_pass := goodIn_ca (goodIn_r _ [7, 8, 9, 10, 11, 12, 13, 14, 15, 16, 17] (by decide +kernel) (by decide +kernel)) (goodIn_sub (fun _ h => List.mem_cons_of_mem _ (List.mem_append_right _ h)) (by decide +kernel))
set_option maxRecDepth 20000 in
theorem gL_pass_X3_pass : GoodIn wsL_pass (wsV RL 29 RX3 yX3_pass wsX3_pass) := goodIn_app (goodIn_of _ (by decide +kernel)) ggL_pass_X3_pass
theorem dL_pass_0 : decode cL_pass 0 = .ok (.aload_n 0, 1) := by decide +kernel
theorem dL_pass_1 : decode cL_pass 1 = .ok (.iload_n 1, 1) := by decide +kernel
theorem dL_pass_2 : decode cL_pass 2 = .ok (.invokevirtual 29, 3) := by decide +kernel
theorem dL_pass_5 : decode cL_pass 5 = .ok (.ireturn, 1) := by decide +kernel
theorem dL_pass_6 : decode cL_pass 6 = .ok (.astore_n 2, 1) := by decide +kernel
theorem dL_pass_7 : decode cL_pass 7 = .ok (.ldc 21, 2) := by decide +kernel
theorem dL_pass_9 : decode cL_pass 9 = .ok (.ireturn, 1) := by decide +kernel
set_option maxRecDepth 20000 in
theorem ggL_vouch_X3_vouch : GoodIn wsL_vouch wsX3_vouch := goodIn_ca (goodIn_ca (goodIn_ca (goodIn_r _ [11, 12, 13, 14, 15, 16, 17, 18, 19, 20, 21, 22, 10, 23, 24, 25, 26, 27, 28, 29, 30, 31, 32, 33, 34, 35, 36, 37, 38, 39, 40, 41, 42, 43, 44, 45, 46, 47, 48, 49, 50, 51, 52, 53, 54, 55, 56, 57, 58, 59, 60, 61, 62, 63, 64, 65, 66, 67, 68, 69, 70, 71, 72, 73, 74, 75, 76, 77, 78, 79, 80, 81, 82, 83, 84, 85, 86, 87, 88, 89, 90, 91, 92, 93, 94, 95, 96, 97, 98, 99, 100, 101, 102, 103, 104, 105, 106, 107, 108, 109, 110, 111, 112, 113] (by decide +kernel) (by decide +kernel)) (goodIn_sub (fun _ h => List.mem_cons_of_mem _ (List.mem_append_left _ (List.mem_append_left _ (List.mem_append_right _ h)))) (by decide +kernel))) (goodIn_sub (fun _ h => List.mem_cons_of_mem _ (List.mem_append_left _ (List.mem_append_right _ h))) (by decide +kernel))) (goodIn_sub (fun _ h => List.mem_cons_of_mem _ (List.mem_append_right _ h)) (by decide +kernel))
set_option maxRecDepth 20000 in
theorem gL_vouch_X3_vouch : GoodIn wsL_vouch (wsV RL 33 RX3 yX3_vouch wsX3_vouch) := goodIn_app (goodIn_of _ (by decide +kernel)) ggL_vouch_X3_vouch
theorem dL_vouch_0 : decode cL_vouch 0 = .ok (.aload_n 0, 1) := by decide +kernel
theorem dL_vouch_1 : decode cL_vouch 1 = .ok (.iload_n 1, 1) := by decide +kernel
theorem dL_vouch_2 : decode cL_vouch 2 = .ok (.iload_n 2, 1) := by decide +kernel
theorem dL_vouch_3 : decode cL_vouch 3 = .ok (.iload_n 3, 1) := by decide +kernel
theorem dL_vouch_4 : decode cL_vouch 4 = .ok (.invokevirtual 33, 3) := by decide +kernel
theorem dL_vouch_7 : decode cL_vouch 7 = .ok (.ireturn, 1) := by decide +kernel
theorem dL_vouch_8 : decode cL_vouch 8 = .ok (.astore 4, 2) := by decide +kernel
theorem dL_vouch_10 : decode cL_vouch 10 = .ok (.ldc 18, 2) := by decide +kernel
theorem dL_vouch_12 : decode cL_vouch 12 = .ok (.ireturn, 1) := by decide +kernel
theorem dL_vouch_13 : decode cL_vouch 13 = .ok (.astore 4, 2) := by decide +kernel
theorem dL_vouch_15 : decode cL_vouch 15 = .ok (.ldc 21, 2) := by decide +kernel
theorem dL_vouch_17 : decode cL_vouch 17 = .ok (.ireturn, 1) := by decide +kernel
theorem dL_vouch_18 : decode cL_vouch 18 = .ok (.astore 4, 2) := by decide +kernel
theorem dL_vouch_20 : decode cL_vouch 20 = .ok (.ldc 24, 2) := by decide +kernel
theorem dL_vouch_22 : decode cL_vouch 22 = .ok (.ireturn, 1) := by decide +kernel
set_option maxRecDepth 20000 in
theorem ggL_end_X3_end : GoodIn wsL_end wsX3_end := goodIn_ca (goodIn_ca (goodIn_r _ [9, 10, 11, 12, 13, 14, 15, 16, 17, 8, 18, 19, 20, 21, 22, 23, 24, 25, 26, 27, 28, 29, 30, 31, 32, 33, 34, 35, 36, 37, 38, 39, 40, 41, 42, 43, 44, 45, 46, 47, 48, 49, 50, 51, 52, 53, 54, 55, 56, 57, 58, 59, 60, 61, 62, 63, 64] (by decide +kernel) (by decide +kernel)) (goodIn_sub (fun _ h => List.mem_cons_of_mem _ (List.mem_append_left _ (List.mem_append_right _ h))) (by decide +kernel))) (goodIn_sub (fun _ h => List.mem_cons_of_mem _ (List.mem_append_right _ h)) (by decide +kernel))
set_option maxRecDepth 20000 in
theorem gL_end_X3_end : GoodIn wsL_end (wsV RL 36 RX3 yX3_end wsX3_end) := goodIn_app (goodIn_of _ (by decide +kernel)) ggL_end_X3_end
theorem dL_end_0 : decode cL_end 0 = .ok (.aload_n 0, 1) := by decide +kernel
theorem dL_end_1 : decode cL_end 1 = .ok (.iload_n 1, 1) := by decide +kernel
theorem dL_end_2 : decode cL_end 2 = .ok (.invokevirtual 36, 3) := by decide +kernel
theorem dL_end_5 : decode cL_end 5 = .ok (.ireturn, 1) := by decide +kernel
theorem dL_end_6 : decode cL_end 6 = .ok (.astore_n 2, 1) := by decide +kernel
theorem dL_end_7 : decode cL_end 7 = .ok (.ldc 18, 2) := by decide +kernel
theorem dL_end_9 : decode cL_end 9 = .ok (.ireturn, 1) := by decide +kernel
theorem dL_end_10 : decode cL_end 10 = .ok (.astore_n 2, 1) := by decide +kernel
theorem dL_end_11 : decode cL_end 11 = .ok (.ldc 24, 2) := by decide +kernel
theorem dL_end_13 : decode cL_end 13 = .ok (.ireturn, 1) := by decide +kernel
set_option maxRecDepth 20000 in
theorem ggL_lose_X3_lose : GoodIn wsL_lose wsX3_lose := goodIn_ca (goodIn_ca (goodIn_r _ [9, 10, 11, 12, 13, 14, 15, 16, 17, 18, 8, 19, 20, 21, 22, 23, 24, 25, 26, 27, 28, 29, 30, 31, 32, 33, 34, 35, 36, 37, 38, 39, 40, 41, 42, 43, 44, 45, 46, 47, 48, 49, 50, 51, 52, 53, 54, 55, 56, 57, 58, 59, 60, 61, 62, 63, 64, 65, 66, 67, 68, 69, 70, 71, 72, 73, 74, 75, 76, 77, 78, 79] (by decide +kernel) (by decide +kernel)) (goodIn_sub (fun _ h => List.mem_cons_of_mem _ (List.mem_append_left _ (List.mem_append_right _ h))) (by decide +kernel))) (goodIn_sub (fun _ h => List.mem_cons_of_mem _ (List.mem_append_right _ h)) (by decide +kernel))
set_option maxRecDepth 20000 in
theorem gL_lose_X3_lose : GoodIn wsL_lose (wsV RL 39 RX3 yX3_lose wsX3_lose) := goodIn_app (goodIn_of _ (by decide +kernel)) ggL_lose_X3_lose
theorem dL_lose_0 : decode cL_lose 0 = .ok (.aload_n 0, 1) := by decide +kernel
theorem dL_lose_1 : decode cL_lose 1 = .ok (.iload_n 1, 1) := by decide +kernel
theorem dL_lose_2 : decode cL_lose 2 = .ok (.iload_n 2, 1) := by decide +kernel
theorem dL_lose_3 : decode cL_lose 3 = .ok (.invokevirtual 39, 3) := by decide +kernel
theorem dL_lose_6 : decode cL_lose 6 = .ok (.ireturn, 1) := by decide +kernel
theorem dL_lose_7 : decode cL_lose 7 = .ok (.astore_n 3, 1) := by decide +kernel
theorem dL_lose_8 : decode cL_lose 8 = .ok (.ldc 18, 2) := by decide +kernel
theorem dL_lose_10 : decode cL_lose 10 = .ok (.ireturn, 1) := by decide +kernel
theorem dL_lose_11 : decode cL_lose 11 = .ok (.astore_n 3, 1) := by decide +kernel
theorem dL_lose_12 : decode cL_lose 12 = .ok (.ldc 21, 2) := by decide +kernel
theorem dL_lose_14 : decode cL_lose 14 = .ok (.ireturn, 1) := by decide +kernel
set_option maxRecDepth 20000 in
theorem ggL_issue_X3_issue : GoodIn wsL_issue wsX3_issue := goodIn_ca (goodIn_r _ [7, 8, 9, 10, 11, 12, 13, 6, 14, 15, 16, 17, 18, 19, 20, 21, 22, 23, 24, 25, 26, 27, 28, 29, 30, 31, 32, 33, 34, 35, 36, 37, 38, 39, 40, 41, 42, 43, 44, 45, 46, 47, 48, 49, 50, 51, 52, 53, 54, 55, 56, 57, 58, 59, 60, 61] (by decide +kernel) (by decide +kernel)) (goodIn_sub (fun _ h => List.mem_cons_of_mem _ (List.mem_append_right _ h)) (by decide +kernel))
set_option maxRecDepth 20000 in
theorem gL_issue_X3_issue : GoodIn wsL_issue (wsV RL 43 RX3 yX3_issue wsX3_issue) := goodIn_app (goodIn_of _ (by decide +kernel)) ggL_issue_X3_issue
theorem dL_issue_0 : decode cL_issue 0 = .ok (.aload_n 0, 1) := by decide +kernel
theorem dL_issue_1 : decode cL_issue 1 = .ok (.iload_n 1, 1) := by decide +kernel
theorem dL_issue_2 : decode cL_issue 2 = .ok (.invokevirtual 43, 3) := by decide +kernel
theorem dL_issue_5 : decode cL_issue 5 = .ok (.ireturn, 1) := by decide +kernel
theorem dL_issue_6 : decode cL_issue 6 = .ok (.astore_n 2, 1) := by decide +kernel
theorem dL_issue_7 : decode cL_issue 7 = .ok (.ldc 18, 2) := by decide +kernel
theorem dL_issue_9 : decode cL_issue 9 = .ok (.ireturn, 1) := by decide +kernel
set_option maxRecDepth 20000 in
theorem ggL_door_X3_door : GoodIn wsL_door wsX3_door := goodIn_ca (goodIn_r _ [7, 8, 9, 10, 11, 12, 6, 13, 14, 15, 16, 17, 18, 19, 20, 21, 22, 23, 24, 25, 26, 27, 28, 29, 30, 31, 32, 33, 34, 35, 36, 37, 38, 39, 40, 41, 42, 43, 44, 45, 46, 47, 48, 49, 50, 51, 52, 53, 54, 55, 56, 57, 58] (by decide +kernel) (by decide +kernel)) (goodIn_sub (fun _ h => List.mem_cons_of_mem _ (List.mem_append_right _ h)) (by decide +kernel))
set_option maxRecDepth 20000 in
theorem gL_door_X3_door : GoodIn wsL_door (wsV RL 46 RX3 yX3_door wsX3_door) := goodIn_app (goodIn_of _ (by decide +kernel)) ggL_door_X3_door
theorem dL_door_0 : decode cL_door 0 = .ok (.aload_n 0, 1) := by decide +kernel
theorem dL_door_1 : decode cL_door 1 = .ok (.iload_n 1, 1) := by decide +kernel
theorem dL_door_2 : decode cL_door 2 = .ok (.iload_n 2, 1) := by decide +kernel
theorem dL_door_3 : decode cL_door 3 = .ok (.invokevirtual 46, 3) := by decide +kernel
theorem dL_door_6 : decode cL_door 6 = .ok (.ifCond .eq 7, 3) := by decide +kernel
theorem dL_door_9 : decode cL_door 9 = .ok (.iconst 1, 1) := by decide +kernel
theorem dL_door_10 : decode cL_door 10 = .ok (.goto 4, 3) := by decide +kernel
theorem dL_door_13 : decode cL_door 13 = .ok (.iconst 0, 1) := by decide +kernel
theorem dL_door_14 : decode cL_door 14 = .ok (.ireturn, 1) := by decide +kernel
theorem dL_door_15 : decode cL_door 15 = .ok (.astore_n 3, 1) := by decide +kernel
theorem dL_door_16 : decode cL_door 16 = .ok (.ldc 18, 2) := by decide +kernel
theorem dL_door_18 : decode cL_door 18 = .ok (.ireturn, 1) := by decide +kernel
set_option maxRecDepth 20000 in
theorem ggL_share_X3_share : GoodIn wsL_share wsX3_share := goodIn_ca (goodIn_ca (goodIn_r _ [9, 10, 11, 12, 13, 14, 15, 16, 17, 8, 18, 19, 20, 21, 22, 23, 24, 25, 26, 27, 28, 29, 30, 31, 32] (by decide +kernel) (by decide +kernel)) (goodIn_sub (fun _ h => List.mem_cons_of_mem _ (List.mem_append_left _ (List.mem_append_right _ h))) (by decide +kernel))) (goodIn_sub (fun _ h => List.mem_cons_of_mem _ (List.mem_append_right _ h)) (by decide +kernel))
set_option maxRecDepth 20000 in
theorem gL_share_X3_share : GoodIn wsL_share (wsV RL 50 RX3 yX3_share wsX3_share) := goodIn_app (goodIn_of _ (by decide +kernel)) ggL_share_X3_share
theorem dL_share_0 : decode cL_share 0 = .ok (.aload_n 0, 1) := by decide +kernel
theorem dL_share_1 : decode cL_share 1 = .ok (.iload_n 1, 1) := by decide +kernel
theorem dL_share_2 : decode cL_share 2 = .ok (.iload_n 2, 1) := by decide +kernel
theorem dL_share_3 : decode cL_share 3 = .ok (.iload_n 3, 1) := by decide +kernel
theorem dL_share_4 : decode cL_share 4 = .ok (.invokevirtual 50, 3) := by decide +kernel
theorem dL_share_7 : decode cL_share 7 = .ok (.ireturn, 1) := by decide +kernel
theorem dL_share_8 : decode cL_share 8 = .ok (.astore 4, 2) := by decide +kernel
theorem dL_share_10 : decode cL_share 10 = .ok (.ldc 18, 2) := by decide +kernel
theorem dL_share_12 : decode cL_share 12 = .ok (.ireturn, 1) := by decide +kernel
theorem dL_share_13 : decode cL_share 13 = .ok (.astore 4, 2) := by decide +kernel
theorem dL_share_15 : decode cL_share 15 = .ok (.ldc 21, 2) := by decide +kernel
theorem dL_share_17 : decode cL_share 17 = .ok (.ireturn, 1) := by decide +kernel
set_option maxRecDepth 20000 in
theorem ggL_use_X3_use : GoodIn wsL_use wsX3_use := goodIn_ca (goodIn_r _ [7, 8, 9, 10, 11, 12, 6, 13, 14, 15, 16, 17, 18, 19, 20, 21, 22, 23, 24, 25, 26, 27, 28, 29, 30, 31, 32, 33, 34, 35, 36, 37, 38, 39, 40, 41, 42, 43, 44, 45, 46, 47, 48, 49, 50, 51, 52, 53, 54, 55, 56, 57, 58, 59, 60, 61, 62, 63, 64, 65, 66, 67, 68, 69, 70, 71, 72, 73, 74, 75, 76, 77] (by decide +kernel) (by decide +kernel)) (goodIn_sub (fun _ h => List.mem_cons_of_mem _ (List.mem_append_right _ h)) (by decide +kernel))
set_option maxRecDepth 20000 in
theorem gL_use_X3_use : GoodIn wsL_use (wsV RL 53 RX3 yX3_use wsX3_use) := goodIn_app (goodIn_of _ (by decide +kernel)) ggL_use_X3_use
theorem dL_use_0 : decode cL_use 0 = .ok (.aload_n 0, 1) := by decide +kernel
theorem dL_use_1 : decode cL_use 1 = .ok (.iload_n 1, 1) := by decide +kernel
theorem dL_use_2 : decode cL_use 2 = .ok (.invokevirtual 53, 3) := by decide +kernel
theorem dL_use_5 : decode cL_use 5 = .ok (.ifCond .eq 7, 3) := by decide +kernel
theorem dL_use_8 : decode cL_use 8 = .ok (.iconst 1, 1) := by decide +kernel
theorem dL_use_9 : decode cL_use 9 = .ok (.goto 4, 3) := by decide +kernel
theorem dL_use_12 : decode cL_use 12 = .ok (.iconst 0, 1) := by decide +kernel
theorem dL_use_13 : decode cL_use 13 = .ok (.ireturn, 1) := by decide +kernel
theorem dL_use_14 : decode cL_use 14 = .ok (.astore_n 2, 1) := by decide +kernel
theorem dL_use_15 : decode cL_use 15 = .ok (.ldc 18, 2) := by decide +kernel
theorem dL_use_17 : decode cL_use 17 = .ok (.ireturn, 1) := by decide +kernel
set_option maxRecDepth 20000 in
theorem ggL_of_X3_of : GoodIn wsL_of wsX3_of := goodIn_ca (goodIn_ca (goodIn_r _ [9, 10, 11, 12, 13, 14, 15, 16, 17, 18, 8, 19, 20, 21, 22, 23, 24, 25, 26, 27, 28, 29, 30, 31, 32, 33, 34, 35, 36, 37, 38, 39, 40, 41, 42, 43, 44, 45, 46, 47, 48, 49, 50, 51, 52, 53, 54, 55, 56, 57, 58, 59, 60, 61, 62, 63, 64, 65, 66, 67, 68, 69, 70, 71, 72, 73, 74, 75, 76, 77, 78, 79, 80, 81, 82, 83, 84, 85, 86, 87, 88, 89, 90, 91, 92, 93] (by decide +kernel) (by decide +kernel)) (goodIn_sub (fun _ h => List.mem_cons_of_mem _ (List.mem_append_left _ (List.mem_append_right _ h))) (by decide +kernel))) (goodIn_sub (fun _ h => List.mem_cons_of_mem _ (List.mem_append_right _ h)) (by decide +kernel))
set_option maxRecDepth 20000 in
theorem gL_of_X3_of : GoodIn wsL_of (wsV RL 57 RX3 yX3_of wsX3_of) := goodIn_app (goodIn_of _ (by decide +kernel)) ggL_of_X3_of
theorem dL_of_0 : decode cL_of 0 = .ok (.aload_n 0, 1) := by decide +kernel
theorem dL_of_1 : decode cL_of 1 = .ok (.iload_n 1, 1) := by decide +kernel
theorem dL_of_2 : decode cL_of 2 = .ok (.iload_n 2, 1) := by decide +kernel
theorem dL_of_3 : decode cL_of 3 = .ok (.invokevirtual 57, 3) := by decide +kernel
theorem dL_of_6 : decode cL_of 6 = .ok (.ireturn, 1) := by decide +kernel
theorem dL_of_7 : decode cL_of 7 = .ok (.astore_n 3, 1) := by decide +kernel
theorem dL_of_8 : decode cL_of 8 = .ok (.ldc 18, 2) := by decide +kernel
theorem dL_of_10 : decode cL_of 10 = .ok (.ireturn, 1) := by decide +kernel
theorem dL_of_11 : decode cL_of 11 = .ok (.astore_n 3, 1) := by decide +kernel
theorem dL_of_12 : decode cL_of 12 = .ok (.ldc 21, 2) := by decide +kernel
theorem dL_of_14 : decode cL_of 14 = .ok (.ireturn, 1) := by decide +kernel
set_option maxRecDepth 20000 in
theorem ggL_taintedAnew_X3_taintedAnew : GoodIn wsL_taintedAnew wsX3_taintedAnew := goodIn_ca (goodIn_r _ [7, 8, 9, 10, 11, 12, 13, 6, 14, 15, 16, 17, 18, 19, 20, 21, 22, 23, 24, 25, 26, 27, 28, 29, 30, 31, 32, 33, 34, 35, 36, 37, 38, 39, 40, 41, 42, 43, 44, 45, 46, 47, 48, 49, 50, 51, 52, 53, 54, 55, 56, 57, 58, 59, 60, 61, 62, 63, 64, 65, 66, 67, 68, 69, 70, 71, 72, 73, 74, 75, 76, 77, 78, 79, 80, 81, 82, 83, 84, 85, 86, 87] (by decide +kernel) (by decide +kernel)) (goodIn_sub (fun _ h => List.mem_cons_of_mem _ (List.mem_append_right _ h)) (by decide +kernel))
set_option maxRecDepth 20000 in
theorem gL_taintedAnew_X3_taintedAnew : GoodIn wsL_taintedAnew (wsV RL 60 RX3 yX3_taintedAnew wsX3_taintedAnew) := goodIn_app (goodIn_of _ (by decide +kernel)) ggL_taintedAnew_X3_taintedAnew
theorem dL_taintedAnew_0 : decode cL_taintedAnew 0 = .ok (.aload_n 0, 1) := by decide +kernel
theorem dL_taintedAnew_1 : decode cL_taintedAnew 1 = .ok (.iload_n 1, 1) := by decide +kernel
theorem dL_taintedAnew_2 : decode cL_taintedAnew 2 = .ok (.invokevirtual 60, 3) := by decide +kernel
theorem dL_taintedAnew_5 : decode cL_taintedAnew 5 = .ok (.ifCond .eq 7, 3) := by decide +kernel
theorem dL_taintedAnew_8 : decode cL_taintedAnew 8 = .ok (.iconst 1, 1) := by decide +kernel
theorem dL_taintedAnew_9 : decode cL_taintedAnew 9 = .ok (.goto 4, 3) := by decide +kernel
theorem dL_taintedAnew_12 : decode cL_taintedAnew 12 = .ok (.iconst 0, 1) := by decide +kernel
theorem dL_taintedAnew_13 : decode cL_taintedAnew 13 = .ok (.ireturn, 1) := by decide +kernel
theorem dL_taintedAnew_14 : decode cL_taintedAnew 14 = .ok (.astore_n 2, 1) := by decide +kernel
theorem dL_taintedAnew_15 : decode cL_taintedAnew 15 = .ok (.ldc 18, 2) := by decide +kernel
theorem dL_taintedAnew_17 : decode cL_taintedAnew 17 = .ok (.ireturn, 1) := by decide +kernel
set_option maxRecDepth 20000 in
theorem ggL_chain_X3_chain : GoodIn wsL_chain wsX3_chain := goodIn_ca (goodIn_r _ [7, 8, 9, 10, 11, 12, 6, 13, 14, 15, 16, 17, 18, 19, 20, 21, 22, 23, 24, 25, 26, 27, 28, 29, 30, 31, 32, 33, 34, 35, 36] (by decide +kernel) (by decide +kernel)) (goodIn_sub (fun _ h => List.mem_cons_of_mem _ (List.mem_append_right _ h)) (by decide +kernel))
set_option maxRecDepth 20000 in
theorem gL_chain_X3_chain : GoodIn wsL_chain (wsV RL 63 RX3 yX3_chain wsX3_chain) := goodIn_app (goodIn_of _ (by decide +kernel)) ggL_chain_X3_chain
theorem dL_chain_0 : decode cL_chain 0 = .ok (.aload_n 0, 1) := by decide +kernel
theorem dL_chain_1 : decode cL_chain 1 = .ok (.iload_n 1, 1) := by decide +kernel
theorem dL_chain_2 : decode cL_chain 2 = .ok (.invokevirtual 63, 3) := by decide +kernel
theorem dL_chain_5 : decode cL_chain 5 = .ok (.ireturn, 1) := by decide +kernel
theorem dL_chain_6 : decode cL_chain 6 = .ok (.astore_n 2, 1) := by decide +kernel
theorem dL_chain_7 : decode cL_chain 7 = .ok (.ldc 18, 2) := by decide +kernel
theorem dL_chain_9 : decode cL_chain 9 = .ok (.ireturn, 1) := by decide +kernel
set_option maxRecDepth 20000 in
theorem ggL_ending_X3_ending : GoodIn wsL_ending wsX3_ending := goodIn_ca (goodIn_r _ [7, 8, 9, 10, 11, 12, 13, 14, 15, 16, 17, 18, 19, 20, 21, 22, 23, 24, 25, 26, 27, 28, 29, 30, 31, 32, 33, 34, 35, 36, 37] (by decide +kernel) (by decide +kernel)) (goodIn_sub (fun _ h => List.mem_cons_of_mem _ (List.mem_append_right _ h)) (by decide +kernel))
set_option maxRecDepth 20000 in
theorem gL_ending_X3_ending : GoodIn wsL_ending (wsV RL 66 RX3 yX3_ending wsX3_ending) := goodIn_app (goodIn_of _ (by decide +kernel)) ggL_ending_X3_ending
theorem dL_ending_0 : decode cL_ending 0 = .ok (.aload_n 0, 1) := by decide +kernel
theorem dL_ending_1 : decode cL_ending 1 = .ok (.iload_n 1, 1) := by decide +kernel
theorem dL_ending_2 : decode cL_ending 2 = .ok (.invokevirtual 66, 3) := by decide +kernel
theorem dL_ending_5 : decode cL_ending 5 = .ok (.ireturn, 1) := by decide +kernel
theorem dL_ending_6 : decode cL_ending 6 = .ok (.astore_n 2, 1) := by decide +kernel
theorem dL_ending_7 : decode cL_ending 7 = .ok (.ldc 18, 2) := by decide +kernel
theorem dL_ending_9 : decode cL_ending 9 = .ok (.ireturn, 1) := by decide +kernel
set_option maxRecDepth 20000 in
theorem ggL_keyOf_X3_keyOf : GoodIn wsL_keyOf wsX3_keyOf := goodIn_ca (goodIn_ca (goodIn_r _ [9, 10, 11, 12, 13, 14, 15, 16, 17, 8, 18, 19, 20, 21, 22, 23, 24, 25, 26, 27, 28, 29, 30, 31, 32, 33, 34, 35, 36, 37, 38, 39, 40, 41, 42, 43, 44, 45, 46, 47, 48, 49, 50, 51, 52, 53, 54, 55, 56, 57, 58, 59, 60, 61, 62, 63, 64, 65, 66, 67, 68, 69, 70, 71, 72, 73, 74, 75, 76, 77, 78, 79, 80, 81] (by decide +kernel) (by decide +kernel)) (goodIn_sub (fun _ h => List.mem_cons_of_mem _ (List.mem_append_left _ (List.mem_append_right _ h))) (by decide +kernel))) (goodIn_sub (fun _ h => List.mem_cons_of_mem _ (List.mem_append_right _ h)) (by decide +kernel))
set_option maxRecDepth 20000 in
theorem gL_keyOf_X3_keyOf : GoodIn wsL_keyOf (wsV RL 69 RX3 yX3_keyOf wsX3_keyOf) := goodIn_app (goodIn_of _ (by decide +kernel)) ggL_keyOf_X3_keyOf
theorem dL_keyOf_0 : decode cL_keyOf 0 = .ok (.aload_n 0, 1) := by decide +kernel
theorem dL_keyOf_1 : decode cL_keyOf 1 = .ok (.iload_n 1, 1) := by decide +kernel
theorem dL_keyOf_2 : decode cL_keyOf 2 = .ok (.iload_n 2, 1) := by decide +kernel
theorem dL_keyOf_3 : decode cL_keyOf 3 = .ok (.invokevirtual 69, 3) := by decide +kernel
theorem dL_keyOf_6 : decode cL_keyOf 6 = .ok (.ireturn, 1) := by decide +kernel
theorem dL_keyOf_7 : decode cL_keyOf 7 = .ok (.astore_n 3, 1) := by decide +kernel
theorem dL_keyOf_8 : decode cL_keyOf 8 = .ok (.ldc 18, 2) := by decide +kernel
theorem dL_keyOf_10 : decode cL_keyOf 10 = .ok (.ireturn, 1) := by decide +kernel
theorem dL_keyOf_11 : decode cL_keyOf 11 = .ok (.astore_n 3, 1) := by decide +kernel
theorem dL_keyOf_12 : decode cL_keyOf 12 = .ok (.ldc 21, 2) := by decide +kernel
theorem dL_keyOf_14 : decode cL_keyOf 14 = .ok (.ireturn, 1) := by decide +kernel
set_option maxRecDepth 20000 in
theorem ggL_sign_X3_sign : GoodIn wsL_sign wsX3_sign := goodIn_ca (goodIn_r _ [7, 8, 9, 10, 11, 12, 6, 13, 14, 15, 16, 17, 18, 19, 20, 21, 22, 23, 24, 25, 26, 27, 28, 29, 30, 31, 32, 33, 34, 35, 36, 37, 38, 39, 40, 41, 42, 43, 44, 45, 46, 47, 48, 49, 50, 51, 52, 53, 54, 55, 56, 57, 58, 59, 60, 61, 62, 63, 64, 65, 66, 67, 68, 69, 70, 71, 72, 73, 74, 75, 76, 77, 78, 79, 80, 81, 82, 83, 84, 85, 86, 87, 88, 89, 90, 91, 92, 93, 94, 95, 96, 97, 98, 99, 100, 101, 102, 103, 104, 105, 106, 107, 108, 109, 110, 111, 112, 113, 114, 115, 116, 117, 118, 119, 120, 121, 122, 123, 124, 125, 126, 127, 128, 129, 130, 131, 132, 133, 134, 135, 136, 137, 138, 139, 140, 141, 142, 143, 144, 145, 146, 147, 148, 149, 150, 151, 152, 153, 154, 155, 156, 157, 158, 159, 160, 161, 162, 163, 164, 165, 166, 167, 168, 169, 170, 171, 172, 173, 174, 175, 176, 177, 178, 179, 180, 181, 182, 183, 184, 185, 186, 187, 188, 189, 190, 191, 192, 193, 194, 195, 196, 197, 198, 199, 200, 201, 202, 203, 204, 205, 206, 207, 208, 209, 210, 211, 212, 213, 214, 215, 216, 217, 218, 219, 220, 221, 222, 223, 224, 225, 226, 227] (by decide +kernel) (by decide +kernel)) (goodIn_sub (fun _ h => List.mem_cons_of_mem _ (List.mem_append_right _ h)) (by decide +kernel))
set_option maxRecDepth 20000 in
theorem gL_sign_X3_sign : GoodIn wsL_sign (wsV RL 72 RX3 yX3_sign wsX3_sign) := goodIn_app (goodIn_of _ (by decide +kernel)) ggL_sign_X3_sign
theorem dL_sign_0 : decode cL_sign 0 = .ok (.aload_n 0, 1) := by decide +kernel
theorem dL_sign_1 : decode cL_sign 1 = .ok (.iload_n 1, 1) := by decide +kernel
theorem dL_sign_2 : decode cL_sign 2 = .ok (.iload_n 2, 1) := by decide +kernel
theorem dL_sign_3 : decode cL_sign 3 = .ok (.invokevirtual 72, 3) := by decide +kernel
theorem dL_sign_6 : decode cL_sign 6 = .ok (.ireturn, 1) := by decide +kernel
theorem dL_sign_7 : decode cL_sign 7 = .ok (.astore_n 3, 1) := by decide +kernel
theorem dL_sign_8 : decode cL_sign 8 = .ok (.ldc 18, 2) := by decide +kernel
theorem dL_sign_10 : decode cL_sign 10 = .ok (.ireturn, 1) := by decide +kernel
set_option maxRecDepth 20000 in
theorem ggL_arePersons_L_of : GoodIn wsL_arePersons wsL_of := goodIn_ca (goodIn_ca (goodIn_r _ [5, 6, 7, 8, 1, 9, 10, 11, 12, 13, 14, 15, 16, 17, 18, 19, 20, 21, 22, 23, 24, 25, 26, 27, 28, 29, 30, 31, 32, 33, 34, 35, 36, 37, 38, 39, 40, 41, 42, 43, 44, 45, 46, 47, 48, 49, 50, 51, 52, 53, 54, 55, 56, 57, 58, 59, 60, 61, 62, 63, 64, 65, 66, 67, 68, 69, 70, 71, 72, 73, 74, 75, 76, 77, 78, 159, 160, 161, 162, 163, 164, 165, 166, 167, 168, 169, 170, 171, 172, 173, 174, 175, 176, 177] (by decide +kernel) (by decide +kernel)) (goodIn_sub (fun _ h => List.mem_cons_of_mem _ (List.mem_append_left _ (List.mem_append_right _ h))) (by decide +kernel))) (goodIn_sub (fun _ h => List.mem_cons_of_mem _ (List.mem_append_right _ h)) (by decide +kernel))
set_option maxRecDepth 20000 in
theorem gL_arePersons_L_of : GoodIn wsL_arePersons (va_wsS RL 76 yL_of wsL_of) := goodIn_app (goodIn_of _ (by decide +kernel)) ggL_arePersons_L_of
set_option maxRecDepth 20000 in
theorem ggL_arePersons_L_chain : GoodIn wsL_arePersons wsL_chain := goodIn_ca (goodIn_r _ [81, 6, 8, 82, 83, 84, 12, 85, 14, 15, 20, 21, 22, 23, 86, 39, 40, 36, 41, 42, 43, 44, 159, 160, 161, 162, 163, 164, 165, 170, 171, 172, 173, 174, 175, 176, 177] (by decide +kernel) (by decide +kernel)) (goodIn_sub (fun _ h => List.mem_cons_of_mem _ (List.mem_append_left _ (List.mem_append_right _ h))) (by decide +kernel))
set_option maxRecDepth 20000 in
theorem gL_arePersons_L_chain : GoodIn wsL_arePersons (va_wsS RL 81 yL_chain wsL_chain) := goodIn_app (goodIn_of _ (by decide +kernel)) ggL_arePersons_L_chain
set_option maxRecDepth 20000 in
theorem ggL_arePersons_L_taintedAnew : GoodIn wsL_arePersons wsL_taintedAnew := goodIn_ca (goodIn_r _ [89, 6, 8, 90, 91, 92, 12, 93, 14, 15, 94, 95, 21, 22, 23, 96, 97, 98, 99, 100, 101, 102, 103, 104, 36, 105, 42, 54, 78, 49, 106, 107, 108, 109, 110, 111, 112, 113, 114, 115, 116, 117, 118, 119, 120, 121, 122, 123, 124, 125, 126, 127, 128, 129, 130, 131, 132, 45, 46, 47, 48, 50, 51, 52, 53, 43, 44, 159, 160, 161, 162, 163, 164, 165, 178, 179, 180, 181, 182, 183, 170, 171, 172, 173, 174, 175, 176, 177] (by decide +kernel) (by decide +kernel)) (goodIn_sub (fun _ h => List.mem_cons_of_mem _ (List.mem_append_left _ (List.mem_append_right _ h))) (by decide +kernel))
set_option maxRecDepth 20000 in
theorem gL_arePersons_L_taintedAnew : GoodIn wsL_arePersons (va_wsS RL 84 yL_taintedAnew wsL_taintedAnew) := goodIn_app (goodIn_of _ (by decide +kernel)) ggL_arePersons_L_taintedAnew
set_option maxRecDepth 20000 in
theorem ggL_arePersons_L_door : GoodIn wsL_arePersons wsL_door := goodIn_ca (goodIn_r _ [135, 6, 8, 136, 137, 138, 12, 139, 14, 15, 20, 21, 22, 23, 55, 56, 57, 36, 58, 59, 42, 60, 34, 35, 37, 38, 39, 40, 41, 43, 44, 140, 141, 142, 45, 46, 47, 48, 49, 50, 51, 52, 53, 54, 159, 160, 161, 162, 163, 164, 165, 170, 171, 172, 173, 174, 175, 176, 177] (by decide +kernel) (by decide +kernel)) (goodIn_sub (fun _ h => List.mem_cons_of_mem _ (List.mem_append_left _ (List.mem_append_right _ h))) (by decide +kernel))
set_option maxRecDepth 20000 in
theorem gL_arePersons_L_door : GoodIn wsL_arePersons (va_wsS RL 86 yL_door wsL_door) := goodIn_app (goodIn_of _ (by decide +kernel)) ggL_arePersons_L_door
set_option maxRecDepth 20000 in
theorem ggL_arePersons_L_ending : GoodIn wsL_arePersons wsL_ending := goodIn_ca (goodIn_r _ [145, 6, 8, 146, 147, 148, 12, 149, 14, 15, 18, 19, 24, 25, 26, 27, 28, 29, 150, 151, 152, 153, 154, 155, 156, 157, 158, 159, 160, 161, 162, 163, 164, 165, 166, 167, 168, 169] (by decide +kernel) (by decide +kernel)) (goodIn_sub (fun _ h => List.mem_cons_of_mem _ (List.mem_append_left _ (List.mem_append_right _ h))) (by decide +kernel))
set_option maxRecDepth 20000 in
theorem gL_arePersons_L_ending : GoodIn wsL_arePersons (va_wsS RL 88 yL_ending wsL_ending) := goodIn_app (goodIn_of _ (by decide +kernel)) ggL_arePersons_L_ending
theorem dL_arePersons_0 : decode cL_arePersons 0 = .ok (.iconst 1, 1) := by decide +kernel
theorem dL_arePersons_1 : decode cL_arePersons 1 = .ok (.istore_n 3, 1) := by decide +kernel
theorem dL_arePersons_2 : decode cL_arePersons 2 = .ok (.iconst 0, 1) := by decide +kernel
theorem dL_arePersons_3 : decode cL_arePersons 3 = .ok (.istore 4, 2) := by decide +kernel
theorem dL_arePersons_5 : decode cL_arePersons 5 = .ok (.iconst 0, 1) := by decide +kernel
theorem dL_arePersons_6 : decode cL_arePersons 6 = .ok (.istore 5, 2) := by decide +kernel
theorem dL_arePersons_8 : decode cL_arePersons 8 = .ok (.iload 5, 2) := by decide +kernel
theorem dL_arePersons_10 : decode cL_arePersons 10 = .ok (.bipush 12, 2) := by decide +kernel
theorem dL_arePersons_12 : decode cL_arePersons 12 = .ok (.if_icmp .ge 419, 3) := by decide +kernel
theorem dL_arePersons_15 : decode cL_arePersons 15 = .ok (.iload_n 3, 1) := by decide +kernel
theorem dL_arePersons_16 : decode cL_arePersons 16 = .ok (.ifCond .eq 415, 3) := by decide +kernel
theorem dL_arePersons_19 : decode cL_arePersons 19 = .ok (.aload_n 0, 1) := by decide +kernel
theorem dL_arePersons_20 : decode cL_arePersons 20 = .ok (.iload 5, 2) := by decide +kernel
theorem dL_arePersons_22 : decode cL_arePersons 22 = .ok (.iconst 4, 1) := by decide +kernel
theorem dL_arePersons_23 : decode cL_arePersons 23 = .ok (.invokestatic 76, 3) := by decide +kernel
theorem dL_arePersons_26 : decode cL_arePersons 26 = .ok (.istore 6, 2) := by decide +kernel
theorem dL_arePersons_28 : decode cL_arePersons 28 = .ok (.aload_n 0, 1) := by decide +kernel
theorem dL_arePersons_29 : decode cL_arePersons 29 = .ok (.iload 5, 2) := by decide +kernel
theorem dL_arePersons_31 : decode cL_arePersons 31 = .ok (.invokestatic 81, 3) := by decide +kernel
theorem dL_arePersons_34 : decode cL_arePersons 34 = .ok (.istore 7, 2) := by decide +kernel
theorem dL_arePersons_36 : decode cL_arePersons 36 = .ok (.aload_n 0, 1) := by decide +kernel
theorem dL_arePersons_37 : decode cL_arePersons 37 = .ok (.iload 5, 2) := by decide +kernel
theorem dL_arePersons_39 : decode cL_arePersons 39 = .ok (.iconst 3, 1) := by decide +kernel
theorem dL_arePersons_40 : decode cL_arePersons 40 = .ok (.invokestatic 76, 3) := by decide +kernel
theorem dL_arePersons_43 : decode cL_arePersons 43 = .ok (.istore 8, 2) := by decide +kernel
theorem dL_arePersons_45 : decode cL_arePersons 45 = .ok (.aload_n 0, 1) := by decide +kernel
theorem dL_arePersons_46 : decode cL_arePersons 46 = .ok (.iload 5, 2) := by decide +kernel
theorem dL_arePersons_48 : decode cL_arePersons 48 = .ok (.bipush 6, 2) := by decide +kernel
theorem dL_arePersons_50 : decode cL_arePersons 50 = .ok (.invokestatic 76, 3) := by decide +kernel
theorem dL_arePersons_53 : decode cL_arePersons 53 = .ok (.istore 9, 2) := by decide +kernel
theorem dL_arePersons_55 : decode cL_arePersons 55 = .ok (.aload_n 0, 1) := by decide +kernel
theorem dL_arePersons_56 : decode cL_arePersons 56 = .ok (.iload 5, 2) := by decide +kernel
theorem dL_arePersons_58 : decode cL_arePersons 58 = .ok (.iconst 2, 1) := by decide +kernel
theorem dL_arePersons_59 : decode cL_arePersons 59 = .ok (.invokestatic 76, 3) := by decide +kernel
theorem dL_arePersons_62 : decode cL_arePersons 62 = .ok (.istore 10, 2) := by decide +kernel
theorem dL_arePersons_64 : decode cL_arePersons 64 = .ok (.iload 4, 2) := by decide +kernel
theorem dL_arePersons_66 : decode cL_arePersons 66 = .ok (.aload_n 0, 1) := by decide +kernel
theorem dL_arePersons_67 : decode cL_arePersons 67 = .ok (.iload 5, 2) := by decide +kernel
theorem dL_arePersons_69 : decode cL_arePersons 69 = .ok (.iconst 0, 1) := by decide +kernel
theorem dL_arePersons_70 : decode cL_arePersons 70 = .ok (.invokestatic 76, 3) := by decide +kernel
theorem dL_arePersons_73 : decode cL_arePersons 73 = .ok (.iadd, 1) := by decide +kernel
theorem dL_arePersons_74 : decode cL_arePersons 74 = .ok (.istore 4, 2) := by decide +kernel
theorem dL_arePersons_76 : decode cL_arePersons 76 = .ok (.aload_n 0, 1) := by decide +kernel
theorem dL_arePersons_77 : decode cL_arePersons 77 = .ok (.iload 5, 2) := by decide +kernel
theorem dL_arePersons_79 : decode cL_arePersons 79 = .ok (.iconst 0, 1) := by decide +kernel
theorem dL_arePersons_80 : decode cL_arePersons 80 = .ok (.invokestatic 76, 3) := by decide +kernel
theorem dL_arePersons_83 : decode cL_arePersons 83 = .ok (.iload 9, 2) := by decide +kernel
theorem dL_arePersons_85 : decode cL_arePersons 85 = .ok (.aload_n 1, 1) := by decide +kernel
theorem dL_arePersons_86 : decode cL_arePersons 86 = .ok (.iconst 0, 1) := by decide +kernel
theorem dL_arePersons_87 : decode cL_arePersons 87 = .ok (.iaload, 1) := by decide +kernel
theorem dL_arePersons_88 : decode cL_arePersons 88 = .ok (.if_icmp .le 7, 3) := by decide +kernel
theorem dL_arePersons_91 : decode cL_arePersons 91 = .ok (.iconst 1, 1) := by decide +kernel
theorem dL_arePersons_92 : decode cL_arePersons 92 = .ok (.goto 4, 3) := by decide +kernel
theorem dL_arePersons_95 : decode cL_arePersons 95 = .ok (.iconst 0, 1) := by decide +kernel
theorem dL_arePersons_96 : decode cL_arePersons 96 = .ok (.if_icmp .ne 146, 3) := by decide +kernel
theorem dL_arePersons_99 : decode cL_arePersons 99 = .ok (.iload 9, 2) := by decide +kernel
theorem dL_arePersons_101 : decode cL_arePersons 101 = .ok (.aload_n 1, 1) := by decide +kernel
theorem dL_arePersons_102 : decode cL_arePersons 102 = .ok (.iconst 0, 1) := by decide +kernel
theorem dL_arePersons_103 : decode cL_arePersons 103 = .ok (.iaload, 1) := by decide +kernel
theorem dL_arePersons_104 : decode cL_arePersons 104 = .ok (.bipush 30, 2) := by decide +kernel
theorem dL_arePersons_106 : decode cL_arePersons 106 = .ok (.iadd, 1) := by decide +kernel
theorem dL_arePersons_107 : decode cL_arePersons 107 = .ok (.if_icmp .gt 135, 3) := by decide +kernel
theorem dL_arePersons_110 : decode cL_arePersons 110 = .ok (.iload 9, 2) := by decide +kernel
theorem dL_arePersons_112 : decode cL_arePersons 112 = .ok (.aload_n 1, 1) := by decide +kernel
theorem dL_arePersons_113 : decode cL_arePersons 113 = .ok (.iconst 0, 1) := by decide +kernel
theorem dL_arePersons_114 : decode cL_arePersons 114 = .ok (.iaload, 1) := by decide +kernel
theorem dL_arePersons_115 : decode cL_arePersons 115 = .ok (.if_icmp .gt 9, 3) := by decide +kernel
theorem dL_arePersons_118 : decode cL_arePersons 118 = .ok (.iload 9, 2) := by decide +kernel
theorem dL_arePersons_120 : decode cL_arePersons 120 = .ok (.iconst (-1), 1) := by decide +kernel
theorem dL_arePersons_121 : decode cL_arePersons 121 = .ok (.if_icmp .ne 121, 3) := by decide +kernel
theorem dL_arePersons_124 : decode cL_arePersons 124 = .ok (.aload_n 0, 1) := by decide +kernel
theorem dL_arePersons_125 : decode cL_arePersons 125 = .ok (.iload 5, 2) := by decide +kernel
theorem dL_arePersons_127 : decode cL_arePersons 127 = .ok (.iconst 1, 1) := by decide +kernel
theorem dL_arePersons_128 : decode cL_arePersons 128 = .ok (.invokestatic 76, 3) := by decide +kernel
theorem dL_arePersons_131 : decode cL_arePersons 131 = .ok (.iload 7, 2) := by decide +kernel
theorem dL_arePersons_133 : decode cL_arePersons 133 = .ok (.ifCond .lt 7, 3) := by decide +kernel
theorem dL_arePersons_136 : decode cL_arePersons 136 = .ok (.iconst 1, 1) := by decide +kernel
theorem dL_arePersons_137 : decode cL_arePersons 137 = .ok (.goto 4, 3) := by decide +kernel
theorem dL_arePersons_140 : decode cL_arePersons 140 = .ok (.iconst 0, 1) := by decide +kernel
theorem dL_arePersons_141 : decode cL_arePersons 141 = .ok (.if_icmp .ne 101, 3) := by decide +kernel
theorem dL_arePersons_144 : decode cL_arePersons 144 = .ok (.iload 7, 2) := by decide +kernel
theorem dL_arePersons_146 : decode cL_arePersons 146 = .ok (.bipush 9, 2) := by decide +kernel
theorem dL_arePersons_148 : decode cL_arePersons 148 = .ok (.if_icmp .ge 94, 3) := by decide +kernel
theorem dL_arePersons_151 : decode cL_arePersons 151 = .ok (.iload 10, 2) := by decide +kernel
theorem dL_arePersons_153 : decode cL_arePersons 153 = .ok (.iconst 1, 1) := by decide +kernel
theorem dL_arePersons_154 : decode cL_arePersons 154 = .ok (.if_icmp .ne 7, 3) := by decide +kernel
theorem dL_arePersons_157 : decode cL_arePersons 157 = .ok (.iconst 1, 1) := by decide +kernel
theorem dL_arePersons_158 : decode cL_arePersons 158 = .ok (.goto 4, 3) := by decide +kernel
theorem dL_arePersons_161 : decode cL_arePersons 161 = .ok (.iconst 0, 1) := by decide +kernel
theorem dL_arePersons_162 : decode cL_arePersons 162 = .ok (.aload_n 0, 1) := by decide +kernel
theorem dL_arePersons_163 : decode cL_arePersons 163 = .ok (.iload 5, 2) := by decide +kernel
theorem dL_arePersons_165 : decode cL_arePersons 165 = .ok (.invokestatic 84, 3) := by decide +kernel
theorem dL_arePersons_168 : decode cL_arePersons 168 = .ok (.iconst 1, 1) := by decide +kernel
theorem dL_arePersons_169 : decode cL_arePersons 169 = .ok (.if_icmp .ne 7, 3) := by decide +kernel
theorem dL_arePersons_172 : decode cL_arePersons 172 = .ok (.iconst 1, 1) := by decide +kernel
theorem dL_arePersons_173 : decode cL_arePersons 173 = .ok (.goto 4, 3) := by decide +kernel
theorem dL_arePersons_176 : decode cL_arePersons 176 = .ok (.iconst 0, 1) := by decide +kernel
theorem dL_arePersons_177 : decode cL_arePersons 177 = .ok (.if_icmp .ne 65, 3) := by decide +kernel
theorem dL_arePersons_180 : decode cL_arePersons 180 = .ok (.aload_n 0, 1) := by decide +kernel
theorem dL_arePersons_181 : decode cL_arePersons 181 = .ok (.iload 5, 2) := by decide +kernel
theorem dL_arePersons_183 : decode cL_arePersons 183 = .ok (.iconst 5, 1) := by decide +kernel
theorem dL_arePersons_184 : decode cL_arePersons 184 = .ok (.invokestatic 76, 3) := by decide +kernel
theorem dL_arePersons_187 : decode cL_arePersons 187 = .ok (.ifCond .lt 55, 3) := by decide +kernel
theorem dL_arePersons_190 : decode cL_arePersons 190 = .ok (.aload_n 0, 1) := by decide +kernel
theorem dL_arePersons_191 : decode cL_arePersons 191 = .ok (.iload 5, 2) := by decide +kernel
theorem dL_arePersons_193 : decode cL_arePersons 193 = .ok (.iconst 5, 1) := by decide +kernel
theorem dL_arePersons_194 : decode cL_arePersons 194 = .ok (.invokestatic 76, 3) := by decide +kernel
theorem dL_arePersons_197 : decode cL_arePersons 197 = .ok (.iconst 3, 1) := by decide +kernel
theorem dL_arePersons_198 : decode cL_arePersons 198 = .ok (.if_icmp .ge 44, 3) := by decide +kernel
theorem dL_arePersons_201 : decode cL_arePersons 201 = .ok (.aload_n 0, 1) := by decide +kernel
theorem dL_arePersons_202 : decode cL_arePersons 202 = .ok (.iload 5, 2) := by decide +kernel
theorem dL_arePersons_204 : decode cL_arePersons 204 = .ok (.bipush 7, 2) := by decide +kernel
theorem dL_arePersons_206 : decode cL_arePersons 206 = .ok (.invokestatic 76, 3) := by decide +kernel
theorem dL_arePersons_209 : decode cL_arePersons 209 = .ok (.aload_n 2, 1) := by decide +kernel
theorem dL_arePersons_210 : decode cL_arePersons 210 = .ok (.iload 5, 2) := by decide +kernel
theorem dL_arePersons_212 : decode cL_arePersons 212 = .ok (.iaload, 1) := by decide +kernel
theorem dL_arePersons_213 : decode cL_arePersons 213 = .ok (.if_icmp .ne 29, 3) := by decide +kernel
theorem dL_arePersons_216 : decode cL_arePersons 216 = .ok (.iload 8, 2) := by decide +kernel
theorem dL_arePersons_218 : decode cL_arePersons 218 = .ok (.ifCond .lt 24, 3) := by decide +kernel
theorem dL_arePersons_221 : decode cL_arePersons 221 = .ok (.iload 8, 2) := by decide +kernel
theorem dL_arePersons_223 : decode cL_arePersons 223 = .ok (.bipush 64, 2) := by decide +kernel
theorem dL_arePersons_225 : decode cL_arePersons 225 = .ok (.if_icmp .ge 17, 3) := by decide +kernel
theorem dL_arePersons_228 : decode cL_arePersons 228 = .ok (.iload 7, 2) := by decide +kernel
theorem dL_arePersons_230 : decode cL_arePersons 230 = .ok (.ifCond .ge 8, 3) := by decide +kernel
theorem dL_arePersons_233 : decode cL_arePersons 233 = .ok (.iload 8, 2) := by decide +kernel
theorem dL_arePersons_235 : decode cL_arePersons 235 = .ok (.ifCond .ne 7, 3) := by decide +kernel
theorem dL_arePersons_238 : decode cL_arePersons 238 = .ok (.iconst 1, 1) := by decide +kernel
theorem dL_arePersons_239 : decode cL_arePersons 239 = .ok (.goto 4, 3) := by decide +kernel
theorem dL_arePersons_242 : decode cL_arePersons 242 = .ok (.iconst 0, 1) := by decide +kernel
theorem dL_arePersons_243 : decode cL_arePersons 243 = .ok (.istore_n 3, 1) := by decide +kernel
theorem dL_arePersons_244 : decode cL_arePersons 244 = .ok (.iload_n 3, 1) := by decide +kernel
theorem dL_arePersons_245 : decode cL_arePersons 245 = .ok (.ifCond .eq 103, 3) := by decide +kernel
theorem dL_arePersons_248 : decode cL_arePersons 248 = .ok (.iload 5, 2) := by decide +kernel
theorem dL_arePersons_250 : decode cL_arePersons 250 = .ok (.iconst 4, 1) := by decide +kernel
theorem dL_arePersons_251 : decode cL_arePersons 251 = .ok (.if_icmp .ge 24, 3) := by decide +kernel
theorem dL_arePersons_254 : decode cL_arePersons 254 = .ok (.iload 6, 2) := by decide +kernel
theorem dL_arePersons_256 : decode cL_arePersons 256 = .ok (.iconst (-1), 1) := by decide +kernel
theorem dL_arePersons_257 : decode cL_arePersons 257 = .ok (.if_icmp .ne 91, 3) := by decide +kernel
theorem dL_arePersons_260 : decode cL_arePersons 260 = .ok (.iload 7, 2) := by decide +kernel
theorem dL_arePersons_262 : decode cL_arePersons 262 = .ok (.ifCond .ne 86, 3) := by decide +kernel
theorem dL_arePersons_265 : decode cL_arePersons 265 = .ok (.iload 8, 2) := by decide +kernel
theorem dL_arePersons_267 : decode cL_arePersons 267 = .ok (.bipush 63, 2) := by decide +kernel
theorem dL_arePersons_269 : decode cL_arePersons 269 = .ok (.if_icmp .ne 79, 3) := by decide +kernel
theorem dL_arePersons_272 : decode cL_arePersons 272 = .ok (.goto 72, 3) := by decide +kernel
theorem dL_arePersons_275 : decode cL_arePersons 275 = .ok (.iload 6, 2) := by decide +kernel
theorem dL_arePersons_277 : decode cL_arePersons 277 = .ok (.ifCond .ge 12, 3) := by decide +kernel
theorem dL_arePersons_280 : decode cL_arePersons 280 = .ok (.iload 7, 2) := by decide +kernel
theorem dL_arePersons_282 : decode cL_arePersons 282 = .ok (.iconst (-1), 1) := by decide +kernel
theorem dL_arePersons_283 : decode cL_arePersons 283 = .ok (.if_icmp .ne 65, 3) := by decide +kernel
theorem dL_arePersons_286 : decode cL_arePersons 286 = .ok (.goto 58, 3) := by decide +kernel
theorem dL_arePersons_289 : decode cL_arePersons 289 = .ok (.iload 6, 2) := by decide +kernel
theorem dL_arePersons_291 : decode cL_arePersons 291 = .ok (.bipush 12, 2) := by decide +kernel
theorem dL_arePersons_293 : decode cL_arePersons 293 = .ok (.if_icmp .ge 55, 3) := by decide +kernel
theorem dL_arePersons_296 : decode cL_arePersons 296 = .ok (.iload 6, 2) := by decide +kernel
theorem dL_arePersons_298 : decode cL_arePersons 298 = .ok (.iload 5, 2) := by decide +kernel
theorem dL_arePersons_300 : decode cL_arePersons 300 = .ok (.if_icmp .eq 48, 3) := by decide +kernel
theorem dL_arePersons_303 : decode cL_arePersons 303 = .ok (.iload 7, 2) := by decide +kernel
theorem dL_arePersons_305 : decode cL_arePersons 305 = .ok (.aload_n 0, 1) := by decide +kernel
theorem dL_arePersons_306 : decode cL_arePersons 306 = .ok (.iload 6, 2) := by decide +kernel
theorem dL_arePersons_308 : decode cL_arePersons 308 = .ok (.invokestatic 81, 3) := by decide +kernel
theorem dL_arePersons_311 : decode cL_arePersons 311 = .ok (.ifCond .ge 7, 3) := by decide +kernel
theorem dL_arePersons_314 : decode cL_arePersons 314 = .ok (.iconst (-1), 1) := by decide +kernel
theorem dL_arePersons_315 : decode cL_arePersons 315 = .ok (.goto 11, 3) := by decide +kernel
theorem dL_arePersons_318 : decode cL_arePersons 318 = .ok (.aload_n 0, 1) := by decide +kernel
theorem dL_arePersons_319 : decode cL_arePersons 319 = .ok (.iload 6, 2) := by decide +kernel
theorem dL_arePersons_321 : decode cL_arePersons 321 = .ok (.invokestatic 81, 3) := by decide +kernel
theorem dL_arePersons_324 : decode cL_arePersons 324 = .ok (.iconst 1, 1) := by decide +kernel
theorem dL_arePersons_325 : decode cL_arePersons 325 = .ok (.iadd, 1) := by decide +kernel
theorem dL_arePersons_326 : decode cL_arePersons 326 = .ok (.if_icmp .ne 22, 3) := by decide +kernel
theorem dL_arePersons_329 : decode cL_arePersons 329 = .ok (.iload 8, 2) := by decide +kernel
theorem dL_arePersons_331 : decode cL_arePersons 331 = .ok (.aload_n 0, 1) := by decide +kernel
theorem dL_arePersons_332 : decode cL_arePersons 332 = .ok (.iload 6, 2) := by decide +kernel
theorem dL_arePersons_334 : decode cL_arePersons 334 = .ok (.iconst 3, 1) := by decide +kernel
theorem dL_arePersons_335 : decode cL_arePersons 335 = .ok (.invokestatic 76, 3) := by decide +kernel
theorem dL_arePersons_338 : decode cL_arePersons 338 = .ok (.iconst (-1), 1) := by decide +kernel
theorem dL_arePersons_339 : decode cL_arePersons 339 = .ok (.ixor, 1) := by decide +kernel
theorem dL_arePersons_340 : decode cL_arePersons 340 = .ok (.iand, 1) := by decide +kernel
theorem dL_arePersons_341 : decode cL_arePersons 341 = .ok (.ifCond .ne 7, 3) := by decide +kernel
theorem dL_arePersons_344 : decode cL_arePersons 344 = .ok (.iconst 1, 1) := by decide +kernel
theorem dL_arePersons_345 : decode cL_arePersons 345 = .ok (.goto 4, 3) := by decide +kernel
theorem dL_arePersons_348 : decode cL_arePersons 348 = .ok (.iconst 0, 1) := by decide +kernel
theorem dL_arePersons_349 : decode cL_arePersons 349 = .ok (.istore_n 3, 1) := by decide +kernel
theorem dL_arePersons_350 : decode cL_arePersons 350 = .ok (.iconst 0, 1) := by decide +kernel
theorem dL_arePersons_351 : decode cL_arePersons 351 = .ok (.istore 11, 2) := by decide +kernel
theorem dL_arePersons_353 : decode cL_arePersons 353 = .ok (.iconst 0, 1) := by decide +kernel
theorem dL_arePersons_354 : decode cL_arePersons 354 = .ok (.istore 12, 2) := by decide +kernel
theorem dL_arePersons_356 : decode cL_arePersons 356 = .ok (.iload 12, 2) := by decide +kernel
theorem dL_arePersons_358 : decode cL_arePersons 358 = .ok (.bipush 6, 2) := by decide +kernel
theorem dL_arePersons_360 : decode cL_arePersons 360 = .ok (.if_icmp .ge 25, 3) := by decide +kernel
theorem dL_arePersons_363 : decode cL_arePersons 363 = .ok (.iload 11, 2) := by decide +kernel
theorem dL_arePersons_365 : decode cL_arePersons 365 = .ok (.aload_n 0, 1) := by decide +kernel
theorem dL_arePersons_366 : decode cL_arePersons 366 = .ok (.iload 5, 2) := by decide +kernel
theorem dL_arePersons_368 : decode cL_arePersons 368 = .ok (.iload 12, 2) := by decide +kernel
theorem dL_arePersons_370 : decode cL_arePersons 370 = .ok (.invokestatic 86, 3) := by decide +kernel
theorem dL_arePersons_373 : decode cL_arePersons 373 = .ok (.iload 12, 2) := by decide +kernel
theorem dL_arePersons_375 : decode cL_arePersons 375 = .ok (.ishl, 1) := by decide +kernel
theorem dL_arePersons_376 : decode cL_arePersons 376 = .ok (.ior, 1) := by decide +kernel
theorem dL_arePersons_377 : decode cL_arePersons 377 = .ok (.istore 11, 2) := by decide +kernel
theorem dL_arePersons_379 : decode cL_arePersons 379 = .ok (.iinc 12 1, 3) := by decide +kernel
theorem dL_arePersons_382 : decode cL_arePersons 382 = .ok (.goto (-26), 3) := by decide +kernel
theorem dL_arePersons_385 : decode cL_arePersons 385 = .ok (.iload_n 3, 1) := by decide +kernel
theorem dL_arePersons_386 : decode cL_arePersons 386 = .ok (.ifCond .eq 37, 3) := by decide +kernel
theorem dL_arePersons_389 : decode cL_arePersons 389 = .ok (.iload 11, 2) := by decide +kernel
theorem dL_arePersons_391 : decode cL_arePersons 391 = .ok (.iload 10, 2) := by decide +kernel
theorem dL_arePersons_393 : decode cL_arePersons 393 = .ok (.iconst 1, 1) := by decide +kernel
theorem dL_arePersons_394 : decode cL_arePersons 394 = .ok (.if_icmp .ne 7, 3) := by decide +kernel
theorem dL_arePersons_397 : decode cL_arePersons 397 = .ok (.iconst 0, 1) := by decide +kernel
theorem dL_arePersons_398 : decode cL_arePersons 398 = .ok (.goto 5, 3) := by decide +kernel
theorem dL_arePersons_401 : decode cL_arePersons 401 = .ok (.iload 8, 2) := by decide +kernel
theorem dL_arePersons_403 : decode cL_arePersons 403 = .ok (.if_icmp .ne 20, 3) := by decide +kernel
theorem dL_arePersons_406 : decode cL_arePersons 406 = .ok (.aload_n 0, 1) := by decide +kernel
theorem dL_arePersons_407 : decode cL_arePersons 407 = .ok (.iload 5, 2) := by decide +kernel
theorem dL_arePersons_409 : decode cL_arePersons 409 = .ok (.bipush 8, 2) := by decide +kernel
theorem dL_arePersons_411 : decode cL_arePersons 411 = .ok (.invokestatic 76, 3) := by decide +kernel
theorem dL_arePersons_414 : decode cL_arePersons 414 = .ok (.ldc 21, 2) := by decide +kernel
theorem dL_arePersons_416 : decode cL_arePersons 416 = .ok (.if_icmp .ne 7, 3) := by decide +kernel
theorem dL_arePersons_419 : decode cL_arePersons 419 = .ok (.iconst 1, 1) := by decide +kernel
theorem dL_arePersons_420 : decode cL_arePersons 420 = .ok (.goto 4, 3) := by decide +kernel
theorem dL_arePersons_423 : decode cL_arePersons 423 = .ok (.iconst 0, 1) := by decide +kernel
theorem dL_arePersons_424 : decode cL_arePersons 424 = .ok (.istore_n 3, 1) := by decide +kernel
theorem dL_arePersons_425 : decode cL_arePersons 425 = .ok (.iinc 5 1, 3) := by decide +kernel
theorem dL_arePersons_428 : decode cL_arePersons 428 = .ok (.goto (-420), 3) := by decide +kernel
theorem dL_arePersons_431 : decode cL_arePersons 431 = .ok (.iconst 0, 1) := by decide +kernel
theorem dL_arePersons_432 : decode cL_arePersons 432 = .ok (.istore 5, 2) := by decide +kernel
theorem dL_arePersons_434 : decode cL_arePersons 434 = .ok (.iconst 0, 1) := by decide +kernel
theorem dL_arePersons_435 : decode cL_arePersons 435 = .ok (.istore 6, 2) := by decide +kernel
theorem dL_arePersons_437 : decode cL_arePersons 437 = .ok (.iload 6, 2) := by decide +kernel
theorem dL_arePersons_439 : decode cL_arePersons 439 = .ok (.iload 4, 2) := by decide +kernel
theorem dL_arePersons_441 : decode cL_arePersons 441 = .ok (.if_icmp .ge 62, 3) := by decide +kernel
theorem dL_arePersons_444 : decode cL_arePersons 444 = .ok (.iload_n 3, 1) := by decide +kernel
theorem dL_arePersons_445 : decode cL_arePersons 445 = .ok (.ifCond .eq 58, 3) := by decide +kernel
theorem dL_arePersons_448 : decode cL_arePersons 448 = .ok (.aload_n 0, 1) := by decide +kernel
theorem dL_arePersons_449 : decode cL_arePersons 449 = .ok (.iload 6, 2) := by decide +kernel
theorem dL_arePersons_451 : decode cL_arePersons 451 = .ok (.invokestatic 88, 3) := by decide +kernel
theorem dL_arePersons_454 : decode cL_arePersons 454 = .ok (.istore 7, 2) := by decide +kernel
theorem dL_arePersons_456 : decode cL_arePersons 456 = .ok (.iload 7, 2) := by decide +kernel
theorem dL_arePersons_458 : decode cL_arePersons 458 = .ok (.ifCond .ge 7, 3) := by decide +kernel
theorem dL_arePersons_461 : decode cL_arePersons 461 = .ok (.iconst (-1), 1) := by decide +kernel
theorem dL_arePersons_462 : decode cL_arePersons 462 = .ok (.goto 11, 3) := by decide +kernel
theorem dL_arePersons_465 : decode cL_arePersons 465 = .ok (.aload_n 0, 1) := by decide +kernel
theorem dL_arePersons_466 : decode cL_arePersons 466 = .ok (.iload 7, 2) := by decide +kernel
theorem dL_arePersons_468 : decode cL_arePersons 468 = .ok (.bipush 6, 2) := by decide +kernel
theorem dL_arePersons_470 : decode cL_arePersons 470 = .ok (.invokestatic 76, 3) := by decide +kernel
theorem dL_arePersons_473 : decode cL_arePersons 473 = .ok (.istore 8, 2) := by decide +kernel
theorem dL_arePersons_475 : decode cL_arePersons 475 = .ok (.iload 7, 2) := by decide +kernel
theorem dL_arePersons_477 : decode cL_arePersons 477 = .ok (.ifCond .lt 14, 3) := by decide +kernel
theorem dL_arePersons_480 : decode cL_arePersons 480 = .ok (.iload 8, 2) := by decide +kernel
theorem dL_arePersons_482 : decode cL_arePersons 482 = .ok (.iload 5, 2) := by decide +kernel
theorem dL_arePersons_484 : decode cL_arePersons 484 = .ok (.if_icmp .lt 7, 3) := by decide +kernel
theorem dL_arePersons_487 : decode cL_arePersons 487 = .ok (.iconst 1, 1) := by decide +kernel
theorem dL_arePersons_488 : decode cL_arePersons 488 = .ok (.goto 4, 3) := by decide +kernel
theorem dL_arePersons_491 : decode cL_arePersons 491 = .ok (.iconst 0, 1) := by decide +kernel
theorem dL_arePersons_492 : decode cL_arePersons 492 = .ok (.istore_n 3, 1) := by decide +kernel
theorem dL_arePersons_493 : decode cL_arePersons 493 = .ok (.iload 8, 2) := by decide +kernel
theorem dL_arePersons_495 : decode cL_arePersons 495 = .ok (.istore 5, 2) := by decide +kernel
theorem dL_arePersons_497 : decode cL_arePersons 497 = .ok (.iinc 6 1, 3) := by decide +kernel
theorem dL_arePersons_500 : decode cL_arePersons 500 = .ok (.goto (-63), 3) := by decide +kernel
theorem dL_arePersons_503 : decode cL_arePersons 503 = .ok (.iload_n 3, 1) := by decide +kernel
theorem dL_arePersons_504 : decode cL_arePersons 504 = .ok (.ifCond .eq 17, 3) := by decide +kernel
theorem dL_arePersons_507 : decode cL_arePersons 507 = .ok (.aload_n 0, 1) := by decide +kernel
theorem dL_arePersons_508 : decode cL_arePersons 508 = .ok (.iload 4, 2) := by decide +kernel
theorem dL_arePersons_510 : decode cL_arePersons 510 = .ok (.invokestatic 88, 3) := by decide +kernel
theorem dL_arePersons_513 : decode cL_arePersons 513 = .ok (.iconst (-1), 1) := by decide +kernel
theorem dL_arePersons_514 : decode cL_arePersons 514 = .ok (.if_icmp .ne 7, 3) := by decide +kernel
theorem dL_arePersons_517 : decode cL_arePersons 517 = .ok (.iconst 1, 1) := by decide +kernel
theorem dL_arePersons_518 : decode cL_arePersons 518 = .ok (.goto 4, 3) := by decide +kernel
theorem dL_arePersons_521 : decode cL_arePersons 521 = .ok (.iconst 0, 1) := by decide +kernel
theorem dL_arePersons_522 : decode cL_arePersons 522 = .ok (.ireturn, 1) := by decide +kernel
set_option maxRecDepth 20000 in
theorem ggL_areKeys_L_keyOf : GoodIn wsL_areKeys wsL_keyOf := goodIn_ca (goodIn_ca (goodIn_r _ [4, 5, 6, 7, 8, 9, 10, 11, 12, 13, 14, 15, 16, 17, 18, 19, 20, 21, 22, 23, 24, 25, 26, 27, 28, 29, 30, 31, 32, 33, 34, 35, 36, 37, 38, 39, 40, 41, 42, 43, 44, 45, 46, 47, 48, 49, 50, 51, 52, 53, 54, 55, 56, 57, 58, 59, 60, 61, 62, 63, 64, 65, 66, 109, 110, 111, 112, 113, 114, 115, 116, 117, 118, 119, 120, 121, 122, 123, 124, 125, 126, 127] (by decide +kernel) (by decide +kernel)) (goodIn_sub (fun _ h => List.mem_cons_of_mem _ (List.mem_append_left _ (List.mem_append_right _ h))) (by decide +kernel))) (goodIn_sub (fun _ h => List.mem_cons_of_mem _ (List.mem_append_right _ h)) (by decide +kernel))
set_option maxRecDepth 20000 in
theorem gL_areKeys_L_keyOf : GoodIn wsL_areKeys (va_wsS RL 90 yL_keyOf wsL_keyOf) := goodIn_app (goodIn_of _ (by decide +kernel)) ggL_areKeys_L_keyOf
set_option maxRecDepth 20000 in
theorem ggL_areKeys_L_of : GoodIn wsL_areKeys wsL_of := goodIn_ca (goodIn_ca (goodIn_r _ [69, 5, 6, 7, 8, 70, 71, 72, 12, 73, 14, 15, 16, 17, 34, 35, 36, 74, 53, 54, 37, 38, 39, 40, 41, 42, 75, 76, 77, 43, 44, 45, 46, 47, 48, 49, 50, 51, 52, 55, 56, 57, 58, 59, 60, 61, 62, 63, 64, 65, 66, 78, 79, 80, 81, 82, 83, 84, 85, 86, 87, 88, 89, 90, 91, 92, 93, 94, 95, 96, 97, 98, 99, 100, 101, 109, 110, 111, 112, 113, 114, 115, 116, 117, 118, 119, 120, 121, 122, 123, 124, 125, 126, 127] (by decide +kernel) (by decide +kernel)) (goodIn_sub (fun _ h => List.mem_cons_of_mem _ (List.mem_append_left _ (List.mem_append_right _ h))) (by decide +kernel))) (goodIn_sub (fun _ h => List.mem_cons_of_mem _ (List.mem_append_right _ h)) (by decide +kernel))
set_option maxRecDepth 20000 in
theorem gL_areKeys_L_of : GoodIn wsL_areKeys (va_wsS RL 76 yL_of wsL_of) := goodIn_app (goodIn_of _ (by decide +kernel)) ggL_areKeys_L_of
set_option maxRecDepth 20000 in
theorem ggL_areKeys_L_use : GoodIn wsL_areKeys wsL_use := goodIn_ca (goodIn_r _ [104, 5, 7, 105, 106, 107, 12, 108, 14, 15, 19, 20, 21, 22, 23, 24, 25, 26, 18, 27, 28, 29, 30, 31, 32, 33, 34, 35, 36, 37, 38, 39, 40, 41, 42, 43, 44, 45, 46, 47, 48, 49, 50, 51, 52, 53, 54, 55, 56, 57, 58, 59, 60, 61, 62, 63, 64, 65, 66, 109, 110, 111, 112, 113, 114, 115, 116, 117, 118, 119, 120, 121, 122, 123, 124, 125, 126, 127] (by decide +kernel) (by decide +kernel)) (goodIn_sub (fun _ h => List.mem_cons_of_mem _ (List.mem_append_left _ (List.mem_append_right _ h))) (by decide +kernel))
set_option maxRecDepth 20000 in
theorem gL_areKeys_L_use : GoodIn wsL_areKeys (va_wsS RL 92 yL_use wsL_use) := goodIn_app (goodIn_of _ (by decide +kernel)) ggL_areKeys_L_use
theorem dL_areKeys_0 : decode cL_areKeys 0 = .ok (.iconst 1, 1) := by decide +kernel
theorem dL_areKeys_1 : decode cL_areKeys 1 = .ok (.istore_n 2, 1) := by decide +kernel
theorem dL_areKeys_2 : decode cL_areKeys 2 = .ok (.iconst 0, 1) := by decide +kernel
theorem dL_areKeys_3 : decode cL_areKeys 3 = .ok (.istore_n 3, 1) := by decide +kernel
theorem dL_areKeys_4 : decode cL_areKeys 4 = .ok (.iload_n 3, 1) := by decide +kernel
theorem dL_areKeys_5 : decode cL_areKeys 5 = .ok (.iconst 4, 1) := by decide +kernel
theorem dL_areKeys_6 : decode cL_areKeys 6 = .ok (.if_icmp .ge 143, 3) := by decide +kernel
theorem dL_areKeys_9 : decode cL_areKeys 9 = .ok (.iload_n 2, 1) := by decide +kernel
theorem dL_areKeys_10 : decode cL_areKeys 10 = .ok (.ifCond .eq 139, 3) := by decide +kernel
theorem dL_areKeys_13 : decode cL_areKeys 13 = .ok (.aload_n 0, 1) := by decide +kernel
theorem dL_areKeys_14 : decode cL_areKeys 14 = .ok (.iload_n 3, 1) := by decide +kernel
theorem dL_areKeys_15 : decode cL_areKeys 15 = .ok (.iconst 0, 1) := by decide +kernel
theorem dL_areKeys_16 : decode cL_areKeys 16 = .ok (.invokestatic 90, 3) := by decide +kernel
theorem dL_areKeys_19 : decode cL_areKeys 19 = .ok (.istore 4, 2) := by decide +kernel
theorem dL_areKeys_21 : decode cL_areKeys 21 = .ok (.iconst 0, 1) := by decide +kernel
theorem dL_areKeys_22 : decode cL_areKeys 22 = .ok (.istore 5, 2) := by decide +kernel
theorem dL_areKeys_24 : decode cL_areKeys 24 = .ok (.iconst 0, 1) := by decide +kernel
theorem dL_areKeys_25 : decode cL_areKeys 25 = .ok (.istore 6, 2) := by decide +kernel
theorem dL_areKeys_27 : decode cL_areKeys 27 = .ok (.iload 6, 2) := by decide +kernel
theorem dL_areKeys_29 : decode cL_areKeys 29 = .ok (.bipush 12, 2) := by decide +kernel
theorem dL_areKeys_31 : decode cL_areKeys 31 = .ok (.if_icmp .ge 62, 3) := by decide +kernel
theorem dL_areKeys_34 : decode cL_areKeys 34 = .ok (.iload 5, 2) := by decide +kernel
theorem dL_areKeys_36 : decode cL_areKeys 36 = .ok (.iload 4, 2) := by decide +kernel
theorem dL_areKeys_38 : decode cL_areKeys 38 = .ok (.iload 6, 2) := by decide +kernel
theorem dL_areKeys_40 : decode cL_areKeys 40 = .ok (.ishr, 1) := by decide +kernel
theorem dL_areKeys_41 : decode cL_areKeys 41 = .ok (.iconst 1, 1) := by decide +kernel
theorem dL_areKeys_42 : decode cL_areKeys 42 = .ok (.iand, 1) := by decide +kernel
theorem dL_areKeys_43 : decode cL_areKeys 43 = .ok (.iconst 1, 1) := by decide +kernel
theorem dL_areKeys_44 : decode cL_areKeys 44 = .ok (.if_icmp .ne 39, 3) := by decide +kernel
theorem dL_areKeys_47 : decode cL_areKeys 47 = .ok (.aload_n 0, 1) := by decide +kernel
theorem dL_areKeys_48 : decode cL_areKeys 48 = .ok (.iload 6, 2) := by decide +kernel
theorem dL_areKeys_50 : decode cL_areKeys 50 = .ok (.iconst 0, 1) := by decide +kernel
theorem dL_areKeys_51 : decode cL_areKeys 51 = .ok (.invokestatic 76, 3) := by decide +kernel
theorem dL_areKeys_54 : decode cL_areKeys 54 = .ok (.iconst 1, 1) := by decide +kernel
theorem dL_areKeys_55 : decode cL_areKeys 55 = .ok (.if_icmp .ne 28, 3) := by decide +kernel
theorem dL_areKeys_58 : decode cL_areKeys 58 = .ok (.aload_n 0, 1) := by decide +kernel
theorem dL_areKeys_59 : decode cL_areKeys 59 = .ok (.iload 6, 2) := by decide +kernel
theorem dL_areKeys_61 : decode cL_areKeys 61 = .ok (.iconst 1, 1) := by decide +kernel
theorem dL_areKeys_62 : decode cL_areKeys 62 = .ok (.invokestatic 76, 3) := by decide +kernel
theorem dL_areKeys_65 : decode cL_areKeys 65 = .ok (.iconst 1, 1) := by decide +kernel
theorem dL_areKeys_66 : decode cL_areKeys 66 = .ok (.if_icmp .ne 17, 3) := by decide +kernel
theorem dL_areKeys_69 : decode cL_areKeys 69 = .ok (.aload_n 0, 1) := by decide +kernel
theorem dL_areKeys_70 : decode cL_areKeys 70 = .ok (.iload 6, 2) := by decide +kernel
theorem dL_areKeys_72 : decode cL_areKeys 72 = .ok (.iconst 2, 1) := by decide +kernel
theorem dL_areKeys_73 : decode cL_areKeys 73 = .ok (.invokestatic 76, 3) := by decide +kernel
theorem dL_areKeys_76 : decode cL_areKeys 76 = .ok (.ifCond .ne 7, 3) := by decide +kernel
theorem dL_areKeys_79 : decode cL_areKeys 79 = .ok (.iconst 1, 1) := by decide +kernel
theorem dL_areKeys_80 : decode cL_areKeys 80 = .ok (.goto 4, 3) := by decide +kernel
theorem dL_areKeys_83 : decode cL_areKeys 83 = .ok (.iconst 0, 1) := by decide +kernel
theorem dL_areKeys_84 : decode cL_areKeys 84 = .ok (.iadd, 1) := by decide +kernel
theorem dL_areKeys_85 : decode cL_areKeys 85 = .ok (.istore 5, 2) := by decide +kernel
theorem dL_areKeys_87 : decode cL_areKeys 87 = .ok (.iinc 6 1, 3) := by decide +kernel
theorem dL_areKeys_90 : decode cL_areKeys 90 = .ok (.goto (-63), 3) := by decide +kernel
theorem dL_areKeys_93 : decode cL_areKeys 93 = .ok (.aload_n 0, 1) := by decide +kernel
theorem dL_areKeys_94 : decode cL_areKeys 94 = .ok (.iload_n 3, 1) := by decide +kernel
theorem dL_areKeys_95 : decode cL_areKeys 95 = .ok (.iconst 2, 1) := by decide +kernel
theorem dL_areKeys_96 : decode cL_areKeys 96 = .ok (.invokestatic 90, 3) := by decide +kernel
theorem dL_areKeys_99 : decode cL_areKeys 99 = .ok (.iload 5, 2) := by decide +kernel
theorem dL_areKeys_101 : decode cL_areKeys 101 = .ok (.if_icmp .ne 40, 3) := by decide +kernel
theorem dL_areKeys_104 : decode cL_areKeys 104 = .ok (.aload_n 0, 1) := by decide +kernel
theorem dL_areKeys_105 : decode cL_areKeys 105 = .ok (.iload_n 3, 1) := by decide +kernel
theorem dL_areKeys_106 : decode cL_areKeys 106 = .ok (.invokestatic 92, 3) := by decide +kernel
theorem dL_areKeys_109 : decode cL_areKeys 109 = .ok (.iload 5, 2) := by decide +kernel
theorem dL_areKeys_111 : decode cL_areKeys 111 = .ok (.aload_n 0, 1) := by decide +kernel
theorem dL_areKeys_112 : decode cL_areKeys 112 = .ok (.iload_n 3, 1) := by decide +kernel
theorem dL_areKeys_113 : decode cL_areKeys 113 = .ok (.iconst 1, 1) := by decide +kernel
theorem dL_areKeys_114 : decode cL_areKeys 114 = .ok (.invokestatic 90, 3) := by decide +kernel
theorem dL_areKeys_117 : decode cL_areKeys 117 = .ok (.if_icmp .lt 7, 3) := by decide +kernel
theorem dL_areKeys_120 : decode cL_areKeys 120 = .ok (.iconst 1, 1) := by decide +kernel
theorem dL_areKeys_121 : decode cL_areKeys 121 = .ok (.goto 4, 3) := by decide +kernel
theorem dL_areKeys_124 : decode cL_areKeys 124 = .ok (.iconst 0, 1) := by decide +kernel
theorem dL_areKeys_125 : decode cL_areKeys 125 = .ok (.if_icmp .ne 16, 3) := by decide +kernel
theorem dL_areKeys_128 : decode cL_areKeys 128 = .ok (.aload_n 0, 1) := by decide +kernel
theorem dL_areKeys_129 : decode cL_areKeys 129 = .ok (.iload_n 3, 1) := by decide +kernel
theorem dL_areKeys_130 : decode cL_areKeys 130 = .ok (.iconst 1, 1) := by decide +kernel
theorem dL_areKeys_131 : decode cL_areKeys 131 = .ok (.invokestatic 90, 3) := by decide +kernel
theorem dL_areKeys_134 : decode cL_areKeys 134 = .ok (.ifCond .le 7, 3) := by decide +kernel
theorem dL_areKeys_137 : decode cL_areKeys 137 = .ok (.iconst 1, 1) := by decide +kernel
theorem dL_areKeys_138 : decode cL_areKeys 138 = .ok (.goto 4, 3) := by decide +kernel
theorem dL_areKeys_141 : decode cL_areKeys 141 = .ok (.iconst 0, 1) := by decide +kernel
theorem dL_areKeys_142 : decode cL_areKeys 142 = .ok (.istore_n 2, 1) := by decide +kernel
theorem dL_areKeys_143 : decode cL_areKeys 143 = .ok (.iinc 3 1, 3) := by decide +kernel
theorem dL_areKeys_146 : decode cL_areKeys 146 = .ok (.goto (-142), 3) := by decide +kernel
theorem dL_areKeys_149 : decode cL_areKeys 149 = .ok (.iload_n 2, 1) := by decide +kernel
theorem dL_areKeys_150 : decode cL_areKeys 150 = .ok (.ireturn, 1) := by decide +kernel
set_option maxRecDepth 20000 in
theorem ggL_isSign_L_sign : GoodIn wsL_isSign wsL_sign := goodIn_ca (goodIn_r _ [4, 5, 6, 7, 8, 9, 10, 11, 12, 13, 14, 15, 16, 17, 18, 19, 20, 21, 22, 23, 24, 25, 26, 27, 28, 29, 30, 31, 32, 33, 34, 35, 36, 37, 38, 39, 40, 41, 42, 43, 44, 45, 46, 47, 48, 49, 50, 51, 52, 53, 54, 55, 56, 57, 58, 59, 60, 61, 62, 63, 64, 65, 66, 67, 68, 69, 70, 71, 72, 73, 74, 75, 76, 77, 78, 79, 80, 81, 82, 83, 84, 85, 86, 87, 88, 89, 90, 91, 92, 93, 94, 95, 96, 97, 98, 99, 100, 101, 102, 103, 104, 105, 106, 107, 108, 109, 110, 111, 112, 113, 114, 115, 116, 117, 118, 119, 120, 121, 122, 123, 124, 125, 126, 127, 128, 129, 130, 131, 132, 133, 134, 135, 136, 137, 138, 139, 140, 141, 142, 143, 144, 145, 146, 147, 148, 149, 150, 151, 152, 153, 154, 155, 156, 157, 158, 159, 160, 161, 162, 163, 164, 165, 166, 167, 168, 169, 170, 171, 172, 173, 174, 175, 176, 177, 178, 179, 180, 181, 182, 183, 184, 185, 186, 187, 188, 189, 190, 191, 192, 193, 194, 195, 196, 197, 198, 199, 200, 201, 202, 203, 204, 205, 206, 207, 208, 209, 210, 211, 212, 213, 214, 215, 216, 217, 218, 219, 220, 221, 222, 223, 224, 225, 226, 227, 228, 229, 230, 231] (by decide +kernel) (by decide +kernel)) (goodIn_sub (fun _ h => List.mem_cons_of_mem _ (List.mem_append_right _ h)) (by decide +kernel))
set_option maxRecDepth 20000 in
theorem gL_isSign_L_sign : GoodIn wsL_isSign (va_wsS RL 94 yL_sign wsL_sign) := goodIn_app (goodIn_of _ (by decide +kernel)) ggL_isSign_L_sign
theorem dL_isSign_0 : decode cL_isSign 0 = .ok (.iconst 0, 1) := by decide +kernel
theorem dL_isSign_1 : decode cL_isSign 1 = .ok (.istore_n 3, 1) := by decide +kernel
theorem dL_isSign_2 : decode cL_isSign 2 = .ok (.iconst 0, 1) := by decide +kernel
theorem dL_isSign_3 : decode cL_isSign 3 = .ok (.istore 4, 2) := by decide +kernel
theorem dL_isSign_5 : decode cL_isSign 5 = .ok (.aload_n 0, 1) := by decide +kernel
theorem dL_isSign_6 : decode cL_isSign 6 = .ok (.iload_n 1, 1) := by decide +kernel
theorem dL_isSign_7 : decode cL_isSign 7 = .ok (.iconst 0, 1) := by decide +kernel
theorem dL_isSign_8 : decode cL_isSign 8 = .ok (.invokestatic 94, 3) := by decide +kernel
theorem dL_isSign_11 : decode cL_isSign 11 = .ok (.istore 5, 2) := by decide +kernel
theorem dL_isSign_13 : decode cL_isSign 13 = .ok (.iload 5, 2) := by decide +kernel
theorem dL_isSign_15 : decode cL_isSign 15 = .ok (.bipush 48, 2) := by decide +kernel
theorem dL_isSign_17 : decode cL_isSign 17 = .ok (.if_icmp .lt 42, 3) := by decide +kernel
theorem dL_isSign_20 : decode cL_isSign 20 = .ok (.iload 5, 2) := by decide +kernel
theorem dL_isSign_22 : decode cL_isSign 22 = .ok (.bipush 57, 2) := by decide +kernel
theorem dL_isSign_24 : decode cL_isSign 24 = .ok (.if_icmp .gt 35, 3) := by decide +kernel
theorem dL_isSign_27 : decode cL_isSign 27 = .ok (.iload_n 3, 1) := by decide +kernel
theorem dL_isSign_28 : decode cL_isSign 28 = .ok (.iconst 3, 1) := by decide +kernel
theorem dL_isSign_29 : decode cL_isSign 29 = .ok (.if_icmp .ge 30, 3) := by decide +kernel
theorem dL_isSign_32 : decode cL_isSign 32 = .ok (.bipush 10, 2) := by decide +kernel
theorem dL_isSign_34 : decode cL_isSign 34 = .ok (.iload 4, 2) := by decide +kernel
theorem dL_isSign_36 : decode cL_isSign 36 = .ok (.imul, 1) := by decide +kernel
theorem dL_isSign_37 : decode cL_isSign 37 = .ok (.iload 5, 2) := by decide +kernel
theorem dL_isSign_39 : decode cL_isSign 39 = .ok (.iadd, 1) := by decide +kernel
theorem dL_isSign_40 : decode cL_isSign 40 = .ok (.bipush 48, 2) := by decide +kernel
theorem dL_isSign_42 : decode cL_isSign 42 = .ok (.isub, 1) := by decide +kernel
theorem dL_isSign_43 : decode cL_isSign 43 = .ok (.istore 4, 2) := by decide +kernel
theorem dL_isSign_45 : decode cL_isSign 45 = .ok (.iinc 3 1, 3) := by decide +kernel
theorem dL_isSign_48 : decode cL_isSign 48 = .ok (.aload_n 0, 1) := by decide +kernel
theorem dL_isSign_49 : decode cL_isSign 49 = .ok (.iload_n 1, 1) := by decide +kernel
theorem dL_isSign_50 : decode cL_isSign 50 = .ok (.iload_n 3, 1) := by decide +kernel
theorem dL_isSign_51 : decode cL_isSign 51 = .ok (.invokestatic 94, 3) := by decide +kernel
theorem dL_isSign_54 : decode cL_isSign 54 = .ok (.istore 5, 2) := by decide +kernel
theorem dL_isSign_56 : decode cL_isSign 56 = .ok (.goto (-43), 3) := by decide +kernel
theorem dL_isSign_59 : decode cL_isSign 59 = .ok (.iload 4, 2) := by decide +kernel
theorem dL_isSign_61 : decode cL_isSign 61 = .ok (.iload_n 1, 1) := by decide +kernel
theorem dL_isSign_62 : decode cL_isSign 62 = .ok (.if_icmp .ne 18, 3) := by decide +kernel
theorem dL_isSign_65 : decode cL_isSign 65 = .ok (.aload_n 0, 1) := by decide +kernel
theorem dL_isSign_66 : decode cL_isSign 66 = .ok (.iload_n 1, 1) := by decide +kernel
theorem dL_isSign_67 : decode cL_isSign 67 = .ok (.iload_n 3, 1) := by decide +kernel
theorem dL_isSign_68 : decode cL_isSign 68 = .ok (.invokestatic 94, 3) := by decide +kernel
theorem dL_isSign_71 : decode cL_isSign 71 = .ok (.bipush 45, 2) := by decide +kernel
theorem dL_isSign_73 : decode cL_isSign 73 = .ok (.if_icmp .ne 7, 3) := by decide +kernel
theorem dL_isSign_76 : decode cL_isSign 76 = .ok (.iconst 1, 1) := by decide +kernel
theorem dL_isSign_77 : decode cL_isSign 77 = .ok (.goto 4, 3) := by decide +kernel
theorem dL_isSign_80 : decode cL_isSign 80 = .ok (.iconst 0, 1) := by decide +kernel
theorem dL_isSign_81 : decode cL_isSign 81 = .ok (.istore 5, 2) := by decide +kernel
theorem dL_isSign_83 : decode cL_isSign 83 = .ok (.iinc 3 1, 3) := by decide +kernel
theorem dL_isSign_86 : decode cL_isSign 86 = .ok (.iload_n 2, 1) := by decide +kernel
theorem dL_isSign_87 : decode cL_isSign 87 = .ok (.istore 6, 2) := by decide +kernel
theorem dL_isSign_89 : decode cL_isSign 89 = .ok (.iconst 1, 1) := by decide +kernel
theorem dL_isSign_90 : decode cL_isSign 90 = .ok (.istore 7, 2) := by decide +kernel
theorem dL_isSign_92 : decode cL_isSign 92 = .ok (.iload 5, 2) := by decide +kernel
theorem dL_isSign_94 : decode cL_isSign 94 = .ok (.ifCond .eq 54, 3) := by decide +kernel
theorem dL_isSign_97 : decode cL_isSign 97 = .ok (.iload 6, 2) := by decide +kernel
theorem dL_isSign_99 : decode cL_isSign 99 = .ok (.ifCond .gt 9, 3) := by decide +kernel
theorem dL_isSign_102 : decode cL_isSign 102 = .ok (.iload 7, 2) := by decide +kernel
theorem dL_isSign_104 : decode cL_isSign 104 = .ok (.iconst 1, 1) := by decide +kernel
theorem dL_isSign_105 : decode cL_isSign 105 = .ok (.if_icmp .ne 43, 3) := by decide +kernel
theorem dL_isSign_108 : decode cL_isSign 108 = .ok (.aload_n 0, 1) := by decide +kernel
theorem dL_isSign_109 : decode cL_isSign 109 = .ok (.iload_n 1, 1) := by decide +kernel
theorem dL_isSign_110 : decode cL_isSign 110 = .ok (.iload_n 3, 1) := by decide +kernel
theorem dL_isSign_111 : decode cL_isSign 111 = .ok (.invokestatic 94, 3) := by decide +kernel
theorem dL_isSign_114 : decode cL_isSign 114 = .ok (.bipush 48, 2) := by decide +kernel
theorem dL_isSign_116 : decode cL_isSign 116 = .ok (.iload 6, 2) := by decide +kernel
theorem dL_isSign_118 : decode cL_isSign 118 = .ok (.bipush 10, 2) := by decide +kernel
theorem dL_isSign_120 : decode cL_isSign 120 = .ok (.irem, 1) := by decide +kernel
theorem dL_isSign_121 : decode cL_isSign 121 = .ok (.iadd, 1) := by decide +kernel
theorem dL_isSign_122 : decode cL_isSign 122 = .ok (.if_icmp .ne 7, 3) := by decide +kernel
theorem dL_isSign_125 : decode cL_isSign 125 = .ok (.iconst 1, 1) := by decide +kernel
theorem dL_isSign_126 : decode cL_isSign 126 = .ok (.goto 4, 3) := by decide +kernel
theorem dL_isSign_129 : decode cL_isSign 129 = .ok (.iconst 0, 1) := by decide +kernel
theorem dL_isSign_130 : decode cL_isSign 130 = .ok (.istore 5, 2) := by decide +kernel
theorem dL_isSign_132 : decode cL_isSign 132 = .ok (.iinc 3 1, 3) := by decide +kernel
theorem dL_isSign_135 : decode cL_isSign 135 = .ok (.iconst 0, 1) := by decide +kernel
theorem dL_isSign_136 : decode cL_isSign 136 = .ok (.istore 7, 2) := by decide +kernel
theorem dL_isSign_138 : decode cL_isSign 138 = .ok (.iload 6, 2) := by decide +kernel
theorem dL_isSign_140 : decode cL_isSign 140 = .ok (.bipush 10, 2) := by decide +kernel
theorem dL_isSign_142 : decode cL_isSign 142 = .ok (.idiv, 1) := by decide +kernel
theorem dL_isSign_143 : decode cL_isSign 143 = .ok (.istore 6, 2) := by decide +kernel
theorem dL_isSign_145 : decode cL_isSign 145 = .ok (.goto (-53), 3) := by decide +kernel
theorem dL_isSign_148 : decode cL_isSign 148 = .ok (.iload 5, 2) := by decide +kernel
theorem dL_isSign_150 : decode cL_isSign 150 = .ok (.ifCond .eq 38, 3) := by decide +kernel
theorem dL_isSign_153 : decode cL_isSign 153 = .ok (.aload_n 0, 1) := by decide +kernel
theorem dL_isSign_154 : decode cL_isSign 154 = .ok (.iload_n 1, 1) := by decide +kernel
theorem dL_isSign_155 : decode cL_isSign 155 = .ok (.iload_n 3, 1) := by decide +kernel
theorem dL_isSign_156 : decode cL_isSign 156 = .ok (.invokestatic 94, 3) := by decide +kernel
theorem dL_isSign_159 : decode cL_isSign 159 = .ok (.bipush 65, 2) := by decide +kernel
theorem dL_isSign_161 : decode cL_isSign 161 = .ok (.iconst 3, 1) := by decide +kernel
theorem dL_isSign_162 : decode cL_isSign 162 = .ok (.iload_n 2, 1) := by decide +kernel
theorem dL_isSign_163 : decode cL_isSign 163 = .ok (.imul, 1) := by decide +kernel
theorem dL_isSign_164 : decode cL_isSign 164 = .ok (.iload_n 1, 1) := by decide +kernel
theorem dL_isSign_165 : decode cL_isSign 165 = .ok (.iadd, 1) := by decide +kernel
theorem dL_isSign_166 : decode cL_isSign 166 = .ok (.bipush 26, 2) := by decide +kernel
theorem dL_isSign_168 : decode cL_isSign 168 = .ok (.irem, 1) := by decide +kernel
theorem dL_isSign_169 : decode cL_isSign 169 = .ok (.iadd, 1) := by decide +kernel
theorem dL_isSign_170 : decode cL_isSign 170 = .ok (.if_icmp .ne 18, 3) := by decide +kernel
theorem dL_isSign_173 : decode cL_isSign 173 = .ok (.aload_n 0, 1) := by decide +kernel
theorem dL_isSign_174 : decode cL_isSign 174 = .ok (.iload_n 1, 1) := by decide +kernel
theorem dL_isSign_175 : decode cL_isSign 175 = .ok (.iload_n 3, 1) := by decide +kernel
theorem dL_isSign_176 : decode cL_isSign 176 = .ok (.iconst 1, 1) := by decide +kernel
theorem dL_isSign_177 : decode cL_isSign 177 = .ok (.iadd, 1) := by decide +kernel
theorem dL_isSign_178 : decode cL_isSign 178 = .ok (.invokestatic 94, 3) := by decide +kernel
theorem dL_isSign_181 : decode cL_isSign 181 = .ok (.ifCond .ne 7, 3) := by decide +kernel
theorem dL_isSign_184 : decode cL_isSign 184 = .ok (.iconst 1, 1) := by decide +kernel
theorem dL_isSign_185 : decode cL_isSign 185 = .ok (.goto 4, 3) := by decide +kernel
theorem dL_isSign_188 : decode cL_isSign 188 = .ok (.iconst 0, 1) := by decide +kernel
theorem dL_isSign_189 : decode cL_isSign 189 = .ok (.ireturn, 1) := by decide +kernel
set_option maxRecDepth 20000 in
theorem ggL_logsIn_L_of : GoodIn wsL_logsIn wsL_of := goodIn_ca (goodIn_ca (goodIn_r _ [4, 5, 6, 7, 8, 9, 10, 11, 12, 13, 14, 15, 16, 17, 18, 19, 20, 21, 22, 23, 24, 25, 26, 27, 28, 29, 30, 31, 32, 33, 34, 35, 36, 37, 38, 39, 40, 41, 42, 43, 44, 45, 46, 47, 48, 49, 50, 51, 52, 53, 54, 55, 56, 57, 58, 59, 60, 61, 62, 63, 64, 65, 66, 67, 68, 69, 70, 71, 72, 73, 74, 75, 76, 77, 78, 103, 104, 105, 106, 107, 108, 109, 110, 111, 112, 113, 114, 115, 116, 117, 118, 119, 120, 121] (by decide +kernel) (by decide +kernel)) (goodIn_sub (fun _ h => List.mem_cons_of_mem _ (List.mem_append_left _ (List.mem_append_right _ h))) (by decide +kernel))) (goodIn_sub (fun _ h => List.mem_cons_of_mem _ (List.mem_append_right _ h)) (by decide +kernel))
set_option maxRecDepth 20000 in
theorem gL_logsIn_L_of : GoodIn wsL_logsIn (va_wsS RL 76 yL_of wsL_of) := goodIn_app (goodIn_of _ (by decide +kernel)) ggL_logsIn_L_of
set_option maxRecDepth 20000 in
theorem ggL_logsIn_L_low : GoodIn wsL_logsIn wsL_low := goodIn_r _ [81, 82] (by decide +kernel) (by decide +kernel)
set_option maxRecDepth 20000 in
theorem gL_logsIn_L_low : GoodIn wsL_logsIn (va_wsS RL 96 yL_low wsL_low) := goodIn_app (goodIn_of _ (by decide +kernel)) ggL_logsIn_L_low
set_option maxRecDepth 20000 in
theorem ggL_logsIn_L_login : GoodIn wsL_logsIn wsL_login := goodIn_ca (goodIn_ca (goodIn_r _ [85, 5, 6, 7, 8, 86, 87, 88, 12, 89, 14, 15, 16, 17, 18, 19, 21, 22, 23, 90, 91, 92, 27, 93, 94, 95, 69, 29, 96, 97, 98, 99, 100, 101, 102, 103, 104, 105, 106, 107, 108, 109, 110, 111, 112, 113] (by decide +kernel) (by decide +kernel)) (goodIn_sub (fun _ h => List.mem_cons_of_mem _ (List.mem_append_left _ (List.mem_append_right _ h))) (by decide +kernel))) (goodIn_sub (fun _ h => List.mem_cons_of_mem _ (List.mem_append_right _ h)) (by decide +kernel))
set_option maxRecDepth 20000 in
theorem gL_logsIn_L_login : GoodIn wsL_logsIn (va_wsS RL 99 yL_login wsL_login) := goodIn_app (goodIn_of _ (by decide +kernel)) ggL_logsIn_L_login
theorem dL_logsIn_0 : decode cL_logsIn 0 = .ok (.aload_n 0, 1) := by decide +kernel
theorem dL_logsIn_1 : decode cL_logsIn 1 = .ok (.iload_n 3, 1) := by decide +kernel
theorem dL_logsIn_2 : decode cL_logsIn 2 = .ok (.iconst 5, 1) := by decide +kernel
theorem dL_logsIn_3 : decode cL_logsIn 3 = .ok (.invokestatic 76, 3) := by decide +kernel
theorem dL_logsIn_6 : decode cL_logsIn 6 = .ok (.istore 5, 2) := by decide +kernel
theorem dL_logsIn_8 : decode cL_logsIn 8 = .ok (.aload_n 0, 1) := by decide +kernel
theorem dL_logsIn_9 : decode cL_logsIn 9 = .ok (.iload_n 3, 1) := by decide +kernel
theorem dL_logsIn_10 : decode cL_logsIn 10 = .ok (.bipush 6, 2) := by decide +kernel
theorem dL_logsIn_12 : decode cL_logsIn 12 = .ok (.invokestatic 76, 3) := by decide +kernel
theorem dL_logsIn_15 : decode cL_logsIn 15 = .ok (.istore 6, 2) := by decide +kernel
theorem dL_logsIn_17 : decode cL_logsIn 17 = .ok (.iload 4, 2) := by decide +kernel
theorem dL_logsIn_19 : decode cL_logsIn 19 = .ok (.iconst 5, 1) := by decide +kernel
theorem dL_logsIn_20 : decode cL_logsIn 20 = .ok (.invokestatic 96, 3) := by decide +kernel
theorem dL_logsIn_23 : decode cL_logsIn 23 = .ok (.ifCond .le 7, 3) := by decide +kernel
theorem dL_logsIn_26 : decode cL_logsIn 26 = .ok (.iconst 1, 1) := by decide +kernel
theorem dL_logsIn_27 : decode cL_logsIn 27 = .ok (.goto 4, 3) := by decide +kernel
theorem dL_logsIn_30 : decode cL_logsIn 30 = .ok (.iconst 0, 1) := by decide +kernel
theorem dL_logsIn_31 : decode cL_logsIn 31 = .ok (.istore 7, 2) := by decide +kernel
theorem dL_logsIn_33 : decode cL_logsIn 33 = .ok (.aload_n 0, 1) := by decide +kernel
theorem dL_logsIn_34 : decode cL_logsIn 34 = .ok (.iload_n 3, 1) := by decide +kernel
theorem dL_logsIn_35 : decode cL_logsIn 35 = .ok (.iload 7, 2) := by decide +kernel
theorem dL_logsIn_37 : decode cL_logsIn 37 = .ok (.ifCond .eq 9, 3) := by decide +kernel
theorem dL_logsIn_40 : decode cL_logsIn 40 = .ok (.aload_n 2, 1) := by decide +kernel
theorem dL_logsIn_41 : decode cL_logsIn 41 = .ok (.iload_n 3, 1) := by decide +kernel
theorem dL_logsIn_42 : decode cL_logsIn 42 = .ok (.iaload, 1) := by decide +kernel
theorem dL_logsIn_43 : decode cL_logsIn 43 = .ok (.goto 23, 3) := by decide +kernel
theorem dL_logsIn_46 : decode cL_logsIn 46 = .ok (.aload_n 2, 1) := by decide +kernel
theorem dL_logsIn_47 : decode cL_logsIn 47 = .ok (.iload_n 3, 1) := by decide +kernel
theorem dL_logsIn_48 : decode cL_logsIn 48 = .ok (.iaload, 1) := by decide +kernel
theorem dL_logsIn_49 : decode cL_logsIn 49 = .ok (.iconst 1, 1) := by decide +kernel
theorem dL_logsIn_50 : decode cL_logsIn 50 = .ok (.iadd, 1) := by decide +kernel
theorem dL_logsIn_51 : decode cL_logsIn 51 = .ok (.iload 4, 2) := by decide +kernel
theorem dL_logsIn_53 : decode cL_logsIn 53 = .ok (.iconst 4, 1) := by decide +kernel
theorem dL_logsIn_54 : decode cL_logsIn 54 = .ok (.ishr, 1) := by decide +kernel
theorem dL_logsIn_55 : decode cL_logsIn 55 = .ok (.sipush 999, 3) := by decide +kernel
theorem dL_logsIn_58 : decode cL_logsIn 58 = .ok (.invokestatic 96, 3) := by decide +kernel
theorem dL_logsIn_61 : decode cL_logsIn 61 = .ok (.iadd, 1) := by decide +kernel
theorem dL_logsIn_62 : decode cL_logsIn 62 = .ok (.sipush 1000, 3) := by decide +kernel
theorem dL_logsIn_65 : decode cL_logsIn 65 = .ok (.irem, 1) := by decide +kernel
theorem dL_logsIn_66 : decode cL_logsIn 66 = .ok (.bipush 7, 2) := by decide +kernel
theorem dL_logsIn_68 : decode cL_logsIn 68 = .ok (.iload_n 3, 1) := by decide +kernel
theorem dL_logsIn_69 : decode cL_logsIn 69 = .ok (.imul, 1) := by decide +kernel
theorem dL_logsIn_70 : decode cL_logsIn 70 = .ok (.iconst 3, 1) := by decide +kernel
theorem dL_logsIn_71 : decode cL_logsIn 71 = .ok (.aload_n 1, 1) := by decide +kernel
theorem dL_logsIn_72 : decode cL_logsIn 72 = .ok (.iconst 0, 1) := by decide +kernel
theorem dL_logsIn_73 : decode cL_logsIn 73 = .ok (.iaload, 1) := by decide +kernel
theorem dL_logsIn_74 : decode cL_logsIn 74 = .ok (.imul, 1) := by decide +kernel
theorem dL_logsIn_75 : decode cL_logsIn 75 = .ok (.iadd, 1) := by decide +kernel
theorem dL_logsIn_76 : decode cL_logsIn 76 = .ok (.bipush 10, 2) := by decide +kernel
theorem dL_logsIn_78 : decode cL_logsIn 78 = .ok (.irem, 1) := by decide +kernel
theorem dL_logsIn_79 : decode cL_logsIn 79 = .ok (.invokestatic 99, 3) := by decide +kernel
theorem dL_logsIn_82 : decode cL_logsIn 82 = .ok (.istore 8, 2) := by decide +kernel
theorem dL_logsIn_84 : decode cL_logsIn 84 = .ok (.iload 8, 2) := by decide +kernel
theorem dL_logsIn_86 : decode cL_logsIn 86 = .ok (.iconst 3, 1) := by decide +kernel
theorem dL_logsIn_87 : decode cL_logsIn 87 = .ok (.if_icmp .ne 35, 3) := by decide +kernel
theorem dL_logsIn_90 : decode cL_logsIn 90 = .ok (.iload 5, 2) := by decide +kernel
theorem dL_logsIn_92 : decode cL_logsIn 92 = .ok (.ifCond .ne 28, 3) := by decide +kernel
theorem dL_logsIn_95 : decode cL_logsIn 95 = .ok (.aload_n 0, 1) := by decide +kernel
theorem dL_logsIn_96 : decode cL_logsIn 96 = .ok (.iload_n 3, 1) := by decide +kernel
theorem dL_logsIn_97 : decode cL_logsIn 97 = .ok (.iconst 5, 1) := by decide +kernel
theorem dL_logsIn_98 : decode cL_logsIn 98 = .ok (.invokestatic 76, 3) := by decide +kernel
theorem dL_logsIn_101 : decode cL_logsIn 101 = .ok (.ifCond .ne 19, 3) := by decide +kernel
theorem dL_logsIn_104 : decode cL_logsIn 104 = .ok (.aload_n 0, 1) := by decide +kernel
theorem dL_logsIn_105 : decode cL_logsIn 105 = .ok (.iload_n 3, 1) := by decide +kernel
theorem dL_logsIn_106 : decode cL_logsIn 106 = .ok (.bipush 6, 2) := by decide +kernel
theorem dL_logsIn_108 : decode cL_logsIn 108 = .ok (.invokestatic 76, 3) := by decide +kernel
theorem dL_logsIn_111 : decode cL_logsIn 111 = .ok (.iload 6, 2) := by decide +kernel
theorem dL_logsIn_113 : decode cL_logsIn 113 = .ok (.if_icmp .ne 7, 3) := by decide +kernel
theorem dL_logsIn_116 : decode cL_logsIn 116 = .ok (.iconst 1, 1) := by decide +kernel
theorem dL_logsIn_117 : decode cL_logsIn 117 = .ok (.goto 4, 3) := by decide +kernel
theorem dL_logsIn_120 : decode cL_logsIn 120 = .ok (.iconst 0, 1) := by decide +kernel
theorem dL_logsIn_121 : decode cL_logsIn 121 = .ok (.ireturn, 1) := by decide +kernel
theorem dL_logsIn_122 : decode cL_logsIn 122 = .ok (.iload 8, 2) := by decide +kernel
theorem dL_logsIn_124 : decode cL_logsIn 124 = .ok (.iload 7, 2) := by decide +kernel
theorem dL_logsIn_126 : decode cL_logsIn 126 = .ok (.ifCond .eq 7, 3) := by decide +kernel
theorem dL_logsIn_129 : decode cL_logsIn 129 = .ok (.iconst 0, 1) := by decide +kernel
theorem dL_logsIn_130 : decode cL_logsIn 130 = .ok (.goto 4, 3) := by decide +kernel
theorem dL_logsIn_133 : decode cL_logsIn 133 = .ok (.iconst 1, 1) := by decide +kernel
theorem dL_logsIn_134 : decode cL_logsIn 134 = .ok (.if_icmp .ne 81, 3) := by decide +kernel
theorem dL_logsIn_137 : decode cL_logsIn 137 = .ok (.aload_n 0, 1) := by decide +kernel
theorem dL_logsIn_138 : decode cL_logsIn 138 = .ok (.iload_n 3, 1) := by decide +kernel
theorem dL_logsIn_139 : decode cL_logsIn 139 = .ok (.iconst 5, 1) := by decide +kernel
theorem dL_logsIn_140 : decode cL_logsIn 140 = .ok (.invokestatic 76, 3) := by decide +kernel
theorem dL_logsIn_143 : decode cL_logsIn 143 = .ok (.iload 7, 2) := by decide +kernel
theorem dL_logsIn_145 : decode cL_logsIn 145 = .ok (.ifCond .eq 7, 3) := by decide +kernel
theorem dL_logsIn_148 : decode cL_logsIn 148 = .ok (.iconst 0, 1) := by decide +kernel
theorem dL_logsIn_149 : decode cL_logsIn 149 = .ok (.goto 9, 3) := by decide +kernel
theorem dL_logsIn_152 : decode cL_logsIn 152 = .ok (.iload 5, 2) := by decide +kernel
theorem dL_logsIn_154 : decode cL_logsIn 154 = .ok (.iconst 1, 1) := by decide +kernel
theorem dL_logsIn_155 : decode cL_logsIn 155 = .ok (.iadd, 1) := by decide +kernel
theorem dL_logsIn_156 : decode cL_logsIn 156 = .ok (.iconst 3, 1) := by decide +kernel
theorem dL_logsIn_157 : decode cL_logsIn 157 = .ok (.irem, 1) := by decide +kernel
theorem dL_logsIn_158 : decode cL_logsIn 158 = .ok (.if_icmp .ne 57, 3) := by decide +kernel
theorem dL_logsIn_161 : decode cL_logsIn 161 = .ok (.aload_n 0, 1) := by decide +kernel
theorem dL_logsIn_162 : decode cL_logsIn 162 = .ok (.iload_n 3, 1) := by decide +kernel
theorem dL_logsIn_163 : decode cL_logsIn 163 = .ok (.bipush 6, 2) := by decide +kernel
theorem dL_logsIn_165 : decode cL_logsIn 165 = .ok (.invokestatic 76, 3) := by decide +kernel
theorem dL_logsIn_168 : decode cL_logsIn 168 = .ok (.iload 7, 2) := by decide +kernel
theorem dL_logsIn_170 : decode cL_logsIn 170 = .ok (.ifCond .eq 12, 3) := by decide +kernel
theorem dL_logsIn_173 : decode cL_logsIn 173 = .ok (.aload_n 1, 1) := by decide +kernel
theorem dL_logsIn_174 : decode cL_logsIn 174 = .ok (.iconst 0, 1) := by decide +kernel
theorem dL_logsIn_175 : decode cL_logsIn 175 = .ok (.iaload, 1) := by decide +kernel
theorem dL_logsIn_176 : decode cL_logsIn 176 = .ok (.bipush 30, 2) := by decide +kernel
theorem dL_logsIn_178 : decode cL_logsIn 178 = .ok (.iadd, 1) := by decide +kernel
theorem dL_logsIn_179 : decode cL_logsIn 179 = .ok (.goto 5, 3) := by decide +kernel
theorem dL_logsIn_182 : decode cL_logsIn 182 = .ok (.iload 6, 2) := by decide +kernel
theorem dL_logsIn_184 : decode cL_logsIn 184 = .ok (.if_icmp .ne 31, 3) := by decide +kernel
theorem dL_logsIn_187 : decode cL_logsIn 187 = .ok (.iload 7, 2) := by decide +kernel
theorem dL_logsIn_189 : decode cL_logsIn 189 = .ok (.ifCond .ne 22, 3) := by decide +kernel
theorem dL_logsIn_192 : decode cL_logsIn 192 = .ok (.iload 5, 2) := by decide +kernel
theorem dL_logsIn_194 : decode cL_logsIn 194 = .ok (.iconst 2, 1) := by decide +kernel
theorem dL_logsIn_195 : decode cL_logsIn 195 = .ok (.if_icmp .lt 16, 3) := by decide +kernel
theorem dL_logsIn_198 : decode cL_logsIn 198 = .ok (.aload_n 0, 1) := by decide +kernel
theorem dL_logsIn_199 : decode cL_logsIn 199 = .ok (.iload_n 3, 1) := by decide +kernel
theorem dL_logsIn_200 : decode cL_logsIn 200 = .ok (.aload_n 2, 1) := by decide +kernel
theorem dL_logsIn_201 : decode cL_logsIn 201 = .ok (.iload_n 3, 1) := by decide +kernel
theorem dL_logsIn_202 : decode cL_logsIn 202 = .ok (.iaload, 1) := by decide +kernel
theorem dL_logsIn_203 : decode cL_logsIn 203 = .ok (.iconst 0, 1) := by decide +kernel
theorem dL_logsIn_204 : decode cL_logsIn 204 = .ok (.invokestatic 99, 3) := by decide +kernel
theorem dL_logsIn_207 : decode cL_logsIn 207 = .ok (.iconst 3, 1) := by decide +kernel
theorem dL_logsIn_208 : decode cL_logsIn 208 = .ok (.if_icmp .ne 7, 3) := by decide +kernel
theorem dL_logsIn_211 : decode cL_logsIn 211 = .ok (.iconst 1, 1) := by decide +kernel
theorem dL_logsIn_212 : decode cL_logsIn 212 = .ok (.goto 4, 3) := by decide +kernel
theorem dL_logsIn_215 : decode cL_logsIn 215 = .ok (.iconst 0, 1) := by decide +kernel
theorem dL_logsIn_216 : decode cL_logsIn 216 = .ok (.ireturn, 1) := by decide +kernel
set_option maxRecDepth 20000 in
theorem ggL_vouches_L_low : GoodIn wsL_vouches wsL_low := goodIn_r _ [6, 7] (by decide +kernel) (by decide +kernel)
set_option maxRecDepth 20000 in
theorem gL_vouches_L_low : GoodIn wsL_vouches (va_wsS RL 96 yL_low wsL_low) := goodIn_app (goodIn_of _ (by decide +kernel)) ggL_vouches_L_low
set_option maxRecDepth 20000 in
theorem ggL_vouches_L_of : GoodIn wsL_vouches wsL_of := goodIn_ca (goodIn_ca (goodIn_r _ [10, 11, 12, 13, 1, 14, 15, 16, 17, 18, 19, 20, 21, 22, 23, 24, 25, 26, 27, 28, 29, 30, 31, 32, 33, 34, 35, 36, 37, 38, 39, 40, 41, 42, 43, 44, 45, 46, 47, 48, 49, 50, 51, 52, 53, 54, 55, 56, 57, 58, 59, 60, 61, 62, 63, 64, 65, 66, 67, 68, 69, 70, 71, 72, 73, 74, 75, 76, 77, 78, 79, 80, 81, 82, 83, 137, 138, 139, 140, 141, 142, 143, 144, 145, 146, 147, 148, 149, 150, 151, 152, 153, 154, 155] (by decide +kernel) (by decide +kernel)) (goodIn_sub (fun _ h => List.mem_cons_of_mem _ (List.mem_append_left _ (List.mem_append_left _ (List.mem_append_right _ h)))) (by decide +kernel))) (goodIn_sub (fun _ h => List.mem_cons_of_mem _ (List.mem_append_left _ (List.mem_append_right _ h))) (by decide +kernel))
set_option maxRecDepth 20000 in
theorem gL_vouches_L_of : GoodIn wsL_vouches (va_wsS RL 76 yL_of wsL_of) := goodIn_app (goodIn_of _ (by decide +kernel)) ggL_vouches_L_of
set_option maxRecDepth 20000 in
theorem ggL_vouches_L_vouch : GoodIn wsL_vouches wsL_vouch := goodIn_ca (goodIn_ca (goodIn_ca (goodIn_r _ [86, 11, 12, 87, 13, 1, 2, 88, 89, 90, 17, 91, 19, 20, 21, 22, 92, 93, 94, 25, 24, 26, 27, 28, 95, 48, 49, 96, 97, 98, 99, 23, 29, 30, 31, 32, 33, 34, 38, 39, 40, 41, 42, 43, 44, 45, 46, 47, 50, 51, 52, 53, 54, 55, 56, 57, 58, 59, 100, 101, 102, 103, 104, 105, 106, 107, 108, 109, 110, 111, 83, 112, 113, 114, 115, 64, 116, 117, 118, 119, 120, 121, 122, 123, 124, 125, 126, 127, 128, 137, 138, 139, 140, 141, 142, 143, 144, 145, 146, 147, 148, 149, 150, 151, 152, 153, 154, 155, 156, 157, 158, 159, 160, 161] (by decide +kernel) (by decide +kernel)) (goodIn_sub (fun _ h => List.mem_cons_of_mem _ (List.mem_append_left _ (List.mem_append_left _ (List.mem_append_right _ h)))) (by decide +kernel))) (goodIn_sub (fun _ h => List.mem_cons_of_mem _ (List.mem_append_left _ (List.mem_append_right _ h))) (by decide +kernel))) (goodIn_sub (fun _ h => List.mem_cons_of_mem _ (List.mem_append_right _ h)) (by decide +kernel))
set_option maxRecDepth 20000 in
theorem gL_vouches_L_vouch : GoodIn wsL_vouches (va_wsS RL 102 yL_vouch wsL_vouch) := goodIn_app (goodIn_of _ (by decide +kernel)) ggL_vouches_L_vouch
set_option maxRecDepth 20000 in
theorem ggL_vouches_L_chain : GoodIn wsL_vouches wsL_chain := goodIn_ca (goodIn_r _ [131, 11, 13, 132, 133, 134, 17, 135, 19, 20, 25, 26, 27, 28, 136, 44, 45, 41, 46, 47, 48, 49, 137, 138, 139, 140, 141, 142, 143, 148, 149, 150, 151, 152, 153, 154, 155] (by decide +kernel) (by decide +kernel)) (goodIn_sub (fun _ h => List.mem_cons_of_mem _ (List.mem_append_left _ (List.mem_append_left _ (List.mem_append_right _ h)))) (by decide +kernel))
set_option maxRecDepth 20000 in
theorem gL_vouches_L_chain : GoodIn wsL_vouches (va_wsS RL 81 yL_chain wsL_chain) := goodIn_app (goodIn_of _ (by decide +kernel)) ggL_vouches_L_chain
theorem dL_vouches_0 : decode cL_vouches 0 = .ok (.iload_n 2, 1) := by decide +kernel
theorem dL_vouches_1 : decode cL_vouches 1 = .ok (.bipush 12, 2) := by decide +kernel
theorem dL_vouches_3 : decode cL_vouches 3 = .ok (.invokestatic 96, 3) := by decide +kernel
theorem dL_vouches_6 : decode cL_vouches 6 = .ok (.istore_n 3, 1) := by decide +kernel
theorem dL_vouches_7 : decode cL_vouches 7 = .ok (.iconst 4, 1) := by decide +kernel
theorem dL_vouches_8 : decode cL_vouches 8 = .ok (.iload_n 2, 1) := by decide +kernel
theorem dL_vouches_9 : decode cL_vouches 9 = .ok (.iconst 4, 1) := by decide +kernel
theorem dL_vouches_10 : decode cL_vouches 10 = .ok (.ishr, 1) := by decide +kernel
theorem dL_vouches_11 : decode cL_vouches 11 = .ok (.bipush 8, 2) := by decide +kernel
theorem dL_vouches_13 : decode cL_vouches 13 = .ok (.invokestatic 96, 3) := by decide +kernel
theorem dL_vouches_16 : decode cL_vouches 16 = .ok (.iadd, 1) := by decide +kernel
theorem dL_vouches_17 : decode cL_vouches 17 = .ok (.istore 4, 2) := by decide +kernel
theorem dL_vouches_19 : decode cL_vouches 19 = .ok (.iconst 1, 1) := by decide +kernel
theorem dL_vouches_20 : decode cL_vouches 20 = .ok (.iload_n 2, 1) := by decide +kernel
theorem dL_vouches_21 : decode cL_vouches 21 = .ok (.bipush 7, 2) := by decide +kernel
theorem dL_vouches_23 : decode cL_vouches 23 = .ok (.ishr, 1) := by decide +kernel
theorem dL_vouches_24 : decode cL_vouches 24 = .ok (.bipush 63, 2) := by decide +kernel
theorem dL_vouches_26 : decode cL_vouches 26 = .ok (.invokestatic 96, 3) := by decide +kernel
theorem dL_vouches_29 : decode cL_vouches 29 = .ok (.iadd, 1) := by decide +kernel
theorem dL_vouches_30 : decode cL_vouches 30 = .ok (.istore 5, 2) := by decide +kernel
theorem dL_vouches_32 : decode cL_vouches 32 = .ok (.aload_n 0, 1) := by decide +kernel
theorem dL_vouches_33 : decode cL_vouches 33 = .ok (.iload_n 3, 1) := by decide +kernel
theorem dL_vouches_34 : decode cL_vouches 34 = .ok (.iconst 0, 1) := by decide +kernel
theorem dL_vouches_35 : decode cL_vouches 35 = .ok (.invokestatic 76, 3) := by decide +kernel
theorem dL_vouches_38 : decode cL_vouches 38 = .ok (.iconst 1, 1) := by decide +kernel
theorem dL_vouches_39 : decode cL_vouches 39 = .ok (.if_icmp .ne 34, 3) := by decide +kernel
theorem dL_vouches_42 : decode cL_vouches 42 = .ok (.aload_n 0, 1) := by decide +kernel
theorem dL_vouches_43 : decode cL_vouches 43 = .ok (.iload_n 3, 1) := by decide +kernel
theorem dL_vouches_44 : decode cL_vouches 44 = .ok (.iconst 1, 1) := by decide +kernel
theorem dL_vouches_45 : decode cL_vouches 45 = .ok (.invokestatic 76, 3) := by decide +kernel
theorem dL_vouches_48 : decode cL_vouches 48 = .ok (.iconst 1, 1) := by decide +kernel
theorem dL_vouches_49 : decode cL_vouches 49 = .ok (.if_icmp .ne 24, 3) := by decide +kernel
theorem dL_vouches_52 : decode cL_vouches 52 = .ok (.aload_n 0, 1) := by decide +kernel
theorem dL_vouches_53 : decode cL_vouches 53 = .ok (.iload_n 3, 1) := by decide +kernel
theorem dL_vouches_54 : decode cL_vouches 54 = .ok (.iconst 2, 1) := by decide +kernel
theorem dL_vouches_55 : decode cL_vouches 55 = .ok (.invokestatic 76, 3) := by decide +kernel
theorem dL_vouches_58 : decode cL_vouches 58 = .ok (.ifCond .ne 15, 3) := by decide +kernel
theorem dL_vouches_61 : decode cL_vouches 61 = .ok (.aload_n 1, 1) := by decide +kernel
theorem dL_vouches_62 : decode cL_vouches 62 = .ok (.iconst 1, 1) := by decide +kernel
theorem dL_vouches_63 : decode cL_vouches 63 = .ok (.iaload, 1) := by decide +kernel
theorem dL_vouches_64 : decode cL_vouches 64 = .ok (.bipush 100, 2) := by decide +kernel
theorem dL_vouches_66 : decode cL_vouches 66 = .ok (.if_icmp .ge 7, 3) := by decide +kernel
theorem dL_vouches_69 : decode cL_vouches 69 = .ok (.iconst 1, 1) := by decide +kernel
theorem dL_vouches_70 : decode cL_vouches 70 = .ok (.goto 4, 3) := by decide +kernel
theorem dL_vouches_73 : decode cL_vouches 73 = .ok (.iconst 0, 1) := by decide +kernel
theorem dL_vouches_74 : decode cL_vouches 74 = .ok (.istore 6, 2) := by decide +kernel
theorem dL_vouches_76 : decode cL_vouches 76 = .ok (.aload_n 0, 1) := by decide +kernel
theorem dL_vouches_77 : decode cL_vouches 77 = .ok (.iload_n 3, 1) := by decide +kernel
theorem dL_vouches_78 : decode cL_vouches 78 = .ok (.iload 4, 2) := by decide +kernel
theorem dL_vouches_80 : decode cL_vouches 80 = .ok (.iload 5, 2) := by decide +kernel
theorem dL_vouches_82 : decode cL_vouches 82 = .ok (.invokestatic 102, 3) := by decide +kernel
theorem dL_vouches_85 : decode cL_vouches 85 = .ok (.istore 7, 2) := by decide +kernel
theorem dL_vouches_87 : decode cL_vouches 87 = .ok (.iload_n 3, 1) := by decide +kernel
theorem dL_vouches_88 : decode cL_vouches 88 = .ok (.iload 4, 2) := by decide +kernel
theorem dL_vouches_90 : decode cL_vouches 90 = .ok (.if_icmp .eq 8, 3) := by decide +kernel
theorem dL_vouches_93 : decode cL_vouches 93 = .ok (.iload 6, 2) := by decide +kernel
theorem dL_vouches_95 : decode cL_vouches 95 = .ok (.ifCond .ne 27, 3) := by decide +kernel
theorem dL_vouches_98 : decode cL_vouches 98 = .ok (.iload 7, 2) := by decide +kernel
theorem dL_vouches_100 : decode cL_vouches 100 = .ok (.iload_n 3, 1) := by decide +kernel
theorem dL_vouches_101 : decode cL_vouches 101 = .ok (.iload 4, 2) := by decide +kernel
theorem dL_vouches_103 : decode cL_vouches 103 = .ok (.if_icmp .ne 8, 3) := by decide +kernel
theorem dL_vouches_106 : decode cL_vouches 106 = .ok (.ldc 21, 2) := by decide +kernel
theorem dL_vouches_108 : decode cL_vouches 108 = .ok (.goto 5, 3) := by decide +kernel
theorem dL_vouches_111 : decode cL_vouches 111 = .ok (.ldc 24, 2) := by decide +kernel
theorem dL_vouches_113 : decode cL_vouches 113 = .ok (.if_icmp .ne 7, 3) := by decide +kernel
theorem dL_vouches_116 : decode cL_vouches 116 = .ok (.iconst 1, 1) := by decide +kernel
theorem dL_vouches_117 : decode cL_vouches 117 = .ok (.goto 4, 3) := by decide +kernel
theorem dL_vouches_120 : decode cL_vouches 120 = .ok (.iconst 0, 1) := by decide +kernel
theorem dL_vouches_121 : decode cL_vouches 121 = .ok (.ireturn, 1) := by decide +kernel
theorem dL_vouches_122 : decode cL_vouches 122 = .ok (.aload_n 1, 1) := by decide +kernel
theorem dL_vouches_123 : decode cL_vouches 123 = .ok (.iconst 1, 1) := by decide +kernel
theorem dL_vouches_124 : decode cL_vouches 124 = .ok (.dup2, 1) := by decide +kernel
theorem dL_vouches_125 : decode cL_vouches 125 = .ok (.iaload, 1) := by decide +kernel
theorem dL_vouches_126 : decode cL_vouches 126 = .ok (.iconst 1, 1) := by decide +kernel
theorem dL_vouches_127 : decode cL_vouches 127 = .ok (.iadd, 1) := by decide +kernel
theorem dL_vouches_128 : decode cL_vouches 128 = .ok (.iastore, 1) := by decide +kernel
theorem dL_vouches_129 : decode cL_vouches 129 = .ok (.iload 7, 2) := by decide +kernel
theorem dL_vouches_131 : decode cL_vouches 131 = .ok (.aload_n 1, 1) := by decide +kernel
theorem dL_vouches_132 : decode cL_vouches 132 = .ok (.iconst 1, 1) := by decide +kernel
theorem dL_vouches_133 : decode cL_vouches 133 = .ok (.iaload, 1) := by decide +kernel
theorem dL_vouches_134 : decode cL_vouches 134 = .ok (.if_icmp .ne 60, 3) := by decide +kernel
theorem dL_vouches_137 : decode cL_vouches 137 = .ok (.aload_n 0, 1) := by decide +kernel
theorem dL_vouches_138 : decode cL_vouches 138 = .ok (.iload 4, 2) := by decide +kernel
theorem dL_vouches_140 : decode cL_vouches 140 = .ok (.iconst 4, 1) := by decide +kernel
theorem dL_vouches_141 : decode cL_vouches 141 = .ok (.invokestatic 76, 3) := by decide +kernel
theorem dL_vouches_144 : decode cL_vouches 144 = .ok (.iload_n 3, 1) := by decide +kernel
theorem dL_vouches_145 : decode cL_vouches 145 = .ok (.if_icmp .ne 49, 3) := by decide +kernel
theorem dL_vouches_148 : decode cL_vouches 148 = .ok (.aload_n 0, 1) := by decide +kernel
theorem dL_vouches_149 : decode cL_vouches 149 = .ok (.iload 4, 2) := by decide +kernel
theorem dL_vouches_151 : decode cL_vouches 151 = .ok (.iconst 1, 1) := by decide +kernel
theorem dL_vouches_152 : decode cL_vouches 152 = .ok (.invokestatic 76, 3) := by decide +kernel
theorem dL_vouches_155 : decode cL_vouches 155 = .ok (.iconst 1, 1) := by decide +kernel
theorem dL_vouches_156 : decode cL_vouches 156 = .ok (.if_icmp .ne 25, 3) := by decide +kernel
theorem dL_vouches_159 : decode cL_vouches 159 = .ok (.aload_n 0, 1) := by decide +kernel
theorem dL_vouches_160 : decode cL_vouches 160 = .ok (.iload 4, 2) := by decide +kernel
theorem dL_vouches_162 : decode cL_vouches 162 = .ok (.iconst 3, 1) := by decide +kernel
theorem dL_vouches_163 : decode cL_vouches 163 = .ok (.invokestatic 76, 3) := by decide +kernel
theorem dL_vouches_166 : decode cL_vouches 166 = .ok (.iload 5, 2) := by decide +kernel
theorem dL_vouches_168 : decode cL_vouches 168 = .ok (.aload_n 0, 1) := by decide +kernel
theorem dL_vouches_169 : decode cL_vouches 169 = .ok (.iload_n 3, 1) := by decide +kernel
theorem dL_vouches_170 : decode cL_vouches 170 = .ok (.iconst 3, 1) := by decide +kernel
theorem dL_vouches_171 : decode cL_vouches 171 = .ok (.invokestatic 76, 3) := by decide +kernel
theorem dL_vouches_174 : decode cL_vouches 174 = .ok (.iand, 1) := by decide +kernel
theorem dL_vouches_175 : decode cL_vouches 175 = .ok (.if_icmp .ne 19, 3) := by decide +kernel
theorem dL_vouches_178 : decode cL_vouches 178 = .ok (.goto 12, 3) := by decide +kernel
theorem dL_vouches_181 : decode cL_vouches 181 = .ok (.aload_n 0, 1) := by decide +kernel
theorem dL_vouches_182 : decode cL_vouches 182 = .ok (.iload_n 3, 1) := by decide +kernel
theorem dL_vouches_183 : decode cL_vouches 183 = .ok (.invokestatic 81, 3) := by decide +kernel
theorem dL_vouches_186 : decode cL_vouches 186 = .ok (.iconst (-1), 1) := by decide +kernel
theorem dL_vouches_187 : decode cL_vouches 187 = .ok (.if_icmp .ne 7, 3) := by decide +kernel
theorem dL_vouches_190 : decode cL_vouches 190 = .ok (.iconst 1, 1) := by decide +kernel
theorem dL_vouches_191 : decode cL_vouches 191 = .ok (.goto 4, 3) := by decide +kernel
theorem dL_vouches_194 : decode cL_vouches 194 = .ok (.iconst 0, 1) := by decide +kernel
theorem dL_vouches_195 : decode cL_vouches 195 = .ok (.ireturn, 1) := by decide +kernel
set_option maxRecDepth 20000 in
theorem ggL_loses_L_low : GoodIn wsL_loses wsL_low := goodIn_r _ [5, 6] (by decide +kernel) (by decide +kernel)
set_option maxRecDepth 20000 in
theorem gL_loses_L_low : GoodIn wsL_loses (va_wsS RL 96 yL_low wsL_low) := goodIn_app (goodIn_of _ (by decide +kernel)) ggL_loses_L_low
set_option maxRecDepth 20000 in
theorem ggL_loses_L_lose : GoodIn wsL_loses wsL_lose := goodIn_ca (goodIn_ca (goodIn_r _ [9, 10, 11, 12, 1, 13, 14, 15, 16, 17, 18, 19, 20, 21, 22, 23, 24, 25, 26, 27, 28, 29, 30, 31, 32, 33, 34, 35, 36, 37, 38, 39, 40, 41, 42, 43, 44, 45, 46, 47, 48, 49, 50, 51, 52, 53, 54, 55, 56, 57, 58, 59, 60, 61, 62, 63, 64, 65, 66, 116, 117, 118, 119, 120, 121, 122, 123, 124, 125, 126, 127, 128, 129, 130, 131, 132, 133, 134, 135, 136] (by decide +kernel) (by decide +kernel)) (goodIn_sub (fun _ h => List.mem_cons_of_mem _ (List.mem_append_left _ (List.mem_append_right _ h))) (by decide +kernel))) (goodIn_sub (fun _ h => List.mem_cons_of_mem _ (List.mem_append_right _ h)) (by decide +kernel))
set_option maxRecDepth 20000 in
theorem gL_loses_L_lose : GoodIn wsL_loses (va_wsS RL 104 yL_lose wsL_lose) := goodIn_app (goodIn_of _ (by decide +kernel)) ggL_loses_L_lose
set_option maxRecDepth 20000 in
theorem ggL_loses_L_of : GoodIn wsL_loses wsL_of := goodIn_ca (goodIn_ca (goodIn_r _ [69, 10, 11, 12, 1, 70, 71, 72, 16, 73, 18, 19, 20, 21, 74, 22, 23, 25, 26, 27, 75, 76, 77, 78, 79, 80, 81, 82, 83, 84, 85, 86, 31, 87, 88, 89, 90, 91, 34, 65, 66, 92, 58, 59, 60, 33, 61, 62, 63, 64, 38, 93, 94, 95, 96, 97, 98, 99, 100, 101, 102, 103, 104, 105, 106, 107, 108, 109, 110, 111, 112, 113, 114, 115, 36, 116, 117, 118, 119, 120, 121, 122, 137, 138, 139, 140, 123, 124, 125, 126, 127, 128, 129, 130] (by decide +kernel) (by decide +kernel)) (goodIn_sub (fun _ h => List.mem_cons_of_mem _ (List.mem_append_left _ (List.mem_append_right _ h))) (by decide +kernel))) (goodIn_sub (fun _ h => List.mem_cons_of_mem _ (List.mem_append_right _ h)) (by decide +kernel))
set_option maxRecDepth 20000 in
theorem gL_loses_L_of : GoodIn wsL_loses (va_wsS RL 76 yL_of wsL_of) := goodIn_app (goodIn_of _ (by decide +kernel)) ggL_loses_L_of
theorem dL_loses_0 : decode cL_loses 0 = .ok (.iload_n 3, 1) := by decide +kernel
theorem dL_loses_1 : decode cL_loses 1 = .ok (.aload_n 1, 1) := by decide +kernel
theorem dL_loses_2 : decode cL_loses 2 = .ok (.iconst 0, 1) := by decide +kernel
theorem dL_loses_3 : decode cL_loses 3 = .ok (.iaload, 1) := by decide +kernel
theorem dL_loses_4 : decode cL_loses 4 = .ok (.iconst 1, 1) := by decide +kernel
theorem dL_loses_5 : decode cL_loses 5 = .ok (.iadd, 1) := by decide +kernel
theorem dL_loses_6 : decode cL_loses 6 = .ok (.invokestatic 96, 3) := by decide +kernel
theorem dL_loses_9 : decode cL_loses 9 = .ok (.istore 4, 2) := by decide +kernel
theorem dL_loses_11 : decode cL_loses 11 = .ok (.aload_n 0, 1) := by decide +kernel
theorem dL_loses_12 : decode cL_loses 12 = .ok (.iload_n 2, 1) := by decide +kernel
theorem dL_loses_13 : decode cL_loses 13 = .ok (.iload 4, 2) := by decide +kernel
theorem dL_loses_15 : decode cL_loses 15 = .ok (.invokestatic 104, 3) := by decide +kernel
theorem dL_loses_18 : decode cL_loses 18 = .ok (.istore 5, 2) := by decide +kernel
theorem dL_loses_20 : decode cL_loses 20 = .ok (.iconst 0, 1) := by decide +kernel
theorem dL_loses_21 : decode cL_loses 21 = .ok (.istore 6, 2) := by decide +kernel
theorem dL_loses_23 : decode cL_loses 23 = .ok (.iconst 0, 1) := by decide +kernel
theorem dL_loses_24 : decode cL_loses 24 = .ok (.istore 7, 2) := by decide +kernel
theorem dL_loses_26 : decode cL_loses 26 = .ok (.iload 7, 2) := by decide +kernel
theorem dL_loses_28 : decode cL_loses 28 = .ok (.bipush 12, 2) := by decide +kernel
theorem dL_loses_30 : decode cL_loses 30 = .ok (.if_icmp .ge 21, 3) := by decide +kernel
theorem dL_loses_33 : decode cL_loses 33 = .ok (.iload 6, 2) := by decide +kernel
theorem dL_loses_35 : decode cL_loses 35 = .ok (.aload_n 0, 1) := by decide +kernel
theorem dL_loses_36 : decode cL_loses 36 = .ok (.iload 7, 2) := by decide +kernel
theorem dL_loses_38 : decode cL_loses 38 = .ok (.iconst 2, 1) := by decide +kernel
theorem dL_loses_39 : decode cL_loses 39 = .ok (.invokestatic 76, 3) := by decide +kernel
theorem dL_loses_42 : decode cL_loses 42 = .ok (.iadd, 1) := by decide +kernel
theorem dL_loses_43 : decode cL_loses 43 = .ok (.istore 6, 2) := by decide +kernel
theorem dL_loses_45 : decode cL_loses 45 = .ok (.iinc 7 1, 3) := by decide +kernel
theorem dL_loses_48 : decode cL_loses 48 = .ok (.goto (-22), 3) := by decide +kernel
theorem dL_loses_51 : decode cL_loses 51 = .ok (.iload 5, 2) := by decide +kernel
theorem dL_loses_53 : decode cL_loses 53 = .ok (.iload 6, 2) := by decide +kernel
theorem dL_loses_55 : decode cL_loses 55 = .ok (.if_icmp .ne 32, 3) := by decide +kernel
theorem dL_loses_58 : decode cL_loses 58 = .ok (.aload_n 0, 1) := by decide +kernel
theorem dL_loses_59 : decode cL_loses 59 = .ok (.iload_n 2, 1) := by decide +kernel
theorem dL_loses_60 : decode cL_loses 60 = .ok (.iconst 2, 1) := by decide +kernel
theorem dL_loses_61 : decode cL_loses 61 = .ok (.invokestatic 76, 3) := by decide +kernel
theorem dL_loses_64 : decode cL_loses 64 = .ok (.iconst 1, 1) := by decide +kernel
theorem dL_loses_65 : decode cL_loses 65 = .ok (.if_icmp .ne 22, 3) := by decide +kernel
theorem dL_loses_68 : decode cL_loses 68 = .ok (.aload_n 0, 1) := by decide +kernel
theorem dL_loses_69 : decode cL_loses 69 = .ok (.iload_n 2, 1) := by decide +kernel
theorem dL_loses_70 : decode cL_loses 70 = .ok (.aload_n 1, 1) := by decide +kernel
theorem dL_loses_71 : decode cL_loses 71 = .ok (.iconst 0, 1) := by decide +kernel
theorem dL_loses_72 : decode cL_loses 72 = .ok (.iaload, 1) := by decide +kernel
theorem dL_loses_73 : decode cL_loses 73 = .ok (.iconst 1, 1) := by decide +kernel
theorem dL_loses_74 : decode cL_loses 74 = .ok (.iadd, 1) := by decide +kernel
theorem dL_loses_75 : decode cL_loses 75 = .ok (.invokestatic 104, 3) := by decide +kernel
theorem dL_loses_78 : decode cL_loses 78 = .ok (.ldc 21, 2) := by decide +kernel
theorem dL_loses_80 : decode cL_loses 80 = .ok (.if_icmp .ne 7, 3) := by decide +kernel
theorem dL_loses_83 : decode cL_loses 83 = .ok (.iconst 1, 1) := by decide +kernel
theorem dL_loses_84 : decode cL_loses 84 = .ok (.goto 4, 3) := by decide +kernel
theorem dL_loses_87 : decode cL_loses 87 = .ok (.iconst 0, 1) := by decide +kernel
theorem dL_loses_88 : decode cL_loses 88 = .ok (.ireturn, 1) := by decide +kernel
set_option maxRecDepth 20000 in
theorem ggL_acts_L_low : GoodIn wsL_acts wsL_low := goodIn_r _ [5, 6] (by decide +kernel) (by decide +kernel)
set_option maxRecDepth 20000 in
theorem gL_acts_L_low : GoodIn wsL_acts (va_wsS RL 96 yL_low wsL_low) := goodIn_app (goodIn_of _ (by decide +kernel)) ggL_acts_L_low
set_option maxRecDepth 20000 in
theorem ggL_acts_L_logsIn : GoodIn wsL_acts wsL_logsIn := goodIn_ca (goodIn_ca (goodIn_r _ [9, 10, 11, 4, 12, 13, 14, 15, 16, 17, 18, 19, 20, 21, 22, 23, 24, 25, 26, 27, 28, 29, 30, 31, 32, 33, 34, 35, 36, 37, 38, 39, 40, 41, 42, 43, 44, 45, 46, 47, 48, 49, 50, 51, 52, 53, 54, 55, 56, 57, 58, 59, 60, 61, 62, 63, 64, 65, 66, 67, 68, 69, 70, 71, 72, 73, 74, 75, 76, 77, 78, 79, 80, 81, 82, 83, 84, 85, 86, 2, 3, 5, 6, 87, 88, 89, 90, 91, 92, 93, 94, 95, 96, 97, 98, 99, 100, 101, 102, 103, 104, 105, 106, 476, 477, 478, 479, 480, 481, 482, 483, 484, 485, 486, 487, 488, 489, 490, 491, 492, 493, 494] (by decide +kernel) (by decide +kernel)) (goodIn_sub (fun _ h => List.mem_cons_of_mem _ (List.mem_append_left _ (List.mem_append_left _ (List.mem_append_right _ h)))) (by decide +kernel))) (goodIn_sub (fun _ h => List.mem_cons_of_mem _ (List.mem_append_left _ (List.mem_append_right _ h))) (by decide +kernel))
set_option maxRecDepth 20000 in
theorem gL_acts_L_logsIn : GoodIn wsL_acts (va_wsS RL 106 yL_logsIn wsL_logsIn) := goodIn_app (goodIn_of _ (by decide +kernel)) ggL_acts_L_logsIn
set_option maxRecDepth 20000 in
theorem ggL_acts_L_vouches : GoodIn wsL_acts wsL_vouches := goodIn_ca (goodIn_ca (goodIn_ca (goodIn_r _ [109, 16, 1, 2, 3, 4, 5, 6, 10, 11, 12, 13, 14, 15, 17, 18, 19, 20, 21, 22, 23, 24, 25, 26, 27, 28, 29, 30, 31, 32, 33, 34, 35, 36, 37, 38, 39, 40, 41, 42, 43, 44, 45, 46, 47, 48, 49, 50, 51, 52, 53, 54, 55, 56, 57, 58, 59, 60, 61, 62, 63, 64, 65, 66, 67, 68, 69, 70, 71, 72, 73, 74, 75, 76, 77, 78, 79, 80, 81, 82, 83, 84, 85, 86, 110, 111, 112, 113, 114, 115, 116, 117, 118, 119, 120, 121, 122, 123, 124, 125, 126, 127, 128, 129, 130, 131, 132, 133, 134, 135, 136, 137, 138, 139, 140, 141, 142, 143, 144, 145, 146, 147, 148, 149, 150, 151, 152, 153, 154, 155, 156, 157, 158, 159, 160, 161, 162, 476, 477, 478, 479, 480, 481, 482, 483, 484, 485, 486, 487, 488, 489, 490, 491, 492, 493, 494, 495, 496, 497, 498, 499, 500] (by decide +kernel) (by decide +kernel)) (goodIn_sub (fun _ h => List.mem_cons_of_mem _ (List.mem_append_left _ (List.mem_append_left _ (List.mem_append_right _ h)))) (by decide +kernel))) (goodIn_sub (fun _ h => List.mem_cons_of_mem _ (List.mem_append_left _ (List.mem_append_right _ h))) (by decide +kernel))) (goodIn_sub (fun _ h => List.mem_cons_of_mem _ (List.mem_append_right _ h)) (by decide +kernel))
set_option maxRecDepth 20000 in
theorem gL_acts_L_vouches : GoodIn wsL_acts (va_wsS RL 110 yL_vouches wsL_vouches) := goodIn_app (goodIn_of _ (by decide +kernel)) ggL_acts_L_vouches
set_option maxRecDepth 20000 in
theorem ggL_acts_L_pass : GoodIn wsL_acts wsL_pass := goodIn_ca (goodIn_r _ [165, 14, 16, 166, 167, 168, 20, 169, 24, 25, 27, 476, 477, 478, 479, 480, 481, 482] (by decide +kernel) (by decide +kernel)) (goodIn_sub (fun _ h => List.mem_cons_of_mem _ (List.mem_append_left _ (List.mem_append_right _ h))) (by decide +kernel))
set_option maxRecDepth 20000 in
theorem gL_acts_L_pass : GoodIn wsL_acts (va_wsS RL 114 yL_pass wsL_pass) := goodIn_app (goodIn_of _ (by decide +kernel)) ggL_acts_L_pass
set_option maxRecDepth 20000 in
theorem ggL_acts_L_loses : GoodIn wsL_acts wsL_loses := goodIn_ca (goodIn_ca (goodIn_r _ [172, 16, 2, 3, 4, 5, 6, 173, 174, 175, 13, 14, 15, 176, 177, 178, 20, 179, 22, 23, 24, 25, 27, 28, 120, 29, 30, 31, 180, 181, 182, 44, 183, 57, 50, 137, 86, 136, 62, 184, 185, 186, 129, 187, 146, 147, 148, 149, 150, 151, 152, 153, 154, 188, 189, 190, 191, 192, 54, 55, 56, 58, 59, 60, 61, 51, 52, 10, 11, 12, 17, 18, 19, 21, 26, 32, 33, 34, 35, 36, 37, 38, 39, 40, 41, 42, 43, 45, 46, 47, 48, 49, 53, 63, 64, 65, 66, 67, 68, 69, 70, 71, 72, 73, 74, 75, 76, 77, 78, 79, 80, 81, 82, 83, 84, 85, 476, 477, 478, 479, 480, 481, 482, 487, 488, 489, 490, 491, 492, 493, 494, 495, 496, 497, 498, 499, 500, 483, 484, 485, 486] (by decide +kernel) (by decide +kernel)) (goodIn_sub (fun _ h => List.mem_cons_of_mem _ (List.mem_append_left _ (List.mem_append_left _ (List.mem_append_right _ h)))) (by decide +kernel))) (goodIn_sub (fun _ h => List.mem_cons_of_mem _ (List.mem_append_left _ (List.mem_append_right _ h))) (by decide +kernel))
set_option maxRecDepth 20000 in
theorem gL_acts_L_loses : GoodIn wsL_acts (va_wsS RL 116 yL_loses wsL_loses) := goodIn_app (goodIn_of _ (by decide +kernel)) ggL_acts_L_loses
set_option maxRecDepth 20000 in
theorem ggL_acts_L_issue : GoodIn wsL_acts wsL_issue := goodIn_ca (goodIn_r _ [195, 13, 15, 196, 197, 198, 20, 199, 22, 23, 28, 120, 29, 30, 31, 200, 201, 202, 44, 203, 86, 204, 57, 205, 206, 207, 129, 208, 146, 147, 148, 149, 150, 151, 152, 153, 154, 82, 83, 84, 85, 476, 477, 478, 479, 480, 481, 482, 487, 488, 489, 490, 491, 492, 493, 494, 495, 496, 497, 498, 499, 500] (by decide +kernel) (by decide +kernel)) (goodIn_sub (fun _ h => List.mem_cons_of_mem _ (List.mem_append_left _ (List.mem_append_left _ (List.mem_append_right _ h)))) (by decide +kernel))
set_option maxRecDepth 20000 in
theorem gL_acts_L_issue : GoodIn wsL_acts (va_wsS RL 120 yL_issue wsL_issue) := goodIn_app (goodIn_of _ (by decide +kernel)) ggL_acts_L_issue
set_option maxRecDepth 20000 in
theorem ggL_acts_L_isSign : GoodIn wsL_acts wsL_isSign := goodIn_ca (goodIn_r _ [211, 212, 213, 4, 214, 13, 15, 215, 216, 217, 20, 218, 22, 23, 28, 29, 30, 31, 82, 83, 84, 44, 85, 86, 219, 220, 221, 222, 223, 224, 225, 226, 227, 228, 229, 230, 231, 232, 233, 234, 235, 236, 237, 238, 239, 240, 241, 242, 243, 244, 245, 246, 247, 248, 249, 250, 251, 252, 253, 254, 255, 256, 257, 258, 259, 260, 261, 262, 263, 264, 265, 266, 267, 268, 269, 270, 271, 272, 273, 274, 275, 276, 277, 278, 279, 280, 281, 282, 283, 284, 285, 286, 287, 288, 289, 290, 291, 292, 293, 294, 295, 296, 297, 298, 299, 300, 301, 302, 303, 304, 305, 306, 307, 308, 309, 310, 311, 312, 313, 314, 315, 316, 317, 318, 319, 320, 321, 322, 323, 324, 325, 326, 327, 328, 329, 330, 331, 332, 333, 334, 335, 336, 337, 338, 339, 340, 341, 342, 343, 344, 345, 346, 347, 348, 349, 350, 351, 352, 353, 354, 355, 356, 357, 358, 359, 360, 361, 362, 363, 364, 365, 366, 367, 368, 369, 370, 371, 372, 373, 374, 375, 376, 377, 378, 379, 380, 381, 382, 383, 384, 385, 386, 387, 388, 389, 390, 391, 392, 393, 394, 395, 396, 397, 398, 399, 400, 401, 402, 403, 404, 405, 406, 407, 476, 477, 478, 479, 480, 481, 482, 487, 488, 489, 490, 491, 492, 493, 494, 501, 502, 503, 504] (by decide +kernel) (by decide +kernel)) (goodIn_sub (fun _ h => List.mem_cons_of_mem _ (List.mem_append_left _ (List.mem_append_left _ (List.mem_append_right _ h)))) (by decide +kernel))
set_option maxRecDepth 20000 in
theorem gL_acts_L_isSign : GoodIn wsL_acts (va_wsS RL 122 yL_isSign wsL_isSign) := goodIn_app (goodIn_of _ (by decide +kernel)) ggL_acts_L_isSign
set_option maxRecDepth 20000 in
theorem ggL_acts_L_of : GoodIn wsL_acts wsL_of := goodIn_ca (goodIn_ca (goodIn_r _ [12, 13, 14, 15, 16, 17, 18, 19, 20, 21, 22, 23, 24, 25, 26, 27, 28, 29, 30, 31, 32, 33, 34, 35, 36, 37, 38, 39, 40, 41, 42, 43, 44, 45, 46, 47, 48, 49, 50, 51, 52, 53, 54, 55, 56, 57, 58, 59, 60, 61, 62, 63, 64, 65, 66, 67, 68, 69, 70, 71, 72, 73, 74, 75, 76, 77, 78, 79, 80, 81, 82, 83, 84, 85, 86, 476, 477, 478, 479, 480, 481, 482, 483, 484, 485, 486, 487, 488, 489, 490, 491, 492, 493, 494] (by decide +kernel) (by decide +kernel)) (goodIn_sub (fun _ h => List.mem_cons_of_mem _ (List.mem_append_left _ (List.mem_append_left _ (List.mem_append_right _ h)))) (by decide +kernel))) (goodIn_sub (fun _ h => List.mem_cons_of_mem _ (List.mem_append_left _ (List.mem_append_right _ h))) (by decide +kernel))
set_option maxRecDepth 20000 in
theorem gL_acts_L_of : GoodIn wsL_acts (va_wsS RL 76 yL_of wsL_of) := goodIn_app (goodIn_of _ (by decide +kernel)) ggL_acts_L_of
set_option maxRecDepth 20000 in
theorem ggL_acts_L_end : GoodIn wsL_acts wsL_end := goodIn_ca (goodIn_ca (goodIn_r _ [410, 13, 113, 15, 1, 411, 412, 413, 20, 414, 22, 23, 118, 119, 28, 120, 121, 51, 52, 69, 70, 71, 44, 72, 50, 415, 416, 417, 418, 62, 419, 420, 421, 129, 422, 146, 147, 148, 149, 150, 151, 152, 153, 154, 476, 477, 478, 479, 480, 481, 482, 487, 488, 489, 490, 491, 492, 493, 494, 495, 496, 497, 498, 499, 500] (by decide +kernel) (by decide +kernel)) (goodIn_sub (fun _ h => List.mem_cons_of_mem _ (List.mem_append_left _ (List.mem_append_left _ (List.mem_append_right _ h)))) (by decide +kernel))) (goodIn_sub (fun _ h => List.mem_cons_of_mem _ (List.mem_append_right _ h)) (by decide +kernel))
set_option maxRecDepth 20000 in
theorem gL_acts_L_end : GoodIn wsL_acts (va_wsS RL 126 yL_end wsL_end) := goodIn_app (goodIn_of _ (by decide +kernel)) ggL_acts_L_end
set_option maxRecDepth 20000 in
theorem ggL_acts_L_word : GoodIn wsL_acts wsL_word := goodIn_ca (goodIn_ca (goodIn_ca (goodIn_r _ [425, 13, 14, 113, 15, 16, 1, 426, 427, 428, 20, 429, 22, 23, 24, 25, 118, 119, 26, 27, 29, 30, 31, 32, 33, 34, 35, 36, 37, 430, 431, 432, 433, 99, 476, 477, 478, 479, 480, 481, 482, 483, 484, 485, 486] (by decide +kernel) (by decide +kernel)) (goodIn_sub (fun _ h => List.mem_cons_of_mem _ (List.mem_append_left _ (List.mem_append_left _ (List.mem_append_right _ h)))) (by decide +kernel))) (goodIn_sub (fun _ h => List.mem_cons_of_mem _ (List.mem_append_left _ (List.mem_append_right _ h))) (by decide +kernel))) (goodIn_sub (fun _ h => List.mem_cons_of_mem _ (List.mem_append_right _ h)) (by decide +kernel))
set_option maxRecDepth 20000 in
theorem gL_acts_L_word : GoodIn wsL_acts (va_wsS RL 128 yL_word wsL_word) := goodIn_app (goodIn_of _ (by decide +kernel)) ggL_acts_L_word
set_option maxRecDepth 20000 in
theorem ggL_acts_L_keyOf : GoodIn wsL_acts wsL_keyOf := goodIn_ca (goodIn_ca (goodIn_r _ [436, 13, 14, 15, 16, 437, 438, 439, 20, 440, 22, 23, 24, 25, 441, 442, 443, 444, 445, 446, 447, 448, 449, 450, 451, 452, 122, 123, 124, 125, 26, 27, 28, 32, 33, 34, 35, 36, 37, 41, 42, 43, 44, 45, 46, 47, 48, 49, 50, 30, 31, 51, 52, 53, 54, 55, 56, 57, 58, 59, 60, 61, 62, 476, 477, 478, 479, 480, 481, 482, 483, 484, 485, 486, 487, 488, 489, 490, 491, 492, 493, 494] (by decide +kernel) (by decide +kernel)) (goodIn_sub (fun _ h => List.mem_cons_of_mem _ (List.mem_append_left _ (List.mem_append_left _ (List.mem_append_right _ h)))) (by decide +kernel))) (goodIn_sub (fun _ h => List.mem_cons_of_mem _ (List.mem_append_left _ (List.mem_append_right _ h))) (by decide +kernel))
set_option maxRecDepth 20000 in
theorem gL_acts_L_keyOf : GoodIn wsL_acts (va_wsS RL 90 yL_keyOf wsL_keyOf) := goodIn_app (goodIn_of _ (by decide +kernel)) ggL_acts_L_keyOf
set_option maxRecDepth 20000 in
theorem ggL_acts_L_share : GoodIn wsL_acts wsL_share := goodIn_ca (goodIn_ca (goodIn_r _ [455, 13, 14, 15, 16, 456, 457, 458, 20, 459, 22, 23, 24, 25, 442, 441, 443, 444, 445, 460, 461, 259, 462, 463, 464, 465, 476, 477, 478, 479, 480, 481, 482] (by decide +kernel) (by decide +kernel)) (goodIn_sub (fun _ h => List.mem_cons_of_mem _ (List.mem_append_left _ (List.mem_append_left _ (List.mem_append_right _ h)))) (by decide +kernel))) (goodIn_sub (fun _ h => List.mem_cons_of_mem _ (List.mem_append_left _ (List.mem_append_right _ h))) (by decide +kernel))
set_option maxRecDepth 20000 in
theorem gL_acts_L_share : GoodIn wsL_acts (va_wsS RL 130 yL_share wsL_share) := goodIn_app (goodIn_of _ (by decide +kernel)) ggL_acts_L_share
set_option maxRecDepth 20000 in
theorem ggL_acts_L_areKeys : GoodIn wsL_acts wsL_areKeys := goodIn_ca (goodIn_ca (goodIn_r _ [468, 434, 435, 4, 436, 13, 14, 15, 16, 437, 438, 439, 20, 440, 22, 23, 24, 25, 441, 442, 443, 444, 445, 446, 447, 448, 449, 450, 451, 452, 122, 123, 124, 125, 26, 27, 28, 32, 33, 34, 35, 36, 37, 41, 42, 43, 44, 45, 46, 47, 48, 49, 50, 30, 31, 51, 52, 53, 54, 55, 56, 57, 58, 59, 60, 61, 62, 10, 11, 12, 17, 18, 19, 21, 29, 38, 39, 40, 63, 64, 65, 66, 67, 68, 69, 70, 71, 72, 73, 74, 75, 76, 77, 78, 79, 80, 81, 82, 83, 84, 85, 86, 469, 470, 471, 472, 473, 474, 475, 476, 477, 478, 479, 480, 481, 482, 483, 484, 485, 486, 487, 488, 489, 490, 491, 492, 493, 494] (by decide +kernel) (by decide +kernel)) (goodIn_sub (fun _ h => List.mem_cons_of_mem _ (List.mem_append_left _ (List.mem_append_left _ (List.mem_append_right _ h)))) (by decide +kernel))) (goodIn_sub (fun _ h => List.mem_cons_of_mem _ (List.mem_append_left _ (List.mem_append_right _ h))) (by decide +kernel))
set_option maxRecDepth 20000 in
theorem gL_acts_L_areKeys : GoodIn wsL_acts (va_wsS RL 132 yL_areKeys wsL_areKeys) := goodIn_app (goodIn_of _ (by decide +kernel)) ggL_acts_L_areKeys
theorem dL_acts_0 : decode cL_acts 0 = .ok (.iload 4, 2) := by decide +kernel
theorem dL_acts_2 : decode cL_acts 2 = .ok (.bipush 14, 2) := by decide +kernel
theorem dL_acts_4 : decode cL_acts 4 = .ok (.invokestatic 96, 3) := by decide +kernel
theorem dL_acts_7 : decode cL_acts 7 = .ok (.istore 6, 2) := by decide +kernel
theorem dL_acts_9 : decode cL_acts 9 = .ok (.iload 4, 2) := by decide +kernel
theorem dL_acts_11 : decode cL_acts 11 = .ok (.iconst 4, 1) := by decide +kernel
theorem dL_acts_12 : decode cL_acts 12 = .ok (.ishr, 1) := by decide +kernel
theorem dL_acts_13 : decode cL_acts 13 = .ok (.bipush 12, 2) := by decide +kernel
theorem dL_acts_15 : decode cL_acts 15 = .ok (.invokestatic 96, 3) := by decide +kernel
theorem dL_acts_18 : decode cL_acts 18 = .ok (.istore 7, 2) := by decide +kernel
theorem dL_acts_20 : decode cL_acts 20 = .ok (.iload 6, 2) := by decide +kernel
theorem dL_acts_22 : decode cL_acts 22 = .ok (.iconst 4, 1) := by decide +kernel
theorem dL_acts_23 : decode cL_acts 23 = .ok (.if_icmp .ge 14, 3) := by decide +kernel
theorem dL_acts_26 : decode cL_acts 26 = .ok (.aload_n 0, 1) := by decide +kernel
theorem dL_acts_27 : decode cL_acts 27 = .ok (.aload_n 1, 1) := by decide +kernel
theorem dL_acts_28 : decode cL_acts 28 = .ok (.aload_n 2, 1) := by decide +kernel
theorem dL_acts_29 : decode cL_acts 29 = .ok (.iload 7, 2) := by decide +kernel
theorem dL_acts_31 : decode cL_acts 31 = .ok (.iload 5, 2) := by decide +kernel
theorem dL_acts_33 : decode cL_acts 33 = .ok (.invokestatic 106, 3) := by decide +kernel
theorem dL_acts_36 : decode cL_acts 36 = .ok (.ireturn, 1) := by decide +kernel
theorem dL_acts_37 : decode cL_acts 37 = .ok (.iload 6, 2) := by decide +kernel
theorem dL_acts_39 : decode cL_acts 39 = .ok (.bipush 8, 2) := by decide +kernel
theorem dL_acts_41 : decode cL_acts 41 = .ok (.if_icmp .ge 11, 3) := by decide +kernel
theorem dL_acts_44 : decode cL_acts 44 = .ok (.aload_n 0, 1) := by decide +kernel
theorem dL_acts_45 : decode cL_acts 45 = .ok (.aload_n 1, 1) := by decide +kernel
theorem dL_acts_46 : decode cL_acts 46 = .ok (.iload 5, 2) := by decide +kernel
theorem dL_acts_48 : decode cL_acts 48 = .ok (.invokestatic 110, 3) := by decide +kernel
theorem dL_acts_51 : decode cL_acts 51 = .ok (.ireturn, 1) := by decide +kernel
theorem dL_acts_52 : decode cL_acts 52 = .ok (.iload 6, 2) := by decide +kernel
theorem dL_acts_54 : decode cL_acts 54 = .ok (.bipush 8, 2) := by decide +kernel
theorem dL_acts_56 : decode cL_acts 56 = .ok (.if_icmp .ne 40, 3) := by decide +kernel
theorem dL_acts_59 : decode cL_acts 59 = .ok (.iconst 1, 1) := by decide +kernel
theorem dL_acts_60 : decode cL_acts 60 = .ok (.iload 5, 2) := by decide +kernel
theorem dL_acts_62 : decode cL_acts 62 = .ok (.bipush 12, 2) := by decide +kernel
theorem dL_acts_64 : decode cL_acts 64 = .ok (.invokestatic 96, 3) := by decide +kernel
theorem dL_acts_67 : decode cL_acts 67 = .ok (.iadd, 1) := by decide +kernel
theorem dL_acts_68 : decode cL_acts 68 = .ok (.istore 8, 2) := by decide +kernel
theorem dL_acts_70 : decode cL_acts 70 = .ok (.aload_n 1, 1) := by decide +kernel
theorem dL_acts_71 : decode cL_acts 71 = .ok (.iconst 0, 1) := by decide +kernel
theorem dL_acts_72 : decode cL_acts 72 = .ok (.dup2, 1) := by decide +kernel
theorem dL_acts_73 : decode cL_acts 73 = .ok (.iaload, 1) := by decide +kernel
theorem dL_acts_74 : decode cL_acts 74 = .ok (.iload 8, 2) := by decide +kernel
theorem dL_acts_76 : decode cL_acts 76 = .ok (.iadd, 1) := by decide +kernel
theorem dL_acts_77 : decode cL_acts 77 = .ok (.iastore, 1) := by decide +kernel
theorem dL_acts_78 : decode cL_acts 78 = .ok (.aload_n 0, 1) := by decide +kernel
theorem dL_acts_79 : decode cL_acts 79 = .ok (.iload 8, 2) := by decide +kernel
theorem dL_acts_81 : decode cL_acts 81 = .ok (.invokestatic 114, 3) := by decide +kernel
theorem dL_acts_84 : decode cL_acts 84 = .ok (.aload_n 1, 1) := by decide +kernel
theorem dL_acts_85 : decode cL_acts 85 = .ok (.iconst 0, 1) := by decide +kernel
theorem dL_acts_86 : decode cL_acts 86 = .ok (.iaload, 1) := by decide +kernel
theorem dL_acts_87 : decode cL_acts 87 = .ok (.if_icmp .ne 7, 3) := by decide +kernel
theorem dL_acts_90 : decode cL_acts 90 = .ok (.iconst 1, 1) := by decide +kernel
theorem dL_acts_91 : decode cL_acts 91 = .ok (.goto 4, 3) := by decide +kernel
theorem dL_acts_94 : decode cL_acts 94 = .ok (.iconst 0, 1) := by decide +kernel
theorem dL_acts_95 : decode cL_acts 95 = .ok (.ireturn, 1) := by decide +kernel
theorem dL_acts_96 : decode cL_acts 96 = .ok (.iload 6, 2) := by decide +kernel
theorem dL_acts_98 : decode cL_acts 98 = .ok (.bipush 9, 2) := by decide +kernel
theorem dL_acts_100 : decode cL_acts 100 = .ok (.if_icmp .ne 13, 3) := by decide +kernel
theorem dL_acts_103 : decode cL_acts 103 = .ok (.aload_n 0, 1) := by decide +kernel
theorem dL_acts_104 : decode cL_acts 104 = .ok (.aload_n 1, 1) := by decide +kernel
theorem dL_acts_105 : decode cL_acts 105 = .ok (.iload 7, 2) := by decide +kernel
theorem dL_acts_107 : decode cL_acts 107 = .ok (.iload 5, 2) := by decide +kernel
theorem dL_acts_109 : decode cL_acts 109 = .ok (.invokestatic 116, 3) := by decide +kernel
theorem dL_acts_112 : decode cL_acts 112 = .ok (.ireturn, 1) := by decide +kernel
theorem dL_acts_113 : decode cL_acts 113 = .ok (.iload 6, 2) := by decide +kernel
theorem dL_acts_115 : decode cL_acts 115 = .ok (.bipush 10, 2) := by decide +kernel
theorem dL_acts_117 : decode cL_acts 117 = .ok (.if_icmp .ne 51, 3) := by decide +kernel
theorem dL_acts_120 : decode cL_acts 120 = .ok (.aload_n 0, 1) := by decide +kernel
theorem dL_acts_121 : decode cL_acts 121 = .ok (.iload 7, 2) := by decide +kernel
theorem dL_acts_123 : decode cL_acts 123 = .ok (.invokestatic 120, 3) := by decide +kernel
theorem dL_acts_126 : decode cL_acts 126 = .ok (.istore 8, 2) := by decide +kernel
theorem dL_acts_128 : decode cL_acts 128 = .ok (.aload_n 3, 1) := by decide +kernel
theorem dL_acts_129 : decode cL_acts 129 = .ok (.iload 7, 2) := by decide +kernel
theorem dL_acts_131 : decode cL_acts 131 = .ok (.iload 8, 2) := by decide +kernel
theorem dL_acts_133 : decode cL_acts 133 = .ok (.iastore, 1) := by decide +kernel
theorem dL_acts_134 : decode cL_acts 134 = .ok (.aload_n 1, 1) := by decide +kernel
theorem dL_acts_135 : decode cL_acts 135 = .ok (.iconst 2, 1) := by decide +kernel
theorem dL_acts_136 : decode cL_acts 136 = .ok (.dup2, 1) := by decide +kernel
theorem dL_acts_137 : decode cL_acts 137 = .ok (.iaload, 1) := by decide +kernel
theorem dL_acts_138 : decode cL_acts 138 = .ok (.iconst 1, 1) := by decide +kernel
theorem dL_acts_139 : decode cL_acts 139 = .ok (.iadd, 1) := by decide +kernel
theorem dL_acts_140 : decode cL_acts 140 = .ok (.iastore, 1) := by decide +kernel
theorem dL_acts_141 : decode cL_acts 141 = .ok (.iload 8, 2) := by decide +kernel
theorem dL_acts_143 : decode cL_acts 143 = .ok (.aload_n 1, 1) := by decide +kernel
theorem dL_acts_144 : decode cL_acts 144 = .ok (.iconst 2, 1) := by decide +kernel
theorem dL_acts_145 : decode cL_acts 145 = .ok (.iaload, 1) := by decide +kernel
theorem dL_acts_146 : decode cL_acts 146 = .ok (.iconst 1, 1) := by decide +kernel
theorem dL_acts_147 : decode cL_acts 147 = .ok (.isub, 1) := by decide +kernel
theorem dL_acts_148 : decode cL_acts 148 = .ok (.if_icmp .ne 18, 3) := by decide +kernel
theorem dL_acts_151 : decode cL_acts 151 = .ok (.aload_n 0, 1) := by decide +kernel
theorem dL_acts_152 : decode cL_acts 152 = .ok (.iload 7, 2) := by decide +kernel
theorem dL_acts_154 : decode cL_acts 154 = .ok (.iload 8, 2) := by decide +kernel
theorem dL_acts_156 : decode cL_acts 156 = .ok (.invokestatic 122, 3) := by decide +kernel
theorem dL_acts_159 : decode cL_acts 159 = .ok (.ifCond .eq 7, 3) := by decide +kernel
theorem dL_acts_162 : decode cL_acts 162 = .ok (.iconst 1, 1) := by decide +kernel
theorem dL_acts_163 : decode cL_acts 163 = .ok (.goto 4, 3) := by decide +kernel
theorem dL_acts_166 : decode cL_acts 166 = .ok (.iconst 0, 1) := by decide +kernel
theorem dL_acts_167 : decode cL_acts 167 = .ok (.ireturn, 1) := by decide +kernel
theorem dL_acts_168 : decode cL_acts 168 = .ok (.iload 6, 2) := by decide +kernel
theorem dL_acts_170 : decode cL_acts 170 = .ok (.bipush 11, 2) := by decide +kernel
theorem dL_acts_172 : decode cL_acts 172 = .ok (.if_icmp .ne 71, 3) := by decide +kernel
theorem dL_acts_175 : decode cL_acts 175 = .ok (.iconst 4, 1) := by decide +kernel
theorem dL_acts_176 : decode cL_acts 176 = .ok (.iload 5, 2) := by decide +kernel
theorem dL_acts_178 : decode cL_acts 178 = .ok (.bipush 8, 2) := by decide +kernel
theorem dL_acts_180 : decode cL_acts 180 = .ok (.invokestatic 96, 3) := by decide +kernel
theorem dL_acts_183 : decode cL_acts 183 = .ok (.iadd, 1) := by decide +kernel
theorem dL_acts_184 : decode cL_acts 184 = .ok (.istore 8, 2) := by decide +kernel
theorem dL_acts_186 : decode cL_acts 186 = .ok (.aload_n 0, 1) := by decide +kernel
theorem dL_acts_187 : decode cL_acts 187 = .ok (.iload 8, 2) := by decide +kernel
theorem dL_acts_189 : decode cL_acts 189 = .ok (.iconst 4, 1) := by decide +kernel
theorem dL_acts_190 : decode cL_acts 190 = .ok (.invokestatic 76, 3) := by decide +kernel
theorem dL_acts_193 : decode cL_acts 193 = .ok (.istore 9, 2) := by decide +kernel
theorem dL_acts_195 : decode cL_acts 195 = .ok (.aload_n 0, 1) := by decide +kernel
theorem dL_acts_196 : decode cL_acts 196 = .ok (.iload 8, 2) := by decide +kernel
theorem dL_acts_198 : decode cL_acts 198 = .ok (.invokestatic 126, 3) := by decide +kernel
theorem dL_acts_201 : decode cL_acts 201 = .ok (.iload 9, 2) := by decide +kernel
theorem dL_acts_203 : decode cL_acts 203 = .ok (.ifCond .ge 8, 3) := by decide +kernel
theorem dL_acts_206 : decode cL_acts 206 = .ok (.ldc 24, 2) := by decide +kernel
theorem dL_acts_208 : decode cL_acts 208 = .ok (.goto 5, 3) := by decide +kernel
theorem dL_acts_211 : decode cL_acts 211 = .ok (.iload 9, 2) := by decide +kernel
theorem dL_acts_213 : decode cL_acts 213 = .ok (.if_icmp .ne 28, 3) := by decide +kernel
theorem dL_acts_216 : decode cL_acts 216 = .ok (.aload_n 0, 1) := by decide +kernel
theorem dL_acts_217 : decode cL_acts 217 = .ok (.iload 8, 2) := by decide +kernel
theorem dL_acts_219 : decode cL_acts 219 = .ok (.iconst 4, 1) := by decide +kernel
theorem dL_acts_220 : decode cL_acts 220 = .ok (.invokestatic 76, 3) := by decide +kernel
theorem dL_acts_223 : decode cL_acts 223 = .ok (.iconst (-1), 1) := by decide +kernel
theorem dL_acts_224 : decode cL_acts 224 = .ok (.if_icmp .ne 17, 3) := by decide +kernel
theorem dL_acts_227 : decode cL_acts 227 = .ok (.aload_n 0, 1) := by decide +kernel
theorem dL_acts_228 : decode cL_acts 228 = .ok (.iload 8, 2) := by decide +kernel
theorem dL_acts_230 : decode cL_acts 230 = .ok (.iconst 1, 1) := by decide +kernel
theorem dL_acts_231 : decode cL_acts 231 = .ok (.invokestatic 76, 3) := by decide +kernel
theorem dL_acts_234 : decode cL_acts 234 = .ok (.ifCond .ne 7, 3) := by decide +kernel
theorem dL_acts_237 : decode cL_acts 237 = .ok (.iconst 1, 1) := by decide +kernel
theorem dL_acts_238 : decode cL_acts 238 = .ok (.goto 4, 3) := by decide +kernel
theorem dL_acts_241 : decode cL_acts 241 = .ok (.iconst 0, 1) := by decide +kernel
theorem dL_acts_242 : decode cL_acts 242 = .ok (.ireturn, 1) := by decide +kernel
theorem dL_acts_243 : decode cL_acts 243 = .ok (.iload 6, 2) := by decide +kernel
theorem dL_acts_245 : decode cL_acts 245 = .ok (.bipush 12, 2) := by decide +kernel
theorem dL_acts_247 : decode cL_acts 247 = .ok (.if_icmp .ne 81, 3) := by decide +kernel
theorem dL_acts_250 : decode cL_acts 250 = .ok (.iload 5, 2) := by decide +kernel
theorem dL_acts_252 : decode cL_acts 252 = .ok (.sipush 1000, 3) := by decide +kernel
theorem dL_acts_255 : decode cL_acts 255 = .ok (.invokestatic 96, 3) := by decide +kernel
theorem dL_acts_258 : decode cL_acts 258 = .ok (.istore 8, 2) := by decide +kernel
theorem dL_acts_260 : decode cL_acts 260 = .ok (.aload_n 0, 1) := by decide +kernel
theorem dL_acts_261 : decode cL_acts 261 = .ok (.iload 7, 2) := by decide +kernel
theorem dL_acts_263 : decode cL_acts 263 = .ok (.iconst 0, 1) := by decide +kernel
theorem dL_acts_264 : decode cL_acts 264 = .ok (.invokestatic 76, 3) := by decide +kernel
theorem dL_acts_267 : decode cL_acts 267 = .ok (.iconst 1, 1) := by decide +kernel
theorem dL_acts_268 : decode cL_acts 268 = .ok (.if_icmp .ne 7, 3) := by decide +kernel
theorem dL_acts_271 : decode cL_acts 271 = .ok (.iconst 1, 1) := by decide +kernel
theorem dL_acts_272 : decode cL_acts 272 = .ok (.goto 4, 3) := by decide +kernel
theorem dL_acts_275 : decode cL_acts 275 = .ok (.iconst 0, 1) := by decide +kernel
theorem dL_acts_276 : decode cL_acts 276 = .ok (.istore 9, 2) := by decide +kernel
theorem dL_acts_278 : decode cL_acts 278 = .ok (.aload_n 0, 1) := by decide +kernel
theorem dL_acts_279 : decode cL_acts 279 = .ok (.iload 7, 2) := by decide +kernel
theorem dL_acts_281 : decode cL_acts 281 = .ok (.iload 8, 2) := by decide +kernel
theorem dL_acts_283 : decode cL_acts 283 = .ok (.invokestatic 128, 3) := by decide +kernel
theorem dL_acts_286 : decode cL_acts 286 = .ok (.iload 9, 2) := by decide +kernel
theorem dL_acts_288 : decode cL_acts 288 = .ok (.ifCond .eq 7, 3) := by decide +kernel
theorem dL_acts_291 : decode cL_acts 291 = .ok (.iconst 0, 1) := by decide +kernel
theorem dL_acts_292 : decode cL_acts 292 = .ok (.goto 5, 3) := by decide +kernel
theorem dL_acts_295 : decode cL_acts 295 = .ok (.ldc 24, 2) := by decide +kernel
theorem dL_acts_297 : decode cL_acts 297 = .ok (.if_icmp .ne 7, 3) := by decide +kernel
theorem dL_acts_300 : decode cL_acts 300 = .ok (.iconst 1, 1) := by decide +kernel
theorem dL_acts_301 : decode cL_acts 301 = .ok (.goto 4, 3) := by decide +kernel
theorem dL_acts_304 : decode cL_acts 304 = .ok (.iconst 0, 1) := by decide +kernel
theorem dL_acts_305 : decode cL_acts 305 = .ok (.istore 10, 2) := by decide +kernel
theorem dL_acts_307 : decode cL_acts 307 = .ok (.aload_n 2, 1) := by decide +kernel
theorem dL_acts_308 : decode cL_acts 308 = .ok (.iload 7, 2) := by decide +kernel
theorem dL_acts_310 : decode cL_acts 310 = .ok (.iload 9, 2) := by decide +kernel
theorem dL_acts_312 : decode cL_acts 312 = .ok (.ifCond .eq 8, 3) := by decide +kernel
theorem dL_acts_315 : decode cL_acts 315 = .ok (.iload 8, 2) := by decide +kernel
theorem dL_acts_317 : decode cL_acts 317 = .ok (.goto 7, 3) := by decide +kernel
theorem dL_acts_320 : decode cL_acts 320 = .ok (.aload_n 2, 1) := by decide +kernel
theorem dL_acts_321 : decode cL_acts 321 = .ok (.iload 7, 2) := by decide +kernel
theorem dL_acts_323 : decode cL_acts 323 = .ok (.iaload, 1) := by decide +kernel
theorem dL_acts_324 : decode cL_acts 324 = .ok (.iastore, 1) := by decide +kernel
theorem dL_acts_325 : decode cL_acts 325 = .ok (.iload 10, 2) := by decide +kernel
theorem dL_acts_327 : decode cL_acts 327 = .ok (.ireturn, 1) := by decide +kernel
theorem dL_acts_328 : decode cL_acts 328 = .ok (.iconst 1, 1) := by decide +kernel
theorem dL_acts_329 : decode cL_acts 329 = .ok (.iload 5, 2) := by decide +kernel
theorem dL_acts_331 : decode cL_acts 331 = .ok (.sipush 4095, 3) := by decide +kernel
theorem dL_acts_334 : decode cL_acts 334 = .ok (.invokestatic 96, 3) := by decide +kernel
theorem dL_acts_337 : decode cL_acts 337 = .ok (.iadd, 1) := by decide +kernel
theorem dL_acts_338 : decode cL_acts 338 = .ok (.istore 8, 2) := by decide +kernel
theorem dL_acts_340 : decode cL_acts 340 = .ok (.iload 4, 2) := by decide +kernel
theorem dL_acts_342 : decode cL_acts 342 = .ok (.bipush 8, 2) := by decide +kernel
theorem dL_acts_344 : decode cL_acts 344 = .ok (.ishr, 1) := by decide +kernel
theorem dL_acts_345 : decode cL_acts 345 = .ok (.iconst 4, 1) := by decide +kernel
theorem dL_acts_346 : decode cL_acts 346 = .ok (.invokestatic 96, 3) := by decide +kernel
theorem dL_acts_349 : decode cL_acts 349 = .ok (.istore 9, 2) := by decide +kernel
theorem dL_acts_351 : decode cL_acts 351 = .ok (.aload_n 0, 1) := by decide +kernel
theorem dL_acts_352 : decode cL_acts 352 = .ok (.iload 9, 2) := by decide +kernel
theorem dL_acts_354 : decode cL_acts 354 = .ok (.iconst 1, 1) := by decide +kernel
theorem dL_acts_355 : decode cL_acts 355 = .ok (.invokestatic 90, 3) := by decide +kernel
theorem dL_acts_358 : decode cL_acts 358 = .ok (.istore 10, 2) := by decide +kernel
theorem dL_acts_360 : decode cL_acts 360 = .ok (.aload_n 0, 1) := by decide +kernel
theorem dL_acts_361 : decode cL_acts 361 = .ok (.iload 9, 2) := by decide +kernel
theorem dL_acts_363 : decode cL_acts 363 = .ok (.iload 8, 2) := by decide +kernel
theorem dL_acts_365 : decode cL_acts 365 = .ok (.iconst 1, 1) := by decide +kernel
theorem dL_acts_366 : decode cL_acts 366 = .ok (.invokestatic 130, 3) := by decide +kernel
theorem dL_acts_369 : decode cL_acts 369 = .ok (.iload 10, 2) := by decide +kernel
theorem dL_acts_371 : decode cL_acts 371 = .ok (.if_icmp .ne 27, 3) := by decide +kernel
theorem dL_acts_374 : decode cL_acts 374 = .ok (.aload_n 0, 1) := by decide +kernel
theorem dL_acts_375 : decode cL_acts 375 = .ok (.iload 9, 2) := by decide +kernel
theorem dL_acts_377 : decode cL_acts 377 = .ok (.iconst 0, 1) := by decide +kernel
theorem dL_acts_378 : decode cL_acts 378 = .ok (.invokestatic 90, 3) := by decide +kernel
theorem dL_acts_381 : decode cL_acts 381 = .ok (.iload 8, 2) := by decide +kernel
theorem dL_acts_383 : decode cL_acts 383 = .ok (.if_icmp .ne 15, 3) := by decide +kernel
theorem dL_acts_386 : decode cL_acts 386 = .ok (.aload_n 0, 1) := by decide +kernel
theorem dL_acts_387 : decode cL_acts 387 = .ok (.aload_n 1, 1) := by decide +kernel
theorem dL_acts_388 : decode cL_acts 388 = .ok (.invokestatic 132, 3) := by decide +kernel
theorem dL_acts_391 : decode cL_acts 391 = .ok (.ifCond .eq 7, 3) := by decide +kernel
theorem dL_acts_394 : decode cL_acts 394 = .ok (.iconst 1, 1) := by decide +kernel
theorem dL_acts_395 : decode cL_acts 395 = .ok (.goto 4, 3) := by decide +kernel
theorem dL_acts_398 : decode cL_acts 398 = .ok (.iconst 0, 1) := by decide +kernel
theorem dL_acts_399 : decode cL_acts 399 = .ok (.ireturn, 1) := by decide +kernel
