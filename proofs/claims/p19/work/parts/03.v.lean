/-! The judgement V: a method's body at a pc, with the world as a list of cells, the locals as a list, the stack; heap, frame and locals array are hidden. -/
/-- the classes of the arrays that the worlds hold -/
abbrev tyA (G : va_G) : List (ClassId × FieldType) := [(G.1 10, .int), (G.1 11, .boolean), (G.1 14, .byte)]
abbrev eIO : String := "java/lang/IndexOutOfBoundsException"
abbrev eIA : String := "java/lang/IllegalArgumentException"
abbrev eIS : String := "java/lang/IllegalStateException"
/-- the literals that the class throws with -/
def xLits : List (Nat × String) := [(50, "no such person"), (57, "word out of range"), (66, "not in a session"), (73, "word or code out of range"), (79, "minutes out of range"), (84, "no such host or guest"), (86, "the same person, or rooms out of range"), (95, "may not vouch now"), (107, "no such guest"), (113, "nobody vouches"), (122, "since out of range"), (142, "no such person or room"), (156, "no such key"), (158, "keepers out of range"), (165, "threshold out of range"), (183, "what out of range"), (192, "no such rank"), (198, "no such person or place")]
/-- the static methods of the outer class that the ties call, by their links -/
def xNest : List (Nat × MethodName) := [(41, yX3_isPerson), (45, yX3_isGuest)]
/-- the JDK's tables of digits -/
def dOnes (j : Nat) : Int32 := nI (48 + j % 10)
def dTens (j : Nat) : Int32 := nI (48 + j / 10)
def gxD (n : String) (f : Nat → Int32) (A : Nat → Prop) (U : State) (H : Heap) : Prop := ∃ t : Nat, va_Z "java/lang/Integer" n "[B" (.ref t) A U H ∧ va_T .byte t 100 (fun j => .int (f j)) A U H
/-- what every method knows of the start: class numbers, the statics that a throw reads, literals, which exceptions are not which -/
def GX (G : va_G) (A : Nat → Prop) (U : State) (H : Heap) : Prop :=
  va_K G vwCl (tyA G) U ∧ vx_Zq Bundle.tN "UNASSIGNED_STACK" Bundle.steD A U H ∧ vx_Zq Bundle.tN "SUPPRESSED_SENTINEL" Bundle.listD A U H ∧ (∀ q ∈ xLits, ∃ sa, vk_R RX3 q.1 q.2 sa U) ∧ (va_Nc eIA eIO U ∧ va_Nc eIS eIO U ∧ va_Nc eIS eIA U ∧ va_Nw (.castable eIO eIO) U ∧ va_Nw (.castable eIA eIA) U ∧ va_Nw (.castable eIS eIS) U ∧ va_Nw (.declares (Bundle.initS "java/lang/RuntimeException")) U ∧ va_Nw (.declares (Bundle.initS "java/lang/Exception")) U ∧ va_Nw (.declares (Bundle.initS Bundle.tN)) U) ∧ va_Z "java/lang/String" "COMPACT_STRINGS" "Z" (.int 1) A U H ∧ va_Zq "jdk/internal/util/Preconditions" "SIOOBE_FORMATTER" "Ljava/util/function/BiFunction;" A U H ∧ gxD "DigitOnes" dOnes A U H ∧ gxD "DigitTens" dTens A U H ∧ ∀ q ∈ xNest, va_Nw (.methodLinkNest RX2 q.1 q.2 RX3) U
theorem gxD.to {n : String} {f : Nat → Int32} {A A' : Nat → Prop} {s U : State} {H : Heap} {locs : List Loc} (h : gxD n f A s s.heap) (hS : va_S A s.heap H locs) (hW : s.vm.Alike U.vm) (hA : ∀ q, A' q → A q) : gxD n f A' U H := by
  obtain ⟨t, h1, h2⟩ := h
  exact ⟨t, va_Z.moved hW ((h1.kept hS.2.1).narrow hA), va_T.moved hW ((h2.kept hS.2.1).narrow hA)⟩
theorem gxD.call {n : String} {f : Nat → Int32} {A : Nat → Prop} {u U : State} {H : Heap} (h : gxD n f A u H) (hW : u.vm.Alike U.vm) : gxD n f A U H := by
  obtain ⟨t, h1, h2⟩ := h
  exact ⟨t, va_Z.moved hW h1, va_T.moved hW h2⟩
theorem GX.to {G : va_G} {A A' : Nat → Prop} {s U : State} {H : Heap} {locs : List Loc} (h : GX G A s s.heap) (hS : va_S A s.heap H locs) (hW : s.WarmedH U.vm) (hA : ∀ q, A' q → A q) : GX G A' U H := by
  obtain ⟨h1, h2, h3, h4, ⟨n1, n2, n3, n4, n5, n6, n7, n8, n9⟩, h6, h7, h8, h9, hN⟩ := h
  exact ⟨va_K.moved hW.alike h1, ((h2.kept hS.2.1).narrow hA).moved hW.alike, ((h3.kept hS.2.1).narrow hA).moved hW.alike, fun q hq => by obtain ⟨sa, h⟩ := h4 q hq; exact ⟨sa, vk_R.warm hW h⟩, ⟨n1.moved hW.alike, n2.moved hW.alike, n3.moved hW.alike, n4.warmC hW, n5.warmC hW, n6.warmC hW, n7.warmD hW, n8.warmD hW, n9.warmD hW⟩, va_Z.moved hW.alike ((h6.kept hS.2.1).narrow hA), va_Zq.moved hW.alike ((h7.kept hS.2.1).narrow hA), h8.to hS hW.alike hA, h9.to hS hW.alike hA, fun q hq => (hN q hq).warmM hW⟩
theorem GX.call {G : va_G} {A : Nat → Prop} {U : State} {H : Heap} (h : GX G A U H) (g : JFrame) (mk : MethodId) (a : Array Value) : GX G A (U.calling g mk a) H := by
  obtain ⟨h1, h2, h3, h4, ⟨n1, n2, n3, n4, n5, n6, n7, n8, n9⟩, h6, h7, h8, h9, hN⟩ := h
  have al : U.vm.Alike (U.calling g mk a).vm := Vm.Alike.refl U.vm
  exact ⟨va_K.moved al h1, h2.moved al, h3.moved al, fun q hq => by obtain ⟨sa, h⟩ := h4 q hq; exact ⟨sa, vk_R.same (u := U) (U := U.calling g mk a) rfl h⟩, ⟨n1.moved al, n2.moved al, n3.moved al, va_Nw.same rfl (u := U) (U := U.calling g mk a) rfl n4, va_Nw.same rfl (u := U) (U := U.calling g mk a) rfl n5, va_Nw.same rfl (u := U) (U := U.calling g mk a) rfl n6, va_Nw.same rfl (u := U) (U := U.calling g mk a) rfl n7, va_Nw.same rfl (u := U) (U := U.calling g mk a) rfl n8, va_Nw.same rfl (u := U) (U := U.calling g mk a) rfl n9⟩, va_Z.moved al h6, va_Zq.moved al h7, h8.call al, h9.call al, fun q hq => va_Nw.same rfl (u := U) (U := U.calling g mk a) rfl (hN q hq)⟩
/-! ## contracts -/
abbrev KPc (G : va_G) (wc : va_W) (As : List Value) (sz : Nat) : Array Value → State → Prop := va_Pc As (fun U => U.heap.size = sz ∧ va_P G vwCl wc U.heap ∧ GX G (va_A wc sz) U U.heap ∧ va_D (fun _ => True) wc)
abbrev KB (G : va_G) {S : Type} (wo : S → va_W) (A : Nat → Prop) : S → State → Prop := fun u t => va_P G vwCl (wo u) t.heap ∧ va_D A (wo u)
abbrev KBr (G : va_G) {S : Type} (wo : S → Nat → va_W) (A : Nat → Prop) : S → Nat → State → Prop := fun u a t => va_P G vwCl (wo u a) t.heap ∧ va_D A (wo u a)
/-- a throw: which class, the world as it was -/
abbrev KX (G : va_G) (wc : va_W) (pX : String → Prop) (A : Nat → Prop) : String → State → State → Prop := vx_X (S := Unit) (fun _ => True) (fun E _ t => pX E ∧ va_P G vwCl wc t.heap) A
def Ki (l : Launch) (y : MethodName) (wsY : List Cond) (rm : Room) (mc ms : Nat) (G : va_G) (wc : va_W) (As : List Value) {S : Type} (post : Int32 → S → Prop) (wo : S → va_W) : Prop := ∀ sz : Nat, Met l y wsY rm (KPc G wc As sz) (va_Qi post (KB G wo (va_A wc sz)) (va_A wc sz)) mc ms (va_A wc sz)
def Kv (l : Launch) (y : MethodName) (wsY : List Cond) (rm : Room) (mc ms : Nat) (G : va_G) (wc : va_W) (As : List Value) {S : Type} (post : S → Prop) (wo : S → va_W) : Prop := ∀ sz : Nat, Met l y wsY rm (KPc G wc As sz) (va_Qv post (KB G wo (va_A wc sz)) (va_A wc sz)) mc ms (va_A wc sz)
def Kr (l : Launch) (y : MethodName) (wsY : List Cond) (rm : Room) (mc ms : Nat) (G : va_G) (wc : va_W) (As : List Value) {S : Type} (post : S → Prop) (wo : S → Nat → va_W) : Prop := ∀ sz : Nat, Met l y wsY rm (KPc G wc As sz) (va_Qr post (KBr G wo (va_A wc sz)) (va_A wc sz)) mc ms (va_A wc sz)
def Xi (l : Launch) (y : MethodName) (wsY : List Cond) (rm : Room) (mc ms : Nat) (G : va_G) (wc : va_W) (As : List Value) {S : Type} (post : Int32 → S → Prop) (wo : S → va_W) (pX : String → Prop) : Prop := ∀ sz : Nat, vx_Met l y wsY rm (KPc G wc As sz) (va_Qi post (KB G wo (va_A wc sz)) (va_A wc sz)) (KX G wc pX (va_A wc sz)) mc ms (va_A wc sz)
def Xv (l : Launch) (y : MethodName) (wsY : List Cond) (rm : Room) (mc ms : Nat) (G : va_G) (wc : va_W) (As : List Value) {S : Type} (post : S → Prop) (wo : S → va_W) (pX : String → Prop) : Prop := ∀ sz : Nat, vx_Met l y wsY rm (KPc G wc As sz) (va_Qv post (KB G wo (va_A wc sz)) (va_A wc sz)) (KX G wc pX (va_A wc sz)) mc ms (va_A wc sz)
theorem KPc.blind {G : va_G} {wc : va_W} {As : List Value} {sz : Nat} : FrameBlind (KPc G wc As sz) := fun a U g mk q => by
  obtain ⟨q0, q1, qP, qK, qD⟩ := q
  exact ⟨q0, q1, qP, qK.call g mk a, qD⟩
/-! ## the judgement -/
def VX (p : Program) (s : State) (m : MethodId) (args : Array Value) (meth : Method) (c : Code) (cc : ByteArray) (nL : Nat) (Ts : List Cond) (own : String) (G : va_G) (A : Nat → Prop) : Prop :=
  CallFix p m c cc nL s args Ts own ∧ GX G A s s.heap ∧ (∀ q, s.heap.size ≤ q → A q) ∧ meth.locks = false
def V (p : Program) (l : Launch) (e : Env) (R : Room) (s : State) (m : MethodId) (args : Array Value) (below : List Frame) (meth : Method) (c : Code) (nL : Nat) (G : va_G) (A : Nat → Prop) (cells slots : Nat) (Q : State → Prop) (ws : va_W) (lv : List (Nat × Value)) (pc : Nat) (st : List Value) : Prop :=
  ∀ (H : Heap) (locs : List Loc) (ls : Array Slot), va_P G vwCl ws H → va_D A ws → va_S A s.heap H locs → lv_has ls nL lv → W p l e R s m args below meth c H locs cells slots Q (F0 m pc ls st)
section VV
variable {p : Program} {l : Launch} {e : Env} {R : Room} {s : State} {m : MethodId} {args : Array Value} {below : List Frame} {meth : Method} {c : Code} {cc : ByteArray} {nL : Nat} {Ts : List Cond} {own : String} {G : va_G} {A : Nat → Prop} {cells slots : Nat} {Q : State → Prop} {ws : va_W} {lv : List (Nat × Value)} {pc : Nat} {st : List Value}
/-! ### ends -/
abbrev QI (below : List Frame) (args : Array Value) (s : State) (G : va_G) (A : Nat → Prop) (mc ms : Nat) {S : Type} (post : Int32 → S → Prop) (wo : S → va_W) : State → Prop := MQ below (va_Qi post (KB G wo A) A) args s mc ms A
abbrev QV (below : List Frame) (args : Array Value) (s : State) (G : va_G) (A : Nat → Prop) (mc ms : Nat) {S : Type} (post : S → Prop) (wo : S → va_W) : State → Prop := MQ below (va_Qv post (KB G wo A) A) args s mc ms A
abbrev QR (below : List Frame) (args : Array Value) (s : State) (G : va_G) (A : Nat → Prop) (mc ms : Nat) {S : Type} (post : S → Prop) (wo : S → Nat → va_W) : State → Prop := MQ below (va_Qr post (KBr G wo A) A) args s mc ms A
abbrev QIX (below : List Frame) (args : Array Value) (s : State) (G : va_G) (A : Nat → Prop) (mc ms : Nat) {S : Type} (post : Int32 → S → Prop) (wo : S → va_W) (wc : va_W) (pX : String → Prop) : State → Prop := vx_MQ below (va_Qi post (KB G wo A) A) (KX G wc pX A) args s mc ms A
abbrev QVX (below : List Frame) (args : Array Value) (s : State) (G : va_G) (A : Nat → Prop) (mc ms : Nat) {S : Type} (post : S → Prop) (wo : S → va_W) (wc : va_W) (pX : String → Prop) : State → Prop := vx_MQ below (va_Qv post (KB G wo A) A) (KX G wc pX A) args s mc ms A
theorem v_widen {k n : Nat} (h1 : cells ≤ k) (h2 : slots ≤ n) (kk : V p l e R s m args below meth c nL G A k n Q ws lv pc st) : V p l e R s m args below meth c nL G A cells slots Q ws lv pc st :=
  fun H locs ls hP hD hS hl => W.widen h1 h2 (kk H locs ls hP hD hS hl)
theorem v_iret (X : VX p s m args meth c cc nL Ts own G A) {S : Type} {post : Int32 → S → Prop} {wo : S → va_W} {v : Int32} (hr : meth.sig.returnType = some .int) (d : decode cc pc = .ok (.ireturn, 1)) (u : S) (hw : ws = wo u) (hp : post v u) : V p l e R s m args below meth c nL G A cells slots (QI below args s G A cells slots post wo) ws lv pc [.int v] := by
  intro H locs ls hP hD hS hl
  subst hw
  obtain ⟨⟨hx, hb, -⟩, -, -, hlk⟩ := X
  exact W.iret hx hb hr (fun t ht hW => ⟨⟨v, u, rfl, hp, by rw [ht]; exact hP, hD⟩, hS.F ht⟩) hS.2.2 d hlk
theorem v_zret (X : VX p s m args meth c cc nL Ts own G A) {S : Type} {post : Int32 → S → Prop} {wo : S → va_W} {v : Int32} {ty : FieldType} (hr : meth.sig.returnType = some ty) (hn : narrow ty (.int v) = .int v) (d : decode cc pc = .ok (.ireturn, 1)) (u : S) (hw : ws = wo u) (hp : post v u) : V p l e R s m args below meth c nL G A cells slots (QI below args s G A cells slots post wo) ws lv pc [.int v] := by
  intro H locs ls hP hD hS hl
  subst hw
  obtain ⟨⟨hx, hb, -⟩, -, -, hlk⟩ := X
  exact W.zret hx hb hr hn (fun t ht hW => ⟨⟨v, u, rfl, hp, by rw [ht]; exact hP, hD⟩, hS.F ht⟩) hS.2.2 d hlk
theorem v_vret (X : VX p s m args meth c cc nL Ts own G A) {S : Type} {post : S → Prop} {wo : S → va_W} (hr : meth.sig.returnType = none) (d : decode cc pc = .ok (.return_, 1)) (u : S) (hw : ws = wo u) (hp : post u) : V p l e R s m args below meth c nL G A cells slots (QV below args s G A cells slots post wo) ws lv pc [] := by
  intro H locs ls hP hD hS hl
  subst hw
  obtain ⟨⟨hx, hb, -⟩, -, -, hlk⟩ := X
  exact W.vret hx hb hr (fun t ht hW => ⟨⟨u, rfl, hp, by rw [ht]; exact hP, hD⟩, hS.F ht⟩) hS.2.2 d hlk
theorem v_aret (X : VX p s m args meth c cc nL Ts own G A) {S : Type} {post : S → Prop} {wo : S → Nat → va_W} {a : Nat} {rt : FieldType} (hr : meth.sig.returnType = some rt) (hrt : (∃ n, rt = .object n) ∨ ∃ t, rt = .array t) (d : decode cc pc = .ok (.areturn, 1)) (u : S) (hw : ws = wo u a) (hp : post u) : V p l e R s m args below meth c nL G A cells slots (QR below args s G A cells slots post wo) ws lv pc [.ref a] := by
  intro H locs ls hP hD hS hl
  subst hw
  obtain ⟨⟨hx, hb, -⟩, -, -, hlk⟩ := X
  exact W.aret hx hb hr hrt (Or.inr ⟨a, rfl⟩) (fun t ht hW => ⟨⟨u, a, rfl, hp, by rw [ht]; exact hP, hD⟩, hS.F ht⟩) hS.2.2 d hlk
theorem v_ret {Qc : Array Value → State → Outcome → State → Prop} {XC : String → State → State → Prop} {mc ms : Nat} (k : V p l e R s m args below meth c nL G A cells slots (MQ below Qc args s mc ms A) ws lv pc st) : V p l e R s m args below meth c nL G A cells slots (vx_MQ below Qc XC args s mc ms A) ws lv pc st :=
  fun H locs ls hP hD hS hl => vx_ret (k H locs ls hP hD hS hl)
/-! ### entries -/
theorem v_ofi {y : MethodName} {wsY' : List Cond} {rm : Room} {mc ms : Nat} {wc : va_W} {As : List Value} {S : Type} {post : Int32 → S → Prop} {wo : S → va_W} {rt : FieldType} (hy : plainName y.cls = true) (hw : Ts = Cond.code y cc nL (some rt) :: wsY') (hn : (lg_sl As).length ≤ nL) (hlv : lv_args 0 As = lv)
    (body : ∀ (p : Program) (e : Env) (s : State) (m : MethodId) (args : Array Value) (below : List Frame) (meth : Method) (c : Code) (A : Nat → Prop), VX p s m args meth c cc nL Ts y.cls G A → meth.sig.returnType = some rt → V p l e (headSpec Ts rm).room s m args below meth c nL G A 0 0 (QI below args s G A mc ms post wo) wc lv 0 []) : Ki l y Ts rm mc ms G wc As post wo := by
  intro sz
  refine Met.ofW (cc := cc) (maxL := nL) (ret := some rt) hy hw ?_
  intro p e s m args below meth c s₁ B hml hv
  obtain ⟨rfl, hsz, hP, hK, hD0⟩ := hv
  subst hsz
  have hD := hD0.self (sz := s.heap.size)
  have hl := lv_entry As hn
  rw [lg_entry_eq]
  rw [hlv] at hl
  exact body p e s m _ below meth c (va_A wc s.heap.size) ⟨⟨B.exec, B.bytes, hml, findClass_of_methodNamed B.named, atoms_spec (ws := Ts) B.pre⟩, hK, fun q h => Or.inr h, B.notSynchronized⟩ B.returns s.heap [] _ hP hD va_S.rf hl
theorem v_ofv {y : MethodName} {wsY' : List Cond} {rm : Room} {mc ms : Nat} {wc : va_W} {As : List Value} {S : Type} {post : S → Prop} {wo : S → va_W} (hy : plainName y.cls = true) (hw : Ts = Cond.code y cc nL none :: wsY') (hn : (lg_sl As).length ≤ nL) (hlv : lv_args 0 As = lv)
    (body : ∀ (p : Program) (e : Env) (s : State) (m : MethodId) (args : Array Value) (below : List Frame) (meth : Method) (c : Code) (A : Nat → Prop), VX p s m args meth c cc nL Ts y.cls G A → meth.sig.returnType = none → meth.name = y.name → V p l e (headSpec Ts rm).room s m args below meth c nL G A 0 0 (QV below args s G A mc ms post wo) wc lv 0 []) : Kv l y Ts rm mc ms G wc As post wo := by
  intro sz
  refine Met.ofW (cc := cc) (maxL := nL) (ret := none) hy hw ?_
  intro p e s m args below meth c s₁ B hml hv
  obtain ⟨rfl, hsz, hP, hK, hD0⟩ := hv
  subst hsz
  have hD := hD0.self (sz := s.heap.size)
  have hl := lv_entry As hn
  rw [lg_entry_eq]
  rw [hlv] at hl
  exact body p e s m _ below meth c (va_A wc s.heap.size) ⟨⟨B.exec, B.bytes, hml, findClass_of_methodNamed B.named, atoms_spec (ws := Ts) B.pre⟩, hK, fun q h => Or.inr h, B.notSynchronized⟩ B.returns (name_of_methodNamed B.named B.method).1 s.heap [] _ hP hD va_S.rf hl
theorem v_ofr {y : MethodName} {wsY' : List Cond} {rm : Room} {mc ms : Nat} {wc : va_W} {As : List Value} {S : Type} {post : S → Prop} {wo : S → Nat → va_W} {rt : FieldType} (hy : plainName y.cls = true) (hw : Ts = Cond.code y cc nL (some rt) :: wsY') (hn : (lg_sl As).length ≤ nL) (hlv : lv_args 0 As = lv)
    (body : ∀ (p : Program) (e : Env) (s : State) (m : MethodId) (args : Array Value) (below : List Frame) (meth : Method) (c : Code) (A : Nat → Prop), VX p s m args meth c cc nL Ts y.cls G A → meth.sig.returnType = some rt → V p l e (headSpec Ts rm).room s m args below meth c nL G A 0 0 (QR below args s G A mc ms post wo) wc lv 0 []) : Kr l y Ts rm mc ms G wc As post wo := by
  intro sz
  refine Met.ofW (cc := cc) (maxL := nL) (ret := some rt) hy hw ?_
  intro p e s m args below meth c s₁ B hml hv
  obtain ⟨rfl, hsz, hP, hK, hD0⟩ := hv
  subst hsz
  have hD := hD0.self (sz := s.heap.size)
  have hl := lv_entry As hn
  rw [lg_entry_eq]
  rw [hlv] at hl
  exact body p e s m _ below meth c (va_A wc s.heap.size) ⟨⟨B.exec, B.bytes, hml, findClass_of_methodNamed B.named, atoms_spec (ws := Ts) B.pre⟩, hK, fun q h => Or.inr h, B.notSynchronized⟩ B.returns s.heap [] _ hP hD va_S.rf hl
theorem v_ofxi {y : MethodName} {wsY' : List Cond} {rm : Room} {mc ms : Nat} {wc : va_W} {As : List Value} {S : Type} {post : Int32 → S → Prop} {wo : S → va_W} {pX : String → Prop} {rt : FieldType} (hy : plainName y.cls = true) (hw : Ts = Cond.code y cc nL (some rt) :: wsY') (hn : (lg_sl As).length ≤ nL) (hlv : lv_args 0 As = lv)
    (body : ∀ (p : Program) (e : Env) (s : State) (m : MethodId) (args : Array Value) (below : List Frame) (meth : Method) (c : Code) (A : Nat → Prop), VX p s m args meth c cc nL Ts y.cls G A → (∀ x ∈ c.exceptionTable.toList, False) → meth.sig.returnType = some rt → V p l e (headSpec Ts rm).room s m args below meth c nL G A 0 0 (QIX below args s G A mc ms post wo wc pX) wc lv 0 []) : Xi l y Ts rm mc ms G wc As post wo pX := by
  intro sz
  refine vx_ofW (cc := cc) (maxL := nL) (ret := some rt) hy hw ?_
  intro p e s m args below meth c s₁ B hml ht hv
  obtain ⟨rfl, hsz, hP, hK, hD0⟩ := hv
  subst hsz
  have hD := hD0.self (sz := s.heap.size)
  have hl := lv_entry As hn
  rw [lg_entry_eq]
  rw [hlv] at hl
  exact body p e s m _ below meth c (va_A wc s.heap.size) ⟨⟨B.exec, B.bytes, hml, findClass_of_methodNamed B.named, atoms_spec (ws := Ts) B.pre⟩, hK, fun q h => Or.inr h, B.notSynchronized⟩ ht B.returns s.heap [] _ hP hD va_S.rf hl
theorem v_ofxv {y : MethodName} {wsY' : List Cond} {rm : Room} {mc ms : Nat} {wc : va_W} {As : List Value} {S : Type} {post : S → Prop} {wo : S → va_W} {pX : String → Prop} (hy : plainName y.cls = true) (hw : Ts = Cond.code y cc nL none :: wsY') (hn : (lg_sl As).length ≤ nL) (hlv : lv_args 0 As = lv)
    (body : ∀ (p : Program) (e : Env) (s : State) (m : MethodId) (args : Array Value) (below : List Frame) (meth : Method) (c : Code) (A : Nat → Prop), VX p s m args meth c cc nL Ts y.cls G A → (∀ x ∈ c.exceptionTable.toList, False) → meth.sig.returnType = none → V p l e (headSpec Ts rm).room s m args below meth c nL G A 0 0 (QVX below args s G A mc ms post wo wc pX) wc lv 0 []) : Xv l y Ts rm mc ms G wc As post wo pX := by
  intro sz
  refine vx_ofW (cc := cc) (maxL := nL) (ret := none) hy hw ?_
  intro p e s m args below meth c s₁ B hml ht hv
  obtain ⟨rfl, hsz, hP, hK, hD0⟩ := hv
  subst hsz
  have hD := hD0.self (sz := s.heap.size)
  have hl := lv_entry As hn
  rw [lg_entry_eq]
  rw [hlv] at hl
  exact body p e s m _ below meth c (va_A wc s.heap.size) ⟨⟨B.exec, B.bytes, hml, findClass_of_methodNamed B.named, atoms_spec (ws := Ts) B.pre⟩, hK, fun q h => Or.inr h, B.notSynchronized⟩ ht B.returns s.heap [] _ hP hD va_S.rf hl
/-! ### one instruction -/
theorem v_iload_n (X : VX p s m args meth c cc nL Ts own G A) {k : Fin 4} {x : Int32} (d : decode cc pc = .ok (.iload_n k, 1)) (j : Nat) (hj : lv[j]? = some ((k : Nat), .int x)) (kk : V p l e R s m args below meth c nL G A cells slots Q ws lv (pc + 1) (.int x :: st)) : V p l e R s m args below meth c nL G A cells slots Q ws lv pc st := by
  intro H locs ls hP hD hS hl
  obtain ⟨⟨hx, hb, -⟩, -⟩ := X
  exact lv_iload_n hx hb d rfl (lv_at hl j hj) (kk H locs ls hP hD hS hl)
theorem v_iload (X : VX p s m args meth c cc nL Ts own G A) {i : Nat} {x : Int32} (d : decode cc pc = .ok (.iload i, 2)) (j : Nat) (hj : lv[j]? = some (i, .int x)) (kk : V p l e R s m args below meth c nL G A cells slots Q ws lv (pc + 2) (.int x :: st)) : V p l e R s m args below meth c nL G A cells slots Q ws lv pc st := by
  intro H locs ls hP hD hS hl
  obtain ⟨⟨hx, hb, -⟩, -⟩ := X
  exact lv_iload hx hb d (lv_at hl j hj) (kk H locs ls hP hD hS hl)
theorem v_aload_n (X : VX p s m args meth c cc nL Ts own G A) {k : Fin 4} {x : Nat} (d : decode cc pc = .ok (.aload_n k, 1)) (j : Nat) (hj : lv[j]? = some ((k : Nat), .ref x)) (kk : V p l e R s m args below meth c nL G A cells slots Q ws lv (pc + 1) (.ref x :: st)) : V p l e R s m args below meth c nL G A cells slots Q ws lv pc st := by
  intro H locs ls hP hD hS hl
  obtain ⟨⟨hx, hb, -⟩, -⟩ := X
  exact lv_aload_n hx hb d rfl (lv_at hl j hj) (kk H locs ls hP hD hS hl)
theorem v_aload (X : VX p s m args meth c cc nL Ts own G A) {i : Nat} {x : Nat} (d : decode cc pc = .ok (.aload i, 2)) (j : Nat) (hj : lv[j]? = some (i, .ref x)) (kk : V p l e R s m args below meth c nL G A cells slots Q ws lv (pc + 2) (.ref x :: st)) : V p l e R s m args below meth c nL G A cells slots Q ws lv pc st := by
  intro H locs ls hP hD hS hl
  obtain ⟨⟨hx, hb, -⟩, -⟩ := X
  exact lv_aload hx hb d (lv_at hl j hj) (kk H locs ls hP hD hS hl)
theorem v_lload_n (X : VX p s m args meth c cc nL Ts own G A) {k : Fin 4} {x : Int64} (d : decode cc pc = .ok (.lload_n k, 1)) (j : Nat) (hj : lv[j]? = some ((k : Nat), .long x)) (kk : V p l e R s m args below meth c nL G A cells slots Q ws lv (pc + 1) (.long x :: st)) : V p l e R s m args below meth c nL G A cells slots Q ws lv pc st := by
  intro H locs ls hP hD hS hl
  obtain ⟨⟨hx, hb, -⟩, -⟩ := X
  exact lv_lload_n hx hb d rfl (lv_at hl j hj) (kk H locs ls hP hD hS hl)
theorem v_lload (X : VX p s m args meth c cc nL Ts own G A) {i : Nat} {x : Int64} (d : decode cc pc = .ok (.lload i, 2)) (j : Nat) (hj : lv[j]? = some (i, .long x)) (kk : V p l e R s m args below meth c nL G A cells slots Q ws lv (pc + 2) (.long x :: st)) : V p l e R s m args below meth c nL G A cells slots Q ws lv pc st := by
  intro H locs ls hP hD hS hl
  obtain ⟨⟨hx, hb, -⟩, -⟩ := X
  exact lv_lload hx hb d (lv_at hl j hj) (kk H locs ls hP hD hS hl)
theorem v_istore_n (X : VX p s m args meth c cc nL Ts own G A) {k : Fin 4} {i : Nat} {x : Int32} {lv' : List (Nat × Value)} (d : decode cc pc = .ok (.istore_n k, 1)) (hi : (k : Nat) = i) (hn : i < nL) (ks : List Nat) (hl' : lv_pick ((i, Value.int x) :: lv.filter (fun q => !(q.1 == i) && !(q.1 + 1 == i && q.2.category == 2))) ks = lv') (kk : V p l e R s m args below meth c nL G A cells slots Q ws lv' (pc + 1) st) : V p l e R s m args below meth c nL G A cells slots Q ws lv pc (.int x :: st) := by
  intro H locs ls hP hD hS hl
  obtain ⟨⟨hx, hb, -⟩, -⟩ := X
  exact lv_istore_n hx hb d hi hl hn rfl (fun ls' hl2 => kk H locs ls' hP hD hS (lv_sub hl2 ks hl'))
theorem v_istore (X : VX p s m args meth c cc nL Ts own G A) {i : Nat} {x : Int32} {lv' : List (Nat × Value)} (d : decode cc pc = .ok (.istore i, 2)) (hn : i < nL) (ks : List Nat) (hl' : lv_pick ((i, Value.int x) :: lv.filter (fun q => !(q.1 == i) && !(q.1 + 1 == i && q.2.category == 2))) ks = lv') (kk : V p l e R s m args below meth c nL G A cells slots Q ws lv' (pc + 2) st) : V p l e R s m args below meth c nL G A cells slots Q ws lv pc (.int x :: st) := by
  intro H locs ls hP hD hS hl
  obtain ⟨⟨hx, hb, -⟩, -⟩ := X
  exact lv_istore hx hb d hl hn rfl (fun ls' hl2 => kk H locs ls' hP hD hS (lv_sub hl2 ks hl'))
theorem v_astore_n (X : VX p s m args meth c cc nL Ts own G A) {k : Fin 4} {i : Nat} {x : Nat} {lv' : List (Nat × Value)} (d : decode cc pc = .ok (.astore_n k, 1)) (hi : (k : Nat) = i) (hn : i < nL) (ks : List Nat) (hl' : lv_pick ((i, Value.ref x) :: lv.filter (fun q => !(q.1 == i) && !(q.1 + 1 == i && q.2.category == 2))) ks = lv') (kk : V p l e R s m args below meth c nL G A cells slots Q ws lv' (pc + 1) st) : V p l e R s m args below meth c nL G A cells slots Q ws lv pc (.ref x :: st) := by
  intro H locs ls hP hD hS hl
  obtain ⟨⟨hx, hb, -⟩, -⟩ := X
  exact lv_astore_n hx hb d hi hl hn rfl (fun ls' hl2 => kk H locs ls' hP hD hS (lv_sub hl2 ks hl'))
theorem v_astore (X : VX p s m args meth c cc nL Ts own G A) {i : Nat} {x : Nat} {lv' : List (Nat × Value)} (d : decode cc pc = .ok (.astore i, 2)) (hn : i < nL) (ks : List Nat) (hl' : lv_pick ((i, Value.ref x) :: lv.filter (fun q => !(q.1 == i) && !(q.1 + 1 == i && q.2.category == 2))) ks = lv') (kk : V p l e R s m args below meth c nL G A cells slots Q ws lv' (pc + 2) st) : V p l e R s m args below meth c nL G A cells slots Q ws lv pc (.ref x :: st) := by
  intro H locs ls hP hD hS hl
  obtain ⟨⟨hx, hb, -⟩, -⟩ := X
  exact lv_astore hx hb d hl hn rfl (fun ls' hl2 => kk H locs ls' hP hD hS (lv_sub hl2 ks hl'))
theorem v_iinc (X : VX p s m args meth c cc nL Ts own G A) {i k : Nat} {n : Int} {x v : Int32} {lv' : List (Nat × Value)} (d : decode cc pc = .ok (.iinc i n, 3)) (hk : lv[k]? = some (i, .int x)) (hv : x + Int32.ofInt n = v) (hn : i < nL) (ks : List Nat) (hl' : lv_pick ((i, Value.int v) :: lv.filter (fun q => !(q.1 == i) && !(q.1 + 1 == i && q.2.category == 2))) ks = lv') (kk : V p l e R s m args below meth c nL G A cells slots Q ws lv' (pc + 3) st) : V p l e R s m args below meth c nL G A cells slots Q ws lv pc st := by
  intro H locs ls hP hD hS hl
  obtain ⟨⟨hx, hb, -⟩, -⟩ := X
  exact lv_iinc hx hb d hl hk hv hn rfl (fun ls' hl2 => kk H locs ls' hP hD hS (lv_sub hl2 ks hl'))
theorem v_iconst (X : VX p s m args meth c cc nL Ts own G A) {n : Int} {v : Int32} (d : decode cc pc = .ok (.iconst n, 1)) (hv : Int32.ofInt n = v) (kk : V p l e R s m args below meth c nL G A cells slots Q ws lv (pc + 1) (.int v :: st)) : V p l e R s m args below meth c nL G A cells slots Q ws lv pc st := by
  intro H locs ls hP hD hS hl
  obtain ⟨⟨hx, hb, -⟩, -⟩ := X
  exact lv_iconst hx hb d hv (kk H locs ls hP hD hS hl)
theorem v_bipush (X : VX p s m args meth c cc nL Ts own G A) {n : Int} {v : Int32} (d : decode cc pc = .ok (.bipush n, 2)) (hv : (Int8.ofInt n).toInt32 = v) (kk : V p l e R s m args below meth c nL G A cells slots Q ws lv (pc + 2) (.int v :: st)) : V p l e R s m args below meth c nL G A cells slots Q ws lv pc st := by
  intro H locs ls hP hD hS hl
  obtain ⟨⟨hx, hb, -⟩, -⟩ := X
  exact lv_bipush hx hb d hv (kk H locs ls hP hD hS hl)
theorem v_sipush (X : VX p s m args meth c cc nL Ts own G A) {n : Int} {v : Int32} (d : decode cc pc = .ok (.sipush n, 3)) (hv : (Int16.ofInt n).toInt32 = v) (kk : V p l e R s m args below meth c nL G A cells slots Q ws lv (pc + 3) (.int v :: st)) : V p l e R s m args below meth c nL G A cells slots Q ws lv pc st := by
  intro H locs ls hP hD hS hl
  obtain ⟨⟨hx, hb, -⟩, -⟩ := X
  exact lv_sipush hx hb d hv (kk H locs ls hP hD hS hl)
theorem v_lconst (X : VX p s m args meth c cc nL Ts own G A) {n : Fin 2} {v : Int64} (d : decode cc pc = .ok (.lconst n, 1)) (hv : Int64.ofNat (n : Nat) = v) (kk : V p l e R s m args below meth c nL G A cells slots Q ws lv (pc + 1) (.long v :: st)) : V p l e R s m args below meth c nL G A cells slots Q ws lv pc st := by
  intro H locs ls hP hD hS hl
  obtain ⟨⟨hx, hb, -⟩, -⟩ := X
  exact lv_lconst hx hb d hv (kk H locs ls hP hD hS hl)
theorem v_iadd (X : VX p s m args meth c cc nL Ts own G A) {x y v : Int32} (d : decode cc pc = .ok (.iadd, 1)) (hv : x + y = v) (kk : V p l e R s m args below meth c nL G A cells slots Q ws lv (pc + 1) (.int v :: st)) : V p l e R s m args below meth c nL G A cells slots Q ws lv pc (.int y :: .int x :: st) := by
  intro H locs ls hP hD hS hl
  obtain ⟨⟨hx, hb, -⟩, -⟩ := X
  subst hv; exact lv_iadd hx hb d (kk H locs ls hP hD hS hl)
theorem v_isub (X : VX p s m args meth c cc nL Ts own G A) {x y v : Int32} (d : decode cc pc = .ok (.isub, 1)) (hv : x - y = v) (kk : V p l e R s m args below meth c nL G A cells slots Q ws lv (pc + 1) (.int v :: st)) : V p l e R s m args below meth c nL G A cells slots Q ws lv pc (.int y :: .int x :: st) := by
  intro H locs ls hP hD hS hl
  obtain ⟨⟨hx, hb, -⟩, -⟩ := X
  subst hv; exact lv_isub hx hb d (kk H locs ls hP hD hS hl)
theorem v_imul (X : VX p s m args meth c cc nL Ts own G A) {x y v : Int32} (d : decode cc pc = .ok (.imul, 1)) (hv : x * y = v) (kk : V p l e R s m args below meth c nL G A cells slots Q ws lv (pc + 1) (.int v :: st)) : V p l e R s m args below meth c nL G A cells slots Q ws lv pc (.int y :: .int x :: st) := by
  intro H locs ls hP hD hS hl
  obtain ⟨⟨hx, hb, -⟩, -⟩ := X
  subst hv; exact lv_imul hx hb d (kk H locs ls hP hD hS hl)
theorem v_iand (X : VX p s m args meth c cc nL Ts own G A) {x y v : Int32} (d : decode cc pc = .ok (.iand, 1)) (hv : x &&& y = v) (kk : V p l e R s m args below meth c nL G A cells slots Q ws lv (pc + 1) (.int v :: st)) : V p l e R s m args below meth c nL G A cells slots Q ws lv pc (.int y :: .int x :: st) := by
  intro H locs ls hP hD hS hl
  obtain ⟨⟨hx, hb, -⟩, -⟩ := X
  subst hv; exact lv_iand hx hb d (kk H locs ls hP hD hS hl)
theorem v_ior (X : VX p s m args meth c cc nL Ts own G A) {x y v : Int32} (d : decode cc pc = .ok (.ior, 1)) (hv : x ||| y = v) (kk : V p l e R s m args below meth c nL G A cells slots Q ws lv (pc + 1) (.int v :: st)) : V p l e R s m args below meth c nL G A cells slots Q ws lv pc (.int y :: .int x :: st) := by
  intro H locs ls hP hD hS hl
  obtain ⟨⟨hx, hb, -⟩, -⟩ := X
  subst hv; exact lv_ior hx hb d (kk H locs ls hP hD hS hl)
theorem v_ixor (X : VX p s m args meth c cc nL Ts own G A) {x y v : Int32} (d : decode cc pc = .ok (.ixor, 1)) (hv : x ^^^ y = v) (kk : V p l e R s m args below meth c nL G A cells slots Q ws lv (pc + 1) (.int v :: st)) : V p l e R s m args below meth c nL G A cells slots Q ws lv pc (.int y :: .int x :: st) := by
  intro H locs ls hP hD hS hl
  obtain ⟨⟨hx, hb, -⟩, -⟩ := X
  subst hv; exact lv_ixor hx hb d (kk H locs ls hP hD hS hl)
theorem v_ishr (X : VX p s m args meth c cc nL Ts own G A) {x y v : Int32} (d : decode cc pc = .ok (.ishr, 1)) (hv : x >>> (y &&& 31) = v) (kk : V p l e R s m args below meth c nL G A cells slots Q ws lv (pc + 1) (.int v :: st)) : V p l e R s m args below meth c nL G A cells slots Q ws lv pc (.int y :: .int x :: st) := by
  intro H locs ls hP hD hS hl
  obtain ⟨⟨hx, hb, -⟩, -⟩ := X
  subst hv; exact lv_ishr hx hb d (kk H locs ls hP hD hS hl)
theorem v_ishl (X : VX p s m args meth c cc nL Ts own G A) {x y v : Int32} (d : decode cc pc = .ok (.ishl, 1)) (hv : x <<< (y &&& 31) = v) (kk : V p l e R s m args below meth c nL G A cells slots Q ws lv (pc + 1) (.int v :: st)) : V p l e R s m args below meth c nL G A cells slots Q ws lv pc (.int y :: .int x :: st) := by
  intro H locs ls hP hD hS hl
  obtain ⟨⟨hx, hb, -⟩, -⟩ := X
  subst hv; exact lv_ishl hx hb d (kk H locs ls hP hD hS hl)
theorem v_idiv (X : VX p s m args meth c cc nL Ts own G A) {x y v : Int32} (d : decode cc pc = .ok (.idiv, 1)) (hne : ¬ y = 0) (hv : x / y = v) (kk : V p l e R s m args below meth c nL G A cells slots Q ws lv (pc + 1) (.int v :: st)) : V p l e R s m args below meth c nL G A cells slots Q ws lv pc (.int y :: .int x :: st) := by
  intro H locs ls hP hD hS hl
  obtain ⟨⟨hx, hb, -⟩, -⟩ := X
  subst hv; exact lv_idiv hx hb d hne (kk H locs ls hP hD hS hl)
theorem v_irem (X : VX p s m args meth c cc nL Ts own G A) {x y v : Int32} (d : decode cc pc = .ok (.irem, 1)) (hne : ¬ y = 0) (hv : x - x / y * y = v) (kk : V p l e R s m args below meth c nL G A cells slots Q ws lv (pc + 1) (.int v :: st)) : V p l e R s m args below meth c nL G A cells slots Q ws lv pc (.int y :: .int x :: st) := by
  intro H locs ls hP hD hS hl
  obtain ⟨⟨hx, hb, -⟩, -⟩ := X
  subst hv; exact lv_irem hx hb d hne (kk H locs ls hP hD hS hl)
theorem v_ineg (X : VX p s m args meth c cc nL Ts own G A) {x v : Int32} (d : decode cc pc = .ok (.ineg, 1)) (hv : -x = v) (kk : V p l e R s m args below meth c nL G A cells slots Q ws lv (pc + 1) (.int v :: st)) : V p l e R s m args below meth c nL G A cells slots Q ws lv pc (.int x :: st) := by
  intro H locs ls hP hD hS hl
  obtain ⟨⟨hx, hb, -⟩, -⟩ := X
  subst hv; exact lv_ineg hx hb d (kk H locs ls hP hD hS hl)
theorem v_iushr (X : VX p s m args meth c cc nL Ts own G A) {x y v : Int32} (d : decode cc pc = .ok (.iushr, 1)) (hv : (x.toUInt32 >>> (y.toUInt32 &&& Int32.toUInt32 31)).toInt32 = v) (kk : V p l e R s m args below meth c nL G A cells slots Q ws lv (pc + 1) (.int v :: st)) : V p l e R s m args below meth c nL G A cells slots Q ws lv pc (.int y :: .int x :: st) := by
  intro H locs ls hP hD hS hl
  obtain ⟨⟨hx, hb, -⟩, -⟩ := X
  exact lv_iushr hx hb d hv (kk H locs ls hP hD hS hl)
theorem v_i2l (X : VX p s m args meth c cc nL Ts own G A) {x : Int32} {v : Int64} (d : decode cc pc = .ok (.i2l, 1)) (hv : x.toInt64 = v) (kk : V p l e R s m args below meth c nL G A cells slots Q ws lv (pc + 1) (.long v :: st)) : V p l e R s m args below meth c nL G A cells slots Q ws lv pc (.int x :: st) := by
  intro H locs ls hP hD hS hl
  obtain ⟨⟨hx, hb, -⟩, -⟩ := X
  exact lv_i2l hx hb d hv (kk H locs ls hP hD hS hl)
theorem v_i2c (X : VX p s m args meth c cc nL Ts own G A) {x v : Int32} (d : decode cc pc = .ok (.i2c, 1)) (hv : (x.toUInt32 % 65536).toInt32 = v) (kk : V p l e R s m args below meth c nL G A cells slots Q ws lv (pc + 1) (.int v :: st)) : V p l e R s m args below meth c nL G A cells slots Q ws lv pc (.int x :: st) := by
  intro H locs ls hP hD hS hl
  obtain ⟨⟨hx, hb, -⟩, -⟩ := X
  exact lv_i2c hx hb d hv (kk H locs ls hP hD hS hl)
theorem v_i2b (X : VX p s m args meth c cc nL Ts own G A) {x v : Int32} (d : decode cc pc = .ok (.i2b, 1)) (hv : x.toInt8.toInt32 = v) (kk : V p l e R s m args below meth c nL G A cells slots Q ws lv (pc + 1) (.int v :: st)) : V p l e R s m args below meth c nL G A cells slots Q ws lv pc (.int x :: st) := by
  intro H locs ls hP hD hS hl
  obtain ⟨⟨hx, hb, -⟩, -⟩ := X
  exact lv_i2b hx hb d hv (kk H locs ls hP hD hS hl)
theorem v_lcmp (X : VX p s m args meth c cc nL Ts own G A) {x y : Int64} {v : Int32} (d : decode cc pc = .ok (.lcmp, 1)) (hv : lg_cmp x y = v) (kk : V p l e R s m args below meth c nL G A cells slots Q ws lv (pc + 1) (.int v :: st)) : V p l e R s m args below meth c nL G A cells slots Q ws lv pc (.long y :: .long x :: st) := by
  intro H locs ls hP hD hS hl
  obtain ⟨⟨hx, hb, -⟩, -⟩ := X
  subst hv; exact W.lcmp hx hb d (kk H locs ls hP hD hS hl)
theorem v_dup (X : VX p s m args meth c cc nL Ts own G A) {a : Value} (d : decode cc pc = .ok (.dup, 1)) (ha : a.category = 1) (kk : V p l e R s m args below meth c nL G A cells slots Q ws lv (pc + 1) (a :: a :: st)) : V p l e R s m args below meth c nL G A cells slots Q ws lv pc (a :: st) := by
  intro H locs ls hP hD hS hl
  obtain ⟨⟨hx, hb, -⟩, -⟩ := X
  exact lv_dup hx hb d ha (kk H locs ls hP hD hS hl)
theorem v_pop (X : VX p s m args meth c cc nL Ts own G A) {a : Value} (d : decode cc pc = .ok (.pop, 1)) (ha : a.category = 1) (kk : V p l e R s m args below meth c nL G A cells slots Q ws lv (pc + 1) st) : V p l e R s m args below meth c nL G A cells slots Q ws lv pc (a :: st) := by
  intro H locs ls hP hD hS hl
  obtain ⟨⟨hx, hb, -⟩, -⟩ := X
  exact lv_pop hx hb d ha (kk H locs ls hP hD hS hl)
theorem v_dup2 (X : VX p s m args meth c cc nL Ts own G A) {a b : Value} (d : decode cc pc = .ok (.dup2, 1)) (ha : a.category = 1) (hb2 : b.category = 1) (kk : V p l e R s m args below meth c nL G A cells slots Q ws lv (pc + 1) (a :: b :: a :: b :: st)) : V p l e R s m args below meth c nL G A cells slots Q ws lv pc (a :: b :: st) := by
  intro H locs ls hP hD hS hl
  obtain ⟨⟨hx, hb, -⟩, -⟩ := X
  exact lv_dup2_11 hx hb d ha hb2 (kk H locs ls hP hD hS hl)
theorem v_dup_x1 (X : VX p s m args meth c cc nL Ts own G A) {a b : Value} (d : decode cc pc = .ok (.dup_x1, 1)) (ha : a.category = 1) (hb2 : b.category = 1) (kk : V p l e R s m args below meth c nL G A cells slots Q ws lv (pc + 1) (a :: b :: a :: st)) : V p l e R s m args below meth c nL G A cells slots Q ws lv pc (a :: b :: st) := by
  intro H locs ls hP hD hS hl
  obtain ⟨⟨hx, hb, -⟩, -⟩ := X
  exact lv_dup_x1 hx hb d ha hb2 (kk H locs ls hP hD hS hl)
theorem v_if_eq (X : VX p s m args meth c cc nL Ts own G A) {x : Int32} {off : Int} (tgt : Nat) (d : decode cc pc = .ok (.ifCond .eq off, 3)) (ht : (pc : Int) + off = (tgt : Int)) (kt : x = 0 → V p l e R s m args below meth c nL G A cells slots Q ws lv tgt st) (kf : ¬ x = 0 → V p l e R s m args below meth c nL G A cells slots Q ws lv (pc + 3) st) : V p l e R s m args below meth c nL G A cells slots Q ws lv pc (.int x :: st) := by
  intro H locs ls hP hD hS hl
  obtain ⟨⟨hx, hb, -⟩, -⟩ := X
  exact lv_if_eq hx hb d ht (fun h => kt h H locs ls hP hD hS hl) (fun h => kf h H locs ls hP hD hS hl)
theorem v_if_ne (X : VX p s m args meth c cc nL Ts own G A) {x : Int32} {off : Int} (tgt : Nat) (d : decode cc pc = .ok (.ifCond .ne off, 3)) (ht : (pc : Int) + off = (tgt : Int)) (kt : ¬ x = 0 → V p l e R s m args below meth c nL G A cells slots Q ws lv tgt st) (kf : x = 0 → V p l e R s m args below meth c nL G A cells slots Q ws lv (pc + 3) st) : V p l e R s m args below meth c nL G A cells slots Q ws lv pc (.int x :: st) := by
  intro H locs ls hP hD hS hl
  obtain ⟨⟨hx, hb, -⟩, -⟩ := X
  exact lv_if_ne hx hb d ht (fun h => kt h H locs ls hP hD hS hl) (fun h => kf h H locs ls hP hD hS hl)
theorem v_if_lt (X : VX p s m args meth c cc nL Ts own G A) {x : Int32} {off : Int} (tgt : Nat) (d : decode cc pc = .ok (.ifCond .lt off, 3)) (ht : (pc : Int) + off = (tgt : Int)) (kt : x < 0 → V p l e R s m args below meth c nL G A cells slots Q ws lv tgt st) (kf : ¬ x < 0 → V p l e R s m args below meth c nL G A cells slots Q ws lv (pc + 3) st) : V p l e R s m args below meth c nL G A cells slots Q ws lv pc (.int x :: st) := by
  intro H locs ls hP hD hS hl
  obtain ⟨⟨hx, hb, -⟩, -⟩ := X
  exact lv_if_lt hx hb d ht (fun h => kt h H locs ls hP hD hS hl) (fun h => kf h H locs ls hP hD hS hl)
theorem v_if_ge (X : VX p s m args meth c cc nL Ts own G A) {x : Int32} {off : Int} (tgt : Nat) (d : decode cc pc = .ok (.ifCond .ge off, 3)) (ht : (pc : Int) + off = (tgt : Int)) (kt : 0 ≤ x → V p l e R s m args below meth c nL G A cells slots Q ws lv tgt st) (kf : ¬ 0 ≤ x → V p l e R s m args below meth c nL G A cells slots Q ws lv (pc + 3) st) : V p l e R s m args below meth c nL G A cells slots Q ws lv pc (.int x :: st) := by
  intro H locs ls hP hD hS hl
  obtain ⟨⟨hx, hb, -⟩, -⟩ := X
  exact lv_if_ge hx hb d ht (fun h => kt h H locs ls hP hD hS hl) (fun h => kf h H locs ls hP hD hS hl)
theorem v_if_gt (X : VX p s m args meth c cc nL Ts own G A) {x : Int32} {off : Int} (tgt : Nat) (d : decode cc pc = .ok (.ifCond .gt off, 3)) (ht : (pc : Int) + off = (tgt : Int)) (kt : 0 < x → V p l e R s m args below meth c nL G A cells slots Q ws lv tgt st) (kf : ¬ 0 < x → V p l e R s m args below meth c nL G A cells slots Q ws lv (pc + 3) st) : V p l e R s m args below meth c nL G A cells slots Q ws lv pc (.int x :: st) := by
  intro H locs ls hP hD hS hl
  obtain ⟨⟨hx, hb, -⟩, -⟩ := X
  exact lv_if_gt hx hb d ht (fun h => kt h H locs ls hP hD hS hl) (fun h => kf h H locs ls hP hD hS hl)
theorem v_if_le (X : VX p s m args meth c cc nL Ts own G A) {x : Int32} {off : Int} (tgt : Nat) (d : decode cc pc = .ok (.ifCond .le off, 3)) (ht : (pc : Int) + off = (tgt : Int)) (kt : x ≤ 0 → V p l e R s m args below meth c nL G A cells slots Q ws lv tgt st) (kf : ¬ x ≤ 0 → V p l e R s m args below meth c nL G A cells slots Q ws lv (pc + 3) st) : V p l e R s m args below meth c nL G A cells slots Q ws lv pc (.int x :: st) := by
  intro H locs ls hP hD hS hl
  obtain ⟨⟨hx, hb, -⟩, -⟩ := X
  exact lv_if_le hx hb d ht (fun h => kt h H locs ls hP hD hS hl) (fun h => kf h H locs ls hP hD hS hl)
theorem v_icmp_eq (X : VX p s m args meth c cc nL Ts own G A) {x y : Int32} {off : Int} (tgt : Nat) (d : decode cc pc = .ok (.if_icmp .eq off, 3)) (ht : (pc : Int) + off = (tgt : Int)) (kt : x = y → V p l e R s m args below meth c nL G A cells slots Q ws lv tgt st) (kf : ¬ x = y → V p l e R s m args below meth c nL G A cells slots Q ws lv (pc + 3) st) : V p l e R s m args below meth c nL G A cells slots Q ws lv pc (.int y :: .int x :: st) := by
  intro H locs ls hP hD hS hl
  obtain ⟨⟨hx, hb, -⟩, -⟩ := X
  exact lv_icmp_eq hx hb d ht (fun h => kt h H locs ls hP hD hS hl) (fun h => kf h H locs ls hP hD hS hl)
theorem v_icmp_ne (X : VX p s m args meth c cc nL Ts own G A) {x y : Int32} {off : Int} (tgt : Nat) (d : decode cc pc = .ok (.if_icmp .ne off, 3)) (ht : (pc : Int) + off = (tgt : Int)) (kt : ¬ x = y → V p l e R s m args below meth c nL G A cells slots Q ws lv tgt st) (kf : x = y → V p l e R s m args below meth c nL G A cells slots Q ws lv (pc + 3) st) : V p l e R s m args below meth c nL G A cells slots Q ws lv pc (.int y :: .int x :: st) := by
  intro H locs ls hP hD hS hl
  obtain ⟨⟨hx, hb, -⟩, -⟩ := X
  exact lv_icmp_ne hx hb d ht (fun h => kt h H locs ls hP hD hS hl) (fun h => kf h H locs ls hP hD hS hl)
theorem v_icmp_lt (X : VX p s m args meth c cc nL Ts own G A) {x y : Int32} {off : Int} (tgt : Nat) (d : decode cc pc = .ok (.if_icmp .lt off, 3)) (ht : (pc : Int) + off = (tgt : Int)) (kt : x < y → V p l e R s m args below meth c nL G A cells slots Q ws lv tgt st) (kf : ¬ x < y → V p l e R s m args below meth c nL G A cells slots Q ws lv (pc + 3) st) : V p l e R s m args below meth c nL G A cells slots Q ws lv pc (.int y :: .int x :: st) := by
  intro H locs ls hP hD hS hl
  obtain ⟨⟨hx, hb, -⟩, -⟩ := X
  exact lv_icmp_lt hx hb d ht (fun h => kt h H locs ls hP hD hS hl) (fun h => kf h H locs ls hP hD hS hl)
theorem v_icmp_ge (X : VX p s m args meth c cc nL Ts own G A) {x y : Int32} {off : Int} (tgt : Nat) (d : decode cc pc = .ok (.if_icmp .ge off, 3)) (ht : (pc : Int) + off = (tgt : Int)) (kt : y ≤ x → V p l e R s m args below meth c nL G A cells slots Q ws lv tgt st) (kf : ¬ y ≤ x → V p l e R s m args below meth c nL G A cells slots Q ws lv (pc + 3) st) : V p l e R s m args below meth c nL G A cells slots Q ws lv pc (.int y :: .int x :: st) := by
  intro H locs ls hP hD hS hl
  obtain ⟨⟨hx, hb, -⟩, -⟩ := X
  exact lv_icmp_ge hx hb d ht (fun h => kt h H locs ls hP hD hS hl) (fun h => kf h H locs ls hP hD hS hl)
theorem v_icmp_gt (X : VX p s m args meth c cc nL Ts own G A) {x y : Int32} {off : Int} (tgt : Nat) (d : decode cc pc = .ok (.if_icmp .gt off, 3)) (ht : (pc : Int) + off = (tgt : Int)) (kt : y < x → V p l e R s m args below meth c nL G A cells slots Q ws lv tgt st) (kf : ¬ y < x → V p l e R s m args below meth c nL G A cells slots Q ws lv (pc + 3) st) : V p l e R s m args below meth c nL G A cells slots Q ws lv pc (.int y :: .int x :: st) := by
  intro H locs ls hP hD hS hl
  obtain ⟨⟨hx, hb, -⟩, -⟩ := X
  exact lv_icmp_gt hx hb d ht (fun h => kt h H locs ls hP hD hS hl) (fun h => kf h H locs ls hP hD hS hl)
theorem v_icmp_le (X : VX p s m args meth c cc nL Ts own G A) {x y : Int32} {off : Int} (tgt : Nat) (d : decode cc pc = .ok (.if_icmp .le off, 3)) (ht : (pc : Int) + off = (tgt : Int)) (kt : x ≤ y → V p l e R s m args below meth c nL G A cells slots Q ws lv tgt st) (kf : ¬ x ≤ y → V p l e R s m args below meth c nL G A cells slots Q ws lv (pc + 3) st) : V p l e R s m args below meth c nL G A cells slots Q ws lv pc (.int y :: .int x :: st) := by
  intro H locs ls hP hD hS hl
  obtain ⟨⟨hx, hb, -⟩, -⟩ := X
  exact lv_icmp_le hx hb d ht (fun h => kt h H locs ls hP hD hS hl) (fun h => kf h H locs ls hP hD hS hl)
theorem v_goto (X : VX p s m args meth c cc nL Ts own G A) {off : Int} (tgt : Nat) (d : decode cc pc = .ok (.goto off, 3)) (ht : (pc : Int) + off = (tgt : Int)) (kk : V p l e R s m args below meth c nL G A cells slots Q ws lv tgt st) : V p l e R s m args below meth c nL G A cells slots Q ws lv pc st := by
  intro H locs ls hP hD hS hl
  obtain ⟨⟨hx, hb, -⟩, -⟩ := X
  exact lv_goto hx hb d ht (kk H locs ls hP hD hS hl)
theorem v_tableIn (X : VX p s m args meth c cc nL Ts own G A) {dflt lo hi : Int} {offs : Array Int} {len : Nat} {x : Int32} {off : Int} (tgt : Nat) (d : decode cc pc = .ok (.tableswitch dflt lo hi offs, len)) (h1 : ¬ x.toInt < lo) (h2 : ¬ hi < x.toInt) (ho : offs[(x.toInt - lo).toNat]? = some off) (ht : (pc : Int) + off = (tgt : Int)) (kk : V p l e R s m args below meth c nL G A cells slots Q ws lv tgt st) : V p l e R s m args below meth c nL G A cells slots Q ws lv pc (.int x :: st) := by
  intro H locs ls hP hD hS hl
  obtain ⟨⟨hx, hb, -⟩, -⟩ := X
  exact lv_tableIn hx hb d h1 h2 ho ht (kk H locs ls hP hD hS hl)
theorem v_tableOut (X : VX p s m args meth c cc nL Ts own G A) {dflt lo hi : Int} {offs : Array Int} {len : Nat} {x : Int32} (tgt : Nat) (d : decode cc pc = .ok (.tableswitch dflt lo hi offs, len)) (h : x.toInt < lo ∨ hi < x.toInt) (ht : (pc : Int) + dflt = (tgt : Int)) (kk : V p l e R s m args below meth c nL G A cells slots Q ws lv tgt st) : V p l e R s m args below meth c nL G A cells slots Q ws lv pc (.int x :: st) := by
  intro H locs ls hP hD hS hl
  obtain ⟨⟨hx, hb, -⟩, -⟩ := X
  exact lv_tableOut hx hb d h ht (kk H locs ls hP hD hS hl)
theorem v_sub {lv' : List (Nat × Value)} (ks : List Nat) (hl' : lv_pick lv ks = lv') (kk : V p l e R s m args below meth c nL G A cells slots Q ws lv' pc st) : V p l e R s m args below meth c nL G A cells slots Q ws lv pc st :=
  fun H locs ls hP hD hS hl => kk H locs ls hP hD hS (lv_sub hl ks hl')
theorem v_ws {ws' : va_W} (hw : ws = ws') (kk : V p l e R s m args below meth c nL G A cells slots Q ws' lv pc st) : V p l e R s m args below meth c nL G A cells slots Q ws lv pc st := hw ▸ kk
/-! ### fields, arrays, new objects -/
theorem filterMap_of_map {α β : Type} {f : α → Option β} : ∀ {is : List α} {w : List β}, is.map f = w.map some → is.filterMap f = w
  | [], [], _ => rfl
  | [], _ :: _, h => by cases h
  | _ :: _, [], h => by cases h
  | i :: is, x :: w, h => by
    simp only [List.map_cons, List.cons.injEq] at h
    rw [List.filterMap_cons, h.1, filterMap_of_map h.2]
theorem v_get (X : VX p s m args meth c cc nL Ts own G A) {index : Nat} {ref C : String} {T : u_T} {N a ci k i : Nat} {fs : List Value} {v : Value} (d : decode cc pc = .ok (.getfield index, 3)) (hin : ∀ w ∈ u_ws C T N, w ∈ Ts) (q0 : Nat) (he : ws[q0]? = some (a, .inr (ci, fs))) (hc : vwCl[ci]? = some (C, T, N)) (hk : k < N) (hw : Ts[i]? = some (Cond.fieldLink own index ref (T k).2.1 (T k).2.2.1)) (hsame : (T k).1 = ref) (hv : fs[k]? = some v) (kk : V p l e R s m args below meth c nL G A cells slots Q ws lv (pc + 3) (v :: st)) : V p l e R s m args below meth c nL G A cells slots Q ws lv pc (.ref a :: st) := by
  intro H locs ls hP hD hS hl
  obtain ⟨⟨hx, hb, hml, hown, hts⟩, hG, -⟩ := X
  exact va_get hx hb hts hin hown hG.1 hP q0 he hc k hk (hts _ (List.mem_of_getElem? hw)) (fun _ h9 => by rw [← hsame]; exact h9) hv d (kk H locs ls hP hD hS hl)
theorem v_put (X : VX p s m args meth c cc nL Ts own G A) {index : Nat} {ref C : String} {T : u_T} {N a ci k i : Nat} {fs : List Value} {v : Value} {ty : FieldType} {ty0 : Nat → FieldType} {ws' : va_W} (d : decode cc pc = .ok (.putfield index, 3)) (hin : ∀ w ∈ u_ws C T N, w ∈ Ts) (hty : ∀ k, k < N → parseFieldDescriptor (T k).2.2.1 = some (ty0 k)) (hnm : ∀ a, a < N → ∀ b, b < N → a ≠ b → (T a).2.1 ≠ (T b).2.1) (q0 : Nat) (he : ws[q0]? = some (a, .inr (ci, fs))) (hc : vwCl[ci]? = some (C, T, N)) (hk : k < N) (hw : Ts[i]? = some (Cond.fieldLink own index ref (T k).2.1 (T k).2.2.1)) (hsame : (T k).1 = ref) (hfin : (T k).2.2.2 = false ∨ ((T k).2.2.2 = true ∧ meth.name = "<init>" ∧ (T k).1 = own)) (hd : ty0 k = ty) (hn : narrow ty v = v) (hfit : fits ty v = true) (hl9 : k < fs.length) (hws : ws.set q0 (a, .inr (ci, fs.set k v)) = ws') (kk : V p l e R s m args below meth c nL G A cells slots Q ws' lv (pc + 3) st) : V p l e R s m args below meth c nL G A cells slots Q ws lv pc (v :: .ref a :: st) := by
  intro H locs ls hP hD hS hl
  obtain ⟨⟨hx, hb, hml, hown, hts⟩, hG, -⟩ := X
  subst hws
  rcases hfin with hfin | ⟨hfin, hini, hdecl⟩
  · exact va_put hx hb hts hin ty0 hty hnm hown hG.1 hP hD hS q0 he hc k hk (hts _ (List.mem_of_getElem? hw)) (fun _ h9 => by rw [← hsame]; exact h9) hfin (by rw [hty k hk, hd]) hn hfit hl9 d (fun H1 locs1 hP1 hD1 hS1 => kk H1 locs1 ls hP1 hD1 hS1 hl)
  · exact va_putF hx hb hts hin ty0 hty hnm hown hG.1 hP hD hS q0 he hc k hk (hts _ (List.mem_of_getElem? hw)) (fun _ h9 => by rw [← hsame]; exact h9) hfin hini hdecl (by rw [hty k hk, hd]) hn hfit hl9 d (fun H1 locs1 hP1 hD1 hS1 => kk H1 locs1 ls hP1 hD1 hS1 hl)
theorem v_iald (X : VX p s m args meth c cc nL Ts own G A) {a n : Nat} {f : Nat → Int32} {i v : Int32} (d : decode cc pc = .ok (.iaload, 1)) (q0 : Nat) (ha : ws[q0]? = some (a, .inl (G.1 10, n, .inl f))) (hin : vp_in i n) (hv : f i.toNatClampNeg = v) (kk : V p l e R s m args below meth c nL G A cells slots Q ws lv (pc + 1) (.int v :: st)) : V p l e R s m args below meth c nL G A cells slots Q ws lv pc (.int i :: .ref a :: st) := by
  intro H locs ls hP hD hS hl
  obtain ⟨⟨hx, hb, -⟩, hG, -⟩ := X
  subst hv
  exact va_iald hx hb hG.1 hP q0 0 ha rfl hin d (kk H locs ls hP hD hS hl)
theorem v_zald (X : VX p s m args meth c cc nL Ts own G A) {a n : Nat} {f : Nat → Int32} {i v : Int32} (d : decode cc pc = .ok (.baload, 1)) (q0 : Nat) (ha : ws[q0]? = some (a, .inl (G.1 11, n, .inl f))) (hin : vp_in i n) (hv : f i.toNatClampNeg = v) (kk : V p l e R s m args below meth c nL G A cells slots Q ws lv (pc + 1) (.int v :: st)) : V p l e R s m args below meth c nL G A cells slots Q ws lv pc (.int i :: .ref a :: st) := by
  intro H locs ls hP hD hS hl
  obtain ⟨⟨hx, hb, -⟩, hG, -⟩ := X
  subst hv
  exact va_zald hx hb hG.1 hP q0 1 ha rfl hin d (kk H locs ls hP hD hS hl)
theorem v_bald (X : VX p s m args meth c cc nL Ts own G A) {a n : Nat} {f : Nat → Int32} {i v : Int32} (d : decode cc pc = .ok (.baload, 1)) (q0 : Nat) (ha : ws[q0]? = some (a, .inl (G.1 14, n, .inl f))) (hin : vp_in i n) (hv : f i.toNatClampNeg = v) (kk : V p l e R s m args below meth c nL G A cells slots Q ws lv (pc + 1) (.int v :: st)) : V p l e R s m args below meth c nL G A cells slots Q ws lv pc (.int i :: .ref a :: st) := by
  intro H locs ls hP hD hS hl
  obtain ⟨⟨hx, hb, -⟩, hG, -⟩ := X
  subst hv
  exact va_bald hx hb hG.1 hP q0 2 ha rfl hin d (kk H locs ls hP hD hS hl)
theorem v_iast (X : VX p s m args meth c cc nL Ts own G A) {a n : Nat} {f : Nat → Int32} {i x : Int32} {ws' : va_W} (d : decode cc pc = .ok (.iastore, 1)) (q0 : Nat) (ha : ws[q0]? = some (a, .inl (G.1 10, n, .inl f))) (hin : vp_in i n) (hws : ws.set q0 (a, .inl (G.1 10, n, .inl (upd f i.toNatClampNeg x))) = ws') (kk : V p l e R s m args below meth c nL G A cells slots Q ws' lv (pc + 1) st) : V p l e R s m args below meth c nL G A cells slots Q ws lv pc (.int x :: .int i :: .ref a :: st) := by
  intro H locs ls hP hD hS hl
  obtain ⟨⟨hx, hb, -⟩, hG, -⟩ := X
  subst hws
  exact va_iast hx hb hG.1 hP hD hS q0 0 ha rfl hin d (fun H1 locs1 hP1 hD1 hS1 => kk H1 locs1 ls hP1 hD1 hS1 hl)
theorem v_zast (X : VX p s m args meth c cc nL Ts own G A) {a n : Nat} {f : Nat → Int32} {i x : Int32} {ws' : va_W} (d : decode cc pc = .ok (.bastore, 1)) (q0 : Nat) (ha : ws[q0]? = some (a, .inl (G.1 11, n, .inl f))) (hin : vp_in i n) (hws : ws.set q0 (a, .inl (G.1 11, n, .inl (upd f i.toNatClampNeg (vp_nar .boolean x)))) = ws') (kk : V p l e R s m args below meth c nL G A cells slots Q ws' lv (pc + 1) st) : V p l e R s m args below meth c nL G A cells slots Q ws lv pc (.int x :: .int i :: .ref a :: st) := by
  intro H locs ls hP hD hS hl
  obtain ⟨⟨hx, hb, -⟩, hG, -⟩ := X
  subst hws
  exact va_zast hx hb hG.1 hP hD hS q0 1 ha rfl hin d (fun H1 locs1 hP1 hD1 hS1 => kk H1 locs1 ls hP1 hD1 hS1 hl)
theorem v_bast (X : VX p s m args meth c cc nL Ts own G A) {a n : Nat} {f : Nat → Int32} {i x : Int32} {ws' : va_W} (d : decode cc pc = .ok (.bastore, 1)) (q0 : Nat) (ha : ws[q0]? = some (a, .inl (G.1 14, n, .inl f))) (hin : vp_in i n) (hws : ws.set q0 (a, .inl (G.1 14, n, .inl (upd f i.toNatClampNeg (vp_nar .byte x)))) = ws') (kk : V p l e R s m args below meth c nL G A cells slots Q ws' lv (pc + 1) st) : V p l e R s m args below meth c nL G A cells slots Q ws lv pc (.int x :: .int i :: .ref a :: st) := by
  intro H locs ls hP hD hS hl
  obtain ⟨⟨hx, hb, -⟩, hG, -⟩ := X
  subst hws
  exact va_bast hx hb hG.1 hP hD hS q0 2 ha rfl hin d (fun H1 locs1 hP1 hD1 hS1 => kk H1 locs1 ls hP1 hD1 hS1 hl)
theorem v_alen (X : VX p s m args meth c cc nL Ts own G A) {a : Nat} {cA : ClassId} {x : vp_A} {ty : FieldType} {v : Int32} (d : decode cc pc = .ok (.arraylength, 1)) (q0 t0 : Nat) (ha : ws[q0]? = some (a, .inl (cA, x))) (ht : (tyA G)[t0]? = some (cA, ty)) (hv : Int32.ofNat x.1 = v) (kk : V p l e R s m args below meth c nL G A cells slots Q ws lv (pc + 1) (.int v :: st)) : V p l e R s m args below meth c nL G A cells slots Q ws lv pc (.ref a :: st) := by
  intro H locs ls hP hD hS hl
  obtain ⟨⟨hx, hb, -⟩, hG, -⟩ := X
  exact va_alen hx hb hG.1 hP q0 t0 ha ht hv d (kk H locs ls hP hD hS hl)
theorem v_newI (X : VX p s m args meth c cc nL Ts own G A) {n : Int32} {N i : Nat} (d : decode cc pc = .ok (.newarray .int, 2)) (hw : Ts[i]? = some (Cond.arrayClass .int)) (hn : ¬ n < 0) (hN : n.toNatClampNeg = N) (hbytes : N * componentBytes .int ≤ 536870912) (hcells : cells + 1 ≤ R.cells) (hslots : slots + N ≤ R.slots) (kk : ∀ q : Nat, V p l e R s m args below meth c nL G A (cells + 1) (slots + N) Q (ws ++ [(q, .inl (G.1 10, N, .inl (fun _ => 0)))]) lv (pc + 2) (.ref q :: st)) : V p l e R s m args below meth c nL G A cells slots Q ws lv pc (.int n :: st) := by
  intro H locs ls hP hD hS hl
  obtain ⟨⟨hx, hb, hml, hown, hts⟩, hG, hA, -⟩ := X
  refine va_newa (atype := .int) (ty := .int) (N' := N) (a0 := (N, .inl (fun _ => 0))) hx hb (hts _ (List.mem_of_getElem? hw)) rfl hG.1 hP hD hS hA (fun _ => rfl) hn hN hbytes hcells hslots d (fun q cA H1 hK1 hP1 hD1 hS1 => ?_)
  have e1 : s.vm.findClass ("[" ++ (.int : FieldType).toString) = some cA := (hK1.2 3 _ rfl).2
  have e2 : s.vm.findClass ("[" ++ (.int : FieldType).toString) = some (G.1 10) := (hK1.2 0 _ rfl).2
  cases Option.some.inj (e1.symm.trans e2)
  exact kk q H1 locs ls hP1 hD1 hS1 hl
theorem v_newZ (X : VX p s m args meth c cc nL Ts own G A) {n : Int32} {N i : Nat} (d : decode cc pc = .ok (.newarray .boolean, 2)) (hw : Ts[i]? = some (Cond.arrayClass .boolean)) (hn : ¬ n < 0) (hN : n.toNatClampNeg = N) (hbytes : N * componentBytes .boolean ≤ 536870912) (hcells : cells + 1 ≤ R.cells) (hslots : slots + N ≤ R.slots) (kk : ∀ q : Nat, V p l e R s m args below meth c nL G A (cells + 1) (slots + N) Q (ws ++ [(q, .inl (G.1 11, N, .inl (fun _ => 0)))]) lv (pc + 2) (.ref q :: st)) : V p l e R s m args below meth c nL G A cells slots Q ws lv pc (.int n :: st) := by
  intro H locs ls hP hD hS hl
  obtain ⟨⟨hx, hb, hml, hown, hts⟩, hG, hA, -⟩ := X
  refine va_newa (atype := .boolean) (ty := .boolean) (N' := N) (a0 := (N, .inl (fun _ => 0))) hx hb (hts _ (List.mem_of_getElem? hw)) rfl hG.1 hP hD hS hA (fun _ => rfl) hn hN hbytes hcells hslots d (fun q cA H1 hK1 hP1 hD1 hS1 => ?_)
  have e1 : s.vm.findClass ("[" ++ (.boolean : FieldType).toString) = some cA := (hK1.2 3 _ rfl).2
  have e2 : s.vm.findClass ("[" ++ (.boolean : FieldType).toString) = some (G.1 11) := (hK1.2 1 _ rfl).2
  cases Option.some.inj (e1.symm.trans e2)
  exact kk q H1 locs ls hP1 hD1 hS1 hl
theorem v_newB (X : VX p s m args meth c cc nL Ts own G A) {n : Int32} {N i : Nat} (d : decode cc pc = .ok (.newarray .byte, 2)) (hw : Ts[i]? = some (Cond.arrayClass .byte)) (hn : ¬ n < 0) (hN : n.toNatClampNeg = N) (hbytes : N * componentBytes .byte ≤ 536870912) (hcells : cells + 1 ≤ R.cells) (hslots : slots + N ≤ R.slots) (kk : ∀ q : Nat, V p l e R s m args below meth c nL G A (cells + 1) (slots + N) Q (ws ++ [(q, .inl (G.1 14, N, .inl (fun _ => 0)))]) lv (pc + 2) (.ref q :: st)) : V p l e R s m args below meth c nL G A cells slots Q ws lv pc (.int n :: st) := by
  intro H locs ls hP hD hS hl
  obtain ⟨⟨hx, hb, hml, hown, hts⟩, hG, hA, -⟩ := X
  refine va_newa (atype := .byte) (ty := .byte) (N' := N) (a0 := (N, .inl (fun _ => 0))) hx hb (hts _ (List.mem_of_getElem? hw)) rfl hG.1 hP hD hS hA (fun _ => rfl) hn hN hbytes hcells hslots d (fun q cA H1 hK1 hP1 hD1 hS1 => ?_)
  have e1 : s.vm.findClass ("[" ++ (.byte : FieldType).toString) = some cA := (hK1.2 3 _ rfl).2
  have e2 : s.vm.findClass ("[" ++ (.byte : FieldType).toString) = some (G.1 14) := (hK1.2 2 _ rfl).2
  cases Option.some.inj (e1.symm.trans e2)
  exact kk q H1 locs ls hP1 hD1 hS1 hl
theorem v_new (X : VX p s m args meth c cc nL Ts own G A) {C : String} {T : u_T} {N ci index i1 i2 i3 : Nat} {ty : Nat → FieldType} (fs : List Value) (d : decode cc pc = .ok (.new index, 3)) (hin : ∀ w ∈ u_ws C T N, w ∈ Ts) (hty : ∀ k, k < N → parseFieldDescriptor (T k).2.2.1 = some (ty k)) (hc : vwCl[ci]? = some (C, T, N)) (h1 : Ts[i1]? = some (Cond.classLink own index C)) (h2 : Ts[i2]? = some (Cond.instantiable C N)) (h3 : Ts[i3]? = some (Cond.initialized C)) (hfs : ∀ j, j < N → defaultValue (ty j) = vp_V fs j) (hcells : cells + 1 ≤ R.cells) (hslots : slots + N ≤ R.slots) (kk : ∀ q : Nat, V p l e R s m args below meth c nL G A (cells + 1) (slots + N) Q (ws ++ [(q, .inr (ci, fs))]) lv (pc + 3) (.ref q :: st)) : V p l e R s m args below meth c nL G A cells slots Q ws lv pc st := by
  intro H locs ls hP hD hS hl
  obtain ⟨⟨hx, hb, hml, hown, hts⟩, hG, hA, -⟩ := X
  exact va_new hx hb hts hin ty hty hown (hts _ (List.mem_of_getElem? h1)) (hts _ (List.mem_of_getElem? h2)) (hts _ (List.mem_of_getElem? h3)) hG.1 hP hD hS hA hc hfs hcells hslots d (fun q H1 hP1 hD1 hS1 => kk q H1 locs ls hP1 hD1 hS1 hl)
theorem v_objInit (X : VX p s m args meth c cc nL Ts own G A) {a idx i1 i2 i3 : Nat} (d : decode cc pc = .ok (.invokespecial idx, 3)) (h1 : Ts[i1]? = some (Cond.methodLink own idx Lib.objectInit)) (h2 : Ts[i2]? = some (Cond.instanceMethod Lib.objectInit)) (h3 : Ts[i3]? = some (Cond.code Lib.objectInit ⟨#[0xb1]⟩ 1 none)) (hf : 1 ≤ R.frames) (hlo : (st.map fun v => v.category).sum + 12 ≤ R.locals) (kk : V p l e R s m args below meth c nL G A cells slots Q ws lv (pc + 3) st) : V p l e R s m args below meth c nL G A cells slots Q ws lv pc (.ref a :: st) := by
  intro H locs ls hP hD hS hl
  obtain ⟨⟨hx, hb, hml, hown, hts⟩, hG, hA, -⟩ := X
  refine W.objInit hx hb hown (hts _ (List.mem_of_getElem? h1)) (hts _ (List.mem_of_getElem? h2)) (hts _ (List.mem_of_getElem? h3)) rfl (by rw [hml]; exact hl.1) rfl d hf ?_ ?_
  · show 2 * 0 + _ + 12 ≤ _
    omega
  · exact W.eq rfl (kk H locs ls hP hD hS hl)
theorem v_ldcw (X : VX p s m args meth c cc nL Ts own G A) {index i : Nat} {v : Int32} (d : decode cc pc = .ok (.ldc_w index, 3)) (hw : Ts[i]? = some (Cond.constant own index v)) (kk : V p l e R s m args below meth c nL G A cells slots Q ws lv (pc + 3) (.int v :: st)) : V p l e R s m args below meth c nL G A cells slots Q ws lv pc st := by
  intro H locs ls hP hD hS hl
  obtain ⟨⟨hx, hb, hml, hown, hts⟩, hG, -⟩ := X
  exact lv_ldcw hx hb hown (hts _ (List.mem_of_getElem? hw)) d (kk H locs ls hP hD hS hl)
theorem v_gets (X : VX p s m args meth c cc nL Ts own G A) {C n ds ref : String} {v : Value} {index i : Nat} (hZ : va_Z C n ds v A s s.heap) (d : decode cc pc = .ok (.getstatic index, 3)) (hw : Ts[i]? = some (Cond.fieldLink own index ref n ds)) (hC : C = ref) (kk : V p l e R s m args below meth c nL G A cells slots Q ws lv (pc + 3) (v :: st)) : V p l e R s m args below meth c nL G A cells slots Q ws lv pc st := by
  intro H locs ls hP hD hS hl
  obtain ⟨⟨hx, hb, hml, hown, hts⟩, hG, -⟩ := X
  exact va_gets hx hb hZ hS hown (hts _ (List.mem_of_getElem? hw)) (fun _ h => by rw [← hC]; exact h) d (kk H locs ls hP hD hS hl)
theorem v_tb (X : VX p s m args meth c cc nL Ts own G A) {t N : Nat} {f : Nat → Int32} {i v : Int32} (hT : va_T .byte t N (fun j => .int (f j)) A s s.heap) (d : decode cc pc = .ok (.baload, 1)) (hin : vp_in i N) (hv : f i.toNatClampNeg = v) (kk : V p l e R s m args below meth c nL G A cells slots Q ws lv (pc + 1) (.int v :: st)) : V p l e R s m args below meth c nL G A cells slots Q ws lv pc (.int i :: .ref t :: st) := by
  intro H locs ls hP hD hS hl
  obtain ⟨⟨hx, hb, -⟩, hG, -⟩ := X
  exact va_tb hx hb hT hS hin (by rw [hv]) d (kk H locs ls hP hD hS hl)
theorem v_mmin (X : VX p s m args meth c cc nL Ts own G A) {index i1 i2 i3 i4 : Nat} {x y v : Int32} (d : decode cc pc = .ok (.invokestatic index, 3)) (h1 : Ts[i1]? = some (Cond.methodLink own index Lib.Math.min.name)) (h2 : Ts[i2]? = some (Cond.static Lib.Math.min.name)) (h3 : Ts[i3]? = some (Cond.initialized "java/lang/Math")) (h4 : Ts[i4]? = some (Cond.code Lib.Math.min.name Lib.Math.min.code 2 (some .int))) (hf : 1 ≤ R.frames) (hlo : (st.map fun v => v.category).sum + 13 ≤ R.locals) (hc : cells ≤ R.cells ∧ slots ≤ R.slots) (hv : (if y < x then y else x) = v) (kk : V p l e R s m args below meth c nL G A cells slots Q ws lv (pc + 3) (.int v :: st)) : V p l e R s m args below meth c nL G A cells slots Q ws lv pc (.int y :: .int x :: st) := by
  intro H locs ls hP hD hS hl
  obtain ⟨⟨hx, hb, hml, hown, hts⟩, hG, -⟩ := X
  subst hv
  exact va_mmin hx hb (by rw [hml]; exact hl.1.symm) hown (hts _ (List.mem_of_getElem? h1)) (hts _ (List.mem_of_getElem? h2)) (hts _ (List.mem_of_getElem? h3)) (hts _ (List.mem_of_getElem? h4)) hf hlo hc.1 hc.2 d (kk H locs ls hP hD hS hl)
theorem v_subw {ws' : va_W} (is : List Nat) (hn : va_nd is = true) (hs : is.map (fun i => ws[i]?) = ws'.map some) (kk : V p l e R s m args below meth c nL G A cells slots Q ws' lv pc st) : V p l e R s m args below meth c nL G A cells slots Q ws lv pc st :=
  fun H locs ls hP hD hS hl => kk H locs ls (hP.sub is (filterMap_of_map hs)) (hD.sub is hn hs) hS hl
/-! ### calls -/
/-- the callee's cells out of the caller's, and back -/
theorem v_out (X : VX p s m args meth c cc nL Ts own G A) {H : Heap} {locs : List Loc} (hP : va_P G vwCl ws H) (hD : va_D A ws) (hS : va_S A s.heap H locs) {wc : va_W} (isC : List Nat) (hC : isC.map (fun i => ws[i]?) = wc.map some) (hnC : va_nd isC = true) :
    (∀ q, va_A wc H.size q → A q) ∧ va_P G vwCl wc H ∧ ∀ U : State, U.heap = H → s.WarmedH U.vm → U.heap.size = H.size ∧ va_P G vwCl wc U.heap ∧ GX G (va_A wc H.size) U U.heap ∧ va_D (fun _ => True) wc := by
  obtain ⟨-, hG, hA, -⟩ := X
  have hF := va_free (wc := wc) hD hS hA isC hC
  have hPc := hP.sub (ws' := wc) isC (filterMap_of_map hC)
  have hDc := hD.sub (ws' := wc) isC hnC hC
  exact ⟨hF, hPc, fun U hU hW => ⟨by rw [hU], by rw [hU]; exact hPc, by rw [hU]; exact hG.to hS hW hF, hDc.weaken (fun _ _ _ _ => trivial)⟩⟩
theorem v_back {H H1 : Heap} {wc wr w1 wn : va_W} (hP : va_P G vwCl ws H) (hD : va_D A ws) (isC isR isP : List Nat) (hC : isC.map (fun i => ws[i]?) = wc.map some) (hR : isR.map (fun i => ws[i]?) = wr.map some) (hn : va_nd isR = true) (hdis : ∀ i ∈ isR, i ∉ isC) (hk : ∀ q : Nat, q < H.size → ¬ va_A wc H.size q → H1[q]? = H[q]?) (hF : ∀ q, va_A wc H.size q → A q) (hP1 : va_P G vwCl w1 H1) (hD1 : va_D (va_A wc H.size) w1) (hnP : va_nd isP = true) (hPm : isP.map (fun i => (wr ++ w1)[i]?) = wn.map some) : va_P G vwCl wn H1 ∧ va_D A wn := by
  obtain ⟨a, b⟩ := va_join (wr := wr) (w1 := w1) hP hD isC isR hC hR hn hdis hk hF hP1 hD1
  exact ⟨a.sub isP (filterMap_of_map hPm), b.sub isP hnP hPm⟩
/-- where the callee's cells lie, and how they come back: places out, the rest's places, places in the joined list -/
def VJ {S : Type} (ws wc wr : va_W) (isC isR isP : List Nat) (wo wn : S → va_W) : Prop := isC.map (fun i => ws[i]?) = wc.map some ∧ va_nd isC = true ∧ isR.map (fun i => ws[i]?) = wr.map some ∧ va_nd isR = true ∧ (∀ i ∈ isR, i ∉ isC) ∧ va_nd isP = true ∧ ∀ u : S, isP.map (fun i => (wr ++ wo u)[i]?) = (wn u).map some
theorem v_callVi (X : VX p s m args meth c cc nL Ts own G A) {y : MethodName} {bytes : ByteArray} {maxL mc ms n index : Nat} {ret : Option FieldType} {wsY wsY' : List Cond} {rm : Room} {As rest : List Value} {S : Type} {wo wn : S → va_W} {wc wr : va_W} {isC isR isP : List Nat} {C : String} {b ci N : Nat} {fs : List Value} {T : u_T} {post : Int32 → S → Prop} (hM : Ki l y wsY rm mc ms G wc (.ref b :: As) post wo) (hG : GoodIn Ts (wsV own index C y wsY)) (hw : wsY = Cond.code y bytes maxL ret :: wsY') (hrc : rm.cells = mc) (hrs : rm.slots = ms) (hd : y.cls = C ∧ y.cls ≠ "java/lang/invoke/MethodHandle" ∧ y.cls ≠ "java/lang/invoke/VarHandle" ∧ (parseMethodDescriptor y.desc).map (fun d => d.parameters.length) = some n) (hR : rm.frames + 1 ≤ R.frames ∧ 8 + (maxL + 11) + rm.locals ≤ R.locals) (d : decode cc pc = .ok (.invokevirtual index, 3)) (hn : As.length = n) (hst : st = As.reverse ++ .ref b :: rest) (hcat : (rest.map fun v => v.category).sum ≤ 8) (hroom : cells + mc ≤ R.cells ∧ slots + ms ≤ R.slots) (q0 : Nat) (hq0 : wc[q0]? = some (b, .inr (ci, fs))) (hci : vwCl[ci]? = some (C, T, N)) (hJ : VJ ws wc wr isC isR isP wo wn) (kk : ∀ (r : Int32) (u : S), post r u → V p l e R s m args below meth c nL G A (cells + mc) (slots + ms) Q (wn u) lv (pc + 3) (.int r :: rest)) : V p l e R s m args below meth c nL G A cells slots Q ws lv pc st := by
  intro H locs ls hP hD hS hl
  obtain ⟨hC, hnC, hRr, hnR, hdis, hnP, hPm⟩ := hJ
  obtain ⟨hF, hPc, hU9⟩ := v_out X hP hD hS isC hC hnC
  obtain ⟨⟨hx, hb, hml, hown, hts⟩, hG9, hA, -⟩ := X
  subst hst
  refine va_calli (va_runV (cc := cc) (nL := nL) (Ts := Ts) (own := own) (As := As) (rest := rest) ⟨hx, hb, hml, hown, hts⟩ (hM H.size) (cwV n hts hG hw hrc hrs hd hR) ⟨KPc.blind, va_recv hG9.1 hPc hci hq0, fun U hU hW => ⟨rfl, hU9 U hU hW⟩⟩ rfl hn hl.1 rfl (lv_room hcat) d hroom) hS (fun q _ h => hF q h) hF (fun r u t H1 locs1 ht hvm hw hB hz1 hk1 hS1 => ?_)
  obtain ⟨hP1, hD1⟩ := hB
  rw [ht] at hP1
  obtain ⟨hP2, hD2⟩ := v_back hP hD isC isR isP hC hRr hnR hdis hk1 hF hP1 hD1 hnP (hPm u)
  exact kk r u hw H1 locs1 ls hP2 hD2 hS1 hl
theorem v_callSi (X : VX p s m args meth c cc nL Ts own G A) {y : MethodName} {bytes : ByteArray} {maxL mc ms n index : Nat} {ret : Option FieldType} {wsY wsY' : List Cond} {rm : Room} {As rest : List Value} {S : Type} {wo wn : S → va_W} {wc wr : va_W} {isC isR isP : List Nat}  {post : Int32 → S → Prop} (hM : Ki l y wsY rm mc ms G wc As post wo) (hG : GoodIn Ts (va_wsS own index y wsY)) (hw : wsY = Cond.code y bytes maxL ret :: wsY') (hrc : rm.cells = mc) (hrs : rm.slots = ms) (hd : y.cls ≠ "java/lang/invoke/MethodHandle" ∧ y.cls ≠ "java/lang/invoke/VarHandle" ∧ (parseMethodDescriptor y.desc).map (fun d => d.parameters.length) = some n) (hR : rm.frames + 1 ≤ R.frames ∧ 8 + (maxL + 11) + rm.locals ≤ R.locals) (d : decode cc pc = .ok (.invokestatic index, 3)) (hn : As.length = n) (hst : st = As.reverse ++ rest) (hcat : (rest.map fun v => v.category).sum ≤ 8) (hroom : cells + mc ≤ R.cells ∧ slots + ms ≤ R.slots)  (hJ : VJ ws wc wr isC isR isP wo wn) (kk : ∀ (r : Int32) (u : S), post r u → V p l e R s m args below meth c nL G A (cells + mc) (slots + ms) Q (wn u) lv (pc + 3) (.int r :: rest)) : V p l e R s m args below meth c nL G A cells slots Q ws lv pc st := by
  intro H locs ls hP hD hS hl
  obtain ⟨hC, hnC, hRr, hnR, hdis, hnP, hPm⟩ := hJ
  obtain ⟨hF, hPc, hU9⟩ := v_out X hP hD hS isC hC hnC
  obtain ⟨⟨hx, hb, hml, hown, hts⟩, hG9, hA, -⟩ := X
  subst hst
  refine va_calli (va_runS (cc := cc) (nL := nL) (Ts := Ts) (own := own) (As := As) (rest := rest) ⟨hx, hb, hml, hown, hts⟩ (hM H.size) (va_cwS n hts hG hw hrc hrs hd hR) ⟨KPc.blind, fun U hU hW => ⟨rfl, hU9 U hU hW⟩⟩ rfl hn hl.1 rfl (lv_room hcat) d hroom) hS (fun q _ h => hF q h) hF (fun r u t H1 locs1 ht hvm hw hB hz1 hk1 hS1 => ?_)
  obtain ⟨hP1, hD1⟩ := hB
  rw [ht] at hP1
  obtain ⟨hP2, hD2⟩ := v_back hP hD isC isR isP hC hRr hnR hdis hk1 hF hP1 hD1 hnP (hPm u)
  exact kk r u hw H1 locs1 ls hP2 hD2 hS1 hl
theorem v_callVv (X : VX p s m args meth c cc nL Ts own G A) {y : MethodName} {bytes : ByteArray} {maxL mc ms n index : Nat} {ret : Option FieldType} {wsY wsY' : List Cond} {rm : Room} {As rest : List Value} {S : Type} {wo wn : S → va_W} {wc wr : va_W} {isC isR isP : List Nat} {C : String} {b ci N : Nat} {fs : List Value} {T : u_T} {post : S → Prop} (hM : Kv l y wsY rm mc ms G wc (.ref b :: As) post wo) (hG : GoodIn Ts (wsV own index C y wsY)) (hw : wsY = Cond.code y bytes maxL ret :: wsY') (hrc : rm.cells = mc) (hrs : rm.slots = ms) (hd : y.cls = C ∧ y.cls ≠ "java/lang/invoke/MethodHandle" ∧ y.cls ≠ "java/lang/invoke/VarHandle" ∧ (parseMethodDescriptor y.desc).map (fun d => d.parameters.length) = some n) (hR : rm.frames + 1 ≤ R.frames ∧ 8 + (maxL + 11) + rm.locals ≤ R.locals) (d : decode cc pc = .ok (.invokevirtual index, 3)) (hn : As.length = n) (hst : st = As.reverse ++ .ref b :: rest) (hcat : (rest.map fun v => v.category).sum ≤ 8) (hroom : cells + mc ≤ R.cells ∧ slots + ms ≤ R.slots) (q0 : Nat) (hq0 : wc[q0]? = some (b, .inr (ci, fs))) (hci : vwCl[ci]? = some (C, T, N)) (hJ : VJ ws wc wr isC isR isP wo wn) (kk : ∀ u : S, post u → V p l e R s m args below meth c nL G A (cells + mc) (slots + ms) Q (wn u) lv (pc + 3) rest) : V p l e R s m args below meth c nL G A cells slots Q ws lv pc st := by
  intro H locs ls hP hD hS hl
  obtain ⟨hC, hnC, hRr, hnR, hdis, hnP, hPm⟩ := hJ
  obtain ⟨hF, hPc, hU9⟩ := v_out X hP hD hS isC hC hnC
  obtain ⟨⟨hx, hb, hml, hown, hts⟩, hG9, hA, -⟩ := X
  subst hst
  refine va_callv (va_runV (cc := cc) (nL := nL) (Ts := Ts) (own := own) (As := As) (rest := rest) ⟨hx, hb, hml, hown, hts⟩ (hM H.size) (cwV n hts hG hw hrc hrs hd hR) ⟨KPc.blind, va_recv hG9.1 hPc hci hq0, fun U hU hW => ⟨rfl, hU9 U hU hW⟩⟩ rfl hn hl.1 rfl (lv_room hcat) d hroom) hS (fun q _ h => hF q h) hF (fun u t H1 locs1 ht hvm hw hB hz1 hk1 hS1 => ?_)
  obtain ⟨hP1, hD1⟩ := hB
  rw [ht] at hP1
  obtain ⟨hP2, hD2⟩ := v_back hP hD isC isR isP hC hRr hnR hdis hk1 hF hP1 hD1 hnP (hPm u)
  exact kk u hw H1 locs1 ls hP2 hD2 hS1 hl
theorem v_callSv (X : VX p s m args meth c cc nL Ts own G A) {y : MethodName} {bytes : ByteArray} {maxL mc ms n index : Nat} {ret : Option FieldType} {wsY wsY' : List Cond} {rm : Room} {As rest : List Value} {S : Type} {wo wn : S → va_W} {wc wr : va_W} {isC isR isP : List Nat}  {post : S → Prop} (hM : Kv l y wsY rm mc ms G wc As post wo) (hG : GoodIn Ts (va_wsS own index y wsY)) (hw : wsY = Cond.code y bytes maxL ret :: wsY') (hrc : rm.cells = mc) (hrs : rm.slots = ms) (hd : y.cls ≠ "java/lang/invoke/MethodHandle" ∧ y.cls ≠ "java/lang/invoke/VarHandle" ∧ (parseMethodDescriptor y.desc).map (fun d => d.parameters.length) = some n) (hR : rm.frames + 1 ≤ R.frames ∧ 8 + (maxL + 11) + rm.locals ≤ R.locals) (d : decode cc pc = .ok (.invokestatic index, 3)) (hn : As.length = n) (hst : st = As.reverse ++ rest) (hcat : (rest.map fun v => v.category).sum ≤ 8) (hroom : cells + mc ≤ R.cells ∧ slots + ms ≤ R.slots)  (hJ : VJ ws wc wr isC isR isP wo wn) (kk : ∀ u : S, post u → V p l e R s m args below meth c nL G A (cells + mc) (slots + ms) Q (wn u) lv (pc + 3) rest) : V p l e R s m args below meth c nL G A cells slots Q ws lv pc st := by
  intro H locs ls hP hD hS hl
  obtain ⟨hC, hnC, hRr, hnR, hdis, hnP, hPm⟩ := hJ
  obtain ⟨hF, hPc, hU9⟩ := v_out X hP hD hS isC hC hnC
  obtain ⟨⟨hx, hb, hml, hown, hts⟩, hG9, hA, -⟩ := X
  subst hst
  refine va_callv (va_runS (cc := cc) (nL := nL) (Ts := Ts) (own := own) (As := As) (rest := rest) ⟨hx, hb, hml, hown, hts⟩ (hM H.size) (va_cwS n hts hG hw hrc hrs hd hR) ⟨KPc.blind, fun U hU hW => ⟨rfl, hU9 U hU hW⟩⟩ rfl hn hl.1 rfl (lv_room hcat) d hroom) hS (fun q _ h => hF q h) hF (fun u t H1 locs1 ht hvm hw hB hz1 hk1 hS1 => ?_)
  obtain ⟨hP1, hD1⟩ := hB
  rw [ht] at hP1
  obtain ⟨hP2, hD2⟩ := v_back hP hD isC isR isP hC hRr hnR hdis hk1 hF hP1 hD1 hnP (hPm u)
  exact kk u hw H1 locs1 ls hP2 hD2 hS1 hl
theorem v_callIv (X : VX p s m args meth c cc nL Ts own G A) {y : MethodName} {bytes : ByteArray} {maxL mc ms n index : Nat} {wsY wsY' : List Cond} {rm : Room} {As rest : List Value} {S : Type} {wo wn : S → va_W} {wc wr : va_W} {isC isR isP : List Nat} {b i1 i2 i3 : Nat} {post : S → Prop} (hM : Kv l y wsY rm mc ms G wc (.ref b :: As) post wo) (hG : GoodIn Ts wsY) (h1 : Ts[i1]? = some (Cond.initialized y.cls)) (h2 : Ts[i2]? = some (Cond.methodLink own index y)) (h3 : Ts[i3]? = some (Cond.instanceMethod y)) (hy1 : y.name = "<init>") (hw : wsY = Cond.code y bytes maxL none :: wsY') (hrc : rm.cells = mc) (hrs : rm.slots = ms) (hd : y.cls ≠ "java/lang/invoke/MethodHandle" ∧ y.cls ≠ "java/lang/invoke/VarHandle" ∧ (parseMethodDescriptor y.desc).map (fun d => d.parameters.length) = some n) (hR : rm.frames + 1 ≤ R.frames ∧ 8 + (maxL + 11) + rm.locals ≤ R.locals) (d : decode cc pc = .ok (.invokespecial index, 3)) (hn : As.length = n) (hst : st = As.reverse ++ .ref b :: rest) (hcat : (rest.map fun v => v.category).sum ≤ 8) (hroom : cells + mc ≤ R.cells ∧ slots + ms ≤ R.slots)  (hJ : VJ ws wc wr isC isR isP wo wn) (kk : ∀ u : S, post u → V p l e R s m args below meth c nL G A (cells + mc) (slots + ms) Q (wn u) lv (pc + 3) rest) : V p l e R s m args below meth c nL G A cells slots Q ws lv pc st := by
  intro H locs ls hP hD hS hl
  obtain ⟨hC, hnC, hRr, hnR, hdis, hnP, hPm⟩ := hJ
  obtain ⟨hF, hPc, hU9⟩ := v_out X hP hD hS isC hC hnC
  obtain ⟨⟨hx, hb, hml, hown, hts⟩, hG9, hA, -⟩ := X
  subst hst
  refine va_callv (va_runI (cc := cc) (nL := nL) (Ts := Ts) (own := own) (As := As) (rest := rest) ⟨hx, hb, hml, hown, hts⟩ (hM H.size) (cwI n hts hG hw hrc hrs (hts _ (List.mem_of_getElem? h1)) (hts _ (List.mem_of_getElem? h2)) (hts _ (List.mem_of_getElem? h3)) hy1 hd hR) ⟨KPc.blind, fun U hU hW => ⟨rfl, hU9 U hU hW⟩⟩ rfl hn hl.1 rfl (lv_room hcat) d hroom) hS (fun q _ h => hF q h) hF (fun u t H1 locs1 ht hvm hw hB hz1 hk1 hS1 => ?_)
  obtain ⟨hP1, hD1⟩ := hB
  rw [ht] at hP1
  obtain ⟨hP2, hD2⟩ := v_back hP hD isC isR isP hC hRr hnR hdis hk1 hF hP1 hD1 hnP (hPm u)
  exact kk u hw H1 locs1 ls hP2 hD2 hS1 hl
theorem v_callUi (X : VX p s m args meth c cc nL Ts own G A) {y : MethodName} {bytes : ByteArray} {maxL mc ms n index : Nat} {ret : Option FieldType} {wsY wsY' : List Cond} {rm : Room} {As rest : List Value} {S : Type} {wc wr : va_W} {isC isR isP : List Nat} {wo wn : S → va_W} {C : String} {b ci N : Nat} {fs : List Value} {T : u_T} {owner : String} {x : MethodName} {post : Int32 → S → Prop} (hM : Ki l y wsY rm mc ms G wc (.ref b :: As) post wo) (hG : GoodIn Ts (va_wsU own index C owner x y wsY)) (hyx : y = ⟨owner, x.name, x.desc⟩) (hw : wsY = Cond.code y bytes maxL ret :: wsY') (hrc : rm.cells = mc) (hrs : rm.slots = ms) (hd : owner ≠ "java/lang/invoke/MethodHandle" ∧ owner ≠ "java/lang/invoke/VarHandle" ∧ (parseMethodDescriptor x.desc).map (fun d => d.parameters.length) = some n) (hR : rm.frames + 1 ≤ R.frames ∧ 8 + (maxL + 11) + rm.locals ≤ R.locals) (d : decode cc pc = .ok (.invokevirtual index, 3)) (hn : As.length = n) (hst : st = As.reverse ++ .ref b :: rest) (hcat : (rest.map fun v => v.category).sum ≤ 8) (hroom : cells + mc ≤ R.cells ∧ slots + ms ≤ R.slots) (q0 : Nat) (hq0 : wc[q0]? = some (b, .inr (ci, fs))) (hci : vwCl[ci]? = some (C, T, N)) (hJ : VJ ws wc wr isC isR isP wo wn) (kk : ∀ (r : Int32) (u : S), post r u → V p l e R s m args below meth c nL G A (cells + mc) (slots + ms) Q (wn u) lv (pc + 3) (.int r :: rest)) : V p l e R s m args below meth c nL G A cells slots Q ws lv pc st := by
  intro H locs ls hP hD hS hl
  obtain ⟨hC, hnC, hRr, hnR, hdis, hnP, hPm⟩ := hJ
  obtain ⟨hF, hPc, hU9⟩ := v_out X hP hD hS isC hC hnC
  obtain ⟨⟨hx, hb, hml, hown, hts⟩, hG9, hA, -⟩ := X
  subst hst
  refine va_calli (va_runU (cc := cc) (nL := nL) (Ts := Ts) (own := own) (As := As) (rest := rest) ⟨hx, hb, hml, hown, hts⟩ (hM H.size) (va_cwU n hts hG hw hrc hrs hyx hd hR) ⟨KPc.blind, va_recv hG9.1 hPc hci hq0, fun U hU hW => ⟨rfl, hU9 U hU hW⟩⟩ rfl hn hl.1 rfl (lv_room hcat) d hroom) hS (fun q _ h => hF q h) hF (fun r u t H1 locs1 ht hvm hw hB hz1 hk1 hS1 => ?_)
  obtain ⟨hP1, hD1⟩ := hB
  rw [ht] at hP1
  obtain ⟨hP2, hD2⟩ := v_back hP hD isC isR isP hC hRr hnR hdis hk1 hF hP1 hD1 hnP (hPm u)
  exact kk r u hw H1 locs1 ls hP2 hD2 hS1 hl
theorem v_callSUi (X : VX p s m args meth c cc nL Ts own G A) {y : MethodName} {bytes : ByteArray} {maxL mc ms n index : Nat} {ret : Option FieldType} {wsY wsY' : List Cond} {rm : Room} {As rest : List Value} {S : Type} {wc wr : va_W} {isC isR isP : List Nat} {wo wn : S → va_W} {C : String} {b ci N : Nat} {fs : List Value} {T : u_T} {post : Int32 → S → Prop} (hM : Ki l y wsY rm mc ms G wc (.ref b :: As) post wo) (hG : GoodIn Ts (va_wsSU own index y wsY)) (hw : wsY = Cond.code y bytes maxL ret :: wsY') (hrc : rm.cells = mc) (hrs : rm.slots = ms) (hd : y.name ≠ "<init>" ∧ (parseMethodDescriptor y.desc).map (fun d => d.parameters.length) = some n) (hR : rm.frames + 1 ≤ R.frames ∧ 8 + (maxL + 11) + rm.locals ≤ R.locals) (d : decode cc pc = .ok (.invokespecial index, 3)) (hn : As.length = n) (hst : st = As.reverse ++ .ref b :: rest) (hcat : (rest.map fun v => v.category).sum ≤ 8) (hroom : cells + mc ≤ R.cells ∧ slots + ms ≤ R.slots) (q0 : Nat) (hq0 : wc[q0]? = some (b, .inr (ci, fs))) (hci : vwCl[ci]? = some (C, T, N)) (hJ : VJ ws wc wr isC isR isP wo wn) (kk : ∀ (r : Int32) (u : S), post r u → V p l e R s m args below meth c nL G A (cells + mc) (slots + ms) Q (wn u) lv (pc + 3) (.int r :: rest)) : V p l e R s m args below meth c nL G A cells slots Q ws lv pc st := by
  intro H locs ls hP hD hS hl
  obtain ⟨hC, hnC, hRr, hnR, hdis, hnP, hPm⟩ := hJ
  obtain ⟨hF, hPc, hU9⟩ := v_out X hP hD hS isC hC hnC
  obtain ⟨⟨hx, hb, hml, hown, hts⟩, hG9, hA, -⟩ := X
  subst hst
  refine va_calli (va_runSU (hG9.1.1 ci _ hci).2 (cc := cc) (nL := nL) (Ts := Ts) (own := own) (As := As) (rest := rest) ⟨hx, hb, hml, hown, hts⟩ (hM H.size) (va_cwSU n hts hG hw hrc hrs hd hR) ⟨KPc.blind, va_recv hG9.1 hPc hci hq0, fun U hU hW => ⟨rfl, hU9 U hU hW⟩⟩ rfl hn hl.1 rfl (lv_room hcat) d hroom) hS (fun q _ h => hF q h) hF (fun r u t H1 locs1 ht hvm hw hB hz1 hk1 hS1 => ?_)
  obtain ⟨hP1, hD1⟩ := hB
  rw [ht] at hP1
  obtain ⟨hP2, hD2⟩ := v_back hP hD isC isR isP hC hRr hnR hdis hk1 hF hP1 hD1 hnP (hPm u)
  exact kk r u hw H1 locs1 ls hP2 hD2 hS1 hl
theorem v_callUv (X : VX p s m args meth c cc nL Ts own G A) {y : MethodName} {bytes : ByteArray} {maxL mc ms n index : Nat} {ret : Option FieldType} {wsY wsY' : List Cond} {rm : Room} {As rest : List Value} {S : Type} {wc wr : va_W} {isC isR isP : List Nat} {wo wn : S → va_W} {C : String} {b ci N : Nat} {fs : List Value} {T : u_T} {owner : String} {x : MethodName} {post : S → Prop} (hM : Kv l y wsY rm mc ms G wc (.ref b :: As) post wo) (hG : GoodIn Ts (va_wsU own index C owner x y wsY)) (hyx : y = ⟨owner, x.name, x.desc⟩) (hw : wsY = Cond.code y bytes maxL ret :: wsY') (hrc : rm.cells = mc) (hrs : rm.slots = ms) (hd : owner ≠ "java/lang/invoke/MethodHandle" ∧ owner ≠ "java/lang/invoke/VarHandle" ∧ (parseMethodDescriptor x.desc).map (fun d => d.parameters.length) = some n) (hR : rm.frames + 1 ≤ R.frames ∧ 8 + (maxL + 11) + rm.locals ≤ R.locals) (d : decode cc pc = .ok (.invokevirtual index, 3)) (hn : As.length = n) (hst : st = As.reverse ++ .ref b :: rest) (hcat : (rest.map fun v => v.category).sum ≤ 8) (hroom : cells + mc ≤ R.cells ∧ slots + ms ≤ R.slots) (q0 : Nat) (hq0 : wc[q0]? = some (b, .inr (ci, fs))) (hci : vwCl[ci]? = some (C, T, N)) (hJ : VJ ws wc wr isC isR isP wo wn) (kk : ∀ u : S, post u → V p l e R s m args below meth c nL G A (cells + mc) (slots + ms) Q (wn u) lv (pc + 3) rest) : V p l e R s m args below meth c nL G A cells slots Q ws lv pc st := by
  intro H locs ls hP hD hS hl
  obtain ⟨hC, hnC, hRr, hnR, hdis, hnP, hPm⟩ := hJ
  obtain ⟨hF, hPc, hU9⟩ := v_out X hP hD hS isC hC hnC
  obtain ⟨⟨hx, hb, hml, hown, hts⟩, hG9, hA, -⟩ := X
  subst hst
  refine va_callv (va_runU (cc := cc) (nL := nL) (Ts := Ts) (own := own) (As := As) (rest := rest) ⟨hx, hb, hml, hown, hts⟩ (hM H.size) (va_cwU n hts hG hw hrc hrs hyx hd hR) ⟨KPc.blind, va_recv hG9.1 hPc hci hq0, fun U hU hW => ⟨rfl, hU9 U hU hW⟩⟩ rfl hn hl.1 rfl (lv_room hcat) d hroom) hS (fun q _ h => hF q h) hF (fun u t H1 locs1 ht hvm hw hB hz1 hk1 hS1 => ?_)
  obtain ⟨hP1, hD1⟩ := hB
  rw [ht] at hP1
  obtain ⟨hP2, hD2⟩ := v_back hP hD isC isR isP hC hRr hnR hdis hk1 hF hP1 hD1 hnP (hPm u)
  exact kk u hw H1 locs1 ls hP2 hD2 hS1 hl
theorem v_callSUv (X : VX p s m args meth c cc nL Ts own G A) {y : MethodName} {bytes : ByteArray} {maxL mc ms n index : Nat} {ret : Option FieldType} {wsY wsY' : List Cond} {rm : Room} {As rest : List Value} {S : Type} {wc wr : va_W} {isC isR isP : List Nat} {wo wn : S → va_W} {C : String} {b ci N : Nat} {fs : List Value} {T : u_T} {post : S → Prop} (hM : Kv l y wsY rm mc ms G wc (.ref b :: As) post wo) (hG : GoodIn Ts (va_wsSU own index y wsY)) (hw : wsY = Cond.code y bytes maxL ret :: wsY') (hrc : rm.cells = mc) (hrs : rm.slots = ms) (hd : y.name ≠ "<init>" ∧ (parseMethodDescriptor y.desc).map (fun d => d.parameters.length) = some n) (hR : rm.frames + 1 ≤ R.frames ∧ 8 + (maxL + 11) + rm.locals ≤ R.locals) (d : decode cc pc = .ok (.invokespecial index, 3)) (hn : As.length = n) (hst : st = As.reverse ++ .ref b :: rest) (hcat : (rest.map fun v => v.category).sum ≤ 8) (hroom : cells + mc ≤ R.cells ∧ slots + ms ≤ R.slots) (q0 : Nat) (hq0 : wc[q0]? = some (b, .inr (ci, fs))) (hci : vwCl[ci]? = some (C, T, N)) (hJ : VJ ws wc wr isC isR isP wo wn) (kk : ∀ u : S, post u → V p l e R s m args below meth c nL G A (cells + mc) (slots + ms) Q (wn u) lv (pc + 3) rest) : V p l e R s m args below meth c nL G A cells slots Q ws lv pc st := by
  intro H locs ls hP hD hS hl
  obtain ⟨hC, hnC, hRr, hnR, hdis, hnP, hPm⟩ := hJ
  obtain ⟨hF, hPc, hU9⟩ := v_out X hP hD hS isC hC hnC
  obtain ⟨⟨hx, hb, hml, hown, hts⟩, hG9, hA, -⟩ := X
  subst hst
  refine va_callv (va_runSU (hG9.1.1 ci _ hci).2 (cc := cc) (nL := nL) (Ts := Ts) (own := own) (As := As) (rest := rest) ⟨hx, hb, hml, hown, hts⟩ (hM H.size) (va_cwSU n hts hG hw hrc hrs hd hR) ⟨KPc.blind, va_recv hG9.1 hPc hci hq0, fun U hU hW => ⟨rfl, hU9 U hU hW⟩⟩ rfl hn hl.1 rfl (lv_room hcat) d hroom) hS (fun q _ h => hF q h) hF (fun u t H1 locs1 ht hvm hw hB hz1 hk1 hS1 => ?_)
  obtain ⟨hP1, hD1⟩ := hB
  rw [ht] at hP1
  obtain ⟨hP2, hD2⟩ := v_back hP hD isC isR isP hC hRr hnR hdis hk1 hF hP1 hD1 hnP (hPm u)
  exact kk u hw H1 locs1 ls hP2 hD2 hS1 hl
theorem v_callVr (X : VX p s m args meth c cc nL Ts own G A) {y : MethodName} {bytes : ByteArray} {maxL mc ms n index : Nat} {ret : Option FieldType} {wsY wsY' : List Cond} {rm : Room} {As rest : List Value} {S : Type} {wc wr : va_W} {isC isR isP : List Nat} {wo wn : S → Nat → va_W} {C : String} {b ci N : Nat} {fs : List Value} {T : u_T} {post : S → Prop} (hM : Kr l y wsY rm mc ms G wc (.ref b :: As) post wo) (hG : GoodIn Ts (wsV own index C y wsY)) (hw : wsY = Cond.code y bytes maxL ret :: wsY') (hrc : rm.cells = mc) (hrs : rm.slots = ms) (hd : y.cls = C ∧ y.cls ≠ "java/lang/invoke/MethodHandle" ∧ y.cls ≠ "java/lang/invoke/VarHandle" ∧ (parseMethodDescriptor y.desc).map (fun d => d.parameters.length) = some n) (hR : rm.frames + 1 ≤ R.frames ∧ 8 + (maxL + 11) + rm.locals ≤ R.locals) (d : decode cc pc = .ok (.invokevirtual index, 3)) (hn : As.length = n) (hst : st = As.reverse ++ .ref b :: rest) (hcat : (rest.map fun v => v.category).sum ≤ 8) (hroom : cells + mc ≤ R.cells ∧ slots + ms ≤ R.slots) (q0 : Nat) (hq0 : wc[q0]? = some (b, .inr (ci, fs))) (hci : vwCl[ci]? = some (C, T, N)) (hJ : VJ ws wc wr isC isR isP (fun q : S × Nat => wo q.1 q.2) (fun q : S × Nat => wn q.1 q.2)) (kk : ∀ (u : S) (ra : Nat), post u → V p l e R s m args below meth c nL G A (cells + mc) (slots + ms) Q (wn u ra) lv (pc + 3) (.ref ra :: rest)) : V p l e R s m args below meth c nL G A cells slots Q ws lv pc st := by
  intro H locs ls hP hD hS hl
  obtain ⟨hC, hnC, hRr, hnR, hdis, hnP, hPm⟩ := hJ
  obtain ⟨hF, hPc, hU9⟩ := v_out X hP hD hS isC hC hnC
  obtain ⟨⟨hx, hb, hml, hown, hts⟩, hG9, hA, -⟩ := X
  subst hst
  refine va_callr (va_runV (cc := cc) (nL := nL) (Ts := Ts) (own := own) (As := As) (rest := rest) ⟨hx, hb, hml, hown, hts⟩ (hM H.size) (cwV n hts hG hw hrc hrs hd hR) ⟨KPc.blind, va_recv hG9.1 hPc hci hq0, fun U hU hW => ⟨rfl, hU9 U hU hW⟩⟩ rfl hn hl.1 rfl (lv_room hcat) d hroom) hS (fun q _ h => hF q h) hF (fun u ra t H1 locs1 ht hvm hw hB hz1 hk1 hS1 => ?_)
  obtain ⟨hP1, hD1⟩ := hB
  rw [ht] at hP1
  obtain ⟨hP2, hD2⟩ := v_back hP hD isC isR isP hC hRr hnR hdis hk1 hF hP1 hD1 hnP (hPm (u, ra))
  exact kk u ra hw H1 locs1 ls hP2 hD2 hS1 hl
theorem v_callSr (X : VX p s m args meth c cc nL Ts own G A) {y : MethodName} {bytes : ByteArray} {maxL mc ms n index : Nat} {ret : Option FieldType} {wsY wsY' : List Cond} {rm : Room} {As rest : List Value} {S : Type} {wc wr : va_W} {isC isR isP : List Nat} {wo wn : S → Nat → va_W}  {post : S → Prop} (hM : Kr l y wsY rm mc ms G wc As post wo) (hG : GoodIn Ts (va_wsS own index y wsY)) (hw : wsY = Cond.code y bytes maxL ret :: wsY') (hrc : rm.cells = mc) (hrs : rm.slots = ms) (hd : y.cls ≠ "java/lang/invoke/MethodHandle" ∧ y.cls ≠ "java/lang/invoke/VarHandle" ∧ (parseMethodDescriptor y.desc).map (fun d => d.parameters.length) = some n) (hR : rm.frames + 1 ≤ R.frames ∧ 8 + (maxL + 11) + rm.locals ≤ R.locals) (d : decode cc pc = .ok (.invokestatic index, 3)) (hn : As.length = n) (hst : st = As.reverse ++ rest) (hcat : (rest.map fun v => v.category).sum ≤ 8) (hroom : cells + mc ≤ R.cells ∧ slots + ms ≤ R.slots)  (hJ : VJ ws wc wr isC isR isP (fun q : S × Nat => wo q.1 q.2) (fun q : S × Nat => wn q.1 q.2)) (kk : ∀ (u : S) (ra : Nat), post u → V p l e R s m args below meth c nL G A (cells + mc) (slots + ms) Q (wn u ra) lv (pc + 3) (.ref ra :: rest)) : V p l e R s m args below meth c nL G A cells slots Q ws lv pc st := by
  intro H locs ls hP hD hS hl
  obtain ⟨hC, hnC, hRr, hnR, hdis, hnP, hPm⟩ := hJ
  obtain ⟨hF, hPc, hU9⟩ := v_out X hP hD hS isC hC hnC
  obtain ⟨⟨hx, hb, hml, hown, hts⟩, hG9, hA, -⟩ := X
  subst hst
  refine va_callr (va_runS (cc := cc) (nL := nL) (Ts := Ts) (own := own) (As := As) (rest := rest) ⟨hx, hb, hml, hown, hts⟩ (hM H.size) (va_cwS n hts hG hw hrc hrs hd hR) ⟨KPc.blind, fun U hU hW => ⟨rfl, hU9 U hU hW⟩⟩ rfl hn hl.1 rfl (lv_room hcat) d hroom) hS (fun q _ h => hF q h) hF (fun u ra t H1 locs1 ht hvm hw hB hz1 hk1 hS1 => ?_)
  obtain ⟨hP1, hD1⟩ := hB
  rw [ht] at hP1
  obtain ⟨hP2, hD2⟩ := v_back hP hD isC isR isP hC hRr hnR hdis hk1 hF hP1 hD1 hnP (hPm (u, ra))
  exact kk u ra hw H1 locs1 ls hP2 hD2 hS1 hl
theorem v_callUr (X : VX p s m args meth c cc nL Ts own G A) {y : MethodName} {bytes : ByteArray} {maxL mc ms n index : Nat} {ret : Option FieldType} {wsY wsY' : List Cond} {rm : Room} {As rest : List Value} {S : Type} {wc wr : va_W} {isC isR isP : List Nat} {wo wn : S → Nat → va_W} {C : String} {b ci N : Nat} {fs : List Value} {T : u_T} {owner : String} {x : MethodName} {post : S → Prop} (hM : Kr l y wsY rm mc ms G wc (.ref b :: As) post wo) (hG : GoodIn Ts (va_wsU own index C owner x y wsY)) (hyx : y = ⟨owner, x.name, x.desc⟩) (hw : wsY = Cond.code y bytes maxL ret :: wsY') (hrc : rm.cells = mc) (hrs : rm.slots = ms) (hd : owner ≠ "java/lang/invoke/MethodHandle" ∧ owner ≠ "java/lang/invoke/VarHandle" ∧ (parseMethodDescriptor x.desc).map (fun d => d.parameters.length) = some n) (hR : rm.frames + 1 ≤ R.frames ∧ 8 + (maxL + 11) + rm.locals ≤ R.locals) (d : decode cc pc = .ok (.invokevirtual index, 3)) (hn : As.length = n) (hst : st = As.reverse ++ .ref b :: rest) (hcat : (rest.map fun v => v.category).sum ≤ 8) (hroom : cells + mc ≤ R.cells ∧ slots + ms ≤ R.slots) (q0 : Nat) (hq0 : wc[q0]? = some (b, .inr (ci, fs))) (hci : vwCl[ci]? = some (C, T, N)) (hJ : VJ ws wc wr isC isR isP (fun q : S × Nat => wo q.1 q.2) (fun q : S × Nat => wn q.1 q.2)) (kk : ∀ (u : S) (ra : Nat), post u → V p l e R s m args below meth c nL G A (cells + mc) (slots + ms) Q (wn u ra) lv (pc + 3) (.ref ra :: rest)) : V p l e R s m args below meth c nL G A cells slots Q ws lv pc st := by
  intro H locs ls hP hD hS hl
  obtain ⟨hC, hnC, hRr, hnR, hdis, hnP, hPm⟩ := hJ
  obtain ⟨hF, hPc, hU9⟩ := v_out X hP hD hS isC hC hnC
  obtain ⟨⟨hx, hb, hml, hown, hts⟩, hG9, hA, -⟩ := X
  subst hst
  refine va_callr (va_runU (cc := cc) (nL := nL) (Ts := Ts) (own := own) (As := As) (rest := rest) ⟨hx, hb, hml, hown, hts⟩ (hM H.size) (va_cwU n hts hG hw hrc hrs hyx hd hR) ⟨KPc.blind, va_recv hG9.1 hPc hci hq0, fun U hU hW => ⟨rfl, hU9 U hU hW⟩⟩ rfl hn hl.1 rfl (lv_room hcat) d hroom) hS (fun q _ h => hF q h) hF (fun u ra t H1 locs1 ht hvm hw hB hz1 hk1 hS1 => ?_)
  obtain ⟨hP1, hD1⟩ := hB
  rw [ht] at hP1
  obtain ⟨hP2, hD2⟩ := v_back hP hD isC isR isP hC hRr hnR hdis hk1 hF hP1 hD1 hnP (hPm (u, ra))
  exact kk u ra hw H1 locs1 ls hP2 hD2 hS1 hl
theorem v_callSUr (X : VX p s m args meth c cc nL Ts own G A) {y : MethodName} {bytes : ByteArray} {maxL mc ms n index : Nat} {ret : Option FieldType} {wsY wsY' : List Cond} {rm : Room} {As rest : List Value} {S : Type} {wc wr : va_W} {isC isR isP : List Nat} {wo wn : S → Nat → va_W} {C : String} {b ci N : Nat} {fs : List Value} {T : u_T} {post : S → Prop} (hM : Kr l y wsY rm mc ms G wc (.ref b :: As) post wo) (hG : GoodIn Ts (va_wsSU own index y wsY)) (hw : wsY = Cond.code y bytes maxL ret :: wsY') (hrc : rm.cells = mc) (hrs : rm.slots = ms) (hd : y.name ≠ "<init>" ∧ (parseMethodDescriptor y.desc).map (fun d => d.parameters.length) = some n) (hR : rm.frames + 1 ≤ R.frames ∧ 8 + (maxL + 11) + rm.locals ≤ R.locals) (d : decode cc pc = .ok (.invokespecial index, 3)) (hn : As.length = n) (hst : st = As.reverse ++ .ref b :: rest) (hcat : (rest.map fun v => v.category).sum ≤ 8) (hroom : cells + mc ≤ R.cells ∧ slots + ms ≤ R.slots) (q0 : Nat) (hq0 : wc[q0]? = some (b, .inr (ci, fs))) (hci : vwCl[ci]? = some (C, T, N)) (hJ : VJ ws wc wr isC isR isP (fun q : S × Nat => wo q.1 q.2) (fun q : S × Nat => wn q.1 q.2)) (kk : ∀ (u : S) (ra : Nat), post u → V p l e R s m args below meth c nL G A (cells + mc) (slots + ms) Q (wn u ra) lv (pc + 3) (.ref ra :: rest)) : V p l e R s m args below meth c nL G A cells slots Q ws lv pc st := by
  intro H locs ls hP hD hS hl
  obtain ⟨hC, hnC, hRr, hnR, hdis, hnP, hPm⟩ := hJ
  obtain ⟨hF, hPc, hU9⟩ := v_out X hP hD hS isC hC hnC
  obtain ⟨⟨hx, hb, hml, hown, hts⟩, hG9, hA, -⟩ := X
  subst hst
  refine va_callr (va_runSU (hG9.1.1 ci _ hci).2 (cc := cc) (nL := nL) (Ts := Ts) (own := own) (As := As) (rest := rest) ⟨hx, hb, hml, hown, hts⟩ (hM H.size) (va_cwSU n hts hG hw hrc hrs hd hR) ⟨KPc.blind, va_recv hG9.1 hPc hci hq0, fun U hU hW => ⟨rfl, hU9 U hU hW⟩⟩ rfl hn hl.1 rfl (lv_room hcat) d hroom) hS (fun q _ h => hF q h) hF (fun u ra t H1 locs1 ht hvm hw hB hz1 hk1 hS1 => ?_)
  obtain ⟨hP1, hD1⟩ := hB
  rw [ht] at hP1
  obtain ⟨hP2, hD2⟩ := v_back hP hD isC isR isP hC hRr hnR hdis hk1 hF hP1 hD1 hnP (hPm (u, ra))
  exact kk u ra hw H1 locs1 ls hP2 hD2 hS1 hl
/-! ### throws -/
abbrev xngL (cls : String) : List Cond := [.castable cls cls, .declares (Bundle.initS "java/lang/RuntimeException"), .declares (Bundle.initS "java/lang/Exception"), .declares (Bundle.initS Bundle.tN)]
abbrev xNames : List String := ["java/lang/RuntimeException", "java/lang/Exception"]
theorem v_throwS (X : VX p s m args meth c cc nL Ts own G A) (hfl : l.stackTraces = false) (ht : ∀ x ∈ c.exceptionTable.toList, False) {Qc : Array Value → State → Outcome → State → Prop} {wc : va_W} {pX : String → Prop} {cls text : String} {ik is ic i1 i2 mc ms : Nat} (hlit : (is, text) ∈ xLits) (hRX : own = RX3) (hcls : Bundle.fit cls = true) (h1 : Ts[i1]? = some (Cond.classLink own ik cls)) (h2 : Ts[i2]? = some (Cond.initialized cls)) (hat : ∀ w ∈ (vx_atS own ic cls xNames).filter goodWord, w ∈ Ts) (hng : ∀ w ∈ (vx_atS own ic cls xNames).filter (fun w => !goodWord w), w ∈ xngL cls) (hcast : (Cond.castable cls cls).before args s = true) (hgood : ∀ w ∈ Cond.classLink own ik cls :: Cond.initialized cls :: vx_atS own ic cls xNames, vx_ot w = true)
    (d0 : decode cc pc = .ok (.new ik, 3)) (d3 : decode cc (pc + 3) = .ok (.dup, 1)) (d4 : decode cc (pc + 4) = .ok (.ldc is, 2)) (d6 : decode cc (pc + 6) = .ok (.invokespecial ic, 3)) (d9 : decode cc (pc + 9) = .ok (.athrow, 1))
    (hRf : 5 < R.frames) (hRl : (st.map fun v => v.category).sum + 82 ≤ R.locals) (hRc : cells + 1 ≤ R.cells) (hRs : slots + 6 ≤ R.slots) (hc : cells + 1 ≤ mc) (hs : slots + 6 ≤ ms) (hp : pX cls) (hws : ws = wc) : V p l e R s m args below meth c nL G A cells slots (vx_MQ below Qc (KX G wc pX A) args s mc ms A) ws lv pc st := by
  intro H locs ls hP hD hS hl
  subst hws
  obtain ⟨⟨hx, hb, hml, hown, hts⟩, hG, hA, hlk⟩ := X
  subst hRX
  obtain ⟨gK, gU, gN, gL, gC, gZ⟩ := hG
  obtain ⟨sa, hsa⟩ := gL _ hlit
  refine vx_throwS (names := xNames) hx hb hfl hown hcls (by decide +kernel) (hts _ (List.mem_of_getElem? h1)) (hts _ (List.mem_of_getElem? h2)) hsa (vx_hat (fun w hw => hts w (hat w hw)) hng (vx_c hcast (vx_c (va_Nw.use rfl gC.2.2.2.2.2.2.1) (vx_c (va_Nw.use rfl gC.2.2.2.2.2.2.2.1) (vx_c (va_Nw.use rfl gC.2.2.2.2.2.2.2.2) vx_n))))) hgood gU gN hS (by rw [hml]; exact hl.1) d0 d3 d4 d6 d9 (fun x hx => (ht x hx).elim) hRf hRl hRc hRs hlk (fun t hal hz hk => ⟨(), trivial, ⟨hp, hP.kept (fun k q hq => hk _ ((hP k q hq).lt))⟩, ⟨Nat.le_trans hS.1 hz, fun q h1 h2 => (hk q (Nat.lt_of_lt_of_le h1 hS.1)).trans (hS.2.1 q h1 h2)⟩⟩) hS.2.2 hc hs
theorem xat_IO : ∀ w ∈ (vx_atS RX3 52 eIO xNames).filter (fun w => !goodWord w), w ∈ xngL eIO := by decide +kernel
theorem xat_IA : ∀ w ∈ (vx_atS RX3 59 eIA xNames).filter (fun w => !goodWord w), w ∈ xngL eIA := by decide +kernel
theorem xat_IS : ∀ w ∈ (vx_atS RX3 68 eIS xNames).filter (fun w => !goodWord w), w ∈ xngL eIS := by decide +kernel
theorem xgd_IO : ∀ w ∈ Cond.classLink RX3 48 eIO :: Cond.initialized eIO :: vx_atS RX3 52 eIO xNames, vx_ot w = true := by decide +kernel
theorem xgd_IA : ∀ w ∈ Cond.classLink RX3 55 eIA :: Cond.initialized eIA :: vx_atS RX3 59 eIA xNames, vx_ot w = true := by decide +kernel
theorem xgd_IS : ∀ w ∈ Cond.classLink RX3 64 eIS :: Cond.initialized eIS :: vx_atS RX3 68 eIS xNames, vx_ot w = true := by decide +kernel
section VRX
theorem v_throwIO {own : String} (X : VX p s m args meth c cc nL Ts own G A) (hRX : own = RX3) (hfl : l.stackTraces = false) (ht : ∀ x ∈ c.exceptionTable.toList, False) {Qc : Array Value → State → Outcome → State → Prop} {wc : va_W} {pX : String → Prop} {text : String} {is i1 i2 mc ms : Nat} (hlit : (is, text) ∈ xLits) (h1 : Ts[i1]? = some (Cond.classLink RX3 48 eIO)) (h2 : Ts[i2]? = some (Cond.initialized eIO)) (hat : ∀ w ∈ (vx_atS RX3 52 eIO xNames).filter goodWord, w ∈ Ts)
    (d0 : decode cc pc = .ok (.new 48, 3)) (d3 : decode cc (pc + 3) = .ok (.dup, 1)) (d4 : decode cc (pc + 4) = .ok (.ldc is, 2)) (d6 : decode cc (pc + 6) = .ok (.invokespecial 52, 3)) (d9 : decode cc (pc + 9) = .ok (.athrow, 1))
    (hR : 5 < R.frames ∧ (st.map fun v => v.category).sum + 82 ≤ R.locals ∧ cells + 1 ≤ R.cells ∧ slots + 6 ≤ R.slots ∧ cells + 1 ≤ mc ∧ slots + 6 ≤ ms) (hp : pX eIO) (hws : ws = wc) : V p l e R s m args below meth c nL G A cells slots (vx_MQ below Qc (KX G wc pX A) args s mc ms A) ws lv pc st := by
  subst hRX
  exact v_throwS X hfl ht hlit rfl (by decide +kernel) h1 h2 hat xat_IO (va_Nw.use rfl X.2.1.2.2.2.2.1.2.2.2.1) xgd_IO d0 d3 d4 d6 d9 hR.1 hR.2.1 hR.2.2.1 hR.2.2.2.1 hR.2.2.2.2.1 hR.2.2.2.2.2 hp hws
theorem v_throwIA {own : String} (X : VX p s m args meth c cc nL Ts own G A) (hRX : own = RX3) (hfl : l.stackTraces = false) (ht : ∀ x ∈ c.exceptionTable.toList, False) {Qc : Array Value → State → Outcome → State → Prop} {wc : va_W} {pX : String → Prop} {text : String} {is i1 i2 mc ms : Nat} (hlit : (is, text) ∈ xLits) (h1 : Ts[i1]? = some (Cond.classLink RX3 55 eIA)) (h2 : Ts[i2]? = some (Cond.initialized eIA)) (hat : ∀ w ∈ (vx_atS RX3 59 eIA xNames).filter goodWord, w ∈ Ts)
    (d0 : decode cc pc = .ok (.new 55, 3)) (d3 : decode cc (pc + 3) = .ok (.dup, 1)) (d4 : decode cc (pc + 4) = .ok (.ldc is, 2)) (d6 : decode cc (pc + 6) = .ok (.invokespecial 59, 3)) (d9 : decode cc (pc + 9) = .ok (.athrow, 1))
    (hR : 5 < R.frames ∧ (st.map fun v => v.category).sum + 82 ≤ R.locals ∧ cells + 1 ≤ R.cells ∧ slots + 6 ≤ R.slots ∧ cells + 1 ≤ mc ∧ slots + 6 ≤ ms) (hp : pX eIA) (hws : ws = wc) : V p l e R s m args below meth c nL G A cells slots (vx_MQ below Qc (KX G wc pX A) args s mc ms A) ws lv pc st := by
  subst hRX
  exact v_throwS X hfl ht hlit rfl (by decide +kernel) h1 h2 hat xat_IA (va_Nw.use rfl X.2.1.2.2.2.2.1.2.2.2.2.1) xgd_IA d0 d3 d4 d6 d9 hR.1 hR.2.1 hR.2.2.1 hR.2.2.2.1 hR.2.2.2.2.1 hR.2.2.2.2.2 hp hws
theorem v_throwIS {own : String} (X : VX p s m args meth c cc nL Ts own G A) (hRX : own = RX3) (hfl : l.stackTraces = false) (ht : ∀ x ∈ c.exceptionTable.toList, False) {Qc : Array Value → State → Outcome → State → Prop} {wc : va_W} {pX : String → Prop} {text : String} {is i1 i2 mc ms : Nat} (hlit : (is, text) ∈ xLits) (h1 : Ts[i1]? = some (Cond.classLink RX3 64 eIS)) (h2 : Ts[i2]? = some (Cond.initialized eIS)) (hat : ∀ w ∈ (vx_atS RX3 68 eIS xNames).filter goodWord, w ∈ Ts)
    (d0 : decode cc pc = .ok (.new 64, 3)) (d3 : decode cc (pc + 3) = .ok (.dup, 1)) (d4 : decode cc (pc + 4) = .ok (.ldc is, 2)) (d6 : decode cc (pc + 6) = .ok (.invokespecial 68, 3)) (d9 : decode cc (pc + 9) = .ok (.athrow, 1))
    (hR : 5 < R.frames ∧ (st.map fun v => v.category).sum + 82 ≤ R.locals ∧ cells + 1 ≤ R.cells ∧ slots + 6 ≤ R.slots ∧ cells + 1 ≤ mc ∧ slots + 6 ≤ ms) (hp : pX eIS) (hws : ws = wc) : V p l e R s m args below meth c nL G A cells slots (vx_MQ below Qc (KX G wc pX A) args s mc ms A) ws lv pc st := by
  subst hRX
  exact v_throwS X hfl ht hlit rfl (by decide +kernel) h1 h2 hat xat_IS (va_Nw.use rfl X.2.1.2.2.2.2.1.2.2.2.2.2.1) xgd_IS d0 d3 d4 d6 d9 hR.1 hR.2.1 hR.2.2.1 hR.2.2.2.1 hR.2.2.2.2.1 hR.2.2.2.2.2 hp hws
end VRX
/-! ### calls that may throw, and their handlers -/
def VT (p : Program) (l : Launch) (e : Env) (R : Room) (s : State) (m : MethodId) (args : Array Value) (below : List Frame) (meth : Method) (c : Code) (nL : Nat) (G : va_G) (A : Nat → Prop) (cells slots : Nat) (Q : State → Prop) (E : String) (ws : va_W) (lv : List (Nat × Value)) (pc : Nat) (rest : List Value) : Prop :=
  ∀ (H : Heap) (locs : List Loc) (ls : Array Slot) (q : Addr) (ce : Cell), va_P G vwCl ws H → va_D A ws → va_S A s.heap H locs → lv_has ls nL lv → H[q]? = some ce → ce.vm = .none → s.vm.findClass E = some ce.cls → vx_W p l e R s m args below meth c H locs cells slots Q (F0 m pc ls rest) q
theorem v_catch (X : VX p s m args meth c cc nL Ts own G A) {E name : String} {rest : List Value} (pre : List ExceptionTableEntry) (x : ExceptionTableEntry) (suf : List ExceptionTableEntry) (hsplit : c.exceptionTable.toList = pre ++ x :: suf)
    (hpass : ∀ z ∈ pre, z.catchType ≠ 0 ∧ ∃ nm : String, (∃ i : Nat, Ts[i]? = some (Cond.classLink own z.catchType nm)) ∧ va_Nc E nm s) (hx0 : covers x pc = true) (h0 : x.catchType ≠ 0) {i : Nat}
    (hlink : Ts[i]? = some (Cond.classLink own x.catchType name)) (hcast : va_Nw (.castable E name) s) (kk : ∀ q : Nat, V p l e R s m args below meth c nL G A cells slots Q ws lv x.handlerPc [.ref q]) : VT p l e R s m args below meth c nL G A cells slots Q E ws lv pc rest := by
  intro H locs ls q ce hP hD hS hl hce hcv hcl
  obtain ⟨⟨hx, hb, hml, hown, hts⟩, hG, hA, hlk⟩ := X
  refine vx_catch hown pre x suf hsplit (fun z hz => Or.inr ?_) hx0 h0 (hts _ (List.mem_of_getElem? hlink)) (va_Nw.use rfl hcast) hce hcv hcl (kk q H locs ls hP hD hS hl)
  obtain ⟨hz0, nm, ⟨i9, hi9⟩, hnc⟩ := hpass z hz
  exact ⟨hz0, nm, hts _ (List.mem_of_getElem? hi9), hnc⟩
theorem v_xcallVi (X : VX p s m args meth c cc nL Ts own G A) {y : MethodName} {bytes : ByteArray} {maxL mc ms n index : Nat} {ret : Option FieldType} {wsY wsY' : List Cond} {rm : Room} {As rest : List Value} {S : Type} {wo wn : S → va_W} {wc wr : va_W} {isC isR isP : List Nat} {C : String} {b ci N : Nat} {fs : List Value} {T : u_T} {pX : String → Prop} {post : Int32 → S → Prop} (hM : Xi l y wsY rm mc ms G wc (.ref b :: As) post wo pX) (hG : GoodIn Ts (wsV own index C y wsY)) (hw : wsY = Cond.code y bytes maxL ret :: wsY') (hrc : rm.cells = mc) (hrs : rm.slots = ms) (hd : y.cls = C ∧ y.cls ≠ "java/lang/invoke/MethodHandle" ∧ y.cls ≠ "java/lang/invoke/VarHandle" ∧ (parseMethodDescriptor y.desc).map (fun d => d.parameters.length) = some n) (hR : rm.frames + 1 ≤ R.frames ∧ 8 + (maxL + 11) + rm.locals ≤ R.locals) (d : decode cc pc = .ok (.invokevirtual index, 3)) (hn : As.length = n) (hst : st = As.reverse ++ .ref b :: rest) (hcat : (rest.map fun v => v.category).sum ≤ 8) (hroom : cells + mc ≤ R.cells ∧ slots + ms ≤ R.slots) (q0 : Nat) (hq0 : wc[q0]? = some (b, .inr (ci, fs))) (hci : vwCl[ci]? = some (C, T, N)) (hJ : VJ ws wc wr isC isR isP wo wn) (isX : List Nat) (hX1 : va_nd isX = true) (hX2 : isX.map (fun i => (wr ++ wc)[i]?) = ws.map some) (kx : ∀ E : String, pX E → VT p l e R s m args below meth c nL G A (cells + mc) (slots + ms) Q E ws lv pc rest) (kk : ∀ (r : Int32) (u : S), post r u → V p l e R s m args below meth c nL G A (cells + mc) (slots + ms) Q (wn u) lv (pc + 3) (.int r :: rest)) : V p l e R s m args below meth c nL G A cells slots Q ws lv pc st := by
  intro H locs ls hP hD hS hl
  obtain ⟨hC, hnC, hRr, hnR, hdis, hnP, hPm⟩ := hJ
  obtain ⟨hF, hPc, hU9⟩ := v_out X hP hD hS isC hC hnC
  have hDc : va_D (va_A wc H.size) wc := (hD.sub (ws' := wc) isC hnC hC).self
  obtain ⟨⟨hx, hb, hml, hown, hts⟩, hG9, hA, -⟩ := X
  subst hst
  refine vx_calli (vx_runV (cc := cc) (nL := nL) (Ts := Ts) (own := own) (As := As) (rest := rest) ⟨hx, hb, hml, hown, hts⟩ (hM H.size) (cwV n hts hG hw hrc hrs hd hR) ⟨KPc.blind, va_recv hG9.1 hPc hci hq0, fun U hU hW => ⟨rfl, hU9 U hU hW⟩⟩ rfl hn hl.1 rfl (lv_room hcat) d hroom) hS (fun q _ h => hF q h) hF (fun q _ h => hF q h) (fun E ce q9 u t H1 locs1 ht hvm hpu hB hz1 hk1 hS1 hce hcv hcl => ?_) (fun r u t H1 locs1 ht hvm hw hB hz1 hk1 hS1 => ?_)
  · obtain ⟨hpx, hP1⟩ := hB
    rw [ht] at hP1
    obtain ⟨hP2, hD2⟩ := v_back hP hD isC isR isX hC hRr hnR hdis hk1 hF hP1 hDc hX1 hX2
    exact kx E hpx H1 locs1 ls q9 ce hP2 hD2 hS1 hl hce hcv hcl
  · obtain ⟨hP1, hD1⟩ := hB
    rw [ht] at hP1
    obtain ⟨hP2, hD2⟩ := v_back hP hD isC isR isP hC hRr hnR hdis hk1 hF hP1 hD1 hnP (hPm u)
    exact kk r u hw H1 locs1 ls hP2 hD2 hS1 hl
theorem v_xcallVv (X : VX p s m args meth c cc nL Ts own G A) {y : MethodName} {bytes : ByteArray} {maxL mc ms n index : Nat} {ret : Option FieldType} {wsY wsY' : List Cond} {rm : Room} {As rest : List Value} {S : Type} {wo wn : S → va_W} {wc wr : va_W} {isC isR isP : List Nat} {C : String} {b ci N : Nat} {fs : List Value} {T : u_T} {pX : String → Prop} {post : S → Prop} (hM : Xv l y wsY rm mc ms G wc (.ref b :: As) post wo pX) (hG : GoodIn Ts (wsV own index C y wsY)) (hw : wsY = Cond.code y bytes maxL ret :: wsY') (hrc : rm.cells = mc) (hrs : rm.slots = ms) (hd : y.cls = C ∧ y.cls ≠ "java/lang/invoke/MethodHandle" ∧ y.cls ≠ "java/lang/invoke/VarHandle" ∧ (parseMethodDescriptor y.desc).map (fun d => d.parameters.length) = some n) (hR : rm.frames + 1 ≤ R.frames ∧ 8 + (maxL + 11) + rm.locals ≤ R.locals) (d : decode cc pc = .ok (.invokevirtual index, 3)) (hn : As.length = n) (hst : st = As.reverse ++ .ref b :: rest) (hcat : (rest.map fun v => v.category).sum ≤ 8) (hroom : cells + mc ≤ R.cells ∧ slots + ms ≤ R.slots) (q0 : Nat) (hq0 : wc[q0]? = some (b, .inr (ci, fs))) (hci : vwCl[ci]? = some (C, T, N)) (hJ : VJ ws wc wr isC isR isP wo wn) (isX : List Nat) (hX1 : va_nd isX = true) (hX2 : isX.map (fun i => (wr ++ wc)[i]?) = ws.map some) (kx : ∀ E : String, pX E → VT p l e R s m args below meth c nL G A (cells + mc) (slots + ms) Q E ws lv pc rest) (kk : ∀ u : S, post u → V p l e R s m args below meth c nL G A (cells + mc) (slots + ms) Q (wn u) lv (pc + 3) rest) : V p l e R s m args below meth c nL G A cells slots Q ws lv pc st := by
  intro H locs ls hP hD hS hl
  obtain ⟨hC, hnC, hRr, hnR, hdis, hnP, hPm⟩ := hJ
  obtain ⟨hF, hPc, hU9⟩ := v_out X hP hD hS isC hC hnC
  have hDc : va_D (va_A wc H.size) wc := (hD.sub (ws' := wc) isC hnC hC).self
  obtain ⟨⟨hx, hb, hml, hown, hts⟩, hG9, hA, -⟩ := X
  subst hst
  refine vx_callv (vx_runV (cc := cc) (nL := nL) (Ts := Ts) (own := own) (As := As) (rest := rest) ⟨hx, hb, hml, hown, hts⟩ (hM H.size) (cwV n hts hG hw hrc hrs hd hR) ⟨KPc.blind, va_recv hG9.1 hPc hci hq0, fun U hU hW => ⟨rfl, hU9 U hU hW⟩⟩ rfl hn hl.1 rfl (lv_room hcat) d hroom) hS (fun q _ h => hF q h) hF (fun q _ h => hF q h) (fun E ce q9 u t H1 locs1 ht hvm hpu hB hz1 hk1 hS1 hce hcv hcl => ?_) (fun u t H1 locs1 ht hvm hw hB hz1 hk1 hS1 => ?_)
  · obtain ⟨hpx, hP1⟩ := hB
    rw [ht] at hP1
    obtain ⟨hP2, hD2⟩ := v_back hP hD isC isR isX hC hRr hnR hdis hk1 hF hP1 hDc hX1 hX2
    exact kx E hpx H1 locs1 ls q9 ce hP2 hD2 hS1 hl hce hcv hcl
  · obtain ⟨hP1, hD1⟩ := hB
    rw [ht] at hP1
    obtain ⟨hP2, hD2⟩ := v_back hP hD isC isR isP hC hRr hnR hdis hk1 hF hP1 hD1 hnP (hPm u)
    exact kk u hw H1 locs1 ls hP2 hD2 hS1 hl
theorem v_ofhi {y : MethodName} {wsY' : List Cond} {rm : Room} {mc ms : Nat} {wc : va_W} {As : List Value} {S : Type} {post : Int32 → S → Prop} {wo : S → va_W} {rt : FieldType} {hh : List (Nat × Nat × Nat × Nat)} (hy : plainName y.cls = true) (hw : Ts = Cond.codeWith y cc nL (some rt) hh :: wsY') (hn : (lg_sl As).length ≤ nL) (hlv : lv_args 0 As = lv)
    (body : ∀ (p : Program) (e : Env) (s : State) (m : MethodId) (args : Array Value) (below : List Frame) (meth : Method) (c : Code) (A : Nat → Prop), VX p s m args meth c cc nL Ts y.cls G A → c.exceptionTable.toList = tableOf hh → meth.sig.returnType = some rt → V p l e (headSpec Ts rm).room s m args below meth c nL G A 0 0 (QI below args s G A mc ms post wo) wc lv 0 []) : Ki l y Ts rm mc ms G wc As post wo := by
  intro sz
  refine va_MetW (cc := cc) (maxL := nL) (ret := some rt) (hh := hh) hy hw ?_
  intro p e s m args below meth c s₁ B hml hv
  obtain ⟨rfl, hsz, hP, hK, hD0⟩ := hv
  subst hsz
  have hD := hD0.self (sz := s.heap.size)
  have hl := lv_entry As hn
  rw [lg_entry_eq]
  rw [hlv] at hl
  have hts := atoms_spec (ws := Ts) B.pre
  exact body p e s m _ below meth c (va_A wc s.heap.size) ⟨⟨B.exec, B.bytes, hml, findClass_of_methodNamed B.named, hts⟩, hK, fun q h => Or.inr h, B.notSynchronized⟩ (vx_table (x := y) B (hts _ (by rw [hw]; exact List.mem_cons_self))) B.returns s.heap [] _ hP hD va_S.rf hl
/-- a static call of a method with handlers -/
theorem v_callHi (X : VX p s m args meth c cc nL Ts own G A) {y : MethodName} {bytes : ByteArray} {maxL mc ms n index : Nat} {ret : Option FieldType} {hh : List (Nat × Nat × Nat × Nat)} {wsY wsY' : List Cond} {rm : Room} {As rest : List Value} {S : Type} {wo wn : S → va_W} {wc wr : va_W} {isC isR isP : List Nat} {post : Int32 → S → Prop} (hM : Ki l y wsY rm mc ms G wc As post wo) (hG : GoodIn Ts (va_wsS own index y wsY)) (hw : wsY = Cond.codeWith y bytes maxL ret hh :: wsY') (hrc : rm.cells = mc) (hrs : rm.slots = ms) (hd : y.cls ≠ "java/lang/invoke/MethodHandle" ∧ y.cls ≠ "java/lang/invoke/VarHandle" ∧ (parseMethodDescriptor y.desc).map (fun d => d.parameters.length) = some n) (hR : rm.frames + 1 ≤ R.frames ∧ 8 + (maxL + 11) + rm.locals ≤ R.locals) (d : decode cc pc = .ok (.invokestatic index, 3)) (hn : As.length = n) (hst : st = As.reverse ++ rest) (hcat : (rest.map fun v => v.category).sum ≤ 8) (hroom : cells + mc ≤ R.cells ∧ slots + ms ≤ R.slots) (hJ : VJ ws wc wr isC isR isP wo wn) (kk : ∀ (r : Int32) (u : S), post r u → V p l e R s m args below meth c nL G A (cells + mc) (slots + ms) Q (wn u) lv (pc + 3) (.int r :: rest)) : V p l e R s m args below meth c nL G A cells slots Q ws lv pc st := by
  intro H locs ls hP hD hS hl
  obtain ⟨hC, hnC, hRr, hnR, hdis, hnP, hPm⟩ := hJ
  obtain ⟨hF, hPc, hU9⟩ := v_out X hP hD hS isC hC hnC
  obtain ⟨⟨hx, hb, hml, hown, hts⟩, hG9, hA, -⟩ := X
  subst hst
  refine va_calli (vx_runSW (cc := cc) (nL := nL) (Ts := Ts) (own := own) (As := As) (rest := rest) ⟨hx, hb, hml, hown, hts⟩ (hM H.size) (vx_cwSW n hts hG hw hrc hrs hd hR) ⟨KPc.blind, fun U hU hW => ⟨rfl, hU9 U hU hW⟩⟩ rfl hn hl.1 rfl (lv_room hcat) d hroom) hS (fun q _ h => hF q h) hF (fun r u t H1 locs1 ht hvm hw hB hz1 hk1 hS1 => ?_)
  obtain ⟨hP1, hD1⟩ := hB
  rw [ht] at hP1
  obtain ⟨hP2, hD2⟩ := v_back hP hD isC isR isP hC hRr hnR hdis hk1 hF hP1 hD1 hnP (hPm u)
  exact kk r u hw H1 locs1 ls hP2 hD2 hS1 hl
/-! ### exact contracts: an int answer, a world -/
abbrev Ke (l : Launch) (y : MethodName) (wsY : List Cond) (rm : Room) (mc ms : Nat) (G : va_G) (wc : va_W) (As : List Value) (r : Int32) (wo : va_W) : Prop := Ki l y wsY rm mc ms G wc As (S := Unit) (fun x _ => x = r) (fun _ => wo)
abbrev Ku (l : Launch) (y : MethodName) (wsY : List Cond) (rm : Room) (mc ms : Nat) (G : va_G) (wc : va_W) (As : List Value) (wo : va_W) : Prop := Kv l y wsY rm mc ms G wc As (S := Unit) (fun _ => True) (fun _ => wo)
/-- .. or it throws, by the code k -/
abbrev pxK (k : Int32) : String → Prop := fun E => (k = 1 ∧ E = eIO) ∨ (k = 2 ∧ E = eIA) ∨ (k = 3 ∧ E = eIS)
abbrev Xe (l : Launch) (y : MethodName) (wsY : List Cond) (rm : Room) (mc ms : Nat) (G : va_G) (wc : va_W) (As : List Value) (k r : Int32) (wo : va_W) : Prop := Xi l y wsY rm mc ms G wc As (S := Unit) (fun x _ => k = 0 ∧ x = r) (fun _ => wo) (pxK k)
abbrev Xu (l : Launch) (y : MethodName) (wsY : List Cond) (rm : Room) (mc ms : Nat) (G : va_G) (wc : va_W) (As : List Value) (k : Int32) (wo : va_W) : Prop := Xv l y wsY rm mc ms G wc As (S := Unit) (fun _ => k = 0) (fun _ => wo) (pxK k)
def VJe (ws wc wr : va_W) (isC isR isP : List Nat) (wo wn : va_W) : Prop := isC.map (fun i => ws[i]?) = wc.map some ∧ va_nd isC = true ∧ isR.map (fun i => ws[i]?) = wr.map some ∧ va_nd isR = true ∧ (∀ i ∈ isR, i ∉ isC) ∧ va_nd isP = true ∧ isP.map (fun i => (wr ++ wo)[i]?) = wn.map some
theorem VJe.j {ws wc wr : va_W} {isC isR isP : List Nat} {wo wn : va_W} (h : VJe ws wc wr isC isR isP wo wn) : VJ (S := Unit) ws wc wr isC isR isP (fun _ => wo) (fun _ => wn) := ⟨h.1, h.2.1, h.2.2.1, h.2.2.2.1, h.2.2.2.2.1, h.2.2.2.2.2.1, fun _ => h.2.2.2.2.2.2⟩
theorem range_get {α : Type} (l : List α) : (List.range l.length).map (fun i => l[i]?) = l.map some := by
  apply List.ext_getElem?
  intro i
  rw [List.getElem?_map, List.getElem?_map]
  by_cases h : i < l.length
  · rw [List.getElem?_range h]; simp [h]
  · rw [List.getElem?_eq_none (by simpa using Nat.not_lt.mp h), List.getElem?_eq_none (Nat.not_lt.mp h)]; rfl
theorem range_nd' : ∀ (n k : Nat), va_nd ((List.range' k n)) = true
  | 0, _ => rfl
  | n + 1, k => by
    rw [List.range'_succ, va_nd, range_nd' n (k + 1)]
    have h : k ∉ List.range' (k + 1) n := fun h => by
      have := List.mem_range'_1.mp h
      omega
    simp [h]
theorem range_nd (n : Nat) : va_nd (List.range n) = true := by rw [List.range_eq_range']; exact range_nd' n 0
theorem VJ.none (ws : va_W) : VJ (S := Unit) ws [] ws [] (List.range ws.length) (List.range ws.length) (fun _ => []) (fun _ => ws) :=
  ⟨rfl, rfl, range_get ws, range_nd _, fun _ _ h => (by cases h), range_nd _, fun _ => by rw [List.append_nil]; exact range_get ws⟩
theorem v_eV (X : VX p s m args meth c cc nL Ts own G A) {y : MethodName} {bytes : ByteArray} {maxL mc ms n index : Nat} {ret : Option FieldType} {wsY wsY' : List Cond} {rm : Room} {As rest : List Value} {wo wn wc wr : va_W} {isC isR isP : List Nat} {C : String} {b ci N : Nat} {fs : List Value} {T : u_T} {r : Int32} (hM : Ke l y wsY rm mc ms G wc (.ref b :: As) r wo) (hG : GoodIn Ts (wsV own index C y wsY)) (hw : wsY = Cond.code y bytes maxL ret :: wsY') (hrc : rm.cells = mc) (hrs : rm.slots = ms) (hd : y.cls = C ∧ y.cls ≠ "java/lang/invoke/MethodHandle" ∧ y.cls ≠ "java/lang/invoke/VarHandle" ∧ (parseMethodDescriptor y.desc).map (fun d => d.parameters.length) = some n) (hR : rm.frames + 1 ≤ R.frames ∧ 8 + (maxL + 11) + rm.locals ≤ R.locals) (d : decode cc pc = .ok (.invokevirtual index, 3)) (hn : As.length = n) (hst : st = As.reverse ++ .ref b :: rest) (hcat : (rest.map fun v => v.category).sum ≤ 8) (hroom : cells + mc ≤ R.cells ∧ slots + ms ≤ R.slots) (q0 : Nat) (hq0 : wc[q0]? = some (b, .inr (ci, fs))) (hci : vwCl[ci]? = some (C, T, N)) (hJ : VJe ws wc wr isC isR isP wo wn) (kk : V p l e R s m args below meth c nL G A (cells + mc) (slots + ms) Q wn lv (pc + 3) (.int r :: rest)) : V p l e R s m args below meth c nL G A cells slots Q ws lv pc st :=
  v_callVi X hM hG hw hrc hrs hd hR d hn hst hcat hroom q0 hq0 hci hJ.j (fun r9 u hr => by obtain rfl : r9 = r := hr; exact kk)
theorem v_eS (X : VX p s m args meth c cc nL Ts own G A) {y : MethodName} {bytes : ByteArray} {maxL mc ms n index : Nat} {ret : Option FieldType} {wsY wsY' : List Cond} {rm : Room} {As rest : List Value} {wo wn wc wr : va_W} {isC isR isP : List Nat} {r : Int32} (hM : Ke l y wsY rm mc ms G wc As r wo) (hG : GoodIn Ts (va_wsS own index y wsY)) (hw : wsY = Cond.code y bytes maxL ret :: wsY') (hrc : rm.cells = mc) (hrs : rm.slots = ms) (hd : y.cls ≠ "java/lang/invoke/MethodHandle" ∧ y.cls ≠ "java/lang/invoke/VarHandle" ∧ (parseMethodDescriptor y.desc).map (fun d => d.parameters.length) = some n) (hR : rm.frames + 1 ≤ R.frames ∧ 8 + (maxL + 11) + rm.locals ≤ R.locals) (d : decode cc pc = .ok (.invokestatic index, 3)) (hn : As.length = n) (hst : st = As.reverse ++ rest) (hcat : (rest.map fun v => v.category).sum ≤ 8) (hroom : cells + mc ≤ R.cells ∧ slots + ms ≤ R.slots) (hJ : VJe ws wc wr isC isR isP wo wn) (kk : V p l e R s m args below meth c nL G A (cells + mc) (slots + ms) Q wn lv (pc + 3) (.int r :: rest)) : V p l e R s m args below meth c nL G A cells slots Q ws lv pc st :=
  v_callSi X hM hG hw hrc hrs hd hR d hn hst hcat hroom hJ.j (fun r9 u hr => by obtain rfl : r9 = r := hr; exact kk)
theorem v_e0S (X : VX p s m args meth c cc nL Ts own G A) {y : MethodName} {bytes : ByteArray} {maxL mc ms n index : Nat} {ret : Option FieldType} {wsY wsY' : List Cond} {rm : Room} {As rest : List Value}  {r : Int32} (hM : Ke l y wsY rm mc ms G [] As r []) (hG : GoodIn Ts (va_wsS own index y wsY)) (hw : wsY = Cond.code y bytes maxL ret :: wsY') (hrc : rm.cells = mc) (hrs : rm.slots = ms) (hd : y.cls ≠ "java/lang/invoke/MethodHandle" ∧ y.cls ≠ "java/lang/invoke/VarHandle" ∧ (parseMethodDescriptor y.desc).map (fun d => d.parameters.length) = some n) (hR : rm.frames + 1 ≤ R.frames ∧ 8 + (maxL + 11) + rm.locals ≤ R.locals) (d : decode cc pc = .ok (.invokestatic index, 3)) (hn : As.length = n) (hst : st = As.reverse ++ rest) (hcat : (rest.map fun v => v.category).sum ≤ 8) (hroom : cells + mc ≤ R.cells ∧ slots + ms ≤ R.slots)  (kk : V p l e R s m args below meth c nL G A (cells + mc) (slots + ms) Q ws lv (pc + 3) (.int r :: rest)) : V p l e R s m args below meth c nL G A cells slots Q ws lv pc st :=
  v_callSi X hM hG hw hrc hrs hd hR d hn hst hcat hroom (VJ.none ws) (fun r9 u hr => by obtain rfl : r9 = r := hr; exact kk)
theorem v_uV (X : VX p s m args meth c cc nL Ts own G A) {y : MethodName} {bytes : ByteArray} {maxL mc ms n index : Nat} {ret : Option FieldType} {wsY wsY' : List Cond} {rm : Room} {As rest : List Value} {wo wn wc wr : va_W} {isC isR isP : List Nat} {C : String} {b ci N : Nat} {fs : List Value} {T : u_T}  (hM : Ku l y wsY rm mc ms G wc (.ref b :: As) wo) (hG : GoodIn Ts (wsV own index C y wsY)) (hw : wsY = Cond.code y bytes maxL ret :: wsY') (hrc : rm.cells = mc) (hrs : rm.slots = ms) (hd : y.cls = C ∧ y.cls ≠ "java/lang/invoke/MethodHandle" ∧ y.cls ≠ "java/lang/invoke/VarHandle" ∧ (parseMethodDescriptor y.desc).map (fun d => d.parameters.length) = some n) (hR : rm.frames + 1 ≤ R.frames ∧ 8 + (maxL + 11) + rm.locals ≤ R.locals) (d : decode cc pc = .ok (.invokevirtual index, 3)) (hn : As.length = n) (hst : st = As.reverse ++ .ref b :: rest) (hcat : (rest.map fun v => v.category).sum ≤ 8) (hroom : cells + mc ≤ R.cells ∧ slots + ms ≤ R.slots) (q0 : Nat) (hq0 : wc[q0]? = some (b, .inr (ci, fs))) (hci : vwCl[ci]? = some (C, T, N)) (hJ : VJe ws wc wr isC isR isP wo wn) (kk : V p l e R s m args below meth c nL G A (cells + mc) (slots + ms) Q wn lv (pc + 3) rest) : V p l e R s m args below meth c nL G A cells slots Q ws lv pc st :=
  v_callVv X hM hG hw hrc hrs hd hR d hn hst hcat hroom q0 hq0 hci hJ.j (fun u _ => kk)
theorem v_uS (X : VX p s m args meth c cc nL Ts own G A) {y : MethodName} {bytes : ByteArray} {maxL mc ms n index : Nat} {ret : Option FieldType} {wsY wsY' : List Cond} {rm : Room} {As rest : List Value} {wo wn wc wr : va_W} {isC isR isP : List Nat}  (hM : Ku l y wsY rm mc ms G wc As wo) (hG : GoodIn Ts (va_wsS own index y wsY)) (hw : wsY = Cond.code y bytes maxL ret :: wsY') (hrc : rm.cells = mc) (hrs : rm.slots = ms) (hd : y.cls ≠ "java/lang/invoke/MethodHandle" ∧ y.cls ≠ "java/lang/invoke/VarHandle" ∧ (parseMethodDescriptor y.desc).map (fun d => d.parameters.length) = some n) (hR : rm.frames + 1 ≤ R.frames ∧ 8 + (maxL + 11) + rm.locals ≤ R.locals) (d : decode cc pc = .ok (.invokestatic index, 3)) (hn : As.length = n) (hst : st = As.reverse ++ rest) (hcat : (rest.map fun v => v.category).sum ≤ 8) (hroom : cells + mc ≤ R.cells ∧ slots + ms ≤ R.slots) (hJ : VJe ws wc wr isC isR isP wo wn) (kk : V p l e R s m args below meth c nL G A (cells + mc) (slots + ms) Q wn lv (pc + 3) rest) : V p l e R s m args below meth c nL G A cells slots Q ws lv pc st :=
  v_callSv X hM hG hw hrc hrs hd hR d hn hst hcat hroom hJ.j (fun u _ => kk)
theorem v_u0S (X : VX p s m args meth c cc nL Ts own G A) {y : MethodName} {bytes : ByteArray} {maxL mc ms n index : Nat} {ret : Option FieldType} {wsY wsY' : List Cond} {rm : Room} {As rest : List Value}   (hM : Ku l y wsY rm mc ms G [] As []) (hG : GoodIn Ts (va_wsS own index y wsY)) (hw : wsY = Cond.code y bytes maxL ret :: wsY') (hrc : rm.cells = mc) (hrs : rm.slots = ms) (hd : y.cls ≠ "java/lang/invoke/MethodHandle" ∧ y.cls ≠ "java/lang/invoke/VarHandle" ∧ (parseMethodDescriptor y.desc).map (fun d => d.parameters.length) = some n) (hR : rm.frames + 1 ≤ R.frames ∧ 8 + (maxL + 11) + rm.locals ≤ R.locals) (d : decode cc pc = .ok (.invokestatic index, 3)) (hn : As.length = n) (hst : st = As.reverse ++ rest) (hcat : (rest.map fun v => v.category).sum ≤ 8) (hroom : cells + mc ≤ R.cells ∧ slots + ms ≤ R.slots)  (kk : V p l e R s m args below meth c nL G A (cells + mc) (slots + ms) Q ws lv (pc + 3) rest) : V p l e R s m args below meth c nL G A cells slots Q ws lv pc st :=
  v_callSv X hM hG hw hrc hrs hd hR d hn hst hcat hroom (VJ.none ws) (fun u _ => kk)
theorem v_uI (X : VX p s m args meth c cc nL Ts own G A) {y : MethodName} {bytes : ByteArray} {maxL mc ms n index : Nat} {wsY wsY' : List Cond} {rm : Room} {As rest : List Value} {wo wn wc wr : va_W} {isC isR isP : List Nat} {b i1 i2 i3 : Nat} (hM : Ku l y wsY rm mc ms G wc (.ref b :: As) wo) (hG : GoodIn Ts wsY) (h1 : Ts[i1]? = some (Cond.initialized y.cls)) (h2 : Ts[i2]? = some (Cond.methodLink own index y)) (h3 : Ts[i3]? = some (Cond.instanceMethod y)) (hy1 : y.name = "<init>") (hw : wsY = Cond.code y bytes maxL none :: wsY') (hrc : rm.cells = mc) (hrs : rm.slots = ms) (hd : y.cls ≠ "java/lang/invoke/MethodHandle" ∧ y.cls ≠ "java/lang/invoke/VarHandle" ∧ (parseMethodDescriptor y.desc).map (fun d => d.parameters.length) = some n) (hR : rm.frames + 1 ≤ R.frames ∧ 8 + (maxL + 11) + rm.locals ≤ R.locals) (d : decode cc pc = .ok (.invokespecial index, 3)) (hn : As.length = n) (hst : st = As.reverse ++ .ref b :: rest) (hcat : (rest.map fun v => v.category).sum ≤ 8) (hroom : cells + mc ≤ R.cells ∧ slots + ms ≤ R.slots) (hJ : VJe ws wc wr isC isR isP wo wn) (kk : V p l e R s m args below meth c nL G A (cells + mc) (slots + ms) Q wn lv (pc + 3) rest) : V p l e R s m args below meth c nL G A cells slots Q ws lv pc st :=
  v_callIv X hM hG h1 h2 h3 hy1 hw hrc hrs hd hR d hn hst hcat hroom hJ.j (fun u _ => kk)
theorem sw_out (n : Nat) (x : Int32) (h : ∀ k : Nat, k < n → ¬ x = Int32.ofNat k) : x.toInt < ((0 : Nat) : Int) ∨ ((n : Int) - 1) < x.toInt := by
  by_cases h0 : x.toInt < 0
  · exact Or.inl h0
  · refine Or.inr ?_
    have hlt : x.toInt < 2147483648 := Int32.toInt_lt x
    by_cases h1 : (n : Int) - 1 < x.toInt
    · exact h1
    · exfalso
      have e : x = Int32.ofNat x.toInt.toNat := by
        apply Int32.toInt_inj.mp
        have := nI_toInt (n := x.toInt.toNat) (by omega)
        rw [show Int32.ofNat x.toInt.toNat = nI x.toInt.toNat from rfl, this]
        omega
      exact h x.toInt.toNat (by omega) e
/-- addresses out of a list -/
def adr (l : List Nat) (k : Nat) : Nat := l.getD k 0
abbrev Kq (l : Launch) (y : MethodName) (wsY : List Cond) (rm : Room) (mc ms : Nat) (G : va_G) (wc : va_W) (As : List Value) (wo : va_W) : Prop := Kr l y wsY rm mc ms G wc As (S := Unit) (fun _ => True) (fun _ _ => wo)
theorem VJe.jr {ws wc wr : va_W} {isC isR isP : List Nat} {wo wn : va_W} (h : VJe ws wc wr isC isR isP wo wn) : VJ (S := Unit × Nat) ws wc wr isC isR isP (fun _ => wo) (fun _ => wn) := ⟨h.1, h.2.1, h.2.2.1, h.2.2.2.1, h.2.2.2.2.1, h.2.2.2.2.2.1, fun _ => h.2.2.2.2.2.2⟩
/-- a static that holds null or some reference: any value goes on the stack -/
theorem v_getsq (X : VX p s m args meth c cc nL Ts own G A) {C n ds ref : String} {index i : Nat} (hZ : va_Zq C n ds A s s.heap) (d : decode cc pc = .ok (.getstatic index, 3)) (hw : Ts[i]? = some (Cond.fieldLink own index ref n ds)) (hC : C = ref) (kk : ∀ v : Value, v.category = 1 → V p l e R s m args below meth c nL G A cells slots Q ws lv (pc + 3) (v :: st)) : V p l e R s m args below meth c nL G A cells slots Q ws lv pc st := by
  rcases hZ with h | ⟨t, h⟩
  · exact v_gets X h d hw hC (kk _ rfl)
  · exact v_gets X h d hw hC (kk _ rfl)
theorem v_qV (X : VX p s m args meth c cc nL Ts own G A) {y : MethodName} {bytes : ByteArray} {maxL mc ms n index : Nat} {ret : Option FieldType} {wsY wsY' : List Cond} {rm : Room} {As rest : List Value} {wo wn wc wr : va_W} {isC isR isP : List Nat} {C : String} {b ci N : Nat} {fs : List Value} {T : u_T}  (hM : Kq l y wsY rm mc ms G wc (.ref b :: As) wo) (hG : GoodIn Ts (wsV own index C y wsY)) (hw : wsY = Cond.code y bytes maxL ret :: wsY') (hrc : rm.cells = mc) (hrs : rm.slots = ms) (hd : y.cls = C ∧ y.cls ≠ "java/lang/invoke/MethodHandle" ∧ y.cls ≠ "java/lang/invoke/VarHandle" ∧ (parseMethodDescriptor y.desc).map (fun d => d.parameters.length) = some n) (hR : rm.frames + 1 ≤ R.frames ∧ 8 + (maxL + 11) + rm.locals ≤ R.locals) (d : decode cc pc = .ok (.invokevirtual index, 3)) (hn : As.length = n) (hst : st = As.reverse ++ .ref b :: rest) (hcat : (rest.map fun v => v.category).sum ≤ 8) (hroom : cells + mc ≤ R.cells ∧ slots + ms ≤ R.slots) (q0 : Nat) (hq0 : wc[q0]? = some (b, .inr (ci, fs))) (hci : vwCl[ci]? = some (C, T, N)) (hJ : VJe ws wc wr isC isR isP wo wn) (kk : ∀ ra : Nat, V p l e R s m args below meth c nL G A (cells + mc) (slots + ms) Q wn lv (pc + 3) (.ref ra :: rest)) : V p l e R s m args below meth c nL G A cells slots Q ws lv pc st :=
  v_callVr X hM hG hw hrc hrs hd hR d hn hst hcat hroom q0 hq0 hci hJ.jr (fun u ra _ => kk ra)
theorem v_eU (X : VX p s m args meth c cc nL Ts own G A) {y : MethodName} {bytes : ByteArray} {maxL mc ms n index : Nat} {ret : Option FieldType} {wsY wsY' : List Cond} {rm : Room} {As rest : List Value} {wo wn wc wr : va_W} {isC isR isP : List Nat} {C : String} {b ci N : Nat} {fs : List Value} {T : u_T} {owner : String} {x : MethodName} {r : Int32} (hM : Ke l y wsY rm mc ms G wc (.ref b :: As) r wo) (hG : GoodIn Ts (va_wsU own index C owner x y wsY)) (hyx : y = ⟨owner, x.name, x.desc⟩) (hw : wsY = Cond.code y bytes maxL ret :: wsY') (hrc : rm.cells = mc) (hrs : rm.slots = ms) (hd : owner ≠ "java/lang/invoke/MethodHandle" ∧ owner ≠ "java/lang/invoke/VarHandle" ∧ (parseMethodDescriptor x.desc).map (fun d => d.parameters.length) = some n) (hR : rm.frames + 1 ≤ R.frames ∧ 8 + (maxL + 11) + rm.locals ≤ R.locals) (d : decode cc pc = .ok (.invokevirtual index, 3)) (hn : As.length = n) (hst : st = As.reverse ++ .ref b :: rest) (hcat : (rest.map fun v => v.category).sum ≤ 8) (hroom : cells + mc ≤ R.cells ∧ slots + ms ≤ R.slots) (q0 : Nat) (hq0 : wc[q0]? = some (b, .inr (ci, fs))) (hci : vwCl[ci]? = some (C, T, N)) (hJ : VJe ws wc wr isC isR isP wo wn) (kk : V p l e R s m args below meth c nL G A (cells + mc) (slots + ms) Q wn lv (pc + 3) (.int r :: rest)) : V p l e R s m args below meth c nL G A cells slots Q ws lv pc st :=
  v_callUi X hM hG hyx hw hrc hrs hd hR d hn hst hcat hroom q0 hq0 hci hJ.j (fun r9 u hr => by obtain rfl : r9 = r := hr; exact kk)
theorem v_uU (X : VX p s m args meth c cc nL Ts own G A) {y : MethodName} {bytes : ByteArray} {maxL mc ms n index : Nat} {ret : Option FieldType} {wsY wsY' : List Cond} {rm : Room} {As rest : List Value} {wo wn wc wr : va_W} {isC isR isP : List Nat} {C : String} {b ci N : Nat} {fs : List Value} {T : u_T} {owner : String} {x : MethodName}  (hM : Ku l y wsY rm mc ms G wc (.ref b :: As) wo) (hG : GoodIn Ts (va_wsU own index C owner x y wsY)) (hyx : y = ⟨owner, x.name, x.desc⟩) (hw : wsY = Cond.code y bytes maxL ret :: wsY') (hrc : rm.cells = mc) (hrs : rm.slots = ms) (hd : owner ≠ "java/lang/invoke/MethodHandle" ∧ owner ≠ "java/lang/invoke/VarHandle" ∧ (parseMethodDescriptor x.desc).map (fun d => d.parameters.length) = some n) (hR : rm.frames + 1 ≤ R.frames ∧ 8 + (maxL + 11) + rm.locals ≤ R.locals) (d : decode cc pc = .ok (.invokevirtual index, 3)) (hn : As.length = n) (hst : st = As.reverse ++ .ref b :: rest) (hcat : (rest.map fun v => v.category).sum ≤ 8) (hroom : cells + mc ≤ R.cells ∧ slots + ms ≤ R.slots) (q0 : Nat) (hq0 : wc[q0]? = some (b, .inr (ci, fs))) (hci : vwCl[ci]? = some (C, T, N)) (hJ : VJe ws wc wr isC isR isP wo wn) (kk : V p l e R s m args below meth c nL G A (cells + mc) (slots + ms) Q wn lv (pc + 3) rest) : V p l e R s m args below meth c nL G A cells slots Q ws lv pc st :=
  v_callUv X hM hG hyx hw hrc hrs hd hR d hn hst hcat hroom q0 hq0 hci hJ.j (fun u _ => kk)
theorem v_qU (X : VX p s m args meth c cc nL Ts own G A) {y : MethodName} {bytes : ByteArray} {maxL mc ms n index : Nat} {ret : Option FieldType} {wsY wsY' : List Cond} {rm : Room} {As rest : List Value} {wo wn wc wr : va_W} {isC isR isP : List Nat} {C : String} {b ci N : Nat} {fs : List Value} {T : u_T} {owner : String} {x : MethodName}  (hM : Kq l y wsY rm mc ms G wc (.ref b :: As) wo) (hG : GoodIn Ts (va_wsU own index C owner x y wsY)) (hyx : y = ⟨owner, x.name, x.desc⟩) (hw : wsY = Cond.code y bytes maxL ret :: wsY') (hrc : rm.cells = mc) (hrs : rm.slots = ms) (hd : owner ≠ "java/lang/invoke/MethodHandle" ∧ owner ≠ "java/lang/invoke/VarHandle" ∧ (parseMethodDescriptor x.desc).map (fun d => d.parameters.length) = some n) (hR : rm.frames + 1 ≤ R.frames ∧ 8 + (maxL + 11) + rm.locals ≤ R.locals) (d : decode cc pc = .ok (.invokevirtual index, 3)) (hn : As.length = n) (hst : st = As.reverse ++ .ref b :: rest) (hcat : (rest.map fun v => v.category).sum ≤ 8) (hroom : cells + mc ≤ R.cells ∧ slots + ms ≤ R.slots) (q0 : Nat) (hq0 : wc[q0]? = some (b, .inr (ci, fs))) (hci : vwCl[ci]? = some (C, T, N)) (hJ : VJe ws wc wr isC isR isP wo wn) (kk : ∀ ra : Nat, V p l e R s m args below meth c nL G A (cells + mc) (slots + ms) Q wn lv (pc + 3) (.ref ra :: rest)) : V p l e R s m args below meth c nL G A cells slots Q ws lv pc st :=
  v_callUr X hM hG hyx hw hrc hrs hd hR d hn hst hcat hroom q0 hq0 hci hJ.jr (fun u ra _ => kk ra)
theorem v_eSU (X : VX p s m args meth c cc nL Ts own G A) {y : MethodName} {bytes : ByteArray} {maxL mc ms n index : Nat} {ret : Option FieldType} {wsY wsY' : List Cond} {rm : Room} {As rest : List Value} {wo wn wc wr : va_W} {isC isR isP : List Nat} {C : String} {b ci N : Nat} {fs : List Value} {T : u_T} {r : Int32} (hM : Ke l y wsY rm mc ms G wc (.ref b :: As) r wo) (hG : GoodIn Ts (va_wsSU own index y wsY)) (hw : wsY = Cond.code y bytes maxL ret :: wsY') (hrc : rm.cells = mc) (hrs : rm.slots = ms) (hd : y.name ≠ "<init>" ∧ (parseMethodDescriptor y.desc).map (fun d => d.parameters.length) = some n) (hR : rm.frames + 1 ≤ R.frames ∧ 8 + (maxL + 11) + rm.locals ≤ R.locals) (d : decode cc pc = .ok (.invokespecial index, 3)) (hn : As.length = n) (hst : st = As.reverse ++ .ref b :: rest) (hcat : (rest.map fun v => v.category).sum ≤ 8) (hroom : cells + mc ≤ R.cells ∧ slots + ms ≤ R.slots) (q0 : Nat) (hq0 : wc[q0]? = some (b, .inr (ci, fs))) (hci : vwCl[ci]? = some (C, T, N)) (hJ : VJe ws wc wr isC isR isP wo wn) (kk : V p l e R s m args below meth c nL G A (cells + mc) (slots + ms) Q wn lv (pc + 3) (.int r :: rest)) : V p l e R s m args below meth c nL G A cells slots Q ws lv pc st :=
  v_callSUi X hM hG hw hrc hrs hd hR d hn hst hcat hroom q0 hq0 hci hJ.j (fun r9 u hr => by obtain rfl : r9 = r := hr; exact kk)
theorem v_uSU (X : VX p s m args meth c cc nL Ts own G A) {y : MethodName} {bytes : ByteArray} {maxL mc ms n index : Nat} {ret : Option FieldType} {wsY wsY' : List Cond} {rm : Room} {As rest : List Value} {wo wn wc wr : va_W} {isC isR isP : List Nat} {C : String} {b ci N : Nat} {fs : List Value} {T : u_T}  (hM : Ku l y wsY rm mc ms G wc (.ref b :: As) wo) (hG : GoodIn Ts (va_wsSU own index y wsY)) (hw : wsY = Cond.code y bytes maxL ret :: wsY') (hrc : rm.cells = mc) (hrs : rm.slots = ms) (hd : y.name ≠ "<init>" ∧ (parseMethodDescriptor y.desc).map (fun d => d.parameters.length) = some n) (hR : rm.frames + 1 ≤ R.frames ∧ 8 + (maxL + 11) + rm.locals ≤ R.locals) (d : decode cc pc = .ok (.invokespecial index, 3)) (hn : As.length = n) (hst : st = As.reverse ++ .ref b :: rest) (hcat : (rest.map fun v => v.category).sum ≤ 8) (hroom : cells + mc ≤ R.cells ∧ slots + ms ≤ R.slots) (q0 : Nat) (hq0 : wc[q0]? = some (b, .inr (ci, fs))) (hci : vwCl[ci]? = some (C, T, N)) (hJ : VJe ws wc wr isC isR isP wo wn) (kk : V p l e R s m args below meth c nL G A (cells + mc) (slots + ms) Q wn lv (pc + 3) rest) : V p l e R s m args below meth c nL G A cells slots Q ws lv pc st :=
  v_callSUv X hM hG hw hrc hrs hd hR d hn hst hcat hroom q0 hq0 hci hJ.j (fun u _ => kk)
theorem v_qSU (X : VX p s m args meth c cc nL Ts own G A) {y : MethodName} {bytes : ByteArray} {maxL mc ms n index : Nat} {ret : Option FieldType} {wsY wsY' : List Cond} {rm : Room} {As rest : List Value} {wo wn wc wr : va_W} {isC isR isP : List Nat} {C : String} {b ci N : Nat} {fs : List Value} {T : u_T}  (hM : Kq l y wsY rm mc ms G wc (.ref b :: As) wo) (hG : GoodIn Ts (va_wsSU own index y wsY)) (hw : wsY = Cond.code y bytes maxL ret :: wsY') (hrc : rm.cells = mc) (hrs : rm.slots = ms) (hd : y.name ≠ "<init>" ∧ (parseMethodDescriptor y.desc).map (fun d => d.parameters.length) = some n) (hR : rm.frames + 1 ≤ R.frames ∧ 8 + (maxL + 11) + rm.locals ≤ R.locals) (d : decode cc pc = .ok (.invokespecial index, 3)) (hn : As.length = n) (hst : st = As.reverse ++ .ref b :: rest) (hcat : (rest.map fun v => v.category).sum ≤ 8) (hroom : cells + mc ≤ R.cells ∧ slots + ms ≤ R.slots) (q0 : Nat) (hq0 : wc[q0]? = some (b, .inr (ci, fs))) (hci : vwCl[ci]? = some (C, T, N)) (hJ : VJe ws wc wr isC isR isP wo wn) (kk : ∀ ra : Nat, V p l e R s m args below meth c nL G A (cells + mc) (slots + ms) Q wn lv (pc + 3) (.ref ra :: rest)) : V p l e R s m args below meth c nL G A cells slots Q ws lv pc st :=
  v_callSUr X hM hG hw hrc hrs hd hR d hn hst hcat hroom q0 hq0 hci hJ.jr (fun u ra _ => kk ra)
theorem v_qS (X : VX p s m args meth c cc nL Ts own G A) {y : MethodName} {bytes : ByteArray} {maxL mc ms n index : Nat} {ret : Option FieldType} {wsY wsY' : List Cond} {rm : Room} {As rest : List Value} {wo wn wc wr : va_W} {isC isR isP : List Nat}   (hM : Kq l y wsY rm mc ms G wc As wo) (hG : GoodIn Ts (va_wsS own index y wsY)) (hw : wsY = Cond.code y bytes maxL ret :: wsY') (hrc : rm.cells = mc) (hrs : rm.slots = ms) (hd : y.cls ≠ "java/lang/invoke/MethodHandle" ∧ y.cls ≠ "java/lang/invoke/VarHandle" ∧ (parseMethodDescriptor y.desc).map (fun d => d.parameters.length) = some n) (hR : rm.frames + 1 ≤ R.frames ∧ 8 + (maxL + 11) + rm.locals ≤ R.locals) (d : decode cc pc = .ok (.invokestatic index, 3)) (hn : As.length = n) (hst : st = As.reverse ++ rest) (hcat : (rest.map fun v => v.category).sum ≤ 8) (hroom : cells + mc ≤ R.cells ∧ slots + ms ≤ R.slots) (hJ : VJe ws wc wr isC isR isP wo wn) (kk : ∀ ra : Nat, V p l e R s m args below meth c nL G A (cells + mc) (slots + ms) Q wn lv (pc + 3) (.ref ra :: rest)) : V p l e R s m args below meth c nL G A cells slots Q ws lv pc st :=
  v_callSr X hM hG hw hrc hrs hd hR d hn hst hcat hroom hJ.jr (fun u ra _ => kk ra)
/-! ### a static method of the outer class, over the nest -/
theorem v_callSNi (X : VX p s m args meth c cc nL Ts own G A) {y : MethodName} {bytes : ByteArray} {maxL mc ms n index i1 i2 : Nat} {ret : Option FieldType} {wsY wsY' : List Cond} {rm : Room} {As rest : List Value} {S : Type} {wo wn : S → va_W} {wc wr : va_W} {isC isR isP : List Nat} {post : Int32 → S → Prop} (hM : Ki l y wsY rm mc ms G wc As post wo) (hown0 : own = RX2) (hq : (index, y) ∈ xNest) (h1 : Ts[i1]? = some (Cond.static y)) (h2 : Ts[i2]? = some (Cond.initialized y.cls)) (hG : GoodIn Ts wsY) (hw : wsY = Cond.code y bytes maxL ret :: wsY') (hrc : rm.cells = mc) (hrs : rm.slots = ms) (hd : y.cls ≠ "java/lang/invoke/MethodHandle" ∧ y.cls ≠ "java/lang/invoke/VarHandle" ∧ (parseMethodDescriptor y.desc).map (fun d => d.parameters.length) = some n) (hR : rm.frames + 1 ≤ R.frames ∧ 8 + (maxL + 11) + rm.locals ≤ R.locals) (d : decode cc pc = .ok (.invokestatic index, 3)) (hn : As.length = n) (hst : st = As.reverse ++ rest) (hcat : (rest.map fun v => v.category).sum ≤ 8) (hroom : cells + mc ≤ R.cells ∧ slots + ms ≤ R.slots) (hJ : VJ ws wc wr isC isR isP wo wn) (kk : ∀ (r : Int32) (u : S), post r u → V p l e R s m args below meth c nL G A (cells + mc) (slots + ms) Q (wn u) lv (pc + 3) (.int r :: rest)) : V p l e R s m args below meth c nL G A cells slots Q ws lv pc st := by
  intro H locs ls hP hD hS hl
  obtain ⟨hC, hnC, hRr, hnR, hdis, hnP, hPm⟩ := hJ
  obtain ⟨hF, hPc, hU9⟩ := v_out X hP hD hS isC hC hnC
  obtain ⟨⟨hx, hb, hml, hown, hts⟩, hG9, hA, -⟩ := X
  subst hst
  subst hown0
  have hN : va_Nw (.methodLinkNest RX2 index y RX3) s := hG9.2.2.2.2.2.2.2.2.2 (index, y) hq
  refine va_calli (va_runSN (cc := cc) (nL := nL) (Ts := Ts) (own := RX2) (As := As) (rest := rest) ⟨hx, hb, hml, hown, hts⟩ (hM H.size) ⟨va_cnB n hts hG hw hrc hrs hN (hts _ (List.mem_of_getElem? h2)) hd hR, hts _ (List.mem_of_getElem? h1), True.intro⟩ ⟨KPc.blind, fun U hU hW => ⟨rfl, hU9 U hU hW⟩⟩ rfl hn hl.1 rfl (lv_room hcat) d hroom) hS (fun q _ h => hF q h) hF (fun r u t H1 locs1 ht hvm hw hB hz1 hk1 hS1 => ?_)
  obtain ⟨hP1, hD1⟩ := hB
  rw [ht] at hP1
  obtain ⟨hP2, hD2⟩ := v_back hP hD isC isR isP hC hRr hnR hdis hk1 hF hP1 hD1 hnP (hPm u)
  exact kk r u hw H1 locs1 ls hP2 hD2 hS1 hl
theorem v_e0SN (X : VX p s m args meth c cc nL Ts own G A) {y : MethodName} {bytes : ByteArray} {maxL mc ms n index i1 i2 : Nat} {ret : Option FieldType} {wsY wsY' : List Cond} {rm : Room} {As rest : List Value} {r : Int32} (hM : Ke l y wsY rm mc ms G [] As r []) (hown0 : own = RX2) (hq : (index, y) ∈ xNest) (h1 : Ts[i1]? = some (Cond.static y)) (h2 : Ts[i2]? = some (Cond.initialized y.cls)) (hG : GoodIn Ts wsY) (hw : wsY = Cond.code y bytes maxL ret :: wsY') (hrc : rm.cells = mc) (hrs : rm.slots = ms) (hd : y.cls ≠ "java/lang/invoke/MethodHandle" ∧ y.cls ≠ "java/lang/invoke/VarHandle" ∧ (parseMethodDescriptor y.desc).map (fun d => d.parameters.length) = some n) (hR : rm.frames + 1 ≤ R.frames ∧ 8 + (maxL + 11) + rm.locals ≤ R.locals) (d : decode cc pc = .ok (.invokestatic index, 3)) (hn : As.length = n) (hst : st = As.reverse ++ rest) (hcat : (rest.map fun v => v.category).sum ≤ 8) (hroom : cells + mc ≤ R.cells ∧ slots + ms ≤ R.slots) (kk : V p l e R s m args below meth c nL G A (cells + mc) (slots + ms) Q ws lv (pc + 3) (.int r :: rest)) : V p l e R s m args below meth c nL G A cells slots Q ws lv pc st :=
  v_callSNi X hM hown0 hq h1 h2 hG hw hrc hrs hd hR d hn hst hcat hroom (VJ.none ws) (fun r9 u hr => by obtain rfl : r9 = r := hr; exact kk)
/-! ### rows for the law's own methods -/
theorem v_ldc (X : VX p s m args meth c cc nL Ts own G A) {index i : Nat} {v : Int32} (d : decode cc pc = .ok (.ldc index, 2)) (hw : Ts[i]? = some (Cond.constant own index v)) (kk : V p l e R s m args below meth c nL G A cells slots Q ws lv (pc + 2) (.int v :: st)) : V p l e R s m args below meth c nL G A cells slots Q ws lv pc st := by
  intro H locs ls hP hD hS hl
  obtain ⟨⟨hx, hb, hml, hown, hts⟩, hG, -⟩ := X
  exact lv_ldc hx hb hown (hts _ (List.mem_of_getElem? hw)) d (kk H locs ls hP hD hS hl)
theorem v_top {a b : Int32} (h : a = b) (kk : V p l e R s m args below meth c nL G A cells slots Q ws lv pc (.int b :: st)) : V p l e R s m args below meth c nL G A cells slots Q ws lv pc (.int a :: st) := h ▸ kk
theorem v_lveq {lv' : List (Nat × Value)} (h : lv = lv') (kk : V p l e R s m args below meth c nL G A cells slots Q ws lv' pc st) : V p l e R s m args below meth c nL G A cells slots Q ws lv pc st := h ▸ kk
end VV
