/-! ## at: the script's ints -/
abbrev KPx (G : va_G) (As : List Value) (b L : Nat) (xs : Nat → Int32) (sz : Nat) : Array Value → State → Prop := va_Pc As (fun U => U.heap.size = sz ∧ va_P G vwCl [] U.heap ∧ GX G (va_A [] sz) U U.heap ∧ va_D (fun _ => True) [] ∧ va_X b L xs U U.heap ∧ b < sz)
theorem KPx.blind {G : va_G} {As : List Value} {b L : Nat} {xs : Nat → Int32} {sz : Nat} : FrameBlind (KPx G As b L xs sz) := fun a U g mk q => by
  obtain ⟨q0, q1, qP, qK, qD, qX, qb⟩ := q
  exact ⟨q0, q1, qP, qK.call g mk a, qD, va_X.moved (U := U.calling g mk a) (Vm.Alike.refl U.vm) qX, qb⟩
set_option maxHeartbeats 4000000 in
set_option maxRecDepth 100000 in
theorem c_at (l : Launch) (G : va_G) {b L : Nat} {xs : Nat → Int32} (hL : L ≤ 260) {k : Int32} (hk : ¬ k < 0) : ∀ sz : Nat, Met l yL_at wsL_at { frames := 0, cells := 0, slots := 0, locals := 0 } (KPx G [.ref b, .int k] b L xs sz) (va_Qi (S := Unit) (fun _ _ => True) (KB G (fun _ => ([] : va_W)) (va_A [] sz)) (va_A [] sz)) 0 0 (va_A [] sz) := by
  intro sz
  refine Met.ofW (cc := cL_at) (maxL := 2) (ret := some .int) (by decide) rfl ?_
  intro p e s m args below meth c s₁ B hml hv
  obtain ⟨rfl, hsz, hP, hK, hD0, hX, hbl⟩ := hv
  subst hsz
  have hD := hD0.self (sz := s.heap.size)
  have hl := lv_entry ([.ref b, .int k]) (n := 2) (Nat.le_of_ble_eq_true rfl)
  rw [lg_entry_eq]
  generalize (lg_sl ([.ref b, .int k]) ++ List.replicate (2 - (lg_sl ([.ref b, .int k])).length) Slot.unset).toArray = ls at hl ⊢
  have hl : lv_has ls 2 [(0, .ref b), (1, .int k)] := hl
  have hbA : ¬ va_A [] s.heap.size b := fun q => by
    rcases q with ⟨i, e, q⟩ | q
    · simp at q
    · omega
  have hr : meth.sig.returnType = some .int := B.returns
  have X : VX p s m ([.ref b, .int k] : List Value).toArray meth c cL_at 2 wsL_at RL G (va_A [] s.heap.size) := ⟨⟨B.exec, B.bytes, hml, findClass_of_methodNamed B.named, atoms_spec (ws := wsL_at) B.pre⟩, hK, fun q h => Or.inr h, B.notSynchronized⟩
  refine (?_ : V p l e (headSpec wsL_at { frames := 0, cells := 0, slots := 0, locals := 0 }).room s m ([.ref b, .int k] : List Value).toArray below meth c 2 G (va_A [] s.heap.size) 0 0 (QI below ([.ref b, .int k] : List Value).toArray s G (va_A [] s.heap.size) 0 0 (S := Unit) (fun _ _ => True) (fun _ => ([] : va_W))) [] [(0, .ref b), (1, .int k)] 0 []) s.heap [] ls hP hD va_S.rf hl
  refine v_iload_n (pc := 0) X dL_at_0 1 rfl ?_
  refine v_aload_n (pc := 1) X dL_at_1 0 rfl ?_
  refine v_slen (pc := 2) X hX hbl hbA dL_at_2 ?_
  refine v_icmp_ge (pc := 3) X 12 dL_at_3 (by decide) (fun c_3 => ?_) (fun c_3 => ?_)
  · refine v_ldc (pc := 12) (v := 1673918935) (i := 1) X dL_at_12 rfl ?_
    refine v_iload_n (pc := 14) X dL_at_14 1 rfl ?_
    refine v_iconst (pc := 15) (v := 1) X dL_at_15 (by decide) ?_
    refine v_iadd (pc := 16) X dL_at_16 rfl ?_
    refine v_imul (pc := 17) X dL_at_17 rfl ?_
    refine v_ldc (pc := 18) (v := 699917297) (i := 2) X dL_at_18 rfl ?_
    refine v_iadd (pc := 20) X dL_at_20 rfl ?_
    exact v_iret (pc := 21) X hr dL_at_21 () rfl True.intro
  · refine v_aload_n (pc := 6) X dL_at_6 0 rfl ?_
    refine v_iload_n (pc := 7) X dL_at_7 1 rfl ?_
    refine v_sld (pc := 8) X hX hbl hbA dL_at_8 (vp_in_of2 (M := nI L) (N := L) rfl (by omega) hk c_3) rfl ?_
    refine v_goto (pc := 9) X 21 dL_at_9 (by decide) ?_
    exact v_iret (pc := 21) X hr dL_at_21 () rfl True.intro
section VAT
variable {p : Program} {l : Launch} {e : Env} {R : Room} {s : State} {m : MethodId} {args : Array Value} {below : List Frame} {meth : Method} {c : Code} {cc : ByteArray} {nL : Nat} {Ts : List Cond} {own : String} {G : va_G} {A : Nat → Prop} {cells slots : Nat} {Q : State → Prop} {ws : va_W} {lv : List (Nat × Value)} {pc : Nat} {st : List Value}
theorem v_at (X : VX p s m args meth c cc nL Ts own G A) {b L : Nat} {xs : Nat → Int32} (hX : va_X b L xs s s.heap) (hbl : b < s.heap.size) (hbA : ¬ A b) (hL : L ≤ 260) {k : Int32} {index : Nat} {rest : List Value} (hk : ¬ k < 0) (hG : GoodIn Ts (va_wsS own index yL_at wsL_at)) (d : decode cc pc = .ok (.invokestatic index, 3)) (hcat : (rest.map fun v => v.category).sum ≤ 8) (hR : 0 + 1 ≤ R.frames ∧ 8 + (2 + 11) + 0 ≤ R.locals) (hroom : cells + 0 ≤ R.cells ∧ slots + 0 ≤ R.slots) (kk : ∀ r : Int32, V p l e R s m args below meth c nL G A (cells + 0) (slots + 0) Q ws lv (pc + 3) (.int r :: rest)) : V p l e R s m args below meth c nL G A cells slots Q ws lv pc (.int k :: .ref b :: rest) := by
  intro H locs ls hP hD hS hl
  obtain ⟨hC, hnC, hRr, hnR, hdis, hnP, hPm⟩ := VJ.none ws
  obtain ⟨hF, hPc, hU9⟩ := v_out X hP hD hS (wc := []) [] hC hnC
  obtain ⟨⟨hx, hb, hml, hown, hts⟩, hG9, hA, -⟩ := X
  have hb9 : H[b]? = s.heap[b]? := hS.2.1 b hbl hbA
  have hsz : b < H.size := Nat.lt_of_lt_of_le hbl hS.1
  refine va_calli (va_runS (cc := cc) (nL := nL) (Ts := Ts) (own := own) (As := [.ref b, .int k]) (rest := rest) ⟨hx, hb, hml, hown, hts⟩ (c_at l G (xs := xs) hL hk H.size) (va_cwS 2 hts hG rfl rfl rfl (by decide +kernel) hR) ⟨KPx.blind, fun U hU hW => ⟨rfl, ?_⟩⟩ rfl rfl hl.1 rfl (lv_room hcat) d hroom) hS (fun q _ h => hF q h) hF (fun r u t H1 locs1 ht hvm hw hB hz1 hk1 hS1 => ?_)
  · obtain ⟨g1, g2, g3, g4⟩ := hU9 U hU hW
    exact ⟨g1, g2, g3, g4, by rw [hU]; exact va_X.moved hW.alike (hX.kept hb9), hsz⟩
  · obtain ⟨hP1, hD1⟩ := hB
    rw [ht] at hP1
    obtain ⟨hP2, hD2⟩ := v_back hP hD [] (List.range ws.length) (List.range ws.length) hC hRr hnR hdis hk1 hF hP1 hD1 hnP (hPm u)
    exact kk r H1 locs1 ls hP2 hD2 hS1 hl
end VAT
theorem pi_cast {t t' : Nat} (e : t = t') {kt : Nat → Int32} {nw : Int32} {dw df dr de th tm tb td tg tl : Nat → Int32} {tn : Int32} {lk lp lg lm : Nat → Int32} {ls lv : Int32} {gg wA bb : Nat → Int32} (h : PInv t kt nw dw df dr de th tm tb td tg tl tn lk lp lg lm ls lv gg wA bb) : PInv t' kt nw dw df dr de th tm tb td tg tl tn lk lp lg lm ls lv gg wA bb := e ▸ h
theorem pi_w {t : Nat} {kt : Nat → Int32} {nw : Int32} {dw df dr de th tm tb td tg tl : Nat → Int32} {tn : Int32} {lk lp lg lm : Nat → Int32} {ls lv : Int32} {gg wA bb : Nat → Int32} (h : PInv t kt nw dw df dr de th tm tb td tg tl tn lk lp lg lm ls lv gg wA bb) (ht : t ≤ 100) : ∃ w : Nat, w < 100000 ∧ nw = nI w ∧ ∀ j : Nat, j < 12 → ∃ e : Nat, e ≤ w + 30 ∧ de j = nI e := by
  obtain ⟨w, hw, h2⟩ := pi_nw h
  exact ⟨w, by omega, h2⟩
theorem pi_sg {t : Nat} {kt : Nat → Int32} {nw : Int32} {dw df dr de th tm tb td tg tl : Nat → Int32} {tn : Int32} {lk lp lg lm : Nat → Int32} {ls lv : Int32} {gg wA bb : Nat → Int32} (h : PInv t kt nw dw df dr de th tm tb td tg tl tn lk lp lg lm ls lv gg wA bb) (ht : t ≤ 100) {x : Int32} (hx : vp_in x 12) : sgR1 5 0 0 (sgF (bb x.toNatClampNeg) x 0) x (bb x.toNatClampNeg) = 1 := by
  obtain ⟨a, ha, rfl⟩ := vp_in_of hx (by decide)
  obtain ⟨h1, h2, h3, h4, h5, h6⟩ := h
  rw [zc_nat (n := a) (by omega), h6.2.2.2.2.2.2.2.2 a ha]
  obtain ⟨b, hb, e⟩ := h5 a ha
  rw [e]
  exact isSign_1 a ha b (by omega)
theorem at_pos {x : Int32} (hx : vp_in x 100) : ¬ 2 * x < 0 ∧ ¬ 2 * x + 1 < 0 := by
  obtain ⟨a, ha, rfl⟩ := vp_in_of hx (by decide)
  rw [show (2 : Int32) = nI 2 from rfl, pk_mul, nI_1]
  exact ⟨nI_pos (by omega), nI_pos (by omega)⟩
theorem ini_s {wA bb : Nat → Int32} {x : Int32} {n : Nat} (hI : x = nI (12 + 1 - (n + 1)) ∧ 1 ≤ n + 1 ∧ n + 1 ≤ 12 + 1) (c : ¬ 12 ≤ x) (h : ∀ j : Nat, j < 12 + 1 - (n + 1) → wA j = nI (11 * j) ∧ bb j = nI j) : ∀ j : Nat, j < 12 + 1 - n → upd wA x.toNatClampNeg (11 * x) j = nI (11 * j) ∧ upd bb x.toNatClampNeg x j = nI j := by
  obtain ⟨e, h1, h2⟩ := hI
  have hn : 1 ≤ n := by
    rcases Nat.eq_zero_or_pos n with z | z
    · subst z; subst e; exact absurd zc_12e c
    · exact z
  subst e
  rw [zc_nat (by omega)]
  intro j hj
  by_cases q : j = 12 + 1 - (n + 1)
  · subst q
    rw [upd_at, upd_at, show (11 : Int32) = nI 11 from rfl, pk_mul]
    exact ⟨rfl, rfl⟩
  · rw [upd_ne _ _ q, upd_ne _ _ q]
    exact h j (by omega)
theorem ini_e {wA bb : Nat → Int32} {x : Int32} {n : Nat} (hI : x = nI (12 + 1 - (n + 1)) ∧ 1 ≤ n + 1 ∧ n + 1 ≤ 12 + 1) (c : 12 ≤ x) (h : ∀ j : Nat, j < 12 + 1 - (n + 1) → wA j = nI (11 * j) ∧ bb j = nI j) : ∀ j : Nat, j < 12 → wA j = nI (11 * j) ∧ bb j = nI j := by
  obtain ⟨e, h1, h2⟩ := hI
  subst e
  have h3 := (nI_leI (a := 12) (b := 12 + 1 - (n + 1)) (by decide) (by omega)).mp c
  exact fun j hj => h j (by omega)
theorem ini_kt : ∀ j : Nat, j < 4 → FX3_init_64_w57 5 0 (fun _ => 0) j = 1 := by decide +kernel
theorem ini_dw : ∀ j : Nat, j < 12 → FX0_init_38_w7 13 0 (fun _ => 0) j = nI (11 * j) := by decide +kernel
