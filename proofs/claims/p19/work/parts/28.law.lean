set_option maxRecDepth 20000 in
theorem pinv_0 {wA bb : Nat → Int32} (hW : ∀ j : Nat, j < 12 → wA j = nI (11 * j) ∧ bb j = nI j) : PInv (100 + 1 - 101) (FX3_init_64_w57 5 0 (fun _ => 0)) 0 (FX0_init_38_w7 13 0 (fun _ => 0)) (fun _ => 0) (fun _ => 0) (fun _ => 0) (f_X2_reset_th (fun _ => 0) (fun _ => 0) (fun _ => 0) (fun _ => 0)) (fun _ => 0) (fun _ => 0) (f_X2_reset_td (fun _ => 0) (fun _ => 0) (fun _ => 0) (fun _ => 0)) (f_X2_reset_tg (fun _ => 0) (fun _ => 0) (fun _ => 0) (fun _ => 0)) (f_X2_reset_tl (fun _ => 0) (fun _ => 0) (fun _ => 0) (fun _ => 0)) f_X2_reset_tn (fun _ => 0) (fun _ => 0) (fun _ => 0) (fun _ => 0) 0 0 (upd (fun _ => 0) (2 : Int32).toNatClampNeg 12) wA bb := by
  have hf := reset_fresh (fun _ => 0) (fun _ => 0) (fun _ => 0) (fun _ => 0) (fun _ => 0) (fun _ => 0)
  obtain ⟨hf, -⟩ := hf
  refine ⟨⟨0, Nat.zero_le _, nI_0.symm, fun j hj => ⟨0, Nat.zero_le _, nI_0.symm⟩⟩, fun j hj => ⟨11 * j, by omega, ini_dw j hj⟩, fun j hj => ⟨Or.inl rfl, fun _ => rfl⟩, fun j hj => Or.inl (hf j hj).1, fun j hj => ⟨j, by omega, (hf j hj).2.2.1⟩, ⟨12, by decide, rfl⟩, ⟨0, Nat.zero_le _, nI_0.symm⟩, ini_kt, ⟨0, Nat.zero_le _, nI_0.symm, fun j hj => absurd hj (Nat.not_lt_zero j), fun S hS => ⟨fun j hj => ?_, hS.2⟩⟩, by rw [upd_ne _ _ (by decide)], by rw [upd_ne _ _ (by decide)], by exact upd_at _ _ _, fun j hj => (hW j hj).1.trans (ini_dw j hj).symm, fun j hj => (hW j hj).2.trans (hf j hj).2.2.1.symm⟩
  obtain ⟨s1, s2, s3, s4⟩ := hS.1 j hj
  obtain ⟨t1, t2, t3, t4⟩ := hf j hj
  exact ⟨s1.trans t1.symm, fun z => absurd s1 z, s2.trans t2.symm, s3.trans t3.symm, s4.trans t4.symm⟩
def R_law : String := "VouchGateLaw"
def lw_P (b : Addr) (xs : List Int32) (args : Array Value) (s : State) : Prop := args = #[.ref b] ∧ s.IntsAt b xs ∧ xs.length ≤ 260 ∧ (Jvm.Cond.and given_1 narrow_1).before args s = true
def lw_Q (_ : Array Value) (s : State) (o : Outcome) (t : State) : Prop := o = .returned (some (.int 1)) ∧ Framed s o t [] 677207 7069846
def lw_Z (below : List Frame) (a : Array Value) (s : State) : State → Prop := fun t => ∃ o, t.status = .running ∧ Ended t below o ∧ lw_Q a s o t
/-- the law's own end, with 1 on the stack, nothing written that was there before, its room as the claim has it -/
theorem lw_ret {p : Program} {l : Launch} {e : Env} {s : State} {m : MethodId} {below : List Frame} {meth : Method} {c : Code} {b : Nat} (hx : p.tables.exec = Jvm.exec) (hb : c.code = code) (hr : meth.sig.returnType = ret) (hlocks : meth.locks = false) {pc : Nat} {H : Heap} {ls : Array Slot} (hdg : decode code pc = .ok (.ireturn, 1)) : W p l e room_1 s m #[Value.ref b] below meth c H [] 677207 7069846 (lw_Z below #[Value.ref b] s) (F0 m pc ls [.int 1]) := by
  intro T hT X
  obtain ⟨fs, hret, hrun, hended, hW, hframe⟩ := X.leave (v := some (.int 1)) (hlocks := hlocks) (fun h => by rw [hr] at h; cases h)
  have hmeth' : T.vm.method? m = some meth := X.method'
  refine ⟨T.setFrames fs, ?_, .returned (some (.int 1)), hrun, hended, rfl, ⟨_, rfl⟩, hW, hframe⟩
  jvm_step X.here [X.here.top, hx, hb, hdg, hmeth', hr, ret, narrow_b1]
  (try refine ⟨rfl, ?_⟩); (try refine ⟨rfl, ?_⟩)
  first | (intro acts; rw [hret _ acts rfl rfl rfl]) | rw [hret _ _ rfl rfl rfl]
  exact Steps.refl _
/-- what holds at the law's entry: the machine, the code, the tables' words (any of lw_tbl by 'hts w (by decide +kernel)'), the script of L ints xs at the cell b, what the Statement gives of the start (any of its parts by flat_of_before) -/
def lw_At (p : Program) (s : State) (m : MethodId) (meth : Method) (c : Code) (b L : Nat) (xs : Nat → Int32) : Prop :=
  p.tables.exec = Jvm.exec ∧ c.code = code ∧ meth.sig.returnType = ret ∧ c.maxLocals = 7 ∧ s.vm.findClass R_law = some m.cls ∧ (∀ w ∈ lw_tbl, w.before #[Value.ref b] s = true) ∧ va_X b L xs s s.heap ∧ b < s.heap.size ∧ meth.locks = false ∧ (Jvm.Cond.and given_1 narrow_1).before #[Value.ref b] s = true
section FIN
variable {p : Program} {l : Launch} {e : Env} {s : State} {m : MethodId} {below : List Frame} {meth : Method} {c : Code} {G : va_G} {b : Nat}
set_option maxRecDepth 100000 in
theorem law_fin {cells slots : Nat} {ws : va_W} {lv : List (Nat × Value)} (X : VX p s m #[Value.ref b] meth c cL_law 7 wsL_law RL G (fun q => s.heap.size ≤ q)) (hr : meth.sig.returnType = ret) (hc : cells ≤ 677207) (hs : slots ≤ 7069846) : V p l e room_1 s m #[Value.ref b] below meth c 7 G (fun q => s.heap.size ≤ q) cells slots (lw_Z below #[Value.ref b] s) ws lv 202 [.int 1] := by
  intro H locs ls hP hD hS hl
  obtain ⟨⟨hx, hb, hml, hown, hts⟩, hG, hA, hlk⟩ := X
  refine va_forget (fun q hq => hS.2.2 q hq) ?_
  refine W.widen (k := 677207) (n := 7069846) hc hs ?_
  exact lw_ret hx hb hr hlk dL_law_202
end FIN
set_option maxHeartbeats 8000000 in
set_option maxRecDepth 100000 in
theorem whole_start {p : Program} {e : Env} {s : State} {m : MethodId} {below : List Frame} {meth : Method} {c : Code} (l : Launch) (hflags : l.flags = flags0) {b L : Nat} {xs : Nat → Int32} (hL : L ≤ 260) (C0 : lw_At p s m meth c b L xs) : W p l e room_1 s m #[Value.ref b] below meth c s.heap [] 0 0 (lw_Z below #[Value.ref b] s) (entryFrame m ([Value.ref b] : List Value).toArray 7) := by
  obtain ⟨hx, hb, hr, hml, hown, hts, hX, hbl, hlocks, hgv⟩ := C0
  have hfl : l.stackTraces = false := by
    unfold Launch.stackTraces
    rw [hflags]
    decide
  have htL : ∀ w ∈ wsL_law, w.before #[Value.ref b] s = true := fun w hw => hts2 hts w (wsL_law_in w hw)
  obtain ⟨G, hG⟩ := gx_start hts htL hgv
  have X : VX p s m #[Value.ref b] meth c cL_law 7 wsL_law RL G (fun q => s.heap.size ≤ q) := ⟨⟨hx, hb, hml, hown, htL⟩, hG, fun q h => h, hlocks⟩
  have hl := lv_entry ([.ref b]) (n := 7) (Nat.le_of_ble_eq_true rfl)
  rw [lg_entry_eq]
  generalize (lg_sl ([.ref b]) ++ List.replicate (7 - (lg_sl ([.ref b])).length) Slot.unset).toArray = ls at hl ⊢
  have hl : lv_has ls 7 [(0, .ref b)] := hl
  have hP : va_P G vwCl [] s.heap := fun k q h => by simp at h
  have hD : va_D (fun q : Nat => s.heap.size ≤ q) [] := ⟨fun i j p q h => by simp at h, fun k q h => by simp at h⟩
  refine (?_ : V p l e room_1 s m #[Value.ref b] below meth c 7 G (fun q => s.heap.size ≤ q) 0 0 (lw_Z below #[Value.ref b] s) [] [(0, .ref b)] 0 []) s.heap [] ls hP hD va_S.rf hl
  refine v_new (pc := 0) (i1 := 0) (i2 := 1) (i3 := 2) (ci := 4) X [.null, .null, .null, .null, .null, .null, .int 0] dL_law_0 inlX3 tyX3_ok rfl rfl rfl rfl (by decide) (Nat.le_of_ble_eq_true rfl) (Nat.le_of_ble_eq_true rfl) (fun q0 => ?_)
  refine v_ws (ws' := ([(q0, .inr (4, [.null, .null, .null, .null, .null, .null, .int 0]))])) rfl ?_
  refine v_dup (pc := 3) X dL_law_3 rfl ?_
  refine v_callIv (pc := 4) (rest := [.ref q0]) (n := 0) (i1 := 2) (i2 := 4) (i3 := 5) (wr := ([] : va_W)) (wn := fun (q9 : (Nat → Nat) × (Nat → Nat) × (Nat → Nat) × (Nat → Nat) × (Nat → Nat)) => (wG G (q9.1) (q9.2.1) (q9.2.2.1) (q9.2.2.2.1) (q9.2.2.2.2) (fun _ => 0) (FX3_init_64_w57 5 0 (fun _ => 0)) 0 ++ (wD G (q9.2.1) (FX0_init_38_w7 13 0 (fun _ => 0)) (fun _ => 0) (fun _ => 0) (fun _ => 0) ++ (wT G (q9.2.2.1) (f_X2_reset_th (fun _ => 0) (fun _ => 0) (fun _ => 0) (fun _ => 0)) (fun _ => 0) (fun _ => 0) (fun _ => 0) (f_X2_reset_td (fun _ => 0) (fun _ => 0) (fun _ => 0) (fun _ => 0)) (f_X2_reset_tg (fun _ => 0) (fun _ => 0) (fun _ => 0) (fun _ => 0)) (f_X2_reset_tl (fun _ => 0) (fun _ => 0) (fun _ => 0) (fun _ => 0)) f_X2_reset_tn ++ (wT G (q9.2.2.2.1) (f_X2_reset_th (fun _ => 0) (fun _ => 0) (fun _ => 0) (fun _ => 0)) (fun _ => 0) (fun _ => 0) (fun _ => 0) (f_X2_reset_td (fun _ => 0) (fun _ => 0) (fun _ => 0) (fun _ => 0)) (f_X2_reset_tg (fun _ => 0) (fun _ => 0) (fun _ => 0) (fun _ => 0)) (f_X2_reset_tl (fun _ => 0) (fun _ => 0) (fun _ => 0) (fun _ => 0)) f_X2_reset_tn ++ (wL G (q9.2.2.2.2) (fun _ => 0) (fun _ => 0) (fun _ => 0) (fun _ => 0) 0 0)))))) (isC := [0]) (isR := []) (isP := [0, 1, 2, 3, 4, 5, 6, 7, 8, 9, 10, 11, 12, 13, 14, 15, 16, 17, 18, 19, 20, 21, 22, 23, 24, 25, 26, 27, 28]) X (c_X3_init l G q0) gL_law_X3_init rfl rfl rfl rfl rfl rfl rfl (by decide +kernel) ⟨Nat.le_of_ble_eq_true rfl, Nat.le_of_ble_eq_true rfl⟩ dL_law_4 rfl rfl (Nat.le_of_ble_eq_true rfl) ⟨Nat.le_of_ble_eq_true rfl, Nat.le_of_ble_eq_true rfl⟩ ⟨rfl, rfl, rfl, rfl, by decide, rfl, fun _ => rfl⟩ (fun q9 hh9 => ?_)
  obtain ⟨a4, d4, t4, u4, g4⟩ := q9
  obtain rfl : a4 0 = q0 := hh9
  refine v_ws (ws' := (wG G a4 d4 t4 u4 g4 (fun _ => 0) (FX3_init_64_w57 5 0 (fun _ => 0)) 0 ++ (wD G d4 (FX0_init_38_w7 13 0 (fun _ => 0)) (fun _ => 0) (fun _ => 0) (fun _ => 0) ++ (wT G t4 (f_X2_reset_th (fun _ => 0) (fun _ => 0) (fun _ => 0) (fun _ => 0)) (fun _ => 0) (fun _ => 0) (fun _ => 0) (f_X2_reset_td (fun _ => 0) (fun _ => 0) (fun _ => 0) (fun _ => 0)) (f_X2_reset_tg (fun _ => 0) (fun _ => 0) (fun _ => 0) (fun _ => 0)) (f_X2_reset_tl (fun _ => 0) (fun _ => 0) (fun _ => 0) (fun _ => 0)) f_X2_reset_tn ++ (wT G u4 (f_X2_reset_th (fun _ => 0) (fun _ => 0) (fun _ => 0) (fun _ => 0)) (fun _ => 0) (fun _ => 0) (fun _ => 0) (f_X2_reset_td (fun _ => 0) (fun _ => 0) (fun _ => 0) (fun _ => 0)) (f_X2_reset_tg (fun _ => 0) (fun _ => 0) (fun _ => 0) (fun _ => 0)) (f_X2_reset_tl (fun _ => 0) (fun _ => 0) (fun _ => 0) (fun _ => 0)) f_X2_reset_tn ++ (wL G g4 (fun _ => 0) (fun _ => 0) (fun _ => 0) (fun _ => 0) 0 0)))))) rfl ?_
  refine v_astore_n (pc := 7) (lv' := [(0, .ref b), (1, .ref (a4 0))]) X dL_law_7 rfl (Nat.le_of_ble_eq_true rfl) [1, 0] rfl ?_
  refine v_iconst (pc := 8) (v := 3) X dL_law_8 (by decide) ?_
  refine v_newI (pc := 9) (i := 3) (N := 3) X dL_law_9 rfl (by decide) (by decide) (Nat.le_of_ble_eq_true rfl) (Nat.le_of_ble_eq_true rfl) (Nat.le_of_ble_eq_true rfl) (fun q9 => ?_)
  refine v_ws (ws' := (wG G a4 d4 t4 u4 g4 (fun _ => 0) (FX3_init_64_w57 5 0 (fun _ => 0)) 0 ++ (wD G d4 (FX0_init_38_w7 13 0 (fun _ => 0)) (fun _ => 0) (fun _ => 0) (fun _ => 0) ++ (wT G t4 (f_X2_reset_th (fun _ => 0) (fun _ => 0) (fun _ => 0) (fun _ => 0)) (fun _ => 0) (fun _ => 0) (fun _ => 0) (f_X2_reset_td (fun _ => 0) (fun _ => 0) (fun _ => 0) (fun _ => 0)) (f_X2_reset_tg (fun _ => 0) (fun _ => 0) (fun _ => 0) (fun _ => 0)) (f_X2_reset_tl (fun _ => 0) (fun _ => 0) (fun _ => 0) (fun _ => 0)) f_X2_reset_tn ++ (wT G u4 (f_X2_reset_th (fun _ => 0) (fun _ => 0) (fun _ => 0) (fun _ => 0)) (fun _ => 0) (fun _ => 0) (fun _ => 0) (f_X2_reset_td (fun _ => 0) (fun _ => 0) (fun _ => 0) (fun _ => 0)) (f_X2_reset_tg (fun _ => 0) (fun _ => 0) (fun _ => 0) (fun _ => 0)) (f_X2_reset_tl (fun _ => 0) (fun _ => 0) (fun _ => 0) (fun _ => 0)) f_X2_reset_tn ++ (wL G g4 (fun _ => 0) (fun _ => 0) (fun _ => 0) (fun _ => 0) 0 0 ++ ([(q9, .inl (G.1 10, 3, .inl (fun _ => 0)))]))))))) rfl ?_
  refine v_astore_n (pc := 11) (lv' := [(0, .ref b), (1, .ref (a4 0)), (2, .ref q9)]) X dL_law_11 rfl (Nat.le_of_ble_eq_true rfl) [1, 2, 0] rfl ?_
  refine v_bipush (pc := 12) (v := 12) X dL_law_12 (by decide) ?_
  refine v_newI (pc := 14) (i := 3) (N := 12) X dL_law_14 rfl (by decide) (by decide) (Nat.le_of_ble_eq_true rfl) (Nat.le_of_ble_eq_true rfl) (Nat.le_of_ble_eq_true rfl) (fun q14 => ?_)
  refine v_ws (ws' := (wG G a4 d4 t4 u4 g4 (fun _ => 0) (FX3_init_64_w57 5 0 (fun _ => 0)) 0 ++ (wD G d4 (FX0_init_38_w7 13 0 (fun _ => 0)) (fun _ => 0) (fun _ => 0) (fun _ => 0) ++ (wT G t4 (f_X2_reset_th (fun _ => 0) (fun _ => 0) (fun _ => 0) (fun _ => 0)) (fun _ => 0) (fun _ => 0) (fun _ => 0) (f_X2_reset_td (fun _ => 0) (fun _ => 0) (fun _ => 0) (fun _ => 0)) (f_X2_reset_tg (fun _ => 0) (fun _ => 0) (fun _ => 0) (fun _ => 0)) (f_X2_reset_tl (fun _ => 0) (fun _ => 0) (fun _ => 0) (fun _ => 0)) f_X2_reset_tn ++ (wT G u4 (f_X2_reset_th (fun _ => 0) (fun _ => 0) (fun _ => 0) (fun _ => 0)) (fun _ => 0) (fun _ => 0) (fun _ => 0) (f_X2_reset_td (fun _ => 0) (fun _ => 0) (fun _ => 0) (fun _ => 0)) (f_X2_reset_tg (fun _ => 0) (fun _ => 0) (fun _ => 0) (fun _ => 0)) (f_X2_reset_tl (fun _ => 0) (fun _ => 0) (fun _ => 0) (fun _ => 0)) f_X2_reset_tn ++ (wL G g4 (fun _ => 0) (fun _ => 0) (fun _ => 0) (fun _ => 0) 0 0 ++ ([(q9, .inl (G.1 10, 3, .inl (fun _ => 0))), (q14, .inl (G.1 10, 12, .inl (fun _ => 0)))]))))))) rfl ?_
  refine v_astore_n (pc := 16) (lv' := [(0, .ref b), (1, .ref (a4 0)), (2, .ref q9), (3, .ref q14)]) X dL_law_16 rfl (Nat.le_of_ble_eq_true rfl) [1, 2, 3, 0] rfl ?_
  refine v_bipush (pc := 17) (v := 12) X dL_law_17 (by decide) ?_
  refine v_newI (pc := 19) (i := 3) (N := 12) X dL_law_19 rfl (by decide) (by decide) (Nat.le_of_ble_eq_true rfl) (Nat.le_of_ble_eq_true rfl) (Nat.le_of_ble_eq_true rfl) (fun q19 => ?_)
  refine v_ws (ws' := (wG G a4 d4 t4 u4 g4 (fun _ => 0) (FX3_init_64_w57 5 0 (fun _ => 0)) 0 ++ (wD G d4 (FX0_init_38_w7 13 0 (fun _ => 0)) (fun _ => 0) (fun _ => 0) (fun _ => 0) ++ (wT G t4 (f_X2_reset_th (fun _ => 0) (fun _ => 0) (fun _ => 0) (fun _ => 0)) (fun _ => 0) (fun _ => 0) (fun _ => 0) (f_X2_reset_td (fun _ => 0) (fun _ => 0) (fun _ => 0) (fun _ => 0)) (f_X2_reset_tg (fun _ => 0) (fun _ => 0) (fun _ => 0) (fun _ => 0)) (f_X2_reset_tl (fun _ => 0) (fun _ => 0) (fun _ => 0) (fun _ => 0)) f_X2_reset_tn ++ (wT G u4 (f_X2_reset_th (fun _ => 0) (fun _ => 0) (fun _ => 0) (fun _ => 0)) (fun _ => 0) (fun _ => 0) (fun _ => 0) (f_X2_reset_td (fun _ => 0) (fun _ => 0) (fun _ => 0) (fun _ => 0)) (f_X2_reset_tg (fun _ => 0) (fun _ => 0) (fun _ => 0) (fun _ => 0)) (f_X2_reset_tl (fun _ => 0) (fun _ => 0) (fun _ => 0) (fun _ => 0)) f_X2_reset_tn ++ (wL G g4 (fun _ => 0) (fun _ => 0) (fun _ => 0) (fun _ => 0) 0 0 ++ ([(q9, .inl (G.1 10, 3, .inl (fun _ => 0))), (q14, .inl (G.1 10, 12, .inl (fun _ => 0))), (q19, .inl (G.1 10, 12, .inl (fun _ => 0)))]))))))) rfl ?_
  refine v_astore (pc := 21) (lv' := [(0, .ref b), (1, .ref (a4 0)), (2, .ref q9), (3, .ref q14), (4, .ref q19)]) X dL_law_21 (Nat.le_of_ble_eq_true rfl) [1, 2, 3, 4, 0] rfl ?_
  refine v_ws (ws' := (wG G a4 d4 t4 u4 g4 (fun _ => 0) (FX3_init_64_w57 5 0 (fun _ => 0)) 0 ++ (wD G d4 (FX0_init_38_w7 13 0 (fun _ => 0)) (fun _ => 0) (fun _ => 0) (fun _ => 0) ++ (wT G t4 (f_X2_reset_th (fun _ => 0) (fun _ => 0) (fun _ => 0) (fun _ => 0)) (fun _ => 0) (fun _ => 0) (fun _ => 0) (f_X2_reset_td (fun _ => 0) (fun _ => 0) (fun _ => 0) (fun _ => 0)) (f_X2_reset_tg (fun _ => 0) (fun _ => 0) (fun _ => 0) (fun _ => 0)) (f_X2_reset_tl (fun _ => 0) (fun _ => 0) (fun _ => 0) (fun _ => 0)) f_X2_reset_tn ++ (wT G u4 (f_X2_reset_th (fun _ => 0) (fun _ => 0) (fun _ => 0) (fun _ => 0)) (fun _ => 0) (fun _ => 0) (fun _ => 0) (f_X2_reset_td (fun _ => 0) (fun _ => 0) (fun _ => 0) (fun _ => 0)) (f_X2_reset_tg (fun _ => 0) (fun _ => 0) (fun _ => 0) (fun _ => 0)) (f_X2_reset_tl (fun _ => 0) (fun _ => 0) (fun _ => 0) (fun _ => 0)) f_X2_reset_tn ++ (wL G g4 (fun _ => 0) (fun _ => 0) (fun _ => 0) (fun _ => 0) 0 0 ++ (wg G (adr [q9]) (fun _ => 0) ++ (ww G (adr [q14]) (fun _ => 0) ++ (ww G (adr [q19]) (fun _ => 0)))))))))) rfl ?_
  refine v_aload_n (pc := 23) X dL_law_23 2 rfl ?_
  refine v_iconst (pc := 24) (v := 2) X dL_law_24 (by decide) ?_
  refine v_bipush (pc := 25) (v := 12) X dL_law_25 (by decide) ?_
  refine v_iast (pc := 27) (ws' := (wG G a4 d4 t4 u4 g4 (fun _ => 0) (FX3_init_64_w57 5 0 (fun _ => 0)) 0 ++ (wD G d4 (FX0_init_38_w7 13 0 (fun _ => 0)) (fun _ => 0) (fun _ => 0) (fun _ => 0) ++ (wT G t4 (f_X2_reset_th (fun _ => 0) (fun _ => 0) (fun _ => 0) (fun _ => 0)) (fun _ => 0) (fun _ => 0) (fun _ => 0) (f_X2_reset_td (fun _ => 0) (fun _ => 0) (fun _ => 0) (fun _ => 0)) (f_X2_reset_tg (fun _ => 0) (fun _ => 0) (fun _ => 0) (fun _ => 0)) (f_X2_reset_tl (fun _ => 0) (fun _ => 0) (fun _ => 0) (fun _ => 0)) f_X2_reset_tn ++ (wT G u4 (f_X2_reset_th (fun _ => 0) (fun _ => 0) (fun _ => 0) (fun _ => 0)) (fun _ => 0) (fun _ => 0) (fun _ => 0) (f_X2_reset_td (fun _ => 0) (fun _ => 0) (fun _ => 0) (fun _ => 0)) (f_X2_reset_tg (fun _ => 0) (fun _ => 0) (fun _ => 0) (fun _ => 0)) (f_X2_reset_tl (fun _ => 0) (fun _ => 0) (fun _ => 0) (fun _ => 0)) f_X2_reset_tn ++ (wL G g4 (fun _ => 0) (fun _ => 0) (fun _ => 0) (fun _ => 0) 0 0 ++ (wg G (adr [q9]) (upd (fun _ => 0) (2 : Int32).toNatClampNeg 12) ++ (ww G (adr [q14]) (fun _ => 0) ++ (ww G (adr [q19]) (fun _ => 0)))))))))) X dL_law_27 29 rfl (by unfold vp_in; decide) rfl ?_
  refine v_iconst (pc := 28) (v := 1) X dL_law_28 (by decide) ?_
  refine v_istore (pc := 29) (lv' := [(0, .ref b), (1, .ref (a4 0)), (2, .ref q9), (3, .ref q14), (4, .ref q19), (5, .int 1)]) X dL_law_29 (Nat.le_of_ble_eq_true rfl) [1, 2, 3, 4, 5, 0] rfl ?_
  refine v_iconst (pc := 31) (v := 0) X dL_law_31 (by decide) ?_
  refine v_istore (pc := 32) (lv' := [(0, .ref b), (1, .ref (a4 0)), (2, .ref q9), (3, .ref q14), (4, .ref q19), (5, .int 1), (6, .int 0)]) X dL_law_32 (Nat.le_of_ble_eq_true rfl) [1, 2, 3, 4, 5, 6, 0] rfl ?_
  have LP34 : ∀ (n34 : Nat) (x6 : Int32) (wA : Nat → Int32) (bb : Nat → Int32), n34 ≤ 13 → (x6 = nI (12 + 1 - n34) ∧ 1 ≤ n34 ∧ n34 ≤ 12 + 1) → (∀ j : Nat, j < 12 + 1 - n34 → wA j = nI (11 * j) ∧ bb j = nI j) → V p l e room_1 s m #[Value.ref b] below meth c 7 G (fun q => s.heap.size ≤ q) (32 + 0 * (13 - n34)) (2332 + 0 * (13 - n34)) (lw_Z below #[Value.ref b] s) (wG G a4 d4 t4 u4 g4 (fun _ => 0) (FX3_init_64_w57 5 0 (fun _ => 0)) 0 ++ (wD G d4 (FX0_init_38_w7 13 0 (fun _ => 0)) (fun _ => 0) (fun _ => 0) (fun _ => 0) ++ (wT G t4 (f_X2_reset_th (fun _ => 0) (fun _ => 0) (fun _ => 0) (fun _ => 0)) (fun _ => 0) (fun _ => 0) (fun _ => 0) (f_X2_reset_td (fun _ => 0) (fun _ => 0) (fun _ => 0) (fun _ => 0)) (f_X2_reset_tg (fun _ => 0) (fun _ => 0) (fun _ => 0) (fun _ => 0)) (f_X2_reset_tl (fun _ => 0) (fun _ => 0) (fun _ => 0) (fun _ => 0)) f_X2_reset_tn ++ (wT G u4 (f_X2_reset_th (fun _ => 0) (fun _ => 0) (fun _ => 0) (fun _ => 0)) (fun _ => 0) (fun _ => 0) (fun _ => 0) (f_X2_reset_td (fun _ => 0) (fun _ => 0) (fun _ => 0) (fun _ => 0)) (f_X2_reset_tg (fun _ => 0) (fun _ => 0) (fun _ => 0) (fun _ => 0)) (f_X2_reset_tl (fun _ => 0) (fun _ => 0) (fun _ => 0) (fun _ => 0)) f_X2_reset_tn ++ (wL G g4 (fun _ => 0) (fun _ => 0) (fun _ => 0) (fun _ => 0) 0 0 ++ (wg G (adr [q9]) (upd (fun _ => 0) (2 : Int32).toNatClampNeg 12) ++ (ww G (adr [q14]) wA ++ (ww G (adr [q19]) bb)))))))) [(0, .ref b), (1, .ref (a4 0)), (2, .ref q9), (3, .ref q14), (4, .ref q19), (5, .int 1), (6, .int x6)] 34 [] := by
    intro n34
    induction n34 with
    | zero => intro x6 wA bb hn34 hI34 hW34; exact False.elim (by omega)
    | succ n34 ih34 =>
      intro x6 wA bb hn34 hI34 hW34
      refine v_iload (pc := 34) X dL_law_34 6 rfl ?_
      refine v_bipush (pc := 36) (v := 12) X dL_law_36 (by decide) ?_
      refine v_icmp_ge (pc := 38) X 63 dL_law_38 (by decide) (fun c_38 => ?_) (fun c_38 => ?_)
      · have hW9 := ini_e hI34 c_38 hW34
        refine v_iconst (pc := 63) (v := 0) X dL_law_63 (by decide) ?_
        refine v_istore (pc := 64) (lv' := [(0, .ref b), (1, .ref (a4 0)), (2, .ref q9), (3, .ref q14), (4, .ref q19), (5, .int 1), (6, .int 0)]) X dL_law_64 (Nat.le_of_ble_eq_true rfl) [1, 2, 3, 4, 5, 6, 0] rfl ?_
        have LP66 : ∀ (n66 : Nat) (y6 : Int32) (kk : Nat → Int32) (kt : Nat → Int32) (nw : Int32) (dw : Nat → Int32) (df : Nat → Int32) (dr : Nat → Int32) (de : Nat → Int32) (th : Nat → Int32) (tr : Nat → Int32) (tm : Nat → Int32) (tb : Nat → Int32) (td : Nat → Int32) (tg : Nat → Int32) (tl : Nat → Int32) (tn : Int32) (uh : Nat → Int32) (ur : Nat → Int32) (um : Nat → Int32) (ub : Nat → Int32) (ud : Nat → Int32) (ug : Nat → Int32) (ul : Nat → Int32) (un : Int32) (lk : Nat → Int32) (lp : Nat → Int32) (lg : Nat → Int32) (lm : Nat → Int32) (ls : Int32) (lv : Int32) (gg : Nat → Int32) (wA : Nat → Int32) (bb : Nat → Int32), n66 ≤ 101 → (y6 = nI (100 + 1 - n66) ∧ 1 ≤ n66 ∧ n66 ≤ 100 + 1) → (PInv (100 + 1 - n66) kt nw dw df dr de th tm tb td tg tl tn lk lp lg lm ls lv gg wA bb) → V p l e room_1 s m #[Value.ref b] below meth c 7 G (fun q => s.heap.size ≤ q) ((32 + 0 * (13 - (n34 + 1))) + 0 + 594 * (101 - n66)) ((2332 + 0 * (13 - (n34 + 1))) + 0 + 3564 * (101 - n66)) (lw_Z below #[Value.ref b] s) (wG G a4 d4 t4 u4 g4 kk kt nw ++ (wD G d4 dw df dr de ++ (wT G t4 th tr tm tb td tg tl tn ++ (wT G u4 uh ur um ub ud ug ul un ++ (wL G g4 lk lp lg lm ls lv ++ (wg G (adr [q9]) gg ++ (ww G (adr [q14]) wA ++ (ww G (adr [q19]) bb)))))))) [(0, .ref b), (1, .ref (a4 0)), (2, .ref q9), (3, .ref q14), (4, .ref q19), (5, .int 1), (6, .int y6)] 66 [] := by
          intro n66
          induction n66 with
          | zero => intro y6 kk kt nw dw df dr de th tr tm tb td tg tl tn uh ur um ub ud ug ul un lk lp lg lm ls lv gg wA bb hn66 hI66 hP66; exact False.elim (by omega)
          | succ n66 ih66 =>
            intro y6 kk kt nw dw df dr de th tr tm tb td tg tl tn uh ur um ub ud ug ul un lk lp lg lm ls lv gg wA bb hn66 hI66 hP66
            refine v_iload (pc := 66) X dL_law_66 6 rfl ?_
            refine v_bipush (pc := 68) (v := 100) X dL_law_68 (by decide) ?_
            refine v_icmp_ge (pc := 70) X 140 dL_law_70 (by decide) (fun c_70 => ?_) (fun c_70 => ?_)
            · have ht0 : (100 + 1 - (n66 + 1)) ≤ 100 := by omega
              refine v_iconst (pc := 140) (v := 0) X dL_law_140 (by decide) ?_
              refine v_istore (pc := 141) (lv' := [(0, .ref b), (1, .ref (a4 0)), (2, .ref q9), (3, .ref q14), (4, .ref q19), (5, .int 1), (6, .int 0)]) X dL_law_141 (Nat.le_of_ble_eq_true rfl) [1, 2, 3, 4, 5, 6, 0] rfl ?_
              have LP143 : ∀ (n143 : Nat) (z6 : Int32), n143 ≤ 13 → (z6 = nI (12 + 1 - n143) ∧ 1 ≤ n143 ∧ n143 ≤ 12 + 1) → V p l e room_1 s m #[Value.ref b] below meth c 7 G (fun q => s.heap.size ≤ q) (((32 + 0 * (13 - (n34 + 1))) + 0 + 594 * (101 - (n66 + 1))) + 0 + 28 * (13 - n143)) (((2332 + 0 * (13 - (n34 + 1))) + 0 + 3564 * (101 - (n66 + 1))) + 0 + 280 * (13 - n143)) (lw_Z below #[Value.ref b] s) (wG G a4 d4 t4 u4 g4 kk kt nw ++ (wD G d4 dw df dr de ++ (wT G t4 th tr tm tb td tg tl tn ++ (wT G u4 uh ur um ub ud ug ul un ++ (wL G g4 lk lp lg lm ls lv ++ (wg G (adr [q9]) gg ++ (ww G (adr [q14]) wA ++ (ww G (adr [q19]) bb)))))))) [(0, .ref b), (1, .ref (a4 0)), (2, .ref q9), (3, .ref q14), (4, .ref q19), (5, .int 1), (6, .int z6)] 143 [] := by
                intro n143
                induction n143 with
                | zero => intro z6 hn143 hI143; exact False.elim (by omega)
                | succ n143 ih143 =>
                  intro z6 hn143 hI143
                  refine v_iload (pc := 143) X dL_law_143 6 rfl ?_
                  refine v_bipush (pc := 145) (v := 12) X dL_law_145 (by decide) ?_
                  refine v_icmp_ge (pc := 147) X 174 dL_law_147 (by decide) (fun c_147 => ?_) (fun c_147 => ?_)
                  · refine v_iload (pc := 174) X dL_law_174 5 rfl ?_
                    refine v_if_eq (pc := 176) X 201 dL_law_176 (by decide) (fun c_176 => ?_) (fun c_176 => ?_)
                    · exact absurd c_176 (by decide)
                    · refine v_aload_n (pc := 179) X dL_law_179 1 rfl ?_
                      refine v_aload_n (pc := 180) X dL_law_180 2 rfl ?_
                      refine v_aload (pc := 181) X dL_law_181 4 rfl ?_
                      refine v_callSi (pc := 183) (rest := []) (n := 3) (wr := (ww G (adr [q14]) wA)) (wn := fun (qv : Nat → Nat → Int32) => (wG G a4 d4 t4 u4 g4 kk kt nw ++ (wD G d4 dw df dr de ++ (wT G t4 th tr tm tb td tg tl tn ++ (wT G u4 (qv 0) (qv 1) (qv 2) (qv 3) (qv 4) (qv 5) (qv 6) (qv 7 0) ++ (wL G g4 lk lp lg lm ls lv ++ (wg G (adr [q9]) gg ++ (ww G (adr [q14]) wA ++ (ww G (adr [q19]) bb))))))))) (isC := [0, 1, 2, 3, 4, 5, 6, 7, 8, 9, 10, 11, 12, 13, 14, 15, 16, 17, 18, 19, 20, 21, 22, 23, 24, 25, 26, 27, 28, 29, 31]) (isR := [30]) (isP := [1, 2, 3, 4, 5, 6, 7, 8, 9, 10, 11, 12, 13, 14, 15, 16, 17, 18, 19, 20, 21, 22, 23, 24, 25, 26, 27, 28, 29, 30, 0, 31]) X (c_L_arePersons l hfl G a4 d4 t4 u4 g4 (adr [q9]) (adr [q19]) kk kt nw dw df dr de th tr tm tb td tg tl tn uh ur um ub ud ug ul un lk lp lg lm ls lv gg bb (tieP_th (pi_th hP66)) (pi_th hP66) ((pi_log hP66 ht0).1) ((pi_log hP66 ht0).2.1) (fun a1 a2 a3 a4 a5 a6 => pi_huh hP66 ht0 a1 a2 a3 a4 a5 a6) (fun a1 a2 a3 a4 a5 a6 a7 a8 => pi_an hP66 ht0 a1 a2 a3 a4 a5 a6 a8) (fun j9 hj9 => (pi_f hP66 j9 hj9).1) ((pi_g hP66).1) ((pi_g hP66).2.2.2.2) (pi_w hP66 ht0)) gL_law_L_arePersons rfl rfl rfl (by decide +kernel) ⟨Nat.le_of_ble_eq_true rfl, Nat.le_of_ble_eq_true rfl⟩ dL_law_183 rfl rfl (Nat.le_of_ble_eq_true rfl) ⟨by show _ ≤ 677207; omega, by show _ ≤ 7069846; omega⟩ ⟨rfl, rfl, rfl, rfl, by decide, rfl, fun _ => rfl⟩ (fun r183 q183 h183 => ?_)
                      refine v_ws (ws' := (wG G a4 d4 t4 u4 g4 kk kt nw ++ (wD G d4 dw df dr de ++ (wT G t4 th tr tm tb td tg tl tn ++ (wT G u4 (q183 0) (q183 1) (q183 2) (q183 3) (q183 4) (q183 5) (q183 6) (q183 7 0) ++ (wL G g4 lk lp lg lm ls lv ++ (wg G (adr [q9]) gg ++ (ww G (adr [q14]) wA ++ (ww G (adr [q19]) bb))))))))) rfl ?_
                      obtain rfl : r183 = 1 := h183
                      refine v_if_eq (pc := 186) X 201 dL_law_186 (by decide) (fun c_186 => ?_) (fun c_186 => ?_)
                      · exact absurd c_186 (by decide)
                      · refine v_aload_n (pc := 189) X dL_law_189 1 rfl ?_
                        refine v_aload_n (pc := 190) X dL_law_190 2 rfl ?_
                        refine v_callSi (pc := 191) (rest := []) (n := 2) (wr := (ww G (adr [q14]) wA ++ (ww G (adr [q19]) bb))) (wn := fun (qv : Unit) => (wG G a4 d4 t4 u4 g4 kk kt nw ++ (wD G d4 dw df dr de ++ (wT G t4 th tr tm tb td tg tl tn ++ (wT G u4 (q183 0) (q183 1) (q183 2) (q183 3) (q183 4) (q183 5) (q183 6) (q183 7 0) ++ (wL G g4 lk lp lg lm ls lv ++ (wg G (adr [q9]) gg ++ (ww G (adr [q14]) wA ++ (ww G (adr [q19]) bb))))))))) (isC := [0, 1, 2, 3, 4, 5, 6, 7, 8, 9, 10, 11, 12, 13, 14, 15, 16, 17, 18, 19, 20, 21, 22, 23, 24, 25, 26, 27, 28, 29]) (isR := [30, 31]) (isP := [2, 3, 4, 5, 6, 7, 8, 9, 10, 11, 12, 13, 14, 15, 16, 17, 18, 19, 20, 21, 22, 23, 24, 25, 26, 27, 28, 29, 30, 31, 0, 1]) X (c_L_areKeys l hfl G a4 d4 t4 u4 g4 (adr [q9]) kk kt nw dw df dr de th tr tm tb td tg tl tn (q183 0) (q183 1) (q183 2) (q183 3) (q183 4) (q183 5) (q183 6) (q183 7 0) lk lp lg lm ls lv gg (tieP_th (pi_th hP66)) (pi_kt hP66)) gL_law_L_areKeys rfl rfl rfl (by decide +kernel) ⟨Nat.le_of_ble_eq_true rfl, Nat.le_of_ble_eq_true rfl⟩ dL_law_191 rfl rfl (Nat.le_of_ble_eq_true rfl) ⟨by show _ ≤ 677207; omega, by show _ ≤ 7069846; omega⟩ ⟨rfl, rfl, rfl, rfl, by decide, rfl, fun _ => rfl⟩ (fun r191 q191 h191 => ?_)
                        refine v_ws (ws' := (wG G a4 d4 t4 u4 g4 kk kt nw ++ (wD G d4 dw df dr de ++ (wT G t4 th tr tm tb td tg tl tn ++ (wT G u4 (q183 0) (q183 1) (q183 2) (q183 3) (q183 4) (q183 5) (q183 6) (q183 7 0) ++ (wL G g4 lk lp lg lm ls lv ++ (wg G (adr [q9]) gg ++ (ww G (adr [q14]) wA ++ (ww G (adr [q19]) bb))))))))) rfl ?_
                        obtain rfl : r191 = 1 := h191
                        refine v_if_eq (pc := 194) X 201 dL_law_194 (by decide) (fun c_194 => ?_) (fun c_194 => ?_)
                        · exact absurd c_194 (by decide)
                        · refine v_iconst (pc := 197) (v := 1) X dL_law_197 (by decide) ?_
                          refine v_goto (pc := 198) X 202 dL_law_198 (by decide) ?_
                          exact law_fin X hr (by omega) (by omega)
                  · refine v_iload (pc := 150) X dL_law_150 5 rfl ?_
                    refine v_if_eq (pc := 152) X 174 dL_law_152 (by decide) (fun c_152 => ?_) (fun c_152 => ?_)
                    · exact absurd c_152 (by decide)
                    · have hk12 : vp_in z6 12 := (cnt_in (by decide) (by decide) hI143 c_147).1
                      refine v_aload_n (pc := 155) X dL_law_155 1 rfl ?_
                      refine v_iload (pc := 156) X dL_law_156 6 rfl ?_
                      refine v_aload (pc := 158) X dL_law_158 4 rfl ?_
                      refine v_iload (pc := 160) X dL_law_160 6 rfl ?_
                      refine v_iald (pc := 162) X dL_law_162 31 rfl hk12 rfl ?_
                      refine v_callSi (pc := 163) (rest := []) (n := 3) (wr := (wg G (adr [q9]) gg ++ (ww G (adr [q14]) wA ++ (ww G (adr [q19]) bb)))) (wn := fun (qv : Unit) => (wG G a4 d4 t4 u4 g4 kk kt nw ++ (wD G d4 dw df dr de ++ (wT G t4 th tr tm tb td tg tl tn ++ (wT G u4 uh ur um ub ud ug ul un ++ (wL G g4 lk lp lg lm ls lv ++ (wg G (adr [q9]) gg ++ (ww G (adr [q14]) wA ++ (ww G (adr [q19]) bb))))))))) (isC := [0, 1, 2, 3, 4, 5, 6, 7, 8, 9, 10, 11, 12, 13, 14, 15, 16, 17, 18, 19, 20, 21, 22, 23, 24, 25, 26, 27, 28]) (isR := [29, 30, 31]) (isP := [3, 4, 5, 6, 7, 8, 9, 10, 11, 12, 13, 14, 15, 16, 17, 18, 19, 20, 21, 22, 23, 24, 25, 26, 27, 28, 29, 30, 31, 0, 1, 2]) X (c_L_isSign l hfl G a4 d4 t4 u4 g4 kk kt nw dw df dr de th tr tm tb td tg tl tn uh ur um ub ud ug ul un lk lp lg lm ls lv z6 (bb (z6).toNatClampNeg) (((pi_g hP66).2.2.2.2 _ (vp_lt hk12)).symm) (pi_tg hP66 ht0) (pi_sg hP66 ht0 hk12)) gL_law_L_isSign rfl rfl rfl (by decide +kernel) ⟨Nat.le_of_ble_eq_true rfl, Nat.le_of_ble_eq_true rfl⟩ dL_law_163 rfl rfl (Nat.le_of_ble_eq_true rfl) ⟨by show _ ≤ 677207; omega, by show _ ≤ 7069846; omega⟩ ⟨rfl, rfl, rfl, rfl, by decide, rfl, fun _ => rfl⟩ (fun r163 q163 h163 => ?_)
                      refine v_ws (ws' := (wG G a4 d4 t4 u4 g4 kk kt nw ++ (wD G d4 dw df dr de ++ (wT G t4 th tr tm tb td tg tl tn ++ (wT G u4 uh ur um ub ud ug ul un ++ (wL G g4 lk lp lg lm ls lv ++ (wg G (adr [q9]) gg ++ (ww G (adr [q14]) wA ++ (ww G (adr [q19]) bb))))))))) rfl ?_
                      obtain rfl : r163 = 1 := h163
                      refine v_istore (pc := 166) (lv' := [(0, .ref b), (1, .ref (a4 0)), (2, .ref q9), (3, .ref q14), (4, .ref q19), (5, .int 1), (6, .int z6)]) X dL_law_166 (Nat.le_of_ble_eq_true rfl) [1, 2, 3, 4, 5, 0, 6] rfl ?_
                      refine v_iinc (pc := 168) (k := 6) (v := (z6 + 1)) (lv' := [(0, .ref b), (1, .ref (a4 0)), (2, .ref q9), (3, .ref q14), (4, .ref q19), (5, .int 1), (6, .int (z6 + 1))]) X dL_law_168 rfl rfl (Nat.le_of_ble_eq_true rfl) [1, 2, 3, 4, 5, 6, 0] rfl ?_
                      refine v_goto (pc := 171) X 143 dL_law_171 (by decide) ?_
                      refine v_widen (k := (((32 + 0 * (13 - (n34 + 1))) + 0 + 594 * (101 - (n66 + 1))) + 0 + 28 * (13 - n143))) (n := (((2332 + 0 * (13 - (n34 + 1))) + 0 + 3564 * (101 - (n66 + 1))) + 0 + 280 * (13 - n143))) (by omega) (by omega) ?_
                      exact ih143 (z6 + 1) (Nat.le_of_succ_le hn143) ((cnt_in (by decide) (by decide) hI143 c_147).2)
              refine v_widen (k := (((32 + 0 * (13 - (n34 + 1))) + 0 + 594 * (101 - (n66 + 1))) + 0 + 28 * (13 - 13))) (n := (((2332 + 0 * (13 - (n34 + 1))) + 0 + 3564 * (101 - (n66 + 1))) + 0 + 280 * (13 - 13))) (by omega) (by omega) ?_
              exact LP143 13 0 (Nat.le_refl _) (⟨by decide, by decide, by decide⟩)
            · refine v_iload (pc := 73) X dL_law_73 5 rfl ?_
              refine v_if_eq (pc := 75) X 140 dL_law_75 (by decide) (fun c_75 => ?_) (fun c_75 => ?_)
              · exact absurd c_75 (by decide)
              · have hk100 : vp_in y6 100 := (cnt_in (by decide) (by decide) hI66 c_70).1
                have ht : (100 + 1 - (n66 + 1)) < 100 := (by have h9 := (cnt_in (by decide) (by decide) hI66 c_70).2; omega)
                have ht1 : (100 + 1 - (n66 + 1)) + 1 ≤ 100 := ht
                refine v_aload_n (pc := 78) X dL_law_78 1 rfl ?_
                refine v_aload_n (pc := 79) X dL_law_79 2 rfl ?_
                refine v_aload_n (pc := 80) X dL_law_80 3 rfl ?_
                refine v_aload (pc := 81) X dL_law_81 4 rfl ?_
                refine v_aload_n (pc := 83) X dL_law_83 0 rfl ?_
                refine v_iconst (pc := 84) (v := 2) X dL_law_84 (by decide) ?_
                refine v_iload (pc := 85) X dL_law_85 6 rfl ?_
                refine v_imul (pc := 87) X dL_law_87 rfl ?_
                refine v_at (pc := 88) (rest := [.ref q19, .ref q14, .ref q9, .ref (a4 0)]) X hX hbl (Nat.not_le.mpr hbl) hL ((at_pos hk100).1) gL_law_L_at dL_law_88 (Nat.le_of_ble_eq_true rfl) ⟨Nat.le_of_ble_eq_true rfl, Nat.le_of_ble_eq_true rfl⟩ ⟨by show _ ≤ 677207; omega, by show _ ≤ 7069846; omega⟩ (fun r88 => ?_)
                refine v_aload_n (pc := 91) X dL_law_91 0 rfl ?_
                refine v_iconst (pc := 92) (v := 2) X dL_law_92 (by decide) ?_
                refine v_iload (pc := 93) X dL_law_93 6 rfl ?_
                refine v_imul (pc := 95) X dL_law_95 rfl ?_
                refine v_iconst (pc := 96) (v := 1) X dL_law_96 (by decide) ?_
                refine v_iadd (pc := 97) X dL_law_97 rfl ?_
                refine v_at (pc := 98) (rest := [.int r88, .ref q19, .ref q14, .ref q9, .ref (a4 0)]) X hX hbl (Nat.not_le.mpr hbl) hL ((at_pos hk100).2) gL_law_L_at dL_law_98 (Nat.le_of_ble_eq_true rfl) ⟨Nat.le_of_ble_eq_true rfl, Nat.le_of_ble_eq_true rfl⟩ ⟨by show _ ≤ 677207; omega, by show _ ≤ 7069846; omega⟩ (fun r98 => ?_)
                refine v_callSi (pc := 101) (rest := []) (n := 6) (wr := ([] : va_W)) (wn := fun (qv : Nat → Nat → Int32) => (wG G a4 d4 t4 u4 g4 (qv 0) (qv 1) (qv 2 0) ++ (wD G d4 (qv 3) (qv 4) (qv 5) (qv 6) ++ (wT G t4 (qv 7) (qv 8) (qv 9) (qv 10) (qv 11) (qv 12) (qv 13) (qv 14 0) ++ (wT G u4 (qv 15) (qv 16) (qv 17) (qv 18) (qv 19) (qv 20) (qv 21) (qv 22 0) ++ (wL G g4 (qv 23) (qv 24) (qv 25) (qv 26) (qv 27 0) (qv 28 0) ++ (wg G (adr [q9]) (qv 29) ++ (ww G (adr [q14]) (qv 30) ++ (ww G (adr [q19]) (qv 31)))))))))) (isC := [0, 1, 2, 3, 4, 5, 6, 7, 8, 9, 10, 11, 12, 13, 14, 15, 16, 17, 18, 19, 20, 21, 22, 23, 24, 25, 26, 27, 28, 29, 30, 31]) (isR := []) (isP := [0, 1, 2, 3, 4, 5, 6, 7, 8, 9, 10, 11, 12, 13, 14, 15, 16, 17, 18, 19, 20, 21, 22, 23, 24, 25, 26, 27, 28, 29, 30, 31]) X (c_L_acts l hfl G a4 d4 t4 u4 g4 (adr [q9]) (adr [q14]) (adr [q19]) kk kt nw dw df dr de th tr tm tb td tg tl tn uh ur um ub ud ug ul un lk lp lg lm ls lv gg wA bb r88 r98 (100 + 1 - (n66 + 1)) hP66 ht) gL_law_L_acts rfl rfl rfl (by decide +kernel) ⟨Nat.le_of_ble_eq_true rfl, Nat.le_of_ble_eq_true rfl⟩ dL_law_101 rfl rfl (Nat.le_of_ble_eq_true rfl) ⟨by show _ ≤ 677207; omega, by show _ ≤ 7069846; omega⟩ ⟨rfl, rfl, rfl, rfl, by decide, rfl, fun _ => rfl⟩ (fun r101 q101 h101 => ?_)
                refine v_ws (ws' := (wG G a4 d4 t4 u4 g4 (q101 0) (q101 1) (q101 2 0) ++ (wD G d4 (q101 3) (q101 4) (q101 5) (q101 6) ++ (wT G t4 (q101 7) (q101 8) (q101 9) (q101 10) (q101 11) (q101 12) (q101 13) (q101 14 0) ++ (wT G u4 (q101 15) (q101 16) (q101 17) (q101 18) (q101 19) (q101 20) (q101 21) (q101 22 0) ++ (wL G g4 (q101 23) (q101 24) (q101 25) (q101 26) (q101 27 0) (q101 28 0) ++ (wg G (adr [q9]) (q101 29) ++ (ww G (adr [q14]) (q101 30) ++ (ww G (adr [q19]) (q101 31)))))))))) rfl ?_
                obtain ⟨rfl, hI101⟩ := h101
                refine v_if_eq (pc := 104) X 131 dL_law_104 (by decide) (fun c_104 => ?_) (fun c_104 => ?_)
                · exact absurd c_104 (by decide)
                · refine v_iload (pc := 107) X dL_law_107 6 rfl ?_
                  refine v_bipush (pc := 109) (v := 10) X dL_law_109 (by decide) ?_
                  refine v_irem (pc := 111) X dL_law_111 (by decide) rfl ?_
                  refine v_bipush (pc := 112) (v := 9) X dL_law_112 (by decide) ?_
                  refine v_icmp_ne (pc := 114) X 127 dL_law_114 (by decide) (fun c_114 => ?_) (fun c_114 => ?_)
                  · refine v_iconst (pc := 127) (v := 1) X dL_law_127 (by decide) ?_
                    refine v_goto (pc := 128) X 132 dL_law_128 (by decide) ?_
                    refine v_istore (pc := 132) (lv' := [(0, .ref b), (1, .ref (a4 0)), (2, .ref q9), (3, .ref q14), (4, .ref q19), (5, .int 1), (6, .int y6)]) X dL_law_132 (Nat.le_of_ble_eq_true rfl) [1, 2, 3, 4, 5, 0, 6] rfl ?_
                    refine v_iinc (pc := 134) (k := 6) (v := (y6 + 1)) (lv' := [(0, .ref b), (1, .ref (a4 0)), (2, .ref q9), (3, .ref q14), (4, .ref q19), (5, .int 1), (6, .int (y6 + 1))]) X dL_law_134 rfl rfl (Nat.le_of_ble_eq_true rfl) [1, 2, 3, 4, 5, 6, 0] rfl ?_
                    refine v_goto (pc := 137) X 66 dL_law_137 (by decide) ?_
                    refine v_widen (k := ((32 + 0 * (13 - (n34 + 1))) + 0 + 594 * (101 - n66))) (n := ((2332 + 0 * (13 - (n34 + 1))) + 0 + 3564 * (101 - n66))) (by omega) (by omega) ?_
                    exact ih66 (y6 + 1) (q101 0) (q101 1) (q101 2 0) (q101 3) (q101 4) (q101 5) (q101 6) (q101 7) (q101 8) (q101 9) (q101 10) (q101 11) (q101 12) (q101 13) (q101 14 0) (q101 15) (q101 16) (q101 17) (q101 18) (q101 19) (q101 20) (q101 21) (q101 22 0) (q101 23) (q101 24) (q101 25) (q101 26) (q101 27 0) (q101 28 0) (q101 29) (q101 30) (q101 31) (Nat.le_of_succ_le hn66) ((cnt_in (by decide) (by decide) hI66 c_70).2) (pi_cast (by omega) hI101)
                  · refine v_aload_n (pc := 117) X dL_law_117 1 rfl ?_
                    refine v_aload_n (pc := 118) X dL_law_118 2 rfl ?_
                    refine v_aload (pc := 119) X dL_law_119 4 rfl ?_
                    refine v_callSi (pc := 121) (rest := []) (n := 3) (wr := (ww G (adr [q14]) (q101 30))) (wn := fun (qv : Nat → Nat → Int32) => (wG G a4 d4 t4 u4 g4 (q101 0) (q101 1) (q101 2 0) ++ (wD G d4 (q101 3) (q101 4) (q101 5) (q101 6) ++ (wT G t4 (q101 7) (q101 8) (q101 9) (q101 10) (q101 11) (q101 12) (q101 13) (q101 14 0) ++ (wT G u4 (qv 0) (qv 1) (qv 2) (qv 3) (qv 4) (qv 5) (qv 6) (qv 7 0) ++ (wL G g4 (q101 23) (q101 24) (q101 25) (q101 26) (q101 27 0) (q101 28 0) ++ (wg G (adr [q9]) (q101 29) ++ (ww G (adr [q14]) (q101 30) ++ (ww G (adr [q19]) (q101 31)))))))))) (isC := [0, 1, 2, 3, 4, 5, 6, 7, 8, 9, 10, 11, 12, 13, 14, 15, 16, 17, 18, 19, 20, 21, 22, 23, 24, 25, 26, 27, 28, 29, 31]) (isR := [30]) (isP := [1, 2, 3, 4, 5, 6, 7, 8, 9, 10, 11, 12, 13, 14, 15, 16, 17, 18, 19, 20, 21, 22, 23, 24, 25, 26, 27, 28, 29, 30, 0, 31]) X (c_L_arePersons l hfl G a4 d4 t4 u4 g4 (adr [q9]) (adr [q19]) (q101 0) (q101 1) (q101 2 0) (q101 3) (q101 4) (q101 5) (q101 6) (q101 7) (q101 8) (q101 9) (q101 10) (q101 11) (q101 12) (q101 13) (q101 14 0) (q101 15) (q101 16) (q101 17) (q101 18) (q101 19) (q101 20) (q101 21) (q101 22 0) (q101 23) (q101 24) (q101 25) (q101 26) (q101 27 0) (q101 28 0) (q101 29) (q101 31) (tieP_th (pi_th hI101)) (pi_th hI101) ((pi_log hI101 ht1).1) ((pi_log hI101 ht1).2.1) (fun a1 a2 a3 a4 a5 a6 => pi_huh hI101 ht1 a1 a2 a3 a4 a5 a6) (fun a1 a2 a3 a4 a5 a6 a7 a8 => pi_an hI101 ht1 a1 a2 a3 a4 a5 a6 a8) (fun j9 hj9 => (pi_f hI101 j9 hj9).1) ((pi_g hI101).1) ((pi_g hI101).2.2.2.2) (pi_w hI101 ht1)) gL_law_L_arePersons rfl rfl rfl (by decide +kernel) ⟨Nat.le_of_ble_eq_true rfl, Nat.le_of_ble_eq_true rfl⟩ dL_law_121 rfl rfl (Nat.le_of_ble_eq_true rfl) ⟨by show _ ≤ 677207; omega, by show _ ≤ 7069846; omega⟩ ⟨rfl, rfl, rfl, rfl, by decide, rfl, fun _ => rfl⟩ (fun r121 q121 h121 => ?_)
                    refine v_ws (ws' := (wG G a4 d4 t4 u4 g4 (q101 0) (q101 1) (q101 2 0) ++ (wD G d4 (q101 3) (q101 4) (q101 5) (q101 6) ++ (wT G t4 (q101 7) (q101 8) (q101 9) (q101 10) (q101 11) (q101 12) (q101 13) (q101 14 0) ++ (wT G u4 (q121 0) (q121 1) (q121 2) (q121 3) (q121 4) (q121 5) (q121 6) (q121 7 0) ++ (wL G g4 (q101 23) (q101 24) (q101 25) (q101 26) (q101 27 0) (q101 28 0) ++ (wg G (adr [q9]) (q101 29) ++ (ww G (adr [q14]) (q101 30) ++ (ww G (adr [q19]) (q101 31)))))))))) rfl ?_
                    obtain rfl : r121 = 1 := h121
                    refine v_if_eq (pc := 124) X 131 dL_law_124 (by decide) (fun c_124 => ?_) (fun c_124 => ?_)
                    · exact absurd c_124 (by decide)
                    · refine v_iconst (pc := 127) (v := 1) X dL_law_127 (by decide) ?_
                      refine v_goto (pc := 128) X 132 dL_law_128 (by decide) ?_
                      refine v_istore (pc := 132) (lv' := [(0, .ref b), (1, .ref (a4 0)), (2, .ref q9), (3, .ref q14), (4, .ref q19), (5, .int 1), (6, .int y6)]) X dL_law_132 (Nat.le_of_ble_eq_true rfl) [1, 2, 3, 4, 5, 0, 6] rfl ?_
                      refine v_iinc (pc := 134) (k := 6) (v := (y6 + 1)) (lv' := [(0, .ref b), (1, .ref (a4 0)), (2, .ref q9), (3, .ref q14), (4, .ref q19), (5, .int 1), (6, .int (y6 + 1))]) X dL_law_134 rfl rfl (Nat.le_of_ble_eq_true rfl) [1, 2, 3, 4, 5, 6, 0] rfl ?_
                      refine v_goto (pc := 137) X 66 dL_law_137 (by decide) ?_
                      refine v_widen (k := ((32 + 0 * (13 - (n34 + 1))) + 0 + 594 * (101 - n66))) (n := ((2332 + 0 * (13 - (n34 + 1))) + 0 + 3564 * (101 - n66))) (by omega) (by omega) ?_
                      exact ih66 (y6 + 1) (q101 0) (q101 1) (q101 2 0) (q101 3) (q101 4) (q101 5) (q101 6) (q101 7) (q101 8) (q101 9) (q101 10) (q101 11) (q101 12) (q101 13) (q101 14 0) (q121 0) (q121 1) (q121 2) (q121 3) (q121 4) (q121 5) (q121 6) (q121 7 0) (q101 23) (q101 24) (q101 25) (q101 26) (q101 27 0) (q101 28 0) (q101 29) (q101 30) (q101 31) (Nat.le_of_succ_le hn66) ((cnt_in (by decide) (by decide) hI66 c_70).2) (pi_cast (by omega) hI101)
        refine v_widen (k := ((32 + 0 * (13 - (n34 + 1))) + 0 + 594 * (101 - 101))) (n := ((2332 + 0 * (13 - (n34 + 1))) + 0 + 3564 * (101 - 101))) (by omega) (by omega) ?_
        exact LP66 101 0 (fun _ => 0) (FX3_init_64_w57 5 0 (fun _ => 0)) 0 (FX0_init_38_w7 13 0 (fun _ => 0)) (fun _ => 0) (fun _ => 0) (fun _ => 0) (f_X2_reset_th (fun _ => 0) (fun _ => 0) (fun _ => 0) (fun _ => 0)) (fun _ => 0) (fun _ => 0) (fun _ => 0) (f_X2_reset_td (fun _ => 0) (fun _ => 0) (fun _ => 0) (fun _ => 0)) (f_X2_reset_tg (fun _ => 0) (fun _ => 0) (fun _ => 0) (fun _ => 0)) (f_X2_reset_tl (fun _ => 0) (fun _ => 0) (fun _ => 0) (fun _ => 0)) f_X2_reset_tn (f_X2_reset_th (fun _ => 0) (fun _ => 0) (fun _ => 0) (fun _ => 0)) (fun _ => 0) (fun _ => 0) (fun _ => 0) (f_X2_reset_td (fun _ => 0) (fun _ => 0) (fun _ => 0) (fun _ => 0)) (f_X2_reset_tg (fun _ => 0) (fun _ => 0) (fun _ => 0) (fun _ => 0)) (f_X2_reset_tl (fun _ => 0) (fun _ => 0) (fun _ => 0) (fun _ => 0)) f_X2_reset_tn (fun _ => 0) (fun _ => 0) (fun _ => 0) (fun _ => 0) 0 0 (upd (fun _ => 0) (2 : Int32).toNatClampNeg 12) wA bb (Nat.le_refl _) (⟨by decide, by decide, by decide⟩) (pinv_0 hW9)
      · have hk6 : vp_in x6 12 := (cnt_in (by decide) (by decide) hI34 c_38).1
        refine v_aload_n (pc := 41) X dL_law_41 3 rfl ?_
        refine v_iload (pc := 42) X dL_law_42 6 rfl ?_
        refine v_bipush (pc := 44) (v := 11) X dL_law_44 (by decide) ?_
        refine v_iload (pc := 46) X dL_law_46 6 rfl ?_
        refine v_imul (pc := 48) X dL_law_48 rfl ?_
        refine v_iast (pc := 49) (ws' := (wG G a4 d4 t4 u4 g4 (fun _ => 0) (FX3_init_64_w57 5 0 (fun _ => 0)) 0 ++ (wD G d4 (FX0_init_38_w7 13 0 (fun _ => 0)) (fun _ => 0) (fun _ => 0) (fun _ => 0) ++ (wT G t4 (f_X2_reset_th (fun _ => 0) (fun _ => 0) (fun _ => 0) (fun _ => 0)) (fun _ => 0) (fun _ => 0) (fun _ => 0) (f_X2_reset_td (fun _ => 0) (fun _ => 0) (fun _ => 0) (fun _ => 0)) (f_X2_reset_tg (fun _ => 0) (fun _ => 0) (fun _ => 0) (fun _ => 0)) (f_X2_reset_tl (fun _ => 0) (fun _ => 0) (fun _ => 0) (fun _ => 0)) f_X2_reset_tn ++ (wT G u4 (f_X2_reset_th (fun _ => 0) (fun _ => 0) (fun _ => 0) (fun _ => 0)) (fun _ => 0) (fun _ => 0) (fun _ => 0) (f_X2_reset_td (fun _ => 0) (fun _ => 0) (fun _ => 0) (fun _ => 0)) (f_X2_reset_tg (fun _ => 0) (fun _ => 0) (fun _ => 0) (fun _ => 0)) (f_X2_reset_tl (fun _ => 0) (fun _ => 0) (fun _ => 0) (fun _ => 0)) f_X2_reset_tn ++ (wL G g4 (fun _ => 0) (fun _ => 0) (fun _ => 0) (fun _ => 0) 0 0 ++ (wg G (adr [q9]) (upd (fun _ => 0) (2 : Int32).toNatClampNeg 12) ++ (ww G (adr [q14]) (upd wA (x6).toNatClampNeg (11 * x6)) ++ (ww G (adr [q19]) bb))))))))) X dL_law_49 30 rfl hk6 rfl ?_
        refine v_aload (pc := 50) X dL_law_50 4 rfl ?_
        refine v_iload (pc := 52) X dL_law_52 6 rfl ?_
        refine v_iload (pc := 54) X dL_law_54 6 rfl ?_
        refine v_iast (pc := 56) (ws' := (wG G a4 d4 t4 u4 g4 (fun _ => 0) (FX3_init_64_w57 5 0 (fun _ => 0)) 0 ++ (wD G d4 (FX0_init_38_w7 13 0 (fun _ => 0)) (fun _ => 0) (fun _ => 0) (fun _ => 0) ++ (wT G t4 (f_X2_reset_th (fun _ => 0) (fun _ => 0) (fun _ => 0) (fun _ => 0)) (fun _ => 0) (fun _ => 0) (fun _ => 0) (f_X2_reset_td (fun _ => 0) (fun _ => 0) (fun _ => 0) (fun _ => 0)) (f_X2_reset_tg (fun _ => 0) (fun _ => 0) (fun _ => 0) (fun _ => 0)) (f_X2_reset_tl (fun _ => 0) (fun _ => 0) (fun _ => 0) (fun _ => 0)) f_X2_reset_tn ++ (wT G u4 (f_X2_reset_th (fun _ => 0) (fun _ => 0) (fun _ => 0) (fun _ => 0)) (fun _ => 0) (fun _ => 0) (fun _ => 0) (f_X2_reset_td (fun _ => 0) (fun _ => 0) (fun _ => 0) (fun _ => 0)) (f_X2_reset_tg (fun _ => 0) (fun _ => 0) (fun _ => 0) (fun _ => 0)) (f_X2_reset_tl (fun _ => 0) (fun _ => 0) (fun _ => 0) (fun _ => 0)) f_X2_reset_tn ++ (wL G g4 (fun _ => 0) (fun _ => 0) (fun _ => 0) (fun _ => 0) 0 0 ++ (wg G (adr [q9]) (upd (fun _ => 0) (2 : Int32).toNatClampNeg 12) ++ (ww G (adr [q14]) (upd wA (x6).toNatClampNeg (11 * x6)) ++ (ww G (adr [q19]) (upd bb (x6).toNatClampNeg x6)))))))))) X dL_law_56 31 rfl hk6 rfl ?_
        refine v_iinc (pc := 57) (k := 6) (v := (x6 + 1)) (lv' := [(0, .ref b), (1, .ref (a4 0)), (2, .ref q9), (3, .ref q14), (4, .ref q19), (5, .int 1), (6, .int (x6 + 1))]) X dL_law_57 rfl rfl (Nat.le_of_ble_eq_true rfl) [1, 2, 3, 4, 5, 6, 0] rfl ?_
        refine v_goto (pc := 60) X 34 dL_law_60 (by decide) ?_
        refine v_widen (k := (32 + 0 * (13 - n34))) (n := (2332 + 0 * (13 - n34))) (by omega) (by omega) ?_
        exact ih34 (x6 + 1) (upd wA (x6).toNatClampNeg (11 * x6)) (upd bb (x6).toNatClampNeg x6) (Nat.le_of_succ_le hn34) ((cnt_in (by decide) (by decide) hI34 c_38).2) (ini_s hI34 c_38 hW34)
  refine v_widen (k := (32 + 0 * (13 - 13))) (n := (2332 + 0 * (13 - 13))) (by omega) (by omega) ?_
  exact LP34 13 0 (fun _ => 0) (fun _ => 0) (Nat.le_refl _) (⟨by decide, by decide, by decide⟩) (fun j hj => absurd hj (by omega))
set_option maxHeartbeats 4000000 in
theorem lw_walk (l : Launch) (hflags : l.flags = flags0) (b : Addr) (xs : List Int32) : MetFree l x (headSpec (Jvm.Cond.code x code maxLocals ret :: tables_1) room_1) (lw_P b xs) (fun _ _ _ _ _ => True) lw_Q := by
  refine MetFree.of_bodyS (code := code) (maxLocals := maxLocals) (ret := ret) (by decide) ?_ ?_
  · intro args s m h hn
    obtain ⟨meth, c, h1, h2, h3, h4, h5, h6, -, -⟩ := Cond.code_spec hn (atoms_spec (ws := Jvm.Cond.code x code maxLocals ret :: tables_1) h _ List.mem_cons_self)
    exact ⟨meth, c, h1, h2, h3, h4, h5, h6⟩
  · intro p e s m args below meth c s₁ B hml0 hP _
    obtain ⟨rfl, hx, hbd, hgv⟩ := hP
    obtain ⟨scr, harrAt, hlist, hof, hsmall⟩ := hx
    obtain ⟨hcb, hkn, -, -⟩ := State.arrayAt?_spec harrAt
    have hown : s.vm.findClass R_law = some m.cls := findClass_of_methodNamed B.named
    have hts0 : ∀ c ∈ (Jvm.Cond.code x code maxLocals ret :: tables_1), c.before #[Value.ref b] s = true := atoms_spec (ws := Jvm.Cond.code x code maxLocals ret :: tables_1) B.pre
    have hts : ∀ w ∈ lw_tbl, w.before #[Value.ref b] s = true := k2_hts_sels lw_privs (fun w hw => hts0 w (List.mem_cons_of_mem _ hw)) lw_privs_ok
    have hml : c.maxLocals = 7 := B.maxLocals_eq (hts0 _ List.mem_cons_self)
    have X₀ : Stand p l e room_1 s m #[Value.ref b] below meth c s₁ [] 0 0 := Stand.of_body B
    have hh0 : s₁.heap = s.heap := by rw [B.state]; rfl
    have hsz : scr.slots.size = xs.length := by rw [← Array.length_toList, hlist, List.length_map]
    have hval : ∀ j : Nat, j < xs.length → scr.slots[j]? = some (.int (xs.getD j 0)) := fun j hj => by
      rw [← Array.getElem?_toList, hlist]
      simp [hj]
    have hbl : b < s.heap.size := (Array.getElem?_eq_some_iff.mp hcb).1
    have hX : va_X b xs.length (fun j => xs.getD j 0) s s.heap := ⟨scr, hcb, hof, hkn, hsz, hval⟩
    have K : W p l e room_1 s m #[Value.ref b] below meth c s₁.heap [] 0 0 (lw_Z below #[Value.ref b] s) (entryFrame m ([Value.ref b] : List Value).toArray 7) := by
      rw [hh0]
      exact whole_start l hflags hbd ⟨B.exec, B.bytes, B.returns, hml, hown, hts, hX, hbl, B.notSynchronized, hgv⟩
    obtain ⟨t, a1, o, b1, b2, b3⟩ := K s₁ rfl X₀
    exact ⟨t, o, a1, b1, b2, b3⟩
theorem lw_pre_spec {args : Array Value} {s : State} (h : (Jvm.Cond.and given_1 narrow_1).before args s = true) (hr : rest_1_c.before args s = true) : ∃ (b : Addr) (xs : List Int32), lw_P b xs args s := by
  have hs := flat_of_before _ h
  have hq := flat_of_before _ hr
  have hc : (Cond.count 1).before args s = true := hs _ (by decide +kernel)
  have harr : (Cond.arrayOf (.arg 0) .int).before args s = true := hs _ (by decide +kernel)
  have hle : (Cond.le (.length (.arg 0)) (.int 260)).before args s = true := hs _ (by decide +kernel)
  have hlen : (Cond.isInt (.length (.arg 0))).before args s = true := hq _ (by decide +kernel)
  have hall : (Cond.all (.arg 0) (.isInt (.elem (.arg 0) (.index 0)))).before args s = true := hq _ (by decide +kernel)
  obtain ⟨b, xs, hb, hx⟩ := State.ints_of_pre rfl harr hlen hall
  have hsm : xs.length < 2 ^ 31 := hx.choose_spec.2.2.2
  have hev : (Term.length (.arg 0)).eval args s none [] s = some (.int xs.length.toInt32) := hx.length_eval hb
  have hv := Cond.le_ints hev (show (Term.int 260).eval args s none [] s = some (.int 260) from rfl)
  have hd : xs.length.toInt32 ≤ 260 := by
    simpa [Cond.before, Cond.holds, hv] using hle
  have hN : xs.length ≤ 260 := (Int32.ofNat_le_ofNat hsm (by decide)).mp (show Int32.ofNat xs.length ≤ Int32.ofNat 260 from hd)
  exact ⟨b, xs, Cond.one_arg hc (show args[0]? = some (.ref b) from hb), hx, hN, h⟩
theorem lw_comes (l : Launch) (hflags : l.flags = flags0) : Comes l x (Jvm.Cond.code x code maxLocals ret :: tables_1) room_1 (fun tb e args s => Calls_1 tb e args s ∧ rest_1 tb e args s ∧ Pre_1 tb e args s)
    (fun _ _ args s o t => lw_Q args s o t) := by
  intro p e ha hc hk s m args below hf hfit hheap happ hpre
  obtain ⟨b, xs, hP⟩ := lw_pre_spec hpre.2.2 hpre.2.1
  obtain ⟨k, o, h1, h2, h3, hQ⟩ := lw_walk l hflags b xs p e ha hc hk s m args below hf ((Spec.applies_iff_loose hf).mp happ).1 hP trivial
  exact ⟨k, o, h1, h2, h3, hQ⟩
theorem lw_frame {s t : State} {o : Outcome} {args : Array Value} (h : Framed s o t [] 677207 7069846) :
    Framed s o t (fieldLocs frame_1_writes args s ++ arrayLocs frame_1_arrays args s ++ staticLocs frame_1_statics s) 677207 7069846 := h
theorem lw_limb (L : Cond) (hL : ∀ (args : Array Value) (s t : State), L.after args s (.returned (some (.int 1))) t = true) :
    ArmFor flags0 classFile x code maxLocals ret World_1 tables_1 room_1 Calls_1 rest_1 Pre_1
      (fun tb e a s o t => postC L tb e a s o t ∧ Framed s o t (fieldLocs frame_1_writes a s ++ arrayLocs frame_1_arrays a s ++ staticLocs frame_1_statics s) 677207 7069846) := by
  intro l hflags _ _ p e ha hc hk s m args below hf hfit hheap happ hpre
  obtain ⟨k, o, h1, h2, h3, rfl, hF⟩ := lw_comes l hflags p e ha hc hk s m args below hf hfit hheap happ hpre
  exact ⟨k, _, h1, h2, h3, hL args s _, lw_frame hF⟩
theorem i_vc : Claimed_1_1 ∧ Claimed_1_2 := ⟨lw_limb limb_1_1 (fun args s t => by simp [limb_1_1, Cond.after, Cond.holds, Cond.value]), lw_limb limb_1_2 (fun args s t => Cond.after_iff.mpr (by
  first | (rw [show limb_1_2 = Cond.eq .result (.int 1) from rfl, Cond.eq_ints (x := 1) (y := 1) rfl rfl]; simp; done) | (simp [limb_1_2, Cond.value, Term.eval]; done)))⟩
