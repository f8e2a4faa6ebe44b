/-! ## the start -/
theorem i_w57 : ∀ (n : Nat) (x : Int32) (w : Nat → Int32), FX3_init_64_w57 n x w = FX4_init_168_w109 n x w
  | 0, _, _ => rfl
  | n + 1, x, w => by
    unfold FX3_init_64_w57 FX4_init_168_w109
    rw [i_w57 n]
theorem i_w7 : ∀ (n : Nat) (x : Int32) (w a b : Nat → Int32), FX0_init_38_w7 n x w = FX4_init_124_w7 n x w a b
  | 0, _, _, _, _ => rfl
  | n + 1, x, w, a, b => by
    unfold FX0_init_38_w7 FX4_init_124_w7
    rw [i_w7 n]
theorem i_w47 : ∀ (n : Nat) (x : Int32) (w a b c d e : Nat → Int32), FX2_reset_2_vtg n x a b w c = FX4_init_124_w47 n x d e w
  | 0, _, _, _, _, _, _, _ => rfl
  | n + 1, x, w, a, b, c, d, e => by
    unfold FX2_reset_2_vtg FX4_init_124_w47
    rw [i_w47 n]
theorem upd_z (k : Nat) : upd (fun _ => 0) k 0 = fun _ => 0 := funext fun j => by
  unfold upd
  split <;> rfl
theorem i_tl : ∀ (n : Nat) (x : Int32) (a b c : Nat → Int32), FX2_reset_2_vtl n x a b c (fun _ => 0) = fun _ => 0
  | 0, _, _, _, _ => rfl
  | n + 1, x, a, b, c => by
    unfold FX2_reset_2_vtl
    rw [upd_z, i_tl n]
    split <;> rfl
theorem i_by (j : Nat) : ∀ (n k : Nat) (a w c : Nat → Int32), n + k = 13 → k ≤ 12 → FX4_init_124_w39 n (nI k) a w c j = if k ≤ j ∧ j < 12 then -1 else w j
  | 0, k, _, _, _, h, h2 => by omega
  | n + 1, k, a, w, c, h, h2 => by
    unfold FX4_init_124_w39
    by_cases e : k = 12
    · subst e
      rw [if_pos zc_12e, if_neg (by omega)]
    · rw [if_neg (zc_12 (by omega)), nI_1, zc_nat (n := k) (by omega), i_by j n (k + 1) _ _ _ (by omega) (by omega)]
      by_cases f : j = k
      · subst f
        rw [if_neg (by omega), if_pos (by omega), upd_at]
      · rw [upd_ne _ _ f]
        by_cases y : k ≤ j ∧ j < 12
        · rw [if_pos y, if_pos (by omega)]
        · rw [if_neg y, if_neg (by omega)]
theorem i_kt : FX3_init_64_w57 5 0 (fun _ => 0) = FX4_init_168_w109 5 0 (fun _ => 0) := i_w57 5 0 _
theorem i_dw : FX0_init_38_w7 13 0 (fun _ => 0) = FX4_init_124_w7 13 0 (fun _ => 0) (fun _ => 0) (fun _ => 0) := i_w7 13 0 _ _ _
theorem i_tg : f_X2_reset_tg (fun _ => 0) (fun _ => 0) (fun _ => 0) (fun _ => 0) = FX4_init_124_w47 13 0 (fun _ => 0) (fun _ => 0) (fun _ => 0) := i_w47 13 0 _ _ _ _ _ _
theorem i_tl0 : f_X2_reset_tl (fun _ => 0) (fun _ => 0) (fun _ => 0) (fun _ => 0) = fun _ => 0 := i_tl 13 0 _ _ _
set_option maxRecDepth 20000 in
theorem inv_0 : Inv (0) (f_X2_reset_th (fun _ => 0) (fun _ => 0) (fun _ => 0) (fun _ => 0)) (fun _ => 0) (fun _ => 0) (fun _ => 0) (f_X2_reset_td (fun _ => 0) (fun _ => 0) (fun _ => 0) (fun _ => 0)) (fun _ => 0) (fun _ => 0) (fun _ => 0) (fun _ => 0) 0 (fun _ => 0) (FX4_init_124_w39 13 0 (fun _ => 0) (fun _ => 0) (fun _ => 0)) (FX4_init_124_w47 13 0 (fun _ => 0) (fun _ => 0) (fun _ => 0)) (fun _ => 0) 12 0 (fun _ => 0) (fun _ => 0) (fun _ => 0) (fun _ => 0) (fun _ => 0) (fun _ => 0) := by
  have hf := reset_fresh (fun _ => 0) (fun _ => 0) (fun _ => 0) (fun _ => 0) (fun _ => 0) (fun _ => 0)
  obtain ⟨hf, -⟩ := hf
  have hb : ∀ j : Nat, j < 12 → FX4_init_124_w39 13 0 (fun _ => 0) (fun _ => 0) (fun _ => 0) j = -1 := fun j hj => by
    have := i_by j 13 0 (fun _ => 0) (fun _ => 0) (fun _ => 0) rfl (by decide)
    rw [nI_0] at this
    rw [this, if_pos ⟨Nat.zero_le _, hj⟩]
  have hg : ∀ j : Nat, j < 12 → FX4_init_124_w47 13 0 (fun _ => 0) (fun _ => 0) (fun _ => 0) j = nI j := fun j hj => by
    rw [← i_tg]
    exact (hf j hj).2.2.1
  refine ⟨fun _ _ => Or.inl rfl, ⟨0, by decide, nI_0.symm, fun j hj => Or.inl ⟨hb j hj, (hf j hj).1, (hf j hj).2.1⟩, fun _ _ _ => rfl⟩, fun _ _ => by show vp_in 0 12; unfold vp_in; decide, fun _ _ => Or.inl rfl, fun _ _ => Or.inl rfl, ⟨12, rfl, by decide⟩, fun j hj => ⟨j, hg j hj, by omega⟩, ⟨0, nI_0.symm, by decide, fun j hj => absurd hj (Nat.not_lt_zero j), fun S hS => ⟨fun j hj => ?_, hS.2⟩⟩, fun _ => rfl⟩
  obtain ⟨s1, s2, s3, s4⟩ := hS.1 j hj
  obtain ⟨t1, t2, t3, t4⟩ := hf j hj
  refine ⟨s1.trans t1.symm, fun z => absurd s1 z, s2.trans t2.symm, ?_, s4⟩
  rw [show (rpF _ _ _ _ 0 0 S).2.2.2.2.1 j = nI j from s3]
  exact (hg j hj).symm
set_option maxHeartbeats 4000000 in
set_option maxRecDepth 100000 in
theorem whole_start {p : Program} {e : Env} {s : State} {m : MethodId} {below : List Frame} {meth : Method} {c : Code} (l : Launch) (hflags : l.flags = flags0) {b L : Nat} {xs : Nat → Int32} (hL : L ≤ 2048) (C0 : lw_At p s m meth c b L xs) : W p l e room_1 s m #[Value.ref b] below meth c s.heap [] 0 0 (lw_Z below #[Value.ref b] s) (entryFrame m ([Value.ref b] : List Value).toArray 7) := by
  obtain ⟨hx, hb, hr, hml, hown, hts, hX, hbl, hlocks, hgv⟩ := C0
  have hfl : l.stackTraces = false := by
    unfold Launch.stackTraces
    rw [hflags]
    decide
  have htL : ∀ w ∈ wsL_law, w.before #[Value.ref b] s = true := fun w hw => hts2 hts w (wsL_law_in w hw)
  obtain ⟨G, hG⟩ := gx_start hts htL hgv
  have X : VX p s m #[Value.ref b] meth c cL_law 7 wsL_law RL G (fun q => s.heap.size ≤ q) := ⟨⟨hx, hb, hml, hown, htL⟩, hG, fun q h => h, hlocks⟩
  have hl := lv_entry ([.ref b]) (n := 7) (Nat.le_of_ble_eq_true rfl)
  rw [lg_entry_eq]
  generalize (lg_sl ([.ref b]) ++ List.replicate (7 - (lg_sl ([.ref b])).length) Slot.unset).toArray = ls at hl ⊢
  have hl : lv_has ls 7 [(0, .ref b)] := hl
  have hP : va_P G vwCl [] s.heap := fun k q h => by simp at h
  have hD : va_D (fun q : Nat => s.heap.size ≤ q) [] := ⟨fun i j p q h => by simp at h, fun k q h => by simp at h⟩
  refine (?_ : V p l e room_1 s m #[Value.ref b] below meth c 7 G (fun q => s.heap.size ≤ q) 0 0 (lw_Z below #[Value.ref b] s) [] [(0, .ref b)] 0 []) s.heap [] ls hP hD va_S.rf hl
  refine v_new (pc := 0) (i1 := 0) (i2 := 1) (i3 := 2) (ci := 4) X [.null, .null, .null, .null, .null, .null, .int 0] dL_law_0 inlX3 tyX3_ok rfl rfl rfl rfl (by decide) (Nat.le_of_ble_eq_true rfl) (Nat.le_of_ble_eq_true rfl) (fun q0 => ?_)
  refine v_ws (ws' := ([(q0, .inr (4, [.null, .null, .null, .null, .null, .null, .int 0]))])) rfl ?_
  refine v_dup (pc := 3) X dL_law_3 rfl ?_
  refine v_callIv (pc := 4) (rest := [.ref q0]) (n := 0) (i1 := 2) (i2 := 7) (i3 := 8) (wr := ([] : va_W)) (wn := fun (q9 : (Nat → Nat) × (Nat → Nat) × (Nat → Nat) × (Nat → Nat) × (Nat → Nat)) => (wG G (q9.1) (q9.2.1) (q9.2.2.1) (q9.2.2.2.1) (q9.2.2.2.2) (fun _ => 0) (FX3_init_64_w57 5 0 (fun _ => 0)) 0 ++ (wD G (q9.2.1) (FX0_init_38_w7 13 0 (fun _ => 0)) (fun _ => 0) (fun _ => 0) (fun _ => 0) ++ (wT G (q9.2.2.1) (f_X2_reset_th (fun _ => 0) (fun _ => 0) (fun _ => 0) (fun _ => 0)) (fun _ => 0) (fun _ => 0) (fun _ => 0) (f_X2_reset_td (fun _ => 0) (fun _ => 0) (fun _ => 0) (fun _ => 0)) (f_X2_reset_tg (fun _ => 0) (fun _ => 0) (fun _ => 0) (fun _ => 0)) (f_X2_reset_tl (fun _ => 0) (fun _ => 0) (fun _ => 0) (fun _ => 0)) f_X2_reset_tn ++ (wT G (q9.2.2.2.1) (f_X2_reset_th (fun _ => 0) (fun _ => 0) (fun _ => 0) (fun _ => 0)) (fun _ => 0) (fun _ => 0) (fun _ => 0) (f_X2_reset_td (fun _ => 0) (fun _ => 0) (fun _ => 0) (fun _ => 0)) (f_X2_reset_tg (fun _ => 0) (fun _ => 0) (fun _ => 0) (fun _ => 0)) (f_X2_reset_tl (fun _ => 0) (fun _ => 0) (fun _ => 0) (fun _ => 0)) f_X2_reset_tn ++ (wL G (q9.2.2.2.2) (fun _ => 0) (fun _ => 0) (fun _ => 0) (fun _ => 0) 0 0)))))) (isC := [0]) (isR := []) (isP := [0, 1, 2, 3, 4, 5, 6, 7, 8, 9, 10, 11, 12, 13, 14, 15, 16, 17, 18, 19, 20, 21, 22, 23, 24, 25, 26, 27, 28]) X (c_X3_init l G q0) gL_law_X3_init rfl rfl rfl rfl rfl rfl rfl (by decide +kernel) ⟨Nat.le_of_ble_eq_true rfl, Nat.le_of_ble_eq_true rfl⟩ dL_law_4 rfl rfl (Nat.le_of_ble_eq_true rfl) ⟨Nat.le_of_ble_eq_true rfl, Nat.le_of_ble_eq_true rfl⟩ ⟨rfl, rfl, rfl, rfl, by decide, rfl, fun _ => rfl⟩ (fun q9 hh9 => ?_)
  obtain ⟨a4, d4, t4, u4, g4⟩ := q9
  obtain rfl : a4 0 = q0 := hh9
  refine v_ws (ws' := (wG G a4 d4 t4 u4 g4 (fun _ => 0) (FX3_init_64_w57 5 0 (fun _ => 0)) 0 ++ (wD G d4 (FX0_init_38_w7 13 0 (fun _ => 0)) (fun _ => 0) (fun _ => 0) (fun _ => 0) ++ (wT G t4 (f_X2_reset_th (fun _ => 0) (fun _ => 0) (fun _ => 0) (fun _ => 0)) (fun _ => 0) (fun _ => 0) (fun _ => 0) (f_X2_reset_td (fun _ => 0) (fun _ => 0) (fun _ => 0) (fun _ => 0)) (f_X2_reset_tg (fun _ => 0) (fun _ => 0) (fun _ => 0) (fun _ => 0)) (f_X2_reset_tl (fun _ => 0) (fun _ => 0) (fun _ => 0) (fun _ => 0)) f_X2_reset_tn ++ (wT G u4 (f_X2_reset_th (fun _ => 0) (fun _ => 0) (fun _ => 0) (fun _ => 0)) (fun _ => 0) (fun _ => 0) (fun _ => 0) (f_X2_reset_td (fun _ => 0) (fun _ => 0) (fun _ => 0) (fun _ => 0)) (f_X2_reset_tg (fun _ => 0) (fun _ => 0) (fun _ => 0) (fun _ => 0)) (f_X2_reset_tl (fun _ => 0) (fun _ => 0) (fun _ => 0) (fun _ => 0)) f_X2_reset_tn ++ (wL G g4 (fun _ => 0) (fun _ => 0) (fun _ => 0) (fun _ => 0) 0 0)))))) rfl ?_
  refine v_astore_n (pc := 7) (lv' := [(0, .ref b), (1, .ref (a4 0))]) X dL_law_7 rfl (Nat.le_of_ble_eq_true rfl) [1, 0] rfl ?_
  refine v_new (pc := 8) (i1 := 3) (i2 := 4) (i3 := 5) (ci := 5) X [.int 0, .null, .null, .null, .null, .null, .null, .null, .int 0, .int 0, .null, .null, .null, .null, .null, .null, .null, .null, .int 0, .int 0] dL_law_8 inlX4 tyX4_ok rfl rfl rfl rfl (by decide) (Nat.le_of_ble_eq_true rfl) (Nat.le_of_ble_eq_true rfl) (fun q8 => ?_)
  refine v_ws (ws' := (wG G a4 d4 t4 u4 g4 (fun _ => 0) (FX3_init_64_w57 5 0 (fun _ => 0)) 0 ++ (wD G d4 (FX0_init_38_w7 13 0 (fun _ => 0)) (fun _ => 0) (fun _ => 0) (fun _ => 0) ++ (wT G t4 (f_X2_reset_th (fun _ => 0) (fun _ => 0) (fun _ => 0) (fun _ => 0)) (fun _ => 0) (fun _ => 0) (fun _ => 0) (f_X2_reset_td (fun _ => 0) (fun _ => 0) (fun _ => 0) (fun _ => 0)) (f_X2_reset_tg (fun _ => 0) (fun _ => 0) (fun _ => 0) (fun _ => 0)) (f_X2_reset_tl (fun _ => 0) (fun _ => 0) (fun _ => 0) (fun _ => 0)) f_X2_reset_tn ++ (wT G u4 (f_X2_reset_th (fun _ => 0) (fun _ => 0) (fun _ => 0) (fun _ => 0)) (fun _ => 0) (fun _ => 0) (fun _ => 0) (f_X2_reset_td (fun _ => 0) (fun _ => 0) (fun _ => 0) (fun _ => 0)) (f_X2_reset_tg (fun _ => 0) (fun _ => 0) (fun _ => 0) (fun _ => 0)) (f_X2_reset_tl (fun _ => 0) (fun _ => 0) (fun _ => 0) (fun _ => 0)) f_X2_reset_tn ++ (wL G g4 (fun _ => 0) (fun _ => 0) (fun _ => 0) (fun _ => 0) 0 0 ++ ([(q8, .inr (5, [.int 0, .null, .null, .null, .null, .null, .null, .null, .int 0, .int 0, .null, .null, .null, .null, .null, .null, .null, .null, .int 0, .int 0]))]))))))) rfl ?_
  refine v_dup (pc := 11) X dL_law_11 rfl ?_
  refine v_callIv (pc := 12) (rest := [.ref q8]) (n := 0) (i1 := 5) (i2 := 65) (i3 := 66) (wr := (wG G a4 d4 t4 u4 g4 (fun _ => 0) (FX3_init_64_w57 5 0 (fun _ => 0)) 0 ++ (wD G d4 (FX0_init_38_w7 13 0 (fun _ => 0)) (fun _ => 0) (fun _ => 0) (fun _ => 0) ++ (wT G t4 (f_X2_reset_th (fun _ => 0) (fun _ => 0) (fun _ => 0) (fun _ => 0)) (fun _ => 0) (fun _ => 0) (fun _ => 0) (f_X2_reset_td (fun _ => 0) (fun _ => 0) (fun _ => 0) (fun _ => 0)) (f_X2_reset_tg (fun _ => 0) (fun _ => 0) (fun _ => 0) (fun _ => 0)) (f_X2_reset_tl (fun _ => 0) (fun _ => 0) (fun _ => 0) (fun _ => 0)) f_X2_reset_tn ++ (wT G u4 (f_X2_reset_th (fun _ => 0) (fun _ => 0) (fun _ => 0) (fun _ => 0)) (fun _ => 0) (fun _ => 0) (fun _ => 0) (f_X2_reset_td (fun _ => 0) (fun _ => 0) (fun _ => 0) (fun _ => 0)) (f_X2_reset_tg (fun _ => 0) (fun _ => 0) (fun _ => 0) (fun _ => 0)) (f_X2_reset_tl (fun _ => 0) (fun _ => 0) (fun _ => 0) (fun _ => 0)) f_X2_reset_tn ++ (wL G g4 (fun _ => 0) (fun _ => 0) (fun _ => 0) (fun _ => 0) 0 0)))))) (wn := fun a12 => (wG G a4 d4 t4 u4 g4 (fun _ => 0) (FX3_init_64_w57 5 0 (fun _ => 0)) 0 ++ (wD G d4 (FX0_init_38_w7 13 0 (fun _ => 0)) (fun _ => 0) (fun _ => 0) (fun _ => 0) ++ (wT G t4 (f_X2_reset_th (fun _ => 0) (fun _ => 0) (fun _ => 0) (fun _ => 0)) (fun _ => 0) (fun _ => 0) (fun _ => 0) (f_X2_reset_td (fun _ => 0) (fun _ => 0) (fun _ => 0) (fun _ => 0)) (f_X2_reset_tg (fun _ => 0) (fun _ => 0) (fun _ => 0) (fun _ => 0)) (f_X2_reset_tl (fun _ => 0) (fun _ => 0) (fun _ => 0) (fun _ => 0)) f_X2_reset_tn ++ (wT G u4 (f_X2_reset_th (fun _ => 0) (fun _ => 0) (fun _ => 0) (fun _ => 0)) (fun _ => 0) (fun _ => 0) (fun _ => 0) (f_X2_reset_td (fun _ => 0) (fun _ => 0) (fun _ => 0) (fun _ => 0)) (f_X2_reset_tg (fun _ => 0) (fun _ => 0) (fun _ => 0) (fun _ => 0)) (f_X2_reset_tl (fun _ => 0) (fun _ => 0) (fun _ => 0) (fun _ => 0)) f_X2_reset_tn ++ (wL G g4 (fun _ => 0) (fun _ => 0) (fun _ => 0) (fun _ => 0) 0 0 ++ (wM G a12 0 (FX4_init_124_w7 13 0 (fun _ => 0) (fun _ => 0) (fun _ => 0)) (fun _ => 0) (fun _ => 0) (fun _ => 0) (FX4_init_124_w39 13 0 (fun _ => 0) (fun _ => 0) (fun _ => 0)) (FX4_init_124_w47 13 0 (fun _ => 0) (fun _ => 0) (fun _ => 0)) (fun _ => 0) 12 0 (fun _ => 0) (fun _ => 0) (fun _ => 0) (fun _ => 0) (fun _ => 0) (fun _ => 0) (FX4_init_168_w109 5 0 (fun _ => 0)) (fun _ => 0) 0 0))))))) (isC := [29]) (isR := [0, 1, 2, 3, 4, 5, 6, 7, 8, 9, 10, 11, 12, 13, 14, 15, 16, 17, 18, 19, 20, 21, 22, 23, 24, 25, 26, 27, 28]) (isP := [0, 1, 2, 3, 4, 5, 6, 7, 8, 9, 10, 11, 12, 13, 14, 15, 16, 17, 18, 19, 20, 21, 22, 23, 24, 25, 26, 27, 28, 29, 30, 31, 32, 33, 34, 35, 36, 37, 38, 39, 40, 41, 42, 43, 44]) X (c_X4_init l G q8) gL_law_X4_init rfl rfl rfl rfl rfl rfl rfl (by decide +kernel) ⟨Nat.le_of_ble_eq_true rfl, Nat.le_of_ble_eq_true rfl⟩ dL_law_12 rfl rfl (Nat.le_of_ble_eq_true rfl) ⟨Nat.le_of_ble_eq_true rfl, Nat.le_of_ble_eq_true rfl⟩ ⟨rfl, rfl, rfl, rfl, by decide, rfl, fun _ => rfl⟩ (fun a12 hh9 => ?_)
  obtain rfl : a12 0 = q8 := hh9
  refine v_ws (ws' := (wG G a4 d4 t4 u4 g4 (fun _ => 0) (FX3_init_64_w57 5 0 (fun _ => 0)) 0 ++ (wD G d4 (FX0_init_38_w7 13 0 (fun _ => 0)) (fun _ => 0) (fun _ => 0) (fun _ => 0) ++ (wT G t4 (f_X2_reset_th (fun _ => 0) (fun _ => 0) (fun _ => 0) (fun _ => 0)) (fun _ => 0) (fun _ => 0) (fun _ => 0) (f_X2_reset_td (fun _ => 0) (fun _ => 0) (fun _ => 0) (fun _ => 0)) (f_X2_reset_tg (fun _ => 0) (fun _ => 0) (fun _ => 0) (fun _ => 0)) (f_X2_reset_tl (fun _ => 0) (fun _ => 0) (fun _ => 0) (fun _ => 0)) f_X2_reset_tn ++ (wT G u4 (f_X2_reset_th (fun _ => 0) (fun _ => 0) (fun _ => 0) (fun _ => 0)) (fun _ => 0) (fun _ => 0) (fun _ => 0) (f_X2_reset_td (fun _ => 0) (fun _ => 0) (fun _ => 0) (fun _ => 0)) (f_X2_reset_tg (fun _ => 0) (fun _ => 0) (fun _ => 0) (fun _ => 0)) (f_X2_reset_tl (fun _ => 0) (fun _ => 0) (fun _ => 0) (fun _ => 0)) f_X2_reset_tn ++ (wL G g4 (fun _ => 0) (fun _ => 0) (fun _ => 0) (fun _ => 0) 0 0 ++ (wM G a12 0 (FX4_init_124_w7 13 0 (fun _ => 0) (fun _ => 0) (fun _ => 0)) (fun _ => 0) (fun _ => 0) (fun _ => 0) (FX4_init_124_w39 13 0 (fun _ => 0) (fun _ => 0) (fun _ => 0)) (FX4_init_124_w47 13 0 (fun _ => 0) (fun _ => 0) (fun _ => 0)) (fun _ => 0) 12 0 (fun _ => 0) (fun _ => 0) (fun _ => 0) (fun _ => 0) (fun _ => 0) (fun _ => 0) (FX4_init_168_w109 5 0 (fun _ => 0)) (fun _ => 0) 0 0))))))) rfl ?_
  refine v_astore_n (pc := 15) (lv' := [(0, .ref b), (1, .ref (a4 0)), (2, .ref (a12 0))]) X dL_law_15 rfl (Nat.le_of_ble_eq_true rfl) [1, 2, 0] rfl ?_
  refine v_iconst (pc := 16) (v := 1) X dL_law_16 (by decide) ?_
  refine v_newJ (pc := 17) (i := 6) (N := 1) X dL_law_17 rfl (by decide) (by decide) (Nat.le_of_ble_eq_true rfl) (Nat.le_of_ble_eq_true rfl) (Nat.le_of_ble_eq_true rfl) (fun q17 => ?_)
  refine v_ws (ws' := (wG G a4 d4 t4 u4 g4 (fun _ => 0) (FX3_init_64_w57 5 0 (fun _ => 0)) 0 ++ (wD G d4 (FX0_init_38_w7 13 0 (fun _ => 0)) (fun _ => 0) (fun _ => 0) (fun _ => 0) ++ (wT G t4 (f_X2_reset_th (fun _ => 0) (fun _ => 0) (fun _ => 0) (fun _ => 0)) (fun _ => 0) (fun _ => 0) (fun _ => 0) (f_X2_reset_td (fun _ => 0) (fun _ => 0) (fun _ => 0) (fun _ => 0)) (f_X2_reset_tg (fun _ => 0) (fun _ => 0) (fun _ => 0) (fun _ => 0)) (f_X2_reset_tl (fun _ => 0) (fun _ => 0) (fun _ => 0) (fun _ => 0)) f_X2_reset_tn ++ (wT G u4 (f_X2_reset_th (fun _ => 0) (fun _ => 0) (fun _ => 0) (fun _ => 0)) (fun _ => 0) (fun _ => 0) (fun _ => 0) (f_X2_reset_td (fun _ => 0) (fun _ => 0) (fun _ => 0) (fun _ => 0)) (f_X2_reset_tg (fun _ => 0) (fun _ => 0) (fun _ => 0) (fun _ => 0)) (f_X2_reset_tl (fun _ => 0) (fun _ => 0) (fun _ => 0) (fun _ => 0)) f_X2_reset_tn ++ (wL G g4 (fun _ => 0) (fun _ => 0) (fun _ => 0) (fun _ => 0) 0 0 ++ (wM G a12 0 (FX4_init_124_w7 13 0 (fun _ => 0) (fun _ => 0) (fun _ => 0)) (fun _ => 0) (fun _ => 0) (fun _ => 0) (FX4_init_124_w39 13 0 (fun _ => 0) (fun _ => 0) (fun _ => 0)) (FX4_init_124_w47 13 0 (fun _ => 0) (fun _ => 0) (fun _ => 0)) (fun _ => 0) 12 0 (fun _ => 0) (fun _ => 0) (fun _ => 0) (fun _ => 0) (fun _ => 0) (fun _ => 0) (FX4_init_168_w109 5 0 (fun _ => 0)) (fun _ => 0) 0 0 ++ ([(q17, .inl (G.1 13, 1, .inr (.inl (fun _ => 0))))])))))))) rfl ?_
  refine v_astore_n (pc := 19) (lv' := [(0, .ref b), (1, .ref (a4 0)), (2, .ref (a12 0)), (3, .ref q17)]) X dL_law_19 rfl (Nat.le_of_ble_eq_true rfl) [1, 2, 3, 0] rfl ?_
  refine v_iconst (pc := 20) (v := 0) X dL_law_20 (by decide) ?_
  refine v_istore (pc := 21) (lv' := [(0, .ref b), (1, .ref (a4 0)), (2, .ref (a12 0)), (3, .ref q17), (4, .int 0)]) X dL_law_21 (Nat.le_of_ble_eq_true rfl) [1, 2, 3, 4, 0] rfl ?_
  refine v_ws (ws' := (wG G a4 d4 t4 u4 g4 (fun _ => 0) (FX4_init_168_w109 5 0 (fun _ => 0)) 0 ++ (wD G d4 (FX4_init_124_w7 13 0 (fun _ => 0) (fun _ => 0) (fun _ => 0)) (fun _ => 0) (fun _ => 0) (fun _ => 0) ++ (wT G t4 (f_X2_reset_th (fun _ => 0) (fun _ => 0) (fun _ => 0) (fun _ => 0)) (fun _ => 0) (fun _ => 0) (fun _ => 0) (f_X2_reset_td (fun _ => 0) (fun _ => 0) (fun _ => 0) (fun _ => 0)) (FX4_init_124_w47 13 0 (fun _ => 0) (fun _ => 0) (fun _ => 0)) (fun _ => 0) 12 ++ (wT G u4 (f_X2_reset_th (fun _ => 0) (fun _ => 0) (fun _ => 0) (fun _ => 0)) (fun _ => 0) (fun _ => 0) (fun _ => 0) (f_X2_reset_td (fun _ => 0) (fun _ => 0) (fun _ => 0) (fun _ => 0)) (f_X2_reset_tg (fun _ => 0) (fun _ => 0) (fun _ => 0) (fun _ => 0)) (f_X2_reset_tl (fun _ => 0) (fun _ => 0) (fun _ => 0) (fun _ => 0)) f_X2_reset_tn ++ (wL G g4 (fun _ => 0) (fun _ => 0) (fun _ => 0) (fun _ => 0) 0 0 ++ (wM G a12 0 (FX4_init_124_w7 13 0 (fun _ => 0) (fun _ => 0) (fun _ => 0)) (fun _ => 0) (fun _ => 0) (fun _ => 0) (FX4_init_124_w39 13 0 (fun _ => 0) (fun _ => 0) (fun _ => 0)) (FX4_init_124_w47 13 0 (fun _ => 0) (fun _ => 0) (fun _ => 0)) (fun _ => 0) 12 0 (fun _ => 0) (fun _ => 0) (fun _ => 0) (fun _ => 0) (fun _ => 0) (fun _ => 0) (FX4_init_168_w109 5 0 (fun _ => 0)) (fun _ => 0) 0 0 ++ (wO G (adr [q17]) (fun _ => 0))))))))) (by rw [i_kt, i_dw, i_tg, i_tl0]; rfl) ?_
  refine v_widen (k := 46 + 2 * 0) (n := 2934 + 20 * 0) (by decide) (by decide) ?_
  exact law_loop hfl X hr hX hbl hL 513 0 (by omega) (by decide) 0 rfl 0 (FX4_init_124_w7 13 0 (fun _ => 0) (fun _ => 0) (fun _ => 0)) (fun _ => 0) (fun _ => 0) (fun _ => 0) (FX4_init_124_w39 13 0 (fun _ => 0) (fun _ => 0) (fun _ => 0)) (FX4_init_124_w47 13 0 (fun _ => 0) (fun _ => 0) (fun _ => 0)) (fun _ => 0) 12 0 (fun _ => 0) (fun _ => 0) (fun _ => 0) (fun _ => 0) (fun _ => 0) (fun _ => 0) (FX4_init_168_w109 5 0 (fun _ => 0)) (fun _ => 0) 0 (f_X2_reset_th (fun _ => 0) (fun _ => 0) (fun _ => 0) (fun _ => 0)) (fun _ => 0) (fun _ => 0) (fun _ => 0) (f_X2_reset_td (fun _ => 0) (fun _ => 0) (fun _ => 0) (fun _ => 0)) (fun _ => 0) (fun _ => 0) (fun _ => 0) (fun _ => 0) 0 (f_X2_reset_th (fun _ => 0) (fun _ => 0) (fun _ => 0) (fun _ => 0)) (fun _ => 0) (fun _ => 0) (fun _ => 0) (f_X2_reset_td (fun _ => 0) (fun _ => 0) (fun _ => 0) (fun _ => 0)) (f_X2_reset_tg (fun _ => 0) (fun _ => 0) (fun _ => 0) (fun _ => 0)) (f_X2_reset_tl (fun _ => 0) (fun _ => 0) (fun _ => 0) (fun _ => 0)) f_X2_reset_tn 0 (fun _ => 0) inv_0
set_option maxHeartbeats 4000000 in
theorem lw_walk (l : Launch) (hflags : l.flags = flags0) (b : Addr) (xs : List Int32) : MetFree l x (headSpec (Jvm.Cond.code x code maxLocals ret :: tables_1) room_1) (lw_P b xs) (fun _ _ _ _ _ => True) lw_Q := by
  refine MetFree.of_bodyS (code := code) (maxLocals := maxLocals) (ret := ret) (by decide) ?_ ?_
  · intro args s m h hn
    obtain ⟨meth, c, h1, h2, h3, h4, h5, h6, -, -⟩ := Cond.code_spec hn (atoms_spec (ws := Jvm.Cond.code x code maxLocals ret :: tables_1) h _ List.mem_cons_self)
    exact ⟨meth, c, h1, h2, h3, h4, h5, h6⟩
  · intro p e s m args below meth c s₁ B hml0 hP _
    obtain ⟨rfl, hx, hbd, hgv⟩ := hP
    obtain ⟨scr, harrAt, hlist, hof, hsmall⟩ := hx
    obtain ⟨hcb, hkn, -, -⟩ := State.arrayAt?_spec harrAt
    have hown : s.vm.findClass R_law = some m.cls := findClass_of_methodNamed B.named
    have hts0 : ∀ c ∈ (Jvm.Cond.code x code maxLocals ret :: tables_1), c.before #[Value.ref b] s = true := atoms_spec (ws := Jvm.Cond.code x code maxLocals ret :: tables_1) B.pre
    have hts : ∀ w ∈ lw_tbl, w.before #[Value.ref b] s = true := k2_hts_sels lw_privs (fun w hw => hts0 w (List.mem_cons_of_mem _ hw)) lw_privs_ok
    have hml : c.maxLocals = 7 := B.maxLocals_eq (hts0 _ List.mem_cons_self)
    have X₀ : Stand p l e room_1 s m #[Value.ref b] below meth c s₁ [] 0 0 := Stand.of_body B
    have hh0 : s₁.heap = s.heap := by rw [B.state]; rfl
    have hsz : scr.slots.size = xs.length := by rw [← Array.length_toList, hlist, List.length_map]
    have hval : ∀ j : Nat, j < xs.length → scr.slots[j]? = some (.int (xs.getD j 0)) := fun j hj => by
      rw [← Array.getElem?_toList, hlist]
      simp [hj]
    have hbl : b < s.heap.size := (Array.getElem?_eq_some_iff.mp hcb).1
    have hX : va_X b xs.length (fun j => xs.getD j 0) s s.heap := ⟨scr, hcb, hof, hkn, hsz, hval⟩
    have K : W p l e room_1 s m #[Value.ref b] below meth c s₁.heap [] 0 0 (lw_Z below #[Value.ref b] s) (entryFrame m ([Value.ref b] : List Value).toArray 7) := by
      rw [hh0]
      exact whole_start l hflags hbd ⟨B.exec, B.bytes, B.returns, hml, hown, hts, hX, hbl, B.notSynchronized, hgv⟩
    obtain ⟨t, a1, o, b1, b2, b3⟩ := K s₁ rfl X₀
    exact ⟨t, o, a1, b1, b2, b3⟩
theorem lw_pre_spec {args : Array Value} {s : State} (h : (Jvm.Cond.and given_1 narrow_1).before args s = true) (hr : rest_1_c.before args s = true) : ∃ (b : Addr) (xs : List Int32), lw_P b xs args s := by
  have hs := flat_of_before _ h
  have hq := flat_of_before _ hr
  have hc : (Cond.count 1).before args s = true := hs _ (by decide +kernel)
  have harr : (Cond.arrayOf (.arg 0) .int).before args s = true := hs _ (by decide +kernel)
  have hle : (Cond.le (.length (.arg 0)) (.int 2048)).before args s = true := hs _ (by decide +kernel)
  have hlen : (Cond.isInt (.length (.arg 0))).before args s = true := hq _ (by decide +kernel)
  have hall : (Cond.all (.arg 0) (.isInt (.elem (.arg 0) (.index 0)))).before args s = true := hq _ (by decide +kernel)
  obtain ⟨b, xs, hb, hx⟩ := State.ints_of_pre rfl harr hlen hall
  have hsm : xs.length < 2 ^ 31 := hx.choose_spec.2.2.2
  have hev : (Term.length (.arg 0)).eval args s none [] s = some (.int xs.length.toInt32) := hx.length_eval hb
  have hv := Cond.le_ints hev (show (Term.int 2048).eval args s none [] s = some (.int 2048) from rfl)
  have hd : xs.length.toInt32 ≤ 2048 := by
    simpa [Cond.before, Cond.holds, hv] using hle
  have hN : xs.length ≤ 2048 := (Int32.ofNat_le_ofNat hsm (by decide)).mp (show Int32.ofNat xs.length ≤ Int32.ofNat 2048 from hd)
  exact ⟨b, xs, Cond.one_arg hc (show args[0]? = some (.ref b) from hb), hx, hN, h⟩
theorem lw_comes (l : Launch) (hflags : l.flags = flags0) : Comes l x (Jvm.Cond.code x code maxLocals ret :: tables_1) room_1 (fun tb e args s => Calls_1 tb e args s ∧ rest_1 tb e args s ∧ Pre_1 tb e args s)
    (fun _ _ args s o t => lw_Q args s o t) := by
  intro p e ha hc hk s m args below hf hfit hheap happ hpre
  obtain ⟨b, xs, hP⟩ := lw_pre_spec hpre.2.2 hpre.2.1
  obtain ⟨k, o, h1, h2, h3, hQ⟩ := lw_walk l hflags b xs p e ha hc hk s m args below hf ((Spec.applies_iff_loose hf).mp happ).1 hP trivial
  exact ⟨k, o, h1, h2, h3, hQ⟩
theorem lw_frame {s t : State} {o : Outcome} {args : Array Value} (h : Framed s o t [] 719034 6939003) :
    Framed s o t (fieldLocs frame_1_writes args s ++ arrayLocs frame_1_arrays args s ++ staticLocs frame_1_statics s) 719034 6939003 := h
theorem lw_limb (L : Cond) (hL : ∀ (args : Array Value) (s t : State), L.after args s (.returned (some (.int 1))) t = true) :
    ArmFor flags0 classFile x code maxLocals ret World_1 tables_1 room_1 Calls_1 rest_1 Pre_1
      (fun tb e a s o t => postC L tb e a s o t ∧ Framed s o t (fieldLocs frame_1_writes a s ++ arrayLocs frame_1_arrays a s ++ staticLocs frame_1_statics s) 719034 6939003) := by
  intro l hflags _ _ p e ha hc hk s m args below hf hfit hheap happ hpre
  obtain ⟨k, o, h1, h2, h3, rfl, hF⟩ := lw_comes l hflags p e ha hc hk s m args below hf hfit hheap happ hpre
  exact ⟨k, _, h1, h2, h3, hL args s _, lw_frame hF⟩
theorem i_vc : Claimed_1_1 ∧ Claimed_1_2 := ⟨lw_limb limb_1_1 (fun args s t => by simp [limb_1_1, Cond.after, Cond.holds, Cond.value]), lw_limb limb_1_2 (fun args s t => Cond.after_iff.mpr (by
  first | (rw [show limb_1_2 = Cond.eq .result (.int 1) from rfl, Cond.eq_ints (x := 1) (y := 1) rfl rfl]; simp; done) | (simp [limb_1_2, Cond.value, Term.eval]; done)))⟩
