def f_X1_countVouchings_r (lv : Int32) : Int32 := lv
set_option maxHeartbeats 4000000 in
set_option maxRecDepth 100000 in
theorem c_X1_countVouchings (l : Launch) (G : va_G) (al : Nat → Nat) (lk : Nat → Int32) (lp : Nat → Int32) (lg : Nat → Int32) (lm : Nat → Int32) (ls : Int32) (lv : Int32) : Ke l yX1_countVouchings wsX1_countVouchings { frames := 0, cells := 0, slots := 0, locals := 0 } 0 0 G (wL G al lk lp lg lm ls lv) [.ref (al 0)] (f_X1_countVouchings_r lv) (wL G al lk lp lg lm ls lv) := by
  refine v_ofi (cc := cX1_countVouchings) (nL := 1) (lv := [(0, .ref (al 0))]) (by decide) rfl (Nat.le_of_ble_eq_true rfl) rfl ?_
  intro p e s m args below meth c A X hr
  refine v_aload_n (pc := 0) X dX1_countVouchings_0 0 rfl ?_
  refine v_get (pc := 1) (k := 5) (i := 1) X dX1_countVouchings_1 (fun _ h => List.mem_cons_of_mem _ (List.mem_append_right _ h)) 0 rfl rfl (Nat.le_of_ble_eq_true rfl) rfl rfl rfl ?_
  exact v_iret (pc := 4) X hr dX1_countVouchings_4 () rfl (by show lv = (f_X1_countVouchings_r lv); simp only [f_X1_countVouchings_r])
def f_X1_add_lk (lk : Nat → Int32) (ls : Int32) (p0 : Int32) : Nat → Int32 := (if ls < 512 then (upd lk (ls).toNatClampNeg p0) else lk)
def f_X1_add_lp (lp : Nat → Int32) (ls : Int32) (p1 : Int32) : Nat → Int32 := (if ls < 512 then (upd lp (ls).toNatClampNeg p1) else lp)
def f_X1_add_lg (lg : Nat → Int32) (ls : Int32) (p2 : Int32) : Nat → Int32 := (if ls < 512 then (upd lg (ls).toNatClampNeg p2) else lg)
def f_X1_add_lm (lm : Nat → Int32) (ls : Int32) (p3 : Int32) : Nat → Int32 := (if ls < 512 then (upd lm (ls).toNatClampNeg p3) else lm)
def f_X1_add_ls (ls : Int32) : Int32 := (if ls < 512 then (ls + 1) else ls)
set_option maxHeartbeats 4000000 in
set_option maxRecDepth 100000 in
theorem c_X1_add (l : Launch) (G : va_G) (al : Nat → Nat) (lk : Nat → Int32) (lp : Nat → Int32) (lg : Nat → Int32) (lm : Nat → Int32) (ls : Int32) (lv : Int32) (p0 : Int32) (p1 : Int32) (p2 : Int32) (p3 : Int32) (hls : ¬ ls < 0) : Ku l yX1_add wsX1_add { frames := 0, cells := 0, slots := 0, locals := 0 } 0 0 G (wL G al lk lp lg lm ls lv) [.ref (al 0), .int p0, .int p1, .int p2, .int p3] (wL G al (f_X1_add_lk lk ls p0) (f_X1_add_lp lp ls p1) (f_X1_add_lg lg ls p2) (f_X1_add_lm lm ls p3) (f_X1_add_ls ls) lv) := by
  refine v_ofv (cc := cX1_add) (nL := 5) (lv := [(0, .ref (al 0)), (1, .int p0), (2, .int p1), (3, .int p2), (4, .int p3)]) (by decide) rfl (Nat.le_of_ble_eq_true rfl) rfl ?_
  intro p e s m args below meth c A X hr hin
  refine v_aload_n (pc := 0) X dX1_add_0 0 rfl ?_
  refine v_get (pc := 1) (k := 4) (i := 1) X dX1_add_1 (fun _ h => List.mem_cons_of_mem _ (List.mem_append_right _ h)) 0 rfl rfl (Nat.le_of_ble_eq_true rfl) rfl rfl rfl ?_
  refine v_sipush (pc := 4) (v := 512) X dX1_add_4 (by decide) ?_
  refine v_icmp_lt (pc := 7) X 11 dX1_add_7 (by decide) (fun c_7 => ?_) (fun c_7 => ?_)
  · refine v_aload_n (pc := 11) X dX1_add_11 0 rfl ?_
    refine v_get (pc := 12) (k := 0) (i := 2) X dX1_add_12 (fun _ h => List.mem_cons_of_mem _ (List.mem_append_right _ h)) 0 rfl rfl (Nat.le_of_ble_eq_true rfl) rfl rfl rfl ?_
    refine v_aload_n (pc := 15) X dX1_add_15 0 rfl ?_
    refine v_get (pc := 16) (k := 4) (i := 1) X dX1_add_16 (fun _ h => List.mem_cons_of_mem _ (List.mem_append_right _ h)) 0 rfl rfl (Nat.le_of_ble_eq_true rfl) rfl rfl rfl ?_
    refine v_iload_n (pc := 19) X dX1_add_19 1 rfl ?_
    refine v_iast (pc := 20) (ws' := (wL G al (upd lk (ls).toNatClampNeg p0) lp lg lm ls lv)) X dX1_add_20 1 rfl (vp_in_of3 (by decide) (by decide) hls c_7) rfl ?_
    refine v_aload_n (pc := 21) X dX1_add_21 0 rfl ?_
    refine v_get (pc := 22) (k := 1) (i := 3) X dX1_add_22 (fun _ h => List.mem_cons_of_mem _ (List.mem_append_right _ h)) 0 rfl rfl (Nat.le_of_ble_eq_true rfl) rfl rfl rfl ?_
    refine v_aload_n (pc := 25) X dX1_add_25 0 rfl ?_
    refine v_get (pc := 26) (k := 4) (i := 1) X dX1_add_26 (fun _ h => List.mem_cons_of_mem _ (List.mem_append_right _ h)) 0 rfl rfl (Nat.le_of_ble_eq_true rfl) rfl rfl rfl ?_
    refine v_iload_n (pc := 29) X dX1_add_29 2 rfl ?_
    refine v_iast (pc := 30) (ws' := (wL G al (upd lk (ls).toNatClampNeg p0) (upd lp (ls).toNatClampNeg p1) lg lm ls lv)) X dX1_add_30 2 rfl (vp_in_of3 (by decide) (by decide) hls c_7) rfl ?_
    refine v_aload_n (pc := 31) X dX1_add_31 0 rfl ?_
    refine v_get (pc := 32) (k := 2) (i := 4) X dX1_add_32 (fun _ h => List.mem_cons_of_mem _ (List.mem_append_right _ h)) 0 rfl rfl (Nat.le_of_ble_eq_true rfl) rfl rfl rfl ?_
    refine v_aload_n (pc := 35) X dX1_add_35 0 rfl ?_
    refine v_get (pc := 36) (k := 4) (i := 1) X dX1_add_36 (fun _ h => List.mem_cons_of_mem _ (List.mem_append_right _ h)) 0 rfl rfl (Nat.le_of_ble_eq_true rfl) rfl rfl rfl ?_
    refine v_iload_n (pc := 39) X dX1_add_39 3 rfl ?_
    refine v_iast (pc := 40) (ws' := (wL G al (upd lk (ls).toNatClampNeg p0) (upd lp (ls).toNatClampNeg p1) (upd lg (ls).toNatClampNeg p2) lm ls lv)) X dX1_add_40 3 rfl (vp_in_of3 (by decide) (by decide) hls c_7) rfl ?_
    refine v_aload_n (pc := 41) X dX1_add_41 0 rfl ?_
    refine v_get (pc := 42) (k := 3) (i := 5) X dX1_add_42 (fun _ h => List.mem_cons_of_mem _ (List.mem_append_right _ h)) 0 rfl rfl (Nat.le_of_ble_eq_true rfl) rfl rfl rfl ?_
    refine v_aload_n (pc := 45) X dX1_add_45 0 rfl ?_
    refine v_get (pc := 46) (k := 4) (i := 1) X dX1_add_46 (fun _ h => List.mem_cons_of_mem _ (List.mem_append_right _ h)) 0 rfl rfl (Nat.le_of_ble_eq_true rfl) rfl rfl rfl ?_
    refine v_iload (pc := 49) X dX1_add_49 4 rfl ?_
    refine v_iast (pc := 51) (ws' := (wL G al (upd lk (ls).toNatClampNeg p0) (upd lp (ls).toNatClampNeg p1) (upd lg (ls).toNatClampNeg p2) (upd lm (ls).toNatClampNeg p3) ls lv)) X dX1_add_51 4 rfl (vp_in_of3 (by decide) (by decide) hls c_7) rfl ?_
    refine v_aload_n (pc := 52) X dX1_add_52 0 rfl ?_
    refine v_dup (pc := 53) X dX1_add_53 rfl ?_
    refine v_get (pc := 54) (k := 4) (i := 1) X dX1_add_54 (fun _ h => List.mem_cons_of_mem _ (List.mem_append_right _ h)) 0 rfl rfl (Nat.le_of_ble_eq_true rfl) rfl rfl rfl ?_
    refine v_iconst (pc := 57) (v := 1) X dX1_add_57 (by decide) ?_
    refine v_iadd (pc := 58) X dX1_add_58 rfl ?_
    refine v_put (pc := 59) (k := 4) (i := 1) (ws' := (wL G al (upd lk (ls).toNatClampNeg p0) (upd lp (ls).toNatClampNeg p1) (upd lg (ls).toNatClampNeg p2) (upd lm (ls).toNatClampNeg p3) (ls + 1) lv)) X dX1_add_59 (fun _ h => List.mem_cons_of_mem _ (List.mem_append_right _ h)) tyX1_ok nmX1 0 rfl rfl (Nat.le_of_ble_eq_true rfl) rfl rfl (Or.inl rfl) rfl (rfl) rfl (Nat.le_of_ble_eq_true rfl) rfl ?_
    exact v_vret (pc := 62) X hr dX1_add_62 () (by show (wL G al (upd lk (ls).toNatClampNeg p0) (upd lp (ls).toNatClampNeg p1) (upd lg (ls).toNatClampNeg p2) (upd lm (ls).toNatClampNeg p3) (ls + 1) lv) = (wL G al (f_X1_add_lk lk ls p0) (f_X1_add_lp lp ls p1) (f_X1_add_lg lg ls p2) (f_X1_add_lm lm ls p3) (f_X1_add_ls ls) lv); simp only [f_X1_add_lk, f_X1_add_lp, f_X1_add_lg, f_X1_add_lm, f_X1_add_ls, if_pos c_7]) True.intro
  · exact v_vret (pc := 10) X hr dX1_add_10 () (by show (wL G al lk lp lg lm ls lv) = (wL G al (f_X1_add_lk lk ls p0) (f_X1_add_lp lp ls p1) (f_X1_add_lg lg ls p2) (f_X1_add_lm lm ls p3) (f_X1_add_ls ls) lv); simp only [f_X1_add_lk, f_X1_add_lp, f_X1_add_lg, f_X1_add_lm, f_X1_add_ls, if_neg c_7]) True.intro
def f_X1_addVouching_lk (lk : Nat → Int32) (ls : Int32) : Nat → Int32 := (f_X1_add_lk lk ls 0)
def f_X1_addVouching_lp (lp : Nat → Int32) (ls : Int32) (p0 : Int32) : Nat → Int32 := (f_X1_add_lp lp ls p0)
def f_X1_addVouching_lg (lg : Nat → Int32) (ls : Int32) (p1 : Int32) : Nat → Int32 := (f_X1_add_lg lg ls p1)
def f_X1_addVouching_lm (lm : Nat → Int32) (ls : Int32) (p2 : Int32) : Nat → Int32 := (f_X1_add_lm lm ls p2)
def f_X1_addVouching_ls (ls : Int32) : Int32 := (f_X1_add_ls ls)
def f_X1_addVouching_lv (lv : Int32) : Int32 := (lv + 1)
set_option maxHeartbeats 4000000 in
set_option maxRecDepth 100000 in
theorem c_X1_addVouching (l : Launch) (G : va_G) (al : Nat → Nat) (lk : Nat → Int32) (lp : Nat → Int32) (lg : Nat → Int32) (lm : Nat → Int32) (ls : Int32) (lv : Int32) (p0 : Int32) (p1 : Int32) (p2 : Int32) (hls : ¬ ls < 0) : Ku l yX1_addVouching wsX1_addVouching { frames := 1, cells := 0, slots := 0, locals := 24 } 0 0 G (wL G al lk lp lg lm ls lv) [.ref (al 0), .int p0, .int p1, .int p2] (wL G al (f_X1_addVouching_lk lk ls) (f_X1_addVouching_lp lp ls p0) (f_X1_addVouching_lg lg ls p1) (f_X1_addVouching_lm lm ls p2) (f_X1_addVouching_ls ls) (f_X1_addVouching_lv lv)) := by
  refine v_ofv (cc := cX1_addVouching) (nL := 4) (lv := [(0, .ref (al 0)), (1, .int p0), (2, .int p1), (3, .int p2)]) (by decide) rfl (Nat.le_of_ble_eq_true rfl) rfl ?_
  intro p e s m args below meth c A X hr hin
  refine v_aload_n (pc := 0) X dX1_addVouching_0 0 rfl ?_
  refine v_iconst (pc := 1) (v := 0) X dX1_addVouching_1 (by decide) ?_
  refine v_iload_n (pc := 2) X dX1_addVouching_2 1 rfl ?_
  refine v_iload_n (pc := 3) X dX1_addVouching_3 2 rfl ?_
  refine v_iload_n (pc := 4) X dX1_addVouching_4 3 rfl ?_
  refine v_uV (pc := 5) (rest := []) (n := 4) (wr := ([] : va_W)) (wn := (wL G al (f_X1_add_lk lk ls 0) (f_X1_add_lp lp ls p0) (f_X1_add_lg lg ls p1) (f_X1_add_lm lm ls p2) (f_X1_add_ls ls) lv)) (isC := [0, 1, 2, 3, 4]) (isR := []) (isP := [0, 1, 2, 3, 4]) X (c_X1_add l G al lk lp lg lm ls lv 0 p0 p1 p2 hls) gX1_addVouching_X1_add rfl rfl rfl (by decide +kernel) ⟨Nat.le_of_ble_eq_true rfl, Nat.le_of_ble_eq_true rfl⟩ dX1_addVouching_5 rfl rfl (Nat.le_of_ble_eq_true rfl) ⟨Nat.le_of_ble_eq_true rfl, Nat.le_of_ble_eq_true rfl⟩ 0 rfl rfl ⟨rfl, rfl, rfl, rfl, by decide, rfl, rfl⟩ ?_
  refine v_aload_n (pc := 8) X dX1_addVouching_8 0 rfl ?_
  refine v_dup (pc := 9) X dX1_addVouching_9 rfl ?_
  refine v_get (pc := 10) (k := 5) (i := 1) X dX1_addVouching_10 (fun _ h => List.mem_cons_of_mem _ (List.mem_append_right _ h)) 0 rfl rfl (Nat.le_of_ble_eq_true rfl) rfl rfl rfl ?_
  refine v_iconst (pc := 13) (v := 1) X dX1_addVouching_13 (by decide) ?_
  refine v_iadd (pc := 14) X dX1_addVouching_14 rfl ?_
  refine v_put (pc := 15) (k := 5) (i := 1) (ws' := (wL G al (f_X1_add_lk lk ls 0) (f_X1_add_lp lp ls p0) (f_X1_add_lg lg ls p1) (f_X1_add_lm lm ls p2) (f_X1_add_ls ls) (lv + 1))) X dX1_addVouching_15 (fun _ h => List.mem_cons_of_mem _ (List.mem_append_right _ h)) tyX1_ok nmX1 0 rfl rfl (Nat.le_of_ble_eq_true rfl) rfl rfl (Or.inl rfl) rfl (rfl) rfl (Nat.le_of_ble_eq_true rfl) rfl ?_
  exact v_vret (pc := 18) X hr dX1_addVouching_18 () (by show (wL G al (f_X1_add_lk lk ls 0) (f_X1_add_lp lp ls p0) (f_X1_add_lg lg ls p1) (f_X1_add_lm lm ls p2) (f_X1_add_ls ls) (lv + 1)) = (wL G al (f_X1_addVouching_lk lk ls) (f_X1_addVouching_lp lp ls p0) (f_X1_addVouching_lg lg ls p1) (f_X1_addVouching_lm lm ls p2) (f_X1_addVouching_ls ls) (f_X1_addVouching_lv lv)); simp only [f_X1_addVouching_lk, f_X1_addVouching_lp, f_X1_addVouching_lg, f_X1_addVouching_lm, f_X1_addVouching_ls, f_X1_addVouching_lv]) True.intro
def f_X1_addEnding_lk (lk : Nat → Int32) (ls : Int32) : Nat → Int32 := (f_X1_add_lk lk ls 1)
def f_X1_addEnding_lp (lp : Nat → Int32) (ls : Int32) : Nat → Int32 := (f_X1_add_lp lp ls (-1))
def f_X1_addEnding_lg (lg : Nat → Int32) (ls : Int32) (p0 : Int32) : Nat → Int32 := (f_X1_add_lg lg ls p0)
def f_X1_addEnding_lm (lm : Nat → Int32) (ls : Int32) : Nat → Int32 := (f_X1_add_lm lm ls 0)
def f_X1_addEnding_ls (ls : Int32) : Int32 := (f_X1_add_ls ls)
set_option maxHeartbeats 4000000 in
set_option maxRecDepth 100000 in
theorem c_X1_addEnding (l : Launch) (G : va_G) (al : Nat → Nat) (lk : Nat → Int32) (lp : Nat → Int32) (lg : Nat → Int32) (lm : Nat → Int32) (ls : Int32) (lv : Int32) (p0 : Int32) (hls : ¬ ls < 0) : Ku l yX1_addEnding wsX1_addEnding { frames := 1, cells := 0, slots := 0, locals := 24 } 0 0 G (wL G al lk lp lg lm ls lv) [.ref (al 0), .int p0] (wL G al (f_X1_addEnding_lk lk ls) (f_X1_addEnding_lp lp ls) (f_X1_addEnding_lg lg ls p0) (f_X1_addEnding_lm lm ls) (f_X1_addEnding_ls ls) lv) := by
  refine v_ofv (cc := cX1_addEnding) (nL := 2) (lv := [(0, .ref (al 0)), (1, .int p0)]) (by decide) rfl (Nat.le_of_ble_eq_true rfl) rfl ?_
  intro p e s m args below meth c A X hr hin
  refine v_aload_n (pc := 0) X dX1_addEnding_0 0 rfl ?_
  refine v_iconst (pc := 1) (v := 1) X dX1_addEnding_1 (by decide) ?_
  refine v_iconst (pc := 2) (v := (-1)) X dX1_addEnding_2 (by decide) ?_
  refine v_iload_n (pc := 3) X dX1_addEnding_3 1 rfl ?_
  refine v_iconst (pc := 4) (v := 0) X dX1_addEnding_4 (by decide) ?_
  refine v_uV (pc := 5) (rest := []) (n := 4) (wr := ([] : va_W)) (wn := (wL G al (f_X1_add_lk lk ls 1) (f_X1_add_lp lp ls (-1)) (f_X1_add_lg lg ls p0) (f_X1_add_lm lm ls 0) (f_X1_add_ls ls) lv)) (isC := [0, 1, 2, 3, 4]) (isR := []) (isP := [0, 1, 2, 3, 4]) X (c_X1_add l G al lk lp lg lm ls lv 1 (-1) p0 0 hls) gX1_addEnding_X1_add rfl rfl rfl (by decide +kernel) ⟨Nat.le_of_ble_eq_true rfl, Nat.le_of_ble_eq_true rfl⟩ dX1_addEnding_5 rfl rfl (Nat.le_of_ble_eq_true rfl) ⟨Nat.le_of_ble_eq_true rfl, Nat.le_of_ble_eq_true rfl⟩ 0 rfl rfl ⟨rfl, rfl, rfl, rfl, by decide, rfl, rfl⟩ ?_
  exact v_vret (pc := 8) X hr dX1_addEnding_8 () (by show (wL G al (f_X1_add_lk lk ls 1) (f_X1_add_lp lp ls (-1)) (f_X1_add_lg lg ls p0) (f_X1_add_lm lm ls 0) (f_X1_add_ls ls) lv) = (wL G al (f_X1_addEnding_lk lk ls) (f_X1_addEnding_lp lp ls) (f_X1_addEnding_lg lg ls p0) (f_X1_addEnding_lm lm ls) (f_X1_addEnding_ls ls) lv); simp only [f_X1_addEnding_lk, f_X1_addEnding_lp, f_X1_addEnding_lg, f_X1_addEnding_lm, f_X1_addEnding_ls]) True.intro
def f_X1_addLoss_lk (lk : Nat → Int32) (ls : Int32) : Nat → Int32 := (f_X1_add_lk lk ls 2)
def f_X1_addLoss_lp (lp : Nat → Int32) (ls : Int32) (p0 : Int32) : Nat → Int32 := (f_X1_add_lp lp ls p0)
def f_X1_addLoss_lg (lg : Nat → Int32) (ls : Int32) : Nat → Int32 := (f_X1_add_lg lg ls (-1))
def f_X1_addLoss_lm (lm : Nat → Int32) (ls : Int32) (p1 : Int32) : Nat → Int32 := (f_X1_add_lm lm ls p1)
def f_X1_addLoss_ls (ls : Int32) : Int32 := (f_X1_add_ls ls)
set_option maxHeartbeats 4000000 in
set_option maxRecDepth 100000 in
theorem c_X1_addLoss (l : Launch) (G : va_G) (al : Nat → Nat) (lk : Nat → Int32) (lp : Nat → Int32) (lg : Nat → Int32) (lm : Nat → Int32) (ls : Int32) (lv : Int32) (p0 : Int32) (p1 : Int32) (hls : ¬ ls < 0) : Ku l yX1_addLoss wsX1_addLoss { frames := 1, cells := 0, slots := 0, locals := 24 } 0 0 G (wL G al lk lp lg lm ls lv) [.ref (al 0), .int p0, .int p1] (wL G al (f_X1_addLoss_lk lk ls) (f_X1_addLoss_lp lp ls p0) (f_X1_addLoss_lg lg ls) (f_X1_addLoss_lm lm ls p1) (f_X1_addLoss_ls ls) lv) := by
  refine v_ofv (cc := cX1_addLoss) (nL := 3) (lv := [(0, .ref (al 0)), (1, .int p0), (2, .int p1)]) (by decide) rfl (Nat.le_of_ble_eq_true rfl) rfl ?_
  intro p e s m args below meth c A X hr hin
  refine v_aload_n (pc := 0) X dX1_addLoss_0 0 rfl ?_
  refine v_iconst (pc := 1) (v := 2) X dX1_addLoss_1 (by decide) ?_
  refine v_iload_n (pc := 2) X dX1_addLoss_2 1 rfl ?_
  refine v_iconst (pc := 3) (v := (-1)) X dX1_addLoss_3 (by decide) ?_
  refine v_iload_n (pc := 4) X dX1_addLoss_4 2 rfl ?_
  refine v_uV (pc := 5) (rest := []) (n := 4) (wr := ([] : va_W)) (wn := (wL G al (f_X1_add_lk lk ls 2) (f_X1_add_lp lp ls p0) (f_X1_add_lg lg ls (-1)) (f_X1_add_lm lm ls p1) (f_X1_add_ls ls) lv)) (isC := [0, 1, 2, 3, 4]) (isR := []) (isP := [0, 1, 2, 3, 4]) X (c_X1_add l G al lk lp lg lm ls lv 2 p0 (-1) p1 hls) gX1_addLoss_X1_add rfl rfl rfl (by decide +kernel) ⟨Nat.le_of_ble_eq_true rfl, Nat.le_of_ble_eq_true rfl⟩ dX1_addLoss_5 rfl rfl (Nat.le_of_ble_eq_true rfl) ⟨Nat.le_of_ble_eq_true rfl, Nat.le_of_ble_eq_true rfl⟩ 0 rfl rfl ⟨rfl, rfl, rfl, rfl, by decide, rfl, rfl⟩ ?_
  exact v_vret (pc := 8) X hr dX1_addLoss_8 () (by show (wL G al (f_X1_add_lk lk ls 2) (f_X1_add_lp lp ls p0) (f_X1_add_lg lg ls (-1)) (f_X1_add_lm lm ls p1) (f_X1_add_ls ls) lv) = (wL G al (f_X1_addLoss_lk lk ls) (f_X1_addLoss_lp lp ls p0) (f_X1_addLoss_lg lg ls) (f_X1_addLoss_lm lm ls p1) (f_X1_addLoss_ls ls) lv); simp only [f_X1_addLoss_lk, f_X1_addLoss_lp, f_X1_addLoss_lg, f_X1_addLoss_lm, f_X1_addLoss_ls]) True.intro
def f_X1_addIssue_lk (lk : Nat → Int32) (ls : Int32) : Nat → Int32 := (f_X1_add_lk lk ls 3)
def f_X1_addIssue_lp (lp : Nat → Int32) (ls : Int32) (p0 : Int32) : Nat → Int32 := (f_X1_add_lp lp ls p0)
def f_X1_addIssue_lg (lg : Nat → Int32) (ls : Int32) : Nat → Int32 := (f_X1_add_lg lg ls (-1))
def f_X1_addIssue_lm (lm : Nat → Int32) (ls : Int32) : Nat → Int32 := (f_X1_add_lm lm ls 0)
def f_X1_addIssue_ls (ls : Int32) : Int32 := (f_X1_add_ls ls)
set_option maxHeartbeats 4000000 in
set_option maxRecDepth 100000 in
theorem c_X1_addIssue (l : Launch) (G : va_G) (al : Nat → Nat) (lk : Nat → Int32) (lp : Nat → Int32) (lg : Nat → Int32) (lm : Nat → Int32) (ls : Int32) (lv : Int32) (p0 : Int32) (hls : ¬ ls < 0) : Ku l yX1_addIssue wsX1_addIssue { frames := 1, cells := 0, slots := 0, locals := 24 } 0 0 G (wL G al lk lp lg lm ls lv) [.ref (al 0), .int p0] (wL G al (f_X1_addIssue_lk lk ls) (f_X1_addIssue_lp lp ls p0) (f_X1_addIssue_lg lg ls) (f_X1_addIssue_lm lm ls) (f_X1_addIssue_ls ls) lv) := by
  refine v_ofv (cc := cX1_addIssue) (nL := 2) (lv := [(0, .ref (al 0)), (1, .int p0)]) (by decide) rfl (Nat.le_of_ble_eq_true rfl) rfl ?_
  intro p e s m args below meth c A X hr hin
  refine v_aload_n (pc := 0) X dX1_addIssue_0 0 rfl ?_
  refine v_iconst (pc := 1) (v := 3) X dX1_addIssue_1 (by decide) ?_
  refine v_iload_n (pc := 2) X dX1_addIssue_2 1 rfl ?_
  refine v_iconst (pc := 3) (v := (-1)) X dX1_addIssue_3 (by decide) ?_
  refine v_iconst (pc := 4) (v := 0) X dX1_addIssue_4 (by decide) ?_
  refine v_uV (pc := 5) (rest := []) (n := 4) (wr := ([] : va_W)) (wn := (wL G al (f_X1_add_lk lk ls 3) (f_X1_add_lp lp ls p0) (f_X1_add_lg lg ls (-1)) (f_X1_add_lm lm ls 0) (f_X1_add_ls ls) lv)) (isC := [0, 1, 2, 3, 4]) (isR := []) (isP := [0, 1, 2, 3, 4]) X (c_X1_add l G al lk lp lg lm ls lv 3 p0 (-1) 0 hls) gX1_addIssue_X1_add rfl rfl rfl (by decide +kernel) ⟨Nat.le_of_ble_eq_true rfl, Nat.le_of_ble_eq_true rfl⟩ dX1_addIssue_5 rfl rfl (Nat.le_of_ble_eq_true rfl) ⟨Nat.le_of_ble_eq_true rfl, Nat.le_of_ble_eq_true rfl⟩ 0 rfl rfl ⟨rfl, rfl, rfl, rfl, by decide, rfl, rfl⟩ ?_
  exact v_vret (pc := 8) X hr dX1_addIssue_8 () (by show (wL G al (f_X1_add_lk lk ls 3) (f_X1_add_lp lp ls p0) (f_X1_add_lg lg ls (-1)) (f_X1_add_lm lm ls 0) (f_X1_add_ls ls) lv) = (wL G al (f_X1_addIssue_lk lk ls) (f_X1_addIssue_lp lp ls p0) (f_X1_addIssue_lg lg ls) (f_X1_addIssue_lm lm ls) (f_X1_addIssue_ls ls) lv); simp only [f_X1_addIssue_lk, f_X1_addIssue_lp, f_X1_addIssue_lg, f_X1_addIssue_lm, f_X1_addIssue_ls]) True.intro
def f_X1_replayOne_th (lk : Nat → Int32) (lp : Nat → Int32) (lg : Nat → Int32) (th : Nat → Int32) (p0 : Int32) : Nat → Int32 := (if (lk (p0).toNatClampNeg) = 0 then (f_X2_tie_th th (lp (p0).toNatClampNeg) (lg (p0).toNatClampNeg)) else (if (lk (p0).toNatClampNeg) = 1 then (f_X2_untie_th th (lg (p0).toNatClampNeg)) else th))
def f_X1_replayOne_tm (lk : Nat → Int32) (lg : Nat → Int32) (lm : Nat → Int32) (tm : Nat → Int32) (p0 : Int32) : Nat → Int32 := (if (lk (p0).toNatClampNeg) = 0 then (f_X2_tie_tm tm (lg (p0).toNatClampNeg) (lm (p0).toNatClampNeg)) else tm)
def f_X1_replayOne_tb (lk : Nat → Int32) (lp : Nat → Int32) (lg : Nat → Int32) (tb : Nat → Int32) (tg : Nat → Int32) (p0 : Int32) : Nat → Int32 := (if (lk (p0).toNatClampNeg) = 0 then (f_X2_tie_tb tb tg (lp (p0).toNatClampNeg) (lg (p0).toNatClampNeg)) else tb)
def f_X1_replayOne_td (lk : Nat → Int32) (lp : Nat → Int32) (lg : Nat → Int32) (lm : Nat → Int32) (th : Nat → Int32) (tm : Nat → Int32) (tb : Nat → Int32) (td : Nat → Int32) (tg : Nat → Int32) (p0 : Int32) : Nat → Int32 := (if (lk (p0).toNatClampNeg) = 0 then (f_X2_tie_td td (lg (p0).toNatClampNeg)) else (if (lk (p0).toNatClampNeg) = 1 then (f_X2_untie_td td (lg (p0).toNatClampNeg)) else (if (lk (p0).toNatClampNeg) = 2 then (f_X2_markLost_td th tm tb td tg (lp (p0).toNatClampNeg) (lm (p0).toNatClampNeg)) else td)))
def f_X1_replayOne_tg (lk : Nat → Int32) (lp : Nat → Int32) (tg : Nat → Int32) (tn : Int32) (p0 : Int32) : Nat → Int32 := (if (lk (p0).toNatClampNeg) = 0 then tg else (if (lk (p0).toNatClampNeg) = 1 then tg else (if (lk (p0).toNatClampNeg) = 2 then tg else (f_X2_renewBadge_tg tg tn (lp (p0).toNatClampNeg)))))
def f_X1_replayOne_tl (lk : Nat → Int32) (lp : Nat → Int32) (tl : Nat → Int32) (p0 : Int32) : Nat → Int32 := (if (lk (p0).toNatClampNeg) = 0 then tl else (if (lk (p0).toNatClampNeg) = 1 then tl else (if (lk (p0).toNatClampNeg) = 2 then (f_X2_markLost_tl tl (lp (p0).toNatClampNeg)) else (f_X2_renewBadge_tl tl (lp (p0).toNatClampNeg)))))
def f_X1_replayOne_tn (lk : Nat → Int32) (tn : Int32) (p0 : Int32) : Int32 := (if (lk (p0).toNatClampNeg) = 0 then tn else (if (lk (p0).toNatClampNeg) = 1 then tn else (if (lk (p0).toNatClampNeg) = 2 then tn else (f_X2_renewBadge_tn tn))))
set_option maxHeartbeats 4000000 in
set_option maxRecDepth 100000 in
theorem c_X1_replayOne (l : Launch) (G : va_G) (al : Nat → Nat) (aT : Nat → Nat) (lk : Nat → Int32) (lp : Nat → Int32) (lg : Nat → Int32) (lm : Nat → Int32) (ls : Int32) (lv : Int32) (th : Nat → Int32) (tr : Nat → Int32) (tm : Nat → Int32) (tb : Nat → Int32) (td : Nat → Int32) (tg : Nat → Int32) (tl : Nat → Int32) (tn : Int32) (p0 : Int32) (h0 : vp_in p0 512) (hev : evOK lk lp lg (p0).toNatClampNeg) : Ku l yX1_replayOne wsX1_replayOne { frames := 1, cells := 0, slots := 0, locals := 23 } 0 0 G (wL G al lk lp lg lm ls lv ++ (wT G aT th tr tm tb td tg tl tn)) [.ref (al 0), .int p0, .ref (aT 0)] (wL G al lk lp lg lm ls lv ++ (wT G aT (f_X1_replayOne_th lk lp lg th p0) tr (f_X1_replayOne_tm lk lg lm tm p0) (f_X1_replayOne_tb lk lp lg tb tg p0) (f_X1_replayOne_td lk lp lg lm th tm tb td tg p0) (f_X1_replayOne_tg lk lp tg tn p0) (f_X1_replayOne_tl lk lp tl p0) (f_X1_replayOne_tn lk tn p0))) := by
  refine v_ofv (cc := cX1_replayOne) (nL := 3) (lv := [(0, .ref (al 0)), (1, .int p0), (2, .ref (aT 0))]) (by decide) rfl (Nat.le_of_ble_eq_true rfl) rfl ?_
  intro p e s m args below meth c A X hr hin
  refine v_aload_n (pc := 0) X dX1_replayOne_0 0 rfl ?_
  refine v_get (pc := 1) (k := 0) (i := 1) X dX1_replayOne_1 (fun _ h => List.mem_cons_of_mem _ (List.mem_append_left _ (List.mem_append_right _ h))) 0 rfl rfl (Nat.le_of_ble_eq_true rfl) rfl rfl rfl ?_
  refine v_iload_n (pc := 4) X dX1_replayOne_4 1 rfl ?_
  refine v_iald (pc := 5) X dX1_replayOne_5 1 rfl h0 rfl ?_
  rcases Classical.em ((lk (p0).toNatClampNeg) = 0) with c_6_0 | c_6_0
  · refine v_tableIn (pc := 6) (off := 26) X 32 dX1_replayOne_6 (by rw [c_6_0]; decide) (by rw [c_6_0]; decide) (by rw [c_6_0]; rfl) (by decide) ?_
    have g1 : vp_in (lp (p0).toNatClampNeg) 12 := (hev.1 c_6_0).1
    have g2 : vp_in (lg (p0).toNatClampNeg) 12 := (hev.1 c_6_0).2
    refine v_aload_n (pc := 32) X dX1_replayOne_32 2 rfl ?_
    refine v_aload_n (pc := 33) X dX1_replayOne_33 0 rfl ?_
    refine v_get (pc := 34) (k := 1) (i := 2) X dX1_replayOne_34 (fun _ h => List.mem_cons_of_mem _ (List.mem_append_left _ (List.mem_append_right _ h))) 0 rfl rfl (Nat.le_of_ble_eq_true rfl) rfl rfl rfl ?_
    refine v_iload_n (pc := 37) X dX1_replayOne_37 1 rfl ?_
    refine v_iald (pc := 38) X dX1_replayOne_38 2 rfl h0 rfl ?_
    refine v_aload_n (pc := 39) X dX1_replayOne_39 0 rfl ?_
    refine v_get (pc := 40) (k := 2) (i := 3) X dX1_replayOne_40 (fun _ h => List.mem_cons_of_mem _ (List.mem_append_left _ (List.mem_append_right _ h))) 0 rfl rfl (Nat.le_of_ble_eq_true rfl) rfl rfl rfl ?_
    refine v_iload_n (pc := 43) X dX1_replayOne_43 1 rfl ?_
    refine v_iald (pc := 44) X dX1_replayOne_44 3 rfl h0 rfl ?_
    refine v_aload_n (pc := 45) X dX1_replayOne_45 0 rfl ?_
    refine v_get (pc := 46) (k := 3) (i := 4) X dX1_replayOne_46 (fun _ h => List.mem_cons_of_mem _ (List.mem_append_left _ (List.mem_append_right _ h))) 0 rfl rfl (Nat.le_of_ble_eq_true rfl) rfl rfl rfl ?_
    refine v_iload_n (pc := 49) X dX1_replayOne_49 1 rfl ?_
    refine v_iald (pc := 50) X dX1_replayOne_50 4 rfl h0 rfl ?_
    refine v_uV (pc := 51) (rest := []) (n := 3) (wr := (wL G al lk lp lg lm ls lv)) (wn := (wL G al lk lp lg lm ls lv ++ (wT G aT (f_X2_tie_th th (lp (p0).toNatClampNeg) (lg (p0).toNatClampNeg)) tr (f_X2_tie_tm tm (lg (p0).toNatClampNeg) (lm (p0).toNatClampNeg)) (f_X2_tie_tb tb tg (lp (p0).toNatClampNeg) (lg (p0).toNatClampNeg)) (f_X2_tie_td td (lg (p0).toNatClampNeg)) tg tl tn))) (isC := [5, 6, 7, 8, 9, 10, 11, 12]) (isR := [0, 1, 2, 3, 4]) (isP := [0, 1, 2, 3, 4, 5, 6, 7, 8, 9, 10, 11, 12]) X (c_X2_tie l G aT th tr tm tb td tg tl tn (lp (p0).toNatClampNeg) (lg (p0).toNatClampNeg) (lm (p0).toNatClampNeg) g1 g2) gX1_replayOne_X2_tie rfl rfl rfl (by decide +kernel) ⟨Nat.le_of_ble_eq_true rfl, Nat.le_of_ble_eq_true rfl⟩ dX1_replayOne_51 rfl rfl (Nat.le_of_ble_eq_true rfl) ⟨Nat.le_of_ble_eq_true rfl, Nat.le_of_ble_eq_true rfl⟩ 0 rfl rfl ⟨rfl, rfl, rfl, rfl, by decide, rfl, rfl⟩ ?_
    refine v_goto (pc := 54) X 99 dX1_replayOne_54 (by decide) ?_
    exact v_vret (pc := 99) X hr dX1_replayOne_99 () (by show (wL G al lk lp lg lm ls lv ++ (wT G aT (f_X2_tie_th th (lp (p0).toNatClampNeg) (lg (p0).toNatClampNeg)) tr (f_X2_tie_tm tm (lg (p0).toNatClampNeg) (lm (p0).toNatClampNeg)) (f_X2_tie_tb tb tg (lp (p0).toNatClampNeg) (lg (p0).toNatClampNeg)) (f_X2_tie_td td (lg (p0).toNatClampNeg)) tg tl tn)) = (wL G al lk lp lg lm ls lv ++ (wT G aT (f_X1_replayOne_th lk lp lg th p0) tr (f_X1_replayOne_tm lk lg lm tm p0) (f_X1_replayOne_tb lk lp lg tb tg p0) (f_X1_replayOne_td lk lp lg lm th tm tb td tg p0) (f_X1_replayOne_tg lk lp tg tn p0) (f_X1_replayOne_tl lk lp tl p0) (f_X1_replayOne_tn lk tn p0))); simp only [f_X1_replayOne_th, f_X1_replayOne_tm, f_X1_replayOne_tb, f_X1_replayOne_td, f_X1_replayOne_tg, f_X1_replayOne_tl, f_X1_replayOne_tn, if_pos c_6_0]) True.intro
  · rcases Classical.em ((lk (p0).toNatClampNeg) = 1) with c_6_1 | c_6_1
    · refine v_tableIn (pc := 6) (off := 51) X 57 dX1_replayOne_6 (by rw [c_6_1]; decide) (by rw [c_6_1]; decide) (by rw [c_6_1]; rfl) (by decide) ?_
      have g1 : vp_in (lg (p0).toNatClampNeg) 12 := hev.2.1 c_6_1
      refine v_aload_n (pc := 57) X dX1_replayOne_57 2 rfl ?_
      refine v_aload_n (pc := 58) X dX1_replayOne_58 0 rfl ?_
      refine v_get (pc := 59) (k := 2) (i := 3) X dX1_replayOne_59 (fun _ h => List.mem_cons_of_mem _ (List.mem_append_left _ (List.mem_append_right _ h))) 0 rfl rfl (Nat.le_of_ble_eq_true rfl) rfl rfl rfl ?_
      refine v_iload_n (pc := 62) X dX1_replayOne_62 1 rfl ?_
      refine v_iald (pc := 63) X dX1_replayOne_63 3 rfl h0 rfl ?_
      refine v_uV (pc := 64) (rest := []) (n := 1) (wr := (wL G al lk lp lg lm ls lv)) (wn := (wL G al lk lp lg lm ls lv ++ (wT G aT (f_X2_untie_th th (lg (p0).toNatClampNeg)) tr tm tb (f_X2_untie_td td (lg (p0).toNatClampNeg)) tg tl tn))) (isC := [5, 6, 7, 8, 9, 10, 11, 12]) (isR := [0, 1, 2, 3, 4]) (isP := [0, 1, 2, 3, 4, 5, 6, 7, 8, 9, 10, 11, 12]) X (c_X2_untie l G aT th tr tm tb td tg tl tn (lg (p0).toNatClampNeg) g1) gX1_replayOne_X2_untie rfl rfl rfl (by decide +kernel) ⟨Nat.le_of_ble_eq_true rfl, Nat.le_of_ble_eq_true rfl⟩ dX1_replayOne_64 rfl rfl (Nat.le_of_ble_eq_true rfl) ⟨Nat.le_of_ble_eq_true rfl, Nat.le_of_ble_eq_true rfl⟩ 0 rfl rfl ⟨rfl, rfl, rfl, rfl, by decide, rfl, rfl⟩ ?_
      refine v_goto (pc := 67) X 99 dX1_replayOne_67 (by decide) ?_
      exact v_vret (pc := 99) X hr dX1_replayOne_99 () (by show (wL G al lk lp lg lm ls lv ++ (wT G aT (f_X2_untie_th th (lg (p0).toNatClampNeg)) tr tm tb (f_X2_untie_td td (lg (p0).toNatClampNeg)) tg tl tn)) = (wL G al lk lp lg lm ls lv ++ (wT G aT (f_X1_replayOne_th lk lp lg th p0) tr (f_X1_replayOne_tm lk lg lm tm p0) (f_X1_replayOne_tb lk lp lg tb tg p0) (f_X1_replayOne_td lk lp lg lm th tm tb td tg p0) (f_X1_replayOne_tg lk lp tg tn p0) (f_X1_replayOne_tl lk lp tl p0) (f_X1_replayOne_tn lk tn p0))); simp only [f_X1_replayOne_th, f_X1_replayOne_tm, f_X1_replayOne_tb, f_X1_replayOne_td, f_X1_replayOne_tg, f_X1_replayOne_tl, f_X1_replayOne_tn, if_neg c_6_0, if_pos c_6_1]) True.intro
    · rcases Classical.em ((lk (p0).toNatClampNeg) = 2) with c_6_2 | c_6_2
      · refine v_tableIn (pc := 6) (off := 64) X 70 dX1_replayOne_6 (by rw [c_6_2]; decide) (by rw [c_6_2]; decide) (by rw [c_6_2]; rfl) (by decide) ?_
        have g1 : vp_in (lp (p0).toNatClampNeg) 12 := hev.2.2 c_6_0 c_6_1
        refine v_aload_n (pc := 70) X dX1_replayOne_70 2 rfl ?_
        refine v_aload_n (pc := 71) X dX1_replayOne_71 0 rfl ?_
        refine v_get (pc := 72) (k := 1) (i := 2) X dX1_replayOne_72 (fun _ h => List.mem_cons_of_mem _ (List.mem_append_left _ (List.mem_append_right _ h))) 0 rfl rfl (Nat.le_of_ble_eq_true rfl) rfl rfl rfl ?_
        refine v_iload_n (pc := 75) X dX1_replayOne_75 1 rfl ?_
        refine v_iald (pc := 76) X dX1_replayOne_76 2 rfl h0 rfl ?_
        refine v_aload_n (pc := 77) X dX1_replayOne_77 0 rfl ?_
        refine v_get (pc := 78) (k := 3) (i := 4) X dX1_replayOne_78 (fun _ h => List.mem_cons_of_mem _ (List.mem_append_left _ (List.mem_append_right _ h))) 0 rfl rfl (Nat.le_of_ble_eq_true rfl) rfl rfl rfl ?_
        refine v_iload_n (pc := 81) X dX1_replayOne_81 1 rfl ?_
        refine v_iald (pc := 82) X dX1_replayOne_82 4 rfl h0 rfl ?_
        refine v_uV (pc := 83) (rest := []) (n := 2) (wr := (wL G al lk lp lg lm ls lv)) (wn := (wL G al lk lp lg lm ls lv ++ (wT G aT th tr tm tb (f_X2_markLost_td th tm tb td tg (lp (p0).toNatClampNeg) (lm (p0).toNatClampNeg)) tg (f_X2_markLost_tl tl (lp (p0).toNatClampNeg)) tn))) (isC := [5, 6, 7, 8, 9, 10, 11, 12]) (isR := [0, 1, 2, 3, 4]) (isP := [0, 1, 2, 3, 4, 5, 6, 7, 8, 9, 10, 11, 12]) X (c_X2_markLost l G aT th tr tm tb td tg tl tn (lp (p0).toNatClampNeg) (lm (p0).toNatClampNeg) g1) gX1_replayOne_X2_markLost rfl rfl rfl (by decide +kernel) ⟨Nat.le_of_ble_eq_true rfl, Nat.le_of_ble_eq_true rfl⟩ dX1_replayOne_83 rfl rfl (Nat.le_of_ble_eq_true rfl) ⟨Nat.le_of_ble_eq_true rfl, Nat.le_of_ble_eq_true rfl⟩ 0 rfl rfl ⟨rfl, rfl, rfl, rfl, by decide, rfl, rfl⟩ ?_
        refine v_goto (pc := 86) X 99 dX1_replayOne_86 (by decide) ?_
        exact v_vret (pc := 99) X hr dX1_replayOne_99 () (by show (wL G al lk lp lg lm ls lv ++ (wT G aT th tr tm tb (f_X2_markLost_td th tm tb td tg (lp (p0).toNatClampNeg) (lm (p0).toNatClampNeg)) tg (f_X2_markLost_tl tl (lp (p0).toNatClampNeg)) tn)) = (wL G al lk lp lg lm ls lv ++ (wT G aT (f_X1_replayOne_th lk lp lg th p0) tr (f_X1_replayOne_tm lk lg lm tm p0) (f_X1_replayOne_tb lk lp lg tb tg p0) (f_X1_replayOne_td lk lp lg lm th tm tb td tg p0) (f_X1_replayOne_tg lk lp tg tn p0) (f_X1_replayOne_tl lk lp tl p0) (f_X1_replayOne_tn lk tn p0))); simp only [f_X1_replayOne_th, f_X1_replayOne_tm, f_X1_replayOne_tb, f_X1_replayOne_td, f_X1_replayOne_tg, f_X1_replayOne_tl, f_X1_replayOne_tn, if_neg c_6_0, if_neg c_6_1, if_pos c_6_2]) True.intro
      · refine v_tableOut (pc := 6) X 89 dX1_replayOne_6 (sw_out 3 (lk (p0).toNatClampNeg) (fun k hk => by match k, hk with | 0, _ => exact c_6_0 | 1, _ => exact c_6_1 | 2, _ => exact c_6_2 | k + 3, hk => omega)) (by decide) ?_
        have g1 : vp_in (lp (p0).toNatClampNeg) 12 := hev.2.2 c_6_0 c_6_1
        refine v_aload_n (pc := 89) X dX1_replayOne_89 2 rfl ?_
        refine v_aload_n (pc := 90) X dX1_replayOne_90 0 rfl ?_
        refine v_get (pc := 91) (k := 1) (i := 2) X dX1_replayOne_91 (fun _ h => List.mem_cons_of_mem _ (List.mem_append_left _ (List.mem_append_right _ h))) 0 rfl rfl (Nat.le_of_ble_eq_true rfl) rfl rfl rfl ?_
        refine v_iload_n (pc := 94) X dX1_replayOne_94 1 rfl ?_
        refine v_iald (pc := 95) X dX1_replayOne_95 2 rfl h0 rfl ?_
        refine v_uV (pc := 96) (rest := []) (n := 1) (wr := (wL G al lk lp lg lm ls lv)) (wn := (wL G al lk lp lg lm ls lv ++ (wT G aT th tr tm tb td (f_X2_renewBadge_tg tg tn (lp (p0).toNatClampNeg)) (f_X2_renewBadge_tl tl (lp (p0).toNatClampNeg)) (f_X2_renewBadge_tn tn)))) (isC := [5, 6, 7, 8, 9, 10, 11, 12]) (isR := [0, 1, 2, 3, 4]) (isP := [0, 1, 2, 3, 4, 5, 6, 7, 8, 9, 10, 11, 12]) X (c_X2_renewBadge l G aT th tr tm tb td tg tl tn (lp (p0).toNatClampNeg) g1) gX1_replayOne_X2_renewBadge rfl rfl rfl (by decide +kernel) ⟨Nat.le_of_ble_eq_true rfl, Nat.le_of_ble_eq_true rfl⟩ dX1_replayOne_96 rfl rfl (Nat.le_of_ble_eq_true rfl) ⟨Nat.le_of_ble_eq_true rfl, Nat.le_of_ble_eq_true rfl⟩ 0 rfl rfl ⟨rfl, rfl, rfl, rfl, by decide, rfl, rfl⟩ ?_
        exact v_vret (pc := 99) X hr dX1_replayOne_99 () (by show (wL G al lk lp lg lm ls lv ++ (wT G aT th tr tm tb td (f_X2_renewBadge_tg tg tn (lp (p0).toNatClampNeg)) (f_X2_renewBadge_tl tl (lp (p0).toNatClampNeg)) (f_X2_renewBadge_tn tn))) = (wL G al lk lp lg lm ls lv ++ (wT G aT (f_X1_replayOne_th lk lp lg th p0) tr (f_X1_replayOne_tm lk lg lm tm p0) (f_X1_replayOne_tb lk lp lg tb tg p0) (f_X1_replayOne_td lk lp lg lm th tm tb td tg p0) (f_X1_replayOne_tg lk lp tg tn p0) (f_X1_replayOne_tl lk lp tl p0) (f_X1_replayOne_tn lk tn p0))); simp only [f_X1_replayOne_th, f_X1_replayOne_tm, f_X1_replayOne_tb, f_X1_replayOne_td, f_X1_replayOne_tg, f_X1_replayOne_tl, f_X1_replayOne_tn, if_neg c_6_0, if_neg c_6_1, if_neg c_6_2]) True.intro
def FX1_replayInto_6_x2 : Nat → Int32 → (Nat → Int32) → (Nat → Int32) → (Nat → Int32) → (Nat → Int32) → (Nat → Int32) → (Nat → Int32) → Int32 → (Nat → Int32) → (Nat → Int32) → (Nat → Int32) → (Nat → Int32) → Int32 → Int32
  | 0, _, _, _, _, _, _, _, _, _, _, _, _, _ => 0
  | n + 1, x2, vth, vtm, vtb, vtd, vtg, vtl, vtn, lk, lp, lg, lm, ls => (if ls ≤ x2 then x2 else (FX1_replayInto_6_x2 n (x2 + 1) (f_X1_replayOne_th lk lp lg vth x2) (f_X1_replayOne_tm lk lg lm vtm x2) (f_X1_replayOne_tb lk lp lg vtb vtg x2) (f_X1_replayOne_td lk lp lg lm vth vtm vtb vtd vtg x2) (f_X1_replayOne_tg lk lp vtg vtn x2) (f_X1_replayOne_tl lk lp vtl x2) (f_X1_replayOne_tn lk vtn x2) lk lp lg lm ls))
def FX1_replayInto_6_vth : Nat → Int32 → (Nat → Int32) → (Nat → Int32) → (Nat → Int32) → (Nat → Int32) → (Nat → Int32) → (Nat → Int32) → Int32 → (Nat → Int32) → (Nat → Int32) → (Nat → Int32) → (Nat → Int32) → Int32 → Nat → Int32
  | 0, _, _, _, _, _, _, _, _, _, _, _, _, _ => fun _ => 0
  | n + 1, x2, vth, vtm, vtb, vtd, vtg, vtl, vtn, lk, lp, lg, lm, ls => (if ls ≤ x2 then vth else (FX1_replayInto_6_vth n (x2 + 1) (f_X1_replayOne_th lk lp lg vth x2) (f_X1_replayOne_tm lk lg lm vtm x2) (f_X1_replayOne_tb lk lp lg vtb vtg x2) (f_X1_replayOne_td lk lp lg lm vth vtm vtb vtd vtg x2) (f_X1_replayOne_tg lk lp vtg vtn x2) (f_X1_replayOne_tl lk lp vtl x2) (f_X1_replayOne_tn lk vtn x2) lk lp lg lm ls))
def FX1_replayInto_6_vtm : Nat → Int32 → (Nat → Int32) → (Nat → Int32) → (Nat → Int32) → (Nat → Int32) → (Nat → Int32) → (Nat → Int32) → Int32 → (Nat → Int32) → (Nat → Int32) → (Nat → Int32) → (Nat → Int32) → Int32 → Nat → Int32
  | 0, _, _, _, _, _, _, _, _, _, _, _, _, _ => fun _ => 0
  | n + 1, x2, vth, vtm, vtb, vtd, vtg, vtl, vtn, lk, lp, lg, lm, ls => (if ls ≤ x2 then vtm else (FX1_replayInto_6_vtm n (x2 + 1) (f_X1_replayOne_th lk lp lg vth x2) (f_X1_replayOne_tm lk lg lm vtm x2) (f_X1_replayOne_tb lk lp lg vtb vtg x2) (f_X1_replayOne_td lk lp lg lm vth vtm vtb vtd vtg x2) (f_X1_replayOne_tg lk lp vtg vtn x2) (f_X1_replayOne_tl lk lp vtl x2) (f_X1_replayOne_tn lk vtn x2) lk lp lg lm ls))
def FX1_replayInto_6_vtb : Nat → Int32 → (Nat → Int32) → (Nat → Int32) → (Nat → Int32) → (Nat → Int32) → (Nat → Int32) → (Nat → Int32) → Int32 → (Nat → Int32) → (Nat → Int32) → (Nat → Int32) → (Nat → Int32) → Int32 → Nat → Int32
  | 0, _, _, _, _, _, _, _, _, _, _, _, _, _ => fun _ => 0
  | n + 1, x2, vth, vtm, vtb, vtd, vtg, vtl, vtn, lk, lp, lg, lm, ls => (if ls ≤ x2 then vtb else (FX1_replayInto_6_vtb n (x2 + 1) (f_X1_replayOne_th lk lp lg vth x2) (f_X1_replayOne_tm lk lg lm vtm x2) (f_X1_replayOne_tb lk lp lg vtb vtg x2) (f_X1_replayOne_td lk lp lg lm vth vtm vtb vtd vtg x2) (f_X1_replayOne_tg lk lp vtg vtn x2) (f_X1_replayOne_tl lk lp vtl x2) (f_X1_replayOne_tn lk vtn x2) lk lp lg lm ls))
def FX1_replayInto_6_vtd : Nat → Int32 → (Nat → Int32) → (Nat → Int32) → (Nat → Int32) → (Nat → Int32) → (Nat → Int32) → (Nat → Int32) → Int32 → (Nat → Int32) → (Nat → Int32) → (Nat → Int32) → (Nat → Int32) → Int32 → Nat → Int32
  | 0, _, _, _, _, _, _, _, _, _, _, _, _, _ => fun _ => 0
  | n + 1, x2, vth, vtm, vtb, vtd, vtg, vtl, vtn, lk, lp, lg, lm, ls => (if ls ≤ x2 then vtd else (FX1_replayInto_6_vtd n (x2 + 1) (f_X1_replayOne_th lk lp lg vth x2) (f_X1_replayOne_tm lk lg lm vtm x2) (f_X1_replayOne_tb lk lp lg vtb vtg x2) (f_X1_replayOne_td lk lp lg lm vth vtm vtb vtd vtg x2) (f_X1_replayOne_tg lk lp vtg vtn x2) (f_X1_replayOne_tl lk lp vtl x2) (f_X1_replayOne_tn lk vtn x2) lk lp lg lm ls))
def FX1_replayInto_6_vtg : Nat → Int32 → (Nat → Int32) → (Nat → Int32) → (Nat → Int32) → (Nat → Int32) → (Nat → Int32) → (Nat → Int32) → Int32 → (Nat → Int32) → (Nat → Int32) → (Nat → Int32) → (Nat → Int32) → Int32 → Nat → Int32
  | 0, _, _, _, _, _, _, _, _, _, _, _, _, _ => fun _ => 0
  | n + 1, x2, vth, vtm, vtb, vtd, vtg, vtl, vtn, lk, lp, lg, lm, ls => (if ls ≤ x2 then vtg else (FX1_replayInto_6_vtg n (x2 + 1) (f_X1_replayOne_th lk lp lg vth x2) (f_X1_replayOne_tm lk lg lm vtm x2) (f_X1_replayOne_tb lk lp lg vtb vtg x2) (f_X1_replayOne_td lk lp lg lm vth vtm vtb vtd vtg x2) (f_X1_replayOne_tg lk lp vtg vtn x2) (f_X1_replayOne_tl lk lp vtl x2) (f_X1_replayOne_tn lk vtn x2) lk lp lg lm ls))
def FX1_replayInto_6_vtl : Nat → Int32 → (Nat → Int32) → (Nat → Int32) → (Nat → Int32) → (Nat → Int32) → (Nat → Int32) → (Nat → Int32) → Int32 → (Nat → Int32) → (Nat → Int32) → (Nat → Int32) → (Nat → Int32) → Int32 → Nat → Int32
  | 0, _, _, _, _, _, _, _, _, _, _, _, _, _ => fun _ => 0
  | n + 1, x2, vth, vtm, vtb, vtd, vtg, vtl, vtn, lk, lp, lg, lm, ls => (if ls ≤ x2 then vtl else (FX1_replayInto_6_vtl n (x2 + 1) (f_X1_replayOne_th lk lp lg vth x2) (f_X1_replayOne_tm lk lg lm vtm x2) (f_X1_replayOne_tb lk lp lg vtb vtg x2) (f_X1_replayOne_td lk lp lg lm vth vtm vtb vtd vtg x2) (f_X1_replayOne_tg lk lp vtg vtn x2) (f_X1_replayOne_tl lk lp vtl x2) (f_X1_replayOne_tn lk vtn x2) lk lp lg lm ls))
def FX1_replayInto_6_vtn : Nat → Int32 → (Nat → Int32) → (Nat → Int32) → (Nat → Int32) → (Nat → Int32) → (Nat → Int32) → (Nat → Int32) → Int32 → (Nat → Int32) → (Nat → Int32) → (Nat → Int32) → (Nat → Int32) → Int32 → Int32
  | 0, _, _, _, _, _, _, _, _, _, _, _, _, _ => 0
  | n + 1, x2, vth, vtm, vtb, vtd, vtg, vtl, vtn, lk, lp, lg, lm, ls => (if ls ≤ x2 then vtn else (FX1_replayInto_6_vtn n (x2 + 1) (f_X1_replayOne_th lk lp lg vth x2) (f_X1_replayOne_tm lk lg lm vtm x2) (f_X1_replayOne_tb lk lp lg vtb vtg x2) (f_X1_replayOne_td lk lp lg lm vth vtm vtb vtd vtg x2) (f_X1_replayOne_tg lk lp vtg vtn x2) (f_X1_replayOne_tl lk lp vtl x2) (f_X1_replayOne_tn lk vtn x2) lk lp lg lm ls))
def f_X1_replayInto_th (lk : Nat → Int32) (lp : Nat → Int32) (lg : Nat → Int32) (lm : Nat → Int32) (ls : Int32) (th : Nat → Int32) (tm : Nat → Int32) (tb : Nat → Int32) (td : Nat → Int32) (tg : Nat → Int32) (tl : Nat → Int32) : Nat → Int32 := (FX1_replayInto_6_vth ((ls).toNatClampNeg + 1) 0 (f_X2_reset_th th td tg tl) tm tb (f_X2_reset_td th td tg tl) (f_X2_reset_tg th td tg tl) (f_X2_reset_tl th td tg tl) f_X2_reset_tn lk lp lg lm ls)
def f_X1_replayInto_tm (lk : Nat → Int32) (lp : Nat → Int32) (lg : Nat → Int32) (lm : Nat → Int32) (ls : Int32) (th : Nat → Int32) (tm : Nat → Int32) (tb : Nat → Int32) (td : Nat → Int32) (tg : Nat → Int32) (tl : Nat → Int32) : Nat → Int32 := (FX1_replayInto_6_vtm ((ls).toNatClampNeg + 1) 0 (f_X2_reset_th th td tg tl) tm tb (f_X2_reset_td th td tg tl) (f_X2_reset_tg th td tg tl) (f_X2_reset_tl th td tg tl) f_X2_reset_tn lk lp lg lm ls)
def f_X1_replayInto_tb (lk : Nat → Int32) (lp : Nat → Int32) (lg : Nat → Int32) (lm : Nat → Int32) (ls : Int32) (th : Nat → Int32) (tm : Nat → Int32) (tb : Nat → Int32) (td : Nat → Int32) (tg : Nat → Int32) (tl : Nat → Int32) : Nat → Int32 := (FX1_replayInto_6_vtb ((ls).toNatClampNeg + 1) 0 (f_X2_reset_th th td tg tl) tm tb (f_X2_reset_td th td tg tl) (f_X2_reset_tg th td tg tl) (f_X2_reset_tl th td tg tl) f_X2_reset_tn lk lp lg lm ls)
def f_X1_replayInto_td (lk : Nat → Int32) (lp : Nat → Int32) (lg : Nat → Int32) (lm : Nat → Int32) (ls : Int32) (th : Nat → Int32) (tm : Nat → Int32) (tb : Nat → Int32) (td : Nat → Int32) (tg : Nat → Int32) (tl : Nat → Int32) : Nat → Int32 := (FX1_replayInto_6_vtd ((ls).toNatClampNeg + 1) 0 (f_X2_reset_th th td tg tl) tm tb (f_X2_reset_td th td tg tl) (f_X2_reset_tg th td tg tl) (f_X2_reset_tl th td tg tl) f_X2_reset_tn lk lp lg lm ls)
def f_X1_replayInto_tg (lk : Nat → Int32) (lp : Nat → Int32) (lg : Nat → Int32) (lm : Nat → Int32) (ls : Int32) (th : Nat → Int32) (tm : Nat → Int32) (tb : Nat → Int32) (td : Nat → Int32) (tg : Nat → Int32) (tl : Nat → Int32) : Nat → Int32 := (FX1_replayInto_6_vtg ((ls).toNatClampNeg + 1) 0 (f_X2_reset_th th td tg tl) tm tb (f_X2_reset_td th td tg tl) (f_X2_reset_tg th td tg tl) (f_X2_reset_tl th td tg tl) f_X2_reset_tn lk lp lg lm ls)
def f_X1_replayInto_tl (lk : Nat → Int32) (lp : Nat → Int32) (lg : Nat → Int32) (lm : Nat → Int32) (ls : Int32) (th : Nat → Int32) (tm : Nat → Int32) (tb : Nat → Int32) (td : Nat → Int32) (tg : Nat → Int32) (tl : Nat → Int32) : Nat → Int32 := (FX1_replayInto_6_vtl ((ls).toNatClampNeg + 1) 0 (f_X2_reset_th th td tg tl) tm tb (f_X2_reset_td th td tg tl) (f_X2_reset_tg th td tg tl) (f_X2_reset_tl th td tg tl) f_X2_reset_tn lk lp lg lm ls)
def f_X1_replayInto_tn (lk : Nat → Int32) (lp : Nat → Int32) (lg : Nat → Int32) (lm : Nat → Int32) (ls : Int32) (th : Nat → Int32) (tm : Nat → Int32) (tb : Nat → Int32) (td : Nat → Int32) (tg : Nat → Int32) (tl : Nat → Int32) : Int32 := (FX1_replayInto_6_vtn ((ls).toNatClampNeg + 1) 0 (f_X2_reset_th th td tg tl) tm tb (f_X2_reset_td th td tg tl) (f_X2_reset_tg th td tg tl) (f_X2_reset_tl th td tg tl) f_X2_reset_tn lk lp lg lm ls)
set_option maxHeartbeats 4000000 in
set_option maxRecDepth 100000 in
theorem c_X1_replayInto (l : Launch) (G : va_G) (al : Nat → Nat) (aT : Nat → Nat) (lk : Nat → Int32) (lp : Nat → Int32) (lg : Nat → Int32) (lm : Nat → Int32) (ls : Int32) (lv : Int32) (th : Nat → Int32) (tr : Nat → Int32) (tm : Nat → Int32) (tb : Nat → Int32) (td : Nat → Int32) (tg : Nat → Int32) (tl : Nat → Int32) (tn : Int32) (hls : ls = nI (ls).toNatClampNeg ∧ (ls).toNatClampNeg ≤ 512) (hev : ∀ j : Nat, j < (ls).toNatClampNeg → evOK lk lp lg j) : Ku l yX1_replayInto wsX1_replayInto { frames := 2, cells := 0, slots := 0, locals := 45 } 0 0 G (wL G al lk lp lg lm ls lv ++ (wT G aT th tr tm tb td tg tl tn)) [.ref (al 0), .ref (aT 0)] (wL G al lk lp lg lm ls lv ++ (wT G aT (f_X1_replayInto_th lk lp lg lm ls th tm tb td tg tl) tr (f_X1_replayInto_tm lk lp lg lm ls th tm tb td tg tl) (f_X1_replayInto_tb lk lp lg lm ls th tm tb td tg tl) (f_X1_replayInto_td lk lp lg lm ls th tm tb td tg tl) (f_X1_replayInto_tg lk lp lg lm ls th tm tb td tg tl) (f_X1_replayInto_tl lk lp lg lm ls th tm tb td tg tl) (f_X1_replayInto_tn lk lp lg lm ls th tm tb td tg tl))) := by
  refine v_ofv (cc := cX1_replayInto) (nL := 3) (lv := [(0, .ref (al 0)), (1, .ref (aT 0))]) (by decide) rfl (Nat.le_of_ble_eq_true rfl) rfl ?_
  intro p e s m args below meth c A X hr hin
  refine v_aload_n (pc := 0) X dX1_replayInto_0 1 rfl ?_
  refine v_uV (pc := 1) (rest := []) (n := 0) (wr := (wL G al lk lp lg lm ls lv)) (wn := (wL G al lk lp lg lm ls lv ++ (wT G aT (f_X2_reset_th th td tg tl) tr tm tb (f_X2_reset_td th td tg tl) (f_X2_reset_tg th td tg tl) (f_X2_reset_tl th td tg tl) f_X2_reset_tn))) (isC := [5, 6, 7, 8, 9, 10, 11, 12]) (isR := [0, 1, 2, 3, 4]) (isP := [0, 1, 2, 3, 4, 5, 6, 7, 8, 9, 10, 11, 12]) X (c_X2_reset l G aT th tr tm tb td tg tl tn) gX1_replayInto_X2_reset rfl rfl rfl (by decide +kernel) ⟨Nat.le_of_ble_eq_true rfl, Nat.le_of_ble_eq_true rfl⟩ dX1_replayInto_1 rfl rfl (Nat.le_of_ble_eq_true rfl) ⟨Nat.le_of_ble_eq_true rfl, Nat.le_of_ble_eq_true rfl⟩ 0 rfl rfl ⟨rfl, rfl, rfl, rfl, by decide, rfl, rfl⟩ ?_
  refine v_iconst (pc := 4) (v := 0) X dX1_replayInto_4 (by decide) ?_
  refine v_istore_n (pc := 5) (lv' := [(0, .ref (al 0)), (1, .ref (aT 0)), (2, .int 0)]) X dX1_replayInto_5 rfl (Nat.le_of_ble_eq_true rfl) [1, 2, 0] rfl ?_
  have LP6 : ∀ (n : Nat) (x2 : Int32) (vth : Nat → Int32) (vtm : Nat → Int32) (vtb : Nat → Int32) (vtd : Nat → Int32) (vtg : Nat → Int32) (vtl : Nat → Int32) (vtn : Int32), (x2 = nI ((ls).toNatClampNeg + 1 - n) ∧ 1 ≤ n ∧ n ≤ (ls).toNatClampNeg + 1) → V p l e (headSpec wsX1_replayInto { frames := 2, cells := 0, slots := 0, locals := 45 }).room s m args below meth c 3 G A 0 0 (QV below args s G A 0 0 (S := Unit) (fun _ => True) (fun _ => (wL G al lk lp lg lm ls lv ++ (wT G aT (f_X1_replayInto_th lk lp lg lm ls th tm tb td tg tl) tr (f_X1_replayInto_tm lk lp lg lm ls th tm tb td tg tl) (f_X1_replayInto_tb lk lp lg lm ls th tm tb td tg tl) (f_X1_replayInto_td lk lp lg lm ls th tm tb td tg tl) (f_X1_replayInto_tg lk lp lg lm ls th tm tb td tg tl) (f_X1_replayInto_tl lk lp lg lm ls th tm tb td tg tl) (f_X1_replayInto_tn lk lp lg lm ls th tm tb td tg tl))))) (wL G al lk lp lg lm ls lv ++ (wT G aT (FX1_replayInto_6_vth n x2 vth vtm vtb vtd vtg vtl vtn lk lp lg lm ls) tr (FX1_replayInto_6_vtm n x2 vth vtm vtb vtd vtg vtl vtn lk lp lg lm ls) (FX1_replayInto_6_vtb n x2 vth vtm vtb vtd vtg vtl vtn lk lp lg lm ls) (FX1_replayInto_6_vtd n x2 vth vtm vtb vtd vtg vtl vtn lk lp lg lm ls) (FX1_replayInto_6_vtg n x2 vth vtm vtb vtd vtg vtl vtn lk lp lg lm ls) (FX1_replayInto_6_vtl n x2 vth vtm vtb vtd vtg vtl vtn lk lp lg lm ls) (FX1_replayInto_6_vtn n x2 vth vtm vtb vtd vtg vtl vtn lk lp lg lm ls))) [(0, .ref (al 0)), (1, .ref (aT 0)), (2, .int (FX1_replayInto_6_x2 n x2 vth vtm vtb vtd vtg vtl vtn lk lp lg lm ls))] 26 [] → V p l e (headSpec wsX1_replayInto { frames := 2, cells := 0, slots := 0, locals := 45 }).room s m args below meth c 3 G A 0 0 (QV below args s G A 0 0 (S := Unit) (fun _ => True) (fun _ => (wL G al lk lp lg lm ls lv ++ (wT G aT (f_X1_replayInto_th lk lp lg lm ls th tm tb td tg tl) tr (f_X1_replayInto_tm lk lp lg lm ls th tm tb td tg tl) (f_X1_replayInto_tb lk lp lg lm ls th tm tb td tg tl) (f_X1_replayInto_td lk lp lg lm ls th tm tb td tg tl) (f_X1_replayInto_tg lk lp lg lm ls th tm tb td tg tl) (f_X1_replayInto_tl lk lp lg lm ls th tm tb td tg tl) (f_X1_replayInto_tn lk lp lg lm ls th tm tb td tg tl))))) (wL G al lk lp lg lm ls lv ++ (wT G aT vth tr vtm vtb vtd vtg vtl vtn)) [(0, .ref (al 0)), (1, .ref (aT 0)), (2, .int x2)] 6 [] := by
    intro n
    induction n with
    | zero => intro x2 vth vtm vtb vtd vtg vtl vtn hI hK; exact False.elim (by omega)
    | succ n ih =>
      intro x2 vth vtm vtb vtd vtg vtl vtn hI hK
      refine v_iload_n (pc := 6) X dX1_replayInto_6 2 rfl ?_
      refine v_aload_n (pc := 7) X dX1_replayInto_7 0 rfl ?_
      refine v_get (pc := 8) (k := 4) (i := 1) X dX1_replayInto_8 (fun _ h => List.mem_cons_of_mem _ (List.mem_append_left _ (List.mem_append_right _ h))) 0 rfl rfl (Nat.le_of_ble_eq_true rfl) rfl rfl rfl ?_
      refine v_icmp_ge (pc := 11) X 26 dX1_replayInto_11 (by decide) (fun c_11 => ?_) (fun c_11 => ?_)
      · simpa only [FX1_replayInto_6_x2, FX1_replayInto_6_vth, FX1_replayInto_6_vtm, FX1_replayInto_6_vtb, FX1_replayInto_6_vtd, FX1_replayInto_6_vtg, FX1_replayInto_6_vtl, FX1_replayInto_6_vtn, if_pos c_11] using hK
      · have hx9 : vp_in x2 (ls).toNatClampNeg := (cnt_in hls.1 (by omega) hI c_11).1
        have hx2 : vp_in x2 512 := vp_mono hx9 hls.2
        have hx3 : evOK lk lp lg (x2).toNatClampNeg := hev _ (vp_lt hx9)
        refine v_aload_n (pc := 14) X dX1_replayInto_14 0 rfl ?_
        refine v_iload_n (pc := 15) X dX1_replayInto_15 2 rfl ?_
        refine v_aload_n (pc := 16) X dX1_replayInto_16 1 rfl ?_
        refine v_uV (pc := 17) (rest := []) (n := 2) (wr := ([] : va_W)) (wn := (wL G al lk lp lg lm ls lv ++ (wT G aT (f_X1_replayOne_th lk lp lg vth x2) tr (f_X1_replayOne_tm lk lg lm vtm x2) (f_X1_replayOne_tb lk lp lg vtb vtg x2) (f_X1_replayOne_td lk lp lg lm vth vtm vtb vtd vtg x2) (f_X1_replayOne_tg lk lp vtg vtn x2) (f_X1_replayOne_tl lk lp vtl x2) (f_X1_replayOne_tn lk vtn x2)))) (isC := [0, 1, 2, 3, 4, 5, 6, 7, 8, 9, 10, 11, 12]) (isR := []) (isP := [0, 1, 2, 3, 4, 5, 6, 7, 8, 9, 10, 11, 12]) X (c_X1_replayOne l G al aT lk lp lg lm ls lv vth tr vtm vtb vtd vtg vtl vtn x2 hx2 hx3) gX1_replayInto_X1_replayOne rfl rfl rfl (by decide +kernel) ⟨Nat.le_of_ble_eq_true rfl, Nat.le_of_ble_eq_true rfl⟩ dX1_replayInto_17 rfl rfl (Nat.le_of_ble_eq_true rfl) ⟨Nat.le_of_ble_eq_true rfl, Nat.le_of_ble_eq_true rfl⟩ 0 rfl rfl ⟨rfl, rfl, rfl, rfl, by decide, rfl, rfl⟩ ?_
        refine v_iinc (pc := 20) (k := 2) (v := (x2 + 1)) (lv' := [(0, .ref (al 0)), (1, .ref (aT 0)), (2, .int (x2 + 1))]) X dX1_replayInto_20 rfl rfl (Nat.le_of_ble_eq_true rfl) [1, 2, 0] rfl ?_
        refine v_goto (pc := 23) X 6 dX1_replayInto_23 (by decide) ?_
        exact ih (x2 + 1) (f_X1_replayOne_th lk lp lg vth x2) (f_X1_replayOne_tm lk lg lm vtm x2) (f_X1_replayOne_tb lk lp lg vtb vtg x2) (f_X1_replayOne_td lk lp lg lm vth vtm vtb vtd vtg x2) (f_X1_replayOne_tg lk lp vtg vtn x2) (f_X1_replayOne_tl lk lp vtl x2) (f_X1_replayOne_tn lk vtn x2) ((cnt_in hls.1 (by omega) hI c_11).2) (by simpa only [FX1_replayInto_6_x2, FX1_replayInto_6_vth, FX1_replayInto_6_vtm, FX1_replayInto_6_vtb, FX1_replayInto_6_vtd, FX1_replayInto_6_vtg, FX1_replayInto_6_vtl, FX1_replayInto_6_vtn, if_neg c_11] using hK)
  refine LP6 ((ls).toNatClampNeg + 1) 0 (f_X2_reset_th th td tg tl) tm tb (f_X2_reset_td th td tg tl) (f_X2_reset_tg th td tg tl) (f_X2_reset_tl th td tg tl) f_X2_reset_tn (⟨by rw [Nat.sub_self]; rfl, by omega, Nat.le_refl _⟩) ?_
  exact v_vret (pc := 26) X hr dX1_replayInto_26 () (by show (wL G al lk lp lg lm ls lv ++ (wT G aT (FX1_replayInto_6_vth ((ls).toNatClampNeg + 1) 0 (f_X2_reset_th th td tg tl) tm tb (f_X2_reset_td th td tg tl) (f_X2_reset_tg th td tg tl) (f_X2_reset_tl th td tg tl) f_X2_reset_tn lk lp lg lm ls) tr (FX1_replayInto_6_vtm ((ls).toNatClampNeg + 1) 0 (f_X2_reset_th th td tg tl) tm tb (f_X2_reset_td th td tg tl) (f_X2_reset_tg th td tg tl) (f_X2_reset_tl th td tg tl) f_X2_reset_tn lk lp lg lm ls) (FX1_replayInto_6_vtb ((ls).toNatClampNeg + 1) 0 (f_X2_reset_th th td tg tl) tm tb (f_X2_reset_td th td tg tl) (f_X2_reset_tg th td tg tl) (f_X2_reset_tl th td tg tl) f_X2_reset_tn lk lp lg lm ls) (FX1_replayInto_6_vtd ((ls).toNatClampNeg + 1) 0 (f_X2_reset_th th td tg tl) tm tb (f_X2_reset_td th td tg tl) (f_X2_reset_tg th td tg tl) (f_X2_reset_tl th td tg tl) f_X2_reset_tn lk lp lg lm ls) (FX1_replayInto_6_vtg ((ls).toNatClampNeg + 1) 0 (f_X2_reset_th th td tg tl) tm tb (f_X2_reset_td th td tg tl) (f_X2_reset_tg th td tg tl) (f_X2_reset_tl th td tg tl) f_X2_reset_tn lk lp lg lm ls) (FX1_replayInto_6_vtl ((ls).toNatClampNeg + 1) 0 (f_X2_reset_th th td tg tl) tm tb (f_X2_reset_td th td tg tl) (f_X2_reset_tg th td tg tl) (f_X2_reset_tl th td tg tl) f_X2_reset_tn lk lp lg lm ls) (FX1_replayInto_6_vtn ((ls).toNatClampNeg + 1) 0 (f_X2_reset_th th td tg tl) tm tb (f_X2_reset_td th td tg tl) (f_X2_reset_tg th td tg tl) (f_X2_reset_tl th td tg tl) f_X2_reset_tn lk lp lg lm ls))) = (wL G al lk lp lg lm ls lv ++ (wT G aT (f_X1_replayInto_th lk lp lg lm ls th tm tb td tg tl) tr (f_X1_replayInto_tm lk lp lg lm ls th tm tb td tg tl) (f_X1_replayInto_tb lk lp lg lm ls th tm tb td tg tl) (f_X1_replayInto_td lk lp lg lm ls th tm tb td tg tl) (f_X1_replayInto_tg lk lp lg lm ls th tm tb td tg tl) (f_X1_replayInto_tl lk lp lg lm ls th tm tb td tg tl) (f_X1_replayInto_tn lk lp lg lm ls th tm tb td tg tl))); simp only [f_X1_replayInto_th, f_X1_replayInto_tm, f_X1_replayInto_tb, f_X1_replayInto_td, f_X1_replayInto_tg, f_X1_replayInto_tl, f_X1_replayInto_tn]) True.intro

set_option maxHeartbeats 4000000 in
set_option maxRecDepth 100000 in
theorem c_X1_init (l : Launch) (G : va_G) (h0 : Nat) : Kv l yX1_init wsX1_init { frames := 1, cells := 4, slots := 2048, locals := 16 } 4 2048 G ([(h0, .inr (2, [.null, .null, .null, .null, .int 0, .int 0]))]) [.ref h0] (S := Nat → Nat) (fun a => a 0 = h0) (fun a => (wL G a (fun _ => 0) (fun _ => 0) (fun _ => 0) (fun _ => 0) 0 0)) := by
  refine v_ofv (cc := cX1_init) (nL := 1) (lv := [(0, .ref h0)]) (by decide) rfl (Nat.le_of_ble_eq_true rfl) rfl ?_
  intro p e s m args below meth c A X hr hin
  refine v_aload_n (pc := 0) X dX1_init_0 0 rfl ?_
  refine v_objInit (pc := 1) (i1 := 1) (i2 := 2) (i3 := 3) X dX1_init_1 rfl rfl rfl (Nat.le_of_ble_eq_true rfl) (Nat.le_of_ble_eq_true rfl) ?_
  refine v_aload_n (pc := 4) X dX1_init_4 0 rfl ?_
  refine v_sipush (pc := 5) (v := 512) X dX1_init_5 (by decide) ?_
  refine v_newI (pc := 8) (i := 4) (N := 512) X dX1_init_8 rfl (by decide) (by decide) (Nat.le_of_ble_eq_true rfl) (Nat.le_of_ble_eq_true rfl) (Nat.le_of_ble_eq_true rfl) (fun q8 => ?_)
  refine v_ws (ws' := ([(h0, .inr (2, [.null, .null, .null, .null, .int 0, .int 0])), (q8, .inl (G.1 10, 512, .inl (fun _ => 0)))])) rfl ?_
  refine v_put (pc := 10) (k := 0) (i := 5) (ws' := ([(h0, .inr (2, [.ref q8, .null, .null, .null, .int 0, .int 0])), (q8, .inl (G.1 10, 512, .inl (fun _ => 0)))])) X dX1_init_10 (fun _ h => List.mem_cons_of_mem _ (List.mem_append_right _ h)) tyX1_ok nmX1 0 rfl rfl (Nat.le_of_ble_eq_true rfl) rfl rfl (Or.inr ⟨rfl, hin, rfl⟩) rfl (rfl) rfl (Nat.le_of_ble_eq_true rfl) rfl ?_
  refine v_aload_n (pc := 13) X dX1_init_13 0 rfl ?_
  refine v_sipush (pc := 14) (v := 512) X dX1_init_14 (by decide) ?_
  refine v_newI (pc := 17) (i := 4) (N := 512) X dX1_init_17 rfl (by decide) (by decide) (Nat.le_of_ble_eq_true rfl) (Nat.le_of_ble_eq_true rfl) (Nat.le_of_ble_eq_true rfl) (fun q17 => ?_)
  refine v_ws (ws' := ([(h0, .inr (2, [.ref q8, .null, .null, .null, .int 0, .int 0])), (q8, .inl (G.1 10, 512, .inl (fun _ => 0))), (q17, .inl (G.1 10, 512, .inl (fun _ => 0)))])) rfl ?_
  refine v_put (pc := 19) (k := 1) (i := 6) (ws' := ([(h0, .inr (2, [.ref q8, .ref q17, .null, .null, .int 0, .int 0])), (q8, .inl (G.1 10, 512, .inl (fun _ => 0))), (q17, .inl (G.1 10, 512, .inl (fun _ => 0)))])) X dX1_init_19 (fun _ h => List.mem_cons_of_mem _ (List.mem_append_right _ h)) tyX1_ok nmX1 0 rfl rfl (Nat.le_of_ble_eq_true rfl) rfl rfl (Or.inr ⟨rfl, hin, rfl⟩) rfl (rfl) rfl (Nat.le_of_ble_eq_true rfl) rfl ?_
  refine v_aload_n (pc := 22) X dX1_init_22 0 rfl ?_
  refine v_sipush (pc := 23) (v := 512) X dX1_init_23 (by decide) ?_
  refine v_newI (pc := 26) (i := 4) (N := 512) X dX1_init_26 rfl (by decide) (by decide) (Nat.le_of_ble_eq_true rfl) (Nat.le_of_ble_eq_true rfl) (Nat.le_of_ble_eq_true rfl) (fun q26 => ?_)
  refine v_ws (ws' := ([(h0, .inr (2, [.ref q8, .ref q17, .null, .null, .int 0, .int 0])), (q8, .inl (G.1 10, 512, .inl (fun _ => 0))), (q17, .inl (G.1 10, 512, .inl (fun _ => 0))), (q26, .inl (G.1 10, 512, .inl (fun _ => 0)))])) rfl ?_
  refine v_put (pc := 28) (k := 2) (i := 7) (ws' := ([(h0, .inr (2, [.ref q8, .ref q17, .ref q26, .null, .int 0, .int 0])), (q8, .inl (G.1 10, 512, .inl (fun _ => 0))), (q17, .inl (G.1 10, 512, .inl (fun _ => 0))), (q26, .inl (G.1 10, 512, .inl (fun _ => 0)))])) X dX1_init_28 (fun _ h => List.mem_cons_of_mem _ (List.mem_append_right _ h)) tyX1_ok nmX1 0 rfl rfl (Nat.le_of_ble_eq_true rfl) rfl rfl (Or.inr ⟨rfl, hin, rfl⟩) rfl (rfl) rfl (Nat.le_of_ble_eq_true rfl) rfl ?_
  refine v_aload_n (pc := 31) X dX1_init_31 0 rfl ?_
  refine v_sipush (pc := 32) (v := 512) X dX1_init_32 (by decide) ?_
  refine v_newI (pc := 35) (i := 4) (N := 512) X dX1_init_35 rfl (by decide) (by decide) (Nat.le_of_ble_eq_true rfl) (Nat.le_of_ble_eq_true rfl) (Nat.le_of_ble_eq_true rfl) (fun q35 => ?_)
  refine v_ws (ws' := ([(h0, .inr (2, [.ref q8, .ref q17, .ref q26, .null, .int 0, .int 0])), (q8, .inl (G.1 10, 512, .inl (fun _ => 0))), (q17, .inl (G.1 10, 512, .inl (fun _ => 0))), (q26, .inl (G.1 10, 512, .inl (fun _ => 0))), (q35, .inl (G.1 10, 512, .inl (fun _ => 0)))])) rfl ?_
  refine v_put (pc := 37) (k := 3) (i := 8) (ws' := ([(h0, .inr (2, [.ref q8, .ref q17, .ref q26, .ref q35, .int 0, .int 0])), (q8, .inl (G.1 10, 512, .inl (fun _ => 0))), (q17, .inl (G.1 10, 512, .inl (fun _ => 0))), (q26, .inl (G.1 10, 512, .inl (fun _ => 0))), (q35, .inl (G.1 10, 512, .inl (fun _ => 0)))])) X dX1_init_37 (fun _ h => List.mem_cons_of_mem _ (List.mem_append_right _ h)) tyX1_ok nmX1 0 rfl rfl (Nat.le_of_ble_eq_true rfl) rfl rfl (Or.inr ⟨rfl, hin, rfl⟩) rfl (rfl) rfl (Nat.le_of_ble_eq_true rfl) rfl ?_
  refine v_aload_n (pc := 40) X dX1_init_40 0 rfl ?_
  refine v_iconst (pc := 41) (v := 0) X dX1_init_41 (by decide) ?_
  refine v_put (pc := 42) (k := 4) (i := 9) (ws' := ([(h0, .inr (2, [.ref q8, .ref q17, .ref q26, .ref q35, .int 0, .int 0])), (q8, .inl (G.1 10, 512, .inl (fun _ => 0))), (q17, .inl (G.1 10, 512, .inl (fun _ => 0))), (q26, .inl (G.1 10, 512, .inl (fun _ => 0))), (q35, .inl (G.1 10, 512, .inl (fun _ => 0)))])) X dX1_init_42 (fun _ h => List.mem_cons_of_mem _ (List.mem_append_right _ h)) tyX1_ok nmX1 0 rfl rfl (Nat.le_of_ble_eq_true rfl) rfl rfl (Or.inl rfl) rfl (rfl) rfl (Nat.le_of_ble_eq_true rfl) rfl ?_
  refine v_aload_n (pc := 45) X dX1_init_45 0 rfl ?_
  refine v_iconst (pc := 46) (v := 0) X dX1_init_46 (by decide) ?_
  refine v_put (pc := 47) (k := 5) (i := 10) (ws' := ([(h0, .inr (2, [.ref q8, .ref q17, .ref q26, .ref q35, .int 0, .int 0])), (q8, .inl (G.1 10, 512, .inl (fun _ => 0))), (q17, .inl (G.1 10, 512, .inl (fun _ => 0))), (q26, .inl (G.1 10, 512, .inl (fun _ => 0))), (q35, .inl (G.1 10, 512, .inl (fun _ => 0)))])) X dX1_init_47 (fun _ h => List.mem_cons_of_mem _ (List.mem_append_right _ h)) tyX1_ok nmX1 0 rfl rfl (Nat.le_of_ble_eq_true rfl) rfl rfl (Or.inl rfl) rfl (rfl) rfl (Nat.le_of_ble_eq_true rfl) rfl ?_
  refine v_ws (ws' := (wL G (adr [h0, q8, q17, q26, q35]) (fun _ => 0) (fun _ => 0) (fun _ => 0) (fun _ => 0) 0 0)) rfl ?_
  exact v_vret (pc := 50) X hr dX1_init_50 (adr [h0, q8, q17, q26, q35]) rfl rfl
