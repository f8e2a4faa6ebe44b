def f_X0_setWord_dw (dw : Nat → Int32) (p0 : Int32) (p1 : Int32) : Nat → Int32 := (upd dw (p0).toNatClampNeg p1)
set_option maxHeartbeats 4000000 in
set_option maxRecDepth 100000 in
theorem c_X0_setWord (l : Launch) (G : va_G) (ad : Nat → Nat) (dw : Nat → Int32) (df : Nat → Int32) (dr : Nat → Int32) (de : Nat → Int32) (p0 : Int32) (p1 : Int32) (h0 : vp_in p0 12) : Ku l yX0_setWord wsX0_setWord { frames := 0, cells := 0, slots := 0, locals := 0 } 0 0 G (wD G ad dw df dr de) [.ref (ad 0), .int p0, .int p1] (wD G ad (f_X0_setWord_dw dw p0 p1) df dr de) := by
  refine v_ofv (cc := cX0_setWord) (nL := 3) (lv := [(0, .ref (ad 0)), (1, .int p0), (2, .int p1)]) (by decide) rfl (Nat.le_of_ble_eq_true rfl) rfl ?_
  intro p e s m args below meth c A X hr hin
  refine v_aload_n (pc := 0) X dX0_setWord_0 0 rfl ?_
  refine v_get (pc := 1) (k := 0) (i := 1) X dX0_setWord_1 (fun _ h => List.mem_cons_of_mem _ (List.mem_append_right _ h)) 0 rfl rfl (Nat.le_of_ble_eq_true rfl) rfl rfl rfl ?_
  refine v_iload_n (pc := 4) X dX0_setWord_4 1 rfl ?_
  refine v_iload_n (pc := 5) X dX0_setWord_5 2 rfl ?_
  refine v_iast (pc := 6) (ws' := (wD G ad (upd dw (p0).toNatClampNeg p1) df dr de)) X dX0_setWord_6 1 rfl h0 rfl ?_
  exact v_vret (pc := 7) X hr dX0_setWord_7 () (by show (wD G ad (upd dw (p0).toNatClampNeg p1) df dr de) = (wD G ad (f_X0_setWord_dw dw p0 p1) df dr de); simp only [f_X0_setWord_dw]) True.intro
def f_X0_codeOf_r (p0 : Int32) (p1 : Int32) : Int32 := (((7 * p0) + (3 * p1)) - ((7 * p0) + (3 * p1)) / 10 * 10)
set_option maxHeartbeats 4000000 in
set_option maxRecDepth 100000 in
theorem c_X0_codeOf (l : Launch) (G : va_G) (p0 : Int32) (p1 : Int32) : Ke l yX0_codeOf wsX0_codeOf { frames := 0, cells := 0, slots := 0, locals := 0 } 0 0 G ([] : va_W) [.int p0, .int p1] (f_X0_codeOf_r p0 p1) ([] : va_W) := by
  refine v_ofi (cc := cX0_codeOf) (nL := 2) (lv := [(0, .int p0), (1, .int p1)]) (by decide) rfl (Nat.le_of_ble_eq_true rfl) rfl ?_
  intro p e s m args below meth c A X hr
  refine v_bipush (pc := 0) (v := 7) X dX0_codeOf_0 (by decide) ?_
  refine v_iload_n (pc := 2) X dX0_codeOf_2 0 rfl ?_
  refine v_imul (pc := 3) X dX0_codeOf_3 rfl ?_
  refine v_iconst (pc := 4) (v := 3) X dX0_codeOf_4 (by decide) ?_
  refine v_iload_n (pc := 5) X dX0_codeOf_5 1 rfl ?_
  refine v_imul (pc := 6) X dX0_codeOf_6 rfl ?_
  refine v_iadd (pc := 7) X dX0_codeOf_7 rfl ?_
  refine v_bipush (pc := 8) (v := 10) X dX0_codeOf_8 (by decide) ?_
  refine v_irem (pc := 10) X dX0_codeOf_10 (by decide) rfl ?_
  exact v_iret (pc := 11) X hr dX0_codeOf_11 () rfl (by show (((7 * p0) + (3 * p1)) - ((7 * p0) + (3 * p1)) / 10 * 10) = (f_X0_codeOf_r p0 p1); simp only [f_X0_codeOf_r])
def f_X0_countFailure_df (df : Nat → Int32) (p0 : Int32) : Nat → Int32 := (if ((upd df (p0).toNatClampNeg ((df (p0).toNatClampNeg) + 1)) (p0).toNatClampNeg) < 3 then (upd df (p0).toNatClampNeg ((df (p0).toNatClampNeg) + 1)) else (upd (upd df (p0).toNatClampNeg ((df (p0).toNatClampNeg) + 1)) (p0).toNatClampNeg 0))
def f_X0_countFailure_dr (df : Nat → Int32) (dr : Nat → Int32) (p0 : Int32) (p1 : Int32) : Nat → Int32 := (if ((upd df (p0).toNatClampNeg ((df (p0).toNatClampNeg) + 1)) (p0).toNatClampNeg) < 3 then dr else (upd dr (p0).toNatClampNeg (p1 + 10)))
set_option maxHeartbeats 4000000 in
set_option maxRecDepth 100000 in
theorem c_X0_countFailure (l : Launch) (G : va_G) (ad : Nat → Nat) (dw : Nat → Int32) (df : Nat → Int32) (dr : Nat → Int32) (de : Nat → Int32) (p0 : Int32) (p1 : Int32) (h0 : vp_in p0 12) : Ku l yX0_countFailure wsX0_countFailure { frames := 0, cells := 0, slots := 0, locals := 0 } 0 0 G (wD G ad dw df dr de) [.ref (ad 0), .int p0, .int p1] (wD G ad dw (f_X0_countFailure_df df p0) (f_X0_countFailure_dr df dr p0 p1) de) := by
  refine v_ofv (cc := cX0_countFailure) (nL := 3) (lv := [(0, .ref (ad 0)), (1, .int p0), (2, .int p1)]) (by decide) rfl (Nat.le_of_ble_eq_true rfl) rfl ?_
  intro p e s m args below meth c A X hr hin
  refine v_aload_n (pc := 0) X dX0_countFailure_0 0 rfl ?_
  refine v_get (pc := 1) (k := 1) (i := 1) X dX0_countFailure_1 (fun _ h => List.mem_cons_of_mem _ (List.mem_append_right _ h)) 0 rfl rfl (Nat.le_of_ble_eq_true rfl) rfl rfl rfl ?_
  refine v_iload_n (pc := 4) X dX0_countFailure_4 1 rfl ?_
  refine v_dup2 (pc := 5) X dX0_countFailure_5 rfl rfl ?_
  refine v_iald (pc := 6) X dX0_countFailure_6 2 rfl h0 rfl ?_
  refine v_iconst (pc := 7) (v := 1) X dX0_countFailure_7 (by decide) ?_
  refine v_iadd (pc := 8) X dX0_countFailure_8 rfl ?_
  refine v_iast (pc := 9) (ws' := (wD G ad dw (upd df (p0).toNatClampNeg ((df (p0).toNatClampNeg) + 1)) dr de)) X dX0_countFailure_9 2 rfl h0 rfl ?_
  refine v_aload_n (pc := 10) X dX0_countFailure_10 0 rfl ?_
  refine v_get (pc := 11) (k := 1) (i := 1) X dX0_countFailure_11 (fun _ h => List.mem_cons_of_mem _ (List.mem_append_right _ h)) 0 rfl rfl (Nat.le_of_ble_eq_true rfl) rfl rfl rfl ?_
  refine v_iload_n (pc := 14) X dX0_countFailure_14 1 rfl ?_
  refine v_iald (pc := 15) X dX0_countFailure_15 2 rfl h0 rfl ?_
  refine v_iconst (pc := 16) (v := 3) X dX0_countFailure_16 (by decide) ?_
  refine v_icmp_lt (pc := 17) X 37 dX0_countFailure_17 (by decide) (fun c_17 => ?_) (fun c_17 => ?_)
  · exact v_vret (pc := 37) X hr dX0_countFailure_37 () (by show (wD G ad dw (upd df (p0).toNatClampNeg ((df (p0).toNatClampNeg) + 1)) dr de) = (wD G ad dw (f_X0_countFailure_df df p0) (f_X0_countFailure_dr df dr p0 p1) de); simp only [f_X0_countFailure_df, f_X0_countFailure_dr, if_pos c_17]) True.intro
  · refine v_aload_n (pc := 20) X dX0_countFailure_20 0 rfl ?_
    refine v_get (pc := 21) (k := 1) (i := 1) X dX0_countFailure_21 (fun _ h => List.mem_cons_of_mem _ (List.mem_append_right _ h)) 0 rfl rfl (Nat.le_of_ble_eq_true rfl) rfl rfl rfl ?_
    refine v_iload_n (pc := 24) X dX0_countFailure_24 1 rfl ?_
    refine v_iconst (pc := 25) (v := 0) X dX0_countFailure_25 (by decide) ?_
    refine v_iast (pc := 26) (ws' := (wD G ad dw (upd (upd df (p0).toNatClampNeg ((df (p0).toNatClampNeg) + 1)) (p0).toNatClampNeg 0) dr de)) X dX0_countFailure_26 2 rfl h0 rfl ?_
    refine v_aload_n (pc := 27) X dX0_countFailure_27 0 rfl ?_
    refine v_get (pc := 28) (k := 2) (i := 2) X dX0_countFailure_28 (fun _ h => List.mem_cons_of_mem _ (List.mem_append_right _ h)) 0 rfl rfl (Nat.le_of_ble_eq_true rfl) rfl rfl rfl ?_
    refine v_iload_n (pc := 31) X dX0_countFailure_31 1 rfl ?_
    refine v_iload_n (pc := 32) X dX0_countFailure_32 2 rfl ?_
    refine v_bipush (pc := 33) (v := 10) X dX0_countFailure_33 (by decide) ?_
    refine v_iadd (pc := 35) X dX0_countFailure_35 rfl ?_
    refine v_iast (pc := 36) (ws' := (wD G ad dw (upd (upd df (p0).toNatClampNeg ((df (p0).toNatClampNeg) + 1)) (p0).toNatClampNeg 0) (upd dr (p0).toNatClampNeg (p1 + 10)) de)) X dX0_countFailure_36 3 rfl h0 rfl ?_
    exact v_vret (pc := 37) X hr dX0_countFailure_37 () (by show (wD G ad dw (upd (upd df (p0).toNatClampNeg ((df (p0).toNatClampNeg) + 1)) (p0).toNatClampNeg 0) (upd dr (p0).toNatClampNeg (p1 + 10)) de) = (wD G ad dw (f_X0_countFailure_df df p0) (f_X0_countFailure_dr df dr p0 p1) de); simp only [f_X0_countFailure_df, f_X0_countFailure_dr, if_neg c_17]) True.intro
def f_X0_tryLogin_r (dw : Nat → Int32) (dr : Nat → Int32) (p0 : Int32) (p1 : Int32) (p2 : Int32) (p3 : Int32) : Int32 := (if (dr (p0).toNatClampNeg) ≤ p3 then (if p1 = (dw (p0).toNatClampNeg) then (if p2 = (f_X0_codeOf_r p0 p3) then 0 else 2) else 1) else 3)
def f_X0_tryLogin_df (dw : Nat → Int32) (df : Nat → Int32) (dr : Nat → Int32) (p0 : Int32) (p1 : Int32) (p2 : Int32) (p3 : Int32) : Nat → Int32 := (if (dr (p0).toNatClampNeg) ≤ p3 then (if p1 = (dw (p0).toNatClampNeg) then (if p2 = (f_X0_codeOf_r p0 p3) then (upd df (p0).toNatClampNeg 0) else (f_X0_countFailure_df df p0)) else (f_X0_countFailure_df df p0)) else df)
def f_X0_tryLogin_dr (dw : Nat → Int32) (df : Nat → Int32) (dr : Nat → Int32) (p0 : Int32) (p1 : Int32) (p2 : Int32) (p3 : Int32) : Nat → Int32 := (if (dr (p0).toNatClampNeg) ≤ p3 then (if p1 = (dw (p0).toNatClampNeg) then (if p2 = (f_X0_codeOf_r p0 p3) then dr else (f_X0_countFailure_dr df dr p0 p3)) else (f_X0_countFailure_dr df dr p0 p3)) else dr)
def f_X0_tryLogin_de (dw : Nat → Int32) (dr : Nat → Int32) (de : Nat → Int32) (p0 : Int32) (p1 : Int32) (p2 : Int32) (p3 : Int32) : Nat → Int32 := (if (dr (p0).toNatClampNeg) ≤ p3 then (if p1 = (dw (p0).toNatClampNeg) then (if p2 = (f_X0_codeOf_r p0 p3) then (upd de (p0).toNatClampNeg (p3 + 30)) else de) else de) else de)
set_option maxHeartbeats 4000000 in
set_option maxRecDepth 100000 in
theorem c_X0_tryLogin (l : Launch) (G : va_G) (ad : Nat → Nat) (dw : Nat → Int32) (df : Nat → Int32) (dr : Nat → Int32) (de : Nat → Int32) (p0 : Int32) (p1 : Int32) (p2 : Int32) (p3 : Int32) (h0 : vp_in p0 12) : Ke l yX0_tryLogin wsX0_tryLogin { frames := 1, cells := 0, slots := 0, locals := 22 } 0 0 G (wD G ad dw df dr de) [.ref (ad 0), .int p0, .int p1, .int p2, .int p3] (f_X0_tryLogin_r dw dr p0 p1 p2 p3) (wD G ad dw (f_X0_tryLogin_df dw df dr p0 p1 p2 p3) (f_X0_tryLogin_dr dw df dr p0 p1 p2 p3) (f_X0_tryLogin_de dw dr de p0 p1 p2 p3)) := by
  refine v_ofi (cc := cX0_tryLogin) (nL := 5) (lv := [(0, .ref (ad 0)), (1, .int p0), (2, .int p1), (3, .int p2), (4, .int p3)]) (by decide) rfl (Nat.le_of_ble_eq_true rfl) rfl ?_
  intro p e s m args below meth c A X hr
  refine v_iload (pc := 0) X dX0_tryLogin_0 4 rfl ?_
  refine v_aload_n (pc := 2) X dX0_tryLogin_2 0 rfl ?_
  refine v_get (pc := 3) (k := 2) (i := 1) X dX0_tryLogin_3 (fun _ h => List.mem_cons_of_mem _ (List.mem_append_right _ h)) 0 rfl rfl (Nat.le_of_ble_eq_true rfl) rfl rfl rfl ?_
  refine v_iload_n (pc := 6) X dX0_tryLogin_6 1 rfl ?_
  refine v_iald (pc := 7) X dX0_tryLogin_7 3 rfl h0 rfl ?_
  refine v_icmp_ge (pc := 8) X 13 dX0_tryLogin_8 (by decide) (fun c_8 => ?_) (fun c_8 => ?_)
  · refine v_iload_n (pc := 13) X dX0_tryLogin_13 2 rfl ?_
    refine v_aload_n (pc := 14) X dX0_tryLogin_14 0 rfl ?_
    refine v_get (pc := 15) (k := 0) (i := 2) X dX0_tryLogin_15 (fun _ h => List.mem_cons_of_mem _ (List.mem_append_right _ h)) 0 rfl rfl (Nat.le_of_ble_eq_true rfl) rfl rfl rfl ?_
    refine v_iload_n (pc := 18) X dX0_tryLogin_18 1 rfl ?_
    refine v_iald (pc := 19) X dX0_tryLogin_19 1 rfl h0 rfl ?_
    refine v_icmp_eq (pc := 20) X 32 dX0_tryLogin_20 (by decide) (fun c_20 => ?_) (fun c_20 => ?_)
    · refine v_iload_n (pc := 32) X dX0_tryLogin_32 3 rfl ?_
      refine v_iload_n (pc := 33) X dX0_tryLogin_33 1 rfl ?_
      refine v_iload (pc := 34) X dX0_tryLogin_34 4 rfl ?_
      refine v_e0S (pc := 36) (rest := [.int p2]) (n := 2) X (c_X0_codeOf l G p0 p3) gX0_tryLogin_X0_codeOf rfl rfl rfl (by decide +kernel) ⟨Nat.le_of_ble_eq_true rfl, Nat.le_of_ble_eq_true rfl⟩ dX0_tryLogin_36 rfl rfl (Nat.le_of_ble_eq_true rfl) ⟨Nat.le_of_ble_eq_true rfl, Nat.le_of_ble_eq_true rfl⟩ ?_
      refine v_icmp_eq (pc := 39) X 51 dX0_tryLogin_39 (by decide) (fun c_39 => ?_) (fun c_39 => ?_)
      · refine v_aload_n (pc := 51) X dX0_tryLogin_51 0 rfl ?_
        refine v_get (pc := 52) (k := 1) (i := 3) X dX0_tryLogin_52 (fun _ h => List.mem_cons_of_mem _ (List.mem_append_right _ h)) 0 rfl rfl (Nat.le_of_ble_eq_true rfl) rfl rfl rfl ?_
        refine v_iload_n (pc := 55) X dX0_tryLogin_55 1 rfl ?_
        refine v_iconst (pc := 56) (v := 0) X dX0_tryLogin_56 (by decide) ?_
        refine v_iast (pc := 57) (ws' := (wD G ad dw (upd df (p0).toNatClampNeg 0) dr de)) X dX0_tryLogin_57 2 rfl h0 rfl ?_
        refine v_aload_n (pc := 58) X dX0_tryLogin_58 0 rfl ?_
        refine v_get (pc := 59) (k := 3) (i := 4) X dX0_tryLogin_59 (fun _ h => List.mem_cons_of_mem _ (List.mem_append_right _ h)) 0 rfl rfl (Nat.le_of_ble_eq_true rfl) rfl rfl rfl ?_
        refine v_iload_n (pc := 62) X dX0_tryLogin_62 1 rfl ?_
        refine v_iload (pc := 63) X dX0_tryLogin_63 4 rfl ?_
        refine v_bipush (pc := 65) (v := 30) X dX0_tryLogin_65 (by decide) ?_
        refine v_iadd (pc := 67) X dX0_tryLogin_67 rfl ?_
        refine v_iast (pc := 68) (ws' := (wD G ad dw (upd df (p0).toNatClampNeg 0) dr (upd de (p0).toNatClampNeg (p3 + 30)))) X dX0_tryLogin_68 4 rfl h0 rfl ?_
        refine v_iconst (pc := 69) (v := 0) X dX0_tryLogin_69 (by decide) ?_
        exact v_iret (pc := 70) X hr dX0_tryLogin_70 () (by show (wD G ad dw (upd df (p0).toNatClampNeg 0) dr (upd de (p0).toNatClampNeg (p3 + 30))) = (wD G ad dw (f_X0_tryLogin_df dw df dr p0 p1 p2 p3) (f_X0_tryLogin_dr dw df dr p0 p1 p2 p3) (f_X0_tryLogin_de dw dr de p0 p1 p2 p3)); simp only [f_X0_tryLogin_df, f_X0_tryLogin_dr, f_X0_tryLogin_de, if_pos c_8, if_pos c_20, if_pos c_39]) (by show 0 = (f_X0_tryLogin_r dw dr p0 p1 p2 p3); simp only [f_X0_tryLogin_r, if_pos c_8, if_pos c_20, if_pos c_39])
      · refine v_aload_n (pc := 42) X dX0_tryLogin_42 0 rfl ?_
        refine v_iload_n (pc := 43) X dX0_tryLogin_43 1 rfl ?_
        refine v_iload (pc := 44) X dX0_tryLogin_44 4 rfl ?_
        refine v_uV (pc := 46) (rest := []) (n := 2) (wr := ([] : va_W)) (wn := (wD G ad dw (f_X0_countFailure_df df p0) (f_X0_countFailure_dr df dr p0 p3) de)) (isC := [0, 1, 2, 3, 4]) (isR := []) (isP := [0, 1, 2, 3, 4]) X (c_X0_countFailure l G ad dw df dr de p0 p3 h0) gX0_tryLogin_X0_countFailure rfl rfl rfl (by decide +kernel) ⟨Nat.le_of_ble_eq_true rfl, Nat.le_of_ble_eq_true rfl⟩ dX0_tryLogin_46 rfl rfl (Nat.le_of_ble_eq_true rfl) ⟨Nat.le_of_ble_eq_true rfl, Nat.le_of_ble_eq_true rfl⟩ 0 rfl rfl ⟨rfl, rfl, rfl, rfl, by decide, rfl, rfl⟩ ?_
        refine v_iconst (pc := 49) (v := 2) X dX0_tryLogin_49 (by decide) ?_
        exact v_iret (pc := 50) X hr dX0_tryLogin_50 () (by show (wD G ad dw (f_X0_countFailure_df df p0) (f_X0_countFailure_dr df dr p0 p3) de) = (wD G ad dw (f_X0_tryLogin_df dw df dr p0 p1 p2 p3) (f_X0_tryLogin_dr dw df dr p0 p1 p2 p3) (f_X0_tryLogin_de dw dr de p0 p1 p2 p3)); simp only [f_X0_tryLogin_df, f_X0_tryLogin_dr, f_X0_tryLogin_de, if_pos c_8, if_pos c_20, if_neg c_39]) (by show 2 = (f_X0_tryLogin_r dw dr p0 p1 p2 p3); simp only [f_X0_tryLogin_r, if_pos c_8, if_pos c_20, if_neg c_39])
    · refine v_aload_n (pc := 23) X dX0_tryLogin_23 0 rfl ?_
      refine v_iload_n (pc := 24) X dX0_tryLogin_24 1 rfl ?_
      refine v_iload (pc := 25) X dX0_tryLogin_25 4 rfl ?_
      refine v_uV (pc := 27) (rest := []) (n := 2) (wr := ([] : va_W)) (wn := (wD G ad dw (f_X0_countFailure_df df p0) (f_X0_countFailure_dr df dr p0 p3) de)) (isC := [0, 1, 2, 3, 4]) (isR := []) (isP := [0, 1, 2, 3, 4]) X (c_X0_countFailure l G ad dw df dr de p0 p3 h0) gX0_tryLogin_X0_countFailure rfl rfl rfl (by decide +kernel) ⟨Nat.le_of_ble_eq_true rfl, Nat.le_of_ble_eq_true rfl⟩ dX0_tryLogin_27 rfl rfl (Nat.le_of_ble_eq_true rfl) ⟨Nat.le_of_ble_eq_true rfl, Nat.le_of_ble_eq_true rfl⟩ 0 rfl rfl ⟨rfl, rfl, rfl, rfl, by decide, rfl, rfl⟩ ?_
      refine v_iconst (pc := 30) (v := 1) X dX0_tryLogin_30 (by decide) ?_
      exact v_iret (pc := 31) X hr dX0_tryLogin_31 () (by show (wD G ad dw (f_X0_countFailure_df df p0) (f_X0_countFailure_dr df dr p0 p3) de) = (wD G ad dw (f_X0_tryLogin_df dw df dr p0 p1 p2 p3) (f_X0_tryLogin_dr dw df dr p0 p1 p2 p3) (f_X0_tryLogin_de dw dr de p0 p1 p2 p3)); simp only [f_X0_tryLogin_df, f_X0_tryLogin_dr, f_X0_tryLogin_de, if_pos c_8, if_neg c_20]) (by show 1 = (f_X0_tryLogin_r dw dr p0 p1 p2 p3); simp only [f_X0_tryLogin_r, if_pos c_8, if_neg c_20])
  · refine v_iconst (pc := 11) (v := 3) X dX0_tryLogin_11 (by decide) ?_
    exact v_iret (pc := 12) X hr dX0_tryLogin_12 () (by show (wD G ad dw df dr de) = (wD G ad dw (f_X0_tryLogin_df dw df dr p0 p1 p2 p3) (f_X0_tryLogin_dr dw df dr p0 p1 p2 p3) (f_X0_tryLogin_de dw dr de p0 p1 p2 p3)); simp only [f_X0_tryLogin_df, f_X0_tryLogin_dr, f_X0_tryLogin_de, if_neg c_8]) (by show 3 = (f_X0_tryLogin_r dw dr p0 p1 p2 p3); simp only [f_X0_tryLogin_r, if_neg c_8])
def f_X0_isInSession_r (de : Nat → Int32) (p0 : Int32) (p1 : Int32) : Int32 := (if (de (p0).toNatClampNeg) ≤ p1 then 0 else 1)
set_option maxHeartbeats 4000000 in
set_option maxRecDepth 100000 in
theorem c_X0_isInSession (l : Launch) (G : va_G) (ad : Nat → Nat) (dw : Nat → Int32) (df : Nat → Int32) (dr : Nat → Int32) (de : Nat → Int32) (p0 : Int32) (p1 : Int32) (h0 : vp_in p0 12) : Ke l yX0_isInSession wsX0_isInSession { frames := 0, cells := 0, slots := 0, locals := 0 } 0 0 G (wD G ad dw df dr de) [.ref (ad 0), .int p0, .int p1] (f_X0_isInSession_r de p0 p1) (wD G ad dw df dr de) := by
  refine v_ofi (cc := cX0_isInSession) (nL := 3) (lv := [(0, .ref (ad 0)), (1, .int p0), (2, .int p1)]) (by decide) rfl (Nat.le_of_ble_eq_true rfl) rfl ?_
  intro p e s m args below meth c A X hr
  refine v_iload_n (pc := 0) X dX0_isInSession_0 2 rfl ?_
  refine v_aload_n (pc := 1) X dX0_isInSession_1 0 rfl ?_
  refine v_get (pc := 2) (k := 3) (i := 1) X dX0_isInSession_2 (fun _ h => List.mem_cons_of_mem _ (List.mem_append_right _ h)) 0 rfl rfl (Nat.le_of_ble_eq_true rfl) rfl rfl rfl ?_
  refine v_iload_n (pc := 5) X dX0_isInSession_5 1 rfl ?_
  refine v_iald (pc := 6) X dX0_isInSession_6 4 rfl h0 rfl ?_
  refine v_icmp_ge (pc := 7) X 14 dX0_isInSession_7 (by decide) (fun c_7 => ?_) (fun c_7 => ?_)
  · refine v_iconst (pc := 14) (v := 0) X dX0_isInSession_14 (by decide) ?_
    exact v_zret (pc := 15) X hr rfl dX0_isInSession_15 () rfl (by show 0 = (f_X0_isInSession_r de p0 p1); simp only [f_X0_isInSession_r, if_pos c_7])
  · refine v_iconst (pc := 10) (v := 1) X dX0_isInSession_10 (by decide) ?_
    refine v_goto (pc := 11) X 15 dX0_isInSession_11 (by decide) ?_
    exact v_zret (pc := 15) X hr rfl dX0_isInSession_15 () rfl (by show 1 = (f_X0_isInSession_r de p0 p1); simp only [f_X0_isInSession_r, if_neg c_7])
def f_X0_failuresOf_r (df : Nat → Int32) (p0 : Int32) : Int32 := (df (p0).toNatClampNeg)
set_option maxHeartbeats 4000000 in
set_option maxRecDepth 100000 in
theorem c_X0_failuresOf (l : Launch) (G : va_G) (ad : Nat → Nat) (dw : Nat → Int32) (df : Nat → Int32) (dr : Nat → Int32) (de : Nat → Int32) (p0 : Int32) (h0 : vp_in p0 12) : Ke l yX0_failuresOf wsX0_failuresOf { frames := 0, cells := 0, slots := 0, locals := 0 } 0 0 G (wD G ad dw df dr de) [.ref (ad 0), .int p0] (f_X0_failuresOf_r df p0) (wD G ad dw df dr de) := by
  refine v_ofi (cc := cX0_failuresOf) (nL := 2) (lv := [(0, .ref (ad 0)), (1, .int p0)]) (by decide) rfl (Nat.le_of_ble_eq_true rfl) rfl ?_
  intro p e s m args below meth c A X hr
  refine v_aload_n (pc := 0) X dX0_failuresOf_0 0 rfl ?_
  refine v_get (pc := 1) (k := 1) (i := 1) X dX0_failuresOf_1 (fun _ h => List.mem_cons_of_mem _ (List.mem_append_right _ h)) 0 rfl rfl (Nat.le_of_ble_eq_true rfl) rfl rfl rfl ?_
  refine v_iload_n (pc := 4) X dX0_failuresOf_4 1 rfl ?_
  refine v_iald (pc := 5) X dX0_failuresOf_5 2 rfl h0 rfl ?_
  exact v_iret (pc := 6) X hr dX0_failuresOf_6 () rfl (by show (df (p0).toNatClampNeg) = (f_X0_failuresOf_r df p0); simp only [f_X0_failuresOf_r])
def f_X0_sessionEndOf_r (de : Nat → Int32) (p0 : Int32) : Int32 := (de (p0).toNatClampNeg)
set_option maxHeartbeats 4000000 in
set_option maxRecDepth 100000 in
theorem c_X0_sessionEndOf (l : Launch) (G : va_G) (ad : Nat → Nat) (dw : Nat → Int32) (df : Nat → Int32) (dr : Nat → Int32) (de : Nat → Int32) (p0 : Int32) (h0 : vp_in p0 12) : Ke l yX0_sessionEndOf wsX0_sessionEndOf { frames := 0, cells := 0, slots := 0, locals := 0 } 0 0 G (wD G ad dw df dr de) [.ref (ad 0), .int p0] (f_X0_sessionEndOf_r de p0) (wD G ad dw df dr de) := by
  refine v_ofi (cc := cX0_sessionEndOf) (nL := 2) (lv := [(0, .ref (ad 0)), (1, .int p0)]) (by decide) rfl (Nat.le_of_ble_eq_true rfl) rfl ?_
  intro p e s m args below meth c A X hr
  refine v_aload_n (pc := 0) X dX0_sessionEndOf_0 0 rfl ?_
  refine v_get (pc := 1) (k := 3) (i := 1) X dX0_sessionEndOf_1 (fun _ h => List.mem_cons_of_mem _ (List.mem_append_right _ h)) 0 rfl rfl (Nat.le_of_ble_eq_true rfl) rfl rfl rfl ?_
  refine v_iload_n (pc := 4) X dX0_sessionEndOf_4 1 rfl ?_
  refine v_iald (pc := 5) X dX0_sessionEndOf_5 4 rfl h0 rfl ?_
  exact v_iret (pc := 6) X hr dX0_sessionEndOf_6 () rfl (by show (de (p0).toNatClampNeg) = (f_X0_sessionEndOf_r de p0); simp only [f_X0_sessionEndOf_r])
def f_X0_endsAheadOf_r (de : Nat → Int32) (p0 : Int32) (p1 : Int32) : Int32 := (if (de (p0).toNatClampNeg) = (de (p1).toNatClampNeg) then (if p1 ≤ p0 then 0 else 1) else (if (de (p1).toNatClampNeg) ≤ (de (p0).toNatClampNeg) then 0 else 1))
set_option maxHeartbeats 4000000 in
set_option maxRecDepth 100000 in
theorem c_X0_endsAheadOf (l : Launch) (G : va_G) (ad : Nat → Nat) (dw : Nat → Int32) (df : Nat → Int32) (dr : Nat → Int32) (de : Nat → Int32) (p0 : Int32) (p1 : Int32) (h0 : vp_in p0 12) (h1 : vp_in p1 12) : Ke l yX0_endsAheadOf wsX0_endsAheadOf { frames := 0, cells := 0, slots := 0, locals := 0 } 0 0 G (wD G ad dw df dr de) [.ref (ad 0), .int p0, .int p1] (f_X0_endsAheadOf_r de p0 p1) (wD G ad dw df dr de) := by
  refine v_ofi (cc := cX0_endsAheadOf) (nL := 3) (lv := [(0, .ref (ad 0)), (1, .int p0), (2, .int p1)]) (by decide) rfl (Nat.le_of_ble_eq_true rfl) rfl ?_
  intro p e s m args below meth c A X hr
  refine v_aload_n (pc := 0) X dX0_endsAheadOf_0 0 rfl ?_
  refine v_get (pc := 1) (k := 3) (i := 1) X dX0_endsAheadOf_1 (fun _ h => List.mem_cons_of_mem _ (List.mem_append_right _ h)) 0 rfl rfl (Nat.le_of_ble_eq_true rfl) rfl rfl rfl ?_
  refine v_iload_n (pc := 4) X dX0_endsAheadOf_4 1 rfl ?_
  refine v_iald (pc := 5) X dX0_endsAheadOf_5 4 rfl h0 rfl ?_
  refine v_aload_n (pc := 6) X dX0_endsAheadOf_6 0 rfl ?_
  refine v_get (pc := 7) (k := 3) (i := 1) X dX0_endsAheadOf_7 (fun _ h => List.mem_cons_of_mem _ (List.mem_append_right _ h)) 0 rfl rfl (Nat.le_of_ble_eq_true rfl) rfl rfl rfl ?_
  refine v_iload_n (pc := 10) X dX0_endsAheadOf_10 2 rfl ?_
  refine v_iald (pc := 11) X dX0_endsAheadOf_11 4 rfl h1 rfl ?_
  refine v_icmp_eq (pc := 12) X 36 dX0_endsAheadOf_12 (by decide) (fun c_12 => ?_) (fun c_12 => ?_)
  · refine v_iload_n (pc := 36) X dX0_endsAheadOf_36 1 rfl ?_
    refine v_iload_n (pc := 37) X dX0_endsAheadOf_37 2 rfl ?_
    refine v_icmp_ge (pc := 38) X 45 dX0_endsAheadOf_38 (by decide) (fun c_38 => ?_) (fun c_38 => ?_)
    · refine v_iconst (pc := 45) (v := 0) X dX0_endsAheadOf_45 (by decide) ?_
      exact v_zret (pc := 46) X hr rfl dX0_endsAheadOf_46 () rfl (by show 0 = (f_X0_endsAheadOf_r de p0 p1); simp only [f_X0_endsAheadOf_r, if_pos c_12, if_pos c_38])
    · refine v_iconst (pc := 41) (v := 1) X dX0_endsAheadOf_41 (by decide) ?_
      refine v_goto (pc := 42) X 46 dX0_endsAheadOf_42 (by decide) ?_
      exact v_zret (pc := 46) X hr rfl dX0_endsAheadOf_46 () rfl (by show 1 = (f_X0_endsAheadOf_r de p0 p1); simp only [f_X0_endsAheadOf_r, if_pos c_12, if_neg c_38])
  · refine v_aload_n (pc := 15) X dX0_endsAheadOf_15 0 rfl ?_
    refine v_get (pc := 16) (k := 3) (i := 1) X dX0_endsAheadOf_16 (fun _ h => List.mem_cons_of_mem _ (List.mem_append_right _ h)) 0 rfl rfl (Nat.le_of_ble_eq_true rfl) rfl rfl rfl ?_
    refine v_iload_n (pc := 19) X dX0_endsAheadOf_19 1 rfl ?_
    refine v_iald (pc := 20) X dX0_endsAheadOf_20 4 rfl h0 rfl ?_
    refine v_aload_n (pc := 21) X dX0_endsAheadOf_21 0 rfl ?_
    refine v_get (pc := 22) (k := 3) (i := 1) X dX0_endsAheadOf_22 (fun _ h => List.mem_cons_of_mem _ (List.mem_append_right _ h)) 0 rfl rfl (Nat.le_of_ble_eq_true rfl) rfl rfl rfl ?_
    refine v_iload_n (pc := 25) X dX0_endsAheadOf_25 2 rfl ?_
    refine v_iald (pc := 26) X dX0_endsAheadOf_26 4 rfl h1 rfl ?_
    refine v_icmp_ge (pc := 27) X 34 dX0_endsAheadOf_27 (by decide) (fun c_27 => ?_) (fun c_27 => ?_)
    · refine v_iconst (pc := 34) (v := 0) X dX0_endsAheadOf_34 (by decide) ?_
      exact v_zret (pc := 35) X hr rfl dX0_endsAheadOf_35 () rfl (by show 0 = (f_X0_endsAheadOf_r de p0 p1); simp only [f_X0_endsAheadOf_r, if_neg c_12, if_pos c_27])
    · refine v_iconst (pc := 30) (v := 1) X dX0_endsAheadOf_30 (by decide) ?_
      refine v_goto (pc := 31) X 35 dX0_endsAheadOf_31 (by decide) ?_
      exact v_zret (pc := 35) X hr rfl dX0_endsAheadOf_35 () rfl (by show 1 = (f_X0_endsAheadOf_r de p0 p1); simp only [f_X0_endsAheadOf_r, if_neg c_12, if_neg c_27])
def FX0_countEndingAheadOf_5_x3 : Nat → Int32 → Int32 → (Nat → Int32) → Int32 → Int32 → Int32
  | 0, _, _, _, _, _ => 0
  | n + 1, x3, x4, de, p0, p1 => (if 12 ≤ x4 then x3 else (if (f_X0_isInSession_r de x4 p1) = 0 then (FX0_countEndingAheadOf_5_x3 n x3 (x4 + 1) de p0 p1) else (if (f_X0_endsAheadOf_r de x4 p0) = 0 then (FX0_countEndingAheadOf_5_x3 n x3 (x4 + 1) de p0 p1) else (FX0_countEndingAheadOf_5_x3 n (x3 + 1) (x4 + 1) de p0 p1))))
def FX0_countEndingAheadOf_5_x4 : Nat → Int32 → Int32 → (Nat → Int32) → Int32 → Int32 → Int32
  | 0, _, _, _, _, _ => 0
  | n + 1, x3, x4, de, p0, p1 => (if 12 ≤ x4 then x4 else (if (f_X0_isInSession_r de x4 p1) = 0 then (FX0_countEndingAheadOf_5_x4 n x3 (x4 + 1) de p0 p1) else (if (f_X0_endsAheadOf_r de x4 p0) = 0 then (FX0_countEndingAheadOf_5_x4 n x3 (x4 + 1) de p0 p1) else (FX0_countEndingAheadOf_5_x4 n (x3 + 1) (x4 + 1) de p0 p1))))
def f_X0_countEndingAheadOf_r (de : Nat → Int32) (p0 : Int32) (p1 : Int32) : Int32 := (FX0_countEndingAheadOf_5_x3 13 0 0 de p0 p1)
set_option maxHeartbeats 4000000 in
set_option maxRecDepth 100000 in
theorem c_X0_countEndingAheadOf (l : Launch) (G : va_G) (ad : Nat → Nat) (dw : Nat → Int32) (df : Nat → Int32) (dr : Nat → Int32) (de : Nat → Int32) (p0 : Int32) (p1 : Int32) (h0 : vp_in p0 12) : Ke l yX0_countEndingAheadOf wsX0_countEndingAheadOf { frames := 1, cells := 0, slots := 0, locals := 22 } 0 0 G (wD G ad dw df dr de) [.ref (ad 0), .int p0, .int p1] (f_X0_countEndingAheadOf_r de p0 p1) (wD G ad dw df dr de) := by
  refine v_ofi (cc := cX0_countEndingAheadOf) (nL := 5) (lv := [(0, .ref (ad 0)), (1, .int p0), (2, .int p1)]) (by decide) rfl (Nat.le_of_ble_eq_true rfl) rfl ?_
  intro p e s m args below meth c A X hr
  refine v_iconst (pc := 0) (v := 0) X dX0_countEndingAheadOf_0 (by decide) ?_
  refine v_istore_n (pc := 1) (lv' := [(0, .ref (ad 0)), (1, .int p0), (2, .int p1), (3, .int 0)]) X dX0_countEndingAheadOf_1 rfl (Nat.le_of_ble_eq_true rfl) [1, 2, 3, 0] rfl ?_
  refine v_iconst (pc := 2) (v := 0) X dX0_countEndingAheadOf_2 (by decide) ?_
  refine v_istore (pc := 3) (lv' := [(0, .ref (ad 0)), (1, .int p0), (2, .int p1), (3, .int 0), (4, .int 0)]) X dX0_countEndingAheadOf_3 (Nat.le_of_ble_eq_true rfl) [1, 2, 3, 4, 0] rfl ?_
  have LP5 : ∀ (n : Nat) (x3 : Int32) (x4 : Int32), (x4 = nI (12 + 1 - n) ∧ 1 ≤ n ∧ n ≤ 12 + 1) → V p l e (headSpec wsX0_countEndingAheadOf { frames := 1, cells := 0, slots := 0, locals := 22 }).room s m args below meth c 5 G A 0 0 (QI below args s G A 0 0 (S := Unit) (fun x _ => x = (f_X0_countEndingAheadOf_r de p0 p1)) (fun _ => (wD G ad dw df dr de))) (wD G ad dw df dr de) [(0, .ref (ad 0)), (1, .int p0), (2, .int p1), (3, .int (FX0_countEndingAheadOf_5_x3 n x3 x4 de p0 p1)), (4, .int (FX0_countEndingAheadOf_5_x4 n x3 x4 de p0 p1))] 41 [] → V p l e (headSpec wsX0_countEndingAheadOf { frames := 1, cells := 0, slots := 0, locals := 22 }).room s m args below meth c 5 G A 0 0 (QI below args s G A 0 0 (S := Unit) (fun x _ => x = (f_X0_countEndingAheadOf_r de p0 p1)) (fun _ => (wD G ad dw df dr de))) (wD G ad dw df dr de) [(0, .ref (ad 0)), (1, .int p0), (2, .int p1), (3, .int x3), (4, .int x4)] 5 [] := by
    intro n
    induction n with
    | zero => intro x3 x4 hI hK; exact False.elim (by omega)
    | succ n ih =>
      intro x3 x4 hI hK
      refine v_iload (pc := 5) X dX0_countEndingAheadOf_5 4 rfl ?_
      refine v_bipush (pc := 7) (v := 12) X dX0_countEndingAheadOf_7 (by decide) ?_
      refine v_icmp_ge (pc := 9) X 41 dX0_countEndingAheadOf_9 (by decide) (fun c_9 => ?_) (fun c_9 => ?_)
      · simpa only [FX0_countEndingAheadOf_5_x3, FX0_countEndingAheadOf_5_x4, if_pos c_9] using hK
      · have hi_x4 : vp_in x4 12 := (cnt_in (by decide) (by decide) hI c_9).1
        refine v_aload_n (pc := 12) X dX0_countEndingAheadOf_12 0 rfl ?_
        refine v_iload (pc := 13) X dX0_countEndingAheadOf_13 4 rfl ?_
        refine v_iload_n (pc := 15) X dX0_countEndingAheadOf_15 2 rfl ?_
        refine v_eV (pc := 16) (rest := []) (n := 2) (wr := ([] : va_W)) (wn := (wD G ad dw df dr de)) (isC := [0, 1, 2, 3, 4]) (isR := []) (isP := [0, 1, 2, 3, 4]) X (c_X0_isInSession l G ad dw df dr de x4 p1 hi_x4) gX0_countEndingAheadOf_X0_isInSession rfl rfl rfl (by decide +kernel) ⟨Nat.le_of_ble_eq_true rfl, Nat.le_of_ble_eq_true rfl⟩ dX0_countEndingAheadOf_16 rfl rfl (Nat.le_of_ble_eq_true rfl) ⟨Nat.le_of_ble_eq_true rfl, Nat.le_of_ble_eq_true rfl⟩ 0 rfl rfl ⟨rfl, rfl, rfl, rfl, by decide, rfl, rfl⟩ ?_
        refine v_if_eq (pc := 19) X 35 dX0_countEndingAheadOf_19 (by decide) (fun c_19 => ?_) (fun c_19 => ?_)
        · refine v_iinc (pc := 35) (k := 4) (v := (x4 + 1)) (lv' := [(0, .ref (ad 0)), (1, .int p0), (2, .int p1), (3, .int x3), (4, .int (x4 + 1))]) X dX0_countEndingAheadOf_35 rfl rfl (Nat.le_of_ble_eq_true rfl) [1, 2, 3, 4, 0] rfl ?_
          refine v_goto (pc := 38) X 5 dX0_countEndingAheadOf_38 (by decide) ?_
          exact ih x3 (x4 + 1) ((cnt_in (by decide) (by decide) hI c_9).2) (by simpa only [FX0_countEndingAheadOf_5_x3, FX0_countEndingAheadOf_5_x4, if_neg c_9, if_pos c_19] using hK)
        · refine v_aload_n (pc := 22) X dX0_countEndingAheadOf_22 0 rfl ?_
          refine v_iload (pc := 23) X dX0_countEndingAheadOf_23 4 rfl ?_
          refine v_iload_n (pc := 25) X dX0_countEndingAheadOf_25 1 rfl ?_
          refine v_eV (pc := 26) (rest := []) (n := 2) (wr := ([] : va_W)) (wn := (wD G ad dw df dr de)) (isC := [0, 1, 2, 3, 4]) (isR := []) (isP := [0, 1, 2, 3, 4]) X (c_X0_endsAheadOf l G ad dw df dr de x4 p0 hi_x4 h0) gX0_countEndingAheadOf_X0_endsAheadOf rfl rfl rfl (by decide +kernel) ⟨Nat.le_of_ble_eq_true rfl, Nat.le_of_ble_eq_true rfl⟩ dX0_countEndingAheadOf_26 rfl rfl (Nat.le_of_ble_eq_true rfl) ⟨Nat.le_of_ble_eq_true rfl, Nat.le_of_ble_eq_true rfl⟩ 0 rfl rfl ⟨rfl, rfl, rfl, rfl, by decide, rfl, rfl⟩ ?_
          refine v_if_eq (pc := 29) X 35 dX0_countEndingAheadOf_29 (by decide) (fun c_29 => ?_) (fun c_29 => ?_)
          · refine v_iinc (pc := 35) (k := 4) (v := (x4 + 1)) (lv' := [(0, .ref (ad 0)), (1, .int p0), (2, .int p1), (3, .int x3), (4, .int (x4 + 1))]) X dX0_countEndingAheadOf_35 rfl rfl (Nat.le_of_ble_eq_true rfl) [1, 2, 3, 4, 0] rfl ?_
            refine v_goto (pc := 38) X 5 dX0_countEndingAheadOf_38 (by decide) ?_
            exact ih x3 (x4 + 1) ((cnt_in (by decide) (by decide) hI c_9).2) (by simpa only [FX0_countEndingAheadOf_5_x3, FX0_countEndingAheadOf_5_x4, if_neg c_9, if_neg c_19, if_pos c_29] using hK)
          · refine v_iinc (pc := 32) (k := 3) (v := (x3 + 1)) (lv' := [(0, .ref (ad 0)), (1, .int p0), (2, .int p1), (3, .int (x3 + 1)), (4, .int x4)]) X dX0_countEndingAheadOf_32 rfl rfl (Nat.le_of_ble_eq_true rfl) [1, 2, 3, 0, 4] rfl ?_
            refine v_iinc (pc := 35) (k := 4) (v := (x4 + 1)) (lv' := [(0, .ref (ad 0)), (1, .int p0), (2, .int p1), (3, .int (x3 + 1)), (4, .int (x4 + 1))]) X dX0_countEndingAheadOf_35 rfl rfl (Nat.le_of_ble_eq_true rfl) [1, 2, 3, 4, 0] rfl ?_
            refine v_goto (pc := 38) X 5 dX0_countEndingAheadOf_38 (by decide) ?_
            exact ih (x3 + 1) (x4 + 1) ((cnt_in (by decide) (by decide) hI c_9).2) (by simpa only [FX0_countEndingAheadOf_5_x3, FX0_countEndingAheadOf_5_x4, if_neg c_9, if_neg c_19, if_neg c_29] using hK)
  refine LP5 13 0 0 (⟨by decide, by decide, by decide⟩) ?_
  refine v_iload_n (pc := 41) X dX0_countEndingAheadOf_41 3 rfl ?_
  exact v_iret (pc := 42) X hr dX0_countEndingAheadOf_42 () rfl (by show (FX0_countEndingAheadOf_5_x3 13 0 0 de p0 p1) = (f_X0_countEndingAheadOf_r de p0 p1); simp only [f_X0_countEndingAheadOf_r])
def FX0_init_38_x1 : Nat → Int32 → (Nat → Int32) → Int32
  | 0, _, _ => 0
  | n + 1, x1, w7 => (if 12 ≤ x1 then x1 else (FX0_init_38_x1 n (x1 + 1) (upd w7 (x1).toNatClampNeg (11 * x1)) ))
def FX0_init_38_w7 : Nat → Int32 → (Nat → Int32) → Nat → Int32
  | 0, _, _ => fun _ => 0
  | n + 1, x1, w7 => (if 12 ≤ x1 then w7 else (FX0_init_38_w7 n (x1 + 1) (upd w7 (x1).toNatClampNeg (11 * x1)) ))
set_option maxHeartbeats 4000000 in
set_option maxRecDepth 100000 in
theorem c_X0_init (l : Launch) (G : va_G) (h0 : Nat) : Kv l yX0_init wsX0_init { frames := 1, cells := 4, slots := 48, locals := 16 } 4 48 G ([(h0, .inr (1, [.null, .null, .null, .null]))]) [.ref h0] (S := Nat → Nat) (fun a => a 0 = h0) (fun a => (wD G a (FX0_init_38_w7 13 0 (fun _ => 0)) (fun _ => 0) (fun _ => 0) (fun _ => 0))) := by
  refine v_ofv (cc := cX0_init) (nL := 2) (lv := [(0, .ref h0)]) (by decide) rfl (Nat.le_of_ble_eq_true rfl) rfl ?_
  intro p e s m args below meth c A X hr hin
  refine v_aload_n (pc := 0) X dX0_init_0 0 rfl ?_
  refine v_objInit (pc := 1) (i1 := 1) (i2 := 2) (i3 := 3) X dX0_init_1 rfl rfl rfl (Nat.le_of_ble_eq_true rfl) (Nat.le_of_ble_eq_true rfl) ?_
  refine v_aload_n (pc := 4) X dX0_init_4 0 rfl ?_
  refine v_bipush (pc := 5) (v := 12) X dX0_init_5 (by decide) ?_
  refine v_newI (pc := 7) (i := 4) (N := 12) X dX0_init_7 rfl (by decide) (by decide) (Nat.le_of_ble_eq_true rfl) (Nat.le_of_ble_eq_true rfl) (Nat.le_of_ble_eq_true rfl) (fun q7 => ?_)
  refine v_ws (ws' := ([(h0, .inr (1, [.null, .null, .null, .null])), (q7, .inl (G.1 10, 12, .inl (fun _ => 0)))])) rfl ?_
  refine v_put (pc := 9) (k := 0) (i := 5) (ws' := ([(h0, .inr (1, [.ref q7, .null, .null, .null])), (q7, .inl (G.1 10, 12, .inl (fun _ => 0)))])) X dX0_init_9 (fun _ h => List.mem_cons_of_mem _ (List.mem_append_right _ h)) tyX0_ok nmX0 0 rfl rfl (Nat.le_of_ble_eq_true rfl) rfl rfl (Or.inr ⟨rfl, hin, rfl⟩) rfl (rfl) rfl (Nat.le_of_ble_eq_true rfl) rfl ?_
  refine v_aload_n (pc := 12) X dX0_init_12 0 rfl ?_
  refine v_bipush (pc := 13) (v := 12) X dX0_init_13 (by decide) ?_
  refine v_newI (pc := 15) (i := 4) (N := 12) X dX0_init_15 rfl (by decide) (by decide) (Nat.le_of_ble_eq_true rfl) (Nat.le_of_ble_eq_true rfl) (Nat.le_of_ble_eq_true rfl) (fun q15 => ?_)
  refine v_ws (ws' := ([(h0, .inr (1, [.ref q7, .null, .null, .null])), (q7, .inl (G.1 10, 12, .inl (fun _ => 0))), (q15, .inl (G.1 10, 12, .inl (fun _ => 0)))])) rfl ?_
  refine v_put (pc := 17) (k := 1) (i := 6) (ws' := ([(h0, .inr (1, [.ref q7, .ref q15, .null, .null])), (q7, .inl (G.1 10, 12, .inl (fun _ => 0))), (q15, .inl (G.1 10, 12, .inl (fun _ => 0)))])) X dX0_init_17 (fun _ h => List.mem_cons_of_mem _ (List.mem_append_right _ h)) tyX0_ok nmX0 0 rfl rfl (Nat.le_of_ble_eq_true rfl) rfl rfl (Or.inr ⟨rfl, hin, rfl⟩) rfl (rfl) rfl (Nat.le_of_ble_eq_true rfl) rfl ?_
  refine v_aload_n (pc := 20) X dX0_init_20 0 rfl ?_
  refine v_bipush (pc := 21) (v := 12) X dX0_init_21 (by decide) ?_
  refine v_newI (pc := 23) (i := 4) (N := 12) X dX0_init_23 rfl (by decide) (by decide) (Nat.le_of_ble_eq_true rfl) (Nat.le_of_ble_eq_true rfl) (Nat.le_of_ble_eq_true rfl) (fun q23 => ?_)
  refine v_ws (ws' := ([(h0, .inr (1, [.ref q7, .ref q15, .null, .null])), (q7, .inl (G.1 10, 12, .inl (fun _ => 0))), (q15, .inl (G.1 10, 12, .inl (fun _ => 0))), (q23, .inl (G.1 10, 12, .inl (fun _ => 0)))])) rfl ?_
  refine v_put (pc := 25) (k := 2) (i := 7) (ws' := ([(h0, .inr (1, [.ref q7, .ref q15, .ref q23, .null])), (q7, .inl (G.1 10, 12, .inl (fun _ => 0))), (q15, .inl (G.1 10, 12, .inl (fun _ => 0))), (q23, .inl (G.1 10, 12, .inl (fun _ => 0)))])) X dX0_init_25 (fun _ h => List.mem_cons_of_mem _ (List.mem_append_right _ h)) tyX0_ok nmX0 0 rfl rfl (Nat.le_of_ble_eq_true rfl) rfl rfl (Or.inr ⟨rfl, hin, rfl⟩) rfl (rfl) rfl (Nat.le_of_ble_eq_true rfl) rfl ?_
  refine v_aload_n (pc := 28) X dX0_init_28 0 rfl ?_
  refine v_bipush (pc := 29) (v := 12) X dX0_init_29 (by decide) ?_
  refine v_newI (pc := 31) (i := 4) (N := 12) X dX0_init_31 rfl (by decide) (by decide) (Nat.le_of_ble_eq_true rfl) (Nat.le_of_ble_eq_true rfl) (Nat.le_of_ble_eq_true rfl) (fun q31 => ?_)
  refine v_ws (ws' := ([(h0, .inr (1, [.ref q7, .ref q15, .ref q23, .null])), (q7, .inl (G.1 10, 12, .inl (fun _ => 0))), (q15, .inl (G.1 10, 12, .inl (fun _ => 0))), (q23, .inl (G.1 10, 12, .inl (fun _ => 0))), (q31, .inl (G.1 10, 12, .inl (fun _ => 0)))])) rfl ?_
  refine v_put (pc := 33) (k := 3) (i := 8) (ws' := ([(h0, .inr (1, [.ref q7, .ref q15, .ref q23, .ref q31])), (q7, .inl (G.1 10, 12, .inl (fun _ => 0))), (q15, .inl (G.1 10, 12, .inl (fun _ => 0))), (q23, .inl (G.1 10, 12, .inl (fun _ => 0))), (q31, .inl (G.1 10, 12, .inl (fun _ => 0)))])) X dX0_init_33 (fun _ h => List.mem_cons_of_mem _ (List.mem_append_right _ h)) tyX0_ok nmX0 0 rfl rfl (Nat.le_of_ble_eq_true rfl) rfl rfl (Or.inr ⟨rfl, hin, rfl⟩) rfl (rfl) rfl (Nat.le_of_ble_eq_true rfl) rfl ?_
  refine v_iconst (pc := 36) (v := 0) X dX0_init_36 (by decide) ?_
  refine v_istore_n (pc := 37) (lv' := [(0, .ref h0), (1, .int 0)]) X dX0_init_37 rfl (Nat.le_of_ble_eq_true rfl) [1, 0] rfl ?_
  have LP38 : ∀ (n : Nat) (x1 : Int32) (w7 : Nat → Int32), (x1 = nI (12 + 1 - n) ∧ 1 ≤ n ∧ n ≤ 12 + 1) → V p l e (headSpec wsX0_init { frames := 1, cells := 4, slots := 48, locals := 16 }).room s m args below meth c 2 G A 4 48 (QV below args s G A 4 48 (S := Nat → Nat) (fun a => a 0 = h0) (fun a => (wD G a (FX0_init_38_w7 13 0 (fun _ => 0)) (fun _ => 0) (fun _ => 0) (fun _ => 0)))) ([(h0, .inr (1, [.ref q7, .ref q15, .ref q23, .ref q31])), (q7, .inl (G.1 10, 12, .inl (FX0_init_38_w7 n x1 w7))), (q15, .inl (G.1 10, 12, .inl (fun _ => 0))), (q23, .inl (G.1 10, 12, .inl (fun _ => 0))), (q31, .inl (G.1 10, 12, .inl (fun _ => 0)))]) [(0, .ref h0), (1, .int (FX0_init_38_x1 n x1 w7))] 60 [] → V p l e (headSpec wsX0_init { frames := 1, cells := 4, slots := 48, locals := 16 }).room s m args below meth c 2 G A 4 48 (QV below args s G A 4 48 (S := Nat → Nat) (fun a => a 0 = h0) (fun a => (wD G a (FX0_init_38_w7 13 0 (fun _ => 0)) (fun _ => 0) (fun _ => 0) (fun _ => 0)))) ([(h0, .inr (1, [.ref q7, .ref q15, .ref q23, .ref q31])), (q7, .inl (G.1 10, 12, .inl w7)), (q15, .inl (G.1 10, 12, .inl (fun _ => 0))), (q23, .inl (G.1 10, 12, .inl (fun _ => 0))), (q31, .inl (G.1 10, 12, .inl (fun _ => 0)))]) [(0, .ref h0), (1, .int x1)] 38 [] := by
    intro n
    induction n with
    | zero => intro x1 w7 hI hK; exact False.elim (by omega)
    | succ n ih =>
      intro x1 w7 hI hK
      refine v_iload_n (pc := 38) X dX0_init_38 1 rfl ?_
      refine v_bipush (pc := 39) (v := 12) X dX0_init_39 (by decide) ?_
      refine v_icmp_ge (pc := 41) X 60 dX0_init_41 (by decide) (fun c_41 => ?_) (fun c_41 => ?_)
      · simpa only [FX0_init_38_x1, FX0_init_38_w7, if_pos c_41] using hK
      · have hi_x1 : vp_in x1 12 := (cnt_in (by decide) (by decide) hI c_41).1
        refine v_aload_n (pc := 44) X dX0_init_44 0 rfl ?_
        refine v_get (pc := 45) (k := 0) (i := 5) X dX0_init_45 (fun _ h => List.mem_cons_of_mem _ (List.mem_append_right _ h)) 0 rfl rfl (Nat.le_of_ble_eq_true rfl) rfl rfl rfl ?_
        refine v_iload_n (pc := 48) X dX0_init_48 1 rfl ?_
        refine v_bipush (pc := 49) (v := 11) X dX0_init_49 (by decide) ?_
        refine v_iload_n (pc := 51) X dX0_init_51 1 rfl ?_
        refine v_imul (pc := 52) X dX0_init_52 rfl ?_
        refine v_iast (pc := 53) (ws' := ([(h0, .inr (1, [.ref q7, .ref q15, .ref q23, .ref q31])), (q7, .inl (G.1 10, 12, .inl (upd w7 (x1).toNatClampNeg (11 * x1)))), (q15, .inl (G.1 10, 12, .inl (fun _ => 0))), (q23, .inl (G.1 10, 12, .inl (fun _ => 0))), (q31, .inl (G.1 10, 12, .inl (fun _ => 0)))])) X dX0_init_53 1 rfl hi_x1 rfl ?_
        refine v_iinc (pc := 54) (k := 1) (v := (x1 + 1)) (lv' := [(0, .ref h0), (1, .int (x1 + 1))]) X dX0_init_54 rfl rfl (Nat.le_of_ble_eq_true rfl) [1, 0] rfl ?_
        refine v_goto (pc := 57) X 38 dX0_init_57 (by decide) ?_
        exact ih (x1 + 1) (upd w7 (x1).toNatClampNeg (11 * x1)) ((cnt_in (by decide) (by decide) hI c_41).2) (by simpa only [FX0_init_38_x1, FX0_init_38_w7, if_neg c_41] using hK)
  refine LP38 13 0 (fun _ => 0) (⟨by decide, by decide, by decide⟩) ?_
  exact v_vret (pc := 60) X hr dX0_init_60 (adr [h0, q7, q15, q23, q31]) rfl rfl
