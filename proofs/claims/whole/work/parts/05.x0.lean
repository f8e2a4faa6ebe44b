def f_X0_setWord_dw (dw : Nat → Int32) (p0 : Int32) (p1 : Int32) : Nat → Int32 := (upd dw (p0).toNatClampNeg p1)
set_option maxHeartbeats 4000000 in
set_option maxRecDepth 100000 in
theorem c_X0_setWord (l : Launch) (G : va_G) (ad : Nat → Nat) (dw : Nat → Int32) (df : Nat → Int32) (dr : Nat → Int32) (de : Nat → Int32) (p0 : Int32) (p1 : Int32) (h0 : vp_in p0 12) : Ku l yX0_setWord wsX0_setWord { frames := 0, cells := 0, slots := 0, locals := 0 } 0 0 G (wD G ad dw df dr de) [.ref (ad 0), .int p0, .int p1] (wD G ad (f_X0_setWord_dw dw p0 p1) df dr de) := by
  refine v_ofv (cc := cX0_setWord) (nL := 3) (lv := [(0, .ref (ad 0)), (1, .int p0), (2, .int p1)]) (by decide) rfl (Nat.le_of_ble_eq_true rfl) rfl ?_
  intro p e s m args below meth c A X hr hin
  refine v_aload_n (pc := 0) X dX0_setWord_0 0 rfl ?_
  refine v_get (pc := 1) (k := 0) (i := 1) X dX0_setWord_1 (fun _ h => List.mem_cons_of_mem _ (List.mem_append_right _ h)) 0 rfl rfl (Nat.le_of_ble_eq_true rfl) rfl rfl rfl ?_
  refine v_iload_n (pc := 4) X dX0_setWord_4 1 rfl ?_
  refine v_iload_n (pc := 5) X dX0_setWord_5 2 rfl ?_
  refine v_iast (pc := 6) (ws' := (wD G ad (upd dw (p0).toNatClampNeg p1) df dr de)) X dX0_setWord_6 1 rfl h0 rfl ?_
  exact v_vret (pc := 7) X hr dX0_setWord_7 () (by show (wD G ad (upd dw (p0).toNatClampNeg p1) df dr de) = (wD G ad (f_X0_setWord_dw dw p0 p1) df dr de); simp only [f_X0_setWord_dw]) True.intro
def f_X0_codeOf_r (p0 : Int32) (p1 : Int32) : Int32 := (((7 * p0) + (3 * p1)) - ((7 * p0) + (3 * p1)) / 10 * 10)
set_option maxHeartbeats 4000000 in
set_option maxRecDepth 100000 in
theorem c_X0_codeOf (l : Launch) (G : va_G) (p0 : Int32) (p1 : Int32) : Ke l yX0_codeOf wsX0_codeOf { frames := 0, cells := 0, slots := 0, locals := 0 } 0 0 G ([] : va_W) [.int p0, .int p1] (f_X0_codeOf_r p0 p1) ([] : va_W) := by
  refine v_ofi (cc := cX0_codeOf) (nL := 2) (lv := [(0, .int p0), (1, .int p1)]) (by decide) rfl (Nat.le_of_ble_eq_true rfl) rfl ?_
  intro p e s m args below meth c A X hr
  refine v_bipush (pc := 0) (v := 7) X dX0_codeOf_0 (by decide) ?_
  refine v_iload_n (pc := 2) X dX0_codeOf_2 0 rfl ?_
  refine v_imul (pc := 3) X dX0_codeOf_3 rfl ?_
  refine v_iconst (pc := 4) (v := 3) X dX0_codeOf_4 (by decide) ?_
  refine v_iload_n (pc := 5) X dX0_codeOf_5 1 rfl ?_
  refine v_imul (pc := 6) X dX0_codeOf_6 rfl ?_
  refine v_iadd (pc := 7) X dX0_codeOf_7 rfl ?_
  refine v_bipush (pc := 8) (v := 10) X dX0_codeOf_8 (by decide) ?_
  refine v_irem (pc := 10) X dX0_codeOf_10 (by decide) rfl ?_
  exact v_iret (pc := 11) X hr dX0_codeOf_11 () rfl (by show (((7 * p0) + (3 * p1)) - ((7 * p0) + (3 * p1)) / 10 * 10) = (f_X0_codeOf_r p0 p1); simp only [f_X0_codeOf_r])
def f_X0_countFailure_df (df : Nat → Int32) (p0 : Int32) : Nat → Int32 := (if ((upd df (p0).toNatClampNeg ((df (p0).toNatClampNeg) + 1)) (p0).toNatClampNeg) < 3 then (upd df (p0).toNatClampNeg ((df (p0).toNatClampNeg) + 1)) else (upd (upd df (p0).toNatClampNeg ((df (p0).toNatClampNeg) + 1)) (p0).toNatClampNeg 0))
def f_X0_countFailure_dr (df : Nat → Int32) (dr : Nat → Int32) (p0 : Int32) (p1 : Int32) : Nat → Int32 := (if ((upd df (p0).toNatClampNeg ((df (p0).toNatClampNeg) + 1)) (p0).toNatClampNeg) < 3 then dr else (upd dr (p0).toNatClampNeg (p1 + 10)))
set_option maxHeartbeats 4000000 in
set_option maxRecDepth 100000 in
theorem c_X0_countFailure (l : Launch) (G : va_G) (ad : Nat → Nat) (dw : Nat → Int32) (df : Nat → Int32) (dr : Nat → Int32) (de : Nat → Int32) (p0 : Int32) (p1 : Int32) (h0 : vp_in p0 12) : Ku l yX0_countFailure wsX0_countFailure { frames := 0, cells := 0, slots := 0, locals := 0 } 0 0 G (wD G ad dw df dr de) [.ref (ad 0), .int p0, .int p1] (wD G ad dw (f_X0_countFailure_df df p0) (f_X0_countFailure_dr df dr p0 p1) de) := by
  refine v_ofv (cc := cX0_countFailure) (nL := 3) (lv := [(0, .ref (ad 0)), (1, .int p0), (2, .int p1)]) (by decide) rfl (Nat.le_of_ble_eq_true rfl) rfl ?_
  intro p e s m args below meth c A X hr hin
  refine v_aload_n (pc := 0) X dX0_countFailure_0 0 rfl ?_
  refine v_get (pc := 1) (k := 1) (i := 1) X dX0_countFailure_1 (fun _ h => List.mem_cons_of_mem _ (List.mem_append_right _ h)) 0 rfl rfl (Nat.le_of_ble_eq_true rfl) rfl rfl rfl ?_
  refine v_iload_n (pc := 4) X dX0_countFailure_4 1 rfl ?_
  refine v_dup2 (pc := 5) X dX0_countFailure_5 rfl rfl ?_
  refine v_iald (pc := 6) X dX0_countFailure_6 2 rfl h0 rfl ?_
  refine v_iconst (pc := 7) (v := 1) X dX0_countFailure_7 (by decide) ?_
  refine v_iadd (pc := 8) X dX0_countFailure_8 rfl ?_
  refine v_iast (pc := 9) (ws' := (wD G ad dw (upd df (p0).toNatClampNeg ((df (p0).toNatClampNeg) + 1)) dr de)) X dX0_countFailure_9 2 rfl h0 rfl ?_
  refine v_aload_n (pc := 10) X dX0_countFailure_10 0 rfl ?_
  refine v_get (pc := 11) (k := 1) (i := 1) X dX0_countFailure_11 (fun _ h => List.mem_cons_of_mem _ (List.mem_append_right _ h)) 0 rfl rfl (Nat.le_of_ble_eq_true rfl) rfl rfl rfl ?_
  refine v_iload_n (pc := 14) X dX0_countFailure_14 1 rfl ?_
  refine v_iald (pc := 15) X dX0_countFailure_15 2 rfl h0 rfl ?_
  refine v_iconst (pc := 16) (v := 3) X dX0_countFailure_16 (by decide) ?_
  refine v_icmp_lt (pc := 17) X 37 dX0_countFailure_17 (by decide) (fun c_17 => ?_) (fun c_17 => ?_)
  · exact v_vret (pc := 37) X hr dX0_countFailure_37 () (by show (wD G ad dw (upd df (p0).toNatClampNeg ((df (p0).toNatClampNeg) + 1)) dr de) = (wD G ad dw (f_X0_countFailure_df df p0) (f_X0_countFailure_dr df dr p0 p1) de); simp only [f_X0_countFailure_df, f_X0_countFailure_dr, if_pos c_17]) True.intro
  · refine v_aload_n (pc := 20) X dX0_countFailure_20 0 rfl ?_
    refine v_get (pc := 21) (k := 1) (i := 1) X dX0_countFailure_21 (fun _ h => List.mem_cons_of_mem _ (List.mem_append_right _ h)) 0 rfl rfl (Nat.le_of_ble_eq_true rfl) rfl rfl rfl ?_
    refine v_iload_n (pc := 24) X dX0_countFailure_24 1 rfl ?_
    refine v_iconst (pc := 25) (v := 0) X dX0_countFailure_25 (by decide) ?_
    refine v_iast (pc := 26) (ws' := (wD G ad dw (upd (upd df (p0).toNatClampNeg ((df (p0).toNatClampNeg) + 1)) (p0).toNatClampNeg 0) dr de)) X dX0_countFailure_26 2 rfl h0 rfl ?_
    refine v_aload_n (pc := 27) X dX0_countFailure_27 0 rfl ?_
    refine v_get (pc := 28) (k := 2) (i := 2) X dX0_countFailure_28 (fun _ h => List.mem_cons_of_mem _ (List.mem_append_right _ h)) 0 rfl rfl (Nat.le_of_ble_eq_true rfl) rfl rfl rfl ?_
    refine v_iload_n (pc := 31) X dX0_countFailure_31 1 rfl ?_
    refine v_iload_n (pc := 32) X dX0_countFailure_32 2 rfl ?_
    refine v_bipush (pc := 33) (v := 10) X dX0_countFailure_33 (by decide) ?_
    refine v_iadd (pc := 35) X dX0_countFailure_35 rfl ?_
    refine v_iast (pc := 36) (ws' := (wD G ad dw (upd (upd df (p0).toNatClampNeg ((df (p0).toNatClampNeg) + 1)) (p0).toNatClampNeg 0) (upd dr (p0).toNatClampNeg (p1 + 10)) de)) X dX0_countFailure_36 3 rfl h0 rfl ?_
    exact v_vret (pc := 37) X hr dX0_countFailure_37 () (by show (wD G ad dw (upd (upd df (p0).toNatClampNeg ((df (p0).toNatClampNeg) + 1)) (p0).toNatClampNeg 0) (upd dr (p0).toNatClampNeg (p1 + 10)) de) = (wD G ad dw (f_X0_countFailure_df df p0) (f_X0_countFailure_dr df dr p0 p1) de); simp only [f_X0_countFailure_df, f_X0_countFailure_dr, if_neg c_17]) True.intro
def f_X0_tryLogin_r (dw : Nat → Int32) (dr : Nat → Int32) (p0 : Int32) (p1 : Int32) (p2 : Int32) (p3 : Int32) : Int32 := (if (dr (p0).toNatClampNeg) ≤ p3 then (if p1 = (dw (p0).toNatClampNeg) then (if p2 = (f_X0_codeOf_r p0 p3) then 0 else 2) else 1) else 3)
def f_X0_tryLogin_df (dw : Nat → Int32) (df : Nat → Int32) (dr : Nat → Int32) (p0 : Int32) (p1 : Int32) (p2 : Int32) (p3 : Int32) : Nat → Int32 := (if (dr (p0).toNatClampNeg) ≤ p3 then (if p1 = (dw (p0).toNatClampNeg) then (if p2 = (f_X0_codeOf_r p0 p3) then (upd df (p0).toNatClampNeg 0) else (f_X0_countFailure_df df p0)) else (f_X0_countFailure_df df p0)) else df)
def f_X0_tryLogin_dr (dw : Nat → Int32) (df : Nat → Int32) (dr : Nat → Int32) (p0 : Int32) (p1 : Int32) (p2 : Int32) (p3 : Int32) : Nat → Int32 := (if (dr (p0).toNatClampNeg) ≤ p3 then (if p1 = (dw (p0).toNatClampNeg) then (if p2 = (f_X0_codeOf_r p0 p3) then dr else (f_X0_countFailure_dr df dr p0 p3)) else (f_X0_countFailure_dr df dr p0 p3)) else dr)
def f_X0_tryLogin_de (dw : Nat → Int32) (dr : Nat → Int32) (de : Nat → Int32) (p0 : Int32) (p1 : Int32) (p2 : Int32) (p3 : Int32) : Nat → Int32 := (if (dr (p0).toNatClampNeg) ≤ p3 then (if p1 = (dw (p0).toNatClampNeg) then (if p2 = (f_X0_codeOf_r p0 p3) then (upd de (p0).toNatClampNeg (p3 + 30)) else de) else de) else de)
set_option maxHeartbeats 4000000 in
set_option maxRecDepth 100000 in
theorem c_X0_tryLogin (l : Launch) (G : va_G) (ad : Nat → Nat) (dw : Nat → Int32) (df : Nat → Int32) (dr : Nat → Int32) (de : Nat → Int32) (p0 : Int32) (p1 : Int32) (p2 : Int32) (p3 : Int32) (h0 : vp_in p0 12) : Ke l yX0_tryLogin wsX0_tryLogin { frames := 1, cells := 0, slots := 0, locals := 22 } 0 0 G (wD G ad dw df dr de) [.ref (ad 0), .int p0, .int p1, .int p2, .int p3] (f_X0_tryLogin_r dw dr p0 p1 p2 p3) (wD G ad dw (f_X0_tryLogin_df dw df dr p0 p1 p2 p3) (f_X0_tryLogin_dr dw df dr p0 p1 p2 p3) (f_X0_tryLogin_de dw dr de p0 p1 p2 p3)) := by
  refine v_ofi (cc := cX0_tryLogin) (nL := 5) (lv := [(0, .ref (ad 0)), (1, .int p0), (2, .int p1), (3, .int p2), (4, .int p3)]) (by decide) rfl (Nat.le_of_ble_eq_true rfl) rfl ?_
  intro p e s m args below meth c A X hr
  refine v_iload (pc := 0) X dX0_tryLogin_0 4 rfl ?_
  refine v_aload_n (pc := 2) X dX0_tryLogin_2 0 rfl ?_
  refine v_get (pc := 3) (k := 2) (i := 1) X dX0_tryLogin_3 (fun _ h => List.mem_cons_of_mem _ (List.mem_append_right _ h)) 0 rfl rfl (Nat.le_of_ble_eq_true rfl) rfl rfl rfl ?_
  refine v_iload_n (pc := 6) X dX0_tryLogin_6 1 rfl ?_
  refine v_iald (pc := 7) X dX0_tryLogin_7 3 rfl h0 rfl ?_
  refine v_icmp_ge (pc := 8) X 13 dX0_tryLogin_8 (by decide) (fun c_8 => ?_) (fun c_8 => ?_)
  · refine v_iload_n (pc := 13) X dX0_tryLogin_13 2 rfl ?_
    refine v_aload_n (pc := 14) X dX0_tryLogin_14 0 rfl ?_
    refine v_get (pc := 15) (k := 0) (i := 2) X dX0_tryLogin_15 (fun _ h => List.mem_cons_of_mem _ (List.mem_append_right _ h)) 0 rfl rfl (Nat.le_of_ble_eq_true rfl) rfl rfl rfl ?_
    refine v_iload_n (pc := 18) X dX0_tryLogin_18 1 rfl ?_
    refine v_iald (pc := 19) X dX0_tryLogin_19 1 rfl h0 rfl ?_
    refine v_icmp_eq (pc := 20) X 32 dX0_tryLogin_20 (by decide) (fun c_20 => ?_) (fun c_20 => ?_)
    · refine v_iload_n (pc := 32) X dX0_tryLogin_32 3 rfl ?_
      refine v_iload_n (pc := 33) X dX0_tryLogin_33 1 rfl ?_
      refine v_iload (pc := 34) X dX0_tryLogin_34 4 rfl ?_
      refine v_e0S (pc := 36) (rest := [.int p2]) (n := 2) X (c_X0_codeOf l G p0 p3) gX0_tryLogin_X0_codeOf rfl rfl rfl (by decide +kernel) ⟨Nat.le_of_ble_eq_true rfl, Nat.le_of_ble_eq_true rfl⟩ dX0_tryLogin_36 rfl rfl (Nat.le_of_ble_eq_true rfl) ⟨Nat.le_of_ble_eq_true rfl, Nat.le_of_ble_eq_true rfl⟩ ?_
      refine v_icmp_eq (pc := 39) X 51 dX0_tryLogin_39 (by decide) (fun c_39 => ?_) (fun c_39 => ?_)
      · refine v_aload_n (pc := 51) X dX0_tryLogin_51 0 rfl ?_
        refine v_get (pc := 52) (k := 1) (i := 3) X dX0_tryLogin_52 (fun _ h => List.mem_cons_of_mem _ (List.mem_append_right _ h)) 0 rfl rfl (Nat.le_of_ble_eq_true rfl) rfl rfl rfl ?_
        refine v_iload_n (pc := 55) X dX0_tryLogin_55 1 rfl ?_
        refine v_iconst (pc := 56) (v := 0) X dX0_tryLogin_56 (by decide) ?_
        refine v_iast (pc := 57) (ws' := (wD G ad dw (upd df (p0).toNatClampNeg 0) dr de)) X dX0_tryLogin_57 2 rfl h0 rfl ?_
        refine v_aload_n (pc := 58) X dX0_tryLogin_58 0 rfl ?_
        refine v_get (pc := 59) (k := 3) (i := 4) X dX0_tryLogin_59 (fun _ h => List.mem_cons_of_mem _ (List.mem_append_right _ h)) 0 rfl rfl (Nat.le_of_ble_eq_true rfl) rfl rfl rfl ?_
        refine v_iload_n (pc := 62) X dX0_tryLogin_62 1 rfl ?_
        refine v_iload (pc := 63) X dX0_tryLogin_63 4 rfl ?_
        refine v_bipush (pc := 65) (v := 30) X dX0_tryLogin_65 (by decide) ?_
        refine v_iadd (pc := 67) X dX0_tryLogin_67 rfl ?_
        refine v_iast (pc := 68) (ws' := (wD G ad dw (upd df (p0).toNatClampNeg 0) dr (upd de (p0).toNatClampNeg (p3 + 30)))) X dX0_tryLogin_68 4 rfl h0 rfl ?_
        refine v_iconst (pc := 69) (v := 0) X dX0_tryLogin_69 (by decide) ?_
        exact v_iret (pc := 70) X hr dX0_tryLogin_70 () (by show (wD G ad dw (upd df (p0).toNatClampNeg 0) dr (upd de (p0).toNatClampNeg (p3 + 30))) = (wD G ad dw (f_X0_tryLogin_df dw df dr p0 p1 p2 p3) (f_X0_tryLogin_dr dw df dr p0 p1 p2 p3) (f_X0_tryLogin_de dw dr de p0 p1 p2 p3)); simp only [f_X0_tryLogin_df, f_X0_tryLogin_dr, f_X0_tryLogin_de, if_pos c_8, if_pos c_20, if_pos c_39]) (by show 0 = (f_X0_tryLogin_r dw dr p0 p1 p2 p3); simp only [f_X0_tryLogin_r, if_pos c_8, if_pos c_20, if_pos c_39])
      · refine v_aload_n (pc := 42) X dX0_tryLogin_42 0 rfl ?_
        refine v_iload_n (pc := 43) X dX0_tryLogin_43 1 rfl ?_
        refine v_iload (pc := 44) X dX0_tryLogin_44 4 rfl ?_
        refine v_uV (pc := 46) (rest := []) (n := 2) (wr := ([] : va_W)) (wn := (wD G ad dw (f_X0_countFailure_df df p0) (f_X0_countFailure_dr df dr p0 p3) de)) (isC := [0, 1, 2, 3, 4]) (isR := []) (isP := [0, 1, 2, 3, 4]) X (c_X0_countFailure l G ad dw df dr de p0 p3 h0) gX0_tryLogin_X0_countFailure rfl rfl rfl (by decide +kernel) ⟨Nat.le_of_ble_eq_true rfl, Nat.le_of_ble_eq_true rfl⟩ dX0_tryLogin_46 rfl rfl (Nat.le_of_ble_eq_true rfl) ⟨Nat.le_of_ble_eq_true rfl, Nat.le_of_ble_eq_true rfl⟩ 0 rfl rfl ⟨rfl, rfl, rfl, rfl, by decide, rfl, rfl⟩ ?_
        refine v_iconst (pc := 49) (v := 2) X dX0_tryLogin_49 (by decide) ?_
        exact v_iret (pc := 50) X hr dX0_tryLogin_50 () (by show (wD G ad dw (f_X0_countFailure_df df p0) (f_X0_countFailure_dr df dr p0 p3) de) = (wD G ad dw (f_X0_tryLogin_df dw df dr p0 p1 p2 p3) (f_X0_tryLogin_dr dw df dr p0 p1 p2 p3) (f_X0_tryLogin_de dw dr de p0 p1 p2 p3)); simp only [f_X0_tryLogin_df, f_X0_tryLogin_dr, f_X0_tryLogin_de, if_pos c_8, if_pos c_20, if_neg c_39]) (by show 2 = (f_X0_tryLogin_r dw dr p0 p1 p2 p3); simp only [f_X0_tryLogin_r, if_pos c_8, if_pos c_20, if_neg c_39])
    · refine v_aload_n (pc := 23) X dX0_tryLogin_23 0 rfl ?_
      refine v_iload_n (pc := 24) X dX0_tryLogin_24 1 rfl ?_
      refine v_iload (pc := 25) X dX0_tryLogin_25 4 rfl ?_
      refine v_uV (pc := 27) (rest := []) (n := 2) (wr := ([] : va_W)) (wn := (wD G ad dw (f_X0_countFailure_df df p0) (f_X0_countFailure_dr df dr p0 p3) de)) (isC := [0, 1, 2, 3, 4]) (isR := []) (isP := [0, 1, 2, 3, 4]) X (c_X0_countFailure l G ad dw df dr de p0 p3 h0) gX0_tryLogin_X0_countFailure rfl rfl rfl (by decide +kernel) ⟨Nat.le_of_ble_eq_true rfl, Nat.le_of_ble_eq_true rfl⟩ dX0_tryLogin_27 rfl rfl (Nat.le_of_ble_eq_true rfl) ⟨Nat.le_of_ble_eq_true rfl, Nat.le_of_ble_eq_true rfl⟩ 0 rfl rfl ⟨rfl, rfl, rfl, rfl, by decide, rfl, rfl⟩ ?_
      refine v_iconst (pc := 30) (v := 1) X dX0_tryLogin_30 (by decide) ?_
      exact v_iret (pc := 31) X hr dX0_tryLogin_31 () (by show (wD G ad dw (f_X0_countFailure_df df p0) (f_X0_countFailure_dr df dr p0 p3) de) = (wD G ad dw (f_X0_tryLogin_df dw df dr p0 p1 p2 p3) (f_X0_tryLogin_dr dw df dr p0 p1 p2 p3) (f_X0_tryLogin_de dw dr de p0 p1 p2 p3)); simp only [f_X0_tryLogin_df, f_X0_tryLogin_dr, f_X0_tryLogin_de, if_pos c_8, if_neg c_20]) (by show 1 = (f_X0_tryLogin_r dw dr p0 p1 p2 p3); simp only [f_X0_tryLogin_r, if_pos c_8, if_neg c_20])
  · refine v_iconst (pc := 11) (v := 3) X dX0_tryLogin_11 (by decide) ?_
    exact v_iret (pc := 12) X hr dX0_tryLogin_12 () (by show (wD G ad dw df dr de) = (wD G ad dw (f_X0_tryLogin_df dw df dr p0 p1 p2 p3) (f_X0_tryLogin_dr dw df dr p0 p1 p2 p3) (f_X0_tryLogin_de dw dr de p0 p1 p2 p3)); simp only [f_X0_tryLogin_df, f_X0_tryLogin_dr, f_X0_tryLogin_de, if_neg c_8]) (by show 3 = (f_X0_tryLogin_r dw dr p0 p1 p2 p3); simp only [f_X0_tryLogin_r, if_neg c_8])
def f_X0_isInSession_r (de : Nat → Int32) (p0 : Int32) (p1 : Int32) : Int32 := (if (de (p0).toNatClampNeg) ≤ p1 then 0 else 1)
set_option maxHeartbeats 4000000 in
set_option maxRecDepth 100000 in
theorem c_X0_isInSession (l : Launch) (G : va_G) (ad : Nat → Nat) (dw : Nat → Int32) (df : Nat → Int32) (dr : Nat → Int32) (de : Nat → Int32) (p0 : Int32) (p1 : Int32) (h0 : vp_in p0 12) : Ke l yX0_isInSession wsX0_isInSession { frames := 0, cells := 0, slots := 0, locals := 0 } 0 0 G (wD G ad dw df dr de) [.ref (ad 0), .int p0, .int p1] (f_X0_isInSession_r de p0 p1) (wD G ad dw df dr de) := by
  refine v_ofi (cc := cX0_isInSession) (nL := 3) (lv := [(0, .ref (ad 0)), (1, .int p0), (2, .int p1)]) (by decide) rfl (Nat.le_of_ble_eq_true rfl) rfl ?_
  intro p e s m args below meth c A X hr
  refine v_iload_n (pc := 0) X dX0_isInSession_0 2 rfl ?_
  refine v_aload_n (pc := 1) X dX0_isInSession_1 0 rfl ?_
  refine v_get (pc := 2) (k := 3) (i := 1) X dX0_isInSession_2 (fun _ h => List.mem_cons_of_mem _ (List.mem_append_right _ h)) 0 rfl rfl (Nat.le_of_ble_eq_true rfl) rfl rfl rfl ?_
  refine v_iload_n (pc := 5) X dX0_isInSession_5 1 rfl ?_
  refine v_iald (pc := 6) X dX0_isInSession_6 4 rfl h0 rfl ?_
  refine v_icmp_ge (pc := 7) X 14 dX0_isInSession_7 (by decide) (fun c_7 => ?_) (fun c_7 => ?_)
  · refine v_iconst (pc := 14) (v := 0) X dX0_isInSession_14 (by decide) ?_
    exact v_zret (pc := 15) X hr rfl dX0_isInSession_15 () rfl (by show 0 = (f_X0_isInSession_r de p0 p1); simp only [f_X0_isInSession_r, if_pos c_7])
  · refine v_iconst (pc := 10) (v := 1) X dX0_isInSession_10 (by decide) ?_
    refine v_goto (pc := 11) X 15 dX0_isInSession_11 (by decide) ?_
    exact v_zret (pc := 15) X hr rfl dX0_isInSession_15 () rfl (by show 1 = (f_X0_isInSession_r de p0 p1); simp only [f_X0_isInSession_r, if_neg c_7])
def f_X0_failuresOf_r (df : Nat → Int32) (p0 : Int32) : Int32 := (df (p0).toNatClampNeg)
set_option maxHeartbeats 4000000 in
set_option maxRecDepth 100000 in
theorem c_X0_failuresOf (l : Launch) (G : va_G) (ad : Nat → Nat) (dw : Nat → Int32) (df : Nat → Int32) (dr : Nat → Int32) (de : Nat → Int32) (p0 : Int32) (h0 : vp_in p0 12) : Ke l yX0_failuresOf wsX0_failuresOf { frames := 0, cells := 0, slots := 0, locals := 0 } 0 0 G (wD G ad dw df dr de) [.ref (ad 0), .int p0] (f_X0_failuresOf_r df p0) (wD G ad dw df dr de) := by
  refine v_ofi (cc := cX0_failuresOf) (nL := 2) (lv := [(0, .ref (ad 0)), (1, .int p0)]) (by decide) rfl (Nat.le_of_ble_eq_true rfl) rfl ?_
  intro p e s m args below meth c A X hr
  refine v_aload_n (pc := 0) X dX0_failuresOf_0 0 rfl ?_
  refine v_get (pc := 1) (k := 1) (i := 1) X dX0_failuresOf_1 (fun _ h => List.mem_cons_of_mem _ (List.mem_append_right _ h)) 0 rfl rfl (Nat.le_of_ble_eq_true rfl) rfl rfl rfl ?_
  refine v_iload_n (pc := 4) X dX0_failuresOf_4 1 rfl ?_
  refine v_iald (pc := 5) X dX0_failuresOf_5 2 rfl h0 rfl ?_
  exact v_iret (pc := 6) X hr dX0_failuresOf_6 () rfl (by show (df (p0).toNatClampNeg) = (f_X0_failuresOf_r df p0); simp only [f_X0_failuresOf_r])
def f_X0_sessionEndOf_r (de : Nat → Int32) (p0 : Int32) : Int32 := (de (p0).toNatClampNeg)
set_option maxHeartbeats 4000000 in
set_option maxRecDepth 100000 in
theorem c_X0_sessionEndOf (l : Launch) (G : va_G) (ad : Nat → Nat) (dw : Nat → Int32) (df : Nat → Int32) (dr : Nat → Int32) (de : Nat → Int32) (p0 : Int32) (h0 : vp_in p0 12) : Ke l yX0_sessionEndOf wsX0_sessionEndOf { frames := 0, cells := 0, slots := 0, locals := 0 } 0 0 G (wD G ad dw df dr de) [.ref (ad 0), .int p0] (f_X0_sessionEndOf_r de p0) (wD G ad dw df dr de) := by
  refine v_ofi (cc := cX0_sessionEndOf) (nL := 2) (lv := [(0, .ref (ad 0)), (1, .int p0)]) (by decide) rfl (Nat.le_of_ble_eq_true rfl) rfl ?_
  intro p e s m args below meth c A X hr
  refine v_aload_n (pc := 0) X dX0_sessionEndOf_0 0 rfl ?_
  refine v_get (pc := 1) (k := 3) (i := 1) X dX0_sessionEndOf_1 (fun _ h => List.mem_cons_of_mem _ (List.mem_append_right _ h)) 0 rfl rfl (Nat.le_of_ble_eq_true rfl) rfl rfl rfl ?_
  refine v_iload_n (pc := 4) X dX0_sessionEndOf_4 1 rfl ?_
  refine v_iald (pc := 5) X dX0_sessionEndOf_5 4 rfl h0 rfl ?_
  exact v_iret (pc := 6) X hr dX0_sessionEndOf_6 () rfl (by show (de (p0).toNatClampNeg) = (f_X0_sessionEndOf_r de p0); simp only [f_X0_sessionEndOf_r])
def f_X0_endsAheadOf_r (de : Nat → Int32) (p0 : Int32) (p1 : Int32) : Int32 := (if (de (p0).toNatClampNeg) = (de (p1).toNatClampNeg) then (if p1 ≤ p0 then 0 else 1) else (if (de (p1).toNatClampNeg) ≤ (de (p0).toNatClampNeg) then 0 else 1))
set_option maxHeartbeats 4000000 in
set_option maxRecDepth 100000 in
theorem c_X0_endsAheadOf (l : Launch) (G : va_G) (ad : Nat → Nat) (dw : Nat → Int32) (df : Nat → Int32) (dr : Nat → Int32) (de : Nat → Int32) (p0 : Int32) (p1 : Int32) (h0 : vp_in p0 12) (h1 : vp_in p1 12) : Ke l yX0_endsAheadOf wsX0_endsAheadOf { frames := 0, cells := 0, slots := 0, locals := 0 } 0 0 G (wD G ad dw df dr de) [.ref (ad 0), .int p0, .int p1] (f_X0_endsAheadOf_r de p0 p1) (wD G ad dw df dr de) := by
  refine v_ofi (cc := cX0_endsAheadOf) (nL := 3) (lv := [(0, .ref (ad 0)), (1, .int p0), (2, .int p1)]) (by decide) rfl (Nat.le_of_ble_eq_true rfl) rfl ?_
  intro p e s m args below meth c A X hr
  refine v_aload_n (pc := 0) X dX0_endsAheadOf_0 0 rfl ?_
  refine v_get (pc := 1) (k := 3) (i := 1) X dX0_endsAheadOf_1 (fun _ h => List.mem_cons_of_mem _ (List.mem_append_right _ h)) 0 rfl rfl (Nat.le_of_ble_eq_true rfl) rfl rfl rfl ?_
  refine v_iload_n (pc := 4) X dX0_endsAheadOf_4 1 rfl ?_
  refine v_iald (pc := 5) X dX0_endsAheadOf_5 4 rfl h0 rfl ?_
  refine v_aload_n (pc := 6) X dX0_endsAheadOf_6 0 rfl ?_
  refine v_get (pc := 7) (k := 3) (i := 1) X dX0_endsAheadOf_7 (fun _ h => List.mem_cons_of_mem _ (List.mem_append_right _ h)) 0 rfl rfl (Nat.le_of_ble_eq_true rfl) rfl rfl rfl ?_
  refine v_iload_n (pc := 10) X dX0_endsAheadOf_10 2 rfl ?_
  refine v_iald (pc := 11) X dX0_endsAheadOf_11 4 rfl h1 rfl ?_
  refine v_icmp_eq (pc := 12) X 36 dX0_endsAheadOf_12 (by decide) (fun c_12 => ?_) (fun c_12 => ?_)
  · refine v_iload_n (pc := 36) X dX0_endsAheadOf_36 1 rfl ?_
    refine v_iload_n (pc := 37) X dX0_endsAheadOf_37 2 rfl ?_
    refine v_icmp_ge (pc := 38) X 45 dX0_endsAheadOf_38 (by decide) (fun c_38 => ?_) (fun c_38 => ?_)
    · refine v_iconst (pc := 45) (v := 0) X dX0_endsAheadOf_45 (by decide) ?_
      exact v_zret (pc := 46) X hr rfl dX0_endsAheadOf_46 () rfl (by show 0 = (f_X0_endsAheadOf_r de p0 p1); simp only [f_X0_endsAheadOf_r, if_pos c_12, if_pos c_38])
    · refine v_iconst (pc := 41) (v := 1) X dX0_endsAheadOf_41 (by decide) ?_
      refine v_goto (pc := 42) X 46 dX0_endsAheadOf_42 (by decide) ?_
      exact v_zret (pc := 46) X hr rfl dX0_endsAheadOf_46 () rfl (by show 1 = (f_X0_endsAheadOf_r de p0 p1); simp only [f_X0_endsAheadOf_r, if_pos c_12, if_neg c_38])
  · refine v_aload_n (pc := 15) X dX0_endsAheadOf_15 0 rfl ?_
    refine v_get (pc := 16) (k := 3) (i := 1) X dX0_endsAheadOf_16 (fun _ h => List.mem_cons_of_mem _ (List.mem_append_right _ h)) 0 rfl rfl (Nat.le_of_ble_eq_true rfl) rfl rfl rfl ?_
    refine v_iload_n (pc := 19) X dX0_endsAheadOf_19 1 rfl ?_
    refine v_iald (pc := 20) X dX0_endsAheadOf_20 4 rfl h0 rfl ?_
    refine v_aload_n (pc := 21) X dX0_endsAheadOf_21 0 rfl ?_
    refine v_get (pc := 22) (k := 3) (i := 1) X dX0_endsAheadOf_22 (fun _ h => List.mem_cons_of_mem _ (List.mem_append_right _ h)) 0 rfl rfl (Nat.le_of_ble_eq_true rfl) rfl rfl rfl ?_
    refine v_iload_n (pc := 25) X dX0_endsAheadOf_25 2 rfl ?_
    refine v_iald (pc := 26) X dX0_endsAheadOf_26 4 rfl h1 rfl ?_
    refine v_icmp_ge (pc := 27) X 34 dX0_endsAheadOf_27 (by decide) (fun c_27 => ?_) (fun c_27 => ?_)
    · refine v_iconst (pc := 34) (v := 0) X dX0_endsAheadOf_34 (by decide) ?_
      exact v_zret (pc := 35) X hr rfl dX0_endsAheadOf_35 () rfl (by show 0 = (f_X0_endsAheadOf_r de p0 p1); simp only [f_X0_endsAheadOf_r, if_neg c_12, if_pos c_27])
    · refine v_iconst (pc := 30) (v := 1) X dX0_endsAheadOf_30 (by decide) ?_
      refine v_goto (pc := 31) X 35 dX0_endsAheadOf_31 (by decide) ?_
      exact v_zret (pc := 35) X hr rfl dX0_endsAheadOf_35 () rfl (by show 1 = (f_X0_endsAheadOf_r de p0 p1); simp only [f_X0_endsAheadOf_r, if_neg c_12, if_neg c_27])
