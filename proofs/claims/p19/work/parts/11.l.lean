theorem nok_ending : ∀ (n : Nat) (x2 nw : Int32) (de : Nat → Int32) (p0 : Int32), FX3_ending_16_k n x2 nw de p0 = 0
  | 0, _, _, _, _ => rfl
  | n + 1, x2, nw, de, p0 => by
    unfold FX3_ending_16_k
    split
    · rfl
    · split
      · exact nok_ending n _ nw de p0
      · split
        · rfl
        · exact nok_ending n _ nw de p0
theorem nok_L_word_1 {nw : Int32} {de : Nat → Int32} {p0 : Int32} {p1 : Int32} (h : (f_X3_word_k nw de p0 p1) = 1) : False := by
  unfold f_X3_word_k at h
  (repeat' split at h) <;> revert h <;> decide
theorem nok_L_word_2 {nw : Int32} {de : Nat → Int32} {p0 : Int32} {p1 : Int32} (h : (f_X3_word_k nw de p0 p1) = 2) : False := by
  unfold f_X3_word_k at h
  (repeat' split at h) <;> revert h <;> decide
theorem nok_L_word_3 {nw : Int32} {de : Nat → Int32} {p0 : Int32} {p1 : Int32} (h : (f_X3_word_k nw de p0 p1) = 3) : False := by
  unfold f_X3_word_k at h
  (repeat' split at h) <;> revert h <;> decide
def f_L_word_r  : Int32 := 0
def f_L_word_dw (nw : Int32) (dw : Nat → Int32) (de : Nat → Int32) (p0 : Int32) (p1 : Int32) : Nat → Int32 := (f_X3_word_dw nw dw de p0 p1)
set_option maxHeartbeats 4000000 in
set_option maxRecDepth 100000 in
theorem c_L_word (l : Launch) (hfl : l.stackTraces = false) (G : va_G) (ag : Nat → Nat) (ad : Nat → Nat) (aT : Nat → Nat) (au : Nat → Nat) (al : Nat → Nat) (kk : Nat → Int32) (kt : Nat → Int32) (nw : Int32) (dw : Nat → Int32) (df : Nat → Int32) (dr : Nat → Int32) (de : Nat → Int32) (th : Nat → Int32) (tr : Nat → Int32) (tm : Nat → Int32) (tb : Nat → Int32) (td : Nat → Int32) (tg : Nat → Int32) (tl : Nat → Int32) (tn : Int32) (uh : Nat → Int32) (ur : Nat → Int32) (um : Nat → Int32) (ub : Nat → Int32) (ud : Nat → Int32) (ug : Nat → Int32) (ul : Nat → Int32) (un : Int32) (lk : Nat → Int32) (lp : Nat → Int32) (lg : Nat → Int32) (lm : Nat → Int32) (ls : Int32) (lv : Int32) (p0 : Int32) (p1 : Int32) : Ke l yL_word wsL_word { frames := 7, cells := 1, slots := 6, locals := 112 } 1 6 G (wG G ag ad aT au al kk kt nw ++ (wD G ad dw df dr de ++ (wT G aT th tr tm tb td tg tl tn ++ (wT G au uh ur um ub ud ug ul un ++ (wL G al lk lp lg lm ls lv))))) [.ref (ag 0), .int p0, .int p1] f_L_word_r (wG G ag ad aT au al kk kt nw ++ (wD G ad (f_L_word_dw nw dw de p0 p1) df dr de ++ (wT G aT th tr tm tb td tg tl tn ++ (wT G au uh ur um ub ud ug ul un ++ (wL G al lk lp lg lm ls lv))))) := by
  refine v_ofhi (cc := cL_word) (nL := 4) (lv := [(0, .ref (ag 0)), (1, .int p0), (2, .int p1)]) (by decide) rfl (Nat.le_of_ble_eq_true rfl) rfl ?_
  intro p e s m args below meth c A X ht hr
  refine v_aload_n (pc := 0) X dL_word_0 0 rfl ?_
  refine v_iload_n (pc := 1) X dL_word_1 1 rfl ?_
  refine v_iload_n (pc := 2) X dL_word_2 2 rfl ?_
  refine v_xcallVv (pc := 3) (rest := []) (n := 2) (wr := ([] : va_W)) (wn := fun _ => (wG G ag ad aT au al kk kt nw ++ (wD G ad (f_X3_word_dw nw dw de p0 p1) df dr de ++ (wT G aT th tr tm tb td tg tl tn ++ (wT G au uh ur um ub ud ug ul un ++ (wL G al lk lp lg lm ls lv)))))) (isC := [0, 1, 2, 3, 4, 5, 6, 7, 8, 9, 10, 11, 12, 13, 14, 15, 16, 17, 18, 19, 20, 21, 22, 23, 24, 25, 26, 27, 28]) (isR := []) (isP := [0, 1, 2, 3, 4, 5, 6, 7, 8, 9, 10, 11, 12, 13, 14, 15, 16, 17, 18, 19, 20, 21, 22, 23, 24, 25, 26, 27, 28]) X (c_X3_word l hfl G ag ad aT au al kk kt nw dw df dr de th tr tm tb td tg tl tn uh ur um ub ud ug ul un lk lp lg lm ls lv p0 p1) gL_word_X3_word rfl rfl rfl (by decide +kernel) ⟨Nat.le_of_ble_eq_true rfl, Nat.le_of_ble_eq_true rfl⟩ dL_word_3 rfl rfl (Nat.le_of_ble_eq_true rfl) ⟨Nat.le_of_ble_eq_true rfl, Nat.le_of_ble_eq_true rfl⟩ 0 rfl rfl ⟨rfl, rfl, rfl, rfl, by decide, rfl, fun _ => rfl⟩ [0, 1, 2, 3, 4, 5, 6, 7, 8, 9, 10, 11, 12, 13, 14, 15, 16, 17, 18, 19, 20, 21, 22, 23, 24, 25, 26, 27, 28] (by decide) rfl (fun E hE => ?_) (fun u9 h9 => ?_)
  · rcases hE with ⟨k1, rfl⟩ | ⟨k2, rfl⟩ | ⟨k3, rfl⟩
    · exact (nok_L_word_1 k1).elim
    · exact (nok_L_word_2 k2).elim
    · exact (nok_L_word_3 k3).elim
  · have k0 := h9
    refine v_iconst (pc := 6) (v := 0) X dL_word_6 (by decide) ?_
    exact v_iret (pc := 7) X hr dL_word_7 () (by show (wG G ag ad aT au al kk kt nw ++ (wD G ad (f_X3_word_dw nw dw de p0 p1) df dr de ++ (wT G aT th tr tm tb td tg tl tn ++ (wT G au uh ur um ub ud ug ul un ++ (wL G al lk lp lg lm ls lv))))) = (wG G ag ad aT au al kk kt nw ++ (wD G ad (f_L_word_dw nw dw de p0 p1) df dr de ++ (wT G aT th tr tm tb td tg tl tn ++ (wT G au uh ur um ub ud ug ul un ++ (wL G al lk lp lg lm ls lv))))); simp only [f_L_word_dw, if_pos k0]) (by show 0 = f_L_word_r; simp only [f_L_word_r, if_pos k0])
theorem nok_L_login_1 {p0 : Int32} {p1 : Int32} {p2 : Int32} (h : (f_X3_login_k p0 p1 p2) = 1) : False := by
  unfold f_X3_login_k at h
  (repeat' split at h) <;> revert h <;> decide
theorem nok_L_login_2 {p0 : Int32} {p1 : Int32} {p2 : Int32} (h : (f_X3_login_k p0 p1 p2) = 2) : False := by
  unfold f_X3_login_k at h
  (repeat' split at h) <;> revert h <;> decide
theorem nok_L_login_3 {p0 : Int32} {p1 : Int32} {p2 : Int32} (h : (f_X3_login_k p0 p1 p2) = 3) : False := by
  unfold f_X3_login_k at h
  (repeat' split at h) <;> revert h <;> decide
def f_L_login_r (nw : Int32) (dw : Nat → Int32) (dr : Nat → Int32) (p0 : Int32) (p1 : Int32) (p2 : Int32) : Int32 := (f_X3_login_r nw dw dr p0 p1 p2)
def f_L_login_df (nw : Int32) (dw : Nat → Int32) (df : Nat → Int32) (dr : Nat → Int32) (p0 : Int32) (p1 : Int32) (p2 : Int32) : Nat → Int32 := (f_X3_login_df nw dw df dr p0 p1 p2)
def f_L_login_dr (nw : Int32) (dw : Nat → Int32) (df : Nat → Int32) (dr : Nat → Int32) (p0 : Int32) (p1 : Int32) (p2 : Int32) : Nat → Int32 := (f_X3_login_dr nw dw df dr p0 p1 p2)
def f_L_login_de (nw : Int32) (dw : Nat → Int32) (dr : Nat → Int32) (de : Nat → Int32) (p0 : Int32) (p1 : Int32) (p2 : Int32) : Nat → Int32 := (f_X3_login_de nw dw dr de p0 p1 p2)
set_option maxHeartbeats 4000000 in
set_option maxRecDepth 100000 in
theorem c_L_login (l : Launch) (hfl : l.stackTraces = false) (G : va_G) (ag : Nat → Nat) (ad : Nat → Nat) (aT : Nat → Nat) (au : Nat → Nat) (al : Nat → Nat) (kk : Nat → Int32) (kt : Nat → Int32) (nw : Int32) (dw : Nat → Int32) (df : Nat → Int32) (dr : Nat → Int32) (de : Nat → Int32) (th : Nat → Int32) (tr : Nat → Int32) (tm : Nat → Int32) (tb : Nat → Int32) (td : Nat → Int32) (tg : Nat → Int32) (tl : Nat → Int32) (tn : Int32) (uh : Nat → Int32) (ur : Nat → Int32) (um : Nat → Int32) (ub : Nat → Int32) (ud : Nat → Int32) (ug : Nat → Int32) (ul : Nat → Int32) (un : Int32) (lk : Nat → Int32) (lp : Nat → Int32) (lg : Nat → Int32) (lm : Nat → Int32) (ls : Int32) (lv : Int32) (p0 : Int32) (p1 : Int32) (p2 : Int32) : Ke l yL_login wsL_login { frames := 7, cells := 1, slots := 6, locals := 113 } 1 6 G (wG G ag ad aT au al kk kt nw ++ (wD G ad dw df dr de ++ (wT G aT th tr tm tb td tg tl tn ++ (wT G au uh ur um ub ud ug ul un ++ (wL G al lk lp lg lm ls lv))))) [.ref (ag 0), .int p0, .int p1, .int p2] (f_L_login_r nw dw dr p0 p1 p2) (wG G ag ad aT au al kk kt nw ++ (wD G ad dw (f_L_login_df nw dw df dr p0 p1 p2) (f_L_login_dr nw dw df dr p0 p1 p2) (f_L_login_de nw dw dr de p0 p1 p2) ++ (wT G aT th tr tm tb td tg tl tn ++ (wT G au uh ur um ub ud ug ul un ++ (wL G al lk lp lg lm ls lv))))) := by
  refine v_ofhi (cc := cL_login) (nL := 5) (lv := [(0, .ref (ag 0)), (1, .int p0), (2, .int p1), (3, .int p2)]) (by decide) rfl (Nat.le_of_ble_eq_true rfl) rfl ?_
  intro p e s m args below meth c A X ht hr
  refine v_aload_n (pc := 0) X dL_login_0 0 rfl ?_
  refine v_iload_n (pc := 1) X dL_login_1 1 rfl ?_
  refine v_iload_n (pc := 2) X dL_login_2 2 rfl ?_
  refine v_iload_n (pc := 3) X dL_login_3 3 rfl ?_
  refine v_xcallVi (pc := 4) (rest := []) (n := 3) (wr := ([] : va_W)) (wn := fun _ => (wG G ag ad aT au al kk kt nw ++ (wD G ad dw (f_X3_login_df nw dw df dr p0 p1 p2) (f_X3_login_dr nw dw df dr p0 p1 p2) (f_X3_login_de nw dw dr de p0 p1 p2) ++ (wT G aT th tr tm tb td tg tl tn ++ (wT G au uh ur um ub ud ug ul un ++ (wL G al lk lp lg lm ls lv)))))) (isC := [0, 1, 2, 3, 4, 5, 6, 7, 8, 9, 10, 11, 12, 13, 14, 15, 16, 17, 18, 19, 20, 21, 22, 23, 24, 25, 26, 27, 28]) (isR := []) (isP := [0, 1, 2, 3, 4, 5, 6, 7, 8, 9, 10, 11, 12, 13, 14, 15, 16, 17, 18, 19, 20, 21, 22, 23, 24, 25, 26, 27, 28]) X (c_X3_login l hfl G ag ad aT au al kk kt nw dw df dr de th tr tm tb td tg tl tn uh ur um ub ud ug ul un lk lp lg lm ls lv p0 p1 p2) gL_login_X3_login rfl rfl rfl (by decide +kernel) ⟨Nat.le_of_ble_eq_true rfl, Nat.le_of_ble_eq_true rfl⟩ dL_login_4 rfl rfl (Nat.le_of_ble_eq_true rfl) ⟨Nat.le_of_ble_eq_true rfl, Nat.le_of_ble_eq_true rfl⟩ 0 rfl rfl ⟨rfl, rfl, rfl, rfl, by decide, rfl, fun _ => rfl⟩ [0, 1, 2, 3, 4, 5, 6, 7, 8, 9, 10, 11, 12, 13, 14, 15, 16, 17, 18, 19, 20, 21, 22, 23, 24, 25, 26, 27, 28] (by decide) rfl (fun E hE => ?_) (fun r9 u9 h9 => ?_)
  · rcases hE with ⟨k1, rfl⟩ | ⟨k2, rfl⟩ | ⟨k3, rfl⟩
    · exact (nok_L_login_1 k1).elim
    · exact (nok_L_login_2 k2).elim
    · exact (nok_L_login_3 k3).elim
  · obtain ⟨k0, rfl⟩ := h9
    exact v_iret (pc := 7) X hr dL_login_7 () (by show (wG G ag ad aT au al kk kt nw ++ (wD G ad dw (f_X3_login_df nw dw df dr p0 p1 p2) (f_X3_login_dr nw dw df dr p0 p1 p2) (f_X3_login_de nw dw dr de p0 p1 p2) ++ (wT G aT th tr tm tb td tg tl tn ++ (wT G au uh ur um ub ud ug ul un ++ (wL G al lk lp lg lm ls lv))))) = (wG G ag ad aT au al kk kt nw ++ (wD G ad dw (f_L_login_df nw dw df dr p0 p1 p2) (f_L_login_dr nw dw df dr p0 p1 p2) (f_L_login_de nw dw dr de p0 p1 p2) ++ (wT G aT th tr tm tb td tg tl tn ++ (wT G au uh ur um ub ud ug ul un ++ (wL G al lk lp lg lm ls lv))))); simp only [f_L_login_df, f_L_login_dr, f_L_login_de, if_pos k0]) (by show (f_X3_login_r nw dw dr p0 p1 p2) = (f_L_login_r nw dw dr p0 p1 p2); simp only [f_L_login_r, if_pos k0])
theorem nok_L_pass_1 {p0 : Int32} (h : (f_X3_pass_k p0) = 1) : False := by
  unfold f_X3_pass_k at h
  (repeat' split at h) <;> revert h <;> decide
theorem nok_L_pass_2 {p0 : Int32} (h : (f_X3_pass_k p0) = 2) : False := by
  unfold f_X3_pass_k at h
  (repeat' split at h) <;> revert h <;> decide
theorem nok_L_pass_3 {p0 : Int32} (h : (f_X3_pass_k p0) = 3) : False := by
  unfold f_X3_pass_k at h
  (repeat' split at h) <;> revert h <;> decide
def f_L_pass_r (nw : Int32) (p0 : Int32) : Int32 := (f_X3_pass_r nw p0)
def f_L_pass_nw (nw : Int32) (p0 : Int32) : Int32 := (f_X3_pass_nw nw p0)
set_option maxHeartbeats 4000000 in
set_option maxRecDepth 100000 in
theorem c_L_pass (l : Launch) (hfl : l.stackTraces = false) (G : va_G) (ag : Nat → Nat) (ad : Nat → Nat) (aT : Nat → Nat) (au : Nat → Nat) (al : Nat → Nat) (kk : Nat → Int32) (kt : Nat → Int32) (nw : Int32) (dw : Nat → Int32) (df : Nat → Int32) (dr : Nat → Int32) (de : Nat → Int32) (th : Nat → Int32) (tr : Nat → Int32) (tm : Nat → Int32) (tb : Nat → Int32) (td : Nat → Int32) (tg : Nat → Int32) (tl : Nat → Int32) (tn : Int32) (uh : Nat → Int32) (ur : Nat → Int32) (um : Nat → Int32) (ub : Nat → Int32) (ud : Nat → Int32) (ug : Nat → Int32) (ul : Nat → Int32) (un : Int32) (lk : Nat → Int32) (lp : Nat → Int32) (lg : Nat → Int32) (lm : Nat → Int32) (ls : Int32) (lv : Int32) (p0 : Int32) : Ke l yL_pass wsL_pass { frames := 7, cells := 1, slots := 6, locals := 111 } 1 6 G (wG G ag ad aT au al kk kt nw ++ (wD G ad dw df dr de ++ (wT G aT th tr tm tb td tg tl tn ++ (wT G au uh ur um ub ud ug ul un ++ (wL G al lk lp lg lm ls lv))))) [.ref (ag 0), .int p0] (f_L_pass_r nw p0) (wG G ag ad aT au al kk kt (f_L_pass_nw nw p0) ++ (wD G ad dw df dr de ++ (wT G aT th tr tm tb td tg tl tn ++ (wT G au uh ur um ub ud ug ul un ++ (wL G al lk lp lg lm ls lv))))) := by
  refine v_ofhi (cc := cL_pass) (nL := 3) (lv := [(0, .ref (ag 0)), (1, .int p0)]) (by decide) rfl (Nat.le_of_ble_eq_true rfl) rfl ?_
  intro p e s m args below meth c A X ht hr
  refine v_aload_n (pc := 0) X dL_pass_0 0 rfl ?_
  refine v_iload_n (pc := 1) X dL_pass_1 1 rfl ?_
  refine v_xcallVi (pc := 2) (rest := []) (n := 1) (wr := ([] : va_W)) (wn := fun _ => (wG G ag ad aT au al kk kt (f_X3_pass_nw nw p0) ++ (wD G ad dw df dr de ++ (wT G aT th tr tm tb td tg tl tn ++ (wT G au uh ur um ub ud ug ul un ++ (wL G al lk lp lg lm ls lv)))))) (isC := [0, 1, 2, 3, 4, 5, 6, 7, 8, 9, 10, 11, 12, 13, 14, 15, 16, 17, 18, 19, 20, 21, 22, 23, 24, 25, 26, 27, 28]) (isR := []) (isP := [0, 1, 2, 3, 4, 5, 6, 7, 8, 9, 10, 11, 12, 13, 14, 15, 16, 17, 18, 19, 20, 21, 22, 23, 24, 25, 26, 27, 28]) X (c_X3_pass l hfl G ag ad aT au al kk kt nw dw df dr de th tr tm tb td tg tl tn uh ur um ub ud ug ul un lk lp lg lm ls lv p0) gL_pass_X3_pass rfl rfl rfl (by decide +kernel) ⟨Nat.le_of_ble_eq_true rfl, Nat.le_of_ble_eq_true rfl⟩ dL_pass_2 rfl rfl (Nat.le_of_ble_eq_true rfl) ⟨Nat.le_of_ble_eq_true rfl, Nat.le_of_ble_eq_true rfl⟩ 0 rfl rfl ⟨rfl, rfl, rfl, rfl, by decide, rfl, fun _ => rfl⟩ [0, 1, 2, 3, 4, 5, 6, 7, 8, 9, 10, 11, 12, 13, 14, 15, 16, 17, 18, 19, 20, 21, 22, 23, 24, 25, 26, 27, 28] (by decide) rfl (fun E hE => ?_) (fun r9 u9 h9 => ?_)
  · rcases hE with ⟨k1, rfl⟩ | ⟨k2, rfl⟩ | ⟨k3, rfl⟩
    · exact (nok_L_pass_1 k1).elim
    · exact (nok_L_pass_2 k2).elim
    · exact (nok_L_pass_3 k3).elim
  · obtain ⟨k0, rfl⟩ := h9
    exact v_iret (pc := 5) X hr dL_pass_5 () (by show (wG G ag ad aT au al kk kt (f_X3_pass_nw nw p0) ++ (wD G ad dw df dr de ++ (wT G aT th tr tm tb td tg tl tn ++ (wT G au uh ur um ub ud ug ul un ++ (wL G al lk lp lg lm ls lv))))) = (wG G ag ad aT au al kk kt (f_L_pass_nw nw p0) ++ (wD G ad dw df dr de ++ (wT G aT th tr tm tb td tg tl tn ++ (wT G au uh ur um ub ud ug ul un ++ (wL G al lk lp lg lm ls lv))))); simp only [f_L_pass_nw, if_pos k0]) (by show (f_X3_pass_r nw p0) = (f_L_pass_r nw p0); simp only [f_L_pass_r, if_pos k0])
theorem nok_L_vouch_1 {nw : Int32} {de : Nat → Int32} {th : Nat → Int32} {td : Nat → Int32} {tl : Nat → Int32} {lv : Int32} {p0 : Int32} {p1 : Int32} {p2 : Int32} (h : (f_X3_vouch_k nw de th td tl lv p0 p1 p2) = 1) : False := by
  unfold f_X3_vouch_k at h
  (repeat' split at h) <;> revert h <;> decide
theorem nok_L_vouch_2 {nw : Int32} {de : Nat → Int32} {th : Nat → Int32} {td : Nat → Int32} {tl : Nat → Int32} {lv : Int32} {p0 : Int32} {p1 : Int32} {p2 : Int32} (h : (f_X3_vouch_k nw de th td tl lv p0 p1 p2) = 2) : False := by
  unfold f_X3_vouch_k at h
  (repeat' split at h) <;> revert h <;> decide
theorem nok_L_vouch_3 {nw : Int32} {de : Nat → Int32} {th : Nat → Int32} {td : Nat → Int32} {tl : Nat → Int32} {lv : Int32} {p0 : Int32} {p1 : Int32} {p2 : Int32} (h : (f_X3_vouch_k nw de th td tl lv p0 p1 p2) = 3) : False := by
  unfold f_X3_vouch_k at h
  (repeat' split at h) <;> revert h <;> decide
def f_L_vouch_r (nw : Int32) (de : Nat → Int32) (th : Nat → Int32) (td : Nat → Int32) (tl : Nat → Int32) (lv : Int32) (p0 : Int32) (p1 : Int32) (p2 : Int32) : Int32 := (f_X3_vouch_r nw de th td tl lv p0 p1 p2)
def f_L_vouch_th (nw : Int32) (de : Nat → Int32) (th : Nat → Int32) (td : Nat → Int32) (tl : Nat → Int32) (lv : Int32) (p0 : Int32) (p1 : Int32) (p2 : Int32) : Nat → Int32 := (f_X3_vouch_th nw de th td tl lv p0 p1 p2)
def f_L_vouch_tr (nw : Int32) (de : Nat → Int32) (th : Nat → Int32) (tr : Nat → Int32) (td : Nat → Int32) (tl : Nat → Int32) (lv : Int32) (p0 : Int32) (p1 : Int32) (p2 : Int32) : Nat → Int32 := (f_X3_vouch_tr nw de th tr td tl lv p0 p1 p2)
def f_L_vouch_tm (nw : Int32) (de : Nat → Int32) (th : Nat → Int32) (tm : Nat → Int32) (td : Nat → Int32) (tl : Nat → Int32) (lv : Int32) (p0 : Int32) (p1 : Int32) (p2 : Int32) : Nat → Int32 := (f_X3_vouch_tm nw de th tm td tl lv p0 p1 p2)
def f_L_vouch_tb (nw : Int32) (de : Nat → Int32) (th : Nat → Int32) (tb : Nat → Int32) (td : Nat → Int32) (tg : Nat → Int32) (tl : Nat → Int32) (lv : Int32) (p0 : Int32) (p1 : Int32) (p2 : Int32) : Nat → Int32 := (f_X3_vouch_tb nw de th tb td tg tl lv p0 p1 p2)
def f_L_vouch_td (nw : Int32) (de : Nat → Int32) (th : Nat → Int32) (td : Nat → Int32) (tl : Nat → Int32) (lv : Int32) (p0 : Int32) (p1 : Int32) (p2 : Int32) : Nat → Int32 := (f_X3_vouch_td nw de th td tl lv p0 p1 p2)
def f_L_vouch_lk (nw : Int32) (de : Nat → Int32) (th : Nat → Int32) (td : Nat → Int32) (tl : Nat → Int32) (lk : Nat → Int32) (ls : Int32) (lv : Int32) (p0 : Int32) (p1 : Int32) (p2 : Int32) : Nat → Int32 := (f_X3_vouch_lk nw de th td tl lk ls lv p0 p1 p2)
def f_L_vouch_lp (nw : Int32) (de : Nat → Int32) (th : Nat → Int32) (td : Nat → Int32) (tl : Nat → Int32) (lp : Nat → Int32) (ls : Int32) (lv : Int32) (p0 : Int32) (p1 : Int32) (p2 : Int32) : Nat → Int32 := (f_X3_vouch_lp nw de th td tl lp ls lv p0 p1 p2)
def f_L_vouch_lg (nw : Int32) (de : Nat → Int32) (th : Nat → Int32) (td : Nat → Int32) (tl : Nat → Int32) (lg : Nat → Int32) (ls : Int32) (lv : Int32) (p0 : Int32) (p1 : Int32) (p2 : Int32) : Nat → Int32 := (f_X3_vouch_lg nw de th td tl lg ls lv p0 p1 p2)
def f_L_vouch_lm (nw : Int32) (de : Nat → Int32) (th : Nat → Int32) (td : Nat → Int32) (tl : Nat → Int32) (lm : Nat → Int32) (ls : Int32) (lv : Int32) (p0 : Int32) (p1 : Int32) (p2 : Int32) : Nat → Int32 := (f_X3_vouch_lm nw de th td tl lm ls lv p0 p1 p2)
def f_L_vouch_ls (nw : Int32) (de : Nat → Int32) (th : Nat → Int32) (td : Nat → Int32) (tl : Nat → Int32) (ls : Int32) (lv : Int32) (p0 : Int32) (p1 : Int32) (p2 : Int32) : Int32 := (f_X3_vouch_ls nw de th td tl ls lv p0 p1 p2)
def f_L_vouch_lv (nw : Int32) (de : Nat → Int32) (th : Nat → Int32) (td : Nat → Int32) (tl : Nat → Int32) (lv : Int32) (p0 : Int32) (p1 : Int32) (p2 : Int32) : Int32 := (f_X3_vouch_lv nw de th td tl lv p0 p1 p2)
set_option maxHeartbeats 4000000 in
set_option maxRecDepth 100000 in
theorem c_L_vouch (l : Launch) (hfl : l.stackTraces = false) (G : va_G) (ag : Nat → Nat) (ad : Nat → Nat) (aT : Nat → Nat) (au : Nat → Nat) (al : Nat → Nat) (kk : Nat → Int32) (kt : Nat → Int32) (nw : Int32) (dw : Nat → Int32) (df : Nat → Int32) (dr : Nat → Int32) (de : Nat → Int32) (th : Nat → Int32) (tr : Nat → Int32) (tm : Nat → Int32) (tb : Nat → Int32) (td : Nat → Int32) (tg : Nat → Int32) (tl : Nat → Int32) (tn : Int32) (uh : Nat → Int32) (ur : Nat → Int32) (um : Nat → Int32) (ub : Nat → Int32) (ud : Nat → Int32) (ug : Nat → Int32) (ul : Nat → Int32) (un : Int32) (lk : Nat → Int32) (lp : Nat → Int32) (lg : Nat → Int32) (lm : Nat → Int32) (ls : Int32) (lv : Int32) (p0 : Int32) (p1 : Int32) (p2 : Int32) (hth : ∀ j : Nat, j < 12 → inN (th j)) (hls : ¬ ls < 0) : Ke l yL_vouch wsL_vouch { frames := 7, cells := 1, slots := 6, locals := 113 } 1 6 G (wG G ag ad aT au al kk kt nw ++ (wD G ad dw df dr de ++ (wT G aT th tr tm tb td tg tl tn ++ (wT G au uh ur um ub ud ug ul un ++ (wL G al lk lp lg lm ls lv))))) [.ref (ag 0), .int p0, .int p1, .int p2] (f_L_vouch_r nw de th td tl lv p0 p1 p2) (wG G ag ad aT au al kk kt nw ++ (wD G ad dw df dr de ++ (wT G aT (f_L_vouch_th nw de th td tl lv p0 p1 p2) (f_L_vouch_tr nw de th tr td tl lv p0 p1 p2) (f_L_vouch_tm nw de th tm td tl lv p0 p1 p2) (f_L_vouch_tb nw de th tb td tg tl lv p0 p1 p2) (f_L_vouch_td nw de th td tl lv p0 p1 p2) tg tl tn ++ (wT G au uh ur um ub ud ug ul un ++ (wL G al (f_L_vouch_lk nw de th td tl lk ls lv p0 p1 p2) (f_L_vouch_lp nw de th td tl lp ls lv p0 p1 p2) (f_L_vouch_lg nw de th td tl lg ls lv p0 p1 p2) (f_L_vouch_lm nw de th td tl lm ls lv p0 p1 p2) (f_L_vouch_ls nw de th td tl ls lv p0 p1 p2) (f_L_vouch_lv nw de th td tl lv p0 p1 p2)))))) := by
  refine v_ofhi (cc := cL_vouch) (nL := 5) (lv := [(0, .ref (ag 0)), (1, .int p0), (2, .int p1), (3, .int p2)]) (by decide) rfl (Nat.le_of_ble_eq_true rfl) rfl ?_
  intro p e s m args below meth c A X ht hr
  refine v_aload_n (pc := 0) X dL_vouch_0 0 rfl ?_
  refine v_iload_n (pc := 1) X dL_vouch_1 1 rfl ?_
  refine v_iload_n (pc := 2) X dL_vouch_2 2 rfl ?_
  refine v_iload_n (pc := 3) X dL_vouch_3 3 rfl ?_
  refine v_xcallVi (pc := 4) (rest := []) (n := 3) (wr := ([] : va_W)) (wn := fun _ => (wG G ag ad aT au al kk kt nw ++ (wD G ad dw df dr de ++ (wT G aT (f_X3_vouch_th nw de th td tl lv p0 p1 p2) (f_X3_vouch_tr nw de th tr td tl lv p0 p1 p2) (f_X3_vouch_tm nw de th tm td tl lv p0 p1 p2) (f_X3_vouch_tb nw de th tb td tg tl lv p0 p1 p2) (f_X3_vouch_td nw de th td tl lv p0 p1 p2) tg tl tn ++ (wT G au uh ur um ub ud ug ul un ++ (wL G al (f_X3_vouch_lk nw de th td tl lk ls lv p0 p1 p2) (f_X3_vouch_lp nw de th td tl lp ls lv p0 p1 p2) (f_X3_vouch_lg nw de th td tl lg ls lv p0 p1 p2) (f_X3_vouch_lm nw de th td tl lm ls lv p0 p1 p2) (f_X3_vouch_ls nw de th td tl ls lv p0 p1 p2) (f_X3_vouch_lv nw de th td tl lv p0 p1 p2))))))) (isC := [0, 1, 2, 3, 4, 5, 6, 7, 8, 9, 10, 11, 12, 13, 14, 15, 16, 17, 18, 19, 20, 21, 22, 23, 24, 25, 26, 27, 28]) (isR := []) (isP := [0, 1, 2, 3, 4, 5, 6, 7, 8, 9, 10, 11, 12, 13, 14, 15, 16, 17, 18, 19, 20, 21, 22, 23, 24, 25, 26, 27, 28]) X (c_X3_vouch l hfl G ag ad aT au al kk kt nw dw df dr de th tr tm tb td tg tl tn uh ur um ub ud ug ul un lk lp lg lm ls lv p0 p1 p2 hth hls) gL_vouch_X3_vouch rfl rfl rfl (by decide +kernel) ⟨Nat.le_of_ble_eq_true rfl, Nat.le_of_ble_eq_true rfl⟩ dL_vouch_4 rfl rfl (Nat.le_of_ble_eq_true rfl) ⟨Nat.le_of_ble_eq_true rfl, Nat.le_of_ble_eq_true rfl⟩ 0 rfl rfl ⟨rfl, rfl, rfl, rfl, by decide, rfl, fun _ => rfl⟩ [0, 1, 2, 3, 4, 5, 6, 7, 8, 9, 10, 11, 12, 13, 14, 15, 16, 17, 18, 19, 20, 21, 22, 23, 24, 25, 26, 27, 28] (by decide) rfl (fun E hE => ?_) (fun r9 u9 h9 => ?_)
  · rcases hE with ⟨k1, rfl⟩ | ⟨k2, rfl⟩ | ⟨k3, rfl⟩
    · exact (nok_L_vouch_1 k1).elim
    · exact (nok_L_vouch_2 k2).elim
    · exact (nok_L_vouch_3 k3).elim
  · obtain ⟨k0, rfl⟩ := h9
    exact v_iret (pc := 7) X hr dL_vouch_7 () (by show (wG G ag ad aT au al kk kt nw ++ (wD G ad dw df dr de ++ (wT G aT (f_X3_vouch_th nw de th td tl lv p0 p1 p2) (f_X3_vouch_tr nw de th tr td tl lv p0 p1 p2) (f_X3_vouch_tm nw de th tm td tl lv p0 p1 p2) (f_X3_vouch_tb nw de th tb td tg tl lv p0 p1 p2) (f_X3_vouch_td nw de th td tl lv p0 p1 p2) tg tl tn ++ (wT G au uh ur um ub ud ug ul un ++ (wL G al (f_X3_vouch_lk nw de th td tl lk ls lv p0 p1 p2) (f_X3_vouch_lp nw de th td tl lp ls lv p0 p1 p2) (f_X3_vouch_lg nw de th td tl lg ls lv p0 p1 p2) (f_X3_vouch_lm nw de th td tl lm ls lv p0 p1 p2) (f_X3_vouch_ls nw de th td tl ls lv p0 p1 p2) (f_X3_vouch_lv nw de th td tl lv p0 p1 p2)))))) = (wG G ag ad aT au al kk kt nw ++ (wD G ad dw df dr de ++ (wT G aT (f_L_vouch_th nw de th td tl lv p0 p1 p2) (f_L_vouch_tr nw de th tr td tl lv p0 p1 p2) (f_L_vouch_tm nw de th tm td tl lv p0 p1 p2) (f_L_vouch_tb nw de th tb td tg tl lv p0 p1 p2) (f_L_vouch_td nw de th td tl lv p0 p1 p2) tg tl tn ++ (wT G au uh ur um ub ud ug ul un ++ (wL G al (f_L_vouch_lk nw de th td tl lk ls lv p0 p1 p2) (f_L_vouch_lp nw de th td tl lp ls lv p0 p1 p2) (f_L_vouch_lg nw de th td tl lg ls lv p0 p1 p2) (f_L_vouch_lm nw de th td tl lm ls lv p0 p1 p2) (f_L_vouch_ls nw de th td tl ls lv p0 p1 p2) (f_L_vouch_lv nw de th td tl lv p0 p1 p2)))))); simp only [f_L_vouch_th, f_L_vouch_tr, f_L_vouch_tm, f_L_vouch_tb, f_L_vouch_td, f_L_vouch_lk, f_L_vouch_lp, f_L_vouch_lg, f_L_vouch_lm, f_L_vouch_ls, f_L_vouch_lv, if_pos k0]) (by show (f_X3_vouch_r nw de th td tl lv p0 p1 p2) = (f_L_vouch_r nw de th td tl lv p0 p1 p2); simp only [f_L_vouch_r, if_pos k0])
theorem nok_L_end_1 {th : Nat → Int32} {p0 : Int32} (h : (f_X3_end_k th p0) = 1) : False := by
  unfold f_X3_end_k at h
  (repeat' split at h) <;> revert h <;> decide
theorem nok_L_end_2 {th : Nat → Int32} {p0 : Int32} (h : (f_X3_end_k th p0) = 2) : False := by
  unfold f_X3_end_k at h
  (repeat' split at h) <;> revert h <;> decide
theorem nok_L_end_3 {th : Nat → Int32} {p0 : Int32} (h : (f_X3_end_k th p0) = 3) : False := by
  unfold f_X3_end_k at h
  (repeat' split at h) <;> revert h <;> decide
def f_L_end_r (th : Nat → Int32) (p0 : Int32) : Int32 := (f_X3_end_r th p0)
def f_L_end_th (th : Nat → Int32) (p0 : Int32) : Nat → Int32 := (f_X3_end_th th p0)
def f_L_end_td (th : Nat → Int32) (td : Nat → Int32) (p0 : Int32) : Nat → Int32 := (f_X3_end_td th td p0)
def f_L_end_lk (th : Nat → Int32) (lk : Nat → Int32) (ls : Int32) (p0 : Int32) : Nat → Int32 := (f_X3_end_lk th lk ls p0)
def f_L_end_lp (th : Nat → Int32) (lp : Nat → Int32) (ls : Int32) (p0 : Int32) : Nat → Int32 := (f_X3_end_lp th lp ls p0)
def f_L_end_lg (th : Nat → Int32) (lg : Nat → Int32) (ls : Int32) (p0 : Int32) : Nat → Int32 := (f_X3_end_lg th lg ls p0)
def f_L_end_lm (th : Nat → Int32) (lm : Nat → Int32) (ls : Int32) (p0 : Int32) : Nat → Int32 := (f_X3_end_lm th lm ls p0)
def f_L_end_ls (th : Nat → Int32) (ls : Int32) (p0 : Int32) : Int32 := (f_X3_end_ls th ls p0)
set_option maxHeartbeats 4000000 in
set_option maxRecDepth 100000 in
theorem c_L_end (l : Launch) (hfl : l.stackTraces = false) (G : va_G) (ag : Nat → Nat) (ad : Nat → Nat) (aT : Nat → Nat) (au : Nat → Nat) (al : Nat → Nat) (kk : Nat → Int32) (kt : Nat → Int32) (nw : Int32) (dw : Nat → Int32) (df : Nat → Int32) (dr : Nat → Int32) (de : Nat → Int32) (th : Nat → Int32) (tr : Nat → Int32) (tm : Nat → Int32) (tb : Nat → Int32) (td : Nat → Int32) (tg : Nat → Int32) (tl : Nat → Int32) (tn : Int32) (uh : Nat → Int32) (ur : Nat → Int32) (um : Nat → Int32) (ub : Nat → Int32) (ud : Nat → Int32) (ug : Nat → Int32) (ul : Nat → Int32) (un : Int32) (lk : Nat → Int32) (lp : Nat → Int32) (lg : Nat → Int32) (lm : Nat → Int32) (ls : Int32) (lv : Int32) (p0 : Int32) (hls : ¬ ls < 0) : Ke l yL_end wsL_end { frames := 7, cells := 1, slots := 6, locals := 112 } 1 6 G (wG G ag ad aT au al kk kt nw ++ (wD G ad dw df dr de ++ (wT G aT th tr tm tb td tg tl tn ++ (wT G au uh ur um ub ud ug ul un ++ (wL G al lk lp lg lm ls lv))))) [.ref (ag 0), .int p0] (f_L_end_r th p0) (wG G ag ad aT au al kk kt nw ++ (wD G ad dw df dr de ++ (wT G aT (f_L_end_th th p0) tr tm tb (f_L_end_td th td p0) tg tl tn ++ (wT G au uh ur um ub ud ug ul un ++ (wL G al (f_L_end_lk th lk ls p0) (f_L_end_lp th lp ls p0) (f_L_end_lg th lg ls p0) (f_L_end_lm th lm ls p0) (f_L_end_ls th ls p0) lv))))) := by
  refine v_ofhi (cc := cL_end) (nL := 3) (lv := [(0, .ref (ag 0)), (1, .int p0)]) (by decide) rfl (Nat.le_of_ble_eq_true rfl) rfl ?_
  intro p e s m args below meth c A X ht hr
  refine v_aload_n (pc := 0) X dL_end_0 0 rfl ?_
  refine v_iload_n (pc := 1) X dL_end_1 1 rfl ?_
  refine v_xcallVi (pc := 2) (rest := []) (n := 1) (wr := ([] : va_W)) (wn := fun _ => (wG G ag ad aT au al kk kt nw ++ (wD G ad dw df dr de ++ (wT G aT (f_X3_end_th th p0) tr tm tb (f_X3_end_td th td p0) tg tl tn ++ (wT G au uh ur um ub ud ug ul un ++ (wL G al (f_X3_end_lk th lk ls p0) (f_X3_end_lp th lp ls p0) (f_X3_end_lg th lg ls p0) (f_X3_end_lm th lm ls p0) (f_X3_end_ls th ls p0) lv)))))) (isC := [0, 1, 2, 3, 4, 5, 6, 7, 8, 9, 10, 11, 12, 13, 14, 15, 16, 17, 18, 19, 20, 21, 22, 23, 24, 25, 26, 27, 28]) (isR := []) (isP := [0, 1, 2, 3, 4, 5, 6, 7, 8, 9, 10, 11, 12, 13, 14, 15, 16, 17, 18, 19, 20, 21, 22, 23, 24, 25, 26, 27, 28]) X (c_X3_end l hfl G ag ad aT au al kk kt nw dw df dr de th tr tm tb td tg tl tn uh ur um ub ud ug ul un lk lp lg lm ls lv p0 hls) gL_end_X3_end rfl rfl rfl (by decide +kernel) ⟨Nat.le_of_ble_eq_true rfl, Nat.le_of_ble_eq_true rfl⟩ dL_end_2 rfl rfl (Nat.le_of_ble_eq_true rfl) ⟨Nat.le_of_ble_eq_true rfl, Nat.le_of_ble_eq_true rfl⟩ 0 rfl rfl ⟨rfl, rfl, rfl, rfl, by decide, rfl, fun _ => rfl⟩ [0, 1, 2, 3, 4, 5, 6, 7, 8, 9, 10, 11, 12, 13, 14, 15, 16, 17, 18, 19, 20, 21, 22, 23, 24, 25, 26, 27, 28] (by decide) rfl (fun E hE => ?_) (fun r9 u9 h9 => ?_)
  · rcases hE with ⟨k1, rfl⟩ | ⟨k2, rfl⟩ | ⟨k3, rfl⟩
    · exact (nok_L_end_1 k1).elim
    · exact (nok_L_end_2 k2).elim
    · exact (nok_L_end_3 k3).elim
  · obtain ⟨k0, rfl⟩ := h9
    exact v_iret (pc := 5) X hr dL_end_5 () (by show (wG G ag ad aT au al kk kt nw ++ (wD G ad dw df dr de ++ (wT G aT (f_X3_end_th th p0) tr tm tb (f_X3_end_td th td p0) tg tl tn ++ (wT G au uh ur um ub ud ug ul un ++ (wL G al (f_X3_end_lk th lk ls p0) (f_X3_end_lp th lp ls p0) (f_X3_end_lg th lg ls p0) (f_X3_end_lm th lm ls p0) (f_X3_end_ls th ls p0) lv))))) = (wG G ag ad aT au al kk kt nw ++ (wD G ad dw df dr de ++ (wT G aT (f_L_end_th th p0) tr tm tb (f_L_end_td th td p0) tg tl tn ++ (wT G au uh ur um ub ud ug ul un ++ (wL G al (f_L_end_lk th lk ls p0) (f_L_end_lp th lp ls p0) (f_L_end_lg th lg ls p0) (f_L_end_lm th lm ls p0) (f_L_end_ls th ls p0) lv))))); simp only [f_L_end_th, f_L_end_td, f_L_end_lk, f_L_end_lp, f_L_end_lg, f_L_end_lm, f_L_end_ls, if_pos k0]) (by show (f_X3_end_r th p0) = (f_L_end_r th p0); simp only [f_L_end_r, if_pos k0])
theorem nok_L_lose_1 {nw : Int32} {p0 : Int32} {p1 : Int32} (h : (f_X3_lose_k nw p0 p1) = 1) : False := by
  unfold f_X3_lose_k at h
  (repeat' split at h) <;> revert h <;> decide
theorem nok_L_lose_2 {nw : Int32} {p0 : Int32} {p1 : Int32} (h : (f_X3_lose_k nw p0 p1) = 2) : False := by
  unfold f_X3_lose_k at h
  (repeat' split at h) <;> revert h <;> decide
theorem nok_L_lose_3 {nw : Int32} {p0 : Int32} {p1 : Int32} (h : (f_X3_lose_k nw p0 p1) = 3) : False := by
  unfold f_X3_lose_k at h
  (repeat' split at h) <;> revert h <;> decide
def f_L_lose_r (nw : Int32) (th : Nat → Int32) (tm : Nat → Int32) (tb : Nat → Int32) (td : Nat → Int32) (tg : Nat → Int32) (tl : Nat → Int32) (p0 : Int32) (p1 : Int32) : Int32 := (f_X3_lose_r nw th tm tb td tg tl p0 p1)
def f_L_lose_td (nw : Int32) (th : Nat → Int32) (tm : Nat → Int32) (tb : Nat → Int32) (td : Nat → Int32) (tg : Nat → Int32) (p0 : Int32) (p1 : Int32) : Nat → Int32 := (f_X3_lose_td nw th tm tb td tg p0 p1)
def f_L_lose_tl (nw : Int32) (tl : Nat → Int32) (p0 : Int32) (p1 : Int32) : Nat → Int32 := (f_X3_lose_tl nw tl p0 p1)
def f_L_lose_lk (nw : Int32) (lk : Nat → Int32) (ls : Int32) (p0 : Int32) (p1 : Int32) : Nat → Int32 := (f_X3_lose_lk nw lk ls p0 p1)
def f_L_lose_lp (nw : Int32) (lp : Nat → Int32) (ls : Int32) (p0 : Int32) (p1 : Int32) : Nat → Int32 := (f_X3_lose_lp nw lp ls p0 p1)
def f_L_lose_lg (nw : Int32) (lg : Nat → Int32) (ls : Int32) (p0 : Int32) (p1 : Int32) : Nat → Int32 := (f_X3_lose_lg nw lg ls p0 p1)
def f_L_lose_lm (nw : Int32) (lm : Nat → Int32) (ls : Int32) (p0 : Int32) (p1 : Int32) : Nat → Int32 := (f_X3_lose_lm nw lm ls p0 p1)
def f_L_lose_ls (nw : Int32) (ls : Int32) (p0 : Int32) (p1 : Int32) : Int32 := (f_X3_lose_ls nw ls p0 p1)
set_option maxHeartbeats 4000000 in
set_option maxRecDepth 100000 in
theorem c_L_lose (l : Launch) (hfl : l.stackTraces = false) (G : va_G) (ag : Nat → Nat) (ad : Nat → Nat) (aT : Nat → Nat) (au : Nat → Nat) (al : Nat → Nat) (kk : Nat → Int32) (kt : Nat → Int32) (nw : Int32) (dw : Nat → Int32) (df : Nat → Int32) (dr : Nat → Int32) (de : Nat → Int32) (th : Nat → Int32) (tr : Nat → Int32) (tm : Nat → Int32) (tb : Nat → Int32) (td : Nat → Int32) (tg : Nat → Int32) (tl : Nat → Int32) (tn : Int32) (uh : Nat → Int32) (ur : Nat → Int32) (um : Nat → Int32) (ub : Nat → Int32) (ud : Nat → Int32) (ug : Nat → Int32) (ul : Nat → Int32) (un : Int32) (lk : Nat → Int32) (lp : Nat → Int32) (lg : Nat → Int32) (lm : Nat → Int32) (ls : Int32) (lv : Int32) (p0 : Int32) (p1 : Int32) (hth : ∀ j : Nat, j < 12 → inN (th j)) (hls : ¬ ls < 0) : Ke l yL_lose wsL_lose { frames := 7, cells := 1, slots := 6, locals := 112 } 1 6 G (wG G ag ad aT au al kk kt nw ++ (wD G ad dw df dr de ++ (wT G aT th tr tm tb td tg tl tn ++ (wT G au uh ur um ub ud ug ul un ++ (wL G al lk lp lg lm ls lv))))) [.ref (ag 0), .int p0, .int p1] (f_L_lose_r nw th tm tb td tg tl p0 p1) (wG G ag ad aT au al kk kt nw ++ (wD G ad dw df dr de ++ (wT G aT th tr tm tb (f_L_lose_td nw th tm tb td tg p0 p1) tg (f_L_lose_tl nw tl p0 p1) tn ++ (wT G au uh ur um ub ud ug ul un ++ (wL G al (f_L_lose_lk nw lk ls p0 p1) (f_L_lose_lp nw lp ls p0 p1) (f_L_lose_lg nw lg ls p0 p1) (f_L_lose_lm nw lm ls p0 p1) (f_L_lose_ls nw ls p0 p1) lv))))) := by
  refine v_ofhi (cc := cL_lose) (nL := 4) (lv := [(0, .ref (ag 0)), (1, .int p0), (2, .int p1)]) (by decide) rfl (Nat.le_of_ble_eq_true rfl) rfl ?_
  intro p e s m args below meth c A X ht hr
  refine v_aload_n (pc := 0) X dL_lose_0 0 rfl ?_
  refine v_iload_n (pc := 1) X dL_lose_1 1 rfl ?_
  refine v_iload_n (pc := 2) X dL_lose_2 2 rfl ?_
  refine v_xcallVi (pc := 3) (rest := []) (n := 2) (wr := ([] : va_W)) (wn := fun _ => (wG G ag ad aT au al kk kt nw ++ (wD G ad dw df dr de ++ (wT G aT th tr tm tb (f_X3_lose_td nw th tm tb td tg p0 p1) tg (f_X3_lose_tl nw tl p0 p1) tn ++ (wT G au uh ur um ub ud ug ul un ++ (wL G al (f_X3_lose_lk nw lk ls p0 p1) (f_X3_lose_lp nw lp ls p0 p1) (f_X3_lose_lg nw lg ls p0 p1) (f_X3_lose_lm nw lm ls p0 p1) (f_X3_lose_ls nw ls p0 p1) lv)))))) (isC := [0, 1, 2, 3, 4, 5, 6, 7, 8, 9, 10, 11, 12, 13, 14, 15, 16, 17, 18, 19, 20, 21, 22, 23, 24, 25, 26, 27, 28]) (isR := []) (isP := [0, 1, 2, 3, 4, 5, 6, 7, 8, 9, 10, 11, 12, 13, 14, 15, 16, 17, 18, 19, 20, 21, 22, 23, 24, 25, 26, 27, 28]) X (c_X3_lose l hfl G ag ad aT au al kk kt nw dw df dr de th tr tm tb td tg tl tn uh ur um ub ud ug ul un lk lp lg lm ls lv p0 p1 hth hls) gL_lose_X3_lose rfl rfl rfl (by decide +kernel) ⟨Nat.le_of_ble_eq_true rfl, Nat.le_of_ble_eq_true rfl⟩ dL_lose_3 rfl rfl (Nat.le_of_ble_eq_true rfl) ⟨Nat.le_of_ble_eq_true rfl, Nat.le_of_ble_eq_true rfl⟩ 0 rfl rfl ⟨rfl, rfl, rfl, rfl, by decide, rfl, fun _ => rfl⟩ [0, 1, 2, 3, 4, 5, 6, 7, 8, 9, 10, 11, 12, 13, 14, 15, 16, 17, 18, 19, 20, 21, 22, 23, 24, 25, 26, 27, 28] (by decide) rfl (fun E hE => ?_) (fun r9 u9 h9 => ?_)
  · rcases hE with ⟨k1, rfl⟩ | ⟨k2, rfl⟩ | ⟨k3, rfl⟩
    · exact (nok_L_lose_1 k1).elim
    · exact (nok_L_lose_2 k2).elim
    · exact (nok_L_lose_3 k3).elim
  · obtain ⟨k0, rfl⟩ := h9
    exact v_iret (pc := 6) X hr dL_lose_6 () (by show (wG G ag ad aT au al kk kt nw ++ (wD G ad dw df dr de ++ (wT G aT th tr tm tb (f_X3_lose_td nw th tm tb td tg p0 p1) tg (f_X3_lose_tl nw tl p0 p1) tn ++ (wT G au uh ur um ub ud ug ul un ++ (wL G al (f_X3_lose_lk nw lk ls p0 p1) (f_X3_lose_lp nw lp ls p0 p1) (f_X3_lose_lg nw lg ls p0 p1) (f_X3_lose_lm nw lm ls p0 p1) (f_X3_lose_ls nw ls p0 p1) lv))))) = (wG G ag ad aT au al kk kt nw ++ (wD G ad dw df dr de ++ (wT G aT th tr tm tb (f_L_lose_td nw th tm tb td tg p0 p1) tg (f_L_lose_tl nw tl p0 p1) tn ++ (wT G au uh ur um ub ud ug ul un ++ (wL G al (f_L_lose_lk nw lk ls p0 p1) (f_L_lose_lp nw lp ls p0 p1) (f_L_lose_lg nw lg ls p0 p1) (f_L_lose_lm nw lm ls p0 p1) (f_L_lose_ls nw ls p0 p1) lv))))); simp only [f_L_lose_td, f_L_lose_tl, f_L_lose_lk, f_L_lose_lp, f_L_lose_lg, f_L_lose_lm, f_L_lose_ls, if_pos k0]) (by show (f_X3_lose_r nw th tm tb td tg tl p0 p1) = (f_L_lose_r nw th tm tb td tg tl p0 p1); simp only [f_L_lose_r, if_pos k0])
theorem nok_L_issue_1 {p0 : Int32} (h : (f_X3_issue_k p0) = 1) : False := by
  unfold f_X3_issue_k at h
  (repeat' split at h) <;> revert h <;> decide
theorem nok_L_issue_2 {p0 : Int32} (h : (f_X3_issue_k p0) = 2) : False := by
  unfold f_X3_issue_k at h
  (repeat' split at h) <;> revert h <;> decide
theorem nok_L_issue_3 {p0 : Int32} (h : (f_X3_issue_k p0) = 3) : False := by
  unfold f_X3_issue_k at h
  (repeat' split at h) <;> revert h <;> decide
def f_L_issue_r (tg : Nat → Int32) (tn : Int32) (p0 : Int32) : Int32 := (f_X3_issue_r tg tn p0)
def f_L_issue_tg (tg : Nat → Int32) (tn : Int32) (p0 : Int32) : Nat → Int32 := (f_X3_issue_tg tg tn p0)
def f_L_issue_tl (tl : Nat → Int32) (p0 : Int32) : Nat → Int32 := (f_X3_issue_tl tl p0)
def f_L_issue_tn (tn : Int32) (p0 : Int32) : Int32 := (f_X3_issue_tn tn p0)
def f_L_issue_lk (lk : Nat → Int32) (ls : Int32) (p0 : Int32) : Nat → Int32 := (f_X3_issue_lk lk ls p0)
def f_L_issue_lp (lp : Nat → Int32) (ls : Int32) (p0 : Int32) : Nat → Int32 := (f_X3_issue_lp lp ls p0)
def f_L_issue_lg (lg : Nat → Int32) (ls : Int32) (p0 : Int32) : Nat → Int32 := (f_X3_issue_lg lg ls p0)
def f_L_issue_lm (lm : Nat → Int32) (ls : Int32) (p0 : Int32) : Nat → Int32 := (f_X3_issue_lm lm ls p0)
def f_L_issue_ls (ls : Int32) (p0 : Int32) : Int32 := (f_X3_issue_ls ls p0)
set_option maxHeartbeats 4000000 in
set_option maxRecDepth 100000 in
theorem c_L_issue (l : Launch) (hfl : l.stackTraces = false) (G : va_G) (ag : Nat → Nat) (ad : Nat → Nat) (aT : Nat → Nat) (au : Nat → Nat) (al : Nat → Nat) (kk : Nat → Int32) (kt : Nat → Int32) (nw : Int32) (dw : Nat → Int32) (df : Nat → Int32) (dr : Nat → Int32) (de : Nat → Int32) (th : Nat → Int32) (tr : Nat → Int32) (tm : Nat → Int32) (tb : Nat → Int32) (td : Nat → Int32) (tg : Nat → Int32) (tl : Nat → Int32) (tn : Int32) (uh : Nat → Int32) (ur : Nat → Int32) (um : Nat → Int32) (ub : Nat → Int32) (ud : Nat → Int32) (ug : Nat → Int32) (ul : Nat → Int32) (un : Int32) (lk : Nat → Int32) (lp : Nat → Int32) (lg : Nat → Int32) (lm : Nat → Int32) (ls : Int32) (lv : Int32) (p0 : Int32) (hls : ¬ ls < 0) : Ke l yL_issue wsL_issue { frames := 7, cells := 1, slots := 6, locals := 111 } 1 6 G (wG G ag ad aT au al kk kt nw ++ (wD G ad dw df dr de ++ (wT G aT th tr tm tb td tg tl tn ++ (wT G au uh ur um ub ud ug ul un ++ (wL G al lk lp lg lm ls lv))))) [.ref (ag 0), .int p0] (f_L_issue_r tg tn p0) (wG G ag ad aT au al kk kt nw ++ (wD G ad dw df dr de ++ (wT G aT th tr tm tb td (f_L_issue_tg tg tn p0) (f_L_issue_tl tl p0) (f_L_issue_tn tn p0) ++ (wT G au uh ur um ub ud ug ul un ++ (wL G al (f_L_issue_lk lk ls p0) (f_L_issue_lp lp ls p0) (f_L_issue_lg lg ls p0) (f_L_issue_lm lm ls p0) (f_L_issue_ls ls p0) lv))))) := by
  refine v_ofhi (cc := cL_issue) (nL := 3) (lv := [(0, .ref (ag 0)), (1, .int p0)]) (by decide) rfl (Nat.le_of_ble_eq_true rfl) rfl ?_
  intro p e s m args below meth c A X ht hr
  refine v_aload_n (pc := 0) X dL_issue_0 0 rfl ?_
  refine v_iload_n (pc := 1) X dL_issue_1 1 rfl ?_
  refine v_xcallVi (pc := 2) (rest := []) (n := 1) (wr := ([] : va_W)) (wn := fun _ => (wG G ag ad aT au al kk kt nw ++ (wD G ad dw df dr de ++ (wT G aT th tr tm tb td (f_X3_issue_tg tg tn p0) (f_X3_issue_tl tl p0) (f_X3_issue_tn tn p0) ++ (wT G au uh ur um ub ud ug ul un ++ (wL G al (f_X3_issue_lk lk ls p0) (f_X3_issue_lp lp ls p0) (f_X3_issue_lg lg ls p0) (f_X3_issue_lm lm ls p0) (f_X3_issue_ls ls p0) lv)))))) (isC := [0, 1, 2, 3, 4, 5, 6, 7, 8, 9, 10, 11, 12, 13, 14, 15, 16, 17, 18, 19, 20, 21, 22, 23, 24, 25, 26, 27, 28]) (isR := []) (isP := [0, 1, 2, 3, 4, 5, 6, 7, 8, 9, 10, 11, 12, 13, 14, 15, 16, 17, 18, 19, 20, 21, 22, 23, 24, 25, 26, 27, 28]) X (c_X3_issue l hfl G ag ad aT au al kk kt nw dw df dr de th tr tm tb td tg tl tn uh ur um ub ud ug ul un lk lp lg lm ls lv p0 hls) gL_issue_X3_issue rfl rfl rfl (by decide +kernel) ⟨Nat.le_of_ble_eq_true rfl, Nat.le_of_ble_eq_true rfl⟩ dL_issue_2 rfl rfl (Nat.le_of_ble_eq_true rfl) ⟨Nat.le_of_ble_eq_true rfl, Nat.le_of_ble_eq_true rfl⟩ 0 rfl rfl ⟨rfl, rfl, rfl, rfl, by decide, rfl, fun _ => rfl⟩ [0, 1, 2, 3, 4, 5, 6, 7, 8, 9, 10, 11, 12, 13, 14, 15, 16, 17, 18, 19, 20, 21, 22, 23, 24, 25, 26, 27, 28] (by decide) rfl (fun E hE => ?_) (fun r9 u9 h9 => ?_)
  · rcases hE with ⟨k1, rfl⟩ | ⟨k2, rfl⟩ | ⟨k3, rfl⟩
    · exact (nok_L_issue_1 k1).elim
    · exact (nok_L_issue_2 k2).elim
    · exact (nok_L_issue_3 k3).elim
  · obtain ⟨k0, rfl⟩ := h9
    exact v_iret (pc := 5) X hr dL_issue_5 () (by show (wG G ag ad aT au al kk kt nw ++ (wD G ad dw df dr de ++ (wT G aT th tr tm tb td (f_X3_issue_tg tg tn p0) (f_X3_issue_tl tl p0) (f_X3_issue_tn tn p0) ++ (wT G au uh ur um ub ud ug ul un ++ (wL G al (f_X3_issue_lk lk ls p0) (f_X3_issue_lp lp ls p0) (f_X3_issue_lg lg ls p0) (f_X3_issue_lm lm ls p0) (f_X3_issue_ls ls p0) lv))))) = (wG G ag ad aT au al kk kt nw ++ (wD G ad dw df dr de ++ (wT G aT th tr tm tb td (f_L_issue_tg tg tn p0) (f_L_issue_tl tl p0) (f_L_issue_tn tn p0) ++ (wT G au uh ur um ub ud ug ul un ++ (wL G al (f_L_issue_lk lk ls p0) (f_L_issue_lp lp ls p0) (f_L_issue_lg lg ls p0) (f_L_issue_lm lm ls p0) (f_L_issue_ls ls p0) lv))))); simp only [f_L_issue_tg, f_L_issue_tl, f_L_issue_tn, f_L_issue_lk, f_L_issue_lp, f_L_issue_lg, f_L_issue_lm, f_L_issue_ls, if_pos k0]) (by show (f_X3_issue_r tg tn p0) = (f_L_issue_r tg tn p0); simp only [f_L_issue_r, if_pos k0])
theorem nok_L_door_1 {p0 : Int32} {p1 : Int32} (h : (f_X3_door_k p0 p1) = 1) : False := by
  unfold f_X3_door_k at h
  (repeat' split at h) <;> revert h <;> decide
theorem nok_L_door_2 {p0 : Int32} {p1 : Int32} (h : (f_X3_door_k p0 p1) = 2) : False := by
  unfold f_X3_door_k at h
  (repeat' split at h) <;> revert h <;> decide
theorem nok_L_door_3 {p0 : Int32} {p1 : Int32} (h : (f_X3_door_k p0 p1) = 3) : False := by
  unfold f_X3_door_k at h
  (repeat' split at h) <;> revert h <;> decide
def f_L_door_r (th : Nat → Int32) (tr : Nat → Int32) (td : Nat → Int32) (tl : Nat → Int32) (p0 : Int32) (p1 : Int32) : Int32 := (if (f_X3_door_r th tr td tl p0 p1) = 0 then 0 else 1)
set_option maxHeartbeats 4000000 in
set_option maxRecDepth 100000 in
theorem c_L_door (l : Launch) (hfl : l.stackTraces = false) (G : va_G) (ag : Nat → Nat) (ad : Nat → Nat) (aT : Nat → Nat) (au : Nat → Nat) (al : Nat → Nat) (kk : Nat → Int32) (kt : Nat → Int32) (nw : Int32) (dw : Nat → Int32) (df : Nat → Int32) (dr : Nat → Int32) (de : Nat → Int32) (th : Nat → Int32) (tr : Nat → Int32) (tm : Nat → Int32) (tb : Nat → Int32) (td : Nat → Int32) (tg : Nat → Int32) (tl : Nat → Int32) (tn : Int32) (uh : Nat → Int32) (ur : Nat → Int32) (um : Nat → Int32) (ub : Nat → Int32) (ud : Nat → Int32) (ug : Nat → Int32) (ul : Nat → Int32) (un : Int32) (lk : Nat → Int32) (lp : Nat → Int32) (lg : Nat → Int32) (lm : Nat → Int32) (ls : Int32) (lv : Int32) (p0 : Int32) (p1 : Int32) (hth : ∀ j : Nat, j < 12 → inN (th j)) : Ke l yL_door wsL_door { frames := 7, cells := 1, slots := 6, locals := 112 } 1 6 G (wG G ag ad aT au al kk kt nw ++ (wD G ad dw df dr de ++ (wT G aT th tr tm tb td tg tl tn ++ (wT G au uh ur um ub ud ug ul un ++ (wL G al lk lp lg lm ls lv))))) [.ref (ag 0), .int p0, .int p1] (f_L_door_r th tr td tl p0 p1) (wG G ag ad aT au al kk kt nw ++ (wD G ad dw df dr de ++ (wT G aT th tr tm tb td tg tl tn ++ (wT G au uh ur um ub ud ug ul un ++ (wL G al lk lp lg lm ls lv))))) := by
  refine v_ofhi (cc := cL_door) (nL := 4) (lv := [(0, .ref (ag 0)), (1, .int p0), (2, .int p1)]) (by decide) rfl (Nat.le_of_ble_eq_true rfl) rfl ?_
  intro p e s m args below meth c A X ht hr
  refine v_aload_n (pc := 0) X dL_door_0 0 rfl ?_
  refine v_iload_n (pc := 1) X dL_door_1 1 rfl ?_
  refine v_iload_n (pc := 2) X dL_door_2 2 rfl ?_
  refine v_xcallVi (pc := 3) (rest := []) (n := 2) (wr := ([] : va_W)) (wn := fun _ => (wG G ag ad aT au al kk kt nw ++ (wD G ad dw df dr de ++ (wT G aT th tr tm tb td tg tl tn ++ (wT G au uh ur um ub ud ug ul un ++ (wL G al lk lp lg lm ls lv)))))) (isC := [0, 1, 2, 3, 4, 5, 6, 7, 8, 9, 10, 11, 12, 13, 14, 15, 16, 17, 18, 19, 20, 21, 22, 23, 24, 25, 26, 27, 28]) (isR := []) (isP := [0, 1, 2, 3, 4, 5, 6, 7, 8, 9, 10, 11, 12, 13, 14, 15, 16, 17, 18, 19, 20, 21, 22, 23, 24, 25, 26, 27, 28]) X (c_X3_door l hfl G ag ad aT au al kk kt nw dw df dr de th tr tm tb td tg tl tn uh ur um ub ud ug ul un lk lp lg lm ls lv p0 p1 hth) gL_door_X3_door rfl rfl rfl (by decide +kernel) ⟨Nat.le_of_ble_eq_true rfl, Nat.le_of_ble_eq_true rfl⟩ dL_door_3 rfl rfl (Nat.le_of_ble_eq_true rfl) ⟨Nat.le_of_ble_eq_true rfl, Nat.le_of_ble_eq_true rfl⟩ 0 rfl rfl ⟨rfl, rfl, rfl, rfl, by decide, rfl, fun _ => rfl⟩ [0, 1, 2, 3, 4, 5, 6, 7, 8, 9, 10, 11, 12, 13, 14, 15, 16, 17, 18, 19, 20, 21, 22, 23, 24, 25, 26, 27, 28] (by decide) rfl (fun E hE => ?_) (fun r9 u9 h9 => ?_)
  · rcases hE with ⟨k1, rfl⟩ | ⟨k2, rfl⟩ | ⟨k3, rfl⟩
    · exact (nok_L_door_1 k1).elim
    · exact (nok_L_door_2 k2).elim
    · exact (nok_L_door_3 k3).elim
  · obtain ⟨k0, rfl⟩ := h9
    refine v_if_eq (pc := 6) X 13 dL_door_6 (by decide) (fun c_6 => ?_) (fun c_6 => ?_)
    · refine v_iconst (pc := 13) (v := 0) X dL_door_13 (by decide) ?_
      exact v_iret (pc := 14) X hr dL_door_14 () rfl (by show 0 = (f_L_door_r th tr td tl p0 p1); simp only [f_L_door_r, if_pos k0, if_pos c_6])
    · refine v_iconst (pc := 9) (v := 1) X dL_door_9 (by decide) ?_
      refine v_goto (pc := 10) X 14 dL_door_10 (by decide) ?_
      exact v_iret (pc := 14) X hr dL_door_14 () rfl (by show 1 = (f_L_door_r th tr td tl p0 p1); simp only [f_L_door_r, if_pos k0, if_neg c_6])
theorem nok_L_share_1 {p0 : Int32} {p1 : Int32} {p2 : Int32} (h : (f_X3_share_k p0 p1 p2) = 1) : False := by
  unfold f_X3_share_k at h
  (repeat' split at h) <;> revert h <;> decide
theorem nok_L_share_2 {p0 : Int32} {p1 : Int32} {p2 : Int32} (h : (f_X3_share_k p0 p1 p2) = 2) : False := by
  unfold f_X3_share_k at h
  (repeat' split at h) <;> revert h <;> decide
theorem nok_L_share_3 {p0 : Int32} {p1 : Int32} {p2 : Int32} (h : (f_X3_share_k p0 p1 p2) = 3) : False := by
  unfold f_X3_share_k at h
  (repeat' split at h) <;> revert h <;> decide
def f_L_share_r (kt : Nat → Int32) (p0 : Int32) (p1 : Int32) (p2 : Int32) : Int32 := (f_X3_share_r kt p0 p1 p2)
def f_L_share_kk (kk : Nat → Int32) (p0 : Int32) (p1 : Int32) (p2 : Int32) : Nat → Int32 := (f_X3_share_kk kk p0 p1 p2)
def f_L_share_kt (kt : Nat → Int32) (p0 : Int32) (p1 : Int32) (p2 : Int32) : Nat → Int32 := (f_X3_share_kt kt p0 p1 p2)
set_option maxHeartbeats 4000000 in
set_option maxRecDepth 100000 in
theorem c_L_share (l : Launch) (hfl : l.stackTraces = false) (G : va_G) (ag : Nat → Nat) (ad : Nat → Nat) (aT : Nat → Nat) (au : Nat → Nat) (al : Nat → Nat) (kk : Nat → Int32) (kt : Nat → Int32) (nw : Int32) (dw : Nat → Int32) (df : Nat → Int32) (dr : Nat → Int32) (de : Nat → Int32) (th : Nat → Int32) (tr : Nat → Int32) (tm : Nat → Int32) (tb : Nat → Int32) (td : Nat → Int32) (tg : Nat → Int32) (tl : Nat → Int32) (tn : Int32) (uh : Nat → Int32) (ur : Nat → Int32) (um : Nat → Int32) (ub : Nat → Int32) (ud : Nat → Int32) (ug : Nat → Int32) (ul : Nat → Int32) (un : Int32) (lk : Nat → Int32) (lp : Nat → Int32) (lg : Nat → Int32) (lm : Nat → Int32) (ls : Int32) (lv : Int32) (p0 : Int32) (p1 : Int32) (p2 : Int32) : Ke l yL_share wsL_share { frames := 7, cells := 1, slots := 6, locals := 114 } 1 6 G (wG G ag ad aT au al kk kt nw ++ (wD G ad dw df dr de ++ (wT G aT th tr tm tb td tg tl tn ++ (wT G au uh ur um ub ud ug ul un ++ (wL G al lk lp lg lm ls lv))))) [.ref (ag 0), .int p0, .int p1, .int p2] (f_L_share_r kt p0 p1 p2) (wG G ag ad aT au al (f_L_share_kk kk p0 p1 p2) (f_L_share_kt kt p0 p1 p2) nw ++ (wD G ad dw df dr de ++ (wT G aT th tr tm tb td tg tl tn ++ (wT G au uh ur um ub ud ug ul un ++ (wL G al lk lp lg lm ls lv))))) := by
  refine v_ofhi (cc := cL_share) (nL := 5) (lv := [(0, .ref (ag 0)), (1, .int p0), (2, .int p1), (3, .int p2)]) (by decide) rfl (Nat.le_of_ble_eq_true rfl) rfl ?_
  intro p e s m args below meth c A X ht hr
  refine v_aload_n (pc := 0) X dL_share_0 0 rfl ?_
  refine v_iload_n (pc := 1) X dL_share_1 1 rfl ?_
  refine v_iload_n (pc := 2) X dL_share_2 2 rfl ?_
  refine v_iload_n (pc := 3) X dL_share_3 3 rfl ?_
  refine v_xcallVi (pc := 4) (rest := []) (n := 3) (wr := ([] : va_W)) (wn := fun _ => (wG G ag ad aT au al (f_X3_share_kk kk p0 p1 p2) (f_X3_share_kt kt p0 p1 p2) nw ++ (wD G ad dw df dr de ++ (wT G aT th tr tm tb td tg tl tn ++ (wT G au uh ur um ub ud ug ul un ++ (wL G al lk lp lg lm ls lv)))))) (isC := [0, 1, 2, 3, 4, 5, 6, 7, 8, 9, 10, 11, 12, 13, 14, 15, 16, 17, 18, 19, 20, 21, 22, 23, 24, 25, 26, 27, 28]) (isR := []) (isP := [0, 1, 2, 3, 4, 5, 6, 7, 8, 9, 10, 11, 12, 13, 14, 15, 16, 17, 18, 19, 20, 21, 22, 23, 24, 25, 26, 27, 28]) X (c_X3_share l hfl G ag ad aT au al kk kt nw dw df dr de th tr tm tb td tg tl tn uh ur um ub ud ug ul un lk lp lg lm ls lv p0 p1 p2) gL_share_X3_share rfl rfl rfl (by decide +kernel) ⟨Nat.le_of_ble_eq_true rfl, Nat.le_of_ble_eq_true rfl⟩ dL_share_4 rfl rfl (Nat.le_of_ble_eq_true rfl) ⟨Nat.le_of_ble_eq_true rfl, Nat.le_of_ble_eq_true rfl⟩ 0 rfl rfl ⟨rfl, rfl, rfl, rfl, by decide, rfl, fun _ => rfl⟩ [0, 1, 2, 3, 4, 5, 6, 7, 8, 9, 10, 11, 12, 13, 14, 15, 16, 17, 18, 19, 20, 21, 22, 23, 24, 25, 26, 27, 28] (by decide) rfl (fun E hE => ?_) (fun r9 u9 h9 => ?_)
  · rcases hE with ⟨k1, rfl⟩ | ⟨k2, rfl⟩ | ⟨k3, rfl⟩
    · exact (nok_L_share_1 k1).elim
    · exact (nok_L_share_2 k2).elim
    · exact (nok_L_share_3 k3).elim
  · obtain ⟨k0, rfl⟩ := h9
    exact v_iret (pc := 7) X hr dL_share_7 () (by show (wG G ag ad aT au al (f_X3_share_kk kk p0 p1 p2) (f_X3_share_kt kt p0 p1 p2) nw ++ (wD G ad dw df dr de ++ (wT G aT th tr tm tb td tg tl tn ++ (wT G au uh ur um ub ud ug ul un ++ (wL G al lk lp lg lm ls lv))))) = (wG G ag ad aT au al (f_L_share_kk kk p0 p1 p2) (f_L_share_kt kt p0 p1 p2) nw ++ (wD G ad dw df dr de ++ (wT G aT th tr tm tb td tg tl tn ++ (wT G au uh ur um ub ud ug ul un ++ (wL G al lk lp lg lm ls lv))))); simp only [f_L_share_kk, f_L_share_kt, if_pos k0]) (by show (f_X3_share_r kt p0 p1 p2) = (f_L_share_r kt p0 p1 p2); simp only [f_L_share_r, if_pos k0])
theorem nok_L_use_1 {p0 : Int32} (h : (f_X3_use_k p0) = 1) : False := by
  unfold f_X3_use_k at h
  (repeat' split at h) <;> revert h <;> decide
theorem nok_L_use_2 {p0 : Int32} (h : (f_X3_use_k p0) = 2) : False := by
  unfold f_X3_use_k at h
  (repeat' split at h) <;> revert h <;> decide
theorem nok_L_use_3 {p0 : Int32} (h : (f_X3_use_k p0) = 3) : False := by
  unfold f_X3_use_k at h
  (repeat' split at h) <;> revert h <;> decide
def f_L_use_r (kk : Nat → Int32) (kt : Nat → Int32) (nw : Int32) (de : Nat → Int32) (th : Nat → Int32) (td : Nat → Int32) (tl : Nat → Int32) (p0 : Int32) : Int32 := (if (f_X3_use_r kk kt nw de th td tl p0) = 0 then 0 else 1)
set_option maxHeartbeats 4000000 in
set_option maxRecDepth 100000 in
theorem c_L_use (l : Launch) (hfl : l.stackTraces = false) (G : va_G) (ag : Nat → Nat) (ad : Nat → Nat) (aT : Nat → Nat) (au : Nat → Nat) (al : Nat → Nat) (kk : Nat → Int32) (kt : Nat → Int32) (nw : Int32) (dw : Nat → Int32) (df : Nat → Int32) (dr : Nat → Int32) (de : Nat → Int32) (th : Nat → Int32) (tr : Nat → Int32) (tm : Nat → Int32) (tb : Nat → Int32) (td : Nat → Int32) (tg : Nat → Int32) (tl : Nat → Int32) (tn : Int32) (uh : Nat → Int32) (ur : Nat → Int32) (um : Nat → Int32) (ub : Nat → Int32) (ud : Nat → Int32) (ug : Nat → Int32) (ul : Nat → Int32) (un : Int32) (lk : Nat → Int32) (lp : Nat → Int32) (lg : Nat → Int32) (lm : Nat → Int32) (ls : Int32) (lv : Int32) (p0 : Int32) (hth : ∀ j : Nat, j < 12 → inN (th j)) : Ke l yL_use wsL_use { frames := 7, cells := 1, slots := 6, locals := 129 } 1 6 G (wG G ag ad aT au al kk kt nw ++ (wD G ad dw df dr de ++ (wT G aT th tr tm tb td tg tl tn ++ (wT G au uh ur um ub ud ug ul un ++ (wL G al lk lp lg lm ls lv))))) [.ref (ag 0), .int p0] (f_L_use_r kk kt nw de th td tl p0) (wG G ag ad aT au al kk kt nw ++ (wD G ad dw df dr de ++ (wT G aT th tr tm tb td tg tl tn ++ (wT G au uh ur um ub ud ug ul un ++ (wL G al lk lp lg lm ls lv))))) := by
  refine v_ofhi (cc := cL_use) (nL := 3) (lv := [(0, .ref (ag 0)), (1, .int p0)]) (by decide) rfl (Nat.le_of_ble_eq_true rfl) rfl ?_
  intro p e s m args below meth c A X ht hr
  refine v_aload_n (pc := 0) X dL_use_0 0 rfl ?_
  refine v_iload_n (pc := 1) X dL_use_1 1 rfl ?_
  refine v_xcallVi (pc := 2) (rest := []) (n := 1) (wr := ([] : va_W)) (wn := fun _ => (wG G ag ad aT au al kk kt nw ++ (wD G ad dw df dr de ++ (wT G aT th tr tm tb td tg tl tn ++ (wT G au uh ur um ub ud ug ul un ++ (wL G al lk lp lg lm ls lv)))))) (isC := [0, 1, 2, 3, 4, 5, 6, 7, 8, 9, 10, 11, 12, 13, 14, 15, 16, 17, 18, 19, 20, 21, 22, 23, 24, 25, 26, 27, 28]) (isR := []) (isP := [0, 1, 2, 3, 4, 5, 6, 7, 8, 9, 10, 11, 12, 13, 14, 15, 16, 17, 18, 19, 20, 21, 22, 23, 24, 25, 26, 27, 28]) X (c_X3_use l hfl G ag ad aT au al kk kt nw dw df dr de th tr tm tb td tg tl tn uh ur um ub ud ug ul un lk lp lg lm ls lv p0 hth) gL_use_X3_use rfl rfl rfl (by decide +kernel) ⟨Nat.le_of_ble_eq_true rfl, Nat.le_of_ble_eq_true rfl⟩ dL_use_2 rfl rfl (Nat.le_of_ble_eq_true rfl) ⟨Nat.le_of_ble_eq_true rfl, Nat.le_of_ble_eq_true rfl⟩ 0 rfl rfl ⟨rfl, rfl, rfl, rfl, by decide, rfl, fun _ => rfl⟩ [0, 1, 2, 3, 4, 5, 6, 7, 8, 9, 10, 11, 12, 13, 14, 15, 16, 17, 18, 19, 20, 21, 22, 23, 24, 25, 26, 27, 28] (by decide) rfl (fun E hE => ?_) (fun r9 u9 h9 => ?_)
  · rcases hE with ⟨k1, rfl⟩ | ⟨k2, rfl⟩ | ⟨k3, rfl⟩
    · exact (nok_L_use_1 k1).elim
    · exact (nok_L_use_2 k2).elim
    · exact (nok_L_use_3 k3).elim
  · obtain ⟨k0, rfl⟩ := h9
    refine v_if_eq (pc := 5) X 12 dL_use_5 (by decide) (fun c_5 => ?_) (fun c_5 => ?_)
    · refine v_iconst (pc := 12) (v := 0) X dL_use_12 (by decide) ?_
      exact v_iret (pc := 13) X hr dL_use_13 () rfl (by show 0 = (f_L_use_r kk kt nw de th td tl p0); simp only [f_L_use_r, if_pos k0, if_pos c_5])
    · refine v_iconst (pc := 8) (v := 1) X dL_use_8 (by decide) ?_
      refine v_goto (pc := 9) X 13 dL_use_9 (by decide) ?_
      exact v_iret (pc := 13) X hr dL_use_13 () rfl (by show 1 = (f_L_use_r kk kt nw de th td tl p0); simp only [f_L_use_r, if_pos k0, if_neg c_5])
theorem nok_L_of_1 {p0 : Int32} {p1 : Int32} (h : (f_X3_of_k p0 p1) = 1) : False := by
  unfold f_X3_of_k at h
  (repeat' split at h) <;> revert h <;> decide
theorem nok_L_of_2 {p0 : Int32} {p1 : Int32} (h : (f_X3_of_k p0 p1) = 2) : False := by
  unfold f_X3_of_k at h
  (repeat' split at h) <;> revert h <;> decide
theorem nok_L_of_3 {p0 : Int32} {p1 : Int32} (h : (f_X3_of_k p0 p1) = 3) : False := by
  unfold f_X3_of_k at h
  (repeat' split at h) <;> revert h <;> decide
def f_L_of_r (nw : Int32) (df : Nat → Int32) (de : Nat → Int32) (th : Nat → Int32) (tr : Nat → Int32) (td : Nat → Int32) (tg : Nat → Int32) (tl : Nat → Int32) (p0 : Int32) (p1 : Int32) : Int32 := (f_X3_of_r nw df de th tr td tg tl p0 p1)
set_option maxHeartbeats 4000000 in
set_option maxRecDepth 100000 in
theorem c_L_of (l : Launch) (hfl : l.stackTraces = false) (G : va_G) (ag : Nat → Nat) (ad : Nat → Nat) (aT : Nat → Nat) (au : Nat → Nat) (al : Nat → Nat) (kk : Nat → Int32) (kt : Nat → Int32) (nw : Int32) (dw : Nat → Int32) (df : Nat → Int32) (dr : Nat → Int32) (de : Nat → Int32) (th : Nat → Int32) (tr : Nat → Int32) (tm : Nat → Int32) (tb : Nat → Int32) (td : Nat → Int32) (tg : Nat → Int32) (tl : Nat → Int32) (tn : Int32) (uh : Nat → Int32) (ur : Nat → Int32) (um : Nat → Int32) (ub : Nat → Int32) (ud : Nat → Int32) (ug : Nat → Int32) (ul : Nat → Int32) (un : Int32) (lk : Nat → Int32) (lp : Nat → Int32) (lg : Nat → Int32) (lm : Nat → Int32) (ls : Int32) (lv : Int32) (p0 : Int32) (p1 : Int32) (hth : ∀ j : Nat, j < 12 → inN (th j)) : Ke l yL_of wsL_of { frames := 7, cells := 1, slots := 6, locals := 112 } 1 6 G (wG G ag ad aT au al kk kt nw ++ (wD G ad dw df dr de ++ (wT G aT th tr tm tb td tg tl tn ++ (wT G au uh ur um ub ud ug ul un ++ (wL G al lk lp lg lm ls lv))))) [.ref (ag 0), .int p0, .int p1] (f_L_of_r nw df de th tr td tg tl p0 p1) (wG G ag ad aT au al kk kt nw ++ (wD G ad dw df dr de ++ (wT G aT th tr tm tb td tg tl tn ++ (wT G au uh ur um ub ud ug ul un ++ (wL G al lk lp lg lm ls lv))))) := by
  refine v_ofhi (cc := cL_of) (nL := 4) (lv := [(0, .ref (ag 0)), (1, .int p0), (2, .int p1)]) (by decide) rfl (Nat.le_of_ble_eq_true rfl) rfl ?_
  intro p e s m args below meth c A X ht hr
  refine v_aload_n (pc := 0) X dL_of_0 0 rfl ?_
  refine v_iload_n (pc := 1) X dL_of_1 1 rfl ?_
  refine v_iload_n (pc := 2) X dL_of_2 2 rfl ?_
  refine v_xcallVi (pc := 3) (rest := []) (n := 2) (wr := ([] : va_W)) (wn := fun _ => (wG G ag ad aT au al kk kt nw ++ (wD G ad dw df dr de ++ (wT G aT th tr tm tb td tg tl tn ++ (wT G au uh ur um ub ud ug ul un ++ (wL G al lk lp lg lm ls lv)))))) (isC := [0, 1, 2, 3, 4, 5, 6, 7, 8, 9, 10, 11, 12, 13, 14, 15, 16, 17, 18, 19, 20, 21, 22, 23, 24, 25, 26, 27, 28]) (isR := []) (isP := [0, 1, 2, 3, 4, 5, 6, 7, 8, 9, 10, 11, 12, 13, 14, 15, 16, 17, 18, 19, 20, 21, 22, 23, 24, 25, 26, 27, 28]) X (c_X3_of l hfl G ag ad aT au al kk kt nw dw df dr de th tr tm tb td tg tl tn uh ur um ub ud ug ul un lk lp lg lm ls lv p0 p1 hth) gL_of_X3_of rfl rfl rfl (by decide +kernel) ⟨Nat.le_of_ble_eq_true rfl, Nat.le_of_ble_eq_true rfl⟩ dL_of_3 rfl rfl (Nat.le_of_ble_eq_true rfl) ⟨Nat.le_of_ble_eq_true rfl, Nat.le_of_ble_eq_true rfl⟩ 0 rfl rfl ⟨rfl, rfl, rfl, rfl, by decide, rfl, fun _ => rfl⟩ [0, 1, 2, 3, 4, 5, 6, 7, 8, 9, 10, 11, 12, 13, 14, 15, 16, 17, 18, 19, 20, 21, 22, 23, 24, 25, 26, 27, 28] (by decide) rfl (fun E hE => ?_) (fun r9 u9 h9 => ?_)
  · rcases hE with ⟨k1, rfl⟩ | ⟨k2, rfl⟩ | ⟨k3, rfl⟩
    · exact (nok_L_of_1 k1).elim
    · exact (nok_L_of_2 k2).elim
    · exact (nok_L_of_3 k3).elim
  · obtain ⟨k0, rfl⟩ := h9
    exact v_iret (pc := 6) X hr dL_of_6 () rfl (by show (f_X3_of_r nw df de th tr td tg tl p0 p1) = (f_L_of_r nw df de th tr td tg tl p0 p1); simp only [f_L_of_r, if_pos k0])
theorem nok_L_taintedAnew_1 {p0 : Int32} (h : (f_X3_taintedAnew_k p0) = 1) : False := by
  unfold f_X3_taintedAnew_k at h
  (repeat' split at h) <;> revert h <;> decide
theorem nok_L_taintedAnew_2 {p0 : Int32} (h : (f_X3_taintedAnew_k p0) = 2) : False := by
  unfold f_X3_taintedAnew_k at h
  (repeat' split at h) <;> revert h <;> decide
theorem nok_L_taintedAnew_3 {p0 : Int32} (h : (f_X3_taintedAnew_k p0) = 3) : False := by
  unfold f_X3_taintedAnew_k at h
  (repeat' split at h) <;> revert h <;> decide
def f_L_taintedAnew_r (uh : Nat → Int32) (um : Nat → Int32) (ub : Nat → Int32) (ud : Nat → Int32) (ug : Nat → Int32) (ul : Nat → Int32) (lk : Nat → Int32) (lp : Nat → Int32) (lg : Nat → Int32) (lm : Nat → Int32) (ls : Int32) (p0 : Int32) : Int32 := (if (f_X3_taintedAnew_r uh um ub ud ug ul lk lp lg lm ls p0) = 0 then 0 else 1)
def f_L_taintedAnew_uh (uh : Nat → Int32) (um : Nat → Int32) (ub : Nat → Int32) (ud : Nat → Int32) (ug : Nat → Int32) (ul : Nat → Int32) (lk : Nat → Int32) (lp : Nat → Int32) (lg : Nat → Int32) (lm : Nat → Int32) (ls : Int32) (p0 : Int32) : Nat → Int32 := (f_X3_taintedAnew_uh uh um ub ud ug ul lk lp lg lm ls p0)
def f_L_taintedAnew_um (uh : Nat → Int32) (um : Nat → Int32) (ub : Nat → Int32) (ud : Nat → Int32) (ug : Nat → Int32) (ul : Nat → Int32) (lk : Nat → Int32) (lp : Nat → Int32) (lg : Nat → Int32) (lm : Nat → Int32) (ls : Int32) (p0 : Int32) : Nat → Int32 := (f_X3_taintedAnew_um uh um ub ud ug ul lk lp lg lm ls p0)
def f_L_taintedAnew_ub (uh : Nat → Int32) (um : Nat → Int32) (ub : Nat → Int32) (ud : Nat → Int32) (ug : Nat → Int32) (ul : Nat → Int32) (lk : Nat → Int32) (lp : Nat → Int32) (lg : Nat → Int32) (lm : Nat → Int32) (ls : Int32) (p0 : Int32) : Nat → Int32 := (f_X3_taintedAnew_ub uh um ub ud ug ul lk lp lg lm ls p0)
def f_L_taintedAnew_ud (uh : Nat → Int32) (um : Nat → Int32) (ub : Nat → Int32) (ud : Nat → Int32) (ug : Nat → Int32) (ul : Nat → Int32) (lk : Nat → Int32) (lp : Nat → Int32) (lg : Nat → Int32) (lm : Nat → Int32) (ls : Int32) (p0 : Int32) : Nat → Int32 := (f_X3_taintedAnew_ud uh um ub ud ug ul lk lp lg lm ls p0)
def f_L_taintedAnew_ug (uh : Nat → Int32) (um : Nat → Int32) (ub : Nat → Int32) (ud : Nat → Int32) (ug : Nat → Int32) (ul : Nat → Int32) (lk : Nat → Int32) (lp : Nat → Int32) (lg : Nat → Int32) (lm : Nat → Int32) (ls : Int32) (p0 : Int32) : Nat → Int32 := (f_X3_taintedAnew_ug uh um ub ud ug ul lk lp lg lm ls p0)
def f_L_taintedAnew_ul (uh : Nat → Int32) (um : Nat → Int32) (ub : Nat → Int32) (ud : Nat → Int32) (ug : Nat → Int32) (ul : Nat → Int32) (lk : Nat → Int32) (lp : Nat → Int32) (lg : Nat → Int32) (lm : Nat → Int32) (ls : Int32) (p0 : Int32) : Nat → Int32 := (f_X3_taintedAnew_ul uh um ub ud ug ul lk lp lg lm ls p0)
def f_L_taintedAnew_un (uh : Nat → Int32) (um : Nat → Int32) (ub : Nat → Int32) (ud : Nat → Int32) (ug : Nat → Int32) (ul : Nat → Int32) (un : Int32) (lk : Nat → Int32) (lp : Nat → Int32) (lg : Nat → Int32) (lm : Nat → Int32) (ls : Int32) (p0 : Int32) : Int32 := (f_X3_taintedAnew_un uh um ub ud ug ul un lk lp lg lm ls p0)
set_option maxHeartbeats 4000000 in
set_option maxRecDepth 100000 in
theorem c_L_taintedAnew (l : Launch) (hfl : l.stackTraces = false) (G : va_G) (ag : Nat → Nat) (ad : Nat → Nat) (aT : Nat → Nat) (au : Nat → Nat) (al : Nat → Nat) (kk : Nat → Int32) (kt : Nat → Int32) (nw : Int32) (dw : Nat → Int32) (df : Nat → Int32) (dr : Nat → Int32) (de : Nat → Int32) (th : Nat → Int32) (tr : Nat → Int32) (tm : Nat → Int32) (tb : Nat → Int32) (td : Nat → Int32) (tg : Nat → Int32) (tl : Nat → Int32) (tn : Int32) (uh : Nat → Int32) (ur : Nat → Int32) (um : Nat → Int32) (ub : Nat → Int32) (ud : Nat → Int32) (ug : Nat → Int32) (ul : Nat → Int32) (un : Int32) (lk : Nat → Int32) (lp : Nat → Int32) (lg : Nat → Int32) (lm : Nat → Int32) (ls : Int32) (lv : Int32) (p0 : Int32) (hlz : ls = nI (ls).toNatClampNeg ∧ (ls).toNatClampNeg ≤ 512) (hev : ∀ j : Nat, j < (ls).toNatClampNeg → evOK lk lp lg j) (huh : ∀ j : Nat, j < 12 → inN ((f_X1_replayInto_th lk lp lg lm ls uh um ub ud ug ul) j)) : Ke l yL_taintedAnew wsL_taintedAnew { frames := 7, cells := 1, slots := 6, locals := 111 } 1 6 G (wG G ag ad aT au al kk kt nw ++ (wD G ad dw df dr de ++ (wT G aT th tr tm tb td tg tl tn ++ (wT G au uh ur um ub ud ug ul un ++ (wL G al lk lp lg lm ls lv))))) [.ref (ag 0), .int p0] (f_L_taintedAnew_r uh um ub ud ug ul lk lp lg lm ls p0) (wG G ag ad aT au al kk kt nw ++ (wD G ad dw df dr de ++ (wT G aT th tr tm tb td tg tl tn ++ (wT G au (f_L_taintedAnew_uh uh um ub ud ug ul lk lp lg lm ls p0) ur (f_L_taintedAnew_um uh um ub ud ug ul lk lp lg lm ls p0) (f_L_taintedAnew_ub uh um ub ud ug ul lk lp lg lm ls p0) (f_L_taintedAnew_ud uh um ub ud ug ul lk lp lg lm ls p0) (f_L_taintedAnew_ug uh um ub ud ug ul lk lp lg lm ls p0) (f_L_taintedAnew_ul uh um ub ud ug ul lk lp lg lm ls p0) (f_L_taintedAnew_un uh um ub ud ug ul un lk lp lg lm ls p0) ++ (wL G al lk lp lg lm ls lv))))) := by
  refine v_ofhi (cc := cL_taintedAnew) (nL := 3) (lv := [(0, .ref (ag 0)), (1, .int p0)]) (by decide) rfl (Nat.le_of_ble_eq_true rfl) rfl ?_
  intro p e s m args below meth c A X ht hr
  refine v_aload_n (pc := 0) X dL_taintedAnew_0 0 rfl ?_
  refine v_iload_n (pc := 1) X dL_taintedAnew_1 1 rfl ?_
  refine v_xcallVi (pc := 2) (rest := []) (n := 1) (wr := ([] : va_W)) (wn := fun _ => (wG G ag ad aT au al kk kt nw ++ (wD G ad dw df dr de ++ (wT G aT th tr tm tb td tg tl tn ++ (wT G au (f_X3_taintedAnew_uh uh um ub ud ug ul lk lp lg lm ls p0) ur (f_X3_taintedAnew_um uh um ub ud ug ul lk lp lg lm ls p0) (f_X3_taintedAnew_ub uh um ub ud ug ul lk lp lg lm ls p0) (f_X3_taintedAnew_ud uh um ub ud ug ul lk lp lg lm ls p0) (f_X3_taintedAnew_ug uh um ub ud ug ul lk lp lg lm ls p0) (f_X3_taintedAnew_ul uh um ub ud ug ul lk lp lg lm ls p0) (f_X3_taintedAnew_un uh um ub ud ug ul un lk lp lg lm ls p0) ++ (wL G al lk lp lg lm ls lv)))))) (isC := [0, 1, 2, 3, 4, 5, 6, 7, 8, 9, 10, 11, 12, 13, 14, 15, 16, 17, 18, 19, 20, 21, 22, 23, 24, 25, 26, 27, 28]) (isR := []) (isP := [0, 1, 2, 3, 4, 5, 6, 7, 8, 9, 10, 11, 12, 13, 14, 15, 16, 17, 18, 19, 20, 21, 22, 23, 24, 25, 26, 27, 28]) X (c_X3_taintedAnew l hfl G ag ad aT au al kk kt nw dw df dr de th tr tm tb td tg tl tn uh ur um ub ud ug ul un lk lp lg lm ls lv p0 hlz hev huh) gL_taintedAnew_X3_taintedAnew rfl rfl rfl (by decide +kernel) ⟨Nat.le_of_ble_eq_true rfl, Nat.le_of_ble_eq_true rfl⟩ dL_taintedAnew_2 rfl rfl (Nat.le_of_ble_eq_true rfl) ⟨Nat.le_of_ble_eq_true rfl, Nat.le_of_ble_eq_true rfl⟩ 0 rfl rfl ⟨rfl, rfl, rfl, rfl, by decide, rfl, fun _ => rfl⟩ [0, 1, 2, 3, 4, 5, 6, 7, 8, 9, 10, 11, 12, 13, 14, 15, 16, 17, 18, 19, 20, 21, 22, 23, 24, 25, 26, 27, 28] (by decide) rfl (fun E hE => ?_) (fun r9 u9 h9 => ?_)
  · rcases hE with ⟨k1, rfl⟩ | ⟨k2, rfl⟩ | ⟨k3, rfl⟩
    · exact (nok_L_taintedAnew_1 k1).elim
    · exact (nok_L_taintedAnew_2 k2).elim
    · exact (nok_L_taintedAnew_3 k3).elim
  · obtain ⟨k0, rfl⟩ := h9
    refine v_if_eq (pc := 5) X 12 dL_taintedAnew_5 (by decide) (fun c_5 => ?_) (fun c_5 => ?_)
    · refine v_iconst (pc := 12) (v := 0) X dL_taintedAnew_12 (by decide) ?_
      exact v_iret (pc := 13) X hr dL_taintedAnew_13 () (by show (wG G ag ad aT au al kk kt nw ++ (wD G ad dw df dr de ++ (wT G aT th tr tm tb td tg tl tn ++ (wT G au (f_X3_taintedAnew_uh uh um ub ud ug ul lk lp lg lm ls p0) ur (f_X3_taintedAnew_um uh um ub ud ug ul lk lp lg lm ls p0) (f_X3_taintedAnew_ub uh um ub ud ug ul lk lp lg lm ls p0) (f_X3_taintedAnew_ud uh um ub ud ug ul lk lp lg lm ls p0) (f_X3_taintedAnew_ug uh um ub ud ug ul lk lp lg lm ls p0) (f_X3_taintedAnew_ul uh um ub ud ug ul lk lp lg lm ls p0) (f_X3_taintedAnew_un uh um ub ud ug ul un lk lp lg lm ls p0) ++ (wL G al lk lp lg lm ls lv))))) = (wG G ag ad aT au al kk kt nw ++ (wD G ad dw df dr de ++ (wT G aT th tr tm tb td tg tl tn ++ (wT G au (f_L_taintedAnew_uh uh um ub ud ug ul lk lp lg lm ls p0) ur (f_L_taintedAnew_um uh um ub ud ug ul lk lp lg lm ls p0) (f_L_taintedAnew_ub uh um ub ud ug ul lk lp lg lm ls p0) (f_L_taintedAnew_ud uh um ub ud ug ul lk lp lg lm ls p0) (f_L_taintedAnew_ug uh um ub ud ug ul lk lp lg lm ls p0) (f_L_taintedAnew_ul uh um ub ud ug ul lk lp lg lm ls p0) (f_L_taintedAnew_un uh um ub ud ug ul un lk lp lg lm ls p0) ++ (wL G al lk lp lg lm ls lv))))); simp only [f_L_taintedAnew_uh, f_L_taintedAnew_um, f_L_taintedAnew_ub, f_L_taintedAnew_ud, f_L_taintedAnew_ug, f_L_taintedAnew_ul, f_L_taintedAnew_un, if_pos k0, if_pos c_5]) (by show 0 = (f_L_taintedAnew_r uh um ub ud ug ul lk lp lg lm ls p0); simp only [f_L_taintedAnew_r, if_pos k0, if_pos c_5])
    · refine v_iconst (pc := 8) (v := 1) X dL_taintedAnew_8 (by decide) ?_
      refine v_goto (pc := 9) X 13 dL_taintedAnew_9 (by decide) ?_
      exact v_iret (pc := 13) X hr dL_taintedAnew_13 () (by show (wG G ag ad aT au al kk kt nw ++ (wD G ad dw df dr de ++ (wT G aT th tr tm tb td tg tl tn ++ (wT G au (f_X3_taintedAnew_uh uh um ub ud ug ul lk lp lg lm ls p0) ur (f_X3_taintedAnew_um uh um ub ud ug ul lk lp lg lm ls p0) (f_X3_taintedAnew_ub uh um ub ud ug ul lk lp lg lm ls p0) (f_X3_taintedAnew_ud uh um ub ud ug ul lk lp lg lm ls p0) (f_X3_taintedAnew_ug uh um ub ud ug ul lk lp lg lm ls p0) (f_X3_taintedAnew_ul uh um ub ud ug ul lk lp lg lm ls p0) (f_X3_taintedAnew_un uh um ub ud ug ul un lk lp lg lm ls p0) ++ (wL G al lk lp lg lm ls lv))))) = (wG G ag ad aT au al kk kt nw ++ (wD G ad dw df dr de ++ (wT G aT th tr tm tb td tg tl tn ++ (wT G au (f_L_taintedAnew_uh uh um ub ud ug ul lk lp lg lm ls p0) ur (f_L_taintedAnew_um uh um ub ud ug ul lk lp lg lm ls p0) (f_L_taintedAnew_ub uh um ub ud ug ul lk lp lg lm ls p0) (f_L_taintedAnew_ud uh um ub ud ug ul lk lp lg lm ls p0) (f_L_taintedAnew_ug uh um ub ud ug ul lk lp lg lm ls p0) (f_L_taintedAnew_ul uh um ub ud ug ul lk lp lg lm ls p0) (f_L_taintedAnew_un uh um ub ud ug ul un lk lp lg lm ls p0) ++ (wL G al lk lp lg lm ls lv))))); simp only [f_L_taintedAnew_uh, f_L_taintedAnew_um, f_L_taintedAnew_ub, f_L_taintedAnew_ud, f_L_taintedAnew_ug, f_L_taintedAnew_ul, f_L_taintedAnew_un, if_pos k0, if_neg c_5]) (by show 1 = (f_L_taintedAnew_r uh um ub ud ug ul lk lp lg lm ls p0); simp only [f_L_taintedAnew_r, if_pos k0, if_neg c_5])
theorem nok_L_chain_1 {p0 : Int32} (h : (f_X3_chain_k p0) = 1) : False := by
  unfold f_X3_chain_k at h
  (repeat' split at h) <;> revert h <;> decide
theorem nok_L_chain_2 {p0 : Int32} (h : (f_X3_chain_k p0) = 2) : False := by
  unfold f_X3_chain_k at h
  (repeat' split at h) <;> revert h <;> decide
theorem nok_L_chain_3 {p0 : Int32} (h : (f_X3_chain_k p0) = 3) : False := by
  unfold f_X3_chain_k at h
  (repeat' split at h) <;> revert h <;> decide
def f_L_chain_r (th : Nat → Int32) (p0 : Int32) : Int32 := (f_X3_chain_r th p0)
set_option maxHeartbeats 4000000 in
set_option maxRecDepth 100000 in
theorem c_L_chain (l : Launch) (hfl : l.stackTraces = false) (G : va_G) (ag : Nat → Nat) (ad : Nat → Nat) (aT : Nat → Nat) (au : Nat → Nat) (al : Nat → Nat) (kk : Nat → Int32) (kt : Nat → Int32) (nw : Int32) (dw : Nat → Int32) (df : Nat → Int32) (dr : Nat → Int32) (de : Nat → Int32) (th : Nat → Int32) (tr : Nat → Int32) (tm : Nat → Int32) (tb : Nat → Int32) (td : Nat → Int32) (tg : Nat → Int32) (tl : Nat → Int32) (tn : Int32) (uh : Nat → Int32) (ur : Nat → Int32) (um : Nat → Int32) (ub : Nat → Int32) (ud : Nat → Int32) (ug : Nat → Int32) (ul : Nat → Int32) (un : Int32) (lk : Nat → Int32) (lp : Nat → Int32) (lg : Nat → Int32) (lm : Nat → Int32) (ls : Int32) (lv : Int32) (p0 : Int32) (hth : ∀ j : Nat, j < 12 → inN (th j)) : Ke l yL_chain wsL_chain { frames := 7, cells := 1, slots := 6, locals := 111 } 1 6 G (wG G ag ad aT au al kk kt nw ++ (wD G ad dw df dr de ++ (wT G aT th tr tm tb td tg tl tn ++ (wT G au uh ur um ub ud ug ul un ++ (wL G al lk lp lg lm ls lv))))) [.ref (ag 0), .int p0] (f_L_chain_r th p0) (wG G ag ad aT au al kk kt nw ++ (wD G ad dw df dr de ++ (wT G aT th tr tm tb td tg tl tn ++ (wT G au uh ur um ub ud ug ul un ++ (wL G al lk lp lg lm ls lv))))) := by
  refine v_ofhi (cc := cL_chain) (nL := 3) (lv := [(0, .ref (ag 0)), (1, .int p0)]) (by decide) rfl (Nat.le_of_ble_eq_true rfl) rfl ?_
  intro p e s m args below meth c A X ht hr
  refine v_aload_n (pc := 0) X dL_chain_0 0 rfl ?_
  refine v_iload_n (pc := 1) X dL_chain_1 1 rfl ?_
  refine v_xcallVi (pc := 2) (rest := []) (n := 1) (wr := ([] : va_W)) (wn := fun _ => (wG G ag ad aT au al kk kt nw ++ (wD G ad dw df dr de ++ (wT G aT th tr tm tb td tg tl tn ++ (wT G au uh ur um ub ud ug ul un ++ (wL G al lk lp lg lm ls lv)))))) (isC := [0, 1, 2, 3, 4, 5, 6, 7, 8, 9, 10, 11, 12, 13, 14, 15, 16, 17, 18, 19, 20, 21, 22, 23, 24, 25, 26, 27, 28]) (isR := []) (isP := [0, 1, 2, 3, 4, 5, 6, 7, 8, 9, 10, 11, 12, 13, 14, 15, 16, 17, 18, 19, 20, 21, 22, 23, 24, 25, 26, 27, 28]) X (c_X3_chain l hfl G ag ad aT au al kk kt nw dw df dr de th tr tm tb td tg tl tn uh ur um ub ud ug ul un lk lp lg lm ls lv p0 hth) gL_chain_X3_chain rfl rfl rfl (by decide +kernel) ⟨Nat.le_of_ble_eq_true rfl, Nat.le_of_ble_eq_true rfl⟩ dL_chain_2 rfl rfl (Nat.le_of_ble_eq_true rfl) ⟨Nat.le_of_ble_eq_true rfl, Nat.le_of_ble_eq_true rfl⟩ 0 rfl rfl ⟨rfl, rfl, rfl, rfl, by decide, rfl, fun _ => rfl⟩ [0, 1, 2, 3, 4, 5, 6, 7, 8, 9, 10, 11, 12, 13, 14, 15, 16, 17, 18, 19, 20, 21, 22, 23, 24, 25, 26, 27, 28] (by decide) rfl (fun E hE => ?_) (fun r9 u9 h9 => ?_)
  · rcases hE with ⟨k1, rfl⟩ | ⟨k2, rfl⟩ | ⟨k3, rfl⟩
    · exact (nok_L_chain_1 k1).elim
    · exact (nok_L_chain_2 k2).elim
    · exact (nok_L_chain_3 k3).elim
  · obtain ⟨k0, rfl⟩ := h9
    exact v_iret (pc := 5) X hr dL_chain_5 () rfl (by show (f_X3_chain_r th p0) = (f_L_chain_r th p0); simp only [f_L_chain_r, if_pos k0])
theorem nok_L_ending_1 {nw : Int32} {de : Nat → Int32} {p0 : Int32} (h : (f_X3_ending_k nw de p0) = 1) : False := by
  unfold f_X3_ending_k at h
  rw [nok_ending] at h
  (repeat' split at h) <;> revert h <;> decide
theorem nok_L_ending_2 {nw : Int32} {de : Nat → Int32} {p0 : Int32} (h : (f_X3_ending_k nw de p0) = 2) : False := by
  unfold f_X3_ending_k at h
  rw [nok_ending] at h
  (repeat' split at h) <;> revert h <;> decide
theorem nok_L_ending_3 {nw : Int32} {de : Nat → Int32} {p0 : Int32} (h : (f_X3_ending_k nw de p0) = 3) : False := by
  unfold f_X3_ending_k at h
  rw [nok_ending] at h
  (repeat' split at h) <;> revert h <;> decide
def f_L_ending_r (nw : Int32) (de : Nat → Int32) (p0 : Int32) : Int32 := (f_X3_ending_r nw de p0)
set_option maxHeartbeats 4000000 in
set_option maxRecDepth 100000 in
theorem c_L_ending (l : Launch) (hfl : l.stackTraces = false) (G : va_G) (ag : Nat → Nat) (ad : Nat → Nat) (aT : Nat → Nat) (au : Nat → Nat) (al : Nat → Nat) (kk : Nat → Int32) (kt : Nat → Int32) (nw : Int32) (dw : Nat → Int32) (df : Nat → Int32) (dr : Nat → Int32) (de : Nat → Int32) (th : Nat → Int32) (tr : Nat → Int32) (tm : Nat → Int32) (tb : Nat → Int32) (td : Nat → Int32) (tg : Nat → Int32) (tl : Nat → Int32) (tn : Int32) (uh : Nat → Int32) (ur : Nat → Int32) (um : Nat → Int32) (ub : Nat → Int32) (ud : Nat → Int32) (ug : Nat → Int32) (ul : Nat → Int32) (un : Int32) (lk : Nat → Int32) (lp : Nat → Int32) (lg : Nat → Int32) (lm : Nat → Int32) (ls : Int32) (lv : Int32) (p0 : Int32) : Ke l yL_ending wsL_ending { frames := 7, cells := 1, slots := 6, locals := 112 } 1 6 G (wG G ag ad aT au al kk kt nw ++ (wD G ad dw df dr de ++ (wT G aT th tr tm tb td tg tl tn ++ (wT G au uh ur um ub ud ug ul un ++ (wL G al lk lp lg lm ls lv))))) [.ref (ag 0), .int p0] (f_L_ending_r nw de p0) (wG G ag ad aT au al kk kt nw ++ (wD G ad dw df dr de ++ (wT G aT th tr tm tb td tg tl tn ++ (wT G au uh ur um ub ud ug ul un ++ (wL G al lk lp lg lm ls lv))))) := by
  refine v_ofhi (cc := cL_ending) (nL := 3) (lv := [(0, .ref (ag 0)), (1, .int p0)]) (by decide) rfl (Nat.le_of_ble_eq_true rfl) rfl ?_
  intro p e s m args below meth c A X ht hr
  refine v_aload_n (pc := 0) X dL_ending_0 0 rfl ?_
  refine v_iload_n (pc := 1) X dL_ending_1 1 rfl ?_
  refine v_xcallVi (pc := 2) (rest := []) (n := 1) (wr := ([] : va_W)) (wn := fun _ => (wG G ag ad aT au al kk kt nw ++ (wD G ad dw df dr de ++ (wT G aT th tr tm tb td tg tl tn ++ (wT G au uh ur um ub ud ug ul un ++ (wL G al lk lp lg lm ls lv)))))) (isC := [0, 1, 2, 3, 4, 5, 6, 7, 8, 9, 10, 11, 12, 13, 14, 15, 16, 17, 18, 19, 20, 21, 22, 23, 24, 25, 26, 27, 28]) (isR := []) (isP := [0, 1, 2, 3, 4, 5, 6, 7, 8, 9, 10, 11, 12, 13, 14, 15, 16, 17, 18, 19, 20, 21, 22, 23, 24, 25, 26, 27, 28]) X (c_X3_ending l hfl G ag ad aT au al kk kt nw dw df dr de th tr tm tb td tg tl tn uh ur um ub ud ug ul un lk lp lg lm ls lv p0) gL_ending_X3_ending rfl rfl rfl (by decide +kernel) ⟨Nat.le_of_ble_eq_true rfl, Nat.le_of_ble_eq_true rfl⟩ dL_ending_2 rfl rfl (Nat.le_of_ble_eq_true rfl) ⟨Nat.le_of_ble_eq_true rfl, Nat.le_of_ble_eq_true rfl⟩ 0 rfl rfl ⟨rfl, rfl, rfl, rfl, by decide, rfl, fun _ => rfl⟩ [0, 1, 2, 3, 4, 5, 6, 7, 8, 9, 10, 11, 12, 13, 14, 15, 16, 17, 18, 19, 20, 21, 22, 23, 24, 25, 26, 27, 28] (by decide) rfl (fun E hE => ?_) (fun r9 u9 h9 => ?_)
  · rcases hE with ⟨k1, rfl⟩ | ⟨k2, rfl⟩ | ⟨k3, rfl⟩
    · exact (nok_L_ending_1 k1).elim
    · exact (nok_L_ending_2 k2).elim
    · exact (nok_L_ending_3 k3).elim
  · obtain ⟨k0, rfl⟩ := h9
    exact v_iret (pc := 5) X hr dL_ending_5 () rfl (by show (f_X3_ending_r nw de p0) = (f_L_ending_r nw de p0); simp only [f_L_ending_r, if_pos k0])
theorem nok_L_sign_1 {p0 : Int32} {p1 : Int32} (h : (f_X3_sign_k p0 p1) = 1) : False := by
  unfold f_X3_sign_k at h
  (repeat' split at h) <;> revert h <;> decide
theorem nok_L_sign_2 {p0 : Int32} {p1 : Int32} (h : (f_X3_sign_k p0 p1) = 2) : False := by
  unfold f_X3_sign_k at h
  (repeat' split at h) <;> revert h <;> decide
theorem nok_L_sign_3 {p0 : Int32} {p1 : Int32} (h : (f_X3_sign_k p0 p1) = 3) : False := by
  unfold f_X3_sign_k at h
  (repeat' split at h) <;> revert h <;> decide
def f_L_sign_r (tg : Nat → Int32) (p0 : Int32) (p1 : Int32) : Int32 := (f_X3_sign_r tg p0 p1)
set_option maxHeartbeats 4000000 in
set_option maxRecDepth 100000 in
theorem c_L_sign (l : Launch) (hfl : l.stackTraces = false) (G : va_G) (ag : Nat → Nat) (ad : Nat → Nat) (aT : Nat → Nat) (au : Nat → Nat) (al : Nat → Nat) (kk : Nat → Int32) (kt : Nat → Int32) (nw : Int32) (dw : Nat → Int32) (df : Nat → Int32) (dr : Nat → Int32) (de : Nat → Int32) (th : Nat → Int32) (tr : Nat → Int32) (tm : Nat → Int32) (tb : Nat → Int32) (td : Nat → Int32) (tg : Nat → Int32) (tl : Nat → Int32) (tn : Int32) (uh : Nat → Int32) (ur : Nat → Int32) (um : Nat → Int32) (ub : Nat → Int32) (ud : Nat → Int32) (ug : Nat → Int32) (ul : Nat → Int32) (un : Int32) (lk : Nat → Int32) (lp : Nat → Int32) (lg : Nat → Int32) (lm : Nat → Int32) (ls : Int32) (lv : Int32) (p0 : Int32) (p1 : Int32) (hbg : ∀ j : Nat, j < 12 → tg j = nI (tg j).toNatClampNeg ∧ (tg j).toNatClampNeg < 1000) : Ke l yL_sign wsL_sign { frames := 7, cells := 2, slots := 20, locals := 132 } 2 20 G (wG G ag ad aT au al kk kt nw ++ (wD G ad dw df dr de ++ (wT G aT th tr tm tb td tg tl tn ++ (wT G au uh ur um ub ud ug ul un ++ (wL G al lk lp lg lm ls lv))))) [.ref (ag 0), .int p0, .int p1] (f_L_sign_r tg p0 p1) (wG G ag ad aT au al kk kt nw ++ (wD G ad dw df dr de ++ (wT G aT th tr tm tb td tg tl tn ++ (wT G au uh ur um ub ud ug ul un ++ (wL G al lk lp lg lm ls lv))))) := by
  refine v_ofhi (cc := cL_sign) (nL := 4) (lv := [(0, .ref (ag 0)), (1, .int p0), (2, .int p1)]) (by decide) rfl (Nat.le_of_ble_eq_true rfl) rfl ?_
  intro p e s m args below meth c A X ht hr
  refine v_aload_n (pc := 0) X dL_sign_0 0 rfl ?_
  refine v_iload_n (pc := 1) X dL_sign_1 1 rfl ?_
  refine v_iload_n (pc := 2) X dL_sign_2 2 rfl ?_
  refine v_xcallVi (pc := 3) (rest := []) (n := 2) (wr := ([] : va_W)) (wn := fun _ => (wG G ag ad aT au al kk kt nw ++ (wD G ad dw df dr de ++ (wT G aT th tr tm tb td tg tl tn ++ (wT G au uh ur um ub ud ug ul un ++ (wL G al lk lp lg lm ls lv)))))) (isC := [0, 1, 2, 3, 4, 5, 6, 7, 8, 9, 10, 11, 12, 13, 14, 15, 16, 17, 18, 19, 20, 21, 22, 23, 24, 25, 26, 27, 28]) (isR := []) (isP := [0, 1, 2, 3, 4, 5, 6, 7, 8, 9, 10, 11, 12, 13, 14, 15, 16, 17, 18, 19, 20, 21, 22, 23, 24, 25, 26, 27, 28]) X (c_X3_sign l hfl G ag ad aT au al kk kt nw dw df dr de th tr tm tb td tg tl tn uh ur um ub ud ug ul un lk lp lg lm ls lv p0 p1 hbg) gL_sign_X3_sign rfl rfl rfl (by decide +kernel) ⟨Nat.le_of_ble_eq_true rfl, Nat.le_of_ble_eq_true rfl⟩ dL_sign_3 rfl rfl (Nat.le_of_ble_eq_true rfl) ⟨Nat.le_of_ble_eq_true rfl, Nat.le_of_ble_eq_true rfl⟩ 0 rfl rfl ⟨rfl, rfl, rfl, rfl, by decide, rfl, fun _ => rfl⟩ [0, 1, 2, 3, 4, 5, 6, 7, 8, 9, 10, 11, 12, 13, 14, 15, 16, 17, 18, 19, 20, 21, 22, 23, 24, 25, 26, 27, 28] (by decide) rfl (fun E hE => ?_) (fun r9 u9 h9 => ?_)
  · rcases hE with ⟨k1, rfl⟩ | ⟨k2, rfl⟩ | ⟨k3, rfl⟩
    · exact (nok_L_sign_1 k1).elim
    · exact (nok_L_sign_2 k2).elim
    · exact (nok_L_sign_3 k3).elim
  · obtain ⟨k0, rfl⟩ := h9
    exact v_iret (pc := 6) X hr dL_sign_6 () rfl (by show (f_X3_sign_r tg p0 p1) = (f_L_sign_r tg p0 p1); simp only [f_L_sign_r, if_pos k0])
theorem nok_L_keyOf_1 {p0 : Int32} {p1 : Int32} (h : (f_X3_keyOf_k p0 p1) = 1) : False := by
  unfold f_X3_keyOf_k at h
  (repeat' split at h) <;> revert h <;> decide
theorem nok_L_keyOf_2 {p0 : Int32} {p1 : Int32} (h : (f_X3_keyOf_k p0 p1) = 2) : False := by
  unfold f_X3_keyOf_k at h
  (repeat' split at h) <;> revert h <;> decide
theorem nok_L_keyOf_3 {p0 : Int32} {p1 : Int32} (h : (f_X3_keyOf_k p0 p1) = 3) : False := by
  unfold f_X3_keyOf_k at h
  (repeat' split at h) <;> revert h <;> decide
def f_L_keyOf_r (kk : Nat → Int32) (kt : Nat → Int32) (nw : Int32) (de : Nat → Int32) (th : Nat → Int32) (td : Nat → Int32) (tl : Nat → Int32) (p0 : Int32) (p1 : Int32) : Int32 := (f_X3_keyOf_r kk kt nw de th td tl p0 p1)
set_option maxHeartbeats 4000000 in
set_option maxRecDepth 100000 in
theorem c_L_keyOf (l : Launch) (hfl : l.stackTraces = false) (G : va_G) (ag : Nat → Nat) (ad : Nat → Nat) (aT : Nat → Nat) (au : Nat → Nat) (al : Nat → Nat) (kk : Nat → Int32) (kt : Nat → Int32) (nw : Int32) (dw : Nat → Int32) (df : Nat → Int32) (dr : Nat → Int32) (de : Nat → Int32) (th : Nat → Int32) (tr : Nat → Int32) (tm : Nat → Int32) (tb : Nat → Int32) (td : Nat → Int32) (tg : Nat → Int32) (tl : Nat → Int32) (tn : Int32) (uh : Nat → Int32) (ur : Nat → Int32) (um : Nat → Int32) (ub : Nat → Int32) (ud : Nat → Int32) (ug : Nat → Int32) (ul : Nat → Int32) (un : Int32) (lk : Nat → Int32) (lp : Nat → Int32) (lg : Nat → Int32) (lm : Nat → Int32) (ls : Int32) (lv : Int32) (p0 : Int32) (p1 : Int32) (hth : ∀ j : Nat, j < 12 → inN (th j)) : Ke l yL_keyOf wsL_keyOf { frames := 7, cells := 1, slots := 6, locals := 130 } 1 6 G (wG G ag ad aT au al kk kt nw ++ (wD G ad dw df dr de ++ (wT G aT th tr tm tb td tg tl tn ++ (wT G au uh ur um ub ud ug ul un ++ (wL G al lk lp lg lm ls lv))))) [.ref (ag 0), .int p0, .int p1] (f_L_keyOf_r kk kt nw de th td tl p0 p1) (wG G ag ad aT au al kk kt nw ++ (wD G ad dw df dr de ++ (wT G aT th tr tm tb td tg tl tn ++ (wT G au uh ur um ub ud ug ul un ++ (wL G al lk lp lg lm ls lv))))) := by
  refine v_ofhi (cc := cL_keyOf) (nL := 4) (lv := [(0, .ref (ag 0)), (1, .int p0), (2, .int p1)]) (by decide) rfl (Nat.le_of_ble_eq_true rfl) rfl ?_
  intro p e s m args below meth c A X ht hr
  refine v_aload_n (pc := 0) X dL_keyOf_0 0 rfl ?_
  refine v_iload_n (pc := 1) X dL_keyOf_1 1 rfl ?_
  refine v_iload_n (pc := 2) X dL_keyOf_2 2 rfl ?_
  refine v_xcallVi (pc := 3) (rest := []) (n := 2) (wr := ([] : va_W)) (wn := fun _ => (wG G ag ad aT au al kk kt nw ++ (wD G ad dw df dr de ++ (wT G aT th tr tm tb td tg tl tn ++ (wT G au uh ur um ub ud ug ul un ++ (wL G al lk lp lg lm ls lv)))))) (isC := [0, 1, 2, 3, 4, 5, 6, 7, 8, 9, 10, 11, 12, 13, 14, 15, 16, 17, 18, 19, 20, 21, 22, 23, 24, 25, 26, 27, 28]) (isR := []) (isP := [0, 1, 2, 3, 4, 5, 6, 7, 8, 9, 10, 11, 12, 13, 14, 15, 16, 17, 18, 19, 20, 21, 22, 23, 24, 25, 26, 27, 28]) X (c_X3_keyOf l hfl G ag ad aT au al kk kt nw dw df dr de th tr tm tb td tg tl tn uh ur um ub ud ug ul un lk lp lg lm ls lv p0 p1 hth) gL_keyOf_X3_keyOf rfl rfl rfl (by decide +kernel) ⟨Nat.le_of_ble_eq_true rfl, Nat.le_of_ble_eq_true rfl⟩ dL_keyOf_3 rfl rfl (Nat.le_of_ble_eq_true rfl) ⟨Nat.le_of_ble_eq_true rfl, Nat.le_of_ble_eq_true rfl⟩ 0 rfl rfl ⟨rfl, rfl, rfl, rfl, by decide, rfl, fun _ => rfl⟩ [0, 1, 2, 3, 4, 5, 6, 7, 8, 9, 10, 11, 12, 13, 14, 15, 16, 17, 18, 19, 20, 21, 22, 23, 24, 25, 26, 27, 28] (by decide) rfl (fun E hE => ?_) (fun r9 u9 h9 => ?_)
  · rcases hE with ⟨k1, rfl⟩ | ⟨k2, rfl⟩ | ⟨k3, rfl⟩
    · exact (nok_L_keyOf_1 k1).elim
    · exact (nok_L_keyOf_2 k2).elim
    · exact (nok_L_keyOf_3 k3).elim
  · obtain ⟨k0, rfl⟩ := h9
    exact v_iret (pc := 6) X hr dL_keyOf_6 () rfl (by show (f_X3_keyOf_r kk kt nw de th td tl p0 p1) = (f_L_keyOf_r kk kt nw de th td tl p0 p1); simp only [f_L_keyOf_r, if_pos k0])
