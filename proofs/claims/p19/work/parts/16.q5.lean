def f_L_low_r (p0 : Int32) (p1 : Int32) : Int32 := ((p0 &&& 2147483647) - (p0 &&& 2147483647) / p1 * p1)
set_option maxHeartbeats 4000000 in
set_option maxRecDepth 100000 in
theorem c_L_low (l : Launch) (G : va_G) (p0 : Int32) (p1 : Int32) (h0 : ¬ p1 = 0) : Ke l yL_low wsL_low { frames := 0, cells := 0, slots := 0, locals := 0 } 0 0 G ([] : va_W) [.int p0, .int p1] (f_L_low_r p0 p1) ([] : va_W) := by
  refine v_ofi (cc := cL_low) (nL := 2) (lv := [(0, .int p0), (1, .int p1)]) (by decide) rfl (Nat.le_of_ble_eq_true rfl) rfl ?_
  intro p e s m args below meth c A X hr
  refine v_iload_n (pc := 0) X dL_low_0 0 rfl ?_
  refine v_ldc (pc := 1) (v := 2147483647) (i := 1) X dL_low_1 rfl ?_
  refine v_iand (pc := 3) X dL_low_3 rfl ?_
  refine v_iload_n (pc := 4) X dL_low_4 1 rfl ?_
  refine v_irem (pc := 5) X dL_low_5 (h0) rfl ?_
  exact v_iret (pc := 6) X hr dL_low_6 () rfl (by show ((p0 &&& 2147483647) - (p0 &&& 2147483647) / p1 * p1) = (f_L_low_r p0 p1); simp only [f_L_low_r])
/-! ### low -/
theorem low_is (x : Int32) {N : Nat} (h0 : 0 < N) (hN : N < 2 ^ 31) : ∃ j, j < N ∧ f_L_low_r x (nI N) = nI j := by
  unfold f_L_low_r
  rw [pk_and x 31 (by decide), pk_rem (Nat.mod_lt _ (by decide)) h0 hN]
  exact ⟨_, Nat.mod_lt _ h0, rfl⟩
theorem c_L_of0 (l : Launch) (hfl : l.stackTraces = false) (G : va_G) (ag : Nat → Nat) (ad : Nat → Nat) (aT : Nat → Nat) (au : Nat → Nat) (al : Nat → Nat) (kk : Nat → Int32) (kt : Nat → Int32) (nw : Int32) (dw : Nat → Int32) (df : Nat → Int32) (dr : Nat → Int32) (de : Nat → Int32) (th : Nat → Int32) (tr : Nat → Int32) (tm : Nat → Int32) (tb : Nat → Int32) (td : Nat → Int32) (tg : Nat → Int32) (tl : Nat → Int32) (tn : Int32) (uh : Nat → Int32) (ur : Nat → Int32) (um : Nat → Int32) (ub : Nat → Int32) (ud : Nat → Int32) (ug : Nat → Int32) (ul : Nat → Int32) (un : Int32) (lk : Nat → Int32) (lp : Nat → Int32) (lg : Nat → Int32) (lm : Nat → Int32) (ls : Int32) (lv : Int32) (p0 : Int32) (h0 : vp_in p0 12) (hth : ∀ j : Nat, j < 12 → inN (th j)) : Ke l yL_of wsL_of { frames := 7, cells := 1, slots := 6, locals := 112 } 1 6 G (wG G ag ad aT au al kk kt nw ++ (wD G ad dw df dr de ++ (wT G aT th tr tm tb td tg tl tn ++ (wT G au uh ur um ub ud ug ul un ++ (wL G al lk lp lg lm ls lv))))) [.ref (ag 0), .int p0, .int 0] (f_X0_isInSession_r de p0 nw) (wG G ag ad aT au al kk kt nw ++ (wD G ad dw df dr de ++ (wT G aT th tr tm tb td tg tl tn ++ (wT G au uh ur um ub ud ug ul un ++ (wL G al lk lp lg lm ls lv))))) := by
  have h := c_L_of l hfl G ag ad aT au al kk kt nw dw df dr de th tr tm tb td tg tl tn uh ur um ub ud ug ul un lk lp lg lm ls lv p0 0 hth
  rwa [show (f_L_of_r nw df de th tr td tg tl p0 0) = (f_X0_isInSession_r de p0 nw) from of_0 h0] at h
theorem c_L_of1 (l : Launch) (hfl : l.stackTraces = false) (G : va_G) (ag : Nat → Nat) (ad : Nat → Nat) (aT : Nat → Nat) (au : Nat → Nat) (al : Nat → Nat) (kk : Nat → Int32) (kt : Nat → Int32) (nw : Int32) (dw : Nat → Int32) (df : Nat → Int32) (dr : Nat → Int32) (de : Nat → Int32) (th : Nat → Int32) (tr : Nat → Int32) (tm : Nat → Int32) (tb : Nat → Int32) (td : Nat → Int32) (tg : Nat → Int32) (tl : Nat → Int32) (tn : Int32) (uh : Nat → Int32) (ur : Nat → Int32) (um : Nat → Int32) (ub : Nat → Int32) (ud : Nat → Int32) (ug : Nat → Int32) (ul : Nat → Int32) (un : Int32) (lk : Nat → Int32) (lp : Nat → Int32) (lg : Nat → Int32) (lm : Nat → Int32) (ls : Int32) (lv : Int32) (p0 : Int32) (h0 : vp_in p0 12) (hth : ∀ j : Nat, j < 12 → inN (th j)) : Ke l yL_of wsL_of { frames := 7, cells := 1, slots := 6, locals := 112 } 1 6 G (wG G ag ad aT au al kk kt nw ++ (wD G ad dw df dr de ++ (wT G aT th tr tm tb td tg tl tn ++ (wT G au uh ur um ub ud ug ul un ++ (wL G al lk lp lg lm ls lv))))) [.ref (ag 0), .int p0, .int 1] (f_X2_isTrusted_r th p0) (wG G ag ad aT au al kk kt nw ++ (wD G ad dw df dr de ++ (wT G aT th tr tm tb td tg tl tn ++ (wT G au uh ur um ub ud ug ul un ++ (wL G al lk lp lg lm ls lv))))) := by
  have h := c_L_of l hfl G ag ad aT au al kk kt nw dw df dr de th tr tm tb td tg tl tn uh ur um ub ud ug ul un lk lp lg lm ls lv p0 1 hth
  rwa [show (f_L_of_r nw df de th tr td tg tl p0 1) = (f_X2_isTrusted_r th p0) from of_1 h0] at h
theorem c_L_of2 (l : Launch) (hfl : l.stackTraces = false) (G : va_G) (ag : Nat → Nat) (ad : Nat → Nat) (aT : Nat → Nat) (au : Nat → Nat) (al : Nat → Nat) (kk : Nat → Int32) (kt : Nat → Int32) (nw : Int32) (dw : Nat → Int32) (df : Nat → Int32) (dr : Nat → Int32) (de : Nat → Int32) (th : Nat → Int32) (tr : Nat → Int32) (tm : Nat → Int32) (tb : Nat → Int32) (td : Nat → Int32) (tg : Nat → Int32) (tl : Nat → Int32) (tn : Int32) (uh : Nat → Int32) (ur : Nat → Int32) (um : Nat → Int32) (ub : Nat → Int32) (ud : Nat → Int32) (ug : Nat → Int32) (ul : Nat → Int32) (un : Int32) (lk : Nat → Int32) (lp : Nat → Int32) (lg : Nat → Int32) (lm : Nat → Int32) (ls : Int32) (lv : Int32) (p0 : Int32) (h0 : vp_in p0 12) (hth : ∀ j : Nat, j < 12 → inN (th j)) : Ke l yL_of wsL_of { frames := 7, cells := 1, slots := 6, locals := 112 } 1 6 G (wG G ag ad aT au al kk kt nw ++ (wD G ad dw df dr de ++ (wT G aT th tr tm tb td tg tl tn ++ (wT G au uh ur um ub ud ug ul un ++ (wL G al lk lp lg lm ls lv))))) [.ref (ag 0), .int p0, .int 2] (f_X2_isTainted_r th td tl p0) (wG G ag ad aT au al kk kt nw ++ (wD G ad dw df dr de ++ (wT G aT th tr tm tb td tg tl tn ++ (wT G au uh ur um ub ud ug ul un ++ (wL G al lk lp lg lm ls lv))))) := by
  have h := c_L_of l hfl G ag ad aT au al kk kt nw dw df dr de th tr tm tb td tg tl tn uh ur um ub ud ug ul un lk lp lg lm ls lv p0 2 hth
  rwa [show (f_L_of_r nw df de th tr td tg tl p0 2) = (f_X2_isTainted_r th td tl p0) from of_2 h0] at h
theorem c_L_of3 (l : Launch) (hfl : l.stackTraces = false) (G : va_G) (ag : Nat → Nat) (ad : Nat → Nat) (aT : Nat → Nat) (au : Nat → Nat) (al : Nat → Nat) (kk : Nat → Int32) (kt : Nat → Int32) (nw : Int32) (dw : Nat → Int32) (df : Nat → Int32) (dr : Nat → Int32) (de : Nat → Int32) (th : Nat → Int32) (tr : Nat → Int32) (tm : Nat → Int32) (tb : Nat → Int32) (td : Nat → Int32) (tg : Nat → Int32) (tl : Nat → Int32) (tn : Int32) (uh : Nat → Int32) (ur : Nat → Int32) (um : Nat → Int32) (ub : Nat → Int32) (ud : Nat → Int32) (ug : Nat → Int32) (ul : Nat → Int32) (un : Int32) (lk : Nat → Int32) (lp : Nat → Int32) (lg : Nat → Int32) (lm : Nat → Int32) (ls : Int32) (lv : Int32) (p0 : Int32) (h0 : vp_in p0 12) (hth : ∀ j : Nat, j < 12 → inN (th j)) : Ke l yL_of wsL_of { frames := 7, cells := 1, slots := 6, locals := 112 } 1 6 G (wG G ag ad aT au al kk kt nw ++ (wD G ad dw df dr de ++ (wT G aT th tr tm tb td tg tl tn ++ (wT G au uh ur um ub ud ug ul un ++ (wL G al lk lp lg lm ls lv))))) [.ref (ag 0), .int p0, .int 3] (f_X2_roomsOf_r th tr p0) (wG G ag ad aT au al kk kt nw ++ (wD G ad dw df dr de ++ (wT G aT th tr tm tb td tg tl tn ++ (wT G au uh ur um ub ud ug ul un ++ (wL G al lk lp lg lm ls lv))))) := by
  have h := c_L_of l hfl G ag ad aT au al kk kt nw dw df dr de th tr tm tb td tg tl tn uh ur um ub ud ug ul un lk lp lg lm ls lv p0 3 hth
  rwa [show (f_L_of_r nw df de th tr td tg tl p0 3) = (f_X2_roomsOf_r th tr p0) from of_3 h0] at h
theorem c_L_of4 (l : Launch) (hfl : l.stackTraces = false) (G : va_G) (ag : Nat → Nat) (ad : Nat → Nat) (aT : Nat → Nat) (au : Nat → Nat) (al : Nat → Nat) (kk : Nat → Int32) (kt : Nat → Int32) (nw : Int32) (dw : Nat → Int32) (df : Nat → Int32) (dr : Nat → Int32) (de : Nat → Int32) (th : Nat → Int32) (tr : Nat → Int32) (tm : Nat → Int32) (tb : Nat → Int32) (td : Nat → Int32) (tg : Nat → Int32) (tl : Nat → Int32) (tn : Int32) (uh : Nat → Int32) (ur : Nat → Int32) (um : Nat → Int32) (ub : Nat → Int32) (ud : Nat → Int32) (ug : Nat → Int32) (ul : Nat → Int32) (un : Int32) (lk : Nat → Int32) (lp : Nat → Int32) (lg : Nat → Int32) (lm : Nat → Int32) (ls : Int32) (lv : Int32) (p0 : Int32) (h0 : vp_in p0 12) (hth : ∀ j : Nat, j < 12 → inN (th j)) : Ke l yL_of wsL_of { frames := 7, cells := 1, slots := 6, locals := 112 } 1 6 G (wG G ag ad aT au al kk kt nw ++ (wD G ad dw df dr de ++ (wT G aT th tr tm tb td tg tl tn ++ (wT G au uh ur um ub ud ug ul un ++ (wL G al lk lp lg lm ls lv))))) [.ref (ag 0), .int p0, .int 4] (th (p0).toNatClampNeg) (wG G ag ad aT au al kk kt nw ++ (wD G ad dw df dr de ++ (wT G aT th tr tm tb td tg tl tn ++ (wT G au uh ur um ub ud ug ul un ++ (wL G al lk lp lg lm ls lv))))) := by
  have h := c_L_of l hfl G ag ad aT au al kk kt nw dw df dr de th tr tm tb td tg tl tn uh ur um ub ud ug ul un lk lp lg lm ls lv p0 4 hth
  rwa [show (f_L_of_r nw df de th tr td tg tl p0 4) = (th (p0).toNatClampNeg) from of_4 h0] at h
theorem c_L_of5 (l : Launch) (hfl : l.stackTraces = false) (G : va_G) (ag : Nat → Nat) (ad : Nat → Nat) (aT : Nat → Nat) (au : Nat → Nat) (al : Nat → Nat) (kk : Nat → Int32) (kt : Nat → Int32) (nw : Int32) (dw : Nat → Int32) (df : Nat → Int32) (dr : Nat → Int32) (de : Nat → Int32) (th : Nat → Int32) (tr : Nat → Int32) (tm : Nat → Int32) (tb : Nat → Int32) (td : Nat → Int32) (tg : Nat → Int32) (tl : Nat → Int32) (tn : Int32) (uh : Nat → Int32) (ur : Nat → Int32) (um : Nat → Int32) (ub : Nat → Int32) (ud : Nat → Int32) (ug : Nat → Int32) (ul : Nat → Int32) (un : Int32) (lk : Nat → Int32) (lp : Nat → Int32) (lg : Nat → Int32) (lm : Nat → Int32) (ls : Int32) (lv : Int32) (p0 : Int32) (h0 : vp_in p0 12) (hth : ∀ j : Nat, j < 12 → inN (th j)) : Ke l yL_of wsL_of { frames := 7, cells := 1, slots := 6, locals := 112 } 1 6 G (wG G ag ad aT au al kk kt nw ++ (wD G ad dw df dr de ++ (wT G aT th tr tm tb td tg tl tn ++ (wT G au uh ur um ub ud ug ul un ++ (wL G al lk lp lg lm ls lv))))) [.ref (ag 0), .int p0, .int 5] (df (p0).toNatClampNeg) (wG G ag ad aT au al kk kt nw ++ (wD G ad dw df dr de ++ (wT G aT th tr tm tb td tg tl tn ++ (wT G au uh ur um ub ud ug ul un ++ (wL G al lk lp lg lm ls lv))))) := by
  have h := c_L_of l hfl G ag ad aT au al kk kt nw dw df dr de th tr tm tb td tg tl tn uh ur um ub ud ug ul un lk lp lg lm ls lv p0 5 hth
  rwa [show (f_L_of_r nw df de th tr td tg tl p0 5) = (df (p0).toNatClampNeg) from of_5 h0] at h
theorem c_L_of6 (l : Launch) (hfl : l.stackTraces = false) (G : va_G) (ag : Nat → Nat) (ad : Nat → Nat) (aT : Nat → Nat) (au : Nat → Nat) (al : Nat → Nat) (kk : Nat → Int32) (kt : Nat → Int32) (nw : Int32) (dw : Nat → Int32) (df : Nat → Int32) (dr : Nat → Int32) (de : Nat → Int32) (th : Nat → Int32) (tr : Nat → Int32) (tm : Nat → Int32) (tb : Nat → Int32) (td : Nat → Int32) (tg : Nat → Int32) (tl : Nat → Int32) (tn : Int32) (uh : Nat → Int32) (ur : Nat → Int32) (um : Nat → Int32) (ub : Nat → Int32) (ud : Nat → Int32) (ug : Nat → Int32) (ul : Nat → Int32) (un : Int32) (lk : Nat → Int32) (lp : Nat → Int32) (lg : Nat → Int32) (lm : Nat → Int32) (ls : Int32) (lv : Int32) (p0 : Int32) (h0 : vp_in p0 12) (hth : ∀ j : Nat, j < 12 → inN (th j)) : Ke l yL_of wsL_of { frames := 7, cells := 1, slots := 6, locals := 112 } 1 6 G (wG G ag ad aT au al kk kt nw ++ (wD G ad dw df dr de ++ (wT G aT th tr tm tb td tg tl tn ++ (wT G au uh ur um ub ud ug ul un ++ (wL G al lk lp lg lm ls lv))))) [.ref (ag 0), .int p0, .int 6] (vE de nw p0) (wG G ag ad aT au al kk kt nw ++ (wD G ad dw df dr de ++ (wT G aT th tr tm tb td tg tl tn ++ (wT G au uh ur um ub ud ug ul un ++ (wL G al lk lp lg lm ls lv))))) := by
  have h := c_L_of l hfl G ag ad aT au al kk kt nw dw df dr de th tr tm tb td tg tl tn uh ur um ub ud ug ul un lk lp lg lm ls lv p0 6 hth
  rwa [show (f_L_of_r nw df de th tr td tg tl p0 6) = (vE de nw p0) from of_6 h0] at h
theorem c_L_of7 (l : Launch) (hfl : l.stackTraces = false) (G : va_G) (ag : Nat → Nat) (ad : Nat → Nat) (aT : Nat → Nat) (au : Nat → Nat) (al : Nat → Nat) (kk : Nat → Int32) (kt : Nat → Int32) (nw : Int32) (dw : Nat → Int32) (df : Nat → Int32) (dr : Nat → Int32) (de : Nat → Int32) (th : Nat → Int32) (tr : Nat → Int32) (tm : Nat → Int32) (tb : Nat → Int32) (td : Nat → Int32) (tg : Nat → Int32) (tl : Nat → Int32) (tn : Int32) (uh : Nat → Int32) (ur : Nat → Int32) (um : Nat → Int32) (ub : Nat → Int32) (ud : Nat → Int32) (ug : Nat → Int32) (ul : Nat → Int32) (un : Int32) (lk : Nat → Int32) (lp : Nat → Int32) (lg : Nat → Int32) (lm : Nat → Int32) (ls : Int32) (lv : Int32) (p0 : Int32) (h0 : vp_in p0 12) (hth : ∀ j : Nat, j < 12 → inN (th j)) : Ke l yL_of wsL_of { frames := 7, cells := 1, slots := 6, locals := 112 } 1 6 G (wG G ag ad aT au al kk kt nw ++ (wD G ad dw df dr de ++ (wT G aT th tr tm tb td tg tl tn ++ (wT G au uh ur um ub ud ug ul un ++ (wL G al lk lp lg lm ls lv))))) [.ref (ag 0), .int p0, .int 7] (tg (p0).toNatClampNeg) (wG G ag ad aT au al kk kt nw ++ (wD G ad dw df dr de ++ (wT G aT th tr tm tb td tg tl tn ++ (wT G au uh ur um ub ud ug ul un ++ (wL G al lk lp lg lm ls lv))))) := by
  have h := c_L_of l hfl G ag ad aT au al kk kt nw dw df dr de th tr tm tb td tg tl tn uh ur um ub ud ug ul un lk lp lg lm ls lv p0 7 hth
  rwa [show (f_L_of_r nw df de th tr td tg tl p0 7) = (tg (p0).toNatClampNeg) from of_7 h0] at h
theorem c_L_of8 (l : Launch) (hfl : l.stackTraces = false) (G : va_G) (ag : Nat → Nat) (ad : Nat → Nat) (aT : Nat → Nat) (au : Nat → Nat) (al : Nat → Nat) (kk : Nat → Int32) (kt : Nat → Int32) (nw : Int32) (dw : Nat → Int32) (df : Nat → Int32) (dr : Nat → Int32) (de : Nat → Int32) (th : Nat → Int32) (tr : Nat → Int32) (tm : Nat → Int32) (tb : Nat → Int32) (td : Nat → Int32) (tg : Nat → Int32) (tl : Nat → Int32) (tn : Int32) (uh : Nat → Int32) (ur : Nat → Int32) (um : Nat → Int32) (ub : Nat → Int32) (ud : Nat → Int32) (ug : Nat → Int32) (ul : Nat → Int32) (un : Int32) (lk : Nat → Int32) (lp : Nat → Int32) (lg : Nat → Int32) (lm : Nat → Int32) (ls : Int32) (lv : Int32) (p0 : Int32) (h0 : vp_in p0 12) (hth : ∀ j : Nat, j < 12 → inN (th j)) : Ke l yL_of wsL_of { frames := 7, cells := 1, slots := 6, locals := 112 } 1 6 G (wG G ag ad aT au al kk kt nw ++ (wD G ad dw df dr de ++ (wT G aT th tr tm tb td tg tl tn ++ (wT G au uh ur um ub ud ug ul un ++ (wL G al lk lp lg lm ls lv))))) [.ref (ag 0), .int p0, .int 8] (-1000002) (wG G ag ad aT au al kk kt nw ++ (wD G ad dw df dr de ++ (wT G aT th tr tm tb td tg tl tn ++ (wT G au uh ur um ub ud ug ul un ++ (wL G al lk lp lg lm ls lv))))) := by
  have h := c_L_of l hfl G ag ad aT au al kk kt nw dw df dr de th tr tm tb td tg tl tn uh ur um ub ud ug ul un lk lp lg lm ls lv p0 8 hth
  rwa [show (f_L_of_r nw df de th tr td tg tl p0 8) = (-1000002) from of_8 h0] at h
theorem c_L_keyOf0 (l : Launch) (hfl : l.stackTraces = false) (G : va_G) (ag : Nat → Nat) (ad : Nat → Nat) (aT : Nat → Nat) (au : Nat → Nat) (al : Nat → Nat) (kk : Nat → Int32) (kt : Nat → Int32) (nw : Int32) (dw : Nat → Int32) (df : Nat → Int32) (dr : Nat → Int32) (de : Nat → Int32) (th : Nat → Int32) (tr : Nat → Int32) (tm : Nat → Int32) (tb : Nat → Int32) (td : Nat → Int32) (tg : Nat → Int32) (tl : Nat → Int32) (tn : Int32) (uh : Nat → Int32) (ur : Nat → Int32) (um : Nat → Int32) (ub : Nat → Int32) (ud : Nat → Int32) (ug : Nat → Int32) (ul : Nat → Int32) (un : Int32) (lk : Nat → Int32) (lp : Nat → Int32) (lg : Nat → Int32) (lm : Nat → Int32) (ls : Int32) (lv : Int32) (p0 : Int32) (h0 : vp_in p0 4) (hth : ∀ j : Nat, j < 12 → inN (th j)) : Ke l yL_keyOf wsL_keyOf { frames := 7, cells := 1, slots := 6, locals := 130 } 1 6 G (wG G ag ad aT au al kk kt nw ++ (wD G ad dw df dr de ++ (wT G aT th tr tm tb td tg tl tn ++ (wT G au uh ur um ub ud ug ul un ++ (wL G al lk lp lg lm ls lv))))) [.ref (ag 0), .int p0, .int 0] (kk (p0).toNatClampNeg) (wG G ag ad aT au al kk kt nw ++ (wD G ad dw df dr de ++ (wT G aT th tr tm tb td tg tl tn ++ (wT G au uh ur um ub ud ug ul un ++ (wL G al lk lp lg lm ls lv))))) := by
  have h := c_L_keyOf l hfl G ag ad aT au al kk kt nw dw df dr de th tr tm tb td tg tl tn uh ur um ub ud ug ul un lk lp lg lm ls lv p0 0 hth
  rwa [show (f_L_keyOf_r kk kt nw de th td tl p0 0) = (kk (p0).toNatClampNeg) from keyOf_0 h0] at h
theorem c_L_keyOf1 (l : Launch) (hfl : l.stackTraces = false) (G : va_G) (ag : Nat → Nat) (ad : Nat → Nat) (aT : Nat → Nat) (au : Nat → Nat) (al : Nat → Nat) (kk : Nat → Int32) (kt : Nat → Int32) (nw : Int32) (dw : Nat → Int32) (df : Nat → Int32) (dr : Nat → Int32) (de : Nat → Int32) (th : Nat → Int32) (tr : Nat → Int32) (tm : Nat → Int32) (tb : Nat → Int32) (td : Nat → Int32) (tg : Nat → Int32) (tl : Nat → Int32) (tn : Int32) (uh : Nat → Int32) (ur : Nat → Int32) (um : Nat → Int32) (ub : Nat → Int32) (ud : Nat → Int32) (ug : Nat → Int32) (ul : Nat → Int32) (un : Int32) (lk : Nat → Int32) (lp : Nat → Int32) (lg : Nat → Int32) (lm : Nat → Int32) (ls : Int32) (lv : Int32) (p0 : Int32) (h0 : vp_in p0 4) (hth : ∀ j : Nat, j < 12 → inN (th j)) : Ke l yL_keyOf wsL_keyOf { frames := 7, cells := 1, slots := 6, locals := 130 } 1 6 G (wG G ag ad aT au al kk kt nw ++ (wD G ad dw df dr de ++ (wT G aT th tr tm tb td tg tl tn ++ (wT G au uh ur um ub ud ug ul un ++ (wL G al lk lp lg lm ls lv))))) [.ref (ag 0), .int p0, .int 1] (kt (p0).toNatClampNeg) (wG G ag ad aT au al kk kt nw ++ (wD G ad dw df dr de ++ (wT G aT th tr tm tb td tg tl tn ++ (wT G au uh ur um ub ud ug ul un ++ (wL G al lk lp lg lm ls lv))))) := by
  have h := c_L_keyOf l hfl G ag ad aT au al kk kt nw dw df dr de th tr tm tb td tg tl tn uh ur um ub ud ug ul un lk lp lg lm ls lv p0 1 hth
  rwa [show (f_L_keyOf_r kk kt nw de th td tl p0 1) = (kt (p0).toNatClampNeg) from keyOf_1 h0] at h
theorem c_L_keyOf2 (l : Launch) (hfl : l.stackTraces = false) (G : va_G) (ag : Nat → Nat) (ad : Nat → Nat) (aT : Nat → Nat) (au : Nat → Nat) (al : Nat → Nat) (kk : Nat → Int32) (kt : Nat → Int32) (nw : Int32) (dw : Nat → Int32) (df : Nat → Int32) (dr : Nat → Int32) (de : Nat → Int32) (th : Nat → Int32) (tr : Nat → Int32) (tm : Nat → Int32) (tb : Nat → Int32) (td : Nat → Int32) (tg : Nat → Int32) (tl : Nat → Int32) (tn : Int32) (uh : Nat → Int32) (ur : Nat → Int32) (um : Nat → Int32) (ub : Nat → Int32) (ud : Nat → Int32) (ug : Nat → Int32) (ul : Nat → Int32) (un : Int32) (lk : Nat → Int32) (lp : Nat → Int32) (lg : Nat → Int32) (lm : Nat → Int32) (ls : Int32) (lv : Int32) (p0 : Int32) (h0 : vp_in p0 4) (hth : ∀ j : Nat, j < 12 → inN (th j)) : Ke l yL_keyOf wsL_keyOf { frames := 7, cells := 1, slots := 6, locals := 130 } 1 6 G (wG G ag ad aT au al kk kt nw ++ (wD G ad dw df dr de ++ (wT G aT th tr tm tb td tg tl tn ++ (wT G au uh ur um ub ud ug ul un ++ (wL G al lk lp lg lm ls lv))))) [.ref (ag 0), .int p0, .int 2] (f_X3_countUsers_r kk nw de th td tl p0) (wG G ag ad aT au al kk kt nw ++ (wD G ad dw df dr de ++ (wT G aT th tr tm tb td tg tl tn ++ (wT G au uh ur um ub ud ug ul un ++ (wL G al lk lp lg lm ls lv))))) := by
  have h := c_L_keyOf l hfl G ag ad aT au al kk kt nw dw df dr de th tr tm tb td tg tl tn uh ur um ub ud ug ul un lk lp lg lm ls lv p0 2 hth
  rwa [show (f_L_keyOf_r kk kt nw de th td tl p0 2) = (f_X3_countUsers_r kk nw de th td tl p0) from keyOf_2 h0] at h
theorem c_L_chainq (l : Launch) (hfl : l.stackTraces = false) (G : va_G) (ag : Nat → Nat) (ad : Nat → Nat) (aT : Nat → Nat) (au : Nat → Nat) (al : Nat → Nat) (kk : Nat → Int32) (kt : Nat → Int32) (nw : Int32) (dw : Nat → Int32) (df : Nat → Int32) (dr : Nat → Int32) (de : Nat → Int32) (th : Nat → Int32) (tr : Nat → Int32) (tm : Nat → Int32) (tb : Nat → Int32) (td : Nat → Int32) (tg : Nat → Int32) (tl : Nat → Int32) (tn : Int32) (uh : Nat → Int32) (ur : Nat → Int32) (um : Nat → Int32) (ub : Nat → Int32) (ud : Nat → Int32) (ug : Nat → Int32) (ul : Nat → Int32) (un : Int32) (lk : Nat → Int32) (lp : Nat → Int32) (lg : Nat → Int32) (lm : Nat → Int32) (ls : Int32) (lv : Int32) (p0 : Int32) (h0 : vp_in p0 12) (hth : ∀ j : Nat, j < 12 → inN (th j)) : Ke l yL_chain wsL_chain { frames := 7, cells := 1, slots := 6, locals := 111 } 1 6 G (wG G ag ad aT au al kk kt nw ++ (wD G ad dw df dr de ++ (wT G aT th tr tm tb td tg tl tn ++ (wT G au uh ur um ub ud ug ul un ++ (wL G al lk lp lg lm ls lv))))) [.ref (ag 0), .int p0] (f_X2_stepsToStaff_r th p0) (wG G ag ad aT au al kk kt nw ++ (wD G ad dw df dr de ++ (wT G aT th tr tm tb td tg tl tn ++ (wT G au uh ur um ub ud ug ul un ++ (wL G al lk lp lg lm ls lv))))) := by
  have h := c_L_chain l hfl G ag ad aT au al kk kt nw dw df dr de th tr tm tb td tg tl tn uh ur um ub ud ug ul un lk lp lg lm ls lv p0 hth
  rwa [show (f_L_chain_r th p0) = (f_X2_stepsToStaff_r th p0) from chain_q h0] at h
theorem c_L_useq (l : Launch) (hfl : l.stackTraces = false) (G : va_G) (ag : Nat → Nat) (ad : Nat → Nat) (aT : Nat → Nat) (au : Nat → Nat) (al : Nat → Nat) (kk : Nat → Int32) (kt : Nat → Int32) (nw : Int32) (dw : Nat → Int32) (df : Nat → Int32) (dr : Nat → Int32) (de : Nat → Int32) (th : Nat → Int32) (tr : Nat → Int32) (tm : Nat → Int32) (tb : Nat → Int32) (td : Nat → Int32) (tg : Nat → Int32) (tl : Nat → Int32) (tn : Int32) (uh : Nat → Int32) (ur : Nat → Int32) (um : Nat → Int32) (ub : Nat → Int32) (ud : Nat → Int32) (ug : Nat → Int32) (ul : Nat → Int32) (un : Int32) (lk : Nat → Int32) (lp : Nat → Int32) (lg : Nat → Int32) (lm : Nat → Int32) (ls : Int32) (lv : Int32) (p0 : Int32) (h0 : vp_in p0 4) (hth : ∀ j : Nat, j < 12 → inN (th j)) : Ke l yL_use wsL_use { frames := 7, cells := 1, slots := 6, locals := 129 } 1 6 G (wG G ag ad aT au al kk kt nw ++ (wD G ad dw df dr de ++ (wT G aT th tr tm tb td tg tl tn ++ (wT G au uh ur um ub ud ug ul un ++ (wL G al lk lp lg lm ls lv))))) [.ref (ag 0), .int p0] (if (f_X3_countUsers_r kk nw de th td tl p0) < (kt (p0).toNatClampNeg) then 0 else 1) (wG G ag ad aT au al kk kt nw ++ (wD G ad dw df dr de ++ (wT G aT th tr tm tb td tg tl tn ++ (wT G au uh ur um ub ud ug ul un ++ (wL G al lk lp lg lm ls lv))))) := by
  have h := c_L_use l hfl G ag ad aT au al kk kt nw dw df dr de th tr tm tb td tg tl tn uh ur um ub ud ug ul un lk lp lg lm ls lv p0 hth
  rwa [show (f_L_use_r kk kt nw de th td tl p0) = (if (f_X3_countUsers_r kk nw de th td tl p0) < (kt (p0).toNatClampNeg) then 0 else 1) from use_q h0] at h
theorem c_L_taintedAnewq (l : Launch) (hfl : l.stackTraces = false) (G : va_G) (ag : Nat → Nat) (ad : Nat → Nat) (aT : Nat → Nat) (au : Nat → Nat) (al : Nat → Nat) (kk : Nat → Int32) (kt : Nat → Int32) (nw : Int32) (dw : Nat → Int32) (df : Nat → Int32) (dr : Nat → Int32) (de : Nat → Int32) (th : Nat → Int32) (tr : Nat → Int32) (tm : Nat → Int32) (tb : Nat → Int32) (td : Nat → Int32) (tg : Nat → Int32) (tl : Nat → Int32) (tn : Int32) (uh : Nat → Int32) (ur : Nat → Int32) (um : Nat → Int32) (ub : Nat → Int32) (ud : Nat → Int32) (ug : Nat → Int32) (ul : Nat → Int32) (un : Int32) (lk : Nat → Int32) (lp : Nat → Int32) (lg : Nat → Int32) (lm : Nat → Int32) (ls : Int32) (lv : Int32) (p0 : Int32) (h0 : vp_in p0 12) (han : ∀ (vh vm vb vd vg vl : Nat → Int32) (p : Int32), vp_in p 12 → f_X2_isTainted_r (f_X1_replayInto_th lk lp lg lm ls vh vm vb vd vg vl) (f_X1_replayInto_td lk lp lg lm ls vh vm vb vd vg vl) (f_X1_replayInto_tl lk lp lg lm ls vh vm vb vd vg vl) p = f_X2_isTainted_r th td tl p) (hlz : ls = nI (ls).toNatClampNeg ∧ (ls).toNatClampNeg ≤ 512) (hev : ∀ j : Nat, j < (ls).toNatClampNeg → evOK lk lp lg j) (huh : ∀ j : Nat, j < 12 → inN ((f_X1_replayInto_th lk lp lg lm ls uh um ub ud ug ul) j)) : Ke l yL_taintedAnew wsL_taintedAnew { frames := 7, cells := 1, slots := 6, locals := 111 } 1 6 G (wG G ag ad aT au al kk kt nw ++ (wD G ad dw df dr de ++ (wT G aT th tr tm tb td tg tl tn ++ (wT G au uh ur um ub ud ug ul un ++ (wL G al lk lp lg lm ls lv))))) [.ref (ag 0), .int p0] (f_X2_isTainted_r th td tl p0) (wG G ag ad aT au al kk kt nw ++ (wD G ad dw df dr de ++ (wT G aT th tr tm tb td tg tl tn ++ (wT G au (f_L_taintedAnew_uh uh um ub ud ug ul lk lp lg lm ls p0) ur (f_L_taintedAnew_um uh um ub ud ug ul lk lp lg lm ls p0) (f_L_taintedAnew_ub uh um ub ud ug ul lk lp lg lm ls p0) (f_L_taintedAnew_ud uh um ub ud ug ul lk lp lg lm ls p0) (f_L_taintedAnew_ug uh um ub ud ug ul lk lp lg lm ls p0) (f_L_taintedAnew_ul uh um ub ud ug ul lk lp lg lm ls p0) (f_L_taintedAnew_un uh um ub ud ug ul un lk lp lg lm ls p0) ++ (wL G al lk lp lg lm ls lv))))) := by
  have h := c_L_taintedAnew l hfl G ag ad aT au al kk kt nw dw df dr de th tr tm tb td tg tl tn uh ur um ub ud ug ul un lk lp lg lm ls lv p0 hlz hev huh
  rwa [show (f_L_taintedAnew_r uh um ub ud ug ul lk lp lg lm ls p0) = (f_X2_isTainted_r th td tl p0) from ta_q h0 (han uh um ub ud ug ul p0 h0)] at h
theorem isw {x : Int32} (h : vp_in x 1000) : ¬ x < 0 ∧ ¬ 999 < x ∧ x ≤ 999 := by
  obtain ⟨j, hj, rfl⟩ := vp_in_of h (by decide)
  have h1 : nI j ≤ 999 := nI_le (a := j) (b := 999) (by omega) (by decide)
  exact ⟨nI_pos (by omega), nI_nlt (a := 999) (b := j) (by omega) (by decide), h1⟩
theorem isc {x : Int32} (h : vp_in x 10) : ¬ x < 0 ∧ x ≤ 9 := by
  obtain ⟨j, hj, rfl⟩ := vp_in_of h (by decide)
  exact ⟨nI_pos (by omega), nI_le (a := j) (b := 9) (by omega) (by decide)⟩
theorem k_loginR {nw : Int32} {dw : Nat → Int32} {dr : Nat → Int32} {p0 : Int32} {p1 : Int32} {p2 : Int32} (hp : vp_in p0 12) (hw : vp_in p1 1000) (hc : vp_in p2 10) (hd : dr (p0).toNatClampNeg ≤ nw) (e1 : p1 = dw (p0).toNatClampNeg) (e2 : p2 = f_X0_codeOf_r p0 nw) : (f_X3_login_k p0 p1 p2) = 0 := by
  unfold f_X3_login_k
  rw [if_neg (ps_ne hp), if_neg (isw hw).1, if_neg (isw hw).2.1, if_neg (isc hc).1, if_pos (isc hc).2]
theorem e_loginR_r {nw : Int32} {dw : Nat → Int32} {dr : Nat → Int32} {p0 : Int32} {p1 : Int32} {p2 : Int32} (hp : vp_in p0 12) (hw : vp_in p1 1000) (hc : vp_in p2 10) (hd : dr (p0).toNatClampNeg ≤ nw) (e1 : p1 = dw (p0).toNatClampNeg) (e2 : p2 = f_X0_codeOf_r p0 nw) : (f_L_login_r nw dw dr p0 p1 p2) = 0 := by
  unfold f_L_login_r
  rw [if_pos (k_loginR hp hw hc hd e1 e2)]
  unfold f_X3_login_r
  rw [if_neg (ps_ne hp), if_neg (isw hw).1, if_neg (isw hw).2.1, if_neg (isc hc).1, if_pos (isc hc).2]
  unfold f_X0_tryLogin_r
  rw [if_pos hd, if_pos e1, if_pos e2]
theorem e_loginR_df {nw : Int32} {dw : Nat → Int32} {df : Nat → Int32} {dr : Nat → Int32} {p0 : Int32} {p1 : Int32} {p2 : Int32} (hp : vp_in p0 12) (hw : vp_in p1 1000) (hc : vp_in p2 10) (hd : dr (p0).toNatClampNeg ≤ nw) (e1 : p1 = dw (p0).toNatClampNeg) (e2 : p2 = f_X0_codeOf_r p0 nw) : (f_L_login_df nw dw df dr p0 p1 p2) = (upd df (p0).toNatClampNeg 0) := by
  unfold f_L_login_df
  rw [if_pos (k_loginR hp hw hc hd e1 e2)]
  unfold f_X3_login_df
  rw [if_neg (ps_ne hp), if_neg (isw hw).1, if_neg (isw hw).2.1, if_neg (isc hc).1, if_pos (isc hc).2]
  unfold f_X0_tryLogin_df
  rw [if_pos hd, if_pos e1, if_pos e2]
theorem e_loginR_dr {nw : Int32} {dw : Nat → Int32} {df : Nat → Int32} {dr : Nat → Int32} {p0 : Int32} {p1 : Int32} {p2 : Int32} (hp : vp_in p0 12) (hw : vp_in p1 1000) (hc : vp_in p2 10) (hd : dr (p0).toNatClampNeg ≤ nw) (e1 : p1 = dw (p0).toNatClampNeg) (e2 : p2 = f_X0_codeOf_r p0 nw) : (f_L_login_dr nw dw df dr p0 p1 p2) = dr := by
  unfold f_L_login_dr
  rw [if_pos (k_loginR hp hw hc hd e1 e2)]
  unfold f_X3_login_dr
  rw [if_neg (ps_ne hp), if_neg (isw hw).1, if_neg (isw hw).2.1, if_neg (isc hc).1, if_pos (isc hc).2]
  unfold f_X0_tryLogin_dr
  rw [if_pos hd, if_pos e1, if_pos e2]
theorem e_loginR_de {nw : Int32} {dw : Nat → Int32} {dr : Nat → Int32} {de : Nat → Int32} {p0 : Int32} {p1 : Int32} {p2 : Int32} (hp : vp_in p0 12) (hw : vp_in p1 1000) (hc : vp_in p2 10) (hd : dr (p0).toNatClampNeg ≤ nw) (e1 : p1 = dw (p0).toNatClampNeg) (e2 : p2 = f_X0_codeOf_r p0 nw) : (f_L_login_de nw dw dr de p0 p1 p2) = (upd de (p0).toNatClampNeg (nw + 30)) := by
  unfold f_L_login_de
  rw [if_pos (k_loginR hp hw hc hd e1 e2)]
  unfold f_X3_login_de
  rw [if_neg (ps_ne hp), if_neg (isw hw).1, if_neg (isw hw).2.1, if_neg (isc hc).1, if_pos (isc hc).2]
  unfold f_X0_tryLogin_de
  rw [if_pos hd, if_pos e1, if_pos e2]
theorem c_loginR (l : Launch) (hfl : l.stackTraces = false) (G : va_G) (ag : Nat → Nat) (ad : Nat → Nat) (aT : Nat → Nat) (au : Nat → Nat) (al : Nat → Nat) (kk : Nat → Int32) (kt : Nat → Int32) (nw : Int32) (dw : Nat → Int32) (df : Nat → Int32) (dr : Nat → Int32) (de : Nat → Int32) (th : Nat → Int32) (tr : Nat → Int32) (tm : Nat → Int32) (tb : Nat → Int32) (td : Nat → Int32) (tg : Nat → Int32) (tl : Nat → Int32) (tn : Int32) (uh : Nat → Int32) (ur : Nat → Int32) (um : Nat → Int32) (ub : Nat → Int32) (ud : Nat → Int32) (ug : Nat → Int32) (ul : Nat → Int32) (un : Int32) (lk : Nat → Int32) (lp : Nat → Int32) (lg : Nat → Int32) (lm : Nat → Int32) (ls : Int32) (lv : Int32) (p0 : Int32) (p1 : Int32) (p2 : Int32) (hp : vp_in p0 12) (hw : vp_in p1 1000) (hc : vp_in p2 10) (hd : dr (p0).toNatClampNeg ≤ nw) (e1 : p1 = dw (p0).toNatClampNeg) (e2 : p2 = f_X0_codeOf_r p0 nw) : Ke l yL_login wsL_login { frames := 7, cells := 1, slots := 6, locals := 113 } 1 6 G (wG G ag ad aT au al kk kt nw ++ (wD G ad dw df dr de ++ (wT G aT th tr tm tb td tg tl tn ++ (wT G au uh ur um ub ud ug ul un ++ (wL G al lk lp lg lm ls lv))))) [.ref (ag 0), .int p0, .int p1, .int p2] 0 (wG G ag ad aT au al kk kt nw ++ (wD G ad dw (upd df (p0).toNatClampNeg 0) dr (upd de (p0).toNatClampNeg (nw + 30)) ++ (wT G aT th tr tm tb td tg tl tn ++ (wT G au uh ur um ub ud ug ul un ++ (wL G al lk lp lg lm ls lv))))) := by
  have h := c_L_login l hfl G ag ad aT au al kk kt nw dw df dr de th tr tm tb td tg tl tn uh ur um ub ud ug ul un lk lp lg lm ls lv p0 p1 p2 
  rw [e_loginR_r hp hw hc hd e1 e2, e_loginR_df hp hw hc hd e1 e2, e_loginR_dr hp hw hc hd e1 e2, e_loginR_de hp hw hc hd e1 e2] at h
  exact h
theorem k_loginW {nw : Int32} {dw : Nat → Int32} {dr : Nat → Int32} {p0 : Int32} {p1 : Int32} {p2 : Int32} (hp : vp_in p0 12) (hw : vp_in p1 1000) (hc : vp_in p2 10) (hd : dr (p0).toNatClampNeg ≤ nw) (e1 : ¬ p1 = dw (p0).toNatClampNeg) : (f_X3_login_k p0 p1 p2) = 0 := by
  unfold f_X3_login_k
  rw [if_neg (ps_ne hp), if_neg (isw hw).1, if_neg (isw hw).2.1, if_neg (isc hc).1, if_pos (isc hc).2]
theorem e_loginW_r {nw : Int32} {dw : Nat → Int32} {dr : Nat → Int32} {p0 : Int32} {p1 : Int32} {p2 : Int32} (hp : vp_in p0 12) (hw : vp_in p1 1000) (hc : vp_in p2 10) (hd : dr (p0).toNatClampNeg ≤ nw) (e1 : ¬ p1 = dw (p0).toNatClampNeg) : (f_L_login_r nw dw dr p0 p1 p2) = 1 := by
  unfold f_L_login_r
  rw [if_pos (k_loginW hp hw hc hd e1)]
  unfold f_X3_login_r
  rw [if_neg (ps_ne hp), if_neg (isw hw).1, if_neg (isw hw).2.1, if_neg (isc hc).1, if_pos (isc hc).2]
  unfold f_X0_tryLogin_r
  rw [if_pos hd, if_neg e1]
theorem e_loginW_df {nw : Int32} {dw : Nat → Int32} {df : Nat → Int32} {dr : Nat → Int32} {p0 : Int32} {p1 : Int32} {p2 : Int32} (hp : vp_in p0 12) (hw : vp_in p1 1000) (hc : vp_in p2 10) (hd : dr (p0).toNatClampNeg ≤ nw) (e1 : ¬ p1 = dw (p0).toNatClampNeg) : (f_L_login_df nw dw df dr p0 p1 p2) = (f_X0_countFailure_df df p0) := by
  unfold f_L_login_df
  rw [if_pos (k_loginW hp hw hc hd e1)]
  unfold f_X3_login_df
  rw [if_neg (ps_ne hp), if_neg (isw hw).1, if_neg (isw hw).2.1, if_neg (isc hc).1, if_pos (isc hc).2]
  unfold f_X0_tryLogin_df
  rw [if_pos hd, if_neg e1]
theorem e_loginW_dr {nw : Int32} {dw : Nat → Int32} {df : Nat → Int32} {dr : Nat → Int32} {p0 : Int32} {p1 : Int32} {p2 : Int32} (hp : vp_in p0 12) (hw : vp_in p1 1000) (hc : vp_in p2 10) (hd : dr (p0).toNatClampNeg ≤ nw) (e1 : ¬ p1 = dw (p0).toNatClampNeg) : (f_L_login_dr nw dw df dr p0 p1 p2) = (f_X0_countFailure_dr df dr p0 nw) := by
  unfold f_L_login_dr
  rw [if_pos (k_loginW hp hw hc hd e1)]
  unfold f_X3_login_dr
  rw [if_neg (ps_ne hp), if_neg (isw hw).1, if_neg (isw hw).2.1, if_neg (isc hc).1, if_pos (isc hc).2]
  unfold f_X0_tryLogin_dr
  rw [if_pos hd, if_neg e1]
theorem e_loginW_de {nw : Int32} {dw : Nat → Int32} {dr : Nat → Int32} {de : Nat → Int32} {p0 : Int32} {p1 : Int32} {p2 : Int32} (hp : vp_in p0 12) (hw : vp_in p1 1000) (hc : vp_in p2 10) (hd : dr (p0).toNatClampNeg ≤ nw) (e1 : ¬ p1 = dw (p0).toNatClampNeg) : (f_L_login_de nw dw dr de p0 p1 p2) = de := by
  unfold f_L_login_de
  rw [if_pos (k_loginW hp hw hc hd e1)]
  unfold f_X3_login_de
  rw [if_neg (ps_ne hp), if_neg (isw hw).1, if_neg (isw hw).2.1, if_neg (isc hc).1, if_pos (isc hc).2]
  unfold f_X0_tryLogin_de
  rw [if_pos hd, if_neg e1]
theorem c_loginW (l : Launch) (hfl : l.stackTraces = false) (G : va_G) (ag : Nat → Nat) (ad : Nat → Nat) (aT : Nat → Nat) (au : Nat → Nat) (al : Nat → Nat) (kk : Nat → Int32) (kt : Nat → Int32) (nw : Int32) (dw : Nat → Int32) (df : Nat → Int32) (dr : Nat → Int32) (de : Nat → Int32) (th : Nat → Int32) (tr : Nat → Int32) (tm : Nat → Int32) (tb : Nat → Int32) (td : Nat → Int32) (tg : Nat → Int32) (tl : Nat → Int32) (tn : Int32) (uh : Nat → Int32) (ur : Nat → Int32) (um : Nat → Int32) (ub : Nat → Int32) (ud : Nat → Int32) (ug : Nat → Int32) (ul : Nat → Int32) (un : Int32) (lk : Nat → Int32) (lp : Nat → Int32) (lg : Nat → Int32) (lm : Nat → Int32) (ls : Int32) (lv : Int32) (p0 : Int32) (p1 : Int32) (p2 : Int32) (hp : vp_in p0 12) (hw : vp_in p1 1000) (hc : vp_in p2 10) (hd : dr (p0).toNatClampNeg ≤ nw) (e1 : ¬ p1 = dw (p0).toNatClampNeg) : Ke l yL_login wsL_login { frames := 7, cells := 1, slots := 6, locals := 113 } 1 6 G (wG G ag ad aT au al kk kt nw ++ (wD G ad dw df dr de ++ (wT G aT th tr tm tb td tg tl tn ++ (wT G au uh ur um ub ud ug ul un ++ (wL G al lk lp lg lm ls lv))))) [.ref (ag 0), .int p0, .int p1, .int p2] 1 (wG G ag ad aT au al kk kt nw ++ (wD G ad dw (f_X0_countFailure_df df p0) (f_X0_countFailure_dr df dr p0 nw) de ++ (wT G aT th tr tm tb td tg tl tn ++ (wT G au uh ur um ub ud ug ul un ++ (wL G al lk lp lg lm ls lv))))) := by
  have h := c_L_login l hfl G ag ad aT au al kk kt nw dw df dr de th tr tm tb td tg tl tn uh ur um ub ud ug ul un lk lp lg lm ls lv p0 p1 p2 
  rw [e_loginW_r hp hw hc hd e1, e_loginW_df hp hw hc hd e1, e_loginW_dr hp hw hc hd e1, e_loginW_de hp hw hc hd e1] at h
  exact h
theorem k_loginZ {nw : Int32} {dr : Nat → Int32} {p0 : Int32} {p1 : Int32} {p2 : Int32} (hp : vp_in p0 12) (hw : vp_in p1 1000) (hc : vp_in p2 10) (hd : ¬ dr (p0).toNatClampNeg ≤ nw) : (f_X3_login_k p0 p1 p2) = 0 := by
  unfold f_X3_login_k
  rw [if_neg (ps_ne hp), if_neg (isw hw).1, if_neg (isw hw).2.1, if_neg (isc hc).1, if_pos (isc hc).2]
theorem e_loginZ_r {nw : Int32} {dw : Nat → Int32} {dr : Nat → Int32} {p0 : Int32} {p1 : Int32} {p2 : Int32} (hp : vp_in p0 12) (hw : vp_in p1 1000) (hc : vp_in p2 10) (hd : ¬ dr (p0).toNatClampNeg ≤ nw) : (f_L_login_r nw dw dr p0 p1 p2) = 3 := by
  unfold f_L_login_r
  rw [if_pos (k_loginZ hp hw hc hd)]
  unfold f_X3_login_r
  rw [if_neg (ps_ne hp), if_neg (isw hw).1, if_neg (isw hw).2.1, if_neg (isc hc).1, if_pos (isc hc).2]
  unfold f_X0_tryLogin_r
  rw [if_neg hd]
theorem e_loginZ_df {nw : Int32} {dw : Nat → Int32} {df : Nat → Int32} {dr : Nat → Int32} {p0 : Int32} {p1 : Int32} {p2 : Int32} (hp : vp_in p0 12) (hw : vp_in p1 1000) (hc : vp_in p2 10) (hd : ¬ dr (p0).toNatClampNeg ≤ nw) : (f_L_login_df nw dw df dr p0 p1 p2) = df := by
  unfold f_L_login_df
  rw [if_pos (k_loginZ hp hw hc hd)]
  unfold f_X3_login_df
  rw [if_neg (ps_ne hp), if_neg (isw hw).1, if_neg (isw hw).2.1, if_neg (isc hc).1, if_pos (isc hc).2]
  unfold f_X0_tryLogin_df
  rw [if_neg hd]
theorem e_loginZ_dr {nw : Int32} {dw : Nat → Int32} {df : Nat → Int32} {dr : Nat → Int32} {p0 : Int32} {p1 : Int32} {p2 : Int32} (hp : vp_in p0 12) (hw : vp_in p1 1000) (hc : vp_in p2 10) (hd : ¬ dr (p0).toNatClampNeg ≤ nw) : (f_L_login_dr nw dw df dr p0 p1 p2) = dr := by
  unfold f_L_login_dr
  rw [if_pos (k_loginZ hp hw hc hd)]
  unfold f_X3_login_dr
  rw [if_neg (ps_ne hp), if_neg (isw hw).1, if_neg (isw hw).2.1, if_neg (isc hc).1, if_pos (isc hc).2]
  unfold f_X0_tryLogin_dr
  rw [if_neg hd]
theorem e_loginZ_de {nw : Int32} {dw : Nat → Int32} {dr : Nat → Int32} {de : Nat → Int32} {p0 : Int32} {p1 : Int32} {p2 : Int32} (hp : vp_in p0 12) (hw : vp_in p1 1000) (hc : vp_in p2 10) (hd : ¬ dr (p0).toNatClampNeg ≤ nw) : (f_L_login_de nw dw dr de p0 p1 p2) = de := by
  unfold f_L_login_de
  rw [if_pos (k_loginZ hp hw hc hd)]
  unfold f_X3_login_de
  rw [if_neg (ps_ne hp), if_neg (isw hw).1, if_neg (isw hw).2.1, if_neg (isc hc).1, if_pos (isc hc).2]
  unfold f_X0_tryLogin_de
  rw [if_neg hd]
theorem c_loginZ (l : Launch) (hfl : l.stackTraces = false) (G : va_G) (ag : Nat → Nat) (ad : Nat → Nat) (aT : Nat → Nat) (au : Nat → Nat) (al : Nat → Nat) (kk : Nat → Int32) (kt : Nat → Int32) (nw : Int32) (dw : Nat → Int32) (df : Nat → Int32) (dr : Nat → Int32) (de : Nat → Int32) (th : Nat → Int32) (tr : Nat → Int32) (tm : Nat → Int32) (tb : Nat → Int32) (td : Nat → Int32) (tg : Nat → Int32) (tl : Nat → Int32) (tn : Int32) (uh : Nat → Int32) (ur : Nat → Int32) (um : Nat → Int32) (ub : Nat → Int32) (ud : Nat → Int32) (ug : Nat → Int32) (ul : Nat → Int32) (un : Int32) (lk : Nat → Int32) (lp : Nat → Int32) (lg : Nat → Int32) (lm : Nat → Int32) (ls : Int32) (lv : Int32) (p0 : Int32) (p1 : Int32) (p2 : Int32) (hp : vp_in p0 12) (hw : vp_in p1 1000) (hc : vp_in p2 10) (hd : ¬ dr (p0).toNatClampNeg ≤ nw) : Ke l yL_login wsL_login { frames := 7, cells := 1, slots := 6, locals := 113 } 1 6 G (wG G ag ad aT au al kk kt nw ++ (wD G ad dw df dr de ++ (wT G aT th tr tm tb td tg tl tn ++ (wT G au uh ur um ub ud ug ul un ++ (wL G al lk lp lg lm ls lv))))) [.ref (ag 0), .int p0, .int p1, .int p2] 3 (wG G ag ad aT au al kk kt nw ++ (wD G ad dw df dr de ++ (wT G aT th tr tm tb td tg tl tn ++ (wT G au uh ur um ub ud ug ul un ++ (wL G al lk lp lg lm ls lv))))) := by
  have h := c_L_login l hfl G ag ad aT au al kk kt nw dw df dr de th tr tm tb td tg tl tn uh ur um ub ud ug ul un lk lp lg lm ls lv p0 p1 p2 
  rw [e_loginZ_r hp hw hc hd, e_loginZ_df hp hw hc hd, e_loginZ_dr hp hw hc hd, e_loginZ_de hp hw hc hd] at h
  exact h
theorem k_passY {p0 : Int32} (hp : ¬ p0 < 1) (h5 : p0 ≤ 500) : (f_X3_pass_k p0) = 0 := by
  unfold f_X3_pass_k
  rw [if_neg hp, if_pos h5]
theorem e_passY_r {nw : Int32} {p0 : Int32} (hp : ¬ p0 < 1) (h5 : p0 ≤ 500) : (f_L_pass_r nw p0) = (nw + p0) := by
  unfold f_L_pass_r
  rw [if_pos (k_passY hp h5)]
  unfold f_X3_pass_r
  rw [if_neg hp, if_pos h5]
theorem e_passY_nw {nw : Int32} {p0 : Int32} (hp : ¬ p0 < 1) (h5 : p0 ≤ 500) : (f_L_pass_nw nw p0) = (nw + p0) := by
  unfold f_L_pass_nw
  rw [if_pos (k_passY hp h5)]
  unfold f_X3_pass_nw
  rw [if_neg hp, if_pos h5]
theorem c_passY (l : Launch) (hfl : l.stackTraces = false) (G : va_G) (ag : Nat → Nat) (ad : Nat → Nat) (aT : Nat → Nat) (au : Nat → Nat) (al : Nat → Nat) (kk : Nat → Int32) (kt : Nat → Int32) (nw : Int32) (dw : Nat → Int32) (df : Nat → Int32) (dr : Nat → Int32) (de : Nat → Int32) (th : Nat → Int32) (tr : Nat → Int32) (tm : Nat → Int32) (tb : Nat → Int32) (td : Nat → Int32) (tg : Nat → Int32) (tl : Nat → Int32) (tn : Int32) (uh : Nat → Int32) (ur : Nat → Int32) (um : Nat → Int32) (ub : Nat → Int32) (ud : Nat → Int32) (ug : Nat → Int32) (ul : Nat → Int32) (un : Int32) (lk : Nat → Int32) (lp : Nat → Int32) (lg : Nat → Int32) (lm : Nat → Int32) (ls : Int32) (lv : Int32) (p0 : Int32) (hp : ¬ p0 < 1) (h5 : p0 ≤ 500) : Ke l yL_pass wsL_pass { frames := 7, cells := 1, slots := 6, locals := 111 } 1 6 G (wG G ag ad aT au al kk kt nw ++ (wD G ad dw df dr de ++ (wT G aT th tr tm tb td tg tl tn ++ (wT G au uh ur um ub ud ug ul un ++ (wL G al lk lp lg lm ls lv))))) [.ref (ag 0), .int p0] (nw + p0) (wG G ag ad aT au al kk kt (nw + p0) ++ (wD G ad dw df dr de ++ (wT G aT th tr tm tb td tg tl tn ++ (wT G au uh ur um ub ud ug ul un ++ (wL G al lk lp lg lm ls lv))))) := by
  have h := c_L_pass l hfl G ag ad aT au al kk kt nw dw df dr de th tr tm tb td tg tl tn uh ur um ub ud ug ul un lk lp lg lm ls lv p0 
  rw [e_passY_r hp h5, e_passY_nw hp h5] at h
  exact h
theorem k_vouchS {nw : Int32} {de : Nat → Int32} {th : Nat → Int32} {td : Nat → Int32} {tl : Nat → Int32} {lv : Int32} {p0 : Int32} {p1 : Int32} {p2 : Int32} (hp : vp_in p0 12) (hg : ¬ f_X3_isGuest_r p1 = 0) (e : p0 = p1) : (f_X3_vouch_k nw de th td tl lv p0 p1 p2) = 2 := by
  unfold f_X3_vouch_k
  rw [if_neg (ps_ne hp), if_neg hg, if_pos e]
theorem e_vouchS_r {nw : Int32} {de : Nat → Int32} {th : Nat → Int32} {td : Nat → Int32} {tl : Nat → Int32} {lv : Int32} {p0 : Int32} {p1 : Int32} {p2 : Int32} (hp : vp_in p0 12) (hg : ¬ f_X3_isGuest_r p1 = 0) (e : p0 = p1) : (f_L_vouch_r nw de th td tl lv p0 p1 p2) = (-1000002) := by
  unfold f_L_vouch_r
  rw [k_vouchS hp hg e, if_neg (show ¬ (2 : Int32) = 0 by decide), if_neg (show ¬ (2 : Int32) = 1 by decide), if_pos rfl]
theorem e_vouchS_th {nw : Int32} {de : Nat → Int32} {th : Nat → Int32} {td : Nat → Int32} {tl : Nat → Int32} {lv : Int32} {p0 : Int32} {p1 : Int32} {p2 : Int32} (hp : vp_in p0 12) (hg : ¬ f_X3_isGuest_r p1 = 0) (e : p0 = p1) : (f_L_vouch_th nw de th td tl lv p0 p1 p2) = th := by
  unfold f_L_vouch_th
  rw [if_neg (by rw [k_vouchS hp hg e]; decide)]
theorem e_vouchS_tr {nw : Int32} {de : Nat → Int32} {th : Nat → Int32} {tr : Nat → Int32} {td : Nat → Int32} {tl : Nat → Int32} {lv : Int32} {p0 : Int32} {p1 : Int32} {p2 : Int32} (hp : vp_in p0 12) (hg : ¬ f_X3_isGuest_r p1 = 0) (e : p0 = p1) : (f_L_vouch_tr nw de th tr td tl lv p0 p1 p2) = tr := by
  unfold f_L_vouch_tr
  rw [if_neg (by rw [k_vouchS hp hg e]; decide)]
theorem e_vouchS_tm {nw : Int32} {de : Nat → Int32} {th : Nat → Int32} {tm : Nat → Int32} {td : Nat → Int32} {tl : Nat → Int32} {lv : Int32} {p0 : Int32} {p1 : Int32} {p2 : Int32} (hp : vp_in p0 12) (hg : ¬ f_X3_isGuest_r p1 = 0) (e : p0 = p1) : (f_L_vouch_tm nw de th tm td tl lv p0 p1 p2) = tm := by
  unfold f_L_vouch_tm
  rw [if_neg (by rw [k_vouchS hp hg e]; decide)]
theorem e_vouchS_tb {nw : Int32} {de : Nat → Int32} {th : Nat → Int32} {tb : Nat → Int32} {td : Nat → Int32} {tg : Nat → Int32} {tl : Nat → Int32} {lv : Int32} {p0 : Int32} {p1 : Int32} {p2 : Int32} (hp : vp_in p0 12) (hg : ¬ f_X3_isGuest_r p1 = 0) (e : p0 = p1) : (f_L_vouch_tb nw de th tb td tg tl lv p0 p1 p2) = tb := by
  unfold f_L_vouch_tb
  rw [if_neg (by rw [k_vouchS hp hg e]; decide)]
theorem e_vouchS_td {nw : Int32} {de : Nat → Int32} {th : Nat → Int32} {td : Nat → Int32} {tl : Nat → Int32} {lv : Int32} {p0 : Int32} {p1 : Int32} {p2 : Int32} (hp : vp_in p0 12) (hg : ¬ f_X3_isGuest_r p1 = 0) (e : p0 = p1) : (f_L_vouch_td nw de th td tl lv p0 p1 p2) = td := by
  unfold f_L_vouch_td
  rw [if_neg (by rw [k_vouchS hp hg e]; decide)]
theorem e_vouchS_lk {nw : Int32} {de : Nat → Int32} {th : Nat → Int32} {td : Nat → Int32} {tl : Nat → Int32} {lk : Nat → Int32} {ls : Int32} {lv : Int32} {p0 : Int32} {p1 : Int32} {p2 : Int32} (hp : vp_in p0 12) (hg : ¬ f_X3_isGuest_r p1 = 0) (e : p0 = p1) : (f_L_vouch_lk nw de th td tl lk ls lv p0 p1 p2) = lk := by
  unfold f_L_vouch_lk
  rw [if_neg (by rw [k_vouchS hp hg e]; decide)]
theorem e_vouchS_lp {nw : Int32} {de : Nat → Int32} {th : Nat → Int32} {td : Nat → Int32} {tl : Nat → Int32} {lp : Nat → Int32} {ls : Int32} {lv : Int32} {p0 : Int32} {p1 : Int32} {p2 : Int32} (hp : vp_in p0 12) (hg : ¬ f_X3_isGuest_r p1 = 0) (e : p0 = p1) : (f_L_vouch_lp nw de th td tl lp ls lv p0 p1 p2) = lp := by
  unfold f_L_vouch_lp
  rw [if_neg (by rw [k_vouchS hp hg e]; decide)]
theorem e_vouchS_lg {nw : Int32} {de : Nat → Int32} {th : Nat → Int32} {td : Nat → Int32} {tl : Nat → Int32} {lg : Nat → Int32} {ls : Int32} {lv : Int32} {p0 : Int32} {p1 : Int32} {p2 : Int32} (hp : vp_in p0 12) (hg : ¬ f_X3_isGuest_r p1 = 0) (e : p0 = p1) : (f_L_vouch_lg nw de th td tl lg ls lv p0 p1 p2) = lg := by
  unfold f_L_vouch_lg
  rw [if_neg (by rw [k_vouchS hp hg e]; decide)]
theorem e_vouchS_lm {nw : Int32} {de : Nat → Int32} {th : Nat → Int32} {td : Nat → Int32} {tl : Nat → Int32} {lm : Nat → Int32} {ls : Int32} {lv : Int32} {p0 : Int32} {p1 : Int32} {p2 : Int32} (hp : vp_in p0 12) (hg : ¬ f_X3_isGuest_r p1 = 0) (e : p0 = p1) : (f_L_vouch_lm nw de th td tl lm ls lv p0 p1 p2) = lm := by
  unfold f_L_vouch_lm
  rw [if_neg (by rw [k_vouchS hp hg e]; decide)]
theorem e_vouchS_ls {nw : Int32} {de : Nat → Int32} {th : Nat → Int32} {td : Nat → Int32} {tl : Nat → Int32} {ls : Int32} {lv : Int32} {p0 : Int32} {p1 : Int32} {p2 : Int32} (hp : vp_in p0 12) (hg : ¬ f_X3_isGuest_r p1 = 0) (e : p0 = p1) : (f_L_vouch_ls nw de th td tl ls lv p0 p1 p2) = ls := by
  unfold f_L_vouch_ls
  rw [if_neg (by rw [k_vouchS hp hg e]; decide)]
theorem e_vouchS_lv {nw : Int32} {de : Nat → Int32} {th : Nat → Int32} {td : Nat → Int32} {tl : Nat → Int32} {lv : Int32} {p0 : Int32} {p1 : Int32} {p2 : Int32} (hp : vp_in p0 12) (hg : ¬ f_X3_isGuest_r p1 = 0) (e : p0 = p1) : (f_L_vouch_lv nw de th td tl lv p0 p1 p2) = lv := by
  unfold f_L_vouch_lv
  rw [if_neg (by rw [k_vouchS hp hg e]; decide)]
theorem c_vouchS (l : Launch) (hfl : l.stackTraces = false) (G : va_G) (ag : Nat → Nat) (ad : Nat → Nat) (aT : Nat → Nat) (au : Nat → Nat) (al : Nat → Nat) (kk : Nat → Int32) (kt : Nat → Int32) (nw : Int32) (dw : Nat → Int32) (df : Nat → Int32) (dr : Nat → Int32) (de : Nat → Int32) (th : Nat → Int32) (tr : Nat → Int32) (tm : Nat → Int32) (tb : Nat → Int32) (td : Nat → Int32) (tg : Nat → Int32) (tl : Nat → Int32) (tn : Int32) (uh : Nat → Int32) (ur : Nat → Int32) (um : Nat → Int32) (ub : Nat → Int32) (ud : Nat → Int32) (ug : Nat → Int32) (ul : Nat → Int32) (un : Int32) (lk : Nat → Int32) (lp : Nat → Int32) (lg : Nat → Int32) (lm : Nat → Int32) (ls : Int32) (lv : Int32) (p0 : Int32) (p1 : Int32) (p2 : Int32) (hp : vp_in p0 12) (hg : ¬ f_X3_isGuest_r p1 = 0) (e : p0 = p1) (hth : ∀ j : Nat, j < 12 → inN (th j)) (hls : ¬ ls < 0) : Ke l yL_vouch wsL_vouch { frames := 7, cells := 1, slots := 6, locals := 113 } 1 6 G (wG G ag ad aT au al kk kt nw ++ (wD G ad dw df dr de ++ (wT G aT th tr tm tb td tg tl tn ++ (wT G au uh ur um ub ud ug ul un ++ (wL G al lk lp lg lm ls lv))))) [.ref (ag 0), .int p0, .int p1, .int p2] (-1000002) (wG G ag ad aT au al kk kt nw ++ (wD G ad dw df dr de ++ (wT G aT th tr tm tb td tg tl tn ++ (wT G au uh ur um ub ud ug ul un ++ (wL G al lk lp lg lm ls lv))))) := by
  have h := c_L_vouch l hfl G ag ad aT au al kk kt nw dw df dr de th tr tm tb td tg tl tn uh ur um ub ud ug ul un lk lp lg lm ls lv p0 p1 p2 hth hls
  rw [e_vouchS_r hp hg e, e_vouchS_th hp hg e, e_vouchS_tr hp hg e, e_vouchS_tm hp hg e, e_vouchS_tb hp hg e, e_vouchS_td hp hg e, e_vouchS_lk hp hg e, e_vouchS_lp hp hg e, e_vouchS_lg hp hg e, e_vouchS_lm hp hg e, e_vouchS_ls hp hg e, e_vouchS_lv hp hg e] at h
  exact h
theorem k_vouchN {nw : Int32} {de : Nat → Int32} {th : Nat → Int32} {td : Nat → Int32} {tl : Nat → Int32} {lv : Int32} {p0 : Int32} {p1 : Int32} {p2 : Int32} (hp : vp_in p0 12) (hg : ¬ f_X3_isGuest_r p1 = 0) (e : ¬ p0 = p1) (r1 : ¬ p2 < 1) (r2 : p2 ≤ 63) (hm : f_X3_mayAct_r nw de th td tl p0 = 0) : (f_X3_vouch_k nw de th td tl lv p0 p1 p2) = 3 := by
  unfold f_X3_vouch_k
  rw [if_neg (ps_ne hp), if_neg hg, if_neg e, if_neg r1, if_pos r2, if_pos hm]
theorem e_vouchN_r {nw : Int32} {de : Nat → Int32} {th : Nat → Int32} {td : Nat → Int32} {tl : Nat → Int32} {lv : Int32} {p0 : Int32} {p1 : Int32} {p2 : Int32} (hp : vp_in p0 12) (hg : ¬ f_X3_isGuest_r p1 = 0) (e : ¬ p0 = p1) (r1 : ¬ p2 < 1) (r2 : p2 ≤ 63) (hm : f_X3_mayAct_r nw de th td tl p0 = 0) : (f_L_vouch_r nw de th td tl lv p0 p1 p2) = (-1000003) := by
  unfold f_L_vouch_r
  rw [k_vouchN hp hg e r1 r2 hm, if_neg (show ¬ (3 : Int32) = 0 by decide), if_neg (show ¬ (3 : Int32) = 1 by decide), if_neg (show ¬ (3 : Int32) = 2 by decide)]
theorem e_vouchN_th {nw : Int32} {de : Nat → Int32} {th : Nat → Int32} {td : Nat → Int32} {tl : Nat → Int32} {lv : Int32} {p0 : Int32} {p1 : Int32} {p2 : Int32} (hp : vp_in p0 12) (hg : ¬ f_X3_isGuest_r p1 = 0) (e : ¬ p0 = p1) (r1 : ¬ p2 < 1) (r2 : p2 ≤ 63) (hm : f_X3_mayAct_r nw de th td tl p0 = 0) : (f_L_vouch_th nw de th td tl lv p0 p1 p2) = th := by
  unfold f_L_vouch_th
  rw [if_neg (by rw [k_vouchN hp hg e r1 r2 hm]; decide)]
theorem e_vouchN_tr {nw : Int32} {de : Nat → Int32} {th : Nat → Int32} {tr : Nat → Int32} {td : Nat → Int32} {tl : Nat → Int32} {lv : Int32} {p0 : Int32} {p1 : Int32} {p2 : Int32} (hp : vp_in p0 12) (hg : ¬ f_X3_isGuest_r p1 = 0) (e : ¬ p0 = p1) (r1 : ¬ p2 < 1) (r2 : p2 ≤ 63) (hm : f_X3_mayAct_r nw de th td tl p0 = 0) : (f_L_vouch_tr nw de th tr td tl lv p0 p1 p2) = tr := by
  unfold f_L_vouch_tr
  rw [if_neg (by rw [k_vouchN hp hg e r1 r2 hm]; decide)]
theorem e_vouchN_tm {nw : Int32} {de : Nat → Int32} {th : Nat → Int32} {tm : Nat → Int32} {td : Nat → Int32} {tl : Nat → Int32} {lv : Int32} {p0 : Int32} {p1 : Int32} {p2 : Int32} (hp : vp_in p0 12) (hg : ¬ f_X3_isGuest_r p1 = 0) (e : ¬ p0 = p1) (r1 : ¬ p2 < 1) (r2 : p2 ≤ 63) (hm : f_X3_mayAct_r nw de th td tl p0 = 0) : (f_L_vouch_tm nw de th tm td tl lv p0 p1 p2) = tm := by
  unfold f_L_vouch_tm
  rw [if_neg (by rw [k_vouchN hp hg e r1 r2 hm]; decide)]
theorem e_vouchN_tb {nw : Int32} {de : Nat → Int32} {th : Nat → Int32} {tb : Nat → Int32} {td : Nat → Int32} {tg : Nat → Int32} {tl : Nat → Int32} {lv : Int32} {p0 : Int32} {p1 : Int32} {p2 : Int32} (hp : vp_in p0 12) (hg : ¬ f_X3_isGuest_r p1 = 0) (e : ¬ p0 = p1) (r1 : ¬ p2 < 1) (r2 : p2 ≤ 63) (hm : f_X3_mayAct_r nw de th td tl p0 = 0) : (f_L_vouch_tb nw de th tb td tg tl lv p0 p1 p2) = tb := by
  unfold f_L_vouch_tb
  rw [if_neg (by rw [k_vouchN hp hg e r1 r2 hm]; decide)]
theorem e_vouchN_td {nw : Int32} {de : Nat → Int32} {th : Nat → Int32} {td : Nat → Int32} {tl : Nat → Int32} {lv : Int32} {p0 : Int32} {p1 : Int32} {p2 : Int32} (hp : vp_in p0 12) (hg : ¬ f_X3_isGuest_r p1 = 0) (e : ¬ p0 = p1) (r1 : ¬ p2 < 1) (r2 : p2 ≤ 63) (hm : f_X3_mayAct_r nw de th td tl p0 = 0) : (f_L_vouch_td nw de th td tl lv p0 p1 p2) = td := by
  unfold f_L_vouch_td
  rw [if_neg (by rw [k_vouchN hp hg e r1 r2 hm]; decide)]
theorem e_vouchN_lk {nw : Int32} {de : Nat → Int32} {th : Nat → Int32} {td : Nat → Int32} {tl : Nat → Int32} {lk : Nat → Int32} {ls : Int32} {lv : Int32} {p0 : Int32} {p1 : Int32} {p2 : Int32} (hp : vp_in p0 12) (hg : ¬ f_X3_isGuest_r p1 = 0) (e : ¬ p0 = p1) (r1 : ¬ p2 < 1) (r2 : p2 ≤ 63) (hm : f_X3_mayAct_r nw de th td tl p0 = 0) : (f_L_vouch_lk nw de th td tl lk ls lv p0 p1 p2) = lk := by
  unfold f_L_vouch_lk
  rw [if_neg (by rw [k_vouchN hp hg e r1 r2 hm]; decide)]
theorem e_vouchN_lp {nw : Int32} {de : Nat → Int32} {th : Nat → Int32} {td : Nat → Int32} {tl : Nat → Int32} {lp : Nat → Int32} {ls : Int32} {lv : Int32} {p0 : Int32} {p1 : Int32} {p2 : Int32} (hp : vp_in p0 12) (hg : ¬ f_X3_isGuest_r p1 = 0) (e : ¬ p0 = p1) (r1 : ¬ p2 < 1) (r2 : p2 ≤ 63) (hm : f_X3_mayAct_r nw de th td tl p0 = 0) : (f_L_vouch_lp nw de th td tl lp ls lv p0 p1 p2) = lp := by
  unfold f_L_vouch_lp
  rw [if_neg (by rw [k_vouchN hp hg e r1 r2 hm]; decide)]
theorem e_vouchN_lg {nw : Int32} {de : Nat → Int32} {th : Nat → Int32} {td : Nat → Int32} {tl : Nat → Int32} {lg : Nat → Int32} {ls : Int32} {lv : Int32} {p0 : Int32} {p1 : Int32} {p2 : Int32} (hp : vp_in p0 12) (hg : ¬ f_X3_isGuest_r p1 = 0) (e : ¬ p0 = p1) (r1 : ¬ p2 < 1) (r2 : p2 ≤ 63) (hm : f_X3_mayAct_r nw de th td tl p0 = 0) : (f_L_vouch_lg nw de th td tl lg ls lv p0 p1 p2) = lg := by
  unfold f_L_vouch_lg
  rw [if_neg (by rw [k_vouchN hp hg e r1 r2 hm]; decide)]
theorem e_vouchN_lm {nw : Int32} {de : Nat → Int32} {th : Nat → Int32} {td : Nat → Int32} {tl : Nat → Int32} {lm : Nat → Int32} {ls : Int32} {lv : Int32} {p0 : Int32} {p1 : Int32} {p2 : Int32} (hp : vp_in p0 12) (hg : ¬ f_X3_isGuest_r p1 = 0) (e : ¬ p0 = p1) (r1 : ¬ p2 < 1) (r2 : p2 ≤ 63) (hm : f_X3_mayAct_r nw de th td tl p0 = 0) : (f_L_vouch_lm nw de th td tl lm ls lv p0 p1 p2) = lm := by
  unfold f_L_vouch_lm
  rw [if_neg (by rw [k_vouchN hp hg e r1 r2 hm]; decide)]
theorem e_vouchN_ls {nw : Int32} {de : Nat → Int32} {th : Nat → Int32} {td : Nat → Int32} {tl : Nat → Int32} {ls : Int32} {lv : Int32} {p0 : Int32} {p1 : Int32} {p2 : Int32} (hp : vp_in p0 12) (hg : ¬ f_X3_isGuest_r p1 = 0) (e : ¬ p0 = p1) (r1 : ¬ p2 < 1) (r2 : p2 ≤ 63) (hm : f_X3_mayAct_r nw de th td tl p0 = 0) : (f_L_vouch_ls nw de th td tl ls lv p0 p1 p2) = ls := by
  unfold f_L_vouch_ls
  rw [if_neg (by rw [k_vouchN hp hg e r1 r2 hm]; decide)]
theorem e_vouchN_lv {nw : Int32} {de : Nat → Int32} {th : Nat → Int32} {td : Nat → Int32} {tl : Nat → Int32} {lv : Int32} {p0 : Int32} {p1 : Int32} {p2 : Int32} (hp : vp_in p0 12) (hg : ¬ f_X3_isGuest_r p1 = 0) (e : ¬ p0 = p1) (r1 : ¬ p2 < 1) (r2 : p2 ≤ 63) (hm : f_X3_mayAct_r nw de th td tl p0 = 0) : (f_L_vouch_lv nw de th td tl lv p0 p1 p2) = lv := by
  unfold f_L_vouch_lv
  rw [if_neg (by rw [k_vouchN hp hg e r1 r2 hm]; decide)]
theorem c_vouchN (l : Launch) (hfl : l.stackTraces = false) (G : va_G) (ag : Nat → Nat) (ad : Nat → Nat) (aT : Nat → Nat) (au : Nat → Nat) (al : Nat → Nat) (kk : Nat → Int32) (kt : Nat → Int32) (nw : Int32) (dw : Nat → Int32) (df : Nat → Int32) (dr : Nat → Int32) (de : Nat → Int32) (th : Nat → Int32) (tr : Nat → Int32) (tm : Nat → Int32) (tb : Nat → Int32) (td : Nat → Int32) (tg : Nat → Int32) (tl : Nat → Int32) (tn : Int32) (uh : Nat → Int32) (ur : Nat → Int32) (um : Nat → Int32) (ub : Nat → Int32) (ud : Nat → Int32) (ug : Nat → Int32) (ul : Nat → Int32) (un : Int32) (lk : Nat → Int32) (lp : Nat → Int32) (lg : Nat → Int32) (lm : Nat → Int32) (ls : Int32) (lv : Int32) (p0 : Int32) (p1 : Int32) (p2 : Int32) (hp : vp_in p0 12) (hg : ¬ f_X3_isGuest_r p1 = 0) (e : ¬ p0 = p1) (r1 : ¬ p2 < 1) (r2 : p2 ≤ 63) (hm : f_X3_mayAct_r nw de th td tl p0 = 0) (hth : ∀ j : Nat, j < 12 → inN (th j)) (hls : ¬ ls < 0) : Ke l yL_vouch wsL_vouch { frames := 7, cells := 1, slots := 6, locals := 113 } 1 6 G (wG G ag ad aT au al kk kt nw ++ (wD G ad dw df dr de ++ (wT G aT th tr tm tb td tg tl tn ++ (wT G au uh ur um ub ud ug ul un ++ (wL G al lk lp lg lm ls lv))))) [.ref (ag 0), .int p0, .int p1, .int p2] (-1000003) (wG G ag ad aT au al kk kt nw ++ (wD G ad dw df dr de ++ (wT G aT th tr tm tb td tg tl tn ++ (wT G au uh ur um ub ud ug ul un ++ (wL G al lk lp lg lm ls lv))))) := by
  have h := c_L_vouch l hfl G ag ad aT au al kk kt nw dw df dr de th tr tm tb td tg tl tn uh ur um ub ud ug ul un lk lp lg lm ls lv p0 p1 p2 hth hls
  rw [e_vouchN_r hp hg e r1 r2 hm, e_vouchN_th hp hg e r1 r2 hm, e_vouchN_tr hp hg e r1 r2 hm, e_vouchN_tm hp hg e r1 r2 hm, e_vouchN_tb hp hg e r1 r2 hm, e_vouchN_td hp hg e r1 r2 hm, e_vouchN_lk hp hg e r1 r2 hm, e_vouchN_lp hp hg e r1 r2 hm, e_vouchN_lg hp hg e r1 r2 hm, e_vouchN_lm hp hg e r1 r2 hm, e_vouchN_ls hp hg e r1 r2 hm, e_vouchN_lv hp hg e r1 r2 hm] at h
  exact h
theorem k_vouchY {nw : Int32} {de : Nat → Int32} {th : Nat → Int32} {td : Nat → Int32} {tl : Nat → Int32} {ls : Int32} {lv : Int32} {p0 : Int32} {p1 : Int32} {p2 : Int32} (hp : vp_in p0 12) (hg : ¬ f_X3_isGuest_r p1 = 0) (e : ¬ p0 = p1) (r1 : ¬ p2 < 1) (r2 : p2 ≤ 63) (hm : ¬ f_X3_mayAct_r nw de th td tl p0 = 0) (hv : lv < 100) (h5 : ls < 512) : (f_X3_vouch_k nw de th td tl lv p0 p1 p2) = 0 := by
  unfold f_X3_vouch_k
  rw [if_neg (ps_ne hp), if_neg hg, if_neg e, if_neg r1, if_pos r2, if_neg hm, if_pos (show f_X1_countVouchings_r lv < 100 from hv)]
theorem e_vouchY_r {nw : Int32} {de : Nat → Int32} {th : Nat → Int32} {td : Nat → Int32} {tl : Nat → Int32} {ls : Int32} {lv : Int32} {p0 : Int32} {p1 : Int32} {p2 : Int32} (hp : vp_in p0 12) (hg : ¬ f_X3_isGuest_r p1 = 0) (e : ¬ p0 = p1) (r1 : ¬ p2 < 1) (r2 : p2 ≤ 63) (hm : ¬ f_X3_mayAct_r nw de th td tl p0 = 0) (hv : lv < 100) (h5 : ls < 512) : (f_L_vouch_r nw de th td tl lv p0 p1 p2) = (lv + 1) := by
  unfold f_L_vouch_r
  rw [if_pos (k_vouchY hp hg e r1 r2 hm hv h5)]
  unfold f_X3_vouch_r
  rw [if_neg (ps_ne hp), if_neg hg, if_neg e, if_neg r1, if_pos r2, if_neg hm, if_pos (show f_X1_countVouchings_r lv < 100 from hv)]
  rfl
theorem e_vouchY_th {nw : Int32} {de : Nat → Int32} {th : Nat → Int32} {td : Nat → Int32} {tl : Nat → Int32} {ls : Int32} {lv : Int32} {p0 : Int32} {p1 : Int32} {p2 : Int32} (hp : vp_in p0 12) (hg : ¬ f_X3_isGuest_r p1 = 0) (e : ¬ p0 = p1) (r1 : ¬ p2 < 1) (r2 : p2 ≤ 63) (hm : ¬ f_X3_mayAct_r nw de th td tl p0 = 0) (hv : lv < 100) (h5 : ls < 512) : (f_L_vouch_th nw de th td tl lv p0 p1 p2) = (upd th (p1).toNatClampNeg p0) := by
  unfold f_L_vouch_th
  rw [if_pos (k_vouchY hp hg e r1 r2 hm hv h5)]
  unfold f_X3_vouch_th
  rw [if_neg (ps_ne hp), if_neg hg, if_neg e, if_neg r1, if_pos r2, if_neg hm, if_pos (show f_X1_countVouchings_r lv < 100 from hv)]
  rfl
theorem e_vouchY_tr {nw : Int32} {de : Nat → Int32} {th : Nat → Int32} {tr : Nat → Int32} {td : Nat → Int32} {tl : Nat → Int32} {ls : Int32} {lv : Int32} {p0 : Int32} {p1 : Int32} {p2 : Int32} (hp : vp_in p0 12) (hg : ¬ f_X3_isGuest_r p1 = 0) (e : ¬ p0 = p1) (r1 : ¬ p2 < 1) (r2 : p2 ≤ 63) (hm : ¬ f_X3_mayAct_r nw de th td tl p0 = 0) (hv : lv < 100) (h5 : ls < 512) : (f_L_vouch_tr nw de th tr td tl lv p0 p1 p2) = (upd tr (p1).toNatClampNeg p2) := by
  unfold f_L_vouch_tr
  rw [if_pos (k_vouchY hp hg e r1 r2 hm hv h5)]
  unfold f_X3_vouch_tr
  rw [if_neg (ps_ne hp), if_neg hg, if_neg e, if_neg r1, if_pos r2, if_neg hm, if_pos (show f_X1_countVouchings_r lv < 100 from hv)]
  rfl
theorem e_vouchY_tm {nw : Int32} {de : Nat → Int32} {th : Nat → Int32} {tm : Nat → Int32} {td : Nat → Int32} {tl : Nat → Int32} {ls : Int32} {lv : Int32} {p0 : Int32} {p1 : Int32} {p2 : Int32} (hp : vp_in p0 12) (hg : ¬ f_X3_isGuest_r p1 = 0) (e : ¬ p0 = p1) (r1 : ¬ p2 < 1) (r2 : p2 ≤ 63) (hm : ¬ f_X3_mayAct_r nw de th td tl p0 = 0) (hv : lv < 100) (h5 : ls < 512) : (f_L_vouch_tm nw de th tm td tl lv p0 p1 p2) = (upd tm (p1).toNatClampNeg nw) := by
  unfold f_L_vouch_tm
  rw [if_pos (k_vouchY hp hg e r1 r2 hm hv h5)]
  unfold f_X3_vouch_tm
  rw [if_neg (ps_ne hp), if_neg hg, if_neg e, if_neg r1, if_pos r2, if_neg hm, if_pos (show f_X1_countVouchings_r lv < 100 from hv)]
  rfl
theorem e_vouchY_tb {nw : Int32} {de : Nat → Int32} {th : Nat → Int32} {tb : Nat → Int32} {td : Nat → Int32} {tg : Nat → Int32} {tl : Nat → Int32} {ls : Int32} {lv : Int32} {p0 : Int32} {p1 : Int32} {p2 : Int32} (hp : vp_in p0 12) (hg : ¬ f_X3_isGuest_r p1 = 0) (e : ¬ p0 = p1) (r1 : ¬ p2 < 1) (r2 : p2 ≤ 63) (hm : ¬ f_X3_mayAct_r nw de th td tl p0 = 0) (hv : lv < 100) (h5 : ls < 512) : (f_L_vouch_tb nw de th tb td tg tl lv p0 p1 p2) = (upd tb (p1).toNatClampNeg (tg (p0).toNatClampNeg)) := by
  unfold f_L_vouch_tb
  rw [if_pos (k_vouchY hp hg e r1 r2 hm hv h5)]
  unfold f_X3_vouch_tb
  rw [if_neg (ps_ne hp), if_neg hg, if_neg e, if_neg r1, if_pos r2, if_neg hm, if_pos (show f_X1_countVouchings_r lv < 100 from hv)]
  rfl
theorem e_vouchY_td {nw : Int32} {de : Nat → Int32} {th : Nat → Int32} {td : Nat → Int32} {tl : Nat → Int32} {ls : Int32} {lv : Int32} {p0 : Int32} {p1 : Int32} {p2 : Int32} (hp : vp_in p0 12) (hg : ¬ f_X3_isGuest_r p1 = 0) (e : ¬ p0 = p1) (r1 : ¬ p2 < 1) (r2 : p2 ≤ 63) (hm : ¬ f_X3_mayAct_r nw de th td tl p0 = 0) (hv : lv < 100) (h5 : ls < 512) : (f_L_vouch_td nw de th td tl lv p0 p1 p2) = (upd td (p1).toNatClampNeg 0) := by
  unfold f_L_vouch_td
  rw [if_pos (k_vouchY hp hg e r1 r2 hm hv h5)]
  unfold f_X3_vouch_td
  rw [if_neg (ps_ne hp), if_neg hg, if_neg e, if_neg r1, if_pos r2, if_neg hm, if_pos (show f_X1_countVouchings_r lv < 100 from hv)]
  rfl
theorem e_vouchY_lk {nw : Int32} {de : Nat → Int32} {th : Nat → Int32} {td : Nat → Int32} {tl : Nat → Int32} {lk : Nat → Int32} {ls : Int32} {lv : Int32} {p0 : Int32} {p1 : Int32} {p2 : Int32} (hp : vp_in p0 12) (hg : ¬ f_X3_isGuest_r p1 = 0) (e : ¬ p0 = p1) (r1 : ¬ p2 < 1) (r2 : p2 ≤ 63) (hm : ¬ f_X3_mayAct_r nw de th td tl p0 = 0) (hv : lv < 100) (h5 : ls < 512) : (f_L_vouch_lk nw de th td tl lk ls lv p0 p1 p2) = (upd lk (ls).toNatClampNeg 0) := by
  unfold f_L_vouch_lk
  rw [if_pos (k_vouchY hp hg e r1 r2 hm hv h5)]
  unfold f_X3_vouch_lk
  rw [if_neg (ps_ne hp), if_neg hg, if_neg e, if_neg r1, if_pos r2, if_neg hm, if_pos (show f_X1_countVouchings_r lv < 100 from hv)]
  unfold f_X1_addVouching_lk f_X1_add_lk
  rw [if_pos h5]
theorem e_vouchY_lp {nw : Int32} {de : Nat → Int32} {th : Nat → Int32} {td : Nat → Int32} {tl : Nat → Int32} {lp : Nat → Int32} {ls : Int32} {lv : Int32} {p0 : Int32} {p1 : Int32} {p2 : Int32} (hp : vp_in p0 12) (hg : ¬ f_X3_isGuest_r p1 = 0) (e : ¬ p0 = p1) (r1 : ¬ p2 < 1) (r2 : p2 ≤ 63) (hm : ¬ f_X3_mayAct_r nw de th td tl p0 = 0) (hv : lv < 100) (h5 : ls < 512) : (f_L_vouch_lp nw de th td tl lp ls lv p0 p1 p2) = (upd lp (ls).toNatClampNeg p0) := by
  unfold f_L_vouch_lp
  rw [if_pos (k_vouchY hp hg e r1 r2 hm hv h5)]
  unfold f_X3_vouch_lp
  rw [if_neg (ps_ne hp), if_neg hg, if_neg e, if_neg r1, if_pos r2, if_neg hm, if_pos (show f_X1_countVouchings_r lv < 100 from hv)]
  unfold f_X1_addVouching_lp f_X1_add_lp
  rw [if_pos h5]
theorem e_vouchY_lg {nw : Int32} {de : Nat → Int32} {th : Nat → Int32} {td : Nat → Int32} {tl : Nat → Int32} {lg : Nat → Int32} {ls : Int32} {lv : Int32} {p0 : Int32} {p1 : Int32} {p2 : Int32} (hp : vp_in p0 12) (hg : ¬ f_X3_isGuest_r p1 = 0) (e : ¬ p0 = p1) (r1 : ¬ p2 < 1) (r2 : p2 ≤ 63) (hm : ¬ f_X3_mayAct_r nw de th td tl p0 = 0) (hv : lv < 100) (h5 : ls < 512) : (f_L_vouch_lg nw de th td tl lg ls lv p0 p1 p2) = (upd lg (ls).toNatClampNeg p1) := by
  unfold f_L_vouch_lg
  rw [if_pos (k_vouchY hp hg e r1 r2 hm hv h5)]
  unfold f_X3_vouch_lg
  rw [if_neg (ps_ne hp), if_neg hg, if_neg e, if_neg r1, if_pos r2, if_neg hm, if_pos (show f_X1_countVouchings_r lv < 100 from hv)]
  unfold f_X1_addVouching_lg f_X1_add_lg
  rw [if_pos h5]
theorem e_vouchY_lm {nw : Int32} {de : Nat → Int32} {th : Nat → Int32} {td : Nat → Int32} {tl : Nat → Int32} {lm : Nat → Int32} {ls : Int32} {lv : Int32} {p0 : Int32} {p1 : Int32} {p2 : Int32} (hp : vp_in p0 12) (hg : ¬ f_X3_isGuest_r p1 = 0) (e : ¬ p0 = p1) (r1 : ¬ p2 < 1) (r2 : p2 ≤ 63) (hm : ¬ f_X3_mayAct_r nw de th td tl p0 = 0) (hv : lv < 100) (h5 : ls < 512) : (f_L_vouch_lm nw de th td tl lm ls lv p0 p1 p2) = (upd lm (ls).toNatClampNeg nw) := by
  unfold f_L_vouch_lm
  rw [if_pos (k_vouchY hp hg e r1 r2 hm hv h5)]
  unfold f_X3_vouch_lm
  rw [if_neg (ps_ne hp), if_neg hg, if_neg e, if_neg r1, if_pos r2, if_neg hm, if_pos (show f_X1_countVouchings_r lv < 100 from hv)]
  unfold f_X1_addVouching_lm f_X1_add_lm
  rw [if_pos h5]
theorem e_vouchY_ls {nw : Int32} {de : Nat → Int32} {th : Nat → Int32} {td : Nat → Int32} {tl : Nat → Int32} {ls : Int32} {lv : Int32} {p0 : Int32} {p1 : Int32} {p2 : Int32} (hp : vp_in p0 12) (hg : ¬ f_X3_isGuest_r p1 = 0) (e : ¬ p0 = p1) (r1 : ¬ p2 < 1) (r2 : p2 ≤ 63) (hm : ¬ f_X3_mayAct_r nw de th td tl p0 = 0) (hv : lv < 100) (h5 : ls < 512) : (f_L_vouch_ls nw de th td tl ls lv p0 p1 p2) = (ls + 1) := by
  unfold f_L_vouch_ls
  rw [if_pos (k_vouchY hp hg e r1 r2 hm hv h5)]
  unfold f_X3_vouch_ls
  rw [if_neg (ps_ne hp), if_neg hg, if_neg e, if_neg r1, if_pos r2, if_neg hm, if_pos (show f_X1_countVouchings_r lv < 100 from hv)]
  unfold f_X1_addVouching_ls f_X1_add_ls
  rw [if_pos h5]
theorem e_vouchY_lv {nw : Int32} {de : Nat → Int32} {th : Nat → Int32} {td : Nat → Int32} {tl : Nat → Int32} {ls : Int32} {lv : Int32} {p0 : Int32} {p1 : Int32} {p2 : Int32} (hp : vp_in p0 12) (hg : ¬ f_X3_isGuest_r p1 = 0) (e : ¬ p0 = p1) (r1 : ¬ p2 < 1) (r2 : p2 ≤ 63) (hm : ¬ f_X3_mayAct_r nw de th td tl p0 = 0) (hv : lv < 100) (h5 : ls < 512) : (f_L_vouch_lv nw de th td tl lv p0 p1 p2) = (lv + 1) := by
  unfold f_L_vouch_lv
  rw [if_pos (k_vouchY hp hg e r1 r2 hm hv h5)]
  unfold f_X3_vouch_lv
  rw [if_neg (ps_ne hp), if_neg hg, if_neg e, if_neg r1, if_pos r2, if_neg hm, if_pos (show f_X1_countVouchings_r lv < 100 from hv)]
  rfl
theorem c_vouchY (l : Launch) (hfl : l.stackTraces = false) (G : va_G) (ag : Nat → Nat) (ad : Nat → Nat) (aT : Nat → Nat) (au : Nat → Nat) (al : Nat → Nat) (kk : Nat → Int32) (kt : Nat → Int32) (nw : Int32) (dw : Nat → Int32) (df : Nat → Int32) (dr : Nat → Int32) (de : Nat → Int32) (th : Nat → Int32) (tr : Nat → Int32) (tm : Nat → Int32) (tb : Nat → Int32) (td : Nat → Int32) (tg : Nat → Int32) (tl : Nat → Int32) (tn : Int32) (uh : Nat → Int32) (ur : Nat → Int32) (um : Nat → Int32) (ub : Nat → Int32) (ud : Nat → Int32) (ug : Nat → Int32) (ul : Nat → Int32) (un : Int32) (lk : Nat → Int32) (lp : Nat → Int32) (lg : Nat → Int32) (lm : Nat → Int32) (ls : Int32) (lv : Int32) (p0 : Int32) (p1 : Int32) (p2 : Int32) (hp : vp_in p0 12) (hg : ¬ f_X3_isGuest_r p1 = 0) (e : ¬ p0 = p1) (r1 : ¬ p2 < 1) (r2 : p2 ≤ 63) (hm : ¬ f_X3_mayAct_r nw de th td tl p0 = 0) (hv : lv < 100) (h5 : ls < 512) (hth : ∀ j : Nat, j < 12 → inN (th j)) (hls : ¬ ls < 0) : Ke l yL_vouch wsL_vouch { frames := 7, cells := 1, slots := 6, locals := 113 } 1 6 G (wG G ag ad aT au al kk kt nw ++ (wD G ad dw df dr de ++ (wT G aT th tr tm tb td tg tl tn ++ (wT G au uh ur um ub ud ug ul un ++ (wL G al lk lp lg lm ls lv))))) [.ref (ag 0), .int p0, .int p1, .int p2] (lv + 1) (wG G ag ad aT au al kk kt nw ++ (wD G ad dw df dr de ++ (wT G aT (upd th (p1).toNatClampNeg p0) (upd tr (p1).toNatClampNeg p2) (upd tm (p1).toNatClampNeg nw) (upd tb (p1).toNatClampNeg (tg (p0).toNatClampNeg)) (upd td (p1).toNatClampNeg 0) tg tl tn ++ (wT G au uh ur um ub ud ug ul un ++ (wL G al (upd lk (ls).toNatClampNeg 0) (upd lp (ls).toNatClampNeg p0) (upd lg (ls).toNatClampNeg p1) (upd lm (ls).toNatClampNeg nw) (ls + 1) (lv + 1)))))) := by
  have h := c_L_vouch l hfl G ag ad aT au al kk kt nw dw df dr de th tr tm tb td tg tl tn uh ur um ub ud ug ul un lk lp lg lm ls lv p0 p1 p2 hth hls
  rw [e_vouchY_r hp hg e r1 r2 hm hv h5, e_vouchY_th hp hg e r1 r2 hm hv h5, e_vouchY_tr hp hg e r1 r2 hm hv h5, e_vouchY_tm hp hg e r1 r2 hm hv h5, e_vouchY_tb hp hg e r1 r2 hm hv h5, e_vouchY_td hp hg e r1 r2 hm hv h5, e_vouchY_lk hp hg e r1 r2 hm hv h5, e_vouchY_lp hp hg e r1 r2 hm hv h5, e_vouchY_lg hp hg e r1 r2 hm hv h5, e_vouchY_lm hp hg e r1 r2 hm hv h5, e_vouchY_ls hp hg e r1 r2 hm hv h5, e_vouchY_lv hp hg e r1 r2 hm hv h5] at h
  exact h
theorem k_endN {th : Nat → Int32} {p0 : Int32} (hg : ¬ f_X3_isGuest_r p0 = 0) (e : th (p0).toNatClampNeg = -1) : (f_X3_end_k th p0) = 3 := by
  unfold f_X3_end_k
  rw [if_neg hg, if_pos (show f_X2_hostOf_r th p0 = -1 from e)]
theorem e_endN_r {th : Nat → Int32} {p0 : Int32} (hg : ¬ f_X3_isGuest_r p0 = 0) (e : th (p0).toNatClampNeg = -1) : (f_L_end_r th p0) = (-1000003) := by
  unfold f_L_end_r
  rw [k_endN hg e, if_neg (show ¬ (3 : Int32) = 0 by decide), if_neg (show ¬ (3 : Int32) = 1 by decide)]
theorem e_endN_th {th : Nat → Int32} {p0 : Int32} (hg : ¬ f_X3_isGuest_r p0 = 0) (e : th (p0).toNatClampNeg = -1) : (f_L_end_th th p0) = th := by
  unfold f_L_end_th
  rw [if_neg (by rw [k_endN hg e]; decide)]
theorem e_endN_td {th : Nat → Int32} {td : Nat → Int32} {p0 : Int32} (hg : ¬ f_X3_isGuest_r p0 = 0) (e : th (p0).toNatClampNeg = -1) : (f_L_end_td th td p0) = td := by
  unfold f_L_end_td
  rw [if_neg (by rw [k_endN hg e]; decide)]
theorem e_endN_lk {th : Nat → Int32} {lk : Nat → Int32} {ls : Int32} {p0 : Int32} (hg : ¬ f_X3_isGuest_r p0 = 0) (e : th (p0).toNatClampNeg = -1) : (f_L_end_lk th lk ls p0) = lk := by
  unfold f_L_end_lk
  rw [if_neg (by rw [k_endN hg e]; decide)]
theorem e_endN_lp {th : Nat → Int32} {lp : Nat → Int32} {ls : Int32} {p0 : Int32} (hg : ¬ f_X3_isGuest_r p0 = 0) (e : th (p0).toNatClampNeg = -1) : (f_L_end_lp th lp ls p0) = lp := by
  unfold f_L_end_lp
  rw [if_neg (by rw [k_endN hg e]; decide)]
theorem e_endN_lg {th : Nat → Int32} {lg : Nat → Int32} {ls : Int32} {p0 : Int32} (hg : ¬ f_X3_isGuest_r p0 = 0) (e : th (p0).toNatClampNeg = -1) : (f_L_end_lg th lg ls p0) = lg := by
  unfold f_L_end_lg
  rw [if_neg (by rw [k_endN hg e]; decide)]
theorem e_endN_lm {th : Nat → Int32} {lm : Nat → Int32} {ls : Int32} {p0 : Int32} (hg : ¬ f_X3_isGuest_r p0 = 0) (e : th (p0).toNatClampNeg = -1) : (f_L_end_lm th lm ls p0) = lm := by
  unfold f_L_end_lm
  rw [if_neg (by rw [k_endN hg e]; decide)]
theorem e_endN_ls {th : Nat → Int32} {ls : Int32} {p0 : Int32} (hg : ¬ f_X3_isGuest_r p0 = 0) (e : th (p0).toNatClampNeg = -1) : (f_L_end_ls th ls p0) = ls := by
  unfold f_L_end_ls
  rw [if_neg (by rw [k_endN hg e]; decide)]
theorem c_endN (l : Launch) (hfl : l.stackTraces = false) (G : va_G) (ag : Nat → Nat) (ad : Nat → Nat) (aT : Nat → Nat) (au : Nat → Nat) (al : Nat → Nat) (kk : Nat → Int32) (kt : Nat → Int32) (nw : Int32) (dw : Nat → Int32) (df : Nat → Int32) (dr : Nat → Int32) (de : Nat → Int32) (th : Nat → Int32) (tr : Nat → Int32) (tm : Nat → Int32) (tb : Nat → Int32) (td : Nat → Int32) (tg : Nat → Int32) (tl : Nat → Int32) (tn : Int32) (uh : Nat → Int32) (ur : Nat → Int32) (um : Nat → Int32) (ub : Nat → Int32) (ud : Nat → Int32) (ug : Nat → Int32) (ul : Nat → Int32) (un : Int32) (lk : Nat → Int32) (lp : Nat → Int32) (lg : Nat → Int32) (lm : Nat → Int32) (ls : Int32) (lv : Int32) (p0 : Int32) (hg : ¬ f_X3_isGuest_r p0 = 0) (e : th (p0).toNatClampNeg = -1) (hls : ¬ ls < 0) : Ke l yL_end wsL_end { frames := 7, cells := 1, slots := 6, locals := 112 } 1 6 G (wG G ag ad aT au al kk kt nw ++ (wD G ad dw df dr de ++ (wT G aT th tr tm tb td tg tl tn ++ (wT G au uh ur um ub ud ug ul un ++ (wL G al lk lp lg lm ls lv))))) [.ref (ag 0), .int p0] (-1000003) (wG G ag ad aT au al kk kt nw ++ (wD G ad dw df dr de ++ (wT G aT th tr tm tb td tg tl tn ++ (wT G au uh ur um ub ud ug ul un ++ (wL G al lk lp lg lm ls lv))))) := by
  have h := c_L_end l hfl G ag ad aT au al kk kt nw dw df dr de th tr tm tb td tg tl tn uh ur um ub ud ug ul un lk lp lg lm ls lv p0 hls
  rw [e_endN_r hg e, e_endN_th hg e, e_endN_td hg e, e_endN_lk hg e, e_endN_lp hg e, e_endN_lg hg e, e_endN_lm hg e, e_endN_ls hg e] at h
  exact h
theorem k_endY {th : Nat → Int32} {ls : Int32} {p0 : Int32} (hg : ¬ f_X3_isGuest_r p0 = 0) (e : ¬ th (p0).toNatClampNeg = -1) (h5 : ls < 512) : (f_X3_end_k th p0) = 0 := by
  unfold f_X3_end_k
  rw [if_neg hg, if_neg (show ¬ f_X2_hostOf_r th p0 = -1 from e)]
theorem e_endY_r {th : Nat → Int32} {ls : Int32} {p0 : Int32} (hg : ¬ f_X3_isGuest_r p0 = 0) (e : ¬ th (p0).toNatClampNeg = -1) (h5 : ls < 512) : (f_L_end_r th p0) = (th (p0).toNatClampNeg) := by
  unfold f_L_end_r
  rw [if_pos (k_endY hg e h5)]
  unfold f_X3_end_r
  rw [if_neg hg, if_neg (show ¬ f_X2_hostOf_r th p0 = -1 from e)]
  rfl
theorem e_endY_th {th : Nat → Int32} {ls : Int32} {p0 : Int32} (hg : ¬ f_X3_isGuest_r p0 = 0) (e : ¬ th (p0).toNatClampNeg = -1) (h5 : ls < 512) : (f_L_end_th th p0) = (upd th (p0).toNatClampNeg (-1)) := by
  unfold f_L_end_th
  rw [if_pos (k_endY hg e h5)]
  unfold f_X3_end_th
  rw [if_neg hg, if_neg (show ¬ f_X2_hostOf_r th p0 = -1 from e)]
  rfl
theorem e_endY_td {th : Nat → Int32} {td : Nat → Int32} {ls : Int32} {p0 : Int32} (hg : ¬ f_X3_isGuest_r p0 = 0) (e : ¬ th (p0).toNatClampNeg = -1) (h5 : ls < 512) : (f_L_end_td th td p0) = (upd td (p0).toNatClampNeg 0) := by
  unfold f_L_end_td
  rw [if_pos (k_endY hg e h5)]
  unfold f_X3_end_td
  rw [if_neg hg, if_neg (show ¬ f_X2_hostOf_r th p0 = -1 from e)]
  rfl
theorem e_endY_lk {th : Nat → Int32} {lk : Nat → Int32} {ls : Int32} {p0 : Int32} (hg : ¬ f_X3_isGuest_r p0 = 0) (e : ¬ th (p0).toNatClampNeg = -1) (h5 : ls < 512) : (f_L_end_lk th lk ls p0) = (upd lk (ls).toNatClampNeg 1) := by
  unfold f_L_end_lk
  rw [if_pos (k_endY hg e h5)]
  unfold f_X3_end_lk
  rw [if_neg hg, if_neg (show ¬ f_X2_hostOf_r th p0 = -1 from e)]
  unfold f_X1_addEnding_lk f_X1_add_lk
  rw [if_pos h5]
theorem e_endY_lp {th : Nat → Int32} {lp : Nat → Int32} {ls : Int32} {p0 : Int32} (hg : ¬ f_X3_isGuest_r p0 = 0) (e : ¬ th (p0).toNatClampNeg = -1) (h5 : ls < 512) : (f_L_end_lp th lp ls p0) = (upd lp (ls).toNatClampNeg (-1)) := by
  unfold f_L_end_lp
  rw [if_pos (k_endY hg e h5)]
  unfold f_X3_end_lp
  rw [if_neg hg, if_neg (show ¬ f_X2_hostOf_r th p0 = -1 from e)]
  unfold f_X1_addEnding_lp f_X1_add_lp
  rw [if_pos h5]
theorem e_endY_lg {th : Nat → Int32} {lg : Nat → Int32} {ls : Int32} {p0 : Int32} (hg : ¬ f_X3_isGuest_r p0 = 0) (e : ¬ th (p0).toNatClampNeg = -1) (h5 : ls < 512) : (f_L_end_lg th lg ls p0) = (upd lg (ls).toNatClampNeg p0) := by
  unfold f_L_end_lg
  rw [if_pos (k_endY hg e h5)]
  unfold f_X3_end_lg
  rw [if_neg hg, if_neg (show ¬ f_X2_hostOf_r th p0 = -1 from e)]
  unfold f_X1_addEnding_lg f_X1_add_lg
  rw [if_pos h5]
theorem e_endY_lm {th : Nat → Int32} {lm : Nat → Int32} {ls : Int32} {p0 : Int32} (hg : ¬ f_X3_isGuest_r p0 = 0) (e : ¬ th (p0).toNatClampNeg = -1) (h5 : ls < 512) : (f_L_end_lm th lm ls p0) = (upd lm (ls).toNatClampNeg 0) := by
  unfold f_L_end_lm
  rw [if_pos (k_endY hg e h5)]
  unfold f_X3_end_lm
  rw [if_neg hg, if_neg (show ¬ f_X2_hostOf_r th p0 = -1 from e)]
  unfold f_X1_addEnding_lm f_X1_add_lm
  rw [if_pos h5]
theorem e_endY_ls {th : Nat → Int32} {ls : Int32} {p0 : Int32} (hg : ¬ f_X3_isGuest_r p0 = 0) (e : ¬ th (p0).toNatClampNeg = -1) (h5 : ls < 512) : (f_L_end_ls th ls p0) = (ls + 1) := by
  unfold f_L_end_ls
  rw [if_pos (k_endY hg e h5)]
  unfold f_X3_end_ls
  rw [if_neg hg, if_neg (show ¬ f_X2_hostOf_r th p0 = -1 from e)]
  unfold f_X1_addEnding_ls f_X1_add_ls
  rw [if_pos h5]
theorem c_endY (l : Launch) (hfl : l.stackTraces = false) (G : va_G) (ag : Nat → Nat) (ad : Nat → Nat) (aT : Nat → Nat) (au : Nat → Nat) (al : Nat → Nat) (kk : Nat → Int32) (kt : Nat → Int32) (nw : Int32) (dw : Nat → Int32) (df : Nat → Int32) (dr : Nat → Int32) (de : Nat → Int32) (th : Nat → Int32) (tr : Nat → Int32) (tm : Nat → Int32) (tb : Nat → Int32) (td : Nat → Int32) (tg : Nat → Int32) (tl : Nat → Int32) (tn : Int32) (uh : Nat → Int32) (ur : Nat → Int32) (um : Nat → Int32) (ub : Nat → Int32) (ud : Nat → Int32) (ug : Nat → Int32) (ul : Nat → Int32) (un : Int32) (lk : Nat → Int32) (lp : Nat → Int32) (lg : Nat → Int32) (lm : Nat → Int32) (ls : Int32) (lv : Int32) (p0 : Int32) (hg : ¬ f_X3_isGuest_r p0 = 0) (e : ¬ th (p0).toNatClampNeg = -1) (h5 : ls < 512) (hls : ¬ ls < 0) : Ke l yL_end wsL_end { frames := 7, cells := 1, slots := 6, locals := 112 } 1 6 G (wG G ag ad aT au al kk kt nw ++ (wD G ad dw df dr de ++ (wT G aT th tr tm tb td tg tl tn ++ (wT G au uh ur um ub ud ug ul un ++ (wL G al lk lp lg lm ls lv))))) [.ref (ag 0), .int p0] (th (p0).toNatClampNeg) (wG G ag ad aT au al kk kt nw ++ (wD G ad dw df dr de ++ (wT G aT (upd th (p0).toNatClampNeg (-1)) tr tm tb (upd td (p0).toNatClampNeg 0) tg tl tn ++ (wT G au uh ur um ub ud ug ul un ++ (wL G al (upd lk (ls).toNatClampNeg 1) (upd lp (ls).toNatClampNeg (-1)) (upd lg (ls).toNatClampNeg p0) (upd lm (ls).toNatClampNeg 0) (ls + 1) lv))))) := by
  have h := c_L_end l hfl G ag ad aT au al kk kt nw dw df dr de th tr tm tb td tg tl tn uh ur um ub ud ug ul un lk lp lg lm ls lv p0 hls
  rw [e_endY_r hg e h5, e_endY_th hg e h5, e_endY_td hg e h5, e_endY_lk hg e h5, e_endY_lp hg e h5, e_endY_lg hg e h5, e_endY_lm hg e h5, e_endY_ls hg e h5] at h
  exact h
theorem k_loseN {nw : Int32} {p0 : Int32} {p1 : Int32} (hp : vp_in p0 12) (h1 : ¬ p1 < 0) (h2 : ¬ p1 ≤ nw) : (f_X3_lose_k nw p0 p1) = 2 := by
  unfold f_X3_lose_k
  rw [if_neg (ps_ne hp), if_neg h1, if_neg h2]
theorem e_loseN_r {nw : Int32} {th : Nat → Int32} {tm : Nat → Int32} {tb : Nat → Int32} {td : Nat → Int32} {tg : Nat → Int32} {tl : Nat → Int32} {p0 : Int32} {p1 : Int32} (hp : vp_in p0 12) (h1 : ¬ p1 < 0) (h2 : ¬ p1 ≤ nw) : (f_L_lose_r nw th tm tb td tg tl p0 p1) = (-1000002) := by
  unfold f_L_lose_r
  rw [k_loseN hp h1 h2, if_neg (show ¬ (2 : Int32) = 0 by decide), if_neg (show ¬ (2 : Int32) = 1 by decide)]
theorem e_loseN_td {nw : Int32} {th : Nat → Int32} {tm : Nat → Int32} {tb : Nat → Int32} {td : Nat → Int32} {tg : Nat → Int32} {p0 : Int32} {p1 : Int32} (hp : vp_in p0 12) (h1 : ¬ p1 < 0) (h2 : ¬ p1 ≤ nw) : (f_L_lose_td nw th tm tb td tg p0 p1) = td := by
  unfold f_L_lose_td
  rw [if_neg (by rw [k_loseN hp h1 h2]; decide)]
theorem e_loseN_tl {nw : Int32} {tl : Nat → Int32} {p0 : Int32} {p1 : Int32} (hp : vp_in p0 12) (h1 : ¬ p1 < 0) (h2 : ¬ p1 ≤ nw) : (f_L_lose_tl nw tl p0 p1) = tl := by
  unfold f_L_lose_tl
  rw [if_neg (by rw [k_loseN hp h1 h2]; decide)]
theorem e_loseN_lk {nw : Int32} {lk : Nat → Int32} {ls : Int32} {p0 : Int32} {p1 : Int32} (hp : vp_in p0 12) (h1 : ¬ p1 < 0) (h2 : ¬ p1 ≤ nw) : (f_L_lose_lk nw lk ls p0 p1) = lk := by
  unfold f_L_lose_lk
  rw [if_neg (by rw [k_loseN hp h1 h2]; decide)]
theorem e_loseN_lp {nw : Int32} {lp : Nat → Int32} {ls : Int32} {p0 : Int32} {p1 : Int32} (hp : vp_in p0 12) (h1 : ¬ p1 < 0) (h2 : ¬ p1 ≤ nw) : (f_L_lose_lp nw lp ls p0 p1) = lp := by
  unfold f_L_lose_lp
  rw [if_neg (by rw [k_loseN hp h1 h2]; decide)]
theorem e_loseN_lg {nw : Int32} {lg : Nat → Int32} {ls : Int32} {p0 : Int32} {p1 : Int32} (hp : vp_in p0 12) (h1 : ¬ p1 < 0) (h2 : ¬ p1 ≤ nw) : (f_L_lose_lg nw lg ls p0 p1) = lg := by
  unfold f_L_lose_lg
  rw [if_neg (by rw [k_loseN hp h1 h2]; decide)]
theorem e_loseN_lm {nw : Int32} {lm : Nat → Int32} {ls : Int32} {p0 : Int32} {p1 : Int32} (hp : vp_in p0 12) (h1 : ¬ p1 < 0) (h2 : ¬ p1 ≤ nw) : (f_L_lose_lm nw lm ls p0 p1) = lm := by
  unfold f_L_lose_lm
  rw [if_neg (by rw [k_loseN hp h1 h2]; decide)]
theorem e_loseN_ls {nw : Int32} {ls : Int32} {p0 : Int32} {p1 : Int32} (hp : vp_in p0 12) (h1 : ¬ p1 < 0) (h2 : ¬ p1 ≤ nw) : (f_L_lose_ls nw ls p0 p1) = ls := by
  unfold f_L_lose_ls
  rw [if_neg (by rw [k_loseN hp h1 h2]; decide)]
theorem c_loseN (l : Launch) (hfl : l.stackTraces = false) (G : va_G) (ag : Nat → Nat) (ad : Nat → Nat) (aT : Nat → Nat) (au : Nat → Nat) (al : Nat → Nat) (kk : Nat → Int32) (kt : Nat → Int32) (nw : Int32) (dw : Nat → Int32) (df : Nat → Int32) (dr : Nat → Int32) (de : Nat → Int32) (th : Nat → Int32) (tr : Nat → Int32) (tm : Nat → Int32) (tb : Nat → Int32) (td : Nat → Int32) (tg : Nat → Int32) (tl : Nat → Int32) (tn : Int32) (uh : Nat → Int32) (ur : Nat → Int32) (um : Nat → Int32) (ub : Nat → Int32) (ud : Nat → Int32) (ug : Nat → Int32) (ul : Nat → Int32) (un : Int32) (lk : Nat → Int32) (lp : Nat → Int32) (lg : Nat → Int32) (lm : Nat → Int32) (ls : Int32) (lv : Int32) (p0 : Int32) (p1 : Int32) (hp : vp_in p0 12) (h1 : ¬ p1 < 0) (h2 : ¬ p1 ≤ nw) (hth : ∀ j : Nat, j < 12 → inN (th j)) (hls : ¬ ls < 0) : Ke l yL_lose wsL_lose { frames := 7, cells := 1, slots := 6, locals := 112 } 1 6 G (wG G ag ad aT au al kk kt nw ++ (wD G ad dw df dr de ++ (wT G aT th tr tm tb td tg tl tn ++ (wT G au uh ur um ub ud ug ul un ++ (wL G al lk lp lg lm ls lv))))) [.ref (ag 0), .int p0, .int p1] (-1000002) (wG G ag ad aT au al kk kt nw ++ (wD G ad dw df dr de ++ (wT G aT th tr tm tb td tg tl tn ++ (wT G au uh ur um ub ud ug ul un ++ (wL G al lk lp lg lm ls lv))))) := by
  have h := c_L_lose l hfl G ag ad aT au al kk kt nw dw df dr de th tr tm tb td tg tl tn uh ur um ub ud ug ul un lk lp lg lm ls lv p0 p1 hth hls
  rw [e_loseN_r hp h1 h2, e_loseN_td hp h1 h2, e_loseN_tl hp h1 h2, e_loseN_lk hp h1 h2, e_loseN_lp hp h1 h2, e_loseN_lg hp h1 h2, e_loseN_lm hp h1 h2, e_loseN_ls hp h1 h2] at h
  exact h
theorem k_loseY {nw : Int32} {ls : Int32} {p0 : Int32} {p1 : Int32} (hp : vp_in p0 12) (h1 : ¬ p1 < 0) (h2 : p1 ≤ nw) (h5 : ls < 512) : (f_X3_lose_k nw p0 p1) = 0 := by
  unfold f_X3_lose_k
  rw [if_neg (ps_ne hp), if_neg h1, if_pos h2]
theorem e_loseY_r {nw : Int32} {th : Nat → Int32} {tm : Nat → Int32} {tb : Nat → Int32} {td : Nat → Int32} {tg : Nat → Int32} {tl : Nat → Int32} {ls : Int32} {p0 : Int32} {p1 : Int32} (hp : vp_in p0 12) (h1 : ¬ p1 < 0) (h2 : p1 ≤ nw) (h5 : ls < 512) : (f_L_lose_r nw th tm tb td tg tl p0 p1) = (f_X2_countTainted_r th (f_X2_markLost_td th tm tb td tg p0 p1) (upd tl (p0).toNatClampNeg 1)) := by
  unfold f_L_lose_r
  rw [if_pos (k_loseY hp h1 h2 h5)]
  unfold f_X3_lose_r
  rw [if_neg (ps_ne hp), if_neg h1, if_pos h2]
  rfl
theorem e_loseY_td {nw : Int32} {th : Nat → Int32} {tm : Nat → Int32} {tb : Nat → Int32} {td : Nat → Int32} {tg : Nat → Int32} {ls : Int32} {p0 : Int32} {p1 : Int32} (hp : vp_in p0 12) (h1 : ¬ p1 < 0) (h2 : p1 ≤ nw) (h5 : ls < 512) : (f_L_lose_td nw th tm tb td tg p0 p1) = (f_X2_markLost_td th tm tb td tg p0 p1) := by
  unfold f_L_lose_td
  rw [if_pos (k_loseY hp h1 h2 h5)]
  unfold f_X3_lose_td
  rw [if_neg (ps_ne hp), if_neg h1, if_pos h2]
theorem e_loseY_tl {nw : Int32} {tl : Nat → Int32} {ls : Int32} {p0 : Int32} {p1 : Int32} (hp : vp_in p0 12) (h1 : ¬ p1 < 0) (h2 : p1 ≤ nw) (h5 : ls < 512) : (f_L_lose_tl nw tl p0 p1) = (upd tl (p0).toNatClampNeg 1) := by
  unfold f_L_lose_tl
  rw [if_pos (k_loseY hp h1 h2 h5)]
  unfold f_X3_lose_tl
  rw [if_neg (ps_ne hp), if_neg h1, if_pos h2]
  rfl
theorem e_loseY_lk {nw : Int32} {lk : Nat → Int32} {ls : Int32} {p0 : Int32} {p1 : Int32} (hp : vp_in p0 12) (h1 : ¬ p1 < 0) (h2 : p1 ≤ nw) (h5 : ls < 512) : (f_L_lose_lk nw lk ls p0 p1) = (upd lk (ls).toNatClampNeg 2) := by
  unfold f_L_lose_lk
  rw [if_pos (k_loseY hp h1 h2 h5)]
  unfold f_X3_lose_lk
  rw [if_neg (ps_ne hp), if_neg h1, if_pos h2]
  unfold f_X1_addLoss_lk f_X1_add_lk
  rw [if_pos h5]
theorem e_loseY_lp {nw : Int32} {lp : Nat → Int32} {ls : Int32} {p0 : Int32} {p1 : Int32} (hp : vp_in p0 12) (h1 : ¬ p1 < 0) (h2 : p1 ≤ nw) (h5 : ls < 512) : (f_L_lose_lp nw lp ls p0 p1) = (upd lp (ls).toNatClampNeg p0) := by
  unfold f_L_lose_lp
  rw [if_pos (k_loseY hp h1 h2 h5)]
  unfold f_X3_lose_lp
  rw [if_neg (ps_ne hp), if_neg h1, if_pos h2]
  unfold f_X1_addLoss_lp f_X1_add_lp
  rw [if_pos h5]
theorem e_loseY_lg {nw : Int32} {lg : Nat → Int32} {ls : Int32} {p0 : Int32} {p1 : Int32} (hp : vp_in p0 12) (h1 : ¬ p1 < 0) (h2 : p1 ≤ nw) (h5 : ls < 512) : (f_L_lose_lg nw lg ls p0 p1) = (upd lg (ls).toNatClampNeg (-1)) := by
  unfold f_L_lose_lg
  rw [if_pos (k_loseY hp h1 h2 h5)]
  unfold f_X3_lose_lg
  rw [if_neg (ps_ne hp), if_neg h1, if_pos h2]
  unfold f_X1_addLoss_lg f_X1_add_lg
  rw [if_pos h5]
theorem e_loseY_lm {nw : Int32} {lm : Nat → Int32} {ls : Int32} {p0 : Int32} {p1 : Int32} (hp : vp_in p0 12) (h1 : ¬ p1 < 0) (h2 : p1 ≤ nw) (h5 : ls < 512) : (f_L_lose_lm nw lm ls p0 p1) = (upd lm (ls).toNatClampNeg p1) := by
  unfold f_L_lose_lm
  rw [if_pos (k_loseY hp h1 h2 h5)]
  unfold f_X3_lose_lm
  rw [if_neg (ps_ne hp), if_neg h1, if_pos h2]
  unfold f_X1_addLoss_lm f_X1_add_lm
  rw [if_pos h5]
theorem e_loseY_ls {nw : Int32} {ls : Int32} {p0 : Int32} {p1 : Int32} (hp : vp_in p0 12) (h1 : ¬ p1 < 0) (h2 : p1 ≤ nw) (h5 : ls < 512) : (f_L_lose_ls nw ls p0 p1) = (ls + 1) := by
  unfold f_L_lose_ls
  rw [if_pos (k_loseY hp h1 h2 h5)]
  unfold f_X3_lose_ls
  rw [if_neg (ps_ne hp), if_neg h1, if_pos h2]
  unfold f_X1_addLoss_ls f_X1_add_ls
  rw [if_pos h5]
theorem c_loseY (l : Launch) (hfl : l.stackTraces = false) (G : va_G) (ag : Nat → Nat) (ad : Nat → Nat) (aT : Nat → Nat) (au : Nat → Nat) (al : Nat → Nat) (kk : Nat → Int32) (kt : Nat → Int32) (nw : Int32) (dw : Nat → Int32) (df : Nat → Int32) (dr : Nat → Int32) (de : Nat → Int32) (th : Nat → Int32) (tr : Nat → Int32) (tm : Nat → Int32) (tb : Nat → Int32) (td : Nat → Int32) (tg : Nat → Int32) (tl : Nat → Int32) (tn : Int32) (uh : Nat → Int32) (ur : Nat → Int32) (um : Nat → Int32) (ub : Nat → Int32) (ud : Nat → Int32) (ug : Nat → Int32) (ul : Nat → Int32) (un : Int32) (lk : Nat → Int32) (lp : Nat → Int32) (lg : Nat → Int32) (lm : Nat → Int32) (ls : Int32) (lv : Int32) (p0 : Int32) (p1 : Int32) (hp : vp_in p0 12) (h1 : ¬ p1 < 0) (h2 : p1 ≤ nw) (h5 : ls < 512) (hth : ∀ j : Nat, j < 12 → inN (th j)) (hls : ¬ ls < 0) : Ke l yL_lose wsL_lose { frames := 7, cells := 1, slots := 6, locals := 112 } 1 6 G (wG G ag ad aT au al kk kt nw ++ (wD G ad dw df dr de ++ (wT G aT th tr tm tb td tg tl tn ++ (wT G au uh ur um ub ud ug ul un ++ (wL G al lk lp lg lm ls lv))))) [.ref (ag 0), .int p0, .int p1] (f_X2_countTainted_r th (f_X2_markLost_td th tm tb td tg p0 p1) (upd tl (p0).toNatClampNeg 1)) (wG G ag ad aT au al kk kt nw ++ (wD G ad dw df dr de ++ (wT G aT th tr tm tb (f_X2_markLost_td th tm tb td tg p0 p1) tg (upd tl (p0).toNatClampNeg 1) tn ++ (wT G au uh ur um ub ud ug ul un ++ (wL G al (upd lk (ls).toNatClampNeg 2) (upd lp (ls).toNatClampNeg p0) (upd lg (ls).toNatClampNeg (-1)) (upd lm (ls).toNatClampNeg p1) (ls + 1) lv))))) := by
  have h := c_L_lose l hfl G ag ad aT au al kk kt nw dw df dr de th tr tm tb td tg tl tn uh ur um ub ud ug ul un lk lp lg lm ls lv p0 p1 hth hls
  rw [e_loseY_r hp h1 h2 h5, e_loseY_td hp h1 h2 h5, e_loseY_tl hp h1 h2 h5, e_loseY_lk hp h1 h2 h5, e_loseY_lp hp h1 h2 h5, e_loseY_lg hp h1 h2 h5, e_loseY_lm hp h1 h2 h5, e_loseY_ls hp h1 h2 h5] at h
  exact h
theorem k_issueY {ls : Int32} {p0 : Int32} (hp : vp_in p0 12) (h5 : ls < 512) : (f_X3_issue_k p0) = 0 := by
  unfold f_X3_issue_k
  rw [if_neg (ps_ne hp)]
theorem e_issueY_r {tg : Nat → Int32} {tn : Int32} {ls : Int32} {p0 : Int32} (hp : vp_in p0 12) (h5 : ls < 512) : (f_L_issue_r tg tn p0) = tn := by
  unfold f_L_issue_r
  rw [if_pos (k_issueY hp h5)]
  unfold f_X3_issue_r
  rw [if_neg (ps_ne hp)]
  exact upd_at _ _ _
theorem e_issueY_tg {tg : Nat → Int32} {tn : Int32} {ls : Int32} {p0 : Int32} (hp : vp_in p0 12) (h5 : ls < 512) : (f_L_issue_tg tg tn p0) = (upd tg (p0).toNatClampNeg tn) := by
  unfold f_L_issue_tg
  rw [if_pos (k_issueY hp h5)]
  unfold f_X3_issue_tg
  rw [if_neg (ps_ne hp)]
  rfl
theorem e_issueY_tl {tl : Nat → Int32} {ls : Int32} {p0 : Int32} (hp : vp_in p0 12) (h5 : ls < 512) : (f_L_issue_tl tl p0) = (upd tl (p0).toNatClampNeg 0) := by
  unfold f_L_issue_tl
  rw [if_pos (k_issueY hp h5)]
  unfold f_X3_issue_tl
  rw [if_neg (ps_ne hp)]
  rfl
theorem e_issueY_tn {tn : Int32} {ls : Int32} {p0 : Int32} (hp : vp_in p0 12) (h5 : ls < 512) : (f_L_issue_tn tn p0) = (tn + 1) := by
  unfold f_L_issue_tn
  rw [if_pos (k_issueY hp h5)]
  unfold f_X3_issue_tn
  rw [if_neg (ps_ne hp)]
  rfl
theorem e_issueY_lk {lk : Nat → Int32} {ls : Int32} {p0 : Int32} (hp : vp_in p0 12) (h5 : ls < 512) : (f_L_issue_lk lk ls p0) = (upd lk (ls).toNatClampNeg 3) := by
  unfold f_L_issue_lk
  rw [if_pos (k_issueY hp h5)]
  unfold f_X3_issue_lk
  rw [if_neg (ps_ne hp)]
  unfold f_X1_addIssue_lk f_X1_add_lk
  rw [if_pos h5]
theorem e_issueY_lp {lp : Nat → Int32} {ls : Int32} {p0 : Int32} (hp : vp_in p0 12) (h5 : ls < 512) : (f_L_issue_lp lp ls p0) = (upd lp (ls).toNatClampNeg p0) := by
  unfold f_L_issue_lp
  rw [if_pos (k_issueY hp h5)]
  unfold f_X3_issue_lp
  rw [if_neg (ps_ne hp)]
  unfold f_X1_addIssue_lp f_X1_add_lp
  rw [if_pos h5]
theorem e_issueY_lg {lg : Nat → Int32} {ls : Int32} {p0 : Int32} (hp : vp_in p0 12) (h5 : ls < 512) : (f_L_issue_lg lg ls p0) = (upd lg (ls).toNatClampNeg (-1)) := by
  unfold f_L_issue_lg
  rw [if_pos (k_issueY hp h5)]
  unfold f_X3_issue_lg
  rw [if_neg (ps_ne hp)]
  unfold f_X1_addIssue_lg f_X1_add_lg
  rw [if_pos h5]
theorem e_issueY_lm {lm : Nat → Int32} {ls : Int32} {p0 : Int32} (hp : vp_in p0 12) (h5 : ls < 512) : (f_L_issue_lm lm ls p0) = (upd lm (ls).toNatClampNeg 0) := by
  unfold f_L_issue_lm
  rw [if_pos (k_issueY hp h5)]
  unfold f_X3_issue_lm
  rw [if_neg (ps_ne hp)]
  unfold f_X1_addIssue_lm f_X1_add_lm
  rw [if_pos h5]
theorem e_issueY_ls {ls : Int32} {p0 : Int32} (hp : vp_in p0 12) (h5 : ls < 512) : (f_L_issue_ls ls p0) = (ls + 1) := by
  unfold f_L_issue_ls
  rw [if_pos (k_issueY hp h5)]
  unfold f_X3_issue_ls
  rw [if_neg (ps_ne hp)]
  unfold f_X1_addIssue_ls f_X1_add_ls
  rw [if_pos h5]
theorem c_issueY (l : Launch) (hfl : l.stackTraces = false) (G : va_G) (ag : Nat → Nat) (ad : Nat → Nat) (aT : Nat → Nat) (au : Nat → Nat) (al : Nat → Nat) (kk : Nat → Int32) (kt : Nat → Int32) (nw : Int32) (dw : Nat → Int32) (df : Nat → Int32) (dr : Nat → Int32) (de : Nat → Int32) (th : Nat → Int32) (tr : Nat → Int32) (tm : Nat → Int32) (tb : Nat → Int32) (td : Nat → Int32) (tg : Nat → Int32) (tl : Nat → Int32) (tn : Int32) (uh : Nat → Int32) (ur : Nat → Int32) (um : Nat → Int32) (ub : Nat → Int32) (ud : Nat → Int32) (ug : Nat → Int32) (ul : Nat → Int32) (un : Int32) (lk : Nat → Int32) (lp : Nat → Int32) (lg : Nat → Int32) (lm : Nat → Int32) (ls : Int32) (lv : Int32) (p0 : Int32) (hp : vp_in p0 12) (h5 : ls < 512) (hls : ¬ ls < 0) : Ke l yL_issue wsL_issue { frames := 7, cells := 1, slots := 6, locals := 111 } 1 6 G (wG G ag ad aT au al kk kt nw ++ (wD G ad dw df dr de ++ (wT G aT th tr tm tb td tg tl tn ++ (wT G au uh ur um ub ud ug ul un ++ (wL G al lk lp lg lm ls lv))))) [.ref (ag 0), .int p0] tn (wG G ag ad aT au al kk kt nw ++ (wD G ad dw df dr de ++ (wT G aT th tr tm tb td (upd tg (p0).toNatClampNeg tn) (upd tl (p0).toNatClampNeg 0) (tn + 1) ++ (wT G au uh ur um ub ud ug ul un ++ (wL G al (upd lk (ls).toNatClampNeg 3) (upd lp (ls).toNatClampNeg p0) (upd lg (ls).toNatClampNeg (-1)) (upd lm (ls).toNatClampNeg 0) (ls + 1) lv))))) := by
  have h := c_L_issue l hfl G ag ad aT au al kk kt nw dw df dr de th tr tm tb td tg tl tn uh ur um ub ud ug ul un lk lp lg lm ls lv p0 hls
  rw [e_issueY_r hp h5, e_issueY_tg hp h5, e_issueY_tl hp h5, e_issueY_tn hp h5, e_issueY_lk hp h5, e_issueY_lp hp h5, e_issueY_lg hp h5, e_issueY_lm hp h5, e_issueY_ls hp h5] at h
  exact h
theorem k_wordN {nw : Int32} {de : Nat → Int32} {p0 : Int32} {p1 : Int32} (hp : vp_in p0 12) (hw : vp_in p1 1000) (hi : f_X0_isInSession_r de p0 nw = 0) : (f_X3_word_k nw de p0 p1) = 3 := by
  unfold f_X3_word_k
  rw [if_neg (ps_ne hp), if_neg (isw hw).1, if_pos (isw hw).2.2, if_pos hi]
theorem e_wordN_r {nw : Int32} {de : Nat → Int32} {p0 : Int32} {p1 : Int32} (hp : vp_in p0 12) (hw : vp_in p1 1000) (hi : f_X0_isInSession_r de p0 nw = 0) : (f_L_word_r nw de p0 p1) = (-1000003) := by
  unfold f_L_word_r
  rw [k_wordN hp hw hi, if_neg (show ¬ (3 : Int32) = 0 by decide), if_neg (show ¬ (3 : Int32) = 1 by decide), if_neg (show ¬ (3 : Int32) = 2 by decide)]
theorem e_wordN_dw {nw : Int32} {dw : Nat → Int32} {de : Nat → Int32} {p0 : Int32} {p1 : Int32} (hp : vp_in p0 12) (hw : vp_in p1 1000) (hi : f_X0_isInSession_r de p0 nw = 0) : (f_L_word_dw nw dw de p0 p1) = dw := by
  unfold f_L_word_dw
  rw [if_neg (by rw [k_wordN hp hw hi]; decide)]
theorem c_wordN (l : Launch) (hfl : l.stackTraces = false) (G : va_G) (ag : Nat → Nat) (ad : Nat → Nat) (aT : Nat → Nat) (au : Nat → Nat) (al : Nat → Nat) (kk : Nat → Int32) (kt : Nat → Int32) (nw : Int32) (dw : Nat → Int32) (df : Nat → Int32) (dr : Nat → Int32) (de : Nat → Int32) (th : Nat → Int32) (tr : Nat → Int32) (tm : Nat → Int32) (tb : Nat → Int32) (td : Nat → Int32) (tg : Nat → Int32) (tl : Nat → Int32) (tn : Int32) (uh : Nat → Int32) (ur : Nat → Int32) (um : Nat → Int32) (ub : Nat → Int32) (ud : Nat → Int32) (ug : Nat → Int32) (ul : Nat → Int32) (un : Int32) (lk : Nat → Int32) (lp : Nat → Int32) (lg : Nat → Int32) (lm : Nat → Int32) (ls : Int32) (lv : Int32) (p0 : Int32) (p1 : Int32) (hp : vp_in p0 12) (hw : vp_in p1 1000) (hi : f_X0_isInSession_r de p0 nw = 0) : Ke l yL_word wsL_word { frames := 7, cells := 1, slots := 6, locals := 112 } 1 6 G (wG G ag ad aT au al kk kt nw ++ (wD G ad dw df dr de ++ (wT G aT th tr tm tb td tg tl tn ++ (wT G au uh ur um ub ud ug ul un ++ (wL G al lk lp lg lm ls lv))))) [.ref (ag 0), .int p0, .int p1] (-1000003) (wG G ag ad aT au al kk kt nw ++ (wD G ad dw df dr de ++ (wT G aT th tr tm tb td tg tl tn ++ (wT G au uh ur um ub ud ug ul un ++ (wL G al lk lp lg lm ls lv))))) := by
  have h := c_L_word l hfl G ag ad aT au al kk kt nw dw df dr de th tr tm tb td tg tl tn uh ur um ub ud ug ul un lk lp lg lm ls lv p0 p1 
  rw [e_wordN_r hp hw hi, e_wordN_dw hp hw hi] at h
  exact h
theorem k_wordY {nw : Int32} {de : Nat → Int32} {p0 : Int32} {p1 : Int32} (hp : vp_in p0 12) (hw : vp_in p1 1000) (hi : ¬ f_X0_isInSession_r de p0 nw = 0) : (f_X3_word_k nw de p0 p1) = 0 := by
  unfold f_X3_word_k
  rw [if_neg (ps_ne hp), if_neg (isw hw).1, if_pos (isw hw).2.2, if_neg hi]
theorem e_wordY_r {nw : Int32} {de : Nat → Int32} {p0 : Int32} {p1 : Int32} (hp : vp_in p0 12) (hw : vp_in p1 1000) (hi : ¬ f_X0_isInSession_r de p0 nw = 0) : (f_L_word_r nw de p0 p1) = 0 := by
  unfold f_L_word_r
  rw [if_pos (k_wordY hp hw hi)]
theorem e_wordY_dw {nw : Int32} {dw : Nat → Int32} {de : Nat → Int32} {p0 : Int32} {p1 : Int32} (hp : vp_in p0 12) (hw : vp_in p1 1000) (hi : ¬ f_X0_isInSession_r de p0 nw = 0) : (f_L_word_dw nw dw de p0 p1) = (upd dw (p0).toNatClampNeg p1) := by
  unfold f_L_word_dw
  rw [if_pos (k_wordY hp hw hi)]
  unfold f_X3_word_dw
  rw [if_neg (ps_ne hp), if_neg (isw hw).1, if_pos (isw hw).2.2, if_neg hi]
  rfl
theorem c_wordY (l : Launch) (hfl : l.stackTraces = false) (G : va_G) (ag : Nat → Nat) (ad : Nat → Nat) (aT : Nat → Nat) (au : Nat → Nat) (al : Nat → Nat) (kk : Nat → Int32) (kt : Nat → Int32) (nw : Int32) (dw : Nat → Int32) (df : Nat → Int32) (dr : Nat → Int32) (de : Nat → Int32) (th : Nat → Int32) (tr : Nat → Int32) (tm : Nat → Int32) (tb : Nat → Int32) (td : Nat → Int32) (tg : Nat → Int32) (tl : Nat → Int32) (tn : Int32) (uh : Nat → Int32) (ur : Nat → Int32) (um : Nat → Int32) (ub : Nat → Int32) (ud : Nat → Int32) (ug : Nat → Int32) (ul : Nat → Int32) (un : Int32) (lk : Nat → Int32) (lp : Nat → Int32) (lg : Nat → Int32) (lm : Nat → Int32) (ls : Int32) (lv : Int32) (p0 : Int32) (p1 : Int32) (hp : vp_in p0 12) (hw : vp_in p1 1000) (hi : ¬ f_X0_isInSession_r de p0 nw = 0) : Ke l yL_word wsL_word { frames := 7, cells := 1, slots := 6, locals := 112 } 1 6 G (wG G ag ad aT au al kk kt nw ++ (wD G ad dw df dr de ++ (wT G aT th tr tm tb td tg tl tn ++ (wT G au uh ur um ub ud ug ul un ++ (wL G al lk lp lg lm ls lv))))) [.ref (ag 0), .int p0, .int p1] 0 (wG G ag ad aT au al kk kt nw ++ (wD G ad (upd dw (p0).toNatClampNeg p1) df dr de ++ (wT G aT th tr tm tb td tg tl tn ++ (wT G au uh ur um ub ud ug ul un ++ (wL G al lk lp lg lm ls lv))))) := by
  have h := c_L_word l hfl G ag ad aT au al kk kt nw dw df dr de th tr tm tb td tg tl tn uh ur um ub ud ug ul un lk lp lg lm ls lv p0 p1 
  rw [e_wordY_r hp hw hi, e_wordY_dw hp hw hi] at h
  exact h
theorem k_shareY {p0 : Int32} {p1 : Int32} {p2 : Int32} (hp : vp_in p0 4) (h1 : ¬ p1 < 1) (h2 : p1 ≤ 4095) (h3 : ¬ p2 < 1) (h4 : p2 ≤ f_J6_bitCount_0f7a4_r p1) : (f_X3_share_k p0 p1 p2) = 0 := by
  unfold f_X3_share_k
  rw [if_neg (kin_ne hp), if_neg h1, if_pos h2, if_neg h3, if_pos h4]
theorem e_shareY_r {kt : Nat → Int32} {p0 : Int32} {p1 : Int32} {p2 : Int32} (hp : vp_in p0 4) (h1 : ¬ p1 < 1) (h2 : p1 ≤ 4095) (h3 : ¬ p2 < 1) (h4 : p2 ≤ f_J6_bitCount_0f7a4_r p1) : (f_L_share_r kt p0 p1 p2) = (kt (p0).toNatClampNeg) := by
  unfold f_L_share_r
  rw [if_pos (k_shareY hp h1 h2 h3 h4)]
  unfold f_X3_share_r
  rw [if_neg (kin_ne hp), if_neg h1, if_pos h2, if_neg h3, if_pos h4]
theorem e_shareY_kk {kk : Nat → Int32} {p0 : Int32} {p1 : Int32} {p2 : Int32} (hp : vp_in p0 4) (h1 : ¬ p1 < 1) (h2 : p1 ≤ 4095) (h3 : ¬ p2 < 1) (h4 : p2 ≤ f_J6_bitCount_0f7a4_r p1) : (f_L_share_kk kk p0 p1 p2) = (upd kk (p0).toNatClampNeg p1) := by
  unfold f_L_share_kk
  rw [if_pos (k_shareY hp h1 h2 h3 h4)]
  unfold f_X3_share_kk
  rw [if_neg (kin_ne hp), if_neg h1, if_pos h2, if_neg h3, if_pos h4]
theorem e_shareY_kt {kt : Nat → Int32} {p0 : Int32} {p1 : Int32} {p2 : Int32} (hp : vp_in p0 4) (h1 : ¬ p1 < 1) (h2 : p1 ≤ 4095) (h3 : ¬ p2 < 1) (h4 : p2 ≤ f_J6_bitCount_0f7a4_r p1) : (f_L_share_kt kt p0 p1 p2) = (upd kt (p0).toNatClampNeg p2) := by
  unfold f_L_share_kt
  rw [if_pos (k_shareY hp h1 h2 h3 h4)]
  unfold f_X3_share_kt
  rw [if_neg (kin_ne hp), if_neg h1, if_pos h2, if_neg h3, if_pos h4]
theorem c_shareY (l : Launch) (hfl : l.stackTraces = false) (G : va_G) (ag : Nat → Nat) (ad : Nat → Nat) (aT : Nat → Nat) (au : Nat → Nat) (al : Nat → Nat) (kk : Nat → Int32) (kt : Nat → Int32) (nw : Int32) (dw : Nat → Int32) (df : Nat → Int32) (dr : Nat → Int32) (de : Nat → Int32) (th : Nat → Int32) (tr : Nat → Int32) (tm : Nat → Int32) (tb : Nat → Int32) (td : Nat → Int32) (tg : Nat → Int32) (tl : Nat → Int32) (tn : Int32) (uh : Nat → Int32) (ur : Nat → Int32) (um : Nat → Int32) (ub : Nat → Int32) (ud : Nat → Int32) (ug : Nat → Int32) (ul : Nat → Int32) (un : Int32) (lk : Nat → Int32) (lp : Nat → Int32) (lg : Nat → Int32) (lm : Nat → Int32) (ls : Int32) (lv : Int32) (p0 : Int32) (p1 : Int32) (p2 : Int32) (hp : vp_in p0 4) (h1 : ¬ p1 < 1) (h2 : p1 ≤ 4095) (h3 : ¬ p2 < 1) (h4 : p2 ≤ f_J6_bitCount_0f7a4_r p1) : Ke l yL_share wsL_share { frames := 7, cells := 1, slots := 6, locals := 114 } 1 6 G (wG G ag ad aT au al kk kt nw ++ (wD G ad dw df dr de ++ (wT G aT th tr tm tb td tg tl tn ++ (wT G au uh ur um ub ud ug ul un ++ (wL G al lk lp lg lm ls lv))))) [.ref (ag 0), .int p0, .int p1, .int p2] (kt (p0).toNatClampNeg) (wG G ag ad aT au al (upd kk (p0).toNatClampNeg p1) (upd kt (p0).toNatClampNeg p2) nw ++ (wD G ad dw df dr de ++ (wT G aT th tr tm tb td tg tl tn ++ (wT G au uh ur um ub ud ug ul un ++ (wL G al lk lp lg lm ls lv))))) := by
  have h := c_L_share l hfl G ag ad aT au al kk kt nw dw df dr de th tr tm tb td tg tl tn uh ur um ub ud ug ul un lk lp lg lm ls lv p0 p1 p2 
  rw [e_shareY_r hp h1 h2 h3 h4, e_shareY_kk hp h1 h2 h3 h4, e_shareY_kt hp h1 h2 h3 h4] at h
  exact h
