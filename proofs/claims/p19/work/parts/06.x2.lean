def f_X3_isPerson_r (p0 : Int32) : Int32 := (if p0 < 0 then 0 else (if 12 ≤ p0 then 0 else 1))
set_option maxHeartbeats 4000000 in
set_option maxRecDepth 100000 in
theorem c_X3_isPerson (l : Launch) (G : va_G) (p0 : Int32) : Ke l yX3_isPerson wsX3_isPerson { frames := 0, cells := 0, slots := 0, locals := 0 } 0 0 G ([] : va_W) [.int p0] (f_X3_isPerson_r p0) ([] : va_W) := by
  refine v_ofi (cc := cX3_isPerson) (nL := 1) (lv := [(0, .int p0)]) (by decide) rfl (Nat.le_of_ble_eq_true rfl) rfl ?_
  intro p e s m args below meth c A X hr
  refine v_iload_n (pc := 0) X dX3_isPerson_0 0 rfl ?_
  refine v_if_lt (pc := 1) X 14 dX3_isPerson_1 (by decide) (fun c_1 => ?_) (fun c_1 => ?_)
  · refine v_iconst (pc := 14) (v := 0) X dX3_isPerson_14 (by decide) ?_
    exact v_zret (pc := 15) X hr rfl dX3_isPerson_15 () rfl (by show 0 = (f_X3_isPerson_r p0); simp only [f_X3_isPerson_r, if_pos c_1])
  · refine v_iload_n (pc := 4) X dX3_isPerson_4 0 rfl ?_
    refine v_bipush (pc := 5) (v := 12) X dX3_isPerson_5 (by decide) ?_
    refine v_icmp_ge (pc := 7) X 14 dX3_isPerson_7 (by decide) (fun c_7 => ?_) (fun c_7 => ?_)
    · refine v_iconst (pc := 14) (v := 0) X dX3_isPerson_14 (by decide) ?_
      exact v_zret (pc := 15) X hr rfl dX3_isPerson_15 () rfl (by show 0 = (f_X3_isPerson_r p0); simp only [f_X3_isPerson_r, if_neg c_1, if_pos c_7])
    · refine v_iconst (pc := 10) (v := 1) X dX3_isPerson_10 (by decide) ?_
      refine v_goto (pc := 11) X 15 dX3_isPerson_11 (by decide) ?_
      exact v_zret (pc := 15) X hr rfl dX3_isPerson_15 () rfl (by show 1 = (f_X3_isPerson_r p0); simp only [f_X3_isPerson_r, if_neg c_1, if_neg c_7])
def f_X3_isGuest_r (p0 : Int32) : Int32 := (if p0 < 4 then 0 else (if 12 ≤ p0 then 0 else 1))
set_option maxHeartbeats 4000000 in
set_option maxRecDepth 100000 in
theorem c_X3_isGuest (l : Launch) (G : va_G) (p0 : Int32) : Ke l yX3_isGuest wsX3_isGuest { frames := 0, cells := 0, slots := 0, locals := 0 } 0 0 G ([] : va_W) [.int p0] (f_X3_isGuest_r p0) ([] : va_W) := by
  refine v_ofi (cc := cX3_isGuest) (nL := 1) (lv := [(0, .int p0)]) (by decide) rfl (Nat.le_of_ble_eq_true rfl) rfl ?_
  intro p e s m args below meth c A X hr
  refine v_iload_n (pc := 0) X dX3_isGuest_0 0 rfl ?_
  refine v_iconst (pc := 1) (v := 4) X dX3_isGuest_1 (by decide) ?_
  refine v_icmp_lt (pc := 2) X 15 dX3_isGuest_2 (by decide) (fun c_2 => ?_) (fun c_2 => ?_)
  · refine v_iconst (pc := 15) (v := 0) X dX3_isGuest_15 (by decide) ?_
    exact v_zret (pc := 16) X hr rfl dX3_isGuest_16 () rfl (by show 0 = (f_X3_isGuest_r p0); simp only [f_X3_isGuest_r, if_pos c_2])
  · refine v_iload_n (pc := 5) X dX3_isGuest_5 0 rfl ?_
    refine v_bipush (pc := 6) (v := 12) X dX3_isGuest_6 (by decide) ?_
    refine v_icmp_ge (pc := 8) X 15 dX3_isGuest_8 (by decide) (fun c_8 => ?_) (fun c_8 => ?_)
    · refine v_iconst (pc := 15) (v := 0) X dX3_isGuest_15 (by decide) ?_
      exact v_zret (pc := 16) X hr rfl dX3_isGuest_16 () rfl (by show 0 = (f_X3_isGuest_r p0); simp only [f_X3_isGuest_r, if_neg c_2, if_pos c_8])
    · refine v_iconst (pc := 11) (v := 1) X dX3_isGuest_11 (by decide) ?_
      refine v_goto (pc := 12) X 16 dX3_isGuest_12 (by decide) ?_
      exact v_zret (pc := 16) X hr rfl dX3_isGuest_16 () rfl (by show 1 = (f_X3_isGuest_r p0); simp only [f_X3_isGuest_r, if_neg c_2, if_neg c_8])
theorem per_in {x : Int32} (h : ¬ f_X3_isPerson_r x = 0) : vp_in x 12 := by
  by_cases c1 : x < 0
  · exact absurd (by simp only [f_X3_isPerson_r, if_pos c1]) h
  · by_cases c2 : 12 ≤ x
    · exact absurd (by simp only [f_X3_isPerson_r, if_neg c1, if_pos c2]) h
    · exact vp_in_of2 (by decide) (by decide) c1 c2
theorem gst_in {x : Int32} (h : ¬ f_X3_isGuest_r x = 0) : vp_in x 12 := by
  by_cases c1 : x < 4
  · exact absurd (by simp only [f_X3_isGuest_r, if_pos c1]) h
  · by_cases c2 : 12 ≤ x
    · exact absurd (by simp only [f_X3_isGuest_r, if_neg c1, if_pos c2]) h
    · exact vp_in_of2 (by decide) (by decide) (fun q => c1 (by rw [Int32.lt_iff_toInt_lt] at q ⊢; exact Int.lt_trans q (by decide))) c2
def FX2_reset_2_x1 : Nat → Int32 → (Nat → Int32) → (Nat → Int32) → (Nat → Int32) → (Nat → Int32) → Int32
  | 0, _, _, _, _, _ => 0
  | n + 1, x1, vth, vtd, vtg, vtl => (if 12 ≤ x1 then x1 else (FX2_reset_2_x1 n (x1 + 1) (upd vth (x1).toNatClampNeg (-1)) (upd vtd (x1).toNatClampNeg 0) (upd vtg (x1).toNatClampNeg x1) (upd vtl (x1).toNatClampNeg 0) ))
def FX2_reset_2_vth : Nat → Int32 → (Nat → Int32) → (Nat → Int32) → (Nat → Int32) → (Nat → Int32) → Nat → Int32
  | 0, _, _, _, _, _ => fun _ => 0
  | n + 1, x1, vth, vtd, vtg, vtl => (if 12 ≤ x1 then vth else (FX2_reset_2_vth n (x1 + 1) (upd vth (x1).toNatClampNeg (-1)) (upd vtd (x1).toNatClampNeg 0) (upd vtg (x1).toNatClampNeg x1) (upd vtl (x1).toNatClampNeg 0) ))
def FX2_reset_2_vtd : Nat → Int32 → (Nat → Int32) → (Nat → Int32) → (Nat → Int32) → (Nat → Int32) → Nat → Int32
  | 0, _, _, _, _, _ => fun _ => 0
  | n + 1, x1, vth, vtd, vtg, vtl => (if 12 ≤ x1 then vtd else (FX2_reset_2_vtd n (x1 + 1) (upd vth (x1).toNatClampNeg (-1)) (upd vtd (x1).toNatClampNeg 0) (upd vtg (x1).toNatClampNeg x1) (upd vtl (x1).toNatClampNeg 0) ))
def FX2_reset_2_vtg : Nat → Int32 → (Nat → Int32) → (Nat → Int32) → (Nat → Int32) → (Nat → Int32) → Nat → Int32
  | 0, _, _, _, _, _ => fun _ => 0
  | n + 1, x1, vth, vtd, vtg, vtl => (if 12 ≤ x1 then vtg else (FX2_reset_2_vtg n (x1 + 1) (upd vth (x1).toNatClampNeg (-1)) (upd vtd (x1).toNatClampNeg 0) (upd vtg (x1).toNatClampNeg x1) (upd vtl (x1).toNatClampNeg 0) ))
def FX2_reset_2_vtl : Nat → Int32 → (Nat → Int32) → (Nat → Int32) → (Nat → Int32) → (Nat → Int32) → Nat → Int32
  | 0, _, _, _, _, _ => fun _ => 0
  | n + 1, x1, vth, vtd, vtg, vtl => (if 12 ≤ x1 then vtl else (FX2_reset_2_vtl n (x1 + 1) (upd vth (x1).toNatClampNeg (-1)) (upd vtd (x1).toNatClampNeg 0) (upd vtg (x1).toNatClampNeg x1) (upd vtl (x1).toNatClampNeg 0) ))
def f_X2_reset_th (th : Nat → Int32) (td : Nat → Int32) (tg : Nat → Int32) (tl : Nat → Int32) : Nat → Int32 := (FX2_reset_2_vth 13 0 th td tg tl)
def f_X2_reset_td (th : Nat → Int32) (td : Nat → Int32) (tg : Nat → Int32) (tl : Nat → Int32) : Nat → Int32 := (FX2_reset_2_vtd 13 0 th td tg tl)
def f_X2_reset_tg (th : Nat → Int32) (td : Nat → Int32) (tg : Nat → Int32) (tl : Nat → Int32) : Nat → Int32 := (FX2_reset_2_vtg 13 0 th td tg tl)
def f_X2_reset_tl (th : Nat → Int32) (td : Nat → Int32) (tg : Nat → Int32) (tl : Nat → Int32) : Nat → Int32 := (FX2_reset_2_vtl 13 0 th td tg tl)
def f_X2_reset_tn  : Int32 := 12
set_option maxHeartbeats 4000000 in
set_option maxRecDepth 100000 in
theorem c_X2_reset (l : Launch) (G : va_G) (aT : Nat → Nat) (th : Nat → Int32) (tr : Nat → Int32) (tm : Nat → Int32) (tb : Nat → Int32) (td : Nat → Int32) (tg : Nat → Int32) (tl : Nat → Int32) (tn : Int32) : Ku l yX2_reset wsX2_reset { frames := 0, cells := 0, slots := 0, locals := 0 } 0 0 G (wT G aT th tr tm tb td tg tl tn) [.ref (aT 0)] (wT G aT (f_X2_reset_th th td tg tl) tr tm tb (f_X2_reset_td th td tg tl) (f_X2_reset_tg th td tg tl) (f_X2_reset_tl th td tg tl) f_X2_reset_tn) := by
  refine v_ofv (cc := cX2_reset) (nL := 2) (lv := [(0, .ref (aT 0))]) (by decide) rfl (Nat.le_of_ble_eq_true rfl) rfl ?_
  intro p e s m args below meth c A X hr hin
  refine v_iconst (pc := 0) (v := 0) X dX2_reset_0 (by decide) ?_
  refine v_istore_n (pc := 1) (lv' := [(0, .ref (aT 0)), (1, .int 0)]) X dX2_reset_1 rfl (Nat.le_of_ble_eq_true rfl) [1, 0] rfl ?_
  have LP2 : ∀ (n : Nat) (x1 : Int32) (vth : Nat → Int32) (vtd : Nat → Int32) (vtg : Nat → Int32) (vtl : Nat → Int32), (x1 = nI (12 + 1 - n) ∧ 1 ≤ n ∧ n ≤ 12 + 1) → V p l e (headSpec wsX2_reset { frames := 0, cells := 0, slots := 0, locals := 0 }).room s m args below meth c 2 G A 0 0 (QV below args s G A 0 0 (S := Unit) (fun _ => True) (fun _ => (wT G aT (f_X2_reset_th th td tg tl) tr tm tb (f_X2_reset_td th td tg tl) (f_X2_reset_tg th td tg tl) (f_X2_reset_tl th td tg tl) f_X2_reset_tn))) (wT G aT (FX2_reset_2_vth n x1 vth vtd vtg vtl) tr tm tb (FX2_reset_2_vtd n x1 vth vtd vtg vtl) (FX2_reset_2_vtg n x1 vth vtd vtg vtl) (FX2_reset_2_vtl n x1 vth vtd vtg vtl) tn) [(0, .ref (aT 0)), (1, .int (FX2_reset_2_x1 n x1 vth vtd vtg vtl))] 42 [] → V p l e (headSpec wsX2_reset { frames := 0, cells := 0, slots := 0, locals := 0 }).room s m args below meth c 2 G A 0 0 (QV below args s G A 0 0 (S := Unit) (fun _ => True) (fun _ => (wT G aT (f_X2_reset_th th td tg tl) tr tm tb (f_X2_reset_td th td tg tl) (f_X2_reset_tg th td tg tl) (f_X2_reset_tl th td tg tl) f_X2_reset_tn))) (wT G aT vth tr tm tb vtd vtg vtl tn) [(0, .ref (aT 0)), (1, .int x1)] 2 [] := by
    intro n
    induction n with
    | zero => intro x1 vth vtd vtg vtl hI hK; exact False.elim (by omega)
    | succ n ih =>
      intro x1 vth vtd vtg vtl hI hK
      refine v_iload_n (pc := 2) X dX2_reset_2 1 rfl ?_
      refine v_bipush (pc := 3) (v := 12) X dX2_reset_3 (by decide) ?_
      refine v_icmp_ge (pc := 5) X 42 dX2_reset_5 (by decide) (fun c_5 => ?_) (fun c_5 => ?_)
      · simpa only [FX2_reset_2_x1, FX2_reset_2_vth, FX2_reset_2_vtd, FX2_reset_2_vtg, FX2_reset_2_vtl, if_pos c_5] using hK
      · have hi_x1 : vp_in x1 12 := (cnt_in (by decide) (by decide) hI c_5).1
        refine v_aload_n (pc := 8) X dX2_reset_8 0 rfl ?_
        refine v_get (pc := 9) (k := 0) (i := 1) X dX2_reset_9 (fun _ h => List.mem_cons_of_mem _ (List.mem_append_right _ h)) 0 rfl rfl (Nat.le_of_ble_eq_true rfl) rfl rfl rfl ?_
        refine v_iload_n (pc := 12) X dX2_reset_12 1 rfl ?_
        refine v_iconst (pc := 13) (v := (-1)) X dX2_reset_13 (by decide) ?_
        refine v_iast (pc := 14) (ws' := (wT G aT (upd vth (x1).toNatClampNeg (-1)) tr tm tb vtd vtg vtl tn)) X dX2_reset_14 1 rfl hi_x1 rfl ?_
        refine v_aload_n (pc := 15) X dX2_reset_15 0 rfl ?_
        refine v_get (pc := 16) (k := 4) (i := 2) X dX2_reset_16 (fun _ h => List.mem_cons_of_mem _ (List.mem_append_right _ h)) 0 rfl rfl (Nat.le_of_ble_eq_true rfl) rfl rfl rfl ?_
        refine v_iload_n (pc := 19) X dX2_reset_19 1 rfl ?_
        refine v_iconst (pc := 20) (v := 0) X dX2_reset_20 (by decide) ?_
        refine v_zast (pc := 21) (ws' := (wT G aT (upd vth (x1).toNatClampNeg (-1)) tr tm tb (upd vtd (x1).toNatClampNeg 0) vtg vtl tn)) X dX2_reset_21 5 rfl hi_x1 rfl ?_
        refine v_aload_n (pc := 22) X dX2_reset_22 0 rfl ?_
        refine v_get (pc := 23) (k := 5) (i := 3) X dX2_reset_23 (fun _ h => List.mem_cons_of_mem _ (List.mem_append_right _ h)) 0 rfl rfl (Nat.le_of_ble_eq_true rfl) rfl rfl rfl ?_
        refine v_iload_n (pc := 26) X dX2_reset_26 1 rfl ?_
        refine v_iload_n (pc := 27) X dX2_reset_27 1 rfl ?_
        refine v_iast (pc := 28) (ws' := (wT G aT (upd vth (x1).toNatClampNeg (-1)) tr tm tb (upd vtd (x1).toNatClampNeg 0) (upd vtg (x1).toNatClampNeg x1) vtl tn)) X dX2_reset_28 6 rfl hi_x1 rfl ?_
        refine v_aload_n (pc := 29) X dX2_reset_29 0 rfl ?_
        refine v_get (pc := 30) (k := 6) (i := 4) X dX2_reset_30 (fun _ h => List.mem_cons_of_mem _ (List.mem_append_right _ h)) 0 rfl rfl (Nat.le_of_ble_eq_true rfl) rfl rfl rfl ?_
        refine v_iload_n (pc := 33) X dX2_reset_33 1 rfl ?_
        refine v_iconst (pc := 34) (v := 0) X dX2_reset_34 (by decide) ?_
        refine v_zast (pc := 35) (ws' := (wT G aT (upd vth (x1).toNatClampNeg (-1)) tr tm tb (upd vtd (x1).toNatClampNeg 0) (upd vtg (x1).toNatClampNeg x1) (upd vtl (x1).toNatClampNeg 0) tn)) X dX2_reset_35 7 rfl hi_x1 rfl ?_
        refine v_iinc (pc := 36) (k := 1) (v := (x1 + 1)) (lv' := [(0, .ref (aT 0)), (1, .int (x1 + 1))]) X dX2_reset_36 rfl rfl (Nat.le_of_ble_eq_true rfl) [1, 0] rfl ?_
        refine v_goto (pc := 39) X 2 dX2_reset_39 (by decide) ?_
        exact ih (x1 + 1) (upd vth (x1).toNatClampNeg (-1)) (upd vtd (x1).toNatClampNeg 0) (upd vtg (x1).toNatClampNeg x1) (upd vtl (x1).toNatClampNeg 0) ((cnt_in (by decide) (by decide) hI c_5).2) (by simpa only [FX2_reset_2_x1, FX2_reset_2_vth, FX2_reset_2_vtd, FX2_reset_2_vtg, FX2_reset_2_vtl, if_neg c_5] using hK)
  refine LP2 13 0 th td tg tl (⟨by decide, by decide, by decide⟩) ?_
  refine v_aload_n (pc := 42) X dX2_reset_42 0 rfl ?_
  refine v_bipush (pc := 43) (v := 12) X dX2_reset_43 (by decide) ?_
  refine v_put (pc := 45) (k := 7) (i := 5) (ws' := (wT G aT (FX2_reset_2_vth 13 0 th td tg tl) tr tm tb (FX2_reset_2_vtd 13 0 th td tg tl) (FX2_reset_2_vtg 13 0 th td tg tl) (FX2_reset_2_vtl 13 0 th td tg tl) 12)) X dX2_reset_45 (fun _ h => List.mem_cons_of_mem _ (List.mem_append_right _ h)) tyX2_ok nmX2 0 rfl rfl (Nat.le_of_ble_eq_true rfl) rfl rfl (Or.inl rfl) rfl (rfl) rfl (Nat.le_of_ble_eq_true rfl) rfl ?_
  exact v_vret (pc := 48) X hr dX2_reset_48 () (by show (wT G aT (FX2_reset_2_vth 13 0 th td tg tl) tr tm tb (FX2_reset_2_vtd 13 0 th td tg tl) (FX2_reset_2_vtg 13 0 th td tg tl) (FX2_reset_2_vtl 13 0 th td tg tl) 12) = (wT G aT (f_X2_reset_th th td tg tl) tr tm tb (f_X2_reset_td th td tg tl) (f_X2_reset_tg th td tg tl) (f_X2_reset_tl th td tg tl) f_X2_reset_tn); simp only [f_X2_reset_th, f_X2_reset_td, f_X2_reset_tg, f_X2_reset_tl, f_X2_reset_tn]) True.intro
def f_X2_tie_th (th : Nat → Int32) (p0 : Int32) (p1 : Int32) : Nat → Int32 := (upd th (p1).toNatClampNeg p0)
def f_X2_tie_tm (tm : Nat → Int32) (p1 : Int32) (p2 : Int32) : Nat → Int32 := (upd tm (p1).toNatClampNeg p2)
def f_X2_tie_tb (tb : Nat → Int32) (tg : Nat → Int32) (p0 : Int32) (p1 : Int32) : Nat → Int32 := (upd tb (p1).toNatClampNeg (tg (p0).toNatClampNeg))
def f_X2_tie_td (td : Nat → Int32) (p1 : Int32) : Nat → Int32 := (upd td (p1).toNatClampNeg 0)
set_option maxHeartbeats 4000000 in
set_option maxRecDepth 100000 in
theorem c_X2_tie (l : Launch) (G : va_G) (aT : Nat → Nat) (th : Nat → Int32) (tr : Nat → Int32) (tm : Nat → Int32) (tb : Nat → Int32) (td : Nat → Int32) (tg : Nat → Int32) (tl : Nat → Int32) (tn : Int32) (p0 : Int32) (p1 : Int32) (p2 : Int32) (h0 : vp_in p0 12) (h1 : vp_in p1 12) : Ku l yX2_tie wsX2_tie { frames := 0, cells := 0, slots := 0, locals := 0 } 0 0 G (wT G aT th tr tm tb td tg tl tn) [.ref (aT 0), .int p0, .int p1, .int p2] (wT G aT (f_X2_tie_th th p0 p1) tr (f_X2_tie_tm tm p1 p2) (f_X2_tie_tb tb tg p0 p1) (f_X2_tie_td td p1) tg tl tn) := by
  refine v_ofv (cc := cX2_tie) (nL := 4) (lv := [(0, .ref (aT 0)), (1, .int p0), (2, .int p1), (3, .int p2)]) (by decide) rfl (Nat.le_of_ble_eq_true rfl) rfl ?_
  intro p e s m args below meth c A X hr hin
  refine v_aload_n (pc := 0) X dX2_tie_0 0 rfl ?_
  refine v_get (pc := 1) (k := 0) (i := 1) X dX2_tie_1 (fun _ h => List.mem_cons_of_mem _ (List.mem_append_right _ h)) 0 rfl rfl (Nat.le_of_ble_eq_true rfl) rfl rfl rfl ?_
  refine v_iload_n (pc := 4) X dX2_tie_4 2 rfl ?_
  refine v_iload_n (pc := 5) X dX2_tie_5 1 rfl ?_
  refine v_iast (pc := 6) (ws' := (wT G aT (upd th (p1).toNatClampNeg p0) tr tm tb td tg tl tn)) X dX2_tie_6 1 rfl h1 rfl ?_
  refine v_aload_n (pc := 7) X dX2_tie_7 0 rfl ?_
  refine v_get (pc := 8) (k := 2) (i := 2) X dX2_tie_8 (fun _ h => List.mem_cons_of_mem _ (List.mem_append_right _ h)) 0 rfl rfl (Nat.le_of_ble_eq_true rfl) rfl rfl rfl ?_
  refine v_iload_n (pc := 11) X dX2_tie_11 2 rfl ?_
  refine v_iload_n (pc := 12) X dX2_tie_12 3 rfl ?_
  refine v_iast (pc := 13) (ws' := (wT G aT (upd th (p1).toNatClampNeg p0) tr (upd tm (p1).toNatClampNeg p2) tb td tg tl tn)) X dX2_tie_13 3 rfl h1 rfl ?_
  refine v_aload_n (pc := 14) X dX2_tie_14 0 rfl ?_
  refine v_get (pc := 15) (k := 3) (i := 3) X dX2_tie_15 (fun _ h => List.mem_cons_of_mem _ (List.mem_append_right _ h)) 0 rfl rfl (Nat.le_of_ble_eq_true rfl) rfl rfl rfl ?_
  refine v_iload_n (pc := 18) X dX2_tie_18 2 rfl ?_
  refine v_aload_n (pc := 19) X dX2_tie_19 0 rfl ?_
  refine v_get (pc := 20) (k := 5) (i := 4) X dX2_tie_20 (fun _ h => List.mem_cons_of_mem _ (List.mem_append_right _ h)) 0 rfl rfl (Nat.le_of_ble_eq_true rfl) rfl rfl rfl ?_
  refine v_iload_n (pc := 23) X dX2_tie_23 1 rfl ?_
  refine v_iald (pc := 24) X dX2_tie_24 6 rfl h0 rfl ?_
  refine v_iast (pc := 25) (ws' := (wT G aT (upd th (p1).toNatClampNeg p0) tr (upd tm (p1).toNatClampNeg p2) (upd tb (p1).toNatClampNeg (tg (p0).toNatClampNeg)) td tg tl tn)) X dX2_tie_25 4 rfl h1 rfl ?_
  refine v_aload_n (pc := 26) X dX2_tie_26 0 rfl ?_
  refine v_get (pc := 27) (k := 4) (i := 5) X dX2_tie_27 (fun _ h => List.mem_cons_of_mem _ (List.mem_append_right _ h)) 0 rfl rfl (Nat.le_of_ble_eq_true rfl) rfl rfl rfl ?_
  refine v_iload_n (pc := 30) X dX2_tie_30 2 rfl ?_
  refine v_iconst (pc := 31) (v := 0) X dX2_tie_31 (by decide) ?_
  refine v_zast (pc := 32) (ws' := (wT G aT (upd th (p1).toNatClampNeg p0) tr (upd tm (p1).toNatClampNeg p2) (upd tb (p1).toNatClampNeg (tg (p0).toNatClampNeg)) (upd td (p1).toNatClampNeg 0) tg tl tn)) X dX2_tie_32 5 rfl h1 rfl ?_
  exact v_vret (pc := 33) X hr dX2_tie_33 () (by show (wT G aT (upd th (p1).toNatClampNeg p0) tr (upd tm (p1).toNatClampNeg p2) (upd tb (p1).toNatClampNeg (tg (p0).toNatClampNeg)) (upd td (p1).toNatClampNeg 0) tg tl tn) = (wT G aT (f_X2_tie_th th p0 p1) tr (f_X2_tie_tm tm p1 p2) (f_X2_tie_tb tb tg p0 p1) (f_X2_tie_td td p1) tg tl tn); simp only [f_X2_tie_th, f_X2_tie_tm, f_X2_tie_tb, f_X2_tie_td]) True.intro
def f_X2_setRooms_tr (tr : Nat → Int32) (p0 : Int32) (p1 : Int32) : Nat → Int32 := (upd tr (p0).toNatClampNeg p1)
set_option maxHeartbeats 4000000 in
set_option maxRecDepth 100000 in
theorem c_X2_setRooms (l : Launch) (G : va_G) (aT : Nat → Nat) (th : Nat → Int32) (tr : Nat → Int32) (tm : Nat → Int32) (tb : Nat → Int32) (td : Nat → Int32) (tg : Nat → Int32) (tl : Nat → Int32) (tn : Int32) (p0 : Int32) (p1 : Int32) (h0 : vp_in p0 12) : Ku l yX2_setRooms wsX2_setRooms { frames := 0, cells := 0, slots := 0, locals := 0 } 0 0 G (wT G aT th tr tm tb td tg tl tn) [.ref (aT 0), .int p0, .int p1] (wT G aT th (f_X2_setRooms_tr tr p0 p1) tm tb td tg tl tn) := by
  refine v_ofv (cc := cX2_setRooms) (nL := 3) (lv := [(0, .ref (aT 0)), (1, .int p0), (2, .int p1)]) (by decide) rfl (Nat.le_of_ble_eq_true rfl) rfl ?_
  intro p e s m args below meth c A X hr hin
  refine v_aload_n (pc := 0) X dX2_setRooms_0 0 rfl ?_
  refine v_get (pc := 1) (k := 1) (i := 1) X dX2_setRooms_1 (fun _ h => List.mem_cons_of_mem _ (List.mem_append_right _ h)) 0 rfl rfl (Nat.le_of_ble_eq_true rfl) rfl rfl rfl ?_
  refine v_iload_n (pc := 4) X dX2_setRooms_4 1 rfl ?_
  refine v_iload_n (pc := 5) X dX2_setRooms_5 2 rfl ?_
  refine v_iast (pc := 6) (ws' := (wT G aT th (upd tr (p0).toNatClampNeg p1) tm tb td tg tl tn)) X dX2_setRooms_6 2 rfl h0 rfl ?_
  exact v_vret (pc := 7) X hr dX2_setRooms_7 () (by show (wT G aT th (upd tr (p0).toNatClampNeg p1) tm tb td tg tl tn) = (wT G aT th (f_X2_setRooms_tr tr p0 p1) tm tb td tg tl tn); simp only [f_X2_setRooms_tr]) True.intro
def f_X2_untie_th (th : Nat → Int32) (p0 : Int32) : Nat → Int32 := (upd th (p0).toNatClampNeg (-1))
def f_X2_untie_td (td : Nat → Int32) (p0 : Int32) : Nat → Int32 := (upd td (p0).toNatClampNeg 0)
set_option maxHeartbeats 4000000 in
set_option maxRecDepth 100000 in
theorem c_X2_untie (l : Launch) (G : va_G) (aT : Nat → Nat) (th : Nat → Int32) (tr : Nat → Int32) (tm : Nat → Int32) (tb : Nat → Int32) (td : Nat → Int32) (tg : Nat → Int32) (tl : Nat → Int32) (tn : Int32) (p0 : Int32) (h0 : vp_in p0 12) : Ku l yX2_untie wsX2_untie { frames := 0, cells := 0, slots := 0, locals := 0 } 0 0 G (wT G aT th tr tm tb td tg tl tn) [.ref (aT 0), .int p0] (wT G aT (f_X2_untie_th th p0) tr tm tb (f_X2_untie_td td p0) tg tl tn) := by
  refine v_ofv (cc := cX2_untie) (nL := 2) (lv := [(0, .ref (aT 0)), (1, .int p0)]) (by decide) rfl (Nat.le_of_ble_eq_true rfl) rfl ?_
  intro p e s m args below meth c A X hr hin
  refine v_aload_n (pc := 0) X dX2_untie_0 0 rfl ?_
  refine v_get (pc := 1) (k := 0) (i := 1) X dX2_untie_1 (fun _ h => List.mem_cons_of_mem _ (List.mem_append_right _ h)) 0 rfl rfl (Nat.le_of_ble_eq_true rfl) rfl rfl rfl ?_
  refine v_iload_n (pc := 4) X dX2_untie_4 1 rfl ?_
  refine v_iconst (pc := 5) (v := (-1)) X dX2_untie_5 (by decide) ?_
  refine v_iast (pc := 6) (ws' := (wT G aT (upd th (p0).toNatClampNeg (-1)) tr tm tb td tg tl tn)) X dX2_untie_6 1 rfl h0 rfl ?_
  refine v_aload_n (pc := 7) X dX2_untie_7 0 rfl ?_
  refine v_get (pc := 8) (k := 4) (i := 2) X dX2_untie_8 (fun _ h => List.mem_cons_of_mem _ (List.mem_append_right _ h)) 0 rfl rfl (Nat.le_of_ble_eq_true rfl) rfl rfl rfl ?_
  refine v_iload_n (pc := 11) X dX2_untie_11 1 rfl ?_
  refine v_iconst (pc := 12) (v := 0) X dX2_untie_12 (by decide) ?_
  refine v_zast (pc := 13) (ws' := (wT G aT (upd th (p0).toNatClampNeg (-1)) tr tm tb (upd td (p0).toNatClampNeg 0) tg tl tn)) X dX2_untie_13 5 rfl h0 rfl ?_
  exact v_vret (pc := 14) X hr dX2_untie_14 () (by show (wT G aT (upd th (p0).toNatClampNeg (-1)) tr tm tb (upd td (p0).toNatClampNeg 0) tg tl tn) = (wT G aT (f_X2_untie_th th p0) tr tm tb (f_X2_untie_td td p0) tg tl tn); simp only [f_X2_untie_th, f_X2_untie_td]) True.intro
def FX2_markLost_9_x3 : Nat → Int32 → (Nat → Int32) → (Nat → Int32) → (Nat → Int32) → (Nat → Int32) → (Nat → Int32) → Int32 → Int32 → Int32
  | 0, _, _, _, _, _, _, _, _ => 0
  | n + 1, x3, vtd, th, tm, tb, tg, p0, p1 => (if 12 ≤ x3 then x3 else (if (th (x3).toNatClampNeg) = p0 then (if (tb (x3).toNatClampNeg) = (tg (p0).toNatClampNeg) then (if (tm (x3).toNatClampNeg) < p1 then (FX2_markLost_9_x3 n (x3 + 1) vtd th tm tb tg p0 p1) else (FX2_markLost_9_x3 n (x3 + 1) (upd vtd (x3).toNatClampNeg 1) th tm tb tg p0 p1)) else (FX2_markLost_9_x3 n (x3 + 1) vtd th tm tb tg p0 p1)) else (FX2_markLost_9_x3 n (x3 + 1) vtd th tm tb tg p0 p1)))
def FX2_markLost_9_vtd : Nat → Int32 → (Nat → Int32) → (Nat → Int32) → (Nat → Int32) → (Nat → Int32) → (Nat → Int32) → Int32 → Int32 → Nat → Int32
  | 0, _, _, _, _, _, _, _, _ => fun _ => 0
  | n + 1, x3, vtd, th, tm, tb, tg, p0, p1 => (if 12 ≤ x3 then vtd else (if (th (x3).toNatClampNeg) = p0 then (if (tb (x3).toNatClampNeg) = (tg (p0).toNatClampNeg) then (if (tm (x3).toNatClampNeg) < p1 then (FX2_markLost_9_vtd n (x3 + 1) vtd th tm tb tg p0 p1) else (FX2_markLost_9_vtd n (x3 + 1) (upd vtd (x3).toNatClampNeg 1) th tm tb tg p0 p1)) else (FX2_markLost_9_vtd n (x3 + 1) vtd th tm tb tg p0 p1)) else (FX2_markLost_9_vtd n (x3 + 1) vtd th tm tb tg p0 p1)))
def f_X2_markLost_td (th : Nat → Int32) (tm : Nat → Int32) (tb : Nat → Int32) (td : Nat → Int32) (tg : Nat → Int32) (p0 : Int32) (p1 : Int32) : Nat → Int32 := (FX2_markLost_9_vtd 9 4 td th tm tb tg p0 p1)
def f_X2_markLost_tl (tl : Nat → Int32) (p0 : Int32) : Nat → Int32 := (upd tl (p0).toNatClampNeg 1)
set_option maxHeartbeats 4000000 in
set_option maxRecDepth 100000 in
theorem c_X2_markLost (l : Launch) (G : va_G) (aT : Nat → Nat) (th : Nat → Int32) (tr : Nat → Int32) (tm : Nat → Int32) (tb : Nat → Int32) (td : Nat → Int32) (tg : Nat → Int32) (tl : Nat → Int32) (tn : Int32) (p0 : Int32) (p1 : Int32) (h0 : vp_in p0 12) : Ku l yX2_markLost wsX2_markLost { frames := 0, cells := 0, slots := 0, locals := 0 } 0 0 G (wT G aT th tr tm tb td tg tl tn) [.ref (aT 0), .int p0, .int p1] (wT G aT th tr tm tb (f_X2_markLost_td th tm tb td tg p0 p1) tg (f_X2_markLost_tl tl p0) tn) := by
  refine v_ofv (cc := cX2_markLost) (nL := 4) (lv := [(0, .ref (aT 0)), (1, .int p0), (2, .int p1)]) (by decide) rfl (Nat.le_of_ble_eq_true rfl) rfl ?_
  intro p e s m args below meth c A X hr hin
  refine v_aload_n (pc := 0) X dX2_markLost_0 0 rfl ?_
  refine v_get (pc := 1) (k := 6) (i := 1) X dX2_markLost_1 (fun _ h => List.mem_cons_of_mem _ (List.mem_append_right _ h)) 0 rfl rfl (Nat.le_of_ble_eq_true rfl) rfl rfl rfl ?_
  refine v_iload_n (pc := 4) X dX2_markLost_4 1 rfl ?_
  refine v_iconst (pc := 5) (v := 1) X dX2_markLost_5 (by decide) ?_
  refine v_zast (pc := 6) (ws' := (wT G aT th tr tm tb td tg (upd tl (p0).toNatClampNeg 1) tn)) X dX2_markLost_6 7 rfl h0 rfl ?_
  refine v_iconst (pc := 7) (v := 4) X dX2_markLost_7 (by decide) ?_
  refine v_istore_n (pc := 8) (lv' := [(0, .ref (aT 0)), (1, .int p0), (2, .int p1), (3, .int 4)]) X dX2_markLost_8 rfl (Nat.le_of_ble_eq_true rfl) [1, 2, 3, 0] rfl ?_
  have LP9 : ∀ (n : Nat) (x3 : Int32) (vtd : Nat → Int32), (x3 = nI (12 + 1 - n) ∧ 1 ≤ n ∧ n ≤ 12 + 1) → V p l e (headSpec wsX2_markLost { frames := 0, cells := 0, slots := 0, locals := 0 }).room s m args below meth c 4 G A 0 0 (QV below args s G A 0 0 (S := Unit) (fun _ => True) (fun _ => (wT G aT th tr tm tb (f_X2_markLost_td th tm tb td tg p0 p1) tg (f_X2_markLost_tl tl p0) tn))) (wT G aT th tr tm tb (FX2_markLost_9_vtd n x3 vtd th tm tb tg p0 p1) tg (upd tl (p0).toNatClampNeg 1) tn) [(0, .ref (aT 0)), (1, .int p0), (2, .int p1), (3, .int (FX2_markLost_9_x3 n x3 vtd th tm tb tg p0 p1))] 63 [] → V p l e (headSpec wsX2_markLost { frames := 0, cells := 0, slots := 0, locals := 0 }).room s m args below meth c 4 G A 0 0 (QV below args s G A 0 0 (S := Unit) (fun _ => True) (fun _ => (wT G aT th tr tm tb (f_X2_markLost_td th tm tb td tg p0 p1) tg (f_X2_markLost_tl tl p0) tn))) (wT G aT th tr tm tb vtd tg (upd tl (p0).toNatClampNeg 1) tn) [(0, .ref (aT 0)), (1, .int p0), (2, .int p1), (3, .int x3)] 9 [] := by
    intro n
    induction n with
    | zero => intro x3 vtd hI hK; exact False.elim (by omega)
    | succ n ih =>
      intro x3 vtd hI hK
      refine v_iload_n (pc := 9) X dX2_markLost_9 3 rfl ?_
      refine v_bipush (pc := 10) (v := 12) X dX2_markLost_10 (by decide) ?_
      refine v_icmp_ge (pc := 12) X 63 dX2_markLost_12 (by decide) (fun c_12 => ?_) (fun c_12 => ?_)
      · simpa only [FX2_markLost_9_x3, FX2_markLost_9_vtd, if_pos c_12] using hK
      · have hi_x3 : vp_in x3 12 := (cnt_in (by decide) (by decide) hI c_12).1
        refine v_aload_n (pc := 15) X dX2_markLost_15 0 rfl ?_
        refine v_get (pc := 16) (k := 0) (i := 2) X dX2_markLost_16 (fun _ h => List.mem_cons_of_mem _ (List.mem_append_right _ h)) 0 rfl rfl (Nat.le_of_ble_eq_true rfl) rfl rfl rfl ?_
        refine v_iload_n (pc := 19) X dX2_markLost_19 3 rfl ?_
        refine v_iald (pc := 20) X dX2_markLost_20 1 rfl hi_x3 rfl ?_
        refine v_iload_n (pc := 21) X dX2_markLost_21 1 rfl ?_
        refine v_icmp_ne (pc := 22) X 57 dX2_markLost_22 (by decide) (fun c_22 => ?_) (fun c_22 => ?_)
        · refine v_iinc (pc := 57) (k := 3) (v := (x3 + 1)) (lv' := [(0, .ref (aT 0)), (1, .int p0), (2, .int p1), (3, .int (x3 + 1))]) X dX2_markLost_57 rfl rfl (Nat.le_of_ble_eq_true rfl) [1, 2, 3, 0] rfl ?_
          refine v_goto (pc := 60) X 9 dX2_markLost_60 (by decide) ?_
          exact ih (x3 + 1) vtd ((cnt_in (by decide) (by decide) hI c_12).2) (by simpa only [FX2_markLost_9_x3, FX2_markLost_9_vtd, if_neg c_12, if_neg c_22] using hK)
        · refine v_aload_n (pc := 25) X dX2_markLost_25 0 rfl ?_
          refine v_get (pc := 26) (k := 3) (i := 3) X dX2_markLost_26 (fun _ h => List.mem_cons_of_mem _ (List.mem_append_right _ h)) 0 rfl rfl (Nat.le_of_ble_eq_true rfl) rfl rfl rfl ?_
          refine v_iload_n (pc := 29) X dX2_markLost_29 3 rfl ?_
          refine v_iald (pc := 30) X dX2_markLost_30 4 rfl hi_x3 rfl ?_
          refine v_aload_n (pc := 31) X dX2_markLost_31 0 rfl ?_
          refine v_get (pc := 32) (k := 5) (i := 4) X dX2_markLost_32 (fun _ h => List.mem_cons_of_mem _ (List.mem_append_right _ h)) 0 rfl rfl (Nat.le_of_ble_eq_true rfl) rfl rfl rfl ?_
          refine v_iload_n (pc := 35) X dX2_markLost_35 1 rfl ?_
          refine v_iald (pc := 36) X dX2_markLost_36 6 rfl h0 rfl ?_
          refine v_icmp_ne (pc := 37) X 57 dX2_markLost_37 (by decide) (fun c_37 => ?_) (fun c_37 => ?_)
          · refine v_iinc (pc := 57) (k := 3) (v := (x3 + 1)) (lv' := [(0, .ref (aT 0)), (1, .int p0), (2, .int p1), (3, .int (x3 + 1))]) X dX2_markLost_57 rfl rfl (Nat.le_of_ble_eq_true rfl) [1, 2, 3, 0] rfl ?_
            refine v_goto (pc := 60) X 9 dX2_markLost_60 (by decide) ?_
            exact ih (x3 + 1) vtd ((cnt_in (by decide) (by decide) hI c_12).2) (by simpa only [FX2_markLost_9_x3, FX2_markLost_9_vtd, if_neg c_12, if_pos c_22, if_neg c_37] using hK)
          · refine v_aload_n (pc := 40) X dX2_markLost_40 0 rfl ?_
            refine v_get (pc := 41) (k := 2) (i := 5) X dX2_markLost_41 (fun _ h => List.mem_cons_of_mem _ (List.mem_append_right _ h)) 0 rfl rfl (Nat.le_of_ble_eq_true rfl) rfl rfl rfl ?_
            refine v_iload_n (pc := 44) X dX2_markLost_44 3 rfl ?_
            refine v_iald (pc := 45) X dX2_markLost_45 3 rfl hi_x3 rfl ?_
            refine v_iload_n (pc := 46) X dX2_markLost_46 2 rfl ?_
            refine v_icmp_lt (pc := 47) X 57 dX2_markLost_47 (by decide) (fun c_47 => ?_) (fun c_47 => ?_)
            · refine v_iinc (pc := 57) (k := 3) (v := (x3 + 1)) (lv' := [(0, .ref (aT 0)), (1, .int p0), (2, .int p1), (3, .int (x3 + 1))]) X dX2_markLost_57 rfl rfl (Nat.le_of_ble_eq_true rfl) [1, 2, 3, 0] rfl ?_
              refine v_goto (pc := 60) X 9 dX2_markLost_60 (by decide) ?_
              exact ih (x3 + 1) vtd ((cnt_in (by decide) (by decide) hI c_12).2) (by simpa only [FX2_markLost_9_x3, FX2_markLost_9_vtd, if_neg c_12, if_pos c_22, if_pos c_37, if_pos c_47] using hK)
            · refine v_aload_n (pc := 50) X dX2_markLost_50 0 rfl ?_
              refine v_get (pc := 51) (k := 4) (i := 6) X dX2_markLost_51 (fun _ h => List.mem_cons_of_mem _ (List.mem_append_right _ h)) 0 rfl rfl (Nat.le_of_ble_eq_true rfl) rfl rfl rfl ?_
              refine v_iload_n (pc := 54) X dX2_markLost_54 3 rfl ?_
              refine v_iconst (pc := 55) (v := 1) X dX2_markLost_55 (by decide) ?_
              refine v_zast (pc := 56) (ws' := (wT G aT th tr tm tb (upd vtd (x3).toNatClampNeg 1) tg (upd tl (p0).toNatClampNeg 1) tn)) X dX2_markLost_56 5 rfl hi_x3 rfl ?_
              refine v_iinc (pc := 57) (k := 3) (v := (x3 + 1)) (lv' := [(0, .ref (aT 0)), (1, .int p0), (2, .int p1), (3, .int (x3 + 1))]) X dX2_markLost_57 rfl rfl (Nat.le_of_ble_eq_true rfl) [1, 2, 3, 0] rfl ?_
              refine v_goto (pc := 60) X 9 dX2_markLost_60 (by decide) ?_
              exact ih (x3 + 1) (upd vtd (x3).toNatClampNeg 1) ((cnt_in (by decide) (by decide) hI c_12).2) (by simpa only [FX2_markLost_9_x3, FX2_markLost_9_vtd, if_neg c_12, if_pos c_22, if_pos c_37, if_neg c_47] using hK)
  refine LP9 9 4 td (⟨by decide, by decide, by decide⟩) ?_
  exact v_vret (pc := 63) X hr dX2_markLost_63 () (by show (wT G aT th tr tm tb (FX2_markLost_9_vtd 9 4 td th tm tb tg p0 p1) tg (upd tl (p0).toNatClampNeg 1) tn) = (wT G aT th tr tm tb (f_X2_markLost_td th tm tb td tg p0 p1) tg (f_X2_markLost_tl tl p0) tn); simp only [f_X2_markLost_td, f_X2_markLost_tl]) True.intro
def f_X2_renewBadge_tg (tg : Nat → Int32) (tn : Int32) (p0 : Int32) : Nat → Int32 := (upd tg (p0).toNatClampNeg tn)
def f_X2_renewBadge_tl (tl : Nat → Int32) (p0 : Int32) : Nat → Int32 := (upd tl (p0).toNatClampNeg 0)
def f_X2_renewBadge_tn (tn : Int32) : Int32 := (tn + 1)
set_option maxHeartbeats 4000000 in
set_option maxRecDepth 100000 in
theorem c_X2_renewBadge (l : Launch) (G : va_G) (aT : Nat → Nat) (th : Nat → Int32) (tr : Nat → Int32) (tm : Nat → Int32) (tb : Nat → Int32) (td : Nat → Int32) (tg : Nat → Int32) (tl : Nat → Int32) (tn : Int32) (p0 : Int32) (h0 : vp_in p0 12) : Ku l yX2_renewBadge wsX2_renewBadge { frames := 0, cells := 0, slots := 0, locals := 0 } 0 0 G (wT G aT th tr tm tb td tg tl tn) [.ref (aT 0), .int p0] (wT G aT th tr tm tb td (f_X2_renewBadge_tg tg tn p0) (f_X2_renewBadge_tl tl p0) (f_X2_renewBadge_tn tn)) := by
  refine v_ofv (cc := cX2_renewBadge) (nL := 2) (lv := [(0, .ref (aT 0)), (1, .int p0)]) (by decide) rfl (Nat.le_of_ble_eq_true rfl) rfl ?_
  intro p e s m args below meth c A X hr hin
  refine v_aload_n (pc := 0) X dX2_renewBadge_0 0 rfl ?_
  refine v_get (pc := 1) (k := 5) (i := 1) X dX2_renewBadge_1 (fun _ h => List.mem_cons_of_mem _ (List.mem_append_right _ h)) 0 rfl rfl (Nat.le_of_ble_eq_true rfl) rfl rfl rfl ?_
  refine v_iload_n (pc := 4) X dX2_renewBadge_4 1 rfl ?_
  refine v_aload_n (pc := 5) X dX2_renewBadge_5 0 rfl ?_
  refine v_get (pc := 6) (k := 7) (i := 2) X dX2_renewBadge_6 (fun _ h => List.mem_cons_of_mem _ (List.mem_append_right _ h)) 0 rfl rfl (Nat.le_of_ble_eq_true rfl) rfl rfl rfl ?_
  refine v_iast (pc := 9) (ws' := (wT G aT th tr tm tb td (upd tg (p0).toNatClampNeg tn) tl tn)) X dX2_renewBadge_9 6 rfl h0 rfl ?_
  refine v_aload_n (pc := 10) X dX2_renewBadge_10 0 rfl ?_
  refine v_dup (pc := 11) X dX2_renewBadge_11 rfl ?_
  refine v_get (pc := 12) (k := 7) (i := 2) X dX2_renewBadge_12 (fun _ h => List.mem_cons_of_mem _ (List.mem_append_right _ h)) 0 rfl rfl (Nat.le_of_ble_eq_true rfl) rfl rfl rfl ?_
  refine v_iconst (pc := 15) (v := 1) X dX2_renewBadge_15 (by decide) ?_
  refine v_iadd (pc := 16) X dX2_renewBadge_16 rfl ?_
  refine v_put (pc := 17) (k := 7) (i := 2) (ws' := (wT G aT th tr tm tb td (upd tg (p0).toNatClampNeg tn) tl (tn + 1))) X dX2_renewBadge_17 (fun _ h => List.mem_cons_of_mem _ (List.mem_append_right _ h)) tyX2_ok nmX2 0 rfl rfl (Nat.le_of_ble_eq_true rfl) rfl rfl (Or.inl rfl) rfl (rfl) rfl (Nat.le_of_ble_eq_true rfl) rfl ?_
  refine v_aload_n (pc := 20) X dX2_renewBadge_20 0 rfl ?_
  refine v_get (pc := 21) (k := 6) (i := 3) X dX2_renewBadge_21 (fun _ h => List.mem_cons_of_mem _ (List.mem_append_right _ h)) 0 rfl rfl (Nat.le_of_ble_eq_true rfl) rfl rfl rfl ?_
  refine v_iload_n (pc := 24) X dX2_renewBadge_24 1 rfl ?_
  refine v_iconst (pc := 25) (v := 0) X dX2_renewBadge_25 (by decide) ?_
  refine v_zast (pc := 26) (ws' := (wT G aT th tr tm tb td (upd tg (p0).toNatClampNeg tn) (upd tl (p0).toNatClampNeg 0) (tn + 1))) X dX2_renewBadge_26 7 rfl h0 rfl ?_
  exact v_vret (pc := 27) X hr dX2_renewBadge_27 () (by show (wT G aT th tr tm tb td (upd tg (p0).toNatClampNeg tn) (upd tl (p0).toNatClampNeg 0) (tn + 1)) = (wT G aT th tr tm tb td (f_X2_renewBadge_tg tg tn p0) (f_X2_renewBadge_tl tl p0) (f_X2_renewBadge_tn tn)); simp only [f_X2_renewBadge_tg, f_X2_renewBadge_tl, f_X2_renewBadge_tn]) True.intro
def f_X2_hostOf_r (th : Nat → Int32) (p0 : Int32) : Int32 := (th (p0).toNatClampNeg)
set_option maxHeartbeats 4000000 in
set_option maxRecDepth 100000 in
theorem c_X2_hostOf (l : Launch) (G : va_G) (aT : Nat → Nat) (th : Nat → Int32) (tr : Nat → Int32) (tm : Nat → Int32) (tb : Nat → Int32) (td : Nat → Int32) (tg : Nat → Int32) (tl : Nat → Int32) (tn : Int32) (p0 : Int32) (h0 : vp_in p0 12) : Ke l yX2_hostOf wsX2_hostOf { frames := 0, cells := 0, slots := 0, locals := 0 } 0 0 G (wT G aT th tr tm tb td tg tl tn) [.ref (aT 0), .int p0] (f_X2_hostOf_r th p0) (wT G aT th tr tm tb td tg tl tn) := by
  refine v_ofi (cc := cX2_hostOf) (nL := 2) (lv := [(0, .ref (aT 0)), (1, .int p0)]) (by decide) rfl (Nat.le_of_ble_eq_true rfl) rfl ?_
  intro p e s m args below meth c A X hr
  refine v_aload_n (pc := 0) X dX2_hostOf_0 0 rfl ?_
  refine v_get (pc := 1) (k := 0) (i := 1) X dX2_hostOf_1 (fun _ h => List.mem_cons_of_mem _ (List.mem_append_right _ h)) 0 rfl rfl (Nat.le_of_ble_eq_true rfl) rfl rfl rfl ?_
  refine v_iload_n (pc := 4) X dX2_hostOf_4 1 rfl ?_
  refine v_iald (pc := 5) X dX2_hostOf_5 1 rfl h0 rfl ?_
  exact v_iret (pc := 6) X hr dX2_hostOf_6 () rfl (by show (th (p0).toNatClampNeg) = (f_X2_hostOf_r th p0); simp only [f_X2_hostOf_r])
def f_X2_badgeOf_r (tg : Nat → Int32) (p0 : Int32) : Int32 := (tg (p0).toNatClampNeg)
set_option maxHeartbeats 4000000 in
set_option maxRecDepth 100000 in
theorem c_X2_badgeOf (l : Launch) (G : va_G) (aT : Nat → Nat) (th : Nat → Int32) (tr : Nat → Int32) (tm : Nat → Int32) (tb : Nat → Int32) (td : Nat → Int32) (tg : Nat → Int32) (tl : Nat → Int32) (tn : Int32) (p0 : Int32) (h0 : vp_in p0 12) : Ke l yX2_badgeOf wsX2_badgeOf { frames := 0, cells := 0, slots := 0, locals := 0 } 0 0 G (wT G aT th tr tm tb td tg tl tn) [.ref (aT 0), .int p0] (f_X2_badgeOf_r tg p0) (wT G aT th tr tm tb td tg tl tn) := by
  refine v_ofi (cc := cX2_badgeOf) (nL := 2) (lv := [(0, .ref (aT 0)), (1, .int p0)]) (by decide) rfl (Nat.le_of_ble_eq_true rfl) rfl ?_
  intro p e s m args below meth c A X hr
  refine v_aload_n (pc := 0) X dX2_badgeOf_0 0 rfl ?_
  refine v_get (pc := 1) (k := 5) (i := 1) X dX2_badgeOf_1 (fun _ h => List.mem_cons_of_mem _ (List.mem_append_right _ h)) 0 rfl rfl (Nat.le_of_ble_eq_true rfl) rfl rfl rfl ?_
  refine v_iload_n (pc := 4) X dX2_badgeOf_4 1 rfl ?_
  refine v_iald (pc := 5) X dX2_badgeOf_5 6 rfl h0 rfl ?_
  exact v_iret (pc := 6) X hr dX2_badgeOf_6 () rfl (by show (tg (p0).toNatClampNeg) = (f_X2_badgeOf_r tg p0); simp only [f_X2_badgeOf_r])
def FX2_stepsToStaff_4_r : Nat → Int32 → Int32 → (Nat → Int32) → Int32
  | 0, _, _, _ => 0
  | n + 1, x2, x3, th => (if 12 ≤ x3 then (-1) else (if (f_X3_isPerson_r x2) = 0 then (-1) else (if (f_X3_isGuest_r x2) = 0 then x3 else (FX2_stepsToStaff_4_r n (th (x2).toNatClampNeg) (x3 + 1) th))))
def f_X2_stepsToStaff_r (th : Nat → Int32) (p0 : Int32) : Int32 := (FX2_stepsToStaff_4_r 13 p0 0 th)
set_option maxHeartbeats 4000000 in
set_option maxRecDepth 100000 in
theorem c_X2_stepsToStaff (l : Launch) (G : va_G) (aT : Nat → Nat) (th : Nat → Int32) (tr : Nat → Int32) (tm : Nat → Int32) (tb : Nat → Int32) (td : Nat → Int32) (tg : Nat → Int32) (tl : Nat → Int32) (tn : Int32) (p0 : Int32) (h0 : vp_in p0 12) (hth : ∀ j : Nat, j < 12 → inN (th j)) : Ke l yX2_stepsToStaff wsX2_stepsToStaff { frames := 1, cells := 0, slots := 0, locals := 20 } 0 0 G (wT G aT th tr tm tb td tg tl tn) [.ref (aT 0), .int p0] (f_X2_stepsToStaff_r th p0) (wT G aT th tr tm tb td tg tl tn) := by
  refine v_ofi (cc := cX2_stepsToStaff) (nL := 4) (lv := [(0, .ref (aT 0)), (1, .int p0)]) (by decide) rfl (Nat.le_of_ble_eq_true rfl) rfl ?_
  intro p e s m args below meth c A X hr
  refine v_iload_n (pc := 0) X dX2_stepsToStaff_0 1 rfl ?_
  refine v_istore_n (pc := 1) (lv' := [(0, .ref (aT 0)), (1, .int p0), (2, .int p0)]) X dX2_stepsToStaff_1 rfl (Nat.le_of_ble_eq_true rfl) [1, 2, 0] rfl ?_
  refine v_iconst (pc := 2) (v := 0) X dX2_stepsToStaff_2 (by decide) ?_
  refine v_istore_n (pc := 3) (lv' := [(0, .ref (aT 0)), (1, .int p0), (2, .int p0), (3, .int 0)]) X dX2_stepsToStaff_3 rfl (Nat.le_of_ble_eq_true rfl) [1, 2, 3, 0] rfl ?_
  have LP4 : ∀ (n : Nat) (x2 : Int32) (x3 : Int32), (x3 = nI (12 + 1 - n) ∧ 1 ≤ n ∧ n ≤ 12 + 1) → (FX2_stepsToStaff_4_r n x2 x3 th) = (f_X2_stepsToStaff_r th p0) → V p l e (headSpec wsX2_stepsToStaff { frames := 1, cells := 0, slots := 0, locals := 20 }).room s m args below meth c 4 G A 0 0 (QI below args s G A 0 0 (S := Unit) (fun x _ => x = (f_X2_stepsToStaff_r th p0)) (fun _ => (wT G aT th tr tm tb td tg tl tn))) (wT G aT th tr tm tb td tg tl tn) [(0, .ref (aT 0)), (1, .int p0), (2, .int x2), (3, .int x3)] 4 [] := by
    intro n
    induction n with
    | zero => intro x2 x3 hI hF_r; exact False.elim (by omega)
    | succ n ih =>
      intro x2 x3 hI hF_r
      refine v_iload_n (pc := 4) X dX2_stepsToStaff_4 3 rfl ?_
      refine v_bipush (pc := 5) (v := 12) X dX2_stepsToStaff_5 (by decide) ?_
      refine v_icmp_ge (pc := 7) X 39 dX2_stepsToStaff_7 (by decide) (fun c_7 => ?_) (fun c_7 => ?_)
      · refine v_iconst (pc := 39) (v := (-1)) X dX2_stepsToStaff_39 (by decide) ?_
        exact v_iret (pc := 40) X hr dX2_stepsToStaff_40 () rfl (by show (-1) = (f_X2_stepsToStaff_r th p0); rw [← hF_r]; simp only [FX2_stepsToStaff_4_r, if_pos c_7])
      · refine v_iload_n (pc := 10) X dX2_stepsToStaff_10 2 rfl ?_
        refine v_e0SN (pc := 11) (rest := []) (n := 1) (i1 := 2) (i2 := 3) X (c_X3_isPerson l G x2) rfl (by unfold xNest; simp) rfl rfl gX2_stepsToStaff_X3_isPerson_n41 rfl rfl rfl (by decide +kernel) ⟨Nat.le_of_ble_eq_true rfl, Nat.le_of_ble_eq_true rfl⟩ dX2_stepsToStaff_11 rfl rfl (Nat.le_of_ble_eq_true rfl) ⟨Nat.le_of_ble_eq_true rfl, Nat.le_of_ble_eq_true rfl⟩ ?_
        refine v_if_eq (pc := 14) X 39 dX2_stepsToStaff_14 (by decide) (fun c_14 => ?_) (fun c_14 => ?_)
        · refine v_iconst (pc := 39) (v := (-1)) X dX2_stepsToStaff_39 (by decide) ?_
          exact v_iret (pc := 40) X hr dX2_stepsToStaff_40 () rfl (by show (-1) = (f_X2_stepsToStaff_r th p0); rw [← hF_r]; simp only [FX2_stepsToStaff_4_r, if_neg c_7, if_pos c_14])
        · refine v_iload_n (pc := 17) X dX2_stepsToStaff_17 2 rfl ?_
          refine v_e0SN (pc := 18) (rest := []) (n := 1) (i1 := 5) (i2 := 3) X (c_X3_isGuest l G x2) rfl (by unfold xNest; simp) rfl rfl gX2_stepsToStaff_X3_isGuest_n45 rfl rfl rfl (by decide +kernel) ⟨Nat.le_of_ble_eq_true rfl, Nat.le_of_ble_eq_true rfl⟩ dX2_stepsToStaff_18 rfl rfl (Nat.le_of_ble_eq_true rfl) ⟨Nat.le_of_ble_eq_true rfl, Nat.le_of_ble_eq_true rfl⟩ ?_
          refine v_if_ne (pc := 21) X 26 dX2_stepsToStaff_21 (by decide) (fun c_21 => ?_) (fun c_21 => ?_)
          · have h2 : vp_in x2 12 := per_in c_14
            refine v_aload_n (pc := 26) X dX2_stepsToStaff_26 0 rfl ?_
            refine v_get (pc := 27) (k := 0) (i := 1) X dX2_stepsToStaff_27 (fun _ h => List.mem_cons_of_mem _ (List.mem_append_right _ h)) 0 rfl rfl (Nat.le_of_ble_eq_true rfl) rfl rfl rfl ?_
            refine v_iload_n (pc := 30) X dX2_stepsToStaff_30 2 rfl ?_
            refine v_iald (pc := 31) X dX2_stepsToStaff_31 1 rfl h2 rfl ?_
            refine v_istore_n (pc := 32) (lv' := [(0, .ref (aT 0)), (1, .int p0), (2, .int (th (x2).toNatClampNeg)), (3, .int x3)]) X dX2_stepsToStaff_32 rfl (Nat.le_of_ble_eq_true rfl) [1, 2, 0, 3] rfl ?_
            refine v_iinc (pc := 33) (k := 3) (v := (x3 + 1)) (lv' := [(0, .ref (aT 0)), (1, .int p0), (2, .int (th (x2).toNatClampNeg)), (3, .int (x3 + 1))]) X dX2_stepsToStaff_33 rfl rfl (Nat.le_of_ble_eq_true rfl) [1, 2, 3, 0] rfl ?_
            refine v_goto (pc := 36) X 4 dX2_stepsToStaff_36 (by decide) ?_
            exact ih (th (x2).toNatClampNeg) (x3 + 1) ((cnt_in (by decide) (by decide) hI c_7).2) (by rw [← hF_r]; simp only [FX2_stepsToStaff_4_r, if_neg c_7, if_neg c_14, if_neg c_21])
          · refine v_iload_n (pc := 24) X dX2_stepsToStaff_24 3 rfl ?_
            exact v_iret (pc := 25) X hr dX2_stepsToStaff_25 () rfl (by show x3 = (f_X2_stepsToStaff_r th p0); rw [← hF_r]; simp only [FX2_stepsToStaff_4_r, if_neg c_7, if_neg c_14, if_pos c_21])
  exact LP4 13 p0 0 (⟨by decide, by decide, by decide⟩) (by simp only [f_X2_stepsToStaff_r])
def f_X2_isTrusted_r (th : Nat → Int32) (p0 : Int32) : Int32 := (if (f_X2_stepsToStaff_r th p0) = (-1) then 0 else 1)
set_option maxHeartbeats 4000000 in
set_option maxRecDepth 100000 in
theorem c_X2_isTrusted (l : Launch) (G : va_G) (aT : Nat → Nat) (th : Nat → Int32) (tr : Nat → Int32) (tm : Nat → Int32) (tb : Nat → Int32) (td : Nat → Int32) (tg : Nat → Int32) (tl : Nat → Int32) (tn : Int32) (p0 : Int32) (h0 : vp_in p0 12) (hth : ∀ j : Nat, j < 12 → inN (th j)) : Ke l yX2_isTrusted wsX2_isTrusted { frames := 2, cells := 0, slots := 0, locals := 43 } 0 0 G (wT G aT th tr tm tb td tg tl tn) [.ref (aT 0), .int p0] (f_X2_isTrusted_r th p0) (wT G aT th tr tm tb td tg tl tn) := by
  refine v_ofi (cc := cX2_isTrusted) (nL := 2) (lv := [(0, .ref (aT 0)), (1, .int p0)]) (by decide) rfl (Nat.le_of_ble_eq_true rfl) rfl ?_
  intro p e s m args below meth c A X hr
  refine v_aload_n (pc := 0) X dX2_isTrusted_0 0 rfl ?_
  refine v_iload_n (pc := 1) X dX2_isTrusted_1 1 rfl ?_
  refine v_eV (pc := 2) (rest := []) (n := 1) (wr := ([] : va_W)) (wn := (wT G aT th tr tm tb td tg tl tn)) (isC := [0, 1, 2, 3, 4, 5, 6, 7]) (isR := []) (isP := [0, 1, 2, 3, 4, 5, 6, 7]) X (c_X2_stepsToStaff l G aT th tr tm tb td tg tl tn p0 h0 hth) gX2_isTrusted_X2_stepsToStaff rfl rfl rfl (by decide +kernel) ⟨Nat.le_of_ble_eq_true rfl, Nat.le_of_ble_eq_true rfl⟩ dX2_isTrusted_2 rfl rfl (Nat.le_of_ble_eq_true rfl) ⟨Nat.le_of_ble_eq_true rfl, Nat.le_of_ble_eq_true rfl⟩ 0 rfl rfl ⟨rfl, rfl, rfl, rfl, by decide, rfl, rfl⟩ ?_
  refine v_iconst (pc := 5) (v := (-1)) X dX2_isTrusted_5 (by decide) ?_
  refine v_icmp_eq (pc := 6) X 13 dX2_isTrusted_6 (by decide) (fun c_6 => ?_) (fun c_6 => ?_)
  · refine v_iconst (pc := 13) (v := 0) X dX2_isTrusted_13 (by decide) ?_
    exact v_zret (pc := 14) X hr rfl dX2_isTrusted_14 () rfl (by show 0 = (f_X2_isTrusted_r th p0); simp only [f_X2_isTrusted_r, if_pos c_6])
  · refine v_iconst (pc := 9) (v := 1) X dX2_isTrusted_9 (by decide) ?_
    refine v_goto (pc := 10) X 14 dX2_isTrusted_10 (by decide) ?_
    exact v_zret (pc := 14) X hr rfl dX2_isTrusted_14 () rfl (by show 1 = (f_X2_isTrusted_r th p0); simp only [f_X2_isTrusted_r, if_neg c_6])
def FX2_roomsOf_18_x2 : Nat → Int32 → Int32 → Int32 → (Nat → Int32) → (Nat → Int32) → Int32
  | 0, _, _, _, _, _ => 0
  | n + 1, x2, x3, x4, th, tr => (if 12 ≤ x4 then x2 else (if (f_X3_isGuest_r x3) = 0 then x2 else (FX2_roomsOf_18_x2 n (x2 &&& (tr (x3).toNatClampNeg)) (th (x3).toNatClampNeg) (x4 + 1) th tr)))
def FX2_roomsOf_18_x3 : Nat → Int32 → Int32 → Int32 → (Nat → Int32) → (Nat → Int32) → Int32
  | 0, _, _, _, _, _ => 0
  | n + 1, x2, x3, x4, th, tr => (if 12 ≤ x4 then x3 else (if (f_X3_isGuest_r x3) = 0 then x3 else (FX2_roomsOf_18_x3 n (x2 &&& (tr (x3).toNatClampNeg)) (th (x3).toNatClampNeg) (x4 + 1) th tr)))
def FX2_roomsOf_18_x4 : Nat → Int32 → Int32 → Int32 → (Nat → Int32) → (Nat → Int32) → Int32
  | 0, _, _, _, _, _ => 0
  | n + 1, x2, x3, x4, th, tr => (if 12 ≤ x4 then x4 else (if (f_X3_isGuest_r x3) = 0 then x4 else (FX2_roomsOf_18_x4 n (x2 &&& (tr (x3).toNatClampNeg)) (th (x3).toNatClampNeg) (x4 + 1) th tr)))
def f_X2_roomsOf_r (th : Nat → Int32) (tr : Nat → Int32) (p0 : Int32) : Int32 := (if (f_X2_isTrusted_r th p0) = 0 then 0 else (FX2_roomsOf_18_x2 13 63 p0 0 th tr))
set_option maxHeartbeats 4000000 in
set_option maxRecDepth 100000 in
theorem c_X2_roomsOf (l : Launch) (G : va_G) (aT : Nat → Nat) (th : Nat → Int32) (tr : Nat → Int32) (tm : Nat → Int32) (tb : Nat → Int32) (td : Nat → Int32) (tg : Nat → Int32) (tl : Nat → Int32) (tn : Int32) (p0 : Int32) (h0 : vp_in p0 12) (hth : ∀ j : Nat, j < 12 → inN (th j)) : Ke l yX2_roomsOf wsX2_roomsOf { frames := 3, cells := 0, slots := 0, locals := 64 } 0 0 G (wT G aT th tr tm tb td tg tl tn) [.ref (aT 0), .int p0] (f_X2_roomsOf_r th tr p0) (wT G aT th tr tm tb td tg tl tn) := by
  refine v_ofi (cc := cX2_roomsOf) (nL := 5) (lv := [(0, .ref (aT 0)), (1, .int p0)]) (by decide) rfl (Nat.le_of_ble_eq_true rfl) rfl ?_
  intro p e s m args below meth c A X hr
  refine v_aload_n (pc := 0) X dX2_roomsOf_0 0 rfl ?_
  refine v_iload_n (pc := 1) X dX2_roomsOf_1 1 rfl ?_
  refine v_eV (pc := 2) (rest := []) (n := 1) (wr := ([] : va_W)) (wn := (wT G aT th tr tm tb td tg tl tn)) (isC := [0, 1, 2, 3, 4, 5, 6, 7]) (isR := []) (isP := [0, 1, 2, 3, 4, 5, 6, 7]) X (c_X2_isTrusted l G aT th tr tm tb td tg tl tn p0 h0 hth) gX2_roomsOf_X2_isTrusted rfl rfl rfl (by decide +kernel) ⟨Nat.le_of_ble_eq_true rfl, Nat.le_of_ble_eq_true rfl⟩ dX2_roomsOf_2 rfl rfl (Nat.le_of_ble_eq_true rfl) ⟨Nat.le_of_ble_eq_true rfl, Nat.le_of_ble_eq_true rfl⟩ 0 rfl rfl ⟨rfl, rfl, rfl, rfl, by decide, rfl, rfl⟩ ?_
  refine v_if_ne (pc := 5) X 10 dX2_roomsOf_5 (by decide) (fun c_5 => ?_) (fun c_5 => ?_)
  · refine v_bipush (pc := 10) (v := 63) X dX2_roomsOf_10 (by decide) ?_
    refine v_istore_n (pc := 12) (lv' := [(0, .ref (aT 0)), (1, .int p0), (2, .int 63)]) X dX2_roomsOf_12 rfl (Nat.le_of_ble_eq_true rfl) [1, 2, 0] rfl ?_
    refine v_iload_n (pc := 13) X dX2_roomsOf_13 1 rfl ?_
    refine v_istore_n (pc := 14) (lv' := [(0, .ref (aT 0)), (1, .int p0), (2, .int 63), (3, .int p0)]) X dX2_roomsOf_14 rfl (Nat.le_of_ble_eq_true rfl) [1, 2, 3, 0] rfl ?_
    refine v_iconst (pc := 15) (v := 0) X dX2_roomsOf_15 (by decide) ?_
    refine v_istore (pc := 16) (lv' := [(0, .ref (aT 0)), (1, .int p0), (2, .int 63), (3, .int p0), (4, .int 0)]) X dX2_roomsOf_16 (Nat.le_of_ble_eq_true rfl) [1, 2, 3, 4, 0] rfl ?_
    have LP18 : ∀ (n : Nat) (x2 : Int32) (x3 : Int32) (x4 : Int32), (x4 = nI (12 + 1 - n) ∧ 1 ≤ n ∧ n ≤ 12 + 1) → V p l e (headSpec wsX2_roomsOf { frames := 3, cells := 0, slots := 0, locals := 64 }).room s m args below meth c 5 G A 0 0 (QI below args s G A 0 0 (S := Unit) (fun x _ => x = (f_X2_roomsOf_r th tr p0)) (fun _ => (wT G aT th tr tm tb td tg tl tn))) (wT G aT th tr tm tb td tg tl tn) [(0, .ref (aT 0)), (1, .int p0), (2, .int (FX2_roomsOf_18_x2 n x2 x3 x4 th tr)), (3, .int (FX2_roomsOf_18_x3 n x2 x3 x4 th tr)), (4, .int (FX2_roomsOf_18_x4 n x2 x3 x4 th tr))] 54 [] → V p l e (headSpec wsX2_roomsOf { frames := 3, cells := 0, slots := 0, locals := 64 }).room s m args below meth c 5 G A 0 0 (QI below args s G A 0 0 (S := Unit) (fun x _ => x = (f_X2_roomsOf_r th tr p0)) (fun _ => (wT G aT th tr tm tb td tg tl tn))) (wT G aT th tr tm tb td tg tl tn) [(0, .ref (aT 0)), (1, .int p0), (2, .int x2), (3, .int x3), (4, .int x4)] 18 [] := by
      intro n
      induction n with
      | zero => intro x2 x3 x4 hI hK; exact False.elim (by omega)
      | succ n ih =>
        intro x2 x3 x4 hI hK
        refine v_iload (pc := 18) X dX2_roomsOf_18 4 rfl ?_
        refine v_bipush (pc := 20) (v := 12) X dX2_roomsOf_20 (by decide) ?_
        refine v_icmp_ge (pc := 22) X 54 dX2_roomsOf_22 (by decide) (fun c_22 => ?_) (fun c_22 => ?_)
        · simpa only [FX2_roomsOf_18_x2, FX2_roomsOf_18_x3, FX2_roomsOf_18_x4, if_pos c_22] using hK
        · refine v_iload_n (pc := 25) X dX2_roomsOf_25 3 rfl ?_
          refine v_e0SN (pc := 26) (rest := []) (n := 1) (i1 := 15) (i2 := 13) X (c_X3_isGuest l G x3) rfl (by unfold xNest; simp) rfl rfl gX2_roomsOf_X3_isGuest_n45 rfl rfl rfl (by decide +kernel) ⟨Nat.le_of_ble_eq_true rfl, Nat.le_of_ble_eq_true rfl⟩ dX2_roomsOf_26 rfl rfl (Nat.le_of_ble_eq_true rfl) ⟨Nat.le_of_ble_eq_true rfl, Nat.le_of_ble_eq_true rfl⟩ ?_
          refine v_if_eq (pc := 29) X 54 dX2_roomsOf_29 (by decide) (fun c_29 => ?_) (fun c_29 => ?_)
          · simpa only [FX2_roomsOf_18_x2, FX2_roomsOf_18_x3, FX2_roomsOf_18_x4, if_neg c_22, if_pos c_29] using hK
          · have h3 : vp_in x3 12 := gst_in c_29
            refine v_iload_n (pc := 32) X dX2_roomsOf_32 2 rfl ?_
            refine v_aload_n (pc := 33) X dX2_roomsOf_33 0 rfl ?_
            refine v_get (pc := 34) (k := 1) (i := 1) X dX2_roomsOf_34 (fun _ h => List.mem_cons_of_mem _ (List.mem_append_right _ h)) 0 rfl rfl (Nat.le_of_ble_eq_true rfl) rfl rfl rfl ?_
            refine v_iload_n (pc := 37) X dX2_roomsOf_37 3 rfl ?_
            refine v_iald (pc := 38) X dX2_roomsOf_38 2 rfl h3 rfl ?_
            refine v_iand (pc := 39) X dX2_roomsOf_39 rfl ?_
            refine v_istore_n (pc := 40) (lv' := [(0, .ref (aT 0)), (1, .int p0), (2, .int (x2 &&& (tr (x3).toNatClampNeg))), (3, .int x3), (4, .int x4)]) X dX2_roomsOf_40 rfl (Nat.le_of_ble_eq_true rfl) [1, 2, 0, 3, 4] rfl ?_
            refine v_aload_n (pc := 41) X dX2_roomsOf_41 0 rfl ?_
            refine v_get (pc := 42) (k := 0) (i := 2) X dX2_roomsOf_42 (fun _ h => List.mem_cons_of_mem _ (List.mem_append_right _ h)) 0 rfl rfl (Nat.le_of_ble_eq_true rfl) rfl rfl rfl ?_
            refine v_iload_n (pc := 45) X dX2_roomsOf_45 3 rfl ?_
            refine v_iald (pc := 46) X dX2_roomsOf_46 1 rfl h3 rfl ?_
            refine v_istore_n (pc := 47) (lv' := [(0, .ref (aT 0)), (1, .int p0), (2, .int (x2 &&& (tr (x3).toNatClampNeg))), (3, .int (th (x3).toNatClampNeg)), (4, .int x4)]) X dX2_roomsOf_47 rfl (Nat.le_of_ble_eq_true rfl) [1, 2, 3, 0, 4] rfl ?_
            refine v_iinc (pc := 48) (k := 4) (v := (x4 + 1)) (lv' := [(0, .ref (aT 0)), (1, .int p0), (2, .int (x2 &&& (tr (x3).toNatClampNeg))), (3, .int (th (x3).toNatClampNeg)), (4, .int (x4 + 1))]) X dX2_roomsOf_48 rfl rfl (Nat.le_of_ble_eq_true rfl) [1, 2, 3, 4, 0] rfl ?_
            refine v_goto (pc := 51) X 18 dX2_roomsOf_51 (by decide) ?_
            exact ih (x2 &&& (tr (x3).toNatClampNeg)) (th (x3).toNatClampNeg) (x4 + 1) ((cnt_in (by decide) (by decide) hI c_22).2) (by simpa only [FX2_roomsOf_18_x2, FX2_roomsOf_18_x3, FX2_roomsOf_18_x4, if_neg c_22, if_neg c_29] using hK)
    refine LP18 13 63 p0 0 (⟨by decide, by decide, by decide⟩) ?_
    refine v_iload_n (pc := 54) X dX2_roomsOf_54 2 rfl ?_
    exact v_iret (pc := 55) X hr dX2_roomsOf_55 () rfl (by show (FX2_roomsOf_18_x2 13 63 p0 0 th tr) = (f_X2_roomsOf_r th tr p0); simp only [f_X2_roomsOf_r, if_neg c_5])
  · refine v_iconst (pc := 8) (v := 0) X dX2_roomsOf_8 (by decide) ?_
    exact v_iret (pc := 9) X hr dX2_roomsOf_9 () rfl (by show 0 = (f_X2_roomsOf_r th tr p0); simp only [f_X2_roomsOf_r, if_pos c_5])
def FX2_standsOnBadVouching_4_r : Nat → Int32 → Int32 → (Nat → Int32) → (Nat → Int32) → Int32
  | 0, _, _, _, _ => 0
  | n + 1, x2, x3, th, td => (if 12 ≤ x3 then 0 else (if (f_X3_isGuest_r x2) = 0 then 0 else (if (td (x2).toNatClampNeg) = 0 then (FX2_standsOnBadVouching_4_r n (th (x2).toNatClampNeg) (x3 + 1) th td) else 1)))
def f_X2_standsOnBadVouching_r (th : Nat → Int32) (td : Nat → Int32) (p0 : Int32) : Int32 := (FX2_standsOnBadVouching_4_r 13 p0 0 th td)
set_option maxHeartbeats 4000000 in
set_option maxRecDepth 100000 in
theorem c_X2_standsOnBadVouching (l : Launch) (G : va_G) (aT : Nat → Nat) (th : Nat → Int32) (tr : Nat → Int32) (tm : Nat → Int32) (tb : Nat → Int32) (td : Nat → Int32) (tg : Nat → Int32) (tl : Nat → Int32) (tn : Int32) (p0 : Int32) (h0 : vp_in p0 12) (hth : ∀ j : Nat, j < 12 → inN (th j)) : Ke l yX2_standsOnBadVouching wsX2_standsOnBadVouching { frames := 1, cells := 0, slots := 0, locals := 20 } 0 0 G (wT G aT th tr tm tb td tg tl tn) [.ref (aT 0), .int p0] (f_X2_standsOnBadVouching_r th td p0) (wT G aT th tr tm tb td tg tl tn) := by
  refine v_ofi (cc := cX2_standsOnBadVouching) (nL := 4) (lv := [(0, .ref (aT 0)), (1, .int p0)]) (by decide) rfl (Nat.le_of_ble_eq_true rfl) rfl ?_
  intro p e s m args below meth c A X hr
  refine v_iload_n (pc := 0) X dX2_standsOnBadVouching_0 1 rfl ?_
  refine v_istore_n (pc := 1) (lv' := [(0, .ref (aT 0)), (1, .int p0), (2, .int p0)]) X dX2_standsOnBadVouching_1 rfl (Nat.le_of_ble_eq_true rfl) [1, 2, 0] rfl ?_
  refine v_iconst (pc := 2) (v := 0) X dX2_standsOnBadVouching_2 (by decide) ?_
  refine v_istore_n (pc := 3) (lv' := [(0, .ref (aT 0)), (1, .int p0), (2, .int p0), (3, .int 0)]) X dX2_standsOnBadVouching_3 rfl (Nat.le_of_ble_eq_true rfl) [1, 2, 3, 0] rfl ?_
  have LP4 : ∀ (n : Nat) (x2 : Int32) (x3 : Int32), (x3 = nI (12 + 1 - n) ∧ 1 ≤ n ∧ n ≤ 12 + 1) → (FX2_standsOnBadVouching_4_r n x2 x3 th td) = (f_X2_standsOnBadVouching_r th td p0) → V p l e (headSpec wsX2_standsOnBadVouching { frames := 1, cells := 0, slots := 0, locals := 20 }).room s m args below meth c 4 G A 0 0 (QI below args s G A 0 0 (S := Unit) (fun x _ => x = (f_X2_standsOnBadVouching_r th td p0)) (fun _ => (wT G aT th tr tm tb td tg tl tn))) (wT G aT th tr tm tb td tg tl tn) [(0, .ref (aT 0)), (1, .int p0), (2, .int x2), (3, .int x3)] 4 [] := by
    intro n
    induction n with
    | zero => intro x2 x3 hI hF_r; exact False.elim (by omega)
    | succ n ih =>
      intro x2 x3 hI hF_r
      refine v_iload_n (pc := 4) X dX2_standsOnBadVouching_4 3 rfl ?_
      refine v_bipush (pc := 5) (v := 12) X dX2_standsOnBadVouching_5 (by decide) ?_
      refine v_icmp_ge (pc := 7) X 41 dX2_standsOnBadVouching_7 (by decide) (fun c_7 => ?_) (fun c_7 => ?_)
      · refine v_iconst (pc := 41) (v := 0) X dX2_standsOnBadVouching_41 (by decide) ?_
        exact v_zret (pc := 42) X hr rfl dX2_standsOnBadVouching_42 () rfl (by show 0 = (f_X2_standsOnBadVouching_r th td p0); rw [← hF_r]; simp only [FX2_standsOnBadVouching_4_r, if_pos c_7])
      · refine v_iload_n (pc := 10) X dX2_standsOnBadVouching_10 2 rfl ?_
        refine v_e0SN (pc := 11) (rest := []) (n := 1) (i1 := 3) (i2 := 4) X (c_X3_isGuest l G x2) rfl (by unfold xNest; simp) rfl rfl gX2_standsOnBadVouching_X3_isGuest_n45 rfl rfl rfl (by decide +kernel) ⟨Nat.le_of_ble_eq_true rfl, Nat.le_of_ble_eq_true rfl⟩ dX2_standsOnBadVouching_11 rfl rfl (Nat.le_of_ble_eq_true rfl) ⟨Nat.le_of_ble_eq_true rfl, Nat.le_of_ble_eq_true rfl⟩ ?_
        refine v_if_eq (pc := 14) X 41 dX2_standsOnBadVouching_14 (by decide) (fun c_14 => ?_) (fun c_14 => ?_)
        · refine v_iconst (pc := 41) (v := 0) X dX2_standsOnBadVouching_41 (by decide) ?_
          exact v_zret (pc := 42) X hr rfl dX2_standsOnBadVouching_42 () rfl (by show 0 = (f_X2_standsOnBadVouching_r th td p0); rw [← hF_r]; simp only [FX2_standsOnBadVouching_4_r, if_neg c_7, if_pos c_14])
        · have h2 : vp_in x2 12 := gst_in c_14
          refine v_aload_n (pc := 17) X dX2_standsOnBadVouching_17 0 rfl ?_
          refine v_get (pc := 18) (k := 4) (i := 1) X dX2_standsOnBadVouching_18 (fun _ h => List.mem_cons_of_mem _ (List.mem_append_right _ h)) 0 rfl rfl (Nat.le_of_ble_eq_true rfl) rfl rfl rfl ?_
          refine v_iload_n (pc := 21) X dX2_standsOnBadVouching_21 2 rfl ?_
          refine v_zald (pc := 22) X dX2_standsOnBadVouching_22 5 rfl h2 rfl ?_
          refine v_if_eq (pc := 23) X 28 dX2_standsOnBadVouching_23 (by decide) (fun c_23 => ?_) (fun c_23 => ?_)
          · refine v_aload_n (pc := 28) X dX2_standsOnBadVouching_28 0 rfl ?_
            refine v_get (pc := 29) (k := 0) (i := 2) X dX2_standsOnBadVouching_29 (fun _ h => List.mem_cons_of_mem _ (List.mem_append_right _ h)) 0 rfl rfl (Nat.le_of_ble_eq_true rfl) rfl rfl rfl ?_
            refine v_iload_n (pc := 32) X dX2_standsOnBadVouching_32 2 rfl ?_
            refine v_iald (pc := 33) X dX2_standsOnBadVouching_33 1 rfl h2 rfl ?_
            refine v_istore_n (pc := 34) (lv' := [(0, .ref (aT 0)), (1, .int p0), (2, .int (th (x2).toNatClampNeg)), (3, .int x3)]) X dX2_standsOnBadVouching_34 rfl (Nat.le_of_ble_eq_true rfl) [1, 2, 0, 3] rfl ?_
            refine v_iinc (pc := 35) (k := 3) (v := (x3 + 1)) (lv' := [(0, .ref (aT 0)), (1, .int p0), (2, .int (th (x2).toNatClampNeg)), (3, .int (x3 + 1))]) X dX2_standsOnBadVouching_35 rfl rfl (Nat.le_of_ble_eq_true rfl) [1, 2, 3, 0] rfl ?_
            refine v_goto (pc := 38) X 4 dX2_standsOnBadVouching_38 (by decide) ?_
            exact ih (th (x2).toNatClampNeg) (x3 + 1) ((cnt_in (by decide) (by decide) hI c_7).2) (by rw [← hF_r]; simp only [FX2_standsOnBadVouching_4_r, if_neg c_7, if_neg c_14, if_pos c_23])
          · refine v_iconst (pc := 26) (v := 1) X dX2_standsOnBadVouching_26 (by decide) ?_
            exact v_zret (pc := 27) X hr rfl dX2_standsOnBadVouching_27 () rfl (by show 1 = (f_X2_standsOnBadVouching_r th td p0); rw [← hF_r]; simp only [FX2_standsOnBadVouching_4_r, if_neg c_7, if_neg c_14, if_neg c_23])
  exact LP4 13 p0 0 (⟨by decide, by decide, by decide⟩) (by simp only [f_X2_standsOnBadVouching_r])
def f_X2_isTainted_r (th : Nat → Int32) (td : Nat → Int32) (tl : Nat → Int32) (p0 : Int32) : Int32 := (if (tl (p0).toNatClampNeg) = 0 then (if (f_X2_standsOnBadVouching_r th td p0) = 0 then 0 else 1) else 1)
set_option maxHeartbeats 4000000 in
set_option maxRecDepth 100000 in
theorem c_X2_isTainted (l : Launch) (G : va_G) (aT : Nat → Nat) (th : Nat → Int32) (tr : Nat → Int32) (tm : Nat → Int32) (tb : Nat → Int32) (td : Nat → Int32) (tg : Nat → Int32) (tl : Nat → Int32) (tn : Int32) (p0 : Int32) (h0 : vp_in p0 12) (hth : ∀ j : Nat, j < 12 → inN (th j)) : Ke l yX2_isTainted wsX2_isTainted { frames := 2, cells := 0, slots := 0, locals := 43 } 0 0 G (wT G aT th tr tm tb td tg tl tn) [.ref (aT 0), .int p0] (f_X2_isTainted_r th td tl p0) (wT G aT th tr tm tb td tg tl tn) := by
  refine v_ofi (cc := cX2_isTainted) (nL := 2) (lv := [(0, .ref (aT 0)), (1, .int p0)]) (by decide) rfl (Nat.le_of_ble_eq_true rfl) rfl ?_
  intro p e s m args below meth c A X hr
  refine v_aload_n (pc := 0) X dX2_isTainted_0 0 rfl ?_
  refine v_get (pc := 1) (k := 6) (i := 1) X dX2_isTainted_1 (fun _ h => List.mem_cons_of_mem _ (List.mem_append_right _ h)) 0 rfl rfl (Nat.le_of_ble_eq_true rfl) rfl rfl rfl ?_
  refine v_iload_n (pc := 4) X dX2_isTainted_4 1 rfl ?_
  refine v_zald (pc := 5) X dX2_isTainted_5 7 rfl h0 rfl ?_
  refine v_if_ne (pc := 6) X 17 dX2_isTainted_6 (by decide) (fun c_6 => ?_) (fun c_6 => ?_)
  · refine v_iconst (pc := 17) (v := 1) X dX2_isTainted_17 (by decide) ?_
    refine v_goto (pc := 18) X 22 dX2_isTainted_18 (by decide) ?_
    exact v_zret (pc := 22) X hr rfl dX2_isTainted_22 () rfl (by show 1 = (f_X2_isTainted_r th td tl p0); simp only [f_X2_isTainted_r, if_neg c_6])
  · refine v_aload_n (pc := 9) X dX2_isTainted_9 0 rfl ?_
    refine v_iload_n (pc := 10) X dX2_isTainted_10 1 rfl ?_
    refine v_eV (pc := 11) (rest := []) (n := 1) (wr := ([] : va_W)) (wn := (wT G aT th tr tm tb td tg tl tn)) (isC := [0, 1, 2, 3, 4, 5, 6, 7]) (isR := []) (isP := [0, 1, 2, 3, 4, 5, 6, 7]) X (c_X2_standsOnBadVouching l G aT th tr tm tb td tg tl tn p0 h0 hth) gX2_isTainted_X2_standsOnBadVouching rfl rfl rfl (by decide +kernel) ⟨Nat.le_of_ble_eq_true rfl, Nat.le_of_ble_eq_true rfl⟩ dX2_isTainted_11 rfl rfl (Nat.le_of_ble_eq_true rfl) ⟨Nat.le_of_ble_eq_true rfl, Nat.le_of_ble_eq_true rfl⟩ 0 rfl rfl ⟨rfl, rfl, rfl, rfl, by decide, rfl, rfl⟩ ?_
    refine v_if_eq (pc := 14) X 21 dX2_isTainted_14 (by decide) (fun c_14 => ?_) (fun c_14 => ?_)
    · refine v_iconst (pc := 21) (v := 0) X dX2_isTainted_21 (by decide) ?_
      exact v_zret (pc := 22) X hr rfl dX2_isTainted_22 () rfl (by show 0 = (f_X2_isTainted_r th td tl p0); simp only [f_X2_isTainted_r, if_pos c_6, if_pos c_14])
    · refine v_iconst (pc := 17) (v := 1) X dX2_isTainted_17 (by decide) ?_
      refine v_goto (pc := 18) X 22 dX2_isTainted_18 (by decide) ?_
      exact v_zret (pc := 22) X hr rfl dX2_isTainted_22 () rfl (by show 1 = (f_X2_isTainted_r th td tl p0); simp only [f_X2_isTainted_r, if_pos c_6, if_neg c_14])
def FX2_countTainted_4_x1 : Nat → Int32 → Int32 → (Nat → Int32) → (Nat → Int32) → (Nat → Int32) → Int32
  | 0, _, _, _, _, _ => 0
  | n + 1, x1, x2, th, td, tl => (if 12 ≤ x2 then x1 else (if (f_X2_isTainted_r th td tl x2) = 0 then (FX2_countTainted_4_x1 n x1 (x2 + 1) th td tl) else (FX2_countTainted_4_x1 n (x1 + 1) (x2 + 1) th td tl)))
def FX2_countTainted_4_x2 : Nat → Int32 → Int32 → (Nat → Int32) → (Nat → Int32) → (Nat → Int32) → Int32
  | 0, _, _, _, _, _ => 0
  | n + 1, x1, x2, th, td, tl => (if 12 ≤ x2 then x2 else (if (f_X2_isTainted_r th td tl x2) = 0 then (FX2_countTainted_4_x2 n x1 (x2 + 1) th td tl) else (FX2_countTainted_4_x2 n (x1 + 1) (x2 + 1) th td tl)))
def f_X2_countTainted_r (th : Nat → Int32) (td : Nat → Int32) (tl : Nat → Int32) : Int32 := (FX2_countTainted_4_x1 13 0 0 th td tl)
set_option maxHeartbeats 4000000 in
set_option maxRecDepth 100000 in
theorem c_X2_countTainted (l : Launch) (G : va_G) (aT : Nat → Nat) (th : Nat → Int32) (tr : Nat → Int32) (tm : Nat → Int32) (tb : Nat → Int32) (td : Nat → Int32) (tg : Nat → Int32) (tl : Nat → Int32) (tn : Int32) (hth : ∀ j : Nat, j < 12 → inN (th j)) : Ke l yX2_countTainted wsX2_countTainted { frames := 3, cells := 0, slots := 0, locals := 64 } 0 0 G (wT G aT th tr tm tb td tg tl tn) [.ref (aT 0)] (f_X2_countTainted_r th td tl) (wT G aT th tr tm tb td tg tl tn) := by
  refine v_ofi (cc := cX2_countTainted) (nL := 3) (lv := [(0, .ref (aT 0))]) (by decide) rfl (Nat.le_of_ble_eq_true rfl) rfl ?_
  intro p e s m args below meth c A X hr
  refine v_iconst (pc := 0) (v := 0) X dX2_countTainted_0 (by decide) ?_
  refine v_istore_n (pc := 1) (lv' := [(0, .ref (aT 0)), (1, .int 0)]) X dX2_countTainted_1 rfl (Nat.le_of_ble_eq_true rfl) [1, 0] rfl ?_
  refine v_iconst (pc := 2) (v := 0) X dX2_countTainted_2 (by decide) ?_
  refine v_istore_n (pc := 3) (lv' := [(0, .ref (aT 0)), (1, .int 0), (2, .int 0)]) X dX2_countTainted_3 rfl (Nat.le_of_ble_eq_true rfl) [1, 2, 0] rfl ?_
  have LP4 : ∀ (n : Nat) (x1 : Int32) (x2 : Int32), (x2 = nI (12 + 1 - n) ∧ 1 ≤ n ∧ n ≤ 12 + 1) → V p l e (headSpec wsX2_countTainted { frames := 3, cells := 0, slots := 0, locals := 64 }).room s m args below meth c 3 G A 0 0 (QI below args s G A 0 0 (S := Unit) (fun x _ => x = (f_X2_countTainted_r th td tl)) (fun _ => (wT G aT th tr tm tb td tg tl tn))) (wT G aT th tr tm tb td tg tl tn) [(0, .ref (aT 0)), (1, .int (FX2_countTainted_4_x1 n x1 x2 th td tl)), (2, .int (FX2_countTainted_4_x2 n x1 x2 th td tl))] 27 [] → V p l e (headSpec wsX2_countTainted { frames := 3, cells := 0, slots := 0, locals := 64 }).room s m args below meth c 3 G A 0 0 (QI below args s G A 0 0 (S := Unit) (fun x _ => x = (f_X2_countTainted_r th td tl)) (fun _ => (wT G aT th tr tm tb td tg tl tn))) (wT G aT th tr tm tb td tg tl tn) [(0, .ref (aT 0)), (1, .int x1), (2, .int x2)] 4 [] := by
    intro n
    induction n with
    | zero => intro x1 x2 hI hK; exact False.elim (by omega)
    | succ n ih =>
      intro x1 x2 hI hK
      refine v_iload_n (pc := 4) X dX2_countTainted_4 2 rfl ?_
      refine v_bipush (pc := 5) (v := 12) X dX2_countTainted_5 (by decide) ?_
      refine v_icmp_ge (pc := 7) X 27 dX2_countTainted_7 (by decide) (fun c_7 => ?_) (fun c_7 => ?_)
      · simpa only [FX2_countTainted_4_x1, FX2_countTainted_4_x2, if_pos c_7] using hK
      · have hi_x2 : vp_in x2 12 := (cnt_in (by decide) (by decide) hI c_7).1
        refine v_aload_n (pc := 10) X dX2_countTainted_10 0 rfl ?_
        refine v_iload_n (pc := 11) X dX2_countTainted_11 2 rfl ?_
        refine v_eV (pc := 12) (rest := []) (n := 1) (wr := ([] : va_W)) (wn := (wT G aT th tr tm tb td tg tl tn)) (isC := [0, 1, 2, 3, 4, 5, 6, 7]) (isR := []) (isP := [0, 1, 2, 3, 4, 5, 6, 7]) X (c_X2_isTainted l G aT th tr tm tb td tg tl tn x2 hi_x2 hth) gX2_countTainted_X2_isTainted rfl rfl rfl (by decide +kernel) ⟨Nat.le_of_ble_eq_true rfl, Nat.le_of_ble_eq_true rfl⟩ dX2_countTainted_12 rfl rfl (Nat.le_of_ble_eq_true rfl) ⟨Nat.le_of_ble_eq_true rfl, Nat.le_of_ble_eq_true rfl⟩ 0 rfl rfl ⟨rfl, rfl, rfl, rfl, by decide, rfl, rfl⟩ ?_
        refine v_if_eq (pc := 15) X 21 dX2_countTainted_15 (by decide) (fun c_15 => ?_) (fun c_15 => ?_)
        · refine v_iinc (pc := 21) (k := 2) (v := (x2 + 1)) (lv' := [(0, .ref (aT 0)), (1, .int x1), (2, .int (x2 + 1))]) X dX2_countTainted_21 rfl rfl (Nat.le_of_ble_eq_true rfl) [1, 2, 0] rfl ?_
          refine v_goto (pc := 24) X 4 dX2_countTainted_24 (by decide) ?_
          exact ih x1 (x2 + 1) ((cnt_in (by decide) (by decide) hI c_7).2) (by simpa only [FX2_countTainted_4_x1, FX2_countTainted_4_x2, if_neg c_7, if_pos c_15] using hK)
        · refine v_iinc (pc := 18) (k := 1) (v := (x1 + 1)) (lv' := [(0, .ref (aT 0)), (1, .int (x1 + 1)), (2, .int x2)]) X dX2_countTainted_18 rfl rfl (Nat.le_of_ble_eq_true rfl) [1, 0, 2] rfl ?_
          refine v_iinc (pc := 21) (k := 2) (v := (x2 + 1)) (lv' := [(0, .ref (aT 0)), (1, .int (x1 + 1)), (2, .int (x2 + 1))]) X dX2_countTainted_21 rfl rfl (Nat.le_of_ble_eq_true rfl) [1, 2, 0] rfl ?_
          refine v_goto (pc := 24) X 4 dX2_countTainted_24 (by decide) ?_
          exact ih (x1 + 1) (x2 + 1) ((cnt_in (by decide) (by decide) hI c_7).2) (by simpa only [FX2_countTainted_4_x1, FX2_countTainted_4_x2, if_neg c_7, if_neg c_15] using hK)
  refine LP4 13 0 0 (⟨by decide, by decide, by decide⟩) ?_
  refine v_iload_n (pc := 27) X dX2_countTainted_27 1 rfl ?_
  exact v_iret (pc := 28) X hr dX2_countTainted_28 () rfl (by show (FX2_countTainted_4_x1 13 0 0 th td tl) = (f_X2_countTainted_r th td tl); simp only [f_X2_countTainted_r])

set_option maxHeartbeats 4000000 in
set_option maxRecDepth 100000 in
theorem c_X2_init (l : Launch) (G : va_G) (h0 : Nat) : Kv l yX2_init wsX2_init { frames := 1, cells := 7, slots := 84, locals := 21 } 7 84 G ([(h0, .inr (3, [.null, .null, .null, .null, .null, .null, .null, .int 0]))]) [.ref h0] (S := Nat → Nat) (fun a => a 0 = h0) (fun a => (wT G a (f_X2_reset_th (fun _ => 0) (fun _ => 0) (fun _ => 0) (fun _ => 0)) (fun _ => 0) (fun _ => 0) (fun _ => 0) (f_X2_reset_td (fun _ => 0) (fun _ => 0) (fun _ => 0) (fun _ => 0)) (f_X2_reset_tg (fun _ => 0) (fun _ => 0) (fun _ => 0) (fun _ => 0)) (f_X2_reset_tl (fun _ => 0) (fun _ => 0) (fun _ => 0) (fun _ => 0)) f_X2_reset_tn)) := by
  refine v_ofv (cc := cX2_init) (nL := 1) (lv := [(0, .ref h0)]) (by decide) rfl (Nat.le_of_ble_eq_true rfl) rfl ?_
  intro p e s m args below meth c A X hr hin
  refine v_aload_n (pc := 0) X dX2_init_0 0 rfl ?_
  refine v_objInit (pc := 1) (i1 := 1) (i2 := 2) (i3 := 3) X dX2_init_1 rfl rfl rfl (Nat.le_of_ble_eq_true rfl) (Nat.le_of_ble_eq_true rfl) ?_
  refine v_aload_n (pc := 4) X dX2_init_4 0 rfl ?_
  refine v_bipush (pc := 5) (v := 12) X dX2_init_5 (by decide) ?_
  refine v_newI (pc := 7) (i := 4) (N := 12) X dX2_init_7 rfl (by decide) (by decide) (Nat.le_of_ble_eq_true rfl) (Nat.le_of_ble_eq_true rfl) (Nat.le_of_ble_eq_true rfl) (fun q7 => ?_)
  refine v_ws (ws' := ([(h0, .inr (3, [.null, .null, .null, .null, .null, .null, .null, .int 0])), (q7, .inl (G.1 10, 12, .inl (fun _ => 0)))])) rfl ?_
  refine v_put (pc := 9) (k := 0) (i := 5) (ws' := ([(h0, .inr (3, [.ref q7, .null, .null, .null, .null, .null, .null, .int 0])), (q7, .inl (G.1 10, 12, .inl (fun _ => 0)))])) X dX2_init_9 (fun _ h => List.mem_cons_of_mem _ (List.mem_append_right _ h)) tyX2_ok nmX2 0 rfl rfl (Nat.le_of_ble_eq_true rfl) rfl rfl (Or.inr ⟨rfl, hin, rfl⟩) rfl (rfl) rfl (Nat.le_of_ble_eq_true rfl) rfl ?_
  refine v_aload_n (pc := 12) X dX2_init_12 0 rfl ?_
  refine v_bipush (pc := 13) (v := 12) X dX2_init_13 (by decide) ?_
  refine v_newI (pc := 15) (i := 4) (N := 12) X dX2_init_15 rfl (by decide) (by decide) (Nat.le_of_ble_eq_true rfl) (Nat.le_of_ble_eq_true rfl) (Nat.le_of_ble_eq_true rfl) (fun q15 => ?_)
  refine v_ws (ws' := ([(h0, .inr (3, [.ref q7, .null, .null, .null, .null, .null, .null, .int 0])), (q7, .inl (G.1 10, 12, .inl (fun _ => 0))), (q15, .inl (G.1 10, 12, .inl (fun _ => 0)))])) rfl ?_
  refine v_put (pc := 17) (k := 1) (i := 6) (ws' := ([(h0, .inr (3, [.ref q7, .ref q15, .null, .null, .null, .null, .null, .int 0])), (q7, .inl (G.1 10, 12, .inl (fun _ => 0))), (q15, .inl (G.1 10, 12, .inl (fun _ => 0)))])) X dX2_init_17 (fun _ h => List.mem_cons_of_mem _ (List.mem_append_right _ h)) tyX2_ok nmX2 0 rfl rfl (Nat.le_of_ble_eq_true rfl) rfl rfl (Or.inr ⟨rfl, hin, rfl⟩) rfl (rfl) rfl (Nat.le_of_ble_eq_true rfl) rfl ?_
  refine v_aload_n (pc := 20) X dX2_init_20 0 rfl ?_
  refine v_bipush (pc := 21) (v := 12) X dX2_init_21 (by decide) ?_
  refine v_newI (pc := 23) (i := 4) (N := 12) X dX2_init_23 rfl (by decide) (by decide) (Nat.le_of_ble_eq_true rfl) (Nat.le_of_ble_eq_true rfl) (Nat.le_of_ble_eq_true rfl) (fun q23 => ?_)
  refine v_ws (ws' := ([(h0, .inr (3, [.ref q7, .ref q15, .null, .null, .null, .null, .null, .int 0])), (q7, .inl (G.1 10, 12, .inl (fun _ => 0))), (q15, .inl (G.1 10, 12, .inl (fun _ => 0))), (q23, .inl (G.1 10, 12, .inl (fun _ => 0)))])) rfl ?_
  refine v_put (pc := 25) (k := 2) (i := 7) (ws' := ([(h0, .inr (3, [.ref q7, .ref q15, .ref q23, .null, .null, .null, .null, .int 0])), (q7, .inl (G.1 10, 12, .inl (fun _ => 0))), (q15, .inl (G.1 10, 12, .inl (fun _ => 0))), (q23, .inl (G.1 10, 12, .inl (fun _ => 0)))])) X dX2_init_25 (fun _ h => List.mem_cons_of_mem _ (List.mem_append_right _ h)) tyX2_ok nmX2 0 rfl rfl (Nat.le_of_ble_eq_true rfl) rfl rfl (Or.inr ⟨rfl, hin, rfl⟩) rfl (rfl) rfl (Nat.le_of_ble_eq_true rfl) rfl ?_
  refine v_aload_n (pc := 28) X dX2_init_28 0 rfl ?_
  refine v_bipush (pc := 29) (v := 12) X dX2_init_29 (by decide) ?_
  refine v_newI (pc := 31) (i := 4) (N := 12) X dX2_init_31 rfl (by decide) (by decide) (Nat.le_of_ble_eq_true rfl) (Nat.le_of_ble_eq_true rfl) (Nat.le_of_ble_eq_true rfl) (fun q31 => ?_)
  refine v_ws (ws' := ([(h0, .inr (3, [.ref q7, .ref q15, .ref q23, .null, .null, .null, .null, .int 0])), (q7, .inl (G.1 10, 12, .inl (fun _ => 0))), (q15, .inl (G.1 10, 12, .inl (fun _ => 0))), (q23, .inl (G.1 10, 12, .inl (fun _ => 0))), (q31, .inl (G.1 10, 12, .inl (fun _ => 0)))])) rfl ?_
  refine v_put (pc := 33) (k := 3) (i := 8) (ws' := ([(h0, .inr (3, [.ref q7, .ref q15, .ref q23, .ref q31, .null, .null, .null, .int 0])), (q7, .inl (G.1 10, 12, .inl (fun _ => 0))), (q15, .inl (G.1 10, 12, .inl (fun _ => 0))), (q23, .inl (G.1 10, 12, .inl (fun _ => 0))), (q31, .inl (G.1 10, 12, .inl (fun _ => 0)))])) X dX2_init_33 (fun _ h => List.mem_cons_of_mem _ (List.mem_append_right _ h)) tyX2_ok nmX2 0 rfl rfl (Nat.le_of_ble_eq_true rfl) rfl rfl (Or.inr ⟨rfl, hin, rfl⟩) rfl (rfl) rfl (Nat.le_of_ble_eq_true rfl) rfl ?_
  refine v_aload_n (pc := 36) X dX2_init_36 0 rfl ?_
  refine v_bipush (pc := 37) (v := 12) X dX2_init_37 (by decide) ?_
  refine v_newZ (pc := 39) (i := 9) (N := 12) X dX2_init_39 rfl (by decide) (by decide) (Nat.le_of_ble_eq_true rfl) (Nat.le_of_ble_eq_true rfl) (Nat.le_of_ble_eq_true rfl) (fun q39 => ?_)
  refine v_ws (ws' := ([(h0, .inr (3, [.ref q7, .ref q15, .ref q23, .ref q31, .null, .null, .null, .int 0])), (q7, .inl (G.1 10, 12, .inl (fun _ => 0))), (q15, .inl (G.1 10, 12, .inl (fun _ => 0))), (q23, .inl (G.1 10, 12, .inl (fun _ => 0))), (q31, .inl (G.1 10, 12, .inl (fun _ => 0))), (q39, .inl (G.1 11, 12, .inl (fun _ => 0)))])) rfl ?_
  refine v_put (pc := 41) (k := 4) (i := 10) (ws' := ([(h0, .inr (3, [.ref q7, .ref q15, .ref q23, .ref q31, .ref q39, .null, .null, .int 0])), (q7, .inl (G.1 10, 12, .inl (fun _ => 0))), (q15, .inl (G.1 10, 12, .inl (fun _ => 0))), (q23, .inl (G.1 10, 12, .inl (fun _ => 0))), (q31, .inl (G.1 10, 12, .inl (fun _ => 0))), (q39, .inl (G.1 11, 12, .inl (fun _ => 0)))])) X dX2_init_41 (fun _ h => List.mem_cons_of_mem _ (List.mem_append_right _ h)) tyX2_ok nmX2 0 rfl rfl (Nat.le_of_ble_eq_true rfl) rfl rfl (Or.inr ⟨rfl, hin, rfl⟩) rfl (rfl) rfl (Nat.le_of_ble_eq_true rfl) rfl ?_
  refine v_aload_n (pc := 44) X dX2_init_44 0 rfl ?_
  refine v_bipush (pc := 45) (v := 12) X dX2_init_45 (by decide) ?_
  refine v_newI (pc := 47) (i := 4) (N := 12) X dX2_init_47 rfl (by decide) (by decide) (Nat.le_of_ble_eq_true rfl) (Nat.le_of_ble_eq_true rfl) (Nat.le_of_ble_eq_true rfl) (fun q47 => ?_)
  refine v_ws (ws' := ([(h0, .inr (3, [.ref q7, .ref q15, .ref q23, .ref q31, .ref q39, .null, .null, .int 0])), (q7, .inl (G.1 10, 12, .inl (fun _ => 0))), (q15, .inl (G.1 10, 12, .inl (fun _ => 0))), (q23, .inl (G.1 10, 12, .inl (fun _ => 0))), (q31, .inl (G.1 10, 12, .inl (fun _ => 0))), (q39, .inl (G.1 11, 12, .inl (fun _ => 0))), (q47, .inl (G.1 10, 12, .inl (fun _ => 0)))])) rfl ?_
  refine v_put (pc := 49) (k := 5) (i := 11) (ws' := ([(h0, .inr (3, [.ref q7, .ref q15, .ref q23, .ref q31, .ref q39, .ref q47, .null, .int 0])), (q7, .inl (G.1 10, 12, .inl (fun _ => 0))), (q15, .inl (G.1 10, 12, .inl (fun _ => 0))), (q23, .inl (G.1 10, 12, .inl (fun _ => 0))), (q31, .inl (G.1 10, 12, .inl (fun _ => 0))), (q39, .inl (G.1 11, 12, .inl (fun _ => 0))), (q47, .inl (G.1 10, 12, .inl (fun _ => 0)))])) X dX2_init_49 (fun _ h => List.mem_cons_of_mem _ (List.mem_append_right _ h)) tyX2_ok nmX2 0 rfl rfl (Nat.le_of_ble_eq_true rfl) rfl rfl (Or.inr ⟨rfl, hin, rfl⟩) rfl (rfl) rfl (Nat.le_of_ble_eq_true rfl) rfl ?_
  refine v_aload_n (pc := 52) X dX2_init_52 0 rfl ?_
  refine v_bipush (pc := 53) (v := 12) X dX2_init_53 (by decide) ?_
  refine v_newZ (pc := 55) (i := 9) (N := 12) X dX2_init_55 rfl (by decide) (by decide) (Nat.le_of_ble_eq_true rfl) (Nat.le_of_ble_eq_true rfl) (Nat.le_of_ble_eq_true rfl) (fun q55 => ?_)
  refine v_ws (ws' := ([(h0, .inr (3, [.ref q7, .ref q15, .ref q23, .ref q31, .ref q39, .ref q47, .null, .int 0])), (q7, .inl (G.1 10, 12, .inl (fun _ => 0))), (q15, .inl (G.1 10, 12, .inl (fun _ => 0))), (q23, .inl (G.1 10, 12, .inl (fun _ => 0))), (q31, .inl (G.1 10, 12, .inl (fun _ => 0))), (q39, .inl (G.1 11, 12, .inl (fun _ => 0))), (q47, .inl (G.1 10, 12, .inl (fun _ => 0))), (q55, .inl (G.1 11, 12, .inl (fun _ => 0)))])) rfl ?_
  refine v_put (pc := 57) (k := 6) (i := 12) (ws' := ([(h0, .inr (3, [.ref q7, .ref q15, .ref q23, .ref q31, .ref q39, .ref q47, .ref q55, .int 0])), (q7, .inl (G.1 10, 12, .inl (fun _ => 0))), (q15, .inl (G.1 10, 12, .inl (fun _ => 0))), (q23, .inl (G.1 10, 12, .inl (fun _ => 0))), (q31, .inl (G.1 10, 12, .inl (fun _ => 0))), (q39, .inl (G.1 11, 12, .inl (fun _ => 0))), (q47, .inl (G.1 10, 12, .inl (fun _ => 0))), (q55, .inl (G.1 11, 12, .inl (fun _ => 0)))])) X dX2_init_57 (fun _ h => List.mem_cons_of_mem _ (List.mem_append_right _ h)) tyX2_ok nmX2 0 rfl rfl (Nat.le_of_ble_eq_true rfl) rfl rfl (Or.inr ⟨rfl, hin, rfl⟩) rfl (rfl) rfl (Nat.le_of_ble_eq_true rfl) rfl ?_
  refine v_ws (ws' := (wT G (adr [h0, q7, q15, q23, q31, q39, q47, q55]) (fun _ => 0) (fun _ => 0) (fun _ => 0) (fun _ => 0) (fun _ => 0) (fun _ => 0) (fun _ => 0) 0)) rfl ?_
  refine v_aload_n (pc := 60) X dX2_init_60 0 rfl ?_
  refine v_uV (pc := 61) (rest := []) (n := 0) (wr := ([] : va_W)) (wn := (wT G (adr [h0, q7, q15, q23, q31, q39, q47, q55]) (f_X2_reset_th (fun _ => 0) (fun _ => 0) (fun _ => 0) (fun _ => 0)) (fun _ => 0) (fun _ => 0) (fun _ => 0) (f_X2_reset_td (fun _ => 0) (fun _ => 0) (fun _ => 0) (fun _ => 0)) (f_X2_reset_tg (fun _ => 0) (fun _ => 0) (fun _ => 0) (fun _ => 0)) (f_X2_reset_tl (fun _ => 0) (fun _ => 0) (fun _ => 0) (fun _ => 0)) f_X2_reset_tn)) (isC := [0, 1, 2, 3, 4, 5, 6, 7]) (isR := []) (isP := [0, 1, 2, 3, 4, 5, 6, 7]) X (c_X2_reset l G (adr [h0, q7, q15, q23, q31, q39, q47, q55]) (fun _ => 0) (fun _ => 0) (fun _ => 0) (fun _ => 0) (fun _ => 0) (fun _ => 0) (fun _ => 0) 0) gX2_init_X2_reset rfl rfl rfl (by decide +kernel) ⟨Nat.le_of_ble_eq_true rfl, Nat.le_of_ble_eq_true rfl⟩ dX2_init_61 rfl rfl (Nat.le_of_ble_eq_true rfl) ⟨Nat.le_of_ble_eq_true rfl, Nat.le_of_ble_eq_true rfl⟩ 0 rfl rfl ⟨rfl, rfl, rfl, rfl, by decide, rfl, rfl⟩ ?_
  exact v_vret (pc := 64) X hr dX2_init_64 (adr [h0, q7, q15, q23, q31, q39, q47, q55]) rfl rfl
