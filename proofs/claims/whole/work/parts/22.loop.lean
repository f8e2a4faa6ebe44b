/-! ## the law's loop -/
theorem lp_out {L k : Nat} (hL : L ≤ 2048) (h : L < k + 4) (hk : k < 4096) : nI L - 4 < nI k := by
  rcases Nat.lt_or_ge L 4 with c | c
  · have e : ∀ L : Nat, L < 4 → nI L - 4 < 0 := by decide
    have e1 := e L c
    rw [Int32.lt_iff_toInt_lt] at e1 ⊢
    have e2 : (0 : Int32).toInt = 0 := by decide
    rw [nI_toInt (by omega)]
    omega
  · obtain ⟨j, rfl⟩ : ∃ j, L = j + 4 := ⟨L - 4, by omega⟩
    have e : nI (j + 4) - 4 = nI j := by
      rw [← nI_add]
      exact Int32.add_sub_cancel _ _
    rw [e]
    exact (nI_ltI (a := j) (b := k) (by omega) (by omega)).mpr (by omega)
theorem lp_in {L k : Nat} (hL : L ≤ 2048) (hk : k < 4096) (h : ¬ nI L - 4 < nI k) : k + 4 ≤ L := by
  rcases Nat.lt_or_ge L (k + 4) with c | c
  · exact absurd (lp_out hL c hk) h
  · exact c
section LOOP
variable {p : Program} {l : Launch} {e : Env} {s : State} {m : MethodId} {below : List Frame} {meth : Method} {c : Code} {G : va_G} {b L : Nat} {xs : Nat → Int32} {ag ad aT au al am ao : Nat → Nat}
set_option maxRecDepth 100000 in
theorem law_fin {cells slots : Nat} {ws : va_W} {lv : List (Nat × Value)} (X : VX p s m #[Value.ref b] meth c cL_law 7 wsL_law RL G (fun q => s.heap.size ≤ q)) (hr : meth.sig.returnType = ret) (hc : cells ≤ 719034) (hs : slots ≤ 6939003) : V p l e room_1 s m #[Value.ref b] below meth c 7 G (fun q => s.heap.size ≤ q) cells slots (lw_Z below #[Value.ref b] s) ws lv 1163 [] := by
  refine v_iconst (pc := 1163) (v := 1) X dL_law_1163 (by decide) ?_
  intro H locs ls hP hD hS hl
  obtain ⟨⟨hx, hb, hml, hown, hts⟩, hG, hA, hlk⟩ := X
  refine va_forget (fun q hq => hS.2.2 q hq) ?_
  refine W.widen (k := 719034) (n := 6939003) hc hs ?_
  exact lw_ret hx hb hr hlk dL_law_1164
set_option maxHeartbeats 4000000 in
set_option maxRecDepth 100000 in
theorem law_loop (hfl : l.stackTraces = false) (X : VX p s m #[Value.ref b] meth c cL_law 7 wsL_law RL G (fun q => s.heap.size ≤ q)) (hr : meth.sig.returnType = ret) (hX : va_X b L xs s s.heap) (hbl : b < s.heap.size) (hL : L ≤ 2048) : ∀ (n t : Nat), L < 4 * t + 4 * n + 4 → t ≤ 512 → ∀ (iv : Int32), iv = nI (4 * t) → ∀ (mmi : Int32) (mwo : Nat → Int32) (mfa : Nat → Int32) (mre : Nat → Int32) (men : Nat → Int32) (mbY : Nat → Int32) (mbg : Nat → Int32) (mlo : Nat → Int32) (mnb : Int32) (mvo : Int32) (mho : Nat → Int32) (mro : Nat → Int32) (mwe : Nat → Int32) (mwi : Nat → Int32) (mba : Nat → Int32) (mkp : Nat → Int32) (mth : Nat → Int32) (msg : Nat → Int32) (mns : Int32) (th : Nat → Int32) (tr : Nat → Int32) (tm : Nat → Int32) (tb : Nat → Int32) (td : Nat → Int32) (lk : Nat → Int32) (lp : Nat → Int32) (lg : Nat → Int32) (lm : Nat → Int32) (ls : Int32) (uh : Nat → Int32) (ur : Nat → Int32) (um : Nat → Int32) (ub : Nat → Int32) (ud : Nat → Int32) (ug : Nat → Int32) (ul : Nat → Int32) (un : Int32) (mtw : Int32) (oo : Nat → Int64), Inv (t) th tr tm tb td lk lp lg lm ls mfa mbY mbg mlo mnb mvo mho mro mwe mwi mba msg → V p l e room_1 s m #[Value.ref b] below meth c 7 G (fun q => s.heap.size ≤ q) (46 + 2 * t) (2934 + 20 * t) (lw_Z below #[Value.ref b] s) (wG G ag ad aT au al mkp mth mmi ++ (wD G ad mwo mfa mre men ++ (wT G aT th tr tm tb td mbg mlo mnb ++ (wT G au uh ur um ub ud ug ul un ++ (wL G al lk lp lg lm ls mvo ++ (wM G am mmi mwo mfa mre men mbY mbg mlo mnb mvo mho mro mwe mwi mba mkp mth msg mns mtw ++ (wO G ao oo))))))) [(0, .ref b), (1, .ref (ag 0)), (2, .ref (am 0)), (3, .ref (ao 0)), (4, .int iv)] 23 [] := by
  intro n
  induction n with
  | zero =>
    intro t h1 h2 iv hiv mmi mwo mfa mre men mbY mbg mlo mnb mvo mho mro mwe mwi mba mkp mth msg mns th tr tm tb td lk lp lg lm ls uh ur um ub ud ug ul un mtw oo hI
    refine v_iload (pc := 23) X dL_law_23 4 rfl ?_
    refine v_aload_n (pc := 25) X dL_law_25 0 rfl ?_
    refine v_slen (pc := 26) X hX hbl dL_law_26 ?_
    refine v_iconst (pc := 27) (v := 4) X dL_law_27 (by decide) ?_
    refine v_isub (pc := 28) X dL_law_28 rfl ?_
    refine v_icmp_gt (pc := 29) X 1163 dL_law_29 (by decide) (fun c_29 => ?_) (fun c_29 => ?_)
    · exact law_fin X hr (by omega) (by omega)
    · exact absurd (by rw [hiv]; exact lp_out hL (by omega) (by omega)) c_29
  | succ n ih =>
    intro t h1 h2 iv hiv mmi mwo mfa mre men mbY mbg mlo mnb mvo mho mro mwe mwi mba mkp mth msg mns th tr tm tb td lk lp lg lm ls uh ur um ub ud ug ul un mtw oo hI
    refine v_iload (pc := 23) X dL_law_23 4 rfl ?_
    refine v_aload_n (pc := 25) X dL_law_25 0 rfl ?_
    refine v_slen (pc := 26) X hX hbl dL_law_26 ?_
    refine v_iconst (pc := 27) (v := 4) X dL_law_27 (by decide) ?_
    refine v_isub (pc := 28) X dL_law_28 rfl ?_
    refine v_icmp_gt (pc := 29) X 1163 dL_law_29 (by decide) (fun c_29 => ?_) (fun c_29 => ?_)
    · exact law_fin X hr (by omega) (by omega)
    · rw [hiv] at c_29
      have hin := lp_in hL (by omega) c_29
      have ht : t < 512 := by omega
      have hx0 : vp_in iv L := by rw [hiv]; exact vp_in_nI (by omega) (by omega)
      have hx1 : vp_in (iv + 1) L := by rw [hiv, nI_1]; exact vp_in_nI (by omega) (by omega)
      have hx2 : vp_in (iv + 2) L := by rw [hiv, show (2 : Int32) = nI 2 from rfl, nI_add]; exact vp_in_nI (by omega) (by omega)
      have hx3 : vp_in (iv + 3) L := by rw [hiv, show (3 : Int32) = nI 3 from rfl, nI_add]; exact vp_in_nI (by omega) (by omega)
      have kk : ∀ (mmi9 : Int32) (mwo9 : Nat → Int32) (mfa9 : Nat → Int32) (mre9 : Nat → Int32) (men9 : Nat → Int32) (mbY9 : Nat → Int32) (mbg9 : Nat → Int32) (mlo9 : Nat → Int32) (mnb9 : Int32) (mvo9 : Int32) (mho9 : Nat → Int32) (mro9 : Nat → Int32) (mwe9 : Nat → Int32) (mwi9 : Nat → Int32) (mba9 : Nat → Int32) (mkp9 : Nat → Int32) (mth9 : Nat → Int32) (msg9 : Nat → Int32) (mns9 : Int32) (th9 : Nat → Int32) (tr9 : Nat → Int32) (tm9 : Nat → Int32) (tb9 : Nat → Int32) (td9 : Nat → Int32) (lk9 : Nat → Int32) (lp9 : Nat → Int32) (lg9 : Nat → Int32) (lm9 : Nat → Int32) (ls9 : Int32) (uh9 : Nat → Int32) (ur9 : Nat → Int32) (um9 : Nat → Int32) (ub9 : Nat → Int32) (ud9 : Nat → Int32) (ug9 : Nat → Int32) (ul9 : Nat → Int32) (un9 : Int32) (mtw9 : Int32) (oo9 : Nat → Int64), Inv (t + 1) th9 tr9 tm9 tb9 td9 lk9 lp9 lg9 lm9 ls9 mfa9 mbY9 mbg9 mlo9 mnb9 mvo9 mho9 mro9 mwe9 mwi9 mba9 msg9 → V p l e room_1 s m #[Value.ref b] below meth c 7 G (fun q => s.heap.size ≤ q) (46 + 2 * (t + 1)) (2934 + 20 * (t + 1)) (lw_Z below #[Value.ref b] s) (wG G ag ad aT au al mkp9 mth9 mmi9 ++ (wD G ad mwo9 mfa9 mre9 men9 ++ (wT G aT th9 tr9 tm9 tb9 td9 mbg9 mlo9 mnb9 ++ (wT G au uh9 ur9 um9 ub9 ud9 ug9 ul9 un9 ++ (wL G al lk9 lp9 lg9 lm9 ls9 mvo9 ++ (wM G am mmi9 mwo9 mfa9 mre9 men9 mbY9 mbg9 mlo9 mnb9 mvo9 mho9 mro9 mwe9 mwi9 mba9 mkp9 mth9 msg9 mns9 mtw9 ++ (wO G ao oo9))))))) [(0, .ref b), (1, .ref (ag 0)), (2, .ref (am 0)), (3, .ref (ao 0)), (4, .int iv)] 1157 [] := by
        intro mmi9 mwo9 mfa9 mre9 men9 mbY9 mbg9 mlo9 mnb9 mvo9 mho9 mro9 mwe9 mwi9 mba9 mkp9 mth9 msg9 mns9 th9 tr9 tm9 tb9 td9 lk9 lp9 lg9 lm9 ls9 uh9 ur9 um9 ub9 ud9 ug9 ul9 un9 mtw9 oo9 hI9
        refine v_iinc (pc := 1157) (k := 4) (v := (iv + 4)) (lv' := [(0, .ref b), (1, .ref (ag 0)), (2, .ref (am 0)), (3, .ref (ao 0)), (4, .int (iv + 4))]) X dL_law_1157 rfl rfl (Nat.le_of_ble_eq_true rfl) [1, 2, 3, 4, 0] rfl ?_
        refine v_goto (pc := 1160) X 23 dL_law_1160 (by decide) ?_
        exact ih (t + 1) (by omega) (by omega) (iv + 4) (by rw [hiv, show (4 : Int32) = nI 4 from rfl, nI_add]; congr 1) mmi9 mwo9 mfa9 mre9 men9 mbY9 mbg9 mlo9 mnb9 mvo9 mho9 mro9 mwe9 mwi9 mba9 mkp9 mth9 msg9 mns9 th9 tr9 tm9 tb9 td9 lk9 lp9 lg9 lm9 ls9 uh9 ur9 um9 ub9 ud9 ug9 ul9 un9 mtw9 oo9 hI9
      refine v_aload_n (pc := 32) X dL_law_32 0 rfl ?_
      refine v_iload (pc := 33) X dL_law_33 4 rfl ?_
      refine v_sld (pc := 35) X hX hbl dL_law_35 hx0 rfl ?_
      refine v_bipush (pc := 36) (v := 15) X dL_law_36 (by decide) ?_
      obtain ⟨o, ho⟩ : ∃ o : Int32, o = (xs iv.toNatClampNeg &&& 15) := ⟨_, rfl⟩
      refine v_iand (pc := 38) (v := o) X dL_law_38 ho.symm ?_
      rcases Classical.em (o = 0) with c0 | c0
      · refine v_tableIn (pc := 39) (off := 77) X 116 dL_law_39 (by rw [c0]; decide) (by rw [c0]; decide) (by rw [c0]; rfl) (by decide) ?_
        exact law_word hfl X hX hbl ht hx1 rfl hx2 rfl mmi mwo mfa mre men mbY mbg mlo mnb mvo mho mro mwe mwi mba mkp mth msg mns th tr tm tb td lk lp lg lm ls uh ur um ub ud ug ul un mtw oo hI kk
      rcases Classical.em (o = 1) with c1 | c1
      · refine v_tableIn (pc := 39) (off := 125) X 164 dL_law_39 (by rw [c1]; decide) (by rw [c1]; decide) (by rw [c1]; rfl) (by decide) ?_
        exact law_login hfl X hX hbl ht hx1 rfl hx2 rfl hx3 rfl mmi mwo mfa mre men mbY mbg mlo mnb mvo mho mro mwe mwi mba mkp mth msg mns th tr tm tb td lk lp lg lm ls uh ur um ub ud ug ul un mtw oo hI kk
      rcases Classical.em (o = 2) with c2 | c2
      · refine v_tableIn (pc := 39) (off := 205) X 244 dL_law_39 (by rw [c2]; decide) (by rw [c2]; decide) (by rw [c2]; rfl) (by decide) ?_
        exact law_pass hfl X hX hbl ht hx1 rfl mmi mwo mfa mre men mbY mbg mlo mnb mvo mho mro mwe mwi mba mkp mth msg mns th tr tm tb td lk lp lg lm ls uh ur um ub ud ug ul un mtw oo hI kk
      rcases Classical.em (o = 3) with c3 | c3
      · refine v_tableIn (pc := 39) (off := 261) X 300 dL_law_39 (by rw [c3]; decide) (by rw [c3]; decide) (by rw [c3]; rfl) (by decide) ?_
        exact law_vouch hfl X hX hbl ht hx1 rfl hx2 rfl hx3 rfl mmi mwo mfa mre men mbY mbg mlo mnb mvo mho mro mwe mwi mba mkp mth msg mns th tr tm tb td lk lp lg lm ls uh ur um ub ud ug ul un mtw oo hI kk
      rcases Classical.em (o = 4) with c4 | c4
      · refine v_tableIn (pc := 39) (off := 341) X 380 dL_law_39 (by rw [c4]; decide) (by rw [c4]; decide) (by rw [c4]; rfl) (by decide) ?_
        exact law_end hfl X hX hbl ht hx1 rfl mmi mwo mfa mre men mbY mbg mlo mnb mvo mho mro mwe mwi mba mkp mth msg mns th tr tm tb td lk lp lg lm ls uh ur um ub ud ug ul un mtw oo hI kk
      rcases Classical.em (o = 5) with c5 | c5
      · refine v_tableIn (pc := 39) (off := 397) X 436 dL_law_39 (by rw [c5]; decide) (by rw [c5]; decide) (by rw [c5]; rfl) (by decide) ?_
        exact law_lose hfl X hX hbl ht hx1 rfl hx2 rfl mmi mwo mfa mre men mbY mbg mlo mnb mvo mho mro mwe mwi mba mkp mth msg mns th tr tm tb td lk lp lg lm ls uh ur um ub ud ug ul un mtw oo hI kk
      rcases Classical.em (o = 6) with c6 | c6
      · refine v_tableIn (pc := 39) (off := 465) X 504 dL_law_39 (by rw [c6]; decide) (by rw [c6]; decide) (by rw [c6]; rfl) (by decide) ?_
        exact law_issue hfl X hX hbl ht hx1 rfl mmi mwo mfa mre men mbY mbg mlo mnb mvo mho mro mwe mwi mba mkp mth msg mns th tr tm tb td lk lp lg lm ls uh ur um ub ud ug ul un mtw oo hI kk
      rcases Classical.em (o = 7) with c7 | c7
      · refine v_tableIn (pc := 39) (off := 521) X 560 dL_law_39 (by rw [c7]; decide) (by rw [c7]; decide) (by rw [c7]; rfl) (by decide) ?_
        exact law_door hfl X hX hbl ht hx1 rfl hx2 rfl mmi mwo mfa mre men mbY mbg mlo mnb mvo mho mro mwe mwi mba mkp mth msg mns th tr tm tb td lk lp lg lm ls uh ur um ub ud ug ul un mtw oo hI kk
      rcases Classical.em (o = 8) with c8 | c8
      · refine v_tableIn (pc := 39) (off := 596) X 635 dL_law_39 (by rw [c8]; decide) (by rw [c8]; decide) (by rw [c8]; rfl) (by decide) ?_
        exact law_share hfl X hX hbl ht hx1 rfl hx2 rfl hx3 rfl mmi mwo mfa mre men mbY mbg mlo mnb mvo mho mro mwe mwi mba mkp mth msg mns th tr tm tb td lk lp lg lm ls uh ur um ub ud ug ul un mtw oo hI kk
      rcases Classical.em (o = 9) with c9 | c9
      · refine v_tableIn (pc := 39) (off := 676) X 715 dL_law_39 (by rw [c9]; decide) (by rw [c9]; decide) (by rw [c9]; rfl) (by decide) ?_
        exact law_use hfl X hX hbl ht hx1 rfl mmi mwo mfa mre men mbY mbg mlo mnb mvo mho mro mwe mwi mba mkp mth msg mns th tr tm tb td lk lp lg lm ls uh ur um ub ud ug ul un mtw oo hI kk
      rcases Classical.em (o = 10) with c10 | c10
      · refine v_tableIn (pc := 39) (off := 739) X 778 dL_law_39 (by rw [c10]; decide) (by rw [c10]; decide) (by rw [c10]; rfl) (by decide) ?_
        exact law_of hfl X hX hbl ht hx1 rfl hx2 rfl mmi mwo mfa mre men mbY mbg mlo mnb mvo mho mro mwe mwi mba mkp mth msg mns th tr tm tb td lk lp lg lm ls uh ur um ub ud ug ul un mtw oo hI kk
      rcases Classical.em (o = 11) with c11 | c11
      · refine v_tableIn (pc := 39) (off := 807) X 846 dL_law_39 (by rw [c11]; decide) (by rw [c11]; decide) (by rw [c11]; rfl) (by decide) ?_
        exact law_taintedAnew hfl X hX hbl ht hx1 rfl mmi mwo mfa mre men mbY mbg mlo mnb mvo mho mro mwe mwi mba mkp mth msg mns th tr tm tb td lk lp lg lm ls uh ur um ub ud ug ul un mtw oo hI kk
      rcases Classical.em (o = 12) with c12 | c12
      · refine v_tableIn (pc := 39) (off := 870) X 909 dL_law_39 (by rw [c12]; decide) (by rw [c12]; decide) (by rw [c12]; rfl) (by decide) ?_
        exact law_chain hfl X hX hbl ht hx1 rfl mmi mwo mfa mre men mbY mbg mlo mnb mvo mho mro mwe mwi mba mkp mth msg mns th tr tm tb td lk lp lg lm ls uh ur um ub ud ug ul un mtw oo hI kk
      rcases Classical.em (o = 13) with c13 | c13
      · refine v_tableIn (pc := 39) (off := 926) X 965 dL_law_39 (by rw [c13]; decide) (by rw [c13]; decide) (by rw [c13]; rfl) (by decide) ?_
        exact law_ending hfl X hX hbl ht hx1 rfl mmi mwo mfa mre men mbY mbg mlo mnb mvo mho mro mwe mwi mba mkp mth msg mns th tr tm tb td lk lp lg lm ls uh ur um ub ud ug ul un mtw oo hI kk
      rcases Classical.em (o = 14) with c14 | c14
      · refine v_tableIn (pc := 39) (off := 982) X 1021 dL_law_39 (by rw [c14]; decide) (by rw [c14]; decide) (by rw [c14]; rfl) (by decide) ?_
        exact law_sign hfl X hX hbl ht hx1 rfl hx2 rfl mmi mwo mfa mre men mbY mbg mlo mnb mvo mho mro mwe mwi mba mkp mth msg mns th tr tm tb td lk lp lg lm ls uh ur um ub ud ug ul un mtw oo hI kk
      rcases Classical.em (o = 15) with c15 | c15
      · refine v_tableIn (pc := 39) (off := 1050) X 1089 dL_law_39 (by rw [c15]; decide) (by rw [c15]; decide) (by rw [c15]; rfl) (by decide) ?_
        exact law_keyOf hfl X hX hbl ht hx1 rfl hx2 rfl mmi mwo mfa mre men mbY mbg mlo mnb mvo mho mro mwe mwi mba mkp mth msg mns th tr tm tb td lk lp lg lm ls uh ur um ub ud ug ul un mtw oo hI kk
      refine v_tableOut (pc := 39) X 1157 dL_law_39 (sw_out 16 o (fun k hk => by match k, hk with | 0, _ => exact c0 | 1, _ => exact c1 | 2, _ => exact c2 | 3, _ => exact c3 | 4, _ => exact c4 | 5, _ => exact c5 | 6, _ => exact c6 | 7, _ => exact c7 | 8, _ => exact c8 | 9, _ => exact c9 | 10, _ => exact c10 | 11, _ => exact c11 | 12, _ => exact c12 | 13, _ => exact c13 | 14, _ => exact c14 | 15, _ => exact c15 | k + 16, hk => omega)) (by decide) ?_
      exact v_widen (k := 46 + 2 * (t + 1)) (n := 2934 + 20 * (t + 1)) (by omega) (by omega) (kk mmi mwo mfa mre men mbY mbg mlo mnb mvo mho mro mwe mwi mba mkp mth msg mns th tr tm tb td lk lp lg lm ls uh ur um ub ud ug ul un mtw oo (inv_succ hI))
end LOOP
