
set_option maxHeartbeats 4000000 in
set_option maxRecDepth 100000 in
theorem c_L_logsIn (l : Launch) (hfl : l.stackTraces = false) (G : va_G) (ag : Nat → Nat) (ad : Nat → Nat) (aT : Nat → Nat) (au : Nat → Nat) (al : Nat → Nat) (ax : Nat → Nat) (aw : Nat → Nat) (kk : Nat → Int32) (kt : Nat → Int32) (nw : Int32) (dw : Nat → Int32) (df : Nat → Int32) (dr : Nat → Int32) (de : Nat → Int32) (th : Nat → Int32) (tr : Nat → Int32) (tm : Nat → Int32) (tb : Nat → Int32) (td : Nat → Int32) (tg : Nat → Int32) (tl : Nat → Int32) (tn : Int32) (uh : Nat → Int32) (ur : Nat → Int32) (um : Nat → Int32) (ub : Nat → Int32) (ud : Nat → Int32) (ug : Nat → Int32) (ul : Nat → Int32) (un : Int32) (lk : Nat → Int32) (lp : Nat → Int32) (lg : Nat → Int32) (lm : Nat → Int32) (ls : Int32) (lv : Int32) (gg : Nat → Int32) (wA : Nat → Int32) (p0 : Int32) (p1 : Int32) (t : Nat) (bb : Nat → Int32) (h0 : vp_in p0 12) (hI : PInv t kt nw dw df dr de th tm tb td tg tl tn lk lp lg lm ls lv gg wA bb) (ht : t < 100) : Ki l yL_logsIn wsL_logsIn { frames := 8, cells := 6, slots := 36, locals := 137 } 6 36 G (wG G ag ad aT au al kk kt nw ++ (wD G ad dw df dr de ++ (wT G aT th tr tm tb td tg tl tn ++ (wT G au uh ur um ub ud ug ul un ++ (wL G al lk lp lg lm ls lv ++ (wg G ax gg ++ (ww G aw wA))))))) [.ref (ag 0), .ref (ax 0), .ref (aw 0), .int p0, .int p1] (S := Nat → Nat → Int32) (fun x q9 => x = 1 ∧ PInv (t + 1) (q9 1) (q9 2 0) (q9 3) (q9 4) (q9 5) (q9 6) (q9 7) (q9 9) (q9 10) (q9 11) (q9 12) (q9 13) (q9 14 0) (q9 23) (q9 24) (q9 25) (q9 26) (q9 27 0) (q9 28 0) (q9 29) (q9 30) bb) (fun q9 => (wG G ag ad aT au al (q9 0) (q9 1) (q9 2 0) ++ (wD G ad (q9 3) (q9 4) (q9 5) (q9 6) ++ (wT G aT (q9 7) (q9 8) (q9 9) (q9 10) (q9 11) (q9 12) (q9 13) (q9 14 0) ++ (wT G au (q9 15) (q9 16) (q9 17) (q9 18) (q9 19) (q9 20) (q9 21) (q9 22 0) ++ (wL G al (q9 23) (q9 24) (q9 25) (q9 26) (q9 27 0) (q9 28 0) ++ (wg G ax (q9 29) ++ (ww G aw (q9 30))))))))) := by
  refine v_ofi (cc := cL_logsIn) (nL := 9) (lv := [(0, .ref (ag 0)), (1, .ref (ax 0)), (2, .ref (aw 0)), (3, .int p0), (4, .int p1)]) (by decide) rfl (Nat.le_of_ble_eq_true rfl) rfl ?_
  intro p e s m args below meth c A X hr
  obtain ⟨w9, hw9, hnw, hde⟩ := pi_nw hI
  have hg := pi_g hI
  have hf := pi_f hI _ (vp_lt h0)
  have hth : ∀ j : Nat, j < 12 → inN (th j) := tieP_th (pi_th hI)
  have hls : ¬ ls < 0 := pi_hls hI (le100 ht)
  have h5 : ls < 512 := (pi_log hI (le100 ht)).2.2
  have hdw : vp_in (dw (p0).toNatClampNeg) 1000 := vw (pi_dw hI _ (vp_lt h0))
  have hco : vp_in (f_X0_codeOf_r p0 nw) 10 := code_in h0 hw9 ht hnw
  refine v_aload_n (pc := 0) X dL_logsIn_0 0 rfl ?_
  refine v_iload_n (pc := 1) X dL_logsIn_1 3 rfl ?_
  refine v_iconst (pc := 2) (v := 5) X dL_logsIn_2 (by decide) ?_
  refine v_eHS (pc := 3) (rest := []) (n := 3) (wr := (wg G ax gg ++ (ww G aw wA))) (wn := (wG G ag ad aT au al kk kt nw ++ (wD G ad dw df dr de ++ (wT G aT th tr tm tb td tg tl tn ++ (wT G au uh ur um ub ud ug ul un ++ (wL G al lk lp lg lm ls lv ++ (wg G ax gg ++ (ww G aw wA)))))))) (isC := [0, 1, 2, 3, 4, 5, 6, 7, 8, 9, 10, 11, 12, 13, 14, 15, 16, 17, 18, 19, 20, 21, 22, 23, 24, 25, 26, 27, 28]) (isR := [29, 30]) (isP := [2, 3, 4, 5, 6, 7, 8, 9, 10, 11, 12, 13, 14, 15, 16, 17, 18, 19, 20, 21, 22, 23, 24, 25, 26, 27, 28, 29, 30, 0, 1]) X (c_L_of5 l hfl G ag ad aT au al kk kt nw dw df dr de th tr tm tb td tg tl tn uh ur um ub ud ug ul un lk lp lg lm ls lv p0 h0 hth) gL_logsIn_L_of rfl rfl rfl (by decide +kernel) ⟨Nat.le_of_ble_eq_true rfl, Nat.le_of_ble_eq_true rfl⟩ dL_logsIn_3 rfl rfl (Nat.le_of_ble_eq_true rfl) ⟨Nat.le_of_ble_eq_true rfl, Nat.le_of_ble_eq_true rfl⟩ ⟨rfl, rfl, rfl, rfl, by decide, rfl, rfl⟩ ?_
  refine v_istore (pc := 6) (lv' := [(0, .ref (ag 0)), (1, .ref (ax 0)), (2, .ref (aw 0)), (3, .int p0), (4, .int p1), (5, .int (df (p0).toNatClampNeg))]) X dL_logsIn_6 (Nat.le_of_ble_eq_true rfl) [1, 2, 3, 4, 5, 0] rfl ?_
  refine v_aload_n (pc := 8) X dL_logsIn_8 0 rfl ?_
  refine v_iload_n (pc := 9) X dL_logsIn_9 3 rfl ?_
  refine v_bipush (pc := 10) (v := 6) X dL_logsIn_10 (by decide) ?_
  refine v_eHS (pc := 12) (rest := []) (n := 3) (wr := (wg G ax gg ++ (ww G aw wA))) (wn := (wG G ag ad aT au al kk kt nw ++ (wD G ad dw df dr de ++ (wT G aT th tr tm tb td tg tl tn ++ (wT G au uh ur um ub ud ug ul un ++ (wL G al lk lp lg lm ls lv ++ (wg G ax gg ++ (ww G aw wA)))))))) (isC := [0, 1, 2, 3, 4, 5, 6, 7, 8, 9, 10, 11, 12, 13, 14, 15, 16, 17, 18, 19, 20, 21, 22, 23, 24, 25, 26, 27, 28]) (isR := [29, 30]) (isP := [2, 3, 4, 5, 6, 7, 8, 9, 10, 11, 12, 13, 14, 15, 16, 17, 18, 19, 20, 21, 22, 23, 24, 25, 26, 27, 28, 29, 30, 0, 1]) X (c_L_of6 l hfl G ag ad aT au al kk kt nw dw df dr de th tr tm tb td tg tl tn uh ur um ub ud ug ul un lk lp lg lm ls lv p0 h0 hth) gL_logsIn_L_of rfl rfl rfl (by decide +kernel) ⟨Nat.le_of_ble_eq_true rfl, Nat.le_of_ble_eq_true rfl⟩ dL_logsIn_12 rfl rfl (Nat.le_of_ble_eq_true rfl) ⟨Nat.le_of_ble_eq_true rfl, Nat.le_of_ble_eq_true rfl⟩ ⟨rfl, rfl, rfl, rfl, by decide, rfl, rfl⟩ ?_
  refine v_istore (pc := 15) (lv' := [(0, .ref (ag 0)), (1, .ref (ax 0)), (2, .ref (aw 0)), (3, .int p0), (4, .int p1), (5, .int (df (p0).toNatClampNeg)), (6, .int (vE de nw p0))]) X dL_logsIn_15 (Nat.le_of_ble_eq_true rfl) [1, 2, 3, 4, 5, 6, 0] rfl ?_
  refine v_iload (pc := 17) X dL_logsIn_17 4 rfl ?_
  refine v_iconst (pc := 19) (v := 5) X dL_logsIn_19 (by decide) ?_
  refine v_e0S (pc := 20) (rest := []) (n := 2) X (c_L_low l G p1 5 (by decide)) gL_logsIn_L_low rfl rfl rfl (by decide +kernel) ⟨Nat.le_of_ble_eq_true rfl, Nat.le_of_ble_eq_true rfl⟩ dL_logsIn_20 rfl rfl (Nat.le_of_ble_eq_true rfl) ⟨Nat.le_of_ble_eq_true rfl, Nat.le_of_ble_eq_true rfl⟩ ?_
  obtain ⟨j20, hj20, ej20⟩ := low_is p1 (N := 5) (by decide) (by decide)
  refine v_top (b := (nI j20)) (ej20) ?_
  refine v_if_le (pc := 23) X 30 dL_logsIn_23 (by decide) (fun c_23 => ?_) (fun c_23 => ?_)
  · refine v_iconst (pc := 30) (v := 0) X dL_logsIn_30 (by decide) ?_
    refine v_istore (pc := 31) (lv' := [(0, .ref (ag 0)), (1, .ref (ax 0)), (2, .ref (aw 0)), (3, .int p0), (4, .int p1), (5, .int (df (p0).toNatClampNeg)), (6, .int (vE de nw p0)), (7, .int 0)]) X dL_logsIn_31 (Nat.le_of_ble_eq_true rfl) [1, 2, 3, 4, 5, 6, 7, 0] rfl ?_
    rcases Classical.em (dr (p0).toNatClampNeg ≤ nw) with s33 | s33
    · refine v_aload_n (pc := 33) X dL_logsIn_33 0 rfl ?_
      refine v_iload_n (pc := 34) X dL_logsIn_34 3 rfl ?_
      refine v_iload (pc := 35) X dL_logsIn_35 7 rfl ?_
      refine v_if_eq (pc := 37) X 46 dL_logsIn_37 (by decide) (fun c_37 => ?_) (fun c_37 => ?_)
      · refine v_aload_n (pc := 46) X dL_logsIn_46 2 rfl ?_
        refine v_iload_n (pc := 47) X dL_logsIn_47 3 rfl ?_
        refine v_iald (pc := 48) X dL_logsIn_48 30 rfl h0 rfl ?_
        refine v_top (b := (dw (p0).toNatClampNeg)) (hg.2.2.2.1 _ (vp_lt h0)) ?_
        refine v_iconst (pc := 49) (v := 1) X dL_logsIn_49 (by decide) ?_
        refine v_iadd (pc := 50) X dL_logsIn_50 rfl ?_
        refine v_iload (pc := 51) X dL_logsIn_51 4 rfl ?_
        refine v_iconst (pc := 53) (v := 4) X dL_logsIn_53 (by decide) ?_
        refine v_ishr (pc := 54) X dL_logsIn_54 rfl ?_
        refine v_sipush (pc := 55) (v := 999) X dL_logsIn_55 (by decide) ?_
        refine v_e0S (pc := 58) (rest := [.int ((dw (p0).toNatClampNeg) + 1), .int p0, .ref (ag 0)]) (n := 2) X (c_L_low l G (p1 >>> (4 &&& 31)) 999 (by decide)) gL_logsIn_L_low rfl rfl rfl (by decide +kernel) ⟨Nat.le_of_ble_eq_true rfl, Nat.le_of_ble_eq_true rfl⟩ dL_logsIn_58 rfl rfl (Nat.le_of_ble_eq_true rfl) ⟨Nat.le_of_ble_eq_true rfl, Nat.le_of_ble_eq_true rfl⟩ ?_
        obtain ⟨j58, hj58, ej58⟩ := low_is (p1 >>> (4 &&& 31)) (N := 999) (by decide) (by decide)
        refine v_top (b := (nI j58)) (ej58) ?_
        refine v_iadd (pc := 61) X dL_logsIn_61 rfl ?_
        refine v_sipush (pc := 62) (v := 1000) X dL_logsIn_62 (by decide) ?_
        refine v_irem (pc := 65) X dL_logsIn_65 (by decide) rfl ?_
        obtain ⟨k66, hk66, hn66, ek66⟩ := wrong_w (pi_dw hI _ (vp_lt h0)) hj58; have hk66 := vp_in_nI hk66 (show 1000 < 2 ^ 31 by decide)
        refine v_top (b := (nI k66)) (ek66) ?_
        refine v_bipush (pc := 66) (v := 7) X dL_logsIn_66 (by decide) ?_
        refine v_iload_n (pc := 68) X dL_logsIn_68 3 rfl ?_
        refine v_imul (pc := 69) X dL_logsIn_69 rfl ?_
        refine v_iconst (pc := 70) (v := 3) X dL_logsIn_70 (by decide) ?_
        refine v_aload_n (pc := 71) X dL_logsIn_71 1 rfl ?_
        refine v_iconst (pc := 72) (v := 0) X dL_logsIn_72 (by decide) ?_
        refine v_iald (pc := 73) X dL_logsIn_73 29 rfl (by unfold vp_in; decide) rfl ?_
        refine v_top (b := nw) (hg.1) ?_
        refine v_imul (pc := 74) X dL_logsIn_74 rfl ?_
        refine v_iadd (pc := 75) X dL_logsIn_75 rfl ?_
        refine v_bipush (pc := 76) (v := 10) X dL_logsIn_76 (by decide) ?_
        refine v_irem (pc := 78) X dL_logsIn_78 (by decide) rfl ?_
        refine v_top (b := (f_X0_codeOf_r p0 nw)) (rfl) ?_
        refine v_eHS (pc := 79) (rest := []) (n := 4) (wr := (wg G ax gg ++ (ww G aw wA))) (wn := (wG G ag ad aT au al kk kt nw ++ (wD G ad dw (f_X0_countFailure_df df p0) (f_X0_countFailure_dr df dr p0 nw) de ++ (wT G aT th tr tm tb td tg tl tn ++ (wT G au uh ur um ub ud ug ul un ++ (wL G al lk lp lg lm ls lv ++ (wg G ax gg ++ (ww G aw wA)))))))) (isC := [0, 1, 2, 3, 4, 5, 6, 7, 8, 9, 10, 11, 12, 13, 14, 15, 16, 17, 18, 19, 20, 21, 22, 23, 24, 25, 26, 27, 28]) (isR := [29, 30]) (isP := [2, 3, 4, 5, 6, 7, 8, 9, 10, 11, 12, 13, 14, 15, 16, 17, 18, 19, 20, 21, 22, 23, 24, 25, 26, 27, 28, 29, 30, 0, 1]) X (c_loginW l hfl G ag ad aT au al kk kt nw dw df dr de th tr tm tb td tg tl tn uh ur um ub ud ug ul un lk lp lg lm ls lv p0 (nI k66) (f_X0_codeOf_r p0 nw) h0 hk66 hco s33 (hn66)) gL_logsIn_L_login rfl rfl rfl (by decide +kernel) ⟨Nat.le_of_ble_eq_true rfl, Nat.le_of_ble_eq_true rfl⟩ dL_logsIn_79 rfl rfl (Nat.le_of_ble_eq_true rfl) ⟨Nat.le_of_ble_eq_true rfl, Nat.le_of_ble_eq_true rfl⟩ ⟨rfl, rfl, rfl, rfl, by decide, rfl, rfl⟩ ?_
        refine v_istore (pc := 82) (lv' := [(0, .ref (ag 0)), (1, .ref (ax 0)), (2, .ref (aw 0)), (3, .int p0), (4, .int p1), (5, .int (df (p0).toNatClampNeg)), (6, .int (vE de nw p0)), (7, .int 0), (8, .int 1)]) X dL_logsIn_82 (Nat.le_of_ble_eq_true rfl) [1, 2, 3, 4, 5, 6, 7, 8, 0] rfl ?_
        refine v_iload (pc := 84) X dL_logsIn_84 8 rfl ?_
        refine v_iconst (pc := 86) (v := 3) X dL_logsIn_86 (by decide) ?_
        refine v_icmp_ne (pc := 87) X 122 dL_logsIn_87 (by decide) (fun c_87 => ?_) (fun c_87 => ?_)
        · refine v_iload (pc := 122) X dL_logsIn_122 8 rfl ?_
          refine v_iload (pc := 124) X dL_logsIn_124 7 rfl ?_
          refine v_if_eq (pc := 126) X 133 dL_logsIn_126 (by decide) (fun c_126 => ?_) (fun c_126 => ?_)
          · refine v_iconst (pc := 133) (v := 1) X dL_logsIn_133 (by decide) ?_
            refine v_icmp_ne (pc := 134) X 215 dL_logsIn_134 (by decide) (fun c_134 => ?_) (fun c_134 => ?_)
            · exact absurd c_134 (by decide)
            · refine v_aload_n (pc := 137) X dL_logsIn_137 0 rfl ?_
              refine v_iload_n (pc := 138) X dL_logsIn_138 3 rfl ?_
              refine v_iconst (pc := 139) (v := 5) X dL_logsIn_139 (by decide) ?_
              refine v_eHS (pc := 140) (rest := []) (n := 3) (wr := (wg G ax gg ++ (ww G aw wA))) (wn := (wG G ag ad aT au al kk kt nw ++ (wD G ad dw (f_X0_countFailure_df df p0) (f_X0_countFailure_dr df dr p0 nw) de ++ (wT G aT th tr tm tb td tg tl tn ++ (wT G au uh ur um ub ud ug ul un ++ (wL G al lk lp lg lm ls lv ++ (wg G ax gg ++ (ww G aw wA)))))))) (isC := [0, 1, 2, 3, 4, 5, 6, 7, 8, 9, 10, 11, 12, 13, 14, 15, 16, 17, 18, 19, 20, 21, 22, 23, 24, 25, 26, 27, 28]) (isR := [29, 30]) (isP := [2, 3, 4, 5, 6, 7, 8, 9, 10, 11, 12, 13, 14, 15, 16, 17, 18, 19, 20, 21, 22, 23, 24, 25, 26, 27, 28, 29, 30, 0, 1]) X (c_L_of5 l hfl G ag ad aT au al kk kt nw dw (f_X0_countFailure_df df p0) (f_X0_countFailure_dr df dr p0 nw) de th tr tm tb td tg tl tn uh ur um ub ud ug ul un lk lp lg lm ls lv p0 h0 hth) gL_logsIn_L_of rfl rfl rfl (by decide +kernel) ⟨Nat.le_of_ble_eq_true rfl, Nat.le_of_ble_eq_true rfl⟩ dL_logsIn_140 rfl rfl (Nat.le_of_ble_eq_true rfl) ⟨Nat.le_of_ble_eq_true rfl, Nat.le_of_ble_eq_true rfl⟩ ⟨rfl, rfl, rfl, rfl, by decide, rfl, rfl⟩ ?_
              refine v_iload (pc := 143) X dL_logsIn_143 7 rfl ?_
              refine v_if_eq (pc := 145) X 152 dL_logsIn_145 (by decide) (fun c_145 => ?_) (fun c_145 => ?_)
              · refine v_iload (pc := 152) X dL_logsIn_152 5 rfl ?_
                refine v_iconst (pc := 154) (v := 1) X dL_logsIn_154 (by decide) ?_
                refine v_iadd (pc := 155) X dL_logsIn_155 rfl ?_
                refine v_iconst (pc := 156) (v := 3) X dL_logsIn_156 (by decide) ?_
                refine v_irem (pc := 157) X dL_logsIn_157 (by decide) rfl ?_
                refine v_icmp_ne (pc := 158) X 215 dL_logsIn_158 (by decide) (fun c_158 => ?_) (fun c_158 => ?_)
                · exact False.elim (c_158 (cf_df hf.1))
                · refine v_aload_n (pc := 161) X dL_logsIn_161 0 rfl ?_
                  refine v_iload_n (pc := 162) X dL_logsIn_162 3 rfl ?_
                  refine v_bipush (pc := 163) (v := 6) X dL_logsIn_163 (by decide) ?_
                  refine v_eHS (pc := 165) (rest := []) (n := 3) (wr := (wg G ax gg ++ (ww G aw wA))) (wn := (wG G ag ad aT au al kk kt nw ++ (wD G ad dw (f_X0_countFailure_df df p0) (f_X0_countFailure_dr df dr p0 nw) de ++ (wT G aT th tr tm tb td tg tl tn ++ (wT G au uh ur um ub ud ug ul un ++ (wL G al lk lp lg lm ls lv ++ (wg G ax gg ++ (ww G aw wA)))))))) (isC := [0, 1, 2, 3, 4, 5, 6, 7, 8, 9, 10, 11, 12, 13, 14, 15, 16, 17, 18, 19, 20, 21, 22, 23, 24, 25, 26, 27, 28]) (isR := [29, 30]) (isP := [2, 3, 4, 5, 6, 7, 8, 9, 10, 11, 12, 13, 14, 15, 16, 17, 18, 19, 20, 21, 22, 23, 24, 25, 26, 27, 28, 29, 30, 0, 1]) X (c_L_of6 l hfl G ag ad aT au al kk kt nw dw (f_X0_countFailure_df df p0) (f_X0_countFailure_dr df dr p0 nw) de th tr tm tb td tg tl tn uh ur um ub ud ug ul un lk lp lg lm ls lv p0 h0 hth) gL_logsIn_L_of rfl rfl rfl (by decide +kernel) ⟨Nat.le_of_ble_eq_true rfl, Nat.le_of_ble_eq_true rfl⟩ dL_logsIn_165 rfl rfl (Nat.le_of_ble_eq_true rfl) ⟨Nat.le_of_ble_eq_true rfl, Nat.le_of_ble_eq_true rfl⟩ ⟨rfl, rfl, rfl, rfl, by decide, rfl, rfl⟩ ?_
                  refine v_iload (pc := 168) X dL_logsIn_168 7 rfl ?_
                  refine v_if_eq (pc := 170) X 182 dL_logsIn_170 (by decide) (fun c_170 => ?_) (fun c_170 => ?_)
                  · refine v_iload (pc := 182) X dL_logsIn_182 6 rfl ?_
                    refine v_icmp_ne (pc := 184) X 215 dL_logsIn_184 (by decide) (fun c_184 => ?_) (fun c_184 => ?_)
                    · exact False.elim (c_184 rfl)
                    · refine v_iload (pc := 187) X dL_logsIn_187 7 rfl ?_
                      refine v_if_ne (pc := 189) X 211 dL_logsIn_189 (by decide) (fun c_189 => ?_) (fun c_189 => ?_)
                      · exact absurd c_189 (by decide)
                      · refine v_iload (pc := 192) X dL_logsIn_192 5 rfl ?_
                        refine v_iconst (pc := 194) (v := 2) X dL_logsIn_194 (by decide) ?_
                        refine v_icmp_lt (pc := 195) X 211 dL_logsIn_195 (by decide) (fun c_195 => ?_) (fun c_195 => ?_)
                        · refine v_iconst (pc := 211) (v := 1) X dL_logsIn_211 (by decide) ?_
                          refine v_goto (pc := 212) X 216 dL_logsIn_212 (by decide) ?_
                          refine v_widen (k := 6) (n := 36) (by omega) (by omega) ?_
                          exact v_zret (pc := 216) X hr (by rfl) dL_logsIn_216 (mkS kk kt nw dw (f_X0_countFailure_df df p0) (f_X0_countFailure_dr df dr p0 nw) de th tr tm tb td tg tl tn uh ur um ub ud ug ul un lk lp lg lm ls lv gg wA bb) (rfl) (⟨rfl, pi_mono (pi_wrong hI h0 s33)⟩)
                        · refine v_aload_n (pc := 198) X dL_logsIn_198 0 rfl ?_
                          refine v_iload_n (pc := 199) X dL_logsIn_199 3 rfl ?_
                          refine v_aload_n (pc := 200) X dL_logsIn_200 2 rfl ?_
                          refine v_iload_n (pc := 201) X dL_logsIn_201 3 rfl ?_
                          refine v_iald (pc := 202) X dL_logsIn_202 30 rfl h0 rfl ?_
                          refine v_top (b := (dw (p0).toNatClampNeg)) (hg.2.2.2.1 _ (vp_lt h0)) ?_
                          refine v_iconst (pc := 203) (v := 0) X dL_logsIn_203 (by decide) ?_
                          refine v_eHS (pc := 204) (rest := []) (n := 4) (wr := (wg G ax gg ++ (ww G aw wA))) (wn := (wG G ag ad aT au al kk kt nw ++ (wD G ad dw (f_X0_countFailure_df df p0) (f_X0_countFailure_dr df dr p0 nw) de ++ (wT G aT th tr tm tb td tg tl tn ++ (wT G au uh ur um ub ud ug ul un ++ (wL G al lk lp lg lm ls lv ++ (wg G ax gg ++ (ww G aw wA)))))))) (isC := [0, 1, 2, 3, 4, 5, 6, 7, 8, 9, 10, 11, 12, 13, 14, 15, 16, 17, 18, 19, 20, 21, 22, 23, 24, 25, 26, 27, 28]) (isR := [29, 30]) (isP := [2, 3, 4, 5, 6, 7, 8, 9, 10, 11, 12, 13, 14, 15, 16, 17, 18, 19, 20, 21, 22, 23, 24, 25, 26, 27, 28, 29, 30, 0, 1]) X (c_loginZ l hfl G ag ad aT au al kk kt nw dw (f_X0_countFailure_df df p0) (f_X0_countFailure_dr df dr p0 nw) de th tr tm tb td tg tl tn uh ur um ub ud ug ul un lk lp lg lm ls lv p0 (dw (p0).toNatClampNeg) 0 h0 hdw (by unfold vp_in; decide) (cf_rest hf.1 c_195 hw9 ht hnw)) gL_logsIn_L_login rfl rfl rfl (by decide +kernel) ⟨Nat.le_of_ble_eq_true rfl, Nat.le_of_ble_eq_true rfl⟩ dL_logsIn_204 rfl rfl (Nat.le_of_ble_eq_true rfl) ⟨Nat.le_of_ble_eq_true rfl, Nat.le_of_ble_eq_true rfl⟩ ⟨rfl, rfl, rfl, rfl, by decide, rfl, rfl⟩ ?_
                          refine v_iconst (pc := 207) (v := 3) X dL_logsIn_207 (by decide) ?_
                          refine v_icmp_ne (pc := 208) X 215 dL_logsIn_208 (by decide) (fun c_208 => ?_) (fun c_208 => ?_)
                          · exact absurd c_208 (by decide)
                          · refine v_iconst (pc := 211) (v := 1) X dL_logsIn_211 (by decide) ?_
                            refine v_goto (pc := 212) X 216 dL_logsIn_212 (by decide) ?_
                            refine v_widen (k := 6) (n := 36) (by omega) (by omega) ?_
                            exact v_zret (pc := 216) X hr (by rfl) dL_logsIn_216 (mkS kk kt nw dw (f_X0_countFailure_df df p0) (f_X0_countFailure_dr df dr p0 nw) de th tr tm tb td tg tl tn uh ur um ub ud ug ul un lk lp lg lm ls lv gg wA bb) (rfl) (⟨rfl, pi_mono (pi_wrong hI h0 s33)⟩)
                  · exact absurd c_170 (by decide)
              · exact absurd c_145 (by decide)
          · exact absurd c_126 (by decide)
        · exact absurd c_87 (by decide)
      · exact absurd c_37 (by decide)
    · refine v_aload_n (pc := 33) X dL_logsIn_33 0 rfl ?_
      refine v_iload_n (pc := 34) X dL_logsIn_34 3 rfl ?_
      refine v_iload (pc := 35) X dL_logsIn_35 7 rfl ?_
      refine v_if_eq (pc := 37) X 46 dL_logsIn_37 (by decide) (fun c_37 => ?_) (fun c_37 => ?_)
      · refine v_aload_n (pc := 46) X dL_logsIn_46 2 rfl ?_
        refine v_iload_n (pc := 47) X dL_logsIn_47 3 rfl ?_
        refine v_iald (pc := 48) X dL_logsIn_48 30 rfl h0 rfl ?_
        refine v_top (b := (dw (p0).toNatClampNeg)) (hg.2.2.2.1 _ (vp_lt h0)) ?_
        refine v_iconst (pc := 49) (v := 1) X dL_logsIn_49 (by decide) ?_
        refine v_iadd (pc := 50) X dL_logsIn_50 rfl ?_
        refine v_iload (pc := 51) X dL_logsIn_51 4 rfl ?_
        refine v_iconst (pc := 53) (v := 4) X dL_logsIn_53 (by decide) ?_
        refine v_ishr (pc := 54) X dL_logsIn_54 rfl ?_
        refine v_sipush (pc := 55) (v := 999) X dL_logsIn_55 (by decide) ?_
        refine v_e0S (pc := 58) (rest := [.int ((dw (p0).toNatClampNeg) + 1), .int p0, .ref (ag 0)]) (n := 2) X (c_L_low l G (p1 >>> (4 &&& 31)) 999 (by decide)) gL_logsIn_L_low rfl rfl rfl (by decide +kernel) ⟨Nat.le_of_ble_eq_true rfl, Nat.le_of_ble_eq_true rfl⟩ dL_logsIn_58 rfl rfl (Nat.le_of_ble_eq_true rfl) ⟨Nat.le_of_ble_eq_true rfl, Nat.le_of_ble_eq_true rfl⟩ ?_
        obtain ⟨j58, hj58, ej58⟩ := low_is (p1 >>> (4 &&& 31)) (N := 999) (by decide) (by decide)
        refine v_top (b := (nI j58)) (ej58) ?_
        refine v_iadd (pc := 61) X dL_logsIn_61 rfl ?_
        refine v_sipush (pc := 62) (v := 1000) X dL_logsIn_62 (by decide) ?_
        refine v_irem (pc := 65) X dL_logsIn_65 (by decide) rfl ?_
        obtain ⟨k66, hk66, hn66, ek66⟩ := wrong_w (pi_dw hI _ (vp_lt h0)) hj58; have hk66 := vp_in_nI hk66 (show 1000 < 2 ^ 31 by decide)
        refine v_top (b := (nI k66)) (ek66) ?_
        refine v_bipush (pc := 66) (v := 7) X dL_logsIn_66 (by decide) ?_
        refine v_iload_n (pc := 68) X dL_logsIn_68 3 rfl ?_
        refine v_imul (pc := 69) X dL_logsIn_69 rfl ?_
        refine v_iconst (pc := 70) (v := 3) X dL_logsIn_70 (by decide) ?_
        refine v_aload_n (pc := 71) X dL_logsIn_71 1 rfl ?_
        refine v_iconst (pc := 72) (v := 0) X dL_logsIn_72 (by decide) ?_
        refine v_iald (pc := 73) X dL_logsIn_73 29 rfl (by unfold vp_in; decide) rfl ?_
        refine v_top (b := nw) (hg.1) ?_
        refine v_imul (pc := 74) X dL_logsIn_74 rfl ?_
        refine v_iadd (pc := 75) X dL_logsIn_75 rfl ?_
        refine v_bipush (pc := 76) (v := 10) X dL_logsIn_76 (by decide) ?_
        refine v_irem (pc := 78) X dL_logsIn_78 (by decide) rfl ?_
        refine v_top (b := (f_X0_codeOf_r p0 nw)) (rfl) ?_
        refine v_eHS (pc := 79) (rest := []) (n := 4) (wr := (wg G ax gg ++ (ww G aw wA))) (wn := (wG G ag ad aT au al kk kt nw ++ (wD G ad dw df dr de ++ (wT G aT th tr tm tb td tg tl tn ++ (wT G au uh ur um ub ud ug ul un ++ (wL G al lk lp lg lm ls lv ++ (wg G ax gg ++ (ww G aw wA)))))))) (isC := [0, 1, 2, 3, 4, 5, 6, 7, 8, 9, 10, 11, 12, 13, 14, 15, 16, 17, 18, 19, 20, 21, 22, 23, 24, 25, 26, 27, 28]) (isR := [29, 30]) (isP := [2, 3, 4, 5, 6, 7, 8, 9, 10, 11, 12, 13, 14, 15, 16, 17, 18, 19, 20, 21, 22, 23, 24, 25, 26, 27, 28, 29, 30, 0, 1]) X (c_loginZ l hfl G ag ad aT au al kk kt nw dw df dr de th tr tm tb td tg tl tn uh ur um ub ud ug ul un lk lp lg lm ls lv p0 (nI k66) (f_X0_codeOf_r p0 nw) h0 hk66 hco s33) gL_logsIn_L_login rfl rfl rfl (by decide +kernel) ⟨Nat.le_of_ble_eq_true rfl, Nat.le_of_ble_eq_true rfl⟩ dL_logsIn_79 rfl rfl (Nat.le_of_ble_eq_true rfl) ⟨Nat.le_of_ble_eq_true rfl, Nat.le_of_ble_eq_true rfl⟩ ⟨rfl, rfl, rfl, rfl, by decide, rfl, rfl⟩ ?_
        refine v_istore (pc := 82) (lv' := [(0, .ref (ag 0)), (1, .ref (ax 0)), (2, .ref (aw 0)), (3, .int p0), (4, .int p1), (5, .int (df (p0).toNatClampNeg)), (6, .int (vE de nw p0)), (7, .int 0), (8, .int 3)]) X dL_logsIn_82 (Nat.le_of_ble_eq_true rfl) [1, 2, 3, 4, 5, 6, 7, 8, 0] rfl ?_
        refine v_iload (pc := 84) X dL_logsIn_84 8 rfl ?_
        refine v_iconst (pc := 86) (v := 3) X dL_logsIn_86 (by decide) ?_
        refine v_icmp_ne (pc := 87) X 122 dL_logsIn_87 (by decide) (fun c_87 => ?_) (fun c_87 => ?_)
        · exact absurd c_87 (by decide)
        · refine v_iload (pc := 90) X dL_logsIn_90 5 rfl ?_
          refine v_if_ne (pc := 92) X 120 dL_logsIn_92 (by decide) (fun c_92 => ?_) (fun c_92 => ?_)
          · exact False.elim (c_92 (hf.2 s33))
          · refine v_aload_n (pc := 95) X dL_logsIn_95 0 rfl ?_
            refine v_iload_n (pc := 96) X dL_logsIn_96 3 rfl ?_
            refine v_iconst (pc := 97) (v := 5) X dL_logsIn_97 (by decide) ?_
            refine v_eHS (pc := 98) (rest := []) (n := 3) (wr := (wg G ax gg ++ (ww G aw wA))) (wn := (wG G ag ad aT au al kk kt nw ++ (wD G ad dw df dr de ++ (wT G aT th tr tm tb td tg tl tn ++ (wT G au uh ur um ub ud ug ul un ++ (wL G al lk lp lg lm ls lv ++ (wg G ax gg ++ (ww G aw wA)))))))) (isC := [0, 1, 2, 3, 4, 5, 6, 7, 8, 9, 10, 11, 12, 13, 14, 15, 16, 17, 18, 19, 20, 21, 22, 23, 24, 25, 26, 27, 28]) (isR := [29, 30]) (isP := [2, 3, 4, 5, 6, 7, 8, 9, 10, 11, 12, 13, 14, 15, 16, 17, 18, 19, 20, 21, 22, 23, 24, 25, 26, 27, 28, 29, 30, 0, 1]) X (c_L_of5 l hfl G ag ad aT au al kk kt nw dw df dr de th tr tm tb td tg tl tn uh ur um ub ud ug ul un lk lp lg lm ls lv p0 h0 hth) gL_logsIn_L_of rfl rfl rfl (by decide +kernel) ⟨Nat.le_of_ble_eq_true rfl, Nat.le_of_ble_eq_true rfl⟩ dL_logsIn_98 rfl rfl (Nat.le_of_ble_eq_true rfl) ⟨Nat.le_of_ble_eq_true rfl, Nat.le_of_ble_eq_true rfl⟩ ⟨rfl, rfl, rfl, rfl, by decide, rfl, rfl⟩ ?_
            refine v_if_ne (pc := 101) X 120 dL_logsIn_101 (by decide) (fun c_101 => ?_) (fun c_101 => ?_)
            · exact False.elim (c_101 (hf.2 s33))
            · refine v_aload_n (pc := 104) X dL_logsIn_104 0 rfl ?_
              refine v_iload_n (pc := 105) X dL_logsIn_105 3 rfl ?_
              refine v_bipush (pc := 106) (v := 6) X dL_logsIn_106 (by decide) ?_
              refine v_eHS (pc := 108) (rest := []) (n := 3) (wr := (wg G ax gg ++ (ww G aw wA))) (wn := (wG G ag ad aT au al kk kt nw ++ (wD G ad dw df dr de ++ (wT G aT th tr tm tb td tg tl tn ++ (wT G au uh ur um ub ud ug ul un ++ (wL G al lk lp lg lm ls lv ++ (wg G ax gg ++ (ww G aw wA)))))))) (isC := [0, 1, 2, 3, 4, 5, 6, 7, 8, 9, 10, 11, 12, 13, 14, 15, 16, 17, 18, 19, 20, 21, 22, 23, 24, 25, 26, 27, 28]) (isR := [29, 30]) (isP := [2, 3, 4, 5, 6, 7, 8, 9, 10, 11, 12, 13, 14, 15, 16, 17, 18, 19, 20, 21, 22, 23, 24, 25, 26, 27, 28, 29, 30, 0, 1]) X (c_L_of6 l hfl G ag ad aT au al kk kt nw dw df dr de th tr tm tb td tg tl tn uh ur um ub ud ug ul un lk lp lg lm ls lv p0 h0 hth) gL_logsIn_L_of rfl rfl rfl (by decide +kernel) ⟨Nat.le_of_ble_eq_true rfl, Nat.le_of_ble_eq_true rfl⟩ dL_logsIn_108 rfl rfl (Nat.le_of_ble_eq_true rfl) ⟨Nat.le_of_ble_eq_true rfl, Nat.le_of_ble_eq_true rfl⟩ ⟨rfl, rfl, rfl, rfl, by decide, rfl, rfl⟩ ?_
              refine v_iload (pc := 111) X dL_logsIn_111 6 rfl ?_
              refine v_icmp_ne (pc := 113) X 120 dL_logsIn_113 (by decide) (fun c_113 => ?_) (fun c_113 => ?_)
              · exact False.elim (c_113 rfl)
              · refine v_iconst (pc := 116) (v := 1) X dL_logsIn_116 (by decide) ?_
                refine v_goto (pc := 117) X 121 dL_logsIn_117 (by decide) ?_
                refine v_widen (k := 6) (n := 36) (by omega) (by omega) ?_
                exact v_zret (pc := 121) X hr (by rfl) dL_logsIn_121 (mkS kk kt nw dw df dr de th tr tm tb td tg tl tn uh ur um ub ud ug ul un lk lp lg lm ls lv gg wA bb) (rfl) (⟨rfl, pi_mono hI⟩)
      · exact absurd c_37 (by decide)
  · refine v_iconst (pc := 26) (v := 1) X dL_logsIn_26 (by decide) ?_
    refine v_goto (pc := 27) X 31 dL_logsIn_27 (by decide) ?_
    refine v_istore (pc := 31) (lv' := [(0, .ref (ag 0)), (1, .ref (ax 0)), (2, .ref (aw 0)), (3, .int p0), (4, .int p1), (5, .int (df (p0).toNatClampNeg)), (6, .int (vE de nw p0)), (7, .int 1)]) X dL_logsIn_31 (Nat.le_of_ble_eq_true rfl) [1, 2, 3, 4, 5, 6, 7, 0] rfl ?_
    rcases Classical.em (dr (p0).toNatClampNeg ≤ nw) with s33 | s33
    · refine v_aload_n (pc := 33) X dL_logsIn_33 0 rfl ?_
      refine v_iload_n (pc := 34) X dL_logsIn_34 3 rfl ?_
      refine v_iload (pc := 35) X dL_logsIn_35 7 rfl ?_
      refine v_if_eq (pc := 37) X 46 dL_logsIn_37 (by decide) (fun c_37 => ?_) (fun c_37 => ?_)
      · exact absurd c_37 (by decide)
      · refine v_aload_n (pc := 40) X dL_logsIn_40 2 rfl ?_
        refine v_iload_n (pc := 41) X dL_logsIn_41 3 rfl ?_
        refine v_iald (pc := 42) X dL_logsIn_42 30 rfl h0 rfl ?_
        refine v_top (b := (dw (p0).toNatClampNeg)) (hg.2.2.2.1 _ (vp_lt h0)) ?_
        refine v_goto (pc := 43) X 66 dL_logsIn_43 (by decide) ?_
        refine v_bipush (pc := 66) (v := 7) X dL_logsIn_66 (by decide) ?_
        refine v_iload_n (pc := 68) X dL_logsIn_68 3 rfl ?_
        refine v_imul (pc := 69) X dL_logsIn_69 rfl ?_
        refine v_iconst (pc := 70) (v := 3) X dL_logsIn_70 (by decide) ?_
        refine v_aload_n (pc := 71) X dL_logsIn_71 1 rfl ?_
        refine v_iconst (pc := 72) (v := 0) X dL_logsIn_72 (by decide) ?_
        refine v_iald (pc := 73) X dL_logsIn_73 29 rfl (by unfold vp_in; decide) rfl ?_
        refine v_top (b := nw) (hg.1) ?_
        refine v_imul (pc := 74) X dL_logsIn_74 rfl ?_
        refine v_iadd (pc := 75) X dL_logsIn_75 rfl ?_
        refine v_bipush (pc := 76) (v := 10) X dL_logsIn_76 (by decide) ?_
        refine v_irem (pc := 78) X dL_logsIn_78 (by decide) rfl ?_
        refine v_top (b := (f_X0_codeOf_r p0 nw)) (rfl) ?_
        refine v_eHS (pc := 79) (rest := []) (n := 4) (wr := (wg G ax gg ++ (ww G aw wA))) (wn := (wG G ag ad aT au al kk kt nw ++ (wD G ad dw (upd df (p0).toNatClampNeg 0) dr (upd de (p0).toNatClampNeg (nw + 30)) ++ (wT G aT th tr tm tb td tg tl tn ++ (wT G au uh ur um ub ud ug ul un ++ (wL G al lk lp lg lm ls lv ++ (wg G ax gg ++ (ww G aw wA)))))))) (isC := [0, 1, 2, 3, 4, 5, 6, 7, 8, 9, 10, 11, 12, 13, 14, 15, 16, 17, 18, 19, 20, 21, 22, 23, 24, 25, 26, 27, 28]) (isR := [29, 30]) (isP := [2, 3, 4, 5, 6, 7, 8, 9, 10, 11, 12, 13, 14, 15, 16, 17, 18, 19, 20, 21, 22, 23, 24, 25, 26, 27, 28, 29, 30, 0, 1]) X (c_loginR l hfl G ag ad aT au al kk kt nw dw df dr de th tr tm tb td tg tl tn uh ur um ub ud ug ul un lk lp lg lm ls lv p0 (dw (p0).toNatClampNeg) (f_X0_codeOf_r p0 nw) h0 hdw hco s33 (rfl) (rfl)) gL_logsIn_L_login rfl rfl rfl (by decide +kernel) ⟨Nat.le_of_ble_eq_true rfl, Nat.le_of_ble_eq_true rfl⟩ dL_logsIn_79 rfl rfl (Nat.le_of_ble_eq_true rfl) ⟨Nat.le_of_ble_eq_true rfl, Nat.le_of_ble_eq_true rfl⟩ ⟨rfl, rfl, rfl, rfl, by decide, rfl, rfl⟩ ?_
        refine v_istore (pc := 82) (lv' := [(0, .ref (ag 0)), (1, .ref (ax 0)), (2, .ref (aw 0)), (3, .int p0), (4, .int p1), (5, .int (df (p0).toNatClampNeg)), (6, .int (vE de nw p0)), (7, .int 1), (8, .int 0)]) X dL_logsIn_82 (Nat.le_of_ble_eq_true rfl) [1, 2, 3, 4, 5, 6, 7, 8, 0] rfl ?_
        refine v_iload (pc := 84) X dL_logsIn_84 8 rfl ?_
        refine v_iconst (pc := 86) (v := 3) X dL_logsIn_86 (by decide) ?_
        refine v_icmp_ne (pc := 87) X 122 dL_logsIn_87 (by decide) (fun c_87 => ?_) (fun c_87 => ?_)
        · refine v_iload (pc := 122) X dL_logsIn_122 8 rfl ?_
          refine v_iload (pc := 124) X dL_logsIn_124 7 rfl ?_
          refine v_if_eq (pc := 126) X 133 dL_logsIn_126 (by decide) (fun c_126 => ?_) (fun c_126 => ?_)
          · exact absurd c_126 (by decide)
          · refine v_iconst (pc := 129) (v := 0) X dL_logsIn_129 (by decide) ?_
            refine v_goto (pc := 130) X 134 dL_logsIn_130 (by decide) ?_
            refine v_icmp_ne (pc := 134) X 215 dL_logsIn_134 (by decide) (fun c_134 => ?_) (fun c_134 => ?_)
            · exact absurd c_134 (by decide)
            · refine v_aload_n (pc := 137) X dL_logsIn_137 0 rfl ?_
              refine v_iload_n (pc := 138) X dL_logsIn_138 3 rfl ?_
              refine v_iconst (pc := 139) (v := 5) X dL_logsIn_139 (by decide) ?_
              refine v_eHS (pc := 140) (rest := []) (n := 3) (wr := (wg G ax gg ++ (ww G aw wA))) (wn := (wG G ag ad aT au al kk kt nw ++ (wD G ad dw (upd df (p0).toNatClampNeg 0) dr (upd de (p0).toNatClampNeg (nw + 30)) ++ (wT G aT th tr tm tb td tg tl tn ++ (wT G au uh ur um ub ud ug ul un ++ (wL G al lk lp lg lm ls lv ++ (wg G ax gg ++ (ww G aw wA)))))))) (isC := [0, 1, 2, 3, 4, 5, 6, 7, 8, 9, 10, 11, 12, 13, 14, 15, 16, 17, 18, 19, 20, 21, 22, 23, 24, 25, 26, 27, 28]) (isR := [29, 30]) (isP := [2, 3, 4, 5, 6, 7, 8, 9, 10, 11, 12, 13, 14, 15, 16, 17, 18, 19, 20, 21, 22, 23, 24, 25, 26, 27, 28, 29, 30, 0, 1]) X (c_L_of5 l hfl G ag ad aT au al kk kt nw dw (upd df (p0).toNatClampNeg 0) dr (upd de (p0).toNatClampNeg (nw + 30)) th tr tm tb td tg tl tn uh ur um ub ud ug ul un lk lp lg lm ls lv p0 h0 hth) gL_logsIn_L_of rfl rfl rfl (by decide +kernel) ⟨Nat.le_of_ble_eq_true rfl, Nat.le_of_ble_eq_true rfl⟩ dL_logsIn_140 rfl rfl (Nat.le_of_ble_eq_true rfl) ⟨Nat.le_of_ble_eq_true rfl, Nat.le_of_ble_eq_true rfl⟩ ⟨rfl, rfl, rfl, rfl, by decide, rfl, rfl⟩ ?_
              refine v_top (b := 0) (upd_at _ _ _) ?_
              refine v_iload (pc := 143) X dL_logsIn_143 7 rfl ?_
              refine v_if_eq (pc := 145) X 152 dL_logsIn_145 (by decide) (fun c_145 => ?_) (fun c_145 => ?_)
              · exact absurd c_145 (by decide)
              · refine v_iconst (pc := 148) (v := 0) X dL_logsIn_148 (by decide) ?_
                refine v_goto (pc := 149) X 158 dL_logsIn_149 (by decide) ?_
                refine v_icmp_ne (pc := 158) X 215 dL_logsIn_158 (by decide) (fun c_158 => ?_) (fun c_158 => ?_)
                · exact absurd c_158 (by decide)
                · refine v_aload_n (pc := 161) X dL_logsIn_161 0 rfl ?_
                  refine v_iload_n (pc := 162) X dL_logsIn_162 3 rfl ?_
                  refine v_bipush (pc := 163) (v := 6) X dL_logsIn_163 (by decide) ?_
                  refine v_eHS (pc := 165) (rest := []) (n := 3) (wr := (wg G ax gg ++ (ww G aw wA))) (wn := (wG G ag ad aT au al kk kt nw ++ (wD G ad dw (upd df (p0).toNatClampNeg 0) dr (upd de (p0).toNatClampNeg (nw + 30)) ++ (wT G aT th tr tm tb td tg tl tn ++ (wT G au uh ur um ub ud ug ul un ++ (wL G al lk lp lg lm ls lv ++ (wg G ax gg ++ (ww G aw wA)))))))) (isC := [0, 1, 2, 3, 4, 5, 6, 7, 8, 9, 10, 11, 12, 13, 14, 15, 16, 17, 18, 19, 20, 21, 22, 23, 24, 25, 26, 27, 28]) (isR := [29, 30]) (isP := [2, 3, 4, 5, 6, 7, 8, 9, 10, 11, 12, 13, 14, 15, 16, 17, 18, 19, 20, 21, 22, 23, 24, 25, 26, 27, 28, 29, 30, 0, 1]) X (c_L_of6 l hfl G ag ad aT au al kk kt nw dw (upd df (p0).toNatClampNeg 0) dr (upd de (p0).toNatClampNeg (nw + 30)) th tr tm tb td tg tl tn uh ur um ub ud ug ul un lk lp lg lm ls lv p0 h0 hth) gL_logsIn_L_of rfl rfl rfl (by decide +kernel) ⟨Nat.le_of_ble_eq_true rfl, Nat.le_of_ble_eq_true rfl⟩ dL_logsIn_165 rfl rfl (Nat.le_of_ble_eq_true rfl) ⟨Nat.le_of_ble_eq_true rfl, Nat.le_of_ble_eq_true rfl⟩ ⟨rfl, rfl, rfl, rfl, by decide, rfl, rfl⟩ ?_
                  refine v_top (b := (nw + 30)) (vE_upd hw9 ht hnw) ?_
                  refine v_iload (pc := 168) X dL_logsIn_168 7 rfl ?_
                  refine v_if_eq (pc := 170) X 182 dL_logsIn_170 (by decide) (fun c_170 => ?_) (fun c_170 => ?_)
                  · exact absurd c_170 (by decide)
                  · refine v_aload_n (pc := 173) X dL_logsIn_173 1 rfl ?_
                    refine v_iconst (pc := 174) (v := 0) X dL_logsIn_174 (by decide) ?_
                    refine v_iald (pc := 175) X dL_logsIn_175 29 rfl (by unfold vp_in; decide) rfl ?_
                    refine v_top (b := nw) (hg.1) ?_
                    refine v_bipush (pc := 176) (v := 30) X dL_logsIn_176 (by decide) ?_
                    refine v_iadd (pc := 178) X dL_logsIn_178 rfl ?_
                    refine v_goto (pc := 179) X 184 dL_logsIn_179 (by decide) ?_
                    refine v_icmp_ne (pc := 184) X 215 dL_logsIn_184 (by decide) (fun c_184 => ?_) (fun c_184 => ?_)
                    · exact False.elim (c_184 rfl)
                    · refine v_iload (pc := 187) X dL_logsIn_187 7 rfl ?_
                      refine v_if_ne (pc := 189) X 211 dL_logsIn_189 (by decide) (fun c_189 => ?_) (fun c_189 => ?_)
                      · refine v_iconst (pc := 211) (v := 1) X dL_logsIn_211 (by decide) ?_
                        refine v_goto (pc := 212) X 216 dL_logsIn_212 (by decide) ?_
                        refine v_widen (k := 6) (n := 36) (by omega) (by omega) ?_
                        exact v_zret (pc := 216) X hr (by rfl) dL_logsIn_216 (mkS kk kt nw dw (upd df (p0).toNatClampNeg 0) dr (upd de (p0).toNatClampNeg (nw + 30)) th tr tm tb td tg tl tn uh ur um ub ud ug ul un lk lp lg lm ls lv gg wA bb) (rfl) (⟨rfl, pi_mono (pi_in hI)⟩)
                      · exact absurd c_189 (by decide)
        · exact absurd c_87 (by decide)
    · refine v_aload_n (pc := 33) X dL_logsIn_33 0 rfl ?_
      refine v_iload_n (pc := 34) X dL_logsIn_34 3 rfl ?_
      refine v_iload (pc := 35) X dL_logsIn_35 7 rfl ?_
      refine v_if_eq (pc := 37) X 46 dL_logsIn_37 (by decide) (fun c_37 => ?_) (fun c_37 => ?_)
      · exact absurd c_37 (by decide)
      · refine v_aload_n (pc := 40) X dL_logsIn_40 2 rfl ?_
        refine v_iload_n (pc := 41) X dL_logsIn_41 3 rfl ?_
        refine v_iald (pc := 42) X dL_logsIn_42 30 rfl h0 rfl ?_
        refine v_top (b := (dw (p0).toNatClampNeg)) (hg.2.2.2.1 _ (vp_lt h0)) ?_
        refine v_goto (pc := 43) X 66 dL_logsIn_43 (by decide) ?_
        refine v_bipush (pc := 66) (v := 7) X dL_logsIn_66 (by decide) ?_
        refine v_iload_n (pc := 68) X dL_logsIn_68 3 rfl ?_
        refine v_imul (pc := 69) X dL_logsIn_69 rfl ?_
        refine v_iconst (pc := 70) (v := 3) X dL_logsIn_70 (by decide) ?_
        refine v_aload_n (pc := 71) X dL_logsIn_71 1 rfl ?_
        refine v_iconst (pc := 72) (v := 0) X dL_logsIn_72 (by decide) ?_
        refine v_iald (pc := 73) X dL_logsIn_73 29 rfl (by unfold vp_in; decide) rfl ?_
        refine v_top (b := nw) (hg.1) ?_
        refine v_imul (pc := 74) X dL_logsIn_74 rfl ?_
        refine v_iadd (pc := 75) X dL_logsIn_75 rfl ?_
        refine v_bipush (pc := 76) (v := 10) X dL_logsIn_76 (by decide) ?_
        refine v_irem (pc := 78) X dL_logsIn_78 (by decide) rfl ?_
        refine v_top (b := (f_X0_codeOf_r p0 nw)) (rfl) ?_
        refine v_eHS (pc := 79) (rest := []) (n := 4) (wr := (wg G ax gg ++ (ww G aw wA))) (wn := (wG G ag ad aT au al kk kt nw ++ (wD G ad dw df dr de ++ (wT G aT th tr tm tb td tg tl tn ++ (wT G au uh ur um ub ud ug ul un ++ (wL G al lk lp lg lm ls lv ++ (wg G ax gg ++ (ww G aw wA)))))))) (isC := [0, 1, 2, 3, 4, 5, 6, 7, 8, 9, 10, 11, 12, 13, 14, 15, 16, 17, 18, 19, 20, 21, 22, 23, 24, 25, 26, 27, 28]) (isR := [29, 30]) (isP := [2, 3, 4, 5, 6, 7, 8, 9, 10, 11, 12, 13, 14, 15, 16, 17, 18, 19, 20, 21, 22, 23, 24, 25, 26, 27, 28, 29, 30, 0, 1]) X (c_loginZ l hfl G ag ad aT au al kk kt nw dw df dr de th tr tm tb td tg tl tn uh ur um ub ud ug ul un lk lp lg lm ls lv p0 (dw (p0).toNatClampNeg) (f_X0_codeOf_r p0 nw) h0 hdw hco s33) gL_logsIn_L_login rfl rfl rfl (by decide +kernel) ⟨Nat.le_of_ble_eq_true rfl, Nat.le_of_ble_eq_true rfl⟩ dL_logsIn_79 rfl rfl (Nat.le_of_ble_eq_true rfl) ⟨Nat.le_of_ble_eq_true rfl, Nat.le_of_ble_eq_true rfl⟩ ⟨rfl, rfl, rfl, rfl, by decide, rfl, rfl⟩ ?_
        refine v_istore (pc := 82) (lv' := [(0, .ref (ag 0)), (1, .ref (ax 0)), (2, .ref (aw 0)), (3, .int p0), (4, .int p1), (5, .int (df (p0).toNatClampNeg)), (6, .int (vE de nw p0)), (7, .int 1), (8, .int 3)]) X dL_logsIn_82 (Nat.le_of_ble_eq_true rfl) [1, 2, 3, 4, 5, 6, 7, 8, 0] rfl ?_
        refine v_iload (pc := 84) X dL_logsIn_84 8 rfl ?_
        refine v_iconst (pc := 86) (v := 3) X dL_logsIn_86 (by decide) ?_
        refine v_icmp_ne (pc := 87) X 122 dL_logsIn_87 (by decide) (fun c_87 => ?_) (fun c_87 => ?_)
        · exact absurd c_87 (by decide)
        · refine v_iload (pc := 90) X dL_logsIn_90 5 rfl ?_
          refine v_if_ne (pc := 92) X 120 dL_logsIn_92 (by decide) (fun c_92 => ?_) (fun c_92 => ?_)
          · exact False.elim (c_92 (hf.2 s33))
          · refine v_aload_n (pc := 95) X dL_logsIn_95 0 rfl ?_
            refine v_iload_n (pc := 96) X dL_logsIn_96 3 rfl ?_
            refine v_iconst (pc := 97) (v := 5) X dL_logsIn_97 (by decide) ?_
            refine v_eHS (pc := 98) (rest := []) (n := 3) (wr := (wg G ax gg ++ (ww G aw wA))) (wn := (wG G ag ad aT au al kk kt nw ++ (wD G ad dw df dr de ++ (wT G aT th tr tm tb td tg tl tn ++ (wT G au uh ur um ub ud ug ul un ++ (wL G al lk lp lg lm ls lv ++ (wg G ax gg ++ (ww G aw wA)))))))) (isC := [0, 1, 2, 3, 4, 5, 6, 7, 8, 9, 10, 11, 12, 13, 14, 15, 16, 17, 18, 19, 20, 21, 22, 23, 24, 25, 26, 27, 28]) (isR := [29, 30]) (isP := [2, 3, 4, 5, 6, 7, 8, 9, 10, 11, 12, 13, 14, 15, 16, 17, 18, 19, 20, 21, 22, 23, 24, 25, 26, 27, 28, 29, 30, 0, 1]) X (c_L_of5 l hfl G ag ad aT au al kk kt nw dw df dr de th tr tm tb td tg tl tn uh ur um ub ud ug ul un lk lp lg lm ls lv p0 h0 hth) gL_logsIn_L_of rfl rfl rfl (by decide +kernel) ⟨Nat.le_of_ble_eq_true rfl, Nat.le_of_ble_eq_true rfl⟩ dL_logsIn_98 rfl rfl (Nat.le_of_ble_eq_true rfl) ⟨Nat.le_of_ble_eq_true rfl, Nat.le_of_ble_eq_true rfl⟩ ⟨rfl, rfl, rfl, rfl, by decide, rfl, rfl⟩ ?_
            refine v_if_ne (pc := 101) X 120 dL_logsIn_101 (by decide) (fun c_101 => ?_) (fun c_101 => ?_)
            · exact False.elim (c_101 (hf.2 s33))
            · refine v_aload_n (pc := 104) X dL_logsIn_104 0 rfl ?_
              refine v_iload_n (pc := 105) X dL_logsIn_105 3 rfl ?_
              refine v_bipush (pc := 106) (v := 6) X dL_logsIn_106 (by decide) ?_
              refine v_eHS (pc := 108) (rest := []) (n := 3) (wr := (wg G ax gg ++ (ww G aw wA))) (wn := (wG G ag ad aT au al kk kt nw ++ (wD G ad dw df dr de ++ (wT G aT th tr tm tb td tg tl tn ++ (wT G au uh ur um ub ud ug ul un ++ (wL G al lk lp lg lm ls lv ++ (wg G ax gg ++ (ww G aw wA)))))))) (isC := [0, 1, 2, 3, 4, 5, 6, 7, 8, 9, 10, 11, 12, 13, 14, 15, 16, 17, 18, 19, 20, 21, 22, 23, 24, 25, 26, 27, 28]) (isR := [29, 30]) (isP := [2, 3, 4, 5, 6, 7, 8, 9, 10, 11, 12, 13, 14, 15, 16, 17, 18, 19, 20, 21, 22, 23, 24, 25, 26, 27, 28, 29, 30, 0, 1]) X (c_L_of6 l hfl G ag ad aT au al kk kt nw dw df dr de th tr tm tb td tg tl tn uh ur um ub ud ug ul un lk lp lg lm ls lv p0 h0 hth) gL_logsIn_L_of rfl rfl rfl (by decide +kernel) ⟨Nat.le_of_ble_eq_true rfl, Nat.le_of_ble_eq_true rfl⟩ dL_logsIn_108 rfl rfl (Nat.le_of_ble_eq_true rfl) ⟨Nat.le_of_ble_eq_true rfl, Nat.le_of_ble_eq_true rfl⟩ ⟨rfl, rfl, rfl, rfl, by decide, rfl, rfl⟩ ?_
              refine v_iload (pc := 111) X dL_logsIn_111 6 rfl ?_
              refine v_icmp_ne (pc := 113) X 120 dL_logsIn_113 (by decide) (fun c_113 => ?_) (fun c_113 => ?_)
              · exact False.elim (c_113 rfl)
              · refine v_iconst (pc := 116) (v := 1) X dL_logsIn_116 (by decide) ?_
                refine v_goto (pc := 117) X 121 dL_logsIn_117 (by decide) ?_
                refine v_widen (k := 6) (n := 36) (by omega) (by omega) ?_
                exact v_zret (pc := 121) X hr (by rfl) dL_logsIn_121 (mkS kk kt nw dw df dr de th tr tm tb td tg tl tn uh ur um ub ud ug ul un lk lp lg lm ls lv gg wA bb) (rfl) (⟨rfl, pi_mono hI⟩)
