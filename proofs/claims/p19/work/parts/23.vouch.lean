
set_option maxHeartbeats 4000000 in
set_option maxRecDepth 100000 in
theorem c_L_vouches (l : Launch) (hfl : l.stackTraces = false) (G : va_G) (ag : Nat → Nat) (ad : Nat → Nat) (aT : Nat → Nat) (au : Nat → Nat) (al : Nat → Nat) (ax : Nat → Nat) (kk : Nat → Int32) (kt : Nat → Int32) (nw : Int32) (dw : Nat → Int32) (df : Nat → Int32) (dr : Nat → Int32) (de : Nat → Int32) (th : Nat → Int32) (tr : Nat → Int32) (tm : Nat → Int32) (tb : Nat → Int32) (td : Nat → Int32) (tg : Nat → Int32) (tl : Nat → Int32) (tn : Int32) (uh : Nat → Int32) (ur : Nat → Int32) (um : Nat → Int32) (ub : Nat → Int32) (ud : Nat → Int32) (ug : Nat → Int32) (ul : Nat → Int32) (un : Int32) (lk : Nat → Int32) (lp : Nat → Int32) (lg : Nat → Int32) (lm : Nat → Int32) (ls : Int32) (lv : Int32) (gg : Nat → Int32) (p0 : Int32) (t : Nat) (wA : Nat → Int32) (bb : Nat → Int32) (hI : PInv t kt nw dw df dr de th tm tb td tg tl tn lk lp lg lm ls lv gg wA bb) (ht : t < 100) : Ki l yL_vouches wsL_vouches { frames := 8, cells := 8, slots := 48, locals := 137 } 8 48 G (wG G ag ad aT au al kk kt nw ++ (wD G ad dw df dr de ++ (wT G aT th tr tm tb td tg tl tn ++ (wT G au uh ur um ub ud ug ul un ++ (wL G al lk lp lg lm ls lv ++ (wg G ax gg)))))) [.ref (ag 0), .ref (ax 0), .int p0] (S := Nat → Nat → Int32) (fun x q9 => x = 1 ∧ PInv (t + 1) (q9 1) (q9 2 0) (q9 3) (q9 4) (q9 5) (q9 6) (q9 7) (q9 9) (q9 10) (q9 11) (q9 12) (q9 13) (q9 14 0) (q9 23) (q9 24) (q9 25) (q9 26) (q9 27 0) (q9 28 0) (q9 29) wA bb) (fun q9 => (wG G ag ad aT au al (q9 0) (q9 1) (q9 2 0) ++ (wD G ad (q9 3) (q9 4) (q9 5) (q9 6) ++ (wT G aT (q9 7) (q9 8) (q9 9) (q9 10) (q9 11) (q9 12) (q9 13) (q9 14 0) ++ (wT G au (q9 15) (q9 16) (q9 17) (q9 18) (q9 19) (q9 20) (q9 21) (q9 22 0) ++ (wL G al (q9 23) (q9 24) (q9 25) (q9 26) (q9 27 0) (q9 28 0) ++ (wg G ax (q9 29)))))))) := by
  refine v_ofi (cc := cL_vouches) (nL := 8) (lv := [(0, .ref (ag 0)), (1, .ref (ax 0)), (2, .int p0)]) (by decide) rfl (Nat.le_of_ble_eq_true rfl) rfl ?_
  intro p e s m args below meth c A X hr
  have hg := pi_g hI
  have hl1 := pi_lv100 hI ht
  have hth : ∀ j : Nat, j < 12 → inN (th j) := tieP_th (pi_th hI)
  have hls : ¬ ls < 0 := pi_hls hI (le100 ht)
  have h5 : ls < 512 := (pi_log hI (le100 ht)).2.2
  have hlv : lv < 100 := hl1.1
  refine v_iload_n (pc := 0) X dL_vouches_0 2 rfl ?_
  refine v_bipush (pc := 1) (v := 12) X dL_vouches_1 (by decide) ?_
  refine v_e0S (pc := 3) (rest := []) (n := 2) X (c_L_low l G p0 12 (by decide)) gL_vouches_L_low rfl rfl rfl (by decide +kernel) ⟨Nat.le_of_ble_eq_true rfl, Nat.le_of_ble_eq_true rfl⟩ dL_vouches_3 rfl rfl (Nat.le_of_ble_eq_true rfl) ⟨Nat.le_of_ble_eq_true rfl, Nat.le_of_ble_eq_true rfl⟩ ?_
  obtain ⟨j3, hj3, ej3⟩ := low_is p0 (N := 12) (by decide) (by decide)
  refine v_top (b := (nI j3)) (ej3) ?_
  refine v_istore_n (pc := 6) (lv' := [(0, .ref (ag 0)), (1, .ref (ax 0)), (2, .int p0), (3, .int (nI j3))]) X dL_vouches_6 rfl (Nat.le_of_ble_eq_true rfl) [1, 2, 3, 0] rfl ?_
  refine v_iconst (pc := 7) (v := 4) X dL_vouches_7 (by decide) ?_
  refine v_iload_n (pc := 8) X dL_vouches_8 2 rfl ?_
  refine v_iconst (pc := 9) (v := 4) X dL_vouches_9 (by decide) ?_
  refine v_ishr (pc := 10) X dL_vouches_10 rfl ?_
  refine v_bipush (pc := 11) (v := 8) X dL_vouches_11 (by decide) ?_
  refine v_e0S (pc := 13) (rest := [.int 4]) (n := 2) X (c_L_low l G (p0 >>> (4 &&& 31)) 8 (by decide)) gL_vouches_L_low rfl rfl rfl (by decide +kernel) ⟨Nat.le_of_ble_eq_true rfl, Nat.le_of_ble_eq_true rfl⟩ dL_vouches_13 rfl rfl (Nat.le_of_ble_eq_true rfl) ⟨Nat.le_of_ble_eq_true rfl, Nat.le_of_ble_eq_true rfl⟩ ?_
  obtain ⟨j13, hj13, ej13⟩ := low_is (p0 >>> (4 &&& 31)) (N := 8) (by decide) (by decide)
  refine v_top (b := (nI j13)) (ej13) ?_
  refine v_iadd (pc := 16) X dL_vouches_16 rfl ?_
  refine v_top (b := (nI (4 + j13))) (nI_add 4 j13) ?_
  refine v_istore (pc := 17) (lv' := [(0, .ref (ag 0)), (1, .ref (ax 0)), (2, .int p0), (3, .int (nI j3)), (4, .int (nI (4 + j13)))]) X dL_vouches_17 (Nat.le_of_ble_eq_true rfl) [1, 2, 3, 4, 0] rfl ?_
  refine v_iconst (pc := 19) (v := 1) X dL_vouches_19 (by decide) ?_
  refine v_iload_n (pc := 20) X dL_vouches_20 2 rfl ?_
  refine v_bipush (pc := 21) (v := 7) X dL_vouches_21 (by decide) ?_
  refine v_ishr (pc := 23) X dL_vouches_23 rfl ?_
  refine v_bipush (pc := 24) (v := 63) X dL_vouches_24 (by decide) ?_
  refine v_e0S (pc := 26) (rest := [.int 1]) (n := 2) X (c_L_low l G (p0 >>> (7 &&& 31)) 63 (by decide)) gL_vouches_L_low rfl rfl rfl (by decide +kernel) ⟨Nat.le_of_ble_eq_true rfl, Nat.le_of_ble_eq_true rfl⟩ dL_vouches_26 rfl rfl (Nat.le_of_ble_eq_true rfl) ⟨Nat.le_of_ble_eq_true rfl, Nat.le_of_ble_eq_true rfl⟩ ?_
  obtain ⟨j26, hj26, ej26⟩ := low_is (p0 >>> (7 &&& 31)) (N := 63) (by decide) (by decide)
  refine v_top (b := (nI j26)) (ej26) ?_
  refine v_iadd (pc := 29) X dL_vouches_29 rfl ?_
  refine v_top (b := (nI (1 + j26))) (nI_add 1 j26) ?_
  refine v_istore (pc := 30) (lv' := [(0, .ref (ag 0)), (1, .ref (ax 0)), (2, .int p0), (3, .int (nI j3)), (4, .int (nI (4 + j13))), (5, .int (nI (1 + j26)))]) X dL_vouches_30 (Nat.le_of_ble_eq_true rfl) [1, 2, 3, 4, 5, 0] rfl ?_
  have hp : vp_in (nI j3) 12 := vp_in_nI hj3 (by decide)
  have hg9 : vp_in (nI (4 + j13)) 12 := gu_in hj13
  have hgg : ¬ f_X3_isGuest_r (nI (4 + j13)) = 0 := gu_g hj13
  have hr1 : ¬ (nI (1 + j26)) < 1 := one_lt (by omega)
  have hr2 : (nI (1 + j26)) ≤ 63 := one_le (n := 63) hj26 (by decide)
  refine v_aload_n (pc := 32) X dL_vouches_32 0 rfl ?_
  refine v_iload_n (pc := 33) X dL_vouches_33 3 rfl ?_
  refine v_iconst (pc := 34) (v := 0) X dL_vouches_34 (by decide) ?_
  refine v_eHS (pc := 35) (rest := []) (n := 3) (wr := (wg G ax gg)) (wn := (wG G ag ad aT au al kk kt nw ++ (wD G ad dw df dr de ++ (wT G aT th tr tm tb td tg tl tn ++ (wT G au uh ur um ub ud ug ul un ++ (wL G al lk lp lg lm ls lv ++ (wg G ax gg))))))) (isC := [0, 1, 2, 3, 4, 5, 6, 7, 8, 9, 10, 11, 12, 13, 14, 15, 16, 17, 18, 19, 20, 21, 22, 23, 24, 25, 26, 27, 28]) (isR := [29]) (isP := [1, 2, 3, 4, 5, 6, 7, 8, 9, 10, 11, 12, 13, 14, 15, 16, 17, 18, 19, 20, 21, 22, 23, 24, 25, 26, 27, 28, 29, 0]) X (c_L_of0 l hfl G ag ad aT au al kk kt nw dw df dr de th tr tm tb td tg tl tn uh ur um ub ud ug ul un lk lp lg lm ls lv (nI j3) hp hth) gL_vouches_L_of rfl rfl rfl (by decide +kernel) ⟨Nat.le_of_ble_eq_true rfl, Nat.le_of_ble_eq_true rfl⟩ dL_vouches_35 rfl rfl (Nat.le_of_ble_eq_true rfl) ⟨Nat.le_of_ble_eq_true rfl, Nat.le_of_ble_eq_true rfl⟩ ⟨rfl, rfl, rfl, rfl, by decide, rfl, rfl⟩ ?_
  refine v_iconst (pc := 38) (v := 1) X dL_vouches_38 (by decide) ?_
  have hJ39 : V p l e (headSpec wsL_vouches { frames := 8, cells := 8, slots := 48, locals := 137 }).room s m args below meth c 8 G A 3 18 (QI below args s G A 8 48 (S := Nat → Nat → Int32) (fun x q9 => x = 1 ∧ PInv (t + 1) (q9 1) (q9 2 0) (q9 3) (q9 4) (q9 5) (q9 6) (q9 7) (q9 9) (q9 10) (q9 11) (q9 12) (q9 13) (q9 14 0) (q9 23) (q9 24) (q9 25) (q9 26) (q9 27 0) (q9 28 0) (q9 29) wA bb) (fun q9 => (wG G ag ad aT au al (q9 0) (q9 1) (q9 2 0) ++ (wD G ad (q9 3) (q9 4) (q9 5) (q9 6) ++ (wT G aT (q9 7) (q9 8) (q9 9) (q9 10) (q9 11) (q9 12) (q9 13) (q9 14 0) ++ (wT G au (q9 15) (q9 16) (q9 17) (q9 18) (q9 19) (q9 20) (q9 21) (q9 22 0) ++ (wL G al (q9 23) (q9 24) (q9 25) (q9 26) (q9 27 0) (q9 28 0) ++ (wg G ax (q9 29))))))))) (wG G ag ad aT au al kk kt nw ++ (wD G ad dw df dr de ++ (wT G aT th tr tm tb td tg tl tn ++ (wT G au uh ur um ub ud ug ul un ++ (wL G al lk lp lg lm ls lv ++ (wg G ax gg)))))) [(0, .ref (ag 0)), (1, .ref (ax 0)), (2, .int p0), (3, .int (nI j3)), (4, .int (nI (4 + j13))), (5, .int (nI (1 + j26)))] 74 [.int (if (f_X0_isInSession_r de (nI j3) nw) = 1 then (if (f_X2_isTrusted_r th (nI j3)) = 1 then (if (f_X2_isTainted_r th td tl (nI j3)) = 0 then 1 else 0) else 0) else 0)] := by
    refine v_top (b := (f_X3_mayAct_r nw de th td tl (nI j3))) (may_e nw de th td tl _) ?_
    refine v_istore (pc := 74) (lv' := [(0, .ref (ag 0)), (1, .ref (ax 0)), (2, .int p0), (3, .int (nI j3)), (4, .int (nI (4 + j13))), (5, .int (nI (1 + j26))), (6, .int (f_X3_mayAct_r nw de th td tl (nI j3)))]) X dL_vouches_74 (Nat.le_of_ble_eq_true rfl) [1, 2, 3, 4, 5, 6, 0] rfl ?_
    rcases Classical.em ((nI j3) = (nI (4 + j13))) with s76 | s76
    · refine v_aload_n (pc := 76) X dL_vouches_76 0 rfl ?_
      refine v_iload_n (pc := 77) X dL_vouches_77 3 rfl ?_
      refine v_iload (pc := 78) X dL_vouches_78 4 rfl ?_
      refine v_iload (pc := 80) X dL_vouches_80 5 rfl ?_
      refine v_eHS (pc := 82) (rest := []) (n := 4) (wr := (wg G ax gg)) (wn := (wG G ag ad aT au al kk kt nw ++ (wD G ad dw df dr de ++ (wT G aT th tr tm tb td tg tl tn ++ (wT G au uh ur um ub ud ug ul un ++ (wL G al lk lp lg lm ls lv ++ (wg G ax gg))))))) (isC := [0, 1, 2, 3, 4, 5, 6, 7, 8, 9, 10, 11, 12, 13, 14, 15, 16, 17, 18, 19, 20, 21, 22, 23, 24, 25, 26, 27, 28]) (isR := [29]) (isP := [1, 2, 3, 4, 5, 6, 7, 8, 9, 10, 11, 12, 13, 14, 15, 16, 17, 18, 19, 20, 21, 22, 23, 24, 25, 26, 27, 28, 29, 0]) X (c_vouchS l hfl G ag ad aT au al kk kt nw dw df dr de th tr tm tb td tg tl tn uh ur um ub ud ug ul un lk lp lg lm ls lv (nI j3) (nI (4 + j13)) (nI (1 + j26)) hp hgg s76 hth hls) gL_vouches_L_vouch rfl rfl rfl (by decide +kernel) ⟨Nat.le_of_ble_eq_true rfl, Nat.le_of_ble_eq_true rfl⟩ dL_vouches_82 rfl rfl (Nat.le_of_ble_eq_true rfl) ⟨Nat.le_of_ble_eq_true rfl, Nat.le_of_ble_eq_true rfl⟩ ⟨rfl, rfl, rfl, rfl, by decide, rfl, rfl⟩ ?_
      refine v_istore (pc := 85) (lv' := [(0, .ref (ag 0)), (1, .ref (ax 0)), (2, .int p0), (3, .int (nI j3)), (4, .int (nI (4 + j13))), (5, .int (nI (1 + j26))), (6, .int (f_X3_mayAct_r nw de th td tl (nI j3))), (7, .int (-1000002))]) X dL_vouches_85 (Nat.le_of_ble_eq_true rfl) [1, 2, 3, 4, 5, 6, 7, 0] rfl ?_
      refine v_iload_n (pc := 87) X dL_vouches_87 3 rfl ?_
      refine v_iload (pc := 88) X dL_vouches_88 4 rfl ?_
      refine v_icmp_eq (pc := 90) X 98 dL_vouches_90 (by decide) (fun c_90 => ?_) (fun c_90 => ?_)
      · refine v_iload (pc := 98) X dL_vouches_98 7 rfl ?_
        refine v_iload_n (pc := 100) X dL_vouches_100 3 rfl ?_
        refine v_iload (pc := 101) X dL_vouches_101 4 rfl ?_
        refine v_icmp_ne (pc := 103) X 111 dL_vouches_103 (by decide) (fun c_103 => ?_) (fun c_103 => ?_)
        · exact False.elim (c_103 s76)
        · refine v_ldc (pc := 106) (v := (-1000002)) (i := 1) X dL_vouches_106 rfl ?_
          refine v_goto (pc := 108) X 113 dL_vouches_108 (by decide) ?_
          refine v_icmp_ne (pc := 113) X 120 dL_vouches_113 (by decide) (fun c_113 => ?_) (fun c_113 => ?_)
          · exact absurd c_113 (by decide)
          · refine v_iconst (pc := 116) (v := 1) X dL_vouches_116 (by decide) ?_
            refine v_goto (pc := 117) X 121 dL_vouches_117 (by decide) ?_
            refine v_widen (k := 8) (n := 48) (by omega) (by omega) ?_
            exact v_zret (pc := 121) X hr (by rfl) dL_vouches_121 (mkS kk kt nw dw df dr de th tr tm tb td tg tl tn uh ur um ub ud ug ul un lk lp lg lm ls lv gg wA bb) (rfl) (⟨rfl, pi_mono hI⟩)
      · exact False.elim (c_90 s76)
    · refine v_aload_n (pc := 76) X dL_vouches_76 0 rfl ?_
      rcases Classical.em (f_X3_mayAct_r nw de th td tl (nI j3) = 0) with s77 | s77
      · refine v_iload_n (pc := 77) X dL_vouches_77 3 rfl ?_
        refine v_iload (pc := 78) X dL_vouches_78 4 rfl ?_
        refine v_iload (pc := 80) X dL_vouches_80 5 rfl ?_
        refine v_eHS (pc := 82) (rest := []) (n := 4) (wr := (wg G ax gg)) (wn := (wG G ag ad aT au al kk kt nw ++ (wD G ad dw df dr de ++ (wT G aT th tr tm tb td tg tl tn ++ (wT G au uh ur um ub ud ug ul un ++ (wL G al lk lp lg lm ls lv ++ (wg G ax gg))))))) (isC := [0, 1, 2, 3, 4, 5, 6, 7, 8, 9, 10, 11, 12, 13, 14, 15, 16, 17, 18, 19, 20, 21, 22, 23, 24, 25, 26, 27, 28]) (isR := [29]) (isP := [1, 2, 3, 4, 5, 6, 7, 8, 9, 10, 11, 12, 13, 14, 15, 16, 17, 18, 19, 20, 21, 22, 23, 24, 25, 26, 27, 28, 29, 0]) X (c_vouchN l hfl G ag ad aT au al kk kt nw dw df dr de th tr tm tb td tg tl tn uh ur um ub ud ug ul un lk lp lg lm ls lv (nI j3) (nI (4 + j13)) (nI (1 + j26)) hp hgg s76 hr1 hr2 s77 hth hls) gL_vouches_L_vouch rfl rfl rfl (by decide +kernel) ⟨Nat.le_of_ble_eq_true rfl, Nat.le_of_ble_eq_true rfl⟩ dL_vouches_82 rfl rfl (Nat.le_of_ble_eq_true rfl) ⟨Nat.le_of_ble_eq_true rfl, Nat.le_of_ble_eq_true rfl⟩ ⟨rfl, rfl, rfl, rfl, by decide, rfl, rfl⟩ ?_
        refine v_istore (pc := 85) (lv' := [(0, .ref (ag 0)), (1, .ref (ax 0)), (2, .int p0), (3, .int (nI j3)), (4, .int (nI (4 + j13))), (5, .int (nI (1 + j26))), (6, .int (f_X3_mayAct_r nw de th td tl (nI j3))), (7, .int (-1000003))]) X dL_vouches_85 (Nat.le_of_ble_eq_true rfl) [1, 2, 3, 4, 5, 6, 7, 0] rfl ?_
        refine v_iload_n (pc := 87) X dL_vouches_87 3 rfl ?_
        refine v_iload (pc := 88) X dL_vouches_88 4 rfl ?_
        refine v_icmp_eq (pc := 90) X 98 dL_vouches_90 (by decide) (fun c_90 => ?_) (fun c_90 => ?_)
        · exact False.elim (s76 c_90)
        · refine v_iload (pc := 93) X dL_vouches_93 6 rfl ?_
          refine v_if_ne (pc := 95) X 122 dL_vouches_95 (by decide) (fun c_95 => ?_) (fun c_95 => ?_)
          · exact False.elim (c_95 s77)
          · refine v_iload (pc := 98) X dL_vouches_98 7 rfl ?_
            refine v_iload_n (pc := 100) X dL_vouches_100 3 rfl ?_
            refine v_iload (pc := 101) X dL_vouches_101 4 rfl ?_
            refine v_icmp_ne (pc := 103) X 111 dL_vouches_103 (by decide) (fun c_103 => ?_) (fun c_103 => ?_)
            · refine v_ldc (pc := 111) (v := (-1000003)) (i := 2) X dL_vouches_111 rfl ?_
              refine v_icmp_ne (pc := 113) X 120 dL_vouches_113 (by decide) (fun c_113 => ?_) (fun c_113 => ?_)
              · exact absurd c_113 (by decide)
              · refine v_iconst (pc := 116) (v := 1) X dL_vouches_116 (by decide) ?_
                refine v_goto (pc := 117) X 121 dL_vouches_117 (by decide) ?_
                refine v_widen (k := 8) (n := 48) (by omega) (by omega) ?_
                exact v_zret (pc := 121) X hr (by rfl) dL_vouches_121 (mkS kk kt nw dw df dr de th tr tm tb td tg tl tn uh ur um ub ud ug ul un lk lp lg lm ls lv gg wA bb) (rfl) (⟨rfl, pi_mono hI⟩)
            · exact False.elim (s76 c_103)
      · refine v_iload_n (pc := 77) X dL_vouches_77 3 rfl ?_
        refine v_iload (pc := 78) X dL_vouches_78 4 rfl ?_
        refine v_iload (pc := 80) X dL_vouches_80 5 rfl ?_
        refine v_eHS (pc := 82) (rest := []) (n := 4) (wr := (wg G ax gg)) (wn := (wG G ag ad aT au al kk kt nw ++ (wD G ad dw df dr de ++ (wT G aT (upd th ((nI (4 + j13))).toNatClampNeg (nI j3)) (upd tr ((nI (4 + j13))).toNatClampNeg (nI (1 + j26))) (upd tm ((nI (4 + j13))).toNatClampNeg nw) (upd tb ((nI (4 + j13))).toNatClampNeg (tg ((nI j3)).toNatClampNeg)) (upd td ((nI (4 + j13))).toNatClampNeg 0) tg tl tn ++ (wT G au uh ur um ub ud ug ul un ++ (wL G al (upd lk (ls).toNatClampNeg 0) (upd lp (ls).toNatClampNeg (nI j3)) (upd lg (ls).toNatClampNeg (nI (4 + j13))) (upd lm (ls).toNatClampNeg nw) (ls + 1) (lv + 1) ++ (wg G ax gg))))))) (isC := [0, 1, 2, 3, 4, 5, 6, 7, 8, 9, 10, 11, 12, 13, 14, 15, 16, 17, 18, 19, 20, 21, 22, 23, 24, 25, 26, 27, 28]) (isR := [29]) (isP := [1, 2, 3, 4, 5, 6, 7, 8, 9, 10, 11, 12, 13, 14, 15, 16, 17, 18, 19, 20, 21, 22, 23, 24, 25, 26, 27, 28, 29, 0]) X (c_vouchY l hfl G ag ad aT au al kk kt nw dw df dr de th tr tm tb td tg tl tn uh ur um ub ud ug ul un lk lp lg lm ls lv (nI j3) (nI (4 + j13)) (nI (1 + j26)) hp hgg s76 hr1 hr2 s77 hlv h5 hth hls) gL_vouches_L_vouch rfl rfl rfl (by decide +kernel) ⟨Nat.le_of_ble_eq_true rfl, Nat.le_of_ble_eq_true rfl⟩ dL_vouches_82 rfl rfl (Nat.le_of_ble_eq_true rfl) ⟨Nat.le_of_ble_eq_true rfl, Nat.le_of_ble_eq_true rfl⟩ ⟨rfl, rfl, rfl, rfl, by decide, rfl, rfl⟩ ?_
        refine v_istore (pc := 85) (lv' := [(0, .ref (ag 0)), (1, .ref (ax 0)), (2, .int p0), (3, .int (nI j3)), (4, .int (nI (4 + j13))), (5, .int (nI (1 + j26))), (6, .int (f_X3_mayAct_r nw de th td tl (nI j3))), (7, .int (lv + 1))]) X dL_vouches_85 (Nat.le_of_ble_eq_true rfl) [1, 2, 3, 4, 5, 6, 7, 0] rfl ?_
        refine v_iload_n (pc := 87) X dL_vouches_87 3 rfl ?_
        refine v_iload (pc := 88) X dL_vouches_88 4 rfl ?_
        refine v_icmp_eq (pc := 90) X 98 dL_vouches_90 (by decide) (fun c_90 => ?_) (fun c_90 => ?_)
        · exact False.elim (s76 c_90)
        · refine v_iload (pc := 93) X dL_vouches_93 6 rfl ?_
          refine v_if_ne (pc := 95) X 122 dL_vouches_95 (by decide) (fun c_95 => ?_) (fun c_95 => ?_)
          · have hI2 := pi_vouch hI ht hp hg9 (gu_4 hj13) s76
            have hth2 : ∀ j : Nat, j < 12 → inN ((upd th ((nI (4 + j13))).toNatClampNeg (nI j3)) j) := tieP_th (pi_th hI2)
            refine v_aload_n (pc := 122) X dL_vouches_122 1 rfl ?_
            refine v_iconst (pc := 123) (v := 1) X dL_vouches_123 (by decide) ?_
            refine v_dup2 (pc := 124) X dL_vouches_124 rfl rfl ?_
            refine v_iald (pc := 125) X dL_vouches_125 29 rfl (by unfold vp_in; decide) rfl ?_
            refine v_top (b := lv) (hg.2.1) ?_
            refine v_iconst (pc := 126) (v := 1) X dL_vouches_126 (by decide) ?_
            refine v_iadd (pc := 127) X dL_vouches_127 rfl ?_
            refine v_iast (pc := 128) (ws' := (wG G ag ad aT au al kk kt nw ++ (wD G ad dw df dr de ++ (wT G aT (upd th ((nI (4 + j13))).toNatClampNeg (nI j3)) (upd tr ((nI (4 + j13))).toNatClampNeg (nI (1 + j26))) (upd tm ((nI (4 + j13))).toNatClampNeg nw) (upd tb ((nI (4 + j13))).toNatClampNeg (tg ((nI j3)).toNatClampNeg)) (upd td ((nI (4 + j13))).toNatClampNeg 0) tg tl tn ++ (wT G au uh ur um ub ud ug ul un ++ (wL G al (upd lk (ls).toNatClampNeg 0) (upd lp (ls).toNatClampNeg (nI j3)) (upd lg (ls).toNatClampNeg (nI (4 + j13))) (upd lm (ls).toNatClampNeg nw) (ls + 1) (lv + 1) ++ (wg G ax (upd gg (1 : Int32).toNatClampNeg (lv + 1))))))))) X dL_vouches_128 29 rfl (by unfold vp_in; decide) rfl ?_
            refine v_iload (pc := 129) X dL_vouches_129 7 rfl ?_
            refine v_aload_n (pc := 131) X dL_vouches_131 1 rfl ?_
            refine v_iconst (pc := 132) (v := 1) X dL_vouches_132 (by decide) ?_
            refine v_iald (pc := 133) X dL_vouches_133 29 rfl (by unfold vp_in; decide) rfl ?_
            refine v_top (b := (lv + 1)) (upd_at _ _ _) ?_
            refine v_icmp_ne (pc := 134) X 194 dL_vouches_134 (by decide) (fun c_134 => ?_) (fun c_134 => ?_)
            · exact False.elim (c_134 rfl)
            · refine v_aload_n (pc := 137) X dL_vouches_137 0 rfl ?_
              refine v_iload (pc := 138) X dL_vouches_138 4 rfl ?_
              refine v_iconst (pc := 140) (v := 4) X dL_vouches_140 (by decide) ?_
              refine v_eHS (pc := 141) (rest := []) (n := 3) (wr := (wg G ax (upd gg (1 : Int32).toNatClampNeg (lv + 1)))) (wn := (wG G ag ad aT au al kk kt nw ++ (wD G ad dw df dr de ++ (wT G aT (upd th ((nI (4 + j13))).toNatClampNeg (nI j3)) (upd tr ((nI (4 + j13))).toNatClampNeg (nI (1 + j26))) (upd tm ((nI (4 + j13))).toNatClampNeg nw) (upd tb ((nI (4 + j13))).toNatClampNeg (tg ((nI j3)).toNatClampNeg)) (upd td ((nI (4 + j13))).toNatClampNeg 0) tg tl tn ++ (wT G au uh ur um ub ud ug ul un ++ (wL G al (upd lk (ls).toNatClampNeg 0) (upd lp (ls).toNatClampNeg (nI j3)) (upd lg (ls).toNatClampNeg (nI (4 + j13))) (upd lm (ls).toNatClampNeg nw) (ls + 1) (lv + 1) ++ (wg G ax (upd gg (1 : Int32).toNatClampNeg (lv + 1))))))))) (isC := [0, 1, 2, 3, 4, 5, 6, 7, 8, 9, 10, 11, 12, 13, 14, 15, 16, 17, 18, 19, 20, 21, 22, 23, 24, 25, 26, 27, 28]) (isR := [29]) (isP := [1, 2, 3, 4, 5, 6, 7, 8, 9, 10, 11, 12, 13, 14, 15, 16, 17, 18, 19, 20, 21, 22, 23, 24, 25, 26, 27, 28, 29, 0]) X (c_L_of4 l hfl G ag ad aT au al kk kt nw dw df dr de (upd th ((nI (4 + j13))).toNatClampNeg (nI j3)) (upd tr ((nI (4 + j13))).toNatClampNeg (nI (1 + j26))) (upd tm ((nI (4 + j13))).toNatClampNeg nw) (upd tb ((nI (4 + j13))).toNatClampNeg (tg ((nI j3)).toNatClampNeg)) (upd td ((nI (4 + j13))).toNatClampNeg 0) tg tl tn uh ur um ub ud ug ul un (upd lk (ls).toNatClampNeg 0) (upd lp (ls).toNatClampNeg (nI j3)) (upd lg (ls).toNatClampNeg (nI (4 + j13))) (upd lm (ls).toNatClampNeg nw) (ls + 1) (lv + 1) (nI (4 + j13)) hg9 hth2) gL_vouches_L_of rfl rfl rfl (by decide +kernel) ⟨Nat.le_of_ble_eq_true rfl, Nat.le_of_ble_eq_true rfl⟩ dL_vouches_141 rfl rfl (Nat.le_of_ble_eq_true rfl) ⟨Nat.le_of_ble_eq_true rfl, Nat.le_of_ble_eq_true rfl⟩ ⟨rfl, rfl, rfl, rfl, by decide, rfl, rfl⟩ ?_
              refine v_top (b := (nI j3)) (upd_at _ _ _) ?_
              refine v_iload_n (pc := 144) X dL_vouches_144 3 rfl ?_
              refine v_icmp_ne (pc := 145) X 194 dL_vouches_145 (by decide) (fun c_145 => ?_) (fun c_145 => ?_)
              · exact False.elim (c_145 rfl)
              · refine v_aload_n (pc := 148) X dL_vouches_148 0 rfl ?_
                refine v_iload (pc := 149) X dL_vouches_149 4 rfl ?_
                refine v_iconst (pc := 151) (v := 1) X dL_vouches_151 (by decide) ?_
                refine v_eHS (pc := 152) (rest := []) (n := 3) (wr := (wg G ax (upd gg (1 : Int32).toNatClampNeg (lv + 1)))) (wn := (wG G ag ad aT au al kk kt nw ++ (wD G ad dw df dr de ++ (wT G aT (upd th ((nI (4 + j13))).toNatClampNeg (nI j3)) (upd tr ((nI (4 + j13))).toNatClampNeg (nI (1 + j26))) (upd tm ((nI (4 + j13))).toNatClampNeg nw) (upd tb ((nI (4 + j13))).toNatClampNeg (tg ((nI j3)).toNatClampNeg)) (upd td ((nI (4 + j13))).toNatClampNeg 0) tg tl tn ++ (wT G au uh ur um ub ud ug ul un ++ (wL G al (upd lk (ls).toNatClampNeg 0) (upd lp (ls).toNatClampNeg (nI j3)) (upd lg (ls).toNatClampNeg (nI (4 + j13))) (upd lm (ls).toNatClampNeg nw) (ls + 1) (lv + 1) ++ (wg G ax (upd gg (1 : Int32).toNatClampNeg (lv + 1))))))))) (isC := [0, 1, 2, 3, 4, 5, 6, 7, 8, 9, 10, 11, 12, 13, 14, 15, 16, 17, 18, 19, 20, 21, 22, 23, 24, 25, 26, 27, 28]) (isR := [29]) (isP := [1, 2, 3, 4, 5, 6, 7, 8, 9, 10, 11, 12, 13, 14, 15, 16, 17, 18, 19, 20, 21, 22, 23, 24, 25, 26, 27, 28, 29, 0]) X (c_L_of1 l hfl G ag ad aT au al kk kt nw dw df dr de (upd th ((nI (4 + j13))).toNatClampNeg (nI j3)) (upd tr ((nI (4 + j13))).toNatClampNeg (nI (1 + j26))) (upd tm ((nI (4 + j13))).toNatClampNeg nw) (upd tb ((nI (4 + j13))).toNatClampNeg (tg ((nI j3)).toNatClampNeg)) (upd td ((nI (4 + j13))).toNatClampNeg 0) tg tl tn uh ur um ub ud ug ul un (upd lk (ls).toNatClampNeg 0) (upd lp (ls).toNatClampNeg (nI j3)) (upd lg (ls).toNatClampNeg (nI (4 + j13))) (upd lm (ls).toNatClampNeg nw) (ls + 1) (lv + 1) (nI (4 + j13)) hg9 hth2) gL_vouches_L_of rfl rfl rfl (by decide +kernel) ⟨Nat.le_of_ble_eq_true rfl, Nat.le_of_ble_eq_true rfl⟩ dL_vouches_152 rfl rfl (Nat.le_of_ble_eq_true rfl) ⟨Nat.le_of_ble_eq_true rfl, Nat.le_of_ble_eq_true rfl⟩ ⟨rfl, rfl, rfl, rfl, by decide, rfl, rfl⟩ ?_
                refine v_iconst (pc := 155) (v := 1) X dL_vouches_155 (by decide) ?_
                refine v_icmp_ne (pc := 156) X 181 dL_vouches_156 (by decide) (fun c_156 => ?_) (fun c_156 => ?_)
                · refine v_aload_n (pc := 181) X dL_vouches_181 0 rfl ?_
                  refine v_iload_n (pc := 182) X dL_vouches_182 3 rfl ?_
                  refine v_eHS (pc := 183) (rest := []) (n := 2) (wr := (wg G ax (upd gg (1 : Int32).toNatClampNeg (lv + 1)))) (wn := (wG G ag ad aT au al kk kt nw ++ (wD G ad dw df dr de ++ (wT G aT (upd th ((nI (4 + j13))).toNatClampNeg (nI j3)) (upd tr ((nI (4 + j13))).toNatClampNeg (nI (1 + j26))) (upd tm ((nI (4 + j13))).toNatClampNeg nw) (upd tb ((nI (4 + j13))).toNatClampNeg (tg ((nI j3)).toNatClampNeg)) (upd td ((nI (4 + j13))).toNatClampNeg 0) tg tl tn ++ (wT G au uh ur um ub ud ug ul un ++ (wL G al (upd lk (ls).toNatClampNeg 0) (upd lp (ls).toNatClampNeg (nI j3)) (upd lg (ls).toNatClampNeg (nI (4 + j13))) (upd lm (ls).toNatClampNeg nw) (ls + 1) (lv + 1) ++ (wg G ax (upd gg (1 : Int32).toNatClampNeg (lv + 1))))))))) (isC := [0, 1, 2, 3, 4, 5, 6, 7, 8, 9, 10, 11, 12, 13, 14, 15, 16, 17, 18, 19, 20, 21, 22, 23, 24, 25, 26, 27, 28]) (isR := [29]) (isP := [1, 2, 3, 4, 5, 6, 7, 8, 9, 10, 11, 12, 13, 14, 15, 16, 17, 18, 19, 20, 21, 22, 23, 24, 25, 26, 27, 28, 29, 0]) X (c_L_chainq l hfl G ag ad aT au al kk kt nw dw df dr de (upd th ((nI (4 + j13))).toNatClampNeg (nI j3)) (upd tr ((nI (4 + j13))).toNatClampNeg (nI (1 + j26))) (upd tm ((nI (4 + j13))).toNatClampNeg nw) (upd tb ((nI (4 + j13))).toNatClampNeg (tg ((nI j3)).toNatClampNeg)) (upd td ((nI (4 + j13))).toNatClampNeg 0) tg tl tn uh ur um ub ud ug ul un (upd lk (ls).toNatClampNeg 0) (upd lp (ls).toNatClampNeg (nI j3)) (upd lg (ls).toNatClampNeg (nI (4 + j13))) (upd lm (ls).toNatClampNeg nw) (ls + 1) (lv + 1) (nI j3) hp hth2) gL_vouches_L_chain rfl rfl rfl (by decide +kernel) ⟨Nat.le_of_ble_eq_true rfl, Nat.le_of_ble_eq_true rfl⟩ dL_vouches_183 rfl rfl (Nat.le_of_ble_eq_true rfl) ⟨Nat.le_of_ble_eq_true rfl, Nat.le_of_ble_eq_true rfl⟩ ⟨rfl, rfl, rfl, rfl, by decide, rfl, rfl⟩ ?_
                  refine v_iconst (pc := 186) (v := (-1)) X dL_vouches_186 (by decide) ?_
                  refine v_icmp_ne (pc := 187) X 194 dL_vouches_187 (by decide) (fun c_187 => ?_) (fun c_187 => ?_)
                  · exact False.elim (c_187 (trust_v hth2 hp hg9 (gu_4 hj13) c_156))
                  · refine v_iconst (pc := 190) (v := 1) X dL_vouches_190 (by decide) ?_
                    refine v_goto (pc := 191) X 195 dL_vouches_191 (by decide) ?_
                    refine v_widen (k := 8) (n := 48) (by omega) (by omega) ?_
                    exact v_zret (pc := 195) X hr (by rfl) dL_vouches_195 (mkS kk kt nw dw df dr de (upd th ((nI (4 + j13))).toNatClampNeg (nI j3)) (upd tr ((nI (4 + j13))).toNatClampNeg (nI (1 + j26))) (upd tm ((nI (4 + j13))).toNatClampNeg nw) (upd tb ((nI (4 + j13))).toNatClampNeg (tg ((nI j3)).toNatClampNeg)) (upd td ((nI (4 + j13))).toNatClampNeg 0) tg tl tn uh ur um ub ud ug ul un (upd lk (ls).toNatClampNeg 0) (upd lp (ls).toNatClampNeg (nI j3)) (upd lg (ls).toNatClampNeg (nI (4 + j13))) (upd lm (ls).toNatClampNeg nw) (ls + 1) (lv + 1) (upd gg (1 : Int32).toNatClampNeg (lv + 1)) wA bb) (rfl) (⟨rfl, hI2⟩)
                · refine v_aload_n (pc := 159) X dL_vouches_159 0 rfl ?_
                  refine v_iload (pc := 160) X dL_vouches_160 4 rfl ?_
                  refine v_iconst (pc := 162) (v := 3) X dL_vouches_162 (by decide) ?_
                  refine v_eHS (pc := 163) (rest := []) (n := 3) (wr := (wg G ax (upd gg (1 : Int32).toNatClampNeg (lv + 1)))) (wn := (wG G ag ad aT au al kk kt nw ++ (wD G ad dw df dr de ++ (wT G aT (upd th ((nI (4 + j13))).toNatClampNeg (nI j3)) (upd tr ((nI (4 + j13))).toNatClampNeg (nI (1 + j26))) (upd tm ((nI (4 + j13))).toNatClampNeg nw) (upd tb ((nI (4 + j13))).toNatClampNeg (tg ((nI j3)).toNatClampNeg)) (upd td ((nI (4 + j13))).toNatClampNeg 0) tg tl tn ++ (wT G au uh ur um ub ud ug ul un ++ (wL G al (upd lk (ls).toNatClampNeg 0) (upd lp (ls).toNatClampNeg (nI j3)) (upd lg (ls).toNatClampNeg (nI (4 + j13))) (upd lm (ls).toNatClampNeg nw) (ls + 1) (lv + 1) ++ (wg G ax (upd gg (1 : Int32).toNatClampNeg (lv + 1))))))))) (isC := [0, 1, 2, 3, 4, 5, 6, 7, 8, 9, 10, 11, 12, 13, 14, 15, 16, 17, 18, 19, 20, 21, 22, 23, 24, 25, 26, 27, 28]) (isR := [29]) (isP := [1, 2, 3, 4, 5, 6, 7, 8, 9, 10, 11, 12, 13, 14, 15, 16, 17, 18, 19, 20, 21, 22, 23, 24, 25, 26, 27, 28, 29, 0]) X (c_L_of3 l hfl G ag ad aT au al kk kt nw dw df dr de (upd th ((nI (4 + j13))).toNatClampNeg (nI j3)) (upd tr ((nI (4 + j13))).toNatClampNeg (nI (1 + j26))) (upd tm ((nI (4 + j13))).toNatClampNeg nw) (upd tb ((nI (4 + j13))).toNatClampNeg (tg ((nI j3)).toNatClampNeg)) (upd td ((nI (4 + j13))).toNatClampNeg 0) tg tl tn uh ur um ub ud ug ul un (upd lk (ls).toNatClampNeg 0) (upd lp (ls).toNatClampNeg (nI j3)) (upd lg (ls).toNatClampNeg (nI (4 + j13))) (upd lm (ls).toNatClampNeg nw) (ls + 1) (lv + 1) (nI (4 + j13)) hg9 hth2) gL_vouches_L_of rfl rfl rfl (by decide +kernel) ⟨Nat.le_of_ble_eq_true rfl, Nat.le_of_ble_eq_true rfl⟩ dL_vouches_163 rfl rfl (Nat.le_of_ble_eq_true rfl) ⟨Nat.le_of_ble_eq_true rfl, Nat.le_of_ble_eq_true rfl⟩ ⟨rfl, rfl, rfl, rfl, by decide, rfl, rfl⟩ ?_
                  refine v_iload (pc := 166) X dL_vouches_166 5 rfl ?_
                  refine v_aload_n (pc := 168) X dL_vouches_168 0 rfl ?_
                  refine v_iload_n (pc := 169) X dL_vouches_169 3 rfl ?_
                  refine v_iconst (pc := 170) (v := 3) X dL_vouches_170 (by decide) ?_
                  refine v_eHS (pc := 171) (rest := [.int (nI (1 + j26)), .int (f_X2_roomsOf_r (upd th ((nI (4 + j13))).toNatClampNeg (nI j3)) (upd tr ((nI (4 + j13))).toNatClampNeg (nI (1 + j26))) (nI (4 + j13)))]) (n := 3) (wr := (wg G ax (upd gg (1 : Int32).toNatClampNeg (lv + 1)))) (wn := (wG G ag ad aT au al kk kt nw ++ (wD G ad dw df dr de ++ (wT G aT (upd th ((nI (4 + j13))).toNatClampNeg (nI j3)) (upd tr ((nI (4 + j13))).toNatClampNeg (nI (1 + j26))) (upd tm ((nI (4 + j13))).toNatClampNeg nw) (upd tb ((nI (4 + j13))).toNatClampNeg (tg ((nI j3)).toNatClampNeg)) (upd td ((nI (4 + j13))).toNatClampNeg 0) tg tl tn ++ (wT G au uh ur um ub ud ug ul un ++ (wL G al (upd lk (ls).toNatClampNeg 0) (upd lp (ls).toNatClampNeg (nI j3)) (upd lg (ls).toNatClampNeg (nI (4 + j13))) (upd lm (ls).toNatClampNeg nw) (ls + 1) (lv + 1) ++ (wg G ax (upd gg (1 : Int32).toNatClampNeg (lv + 1))))))))) (isC := [0, 1, 2, 3, 4, 5, 6, 7, 8, 9, 10, 11, 12, 13, 14, 15, 16, 17, 18, 19, 20, 21, 22, 23, 24, 25, 26, 27, 28]) (isR := [29]) (isP := [1, 2, 3, 4, 5, 6, 7, 8, 9, 10, 11, 12, 13, 14, 15, 16, 17, 18, 19, 20, 21, 22, 23, 24, 25, 26, 27, 28, 29, 0]) X (c_L_of3 l hfl G ag ad aT au al kk kt nw dw df dr de (upd th ((nI (4 + j13))).toNatClampNeg (nI j3)) (upd tr ((nI (4 + j13))).toNatClampNeg (nI (1 + j26))) (upd tm ((nI (4 + j13))).toNatClampNeg nw) (upd tb ((nI (4 + j13))).toNatClampNeg (tg ((nI j3)).toNatClampNeg)) (upd td ((nI (4 + j13))).toNatClampNeg 0) tg tl tn uh ur um ub ud ug ul un (upd lk (ls).toNatClampNeg 0) (upd lp (ls).toNatClampNeg (nI j3)) (upd lg (ls).toNatClampNeg (nI (4 + j13))) (upd lm (ls).toNatClampNeg nw) (ls + 1) (lv + 1) (nI j3) hp hth2) gL_vouches_L_of rfl rfl rfl (by decide +kernel) ⟨Nat.le_of_ble_eq_true rfl, Nat.le_of_ble_eq_true rfl⟩ dL_vouches_171 rfl rfl (Nat.le_of_ble_eq_true rfl) ⟨Nat.le_of_ble_eq_true rfl, Nat.le_of_ble_eq_true rfl⟩ ⟨rfl, rfl, rfl, rfl, by decide, rfl, rfl⟩ ?_
                  refine v_iand (pc := 174) X dL_vouches_174 rfl ?_
                  refine v_icmp_ne (pc := 175) X 194 dL_vouches_175 (by decide) (fun c_175 => ?_) (fun c_175 => ?_)
                  · exact False.elim (c_175 (rooms_v hth2 hp hg9 (gu_4 hj13) c_156))
                  · refine v_goto (pc := 178) X 190 dL_vouches_178 (by decide) ?_
                    refine v_iconst (pc := 190) (v := 1) X dL_vouches_190 (by decide) ?_
                    refine v_goto (pc := 191) X 195 dL_vouches_191 (by decide) ?_
                    refine v_widen (k := 8) (n := 48) (by omega) (by omega) ?_
                    exact v_zret (pc := 195) X hr (by rfl) dL_vouches_195 (mkS kk kt nw dw df dr de (upd th ((nI (4 + j13))).toNatClampNeg (nI j3)) (upd tr ((nI (4 + j13))).toNatClampNeg (nI (1 + j26))) (upd tm ((nI (4 + j13))).toNatClampNeg nw) (upd tb ((nI (4 + j13))).toNatClampNeg (tg ((nI j3)).toNatClampNeg)) (upd td ((nI (4 + j13))).toNatClampNeg 0) tg tl tn uh ur um ub ud ug ul un (upd lk (ls).toNatClampNeg 0) (upd lp (ls).toNatClampNeg (nI j3)) (upd lg (ls).toNatClampNeg (nI (4 + j13))) (upd lm (ls).toNatClampNeg nw) (ls + 1) (lv + 1) (upd gg (1 : Int32).toNatClampNeg (lv + 1)) wA bb) (rfl) (⟨rfl, hI2⟩)
          · exact False.elim (s77 c_95)
  refine v_icmp_ne (pc := 39) X 73 dL_vouches_39 (by decide) (fun c_39 => ?_) (fun c_39 => ?_)
  · refine v_iconst (pc := 73) (v := 0) X dL_vouches_73 (by decide) ?_
    refine v_widen (k := 3) (n := 18) (by omega) (by omega) ?_
    exact v_top (by show 0 = (if (f_X0_isInSession_r de (nI j3) nw) = 1 then (if (f_X2_isTrusted_r th (nI j3)) = 1 then (if (f_X2_isTainted_r th td tl (nI j3)) = 0 then 1 else 0) else 0) else 0); simp only [if_neg c_39]) hJ39
  · refine v_aload_n (pc := 42) X dL_vouches_42 0 rfl ?_
    refine v_iload_n (pc := 43) X dL_vouches_43 3 rfl ?_
    refine v_iconst (pc := 44) (v := 1) X dL_vouches_44 (by decide) ?_
    refine v_eHS (pc := 45) (rest := []) (n := 3) (wr := (wg G ax gg)) (wn := (wG G ag ad aT au al kk kt nw ++ (wD G ad dw df dr de ++ (wT G aT th tr tm tb td tg tl tn ++ (wT G au uh ur um ub ud ug ul un ++ (wL G al lk lp lg lm ls lv ++ (wg G ax gg))))))) (isC := [0, 1, 2, 3, 4, 5, 6, 7, 8, 9, 10, 11, 12, 13, 14, 15, 16, 17, 18, 19, 20, 21, 22, 23, 24, 25, 26, 27, 28]) (isR := [29]) (isP := [1, 2, 3, 4, 5, 6, 7, 8, 9, 10, 11, 12, 13, 14, 15, 16, 17, 18, 19, 20, 21, 22, 23, 24, 25, 26, 27, 28, 29, 0]) X (c_L_of1 l hfl G ag ad aT au al kk kt nw dw df dr de th tr tm tb td tg tl tn uh ur um ub ud ug ul un lk lp lg lm ls lv (nI j3) hp hth) gL_vouches_L_of rfl rfl rfl (by decide +kernel) ⟨Nat.le_of_ble_eq_true rfl, Nat.le_of_ble_eq_true rfl⟩ dL_vouches_45 rfl rfl (Nat.le_of_ble_eq_true rfl) ⟨Nat.le_of_ble_eq_true rfl, Nat.le_of_ble_eq_true rfl⟩ ⟨rfl, rfl, rfl, rfl, by decide, rfl, rfl⟩ ?_
    refine v_iconst (pc := 48) (v := 1) X dL_vouches_48 (by decide) ?_
    refine v_icmp_ne (pc := 49) X 73 dL_vouches_49 (by decide) (fun c_49 => ?_) (fun c_49 => ?_)
    · refine v_iconst (pc := 73) (v := 0) X dL_vouches_73 (by decide) ?_
      refine v_widen (k := 3) (n := 18) (by omega) (by omega) ?_
      exact v_top (by show 0 = (if (f_X0_isInSession_r de (nI j3) nw) = 1 then (if (f_X2_isTrusted_r th (nI j3)) = 1 then (if (f_X2_isTainted_r th td tl (nI j3)) = 0 then 1 else 0) else 0) else 0); simp only [if_pos c_39, if_neg c_49]) hJ39
    · refine v_aload_n (pc := 52) X dL_vouches_52 0 rfl ?_
      refine v_iload_n (pc := 53) X dL_vouches_53 3 rfl ?_
      refine v_iconst (pc := 54) (v := 2) X dL_vouches_54 (by decide) ?_
      refine v_eHS (pc := 55) (rest := []) (n := 3) (wr := (wg G ax gg)) (wn := (wG G ag ad aT au al kk kt nw ++ (wD G ad dw df dr de ++ (wT G aT th tr tm tb td tg tl tn ++ (wT G au uh ur um ub ud ug ul un ++ (wL G al lk lp lg lm ls lv ++ (wg G ax gg))))))) (isC := [0, 1, 2, 3, 4, 5, 6, 7, 8, 9, 10, 11, 12, 13, 14, 15, 16, 17, 18, 19, 20, 21, 22, 23, 24, 25, 26, 27, 28]) (isR := [29]) (isP := [1, 2, 3, 4, 5, 6, 7, 8, 9, 10, 11, 12, 13, 14, 15, 16, 17, 18, 19, 20, 21, 22, 23, 24, 25, 26, 27, 28, 29, 0]) X (c_L_of2 l hfl G ag ad aT au al kk kt nw dw df dr de th tr tm tb td tg tl tn uh ur um ub ud ug ul un lk lp lg lm ls lv (nI j3) hp hth) gL_vouches_L_of rfl rfl rfl (by decide +kernel) ⟨Nat.le_of_ble_eq_true rfl, Nat.le_of_ble_eq_true rfl⟩ dL_vouches_55 rfl rfl (Nat.le_of_ble_eq_true rfl) ⟨Nat.le_of_ble_eq_true rfl, Nat.le_of_ble_eq_true rfl⟩ ⟨rfl, rfl, rfl, rfl, by decide, rfl, rfl⟩ ?_
      refine v_if_ne (pc := 58) X 73 dL_vouches_58 (by decide) (fun c_58 => ?_) (fun c_58 => ?_)
      · refine v_iconst (pc := 73) (v := 0) X dL_vouches_73 (by decide) ?_
        refine v_widen (k := 3) (n := 18) (by omega) (by omega) ?_
        exact v_top (by show 0 = (if (f_X0_isInSession_r de (nI j3) nw) = 1 then (if (f_X2_isTrusted_r th (nI j3)) = 1 then (if (f_X2_isTainted_r th td tl (nI j3)) = 0 then 1 else 0) else 0) else 0); simp only [if_pos c_39, if_pos c_49, if_neg c_58]) hJ39
      · refine v_aload_n (pc := 61) X dL_vouches_61 1 rfl ?_
        refine v_iconst (pc := 62) (v := 1) X dL_vouches_62 (by decide) ?_
        refine v_iald (pc := 63) X dL_vouches_63 29 rfl (by unfold vp_in; decide) rfl ?_
        refine v_top (b := lv) (hg.2.1) ?_
        refine v_bipush (pc := 64) (v := 100) X dL_vouches_64 (by decide) ?_
        refine v_icmp_ge (pc := 66) X 73 dL_vouches_66 (by decide) (fun c_66 => ?_) (fun c_66 => ?_)
        · exact False.elim (hl1.2 c_66)
        · refine v_iconst (pc := 69) (v := 1) X dL_vouches_69 (by decide) ?_
          refine v_goto (pc := 70) X 74 dL_vouches_70 (by decide) ?_
          refine v_widen (k := 3) (n := 18) (by omega) (by omega) ?_
          exact v_top (by show 1 = (if (f_X0_isInSession_r de (nI j3) nw) = 1 then (if (f_X2_isTrusted_r th (nI j3)) = 1 then (if (f_X2_isTainted_r th td tl (nI j3)) = 0 then 1 else 0) else 0) else 0); simp only [if_pos c_39, if_pos c_49, if_pos c_58, if_neg c_66]) hJ39
