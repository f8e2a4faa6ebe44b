
set_option maxHeartbeats 4000000 in
set_option maxRecDepth 100000 in
theorem c_L_loses (l : Launch) (hfl : l.stackTraces = false) (G : va_G) (ag : Nat → Nat) (ad : Nat → Nat) (aT : Nat → Nat) (au : Nat → Nat) (al : Nat → Nat) (ax : Nat → Nat) (kk : Nat → Int32) (kt : Nat → Int32) (nw : Int32) (dw : Nat → Int32) (df : Nat → Int32) (dr : Nat → Int32) (de : Nat → Int32) (th : Nat → Int32) (tr : Nat → Int32) (tm : Nat → Int32) (tb : Nat → Int32) (td : Nat → Int32) (tg : Nat → Int32) (tl : Nat → Int32) (tn : Int32) (uh : Nat → Int32) (ur : Nat → Int32) (um : Nat → Int32) (ub : Nat → Int32) (ud : Nat → Int32) (ug : Nat → Int32) (ul : Nat → Int32) (un : Int32) (lk : Nat → Int32) (lp : Nat → Int32) (lg : Nat → Int32) (lm : Nat → Int32) (ls : Int32) (lv : Int32) (gg : Nat → Int32) (p0 : Int32) (p1 : Int32) (t : Nat) (wA : Nat → Int32) (bb : Nat → Int32) (h0 : vp_in p0 12) (hI : PInv t kt nw dw df dr de th tm tb td tg tl tn lk lp lg lm ls lv gg wA bb) (ht : t < 100) : Ki l yL_loses wsL_loses { frames := 8, cells := 16, slots := 96, locals := 135 } 16 96 G (wG G ag ad aT au al kk kt nw ++ (wD G ad dw df dr de ++ (wT G aT th tr tm tb td tg tl tn ++ (wT G au uh ur um ub ud ug ul un ++ (wL G al lk lp lg lm ls lv ++ (wg G ax gg)))))) [.ref (ag 0), .ref (ax 0), .int p0, .int p1] (S := Nat → Nat → Int32) (fun x q9 => x = 1 ∧ PInv (t + 1) (q9 1) (q9 2 0) (q9 3) (q9 4) (q9 5) (q9 6) (q9 7) (q9 9) (q9 10) (q9 11) (q9 12) (q9 13) (q9 14 0) (q9 23) (q9 24) (q9 25) (q9 26) (q9 27 0) (q9 28 0) (q9 29) wA bb) (fun q9 => (wG G ag ad aT au al (q9 0) (q9 1) (q9 2 0) ++ (wD G ad (q9 3) (q9 4) (q9 5) (q9 6) ++ (wT G aT (q9 7) (q9 8) (q9 9) (q9 10) (q9 11) (q9 12) (q9 13) (q9 14 0) ++ (wT G au (q9 15) (q9 16) (q9 17) (q9 18) (q9 19) (q9 20) (q9 21) (q9 22 0) ++ (wL G al (q9 23) (q9 24) (q9 25) (q9 26) (q9 27 0) (q9 28 0) ++ (wg G ax (q9 29)))))))) := by
  refine v_ofi (cc := cL_loses) (nL := 8) (lv := [(0, .ref (ag 0)), (1, .ref (ax 0)), (2, .int p0), (3, .int p1)]) (by decide) rfl (Nat.le_of_ble_eq_true rfl) rfl ?_
  intro p e s m args below meth c A X hr
  have hg := pi_g hI
  have hn1 := pi_nw1 hI ht
  have hth : ∀ j : Nat, j < 12 → inN (th j) := tieP_th (pi_th hI)
  have hls : ¬ ls < 0 := pi_hls hI (le100 ht)
  have h5 : ls < 512 := (pi_log hI (le100 ht)).2.2
  refine v_iload_n (pc := 0) X dL_loses_0 3 rfl ?_
  refine v_aload_n (pc := 1) X dL_loses_1 1 rfl ?_
  refine v_iconst (pc := 2) (v := 0) X dL_loses_2 (by decide) ?_
  refine v_iald (pc := 3) X dL_loses_3 29 rfl (by unfold vp_in; decide) rfl ?_
  refine v_top (b := nw) (hg.1) ?_
  refine v_iconst (pc := 4) (v := 1) X dL_loses_4 (by decide) ?_
  refine v_iadd (pc := 5) X dL_loses_5 rfl ?_
  refine v_e0S (pc := 6) (rest := []) (n := 2) X (c_L_low l G p1 (nw + 1) (hn1.1)) gL_loses_L_low rfl rfl rfl (by decide +kernel) ⟨Nat.le_of_ble_eq_true rfl, Nat.le_of_ble_eq_true rfl⟩ dL_loses_6 rfl rfl (Nat.le_of_ble_eq_true rfl) ⟨Nat.le_of_ble_eq_true rfl, Nat.le_of_ble_eq_true rfl⟩ ?_
  obtain ⟨j6, hj1, hj2, ej6⟩ := pi_low hI ht p1
  refine v_top (b := (nI j6)) (ej6) ?_
  refine v_istore (pc := 9) (lv' := [(0, .ref (ag 0)), (1, .ref (ax 0)), (2, .int p0), (3, .int p1), (4, .int (nI j6))]) X dL_loses_9 (Nat.le_of_ble_eq_true rfl) [1, 2, 3, 4, 0] rfl ?_
  refine v_aload_n (pc := 11) X dL_loses_11 0 rfl ?_
  refine v_iload_n (pc := 12) X dL_loses_12 2 rfl ?_
  refine v_iload (pc := 13) X dL_loses_13 4 rfl ?_
  refine v_eHS (pc := 15) (rest := []) (n := 3) (wr := (wg G ax gg)) (wn := (wG G ag ad aT au al kk kt nw ++ (wD G ad dw df dr de ++ (wT G aT th tr tm tb (f_X2_markLost_td th tm tb td tg p0 (nI j6)) tg (upd tl (p0).toNatClampNeg 1) tn ++ (wT G au uh ur um ub ud ug ul un ++ (wL G al (upd lk (ls).toNatClampNeg 2) (upd lp (ls).toNatClampNeg p0) (upd lg (ls).toNatClampNeg (-1)) (upd lm (ls).toNatClampNeg (nI j6)) (ls + 1) lv ++ (wg G ax gg))))))) (isC := [0, 1, 2, 3, 4, 5, 6, 7, 8, 9, 10, 11, 12, 13, 14, 15, 16, 17, 18, 19, 20, 21, 22, 23, 24, 25, 26, 27, 28]) (isR := [29]) (isP := [1, 2, 3, 4, 5, 6, 7, 8, 9, 10, 11, 12, 13, 14, 15, 16, 17, 18, 19, 20, 21, 22, 23, 24, 25, 26, 27, 28, 29, 0]) X (c_loseY l hfl G ag ad aT au al kk kt nw dw df dr de th tr tm tb td tg tl tn uh ur um ub ud ug ul un lk lp lg lm ls lv p0 (nI j6) h0 hj1 hj2 h5 hth hls) gL_loses_L_lose rfl rfl rfl (by decide +kernel) ⟨Nat.le_of_ble_eq_true rfl, Nat.le_of_ble_eq_true rfl⟩ dL_loses_15 rfl rfl (Nat.le_of_ble_eq_true rfl) ⟨Nat.le_of_ble_eq_true rfl, Nat.le_of_ble_eq_true rfl⟩ ⟨rfl, rfl, rfl, rfl, by decide, rfl, rfl⟩ ?_
  refine v_istore (pc := 18) (lv' := [(0, .ref (ag 0)), (1, .ref (ax 0)), (2, .int p0), (3, .int p1), (4, .int (nI j6)), (5, .int (f_X2_countTainted_r th (f_X2_markLost_td th tm tb td tg p0 (nI j6)) (upd tl (p0).toNatClampNeg 1)))]) X dL_loses_18 (Nat.le_of_ble_eq_true rfl) [1, 2, 3, 4, 5, 0] rfl ?_
  refine v_iconst (pc := 20) (v := 0) X dL_loses_20 (by decide) ?_
  refine v_istore (pc := 21) (lv' := [(0, .ref (ag 0)), (1, .ref (ax 0)), (2, .int p0), (3, .int p1), (4, .int (nI j6)), (5, .int (f_X2_countTainted_r th (f_X2_markLost_td th tm tb td tg p0 (nI j6)) (upd tl (p0).toNatClampNeg 1))), (6, .int 0)]) X dL_loses_21 (Nat.le_of_ble_eq_true rfl) [1, 2, 3, 4, 5, 6, 0] rfl ?_
  refine v_iconst (pc := 23) (v := 0) X dL_loses_23 (by decide) ?_
  refine v_istore (pc := 24) (lv' := [(0, .ref (ag 0)), (1, .ref (ax 0)), (2, .int p0), (3, .int p1), (4, .int (nI j6)), (5, .int (f_X2_countTainted_r th (f_X2_markLost_td th tm tb td tg p0 (nI j6)) (upd tl (p0).toNatClampNeg 1))), (6, .int 0), (7, .int 0)]) X dL_loses_24 (Nat.le_of_ble_eq_true rfl) [1, 2, 3, 4, 5, 6, 7, 0] rfl ?_
  have LP26 : ∀ (n26 : Nat) (x6 : Int32) (x7 : Int32), n26 ≤ 13 → (x7 = nI (12 + 1 - n26) ∧ 1 ≤ n26 ∧ n26 ≤ 12 + 1) → (FX2_countTainted_4_x1 n26 x6 x7 th (f_X2_markLost_td th tm tb td tg p0 (nI j6)) (upd tl (p0).toNatClampNeg 1) = f_X2_countTainted_r th (f_X2_markLost_td th tm tb td tg p0 (nI j6)) (upd tl (p0).toNatClampNeg 1)) → V p l e (headSpec wsL_loses { frames := 8, cells := 16, slots := 96, locals := 135 }).room s m args below meth c 8 G A (1 + 1 * (13 - n26)) (6 + 6 * (13 - n26)) (QI below args s G A 16 96 (S := Nat → Nat → Int32) (fun x q9 => x = 1 ∧ PInv (t + 1) (q9 1) (q9 2 0) (q9 3) (q9 4) (q9 5) (q9 6) (q9 7) (q9 9) (q9 10) (q9 11) (q9 12) (q9 13) (q9 14 0) (q9 23) (q9 24) (q9 25) (q9 26) (q9 27 0) (q9 28 0) (q9 29) wA bb) (fun q9 => (wG G ag ad aT au al (q9 0) (q9 1) (q9 2 0) ++ (wD G ad (q9 3) (q9 4) (q9 5) (q9 6) ++ (wT G aT (q9 7) (q9 8) (q9 9) (q9 10) (q9 11) (q9 12) (q9 13) (q9 14 0) ++ (wT G au (q9 15) (q9 16) (q9 17) (q9 18) (q9 19) (q9 20) (q9 21) (q9 22 0) ++ (wL G al (q9 23) (q9 24) (q9 25) (q9 26) (q9 27 0) (q9 28 0) ++ (wg G ax (q9 29))))))))) (wG G ag ad aT au al kk kt nw ++ (wD G ad dw df dr de ++ (wT G aT th tr tm tb (f_X2_markLost_td th tm tb td tg p0 (nI j6)) tg (upd tl (p0).toNatClampNeg 1) tn ++ (wT G au uh ur um ub ud ug ul un ++ (wL G al (upd lk (ls).toNatClampNeg 2) (upd lp (ls).toNatClampNeg p0) (upd lg (ls).toNatClampNeg (-1)) (upd lm (ls).toNatClampNeg (nI j6)) (ls + 1) lv ++ (wg G ax gg)))))) [(0, .ref (ag 0)), (1, .ref (ax 0)), (2, .int p0), (3, .int p1), (4, .int (nI j6)), (5, .int (f_X2_countTainted_r th (f_X2_markLost_td th tm tb td tg p0 (nI j6)) (upd tl (p0).toNatClampNeg 1))), (6, .int x6), (7, .int x7)] 26 [] := by
    intro n26
    induction n26 with
    | zero => intro x6 x7 hn26 hI26 hM26; exact False.elim (by omega)
    | succ n26 ih26 =>
      intro x6 x7 hn26 hI26 hM26
      refine v_iload (pc := 26) X dL_loses_26 7 rfl ?_
      refine v_bipush (pc := 28) (v := 12) X dL_loses_28 (by decide) ?_
      refine v_icmp_ge (pc := 30) X 51 dL_loses_30 (by decide) (fun c_30 => ?_) (fun c_30 => ?_)
      · have hT : f_X2_countTainted_r th (f_X2_markLost_td th tm tb td tg p0 (nI j6)) (upd tl (p0).toNatClampNeg 1) = x6 := hM26.symm.trans (ct_end th (f_X2_markLost_td th tm tb td tg p0 (nI j6)) (upd tl (p0).toNatClampNeg 1) x7 x6 n26 c_30)
        refine v_iload (pc := 51) X dL_loses_51 5 rfl ?_
        refine v_iload (pc := 53) X dL_loses_53 6 rfl ?_
        refine v_icmp_ne (pc := 55) X 87 dL_loses_55 (by decide) (fun c_55 => ?_) (fun c_55 => ?_)
        · exact False.elim (c_55 hT)
        · have hI2 := pi_lose hI ht h0 (nI j6)
          have hls2 : ¬ (ls + 1) < 0 := pi_hls hI2 (by omega)
          refine v_aload_n (pc := 58) X dL_loses_58 0 rfl ?_
          refine v_iload_n (pc := 59) X dL_loses_59 2 rfl ?_
          refine v_iconst (pc := 60) (v := 2) X dL_loses_60 (by decide) ?_
          refine v_eHS (pc := 61) (rest := []) (n := 3) (wr := (wg G ax gg)) (wn := (wG G ag ad aT au al kk kt nw ++ (wD G ad dw df dr de ++ (wT G aT th tr tm tb (f_X2_markLost_td th tm tb td tg p0 (nI j6)) tg (upd tl (p0).toNatClampNeg 1) tn ++ (wT G au uh ur um ub ud ug ul un ++ (wL G al (upd lk (ls).toNatClampNeg 2) (upd lp (ls).toNatClampNeg p0) (upd lg (ls).toNatClampNeg (-1)) (upd lm (ls).toNatClampNeg (nI j6)) (ls + 1) lv ++ (wg G ax gg))))))) (isC := [0, 1, 2, 3, 4, 5, 6, 7, 8, 9, 10, 11, 12, 13, 14, 15, 16, 17, 18, 19, 20, 21, 22, 23, 24, 25, 26, 27, 28]) (isR := [29]) (isP := [1, 2, 3, 4, 5, 6, 7, 8, 9, 10, 11, 12, 13, 14, 15, 16, 17, 18, 19, 20, 21, 22, 23, 24, 25, 26, 27, 28, 29, 0]) X (c_L_of2 l hfl G ag ad aT au al kk kt nw dw df dr de th tr tm tb (f_X2_markLost_td th tm tb td tg p0 (nI j6)) tg (upd tl (p0).toNatClampNeg 1) tn uh ur um ub ud ug ul un (upd lk (ls).toNatClampNeg 2) (upd lp (ls).toNatClampNeg p0) (upd lg (ls).toNatClampNeg (-1)) (upd lm (ls).toNatClampNeg (nI j6)) (ls + 1) lv p0 h0 hth) gL_loses_L_of rfl rfl rfl (by decide +kernel) ⟨Nat.le_of_ble_eq_true rfl, Nat.le_of_ble_eq_true rfl⟩ dL_loses_61 rfl rfl (Nat.le_of_ble_eq_true rfl) ⟨by show _ ≤ 16; omega, by show _ ≤ 96; omega⟩ ⟨rfl, rfl, rfl, rfl, by decide, rfl, rfl⟩ ?_
          refine v_iconst (pc := 64) (v := 1) X dL_loses_64 (by decide) ?_
          refine v_icmp_ne (pc := 65) X 87 dL_loses_65 (by decide) (fun c_65 => ?_) (fun c_65 => ?_)
          · exact False.elim (c_65 (lost_t th _ tl p0))
          · refine v_aload_n (pc := 68) X dL_loses_68 0 rfl ?_
            refine v_iload_n (pc := 69) X dL_loses_69 2 rfl ?_
            refine v_aload_n (pc := 70) X dL_loses_70 1 rfl ?_
            refine v_iconst (pc := 71) (v := 0) X dL_loses_71 (by decide) ?_
            refine v_iald (pc := 72) X dL_loses_72 29 rfl (by unfold vp_in; decide) rfl ?_
            refine v_top (b := nw) (hg.1) ?_
            refine v_iconst (pc := 73) (v := 1) X dL_loses_73 (by decide) ?_
            refine v_iadd (pc := 74) X dL_loses_74 rfl ?_
            refine v_eHS (pc := 75) (rest := []) (n := 3) (wr := (wg G ax gg)) (wn := (wG G ag ad aT au al kk kt nw ++ (wD G ad dw df dr de ++ (wT G aT th tr tm tb (f_X2_markLost_td th tm tb td tg p0 (nI j6)) tg (upd tl (p0).toNatClampNeg 1) tn ++ (wT G au uh ur um ub ud ug ul un ++ (wL G al (upd lk (ls).toNatClampNeg 2) (upd lp (ls).toNatClampNeg p0) (upd lg (ls).toNatClampNeg (-1)) (upd lm (ls).toNatClampNeg (nI j6)) (ls + 1) lv ++ (wg G ax gg))))))) (isC := [0, 1, 2, 3, 4, 5, 6, 7, 8, 9, 10, 11, 12, 13, 14, 15, 16, 17, 18, 19, 20, 21, 22, 23, 24, 25, 26, 27, 28]) (isR := [29]) (isP := [1, 2, 3, 4, 5, 6, 7, 8, 9, 10, 11, 12, 13, 14, 15, 16, 17, 18, 19, 20, 21, 22, 23, 24, 25, 26, 27, 28, 29, 0]) X (c_loseN l hfl G ag ad aT au al kk kt nw dw df dr de th tr tm tb (f_X2_markLost_td th tm tb td tg p0 (nI j6)) tg (upd tl (p0).toNatClampNeg 1) tn uh ur um ub ud ug ul un (upd lk (ls).toNatClampNeg 2) (upd lp (ls).toNatClampNeg p0) (upd lg (ls).toNatClampNeg (-1)) (upd lm (ls).toNatClampNeg (nI j6)) (ls + 1) lv p0 (nw + 1) h0 (hn1.2.1) (hn1.2.2) hth hls2) gL_loses_L_lose rfl rfl rfl (by decide +kernel) ⟨Nat.le_of_ble_eq_true rfl, Nat.le_of_ble_eq_true rfl⟩ dL_loses_75 rfl rfl (Nat.le_of_ble_eq_true rfl) ⟨by show _ ≤ 16; omega, by show _ ≤ 96; omega⟩ ⟨rfl, rfl, rfl, rfl, by decide, rfl, rfl⟩ ?_
            refine v_ldc (pc := 78) (v := (-1000002)) (i := 1) X dL_loses_78 rfl ?_
            refine v_icmp_ne (pc := 80) X 87 dL_loses_80 (by decide) (fun c_80 => ?_) (fun c_80 => ?_)
            · exact absurd c_80 (by decide)
            · refine v_iconst (pc := 83) (v := 1) X dL_loses_83 (by decide) ?_
              refine v_goto (pc := 84) X 88 dL_loses_84 (by decide) ?_
              refine v_widen (k := 16) (n := 96) (by omega) (by omega) ?_
              exact v_zret (pc := 88) X hr (by rfl) dL_loses_88 (mkS kk kt nw dw df dr de th tr tm tb (f_X2_markLost_td th tm tb td tg p0 (nI j6)) tg (upd tl (p0).toNatClampNeg 1) tn uh ur um ub ud ug ul un (upd lk (ls).toNatClampNeg 2) (upd lp (ls).toNatClampNeg p0) (upd lg (ls).toNatClampNeg (-1)) (upd lm (ls).toNatClampNeg (nI j6)) (ls + 1) lv gg wA bb) (rfl) (⟨rfl, hI2⟩)
      · have hk7 : vp_in x7 12 := (cnt_in (by decide) (by decide) hI26 c_30).1
        refine v_iload (pc := 33) X dL_loses_33 6 rfl ?_
        refine v_aload_n (pc := 35) X dL_loses_35 0 rfl ?_
        refine v_iload (pc := 36) X dL_loses_36 7 rfl ?_
        refine v_iconst (pc := 38) (v := 2) X dL_loses_38 (by decide) ?_
        refine v_eHS (pc := 39) (rest := [.int x6]) (n := 3) (wr := (wg G ax gg)) (wn := (wG G ag ad aT au al kk kt nw ++ (wD G ad dw df dr de ++ (wT G aT th tr tm tb (f_X2_markLost_td th tm tb td tg p0 (nI j6)) tg (upd tl (p0).toNatClampNeg 1) tn ++ (wT G au uh ur um ub ud ug ul un ++ (wL G al (upd lk (ls).toNatClampNeg 2) (upd lp (ls).toNatClampNeg p0) (upd lg (ls).toNatClampNeg (-1)) (upd lm (ls).toNatClampNeg (nI j6)) (ls + 1) lv ++ (wg G ax gg))))))) (isC := [0, 1, 2, 3, 4, 5, 6, 7, 8, 9, 10, 11, 12, 13, 14, 15, 16, 17, 18, 19, 20, 21, 22, 23, 24, 25, 26, 27, 28]) (isR := [29]) (isP := [1, 2, 3, 4, 5, 6, 7, 8, 9, 10, 11, 12, 13, 14, 15, 16, 17, 18, 19, 20, 21, 22, 23, 24, 25, 26, 27, 28, 29, 0]) X (c_L_of2 l hfl G ag ad aT au al kk kt nw dw df dr de th tr tm tb (f_X2_markLost_td th tm tb td tg p0 (nI j6)) tg (upd tl (p0).toNatClampNeg 1) tn uh ur um ub ud ug ul un (upd lk (ls).toNatClampNeg 2) (upd lp (ls).toNatClampNeg p0) (upd lg (ls).toNatClampNeg (-1)) (upd lm (ls).toNatClampNeg (nI j6)) (ls + 1) lv x7 hk7 hth) gL_loses_L_of rfl rfl rfl (by decide +kernel) ⟨Nat.le_of_ble_eq_true rfl, Nat.le_of_ble_eq_true rfl⟩ dL_loses_39 rfl rfl (Nat.le_of_ble_eq_true rfl) ⟨by show _ ≤ 16; omega, by show _ ≤ 96; omega⟩ ⟨rfl, rfl, rfl, rfl, by decide, rfl, rfl⟩ ?_
        refine v_iadd (pc := 42) X dL_loses_42 rfl ?_
        refine v_istore (pc := 43) (lv' := [(0, .ref (ag 0)), (1, .ref (ax 0)), (2, .int p0), (3, .int p1), (4, .int (nI j6)), (5, .int (f_X2_countTainted_r th (f_X2_markLost_td th tm tb td tg p0 (nI j6)) (upd tl (p0).toNatClampNeg 1))), (6, .int (x6 + (f_X2_isTainted_r th (f_X2_markLost_td th tm tb td tg p0 (nI j6)) (upd tl (p0).toNatClampNeg 1) x7))), (7, .int x7)]) X dL_loses_43 (Nat.le_of_ble_eq_true rfl) [1, 2, 3, 4, 5, 6, 0, 7] rfl ?_
        refine v_iinc (pc := 45) (k := 7) (v := (x7 + 1)) (lv' := [(0, .ref (ag 0)), (1, .ref (ax 0)), (2, .int p0), (3, .int p1), (4, .int (nI j6)), (5, .int (f_X2_countTainted_r th (f_X2_markLost_td th tm tb td tg p0 (nI j6)) (upd tl (p0).toNatClampNeg 1))), (6, .int (x6 + (f_X2_isTainted_r th (f_X2_markLost_td th tm tb td tg p0 (nI j6)) (upd tl (p0).toNatClampNeg 1) x7))), (7, .int (x7 + 1))]) X dL_loses_45 rfl rfl (Nat.le_of_ble_eq_true rfl) [1, 2, 3, 4, 5, 6, 7, 0] rfl ?_
        refine v_goto (pc := 48) X 26 dL_loses_48 (by decide) ?_
        refine v_widen (k := (1 + 1 * (13 - n26))) (n := (6 + 6 * (13 - n26))) (by omega) (by omega) ?_
        exact ih26 (x6 + (f_X2_isTainted_r th (f_X2_markLost_td th tm tb td tg p0 (nI j6)) (upd tl (p0).toNatClampNeg 1) x7)) (x7 + 1) (Nat.le_of_succ_le hn26) ((cnt_in (by decide) (by decide) hI26 c_30).2) ((ct_st th (f_X2_markLost_td th tm tb td tg p0 (nI j6)) (upd tl (p0).toNatClampNeg 1) x7 x6 n26 hk7).symm.trans hM26)
  refine v_widen (k := (1 + 1 * (13 - 13))) (n := (6 + 6 * (13 - 13))) (by omega) (by omega) ?_
  exact LP26 13 0 0 (Nat.le_refl _) (⟨by decide, by decide, by decide⟩) (rfl)
