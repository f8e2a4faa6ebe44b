
set_option maxHeartbeats 4000000 in
set_option maxRecDepth 100000 in
theorem c_L_acts (l : Launch) (hfl : l.stackTraces = false) (G : va_G) (ag : Nat → Nat) (ad : Nat → Nat) (aT : Nat → Nat) (au : Nat → Nat) (al : Nat → Nat) (ax : Nat → Nat) (aw : Nat → Nat) (ab : Nat → Nat) (kk : Nat → Int32) (kt : Nat → Int32) (nw : Int32) (dw : Nat → Int32) (df : Nat → Int32) (dr : Nat → Int32) (de : Nat → Int32) (th : Nat → Int32) (tr : Nat → Int32) (tm : Nat → Int32) (tb : Nat → Int32) (td : Nat → Int32) (tg : Nat → Int32) (tl : Nat → Int32) (tn : Int32) (uh : Nat → Int32) (ur : Nat → Int32) (um : Nat → Int32) (ub : Nat → Int32) (ud : Nat → Int32) (ug : Nat → Int32) (ul : Nat → Int32) (un : Int32) (lk : Nat → Int32) (lp : Nat → Int32) (lg : Nat → Int32) (lm : Nat → Int32) (ls : Int32) (lv : Int32) (gg : Nat → Int32) (wA : Nat → Int32) (bb : Nat → Int32) (p0 : Int32) (p1 : Int32) (t : Nat) (hI : PInv t kt nw dw df dr de th tm tb td tg tl tn lk lp lg lm ls lv gg wA bb) (ht : t < 100) : Ki l yL_acts wsL_acts { frames := 9, cells := 267, slots := 1602, locals := 182 } 267 1602 G (wG G ag ad aT au al kk kt nw ++ (wD G ad dw df dr de ++ (wT G aT th tr tm tb td tg tl tn ++ (wT G au uh ur um ub ud ug ul un ++ (wL G al lk lp lg lm ls lv ++ (wg G ax gg ++ (ww G aw wA ++ (ww G ab bb)))))))) [.ref (ag 0), .ref (ax 0), .ref (aw 0), .ref (ab 0), .int p0, .int p1] (S := Nat → Nat → Int32) (fun x q9 => x = 1 ∧ PInv (t + 1) (q9 1) (q9 2 0) (q9 3) (q9 4) (q9 5) (q9 6) (q9 7) (q9 9) (q9 10) (q9 11) (q9 12) (q9 13) (q9 14 0) (q9 23) (q9 24) (q9 25) (q9 26) (q9 27 0) (q9 28 0) (q9 29) (q9 30) (q9 31)) (fun q9 => (wG G ag ad aT au al (q9 0) (q9 1) (q9 2 0) ++ (wD G ad (q9 3) (q9 4) (q9 5) (q9 6) ++ (wT G aT (q9 7) (q9 8) (q9 9) (q9 10) (q9 11) (q9 12) (q9 13) (q9 14 0) ++ (wT G au (q9 15) (q9 16) (q9 17) (q9 18) (q9 19) (q9 20) (q9 21) (q9 22 0) ++ (wL G al (q9 23) (q9 24) (q9 25) (q9 26) (q9 27 0) (q9 28 0) ++ (wg G ax (q9 29) ++ (ww G aw (q9 30) ++ (ww G ab (q9 31)))))))))) := by
  refine v_ofi (cc := cL_acts) (nL := 11) (lv := [(0, .ref (ag 0)), (1, .ref (ax 0)), (2, .ref (aw 0)), (3, .ref (ab 0)), (4, .int p0), (5, .int p1)]) (by decide) rfl (Nat.le_of_ble_eq_true rfl) rfl ?_
  intro p e s m args below meth c A X hr
  have hg := pi_g hI
  have hth : ∀ j : Nat, j < 12 → inN (th j) := tieP_th (pi_th hI)
  have hls : ¬ ls < 0 := pi_hls hI (le100 ht)
  have h5 : ls < 512 := (pi_log hI (le100 ht)).2.2
  refine v_iload (pc := 0) X dL_acts_0 4 rfl ?_
  refine v_bipush (pc := 2) (v := 14) X dL_acts_2 (by decide) ?_
  refine v_e0S (pc := 4) (rest := []) (n := 2) X (c_L_low l G p0 14 (by decide)) gL_acts_L_low rfl rfl rfl (by decide +kernel) ⟨Nat.le_of_ble_eq_true rfl, Nat.le_of_ble_eq_true rfl⟩ dL_acts_4 rfl rfl (Nat.le_of_ble_eq_true rfl) ⟨Nat.le_of_ble_eq_true rfl, Nat.le_of_ble_eq_true rfl⟩ ?_
  obtain ⟨j4, hj4, ej4⟩ := low_is p0 (N := 14) (by decide) (by decide)
  refine v_top (b := (nI j4)) (ej4) ?_
  refine v_istore (pc := 7) (lv' := [(0, .ref (ag 0)), (1, .ref (ax 0)), (2, .ref (aw 0)), (3, .ref (ab 0)), (4, .int p0), (5, .int p1), (6, .int (nI j4))]) X dL_acts_7 (Nat.le_of_ble_eq_true rfl) [1, 2, 3, 4, 5, 6, 0] rfl ?_
  refine v_iload (pc := 9) X dL_acts_9 4 rfl ?_
  refine v_iconst (pc := 11) (v := 4) X dL_acts_11 (by decide) ?_
  refine v_ishr (pc := 12) X dL_acts_12 rfl ?_
  refine v_bipush (pc := 13) (v := 12) X dL_acts_13 (by decide) ?_
  refine v_e0S (pc := 15) (rest := []) (n := 2) X (c_L_low l G (p0 >>> (4 &&& 31)) 12 (by decide)) gL_acts_L_low rfl rfl rfl (by decide +kernel) ⟨Nat.le_of_ble_eq_true rfl, Nat.le_of_ble_eq_true rfl⟩ dL_acts_15 rfl rfl (Nat.le_of_ble_eq_true rfl) ⟨Nat.le_of_ble_eq_true rfl, Nat.le_of_ble_eq_true rfl⟩ ?_
  obtain ⟨j15, hj15, ej15⟩ := low_is (p0 >>> (4 &&& 31)) (N := 12) (by decide) (by decide)
  have hp : vp_in (nI j15) 12 := vp_in_nI hj15 (by decide)
  refine v_top (b := (nI j15)) (ej15) ?_
  refine v_istore (pc := 18) (lv' := [(0, .ref (ag 0)), (1, .ref (ax 0)), (2, .ref (aw 0)), (3, .ref (ab 0)), (4, .int p0), (5, .int p1), (6, .int (nI j4)), (7, .int (nI j15))]) X dL_acts_18 (Nat.le_of_ble_eq_true rfl) [1, 2, 3, 4, 5, 6, 7, 0] rfl ?_
  refine v_iload (pc := 20) X dL_acts_20 6 rfl ?_
  refine v_iconst (pc := 22) (v := 4) X dL_acts_22 (by decide) ?_
  refine v_icmp_ge (pc := 23) X 37 dL_acts_23 (by decide) (fun c_23 => ?_) (fun c_23 => ?_)
  · refine v_iload (pc := 37) X dL_acts_37 6 rfl ?_
    refine v_bipush (pc := 39) (v := 8) X dL_acts_39 (by decide) ?_
    refine v_icmp_ge (pc := 41) X 52 dL_acts_41 (by decide) (fun c_41 => ?_) (fun c_41 => ?_)
    · refine v_iload (pc := 52) X dL_acts_52 6 rfl ?_
      refine v_bipush (pc := 54) (v := 8) X dL_acts_54 (by decide) ?_
      refine v_icmp_ne (pc := 56) X 96 dL_acts_56 (by decide) (fun c_56 => ?_) (fun c_56 => ?_)
      · refine v_iload (pc := 96) X dL_acts_96 6 rfl ?_
        refine v_bipush (pc := 98) (v := 9) X dL_acts_98 (by decide) ?_
        refine v_icmp_ne (pc := 100) X 113 dL_acts_100 (by decide) (fun c_100 => ?_) (fun c_100 => ?_)
        · refine v_iload (pc := 113) X dL_acts_113 6 rfl ?_
          refine v_bipush (pc := 115) (v := 10) X dL_acts_115 (by decide) ?_
          refine v_icmp_ne (pc := 117) X 168 dL_acts_117 (by decide) (fun c_117 => ?_) (fun c_117 => ?_)
          · refine v_iload (pc := 168) X dL_acts_168 6 rfl ?_
            refine v_bipush (pc := 170) (v := 11) X dL_acts_170 (by decide) ?_
            refine v_icmp_ne (pc := 172) X 243 dL_acts_172 (by decide) (fun c_172 => ?_) (fun c_172 => ?_)
            · refine v_iload (pc := 243) X dL_acts_243 6 rfl ?_
              refine v_bipush (pc := 245) (v := 12) X dL_acts_245 (by decide) ?_
              refine v_icmp_ne (pc := 247) X 328 dL_acts_247 (by decide) (fun c_247 => ?_) (fun c_247 => ?_)
              · refine v_iconst (pc := 328) (v := 1) X dL_acts_328 (by decide) ?_
                refine v_iload (pc := 329) X dL_acts_329 5 rfl ?_
                refine v_sipush (pc := 331) (v := 4095) X dL_acts_331 (by decide) ?_
                refine v_e0S (pc := 334) (rest := [.int 1]) (n := 2) X (c_L_low l G p1 4095 (by decide)) gL_acts_L_low rfl rfl rfl (by decide +kernel) ⟨Nat.le_of_ble_eq_true rfl, Nat.le_of_ble_eq_true rfl⟩ dL_acts_334 rfl rfl (Nat.le_of_ble_eq_true rfl) ⟨Nat.le_of_ble_eq_true rfl, Nat.le_of_ble_eq_true rfl⟩ ?_
                obtain ⟨j334, hj334, ej334⟩ := low_is p1 (N := 4095) (by decide) (by decide)
                refine v_top (b := (nI j334)) (ej334) ?_
                refine v_iadd (pc := 337) X dL_acts_337 rfl ?_
                refine v_top (b := (nI (1 + j334))) (nI_add 1 j334) ?_
                refine v_istore (pc := 338) (lv' := [(0, .ref (ag 0)), (1, .ref (ax 0)), (2, .ref (aw 0)), (3, .ref (ab 0)), (4, .int p0), (5, .int p1), (6, .int (nI j4)), (7, .int (nI j15)), (8, .int (nI (1 + j334)))]) X dL_acts_338 (Nat.le_of_ble_eq_true rfl) [1, 2, 3, 4, 5, 6, 7, 8, 0] rfl ?_
                refine v_iload (pc := 340) X dL_acts_340 4 rfl ?_
                refine v_bipush (pc := 342) (v := 8) X dL_acts_342 (by decide) ?_
                refine v_ishr (pc := 344) X dL_acts_344 rfl ?_
                refine v_iconst (pc := 345) (v := 4) X dL_acts_345 (by decide) ?_
                refine v_e0S (pc := 346) (rest := []) (n := 2) X (c_L_low l G (p0 >>> (8 &&& 31)) 4 (by decide)) gL_acts_L_low rfl rfl rfl (by decide +kernel) ⟨Nat.le_of_ble_eq_true rfl, Nat.le_of_ble_eq_true rfl⟩ dL_acts_346 rfl rfl (Nat.le_of_ble_eq_true rfl) ⟨Nat.le_of_ble_eq_true rfl, Nat.le_of_ble_eq_true rfl⟩ ?_
                obtain ⟨j346, hj346, ej346⟩ := low_is (p0 >>> (8 &&& 31)) (N := 4) (by decide) (by decide)
                have hk9 : vp_in (nI j346) 4 := vp_in_nI hj346 (by decide)
                have hr1 : ¬ (nI (1 + j334)) < 1 := one_lt (by omega)
                have hr2 : (nI (1 + j334)) ≤ 4095 := one_le (n := 4095) hj334 (by decide)
                have hbc : 1 ≤ f_J6_bitCount_0f7a4_r (nI (1 + j334)) := bc_ge hj334
                refine v_top (b := (nI j346)) (ej346) ?_
                refine v_istore (pc := 349) (lv' := [(0, .ref (ag 0)), (1, .ref (ax 0)), (2, .ref (aw 0)), (3, .ref (ab 0)), (4, .int p0), (5, .int p1), (6, .int (nI j4)), (7, .int (nI j15)), (8, .int (nI (1 + j334))), (9, .int (nI j346))]) X dL_acts_349 (Nat.le_of_ble_eq_true rfl) [1, 2, 3, 4, 5, 6, 7, 8, 9, 0] rfl ?_
                refine v_aload_n (pc := 351) X dL_acts_351 0 rfl ?_
                refine v_iload (pc := 352) X dL_acts_352 9 rfl ?_
                refine v_iconst (pc := 354) (v := 1) X dL_acts_354 (by decide) ?_
                refine v_eHS (pc := 355) (rest := []) (n := 3) (wr := (wg G ax gg ++ (ww G aw wA ++ (ww G ab bb)))) (wn := (wG G ag ad aT au al kk kt nw ++ (wD G ad dw df dr de ++ (wT G aT th tr tm tb td tg tl tn ++ (wT G au uh ur um ub ud ug ul un ++ (wL G al lk lp lg lm ls lv ++ (wg G ax gg ++ (ww G aw wA ++ (ww G ab bb))))))))) (isC := [0, 1, 2, 3, 4, 5, 6, 7, 8, 9, 10, 11, 12, 13, 14, 15, 16, 17, 18, 19, 20, 21, 22, 23, 24, 25, 26, 27, 28]) (isR := [29, 30, 31]) (isP := [3, 4, 5, 6, 7, 8, 9, 10, 11, 12, 13, 14, 15, 16, 17, 18, 19, 20, 21, 22, 23, 24, 25, 26, 27, 28, 29, 30, 31, 0, 1, 2]) X (c_L_keyOf1 l hfl G ag ad aT au al kk kt nw dw df dr de th tr tm tb td tg tl tn uh ur um ub ud ug ul un lk lp lg lm ls lv (nI j346) hk9 hth) gL_acts_L_keyOf rfl rfl rfl (by decide +kernel) ⟨Nat.le_of_ble_eq_true rfl, Nat.le_of_ble_eq_true rfl⟩ dL_acts_355 rfl rfl (Nat.le_of_ble_eq_true rfl) ⟨Nat.le_of_ble_eq_true rfl, Nat.le_of_ble_eq_true rfl⟩ ⟨rfl, rfl, rfl, rfl, by decide, rfl, rfl⟩ ?_
                refine v_istore (pc := 358) (lv' := [(0, .ref (ag 0)), (1, .ref (ax 0)), (2, .ref (aw 0)), (3, .ref (ab 0)), (4, .int p0), (5, .int p1), (6, .int (nI j4)), (7, .int (nI j15)), (8, .int (nI (1 + j334))), (9, .int (nI j346)), (10, .int (kt ((nI j346)).toNatClampNeg))]) X dL_acts_358 (Nat.le_of_ble_eq_true rfl) [1, 2, 3, 4, 5, 6, 7, 8, 9, 10, 0] rfl ?_
                refine v_aload_n (pc := 360) X dL_acts_360 0 rfl ?_
                refine v_iload (pc := 361) X dL_acts_361 9 rfl ?_
                refine v_iload (pc := 363) X dL_acts_363 8 rfl ?_
                refine v_iconst (pc := 365) (v := 1) X dL_acts_365 (by decide) ?_
                refine v_eHS (pc := 366) (rest := []) (n := 4) (wr := (wg G ax gg ++ (ww G aw wA ++ (ww G ab bb)))) (wn := (wG G ag ad aT au al (upd kk ((nI j346)).toNatClampNeg (nI (1 + j334))) (upd kt ((nI j346)).toNatClampNeg 1) nw ++ (wD G ad dw df dr de ++ (wT G aT th tr tm tb td tg tl tn ++ (wT G au uh ur um ub ud ug ul un ++ (wL G al lk lp lg lm ls lv ++ (wg G ax gg ++ (ww G aw wA ++ (ww G ab bb))))))))) (isC := [0, 1, 2, 3, 4, 5, 6, 7, 8, 9, 10, 11, 12, 13, 14, 15, 16, 17, 18, 19, 20, 21, 22, 23, 24, 25, 26, 27, 28]) (isR := [29, 30, 31]) (isP := [3, 4, 5, 6, 7, 8, 9, 10, 11, 12, 13, 14, 15, 16, 17, 18, 19, 20, 21, 22, 23, 24, 25, 26, 27, 28, 29, 30, 31, 0, 1, 2]) X (c_shareY l hfl G ag ad aT au al kk kt nw dw df dr de th tr tm tb td tg tl tn uh ur um ub ud ug ul un lk lp lg lm ls lv (nI j346) (nI (1 + j334)) 1 hk9 hr1 hr2 (by decide) hbc) gL_acts_L_share rfl rfl rfl (by decide +kernel) ⟨Nat.le_of_ble_eq_true rfl, Nat.le_of_ble_eq_true rfl⟩ dL_acts_366 rfl rfl (Nat.le_of_ble_eq_true rfl) ⟨Nat.le_of_ble_eq_true rfl, Nat.le_of_ble_eq_true rfl⟩ ⟨rfl, rfl, rfl, rfl, by decide, rfl, rfl⟩ ?_
                refine v_iload (pc := 369) X dL_acts_369 10 rfl ?_
                refine v_icmp_ne (pc := 371) X 398 dL_acts_371 (by decide) (fun c_371 => ?_) (fun c_371 => ?_)
                · exact False.elim (c_371 rfl)
                · refine v_aload_n (pc := 374) X dL_acts_374 0 rfl ?_
                  refine v_iload (pc := 375) X dL_acts_375 9 rfl ?_
                  refine v_iconst (pc := 377) (v := 0) X dL_acts_377 (by decide) ?_
                  refine v_eHS (pc := 378) (rest := []) (n := 3) (wr := (wg G ax gg ++ (ww G aw wA ++ (ww G ab bb)))) (wn := (wG G ag ad aT au al (upd kk ((nI j346)).toNatClampNeg (nI (1 + j334))) (upd kt ((nI j346)).toNatClampNeg 1) nw ++ (wD G ad dw df dr de ++ (wT G aT th tr tm tb td tg tl tn ++ (wT G au uh ur um ub ud ug ul un ++ (wL G al lk lp lg lm ls lv ++ (wg G ax gg ++ (ww G aw wA ++ (ww G ab bb))))))))) (isC := [0, 1, 2, 3, 4, 5, 6, 7, 8, 9, 10, 11, 12, 13, 14, 15, 16, 17, 18, 19, 20, 21, 22, 23, 24, 25, 26, 27, 28]) (isR := [29, 30, 31]) (isP := [3, 4, 5, 6, 7, 8, 9, 10, 11, 12, 13, 14, 15, 16, 17, 18, 19, 20, 21, 22, 23, 24, 25, 26, 27, 28, 29, 30, 31, 0, 1, 2]) X (c_L_keyOf0 l hfl G ag ad aT au al (upd kk ((nI j346)).toNatClampNeg (nI (1 + j334))) (upd kt ((nI j346)).toNatClampNeg 1) nw dw df dr de th tr tm tb td tg tl tn uh ur um ub ud ug ul un lk lp lg lm ls lv (nI j346) hk9 hth) gL_acts_L_keyOf rfl rfl rfl (by decide +kernel) ⟨Nat.le_of_ble_eq_true rfl, Nat.le_of_ble_eq_true rfl⟩ dL_acts_378 rfl rfl (Nat.le_of_ble_eq_true rfl) ⟨Nat.le_of_ble_eq_true rfl, Nat.le_of_ble_eq_true rfl⟩ ⟨rfl, rfl, rfl, rfl, by decide, rfl, rfl⟩ ?_
                  refine v_top (b := (nI (1 + j334))) (upd_at _ _ _) ?_
                  refine v_iload (pc := 381) X dL_acts_381 8 rfl ?_
                  refine v_icmp_ne (pc := 383) X 398 dL_acts_383 (by decide) (fun c_383 => ?_) (fun c_383 => ?_)
                  · exact False.elim (c_383 rfl)
                  · refine v_aload_n (pc := 386) X dL_acts_386 0 rfl ?_
                    refine v_aload_n (pc := 387) X dL_acts_387 1 rfl ?_
                    refine v_callSi (pc := 388) (rest := []) (n := 2) (wr := (ww G aw wA ++ (ww G ab bb))) (wn := fun (q9 : Unit) => (wG G ag ad aT au al (upd kk ((nI j346)).toNatClampNeg (nI (1 + j334))) (upd kt ((nI j346)).toNatClampNeg 1) nw ++ (wD G ad dw df dr de ++ (wT G aT th tr tm tb td tg tl tn ++ (wT G au uh ur um ub ud ug ul un ++ (wL G al lk lp lg lm ls lv ++ (wg G ax gg ++ (ww G aw wA ++ (ww G ab bb))))))))) (isC := [0, 1, 2, 3, 4, 5, 6, 7, 8, 9, 10, 11, 12, 13, 14, 15, 16, 17, 18, 19, 20, 21, 22, 23, 24, 25, 26, 27, 28, 29]) (isR := [30, 31]) (isP := [2, 3, 4, 5, 6, 7, 8, 9, 10, 11, 12, 13, 14, 15, 16, 17, 18, 19, 20, 21, 22, 23, 24, 25, 26, 27, 28, 29, 30, 31, 0, 1]) X (c_L_areKeys l hfl G ag ad aT au al ax (upd kk ((nI j346)).toNatClampNeg (nI (1 + j334))) (upd kt ((nI j346)).toNatClampNeg 1) nw dw df dr de th tr tm tb td tg tl tn uh ur um ub ud ug ul un lk lp lg lm ls lv gg hth (pi_kt (pi_share hI _))) gL_acts_L_areKeys rfl rfl rfl (by decide +kernel) ⟨Nat.le_of_ble_eq_true rfl, Nat.le_of_ble_eq_true rfl⟩ dL_acts_388 rfl rfl (Nat.le_of_ble_eq_true rfl) ⟨Nat.le_of_ble_eq_true rfl, Nat.le_of_ble_eq_true rfl⟩ ⟨rfl, rfl, rfl, rfl, by decide, rfl, fun _ => rfl⟩ (fun r388 q388 h388 => ?_)
                    refine v_ws (ws' := (wG G ag ad aT au al (upd kk ((nI j346)).toNatClampNeg (nI (1 + j334))) (upd kt ((nI j346)).toNatClampNeg 1) nw ++ (wD G ad dw df dr de ++ (wT G aT th tr tm tb td tg tl tn ++ (wT G au uh ur um ub ud ug ul un ++ (wL G al lk lp lg lm ls lv ++ (wg G ax gg ++ (ww G aw wA ++ (ww G ab bb))))))))) rfl ?_
                    obtain rfl : r388 = 1 := h388
                    refine v_if_eq (pc := 391) X 398 dL_acts_391 (by decide) (fun c_391 => ?_) (fun c_391 => ?_)
                    · exact absurd c_391 (by decide)
                    · refine v_iconst (pc := 394) (v := 1) X dL_acts_394 (by decide) ?_
                      refine v_goto (pc := 395) X 399 dL_acts_395 (by decide) ?_
                      refine v_widen (k := 267) (n := 1602) (by omega) (by omega) ?_
                      exact v_zret (pc := 399) X hr (by rfl) dL_acts_399 (mkS (upd kk ((nI j346)).toNatClampNeg (nI (1 + j334))) (upd kt ((nI j346)).toNatClampNeg 1) nw dw df dr de th tr tm tb td tg tl tn uh ur um ub ud ug ul un lk lp lg lm ls lv gg wA bb) (rfl) (⟨rfl, pi_mono (pi_share hI _)⟩)
              · refine v_iload (pc := 250) X dL_acts_250 5 rfl ?_
                refine v_sipush (pc := 252) (v := 1000) X dL_acts_252 (by decide) ?_
                refine v_e0S (pc := 255) (rest := []) (n := 2) X (c_L_low l G p1 1000 (by decide)) gL_acts_L_low rfl rfl rfl (by decide +kernel) ⟨Nat.le_of_ble_eq_true rfl, Nat.le_of_ble_eq_true rfl⟩ dL_acts_255 rfl rfl (Nat.le_of_ble_eq_true rfl) ⟨Nat.le_of_ble_eq_true rfl, Nat.le_of_ble_eq_true rfl⟩ ?_
                obtain ⟨j255, hj255, ej255⟩ := low_is p1 (N := 1000) (by decide) (by decide)
                have hw9 : vp_in (nI j255) 1000 := vp_in_nI hj255 (by decide)
                refine v_top (b := (nI j255)) (ej255) ?_
                refine v_istore (pc := 258) (lv' := [(0, .ref (ag 0)), (1, .ref (ax 0)), (2, .ref (aw 0)), (3, .ref (ab 0)), (4, .int p0), (5, .int p1), (6, .int (nI j4)), (7, .int (nI j15)), (8, .int (nI j255))]) X dL_acts_258 (Nat.le_of_ble_eq_true rfl) [1, 2, 3, 4, 5, 6, 7, 8, 0] rfl ?_
                refine v_aload_n (pc := 260) X dL_acts_260 0 rfl ?_
                refine v_iload (pc := 261) X dL_acts_261 7 rfl ?_
                refine v_iconst (pc := 263) (v := 0) X dL_acts_263 (by decide) ?_
                refine v_eHS (pc := 264) (rest := []) (n := 3) (wr := (wg G ax gg ++ (ww G aw wA ++ (ww G ab bb)))) (wn := (wG G ag ad aT au al kk kt nw ++ (wD G ad dw df dr de ++ (wT G aT th tr tm tb td tg tl tn ++ (wT G au uh ur um ub ud ug ul un ++ (wL G al lk lp lg lm ls lv ++ (wg G ax gg ++ (ww G aw wA ++ (ww G ab bb))))))))) (isC := [0, 1, 2, 3, 4, 5, 6, 7, 8, 9, 10, 11, 12, 13, 14, 15, 16, 17, 18, 19, 20, 21, 22, 23, 24, 25, 26, 27, 28]) (isR := [29, 30, 31]) (isP := [3, 4, 5, 6, 7, 8, 9, 10, 11, 12, 13, 14, 15, 16, 17, 18, 19, 20, 21, 22, 23, 24, 25, 26, 27, 28, 29, 30, 31, 0, 1, 2]) X (c_L_of0 l hfl G ag ad aT au al kk kt nw dw df dr de th tr tm tb td tg tl tn uh ur um ub ud ug ul un lk lp lg lm ls lv (nI j15) hp hth) gL_acts_L_of rfl rfl rfl (by decide +kernel) ⟨Nat.le_of_ble_eq_true rfl, Nat.le_of_ble_eq_true rfl⟩ dL_acts_264 rfl rfl (Nat.le_of_ble_eq_true rfl) ⟨Nat.le_of_ble_eq_true rfl, Nat.le_of_ble_eq_true rfl⟩ ⟨rfl, rfl, rfl, rfl, by decide, rfl, rfl⟩ ?_
                refine v_iconst (pc := 267) (v := 1) X dL_acts_267 (by decide) ?_
                refine v_icmp_ne (pc := 268) X 275 dL_acts_268 (by decide) (fun c_268 => ?_) (fun c_268 => ?_)
                · refine v_iconst (pc := 275) (v := 0) X dL_acts_275 (by decide) ?_
                  refine v_istore (pc := 276) (lv' := [(0, .ref (ag 0)), (1, .ref (ax 0)), (2, .ref (aw 0)), (3, .ref (ab 0)), (4, .int p0), (5, .int p1), (6, .int (nI j4)), (7, .int (nI j15)), (8, .int (nI j255)), (9, .int 0)]) X dL_acts_276 (Nat.le_of_ble_eq_true rfl) [1, 2, 3, 4, 5, 6, 7, 8, 9, 0] rfl ?_
                  refine v_aload_n (pc := 278) X dL_acts_278 0 rfl ?_
                  refine v_iload (pc := 279) X dL_acts_279 7 rfl ?_
                  refine v_iload (pc := 281) X dL_acts_281 8 rfl ?_
                  refine v_eHS (pc := 283) (rest := []) (n := 3) (wr := (wg G ax gg ++ (ww G aw wA ++ (ww G ab bb)))) (wn := (wG G ag ad aT au al kk kt nw ++ (wD G ad dw df dr de ++ (wT G aT th tr tm tb td tg tl tn ++ (wT G au uh ur um ub ud ug ul un ++ (wL G al lk lp lg lm ls lv ++ (wg G ax gg ++ (ww G aw wA ++ (ww G ab bb))))))))) (isC := [0, 1, 2, 3, 4, 5, 6, 7, 8, 9, 10, 11, 12, 13, 14, 15, 16, 17, 18, 19, 20, 21, 22, 23, 24, 25, 26, 27, 28]) (isR := [29, 30, 31]) (isP := [3, 4, 5, 6, 7, 8, 9, 10, 11, 12, 13, 14, 15, 16, 17, 18, 19, 20, 21, 22, 23, 24, 25, 26, 27, 28, 29, 30, 31, 0, 1, 2]) X (c_wordN l hfl G ag ad aT au al kk kt nw dw df dr de th tr tm tb td tg tl tn uh ur um ub ud ug ul un lk lp lg lm ls lv (nI j15) (nI j255) hp hw9 ((in_b de _ nw).resolve_right c_268)) gL_acts_L_word rfl rfl rfl (by decide +kernel) ⟨Nat.le_of_ble_eq_true rfl, Nat.le_of_ble_eq_true rfl⟩ dL_acts_283 rfl rfl (Nat.le_of_ble_eq_true rfl) ⟨Nat.le_of_ble_eq_true rfl, Nat.le_of_ble_eq_true rfl⟩ ⟨rfl, rfl, rfl, rfl, by decide, rfl, rfl⟩ ?_
                  refine v_iload (pc := 286) X dL_acts_286 9 rfl ?_
                  refine v_if_eq (pc := 288) X 295 dL_acts_288 (by decide) (fun c_288 => ?_) (fun c_288 => ?_)
                  · refine v_ldc (pc := 295) (v := (-1000003)) (i := 1) X dL_acts_295 rfl ?_
                    refine v_icmp_ne (pc := 297) X 304 dL_acts_297 (by decide) (fun c_297 => ?_) (fun c_297 => ?_)
                    · exact absurd c_297 (by decide)
                    · refine v_iconst (pc := 300) (v := 1) X dL_acts_300 (by decide) ?_
                      refine v_goto (pc := 301) X 305 dL_acts_301 (by decide) ?_
                      refine v_istore (pc := 305) (lv' := [(0, .ref (ag 0)), (1, .ref (ax 0)), (2, .ref (aw 0)), (3, .ref (ab 0)), (4, .int p0), (5, .int p1), (6, .int (nI j4)), (7, .int (nI j15)), (8, .int (nI j255)), (9, .int 0), (10, .int 1)]) X dL_acts_305 (Nat.le_of_ble_eq_true rfl) [1, 2, 3, 4, 5, 6, 7, 8, 9, 10, 0] rfl ?_
                      refine v_aload_n (pc := 307) X dL_acts_307 2 rfl ?_
                      refine v_iload (pc := 308) X dL_acts_308 7 rfl ?_
                      refine v_iload (pc := 310) X dL_acts_310 9 rfl ?_
                      refine v_if_eq (pc := 312) X 320 dL_acts_312 (by decide) (fun c_312 => ?_) (fun c_312 => ?_)
                      · refine v_aload_n (pc := 320) X dL_acts_320 2 rfl ?_
                        refine v_iload (pc := 321) X dL_acts_321 7 rfl ?_
                        refine v_iald (pc := 323) X dL_acts_323 30 rfl hp rfl ?_
                        refine v_iast (pc := 324) (ws' := (wG G ag ad aT au al kk kt nw ++ (wD G ad dw df dr de ++ (wT G aT th tr tm tb td tg tl tn ++ (wT G au uh ur um ub ud ug ul un ++ (wL G al lk lp lg lm ls lv ++ (wg G ax gg ++ (ww G aw (upd wA ((nI j15)).toNatClampNeg (wA ((nI j15)).toNatClampNeg)) ++ (ww G ab bb))))))))) X dL_acts_324 30 rfl hp rfl ?_
                        refine v_iload (pc := 325) X dL_acts_325 10 rfl ?_
                        refine v_widen (k := 267) (n := 1602) (by omega) (by omega) ?_
                        exact v_zret (pc := 327) X hr (by rfl) dL_acts_327 (mkS kk kt nw dw df dr de th tr tm tb td tg tl tn uh ur um ub ud ug ul un lk lp lg lm ls lv gg (upd wA ((nI j15)).toNatClampNeg (wA ((nI j15)).toNatClampNeg)) bb) (rfl) (⟨rfl, pi_mono (pi_w0 hI)⟩)
                      · exact absurd c_312 (by decide)
                  · exact absurd c_288 (by decide)
                · refine v_iconst (pc := 271) (v := 1) X dL_acts_271 (by decide) ?_
                  refine v_goto (pc := 272) X 276 dL_acts_272 (by decide) ?_
                  refine v_istore (pc := 276) (lv' := [(0, .ref (ag 0)), (1, .ref (ax 0)), (2, .ref (aw 0)), (3, .ref (ab 0)), (4, .int p0), (5, .int p1), (6, .int (nI j4)), (7, .int (nI j15)), (8, .int (nI j255)), (9, .int 1)]) X dL_acts_276 (Nat.le_of_ble_eq_true rfl) [1, 2, 3, 4, 5, 6, 7, 8, 9, 0] rfl ?_
                  refine v_aload_n (pc := 278) X dL_acts_278 0 rfl ?_
                  refine v_iload (pc := 279) X dL_acts_279 7 rfl ?_
                  refine v_iload (pc := 281) X dL_acts_281 8 rfl ?_
                  refine v_eHS (pc := 283) (rest := []) (n := 3) (wr := (wg G ax gg ++ (ww G aw wA ++ (ww G ab bb)))) (wn := (wG G ag ad aT au al kk kt nw ++ (wD G ad (upd dw ((nI j15)).toNatClampNeg (nI j255)) df dr de ++ (wT G aT th tr tm tb td tg tl tn ++ (wT G au uh ur um ub ud ug ul un ++ (wL G al lk lp lg lm ls lv ++ (wg G ax gg ++ (ww G aw wA ++ (ww G ab bb))))))))) (isC := [0, 1, 2, 3, 4, 5, 6, 7, 8, 9, 10, 11, 12, 13, 14, 15, 16, 17, 18, 19, 20, 21, 22, 23, 24, 25, 26, 27, 28]) (isR := [29, 30, 31]) (isP := [3, 4, 5, 6, 7, 8, 9, 10, 11, 12, 13, 14, 15, 16, 17, 18, 19, 20, 21, 22, 23, 24, 25, 26, 27, 28, 29, 30, 31, 0, 1, 2]) X (c_wordY l hfl G ag ad aT au al kk kt nw dw df dr de th tr tm tb td tg tl tn uh ur um ub ud ug ul un lk lp lg lm ls lv (nI j15) (nI j255) hp hw9 (by rw [c_268]; decide)) gL_acts_L_word rfl rfl rfl (by decide +kernel) ⟨Nat.le_of_ble_eq_true rfl, Nat.le_of_ble_eq_true rfl⟩ dL_acts_283 rfl rfl (Nat.le_of_ble_eq_true rfl) ⟨Nat.le_of_ble_eq_true rfl, Nat.le_of_ble_eq_true rfl⟩ ⟨rfl, rfl, rfl, rfl, by decide, rfl, rfl⟩ ?_
                  refine v_iload (pc := 286) X dL_acts_286 9 rfl ?_
                  refine v_if_eq (pc := 288) X 295 dL_acts_288 (by decide) (fun c_288 => ?_) (fun c_288 => ?_)
                  · exact absurd c_288 (by decide)
                  · refine v_iconst (pc := 291) (v := 0) X dL_acts_291 (by decide) ?_
                    refine v_goto (pc := 292) X 297 dL_acts_292 (by decide) ?_
                    refine v_icmp_ne (pc := 297) X 304 dL_acts_297 (by decide) (fun c_297 => ?_) (fun c_297 => ?_)
                    · exact absurd c_297 (by decide)
                    · refine v_iconst (pc := 300) (v := 1) X dL_acts_300 (by decide) ?_
                      refine v_goto (pc := 301) X 305 dL_acts_301 (by decide) ?_
                      refine v_istore (pc := 305) (lv' := [(0, .ref (ag 0)), (1, .ref (ax 0)), (2, .ref (aw 0)), (3, .ref (ab 0)), (4, .int p0), (5, .int p1), (6, .int (nI j4)), (7, .int (nI j15)), (8, .int (nI j255)), (9, .int 1), (10, .int 1)]) X dL_acts_305 (Nat.le_of_ble_eq_true rfl) [1, 2, 3, 4, 5, 6, 7, 8, 9, 10, 0] rfl ?_
                      refine v_aload_n (pc := 307) X dL_acts_307 2 rfl ?_
                      refine v_iload (pc := 308) X dL_acts_308 7 rfl ?_
                      refine v_iload (pc := 310) X dL_acts_310 9 rfl ?_
                      refine v_if_eq (pc := 312) X 320 dL_acts_312 (by decide) (fun c_312 => ?_) (fun c_312 => ?_)
                      · exact absurd c_312 (by decide)
                      · refine v_iload (pc := 315) X dL_acts_315 8 rfl ?_
                        refine v_goto (pc := 317) X 324 dL_acts_317 (by decide) ?_
                        refine v_iast (pc := 324) (ws' := (wG G ag ad aT au al kk kt nw ++ (wD G ad (upd dw ((nI j15)).toNatClampNeg (nI j255)) df dr de ++ (wT G aT th tr tm tb td tg tl tn ++ (wT G au uh ur um ub ud ug ul un ++ (wL G al lk lp lg lm ls lv ++ (wg G ax gg ++ (ww G aw (upd wA ((nI j15)).toNatClampNeg (nI j255)) ++ (ww G ab bb))))))))) X dL_acts_324 30 rfl hp rfl ?_
                        refine v_iload (pc := 325) X dL_acts_325 10 rfl ?_
                        refine v_widen (k := 267) (n := 1602) (by omega) (by omega) ?_
                        exact v_zret (pc := 327) X hr (by rfl) dL_acts_327 (mkS kk kt nw (upd dw ((nI j15)).toNatClampNeg (nI j255)) df dr de th tr tm tb td tg tl tn uh ur um ub ud ug ul un lk lp lg lm ls lv gg (upd wA ((nI j15)).toNatClampNeg (nI j255)) bb) (rfl) (⟨rfl, pi_mono (pi_word hI hj255)⟩)
            · refine v_iconst (pc := 175) (v := 4) X dL_acts_175 (by decide) ?_
              refine v_iload (pc := 176) X dL_acts_176 5 rfl ?_
              refine v_bipush (pc := 178) (v := 8) X dL_acts_178 (by decide) ?_
              refine v_e0S (pc := 180) (rest := [.int 4]) (n := 2) X (c_L_low l G p1 8 (by decide)) gL_acts_L_low rfl rfl rfl (by decide +kernel) ⟨Nat.le_of_ble_eq_true rfl, Nat.le_of_ble_eq_true rfl⟩ dL_acts_180 rfl rfl (Nat.le_of_ble_eq_true rfl) ⟨Nat.le_of_ble_eq_true rfl, Nat.le_of_ble_eq_true rfl⟩ ?_
              obtain ⟨j180, hj180, ej180⟩ := low_is p1 (N := 8) (by decide) (by decide)
              refine v_top (b := (nI j180)) (ej180) ?_
              refine v_iadd (pc := 183) X dL_acts_183 rfl ?_
              refine v_top (b := (nI (4 + j180))) (nI_add 4 j180) ?_
              refine v_istore (pc := 184) (lv' := [(0, .ref (ag 0)), (1, .ref (ax 0)), (2, .ref (aw 0)), (3, .ref (ab 0)), (4, .int p0), (5, .int p1), (6, .int (nI j4)), (7, .int (nI j15)), (8, .int (nI (4 + j180)))]) X dL_acts_184 (Nat.le_of_ble_eq_true rfl) [1, 2, 3, 4, 5, 6, 7, 8, 0] rfl ?_
              have hq9 : vp_in (nI (4 + j180)) 12 := gu_in hj180
              have hqg : ¬ f_X3_isGuest_r (nI (4 + j180)) = 0 := gu_g hj180
              refine v_aload_n (pc := 186) X dL_acts_186 0 rfl ?_
              refine v_iload (pc := 187) X dL_acts_187 8 rfl ?_
              refine v_iconst (pc := 189) (v := 4) X dL_acts_189 (by decide) ?_
              refine v_eHS (pc := 190) (rest := []) (n := 3) (wr := (wg G ax gg ++ (ww G aw wA ++ (ww G ab bb)))) (wn := (wG G ag ad aT au al kk kt nw ++ (wD G ad dw df dr de ++ (wT G aT th tr tm tb td tg tl tn ++ (wT G au uh ur um ub ud ug ul un ++ (wL G al lk lp lg lm ls lv ++ (wg G ax gg ++ (ww G aw wA ++ (ww G ab bb))))))))) (isC := [0, 1, 2, 3, 4, 5, 6, 7, 8, 9, 10, 11, 12, 13, 14, 15, 16, 17, 18, 19, 20, 21, 22, 23, 24, 25, 26, 27, 28]) (isR := [29, 30, 31]) (isP := [3, 4, 5, 6, 7, 8, 9, 10, 11, 12, 13, 14, 15, 16, 17, 18, 19, 20, 21, 22, 23, 24, 25, 26, 27, 28, 29, 30, 31, 0, 1, 2]) X (c_L_of4 l hfl G ag ad aT au al kk kt nw dw df dr de th tr tm tb td tg tl tn uh ur um ub ud ug ul un lk lp lg lm ls lv (nI (4 + j180)) hq9 hth) gL_acts_L_of rfl rfl rfl (by decide +kernel) ⟨Nat.le_of_ble_eq_true rfl, Nat.le_of_ble_eq_true rfl⟩ dL_acts_190 rfl rfl (Nat.le_of_ble_eq_true rfl) ⟨Nat.le_of_ble_eq_true rfl, Nat.le_of_ble_eq_true rfl⟩ ⟨rfl, rfl, rfl, rfl, by decide, rfl, rfl⟩ ?_
              refine v_istore (pc := 193) (lv' := [(0, .ref (ag 0)), (1, .ref (ax 0)), (2, .ref (aw 0)), (3, .ref (ab 0)), (4, .int p0), (5, .int p1), (6, .int (nI j4)), (7, .int (nI j15)), (8, .int (nI (4 + j180))), (9, .int (th ((nI (4 + j180))).toNatClampNeg))]) X dL_acts_193 (Nat.le_of_ble_eq_true rfl) [1, 2, 3, 4, 5, 6, 7, 8, 9, 0] rfl ?_
              rcases Classical.em (th ((nI (4 + j180))).toNatClampNeg = -1) with s195 | s195
              · refine v_aload_n (pc := 195) X dL_acts_195 0 rfl ?_
                refine v_iload (pc := 196) X dL_acts_196 8 rfl ?_
                refine v_eHS (pc := 198) (rest := []) (n := 2) (wr := (wg G ax gg ++ (ww G aw wA ++ (ww G ab bb)))) (wn := (wG G ag ad aT au al kk kt nw ++ (wD G ad dw df dr de ++ (wT G aT th tr tm tb td tg tl tn ++ (wT G au uh ur um ub ud ug ul un ++ (wL G al lk lp lg lm ls lv ++ (wg G ax gg ++ (ww G aw wA ++ (ww G ab bb))))))))) (isC := [0, 1, 2, 3, 4, 5, 6, 7, 8, 9, 10, 11, 12, 13, 14, 15, 16, 17, 18, 19, 20, 21, 22, 23, 24, 25, 26, 27, 28]) (isR := [29, 30, 31]) (isP := [3, 4, 5, 6, 7, 8, 9, 10, 11, 12, 13, 14, 15, 16, 17, 18, 19, 20, 21, 22, 23, 24, 25, 26, 27, 28, 29, 30, 31, 0, 1, 2]) X (c_endN l hfl G ag ad aT au al kk kt nw dw df dr de th tr tm tb td tg tl tn uh ur um ub ud ug ul un lk lp lg lm ls lv (nI (4 + j180)) hqg s195 hls) gL_acts_L_end rfl rfl rfl (by decide +kernel) ⟨Nat.le_of_ble_eq_true rfl, Nat.le_of_ble_eq_true rfl⟩ dL_acts_198 rfl rfl (Nat.le_of_ble_eq_true rfl) ⟨Nat.le_of_ble_eq_true rfl, Nat.le_of_ble_eq_true rfl⟩ ⟨rfl, rfl, rfl, rfl, by decide, rfl, rfl⟩ ?_
                refine v_iload (pc := 201) X dL_acts_201 9 rfl ?_
                refine v_if_ge (pc := 203) X 211 dL_acts_203 (by decide) (fun c_203 => ?_) (fun c_203 => ?_)
                · exact False.elim ((by rw [s195] at c_203; exact absurd c_203 (by decide)))
                · refine v_ldc (pc := 206) (v := (-1000003)) (i := 1) X dL_acts_206 rfl ?_
                  refine v_goto (pc := 208) X 213 dL_acts_208 (by decide) ?_
                  refine v_icmp_ne (pc := 213) X 241 dL_acts_213 (by decide) (fun c_213 => ?_) (fun c_213 => ?_)
                  · exact absurd c_213 (by decide)
                  · refine v_aload_n (pc := 216) X dL_acts_216 0 rfl ?_
                    refine v_iload (pc := 217) X dL_acts_217 8 rfl ?_
                    refine v_iconst (pc := 219) (v := 4) X dL_acts_219 (by decide) ?_
                    refine v_eHS (pc := 220) (rest := []) (n := 3) (wr := (wg G ax gg ++ (ww G aw wA ++ (ww G ab bb)))) (wn := (wG G ag ad aT au al kk kt nw ++ (wD G ad dw df dr de ++ (wT G aT th tr tm tb td tg tl tn ++ (wT G au uh ur um ub ud ug ul un ++ (wL G al lk lp lg lm ls lv ++ (wg G ax gg ++ (ww G aw wA ++ (ww G ab bb))))))))) (isC := [0, 1, 2, 3, 4, 5, 6, 7, 8, 9, 10, 11, 12, 13, 14, 15, 16, 17, 18, 19, 20, 21, 22, 23, 24, 25, 26, 27, 28]) (isR := [29, 30, 31]) (isP := [3, 4, 5, 6, 7, 8, 9, 10, 11, 12, 13, 14, 15, 16, 17, 18, 19, 20, 21, 22, 23, 24, 25, 26, 27, 28, 29, 30, 31, 0, 1, 2]) X (c_L_of4 l hfl G ag ad aT au al kk kt nw dw df dr de th tr tm tb td tg tl tn uh ur um ub ud ug ul un lk lp lg lm ls lv (nI (4 + j180)) hq9 hth) gL_acts_L_of rfl rfl rfl (by decide +kernel) ⟨Nat.le_of_ble_eq_true rfl, Nat.le_of_ble_eq_true rfl⟩ dL_acts_220 rfl rfl (Nat.le_of_ble_eq_true rfl) ⟨Nat.le_of_ble_eq_true rfl, Nat.le_of_ble_eq_true rfl⟩ ⟨rfl, rfl, rfl, rfl, by decide, rfl, rfl⟩ ?_
                    refine v_iconst (pc := 223) (v := (-1)) X dL_acts_223 (by decide) ?_
                    refine v_icmp_ne (pc := 224) X 241 dL_acts_224 (by decide) (fun c_224 => ?_) (fun c_224 => ?_)
                    · exact False.elim (c_224 s195)
                    · refine v_aload_n (pc := 227) X dL_acts_227 0 rfl ?_
                      refine v_iload (pc := 228) X dL_acts_228 8 rfl ?_
                      refine v_iconst (pc := 230) (v := 1) X dL_acts_230 (by decide) ?_
                      refine v_eHS (pc := 231) (rest := []) (n := 3) (wr := (wg G ax gg ++ (ww G aw wA ++ (ww G ab bb)))) (wn := (wG G ag ad aT au al kk kt nw ++ (wD G ad dw df dr de ++ (wT G aT th tr tm tb td tg tl tn ++ (wT G au uh ur um ub ud ug ul un ++ (wL G al lk lp lg lm ls lv ++ (wg G ax gg ++ (ww G aw wA ++ (ww G ab bb))))))))) (isC := [0, 1, 2, 3, 4, 5, 6, 7, 8, 9, 10, 11, 12, 13, 14, 15, 16, 17, 18, 19, 20, 21, 22, 23, 24, 25, 26, 27, 28]) (isR := [29, 30, 31]) (isP := [3, 4, 5, 6, 7, 8, 9, 10, 11, 12, 13, 14, 15, 16, 17, 18, 19, 20, 21, 22, 23, 24, 25, 26, 27, 28, 29, 30, 31, 0, 1, 2]) X (c_L_of1 l hfl G ag ad aT au al kk kt nw dw df dr de th tr tm tb td tg tl tn uh ur um ub ud ug ul un lk lp lg lm ls lv (nI (4 + j180)) hq9 hth) gL_acts_L_of rfl rfl rfl (by decide +kernel) ⟨Nat.le_of_ble_eq_true rfl, Nat.le_of_ble_eq_true rfl⟩ dL_acts_231 rfl rfl (Nat.le_of_ble_eq_true rfl) ⟨Nat.le_of_ble_eq_true rfl, Nat.le_of_ble_eq_true rfl⟩ ⟨rfl, rfl, rfl, rfl, by decide, rfl, rfl⟩ ?_
                      refine v_if_ne (pc := 234) X 241 dL_acts_234 (by decide) (fun c_234 => ?_) (fun c_234 => ?_)
                      · exact False.elim (c_234 (no_tr hth hq9 (gu_4 hj180) s195))
                      · refine v_iconst (pc := 237) (v := 1) X dL_acts_237 (by decide) ?_
                        refine v_goto (pc := 238) X 242 dL_acts_238 (by decide) ?_
                        refine v_widen (k := 267) (n := 1602) (by omega) (by omega) ?_
                        exact v_zret (pc := 242) X hr (by rfl) dL_acts_242 (mkS kk kt nw dw df dr de th tr tm tb td tg tl tn uh ur um ub ud ug ul un lk lp lg lm ls lv gg wA bb) (rfl) (⟨rfl, pi_mono hI⟩)
              · refine v_aload_n (pc := 195) X dL_acts_195 0 rfl ?_
                refine v_iload (pc := 196) X dL_acts_196 8 rfl ?_
                refine v_eHS (pc := 198) (rest := []) (n := 2) (wr := (wg G ax gg ++ (ww G aw wA ++ (ww G ab bb)))) (wn := (wG G ag ad aT au al kk kt nw ++ (wD G ad dw df dr de ++ (wT G aT (upd th ((nI (4 + j180))).toNatClampNeg (-1)) tr tm tb (upd td ((nI (4 + j180))).toNatClampNeg 0) tg tl tn ++ (wT G au uh ur um ub ud ug ul un ++ (wL G al (upd lk (ls).toNatClampNeg 1) (upd lp (ls).toNatClampNeg (-1)) (upd lg (ls).toNatClampNeg (nI (4 + j180))) (upd lm (ls).toNatClampNeg 0) (ls + 1) lv ++ (wg G ax gg ++ (ww G aw wA ++ (ww G ab bb))))))))) (isC := [0, 1, 2, 3, 4, 5, 6, 7, 8, 9, 10, 11, 12, 13, 14, 15, 16, 17, 18, 19, 20, 21, 22, 23, 24, 25, 26, 27, 28]) (isR := [29, 30, 31]) (isP := [3, 4, 5, 6, 7, 8, 9, 10, 11, 12, 13, 14, 15, 16, 17, 18, 19, 20, 21, 22, 23, 24, 25, 26, 27, 28, 29, 30, 31, 0, 1, 2]) X (c_endY l hfl G ag ad aT au al kk kt nw dw df dr de th tr tm tb td tg tl tn uh ur um ub ud ug ul un lk lp lg lm ls lv (nI (4 + j180)) hqg s195 h5 hls) gL_acts_L_end rfl rfl rfl (by decide +kernel) ⟨Nat.le_of_ble_eq_true rfl, Nat.le_of_ble_eq_true rfl⟩ dL_acts_198 rfl rfl (Nat.le_of_ble_eq_true rfl) ⟨Nat.le_of_ble_eq_true rfl, Nat.le_of_ble_eq_true rfl⟩ ⟨rfl, rfl, rfl, rfl, by decide, rfl, rfl⟩ ?_
                refine v_iload (pc := 201) X dL_acts_201 9 rfl ?_
                refine v_if_ge (pc := 203) X 211 dL_acts_203 (by decide) (fun c_203 => ?_) (fun c_203 => ?_)
                · refine v_iload (pc := 211) X dL_acts_211 9 rfl ?_
                  refine v_icmp_ne (pc := 213) X 241 dL_acts_213 (by decide) (fun c_213 => ?_) (fun c_213 => ?_)
                  · exact False.elim (c_213 rfl)
                  · have hI2 := pi_end hI ht hq9
                    have hth2 : ∀ j : Nat, j < 12 → inN ((upd th ((nI (4 + j180))).toNatClampNeg (-1)) j) := tieP_th (pi_th hI2)
                    refine v_aload_n (pc := 216) X dL_acts_216 0 rfl ?_
                    refine v_iload (pc := 217) X dL_acts_217 8 rfl ?_
                    refine v_iconst (pc := 219) (v := 4) X dL_acts_219 (by decide) ?_
                    refine v_eHS (pc := 220) (rest := []) (n := 3) (wr := (wg G ax gg ++ (ww G aw wA ++ (ww G ab bb)))) (wn := (wG G ag ad aT au al kk kt nw ++ (wD G ad dw df dr de ++ (wT G aT (upd th ((nI (4 + j180))).toNatClampNeg (-1)) tr tm tb (upd td ((nI (4 + j180))).toNatClampNeg 0) tg tl tn ++ (wT G au uh ur um ub ud ug ul un ++ (wL G al (upd lk (ls).toNatClampNeg 1) (upd lp (ls).toNatClampNeg (-1)) (upd lg (ls).toNatClampNeg (nI (4 + j180))) (upd lm (ls).toNatClampNeg 0) (ls + 1) lv ++ (wg G ax gg ++ (ww G aw wA ++ (ww G ab bb))))))))) (isC := [0, 1, 2, 3, 4, 5, 6, 7, 8, 9, 10, 11, 12, 13, 14, 15, 16, 17, 18, 19, 20, 21, 22, 23, 24, 25, 26, 27, 28]) (isR := [29, 30, 31]) (isP := [3, 4, 5, 6, 7, 8, 9, 10, 11, 12, 13, 14, 15, 16, 17, 18, 19, 20, 21, 22, 23, 24, 25, 26, 27, 28, 29, 30, 31, 0, 1, 2]) X (c_L_of4 l hfl G ag ad aT au al kk kt nw dw df dr de (upd th ((nI (4 + j180))).toNatClampNeg (-1)) tr tm tb (upd td ((nI (4 + j180))).toNatClampNeg 0) tg tl tn uh ur um ub ud ug ul un (upd lk (ls).toNatClampNeg 1) (upd lp (ls).toNatClampNeg (-1)) (upd lg (ls).toNatClampNeg (nI (4 + j180))) (upd lm (ls).toNatClampNeg 0) (ls + 1) lv (nI (4 + j180)) hq9 hth2) gL_acts_L_of rfl rfl rfl (by decide +kernel) ⟨Nat.le_of_ble_eq_true rfl, Nat.le_of_ble_eq_true rfl⟩ dL_acts_220 rfl rfl (Nat.le_of_ble_eq_true rfl) ⟨Nat.le_of_ble_eq_true rfl, Nat.le_of_ble_eq_true rfl⟩ ⟨rfl, rfl, rfl, rfl, by decide, rfl, rfl⟩ ?_
                    refine v_top (b := (-1)) (upd_at _ _ _) ?_
                    refine v_iconst (pc := 223) (v := (-1)) X dL_acts_223 (by decide) ?_
                    refine v_icmp_ne (pc := 224) X 241 dL_acts_224 (by decide) (fun c_224 => ?_) (fun c_224 => ?_)
                    · exact absurd c_224 (by decide)
                    · refine v_aload_n (pc := 227) X dL_acts_227 0 rfl ?_
                      refine v_iload (pc := 228) X dL_acts_228 8 rfl ?_
                      refine v_iconst (pc := 230) (v := 1) X dL_acts_230 (by decide) ?_
                      refine v_eHS (pc := 231) (rest := []) (n := 3) (wr := (wg G ax gg ++ (ww G aw wA ++ (ww G ab bb)))) (wn := (wG G ag ad aT au al kk kt nw ++ (wD G ad dw df dr de ++ (wT G aT (upd th ((nI (4 + j180))).toNatClampNeg (-1)) tr tm tb (upd td ((nI (4 + j180))).toNatClampNeg 0) tg tl tn ++ (wT G au uh ur um ub ud ug ul un ++ (wL G al (upd lk (ls).toNatClampNeg 1) (upd lp (ls).toNatClampNeg (-1)) (upd lg (ls).toNatClampNeg (nI (4 + j180))) (upd lm (ls).toNatClampNeg 0) (ls + 1) lv ++ (wg G ax gg ++ (ww G aw wA ++ (ww G ab bb))))))))) (isC := [0, 1, 2, 3, 4, 5, 6, 7, 8, 9, 10, 11, 12, 13, 14, 15, 16, 17, 18, 19, 20, 21, 22, 23, 24, 25, 26, 27, 28]) (isR := [29, 30, 31]) (isP := [3, 4, 5, 6, 7, 8, 9, 10, 11, 12, 13, 14, 15, 16, 17, 18, 19, 20, 21, 22, 23, 24, 25, 26, 27, 28, 29, 30, 31, 0, 1, 2]) X (c_L_of1 l hfl G ag ad aT au al kk kt nw dw df dr de (upd th ((nI (4 + j180))).toNatClampNeg (-1)) tr tm tb (upd td ((nI (4 + j180))).toNatClampNeg 0) tg tl tn uh ur um ub ud ug ul un (upd lk (ls).toNatClampNeg 1) (upd lp (ls).toNatClampNeg (-1)) (upd lg (ls).toNatClampNeg (nI (4 + j180))) (upd lm (ls).toNatClampNeg 0) (ls + 1) lv (nI (4 + j180)) hq9 hth2) gL_acts_L_of rfl rfl rfl (by decide +kernel) ⟨Nat.le_of_ble_eq_true rfl, Nat.le_of_ble_eq_true rfl⟩ dL_acts_231 rfl rfl (Nat.le_of_ble_eq_true rfl) ⟨Nat.le_of_ble_eq_true rfl, Nat.le_of_ble_eq_true rfl⟩ ⟨rfl, rfl, rfl, rfl, by decide, rfl, rfl⟩ ?_
                      refine v_if_ne (pc := 234) X 241 dL_acts_234 (by decide) (fun c_234 => ?_) (fun c_234 => ?_)
                      · exact False.elim (c_234 (no_tr hth2 hq9 (gu_4 hj180) (upd_at _ _ _)))
                      · refine v_iconst (pc := 237) (v := 1) X dL_acts_237 (by decide) ?_
                        refine v_goto (pc := 238) X 242 dL_acts_238 (by decide) ?_
                        refine v_widen (k := 267) (n := 1602) (by omega) (by omega) ?_
                        exact v_zret (pc := 242) X hr (by rfl) dL_acts_242 (mkS kk kt nw dw df dr de (upd th ((nI (4 + j180))).toNatClampNeg (-1)) tr tm tb (upd td ((nI (4 + j180))).toNatClampNeg 0) tg tl tn uh ur um ub ud ug ul un (upd lk (ls).toNatClampNeg 1) (upd lp (ls).toNatClampNeg (-1)) (upd lg (ls).toNatClampNeg (nI (4 + j180))) (upd lm (ls).toNatClampNeg 0) (ls + 1) lv gg wA bb) (rfl) (⟨rfl, hI2⟩)
                · exact False.elim (c_203 (host_ge hth hq9 s195))
          · have hI2 := pi_issue hI ht hp
            refine v_aload_n (pc := 120) X dL_acts_120 0 rfl ?_
            refine v_iload (pc := 121) X dL_acts_121 7 rfl ?_
            refine v_eHS (pc := 123) (rest := []) (n := 2) (wr := (wg G ax gg ++ (ww G aw wA ++ (ww G ab bb)))) (wn := (wG G ag ad aT au al kk kt nw ++ (wD G ad dw df dr de ++ (wT G aT th tr tm tb td (upd tg ((nI j15)).toNatClampNeg tn) (upd tl ((nI j15)).toNatClampNeg 0) (tn + 1) ++ (wT G au uh ur um ub ud ug ul un ++ (wL G al (upd lk (ls).toNatClampNeg 3) (upd lp (ls).toNatClampNeg (nI j15)) (upd lg (ls).toNatClampNeg (-1)) (upd lm (ls).toNatClampNeg 0) (ls + 1) lv ++ (wg G ax gg ++ (ww G aw wA ++ (ww G ab bb))))))))) (isC := [0, 1, 2, 3, 4, 5, 6, 7, 8, 9, 10, 11, 12, 13, 14, 15, 16, 17, 18, 19, 20, 21, 22, 23, 24, 25, 26, 27, 28]) (isR := [29, 30, 31]) (isP := [3, 4, 5, 6, 7, 8, 9, 10, 11, 12, 13, 14, 15, 16, 17, 18, 19, 20, 21, 22, 23, 24, 25, 26, 27, 28, 29, 30, 31, 0, 1, 2]) X (c_issueY l hfl G ag ad aT au al kk kt nw dw df dr de th tr tm tb td tg tl tn uh ur um ub ud ug ul un lk lp lg lm ls lv (nI j15) hp h5 hls) gL_acts_L_issue rfl rfl rfl (by decide +kernel) ⟨Nat.le_of_ble_eq_true rfl, Nat.le_of_ble_eq_true rfl⟩ dL_acts_123 rfl rfl (Nat.le_of_ble_eq_true rfl) ⟨Nat.le_of_ble_eq_true rfl, Nat.le_of_ble_eq_true rfl⟩ ⟨rfl, rfl, rfl, rfl, by decide, rfl, rfl⟩ ?_
            refine v_istore (pc := 126) (lv' := [(0, .ref (ag 0)), (1, .ref (ax 0)), (2, .ref (aw 0)), (3, .ref (ab 0)), (4, .int p0), (5, .int p1), (6, .int (nI j4)), (7, .int (nI j15)), (8, .int tn)]) X dL_acts_126 (Nat.le_of_ble_eq_true rfl) [1, 2, 3, 4, 5, 6, 7, 8, 0] rfl ?_
            refine v_aload_n (pc := 128) X dL_acts_128 3 rfl ?_
            refine v_iload (pc := 129) X dL_acts_129 7 rfl ?_
            refine v_iload (pc := 131) X dL_acts_131 8 rfl ?_
            refine v_iast (pc := 133) (ws' := (wG G ag ad aT au al kk kt nw ++ (wD G ad dw df dr de ++ (wT G aT th tr tm tb td (upd tg ((nI j15)).toNatClampNeg tn) (upd tl ((nI j15)).toNatClampNeg 0) (tn + 1) ++ (wT G au uh ur um ub ud ug ul un ++ (wL G al (upd lk (ls).toNatClampNeg 3) (upd lp (ls).toNatClampNeg (nI j15)) (upd lg (ls).toNatClampNeg (-1)) (upd lm (ls).toNatClampNeg 0) (ls + 1) lv ++ (wg G ax gg ++ (ww G aw wA ++ (ww G ab (upd bb ((nI j15)).toNatClampNeg tn)))))))))) X dL_acts_133 31 rfl hp rfl ?_
            refine v_aload_n (pc := 134) X dL_acts_134 1 rfl ?_
            refine v_iconst (pc := 135) (v := 2) X dL_acts_135 (by decide) ?_
            refine v_dup2 (pc := 136) X dL_acts_136 rfl rfl ?_
            refine v_iald (pc := 137) X dL_acts_137 29 rfl (by unfold vp_in; decide) rfl ?_
            refine v_top (b := tn) (hg.2.2.1) ?_
            refine v_iconst (pc := 138) (v := 1) X dL_acts_138 (by decide) ?_
            refine v_iadd (pc := 139) X dL_acts_139 rfl ?_
            refine v_iast (pc := 140) (ws' := (wG G ag ad aT au al kk kt nw ++ (wD G ad dw df dr de ++ (wT G aT th tr tm tb td (upd tg ((nI j15)).toNatClampNeg tn) (upd tl ((nI j15)).toNatClampNeg 0) (tn + 1) ++ (wT G au uh ur um ub ud ug ul un ++ (wL G al (upd lk (ls).toNatClampNeg 3) (upd lp (ls).toNatClampNeg (nI j15)) (upd lg (ls).toNatClampNeg (-1)) (upd lm (ls).toNatClampNeg 0) (ls + 1) lv ++ (wg G ax (upd gg (2 : Int32).toNatClampNeg (tn + 1)) ++ (ww G aw wA ++ (ww G ab (upd bb ((nI j15)).toNatClampNeg tn)))))))))) X dL_acts_140 29 rfl (by unfold vp_in; decide) rfl ?_
            refine v_iload (pc := 141) X dL_acts_141 8 rfl ?_
            refine v_aload_n (pc := 143) X dL_acts_143 1 rfl ?_
            refine v_iconst (pc := 144) (v := 2) X dL_acts_144 (by decide) ?_
            refine v_iald (pc := 145) X dL_acts_145 29 rfl (by unfold vp_in; decide) rfl ?_
            refine v_top (b := (tn + 1)) (upd_at _ _ _) ?_
            refine v_iconst (pc := 146) (v := 1) X dL_acts_146 (by decide) ?_
            refine v_isub (pc := 147) X dL_acts_147 rfl ?_
            refine v_icmp_ne (pc := 148) X 166 dL_acts_148 (by decide) (fun c_148 => ?_) (fun c_148 => ?_)
            · exact False.elim (c_148 (tn_p tn))
            · obtain ⟨B9, hB9, eB9⟩ := pi_tn hI
              have hs1 : sgR1 5 0 0 (sgF tn (nI j15) 0) (nI j15) tn = 1 := by rw [eB9]; exact isSign_1 _ hj15 _ (by omega)
              refine v_aload_n (pc := 151) X dL_acts_151 0 rfl ?_
              refine v_iload (pc := 152) X dL_acts_152 7 rfl ?_
              refine v_iload (pc := 154) X dL_acts_154 8 rfl ?_
              refine v_callSi (pc := 156) (rest := []) (n := 3) (wr := (wg G ax (upd gg (2 : Int32).toNatClampNeg (tn + 1)) ++ (ww G aw wA ++ (ww G ab (upd bb ((nI j15)).toNatClampNeg tn))))) (wn := fun (q9 : Unit) => (wG G ag ad aT au al kk kt nw ++ (wD G ad dw df dr de ++ (wT G aT th tr tm tb td (upd tg ((nI j15)).toNatClampNeg tn) (upd tl ((nI j15)).toNatClampNeg 0) (tn + 1) ++ (wT G au uh ur um ub ud ug ul un ++ (wL G al (upd lk (ls).toNatClampNeg 3) (upd lp (ls).toNatClampNeg (nI j15)) (upd lg (ls).toNatClampNeg (-1)) (upd lm (ls).toNatClampNeg 0) (ls + 1) lv ++ (wg G ax (upd gg (2 : Int32).toNatClampNeg (tn + 1)) ++ (ww G aw wA ++ (ww G ab (upd bb ((nI j15)).toNatClampNeg tn)))))))))) (isC := [0, 1, 2, 3, 4, 5, 6, 7, 8, 9, 10, 11, 12, 13, 14, 15, 16, 17, 18, 19, 20, 21, 22, 23, 24, 25, 26, 27, 28]) (isR := [29, 30, 31]) (isP := [3, 4, 5, 6, 7, 8, 9, 10, 11, 12, 13, 14, 15, 16, 17, 18, 19, 20, 21, 22, 23, 24, 25, 26, 27, 28, 29, 30, 31, 0, 1, 2]) X (c_L_isSign l hfl G ag ad aT au al kk kt nw dw df dr de th tr tm tb td (upd tg ((nI j15)).toNatClampNeg tn) (upd tl ((nI j15)).toNatClampNeg 0) (tn + 1) uh ur um ub ud ug ul un (upd lk (ls).toNatClampNeg 3) (upd lp (ls).toNatClampNeg (nI j15)) (upd lg (ls).toNatClampNeg (-1)) (upd lm (ls).toNatClampNeg 0) (ls + 1) lv (nI j15) tn (upd_at _ _ _) (pi_tg hI2 (by omega)) hs1) gL_acts_L_isSign rfl rfl rfl (by decide +kernel) ⟨Nat.le_of_ble_eq_true rfl, Nat.le_of_ble_eq_true rfl⟩ dL_acts_156 rfl rfl (Nat.le_of_ble_eq_true rfl) ⟨Nat.le_of_ble_eq_true rfl, Nat.le_of_ble_eq_true rfl⟩ ⟨rfl, rfl, rfl, rfl, by decide, rfl, fun _ => rfl⟩ (fun r156 q156 h156 => ?_)
              refine v_ws (ws' := (wG G ag ad aT au al kk kt nw ++ (wD G ad dw df dr de ++ (wT G aT th tr tm tb td (upd tg ((nI j15)).toNatClampNeg tn) (upd tl ((nI j15)).toNatClampNeg 0) (tn + 1) ++ (wT G au uh ur um ub ud ug ul un ++ (wL G al (upd lk (ls).toNatClampNeg 3) (upd lp (ls).toNatClampNeg (nI j15)) (upd lg (ls).toNatClampNeg (-1)) (upd lm (ls).toNatClampNeg 0) (ls + 1) lv ++ (wg G ax (upd gg (2 : Int32).toNatClampNeg (tn + 1)) ++ (ww G aw wA ++ (ww G ab (upd bb ((nI j15)).toNatClampNeg tn)))))))))) rfl ?_
              obtain rfl : r156 = 1 := h156
              refine v_if_eq (pc := 159) X 166 dL_acts_159 (by decide) (fun c_159 => ?_) (fun c_159 => ?_)
              · exact absurd c_159 (by decide)
              · refine v_iconst (pc := 162) (v := 1) X dL_acts_162 (by decide) ?_
                refine v_goto (pc := 163) X 167 dL_acts_163 (by decide) ?_
                refine v_widen (k := 267) (n := 1602) (by omega) (by omega) ?_
                exact v_zret (pc := 167) X hr (by rfl) dL_acts_167 (mkS kk kt nw dw df dr de th tr tm tb td (upd tg ((nI j15)).toNatClampNeg tn) (upd tl ((nI j15)).toNatClampNeg 0) (tn + 1) uh ur um ub ud ug ul un (upd lk (ls).toNatClampNeg 3) (upd lp (ls).toNatClampNeg (nI j15)) (upd lg (ls).toNatClampNeg (-1)) (upd lm (ls).toNatClampNeg 0) (ls + 1) lv (upd gg (2 : Int32).toNatClampNeg (tn + 1)) wA (upd bb ((nI j15)).toNatClampNeg tn)) (rfl) (⟨rfl, hI2⟩)
        · refine v_aload_n (pc := 103) X dL_acts_103 0 rfl ?_
          refine v_aload_n (pc := 104) X dL_acts_104 1 rfl ?_
          refine v_iload (pc := 105) X dL_acts_105 7 rfl ?_
          refine v_iload (pc := 107) X dL_acts_107 5 rfl ?_
          refine v_callSi (pc := 109) (rest := []) (n := 4) (wr := (ww G aw wA ++ (ww G ab bb))) (wn := fun (q9 : Nat → Nat → Int32) => (wG G ag ad aT au al (q9 0) (q9 1) (q9 2 0) ++ (wD G ad (q9 3) (q9 4) (q9 5) (q9 6) ++ (wT G aT (q9 7) (q9 8) (q9 9) (q9 10) (q9 11) (q9 12) (q9 13) (q9 14 0) ++ (wT G au (q9 15) (q9 16) (q9 17) (q9 18) (q9 19) (q9 20) (q9 21) (q9 22 0) ++ (wL G al (q9 23) (q9 24) (q9 25) (q9 26) (q9 27 0) (q9 28 0) ++ (wg G ax (q9 29) ++ (ww G aw wA ++ (ww G ab bb))))))))) (isC := [0, 1, 2, 3, 4, 5, 6, 7, 8, 9, 10, 11, 12, 13, 14, 15, 16, 17, 18, 19, 20, 21, 22, 23, 24, 25, 26, 27, 28, 29]) (isR := [30, 31]) (isP := [2, 3, 4, 5, 6, 7, 8, 9, 10, 11, 12, 13, 14, 15, 16, 17, 18, 19, 20, 21, 22, 23, 24, 25, 26, 27, 28, 29, 30, 31, 0, 1]) X (c_L_loses l hfl G ag ad aT au al ax kk kt nw dw df dr de th tr tm tb td tg tl tn uh ur um ub ud ug ul un lk lp lg lm ls lv gg (nI j15) p1 t wA bb hp hI ht) gL_acts_L_loses rfl rfl rfl (by decide +kernel) ⟨Nat.le_of_ble_eq_true rfl, Nat.le_of_ble_eq_true rfl⟩ dL_acts_109 rfl rfl (Nat.le_of_ble_eq_true rfl) ⟨Nat.le_of_ble_eq_true rfl, Nat.le_of_ble_eq_true rfl⟩ ⟨rfl, rfl, rfl, rfl, by decide, rfl, fun _ => rfl⟩ (fun r109 q109 h109 => ?_)
          refine v_ws (ws' := (wG G ag ad aT au al (q109 0) (q109 1) (q109 2 0) ++ (wD G ad (q109 3) (q109 4) (q109 5) (q109 6) ++ (wT G aT (q109 7) (q109 8) (q109 9) (q109 10) (q109 11) (q109 12) (q109 13) (q109 14 0) ++ (wT G au (q109 15) (q109 16) (q109 17) (q109 18) (q109 19) (q109 20) (q109 21) (q109 22 0) ++ (wL G al (q109 23) (q109 24) (q109 25) (q109 26) (q109 27 0) (q109 28 0) ++ (wg G ax (q109 29) ++ (ww G aw wA ++ (ww G ab bb))))))))) rfl ?_
          obtain ⟨rfl, hI109⟩ := h109
          refine v_widen (k := 267) (n := 1602) (by omega) (by omega) ?_
          exact v_zret (pc := 112) X hr (by rfl) dL_acts_112 (mkS (q109 0) (q109 1) (q109 2 0) (q109 3) (q109 4) (q109 5) (q109 6) (q109 7) (q109 8) (q109 9) (q109 10) (q109 11) (q109 12) (q109 13) (q109 14 0) (q109 15) (q109 16) (q109 17) (q109 18) (q109 19) (q109 20) (q109 21) (q109 22 0) (q109 23) (q109 24) (q109 25) (q109 26) (q109 27 0) (q109 28 0) (q109 29) wA bb) (rfl) (⟨rfl, hI109⟩)
      · refine v_iconst (pc := 59) (v := 1) X dL_acts_59 (by decide) ?_
        refine v_iload (pc := 60) X dL_acts_60 5 rfl ?_
        refine v_bipush (pc := 62) (v := 12) X dL_acts_62 (by decide) ?_
        refine v_e0S (pc := 64) (rest := [.int 1]) (n := 2) X (c_L_low l G p1 12 (by decide)) gL_acts_L_low rfl rfl rfl (by decide +kernel) ⟨Nat.le_of_ble_eq_true rfl, Nat.le_of_ble_eq_true rfl⟩ dL_acts_64 rfl rfl (Nat.le_of_ble_eq_true rfl) ⟨Nat.le_of_ble_eq_true rfl, Nat.le_of_ble_eq_true rfl⟩ ?_
        obtain ⟨j64, hj64, ej64⟩ := low_is p1 (N := 12) (by decide) (by decide)
        refine v_top (b := (nI j64)) (ej64) ?_
        refine v_iadd (pc := 67) X dL_acts_67 rfl ?_
        refine v_top (b := (nI (1 + j64))) (nI_add 1 j64) ?_
        refine v_istore (pc := 68) (lv' := [(0, .ref (ag 0)), (1, .ref (ax 0)), (2, .ref (aw 0)), (3, .ref (ab 0)), (4, .int p0), (5, .int p1), (6, .int (nI j4)), (7, .int (nI j15)), (8, .int (nI (1 + j64)))]) X dL_acts_68 (Nat.le_of_ble_eq_true rfl) [1, 2, 3, 4, 5, 6, 7, 8, 0] rfl ?_
        refine v_aload_n (pc := 70) X dL_acts_70 1 rfl ?_
        refine v_iconst (pc := 71) (v := 0) X dL_acts_71 (by decide) ?_
        refine v_dup2 (pc := 72) X dL_acts_72 rfl rfl ?_
        refine v_iald (pc := 73) X dL_acts_73 29 rfl (by unfold vp_in; decide) rfl ?_
        refine v_top (b := nw) (hg.1) ?_
        refine v_iload (pc := 74) X dL_acts_74 8 rfl ?_
        refine v_iadd (pc := 76) X dL_acts_76 rfl ?_
        refine v_iast (pc := 77) (ws' := (wG G ag ad aT au al kk kt nw ++ (wD G ad dw df dr de ++ (wT G aT th tr tm tb td tg tl tn ++ (wT G au uh ur um ub ud ug ul un ++ (wL G al lk lp lg lm ls lv ++ (wg G ax (upd gg (0 : Int32).toNatClampNeg (nw + (nI (1 + j64)))) ++ (ww G aw wA ++ (ww G ab bb))))))))) X dL_acts_77 29 rfl (by unfold vp_in; decide) rfl ?_
        refine v_aload_n (pc := 78) X dL_acts_78 0 rfl ?_
        refine v_iload (pc := 79) X dL_acts_79 8 rfl ?_
        refine v_eHS (pc := 81) (rest := []) (n := 2) (wr := (wg G ax (upd gg (0 : Int32).toNatClampNeg (nw + (nI (1 + j64)))) ++ (ww G aw wA ++ (ww G ab bb)))) (wn := (wG G ag ad aT au al kk kt (nw + (nI (1 + j64))) ++ (wD G ad dw df dr de ++ (wT G aT th tr tm tb td tg tl tn ++ (wT G au uh ur um ub ud ug ul un ++ (wL G al lk lp lg lm ls lv ++ (wg G ax (upd gg (0 : Int32).toNatClampNeg (nw + (nI (1 + j64)))) ++ (ww G aw wA ++ (ww G ab bb))))))))) (isC := [0, 1, 2, 3, 4, 5, 6, 7, 8, 9, 10, 11, 12, 13, 14, 15, 16, 17, 18, 19, 20, 21, 22, 23, 24, 25, 26, 27, 28]) (isR := [29, 30, 31]) (isP := [3, 4, 5, 6, 7, 8, 9, 10, 11, 12, 13, 14, 15, 16, 17, 18, 19, 20, 21, 22, 23, 24, 25, 26, 27, 28, 29, 30, 31, 0, 1, 2]) X (c_passY l hfl G ag ad aT au al kk kt nw dw df dr de th tr tm tb td tg tl tn uh ur um ub ud ug ul un lk lp lg lm ls lv (nI (1 + j64)) (one_lt (by omega)) (Int32.le_trans (one_le (n := 12) hj64 (by decide)) (by decide))) gL_acts_L_pass rfl rfl rfl (by decide +kernel) ⟨Nat.le_of_ble_eq_true rfl, Nat.le_of_ble_eq_true rfl⟩ dL_acts_81 rfl rfl (Nat.le_of_ble_eq_true rfl) ⟨Nat.le_of_ble_eq_true rfl, Nat.le_of_ble_eq_true rfl⟩ ⟨rfl, rfl, rfl, rfl, by decide, rfl, rfl⟩ ?_
        refine v_aload_n (pc := 84) X dL_acts_84 1 rfl ?_
        refine v_iconst (pc := 85) (v := 0) X dL_acts_85 (by decide) ?_
        refine v_iald (pc := 86) X dL_acts_86 29 rfl (by unfold vp_in; decide) rfl ?_
        refine v_top (b := (nw + (nI (1 + j64)))) (upd_at _ _ _) ?_
        refine v_icmp_ne (pc := 87) X 94 dL_acts_87 (by decide) (fun c_87 => ?_) (fun c_87 => ?_)
        · exact False.elim (c_87 rfl)
        · refine v_iconst (pc := 90) (v := 1) X dL_acts_90 (by decide) ?_
          refine v_goto (pc := 91) X 95 dL_acts_91 (by decide) ?_
          refine v_widen (k := 267) (n := 1602) (by omega) (by omega) ?_
          exact v_zret (pc := 95) X hr (by rfl) dL_acts_95 (mkS kk kt (nw + (nI (1 + j64))) dw df dr de th tr tm tb td tg tl tn uh ur um ub ud ug ul un lk lp lg lm ls lv (upd gg (0 : Int32).toNatClampNeg (nw + (nI (1 + j64)))) wA bb) (rfl) (⟨rfl, pi_pass hI ht (by omega)⟩)
    · refine v_aload_n (pc := 44) X dL_acts_44 0 rfl ?_
      refine v_aload_n (pc := 45) X dL_acts_45 1 rfl ?_
      refine v_iload (pc := 46) X dL_acts_46 5 rfl ?_
      refine v_callSi (pc := 48) (rest := []) (n := 3) (wr := (ww G aw wA ++ (ww G ab bb))) (wn := fun (q9 : Nat → Nat → Int32) => (wG G ag ad aT au al (q9 0) (q9 1) (q9 2 0) ++ (wD G ad (q9 3) (q9 4) (q9 5) (q9 6) ++ (wT G aT (q9 7) (q9 8) (q9 9) (q9 10) (q9 11) (q9 12) (q9 13) (q9 14 0) ++ (wT G au (q9 15) (q9 16) (q9 17) (q9 18) (q9 19) (q9 20) (q9 21) (q9 22 0) ++ (wL G al (q9 23) (q9 24) (q9 25) (q9 26) (q9 27 0) (q9 28 0) ++ (wg G ax (q9 29) ++ (ww G aw wA ++ (ww G ab bb))))))))) (isC := [0, 1, 2, 3, 4, 5, 6, 7, 8, 9, 10, 11, 12, 13, 14, 15, 16, 17, 18, 19, 20, 21, 22, 23, 24, 25, 26, 27, 28, 29]) (isR := [30, 31]) (isP := [2, 3, 4, 5, 6, 7, 8, 9, 10, 11, 12, 13, 14, 15, 16, 17, 18, 19, 20, 21, 22, 23, 24, 25, 26, 27, 28, 29, 30, 31, 0, 1]) X (c_L_vouches l hfl G ag ad aT au al ax kk kt nw dw df dr de th tr tm tb td tg tl tn uh ur um ub ud ug ul un lk lp lg lm ls lv gg p1 t wA bb hI ht) gL_acts_L_vouches rfl rfl rfl (by decide +kernel) ⟨Nat.le_of_ble_eq_true rfl, Nat.le_of_ble_eq_true rfl⟩ dL_acts_48 rfl rfl (Nat.le_of_ble_eq_true rfl) ⟨Nat.le_of_ble_eq_true rfl, Nat.le_of_ble_eq_true rfl⟩ ⟨rfl, rfl, rfl, rfl, by decide, rfl, fun _ => rfl⟩ (fun r48 q48 h48 => ?_)
      refine v_ws (ws' := (wG G ag ad aT au al (q48 0) (q48 1) (q48 2 0) ++ (wD G ad (q48 3) (q48 4) (q48 5) (q48 6) ++ (wT G aT (q48 7) (q48 8) (q48 9) (q48 10) (q48 11) (q48 12) (q48 13) (q48 14 0) ++ (wT G au (q48 15) (q48 16) (q48 17) (q48 18) (q48 19) (q48 20) (q48 21) (q48 22 0) ++ (wL G al (q48 23) (q48 24) (q48 25) (q48 26) (q48 27 0) (q48 28 0) ++ (wg G ax (q48 29) ++ (ww G aw wA ++ (ww G ab bb))))))))) rfl ?_
      obtain ⟨rfl, hI48⟩ := h48
      refine v_widen (k := 267) (n := 1602) (by omega) (by omega) ?_
      exact v_zret (pc := 51) X hr (by rfl) dL_acts_51 (mkS (q48 0) (q48 1) (q48 2 0) (q48 3) (q48 4) (q48 5) (q48 6) (q48 7) (q48 8) (q48 9) (q48 10) (q48 11) (q48 12) (q48 13) (q48 14 0) (q48 15) (q48 16) (q48 17) (q48 18) (q48 19) (q48 20) (q48 21) (q48 22 0) (q48 23) (q48 24) (q48 25) (q48 26) (q48 27 0) (q48 28 0) (q48 29) wA bb) (rfl) (⟨rfl, hI48⟩)
  · refine v_aload_n (pc := 26) X dL_acts_26 0 rfl ?_
    refine v_aload_n (pc := 27) X dL_acts_27 1 rfl ?_
    refine v_aload_n (pc := 28) X dL_acts_28 2 rfl ?_
    refine v_iload (pc := 29) X dL_acts_29 7 rfl ?_
    refine v_iload (pc := 31) X dL_acts_31 5 rfl ?_
    refine v_callSi (pc := 33) (rest := []) (n := 5) (wr := (ww G ab bb)) (wn := fun (q9 : Nat → Nat → Int32) => (wG G ag ad aT au al (q9 0) (q9 1) (q9 2 0) ++ (wD G ad (q9 3) (q9 4) (q9 5) (q9 6) ++ (wT G aT (q9 7) (q9 8) (q9 9) (q9 10) (q9 11) (q9 12) (q9 13) (q9 14 0) ++ (wT G au (q9 15) (q9 16) (q9 17) (q9 18) (q9 19) (q9 20) (q9 21) (q9 22 0) ++ (wL G al (q9 23) (q9 24) (q9 25) (q9 26) (q9 27 0) (q9 28 0) ++ (wg G ax (q9 29) ++ (ww G aw (q9 30) ++ (ww G ab bb))))))))) (isC := [0, 1, 2, 3, 4, 5, 6, 7, 8, 9, 10, 11, 12, 13, 14, 15, 16, 17, 18, 19, 20, 21, 22, 23, 24, 25, 26, 27, 28, 29, 30]) (isR := [31]) (isP := [1, 2, 3, 4, 5, 6, 7, 8, 9, 10, 11, 12, 13, 14, 15, 16, 17, 18, 19, 20, 21, 22, 23, 24, 25, 26, 27, 28, 29, 30, 31, 0]) X (c_L_logsIn l hfl G ag ad aT au al ax aw kk kt nw dw df dr de th tr tm tb td tg tl tn uh ur um ub ud ug ul un lk lp lg lm ls lv gg wA (nI j15) p1 t bb hp hI ht) gL_acts_L_logsIn rfl rfl rfl (by decide +kernel) ⟨Nat.le_of_ble_eq_true rfl, Nat.le_of_ble_eq_true rfl⟩ dL_acts_33 rfl rfl (Nat.le_of_ble_eq_true rfl) ⟨Nat.le_of_ble_eq_true rfl, Nat.le_of_ble_eq_true rfl⟩ ⟨rfl, rfl, rfl, rfl, by decide, rfl, fun _ => rfl⟩ (fun r33 q33 h33 => ?_)
    refine v_ws (ws' := (wG G ag ad aT au al (q33 0) (q33 1) (q33 2 0) ++ (wD G ad (q33 3) (q33 4) (q33 5) (q33 6) ++ (wT G aT (q33 7) (q33 8) (q33 9) (q33 10) (q33 11) (q33 12) (q33 13) (q33 14 0) ++ (wT G au (q33 15) (q33 16) (q33 17) (q33 18) (q33 19) (q33 20) (q33 21) (q33 22 0) ++ (wL G al (q33 23) (q33 24) (q33 25) (q33 26) (q33 27 0) (q33 28 0) ++ (wg G ax (q33 29) ++ (ww G aw (q33 30) ++ (ww G ab bb))))))))) rfl ?_
    obtain ⟨rfl, hI33⟩ := h33
    refine v_widen (k := 267) (n := 1602) (by omega) (by omega) ?_
    exact v_zret (pc := 36) X hr (by rfl) dL_acts_36 (mkS (q33 0) (q33 1) (q33 2 0) (q33 3) (q33 4) (q33 5) (q33 6) (q33 7) (q33 8) (q33 9) (q33 10) (q33 11) (q33 12) (q33 13) (q33 14 0) (q33 15) (q33 16) (q33 17) (q33 18) (q33 19) (q33 20) (q33 21) (q33 22 0) (q33 23) (q33 24) (q33 25) (q33 26) (q33 27 0) (q33 28 0) (q33 29) (q33 30) bb) (rfl) (⟨rfl, hI33⟩)
