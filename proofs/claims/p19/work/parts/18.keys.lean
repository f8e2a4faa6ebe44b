
set_option maxHeartbeats 4000000 in
set_option maxRecDepth 100000 in
theorem c_L_areKeys (l : Launch) (hfl : l.stackTraces = false) (G : va_G) (ag : Nat → Nat) (ad : Nat → Nat) (aT : Nat → Nat) (au : Nat → Nat) (al : Nat → Nat) (ax : Nat → Nat) (kk : Nat → Int32) (kt : Nat → Int32) (nw : Int32) (dw : Nat → Int32) (df : Nat → Int32) (dr : Nat → Int32) (de : Nat → Int32) (th : Nat → Int32) (tr : Nat → Int32) (tm : Nat → Int32) (tb : Nat → Int32) (td : Nat → Int32) (tg : Nat → Int32) (tl : Nat → Int32) (tn : Int32) (uh : Nat → Int32) (ur : Nat → Int32) (um : Nat → Int32) (ub : Nat → Int32) (ud : Nat → Int32) (ug : Nat → Int32) (ul : Nat → Int32) (un : Int32) (lk : Nat → Int32) (lp : Nat → Int32) (lg : Nat → Int32) (lm : Nat → Int32) (ls : Int32) (lv : Int32) (gg : Nat → Int32) (hth : ∀ j : Nat, j < 12 → inN (th j)) (hkt : ∀ j : Nat, j < 4 → kt j = 1) : Ki l yL_areKeys wsL_areKeys { frames := 8, cells := 264, slots := 1584, locals := 153 } 264 1584 G (wG G ag ad aT au al kk kt nw ++ (wD G ad dw df dr de ++ (wT G aT th tr tm tb td tg tl tn ++ (wT G au uh ur um ub ud ug ul un ++ (wL G al lk lp lg lm ls lv ++ (wg G ax gg)))))) [.ref (ag 0), .ref (ax 0)] (S := Unit) (fun x _ => x = 1) (fun _ => (wG G ag ad aT au al kk kt nw ++ (wD G ad dw df dr de ++ (wT G aT th tr tm tb td tg tl tn ++ (wT G au uh ur um ub ud ug ul un ++ (wL G al lk lp lg lm ls lv ++ (wg G ax gg))))))) := by
  refine v_ofi (cc := cL_areKeys) (nL := 7) (lv := [(0, .ref (ag 0)), (1, .ref (ax 0))]) (by decide) rfl (Nat.le_of_ble_eq_true rfl) rfl ?_
  intro p e s m args below meth c A X hr
  refine v_iconst (pc := 0) (v := 1) X dL_areKeys_0 (by decide) ?_
  refine v_istore_n (pc := 1) (lv' := [(0, .ref (ag 0)), (1, .ref (ax 0)), (2, .int 1)]) X dL_areKeys_1 rfl (Nat.le_of_ble_eq_true rfl) [1, 2, 0] rfl ?_
  refine v_iconst (pc := 2) (v := 0) X dL_areKeys_2 (by decide) ?_
  refine v_istore_n (pc := 3) (lv' := [(0, .ref (ag 0)), (1, .ref (ax 0)), (2, .int 1), (3, .int 0)]) X dL_areKeys_3 rfl (Nat.le_of_ble_eq_true rfl) [1, 2, 3, 0] rfl ?_
  have LP4 : ∀ (n4 : Nat) (x3 : Int32), n4 ≤ 5 → (x3 = nI (4 + 1 - n4) ∧ 1 ≤ n4 ∧ n4 ≤ 4 + 1) → V p l e (headSpec wsL_areKeys { frames := 8, cells := 264, slots := 1584, locals := 153 }).room s m args below meth c 7 G A (0 + 44 * (5 - n4)) (0 + 264 * (5 - n4)) (QI below args s G A 264 1584 (S := Unit) (fun x _ => x = 1) (fun _ => (wG G ag ad aT au al kk kt nw ++ (wD G ad dw df dr de ++ (wT G aT th tr tm tb td tg tl tn ++ (wT G au uh ur um ub ud ug ul un ++ (wL G al lk lp lg lm ls lv ++ (wg G ax gg)))))))) (wG G ag ad aT au al kk kt nw ++ (wD G ad dw df dr de ++ (wT G aT th tr tm tb td tg tl tn ++ (wT G au uh ur um ub ud ug ul un ++ (wL G al lk lp lg lm ls lv ++ (wg G ax gg)))))) [(0, .ref (ag 0)), (1, .ref (ax 0)), (2, .int 1), (3, .int x3)] 4 [] := by
    intro n4
    induction n4 with
    | zero => intro x3 hn4 hI4; exact False.elim (by omega)
    | succ n4 ih4 =>
      intro x3 hn4 hI4
      refine v_iload_n (pc := 4) X dL_areKeys_4 3 rfl ?_
      refine v_iconst (pc := 5) (v := 4) X dL_areKeys_5 (by decide) ?_
      refine v_icmp_ge (pc := 6) X 149 dL_areKeys_6 (by decide) (fun c_6 => ?_) (fun c_6 => ?_)
      · refine v_iload_n (pc := 149) X dL_areKeys_149 2 rfl ?_
        refine v_widen (k := 264) (n := 1584) (by omega) (by omega) ?_
        exact v_zret (pc := 150) X hr (by rfl) dL_areKeys_150 (()) (rfl) (rfl)
      · refine v_iload_n (pc := 9) X dL_areKeys_9 2 rfl ?_
        refine v_if_eq (pc := 10) X 149 dL_areKeys_10 (by decide) (fun c_10 => ?_) (fun c_10 => ?_)
        · exact absurd c_10 (by decide)
        · have hk3 : vp_in x3 4 := (cnt_in (by decide) (by decide) hI4 c_6).1
          refine v_aload_n (pc := 13) X dL_areKeys_13 0 rfl ?_
          refine v_iload_n (pc := 14) X dL_areKeys_14 3 rfl ?_
          refine v_iconst (pc := 15) (v := 0) X dL_areKeys_15 (by decide) ?_
          refine v_eHS (pc := 16) (rest := []) (n := 3) (wr := (wg G ax gg)) (wn := (wG G ag ad aT au al kk kt nw ++ (wD G ad dw df dr de ++ (wT G aT th tr tm tb td tg tl tn ++ (wT G au uh ur um ub ud ug ul un ++ (wL G al lk lp lg lm ls lv ++ (wg G ax gg))))))) (isC := [0, 1, 2, 3, 4, 5, 6, 7, 8, 9, 10, 11, 12, 13, 14, 15, 16, 17, 18, 19, 20, 21, 22, 23, 24, 25, 26, 27, 28]) (isR := [29]) (isP := [1, 2, 3, 4, 5, 6, 7, 8, 9, 10, 11, 12, 13, 14, 15, 16, 17, 18, 19, 20, 21, 22, 23, 24, 25, 26, 27, 28, 29, 0]) X (c_L_keyOf0 l hfl G ag ad aT au al kk kt nw dw df dr de th tr tm tb td tg tl tn uh ur um ub ud ug ul un lk lp lg lm ls lv x3 hk3 hth) gL_areKeys_L_keyOf rfl rfl rfl (by decide +kernel) ⟨Nat.le_of_ble_eq_true rfl, Nat.le_of_ble_eq_true rfl⟩ dL_areKeys_16 rfl rfl (Nat.le_of_ble_eq_true rfl) ⟨by show _ ≤ 264; omega, by show _ ≤ 1584; omega⟩ ⟨rfl, rfl, rfl, rfl, by decide, rfl, rfl⟩ ?_
          refine v_istore (pc := 19) (lv' := [(0, .ref (ag 0)), (1, .ref (ax 0)), (2, .int 1), (3, .int x3), (4, .int (kk (x3).toNatClampNeg))]) X dL_areKeys_19 (Nat.le_of_ble_eq_true rfl) [1, 2, 3, 4, 0] rfl ?_
          refine v_iconst (pc := 21) (v := 0) X dL_areKeys_21 (by decide) ?_
          refine v_istore (pc := 22) (lv' := [(0, .ref (ag 0)), (1, .ref (ax 0)), (2, .int 1), (3, .int x3), (4, .int (kk (x3).toNatClampNeg)), (5, .int 0)]) X dL_areKeys_22 (Nat.le_of_ble_eq_true rfl) [1, 2, 3, 4, 5, 0] rfl ?_
          refine v_iconst (pc := 24) (v := 0) X dL_areKeys_24 (by decide) ?_
          refine v_istore (pc := 25) (lv' := [(0, .ref (ag 0)), (1, .ref (ax 0)), (2, .int 1), (3, .int x3), (4, .int (kk (x3).toNatClampNeg)), (5, .int 0), (6, .int 0)]) X dL_areKeys_25 (Nat.le_of_ble_eq_true rfl) [1, 2, 3, 4, 5, 6, 0] rfl ?_
          have LP27 : ∀ (n27 : Nat) (x5 : Int32) (x6 : Int32), n27 ≤ 13 → (x6 = nI (12 + 1 - n27) ∧ 1 ≤ n27 ∧ n27 ≤ 12 + 1) → (FX3_countUsers_4_x2 n27 x5 x6 kk nw de th td tl x3 = f_X3_countUsers_r kk nw de th td tl x3) → V p l e (headSpec wsL_areKeys { frames := 8, cells := 264, slots := 1584, locals := 153 }).room s m args below meth c 7 G A ((0 + 44 * (5 - (n4 + 1))) + 1 + 3 * (13 - n27)) ((0 + 264 * (5 - (n4 + 1))) + 6 + 18 * (13 - n27)) (QI below args s G A 264 1584 (S := Unit) (fun x _ => x = 1) (fun _ => (wG G ag ad aT au al kk kt nw ++ (wD G ad dw df dr de ++ (wT G aT th tr tm tb td tg tl tn ++ (wT G au uh ur um ub ud ug ul un ++ (wL G al lk lp lg lm ls lv ++ (wg G ax gg)))))))) (wG G ag ad aT au al kk kt nw ++ (wD G ad dw df dr de ++ (wT G aT th tr tm tb td tg tl tn ++ (wT G au uh ur um ub ud ug ul un ++ (wL G al lk lp lg lm ls lv ++ (wg G ax gg)))))) [(0, .ref (ag 0)), (1, .ref (ax 0)), (2, .int 1), (3, .int x3), (4, .int (kk (x3).toNatClampNeg)), (5, .int x5), (6, .int x6)] 27 [] := by
            intro n27
            induction n27 with
            | zero => intro x5 x6 hn27 hI27 hM27; exact False.elim (by omega)
            | succ n27 ih27 =>
              intro x5 x6 hn27 hI27 hM27
              refine v_iload (pc := 27) X dL_areKeys_27 6 rfl ?_
              refine v_bipush (pc := 29) (v := 12) X dL_areKeys_29 (by decide) ?_
              refine v_icmp_ge (pc := 31) X 93 dL_areKeys_31 (by decide) (fun c_31 => ?_) (fun c_31 => ?_)
              · have hT : x5 = f_X3_countUsers_r kk nw de th td tl x3 := (key_end kk nw de th td tl x3 x6 x5 n27 c_31).symm.trans hM27
                refine v_aload_n (pc := 93) X dL_areKeys_93 0 rfl ?_
                refine v_iload_n (pc := 94) X dL_areKeys_94 3 rfl ?_
                refine v_iconst (pc := 95) (v := 2) X dL_areKeys_95 (by decide) ?_
                refine v_eHS (pc := 96) (rest := []) (n := 3) (wr := (wg G ax gg)) (wn := (wG G ag ad aT au al kk kt nw ++ (wD G ad dw df dr de ++ (wT G aT th tr tm tb td tg tl tn ++ (wT G au uh ur um ub ud ug ul un ++ (wL G al lk lp lg lm ls lv ++ (wg G ax gg))))))) (isC := [0, 1, 2, 3, 4, 5, 6, 7, 8, 9, 10, 11, 12, 13, 14, 15, 16, 17, 18, 19, 20, 21, 22, 23, 24, 25, 26, 27, 28]) (isR := [29]) (isP := [1, 2, 3, 4, 5, 6, 7, 8, 9, 10, 11, 12, 13, 14, 15, 16, 17, 18, 19, 20, 21, 22, 23, 24, 25, 26, 27, 28, 29, 0]) X (c_L_keyOf2 l hfl G ag ad aT au al kk kt nw dw df dr de th tr tm tb td tg tl tn uh ur um ub ud ug ul un lk lp lg lm ls lv x3 hk3 hth) gL_areKeys_L_keyOf rfl rfl rfl (by decide +kernel) ⟨Nat.le_of_ble_eq_true rfl, Nat.le_of_ble_eq_true rfl⟩ dL_areKeys_96 rfl rfl (Nat.le_of_ble_eq_true rfl) ⟨by show _ ≤ 264; omega, by show _ ≤ 1584; omega⟩ ⟨rfl, rfl, rfl, rfl, by decide, rfl, rfl⟩ ?_
                refine v_iload (pc := 99) X dL_areKeys_99 5 rfl ?_
                refine v_icmp_ne (pc := 101) X 141 dL_areKeys_101 (by decide) (fun c_101 => ?_) (fun c_101 => ?_)
                · exact False.elim (c_101 hT.symm)
                · refine v_aload_n (pc := 104) X dL_areKeys_104 0 rfl ?_
                  refine v_iload_n (pc := 105) X dL_areKeys_105 3 rfl ?_
                  refine v_eHS (pc := 106) (rest := []) (n := 2) (wr := (wg G ax gg)) (wn := (wG G ag ad aT au al kk kt nw ++ (wD G ad dw df dr de ++ (wT G aT th tr tm tb td tg tl tn ++ (wT G au uh ur um ub ud ug ul un ++ (wL G al lk lp lg lm ls lv ++ (wg G ax gg))))))) (isC := [0, 1, 2, 3, 4, 5, 6, 7, 8, 9, 10, 11, 12, 13, 14, 15, 16, 17, 18, 19, 20, 21, 22, 23, 24, 25, 26, 27, 28]) (isR := [29]) (isP := [1, 2, 3, 4, 5, 6, 7, 8, 9, 10, 11, 12, 13, 14, 15, 16, 17, 18, 19, 20, 21, 22, 23, 24, 25, 26, 27, 28, 29, 0]) X (c_L_useq l hfl G ag ad aT au al kk kt nw dw df dr de th tr tm tb td tg tl tn uh ur um ub ud ug ul un lk lp lg lm ls lv x3 hk3 hth) gL_areKeys_L_use rfl rfl rfl (by decide +kernel) ⟨Nat.le_of_ble_eq_true rfl, Nat.le_of_ble_eq_true rfl⟩ dL_areKeys_106 rfl rfl (Nat.le_of_ble_eq_true rfl) ⟨by show _ ≤ 264; omega, by show _ ≤ 1584; omega⟩ ⟨rfl, rfl, rfl, rfl, by decide, rfl, rfl⟩ ?_
                  refine v_iload (pc := 109) X dL_areKeys_109 5 rfl ?_
                  refine v_aload_n (pc := 111) X dL_areKeys_111 0 rfl ?_
                  refine v_iload_n (pc := 112) X dL_areKeys_112 3 rfl ?_
                  refine v_iconst (pc := 113) (v := 1) X dL_areKeys_113 (by decide) ?_
                  refine v_eHS (pc := 114) (rest := [.int x5, .int (if (f_X3_countUsers_r kk nw de th td tl x3) < (kt (x3).toNatClampNeg) then 0 else 1)]) (n := 3) (wr := (wg G ax gg)) (wn := (wG G ag ad aT au al kk kt nw ++ (wD G ad dw df dr de ++ (wT G aT th tr tm tb td tg tl tn ++ (wT G au uh ur um ub ud ug ul un ++ (wL G al lk lp lg lm ls lv ++ (wg G ax gg))))))) (isC := [0, 1, 2, 3, 4, 5, 6, 7, 8, 9, 10, 11, 12, 13, 14, 15, 16, 17, 18, 19, 20, 21, 22, 23, 24, 25, 26, 27, 28]) (isR := [29]) (isP := [1, 2, 3, 4, 5, 6, 7, 8, 9, 10, 11, 12, 13, 14, 15, 16, 17, 18, 19, 20, 21, 22, 23, 24, 25, 26, 27, 28, 29, 0]) X (c_L_keyOf1 l hfl G ag ad aT au al kk kt nw dw df dr de th tr tm tb td tg tl tn uh ur um ub ud ug ul un lk lp lg lm ls lv x3 hk3 hth) gL_areKeys_L_keyOf rfl rfl rfl (by decide +kernel) ⟨Nat.le_of_ble_eq_true rfl, Nat.le_of_ble_eq_true rfl⟩ dL_areKeys_114 rfl rfl (Nat.le_of_ble_eq_true rfl) ⟨by show _ ≤ 264; omega, by show _ ≤ 1584; omega⟩ ⟨rfl, rfl, rfl, rfl, by decide, rfl, rfl⟩ ?_
                  have hJ117 : V p l e (headSpec wsL_areKeys { frames := 8, cells := 264, slots := 1584, locals := 153 }).room s m args below meth c 7 G A (((0 + 44 * (5 - (n4 + 1))) + 1 + 3 * (13 - (n27 + 1))) + 3) (((0 + 264 * (5 - (n4 + 1))) + 6 + 18 * (13 - (n27 + 1))) + 18) (QI below args s G A 264 1584 (S := Unit) (fun x _ => x = 1) (fun _ => (wG G ag ad aT au al kk kt nw ++ (wD G ad dw df dr de ++ (wT G aT th tr tm tb td tg tl tn ++ (wT G au uh ur um ub ud ug ul un ++ (wL G al lk lp lg lm ls lv ++ (wg G ax gg)))))))) (wG G ag ad aT au al kk kt nw ++ (wD G ad dw df dr de ++ (wT G aT th tr tm tb td tg tl tn ++ (wT G au uh ur um ub ud ug ul un ++ (wL G al lk lp lg lm ls lv ++ (wg G ax gg)))))) [(0, .ref (ag 0)), (1, .ref (ax 0)), (2, .int 1), (3, .int x3), (4, .int (kk (x3).toNatClampNeg)), (5, .int x5), (6, .int x6)] 125 [.int (if x5 < (kt (x3).toNatClampNeg) then 0 else 1), .int (if (f_X3_countUsers_r kk nw de th td tl x3) < (kt (x3).toNatClampNeg) then 0 else 1)] := by
                    refine v_icmp_ne (pc := 125) X 141 dL_areKeys_125 (by decide) (fun c_125 => ?_) (fun c_125 => ?_)
                    · exact False.elim (c_125 (by rw [hT]))
                    · refine v_aload_n (pc := 128) X dL_areKeys_128 0 rfl ?_
                      refine v_iload_n (pc := 129) X dL_areKeys_129 3 rfl ?_
                      refine v_iconst (pc := 130) (v := 1) X dL_areKeys_130 (by decide) ?_
                      refine v_eHS (pc := 131) (rest := []) (n := 3) (wr := (wg G ax gg)) (wn := (wG G ag ad aT au al kk kt nw ++ (wD G ad dw df dr de ++ (wT G aT th tr tm tb td tg tl tn ++ (wT G au uh ur um ub ud ug ul un ++ (wL G al lk lp lg lm ls lv ++ (wg G ax gg))))))) (isC := [0, 1, 2, 3, 4, 5, 6, 7, 8, 9, 10, 11, 12, 13, 14, 15, 16, 17, 18, 19, 20, 21, 22, 23, 24, 25, 26, 27, 28]) (isR := [29]) (isP := [1, 2, 3, 4, 5, 6, 7, 8, 9, 10, 11, 12, 13, 14, 15, 16, 17, 18, 19, 20, 21, 22, 23, 24, 25, 26, 27, 28, 29, 0]) X (c_L_keyOf1 l hfl G ag ad aT au al kk kt nw dw df dr de th tr tm tb td tg tl tn uh ur um ub ud ug ul un lk lp lg lm ls lv x3 hk3 hth) gL_areKeys_L_keyOf rfl rfl rfl (by decide +kernel) ⟨Nat.le_of_ble_eq_true rfl, Nat.le_of_ble_eq_true rfl⟩ dL_areKeys_131 rfl rfl (Nat.le_of_ble_eq_true rfl) ⟨by show _ ≤ 264; omega, by show _ ≤ 1584; omega⟩ ⟨rfl, rfl, rfl, rfl, by decide, rfl, rfl⟩ ?_
                      refine v_if_le (pc := 134) X 141 dL_areKeys_134 (by decide) (fun c_134 => ?_) (fun c_134 => ?_)
                      · exact False.elim (kt_ps (hkt _ (vp_lt hk3)) c_134)
                      · refine v_iconst (pc := 137) (v := 1) X dL_areKeys_137 (by decide) ?_
                        refine v_goto (pc := 138) X 142 dL_areKeys_138 (by decide) ?_
                        refine v_istore_n (pc := 142) (lv' := [(0, .ref (ag 0)), (1, .ref (ax 0)), (2, .int 1), (3, .int x3), (4, .int (kk (x3).toNatClampNeg)), (5, .int x5), (6, .int x6)]) X dL_areKeys_142 rfl (Nat.le_of_ble_eq_true rfl) [1, 2, 0, 3, 4, 5, 6] rfl ?_
                        refine v_iinc (pc := 143) (k := 3) (v := (x3 + 1)) (lv' := [(0, .ref (ag 0)), (1, .ref (ax 0)), (2, .int 1), (3, .int (x3 + 1)), (4, .int (kk (x3).toNatClampNeg)), (5, .int x5), (6, .int x6)]) X dL_areKeys_143 rfl rfl (Nat.le_of_ble_eq_true rfl) [1, 2, 3, 0, 4, 5, 6] rfl ?_
                        refine v_goto (pc := 146) X 4 dL_areKeys_146 (by decide) ?_
                        refine v_widen (k := (0 + 44 * (5 - n4))) (n := (0 + 264 * (5 - n4))) (by omega) (by omega) ?_
                        refine v_sub (lv' := [(0, .ref (ag 0)), (1, .ref (ax 0)), (2, .int 1), (3, .int (x3 + 1))]) [0, 1, 2, 3] rfl ?_
                        exact ih4 (x3 + 1) (Nat.le_of_succ_le hn4) ((cnt_in (by decide) (by decide) hI4 c_6).2)
                  refine v_icmp_lt (pc := 117) X 124 dL_areKeys_117 (by decide) (fun c_117 => ?_) (fun c_117 => ?_)
                  · refine v_iconst (pc := 124) (v := 0) X dL_areKeys_124 (by decide) ?_
                    refine v_widen (k := ((0 + 44 * (5 - (n4 + 1))) + 1 + 3 * (13 - (n27 + 1))) + 3) (n := ((0 + 264 * (5 - (n4 + 1))) + 6 + 18 * (13 - (n27 + 1))) + 18) (by omega) (by omega) ?_
                    exact v_top (by show 0 = (if x5 < (kt (x3).toNatClampNeg) then 0 else 1); simp only [if_pos c_31, if_pos c_101, if_pos c_117]) hJ117
                  · refine v_iconst (pc := 120) (v := 1) X dL_areKeys_120 (by decide) ?_
                    refine v_goto (pc := 121) X 125 dL_areKeys_121 (by decide) ?_
                    refine v_widen (k := ((0 + 44 * (5 - (n4 + 1))) + 1 + 3 * (13 - (n27 + 1))) + 3) (n := ((0 + 264 * (5 - (n4 + 1))) + 6 + 18 * (13 - (n27 + 1))) + 18) (by omega) (by omega) ?_
                    exact v_top (by show 1 = (if x5 < (kt (x3).toNatClampNeg) then 0 else 1); simp only [if_pos c_31, if_pos c_101, if_neg c_117]) hJ117
              · have hk6 : vp_in x6 12 := (cnt_in (by decide) (by decide) hI27 c_31).1
                refine v_iload (pc := 34) X dL_areKeys_34 5 rfl ?_
                refine v_iload (pc := 36) X dL_areKeys_36 4 rfl ?_
                refine v_iload (pc := 38) X dL_areKeys_38 6 rfl ?_
                refine v_ishr (pc := 40) X dL_areKeys_40 rfl ?_
                refine v_iconst (pc := 41) (v := 1) X dL_areKeys_41 (by decide) ?_
                refine v_iand (pc := 42) X dL_areKeys_42 rfl ?_
                refine v_iconst (pc := 43) (v := 1) X dL_areKeys_43 (by decide) ?_
                have hJ44 : V p l e (headSpec wsL_areKeys { frames := 8, cells := 264, slots := 1584, locals := 153 }).room s m args below meth c 7 G A (((0 + 44 * (5 - (n4 + 1))) + 1 + 3 * (13 - (n27 + 1))) + 3) (((0 + 264 * (5 - (n4 + 1))) + 6 + 18 * (13 - (n27 + 1))) + 18) (QI below args s G A 264 1584 (S := Unit) (fun x _ => x = 1) (fun _ => (wG G ag ad aT au al kk kt nw ++ (wD G ad dw df dr de ++ (wT G aT th tr tm tb td tg tl tn ++ (wT G au uh ur um ub ud ug ul un ++ (wL G al lk lp lg lm ls lv ++ (wg G ax gg)))))))) (wG G ag ad aT au al kk kt nw ++ (wD G ad dw df dr de ++ (wT G aT th tr tm tb td tg tl tn ++ (wT G au uh ur um ub ud ug ul un ++ (wL G al lk lp lg lm ls lv ++ (wg G ax gg)))))) [(0, .ref (ag 0)), (1, .ref (ax 0)), (2, .int 1), (3, .int x3), (4, .int (kk (x3).toNatClampNeg)), (5, .int x5), (6, .int x6)] 84 [.int (if (((kk (x3).toNatClampNeg) >>> (x6 &&& 31)) &&& 1) = 1 then (if (f_X0_isInSession_r de x6 nw) = 1 then (if (f_X2_isTrusted_r th x6) = 1 then (if (f_X2_isTainted_r th td tl x6) = 0 then 1 else 0) else 0) else 0) else 0), .int x5] := by
                  refine v_iadd (pc := 84) X dL_areKeys_84 rfl ?_
                  refine v_istore (pc := 85) (lv' := [(0, .ref (ag 0)), (1, .ref (ax 0)), (2, .int 1), (3, .int x3), (4, .int (kk (x3).toNatClampNeg)), (5, .int (x5 + (if (((kk (x3).toNatClampNeg) >>> (x6 &&& 31)) &&& 1) = 1 then (if (f_X0_isInSession_r de x6 nw) = 1 then (if (f_X2_isTrusted_r th x6) = 1 then (if (f_X2_isTainted_r th td tl x6) = 0 then 1 else 0) else 0) else 0) else 0))), (6, .int x6)]) X dL_areKeys_85 (Nat.le_of_ble_eq_true rfl) [1, 2, 3, 4, 5, 0, 6] rfl ?_
                  refine v_iinc (pc := 87) (k := 6) (v := (x6 + 1)) (lv' := [(0, .ref (ag 0)), (1, .ref (ax 0)), (2, .int 1), (3, .int x3), (4, .int (kk (x3).toNatClampNeg)), (5, .int (x5 + (if (((kk (x3).toNatClampNeg) >>> (x6 &&& 31)) &&& 1) = 1 then (if (f_X0_isInSession_r de x6 nw) = 1 then (if (f_X2_isTrusted_r th x6) = 1 then (if (f_X2_isTainted_r th td tl x6) = 0 then 1 else 0) else 0) else 0) else 0))), (6, .int (x6 + 1))]) X dL_areKeys_87 rfl rfl (Nat.le_of_ble_eq_true rfl) [1, 2, 3, 4, 5, 6, 0] rfl ?_
                  refine v_goto (pc := 90) X 27 dL_areKeys_90 (by decide) ?_
                  refine v_widen (k := ((0 + 44 * (5 - (n4 + 1))) + 1 + 3 * (13 - n27))) (n := ((0 + 264 * (5 - (n4 + 1))) + 6 + 18 * (13 - n27))) (by omega) (by omega) ?_
                  exact ih27 (x5 + (if (((kk (x3).toNatClampNeg) >>> (x6 &&& 31)) &&& 1) = 1 then (if (f_X0_isInSession_r de x6 nw) = 1 then (if (f_X2_isTrusted_r th x6) = 1 then (if (f_X2_isTainted_r th td tl x6) = 0 then 1 else 0) else 0) else 0) else 0)) (x6 + 1) (Nat.le_of_succ_le hn27) ((cnt_in (by decide) (by decide) hI27 c_31).2) ((key_st kk nw de th td tl x3 x6 x5 n27 hk6).symm.trans hM27)
                refine v_icmp_ne (pc := 44) X 83 dL_areKeys_44 (by decide) (fun c_44 => ?_) (fun c_44 => ?_)
                · refine v_iconst (pc := 83) (v := 0) X dL_areKeys_83 (by decide) ?_
                  refine v_widen (k := ((0 + 44 * (5 - (n4 + 1))) + 1 + 3 * (13 - (n27 + 1))) + 3) (n := ((0 + 264 * (5 - (n4 + 1))) + 6 + 18 * (13 - (n27 + 1))) + 18) (by omega) (by omega) ?_
                  exact v_top (by show 0 = (if (((kk (x3).toNatClampNeg) >>> (x6 &&& 31)) &&& 1) = 1 then (if (f_X0_isInSession_r de x6 nw) = 1 then (if (f_X2_isTrusted_r th x6) = 1 then (if (f_X2_isTainted_r th td tl x6) = 0 then 1 else 0) else 0) else 0) else 0); simp only [if_neg c_31, if_neg c_44]) hJ44
                · refine v_aload_n (pc := 47) X dL_areKeys_47 0 rfl ?_
                  refine v_iload (pc := 48) X dL_areKeys_48 6 rfl ?_
                  refine v_iconst (pc := 50) (v := 0) X dL_areKeys_50 (by decide) ?_
                  refine v_eHS (pc := 51) (rest := [.int x5]) (n := 3) (wr := (wg G ax gg)) (wn := (wG G ag ad aT au al kk kt nw ++ (wD G ad dw df dr de ++ (wT G aT th tr tm tb td tg tl tn ++ (wT G au uh ur um ub ud ug ul un ++ (wL G al lk lp lg lm ls lv ++ (wg G ax gg))))))) (isC := [0, 1, 2, 3, 4, 5, 6, 7, 8, 9, 10, 11, 12, 13, 14, 15, 16, 17, 18, 19, 20, 21, 22, 23, 24, 25, 26, 27, 28]) (isR := [29]) (isP := [1, 2, 3, 4, 5, 6, 7, 8, 9, 10, 11, 12, 13, 14, 15, 16, 17, 18, 19, 20, 21, 22, 23, 24, 25, 26, 27, 28, 29, 0]) X (c_L_of0 l hfl G ag ad aT au al kk kt nw dw df dr de th tr tm tb td tg tl tn uh ur um ub ud ug ul un lk lp lg lm ls lv x6 hk6 hth) gL_areKeys_L_of rfl rfl rfl (by decide +kernel) ⟨Nat.le_of_ble_eq_true rfl, Nat.le_of_ble_eq_true rfl⟩ dL_areKeys_51 rfl rfl (Nat.le_of_ble_eq_true rfl) ⟨by show _ ≤ 264; omega, by show _ ≤ 1584; omega⟩ ⟨rfl, rfl, rfl, rfl, by decide, rfl, rfl⟩ ?_
                  refine v_iconst (pc := 54) (v := 1) X dL_areKeys_54 (by decide) ?_
                  refine v_icmp_ne (pc := 55) X 83 dL_areKeys_55 (by decide) (fun c_55 => ?_) (fun c_55 => ?_)
                  · refine v_iconst (pc := 83) (v := 0) X dL_areKeys_83 (by decide) ?_
                    refine v_widen (k := ((0 + 44 * (5 - (n4 + 1))) + 1 + 3 * (13 - (n27 + 1))) + 3) (n := ((0 + 264 * (5 - (n4 + 1))) + 6 + 18 * (13 - (n27 + 1))) + 18) (by omega) (by omega) ?_
                    exact v_top (by show 0 = (if (((kk (x3).toNatClampNeg) >>> (x6 &&& 31)) &&& 1) = 1 then (if (f_X0_isInSession_r de x6 nw) = 1 then (if (f_X2_isTrusted_r th x6) = 1 then (if (f_X2_isTainted_r th td tl x6) = 0 then 1 else 0) else 0) else 0) else 0); simp only [if_neg c_31, if_pos c_44, if_neg c_55]) hJ44
                  · refine v_aload_n (pc := 58) X dL_areKeys_58 0 rfl ?_
                    refine v_iload (pc := 59) X dL_areKeys_59 6 rfl ?_
                    refine v_iconst (pc := 61) (v := 1) X dL_areKeys_61 (by decide) ?_
                    refine v_eHS (pc := 62) (rest := [.int x5]) (n := 3) (wr := (wg G ax gg)) (wn := (wG G ag ad aT au al kk kt nw ++ (wD G ad dw df dr de ++ (wT G aT th tr tm tb td tg tl tn ++ (wT G au uh ur um ub ud ug ul un ++ (wL G al lk lp lg lm ls lv ++ (wg G ax gg))))))) (isC := [0, 1, 2, 3, 4, 5, 6, 7, 8, 9, 10, 11, 12, 13, 14, 15, 16, 17, 18, 19, 20, 21, 22, 23, 24, 25, 26, 27, 28]) (isR := [29]) (isP := [1, 2, 3, 4, 5, 6, 7, 8, 9, 10, 11, 12, 13, 14, 15, 16, 17, 18, 19, 20, 21, 22, 23, 24, 25, 26, 27, 28, 29, 0]) X (c_L_of1 l hfl G ag ad aT au al kk kt nw dw df dr de th tr tm tb td tg tl tn uh ur um ub ud ug ul un lk lp lg lm ls lv x6 hk6 hth) gL_areKeys_L_of rfl rfl rfl (by decide +kernel) ⟨Nat.le_of_ble_eq_true rfl, Nat.le_of_ble_eq_true rfl⟩ dL_areKeys_62 rfl rfl (Nat.le_of_ble_eq_true rfl) ⟨by show _ ≤ 264; omega, by show _ ≤ 1584; omega⟩ ⟨rfl, rfl, rfl, rfl, by decide, rfl, rfl⟩ ?_
                    refine v_iconst (pc := 65) (v := 1) X dL_areKeys_65 (by decide) ?_
                    refine v_icmp_ne (pc := 66) X 83 dL_areKeys_66 (by decide) (fun c_66 => ?_) (fun c_66 => ?_)
                    · refine v_iconst (pc := 83) (v := 0) X dL_areKeys_83 (by decide) ?_
                      refine v_widen (k := ((0 + 44 * (5 - (n4 + 1))) + 1 + 3 * (13 - (n27 + 1))) + 3) (n := ((0 + 264 * (5 - (n4 + 1))) + 6 + 18 * (13 - (n27 + 1))) + 18) (by omega) (by omega) ?_
                      exact v_top (by show 0 = (if (((kk (x3).toNatClampNeg) >>> (x6 &&& 31)) &&& 1) = 1 then (if (f_X0_isInSession_r de x6 nw) = 1 then (if (f_X2_isTrusted_r th x6) = 1 then (if (f_X2_isTainted_r th td tl x6) = 0 then 1 else 0) else 0) else 0) else 0); simp only [if_neg c_31, if_pos c_44, if_pos c_55, if_neg c_66]) hJ44
                    · refine v_aload_n (pc := 69) X dL_areKeys_69 0 rfl ?_
                      refine v_iload (pc := 70) X dL_areKeys_70 6 rfl ?_
                      refine v_iconst (pc := 72) (v := 2) X dL_areKeys_72 (by decide) ?_
                      refine v_eHS (pc := 73) (rest := [.int x5]) (n := 3) (wr := (wg G ax gg)) (wn := (wG G ag ad aT au al kk kt nw ++ (wD G ad dw df dr de ++ (wT G aT th tr tm tb td tg tl tn ++ (wT G au uh ur um ub ud ug ul un ++ (wL G al lk lp lg lm ls lv ++ (wg G ax gg))))))) (isC := [0, 1, 2, 3, 4, 5, 6, 7, 8, 9, 10, 11, 12, 13, 14, 15, 16, 17, 18, 19, 20, 21, 22, 23, 24, 25, 26, 27, 28]) (isR := [29]) (isP := [1, 2, 3, 4, 5, 6, 7, 8, 9, 10, 11, 12, 13, 14, 15, 16, 17, 18, 19, 20, 21, 22, 23, 24, 25, 26, 27, 28, 29, 0]) X (c_L_of2 l hfl G ag ad aT au al kk kt nw dw df dr de th tr tm tb td tg tl tn uh ur um ub ud ug ul un lk lp lg lm ls lv x6 hk6 hth) gL_areKeys_L_of rfl rfl rfl (by decide +kernel) ⟨Nat.le_of_ble_eq_true rfl, Nat.le_of_ble_eq_true rfl⟩ dL_areKeys_73 rfl rfl (Nat.le_of_ble_eq_true rfl) ⟨by show _ ≤ 264; omega, by show _ ≤ 1584; omega⟩ ⟨rfl, rfl, rfl, rfl, by decide, rfl, rfl⟩ ?_
                      refine v_if_ne (pc := 76) X 83 dL_areKeys_76 (by decide) (fun c_76 => ?_) (fun c_76 => ?_)
                      · refine v_iconst (pc := 83) (v := 0) X dL_areKeys_83 (by decide) ?_
                        refine v_widen (k := ((0 + 44 * (5 - (n4 + 1))) + 1 + 3 * (13 - (n27 + 1))) + 3) (n := ((0 + 264 * (5 - (n4 + 1))) + 6 + 18 * (13 - (n27 + 1))) + 18) (by omega) (by omega) ?_
                        exact v_top (by show 0 = (if (((kk (x3).toNatClampNeg) >>> (x6 &&& 31)) &&& 1) = 1 then (if (f_X0_isInSession_r de x6 nw) = 1 then (if (f_X2_isTrusted_r th x6) = 1 then (if (f_X2_isTainted_r th td tl x6) = 0 then 1 else 0) else 0) else 0) else 0); simp only [if_neg c_31, if_pos c_44, if_pos c_55, if_pos c_66, if_neg c_76]) hJ44
                      · refine v_iconst (pc := 79) (v := 1) X dL_areKeys_79 (by decide) ?_
                        refine v_goto (pc := 80) X 84 dL_areKeys_80 (by decide) ?_
                        refine v_widen (k := ((0 + 44 * (5 - (n4 + 1))) + 1 + 3 * (13 - (n27 + 1))) + 3) (n := ((0 + 264 * (5 - (n4 + 1))) + 6 + 18 * (13 - (n27 + 1))) + 18) (by omega) (by omega) ?_
                        exact v_top (by show 1 = (if (((kk (x3).toNatClampNeg) >>> (x6 &&& 31)) &&& 1) = 1 then (if (f_X0_isInSession_r de x6 nw) = 1 then (if (f_X2_isTrusted_r th x6) = 1 then (if (f_X2_isTainted_r th td tl x6) = 0 then 1 else 0) else 0) else 0) else 0); simp only [if_neg c_31, if_pos c_44, if_pos c_55, if_pos c_66, if_pos c_76]) hJ44
          refine v_widen (k := ((0 + 44 * (5 - (n4 + 1))) + 1 + 3 * (13 - 13))) (n := ((0 + 264 * (5 - (n4 + 1))) + 6 + 18 * (13 - 13))) (by omega) (by omega) ?_
          exact LP27 13 0 0 (Nat.le_refl _) (⟨by decide, by decide, by decide⟩) (rfl)
  refine v_widen (k := (0 + 44 * (5 - 5))) (n := (0 + 264 * (5 - 5))) (by omega) (by omega) ?_
  exact LP4 5 0 (Nat.le_refl _) (⟨by decide, by decide, by decide⟩)
