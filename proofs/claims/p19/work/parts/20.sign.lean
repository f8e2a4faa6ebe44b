/-- the sign, by the badge alone -/
def sgF (b p q : Int32) : Int32 := f_L_sign_r (fun _ => b) p q
theorem sgF_eq {tg : Nat → Int32} {b p : Int32} (h : tg p.toNatClampNeg = b) (q : Int32) : f_L_sign_r tg p q = sgF b p q := by
  subst h
  rfl
/-- what isSign answers from its second loop's head on, and from its first's -/
def sgR2 : Nat → Int32 → Int32 → Int32 → Int32 → Int32 → Int32
  | 0, _, _, _, _, _ => 0
  | n + 1, y3, y6, y7, p0, p1 => if 0 < y6 ∨ y7 = 1 then (if sgF p1 p0 y3 = 48 + (y6 - y6 / 10 * 10) then sgR2 n (y3 + 1) (y6 / 10) 0 p0 p1 else 0) else (if sgF p1 p0 y3 = 65 + (((3 * p1) + p0) - ((3 * p1) + p0) / 26 * 26) then (if sgF p1 p0 (y3 + 1) = 0 then 1 else 0) else 0)
def sgR1 : Nat → Int32 → Int32 → Int32 → Int32 → Int32 → Int32
  | 0, _, _, _, _, _ => 0
  | n + 1, x3, x4, x5, p0, p1 => if x5 < 48 ∨ 57 < x5 ∨ 3 ≤ x3 then (if x4 = p0 then (if sgF p1 p0 x3 = 45 then sgR2 5 (x3 + 1) p1 1 p0 p1 else 0) else 0) else sgR1 n (x3 + 1) (((10 * x4) + x5) - 48) (sgF p1 p0 (x3 + 1)) p0 p1
theorem z1 {P : Prop} (h : (0 : Int32) = 1) : P := absurd h (by decide)
theorem sg1_e {n : Nat} {x3 x4 x5 p0 p1 : Int32} (h : sgR1 (n + 1) x3 x4 x5 p0 p1 = 1) (c : x5 < 48 ∨ 57 < x5 ∨ 3 ≤ x3) : x4 = p0 ∧ sgF p1 p0 x3 = 45 ∧ sgR2 5 (x3 + 1) p1 1 p0 p1 = 1 := by
  unfold sgR1 at h
  rw [if_pos c] at h
  split at h
  · split at h
    · exact ⟨‹_›, ‹_›, h⟩
    · exact z1 h
  · exact z1 h
theorem sg1_s {n : Nat} {x3 x4 x5 p0 p1 : Int32} (h : sgR1 (n + 1) x3 x4 x5 p0 p1 = 1) (c1 : ¬ x5 < 48) (c2 : ¬ 57 < x5) (c3 : ¬ 3 ≤ x3) : sgR1 n (x3 + 1) (((10 * x4) + x5) - 48) (sgF p1 p0 (x3 + 1)) p0 p1 = 1 := by
  unfold sgR1 at h
  rw [if_neg (fun c => by rcases c with c | c | c; exact c1 c; exact c2 c; exact c3 c)] at h
  exact h
theorem sg2_s {n : Nat} {y3 y6 y7 p0 p1 : Int32} (h : sgR2 (n + 1) y3 y6 y7 p0 p1 = 1) (c : 0 < y6 ∨ y7 = 1) : sgF p1 p0 y3 = 48 + (y6 - y6 / 10 * 10) ∧ sgR2 n (y3 + 1) (y6 / 10) 0 p0 p1 = 1 := by
  unfold sgR2 at h
  rw [if_pos c] at h
  split at h
  · exact ⟨‹_›, h⟩
  · exact z1 h
theorem sg2_e {n : Nat} {y3 y6 y7 p0 p1 : Int32} (h : sgR2 (n + 1) y3 y6 y7 p0 p1 = 1) (c1 : ¬ 0 < y6) (c2 : ¬ y7 = 1) : sgF p1 p0 y3 = 65 + (((3 * p1) + p0) - ((3 * p1) + p0) / 26 * 26) ∧ sgF p1 p0 (y3 + 1) = 0 := by
  unfold sgR2 at h
  rw [if_neg (fun c => by rcases c with c | c; exact c1 c; exact c2 c)] at h
  split at h
  · split at h
    · exact ⟨‹_›, ‹_›⟩
    · exact z1 h
  · exact z1 h
theorem c_L_signq (l : Launch) (hfl : l.stackTraces = false) (G : va_G) (ag : Nat → Nat) (ad : Nat → Nat) (aT : Nat → Nat) (au : Nat → Nat) (al : Nat → Nat) (kk : Nat → Int32) (kt : Nat → Int32) (nw : Int32) (dw : Nat → Int32) (df : Nat → Int32) (dr : Nat → Int32) (de : Nat → Int32) (th : Nat → Int32) (tr : Nat → Int32) (tm : Nat → Int32) (tb : Nat → Int32) (td : Nat → Int32) (tg : Nat → Int32) (tl : Nat → Int32) (tn : Int32) (uh : Nat → Int32) (ur : Nat → Int32) (um : Nat → Int32) (ub : Nat → Int32) (ud : Nat → Int32) (ug : Nat → Int32) (ul : Nat → Int32) (un : Int32) (lk : Nat → Int32) (lp : Nat → Int32) (lg : Nat → Int32) (lm : Nat → Int32) (ls : Int32) (lv : Int32) (p0 : Int32) (p1 : Int32) (p9 : Int32) (h9 : tg (p0).toNatClampNeg = p9) (hbg : ∀ j : Nat, j < 12 → tg j = nI (tg j).toNatClampNeg ∧ (tg j).toNatClampNeg < 1000) : Ke l yL_sign wsL_sign { frames := 7, cells := 2, slots := 20, locals := 132 } 2 20 G (wG G ag ad aT au al kk kt nw ++ (wD G ad dw df dr de ++ (wT G aT th tr tm tb td tg tl tn ++ (wT G au uh ur um ub ud ug ul un ++ (wL G al lk lp lg lm ls lv))))) [.ref (ag 0), .int p0, .int p1] (sgF p9 p0 p1) (wG G ag ad aT au al kk kt nw ++ (wD G ad dw df dr de ++ (wT G aT th tr tm tb td tg tl tn ++ (wT G au uh ur um ub ud ug ul un ++ (wL G al lk lp lg lm ls lv))))) := by
  have h := c_L_sign l hfl G ag ad aT au al kk kt nw dw df dr de th tr tm tb td tg tl tn uh ur um ub ud ug ul un lk lp lg lm ls lv p0 p1 hbg
  rwa [show (f_L_sign_r tg p0 p1) = (sgF p9 p0 p1) from sgF_eq h9 p1] at h

set_option maxHeartbeats 4000000 in
set_option maxRecDepth 100000 in
theorem c_L_isSign (l : Launch) (hfl : l.stackTraces = false) (G : va_G) (ag : Nat → Nat) (ad : Nat → Nat) (aT : Nat → Nat) (au : Nat → Nat) (al : Nat → Nat) (kk : Nat → Int32) (kt : Nat → Int32) (nw : Int32) (dw : Nat → Int32) (df : Nat → Int32) (dr : Nat → Int32) (de : Nat → Int32) (th : Nat → Int32) (tr : Nat → Int32) (tm : Nat → Int32) (tb : Nat → Int32) (td : Nat → Int32) (tg : Nat → Int32) (tl : Nat → Int32) (tn : Int32) (uh : Nat → Int32) (ur : Nat → Int32) (um : Nat → Int32) (ub : Nat → Int32) (ud : Nat → Int32) (ug : Nat → Int32) (ul : Nat → Int32) (un : Int32) (lk : Nat → Int32) (lp : Nat → Int32) (lg : Nat → Int32) (lm : Nat → Int32) (ls : Int32) (lv : Int32) (p0 : Int32) (p1 : Int32) (h9 : tg (p0).toNatClampNeg = p1) (hbg : ∀ j : Nat, j < 12 → tg j = nI (tg j).toNatClampNeg ∧ (tg j).toNatClampNeg < 1000) (h1 : sgR1 5 0 0 (sgF p1 p0 0) p0 p1 = 1) : Ki l yL_isSign wsL_isSign { frames := 8, cells := 28, slots := 280, locals := 155 } 28 280 G (wG G ag ad aT au al kk kt nw ++ (wD G ad dw df dr de ++ (wT G aT th tr tm tb td tg tl tn ++ (wT G au uh ur um ub ud ug ul un ++ (wL G al lk lp lg lm ls lv))))) [.ref (ag 0), .int p0, .int p1] (S := Unit) (fun x _ => x = 1) (fun _ => (wG G ag ad aT au al kk kt nw ++ (wD G ad dw df dr de ++ (wT G aT th tr tm tb td tg tl tn ++ (wT G au uh ur um ub ud ug ul un ++ (wL G al lk lp lg lm ls lv)))))) := by
  refine v_ofi (cc := cL_isSign) (nL := 8) (lv := [(0, .ref (ag 0)), (1, .int p0), (2, .int p1)]) (by decide) rfl (Nat.le_of_ble_eq_true rfl) rfl ?_
  intro p e s m args below meth c A X hr
  refine v_iconst (pc := 0) (v := 0) X dL_isSign_0 (by decide) ?_
  refine v_istore_n (pc := 1) (lv' := [(0, .ref (ag 0)), (1, .int p0), (2, .int p1), (3, .int 0)]) X dL_isSign_1 rfl (Nat.le_of_ble_eq_true rfl) [1, 2, 3, 0] rfl ?_
  refine v_iconst (pc := 2) (v := 0) X dL_isSign_2 (by decide) ?_
  refine v_istore (pc := 3) (lv' := [(0, .ref (ag 0)), (1, .int p0), (2, .int p1), (3, .int 0), (4, .int 0)]) X dL_isSign_3 (Nat.le_of_ble_eq_true rfl) [1, 2, 3, 4, 0] rfl ?_
  refine v_aload_n (pc := 5) X dL_isSign_5 0 rfl ?_
  refine v_iload_n (pc := 6) X dL_isSign_6 1 rfl ?_
  refine v_iconst (pc := 7) (v := 0) X dL_isSign_7 (by decide) ?_
  refine v_eHS (pc := 8) (rest := []) (n := 3) (wr := ([] : va_W)) (wn := (wG G ag ad aT au al kk kt nw ++ (wD G ad dw df dr de ++ (wT G aT th tr tm tb td tg tl tn ++ (wT G au uh ur um ub ud ug ul un ++ (wL G al lk lp lg lm ls lv)))))) (isC := [0, 1, 2, 3, 4, 5, 6, 7, 8, 9, 10, 11, 12, 13, 14, 15, 16, 17, 18, 19, 20, 21, 22, 23, 24, 25, 26, 27, 28]) (isR := []) (isP := [0, 1, 2, 3, 4, 5, 6, 7, 8, 9, 10, 11, 12, 13, 14, 15, 16, 17, 18, 19, 20, 21, 22, 23, 24, 25, 26, 27, 28]) X (c_L_signq l hfl G ag ad aT au al kk kt nw dw df dr de th tr tm tb td tg tl tn uh ur um ub ud ug ul un lk lp lg lm ls lv p0 0 p1 h9 hbg) gL_isSign_L_sign rfl rfl rfl (by decide +kernel) ⟨Nat.le_of_ble_eq_true rfl, Nat.le_of_ble_eq_true rfl⟩ dL_isSign_8 rfl rfl (Nat.le_of_ble_eq_true rfl) ⟨Nat.le_of_ble_eq_true rfl, Nat.le_of_ble_eq_true rfl⟩ ⟨rfl, rfl, rfl, rfl, by decide, rfl, rfl⟩ ?_
  refine v_istore (pc := 11) (lv' := [(0, .ref (ag 0)), (1, .int p0), (2, .int p1), (3, .int 0), (4, .int 0), (5, .int (sgF p1 p0 0))]) X dL_isSign_11 (Nat.le_of_ble_eq_true rfl) [1, 2, 3, 4, 5, 0] rfl ?_
  have LP13 : ∀ (n13 : Nat) (x3 : Int32) (x4 : Int32) (x5 : Int32), n13 ≤ 5 → (sgR1 n13 x3 x4 x5 p0 p1 = 1) → V p l e (headSpec wsL_isSign { frames := 8, cells := 28, slots := 280, locals := 155 }).room s m args below meth c 8 G A (2 + 2 * (5 - n13)) (20 + 20 * (5 - n13)) (QI below args s G A 28 280 (S := Unit) (fun x _ => x = 1) (fun _ => (wG G ag ad aT au al kk kt nw ++ (wD G ad dw df dr de ++ (wT G aT th tr tm tb td tg tl tn ++ (wT G au uh ur um ub ud ug ul un ++ (wL G al lk lp lg lm ls lv))))))) (wG G ag ad aT au al kk kt nw ++ (wD G ad dw df dr de ++ (wT G aT th tr tm tb td tg tl tn ++ (wT G au uh ur um ub ud ug ul un ++ (wL G al lk lp lg lm ls lv))))) [(0, .ref (ag 0)), (1, .int p0), (2, .int p1), (3, .int x3), (4, .int x4), (5, .int x5)] 13 [] := by
    intro n13
    induction n13 with
    | zero => intro x3 x4 x5 hn13 hR13; exact False.elim (z1 hR13)
    | succ n13 ih13 =>
      intro x3 x4 x5 hn13 hR13
      refine v_iload (pc := 13) X dL_isSign_13 5 rfl ?_
      refine v_bipush (pc := 15) (v := 48) X dL_isSign_15 (by decide) ?_
      refine v_icmp_lt (pc := 17) X 59 dL_isSign_17 (by decide) (fun c_17 => ?_) (fun c_17 => ?_)
      · have hE := sg1_e hR13 (by first | exact Or.inl c_17 | exact Or.inr (Or.inl c_24) | exact Or.inr (Or.inr c_29))
        refine v_iload (pc := 59) X dL_isSign_59 4 rfl ?_
        refine v_iload_n (pc := 61) X dL_isSign_61 1 rfl ?_
        refine v_icmp_ne (pc := 62) X 80 dL_isSign_62 (by decide) (fun c_62 => ?_) (fun c_62 => ?_)
        · exact False.elim (c_62 hE.1)
        · refine v_aload_n (pc := 65) X dL_isSign_65 0 rfl ?_
          refine v_iload_n (pc := 66) X dL_isSign_66 1 rfl ?_
          refine v_iload_n (pc := 67) X dL_isSign_67 3 rfl ?_
          refine v_eHS (pc := 68) (rest := []) (n := 3) (wr := ([] : va_W)) (wn := (wG G ag ad aT au al kk kt nw ++ (wD G ad dw df dr de ++ (wT G aT th tr tm tb td tg tl tn ++ (wT G au uh ur um ub ud ug ul un ++ (wL G al lk lp lg lm ls lv)))))) (isC := [0, 1, 2, 3, 4, 5, 6, 7, 8, 9, 10, 11, 12, 13, 14, 15, 16, 17, 18, 19, 20, 21, 22, 23, 24, 25, 26, 27, 28]) (isR := []) (isP := [0, 1, 2, 3, 4, 5, 6, 7, 8, 9, 10, 11, 12, 13, 14, 15, 16, 17, 18, 19, 20, 21, 22, 23, 24, 25, 26, 27, 28]) X (c_L_signq l hfl G ag ad aT au al kk kt nw dw df dr de th tr tm tb td tg tl tn uh ur um ub ud ug ul un lk lp lg lm ls lv p0 x3 p1 h9 hbg) gL_isSign_L_sign rfl rfl rfl (by decide +kernel) ⟨Nat.le_of_ble_eq_true rfl, Nat.le_of_ble_eq_true rfl⟩ dL_isSign_68 rfl rfl (Nat.le_of_ble_eq_true rfl) ⟨by show _ ≤ 28; omega, by show _ ≤ 280; omega⟩ ⟨rfl, rfl, rfl, rfl, by decide, rfl, rfl⟩ ?_
          refine v_bipush (pc := 71) (v := 45) X dL_isSign_71 (by decide) ?_
          refine v_icmp_ne (pc := 73) X 80 dL_isSign_73 (by decide) (fun c_73 => ?_) (fun c_73 => ?_)
          · exact False.elim (c_73 hE.2.1)
          · refine v_iconst (pc := 76) (v := 1) X dL_isSign_76 (by decide) ?_
            refine v_goto (pc := 77) X 81 dL_isSign_77 (by decide) ?_
            refine v_istore (pc := 81) (lv' := [(0, .ref (ag 0)), (1, .int p0), (2, .int p1), (3, .int x3), (4, .int x4), (5, .int 1)]) X dL_isSign_81 (Nat.le_of_ble_eq_true rfl) [1, 2, 3, 4, 5, 0] rfl ?_
            refine v_iinc (pc := 83) (k := 3) (v := (x3 + 1)) (lv' := [(0, .ref (ag 0)), (1, .int p0), (2, .int p1), (3, .int (x3 + 1)), (4, .int x4), (5, .int 1)]) X dL_isSign_83 rfl rfl (Nat.le_of_ble_eq_true rfl) [1, 2, 3, 0, 4, 5] rfl ?_
            refine v_iload_n (pc := 86) X dL_isSign_86 2 rfl ?_
            refine v_istore (pc := 87) (lv' := [(0, .ref (ag 0)), (1, .int p0), (2, .int p1), (3, .int (x3 + 1)), (4, .int x4), (5, .int 1), (6, .int p1)]) X dL_isSign_87 (Nat.le_of_ble_eq_true rfl) [1, 2, 3, 4, 5, 6, 0] rfl ?_
            refine v_iconst (pc := 89) (v := 1) X dL_isSign_89 (by decide) ?_
            refine v_istore (pc := 90) (lv' := [(0, .ref (ag 0)), (1, .int p0), (2, .int p1), (3, .int (x3 + 1)), (4, .int x4), (5, .int 1), (6, .int p1), (7, .int 1)]) X dL_isSign_90 (Nat.le_of_ble_eq_true rfl) [1, 2, 3, 4, 5, 6, 7, 0] rfl ?_
            have LP92 : ∀ (n92 : Nat) (y3 : Int32) (y6 : Int32) (y7 : Int32), n92 ≤ 5 → (sgR2 n92 y3 y6 y7 p0 p1 = 1) → V p l e (headSpec wsL_isSign { frames := 8, cells := 28, slots := 280, locals := 155 }).room s m args below meth c 8 G A ((2 + 2 * (5 - (n13 + 1))) + 2 + 2 * (5 - n92)) ((20 + 20 * (5 - (n13 + 1))) + 20 + 20 * (5 - n92)) (QI below args s G A 28 280 (S := Unit) (fun x _ => x = 1) (fun _ => (wG G ag ad aT au al kk kt nw ++ (wD G ad dw df dr de ++ (wT G aT th tr tm tb td tg tl tn ++ (wT G au uh ur um ub ud ug ul un ++ (wL G al lk lp lg lm ls lv))))))) (wG G ag ad aT au al kk kt nw ++ (wD G ad dw df dr de ++ (wT G aT th tr tm tb td tg tl tn ++ (wT G au uh ur um ub ud ug ul un ++ (wL G al lk lp lg lm ls lv))))) [(0, .ref (ag 0)), (1, .int p0), (2, .int p1), (3, .int y3), (4, .int x4), (5, .int 1), (6, .int y6), (7, .int y7)] 92 [] := by
              intro n92
              induction n92 with
              | zero => intro y3 y6 y7 hn92 hR92; exact False.elim (z1 hR92)
              | succ n92 ih92 =>
                intro y3 y6 y7 hn92 hR92
                refine v_iload (pc := 92) X dL_isSign_92 5 rfl ?_
                refine v_if_eq (pc := 94) X 148 dL_isSign_94 (by decide) (fun c_94 => ?_) (fun c_94 => ?_)
                · exact absurd c_94 (by decide)
                · refine v_iload (pc := 97) X dL_isSign_97 6 rfl ?_
                  refine v_if_gt (pc := 99) X 108 dL_isSign_99 (by decide) (fun c_99 => ?_) (fun c_99 => ?_)
                  · have hS := sg2_s hR92 (by first | exact Or.inl c_99 | exact Or.inr c_105)
                    refine v_aload_n (pc := 108) X dL_isSign_108 0 rfl ?_
                    refine v_iload_n (pc := 109) X dL_isSign_109 1 rfl ?_
                    refine v_iload_n (pc := 110) X dL_isSign_110 3 rfl ?_
                    refine v_eHS (pc := 111) (rest := []) (n := 3) (wr := ([] : va_W)) (wn := (wG G ag ad aT au al kk kt nw ++ (wD G ad dw df dr de ++ (wT G aT th tr tm tb td tg tl tn ++ (wT G au uh ur um ub ud ug ul un ++ (wL G al lk lp lg lm ls lv)))))) (isC := [0, 1, 2, 3, 4, 5, 6, 7, 8, 9, 10, 11, 12, 13, 14, 15, 16, 17, 18, 19, 20, 21, 22, 23, 24, 25, 26, 27, 28]) (isR := []) (isP := [0, 1, 2, 3, 4, 5, 6, 7, 8, 9, 10, 11, 12, 13, 14, 15, 16, 17, 18, 19, 20, 21, 22, 23, 24, 25, 26, 27, 28]) X (c_L_signq l hfl G ag ad aT au al kk kt nw dw df dr de th tr tm tb td tg tl tn uh ur um ub ud ug ul un lk lp lg lm ls lv p0 y3 p1 h9 hbg) gL_isSign_L_sign rfl rfl rfl (by decide +kernel) ⟨Nat.le_of_ble_eq_true rfl, Nat.le_of_ble_eq_true rfl⟩ dL_isSign_111 rfl rfl (Nat.le_of_ble_eq_true rfl) ⟨by show _ ≤ 28; omega, by show _ ≤ 280; omega⟩ ⟨rfl, rfl, rfl, rfl, by decide, rfl, rfl⟩ ?_
                    refine v_bipush (pc := 114) (v := 48) X dL_isSign_114 (by decide) ?_
                    refine v_iload (pc := 116) X dL_isSign_116 6 rfl ?_
                    refine v_bipush (pc := 118) (v := 10) X dL_isSign_118 (by decide) ?_
                    refine v_irem (pc := 120) X dL_isSign_120 (by decide) rfl ?_
                    refine v_iadd (pc := 121) X dL_isSign_121 rfl ?_
                    refine v_icmp_ne (pc := 122) X 129 dL_isSign_122 (by decide) (fun c_122 => ?_) (fun c_122 => ?_)
                    · exact False.elim (c_122 hS.1)
                    · refine v_iconst (pc := 125) (v := 1) X dL_isSign_125 (by decide) ?_
                      refine v_goto (pc := 126) X 130 dL_isSign_126 (by decide) ?_
                      refine v_istore (pc := 130) (lv' := [(0, .ref (ag 0)), (1, .int p0), (2, .int p1), (3, .int y3), (4, .int x4), (5, .int 1), (6, .int y6), (7, .int y7)]) X dL_isSign_130 (Nat.le_of_ble_eq_true rfl) [1, 2, 3, 4, 5, 0, 6, 7] rfl ?_
                      refine v_iinc (pc := 132) (k := 3) (v := (y3 + 1)) (lv' := [(0, .ref (ag 0)), (1, .int p0), (2, .int p1), (3, .int (y3 + 1)), (4, .int x4), (5, .int 1), (6, .int y6), (7, .int y7)]) X dL_isSign_132 rfl rfl (Nat.le_of_ble_eq_true rfl) [1, 2, 3, 0, 4, 5, 6, 7] rfl ?_
                      refine v_iconst (pc := 135) (v := 0) X dL_isSign_135 (by decide) ?_
                      refine v_istore (pc := 136) (lv' := [(0, .ref (ag 0)), (1, .int p0), (2, .int p1), (3, .int (y3 + 1)), (4, .int x4), (5, .int 1), (6, .int y6), (7, .int 0)]) X dL_isSign_136 (Nat.le_of_ble_eq_true rfl) [1, 2, 3, 4, 5, 6, 7, 0] rfl ?_
                      refine v_iload (pc := 138) X dL_isSign_138 6 rfl ?_
                      refine v_bipush (pc := 140) (v := 10) X dL_isSign_140 (by decide) ?_
                      refine v_idiv (pc := 142) X dL_isSign_142 (by decide) rfl ?_
                      refine v_istore (pc := 143) (lv' := [(0, .ref (ag 0)), (1, .int p0), (2, .int p1), (3, .int (y3 + 1)), (4, .int x4), (5, .int 1), (6, .int (y6 / 10)), (7, .int 0)]) X dL_isSign_143 (Nat.le_of_ble_eq_true rfl) [1, 2, 3, 4, 5, 6, 0, 7] rfl ?_
                      refine v_goto (pc := 145) X 92 dL_isSign_145 (by decide) ?_
                      refine v_widen (k := ((2 + 2 * (5 - (n13 + 1))) + 2 + 2 * (5 - n92))) (n := ((20 + 20 * (5 - (n13 + 1))) + 20 + 20 * (5 - n92))) (by omega) (by omega) ?_
                      exact ih92 (y3 + 1) (y6 / 10) 0 (Nat.le_of_succ_le hn92) (hS.2)
                  · refine v_iload (pc := 102) X dL_isSign_102 7 rfl ?_
                    refine v_iconst (pc := 104) (v := 1) X dL_isSign_104 (by decide) ?_
                    refine v_icmp_ne (pc := 105) X 148 dL_isSign_105 (by decide) (fun c_105 => ?_) (fun c_105 => ?_)
                    · have hZ := sg2_e hR92 c_99 c_105
                      refine v_iload (pc := 148) X dL_isSign_148 5 rfl ?_
                      refine v_if_eq (pc := 150) X 188 dL_isSign_150 (by decide) (fun c_150 => ?_) (fun c_150 => ?_)
                      · exact absurd c_150 (by decide)
                      · refine v_aload_n (pc := 153) X dL_isSign_153 0 rfl ?_
                        refine v_iload_n (pc := 154) X dL_isSign_154 1 rfl ?_
                        refine v_iload_n (pc := 155) X dL_isSign_155 3 rfl ?_
                        refine v_eHS (pc := 156) (rest := []) (n := 3) (wr := ([] : va_W)) (wn := (wG G ag ad aT au al kk kt nw ++ (wD G ad dw df dr de ++ (wT G aT th tr tm tb td tg tl tn ++ (wT G au uh ur um ub ud ug ul un ++ (wL G al lk lp lg lm ls lv)))))) (isC := [0, 1, 2, 3, 4, 5, 6, 7, 8, 9, 10, 11, 12, 13, 14, 15, 16, 17, 18, 19, 20, 21, 22, 23, 24, 25, 26, 27, 28]) (isR := []) (isP := [0, 1, 2, 3, 4, 5, 6, 7, 8, 9, 10, 11, 12, 13, 14, 15, 16, 17, 18, 19, 20, 21, 22, 23, 24, 25, 26, 27, 28]) X (c_L_signq l hfl G ag ad aT au al kk kt nw dw df dr de th tr tm tb td tg tl tn uh ur um ub ud ug ul un lk lp lg lm ls lv p0 y3 p1 h9 hbg) gL_isSign_L_sign rfl rfl rfl (by decide +kernel) ⟨Nat.le_of_ble_eq_true rfl, Nat.le_of_ble_eq_true rfl⟩ dL_isSign_156 rfl rfl (Nat.le_of_ble_eq_true rfl) ⟨by show _ ≤ 28; omega, by show _ ≤ 280; omega⟩ ⟨rfl, rfl, rfl, rfl, by decide, rfl, rfl⟩ ?_
                        refine v_bipush (pc := 159) (v := 65) X dL_isSign_159 (by decide) ?_
                        refine v_iconst (pc := 161) (v := 3) X dL_isSign_161 (by decide) ?_
                        refine v_iload_n (pc := 162) X dL_isSign_162 2 rfl ?_
                        refine v_imul (pc := 163) X dL_isSign_163 rfl ?_
                        refine v_iload_n (pc := 164) X dL_isSign_164 1 rfl ?_
                        refine v_iadd (pc := 165) X dL_isSign_165 rfl ?_
                        refine v_bipush (pc := 166) (v := 26) X dL_isSign_166 (by decide) ?_
                        refine v_irem (pc := 168) X dL_isSign_168 (by decide) rfl ?_
                        refine v_iadd (pc := 169) X dL_isSign_169 rfl ?_
                        refine v_icmp_ne (pc := 170) X 188 dL_isSign_170 (by decide) (fun c_170 => ?_) (fun c_170 => ?_)
                        · exact False.elim (c_170 hZ.1)
                        · refine v_aload_n (pc := 173) X dL_isSign_173 0 rfl ?_
                          refine v_iload_n (pc := 174) X dL_isSign_174 1 rfl ?_
                          refine v_iload_n (pc := 175) X dL_isSign_175 3 rfl ?_
                          refine v_iconst (pc := 176) (v := 1) X dL_isSign_176 (by decide) ?_
                          refine v_iadd (pc := 177) X dL_isSign_177 rfl ?_
                          refine v_eHS (pc := 178) (rest := []) (n := 3) (wr := ([] : va_W)) (wn := (wG G ag ad aT au al kk kt nw ++ (wD G ad dw df dr de ++ (wT G aT th tr tm tb td tg tl tn ++ (wT G au uh ur um ub ud ug ul un ++ (wL G al lk lp lg lm ls lv)))))) (isC := [0, 1, 2, 3, 4, 5, 6, 7, 8, 9, 10, 11, 12, 13, 14, 15, 16, 17, 18, 19, 20, 21, 22, 23, 24, 25, 26, 27, 28]) (isR := []) (isP := [0, 1, 2, 3, 4, 5, 6, 7, 8, 9, 10, 11, 12, 13, 14, 15, 16, 17, 18, 19, 20, 21, 22, 23, 24, 25, 26, 27, 28]) X (c_L_signq l hfl G ag ad aT au al kk kt nw dw df dr de th tr tm tb td tg tl tn uh ur um ub ud ug ul un lk lp lg lm ls lv p0 (y3 + 1) p1 h9 hbg) gL_isSign_L_sign rfl rfl rfl (by decide +kernel) ⟨Nat.le_of_ble_eq_true rfl, Nat.le_of_ble_eq_true rfl⟩ dL_isSign_178 rfl rfl (Nat.le_of_ble_eq_true rfl) ⟨by show _ ≤ 28; omega, by show _ ≤ 280; omega⟩ ⟨rfl, rfl, rfl, rfl, by decide, rfl, rfl⟩ ?_
                          refine v_if_ne (pc := 181) X 188 dL_isSign_181 (by decide) (fun c_181 => ?_) (fun c_181 => ?_)
                          · exact False.elim (c_181 hZ.2)
                          · refine v_iconst (pc := 184) (v := 1) X dL_isSign_184 (by decide) ?_
                            refine v_goto (pc := 185) X 189 dL_isSign_185 (by decide) ?_
                            refine v_widen (k := 28) (n := 280) (by omega) (by omega) ?_
                            exact v_zret (pc := 189) X hr (by rfl) dL_isSign_189 (()) (rfl) (rfl)
                    · have hS := sg2_s hR92 (by first | exact Or.inl c_99 | exact Or.inr c_105)
                      refine v_aload_n (pc := 108) X dL_isSign_108 0 rfl ?_
                      refine v_iload_n (pc := 109) X dL_isSign_109 1 rfl ?_
                      refine v_iload_n (pc := 110) X dL_isSign_110 3 rfl ?_
                      refine v_eHS (pc := 111) (rest := []) (n := 3) (wr := ([] : va_W)) (wn := (wG G ag ad aT au al kk kt nw ++ (wD G ad dw df dr de ++ (wT G aT th tr tm tb td tg tl tn ++ (wT G au uh ur um ub ud ug ul un ++ (wL G al lk lp lg lm ls lv)))))) (isC := [0, 1, 2, 3, 4, 5, 6, 7, 8, 9, 10, 11, 12, 13, 14, 15, 16, 17, 18, 19, 20, 21, 22, 23, 24, 25, 26, 27, 28]) (isR := []) (isP := [0, 1, 2, 3, 4, 5, 6, 7, 8, 9, 10, 11, 12, 13, 14, 15, 16, 17, 18, 19, 20, 21, 22, 23, 24, 25, 26, 27, 28]) X (c_L_signq l hfl G ag ad aT au al kk kt nw dw df dr de th tr tm tb td tg tl tn uh ur um ub ud ug ul un lk lp lg lm ls lv p0 y3 p1 h9 hbg) gL_isSign_L_sign rfl rfl rfl (by decide +kernel) ⟨Nat.le_of_ble_eq_true rfl, Nat.le_of_ble_eq_true rfl⟩ dL_isSign_111 rfl rfl (Nat.le_of_ble_eq_true rfl) ⟨by show _ ≤ 28; omega, by show _ ≤ 280; omega⟩ ⟨rfl, rfl, rfl, rfl, by decide, rfl, rfl⟩ ?_
                      refine v_bipush (pc := 114) (v := 48) X dL_isSign_114 (by decide) ?_
                      refine v_iload (pc := 116) X dL_isSign_116 6 rfl ?_
                      refine v_bipush (pc := 118) (v := 10) X dL_isSign_118 (by decide) ?_
                      refine v_irem (pc := 120) X dL_isSign_120 (by decide) rfl ?_
                      refine v_iadd (pc := 121) X dL_isSign_121 rfl ?_
                      refine v_icmp_ne (pc := 122) X 129 dL_isSign_122 (by decide) (fun c_122 => ?_) (fun c_122 => ?_)
                      · exact False.elim (c_122 hS.1)
                      · refine v_iconst (pc := 125) (v := 1) X dL_isSign_125 (by decide) ?_
                        refine v_goto (pc := 126) X 130 dL_isSign_126 (by decide) ?_
                        refine v_istore (pc := 130) (lv' := [(0, .ref (ag 0)), (1, .int p0), (2, .int p1), (3, .int y3), (4, .int x4), (5, .int 1), (6, .int y6), (7, .int y7)]) X dL_isSign_130 (Nat.le_of_ble_eq_true rfl) [1, 2, 3, 4, 5, 0, 6, 7] rfl ?_
                        refine v_iinc (pc := 132) (k := 3) (v := (y3 + 1)) (lv' := [(0, .ref (ag 0)), (1, .int p0), (2, .int p1), (3, .int (y3 + 1)), (4, .int x4), (5, .int 1), (6, .int y6), (7, .int y7)]) X dL_isSign_132 rfl rfl (Nat.le_of_ble_eq_true rfl) [1, 2, 3, 0, 4, 5, 6, 7] rfl ?_
                        refine v_iconst (pc := 135) (v := 0) X dL_isSign_135 (by decide) ?_
                        refine v_istore (pc := 136) (lv' := [(0, .ref (ag 0)), (1, .int p0), (2, .int p1), (3, .int (y3 + 1)), (4, .int x4), (5, .int 1), (6, .int y6), (7, .int 0)]) X dL_isSign_136 (Nat.le_of_ble_eq_true rfl) [1, 2, 3, 4, 5, 6, 7, 0] rfl ?_
                        refine v_iload (pc := 138) X dL_isSign_138 6 rfl ?_
                        refine v_bipush (pc := 140) (v := 10) X dL_isSign_140 (by decide) ?_
                        refine v_idiv (pc := 142) X dL_isSign_142 (by decide) rfl ?_
                        refine v_istore (pc := 143) (lv' := [(0, .ref (ag 0)), (1, .int p0), (2, .int p1), (3, .int (y3 + 1)), (4, .int x4), (5, .int 1), (6, .int (y6 / 10)), (7, .int 0)]) X dL_isSign_143 (Nat.le_of_ble_eq_true rfl) [1, 2, 3, 4, 5, 6, 0, 7] rfl ?_
                        refine v_goto (pc := 145) X 92 dL_isSign_145 (by decide) ?_
                        refine v_widen (k := ((2 + 2 * (5 - (n13 + 1))) + 2 + 2 * (5 - n92))) (n := ((20 + 20 * (5 - (n13 + 1))) + 20 + 20 * (5 - n92))) (by omega) (by omega) ?_
                        exact ih92 (y3 + 1) (y6 / 10) 0 (Nat.le_of_succ_le hn92) (hS.2)
            refine v_widen (k := ((2 + 2 * (5 - (n13 + 1))) + 2 + 2 * (5 - 5))) (n := ((20 + 20 * (5 - (n13 + 1))) + 20 + 20 * (5 - 5))) (by omega) (by omega) ?_
            exact LP92 5 (x3 + 1) p1 1 (Nat.le_refl _) (hE.2.2)
      · refine v_iload (pc := 20) X dL_isSign_20 5 rfl ?_
        refine v_bipush (pc := 22) (v := 57) X dL_isSign_22 (by decide) ?_
        refine v_icmp_gt (pc := 24) X 59 dL_isSign_24 (by decide) (fun c_24 => ?_) (fun c_24 => ?_)
        · have hE := sg1_e hR13 (by first | exact Or.inl c_17 | exact Or.inr (Or.inl c_24) | exact Or.inr (Or.inr c_29))
          refine v_iload (pc := 59) X dL_isSign_59 4 rfl ?_
          refine v_iload_n (pc := 61) X dL_isSign_61 1 rfl ?_
          refine v_icmp_ne (pc := 62) X 80 dL_isSign_62 (by decide) (fun c_62 => ?_) (fun c_62 => ?_)
          · exact False.elim (c_62 hE.1)
          · refine v_aload_n (pc := 65) X dL_isSign_65 0 rfl ?_
            refine v_iload_n (pc := 66) X dL_isSign_66 1 rfl ?_
            refine v_iload_n (pc := 67) X dL_isSign_67 3 rfl ?_
            refine v_eHS (pc := 68) (rest := []) (n := 3) (wr := ([] : va_W)) (wn := (wG G ag ad aT au al kk kt nw ++ (wD G ad dw df dr de ++ (wT G aT th tr tm tb td tg tl tn ++ (wT G au uh ur um ub ud ug ul un ++ (wL G al lk lp lg lm ls lv)))))) (isC := [0, 1, 2, 3, 4, 5, 6, 7, 8, 9, 10, 11, 12, 13, 14, 15, 16, 17, 18, 19, 20, 21, 22, 23, 24, 25, 26, 27, 28]) (isR := []) (isP := [0, 1, 2, 3, 4, 5, 6, 7, 8, 9, 10, 11, 12, 13, 14, 15, 16, 17, 18, 19, 20, 21, 22, 23, 24, 25, 26, 27, 28]) X (c_L_signq l hfl G ag ad aT au al kk kt nw dw df dr de th tr tm tb td tg tl tn uh ur um ub ud ug ul un lk lp lg lm ls lv p0 x3 p1 h9 hbg) gL_isSign_L_sign rfl rfl rfl (by decide +kernel) ⟨Nat.le_of_ble_eq_true rfl, Nat.le_of_ble_eq_true rfl⟩ dL_isSign_68 rfl rfl (Nat.le_of_ble_eq_true rfl) ⟨by show _ ≤ 28; omega, by show _ ≤ 280; omega⟩ ⟨rfl, rfl, rfl, rfl, by decide, rfl, rfl⟩ ?_
            refine v_bipush (pc := 71) (v := 45) X dL_isSign_71 (by decide) ?_
            refine v_icmp_ne (pc := 73) X 80 dL_isSign_73 (by decide) (fun c_73 => ?_) (fun c_73 => ?_)
            · exact False.elim (c_73 hE.2.1)
            · refine v_iconst (pc := 76) (v := 1) X dL_isSign_76 (by decide) ?_
              refine v_goto (pc := 77) X 81 dL_isSign_77 (by decide) ?_
              refine v_istore (pc := 81) (lv' := [(0, .ref (ag 0)), (1, .int p0), (2, .int p1), (3, .int x3), (4, .int x4), (5, .int 1)]) X dL_isSign_81 (Nat.le_of_ble_eq_true rfl) [1, 2, 3, 4, 5, 0] rfl ?_
              refine v_iinc (pc := 83) (k := 3) (v := (x3 + 1)) (lv' := [(0, .ref (ag 0)), (1, .int p0), (2, .int p1), (3, .int (x3 + 1)), (4, .int x4), (5, .int 1)]) X dL_isSign_83 rfl rfl (Nat.le_of_ble_eq_true rfl) [1, 2, 3, 0, 4, 5] rfl ?_
              refine v_iload_n (pc := 86) X dL_isSign_86 2 rfl ?_
              refine v_istore (pc := 87) (lv' := [(0, .ref (ag 0)), (1, .int p0), (2, .int p1), (3, .int (x3 + 1)), (4, .int x4), (5, .int 1), (6, .int p1)]) X dL_isSign_87 (Nat.le_of_ble_eq_true rfl) [1, 2, 3, 4, 5, 6, 0] rfl ?_
              refine v_iconst (pc := 89) (v := 1) X dL_isSign_89 (by decide) ?_
              refine v_istore (pc := 90) (lv' := [(0, .ref (ag 0)), (1, .int p0), (2, .int p1), (3, .int (x3 + 1)), (4, .int x4), (5, .int 1), (6, .int p1), (7, .int 1)]) X dL_isSign_90 (Nat.le_of_ble_eq_true rfl) [1, 2, 3, 4, 5, 6, 7, 0] rfl ?_
              have LP92 : ∀ (n92 : Nat) (y3 : Int32) (y6 : Int32) (y7 : Int32), n92 ≤ 5 → (sgR2 n92 y3 y6 y7 p0 p1 = 1) → V p l e (headSpec wsL_isSign { frames := 8, cells := 28, slots := 280, locals := 155 }).room s m args below meth c 8 G A ((2 + 2 * (5 - (n13 + 1))) + 2 + 2 * (5 - n92)) ((20 + 20 * (5 - (n13 + 1))) + 20 + 20 * (5 - n92)) (QI below args s G A 28 280 (S := Unit) (fun x _ => x = 1) (fun _ => (wG G ag ad aT au al kk kt nw ++ (wD G ad dw df dr de ++ (wT G aT th tr tm tb td tg tl tn ++ (wT G au uh ur um ub ud ug ul un ++ (wL G al lk lp lg lm ls lv))))))) (wG G ag ad aT au al kk kt nw ++ (wD G ad dw df dr de ++ (wT G aT th tr tm tb td tg tl tn ++ (wT G au uh ur um ub ud ug ul un ++ (wL G al lk lp lg lm ls lv))))) [(0, .ref (ag 0)), (1, .int p0), (2, .int p1), (3, .int y3), (4, .int x4), (5, .int 1), (6, .int y6), (7, .int y7)] 92 [] := by
                intro n92
                induction n92 with
                | zero => intro y3 y6 y7 hn92 hR92; exact False.elim (z1 hR92)
                | succ n92 ih92 =>
                  intro y3 y6 y7 hn92 hR92
                  refine v_iload (pc := 92) X dL_isSign_92 5 rfl ?_
                  refine v_if_eq (pc := 94) X 148 dL_isSign_94 (by decide) (fun c_94 => ?_) (fun c_94 => ?_)
                  · exact absurd c_94 (by decide)
                  · refine v_iload (pc := 97) X dL_isSign_97 6 rfl ?_
                    refine v_if_gt (pc := 99) X 108 dL_isSign_99 (by decide) (fun c_99 => ?_) (fun c_99 => ?_)
                    · have hS := sg2_s hR92 (by first | exact Or.inl c_99 | exact Or.inr c_105)
                      refine v_aload_n (pc := 108) X dL_isSign_108 0 rfl ?_
                      refine v_iload_n (pc := 109) X dL_isSign_109 1 rfl ?_
                      refine v_iload_n (pc := 110) X dL_isSign_110 3 rfl ?_
                      refine v_eHS (pc := 111) (rest := []) (n := 3) (wr := ([] : va_W)) (wn := (wG G ag ad aT au al kk kt nw ++ (wD G ad dw df dr de ++ (wT G aT th tr tm tb td tg tl tn ++ (wT G au uh ur um ub ud ug ul un ++ (wL G al lk lp lg lm ls lv)))))) (isC := [0, 1, 2, 3, 4, 5, 6, 7, 8, 9, 10, 11, 12, 13, 14, 15, 16, 17, 18, 19, 20, 21, 22, 23, 24, 25, 26, 27, 28]) (isR := []) (isP := [0, 1, 2, 3, 4, 5, 6, 7, 8, 9, 10, 11, 12, 13, 14, 15, 16, 17, 18, 19, 20, 21, 22, 23, 24, 25, 26, 27, 28]) X (c_L_signq l hfl G ag ad aT au al kk kt nw dw df dr de th tr tm tb td tg tl tn uh ur um ub ud ug ul un lk lp lg lm ls lv p0 y3 p1 h9 hbg) gL_isSign_L_sign rfl rfl rfl (by decide +kernel) ⟨Nat.le_of_ble_eq_true rfl, Nat.le_of_ble_eq_true rfl⟩ dL_isSign_111 rfl rfl (Nat.le_of_ble_eq_true rfl) ⟨by show _ ≤ 28; omega, by show _ ≤ 280; omega⟩ ⟨rfl, rfl, rfl, rfl, by decide, rfl, rfl⟩ ?_
                      refine v_bipush (pc := 114) (v := 48) X dL_isSign_114 (by decide) ?_
                      refine v_iload (pc := 116) X dL_isSign_116 6 rfl ?_
                      refine v_bipush (pc := 118) (v := 10) X dL_isSign_118 (by decide) ?_
                      refine v_irem (pc := 120) X dL_isSign_120 (by decide) rfl ?_
                      refine v_iadd (pc := 121) X dL_isSign_121 rfl ?_
                      refine v_icmp_ne (pc := 122) X 129 dL_isSign_122 (by decide) (fun c_122 => ?_) (fun c_122 => ?_)
                      · exact False.elim (c_122 hS.1)
                      · refine v_iconst (pc := 125) (v := 1) X dL_isSign_125 (by decide) ?_
                        refine v_goto (pc := 126) X 130 dL_isSign_126 (by decide) ?_
                        refine v_istore (pc := 130) (lv' := [(0, .ref (ag 0)), (1, .int p0), (2, .int p1), (3, .int y3), (4, .int x4), (5, .int 1), (6, .int y6), (7, .int y7)]) X dL_isSign_130 (Nat.le_of_ble_eq_true rfl) [1, 2, 3, 4, 5, 0, 6, 7] rfl ?_
                        refine v_iinc (pc := 132) (k := 3) (v := (y3 + 1)) (lv' := [(0, .ref (ag 0)), (1, .int p0), (2, .int p1), (3, .int (y3 + 1)), (4, .int x4), (5, .int 1), (6, .int y6), (7, .int y7)]) X dL_isSign_132 rfl rfl (Nat.le_of_ble_eq_true rfl) [1, 2, 3, 0, 4, 5, 6, 7] rfl ?_
                        refine v_iconst (pc := 135) (v := 0) X dL_isSign_135 (by decide) ?_
                        refine v_istore (pc := 136) (lv' := [(0, .ref (ag 0)), (1, .int p0), (2, .int p1), (3, .int (y3 + 1)), (4, .int x4), (5, .int 1), (6, .int y6), (7, .int 0)]) X dL_isSign_136 (Nat.le_of_ble_eq_true rfl) [1, 2, 3, 4, 5, 6, 7, 0] rfl ?_
                        refine v_iload (pc := 138) X dL_isSign_138 6 rfl ?_
                        refine v_bipush (pc := 140) (v := 10) X dL_isSign_140 (by decide) ?_
                        refine v_idiv (pc := 142) X dL_isSign_142 (by decide) rfl ?_
                        refine v_istore (pc := 143) (lv' := [(0, .ref (ag 0)), (1, .int p0), (2, .int p1), (3, .int (y3 + 1)), (4, .int x4), (5, .int 1), (6, .int (y6 / 10)), (7, .int 0)]) X dL_isSign_143 (Nat.le_of_ble_eq_true rfl) [1, 2, 3, 4, 5, 6, 0, 7] rfl ?_
                        refine v_goto (pc := 145) X 92 dL_isSign_145 (by decide) ?_
                        refine v_widen (k := ((2 + 2 * (5 - (n13 + 1))) + 2 + 2 * (5 - n92))) (n := ((20 + 20 * (5 - (n13 + 1))) + 20 + 20 * (5 - n92))) (by omega) (by omega) ?_
                        exact ih92 (y3 + 1) (y6 / 10) 0 (Nat.le_of_succ_le hn92) (hS.2)
                    · refine v_iload (pc := 102) X dL_isSign_102 7 rfl ?_
                      refine v_iconst (pc := 104) (v := 1) X dL_isSign_104 (by decide) ?_
                      refine v_icmp_ne (pc := 105) X 148 dL_isSign_105 (by decide) (fun c_105 => ?_) (fun c_105 => ?_)
                      · have hZ := sg2_e hR92 c_99 c_105
                        refine v_iload (pc := 148) X dL_isSign_148 5 rfl ?_
                        refine v_if_eq (pc := 150) X 188 dL_isSign_150 (by decide) (fun c_150 => ?_) (fun c_150 => ?_)
                        · exact absurd c_150 (by decide)
                        · refine v_aload_n (pc := 153) X dL_isSign_153 0 rfl ?_
                          refine v_iload_n (pc := 154) X dL_isSign_154 1 rfl ?_
                          refine v_iload_n (pc := 155) X dL_isSign_155 3 rfl ?_
                          refine v_eHS (pc := 156) (rest := []) (n := 3) (wr := ([] : va_W)) (wn := (wG G ag ad aT au al kk kt nw ++ (wD G ad dw df dr de ++ (wT G aT th tr tm tb td tg tl tn ++ (wT G au uh ur um ub ud ug ul un ++ (wL G al lk lp lg lm ls lv)))))) (isC := [0, 1, 2, 3, 4, 5, 6, 7, 8, 9, 10, 11, 12, 13, 14, 15, 16, 17, 18, 19, 20, 21, 22, 23, 24, 25, 26, 27, 28]) (isR := []) (isP := [0, 1, 2, 3, 4, 5, 6, 7, 8, 9, 10, 11, 12, 13, 14, 15, 16, 17, 18, 19, 20, 21, 22, 23, 24, 25, 26, 27, 28]) X (c_L_signq l hfl G ag ad aT au al kk kt nw dw df dr de th tr tm tb td tg tl tn uh ur um ub ud ug ul un lk lp lg lm ls lv p0 y3 p1 h9 hbg) gL_isSign_L_sign rfl rfl rfl (by decide +kernel) ⟨Nat.le_of_ble_eq_true rfl, Nat.le_of_ble_eq_true rfl⟩ dL_isSign_156 rfl rfl (Nat.le_of_ble_eq_true rfl) ⟨by show _ ≤ 28; omega, by show _ ≤ 280; omega⟩ ⟨rfl, rfl, rfl, rfl, by decide, rfl, rfl⟩ ?_
                          refine v_bipush (pc := 159) (v := 65) X dL_isSign_159 (by decide) ?_
                          refine v_iconst (pc := 161) (v := 3) X dL_isSign_161 (by decide) ?_
                          refine v_iload_n (pc := 162) X dL_isSign_162 2 rfl ?_
                          refine v_imul (pc := 163) X dL_isSign_163 rfl ?_
                          refine v_iload_n (pc := 164) X dL_isSign_164 1 rfl ?_
                          refine v_iadd (pc := 165) X dL_isSign_165 rfl ?_
                          refine v_bipush (pc := 166) (v := 26) X dL_isSign_166 (by decide) ?_
                          refine v_irem (pc := 168) X dL_isSign_168 (by decide) rfl ?_
                          refine v_iadd (pc := 169) X dL_isSign_169 rfl ?_
                          refine v_icmp_ne (pc := 170) X 188 dL_isSign_170 (by decide) (fun c_170 => ?_) (fun c_170 => ?_)
                          · exact False.elim (c_170 hZ.1)
                          · refine v_aload_n (pc := 173) X dL_isSign_173 0 rfl ?_
                            refine v_iload_n (pc := 174) X dL_isSign_174 1 rfl ?_
                            refine v_iload_n (pc := 175) X dL_isSign_175 3 rfl ?_
                            refine v_iconst (pc := 176) (v := 1) X dL_isSign_176 (by decide) ?_
                            refine v_iadd (pc := 177) X dL_isSign_177 rfl ?_
                            refine v_eHS (pc := 178) (rest := []) (n := 3) (wr := ([] : va_W)) (wn := (wG G ag ad aT au al kk kt nw ++ (wD G ad dw df dr de ++ (wT G aT th tr tm tb td tg tl tn ++ (wT G au uh ur um ub ud ug ul un ++ (wL G al lk lp lg lm ls lv)))))) (isC := [0, 1, 2, 3, 4, 5, 6, 7, 8, 9, 10, 11, 12, 13, 14, 15, 16, 17, 18, 19, 20, 21, 22, 23, 24, 25, 26, 27, 28]) (isR := []) (isP := [0, 1, 2, 3, 4, 5, 6, 7, 8, 9, 10, 11, 12, 13, 14, 15, 16, 17, 18, 19, 20, 21, 22, 23, 24, 25, 26, 27, 28]) X (c_L_signq l hfl G ag ad aT au al kk kt nw dw df dr de th tr tm tb td tg tl tn uh ur um ub ud ug ul un lk lp lg lm ls lv p0 (y3 + 1) p1 h9 hbg) gL_isSign_L_sign rfl rfl rfl (by decide +kernel) ⟨Nat.le_of_ble_eq_true rfl, Nat.le_of_ble_eq_true rfl⟩ dL_isSign_178 rfl rfl (Nat.le_of_ble_eq_true rfl) ⟨by show _ ≤ 28; omega, by show _ ≤ 280; omega⟩ ⟨rfl, rfl, rfl, rfl, by decide, rfl, rfl⟩ ?_
                            refine v_if_ne (pc := 181) X 188 dL_isSign_181 (by decide) (fun c_181 => ?_) (fun c_181 => ?_)
                            · exact False.elim (c_181 hZ.2)
                            · refine v_iconst (pc := 184) (v := 1) X dL_isSign_184 (by decide) ?_
                              refine v_goto (pc := 185) X 189 dL_isSign_185 (by decide) ?_
                              refine v_widen (k := 28) (n := 280) (by omega) (by omega) ?_
                              exact v_zret (pc := 189) X hr (by rfl) dL_isSign_189 (()) (rfl) (rfl)
                      · have hS := sg2_s hR92 (by first | exact Or.inl c_99 | exact Or.inr c_105)
                        refine v_aload_n (pc := 108) X dL_isSign_108 0 rfl ?_
                        refine v_iload_n (pc := 109) X dL_isSign_109 1 rfl ?_
                        refine v_iload_n (pc := 110) X dL_isSign_110 3 rfl ?_
                        refine v_eHS (pc := 111) (rest := []) (n := 3) (wr := ([] : va_W)) (wn := (wG G ag ad aT au al kk kt nw ++ (wD G ad dw df dr de ++ (wT G aT th tr tm tb td tg tl tn ++ (wT G au uh ur um ub ud ug ul un ++ (wL G al lk lp lg lm ls lv)))))) (isC := [0, 1, 2, 3, 4, 5, 6, 7, 8, 9, 10, 11, 12, 13, 14, 15, 16, 17, 18, 19, 20, 21, 22, 23, 24, 25, 26, 27, 28]) (isR := []) (isP := [0, 1, 2, 3, 4, 5, 6, 7, 8, 9, 10, 11, 12, 13, 14, 15, 16, 17, 18, 19, 20, 21, 22, 23, 24, 25, 26, 27, 28]) X (c_L_signq l hfl G ag ad aT au al kk kt nw dw df dr de th tr tm tb td tg tl tn uh ur um ub ud ug ul un lk lp lg lm ls lv p0 y3 p1 h9 hbg) gL_isSign_L_sign rfl rfl rfl (by decide +kernel) ⟨Nat.le_of_ble_eq_true rfl, Nat.le_of_ble_eq_true rfl⟩ dL_isSign_111 rfl rfl (Nat.le_of_ble_eq_true rfl) ⟨by show _ ≤ 28; omega, by show _ ≤ 280; omega⟩ ⟨rfl, rfl, rfl, rfl, by decide, rfl, rfl⟩ ?_
                        refine v_bipush (pc := 114) (v := 48) X dL_isSign_114 (by decide) ?_
                        refine v_iload (pc := 116) X dL_isSign_116 6 rfl ?_
                        refine v_bipush (pc := 118) (v := 10) X dL_isSign_118 (by decide) ?_
                        refine v_irem (pc := 120) X dL_isSign_120 (by decide) rfl ?_
                        refine v_iadd (pc := 121) X dL_isSign_121 rfl ?_
                        refine v_icmp_ne (pc := 122) X 129 dL_isSign_122 (by decide) (fun c_122 => ?_) (fun c_122 => ?_)
                        · exact False.elim (c_122 hS.1)
                        · refine v_iconst (pc := 125) (v := 1) X dL_isSign_125 (by decide) ?_
                          refine v_goto (pc := 126) X 130 dL_isSign_126 (by decide) ?_
                          refine v_istore (pc := 130) (lv' := [(0, .ref (ag 0)), (1, .int p0), (2, .int p1), (3, .int y3), (4, .int x4), (5, .int 1), (6, .int y6), (7, .int y7)]) X dL_isSign_130 (Nat.le_of_ble_eq_true rfl) [1, 2, 3, 4, 5, 0, 6, 7] rfl ?_
                          refine v_iinc (pc := 132) (k := 3) (v := (y3 + 1)) (lv' := [(0, .ref (ag 0)), (1, .int p0), (2, .int p1), (3, .int (y3 + 1)), (4, .int x4), (5, .int 1), (6, .int y6), (7, .int y7)]) X dL_isSign_132 rfl rfl (Nat.le_of_ble_eq_true rfl) [1, 2, 3, 0, 4, 5, 6, 7] rfl ?_
                          refine v_iconst (pc := 135) (v := 0) X dL_isSign_135 (by decide) ?_
                          refine v_istore (pc := 136) (lv' := [(0, .ref (ag 0)), (1, .int p0), (2, .int p1), (3, .int (y3 + 1)), (4, .int x4), (5, .int 1), (6, .int y6), (7, .int 0)]) X dL_isSign_136 (Nat.le_of_ble_eq_true rfl) [1, 2, 3, 4, 5, 6, 7, 0] rfl ?_
                          refine v_iload (pc := 138) X dL_isSign_138 6 rfl ?_
                          refine v_bipush (pc := 140) (v := 10) X dL_isSign_140 (by decide) ?_
                          refine v_idiv (pc := 142) X dL_isSign_142 (by decide) rfl ?_
                          refine v_istore (pc := 143) (lv' := [(0, .ref (ag 0)), (1, .int p0), (2, .int p1), (3, .int (y3 + 1)), (4, .int x4), (5, .int 1), (6, .int (y6 / 10)), (7, .int 0)]) X dL_isSign_143 (Nat.le_of_ble_eq_true rfl) [1, 2, 3, 4, 5, 6, 0, 7] rfl ?_
                          refine v_goto (pc := 145) X 92 dL_isSign_145 (by decide) ?_
                          refine v_widen (k := ((2 + 2 * (5 - (n13 + 1))) + 2 + 2 * (5 - n92))) (n := ((20 + 20 * (5 - (n13 + 1))) + 20 + 20 * (5 - n92))) (by omega) (by omega) ?_
                          exact ih92 (y3 + 1) (y6 / 10) 0 (Nat.le_of_succ_le hn92) (hS.2)
              refine v_widen (k := ((2 + 2 * (5 - (n13 + 1))) + 2 + 2 * (5 - 5))) (n := ((20 + 20 * (5 - (n13 + 1))) + 20 + 20 * (5 - 5))) (by omega) (by omega) ?_
              exact LP92 5 (x3 + 1) p1 1 (Nat.le_refl _) (hE.2.2)
        · refine v_iload_n (pc := 27) X dL_isSign_27 3 rfl ?_
          refine v_iconst (pc := 28) (v := 3) X dL_isSign_28 (by decide) ?_
          refine v_icmp_ge (pc := 29) X 59 dL_isSign_29 (by decide) (fun c_29 => ?_) (fun c_29 => ?_)
          · have hE := sg1_e hR13 (by first | exact Or.inl c_17 | exact Or.inr (Or.inl c_24) | exact Or.inr (Or.inr c_29))
            refine v_iload (pc := 59) X dL_isSign_59 4 rfl ?_
            refine v_iload_n (pc := 61) X dL_isSign_61 1 rfl ?_
            refine v_icmp_ne (pc := 62) X 80 dL_isSign_62 (by decide) (fun c_62 => ?_) (fun c_62 => ?_)
            · exact False.elim (c_62 hE.1)
            · refine v_aload_n (pc := 65) X dL_isSign_65 0 rfl ?_
              refine v_iload_n (pc := 66) X dL_isSign_66 1 rfl ?_
              refine v_iload_n (pc := 67) X dL_isSign_67 3 rfl ?_
              refine v_eHS (pc := 68) (rest := []) (n := 3) (wr := ([] : va_W)) (wn := (wG G ag ad aT au al kk kt nw ++ (wD G ad dw df dr de ++ (wT G aT th tr tm tb td tg tl tn ++ (wT G au uh ur um ub ud ug ul un ++ (wL G al lk lp lg lm ls lv)))))) (isC := [0, 1, 2, 3, 4, 5, 6, 7, 8, 9, 10, 11, 12, 13, 14, 15, 16, 17, 18, 19, 20, 21, 22, 23, 24, 25, 26, 27, 28]) (isR := []) (isP := [0, 1, 2, 3, 4, 5, 6, 7, 8, 9, 10, 11, 12, 13, 14, 15, 16, 17, 18, 19, 20, 21, 22, 23, 24, 25, 26, 27, 28]) X (c_L_signq l hfl G ag ad aT au al kk kt nw dw df dr de th tr tm tb td tg tl tn uh ur um ub ud ug ul un lk lp lg lm ls lv p0 x3 p1 h9 hbg) gL_isSign_L_sign rfl rfl rfl (by decide +kernel) ⟨Nat.le_of_ble_eq_true rfl, Nat.le_of_ble_eq_true rfl⟩ dL_isSign_68 rfl rfl (Nat.le_of_ble_eq_true rfl) ⟨by show _ ≤ 28; omega, by show _ ≤ 280; omega⟩ ⟨rfl, rfl, rfl, rfl, by decide, rfl, rfl⟩ ?_
              refine v_bipush (pc := 71) (v := 45) X dL_isSign_71 (by decide) ?_
              refine v_icmp_ne (pc := 73) X 80 dL_isSign_73 (by decide) (fun c_73 => ?_) (fun c_73 => ?_)
              · exact False.elim (c_73 hE.2.1)
              · refine v_iconst (pc := 76) (v := 1) X dL_isSign_76 (by decide) ?_
                refine v_goto (pc := 77) X 81 dL_isSign_77 (by decide) ?_
                refine v_istore (pc := 81) (lv' := [(0, .ref (ag 0)), (1, .int p0), (2, .int p1), (3, .int x3), (4, .int x4), (5, .int 1)]) X dL_isSign_81 (Nat.le_of_ble_eq_true rfl) [1, 2, 3, 4, 5, 0] rfl ?_
                refine v_iinc (pc := 83) (k := 3) (v := (x3 + 1)) (lv' := [(0, .ref (ag 0)), (1, .int p0), (2, .int p1), (3, .int (x3 + 1)), (4, .int x4), (5, .int 1)]) X dL_isSign_83 rfl rfl (Nat.le_of_ble_eq_true rfl) [1, 2, 3, 0, 4, 5] rfl ?_
                refine v_iload_n (pc := 86) X dL_isSign_86 2 rfl ?_
                refine v_istore (pc := 87) (lv' := [(0, .ref (ag 0)), (1, .int p0), (2, .int p1), (3, .int (x3 + 1)), (4, .int x4), (5, .int 1), (6, .int p1)]) X dL_isSign_87 (Nat.le_of_ble_eq_true rfl) [1, 2, 3, 4, 5, 6, 0] rfl ?_
                refine v_iconst (pc := 89) (v := 1) X dL_isSign_89 (by decide) ?_
                refine v_istore (pc := 90) (lv' := [(0, .ref (ag 0)), (1, .int p0), (2, .int p1), (3, .int (x3 + 1)), (4, .int x4), (5, .int 1), (6, .int p1), (7, .int 1)]) X dL_isSign_90 (Nat.le_of_ble_eq_true rfl) [1, 2, 3, 4, 5, 6, 7, 0] rfl ?_
                have LP92 : ∀ (n92 : Nat) (y3 : Int32) (y6 : Int32) (y7 : Int32), n92 ≤ 5 → (sgR2 n92 y3 y6 y7 p0 p1 = 1) → V p l e (headSpec wsL_isSign { frames := 8, cells := 28, slots := 280, locals := 155 }).room s m args below meth c 8 G A ((2 + 2 * (5 - (n13 + 1))) + 2 + 2 * (5 - n92)) ((20 + 20 * (5 - (n13 + 1))) + 20 + 20 * (5 - n92)) (QI below args s G A 28 280 (S := Unit) (fun x _ => x = 1) (fun _ => (wG G ag ad aT au al kk kt nw ++ (wD G ad dw df dr de ++ (wT G aT th tr tm tb td tg tl tn ++ (wT G au uh ur um ub ud ug ul un ++ (wL G al lk lp lg lm ls lv))))))) (wG G ag ad aT au al kk kt nw ++ (wD G ad dw df dr de ++ (wT G aT th tr tm tb td tg tl tn ++ (wT G au uh ur um ub ud ug ul un ++ (wL G al lk lp lg lm ls lv))))) [(0, .ref (ag 0)), (1, .int p0), (2, .int p1), (3, .int y3), (4, .int x4), (5, .int 1), (6, .int y6), (7, .int y7)] 92 [] := by
                  intro n92
                  induction n92 with
                  | zero => intro y3 y6 y7 hn92 hR92; exact False.elim (z1 hR92)
                  | succ n92 ih92 =>
                    intro y3 y6 y7 hn92 hR92
                    refine v_iload (pc := 92) X dL_isSign_92 5 rfl ?_
                    refine v_if_eq (pc := 94) X 148 dL_isSign_94 (by decide) (fun c_94 => ?_) (fun c_94 => ?_)
                    · exact absurd c_94 (by decide)
                    · refine v_iload (pc := 97) X dL_isSign_97 6 rfl ?_
                      refine v_if_gt (pc := 99) X 108 dL_isSign_99 (by decide) (fun c_99 => ?_) (fun c_99 => ?_)
                      · have hS := sg2_s hR92 (by first | exact Or.inl c_99 | exact Or.inr c_105)
                        refine v_aload_n (pc := 108) X dL_isSign_108 0 rfl ?_
                        refine v_iload_n (pc := 109) X dL_isSign_109 1 rfl ?_
                        refine v_iload_n (pc := 110) X dL_isSign_110 3 rfl ?_
                        refine v_eHS (pc := 111) (rest := []) (n := 3) (wr := ([] : va_W)) (wn := (wG G ag ad aT au al kk kt nw ++ (wD G ad dw df dr de ++ (wT G aT th tr tm tb td tg tl tn ++ (wT G au uh ur um ub ud ug ul un ++ (wL G al lk lp lg lm ls lv)))))) (isC := [0, 1, 2, 3, 4, 5, 6, 7, 8, 9, 10, 11, 12, 13, 14, 15, 16, 17, 18, 19, 20, 21, 22, 23, 24, 25, 26, 27, 28]) (isR := []) (isP := [0, 1, 2, 3, 4, 5, 6, 7, 8, 9, 10, 11, 12, 13, 14, 15, 16, 17, 18, 19, 20, 21, 22, 23, 24, 25, 26, 27, 28]) X (c_L_signq l hfl G ag ad aT au al kk kt nw dw df dr de th tr tm tb td tg tl tn uh ur um ub ud ug ul un lk lp lg lm ls lv p0 y3 p1 h9 hbg) gL_isSign_L_sign rfl rfl rfl (by decide +kernel) ⟨Nat.le_of_ble_eq_true rfl, Nat.le_of_ble_eq_true rfl⟩ dL_isSign_111 rfl rfl (Nat.le_of_ble_eq_true rfl) ⟨by show _ ≤ 28; omega, by show _ ≤ 280; omega⟩ ⟨rfl, rfl, rfl, rfl, by decide, rfl, rfl⟩ ?_
                        refine v_bipush (pc := 114) (v := 48) X dL_isSign_114 (by decide) ?_
                        refine v_iload (pc := 116) X dL_isSign_116 6 rfl ?_
                        refine v_bipush (pc := 118) (v := 10) X dL_isSign_118 (by decide) ?_
                        refine v_irem (pc := 120) X dL_isSign_120 (by decide) rfl ?_
                        refine v_iadd (pc := 121) X dL_isSign_121 rfl ?_
                        refine v_icmp_ne (pc := 122) X 129 dL_isSign_122 (by decide) (fun c_122 => ?_) (fun c_122 => ?_)
                        · exact False.elim (c_122 hS.1)
                        · refine v_iconst (pc := 125) (v := 1) X dL_isSign_125 (by decide) ?_
                          refine v_goto (pc := 126) X 130 dL_isSign_126 (by decide) ?_
                          refine v_istore (pc := 130) (lv' := [(0, .ref (ag 0)), (1, .int p0), (2, .int p1), (3, .int y3), (4, .int x4), (5, .int 1), (6, .int y6), (7, .int y7)]) X dL_isSign_130 (Nat.le_of_ble_eq_true rfl) [1, 2, 3, 4, 5, 0, 6, 7] rfl ?_
                          refine v_iinc (pc := 132) (k := 3) (v := (y3 + 1)) (lv' := [(0, .ref (ag 0)), (1, .int p0), (2, .int p1), (3, .int (y3 + 1)), (4, .int x4), (5, .int 1), (6, .int y6), (7, .int y7)]) X dL_isSign_132 rfl rfl (Nat.le_of_ble_eq_true rfl) [1, 2, 3, 0, 4, 5, 6, 7] rfl ?_
                          refine v_iconst (pc := 135) (v := 0) X dL_isSign_135 (by decide) ?_
                          refine v_istore (pc := 136) (lv' := [(0, .ref (ag 0)), (1, .int p0), (2, .int p1), (3, .int (y3 + 1)), (4, .int x4), (5, .int 1), (6, .int y6), (7, .int 0)]) X dL_isSign_136 (Nat.le_of_ble_eq_true rfl) [1, 2, 3, 4, 5, 6, 7, 0] rfl ?_
                          refine v_iload (pc := 138) X dL_isSign_138 6 rfl ?_
                          refine v_bipush (pc := 140) (v := 10) X dL_isSign_140 (by decide) ?_
                          refine v_idiv (pc := 142) X dL_isSign_142 (by decide) rfl ?_
                          refine v_istore (pc := 143) (lv' := [(0, .ref (ag 0)), (1, .int p0), (2, .int p1), (3, .int (y3 + 1)), (4, .int x4), (5, .int 1), (6, .int (y6 / 10)), (7, .int 0)]) X dL_isSign_143 (Nat.le_of_ble_eq_true rfl) [1, 2, 3, 4, 5, 6, 0, 7] rfl ?_
                          refine v_goto (pc := 145) X 92 dL_isSign_145 (by decide) ?_
                          refine v_widen (k := ((2 + 2 * (5 - (n13 + 1))) + 2 + 2 * (5 - n92))) (n := ((20 + 20 * (5 - (n13 + 1))) + 20 + 20 * (5 - n92))) (by omega) (by omega) ?_
                          exact ih92 (y3 + 1) (y6 / 10) 0 (Nat.le_of_succ_le hn92) (hS.2)
                      · refine v_iload (pc := 102) X dL_isSign_102 7 rfl ?_
                        refine v_iconst (pc := 104) (v := 1) X dL_isSign_104 (by decide) ?_
                        refine v_icmp_ne (pc := 105) X 148 dL_isSign_105 (by decide) (fun c_105 => ?_) (fun c_105 => ?_)
                        · have hZ := sg2_e hR92 c_99 c_105
                          refine v_iload (pc := 148) X dL_isSign_148 5 rfl ?_
                          refine v_if_eq (pc := 150) X 188 dL_isSign_150 (by decide) (fun c_150 => ?_) (fun c_150 => ?_)
                          · exact absurd c_150 (by decide)
                          · refine v_aload_n (pc := 153) X dL_isSign_153 0 rfl ?_
                            refine v_iload_n (pc := 154) X dL_isSign_154 1 rfl ?_
                            refine v_iload_n (pc := 155) X dL_isSign_155 3 rfl ?_
                            refine v_eHS (pc := 156) (rest := []) (n := 3) (wr := ([] : va_W)) (wn := (wG G ag ad aT au al kk kt nw ++ (wD G ad dw df dr de ++ (wT G aT th tr tm tb td tg tl tn ++ (wT G au uh ur um ub ud ug ul un ++ (wL G al lk lp lg lm ls lv)))))) (isC := [0, 1, 2, 3, 4, 5, 6, 7, 8, 9, 10, 11, 12, 13, 14, 15, 16, 17, 18, 19, 20, 21, 22, 23, 24, 25, 26, 27, 28]) (isR := []) (isP := [0, 1, 2, 3, 4, 5, 6, 7, 8, 9, 10, 11, 12, 13, 14, 15, 16, 17, 18, 19, 20, 21, 22, 23, 24, 25, 26, 27, 28]) X (c_L_signq l hfl G ag ad aT au al kk kt nw dw df dr de th tr tm tb td tg tl tn uh ur um ub ud ug ul un lk lp lg lm ls lv p0 y3 p1 h9 hbg) gL_isSign_L_sign rfl rfl rfl (by decide +kernel) ⟨Nat.le_of_ble_eq_true rfl, Nat.le_of_ble_eq_true rfl⟩ dL_isSign_156 rfl rfl (Nat.le_of_ble_eq_true rfl) ⟨by show _ ≤ 28; omega, by show _ ≤ 280; omega⟩ ⟨rfl, rfl, rfl, rfl, by decide, rfl, rfl⟩ ?_
                            refine v_bipush (pc := 159) (v := 65) X dL_isSign_159 (by decide) ?_
                            refine v_iconst (pc := 161) (v := 3) X dL_isSign_161 (by decide) ?_
                            refine v_iload_n (pc := 162) X dL_isSign_162 2 rfl ?_
                            refine v_imul (pc := 163) X dL_isSign_163 rfl ?_
                            refine v_iload_n (pc := 164) X dL_isSign_164 1 rfl ?_
                            refine v_iadd (pc := 165) X dL_isSign_165 rfl ?_
                            refine v_bipush (pc := 166) (v := 26) X dL_isSign_166 (by decide) ?_
                            refine v_irem (pc := 168) X dL_isSign_168 (by decide) rfl ?_
                            refine v_iadd (pc := 169) X dL_isSign_169 rfl ?_
                            refine v_icmp_ne (pc := 170) X 188 dL_isSign_170 (by decide) (fun c_170 => ?_) (fun c_170 => ?_)
                            · exact False.elim (c_170 hZ.1)
                            · refine v_aload_n (pc := 173) X dL_isSign_173 0 rfl ?_
                              refine v_iload_n (pc := 174) X dL_isSign_174 1 rfl ?_
                              refine v_iload_n (pc := 175) X dL_isSign_175 3 rfl ?_
                              refine v_iconst (pc := 176) (v := 1) X dL_isSign_176 (by decide) ?_
                              refine v_iadd (pc := 177) X dL_isSign_177 rfl ?_
                              refine v_eHS (pc := 178) (rest := []) (n := 3) (wr := ([] : va_W)) (wn := (wG G ag ad aT au al kk kt nw ++ (wD G ad dw df dr de ++ (wT G aT th tr tm tb td tg tl tn ++ (wT G au uh ur um ub ud ug ul un ++ (wL G al lk lp lg lm ls lv)))))) (isC := [0, 1, 2, 3, 4, 5, 6, 7, 8, 9, 10, 11, 12, 13, 14, 15, 16, 17, 18, 19, 20, 21, 22, 23, 24, 25, 26, 27, 28]) (isR := []) (isP := [0, 1, 2, 3, 4, 5, 6, 7, 8, 9, 10, 11, 12, 13, 14, 15, 16, 17, 18, 19, 20, 21, 22, 23, 24, 25, 26, 27, 28]) X (c_L_signq l hfl G ag ad aT au al kk kt nw dw df dr de th tr tm tb td tg tl tn uh ur um ub ud ug ul un lk lp lg lm ls lv p0 (y3 + 1) p1 h9 hbg) gL_isSign_L_sign rfl rfl rfl (by decide +kernel) ⟨Nat.le_of_ble_eq_true rfl, Nat.le_of_ble_eq_true rfl⟩ dL_isSign_178 rfl rfl (Nat.le_of_ble_eq_true rfl) ⟨by show _ ≤ 28; omega, by show _ ≤ 280; omega⟩ ⟨rfl, rfl, rfl, rfl, by decide, rfl, rfl⟩ ?_
                              refine v_if_ne (pc := 181) X 188 dL_isSign_181 (by decide) (fun c_181 => ?_) (fun c_181 => ?_)
                              · exact False.elim (c_181 hZ.2)
                              · refine v_iconst (pc := 184) (v := 1) X dL_isSign_184 (by decide) ?_
                                refine v_goto (pc := 185) X 189 dL_isSign_185 (by decide) ?_
                                refine v_widen (k := 28) (n := 280) (by omega) (by omega) ?_
                                exact v_zret (pc := 189) X hr (by rfl) dL_isSign_189 (()) (rfl) (rfl)
                        · have hS := sg2_s hR92 (by first | exact Or.inl c_99 | exact Or.inr c_105)
                          refine v_aload_n (pc := 108) X dL_isSign_108 0 rfl ?_
                          refine v_iload_n (pc := 109) X dL_isSign_109 1 rfl ?_
                          refine v_iload_n (pc := 110) X dL_isSign_110 3 rfl ?_
                          refine v_eHS (pc := 111) (rest := []) (n := 3) (wr := ([] : va_W)) (wn := (wG G ag ad aT au al kk kt nw ++ (wD G ad dw df dr de ++ (wT G aT th tr tm tb td tg tl tn ++ (wT G au uh ur um ub ud ug ul un ++ (wL G al lk lp lg lm ls lv)))))) (isC := [0, 1, 2, 3, 4, 5, 6, 7, 8, 9, 10, 11, 12, 13, 14, 15, 16, 17, 18, 19, 20, 21, 22, 23, 24, 25, 26, 27, 28]) (isR := []) (isP := [0, 1, 2, 3, 4, 5, 6, 7, 8, 9, 10, 11, 12, 13, 14, 15, 16, 17, 18, 19, 20, 21, 22, 23, 24, 25, 26, 27, 28]) X (c_L_signq l hfl G ag ad aT au al kk kt nw dw df dr de th tr tm tb td tg tl tn uh ur um ub ud ug ul un lk lp lg lm ls lv p0 y3 p1 h9 hbg) gL_isSign_L_sign rfl rfl rfl (by decide +kernel) ⟨Nat.le_of_ble_eq_true rfl, Nat.le_of_ble_eq_true rfl⟩ dL_isSign_111 rfl rfl (Nat.le_of_ble_eq_true rfl) ⟨by show _ ≤ 28; omega, by show _ ≤ 280; omega⟩ ⟨rfl, rfl, rfl, rfl, by decide, rfl, rfl⟩ ?_
                          refine v_bipush (pc := 114) (v := 48) X dL_isSign_114 (by decide) ?_
                          refine v_iload (pc := 116) X dL_isSign_116 6 rfl ?_
                          refine v_bipush (pc := 118) (v := 10) X dL_isSign_118 (by decide) ?_
                          refine v_irem (pc := 120) X dL_isSign_120 (by decide) rfl ?_
                          refine v_iadd (pc := 121) X dL_isSign_121 rfl ?_
                          refine v_icmp_ne (pc := 122) X 129 dL_isSign_122 (by decide) (fun c_122 => ?_) (fun c_122 => ?_)
                          · exact False.elim (c_122 hS.1)
                          · refine v_iconst (pc := 125) (v := 1) X dL_isSign_125 (by decide) ?_
                            refine v_goto (pc := 126) X 130 dL_isSign_126 (by decide) ?_
                            refine v_istore (pc := 130) (lv' := [(0, .ref (ag 0)), (1, .int p0), (2, .int p1), (3, .int y3), (4, .int x4), (5, .int 1), (6, .int y6), (7, .int y7)]) X dL_isSign_130 (Nat.le_of_ble_eq_true rfl) [1, 2, 3, 4, 5, 0, 6, 7] rfl ?_
                            refine v_iinc (pc := 132) (k := 3) (v := (y3 + 1)) (lv' := [(0, .ref (ag 0)), (1, .int p0), (2, .int p1), (3, .int (y3 + 1)), (4, .int x4), (5, .int 1), (6, .int y6), (7, .int y7)]) X dL_isSign_132 rfl rfl (Nat.le_of_ble_eq_true rfl) [1, 2, 3, 0, 4, 5, 6, 7] rfl ?_
                            refine v_iconst (pc := 135) (v := 0) X dL_isSign_135 (by decide) ?_
                            refine v_istore (pc := 136) (lv' := [(0, .ref (ag 0)), (1, .int p0), (2, .int p1), (3, .int (y3 + 1)), (4, .int x4), (5, .int 1), (6, .int y6), (7, .int 0)]) X dL_isSign_136 (Nat.le_of_ble_eq_true rfl) [1, 2, 3, 4, 5, 6, 7, 0] rfl ?_
                            refine v_iload (pc := 138) X dL_isSign_138 6 rfl ?_
                            refine v_bipush (pc := 140) (v := 10) X dL_isSign_140 (by decide) ?_
                            refine v_idiv (pc := 142) X dL_isSign_142 (by decide) rfl ?_
                            refine v_istore (pc := 143) (lv' := [(0, .ref (ag 0)), (1, .int p0), (2, .int p1), (3, .int (y3 + 1)), (4, .int x4), (5, .int 1), (6, .int (y6 / 10)), (7, .int 0)]) X dL_isSign_143 (Nat.le_of_ble_eq_true rfl) [1, 2, 3, 4, 5, 6, 0, 7] rfl ?_
                            refine v_goto (pc := 145) X 92 dL_isSign_145 (by decide) ?_
                            refine v_widen (k := ((2 + 2 * (5 - (n13 + 1))) + 2 + 2 * (5 - n92))) (n := ((20 + 20 * (5 - (n13 + 1))) + 20 + 20 * (5 - n92))) (by omega) (by omega) ?_
                            exact ih92 (y3 + 1) (y6 / 10) 0 (Nat.le_of_succ_le hn92) (hS.2)
                refine v_widen (k := ((2 + 2 * (5 - (n13 + 1))) + 2 + 2 * (5 - 5))) (n := ((20 + 20 * (5 - (n13 + 1))) + 20 + 20 * (5 - 5))) (by omega) (by omega) ?_
                exact LP92 5 (x3 + 1) p1 1 (Nat.le_refl _) (hE.2.2)
          · refine v_bipush (pc := 32) (v := 10) X dL_isSign_32 (by decide) ?_
            refine v_iload (pc := 34) X dL_isSign_34 4 rfl ?_
            refine v_imul (pc := 36) X dL_isSign_36 rfl ?_
            refine v_iload (pc := 37) X dL_isSign_37 5 rfl ?_
            refine v_iadd (pc := 39) X dL_isSign_39 rfl ?_
            refine v_bipush (pc := 40) (v := 48) X dL_isSign_40 (by decide) ?_
            refine v_isub (pc := 42) X dL_isSign_42 rfl ?_
            refine v_istore (pc := 43) (lv' := [(0, .ref (ag 0)), (1, .int p0), (2, .int p1), (3, .int x3), (4, .int (((10 * x4) + x5) - 48)), (5, .int x5)]) X dL_isSign_43 (Nat.le_of_ble_eq_true rfl) [1, 2, 3, 4, 0, 5] rfl ?_
            refine v_iinc (pc := 45) (k := 3) (v := (x3 + 1)) (lv' := [(0, .ref (ag 0)), (1, .int p0), (2, .int p1), (3, .int (x3 + 1)), (4, .int (((10 * x4) + x5) - 48)), (5, .int x5)]) X dL_isSign_45 rfl rfl (Nat.le_of_ble_eq_true rfl) [1, 2, 3, 0, 4, 5] rfl ?_
            refine v_aload_n (pc := 48) X dL_isSign_48 0 rfl ?_
            refine v_iload_n (pc := 49) X dL_isSign_49 1 rfl ?_
            refine v_iload_n (pc := 50) X dL_isSign_50 3 rfl ?_
            refine v_eHS (pc := 51) (rest := []) (n := 3) (wr := ([] : va_W)) (wn := (wG G ag ad aT au al kk kt nw ++ (wD G ad dw df dr de ++ (wT G aT th tr tm tb td tg tl tn ++ (wT G au uh ur um ub ud ug ul un ++ (wL G al lk lp lg lm ls lv)))))) (isC := [0, 1, 2, 3, 4, 5, 6, 7, 8, 9, 10, 11, 12, 13, 14, 15, 16, 17, 18, 19, 20, 21, 22, 23, 24, 25, 26, 27, 28]) (isR := []) (isP := [0, 1, 2, 3, 4, 5, 6, 7, 8, 9, 10, 11, 12, 13, 14, 15, 16, 17, 18, 19, 20, 21, 22, 23, 24, 25, 26, 27, 28]) X (c_L_signq l hfl G ag ad aT au al kk kt nw dw df dr de th tr tm tb td tg tl tn uh ur um ub ud ug ul un lk lp lg lm ls lv p0 (x3 + 1) p1 h9 hbg) gL_isSign_L_sign rfl rfl rfl (by decide +kernel) ⟨Nat.le_of_ble_eq_true rfl, Nat.le_of_ble_eq_true rfl⟩ dL_isSign_51 rfl rfl (Nat.le_of_ble_eq_true rfl) ⟨by show _ ≤ 28; omega, by show _ ≤ 280; omega⟩ ⟨rfl, rfl, rfl, rfl, by decide, rfl, rfl⟩ ?_
            refine v_istore (pc := 54) (lv' := [(0, .ref (ag 0)), (1, .int p0), (2, .int p1), (3, .int (x3 + 1)), (4, .int (((10 * x4) + x5) - 48)), (5, .int (sgF p1 p0 (x3 + 1)))]) X dL_isSign_54 (Nat.le_of_ble_eq_true rfl) [1, 2, 3, 4, 5, 0] rfl ?_
            refine v_goto (pc := 56) X 13 dL_isSign_56 (by decide) ?_
            refine v_widen (k := (2 + 2 * (5 - n13))) (n := (20 + 20 * (5 - n13))) (by omega) (by omega) ?_
            exact ih13 (x3 + 1) (((10 * x4) + x5) - 48) (sgF p1 p0 (x3 + 1)) (Nat.le_of_succ_le hn13) (sg1_s hR13 c_17 c_24 c_29)
  refine v_widen (k := (2 + 2 * (5 - 5))) (n := (20 + 20 * (5 - 5))) (by omega) (by omega) ?_
  exact LP13 5 0 0 (sgF p1 p0 0) (Nat.le_refl _) (h1)
theorem isSign_1 : ∀ a : Nat, a < 12 → ∀ b : Nat, b < 112 → sgR1 5 0 0 (sgF (nI b) (nI a) 0) (nI a) (nI b) = 1 := by decide +kernel
