section VLAW
variable {p : Program} {l : Launch} {e : Env} {R : Room} {s : State} {m : MethodId} {args : Array Value} {below : List Frame} {meth : Method} {c : Code} {cc : ByteArray} {nL : Nat} {Ts : List Cond} {own : String} {G : va_G} {A : Nat → Prop} {cells slots : Nat} {Q : State → Prop} {ws : va_W} {lv : List (Nat × Value)} {pc : Nat} {st : List Value}
theorem v_sld (X : VX p s m args meth c cc nL Ts own G A) {b L : Nat} {xs : Nat → Int32} (hX : va_X b L xs s s.heap) (hbl : b < s.heap.size) (hbA : ¬ A b) {i v : Int32} (d : decode cc pc = .ok (.iaload, 1)) (hin : vp_in i L) (hv : xs i.toNatClampNeg = v) (kk : V p l e R s m args below meth c nL G A cells slots Q ws lv (pc + 1) (.int v :: st)) : V p l e R s m args below meth c nL G A cells slots Q ws lv pc (.int i :: .ref b :: st) := by
  intro H locs ls hP hD hS hl
  obtain ⟨⟨hx, hb, -⟩, hG, -⟩ := X
  subst hv
  exact va_sld hx hb hX hbl hbA hS hin d (kk H locs ls hP hD hS hl)
theorem v_slen (X : VX p s m args meth c cc nL Ts own G A) {b L : Nat} {xs : Nat → Int32} (hX : va_X b L xs s s.heap) (hbl : b < s.heap.size) (hbA : ¬ A b) (d : decode cc pc = .ok (.arraylength, 1)) (kk : V p l e R s m args below meth c nL G A cells slots Q ws lv (pc + 1) (.int (nI L) :: st)) : V p l e R s m args below meth c nL G A cells slots Q ws lv pc (.ref b :: st) := by
  intro H locs ls hP hD hS hl
  obtain ⟨⟨hx, hb, -⟩, hG, -⟩ := X
  exact va_slen hx hb hX hbl hbA hS d (kk H locs ls hP hD hS hl)
theorem v_lvw {lv' : List (Nat × Value)} (is : List Nat) (h : lv_pick lv is = lv') (kk : V p l e R s m args below meth c nL G A cells slots Q ws lv' pc st) : V p l e R s m args below meth c nL G A cells slots Q ws lv pc st :=
  fun H locs ls hP hD hS hl => kk H locs ls hP hD hS (lv_sub hl is h)
theorem v_eHS (X : VX p s m args meth c cc nL Ts own G A) {y : MethodName} {bytes : ByteArray} {maxL mc ms n index : Nat} {ret : Option FieldType} {hh : List (Nat × Nat × Nat × Nat)} {wsY wsY' : List Cond} {rm : Room} {As rest : List Value} {wo wn wc wr : va_W} {isC isR isP : List Nat} {r : Int32} (hM : Ke l y wsY rm mc ms G wc As r wo) (hG : GoodIn Ts (va_wsS own index y wsY)) (hw : wsY = Cond.codeWith y bytes maxL ret hh :: wsY') (hrc : rm.cells = mc) (hrs : rm.slots = ms) (hd : y.cls ≠ "java/lang/invoke/MethodHandle" ∧ y.cls ≠ "java/lang/invoke/VarHandle" ∧ (parseMethodDescriptor y.desc).map (fun d => d.parameters.length) = some n) (hR : rm.frames + 1 ≤ R.frames ∧ 8 + (maxL + 11) + rm.locals ≤ R.locals) (d : decode cc pc = .ok (.invokestatic index, 3)) (hn : As.length = n) (hst : st = As.reverse ++ rest) (hcat : (rest.map fun v => v.category).sum ≤ 8) (hroom : cells + mc ≤ R.cells ∧ slots + ms ≤ R.slots) (hJ : VJe ws wc wr isC isR isP wo wn) (kk : V p l e R s m args below meth c nL G A (cells + mc) (slots + ms) Q wn lv (pc + 3) (.int r :: rest)) : V p l e R s m args below meth c nL G A cells slots Q ws lv pc st :=
  v_callHi X hM hG hw hrc hrs hd hR d hn hst hcat hroom hJ.j (fun r9 u hr => by obtain rfl : r9 = r := hr; exact kk)
end VLAW
/-! ### small facts for the law's walks -/
theorem df_ge {x : Int32} (h : x = 0 ∨ x = 1 ∨ x = 2) : ¬ x < 0 := by rcases h with rfl | rfl | rfl <;> decide
theorem df_lt {x : Int32} (h : x = 0 ∨ x = 1 ∨ x = 2) : ¬ 3 ≤ x := by rcases h with rfl | rfl | rfl <;> decide
theorem kt_ps {x : Int32} (h : x = 1) : ¬ x ≤ 0 := by rw [h]; decide
theorem cnt_st2 {de : Nat → Int32} {nw x4 x5 : Int32} {n : Nat} (hI : x5 = nI (12 + 1 - (n + 1)) ∧ 1 ≤ n + 1 ∧ n + 1 ≤ 12 + 1) (hC : x4 = nI (zct (isn de nw) (12 + 1 - (n + 1)))) (c : ¬ 12 ≤ x5) : x4 + f_X0_isInSession_r de x5 nw = nI (zct (isn de nw) (12 + 1 - n)) := by
  obtain ⟨e, h1, h2⟩ := hI
  have hn : 1 ≤ n := by
    rcases Nat.eq_zero_or_pos n with z | z
    · subst z; subst e; exact absurd zc_12e c
    · exact z
  subst e; subst hC
  rw [cnt_st de nw (12 + 1 - (n + 1)) (by omega), show 12 + 1 - (n + 1) + 1 = 12 + 1 - n by omega]
theorem cnt_ex {de : Nat → Int32} {nw x4 x5 : Int32} {n : Nat} (hI : x5 = nI (12 + 1 - (n + 1)) ∧ 1 ≤ n + 1 ∧ n + 1 ≤ 12 + 1) (hC : x4 = nI (zct (isn de nw) (12 + 1 - (n + 1)))) (c : 12 ≤ x5) : x4 = nI (zct (isn de nw) 12) := by
  obtain ⟨e, h1, h2⟩ := hI
  subst e
  have h3 := (nI_leI (a := 12) (b := 12 + 1 - (n + 1)) (by decide) (by omega)).mp c
  rw [hC, show 12 + 1 - (n + 1) = 12 by omega]
theorem opn_st {th tr td tl : Nat → Int32} {x x11 x12 : Int32} {r n : Nat} (hx : vp_in x 12) (hr : r < 64) (e : f_X2_roomsOf_r th tr x = nI r) (hI : x12 = nI (6 + 1 - (n + 1)) ∧ 1 ≤ n + 1 ∧ n + 1 ≤ 6 + 1) (hO : x11 = opn (f_X2_isTainted_r th td tl x) r (6 + 1 - (n + 1))) (c : ¬ 6 ≤ x12) : (x11 ||| (f_L_door_r th tr td tl x x12 <<< (x12 &&& 31))) = opn (f_X2_isTainted_r th td tl x) r (6 + 1 - n) := by
  obtain ⟨e2, h1, h2⟩ := hI
  have hn : 1 ≤ n := by
    rcases Nat.eq_zero_or_pos n with z | z
    · subst z; subst e2; exact absurd (show (6 : Int32) ≤ nI 6 by decide) c
    · exact z
  subst e2; subst hO
  rw [opn_s hx hr (by omega) e, show 6 + 1 - (n + 1) + 1 = 6 + 1 - n by omega]
theorem opn_ex {th tr td tl : Nat → Int32} {x x11 x12 : Int32} {r n : Nat} (hr : r < 64) (e : f_X2_roomsOf_r th tr x = nI r) (hI : x12 = nI (6 + 1 - (n + 1)) ∧ 1 ≤ n + 1 ∧ n + 1 ≤ 6 + 1) (hO : x11 = opn (f_X2_isTainted_r th td tl x) r (6 + 1 - (n + 1))) (c : 6 ≤ x12) : x11 = (if f_X2_isTainted_r th td tl x = 1 then 0 else f_X2_roomsOf_r th tr x) := by
  obtain ⟨e2, h1, h2⟩ := hI
  subst e2
  have h3 := (nI_leI (a := 6) (b := 6 + 1 - (n + 1)) (by decide) (by omega)).mp c
  rw [hO, show 6 + 1 - (n + 1) = 6 by omega, opn_6 hr e]
theorem end_lt {de : Nat → Int32} {nw x4 y6 : Int32} {n : Nat} (hI : y6 = nI (12 + 1 - (n + 1)) ∧ 1 ≤ n + 1 ∧ n + 1 ≤ 12 + 1) (hC : x4 = nI (zct (isn de nw) 12)) (c : ¬ x4 ≤ y6) : 12 + 1 - (n + 1) < zct (isn de nw) 12 ∧ ¬ 12 ≤ y6 := by
  obtain ⟨e, h1, h2⟩ := hI
  have hb := zct_bd (isn de nw) 12
  subst e; subst hC
  have h3 := mt (nI_leI (a := zct (isn de nw) 12) (b := 12 + 1 - (n + 1)) (by omega) (by omega)).mpr c
  exact ⟨by omega, zc_12 (by omega)⟩
theorem end_st {de : Nat → Int32} {nw x4 y6 : Int32} {n : Nat} (hI : y6 = nI (12 + 1 - (n + 1)) ∧ 1 ≤ n + 1 ∧ n + 1 ≤ 12 + 1) (hC : x4 = nI (zct (isn de nw) 12)) (c : ¬ x4 ≤ y6) : ∃ i, i < 12 ∧ isn de nw i ∧ 12 + 1 - (n + 1) = zct (ahd de nw i) 12 ∧ f_L_ending_r nw de y6 = nI i ∧ BEF de nw (12 + 1 - n) (de i) := by
  obtain ⟨h1, h2⟩ := end_lt hI hC c
  obtain ⟨i, hi, hP, hr, he⟩ := ending_hit de nw _ h1
  rw [← hI.1] at he
  refine ⟨i, hi, hP, hr.symm, he, ?_⟩
  have := bef_s de nw hi hP hr
  rwa [show 12 + 1 - (n + 1) + 1 = 12 + 1 - n by
    have := zct_bd (isn de nw) 12
    omega] at this
theorem bef_0 {de : Nat → Int32} {nw : Int32} {w : Nat} (hnw : nw = nI w) (hw : w < 100000) (hde : ∀ j, j < 12 → ∃ e, e ≤ w + 30 ∧ de j = nI e) (k : Nat) : BEF de nw k 0 := fun i hi hP _ => by
  obtain ⟨e, he, q⟩ := hde i hi
  rw [q]
  exact nI_pos' (by omega)
theorem le100 {t : Nat} (ht : t < 100) : t ≤ 100 := by omega
def mkU (a b c d e f g : Nat → Int32) (n : Int32) : Nat → Nat → Int32 := fun k => match k with
  | 0 => a
  | 1 => b
  | 2 => c
  | 3 => d
  | 4 => e
  | 5 => f
  | 6 => g
  | _ => fun _ => n
theorem ct_st (th td tl : Nat → Int32) (x m : Int32) (n : Nat) (hx : vp_in x 12) : FX2_countTainted_4_x1 (n + 1) m x th td tl = FX2_countTainted_4_x1 n (m + f_X2_isTainted_r th td tl x) (x + 1) th td tl := by
  show (if 12 ≤ x then m else _) = _
  rw [if_neg (ap_12 hx)]
  rcases ta_b th td tl x with e | e
  · rw [e, if_pos rfl, Int32.add_zero]
  · rw [e, if_neg (show ¬ (1 : Int32) = 0 by decide)]
theorem ct_end (th td tl : Nat → Int32) (x m : Int32) (n : Nat) (hx : 12 ≤ x) : FX2_countTainted_4_x1 (n + 1) m x th td tl = m := by
  show (if 12 ≤ x then m else _) = _
  rw [if_pos hx]
theorem lost_t (th td tl : Nat → Int32) (p : Int32) : f_X2_isTainted_r th td (upd tl p.toNatClampNeg 1) p = 1 := by
  unfold f_X2_isTainted_r
  rw [upd_at, if_neg (by decide)]
