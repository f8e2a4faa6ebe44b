
set_option maxHeartbeats 4000000 in
set_option maxRecDepth 100000 in
theorem c_J5_init_d00df (l : Launch) (G : va_G) (h0 : Nat) : Kv l yJ5_init_d00df wsJ5_init_d00df { frames := 1, cells := 1, slots := 16, locals := 16 } 1 16 G ([(h0, .inr (0, [.null, .int 0, .int 0, .int 0]))]) [.ref h0, .int 16] (S := (Nat → Nat) × (Nat → Nat)) (fun q => q.1 0 = h0) (fun q => match q with | (a, b) => (wSo G a b 0 0 0 ++ (wB G b (fun _ => 0)))) := by
  refine v_ofv (cc := cJ5_init_d00df) (nL := 2) (lv := [(0, .ref h0), (1, .int 16)]) (by decide) rfl (Nat.le_of_ble_eq_true rfl) rfl ?_
  intro p e s m args below meth c A X hr hin
  have gxs := X.2.1.2.2.2.2.2.1
  refine v_aload_n (pc := 0) X dJ5_init_d00df_0 0 rfl ?_
  refine v_objInit (pc := 1) (i1 := 1) (i2 := 2) (i3 := 3) X dJ5_init_d00df_1 rfl rfl rfl (Nat.le_of_ble_eq_true rfl) (Nat.le_of_ble_eq_true rfl) ?_
  refine v_gets (pc := 4) (i := 4) X gxs dJ5_init_d00df_4 rfl rfl ?_
  refine v_if_eq (pc := 7) X 25 dJ5_init_d00df_7 (by decide) (fun c_7 => ?_) (fun c_7 => ?_)
  · exact absurd c_7 (by decide)
  · refine v_aload_n (pc := 10) X dJ5_init_d00df_10 0 rfl ?_
    refine v_iload_n (pc := 11) X dJ5_init_d00df_11 1 rfl ?_
    refine v_newB (pc := 12) (i := 5) (N := 16) X dJ5_init_d00df_12 rfl (by decide) (by decide) (Nat.le_of_ble_eq_true rfl) (Nat.le_of_ble_eq_true rfl) (Nat.le_of_ble_eq_true rfl) (fun q12 => ?_)
    refine v_ws (ws' := ([(h0, .inr (0, [.null, .int 0, .int 0, .int 0])), (q12, .inl (G.1 14, 16, .inl (fun _ => 0)))])) rfl ?_
    refine v_put (pc := 14) (k := 0) (i := 6) (ws' := ([(h0, .inr (0, [.ref q12, .int 0, .int 0, .int 0])), (q12, .inl (G.1 14, 16, .inl (fun _ => 0)))])) X dJ5_init_d00df_14 (fun _ h => List.mem_cons_of_mem _ (List.mem_append_right _ h)) tyJ4_ok nmJ4 0 rfl rfl (Nat.le_of_ble_eq_true rfl) rfl rfl (Or.inl rfl) rfl (rfl) rfl (Nat.le_of_ble_eq_true rfl) rfl ?_
    refine v_aload_n (pc := 17) X dJ5_init_d00df_17 0 rfl ?_
    refine v_iconst (pc := 18) (v := 0) X dJ5_init_d00df_18 (by decide) ?_
    refine v_put (pc := 19) (k := 1) (i := 7) (ws' := ([(h0, .inr (0, [.ref q12, .int 0, .int 0, .int 0])), (q12, .inl (G.1 14, 16, .inl (fun _ => 0)))])) X dJ5_init_d00df_19 (fun _ h => List.mem_cons_of_mem _ (List.mem_append_right _ h)) tyJ4_ok nmJ4 0 rfl rfl (Nat.le_of_ble_eq_true rfl) rfl rfl (Or.inl rfl) rfl (by decide) rfl (Nat.le_of_ble_eq_true rfl) rfl ?_
    refine v_goto (pc := 22) X 38 dJ5_init_d00df_22 (by decide) ?_
    exact v_vret (pc := 38) X hr dJ5_init_d00df_38 ((adr [h0], adr [q12])) rfl rfl

set_option maxHeartbeats 4000000 in
set_option maxRecDepth 100000 in
theorem c_J4_init_da8c8 (l : Launch) (G : va_G) (h0 : Nat) : Kv l yJ4_init_da8c8 wsJ4_init_da8c8 { frames := 2, cells := 1, slots := 16, locals := 37 } 1 16 G ([(h0, .inr (0, [.null, .int 0, .int 0, .int 0]))]) [.ref h0] (S := (Nat → Nat) × (Nat → Nat)) (fun q => q.1 0 = h0) (fun q => match q with | (a, b) => (wSo G a b 0 0 0 ++ (wB G b (fun _ => 0)))) := by
  refine v_ofv (cc := cJ4_init_da8c8) (nL := 1) (lv := [(0, .ref h0)]) (by decide) rfl (Nat.le_of_ble_eq_true rfl) rfl ?_
  intro p e s m args below meth c A X hr hin
  refine v_aload_n (pc := 0) X dJ4_init_da8c8_0 0 rfl ?_
  refine v_bipush (pc := 1) (v := 16) X dJ4_init_da8c8_1 (by decide) ?_
  refine v_callIv (pc := 3) (rest := []) (n := 1) (i1 := 3) (i2 := 1) (i3 := 2) (wr := ([] : va_W)) (wn := fun (q9 : (Nat → Nat) × (Nat → Nat)) => (wSo G (q9.1) (q9.2) 0 0 0 ++ (wB G (q9.2) (fun _ => 0)))) (isC := [0]) (isR := []) (isP := [0, 1]) X (c_J5_init_d00df l G h0) gJ4_init_da8c8_J5_init_d00df rfl rfl rfl rfl rfl rfl rfl (by decide +kernel) ⟨Nat.le_of_ble_eq_true rfl, Nat.le_of_ble_eq_true rfl⟩ dJ4_init_da8c8_3 rfl rfl (Nat.le_of_ble_eq_true rfl) ⟨Nat.le_of_ble_eq_true rfl, Nat.le_of_ble_eq_true rfl⟩ ⟨rfl, rfl, rfl, rfl, by decide, rfl, fun _ => rfl⟩ (fun q9 hh9 => ?_)
  obtain ⟨a3, b3⟩ := q9
  obtain rfl : a3 0 = h0 := hh9
  refine v_ws (ws' := (wSo G a3 b3 0 0 0 ++ (wB G b3 (fun _ => 0)))) rfl ?_
  exact v_vret (pc := 6) X hr dJ4_init_da8c8_6 ((a3, b3)) rfl rfl
def f_J5_isLatin1_aae02_r  : Int32 := 1
set_option maxHeartbeats 4000000 in
set_option maxRecDepth 100000 in
theorem c_J5_isLatin1_aae02 (l : Launch) (G : va_G) (aS : Nat → Nat) (aB : Nat → Nat) (sm : Int32) (sn : Int32) (sb : Nat → Int32) : Ke l yJ5_isLatin1_aae02 wsJ5_isLatin1_aae02 { frames := 0, cells := 0, slots := 0, locals := 0 } 0 0 G (wSo G aS aB 0 sm sn ++ (wB G aB sb)) [.ref (aS 0)] f_J5_isLatin1_aae02_r (wSo G aS aB 0 sm sn ++ (wB G aB sb)) := by
  refine v_ofi (cc := cJ5_isLatin1_aae02) (nL := 1) (lv := [(0, .ref (aS 0))]) (by decide) rfl (Nat.le_of_ble_eq_true rfl) rfl ?_
  intro p e s m args below meth c A X hr
  have gxs := X.2.1.2.2.2.2.2.1
  refine v_gets (pc := 0) (i := 1) X gxs dJ5_isLatin1_aae02_0 rfl rfl ?_
  refine v_if_eq (pc := 3) X 17 dJ5_isLatin1_aae02_3 (by decide) (fun c_3 => ?_) (fun c_3 => ?_)
  · exact absurd c_3 (by decide)
  · refine v_aload_n (pc := 6) X dJ5_isLatin1_aae02_6 0 rfl ?_
    refine v_get (pc := 7) (k := 1) (i := 2) X dJ5_isLatin1_aae02_7 (fun _ h => List.mem_cons_of_mem _ (List.mem_append_right _ h)) 0 rfl rfl (Nat.le_of_ble_eq_true rfl) rfl rfl rfl ?_
    refine v_if_ne (pc := 10) X 17 dJ5_isLatin1_aae02_10 (by decide) (fun c_10 => ?_) (fun c_10 => ?_)
    · exact absurd c_10 (by decide)
    · refine v_iconst (pc := 13) (v := 1) X dJ5_isLatin1_aae02_13 (by decide) ?_
      refine v_goto (pc := 14) X 18 dJ5_isLatin1_aae02_14 (by decide) ?_
      exact v_zret (pc := 18) X hr rfl dJ5_isLatin1_aae02_18 () rfl (by show 1 = f_J5_isLatin1_aae02_r; simp only [f_J5_isLatin1_aae02_r, if_neg c_3, if_pos c_10])
def f_J1_canEncode_fc78d_r (p0 : Int32) : Int32 := (if 255 < p0 then 0 else 1)
set_option maxHeartbeats 4000000 in
set_option maxRecDepth 100000 in
theorem c_J1_canEncode_fc78d (l : Launch) (G : va_G) (p0 : Int32) : Ke l yJ1_canEncode_fc78d wsJ1_canEncode_fc78d { frames := 0, cells := 0, slots := 0, locals := 0 } 0 0 G ([] : va_W) [.int p0] (f_J1_canEncode_fc78d_r p0) ([] : va_W) := by
  refine v_ofi (cc := cJ1_canEncode_fc78d) (nL := 1) (lv := [(0, .int p0)]) (by decide) rfl (Nat.le_of_ble_eq_true rfl) rfl ?_
  intro p e s m args below meth c A X hr
  refine v_iload_n (pc := 0) X dJ1_canEncode_fc78d_0 0 rfl ?_
  refine v_sipush (pc := 1) (v := 255) X dJ1_canEncode_fc78d_1 (by decide) ?_
  refine v_icmp_gt (pc := 4) X 11 dJ1_canEncode_fc78d_4 (by decide) (fun c_4 => ?_) (fun c_4 => ?_)
  · refine v_iconst (pc := 11) (v := 0) X dJ1_canEncode_fc78d_11 (by decide) ?_
    exact v_zret (pc := 12) X hr rfl dJ1_canEncode_fc78d_12 () rfl (by show 0 = (f_J1_canEncode_fc78d_r p0); simp only [f_J1_canEncode_fc78d_r, if_pos c_4])
  · refine v_iconst (pc := 7) (v := 1) X dJ1_canEncode_fc78d_7 (by decide) ?_
    refine v_goto (pc := 8) X 12 dJ1_canEncode_fc78d_8 (by decide) ?_
    exact v_zret (pc := 12) X hr rfl dJ1_canEncode_fc78d_12 () rfl (by show 1 = (f_J1_canEncode_fc78d_r p0); simp only [f_J1_canEncode_fc78d_r, if_neg c_4])
theorem canE {x : Int32} (h : vp_in x 256) : ¬ f_J1_canEncode_fc78d_r x = 0 := by
  obtain ⟨j, hj, rfl⟩ := vp_in_of h (by decide)
  have c : ¬ (255 : Int32) < nI j := fun q => by
    have := (nI_ltI (a := 255) (by decide) (by omega)).mp q
    omega
  simp only [f_J1_canEncode_fc78d_r, if_neg c]
  decide
theorem cap1 {x : Int32} (h : vp_in x 16) : ((x + 1) - 16) ≤ 0 := by
  obtain ⟨j, hj, rfl⟩ := vp_in_of h (by decide)
  have : ∀ j : Nat, j < 16 → ((nI j + 1) - 16) ≤ (0 : Int32) := by decide
  exact this j hj

set_option maxHeartbeats 4000000 in
set_option maxRecDepth 100000 in
theorem c_J5_ensureCapacityInternal_d00df (l : Launch) (G : va_G) (aS : Nat → Nat) (aB : Nat → Nat) (sm : Int32) (sn : Int32) (sb : Nat → Int32) (p0 : Int32) (hc : (p0 - 16) ≤ 0) : Ku l yJ5_ensureCapacityInternal_d00df wsJ5_ensureCapacityInternal_d00df { frames := 0, cells := 0, slots := 0, locals := 0 } 0 0 G (wSo G aS aB 0 sm sn ++ (wB G aB sb)) [.ref (aS 0), .int p0] (wSo G aS aB 0 sm sn ++ (wB G aB sb)) := by
  refine v_ofv (cc := cJ5_ensureCapacityInternal_d00df) (nL := 3) (lv := [(0, .ref (aS 0)), (1, .int p0)]) (by decide) rfl (Nat.le_of_ble_eq_true rfl) rfl ?_
  intro p e s m args below meth c A X hr hin
  refine v_aload_n (pc := 0) X dJ5_ensureCapacityInternal_d00df_0 0 rfl ?_
  refine v_get (pc := 1) (k := 0) (i := 1) X dJ5_ensureCapacityInternal_d00df_1 (fun _ h => List.mem_cons_of_mem _ (List.mem_append_right _ h)) 0 rfl rfl (Nat.le_of_ble_eq_true rfl) rfl rfl rfl ?_
  refine v_alen (pc := 4) (v := 16) X dJ5_ensureCapacityInternal_d00df_4 1 2 rfl rfl rfl ?_
  refine v_aload_n (pc := 5) X dJ5_ensureCapacityInternal_d00df_5 0 rfl ?_
  refine v_get (pc := 6) (k := 1) (i := 2) X dJ5_ensureCapacityInternal_d00df_6 (fun _ h => List.mem_cons_of_mem _ (List.mem_append_right _ h)) 0 rfl rfl (Nat.le_of_ble_eq_true rfl) rfl rfl rfl ?_
  refine v_ishr (pc := 9) (v := 16) X dJ5_ensureCapacityInternal_d00df_9 (by decide) ?_
  refine v_istore_n (pc := 10) (lv' := [(0, .ref (aS 0)), (1, .int p0), (2, .int 16)]) X dJ5_ensureCapacityInternal_d00df_10 rfl (Nat.le_of_ble_eq_true rfl) [1, 2, 0] rfl ?_
  refine v_iload_n (pc := 11) X dJ5_ensureCapacityInternal_d00df_11 1 rfl ?_
  refine v_iload_n (pc := 12) X dJ5_ensureCapacityInternal_d00df_12 2 rfl ?_
  refine v_isub (pc := 13) X dJ5_ensureCapacityInternal_d00df_13 rfl ?_
  refine v_if_le (pc := 14) X 38 dJ5_ensureCapacityInternal_d00df_14 (by decide) (fun c_14 => ?_) (fun c_14 => ?_)
  · exact v_vret (pc := 38) X hr dJ5_ensureCapacityInternal_d00df_38 () rfl True.intro
  · exact False.elim (absurd hc c_14)
def f_J5_append_3fe6f_sn (sn : Int32) : Int32 := (sn + 1)
def f_J5_append_3fe6f_sb (sn : Int32) (sb : Nat → Int32) (p0 : Int32) : Nat → Int32 := (upd sb (sn).toNatClampNeg (vp_nar .byte ((p0).toInt8.toInt32)))
set_option maxHeartbeats 4000000 in
set_option maxRecDepth 100000 in
theorem c_J5_append_3fe6f (l : Launch) (G : va_G) (aS : Nat → Nat) (aB : Nat → Nat) (sm : Int32) (sn : Int32) (sb : Nat → Int32) (p0 : Int32) (hsn : vp_in sn 16) (hch : vp_in p0 256) : Kq l yJ5_append_3fe6f wsJ5_append_3fe6f { frames := 1, cells := 0, slots := 0, locals := 22 } 0 0 G (wSo G aS aB 0 sm sn ++ (wB G aB sb)) [.ref (aS 0), .int p0] (wSo G aS aB 0 sm (f_J5_append_3fe6f_sn sn) ++ (wB G aB (f_J5_append_3fe6f_sb sn sb p0))) := by
  refine v_ofr (cc := cJ5_append_3fe6f) (nL := 2) (lv := [(0, .ref (aS 0)), (1, .int p0)]) (by decide) rfl (Nat.le_of_ble_eq_true rfl) rfl ?_
  intro p e s m args below meth c A X hr
  refine v_aload_n (pc := 0) X dJ5_append_3fe6f_0 0 rfl ?_
  refine v_aload_n (pc := 1) X dJ5_append_3fe6f_1 0 rfl ?_
  refine v_get (pc := 2) (k := 3) (i := 1) X dJ5_append_3fe6f_2 (fun _ h => List.mem_cons_of_mem _ (List.mem_append_right _ h)) 0 rfl rfl (Nat.le_of_ble_eq_true rfl) rfl rfl rfl ?_
  refine v_iconst (pc := 5) (v := 1) X dJ5_append_3fe6f_5 (by decide) ?_
  refine v_iadd (pc := 6) X dJ5_append_3fe6f_6 rfl ?_
  refine v_uU (pc := 7) (rest := []) (n := 1) (wr := ([] : va_W)) (wn := (wSo G aS aB 0 sm sn ++ (wB G aB sb))) (isC := [0, 1]) (isR := []) (isP := [0, 1]) X (c_J5_ensureCapacityInternal_d00df l G aS aB sm sn sb (sn + 1) (cap1 hsn)) gJ5_append_3fe6f_J5_ensureCapacityInternal_d00df_u100J4 rfl rfl rfl rfl (by decide +kernel) ⟨Nat.le_of_ble_eq_true rfl, Nat.le_of_ble_eq_true rfl⟩ dJ5_append_3fe6f_7 rfl rfl (Nat.le_of_ble_eq_true rfl) ⟨Nat.le_of_ble_eq_true rfl, Nat.le_of_ble_eq_true rfl⟩ 0 rfl rfl ⟨rfl, rfl, rfl, rfl, by decide, rfl, rfl⟩ ?_
  refine v_aload_n (pc := 10) X dJ5_append_3fe6f_10 0 rfl ?_
  refine v_eU (pc := 11) (rest := []) (n := 0) (wr := ([] : va_W)) (wn := (wSo G aS aB 0 sm sn ++ (wB G aB sb))) (isC := [0, 1]) (isR := []) (isP := [0, 1]) X (c_J5_isLatin1_aae02 l G aS aB sm sn sb) gJ5_append_3fe6f_J5_isLatin1_aae02_u83J4 rfl rfl rfl rfl (by decide +kernel) ⟨Nat.le_of_ble_eq_true rfl, Nat.le_of_ble_eq_true rfl⟩ dJ5_append_3fe6f_11 rfl rfl (Nat.le_of_ble_eq_true rfl) ⟨Nat.le_of_ble_eq_true rfl, Nat.le_of_ble_eq_true rfl⟩ 0 rfl rfl ⟨rfl, rfl, rfl, rfl, by decide, rfl, rfl⟩ ?_
  refine v_if_eq (pc := 14) X 45 dJ5_append_3fe6f_14 (by decide) (fun c_14 => ?_) (fun c_14 => ?_)
  · exact False.elim (by first | exact absurd c_14 (by decide) | exact absurd c_21 (canE hch))
  · refine v_iload_n (pc := 17) X dJ5_append_3fe6f_17 1 rfl ?_
    refine v_e0S (pc := 18) (rest := []) (n := 1) X (c_J1_canEncode_fc78d l G p0) gJ5_append_3fe6f_J1_canEncode_fc78d rfl rfl rfl (by decide +kernel) ⟨Nat.le_of_ble_eq_true rfl, Nat.le_of_ble_eq_true rfl⟩ dJ5_append_3fe6f_18 rfl rfl (Nat.le_of_ble_eq_true rfl) ⟨Nat.le_of_ble_eq_true rfl, Nat.le_of_ble_eq_true rfl⟩ ?_
    refine v_if_eq (pc := 21) X 45 dJ5_append_3fe6f_21 (by decide) (fun c_21 => ?_) (fun c_21 => ?_)
    · exact False.elim (by first | exact absurd c_14 (by decide) | exact absurd c_21 (canE hch))
    · refine v_aload_n (pc := 24) X dJ5_append_3fe6f_24 0 rfl ?_
      refine v_get (pc := 25) (k := 0) (i := 2) X dJ5_append_3fe6f_25 (fun _ h => List.mem_cons_of_mem _ (List.mem_append_right _ h)) 0 rfl rfl (Nat.le_of_ble_eq_true rfl) rfl rfl rfl ?_
      refine v_aload_n (pc := 28) X dJ5_append_3fe6f_28 0 rfl ?_
      refine v_dup (pc := 29) X dJ5_append_3fe6f_29 rfl ?_
      refine v_get (pc := 30) (k := 3) (i := 1) X dJ5_append_3fe6f_30 (fun _ h => List.mem_cons_of_mem _ (List.mem_append_right _ h)) 0 rfl rfl (Nat.le_of_ble_eq_true rfl) rfl rfl rfl ?_
      refine v_dup_x1 (pc := 33) X dJ5_append_3fe6f_33 rfl rfl ?_
      refine v_iconst (pc := 34) (v := 1) X dJ5_append_3fe6f_34 (by decide) ?_
      refine v_iadd (pc := 35) X dJ5_append_3fe6f_35 rfl ?_
      refine v_put (pc := 36) (k := 3) (i := 1) (ws' := (wSo G aS aB 0 sm (sn + 1) ++ (wB G aB sb))) X dJ5_append_3fe6f_36 (fun _ h => List.mem_cons_of_mem _ (List.mem_append_right _ h)) tyJ4_ok nmJ4 0 rfl rfl (Nat.le_of_ble_eq_true rfl) rfl rfl (Or.inl rfl) rfl (rfl) rfl (Nat.le_of_ble_eq_true rfl) rfl ?_
      refine v_iload_n (pc := 39) X dJ5_append_3fe6f_39 1 rfl ?_
      refine v_i2b (pc := 40) X dJ5_append_3fe6f_40 rfl ?_
      refine v_bast (pc := 41) (ws' := (wSo G aS aB 0 sm (sn + 1) ++ (wB G aB (upd sb (sn).toNatClampNeg (vp_nar .byte ((p0).toInt8.toInt32)))))) X dJ5_append_3fe6f_41 1 rfl hsn rfl ?_
      refine v_goto (pc := 42) X 75 dJ5_append_3fe6f_42 (by decide) ?_
      refine v_aload_n (pc := 75) X dJ5_append_3fe6f_75 0 rfl ?_
      exact v_aret (pc := 76) X hr (Or.inl ⟨_, rfl⟩) dJ5_append_3fe6f_76 () (by show (wSo G aS aB 0 sm (sn + 1) ++ (wB G aB (upd sb (sn).toNatClampNeg (vp_nar .byte ((p0).toInt8.toInt32))))) = (wSo G aS aB 0 sm (f_J5_append_3fe6f_sn sn) ++ (wB G aB (f_J5_append_3fe6f_sb sn sb p0))); simp only [f_J5_append_3fe6f_sn, f_J5_append_3fe6f_sb, if_neg c_14, if_neg c_21]) True.intro
def f_J4_append_cf468_sn (sn : Int32) : Int32 := (f_J5_append_3fe6f_sn sn)
def f_J4_append_cf468_sb (sn : Int32) (sb : Nat → Int32) (p0 : Int32) : Nat → Int32 := (f_J5_append_3fe6f_sb sn sb p0)
set_option maxHeartbeats 4000000 in
set_option maxRecDepth 100000 in
theorem c_J4_append_cf468 (l : Launch) (G : va_G) (aS : Nat → Nat) (aB : Nat → Nat) (sm : Int32) (sn : Int32) (sb : Nat → Int32) (p0 : Int32) (hsn : vp_in sn 16) (hch : vp_in p0 256) : Kq l yJ4_append_cf468 wsJ4_append_cf468 { frames := 2, cells := 0, slots := 0, locals := 43 } 0 0 G (wSo G aS aB 0 sm sn ++ (wB G aB sb)) [.ref (aS 0), .int p0] (wSo G aS aB 0 sm (f_J4_append_cf468_sn sn) ++ (wB G aB (f_J4_append_cf468_sb sn sb p0))) := by
  refine v_ofr (cc := cJ4_append_cf468) (nL := 2) (lv := [(0, .ref (aS 0)), (1, .int p0)]) (by decide) rfl (Nat.le_of_ble_eq_true rfl) rfl ?_
  intro p e s m args below meth c A X hr
  refine v_aload_n (pc := 0) X dJ4_append_cf468_0 0 rfl ?_
  refine v_iload_n (pc := 1) X dJ4_append_cf468_1 1 rfl ?_
  refine v_qSU (pc := 2) (rest := []) (n := 1) (wr := ([] : va_W)) (wn := (wSo G aS aB 0 sm (f_J5_append_3fe6f_sn sn) ++ (wB G aB (f_J5_append_3fe6f_sb sn sb p0)))) (isC := [0, 1]) (isR := []) (isP := [0, 1]) X (c_J5_append_3fe6f l G aS aB sm sn sb p0 hsn hch) gJ4_append_cf468_J5_append_3fe6f_s50 rfl rfl rfl (by decide +kernel) ⟨Nat.le_of_ble_eq_true rfl, Nat.le_of_ble_eq_true rfl⟩ dJ4_append_cf468_2 rfl rfl (Nat.le_of_ble_eq_true rfl) ⟨Nat.le_of_ble_eq_true rfl, Nat.le_of_ble_eq_true rfl⟩ 0 rfl rfl ⟨rfl, rfl, rfl, rfl, by decide, rfl, rfl⟩ (fun ra2 => ?_)
  refine v_pop (pc := 5) X dJ4_append_cf468_5 rfl ?_
  refine v_aload_n (pc := 6) X dJ4_append_cf468_6 0 rfl ?_
  exact v_aret (pc := 7) X hr (Or.inl ⟨_, rfl⟩) dJ4_append_cf468_7 () (by show (wSo G aS aB 0 sm (f_J5_append_3fe6f_sn sn) ++ (wB G aB (f_J5_append_3fe6f_sb sn sb p0))) = (wSo G aS aB 0 sm (f_J4_append_cf468_sn sn) ++ (wB G aB (f_J4_append_cf468_sb sn sb p0))); simp only [f_J4_append_cf468_sn, f_J4_append_cf468_sb]) True.intro
theorem pers_of {x : Int32} (h : vp_in x 12) : ∃ j : Nat, j < 12 ∧ x = nI j := vp_in_of h (by decide)
theorem ps_1 : ∀ j : Nat, j < 12 → ¬ (-(nI j)) ≤ (-100 : Int32) := by decide
theorem ps_2 : ∀ j : Nat, j < 12 → vp_in (-(-(nI j))) 100 := fun j hj => by
  rw [Int32.neg_neg]; exact vp_in_nI (by omega) (by decide)
def f_J6_stringSize_0f7a4_r (p0 : Int32) : Int32 := (if (-p0) ≤ (-10) then 2 else 1)
set_option maxHeartbeats 4000000 in
set_option maxRecDepth 100000 in
theorem c_J6_stringSize_0f7a4 (l : Launch) (G : va_G) (p0 : Int32) (h0 : vp_in p0 12) : Ke l yJ6_stringSize_0f7a4 wsJ6_stringSize_0f7a4 { frames := 0, cells := 0, slots := 0, locals := 0 } 0 0 G ([] : va_W) [.int p0] (f_J6_stringSize_0f7a4_r p0) ([] : va_W) := by
  refine v_ofi (cc := cJ6_stringSize_0f7a4) (nL := 4) (lv := [(0, .int p0)]) (by decide) rfl (Nat.le_of_ble_eq_true rfl) rfl ?_
  intro p e s m args below meth c A X hr
  refine v_iconst (pc := 0) (v := 1) X dJ6_stringSize_0f7a4_0 (by decide) ?_
  refine v_istore_n (pc := 1) (lv' := [(0, .int p0), (1, .int 1)]) X dJ6_stringSize_0f7a4_1 rfl (Nat.le_of_ble_eq_true rfl) [1, 0] rfl ?_
  refine v_iload_n (pc := 2) X dJ6_stringSize_0f7a4_2 0 rfl ?_
  refine v_if_lt (pc := 3) X 11 dJ6_stringSize_0f7a4_3 (by decide) (fun c_3 => ?_) (fun c_3 => ?_)
  · exact False.elim (absurd c_3 (fun q => h0 (Or.inl q)))
  · refine v_iconst (pc := 6) (v := 0) X dJ6_stringSize_0f7a4_6 (by decide) ?_
    refine v_istore_n (pc := 7) (lv' := [(0, .int p0), (1, .int 0)]) X dJ6_stringSize_0f7a4_7 rfl (Nat.le_of_ble_eq_true rfl) [1, 0] rfl ?_
    refine v_iload_n (pc := 8) X dJ6_stringSize_0f7a4_8 0 rfl ?_
    refine v_ineg (pc := 9) X dJ6_stringSize_0f7a4_9 rfl ?_
    refine v_istore_n (pc := 10) (lv' := [(0, .int (-p0)), (1, .int 0)]) X dJ6_stringSize_0f7a4_10 rfl (Nat.le_of_ble_eq_true rfl) [0, 1] rfl ?_
    refine v_bipush (pc := 11) (v := (-10)) X dJ6_stringSize_0f7a4_11 (by decide) ?_
    refine v_istore_n (pc := 13) (lv' := [(0, .int (-p0)), (1, .int 0), (2, .int (-10))]) X dJ6_stringSize_0f7a4_13 rfl (Nat.le_of_ble_eq_true rfl) [1, 2, 0] rfl ?_
    refine v_iconst (pc := 14) (v := 1) X dJ6_stringSize_0f7a4_14 (by decide) ?_
    refine v_istore_n (pc := 15) (lv' := [(0, .int (-p0)), (1, .int 0), (2, .int (-10)), (3, .int 1)]) X dJ6_stringSize_0f7a4_15 rfl (Nat.le_of_ble_eq_true rfl) [1, 2, 3, 0] rfl ?_
    refine v_iload_n (pc := 16) X dJ6_stringSize_0f7a4_16 3 rfl ?_
    refine v_bipush (pc := 17) (v := 10) X dJ6_stringSize_0f7a4_17 (by decide) ?_
    refine v_icmp_ge (pc := 19) X 42 dJ6_stringSize_0f7a4_19 (by decide) (fun c_19 => ?_) (fun c_19 => ?_)
    · exact absurd c_19 (by decide)
    · refine v_iload_n (pc := 22) X dJ6_stringSize_0f7a4_22 0 rfl ?_
      refine v_iload_n (pc := 23) X dJ6_stringSize_0f7a4_23 2 rfl ?_
      refine v_icmp_le (pc := 24) X 31 dJ6_stringSize_0f7a4_24 (by decide) (fun c_24 => ?_) (fun c_24 => ?_)
      · refine v_bipush (pc := 31) (v := 10) X dJ6_stringSize_0f7a4_31 (by decide) ?_
        refine v_iload_n (pc := 33) X dJ6_stringSize_0f7a4_33 2 rfl ?_
        refine v_imul (pc := 34) (v := (-100)) X dJ6_stringSize_0f7a4_34 (by decide) ?_
        refine v_istore_n (pc := 35) (lv' := [(0, .int (-p0)), (1, .int 0), (2, .int (-100)), (3, .int 1)]) X dJ6_stringSize_0f7a4_35 rfl (Nat.le_of_ble_eq_true rfl) [1, 2, 0, 3] rfl ?_
        refine v_iinc (pc := 36) (k := 3) (v := 2) (lv' := [(0, .int (-p0)), (1, .int 0), (2, .int (-100)), (3, .int 2)]) X dJ6_stringSize_0f7a4_36 rfl (by decide) (Nat.le_of_ble_eq_true rfl) [1, 2, 3, 0] rfl ?_
        refine v_goto (pc := 39) X 16 dJ6_stringSize_0f7a4_39 (by decide) ?_
        refine v_iload_n (pc := 16) X dJ6_stringSize_0f7a4_16 3 rfl ?_
        refine v_bipush (pc := 17) (v := 10) X dJ6_stringSize_0f7a4_17 (by decide) ?_
        refine v_icmp_ge (pc := 19) X 42 dJ6_stringSize_0f7a4_19 (by decide) (fun c_19' => ?_) (fun c_19' => ?_)
        · exact absurd c_19' (by decide)
        · refine v_iload_n (pc := 22) X dJ6_stringSize_0f7a4_22 0 rfl ?_
          refine v_iload_n (pc := 23) X dJ6_stringSize_0f7a4_23 2 rfl ?_
          refine v_icmp_le (pc := 24) X 31 dJ6_stringSize_0f7a4_24 (by decide) (fun c_24' => ?_) (fun c_24' => ?_)
          · exact False.elim (by obtain ⟨j, hj, rfl⟩ := pers_of h0; exact absurd c_24' (ps_1 j hj))
          · refine v_iload_n (pc := 27) X dJ6_stringSize_0f7a4_27 3 rfl ?_
            refine v_iload_n (pc := 28) X dJ6_stringSize_0f7a4_28 1 rfl ?_
            refine v_iadd (pc := 29) (v := 2) X dJ6_stringSize_0f7a4_29 (by decide) ?_
            exact v_iret (pc := 30) X hr dJ6_stringSize_0f7a4_30 () rfl (by show 2 = (f_J6_stringSize_0f7a4_r p0); simp only [f_J6_stringSize_0f7a4_r, if_neg c_3, if_neg c_19, if_pos c_24, if_neg c_19', if_neg c_24'])
      · refine v_iload_n (pc := 27) X dJ6_stringSize_0f7a4_27 3 rfl ?_
        refine v_iload_n (pc := 28) X dJ6_stringSize_0f7a4_28 1 rfl ?_
        refine v_iadd (pc := 29) (v := 1) X dJ6_stringSize_0f7a4_29 (by decide) ?_
        exact v_iret (pc := 30) X hr dJ6_stringSize_0f7a4_30 () rfl (by show 1 = (f_J6_stringSize_0f7a4_r p0); simp only [f_J6_stringSize_0f7a4_r, if_neg c_3, if_neg c_19, if_neg c_24])
theorem ss_val {x : Int32} (h : vp_in x 12) : f_J6_stringSize_0f7a4_r x = if (-x) ≤ (-10) then 2 else 1 := by
  obtain ⟨j, hj, rfl⟩ := pers_of h
  have : ∀ j : Nat, j < 12 → f_J6_stringSize_0f7a4_r (nI j) = if (-(nI j)) ≤ (-10 : Int32) then (2 : Int32) else 1 := by decide
  exact this j hj
theorem ps_3 : ∀ j : Nat, j < 12 → (-100 : Int32) < -(nI j) := by decide
theorem vp_nn {x : Int32} {n : Nat} (h : vp_in x n) : 0 ≤ x := by
  by_cases c : x < 0
  · exact absurd (Or.inl c) h
  · rw [Int32.le_iff_toInt_le]; rw [Int32.lt_iff_toInt_lt] at c; exact Int.not_lt.mp c
theorem ss_1 {x : Int32} (h : vp_in x 12) : ((0 + f_J6_stringSize_0f7a4_r x) - 16) ≤ 0 := by
  rw [ss_val h]; split <;> decide
theorem ss_2 {x : Int32} (h : vp_in x 12) : vp_in ((0 + f_J6_stringSize_0f7a4_r x) + (-1)) 16 := by
  rw [ss_val h]; unfold vp_in; split <;> decide
theorem ss_3 {x : Int32} (h : vp_in x 12) (c : ¬ (-9) ≤ (-x)) : vp_in (((0 + f_J6_stringSize_0f7a4_r x) + (-1)) + (-1)) 16 := by
  rw [ss_val h]
  obtain ⟨j, hj, rfl⟩ := pers_of h
  have : ∀ j : Nat, j < 12 → ¬ (-9 : Int32) ≤ -(nI j) → vp_in (((0 + (if -(nI j) ≤ (-10 : Int32) then (2 : Int32) else 1)) + (-1)) + (-1)) 16 := by unfold vp_in; decide
  exact this j hj c
theorem ss_4 {x : Int32} (h : vp_in x 12) : vp_in (0 + f_J6_stringSize_0f7a4_r x) 16 := by
  rw [ss_val h]; unfold vp_in; split <;> decide
theorem ss_5 {x : Int32} (h : vp_in x 12) : ((0 + f_J6_stringSize_0f7a4_r x) + 1) = nI ((0 + f_J6_stringSize_0f7a4_r x) + 1).toNatClampNeg ∧ ((0 + f_J6_stringSize_0f7a4_r x) + 1).toNatClampNeg ≤ 3 := by
  rw [ss_val h]; split <;> decide
def f_J6_getChars_ba4f3_r (p0 : Int32) (p1 : Int32) : Int32 := (if (-9) ≤ (-p0) then (p1 + (-1)) else ((p1 + (-1)) + (-1)))
def f_J6_getChars_ba4f3_sb (sb : Nat → Int32) (p0 : Int32) (p1 : Int32) : Nat → Int32 := (if (-9) ≤ (-p0) then (upd sb ((p1 + (-1))).toNatClampNeg (vp_nar .byte (dOnes ((-(-p0))).toNatClampNeg))) else (upd (upd sb ((p1 + (-1))).toNatClampNeg (vp_nar .byte (dOnes ((-(-p0))).toNatClampNeg))) (((p1 + (-1)) + (-1))).toNatClampNeg (vp_nar .byte (dTens ((-(-p0))).toNatClampNeg))))
set_option maxHeartbeats 4000000 in
set_option maxRecDepth 100000 in
theorem c_J6_getChars_ba4f3 (l : Launch) (G : va_G) (aB : Nat → Nat) (sb : Nat → Int32) (p0 : Int32) (p1 : Int32) (h0 : vp_in p0 12) (hx1 : vp_in (p1 + (-1)) 16) (hx2 : ¬ (-9) ≤ (-p0) → vp_in ((p1 + (-1)) + (-1)) 16) : Ke l yJ6_getChars_ba4f3 wsJ6_getChars_ba4f3 { frames := 0, cells := 0, slots := 0, locals := 0 } 0 0 G (wB G aB sb) [.int p0, .int p1, .ref (aB 0)] (f_J6_getChars_ba4f3_r p0 p1) (wB G aB (f_J6_getChars_ba4f3_sb sb p0 p1)) := by
  refine v_ofi (cc := cJ6_getChars_ba4f3) (nL := 7) (lv := [(0, .int p0), (1, .int p1), (2, .ref (aB 0))]) (by decide) rfl (Nat.le_of_ble_eq_true rfl) rfl ?_
  intro p e s m args below meth c A X hr
  obtain ⟨tO, gxO⟩ := X.2.1.2.2.2.2.2.2.2.1
  obtain ⟨tT, gxT⟩ := X.2.1.2.2.2.2.2.2.2.2.1
  refine v_iload_n (pc := 0) X dJ6_getChars_ba4f3_0 1 rfl ?_
  refine v_istore (pc := 1) (lv' := [(0, .int p0), (1, .int p1), (2, .ref (aB 0)), (5, .int p1)]) X dJ6_getChars_ba4f3_1 (Nat.le_of_ble_eq_true rfl) [1, 2, 3, 0] rfl ?_
  refine v_iload_n (pc := 3) X dJ6_getChars_ba4f3_3 0 rfl ?_
  refine v_if_ge (pc := 4) X 11 dJ6_getChars_ba4f3_4 (by decide) (fun c_4 => ?_) (fun c_4 => ?_)
  · refine v_iconst (pc := 11) (v := 0) X dJ6_getChars_ba4f3_11 (by decide) ?_
    refine v_istore (pc := 12) (lv' := [(0, .int p0), (1, .int p1), (2, .ref (aB 0)), (5, .int p1), (6, .int 0)]) X dJ6_getChars_ba4f3_12 (Nat.le_of_ble_eq_true rfl) [1, 2, 3, 4, 0] rfl ?_
    refine v_iload (pc := 14) X dJ6_getChars_ba4f3_14 4 rfl ?_
    refine v_if_ne (pc := 16) X 22 dJ6_getChars_ba4f3_16 (by decide) (fun c_16 => ?_) (fun c_16 => ?_)
    · exact absurd c_16 (by decide)
    · refine v_iload_n (pc := 19) X dJ6_getChars_ba4f3_19 0 rfl ?_
      refine v_ineg (pc := 20) X dJ6_getChars_ba4f3_20 rfl ?_
      refine v_istore_n (pc := 21) (lv' := [(0, .int (-p0)), (1, .int p1), (2, .ref (aB 0)), (5, .int p1), (6, .int 0)]) X dJ6_getChars_ba4f3_21 rfl (Nat.le_of_ble_eq_true rfl) [0, 1, 2, 3, 4] rfl ?_
      refine v_iload_n (pc := 22) X dJ6_getChars_ba4f3_22 0 rfl ?_
      refine v_bipush (pc := 23) (v := (-100)) X dJ6_getChars_ba4f3_23 (by decide) ?_
      refine v_icmp_gt (pc := 25) X 72 dJ6_getChars_ba4f3_25 (by decide) (fun c_25 => ?_) (fun c_25 => ?_)
      · refine v_aload_n (pc := 72) X dJ6_getChars_ba4f3_72 2 rfl ?_
        refine v_iinc (pc := 73) (k := 3) (v := (p1 + (-1))) (lv' := [(0, .int (-p0)), (1, .int p1), (2, .ref (aB 0)), (5, .int (p1 + (-1))), (6, .int 0)]) X dJ6_getChars_ba4f3_73 rfl rfl (Nat.le_of_ble_eq_true rfl) [1, 2, 3, 0, 4] rfl ?_
        refine v_iload (pc := 76) X dJ6_getChars_ba4f3_76 3 rfl ?_
        refine v_gets (pc := 78) (i := 1) X gxO.1 dJ6_getChars_ba4f3_78 rfl rfl ?_
        refine v_iload_n (pc := 81) X dJ6_getChars_ba4f3_81 0 rfl ?_
        refine v_ineg (pc := 82) X dJ6_getChars_ba4f3_82 rfl ?_
        refine v_tb (pc := 83) X gxO.2 dJ6_getChars_ba4f3_83 (by obtain ⟨j, hj, rfl⟩ := pers_of h0; exact ps_2 j hj) rfl ?_
        refine v_bast (pc := 84) (ws' := (wB G aB (upd sb ((p1 + (-1))).toNatClampNeg (vp_nar .byte (dOnes ((-(-p0))).toNatClampNeg))))) X dJ6_getChars_ba4f3_84 0 rfl hx1 rfl ?_
        refine v_iload_n (pc := 85) X dJ6_getChars_ba4f3_85 0 rfl ?_
        refine v_bipush (pc := 86) (v := (-9)) X dJ6_getChars_ba4f3_86 (by decide) ?_
        refine v_icmp_ge (pc := 88) X 104 dJ6_getChars_ba4f3_88 (by decide) (fun c_88 => ?_) (fun c_88 => ?_)
        · refine v_iload (pc := 104) X dJ6_getChars_ba4f3_104 4 rfl ?_
          refine v_if_eq (pc := 106) X 118 dJ6_getChars_ba4f3_106 (by decide) (fun c_106 => ?_) (fun c_106 => ?_)
          · refine v_iload (pc := 118) X dJ6_getChars_ba4f3_118 3 rfl ?_
            exact v_iret (pc := 120) X hr dJ6_getChars_ba4f3_120 () (by show (wB G aB (upd sb ((p1 + (-1))).toNatClampNeg (vp_nar .byte (dOnes ((-(-p0))).toNatClampNeg)))) = (wB G aB (f_J6_getChars_ba4f3_sb sb p0 p1)); simp only [f_J6_getChars_ba4f3_sb, if_pos c_4, if_pos c_16, if_pos c_25, if_pos c_88, if_pos c_106]) (by show (p1 + (-1)) = (f_J6_getChars_ba4f3_r p0 p1); simp only [f_J6_getChars_ba4f3_r, if_pos c_4, if_pos c_16, if_pos c_25, if_pos c_88, if_pos c_106])
          · exact absurd c_106 (by decide)
        · refine v_aload_n (pc := 91) X dJ6_getChars_ba4f3_91 2 rfl ?_
          refine v_iinc (pc := 92) (k := 3) (v := ((p1 + (-1)) + (-1))) (lv' := [(0, .int (-p0)), (1, .int p1), (2, .ref (aB 0)), (5, .int ((p1 + (-1)) + (-1))), (6, .int 0)]) X dJ6_getChars_ba4f3_92 rfl rfl (Nat.le_of_ble_eq_true rfl) [1, 2, 3, 0, 4] rfl ?_
          refine v_iload (pc := 95) X dJ6_getChars_ba4f3_95 3 rfl ?_
          refine v_gets (pc := 97) (i := 2) X gxT.1 dJ6_getChars_ba4f3_97 rfl rfl ?_
          refine v_iload_n (pc := 100) X dJ6_getChars_ba4f3_100 0 rfl ?_
          refine v_ineg (pc := 101) X dJ6_getChars_ba4f3_101 rfl ?_
          refine v_tb (pc := 102) X gxT.2 dJ6_getChars_ba4f3_102 (by obtain ⟨j, hj, rfl⟩ := pers_of h0; exact ps_2 j hj) rfl ?_
          refine v_bast (pc := 103) (ws' := (wB G aB (upd (upd sb ((p1 + (-1))).toNatClampNeg (vp_nar .byte (dOnes ((-(-p0))).toNatClampNeg))) (((p1 + (-1)) + (-1))).toNatClampNeg (vp_nar .byte (dTens ((-(-p0))).toNatClampNeg))))) X dJ6_getChars_ba4f3_103 0 rfl (hx2 c_88) rfl ?_
          refine v_iload (pc := 104) X dJ6_getChars_ba4f3_104 4 rfl ?_
          refine v_if_eq (pc := 106) X 118 dJ6_getChars_ba4f3_106 (by decide) (fun c_106 => ?_) (fun c_106 => ?_)
          · refine v_iload (pc := 118) X dJ6_getChars_ba4f3_118 3 rfl ?_
            exact v_iret (pc := 120) X hr dJ6_getChars_ba4f3_120 () (by show (wB G aB (upd (upd sb ((p1 + (-1))).toNatClampNeg (vp_nar .byte (dOnes ((-(-p0))).toNatClampNeg))) (((p1 + (-1)) + (-1))).toNatClampNeg (vp_nar .byte (dTens ((-(-p0))).toNatClampNeg)))) = (wB G aB (f_J6_getChars_ba4f3_sb sb p0 p1)); simp only [f_J6_getChars_ba4f3_sb, if_pos c_4, if_pos c_16, if_pos c_25, if_neg c_88, if_pos c_106]) (by show ((p1 + (-1)) + (-1)) = (f_J6_getChars_ba4f3_r p0 p1); simp only [f_J6_getChars_ba4f3_r, if_pos c_4, if_pos c_16, if_pos c_25, if_neg c_88, if_pos c_106])
          · exact absurd c_106 (by decide)
      · exact False.elim (by obtain ⟨j, hj, rfl⟩ := pers_of h0; exact absurd (ps_3 j hj) c_25)
  · exact False.elim (absurd (vp_nn h0) c_4)
def f_J5_append_c97b9_z0_2 (p0 : Int32) : Int32 := (0 + (f_J6_stringSize_0f7a4_r p0))
def f_J5_append_c97b9_sb (sb : Nat → Int32) (p0 : Int32) : Nat → Int32 := (f_J6_getChars_ba4f3_sb sb p0 (0 + (f_J6_stringSize_0f7a4_r p0)))
set_option maxHeartbeats 4000000 in
set_option maxRecDepth 100000 in
theorem c_J5_append_c97b9 (l : Launch) (G : va_G) (aS : Nat → Nat) (aB : Nat → Nat) (sm : Int32) (sb : Nat → Int32) (p0 : Int32) (h0 : vp_in p0 12) : Kq l yJ5_append_c97b9 wsJ5_append_c97b9 { frames := 1, cells := 0, slots := 0, locals := 26 } 0 0 G (wSo G aS aB 0 sm 0 ++ (wB G aB sb)) [.ref (aS 0), .int p0] (wSo G aS aB 0 sm (f_J5_append_c97b9_z0_2 p0) ++ (wB G aB (f_J5_append_c97b9_sb sb p0))) := by
  refine v_ofr (cc := cJ5_append_c97b9) (nL := 4) (lv := [(0, .ref (aS 0)), (1, .int p0)]) (by decide) rfl (Nat.le_of_ble_eq_true rfl) rfl ?_
  intro p e s m args below meth c A X hr
  refine v_aload_n (pc := 0) X dJ5_append_c97b9_0 0 rfl ?_
  refine v_get (pc := 1) (k := 3) (i := 1) X dJ5_append_c97b9_1 (fun _ h => List.mem_cons_of_mem _ (List.mem_append_right _ h)) 0 rfl rfl (Nat.le_of_ble_eq_true rfl) rfl rfl rfl ?_
  refine v_istore_n (pc := 4) (lv' := [(0, .ref (aS 0)), (1, .int p0), (2, .int 0)]) X dJ5_append_c97b9_4 rfl (Nat.le_of_ble_eq_true rfl) [1, 2, 0] rfl ?_
  refine v_iload_n (pc := 5) X dJ5_append_c97b9_5 2 rfl ?_
  refine v_iload_n (pc := 6) X dJ5_append_c97b9_6 1 rfl ?_
  refine v_e0S (pc := 7) (rest := [.int 0]) (n := 1) X (c_J6_stringSize_0f7a4 l G p0 h0) gJ5_append_c97b9_J6_stringSize_0f7a4 rfl rfl rfl (by decide +kernel) ⟨Nat.le_of_ble_eq_true rfl, Nat.le_of_ble_eq_true rfl⟩ dJ5_append_c97b9_7 rfl rfl (Nat.le_of_ble_eq_true rfl) ⟨Nat.le_of_ble_eq_true rfl, Nat.le_of_ble_eq_true rfl⟩ ?_
  refine v_iadd (pc := 10) X dJ5_append_c97b9_10 rfl ?_
  refine v_istore_n (pc := 11) (lv' := [(0, .ref (aS 0)), (1, .int p0), (2, .int 0), (3, .int (0 + (f_J6_stringSize_0f7a4_r p0)))]) X dJ5_append_c97b9_11 rfl (Nat.le_of_ble_eq_true rfl) [1, 2, 3, 0] rfl ?_
  refine v_aload_n (pc := 12) X dJ5_append_c97b9_12 0 rfl ?_
  refine v_iload_n (pc := 13) X dJ5_append_c97b9_13 3 rfl ?_
  refine v_uU (pc := 14) (rest := []) (n := 1) (wr := ([] : va_W)) (wn := (wSo G aS aB 0 sm 0 ++ (wB G aB sb))) (isC := [0, 1]) (isR := []) (isP := [0, 1]) X (c_J5_ensureCapacityInternal_d00df l G aS aB sm 0 sb (0 + (f_J6_stringSize_0f7a4_r p0)) (ss_1 h0)) gJ5_append_c97b9_J5_ensureCapacityInternal_d00df_u100J4 rfl rfl rfl rfl (by decide +kernel) ⟨Nat.le_of_ble_eq_true rfl, Nat.le_of_ble_eq_true rfl⟩ dJ5_append_c97b9_14 rfl rfl (Nat.le_of_ble_eq_true rfl) ⟨Nat.le_of_ble_eq_true rfl, Nat.le_of_ble_eq_true rfl⟩ 0 rfl rfl ⟨rfl, rfl, rfl, rfl, by decide, rfl, rfl⟩ ?_
  refine v_aload_n (pc := 17) X dJ5_append_c97b9_17 0 rfl ?_
  refine v_eU (pc := 18) (rest := []) (n := 0) (wr := ([] : va_W)) (wn := (wSo G aS aB 0 sm 0 ++ (wB G aB sb))) (isC := [0, 1]) (isR := []) (isP := [0, 1]) X (c_J5_isLatin1_aae02 l G aS aB sm 0 sb) gJ5_append_c97b9_J5_isLatin1_aae02_u83J4 rfl rfl rfl rfl (by decide +kernel) ⟨Nat.le_of_ble_eq_true rfl, Nat.le_of_ble_eq_true rfl⟩ dJ5_append_c97b9_18 rfl rfl (Nat.le_of_ble_eq_true rfl) ⟨Nat.le_of_ble_eq_true rfl, Nat.le_of_ble_eq_true rfl⟩ 0 rfl rfl ⟨rfl, rfl, rfl, rfl, by decide, rfl, rfl⟩ ?_
  refine v_if_eq (pc := 21) X 37 dJ5_append_c97b9_21 (by decide) (fun c_21 => ?_) (fun c_21 => ?_)
  · exact False.elim (by first | exact absurd c_21 (by decide))
  · refine v_iload_n (pc := 24) X dJ5_append_c97b9_24 1 rfl ?_
    refine v_iload_n (pc := 25) X dJ5_append_c97b9_25 3 rfl ?_
    refine v_aload_n (pc := 26) X dJ5_append_c97b9_26 0 rfl ?_
    refine v_get (pc := 27) (k := 0) (i := 2) X dJ5_append_c97b9_27 (fun _ h => List.mem_cons_of_mem _ (List.mem_append_right _ h)) 0 rfl rfl (Nat.le_of_ble_eq_true rfl) rfl rfl rfl ?_
    refine v_eS (pc := 30) (rest := []) (n := 3) (wr := (wSo G aS aB 0 sm 0)) (wn := (wSo G aS aB 0 sm 0 ++ (wB G aB (f_J6_getChars_ba4f3_sb sb p0 (0 + (f_J6_stringSize_0f7a4_r p0)))))) (isC := [1]) (isR := [0]) (isP := [0, 1]) X (c_J6_getChars_ba4f3 l G aB sb p0 (0 + (f_J6_stringSize_0f7a4_r p0)) h0 (ss_2 h0) (ss_3 h0)) gJ5_append_c97b9_J6_getChars_ba4f3 rfl rfl rfl (by decide +kernel) ⟨Nat.le_of_ble_eq_true rfl, Nat.le_of_ble_eq_true rfl⟩ dJ5_append_c97b9_30 rfl rfl (Nat.le_of_ble_eq_true rfl) ⟨Nat.le_of_ble_eq_true rfl, Nat.le_of_ble_eq_true rfl⟩ ⟨rfl, rfl, rfl, rfl, by decide, rfl, rfl⟩ ?_
    refine v_pop (pc := 33) X dJ5_append_c97b9_33 rfl ?_
    refine v_goto (pc := 34) X 48 dJ5_append_c97b9_34 (by decide) ?_
    refine v_aload_n (pc := 48) X dJ5_append_c97b9_48 0 rfl ?_
    refine v_iload_n (pc := 49) X dJ5_append_c97b9_49 3 rfl ?_
    refine v_put (pc := 50) (k := 3) (i := 1) (ws' := (wSo G aS aB 0 sm (0 + (f_J6_stringSize_0f7a4_r p0)) ++ (wB G aB (f_J6_getChars_ba4f3_sb sb p0 (0 + (f_J6_stringSize_0f7a4_r p0)))))) X dJ5_append_c97b9_50 (fun _ h => List.mem_cons_of_mem _ (List.mem_append_right _ h)) tyJ4_ok nmJ4 0 rfl rfl (Nat.le_of_ble_eq_true rfl) rfl rfl (Or.inl rfl) rfl (rfl) rfl (Nat.le_of_ble_eq_true rfl) rfl ?_
    refine v_aload_n (pc := 53) X dJ5_append_c97b9_53 0 rfl ?_
    exact v_aret (pc := 54) X hr (Or.inl ⟨_, rfl⟩) dJ5_append_c97b9_54 () (by show (wSo G aS aB 0 sm (0 + (f_J6_stringSize_0f7a4_r p0)) ++ (wB G aB (f_J6_getChars_ba4f3_sb sb p0 (0 + (f_J6_stringSize_0f7a4_r p0))))) = (wSo G aS aB 0 sm (f_J5_append_c97b9_z0_2 p0) ++ (wB G aB (f_J5_append_c97b9_sb sb p0))); simp only [f_J5_append_c97b9_z0_2, f_J5_append_c97b9_sb, if_neg c_21]) True.intro
def f_J4_append_bf812_z0_2 (p0 : Int32) : Int32 := (f_J5_append_c97b9_z0_2 p0)
def f_J4_append_bf812_sb (sb : Nat → Int32) (p0 : Int32) : Nat → Int32 := (f_J5_append_c97b9_sb sb p0)
set_option maxHeartbeats 4000000 in
set_option maxRecDepth 100000 in
theorem c_J4_append_bf812 (l : Launch) (G : va_G) (aS : Nat → Nat) (aB : Nat → Nat) (sm : Int32) (sb : Nat → Int32) (p0 : Int32) (h0 : vp_in p0 12) : Kq l yJ4_append_bf812 wsJ4_append_bf812 { frames := 2, cells := 0, slots := 0, locals := 49 } 0 0 G (wSo G aS aB 0 sm 0 ++ (wB G aB sb)) [.ref (aS 0), .int p0] (wSo G aS aB 0 sm (f_J4_append_bf812_z0_2 p0) ++ (wB G aB (f_J4_append_bf812_sb sb p0))) := by
  refine v_ofr (cc := cJ4_append_bf812) (nL := 2) (lv := [(0, .ref (aS 0)), (1, .int p0)]) (by decide) rfl (Nat.le_of_ble_eq_true rfl) rfl ?_
  intro p e s m args below meth c A X hr
  refine v_aload_n (pc := 0) X dJ4_append_bf812_0 0 rfl ?_
  refine v_iload_n (pc := 1) X dJ4_append_bf812_1 1 rfl ?_
  refine v_qSU (pc := 2) (rest := []) (n := 1) (wr := ([] : va_W)) (wn := (wSo G aS aB 0 sm (f_J5_append_c97b9_z0_2 p0) ++ (wB G aB (f_J5_append_c97b9_sb sb p0)))) (isC := [0, 1]) (isR := []) (isP := [0, 1]) X (c_J5_append_c97b9 l G aS aB sm sb p0 h0) gJ4_append_bf812_J5_append_c97b9_s53 rfl rfl rfl (by decide +kernel) ⟨Nat.le_of_ble_eq_true rfl, Nat.le_of_ble_eq_true rfl⟩ dJ4_append_bf812_2 rfl rfl (Nat.le_of_ble_eq_true rfl) ⟨Nat.le_of_ble_eq_true rfl, Nat.le_of_ble_eq_true rfl⟩ 0 rfl rfl ⟨rfl, rfl, rfl, rfl, by decide, rfl, rfl⟩ (fun ra2 => ?_)
  refine v_pop (pc := 5) X dJ4_append_bf812_5 rfl ?_
  refine v_aload_n (pc := 6) X dJ4_append_bf812_6 0 rfl ?_
  exact v_aret (pc := 7) X hr (Or.inl ⟨_, rfl⟩) dJ4_append_bf812_7 () (by show (wSo G aS aB 0 sm (f_J5_append_c97b9_z0_2 p0) ++ (wB G aB (f_J5_append_c97b9_sb sb p0))) = (wSo G aS aB 0 sm (f_J4_append_bf812_z0_2 p0) ++ (wB G aB (f_J4_append_bf812_sb sb p0))); simp only [f_J4_append_bf812_z0_2, f_J4_append_bf812_sb]) True.intro
def f_J5_length_8abf5_r (sn : Int32) : Int32 := sn
set_option maxHeartbeats 4000000 in
set_option maxRecDepth 100000 in
theorem c_J5_length_8abf5 (l : Launch) (G : va_G) (aS : Nat → Nat) (aB : Nat → Nat) (sm : Int32) (sn : Int32) (sb : Nat → Int32) : Ke l yJ5_length_8abf5 wsJ5_length_8abf5 { frames := 0, cells := 0, slots := 0, locals := 0 } 0 0 G (wSo G aS aB 0 sm sn ++ (wB G aB sb)) [.ref (aS 0)] (f_J5_length_8abf5_r sn) (wSo G aS aB 0 sm sn ++ (wB G aB sb)) := by
  refine v_ofi (cc := cJ5_length_8abf5) (nL := 1) (lv := [(0, .ref (aS 0))]) (by decide) rfl (Nat.le_of_ble_eq_true rfl) rfl ?_
  intro p e s m args below meth c A X hr
  refine v_aload_n (pc := 0) X dJ5_length_8abf5_0 0 rfl ?_
  refine v_get (pc := 1) (k := 3) (i := 1) X dJ5_length_8abf5_1 (fun _ h => List.mem_cons_of_mem _ (List.mem_append_right _ h)) 0 rfl rfl (Nat.le_of_ble_eq_true rfl) rfl rfl rfl ?_
  exact v_iret (pc := 4) X hr dJ5_length_8abf5_4 () rfl (by show sn = (f_J5_length_8abf5_r sn); simp only [f_J5_length_8abf5_r])
def f_J4_length_8abf5_r (sn : Int32) : Int32 := (f_J5_length_8abf5_r sn)
set_option maxHeartbeats 4000000 in
set_option maxRecDepth 100000 in
theorem c_J4_length_8abf5 (l : Launch) (G : va_G) (aS : Nat → Nat) (aB : Nat → Nat) (sm : Int32) (sn : Int32) (sb : Nat → Int32) : Ke l yJ4_length_8abf5 wsJ4_length_8abf5 { frames := 1, cells := 0, slots := 0, locals := 20 } 0 0 G (wSo G aS aB 0 sm sn ++ (wB G aB sb)) [.ref (aS 0)] (f_J4_length_8abf5_r sn) (wSo G aS aB 0 sm sn ++ (wB G aB sb)) := by
  refine v_ofi (cc := cJ4_length_8abf5) (nL := 1) (lv := [(0, .ref (aS 0))]) (by decide) rfl (Nat.le_of_ble_eq_true rfl) rfl ?_
  intro p e s m args below meth c A X hr
  refine v_aload_n (pc := 0) X dJ4_length_8abf5_0 0 rfl ?_
  refine v_eSU (pc := 1) (rest := []) (n := 0) (wr := ([] : va_W)) (wn := (wSo G aS aB 0 sm sn ++ (wB G aB sb))) (isC := [0, 1]) (isR := []) (isP := [0, 1]) X (c_J5_length_8abf5 l G aS aB sm sn sb) gJ4_length_8abf5_J5_length_8abf5_s343 rfl rfl rfl (by decide +kernel) ⟨Nat.le_of_ble_eq_true rfl, Nat.le_of_ble_eq_true rfl⟩ dJ4_length_8abf5_1 rfl rfl (Nat.le_of_ble_eq_true rfl) ⟨Nat.le_of_ble_eq_true rfl, Nat.le_of_ble_eq_true rfl⟩ 0 rfl rfl ⟨rfl, rfl, rfl, rfl, by decide, rfl, rfl⟩ ?_
  exact v_iret (pc := 4) X hr dJ4_length_8abf5_4 () rfl (by show (f_J5_length_8abf5_r sn) = (f_J4_length_8abf5_r sn); simp only [f_J4_length_8abf5_r])
def f_J3_checkIndex_8e157_r (p0 : Int32) : Int32 := p0
set_option maxHeartbeats 4000000 in
set_option maxRecDepth 100000 in
theorem c_J3_checkIndex_8e157 (l : Launch) (G : va_G) (p0 : Int32) (p1 : Int32) (vq : Value) (hv : vq.category = 1) (h1 : ¬ p0 < 0) (h2 : p0 < p1) : Ke l yJ3_checkIndex_8e157 wsJ3_checkIndex_8e157 { frames := 0, cells := 0, slots := 0, locals := 0 } 0 0 G ([] : va_W) [.int p0, .int p1, vq] (f_J3_checkIndex_8e157_r p0) ([] : va_W) := by
  refine v_ofi (cc := cJ3_checkIndex_8e157) (nL := 3) (lv := [(0, .int p0), (1, .int p1), (2, vq)]) (by decide) rfl (by unfold lg_sl; simp only [List.flatMap_cons, List.flatMap_nil, hv]; exact Nat.le_of_ble_eq_true rfl) rfl ?_
  intro p e s m args below meth c A X hr
  refine v_iload_n (pc := 0) X dJ3_checkIndex_8e157_0 0 rfl ?_
  refine v_if_lt (pc := 1) X 9 dJ3_checkIndex_8e157_1 (by decide) (fun c_1 => ?_) (fun c_1 => ?_)
  · exact False.elim (by first | exact absurd c_1 h1 | exact absurd h2 c_6)
  · refine v_iload_n (pc := 4) X dJ3_checkIndex_8e157_4 0 rfl ?_
    refine v_iload_n (pc := 5) X dJ3_checkIndex_8e157_5 1 rfl ?_
    refine v_icmp_lt (pc := 6) X 16 dJ3_checkIndex_8e157_6 (by decide) (fun c_6 => ?_) (fun c_6 => ?_)
    · refine v_iload_n (pc := 16) X dJ3_checkIndex_8e157_16 0 rfl ?_
      exact v_iret (pc := 17) X hr dJ3_checkIndex_8e157_17 () rfl (by show p0 = (f_J3_checkIndex_8e157_r p0); simp only [f_J3_checkIndex_8e157_r, if_neg c_1, if_pos c_6])
    · exact False.elim (by first | exact absurd c_1 h1 | exact absurd h2 c_6)

set_option maxHeartbeats 4000000 in
set_option maxRecDepth 100000 in
theorem c_J0_checkIndex_df160 (l : Launch) (G : va_G) (p0 : Int32) (p1 : Int32) (h1 : ¬ p0 < 0) (h2 : p0 < p1) : Ku l yJ0_checkIndex_df160 wsJ0_checkIndex_df160 { frames := 1, cells := 0, slots := 0, locals := 22 } 0 0 G ([] : va_W) [.int p0, .int p1] ([] : va_W) := by
  refine v_ofv (cc := cJ0_checkIndex_df160) (nL := 2) (lv := [(0, .int p0), (1, .int p1)]) (by decide) rfl (Nat.le_of_ble_eq_true rfl) rfl ?_
  intro p e s m args below meth c A X hr hin
  have gxf := X.2.1.2.2.2.2.2.2.1
  refine v_iload_n (pc := 0) X dJ0_checkIndex_df160_0 0 rfl ?_
  refine v_iload_n (pc := 1) X dJ0_checkIndex_df160_1 1 rfl ?_
  refine v_getsq (pc := 2) (i := 1) X gxf dJ0_checkIndex_df160_2 rfl rfl (fun vq hvq => ?_)
  refine v_e0S (pc := 5) (rest := []) (n := 3) X (c_J3_checkIndex_8e157 l G p0 p1 vq hvq h1 h2) gJ0_checkIndex_df160_J3_checkIndex_8e157 rfl rfl rfl (by decide +kernel) ⟨Nat.le_of_ble_eq_true rfl, Nat.le_of_ble_eq_true rfl⟩ dJ0_checkIndex_df160_5 rfl rfl (Nat.le_of_ble_eq_true rfl) ⟨Nat.le_of_ble_eq_true rfl, Nat.le_of_ble_eq_true rfl⟩ ?_
  refine v_pop (pc := 8) X dJ0_checkIndex_df160_8 rfl ?_
  exact v_vret (pc := 9) X hr dJ0_checkIndex_df160_9 () rfl True.intro
def f_J5_charAt_5068e_r (sb : Nat → Int32) (p0 : Int32) : Int32 := ((((sb (p0).toNatClampNeg) &&& 255)).toUInt32 % 65536).toInt32
set_option maxHeartbeats 4000000 in
set_option maxRecDepth 100000 in
theorem c_J5_charAt_5068e (l : Launch) (G : va_G) (aS : Nat → Nat) (aB : Nat → Nat) (sm : Int32) (sn : Int32) (sb : Nat → Int32) (p0 : Int32) (h1 : ¬ p0 < 0) (h2 : p0 < (if 16 < sn then 16 else sn)) (h3 : vp_in p0 16) : Ke l yJ5_charAt_5068e wsJ5_charAt_5068e { frames := 2, cells := 0, slots := 0, locals := 43 } 0 0 G (wSo G aS aB 0 sm sn ++ (wB G aB sb)) [.ref (aS 0), .int p0] (f_J5_charAt_5068e_r sb p0) (wSo G aS aB 0 sm sn ++ (wB G aB sb)) := by
  refine v_ofi (cc := cJ5_charAt_5068e) (nL := 5) (lv := [(0, .ref (aS 0)), (1, .int p0)]) (by decide) rfl (Nat.le_of_ble_eq_true rfl) rfl ?_
  intro p e s m args below meth c A X hr
  refine v_aload_n (pc := 0) X dJ5_charAt_5068e_0 0 rfl ?_
  refine v_get (pc := 1) (k := 1) (i := 1) X dJ5_charAt_5068e_1 (fun _ h => List.mem_cons_of_mem _ (List.mem_append_right _ h)) 0 rfl rfl (Nat.le_of_ble_eq_true rfl) rfl rfl rfl ?_
  refine v_istore_n (pc := 4) (lv' := [(0, .ref (aS 0)), (1, .int p0), (2, .int 0)]) X dJ5_charAt_5068e_4 rfl (Nat.le_of_ble_eq_true rfl) [1, 2, 0] rfl ?_
  refine v_aload_n (pc := 5) X dJ5_charAt_5068e_5 0 rfl ?_
  refine v_get (pc := 6) (k := 0) (i := 2) X dJ5_charAt_5068e_6 (fun _ h => List.mem_cons_of_mem _ (List.mem_append_right _ h)) 0 rfl rfl (Nat.le_of_ble_eq_true rfl) rfl rfl rfl ?_
  refine v_astore_n (pc := 9) (lv' := [(0, .ref (aS 0)), (1, .int p0), (2, .int 0), (3, .ref (aB 0))]) X dJ5_charAt_5068e_9 rfl (Nat.le_of_ble_eq_true rfl) [1, 2, 3, 0] rfl ?_
  refine v_aload_n (pc := 10) X dJ5_charAt_5068e_10 0 rfl ?_
  refine v_get (pc := 11) (k := 3) (i := 3) X dJ5_charAt_5068e_11 (fun _ h => List.mem_cons_of_mem _ (List.mem_append_right _ h)) 0 rfl rfl (Nat.le_of_ble_eq_true rfl) rfl rfl rfl ?_
  refine v_aload_n (pc := 14) X dJ5_charAt_5068e_14 3 rfl ?_
  refine v_alen (pc := 15) (v := 16) X dJ5_charAt_5068e_15 1 2 rfl rfl rfl ?_
  refine v_iload_n (pc := 16) X dJ5_charAt_5068e_16 2 rfl ?_
  refine v_ishr (pc := 17) (v := 16) X dJ5_charAt_5068e_17 (by decide) ?_
  refine v_mmin (pc := 18) (i1 := 4) (i2 := 5) (i3 := 6) (i4 := 7) X dJ5_charAt_5068e_18 rfl rfl rfl rfl (Nat.le_of_ble_eq_true rfl) (Nat.le_of_ble_eq_true rfl) ⟨Nat.le_of_ble_eq_true rfl, Nat.le_of_ble_eq_true rfl⟩ rfl ?_
  refine v_istore (pc := 21) (lv' := [(0, .ref (aS 0)), (1, .int p0), (2, .int 0), (3, .ref (aB 0)), (4, .int (if 16 < sn then 16 else sn))]) X dJ5_charAt_5068e_21 (Nat.le_of_ble_eq_true rfl) [1, 2, 3, 4, 0] rfl ?_
  refine v_iload_n (pc := 23) X dJ5_charAt_5068e_23 1 rfl ?_
  refine v_iload (pc := 24) X dJ5_charAt_5068e_24 4 rfl ?_
  refine v_u0S (pc := 26) (rest := []) (n := 2) X (c_J0_checkIndex_df160 l G p0 (if 16 < sn then 16 else sn) h1 h2) gJ5_charAt_5068e_J0_checkIndex_df160 rfl rfl rfl (by decide +kernel) ⟨Nat.le_of_ble_eq_true rfl, Nat.le_of_ble_eq_true rfl⟩ dJ5_charAt_5068e_26 rfl rfl (Nat.le_of_ble_eq_true rfl) ⟨Nat.le_of_ble_eq_true rfl, Nat.le_of_ble_eq_true rfl⟩ ?_
  refine v_iload_n (pc := 29) X dJ5_charAt_5068e_29 2 rfl ?_
  refine v_if_ne (pc := 30) X 42 dJ5_charAt_5068e_30 (by decide) (fun c_30 => ?_) (fun c_30 => ?_)
  · exact absurd c_30 (by decide)
  · refine v_aload_n (pc := 33) X dJ5_charAt_5068e_33 3 rfl ?_
    refine v_iload_n (pc := 34) X dJ5_charAt_5068e_34 1 rfl ?_
    refine v_bald (pc := 35) X dJ5_charAt_5068e_35 1 rfl h3 rfl ?_
    refine v_sipush (pc := 36) (v := 255) X dJ5_charAt_5068e_36 (by decide) ?_
    refine v_iand (pc := 39) X dJ5_charAt_5068e_39 rfl ?_
    refine v_i2c (pc := 40) X dJ5_charAt_5068e_40 rfl ?_
    exact v_zret (pc := 41) X hr (pk_nc _) dJ5_charAt_5068e_41 () rfl (by show ((((sb (p0).toNatClampNeg) &&& 255)).toUInt32 % 65536).toInt32 = (f_J5_charAt_5068e_r sb p0); simp only [f_J5_charAt_5068e_r, if_pos c_30])
def f_J4_charAt_5068e_r (sb : Nat → Int32) (p0 : Int32) : Int32 := (f_J5_charAt_5068e_r sb p0)
set_option maxHeartbeats 4000000 in
set_option maxRecDepth 100000 in
theorem c_J4_charAt_5068e (l : Launch) (G : va_G) (aS : Nat → Nat) (aB : Nat → Nat) (sm : Int32) (sn : Int32) (sb : Nat → Int32) (p0 : Int32) (h1 : ¬ p0 < 0) (h2 : p0 < (if 16 < sn then 16 else sn)) (h3 : vp_in p0 16) : Ke l yJ4_charAt_5068e wsJ4_charAt_5068e { frames := 3, cells := 0, slots := 0, locals := 67 } 0 0 G (wSo G aS aB 0 sm sn ++ (wB G aB sb)) [.ref (aS 0), .int p0] (f_J4_charAt_5068e_r sb p0) (wSo G aS aB 0 sm sn ++ (wB G aB sb)) := by
  refine v_ofi (cc := cJ4_charAt_5068e) (nL := 2) (lv := [(0, .ref (aS 0)), (1, .int p0)]) (by decide) rfl (Nat.le_of_ble_eq_true rfl) rfl ?_
  intro p e s m args below meth c A X hr
  refine v_aload_n (pc := 0) X dJ4_charAt_5068e_0 0 rfl ?_
  refine v_iload_n (pc := 1) X dJ4_charAt_5068e_1 1 rfl ?_
  refine v_eSU (pc := 2) (rest := []) (n := 1) (wr := ([] : va_W)) (wn := (wSo G aS aB 0 sm sn ++ (wB G aB sb))) (isC := [0, 1]) (isR := []) (isP := [0, 1]) X (c_J5_charAt_5068e l G aS aB sm sn sb p0 h1 h2 h3) gJ4_charAt_5068e_J5_charAt_5068e_s329 rfl rfl rfl (by decide +kernel) ⟨Nat.le_of_ble_eq_true rfl, Nat.le_of_ble_eq_true rfl⟩ dJ4_charAt_5068e_2 rfl rfl (Nat.le_of_ble_eq_true rfl) ⟨Nat.le_of_ble_eq_true rfl, Nat.le_of_ble_eq_true rfl⟩ 0 rfl rfl ⟨rfl, rfl, rfl, rfl, by decide, rfl, rfl⟩ ?_
  exact v_zret (pc := 5) X hr (by unfold f_J5_charAt_5068e_r; exact pk_nc _) dJ4_charAt_5068e_5 () rfl (by show (f_J5_charAt_5068e_r sb p0) = (f_J4_charAt_5068e_r sb p0); simp only [f_J4_charAt_5068e_r])
def pw : Nat → Nat
  | 0 => 1000
  | 1 => 100
  | 2 => 10
  | _ => 1
theorem dg_r {x : Int32} {r : Nat} (e : x = nI r) (hr : r < 1000) : x - x / 10 * 10 = nI (r % 10) := by
  subst e
  exact pk_rem (d := 10) (by omega) (by omega) (by omega)
theorem dg_c {x : Int32} {r : Nat} (e : x = nI r) (hr : r < 1000) : ((48 + (x - x / 10 * 10)).toUInt32 % 65536).toInt32 = nI (48 + r % 10) := by
  rw [dg_r e hr, pk_char, show (48 : Int32) = nI 48 from rfl, nI_add, pk_tn (by omega), Nat.mod_eq_of_lt (by omega)]
theorem dg_v {x : Int32} {r : Nat} (e : x = nI r) (hr : r < 1000) : vp_in ((48 + (x - x / 10 * 10)).toUInt32 % 65536).toInt32 256 := by
  rw [dg_c e hr]; exact vp_in_nI (by omega) (by omega)
theorem pw_le (k : Nat) : pw k ≤ 1000 := by
  match k with
  | 0 => exact Nat.le_refl _
  | 1 => decide
  | 2 => decide
  | k + 3 => show 1 ≤ 1000; decide
theorem pw_s {k r : Nat} (h : r < pw k) (h0 : r / 10 ≠ 0) : r / 10 < pw (k + 1) := by
  match k, h with
  | 0, h => show r / 10 < 100; have : r < 1000 := h; omega
  | 1, h => show r / 10 < 10; have : r < 100 := h; omega
  | 2, h => have : r < 10 := h; omega
  | k + 3, h => have : r < 1 := h; omega
/-- what stands at the head of appendBackwards' loop -/
abbrev abI (S : Nat) (x2 x3 vsn : Int32) (n : Nat) : Prop := ∃ k r : Nat, x3 = nI k ∧ x2 = nI r ∧ vsn = nI (S + k) ∧ k + n = 4 ∧ r < pw k ∧ (k = 0 ∨ r ≠ 0)
theorem ab_z {S : Nat} {x2 x3 vsn : Int32} (h : abI S x2 x3 vsn 0) : False := by
  obtain ⟨k, r, h1, h2, h3, h4, h5, h6⟩ := h
  obtain rfl : k = 4 := by omega
  have : r < 1 := h5
  omega
theorem ab_sn {S n : Nat} {x2 x3 vsn : Int32} (h : abI S x2 x3 vsn (n + 1)) (hS : S ≤ 3) : vp_in vsn 16 := by
  obtain ⟨k, r, h1, h2, h3, h4, h5, h6⟩ := h
  subst h3
  exact vp_in_nI (by omega) (by omega)
theorem ab_ch {S n : Nat} {x2 x3 vsn : Int32} (h : abI S x2 x3 vsn n) : vp_in ((48 + (x2 - x2 / 10 * 10)).toUInt32 % 65536).toInt32 256 := by
  obtain ⟨k, r, h1, h2, h3, h4, h5, h6⟩ := h
  exact dg_v h2 (Nat.lt_of_lt_of_le h5 (pw_le k))
theorem ab_st {S n : Nat} {x2 x3 vsn : Int32} (h : abI S x2 x3 vsn (n + 1)) (c : ¬ x2 / 10 = 0) : abI S (x2 / 10) (x3 + 1) (vsn + 1) n := by
  obtain ⟨k, r, h1, h2, h3, h4, h5, h6⟩ := h
  subst h1; subst h2; subst h3
  have hr := Nat.lt_of_lt_of_le h5 (pw_le k)
  have e : nI r / 10 = nI (r / 10) := pk_div (d := 10) (by omega) (by omega) (by omega)
  rw [e] at c ⊢
  have h0 : r / 10 ≠ 0 := fun q => c (by rw [q]; rfl)
  exact ⟨k + 1, r / 10, nI_1 k, rfl, by rw [nI_1]; rfl, by omega, pw_s h5 h0, Or.inr h0⟩
def FX3_appendBackwards_4_sn : Nat → Int32 → Int32 → (Nat → Int32) → Int32 → Int32
  | 0, _, _, _, _ => 0
  | n + 1, x2, x3, vsb, vsn => (if 10 ≤ x3 then vsn else (if (x2 / 10) = 0 then (f_J4_append_cf468_sn vsn) else (FX3_appendBackwards_4_sn n (x2 / 10) (x3 + 1) (f_J4_append_cf468_sb vsn vsb ((((48 + (x2 - x2 / 10 * 10))).toUInt32 % 65536).toInt32)) (f_J4_append_cf468_sn vsn) )))
def FX3_appendBackwards_4_sb : Nat → Int32 → Int32 → (Nat → Int32) → Int32 → Nat → Int32
  | 0, _, _, _, _ => fun _ => 0
  | n + 1, x2, x3, vsb, vsn => (if 10 ≤ x3 then vsb else (if (x2 / 10) = 0 then (f_J4_append_cf468_sb vsn vsb ((((48 + (x2 - x2 / 10 * 10))).toUInt32 % 65536).toInt32)) else (FX3_appendBackwards_4_sb n (x2 / 10) (x3 + 1) (f_J4_append_cf468_sb vsn vsb ((((48 + (x2 - x2 / 10 * 10))).toUInt32 % 65536).toInt32)) (f_J4_append_cf468_sn vsn) )))
def f_X3_appendBackwards_sn (sn : Int32) (sb : Nat → Int32) (p0 : Int32) : Int32 := (FX3_appendBackwards_4_sn 4 p0 0 sb sn)
def f_X3_appendBackwards_sb (sn : Int32) (sb : Nat → Int32) (p0 : Int32) : Nat → Int32 := (FX3_appendBackwards_4_sb 4 p0 0 sb sn)
set_option maxHeartbeats 4000000 in
set_option maxRecDepth 100000 in
theorem c_X3_appendBackwards (l : Launch) (G : va_G) (aS : Nat → Nat) (aB : Nat → Nat) (sm : Int32) (sn : Int32) (sb : Nat → Int32) (p0 : Int32) (hsn : sn = nI (sn).toNatClampNeg ∧ (sn).toNatClampNeg ≤ 3) (hp : p0 = nI (p0).toNatClampNeg ∧ (p0).toNatClampNeg < 1000) : Ku l yX3_appendBackwards wsX3_appendBackwards { frames := 3, cells := 0, slots := 0, locals := 64 } 0 0 G (wSo G aS aB 0 sm sn ++ (wB G aB sb)) [.ref (aS 0), .int p0] (wSo G aS aB 0 sm (f_X3_appendBackwards_sn sn sb p0) ++ (wB G aB (f_X3_appendBackwards_sb sn sb p0))) := by
  refine v_ofv (cc := cX3_appendBackwards) (nL := 4) (lv := [(0, .ref (aS 0)), (1, .int p0)]) (by decide) rfl (Nat.le_of_ble_eq_true rfl) rfl ?_
  intro p e s m args below meth c A X hr hin
  refine v_iload_n (pc := 0) X dX3_appendBackwards_0 1 rfl ?_
  refine v_istore_n (pc := 1) (lv' := [(0, .ref (aS 0)), (1, .int p0), (2, .int p0)]) X dX3_appendBackwards_1 rfl (Nat.le_of_ble_eq_true rfl) [1, 2, 0] rfl ?_
  refine v_iconst (pc := 2) (v := 0) X dX3_appendBackwards_2 (by decide) ?_
  refine v_istore_n (pc := 3) (lv' := [(0, .ref (aS 0)), (1, .int p0), (2, .int p0), (3, .int 0)]) X dX3_appendBackwards_3 rfl (Nat.le_of_ble_eq_true rfl) [1, 2, 3, 0] rfl ?_
  have LP4 : ∀ (n : Nat) (x2 : Int32) (x3 : Int32) (vsb : Nat → Int32) (vsn : Int32), (abI (sn).toNatClampNeg x2 x3 vsn n) → (FX3_appendBackwards_4_sn n x2 x3 vsb vsn) = (f_X3_appendBackwards_sn sn sb p0) → (FX3_appendBackwards_4_sb n x2 x3 vsb vsn) = (f_X3_appendBackwards_sb sn sb p0) → V p l e (headSpec wsX3_appendBackwards { frames := 3, cells := 0, slots := 0, locals := 64 }).room s m args below meth c 4 G A 0 0 (QV below args s G A 0 0 (S := Unit) (fun _ => True) (fun _ => (wSo G aS aB 0 sm (f_X3_appendBackwards_sn sn sb p0) ++ (wB G aB (f_X3_appendBackwards_sb sn sb p0))))) (wSo G aS aB 0 sm vsn ++ (wB G aB vsb)) [(0, .ref (aS 0)), (1, .int p0), (2, .int x2), (3, .int x3)] 4 [] := by
    intro n
    induction n with
    | zero => intro x2 x3 vsb vsn hI hF_sn hF_sb; exact False.elim (ab_z hI)
    | succ n ih =>
      intro x2 x3 vsb vsn hI hF_sn hF_sb
      refine v_iload_n (pc := 4) X dX3_appendBackwards_4 3 rfl ?_
      refine v_bipush (pc := 5) (v := 10) X dX3_appendBackwards_5 (by decide) ?_
      refine v_icmp_ge (pc := 7) X 39 dX3_appendBackwards_7 (by decide) (fun c_7 => ?_) (fun c_7 => ?_)
      · exact v_vret (pc := 39) X hr dX3_appendBackwards_39 () (by show (wSo G aS aB 0 sm vsn ++ (wB G aB vsb)) = (wSo G aS aB 0 sm (f_X3_appendBackwards_sn sn sb p0) ++ (wB G aB (f_X3_appendBackwards_sb sn sb p0))); rw [← hF_sn, ← hF_sb]; simp only [FX3_appendBackwards_4_sn, FX3_appendBackwards_4_sb, if_pos c_7]) True.intro
      · refine v_aload_n (pc := 10) X dX3_appendBackwards_10 0 rfl ?_
        refine v_bipush (pc := 11) (v := 48) X dX3_appendBackwards_11 (by decide) ?_
        refine v_iload_n (pc := 13) X dX3_appendBackwards_13 2 rfl ?_
        refine v_bipush (pc := 14) (v := 10) X dX3_appendBackwards_14 (by decide) ?_
        refine v_irem (pc := 16) X dX3_appendBackwards_16 (by decide) rfl ?_
        refine v_iadd (pc := 17) X dX3_appendBackwards_17 rfl ?_
        refine v_i2c (pc := 18) X dX3_appendBackwards_18 rfl ?_
        refine v_qV (pc := 19) (rest := []) (n := 1) (wr := ([] : va_W)) (wn := (wSo G aS aB 0 sm (f_J4_append_cf468_sn vsn) ++ (wB G aB (f_J4_append_cf468_sb vsn vsb ((((48 + (x2 - x2 / 10 * 10))).toUInt32 % 65536).toInt32))))) (isC := [0, 1]) (isR := []) (isP := [0, 1]) X (c_J4_append_cf468 l G aS aB sm vsn vsb ((((48 + (x2 - x2 / 10 * 10))).toUInt32 % 65536).toInt32) (ab_sn hI hsn.2) (ab_ch hI)) gX3_appendBackwards_J4_append_cf468 rfl rfl rfl (by decide +kernel) ⟨Nat.le_of_ble_eq_true rfl, Nat.le_of_ble_eq_true rfl⟩ dX3_appendBackwards_19 rfl rfl (Nat.le_of_ble_eq_true rfl) ⟨Nat.le_of_ble_eq_true rfl, Nat.le_of_ble_eq_true rfl⟩ 0 rfl rfl ⟨rfl, rfl, rfl, rfl, by decide, rfl, rfl⟩ (fun ra19 => ?_)
        refine v_pop (pc := 22) X dX3_appendBackwards_22 rfl ?_
        refine v_iload_n (pc := 23) X dX3_appendBackwards_23 2 rfl ?_
        refine v_bipush (pc := 24) (v := 10) X dX3_appendBackwards_24 (by decide) ?_
        refine v_idiv (pc := 26) X dX3_appendBackwards_26 (by decide) rfl ?_
        refine v_istore_n (pc := 27) (lv' := [(0, .ref (aS 0)), (1, .int p0), (2, .int (x2 / 10)), (3, .int x3)]) X dX3_appendBackwards_27 rfl (Nat.le_of_ble_eq_true rfl) [1, 2, 0, 3] rfl ?_
        refine v_iload_n (pc := 28) X dX3_appendBackwards_28 2 rfl ?_
        refine v_if_ne (pc := 29) X 33 dX3_appendBackwards_29 (by decide) (fun c_29 => ?_) (fun c_29 => ?_)
        · refine v_iinc (pc := 33) (k := 3) (v := (x3 + 1)) (lv' := [(0, .ref (aS 0)), (1, .int p0), (2, .int (x2 / 10)), (3, .int (x3 + 1))]) X dX3_appendBackwards_33 rfl rfl (Nat.le_of_ble_eq_true rfl) [1, 2, 3, 0] rfl ?_
          refine v_goto (pc := 36) X 4 dX3_appendBackwards_36 (by decide) ?_
          exact ih (x2 / 10) (x3 + 1) (f_J4_append_cf468_sb vsn vsb ((((48 + (x2 - x2 / 10 * 10))).toUInt32 % 65536).toInt32)) (f_J4_append_cf468_sn vsn) (ab_st hI c_29) (by rw [← hF_sn]; simp only [FX3_appendBackwards_4_sn, if_neg c_7, if_neg c_29]) (by rw [← hF_sb]; simp only [FX3_appendBackwards_4_sb, if_neg c_7, if_neg c_29])
        · exact v_vret (pc := 32) X hr dX3_appendBackwards_32 () (by show (wSo G aS aB 0 sm (f_J4_append_cf468_sn vsn) ++ (wB G aB (f_J4_append_cf468_sb vsn vsb ((((48 + (x2 - x2 / 10 * 10))).toUInt32 % 65536).toInt32)))) = (wSo G aS aB 0 sm (f_X3_appendBackwards_sn sn sb p0) ++ (wB G aB (f_X3_appendBackwards_sb sn sb p0))); rw [← hF_sn, ← hF_sb]; simp only [FX3_appendBackwards_4_sn, FX3_appendBackwards_4_sb, if_neg c_7, if_pos c_29]) True.intro
  exact LP4 4 p0 0 sb sn (⟨0, (p0).toNatClampNeg, rfl, hp.1, hsn.1, rfl, hp.2, Or.inl rfl⟩) (by simp only [f_X3_appendBackwards_sn]) (by simp only [f_X3_appendBackwards_sb])
def nd (r : Nat) : Nat := if r < 10 then 1 else if r < 100 then 2 else 3
/-- the digits of r, the last first, from the place q on -/
def pdg : Nat → (Nat → Int32) → Nat → Nat → (Nat → Int32)
  | 0, f, _, _ => f
  | n + 1, f, q, r => if r / 10 = 0 then upd f q (nI (48 + r % 10)) else pdg n (upd f q (nI (48 + r % 10))) (q + 1) (r / 10)
theorem by_128 : ∀ n : Nat, n < 128 → (nI n).toInt8.toInt32 = nI n := by decide
theorem app_sb {q c : Nat} (f : Nat → Int32) (hq : q < 1000) (hc : c < 128) : f_J4_append_cf468_sb (nI q) f (nI c) = upd f q (nI c) := by
  unfold f_J4_append_cf468_sb f_J5_append_3fe6f_sb
  rw [pk_vb, by_128 c hc, nI_clamp (by omega)]
theorem app_sn (q : Nat) : f_J4_append_cf468_sn (nI q) = nI (q + 1) := nI_1 q
theorem ab_fun : ∀ (n k r S : Nat) (vsb : Nat → Int32), k + n = 4 → r < pw k → (k = 0 ∨ r ≠ 0) → S ≤ 3 →
    FX3_appendBackwards_4_sn n (nI r) (nI k) vsb (nI (S + k)) = nI (S + k + nd r) ∧ FX3_appendBackwards_4_sb n (nI r) (nI k) vsb (nI (S + k)) = pdg n vsb (S + k) r
  | 0, k, r, S, vsb, h1, h2, h3, h4 => by
    obtain rfl : k = 4 := by omega
    have : r < 1 := h2
    omega
  | n + 1, k, r, S, vsb, h1, h2, h3, h4 => by
    have hr := Nat.lt_of_lt_of_le h2 (pw_le k)
    have c1 : ¬ (10 : Int32) ≤ nI k := fun q => by
      have := (nI_leI (a := 10) (by decide) (by omega)).mp q
      omega
    have e : nI r / 10 = nI (r / 10) := pk_div (d := 10) (by omega) (by omega) (by omega)
    have ec : ((48 + (nI r - nI r / 10 * 10)).toUInt32 % 65536).toInt32 = nI (48 + r % 10) := dg_c rfl hr
    by_cases c2 : r / 10 = 0
    · have c3 : nI r / 10 = 0 := by rw [e, c2]; rfl
      have hd : nd r = 1 := by unfold nd; rw [if_pos (by omega)]
      constructor
      · simp only [FX3_appendBackwards_4_sn, if_neg c1, if_pos c3]
        rw [app_sn, hd]
      · simp only [FX3_appendBackwards_4_sb, if_neg c1, if_pos c3, pdg, if_pos c2]
        rw [ec, app_sb _ (by omega) (by omega)]
    · have c3 : ¬ nI r / 10 = 0 := by
        rw [e]
        intro q
        have := (nI_eq (b := 0) (by omega) (by decide)).mp q
        exact c2 this
      have hd : nd r = 1 + nd (r / 10) := by
        unfold nd
        rw [if_neg (by omega : ¬ r < 10)]
        by_cases c4 : r < 100
        · rw [if_pos c4, if_pos (by omega : r / 10 < 10)]
        · rw [if_neg c4, if_neg (by omega : ¬ r / 10 < 10), if_pos (by omega : r / 10 < 100)]
      have ih := ab_fun n (k + 1) (r / 10) S (upd vsb (S + k) (nI (48 + r % 10))) (by omega) (pw_s h2 c2) (Or.inr c2) h4
      constructor
      · simp only [FX3_appendBackwards_4_sn, if_neg c1, if_neg c3]
        rw [ec, app_sb _ (by omega) (by omega), app_sn, e, nI_1]
        rw [show S + k + 1 = S + (k + 1) from rfl, ih.1, hd]
        congr 1
        omega
      · simp only [FX3_appendBackwards_4_sb, if_neg c1, if_neg c3, pdg, if_neg c2]
        rw [ec, app_sb _ (by omega) (by omega), app_sn, e, nI_1]
        exact ih.2
theorem ab_vsn {sn p0 : Int32} (sb : Nat → Int32) (hsn : sn = nI sn.toNatClampNeg ∧ sn.toNatClampNeg ≤ 3) (hp : p0 = nI p0.toNatClampNeg ∧ p0.toNatClampNeg < 1000) : f_X3_appendBackwards_sn sn sb p0 = nI (sn.toNatClampNeg + nd p0.toNatClampNeg) := by
  have h := (ab_fun 4 0 p0.toNatClampNeg sn.toNatClampNeg sb rfl hp.2 (Or.inl rfl) hsn.2).1
  rw [← hp.1, Nat.add_zero, ← hsn.1] at h
  exact h
theorem ab_vp {sn p0 : Int32} (sb : Nat → Int32) (hsn : sn = nI sn.toNatClampNeg ∧ sn.toNatClampNeg ≤ 3) (hp : p0 = nI p0.toNatClampNeg ∧ p0.toNatClampNeg < 1000) : vp_in (f_X3_appendBackwards_sn sn sb p0) 16 := by
  rw [ab_vsn sb hsn hp]
  have : nd p0.toNatClampNeg ≤ 3 := by unfold nd; split <;> (try split) <;> omega
  exact vp_in_nI (by omega) (by omega)
theorem lt_c {x y : Int32} {a b : Nat} (hx : x = nI a) (ha : a < 12) (hy : y = nI b) (hb : b < 1000) : ((65 + (((3 * y) + x) - ((3 * y) + x) / 26 * 26)).toUInt32 % 65536).toInt32 = nI (65 + (3 * b + a) % 26) := by
  subst hx; subst hy
  rw [show (3 : Int32) = nI 3 from rfl, pk_mul, nI_add, show (26 : Int32) = nI 26 from rfl, pk_rem (by omega) (by omega) (by omega), show (65 : Int32) = nI 65 from rfl, nI_add, pk_char, pk_tn (by omega), Nat.mod_eq_of_lt (by omega)]
theorem lt_v {x y : Int32} (hx : vp_in x 12) (hy : y = nI y.toNatClampNeg ∧ y.toNatClampNeg < 1000) : vp_in ((65 + (((3 * y) + x) - ((3 * y) + x) / 26 * 26)).toUInt32 % 65536).toInt32 256 := by
  obtain ⟨a, ha, rfl⟩ := pers_of hx
  rw [lt_c rfl ha hy.1 hy.2]
  exact vp_in_nI (by omega) (by omega)

set_option maxHeartbeats 4000000 in
set_option maxRecDepth 100000 in
theorem c_X3_badgeText (l : Launch) (G : va_G) (p0 : Int32) (p1 : Int32) (h0 : vp_in p0 12) (hp : p1 = nI (p1).toNatClampNeg ∧ (p1).toNatClampNeg < 1000) : Kr l yX3_badgeText wsX3_badgeText { frames := 4, cells := 2, slots := 20, locals := 87 } 2 20 G ([] : va_W) [.int p0, .int p1] (S := Nat → Nat) (fun _ => True) (fun (b : Nat → Nat) (ra : Nat) => (wSo G (adr [ra]) b 0 0 (f_J4_append_cf468_sn (f_X3_appendBackwards_sn (f_J4_append_cf468_sn (f_J4_append_bf812_z0_2 p0)) (f_J4_append_cf468_sb (f_J4_append_bf812_z0_2 p0) (f_J4_append_bf812_sb (fun _ => 0) p0) 45) p1)) ++ (wB G b (f_J4_append_cf468_sb (f_X3_appendBackwards_sn (f_J4_append_cf468_sn (f_J4_append_bf812_z0_2 p0)) (f_J4_append_cf468_sb (f_J4_append_bf812_z0_2 p0) (f_J4_append_bf812_sb (fun _ => 0) p0) 45) p1) (f_X3_appendBackwards_sb (f_J4_append_cf468_sn (f_J4_append_bf812_z0_2 p0)) (f_J4_append_cf468_sb (f_J4_append_bf812_z0_2 p0) (f_J4_append_bf812_sb (fun _ => 0) p0) 45) p1) ((((65 + (((3 * p1) + p0) - ((3 * p1) + p0) / 26 * 26))).toUInt32 % 65536).toInt32))))) := by
  refine v_ofr (cc := cX3_badgeText) (nL := 3) (lv := [(0, .int p0), (1, .int p1)]) (by decide) rfl (Nat.le_of_ble_eq_true rfl) rfl ?_
  intro p e s m args below meth c A X hr
  refine v_new (pc := 0) (i1 := 1) (i2 := 2) (i3 := 3) (ci := 0) X [.null, .int 0, .int 0, .int 0] dX3_badgeText_0 (fun _ h => List.mem_cons_of_mem _ (List.mem_append_right _ h)) tyJ4_ok rfl rfl rfl rfl (by decide) (Nat.le_of_ble_eq_true rfl) (Nat.le_of_ble_eq_true rfl) (fun q0 => ?_)
  refine v_ws (ws' := ([(q0, .inr (0, [.null, .int 0, .int 0, .int 0]))])) rfl ?_
  refine v_dup (pc := 3) X dX3_badgeText_3 rfl ?_
  refine v_callIv (pc := 4) (rest := [.ref q0]) (n := 0) (i1 := 3) (i2 := 4) (i3 := 5) (wr := ([] : va_W)) (wn := fun (q9 : (Nat → Nat) × (Nat → Nat)) => (wSo G (q9.1) (q9.2) 0 0 0 ++ (wB G (q9.2) (fun _ => 0)))) (isC := [0]) (isR := []) (isP := [0, 1]) X (c_J4_init_da8c8 l G q0) gX3_badgeText_J4_init_da8c8 rfl rfl rfl rfl rfl rfl rfl (by decide +kernel) ⟨Nat.le_of_ble_eq_true rfl, Nat.le_of_ble_eq_true rfl⟩ dX3_badgeText_4 rfl rfl (Nat.le_of_ble_eq_true rfl) ⟨Nat.le_of_ble_eq_true rfl, Nat.le_of_ble_eq_true rfl⟩ ⟨rfl, rfl, rfl, rfl, by decide, rfl, fun _ => rfl⟩ (fun q9 hh9 => ?_)
  obtain ⟨a4, b4⟩ := q9
  obtain rfl : a4 0 = q0 := hh9
  refine v_ws (ws' := (wSo G a4 b4 0 0 0 ++ (wB G b4 (fun _ => 0)))) rfl ?_
  refine v_astore_n (pc := 7) (lv' := [(0, .int p0), (1, .int p1), (2, .ref (a4 0))]) X dX3_badgeText_7 rfl (Nat.le_of_ble_eq_true rfl) [1, 2, 0] rfl ?_
  refine v_aload_n (pc := 8) X dX3_badgeText_8 2 rfl ?_
  refine v_iload_n (pc := 9) X dX3_badgeText_9 0 rfl ?_
  refine v_qV (pc := 10) (rest := []) (n := 1) (wr := ([] : va_W)) (wn := (wSo G a4 b4 0 0 (f_J4_append_bf812_z0_2 p0) ++ (wB G b4 (f_J4_append_bf812_sb (fun _ => 0) p0)))) (isC := [0, 1]) (isR := []) (isP := [0, 1]) X (c_J4_append_bf812 l G a4 b4 0 (fun _ => 0) p0 h0) gX3_badgeText_J4_append_bf812 rfl rfl rfl (by decide +kernel) ⟨Nat.le_of_ble_eq_true rfl, Nat.le_of_ble_eq_true rfl⟩ dX3_badgeText_10 rfl rfl (Nat.le_of_ble_eq_true rfl) ⟨Nat.le_of_ble_eq_true rfl, Nat.le_of_ble_eq_true rfl⟩ 0 rfl rfl ⟨rfl, rfl, rfl, rfl, by decide, rfl, rfl⟩ (fun ra10 => ?_)
  refine v_pop (pc := 13) X dX3_badgeText_13 rfl ?_
  refine v_aload_n (pc := 14) X dX3_badgeText_14 2 rfl ?_
  refine v_bipush (pc := 15) (v := 45) X dX3_badgeText_15 (by decide) ?_
  refine v_qV (pc := 17) (rest := []) (n := 1) (wr := ([] : va_W)) (wn := (wSo G a4 b4 0 0 (f_J4_append_cf468_sn (f_J4_append_bf812_z0_2 p0)) ++ (wB G b4 (f_J4_append_cf468_sb (f_J4_append_bf812_z0_2 p0) (f_J4_append_bf812_sb (fun _ => 0) p0) 45)))) (isC := [0, 1]) (isR := []) (isP := [0, 1]) X (c_J4_append_cf468 l G a4 b4 0 (f_J4_append_bf812_z0_2 p0) (f_J4_append_bf812_sb (fun _ => 0) p0) 45 (ss_4 h0) (by unfold vp_in; decide)) gX3_badgeText_J4_append_cf468 rfl rfl rfl (by decide +kernel) ⟨Nat.le_of_ble_eq_true rfl, Nat.le_of_ble_eq_true rfl⟩ dX3_badgeText_17 rfl rfl (Nat.le_of_ble_eq_true rfl) ⟨Nat.le_of_ble_eq_true rfl, Nat.le_of_ble_eq_true rfl⟩ 0 rfl rfl ⟨rfl, rfl, rfl, rfl, by decide, rfl, rfl⟩ (fun ra17 => ?_)
  refine v_pop (pc := 20) X dX3_badgeText_20 rfl ?_
  refine v_aload_n (pc := 21) X dX3_badgeText_21 2 rfl ?_
  refine v_iload_n (pc := 22) X dX3_badgeText_22 1 rfl ?_
  refine v_uS (pc := 23) (rest := []) (n := 2) (wr := ([] : va_W)) (wn := (wSo G a4 b4 0 0 (f_X3_appendBackwards_sn (f_J4_append_cf468_sn (f_J4_append_bf812_z0_2 p0)) (f_J4_append_cf468_sb (f_J4_append_bf812_z0_2 p0) (f_J4_append_bf812_sb (fun _ => 0) p0) 45) p1) ++ (wB G b4 (f_X3_appendBackwards_sb (f_J4_append_cf468_sn (f_J4_append_bf812_z0_2 p0)) (f_J4_append_cf468_sb (f_J4_append_bf812_z0_2 p0) (f_J4_append_bf812_sb (fun _ => 0) p0) 45) p1)))) (isC := [0, 1]) (isR := []) (isP := [0, 1]) X (c_X3_appendBackwards l G a4 b4 0 (f_J4_append_cf468_sn (f_J4_append_bf812_z0_2 p0)) (f_J4_append_cf468_sb (f_J4_append_bf812_z0_2 p0) (f_J4_append_bf812_sb (fun _ => 0) p0) 45) p1 (ss_5 h0) hp) gX3_badgeText_X3_appendBackwards rfl rfl rfl (by decide +kernel) ⟨Nat.le_of_ble_eq_true rfl, Nat.le_of_ble_eq_true rfl⟩ dX3_badgeText_23 rfl rfl (Nat.le_of_ble_eq_true rfl) ⟨Nat.le_of_ble_eq_true rfl, Nat.le_of_ble_eq_true rfl⟩ ⟨rfl, rfl, rfl, rfl, by decide, rfl, rfl⟩ ?_
  refine v_aload_n (pc := 26) X dX3_badgeText_26 2 rfl ?_
  refine v_bipush (pc := 27) (v := 65) X dX3_badgeText_27 (by decide) ?_
  refine v_iconst (pc := 29) (v := 3) X dX3_badgeText_29 (by decide) ?_
  refine v_iload_n (pc := 30) X dX3_badgeText_30 1 rfl ?_
  refine v_imul (pc := 31) X dX3_badgeText_31 rfl ?_
  refine v_iload_n (pc := 32) X dX3_badgeText_32 0 rfl ?_
  refine v_iadd (pc := 33) X dX3_badgeText_33 rfl ?_
  refine v_bipush (pc := 34) (v := 26) X dX3_badgeText_34 (by decide) ?_
  refine v_irem (pc := 36) X dX3_badgeText_36 (by decide) rfl ?_
  refine v_iadd (pc := 37) X dX3_badgeText_37 rfl ?_
  refine v_i2c (pc := 38) X dX3_badgeText_38 rfl ?_
  refine v_qV (pc := 39) (rest := []) (n := 1) (wr := ([] : va_W)) (wn := (wSo G a4 b4 0 0 (f_J4_append_cf468_sn (f_X3_appendBackwards_sn (f_J4_append_cf468_sn (f_J4_append_bf812_z0_2 p0)) (f_J4_append_cf468_sb (f_J4_append_bf812_z0_2 p0) (f_J4_append_bf812_sb (fun _ => 0) p0) 45) p1)) ++ (wB G b4 (f_J4_append_cf468_sb (f_X3_appendBackwards_sn (f_J4_append_cf468_sn (f_J4_append_bf812_z0_2 p0)) (f_J4_append_cf468_sb (f_J4_append_bf812_z0_2 p0) (f_J4_append_bf812_sb (fun _ => 0) p0) 45) p1) (f_X3_appendBackwards_sb (f_J4_append_cf468_sn (f_J4_append_bf812_z0_2 p0)) (f_J4_append_cf468_sb (f_J4_append_bf812_z0_2 p0) (f_J4_append_bf812_sb (fun _ => 0) p0) 45) p1) ((((65 + (((3 * p1) + p0) - ((3 * p1) + p0) / 26 * 26))).toUInt32 % 65536).toInt32))))) (isC := [0, 1]) (isR := []) (isP := [0, 1]) X (c_J4_append_cf468 l G a4 b4 0 (f_X3_appendBackwards_sn (f_J4_append_cf468_sn (f_J4_append_bf812_z0_2 p0)) (f_J4_append_cf468_sb (f_J4_append_bf812_z0_2 p0) (f_J4_append_bf812_sb (fun _ => 0) p0) 45) p1) (f_X3_appendBackwards_sb (f_J4_append_cf468_sn (f_J4_append_bf812_z0_2 p0)) (f_J4_append_cf468_sb (f_J4_append_bf812_z0_2 p0) (f_J4_append_bf812_sb (fun _ => 0) p0) 45) p1) ((((65 + (((3 * p1) + p0) - ((3 * p1) + p0) / 26 * 26))).toUInt32 % 65536).toInt32) (ab_vp _ (ss_5 h0) hp) (lt_v h0 hp)) gX3_badgeText_J4_append_cf468 rfl rfl rfl (by decide +kernel) ⟨Nat.le_of_ble_eq_true rfl, Nat.le_of_ble_eq_true rfl⟩ dX3_badgeText_39 rfl rfl (Nat.le_of_ble_eq_true rfl) ⟨Nat.le_of_ble_eq_true rfl, Nat.le_of_ble_eq_true rfl⟩ 0 rfl rfl ⟨rfl, rfl, rfl, rfl, by decide, rfl, rfl⟩ (fun ra39 => ?_)
  refine v_pop (pc := 42) X dX3_badgeText_42 rfl ?_
  refine v_aload_n (pc := 43) X dX3_badgeText_43 2 rfl ?_
  exact v_aret (pc := 44) X hr (Or.inl ⟨_, rfl⟩) dX3_badgeText_44 (b4) rfl True.intro
