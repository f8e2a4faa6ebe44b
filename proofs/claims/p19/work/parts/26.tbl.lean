/-! ## the tables' words -/
theorem sel_priv {C : String} {y z : MethodName} {s : State} {args : Array Value} (hz : (Cond.selects C z z).before args s = true) (hc : y.cls = z.cls) (hy : y.cls ≠ "java/lang/invoke/MethodHandle" ∧ y.cls ≠ "java/lang/invoke/VarHandle") (hpriv : (Cond.privateMethod y).before args s = true) (hinst : (Cond.instanceMethod y).before args s = true) : (Cond.selects C y y).before args s = true := by
  obtain ⟨c, r, m1, h1, h2, h3, h4, mk1, h5, h6⟩ := Cond.selects_spec hz
  obtain ⟨mk, methM, hnamed, hmethM, -, -⟩ := Cond.instanceMethod_spec hinst
  have hfound : s.methodFound? y.cls y.name y.desc = some mk := State.methodFound?_of_named hnamed hy
  have hcl : mk.cls = m1.cls := by
    have e1 := findClass_of_methodNamed hnamed
    have e2 := findClass_of_methodNamed h3
    rw [hc] at e1
    exact Option.some.inj (e1.symm.trans e2)
  have hsel : selectMethod {} s.vm c mk = .method mk := selectMethod_private hmethM (Cond.privateMethod_at hpriv mk methM hnamed hmethM)
  rw [← hcl] at h5
  simp only [Cond.before, Cond.holds, Cond.value, h1, hfound, hnamed, hsel, h5]
  simp; exact h6
def lw_more : List Cond := [Cond.selects RJ4 yJ5_ensureCapacityInternal_d00df yJ5_ensureCapacityInternal_d00df, Cond.selects RJ4 yJ5_newCapacity_0f7a4 yJ5_newCapacity_0f7a4, Cond.selects RJ4 yJ5_inflate_da8c8 yJ5_inflate_da8c8]
def lw_tbl2 : List Cond := lw_tbl ++ lw_more
theorem hts2 {args : Array Value} {s : State} (hts : ∀ w ∈ lw_tbl, w.before args s = true) : ∀ w ∈ lw_tbl2, w.before args s = true := by
  have hz := hts (Cond.selects RJ4 yJ5_isLatin1_aae02 yJ5_isLatin1_aae02) (by decide +kernel)
  intro w hw
  rcases List.mem_append.mp hw with hw | hw
  · exact hts w hw
  · rcases List.mem_cons.mp hw with rfl | hw
    · exact sel_priv hz rfl (by decide +kernel) (hts _ (by decide +kernel)) (hts _ (by decide +kernel))
    · rcases List.mem_cons.mp hw with rfl | hw
      · exact sel_priv hz rfl (by decide +kernel) (hts _ (by decide +kernel)) (hts _ (by decide +kernel))
      · obtain rfl := List.mem_singleton.mp hw
        exact sel_priv hz rfl (by decide +kernel) (hts _ (by decide +kernel)) (hts _ (by decide +kernel))
theorem mem_pos {big ws : List Cond} {is : List Nat} (h : ws.map some = is.map (fun i => big[i]?)) : ∀ w ∈ ws, w ∈ big := fun w hw => by
  have h1 : some w ∈ ws.map some := List.mem_map.mpr ⟨w, hw, rfl⟩
  rw [h] at h1
  obtain ⟨i, -, hi⟩ := List.mem_map.mp h1
  exact List.mem_of_getElem? hi
set_option maxRecDepth 20000 in
theorem tp_1 : ∀ w ∈ wsL_law0_r1, w ∈ lw_tbl2 := mem_pos (is := [30, 31, 9, 57, 32, 33, 34, 35, 36, 37, 38, 39, 10, 119, 58, 59, 11, 120, 121, 94, 95, 12, 122, 123]) (by decide +kernel)
set_option maxRecDepth 20000 in
theorem tp_2 : ∀ w ∈ wsL_law0_r2, w ∈ lw_tbl2 := mem_pos (is := [124, 125, 40, 41, 42, 43, 44, 45, 46, 47, 60, 61, 62, 63, 68, 69, 70, 71, 93, 72, 73, 74, 64, 65]) (by decide +kernel)
set_option maxRecDepth 20000 in
theorem tp_3 : ∀ w ∈ wsL_law0_r3, w ∈ lw_tbl2 := mem_pos (is := [66, 67, 75, 96, 97, 98, 99, 100, 101, 102, 103, 104, 105, 141, 142, 8, 143, 144, 145, 587, 588, 589, 663, 590]) (by decide +kernel)
set_option maxRecDepth 20000 in
theorem tp_4 : ∀ w ∈ wsL_law0_r4, w ∈ lw_tbl2 := mem_pos (is := [591, 592, 593, 594, 595, 596, 149, 150, 151, 152, 153, 293, 294, 154, 155, 156, 157, 161, 16, 277, 17, 158, 159, 160]) (by decide +kernel)
set_option maxRecDepth 20000 in
theorem tp_5 : ∀ w ∈ wsL_law0_r5, w ∈ lw_tbl2 := mem_pos (is := [229, 230, 231, 232, 233, 234, 235, 236, 237, 238, 239, 240, 241, 242, 243, 246, 247, 248, 249, 250, 251, 252, 254, 1]) (by decide +kernel)
set_option maxRecDepth 20000 in
theorem tp_6 : ∀ w ∈ wsL_law0_r6, w ∈ lw_tbl2 := mem_pos (is := [255, 256, 257, 258, 259, 260, 261, 262, 263, 264, 265, 266, 267, 268, 269, 270, 271, 272, 273, 274, 275, 276, 597, 598]) (by decide +kernel)
set_option maxRecDepth 20000 in
theorem tp_7 : ∀ w ∈ wsL_law0_r7, w ∈ lw_tbl2 := mem_pos (is := [599, 600, 601, 602, 603, 605, 606, 607, 608, 609, 611, 6, 612, 613, 614, 615, 616, 617, 618, 619, 620, 621, 622, 623]) (by decide +kernel)
set_option maxRecDepth 20000 in
theorem tp_8 : ∀ w ∈ wsL_law0_r8, w ∈ lw_tbl2 := mem_pos (is := [624, 625, 626, 634, 18, 627, 381, 383, 5, 384, 630, 631, 632, 633, 650, 320, 321, 322, 651, 652, 653, 654, 655, 656]) (by decide +kernel)
set_option maxRecDepth 20000 in
theorem tp_9 : ∀ w ∈ wsL_law0_r9, w ∈ lw_tbl2 := mem_pos (is := [657, 658, 659, 661, 7, 662, 295, 296, 297, 298, 299, 300, 301, 302, 664, 665, 666, 667, 668, 669, 670, 672, 673, 674]) (by decide +kernel)
set_option maxRecDepth 20000 in
theorem tp_10 : ∀ w ∈ wsL_law0_r10, w ∈ lw_tbl2 := mem_pos (is := [675, 676, 677, 678, 679, 680, 681, 683, 328, 329, 330, 684, 685, 686, 687, 688, 689, 690, 691, 692, 693, 694, 695, 696]) (by decide +kernel)
set_option maxRecDepth 20000 in
theorem tp_11 : ∀ w ∈ wsL_law0_r11, w ∈ lw_tbl2 := mem_pos (is := [697, 698, 699, 700, 332, 333, 334, 701, 702, 703, 704, 392, 393, 394, 395, 396, 397, 398, 399, 400, 401, 403, 404, 405]) (by decide +kernel)
set_option maxRecDepth 20000 in
theorem tp_12 : ∀ w ∈ wsL_law0_r12, w ∈ lw_tbl2 := mem_pos (is := [406, 407, 20, 408, 409, 410, 411, 412, 19, 413, 414, 415, 228, 424, 425, 417, 418, 22, 419, 420, 421, 422, 423, 436]) (by decide +kernel)
set_option maxRecDepth 20000 in
theorem tp_13 : ∀ w ∈ wsL_law0_r13, w ∈ lw_tbl2 := mem_pos (is := [437, 438, 439, 440, 748, 435, 441, 442, 426, 443, 444, 23, 445, 446, 749, 755, 448, 449, 450, 750, 756, 452, 453, 464]) (by decide +kernel)
set_option maxRecDepth 20000 in
theorem tp_14 : ∀ w ∈ wsL_law0_r14, w ∈ lw_tbl2 := mem_pos (is := [454, 455, 24, 456, 457, 458, 25, 459, 460, 461, 462, 463, 465, 466, 26, 467, 468, 469, 470, 471, 472, 474, 475, 476]) (by decide +kernel)
set_option maxRecDepth 20000 in
theorem tp_15 : ∀ w ∈ wsL_law0_r15, w ∈ lw_tbl2 := mem_pos (is := [477, 478, 480, 479, 27, 481, 483, 484, 482, 485, 486, 487, 488, 489, 491, 493, 494, 495, 517, 496, 497, 498, 499, 500]) (by decide +kernel)
set_option maxRecDepth 20000 in
theorem tp_16 : ∀ w ∈ wsL_law0_r16, w ∈ lw_tbl2 := mem_pos (is := [501, 502, 503, 21, 504, 505, 507, 508, 28, 509, 510, 511, 512, 513, 523, 514, 515, 516, 519, 521, 524, 525, 526, 527]) (by decide +kernel)
set_option maxRecDepth 20000 in
theorem tp_17 : ∀ w ∈ wsL_law0_r17, w ∈ lw_tbl2 := mem_pos (is := [528, 751, 529, 530, 531, 532, 29, 533, 534, 752, 757, 536, 537, 538, 539, 540, 541, 542, 543, 544, 545, 546, 547, 548]) (by decide +kernel)
set_option maxRecDepth 20000 in
theorem tp_18 : ∀ w ∈ wsL_law0_r18, w ∈ lw_tbl2 := mem_pos (is := [549, 550, 551, 552, 553, 554, 555, 556, 557, 558, 559, 560, 561, 562, 563, 564, 565, 566, 567, 568, 569, 570, 571, 572]) (by decide +kernel)
set_option maxRecDepth 20000 in
theorem tp_19 : ∀ w ∈ wsL_law0_r19, w ∈ lw_tbl2 := mem_pos (is := [753, 573, 574, 575, 576, 577, 578, 579, 754, 580, 581, 582, 583, 584, 585, 586, 705, 706, 707, 708, 709, 710, 711, 714]) (by decide +kernel)
set_option maxRecDepth 20000 in
theorem tp_20 : ∀ w ∈ wsL_law0_r20, w ∈ lw_tbl2 := mem_pos (is := [324, 325, 326, 715, 716, 717, 718, 719, 720, 721, 722, 723, 724, 725, 728, 729, 730, 731, 366, 367, 368, 369, 370, 371]) (by decide +kernel)
set_option maxRecDepth 20000 in
theorem tp_21 : ∀ w ∈ wsL_law0_r21, w ∈ lw_tbl2 := mem_pos (is := [372, 373, 374, 375, 377, 379, 4, 380, 343, 344, 345, 732, 733, 734, 735, 736, 737, 738, 740, 741, 742, 743, 744, 745]) (by decide +kernel)
set_option maxRecDepth 20000 in
theorem tp_22 : ∀ w ∈ wsL_law0_r22, w ∈ lw_tbl2 := mem_pos (is := [363, 364, 365, 385, 386, 387, 388, 389, 390, 391, 146, 147, 148, 303, 304, 305, 306, 307, 308, 309, 310, 311, 312, 313]) (by decide +kernel)
set_option maxRecDepth 20000 in
theorem tp_23 : ∀ w ∈ wsL_law0_r23, w ∈ lw_tbl2 := mem_pos (is := [314, 315, 317, 2, 318, 319, 323, 327, 331, 335, 336, 337, 338, 339, 340, 341, 346, 347, 348, 349, 350, 351, 352, 354]) (by decide +kernel)
set_option maxRecDepth 20000 in
theorem tp_24 : ∀ w ∈ wsL_law0_r24, w ∈ lw_tbl2 := mem_pos (is := [355, 356, 357, 358, 359, 361, 3, 362]) (by decide +kernel)
theorem tp_c {A B : List Cond} {big : List Cond} (h1 : ∀ w ∈ A, w ∈ big) (h2 : ∀ w ∈ B, w ∈ big) : ∀ w ∈ A ++ B, w ∈ big := fun w h => (List.mem_append.mp h).elim (h1 w) (h2 w)
set_option maxRecDepth 20000 in
theorem tp_X3 : ∀ w ∈ wsX30, w ∈ lw_tbl2 := by decide +kernel
set_option maxRecDepth 20000 in
theorem tp_X0 : ∀ w ∈ wsX00, w ∈ lw_tbl2 := by decide +kernel
set_option maxRecDepth 20000 in
theorem tp_X2 : ∀ w ∈ wsX20, w ∈ lw_tbl2 := by decide +kernel
set_option maxRecDepth 20000 in
theorem tp_X1 : ∀ w ∈ wsX10, w ∈ lw_tbl2 := by decide +kernel
set_option maxRecDepth 20000 in
theorem tp_J4 : ∀ w ∈ wsJ40, w ∈ lw_tbl2 := by decide +kernel
theorem wsL_law_in0 : ∀ w ∈ wsL_law0, w ∈ lw_tbl2 := tp_c (tp_c (tp_c (tp_c (tp_c (tp_c (tp_c tp_1 (tp_c tp_2 (tp_c tp_3 (tp_c tp_4 (tp_c tp_5 (tp_c tp_6 (tp_c tp_7 (tp_c tp_8 (tp_c tp_9 (tp_c tp_10 (tp_c tp_11 (tp_c tp_12 (tp_c tp_13 (tp_c tp_14 (tp_c tp_15 (tp_c tp_16 (tp_c tp_17 (tp_c tp_18 (tp_c tp_19 (tp_c tp_20 (tp_c tp_21 (tp_c tp_22 (tp_c tp_23 tp_24))))))))))))))))))))))) tp_X3) tp_X0) tp_X2) tp_X1) tp_J4) (fun w h => absurd h List.not_mem_nil)
theorem wsL_law_x0 : ∀ w ∈ (vx_atS RX3 52 "java/lang/IndexOutOfBoundsException" ["java/lang/RuntimeException", "java/lang/Exception"]).filter goodWord, w ∈ lw_tbl := by decide +kernel
theorem wsL_law_x1 : ∀ w ∈ (vx_atS RX3 59 "java/lang/IllegalArgumentException" ["java/lang/RuntimeException", "java/lang/Exception"]).filter goodWord, w ∈ lw_tbl := by decide +kernel
theorem wsL_law_x2 : ∀ w ∈ (vx_atS RX3 68 "java/lang/IllegalStateException" ["java/lang/RuntimeException", "java/lang/Exception"]).filter goodWord, w ∈ lw_tbl := by decide +kernel
theorem wsL_law_in : ∀ w ∈ wsL_law, w ∈ lw_tbl2 := fun w h => (List.mem_append.mp h).elim (fun h => (List.mem_append.mp h).elim (fun h => (List.mem_append.mp h).elim (fun h => wsL_law_in0 w h) (fun h => List.mem_append_left _ (wsL_law_x0 w h))) (fun h => List.mem_append_left _ (wsL_law_x1 w h))) (fun h => List.mem_append_left _ (wsL_law_x2 w h))
/-! ## what is known at the start -/
abbrev stD (n : String) : Term := .static "java/lang/Integer" n "[B"
set_option maxRecDepth 100000 in
theorem dg_1_0 : ∀ j : Nat, j < 10 → Cond.eq (.elem (stD "DigitOnes") (.int (Int32.ofNat (0 + j)))) (.int (dOnes (0 + j))) ∈ flatC (Jvm.Cond.and given_1 narrow_1) := by decide +kernel
set_option maxRecDepth 100000 in
theorem dg_1_1 : ∀ j : Nat, j < 10 → Cond.eq (.elem (stD "DigitOnes") (.int (Int32.ofNat (10 + j)))) (.int (dOnes (10 + j))) ∈ flatC (Jvm.Cond.and given_1 narrow_1) := by decide +kernel
set_option maxRecDepth 100000 in
theorem dg_1_2 : ∀ j : Nat, j < 10 → Cond.eq (.elem (stD "DigitOnes") (.int (Int32.ofNat (20 + j)))) (.int (dOnes (20 + j))) ∈ flatC (Jvm.Cond.and given_1 narrow_1) := by decide +kernel
set_option maxRecDepth 100000 in
theorem dg_1_3 : ∀ j : Nat, j < 10 → Cond.eq (.elem (stD "DigitOnes") (.int (Int32.ofNat (30 + j)))) (.int (dOnes (30 + j))) ∈ flatC (Jvm.Cond.and given_1 narrow_1) := by decide +kernel
set_option maxRecDepth 100000 in
theorem dg_1_4 : ∀ j : Nat, j < 10 → Cond.eq (.elem (stD "DigitOnes") (.int (Int32.ofNat (40 + j)))) (.int (dOnes (40 + j))) ∈ flatC (Jvm.Cond.and given_1 narrow_1) := by decide +kernel
set_option maxRecDepth 100000 in
theorem dg_1_5 : ∀ j : Nat, j < 10 → Cond.eq (.elem (stD "DigitOnes") (.int (Int32.ofNat (50 + j)))) (.int (dOnes (50 + j))) ∈ flatC (Jvm.Cond.and given_1 narrow_1) := by decide +kernel
set_option maxRecDepth 100000 in
theorem dg_1_6 : ∀ j : Nat, j < 10 → Cond.eq (.elem (stD "DigitOnes") (.int (Int32.ofNat (60 + j)))) (.int (dOnes (60 + j))) ∈ flatC (Jvm.Cond.and given_1 narrow_1) := by decide +kernel
set_option maxRecDepth 100000 in
theorem dg_1_7 : ∀ j : Nat, j < 10 → Cond.eq (.elem (stD "DigitOnes") (.int (Int32.ofNat (70 + j)))) (.int (dOnes (70 + j))) ∈ flatC (Jvm.Cond.and given_1 narrow_1) := by decide +kernel
set_option maxRecDepth 100000 in
theorem dg_1_8 : ∀ j : Nat, j < 10 → Cond.eq (.elem (stD "DigitOnes") (.int (Int32.ofNat (80 + j)))) (.int (dOnes (80 + j))) ∈ flatC (Jvm.Cond.and given_1 narrow_1) := by decide +kernel
set_option maxRecDepth 100000 in
theorem dg_1_9 : ∀ j : Nat, j < 10 → Cond.eq (.elem (stD "DigitOnes") (.int (Int32.ofNat (90 + j)))) (.int (dOnes (90 + j))) ∈ flatC (Jvm.Cond.and given_1 narrow_1) := by decide +kernel
theorem dg_1 (j : Nat) (hj : j < 100) : Cond.eq (.elem (stD "DigitOnes") (.int (Int32.ofNat j))) (.int (dOnes j)) ∈ flatC (Jvm.Cond.and given_1 narrow_1) := by
  by_cases c0 : j < 10
  · have := dg_1_0 (j - 0) (by omega)
    rwa [show 0 + (j - 0) = j by omega] at this
  by_cases c1 : j < 20
  · have := dg_1_1 (j - 10) (by omega)
    rwa [show 10 + (j - 10) = j by omega] at this
  by_cases c2 : j < 30
  · have := dg_1_2 (j - 20) (by omega)
    rwa [show 20 + (j - 20) = j by omega] at this
  by_cases c3 : j < 40
  · have := dg_1_3 (j - 30) (by omega)
    rwa [show 30 + (j - 30) = j by omega] at this
  by_cases c4 : j < 50
  · have := dg_1_4 (j - 40) (by omega)
    rwa [show 40 + (j - 40) = j by omega] at this
  by_cases c5 : j < 60
  · have := dg_1_5 (j - 50) (by omega)
    rwa [show 50 + (j - 50) = j by omega] at this
  by_cases c6 : j < 70
  · have := dg_1_6 (j - 60) (by omega)
    rwa [show 60 + (j - 60) = j by omega] at this
  by_cases c7 : j < 80
  · have := dg_1_7 (j - 70) (by omega)
    rwa [show 70 + (j - 70) = j by omega] at this
  by_cases c8 : j < 90
  · have := dg_1_8 (j - 80) (by omega)
    rwa [show 80 + (j - 80) = j by omega] at this
  by_cases c9 : j < 100
  · have := dg_1_9 (j - 90) (by omega)
    rwa [show 90 + (j - 90) = j by omega] at this
  omega
set_option maxRecDepth 100000 in
theorem dg_2_0 : ∀ j : Nat, j < 10 → Cond.eq (.elem (stD "DigitTens") (.int (Int32.ofNat (0 + j)))) (.int (dTens (0 + j))) ∈ flatC (Jvm.Cond.and given_1 narrow_1) := by decide +kernel
set_option maxRecDepth 100000 in
theorem dg_2_1 : ∀ j : Nat, j < 10 → Cond.eq (.elem (stD "DigitTens") (.int (Int32.ofNat (10 + j)))) (.int (dTens (10 + j))) ∈ flatC (Jvm.Cond.and given_1 narrow_1) := by decide +kernel
set_option maxRecDepth 100000 in
theorem dg_2_2 : ∀ j : Nat, j < 10 → Cond.eq (.elem (stD "DigitTens") (.int (Int32.ofNat (20 + j)))) (.int (dTens (20 + j))) ∈ flatC (Jvm.Cond.and given_1 narrow_1) := by decide +kernel
set_option maxRecDepth 100000 in
theorem dg_2_3 : ∀ j : Nat, j < 10 → Cond.eq (.elem (stD "DigitTens") (.int (Int32.ofNat (30 + j)))) (.int (dTens (30 + j))) ∈ flatC (Jvm.Cond.and given_1 narrow_1) := by decide +kernel
set_option maxRecDepth 100000 in
theorem dg_2_4 : ∀ j : Nat, j < 10 → Cond.eq (.elem (stD "DigitTens") (.int (Int32.ofNat (40 + j)))) (.int (dTens (40 + j))) ∈ flatC (Jvm.Cond.and given_1 narrow_1) := by decide +kernel
set_option maxRecDepth 100000 in
theorem dg_2_5 : ∀ j : Nat, j < 10 → Cond.eq (.elem (stD "DigitTens") (.int (Int32.ofNat (50 + j)))) (.int (dTens (50 + j))) ∈ flatC (Jvm.Cond.and given_1 narrow_1) := by decide +kernel
set_option maxRecDepth 100000 in
theorem dg_2_6 : ∀ j : Nat, j < 10 → Cond.eq (.elem (stD "DigitTens") (.int (Int32.ofNat (60 + j)))) (.int (dTens (60 + j))) ∈ flatC (Jvm.Cond.and given_1 narrow_1) := by decide +kernel
set_option maxRecDepth 100000 in
theorem dg_2_7 : ∀ j : Nat, j < 10 → Cond.eq (.elem (stD "DigitTens") (.int (Int32.ofNat (70 + j)))) (.int (dTens (70 + j))) ∈ flatC (Jvm.Cond.and given_1 narrow_1) := by decide +kernel
set_option maxRecDepth 100000 in
theorem dg_2_8 : ∀ j : Nat, j < 10 → Cond.eq (.elem (stD "DigitTens") (.int (Int32.ofNat (80 + j)))) (.int (dTens (80 + j))) ∈ flatC (Jvm.Cond.and given_1 narrow_1) := by decide +kernel
set_option maxRecDepth 100000 in
theorem dg_2_9 : ∀ j : Nat, j < 10 → Cond.eq (.elem (stD "DigitTens") (.int (Int32.ofNat (90 + j)))) (.int (dTens (90 + j))) ∈ flatC (Jvm.Cond.and given_1 narrow_1) := by decide +kernel
theorem dg_2 (j : Nat) (hj : j < 100) : Cond.eq (.elem (stD "DigitTens") (.int (Int32.ofNat j))) (.int (dTens j)) ∈ flatC (Jvm.Cond.and given_1 narrow_1) := by
  by_cases c0 : j < 10
  · have := dg_2_0 (j - 0) (by omega)
    rwa [show 0 + (j - 0) = j by omega] at this
  by_cases c1 : j < 20
  · have := dg_2_1 (j - 10) (by omega)
    rwa [show 10 + (j - 10) = j by omega] at this
  by_cases c2 : j < 30
  · have := dg_2_2 (j - 20) (by omega)
    rwa [show 20 + (j - 20) = j by omega] at this
  by_cases c3 : j < 40
  · have := dg_2_3 (j - 30) (by omega)
    rwa [show 30 + (j - 30) = j by omega] at this
  by_cases c4 : j < 50
  · have := dg_2_4 (j - 40) (by omega)
    rwa [show 40 + (j - 40) = j by omega] at this
  by_cases c5 : j < 60
  · have := dg_2_5 (j - 50) (by omega)
    rwa [show 50 + (j - 50) = j by omega] at this
  by_cases c6 : j < 70
  · have := dg_2_6 (j - 60) (by omega)
    rwa [show 60 + (j - 60) = j by omega] at this
  by_cases c7 : j < 80
  · have := dg_2_7 (j - 70) (by omega)
    rwa [show 70 + (j - 70) = j by omega] at this
  by_cases c8 : j < 90
  · have := dg_2_8 (j - 80) (by omega)
    rwa [show 80 + (j - 80) = j by omega] at this
  by_cases c9 : j < 100
  · have := dg_2_9 (j - 90) (by omega)
    rwa [show 90 + (j - 90) = j by omega] at this
  omega
theorem lit_1 : ∀ q ∈ xLits, Cond.stringRef RX3 q.1 q.2 ∈ lw_tbl := by decide +kernel
theorem lit_2 : ∀ q ∈ xLits, Cond.exactly (.string RX3 q.1) "java/lang/String" ∈ flatC (Jvm.Cond.and given_1 narrow_1) := by decide +kernel
theorem nst_1 : ∀ q ∈ xNest, Cond.methodLinkNest RX2 q.1 q.2 RX3 ∈ lw_tbl := by decide +kernel
theorem arr_k {args : Array Value} {s : State} {ty : FieldType} (h : (Cond.arrayClass ty).before args s = true) : ∃ cA : ClassId, ArrOfT s cA ty ∧ s.vm.findClass ("[" ++ ty.toString) = some cA := by
  obtain ⟨cA, kA, comp, h1, h2, h3⟩ := Cond.arrayClass_spec h
  exact ⟨cA, fun n z => ⟨fun k h => (by cases h), kA, h2, comp, h3⟩, h1⟩
theorem gx_start {b : Nat} {s : State} (hts : ∀ w ∈ lw_tbl, w.before #[Value.ref b] s = true) (htL : ∀ w ∈ wsL_law, w.before #[Value.ref b] s = true) (hgv : (Jvm.Cond.and given_1 narrow_1).before #[Value.ref b] s = true) : ∃ G : va_G, GX G (fun q => s.heap.size ≤ q) s s.heap := by
  have hn := flat_of_before _ hgv
  have hA : ∀ a : Nat, a < s.heap.size → ¬ (fun q => s.heap.size ≤ q) a := fun a h => Nat.not_le.mpr h
  obtain ⟨c0, i0, K0⟩ := u_known (C := RJ4) (T := TJ4) (N := 4) (n := 4) htL inlJ4 (hts (.instantiable RJ4 4) (by decide +kernel))
  obtain ⟨c1, i1, K1⟩ := u_known (C := RX0) (T := TX0) (N := 4) (n := 4) htL inlX0 (hts (.instantiable RX0 4) (by decide +kernel))
  obtain ⟨c2, i2, K2⟩ := u_known (C := RX1) (T := TX1) (N := 6) (n := 6) htL inlX1 (hts (.instantiable RX1 6) (by decide +kernel))
  obtain ⟨c3, i3, K3⟩ := u_known (C := RX2) (T := TX2) (N := 8) (n := 8) htL inlX2 (hts (.instantiable RX2 8) (by decide +kernel))
  obtain ⟨c4, i4, K4⟩ := u_known (C := RX3) (T := TX3) (N := 7) (n := 7) htL inlX3 (hts (.instantiable RX3 7) (by decide +kernel))
  obtain ⟨a0, A0, B0⟩ := arr_k (hts (.arrayClass .int) (by decide +kernel))
  obtain ⟨a1, A1, B1⟩ := arr_k (hts (.arrayClass .boolean) (by decide +kernel))
  obtain ⟨a4, A4, B4⟩ := arr_k (hts (.arrayClass .byte) (by decide +kernel))
  let dC : Nat → ClassId := fun k => match k with | 0 => c0 | 1 => c1 | 2 => c2 | 3 => c3 | 4 => c4 | 10 => a0 | 11 => a1 | _ => a4
  let dI : Nat → Nat → Nat := fun k => match k with | 0 => i0 | 1 => i1 | 2 => i2 | 3 => i3 | _ => i4
  have hK : va_K (dC, dI) vwCl (tyA (dC, dI)) s := by
    refine ⟨fun k q hq => ?_, fun k q hq => ?_⟩
    · match k, hq with
      | 0, hq => cases hq; exact K0
      | 1, hq => cases hq; exact K1
      | 2, hq => cases hq; exact K2
      | 3, hq => cases hq; exact K3
      | 4, hq => cases hq; exact K4
      | k + 5, hq =>
        have h9 := (List.getElem?_eq_some_iff.mp hq).1
        exact absurd h9 (by show ¬ k + 5 < 5; omega)
    · match k, hq with
      | 0, hq => cases hq; exact ⟨A0, B0⟩
      | 1, hq => cases hq; exact ⟨A1, B1⟩
      | 2, hq => cases hq; exact ⟨A4, B4⟩
      | k + 3, hq =>
        have h9 := (List.getElem?_eq_some_iff.mp hq).1
        exact absurd h9 (by show ¬ k + 3 < 3; omega)
  have DDigitOnes : gxD "DigitOnes" dOnes (fun q => s.heap.size ≤ q) s s.heap := by
    obtain ⟨t, ht, hT⟩ := va_Tof (tm := stD "DigitOnes") (ty := .byte) (N := 100) (f := fun j => .int (dOnes j)) (by decide) (hn (.arrayOf (stD "DigitOnes") .byte) (by decide +kernel)) (va_eqt (hn (.eq (.length (stD "DigitOnes")) (.int (Int32.ofNat 100))) (by decide +kernel))) (fun j hj => va_eqt (hn _ (dg_1 j hj))) hA
    exact ⟨t, va_Zof (hts (.laysStatic "java/lang/Integer" "DigitOnes" "[B") (by decide +kernel)) (hts (.initialized "java/lang/Integer") (by decide +kernel)) ht hA, hT⟩
  have DDigitTens : gxD "DigitTens" dTens (fun q => s.heap.size ≤ q) s s.heap := by
    obtain ⟨t, ht, hT⟩ := va_Tof (tm := stD "DigitTens") (ty := .byte) (N := 100) (f := fun j => .int (dTens j)) (by decide) (hn (.arrayOf (stD "DigitTens") .byte) (by decide +kernel)) (va_eqt (hn (.eq (.length (stD "DigitTens")) (.int (Int32.ofNat 100))) (by decide +kernel))) (fun j hj => va_eqt (hn _ (dg_2 j hj))) hA
    exact ⟨t, va_Zof (hts (.laysStatic "java/lang/Integer" "DigitTens" "[B") (by decide +kernel)) (hts (.initialized "java/lang/Integer") (by decide +kernel)) ht hA, hT⟩
  refine ⟨(dC, dI), hK, vx_Zqof (hts (.laysStatic Bundle.tN "UNASSIGNED_STACK" Bundle.steD) (by decide +kernel)) (hts (.initialized Bundle.tN) (by decide +kernel)) (hn (.isRef (.static Bundle.tN "UNASSIGNED_STACK" Bundle.steD)) (by decide +kernel)) hA, vx_Zqof (hts (.laysStatic Bundle.tN "SUPPRESSED_SENTINEL" Bundle.listD) (by decide +kernel)) (hts (.initialized Bundle.tN) (by decide +kernel)) (hn (.isRef (.static Bundle.tN "SUPPRESSED_SENTINEL" Bundle.listD)) (by decide +kernel)) hA, fun q hq => ?_, ⟨va_Nc.of (hn (.not (.castable eIA eIO)) (by decide +kernel)), va_Nc.of (hn (.not (.castable eIS eIO)) (by decide +kernel)), va_Nc.of (hn (.not (.castable eIS eIA)) (by decide +kernel)), va_Nw.of rfl (hts (.castable eIO eIO) (by decide +kernel)), va_Nw.of rfl (hts (.castable eIA eIA) (by decide +kernel)), va_Nw.of rfl (hts (.castable eIS eIS) (by decide +kernel)), va_Nw.of rfl (hts (.declares (Bundle.initS "java/lang/RuntimeException")) (by decide +kernel)), va_Nw.of rfl (hts (.declares (Bundle.initS "java/lang/Exception")) (by decide +kernel)), va_Nw.of rfl (hts (.declares (Bundle.initS Bundle.tN)) (by decide +kernel))⟩, va_Zof (hts (.laysStatic "java/lang/String" "COMPACT_STRINGS" "Z") (by decide +kernel)) (hts (.initialized "java/lang/String") (by decide +kernel)) (va_eqi (hn (.eq (.static "java/lang/String" "COMPACT_STRINGS" "Z") (.int 1)) (by decide +kernel))) hA, va_Zqof (hts (.laysStatic "jdk/internal/util/Preconditions" "SIOOBE_FORMATTER" "Ljava/util/function/BiFunction;") (by decide +kernel)) (hts (.initialized "jdk/internal/util/Preconditions") (by decide +kernel)) (hn (.isRef (.static "jdk/internal/util/Preconditions" "SIOOBE_FORMATTER" "Ljava/util/function/BiFunction;")) (by decide +kernel)) hA, DDigitOnes, DDigitTens, fun q hq => va_Nw.of rfl (hts _ (nst_1 q hq))⟩
  obtain ⟨a, c, cell, k, h1, -⟩ := Cond.exactly_spec (hn _ (lit_2 q hq))
  exact ⟨a, vk_R.of (hts _ (lit_1 q hq)) h1⟩
