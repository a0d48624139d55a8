set_option maxHeartbeats 4000000 in
set_option maxRecDepth 100000 in
theorem disp_all {p : Program} {e : Env} {s : State} {m : MethodId} {below : List Frame} {meth : Method} {c : Code} (l : Launch) {b : Nat} {xs : Nat → Int32} (D : va_G) (k : Nat → ClassId) (g mo : Nat) (q qm : Nat → Nat) (fi : Nat → Option Nat) (fw : Nat → Int32) {A : Nat → Prop} {cells slots : Nat} (hc1 : cells ≤ 1000) (hc2 : slots ≤ 100000) (C0 : lw_At p s m meth c b 6 xs) (hA : ∀ q, s.heap.size ≤ q → A q) (hbA : ¬ A b) (hAs : ∀ q, A q → s.heap.size ≤ q) (hfi : fi 0 = some (q 46) ∧ fi 1 = some (q 47) ∧ fi 2 = some (q 48)) (hfw : ∀ j, j < 4 → fw j = -1) (hK : va_K D vwCl (tyG k) s) (hN : NX s) {H : Heap} {locs : List Loc} (hP : va_P D vwCl (wAll k g mo q qm fi fw) H) (hD : va_D A (wAll k g mo q qm fi fw)) (hS : va_S A s.heap H locs) {ls : Array Slot} (hl : lv_has ls 4 [(0, .ref b), (1, .ref g), (2, .ref mo), (3, .int 0)]) : W p l e room_1 s m #[Value.ref b] below meth c H locs cells slots (lw_Z below #[Value.ref b] s) (F0 m 18 ls []) := by
  obtain ⟨hx, hb, hr, hml, hown, hts0, hX, hbl, hlocks, hgv⟩ := id C0
  refine lv_iload_n hx hb dL_law_18 rfl (lv_at hl 3 rfl) ?_
  refine lv_aload_n hx hb dL_law_19 rfl (lv_at hl 0 rfl) ?_
  refine va_slen hx hb hX hbl hbA hS dL_law_20 ?_
  refine lv_bipush (v := 6) hx hb dL_law_21 (by decide) ?_
  refine lv_isub hx hb dL_law_23 ?_
  refine lv_icmp_gt (tgt := 1922) hx hb dL_law_24 (by decide) (fun c9 => absurd c9 (by decide)) (fun _ => ?_)
  refine lv_aload_n hx hb dL_law_27 rfl (lv_at hl 0 rfl) ?_
  refine lv_iload_n hx hb dL_law_28 rfl (lv_at hl 3 rfl) ?_
  refine va_sld hx hb hX hbl hbA hS (z_in (by decide) (by decide)) dL_law_29 ?_
  refine lv_bipush (v := 63) hx hb dL_law_30 (by decide) ?_
  refine lv_iand hx hb dL_law_32 ?_
  refine lv_topi (fun y ey => ?_)
  have zy : 0 ≤ y.toInt ∧ y.toInt < 64 := by rw [ey]; exact z_and _ 6 64 rfl rfl (by decide)
  clear ey
  by_cases hy0 : y = 0
  · subst hy0
    refine lv_tableIn (off := 259) (tgt := 292) hx hb dL_law_33 (by decide) (by decide) (by decide) (by decide) ?_
    exact disp_0 l D k g mo q qm fi fw hc1 hc2 C0 hA hbA hAs hfi hfw hK hN hP hD hS hl
  have hy0 : ¬ y.toInt = 0 := z_ne hy0
  by_cases hy1 : y = 1
  · subst hy1
    refine lv_tableIn (off := 322) (tgt := 355) hx hb dL_law_33 (by decide) (by decide) (by decide) (by decide) ?_
    exact disp_1 l D k g mo q qm fi fw hc1 hc2 C0 hA hbA hAs hfi hfw hK hN hP hD hS hl
  have hy1 : ¬ y.toInt = 1 := z_ne hy1
  by_cases hy2 : y = 2
  · subst hy2
    refine lv_tableIn (off := 345) (tgt := 378) hx hb dL_law_33 (by decide) (by decide) (by decide) (by decide) ?_
    exact disp_2 l D k g mo q qm fi fw hc1 hc2 C0 hA hbA hAs hfi hfw hK hN hP hD hS hl
  have hy2 : ¬ y.toInt = 2 := z_ne hy2
  by_cases hy3 : y = 3
  · subst hy3
    refine lv_tableIn (off := 358) (tgt := 391) hx hb dL_law_33 (by decide) (by decide) (by decide) (by decide) ?_
    exact disp_3 l D k g mo q qm fi fw hc1 hc2 C0 hA hbA hAs hfi hfw hK hN hP hD hS hl
  have hy3 : ¬ y.toInt = 3 := z_ne hy3
  by_cases hy4 : y = 4
  · subst hy4
    refine lv_tableIn (off := 381) (tgt := 414) hx hb dL_law_33 (by decide) (by decide) (by decide) (by decide) ?_
    exact disp_4 l D k g mo q qm fi fw hc1 hc2 C0 hA hbA hAs hfi hfw hK hN hP hD hS hl
  have hy4 : ¬ y.toInt = 4 := z_ne hy4
  by_cases hy5 : y = 5
  · subst hy5
    refine lv_tableIn (off := 414) (tgt := 447) hx hb dL_law_33 (by decide) (by decide) (by decide) (by decide) ?_
    exact disp_5 l D k g mo q qm fi fw hc1 hc2 C0 hA hbA hAs hfi hfw hK hN hP hD hS hl
  have hy5 : ¬ y.toInt = 5 := z_ne hy5
  by_cases hy6 : y = 6
  · subst hy6
    refine lv_tableIn (off := 447) (tgt := 480) hx hb dL_law_33 (by decide) (by decide) (by decide) (by decide) ?_
    exact disp_6 l D k g mo q qm fi fw hc1 hc2 C0 hA hbA hAs hfi hfw hK hN hP hD hS hl
  have hy6 : ¬ y.toInt = 6 := z_ne hy6
  by_cases hy7 : y = 7
  · subst hy7
    refine lv_tableIn (off := 480) (tgt := 513) hx hb dL_law_33 (by decide) (by decide) (by decide) (by decide) ?_
    exact disp_7 l D k g mo q qm fi fw hc1 hc2 C0 hA hbA hAs hfi hfw hK hN hP hD hS hl
  have hy7 : ¬ y.toInt = 7 := z_ne hy7
  by_cases hy8 : y = 8
  · subst hy8
    refine lv_tableIn (off := 503) (tgt := 536) hx hb dL_law_33 (by decide) (by decide) (by decide) (by decide) ?_
    exact disp_8 l D k g mo q qm fi fw hc1 hc2 C0 hA hbA hAs hfi hfw hK hN hP hD hS hl
  have hy8 : ¬ y.toInt = 8 := z_ne hy8
  by_cases hy9 : y = 9
  · subst hy9
    refine lv_tableIn (off := 526) (tgt := 559) hx hb dL_law_33 (by decide) (by decide) (by decide) (by decide) ?_
    exact disp_9 l D k g mo q qm fi fw hc1 hc2 C0 hA hbA hAs hfi hfw hK hN hP hD hS hl
  have hy9 : ¬ y.toInt = 9 := z_ne hy9
  by_cases hy10 : y = 10
  · subst hy10
    refine lv_tableIn (off := 549) (tgt := 582) hx hb dL_law_33 (by decide) (by decide) (by decide) (by decide) ?_
    exact disp_10 l D k g mo q qm fi fw hc1 hc2 C0 hA hbA hAs hfi hfw hK hN hP hD hS hl
  have hy10 : ¬ y.toInt = 10 := z_ne hy10
  by_cases hy11 : y = 11
  · subst hy11
    refine lv_tableIn (off := 572) (tgt := 605) hx hb dL_law_33 (by decide) (by decide) (by decide) (by decide) ?_
    exact disp_11 l D k g mo q qm fi fw hc1 hc2 C0 hA hbA hAs hfi hfw hK hN hP hD hS hl
  have hy11 : ¬ y.toInt = 11 := z_ne hy11
  by_cases hy12 : y = 12
  · subst hy12
    refine lv_tableIn (off := 585) (tgt := 618) hx hb dL_law_33 (by decide) (by decide) (by decide) (by decide) ?_
    exact disp_12 l D k g mo q qm fi fw hc1 hc2 C0 hA hbA hAs hfi hfw hK hN hP hD hS hl
  have hy12 : ¬ y.toInt = 12 := z_ne hy12
  by_cases hy13 : y = 13
  · subst hy13
    refine lv_tableIn (off := 598) (tgt := 631) hx hb dL_law_33 (by decide) (by decide) (by decide) (by decide) ?_
    exact disp_13 l D k g mo q qm fi fw hc1 hc2 C0 hA hbA hAs hfi hfw hK hN hP hD hS hl
  have hy13 : ¬ y.toInt = 13 := z_ne hy13
  by_cases hy14 : y = 14
  · subst hy14
    refine lv_tableIn (off := 611) (tgt := 644) hx hb dL_law_33 (by decide) (by decide) (by decide) (by decide) ?_
    exact disp_14 l D k g mo q qm fi fw hc1 hc2 C0 hA hbA hAs hfi hfw hK hN hP hD hS hl
  have hy14 : ¬ y.toInt = 14 := z_ne hy14
  by_cases hy15 : y = 15
  · subst hy15
    refine lv_tableIn (off := 634) (tgt := 667) hx hb dL_law_33 (by decide) (by decide) (by decide) (by decide) ?_
    exact disp_15 l D k g mo q qm fi fw hc1 hc2 C0 hA hbA hAs hfi hfw hK hN hP hD hS hl
  have hy15 : ¬ y.toInt = 15 := z_ne hy15
  by_cases hy16 : y = 16
  · subst hy16
    refine lv_tableIn (off := 657) (tgt := 690) hx hb dL_law_33 (by decide) (by decide) (by decide) (by decide) ?_
    exact disp_16 l D k g mo q qm fi fw hc1 hc2 C0 hA hbA hAs hfi hfw hK hN hP hD hS hl
  have hy16 : ¬ y.toInt = 16 := z_ne hy16
  by_cases hy17 : y = 17
  · subst hy17
    refine lv_tableIn (off := 680) (tgt := 713) hx hb dL_law_33 (by decide) (by decide) (by decide) (by decide) ?_
    exact disp_17 l D k g mo q qm fi fw hc1 hc2 C0 hA hbA hAs hfi hfw hK hN hP hD hS hl
  have hy17 : ¬ y.toInt = 17 := z_ne hy17
  by_cases hy18 : y = 18
  · subst hy18
    refine lv_tableIn (off := 693) (tgt := 726) hx hb dL_law_33 (by decide) (by decide) (by decide) (by decide) ?_
    exact disp_18 l D k g mo q qm fi fw hc1 hc2 C0 hA hbA hAs hfi hfw hK hN hP hD hS hl
  have hy18 : ¬ y.toInt = 18 := z_ne hy18
  by_cases hy19 : y = 19
  · subst hy19
    refine lv_tableIn (off := 716) (tgt := 749) hx hb dL_law_33 (by decide) (by decide) (by decide) (by decide) ?_
    exact disp_19 l D k g mo q qm fi fw hc1 hc2 C0 hA hbA hAs hfi hfw hK hN hP hD hS hl
  have hy19 : ¬ y.toInt = 19 := z_ne hy19
  by_cases hy20 : y = 20
  · subst hy20
    refine lv_tableIn (off := 739) (tgt := 772) hx hb dL_law_33 (by decide) (by decide) (by decide) (by decide) ?_
    exact disp_20 l D k g mo q qm fi fw hc1 hc2 C0 hA hbA hAs hfi hfw hK hN hP hD hS hl
  have hy20 : ¬ y.toInt = 20 := z_ne hy20
  by_cases hy21 : y = 21
  · subst hy21
    refine lv_tableIn (off := 752) (tgt := 785) hx hb dL_law_33 (by decide) (by decide) (by decide) (by decide) ?_
    exact disp_21 l D k g mo q qm fi fw hc1 hc2 C0 hA hbA hAs hfi hfw hK hN hP hD hS hl
  have hy21 : ¬ y.toInt = 21 := z_ne hy21
  by_cases hy22 : y = 22
  · subst hy22
    refine lv_tableIn (off := 775) (tgt := 808) hx hb dL_law_33 (by decide) (by decide) (by decide) (by decide) ?_
    exact disp_22 l D k g mo q qm fi fw hc1 hc2 C0 hA hbA hAs hfi hfw hK hN hP hD hS hl
  have hy22 : ¬ y.toInt = 22 := z_ne hy22
  by_cases hy23 : y = 23
  · subst hy23
    refine lv_tableIn (off := 798) (tgt := 831) hx hb dL_law_33 (by decide) (by decide) (by decide) (by decide) ?_
    exact disp_23 l D k g mo q qm fi fw hc1 hc2 C0 hA hbA hAs hfi hfw hK hN hP hD hS hl
  have hy23 : ¬ y.toInt = 23 := z_ne hy23
  by_cases hy24 : y = 24
  · subst hy24
    refine lv_tableIn (off := 811) (tgt := 844) hx hb dL_law_33 (by decide) (by decide) (by decide) (by decide) ?_
    exact disp_24 l D k g mo q qm fi fw hc1 hc2 C0 hA hbA hAs hfi hfw hK hN hP hD hS hl
  have hy24 : ¬ y.toInt = 24 := z_ne hy24
  by_cases hy25 : y = 25
  · subst hy25
    refine lv_tableIn (off := 834) (tgt := 867) hx hb dL_law_33 (by decide) (by decide) (by decide) (by decide) ?_
    exact disp_25 l D k g mo q qm fi fw hc1 hc2 C0 hA hbA hAs hfi hfw hK hN hP hD hS hl
  have hy25 : ¬ y.toInt = 25 := z_ne hy25
  by_cases hy26 : y = 26
  · subst hy26
    refine lv_tableIn (off := 857) (tgt := 890) hx hb dL_law_33 (by decide) (by decide) (by decide) (by decide) ?_
    exact disp_26 l D k g mo q qm fi fw hc1 hc2 C0 hA hbA hAs hfi hfw hK hN hP hD hS hl
  have hy26 : ¬ y.toInt = 26 := z_ne hy26
  by_cases hy27 : y = 27
  · subst hy27
    refine lv_tableIn (off := 880) (tgt := 913) hx hb dL_law_33 (by decide) (by decide) (by decide) (by decide) ?_
    exact disp_27 l D k g mo q qm fi fw hc1 hc2 C0 hA hbA hAs hfi hfw hK hN hP hD hS hl
  have hy27 : ¬ y.toInt = 27 := z_ne hy27
  by_cases hy28 : y = 28
  · subst hy28
    refine lv_tableIn (off := 913) (tgt := 946) hx hb dL_law_33 (by decide) (by decide) (by decide) (by decide) ?_
    exact disp_28 l D k g mo q qm fi fw hc1 hc2 C0 hA hbA hAs hfi hfw hK hN hP hD hS hl
  have hy28 : ¬ y.toInt = 28 := z_ne hy28
  by_cases hy29 : y = 29
  · subst hy29
    refine lv_tableIn (off := 946) (tgt := 979) hx hb dL_law_33 (by decide) (by decide) (by decide) (by decide) ?_
    exact disp_29 l D k g mo q qm fi fw hc1 hc2 C0 hA hbA hAs hfi hfw hK hN hP hD hS hl
  have hy29 : ¬ y.toInt = 29 := z_ne hy29
  by_cases hy30 : y = 30
  · subst hy30
    refine lv_tableIn (off := 989) (tgt := 1022) hx hb dL_law_33 (by decide) (by decide) (by decide) (by decide) ?_
    exact disp_30 l D k g mo q qm fi fw hc1 hc2 C0 hA hbA hAs hfi hfw hK hN hP hD hS hl
  have hy30 : ¬ y.toInt = 30 := z_ne hy30
  by_cases hy31 : y = 31
  · subst hy31
    refine lv_tableIn (off := 1012) (tgt := 1045) hx hb dL_law_33 (by decide) (by decide) (by decide) (by decide) ?_
    exact disp_31 l D k g mo q qm fi fw hc1 hc2 C0 hA hbA hAs hfi hfw hK hN hP hD hS hl
  have hy31 : ¬ y.toInt = 31 := z_ne hy31
  by_cases hy32 : y = 32
  · subst hy32
    refine lv_tableIn (off := 1035) (tgt := 1068) hx hb dL_law_33 (by decide) (by decide) (by decide) (by decide) ?_
    exact disp_32 l D k g mo q qm fi fw hc1 hc2 C0 hA hbA hAs hfi hfw hK hN hP hD hS hl
  have hy32 : ¬ y.toInt = 32 := z_ne hy32
  by_cases hy33 : y = 33
  · subst hy33
    refine lv_tableIn (off := 1058) (tgt := 1091) hx hb dL_law_33 (by decide) (by decide) (by decide) (by decide) ?_
    exact disp_33 l D k g mo q qm fi fw hc1 hc2 C0 hA hbA hAs hfi hfw hK hN hP hD hS hl
  have hy33 : ¬ y.toInt = 33 := z_ne hy33
  by_cases hy34 : y = 34
  · subst hy34
    refine lv_tableIn (off := 1081) (tgt := 1114) hx hb dL_law_33 (by decide) (by decide) (by decide) (by decide) ?_
    exact disp_34 l D k g mo q qm fi fw hc1 hc2 C0 hA hbA hAs hfi hfw hK hN hP hD hS hl
  have hy34 : ¬ y.toInt = 34 := z_ne hy34
  by_cases hy35 : y = 35
  · subst hy35
    refine lv_tableIn (off := 1114) (tgt := 1147) hx hb dL_law_33 (by decide) (by decide) (by decide) (by decide) ?_
    exact disp_35 l D k g mo q qm fi fw hc1 hc2 C0 hA hbA hAs hfi hfw hK hN hP hD hS hl
  have hy35 : ¬ y.toInt = 35 := z_ne hy35
  by_cases hy36 : y = 36
  · subst hy36
    refine lv_tableIn (off := 1137) (tgt := 1170) hx hb dL_law_33 (by decide) (by decide) (by decide) (by decide) ?_
    exact disp_36 l D k g mo q qm fi fw hc1 hc2 C0 hA hbA hAs hfi hfw hK hN hP hD hS hl
  have hy36 : ¬ y.toInt = 36 := z_ne hy36
  by_cases hy37 : y = 37
  · subst hy37
    refine lv_tableIn (off := 1160) (tgt := 1193) hx hb dL_law_33 (by decide) (by decide) (by decide) (by decide) ?_
    exact disp_37 l D k g mo q qm fi fw hc1 hc2 C0 hA hbA hAs hfi hfw hK hN hP hD hS hl
  have hy37 : ¬ y.toInt = 37 := z_ne hy37
  by_cases hy38 : y = 38
  · subst hy38
    refine lv_tableIn (off := 1183) (tgt := 1216) hx hb dL_law_33 (by decide) (by decide) (by decide) (by decide) ?_
    exact disp_38 l D k g mo q qm fi fw hc1 hc2 C0 hA hbA hAs hfi hfw hK hN hP hD hS hl
  have hy38 : ¬ y.toInt = 38 := z_ne hy38
  by_cases hy39 : y = 39
  · subst hy39
    refine lv_tableIn (off := 1206) (tgt := 1239) hx hb dL_law_33 (by decide) (by decide) (by decide) (by decide) ?_
    exact disp_39 l D k g mo q qm fi fw hc1 hc2 C0 hA hbA hAs hfi hfw hK hN hP hD hS hl
  have hy39 : ¬ y.toInt = 39 := z_ne hy39
  by_cases hy40 : y = 40
  · subst hy40
    refine lv_tableIn (off := 1229) (tgt := 1262) hx hb dL_law_33 (by decide) (by decide) (by decide) (by decide) ?_
    exact disp_40 l D k g mo q qm fi fw hc1 hc2 C0 hA hbA hAs hfi hfw hK hN hP hD hS hl
  have hy40 : ¬ y.toInt = 40 := z_ne hy40
  by_cases hy41 : y = 41
  · subst hy41
    refine lv_tableIn (off := 1252) (tgt := 1285) hx hb dL_law_33 (by decide) (by decide) (by decide) (by decide) ?_
    exact disp_41 l D k g mo q qm fi fw hc1 hc2 C0 hA hbA hAs hfi hfw hK hN hP hD hS hl
  have hy41 : ¬ y.toInt = 41 := z_ne hy41
  by_cases hy42 : y = 42
  · subst hy42
    refine lv_tableIn (off := 1285) (tgt := 1318) hx hb dL_law_33 (by decide) (by decide) (by decide) (by decide) ?_
    exact disp_42 l D k g mo q qm fi fw hc1 hc2 C0 hA hbA hAs hfi hfw hK hN hP hD hS hl
  have hy42 : ¬ y.toInt = 42 := z_ne hy42
  by_cases hy43 : y = 43
  · subst hy43
    refine lv_tableIn (off := 1298) (tgt := 1331) hx hb dL_law_33 (by decide) (by decide) (by decide) (by decide) ?_
    exact disp_43 l D k g mo q qm fi fw hc1 hc2 C0 hA hbA hAs hfi hfw hK hN hP hD hS hl
  have hy43 : ¬ y.toInt = 43 := z_ne hy43
  by_cases hy44 : y = 44
  · subst hy44
    refine lv_tableIn (off := 1311) (tgt := 1344) hx hb dL_law_33 (by decide) (by decide) (by decide) (by decide) ?_
    exact disp_44 l D k g mo q qm fi fw hc1 hc2 C0 hA hbA hAs hfi hfw hK hN hP hD hS hl
  have hy44 : ¬ y.toInt = 44 := z_ne hy44
  by_cases hy45 : y = 45
  · subst hy45
    refine lv_tableIn (off := 1324) (tgt := 1357) hx hb dL_law_33 (by decide) (by decide) (by decide) (by decide) ?_
    exact disp_45 l D k g mo q qm fi fw hc1 hc2 C0 hA hbA hAs hfi hfw hK hN hP hD hS hl
  have hy45 : ¬ y.toInt = 45 := z_ne hy45
  by_cases hy46 : y = 46
  · subst hy46
    refine lv_tableIn (off := 1337) (tgt := 1370) hx hb dL_law_33 (by decide) (by decide) (by decide) (by decide) ?_
    exact disp_46 l D k g mo q qm fi fw hc1 hc2 C0 hA hbA hAs hfi hfw hK hN hP hD hS hl
  have hy46 : ¬ y.toInt = 46 := z_ne hy46
  by_cases hy47 : y = 47
  · subst hy47
    refine lv_tableIn (off := 1381) (tgt := 1414) hx hb dL_law_33 (by decide) (by decide) (by decide) (by decide) ?_
    exact disp_47 l D k g mo q qm fi fw hc1 hc2 C0 hA hbA hAs hfi hfw hK hN hP hD hS hl
  have hy47 : ¬ y.toInt = 47 := z_ne hy47
  by_cases hy48 : y = 48
  · subst hy48
    refine lv_tableIn (off := 1414) (tgt := 1447) hx hb dL_law_33 (by decide) (by decide) (by decide) (by decide) ?_
    exact disp_48 l D k g mo q qm fi fw hc1 hc2 C0 hA hbA hAs hfi hfw hK hN hP hD hS hl
  have hy48 : ¬ y.toInt = 48 := z_ne hy48
  by_cases hy49 : y = 49
  · subst hy49
    refine lv_tableIn (off := 1447) (tgt := 1480) hx hb dL_law_33 (by decide) (by decide) (by decide) (by decide) ?_
    exact disp_49 l D k g mo q qm fi fw hc1 hc2 C0 hA hbA hAs hfi hfw hK hN hP hD hS hl
  have hy49 : ¬ y.toInt = 49 := z_ne hy49
  by_cases hy50 : y = 50
  · subst hy50
    refine lv_tableIn (off := 1480) (tgt := 1513) hx hb dL_law_33 (by decide) (by decide) (by decide) (by decide) ?_
    exact disp_50 l D k g mo q qm fi fw hc1 hc2 C0 hA hbA hAs hfi hfw hK hN hP hD hS hl
  have hy50 : ¬ y.toInt = 50 := z_ne hy50
  by_cases hy51 : y = 51
  · subst hy51
    refine lv_tableIn (off := 1493) (tgt := 1526) hx hb dL_law_33 (by decide) (by decide) (by decide) (by decide) ?_
    exact disp_51 l D k g mo q qm fi fw hc1 hc2 C0 hA hbA hAs hfi hfw hK hN hP hD hS hl
  have hy51 : ¬ y.toInt = 51 := z_ne hy51
  by_cases hy52 : y = 52
  · subst hy52
    refine lv_tableIn (off := 1506) (tgt := 1539) hx hb dL_law_33 (by decide) (by decide) (by decide) (by decide) ?_
    exact disp_52 l D k g mo q qm fi fw hc1 hc2 C0 hA hbA hAs hfi hfw hK hN hP hD hS hl
  have hy52 : ¬ y.toInt = 52 := z_ne hy52
  by_cases hy53 : y = 53
  · subst hy53
    refine lv_tableIn (off := 1539) (tgt := 1572) hx hb dL_law_33 (by decide) (by decide) (by decide) (by decide) ?_
    exact disp_53 l D k g mo q qm fi fw hc1 hc2 C0 hA hbA hAs hfi hfw hK hN hP hD hS hl
  have hy53 : ¬ y.toInt = 53 := z_ne hy53
  by_cases hy54 : y = 54
  · subst hy54
    refine lv_tableIn (off := 1592) (tgt := 1625) hx hb dL_law_33 (by decide) (by decide) (by decide) (by decide) ?_
    exact disp_54 l D k g mo q qm fi fw hc1 hc2 C0 hA hbA hAs hfi hfw hK hN hP hD hS hl
  have hy54 : ¬ y.toInt = 54 := z_ne hy54
  by_cases hy55 : y = 55
  · subst hy55
    refine lv_tableIn (off := 1635) (tgt := 1668) hx hb dL_law_33 (by decide) (by decide) (by decide) (by decide) ?_
    exact disp_55 l D k g mo q qm fi fw hc1 hc2 C0 hA hbA hAs hfi hfw hK hN hP hD hS hl
  have hy55 : ¬ y.toInt = 55 := z_ne hy55
  by_cases hy56 : y = 56
  · subst hy56
    refine lv_tableIn (off := 1658) (tgt := 1691) hx hb dL_law_33 (by decide) (by decide) (by decide) (by decide) ?_
    exact disp_56 l D k g mo q qm fi fw hc1 hc2 C0 hA hbA hAs hfi hfw hK hN hP hD hS hl
  have hy56 : ¬ y.toInt = 56 := z_ne hy56
  by_cases hy57 : y = 57
  · subst hy57
    refine lv_tableIn (off := 1681) (tgt := 1714) hx hb dL_law_33 (by decide) (by decide) (by decide) (by decide) ?_
    exact disp_57 l D k g mo q qm fi fw hc1 hc2 C0 hA hbA hAs hfi hfw hK hN hP hD hS hl
  have hy57 : ¬ y.toInt = 57 := z_ne hy57
  by_cases hy58 : y = 58
  · subst hy58
    refine lv_tableIn (off := 1704) (tgt := 1737) hx hb dL_law_33 (by decide) (by decide) (by decide) (by decide) ?_
    exact disp_58 l D k g mo q qm fi fw hc1 hc2 C0 hA hbA hAs hfi hfw hK hN hP hD hS hl
  have hy58 : ¬ y.toInt = 58 := z_ne hy58
  by_cases hy59 : y = 59
  · subst hy59
    refine lv_tableIn (off := 1747) (tgt := 1780) hx hb dL_law_33 (by decide) (by decide) (by decide) (by decide) ?_
    exact disp_59 l D k g mo q qm fi fw hc1 hc2 C0 hA hbA hAs hfi hfw hK hN hP hD hS hl
  have hy59 : ¬ y.toInt = 59 := z_ne hy59
  by_cases hy60 : y = 60
  · subst hy60
    refine lv_tableIn (off := 1820) (tgt := 1853) hx hb dL_law_33 (by decide) (by decide) (by decide) (by decide) ?_
    exact disp_60 l D k g mo q qm fi fw hc1 hc2 C0 hA hbA hAs hfi hfw hK hN hP hD hS hl
  have hy60 : ¬ y.toInt = 60 := z_ne hy60
  refine lv_tableOut (tgt := 1916) hx hb dL_law_33 (by omega) (by decide) ?_
  exact law_end l C0 hA hbA hAs hS (lv_sub hl [0, 3] rfl) (Nat.le_trans hc1 (by decide)) (Nat.le_trans hc2 (by decide))
