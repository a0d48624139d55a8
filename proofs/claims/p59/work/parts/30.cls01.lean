set_option maxHeartbeats 4000000 in
set_option maxRecDepth 100000 in
theorem c_X2_tellingStreet (l : Launch) (D : va_G) (k : Nat → ClassId) (ob : Nat) (tn : Nat) (obv0 : Int32) (obb : Nat) (ob_2 : Nat) (ob_3 : Nat) (ob_4 : Nat) (ob_5 : Nat) (obg2 : Nat → Int32) (obg3 : Nat → Int32) (obg4 : Nat → Int32) (obg5 : Nat → Int32) (tnv0 : Int32) (tnv1 : Int32) (tnv2 : Int32) (tn_3 : Nat) (tn_4 : Nat) (tn_5 : Nat) (tn_6 : Nat) (tnv7 : Int32) (tnv8 : Int32) (tn_9 : Nat) (tn_10 : Nat) (tnv11 : Int32) (tn_12 : Nat) (tn_13 : Nat) (tn_14 : Nat) (tn_15 : Nat) (tnv16 : Int32) (tn_17 : Nat) (tn_18 : Nat) (tnt : Nat) (sz : Nat) (hp_obg2_0 : PR 32 1 0 0 1000000 obg2) (hp_obg3_0 : PR 32 1 0 0 1000000 obg3) (h_tnv0 : 0 ≤ tnv0.toInt ∧ tnv0.toInt ≤ 8) (h_tnv2 : 0 ≤ tnv2.toInt ∧ tnv2.toInt ≤ 10) (h_tnv8 : 0 ≤ tnv8.toInt ∧ tnv8.toInt ≤ 4) (h_tnv11 : 0 ≤ tnv11.toInt ∧ tnv11.toInt ≤ 6) (h_tnv16 : 0 ≤ tnv16.toInt ∧ tnv16.toInt ≤ 2) : Met l yX2_tellingStreet (ww yX2_tellingStreet cX2_tellingStreet 6 (some .int)) ({ frames := 3, cells := 0, slots := 0, locals := 70 }) (Pre0 D k [(ob, .inr (2, [.int obv0, .ref obb, .ref ob_2, .ref ob_3, .ref ob_4, .ref ob_5])), (ob_2, .inl (k 0, 32, .inl obg2)), (ob_3, .inl (k 0, 32, .inl obg3)), (ob_4, .inl (k 3, 400, .inl obg4)), (ob_5, .inl (k 0, 1001, .inl obg5)), (tn, .inr (10, [.int tnv0, .int tnv1, .int tnv2, .ref tn_3, .ref tn_4, .ref tn_5, .ref tn_6, .int tnv7, .int tnv8, .ref tn_9, .ref tn_10, .int tnv11, .ref tn_12, .ref tn_13, .ref tn_14, .ref tn_15, .int tnv16, .ref tn_17, .ref tn_18, .ref tnt]))] sz [.ref ob, .ref tn]) (va_Qi (fun (r : Int32) (obg5z : (Nat → Int32)) => ((-1) ≤ r.toInt ∧ r.toInt ≤ 7)) (fun (obg5z : (Nat → Int32)) tZ => Bw D k (va_A [(ob, .inr (2, [.int obv0, .ref obb, .ref ob_2, .ref ob_3, .ref ob_4, .ref ob_5])), (ob_2, .inl (k 0, 32, .inl obg2)), (ob_3, .inl (k 0, 32, .inl obg3)), (ob_4, .inl (k 3, 400, .inl obg4)), (ob_5, .inl (k 0, 1001, .inl obg5)), (tn, .inr (10, [.int tnv0, .int tnv1, .int tnv2, .ref tn_3, .ref tn_4, .ref tn_5, .ref tn_6, .int tnv7, .int tnv8, .ref tn_9, .ref tn_10, .int tnv11, .ref tn_12, .ref tn_13, .ref tn_14, .ref tn_15, .int tnv16, .ref tn_17, .ref tn_18, .ref tnt]))] sz) [(ob, .inr (2, [.int obv0, .ref obb, .ref ob_2, .ref ob_3, .ref ob_4, .ref ob_5])), (ob_2, .inl (k 0, 32, .inl obg2)), (ob_3, .inl (k 0, 32, .inl obg3)), (ob_4, .inl (k 3, 400, .inl obg4)), (ob_5, .inl (k 0, 1001, .inl obg5z)), (tn, .inr (10, [.int tnv0, .int tnv1, .int tnv2, .ref tn_3, .ref tn_4, .ref tn_5, .ref tn_6, .int tnv7, .int tnv8, .ref tn_9, .ref tn_10, .int tnv11, .ref tn_12, .ref tn_13, .ref tn_14, .ref tn_15, .int tnv16, .ref tn_17, .ref tn_18, .ref tnt]))] tZ) (va_A [(ob, .inr (2, [.int obv0, .ref obb, .ref ob_2, .ref ob_3, .ref ob_4, .ref ob_5])), (ob_2, .inl (k 0, 32, .inl obg2)), (ob_3, .inl (k 0, 32, .inl obg3)), (ob_4, .inl (k 3, 400, .inl obg4)), (ob_5, .inl (k 0, 1001, .inl obg5)), (tn, .inr (10, [.int tnv0, .int tnv1, .int tnv2, .ref tn_3, .ref tn_4, .ref tn_5, .ref tn_6, .int tnv7, .int tnv8, .ref tn_9, .ref tn_10, .int tnv11, .ref tn_12, .ref tn_13, .ref tn_14, .ref tn_15, .int tnv16, .ref tn_17, .ref tn_18, .ref tnt]))] sz)) 0 0 (va_A [(ob, .inr (2, [.int obv0, .ref obb, .ref ob_2, .ref ob_3, .ref ob_4, .ref ob_5])), (ob_2, .inl (k 0, 32, .inl obg2)), (ob_3, .inl (k 0, 32, .inl obg3)), (ob_4, .inl (k 3, 400, .inl obg4)), (ob_5, .inl (k 0, 1001, .inl obg5)), (tn, .inr (10, [.int tnv0, .int tnv1, .int tnv2, .ref tn_3, .ref tn_4, .ref tn_5, .ref tn_6, .int tnv7, .int tnv8, .ref tn_9, .ref tn_10, .int tnv11, .ref tn_12, .ref tn_13, .ref tn_14, .ref tn_15, .int tnv16, .ref tn_17, .ref tn_18, .ref tnt]))] sz) := by
  refine Met.ofW (cc := cX2_tellingStreet) (maxL := 6) (ret := (some .int)) (by decide +kernel) rfl ?_
  intro p e s m args below meth c s₁ B hml hv
  obtain ⟨rfl, hsz, hP, hK, hD0, hN⟩ := hv
  have hx := B.exec
  have hb := B.bytes
  have hr := B.returns
  have hts : ∀ w ∈ TT, w.before _ s = true := fun w h => atoms_spec (ws := ww yX2_tellingStreet cX2_tellingStreet 6 (some .int)) B.pre w (List.mem_cons_of_mem _ h)
  have hown : s.vm.findClass RX2 = some m.cls := findClass_of_methodNamed B.named
  have hlocks := B.notSynchronized
  subst hsz
  have hD := hD0.self (sz := s.heap.size)
  generalize hAe : va_A [(ob, .inr (2, [.int obv0, .ref obb, .ref ob_2, .ref ob_3, .ref ob_4, .ref ob_5])), (ob_2, .inl (k 0, 32, .inl obg2)), (ob_3, .inl (k 0, 32, .inl obg3)), (ob_4, .inl (k 3, 400, .inl obg4)), (ob_5, .inl (k 0, 1001, .inl obg5)), (tn, .inr (10, [.int tnv0, .int tnv1, .int tnv2, .ref tn_3, .ref tn_4, .ref tn_5, .ref tn_6, .int tnv7, .int tnv8, .ref tn_9, .ref tn_10, .int tnv11, .ref tn_12, .ref tn_13, .ref tn_14, .ref tn_15, .int tnv16, .ref tn_17, .ref tn_18, .ref tnt]))] s.heap.size = A at hD ⊢
  have hA : ∀ q : Nat, s.heap.size ≤ q → A q := fun q h => by rw [← hAe]; exact Or.inr h
  have hS : va_S A s.heap s.heap [] := va_S.rf
  have hl := lv_entry ([.ref ob, .ref tn]) (n := 6) (Nat.le_of_ble_eq_true rfl)
  rw [lg_entry_eq]
  generalize (lg_sl ([.ref ob, .ref tn]) ++ List.replicate (6 - (lg_sl ([.ref ob, .ref tn])).length) Slot.unset).toArray = ls at hl ⊢
  have hl : lv_has ls 6 [(0, .ref ob), (1, .ref tn)] := hl
  refine lv_iconst (v := (-1)) hx hb dX2_tellingStreet_0 (by decide) ?_
  refine lv_istore_n (lv' := [(2, .int (-1)), (0, .ref ob), (1, .ref tn)]) hx hb dX2_tellingStreet_1 rfl hl (by decide) rfl (fun ls hl => ?_)
  refine lv_aload_n hx hb dX2_tellingStreet_2 rfl (lv_at hl 1 rfl) ?_
  refine va_get (D := D) (ci := 2) (v := .int obv0) (C := RX2) (T := TX2) (N := 6) hx hb hts iT_X2 hown hK hP 0 rfl rfl 0 (by decide) (hts _ tw_2_96) (fun _ h9 => h9) rfl dX2_tellingStreet_3 ?_
  refine lv_istore_n (lv' := [(3, .int obv0), (2, .int (-1)), (0, .ref ob), (1, .ref tn)]) hx hb dX2_tellingStreet_6 rfl hl (by decide) rfl (fun ls hl => ?_)
  refine lv_iconst (v := 0) hx hb dX2_tellingStreet_7 (by decide) ?_
  refine lv_istore (lv' := [(4, .int 0), (3, .int obv0), (2, .int (-1)), (0, .ref ob), (1, .ref tn)]) hx hb dX2_tellingStreet_8 hl (by decide) rfl (fun ls hl => ?_)
  refine loop_r (Wg := fun H locs ls => W p l e _ s m _ below meth c H locs _ _ _ (F0 m 10 ls [])) (fun n9 H locs ls => ∃ (L10l2 : Int32) (L10l3 : Int32) (L10l4 : Int32) (L10a4 : Nat → Int32), n9 = (8 - L10l4.toInt).toNat ∧ ((-1) ≤ L10l2.toInt ∧ L10l2.toInt ≤ 7) ∧ (0 ≤ L10l4.toInt ∧ L10l4.toInt ≤ 8) ∧ va_P D vwCl [(ob, .inr (2, [.int obv0, .ref obb, .ref ob_2, .ref ob_3, .ref ob_4, .ref ob_5])), (ob_2, .inl (k 0, 32, .inl obg2)), (ob_3, .inl (k 0, 32, .inl obg3)), (ob_4, .inl (k 3, 400, .inl obg4)), (ob_5, .inl (k 0, 1001, .inl L10a4)), (tn, .inr (10, [.int tnv0, .int tnv1, .int tnv2, .ref tn_3, .ref tn_4, .ref tn_5, .ref tn_6, .int tnv7, .int tnv8, .ref tn_9, .ref tn_10, .int tnv11, .ref tn_12, .ref tn_13, .ref tn_14, .ref tn_15, .int tnv16, .ref tn_17, .ref tn_18, .ref tnt]))] H ∧ va_D A [(ob, .inr (2, [.int obv0, .ref obb, .ref ob_2, .ref ob_3, .ref ob_4, .ref ob_5])), (ob_2, .inl (k 0, 32, .inl obg2)), (ob_3, .inl (k 0, 32, .inl obg3)), (ob_4, .inl (k 3, 400, .inl obg4)), (ob_5, .inl (k 0, 1001, .inl L10a4)), (tn, .inr (10, [.int tnv0, .int tnv1, .int tnv2, .ref tn_3, .ref tn_4, .ref tn_5, .ref tn_6, .int tnv7, .int tnv8, .ref tn_9, .ref tn_10, .int tnv11, .ref tn_12, .ref tn_13, .ref tn_14, .ref tn_15, .int tnv16, .ref tn_17, .ref tn_18, .ref tnt]))] ∧ va_S A s.heap H locs ∧ lv_has ls 6 [(0, .ref ob), (1, .ref tn), (2, .int L10l2), (3, .int L10l3), (4, .int L10l4)]) (fun n9 H locs ls hI ih_1 => ?_) _ _ _ _ ⟨(-1), obv0, 0, obg5, rfl, (show (-1) ≤ (-1) ∧ (-1) ≤ 7 from by omega), (show 0 ≤ 0 ∧ 0 ≤ 8 from by omega), hP.sub (ws' := [(ob, .inr (2, [.int obv0, .ref obb, .ref ob_2, .ref ob_3, .ref ob_4, .ref ob_5])), (ob_2, .inl (k 0, 32, .inl obg2)), (ob_3, .inl (k 0, 32, .inl obg3)), (ob_4, .inl (k 3, 400, .inl obg4)), (ob_5, .inl (k 0, 1001, .inl obg5)), (tn, .inr (10, [.int tnv0, .int tnv1, .int tnv2, .ref tn_3, .ref tn_4, .ref tn_5, .ref tn_6, .int tnv7, .int tnv8, .ref tn_9, .ref tn_10, .int tnv11, .ref tn_12, .ref tn_13, .ref tn_14, .ref tn_15, .int tnv16, .ref tn_17, .ref tn_18, .ref tnt]))]) [0, 1, 2, 3, 4, 5] rfl, hD.sub (ws' := [(ob, .inr (2, [.int obv0, .ref obb, .ref ob_2, .ref ob_3, .ref ob_4, .ref ob_5])), (ob_2, .inl (k 0, 32, .inl obg2)), (ob_3, .inl (k 0, 32, .inl obg3)), (ob_4, .inl (k 3, 400, .inl obg4)), (ob_5, .inl (k 0, 1001, .inl obg5)), (tn, .inr (10, [.int tnv0, .int tnv1, .int tnv2, .ref tn_3, .ref tn_4, .ref tn_5, .ref tn_6, .int tnv7, .int tnv8, .ref tn_9, .ref tn_10, .int tnv11, .ref tn_12, .ref tn_13, .ref tn_14, .ref tn_15, .int tnv16, .ref tn_17, .ref tn_18, .ref tnt]))]) [0, 1, 2, 3, 4, 5] (by decide) rfl, hS, lv_sub hl [3, 4, 2, 1, 0] rfl⟩
  clear hP hD hS hl
  obtain ⟨L10l2, L10l3, L10l4, L10a4, en_2, zL10l2, zL10l4, hP, hD, hS, hl⟩ := hI
  refine lv_iload hx hb dX2_tellingStreet_10 (lv_at hl 4 rfl) ?_
  refine lv_aload_n hx hb dX2_tellingStreet_12 rfl (lv_at hl 1 rfl) ?_
  refine va_get (D := D) (ci := 10) (v := .int tnv0) (C := RX10) (T := TX10) (N := 20) hx hb hts iT_X10 hown hK hP 5 rfl rfl 0 (by decide) (hts _ tw_1_72) (fun _ h9 => h9) rfl dX2_tellingStreet_13 ?_
  refine lv_icmp_ge (tgt := 46) hx hb dX2_tellingStreet_16 (by decide) (fun h_3 => ?_) (fun h_3 => ?_)
  · skip
    have zh_3 : tnv0.toInt ≤ L10l4.toInt := z_le h_3
    refine lv_iload_n hx hb dX2_tellingStreet_46 rfl (lv_at hl 2 rfl) ?_
    have hP9 := hP.sub (ws' := [(ob, .inr (2, [.int obv0, .ref obb, .ref ob_2, .ref ob_3, .ref ob_4, .ref ob_5])), (ob_2, .inl (k 0, 32, .inl obg2)), (ob_3, .inl (k 0, 32, .inl obg3)), (ob_4, .inl (k 3, 400, .inl obg4)), (ob_5, .inl (k 0, 1001, .inl L10a4)), (tn, .inr (10, [.int tnv0, .int tnv1, .int tnv2, .ref tn_3, .ref tn_4, .ref tn_5, .ref tn_6, .int tnv7, .int tnv8, .ref tn_9, .ref tn_10, .int tnv11, .ref tn_12, .ref tn_13, .ref tn_14, .ref tn_15, .int tnv16, .ref tn_17, .ref tn_18, .ref tnt]))]) [0, 1, 2, 3, 4, 5] rfl
    have hD9 := hD.sub (ws' := [(ob, .inr (2, [.int obv0, .ref obb, .ref ob_2, .ref ob_3, .ref ob_4, .ref ob_5])), (ob_2, .inl (k 0, 32, .inl obg2)), (ob_3, .inl (k 0, 32, .inl obg3)), (ob_4, .inl (k 3, 400, .inl obg4)), (ob_5, .inl (k 0, 1001, .inl L10a4)), (tn, .inr (10, [.int tnv0, .int tnv1, .int tnv2, .ref tn_3, .ref tn_4, .ref tn_5, .ref tn_6, .int tnv7, .int tnv8, .ref tn_9, .ref tn_10, .int tnv11, .ref tn_12, .ref tn_13, .ref tn_14, .ref tn_15, .int tnv16, .ref tn_17, .ref tn_18, .ref tnt]))]) [0, 1, 2, 3, 4, 5] (by decide) rfl
    exact W.iret (v := L10l2) hx hb hr (fun tZ ht hW => ⟨⟨L10l2, L10a4, rfl, (show (-1) ≤ L10l2.toInt ∧ L10l2.toInt ≤ 7 from by omega), by rw [ht]; exact hP9, va_K.moved hW.alike hK, hD9⟩, hS.F ht⟩) hS.2.2 dX2_tellingStreet_47
  · skip
    have zh_3 : L10l4.toInt < tnv0.toInt := z_nle h_3
    refine lv_aload_n hx hb dX2_tellingStreet_19 rfl (lv_at hl 0 rfl) ?_
    refine lv_aload_n hx hb dX2_tellingStreet_20 rfl (lv_at hl 1 rfl) ?_
    refine lv_iload hx hb dX2_tellingStreet_21 (lv_at hl 4 rfl) ?_
    have hPc := hP.sub (ws' := [(ob, .inr (2, [.int obv0, .ref obb, .ref ob_2, .ref ob_3, .ref ob_4, .ref ob_5])), (ob_2, .inl (k 0, 32, .inl obg2)), (ob_3, .inl (k 0, 32, .inl obg3)), (ob_4, .inl (k 3, 400, .inl obg4)), (ob_5, .inl (k 0, 1001, .inl L10a4)), (tn, .inr (10, [.int tnv0, .int tnv1, .int tnv2, .ref tn_3, .ref tn_4, .ref tn_5, .ref tn_6, .int tnv7, .int tnv8, .ref tn_9, .ref tn_10, .int tnv11, .ref tn_12, .ref tn_13, .ref tn_14, .ref tn_15, .int tnv16, .ref tn_17, .ref tn_18, .ref tnt]))]) [0, 1, 2, 3, 4, 5] rfl
    have hDc := hD.sub (ws' := [(ob, .inr (2, [.int obv0, .ref obb, .ref ob_2, .ref ob_3, .ref ob_4, .ref ob_5])), (ob_2, .inl (k 0, 32, .inl obg2)), (ob_3, .inl (k 0, 32, .inl obg3)), (ob_4, .inl (k 3, 400, .inl obg4)), (ob_5, .inl (k 0, 1001, .inl L10a4)), (tn, .inr (10, [.int tnv0, .int tnv1, .int tnv2, .ref tn_3, .ref tn_4, .ref tn_5, .ref tn_6, .int tnv7, .int tnv8, .ref tn_9, .ref tn_10, .int tnv11, .ref tn_12, .ref tn_13, .ref tn_14, .ref tn_15, .int tnv16, .ref tn_17, .ref tn_18, .ref tnt]))]) [0, 1, 2, 3, 4, 5] (by decide) rfl
    have hFc := va_free (wc := [(ob, .inr (2, [.int obv0, .ref obb, .ref ob_2, .ref ob_3, .ref ob_4, .ref ob_5])), (ob_2, .inl (k 0, 32, .inl obg2)), (ob_3, .inl (k 0, 32, .inl obg3)), (ob_4, .inl (k 3, 400, .inl obg4)), (ob_5, .inl (k 0, 1001, .inl L10a4)), (tn, .inr (10, [.int tnv0, .int tnv1, .int tnv2, .ref tn_3, .ref tn_4, .ref tn_5, .ref tn_6, .int tnv7, .int tnv8, .ref tn_9, .ref tn_10, .int tnv11, .ref tn_12, .ref tn_13, .ref tn_14, .ref tn_15, .int tnv16, .ref tn_17, .ref tn_18, .ref tnt]))]) hD hS hA [0, 1, 2, 3, 4, 5] rfl
    refine va_calli (va_runV (C := RX2) (As := [.ref tn, .int L10l4]) (rest := []) ⟨hx, hb, hml, hown, hts⟩ (c_X2_leftAtWorst l D k ob tn L10l4 obv0 obb ob_2 ob_3 ob_4 ob_5 obg2 obg3 obg4 L10a4 tnv0 tnv1 tnv2 tn_3 tn_4 tn_5 tn_6 tnv7 tnv8 tn_9 tn_10 tnv11 tn_12 tn_13 tn_14 tn_15 tnv16 tn_17 tn_18 tnt H.size (show 0 ≤ L10l4.toInt ∧ L10l4.toInt ≤ 7 from by omega) hp_obg2_0 hp_obg3_0 (show 0 ≤ tnv0.toInt ∧ tnv0.toInt ≤ 8 from by omega) (show 0 ≤ tnv2.toInt ∧ tnv2.toInt ≤ 10 from by omega) (show 0 ≤ tnv8.toInt ∧ tnv8.toInt ≤ 4 from by omega) (show 0 ≤ tnv11.toInt ∧ tnv11.toInt ≤ 6 from by omega) (show 0 ≤ tnv16.toInt ∧ tnv16.toInt ≤ 2 from by omega)) (cwV 2 hts (gV tw_5_26 tw_5_27 tw_5_28 tw_1_9 tw_5_29) rfl rfl rfl hdV_X2_leftAtWorst ⟨Nat.le_of_ble_eq_true rfl, Nat.le_of_ble_eq_true rfl⟩) (cz_V hK hPc hDc hN (ci := 2) (q0 := 0) rfl rfl [.ref tn, .int L10l4]) rfl rfl hl.1 rfl (lv_room (Nat.le_of_ble_eq_true rfl)) dX2_tellingStreet_23 ⟨Nat.le_of_ble_eq_true rfl, Nat.le_of_ble_eq_true rfl⟩) hS (fun q _ h => hFc q h) hFc (fun r_4 uZ tZ H1 locs ht hvm hw hB hz1 hk1 hS => ?_)
    obtain ⟨o_5, rfl⟩ : ∃ z, z = uZ := ⟨_, rfl⟩
    obtain ⟨hP1, hK1, hD1⟩ := hB
    rw [ht] at hP1
    obtain ⟨hP, hD⟩ := va_join (wr := []) (w1 := [(ob, .inr (2, [.int obv0, .ref obb, .ref ob_2, .ref ob_3, .ref ob_4, .ref ob_5])), (ob_2, .inl (k 0, 32, .inl obg2)), (ob_3, .inl (k 0, 32, .inl obg3)), (ob_4, .inl (k 3, 400, .inl obg4)), (ob_5, .inl (k 0, 1001, .inl o_5)), (tn, .inr (10, [.int tnv0, .int tnv1, .int tnv2, .ref tn_3, .ref tn_4, .ref tn_5, .ref tn_6, .int tnv7, .int tnv8, .ref tn_9, .ref tn_10, .int tnv11, .ref tn_12, .ref tn_13, .ref tn_14, .ref tn_15, .int tnv16, .ref tn_17, .ref tn_18, .ref tnt]))]) hP hD [0, 1, 2, 3, 4, 5] [] rfl rfl (by decide) (by decide) hk1 hFc hP1 hD1
    clear hK1 hP1 hD1 hPc hDc hFc
    clear hk1 hz1 ht hvm
    have hP : va_P D vwCl [(ob, .inr (2, [.int obv0, .ref obb, .ref ob_2, .ref ob_3, .ref ob_4, .ref ob_5])), (ob_2, .inl (k 0, 32, .inl obg2)), (ob_3, .inl (k 0, 32, .inl obg3)), (ob_4, .inl (k 3, 400, .inl obg4)), (ob_5, .inl (k 0, 1001, .inl o_5)), (tn, .inr (10, [.int tnv0, .int tnv1, .int tnv2, .ref tn_3, .ref tn_4, .ref tn_5, .ref tn_6, .int tnv7, .int tnv8, .ref tn_9, .ref tn_10, .int tnv11, .ref tn_12, .ref tn_13, .ref tn_14, .ref tn_15, .int tnv16, .ref tn_17, .ref tn_18, .ref tnt]))] H1 := hP
    have hD : va_D A [(ob, .inr (2, [.int obv0, .ref obb, .ref ob_2, .ref ob_3, .ref ob_4, .ref ob_5])), (ob_2, .inl (k 0, 32, .inl obg2)), (ob_3, .inl (k 0, 32, .inl obg3)), (ob_4, .inl (k 3, 400, .inl obg4)), (ob_5, .inl (k 0, 1001, .inl o_5)), (tn, .inr (10, [.int tnv0, .int tnv1, .int tnv2, .ref tn_3, .ref tn_4, .ref tn_5, .ref tn_6, .int tnv7, .int tnv8, .ref tn_9, .ref tn_10, .int tnv11, .ref tn_12, .ref tn_13, .ref tn_14, .ref tn_15, .int tnv16, .ref tn_17, .ref tn_18, .ref tnt]))] := hD
    generalize H1 = H at hP hS ⊢
    have hw_6 : (0 ≤ r_4.toInt ∧ r_4.toInt ≤ 2147483647) := hw
    have hw_7 := hw_6
    clear hw
    refine lv_istore (lv' := [(5, .int r_4), (0, .ref ob), (1, .ref tn), (2, .int L10l2), (3, .int L10l3), (4, .int L10l4)]) hx hb dX2_tellingStreet_26 hl (by decide) rfl (fun ls hl => ?_)
    refine lv_iload hx hb dX2_tellingStreet_28 (lv_at hl 0 rfl) ?_
    refine lv_iload_n hx hb dX2_tellingStreet_30 rfl (lv_at hl 4 rfl) ?_
    refine lv_icmp_ge (tgt := 40) hx hb dX2_tellingStreet_31 (by decide) (fun h_8 => ?_) (fun h_8 => ?_)
    · skip
      have zh_8 : L10l3.toInt ≤ r_4.toInt := z_le h_8
      obtain ⟨x_9, ex_9⟩ : ∃ y : Int32, y = L10l4 + 1 := ⟨_, rfl⟩
      have zx_9 : x_9.toInt = L10l4.toInt + 1 := by rw [ex_9]; exact z_add rfl rfl (by omega) (by omega)
      refine lv_iinc (v := x_9) (lv' := [(4, .int x_9), (5, .int r_4), (0, .ref ob), (1, .ref tn), (2, .int L10l2), (3, .int L10l3)]) hx hb dX2_tellingStreet_40 hl (k := 5) rfl (by rw [ex_9]; rfl) (by decide) rfl (fun ls hl => ?_)
      refine lv_goto (tgt := 10) hx hb dX2_tellingStreet_43 (by decide) ?_
      exact ih_1 _ _ _ _ (by omega) ⟨L10l2, L10l3, x_9, o_5, rfl, (show (-1) ≤ L10l2.toInt ∧ L10l2.toInt ≤ 7 from by omega), (show 0 ≤ x_9.toInt ∧ x_9.toInt ≤ 8 from by omega), hP.sub (ws' := [(ob, .inr (2, [.int obv0, .ref obb, .ref ob_2, .ref ob_3, .ref ob_4, .ref ob_5])), (ob_2, .inl (k 0, 32, .inl obg2)), (ob_3, .inl (k 0, 32, .inl obg3)), (ob_4, .inl (k 3, 400, .inl obg4)), (ob_5, .inl (k 0, 1001, .inl o_5)), (tn, .inr (10, [.int tnv0, .int tnv1, .int tnv2, .ref tn_3, .ref tn_4, .ref tn_5, .ref tn_6, .int tnv7, .int tnv8, .ref tn_9, .ref tn_10, .int tnv11, .ref tn_12, .ref tn_13, .ref tn_14, .ref tn_15, .int tnv16, .ref tn_17, .ref tn_18, .ref tnt]))]) [0, 1, 2, 3, 4, 5] rfl, hD.sub (ws' := [(ob, .inr (2, [.int obv0, .ref obb, .ref ob_2, .ref ob_3, .ref ob_4, .ref ob_5])), (ob_2, .inl (k 0, 32, .inl obg2)), (ob_3, .inl (k 0, 32, .inl obg3)), (ob_4, .inl (k 3, 400, .inl obg4)), (ob_5, .inl (k 0, 1001, .inl o_5)), (tn, .inr (10, [.int tnv0, .int tnv1, .int tnv2, .ref tn_3, .ref tn_4, .ref tn_5, .ref tn_6, .int tnv7, .int tnv8, .ref tn_9, .ref tn_10, .int tnv11, .ref tn_12, .ref tn_13, .ref tn_14, .ref tn_15, .int tnv16, .ref tn_17, .ref tn_18, .ref tnt]))]) [0, 1, 2, 3, 4, 5] (by decide) rfl, hS, lv_sub hl [2, 3, 4, 5, 0] rfl⟩
    · skip
      have zh_8 : r_4.toInt < L10l3.toInt := z_nle h_8
      refine lv_iload hx hb dX2_tellingStreet_34 (lv_at hl 0 rfl) ?_
      refine lv_istore_n (lv' := [(3, .int r_4), (5, .int r_4), (0, .ref ob), (1, .ref tn), (2, .int L10l2), (4, .int L10l4)]) hx hb dX2_tellingStreet_36 rfl hl (by decide) rfl (fun ls hl => ?_)
      refine lv_iload hx hb dX2_tellingStreet_37 (lv_at hl 5 rfl) ?_
      refine lv_istore_n (lv' := [(2, .int L10l4), (3, .int r_4), (5, .int r_4), (0, .ref ob), (1, .ref tn), (4, .int L10l4)]) hx hb dX2_tellingStreet_39 rfl hl (by decide) rfl (fun ls hl => ?_)
      obtain ⟨x_10, ex_10⟩ : ∃ y : Int32, y = L10l4 + 1 := ⟨_, rfl⟩
      have zx_10 : x_10.toInt = L10l4.toInt + 1 := by rw [ex_10]; exact z_add rfl rfl (by omega) (by omega)
      refine lv_iinc (v := x_10) (lv' := [(4, .int x_10), (2, .int L10l4), (3, .int r_4), (5, .int r_4), (0, .ref ob), (1, .ref tn)]) hx hb dX2_tellingStreet_40 hl (k := 5) rfl (by rw [ex_10]; rfl) (by decide) rfl (fun ls hl => ?_)
      refine lv_goto (tgt := 10) hx hb dX2_tellingStreet_43 (by decide) ?_
      exact ih_1 _ _ _ _ (by omega) ⟨L10l4, r_4, x_10, o_5, rfl, (show (-1) ≤ L10l4.toInt ∧ L10l4.toInt ≤ 7 from by omega), (show 0 ≤ x_10.toInt ∧ x_10.toInt ≤ 8 from by omega), hP.sub (ws' := [(ob, .inr (2, [.int obv0, .ref obb, .ref ob_2, .ref ob_3, .ref ob_4, .ref ob_5])), (ob_2, .inl (k 0, 32, .inl obg2)), (ob_3, .inl (k 0, 32, .inl obg3)), (ob_4, .inl (k 3, 400, .inl obg4)), (ob_5, .inl (k 0, 1001, .inl o_5)), (tn, .inr (10, [.int tnv0, .int tnv1, .int tnv2, .ref tn_3, .ref tn_4, .ref tn_5, .ref tn_6, .int tnv7, .int tnv8, .ref tn_9, .ref tn_10, .int tnv11, .ref tn_12, .ref tn_13, .ref tn_14, .ref tn_15, .int tnv16, .ref tn_17, .ref tn_18, .ref tnt]))]) [0, 1, 2, 3, 4, 5] rfl, hD.sub (ws' := [(ob, .inr (2, [.int obv0, .ref obb, .ref ob_2, .ref ob_3, .ref ob_4, .ref ob_5])), (ob_2, .inl (k 0, 32, .inl obg2)), (ob_3, .inl (k 0, 32, .inl obg3)), (ob_4, .inl (k 3, 400, .inl obg4)), (ob_5, .inl (k 0, 1001, .inl o_5)), (tn, .inr (10, [.int tnv0, .int tnv1, .int tnv2, .ref tn_3, .ref tn_4, .ref tn_5, .ref tn_6, .int tnv7, .int tnv8, .ref tn_9, .ref tn_10, .int tnv11, .ref tn_12, .ref tn_13, .ref tn_14, .ref tn_15, .int tnv16, .ref tn_17, .ref tn_18, .ref tnt]))]) [0, 1, 2, 3, 4, 5] (by decide) rfl, hS, lv_sub hl [4, 5, 1, 2, 0] rfl⟩
set_option maxHeartbeats 4000000 in
set_option maxRecDepth 100000 in
theorem c_X3_evening (l : Launch) (D : va_G) (k : Nat → ClassId) (tn : Nat) (p1 : Int64) (tnv0 : Int32) (tnv1 : Int32) (tnv2 : Int32) (tn_3 : Nat) (tn_4 : Nat) (tn_5 : Nat) (tn_6 : Nat) (tnv7 : Int32) (tnv8 : Int32) (tn_9 : Nat) (tn_10 : Nat) (tnv11 : Int32) (tn_12 : Nat) (tn_13 : Nat) (tn_14 : Nat) (tn_15 : Nat) (tnv16 : Int32) (tn_17 : Nat) (tn_18 : Nat) (tnt : Nat) (tng6 : Nat → Int32) (sz : Nat) (h_tnv0 : 0 ≤ tnv0.toInt ∧ tnv0.toInt ≤ 8) (h_tnv2 : 0 ≤ tnv2.toInt ∧ tnv2.toInt ≤ 10) (h_tnv8 : 0 ≤ tnv8.toInt ∧ tnv8.toInt ≤ 4) (h_tnv11 : 0 ≤ tnv11.toInt ∧ tnv11.toInt ≤ 6) (h_tnv16 : 0 ≤ tnv16.toInt ∧ tnv16.toInt ≤ 2) (hp_tng6_0 : PR 10 1 0 0 10 tng6) : Met l yX3_evening (ww yX3_evening cX3_evening 7 (some .int)) ({ frames := 0, cells := 0, slots := 0, locals := 0 }) (Pre0 D k [(tn, .inr (10, [.int tnv0, .int tnv1, .int tnv2, .ref tn_3, .ref tn_4, .ref tn_5, .ref tn_6, .int tnv7, .int tnv8, .ref tn_9, .ref tn_10, .int tnv11, .ref tn_12, .ref tn_13, .ref tn_14, .ref tn_15, .int tnv16, .ref tn_17, .ref tn_18, .ref tnt])), (tn_6, .inl (k 0, 10, .inl tng6))] sz [.ref tn, .long p1]) (va_Qi (fun (r : Int32) (_ : Unit) => (0 ≤ r.toInt ∧ r.toInt ≤ 1023)) (fun (_ : Unit) tZ => Bw D k (va_A [(tn, .inr (10, [.int tnv0, .int tnv1, .int tnv2, .ref tn_3, .ref tn_4, .ref tn_5, .ref tn_6, .int tnv7, .int tnv8, .ref tn_9, .ref tn_10, .int tnv11, .ref tn_12, .ref tn_13, .ref tn_14, .ref tn_15, .int tnv16, .ref tn_17, .ref tn_18, .ref tnt])), (tn_6, .inl (k 0, 10, .inl tng6))] sz) [(tn, .inr (10, [.int tnv0, .int tnv1, .int tnv2, .ref tn_3, .ref tn_4, .ref tn_5, .ref tn_6, .int tnv7, .int tnv8, .ref tn_9, .ref tn_10, .int tnv11, .ref tn_12, .ref tn_13, .ref tn_14, .ref tn_15, .int tnv16, .ref tn_17, .ref tn_18, .ref tnt])), (tn_6, .inl (k 0, 10, .inl tng6))] tZ) (va_A [(tn, .inr (10, [.int tnv0, .int tnv1, .int tnv2, .ref tn_3, .ref tn_4, .ref tn_5, .ref tn_6, .int tnv7, .int tnv8, .ref tn_9, .ref tn_10, .int tnv11, .ref tn_12, .ref tn_13, .ref tn_14, .ref tn_15, .int tnv16, .ref tn_17, .ref tn_18, .ref tnt])), (tn_6, .inl (k 0, 10, .inl tng6))] sz)) 0 0 (va_A [(tn, .inr (10, [.int tnv0, .int tnv1, .int tnv2, .ref tn_3, .ref tn_4, .ref tn_5, .ref tn_6, .int tnv7, .int tnv8, .ref tn_9, .ref tn_10, .int tnv11, .ref tn_12, .ref tn_13, .ref tn_14, .ref tn_15, .int tnv16, .ref tn_17, .ref tn_18, .ref tnt])), (tn_6, .inl (k 0, 10, .inl tng6))] sz) := by
  refine Met.ofW (cc := cX3_evening) (maxL := 7) (ret := (some .int)) (by decide +kernel) rfl ?_
  intro p e s m args below meth c s₁ B hml hv
  obtain ⟨rfl, hsz, hP, hK, hD0, hN⟩ := hv
  have hx := B.exec
  have hb := B.bytes
  have hr := B.returns
  have hts : ∀ w ∈ TT, w.before _ s = true := fun w h => atoms_spec (ws := ww yX3_evening cX3_evening 7 (some .int)) B.pre w (List.mem_cons_of_mem _ h)
  have hown : s.vm.findClass RX3 = some m.cls := findClass_of_methodNamed B.named
  have hlocks := B.notSynchronized
  subst hsz
  have hD := hD0.self (sz := s.heap.size)
  generalize hAe : va_A [(tn, .inr (10, [.int tnv0, .int tnv1, .int tnv2, .ref tn_3, .ref tn_4, .ref tn_5, .ref tn_6, .int tnv7, .int tnv8, .ref tn_9, .ref tn_10, .int tnv11, .ref tn_12, .ref tn_13, .ref tn_14, .ref tn_15, .int tnv16, .ref tn_17, .ref tn_18, .ref tnt])), (tn_6, .inl (k 0, 10, .inl tng6))] s.heap.size = A at hD ⊢
  have hA : ∀ q : Nat, s.heap.size ≤ q → A q := fun q h => by rw [← hAe]; exact Or.inr h
  have hS : va_S A s.heap s.heap [] := va_S.rf
  have hl := lv_entry ([.ref tn, .long p1]) (n := 7) (Nat.le_of_ble_eq_true rfl)
  rw [lg_entry_eq]
  generalize (lg_sl ([.ref tn, .long p1]) ++ List.replicate (7 - (lg_sl ([.ref tn, .long p1])).length) Slot.unset).toArray = ls at hl ⊢
  have hl : lv_has ls 7 [(0, .ref tn), (1, .long p1)] := hl
  refine lv_iconst (v := 0) hx hb dX3_evening_0 (by decide) ?_
  refine lv_istore_n (lv' := [(3, .int 0), (0, .ref tn), (1, .long p1)]) hx hb dX3_evening_1 rfl hl (by decide) rfl (fun ls hl => ?_)
  refine lv_lload_n hx hb dX3_evening_2 rfl (lv_at hl 2 rfl) ?_
  refine lv_lstore (lv' := [(4, .long p1), (3, .int 0), (0, .ref tn), (1, .long p1)]) hx hb dX3_evening_3 hl (by decide) rfl (fun ls hl => ?_)
  refine lv_iconst (v := 0) hx hb dX3_evening_5 (by decide) ?_
  refine lv_istore (lv' := [(6, .int 0), (4, .long p1), (3, .int 0), (0, .ref tn), (1, .long p1)]) hx hb dX3_evening_6 hl (by decide) rfl (fun ls hl => ?_)
  refine loop_r (Wg := fun H locs ls => W p l e _ s m _ below meth c H locs _ _ _ (F0 m 8 ls [])) (fun n9 H locs ls => ∃ (L8l3 : Int32) (L8l4 : Int64) (L8l6 : Int32), n9 = (10 - L8l6.toInt).toNat ∧ (0 ≤ L8l3.toInt ∧ L8l3.toInt ≤ 1023) ∧ (0 ≤ L8l6.toInt ∧ L8l6.toInt ≤ 10) ∧ va_P D vwCl [(tn, .inr (10, [.int tnv0, .int tnv1, .int tnv2, .ref tn_3, .ref tn_4, .ref tn_5, .ref tn_6, .int tnv7, .int tnv8, .ref tn_9, .ref tn_10, .int tnv11, .ref tn_12, .ref tn_13, .ref tn_14, .ref tn_15, .int tnv16, .ref tn_17, .ref tn_18, .ref tnt])), (tn_6, .inl (k 0, 10, .inl tng6))] H ∧ va_D A [(tn, .inr (10, [.int tnv0, .int tnv1, .int tnv2, .ref tn_3, .ref tn_4, .ref tn_5, .ref tn_6, .int tnv7, .int tnv8, .ref tn_9, .ref tn_10, .int tnv11, .ref tn_12, .ref tn_13, .ref tn_14, .ref tn_15, .int tnv16, .ref tn_17, .ref tn_18, .ref tnt])), (tn_6, .inl (k 0, 10, .inl tng6))] ∧ va_S A s.heap H locs ∧ lv_has ls 7 [(0, .ref tn), (1, .long p1), (3, .int L8l3), (4, .long L8l4), (6, .int L8l6)]) (fun n9 H locs ls hI ih_1 => ?_) _ _ _ _ ⟨0, p1, 0, rfl, (show 0 ≤ 0 ∧ 0 ≤ 1023 from by omega), (show 0 ≤ 0 ∧ 0 ≤ 10 from by omega), hP.sub (ws' := [(tn, .inr (10, [.int tnv0, .int tnv1, .int tnv2, .ref tn_3, .ref tn_4, .ref tn_5, .ref tn_6, .int tnv7, .int tnv8, .ref tn_9, .ref tn_10, .int tnv11, .ref tn_12, .ref tn_13, .ref tn_14, .ref tn_15, .int tnv16, .ref tn_17, .ref tn_18, .ref tnt])), (tn_6, .inl (k 0, 10, .inl tng6))]) [0, 1] rfl, hD.sub (ws' := [(tn, .inr (10, [.int tnv0, .int tnv1, .int tnv2, .ref tn_3, .ref tn_4, .ref tn_5, .ref tn_6, .int tnv7, .int tnv8, .ref tn_9, .ref tn_10, .int tnv11, .ref tn_12, .ref tn_13, .ref tn_14, .ref tn_15, .int tnv16, .ref tn_17, .ref tn_18, .ref tnt])), (tn_6, .inl (k 0, 10, .inl tng6))]) [0, 1] (by decide) rfl, hS, lv_sub hl [3, 4, 2, 1, 0] rfl⟩
  clear hP hD hS hl
  obtain ⟨L8l3, L8l4, L8l6, en_2, zL8l3, zL8l6, hP, hD, hS, hl⟩ := hI
  refine lv_iload hx hb dX3_evening_8 (lv_at hl 4 rfl) ?_
  refine lv_aload_n hx hb dX3_evening_10 rfl (lv_at hl 0 rfl) ?_
  refine va_get (D := D) (ci := 10) (v := .int tnv2) (C := RX10) (T := TX10) (N := 20) hx hb hts iT_X10 hown hK hP 0 rfl rfl 2 (by decide) (hts _ tw_1_78) (fun _ h9 => h9) rfl dX3_evening_11 ?_
  refine lv_icmp_ge (tgt := 68) hx hb dX3_evening_14 (by decide) (fun h_3 => ?_) (fun h_3 => ?_)
  · skip
    have zh_3 : tnv2.toInt ≤ L8l6.toInt := z_le h_3
    refine lv_iload_n hx hb dX3_evening_68 rfl (lv_at hl 2 rfl) ?_
    have hP9 := hP.sub (ws' := [(tn, .inr (10, [.int tnv0, .int tnv1, .int tnv2, .ref tn_3, .ref tn_4, .ref tn_5, .ref tn_6, .int tnv7, .int tnv8, .ref tn_9, .ref tn_10, .int tnv11, .ref tn_12, .ref tn_13, .ref tn_14, .ref tn_15, .int tnv16, .ref tn_17, .ref tn_18, .ref tnt])), (tn_6, .inl (k 0, 10, .inl tng6))]) [0, 1] rfl
    have hD9 := hD.sub (ws' := [(tn, .inr (10, [.int tnv0, .int tnv1, .int tnv2, .ref tn_3, .ref tn_4, .ref tn_5, .ref tn_6, .int tnv7, .int tnv8, .ref tn_9, .ref tn_10, .int tnv11, .ref tn_12, .ref tn_13, .ref tn_14, .ref tn_15, .int tnv16, .ref tn_17, .ref tn_18, .ref tnt])), (tn_6, .inl (k 0, 10, .inl tng6))]) [0, 1] (by decide) rfl
    exact W.iret (v := L8l3) hx hb hr (fun tZ ht hW => ⟨⟨L8l3, (), rfl, (show 0 ≤ L8l3.toInt ∧ L8l3.toInt ≤ 1023 from by omega), by rw [ht]; exact hP9, va_K.moved hW.alike hK, hD9⟩, hS.F ht⟩) hS.2.2 dX3_evening_69
  · skip
    have zh_3 : L8l6.toInt < tnv2.toInt := z_nle h_3
    refine lv_ldc2 (v := 1103515245) hx hb hown (hts _ tw_5_213) dX3_evening_17 ?_
    refine lv_lload hx hb dX3_evening_20 (lv_at hl 3 rfl) ?_
    refine lv_lmul hx hb dX3_evening_22 ?_
    refine lv_topl (fun x_4 ex_4 => ?_)
    refine lv_ldc2 (v := 12345) hx hb hown (hts _ tw_5_214) dX3_evening_23 ?_
    refine lv_ladd hx hb dX3_evening_26 ?_
    refine lv_topl (fun x_5 ex_5 => ?_)
    refine lv_ldc2 (v := 2147483648) hx hb hown (hts _ tw_5_215) dX3_evening_27 ?_
    refine lv_lrem hx hb dX3_evening_30 (by decide) ?_
    refine lv_topl (fun x_6 ex_6 => ?_)
    refine lv_lstore (lv' := [(4, .long x_6), (0, .ref tn), (1, .long p1), (3, .int L8l3), (6, .int L8l6)]) hx hb dX3_evening_31 hl (by decide) rfl (fun ls hl => ?_)
    refine lv_lload hx hb dX3_evening_33 (lv_at hl 0 rfl) ?_
    refine lv_ldc2 (v := 65536) hx hb hown (hts _ tw_5_216) dX3_evening_35 ?_
    refine lv_ldiv hx hb dX3_evening_38 (by decide) ?_
    refine lv_topl (fun x_7 ex_7 => ?_)
    refine lv_ldc2 (v := 10) hx hb hown (hts _ tw_5_159) dX3_evening_39 ?_
    refine lv_lrem hx hb dX3_evening_42 (by decide) ?_
    refine lv_topl (fun x_8 ex_8 => ?_)
    refine lv_aload_n hx hb dX3_evening_43 rfl (lv_at hl 1 rfl) ?_
    refine va_get (D := D) (ci := 10) (v := .ref tn_6) (C := RX10) (T := TX10) (N := 20) hx hb hts iT_X10 hown hK hP 0 rfl rfl 6 (by decide) (hts _ tw_1_98) (fun _ h9 => h9) rfl dX3_evening_44 ?_
    refine lv_iload hx hb dX3_evening_47 (lv_at hl 4 rfl) ?_
    refine va_iald hx hb hK hP 1 0 rfl rfl (z_in (by omega) (by omega)) dX3_evening_49 ?_
    refine lv_topi (fun x_9 ex_9 => ?_)
    have zx_9r0 : 0 ≤ x_9.toInt ∧ x_9.toInt ≤ 10 := by rw [ex_9]; exact PR.ld hp_tng6_0 (by omega) (by omega) (by omega)
    refine lv_i2l (v := x_9.toInt64) hx hb dX3_evening_50 rfl ?_
    refine W.lcmp hx hb dX3_evening_51 ?_
    refine lv_if_ge (tgt := 62) hx hb dX3_evening_52 (by decide) (fun h_10 => ?_) (fun h_10 => ?_)
    · skip
      have zh_10 : x_9.toInt ≤ x_8.toInt := zL_ge h_10 rfl (Int32.toInt_toInt64 _)
      obtain ⟨x_11, ex_11⟩ : ∃ y : Int32, y = L8l6 + 1 := ⟨_, rfl⟩
      have zx_11 : x_11.toInt = L8l6.toInt + 1 := by rw [ex_11]; exact z_add rfl rfl (by omega) (by omega)
      refine lv_iinc (v := x_11) (lv' := [(6, .int x_11), (4, .long x_6), (0, .ref tn), (1, .long p1), (3, .int L8l3)]) hx hb dX3_evening_62 hl (k := 4) rfl (by rw [ex_11]; rfl) (by decide) rfl (fun ls hl => ?_)
      refine lv_goto (tgt := 8) hx hb dX3_evening_65 (by decide) ?_
      exact ih_1 _ _ _ _ (by omega) ⟨L8l3, x_6, x_11, rfl, (show 0 ≤ L8l3.toInt ∧ L8l3.toInt ≤ 1023 from by omega), (show 0 ≤ x_11.toInt ∧ x_11.toInt ≤ 10 from by omega), hP.sub (ws' := [(tn, .inr (10, [.int tnv0, .int tnv1, .int tnv2, .ref tn_3, .ref tn_4, .ref tn_5, .ref tn_6, .int tnv7, .int tnv8, .ref tn_9, .ref tn_10, .int tnv11, .ref tn_12, .ref tn_13, .ref tn_14, .ref tn_15, .int tnv16, .ref tn_17, .ref tn_18, .ref tnt])), (tn_6, .inl (k 0, 10, .inl tng6))]) [0, 1] rfl, hD.sub (ws' := [(tn, .inr (10, [.int tnv0, .int tnv1, .int tnv2, .ref tn_3, .ref tn_4, .ref tn_5, .ref tn_6, .int tnv7, .int tnv8, .ref tn_9, .ref tn_10, .int tnv11, .ref tn_12, .ref tn_13, .ref tn_14, .ref tn_15, .int tnv16, .ref tn_17, .ref tn_18, .ref tnt])), (tn_6, .inl (k 0, 10, .inl tng6))]) [0, 1] (by decide) rfl, hS, lv_sub hl [2, 3, 4, 1, 0] rfl⟩
    · skip
      have zh_10 : x_8.toInt < x_9.toInt := zL_nge h_10 rfl (Int32.toInt_toInt64 _)
      refine lv_iload_n hx hb dX3_evening_55 rfl (lv_at hl 3 rfl) ?_
      refine lv_iconst (v := 1) hx hb dX3_evening_56 (by decide) ?_
      refine lv_iload hx hb dX3_evening_57 (lv_at hl 4 rfl) ?_
      refine lv_ishl hx hb dX3_evening_59 ?_
      refine lv_topi (fun x_12 ex_12 => ?_)
      have zx_12 : 1 ≤ x_12.toInt ∧ x_12.toInt ≤ 512 := by rw [ex_12]; exact z_shl1 9 512 rfl (by decide) (by omega) (by omega)
      refine lv_ior hx hb dX3_evening_60 ?_
      refine lv_topi (fun x_13 ex_13 => ?_)
      have zx_13 : 0 ≤ x_13.toInt ∧ x_13.toInt < 1024 := by rw [ex_13]; exact z_or 10 1024 rfl (by decide) ⟨by omega, by omega⟩ ⟨by omega, by omega⟩
      refine lv_istore_n (lv' := [(3, .int x_13), (4, .long x_6), (0, .ref tn), (1, .long p1), (6, .int L8l6)]) hx hb dX3_evening_61 rfl hl (by decide) rfl (fun ls hl => ?_)
      obtain ⟨x_14, ex_14⟩ : ∃ y : Int32, y = L8l6 + 1 := ⟨_, rfl⟩
      have zx_14 : x_14.toInt = L8l6.toInt + 1 := by rw [ex_14]; exact z_add rfl rfl (by omega) (by omega)
      refine lv_iinc (v := x_14) (lv' := [(6, .int x_14), (3, .int x_13), (4, .long x_6), (0, .ref tn), (1, .long p1)]) hx hb dX3_evening_62 hl (k := 4) rfl (by rw [ex_14]; rfl) (by decide) rfl (fun ls hl => ?_)
      refine lv_goto (tgt := 8) hx hb dX3_evening_65 (by decide) ?_
      exact ih_1 _ _ _ _ (by omega) ⟨x_13, x_6, x_14, rfl, (show 0 ≤ x_13.toInt ∧ x_13.toInt ≤ 1023 from by omega), (show 0 ≤ x_14.toInt ∧ x_14.toInt ≤ 10 from by omega), hP.sub (ws' := [(tn, .inr (10, [.int tnv0, .int tnv1, .int tnv2, .ref tn_3, .ref tn_4, .ref tn_5, .ref tn_6, .int tnv7, .int tnv8, .ref tn_9, .ref tn_10, .int tnv11, .ref tn_12, .ref tn_13, .ref tn_14, .ref tn_15, .int tnv16, .ref tn_17, .ref tn_18, .ref tnt])), (tn_6, .inl (k 0, 10, .inl tng6))]) [0, 1] rfl, hD.sub (ws' := [(tn, .inr (10, [.int tnv0, .int tnv1, .int tnv2, .ref tn_3, .ref tn_4, .ref tn_5, .ref tn_6, .int tnv7, .int tnv8, .ref tn_9, .ref tn_10, .int tnv11, .ref tn_12, .ref tn_13, .ref tn_14, .ref tn_15, .int tnv16, .ref tn_17, .ref tn_18, .ref tnt])), (tn_6, .inl (k 0, 10, .inl tng6))]) [0, 1] (by decide) rfl, hS, lv_sub hl [3, 4, 1, 2, 0] rfl⟩
set_option maxHeartbeats 4000000 in
set_option maxRecDepth 100000 in
theorem c_J7_fill_d0a16_0 (l : Launch) (D : va_G) (k : Nat → ClassId) (p0 : Nat) (f0 : Nat → Int64) (sz : Nat) : Met l yJ7_fill_d0a16 (ww yJ7_fill_d0a16 cJ7_fill_d0a16 5 none) ({ frames := 0, cells := 0, slots := 0, locals := 0 }) (Pre0 D k [(p0, .inl (k 2, 1000, .inr (.inl f0)))] sz [.ref p0, .long 0]) (va_Qv (fun (f0z : (Nat → Int64)) => True) (fun (f0z : (Nat → Int64)) tZ => Bw D k (va_A [(p0, .inl (k 2, 1000, .inr (.inl f0)))] sz) [(p0, .inl (k 2, 1000, .inr (.inl f0z)))] tZ) (va_A [(p0, .inl (k 2, 1000, .inr (.inl f0)))] sz)) 0 0 (va_A [(p0, .inl (k 2, 1000, .inr (.inl f0)))] sz) := by
  refine Met.ofW (cc := cJ7_fill_d0a16) (maxL := 5) (ret := none) (by decide +kernel) rfl ?_
  intro p e s m args below meth c s₁ B hml hv
  obtain ⟨rfl, hsz, hP, hK, hD0, hN⟩ := hv
  have hx := B.exec
  have hb := B.bytes
  have hr := B.returns
  have hts : ∀ w ∈ TT, w.before _ s = true := fun w h => atoms_spec (ws := ww yJ7_fill_d0a16 cJ7_fill_d0a16 5 none) B.pre w (List.mem_cons_of_mem _ h)
  have hown : s.vm.findClass RJ7 = some m.cls := findClass_of_methodNamed B.named
  have hlocks := B.notSynchronized
  subst hsz
  have hD := hD0.self (sz := s.heap.size)
  generalize hAe : va_A [(p0, .inl (k 2, 1000, .inr (.inl f0)))] s.heap.size = A at hD ⊢
  have hA : ∀ q : Nat, s.heap.size ≤ q → A q := fun q h => by rw [← hAe]; exact Or.inr h
  have hS : va_S A s.heap s.heap [] := va_S.rf
  have hl := lv_entry ([.ref p0, .long 0]) (n := 5) (Nat.le_of_ble_eq_true rfl)
  rw [lg_entry_eq]
  generalize (lg_sl ([.ref p0, .long 0]) ++ List.replicate (5 - (lg_sl ([.ref p0, .long 0])).length) Slot.unset).toArray = ls at hl ⊢
  have hl : lv_has ls 5 [(0, .ref p0), (1, .long 0)] := hl
  refine lv_iconst (v := 0) hx hb dJ7_fill_d0a16_0 (by decide) ?_
  refine lv_istore_n (lv' := [(3, .int 0), (0, .ref p0), (1, .long 0)]) hx hb dJ7_fill_d0a16_1 rfl hl (by decide) rfl (fun ls hl => ?_)
  refine lv_aload_n hx hb dJ7_fill_d0a16_2 rfl (lv_at hl 1 rfl) ?_
  refine va_alen (v := 1000) hx hb hK hP 0 2 rfl rfl (show Int32.ofNat 1000 = 1000 from by decide) dJ7_fill_d0a16_3 ?_
  refine lv_istore (lv' := [(4, .int 1000), (3, .int 0), (0, .ref p0), (1, .long 0)]) hx hb dJ7_fill_d0a16_4 hl (by decide) rfl (fun ls hl => ?_)
  refine loop_r (Wg := fun H locs ls => W p l e _ s m _ below meth c H locs _ _ _ (F0 m 6 ls [])) (fun n9 H locs ls => ∃ (L6l3 : Int32) (L6a0 : Nat → Int64), n9 = (1000 - L6l3.toInt).toNat ∧ (0 ≤ L6l3.toInt ∧ L6l3.toInt ≤ 1000) ∧ va_P D vwCl [(p0, .inl (k 2, 1000, .inr (.inl L6a0)))] H ∧ va_D A [(p0, .inl (k 2, 1000, .inr (.inl L6a0)))] ∧ va_S A s.heap H locs ∧ lv_has ls 5 [(0, .ref p0), (1, .long 0), (3, .int L6l3), (4, .int 1000)]) (fun n9 H locs ls hI ih_1 => ?_) _ _ _ _ ⟨0, f0, rfl, (show 0 ≤ 0 ∧ 0 ≤ 1000 from by omega), hP.sub (ws' := [(p0, .inl (k 2, 1000, .inr (.inl f0)))]) [0] rfl, hD.sub (ws' := [(p0, .inl (k 2, 1000, .inr (.inl f0)))]) [0] (by decide) rfl, hS, lv_sub hl [2, 3, 1, 0] rfl⟩
  clear hP hD hS hl
  obtain ⟨L6l3, L6a0, en_2, zL6l3, hP, hD, hS, hl⟩ := hI
  refine lv_iload_n hx hb dJ7_fill_d0a16_6 rfl (lv_at hl 2 rfl) ?_
  refine lv_iload hx hb dJ7_fill_d0a16_7 (lv_at hl 3 rfl) ?_
  refine lv_icmp_ge (tgt := 22) hx hb dJ7_fill_d0a16_9 (by decide) (fun h_3 => ?_) (fun h_3 => ?_)
  · skip
    have zh_3 : 1000 ≤ L6l3.toInt := z_le h_3
    have hP9 := hP.sub (ws' := [(p0, .inl (k 2, 1000, .inr (.inl L6a0)))]) [0] rfl
    have hD9 := hD.sub (ws' := [(p0, .inl (k 2, 1000, .inr (.inl L6a0)))]) [0] (by decide) rfl
    exact W.vret hx hb hr (fun tZ ht hW => ⟨⟨L6a0, rfl, trivial, by rw [ht]; exact hP9, va_K.moved hW.alike hK, hD9⟩, hS.F ht⟩) hS.2.2 dJ7_fill_d0a16_22
  · skip
    have zh_3 : L6l3.toInt < 1000 := z_nle h_3
    refine lv_aload_n hx hb dJ7_fill_d0a16_12 rfl (lv_at hl 0 rfl) ?_
    refine lv_iload_n hx hb dJ7_fill_d0a16_13 rfl (lv_at hl 2 rfl) ?_
    refine lv_lload_n hx hb dJ7_fill_d0a16_14 rfl (lv_at hl 1 rfl) ?_
    refine va_last hx hb hK hP hD hS 0 2 rfl rfl (z_in (by omega) (by omega)) dJ7_fill_d0a16_15 (fun H locs hP hD hS => ?_)
    obtain ⟨g_4, eg_4⟩ : ∃ z : Nat → Int64, vp_updL L6a0 L6l3.toNatClampNeg 0 = z := ⟨_, rfl⟩
    have hP : va_P D vwCl [(p0, .inl (k 2, 1000, .inr (.inl (vp_updL L6a0 L6l3.toNatClampNeg 0))))] H := hP
    have hD : va_D A [(p0, .inl (k 2, 1000, .inr (.inl (vp_updL L6a0 L6l3.toNatClampNeg 0))))] := hD
    rw [eg_4] at hP hD
    obtain ⟨x_5, ex_5⟩ : ∃ y : Int32, y = L6l3 + 1 := ⟨_, rfl⟩
    have zx_5 : x_5.toInt = L6l3.toInt + 1 := by rw [ex_5]; exact z_add rfl rfl (by omega) (by omega)
    refine lv_iinc (v := x_5) (lv' := [(3, .int x_5), (0, .ref p0), (1, .long 0), (4, .int 1000)]) hx hb dJ7_fill_d0a16_16 hl (k := 2) rfl (by rw [ex_5]; rfl) (by decide) rfl (fun ls hl => ?_)
    refine lv_goto (tgt := 6) hx hb dJ7_fill_d0a16_19 (by decide) ?_
    exact ih_1 _ _ _ _ (by omega) ⟨x_5, g_4, rfl, (show 0 ≤ x_5.toInt ∧ x_5.toInt ≤ 1000 from by omega), hP.sub (ws' := [(p0, .inl (k 2, 1000, .inr (.inl g_4)))]) [0] rfl, hD.sub (ws' := [(p0, .inl (k 2, 1000, .inr (.inl g_4)))]) [0] (by decide) rfl, hS, lv_sub hl [1, 2, 0, 3] rfl⟩
set_option maxHeartbeats 4000000 in
set_option maxRecDepth 100000 in
theorem c_J6_bitCount_0f7a4 (l : Launch) (D : va_G) (k : Nat → ClassId) (p0 : Int32) (sz : Nat) : Met l yJ6_bitCount_0f7a4 (ww yJ6_bitCount_0f7a4 cJ6_bitCount_0f7a4 1 (some .int)) ({ frames := 0, cells := 0, slots := 0, locals := 0 }) (Pre0 D k [] sz [.int p0]) (va_Qi (fun (r : Int32) (_ : Unit) => (0 ≤ r.toInt ∧ r.toInt ≤ 63)) (fun (_ : Unit) tZ => Bw D k (va_A [] sz) [] tZ) (va_A [] sz)) 0 0 (va_A [] sz) := by
  refine Met.ofW (cc := cJ6_bitCount_0f7a4) (maxL := 1) (ret := (some .int)) (by decide +kernel) rfl ?_
  intro p e s m args below meth c s₁ B hml hv
  obtain ⟨rfl, hsz, hP, hK, hD0, hN⟩ := hv
  have hx := B.exec
  have hb := B.bytes
  have hr := B.returns
  have hts : ∀ w ∈ TT, w.before _ s = true := fun w h => atoms_spec (ws := ww yJ6_bitCount_0f7a4 cJ6_bitCount_0f7a4 1 (some .int)) B.pre w (List.mem_cons_of_mem _ h)
  have hown : s.vm.findClass RJ6 = some m.cls := findClass_of_methodNamed B.named
  have hlocks := B.notSynchronized
  subst hsz
  have hD := hD0.self (sz := s.heap.size)
  generalize hAe : va_A [] s.heap.size = A at hD ⊢
  have hA : ∀ q : Nat, s.heap.size ≤ q → A q := fun q h => by rw [← hAe]; exact Or.inr h
  have hS : va_S A s.heap s.heap [] := va_S.rf
  have hl := lv_entry ([.int p0]) (n := 1) (Nat.le_of_ble_eq_true rfl)
  rw [lg_entry_eq]
  generalize (lg_sl ([.int p0]) ++ List.replicate (1 - (lg_sl ([.int p0])).length) Slot.unset).toArray = ls at hl ⊢
  have hl : lv_has ls 1 [(0, .int p0)] := hl
  refine lv_iload_n hx hb dJ6_bitCount_0f7a4_0 rfl (lv_at hl 0 rfl) ?_
  refine lv_iload_n hx hb dJ6_bitCount_0f7a4_1 rfl (lv_at hl 0 rfl) ?_
  refine lv_iconst (v := 1) hx hb dJ6_bitCount_0f7a4_2 (by decide) ?_
  refine lv_iushr hx hb dJ6_bitCount_0f7a4_3 rfl ?_
  refine lv_topi (fun x_1 ex_1 => ?_)
  have zrp0 := z_rng p0
  refine lv_ldcw (v := 1431655765) hx hb hown (hts _ tw_4_103) dJ6_bitCount_0f7a4_4 ?_
  refine lv_iand hx hb dJ6_bitCount_0f7a4_7 ?_
  refine lv_topi (fun x_2 ex_2 => ?_)
  have zrx_1 := z_rng x_1
  have zx_2 : 0 ≤ x_2.toInt ∧ x_2.toInt ≤ 1431655765 := by rw [ex_2]; exact z_andR (by decide)
  refine lv_isub hx hb dJ6_bitCount_0f7a4_8 ?_
  refine lv_topi (fun x_3 ex_3 => ?_)
  refine lv_istore_n (lv' := [(0, .int x_3)]) hx hb dJ6_bitCount_0f7a4_9 rfl hl (by decide) rfl (fun ls hl => ?_)
  refine lv_iload_n hx hb dJ6_bitCount_0f7a4_10 rfl (lv_at hl 0 rfl) ?_
  refine lv_ldcw (v := 858993459) hx hb hown (hts _ tw_4_104) dJ6_bitCount_0f7a4_11 ?_
  refine lv_iand hx hb dJ6_bitCount_0f7a4_14 ?_
  refine lv_topi (fun x_4 ex_4 => ?_)
  have zrx_3 := z_rng x_3
  have zx_4 : 0 ≤ x_4.toInt ∧ x_4.toInt ≤ 858993459 := by rw [ex_4]; exact z_andR (by decide)
  refine lv_iload_n hx hb dJ6_bitCount_0f7a4_15 rfl (lv_at hl 0 rfl) ?_
  refine lv_iconst (v := 2) hx hb dJ6_bitCount_0f7a4_16 (by decide) ?_
  refine lv_iushr hx hb dJ6_bitCount_0f7a4_17 rfl ?_
  refine lv_topi (fun x_5 ex_5 => ?_)
  refine lv_ldcw (v := 858993459) hx hb hown (hts _ tw_4_104) dJ6_bitCount_0f7a4_18 ?_
  refine lv_iand hx hb dJ6_bitCount_0f7a4_21 ?_
  refine lv_topi (fun x_6 ex_6 => ?_)
  have zrx_5 := z_rng x_5
  have zx_6 : 0 ≤ x_6.toInt ∧ x_6.toInt ≤ 858993459 := by rw [ex_6]; exact z_andR (by decide)
  refine lv_iadd hx hb dJ6_bitCount_0f7a4_22 ?_
  refine lv_topi (fun x_7 ex_7 => ?_)
  have zx_7 : x_7.toInt = x_4.toInt + x_6.toInt := by rw [ex_7]; exact z_add rfl rfl (by omega) (by omega)
  refine lv_istore_n (lv' := [(0, .int x_7)]) hx hb dJ6_bitCount_0f7a4_23 rfl hl (by decide) rfl (fun ls hl => ?_)
  refine lv_iload_n hx hb dJ6_bitCount_0f7a4_24 rfl (lv_at hl 0 rfl) ?_
  refine lv_iload_n hx hb dJ6_bitCount_0f7a4_25 rfl (lv_at hl 0 rfl) ?_
  refine lv_iconst (v := 4) hx hb dJ6_bitCount_0f7a4_26 (by decide) ?_
  refine lv_iushr hx hb dJ6_bitCount_0f7a4_27 rfl ?_
  refine lv_topi (fun x_8 ex_8 => ?_)
  refine lv_iadd hx hb dJ6_bitCount_0f7a4_28 ?_
  refine lv_topi (fun x_9 ex_9 => ?_)
  have zrx_8 := z_rng x_8
  refine lv_ldcw (v := 252645135) hx hb hown (hts _ tw_4_105) dJ6_bitCount_0f7a4_29 ?_
  refine lv_iand hx hb dJ6_bitCount_0f7a4_32 ?_
  refine lv_topi (fun x_10 ex_10 => ?_)
  have zrx_9 := z_rng x_9
  have zx_10 : 0 ≤ x_10.toInt ∧ x_10.toInt ≤ 252645135 := by rw [ex_10]; exact z_andR (by decide)
  refine lv_istore_n (lv' := [(0, .int x_10)]) hx hb dJ6_bitCount_0f7a4_33 rfl hl (by decide) rfl (fun ls hl => ?_)
  refine lv_iload_n hx hb dJ6_bitCount_0f7a4_34 rfl (lv_at hl 0 rfl) ?_
  refine lv_iload_n hx hb dJ6_bitCount_0f7a4_35 rfl (lv_at hl 0 rfl) ?_
  refine lv_bipush (v := 8) hx hb dJ6_bitCount_0f7a4_36 (by decide) ?_
  refine lv_iushr hx hb dJ6_bitCount_0f7a4_38 rfl ?_
  refine lv_topi (fun x_11 ex_11 => ?_)
  refine lv_iadd hx hb dJ6_bitCount_0f7a4_39 ?_
  refine lv_topi (fun x_12 ex_12 => ?_)
  have zrx_11 := z_rng x_11
  refine lv_istore_n (lv' := [(0, .int x_12)]) hx hb dJ6_bitCount_0f7a4_40 rfl hl (by decide) rfl (fun ls hl => ?_)
  refine lv_iload_n hx hb dJ6_bitCount_0f7a4_41 rfl (lv_at hl 0 rfl) ?_
  refine lv_iload_n hx hb dJ6_bitCount_0f7a4_42 rfl (lv_at hl 0 rfl) ?_
  refine lv_bipush (v := 16) hx hb dJ6_bitCount_0f7a4_43 (by decide) ?_
  refine lv_iushr hx hb dJ6_bitCount_0f7a4_45 rfl ?_
  refine lv_topi (fun x_13 ex_13 => ?_)
  have zrx_12 := z_rng x_12
  refine lv_iadd hx hb dJ6_bitCount_0f7a4_46 ?_
  refine lv_topi (fun x_14 ex_14 => ?_)
  have zrx_13 := z_rng x_13
  refine lv_istore_n (lv' := [(0, .int x_14)]) hx hb dJ6_bitCount_0f7a4_47 rfl hl (by decide) rfl (fun ls hl => ?_)
  refine lv_iload_n hx hb dJ6_bitCount_0f7a4_48 rfl (lv_at hl 0 rfl) ?_
  refine lv_bipush (v := 63) hx hb dJ6_bitCount_0f7a4_49 (by decide) ?_
  refine lv_iand hx hb dJ6_bitCount_0f7a4_51 ?_
  refine lv_topi (fun x_15 ex_15 => ?_)
  have zrx_14 := z_rng x_14
  have zx_15 : 0 ≤ x_15.toInt ∧ x_15.toInt < 64 := by rw [ex_15]; exact z_and _ 6 64 rfl rfl (by decide)
  have hP9 := hP.sub (ws' := []) [] rfl
  have hD9 := hD.sub (ws' := []) [] (by decide) rfl
  exact W.iret (v := x_15) hx hb hr (fun tZ ht hW => ⟨⟨x_15, (), rfl, (show 0 ≤ x_15.toInt ∧ x_15.toInt ≤ 63 from by omega), by rw [ht]; exact hP9, va_K.moved hW.alike hK, hD9⟩, hS.F ht⟩) hS.2.2 dJ6_bitCount_0f7a4_52
