set_option maxHeartbeats 4000000 in
set_option maxRecDepth 100000 in
theorem c_X12_anew (l : Launch) (D : va_G) (k : Nat → ClassId) (mo : Nat) (v0 : Int32) (m1 : Nat) (m2 : Nat) (m3 : Nat) (m4 : Nat) (m5 : Nat) (v6 : Int32) (v7 : Int32) (v8 : Int32) (v9 : Int32) (v10 : Int32) (v11 : Int64) (v12 : Int32) (v13 : Int32) (v14 : Int32) (v15 : Int32) (m16 : Nat) (m17 : Nat) (m18 : Nat) (m19 : Nat) (m20 : Nat) (m21 : Nat) (m22 : Nat) (m23 : Nat) (v24 : Int32) (m25 : Nat) (m26 : Nat) (m27 : Nat) (m28 : Nat) (m29 : Nat) (v30 : Int32) (m31 : Nat) (m32 : Nat) (m33 : Nat) (v34 : Int32) (v35 : Int32) (v36 : Int32) (m37 : Nat) (m38 : Nat) (m39 : Nat) (m40 : Nat) (v41 : Int64) (f16 : Nat → Int32) (f17 : Nat → Int32) (sz : Nat) (h_v6 : 0 ≤ v6.toInt ∧ v6.toInt ≤ 1000) (h_v24 : 0 ≤ v24.toInt ∧ v24.toInt ≤ 1023) (hp_f17_0 : PR 30 6 0 0 8 f17) (hp_f17_1 : PR 30 6 1 0 10 f17) (hp_f17_2 : PR 30 6 2 0 4 f17) (hp_f17_3 : PR 30 6 3 0 6 f17) (hp_f17_4 : PR 30 6 4 0 2 f17) (hp_f17_5 : PR 30 6 5 0 40 f17) : Met l yX12_anew (ww yX12_anew cX12_anew 2 (some .int)) ({ frames := 1, cells := 0, slots := 0, locals := 20 }) (Pre0 D k [(mo, .inr (12, [.int v0, .ref m1, .ref m2, .ref m3, .ref m4, .ref m5, .int v6, .int v7, .int v8, .int v9, .int v10, .long v11, .int v12, .int v13, .int v14, .int v15, .ref m16, .ref m17, .ref m18, .ref m19, .ref m20, .ref m21, .ref m22, .ref m23, .int v24, .ref m25, .ref m26, .ref m27, .ref m28, .ref m29, .int v30, .ref m31, .ref m32, .ref m33, .int v34, .int v35, .int v36, .ref m37, .ref m38, .ref m39, .ref m40, .long v41])), (m16, .inl (k 0, 5, .inl f16)), (m17, .inl (k 0, 30, .inl f17))] sz [.ref mo]) (va_Qi (fun (r : Int32) (u : Int32 × (Nat → Int32)) => match u with | (v0z, f17z) => ((-2) ≤ r.toInt ∧ r.toInt ≤ 40) ∧ (0 ≤ v0z.toInt ∧ v0z.toInt ≤ 0) ∧ (PR 30 6 0 0 8 f17z) ∧ (PR 30 6 1 0 10 f17z) ∧ (PR 30 6 2 0 4 f17z) ∧ (PR 30 6 3 0 6 f17z) ∧ (PR 30 6 4 0 2 f17z) ∧ (PR 30 6 5 0 40 f17z)) (fun (u : Int32 × (Nat → Int32)) tZ => match u with | (v0z, f17z) => Bw D k (va_A [(mo, .inr (12, [.int v0, .ref m1, .ref m2, .ref m3, .ref m4, .ref m5, .int v6, .int v7, .int v8, .int v9, .int v10, .long v11, .int v12, .int v13, .int v14, .int v15, .ref m16, .ref m17, .ref m18, .ref m19, .ref m20, .ref m21, .ref m22, .ref m23, .int v24, .ref m25, .ref m26, .ref m27, .ref m28, .ref m29, .int v30, .ref m31, .ref m32, .ref m33, .int v34, .int v35, .int v36, .ref m37, .ref m38, .ref m39, .ref m40, .long v41])), (m16, .inl (k 0, 5, .inl f16)), (m17, .inl (k 0, 30, .inl f17))] sz) [(mo, .inr (12, [.int v0z, .ref m1, .ref m2, .ref m3, .ref m4, .ref m5, .int v6, .int v7, .int v8, .int v9, .int v10, .long v11, .int v12, .int v13, .int v14, .int v15, .ref m16, .ref m17, .ref m18, .ref m19, .ref m20, .ref m21, .ref m22, .ref m23, .int v24, .ref m25, .ref m26, .ref m27, .ref m28, .ref m29, .int v30, .ref m31, .ref m32, .ref m33, .int v34, .int v35, .int v36, .ref m37, .ref m38, .ref m39, .ref m40, .long v41])), (m16, .inl (k 0, 5, .inl f16)), (m17, .inl (k 0, 30, .inl f17z))] tZ) (va_A [(mo, .inr (12, [.int v0, .ref m1, .ref m2, .ref m3, .ref m4, .ref m5, .int v6, .int v7, .int v8, .int v9, .int v10, .long v11, .int v12, .int v13, .int v14, .int v15, .ref m16, .ref m17, .ref m18, .ref m19, .ref m20, .ref m21, .ref m22, .ref m23, .int v24, .ref m25, .ref m26, .ref m27, .ref m28, .ref m29, .int v30, .ref m31, .ref m32, .ref m33, .int v34, .int v35, .int v36, .ref m37, .ref m38, .ref m39, .ref m40, .long v41])), (m16, .inl (k 0, 5, .inl f16)), (m17, .inl (k 0, 30, .inl f17))] sz)) 0 0 (va_A [(mo, .inr (12, [.int v0, .ref m1, .ref m2, .ref m3, .ref m4, .ref m5, .int v6, .int v7, .int v8, .int v9, .int v10, .long v11, .int v12, .int v13, .int v14, .int v15, .ref m16, .ref m17, .ref m18, .ref m19, .ref m20, .ref m21, .ref m22, .ref m23, .int v24, .ref m25, .ref m26, .ref m27, .ref m28, .ref m29, .int v30, .ref m31, .ref m32, .ref m33, .int v34, .int v35, .int v36, .ref m37, .ref m38, .ref m39, .ref m40, .long v41])), (m16, .inl (k 0, 5, .inl f16)), (m17, .inl (k 0, 30, .inl f17))] sz) := by
  refine Met.ofW (cc := cX12_anew) (maxL := 2) (ret := (some .int)) (by decide +kernel) rfl ?_
  intro p e s m args below meth c s₁ B hml hv
  obtain ⟨rfl, hsz, hP, hK, hD0, hN⟩ := hv
  have hx := B.exec
  have hb := B.bytes
  have hr := B.returns
  have hts : ∀ w ∈ TT, w.before _ s = true := fun w h => atoms_spec (ws := ww yX12_anew cX12_anew 2 (some .int)) B.pre w (List.mem_cons_of_mem _ h)
  have hown : s.vm.findClass RX12 = some m.cls := findClass_of_methodNamed B.named
  have hlocks := B.notSynchronized
  subst hsz
  have hD := hD0.self (sz := s.heap.size)
  generalize hAe : va_A [(mo, .inr (12, [.int v0, .ref m1, .ref m2, .ref m3, .ref m4, .ref m5, .int v6, .int v7, .int v8, .int v9, .int v10, .long v11, .int v12, .int v13, .int v14, .int v15, .ref m16, .ref m17, .ref m18, .ref m19, .ref m20, .ref m21, .ref m22, .ref m23, .int v24, .ref m25, .ref m26, .ref m27, .ref m28, .ref m29, .int v30, .ref m31, .ref m32, .ref m33, .int v34, .int v35, .int v36, .ref m37, .ref m38, .ref m39, .ref m40, .long v41])), (m16, .inl (k 0, 5, .inl f16)), (m17, .inl (k 0, 30, .inl f17))] s.heap.size = A at hD ⊢
  have hA : ∀ q : Nat, s.heap.size ≤ q → A q := fun q h => by rw [← hAe]; exact Or.inr h
  have hS : va_S A s.heap s.heap [] := va_S.rf
  have hl := lv_entry ([.ref mo]) (n := 2) (Nat.le_of_ble_eq_true rfl)
  rw [lg_entry_eq]
  generalize (lg_sl ([.ref mo]) ++ List.replicate (2 - (lg_sl ([.ref mo])).length) Slot.unset).toArray = ls at hl ⊢
  have hl : lv_has ls 2 [(0, .ref mo)] := hl
  refine lv_aload_n hx hb dX12_anew_0 rfl (lv_at hl 0 rfl) ?_
  refine lv_iconst (v := 0) hx hb dX12_anew_1 (by decide) ?_
  refine va_put (D := D) (ci := 12) (v := .int 0) (ty := tyX12 0) (C := RX12) (T := TX12) (N := 42) hx hb hts iT_X12 tyX12 tyX12_ok nmX12 hown hK hP hD hS 0 rfl rfl 0 (by decide) (hts _ tw_6_53) (fun _ h9 => h9) rfl (tyX12_ok 0 (by decide)) rfl rfl (Nat.le_of_ble_eq_true rfl) dX12_anew_2 (fun H locs hP hD hS => ?_)
  have hP : va_P D vwCl [(mo, .inr (12, [.int 0, .ref m1, .ref m2, .ref m3, .ref m4, .ref m5, .int v6, .int v7, .int v8, .int v9, .int v10, .long v11, .int v12, .int v13, .int v14, .int v15, .ref m16, .ref m17, .ref m18, .ref m19, .ref m20, .ref m21, .ref m22, .ref m23, .int v24, .ref m25, .ref m26, .ref m27, .ref m28, .ref m29, .int v30, .ref m31, .ref m32, .ref m33, .int v34, .int v35, .int v36, .ref m37, .ref m38, .ref m39, .ref m40, .long v41])), (m16, .inl (k 0, 5, .inl f16)), (m17, .inl (k 0, 30, .inl f17))] H := hP
  have hD : va_D A [(mo, .inr (12, [.int 0, .ref m1, .ref m2, .ref m3, .ref m4, .ref m5, .int v6, .int v7, .int v8, .int v9, .int v10, .long v11, .int v12, .int v13, .int v14, .int v15, .ref m16, .ref m17, .ref m18, .ref m19, .ref m20, .ref m21, .ref m22, .ref m23, .int v24, .ref m25, .ref m26, .ref m27, .ref m28, .ref m29, .int v30, .ref m31, .ref m32, .ref m33, .int v34, .int v35, .int v36, .ref m37, .ref m38, .ref m39, .ref m40, .long v41])), (m16, .inl (k 0, 5, .inl f16)), (m17, .inl (k 0, 30, .inl f17))] := hD
  refine lv_aload_n hx hb dX12_anew_5 rfl (lv_at hl 0 rfl) ?_
  have hPc := hP.sub (ws' := [(mo, .inr (12, [.int 0, .ref m1, .ref m2, .ref m3, .ref m4, .ref m5, .int v6, .int v7, .int v8, .int v9, .int v10, .long v11, .int v12, .int v13, .int v14, .int v15, .ref m16, .ref m17, .ref m18, .ref m19, .ref m20, .ref m21, .ref m22, .ref m23, .int v24, .ref m25, .ref m26, .ref m27, .ref m28, .ref m29, .int v30, .ref m31, .ref m32, .ref m33, .int v34, .int v35, .int v36, .ref m37, .ref m38, .ref m39, .ref m40, .long v41])), (m16, .inl (k 0, 5, .inl f16))]) [0, 1] rfl
  have hDc := hD.sub (ws' := [(mo, .inr (12, [.int 0, .ref m1, .ref m2, .ref m3, .ref m4, .ref m5, .int v6, .int v7, .int v8, .int v9, .int v10, .long v11, .int v12, .int v13, .int v14, .int v15, .ref m16, .ref m17, .ref m18, .ref m19, .ref m20, .ref m21, .ref m22, .ref m23, .int v24, .ref m25, .ref m26, .ref m27, .ref m28, .ref m29, .int v30, .ref m31, .ref m32, .ref m33, .int v34, .int v35, .int v36, .ref m37, .ref m38, .ref m39, .ref m40, .long v41])), (m16, .inl (k 0, 5, .inl f16))]) [0, 1] (by decide) rfl
  have hFc := va_free (wc := [(mo, .inr (12, [.int 0, .ref m1, .ref m2, .ref m3, .ref m4, .ref m5, .int v6, .int v7, .int v8, .int v9, .int v10, .long v11, .int v12, .int v13, .int v14, .int v15, .ref m16, .ref m17, .ref m18, .ref m19, .ref m20, .ref m21, .ref m22, .ref m23, .int v24, .ref m25, .ref m26, .ref m27, .ref m28, .ref m29, .int v30, .ref m31, .ref m32, .ref m33, .int v34, .int v35, .int v36, .ref m37, .ref m38, .ref m39, .ref m40, .long v41])), (m16, .inl (k 0, 5, .inl f16))]) hD hS hA [0, 1] rfl
  refine va_calli (va_runV (C := RX12) (As := []) (rest := []) ⟨hx, hb, hml, hown, hts⟩ (c_X12_isTown l D k mo 0 m1 m2 m3 m4 m5 v6 v7 v8 v9 v10 v11 v12 v13 v14 v15 m16 m17 m18 m19 m20 m21 m22 m23 v24 m25 m26 m27 m28 m29 v30 m31 m32 m33 v34 v35 v36 m37 m38 m39 m40 v41 f16 H.size (show 0 ≤ v6.toInt ∧ v6.toInt ≤ 1000 from by omega) (show 0 ≤ v24.toInt ∧ v24.toInt ≤ 1023 from by omega)) (cwV 0 hts (gV tw_7_181 tw_7_183 tw_p_71 tw_1_13 tw_7_184) rfl rfl rfl hdV_X12_isTown ⟨Nat.le_of_ble_eq_true rfl, Nat.le_of_ble_eq_true rfl⟩) (cz_V hK hPc hDc hN (ci := 12) (q0 := 0) rfl rfl []) rfl rfl hl.1 rfl (lv_room (Nat.le_of_ble_eq_true rfl)) dX12_anew_6 ⟨Nat.le_of_ble_eq_true rfl, Nat.le_of_ble_eq_true rfl⟩) hS (fun q _ h => hFc q h) hFc (fun r_1 uZ tZ H1 locs ht hvm hw hB hz1 hk1 hS => ?_)
  obtain ⟨hP1, hK1, hD1⟩ := hB
  rw [ht] at hP1
  obtain ⟨hP, hD⟩ := va_join (wr := [(m17, .inl (k 0, 30, .inl f17))]) (w1 := [(mo, .inr (12, [.int 0, .ref m1, .ref m2, .ref m3, .ref m4, .ref m5, .int v6, .int v7, .int v8, .int v9, .int v10, .long v11, .int v12, .int v13, .int v14, .int v15, .ref m16, .ref m17, .ref m18, .ref m19, .ref m20, .ref m21, .ref m22, .ref m23, .int v24, .ref m25, .ref m26, .ref m27, .ref m28, .ref m29, .int v30, .ref m31, .ref m32, .ref m33, .int v34, .int v35, .int v36, .ref m37, .ref m38, .ref m39, .ref m40, .long v41])), (m16, .inl (k 0, 5, .inl f16))]) hP hD [0, 1] [2] rfl rfl (by decide) (by decide) hk1 hFc hP1 hD1
  clear hK1 hP1 hD1 hPc hDc hFc
  clear hk1 hz1 ht hvm
  have hP : va_P D vwCl [(m17, .inl (k 0, 30, .inl f17)), (mo, .inr (12, [.int 0, .ref m1, .ref m2, .ref m3, .ref m4, .ref m5, .int v6, .int v7, .int v8, .int v9, .int v10, .long v11, .int v12, .int v13, .int v14, .int v15, .ref m16, .ref m17, .ref m18, .ref m19, .ref m20, .ref m21, .ref m22, .ref m23, .int v24, .ref m25, .ref m26, .ref m27, .ref m28, .ref m29, .int v30, .ref m31, .ref m32, .ref m33, .int v34, .int v35, .int v36, .ref m37, .ref m38, .ref m39, .ref m40, .long v41])), (m16, .inl (k 0, 5, .inl f16))] H1 := hP
  have hD : va_D A [(m17, .inl (k 0, 30, .inl f17)), (mo, .inr (12, [.int 0, .ref m1, .ref m2, .ref m3, .ref m4, .ref m5, .int v6, .int v7, .int v8, .int v9, .int v10, .long v11, .int v12, .int v13, .int v14, .int v15, .ref m16, .ref m17, .ref m18, .ref m19, .ref m20, .ref m21, .ref m22, .ref m23, .int v24, .ref m25, .ref m26, .ref m27, .ref m28, .ref m29, .int v30, .ref m31, .ref m32, .ref m33, .int v34, .int v35, .int v36, .ref m37, .ref m38, .ref m39, .ref m40, .long v41])), (m16, .inl (k 0, 5, .inl f16))] := hD
  generalize H1 = H at hP hS ⊢
  have hw_2 : (0 ≤ r_1.toInt ∧ r_1.toInt ≤ 1) := hw
  have hw_3 := hw_2
  clear hw
  refine lv_if_ne (tgt := 15) hx hb dX12_anew_9 (by decide) (fun h_4 => ?_) (fun h_4 => ?_)
  · skip
    have zh_4 : ¬ r_1.toInt = 0 := z_ne h_4
    refine lv_aload_n hx hb dX12_anew_15 rfl (lv_at hl 0 rfl) ?_
    refine va_get (D := D) (ci := 12) (v := .ref m17) (C := RX12) (T := TX12) (N := 42) hx hb hts iT_X12 hown hK hP 1 rfl rfl 17 (by decide) (hts _ tw_6_70) (fun _ h9 => h9) rfl dX12_anew_16 ?_
    refine lv_iconst (v := 5) hx hb dX12_anew_19 (by decide) ?_
    refine va_iald hx hb hK hP 0 0 rfl rfl (z_in (by decide) (by decide)) dX12_anew_20 ?_
    refine lv_topi (fun x_5 ex_5 => ?_)
    have zx_5r5 : 0 ≤ x_5.toInt ∧ x_5.toInt ≤ 40 := by rw [ex_5]; exact PR.ld hp_f17_5 (by decide) (by decide) (by decide)
    refine lv_istore_n (lv' := [(1, .int x_5), (0, .ref mo)]) hx hb dX12_anew_21 rfl hl (by decide) rfl (fun ls hl => ?_)
    refine lv_aload_n hx hb dX12_anew_22 rfl (lv_at hl 1 rfl) ?_
    refine va_get (D := D) (ci := 12) (v := .ref m17) (C := RX12) (T := TX12) (N := 42) hx hb hts iT_X12 hown hK hP 1 rfl rfl 17 (by decide) (hts _ tw_6_70) (fun _ h9 => h9) rfl dX12_anew_23 ?_
    refine lv_iconst (v := 5) hx hb dX12_anew_26 (by decide) ?_
    refine lv_iconst (v := 0) hx hb dX12_anew_27 (by decide) ?_
    refine va_iast hx hb hK hP hD hS 0 0 rfl rfl (z_in (by decide) (by decide)) dX12_anew_28 (fun H locs hP hD hS => ?_)
    obtain ⟨g_6, eg_6⟩ : ∃ z : Nat → Int32, upd f17 5 0 = z := ⟨_, rfl⟩
    have hP : va_P D vwCl [(m17, .inl (k 0, 30, .inl (upd f17 5 0))), (mo, .inr (12, [.int 0, .ref m1, .ref m2, .ref m3, .ref m4, .ref m5, .int v6, .int v7, .int v8, .int v9, .int v10, .long v11, .int v12, .int v13, .int v14, .int v15, .ref m16, .ref m17, .ref m18, .ref m19, .ref m20, .ref m21, .ref m22, .ref m23, .int v24, .ref m25, .ref m26, .ref m27, .ref m28, .ref m29, .int v30, .ref m31, .ref m32, .ref m33, .int v34, .int v35, .int v36, .ref m37, .ref m38, .ref m39, .ref m40, .long v41])), (m16, .inl (k 0, 5, .inl f16))] H := hP
    have hD : va_D A [(m17, .inl (k 0, 30, .inl (upd f17 5 0))), (mo, .inr (12, [.int 0, .ref m1, .ref m2, .ref m3, .ref m4, .ref m5, .int v6, .int v7, .int v8, .int v9, .int v10, .long v11, .int v12, .int v13, .int v14, .int v15, .ref m16, .ref m17, .ref m18, .ref m19, .ref m20, .ref m21, .ref m22, .ref m23, .int v24, .ref m25, .ref m26, .ref m27, .ref m28, .ref m29, .int v30, .ref m31, .ref m32, .ref m33, .int v34, .int v35, .int v36, .ref m37, .ref m38, .ref m39, .ref m40, .long v41])), (m16, .inl (k 0, 5, .inl f16))] := hD
    rw [eg_6] at hP hD
    have hp_7 : PR 30 6 0 0 8 g_6 := by rw [← eg_6]; exact PR.other hp_f17_0 (by decide)
    have hp_8 : PR 30 6 1 0 10 g_6 := by rw [← eg_6]; exact PR.other hp_f17_1 (by decide)
    have hp_9 : PR 30 6 2 0 4 g_6 := by rw [← eg_6]; exact PR.other hp_f17_2 (by decide)
    have hp_10 : PR 30 6 3 0 6 g_6 := by rw [← eg_6]; exact PR.other hp_f17_3 (by decide)
    have hp_11 : PR 30 6 4 0 2 g_6 := by rw [← eg_6]; exact PR.other hp_f17_4 (by decide)
    have hp_12 : PR 30 6 5 0 40 g_6 := by rw [← eg_6]; exact PR.put hp_f17_5 ⟨by decide, by decide⟩
    refine lv_iload_n hx hb dX12_anew_29 rfl (lv_at hl 0 rfl) ?_
    have hP9 := hP.sub (ws' := [(mo, .inr (12, [.int 0, .ref m1, .ref m2, .ref m3, .ref m4, .ref m5, .int v6, .int v7, .int v8, .int v9, .int v10, .long v11, .int v12, .int v13, .int v14, .int v15, .ref m16, .ref m17, .ref m18, .ref m19, .ref m20, .ref m21, .ref m22, .ref m23, .int v24, .ref m25, .ref m26, .ref m27, .ref m28, .ref m29, .int v30, .ref m31, .ref m32, .ref m33, .int v34, .int v35, .int v36, .ref m37, .ref m38, .ref m39, .ref m40, .long v41])), (m16, .inl (k 0, 5, .inl f16)), (m17, .inl (k 0, 30, .inl g_6))]) [1, 2, 0] rfl
    have hD9 := hD.sub (ws' := [(mo, .inr (12, [.int 0, .ref m1, .ref m2, .ref m3, .ref m4, .ref m5, .int v6, .int v7, .int v8, .int v9, .int v10, .long v11, .int v12, .int v13, .int v14, .int v15, .ref m16, .ref m17, .ref m18, .ref m19, .ref m20, .ref m21, .ref m22, .ref m23, .int v24, .ref m25, .ref m26, .ref m27, .ref m28, .ref m29, .int v30, .ref m31, .ref m32, .ref m33, .int v34, .int v35, .int v36, .ref m37, .ref m38, .ref m39, .ref m40, .long v41])), (m16, .inl (k 0, 5, .inl f16)), (m17, .inl (k 0, 30, .inl g_6))]) [1, 2, 0] (by decide) rfl
    exact W.iret (v := x_5) hx hb hr (fun tZ ht hW => ⟨⟨x_5, (0, g_6), rfl, ⟨(show (-2) ≤ x_5.toInt ∧ x_5.toInt ≤ 40 from by omega), (show 0 ≤ 0 ∧ 0 ≤ 0 from by omega), hp_7, hp_8, hp_9, hp_10, hp_11, hp_12⟩, by rw [ht]; exact hP9, va_K.moved hW.alike hK, hD9⟩, hS.F ht⟩) hS.2.2 dX12_anew_30
  · skip
    have zh_4 : r_1.toInt = 0 := z_eq h_4
    refine lv_bipush (v := (-2)) hx hb dX12_anew_12 (by decide) ?_
    have hP9 := hP.sub (ws' := [(mo, .inr (12, [.int 0, .ref m1, .ref m2, .ref m3, .ref m4, .ref m5, .int v6, .int v7, .int v8, .int v9, .int v10, .long v11, .int v12, .int v13, .int v14, .int v15, .ref m16, .ref m17, .ref m18, .ref m19, .ref m20, .ref m21, .ref m22, .ref m23, .int v24, .ref m25, .ref m26, .ref m27, .ref m28, .ref m29, .int v30, .ref m31, .ref m32, .ref m33, .int v34, .int v35, .int v36, .ref m37, .ref m38, .ref m39, .ref m40, .long v41])), (m16, .inl (k 0, 5, .inl f16)), (m17, .inl (k 0, 30, .inl f17))]) [1, 2, 0] rfl
    have hD9 := hD.sub (ws' := [(mo, .inr (12, [.int 0, .ref m1, .ref m2, .ref m3, .ref m4, .ref m5, .int v6, .int v7, .int v8, .int v9, .int v10, .long v11, .int v12, .int v13, .int v14, .int v15, .ref m16, .ref m17, .ref m18, .ref m19, .ref m20, .ref m21, .ref m22, .ref m23, .int v24, .ref m25, .ref m26, .ref m27, .ref m28, .ref m29, .int v30, .ref m31, .ref m32, .ref m33, .int v34, .int v35, .int v36, .ref m37, .ref m38, .ref m39, .ref m40, .long v41])), (m16, .inl (k 0, 5, .inl f16)), (m17, .inl (k 0, 30, .inl f17))]) [1, 2, 0] (by decide) rfl
    exact W.iret (v := (-2)) hx hb hr (fun tZ ht hW => ⟨⟨(-2), (0, f17), rfl, ⟨(show (-2) ≤ (-2) ∧ (-2) ≤ 40 from by omega), (show 0 ≤ 0 ∧ 0 ≤ 0 from by omega), hp_f17_0, hp_f17_1, hp_f17_2, hp_f17_3, hp_f17_4, hp_f17_5⟩, by rw [ht]; exact hP9, va_K.moved hW.alike hK, hD9⟩, hS.F ht⟩) hS.2.2 dX12_anew_14
set_option maxHeartbeats 4000000 in
set_option maxRecDepth 100000 in
theorem c_X12_drawnMud (l : Launch) (D : va_G) (k : Nat → ClassId) (mo : Nat) (p0 : Int64) (v0 : Int32) (m1 : Nat) (m2 : Nat) (m3 : Nat) (m4 : Nat) (m5 : Nat) (v6 : Int32) (v7 : Int32) (v8 : Int32) (v9 : Int32) (v10 : Int32) (v11 : Int64) (v12 : Int32) (v13 : Int32) (v14 : Int32) (v15 : Int32) (m16 : Nat) (m17 : Nat) (m18 : Nat) (m19 : Nat) (m20 : Nat) (m21 : Nat) (m22 : Nat) (m23 : Nat) (v24 : Int32) (m25 : Nat) (m26 : Nat) (m27 : Nat) (m28 : Nat) (m29 : Nat) (v30 : Int32) (m31 : Nat) (m32 : Nat) (m33 : Nat) (v34 : Int32) (v35 : Int32) (v36 : Int32) (m37 : Nat) (m38 : Nat) (m39 : Nat) (m40 : Nat) (v41 : Int64) (f17 : Nat → Int32) (f18 : Nat → Int32) (sz : Nat) (h_v6 : 0 ≤ v6.toInt ∧ v6.toInt ≤ 1000) (h_v24 : 0 ≤ v24.toInt ∧ v24.toInt ≤ 1023) (hp_f17_0 : PR 30 6 0 0 8 f17) (hp_f17_1 : PR 30 6 1 0 10 f17) (hp_f17_2 : PR 30 6 2 0 4 f17) (hp_f17_3 : PR 30 6 3 0 6 f17) (hp_f17_4 : PR 30 6 4 0 2 f17) (hp_f17_5 : PR 30 6 5 0 40 f17) (hp_f18_0 : PR 250 5 0 0 7 f18) (hp_f18_1 : PR 250 5 1 0 7 f18) (hp_f18_2 : PR 250 5 2 1 60 f18) (hp_f18_3 : PR 250 5 3 0 10 f18) : Met l yX12_drawnMud (ww yX12_drawnMud cX12_drawnMud 7 (some .int)) ({ frames := 0, cells := 0, slots := 0, locals := 0 }) (Pre0 D k [(mo, .inr (12, [.int v0, .ref m1, .ref m2, .ref m3, .ref m4, .ref m5, .int v6, .int v7, .int v8, .int v9, .int v10, .long v11, .int v12, .int v13, .int v14, .int v15, .ref m16, .ref m17, .ref m18, .ref m19, .ref m20, .ref m21, .ref m22, .ref m23, .int v24, .ref m25, .ref m26, .ref m27, .ref m28, .ref m29, .int v30, .ref m31, .ref m32, .ref m33, .int v34, .int v35, .int v36, .ref m37, .ref m38, .ref m39, .ref m40, .long v41])), (m17, .inl (k 0, 30, .inl f17)), (m18, .inl (k 0, 250, .inl f18))] sz [.ref mo, .long p0]) (va_Qi (fun (r : Int32) (_ : Unit) => True) (fun (_ : Unit) tZ => Bw D k (va_A [(mo, .inr (12, [.int v0, .ref m1, .ref m2, .ref m3, .ref m4, .ref m5, .int v6, .int v7, .int v8, .int v9, .int v10, .long v11, .int v12, .int v13, .int v14, .int v15, .ref m16, .ref m17, .ref m18, .ref m19, .ref m20, .ref m21, .ref m22, .ref m23, .int v24, .ref m25, .ref m26, .ref m27, .ref m28, .ref m29, .int v30, .ref m31, .ref m32, .ref m33, .int v34, .int v35, .int v36, .ref m37, .ref m38, .ref m39, .ref m40, .long v41])), (m17, .inl (k 0, 30, .inl f17)), (m18, .inl (k 0, 250, .inl f18))] sz) [(mo, .inr (12, [.int v0, .ref m1, .ref m2, .ref m3, .ref m4, .ref m5, .int v6, .int v7, .int v8, .int v9, .int v10, .long v11, .int v12, .int v13, .int v14, .int v15, .ref m16, .ref m17, .ref m18, .ref m19, .ref m20, .ref m21, .ref m22, .ref m23, .int v24, .ref m25, .ref m26, .ref m27, .ref m28, .ref m29, .int v30, .ref m31, .ref m32, .ref m33, .int v34, .int v35, .int v36, .ref m37, .ref m38, .ref m39, .ref m40, .long v41])), (m17, .inl (k 0, 30, .inl f17)), (m18, .inl (k 0, 250, .inl f18))] tZ) (va_A [(mo, .inr (12, [.int v0, .ref m1, .ref m2, .ref m3, .ref m4, .ref m5, .int v6, .int v7, .int v8, .int v9, .int v10, .long v11, .int v12, .int v13, .int v14, .int v15, .ref m16, .ref m17, .ref m18, .ref m19, .ref m20, .ref m21, .ref m22, .ref m23, .int v24, .ref m25, .ref m26, .ref m27, .ref m28, .ref m29, .int v30, .ref m31, .ref m32, .ref m33, .int v34, .int v35, .int v36, .ref m37, .ref m38, .ref m39, .ref m40, .long v41])), (m17, .inl (k 0, 30, .inl f17)), (m18, .inl (k 0, 250, .inl f18))] sz)) 0 0 (va_A [(mo, .inr (12, [.int v0, .ref m1, .ref m2, .ref m3, .ref m4, .ref m5, .int v6, .int v7, .int v8, .int v9, .int v10, .long v11, .int v12, .int v13, .int v14, .int v15, .ref m16, .ref m17, .ref m18, .ref m19, .ref m20, .ref m21, .ref m22, .ref m23, .int v24, .ref m25, .ref m26, .ref m27, .ref m28, .ref m29, .int v30, .ref m31, .ref m32, .ref m33, .int v34, .int v35, .int v36, .ref m37, .ref m38, .ref m39, .ref m40, .long v41])), (m17, .inl (k 0, 30, .inl f17)), (m18, .inl (k 0, 250, .inl f18))] sz) := by
  refine Met.ofW (cc := cX12_drawnMud) (maxL := 7) (ret := (some .int)) (by decide +kernel) rfl ?_
  intro p e s m args below meth c s₁ B hml hv
  obtain ⟨rfl, hsz, hP, hK, hD0, hN⟩ := hv
  have hx := B.exec
  have hb := B.bytes
  have hr := B.returns
  have hts : ∀ w ∈ TT, w.before _ s = true := fun w h => atoms_spec (ws := ww yX12_drawnMud cX12_drawnMud 7 (some .int)) B.pre w (List.mem_cons_of_mem _ h)
  have hown : s.vm.findClass RX12 = some m.cls := findClass_of_methodNamed B.named
  have hlocks := B.notSynchronized
  subst hsz
  have hD := hD0.self (sz := s.heap.size)
  generalize hAe : va_A [(mo, .inr (12, [.int v0, .ref m1, .ref m2, .ref m3, .ref m4, .ref m5, .int v6, .int v7, .int v8, .int v9, .int v10, .long v11, .int v12, .int v13, .int v14, .int v15, .ref m16, .ref m17, .ref m18, .ref m19, .ref m20, .ref m21, .ref m22, .ref m23, .int v24, .ref m25, .ref m26, .ref m27, .ref m28, .ref m29, .int v30, .ref m31, .ref m32, .ref m33, .int v34, .int v35, .int v36, .ref m37, .ref m38, .ref m39, .ref m40, .long v41])), (m17, .inl (k 0, 30, .inl f17)), (m18, .inl (k 0, 250, .inl f18))] s.heap.size = A at hD ⊢
  have hA : ∀ q : Nat, s.heap.size ≤ q → A q := fun q h => by rw [← hAe]; exact Or.inr h
  have hS : va_S A s.heap s.heap [] := va_S.rf
  have hl := lv_entry ([.ref mo, .long p0]) (n := 7) (Nat.le_of_ble_eq_true rfl)
  rw [lg_entry_eq]
  generalize (lg_sl ([.ref mo, .long p0]) ++ List.replicate (7 - (lg_sl ([.ref mo, .long p0])).length) Slot.unset).toArray = ls at hl ⊢
  have hl : lv_has ls 7 [(0, .ref mo), (1, .long p0)] := hl
  refine lv_lload_n hx hb dX12_drawnMud_0 rfl (lv_at hl 1 rfl) ?_
  refine lv_lstore_n (lv' := [(3, .long p0), (0, .ref mo), (1, .long p0)]) hx hb dX12_drawnMud_1 rfl hl (by decide) rfl (fun ls hl => ?_)
  refine lv_iconst (v := 0) hx hb dX12_drawnMud_2 (by decide) ?_
  refine lv_istore (lv' := [(5, .int 0), (3, .long p0), (0, .ref mo), (1, .long p0)]) hx hb dX12_drawnMud_3 hl (by decide) rfl (fun ls hl => ?_)
  refine lv_iconst (v := 0) hx hb dX12_drawnMud_5 (by decide) ?_
  refine lv_istore (lv' := [(6, .int 0), (5, .int 0), (3, .long p0), (0, .ref mo), (1, .long p0)]) hx hb dX12_drawnMud_6 hl (by decide) rfl (fun ls hl => ?_)
  refine loop_r (Wg := fun H locs ls => W p l e _ s m _ below meth c H locs _ _ _ (F0 m 8 ls [])) (fun n9 H locs ls => ∃ (L8l3 : Int64) (L8l5 : Int32) (L8l6 : Int32), n9 = (10 - L8l6.toInt).toNat ∧ (0 ≤ L8l6.toInt ∧ L8l6.toInt ≤ 10) ∧ va_P D vwCl [(mo, .inr (12, [.int v0, .ref m1, .ref m2, .ref m3, .ref m4, .ref m5, .int v6, .int v7, .int v8, .int v9, .int v10, .long v11, .int v12, .int v13, .int v14, .int v15, .ref m16, .ref m17, .ref m18, .ref m19, .ref m20, .ref m21, .ref m22, .ref m23, .int v24, .ref m25, .ref m26, .ref m27, .ref m28, .ref m29, .int v30, .ref m31, .ref m32, .ref m33, .int v34, .int v35, .int v36, .ref m37, .ref m38, .ref m39, .ref m40, .long v41])), (m17, .inl (k 0, 30, .inl f17)), (m18, .inl (k 0, 250, .inl f18))] H ∧ va_D A [(mo, .inr (12, [.int v0, .ref m1, .ref m2, .ref m3, .ref m4, .ref m5, .int v6, .int v7, .int v8, .int v9, .int v10, .long v11, .int v12, .int v13, .int v14, .int v15, .ref m16, .ref m17, .ref m18, .ref m19, .ref m20, .ref m21, .ref m22, .ref m23, .int v24, .ref m25, .ref m26, .ref m27, .ref m28, .ref m29, .int v30, .ref m31, .ref m32, .ref m33, .int v34, .int v35, .int v36, .ref m37, .ref m38, .ref m39, .ref m40, .long v41])), (m17, .inl (k 0, 30, .inl f17)), (m18, .inl (k 0, 250, .inl f18))] ∧ va_S A s.heap H locs ∧ lv_has ls 7 [(0, .ref mo), (1, .long p0), (3, .long L8l3), (5, .int L8l5), (6, .int L8l6)]) (fun n9 H locs ls hI ih_1 => ?_) _ _ _ _ ⟨p0, 0, 0, rfl, (show 0 ≤ 0 ∧ 0 ≤ 10 from by omega), hP.sub (ws' := [(mo, .inr (12, [.int v0, .ref m1, .ref m2, .ref m3, .ref m4, .ref m5, .int v6, .int v7, .int v8, .int v9, .int v10, .long v11, .int v12, .int v13, .int v14, .int v15, .ref m16, .ref m17, .ref m18, .ref m19, .ref m20, .ref m21, .ref m22, .ref m23, .int v24, .ref m25, .ref m26, .ref m27, .ref m28, .ref m29, .int v30, .ref m31, .ref m32, .ref m33, .int v34, .int v35, .int v36, .ref m37, .ref m38, .ref m39, .ref m40, .long v41])), (m17, .inl (k 0, 30, .inl f17)), (m18, .inl (k 0, 250, .inl f18))]) [0, 1, 2] rfl, hD.sub (ws' := [(mo, .inr (12, [.int v0, .ref m1, .ref m2, .ref m3, .ref m4, .ref m5, .int v6, .int v7, .int v8, .int v9, .int v10, .long v11, .int v12, .int v13, .int v14, .int v15, .ref m16, .ref m17, .ref m18, .ref m19, .ref m20, .ref m21, .ref m22, .ref m23, .int v24, .ref m25, .ref m26, .ref m27, .ref m28, .ref m29, .int v30, .ref m31, .ref m32, .ref m33, .int v34, .int v35, .int v36, .ref m37, .ref m38, .ref m39, .ref m40, .long v41])), (m17, .inl (k 0, 30, .inl f17)), (m18, .inl (k 0, 250, .inl f18))]) [0, 1, 2] (by decide) rfl, hS, lv_sub hl [3, 4, 2, 1, 0] rfl⟩
  clear hP hD hS hl
  obtain ⟨L8l3, L8l5, L8l6, en_2, zL8l6, hP, hD, hS, hl⟩ := hI
  refine lv_iload hx hb dX12_drawnMud_8 (lv_at hl 4 rfl) ?_
  refine lv_aload_n hx hb dX12_drawnMud_10 rfl (lv_at hl 0 rfl) ?_
  refine va_get (D := D) (ci := 12) (v := .ref m17) (C := RX12) (T := TX12) (N := 42) hx hb hts iT_X12 hown hK hP 0 rfl rfl 17 (by decide) (hts _ tw_6_70) (fun _ h9 => h9) rfl dX12_drawnMud_11 ?_
  refine lv_iconst (v := 1) hx hb dX12_drawnMud_14 (by decide) ?_
  refine va_iald hx hb hK hP 1 0 rfl rfl (z_in (by decide) (by decide)) dX12_drawnMud_15 ?_
  refine lv_topi (fun x_3 ex_3 => ?_)
  have zx_3r1 : 0 ≤ x_3.toInt ∧ x_3.toInt ≤ 10 := by rw [ex_3]; exact PR.ld hp_f17_1 (by decide) (by decide) (by decide)
  refine lv_icmp_ge (tgt := 77) hx hb dX12_drawnMud_16 (by decide) (fun h_4 => ?_) (fun h_4 => ?_)
  · skip
    have zh_4 : x_3.toInt ≤ L8l6.toInt := z_le h_4
    refine lv_iload hx hb dX12_drawnMud_77 (lv_at hl 3 rfl) ?_
    have hP9 := hP.sub (ws' := [(mo, .inr (12, [.int v0, .ref m1, .ref m2, .ref m3, .ref m4, .ref m5, .int v6, .int v7, .int v8, .int v9, .int v10, .long v11, .int v12, .int v13, .int v14, .int v15, .ref m16, .ref m17, .ref m18, .ref m19, .ref m20, .ref m21, .ref m22, .ref m23, .int v24, .ref m25, .ref m26, .ref m27, .ref m28, .ref m29, .int v30, .ref m31, .ref m32, .ref m33, .int v34, .int v35, .int v36, .ref m37, .ref m38, .ref m39, .ref m40, .long v41])), (m17, .inl (k 0, 30, .inl f17)), (m18, .inl (k 0, 250, .inl f18))]) [0, 1, 2] rfl
    have hD9 := hD.sub (ws' := [(mo, .inr (12, [.int v0, .ref m1, .ref m2, .ref m3, .ref m4, .ref m5, .int v6, .int v7, .int v8, .int v9, .int v10, .long v11, .int v12, .int v13, .int v14, .int v15, .ref m16, .ref m17, .ref m18, .ref m19, .ref m20, .ref m21, .ref m22, .ref m23, .int v24, .ref m25, .ref m26, .ref m27, .ref m28, .ref m29, .int v30, .ref m31, .ref m32, .ref m33, .int v34, .int v35, .int v36, .ref m37, .ref m38, .ref m39, .ref m40, .long v41])), (m17, .inl (k 0, 30, .inl f17)), (m18, .inl (k 0, 250, .inl f18))]) [0, 1, 2] (by decide) rfl
    exact W.iret (v := L8l5) hx hb hr (fun tZ ht hW => ⟨⟨L8l5, (), rfl, trivial, by rw [ht]; exact hP9, va_K.moved hW.alike hK, hD9⟩, hS.F ht⟩) hS.2.2 dX12_drawnMud_79
  · skip
    have zh_4 : L8l6.toInt < x_3.toInt := z_nle h_4
    refine lv_ldc2 (v := 1103515245) hx hb hown (hts _ tw_8_237) dX12_drawnMud_19 ?_
    refine lv_lload_n hx hb dX12_drawnMud_22 rfl (lv_at hl 2 rfl) ?_
    refine lv_lmul hx hb dX12_drawnMud_23 ?_
    refine lv_topl (fun x_5 ex_5 => ?_)
    refine lv_ldc2 (v := 12345) hx hb hown (hts _ tw_8_238) dX12_drawnMud_24 ?_
    refine lv_ladd hx hb dX12_drawnMud_27 ?_
    refine lv_topl (fun x_6 ex_6 => ?_)
    refine lv_ldc2 (v := 2147483648) hx hb hown (hts _ tw_8_239) dX12_drawnMud_28 ?_
    refine lv_lrem hx hb dX12_drawnMud_31 (by decide) ?_
    refine lv_topl (fun x_7 ex_7 => ?_)
    refine lv_lstore_n (lv' := [(3, .long x_7), (0, .ref mo), (1, .long p0), (5, .int L8l5), (6, .int L8l6)]) hx hb dX12_drawnMud_32 rfl hl (by decide) rfl (fun ls hl => ?_)
    refine lv_iload hx hb dX12_drawnMud_33 (lv_at hl 3 rfl) ?_
    refine lv_lload_n hx hb dX12_drawnMud_35 rfl (lv_at hl 0 rfl) ?_
    refine lv_ldc2 (v := 65536) hx hb hown (hts _ tw_9_0) dX12_drawnMud_36 ?_
    refine lv_ldiv hx hb dX12_drawnMud_39 (by decide) ?_
    refine lv_topl (fun x_8 ex_8 => ?_)
    refine lv_ldc2 (v := 10) hx hb hown (hts _ tw_8_191) dX12_drawnMud_40 ?_
    refine lv_lrem hx hb dX12_drawnMud_43 (by decide) ?_
    refine lv_topl (fun x_9 ex_9 => ?_)
    refine lv_aload_n hx hb dX12_drawnMud_44 rfl (lv_at hl 1 rfl) ?_
    refine va_get (D := D) (ci := 12) (v := .ref m18) (C := RX12) (T := TX12) (N := 42) hx hb hts iT_X12 hown hK hP 0 rfl rfl 18 (by decide) (hts _ tw_6_71) (fun _ h9 => h9) rfl dX12_drawnMud_45 ?_
    refine lv_iconst (v := 5) hx hb dX12_drawnMud_48 (by decide) ?_
    refine lv_iload hx hb dX12_drawnMud_49 (lv_at hl 4 rfl) ?_
    refine lv_imul hx hb dX12_drawnMud_51 ?_
    refine lv_topi (fun x_10 ex_10 => ?_)
    have zx_10 : x_10.toInt = 5 * L8l6.toInt := by rw [ex_10]; exact z_mul rfl rfl (by omega) (by omega)
    refine lv_iconst (v := 3) hx hb dX12_drawnMud_52 (by decide) ?_
    refine lv_iadd hx hb dX12_drawnMud_53 ?_
    refine lv_topi (fun x_11 ex_11 => ?_)
    have zx_11 : x_11.toInt = x_10.toInt + 3 := by rw [ex_11]; exact z_add rfl rfl (by omega) (by omega)
    refine va_iald hx hb hK hP 2 0 rfl rfl (z_in (by omega) (by omega)) dX12_drawnMud_54 ?_
    refine lv_topi (fun x_12 ex_12 => ?_)
    have zx_12r3 : 0 ≤ x_12.toInt ∧ x_12.toInt ≤ 10 := by rw [ex_12]; exact PR.ld hp_f18_3 (by omega) (by omega) (by omega)
    refine lv_i2l (v := x_12.toInt64) hx hb dX12_drawnMud_55 rfl ?_
    refine W.lcmp hx hb dX12_drawnMud_56 ?_
    refine lv_if_ge (tgt := 67) hx hb dX12_drawnMud_57 (by decide) (fun h_13 => ?_) (fun h_13 => ?_)
    · skip
      have zh_13 : x_12.toInt ≤ x_9.toInt := zL_ge h_13 rfl (Int32.toInt_toInt64 _)
      refine lv_iconst (v := 0) hx hb dX12_drawnMud_67 (by decide) ?_
      refine lv_ior hx hb dX12_drawnMud_68 ?_
      refine lv_topi (fun x_14 ex_14 => ?_)
      have zrL8l5 := z_rng L8l5
      refine lv_istore (lv' := [(5, .int x_14), (3, .long x_7), (0, .ref mo), (1, .long p0), (6, .int L8l6)]) hx hb dX12_drawnMud_69 hl (by decide) rfl (fun ls hl => ?_)
      obtain ⟨x_15, ex_15⟩ : ∃ y : Int32, y = L8l6 + 1 := ⟨_, rfl⟩
      have zx_15 : x_15.toInt = L8l6.toInt + 1 := by rw [ex_15]; exact z_add rfl rfl (by omega) (by omega)
      refine lv_iinc (v := x_15) (lv' := [(6, .int x_15), (5, .int x_14), (3, .long x_7), (0, .ref mo), (1, .long p0)]) hx hb dX12_drawnMud_71 hl (k := 4) rfl (by rw [ex_15]; rfl) (by decide) rfl (fun ls hl => ?_)
      refine lv_goto (tgt := 8) hx hb dX12_drawnMud_74 (by decide) ?_
      exact ih_1 _ _ _ _ (by omega) ⟨x_7, x_14, x_15, rfl, (show 0 ≤ x_15.toInt ∧ x_15.toInt ≤ 10 from by omega), hP.sub (ws' := [(mo, .inr (12, [.int v0, .ref m1, .ref m2, .ref m3, .ref m4, .ref m5, .int v6, .int v7, .int v8, .int v9, .int v10, .long v11, .int v12, .int v13, .int v14, .int v15, .ref m16, .ref m17, .ref m18, .ref m19, .ref m20, .ref m21, .ref m22, .ref m23, .int v24, .ref m25, .ref m26, .ref m27, .ref m28, .ref m29, .int v30, .ref m31, .ref m32, .ref m33, .int v34, .int v35, .int v36, .ref m37, .ref m38, .ref m39, .ref m40, .long v41])), (m17, .inl (k 0, 30, .inl f17)), (m18, .inl (k 0, 250, .inl f18))]) [0, 1, 2] rfl, hD.sub (ws' := [(mo, .inr (12, [.int v0, .ref m1, .ref m2, .ref m3, .ref m4, .ref m5, .int v6, .int v7, .int v8, .int v9, .int v10, .long v11, .int v12, .int v13, .int v14, .int v15, .ref m16, .ref m17, .ref m18, .ref m19, .ref m20, .ref m21, .ref m22, .ref m23, .int v24, .ref m25, .ref m26, .ref m27, .ref m28, .ref m29, .int v30, .ref m31, .ref m32, .ref m33, .int v34, .int v35, .int v36, .ref m37, .ref m38, .ref m39, .ref m40, .long v41])), (m17, .inl (k 0, 30, .inl f17)), (m18, .inl (k 0, 250, .inl f18))]) [0, 1, 2] (by decide) rfl, hS, lv_sub hl [3, 4, 2, 1, 0] rfl⟩
    · skip
      have zh_13 : x_9.toInt < x_12.toInt := zL_nge h_13 rfl (Int32.toInt_toInt64 _)
      refine lv_iconst (v := 1) hx hb dX12_drawnMud_60 (by decide) ?_
      refine lv_iload hx hb dX12_drawnMud_61 (lv_at hl 4 rfl) ?_
      refine lv_ishl hx hb dX12_drawnMud_63 ?_
      refine lv_topi (fun x_16 ex_16 => ?_)
      have zx_16 : 1 ≤ x_16.toInt ∧ x_16.toInt ≤ 512 := by rw [ex_16]; exact z_shl1 9 512 rfl (by decide) (by omega) (by omega)
      refine lv_goto (tgt := 68) hx hb dX12_drawnMud_64 (by decide) ?_
      refine lv_ior hx hb dX12_drawnMud_68 ?_
      refine lv_topi (fun x_17 ex_17 => ?_)
      have zrL8l5 := z_rng L8l5
      refine lv_istore (lv' := [(5, .int x_17), (3, .long x_7), (0, .ref mo), (1, .long p0), (6, .int L8l6)]) hx hb dX12_drawnMud_69 hl (by decide) rfl (fun ls hl => ?_)
      obtain ⟨x_18, ex_18⟩ : ∃ y : Int32, y = L8l6 + 1 := ⟨_, rfl⟩
      have zx_18 : x_18.toInt = L8l6.toInt + 1 := by rw [ex_18]; exact z_add rfl rfl (by omega) (by omega)
      refine lv_iinc (v := x_18) (lv' := [(6, .int x_18), (5, .int x_17), (3, .long x_7), (0, .ref mo), (1, .long p0)]) hx hb dX12_drawnMud_71 hl (k := 4) rfl (by rw [ex_18]; rfl) (by decide) rfl (fun ls hl => ?_)
      refine lv_goto (tgt := 8) hx hb dX12_drawnMud_74 (by decide) ?_
      exact ih_1 _ _ _ _ (by omega) ⟨x_7, x_17, x_18, rfl, (show 0 ≤ x_18.toInt ∧ x_18.toInt ≤ 10 from by omega), hP.sub (ws' := [(mo, .inr (12, [.int v0, .ref m1, .ref m2, .ref m3, .ref m4, .ref m5, .int v6, .int v7, .int v8, .int v9, .int v10, .long v11, .int v12, .int v13, .int v14, .int v15, .ref m16, .ref m17, .ref m18, .ref m19, .ref m20, .ref m21, .ref m22, .ref m23, .int v24, .ref m25, .ref m26, .ref m27, .ref m28, .ref m29, .int v30, .ref m31, .ref m32, .ref m33, .int v34, .int v35, .int v36, .ref m37, .ref m38, .ref m39, .ref m40, .long v41])), (m17, .inl (k 0, 30, .inl f17)), (m18, .inl (k 0, 250, .inl f18))]) [0, 1, 2] rfl, hD.sub (ws' := [(mo, .inr (12, [.int v0, .ref m1, .ref m2, .ref m3, .ref m4, .ref m5, .int v6, .int v7, .int v8, .int v9, .int v10, .long v11, .int v12, .int v13, .int v14, .int v15, .ref m16, .ref m17, .ref m18, .ref m19, .ref m20, .ref m21, .ref m22, .ref m23, .int v24, .ref m25, .ref m26, .ref m27, .ref m28, .ref m29, .int v30, .ref m31, .ref m32, .ref m33, .int v34, .int v35, .int v36, .ref m37, .ref m38, .ref m39, .ref m40, .long v41])), (m17, .inl (k 0, 30, .inl f17)), (m18, .inl (k 0, 250, .inl f18))]) [0, 1, 2] (by decide) rfl, hS, lv_sub hl [3, 4, 2, 1, 0] rfl⟩
set_option maxHeartbeats 4000000 in
set_option maxRecDepth 100000 in
theorem c_X12_isSeed (l : Launch) (D : va_G) (k : Nat → ClassId) (mo : Nat) (p0 : Int32) (v0 : Int32) (m1 : Nat) (m2 : Nat) (m3 : Nat) (m4 : Nat) (m5 : Nat) (v6 : Int32) (v7 : Int32) (v8 : Int32) (v9 : Int32) (v10 : Int32) (v11 : Int64) (v12 : Int32) (v13 : Int32) (v14 : Int32) (v15 : Int32) (m16 : Nat) (m17 : Nat) (m18 : Nat) (m19 : Nat) (m20 : Nat) (m21 : Nat) (m22 : Nat) (m23 : Nat) (v24 : Int32) (m25 : Nat) (m26 : Nat) (m27 : Nat) (m28 : Nat) (m29 : Nat) (v30 : Int32) (m31 : Nat) (m32 : Nat) (m33 : Nat) (v34 : Int32) (v35 : Int32) (v36 : Int32) (m37 : Nat) (m38 : Nat) (m39 : Nat) (m40 : Nat) (v41 : Int64) (f16 : Nat → Int32) (sz : Nat) (h_v6 : 0 ≤ v6.toInt ∧ v6.toInt ≤ 1000) (h_v24 : 0 ≤ v24.toInt ∧ v24.toInt ≤ 1023) : Met l yX12_isSeed (ww yX12_isSeed cX12_isSeed 2 (some .boolean)) ({ frames := 1, cells := 0, slots := 0, locals := 25 }) (Pre0 D k [(mo, .inr (12, [.int v0, .ref m1, .ref m2, .ref m3, .ref m4, .ref m5, .int v6, .int v7, .int v8, .int v9, .int v10, .long v11, .int v12, .int v13, .int v14, .int v15, .ref m16, .ref m17, .ref m18, .ref m19, .ref m20, .ref m21, .ref m22, .ref m23, .int v24, .ref m25, .ref m26, .ref m27, .ref m28, .ref m29, .int v30, .ref m31, .ref m32, .ref m33, .int v34, .int v35, .int v36, .ref m37, .ref m38, .ref m39, .ref m40, .long v41])), (m16, .inl (k 0, 5, .inl f16))] sz [.ref mo, .int p0]) (va_Qi (fun (r : Int32) (_ : Unit) => (0 ≤ r.toInt ∧ r.toInt ≤ 1) ∧ ((r.toInt = 1 ∧ 0 ≤ p0.toInt ∧ p0.toInt ≤ 2000000000) ∨ r.toInt = 0)) (fun (_ : Unit) tZ => Bw D k (va_A [(mo, .inr (12, [.int v0, .ref m1, .ref m2, .ref m3, .ref m4, .ref m5, .int v6, .int v7, .int v8, .int v9, .int v10, .long v11, .int v12, .int v13, .int v14, .int v15, .ref m16, .ref m17, .ref m18, .ref m19, .ref m20, .ref m21, .ref m22, .ref m23, .int v24, .ref m25, .ref m26, .ref m27, .ref m28, .ref m29, .int v30, .ref m31, .ref m32, .ref m33, .int v34, .int v35, .int v36, .ref m37, .ref m38, .ref m39, .ref m40, .long v41])), (m16, .inl (k 0, 5, .inl f16))] sz) [(mo, .inr (12, [.int v0, .ref m1, .ref m2, .ref m3, .ref m4, .ref m5, .int v6, .int v7, .int v8, .int v9, .int v10, .long v11, .int v12, .int v13, .int v14, .int v15, .ref m16, .ref m17, .ref m18, .ref m19, .ref m20, .ref m21, .ref m22, .ref m23, .int v24, .ref m25, .ref m26, .ref m27, .ref m28, .ref m29, .int v30, .ref m31, .ref m32, .ref m33, .int v34, .int v35, .int v36, .ref m37, .ref m38, .ref m39, .ref m40, .long v41])), (m16, .inl (k 0, 5, .inl f16))] tZ) (va_A [(mo, .inr (12, [.int v0, .ref m1, .ref m2, .ref m3, .ref m4, .ref m5, .int v6, .int v7, .int v8, .int v9, .int v10, .long v11, .int v12, .int v13, .int v14, .int v15, .ref m16, .ref m17, .ref m18, .ref m19, .ref m20, .ref m21, .ref m22, .ref m23, .int v24, .ref m25, .ref m26, .ref m27, .ref m28, .ref m29, .int v30, .ref m31, .ref m32, .ref m33, .int v34, .int v35, .int v36, .ref m37, .ref m38, .ref m39, .ref m40, .long v41])), (m16, .inl (k 0, 5, .inl f16))] sz)) 0 0 (va_A [(mo, .inr (12, [.int v0, .ref m1, .ref m2, .ref m3, .ref m4, .ref m5, .int v6, .int v7, .int v8, .int v9, .int v10, .long v11, .int v12, .int v13, .int v14, .int v15, .ref m16, .ref m17, .ref m18, .ref m19, .ref m20, .ref m21, .ref m22, .ref m23, .int v24, .ref m25, .ref m26, .ref m27, .ref m28, .ref m29, .int v30, .ref m31, .ref m32, .ref m33, .int v34, .int v35, .int v36, .ref m37, .ref m38, .ref m39, .ref m40, .long v41])), (m16, .inl (k 0, 5, .inl f16))] sz) := by
  refine Met.ofW (cc := cX12_isSeed) (maxL := 2) (ret := (some .boolean)) (by decide +kernel) rfl ?_
  intro p e s m args below meth c s₁ B hml hv
  obtain ⟨rfl, hsz, hP, hK, hD0, hN⟩ := hv
  have hx := B.exec
  have hb := B.bytes
  have hr := B.returns
  have hts : ∀ w ∈ TT, w.before _ s = true := fun w h => atoms_spec (ws := ww yX12_isSeed cX12_isSeed 2 (some .boolean)) B.pre w (List.mem_cons_of_mem _ h)
  have hown : s.vm.findClass RX12 = some m.cls := findClass_of_methodNamed B.named
  have hlocks := B.notSynchronized
  subst hsz
  have hD := hD0.self (sz := s.heap.size)
  generalize hAe : va_A [(mo, .inr (12, [.int v0, .ref m1, .ref m2, .ref m3, .ref m4, .ref m5, .int v6, .int v7, .int v8, .int v9, .int v10, .long v11, .int v12, .int v13, .int v14, .int v15, .ref m16, .ref m17, .ref m18, .ref m19, .ref m20, .ref m21, .ref m22, .ref m23, .int v24, .ref m25, .ref m26, .ref m27, .ref m28, .ref m29, .int v30, .ref m31, .ref m32, .ref m33, .int v34, .int v35, .int v36, .ref m37, .ref m38, .ref m39, .ref m40, .long v41])), (m16, .inl (k 0, 5, .inl f16))] s.heap.size = A at hD ⊢
  have hA : ∀ q : Nat, s.heap.size ≤ q → A q := fun q h => by rw [← hAe]; exact Or.inr h
  have hS : va_S A s.heap s.heap [] := va_S.rf
  have hl := lv_entry ([.ref mo, .int p0]) (n := 2) (Nat.le_of_ble_eq_true rfl)
  rw [lg_entry_eq]
  generalize (lg_sl ([.ref mo, .int p0]) ++ List.replicate (2 - (lg_sl ([.ref mo, .int p0])).length) Slot.unset).toArray = ls at hl ⊢
  have hl : lv_has ls 2 [(0, .ref mo), (1, .int p0)] := hl
  refine lv_aload_n hx hb dX12_isSeed_0 rfl (lv_at hl 0 rfl) ?_
  have hPc := hP.sub (ws' := [(mo, .inr (12, [.int v0, .ref m1, .ref m2, .ref m3, .ref m4, .ref m5, .int v6, .int v7, .int v8, .int v9, .int v10, .long v11, .int v12, .int v13, .int v14, .int v15, .ref m16, .ref m17, .ref m18, .ref m19, .ref m20, .ref m21, .ref m22, .ref m23, .int v24, .ref m25, .ref m26, .ref m27, .ref m28, .ref m29, .int v30, .ref m31, .ref m32, .ref m33, .int v34, .int v35, .int v36, .ref m37, .ref m38, .ref m39, .ref m40, .long v41])), (m16, .inl (k 0, 5, .inl f16))]) [0, 1] rfl
  have hDc := hD.sub (ws' := [(mo, .inr (12, [.int v0, .ref m1, .ref m2, .ref m3, .ref m4, .ref m5, .int v6, .int v7, .int v8, .int v9, .int v10, .long v11, .int v12, .int v13, .int v14, .int v15, .ref m16, .ref m17, .ref m18, .ref m19, .ref m20, .ref m21, .ref m22, .ref m23, .int v24, .ref m25, .ref m26, .ref m27, .ref m28, .ref m29, .int v30, .ref m31, .ref m32, .ref m33, .int v34, .int v35, .int v36, .ref m37, .ref m38, .ref m39, .ref m40, .long v41])), (m16, .inl (k 0, 5, .inl f16))]) [0, 1] (by decide) rfl
  have hFc := va_free (wc := [(mo, .inr (12, [.int v0, .ref m1, .ref m2, .ref m3, .ref m4, .ref m5, .int v6, .int v7, .int v8, .int v9, .int v10, .long v11, .int v12, .int v13, .int v14, .int v15, .ref m16, .ref m17, .ref m18, .ref m19, .ref m20, .ref m21, .ref m22, .ref m23, .int v24, .ref m25, .ref m26, .ref m27, .ref m28, .ref m29, .int v30, .ref m31, .ref m32, .ref m33, .int v34, .int v35, .int v36, .ref m37, .ref m38, .ref m39, .ref m40, .long v41])), (m16, .inl (k 0, 5, .inl f16))]) hD hS hA [0, 1] rfl
  refine va_calli (va_runV (C := RX12) (As := []) (rest := []) ⟨hx, hb, hml, hown, hts⟩ (c_X12_isTown l D k mo v0 m1 m2 m3 m4 m5 v6 v7 v8 v9 v10 v11 v12 v13 v14 v15 m16 m17 m18 m19 m20 m21 m22 m23 v24 m25 m26 m27 m28 m29 v30 m31 m32 m33 v34 v35 v36 m37 m38 m39 m40 v41 f16 s.heap.size (show 0 ≤ v6.toInt ∧ v6.toInt ≤ 1000 from by omega) (show 0 ≤ v24.toInt ∧ v24.toInt ≤ 1023 from by omega)) (cwV 0 hts (gV tw_7_181 tw_7_183 tw_p_71 tw_1_13 tw_7_184) rfl rfl rfl hdV_X12_isTown ⟨Nat.le_of_ble_eq_true rfl, Nat.le_of_ble_eq_true rfl⟩) (cz_V hK hPc hDc hN (ci := 12) (q0 := 0) rfl rfl []) rfl rfl hl.1 rfl (lv_room (Nat.le_of_ble_eq_true rfl)) dX12_isSeed_1 ⟨Nat.le_of_ble_eq_true rfl, Nat.le_of_ble_eq_true rfl⟩) hS (fun q _ h => hFc q h) hFc (fun r_1 uZ tZ H1 locs ht hvm hw hB hz1 hk1 hS => ?_)
  obtain ⟨hP1, hK1, hD1⟩ := hB
  rw [ht] at hP1
  obtain ⟨hP, hD⟩ := va_join (wr := []) (w1 := [(mo, .inr (12, [.int v0, .ref m1, .ref m2, .ref m3, .ref m4, .ref m5, .int v6, .int v7, .int v8, .int v9, .int v10, .long v11, .int v12, .int v13, .int v14, .int v15, .ref m16, .ref m17, .ref m18, .ref m19, .ref m20, .ref m21, .ref m22, .ref m23, .int v24, .ref m25, .ref m26, .ref m27, .ref m28, .ref m29, .int v30, .ref m31, .ref m32, .ref m33, .int v34, .int v35, .int v36, .ref m37, .ref m38, .ref m39, .ref m40, .long v41])), (m16, .inl (k 0, 5, .inl f16))]) hP hD [0, 1] [] rfl rfl (by decide) (by decide) hk1 hFc hP1 hD1
  clear hK1 hP1 hD1 hPc hDc hFc
  clear hk1 hz1 ht hvm
  have hP : va_P D vwCl [(mo, .inr (12, [.int v0, .ref m1, .ref m2, .ref m3, .ref m4, .ref m5, .int v6, .int v7, .int v8, .int v9, .int v10, .long v11, .int v12, .int v13, .int v14, .int v15, .ref m16, .ref m17, .ref m18, .ref m19, .ref m20, .ref m21, .ref m22, .ref m23, .int v24, .ref m25, .ref m26, .ref m27, .ref m28, .ref m29, .int v30, .ref m31, .ref m32, .ref m33, .int v34, .int v35, .int v36, .ref m37, .ref m38, .ref m39, .ref m40, .long v41])), (m16, .inl (k 0, 5, .inl f16))] H1 := hP
  have hD : va_D A [(mo, .inr (12, [.int v0, .ref m1, .ref m2, .ref m3, .ref m4, .ref m5, .int v6, .int v7, .int v8, .int v9, .int v10, .long v11, .int v12, .int v13, .int v14, .int v15, .ref m16, .ref m17, .ref m18, .ref m19, .ref m20, .ref m21, .ref m22, .ref m23, .int v24, .ref m25, .ref m26, .ref m27, .ref m28, .ref m29, .int v30, .ref m31, .ref m32, .ref m33, .int v34, .int v35, .int v36, .ref m37, .ref m38, .ref m39, .ref m40, .long v41])), (m16, .inl (k 0, 5, .inl f16))] := hD
  generalize H1 = H at hP hS ⊢
  have hw_2 : (0 ≤ r_1.toInt ∧ r_1.toInt ≤ 1) := hw
  have hw_3 := hw_2
  clear hw
  refine lv_if_eq (tgt := 23) hx hb dX12_isSeed_4 (by decide) (fun h_4 => ?_) (fun h_4 => ?_)
  · skip
    have zh_4 : r_1.toInt = 0 := z_eq h_4
    refine lv_iconst (v := 0) hx hb dX12_isSeed_23 (by decide) ?_
    have hP9 := hP.sub (ws' := [(mo, .inr (12, [.int v0, .ref m1, .ref m2, .ref m3, .ref m4, .ref m5, .int v6, .int v7, .int v8, .int v9, .int v10, .long v11, .int v12, .int v13, .int v14, .int v15, .ref m16, .ref m17, .ref m18, .ref m19, .ref m20, .ref m21, .ref m22, .ref m23, .int v24, .ref m25, .ref m26, .ref m27, .ref m28, .ref m29, .int v30, .ref m31, .ref m32, .ref m33, .int v34, .int v35, .int v36, .ref m37, .ref m38, .ref m39, .ref m40, .long v41])), (m16, .inl (k 0, 5, .inl f16))]) [0, 1] rfl
    have hD9 := hD.sub (ws' := [(mo, .inr (12, [.int v0, .ref m1, .ref m2, .ref m3, .ref m4, .ref m5, .int v6, .int v7, .int v8, .int v9, .int v10, .long v11, .int v12, .int v13, .int v14, .int v15, .ref m16, .ref m17, .ref m18, .ref m19, .ref m20, .ref m21, .ref m22, .ref m23, .int v24, .ref m25, .ref m26, .ref m27, .ref m28, .ref m29, .int v30, .ref m31, .ref m32, .ref m33, .int v34, .int v35, .int v36, .ref m37, .ref m38, .ref m39, .ref m40, .long v41])), (m16, .inl (k 0, 5, .inl f16))]) [0, 1] (by decide) rfl
    exact W.zret (v := 0) hx hb hr (by decide) (fun tZ ht hW => ⟨⟨0, (), rfl, ⟨(show 0 ≤ 0 ∧ 0 ≤ 1 from by omega), (show (0 = 1 ∧ 0 ≤ p0.toInt ∧ p0.toInt ≤ 2000000000) ∨ 0 = 0 from by omega)⟩, by rw [ht]; exact hP9, va_K.moved hW.alike hK, hD9⟩, hS.F ht⟩) hS.2.2 dX12_isSeed_24
  · skip
    have zh_4 : ¬ r_1.toInt = 0 := z_ne h_4
    refine lv_iload_n hx hb dX12_isSeed_7 rfl (lv_at hl 1 rfl) ?_
    refine lv_i2l (v := p0.toInt64) hx hb dX12_isSeed_8 rfl ?_
    refine lv_lconst (v := 0) hx hb dX12_isSeed_9 (by decide) ?_
    refine lv_ldc2 (v := 2000000000) hx hb hown (hts _ tw_8_232) dX12_isSeed_10 ?_
    have hPc := hP.sub (ws' := []) [] rfl
    have hDc := hD.sub (ws' := []) [] (by decide) rfl
    have hFc := va_free (wc := []) hD hS hA [] rfl
    refine va_calli (va_runS (As := [.long p0.toInt64, .long 0, .long 2000000000]) (rest := []) ⟨hx, hb, hml, hown, hts⟩ (c_X12_in l D k p0.toInt64 0 2000000000 H.size) (va_cwS 3 hts (gS tw_6_188 tw_6_189 tw_1_13 tw_6_190) rfl rfl rfl hdS_X12_in ⟨Nat.le_of_ble_eq_true rfl, Nat.le_of_ble_eq_true rfl⟩) (cz_S hK hPc hDc hN [.long p0.toInt64, .long 0, .long 2000000000]) rfl rfl hl.1 rfl (lv_room (Nat.le_of_ble_eq_true rfl)) dX12_isSeed_13 ⟨Nat.le_of_ble_eq_true rfl, Nat.le_of_ble_eq_true rfl⟩) hS (fun q _ h => hFc q h) hFc (fun r_5 uZ tZ H1 locs ht hvm hw hB hz1 hk1 hS => ?_)
    obtain ⟨hP1, hK1, hD1⟩ := hB
    rw [ht] at hP1
    obtain ⟨hP, hD⟩ := va_join (wr := [(mo, .inr (12, [.int v0, .ref m1, .ref m2, .ref m3, .ref m4, .ref m5, .int v6, .int v7, .int v8, .int v9, .int v10, .long v11, .int v12, .int v13, .int v14, .int v15, .ref m16, .ref m17, .ref m18, .ref m19, .ref m20, .ref m21, .ref m22, .ref m23, .int v24, .ref m25, .ref m26, .ref m27, .ref m28, .ref m29, .int v30, .ref m31, .ref m32, .ref m33, .int v34, .int v35, .int v36, .ref m37, .ref m38, .ref m39, .ref m40, .long v41])), (m16, .inl (k 0, 5, .inl f16))]) (w1 := []) hP hD [] [0, 1] rfl rfl (by decide) (by decide) hk1 hFc hP1 hD1
    clear hK1 hP1 hD1 hPc hDc hFc
    clear hk1 hz1 ht hvm
    have hP : va_P D vwCl [(mo, .inr (12, [.int v0, .ref m1, .ref m2, .ref m3, .ref m4, .ref m5, .int v6, .int v7, .int v8, .int v9, .int v10, .long v11, .int v12, .int v13, .int v14, .int v15, .ref m16, .ref m17, .ref m18, .ref m19, .ref m20, .ref m21, .ref m22, .ref m23, .int v24, .ref m25, .ref m26, .ref m27, .ref m28, .ref m29, .int v30, .ref m31, .ref m32, .ref m33, .int v34, .int v35, .int v36, .ref m37, .ref m38, .ref m39, .ref m40, .long v41])), (m16, .inl (k 0, 5, .inl f16))] H1 := hP
    have hD : va_D A [(mo, .inr (12, [.int v0, .ref m1, .ref m2, .ref m3, .ref m4, .ref m5, .int v6, .int v7, .int v8, .int v9, .int v10, .long v11, .int v12, .int v13, .int v14, .int v15, .ref m16, .ref m17, .ref m18, .ref m19, .ref m20, .ref m21, .ref m22, .ref m23, .int v24, .ref m25, .ref m26, .ref m27, .ref m28, .ref m29, .int v30, .ref m31, .ref m32, .ref m33, .int v34, .int v35, .int v36, .ref m37, .ref m38, .ref m39, .ref m40, .long v41])), (m16, .inl (k 0, 5, .inl f16))] := hD
    generalize H1 = H at hP hS ⊢
    have hw_6 : (0 ≤ r_5.toInt ∧ r_5.toInt ≤ 1) ∧ ((r_5.toInt = 1 ∧ 0 ≤ p0.toInt64.toInt ∧ p0.toInt64.toInt ≤ 2000000000) ∨ (r_5.toInt = 0 ∧ (p0.toInt64.toInt < 0 ∨ 2000000000 < p0.toInt64.toInt))) := hw
    obtain ⟨hw_7, hw_8⟩ := hw_6
    clear hw
    simp only [Int32.toInt_toInt64] at hw_7 hw_8
    refine lv_if_eq (tgt := 23) hx hb dX12_isSeed_16 (by decide) (fun h_9 => ?_) (fun h_9 => ?_)
    · skip
      have zh_9 : r_5.toInt = 0 := z_eq h_9
      refine lv_iconst (v := 0) hx hb dX12_isSeed_23 (by decide) ?_
      have hP9 := hP.sub (ws' := [(mo, .inr (12, [.int v0, .ref m1, .ref m2, .ref m3, .ref m4, .ref m5, .int v6, .int v7, .int v8, .int v9, .int v10, .long v11, .int v12, .int v13, .int v14, .int v15, .ref m16, .ref m17, .ref m18, .ref m19, .ref m20, .ref m21, .ref m22, .ref m23, .int v24, .ref m25, .ref m26, .ref m27, .ref m28, .ref m29, .int v30, .ref m31, .ref m32, .ref m33, .int v34, .int v35, .int v36, .ref m37, .ref m38, .ref m39, .ref m40, .long v41])), (m16, .inl (k 0, 5, .inl f16))]) [0, 1] rfl
      have hD9 := hD.sub (ws' := [(mo, .inr (12, [.int v0, .ref m1, .ref m2, .ref m3, .ref m4, .ref m5, .int v6, .int v7, .int v8, .int v9, .int v10, .long v11, .int v12, .int v13, .int v14, .int v15, .ref m16, .ref m17, .ref m18, .ref m19, .ref m20, .ref m21, .ref m22, .ref m23, .int v24, .ref m25, .ref m26, .ref m27, .ref m28, .ref m29, .int v30, .ref m31, .ref m32, .ref m33, .int v34, .int v35, .int v36, .ref m37, .ref m38, .ref m39, .ref m40, .long v41])), (m16, .inl (k 0, 5, .inl f16))]) [0, 1] (by decide) rfl
      exact W.zret (v := 0) hx hb hr (by decide) (fun tZ ht hW => ⟨⟨0, (), rfl, ⟨(show 0 ≤ 0 ∧ 0 ≤ 1 from by omega), (show (0 = 1 ∧ 0 ≤ p0.toInt ∧ p0.toInt ≤ 2000000000) ∨ 0 = 0 from by omega)⟩, by rw [ht]; exact hP9, va_K.moved hW.alike hK, hD9⟩, hS.F ht⟩) hS.2.2 dX12_isSeed_24
    · skip
      have zh_9 : ¬ r_5.toInt = 0 := z_ne h_9
      refine lv_iconst (v := 1) hx hb dX12_isSeed_19 (by decide) ?_
      refine lv_goto (tgt := 24) hx hb dX12_isSeed_20 (by decide) ?_
      have hP9 := hP.sub (ws' := [(mo, .inr (12, [.int v0, .ref m1, .ref m2, .ref m3, .ref m4, .ref m5, .int v6, .int v7, .int v8, .int v9, .int v10, .long v11, .int v12, .int v13, .int v14, .int v15, .ref m16, .ref m17, .ref m18, .ref m19, .ref m20, .ref m21, .ref m22, .ref m23, .int v24, .ref m25, .ref m26, .ref m27, .ref m28, .ref m29, .int v30, .ref m31, .ref m32, .ref m33, .int v34, .int v35, .int v36, .ref m37, .ref m38, .ref m39, .ref m40, .long v41])), (m16, .inl (k 0, 5, .inl f16))]) [0, 1] rfl
      have hD9 := hD.sub (ws' := [(mo, .inr (12, [.int v0, .ref m1, .ref m2, .ref m3, .ref m4, .ref m5, .int v6, .int v7, .int v8, .int v9, .int v10, .long v11, .int v12, .int v13, .int v14, .int v15, .ref m16, .ref m17, .ref m18, .ref m19, .ref m20, .ref m21, .ref m22, .ref m23, .int v24, .ref m25, .ref m26, .ref m27, .ref m28, .ref m29, .int v30, .ref m31, .ref m32, .ref m33, .int v34, .int v35, .int v36, .ref m37, .ref m38, .ref m39, .ref m40, .long v41])), (m16, .inl (k 0, 5, .inl f16))]) [0, 1] (by decide) rfl
      exact W.zret (v := 1) hx hb hr (by decide) (fun tZ ht hW => ⟨⟨1, (), rfl, ⟨(show 0 ≤ 1 ∧ 1 ≤ 1 from by omega), (show (1 = 1 ∧ 0 ≤ p0.toInt ∧ p0.toInt ≤ 2000000000) ∨ 1 = 0 from by omega)⟩, by rw [ht]; exact hP9, va_K.moved hW.alike hK, hD9⟩, hS.F ht⟩) hS.2.2 dX12_isSeed_24
set_option maxHeartbeats 4000000 in
set_option maxRecDepth 100000 in
theorem c_X12_tell (l : Launch) (D : va_G) (k : Nat → ClassId) (mo : Nat) (p0 : Int32) (p1 : Int32) (p2 : Int32) (v0 : Int32) (m1 : Nat) (m2 : Nat) (m3 : Nat) (m4 : Nat) (m5 : Nat) (v6 : Int32) (v7 : Int32) (v8 : Int32) (v9 : Int32) (v10 : Int32) (v11 : Int64) (v12 : Int32) (v13 : Int32) (v14 : Int32) (v15 : Int32) (m16 : Nat) (m17 : Nat) (m18 : Nat) (m19 : Nat) (m20 : Nat) (m21 : Nat) (m22 : Nat) (m23 : Nat) (v24 : Int32) (m25 : Nat) (m26 : Nat) (m27 : Nat) (m28 : Nat) (m29 : Nat) (v30 : Int32) (m31 : Nat) (m32 : Nat) (m33 : Nat) (v34 : Int32) (v35 : Int32) (v36 : Int32) (m37 : Nat) (m38 : Nat) (m39 : Nat) (m40 : Nat) (v41 : Int64) (f17 : Nat → Int32) (f20 : Nat → Int32) (sz : Nat) (h_v6 : 0 ≤ v6.toInt ∧ v6.toInt ≤ 1000) (h_v24 : 0 ≤ v24.toInt ∧ v24.toInt ≤ 1023) (hp_f17_0 : PR 30 6 0 0 8 f17) (hp_f17_1 : PR 30 6 1 0 10 f17) (hp_f17_2 : PR 30 6 2 0 4 f17) (hp_f17_3 : PR 30 6 3 0 6 f17) (hp_f17_4 : PR 30 6 4 0 2 f17) (hp_f17_5 : PR 30 6 5 0 40 f17) (hp_f20_0 : PR 120 4 0 0 7 f20) : Met l yX12_tell (ww yX12_tell cX12_tell 5 (some .int)) ({ frames := 2, cells := 0, slots := 0, locals := 46 }) (Pre0 D k [(mo, .inr (12, [.int v0, .ref m1, .ref m2, .ref m3, .ref m4, .ref m5, .int v6, .int v7, .int v8, .int v9, .int v10, .long v11, .int v12, .int v13, .int v14, .int v15, .ref m16, .ref m17, .ref m18, .ref m19, .ref m20, .ref m21, .ref m22, .ref m23, .int v24, .ref m25, .ref m26, .ref m27, .ref m28, .ref m29, .int v30, .ref m31, .ref m32, .ref m33, .int v34, .int v35, .int v36, .ref m37, .ref m38, .ref m39, .ref m40, .long v41])), (m17, .inl (k 0, 30, .inl f17)), (m20, .inl (k 0, 120, .inl f20))] sz [.ref mo, .int p0, .int p1, .int p2]) (va_Qi (fun (r : Int32) (u : Int32 × (Nat → Int32)) => match u with | (v0z, f20z) => (0 ≤ v0z.toInt ∧ v0z.toInt ≤ 0)) (fun (u : Int32 × (Nat → Int32)) tZ => match u with | (v0z, f20z) => Bw D k (va_A [(mo, .inr (12, [.int v0, .ref m1, .ref m2, .ref m3, .ref m4, .ref m5, .int v6, .int v7, .int v8, .int v9, .int v10, .long v11, .int v12, .int v13, .int v14, .int v15, .ref m16, .ref m17, .ref m18, .ref m19, .ref m20, .ref m21, .ref m22, .ref m23, .int v24, .ref m25, .ref m26, .ref m27, .ref m28, .ref m29, .int v30, .ref m31, .ref m32, .ref m33, .int v34, .int v35, .int v36, .ref m37, .ref m38, .ref m39, .ref m40, .long v41])), (m17, .inl (k 0, 30, .inl f17)), (m20, .inl (k 0, 120, .inl f20))] sz) [(mo, .inr (12, [.int v0z, .ref m1, .ref m2, .ref m3, .ref m4, .ref m5, .int v6, .int v7, .int v8, .int v9, .int v10, .long v11, .int v12, .int v13, .int v14, .int v15, .ref m16, .ref m17, .ref m18, .ref m19, .ref m20, .ref m21, .ref m22, .ref m23, .int v24, .ref m25, .ref m26, .ref m27, .ref m28, .ref m29, .int v30, .ref m31, .ref m32, .ref m33, .int v34, .int v35, .int v36, .ref m37, .ref m38, .ref m39, .ref m40, .long v41])), (m17, .inl (k 0, 30, .inl f17)), (m20, .inl (k 0, 120, .inl f20z))] tZ) (va_A [(mo, .inr (12, [.int v0, .ref m1, .ref m2, .ref m3, .ref m4, .ref m5, .int v6, .int v7, .int v8, .int v9, .int v10, .long v11, .int v12, .int v13, .int v14, .int v15, .ref m16, .ref m17, .ref m18, .ref m19, .ref m20, .ref m21, .ref m22, .ref m23, .int v24, .ref m25, .ref m26, .ref m27, .ref m28, .ref m29, .int v30, .ref m31, .ref m32, .ref m33, .int v34, .int v35, .int v36, .ref m37, .ref m38, .ref m39, .ref m40, .long v41])), (m17, .inl (k 0, 30, .inl f17)), (m20, .inl (k 0, 120, .inl f20))] sz)) 0 0 (va_A [(mo, .inr (12, [.int v0, .ref m1, .ref m2, .ref m3, .ref m4, .ref m5, .int v6, .int v7, .int v8, .int v9, .int v10, .long v11, .int v12, .int v13, .int v14, .int v15, .ref m16, .ref m17, .ref m18, .ref m19, .ref m20, .ref m21, .ref m22, .ref m23, .int v24, .ref m25, .ref m26, .ref m27, .ref m28, .ref m29, .int v30, .ref m31, .ref m32, .ref m33, .int v34, .int v35, .int v36, .ref m37, .ref m38, .ref m39, .ref m40, .long v41])), (m17, .inl (k 0, 30, .inl f17)), (m20, .inl (k 0, 120, .inl f20))] sz) := by
  refine Met.ofW (cc := cX12_tell) (maxL := 5) (ret := (some .int)) (by decide +kernel) rfl ?_
  intro p e s m args below meth c s₁ B hml hv
  obtain ⟨rfl, hsz, hP, hK, hD0, hN⟩ := hv
  have hx := B.exec
  have hb := B.bytes
  have hr := B.returns
  have hts : ∀ w ∈ TT, w.before _ s = true := fun w h => atoms_spec (ws := ww yX12_tell cX12_tell 5 (some .int)) B.pre w (List.mem_cons_of_mem _ h)
  have hown : s.vm.findClass RX12 = some m.cls := findClass_of_methodNamed B.named
  have hlocks := B.notSynchronized
  subst hsz
  have hD := hD0.self (sz := s.heap.size)
  generalize hAe : va_A [(mo, .inr (12, [.int v0, .ref m1, .ref m2, .ref m3, .ref m4, .ref m5, .int v6, .int v7, .int v8, .int v9, .int v10, .long v11, .int v12, .int v13, .int v14, .int v15, .ref m16, .ref m17, .ref m18, .ref m19, .ref m20, .ref m21, .ref m22, .ref m23, .int v24, .ref m25, .ref m26, .ref m27, .ref m28, .ref m29, .int v30, .ref m31, .ref m32, .ref m33, .int v34, .int v35, .int v36, .ref m37, .ref m38, .ref m39, .ref m40, .long v41])), (m17, .inl (k 0, 30, .inl f17)), (m20, .inl (k 0, 120, .inl f20))] s.heap.size = A at hD ⊢
  have hA : ∀ q : Nat, s.heap.size ≤ q → A q := fun q h => by rw [← hAe]; exact Or.inr h
  have hS : va_S A s.heap s.heap [] := va_S.rf
  have hl := lv_entry ([.ref mo, .int p0, .int p1, .int p2]) (n := 5) (Nat.le_of_ble_eq_true rfl)
  rw [lg_entry_eq]
  generalize (lg_sl ([.ref mo, .int p0, .int p1, .int p2]) ++ List.replicate (5 - (lg_sl ([.ref mo, .int p0, .int p1, .int p2])).length) Slot.unset).toArray = ls at hl ⊢
  have hl : lv_has ls 5 [(0, .ref mo), (1, .int p0), (2, .int p1), (3, .int p2)] := hl
  refine lv_aload_n hx hb dX12_tell_0 rfl (lv_at hl 0 rfl) ?_
  refine lv_iconst (v := 0) hx hb dX12_tell_1 (by decide) ?_
  refine va_put (D := D) (ci := 12) (v := .int 0) (ty := tyX12 0) (C := RX12) (T := TX12) (N := 42) hx hb hts iT_X12 tyX12 tyX12_ok nmX12 hown hK hP hD hS 0 rfl rfl 0 (by decide) (hts _ tw_6_53) (fun _ h9 => h9) rfl (tyX12_ok 0 (by decide)) rfl rfl (Nat.le_of_ble_eq_true rfl) dX12_tell_2 (fun H locs hP hD hS => ?_)
  have hP : va_P D vwCl [(mo, .inr (12, [.int 0, .ref m1, .ref m2, .ref m3, .ref m4, .ref m5, .int v6, .int v7, .int v8, .int v9, .int v10, .long v11, .int v12, .int v13, .int v14, .int v15, .ref m16, .ref m17, .ref m18, .ref m19, .ref m20, .ref m21, .ref m22, .ref m23, .int v24, .ref m25, .ref m26, .ref m27, .ref m28, .ref m29, .int v30, .ref m31, .ref m32, .ref m33, .int v34, .int v35, .int v36, .ref m37, .ref m38, .ref m39, .ref m40, .long v41])), (m17, .inl (k 0, 30, .inl f17)), (m20, .inl (k 0, 120, .inl f20))] H := hP
  have hD : va_D A [(mo, .inr (12, [.int 0, .ref m1, .ref m2, .ref m3, .ref m4, .ref m5, .int v6, .int v7, .int v8, .int v9, .int v10, .long v11, .int v12, .int v13, .int v14, .int v15, .ref m16, .ref m17, .ref m18, .ref m19, .ref m20, .ref m21, .ref m22, .ref m23, .int v24, .ref m25, .ref m26, .ref m27, .ref m28, .ref m29, .int v30, .ref m31, .ref m32, .ref m33, .int v34, .int v35, .int v36, .ref m37, .ref m38, .ref m39, .ref m40, .long v41])), (m17, .inl (k 0, 30, .inl f17)), (m20, .inl (k 0, 120, .inl f20))] := hD
  refine lv_aload_n hx hb dX12_tell_5 rfl (lv_at hl 0 rfl) ?_
  refine lv_iload_n hx hb dX12_tell_6 rfl (lv_at hl 1 rfl) ?_
  have hPc := hP.sub (ws' := [(mo, .inr (12, [.int 0, .ref m1, .ref m2, .ref m3, .ref m4, .ref m5, .int v6, .int v7, .int v8, .int v9, .int v10, .long v11, .int v12, .int v13, .int v14, .int v15, .ref m16, .ref m17, .ref m18, .ref m19, .ref m20, .ref m21, .ref m22, .ref m23, .int v24, .ref m25, .ref m26, .ref m27, .ref m28, .ref m29, .int v30, .ref m31, .ref m32, .ref m33, .int v34, .int v35, .int v36, .ref m37, .ref m38, .ref m39, .ref m40, .long v41])), (m17, .inl (k 0, 30, .inl f17))]) [0, 1] rfl
  have hDc := hD.sub (ws' := [(mo, .inr (12, [.int 0, .ref m1, .ref m2, .ref m3, .ref m4, .ref m5, .int v6, .int v7, .int v8, .int v9, .int v10, .long v11, .int v12, .int v13, .int v14, .int v15, .ref m16, .ref m17, .ref m18, .ref m19, .ref m20, .ref m21, .ref m22, .ref m23, .int v24, .ref m25, .ref m26, .ref m27, .ref m28, .ref m29, .int v30, .ref m31, .ref m32, .ref m33, .int v34, .int v35, .int v36, .ref m37, .ref m38, .ref m39, .ref m40, .long v41])), (m17, .inl (k 0, 30, .inl f17))]) [0, 1] (by decide) rfl
  have hFc := va_free (wc := [(mo, .inr (12, [.int 0, .ref m1, .ref m2, .ref m3, .ref m4, .ref m5, .int v6, .int v7, .int v8, .int v9, .int v10, .long v11, .int v12, .int v13, .int v14, .int v15, .ref m16, .ref m17, .ref m18, .ref m19, .ref m20, .ref m21, .ref m22, .ref m23, .int v24, .ref m25, .ref m26, .ref m27, .ref m28, .ref m29, .int v30, .ref m31, .ref m32, .ref m33, .int v34, .int v35, .int v36, .ref m37, .ref m38, .ref m39, .ref m40, .long v41])), (m17, .inl (k 0, 30, .inl f17))]) hD hS hA [0, 1] rfl
  refine va_calli (va_runV (C := RX12) (As := [.int p0]) (rest := []) ⟨hx, hb, hml, hown, hts⟩ (c_X12_isHouse l D k mo p0 0 m1 m2 m3 m4 m5 v6 v7 v8 v9 v10 v11 v12 v13 v14 v15 m16 m17 m18 m19 m20 m21 m22 m23 v24 m25 m26 m27 m28 m29 v30 m31 m32 m33 v34 v35 v36 m37 m38 m39 m40 v41 f17 H.size (show 0 ≤ v6.toInt ∧ v6.toInt ≤ 1000 from by omega) (show 0 ≤ v24.toInt ∧ v24.toInt ≤ 1023 from by omega) hp_f17_0 hp_f17_1 hp_f17_2 hp_f17_3 hp_f17_4 hp_f17_5) (cwV 1 hts (gV tw_7_125 tw_7_127 tw_p_61 tw_1_13 tw_7_128) rfl rfl rfl hdV_X12_isHouse ⟨Nat.le_of_ble_eq_true rfl, Nat.le_of_ble_eq_true rfl⟩) (cz_V hK hPc hDc hN (ci := 12) (q0 := 0) rfl rfl [.int p0]) rfl rfl hl.1 rfl (lv_room (Nat.le_of_ble_eq_true rfl)) dX12_tell_7 ⟨Nat.le_of_ble_eq_true rfl, Nat.le_of_ble_eq_true rfl⟩) hS (fun q _ h => hFc q h) hFc (fun r_1 uZ tZ H1 locs ht hvm hw hB hz1 hk1 hS => ?_)
  obtain ⟨hP1, hK1, hD1⟩ := hB
  rw [ht] at hP1
  obtain ⟨hP, hD⟩ := va_join (wr := [(m20, .inl (k 0, 120, .inl f20))]) (w1 := [(mo, .inr (12, [.int 0, .ref m1, .ref m2, .ref m3, .ref m4, .ref m5, .int v6, .int v7, .int v8, .int v9, .int v10, .long v11, .int v12, .int v13, .int v14, .int v15, .ref m16, .ref m17, .ref m18, .ref m19, .ref m20, .ref m21, .ref m22, .ref m23, .int v24, .ref m25, .ref m26, .ref m27, .ref m28, .ref m29, .int v30, .ref m31, .ref m32, .ref m33, .int v34, .int v35, .int v36, .ref m37, .ref m38, .ref m39, .ref m40, .long v41])), (m17, .inl (k 0, 30, .inl f17))]) hP hD [0, 1] [2] rfl rfl (by decide) (by decide) hk1 hFc hP1 hD1
  clear hK1 hP1 hD1 hPc hDc hFc
  clear hk1 hz1 ht hvm
  have hP : va_P D vwCl [(m20, .inl (k 0, 120, .inl f20)), (mo, .inr (12, [.int 0, .ref m1, .ref m2, .ref m3, .ref m4, .ref m5, .int v6, .int v7, .int v8, .int v9, .int v10, .long v11, .int v12, .int v13, .int v14, .int v15, .ref m16, .ref m17, .ref m18, .ref m19, .ref m20, .ref m21, .ref m22, .ref m23, .int v24, .ref m25, .ref m26, .ref m27, .ref m28, .ref m29, .int v30, .ref m31, .ref m32, .ref m33, .int v34, .int v35, .int v36, .ref m37, .ref m38, .ref m39, .ref m40, .long v41])), (m17, .inl (k 0, 30, .inl f17))] H1 := hP
  have hD : va_D A [(m20, .inl (k 0, 120, .inl f20)), (mo, .inr (12, [.int 0, .ref m1, .ref m2, .ref m3, .ref m4, .ref m5, .int v6, .int v7, .int v8, .int v9, .int v10, .long v11, .int v12, .int v13, .int v14, .int v15, .ref m16, .ref m17, .ref m18, .ref m19, .ref m20, .ref m21, .ref m22, .ref m23, .int v24, .ref m25, .ref m26, .ref m27, .ref m28, .ref m29, .int v30, .ref m31, .ref m32, .ref m33, .int v34, .int v35, .int v36, .ref m37, .ref m38, .ref m39, .ref m40, .long v41])), (m17, .inl (k 0, 30, .inl f17))] := hD
  generalize H1 = H at hP hS ⊢
  have hw_2 : (0 ≤ r_1.toInt ∧ r_1.toInt ≤ 1) ∧ ((r_1.toInt = 1 ∧ 0 ≤ p0.toInt ∧ p0.toInt ≤ 5) ∨ r_1.toInt = 0) := hw
  obtain ⟨hw_3, hw_4⟩ := hw_2
  clear hw
  refine lv_if_eq (tgt := 37) hx hb dX12_tell_10 (by decide) (fun h_5 => ?_) (fun h_5 => ?_)
  · skip
    have zh_5 : r_1.toInt = 0 := z_eq h_5
    refine lv_bipush (v := (-2)) hx hb dX12_tell_37 (by decide) ?_
    have hP9 := hP.sub (ws' := [(mo, .inr (12, [.int 0, .ref m1, .ref m2, .ref m3, .ref m4, .ref m5, .int v6, .int v7, .int v8, .int v9, .int v10, .long v11, .int v12, .int v13, .int v14, .int v15, .ref m16, .ref m17, .ref m18, .ref m19, .ref m20, .ref m21, .ref m22, .ref m23, .int v24, .ref m25, .ref m26, .ref m27, .ref m28, .ref m29, .int v30, .ref m31, .ref m32, .ref m33, .int v34, .int v35, .int v36, .ref m37, .ref m38, .ref m39, .ref m40, .long v41])), (m17, .inl (k 0, 30, .inl f17)), (m20, .inl (k 0, 120, .inl f20))]) [1, 2, 0] rfl
    have hD9 := hD.sub (ws' := [(mo, .inr (12, [.int 0, .ref m1, .ref m2, .ref m3, .ref m4, .ref m5, .int v6, .int v7, .int v8, .int v9, .int v10, .long v11, .int v12, .int v13, .int v14, .int v15, .ref m16, .ref m17, .ref m18, .ref m19, .ref m20, .ref m21, .ref m22, .ref m23, .int v24, .ref m25, .ref m26, .ref m27, .ref m28, .ref m29, .int v30, .ref m31, .ref m32, .ref m33, .int v34, .int v35, .int v36, .ref m37, .ref m38, .ref m39, .ref m40, .long v41])), (m17, .inl (k 0, 30, .inl f17)), (m20, .inl (k 0, 120, .inl f20))]) [1, 2, 0] (by decide) rfl
    exact W.iret (v := (-2)) hx hb hr (fun tZ ht hW => ⟨⟨(-2), (0, f20), rfl, (show 0 ≤ 0 ∧ 0 ≤ 0 from by omega), by rw [ht]; exact hP9, va_K.moved hW.alike hK, hD9⟩, hS.F ht⟩) hS.2.2 dX12_tell_39
  · skip
    have zh_5 : ¬ r_1.toInt = 0 := z_ne h_5
    refine lv_iload_n hx hb dX12_tell_13 rfl (lv_at hl 2 rfl) ?_
    refine lv_i2l (v := p1.toInt64) hx hb dX12_tell_14 rfl ?_
    refine lv_lconst (v := 1) hx hb dX12_tell_15 (by decide) ?_
    refine lv_ldc2 (v := 2) hx hb hown (hts _ tw_9_10) dX12_tell_16 ?_
    have hPc := hP.sub (ws' := []) [] rfl
    have hDc := hD.sub (ws' := []) [] (by decide) rfl
    have hFc := va_free (wc := []) hD hS hA [] rfl
    refine va_calli (va_runS (As := [.long p1.toInt64, .long 1, .long 2]) (rest := []) ⟨hx, hb, hml, hown, hts⟩ (c_X12_in l D k p1.toInt64 1 2 H.size) (va_cwS 3 hts (gS tw_6_188 tw_6_189 tw_1_13 tw_6_190) rfl rfl rfl hdS_X12_in ⟨Nat.le_of_ble_eq_true rfl, Nat.le_of_ble_eq_true rfl⟩) (cz_S hK hPc hDc hN [.long p1.toInt64, .long 1, .long 2]) rfl rfl hl.1 rfl (lv_room (Nat.le_of_ble_eq_true rfl)) dX12_tell_19 ⟨Nat.le_of_ble_eq_true rfl, Nat.le_of_ble_eq_true rfl⟩) hS (fun q _ h => hFc q h) hFc (fun r_6 uZ tZ H1 locs ht hvm hw hB hz1 hk1 hS => ?_)
    obtain ⟨hP1, hK1, hD1⟩ := hB
    rw [ht] at hP1
    obtain ⟨hP, hD⟩ := va_join (wr := [(m20, .inl (k 0, 120, .inl f20)), (mo, .inr (12, [.int 0, .ref m1, .ref m2, .ref m3, .ref m4, .ref m5, .int v6, .int v7, .int v8, .int v9, .int v10, .long v11, .int v12, .int v13, .int v14, .int v15, .ref m16, .ref m17, .ref m18, .ref m19, .ref m20, .ref m21, .ref m22, .ref m23, .int v24, .ref m25, .ref m26, .ref m27, .ref m28, .ref m29, .int v30, .ref m31, .ref m32, .ref m33, .int v34, .int v35, .int v36, .ref m37, .ref m38, .ref m39, .ref m40, .long v41])), (m17, .inl (k 0, 30, .inl f17))]) (w1 := []) hP hD [] [0, 1, 2] rfl rfl (by decide) (by decide) hk1 hFc hP1 hD1
    clear hK1 hP1 hD1 hPc hDc hFc
    clear hk1 hz1 ht hvm
    have hP : va_P D vwCl [(m20, .inl (k 0, 120, .inl f20)), (mo, .inr (12, [.int 0, .ref m1, .ref m2, .ref m3, .ref m4, .ref m5, .int v6, .int v7, .int v8, .int v9, .int v10, .long v11, .int v12, .int v13, .int v14, .int v15, .ref m16, .ref m17, .ref m18, .ref m19, .ref m20, .ref m21, .ref m22, .ref m23, .int v24, .ref m25, .ref m26, .ref m27, .ref m28, .ref m29, .int v30, .ref m31, .ref m32, .ref m33, .int v34, .int v35, .int v36, .ref m37, .ref m38, .ref m39, .ref m40, .long v41])), (m17, .inl (k 0, 30, .inl f17))] H1 := hP
    have hD : va_D A [(m20, .inl (k 0, 120, .inl f20)), (mo, .inr (12, [.int 0, .ref m1, .ref m2, .ref m3, .ref m4, .ref m5, .int v6, .int v7, .int v8, .int v9, .int v10, .long v11, .int v12, .int v13, .int v14, .int v15, .ref m16, .ref m17, .ref m18, .ref m19, .ref m20, .ref m21, .ref m22, .ref m23, .int v24, .ref m25, .ref m26, .ref m27, .ref m28, .ref m29, .int v30, .ref m31, .ref m32, .ref m33, .int v34, .int v35, .int v36, .ref m37, .ref m38, .ref m39, .ref m40, .long v41])), (m17, .inl (k 0, 30, .inl f17))] := hD
    generalize H1 = H at hP hS ⊢
    have hw_7 : (0 ≤ r_6.toInt ∧ r_6.toInt ≤ 1) ∧ ((r_6.toInt = 1 ∧ 1 ≤ p1.toInt64.toInt ∧ p1.toInt64.toInt ≤ 2) ∨ (r_6.toInt = 0 ∧ (p1.toInt64.toInt < 1 ∨ 2 < p1.toInt64.toInt))) := hw
    obtain ⟨hw_8, hw_9⟩ := hw_7
    clear hw
    simp only [Int32.toInt_toInt64] at hw_8 hw_9
    refine lv_if_eq (tgt := 37) hx hb dX12_tell_22 (by decide) (fun h_10 => ?_) (fun h_10 => ?_)
    · skip
      have zh_10 : r_6.toInt = 0 := z_eq h_10
      refine lv_bipush (v := (-2)) hx hb dX12_tell_37 (by decide) ?_
      have hP9 := hP.sub (ws' := [(mo, .inr (12, [.int 0, .ref m1, .ref m2, .ref m3, .ref m4, .ref m5, .int v6, .int v7, .int v8, .int v9, .int v10, .long v11, .int v12, .int v13, .int v14, .int v15, .ref m16, .ref m17, .ref m18, .ref m19, .ref m20, .ref m21, .ref m22, .ref m23, .int v24, .ref m25, .ref m26, .ref m27, .ref m28, .ref m29, .int v30, .ref m31, .ref m32, .ref m33, .int v34, .int v35, .int v36, .ref m37, .ref m38, .ref m39, .ref m40, .long v41])), (m17, .inl (k 0, 30, .inl f17)), (m20, .inl (k 0, 120, .inl f20))]) [1, 2, 0] rfl
      have hD9 := hD.sub (ws' := [(mo, .inr (12, [.int 0, .ref m1, .ref m2, .ref m3, .ref m4, .ref m5, .int v6, .int v7, .int v8, .int v9, .int v10, .long v11, .int v12, .int v13, .int v14, .int v15, .ref m16, .ref m17, .ref m18, .ref m19, .ref m20, .ref m21, .ref m22, .ref m23, .int v24, .ref m25, .ref m26, .ref m27, .ref m28, .ref m29, .int v30, .ref m31, .ref m32, .ref m33, .int v34, .int v35, .int v36, .ref m37, .ref m38, .ref m39, .ref m40, .long v41])), (m17, .inl (k 0, 30, .inl f17)), (m20, .inl (k 0, 120, .inl f20))]) [1, 2, 0] (by decide) rfl
      exact W.iret (v := (-2)) hx hb hr (fun tZ ht hW => ⟨⟨(-2), (0, f20), rfl, (show 0 ≤ 0 ∧ 0 ≤ 0 from by omega), by rw [ht]; exact hP9, va_K.moved hW.alike hK, hD9⟩, hS.F ht⟩) hS.2.2 dX12_tell_39
    · skip
      have zh_10 : ¬ r_6.toInt = 0 := z_ne h_10
      refine lv_iload_n hx hb dX12_tell_25 rfl (lv_at hl 3 rfl) ?_
      refine lv_i2l (v := p2.toInt64) hx hb dX12_tell_26 rfl ?_
      refine lv_lconst (v := 0) hx hb dX12_tell_27 (by decide) ?_
      refine lv_ldc2 (v := 999) hx hb hown (hts _ tw_7_188) dX12_tell_28 ?_
      have hPc := hP.sub (ws' := []) [] rfl
      have hDc := hD.sub (ws' := []) [] (by decide) rfl
      have hFc := va_free (wc := []) hD hS hA [] rfl
      refine va_calli (va_runS (As := [.long p2.toInt64, .long 0, .long 999]) (rest := []) ⟨hx, hb, hml, hown, hts⟩ (c_X12_in l D k p2.toInt64 0 999 H.size) (va_cwS 3 hts (gS tw_6_188 tw_6_189 tw_1_13 tw_6_190) rfl rfl rfl hdS_X12_in ⟨Nat.le_of_ble_eq_true rfl, Nat.le_of_ble_eq_true rfl⟩) (cz_S hK hPc hDc hN [.long p2.toInt64, .long 0, .long 999]) rfl rfl hl.1 rfl (lv_room (Nat.le_of_ble_eq_true rfl)) dX12_tell_31 ⟨Nat.le_of_ble_eq_true rfl, Nat.le_of_ble_eq_true rfl⟩) hS (fun q _ h => hFc q h) hFc (fun r_11 uZ tZ H1 locs ht hvm hw hB hz1 hk1 hS => ?_)
      obtain ⟨hP1, hK1, hD1⟩ := hB
      rw [ht] at hP1
      obtain ⟨hP, hD⟩ := va_join (wr := [(m20, .inl (k 0, 120, .inl f20)), (mo, .inr (12, [.int 0, .ref m1, .ref m2, .ref m3, .ref m4, .ref m5, .int v6, .int v7, .int v8, .int v9, .int v10, .long v11, .int v12, .int v13, .int v14, .int v15, .ref m16, .ref m17, .ref m18, .ref m19, .ref m20, .ref m21, .ref m22, .ref m23, .int v24, .ref m25, .ref m26, .ref m27, .ref m28, .ref m29, .int v30, .ref m31, .ref m32, .ref m33, .int v34, .int v35, .int v36, .ref m37, .ref m38, .ref m39, .ref m40, .long v41])), (m17, .inl (k 0, 30, .inl f17))]) (w1 := []) hP hD [] [0, 1, 2] rfl rfl (by decide) (by decide) hk1 hFc hP1 hD1
      clear hK1 hP1 hD1 hPc hDc hFc
      clear hk1 hz1 ht hvm
      have hP : va_P D vwCl [(m20, .inl (k 0, 120, .inl f20)), (mo, .inr (12, [.int 0, .ref m1, .ref m2, .ref m3, .ref m4, .ref m5, .int v6, .int v7, .int v8, .int v9, .int v10, .long v11, .int v12, .int v13, .int v14, .int v15, .ref m16, .ref m17, .ref m18, .ref m19, .ref m20, .ref m21, .ref m22, .ref m23, .int v24, .ref m25, .ref m26, .ref m27, .ref m28, .ref m29, .int v30, .ref m31, .ref m32, .ref m33, .int v34, .int v35, .int v36, .ref m37, .ref m38, .ref m39, .ref m40, .long v41])), (m17, .inl (k 0, 30, .inl f17))] H1 := hP
      have hD : va_D A [(m20, .inl (k 0, 120, .inl f20)), (mo, .inr (12, [.int 0, .ref m1, .ref m2, .ref m3, .ref m4, .ref m5, .int v6, .int v7, .int v8, .int v9, .int v10, .long v11, .int v12, .int v13, .int v14, .int v15, .ref m16, .ref m17, .ref m18, .ref m19, .ref m20, .ref m21, .ref m22, .ref m23, .int v24, .ref m25, .ref m26, .ref m27, .ref m28, .ref m29, .int v30, .ref m31, .ref m32, .ref m33, .int v34, .int v35, .int v36, .ref m37, .ref m38, .ref m39, .ref m40, .long v41])), (m17, .inl (k 0, 30, .inl f17))] := hD
      generalize H1 = H at hP hS ⊢
      have hw_12 : (0 ≤ r_11.toInt ∧ r_11.toInt ≤ 1) ∧ ((r_11.toInt = 1 ∧ 0 ≤ p2.toInt64.toInt ∧ p2.toInt64.toInt ≤ 999) ∨ (r_11.toInt = 0 ∧ (p2.toInt64.toInt < 0 ∨ 999 < p2.toInt64.toInt))) := hw
      obtain ⟨hw_13, hw_14⟩ := hw_12
      clear hw
      simp only [Int32.toInt_toInt64] at hw_13 hw_14
      refine lv_if_ne (tgt := 40) hx hb dX12_tell_34 (by decide) (fun h_15 => ?_) (fun h_15 => ?_)
      · skip
        have zh_15 : ¬ r_11.toInt = 0 := z_ne h_15
        refine lv_aload_n hx hb dX12_tell_40 rfl (lv_at hl 0 rfl) ?_
        refine va_get (D := D) (ci := 12) (v := .ref m17) (C := RX12) (T := TX12) (N := 42) hx hb hts iT_X12 hown hK hP 1 rfl rfl 17 (by decide) (hts _ tw_6_70) (fun _ h9 => h9) rfl dX12_tell_41 ?_
        refine lv_iconst (v := 5) hx hb dX12_tell_44 (by decide) ?_
        refine va_iald hx hb hK hP 2 0 rfl rfl (z_in (by decide) (by decide)) dX12_tell_45 ?_
        refine lv_topi (fun x_16 ex_16 => ?_)
        have zx_16r5 : 0 ≤ x_16.toInt ∧ x_16.toInt ≤ 40 := by rw [ex_16]; exact PR.ld hp_f17_5 (by decide) (by decide) (by decide)
        refine lv_if_le (tgt := 52) hx hb dX12_tell_46 (by decide) (fun h_17 => ?_) (fun h_17 => ?_)
        · skip
          have zh_17 : x_16.toInt ≤ 0 := z_le h_17
          refine lv_aload_n hx hb dX12_tell_52 rfl (lv_at hl 0 rfl) ?_
          refine va_get (D := D) (ci := 12) (v := .ref m20) (C := RX12) (T := TX12) (N := 42) hx hb hts iT_X12 hown hK hP 1 rfl rfl 20 (by decide) (hts _ tw_6_73) (fun _ h9 => h9) rfl dX12_tell_53 ?_
          refine lv_iconst (v := 4) hx hb dX12_tell_56 (by decide) ?_
          refine lv_iload_n hx hb dX12_tell_57 rfl (lv_at hl 1 rfl) ?_
          refine lv_imul hx hb dX12_tell_58 ?_
          refine lv_topi (fun x_18 ex_18 => ?_)
          have zx_18 : x_18.toInt = 4 * p0.toInt := by rw [ex_18]; exact z_mul rfl rfl (by omega) (by omega)
          refine lv_iload_n hx hb dX12_tell_59 rfl (lv_at hl 2 rfl) ?_
          refine lv_iadd hx hb dX12_tell_60 ?_
          refine lv_topi (fun x_19 ex_19 => ?_)
          have zx_19 : x_19.toInt = x_18.toInt + p1.toInt := by rw [ex_19]; exact z_add rfl rfl (by omega) (by omega)
          refine va_iald hx hb hK hP 0 0 rfl rfl (z_in (by omega) (by omega)) dX12_tell_61 ?_
          refine lv_topi (fun x_20 ex_20 => ?_)
          refine lv_istore (lv' := [(4, .int x_20), (0, .ref mo), (1, .int p0), (2, .int p1), (3, .int p2)]) hx hb dX12_tell_62 hl (by decide) rfl (fun ls hl => ?_)
          refine lv_aload_n hx hb dX12_tell_64 rfl (lv_at hl 1 rfl) ?_
          refine va_get (D := D) (ci := 12) (v := .ref m20) (C := RX12) (T := TX12) (N := 42) hx hb hts iT_X12 hown hK hP 1 rfl rfl 20 (by decide) (hts _ tw_6_73) (fun _ h9 => h9) rfl dX12_tell_65 ?_
          refine lv_iconst (v := 4) hx hb dX12_tell_68 (by decide) ?_
          refine lv_iload_n hx hb dX12_tell_69 rfl (lv_at hl 2 rfl) ?_
          refine lv_imul hx hb dX12_tell_70 ?_
          refine lv_topi (fun x_21 ex_21 => ?_)
          obtain rfl : x_18 = x_21 := ex_18.trans ex_21.symm
          refine lv_iload_n hx hb dX12_tell_71 rfl (lv_at hl 3 rfl) ?_
          refine lv_iadd hx hb dX12_tell_72 ?_
          refine lv_topi (fun x_22 ex_22 => ?_)
          obtain rfl : x_19 = x_22 := ex_19.trans ex_22.symm
          refine lv_iload_n hx hb dX12_tell_73 rfl (lv_at hl 4 rfl) ?_
          refine va_iast hx hb hK hP hD hS 0 0 rfl rfl (z_in (by omega) (by omega)) dX12_tell_74 (fun H locs hP hD hS => ?_)
          obtain ⟨g_23, eg_23⟩ : ∃ z : Nat → Int32, upd f20 x_19.toNatClampNeg p2 = z := ⟨_, rfl⟩
          have hP : va_P D vwCl [(m20, .inl (k 0, 120, .inl (upd f20 x_19.toNatClampNeg p2))), (mo, .inr (12, [.int 0, .ref m1, .ref m2, .ref m3, .ref m4, .ref m5, .int v6, .int v7, .int v8, .int v9, .int v10, .long v11, .int v12, .int v13, .int v14, .int v15, .ref m16, .ref m17, .ref m18, .ref m19, .ref m20, .ref m21, .ref m22, .ref m23, .int v24, .ref m25, .ref m26, .ref m27, .ref m28, .ref m29, .int v30, .ref m31, .ref m32, .ref m33, .int v34, .int v35, .int v36, .ref m37, .ref m38, .ref m39, .ref m40, .long v41])), (m17, .inl (k 0, 30, .inl f17))] H := hP
          have hD : va_D A [(m20, .inl (k 0, 120, .inl (upd f20 x_19.toNatClampNeg p2))), (mo, .inr (12, [.int 0, .ref m1, .ref m2, .ref m3, .ref m4, .ref m5, .int v6, .int v7, .int v8, .int v9, .int v10, .long v11, .int v12, .int v13, .int v14, .int v15, .ref m16, .ref m17, .ref m18, .ref m19, .ref m20, .ref m21, .ref m22, .ref m23, .int v24, .ref m25, .ref m26, .ref m27, .ref m28, .ref m29, .int v30, .ref m31, .ref m32, .ref m33, .int v34, .int v35, .int v36, .ref m37, .ref m38, .ref m39, .ref m40, .long v41])), (m17, .inl (k 0, 30, .inl f17))] := hD
          rw [eg_23] at hP hD
          have hp_24 : PR 120 4 0 0 999 g_23 := by rw [← eg_23]; exact PR.put (PR.wk hp_f20_0 (by decide) (by decide)) ⟨by omega, by omega⟩
          refine lv_iload hx hb dX12_tell_75 (lv_at hl 0 rfl) ?_
          have hP9 := hP.sub (ws' := [(mo, .inr (12, [.int 0, .ref m1, .ref m2, .ref m3, .ref m4, .ref m5, .int v6, .int v7, .int v8, .int v9, .int v10, .long v11, .int v12, .int v13, .int v14, .int v15, .ref m16, .ref m17, .ref m18, .ref m19, .ref m20, .ref m21, .ref m22, .ref m23, .int v24, .ref m25, .ref m26, .ref m27, .ref m28, .ref m29, .int v30, .ref m31, .ref m32, .ref m33, .int v34, .int v35, .int v36, .ref m37, .ref m38, .ref m39, .ref m40, .long v41])), (m17, .inl (k 0, 30, .inl f17)), (m20, .inl (k 0, 120, .inl g_23))]) [1, 2, 0] rfl
          have hD9 := hD.sub (ws' := [(mo, .inr (12, [.int 0, .ref m1, .ref m2, .ref m3, .ref m4, .ref m5, .int v6, .int v7, .int v8, .int v9, .int v10, .long v11, .int v12, .int v13, .int v14, .int v15, .ref m16, .ref m17, .ref m18, .ref m19, .ref m20, .ref m21, .ref m22, .ref m23, .int v24, .ref m25, .ref m26, .ref m27, .ref m28, .ref m29, .int v30, .ref m31, .ref m32, .ref m33, .int v34, .int v35, .int v36, .ref m37, .ref m38, .ref m39, .ref m40, .long v41])), (m17, .inl (k 0, 30, .inl f17)), (m20, .inl (k 0, 120, .inl g_23))]) [1, 2, 0] (by decide) rfl
          exact W.iret (v := x_20) hx hb hr (fun tZ ht hW => ⟨⟨x_20, (0, g_23), rfl, (show 0 ≤ 0 ∧ 0 ≤ 0 from by omega), by rw [ht]; exact hP9, va_K.moved hW.alike hK, hD9⟩, hS.F ht⟩) hS.2.2 dX12_tell_77
        · skip
          have zh_17 : 0 < x_16.toInt := z_nle h_17
          refine lv_bipush (v := (-5)) hx hb dX12_tell_49 (by decide) ?_
          have hP9 := hP.sub (ws' := [(mo, .inr (12, [.int 0, .ref m1, .ref m2, .ref m3, .ref m4, .ref m5, .int v6, .int v7, .int v8, .int v9, .int v10, .long v11, .int v12, .int v13, .int v14, .int v15, .ref m16, .ref m17, .ref m18, .ref m19, .ref m20, .ref m21, .ref m22, .ref m23, .int v24, .ref m25, .ref m26, .ref m27, .ref m28, .ref m29, .int v30, .ref m31, .ref m32, .ref m33, .int v34, .int v35, .int v36, .ref m37, .ref m38, .ref m39, .ref m40, .long v41])), (m17, .inl (k 0, 30, .inl f17)), (m20, .inl (k 0, 120, .inl f20))]) [1, 2, 0] rfl
          have hD9 := hD.sub (ws' := [(mo, .inr (12, [.int 0, .ref m1, .ref m2, .ref m3, .ref m4, .ref m5, .int v6, .int v7, .int v8, .int v9, .int v10, .long v11, .int v12, .int v13, .int v14, .int v15, .ref m16, .ref m17, .ref m18, .ref m19, .ref m20, .ref m21, .ref m22, .ref m23, .int v24, .ref m25, .ref m26, .ref m27, .ref m28, .ref m29, .int v30, .ref m31, .ref m32, .ref m33, .int v34, .int v35, .int v36, .ref m37, .ref m38, .ref m39, .ref m40, .long v41])), (m17, .inl (k 0, 30, .inl f17)), (m20, .inl (k 0, 120, .inl f20))]) [1, 2, 0] (by decide) rfl
          exact W.iret (v := (-5)) hx hb hr (fun tZ ht hW => ⟨⟨(-5), (0, f20), rfl, (show 0 ≤ 0 ∧ 0 ≤ 0 from by omega), by rw [ht]; exact hP9, va_K.moved hW.alike hK, hD9⟩, hS.F ht⟩) hS.2.2 dX12_tell_51
      · skip
        have zh_15 : r_11.toInt = 0 := z_eq h_15
        refine lv_bipush (v := (-2)) hx hb dX12_tell_37 (by decide) ?_
        have hP9 := hP.sub (ws' := [(mo, .inr (12, [.int 0, .ref m1, .ref m2, .ref m3, .ref m4, .ref m5, .int v6, .int v7, .int v8, .int v9, .int v10, .long v11, .int v12, .int v13, .int v14, .int v15, .ref m16, .ref m17, .ref m18, .ref m19, .ref m20, .ref m21, .ref m22, .ref m23, .int v24, .ref m25, .ref m26, .ref m27, .ref m28, .ref m29, .int v30, .ref m31, .ref m32, .ref m33, .int v34, .int v35, .int v36, .ref m37, .ref m38, .ref m39, .ref m40, .long v41])), (m17, .inl (k 0, 30, .inl f17)), (m20, .inl (k 0, 120, .inl f20))]) [1, 2, 0] rfl
        have hD9 := hD.sub (ws' := [(mo, .inr (12, [.int 0, .ref m1, .ref m2, .ref m3, .ref m4, .ref m5, .int v6, .int v7, .int v8, .int v9, .int v10, .long v11, .int v12, .int v13, .int v14, .int v15, .ref m16, .ref m17, .ref m18, .ref m19, .ref m20, .ref m21, .ref m22, .ref m23, .int v24, .ref m25, .ref m26, .ref m27, .ref m28, .ref m29, .int v30, .ref m31, .ref m32, .ref m33, .int v34, .int v35, .int v36, .ref m37, .ref m38, .ref m39, .ref m40, .long v41])), (m17, .inl (k 0, 30, .inl f17)), (m20, .inl (k 0, 120, .inl f20))]) [1, 2, 0] (by decide) rfl
        exact W.iret (v := (-2)) hx hb hr (fun tZ ht hW => ⟨⟨(-2), (0, f20), rfl, (show 0 ≤ 0 ∧ 0 ≤ 0 from by omega), by rw [ht]; exact hP9, va_K.moved hW.alike hK, hD9⟩, hS.F ht⟩) hS.2.2 dX12_tell_39
set_option maxHeartbeats 4000000 in
set_option maxRecDepth 100000 in
theorem c_X12_count (l : Launch) (D : va_G) (k : Nat → ClassId) (mo : Nat) (p0 : Int32) (v0 : Int32) (m1 : Nat) (m2 : Nat) (m3 : Nat) (m4 : Nat) (m5 : Nat) (v6 : Int32) (v7 : Int32) (v8 : Int32) (v9 : Int32) (v10 : Int32) (v11 : Int64) (v12 : Int32) (v13 : Int32) (v14 : Int32) (v15 : Int32) (m16 : Nat) (m17 : Nat) (m18 : Nat) (m19 : Nat) (m20 : Nat) (m21 : Nat) (m22 : Nat) (m23 : Nat) (v24 : Int32) (m25 : Nat) (m26 : Nat) (m27 : Nat) (m28 : Nat) (m29 : Nat) (v30 : Int32) (m31 : Nat) (m32 : Nat) (m33 : Nat) (v34 : Int32) (v35 : Int32) (v36 : Int32) (m37 : Nat) (m38 : Nat) (m39 : Nat) (m40 : Nat) (v41 : Int64) (f1 : Nat → Int32) (f16 : Nat → Int32) (f17 : Nat → Int32) (sz : Nat) (h_v6 : 0 ≤ v6.toInt ∧ v6.toInt ≤ 1000) (h_v24 : 0 ≤ v24.toInt ∧ v24.toInt ≤ 1023) (hp_f1_0 : PR 4 1 0 (-1) 3 f1) (hp_f17_0 : PR 30 6 0 0 8 f17) (hp_f17_1 : PR 30 6 1 0 10 f17) (hp_f17_2 : PR 30 6 2 0 4 f17) (hp_f17_3 : PR 30 6 3 0 6 f17) (hp_f17_4 : PR 30 6 4 0 2 f17) (hp_f17_5 : PR 30 6 5 0 40 f17) : Met l yX12_count (ww yX12_count cX12_count 4 (some .int)) ({ frames := 1, cells := 0, slots := 0, locals := 25 }) (Pre0 D k [(mo, .inr (12, [.int v0, .ref m1, .ref m2, .ref m3, .ref m4, .ref m5, .int v6, .int v7, .int v8, .int v9, .int v10, .long v11, .int v12, .int v13, .int v14, .int v15, .ref m16, .ref m17, .ref m18, .ref m19, .ref m20, .ref m21, .ref m22, .ref m23, .int v24, .ref m25, .ref m26, .ref m27, .ref m28, .ref m29, .int v30, .ref m31, .ref m32, .ref m33, .int v34, .int v35, .int v36, .ref m37, .ref m38, .ref m39, .ref m40, .long v41])), (m1, .inl (k 0, 4, .inl f1)), (m16, .inl (k 0, 5, .inl f16)), (m17, .inl (k 0, 30, .inl f17))] sz [.ref mo, .int p0]) (va_Qi (fun (r : Int32) (v0z : Int32) => (0 ≤ v0z.toInt ∧ v0z.toInt ≤ 0)) (fun (v0z : Int32) tZ => Bw D k (va_A [(mo, .inr (12, [.int v0, .ref m1, .ref m2, .ref m3, .ref m4, .ref m5, .int v6, .int v7, .int v8, .int v9, .int v10, .long v11, .int v12, .int v13, .int v14, .int v15, .ref m16, .ref m17, .ref m18, .ref m19, .ref m20, .ref m21, .ref m22, .ref m23, .int v24, .ref m25, .ref m26, .ref m27, .ref m28, .ref m29, .int v30, .ref m31, .ref m32, .ref m33, .int v34, .int v35, .int v36, .ref m37, .ref m38, .ref m39, .ref m40, .long v41])), (m1, .inl (k 0, 4, .inl f1)), (m16, .inl (k 0, 5, .inl f16)), (m17, .inl (k 0, 30, .inl f17))] sz) [(mo, .inr (12, [.int v0z, .ref m1, .ref m2, .ref m3, .ref m4, .ref m5, .int v6, .int v7, .int v8, .int v9, .int v10, .long v11, .int v12, .int v13, .int v14, .int v15, .ref m16, .ref m17, .ref m18, .ref m19, .ref m20, .ref m21, .ref m22, .ref m23, .int v24, .ref m25, .ref m26, .ref m27, .ref m28, .ref m29, .int v30, .ref m31, .ref m32, .ref m33, .int v34, .int v35, .int v36, .ref m37, .ref m38, .ref m39, .ref m40, .long v41])), (m1, .inl (k 0, 4, .inl f1)), (m16, .inl (k 0, 5, .inl f16)), (m17, .inl (k 0, 30, .inl f17))] tZ) (va_A [(mo, .inr (12, [.int v0, .ref m1, .ref m2, .ref m3, .ref m4, .ref m5, .int v6, .int v7, .int v8, .int v9, .int v10, .long v11, .int v12, .int v13, .int v14, .int v15, .ref m16, .ref m17, .ref m18, .ref m19, .ref m20, .ref m21, .ref m22, .ref m23, .int v24, .ref m25, .ref m26, .ref m27, .ref m28, .ref m29, .int v30, .ref m31, .ref m32, .ref m33, .int v34, .int v35, .int v36, .ref m37, .ref m38, .ref m39, .ref m40, .long v41])), (m1, .inl (k 0, 4, .inl f1)), (m16, .inl (k 0, 5, .inl f16)), (m17, .inl (k 0, 30, .inl f17))] sz)) 0 0 (va_A [(mo, .inr (12, [.int v0, .ref m1, .ref m2, .ref m3, .ref m4, .ref m5, .int v6, .int v7, .int v8, .int v9, .int v10, .long v11, .int v12, .int v13, .int v14, .int v15, .ref m16, .ref m17, .ref m18, .ref m19, .ref m20, .ref m21, .ref m22, .ref m23, .int v24, .ref m25, .ref m26, .ref m27, .ref m28, .ref m29, .int v30, .ref m31, .ref m32, .ref m33, .int v34, .int v35, .int v36, .ref m37, .ref m38, .ref m39, .ref m40, .long v41])), (m1, .inl (k 0, 4, .inl f1)), (m16, .inl (k 0, 5, .inl f16)), (m17, .inl (k 0, 30, .inl f17))] sz) := by
  refine Met.ofW (cc := cX12_count) (maxL := 4) (ret := (some .int)) (by decide +kernel) rfl ?_
  intro p e s m args below meth c s₁ B hml hv
  obtain ⟨rfl, hsz, hP, hK, hD0, hN⟩ := hv
  have hx := B.exec
  have hb := B.bytes
  have hr := B.returns
  have hts : ∀ w ∈ TT, w.before _ s = true := fun w h => atoms_spec (ws := ww yX12_count cX12_count 4 (some .int)) B.pre w (List.mem_cons_of_mem _ h)
  have hown : s.vm.findClass RX12 = some m.cls := findClass_of_methodNamed B.named
  have hlocks := B.notSynchronized
  subst hsz
  have hD := hD0.self (sz := s.heap.size)
  generalize hAe : va_A [(mo, .inr (12, [.int v0, .ref m1, .ref m2, .ref m3, .ref m4, .ref m5, .int v6, .int v7, .int v8, .int v9, .int v10, .long v11, .int v12, .int v13, .int v14, .int v15, .ref m16, .ref m17, .ref m18, .ref m19, .ref m20, .ref m21, .ref m22, .ref m23, .int v24, .ref m25, .ref m26, .ref m27, .ref m28, .ref m29, .int v30, .ref m31, .ref m32, .ref m33, .int v34, .int v35, .int v36, .ref m37, .ref m38, .ref m39, .ref m40, .long v41])), (m1, .inl (k 0, 4, .inl f1)), (m16, .inl (k 0, 5, .inl f16)), (m17, .inl (k 0, 30, .inl f17))] s.heap.size = A at hD ⊢
  have hA : ∀ q : Nat, s.heap.size ≤ q → A q := fun q h => by rw [← hAe]; exact Or.inr h
  have hS : va_S A s.heap s.heap [] := va_S.rf
  have hl := lv_entry ([.ref mo, .int p0]) (n := 4) (Nat.le_of_ble_eq_true rfl)
  rw [lg_entry_eq]
  generalize (lg_sl ([.ref mo, .int p0]) ++ List.replicate (4 - (lg_sl ([.ref mo, .int p0])).length) Slot.unset).toArray = ls at hl ⊢
  have hl : lv_has ls 4 [(0, .ref mo), (1, .int p0)] := hl
  refine lv_aload_n hx hb dX12_count_0 rfl (lv_at hl 0 rfl) ?_
  refine lv_iconst (v := 0) hx hb dX12_count_1 (by decide) ?_
  refine va_put (D := D) (ci := 12) (v := .int 0) (ty := tyX12 0) (C := RX12) (T := TX12) (N := 42) hx hb hts iT_X12 tyX12 tyX12_ok nmX12 hown hK hP hD hS 0 rfl rfl 0 (by decide) (hts _ tw_6_53) (fun _ h9 => h9) rfl (tyX12_ok 0 (by decide)) rfl rfl (Nat.le_of_ble_eq_true rfl) dX12_count_2 (fun H locs hP hD hS => ?_)
  have hP : va_P D vwCl [(mo, .inr (12, [.int 0, .ref m1, .ref m2, .ref m3, .ref m4, .ref m5, .int v6, .int v7, .int v8, .int v9, .int v10, .long v11, .int v12, .int v13, .int v14, .int v15, .ref m16, .ref m17, .ref m18, .ref m19, .ref m20, .ref m21, .ref m22, .ref m23, .int v24, .ref m25, .ref m26, .ref m27, .ref m28, .ref m29, .int v30, .ref m31, .ref m32, .ref m33, .int v34, .int v35, .int v36, .ref m37, .ref m38, .ref m39, .ref m40, .long v41])), (m1, .inl (k 0, 4, .inl f1)), (m16, .inl (k 0, 5, .inl f16)), (m17, .inl (k 0, 30, .inl f17))] H := hP
  have hD : va_D A [(mo, .inr (12, [.int 0, .ref m1, .ref m2, .ref m3, .ref m4, .ref m5, .int v6, .int v7, .int v8, .int v9, .int v10, .long v11, .int v12, .int v13, .int v14, .int v15, .ref m16, .ref m17, .ref m18, .ref m19, .ref m20, .ref m21, .ref m22, .ref m23, .int v24, .ref m25, .ref m26, .ref m27, .ref m28, .ref m29, .int v30, .ref m31, .ref m32, .ref m33, .int v34, .int v35, .int v36, .ref m37, .ref m38, .ref m39, .ref m40, .long v41])), (m1, .inl (k 0, 4, .inl f1)), (m16, .inl (k 0, 5, .inl f16)), (m17, .inl (k 0, 30, .inl f17))] := hD
  refine lv_iload_n hx hb dX12_count_5 rfl (lv_at hl 1 rfl) ?_
  refine lv_i2l (v := p0.toInt64) hx hb dX12_count_6 rfl ?_
  refine lv_lconst (v := 0) hx hb dX12_count_7 (by decide) ?_
  refine lv_ldc2 (v := 5) hx hb hown (hts _ tw_9_15) dX12_count_8 ?_
  have hPc := hP.sub (ws' := []) [] rfl
  have hDc := hD.sub (ws' := []) [] (by decide) rfl
  have hFc := va_free (wc := []) hD hS hA [] rfl
  refine va_calli (va_runS (As := [.long p0.toInt64, .long 0, .long 5]) (rest := []) ⟨hx, hb, hml, hown, hts⟩ (c_X12_in l D k p0.toInt64 0 5 H.size) (va_cwS 3 hts (gS tw_6_188 tw_6_189 tw_1_13 tw_6_190) rfl rfl rfl hdS_X12_in ⟨Nat.le_of_ble_eq_true rfl, Nat.le_of_ble_eq_true rfl⟩) (cz_S hK hPc hDc hN [.long p0.toInt64, .long 0, .long 5]) rfl rfl hl.1 rfl (lv_room (Nat.le_of_ble_eq_true rfl)) dX12_count_11 ⟨Nat.le_of_ble_eq_true rfl, Nat.le_of_ble_eq_true rfl⟩) hS (fun q _ h => hFc q h) hFc (fun r_1 uZ tZ H1 locs ht hvm hw hB hz1 hk1 hS => ?_)
  obtain ⟨hP1, hK1, hD1⟩ := hB
  rw [ht] at hP1
  obtain ⟨hP, hD⟩ := va_join (wr := [(mo, .inr (12, [.int 0, .ref m1, .ref m2, .ref m3, .ref m4, .ref m5, .int v6, .int v7, .int v8, .int v9, .int v10, .long v11, .int v12, .int v13, .int v14, .int v15, .ref m16, .ref m17, .ref m18, .ref m19, .ref m20, .ref m21, .ref m22, .ref m23, .int v24, .ref m25, .ref m26, .ref m27, .ref m28, .ref m29, .int v30, .ref m31, .ref m32, .ref m33, .int v34, .int v35, .int v36, .ref m37, .ref m38, .ref m39, .ref m40, .long v41])), (m1, .inl (k 0, 4, .inl f1)), (m16, .inl (k 0, 5, .inl f16)), (m17, .inl (k 0, 30, .inl f17))]) (w1 := []) hP hD [] [0, 1, 2, 3] rfl rfl (by decide) (by decide) hk1 hFc hP1 hD1
  clear hK1 hP1 hD1 hPc hDc hFc
  clear hk1 hz1 ht hvm
  have hP : va_P D vwCl [(mo, .inr (12, [.int 0, .ref m1, .ref m2, .ref m3, .ref m4, .ref m5, .int v6, .int v7, .int v8, .int v9, .int v10, .long v11, .int v12, .int v13, .int v14, .int v15, .ref m16, .ref m17, .ref m18, .ref m19, .ref m20, .ref m21, .ref m22, .ref m23, .int v24, .ref m25, .ref m26, .ref m27, .ref m28, .ref m29, .int v30, .ref m31, .ref m32, .ref m33, .int v34, .int v35, .int v36, .ref m37, .ref m38, .ref m39, .ref m40, .long v41])), (m1, .inl (k 0, 4, .inl f1)), (m16, .inl (k 0, 5, .inl f16)), (m17, .inl (k 0, 30, .inl f17))] H1 := hP
  have hD : va_D A [(mo, .inr (12, [.int 0, .ref m1, .ref m2, .ref m3, .ref m4, .ref m5, .int v6, .int v7, .int v8, .int v9, .int v10, .long v11, .int v12, .int v13, .int v14, .int v15, .ref m16, .ref m17, .ref m18, .ref m19, .ref m20, .ref m21, .ref m22, .ref m23, .int v24, .ref m25, .ref m26, .ref m27, .ref m28, .ref m29, .int v30, .ref m31, .ref m32, .ref m33, .int v34, .int v35, .int v36, .ref m37, .ref m38, .ref m39, .ref m40, .long v41])), (m1, .inl (k 0, 4, .inl f1)), (m16, .inl (k 0, 5, .inl f16)), (m17, .inl (k 0, 30, .inl f17))] := hD
  generalize H1 = H at hP hS ⊢
  have hw_2 : (0 ≤ r_1.toInt ∧ r_1.toInt ≤ 1) ∧ ((r_1.toInt = 1 ∧ 0 ≤ p0.toInt64.toInt ∧ p0.toInt64.toInt ≤ 5) ∨ (r_1.toInt = 0 ∧ (p0.toInt64.toInt < 0 ∨ 5 < p0.toInt64.toInt))) := hw
  obtain ⟨hw_3, hw_4⟩ := hw_2
  clear hw
  simp only [Int32.toInt_toInt64] at hw_3 hw_4
  refine lv_if_eq (tgt := 24) hx hb dX12_count_14 (by decide) (fun h_5 => ?_) (fun h_5 => ?_)
  · skip
    have zh_5 : r_1.toInt = 0 := z_eq h_5
    refine lv_iconst (v := 0) hx hb dX12_count_24 (by decide) ?_
    refine lv_istore_n (lv' := [(2, .int 0), (0, .ref mo), (1, .int p0)]) hx hb dX12_count_25 rfl hl (by decide) rfl (fun ls hl => ?_)
    refine lv_iload_n hx hb dX12_count_26 rfl (lv_at hl 2 rfl) ?_
    by_cases h_6 : p0 = 6
    · skip
      refine lv_tableIn (off := 25) (tgt := 52) hx hb dX12_count_27 (by rw [h_6]; decide) (by rw [h_6]; decide) (by rw [h_6]; decide) (by decide) ?_
      have zh_6 : p0.toInt = 6 := z_eq h_6
      refine lv_aload_n hx hb dX12_count_52 rfl (lv_at hl 1 rfl) ?_
      refine va_get (D := D) (ci := 12) (v := .ref m16) (C := RX12) (T := TX12) (N := 42) hx hb hts iT_X12 hown hK hP 0 rfl rfl 16 (by decide) (hts _ tw_6_69) (fun _ h9 => h9) rfl dX12_count_53 ?_
      refine lv_iconst (v := 0) hx hb dX12_count_56 (by decide) ?_
      refine va_iald hx hb hK hP 2 0 rfl rfl (z_in (by decide) (by decide)) dX12_count_57 ?_
      refine lv_topi (fun x_7 ex_7 => ?_)
      have hP9 := hP.sub (ws' := [(mo, .inr (12, [.int 0, .ref m1, .ref m2, .ref m3, .ref m4, .ref m5, .int v6, .int v7, .int v8, .int v9, .int v10, .long v11, .int v12, .int v13, .int v14, .int v15, .ref m16, .ref m17, .ref m18, .ref m19, .ref m20, .ref m21, .ref m22, .ref m23, .int v24, .ref m25, .ref m26, .ref m27, .ref m28, .ref m29, .int v30, .ref m31, .ref m32, .ref m33, .int v34, .int v35, .int v36, .ref m37, .ref m38, .ref m39, .ref m40, .long v41])), (m1, .inl (k 0, 4, .inl f1)), (m16, .inl (k 0, 5, .inl f16)), (m17, .inl (k 0, 30, .inl f17))]) [0, 1, 2, 3] rfl
      have hD9 := hD.sub (ws' := [(mo, .inr (12, [.int 0, .ref m1, .ref m2, .ref m3, .ref m4, .ref m5, .int v6, .int v7, .int v8, .int v9, .int v10, .long v11, .int v12, .int v13, .int v14, .int v15, .ref m16, .ref m17, .ref m18, .ref m19, .ref m20, .ref m21, .ref m22, .ref m23, .int v24, .ref m25, .ref m26, .ref m27, .ref m28, .ref m29, .int v30, .ref m31, .ref m32, .ref m33, .int v34, .int v35, .int v36, .ref m37, .ref m38, .ref m39, .ref m40, .long v41])), (m1, .inl (k 0, 4, .inl f1)), (m16, .inl (k 0, 5, .inl f16)), (m17, .inl (k 0, 30, .inl f17))]) [0, 1, 2, 3] (by decide) rfl
      exact W.iret (v := x_7) hx hb hr (fun tZ ht hW => ⟨⟨x_7, 0, rfl, (show 0 ≤ 0 ∧ 0 ≤ 0 from by omega), by rw [ht]; exact hP9, va_K.moved hW.alike hK, hD9⟩, hS.F ht⟩) hS.2.2 dX12_count_58
    have zh_6 : ¬ p0.toInt = 6 := z_ne h_6
    by_cases h_8 : p0 = 7
    · skip
      refine lv_tableIn (off := 32) (tgt := 59) hx hb dX12_count_27 (by rw [h_8]; decide) (by rw [h_8]; decide) (by rw [h_8]; decide) (by decide) ?_
      have zh_8 : p0.toInt = 7 := z_eq h_8
      refine lv_aload_n hx hb dX12_count_59 rfl (lv_at hl 1 rfl) ?_
      refine va_get (D := D) (ci := 12) (v := .int v6) (C := RX12) (T := TX12) (N := 42) hx hb hts iT_X12 hown hK hP 0 rfl rfl 6 (by decide) (hts _ tw_6_59) (fun _ h9 => h9) rfl dX12_count_60 ?_
      have hP9 := hP.sub (ws' := [(mo, .inr (12, [.int 0, .ref m1, .ref m2, .ref m3, .ref m4, .ref m5, .int v6, .int v7, .int v8, .int v9, .int v10, .long v11, .int v12, .int v13, .int v14, .int v15, .ref m16, .ref m17, .ref m18, .ref m19, .ref m20, .ref m21, .ref m22, .ref m23, .int v24, .ref m25, .ref m26, .ref m27, .ref m28, .ref m29, .int v30, .ref m31, .ref m32, .ref m33, .int v34, .int v35, .int v36, .ref m37, .ref m38, .ref m39, .ref m40, .long v41])), (m1, .inl (k 0, 4, .inl f1)), (m16, .inl (k 0, 5, .inl f16)), (m17, .inl (k 0, 30, .inl f17))]) [0, 1, 2, 3] rfl
      have hD9 := hD.sub (ws' := [(mo, .inr (12, [.int 0, .ref m1, .ref m2, .ref m3, .ref m4, .ref m5, .int v6, .int v7, .int v8, .int v9, .int v10, .long v11, .int v12, .int v13, .int v14, .int v15, .ref m16, .ref m17, .ref m18, .ref m19, .ref m20, .ref m21, .ref m22, .ref m23, .int v24, .ref m25, .ref m26, .ref m27, .ref m28, .ref m29, .int v30, .ref m31, .ref m32, .ref m33, .int v34, .int v35, .int v36, .ref m37, .ref m38, .ref m39, .ref m40, .long v41])), (m1, .inl (k 0, 4, .inl f1)), (m16, .inl (k 0, 5, .inl f16)), (m17, .inl (k 0, 30, .inl f17))]) [0, 1, 2, 3] (by decide) rfl
      exact W.iret (v := v6) hx hb hr (fun tZ ht hW => ⟨⟨v6, 0, rfl, (show 0 ≤ 0 ∧ 0 ≤ 0 from by omega), by rw [ht]; exact hP9, va_K.moved hW.alike hK, hD9⟩, hS.F ht⟩) hS.2.2 dX12_count_63
    have zh_8 : ¬ p0.toInt = 7 := z_ne h_8
    by_cases h_9 : p0 = 8
    · skip
      refine lv_tableIn (off := 37) (tgt := 64) hx hb dX12_count_27 (by rw [h_9]; decide) (by rw [h_9]; decide) (by rw [h_9]; decide) (by decide) ?_
      have zh_9 : p0.toInt = 8 := z_eq h_9
      refine lv_iconst (v := 0) hx hb dX12_count_64 (by decide) ?_
      refine lv_istore_n (lv' := [(3, .int 0), (2, .int 0), (0, .ref mo), (1, .int p0)]) hx hb dX12_count_65 rfl hl (by decide) rfl (fun ls hl => ?_)
      refine loop_r (Wg := fun H locs ls => W p l e _ s m _ below meth c H locs _ _ _ (F0 m 66 ls [])) (fun n9 H locs ls => ∃ (L66l2 : Int32) (L66l3 : Int32), n9 = (4 - L66l3.toInt).toNat ∧ (0 ≤ L66l3.toInt ∧ L66l3.toInt ≤ 4) ∧ va_P D vwCl [(mo, .inr (12, [.int 0, .ref m1, .ref m2, .ref m3, .ref m4, .ref m5, .int v6, .int v7, .int v8, .int v9, .int v10, .long v11, .int v12, .int v13, .int v14, .int v15, .ref m16, .ref m17, .ref m18, .ref m19, .ref m20, .ref m21, .ref m22, .ref m23, .int v24, .ref m25, .ref m26, .ref m27, .ref m28, .ref m29, .int v30, .ref m31, .ref m32, .ref m33, .int v34, .int v35, .int v36, .ref m37, .ref m38, .ref m39, .ref m40, .long v41])), (m1, .inl (k 0, 4, .inl f1)), (m16, .inl (k 0, 5, .inl f16)), (m17, .inl (k 0, 30, .inl f17))] H ∧ va_D A [(mo, .inr (12, [.int 0, .ref m1, .ref m2, .ref m3, .ref m4, .ref m5, .int v6, .int v7, .int v8, .int v9, .int v10, .long v11, .int v12, .int v13, .int v14, .int v15, .ref m16, .ref m17, .ref m18, .ref m19, .ref m20, .ref m21, .ref m22, .ref m23, .int v24, .ref m25, .ref m26, .ref m27, .ref m28, .ref m29, .int v30, .ref m31, .ref m32, .ref m33, .int v34, .int v35, .int v36, .ref m37, .ref m38, .ref m39, .ref m40, .long v41])), (m1, .inl (k 0, 4, .inl f1)), (m16, .inl (k 0, 5, .inl f16)), (m17, .inl (k 0, 30, .inl f17))] ∧ va_S A s.heap H locs ∧ lv_has ls 4 [(0, .ref mo), (1, .int p0), (2, .int L66l2), (3, .int L66l3)]) (fun n9 H locs ls hI ih_10 => ?_) _ _ _ _ ⟨0, 0, rfl, (show 0 ≤ 0 ∧ 0 ≤ 4 from by omega), hP.sub (ws' := [(mo, .inr (12, [.int 0, .ref m1, .ref m2, .ref m3, .ref m4, .ref m5, .int v6, .int v7, .int v8, .int v9, .int v10, .long v11, .int v12, .int v13, .int v14, .int v15, .ref m16, .ref m17, .ref m18, .ref m19, .ref m20, .ref m21, .ref m22, .ref m23, .int v24, .ref m25, .ref m26, .ref m27, .ref m28, .ref m29, .int v30, .ref m31, .ref m32, .ref m33, .int v34, .int v35, .int v36, .ref m37, .ref m38, .ref m39, .ref m40, .long v41])), (m1, .inl (k 0, 4, .inl f1)), (m16, .inl (k 0, 5, .inl f16)), (m17, .inl (k 0, 30, .inl f17))]) [0, 1, 2, 3] rfl, hD.sub (ws' := [(mo, .inr (12, [.int 0, .ref m1, .ref m2, .ref m3, .ref m4, .ref m5, .int v6, .int v7, .int v8, .int v9, .int v10, .long v11, .int v12, .int v13, .int v14, .int v15, .ref m16, .ref m17, .ref m18, .ref m19, .ref m20, .ref m21, .ref m22, .ref m23, .int v24, .ref m25, .ref m26, .ref m27, .ref m28, .ref m29, .int v30, .ref m31, .ref m32, .ref m33, .int v34, .int v35, .int v36, .ref m37, .ref m38, .ref m39, .ref m40, .long v41])), (m1, .inl (k 0, 4, .inl f1)), (m16, .inl (k 0, 5, .inl f16)), (m17, .inl (k 0, 30, .inl f17))]) [0, 1, 2, 3] (by decide) rfl, hS, lv_sub hl [2, 3, 1, 0] rfl⟩
      clear hP hD hS hl
      obtain ⟨L66l2, L66l3, en_11, zL66l3, hP, hD, hS, hl⟩ := hI
      refine lv_iload_n hx hb dX12_count_66 rfl (lv_at hl 3 rfl) ?_
      refine lv_iconst (v := 4) hx hb dX12_count_67 (by decide) ?_
      refine lv_icmp_ge (tgt := 95) hx hb dX12_count_68 (by decide) (fun h_12 => ?_) (fun h_12 => ?_)
      · skip
        have zh_12 : 4 ≤ L66l3.toInt := z_le h_12
        refine lv_iload_n hx hb dX12_count_95 rfl (lv_at hl 2 rfl) ?_
        have hP9 := hP.sub (ws' := [(mo, .inr (12, [.int 0, .ref m1, .ref m2, .ref m3, .ref m4, .ref m5, .int v6, .int v7, .int v8, .int v9, .int v10, .long v11, .int v12, .int v13, .int v14, .int v15, .ref m16, .ref m17, .ref m18, .ref m19, .ref m20, .ref m21, .ref m22, .ref m23, .int v24, .ref m25, .ref m26, .ref m27, .ref m28, .ref m29, .int v30, .ref m31, .ref m32, .ref m33, .int v34, .int v35, .int v36, .ref m37, .ref m38, .ref m39, .ref m40, .long v41])), (m1, .inl (k 0, 4, .inl f1)), (m16, .inl (k 0, 5, .inl f16)), (m17, .inl (k 0, 30, .inl f17))]) [0, 1, 2, 3] rfl
        have hD9 := hD.sub (ws' := [(mo, .inr (12, [.int 0, .ref m1, .ref m2, .ref m3, .ref m4, .ref m5, .int v6, .int v7, .int v8, .int v9, .int v10, .long v11, .int v12, .int v13, .int v14, .int v15, .ref m16, .ref m17, .ref m18, .ref m19, .ref m20, .ref m21, .ref m22, .ref m23, .int v24, .ref m25, .ref m26, .ref m27, .ref m28, .ref m29, .int v30, .ref m31, .ref m32, .ref m33, .int v34, .int v35, .int v36, .ref m37, .ref m38, .ref m39, .ref m40, .long v41])), (m1, .inl (k 0, 4, .inl f1)), (m16, .inl (k 0, 5, .inl f16)), (m17, .inl (k 0, 30, .inl f17))]) [0, 1, 2, 3] (by decide) rfl
        exact W.iret (v := L66l2) hx hb hr (fun tZ ht hW => ⟨⟨L66l2, 0, rfl, (show 0 ≤ 0 ∧ 0 ≤ 0 from by omega), by rw [ht]; exact hP9, va_K.moved hW.alike hK, hD9⟩, hS.F ht⟩) hS.2.2 dX12_count_96
      · skip
        have zh_12 : L66l3.toInt < 4 := z_nle h_12
        refine lv_iload_n hx hb dX12_count_71 rfl (lv_at hl 2 rfl) ?_
        refine lv_aload_n hx hb dX12_count_72 rfl (lv_at hl 0 rfl) ?_
        refine va_get (D := D) (ci := 12) (v := .ref m1) (C := RX12) (T := TX12) (N := 42) hx hb hts iT_X12 hown hK hP 0 rfl rfl 1 (by decide) (hts _ tw_6_54) (fun _ h9 => h9) rfl dX12_count_73 ?_
        refine lv_iload_n hx hb dX12_count_76 rfl (lv_at hl 3 rfl) ?_
        refine va_iald hx hb hK hP 1 0 rfl rfl (z_in (by omega) (by omega)) dX12_count_77 ?_
        refine lv_topi (fun x_13 ex_13 => ?_)
        have zx_13r0 : (-1) ≤ x_13.toInt ∧ x_13.toInt ≤ 3 := by rw [ex_13]; exact PR.ld hp_f1_0 (by omega) (by omega) (by omega)
        refine lv_iconst (v := (-1)) hx hb dX12_count_78 (by decide) ?_
        refine lv_icmp_ne (tgt := 86) hx hb dX12_count_79 (by decide) (fun h_14 => ?_) (fun h_14 => ?_)
        · skip
          have zh_14 : ¬ x_13.toInt = (-1) := z_ne h_14
          refine lv_iconst (v := 1) hx hb dX12_count_86 (by decide) ?_
          refine lv_iadd hx hb dX12_count_87 ?_
          refine lv_topi (fun x_15 ex_15 => ?_)
          have zrL66l2 := z_rng L66l2
          refine lv_istore_n (lv' := [(2, .int x_15), (0, .ref mo), (1, .int p0), (3, .int L66l3)]) hx hb dX12_count_88 rfl hl (by decide) rfl (fun ls hl => ?_)
          obtain ⟨x_16, ex_16⟩ : ∃ y : Int32, y = L66l3 + 1 := ⟨_, rfl⟩
          have zx_16 : x_16.toInt = L66l3.toInt + 1 := by rw [ex_16]; exact z_add rfl rfl (by omega) (by omega)
          refine lv_iinc (v := x_16) (lv' := [(3, .int x_16), (2, .int x_15), (0, .ref mo), (1, .int p0)]) hx hb dX12_count_89 hl (k := 3) rfl (by rw [ex_16]; rfl) (by decide) rfl (fun ls hl => ?_)
          refine lv_goto (tgt := 66) hx hb dX12_count_92 (by decide) ?_
          exact ih_10 _ _ _ _ (by omega) ⟨x_15, x_16, rfl, (show 0 ≤ x_16.toInt ∧ x_16.toInt ≤ 4 from by omega), hP.sub (ws' := [(mo, .inr (12, [.int 0, .ref m1, .ref m2, .ref m3, .ref m4, .ref m5, .int v6, .int v7, .int v8, .int v9, .int v10, .long v11, .int v12, .int v13, .int v14, .int v15, .ref m16, .ref m17, .ref m18, .ref m19, .ref m20, .ref m21, .ref m22, .ref m23, .int v24, .ref m25, .ref m26, .ref m27, .ref m28, .ref m29, .int v30, .ref m31, .ref m32, .ref m33, .int v34, .int v35, .int v36, .ref m37, .ref m38, .ref m39, .ref m40, .long v41])), (m1, .inl (k 0, 4, .inl f1)), (m16, .inl (k 0, 5, .inl f16)), (m17, .inl (k 0, 30, .inl f17))]) [0, 1, 2, 3] rfl, hD.sub (ws' := [(mo, .inr (12, [.int 0, .ref m1, .ref m2, .ref m3, .ref m4, .ref m5, .int v6, .int v7, .int v8, .int v9, .int v10, .long v11, .int v12, .int v13, .int v14, .int v15, .ref m16, .ref m17, .ref m18, .ref m19, .ref m20, .ref m21, .ref m22, .ref m23, .int v24, .ref m25, .ref m26, .ref m27, .ref m28, .ref m29, .int v30, .ref m31, .ref m32, .ref m33, .int v34, .int v35, .int v36, .ref m37, .ref m38, .ref m39, .ref m40, .long v41])), (m1, .inl (k 0, 4, .inl f1)), (m16, .inl (k 0, 5, .inl f16)), (m17, .inl (k 0, 30, .inl f17))]) [0, 1, 2, 3] (by decide) rfl, hS, lv_sub hl [2, 3, 1, 0] rfl⟩
        · skip
          have zh_14 : x_13.toInt = (-1) := z_eq h_14
          refine lv_iconst (v := 0) hx hb dX12_count_82 (by decide) ?_
          refine lv_goto (tgt := 87) hx hb dX12_count_83 (by decide) ?_
          refine lv_iadd hx hb dX12_count_87 ?_
          refine lv_topi (fun x_17 ex_17 => ?_)
          have zrL66l2 := z_rng L66l2
          have zx_17 : x_17.toInt = L66l2.toInt + 0 := by rw [ex_17]; exact z_add rfl rfl (by omega) (by omega)
          refine lv_istore_n (lv' := [(2, .int x_17), (0, .ref mo), (1, .int p0), (3, .int L66l3)]) hx hb dX12_count_88 rfl hl (by decide) rfl (fun ls hl => ?_)
          obtain ⟨x_18, ex_18⟩ : ∃ y : Int32, y = L66l3 + 1 := ⟨_, rfl⟩
          have zx_18 : x_18.toInt = L66l3.toInt + 1 := by rw [ex_18]; exact z_add rfl rfl (by omega) (by omega)
          refine lv_iinc (v := x_18) (lv' := [(3, .int x_18), (2, .int x_17), (0, .ref mo), (1, .int p0)]) hx hb dX12_count_89 hl (k := 3) rfl (by rw [ex_18]; rfl) (by decide) rfl (fun ls hl => ?_)
          refine lv_goto (tgt := 66) hx hb dX12_count_92 (by decide) ?_
          exact ih_10 _ _ _ _ (by omega) ⟨x_17, x_18, rfl, (show 0 ≤ x_18.toInt ∧ x_18.toInt ≤ 4 from by omega), hP.sub (ws' := [(mo, .inr (12, [.int 0, .ref m1, .ref m2, .ref m3, .ref m4, .ref m5, .int v6, .int v7, .int v8, .int v9, .int v10, .long v11, .int v12, .int v13, .int v14, .int v15, .ref m16, .ref m17, .ref m18, .ref m19, .ref m20, .ref m21, .ref m22, .ref m23, .int v24, .ref m25, .ref m26, .ref m27, .ref m28, .ref m29, .int v30, .ref m31, .ref m32, .ref m33, .int v34, .int v35, .int v36, .ref m37, .ref m38, .ref m39, .ref m40, .long v41])), (m1, .inl (k 0, 4, .inl f1)), (m16, .inl (k 0, 5, .inl f16)), (m17, .inl (k 0, 30, .inl f17))]) [0, 1, 2, 3] rfl, hD.sub (ws' := [(mo, .inr (12, [.int 0, .ref m1, .ref m2, .ref m3, .ref m4, .ref m5, .int v6, .int v7, .int v8, .int v9, .int v10, .long v11, .int v12, .int v13, .int v14, .int v15, .ref m16, .ref m17, .ref m18, .ref m19, .ref m20, .ref m21, .ref m22, .ref m23, .int v24, .ref m25, .ref m26, .ref m27, .ref m28, .ref m29, .int v30, .ref m31, .ref m32, .ref m33, .int v34, .int v35, .int v36, .ref m37, .ref m38, .ref m39, .ref m40, .long v41])), (m1, .inl (k 0, 4, .inl f1)), (m16, .inl (k 0, 5, .inl f16)), (m17, .inl (k 0, 30, .inl f17))]) [0, 1, 2, 3] (by decide) rfl, hS, lv_sub hl [2, 3, 1, 0] rfl⟩
    have zh_9 : ¬ p0.toInt = 8 := z_ne h_9
    refine lv_tableOut (tgt := 97) hx hb dX12_count_27 (by omega) (by decide) ?_
    refine lv_iconst (v := (-1)) hx hb dX12_count_97 (by decide) ?_
    have hP9 := hP.sub (ws' := [(mo, .inr (12, [.int 0, .ref m1, .ref m2, .ref m3, .ref m4, .ref m5, .int v6, .int v7, .int v8, .int v9, .int v10, .long v11, .int v12, .int v13, .int v14, .int v15, .ref m16, .ref m17, .ref m18, .ref m19, .ref m20, .ref m21, .ref m22, .ref m23, .int v24, .ref m25, .ref m26, .ref m27, .ref m28, .ref m29, .int v30, .ref m31, .ref m32, .ref m33, .int v34, .int v35, .int v36, .ref m37, .ref m38, .ref m39, .ref m40, .long v41])), (m1, .inl (k 0, 4, .inl f1)), (m16, .inl (k 0, 5, .inl f16)), (m17, .inl (k 0, 30, .inl f17))]) [0, 1, 2, 3] rfl
    have hD9 := hD.sub (ws' := [(mo, .inr (12, [.int 0, .ref m1, .ref m2, .ref m3, .ref m4, .ref m5, .int v6, .int v7, .int v8, .int v9, .int v10, .long v11, .int v12, .int v13, .int v14, .int v15, .ref m16, .ref m17, .ref m18, .ref m19, .ref m20, .ref m21, .ref m22, .ref m23, .int v24, .ref m25, .ref m26, .ref m27, .ref m28, .ref m29, .int v30, .ref m31, .ref m32, .ref m33, .int v34, .int v35, .int v36, .ref m37, .ref m38, .ref m39, .ref m40, .long v41])), (m1, .inl (k 0, 4, .inl f1)), (m16, .inl (k 0, 5, .inl f16)), (m17, .inl (k 0, 30, .inl f17))]) [0, 1, 2, 3] (by decide) rfl
    exact W.iret (v := (-1)) hx hb hr (fun tZ ht hW => ⟨⟨(-1), 0, rfl, (show 0 ≤ 0 ∧ 0 ≤ 0 from by omega), by rw [ht]; exact hP9, va_K.moved hW.alike hK, hD9⟩, hS.F ht⟩) hS.2.2 dX12_count_98
  · skip
    have zh_5 : ¬ r_1.toInt = 0 := z_ne h_5
    refine lv_aload_n hx hb dX12_count_17 rfl (lv_at hl 0 rfl) ?_
    refine va_get (D := D) (ci := 12) (v := .ref m17) (C := RX12) (T := TX12) (N := 42) hx hb hts iT_X12 hown hK hP 0 rfl rfl 17 (by decide) (hts _ tw_6_70) (fun _ h9 => h9) rfl dX12_count_18 ?_
    refine lv_iload_n hx hb dX12_count_21 rfl (lv_at hl 1 rfl) ?_
    refine va_iald hx hb hK hP 3 0 rfl rfl (z_in (by omega) (by omega)) dX12_count_22 ?_
    refine lv_topi (fun x_19 ex_19 => ?_)
    have hP9 := hP.sub (ws' := [(mo, .inr (12, [.int 0, .ref m1, .ref m2, .ref m3, .ref m4, .ref m5, .int v6, .int v7, .int v8, .int v9, .int v10, .long v11, .int v12, .int v13, .int v14, .int v15, .ref m16, .ref m17, .ref m18, .ref m19, .ref m20, .ref m21, .ref m22, .ref m23, .int v24, .ref m25, .ref m26, .ref m27, .ref m28, .ref m29, .int v30, .ref m31, .ref m32, .ref m33, .int v34, .int v35, .int v36, .ref m37, .ref m38, .ref m39, .ref m40, .long v41])), (m1, .inl (k 0, 4, .inl f1)), (m16, .inl (k 0, 5, .inl f16)), (m17, .inl (k 0, 30, .inl f17))]) [0, 1, 2, 3] rfl
    have hD9 := hD.sub (ws' := [(mo, .inr (12, [.int 0, .ref m1, .ref m2, .ref m3, .ref m4, .ref m5, .int v6, .int v7, .int v8, .int v9, .int v10, .long v11, .int v12, .int v13, .int v14, .int v15, .ref m16, .ref m17, .ref m18, .ref m19, .ref m20, .ref m21, .ref m22, .ref m23, .int v24, .ref m25, .ref m26, .ref m27, .ref m28, .ref m29, .int v30, .ref m31, .ref m32, .ref m33, .int v34, .int v35, .int v36, .ref m37, .ref m38, .ref m39, .ref m40, .long v41])), (m1, .inl (k 0, 4, .inl f1)), (m16, .inl (k 0, 5, .inl f16)), (m17, .inl (k 0, 30, .inl f17))]) [0, 1, 2, 3] (by decide) rfl
    exact W.iret (v := x_19) hx hb hr (fun tZ ht hW => ⟨⟨x_19, 0, rfl, (show 0 ≤ 0 ∧ 0 ≤ 0 from by omega), by rw [ht]; exact hP9, va_K.moved hW.alike hK, hD9⟩, hS.F ht⟩) hS.2.2 dX12_count_23
